set_option maxHeartbeats 4000000 in
set_option maxRecDepth 100000 in
theorem r_octetG (l : Launch) (D : va_G) (b : Nat) (N : Nat) (V : Wd) (hN : 133 ≤ N) (cl : Nat) (hW : CR D b cl V) (n0 : Int32) (hn0 : ∃ j : Nat, j < 260 ∧ n0 = nI j) (g : Nat → Int32) (hg : V 110 = cB D 260 g) : MI l D b 0 jX12_octet [.ref (b + 100), .int n0] N V 0 0 (fun r N9 V9 => (r = g (Int32.toNatClampNeg n0) &&& 255) ∧ N = N9 ∧ V = V9) := by
  have hJ0 : JR D b N cl [] V V := JR.rf hW
  obtain ⟨i0, hi0, rfl⟩ := hn0
  refine mw_of (by decide) (by simp [Value.category]) (Nat.le_of_ble_eq_true rfl) ?_
  show AW l D b jX12_octet (fx_rm 0 0 0) none (fx_MQ D b 0 0 (fx_qi (fun r N9 V9 => (r = g (Int32.toNatClampNeg (nI i0)) &&& 255) ∧ N = N9 ∧ V = V9))) 0 [some (.ref (b + 100)), some (.int (nI i0))] [] N V 0 0
  refine aw_aload_n dX12_octet_0 rfl ?_
  obtain ⟨ftoldPeople_1, ftoldDoors_1, fwasDoors_1, ffault_1, fopen_1, flines_1, fmeantSet_1, fopenedNow_1, fvainNow_1, flowNow_1, fhighNow_1, fisKept_1, tad_1, pl0_1, le0_1, nu0_1, coy_1, wag_1, say_1, e_1, hntad_1, hnpl0_1, hnle0_1, hnnu0_1, hncoy_1, hnwag_1, hnsay_1⟩ := JR.get hJ0 cm_100
  refine aw_get dX12_octet_1 fl_X12_37 e_1 (by omega) rfl ?_
  refine aw_iload_n dX12_octet_4 rfl ?_
  refine aw_bald (v := (g i0)) dX12_octet_5 hg (by omega) (vp_in_nI (n := i0) (by omega) (by omega)) (congrArg g (nI_clamp (n := i0) (by omega))) ?_
  refine aw_sipush (v := 255) dX12_octet_6 (by decide) ?_
  refine aw_iand dX12_octet_9 ?_
  refine aw_ireti dX12_octet_10 rfl (Nat.le_of_ble_eq_true rfl) (Nat.le_of_ble_eq_true rfl) ?_
  exact ⟨(by rw [nI_clamp (n := i0) (by omega)]), rfl, rfl⟩

set_option maxHeartbeats 4000000 in
set_option maxRecDepth 100000 in
theorem r_bounds (l : Launch) (D : va_G) (b : Nat) (N : Nat) (V : Wd) (hN : 133 ≤ N) (cl : Nat) (hW : CR D b cl V) (n0 : Int32) (hn0 : ∃ j : Nat, j < 13 ∧ n0 = nI j) (n1 : Int32) (hn1 : ∃ j : Nat, j < 16 ∧ n1 = nI j) (g : Nat → Int32) (hg : V 110 = cB D 260 g) (hq : TP g (Int32.toNatClampNeg n0)) : MI l D b 3 jX12_bounds [.ref (b + 100), .int n0, .int n1] N V 0 0 (fun r N9 V9 => ((r = 0 ∨ r = 1) ∧ (V9 110 = V 110)) ∧ N = N9 ∧ JR D b N cl [(100, 100, 45, 45), (100, 100, 46, 46)] V V9) := by
  have hJ0 : JR D b N cl [(100, 100, 45, 45), (100, 100, 46, 46)] V V := JR.rf hW
  obtain ⟨i0, hi0, rfl⟩ := hn0
  obtain ⟨i1, hi1, rfl⟩ := hn1
  rw [nI_clamp (n := i0) (by omega)] at hq
  refine mw_of (by decide) (by simp [Value.category]) (Nat.le_of_ble_eq_true rfl) ?_
  show AW l D b jX12_bounds (fx_rm 3 0 0) none (fx_MQ D b 0 0 (fx_qi (fun r N9 V9 => ((r = 0 ∨ r = 1) ∧ (V9 110 = V 110)) ∧ N = N9 ∧ JR D b N cl [(100, 100, 45, 45), (100, 100, 46, 46)] V V9))) 0 [some (.ref (b + 100)), some (.int (nI i0)), some (.int (nI i1)), none, none, none] [] N V 0 0
  refine aw_aload_n dX12_bounds_0 rfl ?_
  refine aw_iconst (v := 0) dX12_bounds_1 (by decide) ?_
  obtain ⟨ftoldPeople_1, ftoldDoors_1, fwasDoors_1, ffault_1, fopen_1, flines_1, fmeantSet_1, fopenedNow_1, fvainNow_1, flowNow_1, fhighNow_1, fisKept_1, tad_1, pl0_1, le0_1, nu0_1, coy_1, wag_1, say_1, e_1, hntad_1, hnpl0_1, hnle0_1, hnnu0_1, hncoy_1, hnwag_1, hnsay_1⟩ := JR.get hJ0 cm_100
  refine aw_put dX12_bounds_2 fp_X12_395 e_1 (by omega) rfl rfl (Nat.le_of_ble_eq_true rfl) rfl ?_
  refine aw_upR hJ0 cm_100 ⟨_, _, _, _, _, _, _, _, _, _, _, _, tad_1, pl0_1, le0_1, nu0_1, coy_1, wag_1, say_1, rfl, by omega, by omega, by omega, by omega, by omega, by omega, by omega⟩ (by decide) (WO (s := 45) (x := .int 0) e_1 rfl LM0 (by decide) (by decide) (by decide) (Or.inl (by decide))) (fun V_2 j_2 k_2 e_2 => ?_)
  refine aw_aload_n dX12_bounds_5 rfl ?_
  refine aw_bipush (v := 99) dX12_bounds_6 (by decide) ?_
  refine aw_put dX12_bounds_8 fp_X12_398 e_2 (by omega) rfl rfl (Nat.le_of_ble_eq_true rfl) rfl ?_
  refine aw_upR j_2 cm_100 ⟨_, _, _, _, _, _, _, _, _, _, _, _, tad_1, pl0_1, le0_1, nu0_1, coy_1, wag_1, say_1, rfl, by omega, by omega, by omega, by omega, by omega, by omega, by omega⟩ (by decide) (WO (s := 46) (x := .int 99) e_2 rfl (LMs LM0) (by decide) (by decide) (by decide) (Or.inl (by decide))) (fun V_3 j_3 k_3 e_3 => ?_)
  refine aw_iconst (v := 0) dX12_bounds_11 (by decide) ?_
  refine aw_istore_n (ls' := [some (.ref (b + 100)), some (.int (nI i0)), some (.int (nI i1)), some (.int 0), none, none]) dX12_bounds_12 (Nat.le_of_ble_eq_true rfl) rfl ?_
  have loop_13_3 : ∀ (g_13 : Nat), ∀ (j13 : Nat)  (V13 : Wd), j13 + g_13 = i0 → (JR D b N cl [(100, 100, 45, 45), (100, 100, 46, 46)] V V13) → (V13 110 = cB D 260 g) → AW l D b jX12_bounds (fx_rm 3 0 0) none (fx_MQ D b 0 0 (fx_qi (fun r N9 V9 => ((r = 0 ∨ r = 1) ∧ (V9 110 = V 110)) ∧ N = N9 ∧ JR D b N cl [(100, 100, 45, 45), (100, 100, 46, 46)] V V9))) 13 [some (.ref (b + 100)), some (.int (nI i0)), some (.int (nI i1)), some (.int (nI j13)), none, none] [] N V13 0 0 := by
    intro g_13
    induction g_13 with
    | zero =>
      intro j13  V13 hj13 i13_0 i13_1
      obtain rfl : i0 = j13 := by omega
      refine aw_iload_n dX12_bounds_13 rfl ?_
      refine aw_iload_n dX12_bounds_14 rfl ?_
      refine aw_icmp_ge (tgt := 128) dX12_bounds_15 (by decide) (fun c_6 => ?_) (fun c_6 => ?_)
      rotate_left
      · exact absurd (nI_le (a := i0) (b := i0) (Nat.le_refl _) (by omega)) c_6
      refine aw_aload_n dX12_bounds_128 rfl ?_
      obtain ⟨ftoldPeople_7, ftoldDoors_7, fwasDoors_7, ffault_7, fopen_7, flines_7, fmeantSet_7, fopenedNow_7, fvainNow_7, flowNow_7, fhighNow_7, fisKept_7, tad_7, pl0_7, le0_7, nu0_7, coy_7, wag_7, say_7, e_7, hntad_7, hnpl0_7, hnle0_7, hnnu0_7, hncoy_7, hnwag_7, hnsay_7⟩ := JR.get i13_0 cm_100
      refine aw_get dX12_bounds_129 fl_X12_395 e_7 (by omega) rfl ?_
      refine aw_aload_n dX12_bounds_132 rfl ?_
      refine aw_get dX12_bounds_133 fl_X12_398 e_7 (by omega) rfl ?_
      refine aw_icmp_gt (tgt := 143) dX12_bounds_136 (by decide) (fun c_8 => ?_) (fun c_8 => ?_)
      · skip
        refine aw_iconst (v := 0) dX12_bounds_143 (by decide) ?_
        refine aw_zreti dX12_bounds_144 rfl (by first | exact Or.inl rfl | exact Or.inr rfl | assumption) (Nat.le_of_ble_eq_true rfl) (Nat.le_of_ble_eq_true rfl) ?_
        exact ⟨⟨(by first | exact Or.inl rfl | exact Or.inr rfl | assumption), (i13_1).trans hg.symm⟩, rfl, i13_0⟩
      · skip
        refine aw_iconst (v := 1) dX12_bounds_139 (by decide) ?_
        refine aw_goto (tgt := 144) dX12_bounds_140 (by decide) ?_
        refine aw_zreti dX12_bounds_144 rfl (by first | exact Or.inl rfl | exact Or.inr rfl | assumption) (Nat.le_of_ble_eq_true rfl) (Nat.le_of_ble_eq_true rfl) ?_
        exact ⟨⟨(by first | exact Or.inl rfl | exact Or.inr rfl | assumption), (i13_1).trans hg.symm⟩, rfl, i13_0⟩
    | succ g_13 ih_13_4 =>
      intro j13  V13 hj13 i13_0 i13_1
      have hlj13 : j13 < i0 := by omega
      refine aw_iload_n dX12_bounds_13 rfl ?_
      refine aw_iload_n dX12_bounds_14 rfl ?_
      refine aw_icmp_ge (tgt := 128) dX12_bounds_15 (by decide) (fun c_9 => ?_) (fun c_9 => ?_)
      · exact absurd c_9 (nI_ge (a := j13) (b := i0) (by omega) (by omega))
      refine aw_aload_n dX12_bounds_18 rfl ?_
      refine aw_iconst (v := 2) dX12_bounds_19 (by decide) ?_
      refine aw_iload_n dX12_bounds_20 rfl ?_
      refine aw_imul dX12_bounds_21 ?_
      refine aw_eqi (y := nI (2 * j13)) (pk_mul _ _) ?_
      obtain ⟨ftoldPeople_13, ftoldDoors_13, fwasDoors_13, ffault_13, fopen_13, flines_13, fmeantSet_13, fopenedNow_13, fvainNow_13, flowNow_13, fhighNow_13, fisKept_13, tad_13, pl0_13, le0_13, nu0_13, coy_13, wag_13, say_13, e_13, hntad_13, hnpl0_13, hnle0_13, hnnu0_13, hncoy_13, hnwag_13, hnsay_13⟩ := JR.get i13_0 cm_100
      refine aw_callVi (J' := jX12_octet) (As := [.int (nI (2 * j13))]) (st := []) dX12_bounds_22 tb_1556 ok_X12_octet ⟨_, e_13⟩ (by omega) rfl rfl (r_octetG l D b N V13 hN cl i13_0.1 (nI (2 * j13)) ⟨(2 * j13), by omega, rfl⟩ g i13_1) rfl (Nat.le_of_ble_eq_true rfl) ⟨Nat.le_of_ble_eq_true rfl, Nat.le_of_ble_eq_true rfl, Nat.le_of_ble_eq_true rfl, Nat.le_of_ble_eq_true rfl⟩ (fun r_14 N_15 V_16 q_17 => ?_)
      obtain ⟨h_11, rfl, rfl⟩ := q_17
      obtain ⟨z_12, hz_12, ez_12⟩ := hq j13 (by omega)
      refine aw_eqi (y := nI z_12) (h_11.trans (by rw [nI_clamp (n := (2 * j13)) (by omega)]; exact ez_12)) ?_
      refine aw_istore (ls' := [some (.ref (b + 100)), some (.int (nI i0)), some (.int (nI i1)), some (.int (nI j13)), some (.int (nI z_12)), none]) dX12_bounds_25 (Nat.le_of_ble_eq_true rfl) rfl ?_
      refine aw_aload_n dX12_bounds_27 rfl ?_
      refine aw_iload dX12_bounds_28 rfl ?_
      refine aw_callVi (J' := jX12_fearOf) (As := [.int (nI z_12)]) (st := []) dX12_bounds_30 tb_1430 ok_X12_fearOf ⟨_, e_13⟩ (by omega) rfl rfl (r_fearOf l D b N V13 hN cl i13_0.1 (nI z_12) ⟨z_12, by omega, rfl⟩) rfl (Nat.le_of_ble_eq_true rfl) ⟨Nat.le_of_ble_eq_true rfl, Nat.le_of_ble_eq_true rfl, Nat.le_of_ble_eq_true rfl, Nat.le_of_ble_eq_true rfl⟩ (fun r_20 N_21 V_22 q_23 => ?_)
      obtain ⟨h_19, rfl, rfl⟩ := q_23
      refine aw_iload_n dX12_bounds_33 rfl ?_
      refine aw_icmp_ne (tgt := 41) dX12_bounds_34 (by decide) (fun c_24 => ?_) (fun c_24 => ?_)
      · skip
        refine aw_iconst (v := 0) dX12_bounds_41 (by decide) ?_
        refine aw_istore (ls' := [some (.ref (b + 100)), some (.int (nI i0)), some (.int (nI i1)), some (.int (nI j13)), some (.int (nI z_12)), some (.int 0)]) dX12_bounds_42 (Nat.le_of_ble_eq_true rfl) rfl ?_
        refine aw_aload_n dX12_bounds_44 rfl ?_
        refine aw_iconst (v := 2) dX12_bounds_45 (by decide) ?_
        refine aw_iload_n dX12_bounds_46 rfl ?_
        refine aw_imul dX12_bounds_47 ?_
        refine aw_eqi (y := nI (2 * j13)) (pk_mul _ _) ?_
        refine aw_iconst (v := 1) dX12_bounds_48 (by decide) ?_
        refine aw_iadd dX12_bounds_49 ?_
        refine aw_eqi (y := nI ((2 * j13) + 1)) (nI_add _ _) ?_
        refine aw_callVi (J' := jX12_octet) (As := [.int (nI ((2 * j13) + 1))]) (st := []) dX12_bounds_50 tb_1556 ok_X12_octet ⟨_, e_13⟩ (by omega) rfl rfl (r_octetG l D b N V13 hN cl i13_0.1 (nI ((2 * j13) + 1)) ⟨((2 * j13) + 1), by omega, rfl⟩ g i13_1) rfl (Nat.le_of_ble_eq_true rfl) ⟨Nat.le_of_ble_eq_true rfl, Nat.le_of_ble_eq_true rfl, Nat.le_of_ble_eq_true rfl, Nat.le_of_ble_eq_true rfl⟩ (fun r_27 N_28 V_29 q_30 => ?_)
        obtain ⟨h_26, rfl, rfl⟩ := q_30
        refine aw_iconst (v := 1) dX12_bounds_53 (by decide) ?_
        refine aw_icmp_ne (tgt := 87) dX12_bounds_54 (by decide) (fun c_31 => ?_) (fun c_31 => ?_)
        · skip
          refine aw_iload dX12_bounds_87 rfl ?_
          refine aw_if_eq (tgt := 112) dX12_bounds_89 (by decide) (fun c_32 => ?_) (fun c_32 => ?_)
          rotate_left
          · exact absurd (by decide) c_32
          refine aw_aload_n dX12_bounds_112 rfl ?_
          refine aw_get dX12_bounds_113 fl_X12_398 e_13 (by omega) rfl ?_
          refine aw_iconst (v := (-1)) dX12_bounds_116 (by decide) ?_
          refine aw_icmp_ne (tgt := 122) dX12_bounds_117 (by decide) (fun c_33 => ?_) (fun c_33 => ?_)
          · skip
            refine aw_iinc (v := (nI (j13 + 1))) (ls' := [some (.ref (b + 100)), some (.int (nI i0)), some (.int (nI i1)), some (.int (nI (j13 + 1))), some (.int (nI z_12)), some (.int 0)]) dX12_bounds_122 rfl (fx_up_1 _) (Nat.le_of_ble_eq_true rfl) rfl ?_
            refine aw_goto (tgt := 13) dX12_bounds_125 (by decide) ?_
            refine aw_le ?_ (ih_13_4 (j13 + 1)  V13 (by omega) (i13_0) (i13_1))
            exact ⟨rfl, ⟨rfl, ⟨rfl, ⟨rfl, trivial⟩⟩⟩⟩
          · skip
            refine aw_iconst (v := 0) dX12_bounds_120 (by decide) ?_
            refine aw_zreti dX12_bounds_121 rfl (by first | exact Or.inl rfl | exact Or.inr rfl | assumption) (Nat.le_of_ble_eq_true rfl) (Nat.le_of_ble_eq_true rfl) ?_
            exact ⟨⟨(by first | exact Or.inl rfl | exact Or.inr rfl | assumption), (i13_1).trans hg.symm⟩, rfl, i13_0⟩
        · skip
          refine aw_aload_n dX12_bounds_57 rfl ?_
          refine aw_iload dX12_bounds_58 rfl ?_
          refine aw_if_eq (tgt := 80) dX12_bounds_60 (by decide) (fun c_34 => ?_) (fun c_34 => ?_)
          rotate_left
          · exact absurd (by decide) c_34
          refine aw_iconst (v := (-1)) dX12_bounds_80 (by decide) ?_
          refine aw_put dX12_bounds_81 fp_X12_398 e_13 (by omega) rfl rfl (Nat.le_of_ble_eq_true rfl) rfl ?_
          refine aw_upR i13_0 cm_100 ⟨_, _, _, _, _, _, _, _, _, _, _, _, tad_13, pl0_13, le0_13, nu0_13, coy_13, wag_13, say_13, rfl, by omega, by omega, by omega, by omega, by omega, by omega, by omega⟩ (by decide) (WO (s := 46) (x := .int (-1)) e_13 rfl (LMs LM0) (by decide) (by decide) (by decide) (Or.inl (by decide))) (fun V_35 j_35 k_35 e_35 => ?_)
          refine aw_goto (tgt := 112) dX12_bounds_84 (by decide) ?_
          refine aw_aload_n dX12_bounds_112 rfl ?_
          refine aw_get dX12_bounds_113 fl_X12_398 e_35 (by omega) rfl ?_
          refine aw_iconst (v := (-1)) dX12_bounds_116 (by decide) ?_
          refine aw_icmp_ne (tgt := 122) dX12_bounds_117 (by decide) (fun c_36 => ?_) (fun c_36 => ?_)
          · exact absurd rfl c_36
          refine aw_iconst (v := 0) dX12_bounds_120 (by decide) ?_
          refine aw_zreti dX12_bounds_121 rfl (by first | exact Or.inl rfl | exact Or.inr rfl | assumption) (Nat.le_of_ble_eq_true rfl) (Nat.le_of_ble_eq_true rfl) ?_
          exact ⟨⟨(by first | exact Or.inl rfl | exact Or.inr rfl | assumption), (((k_35 _ (by decide)).trans i13_1)).trans hg.symm⟩, rfl, j_35⟩
      · skip
        refine aw_iconst (v := 1) dX12_bounds_37 (by decide) ?_
        refine aw_goto (tgt := 42) dX12_bounds_38 (by decide) ?_
        refine aw_istore (ls' := [some (.ref (b + 100)), some (.int (nI i0)), some (.int (nI i1)), some (.int (nI j13)), some (.int (nI z_12)), some (.int 1)]) dX12_bounds_42 (Nat.le_of_ble_eq_true rfl) rfl ?_
        refine aw_aload_n dX12_bounds_44 rfl ?_
        refine aw_iconst (v := 2) dX12_bounds_45 (by decide) ?_
        refine aw_iload_n dX12_bounds_46 rfl ?_
        refine aw_imul dX12_bounds_47 ?_
        refine aw_eqi (y := nI (2 * j13)) (pk_mul _ _) ?_
        refine aw_iconst (v := 1) dX12_bounds_48 (by decide) ?_
        refine aw_iadd dX12_bounds_49 ?_
        refine aw_eqi (y := nI ((2 * j13) + 1)) (nI_add _ _) ?_
        refine aw_callVi (J' := jX12_octet) (As := [.int (nI ((2 * j13) + 1))]) (st := []) dX12_bounds_50 tb_1556 ok_X12_octet ⟨_, e_13⟩ (by omega) rfl rfl (r_octetG l D b N V13 hN cl i13_0.1 (nI ((2 * j13) + 1)) ⟨((2 * j13) + 1), by omega, rfl⟩ g i13_1) rfl (Nat.le_of_ble_eq_true rfl) ⟨Nat.le_of_ble_eq_true rfl, Nat.le_of_ble_eq_true rfl, Nat.le_of_ble_eq_true rfl, Nat.le_of_ble_eq_true rfl⟩ (fun r_39 N_40 V_41 q_42 => ?_)
        obtain ⟨h_38, rfl, rfl⟩ := q_42
        refine aw_iconst (v := 1) dX12_bounds_53 (by decide) ?_
        refine aw_icmp_ne (tgt := 87) dX12_bounds_54 (by decide) (fun c_43 => ?_) (fun c_43 => ?_)
        · skip
          refine aw_iload dX12_bounds_87 rfl ?_
          refine aw_if_eq (tgt := 112) dX12_bounds_89 (by decide) (fun c_44 => ?_) (fun c_44 => ?_)
          · exact absurd c_44 (by decide)
          refine aw_aload_n dX12_bounds_92 rfl ?_
          refine aw_aload_n dX12_bounds_93 rfl ?_
          refine aw_get dX12_bounds_94 fl_X12_395 e_13 (by omega) rfl ?_
          refine aw_aload_n dX12_bounds_97 rfl ?_
          refine aw_iload dX12_bounds_98 rfl ?_
          refine aw_iload_n dX12_bounds_100 rfl ?_
          refine aw_callVi (J' := jX12_dread) (As := [.int (nI z_12), .int (nI i1)]) (st := [.int flowNow_13, .ref (b + 100)]) dX12_bounds_101 tb_1392 ok_X12_dread ⟨_, e_13⟩ (by omega) rfl rfl (r_dread l D b N V13 hN cl i13_0.1 (nI z_12) ⟨z_12, by omega, rfl⟩ (nI i1) ⟨i1, by omega, rfl⟩) rfl (Nat.le_of_ble_eq_true rfl) ⟨Nat.le_of_ble_eq_true rfl, Nat.le_of_ble_eq_true rfl, Nat.le_of_ble_eq_true rfl, Nat.le_of_ble_eq_true rfl⟩ (fun r_46 N_47 V_48 q_49 => ?_)
          obtain ⟨rfl, rfl⟩ := q_49
          refine aw_iconst (v := 1) dX12_bounds_104 (by decide) ?_
          refine aw_iadd dX12_bounds_105 ?_
          refine aw_callSi (J' := jX12_max) (As := [.int flowNow_13, .int (r_46 + 1)]) (st := [.ref (b + 100)]) dX12_bounds_106 tb_1328 ok_X12_max rfl (r_max l D b N V13 hN cl i13_0.1 flowNow_13 (r_46 + 1)) rfl (Nat.le_of_ble_eq_true rfl) ⟨Nat.le_of_ble_eq_true rfl, Nat.le_of_ble_eq_true rfl, Nat.le_of_ble_eq_true rfl, Nat.le_of_ble_eq_true rfl⟩ (fun r_51 N_52 V_53 q_54 => ?_)
          obtain ⟨rfl, rfl⟩ := q_54
          refine aw_put dX12_bounds_109 fp_X12_395 e_13 (by omega) rfl rfl (Nat.le_of_ble_eq_true rfl) rfl ?_
          refine aw_upR i13_0 cm_100 ⟨_, _, _, _, _, _, _, _, _, _, _, _, tad_13, pl0_13, le0_13, nu0_13, coy_13, wag_13, say_13, rfl, by omega, by omega, by omega, by omega, by omega, by omega, by omega⟩ (by decide) (WO (s := 45) (x := .int r_51) e_13 rfl LM0 (by decide) (by decide) (by decide) (Or.inl (by decide))) (fun V_55 j_55 k_55 e_55 => ?_)
          refine aw_aload_n dX12_bounds_112 rfl ?_
          refine aw_get dX12_bounds_113 fl_X12_398 e_55 (by omega) rfl ?_
          refine aw_iconst (v := (-1)) dX12_bounds_116 (by decide) ?_
          refine aw_icmp_ne (tgt := 122) dX12_bounds_117 (by decide) (fun c_56 => ?_) (fun c_56 => ?_)
          · skip
            refine aw_iinc (v := (nI (j13 + 1))) (ls' := [some (.ref (b + 100)), some (.int (nI i0)), some (.int (nI i1)), some (.int (nI (j13 + 1))), some (.int (nI z_12)), some (.int 1)]) dX12_bounds_122 rfl (fx_up_1 _) (Nat.le_of_ble_eq_true rfl) rfl ?_
            refine aw_goto (tgt := 13) dX12_bounds_125 (by decide) ?_
            refine aw_le ?_ (ih_13_4 (j13 + 1)  V_55 (by omega) (j_55) (((k_55 _ (by decide)).trans i13_1)))
            exact ⟨rfl, ⟨rfl, ⟨rfl, ⟨rfl, trivial⟩⟩⟩⟩
          · skip
            refine aw_iconst (v := 0) dX12_bounds_120 (by decide) ?_
            refine aw_zreti dX12_bounds_121 rfl (by first | exact Or.inl rfl | exact Or.inr rfl | assumption) (Nat.le_of_ble_eq_true rfl) (Nat.le_of_ble_eq_true rfl) ?_
            exact ⟨⟨(by first | exact Or.inl rfl | exact Or.inr rfl | assumption), (((k_55 _ (by decide)).trans i13_1)).trans hg.symm⟩, rfl, j_55⟩
        · skip
          refine aw_aload_n dX12_bounds_57 rfl ?_
          refine aw_iload dX12_bounds_58 rfl ?_
          refine aw_if_eq (tgt := 80) dX12_bounds_60 (by decide) (fun c_57 => ?_) (fun c_57 => ?_)
          · exact absurd c_57 (by decide)
          refine aw_aload_n dX12_bounds_63 rfl ?_
          refine aw_get dX12_bounds_64 fl_X12_398 e_13 (by omega) rfl ?_
          refine aw_aload_n dX12_bounds_67 rfl ?_
          refine aw_iload dX12_bounds_68 rfl ?_
          refine aw_iload_n dX12_bounds_70 rfl ?_
          refine aw_callVi (J' := jX12_dread) (As := [.int (nI z_12), .int (nI i1)]) (st := [.int fhighNow_13, .ref (b + 100)]) dX12_bounds_71 tb_1392 ok_X12_dread ⟨_, e_13⟩ (by omega) rfl rfl (r_dread l D b N V13 hN cl i13_0.1 (nI z_12) ⟨z_12, by omega, rfl⟩ (nI i1) ⟨i1, by omega, rfl⟩) rfl (Nat.le_of_ble_eq_true rfl) ⟨Nat.le_of_ble_eq_true rfl, Nat.le_of_ble_eq_true rfl, Nat.le_of_ble_eq_true rfl, Nat.le_of_ble_eq_true rfl⟩ (fun r_59 N_60 V_61 q_62 => ?_)
          obtain ⟨rfl, rfl⟩ := q_62
          refine aw_callSi (J' := jX12_min) (As := [.int fhighNow_13, .int r_59]) (st := [.ref (b + 100)]) dX12_bounds_74 tb_1325 ok_X12_min rfl (r_min l D b N V13 hN cl i13_0.1 fhighNow_13 r_59) rfl (Nat.le_of_ble_eq_true rfl) ⟨Nat.le_of_ble_eq_true rfl, Nat.le_of_ble_eq_true rfl, Nat.le_of_ble_eq_true rfl, Nat.le_of_ble_eq_true rfl⟩ (fun r_64 N_65 V_66 q_67 => ?_)
          obtain ⟨rfl, rfl⟩ := q_67
          refine aw_goto (tgt := 81) dX12_bounds_77 (by decide) ?_
          refine aw_put dX12_bounds_81 fp_X12_398 e_13 (by omega) rfl rfl (Nat.le_of_ble_eq_true rfl) rfl ?_
          refine aw_upR i13_0 cm_100 ⟨_, _, _, _, _, _, _, _, _, _, _, _, tad_13, pl0_13, le0_13, nu0_13, coy_13, wag_13, say_13, rfl, by omega, by omega, by omega, by omega, by omega, by omega, by omega⟩ (by decide) (WO (s := 46) (x := .int r_64) e_13 rfl (LMs LM0) (by decide) (by decide) (by decide) (Or.inl (by decide))) (fun V_68 j_68 k_68 e_68 => ?_)
          refine aw_goto (tgt := 112) dX12_bounds_84 (by decide) ?_
          refine aw_aload_n dX12_bounds_112 rfl ?_
          refine aw_get dX12_bounds_113 fl_X12_398 e_68 (by omega) rfl ?_
          refine aw_iconst (v := (-1)) dX12_bounds_116 (by decide) ?_
          refine aw_icmp_ne (tgt := 122) dX12_bounds_117 (by decide) (fun c_69 => ?_) (fun c_69 => ?_)
          · skip
            refine aw_iinc (v := (nI (j13 + 1))) (ls' := [some (.ref (b + 100)), some (.int (nI i0)), some (.int (nI i1)), some (.int (nI (j13 + 1))), some (.int (nI z_12)), some (.int 1)]) dX12_bounds_122 rfl (fx_up_1 _) (Nat.le_of_ble_eq_true rfl) rfl ?_
            refine aw_goto (tgt := 13) dX12_bounds_125 (by decide) ?_
            refine aw_le ?_ (ih_13_4 (j13 + 1)  V_68 (by omega) (j_68) (((k_68 _ (by decide)).trans i13_1)))
            exact ⟨rfl, ⟨rfl, ⟨rfl, ⟨rfl, trivial⟩⟩⟩⟩
          · skip
            refine aw_iconst (v := 0) dX12_bounds_120 (by decide) ?_
            refine aw_zreti dX12_bounds_121 rfl (by first | exact Or.inl rfl | exact Or.inr rfl | assumption) (Nat.le_of_ble_eq_true rfl) (Nat.le_of_ble_eq_true rfl) ?_
            exact ⟨⟨(by first | exact Or.inl rfl | exact Or.inr rfl | assumption), (((k_68 _ (by decide)).trans i13_1)).trans hg.symm⟩, rfl, j_68⟩
  refine aw_le ?_ (loop_13_3 i0 0  V_3 (by omega) (j_3) (((k_3 _ (by decide)).trans ((k_2 _ (by decide)).trans hg))))
  exact ⟨rfl, ⟨rfl, ⟨rfl, ⟨rfl, trivial⟩⟩⟩⟩

set_option maxHeartbeats 4000000 in
set_option maxRecDepth 100000 in
theorem r_guess (l : Launch) (D : va_G) (b : Nat) (N : Nat) (V : Wd) (hN : 133 ≤ N) (cl : Nat) (hW : CR D b cl V) (n0 : Int32) (n1 : Int32)  : MI l D b 4 jX12_guess [.ref (b + 100), .int n0, .int n1] N V 0 0 (fun r N9 V9 => N = N9 ∧ JR D b N cl [(100, 100, 13, 13), (100, 100, 45, 45), (100, 100, 46, 46)] V V9) := by
  have hJ0 : JR D b N cl [(100, 100, 13, 13), (100, 100, 45, 45), (100, 100, 46, 46)] V V := JR.rf hW
  refine mw_of (by decide) (by simp [Value.category]) (Nat.le_of_ble_eq_true rfl) ?_
  show AW l D b jX12_guess (fx_rm 4 0 0) none (fx_MQ D b 0 0 (fx_qi (fun r N9 V9 => N = N9 ∧ JR D b N cl [(100, 100, 13, 13), (100, 100, 45, 45), (100, 100, 46, 46)] V V9))) 0 [some (.ref (b + 100)), some (.int n0), some (.int n1), none, none] [] N V 0 0
  refine aw_iload_n dX12_guess_0 rfl ?_
  refine aw_iconst (v := 1) dX12_guess_1 (by decide) ?_
  refine aw_bipush (v := 12) dX12_guess_2 (by decide) ?_
  refine aw_callSi (J' := jX12_in) (As := [.int n0, .int 1, .int 12]) (st := []) dX12_guess_4 tb_1209 ok_X12_in rfl (r_in l D b N V hN cl hJ0.1 n0 1 12) rfl (Nat.le_of_ble_eq_true rfl) ⟨Nat.le_of_ble_eq_true rfl, Nat.le_of_ble_eq_true rfl, Nat.le_of_ble_eq_true rfl, Nat.le_of_ble_eq_true rfl⟩ (fun r_4 N_5 V_6 q_7 => ?_)
  obtain ⟨⟨z_3, h_2⟩, rfl, rfl⟩ := q_7
  refine aw_if_eq (tgt := 47) dX12_guess_7 (by decide) (fun c_8 => ?_) (fun c_8 => ?_)
  · skip
    refine aw_iconst (v := (-1)) dX12_guess_47 (by decide) ?_
    refine aw_ireti dX12_guess_48 rfl (Nat.le_of_ble_eq_true rfl) (Nat.le_of_ble_eq_true rfl) ?_
    exact ⟨rfl, hJ0⟩
  · skip
    obtain ⟨zn0, h0zn0, hzn0, rfl⟩ := in_nat (a := 1) (b := 12) (by decide) (h_2.resolve_left c_8)
    refine aw_iload_n dX12_guess_10 rfl ?_
    refine aw_iconst (v := 0) dX12_guess_11 (by decide) ?_
    refine aw_bipush (v := 15) dX12_guess_12 (by decide) ?_
    refine aw_callSi (J' := jX12_in) (As := [.int n1, .int 0, .int 15]) (st := []) dX12_guess_14 tb_1209 ok_X12_in rfl (r_in l D b N V hN cl hJ0.1 n1 0 15) rfl (Nat.le_of_ble_eq_true rfl) ⟨Nat.le_of_ble_eq_true rfl, Nat.le_of_ble_eq_true rfl, Nat.le_of_ble_eq_true rfl, Nat.le_of_ble_eq_true rfl⟩ (fun r_12 N_13 V_14 q_15 => ?_)
    obtain ⟨⟨z_11, h_10⟩, rfl, rfl⟩ := q_15
    refine aw_if_ne (tgt := 37) dX12_guess_17 (by decide) (fun c_16 => ?_) (fun c_16 => ?_)
    · skip
      obtain ⟨zn1, h0zn1, hzn1, rfl⟩ := in_nat (a := 0) (b := 15) (by decide) (h_10.resolve_left c_16)
      refine aw_iconst (v := 2) dX12_guess_37 (by decide) ?_
      refine aw_iload_n dX12_guess_38 rfl ?_
      refine aw_imul dX12_guess_39 ?_
      refine aw_eqi (y := nI (2 * zn0)) (pk_mul _ _) ?_
      refine aw_aload_n dX12_guess_40 rfl ?_
      obtain ⟨ftoldPeople_17, ftoldDoors_17, fwasDoors_17, ffault_17, fopen_17, flines_17, fmeantSet_17, fopenedNow_17, fvainNow_17, flowNow_17, fhighNow_17, fisKept_17, tad_17, pl0_17, le0_17, nu0_17, coy_17, wag_17, say_17, e_17, hntad_17, hnpl0_17, hnle0_17, hnnu0_17, hncoy_17, hnwag_17, hnsay_17⟩ := JR.get hJ0 cm_100
      refine aw_get dX12_guess_41 fl_X12_152 e_17 (by omega) rfl ?_
      refine aw_icmp_le (tgt := 49) dX12_guess_44 (by decide) (fun c_18 => ?_) (fun c_18 => ?_)
      · skip
        have nc_18 : (2 * zn0) ≤ tad_17 := (nI_leI (a := (2 * zn0)) (b := tad_17) (by omega) (by omega)).mp c_18
        refine aw_aload_n dX12_guess_49 rfl ?_
        refine aw_iconst (v := 0) dX12_guess_50 (by decide) ?_
        refine aw_put dX12_guess_51 fp_X12_152 e_17 (by omega) rfl rfl (Nat.le_of_ble_eq_true rfl) rfl ?_
        refine aw_upR hJ0 cm_100 ⟨_, _, _, _, _, _, _, _, _, _, _, _, 0, pl0_17, le0_17, nu0_17, coy_17, wag_17, say_17, rfl, by omega, by omega, by omega, by omega, by omega, by omega, by omega⟩ (by decide) (WO (s := 13) (x := .int 0) e_17 rfl LM0 (by decide) (by decide) (by decide) (Or.inl (by decide))) (fun V_19 j_19 k_19 e_19 => ?_)
        obtain ⟨g_20, e_20⟩ := JR.get j_19 cm_110
        refine aw_iconst (v := 0) dX12_guess_54 (by decide) ?_
        refine aw_istore_n (ls' := [some (.ref (b + 100)), some (.int (nI zn0)), some (.int (nI zn1)), some (.int 0), none]) dX12_guess_55 (Nat.le_of_ble_eq_true rfl) rfl ?_
        have loop_56_20 : ∀ (g_56 : Nat), ∀ (j56 : Nat), j56 + g_56 = zn0 → (TP g_20 j56) → AW l D b jX12_guess (fx_rm 4 0 0) none (fx_MQ D b 0 0 (fx_qi (fun r N9 V9 => N = N9 ∧ JR D b N cl [(100, 100, 13, 13), (100, 100, 45, 45), (100, 100, 46, 46)] V V9))) 56 [some (.ref (b + 100)), some (.int (nI zn0)), some (.int (nI zn1)), some (.int (nI j56)), none] [] N V_19 0 0 := by
          intro g_56
          induction g_56 with
          | zero =>
            intro j56  hj56 i56_0
            obtain rfl : zn0 = j56 := by omega
            refine aw_iload_n dX12_guess_56 rfl ?_
            refine aw_iload_n dX12_guess_57 rfl ?_
            refine aw_icmp_ge (tgt := 97) dX12_guess_58 (by decide) (fun c_23 => ?_) (fun c_23 => ?_)
            rotate_left
            · exact absurd (nI_le (a := zn0) (b := zn0) (Nat.le_refl _) (by omega)) c_23
            refine aw_iload_n dX12_guess_97 rfl ?_
            refine aw_bipush (v := 100) dX12_guess_98 (by decide) ?_
            refine aw_icmp_eq (tgt := 146) dX12_guess_100 (by decide) (fun c_24 => ?_) (fun c_24 => ?_)
            · skip
              have nc_24 : zn1 = 100 := (nI_eq (a := zn1) (b := 100) (by omega) (by omega)).mp c_24
              refine aw_iconst (v := 0) dX12_guess_146 (by decide) ?_
              refine aw_istore_n (ls' := [some (.ref (b + 100)), some (.int (nI zn0)), some (.int (nI zn1)), some (.int 0), none]) dX12_guess_147 (Nat.le_of_ble_eq_true rfl) rfl ?_
              refine aw_iconst (v := 0) dX12_guess_148 (by decide) ?_
              refine aw_istore (ls' := [some (.ref (b + 100)), some (.int (nI zn0)), some (.int (nI zn1)), some (.int 0), some (.int 0)]) dX12_guess_149 (Nat.le_of_ble_eq_true rfl) rfl ?_
              have loop_151_24 : ∀ (g_151 : Nat), ∀ (j151 : Nat) (v151_3 : Int32) (V151 : Wd), j151 + g_151 = 16 → (JR D b N cl [(100, 100, 13, 13), (100, 100, 45, 45), (100, 100, 46, 46)] V V151) → (V151 110 = cB D 260 g_20) → AW l D b jX12_guess (fx_rm 4 0 0) none (fx_MQ D b 0 0 (fx_qi (fun r N9 V9 => N = N9 ∧ JR D b N cl [(100, 100, 13, 13), (100, 100, 45, 45), (100, 100, 46, 46)] V V9))) 151 [some (.ref (b + 100)), some (.int (nI zn0)), some (.int (nI zn1)), some (.int v151_3), some (.int (nI j151))] [] N V151 0 0 := by
                intro g_151
                induction g_151 with
                | zero =>
                  intro j151 v151_3 V151 hj151 i151_0 i151_1
                  obtain rfl : j151 = 16 := by omega
                  refine aw_iload dX12_guess_151 rfl ?_
                  refine aw_bipush (v := 16) dX12_guess_153 (by decide) ?_
                  refine aw_icmp_ge (tgt := 181) dX12_guess_155 (by decide) (fun c_27 => ?_) (fun c_27 => ?_)
                  rotate_left
                  · exact absurd (nI_le (a := 16) (b := 16) (Nat.le_refl _) (by omega)) c_27
                  refine aw_iload_n dX12_guess_181 rfl ?_
                  refine aw_ireti dX12_guess_182 rfl (Nat.le_of_ble_eq_true rfl) (Nat.le_of_ble_eq_true rfl) ?_
                  exact ⟨rfl, i151_0⟩
                | succ g_151 ih_151_25 =>
                  intro j151 v151_3 V151 hj151 i151_0 i151_1
                  have hlj151 : j151 < 16 := by omega
                  refine aw_iload dX12_guess_151 rfl ?_
                  refine aw_bipush (v := 16) dX12_guess_153 (by decide) ?_
                  refine aw_icmp_ge (tgt := 181) dX12_guess_155 (by decide) (fun c_28 => ?_) (fun c_28 => ?_)
                  · exact absurd c_28 (nI_ge (a := j151) (b := 16) (by omega) (by omega))
                  refine aw_aload_n dX12_guess_158 rfl ?_
                  refine aw_iload_n dX12_guess_159 rfl ?_
                  refine aw_iload dX12_guess_160 rfl ?_
                  obtain ⟨ftoldPeople_34, ftoldDoors_34, fwasDoors_34, ffault_34, fopen_34, flines_34, fmeantSet_34, fopenedNow_34, fvainNow_34, flowNow_34, fhighNow_34, fisKept_34, tad_34, pl0_34, le0_34, nu0_34, coy_34, wag_34, say_34, e_34, hntad_34, hnpl0_34, hnle0_34, hnnu0_34, hncoy_34, hnwag_34, hnsay_34⟩ := JR.get i151_0 cm_100
                  refine aw_callVi (J' := jX12_bounds) (As := [.int (nI zn0), .int (nI j151)]) (st := []) dX12_guess_162 tb_1560 ok_X12_bounds ⟨_, e_34⟩ (by omega) rfl rfl (r_bounds l D b N V151 hN cl i151_0.1 (nI zn0) ⟨zn0, by omega, rfl⟩ (nI j151) ⟨j151, by omega, rfl⟩ g_20 i151_1 (by rw [nI_clamp (n := zn0) (by omega)]; exact i56_0)) rfl (Nat.le_of_ble_eq_true rfl) ⟨Nat.le_of_ble_eq_true rfl, Nat.le_of_ble_eq_true rfl, Nat.le_of_ble_eq_true rfl, Nat.le_of_ble_eq_true rfl⟩ (fun r_35 N_36 V_33 q_37 => ?_)
                  obtain ⟨⟨z_31, h_30⟩, rfl, q_29⟩ := q_37
                  have j_32 := JR.trans i151_0 (JR.weak q_29 (Sub.cons (LMs LM0) (by decide) (by decide) (by decide) (Or.inr ⟨by decide, by decide⟩) (Sub.cons (LMs (LMs LM0)) (by decide) (by decide) (by decide) (Or.inr ⟨by decide, by decide⟩) Sub.nil)))
                  refine aw_if_eq (tgt := 175) dX12_guess_165 (by decide) (fun c_38 => ?_) (fun c_38 => ?_)
                  · skip
                    refine aw_iinc (v := (nI (j151 + 1))) (ls' := [some (.ref (b + 100)), some (.int (nI zn0)), some (.int (nI zn1)), some (.int v151_3), some (.int (nI (j151 + 1)))]) dX12_guess_175 rfl (fx_up_1 _) (Nat.le_of_ble_eq_true rfl) rfl ?_
                    refine aw_goto (tgt := 151) dX12_guess_178 (by decide) ?_
                    refine aw_le ?_ (ih_151_25 (j151 + 1) v151_3 V_33 (by omega) (j_32) ((h_30.trans i151_1)))
                    exact ⟨rfl, ⟨rfl, ⟨rfl, ⟨rfl, ⟨rfl, trivial⟩⟩⟩⟩⟩
                  · skip
                    refine aw_iload_n dX12_guess_168 rfl ?_
                    refine aw_iconst (v := 1) dX12_guess_169 (by decide) ?_
                    refine aw_iload dX12_guess_170 rfl ?_
                    refine aw_ishl dX12_guess_172 ?_
                    refine aw_ior dX12_guess_173 ?_
                    refine aw_istore_n (ls' := [some (.ref (b + 100)), some (.int (nI zn0)), some (.int (nI zn1)), some (.int (v151_3 ||| ((1 : Int32) <<< ((nI j151) &&& 31)))), some (.int (nI j151))]) dX12_guess_174 (Nat.le_of_ble_eq_true rfl) rfl ?_
                    refine aw_iinc (v := (nI (j151 + 1))) (ls' := [some (.ref (b + 100)), some (.int (nI zn0)), some (.int (nI zn1)), some (.int (v151_3 ||| ((1 : Int32) <<< ((nI j151) &&& 31)))), some (.int (nI (j151 + 1)))]) dX12_guess_175 rfl (fx_up_1 _) (Nat.le_of_ble_eq_true rfl) rfl ?_
                    refine aw_goto (tgt := 151) dX12_guess_178 (by decide) ?_
                    refine aw_le ?_ (ih_151_25 (j151 + 1) (v151_3 ||| ((1 : Int32) <<< ((nI j151) &&& 31))) V_33 (by omega) (j_32) ((h_30.trans i151_1)))
                    exact ⟨rfl, ⟨rfl, ⟨rfl, ⟨rfl, ⟨rfl, trivial⟩⟩⟩⟩⟩
              refine aw_le ?_ (loop_151_24 16 0 0 V_19 (by omega) (j_19) (e_20))
              exact ⟨rfl, ⟨rfl, ⟨rfl, ⟨rfl, ⟨rfl, trivial⟩⟩⟩⟩⟩
            · skip
              have nc_24 : ¬ (zn1 = 100) := fun z => c_24 ((nI_eq (a := zn1) (b := 100) (by omega) (by omega)).mpr z)
              refine aw_aload_n dX12_guess_103 rfl ?_
              refine aw_iload_n dX12_guess_104 rfl ?_
              refine aw_iload_n dX12_guess_105 rfl ?_
              refine aw_bipush (v := 20) dX12_guess_106 (by decide) ?_
              refine aw_icmp_ge (tgt := 115) dX12_guess_108 (by decide) (fun c_39 => ?_) (fun c_39 => ?_)
              · skip
                have nc_39 : 20 ≤ zn1 := (nI_leI (a := 20) (b := zn1) (by omega) (by omega)).mp c_39
                refine aw_iload_n dX12_guess_115 rfl ?_
                refine aw_bipush (v := 20) dX12_guess_116 (by decide) ?_
                refine aw_isub dX12_guess_118 ?_
                refine aw_eqi (y := (nI (zn1 - 20))) (pk_sub (a := zn1) (b := 20) (by omega)) ?_
                refine aw_callVi (J' := jX12_bounds) (As := [.int (nI zn0), .int (nI (zn1 - 20))]) (st := []) dX12_guess_119 tb_1560 ok_X12_bounds ⟨_, e_19⟩ (by omega) rfl rfl (r_bounds l D b N V_19 hN cl j_19.1 (nI zn0) ⟨zn0, by omega, rfl⟩ (nI (zn1 - 20)) ⟨(zn1 - 20), by omega, rfl⟩ g_20 e_20 (by rw [nI_clamp (n := zn0) (by omega)]; exact i56_0)) rfl (Nat.le_of_ble_eq_true rfl) ⟨Nat.le_of_ble_eq_true rfl, Nat.le_of_ble_eq_true rfl, Nat.le_of_ble_eq_true rfl, Nat.le_of_ble_eq_true rfl⟩ (fun r_45 N_46 V_44 q_47 => ?_)
                obtain ⟨⟨z_42, h_41⟩, rfl, q_40⟩ := q_47
                have j_43 := JR.trans j_19 (JR.weak q_40 (Sub.cons (LMs LM0) (by decide) (by decide) (by decide) (Or.inr ⟨by decide, by decide⟩) (Sub.cons (LMs (LMs LM0)) (by decide) (by decide) (by decide) (Or.inr ⟨by decide, by decide⟩) Sub.nil)))
                refine aw_if_ne (tgt := 128) dX12_guess_122 (by decide) (fun c_48 => ?_) (fun c_48 => ?_)
                · skip
                  refine aw_iload_n dX12_guess_128 rfl ?_
                  refine aw_bipush (v := 20) dX12_guess_129 (by decide) ?_
                  refine aw_icmp_ge (tgt := 141) dX12_guess_131 (by decide) (fun c_49 => ?_) (fun c_49 => ?_)
                  rotate_left
                  · exact absurd c_39 c_49
                  have nc_49 : 20 ≤ zn1 := (nI_leI (a := 20) (b := zn1) (by omega) (by omega)).mp c_49
                  refine aw_aload_n dX12_guess_141 rfl ?_
                  obtain ⟨ftoldPeople_50, ftoldDoors_50, fwasDoors_50, ffault_50, fopen_50, flines_50, fmeantSet_50, fopenedNow_50, fvainNow_50, flowNow_50, fhighNow_50, fisKept_50, tad_50, pl0_50, le0_50, nu0_50, coy_50, wag_50, say_50, e_50, hntad_50, hnpl0_50, hnle0_50, hnnu0_50, hncoy_50, hnwag_50, hnsay_50⟩ := JR.get j_43 cm_100
                  refine aw_get dX12_guess_142 fl_X12_398 e_50 (by omega) rfl ?_
                  refine aw_ireti dX12_guess_145 rfl (Nat.le_of_ble_eq_true rfl) (Nat.le_of_ble_eq_true rfl) ?_
                  exact ⟨rfl, j_43⟩
                · skip
                  refine aw_bipush (v := (-2)) dX12_guess_125 (by decide) ?_
                  refine aw_ireti dX12_guess_127 rfl (Nat.le_of_ble_eq_true rfl) (Nat.le_of_ble_eq_true rfl) ?_
                  exact ⟨rfl, j_43⟩
              · skip
                have nc_39 : ¬ (20 ≤ zn1) := fun z => c_39 ((nI_leI (a := 20) (b := zn1) (by omega) (by omega)).mpr z)
                refine aw_iload_n dX12_guess_111 rfl ?_
                refine aw_goto (tgt := 119) dX12_guess_112 (by decide) ?_
                refine aw_callVi (J' := jX12_bounds) (As := [.int (nI zn0), .int (nI zn1)]) (st := []) dX12_guess_119 tb_1560 ok_X12_bounds ⟨_, e_19⟩ (by omega) rfl rfl (r_bounds l D b N V_19 hN cl j_19.1 (nI zn0) ⟨zn0, by omega, rfl⟩ (nI zn1) ⟨zn1, by omega, rfl⟩ g_20 e_20 (by rw [nI_clamp (n := zn0) (by omega)]; exact i56_0)) rfl (Nat.le_of_ble_eq_true rfl) ⟨Nat.le_of_ble_eq_true rfl, Nat.le_of_ble_eq_true rfl, Nat.le_of_ble_eq_true rfl, Nat.le_of_ble_eq_true rfl⟩ (fun r_56 N_57 V_55 q_58 => ?_)
                obtain ⟨⟨z_53, h_52⟩, rfl, q_51⟩ := q_58
                have j_54 := JR.trans j_19 (JR.weak q_51 (Sub.cons (LMs LM0) (by decide) (by decide) (by decide) (Or.inr ⟨by decide, by decide⟩) (Sub.cons (LMs (LMs LM0)) (by decide) (by decide) (by decide) (Or.inr ⟨by decide, by decide⟩) Sub.nil)))
                refine aw_if_ne (tgt := 128) dX12_guess_122 (by decide) (fun c_59 => ?_) (fun c_59 => ?_)
                · skip
                  refine aw_iload_n dX12_guess_128 rfl ?_
                  refine aw_bipush (v := 20) dX12_guess_129 (by decide) ?_
                  refine aw_icmp_ge (tgt := 141) dX12_guess_131 (by decide) (fun c_60 => ?_) (fun c_60 => ?_)
                  · first | exact absurd c_60 c_39 | exact absurd c_39 c_60 | exact absurd c_60 (Int32.not_lt.mpr c_39) | exact absurd c_39 (Int32.not_lt.mpr c_60) | exact c_39 (Int32.not_lt.mp c_60) | exact c_39 (Int32.not_le.mp c_60)
                  have nc_60 : ¬ (20 ≤ zn1) := fun z => c_60 ((nI_leI (a := 20) (b := zn1) (by omega) (by omega)).mpr z)
                  refine aw_aload_n dX12_guess_134 rfl ?_
                  obtain ⟨ftoldPeople_61, ftoldDoors_61, fwasDoors_61, ffault_61, fopen_61, flines_61, fmeantSet_61, fopenedNow_61, fvainNow_61, flowNow_61, fhighNow_61, fisKept_61, tad_61, pl0_61, le0_61, nu0_61, coy_61, wag_61, say_61, e_61, hntad_61, hnpl0_61, hnle0_61, hnnu0_61, hncoy_61, hnwag_61, hnsay_61⟩ := JR.get j_54 cm_100
                  refine aw_get dX12_guess_135 fl_X12_395 e_61 (by omega) rfl ?_
                  refine aw_goto (tgt := 145) dX12_guess_138 (by decide) ?_
                  refine aw_ireti dX12_guess_145 rfl (Nat.le_of_ble_eq_true rfl) (Nat.le_of_ble_eq_true rfl) ?_
                  exact ⟨rfl, j_54⟩
                · skip
                  refine aw_bipush (v := (-2)) dX12_guess_125 (by decide) ?_
                  refine aw_ireti dX12_guess_127 rfl (Nat.le_of_ble_eq_true rfl) (Nat.le_of_ble_eq_true rfl) ?_
                  exact ⟨rfl, j_54⟩
          | succ g_56 ih_56_21 =>
            intro j56  hj56 i56_0
            have hlj56 : j56 < zn0 := by omega
            refine aw_iload_n dX12_guess_56 rfl ?_
            refine aw_iload_n dX12_guess_57 rfl ?_
            refine aw_icmp_ge (tgt := 97) dX12_guess_58 (by decide) (fun c_62 => ?_) (fun c_62 => ?_)
            · exact absurd c_62 (nI_ge (a := j56) (b := zn0) (by omega) (by omega))
            refine aw_aload_n dX12_guess_61 rfl ?_
            refine aw_aload_n dX12_guess_62 rfl ?_
            refine aw_iconst (v := 2) dX12_guess_63 (by decide) ?_
            refine aw_iload_n dX12_guess_64 rfl ?_
            refine aw_imul dX12_guess_65 ?_
            refine aw_eqi (y := nI (2 * j56)) (pk_mul _ _) ?_
            refine aw_callVi (J' := jX12_octet) (As := [.int (nI (2 * j56))]) (st := [.ref (b + 100)]) dX12_guess_66 tb_1556 ok_X12_octet ⟨_, e_19⟩ (by omega) rfl rfl (r_octetG l D b N V_19 hN cl j_19.1 (nI (2 * j56)) ⟨(2 * j56), by omega, rfl⟩ g_20 e_20) rfl (Nat.le_of_ble_eq_true rfl) ⟨Nat.le_of_ble_eq_true rfl, Nat.le_of_ble_eq_true rfl, Nat.le_of_ble_eq_true rfl, Nat.le_of_ble_eq_true rfl⟩ (fun r_65 N_66 V_67 q_68 => ?_)
            obtain ⟨h_64, rfl, rfl⟩ := q_68
            refine aw_callVi (J' := jX12_isTold) (As := [.int r_65]) (st := []) dX12_guess_69 tb_1351 ok_X12_isTold ⟨_, e_19⟩ (by omega) rfl rfl (r_isTold l D b N V_19 hN cl j_19.1 r_65) rfl (Nat.le_of_ble_eq_true rfl) ⟨Nat.le_of_ble_eq_true rfl, Nat.le_of_ble_eq_true rfl, Nat.le_of_ble_eq_true rfl, Nat.le_of_ble_eq_true rfl⟩ (fun r_72 N_73 V_74 q_75 => ?_)
            obtain ⟨⟨z_71, h_70⟩, rfl, rfl⟩ := q_75
            refine aw_if_eq (tgt := 88) dX12_guess_72 (by decide) (fun c_76 => ?_) (fun c_76 => ?_)
            · skip
              refine aw_bipush (v := (-3)) dX12_guess_88 (by decide) ?_
              refine aw_ireti dX12_guess_90 rfl (Nat.le_of_ble_eq_true rfl) (Nat.le_of_ble_eq_true rfl) ?_
              exact ⟨rfl, j_19⟩
            · skip
              obtain ⟨zr_65, hzr_65, rfl⟩ := h_70.resolve_left c_76
              refine aw_aload_n dX12_guess_75 rfl ?_
              refine aw_iconst (v := 2) dX12_guess_76 (by decide) ?_
              refine aw_iload_n dX12_guess_77 rfl ?_
              refine aw_imul dX12_guess_78 ?_
              refine aw_eqi (y := nI (2 * j56)) (pk_mul _ _) ?_
              refine aw_iconst (v := 1) dX12_guess_79 (by decide) ?_
              refine aw_iadd dX12_guess_80 ?_
              refine aw_eqi (y := nI ((2 * j56) + 1)) (nI_add _ _) ?_
              refine aw_callVi (J' := jX12_octet) (As := [.int (nI ((2 * j56) + 1))]) (st := []) dX12_guess_81 tb_1556 ok_X12_octet ⟨_, e_19⟩ (by omega) rfl rfl (r_octetG l D b N V_19 hN cl j_19.1 (nI ((2 * j56) + 1)) ⟨((2 * j56) + 1), by omega, rfl⟩ g_20 e_20) rfl (Nat.le_of_ble_eq_true rfl) ⟨Nat.le_of_ble_eq_true rfl, Nat.le_of_ble_eq_true rfl, Nat.le_of_ble_eq_true rfl, Nat.le_of_ble_eq_true rfl⟩ (fun r_79 N_80 V_81 q_82 => ?_)
              obtain ⟨h_78, rfl, rfl⟩ := q_82
              refine aw_iconst (v := 1) dX12_guess_84 (by decide) ?_
              refine aw_icmp_le (tgt := 91) dX12_guess_85 (by decide) (fun c_83 => ?_) (fun c_83 => ?_)
              · skip
                refine aw_iinc (v := (nI (j56 + 1))) (ls' := [some (.ref (b + 100)), some (.int (nI zn0)), some (.int (nI zn1)), some (.int (nI (j56 + 1))), none]) dX12_guess_91 rfl (fx_up_1 _) (Nat.le_of_ble_eq_true rfl) rfl ?_
                refine aw_goto (tgt := 56) dX12_guess_94 (by decide) ?_
                refine aw_le ?_ (ih_56_21 (j56 + 1)   (by omega) ((TP.step i56_0 hzr_65 (h_64.trans (by rw [nI_clamp (n := 2 * j56) (by omega)])))))
                exact ⟨rfl, ⟨rfl, ⟨rfl, ⟨rfl, trivial⟩⟩⟩⟩
              · skip
                refine aw_bipush (v := (-3)) dX12_guess_88 (by decide) ?_
                refine aw_ireti dX12_guess_90 rfl (Nat.le_of_ble_eq_true rfl) (Nat.le_of_ble_eq_true rfl) ?_
                exact ⟨rfl, j_19⟩
        refine aw_le ?_ (loop_56_20 zn0 0   (by omega) (fun i h => absurd h (Nat.not_lt_zero i)))
        exact ⟨rfl, ⟨rfl, ⟨rfl, ⟨rfl, trivial⟩⟩⟩⟩
      · skip
        have nc_18 : ¬ ((2 * zn0) ≤ tad_17) := fun z => c_18 ((nI_leI (a := (2 * zn0)) (b := tad_17) (by omega) (by omega)).mpr z)
        refine aw_iconst (v := (-1)) dX12_guess_47 (by decide) ?_
        refine aw_ireti dX12_guess_48 rfl (Nat.le_of_ble_eq_true rfl) (Nat.le_of_ble_eq_true rfl) ?_
        exact ⟨rfl, hJ0⟩
    · skip
      refine aw_iload_n dX12_guess_20 rfl ?_
      refine aw_bipush (v := 20) dX12_guess_21 (by decide) ?_
      refine aw_bipush (v := 35) dX12_guess_23 (by decide) ?_
      refine aw_callSi (J' := jX12_in) (As := [.int n1, .int 20, .int 35]) (st := []) dX12_guess_25 tb_1209 ok_X12_in rfl (r_in l D b N V hN cl hJ0.1 n1 20 35) rfl (Nat.le_of_ble_eq_true rfl) ⟨Nat.le_of_ble_eq_true rfl, Nat.le_of_ble_eq_true rfl, Nat.le_of_ble_eq_true rfl, Nat.le_of_ble_eq_true rfl⟩ (fun r_87 N_88 V_89 q_90 => ?_)
      obtain ⟨⟨z_86, h_85⟩, rfl, rfl⟩ := q_90
      refine aw_if_ne (tgt := 37) dX12_guess_28 (by decide) (fun c_91 => ?_) (fun c_91 => ?_)
      · skip
        obtain ⟨zn1, h0zn1, hzn1, rfl⟩ := in_nat (a := 20) (b := 35) (by decide) (h_85.resolve_left c_91)
        refine aw_iconst (v := 2) dX12_guess_37 (by decide) ?_
        refine aw_iload_n dX12_guess_38 rfl ?_
        refine aw_imul dX12_guess_39 ?_
        refine aw_eqi (y := nI (2 * zn0)) (pk_mul _ _) ?_
        refine aw_aload_n dX12_guess_40 rfl ?_
        obtain ⟨ftoldPeople_92, ftoldDoors_92, fwasDoors_92, ffault_92, fopen_92, flines_92, fmeantSet_92, fopenedNow_92, fvainNow_92, flowNow_92, fhighNow_92, fisKept_92, tad_92, pl0_92, le0_92, nu0_92, coy_92, wag_92, say_92, e_92, hntad_92, hnpl0_92, hnle0_92, hnnu0_92, hncoy_92, hnwag_92, hnsay_92⟩ := JR.get hJ0 cm_100
        refine aw_get dX12_guess_41 fl_X12_152 e_92 (by omega) rfl ?_
        refine aw_icmp_le (tgt := 49) dX12_guess_44 (by decide) (fun c_93 => ?_) (fun c_93 => ?_)
        · skip
          have nc_93 : (2 * zn0) ≤ tad_92 := (nI_leI (a := (2 * zn0)) (b := tad_92) (by omega) (by omega)).mp c_93
          refine aw_aload_n dX12_guess_49 rfl ?_
          refine aw_iconst (v := 0) dX12_guess_50 (by decide) ?_
          refine aw_put dX12_guess_51 fp_X12_152 e_92 (by omega) rfl rfl (Nat.le_of_ble_eq_true rfl) rfl ?_
          refine aw_upR hJ0 cm_100 ⟨_, _, _, _, _, _, _, _, _, _, _, _, 0, pl0_92, le0_92, nu0_92, coy_92, wag_92, say_92, rfl, by omega, by omega, by omega, by omega, by omega, by omega, by omega⟩ (by decide) (WO (s := 13) (x := .int 0) e_92 rfl LM0 (by decide) (by decide) (by decide) (Or.inl (by decide))) (fun V_94 j_94 k_94 e_94 => ?_)
          obtain ⟨g_95, e_95⟩ := JR.get j_94 cm_110
          refine aw_iconst (v := 0) dX12_guess_54 (by decide) ?_
          refine aw_istore_n (ls' := [some (.ref (b + 100)), some (.int (nI zn0)), some (.int (nI zn1)), some (.int 0), none]) dX12_guess_55 (Nat.le_of_ble_eq_true rfl) rfl ?_
          have loop_56_95 : ∀ (g_56 : Nat), ∀ (j56 : Nat), j56 + g_56 = zn0 → (TP g_95 j56) → AW l D b jX12_guess (fx_rm 4 0 0) none (fx_MQ D b 0 0 (fx_qi (fun r N9 V9 => N = N9 ∧ JR D b N cl [(100, 100, 13, 13), (100, 100, 45, 45), (100, 100, 46, 46)] V V9))) 56 [some (.ref (b + 100)), some (.int (nI zn0)), some (.int (nI zn1)), some (.int (nI j56)), none] [] N V_94 0 0 := by
            intro g_56
            induction g_56 with
            | zero =>
              intro j56  hj56 i56_0
              obtain rfl : zn0 = j56 := by omega
              refine aw_iload_n dX12_guess_56 rfl ?_
              refine aw_iload_n dX12_guess_57 rfl ?_
              refine aw_icmp_ge (tgt := 97) dX12_guess_58 (by decide) (fun c_98 => ?_) (fun c_98 => ?_)
              rotate_left
              · exact absurd (nI_le (a := zn0) (b := zn0) (Nat.le_refl _) (by omega)) c_98
              refine aw_iload_n dX12_guess_97 rfl ?_
              refine aw_bipush (v := 100) dX12_guess_98 (by decide) ?_
              refine aw_icmp_eq (tgt := 146) dX12_guess_100 (by decide) (fun c_99 => ?_) (fun c_99 => ?_)
              · skip
                have nc_99 : zn1 = 100 := (nI_eq (a := zn1) (b := 100) (by omega) (by omega)).mp c_99
                refine aw_iconst (v := 0) dX12_guess_146 (by decide) ?_
                refine aw_istore_n (ls' := [some (.ref (b + 100)), some (.int (nI zn0)), some (.int (nI zn1)), some (.int 0), none]) dX12_guess_147 (Nat.le_of_ble_eq_true rfl) rfl ?_
                refine aw_iconst (v := 0) dX12_guess_148 (by decide) ?_
                refine aw_istore (ls' := [some (.ref (b + 100)), some (.int (nI zn0)), some (.int (nI zn1)), some (.int 0), some (.int 0)]) dX12_guess_149 (Nat.le_of_ble_eq_true rfl) rfl ?_
                have loop_151_99 : ∀ (g_151 : Nat), ∀ (j151 : Nat) (v151_3 : Int32) (V151 : Wd), j151 + g_151 = 16 → (JR D b N cl [(100, 100, 13, 13), (100, 100, 45, 45), (100, 100, 46, 46)] V V151) → (V151 110 = cB D 260 g_95) → AW l D b jX12_guess (fx_rm 4 0 0) none (fx_MQ D b 0 0 (fx_qi (fun r N9 V9 => N = N9 ∧ JR D b N cl [(100, 100, 13, 13), (100, 100, 45, 45), (100, 100, 46, 46)] V V9))) 151 [some (.ref (b + 100)), some (.int (nI zn0)), some (.int (nI zn1)), some (.int v151_3), some (.int (nI j151))] [] N V151 0 0 := by
                  intro g_151
                  induction g_151 with
                  | zero =>
                    intro j151 v151_3 V151 hj151 i151_0 i151_1
                    obtain rfl : j151 = 16 := by omega
                    refine aw_iload dX12_guess_151 rfl ?_
                    refine aw_bipush (v := 16) dX12_guess_153 (by decide) ?_
                    refine aw_icmp_ge (tgt := 181) dX12_guess_155 (by decide) (fun c_102 => ?_) (fun c_102 => ?_)
                    rotate_left
                    · exact absurd (nI_le (a := 16) (b := 16) (Nat.le_refl _) (by omega)) c_102
                    refine aw_iload_n dX12_guess_181 rfl ?_
                    refine aw_ireti dX12_guess_182 rfl (Nat.le_of_ble_eq_true rfl) (Nat.le_of_ble_eq_true rfl) ?_
                    exact ⟨rfl, i151_0⟩
                  | succ g_151 ih_151_100 =>
                    intro j151 v151_3 V151 hj151 i151_0 i151_1
                    have hlj151 : j151 < 16 := by omega
                    refine aw_iload dX12_guess_151 rfl ?_
                    refine aw_bipush (v := 16) dX12_guess_153 (by decide) ?_
                    refine aw_icmp_ge (tgt := 181) dX12_guess_155 (by decide) (fun c_103 => ?_) (fun c_103 => ?_)
                    · exact absurd c_103 (nI_ge (a := j151) (b := 16) (by omega) (by omega))
                    refine aw_aload_n dX12_guess_158 rfl ?_
                    refine aw_iload_n dX12_guess_159 rfl ?_
                    refine aw_iload dX12_guess_160 rfl ?_
                    obtain ⟨ftoldPeople_109, ftoldDoors_109, fwasDoors_109, ffault_109, fopen_109, flines_109, fmeantSet_109, fopenedNow_109, fvainNow_109, flowNow_109, fhighNow_109, fisKept_109, tad_109, pl0_109, le0_109, nu0_109, coy_109, wag_109, say_109, e_109, hntad_109, hnpl0_109, hnle0_109, hnnu0_109, hncoy_109, hnwag_109, hnsay_109⟩ := JR.get i151_0 cm_100
                    refine aw_callVi (J' := jX12_bounds) (As := [.int (nI zn0), .int (nI j151)]) (st := []) dX12_guess_162 tb_1560 ok_X12_bounds ⟨_, e_109⟩ (by omega) rfl rfl (r_bounds l D b N V151 hN cl i151_0.1 (nI zn0) ⟨zn0, by omega, rfl⟩ (nI j151) ⟨j151, by omega, rfl⟩ g_95 i151_1 (by rw [nI_clamp (n := zn0) (by omega)]; exact i56_0)) rfl (Nat.le_of_ble_eq_true rfl) ⟨Nat.le_of_ble_eq_true rfl, Nat.le_of_ble_eq_true rfl, Nat.le_of_ble_eq_true rfl, Nat.le_of_ble_eq_true rfl⟩ (fun r_110 N_111 V_108 q_112 => ?_)
                    obtain ⟨⟨z_106, h_105⟩, rfl, q_104⟩ := q_112
                    have j_107 := JR.trans i151_0 (JR.weak q_104 (Sub.cons (LMs LM0) (by decide) (by decide) (by decide) (Or.inr ⟨by decide, by decide⟩) (Sub.cons (LMs (LMs LM0)) (by decide) (by decide) (by decide) (Or.inr ⟨by decide, by decide⟩) Sub.nil)))
                    refine aw_if_eq (tgt := 175) dX12_guess_165 (by decide) (fun c_113 => ?_) (fun c_113 => ?_)
                    · skip
                      refine aw_iinc (v := (nI (j151 + 1))) (ls' := [some (.ref (b + 100)), some (.int (nI zn0)), some (.int (nI zn1)), some (.int v151_3), some (.int (nI (j151 + 1)))]) dX12_guess_175 rfl (fx_up_1 _) (Nat.le_of_ble_eq_true rfl) rfl ?_
                      refine aw_goto (tgt := 151) dX12_guess_178 (by decide) ?_
                      refine aw_le ?_ (ih_151_100 (j151 + 1) v151_3 V_108 (by omega) (j_107) ((h_105.trans i151_1)))
                      exact ⟨rfl, ⟨rfl, ⟨rfl, ⟨rfl, ⟨rfl, trivial⟩⟩⟩⟩⟩
                    · skip
                      refine aw_iload_n dX12_guess_168 rfl ?_
                      refine aw_iconst (v := 1) dX12_guess_169 (by decide) ?_
                      refine aw_iload dX12_guess_170 rfl ?_
                      refine aw_ishl dX12_guess_172 ?_
                      refine aw_ior dX12_guess_173 ?_
                      refine aw_istore_n (ls' := [some (.ref (b + 100)), some (.int (nI zn0)), some (.int (nI zn1)), some (.int (v151_3 ||| ((1 : Int32) <<< ((nI j151) &&& 31)))), some (.int (nI j151))]) dX12_guess_174 (Nat.le_of_ble_eq_true rfl) rfl ?_
                      refine aw_iinc (v := (nI (j151 + 1))) (ls' := [some (.ref (b + 100)), some (.int (nI zn0)), some (.int (nI zn1)), some (.int (v151_3 ||| ((1 : Int32) <<< ((nI j151) &&& 31)))), some (.int (nI (j151 + 1)))]) dX12_guess_175 rfl (fx_up_1 _) (Nat.le_of_ble_eq_true rfl) rfl ?_
                      refine aw_goto (tgt := 151) dX12_guess_178 (by decide) ?_
                      refine aw_le ?_ (ih_151_100 (j151 + 1) (v151_3 ||| ((1 : Int32) <<< ((nI j151) &&& 31))) V_108 (by omega) (j_107) ((h_105.trans i151_1)))
                      exact ⟨rfl, ⟨rfl, ⟨rfl, ⟨rfl, ⟨rfl, trivial⟩⟩⟩⟩⟩
                refine aw_le ?_ (loop_151_99 16 0 0 V_94 (by omega) (j_94) (e_95))
                exact ⟨rfl, ⟨rfl, ⟨rfl, ⟨rfl, ⟨rfl, trivial⟩⟩⟩⟩⟩
              · skip
                have nc_99 : ¬ (zn1 = 100) := fun z => c_99 ((nI_eq (a := zn1) (b := 100) (by omega) (by omega)).mpr z)
                refine aw_aload_n dX12_guess_103 rfl ?_
                refine aw_iload_n dX12_guess_104 rfl ?_
                refine aw_iload_n dX12_guess_105 rfl ?_
                refine aw_bipush (v := 20) dX12_guess_106 (by decide) ?_
                refine aw_icmp_ge (tgt := 115) dX12_guess_108 (by decide) (fun c_114 => ?_) (fun c_114 => ?_)
                · skip
                  have nc_114 : 20 ≤ zn1 := (nI_leI (a := 20) (b := zn1) (by omega) (by omega)).mp c_114
                  refine aw_iload_n dX12_guess_115 rfl ?_
                  refine aw_bipush (v := 20) dX12_guess_116 (by decide) ?_
                  refine aw_isub dX12_guess_118 ?_
                  refine aw_eqi (y := (nI (zn1 - 20))) (pk_sub (a := zn1) (b := 20) (by omega)) ?_
                  refine aw_callVi (J' := jX12_bounds) (As := [.int (nI zn0), .int (nI (zn1 - 20))]) (st := []) dX12_guess_119 tb_1560 ok_X12_bounds ⟨_, e_94⟩ (by omega) rfl rfl (r_bounds l D b N V_94 hN cl j_94.1 (nI zn0) ⟨zn0, by omega, rfl⟩ (nI (zn1 - 20)) ⟨(zn1 - 20), by omega, rfl⟩ g_95 e_95 (by rw [nI_clamp (n := zn0) (by omega)]; exact i56_0)) rfl (Nat.le_of_ble_eq_true rfl) ⟨Nat.le_of_ble_eq_true rfl, Nat.le_of_ble_eq_true rfl, Nat.le_of_ble_eq_true rfl, Nat.le_of_ble_eq_true rfl⟩ (fun r_120 N_121 V_119 q_122 => ?_)
                  obtain ⟨⟨z_117, h_116⟩, rfl, q_115⟩ := q_122
                  have j_118 := JR.trans j_94 (JR.weak q_115 (Sub.cons (LMs LM0) (by decide) (by decide) (by decide) (Or.inr ⟨by decide, by decide⟩) (Sub.cons (LMs (LMs LM0)) (by decide) (by decide) (by decide) (Or.inr ⟨by decide, by decide⟩) Sub.nil)))
                  refine aw_if_ne (tgt := 128) dX12_guess_122 (by decide) (fun c_123 => ?_) (fun c_123 => ?_)
                  · skip
                    refine aw_iload_n dX12_guess_128 rfl ?_
                    refine aw_bipush (v := 20) dX12_guess_129 (by decide) ?_
                    refine aw_icmp_ge (tgt := 141) dX12_guess_131 (by decide) (fun c_124 => ?_) (fun c_124 => ?_)
                    rotate_left
                    · exact absurd c_114 c_124
                    have nc_124 : 20 ≤ zn1 := (nI_leI (a := 20) (b := zn1) (by omega) (by omega)).mp c_124
                    refine aw_aload_n dX12_guess_141 rfl ?_
                    obtain ⟨ftoldPeople_125, ftoldDoors_125, fwasDoors_125, ffault_125, fopen_125, flines_125, fmeantSet_125, fopenedNow_125, fvainNow_125, flowNow_125, fhighNow_125, fisKept_125, tad_125, pl0_125, le0_125, nu0_125, coy_125, wag_125, say_125, e_125, hntad_125, hnpl0_125, hnle0_125, hnnu0_125, hncoy_125, hnwag_125, hnsay_125⟩ := JR.get j_118 cm_100
                    refine aw_get dX12_guess_142 fl_X12_398 e_125 (by omega) rfl ?_
                    refine aw_ireti dX12_guess_145 rfl (Nat.le_of_ble_eq_true rfl) (Nat.le_of_ble_eq_true rfl) ?_
                    exact ⟨rfl, j_118⟩
                  · skip
                    refine aw_bipush (v := (-2)) dX12_guess_125 (by decide) ?_
                    refine aw_ireti dX12_guess_127 rfl (Nat.le_of_ble_eq_true rfl) (Nat.le_of_ble_eq_true rfl) ?_
                    exact ⟨rfl, j_118⟩
                · skip
                  have nc_114 : ¬ (20 ≤ zn1) := fun z => c_114 ((nI_leI (a := 20) (b := zn1) (by omega) (by omega)).mpr z)
                  refine aw_iload_n dX12_guess_111 rfl ?_
                  refine aw_goto (tgt := 119) dX12_guess_112 (by decide) ?_
                  refine aw_callVi (J' := jX12_bounds) (As := [.int (nI zn0), .int (nI zn1)]) (st := []) dX12_guess_119 tb_1560 ok_X12_bounds ⟨_, e_94⟩ (by omega) rfl rfl (r_bounds l D b N V_94 hN cl j_94.1 (nI zn0) ⟨zn0, by omega, rfl⟩ (nI zn1) ⟨zn1, by omega, rfl⟩ g_95 e_95 (by rw [nI_clamp (n := zn0) (by omega)]; exact i56_0)) rfl (Nat.le_of_ble_eq_true rfl) ⟨Nat.le_of_ble_eq_true rfl, Nat.le_of_ble_eq_true rfl, Nat.le_of_ble_eq_true rfl, Nat.le_of_ble_eq_true rfl⟩ (fun r_131 N_132 V_130 q_133 => ?_)
                  obtain ⟨⟨z_128, h_127⟩, rfl, q_126⟩ := q_133
                  have j_129 := JR.trans j_94 (JR.weak q_126 (Sub.cons (LMs LM0) (by decide) (by decide) (by decide) (Or.inr ⟨by decide, by decide⟩) (Sub.cons (LMs (LMs LM0)) (by decide) (by decide) (by decide) (Or.inr ⟨by decide, by decide⟩) Sub.nil)))
                  refine aw_if_ne (tgt := 128) dX12_guess_122 (by decide) (fun c_134 => ?_) (fun c_134 => ?_)
                  · skip
                    refine aw_iload_n dX12_guess_128 rfl ?_
                    refine aw_bipush (v := 20) dX12_guess_129 (by decide) ?_
                    refine aw_icmp_ge (tgt := 141) dX12_guess_131 (by decide) (fun c_135 => ?_) (fun c_135 => ?_)
                    · first | exact absurd c_135 c_114 | exact absurd c_114 c_135 | exact absurd c_135 (Int32.not_lt.mpr c_114) | exact absurd c_114 (Int32.not_lt.mpr c_135) | exact c_114 (Int32.not_lt.mp c_135) | exact c_114 (Int32.not_le.mp c_135)
                    have nc_135 : ¬ (20 ≤ zn1) := fun z => c_135 ((nI_leI (a := 20) (b := zn1) (by omega) (by omega)).mpr z)
                    refine aw_aload_n dX12_guess_134 rfl ?_
                    obtain ⟨ftoldPeople_136, ftoldDoors_136, fwasDoors_136, ffault_136, fopen_136, flines_136, fmeantSet_136, fopenedNow_136, fvainNow_136, flowNow_136, fhighNow_136, fisKept_136, tad_136, pl0_136, le0_136, nu0_136, coy_136, wag_136, say_136, e_136, hntad_136, hnpl0_136, hnle0_136, hnnu0_136, hncoy_136, hnwag_136, hnsay_136⟩ := JR.get j_129 cm_100
                    refine aw_get dX12_guess_135 fl_X12_395 e_136 (by omega) rfl ?_
                    refine aw_goto (tgt := 145) dX12_guess_138 (by decide) ?_
                    refine aw_ireti dX12_guess_145 rfl (Nat.le_of_ble_eq_true rfl) (Nat.le_of_ble_eq_true rfl) ?_
                    exact ⟨rfl, j_129⟩
                  · skip
                    refine aw_bipush (v := (-2)) dX12_guess_125 (by decide) ?_
                    refine aw_ireti dX12_guess_127 rfl (Nat.le_of_ble_eq_true rfl) (Nat.le_of_ble_eq_true rfl) ?_
                    exact ⟨rfl, j_129⟩
            | succ g_56 ih_56_96 =>
              intro j56  hj56 i56_0
              have hlj56 : j56 < zn0 := by omega
              refine aw_iload_n dX12_guess_56 rfl ?_
              refine aw_iload_n dX12_guess_57 rfl ?_
              refine aw_icmp_ge (tgt := 97) dX12_guess_58 (by decide) (fun c_137 => ?_) (fun c_137 => ?_)
              · exact absurd c_137 (nI_ge (a := j56) (b := zn0) (by omega) (by omega))
              refine aw_aload_n dX12_guess_61 rfl ?_
              refine aw_aload_n dX12_guess_62 rfl ?_
              refine aw_iconst (v := 2) dX12_guess_63 (by decide) ?_
              refine aw_iload_n dX12_guess_64 rfl ?_
              refine aw_imul dX12_guess_65 ?_
              refine aw_eqi (y := nI (2 * j56)) (pk_mul _ _) ?_
              refine aw_callVi (J' := jX12_octet) (As := [.int (nI (2 * j56))]) (st := [.ref (b + 100)]) dX12_guess_66 tb_1556 ok_X12_octet ⟨_, e_94⟩ (by omega) rfl rfl (r_octetG l D b N V_94 hN cl j_94.1 (nI (2 * j56)) ⟨(2 * j56), by omega, rfl⟩ g_95 e_95) rfl (Nat.le_of_ble_eq_true rfl) ⟨Nat.le_of_ble_eq_true rfl, Nat.le_of_ble_eq_true rfl, Nat.le_of_ble_eq_true rfl, Nat.le_of_ble_eq_true rfl⟩ (fun r_140 N_141 V_142 q_143 => ?_)
              obtain ⟨h_139, rfl, rfl⟩ := q_143
              refine aw_callVi (J' := jX12_isTold) (As := [.int r_140]) (st := []) dX12_guess_69 tb_1351 ok_X12_isTold ⟨_, e_94⟩ (by omega) rfl rfl (r_isTold l D b N V_94 hN cl j_94.1 r_140) rfl (Nat.le_of_ble_eq_true rfl) ⟨Nat.le_of_ble_eq_true rfl, Nat.le_of_ble_eq_true rfl, Nat.le_of_ble_eq_true rfl, Nat.le_of_ble_eq_true rfl⟩ (fun r_147 N_148 V_149 q_150 => ?_)
              obtain ⟨⟨z_146, h_145⟩, rfl, rfl⟩ := q_150
              refine aw_if_eq (tgt := 88) dX12_guess_72 (by decide) (fun c_151 => ?_) (fun c_151 => ?_)
              · skip
                refine aw_bipush (v := (-3)) dX12_guess_88 (by decide) ?_
                refine aw_ireti dX12_guess_90 rfl (Nat.le_of_ble_eq_true rfl) (Nat.le_of_ble_eq_true rfl) ?_
                exact ⟨rfl, j_94⟩
              · skip
                obtain ⟨zr_140, hzr_140, rfl⟩ := h_145.resolve_left c_151
                refine aw_aload_n dX12_guess_75 rfl ?_
                refine aw_iconst (v := 2) dX12_guess_76 (by decide) ?_
                refine aw_iload_n dX12_guess_77 rfl ?_
                refine aw_imul dX12_guess_78 ?_
                refine aw_eqi (y := nI (2 * j56)) (pk_mul _ _) ?_
                refine aw_iconst (v := 1) dX12_guess_79 (by decide) ?_
                refine aw_iadd dX12_guess_80 ?_
                refine aw_eqi (y := nI ((2 * j56) + 1)) (nI_add _ _) ?_
                refine aw_callVi (J' := jX12_octet) (As := [.int (nI ((2 * j56) + 1))]) (st := []) dX12_guess_81 tb_1556 ok_X12_octet ⟨_, e_94⟩ (by omega) rfl rfl (r_octetG l D b N V_94 hN cl j_94.1 (nI ((2 * j56) + 1)) ⟨((2 * j56) + 1), by omega, rfl⟩ g_95 e_95) rfl (Nat.le_of_ble_eq_true rfl) ⟨Nat.le_of_ble_eq_true rfl, Nat.le_of_ble_eq_true rfl, Nat.le_of_ble_eq_true rfl, Nat.le_of_ble_eq_true rfl⟩ (fun r_154 N_155 V_156 q_157 => ?_)
                obtain ⟨h_153, rfl, rfl⟩ := q_157
                refine aw_iconst (v := 1) dX12_guess_84 (by decide) ?_
                refine aw_icmp_le (tgt := 91) dX12_guess_85 (by decide) (fun c_158 => ?_) (fun c_158 => ?_)
                · skip
                  refine aw_iinc (v := (nI (j56 + 1))) (ls' := [some (.ref (b + 100)), some (.int (nI zn0)), some (.int (nI zn1)), some (.int (nI (j56 + 1))), none]) dX12_guess_91 rfl (fx_up_1 _) (Nat.le_of_ble_eq_true rfl) rfl ?_
                  refine aw_goto (tgt := 56) dX12_guess_94 (by decide) ?_
                  refine aw_le ?_ (ih_56_96 (j56 + 1)   (by omega) ((TP.step i56_0 hzr_140 (h_139.trans (by rw [nI_clamp (n := 2 * j56) (by omega)])))))
                  exact ⟨rfl, ⟨rfl, ⟨rfl, ⟨rfl, trivial⟩⟩⟩⟩
                · skip
                  refine aw_bipush (v := (-3)) dX12_guess_88 (by decide) ?_
                  refine aw_ireti dX12_guess_90 rfl (Nat.le_of_ble_eq_true rfl) (Nat.le_of_ble_eq_true rfl) ?_
                  exact ⟨rfl, j_94⟩
          refine aw_le ?_ (loop_56_95 zn0 0   (by omega) (fun i h => absurd h (Nat.not_lt_zero i)))
          exact ⟨rfl, ⟨rfl, ⟨rfl, ⟨rfl, trivial⟩⟩⟩⟩
        · skip
          have nc_93 : ¬ ((2 * zn0) ≤ tad_92) := fun z => c_93 ((nI_leI (a := (2 * zn0)) (b := tad_92) (by omega) (by omega)).mpr z)
          refine aw_iconst (v := (-1)) dX12_guess_47 (by decide) ?_
          refine aw_ireti dX12_guess_48 rfl (Nat.le_of_ble_eq_true rfl) (Nat.le_of_ble_eq_true rfl) ?_
          exact ⟨rfl, hJ0⟩
      · skip
        refine aw_iload_n dX12_guess_31 rfl ?_
        refine aw_bipush (v := 100) dX12_guess_32 (by decide) ?_
        refine aw_icmp_ne (tgt := 47) dX12_guess_34 (by decide) (fun c_159 => ?_) (fun c_159 => ?_)
        · skip
          refine aw_iconst (v := (-1)) dX12_guess_47 (by decide) ?_
          refine aw_ireti dX12_guess_48 rfl (Nat.le_of_ble_eq_true rfl) (Nat.le_of_ble_eq_true rfl) ?_
          exact ⟨rfl, hJ0⟩
        · skip
          refine aw_iconst (v := 2) dX12_guess_37 (by decide) ?_
          refine aw_iload_n dX12_guess_38 rfl ?_
          refine aw_imul dX12_guess_39 ?_
          refine aw_eqi (y := nI (2 * zn0)) (pk_mul _ _) ?_
          refine aw_aload_n dX12_guess_40 rfl ?_
          obtain ⟨ftoldPeople_160, ftoldDoors_160, fwasDoors_160, ffault_160, fopen_160, flines_160, fmeantSet_160, fopenedNow_160, fvainNow_160, flowNow_160, fhighNow_160, fisKept_160, tad_160, pl0_160, le0_160, nu0_160, coy_160, wag_160, say_160, e_160, hntad_160, hnpl0_160, hnle0_160, hnnu0_160, hncoy_160, hnwag_160, hnsay_160⟩ := JR.get hJ0 cm_100
          refine aw_get dX12_guess_41 fl_X12_152 e_160 (by omega) rfl ?_
          refine aw_icmp_le (tgt := 49) dX12_guess_44 (by decide) (fun c_161 => ?_) (fun c_161 => ?_)
          · skip
            have nc_161 : (2 * zn0) ≤ tad_160 := (nI_leI (a := (2 * zn0)) (b := tad_160) (by omega) (by omega)).mp c_161
            refine aw_aload_n dX12_guess_49 rfl ?_
            refine aw_iconst (v := 0) dX12_guess_50 (by decide) ?_
            refine aw_put dX12_guess_51 fp_X12_152 e_160 (by omega) rfl rfl (Nat.le_of_ble_eq_true rfl) rfl ?_
            refine aw_upR hJ0 cm_100 ⟨_, _, _, _, _, _, _, _, _, _, _, _, 0, pl0_160, le0_160, nu0_160, coy_160, wag_160, say_160, rfl, by omega, by omega, by omega, by omega, by omega, by omega, by omega⟩ (by decide) (WO (s := 13) (x := .int 0) e_160 rfl LM0 (by decide) (by decide) (by decide) (Or.inl (by decide))) (fun V_162 j_162 k_162 e_162 => ?_)
            obtain ⟨g_163, e_163⟩ := JR.get j_162 cm_110
            refine aw_iconst (v := 0) dX12_guess_54 (by decide) ?_
            refine aw_istore_n (ls' := [some (.ref (b + 100)), some (.int (nI zn0)), some (.int n1), some (.int 0), none]) dX12_guess_55 (Nat.le_of_ble_eq_true rfl) rfl ?_
            have loop_56_163 : ∀ (g_56 : Nat), ∀ (j56 : Nat), j56 + g_56 = zn0 → (TP g_163 j56) → AW l D b jX12_guess (fx_rm 4 0 0) none (fx_MQ D b 0 0 (fx_qi (fun r N9 V9 => N = N9 ∧ JR D b N cl [(100, 100, 13, 13), (100, 100, 45, 45), (100, 100, 46, 46)] V V9))) 56 [some (.ref (b + 100)), some (.int (nI zn0)), some (.int n1), some (.int (nI j56)), none] [] N V_162 0 0 := by
              intro g_56
              induction g_56 with
              | zero =>
                intro j56  hj56 i56_0
                obtain rfl : zn0 = j56 := by omega
                refine aw_iload_n dX12_guess_56 rfl ?_
                refine aw_iload_n dX12_guess_57 rfl ?_
                refine aw_icmp_ge (tgt := 97) dX12_guess_58 (by decide) (fun c_166 => ?_) (fun c_166 => ?_)
                rotate_left
                · exact absurd (nI_le (a := zn0) (b := zn0) (Nat.le_refl _) (by omega)) c_166
                refine aw_iload_n dX12_guess_97 rfl ?_
                refine aw_bipush (v := 100) dX12_guess_98 (by decide) ?_
                refine aw_icmp_eq (tgt := 146) dX12_guess_100 (by decide) (fun c_167 => ?_) (fun c_167 => ?_)
                rotate_left
                · first | exact absurd c_159 c_167 | exact absurd c_167 c_159
                refine aw_iconst (v := 0) dX12_guess_146 (by decide) ?_
                refine aw_istore_n (ls' := [some (.ref (b + 100)), some (.int (nI zn0)), some (.int n1), some (.int 0), none]) dX12_guess_147 (Nat.le_of_ble_eq_true rfl) rfl ?_
                refine aw_iconst (v := 0) dX12_guess_148 (by decide) ?_
                refine aw_istore (ls' := [some (.ref (b + 100)), some (.int (nI zn0)), some (.int n1), some (.int 0), some (.int 0)]) dX12_guess_149 (Nat.le_of_ble_eq_true rfl) rfl ?_
                have loop_151_167 : ∀ (g_151 : Nat), ∀ (j151 : Nat) (v151_3 : Int32) (V151 : Wd), j151 + g_151 = 16 → (JR D b N cl [(100, 100, 13, 13), (100, 100, 45, 45), (100, 100, 46, 46)] V V151) → (V151 110 = cB D 260 g_163) → AW l D b jX12_guess (fx_rm 4 0 0) none (fx_MQ D b 0 0 (fx_qi (fun r N9 V9 => N = N9 ∧ JR D b N cl [(100, 100, 13, 13), (100, 100, 45, 45), (100, 100, 46, 46)] V V9))) 151 [some (.ref (b + 100)), some (.int (nI zn0)), some (.int n1), some (.int v151_3), some (.int (nI j151))] [] N V151 0 0 := by
                  intro g_151
                  induction g_151 with
                  | zero =>
                    intro j151 v151_3 V151 hj151 i151_0 i151_1
                    obtain rfl : j151 = 16 := by omega
                    refine aw_iload dX12_guess_151 rfl ?_
                    refine aw_bipush (v := 16) dX12_guess_153 (by decide) ?_
                    refine aw_icmp_ge (tgt := 181) dX12_guess_155 (by decide) (fun c_170 => ?_) (fun c_170 => ?_)
                    rotate_left
                    · exact absurd (nI_le (a := 16) (b := 16) (Nat.le_refl _) (by omega)) c_170
                    refine aw_iload_n dX12_guess_181 rfl ?_
                    refine aw_ireti dX12_guess_182 rfl (Nat.le_of_ble_eq_true rfl) (Nat.le_of_ble_eq_true rfl) ?_
                    exact ⟨rfl, i151_0⟩
                  | succ g_151 ih_151_168 =>
                    intro j151 v151_3 V151 hj151 i151_0 i151_1
                    have hlj151 : j151 < 16 := by omega
                    refine aw_iload dX12_guess_151 rfl ?_
                    refine aw_bipush (v := 16) dX12_guess_153 (by decide) ?_
                    refine aw_icmp_ge (tgt := 181) dX12_guess_155 (by decide) (fun c_171 => ?_) (fun c_171 => ?_)
                    · exact absurd c_171 (nI_ge (a := j151) (b := 16) (by omega) (by omega))
                    refine aw_aload_n dX12_guess_158 rfl ?_
                    refine aw_iload_n dX12_guess_159 rfl ?_
                    refine aw_iload dX12_guess_160 rfl ?_
                    obtain ⟨ftoldPeople_177, ftoldDoors_177, fwasDoors_177, ffault_177, fopen_177, flines_177, fmeantSet_177, fopenedNow_177, fvainNow_177, flowNow_177, fhighNow_177, fisKept_177, tad_177, pl0_177, le0_177, nu0_177, coy_177, wag_177, say_177, e_177, hntad_177, hnpl0_177, hnle0_177, hnnu0_177, hncoy_177, hnwag_177, hnsay_177⟩ := JR.get i151_0 cm_100
                    refine aw_callVi (J' := jX12_bounds) (As := [.int (nI zn0), .int (nI j151)]) (st := []) dX12_guess_162 tb_1560 ok_X12_bounds ⟨_, e_177⟩ (by omega) rfl rfl (r_bounds l D b N V151 hN cl i151_0.1 (nI zn0) ⟨zn0, by omega, rfl⟩ (nI j151) ⟨j151, by omega, rfl⟩ g_163 i151_1 (by rw [nI_clamp (n := zn0) (by omega)]; exact i56_0)) rfl (Nat.le_of_ble_eq_true rfl) ⟨Nat.le_of_ble_eq_true rfl, Nat.le_of_ble_eq_true rfl, Nat.le_of_ble_eq_true rfl, Nat.le_of_ble_eq_true rfl⟩ (fun r_178 N_179 V_176 q_180 => ?_)
                    obtain ⟨⟨z_174, h_173⟩, rfl, q_172⟩ := q_180
                    have j_175 := JR.trans i151_0 (JR.weak q_172 (Sub.cons (LMs LM0) (by decide) (by decide) (by decide) (Or.inr ⟨by decide, by decide⟩) (Sub.cons (LMs (LMs LM0)) (by decide) (by decide) (by decide) (Or.inr ⟨by decide, by decide⟩) Sub.nil)))
                    refine aw_if_eq (tgt := 175) dX12_guess_165 (by decide) (fun c_181 => ?_) (fun c_181 => ?_)
                    · skip
                      refine aw_iinc (v := (nI (j151 + 1))) (ls' := [some (.ref (b + 100)), some (.int (nI zn0)), some (.int n1), some (.int v151_3), some (.int (nI (j151 + 1)))]) dX12_guess_175 rfl (fx_up_1 _) (Nat.le_of_ble_eq_true rfl) rfl ?_
                      refine aw_goto (tgt := 151) dX12_guess_178 (by decide) ?_
                      refine aw_le ?_ (ih_151_168 (j151 + 1) v151_3 V_176 (by omega) (j_175) ((h_173.trans i151_1)))
                      exact ⟨rfl, ⟨rfl, ⟨rfl, ⟨rfl, ⟨rfl, trivial⟩⟩⟩⟩⟩
                    · skip
                      refine aw_iload_n dX12_guess_168 rfl ?_
                      refine aw_iconst (v := 1) dX12_guess_169 (by decide) ?_
                      refine aw_iload dX12_guess_170 rfl ?_
                      refine aw_ishl dX12_guess_172 ?_
                      refine aw_ior dX12_guess_173 ?_
                      refine aw_istore_n (ls' := [some (.ref (b + 100)), some (.int (nI zn0)), some (.int n1), some (.int (v151_3 ||| ((1 : Int32) <<< ((nI j151) &&& 31)))), some (.int (nI j151))]) dX12_guess_174 (Nat.le_of_ble_eq_true rfl) rfl ?_
                      refine aw_iinc (v := (nI (j151 + 1))) (ls' := [some (.ref (b + 100)), some (.int (nI zn0)), some (.int n1), some (.int (v151_3 ||| ((1 : Int32) <<< ((nI j151) &&& 31)))), some (.int (nI (j151 + 1)))]) dX12_guess_175 rfl (fx_up_1 _) (Nat.le_of_ble_eq_true rfl) rfl ?_
                      refine aw_goto (tgt := 151) dX12_guess_178 (by decide) ?_
                      refine aw_le ?_ (ih_151_168 (j151 + 1) (v151_3 ||| ((1 : Int32) <<< ((nI j151) &&& 31))) V_176 (by omega) (j_175) ((h_173.trans i151_1)))
                      exact ⟨rfl, ⟨rfl, ⟨rfl, ⟨rfl, ⟨rfl, trivial⟩⟩⟩⟩⟩
                refine aw_le ?_ (loop_151_167 16 0 0 V_162 (by omega) (j_162) (e_163))
                exact ⟨rfl, ⟨rfl, ⟨rfl, ⟨rfl, ⟨rfl, trivial⟩⟩⟩⟩⟩
              | succ g_56 ih_56_164 =>
                intro j56  hj56 i56_0
                have hlj56 : j56 < zn0 := by omega
                refine aw_iload_n dX12_guess_56 rfl ?_
                refine aw_iload_n dX12_guess_57 rfl ?_
                refine aw_icmp_ge (tgt := 97) dX12_guess_58 (by decide) (fun c_182 => ?_) (fun c_182 => ?_)
                · exact absurd c_182 (nI_ge (a := j56) (b := zn0) (by omega) (by omega))
                refine aw_aload_n dX12_guess_61 rfl ?_
                refine aw_aload_n dX12_guess_62 rfl ?_
                refine aw_iconst (v := 2) dX12_guess_63 (by decide) ?_
                refine aw_iload_n dX12_guess_64 rfl ?_
                refine aw_imul dX12_guess_65 ?_
                refine aw_eqi (y := nI (2 * j56)) (pk_mul _ _) ?_
                refine aw_callVi (J' := jX12_octet) (As := [.int (nI (2 * j56))]) (st := [.ref (b + 100)]) dX12_guess_66 tb_1556 ok_X12_octet ⟨_, e_162⟩ (by omega) rfl rfl (r_octetG l D b N V_162 hN cl j_162.1 (nI (2 * j56)) ⟨(2 * j56), by omega, rfl⟩ g_163 e_163) rfl (Nat.le_of_ble_eq_true rfl) ⟨Nat.le_of_ble_eq_true rfl, Nat.le_of_ble_eq_true rfl, Nat.le_of_ble_eq_true rfl, Nat.le_of_ble_eq_true rfl⟩ (fun r_185 N_186 V_187 q_188 => ?_)
                obtain ⟨h_184, rfl, rfl⟩ := q_188
                refine aw_callVi (J' := jX12_isTold) (As := [.int r_185]) (st := []) dX12_guess_69 tb_1351 ok_X12_isTold ⟨_, e_162⟩ (by omega) rfl rfl (r_isTold l D b N V_162 hN cl j_162.1 r_185) rfl (Nat.le_of_ble_eq_true rfl) ⟨Nat.le_of_ble_eq_true rfl, Nat.le_of_ble_eq_true rfl, Nat.le_of_ble_eq_true rfl, Nat.le_of_ble_eq_true rfl⟩ (fun r_192 N_193 V_194 q_195 => ?_)
                obtain ⟨⟨z_191, h_190⟩, rfl, rfl⟩ := q_195
                refine aw_if_eq (tgt := 88) dX12_guess_72 (by decide) (fun c_196 => ?_) (fun c_196 => ?_)
                · skip
                  refine aw_bipush (v := (-3)) dX12_guess_88 (by decide) ?_
                  refine aw_ireti dX12_guess_90 rfl (Nat.le_of_ble_eq_true rfl) (Nat.le_of_ble_eq_true rfl) ?_
                  exact ⟨rfl, j_162⟩
                · skip
                  obtain ⟨zr_185, hzr_185, rfl⟩ := h_190.resolve_left c_196
                  refine aw_aload_n dX12_guess_75 rfl ?_
                  refine aw_iconst (v := 2) dX12_guess_76 (by decide) ?_
                  refine aw_iload_n dX12_guess_77 rfl ?_
                  refine aw_imul dX12_guess_78 ?_
                  refine aw_eqi (y := nI (2 * j56)) (pk_mul _ _) ?_
                  refine aw_iconst (v := 1) dX12_guess_79 (by decide) ?_
                  refine aw_iadd dX12_guess_80 ?_
                  refine aw_eqi (y := nI ((2 * j56) + 1)) (nI_add _ _) ?_
                  refine aw_callVi (J' := jX12_octet) (As := [.int (nI ((2 * j56) + 1))]) (st := []) dX12_guess_81 tb_1556 ok_X12_octet ⟨_, e_162⟩ (by omega) rfl rfl (r_octetG l D b N V_162 hN cl j_162.1 (nI ((2 * j56) + 1)) ⟨((2 * j56) + 1), by omega, rfl⟩ g_163 e_163) rfl (Nat.le_of_ble_eq_true rfl) ⟨Nat.le_of_ble_eq_true rfl, Nat.le_of_ble_eq_true rfl, Nat.le_of_ble_eq_true rfl, Nat.le_of_ble_eq_true rfl⟩ (fun r_199 N_200 V_201 q_202 => ?_)
                  obtain ⟨h_198, rfl, rfl⟩ := q_202
                  refine aw_iconst (v := 1) dX12_guess_84 (by decide) ?_
                  refine aw_icmp_le (tgt := 91) dX12_guess_85 (by decide) (fun c_203 => ?_) (fun c_203 => ?_)
                  · skip
                    refine aw_iinc (v := (nI (j56 + 1))) (ls' := [some (.ref (b + 100)), some (.int (nI zn0)), some (.int n1), some (.int (nI (j56 + 1))), none]) dX12_guess_91 rfl (fx_up_1 _) (Nat.le_of_ble_eq_true rfl) rfl ?_
                    refine aw_goto (tgt := 56) dX12_guess_94 (by decide) ?_
                    refine aw_le ?_ (ih_56_164 (j56 + 1)   (by omega) ((TP.step i56_0 hzr_185 (h_184.trans (by rw [nI_clamp (n := 2 * j56) (by omega)])))))
                    exact ⟨rfl, ⟨rfl, ⟨rfl, ⟨rfl, trivial⟩⟩⟩⟩
                  · skip
                    refine aw_bipush (v := (-3)) dX12_guess_88 (by decide) ?_
                    refine aw_ireti dX12_guess_90 rfl (Nat.le_of_ble_eq_true rfl) (Nat.le_of_ble_eq_true rfl) ?_
                    exact ⟨rfl, j_162⟩
            refine aw_le ?_ (loop_56_163 zn0 0   (by omega) (fun i h => absurd h (Nat.not_lt_zero i)))
            exact ⟨rfl, ⟨rfl, ⟨rfl, ⟨rfl, trivial⟩⟩⟩⟩
          · skip
            have nc_161 : ¬ ((2 * zn0) ≤ tad_160) := fun z => c_161 ((nI_leI (a := (2 * zn0)) (b := tad_160) (by omega) (by omega)).mpr z)
            refine aw_iconst (v := (-1)) dX12_guess_47 (by decide) ?_
            refine aw_ireti dX12_guess_48 rfl (Nat.le_of_ble_eq_true rfl) (Nat.le_of_ble_eq_true rfl) ?_
            exact ⟨rfl, hJ0⟩
