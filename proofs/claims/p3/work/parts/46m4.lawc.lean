set_option maxHeartbeats 4000000 in
set_option maxRecDepth 100000 in
theorem g_X5_open_1S (l : Launch) (D : va_G) (b : Nat) (N : Nat) (V : Wd) (hN : 100 ≤ N) (hW : CW D b V) (p x : Nat) (hp : 100 ≤ p ∧ p < N) (hx : x = 57 ∨ x = 65) (hR : V p = cO 5 [.ref (b + 1), .ref (b + x)]) (g : Nat → Int32) (hg : V 2 = cI D 260 g) (n a : Nat) (hna : a ≤ n ∧ n ≤ 240) (hE : fI (V 1) 2 = nI n) (hA : fI (V 1) 3 = nI a) (hB : BY g) (hlt : a < n) : MI l D b 1 jX5_open [.ref (b + p), .int 1] N V 0 0 (fun r N9 V9 => ((r = 0 ∨ r = 1) ∧ (r = 1 ∧ fI (V9 1) 3 = nI (a + 1))) ∧ N = N9 ∧ JW D b N [(1, 1, 3, 3)] V V9) := by
  have hJ0 : JW D b N [(1, 1, 3, 3)] V V := JW.rf hW
  refine mw_of (by decide) (by simp [Value.category]) (Nat.le_of_ble_eq_true rfl) ?_
  show AW l D b jX5_open (fx_rm 1 0 0) none (fx_MQ D b 0 0 (fx_qi (fun r N9 V9 => ((r = 0 ∨ r = 1) ∧ (r = 1 ∧ fI (V9 1) 3 = nI (a + 1))) ∧ N = N9 ∧ JW D b N [(1, 1, 3, 3)] V V9))) 0 [some (.ref (b + p)), some (.int 1)] [] N V 0 0
  refine aw_iload_n dX5_open_0 rfl ?_
  refine aw_bipush (v := 6) dX5_open_1 (by decide) ?_
  refine aw_icmp_lt (tgt := 22) dX5_open_3 (by decide) (fun c_1 => ?_) (fun c_1 => ?_)
  rotate_left
  · exact absurd (by decide) c_1
  refine aw_aload_n dX5_open_22 rfl ?_
  refine aw_get dX5_open_23 fl_X5_15 ((hJ0.2.1 _ hp.1 hp.2).trans hR) (by omega) rfl ?_
  refine aw_dup dX5_open_26 rfl ?_
  obtain ⟨ts_2, tn_2, tf_2, ta_2, e_2, hta_2⟩ := JW.get hJ0 ct_1
  refine aw_get dX5_open_27 fl_X5_25 e_2 (by omega) rfl ?_
  refine aw_eqi (y := (nI a)) ((Eq.symm (congrArg (fun z => fI z 3) e_2)).trans hA) ?_
  refine aw_iconst (v := 1) dX5_open_30 (by decide) ?_
  refine aw_iadd dX5_open_31 ?_
  refine aw_eqi (y := nI (a + 1)) (nI_add _ _) ?_
  refine aw_put dX5_open_32 fp_X5_25 e_2 (by omega) rfl rfl (Nat.le_of_ble_eq_true rfl) rfl ?_
  refine aw_up hJ0 ct_1 ⟨_, _, _, (a + 1), rfl, (by first | omega | (split <;> omega))⟩ (WO (s := 3) (x := .int (nI (a + 1))) e_2 rfl LM0 (by decide) (by decide) (by decide) (Or.inl (by decide))) (fun V_3 j_3 k_3 e_3 => ?_)
  refine aw_iconst (v := 1) dX5_open_35 (by decide) ?_
  refine aw_zreti dX5_open_36 rfl (by first | exact Or.inl rfl | exact Or.inr rfl | assumption) (Nat.le_of_ble_eq_true rfl) (Nat.le_of_ble_eq_true rfl) ?_
  exact ⟨⟨(by first | exact Or.inl rfl | exact Or.inr rfl | assumption), ⟨rfl, ((congrArg (fun z => fI z 3) e_3).trans rfl)⟩⟩, rfl, j_3⟩

set_option maxHeartbeats 20000000 in
set_option maxRecDepth 100000 in
theorem g_X5_readFactor_1S (l : Launch) (D : va_G) (b : Nat) (N : Nat) (V : Wd) (hN : 100 ≤ N) (hW : CW D b V) (p x : Nat) (hp : 100 ≤ p ∧ p < N) (hx : x = 57 ∨ x = 65) (hR : V p = cO 5 [.ref (b + 1), .ref (b + x)]) (g : Nat → Int32) (hg : V 2 = cI D 260 g) (n a : Nat) (hna : a ≤ n ∧ n ≤ 240) (hE : fI (V 1) 2 = nI n) (hA : fI (V 1) 3 = nI a) (hB : BY g) (s : List Nat) (hs : dpt s = 1) : MI l D b 20 jX5_readFactor [.ref (b + p), .int 1] N V 0 0 (fun r N9 V9 => ((r = 0 ∨ r = 1) ∧ ((∃ f, RES g n (0, a, s) (.inl f) ∧ fI (V9 1) 4 = f ∧ r = 0) ∨ (∃ a9, (∀ o, RES g n (1, a9, s) o → RES g n (0, a, s) o) ∧ fI (V9 1) 3 = nI a9 ∧ (a < a9 ∧ a9 ≤ n) ∧ r = 1))) ∧ N = N9 ∧ JW D b N [(1, 1, 3, 3), (1, 1, 4, 4), (x + 1, x + 1, 0, 1000000), (x + 2, x + 2, 0, 1000000), (x, x, 2, 2)] V V9) := by
  have hJ0 : JW D b N [(1, 1, 3, 3), (1, 1, 4, 4), (x + 1, x + 1, 0, 1000000), (x + 2, x + 2, 0, 1000000), (x, x, 2, 2)] V V := JW.rf hW
  refine mw_of (by decide) (by simp [Value.category]) (Nat.le_of_ble_eq_true rfl) ?_
  show AW l D b jX5_readFactor (fx_rm 20 0 0) none (fx_MQ D b 0 0 (fx_qi (fun r N9 V9 => ((r = 0 ∨ r = 1) ∧ ((∃ f, RES g n (0, a, s) (.inl f) ∧ fI (V9 1) 4 = f ∧ r = 0) ∨ (∃ a9, (∀ o, RES g n (1, a9, s) o → RES g n (0, a, s) o) ∧ fI (V9 1) 3 = nI a9 ∧ (a < a9 ∧ a9 ≤ n) ∧ r = 1))) ∧ N = N9 ∧ JW D b N [(1, 1, 3, 3), (1, 1, 4, 4), (x + 1, x + 1, 0, 1000000), (x + 2, x + 2, 0, 1000000), (x, x, 2, 2)] V V9))) 0 [some (.ref (b + p)), some (.int 1), none, none] [] N V 0 0
  refine aw_aload_n dX5_readFactor_0 rfl ?_
  refine aw_get dX5_readFactor_1 fl_X5_15 ((hJ0.2.1 _ hp.1 hp.2).trans hR) (by omega) rfl ?_
  obtain ⟨ts_3, tn_3, tf_3, ta_3, e_3, hta_3⟩ := JW.get hJ0 ct_1
  refine aw_callVi (J' := jX10_now) (As := []) (st := []) dX5_readFactor_4 tb_390 ok_X10_now ⟨_, e_3⟩ (by omega) rfl rfl (g_X10_nowS l D b N V hN hJ0.1 g hg n a ⟨by omega, by omega⟩ hE hA) rfl (Nat.le_of_ble_eq_true rfl) ⟨Nat.le_of_ble_eq_true rfl, Nat.le_of_ble_eq_true rfl, Nat.le_of_ble_eq_true rfl, Nat.le_of_ble_eq_true rfl⟩ (fun r_4 N_5 V_6 q_7 => ?_)
  obtain ⟨h_2, rfl, rfl⟩ := q_7
  refine aw_eqi (y := (hd g n a)) h_2 ?_
  refine aw_istore_n (ls' := [some (.ref (b + p)), some (.int 1), some (.int (hd g n a)), none]) dX5_readFactor_7 (Nat.le_of_ble_eq_true rfl) rfl ?_
  refine aw_iload_n dX5_readFactor_8 rfl ?_
  refine aw_bipush (v := 91) dX5_readFactor_9 (by decide) ?_
  refine aw_icmp_ne (tgt := 50) dX5_readFactor_11 (by decide) (fun c_8 => ?_) (fun c_8 => ?_)
  · skip
    refine aw_iload_n dX5_readFactor_50 rfl ?_
    refine aw_callSi (J' := jX10_isDigit) (As := [.int (hd g n a)]) (st := []) dX5_readFactor_51 tb_413 ok_X10_isDigit rfl (g_X10_isDigitS l D b N V hN hJ0.1 (hd g n a)) rfl (Nat.le_of_ble_eq_true rfl) ⟨Nat.le_of_ble_eq_true rfl, Nat.le_of_ble_eq_true rfl, Nat.le_of_ble_eq_true rfl, Nat.le_of_ble_eq_true rfl⟩ (fun r_12 N_13 V_14 q_15 => ?_)
    obtain ⟨⟨z_11, h_10⟩, rfl, rfl⟩ := q_15
    rcases h_10 with ⟨hy_16, e_17⟩ | ⟨hn_18, e_19⟩
    · skip
      refine aw_eqi (y := 1) e_17 ?_
      obtain ⟨z_20, hz_20, ez_20⟩ := isDg_nat hy_16
      have hlz_20 := isDg_hd hy_16
      refine aw_if_eq (tgt := 85) dX5_readFactor_54 (by decide) (fun c_21 => ?_) (fun c_21 => ?_)
      · exact absurd c_21 (by decide)
      refine aw_aload_n dX5_readFactor_57 rfl ?_
      refine aw_get dX5_readFactor_58 fl_X5_15 ((hJ0.2.1 _ hp.1 hp.2).trans hR) (by omega) rfl ?_
      refine aw_iconst (v := 5) dX5_readFactor_61 (by decide) ?_
      refine aw_callVi (J' := jX10_readNumber) (As := [.int 5]) (st := []) dX5_readFactor_62 tb_414 ok_X10_readNumber ⟨_, e_3⟩ (by omega) rfl rfl (g_X10_readNumber_5S l D b N V hN hJ0.1 g hg n a ⟨by omega, by omega⟩ hE hA) rfl (Nat.le_of_ble_eq_true rfl) ⟨Nat.le_of_ble_eq_true rfl, Nat.le_of_ble_eq_true rfl, Nat.le_of_ble_eq_true rfl, Nat.le_of_ble_eq_true rfl⟩ (fun r_26 N_27 V_25 q_28 => ?_)
      obtain ⟨h_23, rfl, q_22⟩ := q_28
      have j_24 := JW.trans hJ0 (JW.weak q_22 (Sub.cons LM0 (by decide) (by decide) (by decide) (Or.inr ⟨by decide, by decide⟩) (Sub.cons (LMs LM0) (by decide) (by decide) (by decide) (Or.inr ⟨by decide, by decide⟩) Sub.nil)))
      rcases h_23 with ⟨f_29, hx_30, hk_31, e_32⟩ | ⟨a_33, v_34, hx_35, hk_36, hb_37, e_38⟩
      · skip
        refine aw_eqi (y := (-1)) e_32 ?_
        refine aw_istore_n (ls' := [some (.ref (b + p)), some (.int 1), some (.int (hd g n a)), some (.int (-1))]) dX5_readFactor_65 (Nat.le_of_ble_eq_true rfl) rfl ?_
        refine aw_iload_n dX5_readFactor_66 rfl ?_
        refine aw_if_ge (tgt := 72) dX5_readFactor_67 (by decide) (fun c_39 => ?_) (fun c_39 => ?_)
        · exact absurd c_39 (by decide)
        refine aw_iconst (v := 0) dX5_readFactor_70 (by decide) ?_
        refine aw_zreti dX5_readFactor_71 rfl (by first | exact Or.inl rfl | exact Or.inr rfl | assumption) (Nat.le_of_ble_eq_true rfl) (Nat.le_of_ble_eq_true rfl) ?_
        exact ⟨⟨(by first | exact Or.inl rfl | exact Or.inr rfl | assumption), Or.inl ⟨_, F_numf hy_16 hx_30, hk_31, rfl⟩⟩, rfl, j_24⟩
      · skip
        refine aw_eqi (y := (nI v_34)) e_38 ?_
        obtain ⟨hb_37a, hb_37b, hb_37c⟩ := hb_37
        refine aw_istore_n (ls' := [some (.ref (b + p)), some (.int 1), some (.int (hd g n a)), some (.int (nI v_34))]) dX5_readFactor_65 (Nat.le_of_ble_eq_true rfl) rfl ?_
        refine aw_iload_n dX5_readFactor_66 rfl ?_
        refine aw_if_ge (tgt := 72) dX5_readFactor_67 (by decide) (fun c_40 => ?_) (fun c_40 => ?_)
        rotate_left
        · have nc_40 : ¬ (0 ≤ v_34) := fun z => c_40 ((nI_leI (a := 0) (b := v_34) (by omega) (by omega)).mpr z)
          omega
        have nc_40 : 0 ≤ v_34 := (nI_leI (a := 0) (b := v_34) (by omega) (by omega)).mp c_40
        refine aw_aload_n dX5_readFactor_72 rfl ?_
        refine aw_get dX5_readFactor_73 fl_X5_9 ((j_24.2.1 _ hp.1 hp.2).trans hR) (by omega) rfl ?_
        refine aw_bipush (v := 35) dX5_readFactor_76 (by decide) ?_
        refine aw_iload_n dX5_readFactor_78 rfl ?_
        obtain ⟨s8_44, r8_44, h8_44, e_44, hs_44, hr_44⟩ := JW.get j_24 (ctl_0 hx)
        refine aw_callVi (J' := jX4_add) (As := [.int 35, .int (nI v_34)]) (st := []) dX5_readFactor_79 tb_415 ok_X4_add ⟨_, e_44⟩ (by omega) rfl rfl (g_X4_add l D b N V_25 hN j_24.1 x hx 35 (nI v_34) (nI_pos' (by omega))) rfl (Nat.le_of_ble_eq_true rfl) ⟨Nat.le_of_ble_eq_true rfl, Nat.le_of_ble_eq_true rfl, Nat.le_of_ble_eq_true rfl, Nat.le_of_ble_eq_true rfl⟩ (fun r_45 N_46 V_43 q_47 => ?_)
        obtain ⟨rfl, q_41⟩ := q_47
        have j_42 := JW.trans j_24 (JW.weak q_41 (Sub.cons (LMs (LMs LM0)) (by omega) (by omega) (by decide) (Or.inl rfl) (Sub.cons (LMs (LMs (LMs LM0))) (by omega) (by omega) (by decide) (Or.inl rfl) (Sub.cons (LMs (LMs (LMs (LMs LM0)))) (by omega) (by omega) (by decide) (Or.inr ⟨by decide, by decide⟩) Sub.nil))))
        refine aw_pop dX5_readFactor_82 rfl ?_
        refine aw_iconst (v := 1) dX5_readFactor_83 (by decide) ?_
        refine aw_zreti dX5_readFactor_84 rfl (by first | exact Or.inl rfl | exact Or.inr rfl | assumption) (Nat.le_of_ble_eq_true rfl) (Nat.le_of_ble_eq_true rfl) ?_
        exact ⟨⟨(by first | exact Or.inl rfl | exact Or.inr rfl | assumption), Or.inr ⟨_, fun o q => F_num hy_16 hx_35 q, ((JW.fI q_41 (by omega) (nfc (by omega) (nfc (by omega) (nfc (by omega) nf0)))).trans hk_36), ⟨by omega, by omega⟩, rfl⟩⟩, rfl, j_42⟩
    · skip
      refine aw_eqi (y := 0) e_19 ?_
      refine aw_if_eq (tgt := 85) dX5_readFactor_54 (by decide) (fun c_48 => ?_) (fun c_48 => ?_)
      rotate_left
      · exact absurd (by decide) c_48
      refine aw_iload_n dX5_readFactor_85 rfl ?_
      refine aw_if_ge (tgt := 93) dX5_readFactor_86 (by decide) (fun c_49 => ?_) (fun c_49 => ?_)
      · skip
        refine aw_strIdx3 rfl dX5_readFactor_93 dX5_readFactor_95 dX5_readFactor_96 dX5_readFactor_97 rfl rfl (Nat.le_of_ble_eq_true rfl) ⟨Nat.le_of_ble_eq_true rfl, Nat.le_of_ble_eq_true rfl, Nat.le_of_ble_eq_true rfl, Nat.le_of_ble_eq_true rfl⟩ (fun ixr hix => ?_)
        have hfc := ix_fac hB (Int32.not_lt.mpr c_49) hix
        refine aw_istore_n (ls' := [some (.ref (b + p)), some (.int 1), some (.int (hd g n a)), some (.int ixr)]) dX5_readFactor_100 (Nat.le_of_ble_eq_true rfl) rfl ?_
        refine aw_iload_n dX5_readFactor_101 rfl ?_
        refine aw_if_ge (tgt := 113) dX5_readFactor_102 (by decide) (fun c_50 => ?_) (fun c_50 => ?_)
        · skip
          have hfac := (hfc.resolve_left (fun z => Int32.not_lt.mpr c_50 z.1)).2
          have hlf := fac_lt hfac
          refine aw_aload_n dX5_readFactor_113 rfl ?_
          refine aw_get dX5_readFactor_114 fl_X5_15 ((hJ0.2.1 _ hp.1 hp.2).trans hR) (by omega) rfl ?_
          refine aw_dup dX5_readFactor_117 rfl ?_
          refine aw_get dX5_readFactor_118 fl_X5_25 e_3 (by omega) rfl ?_
          refine aw_eqi (y := (nI a)) ((Eq.symm (congrArg (fun z => fI z 3) e_3)).trans hA) ?_
          refine aw_iconst (v := 1) dX5_readFactor_121 (by decide) ?_
          refine aw_iadd dX5_readFactor_122 ?_
          refine aw_eqi (y := nI (a + 1)) (nI_add _ _) ?_
          refine aw_put dX5_readFactor_123 fp_X5_25 e_3 (by omega) rfl rfl (Nat.le_of_ble_eq_true rfl) rfl ?_
          refine aw_up hJ0 ct_1 ⟨_, _, _, (a + 1), rfl, (by first | omega | (split <;> omega))⟩ (WO (s := 3) (x := .int (nI (a + 1))) e_3 rfl LM0 (by decide) (by decide) (by decide) (Or.inl (by decide))) (fun V_51 j_51 k_51 e_51 => ?_)
          refine aw_aload_n dX5_readFactor_126 rfl ?_
          refine aw_get dX5_readFactor_127 fl_X5_9 ((j_51.2.1 _ hp.1 hp.2).trans hR) (by omega) rfl ?_
          refine aw_bipush (v := 64) dX5_readFactor_130 (by decide) ?_
          refine aw_iload_n dX5_readFactor_132 rfl ?_
          obtain ⟨s8_55, r8_55, h8_55, e_55, hs_55, hr_55⟩ := JW.get j_51 (ctl_0 hx)
          refine aw_callVi (J' := jX4_add) (As := [.int 64, .int ixr]) (st := []) dX5_readFactor_133 tb_415 ok_X4_add ⟨_, e_55⟩ (by omega) rfl rfl (g_X4_add l D b N V_51 hN j_51.1 x hx 64 ixr c_50) rfl (Nat.le_of_ble_eq_true rfl) ⟨Nat.le_of_ble_eq_true rfl, Nat.le_of_ble_eq_true rfl, Nat.le_of_ble_eq_true rfl, Nat.le_of_ble_eq_true rfl⟩ (fun r_56 N_57 V_54 q_58 => ?_)
          obtain ⟨rfl, q_52⟩ := q_58
          have j_53 := JW.trans j_51 (JW.weak q_52 (Sub.cons (LMs (LMs LM0)) (by omega) (by omega) (by decide) (Or.inl rfl) (Sub.cons (LMs (LMs (LMs LM0))) (by omega) (by omega) (by decide) (Or.inl rfl) (Sub.cons (LMs (LMs (LMs (LMs LM0)))) (by omega) (by omega) (by decide) (Or.inr ⟨by decide, by decide⟩) Sub.nil))))
          refine aw_pop dX5_readFactor_136 rfl ?_
          refine aw_iconst (v := 1) dX5_readFactor_137 (by decide) ?_
          refine aw_zreti dX5_readFactor_138 rfl (by first | exact Or.inl rfl | exact Or.inr rfl | assumption) (Nat.le_of_ble_eq_true rfl) (Nat.le_of_ble_eq_true rfl) ?_
          exact ⟨⟨(by first | exact Or.inl rfl | exact Or.inr rfl | assumption), Or.inr ⟨_, fun o q => F_let hfac q, ((JW.fI q_52 (by omega) (nfc (by omega) (nfc (by omega) (nfc (by omega) nf0)))).trans ((congrArg (fun z => fI z 3) e_51).trans rfl)), ⟨by omega, by omega⟩, rfl⟩⟩, rfl, j_53⟩
        · skip
          refine aw_aload_n dX5_readFactor_105 rfl ?_
          refine aw_get dX5_readFactor_106 fl_X5_15 ((hJ0.2.1 _ hp.1 hp.2).trans hR) (by omega) rfl ?_
          refine aw_callVi (J' := jX10_cannotStand) (As := []) (st := []) dX5_readFactor_109 tb_493 ok_X10_cannotStand ⟨_, e_3⟩ (by omega) rfl rfl (g_X10_cannotStandS l D b N V hN hJ0.1 g hg n a ⟨by omega, by omega⟩ hE hA) rfl (Nat.le_of_ble_eq_true rfl) ⟨Nat.le_of_ble_eq_true rfl, Nat.le_of_ble_eq_true rfl, Nat.le_of_ble_eq_true rfl, Nat.le_of_ble_eq_true rfl⟩ (fun r_64 N_65 V_63 q_66 => ?_)
          obtain ⟨⟨z_61, h_60⟩, rfl, q_59⟩ := q_66
          have j_62 := JW.trans hJ0 (JW.weak q_59 (Sub.cons (LMs LM0) (by decide) (by decide) (by decide) (Or.inr ⟨by decide, by decide⟩) Sub.nil))
          obtain ⟨rfl, h_60f⟩ := h_60
          refine aw_zreti dX5_readFactor_112 rfl (by first | exact Or.inl rfl | exact Or.inr rfl | assumption) (Nat.le_of_ble_eq_true rfl) (Nat.le_of_ble_eq_true rfl) ?_
          exact ⟨⟨(by first | exact Or.inl rfl | exact Or.inr rfl | assumption), Or.inl ⟨_, F_no c_8 hn_18 (hfc.resolve_right (fun z => z.1 (Int32.not_le.mp c_50))).2, h_60f, rfl⟩⟩, rfl, j_62⟩
      · skip
        refine aw_iconst (v := (-1)) dX5_readFactor_89 (by decide) ?_
        refine aw_goto (tgt := 100) dX5_readFactor_90 (by decide) ?_
        refine aw_istore_n (ls' := [some (.ref (b + p)), some (.int 1), some (.int (hd g n a)), some (.int (-1))]) dX5_readFactor_100 (Nat.le_of_ble_eq_true rfl) rfl ?_
        refine aw_iload_n dX5_readFactor_101 rfl ?_
        refine aw_if_ge (tgt := 113) dX5_readFactor_102 (by decide) (fun c_67 => ?_) (fun c_67 => ?_)
        · exact absurd c_67 (by decide)
        refine aw_aload_n dX5_readFactor_105 rfl ?_
        refine aw_get dX5_readFactor_106 fl_X5_15 ((hJ0.2.1 _ hp.1 hp.2).trans hR) (by omega) rfl ?_
        refine aw_callVi (J' := jX10_cannotStand) (As := []) (st := []) dX5_readFactor_109 tb_493 ok_X10_cannotStand ⟨_, e_3⟩ (by omega) rfl rfl (g_X10_cannotStandS l D b N V hN hJ0.1 g hg n a ⟨by omega, by omega⟩ hE hA) rfl (Nat.le_of_ble_eq_true rfl) ⟨Nat.le_of_ble_eq_true rfl, Nat.le_of_ble_eq_true rfl, Nat.le_of_ble_eq_true rfl, Nat.le_of_ble_eq_true rfl⟩ (fun r_73 N_74 V_72 q_75 => ?_)
        obtain ⟨⟨z_70, h_69⟩, rfl, q_68⟩ := q_75
        have j_71 := JW.trans hJ0 (JW.weak q_68 (Sub.cons (LMs LM0) (by decide) (by decide) (by decide) (Or.inr ⟨by decide, by decide⟩) Sub.nil))
        obtain ⟨rfl, h_69f⟩ := h_69
        refine aw_zreti dX5_readFactor_112 rfl (by first | exact Or.inl rfl | exact Or.inr rfl | assumption) (Nat.le_of_ble_eq_true rfl) (Nat.le_of_ble_eq_true rfl) ?_
        exact ⟨⟨(by first | exact Or.inl rfl | exact Or.inr rfl | assumption), Or.inl ⟨_, F_no c_8 hn_18 (fac_neg hB (Int32.not_le.mp c_49)), h_69f, rfl⟩⟩, rfl, j_71⟩
  · skip
    have hlc_8 := hd_lit c_8 (by decide)
    refine aw_aload_n dX5_readFactor_14 rfl ?_
    refine aw_iload_n dX5_readFactor_15 rfl ?_
    refine aw_callVi (J' := jX5_open) (As := [.int 1]) (st := []) dX5_readFactor_16 tb_407 ok_X5_open ⟨_, ((hJ0.2.1 _ hp.1 hp.2).trans hR)⟩ (by omega) rfl rfl (g_X5_open_1S l D b N V hN hJ0.1 p x ⟨by omega, by omega⟩ hx ((hJ0.2.1 _ hp.1 hp.2).trans hR) g hg n a ⟨by omega, by omega⟩ hE hA hB (by omega)) rfl (Nat.le_of_ble_eq_true rfl) ⟨Nat.le_of_ble_eq_true rfl, Nat.le_of_ble_eq_true rfl, Nat.le_of_ble_eq_true rfl, Nat.le_of_ble_eq_true rfl⟩ (fun r_81 N_82 V_80 q_83 => ?_)
    obtain ⟨⟨z_78, h_77⟩, rfl, q_76⟩ := q_83
    have j_79 := JW.trans hJ0 (JW.weak q_76 (Sub.cons LM0 (by decide) (by decide) (by decide) (Or.inr ⟨by decide, by decide⟩) Sub.nil))
    obtain ⟨rfl, h_77f⟩ := h_77
    refine aw_if_eq (tgt := 48) dX5_readFactor_19 (by decide) (fun c_84 => ?_) (fun c_84 => ?_)
    · exact absurd c_84 (by decide)
    refine aw_aload_n dX5_readFactor_22 rfl ?_
    refine aw_iload_n dX5_readFactor_23 rfl ?_
    refine aw_iconst (v := 1) dX5_readFactor_24 (by decide) ?_
    refine aw_iadd dX5_readFactor_25 ?_
    refine aw_eqi (y := 2) (by decide) ?_
    refine aw_callVi (J' := jX5_readSum) (As := [.int 2]) (st := []) dX5_readFactor_26 tb_395 ok_X5_readSum ⟨_, ((j_79.2.1 _ hp.1 hp.2).trans hR)⟩ (by omega) rfl rfl (g_X5_readSum_2S l D b N V_80 hN j_79.1 p x ⟨by omega, by omega⟩ hx ((j_79.2.1 _ hp.1 hp.2).trans hR) g ((JW.same q_76 (by decide) (fun k => (nfc (by omega) nf0))).trans hg) n (a + 1) ⟨by omega, by omega⟩ ((JW.fI q_76 (by omega) (nfc (by omega) nf0)).trans hE) h_77f hB (3 :: s) (dpt_3 hs)) rfl (Nat.le_of_ble_eq_true rfl) ⟨Nat.le_of_ble_eq_true rfl, Nat.le_of_ble_eq_true rfl, Nat.le_of_ble_eq_true rfl, Nat.le_of_ble_eq_true rfl⟩ (fun r_90 N_91 V_89 q_92 => ?_)
    obtain ⟨⟨z_87, h_86⟩, rfl, q_85⟩ := q_92
    have j_88 := JW.trans j_79 (JW.weak q_85 (Sub.cons LM0 (by decide) (by decide) (by decide) (Or.inr ⟨by decide, by decide⟩) (Sub.cons (LMs LM0) (by decide) (by decide) (by decide) (Or.inr ⟨by decide, by decide⟩) (Sub.cons (LMs (LMs LM0)) (by omega) (by omega) (by decide) (Or.inl rfl) (Sub.cons (LMs (LMs (LMs LM0))) (by omega) (by omega) (by decide) (Or.inl rfl) (Sub.cons (LMs (LMs (LMs (LMs LM0)))) (by omega) (by omega) (by decide) (Or.inr ⟨by decide, by decide⟩) Sub.nil))))))
    rcases h_86 with ⟨f_93, hx_94, hk_95, e_96⟩ | ⟨a_97, hx_98, hk_99, hb_100, hz_101, e_102⟩
    · skip
      refine aw_eqi (y := 0) e_96 ?_
      refine aw_if_eq (tgt := 48) dX5_readFactor_29 (by decide) (fun c_103 => ?_) (fun c_103 => ?_)
      rotate_left
      · exact absurd (by decide) c_103
      refine aw_iconst (v := 0) dX5_readFactor_48 (by decide) ?_
      refine aw_zreti dX5_readFactor_49 rfl (by first | exact Or.inl rfl | exact Or.inr rfl | assumption) (Nat.le_of_ble_eq_true rfl) (Nat.le_of_ble_eq_true rfl) ?_
      exact ⟨⟨(by first | exact Or.inl rfl | exact Or.inr rfl | assumption), Or.inl ⟨_, F_open c_8 (by omega) hx_94, hk_95, rfl⟩⟩, rfl, j_88⟩
    · skip
      refine aw_eqi (y := 1) e_102 ?_
      obtain ⟨hb_100a, hb_100b⟩ := hb_100
      refine aw_if_eq (tgt := 48) dX5_readFactor_29 (by decide) (fun c_104 => ?_) (fun c_104 => ?_)
      · exact absurd c_104 (by decide)
      refine aw_aload_n dX5_readFactor_32 rfl ?_
      refine aw_get dX5_readFactor_33 fl_X5_15 ((j_88.2.1 _ hp.1 hp.2).trans hR) (by omega) rfl ?_
      refine aw_bipush (v := 93) dX5_readFactor_36 (by decide) ?_
      obtain ⟨ts_110, tn_110, tf_110, ta_110, e_110, hta_110⟩ := JW.get j_88 ct_1
      refine aw_callVi (J' := jX10_expect) (As := [.int 93]) (st := []) dX5_readFactor_38 tb_412 ok_X10_expect ⟨_, e_110⟩ (by omega) rfl rfl (g_X10_expectS l D b N V_89 hN j_88.1 93 g ((JW.same q_85 (by decide) (fun k => (nfc (by omega) (nfc (by omega) (nfc (by omega) (nfc (by omega) (nfc (by omega) nf0))))))).trans ((JW.same q_76 (by decide) (fun k => (nfc (by omega) nf0))).trans hg)) n a_97 ⟨by omega, by omega⟩ ((JW.fI q_85 (by omega) (nfc (by omega) (nfc (by omega) (nfc (by omega) (nfc (by omega) (nfc (by omega) nf0)))))).trans ((JW.fI q_76 (by omega) (nfc (by omega) nf0)).trans hE)) hk_99) rfl (Nat.le_of_ble_eq_true rfl) ⟨Nat.le_of_ble_eq_true rfl, Nat.le_of_ble_eq_true rfl, Nat.le_of_ble_eq_true rfl, Nat.le_of_ble_eq_true rfl⟩ (fun r_111 N_112 V_109 q_113 => ?_)
      obtain ⟨⟨z_107, h_106⟩, rfl, q_105⟩ := q_113
      have j_108 := JW.trans j_88 (JW.weak q_105 (Sub.cons LM0 (by decide) (by decide) (by decide) (Or.inr ⟨by decide, by decide⟩) (Sub.cons (LMs LM0) (by decide) (by decide) (by decide) (Or.inr ⟨by decide, by decide⟩) Sub.nil)))
      rcases h_106 with ⟨hy_114, hk_115, e_116⟩ | ⟨hn_117, hk_118, e_119⟩
      · skip
        refine aw_eqi (y := 1) e_116 ?_
        have hlhy_114 := hd_lit hy_114 (by decide)
        refine aw_if_eq (tgt := 48) dX5_readFactor_41 (by decide) (fun c_120 => ?_) (fun c_120 => ?_)
        · exact absurd c_120 (by decide)
        refine aw_iconst (v := 1) dX5_readFactor_44 (by decide) ?_
        refine aw_goto (tgt := 49) dX5_readFactor_45 (by decide) ?_
        refine aw_zreti dX5_readFactor_49 rfl (by first | exact Or.inl rfl | exact Or.inr rfl | assumption) (Nat.le_of_ble_eq_true rfl) (Nat.le_of_ble_eq_true rfl) ?_
        exact ⟨⟨(by first | exact Or.inl rfl | exact Or.inr rfl | assumption), Or.inr ⟨_, fun o q => F_open c_8 (by omega) (hx_98 o (O_shut hz_101 hy_114 q)), hk_115, ⟨by omega, by omega⟩, rfl⟩⟩, rfl, j_108⟩
      · skip
        refine aw_eqi (y := 0) e_119 ?_
        refine aw_if_eq (tgt := 48) dX5_readFactor_41 (by decide) (fun c_121 => ?_) (fun c_121 => ?_)
        rotate_left
        · exact absurd (by decide) c_121
        refine aw_iconst (v := 0) dX5_readFactor_48 (by decide) ?_
        refine aw_zreti dX5_readFactor_49 rfl (by first | exact Or.inl rfl | exact Or.inr rfl | assumption) (Nat.le_of_ble_eq_true rfl) (Nat.le_of_ble_eq_true rfl) ?_
        exact ⟨⟨(by first | exact Or.inl rfl | exact Or.inr rfl | assumption), Or.inl ⟨_, F_open c_8 (by omega) (hx_98 _ (O_nshut hz_101 hn_117)), hk_118, rfl⟩⟩, rfl, j_108⟩

set_option maxHeartbeats 20000000 in
set_option maxRecDepth 100000 in
theorem g_X5_readProduct_1S (l : Launch) (D : va_G) (b : Nat) (N : Nat) (V : Wd) (hN : 100 ≤ N) (hW : CW D b V) (p x : Nat) (hp : 100 ≤ p ∧ p < N) (hx : x = 57 ∨ x = 65) (hR : V p = cO 5 [.ref (b + 1), .ref (b + x)]) (g : Nat → Int32) (hg : V 2 = cI D 260 g) (n a : Nat) (hna : a ≤ n ∧ n ≤ 240) (hE : fI (V 1) 2 = nI n) (hA : fI (V 1) 3 = nI a) (hB : BY g) (s : List Nat) (hs : dpt s = 1) : MI l D b 21 jX5_readProduct [.ref (b + p), .int 1] N V 0 0 (fun r N9 V9 => ((r = 0 ∨ r = 1) ∧ ((∃ f, RES g n (0, a, s) (.inl f) ∧ fI (V9 1) 4 = f ∧ r = 0) ∨ (∃ a9, (∀ o, RES g n (1, a9, s) o → RES g n (0, a, s) o) ∧ fI (V9 1) 3 = nI a9 ∧ (a < a9 ∧ a9 ≤ n) ∧ mlt (hd g n a9) = false ∧ r = 1))) ∧ N = N9 ∧ JW D b N [(1, 1, 3, 3), (1, 1, 4, 4), (x + 1, x + 1, 0, 1000000), (x + 2, x + 2, 0, 1000000), (x, x, 2, 2)] V V9) := by
  have hJ0 : JW D b N [(1, 1, 3, 3), (1, 1, 4, 4), (x + 1, x + 1, 0, 1000000), (x + 2, x + 2, 0, 1000000), (x, x, 2, 2)] V V := JW.rf hW
  refine mw_of (by decide) (by simp [Value.category]) (Nat.le_of_ble_eq_true rfl) ?_
  show AW l D b jX5_readProduct (fx_rm 21 0 0) none (fx_MQ D b 0 0 (fx_qi (fun r N9 V9 => ((r = 0 ∨ r = 1) ∧ ((∃ f, RES g n (0, a, s) (.inl f) ∧ fI (V9 1) 4 = f ∧ r = 0) ∨ (∃ a9, (∀ o, RES g n (1, a9, s) o → RES g n (0, a, s) o) ∧ fI (V9 1) 3 = nI a9 ∧ (a < a9 ∧ a9 ≤ n) ∧ mlt (hd g n a9) = false ∧ r = 1))) ∧ N = N9 ∧ JW D b N [(1, 1, 3, 3), (1, 1, 4, 4), (x + 1, x + 1, 0, 1000000), (x + 2, x + 2, 0, 1000000), (x, x, 2, 2)] V V9))) 0 [some (.ref (b + p)), some (.int 1), none] [] N V 0 0
  refine aw_aload_n dX5_readProduct_0 rfl ?_
  refine aw_iload_n dX5_readProduct_1 rfl ?_
  refine aw_callVi (J' := jX5_readFactor) (As := [.int 1]) (st := []) dX5_readProduct_2 tb_403 ok_X5_readFactor ⟨_, ((hJ0.2.1 _ hp.1 hp.2).trans hR)⟩ (by omega) rfl rfl (g_X5_readFactor_1S l D b N V hN hJ0.1 p x ⟨by omega, by omega⟩ hx ((hJ0.2.1 _ hp.1 hp.2).trans hR) g hg n a ⟨by omega, by omega⟩ hE hA hB s hs) rfl (Nat.le_of_ble_eq_true rfl) ⟨Nat.le_of_ble_eq_true rfl, Nat.le_of_ble_eq_true rfl, Nat.le_of_ble_eq_true rfl, Nat.le_of_ble_eq_true rfl⟩ (fun r_6 N_7 V_5 q_8 => ?_)
  obtain ⟨⟨z_3, h_2⟩, rfl, q_1⟩ := q_8
  have j_4 := JW.trans hJ0 (JW.weak q_1 (Sub.cons LM0 (by decide) (by decide) (by decide) (Or.inr ⟨by decide, by decide⟩) (Sub.cons (LMs LM0) (by decide) (by decide) (by decide) (Or.inr ⟨by decide, by decide⟩) (Sub.cons (LMs (LMs LM0)) (by omega) (by omega) (by decide) (Or.inl rfl) (Sub.cons (LMs (LMs (LMs LM0))) (by omega) (by omega) (by decide) (Or.inl rfl) (Sub.cons (LMs (LMs (LMs (LMs LM0)))) (by omega) (by omega) (by decide) (Or.inr ⟨by decide, by decide⟩) Sub.nil))))))
  rcases h_2 with ⟨f_9, hx_10, hk_11, e_12⟩ | ⟨a_13, hx_14, hk_15, hb_16, e_17⟩
  · skip
    refine aw_eqi (y := 0) e_12 ?_
    refine aw_if_ne (tgt := 10) dX5_readProduct_5 (by decide) (fun c_18 => ?_) (fun c_18 => ?_)
    · exact absurd rfl c_18
    refine aw_iconst (v := 0) dX5_readProduct_8 (by decide) ?_
    refine aw_zreti dX5_readProduct_9 rfl (by first | exact Or.inl rfl | exact Or.inr rfl | assumption) (Nat.le_of_ble_eq_true rfl) (Nat.le_of_ble_eq_true rfl) ?_
    exact ⟨⟨(by first | exact Or.inl rfl | exact Or.inr rfl | assumption), Or.inl ⟨_, hx_10, hk_11, rfl⟩⟩, rfl, j_4⟩
  · skip
    refine aw_eqi (y := 1) e_17 ?_
    obtain ⟨hb_16a, hb_16b⟩ := hb_16
    refine aw_if_ne (tgt := 10) dX5_readProduct_5 (by decide) (fun c_19 => ?_) (fun c_19 => ?_)
    rotate_left
    · exact absurd c_19 (by decide)
    have ml_10_20 : ∀ (m : Nat) (a10 : Nat) (V10 : Wd), m = n - a10 → (JW D b N [(1, 1, 3, 3), (1, 1, 4, 4), (x + 1, x + 1, 0, 1000000), (x + 2, x + 2, 0, 1000000), (x, x, 2, 2)] V V10) → (fI (V10 1) 2 = nI n) → (fI (V10 1) 3 = nI a10) → (V10 2 = cI D 260 g) → (∀ o, RES g n (1, a10, s) o → RES g n (0, a, s) o) → (a < a10 ∧ a10 ≤ n) → AW l D b jX5_readProduct (fx_rm 21 0 0) none (fx_MQ D b 0 0 (fx_qi (fun r N9 V9 => ((r = 0 ∨ r = 1) ∧ ((∃ f, RES g n (0, a, s) (.inl f) ∧ fI (V9 1) 4 = f ∧ r = 0) ∨ (∃ a9, (∀ o, RES g n (1, a9, s) o → RES g n (0, a, s) o) ∧ fI (V9 1) 3 = nI a9 ∧ (a < a9 ∧ a9 ≤ n) ∧ mlt (hd g n a9) = false ∧ r = 1))) ∧ N = N9 ∧ JW D b N [(1, 1, 3, 3), (1, 1, 4, 4), (x + 1, x + 1, 0, 1000000), (x + 2, x + 2, 0, 1000000), (x, x, 2, 2)] V V9))) 10 [some (.ref (b + p)), some (.int 1), none] [] N V10 0 0 := by
      intro m; refine Nat.strongRecOn m ?_
      intro m mih_10_20 a10 V10 hm10 i10_0 i10_1 i10_2 i10_3 i10_4 i10_5
      refine aw_aload_n dX5_readProduct_10 rfl ?_
      refine aw_get dX5_readProduct_11 fl_X5_15 ((i10_0.2.1 _ hp.1 hp.2).trans hR) (by omega) rfl ?_
      obtain ⟨ts_21, tn_21, tf_21, ta_21, e_21, hta_21⟩ := JW.get i10_0 ct_1
      refine aw_get dX5_readProduct_14 fl_X5_25 e_21 (by omega) rfl ?_
      refine aw_eqi (y := (nI a10)) ((Eq.symm (congrArg (fun z => fI z 3) e_21)).trans i10_2) ?_
      refine aw_aload_n dX5_readProduct_17 rfl ?_
      refine aw_get dX5_readProduct_18 fl_X5_15 ((i10_0.2.1 _ hp.1 hp.2).trans hR) (by omega) rfl ?_
      refine aw_get dX5_readProduct_21 fl_X5_59 e_21 (by omega) rfl ?_
      refine aw_eqi (y := (nI n)) ((Eq.symm (congrArg (fun z => fI z 2) e_21)).trans i10_1) ?_
      refine aw_icmp_ge (tgt := 84) dX5_readProduct_24 (by decide) (fun c_22 => ?_) (fun c_22 => ?_)
      · skip
        have nc_22 : n ≤ a10 := (nI_leI (a := n) (b := a10) (by omega) (by omega)).mp c_22
        refine aw_iconst (v := 1) dX5_readProduct_84 (by decide) ?_
        refine aw_zreti dX5_readProduct_85 rfl (by first | exact Or.inl rfl | exact Or.inr rfl | assumption) (Nat.le_of_ble_eq_true rfl) (Nat.le_of_ble_eq_true rfl) ?_
        exact ⟨⟨(by first | exact Or.inl rfl | exact Or.inr rfl | assumption), Or.inr ⟨_, i10_4, i10_2, ⟨by omega, by omega⟩, (mlt_ge (by omega)), rfl⟩⟩, rfl, i10_0⟩
      · skip
        have nc_22 : ¬ (n ≤ a10) := fun z => c_22 ((nI_leI (a := n) (b := a10) (by omega) (by omega)).mpr z)
        refine aw_aload_n dX5_readProduct_27 rfl ?_
        refine aw_get dX5_readProduct_28 fl_X5_15 ((i10_0.2.1 _ hp.1 hp.2).trans hR) (by omega) rfl ?_
        refine aw_callVi (J' := jX10_now) (As := []) (st := []) dX5_readProduct_31 tb_390 ok_X10_now ⟨_, e_21⟩ (by omega) rfl rfl (g_X10_nowS l D b N V10 hN i10_0.1 g i10_3 n a10 ⟨by omega, by omega⟩ i10_1 i10_2) rfl (Nat.le_of_ble_eq_true rfl) ⟨Nat.le_of_ble_eq_true rfl, Nat.le_of_ble_eq_true rfl, Nat.le_of_ble_eq_true rfl, Nat.le_of_ble_eq_true rfl⟩ (fun r_25 N_26 V_27 q_28 => ?_)
        obtain ⟨h_24, rfl, rfl⟩ := q_28
        refine aw_eqi (y := (hd g n a10)) h_24 ?_
        refine aw_callSi (J' := jX5_joinsFactors) (As := [.int (hd g n a10)]) (st := []) dX5_readProduct_34 tb_494 ok_X5_joinsFactors rfl (g_X5_joinsFactorsS l D b N V10 hN i10_0.1 (hd g n a10)) rfl (Nat.le_of_ble_eq_true rfl) ⟨Nat.le_of_ble_eq_true rfl, Nat.le_of_ble_eq_true rfl, Nat.le_of_ble_eq_true rfl, Nat.le_of_ble_eq_true rfl⟩ (fun r_32 N_33 V_34 q_35 => ?_)
        obtain ⟨⟨z_31, h_30⟩, rfl, rfl⟩ := q_35
        rcases h_30 with ⟨hy_36, e_37⟩ | ⟨hn_38, e_39⟩
        · skip
          refine aw_eqi (y := 1) e_37 ?_
          have hlhy_36 := mlt_lt hy_36
          refine aw_if_eq (tgt := 84) dX5_readProduct_37 (by decide) (fun c_40 => ?_) (fun c_40 => ?_)
          · exact absurd c_40 (by decide)
          refine aw_aload_n dX5_readProduct_40 rfl ?_
          refine aw_get dX5_readProduct_41 fl_X5_15 ((i10_0.2.1 _ hp.1 hp.2).trans hR) (by omega) rfl ?_
          refine aw_callVi (J' := jX10_now) (As := []) (st := []) dX5_readProduct_44 tb_390 ok_X10_now ⟨_, e_21⟩ (by omega) rfl rfl (g_X10_nowS l D b N V10 hN i10_0.1 g i10_3 n a10 ⟨by omega, by omega⟩ i10_1 i10_2) rfl (Nat.le_of_ble_eq_true rfl) ⟨Nat.le_of_ble_eq_true rfl, Nat.le_of_ble_eq_true rfl, Nat.le_of_ble_eq_true rfl, Nat.le_of_ble_eq_true rfl⟩ (fun r_43 N_44 V_45 q_46 => ?_)
          obtain ⟨h_42, rfl, rfl⟩ := q_46
          refine aw_eqi (y := (hd g n a10)) h_42 ?_
          refine aw_istore_n (ls' := [some (.ref (b + p)), some (.int 1), some (.int (hd g n a10))]) dX5_readProduct_47 (Nat.le_of_ble_eq_true rfl) rfl ?_
          refine aw_aload_n dX5_readProduct_48 rfl ?_
          refine aw_get dX5_readProduct_49 fl_X5_15 ((i10_0.2.1 _ hp.1 hp.2).trans hR) (by omega) rfl ?_
          refine aw_dup dX5_readProduct_52 rfl ?_
          refine aw_get dX5_readProduct_53 fl_X5_25 e_21 (by omega) rfl ?_
          refine aw_eqi (y := (nI a10)) ((Eq.symm (congrArg (fun z => fI z 3) e_21)).trans i10_2) ?_
          refine aw_iconst (v := 1) dX5_readProduct_56 (by decide) ?_
          refine aw_iadd dX5_readProduct_57 ?_
          refine aw_eqi (y := nI (a10 + 1)) (nI_add _ _) ?_
          refine aw_put dX5_readProduct_58 fp_X5_25 e_21 (by omega) rfl rfl (Nat.le_of_ble_eq_true rfl) rfl ?_
          refine aw_up i10_0 ct_1 ⟨_, _, _, (a10 + 1), rfl, (by first | omega | (split <;> omega))⟩ (WO (s := 3) (x := .int (nI (a10 + 1))) e_21 rfl LM0 (by decide) (by decide) (by decide) (Or.inl (by decide))) (fun V_47 j_47 k_47 e_47 => ?_)
          refine aw_aload_n dX5_readProduct_61 rfl ?_
          refine aw_iload_n dX5_readProduct_62 rfl ?_
          refine aw_callVi (J' := jX5_readFactor) (As := [.int 1]) (st := []) dX5_readProduct_63 tb_403 ok_X5_readFactor ⟨_, ((j_47.2.1 _ hp.1 hp.2).trans hR)⟩ (by omega) rfl rfl (g_X5_readFactor_1S l D b N V_47 hN j_47.1 p x ⟨by omega, by omega⟩ hx ((j_47.2.1 _ hp.1 hp.2).trans hR) g ((k_47 _ (by decide)).trans i10_3) n (a10 + 1) ⟨by omega, by omega⟩ (KA (s := 3) (x := .int (nI (a10 + 1))) e_21 rfl (by decide) e_47 k_47 i10_1) ((congrArg (fun z => fI z 3) e_47).trans rfl) hB s hs) rfl (Nat.le_of_ble_eq_true rfl) ⟨Nat.le_of_ble_eq_true rfl, Nat.le_of_ble_eq_true rfl, Nat.le_of_ble_eq_true rfl, Nat.le_of_ble_eq_true rfl⟩ (fun r_53 N_54 V_52 q_55 => ?_)
          obtain ⟨⟨z_50, h_49⟩, rfl, q_48⟩ := q_55
          have j_51 := JW.trans j_47 (JW.weak q_48 (Sub.cons LM0 (by decide) (by decide) (by decide) (Or.inr ⟨by decide, by decide⟩) (Sub.cons (LMs LM0) (by decide) (by decide) (by decide) (Or.inr ⟨by decide, by decide⟩) (Sub.cons (LMs (LMs LM0)) (by omega) (by omega) (by decide) (Or.inl rfl) (Sub.cons (LMs (LMs (LMs LM0))) (by omega) (by omega) (by decide) (Or.inl rfl) (Sub.cons (LMs (LMs (LMs (LMs LM0)))) (by omega) (by omega) (by decide) (Or.inr ⟨by decide, by decide⟩) Sub.nil))))))
          rcases h_49 with ⟨f_56, hx_57, hk_58, e_59⟩ | ⟨a_60, hx_61, hk_62, hb_63, e_64⟩
          · skip
            refine aw_eqi (y := 0) e_59 ?_
            refine aw_if_ne (tgt := 71) dX5_readProduct_66 (by decide) (fun c_65 => ?_) (fun c_65 => ?_)
            · exact absurd rfl c_65
            refine aw_iconst (v := 0) dX5_readProduct_69 (by decide) ?_
            refine aw_zreti dX5_readProduct_70 rfl (by first | exact Or.inl rfl | exact Or.inr rfl | assumption) (Nat.le_of_ble_eq_true rfl) (Nat.le_of_ble_eq_true rfl) ?_
            exact ⟨⟨(by first | exact Or.inl rfl | exact Or.inr rfl | assumption), Or.inl ⟨_, i10_4 _ (O_op (mlt_op hy_36) hx_57), hk_58, rfl⟩⟩, rfl, j_51⟩
          · skip
            refine aw_eqi (y := 1) e_64 ?_
            obtain ⟨hb_63a, hb_63b⟩ := hb_63
            refine aw_if_ne (tgt := 71) dX5_readProduct_66 (by decide) (fun c_66 => ?_) (fun c_66 => ?_)
            rotate_left
            · exact absurd c_66 (by decide)
            refine aw_aload_n dX5_readProduct_71 rfl ?_
            refine aw_get dX5_readProduct_72 fl_X5_9 ((j_51.2.1 _ hp.1 hp.2).trans hR) (by omega) rfl ?_
            refine aw_iload_n dX5_readProduct_75 rfl ?_
            refine aw_iconst (v := 0) dX5_readProduct_76 (by decide) ?_
            obtain ⟨s8_70, r8_70, h8_70, e_70, hs_70, hr_70⟩ := JW.get j_51 (ctl_0 hx)
            refine aw_callVi (J' := jX4_add) (As := [.int (hd g n a10), .int 0]) (st := []) dX5_readProduct_77 tb_415 ok_X4_add ⟨_, e_70⟩ (by omega) rfl rfl (g_X4_add l D b N V_52 hN j_51.1 x hx (hd g n a10) 0 (by decide)) rfl (Nat.le_of_ble_eq_true rfl) ⟨Nat.le_of_ble_eq_true rfl, Nat.le_of_ble_eq_true rfl, Nat.le_of_ble_eq_true rfl, Nat.le_of_ble_eq_true rfl⟩ (fun r_71 N_72 V_69 q_73 => ?_)
            obtain ⟨rfl, q_67⟩ := q_73
            have j_68 := JW.trans j_51 (JW.weak q_67 (Sub.cons (LMs (LMs LM0)) (by omega) (by omega) (by decide) (Or.inl rfl) (Sub.cons (LMs (LMs (LMs LM0))) (by omega) (by omega) (by decide) (Or.inl rfl) (Sub.cons (LMs (LMs (LMs (LMs LM0)))) (by omega) (by omega) (by decide) (Or.inr ⟨by decide, by decide⟩) Sub.nil))))
            refine aw_pop dX5_readProduct_80 rfl ?_
            refine aw_goto (tgt := 10) dX5_readProduct_81 (by decide) ?_
            refine aw_le ?_ (mih_10_20 _ (by omega) a_60 V_69 rfl (j_68) (((JW.fI q_67 (by omega) (nfc (by omega) (nfc (by omega) (nfc (by omega) nf0)))).trans ((JW.fI q_48 (by omega) (nfc (by omega) (nfc (by omega) (nfc (by omega) (nfc (by omega) (nfc (by omega) nf0)))))).trans (KA (s := 3) (x := .int (nI (a10 + 1))) e_21 rfl (by decide) e_47 k_47 i10_1)))) (((JW.fI q_67 (by omega) (nfc (by omega) (nfc (by omega) (nfc (by omega) nf0)))).trans hk_62)) (((JW.same q_67 (by decide) (fun k => (nfc (by omega) (nfc (by omega) (nfc (by omega) nf0))))).trans ((JW.same q_48 (by decide) (fun k => (nfc (by omega) (nfc (by omega) (nfc (by omega) (nfc (by omega) (nfc (by omega) nf0))))))).trans ((k_47 _ (by decide)).trans i10_3)))) (fun o q => i10_4 o (O_op (mlt_op hy_36) (hx_61 o q))) (⟨by omega, by omega⟩))
            exact ⟨rfl, ⟨rfl, trivial⟩⟩
        · skip
          refine aw_eqi (y := 0) e_39 ?_
          refine aw_if_eq (tgt := 84) dX5_readProduct_37 (by decide) (fun c_74 => ?_) (fun c_74 => ?_)
          rotate_left
          · exact absurd (by decide) c_74
          refine aw_iconst (v := 1) dX5_readProduct_84 (by decide) ?_
          refine aw_zreti dX5_readProduct_85 rfl (by first | exact Or.inl rfl | exact Or.inr rfl | assumption) (Nat.le_of_ble_eq_true rfl) (Nat.le_of_ble_eq_true rfl) ?_
          exact ⟨⟨(by first | exact Or.inl rfl | exact Or.inr rfl | assumption), Or.inr ⟨_, i10_4, i10_2, ⟨by omega, by omega⟩, hn_38, rfl⟩⟩, rfl, i10_0⟩
    refine aw_le ?_ (ml_10_20 _ a_13 V_5 rfl (j_4) (((JW.fI q_1 (by omega) (nfc (by omega) (nfc (by omega) (nfc (by omega) (nfc (by omega) (nfc (by omega) nf0)))))).trans hE)) (hk_15) (((JW.same q_1 (by decide) (fun k => (nfc (by omega) (nfc (by omega) (nfc (by omega) (nfc (by omega) (nfc (by omega) nf0))))))).trans hg)) (hx_14) (⟨by omega, by omega⟩))
    exact ⟨rfl, ⟨rfl, trivial⟩⟩

set_option maxHeartbeats 20000000 in
set_option maxRecDepth 100000 in
theorem g_X5_readSum_1S (l : Launch) (D : va_G) (b : Nat) (N : Nat) (V : Wd) (hN : 100 ≤ N) (hW : CW D b V) (p x : Nat) (hp : 100 ≤ p ∧ p < N) (hx : x = 57 ∨ x = 65) (hR : V p = cO 5 [.ref (b + 1), .ref (b + x)]) (g : Nat → Int32) (hg : V 2 = cI D 260 g) (n a : Nat) (hna : a ≤ n ∧ n ≤ 240) (hE : fI (V 1) 2 = nI n) (hA : fI (V 1) 3 = nI a) (hB : BY g) (s : List Nat) (hs : dpt s = 1) : MI l D b 22 jX5_readSum [.ref (b + p), .int 1] N V 0 0 (fun r N9 V9 => ((r = 0 ∨ r = 1) ∧ ((∃ f, RES g n (0, a, s) (.inl f) ∧ fI (V9 1) 4 = f ∧ r = 0) ∨ (∃ a9, (∀ o, RES g n (1, a9, s) o → RES g n (0, a, s) o) ∧ fI (V9 1) 3 = nI a9 ∧ (a < a9 ∧ a9 ≤ n) ∧ opr (hd g n a9) = false ∧ r = 1))) ∧ N = N9 ∧ JW D b N [(1, 1, 3, 3), (1, 1, 4, 4), (x + 1, x + 1, 0, 1000000), (x + 2, x + 2, 0, 1000000), (x, x, 2, 2)] V V9) := by
  have hJ0 : JW D b N [(1, 1, 3, 3), (1, 1, 4, 4), (x + 1, x + 1, 0, 1000000), (x + 2, x + 2, 0, 1000000), (x, x, 2, 2)] V V := JW.rf hW
  refine mw_of (by decide) (by simp [Value.category]) (Nat.le_of_ble_eq_true rfl) ?_
  show AW l D b jX5_readSum (fx_rm 22 0 0) none (fx_MQ D b 0 0 (fx_qi (fun r N9 V9 => ((r = 0 ∨ r = 1) ∧ ((∃ f, RES g n (0, a, s) (.inl f) ∧ fI (V9 1) 4 = f ∧ r = 0) ∨ (∃ a9, (∀ o, RES g n (1, a9, s) o → RES g n (0, a, s) o) ∧ fI (V9 1) 3 = nI a9 ∧ (a < a9 ∧ a9 ≤ n) ∧ opr (hd g n a9) = false ∧ r = 1))) ∧ N = N9 ∧ JW D b N [(1, 1, 3, 3), (1, 1, 4, 4), (x + 1, x + 1, 0, 1000000), (x + 2, x + 2, 0, 1000000), (x, x, 2, 2)] V V9))) 0 [some (.ref (b + p)), some (.int 1), none] [] N V 0 0
  refine aw_aload_n dX5_readSum_0 rfl ?_
  refine aw_iload_n dX5_readSum_1 rfl ?_
  refine aw_callVi (J' := jX5_readProduct) (As := [.int 1]) (st := []) dX5_readSum_2 tb_399 ok_X5_readProduct ⟨_, ((hJ0.2.1 _ hp.1 hp.2).trans hR)⟩ (by omega) rfl rfl (g_X5_readProduct_1S l D b N V hN hJ0.1 p x ⟨by omega, by omega⟩ hx ((hJ0.2.1 _ hp.1 hp.2).trans hR) g hg n a ⟨by omega, by omega⟩ hE hA hB s hs) rfl (Nat.le_of_ble_eq_true rfl) ⟨Nat.le_of_ble_eq_true rfl, Nat.le_of_ble_eq_true rfl, Nat.le_of_ble_eq_true rfl, Nat.le_of_ble_eq_true rfl⟩ (fun r_6 N_7 V_5 q_8 => ?_)
  obtain ⟨⟨z_3, h_2⟩, rfl, q_1⟩ := q_8
  have j_4 := JW.trans hJ0 (JW.weak q_1 (Sub.cons LM0 (by decide) (by decide) (by decide) (Or.inr ⟨by decide, by decide⟩) (Sub.cons (LMs LM0) (by decide) (by decide) (by decide) (Or.inr ⟨by decide, by decide⟩) (Sub.cons (LMs (LMs LM0)) (by omega) (by omega) (by decide) (Or.inl rfl) (Sub.cons (LMs (LMs (LMs LM0))) (by omega) (by omega) (by decide) (Or.inl rfl) (Sub.cons (LMs (LMs (LMs (LMs LM0)))) (by omega) (by omega) (by decide) (Or.inr ⟨by decide, by decide⟩) Sub.nil))))))
  rcases h_2 with ⟨f_9, hx_10, hk_11, e_12⟩ | ⟨a_13, hx_14, hk_15, hb_16, hz_17, e_18⟩
  · skip
    refine aw_eqi (y := 0) e_12 ?_
    refine aw_if_ne (tgt := 10) dX5_readSum_5 (by decide) (fun c_19 => ?_) (fun c_19 => ?_)
    · exact absurd rfl c_19
    refine aw_iconst (v := 0) dX5_readSum_8 (by decide) ?_
    refine aw_zreti dX5_readSum_9 rfl (by first | exact Or.inl rfl | exact Or.inr rfl | assumption) (Nat.le_of_ble_eq_true rfl) (Nat.le_of_ble_eq_true rfl) ?_
    exact ⟨⟨(by first | exact Or.inl rfl | exact Or.inr rfl | assumption), Or.inl ⟨_, hx_10, hk_11, rfl⟩⟩, rfl, j_4⟩
  · skip
    refine aw_eqi (y := 1) e_18 ?_
    obtain ⟨hb_16a, hb_16b⟩ := hb_16
    refine aw_if_ne (tgt := 10) dX5_readSum_5 (by decide) (fun c_20 => ?_) (fun c_20 => ?_)
    rotate_left
    · exact absurd c_20 (by decide)
    have ml_10_21 : ∀ (m : Nat) (a10 : Nat) (V10 : Wd), m = n - a10 → (JW D b N [(1, 1, 3, 3), (1, 1, 4, 4), (x + 1, x + 1, 0, 1000000), (x + 2, x + 2, 0, 1000000), (x, x, 2, 2)] V V10) → (fI (V10 1) 2 = nI n) → (fI (V10 1) 3 = nI a10) → (V10 2 = cI D 260 g) → (∀ o, RES g n (1, a10, s) o → RES g n (0, a, s) o) → (a < a10 ∧ a10 ≤ n) → (mlt (hd g n a10) = false) → AW l D b jX5_readSum (fx_rm 22 0 0) none (fx_MQ D b 0 0 (fx_qi (fun r N9 V9 => ((r = 0 ∨ r = 1) ∧ ((∃ f, RES g n (0, a, s) (.inl f) ∧ fI (V9 1) 4 = f ∧ r = 0) ∨ (∃ a9, (∀ o, RES g n (1, a9, s) o → RES g n (0, a, s) o) ∧ fI (V9 1) 3 = nI a9 ∧ (a < a9 ∧ a9 ≤ n) ∧ opr (hd g n a9) = false ∧ r = 1))) ∧ N = N9 ∧ JW D b N [(1, 1, 3, 3), (1, 1, 4, 4), (x + 1, x + 1, 0, 1000000), (x + 2, x + 2, 0, 1000000), (x, x, 2, 2)] V V9))) 10 [some (.ref (b + p)), some (.int 1), none] [] N V10 0 0 := by
      intro m; refine Nat.strongRecOn m ?_
      intro m mih_10_21 a10 V10 hm10 i10_0 i10_1 i10_2 i10_3 i10_4 i10_5 i10_6
      refine aw_aload_n dX5_readSum_10 rfl ?_
      refine aw_get dX5_readSum_11 fl_X5_15 ((i10_0.2.1 _ hp.1 hp.2).trans hR) (by omega) rfl ?_
      obtain ⟨ts_22, tn_22, tf_22, ta_22, e_22, hta_22⟩ := JW.get i10_0 ct_1
      refine aw_get dX5_readSum_14 fl_X5_25 e_22 (by omega) rfl ?_
      refine aw_eqi (y := (nI a10)) ((Eq.symm (congrArg (fun z => fI z 3) e_22)).trans i10_2) ?_
      refine aw_aload_n dX5_readSum_17 rfl ?_
      refine aw_get dX5_readSum_18 fl_X5_15 ((i10_0.2.1 _ hp.1 hp.2).trans hR) (by omega) rfl ?_
      refine aw_get dX5_readSum_21 fl_X5_59 e_22 (by omega) rfl ?_
      refine aw_eqi (y := (nI n)) ((Eq.symm (congrArg (fun z => fI z 2) e_22)).trans i10_1) ?_
      refine aw_icmp_ge (tgt := 95) dX5_readSum_24 (by decide) (fun c_23 => ?_) (fun c_23 => ?_)
      · skip
        have nc_23 : n ≤ a10 := (nI_leI (a := n) (b := a10) (by omega) (by omega)).mp c_23
        refine aw_iconst (v := 1) dX5_readSum_95 (by decide) ?_
        refine aw_zreti dX5_readSum_96 rfl (by first | exact Or.inl rfl | exact Or.inr rfl | assumption) (Nat.le_of_ble_eq_true rfl) (Nat.le_of_ble_eq_true rfl) ?_
        exact ⟨⟨(by first | exact Or.inl rfl | exact Or.inr rfl | assumption), Or.inr ⟨_, i10_4, i10_2, ⟨by omega, by omega⟩, (opr_ge (by omega)), rfl⟩⟩, rfl, i10_0⟩
      · skip
        have nc_23 : ¬ (n ≤ a10) := fun z => c_23 ((nI_leI (a := n) (b := a10) (by omega) (by omega)).mpr z)
        refine aw_aload_n dX5_readSum_27 rfl ?_
        refine aw_get dX5_readSum_28 fl_X5_15 ((i10_0.2.1 _ hp.1 hp.2).trans hR) (by omega) rfl ?_
        refine aw_callVi (J' := jX10_now) (As := []) (st := []) dX5_readSum_31 tb_390 ok_X10_now ⟨_, e_22⟩ (by omega) rfl rfl (g_X10_nowS l D b N V10 hN i10_0.1 g i10_3 n a10 ⟨by omega, by omega⟩ i10_1 i10_2) rfl (Nat.le_of_ble_eq_true rfl) ⟨Nat.le_of_ble_eq_true rfl, Nat.le_of_ble_eq_true rfl, Nat.le_of_ble_eq_true rfl, Nat.le_of_ble_eq_true rfl⟩ (fun r_26 N_27 V_28 q_29 => ?_)
        obtain ⟨h_25, rfl, rfl⟩ := q_29
        refine aw_eqi (y := (hd g n a10)) h_25 ?_
        refine aw_bipush (v := 43) dX5_readSum_34 (by decide) ?_
        refine aw_icmp_eq (tgt := 51) dX5_readSum_36 (by decide) (fun c_30 => ?_) (fun c_30 => ?_)
        · skip
          have hlc_30 := hd_lit c_30 (by decide)
          refine aw_aload_n dX5_readSum_51 rfl ?_
          refine aw_get dX5_readSum_52 fl_X5_15 ((i10_0.2.1 _ hp.1 hp.2).trans hR) (by omega) rfl ?_
          refine aw_callVi (J' := jX10_now) (As := []) (st := []) dX5_readSum_55 tb_390 ok_X10_now ⟨_, e_22⟩ (by omega) rfl rfl (g_X10_nowS l D b N V10 hN i10_0.1 g i10_3 n a10 ⟨by omega, by omega⟩ i10_1 i10_2) rfl (Nat.le_of_ble_eq_true rfl) ⟨Nat.le_of_ble_eq_true rfl, Nat.le_of_ble_eq_true rfl, Nat.le_of_ble_eq_true rfl, Nat.le_of_ble_eq_true rfl⟩ (fun r_33 N_34 V_35 q_36 => ?_)
          obtain ⟨h_32, rfl, rfl⟩ := q_36
          refine aw_eqi (y := (hd g n a10)) h_32 ?_
          refine aw_istore_n (ls' := [some (.ref (b + p)), some (.int 1), some (.int (hd g n a10))]) dX5_readSum_58 (Nat.le_of_ble_eq_true rfl) rfl ?_
          refine aw_aload_n dX5_readSum_59 rfl ?_
          refine aw_get dX5_readSum_60 fl_X5_15 ((i10_0.2.1 _ hp.1 hp.2).trans hR) (by omega) rfl ?_
          refine aw_dup dX5_readSum_63 rfl ?_
          refine aw_get dX5_readSum_64 fl_X5_25 e_22 (by omega) rfl ?_
          refine aw_eqi (y := (nI a10)) ((Eq.symm (congrArg (fun z => fI z 3) e_22)).trans i10_2) ?_
          refine aw_iconst (v := 1) dX5_readSum_67 (by decide) ?_
          refine aw_iadd dX5_readSum_68 ?_
          refine aw_eqi (y := nI (a10 + 1)) (nI_add _ _) ?_
          refine aw_put dX5_readSum_69 fp_X5_25 e_22 (by omega) rfl rfl (Nat.le_of_ble_eq_true rfl) rfl ?_
          refine aw_up i10_0 ct_1 ⟨_, _, _, (a10 + 1), rfl, (by first | omega | (split <;> omega))⟩ (WO (s := 3) (x := .int (nI (a10 + 1))) e_22 rfl LM0 (by decide) (by decide) (by decide) (Or.inl (by decide))) (fun V_37 j_37 k_37 e_37 => ?_)
          refine aw_aload_n dX5_readSum_72 rfl ?_
          refine aw_iload_n dX5_readSum_73 rfl ?_
          refine aw_callVi (J' := jX5_readProduct) (As := [.int 1]) (st := []) dX5_readSum_74 tb_399 ok_X5_readProduct ⟨_, ((j_37.2.1 _ hp.1 hp.2).trans hR)⟩ (by omega) rfl rfl (g_X5_readProduct_1S l D b N V_37 hN j_37.1 p x ⟨by omega, by omega⟩ hx ((j_37.2.1 _ hp.1 hp.2).trans hR) g ((k_37 _ (by decide)).trans i10_3) n (a10 + 1) ⟨by omega, by omega⟩ (KA (s := 3) (x := .int (nI (a10 + 1))) e_22 rfl (by decide) e_37 k_37 i10_1) ((congrArg (fun z => fI z 3) e_37).trans rfl) hB s hs) rfl (Nat.le_of_ble_eq_true rfl) ⟨Nat.le_of_ble_eq_true rfl, Nat.le_of_ble_eq_true rfl, Nat.le_of_ble_eq_true rfl, Nat.le_of_ble_eq_true rfl⟩ (fun r_43 N_44 V_42 q_45 => ?_)
          obtain ⟨⟨z_40, h_39⟩, rfl, q_38⟩ := q_45
          have j_41 := JW.trans j_37 (JW.weak q_38 (Sub.cons LM0 (by decide) (by decide) (by decide) (Or.inr ⟨by decide, by decide⟩) (Sub.cons (LMs LM0) (by decide) (by decide) (by decide) (Or.inr ⟨by decide, by decide⟩) (Sub.cons (LMs (LMs LM0)) (by omega) (by omega) (by decide) (Or.inl rfl) (Sub.cons (LMs (LMs (LMs LM0))) (by omega) (by omega) (by decide) (Or.inl rfl) (Sub.cons (LMs (LMs (LMs (LMs LM0)))) (by omega) (by omega) (by decide) (Or.inr ⟨by decide, by decide⟩) Sub.nil))))))
          rcases h_39 with ⟨f_46, hx_47, hk_48, e_49⟩ | ⟨a_50, hx_51, hk_52, hb_53, hz_54, e_55⟩
          · skip
            refine aw_eqi (y := 0) e_49 ?_
            refine aw_if_ne (tgt := 82) dX5_readSum_77 (by decide) (fun c_56 => ?_) (fun c_56 => ?_)
            · exact absurd rfl c_56
            refine aw_iconst (v := 0) dX5_readSum_80 (by decide) ?_
            refine aw_zreti dX5_readSum_81 rfl (by first | exact Or.inl rfl | exact Or.inr rfl | assumption) (Nat.le_of_ble_eq_true rfl) (Nat.le_of_ble_eq_true rfl) ?_
            exact ⟨⟨(by first | exact Or.inl rfl | exact Or.inr rfl | assumption), Or.inl ⟨_, i10_4 _ (O_op (opr_pm (Or.inl c_30)) hx_47), hk_48, rfl⟩⟩, rfl, j_41⟩
          · skip
            refine aw_eqi (y := 1) e_55 ?_
            obtain ⟨hb_53a, hb_53b⟩ := hb_53
            refine aw_if_ne (tgt := 82) dX5_readSum_77 (by decide) (fun c_57 => ?_) (fun c_57 => ?_)
            rotate_left
            · exact absurd c_57 (by decide)
            refine aw_aload_n dX5_readSum_82 rfl ?_
            refine aw_get dX5_readSum_83 fl_X5_9 ((j_41.2.1 _ hp.1 hp.2).trans hR) (by omega) rfl ?_
            refine aw_iload_n dX5_readSum_86 rfl ?_
            refine aw_iconst (v := 0) dX5_readSum_87 (by decide) ?_
            obtain ⟨s8_61, r8_61, h8_61, e_61, hs_61, hr_61⟩ := JW.get j_41 (ctl_0 hx)
            refine aw_callVi (J' := jX4_add) (As := [.int (hd g n a10), .int 0]) (st := []) dX5_readSum_88 tb_415 ok_X4_add ⟨_, e_61⟩ (by omega) rfl rfl (g_X4_add l D b N V_42 hN j_41.1 x hx (hd g n a10) 0 (by decide)) rfl (Nat.le_of_ble_eq_true rfl) ⟨Nat.le_of_ble_eq_true rfl, Nat.le_of_ble_eq_true rfl, Nat.le_of_ble_eq_true rfl, Nat.le_of_ble_eq_true rfl⟩ (fun r_62 N_63 V_60 q_64 => ?_)
            obtain ⟨rfl, q_58⟩ := q_64
            have j_59 := JW.trans j_41 (JW.weak q_58 (Sub.cons (LMs (LMs LM0)) (by omega) (by omega) (by decide) (Or.inl rfl) (Sub.cons (LMs (LMs (LMs LM0))) (by omega) (by omega) (by decide) (Or.inl rfl) (Sub.cons (LMs (LMs (LMs (LMs LM0)))) (by omega) (by omega) (by decide) (Or.inr ⟨by decide, by decide⟩) Sub.nil))))
            refine aw_pop dX5_readSum_91 rfl ?_
            refine aw_goto (tgt := 10) dX5_readSum_92 (by decide) ?_
            refine aw_le ?_ (mih_10_21 _ (by omega) a_50 V_60 rfl (j_59) (((JW.fI q_58 (by omega) (nfc (by omega) (nfc (by omega) (nfc (by omega) nf0)))).trans ((JW.fI q_38 (by omega) (nfc (by omega) (nfc (by omega) (nfc (by omega) (nfc (by omega) (nfc (by omega) nf0)))))).trans (KA (s := 3) (x := .int (nI (a10 + 1))) e_22 rfl (by decide) e_37 k_37 i10_1)))) (((JW.fI q_58 (by omega) (nfc (by omega) (nfc (by omega) (nfc (by omega) nf0)))).trans hk_52)) (((JW.same q_58 (by decide) (fun k => (nfc (by omega) (nfc (by omega) (nfc (by omega) nf0))))).trans ((JW.same q_38 (by decide) (fun k => (nfc (by omega) (nfc (by omega) (nfc (by omega) (nfc (by omega) (nfc (by omega) nf0))))))).trans ((k_37 _ (by decide)).trans i10_3)))) (fun o q => i10_4 o (O_op (opr_pm (Or.inl c_30)) (hx_51 o q))) (⟨by omega, by omega⟩) (hz_54))
            exact ⟨rfl, ⟨rfl, trivial⟩⟩
        · skip
          refine aw_aload_n dX5_readSum_39 rfl ?_
          refine aw_get dX5_readSum_40 fl_X5_15 ((i10_0.2.1 _ hp.1 hp.2).trans hR) (by omega) rfl ?_
          refine aw_callVi (J' := jX10_now) (As := []) (st := []) dX5_readSum_43 tb_390 ok_X10_now ⟨_, e_22⟩ (by omega) rfl rfl (g_X10_nowS l D b N V10 hN i10_0.1 g i10_3 n a10 ⟨by omega, by omega⟩ i10_1 i10_2) rfl (Nat.le_of_ble_eq_true rfl) ⟨Nat.le_of_ble_eq_true rfl, Nat.le_of_ble_eq_true rfl, Nat.le_of_ble_eq_true rfl, Nat.le_of_ble_eq_true rfl⟩ (fun r_67 N_68 V_69 q_70 => ?_)
          obtain ⟨h_66, rfl, rfl⟩ := q_70
          refine aw_eqi (y := (hd g n a10)) h_66 ?_
          refine aw_bipush (v := 45) dX5_readSum_46 (by decide) ?_
          refine aw_icmp_ne (tgt := 95) dX5_readSum_48 (by decide) (fun c_71 => ?_) (fun c_71 => ?_)
          · skip
            refine aw_iconst (v := 1) dX5_readSum_95 (by decide) ?_
            refine aw_zreti dX5_readSum_96 rfl (by first | exact Or.inl rfl | exact Or.inr rfl | assumption) (Nat.le_of_ble_eq_true rfl) (Nat.le_of_ble_eq_true rfl) ?_
            exact ⟨⟨(by first | exact Or.inl rfl | exact Or.inr rfl | assumption), Or.inr ⟨_, i10_4, i10_2, ⟨by omega, by omega⟩, (opr_f c_30 c_71 i10_6), rfl⟩⟩, rfl, i10_0⟩
          · skip
            have hlc_71 := hd_lit c_71 (by decide)
            refine aw_aload_n dX5_readSum_51 rfl ?_
            refine aw_get dX5_readSum_52 fl_X5_15 ((i10_0.2.1 _ hp.1 hp.2).trans hR) (by omega) rfl ?_
            refine aw_callVi (J' := jX10_now) (As := []) (st := []) dX5_readSum_55 tb_390 ok_X10_now ⟨_, e_22⟩ (by omega) rfl rfl (g_X10_nowS l D b N V10 hN i10_0.1 g i10_3 n a10 ⟨by omega, by omega⟩ i10_1 i10_2) rfl (Nat.le_of_ble_eq_true rfl) ⟨Nat.le_of_ble_eq_true rfl, Nat.le_of_ble_eq_true rfl, Nat.le_of_ble_eq_true rfl, Nat.le_of_ble_eq_true rfl⟩ (fun r_74 N_75 V_76 q_77 => ?_)
            obtain ⟨h_73, rfl, rfl⟩ := q_77
            refine aw_eqi (y := (hd g n a10)) h_73 ?_
            refine aw_istore_n (ls' := [some (.ref (b + p)), some (.int 1), some (.int (hd g n a10))]) dX5_readSum_58 (Nat.le_of_ble_eq_true rfl) rfl ?_
            refine aw_aload_n dX5_readSum_59 rfl ?_
            refine aw_get dX5_readSum_60 fl_X5_15 ((i10_0.2.1 _ hp.1 hp.2).trans hR) (by omega) rfl ?_
            refine aw_dup dX5_readSum_63 rfl ?_
            refine aw_get dX5_readSum_64 fl_X5_25 e_22 (by omega) rfl ?_
            refine aw_eqi (y := (nI a10)) ((Eq.symm (congrArg (fun z => fI z 3) e_22)).trans i10_2) ?_
            refine aw_iconst (v := 1) dX5_readSum_67 (by decide) ?_
            refine aw_iadd dX5_readSum_68 ?_
            refine aw_eqi (y := nI (a10 + 1)) (nI_add _ _) ?_
            refine aw_put dX5_readSum_69 fp_X5_25 e_22 (by omega) rfl rfl (Nat.le_of_ble_eq_true rfl) rfl ?_
            refine aw_up i10_0 ct_1 ⟨_, _, _, (a10 + 1), rfl, (by first | omega | (split <;> omega))⟩ (WO (s := 3) (x := .int (nI (a10 + 1))) e_22 rfl LM0 (by decide) (by decide) (by decide) (Or.inl (by decide))) (fun V_78 j_78 k_78 e_78 => ?_)
            refine aw_aload_n dX5_readSum_72 rfl ?_
            refine aw_iload_n dX5_readSum_73 rfl ?_
            refine aw_callVi (J' := jX5_readProduct) (As := [.int 1]) (st := []) dX5_readSum_74 tb_399 ok_X5_readProduct ⟨_, ((j_78.2.1 _ hp.1 hp.2).trans hR)⟩ (by omega) rfl rfl (g_X5_readProduct_1S l D b N V_78 hN j_78.1 p x ⟨by omega, by omega⟩ hx ((j_78.2.1 _ hp.1 hp.2).trans hR) g ((k_78 _ (by decide)).trans i10_3) n (a10 + 1) ⟨by omega, by omega⟩ (KA (s := 3) (x := .int (nI (a10 + 1))) e_22 rfl (by decide) e_78 k_78 i10_1) ((congrArg (fun z => fI z 3) e_78).trans rfl) hB s hs) rfl (Nat.le_of_ble_eq_true rfl) ⟨Nat.le_of_ble_eq_true rfl, Nat.le_of_ble_eq_true rfl, Nat.le_of_ble_eq_true rfl, Nat.le_of_ble_eq_true rfl⟩ (fun r_84 N_85 V_83 q_86 => ?_)
            obtain ⟨⟨z_81, h_80⟩, rfl, q_79⟩ := q_86
            have j_82 := JW.trans j_78 (JW.weak q_79 (Sub.cons LM0 (by decide) (by decide) (by decide) (Or.inr ⟨by decide, by decide⟩) (Sub.cons (LMs LM0) (by decide) (by decide) (by decide) (Or.inr ⟨by decide, by decide⟩) (Sub.cons (LMs (LMs LM0)) (by omega) (by omega) (by decide) (Or.inl rfl) (Sub.cons (LMs (LMs (LMs LM0))) (by omega) (by omega) (by decide) (Or.inl rfl) (Sub.cons (LMs (LMs (LMs (LMs LM0)))) (by omega) (by omega) (by decide) (Or.inr ⟨by decide, by decide⟩) Sub.nil))))))
            rcases h_80 with ⟨f_87, hx_88, hk_89, e_90⟩ | ⟨a_91, hx_92, hk_93, hb_94, hz_95, e_96⟩
            · skip
              refine aw_eqi (y := 0) e_90 ?_
              refine aw_if_ne (tgt := 82) dX5_readSum_77 (by decide) (fun c_97 => ?_) (fun c_97 => ?_)
              · exact absurd rfl c_97
              refine aw_iconst (v := 0) dX5_readSum_80 (by decide) ?_
              refine aw_zreti dX5_readSum_81 rfl (by first | exact Or.inl rfl | exact Or.inr rfl | assumption) (Nat.le_of_ble_eq_true rfl) (Nat.le_of_ble_eq_true rfl) ?_
              exact ⟨⟨(by first | exact Or.inl rfl | exact Or.inr rfl | assumption), Or.inl ⟨_, i10_4 _ (O_op (opr_pm (Or.inr c_71)) hx_88), hk_89, rfl⟩⟩, rfl, j_82⟩
            · skip
              refine aw_eqi (y := 1) e_96 ?_
              obtain ⟨hb_94a, hb_94b⟩ := hb_94
              refine aw_if_ne (tgt := 82) dX5_readSum_77 (by decide) (fun c_98 => ?_) (fun c_98 => ?_)
              rotate_left
              · exact absurd c_98 (by decide)
              refine aw_aload_n dX5_readSum_82 rfl ?_
              refine aw_get dX5_readSum_83 fl_X5_9 ((j_82.2.1 _ hp.1 hp.2).trans hR) (by omega) rfl ?_
              refine aw_iload_n dX5_readSum_86 rfl ?_
              refine aw_iconst (v := 0) dX5_readSum_87 (by decide) ?_
              obtain ⟨s8_102, r8_102, h8_102, e_102, hs_102, hr_102⟩ := JW.get j_82 (ctl_0 hx)
              refine aw_callVi (J' := jX4_add) (As := [.int (hd g n a10), .int 0]) (st := []) dX5_readSum_88 tb_415 ok_X4_add ⟨_, e_102⟩ (by omega) rfl rfl (g_X4_add l D b N V_83 hN j_82.1 x hx (hd g n a10) 0 (by decide)) rfl (Nat.le_of_ble_eq_true rfl) ⟨Nat.le_of_ble_eq_true rfl, Nat.le_of_ble_eq_true rfl, Nat.le_of_ble_eq_true rfl, Nat.le_of_ble_eq_true rfl⟩ (fun r_103 N_104 V_101 q_105 => ?_)
              obtain ⟨rfl, q_99⟩ := q_105
              have j_100 := JW.trans j_82 (JW.weak q_99 (Sub.cons (LMs (LMs LM0)) (by omega) (by omega) (by decide) (Or.inl rfl) (Sub.cons (LMs (LMs (LMs LM0))) (by omega) (by omega) (by decide) (Or.inl rfl) (Sub.cons (LMs (LMs (LMs (LMs LM0)))) (by omega) (by omega) (by decide) (Or.inr ⟨by decide, by decide⟩) Sub.nil))))
              refine aw_pop dX5_readSum_91 rfl ?_
              refine aw_goto (tgt := 10) dX5_readSum_92 (by decide) ?_
              refine aw_le ?_ (mih_10_21 _ (by omega) a_91 V_101 rfl (j_100) (((JW.fI q_99 (by omega) (nfc (by omega) (nfc (by omega) (nfc (by omega) nf0)))).trans ((JW.fI q_79 (by omega) (nfc (by omega) (nfc (by omega) (nfc (by omega) (nfc (by omega) (nfc (by omega) nf0)))))).trans (KA (s := 3) (x := .int (nI (a10 + 1))) e_22 rfl (by decide) e_78 k_78 i10_1)))) (((JW.fI q_99 (by omega) (nfc (by omega) (nfc (by omega) (nfc (by omega) nf0)))).trans hk_93)) (((JW.same q_99 (by decide) (fun k => (nfc (by omega) (nfc (by omega) (nfc (by omega) nf0))))).trans ((JW.same q_79 (by decide) (fun k => (nfc (by omega) (nfc (by omega) (nfc (by omega) (nfc (by omega) (nfc (by omega) nf0))))))).trans ((k_78 _ (by decide)).trans i10_3)))) (fun o q => i10_4 o (O_op (opr_pm (Or.inr c_71)) (hx_92 o q))) (⟨by omega, by omega⟩) (hz_95))
              exact ⟨rfl, ⟨rfl, trivial⟩⟩
    refine aw_le ?_ (ml_10_21 _ a_13 V_5 rfl (j_4) (((JW.fI q_1 (by omega) (nfc (by omega) (nfc (by omega) (nfc (by omega) (nfc (by omega) (nfc (by omega) nf0)))))).trans hE)) (hk_15) (((JW.same q_1 (by decide) (fun k => (nfc (by omega) (nfc (by omega) (nfc (by omega) (nfc (by omega) (nfc (by omega) nf0))))))).trans hg)) (hx_14) (⟨by omega, by omega⟩) (hz_17))
    exact ⟨rfl, ⟨rfl, trivial⟩⟩

set_option maxHeartbeats 20000000 in
set_option maxRecDepth 100000 in
theorem g_X5_readComparison_1S (l : Launch) (D : va_G) (b : Nat) (N : Nat) (V : Wd) (hN : 100 ≤ N) (hW : CW D b V) (p x : Nat) (hp : 100 ≤ p ∧ p < N) (hx : x = 57 ∨ x = 65) (hR : V p = cO 5 [.ref (b + 1), .ref (b + x)]) (g : Nat → Int32) (hg : V 2 = cI D 260 g) (n a : Nat) (hna : a ≤ n ∧ n ≤ 240) (hE : fI (V 1) 2 = nI n) (hA : fI (V 1) 3 = nI a) (hB : BY g) (k0 : Nat) (t : List Nat) (hs : dpt (k0 :: t) = 1) (h33 : ¬ hd g n a = 33) (h40 : ¬ hd g n a = 40) : MI l D b 23 jX5_readComparison [.ref (b + p), .int 1] N V 0 0 (fun r N9 V9 => ((r = 0 ∨ r = 1) ∧ ((∃ f, RES g n (2, a, (k0 :: t)) (.inl f) ∧ fI (V9 1) 4 = f ∧ r = 0) ∨ (∃ a9, (∀ o, RES g n (3, a9, (k0 :: t)) o → RES g n (2, a, (k0 :: t)) o) ∧ fI (V9 1) 3 = nI a9 ∧ (a < a9 ∧ a9 ≤ n) ∧ r = 1))) ∧ N = N9 ∧ JW D b N [(1, 1, 3, 3), (1, 1, 4, 4), (x + 1, x + 1, 0, 1000000), (x + 2, x + 2, 0, 1000000), (x, x, 2, 2)] V V9) := by
  have hJ0 : JW D b N [(1, 1, 3, 3), (1, 1, 4, 4), (x + 1, x + 1, 0, 1000000), (x + 2, x + 2, 0, 1000000), (x, x, 2, 2)] V V := JW.rf hW
  refine mw_of (by decide) (by simp [Value.category]) (Nat.le_of_ble_eq_true rfl) ?_
  show AW l D b jX5_readComparison (fx_rm 23 0 0) none (fx_MQ D b 0 0 (fx_qi (fun r N9 V9 => ((r = 0 ∨ r = 1) ∧ ((∃ f, RES g n (2, a, (k0 :: t)) (.inl f) ∧ fI (V9 1) 4 = f ∧ r = 0) ∨ (∃ a9, (∀ o, RES g n (3, a9, (k0 :: t)) o → RES g n (2, a, (k0 :: t)) o) ∧ fI (V9 1) 3 = nI a9 ∧ (a < a9 ∧ a9 ≤ n) ∧ r = 1))) ∧ N = N9 ∧ JW D b N [(1, 1, 3, 3), (1, 1, 4, 4), (x + 1, x + 1, 0, 1000000), (x + 2, x + 2, 0, 1000000), (x, x, 2, 2)] V V9))) 0 [some (.ref (b + p)), some (.int 1), none] [] N V 0 0
  refine aw_aload_n dX5_readComparison_0 rfl ?_
  refine aw_iload_n dX5_readComparison_1 rfl ?_
  refine aw_callVi (J' := jX5_readSum) (As := [.int 1]) (st := []) dX5_readComparison_2 tb_395 ok_X5_readSum ⟨_, ((hJ0.2.1 _ hp.1 hp.2).trans hR)⟩ (by omega) rfl rfl (g_X5_readSum_1S l D b N V hN hJ0.1 p x ⟨by omega, by omega⟩ hx ((hJ0.2.1 _ hp.1 hp.2).trans hR) g hg n a ⟨by omega, by omega⟩ hE hA hB (1 :: k0 :: t) (dpt_1 hs)) rfl (Nat.le_of_ble_eq_true rfl) ⟨Nat.le_of_ble_eq_true rfl, Nat.le_of_ble_eq_true rfl, Nat.le_of_ble_eq_true rfl, Nat.le_of_ble_eq_true rfl⟩ (fun r_6 N_7 V_5 q_8 => ?_)
  obtain ⟨⟨z_3, h_2⟩, rfl, q_1⟩ := q_8
  have j_4 := JW.trans hJ0 (JW.weak q_1 (Sub.cons LM0 (by decide) (by decide) (by decide) (Or.inr ⟨by decide, by decide⟩) (Sub.cons (LMs LM0) (by decide) (by decide) (by decide) (Or.inr ⟨by decide, by decide⟩) (Sub.cons (LMs (LMs LM0)) (by omega) (by omega) (by decide) (Or.inl rfl) (Sub.cons (LMs (LMs (LMs LM0))) (by omega) (by omega) (by decide) (Or.inl rfl) (Sub.cons (LMs (LMs (LMs (LMs LM0)))) (by omega) (by omega) (by decide) (Or.inr ⟨by decide, by decide⟩) Sub.nil))))))
  rcases h_2 with ⟨f_9, hx_10, hk_11, e_12⟩ | ⟨a_13, hx_14, hk_15, hb_16, hz_17, e_18⟩
  · skip
    refine aw_eqi (y := 0) e_12 ?_
    refine aw_if_ne (tgt := 10) dX5_readComparison_5 (by decide) (fun c_19 => ?_) (fun c_19 => ?_)
    · exact absurd rfl c_19
    refine aw_iconst (v := 0) dX5_readComparison_8 (by decide) ?_
    refine aw_zreti dX5_readComparison_9 rfl (by first | exact Or.inl rfl | exact Or.inr rfl | assumption) (Nat.le_of_ble_eq_true rfl) (Nat.le_of_ble_eq_true rfl) ?_
    exact ⟨⟨(by first | exact Or.inl rfl | exact Or.inr rfl | assumption), Or.inl ⟨_, T_cmp h33 h40 hx_10, hk_11, rfl⟩⟩, rfl, j_4⟩
  · skip
    refine aw_eqi (y := 1) e_18 ?_
    obtain ⟨hb_16a, hb_16b⟩ := hb_16
    refine aw_if_ne (tgt := 10) dX5_readComparison_5 (by decide) (fun c_20 => ?_) (fun c_20 => ?_)
    rotate_left
    · exact absurd c_20 (by decide)
    refine aw_aload_n dX5_readComparison_10 rfl ?_
    refine aw_get dX5_readComparison_11 fl_X5_15 ((j_4.2.1 _ hp.1 hp.2).trans hR) (by omega) rfl ?_
    obtain ⟨ts_23, tn_23, tf_23, ta_23, e_23, hta_23⟩ := JW.get j_4 ct_1
    refine aw_callVi (J' := jX10_now) (As := []) (st := []) dX5_readComparison_14 tb_390 ok_X10_now ⟨_, e_23⟩ (by omega) rfl rfl (g_X10_nowS l D b N V_5 hN j_4.1 g ((JW.same q_1 (by decide) (fun k => (nfc (by omega) (nfc (by omega) (nfc (by omega) (nfc (by omega) (nfc (by omega) nf0))))))).trans hg) n a_13 ⟨by omega, by omega⟩ ((JW.fI q_1 (by omega) (nfc (by omega) (nfc (by omega) (nfc (by omega) (nfc (by omega) (nfc (by omega) nf0)))))).trans hE) hk_15) rfl (Nat.le_of_ble_eq_true rfl) ⟨Nat.le_of_ble_eq_true rfl, Nat.le_of_ble_eq_true rfl, Nat.le_of_ble_eq_true rfl, Nat.le_of_ble_eq_true rfl⟩ (fun r_24 N_25 V_26 q_27 => ?_)
    obtain ⟨h_22, rfl, rfl⟩ := q_27
    refine aw_eqi (y := (hd g n a_13)) h_22 ?_
    refine aw_istore_n (ls' := [some (.ref (b + p)), some (.int 1), some (.int (hd g n a_13))]) dX5_readComparison_17 (Nat.le_of_ble_eq_true rfl) rfl ?_
    refine aw_iload_n dX5_readComparison_18 rfl ?_
    refine aw_bipush (v := 60) dX5_readComparison_19 (by decide) ?_
    refine aw_icmp_eq (tgt := 44) dX5_readComparison_21 (by decide) (fun c_28 => ?_) (fun c_28 => ?_)
    · skip
      have hlc_28 := hd_lit c_28 (by decide)
      refine aw_aload_n dX5_readComparison_44 rfl ?_
      refine aw_get dX5_readComparison_45 fl_X5_15 ((j_4.2.1 _ hp.1 hp.2).trans hR) (by omega) rfl ?_
      refine aw_dup dX5_readComparison_48 rfl ?_
      refine aw_get dX5_readComparison_49 fl_X5_25 e_23 (by omega) rfl ?_
      refine aw_eqi (y := (nI a_13)) ((Eq.symm (congrArg (fun z => fI z 3) e_23)).trans hk_15) ?_
      refine aw_iconst (v := 1) dX5_readComparison_52 (by decide) ?_
      refine aw_iadd dX5_readComparison_53 ?_
      refine aw_eqi (y := nI (a_13 + 1)) (nI_add _ _) ?_
      refine aw_put dX5_readComparison_54 fp_X5_25 e_23 (by omega) rfl rfl (Nat.le_of_ble_eq_true rfl) rfl ?_
      refine aw_up j_4 ct_1 ⟨_, _, _, (a_13 + 1), rfl, (by first | omega | (split <;> omega))⟩ (WO (s := 3) (x := .int (nI (a_13 + 1))) e_23 rfl LM0 (by decide) (by decide) (by decide) (Or.inl (by decide))) (fun V_29 j_29 k_29 e_29 => ?_)
      refine aw_aload_n dX5_readComparison_57 rfl ?_
      refine aw_iload_n dX5_readComparison_58 rfl ?_
      refine aw_callVi (J' := jX5_readSum) (As := [.int 1]) (st := []) dX5_readComparison_59 tb_395 ok_X5_readSum ⟨_, ((j_29.2.1 _ hp.1 hp.2).trans hR)⟩ (by omega) rfl rfl (g_X5_readSum_1S l D b N V_29 hN j_29.1 p x ⟨by omega, by omega⟩ hx ((j_29.2.1 _ hp.1 hp.2).trans hR) g ((k_29 _ (by decide)).trans ((JW.same q_1 (by decide) (fun k => (nfc (by omega) (nfc (by omega) (nfc (by omega) (nfc (by omega) (nfc (by omega) nf0))))))).trans hg)) n (a_13 + 1) ⟨by omega, by omega⟩ (KA (s := 3) (x := .int (nI (a_13 + 1))) e_23 rfl (by decide) e_29 k_29 ((JW.fI q_1 (by omega) (nfc (by omega) (nfc (by omega) (nfc (by omega) (nfc (by omega) (nfc (by omega) nf0)))))).trans hE)) ((congrArg (fun z => fI z 3) e_29).trans rfl) hB (2 :: k0 :: t) (dpt_2 hs)) rfl (Nat.le_of_ble_eq_true rfl) ⟨Nat.le_of_ble_eq_true rfl, Nat.le_of_ble_eq_true rfl, Nat.le_of_ble_eq_true rfl, Nat.le_of_ble_eq_true rfl⟩ (fun r_35 N_36 V_34 q_37 => ?_)
      obtain ⟨⟨z_32, h_31⟩, rfl, q_30⟩ := q_37
      have j_33 := JW.trans j_29 (JW.weak q_30 (Sub.cons LM0 (by decide) (by decide) (by decide) (Or.inr ⟨by decide, by decide⟩) (Sub.cons (LMs LM0) (by decide) (by decide) (by decide) (Or.inr ⟨by decide, by decide⟩) (Sub.cons (LMs (LMs LM0)) (by omega) (by omega) (by decide) (Or.inl rfl) (Sub.cons (LMs (LMs (LMs LM0))) (by omega) (by omega) (by decide) (Or.inl rfl) (Sub.cons (LMs (LMs (LMs (LMs LM0)))) (by omega) (by omega) (by decide) (Or.inr ⟨by decide, by decide⟩) Sub.nil))))))
      rcases h_31 with ⟨f_38, hx_39, hk_40, e_41⟩ | ⟨a_42, hx_43, hk_44, hb_45, hz_46, e_47⟩
      · skip
        refine aw_eqi (y := 0) e_41 ?_
        refine aw_if_ne (tgt := 67) dX5_readComparison_62 (by decide) (fun c_48 => ?_) (fun c_48 => ?_)
        · exact absurd rfl c_48
        refine aw_iconst (v := 0) dX5_readComparison_65 (by decide) ?_
        refine aw_zreti dX5_readComparison_66 rfl (by first | exact Or.inl rfl | exact Or.inr rfl | assumption) (Nat.le_of_ble_eq_true rfl) (Nat.le_of_ble_eq_true rfl) ?_
        exact ⟨⟨(by first | exact Or.inl rfl | exact Or.inr rfl | assumption), Or.inl ⟨_, T_cmp h33 h40 (hx_14 _ (O_cmp hz_17 (cmr_t (Or.inl c_28)) hx_39)), hk_40, rfl⟩⟩, rfl, j_33⟩
      · skip
        refine aw_eqi (y := 1) e_47 ?_
        obtain ⟨hb_45a, hb_45b⟩ := hb_45
        refine aw_if_ne (tgt := 67) dX5_readComparison_62 (by decide) (fun c_49 => ?_) (fun c_49 => ?_)
        rotate_left
        · exact absurd c_49 (by decide)
        refine aw_aload_n dX5_readComparison_67 rfl ?_
        refine aw_get dX5_readComparison_68 fl_X5_9 ((j_33.2.1 _ hp.1 hp.2).trans hR) (by omega) rfl ?_
        refine aw_iload_n dX5_readComparison_71 rfl ?_
        refine aw_iconst (v := 0) dX5_readComparison_72 (by decide) ?_
        obtain ⟨s8_53, r8_53, h8_53, e_53, hs_53, hr_53⟩ := JW.get j_33 (ctl_0 hx)
        refine aw_callVi (J' := jX4_add) (As := [.int (hd g n a_13), .int 0]) (st := []) dX5_readComparison_73 tb_415 ok_X4_add ⟨_, e_53⟩ (by omega) rfl rfl (g_X4_add l D b N V_34 hN j_33.1 x hx (hd g n a_13) 0 (by decide)) rfl (Nat.le_of_ble_eq_true rfl) ⟨Nat.le_of_ble_eq_true rfl, Nat.le_of_ble_eq_true rfl, Nat.le_of_ble_eq_true rfl, Nat.le_of_ble_eq_true rfl⟩ (fun r_54 N_55 V_52 q_56 => ?_)
        obtain ⟨rfl, q_50⟩ := q_56
        have j_51 := JW.trans j_33 (JW.weak q_50 (Sub.cons (LMs (LMs LM0)) (by omega) (by omega) (by decide) (Or.inl rfl) (Sub.cons (LMs (LMs (LMs LM0))) (by omega) (by omega) (by decide) (Or.inl rfl) (Sub.cons (LMs (LMs (LMs (LMs LM0)))) (by omega) (by omega) (by decide) (Or.inr ⟨by decide, by decide⟩) Sub.nil))))
        refine aw_pop dX5_readComparison_76 rfl ?_
        refine aw_iconst (v := 1) dX5_readComparison_77 (by decide) ?_
        refine aw_zreti dX5_readComparison_78 rfl (by first | exact Or.inl rfl | exact Or.inr rfl | assumption) (Nat.le_of_ble_eq_true rfl) (Nat.le_of_ble_eq_true rfl) ?_
        exact ⟨⟨(by first | exact Or.inl rfl | exact Or.inr rfl | assumption), Or.inr ⟨_, fun o q => T_cmp h33 h40 (hx_14 _ (O_cmp hz_17 (cmr_t (Or.inl c_28)) (hx_43 _ (O_r hz_46 q)))), ((JW.fI q_50 (by omega) (nfc (by omega) (nfc (by omega) (nfc (by omega) nf0)))).trans hk_44), ⟨by omega, by omega⟩, rfl⟩⟩, rfl, j_51⟩
    · skip
      refine aw_iload_n dX5_readComparison_24 rfl ?_
      refine aw_bipush (v := 62) dX5_readComparison_25 (by decide) ?_
      refine aw_icmp_eq (tgt := 44) dX5_readComparison_27 (by decide) (fun c_57 => ?_) (fun c_57 => ?_)
      · skip
        have hlc_57 := hd_lit c_57 (by decide)
        refine aw_aload_n dX5_readComparison_44 rfl ?_
        refine aw_get dX5_readComparison_45 fl_X5_15 ((j_4.2.1 _ hp.1 hp.2).trans hR) (by omega) rfl ?_
        refine aw_dup dX5_readComparison_48 rfl ?_
        refine aw_get dX5_readComparison_49 fl_X5_25 e_23 (by omega) rfl ?_
        refine aw_eqi (y := (nI a_13)) ((Eq.symm (congrArg (fun z => fI z 3) e_23)).trans hk_15) ?_
        refine aw_iconst (v := 1) dX5_readComparison_52 (by decide) ?_
        refine aw_iadd dX5_readComparison_53 ?_
        refine aw_eqi (y := nI (a_13 + 1)) (nI_add _ _) ?_
        refine aw_put dX5_readComparison_54 fp_X5_25 e_23 (by omega) rfl rfl (Nat.le_of_ble_eq_true rfl) rfl ?_
        refine aw_up j_4 ct_1 ⟨_, _, _, (a_13 + 1), rfl, (by first | omega | (split <;> omega))⟩ (WO (s := 3) (x := .int (nI (a_13 + 1))) e_23 rfl LM0 (by decide) (by decide) (by decide) (Or.inl (by decide))) (fun V_58 j_58 k_58 e_58 => ?_)
        refine aw_aload_n dX5_readComparison_57 rfl ?_
        refine aw_iload_n dX5_readComparison_58 rfl ?_
        refine aw_callVi (J' := jX5_readSum) (As := [.int 1]) (st := []) dX5_readComparison_59 tb_395 ok_X5_readSum ⟨_, ((j_58.2.1 _ hp.1 hp.2).trans hR)⟩ (by omega) rfl rfl (g_X5_readSum_1S l D b N V_58 hN j_58.1 p x ⟨by omega, by omega⟩ hx ((j_58.2.1 _ hp.1 hp.2).trans hR) g ((k_58 _ (by decide)).trans ((JW.same q_1 (by decide) (fun k => (nfc (by omega) (nfc (by omega) (nfc (by omega) (nfc (by omega) (nfc (by omega) nf0))))))).trans hg)) n (a_13 + 1) ⟨by omega, by omega⟩ (KA (s := 3) (x := .int (nI (a_13 + 1))) e_23 rfl (by decide) e_58 k_58 ((JW.fI q_1 (by omega) (nfc (by omega) (nfc (by omega) (nfc (by omega) (nfc (by omega) (nfc (by omega) nf0)))))).trans hE)) ((congrArg (fun z => fI z 3) e_58).trans rfl) hB (2 :: k0 :: t) (dpt_2 hs)) rfl (Nat.le_of_ble_eq_true rfl) ⟨Nat.le_of_ble_eq_true rfl, Nat.le_of_ble_eq_true rfl, Nat.le_of_ble_eq_true rfl, Nat.le_of_ble_eq_true rfl⟩ (fun r_64 N_65 V_63 q_66 => ?_)
        obtain ⟨⟨z_61, h_60⟩, rfl, q_59⟩ := q_66
        have j_62 := JW.trans j_58 (JW.weak q_59 (Sub.cons LM0 (by decide) (by decide) (by decide) (Or.inr ⟨by decide, by decide⟩) (Sub.cons (LMs LM0) (by decide) (by decide) (by decide) (Or.inr ⟨by decide, by decide⟩) (Sub.cons (LMs (LMs LM0)) (by omega) (by omega) (by decide) (Or.inl rfl) (Sub.cons (LMs (LMs (LMs LM0))) (by omega) (by omega) (by decide) (Or.inl rfl) (Sub.cons (LMs (LMs (LMs (LMs LM0)))) (by omega) (by omega) (by decide) (Or.inr ⟨by decide, by decide⟩) Sub.nil))))))
        rcases h_60 with ⟨f_67, hx_68, hk_69, e_70⟩ | ⟨a_71, hx_72, hk_73, hb_74, hz_75, e_76⟩
        · skip
          refine aw_eqi (y := 0) e_70 ?_
          refine aw_if_ne (tgt := 67) dX5_readComparison_62 (by decide) (fun c_77 => ?_) (fun c_77 => ?_)
          · exact absurd rfl c_77
          refine aw_iconst (v := 0) dX5_readComparison_65 (by decide) ?_
          refine aw_zreti dX5_readComparison_66 rfl (by first | exact Or.inl rfl | exact Or.inr rfl | assumption) (Nat.le_of_ble_eq_true rfl) (Nat.le_of_ble_eq_true rfl) ?_
          exact ⟨⟨(by first | exact Or.inl rfl | exact Or.inr rfl | assumption), Or.inl ⟨_, T_cmp h33 h40 (hx_14 _ (O_cmp hz_17 (cmr_t (Or.inr (Or.inl c_57))) hx_68)), hk_69, rfl⟩⟩, rfl, j_62⟩
        · skip
          refine aw_eqi (y := 1) e_76 ?_
          obtain ⟨hb_74a, hb_74b⟩ := hb_74
          refine aw_if_ne (tgt := 67) dX5_readComparison_62 (by decide) (fun c_78 => ?_) (fun c_78 => ?_)
          rotate_left
          · exact absurd c_78 (by decide)
          refine aw_aload_n dX5_readComparison_67 rfl ?_
          refine aw_get dX5_readComparison_68 fl_X5_9 ((j_62.2.1 _ hp.1 hp.2).trans hR) (by omega) rfl ?_
          refine aw_iload_n dX5_readComparison_71 rfl ?_
          refine aw_iconst (v := 0) dX5_readComparison_72 (by decide) ?_
          obtain ⟨s8_82, r8_82, h8_82, e_82, hs_82, hr_82⟩ := JW.get j_62 (ctl_0 hx)
          refine aw_callVi (J' := jX4_add) (As := [.int (hd g n a_13), .int 0]) (st := []) dX5_readComparison_73 tb_415 ok_X4_add ⟨_, e_82⟩ (by omega) rfl rfl (g_X4_add l D b N V_63 hN j_62.1 x hx (hd g n a_13) 0 (by decide)) rfl (Nat.le_of_ble_eq_true rfl) ⟨Nat.le_of_ble_eq_true rfl, Nat.le_of_ble_eq_true rfl, Nat.le_of_ble_eq_true rfl, Nat.le_of_ble_eq_true rfl⟩ (fun r_83 N_84 V_81 q_85 => ?_)
          obtain ⟨rfl, q_79⟩ := q_85
          have j_80 := JW.trans j_62 (JW.weak q_79 (Sub.cons (LMs (LMs LM0)) (by omega) (by omega) (by decide) (Or.inl rfl) (Sub.cons (LMs (LMs (LMs LM0))) (by omega) (by omega) (by decide) (Or.inl rfl) (Sub.cons (LMs (LMs (LMs (LMs LM0)))) (by omega) (by omega) (by decide) (Or.inr ⟨by decide, by decide⟩) Sub.nil))))
          refine aw_pop dX5_readComparison_76 rfl ?_
          refine aw_iconst (v := 1) dX5_readComparison_77 (by decide) ?_
          refine aw_zreti dX5_readComparison_78 rfl (by first | exact Or.inl rfl | exact Or.inr rfl | assumption) (Nat.le_of_ble_eq_true rfl) (Nat.le_of_ble_eq_true rfl) ?_
          exact ⟨⟨(by first | exact Or.inl rfl | exact Or.inr rfl | assumption), Or.inr ⟨_, fun o q => T_cmp h33 h40 (hx_14 _ (O_cmp hz_17 (cmr_t (Or.inr (Or.inl c_57))) (hx_72 _ (O_r hz_75 q)))), ((JW.fI q_79 (by omega) (nfc (by omega) (nfc (by omega) (nfc (by omega) nf0)))).trans hk_73), ⟨by omega, by omega⟩, rfl⟩⟩, rfl, j_80⟩
      · skip
        refine aw_iload_n dX5_readComparison_30 rfl ?_
        refine aw_bipush (v := 61) dX5_readComparison_31 (by decide) ?_
        refine aw_icmp_eq (tgt := 44) dX5_readComparison_33 (by decide) (fun c_86 => ?_) (fun c_86 => ?_)
        · skip
          have hlc_86 := hd_lit c_86 (by decide)
          refine aw_aload_n dX5_readComparison_44 rfl ?_
          refine aw_get dX5_readComparison_45 fl_X5_15 ((j_4.2.1 _ hp.1 hp.2).trans hR) (by omega) rfl ?_
          refine aw_dup dX5_readComparison_48 rfl ?_
          refine aw_get dX5_readComparison_49 fl_X5_25 e_23 (by omega) rfl ?_
          refine aw_eqi (y := (nI a_13)) ((Eq.symm (congrArg (fun z => fI z 3) e_23)).trans hk_15) ?_
          refine aw_iconst (v := 1) dX5_readComparison_52 (by decide) ?_
          refine aw_iadd dX5_readComparison_53 ?_
          refine aw_eqi (y := nI (a_13 + 1)) (nI_add _ _) ?_
          refine aw_put dX5_readComparison_54 fp_X5_25 e_23 (by omega) rfl rfl (Nat.le_of_ble_eq_true rfl) rfl ?_
          refine aw_up j_4 ct_1 ⟨_, _, _, (a_13 + 1), rfl, (by first | omega | (split <;> omega))⟩ (WO (s := 3) (x := .int (nI (a_13 + 1))) e_23 rfl LM0 (by decide) (by decide) (by decide) (Or.inl (by decide))) (fun V_87 j_87 k_87 e_87 => ?_)
          refine aw_aload_n dX5_readComparison_57 rfl ?_
          refine aw_iload_n dX5_readComparison_58 rfl ?_
          refine aw_callVi (J' := jX5_readSum) (As := [.int 1]) (st := []) dX5_readComparison_59 tb_395 ok_X5_readSum ⟨_, ((j_87.2.1 _ hp.1 hp.2).trans hR)⟩ (by omega) rfl rfl (g_X5_readSum_1S l D b N V_87 hN j_87.1 p x ⟨by omega, by omega⟩ hx ((j_87.2.1 _ hp.1 hp.2).trans hR) g ((k_87 _ (by decide)).trans ((JW.same q_1 (by decide) (fun k => (nfc (by omega) (nfc (by omega) (nfc (by omega) (nfc (by omega) (nfc (by omega) nf0))))))).trans hg)) n (a_13 + 1) ⟨by omega, by omega⟩ (KA (s := 3) (x := .int (nI (a_13 + 1))) e_23 rfl (by decide) e_87 k_87 ((JW.fI q_1 (by omega) (nfc (by omega) (nfc (by omega) (nfc (by omega) (nfc (by omega) (nfc (by omega) nf0)))))).trans hE)) ((congrArg (fun z => fI z 3) e_87).trans rfl) hB (2 :: k0 :: t) (dpt_2 hs)) rfl (Nat.le_of_ble_eq_true rfl) ⟨Nat.le_of_ble_eq_true rfl, Nat.le_of_ble_eq_true rfl, Nat.le_of_ble_eq_true rfl, Nat.le_of_ble_eq_true rfl⟩ (fun r_93 N_94 V_92 q_95 => ?_)
          obtain ⟨⟨z_90, h_89⟩, rfl, q_88⟩ := q_95
          have j_91 := JW.trans j_87 (JW.weak q_88 (Sub.cons LM0 (by decide) (by decide) (by decide) (Or.inr ⟨by decide, by decide⟩) (Sub.cons (LMs LM0) (by decide) (by decide) (by decide) (Or.inr ⟨by decide, by decide⟩) (Sub.cons (LMs (LMs LM0)) (by omega) (by omega) (by decide) (Or.inl rfl) (Sub.cons (LMs (LMs (LMs LM0))) (by omega) (by omega) (by decide) (Or.inl rfl) (Sub.cons (LMs (LMs (LMs (LMs LM0)))) (by omega) (by omega) (by decide) (Or.inr ⟨by decide, by decide⟩) Sub.nil))))))
          rcases h_89 with ⟨f_96, hx_97, hk_98, e_99⟩ | ⟨a_100, hx_101, hk_102, hb_103, hz_104, e_105⟩
          · skip
            refine aw_eqi (y := 0) e_99 ?_
            refine aw_if_ne (tgt := 67) dX5_readComparison_62 (by decide) (fun c_106 => ?_) (fun c_106 => ?_)
            · exact absurd rfl c_106
            refine aw_iconst (v := 0) dX5_readComparison_65 (by decide) ?_
            refine aw_zreti dX5_readComparison_66 rfl (by first | exact Or.inl rfl | exact Or.inr rfl | assumption) (Nat.le_of_ble_eq_true rfl) (Nat.le_of_ble_eq_true rfl) ?_
            exact ⟨⟨(by first | exact Or.inl rfl | exact Or.inr rfl | assumption), Or.inl ⟨_, T_cmp h33 h40 (hx_14 _ (O_cmp hz_17 (cmr_t (Or.inr (Or.inr c_86))) hx_97)), hk_98, rfl⟩⟩, rfl, j_91⟩
          · skip
            refine aw_eqi (y := 1) e_105 ?_
            obtain ⟨hb_103a, hb_103b⟩ := hb_103
            refine aw_if_ne (tgt := 67) dX5_readComparison_62 (by decide) (fun c_107 => ?_) (fun c_107 => ?_)
            rotate_left
            · exact absurd c_107 (by decide)
            refine aw_aload_n dX5_readComparison_67 rfl ?_
            refine aw_get dX5_readComparison_68 fl_X5_9 ((j_91.2.1 _ hp.1 hp.2).trans hR) (by omega) rfl ?_
            refine aw_iload_n dX5_readComparison_71 rfl ?_
            refine aw_iconst (v := 0) dX5_readComparison_72 (by decide) ?_
            obtain ⟨s8_111, r8_111, h8_111, e_111, hs_111, hr_111⟩ := JW.get j_91 (ctl_0 hx)
            refine aw_callVi (J' := jX4_add) (As := [.int (hd g n a_13), .int 0]) (st := []) dX5_readComparison_73 tb_415 ok_X4_add ⟨_, e_111⟩ (by omega) rfl rfl (g_X4_add l D b N V_92 hN j_91.1 x hx (hd g n a_13) 0 (by decide)) rfl (Nat.le_of_ble_eq_true rfl) ⟨Nat.le_of_ble_eq_true rfl, Nat.le_of_ble_eq_true rfl, Nat.le_of_ble_eq_true rfl, Nat.le_of_ble_eq_true rfl⟩ (fun r_112 N_113 V_110 q_114 => ?_)
            obtain ⟨rfl, q_108⟩ := q_114
            have j_109 := JW.trans j_91 (JW.weak q_108 (Sub.cons (LMs (LMs LM0)) (by omega) (by omega) (by decide) (Or.inl rfl) (Sub.cons (LMs (LMs (LMs LM0))) (by omega) (by omega) (by decide) (Or.inl rfl) (Sub.cons (LMs (LMs (LMs (LMs LM0)))) (by omega) (by omega) (by decide) (Or.inr ⟨by decide, by decide⟩) Sub.nil))))
            refine aw_pop dX5_readComparison_76 rfl ?_
            refine aw_iconst (v := 1) dX5_readComparison_77 (by decide) ?_
            refine aw_zreti dX5_readComparison_78 rfl (by first | exact Or.inl rfl | exact Or.inr rfl | assumption) (Nat.le_of_ble_eq_true rfl) (Nat.le_of_ble_eq_true rfl) ?_
            exact ⟨⟨(by first | exact Or.inl rfl | exact Or.inr rfl | assumption), Or.inr ⟨_, fun o q => T_cmp h33 h40 (hx_14 _ (O_cmp hz_17 (cmr_t (Or.inr (Or.inr c_86))) (hx_101 _ (O_r hz_104 q)))), ((JW.fI q_108 (by omega) (nfc (by omega) (nfc (by omega) (nfc (by omega) nf0)))).trans hk_102), ⟨by omega, by omega⟩, rfl⟩⟩, rfl, j_109⟩
        · skip
          refine aw_aload_n dX5_readComparison_36 rfl ?_
          refine aw_get dX5_readComparison_37 fl_X5_15 ((j_4.2.1 _ hp.1 hp.2).trans hR) (by omega) rfl ?_
          refine aw_callVi (J' := jX10_cannotStand) (As := []) (st := []) dX5_readComparison_40 tb_493 ok_X10_cannotStand ⟨_, e_23⟩ (by omega) rfl rfl (g_X10_cannotStandS l D b N V_5 hN j_4.1 g ((JW.same q_1 (by decide) (fun k => (nfc (by omega) (nfc (by omega) (nfc (by omega) (nfc (by omega) (nfc (by omega) nf0))))))).trans hg) n a_13 ⟨by omega, by omega⟩ ((JW.fI q_1 (by omega) (nfc (by omega) (nfc (by omega) (nfc (by omega) (nfc (by omega) (nfc (by omega) nf0)))))).trans hE) hk_15) rfl (Nat.le_of_ble_eq_true rfl) ⟨Nat.le_of_ble_eq_true rfl, Nat.le_of_ble_eq_true rfl, Nat.le_of_ble_eq_true rfl, Nat.le_of_ble_eq_true rfl⟩ (fun r_120 N_121 V_119 q_122 => ?_)
          obtain ⟨⟨z_117, h_116⟩, rfl, q_115⟩ := q_122
          have j_118 := JW.trans j_4 (JW.weak q_115 (Sub.cons (LMs LM0) (by decide) (by decide) (by decide) (Or.inr ⟨by decide, by decide⟩) Sub.nil))
          obtain ⟨rfl, h_116f⟩ := h_116
          refine aw_zreti dX5_readComparison_43 rfl (by first | exact Or.inl rfl | exact Or.inr rfl | assumption) (Nat.le_of_ble_eq_true rfl) (Nat.le_of_ble_eq_true rfl) ?_
          exact ⟨⟨(by first | exact Or.inl rfl | exact Or.inr rfl | assumption), Or.inl ⟨_, T_cmp h33 h40 (hx_14 _ (O_ncmp hz_17 (cmr_f c_28 c_57 c_86))), h_116f, rfl⟩⟩, rfl, j_118⟩

set_option maxHeartbeats 20000000 in
set_option maxRecDepth 100000 in
theorem g_X5_readNegation_1S (l : Launch) (D : va_G) (b : Nat) (N : Nat) (V : Wd) (hN : 100 ≤ N) (hW : CW D b V) (p x : Nat) (hp : 100 ≤ p ∧ p < N) (hx : x = 57 ∨ x = 65) (hR : V p = cO 5 [.ref (b + 1), .ref (b + x)]) (g : Nat → Int32) (hg : V 2 = cI D 260 g) (n a : Nat) (hna : a ≤ n ∧ n ≤ 240) (hE : fI (V 1) 2 = nI n) (hA : fI (V 1) 3 = nI a) (hB : BY g) (k0 : Nat) (t : List Nat) (hs : dpt (k0 :: t) = 1) (h33 : hd g n a = 33) : MI l D b 22 jX5_readNegation [.ref (b + p), .int 1] N V 0 0 (fun r N9 V9 => ((r = 0 ∨ r = 1) ∧ ((∃ f, RES g n (2, a, (k0 :: t)) (.inl f) ∧ fI (V9 1) 4 = f ∧ r = 0) ∨ (∃ a9, (∀ o, RES g n (3, a9, (k0 :: t)) o → RES g n (2, a, (k0 :: t)) o) ∧ fI (V9 1) 3 = nI a9 ∧ (a < a9 ∧ a9 ≤ n) ∧ r = 1))) ∧ N = N9 ∧ JW D b N [(1, 1, 3, 3), (1, 1, 4, 4), (x + 1, x + 1, 0, 1000000), (x + 2, x + 2, 0, 1000000), (x, x, 2, 2)] V V9) := by
  have hJ0 : JW D b N [(1, 1, 3, 3), (1, 1, 4, 4), (x + 1, x + 1, 0, 1000000), (x + 2, x + 2, 0, 1000000), (x, x, 2, 2)] V V := JW.rf hW
  refine mw_of (by decide) (by simp [Value.category]) (Nat.le_of_ble_eq_true rfl) ?_
  show AW l D b jX5_readNegation (fx_rm 22 0 0) none (fx_MQ D b 0 0 (fx_qi (fun r N9 V9 => ((r = 0 ∨ r = 1) ∧ ((∃ f, RES g n (2, a, (k0 :: t)) (.inl f) ∧ fI (V9 1) 4 = f ∧ r = 0) ∨ (∃ a9, (∀ o, RES g n (3, a9, (k0 :: t)) o → RES g n (2, a, (k0 :: t)) o) ∧ fI (V9 1) 3 = nI a9 ∧ (a < a9 ∧ a9 ≤ n) ∧ r = 1))) ∧ N = N9 ∧ JW D b N [(1, 1, 3, 3), (1, 1, 4, 4), (x + 1, x + 1, 0, 1000000), (x + 2, x + 2, 0, 1000000), (x, x, 2, 2)] V V9))) 0 [some (.ref (b + p)), some (.int 1)] [] N V 0 0
  have hl33 := hd_lit h33 (by decide)
  refine aw_aload_n dX5_readNegation_0 rfl ?_
  refine aw_iload_n dX5_readNegation_1 rfl ?_
  refine aw_callVi (J' := jX5_open) (As := [.int 1]) (st := []) dX5_readNegation_2 tb_407 ok_X5_open ⟨_, ((hJ0.2.1 _ hp.1 hp.2).trans hR)⟩ (by omega) rfl rfl (g_X5_open_1S l D b N V hN hJ0.1 p x ⟨by omega, by omega⟩ hx ((hJ0.2.1 _ hp.1 hp.2).trans hR) g hg n a ⟨by omega, by omega⟩ hE hA hB (by omega)) rfl (Nat.le_of_ble_eq_true rfl) ⟨Nat.le_of_ble_eq_true rfl, Nat.le_of_ble_eq_true rfl, Nat.le_of_ble_eq_true rfl, Nat.le_of_ble_eq_true rfl⟩ (fun r_6 N_7 V_5 q_8 => ?_)
  obtain ⟨⟨z_3, h_2⟩, rfl, q_1⟩ := q_8
  have j_4 := JW.trans hJ0 (JW.weak q_1 (Sub.cons LM0 (by decide) (by decide) (by decide) (Or.inr ⟨by decide, by decide⟩) Sub.nil))
  obtain ⟨rfl, h_2f⟩ := h_2
  refine aw_if_eq (tgt := 18) dX5_readNegation_5 (by decide) (fun c_9 => ?_) (fun c_9 => ?_)
  · exact absurd c_9 (by decide)
  refine aw_aload_n dX5_readNegation_8 rfl ?_
  refine aw_iload_n dX5_readNegation_9 rfl ?_
  refine aw_iconst (v := 1) dX5_readNegation_10 (by decide) ?_
  refine aw_iadd dX5_readNegation_11 ?_
  refine aw_eqi (y := 2) (by decide) ?_
  refine aw_callVi (J' := jX5_readTest) (As := [.int 2]) (st := []) dX5_readNegation_12 tb_509 ok_X5_readTest ⟨_, ((j_4.2.1 _ hp.1 hp.2).trans hR)⟩ (by omega) rfl rfl (g_X5_readTest_2S l D b N V_5 hN j_4.1 p x ⟨by omega, by omega⟩ hx ((j_4.2.1 _ hp.1 hp.2).trans hR) g ((JW.same q_1 (by decide) (fun k => (nfc (by omega) nf0))).trans hg) n (a + 1) ⟨by omega, by omega⟩ ((JW.fI q_1 (by omega) (nfc (by omega) nf0)).trans hE) h_2f hB 4 (k0 :: t) (dpt_4 hs)) rfl (Nat.le_of_ble_eq_true rfl) ⟨Nat.le_of_ble_eq_true rfl, Nat.le_of_ble_eq_true rfl, Nat.le_of_ble_eq_true rfl, Nat.le_of_ble_eq_true rfl⟩ (fun r_15 N_16 V_14 q_17 => ?_)
  obtain ⟨⟨z_12, h_11⟩, rfl, q_10⟩ := q_17
  have j_13 := JW.trans j_4 (JW.weak q_10 (Sub.cons LM0 (by decide) (by decide) (by decide) (Or.inr ⟨by decide, by decide⟩) (Sub.cons (LMs LM0) (by decide) (by decide) (by decide) (Or.inr ⟨by decide, by decide⟩) (Sub.cons (LMs (LMs LM0)) (by omega) (by omega) (by decide) (Or.inl rfl) (Sub.cons (LMs (LMs (LMs LM0))) (by omega) (by omega) (by decide) (Or.inl rfl) (Sub.cons (LMs (LMs (LMs (LMs LM0)))) (by omega) (by omega) (by decide) (Or.inr ⟨by decide, by decide⟩) Sub.nil))))))
  rcases h_11 with ⟨f_18, hx_19, hk_20, e_21⟩ | ⟨a_22, hx_23, hk_24, hb_25, e_26⟩
  · skip
    refine aw_eqi (y := 0) e_21 ?_
    refine aw_if_ne (tgt := 20) dX5_readNegation_15 (by decide) (fun c_27 => ?_) (fun c_27 => ?_)
    · exact absurd rfl c_27
    refine aw_iconst (v := 0) dX5_readNegation_18 (by decide) ?_
    refine aw_zreti dX5_readNegation_19 rfl (by first | exact Or.inl rfl | exact Or.inr rfl | assumption) (Nat.le_of_ble_eq_true rfl) (Nat.le_of_ble_eq_true rfl) ?_
    exact ⟨⟨(by first | exact Or.inl rfl | exact Or.inr rfl | assumption), Or.inl ⟨_, T_not h33 (by omega) hx_19, hk_20, rfl⟩⟩, rfl, j_13⟩
  · skip
    refine aw_eqi (y := 1) e_26 ?_
    obtain ⟨hb_25a, hb_25b⟩ := hb_25
    refine aw_if_ne (tgt := 20) dX5_readNegation_15 (by decide) (fun c_28 => ?_) (fun c_28 => ?_)
    rotate_left
    · exact absurd c_28 (by decide)
    refine aw_aload_n dX5_readNegation_20 rfl ?_
    refine aw_get dX5_readNegation_21 fl_X5_9 ((j_13.2.1 _ hp.1 hp.2).trans hR) (by omega) rfl ?_
    refine aw_bipush (v := 33) dX5_readNegation_24 (by decide) ?_
    refine aw_iconst (v := 0) dX5_readNegation_26 (by decide) ?_
    obtain ⟨s8_32, r8_32, h8_32, e_32, hs_32, hr_32⟩ := JW.get j_13 (ctl_0 hx)
    refine aw_callVi (J' := jX4_add) (As := [.int 33, .int 0]) (st := []) dX5_readNegation_27 tb_415 ok_X4_add ⟨_, e_32⟩ (by omega) rfl rfl (g_X4_add l D b N V_14 hN j_13.1 x hx 33 0 (by decide)) rfl (Nat.le_of_ble_eq_true rfl) ⟨Nat.le_of_ble_eq_true rfl, Nat.le_of_ble_eq_true rfl, Nat.le_of_ble_eq_true rfl, Nat.le_of_ble_eq_true rfl⟩ (fun r_33 N_34 V_31 q_35 => ?_)
    obtain ⟨rfl, q_29⟩ := q_35
    have j_30 := JW.trans j_13 (JW.weak q_29 (Sub.cons (LMs (LMs LM0)) (by omega) (by omega) (by decide) (Or.inl rfl) (Sub.cons (LMs (LMs (LMs LM0))) (by omega) (by omega) (by decide) (Or.inl rfl) (Sub.cons (LMs (LMs (LMs (LMs LM0)))) (by omega) (by omega) (by decide) (Or.inr ⟨by decide, by decide⟩) Sub.nil))))
    refine aw_pop dX5_readNegation_30 rfl ?_
    refine aw_iconst (v := 1) dX5_readNegation_31 (by decide) ?_
    refine aw_zreti dX5_readNegation_32 rfl (by first | exact Or.inl rfl | exact Or.inr rfl | assumption) (Nat.le_of_ble_eq_true rfl) (Nat.le_of_ble_eq_true rfl) ?_
    exact ⟨⟨(by first | exact Or.inl rfl | exact Or.inr rfl | assumption), Or.inr ⟨_, fun o q => T_not h33 (by omega) (hx_23 o (A_not q)), ((JW.fI q_29 (by omega) (nfc (by omega) (nfc (by omega) (nfc (by omega) nf0)))).trans hk_24), ⟨by omega, by omega⟩, rfl⟩⟩, rfl, j_30⟩

set_option maxHeartbeats 20000000 in
set_option maxRecDepth 100000 in
theorem g_X5_readTest_1S (l : Launch) (D : va_G) (b : Nat) (N : Nat) (V : Wd) (hN : 100 ≤ N) (hW : CW D b V) (p x : Nat) (hp : 100 ≤ p ∧ p < N) (hx : x = 57 ∨ x = 65) (hR : V p = cO 5 [.ref (b + 1), .ref (b + x)]) (g : Nat → Int32) (hg : V 2 = cI D 260 g) (n a : Nat) (hna : a ≤ n ∧ n ≤ 240) (hE : fI (V 1) 2 = nI n) (hA : fI (V 1) 3 = nI a) (hB : BY g) (k0 : Nat) (t : List Nat) (hs : dpt (k0 :: t) = 1) : MI l D b 24 jX5_readTest [.ref (b + p), .int 1] N V 0 0 (fun r N9 V9 => ((r = 0 ∨ r = 1) ∧ ((∃ f, RES g n (2, a, (k0 :: t)) (.inl f) ∧ fI (V9 1) 4 = f ∧ r = 0) ∨ (∃ a9, (∀ o, RES g n (3, a9, (k0 :: t)) o → RES g n (2, a, (k0 :: t)) o) ∧ fI (V9 1) 3 = nI a9 ∧ (a < a9 ∧ a9 ≤ n) ∧ r = 1))) ∧ N = N9 ∧ JW D b N [(1, 1, 3, 3), (1, 1, 4, 4), (x + 1, x + 1, 0, 1000000), (x + 2, x + 2, 0, 1000000), (x, x, 2, 2)] V V9) := by
  have hJ0 : JW D b N [(1, 1, 3, 3), (1, 1, 4, 4), (x + 1, x + 1, 0, 1000000), (x + 2, x + 2, 0, 1000000), (x, x, 2, 2)] V V := JW.rf hW
  refine mw_of (by decide) (by simp [Value.category]) (Nat.le_of_ble_eq_true rfl) ?_
  show AW l D b jX5_readTest (fx_rm 24 0 0) none (fx_MQ D b 0 0 (fx_qi (fun r N9 V9 => ((r = 0 ∨ r = 1) ∧ ((∃ f, RES g n (2, a, (k0 :: t)) (.inl f) ∧ fI (V9 1) 4 = f ∧ r = 0) ∨ (∃ a9, (∀ o, RES g n (3, a9, (k0 :: t)) o → RES g n (2, a, (k0 :: t)) o) ∧ fI (V9 1) 3 = nI a9 ∧ (a < a9 ∧ a9 ≤ n) ∧ r = 1))) ∧ N = N9 ∧ JW D b N [(1, 1, 3, 3), (1, 1, 4, 4), (x + 1, x + 1, 0, 1000000), (x + 2, x + 2, 0, 1000000), (x, x, 2, 2)] V V9))) 0 [some (.ref (b + p)), some (.int 1), none] [] N V 0 0
  refine aw_aload_n dX5_readTest_0 rfl ?_
  refine aw_get dX5_readTest_1 fl_X5_15 ((hJ0.2.1 _ hp.1 hp.2).trans hR) (by omega) rfl ?_
  obtain ⟨ts_3, tn_3, tf_3, ta_3, e_3, hta_3⟩ := JW.get hJ0 ct_1
  refine aw_callVi (J' := jX10_now) (As := []) (st := []) dX5_readTest_4 tb_390 ok_X10_now ⟨_, e_3⟩ (by omega) rfl rfl (g_X10_nowS l D b N V hN hJ0.1 g hg n a ⟨by omega, by omega⟩ hE hA) rfl (Nat.le_of_ble_eq_true rfl) ⟨Nat.le_of_ble_eq_true rfl, Nat.le_of_ble_eq_true rfl, Nat.le_of_ble_eq_true rfl, Nat.le_of_ble_eq_true rfl⟩ (fun r_4 N_5 V_6 q_7 => ?_)
  obtain ⟨h_2, rfl, rfl⟩ := q_7
  refine aw_eqi (y := (hd g n a)) h_2 ?_
  refine aw_istore_n (ls' := [some (.ref (b + p)), some (.int 1), some (.int (hd g n a))]) dX5_readTest_7 (Nat.le_of_ble_eq_true rfl) rfl ?_
  refine aw_iload_n dX5_readTest_8 rfl ?_
  refine aw_bipush (v := 33) dX5_readTest_9 (by decide) ?_
  refine aw_icmp_ne (tgt := 20) dX5_readTest_11 (by decide) (fun c_8 => ?_) (fun c_8 => ?_)
  · skip
    refine aw_iload_n dX5_readTest_20 rfl ?_
    refine aw_bipush (v := 40) dX5_readTest_21 (by decide) ?_
    refine aw_icmp_ne (tgt := 62) dX5_readTest_23 (by decide) (fun c_9 => ?_) (fun c_9 => ?_)
    · skip
      refine aw_aload_n dX5_readTest_62 rfl ?_
      refine aw_iload_n dX5_readTest_63 rfl ?_
      refine aw_callVi (J' := jX5_readComparison) (As := [.int 1]) (st := []) dX5_readTest_64 tb_517 ok_X5_readComparison ⟨_, ((hJ0.2.1 _ hp.1 hp.2).trans hR)⟩ (by omega) rfl rfl (g_X5_readComparison_1S l D b N V hN hJ0.1 p x ⟨by omega, by omega⟩ hx ((hJ0.2.1 _ hp.1 hp.2).trans hR) g hg n a ⟨by omega, by omega⟩ hE hA hB k0 t hs c_8 c_9) rfl (Nat.le_of_ble_eq_true rfl) ⟨Nat.le_of_ble_eq_true rfl, Nat.le_of_ble_eq_true rfl, Nat.le_of_ble_eq_true rfl, Nat.le_of_ble_eq_true rfl⟩ (fun r_15 N_16 V_14 q_17 => ?_)
      obtain ⟨⟨z_12, h_11⟩, rfl, q_10⟩ := q_17
      have j_13 := JW.trans hJ0 (JW.weak q_10 (Sub.cons LM0 (by decide) (by decide) (by decide) (Or.inr ⟨by decide, by decide⟩) (Sub.cons (LMs LM0) (by decide) (by decide) (by decide) (Or.inr ⟨by decide, by decide⟩) (Sub.cons (LMs (LMs LM0)) (by omega) (by omega) (by decide) (Or.inl rfl) (Sub.cons (LMs (LMs (LMs LM0))) (by omega) (by omega) (by decide) (Or.inl rfl) (Sub.cons (LMs (LMs (LMs (LMs LM0)))) (by omega) (by omega) (by decide) (Or.inr ⟨by decide, by decide⟩) Sub.nil))))))
      rcases h_11 with ⟨f_18, hx_19, hk_20, e_21⟩ | ⟨a_22, hx_23, hk_24, hb_25, e_26⟩
      · skip
        refine aw_eqi (y := 0) e_21 ?_
        refine aw_zreti dX5_readTest_67 rfl (by first | exact Or.inl rfl | exact Or.inr rfl | assumption) (Nat.le_of_ble_eq_true rfl) (Nat.le_of_ble_eq_true rfl) ?_
        exact ⟨⟨(by first | exact Or.inl rfl | exact Or.inr rfl | assumption), Or.inl ⟨_, hx_19, hk_20, rfl⟩⟩, rfl, j_13⟩
      · skip
        refine aw_eqi (y := 1) e_26 ?_
        obtain ⟨hb_25a, hb_25b⟩ := hb_25
        refine aw_zreti dX5_readTest_67 rfl (by first | exact Or.inl rfl | exact Or.inr rfl | assumption) (Nat.le_of_ble_eq_true rfl) (Nat.le_of_ble_eq_true rfl) ?_
        exact ⟨⟨(by first | exact Or.inl rfl | exact Or.inr rfl | assumption), Or.inr ⟨_, hx_23, hk_24, ⟨by omega, by omega⟩, rfl⟩⟩, rfl, j_13⟩
    · skip
      have hlc_9 := hd_lit c_9 (by decide)
      refine aw_aload_n dX5_readTest_26 rfl ?_
      refine aw_iload_n dX5_readTest_27 rfl ?_
      refine aw_callVi (J' := jX5_open) (As := [.int 1]) (st := []) dX5_readTest_28 tb_407 ok_X5_open ⟨_, ((hJ0.2.1 _ hp.1 hp.2).trans hR)⟩ (by omega) rfl rfl (g_X5_open_1S l D b N V hN hJ0.1 p x ⟨by omega, by omega⟩ hx ((hJ0.2.1 _ hp.1 hp.2).trans hR) g hg n a ⟨by omega, by omega⟩ hE hA hB (by omega)) rfl (Nat.le_of_ble_eq_true rfl) ⟨Nat.le_of_ble_eq_true rfl, Nat.le_of_ble_eq_true rfl, Nat.le_of_ble_eq_true rfl, Nat.le_of_ble_eq_true rfl⟩ (fun r_32 N_33 V_31 q_34 => ?_)
      obtain ⟨⟨z_29, h_28⟩, rfl, q_27⟩ := q_34
      have j_30 := JW.trans hJ0 (JW.weak q_27 (Sub.cons LM0 (by decide) (by decide) (by decide) (Or.inr ⟨by decide, by decide⟩) Sub.nil))
      obtain ⟨rfl, h_28f⟩ := h_28
      refine aw_if_eq (tgt := 60) dX5_readTest_31 (by decide) (fun c_35 => ?_) (fun c_35 => ?_)
      · exact absurd c_35 (by decide)
      refine aw_aload_n dX5_readTest_34 rfl ?_
      refine aw_iload_n dX5_readTest_35 rfl ?_
      refine aw_iconst (v := 1) dX5_readTest_36 (by decide) ?_
      refine aw_iadd dX5_readTest_37 ?_
      refine aw_eqi (y := 2) (by decide) ?_
      refine aw_callVi (J' := jX5_readAnyOf) (As := [.int 2]) (st := []) dX5_readTest_38 tb_501 ok_X5_readAnyOf ⟨_, ((j_30.2.1 _ hp.1 hp.2).trans hR)⟩ (by omega) rfl rfl (g_X5_readAnyOf_2S l D b N V_31 hN j_30.1 p x ⟨by omega, by omega⟩ hx ((j_30.2.1 _ hp.1 hp.2).trans hR) g ((JW.same q_27 (by decide) (fun k => (nfc (by omega) nf0))).trans hg) n (a + 1) ⟨by omega, by omega⟩ ((JW.fI q_27 (by omega) (nfc (by omega) nf0)).trans hE) h_28f hB (k0 :: t) (dpt_5 hs)) rfl (Nat.le_of_ble_eq_true rfl) ⟨Nat.le_of_ble_eq_true rfl, Nat.le_of_ble_eq_true rfl, Nat.le_of_ble_eq_true rfl, Nat.le_of_ble_eq_true rfl⟩ (fun r_41 N_42 V_40 q_43 => ?_)
      obtain ⟨⟨z_38, h_37⟩, rfl, q_36⟩ := q_43
      have j_39 := JW.trans j_30 (JW.weak q_36 (Sub.cons LM0 (by decide) (by decide) (by decide) (Or.inr ⟨by decide, by decide⟩) (Sub.cons (LMs LM0) (by decide) (by decide) (by decide) (Or.inr ⟨by decide, by decide⟩) (Sub.cons (LMs (LMs LM0)) (by omega) (by omega) (by decide) (Or.inl rfl) (Sub.cons (LMs (LMs (LMs LM0))) (by omega) (by omega) (by decide) (Or.inl rfl) (Sub.cons (LMs (LMs (LMs (LMs LM0)))) (by omega) (by omega) (by decide) (Or.inr ⟨by decide, by decide⟩) Sub.nil))))))
      rcases h_37 with ⟨f_44, hx_45, hk_46, e_47⟩ | ⟨a_48, hx_49, hk_50, hb_51, hz_52, e_53⟩
      · skip
        refine aw_eqi (y := 0) e_47 ?_
        refine aw_if_eq (tgt := 60) dX5_readTest_41 (by decide) (fun c_54 => ?_) (fun c_54 => ?_)
        rotate_left
        · exact absurd (by decide) c_54
        refine aw_iconst (v := 0) dX5_readTest_60 (by decide) ?_
        refine aw_zreti dX5_readTest_61 rfl (by first | exact Or.inl rfl | exact Or.inr rfl | assumption) (Nat.le_of_ble_eq_true rfl) (Nat.le_of_ble_eq_true rfl) ?_
        exact ⟨⟨(by first | exact Or.inl rfl | exact Or.inr rfl | assumption), Or.inl ⟨_, T_par c_8 c_9 (by omega) hx_45, hk_46, rfl⟩⟩, rfl, j_39⟩
      · skip
        refine aw_eqi (y := 1) e_53 ?_
        obtain ⟨hb_51a, hb_51b⟩ := hb_51
        refine aw_if_eq (tgt := 60) dX5_readTest_41 (by decide) (fun c_55 => ?_) (fun c_55 => ?_)
        · exact absurd c_55 (by decide)
        refine aw_aload_n dX5_readTest_44 rfl ?_
        refine aw_get dX5_readTest_45 fl_X5_15 ((j_39.2.1 _ hp.1 hp.2).trans hR) (by omega) rfl ?_
        refine aw_bipush (v := 41) dX5_readTest_48 (by decide) ?_
        obtain ⟨ts_61, tn_61, tf_61, ta_61, e_61, hta_61⟩ := JW.get j_39 ct_1
        refine aw_callVi (J' := jX10_expect) (As := [.int 41]) (st := []) dX5_readTest_50 tb_412 ok_X10_expect ⟨_, e_61⟩ (by omega) rfl rfl (g_X10_expectS l D b N V_40 hN j_39.1 41 g ((JW.same q_36 (by decide) (fun k => (nfc (by omega) (nfc (by omega) (nfc (by omega) (nfc (by omega) (nfc (by omega) nf0))))))).trans ((JW.same q_27 (by decide) (fun k => (nfc (by omega) nf0))).trans hg)) n a_48 ⟨by omega, by omega⟩ ((JW.fI q_36 (by omega) (nfc (by omega) (nfc (by omega) (nfc (by omega) (nfc (by omega) (nfc (by omega) nf0)))))).trans ((JW.fI q_27 (by omega) (nfc (by omega) nf0)).trans hE)) hk_50) rfl (Nat.le_of_ble_eq_true rfl) ⟨Nat.le_of_ble_eq_true rfl, Nat.le_of_ble_eq_true rfl, Nat.le_of_ble_eq_true rfl, Nat.le_of_ble_eq_true rfl⟩ (fun r_62 N_63 V_60 q_64 => ?_)
        obtain ⟨⟨z_58, h_57⟩, rfl, q_56⟩ := q_64
        have j_59 := JW.trans j_39 (JW.weak q_56 (Sub.cons LM0 (by decide) (by decide) (by decide) (Or.inr ⟨by decide, by decide⟩) (Sub.cons (LMs LM0) (by decide) (by decide) (by decide) (Or.inr ⟨by decide, by decide⟩) Sub.nil)))
        rcases h_57 with ⟨hy_65, hk_66, e_67⟩ | ⟨hn_68, hk_69, e_70⟩
        · skip
          refine aw_eqi (y := 1) e_67 ?_
          have hlhy_65 := hd_lit hy_65 (by decide)
          refine aw_if_eq (tgt := 60) dX5_readTest_53 (by decide) (fun c_71 => ?_) (fun c_71 => ?_)
          · exact absurd c_71 (by decide)
          refine aw_iconst (v := 1) dX5_readTest_56 (by decide) ?_
          refine aw_goto (tgt := 61) dX5_readTest_57 (by decide) ?_
          refine aw_zreti dX5_readTest_61 rfl (by first | exact Or.inl rfl | exact Or.inr rfl | assumption) (Nat.le_of_ble_eq_true rfl) (Nat.le_of_ble_eq_true rfl) ?_
          exact ⟨⟨(by first | exact Or.inl rfl | exact Or.inr rfl | assumption), Or.inr ⟨_, fun o q => T_par c_8 c_9 (by omega) (hx_49 o (A_shut (n38 hz_52.1 hz_52.2) hy_65 q)), hk_66, ⟨by omega, by omega⟩, rfl⟩⟩, rfl, j_59⟩
        · skip
          refine aw_eqi (y := 0) e_70 ?_
          refine aw_if_eq (tgt := 60) dX5_readTest_53 (by decide) (fun c_72 => ?_) (fun c_72 => ?_)
          rotate_left
          · exact absurd (by decide) c_72
          refine aw_iconst (v := 0) dX5_readTest_60 (by decide) ?_
          refine aw_zreti dX5_readTest_61 rfl (by first | exact Or.inl rfl | exact Or.inr rfl | assumption) (Nat.le_of_ble_eq_true rfl) (Nat.le_of_ble_eq_true rfl) ?_
          exact ⟨⟨(by first | exact Or.inl rfl | exact Or.inr rfl | assumption), Or.inl ⟨_, T_par c_8 c_9 (by omega) (hx_49 _ (A_no (n38 hz_52.1 hz_52.2) hn_68)), hk_69, rfl⟩⟩, rfl, j_59⟩
  · skip
    have hlc_8 := hd_lit c_8 (by decide)
    refine aw_aload_n dX5_readTest_14 rfl ?_
    refine aw_iload_n dX5_readTest_15 rfl ?_
    refine aw_callVi (J' := jX5_readNegation) (As := [.int 1]) (st := []) dX5_readTest_16 tb_513 ok_X5_readNegation ⟨_, ((hJ0.2.1 _ hp.1 hp.2).trans hR)⟩ (by omega) rfl rfl (g_X5_readNegation_1S l D b N V hN hJ0.1 p x ⟨by omega, by omega⟩ hx ((hJ0.2.1 _ hp.1 hp.2).trans hR) g hg n a ⟨by omega, by omega⟩ hE hA hB k0 t hs c_8) rfl (Nat.le_of_ble_eq_true rfl) ⟨Nat.le_of_ble_eq_true rfl, Nat.le_of_ble_eq_true rfl, Nat.le_of_ble_eq_true rfl, Nat.le_of_ble_eq_true rfl⟩ (fun r_78 N_79 V_77 q_80 => ?_)
    obtain ⟨⟨z_75, h_74⟩, rfl, q_73⟩ := q_80
    have j_76 := JW.trans hJ0 (JW.weak q_73 (Sub.cons LM0 (by decide) (by decide) (by decide) (Or.inr ⟨by decide, by decide⟩) (Sub.cons (LMs LM0) (by decide) (by decide) (by decide) (Or.inr ⟨by decide, by decide⟩) (Sub.cons (LMs (LMs LM0)) (by omega) (by omega) (by decide) (Or.inl rfl) (Sub.cons (LMs (LMs (LMs LM0))) (by omega) (by omega) (by decide) (Or.inl rfl) (Sub.cons (LMs (LMs (LMs (LMs LM0)))) (by omega) (by omega) (by decide) (Or.inr ⟨by decide, by decide⟩) Sub.nil))))))
    rcases h_74 with ⟨f_81, hx_82, hk_83, e_84⟩ | ⟨a_85, hx_86, hk_87, hb_88, e_89⟩
    · skip
      refine aw_eqi (y := 0) e_84 ?_
      refine aw_zreti dX5_readTest_19 rfl (by first | exact Or.inl rfl | exact Or.inr rfl | assumption) (Nat.le_of_ble_eq_true rfl) (Nat.le_of_ble_eq_true rfl) ?_
      exact ⟨⟨(by first | exact Or.inl rfl | exact Or.inr rfl | assumption), Or.inl ⟨_, hx_82, hk_83, rfl⟩⟩, rfl, j_76⟩
    · skip
      refine aw_eqi (y := 1) e_89 ?_
      obtain ⟨hb_88a, hb_88b⟩ := hb_88
      refine aw_zreti dX5_readTest_19 rfl (by first | exact Or.inl rfl | exact Or.inr rfl | assumption) (Nat.le_of_ble_eq_true rfl) (Nat.le_of_ble_eq_true rfl) ?_
      exact ⟨⟨(by first | exact Or.inl rfl | exact Or.inr rfl | assumption), Or.inr ⟨_, hx_86, hk_87, ⟨by omega, by omega⟩, rfl⟩⟩, rfl, j_76⟩

set_option maxHeartbeats 20000000 in
set_option maxRecDepth 100000 in
theorem g_X5_readAllOf_1S (l : Launch) (D : va_G) (b : Nat) (N : Nat) (V : Wd) (hN : 100 ≤ N) (hW : CW D b V) (p x : Nat) (hp : 100 ≤ p ∧ p < N) (hx : x = 57 ∨ x = 65) (hR : V p = cO 5 [.ref (b + 1), .ref (b + x)]) (g : Nat → Int32) (hg : V 2 = cI D 260 g) (n a : Nat) (hna : a ≤ n ∧ n ≤ 240) (hE : fI (V 1) 2 = nI n) (hA : fI (V 1) 3 = nI a) (hB : BY g) (t : List Nat) (hs : dpt (5 :: t) = 1) : MI l D b 25 jX5_readAllOf [.ref (b + p), .int 1] N V 0 0 (fun r N9 V9 => ((r = 0 ∨ r = 1) ∧ ((∃ f, RES g n (2, a, (5 :: t)) (.inl f) ∧ fI (V9 1) 4 = f ∧ r = 0) ∨ (∃ a9, (∀ o, RES g n (3, a9, (5 :: t)) o → RES g n (2, a, (5 :: t)) o) ∧ fI (V9 1) 3 = nI a9 ∧ (a < a9 ∧ a9 ≤ n) ∧ ¬ hd g n a9 = 38 ∧ r = 1))) ∧ N = N9 ∧ JW D b N [(1, 1, 3, 3), (1, 1, 4, 4), (x + 1, x + 1, 0, 1000000), (x + 2, x + 2, 0, 1000000), (x, x, 2, 2)] V V9) := by
  have hJ0 : JW D b N [(1, 1, 3, 3), (1, 1, 4, 4), (x + 1, x + 1, 0, 1000000), (x + 2, x + 2, 0, 1000000), (x, x, 2, 2)] V V := JW.rf hW
  refine mw_of (by decide) (by simp [Value.category]) (Nat.le_of_ble_eq_true rfl) ?_
  show AW l D b jX5_readAllOf (fx_rm 25 0 0) none (fx_MQ D b 0 0 (fx_qi (fun r N9 V9 => ((r = 0 ∨ r = 1) ∧ ((∃ f, RES g n (2, a, (5 :: t)) (.inl f) ∧ fI (V9 1) 4 = f ∧ r = 0) ∨ (∃ a9, (∀ o, RES g n (3, a9, (5 :: t)) o → RES g n (2, a, (5 :: t)) o) ∧ fI (V9 1) 3 = nI a9 ∧ (a < a9 ∧ a9 ≤ n) ∧ ¬ hd g n a9 = 38 ∧ r = 1))) ∧ N = N9 ∧ JW D b N [(1, 1, 3, 3), (1, 1, 4, 4), (x + 1, x + 1, 0, 1000000), (x + 2, x + 2, 0, 1000000), (x, x, 2, 2)] V V9))) 0 [some (.ref (b + p)), some (.int 1), none] [] N V 0 0
  refine aw_aload_n dX5_readAllOf_0 rfl ?_
  refine aw_iload_n dX5_readAllOf_1 rfl ?_
  refine aw_callVi (J' := jX5_readTest) (As := [.int 1]) (st := []) dX5_readAllOf_2 tb_509 ok_X5_readTest ⟨_, ((hJ0.2.1 _ hp.1 hp.2).trans hR)⟩ (by omega) rfl rfl (g_X5_readTest_1S l D b N V hN hJ0.1 p x ⟨by omega, by omega⟩ hx ((hJ0.2.1 _ hp.1 hp.2).trans hR) g hg n a ⟨by omega, by omega⟩ hE hA hB 5 t hs) rfl (Nat.le_of_ble_eq_true rfl) ⟨Nat.le_of_ble_eq_true rfl, Nat.le_of_ble_eq_true rfl, Nat.le_of_ble_eq_true rfl, Nat.le_of_ble_eq_true rfl⟩ (fun r_6 N_7 V_5 q_8 => ?_)
  obtain ⟨⟨z_3, h_2⟩, rfl, q_1⟩ := q_8
  have j_4 := JW.trans hJ0 (JW.weak q_1 (Sub.cons LM0 (by decide) (by decide) (by decide) (Or.inr ⟨by decide, by decide⟩) (Sub.cons (LMs LM0) (by decide) (by decide) (by decide) (Or.inr ⟨by decide, by decide⟩) (Sub.cons (LMs (LMs LM0)) (by omega) (by omega) (by decide) (Or.inl rfl) (Sub.cons (LMs (LMs (LMs LM0))) (by omega) (by omega) (by decide) (Or.inl rfl) (Sub.cons (LMs (LMs (LMs (LMs LM0)))) (by omega) (by omega) (by decide) (Or.inr ⟨by decide, by decide⟩) Sub.nil))))))
  rcases h_2 with ⟨f_9, hx_10, hk_11, e_12⟩ | ⟨a_13, hx_14, hk_15, hb_16, e_17⟩
  · skip
    refine aw_eqi (y := 0) e_12 ?_
    refine aw_if_ne (tgt := 10) dX5_readAllOf_5 (by decide) (fun c_18 => ?_) (fun c_18 => ?_)
    · exact absurd rfl c_18
    refine aw_iconst (v := 0) dX5_readAllOf_8 (by decide) ?_
    refine aw_zreti dX5_readAllOf_9 rfl (by first | exact Or.inl rfl | exact Or.inr rfl | assumption) (Nat.le_of_ble_eq_true rfl) (Nat.le_of_ble_eq_true rfl) ?_
    exact ⟨⟨(by first | exact Or.inl rfl | exact Or.inr rfl | assumption), Or.inl ⟨_, hx_10, hk_11, rfl⟩⟩, rfl, j_4⟩
  · skip
    refine aw_eqi (y := 1) e_17 ?_
    obtain ⟨hb_16a, hb_16b⟩ := hb_16
    refine aw_if_ne (tgt := 10) dX5_readAllOf_5 (by decide) (fun c_19 => ?_) (fun c_19 => ?_)
    rotate_left
    · exact absurd c_19 (by decide)
    have ml_10_20 : ∀ (m : Nat) (a10 : Nat) (V10 : Wd), m = n - a10 → (JW D b N [(1, 1, 3, 3), (1, 1, 4, 4), (x + 1, x + 1, 0, 1000000), (x + 2, x + 2, 0, 1000000), (x, x, 2, 2)] V V10) → (fI (V10 1) 2 = nI n) → (fI (V10 1) 3 = nI a10) → (V10 2 = cI D 260 g) → (∀ o, RES g n (3, a10, (5 :: t)) o → RES g n (2, a, (5 :: t)) o) → (a < a10 ∧ a10 ≤ n) → AW l D b jX5_readAllOf (fx_rm 25 0 0) none (fx_MQ D b 0 0 (fx_qi (fun r N9 V9 => ((r = 0 ∨ r = 1) ∧ ((∃ f, RES g n (2, a, (5 :: t)) (.inl f) ∧ fI (V9 1) 4 = f ∧ r = 0) ∨ (∃ a9, (∀ o, RES g n (3, a9, (5 :: t)) o → RES g n (2, a, (5 :: t)) o) ∧ fI (V9 1) 3 = nI a9 ∧ (a < a9 ∧ a9 ≤ n) ∧ ¬ hd g n a9 = 38 ∧ r = 1))) ∧ N = N9 ∧ JW D b N [(1, 1, 3, 3), (1, 1, 4, 4), (x + 1, x + 1, 0, 1000000), (x + 2, x + 2, 0, 1000000), (x, x, 2, 2)] V V9))) 10 [some (.ref (b + p)), some (.int 1), none] [] N V10 0 0 := by
      intro m; refine Nat.strongRecOn m ?_
      intro m mih_10_20 a10 V10 hm10 i10_0 i10_1 i10_2 i10_3 i10_4 i10_5
      refine aw_aload_n dX5_readAllOf_10 rfl ?_
      refine aw_get dX5_readAllOf_11 fl_X5_15 ((i10_0.2.1 _ hp.1 hp.2).trans hR) (by omega) rfl ?_
      obtain ⟨ts_21, tn_21, tf_21, ta_21, e_21, hta_21⟩ := JW.get i10_0 ct_1
      refine aw_get dX5_readAllOf_14 fl_X5_25 e_21 (by omega) rfl ?_
      refine aw_eqi (y := (nI a10)) ((Eq.symm (congrArg (fun z => fI z 3) e_21)).trans i10_2) ?_
      refine aw_aload_n dX5_readAllOf_17 rfl ?_
      refine aw_get dX5_readAllOf_18 fl_X5_15 ((i10_0.2.1 _ hp.1 hp.2).trans hR) (by omega) rfl ?_
      refine aw_get dX5_readAllOf_21 fl_X5_59 e_21 (by omega) rfl ?_
      refine aw_eqi (y := (nI n)) ((Eq.symm (congrArg (fun z => fI z 2) e_21)).trans i10_1) ?_
      refine aw_icmp_ge (tgt := 84) dX5_readAllOf_24 (by decide) (fun c_22 => ?_) (fun c_22 => ?_)
      · skip
        have nc_22 : n ≤ a10 := (nI_leI (a := n) (b := a10) (by omega) (by omega)).mp c_22
        refine aw_iconst (v := 1) dX5_readAllOf_84 (by decide) ?_
        refine aw_zreti dX5_readAllOf_85 rfl (by first | exact Or.inl rfl | exact Or.inr rfl | assumption) (Nat.le_of_ble_eq_true rfl) (Nat.le_of_ble_eq_true rfl) ?_
        exact ⟨⟨(by first | exact Or.inl rfl | exact Or.inr rfl | assumption), Or.inr ⟨_, i10_4, i10_2, ⟨by omega, by omega⟩, (hd_ne (by omega) (by decide)), rfl⟩⟩, rfl, i10_0⟩
      · skip
        have nc_22 : ¬ (n ≤ a10) := fun z => c_22 ((nI_leI (a := n) (b := a10) (by omega) (by omega)).mpr z)
        refine aw_aload_n dX5_readAllOf_27 rfl ?_
        refine aw_get dX5_readAllOf_28 fl_X5_15 ((i10_0.2.1 _ hp.1 hp.2).trans hR) (by omega) rfl ?_
        refine aw_callVi (J' := jX10_now) (As := []) (st := []) dX5_readAllOf_31 tb_390 ok_X10_now ⟨_, e_21⟩ (by omega) rfl rfl (g_X10_nowS l D b N V10 hN i10_0.1 g i10_3 n a10 ⟨by omega, by omega⟩ i10_1 i10_2) rfl (Nat.le_of_ble_eq_true rfl) ⟨Nat.le_of_ble_eq_true rfl, Nat.le_of_ble_eq_true rfl, Nat.le_of_ble_eq_true rfl, Nat.le_of_ble_eq_true rfl⟩ (fun r_25 N_26 V_27 q_28 => ?_)
        obtain ⟨h_24, rfl, rfl⟩ := q_28
        refine aw_eqi (y := (hd g n a10)) h_24 ?_
        refine aw_bipush (v := 38) dX5_readAllOf_34 (by decide) ?_
        refine aw_icmp_ne (tgt := 84) dX5_readAllOf_36 (by decide) (fun c_29 => ?_) (fun c_29 => ?_)
        · skip
          refine aw_iconst (v := 1) dX5_readAllOf_84 (by decide) ?_
          refine aw_zreti dX5_readAllOf_85 rfl (by first | exact Or.inl rfl | exact Or.inr rfl | assumption) (Nat.le_of_ble_eq_true rfl) (Nat.le_of_ble_eq_true rfl) ?_
          exact ⟨⟨(by first | exact Or.inl rfl | exact Or.inr rfl | assumption), Or.inr ⟨_, i10_4, i10_2, ⟨by omega, by omega⟩, c_29, rfl⟩⟩, rfl, i10_0⟩
        · skip
          have hlc_29 := hd_lit c_29 (by decide)
          refine aw_aload_n dX5_readAllOf_39 rfl ?_
          refine aw_get dX5_readAllOf_40 fl_X5_15 ((i10_0.2.1 _ hp.1 hp.2).trans hR) (by omega) rfl ?_
          refine aw_dup dX5_readAllOf_43 rfl ?_
          refine aw_get dX5_readAllOf_44 fl_X5_25 e_21 (by omega) rfl ?_
          refine aw_eqi (y := (nI a10)) ((Eq.symm (congrArg (fun z => fI z 3) e_21)).trans i10_2) ?_
          refine aw_iconst (v := 1) dX5_readAllOf_47 (by decide) ?_
          refine aw_iadd dX5_readAllOf_48 ?_
          refine aw_eqi (y := nI (a10 + 1)) (nI_add _ _) ?_
          refine aw_put dX5_readAllOf_49 fp_X5_25 e_21 (by omega) rfl rfl (Nat.le_of_ble_eq_true rfl) rfl ?_
          refine aw_up i10_0 ct_1 ⟨_, _, _, (a10 + 1), rfl, (by first | omega | (split <;> omega))⟩ (WO (s := 3) (x := .int (nI (a10 + 1))) e_21 rfl LM0 (by decide) (by decide) (by decide) (Or.inl (by decide))) (fun V_30 j_30 k_30 e_30 => ?_)
          refine aw_aload_n dX5_readAllOf_52 rfl ?_
          refine aw_get dX5_readAllOf_53 fl_X5_9 ((j_30.2.1 _ hp.1 hp.2).trans hR) (by omega) rfl ?_
          refine aw_bipush (v := 38) dX5_readAllOf_56 (by decide) ?_
          refine aw_iconst (v := 0) dX5_readAllOf_58 (by decide) ?_
          obtain ⟨s8_34, r8_34, h8_34, e_34, hs_34, hr_34⟩ := JW.get j_30 (ctl_0 hx)
          refine aw_callVi (J' := jX4_add) (As := [.int 38, .int 0]) (st := []) dX5_readAllOf_59 tb_415 ok_X4_add ⟨_, e_34⟩ (by omega) rfl rfl (g_X4_add l D b N V_30 hN j_30.1 x hx 38 0 (by decide)) rfl (Nat.le_of_ble_eq_true rfl) ⟨Nat.le_of_ble_eq_true rfl, Nat.le_of_ble_eq_true rfl, Nat.le_of_ble_eq_true rfl, Nat.le_of_ble_eq_true rfl⟩ (fun r_35 N_36 V_33 q_37 => ?_)
          obtain ⟨rfl, q_31⟩ := q_37
          have j_32 := JW.trans j_30 (JW.weak q_31 (Sub.cons (LMs (LMs LM0)) (by omega) (by omega) (by decide) (Or.inl rfl) (Sub.cons (LMs (LMs (LMs LM0))) (by omega) (by omega) (by decide) (Or.inl rfl) (Sub.cons (LMs (LMs (LMs (LMs LM0)))) (by omega) (by omega) (by decide) (Or.inr ⟨by decide, by decide⟩) Sub.nil))))
          refine aw_istore_n (ls' := [some (.ref (b + p)), some (.int 1), some (.int r_35)]) dX5_readAllOf_62 (Nat.le_of_ble_eq_true rfl) rfl ?_
          refine aw_aload_n dX5_readAllOf_63 rfl ?_
          refine aw_iload_n dX5_readAllOf_64 rfl ?_
          refine aw_callVi (J' := jX5_readTest) (As := [.int 1]) (st := []) dX5_readAllOf_65 tb_509 ok_X5_readTest ⟨_, ((j_32.2.1 _ hp.1 hp.2).trans hR)⟩ (by omega) rfl rfl (g_X5_readTest_1S l D b N V_33 hN j_32.1 p x ⟨by omega, by omega⟩ hx ((j_32.2.1 _ hp.1 hp.2).trans hR) g ((JW.same q_31 (by decide) (fun k => (nfc (by omega) (nfc (by omega) (nfc (by omega) nf0))))).trans ((k_30 _ (by decide)).trans i10_3)) n (a10 + 1) ⟨by omega, by omega⟩ ((JW.fI q_31 (by omega) (nfc (by omega) (nfc (by omega) (nfc (by omega) nf0)))).trans (KA (s := 3) (x := .int (nI (a10 + 1))) e_21 rfl (by decide) e_30 k_30 i10_1)) ((JW.fI q_31 (by omega) (nfc (by omega) (nfc (by omega) (nfc (by omega) nf0)))).trans ((congrArg (fun z => fI z 3) e_30).trans rfl)) hB 5 t hs) rfl (Nat.le_of_ble_eq_true rfl) ⟨Nat.le_of_ble_eq_true rfl, Nat.le_of_ble_eq_true rfl, Nat.le_of_ble_eq_true rfl, Nat.le_of_ble_eq_true rfl⟩ (fun r_43 N_44 V_42 q_45 => ?_)
          obtain ⟨⟨z_40, h_39⟩, rfl, q_38⟩ := q_45
          have j_41 := JW.trans j_32 (JW.weak q_38 (Sub.cons LM0 (by decide) (by decide) (by decide) (Or.inr ⟨by decide, by decide⟩) (Sub.cons (LMs LM0) (by decide) (by decide) (by decide) (Or.inr ⟨by decide, by decide⟩) (Sub.cons (LMs (LMs LM0)) (by omega) (by omega) (by decide) (Or.inl rfl) (Sub.cons (LMs (LMs (LMs LM0))) (by omega) (by omega) (by decide) (Or.inl rfl) (Sub.cons (LMs (LMs (LMs (LMs LM0)))) (by omega) (by omega) (by decide) (Or.inr ⟨by decide, by decide⟩) Sub.nil))))))
          rcases h_39 with ⟨f_46, hx_47, hk_48, e_49⟩ | ⟨a_50, hx_51, hk_52, hb_53, e_54⟩
          · skip
            refine aw_eqi (y := 0) e_49 ?_
            refine aw_if_ne (tgt := 73) dX5_readAllOf_68 (by decide) (fun c_55 => ?_) (fun c_55 => ?_)
            · exact absurd rfl c_55
            refine aw_iconst (v := 0) dX5_readAllOf_71 (by decide) ?_
            refine aw_zreti dX5_readAllOf_72 rfl (by first | exact Or.inl rfl | exact Or.inr rfl | assumption) (Nat.le_of_ble_eq_true rfl) (Nat.le_of_ble_eq_true rfl) ?_
            exact ⟨⟨(by first | exact Or.inl rfl | exact Or.inr rfl | assumption), Or.inl ⟨_, i10_4 _ (A_and (Or.inl c_29) hx_47), hk_48, rfl⟩⟩, rfl, j_41⟩
          · skip
            refine aw_eqi (y := 1) e_54 ?_
            obtain ⟨hb_53a, hb_53b⟩ := hb_53
            refine aw_if_ne (tgt := 73) dX5_readAllOf_68 (by decide) (fun c_56 => ?_) (fun c_56 => ?_)
            rotate_left
            · exact absurd c_56 (by decide)
            refine aw_aload_n dX5_readAllOf_73 rfl ?_
            refine aw_get dX5_readAllOf_74 fl_X5_9 ((j_41.2.1 _ hp.1 hp.2).trans hR) (by omega) rfl ?_
            refine aw_iload_n dX5_readAllOf_77 rfl ?_
            obtain ⟨s8_60, r8_60, h8_60, e_60, hs_60, hr_60⟩ := JW.get j_41 (ctl_0 hx)
            refine aw_callVv (J' := jX4_leadHere) (As := [.int r_35]) (st := []) dX5_readAllOf_78 tb_521 ok_X4_leadHere ⟨_, e_60⟩ (by omega) rfl rfl (g_X4_leadHere l D b N V_42 hN j_41.1 x hx r_35) rfl (Nat.le_of_ble_eq_true rfl) ⟨Nat.le_of_ble_eq_true rfl, Nat.le_of_ble_eq_true rfl, Nat.le_of_ble_eq_true rfl, Nat.le_of_ble_eq_true rfl⟩ (fun  N_61 V_59 q_62 => ?_)
            obtain ⟨rfl, q_57⟩ := q_62
            have j_58 := JW.trans j_41 (JW.weak q_57 (Sub.cons (LMs (LMs (LMs LM0))) (by omega) (by omega) (by decide) (Or.inl rfl) Sub.nil))
            refine aw_goto (tgt := 10) dX5_readAllOf_81 (by decide) ?_
            refine aw_le ?_ (mih_10_20 _ (by omega) a_50 V_59 rfl (j_58) (((JW.fI q_57 (by omega) (nfc (by omega) nf0)).trans ((JW.fI q_38 (by omega) (nfc (by omega) (nfc (by omega) (nfc (by omega) (nfc (by omega) (nfc (by omega) nf0)))))).trans ((JW.fI q_31 (by omega) (nfc (by omega) (nfc (by omega) (nfc (by omega) nf0)))).trans (KA (s := 3) (x := .int (nI (a10 + 1))) e_21 rfl (by decide) e_30 k_30 i10_1))))) (((JW.fI q_57 (by omega) (nfc (by omega) nf0)).trans hk_52)) (((JW.same q_57 (by decide) (fun k => (nfc (by omega) nf0))).trans ((JW.same q_38 (by decide) (fun k => (nfc (by omega) (nfc (by omega) (nfc (by omega) (nfc (by omega) (nfc (by omega) nf0))))))).trans ((JW.same q_31 (by decide) (fun k => (nfc (by omega) (nfc (by omega) (nfc (by omega) nf0))))).trans ((k_30 _ (by decide)).trans i10_3))))) (fun o q => i10_4 o (A_and (Or.inl c_29) (hx_51 o q))) (⟨by omega, by omega⟩))
            exact ⟨rfl, ⟨rfl, trivial⟩⟩
    refine aw_le ?_ (ml_10_20 _ a_13 V_5 rfl (j_4) (((JW.fI q_1 (by omega) (nfc (by omega) (nfc (by omega) (nfc (by omega) (nfc (by omega) (nfc (by omega) nf0)))))).trans hE)) (hk_15) (((JW.same q_1 (by decide) (fun k => (nfc (by omega) (nfc (by omega) (nfc (by omega) (nfc (by omega) (nfc (by omega) nf0))))))).trans hg)) (hx_14) (⟨by omega, by omega⟩))
    exact ⟨rfl, ⟨rfl, trivial⟩⟩

set_option maxHeartbeats 20000000 in
set_option maxRecDepth 100000 in
theorem g_X5_readAnyOf_1S (l : Launch) (D : va_G) (b : Nat) (N : Nat) (V : Wd) (hN : 100 ≤ N) (hW : CW D b V) (p x : Nat) (hp : 100 ≤ p ∧ p < N) (hx : x = 57 ∨ x = 65) (hR : V p = cO 5 [.ref (b + 1), .ref (b + x)]) (g : Nat → Int32) (hg : V 2 = cI D 260 g) (n a : Nat) (hna : a ≤ n ∧ n ≤ 240) (hE : fI (V 1) 2 = nI n) (hA : fI (V 1) 3 = nI a) (hB : BY g) (t : List Nat) (hs : dpt (5 :: t) = 1) : MI l D b 26 jX5_readAnyOf [.ref (b + p), .int 1] N V 0 0 (fun r N9 V9 => ((r = 0 ∨ r = 1) ∧ ((∃ f, RES g n (2, a, (5 :: t)) (.inl f) ∧ fI (V9 1) 4 = f ∧ r = 0) ∨ (∃ a9, (∀ o, RES g n (3, a9, (5 :: t)) o → RES g n (2, a, (5 :: t)) o) ∧ fI (V9 1) 3 = nI a9 ∧ (a < a9 ∧ a9 ≤ n) ∧ (¬ hd g n a9 = 38 ∧ ¬ hd g n a9 = 124) ∧ r = 1))) ∧ N = N9 ∧ JW D b N [(1, 1, 3, 3), (1, 1, 4, 4), (x + 1, x + 1, 0, 1000000), (x + 2, x + 2, 0, 1000000), (x, x, 2, 2)] V V9) := by
  have hJ0 : JW D b N [(1, 1, 3, 3), (1, 1, 4, 4), (x + 1, x + 1, 0, 1000000), (x + 2, x + 2, 0, 1000000), (x, x, 2, 2)] V V := JW.rf hW
  refine mw_of (by decide) (by simp [Value.category]) (Nat.le_of_ble_eq_true rfl) ?_
  show AW l D b jX5_readAnyOf (fx_rm 26 0 0) none (fx_MQ D b 0 0 (fx_qi (fun r N9 V9 => ((r = 0 ∨ r = 1) ∧ ((∃ f, RES g n (2, a, (5 :: t)) (.inl f) ∧ fI (V9 1) 4 = f ∧ r = 0) ∨ (∃ a9, (∀ o, RES g n (3, a9, (5 :: t)) o → RES g n (2, a, (5 :: t)) o) ∧ fI (V9 1) 3 = nI a9 ∧ (a < a9 ∧ a9 ≤ n) ∧ (¬ hd g n a9 = 38 ∧ ¬ hd g n a9 = 124) ∧ r = 1))) ∧ N = N9 ∧ JW D b N [(1, 1, 3, 3), (1, 1, 4, 4), (x + 1, x + 1, 0, 1000000), (x + 2, x + 2, 0, 1000000), (x, x, 2, 2)] V V9))) 0 [some (.ref (b + p)), some (.int 1), none] [] N V 0 0
  refine aw_aload_n dX5_readAnyOf_0 rfl ?_
  refine aw_iload_n dX5_readAnyOf_1 rfl ?_
  refine aw_callVi (J' := jX5_readAllOf) (As := [.int 1]) (st := []) dX5_readAnyOf_2 tb_505 ok_X5_readAllOf ⟨_, ((hJ0.2.1 _ hp.1 hp.2).trans hR)⟩ (by omega) rfl rfl (g_X5_readAllOf_1S l D b N V hN hJ0.1 p x ⟨by omega, by omega⟩ hx ((hJ0.2.1 _ hp.1 hp.2).trans hR) g hg n a ⟨by omega, by omega⟩ hE hA hB t hs) rfl (Nat.le_of_ble_eq_true rfl) ⟨Nat.le_of_ble_eq_true rfl, Nat.le_of_ble_eq_true rfl, Nat.le_of_ble_eq_true rfl, Nat.le_of_ble_eq_true rfl⟩ (fun r_6 N_7 V_5 q_8 => ?_)
  obtain ⟨⟨z_3, h_2⟩, rfl, q_1⟩ := q_8
  have j_4 := JW.trans hJ0 (JW.weak q_1 (Sub.cons LM0 (by decide) (by decide) (by decide) (Or.inr ⟨by decide, by decide⟩) (Sub.cons (LMs LM0) (by decide) (by decide) (by decide) (Or.inr ⟨by decide, by decide⟩) (Sub.cons (LMs (LMs LM0)) (by omega) (by omega) (by decide) (Or.inl rfl) (Sub.cons (LMs (LMs (LMs LM0))) (by omega) (by omega) (by decide) (Or.inl rfl) (Sub.cons (LMs (LMs (LMs (LMs LM0)))) (by omega) (by omega) (by decide) (Or.inr ⟨by decide, by decide⟩) Sub.nil))))))
  rcases h_2 with ⟨f_9, hx_10, hk_11, e_12⟩ | ⟨a_13, hx_14, hk_15, hb_16, hz_17, e_18⟩
  · skip
    refine aw_eqi (y := 0) e_12 ?_
    refine aw_if_ne (tgt := 10) dX5_readAnyOf_5 (by decide) (fun c_19 => ?_) (fun c_19 => ?_)
    · exact absurd rfl c_19
    refine aw_iconst (v := 0) dX5_readAnyOf_8 (by decide) ?_
    refine aw_zreti dX5_readAnyOf_9 rfl (by first | exact Or.inl rfl | exact Or.inr rfl | assumption) (Nat.le_of_ble_eq_true rfl) (Nat.le_of_ble_eq_true rfl) ?_
    exact ⟨⟨(by first | exact Or.inl rfl | exact Or.inr rfl | assumption), Or.inl ⟨_, hx_10, hk_11, rfl⟩⟩, rfl, j_4⟩
  · skip
    refine aw_eqi (y := 1) e_18 ?_
    obtain ⟨hb_16a, hb_16b⟩ := hb_16
    refine aw_if_ne (tgt := 10) dX5_readAnyOf_5 (by decide) (fun c_20 => ?_) (fun c_20 => ?_)
    rotate_left
    · exact absurd c_20 (by decide)
    have ml_10_21 : ∀ (m : Nat) (a10 : Nat) (V10 : Wd), m = n - a10 → (JW D b N [(1, 1, 3, 3), (1, 1, 4, 4), (x + 1, x + 1, 0, 1000000), (x + 2, x + 2, 0, 1000000), (x, x, 2, 2)] V V10) → (fI (V10 1) 2 = nI n) → (fI (V10 1) 3 = nI a10) → (V10 2 = cI D 260 g) → (∀ o, RES g n (3, a10, (5 :: t)) o → RES g n (2, a, (5 :: t)) o) → (a < a10 ∧ a10 ≤ n) → (¬ hd g n a10 = 38) → AW l D b jX5_readAnyOf (fx_rm 26 0 0) none (fx_MQ D b 0 0 (fx_qi (fun r N9 V9 => ((r = 0 ∨ r = 1) ∧ ((∃ f, RES g n (2, a, (5 :: t)) (.inl f) ∧ fI (V9 1) 4 = f ∧ r = 0) ∨ (∃ a9, (∀ o, RES g n (3, a9, (5 :: t)) o → RES g n (2, a, (5 :: t)) o) ∧ fI (V9 1) 3 = nI a9 ∧ (a < a9 ∧ a9 ≤ n) ∧ (¬ hd g n a9 = 38 ∧ ¬ hd g n a9 = 124) ∧ r = 1))) ∧ N = N9 ∧ JW D b N [(1, 1, 3, 3), (1, 1, 4, 4), (x + 1, x + 1, 0, 1000000), (x + 2, x + 2, 0, 1000000), (x, x, 2, 2)] V V9))) 10 [some (.ref (b + p)), some (.int 1), none] [] N V10 0 0 := by
      intro m; refine Nat.strongRecOn m ?_
      intro m mih_10_21 a10 V10 hm10 i10_0 i10_1 i10_2 i10_3 i10_4 i10_5 i10_6
      refine aw_aload_n dX5_readAnyOf_10 rfl ?_
      refine aw_get dX5_readAnyOf_11 fl_X5_15 ((i10_0.2.1 _ hp.1 hp.2).trans hR) (by omega) rfl ?_
      obtain ⟨ts_22, tn_22, tf_22, ta_22, e_22, hta_22⟩ := JW.get i10_0 ct_1
      refine aw_get dX5_readAnyOf_14 fl_X5_25 e_22 (by omega) rfl ?_
      refine aw_eqi (y := (nI a10)) ((Eq.symm (congrArg (fun z => fI z 3) e_22)).trans i10_2) ?_
      refine aw_aload_n dX5_readAnyOf_17 rfl ?_
      refine aw_get dX5_readAnyOf_18 fl_X5_15 ((i10_0.2.1 _ hp.1 hp.2).trans hR) (by omega) rfl ?_
      refine aw_get dX5_readAnyOf_21 fl_X5_59 e_22 (by omega) rfl ?_
      refine aw_eqi (y := (nI n)) ((Eq.symm (congrArg (fun z => fI z 2) e_22)).trans i10_1) ?_
      refine aw_icmp_ge (tgt := 84) dX5_readAnyOf_24 (by decide) (fun c_23 => ?_) (fun c_23 => ?_)
      · skip
        have nc_23 : n ≤ a10 := (nI_leI (a := n) (b := a10) (by omega) (by omega)).mp c_23
        refine aw_iconst (v := 1) dX5_readAnyOf_84 (by decide) ?_
        refine aw_zreti dX5_readAnyOf_85 rfl (by first | exact Or.inl rfl | exact Or.inr rfl | assumption) (Nat.le_of_ble_eq_true rfl) (Nat.le_of_ble_eq_true rfl) ?_
        exact ⟨⟨(by first | exact Or.inl rfl | exact Or.inr rfl | assumption), Or.inr ⟨_, i10_4, i10_2, ⟨by omega, by omega⟩, ⟨i10_6, (hd_ne (by omega) (by decide))⟩, rfl⟩⟩, rfl, i10_0⟩
      · skip
        have nc_23 : ¬ (n ≤ a10) := fun z => c_23 ((nI_leI (a := n) (b := a10) (by omega) (by omega)).mpr z)
        refine aw_aload_n dX5_readAnyOf_27 rfl ?_
        refine aw_get dX5_readAnyOf_28 fl_X5_15 ((i10_0.2.1 _ hp.1 hp.2).trans hR) (by omega) rfl ?_
        refine aw_callVi (J' := jX10_now) (As := []) (st := []) dX5_readAnyOf_31 tb_390 ok_X10_now ⟨_, e_22⟩ (by omega) rfl rfl (g_X10_nowS l D b N V10 hN i10_0.1 g i10_3 n a10 ⟨by omega, by omega⟩ i10_1 i10_2) rfl (Nat.le_of_ble_eq_true rfl) ⟨Nat.le_of_ble_eq_true rfl, Nat.le_of_ble_eq_true rfl, Nat.le_of_ble_eq_true rfl, Nat.le_of_ble_eq_true rfl⟩ (fun r_26 N_27 V_28 q_29 => ?_)
        obtain ⟨h_25, rfl, rfl⟩ := q_29
        refine aw_eqi (y := (hd g n a10)) h_25 ?_
        refine aw_bipush (v := 124) dX5_readAnyOf_34 (by decide) ?_
        refine aw_icmp_ne (tgt := 84) dX5_readAnyOf_36 (by decide) (fun c_30 => ?_) (fun c_30 => ?_)
        · skip
          refine aw_iconst (v := 1) dX5_readAnyOf_84 (by decide) ?_
          refine aw_zreti dX5_readAnyOf_85 rfl (by first | exact Or.inl rfl | exact Or.inr rfl | assumption) (Nat.le_of_ble_eq_true rfl) (Nat.le_of_ble_eq_true rfl) ?_
          exact ⟨⟨(by first | exact Or.inl rfl | exact Or.inr rfl | assumption), Or.inr ⟨_, i10_4, i10_2, ⟨by omega, by omega⟩, ⟨i10_6, c_30⟩, rfl⟩⟩, rfl, i10_0⟩
        · skip
          have hlc_30 := hd_lit c_30 (by decide)
          refine aw_aload_n dX5_readAnyOf_39 rfl ?_
          refine aw_get dX5_readAnyOf_40 fl_X5_15 ((i10_0.2.1 _ hp.1 hp.2).trans hR) (by omega) rfl ?_
          refine aw_dup dX5_readAnyOf_43 rfl ?_
          refine aw_get dX5_readAnyOf_44 fl_X5_25 e_22 (by omega) rfl ?_
          refine aw_eqi (y := (nI a10)) ((Eq.symm (congrArg (fun z => fI z 3) e_22)).trans i10_2) ?_
          refine aw_iconst (v := 1) dX5_readAnyOf_47 (by decide) ?_
          refine aw_iadd dX5_readAnyOf_48 ?_
          refine aw_eqi (y := nI (a10 + 1)) (nI_add _ _) ?_
          refine aw_put dX5_readAnyOf_49 fp_X5_25 e_22 (by omega) rfl rfl (Nat.le_of_ble_eq_true rfl) rfl ?_
          refine aw_up i10_0 ct_1 ⟨_, _, _, (a10 + 1), rfl, (by first | omega | (split <;> omega))⟩ (WO (s := 3) (x := .int (nI (a10 + 1))) e_22 rfl LM0 (by decide) (by decide) (by decide) (Or.inl (by decide))) (fun V_31 j_31 k_31 e_31 => ?_)
          refine aw_aload_n dX5_readAnyOf_52 rfl ?_
          refine aw_get dX5_readAnyOf_53 fl_X5_9 ((j_31.2.1 _ hp.1 hp.2).trans hR) (by omega) rfl ?_
          refine aw_bipush (v := 124) dX5_readAnyOf_56 (by decide) ?_
          refine aw_iconst (v := 0) dX5_readAnyOf_58 (by decide) ?_
          obtain ⟨s8_35, r8_35, h8_35, e_35, hs_35, hr_35⟩ := JW.get j_31 (ctl_0 hx)
          refine aw_callVi (J' := jX4_add) (As := [.int 124, .int 0]) (st := []) dX5_readAnyOf_59 tb_415 ok_X4_add ⟨_, e_35⟩ (by omega) rfl rfl (g_X4_add l D b N V_31 hN j_31.1 x hx 124 0 (by decide)) rfl (Nat.le_of_ble_eq_true rfl) ⟨Nat.le_of_ble_eq_true rfl, Nat.le_of_ble_eq_true rfl, Nat.le_of_ble_eq_true rfl, Nat.le_of_ble_eq_true rfl⟩ (fun r_36 N_37 V_34 q_38 => ?_)
          obtain ⟨rfl, q_32⟩ := q_38
          have j_33 := JW.trans j_31 (JW.weak q_32 (Sub.cons (LMs (LMs LM0)) (by omega) (by omega) (by decide) (Or.inl rfl) (Sub.cons (LMs (LMs (LMs LM0))) (by omega) (by omega) (by decide) (Or.inl rfl) (Sub.cons (LMs (LMs (LMs (LMs LM0)))) (by omega) (by omega) (by decide) (Or.inr ⟨by decide, by decide⟩) Sub.nil))))
          refine aw_istore_n (ls' := [some (.ref (b + p)), some (.int 1), some (.int r_36)]) dX5_readAnyOf_62 (Nat.le_of_ble_eq_true rfl) rfl ?_
          refine aw_aload_n dX5_readAnyOf_63 rfl ?_
          refine aw_iload_n dX5_readAnyOf_64 rfl ?_
          refine aw_callVi (J' := jX5_readAllOf) (As := [.int 1]) (st := []) dX5_readAnyOf_65 tb_505 ok_X5_readAllOf ⟨_, ((j_33.2.1 _ hp.1 hp.2).trans hR)⟩ (by omega) rfl rfl (g_X5_readAllOf_1S l D b N V_34 hN j_33.1 p x ⟨by omega, by omega⟩ hx ((j_33.2.1 _ hp.1 hp.2).trans hR) g ((JW.same q_32 (by decide) (fun k => (nfc (by omega) (nfc (by omega) (nfc (by omega) nf0))))).trans ((k_31 _ (by decide)).trans i10_3)) n (a10 + 1) ⟨by omega, by omega⟩ ((JW.fI q_32 (by omega) (nfc (by omega) (nfc (by omega) (nfc (by omega) nf0)))).trans (KA (s := 3) (x := .int (nI (a10 + 1))) e_22 rfl (by decide) e_31 k_31 i10_1)) ((JW.fI q_32 (by omega) (nfc (by omega) (nfc (by omega) (nfc (by omega) nf0)))).trans ((congrArg (fun z => fI z 3) e_31).trans rfl)) hB t hs) rfl (Nat.le_of_ble_eq_true rfl) ⟨Nat.le_of_ble_eq_true rfl, Nat.le_of_ble_eq_true rfl, Nat.le_of_ble_eq_true rfl, Nat.le_of_ble_eq_true rfl⟩ (fun r_44 N_45 V_43 q_46 => ?_)
          obtain ⟨⟨z_41, h_40⟩, rfl, q_39⟩ := q_46
          have j_42 := JW.trans j_33 (JW.weak q_39 (Sub.cons LM0 (by decide) (by decide) (by decide) (Or.inr ⟨by decide, by decide⟩) (Sub.cons (LMs LM0) (by decide) (by decide) (by decide) (Or.inr ⟨by decide, by decide⟩) (Sub.cons (LMs (LMs LM0)) (by omega) (by omega) (by decide) (Or.inl rfl) (Sub.cons (LMs (LMs (LMs LM0))) (by omega) (by omega) (by decide) (Or.inl rfl) (Sub.cons (LMs (LMs (LMs (LMs LM0)))) (by omega) (by omega) (by decide) (Or.inr ⟨by decide, by decide⟩) Sub.nil))))))
          rcases h_40 with ⟨f_47, hx_48, hk_49, e_50⟩ | ⟨a_51, hx_52, hk_53, hb_54, hz_55, e_56⟩
          · skip
            refine aw_eqi (y := 0) e_50 ?_
            refine aw_if_ne (tgt := 73) dX5_readAnyOf_68 (by decide) (fun c_57 => ?_) (fun c_57 => ?_)
            · exact absurd rfl c_57
            refine aw_iconst (v := 0) dX5_readAnyOf_71 (by decide) ?_
            refine aw_zreti dX5_readAnyOf_72 rfl (by first | exact Or.inl rfl | exact Or.inr rfl | assumption) (Nat.le_of_ble_eq_true rfl) (Nat.le_of_ble_eq_true rfl) ?_
            exact ⟨⟨(by first | exact Or.inl rfl | exact Or.inr rfl | assumption), Or.inl ⟨_, i10_4 _ (A_and (Or.inr c_30) hx_48), hk_49, rfl⟩⟩, rfl, j_42⟩
          · skip
            refine aw_eqi (y := 1) e_56 ?_
            obtain ⟨hb_54a, hb_54b⟩ := hb_54
            refine aw_if_ne (tgt := 73) dX5_readAnyOf_68 (by decide) (fun c_58 => ?_) (fun c_58 => ?_)
            rotate_left
            · exact absurd c_58 (by decide)
            refine aw_aload_n dX5_readAnyOf_73 rfl ?_
            refine aw_get dX5_readAnyOf_74 fl_X5_9 ((j_42.2.1 _ hp.1 hp.2).trans hR) (by omega) rfl ?_
            refine aw_iload_n dX5_readAnyOf_77 rfl ?_
            obtain ⟨s8_62, r8_62, h8_62, e_62, hs_62, hr_62⟩ := JW.get j_42 (ctl_0 hx)
            refine aw_callVv (J' := jX4_leadHere) (As := [.int r_36]) (st := []) dX5_readAnyOf_78 tb_521 ok_X4_leadHere ⟨_, e_62⟩ (by omega) rfl rfl (g_X4_leadHere l D b N V_43 hN j_42.1 x hx r_36) rfl (Nat.le_of_ble_eq_true rfl) ⟨Nat.le_of_ble_eq_true rfl, Nat.le_of_ble_eq_true rfl, Nat.le_of_ble_eq_true rfl, Nat.le_of_ble_eq_true rfl⟩ (fun  N_63 V_61 q_64 => ?_)
            obtain ⟨rfl, q_59⟩ := q_64
            have j_60 := JW.trans j_42 (JW.weak q_59 (Sub.cons (LMs (LMs (LMs LM0))) (by omega) (by omega) (by decide) (Or.inl rfl) Sub.nil))
            refine aw_goto (tgt := 10) dX5_readAnyOf_81 (by decide) ?_
            refine aw_le ?_ (mih_10_21 _ (by omega) a_51 V_61 rfl (j_60) (((JW.fI q_59 (by omega) (nfc (by omega) nf0)).trans ((JW.fI q_39 (by omega) (nfc (by omega) (nfc (by omega) (nfc (by omega) (nfc (by omega) (nfc (by omega) nf0)))))).trans ((JW.fI q_32 (by omega) (nfc (by omega) (nfc (by omega) (nfc (by omega) nf0)))).trans (KA (s := 3) (x := .int (nI (a10 + 1))) e_22 rfl (by decide) e_31 k_31 i10_1))))) (((JW.fI q_59 (by omega) (nfc (by omega) nf0)).trans hk_53)) (((JW.same q_59 (by decide) (fun k => (nfc (by omega) nf0))).trans ((JW.same q_39 (by decide) (fun k => (nfc (by omega) (nfc (by omega) (nfc (by omega) (nfc (by omega) (nfc (by omega) nf0))))))).trans ((JW.same q_32 (by decide) (fun k => (nfc (by omega) (nfc (by omega) (nfc (by omega) nf0))))).trans ((k_31 _ (by decide)).trans i10_3))))) (fun o q => i10_4 o (A_and (Or.inr c_30) (hx_52 o q))) (⟨by omega, by omega⟩) (hz_55))
            exact ⟨rfl, ⟨rfl, trivial⟩⟩
    refine aw_le ?_ (ml_10_21 _ a_13 V_5 rfl (j_4) (((JW.fI q_1 (by omega) (nfc (by omega) (nfc (by omega) (nfc (by omega) (nfc (by omega) (nfc (by omega) nf0)))))).trans hE)) (hk_15) (((JW.same q_1 (by decide) (fun k => (nfc (by omega) (nfc (by omega) (nfc (by omega) (nfc (by omega) (nfc (by omega) nf0))))))).trans hg)) (hx_14) (⟨by omega, by omega⟩) (hz_17))
    exact ⟨rfl, ⟨rfl, trivial⟩⟩

set_option maxHeartbeats 4000000 in
set_option maxRecDepth 100000 in
theorem g_X5_open_0S (l : Launch) (D : va_G) (b : Nat) (N : Nat) (V : Wd) (hN : 100 ≤ N) (hW : CW D b V) (p x : Nat) (hp : 100 ≤ p ∧ p < N) (hx : x = 57 ∨ x = 65) (hR : V p = cO 5 [.ref (b + 1), .ref (b + x)]) (g : Nat → Int32) (hg : V 2 = cI D 260 g) (n a : Nat) (hna : a ≤ n ∧ n ≤ 240) (hE : fI (V 1) 2 = nI n) (hA : fI (V 1) 3 = nI a) (hB : BY g) (hlt : a < n) : MI l D b 1 jX5_open [.ref (b + p), .int 0] N V 0 0 (fun r N9 V9 => ((r = 0 ∨ r = 1) ∧ (r = 1 ∧ fI (V9 1) 3 = nI (a + 1))) ∧ N = N9 ∧ JW D b N [(1, 1, 3, 3)] V V9) := by
  have hJ0 : JW D b N [(1, 1, 3, 3)] V V := JW.rf hW
  refine mw_of (by decide) (by simp [Value.category]) (Nat.le_of_ble_eq_true rfl) ?_
  show AW l D b jX5_open (fx_rm 1 0 0) none (fx_MQ D b 0 0 (fx_qi (fun r N9 V9 => ((r = 0 ∨ r = 1) ∧ (r = 1 ∧ fI (V9 1) 3 = nI (a + 1))) ∧ N = N9 ∧ JW D b N [(1, 1, 3, 3)] V V9))) 0 [some (.ref (b + p)), some (.int 0)] [] N V 0 0
  refine aw_iload_n dX5_open_0 rfl ?_
  refine aw_bipush (v := 6) dX5_open_1 (by decide) ?_
  refine aw_icmp_lt (tgt := 22) dX5_open_3 (by decide) (fun c_1 => ?_) (fun c_1 => ?_)
  rotate_left
  · exact absurd (by decide) c_1
  refine aw_aload_n dX5_open_22 rfl ?_
  refine aw_get dX5_open_23 fl_X5_15 ((hJ0.2.1 _ hp.1 hp.2).trans hR) (by omega) rfl ?_
  refine aw_dup dX5_open_26 rfl ?_
  obtain ⟨ts_2, tn_2, tf_2, ta_2, e_2, hta_2⟩ := JW.get hJ0 ct_1
  refine aw_get dX5_open_27 fl_X5_25 e_2 (by omega) rfl ?_
  refine aw_eqi (y := (nI a)) ((Eq.symm (congrArg (fun z => fI z 3) e_2)).trans hA) ?_
  refine aw_iconst (v := 1) dX5_open_30 (by decide) ?_
  refine aw_iadd dX5_open_31 ?_
  refine aw_eqi (y := nI (a + 1)) (nI_add _ _) ?_
  refine aw_put dX5_open_32 fp_X5_25 e_2 (by omega) rfl rfl (Nat.le_of_ble_eq_true rfl) rfl ?_
  refine aw_up hJ0 ct_1 ⟨_, _, _, (a + 1), rfl, (by first | omega | (split <;> omega))⟩ (WO (s := 3) (x := .int (nI (a + 1))) e_2 rfl LM0 (by decide) (by decide) (by decide) (Or.inl (by decide))) (fun V_3 j_3 k_3 e_3 => ?_)
  refine aw_iconst (v := 1) dX5_open_35 (by decide) ?_
  refine aw_zreti dX5_open_36 rfl (by first | exact Or.inl rfl | exact Or.inr rfl | assumption) (Nat.le_of_ble_eq_true rfl) (Nat.le_of_ble_eq_true rfl) ?_
  exact ⟨⟨(by first | exact Or.inl rfl | exact Or.inr rfl | assumption), ⟨rfl, ((congrArg (fun z => fI z 3) e_3).trans rfl)⟩⟩, rfl, j_3⟩

set_option maxHeartbeats 20000000 in
set_option maxRecDepth 100000 in
theorem g_X5_readFactor_0S (l : Launch) (D : va_G) (b : Nat) (N : Nat) (V : Wd) (hN : 100 ≤ N) (hW : CW D b V) (p x : Nat) (hp : 100 ≤ p ∧ p < N) (hx : x = 57 ∨ x = 65) (hR : V p = cO 5 [.ref (b + 1), .ref (b + x)]) (g : Nat → Int32) (hg : V 2 = cI D 260 g) (n a : Nat) (hna : a ≤ n ∧ n ≤ 240) (hE : fI (V 1) 2 = nI n) (hA : fI (V 1) 3 = nI a) (hB : BY g) (s : List Nat) (hs : dpt s = 0) : MI l D b 23 jX5_readFactor [.ref (b + p), .int 0] N V 0 0 (fun r N9 V9 => ((r = 0 ∨ r = 1) ∧ ((∃ f, RES g n (0, a, s) (.inl f) ∧ fI (V9 1) 4 = f ∧ r = 0) ∨ (∃ a9, (∀ o, RES g n (1, a9, s) o → RES g n (0, a, s) o) ∧ fI (V9 1) 3 = nI a9 ∧ (a < a9 ∧ a9 ≤ n) ∧ r = 1))) ∧ N = N9 ∧ JW D b N [(1, 1, 3, 3), (1, 1, 4, 4), (x + 1, x + 1, 0, 1000000), (x + 2, x + 2, 0, 1000000), (x, x, 2, 2)] V V9) := by
  have hJ0 : JW D b N [(1, 1, 3, 3), (1, 1, 4, 4), (x + 1, x + 1, 0, 1000000), (x + 2, x + 2, 0, 1000000), (x, x, 2, 2)] V V := JW.rf hW
  refine mw_of (by decide) (by simp [Value.category]) (Nat.le_of_ble_eq_true rfl) ?_
  show AW l D b jX5_readFactor (fx_rm 23 0 0) none (fx_MQ D b 0 0 (fx_qi (fun r N9 V9 => ((r = 0 ∨ r = 1) ∧ ((∃ f, RES g n (0, a, s) (.inl f) ∧ fI (V9 1) 4 = f ∧ r = 0) ∨ (∃ a9, (∀ o, RES g n (1, a9, s) o → RES g n (0, a, s) o) ∧ fI (V9 1) 3 = nI a9 ∧ (a < a9 ∧ a9 ≤ n) ∧ r = 1))) ∧ N = N9 ∧ JW D b N [(1, 1, 3, 3), (1, 1, 4, 4), (x + 1, x + 1, 0, 1000000), (x + 2, x + 2, 0, 1000000), (x, x, 2, 2)] V V9))) 0 [some (.ref (b + p)), some (.int 0), none, none] [] N V 0 0
  refine aw_aload_n dX5_readFactor_0 rfl ?_
  refine aw_get dX5_readFactor_1 fl_X5_15 ((hJ0.2.1 _ hp.1 hp.2).trans hR) (by omega) rfl ?_
  obtain ⟨ts_3, tn_3, tf_3, ta_3, e_3, hta_3⟩ := JW.get hJ0 ct_1
  refine aw_callVi (J' := jX10_now) (As := []) (st := []) dX5_readFactor_4 tb_390 ok_X10_now ⟨_, e_3⟩ (by omega) rfl rfl (g_X10_nowS l D b N V hN hJ0.1 g hg n a ⟨by omega, by omega⟩ hE hA) rfl (Nat.le_of_ble_eq_true rfl) ⟨Nat.le_of_ble_eq_true rfl, Nat.le_of_ble_eq_true rfl, Nat.le_of_ble_eq_true rfl, Nat.le_of_ble_eq_true rfl⟩ (fun r_4 N_5 V_6 q_7 => ?_)
  obtain ⟨h_2, rfl, rfl⟩ := q_7
  refine aw_eqi (y := (hd g n a)) h_2 ?_
  refine aw_istore_n (ls' := [some (.ref (b + p)), some (.int 0), some (.int (hd g n a)), none]) dX5_readFactor_7 (Nat.le_of_ble_eq_true rfl) rfl ?_
  refine aw_iload_n dX5_readFactor_8 rfl ?_
  refine aw_bipush (v := 91) dX5_readFactor_9 (by decide) ?_
  refine aw_icmp_ne (tgt := 50) dX5_readFactor_11 (by decide) (fun c_8 => ?_) (fun c_8 => ?_)
  · skip
    refine aw_iload_n dX5_readFactor_50 rfl ?_
    refine aw_callSi (J' := jX10_isDigit) (As := [.int (hd g n a)]) (st := []) dX5_readFactor_51 tb_413 ok_X10_isDigit rfl (g_X10_isDigitS l D b N V hN hJ0.1 (hd g n a)) rfl (Nat.le_of_ble_eq_true rfl) ⟨Nat.le_of_ble_eq_true rfl, Nat.le_of_ble_eq_true rfl, Nat.le_of_ble_eq_true rfl, Nat.le_of_ble_eq_true rfl⟩ (fun r_12 N_13 V_14 q_15 => ?_)
    obtain ⟨⟨z_11, h_10⟩, rfl, rfl⟩ := q_15
    rcases h_10 with ⟨hy_16, e_17⟩ | ⟨hn_18, e_19⟩
    · skip
      refine aw_eqi (y := 1) e_17 ?_
      obtain ⟨z_20, hz_20, ez_20⟩ := isDg_nat hy_16
      have hlz_20 := isDg_hd hy_16
      refine aw_if_eq (tgt := 85) dX5_readFactor_54 (by decide) (fun c_21 => ?_) (fun c_21 => ?_)
      · exact absurd c_21 (by decide)
      refine aw_aload_n dX5_readFactor_57 rfl ?_
      refine aw_get dX5_readFactor_58 fl_X5_15 ((hJ0.2.1 _ hp.1 hp.2).trans hR) (by omega) rfl ?_
      refine aw_iconst (v := 5) dX5_readFactor_61 (by decide) ?_
      refine aw_callVi (J' := jX10_readNumber) (As := [.int 5]) (st := []) dX5_readFactor_62 tb_414 ok_X10_readNumber ⟨_, e_3⟩ (by omega) rfl rfl (g_X10_readNumber_5S l D b N V hN hJ0.1 g hg n a ⟨by omega, by omega⟩ hE hA) rfl (Nat.le_of_ble_eq_true rfl) ⟨Nat.le_of_ble_eq_true rfl, Nat.le_of_ble_eq_true rfl, Nat.le_of_ble_eq_true rfl, Nat.le_of_ble_eq_true rfl⟩ (fun r_26 N_27 V_25 q_28 => ?_)
      obtain ⟨h_23, rfl, q_22⟩ := q_28
      have j_24 := JW.trans hJ0 (JW.weak q_22 (Sub.cons LM0 (by decide) (by decide) (by decide) (Or.inr ⟨by decide, by decide⟩) (Sub.cons (LMs LM0) (by decide) (by decide) (by decide) (Or.inr ⟨by decide, by decide⟩) Sub.nil)))
      rcases h_23 with ⟨f_29, hx_30, hk_31, e_32⟩ | ⟨a_33, v_34, hx_35, hk_36, hb_37, e_38⟩
      · skip
        refine aw_eqi (y := (-1)) e_32 ?_
        refine aw_istore_n (ls' := [some (.ref (b + p)), some (.int 0), some (.int (hd g n a)), some (.int (-1))]) dX5_readFactor_65 (Nat.le_of_ble_eq_true rfl) rfl ?_
        refine aw_iload_n dX5_readFactor_66 rfl ?_
        refine aw_if_ge (tgt := 72) dX5_readFactor_67 (by decide) (fun c_39 => ?_) (fun c_39 => ?_)
        · exact absurd c_39 (by decide)
        refine aw_iconst (v := 0) dX5_readFactor_70 (by decide) ?_
        refine aw_zreti dX5_readFactor_71 rfl (by first | exact Or.inl rfl | exact Or.inr rfl | assumption) (Nat.le_of_ble_eq_true rfl) (Nat.le_of_ble_eq_true rfl) ?_
        exact ⟨⟨(by first | exact Or.inl rfl | exact Or.inr rfl | assumption), Or.inl ⟨_, F_numf hy_16 hx_30, hk_31, rfl⟩⟩, rfl, j_24⟩
      · skip
        refine aw_eqi (y := (nI v_34)) e_38 ?_
        obtain ⟨hb_37a, hb_37b, hb_37c⟩ := hb_37
        refine aw_istore_n (ls' := [some (.ref (b + p)), some (.int 0), some (.int (hd g n a)), some (.int (nI v_34))]) dX5_readFactor_65 (Nat.le_of_ble_eq_true rfl) rfl ?_
        refine aw_iload_n dX5_readFactor_66 rfl ?_
        refine aw_if_ge (tgt := 72) dX5_readFactor_67 (by decide) (fun c_40 => ?_) (fun c_40 => ?_)
        rotate_left
        · have nc_40 : ¬ (0 ≤ v_34) := fun z => c_40 ((nI_leI (a := 0) (b := v_34) (by omega) (by omega)).mpr z)
          omega
        have nc_40 : 0 ≤ v_34 := (nI_leI (a := 0) (b := v_34) (by omega) (by omega)).mp c_40
        refine aw_aload_n dX5_readFactor_72 rfl ?_
        refine aw_get dX5_readFactor_73 fl_X5_9 ((j_24.2.1 _ hp.1 hp.2).trans hR) (by omega) rfl ?_
        refine aw_bipush (v := 35) dX5_readFactor_76 (by decide) ?_
        refine aw_iload_n dX5_readFactor_78 rfl ?_
        obtain ⟨s8_44, r8_44, h8_44, e_44, hs_44, hr_44⟩ := JW.get j_24 (ctl_0 hx)
        refine aw_callVi (J' := jX4_add) (As := [.int 35, .int (nI v_34)]) (st := []) dX5_readFactor_79 tb_415 ok_X4_add ⟨_, e_44⟩ (by omega) rfl rfl (g_X4_add l D b N V_25 hN j_24.1 x hx 35 (nI v_34) (nI_pos' (by omega))) rfl (Nat.le_of_ble_eq_true rfl) ⟨Nat.le_of_ble_eq_true rfl, Nat.le_of_ble_eq_true rfl, Nat.le_of_ble_eq_true rfl, Nat.le_of_ble_eq_true rfl⟩ (fun r_45 N_46 V_43 q_47 => ?_)
        obtain ⟨rfl, q_41⟩ := q_47
        have j_42 := JW.trans j_24 (JW.weak q_41 (Sub.cons (LMs (LMs LM0)) (by omega) (by omega) (by decide) (Or.inl rfl) (Sub.cons (LMs (LMs (LMs LM0))) (by omega) (by omega) (by decide) (Or.inl rfl) (Sub.cons (LMs (LMs (LMs (LMs LM0)))) (by omega) (by omega) (by decide) (Or.inr ⟨by decide, by decide⟩) Sub.nil))))
        refine aw_pop dX5_readFactor_82 rfl ?_
        refine aw_iconst (v := 1) dX5_readFactor_83 (by decide) ?_
        refine aw_zreti dX5_readFactor_84 rfl (by first | exact Or.inl rfl | exact Or.inr rfl | assumption) (Nat.le_of_ble_eq_true rfl) (Nat.le_of_ble_eq_true rfl) ?_
        exact ⟨⟨(by first | exact Or.inl rfl | exact Or.inr rfl | assumption), Or.inr ⟨_, fun o q => F_num hy_16 hx_35 q, ((JW.fI q_41 (by omega) (nfc (by omega) (nfc (by omega) (nfc (by omega) nf0)))).trans hk_36), ⟨by omega, by omega⟩, rfl⟩⟩, rfl, j_42⟩
    · skip
      refine aw_eqi (y := 0) e_19 ?_
      refine aw_if_eq (tgt := 85) dX5_readFactor_54 (by decide) (fun c_48 => ?_) (fun c_48 => ?_)
      rotate_left
      · exact absurd (by decide) c_48
      refine aw_iload_n dX5_readFactor_85 rfl ?_
      refine aw_if_ge (tgt := 93) dX5_readFactor_86 (by decide) (fun c_49 => ?_) (fun c_49 => ?_)
      · skip
        refine aw_strIdx3 rfl dX5_readFactor_93 dX5_readFactor_95 dX5_readFactor_96 dX5_readFactor_97 rfl rfl (Nat.le_of_ble_eq_true rfl) ⟨Nat.le_of_ble_eq_true rfl, Nat.le_of_ble_eq_true rfl, Nat.le_of_ble_eq_true rfl, Nat.le_of_ble_eq_true rfl⟩ (fun ixr hix => ?_)
        have hfc := ix_fac hB (Int32.not_lt.mpr c_49) hix
        refine aw_istore_n (ls' := [some (.ref (b + p)), some (.int 0), some (.int (hd g n a)), some (.int ixr)]) dX5_readFactor_100 (Nat.le_of_ble_eq_true rfl) rfl ?_
        refine aw_iload_n dX5_readFactor_101 rfl ?_
        refine aw_if_ge (tgt := 113) dX5_readFactor_102 (by decide) (fun c_50 => ?_) (fun c_50 => ?_)
        · skip
          have hfac := (hfc.resolve_left (fun z => Int32.not_lt.mpr c_50 z.1)).2
          have hlf := fac_lt hfac
          refine aw_aload_n dX5_readFactor_113 rfl ?_
          refine aw_get dX5_readFactor_114 fl_X5_15 ((hJ0.2.1 _ hp.1 hp.2).trans hR) (by omega) rfl ?_
          refine aw_dup dX5_readFactor_117 rfl ?_
          refine aw_get dX5_readFactor_118 fl_X5_25 e_3 (by omega) rfl ?_
          refine aw_eqi (y := (nI a)) ((Eq.symm (congrArg (fun z => fI z 3) e_3)).trans hA) ?_
          refine aw_iconst (v := 1) dX5_readFactor_121 (by decide) ?_
          refine aw_iadd dX5_readFactor_122 ?_
          refine aw_eqi (y := nI (a + 1)) (nI_add _ _) ?_
          refine aw_put dX5_readFactor_123 fp_X5_25 e_3 (by omega) rfl rfl (Nat.le_of_ble_eq_true rfl) rfl ?_
          refine aw_up hJ0 ct_1 ⟨_, _, _, (a + 1), rfl, (by first | omega | (split <;> omega))⟩ (WO (s := 3) (x := .int (nI (a + 1))) e_3 rfl LM0 (by decide) (by decide) (by decide) (Or.inl (by decide))) (fun V_51 j_51 k_51 e_51 => ?_)
          refine aw_aload_n dX5_readFactor_126 rfl ?_
          refine aw_get dX5_readFactor_127 fl_X5_9 ((j_51.2.1 _ hp.1 hp.2).trans hR) (by omega) rfl ?_
          refine aw_bipush (v := 64) dX5_readFactor_130 (by decide) ?_
          refine aw_iload_n dX5_readFactor_132 rfl ?_
          obtain ⟨s8_55, r8_55, h8_55, e_55, hs_55, hr_55⟩ := JW.get j_51 (ctl_0 hx)
          refine aw_callVi (J' := jX4_add) (As := [.int 64, .int ixr]) (st := []) dX5_readFactor_133 tb_415 ok_X4_add ⟨_, e_55⟩ (by omega) rfl rfl (g_X4_add l D b N V_51 hN j_51.1 x hx 64 ixr c_50) rfl (Nat.le_of_ble_eq_true rfl) ⟨Nat.le_of_ble_eq_true rfl, Nat.le_of_ble_eq_true rfl, Nat.le_of_ble_eq_true rfl, Nat.le_of_ble_eq_true rfl⟩ (fun r_56 N_57 V_54 q_58 => ?_)
          obtain ⟨rfl, q_52⟩ := q_58
          have j_53 := JW.trans j_51 (JW.weak q_52 (Sub.cons (LMs (LMs LM0)) (by omega) (by omega) (by decide) (Or.inl rfl) (Sub.cons (LMs (LMs (LMs LM0))) (by omega) (by omega) (by decide) (Or.inl rfl) (Sub.cons (LMs (LMs (LMs (LMs LM0)))) (by omega) (by omega) (by decide) (Or.inr ⟨by decide, by decide⟩) Sub.nil))))
          refine aw_pop dX5_readFactor_136 rfl ?_
          refine aw_iconst (v := 1) dX5_readFactor_137 (by decide) ?_
          refine aw_zreti dX5_readFactor_138 rfl (by first | exact Or.inl rfl | exact Or.inr rfl | assumption) (Nat.le_of_ble_eq_true rfl) (Nat.le_of_ble_eq_true rfl) ?_
          exact ⟨⟨(by first | exact Or.inl rfl | exact Or.inr rfl | assumption), Or.inr ⟨_, fun o q => F_let hfac q, ((JW.fI q_52 (by omega) (nfc (by omega) (nfc (by omega) (nfc (by omega) nf0)))).trans ((congrArg (fun z => fI z 3) e_51).trans rfl)), ⟨by omega, by omega⟩, rfl⟩⟩, rfl, j_53⟩
        · skip
          refine aw_aload_n dX5_readFactor_105 rfl ?_
          refine aw_get dX5_readFactor_106 fl_X5_15 ((hJ0.2.1 _ hp.1 hp.2).trans hR) (by omega) rfl ?_
          refine aw_callVi (J' := jX10_cannotStand) (As := []) (st := []) dX5_readFactor_109 tb_493 ok_X10_cannotStand ⟨_, e_3⟩ (by omega) rfl rfl (g_X10_cannotStandS l D b N V hN hJ0.1 g hg n a ⟨by omega, by omega⟩ hE hA) rfl (Nat.le_of_ble_eq_true rfl) ⟨Nat.le_of_ble_eq_true rfl, Nat.le_of_ble_eq_true rfl, Nat.le_of_ble_eq_true rfl, Nat.le_of_ble_eq_true rfl⟩ (fun r_64 N_65 V_63 q_66 => ?_)
          obtain ⟨⟨z_61, h_60⟩, rfl, q_59⟩ := q_66
          have j_62 := JW.trans hJ0 (JW.weak q_59 (Sub.cons (LMs LM0) (by decide) (by decide) (by decide) (Or.inr ⟨by decide, by decide⟩) Sub.nil))
          obtain ⟨rfl, h_60f⟩ := h_60
          refine aw_zreti dX5_readFactor_112 rfl (by first | exact Or.inl rfl | exact Or.inr rfl | assumption) (Nat.le_of_ble_eq_true rfl) (Nat.le_of_ble_eq_true rfl) ?_
          exact ⟨⟨(by first | exact Or.inl rfl | exact Or.inr rfl | assumption), Or.inl ⟨_, F_no c_8 hn_18 (hfc.resolve_right (fun z => z.1 (Int32.not_le.mp c_50))).2, h_60f, rfl⟩⟩, rfl, j_62⟩
      · skip
        refine aw_iconst (v := (-1)) dX5_readFactor_89 (by decide) ?_
        refine aw_goto (tgt := 100) dX5_readFactor_90 (by decide) ?_
        refine aw_istore_n (ls' := [some (.ref (b + p)), some (.int 0), some (.int (hd g n a)), some (.int (-1))]) dX5_readFactor_100 (Nat.le_of_ble_eq_true rfl) rfl ?_
        refine aw_iload_n dX5_readFactor_101 rfl ?_
        refine aw_if_ge (tgt := 113) dX5_readFactor_102 (by decide) (fun c_67 => ?_) (fun c_67 => ?_)
        · exact absurd c_67 (by decide)
        refine aw_aload_n dX5_readFactor_105 rfl ?_
        refine aw_get dX5_readFactor_106 fl_X5_15 ((hJ0.2.1 _ hp.1 hp.2).trans hR) (by omega) rfl ?_
        refine aw_callVi (J' := jX10_cannotStand) (As := []) (st := []) dX5_readFactor_109 tb_493 ok_X10_cannotStand ⟨_, e_3⟩ (by omega) rfl rfl (g_X10_cannotStandS l D b N V hN hJ0.1 g hg n a ⟨by omega, by omega⟩ hE hA) rfl (Nat.le_of_ble_eq_true rfl) ⟨Nat.le_of_ble_eq_true rfl, Nat.le_of_ble_eq_true rfl, Nat.le_of_ble_eq_true rfl, Nat.le_of_ble_eq_true rfl⟩ (fun r_73 N_74 V_72 q_75 => ?_)
        obtain ⟨⟨z_70, h_69⟩, rfl, q_68⟩ := q_75
        have j_71 := JW.trans hJ0 (JW.weak q_68 (Sub.cons (LMs LM0) (by decide) (by decide) (by decide) (Or.inr ⟨by decide, by decide⟩) Sub.nil))
        obtain ⟨rfl, h_69f⟩ := h_69
        refine aw_zreti dX5_readFactor_112 rfl (by first | exact Or.inl rfl | exact Or.inr rfl | assumption) (Nat.le_of_ble_eq_true rfl) (Nat.le_of_ble_eq_true rfl) ?_
        exact ⟨⟨(by first | exact Or.inl rfl | exact Or.inr rfl | assumption), Or.inl ⟨_, F_no c_8 hn_18 (fac_neg hB (Int32.not_le.mp c_49)), h_69f, rfl⟩⟩, rfl, j_71⟩
  · skip
    have hlc_8 := hd_lit c_8 (by decide)
    refine aw_aload_n dX5_readFactor_14 rfl ?_
    refine aw_iload_n dX5_readFactor_15 rfl ?_
    refine aw_callVi (J' := jX5_open) (As := [.int 0]) (st := []) dX5_readFactor_16 tb_407 ok_X5_open ⟨_, ((hJ0.2.1 _ hp.1 hp.2).trans hR)⟩ (by omega) rfl rfl (g_X5_open_0S l D b N V hN hJ0.1 p x ⟨by omega, by omega⟩ hx ((hJ0.2.1 _ hp.1 hp.2).trans hR) g hg n a ⟨by omega, by omega⟩ hE hA hB (by omega)) rfl (Nat.le_of_ble_eq_true rfl) ⟨Nat.le_of_ble_eq_true rfl, Nat.le_of_ble_eq_true rfl, Nat.le_of_ble_eq_true rfl, Nat.le_of_ble_eq_true rfl⟩ (fun r_81 N_82 V_80 q_83 => ?_)
    obtain ⟨⟨z_78, h_77⟩, rfl, q_76⟩ := q_83
    have j_79 := JW.trans hJ0 (JW.weak q_76 (Sub.cons LM0 (by decide) (by decide) (by decide) (Or.inr ⟨by decide, by decide⟩) Sub.nil))
    obtain ⟨rfl, h_77f⟩ := h_77
    refine aw_if_eq (tgt := 48) dX5_readFactor_19 (by decide) (fun c_84 => ?_) (fun c_84 => ?_)
    · exact absurd c_84 (by decide)
    refine aw_aload_n dX5_readFactor_22 rfl ?_
    refine aw_iload_n dX5_readFactor_23 rfl ?_
    refine aw_iconst (v := 1) dX5_readFactor_24 (by decide) ?_
    refine aw_iadd dX5_readFactor_25 ?_
    refine aw_eqi (y := 1) (by decide) ?_
    refine aw_callVi (J' := jX5_readSum) (As := [.int 1]) (st := []) dX5_readFactor_26 tb_395 ok_X5_readSum ⟨_, ((j_79.2.1 _ hp.1 hp.2).trans hR)⟩ (by omega) rfl rfl (g_X5_readSum_1S l D b N V_80 hN j_79.1 p x ⟨by omega, by omega⟩ hx ((j_79.2.1 _ hp.1 hp.2).trans hR) g ((JW.same q_76 (by decide) (fun k => (nfc (by omega) nf0))).trans hg) n (a + 1) ⟨by omega, by omega⟩ ((JW.fI q_76 (by omega) (nfc (by omega) nf0)).trans hE) h_77f hB (3 :: s) (dpt_3 hs)) rfl (Nat.le_of_ble_eq_true rfl) ⟨Nat.le_of_ble_eq_true rfl, Nat.le_of_ble_eq_true rfl, Nat.le_of_ble_eq_true rfl, Nat.le_of_ble_eq_true rfl⟩ (fun r_90 N_91 V_89 q_92 => ?_)
    obtain ⟨⟨z_87, h_86⟩, rfl, q_85⟩ := q_92
    have j_88 := JW.trans j_79 (JW.weak q_85 (Sub.cons LM0 (by decide) (by decide) (by decide) (Or.inr ⟨by decide, by decide⟩) (Sub.cons (LMs LM0) (by decide) (by decide) (by decide) (Or.inr ⟨by decide, by decide⟩) (Sub.cons (LMs (LMs LM0)) (by omega) (by omega) (by decide) (Or.inl rfl) (Sub.cons (LMs (LMs (LMs LM0))) (by omega) (by omega) (by decide) (Or.inl rfl) (Sub.cons (LMs (LMs (LMs (LMs LM0)))) (by omega) (by omega) (by decide) (Or.inr ⟨by decide, by decide⟩) Sub.nil))))))
    rcases h_86 with ⟨f_93, hx_94, hk_95, e_96⟩ | ⟨a_97, hx_98, hk_99, hb_100, hz_101, e_102⟩
    · skip
      refine aw_eqi (y := 0) e_96 ?_
      refine aw_if_eq (tgt := 48) dX5_readFactor_29 (by decide) (fun c_103 => ?_) (fun c_103 => ?_)
      rotate_left
      · exact absurd (by decide) c_103
      refine aw_iconst (v := 0) dX5_readFactor_48 (by decide) ?_
      refine aw_zreti dX5_readFactor_49 rfl (by first | exact Or.inl rfl | exact Or.inr rfl | assumption) (Nat.le_of_ble_eq_true rfl) (Nat.le_of_ble_eq_true rfl) ?_
      exact ⟨⟨(by first | exact Or.inl rfl | exact Or.inr rfl | assumption), Or.inl ⟨_, F_open c_8 (by omega) hx_94, hk_95, rfl⟩⟩, rfl, j_88⟩
    · skip
      refine aw_eqi (y := 1) e_102 ?_
      obtain ⟨hb_100a, hb_100b⟩ := hb_100
      refine aw_if_eq (tgt := 48) dX5_readFactor_29 (by decide) (fun c_104 => ?_) (fun c_104 => ?_)
      · exact absurd c_104 (by decide)
      refine aw_aload_n dX5_readFactor_32 rfl ?_
      refine aw_get dX5_readFactor_33 fl_X5_15 ((j_88.2.1 _ hp.1 hp.2).trans hR) (by omega) rfl ?_
      refine aw_bipush (v := 93) dX5_readFactor_36 (by decide) ?_
      obtain ⟨ts_110, tn_110, tf_110, ta_110, e_110, hta_110⟩ := JW.get j_88 ct_1
      refine aw_callVi (J' := jX10_expect) (As := [.int 93]) (st := []) dX5_readFactor_38 tb_412 ok_X10_expect ⟨_, e_110⟩ (by omega) rfl rfl (g_X10_expectS l D b N V_89 hN j_88.1 93 g ((JW.same q_85 (by decide) (fun k => (nfc (by omega) (nfc (by omega) (nfc (by omega) (nfc (by omega) (nfc (by omega) nf0))))))).trans ((JW.same q_76 (by decide) (fun k => (nfc (by omega) nf0))).trans hg)) n a_97 ⟨by omega, by omega⟩ ((JW.fI q_85 (by omega) (nfc (by omega) (nfc (by omega) (nfc (by omega) (nfc (by omega) (nfc (by omega) nf0)))))).trans ((JW.fI q_76 (by omega) (nfc (by omega) nf0)).trans hE)) hk_99) rfl (Nat.le_of_ble_eq_true rfl) ⟨Nat.le_of_ble_eq_true rfl, Nat.le_of_ble_eq_true rfl, Nat.le_of_ble_eq_true rfl, Nat.le_of_ble_eq_true rfl⟩ (fun r_111 N_112 V_109 q_113 => ?_)
      obtain ⟨⟨z_107, h_106⟩, rfl, q_105⟩ := q_113
      have j_108 := JW.trans j_88 (JW.weak q_105 (Sub.cons LM0 (by decide) (by decide) (by decide) (Or.inr ⟨by decide, by decide⟩) (Sub.cons (LMs LM0) (by decide) (by decide) (by decide) (Or.inr ⟨by decide, by decide⟩) Sub.nil)))
      rcases h_106 with ⟨hy_114, hk_115, e_116⟩ | ⟨hn_117, hk_118, e_119⟩
      · skip
        refine aw_eqi (y := 1) e_116 ?_
        have hlhy_114 := hd_lit hy_114 (by decide)
        refine aw_if_eq (tgt := 48) dX5_readFactor_41 (by decide) (fun c_120 => ?_) (fun c_120 => ?_)
        · exact absurd c_120 (by decide)
        refine aw_iconst (v := 1) dX5_readFactor_44 (by decide) ?_
        refine aw_goto (tgt := 49) dX5_readFactor_45 (by decide) ?_
        refine aw_zreti dX5_readFactor_49 rfl (by first | exact Or.inl rfl | exact Or.inr rfl | assumption) (Nat.le_of_ble_eq_true rfl) (Nat.le_of_ble_eq_true rfl) ?_
        exact ⟨⟨(by first | exact Or.inl rfl | exact Or.inr rfl | assumption), Or.inr ⟨_, fun o q => F_open c_8 (by omega) (hx_98 o (O_shut hz_101 hy_114 q)), hk_115, ⟨by omega, by omega⟩, rfl⟩⟩, rfl, j_108⟩
      · skip
        refine aw_eqi (y := 0) e_119 ?_
        refine aw_if_eq (tgt := 48) dX5_readFactor_41 (by decide) (fun c_121 => ?_) (fun c_121 => ?_)
        rotate_left
        · exact absurd (by decide) c_121
        refine aw_iconst (v := 0) dX5_readFactor_48 (by decide) ?_
        refine aw_zreti dX5_readFactor_49 rfl (by first | exact Or.inl rfl | exact Or.inr rfl | assumption) (Nat.le_of_ble_eq_true rfl) (Nat.le_of_ble_eq_true rfl) ?_
        exact ⟨⟨(by first | exact Or.inl rfl | exact Or.inr rfl | assumption), Or.inl ⟨_, F_open c_8 (by omega) (hx_98 _ (O_nshut hz_101 hn_117)), hk_118, rfl⟩⟩, rfl, j_108⟩

set_option maxHeartbeats 20000000 in
set_option maxRecDepth 100000 in
theorem g_X5_readProduct_0S (l : Launch) (D : va_G) (b : Nat) (N : Nat) (V : Wd) (hN : 100 ≤ N) (hW : CW D b V) (p x : Nat) (hp : 100 ≤ p ∧ p < N) (hx : x = 57 ∨ x = 65) (hR : V p = cO 5 [.ref (b + 1), .ref (b + x)]) (g : Nat → Int32) (hg : V 2 = cI D 260 g) (n a : Nat) (hna : a ≤ n ∧ n ≤ 240) (hE : fI (V 1) 2 = nI n) (hA : fI (V 1) 3 = nI a) (hB : BY g) (s : List Nat) (hs : dpt s = 0) : MI l D b 24 jX5_readProduct [.ref (b + p), .int 0] N V 0 0 (fun r N9 V9 => ((r = 0 ∨ r = 1) ∧ ((∃ f, RES g n (0, a, s) (.inl f) ∧ fI (V9 1) 4 = f ∧ r = 0) ∨ (∃ a9, (∀ o, RES g n (1, a9, s) o → RES g n (0, a, s) o) ∧ fI (V9 1) 3 = nI a9 ∧ (a < a9 ∧ a9 ≤ n) ∧ mlt (hd g n a9) = false ∧ r = 1))) ∧ N = N9 ∧ JW D b N [(1, 1, 3, 3), (1, 1, 4, 4), (x + 1, x + 1, 0, 1000000), (x + 2, x + 2, 0, 1000000), (x, x, 2, 2)] V V9) := by
  have hJ0 : JW D b N [(1, 1, 3, 3), (1, 1, 4, 4), (x + 1, x + 1, 0, 1000000), (x + 2, x + 2, 0, 1000000), (x, x, 2, 2)] V V := JW.rf hW
  refine mw_of (by decide) (by simp [Value.category]) (Nat.le_of_ble_eq_true rfl) ?_
  show AW l D b jX5_readProduct (fx_rm 24 0 0) none (fx_MQ D b 0 0 (fx_qi (fun r N9 V9 => ((r = 0 ∨ r = 1) ∧ ((∃ f, RES g n (0, a, s) (.inl f) ∧ fI (V9 1) 4 = f ∧ r = 0) ∨ (∃ a9, (∀ o, RES g n (1, a9, s) o → RES g n (0, a, s) o) ∧ fI (V9 1) 3 = nI a9 ∧ (a < a9 ∧ a9 ≤ n) ∧ mlt (hd g n a9) = false ∧ r = 1))) ∧ N = N9 ∧ JW D b N [(1, 1, 3, 3), (1, 1, 4, 4), (x + 1, x + 1, 0, 1000000), (x + 2, x + 2, 0, 1000000), (x, x, 2, 2)] V V9))) 0 [some (.ref (b + p)), some (.int 0), none] [] N V 0 0
  refine aw_aload_n dX5_readProduct_0 rfl ?_
  refine aw_iload_n dX5_readProduct_1 rfl ?_
  refine aw_callVi (J' := jX5_readFactor) (As := [.int 0]) (st := []) dX5_readProduct_2 tb_403 ok_X5_readFactor ⟨_, ((hJ0.2.1 _ hp.1 hp.2).trans hR)⟩ (by omega) rfl rfl (g_X5_readFactor_0S l D b N V hN hJ0.1 p x ⟨by omega, by omega⟩ hx ((hJ0.2.1 _ hp.1 hp.2).trans hR) g hg n a ⟨by omega, by omega⟩ hE hA hB s hs) rfl (Nat.le_of_ble_eq_true rfl) ⟨Nat.le_of_ble_eq_true rfl, Nat.le_of_ble_eq_true rfl, Nat.le_of_ble_eq_true rfl, Nat.le_of_ble_eq_true rfl⟩ (fun r_6 N_7 V_5 q_8 => ?_)
  obtain ⟨⟨z_3, h_2⟩, rfl, q_1⟩ := q_8
  have j_4 := JW.trans hJ0 (JW.weak q_1 (Sub.cons LM0 (by decide) (by decide) (by decide) (Or.inr ⟨by decide, by decide⟩) (Sub.cons (LMs LM0) (by decide) (by decide) (by decide) (Or.inr ⟨by decide, by decide⟩) (Sub.cons (LMs (LMs LM0)) (by omega) (by omega) (by decide) (Or.inl rfl) (Sub.cons (LMs (LMs (LMs LM0))) (by omega) (by omega) (by decide) (Or.inl rfl) (Sub.cons (LMs (LMs (LMs (LMs LM0)))) (by omega) (by omega) (by decide) (Or.inr ⟨by decide, by decide⟩) Sub.nil))))))
  rcases h_2 with ⟨f_9, hx_10, hk_11, e_12⟩ | ⟨a_13, hx_14, hk_15, hb_16, e_17⟩
  · skip
    refine aw_eqi (y := 0) e_12 ?_
    refine aw_if_ne (tgt := 10) dX5_readProduct_5 (by decide) (fun c_18 => ?_) (fun c_18 => ?_)
    · exact absurd rfl c_18
    refine aw_iconst (v := 0) dX5_readProduct_8 (by decide) ?_
    refine aw_zreti dX5_readProduct_9 rfl (by first | exact Or.inl rfl | exact Or.inr rfl | assumption) (Nat.le_of_ble_eq_true rfl) (Nat.le_of_ble_eq_true rfl) ?_
    exact ⟨⟨(by first | exact Or.inl rfl | exact Or.inr rfl | assumption), Or.inl ⟨_, hx_10, hk_11, rfl⟩⟩, rfl, j_4⟩
  · skip
    refine aw_eqi (y := 1) e_17 ?_
    obtain ⟨hb_16a, hb_16b⟩ := hb_16
    refine aw_if_ne (tgt := 10) dX5_readProduct_5 (by decide) (fun c_19 => ?_) (fun c_19 => ?_)
    rotate_left
    · exact absurd c_19 (by decide)
    have ml_10_20 : ∀ (m : Nat) (a10 : Nat) (V10 : Wd), m = n - a10 → (JW D b N [(1, 1, 3, 3), (1, 1, 4, 4), (x + 1, x + 1, 0, 1000000), (x + 2, x + 2, 0, 1000000), (x, x, 2, 2)] V V10) → (fI (V10 1) 2 = nI n) → (fI (V10 1) 3 = nI a10) → (V10 2 = cI D 260 g) → (∀ o, RES g n (1, a10, s) o → RES g n (0, a, s) o) → (a < a10 ∧ a10 ≤ n) → AW l D b jX5_readProduct (fx_rm 24 0 0) none (fx_MQ D b 0 0 (fx_qi (fun r N9 V9 => ((r = 0 ∨ r = 1) ∧ ((∃ f, RES g n (0, a, s) (.inl f) ∧ fI (V9 1) 4 = f ∧ r = 0) ∨ (∃ a9, (∀ o, RES g n (1, a9, s) o → RES g n (0, a, s) o) ∧ fI (V9 1) 3 = nI a9 ∧ (a < a9 ∧ a9 ≤ n) ∧ mlt (hd g n a9) = false ∧ r = 1))) ∧ N = N9 ∧ JW D b N [(1, 1, 3, 3), (1, 1, 4, 4), (x + 1, x + 1, 0, 1000000), (x + 2, x + 2, 0, 1000000), (x, x, 2, 2)] V V9))) 10 [some (.ref (b + p)), some (.int 0), none] [] N V10 0 0 := by
      intro m; refine Nat.strongRecOn m ?_
      intro m mih_10_20 a10 V10 hm10 i10_0 i10_1 i10_2 i10_3 i10_4 i10_5
      refine aw_aload_n dX5_readProduct_10 rfl ?_
      refine aw_get dX5_readProduct_11 fl_X5_15 ((i10_0.2.1 _ hp.1 hp.2).trans hR) (by omega) rfl ?_
      obtain ⟨ts_21, tn_21, tf_21, ta_21, e_21, hta_21⟩ := JW.get i10_0 ct_1
      refine aw_get dX5_readProduct_14 fl_X5_25 e_21 (by omega) rfl ?_
      refine aw_eqi (y := (nI a10)) ((Eq.symm (congrArg (fun z => fI z 3) e_21)).trans i10_2) ?_
      refine aw_aload_n dX5_readProduct_17 rfl ?_
      refine aw_get dX5_readProduct_18 fl_X5_15 ((i10_0.2.1 _ hp.1 hp.2).trans hR) (by omega) rfl ?_
      refine aw_get dX5_readProduct_21 fl_X5_59 e_21 (by omega) rfl ?_
      refine aw_eqi (y := (nI n)) ((Eq.symm (congrArg (fun z => fI z 2) e_21)).trans i10_1) ?_
      refine aw_icmp_ge (tgt := 84) dX5_readProduct_24 (by decide) (fun c_22 => ?_) (fun c_22 => ?_)
      · skip
        have nc_22 : n ≤ a10 := (nI_leI (a := n) (b := a10) (by omega) (by omega)).mp c_22
        refine aw_iconst (v := 1) dX5_readProduct_84 (by decide) ?_
        refine aw_zreti dX5_readProduct_85 rfl (by first | exact Or.inl rfl | exact Or.inr rfl | assumption) (Nat.le_of_ble_eq_true rfl) (Nat.le_of_ble_eq_true rfl) ?_
        exact ⟨⟨(by first | exact Or.inl rfl | exact Or.inr rfl | assumption), Or.inr ⟨_, i10_4, i10_2, ⟨by omega, by omega⟩, (mlt_ge (by omega)), rfl⟩⟩, rfl, i10_0⟩
      · skip
        have nc_22 : ¬ (n ≤ a10) := fun z => c_22 ((nI_leI (a := n) (b := a10) (by omega) (by omega)).mpr z)
        refine aw_aload_n dX5_readProduct_27 rfl ?_
        refine aw_get dX5_readProduct_28 fl_X5_15 ((i10_0.2.1 _ hp.1 hp.2).trans hR) (by omega) rfl ?_
        refine aw_callVi (J' := jX10_now) (As := []) (st := []) dX5_readProduct_31 tb_390 ok_X10_now ⟨_, e_21⟩ (by omega) rfl rfl (g_X10_nowS l D b N V10 hN i10_0.1 g i10_3 n a10 ⟨by omega, by omega⟩ i10_1 i10_2) rfl (Nat.le_of_ble_eq_true rfl) ⟨Nat.le_of_ble_eq_true rfl, Nat.le_of_ble_eq_true rfl, Nat.le_of_ble_eq_true rfl, Nat.le_of_ble_eq_true rfl⟩ (fun r_25 N_26 V_27 q_28 => ?_)
        obtain ⟨h_24, rfl, rfl⟩ := q_28
        refine aw_eqi (y := (hd g n a10)) h_24 ?_
        refine aw_callSi (J' := jX5_joinsFactors) (As := [.int (hd g n a10)]) (st := []) dX5_readProduct_34 tb_494 ok_X5_joinsFactors rfl (g_X5_joinsFactorsS l D b N V10 hN i10_0.1 (hd g n a10)) rfl (Nat.le_of_ble_eq_true rfl) ⟨Nat.le_of_ble_eq_true rfl, Nat.le_of_ble_eq_true rfl, Nat.le_of_ble_eq_true rfl, Nat.le_of_ble_eq_true rfl⟩ (fun r_32 N_33 V_34 q_35 => ?_)
        obtain ⟨⟨z_31, h_30⟩, rfl, rfl⟩ := q_35
        rcases h_30 with ⟨hy_36, e_37⟩ | ⟨hn_38, e_39⟩
        · skip
          refine aw_eqi (y := 1) e_37 ?_
          have hlhy_36 := mlt_lt hy_36
          refine aw_if_eq (tgt := 84) dX5_readProduct_37 (by decide) (fun c_40 => ?_) (fun c_40 => ?_)
          · exact absurd c_40 (by decide)
          refine aw_aload_n dX5_readProduct_40 rfl ?_
          refine aw_get dX5_readProduct_41 fl_X5_15 ((i10_0.2.1 _ hp.1 hp.2).trans hR) (by omega) rfl ?_
          refine aw_callVi (J' := jX10_now) (As := []) (st := []) dX5_readProduct_44 tb_390 ok_X10_now ⟨_, e_21⟩ (by omega) rfl rfl (g_X10_nowS l D b N V10 hN i10_0.1 g i10_3 n a10 ⟨by omega, by omega⟩ i10_1 i10_2) rfl (Nat.le_of_ble_eq_true rfl) ⟨Nat.le_of_ble_eq_true rfl, Nat.le_of_ble_eq_true rfl, Nat.le_of_ble_eq_true rfl, Nat.le_of_ble_eq_true rfl⟩ (fun r_43 N_44 V_45 q_46 => ?_)
          obtain ⟨h_42, rfl, rfl⟩ := q_46
          refine aw_eqi (y := (hd g n a10)) h_42 ?_
          refine aw_istore_n (ls' := [some (.ref (b + p)), some (.int 0), some (.int (hd g n a10))]) dX5_readProduct_47 (Nat.le_of_ble_eq_true rfl) rfl ?_
          refine aw_aload_n dX5_readProduct_48 rfl ?_
          refine aw_get dX5_readProduct_49 fl_X5_15 ((i10_0.2.1 _ hp.1 hp.2).trans hR) (by omega) rfl ?_
          refine aw_dup dX5_readProduct_52 rfl ?_
          refine aw_get dX5_readProduct_53 fl_X5_25 e_21 (by omega) rfl ?_
          refine aw_eqi (y := (nI a10)) ((Eq.symm (congrArg (fun z => fI z 3) e_21)).trans i10_2) ?_
          refine aw_iconst (v := 1) dX5_readProduct_56 (by decide) ?_
          refine aw_iadd dX5_readProduct_57 ?_
          refine aw_eqi (y := nI (a10 + 1)) (nI_add _ _) ?_
          refine aw_put dX5_readProduct_58 fp_X5_25 e_21 (by omega) rfl rfl (Nat.le_of_ble_eq_true rfl) rfl ?_
          refine aw_up i10_0 ct_1 ⟨_, _, _, (a10 + 1), rfl, (by first | omega | (split <;> omega))⟩ (WO (s := 3) (x := .int (nI (a10 + 1))) e_21 rfl LM0 (by decide) (by decide) (by decide) (Or.inl (by decide))) (fun V_47 j_47 k_47 e_47 => ?_)
          refine aw_aload_n dX5_readProduct_61 rfl ?_
          refine aw_iload_n dX5_readProduct_62 rfl ?_
          refine aw_callVi (J' := jX5_readFactor) (As := [.int 0]) (st := []) dX5_readProduct_63 tb_403 ok_X5_readFactor ⟨_, ((j_47.2.1 _ hp.1 hp.2).trans hR)⟩ (by omega) rfl rfl (g_X5_readFactor_0S l D b N V_47 hN j_47.1 p x ⟨by omega, by omega⟩ hx ((j_47.2.1 _ hp.1 hp.2).trans hR) g ((k_47 _ (by decide)).trans i10_3) n (a10 + 1) ⟨by omega, by omega⟩ (KA (s := 3) (x := .int (nI (a10 + 1))) e_21 rfl (by decide) e_47 k_47 i10_1) ((congrArg (fun z => fI z 3) e_47).trans rfl) hB s hs) rfl (Nat.le_of_ble_eq_true rfl) ⟨Nat.le_of_ble_eq_true rfl, Nat.le_of_ble_eq_true rfl, Nat.le_of_ble_eq_true rfl, Nat.le_of_ble_eq_true rfl⟩ (fun r_53 N_54 V_52 q_55 => ?_)
          obtain ⟨⟨z_50, h_49⟩, rfl, q_48⟩ := q_55
          have j_51 := JW.trans j_47 (JW.weak q_48 (Sub.cons LM0 (by decide) (by decide) (by decide) (Or.inr ⟨by decide, by decide⟩) (Sub.cons (LMs LM0) (by decide) (by decide) (by decide) (Or.inr ⟨by decide, by decide⟩) (Sub.cons (LMs (LMs LM0)) (by omega) (by omega) (by decide) (Or.inl rfl) (Sub.cons (LMs (LMs (LMs LM0))) (by omega) (by omega) (by decide) (Or.inl rfl) (Sub.cons (LMs (LMs (LMs (LMs LM0)))) (by omega) (by omega) (by decide) (Or.inr ⟨by decide, by decide⟩) Sub.nil))))))
          rcases h_49 with ⟨f_56, hx_57, hk_58, e_59⟩ | ⟨a_60, hx_61, hk_62, hb_63, e_64⟩
          · skip
            refine aw_eqi (y := 0) e_59 ?_
            refine aw_if_ne (tgt := 71) dX5_readProduct_66 (by decide) (fun c_65 => ?_) (fun c_65 => ?_)
            · exact absurd rfl c_65
            refine aw_iconst (v := 0) dX5_readProduct_69 (by decide) ?_
            refine aw_zreti dX5_readProduct_70 rfl (by first | exact Or.inl rfl | exact Or.inr rfl | assumption) (Nat.le_of_ble_eq_true rfl) (Nat.le_of_ble_eq_true rfl) ?_
            exact ⟨⟨(by first | exact Or.inl rfl | exact Or.inr rfl | assumption), Or.inl ⟨_, i10_4 _ (O_op (mlt_op hy_36) hx_57), hk_58, rfl⟩⟩, rfl, j_51⟩
          · skip
            refine aw_eqi (y := 1) e_64 ?_
            obtain ⟨hb_63a, hb_63b⟩ := hb_63
            refine aw_if_ne (tgt := 71) dX5_readProduct_66 (by decide) (fun c_66 => ?_) (fun c_66 => ?_)
            rotate_left
            · exact absurd c_66 (by decide)
            refine aw_aload_n dX5_readProduct_71 rfl ?_
            refine aw_get dX5_readProduct_72 fl_X5_9 ((j_51.2.1 _ hp.1 hp.2).trans hR) (by omega) rfl ?_
            refine aw_iload_n dX5_readProduct_75 rfl ?_
            refine aw_iconst (v := 0) dX5_readProduct_76 (by decide) ?_
            obtain ⟨s8_70, r8_70, h8_70, e_70, hs_70, hr_70⟩ := JW.get j_51 (ctl_0 hx)
            refine aw_callVi (J' := jX4_add) (As := [.int (hd g n a10), .int 0]) (st := []) dX5_readProduct_77 tb_415 ok_X4_add ⟨_, e_70⟩ (by omega) rfl rfl (g_X4_add l D b N V_52 hN j_51.1 x hx (hd g n a10) 0 (by decide)) rfl (Nat.le_of_ble_eq_true rfl) ⟨Nat.le_of_ble_eq_true rfl, Nat.le_of_ble_eq_true rfl, Nat.le_of_ble_eq_true rfl, Nat.le_of_ble_eq_true rfl⟩ (fun r_71 N_72 V_69 q_73 => ?_)
            obtain ⟨rfl, q_67⟩ := q_73
            have j_68 := JW.trans j_51 (JW.weak q_67 (Sub.cons (LMs (LMs LM0)) (by omega) (by omega) (by decide) (Or.inl rfl) (Sub.cons (LMs (LMs (LMs LM0))) (by omega) (by omega) (by decide) (Or.inl rfl) (Sub.cons (LMs (LMs (LMs (LMs LM0)))) (by omega) (by omega) (by decide) (Or.inr ⟨by decide, by decide⟩) Sub.nil))))
            refine aw_pop dX5_readProduct_80 rfl ?_
            refine aw_goto (tgt := 10) dX5_readProduct_81 (by decide) ?_
            refine aw_le ?_ (mih_10_20 _ (by omega) a_60 V_69 rfl (j_68) (((JW.fI q_67 (by omega) (nfc (by omega) (nfc (by omega) (nfc (by omega) nf0)))).trans ((JW.fI q_48 (by omega) (nfc (by omega) (nfc (by omega) (nfc (by omega) (nfc (by omega) (nfc (by omega) nf0)))))).trans (KA (s := 3) (x := .int (nI (a10 + 1))) e_21 rfl (by decide) e_47 k_47 i10_1)))) (((JW.fI q_67 (by omega) (nfc (by omega) (nfc (by omega) (nfc (by omega) nf0)))).trans hk_62)) (((JW.same q_67 (by decide) (fun k => (nfc (by omega) (nfc (by omega) (nfc (by omega) nf0))))).trans ((JW.same q_48 (by decide) (fun k => (nfc (by omega) (nfc (by omega) (nfc (by omega) (nfc (by omega) (nfc (by omega) nf0))))))).trans ((k_47 _ (by decide)).trans i10_3)))) (fun o q => i10_4 o (O_op (mlt_op hy_36) (hx_61 o q))) (⟨by omega, by omega⟩))
            exact ⟨rfl, ⟨rfl, trivial⟩⟩
        · skip
          refine aw_eqi (y := 0) e_39 ?_
          refine aw_if_eq (tgt := 84) dX5_readProduct_37 (by decide) (fun c_74 => ?_) (fun c_74 => ?_)
          rotate_left
          · exact absurd (by decide) c_74
          refine aw_iconst (v := 1) dX5_readProduct_84 (by decide) ?_
          refine aw_zreti dX5_readProduct_85 rfl (by first | exact Or.inl rfl | exact Or.inr rfl | assumption) (Nat.le_of_ble_eq_true rfl) (Nat.le_of_ble_eq_true rfl) ?_
          exact ⟨⟨(by first | exact Or.inl rfl | exact Or.inr rfl | assumption), Or.inr ⟨_, i10_4, i10_2, ⟨by omega, by omega⟩, hn_38, rfl⟩⟩, rfl, i10_0⟩
    refine aw_le ?_ (ml_10_20 _ a_13 V_5 rfl (j_4) (((JW.fI q_1 (by omega) (nfc (by omega) (nfc (by omega) (nfc (by omega) (nfc (by omega) (nfc (by omega) nf0)))))).trans hE)) (hk_15) (((JW.same q_1 (by decide) (fun k => (nfc (by omega) (nfc (by omega) (nfc (by omega) (nfc (by omega) (nfc (by omega) nf0))))))).trans hg)) (hx_14) (⟨by omega, by omega⟩))
    exact ⟨rfl, ⟨rfl, trivial⟩⟩

set_option maxHeartbeats 20000000 in
set_option maxRecDepth 100000 in
theorem g_X5_readSum_0S (l : Launch) (D : va_G) (b : Nat) (N : Nat) (V : Wd) (hN : 100 ≤ N) (hW : CW D b V) (p x : Nat) (hp : 100 ≤ p ∧ p < N) (hx : x = 57 ∨ x = 65) (hR : V p = cO 5 [.ref (b + 1), .ref (b + x)]) (g : Nat → Int32) (hg : V 2 = cI D 260 g) (n a : Nat) (hna : a ≤ n ∧ n ≤ 240) (hE : fI (V 1) 2 = nI n) (hA : fI (V 1) 3 = nI a) (hB : BY g) (s : List Nat) (hs : dpt s = 0) : MI l D b 25 jX5_readSum [.ref (b + p), .int 0] N V 0 0 (fun r N9 V9 => ((r = 0 ∨ r = 1) ∧ ((∃ f, RES g n (0, a, s) (.inl f) ∧ fI (V9 1) 4 = f ∧ r = 0) ∨ (∃ a9, (∀ o, RES g n (1, a9, s) o → RES g n (0, a, s) o) ∧ fI (V9 1) 3 = nI a9 ∧ (a < a9 ∧ a9 ≤ n) ∧ opr (hd g n a9) = false ∧ r = 1))) ∧ N = N9 ∧ JW D b N [(1, 1, 3, 3), (1, 1, 4, 4), (x + 1, x + 1, 0, 1000000), (x + 2, x + 2, 0, 1000000), (x, x, 2, 2)] V V9) := by
  have hJ0 : JW D b N [(1, 1, 3, 3), (1, 1, 4, 4), (x + 1, x + 1, 0, 1000000), (x + 2, x + 2, 0, 1000000), (x, x, 2, 2)] V V := JW.rf hW
  refine mw_of (by decide) (by simp [Value.category]) (Nat.le_of_ble_eq_true rfl) ?_
  show AW l D b jX5_readSum (fx_rm 25 0 0) none (fx_MQ D b 0 0 (fx_qi (fun r N9 V9 => ((r = 0 ∨ r = 1) ∧ ((∃ f, RES g n (0, a, s) (.inl f) ∧ fI (V9 1) 4 = f ∧ r = 0) ∨ (∃ a9, (∀ o, RES g n (1, a9, s) o → RES g n (0, a, s) o) ∧ fI (V9 1) 3 = nI a9 ∧ (a < a9 ∧ a9 ≤ n) ∧ opr (hd g n a9) = false ∧ r = 1))) ∧ N = N9 ∧ JW D b N [(1, 1, 3, 3), (1, 1, 4, 4), (x + 1, x + 1, 0, 1000000), (x + 2, x + 2, 0, 1000000), (x, x, 2, 2)] V V9))) 0 [some (.ref (b + p)), some (.int 0), none] [] N V 0 0
  refine aw_aload_n dX5_readSum_0 rfl ?_
  refine aw_iload_n dX5_readSum_1 rfl ?_
  refine aw_callVi (J' := jX5_readProduct) (As := [.int 0]) (st := []) dX5_readSum_2 tb_399 ok_X5_readProduct ⟨_, ((hJ0.2.1 _ hp.1 hp.2).trans hR)⟩ (by omega) rfl rfl (g_X5_readProduct_0S l D b N V hN hJ0.1 p x ⟨by omega, by omega⟩ hx ((hJ0.2.1 _ hp.1 hp.2).trans hR) g hg n a ⟨by omega, by omega⟩ hE hA hB s hs) rfl (Nat.le_of_ble_eq_true rfl) ⟨Nat.le_of_ble_eq_true rfl, Nat.le_of_ble_eq_true rfl, Nat.le_of_ble_eq_true rfl, Nat.le_of_ble_eq_true rfl⟩ (fun r_6 N_7 V_5 q_8 => ?_)
  obtain ⟨⟨z_3, h_2⟩, rfl, q_1⟩ := q_8
  have j_4 := JW.trans hJ0 (JW.weak q_1 (Sub.cons LM0 (by decide) (by decide) (by decide) (Or.inr ⟨by decide, by decide⟩) (Sub.cons (LMs LM0) (by decide) (by decide) (by decide) (Or.inr ⟨by decide, by decide⟩) (Sub.cons (LMs (LMs LM0)) (by omega) (by omega) (by decide) (Or.inl rfl) (Sub.cons (LMs (LMs (LMs LM0))) (by omega) (by omega) (by decide) (Or.inl rfl) (Sub.cons (LMs (LMs (LMs (LMs LM0)))) (by omega) (by omega) (by decide) (Or.inr ⟨by decide, by decide⟩) Sub.nil))))))
  rcases h_2 with ⟨f_9, hx_10, hk_11, e_12⟩ | ⟨a_13, hx_14, hk_15, hb_16, hz_17, e_18⟩
  · skip
    refine aw_eqi (y := 0) e_12 ?_
    refine aw_if_ne (tgt := 10) dX5_readSum_5 (by decide) (fun c_19 => ?_) (fun c_19 => ?_)
    · exact absurd rfl c_19
    refine aw_iconst (v := 0) dX5_readSum_8 (by decide) ?_
    refine aw_zreti dX5_readSum_9 rfl (by first | exact Or.inl rfl | exact Or.inr rfl | assumption) (Nat.le_of_ble_eq_true rfl) (Nat.le_of_ble_eq_true rfl) ?_
    exact ⟨⟨(by first | exact Or.inl rfl | exact Or.inr rfl | assumption), Or.inl ⟨_, hx_10, hk_11, rfl⟩⟩, rfl, j_4⟩
  · skip
    refine aw_eqi (y := 1) e_18 ?_
    obtain ⟨hb_16a, hb_16b⟩ := hb_16
    refine aw_if_ne (tgt := 10) dX5_readSum_5 (by decide) (fun c_20 => ?_) (fun c_20 => ?_)
    rotate_left
    · exact absurd c_20 (by decide)
    have ml_10_21 : ∀ (m : Nat) (a10 : Nat) (V10 : Wd), m = n - a10 → (JW D b N [(1, 1, 3, 3), (1, 1, 4, 4), (x + 1, x + 1, 0, 1000000), (x + 2, x + 2, 0, 1000000), (x, x, 2, 2)] V V10) → (fI (V10 1) 2 = nI n) → (fI (V10 1) 3 = nI a10) → (V10 2 = cI D 260 g) → (∀ o, RES g n (1, a10, s) o → RES g n (0, a, s) o) → (a < a10 ∧ a10 ≤ n) → (mlt (hd g n a10) = false) → AW l D b jX5_readSum (fx_rm 25 0 0) none (fx_MQ D b 0 0 (fx_qi (fun r N9 V9 => ((r = 0 ∨ r = 1) ∧ ((∃ f, RES g n (0, a, s) (.inl f) ∧ fI (V9 1) 4 = f ∧ r = 0) ∨ (∃ a9, (∀ o, RES g n (1, a9, s) o → RES g n (0, a, s) o) ∧ fI (V9 1) 3 = nI a9 ∧ (a < a9 ∧ a9 ≤ n) ∧ opr (hd g n a9) = false ∧ r = 1))) ∧ N = N9 ∧ JW D b N [(1, 1, 3, 3), (1, 1, 4, 4), (x + 1, x + 1, 0, 1000000), (x + 2, x + 2, 0, 1000000), (x, x, 2, 2)] V V9))) 10 [some (.ref (b + p)), some (.int 0), none] [] N V10 0 0 := by
      intro m; refine Nat.strongRecOn m ?_
      intro m mih_10_21 a10 V10 hm10 i10_0 i10_1 i10_2 i10_3 i10_4 i10_5 i10_6
      refine aw_aload_n dX5_readSum_10 rfl ?_
      refine aw_get dX5_readSum_11 fl_X5_15 ((i10_0.2.1 _ hp.1 hp.2).trans hR) (by omega) rfl ?_
      obtain ⟨ts_22, tn_22, tf_22, ta_22, e_22, hta_22⟩ := JW.get i10_0 ct_1
      refine aw_get dX5_readSum_14 fl_X5_25 e_22 (by omega) rfl ?_
      refine aw_eqi (y := (nI a10)) ((Eq.symm (congrArg (fun z => fI z 3) e_22)).trans i10_2) ?_
      refine aw_aload_n dX5_readSum_17 rfl ?_
      refine aw_get dX5_readSum_18 fl_X5_15 ((i10_0.2.1 _ hp.1 hp.2).trans hR) (by omega) rfl ?_
      refine aw_get dX5_readSum_21 fl_X5_59 e_22 (by omega) rfl ?_
      refine aw_eqi (y := (nI n)) ((Eq.symm (congrArg (fun z => fI z 2) e_22)).trans i10_1) ?_
      refine aw_icmp_ge (tgt := 95) dX5_readSum_24 (by decide) (fun c_23 => ?_) (fun c_23 => ?_)
      · skip
        have nc_23 : n ≤ a10 := (nI_leI (a := n) (b := a10) (by omega) (by omega)).mp c_23
        refine aw_iconst (v := 1) dX5_readSum_95 (by decide) ?_
        refine aw_zreti dX5_readSum_96 rfl (by first | exact Or.inl rfl | exact Or.inr rfl | assumption) (Nat.le_of_ble_eq_true rfl) (Nat.le_of_ble_eq_true rfl) ?_
        exact ⟨⟨(by first | exact Or.inl rfl | exact Or.inr rfl | assumption), Or.inr ⟨_, i10_4, i10_2, ⟨by omega, by omega⟩, (opr_ge (by omega)), rfl⟩⟩, rfl, i10_0⟩
      · skip
        have nc_23 : ¬ (n ≤ a10) := fun z => c_23 ((nI_leI (a := n) (b := a10) (by omega) (by omega)).mpr z)
        refine aw_aload_n dX5_readSum_27 rfl ?_
        refine aw_get dX5_readSum_28 fl_X5_15 ((i10_0.2.1 _ hp.1 hp.2).trans hR) (by omega) rfl ?_
        refine aw_callVi (J' := jX10_now) (As := []) (st := []) dX5_readSum_31 tb_390 ok_X10_now ⟨_, e_22⟩ (by omega) rfl rfl (g_X10_nowS l D b N V10 hN i10_0.1 g i10_3 n a10 ⟨by omega, by omega⟩ i10_1 i10_2) rfl (Nat.le_of_ble_eq_true rfl) ⟨Nat.le_of_ble_eq_true rfl, Nat.le_of_ble_eq_true rfl, Nat.le_of_ble_eq_true rfl, Nat.le_of_ble_eq_true rfl⟩ (fun r_26 N_27 V_28 q_29 => ?_)
        obtain ⟨h_25, rfl, rfl⟩ := q_29
        refine aw_eqi (y := (hd g n a10)) h_25 ?_
        refine aw_bipush (v := 43) dX5_readSum_34 (by decide) ?_
        refine aw_icmp_eq (tgt := 51) dX5_readSum_36 (by decide) (fun c_30 => ?_) (fun c_30 => ?_)
        · skip
          have hlc_30 := hd_lit c_30 (by decide)
          refine aw_aload_n dX5_readSum_51 rfl ?_
          refine aw_get dX5_readSum_52 fl_X5_15 ((i10_0.2.1 _ hp.1 hp.2).trans hR) (by omega) rfl ?_
          refine aw_callVi (J' := jX10_now) (As := []) (st := []) dX5_readSum_55 tb_390 ok_X10_now ⟨_, e_22⟩ (by omega) rfl rfl (g_X10_nowS l D b N V10 hN i10_0.1 g i10_3 n a10 ⟨by omega, by omega⟩ i10_1 i10_2) rfl (Nat.le_of_ble_eq_true rfl) ⟨Nat.le_of_ble_eq_true rfl, Nat.le_of_ble_eq_true rfl, Nat.le_of_ble_eq_true rfl, Nat.le_of_ble_eq_true rfl⟩ (fun r_33 N_34 V_35 q_36 => ?_)
          obtain ⟨h_32, rfl, rfl⟩ := q_36
          refine aw_eqi (y := (hd g n a10)) h_32 ?_
          refine aw_istore_n (ls' := [some (.ref (b + p)), some (.int 0), some (.int (hd g n a10))]) dX5_readSum_58 (Nat.le_of_ble_eq_true rfl) rfl ?_
          refine aw_aload_n dX5_readSum_59 rfl ?_
          refine aw_get dX5_readSum_60 fl_X5_15 ((i10_0.2.1 _ hp.1 hp.2).trans hR) (by omega) rfl ?_
          refine aw_dup dX5_readSum_63 rfl ?_
          refine aw_get dX5_readSum_64 fl_X5_25 e_22 (by omega) rfl ?_
          refine aw_eqi (y := (nI a10)) ((Eq.symm (congrArg (fun z => fI z 3) e_22)).trans i10_2) ?_
          refine aw_iconst (v := 1) dX5_readSum_67 (by decide) ?_
          refine aw_iadd dX5_readSum_68 ?_
          refine aw_eqi (y := nI (a10 + 1)) (nI_add _ _) ?_
          refine aw_put dX5_readSum_69 fp_X5_25 e_22 (by omega) rfl rfl (Nat.le_of_ble_eq_true rfl) rfl ?_
          refine aw_up i10_0 ct_1 ⟨_, _, _, (a10 + 1), rfl, (by first | omega | (split <;> omega))⟩ (WO (s := 3) (x := .int (nI (a10 + 1))) e_22 rfl LM0 (by decide) (by decide) (by decide) (Or.inl (by decide))) (fun V_37 j_37 k_37 e_37 => ?_)
          refine aw_aload_n dX5_readSum_72 rfl ?_
          refine aw_iload_n dX5_readSum_73 rfl ?_
          refine aw_callVi (J' := jX5_readProduct) (As := [.int 0]) (st := []) dX5_readSum_74 tb_399 ok_X5_readProduct ⟨_, ((j_37.2.1 _ hp.1 hp.2).trans hR)⟩ (by omega) rfl rfl (g_X5_readProduct_0S l D b N V_37 hN j_37.1 p x ⟨by omega, by omega⟩ hx ((j_37.2.1 _ hp.1 hp.2).trans hR) g ((k_37 _ (by decide)).trans i10_3) n (a10 + 1) ⟨by omega, by omega⟩ (KA (s := 3) (x := .int (nI (a10 + 1))) e_22 rfl (by decide) e_37 k_37 i10_1) ((congrArg (fun z => fI z 3) e_37).trans rfl) hB s hs) rfl (Nat.le_of_ble_eq_true rfl) ⟨Nat.le_of_ble_eq_true rfl, Nat.le_of_ble_eq_true rfl, Nat.le_of_ble_eq_true rfl, Nat.le_of_ble_eq_true rfl⟩ (fun r_43 N_44 V_42 q_45 => ?_)
          obtain ⟨⟨z_40, h_39⟩, rfl, q_38⟩ := q_45
          have j_41 := JW.trans j_37 (JW.weak q_38 (Sub.cons LM0 (by decide) (by decide) (by decide) (Or.inr ⟨by decide, by decide⟩) (Sub.cons (LMs LM0) (by decide) (by decide) (by decide) (Or.inr ⟨by decide, by decide⟩) (Sub.cons (LMs (LMs LM0)) (by omega) (by omega) (by decide) (Or.inl rfl) (Sub.cons (LMs (LMs (LMs LM0))) (by omega) (by omega) (by decide) (Or.inl rfl) (Sub.cons (LMs (LMs (LMs (LMs LM0)))) (by omega) (by omega) (by decide) (Or.inr ⟨by decide, by decide⟩) Sub.nil))))))
          rcases h_39 with ⟨f_46, hx_47, hk_48, e_49⟩ | ⟨a_50, hx_51, hk_52, hb_53, hz_54, e_55⟩
          · skip
            refine aw_eqi (y := 0) e_49 ?_
            refine aw_if_ne (tgt := 82) dX5_readSum_77 (by decide) (fun c_56 => ?_) (fun c_56 => ?_)
            · exact absurd rfl c_56
            refine aw_iconst (v := 0) dX5_readSum_80 (by decide) ?_
            refine aw_zreti dX5_readSum_81 rfl (by first | exact Or.inl rfl | exact Or.inr rfl | assumption) (Nat.le_of_ble_eq_true rfl) (Nat.le_of_ble_eq_true rfl) ?_
            exact ⟨⟨(by first | exact Or.inl rfl | exact Or.inr rfl | assumption), Or.inl ⟨_, i10_4 _ (O_op (opr_pm (Or.inl c_30)) hx_47), hk_48, rfl⟩⟩, rfl, j_41⟩
          · skip
            refine aw_eqi (y := 1) e_55 ?_
            obtain ⟨hb_53a, hb_53b⟩ := hb_53
            refine aw_if_ne (tgt := 82) dX5_readSum_77 (by decide) (fun c_57 => ?_) (fun c_57 => ?_)
            rotate_left
            · exact absurd c_57 (by decide)
            refine aw_aload_n dX5_readSum_82 rfl ?_
            refine aw_get dX5_readSum_83 fl_X5_9 ((j_41.2.1 _ hp.1 hp.2).trans hR) (by omega) rfl ?_
            refine aw_iload_n dX5_readSum_86 rfl ?_
            refine aw_iconst (v := 0) dX5_readSum_87 (by decide) ?_
            obtain ⟨s8_61, r8_61, h8_61, e_61, hs_61, hr_61⟩ := JW.get j_41 (ctl_0 hx)
            refine aw_callVi (J' := jX4_add) (As := [.int (hd g n a10), .int 0]) (st := []) dX5_readSum_88 tb_415 ok_X4_add ⟨_, e_61⟩ (by omega) rfl rfl (g_X4_add l D b N V_42 hN j_41.1 x hx (hd g n a10) 0 (by decide)) rfl (Nat.le_of_ble_eq_true rfl) ⟨Nat.le_of_ble_eq_true rfl, Nat.le_of_ble_eq_true rfl, Nat.le_of_ble_eq_true rfl, Nat.le_of_ble_eq_true rfl⟩ (fun r_62 N_63 V_60 q_64 => ?_)
            obtain ⟨rfl, q_58⟩ := q_64
            have j_59 := JW.trans j_41 (JW.weak q_58 (Sub.cons (LMs (LMs LM0)) (by omega) (by omega) (by decide) (Or.inl rfl) (Sub.cons (LMs (LMs (LMs LM0))) (by omega) (by omega) (by decide) (Or.inl rfl) (Sub.cons (LMs (LMs (LMs (LMs LM0)))) (by omega) (by omega) (by decide) (Or.inr ⟨by decide, by decide⟩) Sub.nil))))
            refine aw_pop dX5_readSum_91 rfl ?_
            refine aw_goto (tgt := 10) dX5_readSum_92 (by decide) ?_
            refine aw_le ?_ (mih_10_21 _ (by omega) a_50 V_60 rfl (j_59) (((JW.fI q_58 (by omega) (nfc (by omega) (nfc (by omega) (nfc (by omega) nf0)))).trans ((JW.fI q_38 (by omega) (nfc (by omega) (nfc (by omega) (nfc (by omega) (nfc (by omega) (nfc (by omega) nf0)))))).trans (KA (s := 3) (x := .int (nI (a10 + 1))) e_22 rfl (by decide) e_37 k_37 i10_1)))) (((JW.fI q_58 (by omega) (nfc (by omega) (nfc (by omega) (nfc (by omega) nf0)))).trans hk_52)) (((JW.same q_58 (by decide) (fun k => (nfc (by omega) (nfc (by omega) (nfc (by omega) nf0))))).trans ((JW.same q_38 (by decide) (fun k => (nfc (by omega) (nfc (by omega) (nfc (by omega) (nfc (by omega) (nfc (by omega) nf0))))))).trans ((k_37 _ (by decide)).trans i10_3)))) (fun o q => i10_4 o (O_op (opr_pm (Or.inl c_30)) (hx_51 o q))) (⟨by omega, by omega⟩) (hz_54))
            exact ⟨rfl, ⟨rfl, trivial⟩⟩
        · skip
          refine aw_aload_n dX5_readSum_39 rfl ?_
          refine aw_get dX5_readSum_40 fl_X5_15 ((i10_0.2.1 _ hp.1 hp.2).trans hR) (by omega) rfl ?_
          refine aw_callVi (J' := jX10_now) (As := []) (st := []) dX5_readSum_43 tb_390 ok_X10_now ⟨_, e_22⟩ (by omega) rfl rfl (g_X10_nowS l D b N V10 hN i10_0.1 g i10_3 n a10 ⟨by omega, by omega⟩ i10_1 i10_2) rfl (Nat.le_of_ble_eq_true rfl) ⟨Nat.le_of_ble_eq_true rfl, Nat.le_of_ble_eq_true rfl, Nat.le_of_ble_eq_true rfl, Nat.le_of_ble_eq_true rfl⟩ (fun r_67 N_68 V_69 q_70 => ?_)
          obtain ⟨h_66, rfl, rfl⟩ := q_70
          refine aw_eqi (y := (hd g n a10)) h_66 ?_
          refine aw_bipush (v := 45) dX5_readSum_46 (by decide) ?_
          refine aw_icmp_ne (tgt := 95) dX5_readSum_48 (by decide) (fun c_71 => ?_) (fun c_71 => ?_)
          · skip
            refine aw_iconst (v := 1) dX5_readSum_95 (by decide) ?_
            refine aw_zreti dX5_readSum_96 rfl (by first | exact Or.inl rfl | exact Or.inr rfl | assumption) (Nat.le_of_ble_eq_true rfl) (Nat.le_of_ble_eq_true rfl) ?_
            exact ⟨⟨(by first | exact Or.inl rfl | exact Or.inr rfl | assumption), Or.inr ⟨_, i10_4, i10_2, ⟨by omega, by omega⟩, (opr_f c_30 c_71 i10_6), rfl⟩⟩, rfl, i10_0⟩
          · skip
            have hlc_71 := hd_lit c_71 (by decide)
            refine aw_aload_n dX5_readSum_51 rfl ?_
            refine aw_get dX5_readSum_52 fl_X5_15 ((i10_0.2.1 _ hp.1 hp.2).trans hR) (by omega) rfl ?_
            refine aw_callVi (J' := jX10_now) (As := []) (st := []) dX5_readSum_55 tb_390 ok_X10_now ⟨_, e_22⟩ (by omega) rfl rfl (g_X10_nowS l D b N V10 hN i10_0.1 g i10_3 n a10 ⟨by omega, by omega⟩ i10_1 i10_2) rfl (Nat.le_of_ble_eq_true rfl) ⟨Nat.le_of_ble_eq_true rfl, Nat.le_of_ble_eq_true rfl, Nat.le_of_ble_eq_true rfl, Nat.le_of_ble_eq_true rfl⟩ (fun r_74 N_75 V_76 q_77 => ?_)
            obtain ⟨h_73, rfl, rfl⟩ := q_77
            refine aw_eqi (y := (hd g n a10)) h_73 ?_
            refine aw_istore_n (ls' := [some (.ref (b + p)), some (.int 0), some (.int (hd g n a10))]) dX5_readSum_58 (Nat.le_of_ble_eq_true rfl) rfl ?_
            refine aw_aload_n dX5_readSum_59 rfl ?_
            refine aw_get dX5_readSum_60 fl_X5_15 ((i10_0.2.1 _ hp.1 hp.2).trans hR) (by omega) rfl ?_
            refine aw_dup dX5_readSum_63 rfl ?_
            refine aw_get dX5_readSum_64 fl_X5_25 e_22 (by omega) rfl ?_
            refine aw_eqi (y := (nI a10)) ((Eq.symm (congrArg (fun z => fI z 3) e_22)).trans i10_2) ?_
            refine aw_iconst (v := 1) dX5_readSum_67 (by decide) ?_
            refine aw_iadd dX5_readSum_68 ?_
            refine aw_eqi (y := nI (a10 + 1)) (nI_add _ _) ?_
            refine aw_put dX5_readSum_69 fp_X5_25 e_22 (by omega) rfl rfl (Nat.le_of_ble_eq_true rfl) rfl ?_
            refine aw_up i10_0 ct_1 ⟨_, _, _, (a10 + 1), rfl, (by first | omega | (split <;> omega))⟩ (WO (s := 3) (x := .int (nI (a10 + 1))) e_22 rfl LM0 (by decide) (by decide) (by decide) (Or.inl (by decide))) (fun V_78 j_78 k_78 e_78 => ?_)
            refine aw_aload_n dX5_readSum_72 rfl ?_
            refine aw_iload_n dX5_readSum_73 rfl ?_
            refine aw_callVi (J' := jX5_readProduct) (As := [.int 0]) (st := []) dX5_readSum_74 tb_399 ok_X5_readProduct ⟨_, ((j_78.2.1 _ hp.1 hp.2).trans hR)⟩ (by omega) rfl rfl (g_X5_readProduct_0S l D b N V_78 hN j_78.1 p x ⟨by omega, by omega⟩ hx ((j_78.2.1 _ hp.1 hp.2).trans hR) g ((k_78 _ (by decide)).trans i10_3) n (a10 + 1) ⟨by omega, by omega⟩ (KA (s := 3) (x := .int (nI (a10 + 1))) e_22 rfl (by decide) e_78 k_78 i10_1) ((congrArg (fun z => fI z 3) e_78).trans rfl) hB s hs) rfl (Nat.le_of_ble_eq_true rfl) ⟨Nat.le_of_ble_eq_true rfl, Nat.le_of_ble_eq_true rfl, Nat.le_of_ble_eq_true rfl, Nat.le_of_ble_eq_true rfl⟩ (fun r_84 N_85 V_83 q_86 => ?_)
            obtain ⟨⟨z_81, h_80⟩, rfl, q_79⟩ := q_86
            have j_82 := JW.trans j_78 (JW.weak q_79 (Sub.cons LM0 (by decide) (by decide) (by decide) (Or.inr ⟨by decide, by decide⟩) (Sub.cons (LMs LM0) (by decide) (by decide) (by decide) (Or.inr ⟨by decide, by decide⟩) (Sub.cons (LMs (LMs LM0)) (by omega) (by omega) (by decide) (Or.inl rfl) (Sub.cons (LMs (LMs (LMs LM0))) (by omega) (by omega) (by decide) (Or.inl rfl) (Sub.cons (LMs (LMs (LMs (LMs LM0)))) (by omega) (by omega) (by decide) (Or.inr ⟨by decide, by decide⟩) Sub.nil))))))
            rcases h_80 with ⟨f_87, hx_88, hk_89, e_90⟩ | ⟨a_91, hx_92, hk_93, hb_94, hz_95, e_96⟩
            · skip
              refine aw_eqi (y := 0) e_90 ?_
              refine aw_if_ne (tgt := 82) dX5_readSum_77 (by decide) (fun c_97 => ?_) (fun c_97 => ?_)
              · exact absurd rfl c_97
              refine aw_iconst (v := 0) dX5_readSum_80 (by decide) ?_
              refine aw_zreti dX5_readSum_81 rfl (by first | exact Or.inl rfl | exact Or.inr rfl | assumption) (Nat.le_of_ble_eq_true rfl) (Nat.le_of_ble_eq_true rfl) ?_
              exact ⟨⟨(by first | exact Or.inl rfl | exact Or.inr rfl | assumption), Or.inl ⟨_, i10_4 _ (O_op (opr_pm (Or.inr c_71)) hx_88), hk_89, rfl⟩⟩, rfl, j_82⟩
            · skip
              refine aw_eqi (y := 1) e_96 ?_
              obtain ⟨hb_94a, hb_94b⟩ := hb_94
              refine aw_if_ne (tgt := 82) dX5_readSum_77 (by decide) (fun c_98 => ?_) (fun c_98 => ?_)
              rotate_left
              · exact absurd c_98 (by decide)
              refine aw_aload_n dX5_readSum_82 rfl ?_
              refine aw_get dX5_readSum_83 fl_X5_9 ((j_82.2.1 _ hp.1 hp.2).trans hR) (by omega) rfl ?_
              refine aw_iload_n dX5_readSum_86 rfl ?_
              refine aw_iconst (v := 0) dX5_readSum_87 (by decide) ?_
              obtain ⟨s8_102, r8_102, h8_102, e_102, hs_102, hr_102⟩ := JW.get j_82 (ctl_0 hx)
              refine aw_callVi (J' := jX4_add) (As := [.int (hd g n a10), .int 0]) (st := []) dX5_readSum_88 tb_415 ok_X4_add ⟨_, e_102⟩ (by omega) rfl rfl (g_X4_add l D b N V_83 hN j_82.1 x hx (hd g n a10) 0 (by decide)) rfl (Nat.le_of_ble_eq_true rfl) ⟨Nat.le_of_ble_eq_true rfl, Nat.le_of_ble_eq_true rfl, Nat.le_of_ble_eq_true rfl, Nat.le_of_ble_eq_true rfl⟩ (fun r_103 N_104 V_101 q_105 => ?_)
              obtain ⟨rfl, q_99⟩ := q_105
              have j_100 := JW.trans j_82 (JW.weak q_99 (Sub.cons (LMs (LMs LM0)) (by omega) (by omega) (by decide) (Or.inl rfl) (Sub.cons (LMs (LMs (LMs LM0))) (by omega) (by omega) (by decide) (Or.inl rfl) (Sub.cons (LMs (LMs (LMs (LMs LM0)))) (by omega) (by omega) (by decide) (Or.inr ⟨by decide, by decide⟩) Sub.nil))))
              refine aw_pop dX5_readSum_91 rfl ?_
              refine aw_goto (tgt := 10) dX5_readSum_92 (by decide) ?_
              refine aw_le ?_ (mih_10_21 _ (by omega) a_91 V_101 rfl (j_100) (((JW.fI q_99 (by omega) (nfc (by omega) (nfc (by omega) (nfc (by omega) nf0)))).trans ((JW.fI q_79 (by omega) (nfc (by omega) (nfc (by omega) (nfc (by omega) (nfc (by omega) (nfc (by omega) nf0)))))).trans (KA (s := 3) (x := .int (nI (a10 + 1))) e_22 rfl (by decide) e_78 k_78 i10_1)))) (((JW.fI q_99 (by omega) (nfc (by omega) (nfc (by omega) (nfc (by omega) nf0)))).trans hk_93)) (((JW.same q_99 (by decide) (fun k => (nfc (by omega) (nfc (by omega) (nfc (by omega) nf0))))).trans ((JW.same q_79 (by decide) (fun k => (nfc (by omega) (nfc (by omega) (nfc (by omega) (nfc (by omega) (nfc (by omega) nf0))))))).trans ((k_78 _ (by decide)).trans i10_3)))) (fun o q => i10_4 o (O_op (opr_pm (Or.inr c_71)) (hx_92 o q))) (⟨by omega, by omega⟩) (hz_95))
              exact ⟨rfl, ⟨rfl, trivial⟩⟩
    refine aw_le ?_ (ml_10_21 _ a_13 V_5 rfl (j_4) (((JW.fI q_1 (by omega) (nfc (by omega) (nfc (by omega) (nfc (by omega) (nfc (by omega) (nfc (by omega) nf0)))))).trans hE)) (hk_15) (((JW.same q_1 (by decide) (fun k => (nfc (by omega) (nfc (by omega) (nfc (by omega) (nfc (by omega) (nfc (by omega) nf0))))))).trans hg)) (hx_14) (⟨by omega, by omega⟩) (hz_17))
    exact ⟨rfl, ⟨rfl, trivial⟩⟩

set_option maxHeartbeats 4000000 in
set_option maxRecDepth 100000 in
theorem g_X5_startsLineS (l : Launch) (D : va_G) (b : Nat) (N : Nat) (V : Wd) (hN : 100 ≤ N) (hW : CW D b V) (p x : Nat) (hp : 100 ≤ p ∧ p < N) (hx : x = 57 ∨ x = 65) (hR : V p = cO 5 [.ref (b + 1), .ref (b + x)]) (n0 : Int32)  : MI l D b 0 jX5_startsLine [.ref (b + p), .int n0] N V 0 0 (fun r N9 V9 => ((r = 0 ∨ r = 1) ∧ ((stL n0 = true ∧ r = 1) ∨ (stL n0 = false ∧ r = 0))) ∧ N = N9 ∧ V = V9) := by
  have hJ0 : JW D b N [] V V := JW.rf hW
  refine mw_of (by decide) (by simp [Value.category]) (Nat.le_of_ble_eq_true rfl) ?_
  show AW l D b jX5_startsLine (fx_rm 0 0 0) none (fx_MQ D b 0 0 (fx_qi (fun r N9 V9 => ((r = 0 ∨ r = 1) ∧ ((stL n0 = true ∧ r = 1) ∨ (stL n0 = false ∧ r = 0))) ∧ N = N9 ∧ V = V9))) 0 [some (.ref (b + p)), some (.int n0)] [] N V 0 0
  refine aw_iload_n dX5_startsLine_0 rfl ?_
  refine aw_bipush (v := 101) dX5_startsLine_1 (by decide) ?_
  refine aw_icmp_eq (tgt := 24) dX5_startsLine_3 (by decide) (fun c_1 => ?_) (fun c_1 => ?_)
  · skip
    refine aw_iconst (v := 1) dX5_startsLine_24 (by decide) ?_
    refine aw_goto (tgt := 29) dX5_startsLine_25 (by decide) ?_
    refine aw_zreti dX5_startsLine_29 rfl (by first | exact Or.inl rfl | exact Or.inr rfl | assumption) (Nat.le_of_ble_eq_true rfl) (Nat.le_of_ble_eq_true rfl) ?_
    exact ⟨⟨(by first | exact Or.inl rfl | exact Or.inr rfl | assumption), Or.inl ⟨stL_t (Or.inl c_1), rfl⟩⟩, rfl, rfl⟩
  · skip
    refine aw_iload_n dX5_startsLine_6 rfl ?_
    refine aw_bipush (v := 99) dX5_startsLine_7 (by decide) ?_
    refine aw_icmp_eq (tgt := 24) dX5_startsLine_9 (by decide) (fun c_2 => ?_) (fun c_2 => ?_)
    · skip
      refine aw_iconst (v := 1) dX5_startsLine_24 (by decide) ?_
      refine aw_goto (tgt := 29) dX5_startsLine_25 (by decide) ?_
      refine aw_zreti dX5_startsLine_29 rfl (by first | exact Or.inl rfl | exact Or.inr rfl | assumption) (Nat.le_of_ble_eq_true rfl) (Nat.le_of_ble_eq_true rfl) ?_
      exact ⟨⟨(by first | exact Or.inl rfl | exact Or.inr rfl | assumption), Or.inl ⟨stL_t (Or.inr (Or.inl c_2)), rfl⟩⟩, rfl, rfl⟩
    · skip
      refine aw_iload_n dX5_startsLine_12 rfl ?_
      refine aw_bipush (v := 115) dX5_startsLine_13 (by decide) ?_
      refine aw_icmp_eq (tgt := 24) dX5_startsLine_15 (by decide) (fun c_3 => ?_) (fun c_3 => ?_)
      · skip
        refine aw_iconst (v := 1) dX5_startsLine_24 (by decide) ?_
        refine aw_goto (tgt := 29) dX5_startsLine_25 (by decide) ?_
        refine aw_zreti dX5_startsLine_29 rfl (by first | exact Or.inl rfl | exact Or.inr rfl | assumption) (Nat.le_of_ble_eq_true rfl) (Nat.le_of_ble_eq_true rfl) ?_
        exact ⟨⟨(by first | exact Or.inl rfl | exact Or.inr rfl | assumption), Or.inl ⟨stL_t (Or.inr (Or.inr (Or.inl c_3))), rfl⟩⟩, rfl, rfl⟩
      · skip
        refine aw_iload_n dX5_startsLine_18 rfl ?_
        refine aw_bipush (v := 120) dX5_startsLine_19 (by decide) ?_
        refine aw_icmp_ne (tgt := 28) dX5_startsLine_21 (by decide) (fun c_4 => ?_) (fun c_4 => ?_)
        · skip
          refine aw_iconst (v := 0) dX5_startsLine_28 (by decide) ?_
          refine aw_zreti dX5_startsLine_29 rfl (by first | exact Or.inl rfl | exact Or.inr rfl | assumption) (Nat.le_of_ble_eq_true rfl) (Nat.le_of_ble_eq_true rfl) ?_
          exact ⟨⟨(by first | exact Or.inl rfl | exact Or.inr rfl | assumption), Or.inr ⟨stL_f c_1 c_2 c_3 c_4, rfl⟩⟩, rfl, rfl⟩
        · skip
          refine aw_iconst (v := 1) dX5_startsLine_24 (by decide) ?_
          refine aw_goto (tgt := 29) dX5_startsLine_25 (by decide) ?_
          refine aw_zreti dX5_startsLine_29 rfl (by first | exact Or.inl rfl | exact Or.inr rfl | assumption) (Nat.le_of_ble_eq_true rfl) (Nat.le_of_ble_eq_true rfl) ?_
          exact ⟨⟨(by first | exact Or.inl rfl | exact Or.inr rfl | assumption), Or.inl ⟨stL_t (Or.inr (Or.inr (Or.inr c_4))), rfl⟩⟩, rfl, rfl⟩

set_option maxHeartbeats 20000000 in
set_option maxRecDepth 100000 in
theorem g_X5_readLineS (l : Launch) (D : va_G) (b : Nat) (N : Nat) (V : Wd) (hN : 100 ≤ N) (hW : CW D b V) (p x : Nat) (hp : 100 ≤ p ∧ p < N) (hx : x = 57 ∨ x = 65) (hR : V p = cO 5 [.ref (b + 1), .ref (b + x)]) (g : Nat → Int32) (hg : V 2 = cI D 260 g) (n a : Nat) (hna : a ≤ n ∧ n ≤ 240) (hE : fI (V 1) 2 = nI n) (hA : fI (V 1) 3 = nI a) (hB : BY g) (hst : stL (hd g n a) = true) : MI l D b 27 jX5_readLine [.ref (b + p)] N V 0 0 (fun r N9 V9 => ((r = 0 ∨ r = 1) ∧ ((∃ f, lnL g n a = .inl f ∧ fI (V9 1) 4 = f ∧ r = 0) ∨ (∃ a9, lnL g n a = .inr (a9, ()) ∧ fI (V9 1) 3 = nI a9 ∧ (a < a9 ∧ a9 ≤ n) ∧ r = 1))) ∧ N = N9 ∧ JW D b N [(1, 1, 3, 3), (x + 3, x + 3, 0, 1000000), (x + 4, x + 4, 0, 1000000), (x + 1, x + 1, 0, 1000000), (x + 2, x + 2, 0, 1000000), (x, x, 2, 2), (x + 5, x + 5, 0, 1000000), (1, 1, 4, 4), (x, x, 6, 6)] V V9) := by
  have hJ0 : JW D b N [(1, 1, 3, 3), (x + 3, x + 3, 0, 1000000), (x + 4, x + 4, 0, 1000000), (x + 1, x + 1, 0, 1000000), (x + 2, x + 2, 0, 1000000), (x, x, 2, 2), (x + 5, x + 5, 0, 1000000), (1, 1, 4, 4), (x, x, 6, 6)] V V := JW.rf hW
  refine mw_of (by decide) (by simp [Value.category]) (Nat.le_of_ble_eq_true rfl) ?_
  show AW l D b jX5_readLine (fx_rm 27 0 0) none (fx_MQ D b 0 0 (fx_qi (fun r N9 V9 => ((r = 0 ∨ r = 1) ∧ ((∃ f, lnL g n a = .inl f ∧ fI (V9 1) 4 = f ∧ r = 0) ∨ (∃ a9, lnL g n a = .inr (a9, ()) ∧ fI (V9 1) 3 = nI a9 ∧ (a < a9 ∧ a9 ≤ n) ∧ r = 1))) ∧ N = N9 ∧ JW D b N [(1, 1, 3, 3), (x + 3, x + 3, 0, 1000000), (x + 4, x + 4, 0, 1000000), (x + 1, x + 1, 0, 1000000), (x + 2, x + 2, 0, 1000000), (x, x, 2, 2), (x + 5, x + 5, 0, 1000000), (1, 1, 4, 4), (x, x, 6, 6)] V V9))) 0 [some (.ref (b + p)), none] [] N V 0 0
  have hlst := stL_lt hst
  refine aw_aload_n dX5_readLine_0 rfl ?_
  refine aw_get dX5_readLine_1 fl_X5_15 ((hJ0.2.1 _ hp.1 hp.2).trans hR) (by omega) rfl ?_
  obtain ⟨ts_3, tn_3, tf_3, ta_3, e_3, hta_3⟩ := JW.get hJ0 ct_1
  refine aw_callVi (J' := jX10_now) (As := []) (st := []) dX5_readLine_4 tb_390 ok_X10_now ⟨_, e_3⟩ (by omega) rfl rfl (g_X10_nowS l D b N V hN hJ0.1 g hg n a ⟨by omega, by omega⟩ hE hA) rfl (Nat.le_of_ble_eq_true rfl) ⟨Nat.le_of_ble_eq_true rfl, Nat.le_of_ble_eq_true rfl, Nat.le_of_ble_eq_true rfl, Nat.le_of_ble_eq_true rfl⟩ (fun r_4 N_5 V_6 q_7 => ?_)
  obtain ⟨h_2, rfl, rfl⟩ := q_7
  refine aw_eqi (y := (hd g n a)) h_2 ?_
  refine aw_istore_n (ls' := [some (.ref (b + p)), some (.int (hd g n a))]) dX5_readLine_7 (Nat.le_of_ble_eq_true rfl) rfl ?_
  refine aw_aload_n dX5_readLine_8 rfl ?_
  refine aw_get dX5_readLine_9 fl_X5_15 ((hJ0.2.1 _ hp.1 hp.2).trans hR) (by omega) rfl ?_
  refine aw_dup dX5_readLine_12 rfl ?_
  refine aw_get dX5_readLine_13 fl_X5_25 e_3 (by omega) rfl ?_
  refine aw_eqi (y := (nI a)) ((Eq.symm (congrArg (fun z => fI z 3) e_3)).trans hA) ?_
  refine aw_iconst (v := 1) dX5_readLine_16 (by decide) ?_
  refine aw_iadd dX5_readLine_17 ?_
  refine aw_eqi (y := nI (a + 1)) (nI_add _ _) ?_
  refine aw_put dX5_readLine_18 fp_X5_25 e_3 (by omega) rfl rfl (Nat.le_of_ble_eq_true rfl) rfl ?_
  refine aw_up hJ0 ct_1 ⟨_, _, _, (a + 1), rfl, (by first | omega | (split <;> omega))⟩ (WO (s := 3) (x := .int (nI (a + 1))) e_3 rfl LM0 (by decide) (by decide) (by decide) (Or.inl (by decide))) (fun V_8 j_8 k_8 e_8 => ?_)
  refine aw_aload_n dX5_readLine_21 rfl ?_
  refine aw_get dX5_readLine_22 fl_X5_9 ((j_8.2.1 _ hp.1 hp.2).trans hR) (by omega) rfl ?_
  refine aw_iload_n dX5_readLine_25 rfl ?_
  obtain ⟨s8_12, r8_12, h8_12, e_12, hs_12, hr_12⟩ := JW.get j_8 (ctl_0 hx)
  refine aw_callVv (J' := jX4_startRule) (As := [.int (hd g n a)]) (st := []) dX5_readLine_26 tb_391 ok_X4_startRule ⟨_, e_12⟩ (by omega) rfl rfl (g_X4_startRule l D b N V_8 hN j_8.1 x hx (hd g n a)) rfl (Nat.le_of_ble_eq_true rfl) ⟨Nat.le_of_ble_eq_true rfl, Nat.le_of_ble_eq_true rfl, Nat.le_of_ble_eq_true rfl, Nat.le_of_ble_eq_true rfl⟩ (fun  N_13 V_11 q_14 => ?_)
  obtain ⟨rfl, q_9⟩ := q_14
  have j_10 := JW.trans j_8 (JW.weak q_9 (Sub.cons (LMs LM0) (by omega) (by omega) (by decide) (Or.inl rfl) (Sub.cons (LMs (LMs LM0)) (by omega) (by omega) (by decide) (Or.inl rfl) Sub.nil)))
  refine aw_iload_n dX5_readLine_29 rfl ?_
  refine aw_bipush (v := 120) dX5_readLine_30 (by decide) ?_
  refine aw_icmp_eq (tgt := 45) dX5_readLine_32 (by decide) (fun c_15 => ?_) (fun c_15 => ?_)
  · skip
    refine aw_aload_n dX5_readLine_45 rfl ?_
    refine aw_get dX5_readLine_46 fl_X5_9 ((j_10.2.1 _ hp.1 hp.2).trans hR) (by omega) rfl ?_
    refine aw_bipush (v := 46) dX5_readLine_49 (by decide) ?_
    refine aw_iconst (v := 0) dX5_readLine_51 (by decide) ?_
    obtain ⟨s8_19, r8_19, h8_19, e_19, hs_19, hr_19⟩ := JW.get j_10 (ctl_0 hx)
    refine aw_callVi (J' := jX4_add) (As := [.int 46, .int 0]) (st := []) dX5_readLine_52 tb_415 ok_X4_add ⟨_, e_19⟩ (by omega) rfl rfl (g_X4_add l D b N V_11 hN j_10.1 x hx 46 0 (by decide)) rfl (Nat.le_of_ble_eq_true rfl) ⟨Nat.le_of_ble_eq_true rfl, Nat.le_of_ble_eq_true rfl, Nat.le_of_ble_eq_true rfl, Nat.le_of_ble_eq_true rfl⟩ (fun r_20 N_21 V_18 q_22 => ?_)
    obtain ⟨rfl, q_16⟩ := q_22
    have j_17 := JW.trans j_10 (JW.weak q_16 (Sub.cons (LMs (LMs (LMs LM0))) (by omega) (by omega) (by decide) (Or.inl rfl) (Sub.cons (LMs (LMs (LMs (LMs LM0)))) (by omega) (by omega) (by decide) (Or.inl rfl) (Sub.cons (LMs (LMs (LMs (LMs (LMs LM0))))) (by omega) (by omega) (by decide) (Or.inr ⟨by decide, by decide⟩) Sub.nil))))
    refine aw_pop dX5_readLine_55 rfl ?_
    refine aw_aload_n dX5_readLine_56 rfl ?_
    refine aw_get dX5_readLine_57 fl_X5_9 ((j_17.2.1 _ hp.1 hp.2).trans hR) (by omega) rfl ?_
    obtain ⟨s8_26, r8_26, h8_26, e_26, hs_26, hr_26⟩ := JW.get j_17 (ctl_0 hx)
    refine aw_callVv (J' := jX4_startCondition) (As := []) (st := []) dX5_readLine_60 tb_497 ok_X4_startCondition ⟨_, e_26⟩ (by omega) rfl rfl (g_X4_startCondition l D b N V_18 hN j_17.1 x hx) rfl (Nat.le_of_ble_eq_true rfl) ⟨Nat.le_of_ble_eq_true rfl, Nat.le_of_ble_eq_true rfl, Nat.le_of_ble_eq_true rfl, Nat.le_of_ble_eq_true rfl⟩ (fun  N_27 V_25 q_28 => ?_)
    obtain ⟨rfl, q_23⟩ := q_28
    have j_24 := JW.trans j_17 (JW.weak q_23 (Sub.cons (LMs (LMs (LMs (LMs (LMs (LMs LM0)))))) (by omega) (by omega) (by decide) (Or.inl rfl) Sub.nil))
    refine aw_aload_n dX5_readLine_63 rfl ?_
    refine aw_get dX5_readLine_64 fl_X5_15 ((j_24.2.1 _ hp.1 hp.2).trans hR) (by omega) rfl ?_
    refine aw_bipush (v := 40) dX5_readLine_67 (by decide) ?_
    refine aw_callVi (J' := jX10_expect) (As := [.int 40]) (st := []) dX5_readLine_69 tb_412 ok_X10_expect ⟨_, ((JW.same q_23 (by decide) (fun k => (nfc (by omega) nf0))).trans ((JW.same q_16 (by decide) (fun k => (nfc (by omega) (nfc (by omega) (nfc (by omega) nf0))))).trans ((JW.same q_9 (by decide) (fun k => (nfc (by omega) (nfc (by omega) nf0)))).trans e_8)))⟩ (by omega) rfl rfl (g_X10_expectS l D b N V_25 hN j_24.1 40 g ((JW.same q_23 (by decide) (fun k => (nfc (by omega) nf0))).trans ((JW.same q_16 (by decide) (fun k => (nfc (by omega) (nfc (by omega) (nfc (by omega) nf0))))).trans ((JW.same q_9 (by decide) (fun k => (nfc (by omega) (nfc (by omega) nf0)))).trans ((k_8 _ (by decide)).trans hg)))) n (a + 1) ⟨by omega, by omega⟩ ((JW.fI q_23 (by omega) (nfc (by omega) nf0)).trans ((JW.fI q_16 (by omega) (nfc (by omega) (nfc (by omega) (nfc (by omega) nf0)))).trans ((JW.fI q_9 (by omega) (nfc (by omega) (nfc (by omega) nf0))).trans (KA (s := 3) (x := .int (nI (a + 1))) e_3 rfl (by decide) e_8 k_8 hE)))) ((JW.fI q_23 (by omega) (nfc (by omega) nf0)).trans ((JW.fI q_16 (by omega) (nfc (by omega) (nfc (by omega) (nfc (by omega) nf0)))).trans ((JW.fI q_9 (by omega) (nfc (by omega) (nfc (by omega) nf0))).trans ((congrArg (fun z => fI z 3) e_8).trans rfl))))) rfl (Nat.le_of_ble_eq_true rfl) ⟨Nat.le_of_ble_eq_true rfl, Nat.le_of_ble_eq_true rfl, Nat.le_of_ble_eq_true rfl, Nat.le_of_ble_eq_true rfl⟩ (fun r_34 N_35 V_33 q_36 => ?_)
    obtain ⟨⟨z_31, h_30⟩, rfl, q_29⟩ := q_36
    have j_32 := JW.trans j_24 (JW.weak q_29 (Sub.cons LM0 (by decide) (by decide) (by decide) (Or.inr ⟨by decide, by decide⟩) (Sub.cons (LMs (LMs (LMs (LMs (LMs (LMs (LMs LM0))))))) (by decide) (by decide) (by decide) (Or.inr ⟨by decide, by decide⟩) Sub.nil)))
    rcases h_30 with ⟨hy_37, hk_38, e_39⟩ | ⟨hn_40, hk_41, e_42⟩
    · skip
      refine aw_eqi (y := 1) e_39 ?_
      have hlhy_37 := hd_lit hy_37 (by decide)
      refine aw_if_eq (tgt := 95) dX5_readLine_72 (by decide) (fun c_43 => ?_) (fun c_43 => ?_)
      · exact absurd c_43 (by decide)
      refine aw_aload_n dX5_readLine_75 rfl ?_
      refine aw_iconst (v := 1) dX5_readLine_76 (by decide) ?_
      refine aw_callVi (J' := jX5_readAnyOf) (As := [.int 1]) (st := []) dX5_readLine_77 tb_501 ok_X5_readAnyOf ⟨_, ((j_32.2.1 _ hp.1 hp.2).trans hR)⟩ (by omega) rfl rfl (g_X5_readAnyOf_1S l D b N V_33 hN j_32.1 p x ⟨by omega, by omega⟩ hx ((j_32.2.1 _ hp.1 hp.2).trans hR) g ((JW.same q_29 (by decide) (fun k => (nfc (by omega) (nfc (by omega) nf0)))).trans ((JW.same q_23 (by decide) (fun k => (nfc (by omega) nf0))).trans ((JW.same q_16 (by decide) (fun k => (nfc (by omega) (nfc (by omega) (nfc (by omega) nf0))))).trans ((JW.same q_9 (by decide) (fun k => (nfc (by omega) (nfc (by omega) nf0)))).trans ((k_8 _ (by decide)).trans hg))))) n ((a + 1) + 1) ⟨by omega, by omega⟩ ((JW.fI q_29 (by omega) (nfc (by omega) (nfc (by omega) nf0))).trans ((JW.fI q_23 (by omega) (nfc (by omega) nf0)).trans ((JW.fI q_16 (by omega) (nfc (by omega) (nfc (by omega) (nfc (by omega) nf0)))).trans ((JW.fI q_9 (by omega) (nfc (by omega) (nfc (by omega) nf0))).trans (KA (s := 3) (x := .int (nI (a + 1))) e_3 rfl (by decide) e_8 k_8 hE))))) hk_38 hB [] rfl) rfl (Nat.le_of_ble_eq_true rfl) ⟨Nat.le_of_ble_eq_true rfl, Nat.le_of_ble_eq_true rfl, Nat.le_of_ble_eq_true rfl, Nat.le_of_ble_eq_true rfl⟩ (fun r_49 N_50 V_48 q_51 => ?_)
      obtain ⟨⟨z_46, h_45⟩, rfl, q_44⟩ := q_51
      have j_47 := JW.trans j_32 (JW.weak q_44 (Sub.cons LM0 (by decide) (by decide) (by decide) (Or.inr ⟨by decide, by decide⟩) (Sub.cons (LMs (LMs (LMs (LMs (LMs (LMs (LMs LM0))))))) (by decide) (by decide) (by decide) (Or.inr ⟨by decide, by decide⟩) (Sub.cons (LMs (LMs (LMs LM0))) (by omega) (by omega) (by decide) (Or.inl rfl) (Sub.cons (LMs (LMs (LMs (LMs LM0)))) (by omega) (by omega) (by decide) (Or.inl rfl) (Sub.cons (LMs (LMs (LMs (LMs (LMs LM0))))) (by omega) (by omega) (by decide) (Or.inr ⟨by decide, by decide⟩) Sub.nil))))))
      rcases h_45 with ⟨f_52, hx_53, hk_54, e_55⟩ | ⟨a_56, hx_57, hk_58, hb_59, hz_60, e_61⟩
      · skip
        refine aw_eqi (y := 0) e_55 ?_
        refine aw_if_eq (tgt := 95) dX5_readLine_80 (by decide) (fun c_62 => ?_) (fun c_62 => ?_)
        rotate_left
        · exact absurd (by decide) c_62
        refine aw_iconst (v := 0) dX5_readLine_95 (by decide) ?_
        refine aw_zreti dX5_readLine_96 rfl (by first | exact Or.inl rfl | exact Or.inr rfl | assumption) (Nat.le_of_ble_eq_true rfl) (Nat.le_of_ble_eq_true rfl) ?_
        exact ⟨⟨(by first | exact Or.inl rfl | exact Or.inr rfl | assumption), Or.inl ⟨_, lnL_of (by rw [(sta_x c_15)]; exact Q_par hy_37 hx_53), hk_54, rfl⟩⟩, rfl, j_47⟩
      · skip
        refine aw_eqi (y := 1) e_61 ?_
        obtain ⟨hb_59a, hb_59b⟩ := hb_59
        refine aw_if_eq (tgt := 95) dX5_readLine_80 (by decide) (fun c_63 => ?_) (fun c_63 => ?_)
        · exact absurd c_63 (by decide)
        refine aw_aload_n dX5_readLine_83 rfl ?_
        refine aw_get dX5_readLine_84 fl_X5_15 ((j_47.2.1 _ hp.1 hp.2).trans hR) (by omega) rfl ?_
        refine aw_bipush (v := 41) dX5_readLine_87 (by decide) ?_
        obtain ⟨ts_69, tn_69, tf_69, ta_69, e_69, hta_69⟩ := JW.get j_47 ct_1
        refine aw_callVi (J' := jX10_expect) (As := [.int 41]) (st := []) dX5_readLine_89 tb_412 ok_X10_expect ⟨_, e_69⟩ (by omega) rfl rfl (g_X10_expectS l D b N V_48 hN j_47.1 41 g ((JW.same q_44 (by decide) (fun k => (nfc (by omega) (nfc (by omega) (nfc (by omega) (nfc (by omega) (nfc (by omega) nf0))))))).trans ((JW.same q_29 (by decide) (fun k => (nfc (by omega) (nfc (by omega) nf0)))).trans ((JW.same q_23 (by decide) (fun k => (nfc (by omega) nf0))).trans ((JW.same q_16 (by decide) (fun k => (nfc (by omega) (nfc (by omega) (nfc (by omega) nf0))))).trans ((JW.same q_9 (by decide) (fun k => (nfc (by omega) (nfc (by omega) nf0)))).trans ((k_8 _ (by decide)).trans hg)))))) n a_56 ⟨by omega, by omega⟩ ((JW.fI q_44 (by omega) (nfc (by omega) (nfc (by omega) (nfc (by omega) (nfc (by omega) (nfc (by omega) nf0)))))).trans ((JW.fI q_29 (by omega) (nfc (by omega) (nfc (by omega) nf0))).trans ((JW.fI q_23 (by omega) (nfc (by omega) nf0)).trans ((JW.fI q_16 (by omega) (nfc (by omega) (nfc (by omega) (nfc (by omega) nf0)))).trans ((JW.fI q_9 (by omega) (nfc (by omega) (nfc (by omega) nf0))).trans (KA (s := 3) (x := .int (nI (a + 1))) e_3 rfl (by decide) e_8 k_8 hE)))))) hk_58) rfl (Nat.le_of_ble_eq_true rfl) ⟨Nat.le_of_ble_eq_true rfl, Nat.le_of_ble_eq_true rfl, Nat.le_of_ble_eq_true rfl, Nat.le_of_ble_eq_true rfl⟩ (fun r_70 N_71 V_68 q_72 => ?_)
        obtain ⟨⟨z_66, h_65⟩, rfl, q_64⟩ := q_72
        have j_67 := JW.trans j_47 (JW.weak q_64 (Sub.cons LM0 (by decide) (by decide) (by decide) (Or.inr ⟨by decide, by decide⟩) (Sub.cons (LMs (LMs (LMs (LMs (LMs (LMs (LMs LM0))))))) (by decide) (by decide) (by decide) (Or.inr ⟨by decide, by decide⟩) Sub.nil)))
        rcases h_65 with ⟨hy_73, hk_74, e_75⟩ | ⟨hn_76, hk_77, e_78⟩
        · skip
          refine aw_eqi (y := 1) e_75 ?_
          have hlhy_73 := hd_lit hy_73 (by decide)
          refine aw_if_ne (tgt := 97) dX5_readLine_92 (by decide) (fun c_79 => ?_) (fun c_79 => ?_)
          rotate_left
          · exact absurd c_79 (by decide)
          refine aw_aload_n dX5_readLine_97 rfl ?_
          refine aw_get dX5_readLine_98 fl_X5_9 ((j_67.2.1 _ hp.1 hp.2).trans hR) (by omega) rfl ?_
          refine aw_bipush (v := 46) dX5_readLine_101 (by decide) ?_
          refine aw_iconst (v := 0) dX5_readLine_103 (by decide) ?_
          obtain ⟨s8_83, r8_83, h8_83, e_83, hs_83, hr_83⟩ := JW.get j_67 (ctl_0 hx)
          refine aw_callVi (J' := jX4_add) (As := [.int 46, .int 0]) (st := []) dX5_readLine_104 tb_415 ok_X4_add ⟨_, e_83⟩ (by omega) rfl rfl (g_X4_add l D b N V_68 hN j_67.1 x hx 46 0 (by decide)) rfl (Nat.le_of_ble_eq_true rfl) ⟨Nat.le_of_ble_eq_true rfl, Nat.le_of_ble_eq_true rfl, Nat.le_of_ble_eq_true rfl, Nat.le_of_ble_eq_true rfl⟩ (fun r_84 N_85 V_82 q_86 => ?_)
          obtain ⟨rfl, q_80⟩ := q_86
          have j_81 := JW.trans j_67 (JW.weak q_80 (Sub.cons (LMs (LMs (LMs LM0))) (by omega) (by omega) (by decide) (Or.inl rfl) (Sub.cons (LMs (LMs (LMs (LMs LM0)))) (by omega) (by omega) (by decide) (Or.inl rfl) (Sub.cons (LMs (LMs (LMs (LMs (LMs LM0))))) (by omega) (by omega) (by decide) (Or.inr ⟨by decide, by decide⟩) Sub.nil))))
          refine aw_pop dX5_readLine_107 rfl ?_
          refine aw_aload_n dX5_readLine_108 rfl ?_
          refine aw_get dX5_readLine_109 fl_X5_9 ((j_81.2.1 _ hp.1 hp.2).trans hR) (by omega) rfl ?_
          obtain ⟨s8_90, r8_90, h8_90, e_90, hs_90, hr_90⟩ := JW.get j_81 (ctl_0 hx)
          refine aw_callVv (J' := jX4_endRule) (As := []) (st := []) dX5_readLine_112 tb_525 ok_X4_endRule ⟨_, e_90⟩ (by omega) rfl rfl (g_X4_endRule l D b N V_82 hN j_81.1 x hx) rfl (Nat.le_of_ble_eq_true rfl) ⟨Nat.le_of_ble_eq_true rfl, Nat.le_of_ble_eq_true rfl, Nat.le_of_ble_eq_true rfl, Nat.le_of_ble_eq_true rfl⟩ (fun  N_91 V_89 q_92 => ?_)
          obtain ⟨rfl, q_87⟩ := q_92
          have j_88 := JW.trans j_81 (JW.weak q_87 (Sub.cons (LMs (LMs (LMs (LMs (LMs (LMs (LMs (LMs LM0)))))))) (by omega) (by omega) (by decide) (Or.inr ⟨by decide, by decide⟩) Sub.nil))
          refine aw_iconst (v := 1) dX5_readLine_115 (by decide) ?_
          refine aw_zreti dX5_readLine_116 rfl (by first | exact Or.inl rfl | exact Or.inr rfl | assumption) (Nat.le_of_ble_eq_true rfl) (Nat.le_of_ble_eq_true rfl) ?_
          exact ⟨⟨(by first | exact Or.inl rfl | exact Or.inr rfl | assumption), Or.inr ⟨_, lnL_of (by rw [(sta_x c_15)]; exact Q_par hy_37 (hx_57 _ (A_end (n38 hz_60.1 hz_60.2) hy_73))), ((JW.fI q_87 (by omega) (nfc (by omega) nf0)).trans ((JW.fI q_80 (by omega) (nfc (by omega) (nfc (by omega) (nfc (by omega) nf0)))).trans hk_74)), ⟨by omega, by omega⟩, rfl⟩⟩, rfl, j_88⟩
        · skip
          refine aw_eqi (y := 0) e_78 ?_
          refine aw_if_ne (tgt := 97) dX5_readLine_92 (by decide) (fun c_93 => ?_) (fun c_93 => ?_)
          · exact absurd rfl c_93
          refine aw_iconst (v := 0) dX5_readLine_95 (by decide) ?_
          refine aw_zreti dX5_readLine_96 rfl (by first | exact Or.inl rfl | exact Or.inr rfl | assumption) (Nat.le_of_ble_eq_true rfl) (Nat.le_of_ble_eq_true rfl) ?_
          exact ⟨⟨(by first | exact Or.inl rfl | exact Or.inr rfl | assumption), Or.inl ⟨_, lnL_of (by rw [(sta_x c_15)]; exact Q_par hy_37 (hx_57 _ (A_no (n38 hz_60.1 hz_60.2) hn_76))), hk_77, rfl⟩⟩, rfl, j_67⟩
    · skip
      refine aw_eqi (y := 0) e_42 ?_
      refine aw_if_eq (tgt := 95) dX5_readLine_72 (by decide) (fun c_94 => ?_) (fun c_94 => ?_)
      rotate_left
      · exact absurd (by decide) c_94
      refine aw_iconst (v := 0) dX5_readLine_95 (by decide) ?_
      refine aw_zreti dX5_readLine_96 rfl (by first | exact Or.inl rfl | exact Or.inr rfl | assumption) (Nat.le_of_ble_eq_true rfl) (Nat.le_of_ble_eq_true rfl) ?_
      exact ⟨⟨(by first | exact Or.inl rfl | exact Or.inr rfl | assumption), Or.inl ⟨_, lnL_of (by rw [(sta_x c_15)]; exact Q_no hn_40), hk_41, rfl⟩⟩, rfl, j_32⟩
  · skip
    refine aw_aload_n dX5_readLine_35 rfl ?_
    refine aw_iconst (v := 0) dX5_readLine_36 (by decide) ?_
    refine aw_callVi (J' := jX5_readSum) (As := [.int 0]) (st := []) dX5_readLine_37 tb_395 ok_X5_readSum ⟨_, ((j_10.2.1 _ hp.1 hp.2).trans hR)⟩ (by omega) rfl rfl (g_X5_readSum_0S l D b N V_11 hN j_10.1 p x ⟨by omega, by omega⟩ hx ((j_10.2.1 _ hp.1 hp.2).trans hR) g ((JW.same q_9 (by decide) (fun k => (nfc (by omega) (nfc (by omega) nf0)))).trans ((k_8 _ (by decide)).trans hg)) n (a + 1) ⟨by omega, by omega⟩ ((JW.fI q_9 (by omega) (nfc (by omega) (nfc (by omega) nf0))).trans (KA (s := 3) (x := .int (nI (a + 1))) e_3 rfl (by decide) e_8 k_8 hE)) ((JW.fI q_9 (by omega) (nfc (by omega) (nfc (by omega) nf0))).trans ((congrArg (fun z => fI z 3) e_8).trans rfl)) hB [0] rfl) rfl (Nat.le_of_ble_eq_true rfl) ⟨Nat.le_of_ble_eq_true rfl, Nat.le_of_ble_eq_true rfl, Nat.le_of_ble_eq_true rfl, Nat.le_of_ble_eq_true rfl⟩ (fun r_100 N_101 V_99 q_102 => ?_)
    obtain ⟨⟨z_97, h_96⟩, rfl, q_95⟩ := q_102
    have j_98 := JW.trans j_10 (JW.weak q_95 (Sub.cons LM0 (by decide) (by decide) (by decide) (Or.inr ⟨by decide, by decide⟩) (Sub.cons (LMs (LMs (LMs (LMs (LMs (LMs (LMs LM0))))))) (by decide) (by decide) (by decide) (Or.inr ⟨by decide, by decide⟩) (Sub.cons (LMs (LMs (LMs LM0))) (by omega) (by omega) (by decide) (Or.inl rfl) (Sub.cons (LMs (LMs (LMs (LMs LM0)))) (by omega) (by omega) (by decide) (Or.inl rfl) (Sub.cons (LMs (LMs (LMs (LMs (LMs LM0))))) (by omega) (by omega) (by decide) (Or.inr ⟨by decide, by decide⟩) Sub.nil))))))
    rcases h_96 with ⟨f_103, hx_104, hk_105, e_106⟩ | ⟨a_107, hx_108, hk_109, hb_110, hz_111, e_112⟩
    · skip
      refine aw_eqi (y := 0) e_106 ?_
      refine aw_if_ne (tgt := 45) dX5_readLine_40 (by decide) (fun c_113 => ?_) (fun c_113 => ?_)
      · exact absurd rfl c_113
      refine aw_iconst (v := 0) dX5_readLine_43 (by decide) ?_
      refine aw_zreti dX5_readLine_44 rfl (by first | exact Or.inl rfl | exact Or.inr rfl | assumption) (Nat.le_of_ble_eq_true rfl) (Nat.le_of_ble_eq_true rfl) ?_
      exact ⟨⟨(by first | exact Or.inl rfl | exact Or.inr rfl | assumption), Or.inl ⟨_, lnL_of (by rw [(sta_n c_15)]; exact hx_104), hk_105, rfl⟩⟩, rfl, j_98⟩
    · skip
      refine aw_eqi (y := 1) e_112 ?_
      obtain ⟨hb_110a, hb_110b⟩ := hb_110
      refine aw_if_ne (tgt := 45) dX5_readLine_40 (by decide) (fun c_114 => ?_) (fun c_114 => ?_)
      rotate_left
      · exact absurd c_114 (by decide)
      refine aw_aload_n dX5_readLine_45 rfl ?_
      refine aw_get dX5_readLine_46 fl_X5_9 ((j_98.2.1 _ hp.1 hp.2).trans hR) (by omega) rfl ?_
      refine aw_bipush (v := 46) dX5_readLine_49 (by decide) ?_
      refine aw_iconst (v := 0) dX5_readLine_51 (by decide) ?_
      obtain ⟨s8_118, r8_118, h8_118, e_118, hs_118, hr_118⟩ := JW.get j_98 (ctl_0 hx)
      refine aw_callVi (J' := jX4_add) (As := [.int 46, .int 0]) (st := []) dX5_readLine_52 tb_415 ok_X4_add ⟨_, e_118⟩ (by omega) rfl rfl (g_X4_add l D b N V_99 hN j_98.1 x hx 46 0 (by decide)) rfl (Nat.le_of_ble_eq_true rfl) ⟨Nat.le_of_ble_eq_true rfl, Nat.le_of_ble_eq_true rfl, Nat.le_of_ble_eq_true rfl, Nat.le_of_ble_eq_true rfl⟩ (fun r_119 N_120 V_117 q_121 => ?_)
      obtain ⟨rfl, q_115⟩ := q_121
      have j_116 := JW.trans j_98 (JW.weak q_115 (Sub.cons (LMs (LMs (LMs LM0))) (by omega) (by omega) (by decide) (Or.inl rfl) (Sub.cons (LMs (LMs (LMs (LMs LM0)))) (by omega) (by omega) (by decide) (Or.inl rfl) (Sub.cons (LMs (LMs (LMs (LMs (LMs LM0))))) (by omega) (by omega) (by decide) (Or.inr ⟨by decide, by decide⟩) Sub.nil))))
      refine aw_pop dX5_readLine_55 rfl ?_
      refine aw_aload_n dX5_readLine_56 rfl ?_
      refine aw_get dX5_readLine_57 fl_X5_9 ((j_116.2.1 _ hp.1 hp.2).trans hR) (by omega) rfl ?_
      obtain ⟨s8_125, r8_125, h8_125, e_125, hs_125, hr_125⟩ := JW.get j_116 (ctl_0 hx)
      refine aw_callVv (J' := jX4_startCondition) (As := []) (st := []) dX5_readLine_60 tb_497 ok_X4_startCondition ⟨_, e_125⟩ (by omega) rfl rfl (g_X4_startCondition l D b N V_117 hN j_116.1 x hx) rfl (Nat.le_of_ble_eq_true rfl) ⟨Nat.le_of_ble_eq_true rfl, Nat.le_of_ble_eq_true rfl, Nat.le_of_ble_eq_true rfl, Nat.le_of_ble_eq_true rfl⟩ (fun  N_126 V_124 q_127 => ?_)
      obtain ⟨rfl, q_122⟩ := q_127
      have j_123 := JW.trans j_116 (JW.weak q_122 (Sub.cons (LMs (LMs (LMs (LMs (LMs (LMs LM0)))))) (by omega) (by omega) (by decide) (Or.inl rfl) Sub.nil))
      refine aw_aload_n dX5_readLine_63 rfl ?_
      refine aw_get dX5_readLine_64 fl_X5_15 ((j_123.2.1 _ hp.1 hp.2).trans hR) (by omega) rfl ?_
      refine aw_bipush (v := 40) dX5_readLine_67 (by decide) ?_
      obtain ⟨ts_133, tn_133, tf_133, ta_133, e_133, hta_133⟩ := JW.get j_123 ct_1
      refine aw_callVi (J' := jX10_expect) (As := [.int 40]) (st := []) dX5_readLine_69 tb_412 ok_X10_expect ⟨_, e_133⟩ (by omega) rfl rfl (g_X10_expectS l D b N V_124 hN j_123.1 40 g ((JW.same q_122 (by decide) (fun k => (nfc (by omega) nf0))).trans ((JW.same q_115 (by decide) (fun k => (nfc (by omega) (nfc (by omega) (nfc (by omega) nf0))))).trans ((JW.same q_95 (by decide) (fun k => (nfc (by omega) (nfc (by omega) (nfc (by omega) (nfc (by omega) (nfc (by omega) nf0))))))).trans ((JW.same q_9 (by decide) (fun k => (nfc (by omega) (nfc (by omega) nf0)))).trans ((k_8 _ (by decide)).trans hg))))) n a_107 ⟨by omega, by omega⟩ ((JW.fI q_122 (by omega) (nfc (by omega) nf0)).trans ((JW.fI q_115 (by omega) (nfc (by omega) (nfc (by omega) (nfc (by omega) nf0)))).trans ((JW.fI q_95 (by omega) (nfc (by omega) (nfc (by omega) (nfc (by omega) (nfc (by omega) (nfc (by omega) nf0)))))).trans ((JW.fI q_9 (by omega) (nfc (by omega) (nfc (by omega) nf0))).trans (KA (s := 3) (x := .int (nI (a + 1))) e_3 rfl (by decide) e_8 k_8 hE))))) ((JW.fI q_122 (by omega) (nfc (by omega) nf0)).trans ((JW.fI q_115 (by omega) (nfc (by omega) (nfc (by omega) (nfc (by omega) nf0)))).trans hk_109))) rfl (Nat.le_of_ble_eq_true rfl) ⟨Nat.le_of_ble_eq_true rfl, Nat.le_of_ble_eq_true rfl, Nat.le_of_ble_eq_true rfl, Nat.le_of_ble_eq_true rfl⟩ (fun r_134 N_135 V_132 q_136 => ?_)
      obtain ⟨⟨z_130, h_129⟩, rfl, q_128⟩ := q_136
      have j_131 := JW.trans j_123 (JW.weak q_128 (Sub.cons LM0 (by decide) (by decide) (by decide) (Or.inr ⟨by decide, by decide⟩) (Sub.cons (LMs (LMs (LMs (LMs (LMs (LMs (LMs LM0))))))) (by decide) (by decide) (by decide) (Or.inr ⟨by decide, by decide⟩) Sub.nil)))
      rcases h_129 with ⟨hy_137, hk_138, e_139⟩ | ⟨hn_140, hk_141, e_142⟩
      · skip
        refine aw_eqi (y := 1) e_139 ?_
        have hlhy_137 := hd_lit hy_137 (by decide)
        refine aw_if_eq (tgt := 95) dX5_readLine_72 (by decide) (fun c_143 => ?_) (fun c_143 => ?_)
        · exact absurd c_143 (by decide)
        refine aw_aload_n dX5_readLine_75 rfl ?_
        refine aw_iconst (v := 1) dX5_readLine_76 (by decide) ?_
        refine aw_callVi (J' := jX5_readAnyOf) (As := [.int 1]) (st := []) dX5_readLine_77 tb_501 ok_X5_readAnyOf ⟨_, ((j_131.2.1 _ hp.1 hp.2).trans hR)⟩ (by omega) rfl rfl (g_X5_readAnyOf_1S l D b N V_132 hN j_131.1 p x ⟨by omega, by omega⟩ hx ((j_131.2.1 _ hp.1 hp.2).trans hR) g ((JW.same q_128 (by decide) (fun k => (nfc (by omega) (nfc (by omega) nf0)))).trans ((JW.same q_122 (by decide) (fun k => (nfc (by omega) nf0))).trans ((JW.same q_115 (by decide) (fun k => (nfc (by omega) (nfc (by omega) (nfc (by omega) nf0))))).trans ((JW.same q_95 (by decide) (fun k => (nfc (by omega) (nfc (by omega) (nfc (by omega) (nfc (by omega) (nfc (by omega) nf0))))))).trans ((JW.same q_9 (by decide) (fun k => (nfc (by omega) (nfc (by omega) nf0)))).trans ((k_8 _ (by decide)).trans hg)))))) n (a_107 + 1) ⟨by omega, by omega⟩ ((JW.fI q_128 (by omega) (nfc (by omega) (nfc (by omega) nf0))).trans ((JW.fI q_122 (by omega) (nfc (by omega) nf0)).trans ((JW.fI q_115 (by omega) (nfc (by omega) (nfc (by omega) (nfc (by omega) nf0)))).trans ((JW.fI q_95 (by omega) (nfc (by omega) (nfc (by omega) (nfc (by omega) (nfc (by omega) (nfc (by omega) nf0)))))).trans ((JW.fI q_9 (by omega) (nfc (by omega) (nfc (by omega) nf0))).trans (KA (s := 3) (x := .int (nI (a + 1))) e_3 rfl (by decide) e_8 k_8 hE)))))) hk_138 hB [] rfl) rfl (Nat.le_of_ble_eq_true rfl) ⟨Nat.le_of_ble_eq_true rfl, Nat.le_of_ble_eq_true rfl, Nat.le_of_ble_eq_true rfl, Nat.le_of_ble_eq_true rfl⟩ (fun r_149 N_150 V_148 q_151 => ?_)
        obtain ⟨⟨z_146, h_145⟩, rfl, q_144⟩ := q_151
        have j_147 := JW.trans j_131 (JW.weak q_144 (Sub.cons LM0 (by decide) (by decide) (by decide) (Or.inr ⟨by decide, by decide⟩) (Sub.cons (LMs (LMs (LMs (LMs (LMs (LMs (LMs LM0))))))) (by decide) (by decide) (by decide) (Or.inr ⟨by decide, by decide⟩) (Sub.cons (LMs (LMs (LMs LM0))) (by omega) (by omega) (by decide) (Or.inl rfl) (Sub.cons (LMs (LMs (LMs (LMs LM0)))) (by omega) (by omega) (by decide) (Or.inl rfl) (Sub.cons (LMs (LMs (LMs (LMs (LMs LM0))))) (by omega) (by omega) (by decide) (Or.inr ⟨by decide, by decide⟩) Sub.nil))))))
        rcases h_145 with ⟨f_152, hx_153, hk_154, e_155⟩ | ⟨a_156, hx_157, hk_158, hb_159, hz_160, e_161⟩
        · skip
          refine aw_eqi (y := 0) e_155 ?_
          refine aw_if_eq (tgt := 95) dX5_readLine_80 (by decide) (fun c_162 => ?_) (fun c_162 => ?_)
          rotate_left
          · exact absurd (by decide) c_162
          refine aw_iconst (v := 0) dX5_readLine_95 (by decide) ?_
          refine aw_zreti dX5_readLine_96 rfl (by first | exact Or.inl rfl | exact Or.inr rfl | assumption) (Nat.le_of_ble_eq_true rfl) (Nat.le_of_ble_eq_true rfl) ?_
          exact ⟨⟨(by first | exact Or.inl rfl | exact Or.inr rfl | assumption), Or.inl ⟨_, lnL_of (by rw [(sta_n c_15)]; exact hx_108 _ (O_e hz_111 (Q_par hy_137 hx_153))), hk_154, rfl⟩⟩, rfl, j_147⟩
        · skip
          refine aw_eqi (y := 1) e_161 ?_
          obtain ⟨hb_159a, hb_159b⟩ := hb_159
          refine aw_if_eq (tgt := 95) dX5_readLine_80 (by decide) (fun c_163 => ?_) (fun c_163 => ?_)
          · exact absurd c_163 (by decide)
          refine aw_aload_n dX5_readLine_83 rfl ?_
          refine aw_get dX5_readLine_84 fl_X5_15 ((j_147.2.1 _ hp.1 hp.2).trans hR) (by omega) rfl ?_
          refine aw_bipush (v := 41) dX5_readLine_87 (by decide) ?_
          obtain ⟨ts_169, tn_169, tf_169, ta_169, e_169, hta_169⟩ := JW.get j_147 ct_1
          refine aw_callVi (J' := jX10_expect) (As := [.int 41]) (st := []) dX5_readLine_89 tb_412 ok_X10_expect ⟨_, e_169⟩ (by omega) rfl rfl (g_X10_expectS l D b N V_148 hN j_147.1 41 g ((JW.same q_144 (by decide) (fun k => (nfc (by omega) (nfc (by omega) (nfc (by omega) (nfc (by omega) (nfc (by omega) nf0))))))).trans ((JW.same q_128 (by decide) (fun k => (nfc (by omega) (nfc (by omega) nf0)))).trans ((JW.same q_122 (by decide) (fun k => (nfc (by omega) nf0))).trans ((JW.same q_115 (by decide) (fun k => (nfc (by omega) (nfc (by omega) (nfc (by omega) nf0))))).trans ((JW.same q_95 (by decide) (fun k => (nfc (by omega) (nfc (by omega) (nfc (by omega) (nfc (by omega) (nfc (by omega) nf0))))))).trans ((JW.same q_9 (by decide) (fun k => (nfc (by omega) (nfc (by omega) nf0)))).trans ((k_8 _ (by decide)).trans hg))))))) n a_156 ⟨by omega, by omega⟩ ((JW.fI q_144 (by omega) (nfc (by omega) (nfc (by omega) (nfc (by omega) (nfc (by omega) (nfc (by omega) nf0)))))).trans ((JW.fI q_128 (by omega) (nfc (by omega) (nfc (by omega) nf0))).trans ((JW.fI q_122 (by omega) (nfc (by omega) nf0)).trans ((JW.fI q_115 (by omega) (nfc (by omega) (nfc (by omega) (nfc (by omega) nf0)))).trans ((JW.fI q_95 (by omega) (nfc (by omega) (nfc (by omega) (nfc (by omega) (nfc (by omega) (nfc (by omega) nf0)))))).trans ((JW.fI q_9 (by omega) (nfc (by omega) (nfc (by omega) nf0))).trans (KA (s := 3) (x := .int (nI (a + 1))) e_3 rfl (by decide) e_8 k_8 hE))))))) hk_158) rfl (Nat.le_of_ble_eq_true rfl) ⟨Nat.le_of_ble_eq_true rfl, Nat.le_of_ble_eq_true rfl, Nat.le_of_ble_eq_true rfl, Nat.le_of_ble_eq_true rfl⟩ (fun r_170 N_171 V_168 q_172 => ?_)
          obtain ⟨⟨z_166, h_165⟩, rfl, q_164⟩ := q_172
          have j_167 := JW.trans j_147 (JW.weak q_164 (Sub.cons LM0 (by decide) (by decide) (by decide) (Or.inr ⟨by decide, by decide⟩) (Sub.cons (LMs (LMs (LMs (LMs (LMs (LMs (LMs LM0))))))) (by decide) (by decide) (by decide) (Or.inr ⟨by decide, by decide⟩) Sub.nil)))
          rcases h_165 with ⟨hy_173, hk_174, e_175⟩ | ⟨hn_176, hk_177, e_178⟩
          · skip
            refine aw_eqi (y := 1) e_175 ?_
            have hlhy_173 := hd_lit hy_173 (by decide)
            refine aw_if_ne (tgt := 97) dX5_readLine_92 (by decide) (fun c_179 => ?_) (fun c_179 => ?_)
            rotate_left
            · exact absurd c_179 (by decide)
            refine aw_aload_n dX5_readLine_97 rfl ?_
            refine aw_get dX5_readLine_98 fl_X5_9 ((j_167.2.1 _ hp.1 hp.2).trans hR) (by omega) rfl ?_
            refine aw_bipush (v := 46) dX5_readLine_101 (by decide) ?_
            refine aw_iconst (v := 0) dX5_readLine_103 (by decide) ?_
            obtain ⟨s8_183, r8_183, h8_183, e_183, hs_183, hr_183⟩ := JW.get j_167 (ctl_0 hx)
            refine aw_callVi (J' := jX4_add) (As := [.int 46, .int 0]) (st := []) dX5_readLine_104 tb_415 ok_X4_add ⟨_, e_183⟩ (by omega) rfl rfl (g_X4_add l D b N V_168 hN j_167.1 x hx 46 0 (by decide)) rfl (Nat.le_of_ble_eq_true rfl) ⟨Nat.le_of_ble_eq_true rfl, Nat.le_of_ble_eq_true rfl, Nat.le_of_ble_eq_true rfl, Nat.le_of_ble_eq_true rfl⟩ (fun r_184 N_185 V_182 q_186 => ?_)
            obtain ⟨rfl, q_180⟩ := q_186
            have j_181 := JW.trans j_167 (JW.weak q_180 (Sub.cons (LMs (LMs (LMs LM0))) (by omega) (by omega) (by decide) (Or.inl rfl) (Sub.cons (LMs (LMs (LMs (LMs LM0)))) (by omega) (by omega) (by decide) (Or.inl rfl) (Sub.cons (LMs (LMs (LMs (LMs (LMs LM0))))) (by omega) (by omega) (by decide) (Or.inr ⟨by decide, by decide⟩) Sub.nil))))
            refine aw_pop dX5_readLine_107 rfl ?_
            refine aw_aload_n dX5_readLine_108 rfl ?_
            refine aw_get dX5_readLine_109 fl_X5_9 ((j_181.2.1 _ hp.1 hp.2).trans hR) (by omega) rfl ?_
            obtain ⟨s8_190, r8_190, h8_190, e_190, hs_190, hr_190⟩ := JW.get j_181 (ctl_0 hx)
            refine aw_callVv (J' := jX4_endRule) (As := []) (st := []) dX5_readLine_112 tb_525 ok_X4_endRule ⟨_, e_190⟩ (by omega) rfl rfl (g_X4_endRule l D b N V_182 hN j_181.1 x hx) rfl (Nat.le_of_ble_eq_true rfl) ⟨Nat.le_of_ble_eq_true rfl, Nat.le_of_ble_eq_true rfl, Nat.le_of_ble_eq_true rfl, Nat.le_of_ble_eq_true rfl⟩ (fun  N_191 V_189 q_192 => ?_)
            obtain ⟨rfl, q_187⟩ := q_192
            have j_188 := JW.trans j_181 (JW.weak q_187 (Sub.cons (LMs (LMs (LMs (LMs (LMs (LMs (LMs (LMs LM0)))))))) (by omega) (by omega) (by decide) (Or.inr ⟨by decide, by decide⟩) Sub.nil))
            refine aw_iconst (v := 1) dX5_readLine_115 (by decide) ?_
            refine aw_zreti dX5_readLine_116 rfl (by first | exact Or.inl rfl | exact Or.inr rfl | assumption) (Nat.le_of_ble_eq_true rfl) (Nat.le_of_ble_eq_true rfl) ?_
            exact ⟨⟨(by first | exact Or.inl rfl | exact Or.inr rfl | assumption), Or.inr ⟨_, lnL_of (by rw [(sta_n c_15)]; exact hx_108 _ (O_e hz_111 (Q_par hy_137 (hx_157 _ (A_end (n38 hz_160.1 hz_160.2) hy_173))))), ((JW.fI q_187 (by omega) (nfc (by omega) nf0)).trans ((JW.fI q_180 (by omega) (nfc (by omega) (nfc (by omega) (nfc (by omega) nf0)))).trans hk_174)), ⟨by omega, by omega⟩, rfl⟩⟩, rfl, j_188⟩
          · skip
            refine aw_eqi (y := 0) e_178 ?_
            refine aw_if_ne (tgt := 97) dX5_readLine_92 (by decide) (fun c_193 => ?_) (fun c_193 => ?_)
            · exact absurd rfl c_193
            refine aw_iconst (v := 0) dX5_readLine_95 (by decide) ?_
            refine aw_zreti dX5_readLine_96 rfl (by first | exact Or.inl rfl | exact Or.inr rfl | assumption) (Nat.le_of_ble_eq_true rfl) (Nat.le_of_ble_eq_true rfl) ?_
            exact ⟨⟨(by first | exact Or.inl rfl | exact Or.inr rfl | assumption), Or.inl ⟨_, lnL_of (by rw [(sta_n c_15)]; exact hx_108 _ (O_e hz_111 (Q_par hy_137 (hx_157 _ (A_no (n38 hz_160.1 hz_160.2) hn_176))))), hk_177, rfl⟩⟩, rfl, j_167⟩
      · skip
        refine aw_eqi (y := 0) e_142 ?_
        refine aw_if_eq (tgt := 95) dX5_readLine_72 (by decide) (fun c_194 => ?_) (fun c_194 => ?_)
        rotate_left
        · exact absurd (by decide) c_194
        refine aw_iconst (v := 0) dX5_readLine_95 (by decide) ?_
        refine aw_zreti dX5_readLine_96 rfl (by first | exact Or.inl rfl | exact Or.inr rfl | assumption) (Nat.le_of_ble_eq_true rfl) (Nat.le_of_ble_eq_true rfl) ?_
        exact ⟨⟨(by first | exact Or.inl rfl | exact Or.inr rfl | assumption), Or.inl ⟨_, lnL_of (by rw [(sta_n c_15)]; exact hx_108 _ (O_e hz_111 (Q_no hn_140))), hk_141, rfl⟩⟩, rfl, j_131⟩

set_option maxHeartbeats 20000000 in
set_option maxRecDepth 100000 in
theorem g_X6_readLines_LS (l : Launch) (D : va_G) (b : Nat) (N : Nat) (V : Wd) (hN : 100 ≤ N) (hW : CW D b V) (p x : Nat) (hp : 100 ≤ p ∧ p < N) (hx : x = 57 ∨ x = 65) (hR : V p = cO 5 [.ref (b + 1), .ref (b + x)]) (g : Nat → Int32) (hg : V 2 = cI D 260 g) (n a : Nat) (hna : a ≤ n ∧ n ≤ 240) (hE : fI (V 1) 2 = nI n) (hA : fI (V 1) 3 = nI a) (hB : BY g) : MI l D b 28 jX6_readLines [.ref (b + p), .int 16] N V 0 0 (fun r N9 V9 => (r = cod (txL g n 16 a)) ∧ N = N9 ∧ JW D b N [(1, 1, 3, 3), (x + 3, x + 3, 0, 1000000), (x + 4, x + 4, 0, 1000000), (x + 1, x + 1, 0, 1000000), (x + 2, x + 2, 0, 1000000), (x, x, 2, 2), (x + 5, x + 5, 0, 1000000), (1, 1, 4, 4), (x, x, 6, 6)] V V9) := by
  have hJ0 : JW D b N [(1, 1, 3, 3), (x + 3, x + 3, 0, 1000000), (x + 4, x + 4, 0, 1000000), (x + 1, x + 1, 0, 1000000), (x + 2, x + 2, 0, 1000000), (x, x, 2, 2), (x + 5, x + 5, 0, 1000000), (1, 1, 4, 4), (x, x, 6, 6)] V V := JW.rf hW
  refine mw_of (by decide) (by simp [Value.category]) (Nat.le_of_ble_eq_true rfl) ?_
  show AW l D b jX6_readLines (fx_rm 28 0 0) none (fx_MQ D b 0 0 (fx_qi (fun r N9 V9 => (r = cod (txL g n 16 a)) ∧ N = N9 ∧ JW D b N [(1, 1, 3, 3), (x + 3, x + 3, 0, 1000000), (x + 4, x + 4, 0, 1000000), (x + 1, x + 1, 0, 1000000), (x + 2, x + 2, 0, 1000000), (x, x, 2, 2), (x + 5, x + 5, 0, 1000000), (1, 1, 4, 4), (x, x, 6, 6)] V V9))) 0 [some (.ref (b + p)), some (.int 16), none] [] N V 0 0
  refine aw_iconst (v := 0) dX6_readLines_0 (by decide) ?_
  refine aw_istore_n (ls' := [some (.ref (b + p)), some (.int 16), some (.int 0)]) dX6_readLines_1 (Nat.le_of_ble_eq_true rfl) rfl ?_
  have ml_2_1 : ∀ (m : Nat) (a2 : Nat) (j2 : Nat) (V2 : Wd), m = 17 - j2 → (JW D b N [(1, 1, 3, 3), (x + 3, x + 3, 0, 1000000), (x + 4, x + 4, 0, 1000000), (x + 1, x + 1, 0, 1000000), (x + 2, x + 2, 0, 1000000), (x, x, 2, 2), (x + 5, x + 5, 0, 1000000), (1, 1, 4, 4), (x, x, 6, 6)] V V2) → (fI (V2 1) 2 = nI n) → (fI (V2 1) 3 = nI a2) → (V2 2 = cI D 260 g) → ((j2 = 0 ∧ a2 = a) ∨ (0 < j2 ∧ afL g n (16 - j2) a2 = txL g n 16 a)) → (j2 ≤ 16 ∧ a ≤ a2 ∧ a2 ≤ n) → AW l D b jX6_readLines (fx_rm 28 0 0) none (fx_MQ D b 0 0 (fx_qi (fun r N9 V9 => (r = cod (txL g n 16 a)) ∧ N = N9 ∧ JW D b N [(1, 1, 3, 3), (x + 3, x + 3, 0, 1000000), (x + 4, x + 4, 0, 1000000), (x + 1, x + 1, 0, 1000000), (x + 2, x + 2, 0, 1000000), (x, x, 2, 2), (x + 5, x + 5, 0, 1000000), (1, 1, 4, 4), (x, x, 6, 6)] V V9))) 2 [some (.ref (b + p)), some (.int 16), some (.int (nI j2))] [] N V2 0 0 := by
    intro m; refine Nat.strongRecOn m ?_
    intro m mih_2_1 a2 j2 V2 hm2 i2_0 i2_1 i2_2 i2_3 i2_4 i2_5
    refine aw_iload_n dX6_readLines_2 rfl ?_
    refine aw_iload_n dX6_readLines_3 rfl ?_
    refine aw_icmp_gt (tgt := 130) dX6_readLines_4 (by decide) (fun c_2 => ?_) (fun c_2 => ?_)
    · have nc_2 : 16 < j2 := (nI_ltI (a := 16) (b := j2) (by omega) (by omega)).mp c_2
      omega
    have nc_2 : ¬ (16 < j2) := fun z => c_2 ((nI_ltI (a := 16) (b := j2) (by omega) (by omega)).mpr z)
    refine aw_iload_n dX6_readLines_7 rfl ?_
    refine aw_if_le (tgt := 50) dX6_readLines_8 (by decide) (fun c_3 => ?_) (fun c_3 => ?_)
    · skip
      have nc_3 : j2 ≤ 0 := (nI_leI (a := j2) (b := 0) (by omega) (by omega)).mp c_3
      have hT : txL g n (16 - j2) a2 = txL g n 16 a := by obtain ⟨e1, e2⟩ := (i2_4).resolve_right (fun z => by omega); rw [e1, e2]
      refine aw_aload_n dX6_readLines_50 rfl ?_
      refine aw_aload_n dX6_readLines_51 rfl ?_
      refine aw_get dX6_readLines_52 fl_X6_9_5 ((i2_0.2.1 _ hp.1 hp.2).trans hR) (by omega) rfl ?_
      obtain ⟨ts_6, tn_6, tf_6, ta_6, e_6, hta_6⟩ := JW.get i2_0 ct_1
      refine aw_callVi (J' := jX10_now) (As := []) (st := [.ref (b + p)]) dX6_readLines_55 tb_319 ok_X10_now ⟨_, e_6⟩ (by omega) rfl rfl (g_X10_nowS l D b N V2 hN i2_0.1 g i2_3 n a2 ⟨by omega, by omega⟩ i2_1 i2_2) rfl (Nat.le_of_ble_eq_true rfl) ⟨Nat.le_of_ble_eq_true rfl, Nat.le_of_ble_eq_true rfl, Nat.le_of_ble_eq_true rfl, Nat.le_of_ble_eq_true rfl⟩ (fun r_7 N_8 V_9 q_10 => ?_)
      obtain ⟨h_5, rfl, rfl⟩ := q_10
      refine aw_eqi (y := (hd g n a2)) h_5 ?_
      refine aw_callWi (J' := jX5_startsLine) (y := ({ cls := "FearLocks$LinesReader", name := "startsLine", desc := "(I)Z" } : Jvm.MethodName)) (RC := "FearLocks$LawReader") (owner := "FearLocks$LinesReader") (As := [.int (hd g n a2)]) (st := []) dX6_readLines_58 tb_320 okW_X5_startsLine_X5 ⟨_, ((i2_0.2.1 _ hp.1 hp.2).trans hR)⟩ (by omega) rfl rfl (g_X5_startsLineS l D b N V2 hN i2_0.1 p x ⟨by omega, by omega⟩ hx ((i2_0.2.1 _ hp.1 hp.2).trans hR) (hd g n a2)) rfl (Nat.le_of_ble_eq_true rfl) ⟨Nat.le_of_ble_eq_true rfl, Nat.le_of_ble_eq_true rfl, Nat.le_of_ble_eq_true rfl, Nat.le_of_ble_eq_true rfl⟩ (fun r_14 N_15 V_16 q_17 => ?_)
      obtain ⟨⟨z_13, h_12⟩, rfl, rfl⟩ := q_17
      rcases h_12 with ⟨hy_18, e_19⟩ | ⟨hn_20, e_21⟩
      · skip
        refine aw_eqi (y := 1) e_19 ?_
        refine aw_if_ne (tgt := 80) dX6_readLines_61 (by decide) (fun c_22 => ?_) (fun c_22 => ?_)
        rotate_left
        · exact absurd c_22 (by decide)
        refine aw_iload_n dX6_readLines_80 rfl ?_
        refine aw_iload_n dX6_readLines_81 rfl ?_
        refine aw_icmp_ne (tgt := 109) dX6_readLines_82 (by decide) (fun c_23 => ?_) (fun c_23 => ?_)
        · skip
          have nc_23 : ¬ (j2 = 16) := fun z => c_23 ((nI_eq (a := j2) (b := 16) (by omega) (by omega)).mpr z)
          refine aw_aload_n dX6_readLines_109 rfl ?_
          refine aw_callWi (J' := jX5_readLine) (y := ({ cls := "FearLocks$LinesReader", name := "readLine", desc := "()Z" } : Jvm.MethodName)) (RC := "FearLocks$LawReader") (owner := "FearLocks$LinesReader") (As := []) (st := []) dX6_readLines_110 tb_343 okW_X5_readLine_X5 ⟨_, ((i2_0.2.1 _ hp.1 hp.2).trans hR)⟩ (by omega) rfl rfl (g_X5_readLineS l D b N V2 hN i2_0.1 p x ⟨by omega, by omega⟩ hx ((i2_0.2.1 _ hp.1 hp.2).trans hR) g i2_3 n a2 ⟨by omega, by omega⟩ i2_1 i2_2 hB hy_18) rfl (Nat.le_of_ble_eq_true rfl) ⟨Nat.le_of_ble_eq_true rfl, Nat.le_of_ble_eq_true rfl, Nat.le_of_ble_eq_true rfl, Nat.le_of_ble_eq_true rfl⟩ (fun r_29 N_30 V_28 q_31 => ?_)
          obtain ⟨⟨z_26, h_25⟩, rfl, q_24⟩ := q_31
          have j_27 := JW.trans i2_0 (JW.weak q_24 (Sub.cons LM0 (by decide) (by decide) (by decide) (Or.inr ⟨by decide, by decide⟩) (Sub.cons (LMs LM0) (by omega) (by omega) (by decide) (Or.inl rfl) (Sub.cons (LMs (LMs LM0)) (by omega) (by omega) (by decide) (Or.inl rfl) (Sub.cons (LMs (LMs (LMs LM0))) (by omega) (by omega) (by decide) (Or.inl rfl) (Sub.cons (LMs (LMs (LMs (LMs LM0)))) (by omega) (by omega) (by decide) (Or.inl rfl) (Sub.cons (LMs (LMs (LMs (LMs (LMs LM0))))) (by omega) (by omega) (by decide) (Or.inr ⟨by decide, by decide⟩) (Sub.cons (LMs (LMs (LMs (LMs (LMs (LMs LM0)))))) (by omega) (by omega) (by decide) (Or.inl rfl) (Sub.cons (LMs (LMs (LMs (LMs (LMs (LMs (LMs LM0))))))) (by decide) (by decide) (by decide) (Or.inr ⟨by decide, by decide⟩) (Sub.cons (LMs (LMs (LMs (LMs (LMs (LMs (LMs (LMs LM0)))))))) (by omega) (by omega) (by decide) (Or.inr ⟨by decide, by decide⟩) Sub.nil))))))))))
          rcases h_25 with ⟨f_32, hx_33, hk_34, e_35⟩ | ⟨a_36, hx_37, hk_38, hb_39, e_40⟩
          · skip
            refine aw_eqi (y := 0) e_35 ?_
            refine aw_if_ne (tgt := 124) dX6_readLines_113 (by decide) (fun c_41 => ?_) (fun c_41 => ?_)
            · exact absurd rfl c_41
            refine aw_aload_n dX6_readLines_116 rfl ?_
            refine aw_get dX6_readLines_117 fl_X6_9_5 ((j_27.2.1 _ hp.1 hp.2).trans hR) (by omega) rfl ?_
            obtain ⟨ts_42, tn_42, tf_42, ta_42, e_42, hta_42⟩ := JW.get j_27 ct_1
            refine aw_get dX6_readLines_120 fl_X6_28 e_42 (by omega) rfl ?_
            refine aw_eqi (y := f_32) ((Eq.symm (congrArg (fun z => fI z 4) e_42)).trans hk_34) ?_
            refine aw_ireti dX6_readLines_123 rfl (Nat.le_of_ble_eq_true rfl) (Nat.le_of_ble_eq_true rfl) ?_
            exact ⟨(congrArg cod (hT.symm.trans (tx_bad hy_18 hx_33 (by omega)))).symm, rfl, j_27⟩
          · skip
            refine aw_eqi (y := 1) e_40 ?_
            obtain ⟨hb_39a, hb_39b⟩ := hb_39
            refine aw_if_ne (tgt := 124) dX6_readLines_113 (by decide) (fun c_43 => ?_) (fun c_43 => ?_)
            rotate_left
            · exact absurd c_43 (by decide)
            refine aw_iinc (v := (nI (j2 + 1))) (ls' := [some (.ref (b + p)), some (.int 16), some (.int (nI (j2 + 1)))]) dX6_readLines_124 rfl (fx_up_1 _) (Nat.le_of_ble_eq_true rfl) rfl ?_
            refine aw_goto (tgt := 2) dX6_readLines_127 (by decide) ?_
            refine aw_le ?_ (mih_2_1 _ (by omega) a_36 (j2 + 1) V_28 rfl (j_27) (((JW.fI q_24 (by omega) (nfc (by omega) (nfc (by omega) (nfc (by omega) (nfc (by omega) (nfc (by omega) (nfc (by omega) (nfc (by omega) (nfc (by omega) (nfc (by omega) nf0)))))))))).trans i2_1)) (hk_38) (((JW.same q_24 (by decide) (fun k => (nfc (by omega) (nfc (by omega) (nfc (by omega) (nfc (by omega) (nfc (by omega) (nfc (by omega) (nfc (by omega) (nfc (by omega) (nfc (by omega) nf0))))))))))).trans i2_3)) (Or.inr ⟨by omega, by have q := (tx_go (M := 16) (ln := (fun a _ => lnL g n a)) hy_18 hx_37 (by omega)).symm.trans hT; rw [show 16 - j2 - 1 = 16 - (j2 + 1) by omega] at q; exact q⟩) (⟨by omega, by omega, by omega⟩))
            exact ⟨rfl, ⟨rfl, ⟨rfl, trivial⟩⟩⟩
        · skip
          have nc_23 : j2 = 16 := (nI_eq (a := j2) (b := 16) (by omega) (by omega)).mp c_23
          refine aw_aload_n dX6_readLines_85 rfl ?_
          refine aw_get dX6_readLines_86 fl_X6_9_5 ((i2_0.2.1 _ hp.1 hp.2).trans hR) (by omega) rfl ?_
          refine aw_iconst (v := 4) dX6_readLines_89 (by decide) ?_
          refine aw_aload_n dX6_readLines_90 rfl ?_
          refine aw_get dX6_readLines_91 fl_X6_9_5 ((i2_0.2.1 _ hp.1 hp.2).trans hR) (by omega) rfl ?_
          refine aw_get dX6_readLines_94 fl_X6_15 e_6 (by omega) rfl ?_
          refine aw_eqi (y := (nI a2)) ((Eq.symm (congrArg (fun z => fI z 3) e_6)).trans i2_2) ?_
          refine aw_callVi (J' := jX10_fail) (As := [.int 4, .int (nI a2)]) (st := []) dX6_readLines_97 tb_342 ok_X10_fail ⟨_, e_6⟩ (by omega) rfl rfl (g_X10_failS l D b N V2 hN i2_0.1 4 (nI a2)) rfl (Nat.le_of_ble_eq_true rfl) ⟨Nat.le_of_ble_eq_true rfl, Nat.le_of_ble_eq_true rfl, Nat.le_of_ble_eq_true rfl, Nat.le_of_ble_eq_true rfl⟩ (fun r_49 N_50 V_48 q_51 => ?_)
          obtain ⟨⟨z_46, h_45⟩, rfl, q_44⟩ := q_51
          have j_47 := JW.trans i2_0 (JW.weak q_44 (Sub.cons (LMs (LMs (LMs (LMs (LMs (LMs (LMs LM0))))))) (by decide) (by decide) (by decide) (Or.inr ⟨by decide, by decide⟩) Sub.nil))
          obtain ⟨rfl, h_45f⟩ := h_45
          refine aw_pop dX6_readLines_100 rfl ?_
          refine aw_aload_n dX6_readLines_101 rfl ?_
          refine aw_get dX6_readLines_102 fl_X6_9_5 ((j_47.2.1 _ hp.1 hp.2).trans hR) (by omega) rfl ?_
          obtain ⟨ts_52, tn_52, tf_52, ta_52, e_52, hta_52⟩ := JW.get j_47 ct_1
          refine aw_get dX6_readLines_105 fl_X6_28 e_52 (by omega) rfl ?_
          refine aw_eqi (y := (flt 4 a2)) ((Eq.symm (congrArg (fun z => fI z 4) e_52)).trans h_45f) ?_
          refine aw_ireti dX6_readLines_108 rfl (Nat.le_of_ble_eq_true rfl) (Nat.le_of_ble_eq_true rfl) ?_
          exact ⟨(congrArg cod (hT.symm.trans ((congrArg (fun q => txL g n q a2) (by omega : 16 - j2 = 0)).trans (tx_many hy_18)))).symm, rfl, j_47⟩
      · skip
        refine aw_eqi (y := 0) e_21 ?_
        refine aw_if_ne (tgt := 80) dX6_readLines_61 (by decide) (fun c_53 => ?_) (fun c_53 => ?_)
        · exact absurd rfl c_53
        refine aw_aload_n dX6_readLines_64 rfl ?_
        refine aw_get dX6_readLines_65 fl_X6_9_5 ((i2_0.2.1 _ hp.1 hp.2).trans hR) (by omega) rfl ?_
        refine aw_callVi (J' := jX10_cannotStand) (As := []) (st := []) dX6_readLines_68 tb_338 ok_X10_cannotStand ⟨_, e_6⟩ (by omega) rfl rfl (g_X10_cannotStandS l D b N V2 hN i2_0.1 g i2_3 n a2 ⟨by omega, by omega⟩ i2_1 i2_2) rfl (Nat.le_of_ble_eq_true rfl) ⟨Nat.le_of_ble_eq_true rfl, Nat.le_of_ble_eq_true rfl, Nat.le_of_ble_eq_true rfl, Nat.le_of_ble_eq_true rfl⟩ (fun r_59 N_60 V_58 q_61 => ?_)
        obtain ⟨⟨z_56, h_55⟩, rfl, q_54⟩ := q_61
        have j_57 := JW.trans i2_0 (JW.weak q_54 (Sub.cons (LMs (LMs (LMs (LMs (LMs (LMs (LMs LM0))))))) (by decide) (by decide) (by decide) (Or.inr ⟨by decide, by decide⟩) Sub.nil))
        obtain ⟨rfl, h_55f⟩ := h_55
        refine aw_pop dX6_readLines_71 rfl ?_
        refine aw_aload_n dX6_readLines_72 rfl ?_
        refine aw_get dX6_readLines_73 fl_X6_9_5 ((j_57.2.1 _ hp.1 hp.2).trans hR) (by omega) rfl ?_
        obtain ⟨ts_62, tn_62, tf_62, ta_62, e_62, hta_62⟩ := JW.get j_57 ct_1
        refine aw_get dX6_readLines_76 fl_X6_28 e_62 (by omega) rfl ?_
        refine aw_eqi (y := (flt 1 a2)) ((Eq.symm (congrArg (fun z => fI z 4) e_62)).trans h_55f) ?_
        refine aw_ireti dX6_readLines_79 rfl (Nat.le_of_ble_eq_true rfl) (Nat.le_of_ble_eq_true rfl) ?_
        exact ⟨(congrArg cod (hT.symm.trans (tx_st hn_20))).symm, rfl, j_57⟩
    · skip
      have nc_3 : ¬ (j2 ≤ 0) := fun z => c_3 ((nI_leI (a := j2) (b := 0) (by omega) (by omega)).mpr z)
      refine aw_aload_n dX6_readLines_11 rfl ?_
      refine aw_get dX6_readLines_12 fl_X6_9_5 ((i2_0.2.1 _ hp.1 hp.2).trans hR) (by omega) rfl ?_
      obtain ⟨ts_63, tn_63, tf_63, ta_63, e_63, hta_63⟩ := JW.get i2_0 ct_1
      refine aw_get dX6_readLines_15 fl_X6_15 e_63 (by omega) rfl ?_
      refine aw_eqi (y := (nI a2)) ((Eq.symm (congrArg (fun z => fI z 3) e_63)).trans i2_2) ?_
      refine aw_aload_n dX6_readLines_18 rfl ?_
      refine aw_get dX6_readLines_19 fl_X6_9_5 ((i2_0.2.1 _ hp.1 hp.2).trans hR) (by omega) rfl ?_
      refine aw_get dX6_readLines_22 fl_X6_21 e_63 (by omega) rfl ?_
      refine aw_eqi (y := (nI n)) ((Eq.symm (congrArg (fun z => fI z 2) e_63)).trans i2_1) ?_
      refine aw_icmp_lt (tgt := 30) dX6_readLines_25 (by decide) (fun c_64 => ?_) (fun c_64 => ?_)
      · skip
        have nc_64 : a2 < n := (nI_ltI (a := a2) (b := n) (by omega) (by omega)).mp c_64
        refine aw_aload_n dX6_readLines_30 rfl ?_
        refine aw_get dX6_readLines_31 fl_X6_9_5 ((i2_0.2.1 _ hp.1 hp.2).trans hR) (by omega) rfl ?_
        refine aw_bipush (v := 59) dX6_readLines_34 (by decide) ?_
        refine aw_callVi (J' := jX10_expect) (As := [.int 59]) (st := []) dX6_readLines_36 tb_307 ok_X10_expect ⟨_, e_63⟩ (by omega) rfl rfl (g_X10_expectS l D b N V2 hN i2_0.1 59 g i2_3 n a2 ⟨by omega, by omega⟩ i2_1 i2_2) rfl (Nat.le_of_ble_eq_true rfl) ⟨Nat.le_of_ble_eq_true rfl, Nat.le_of_ble_eq_true rfl, Nat.le_of_ble_eq_true rfl, Nat.le_of_ble_eq_true rfl⟩ (fun r_70 N_71 V_69 q_72 => ?_)
        obtain ⟨⟨z_67, h_66⟩, rfl, q_65⟩ := q_72
        have j_68 := JW.trans i2_0 (JW.weak q_65 (Sub.cons LM0 (by decide) (by decide) (by decide) (Or.inr ⟨by decide, by decide⟩) (Sub.cons (LMs (LMs (LMs (LMs (LMs (LMs (LMs LM0))))))) (by decide) (by decide) (by decide) (Or.inr ⟨by decide, by decide⟩) Sub.nil)))
        rcases h_66 with ⟨hy_73, hk_74, e_75⟩ | ⟨hn_76, hk_77, e_78⟩
        · skip
          refine aw_eqi (y := 1) e_75 ?_
          have hlhy_73 := hd_lit hy_73 (by decide)
          refine aw_if_ne (tgt := 50) dX6_readLines_39 (by decide) (fun c_79 => ?_) (fun c_79 => ?_)
          rotate_left
          · exact absurd c_79 (by decide)
          have hT : txL g n (16 - j2) (a2 + 1) = txL g n 16 a := (af_go hy_73).symm.trans ((i2_4).resolve_left (fun z => by omega)).2
          refine aw_aload_n dX6_readLines_50 rfl ?_
          refine aw_aload_n dX6_readLines_51 rfl ?_
          refine aw_get dX6_readLines_52 fl_X6_9_5 ((j_68.2.1 _ hp.1 hp.2).trans hR) (by omega) rfl ?_
          obtain ⟨ts_82, tn_82, tf_82, ta_82, e_82, hta_82⟩ := JW.get j_68 ct_1
          refine aw_callVi (J' := jX10_now) (As := []) (st := [.ref (b + p)]) dX6_readLines_55 tb_319 ok_X10_now ⟨_, e_82⟩ (by omega) rfl rfl (g_X10_nowS l D b N V_69 hN j_68.1 g ((JW.same q_65 (by decide) (fun k => (nfc (by omega) (nfc (by omega) nf0)))).trans i2_3) n (a2 + 1) ⟨by omega, by omega⟩ ((JW.fI q_65 (by omega) (nfc (by omega) (nfc (by omega) nf0))).trans i2_1) hk_74) rfl (Nat.le_of_ble_eq_true rfl) ⟨Nat.le_of_ble_eq_true rfl, Nat.le_of_ble_eq_true rfl, Nat.le_of_ble_eq_true rfl, Nat.le_of_ble_eq_true rfl⟩ (fun r_83 N_84 V_85 q_86 => ?_)
          obtain ⟨h_81, rfl, rfl⟩ := q_86
          refine aw_eqi (y := (hd g n (a2 + 1))) h_81 ?_
          refine aw_callWi (J' := jX5_startsLine) (y := ({ cls := "FearLocks$LinesReader", name := "startsLine", desc := "(I)Z" } : Jvm.MethodName)) (RC := "FearLocks$LawReader") (owner := "FearLocks$LinesReader") (As := [.int (hd g n (a2 + 1))]) (st := []) dX6_readLines_58 tb_320 okW_X5_startsLine_X5 ⟨_, ((j_68.2.1 _ hp.1 hp.2).trans hR)⟩ (by omega) rfl rfl (g_X5_startsLineS l D b N V_69 hN j_68.1 p x ⟨by omega, by omega⟩ hx ((j_68.2.1 _ hp.1 hp.2).trans hR) (hd g n (a2 + 1))) rfl (Nat.le_of_ble_eq_true rfl) ⟨Nat.le_of_ble_eq_true rfl, Nat.le_of_ble_eq_true rfl, Nat.le_of_ble_eq_true rfl, Nat.le_of_ble_eq_true rfl⟩ (fun r_90 N_91 V_92 q_93 => ?_)
          obtain ⟨⟨z_89, h_88⟩, rfl, rfl⟩ := q_93
          rcases h_88 with ⟨hy_94, e_95⟩ | ⟨hn_96, e_97⟩
          · skip
            refine aw_eqi (y := 1) e_95 ?_
            refine aw_if_ne (tgt := 80) dX6_readLines_61 (by decide) (fun c_98 => ?_) (fun c_98 => ?_)
            rotate_left
            · exact absurd c_98 (by decide)
            refine aw_iload_n dX6_readLines_80 rfl ?_
            refine aw_iload_n dX6_readLines_81 rfl ?_
            refine aw_icmp_ne (tgt := 109) dX6_readLines_82 (by decide) (fun c_99 => ?_) (fun c_99 => ?_)
            · skip
              have nc_99 : ¬ (j2 = 16) := fun z => c_99 ((nI_eq (a := j2) (b := 16) (by omega) (by omega)).mpr z)
              refine aw_aload_n dX6_readLines_109 rfl ?_
              refine aw_callWi (J' := jX5_readLine) (y := ({ cls := "FearLocks$LinesReader", name := "readLine", desc := "()Z" } : Jvm.MethodName)) (RC := "FearLocks$LawReader") (owner := "FearLocks$LinesReader") (As := []) (st := []) dX6_readLines_110 tb_343 okW_X5_readLine_X5 ⟨_, ((j_68.2.1 _ hp.1 hp.2).trans hR)⟩ (by omega) rfl rfl (g_X5_readLineS l D b N V_69 hN j_68.1 p x ⟨by omega, by omega⟩ hx ((j_68.2.1 _ hp.1 hp.2).trans hR) g ((JW.same q_65 (by decide) (fun k => (nfc (by omega) (nfc (by omega) nf0)))).trans i2_3) n (a2 + 1) ⟨by omega, by omega⟩ ((JW.fI q_65 (by omega) (nfc (by omega) (nfc (by omega) nf0))).trans i2_1) hk_74 hB hy_94) rfl (Nat.le_of_ble_eq_true rfl) ⟨Nat.le_of_ble_eq_true rfl, Nat.le_of_ble_eq_true rfl, Nat.le_of_ble_eq_true rfl, Nat.le_of_ble_eq_true rfl⟩ (fun r_105 N_106 V_104 q_107 => ?_)
              obtain ⟨⟨z_102, h_101⟩, rfl, q_100⟩ := q_107
              have j_103 := JW.trans j_68 (JW.weak q_100 (Sub.cons LM0 (by decide) (by decide) (by decide) (Or.inr ⟨by decide, by decide⟩) (Sub.cons (LMs LM0) (by omega) (by omega) (by decide) (Or.inl rfl) (Sub.cons (LMs (LMs LM0)) (by omega) (by omega) (by decide) (Or.inl rfl) (Sub.cons (LMs (LMs (LMs LM0))) (by omega) (by omega) (by decide) (Or.inl rfl) (Sub.cons (LMs (LMs (LMs (LMs LM0)))) (by omega) (by omega) (by decide) (Or.inl rfl) (Sub.cons (LMs (LMs (LMs (LMs (LMs LM0))))) (by omega) (by omega) (by decide) (Or.inr ⟨by decide, by decide⟩) (Sub.cons (LMs (LMs (LMs (LMs (LMs (LMs LM0)))))) (by omega) (by omega) (by decide) (Or.inl rfl) (Sub.cons (LMs (LMs (LMs (LMs (LMs (LMs (LMs LM0))))))) (by decide) (by decide) (by decide) (Or.inr ⟨by decide, by decide⟩) (Sub.cons (LMs (LMs (LMs (LMs (LMs (LMs (LMs (LMs LM0)))))))) (by omega) (by omega) (by decide) (Or.inr ⟨by decide, by decide⟩) Sub.nil))))))))))
              rcases h_101 with ⟨f_108, hx_109, hk_110, e_111⟩ | ⟨a_112, hx_113, hk_114, hb_115, e_116⟩
              · skip
                refine aw_eqi (y := 0) e_111 ?_
                refine aw_if_ne (tgt := 124) dX6_readLines_113 (by decide) (fun c_117 => ?_) (fun c_117 => ?_)
                · exact absurd rfl c_117
                refine aw_aload_n dX6_readLines_116 rfl ?_
                refine aw_get dX6_readLines_117 fl_X6_9_5 ((j_103.2.1 _ hp.1 hp.2).trans hR) (by omega) rfl ?_
                obtain ⟨ts_118, tn_118, tf_118, ta_118, e_118, hta_118⟩ := JW.get j_103 ct_1
                refine aw_get dX6_readLines_120 fl_X6_28 e_118 (by omega) rfl ?_
                refine aw_eqi (y := f_108) ((Eq.symm (congrArg (fun z => fI z 4) e_118)).trans hk_110) ?_
                refine aw_ireti dX6_readLines_123 rfl (Nat.le_of_ble_eq_true rfl) (Nat.le_of_ble_eq_true rfl) ?_
                exact ⟨(congrArg cod (hT.symm.trans (tx_bad hy_94 hx_109 (by omega)))).symm, rfl, j_103⟩
              · skip
                refine aw_eqi (y := 1) e_116 ?_
                obtain ⟨hb_115a, hb_115b⟩ := hb_115
                refine aw_if_ne (tgt := 124) dX6_readLines_113 (by decide) (fun c_119 => ?_) (fun c_119 => ?_)
                rotate_left
                · exact absurd c_119 (by decide)
                refine aw_iinc (v := (nI (j2 + 1))) (ls' := [some (.ref (b + p)), some (.int 16), some (.int (nI (j2 + 1)))]) dX6_readLines_124 rfl (fx_up_1 _) (Nat.le_of_ble_eq_true rfl) rfl ?_
                refine aw_goto (tgt := 2) dX6_readLines_127 (by decide) ?_
                refine aw_le ?_ (mih_2_1 _ (by omega) a_112 (j2 + 1) V_104 rfl (j_103) (((JW.fI q_100 (by omega) (nfc (by omega) (nfc (by omega) (nfc (by omega) (nfc (by omega) (nfc (by omega) (nfc (by omega) (nfc (by omega) (nfc (by omega) (nfc (by omega) nf0)))))))))).trans ((JW.fI q_65 (by omega) (nfc (by omega) (nfc (by omega) nf0))).trans i2_1))) (hk_114) (((JW.same q_100 (by decide) (fun k => (nfc (by omega) (nfc (by omega) (nfc (by omega) (nfc (by omega) (nfc (by omega) (nfc (by omega) (nfc (by omega) (nfc (by omega) (nfc (by omega) nf0))))))))))).trans ((JW.same q_65 (by decide) (fun k => (nfc (by omega) (nfc (by omega) nf0)))).trans i2_3))) (Or.inr ⟨by omega, by have q := (tx_go (M := 16) (ln := (fun a _ => lnL g n a)) hy_94 hx_113 (by omega)).symm.trans hT; rw [show 16 - j2 - 1 = 16 - (j2 + 1) by omega] at q; exact q⟩) (⟨by omega, by omega, by omega⟩))
                exact ⟨rfl, ⟨rfl, ⟨rfl, trivial⟩⟩⟩
            · skip
              have nc_99 : j2 = 16 := (nI_eq (a := j2) (b := 16) (by omega) (by omega)).mp c_99
              refine aw_aload_n dX6_readLines_85 rfl ?_
              refine aw_get dX6_readLines_86 fl_X6_9_5 ((j_68.2.1 _ hp.1 hp.2).trans hR) (by omega) rfl ?_
              refine aw_iconst (v := 4) dX6_readLines_89 (by decide) ?_
              refine aw_aload_n dX6_readLines_90 rfl ?_
              refine aw_get dX6_readLines_91 fl_X6_9_5 ((j_68.2.1 _ hp.1 hp.2).trans hR) (by omega) rfl ?_
              refine aw_get dX6_readLines_94 fl_X6_15 e_82 (by omega) rfl ?_
              refine aw_eqi (y := (nI (a2 + 1))) ((Eq.symm (congrArg (fun z => fI z 3) e_82)).trans hk_74) ?_
              refine aw_callVi (J' := jX10_fail) (As := [.int 4, .int (nI (a2 + 1))]) (st := []) dX6_readLines_97 tb_342 ok_X10_fail ⟨_, e_82⟩ (by omega) rfl rfl (g_X10_failS l D b N V_69 hN j_68.1 4 (nI (a2 + 1))) rfl (Nat.le_of_ble_eq_true rfl) ⟨Nat.le_of_ble_eq_true rfl, Nat.le_of_ble_eq_true rfl, Nat.le_of_ble_eq_true rfl, Nat.le_of_ble_eq_true rfl⟩ (fun r_125 N_126 V_124 q_127 => ?_)
              obtain ⟨⟨z_122, h_121⟩, rfl, q_120⟩ := q_127
              have j_123 := JW.trans j_68 (JW.weak q_120 (Sub.cons (LMs (LMs (LMs (LMs (LMs (LMs (LMs LM0))))))) (by decide) (by decide) (by decide) (Or.inr ⟨by decide, by decide⟩) Sub.nil))
              obtain ⟨rfl, h_121f⟩ := h_121
              refine aw_pop dX6_readLines_100 rfl ?_
              refine aw_aload_n dX6_readLines_101 rfl ?_
              refine aw_get dX6_readLines_102 fl_X6_9_5 ((j_123.2.1 _ hp.1 hp.2).trans hR) (by omega) rfl ?_
              obtain ⟨ts_128, tn_128, tf_128, ta_128, e_128, hta_128⟩ := JW.get j_123 ct_1
              refine aw_get dX6_readLines_105 fl_X6_28 e_128 (by omega) rfl ?_
              refine aw_eqi (y := (flt 4 (a2 + 1))) ((Eq.symm (congrArg (fun z => fI z 4) e_128)).trans h_121f) ?_
              refine aw_ireti dX6_readLines_108 rfl (Nat.le_of_ble_eq_true rfl) (Nat.le_of_ble_eq_true rfl) ?_
              exact ⟨(congrArg cod (hT.symm.trans ((congrArg (fun q => txL g n q (a2 + 1)) (by omega : 16 - j2 = 0)).trans (tx_many hy_94)))).symm, rfl, j_123⟩
          · skip
            refine aw_eqi (y := 0) e_97 ?_
            refine aw_if_ne (tgt := 80) dX6_readLines_61 (by decide) (fun c_129 => ?_) (fun c_129 => ?_)
            · exact absurd rfl c_129
            refine aw_aload_n dX6_readLines_64 rfl ?_
            refine aw_get dX6_readLines_65 fl_X6_9_5 ((j_68.2.1 _ hp.1 hp.2).trans hR) (by omega) rfl ?_
            refine aw_callVi (J' := jX10_cannotStand) (As := []) (st := []) dX6_readLines_68 tb_338 ok_X10_cannotStand ⟨_, e_82⟩ (by omega) rfl rfl (g_X10_cannotStandS l D b N V_69 hN j_68.1 g ((JW.same q_65 (by decide) (fun k => (nfc (by omega) (nfc (by omega) nf0)))).trans i2_3) n (a2 + 1) ⟨by omega, by omega⟩ ((JW.fI q_65 (by omega) (nfc (by omega) (nfc (by omega) nf0))).trans i2_1) hk_74) rfl (Nat.le_of_ble_eq_true rfl) ⟨Nat.le_of_ble_eq_true rfl, Nat.le_of_ble_eq_true rfl, Nat.le_of_ble_eq_true rfl, Nat.le_of_ble_eq_true rfl⟩ (fun r_135 N_136 V_134 q_137 => ?_)
            obtain ⟨⟨z_132, h_131⟩, rfl, q_130⟩ := q_137
            have j_133 := JW.trans j_68 (JW.weak q_130 (Sub.cons (LMs (LMs (LMs (LMs (LMs (LMs (LMs LM0))))))) (by decide) (by decide) (by decide) (Or.inr ⟨by decide, by decide⟩) Sub.nil))
            obtain ⟨rfl, h_131f⟩ := h_131
            refine aw_pop dX6_readLines_71 rfl ?_
            refine aw_aload_n dX6_readLines_72 rfl ?_
            refine aw_get dX6_readLines_73 fl_X6_9_5 ((j_133.2.1 _ hp.1 hp.2).trans hR) (by omega) rfl ?_
            obtain ⟨ts_138, tn_138, tf_138, ta_138, e_138, hta_138⟩ := JW.get j_133 ct_1
            refine aw_get dX6_readLines_76 fl_X6_28 e_138 (by omega) rfl ?_
            refine aw_eqi (y := (flt 1 (a2 + 1))) ((Eq.symm (congrArg (fun z => fI z 4) e_138)).trans h_131f) ?_
            refine aw_ireti dX6_readLines_79 rfl (Nat.le_of_ble_eq_true rfl) (Nat.le_of_ble_eq_true rfl) ?_
            exact ⟨(congrArg cod (hT.symm.trans (tx_st hn_96))).symm, rfl, j_133⟩
        · skip
          refine aw_eqi (y := 0) e_78 ?_
          refine aw_if_ne (tgt := 50) dX6_readLines_39 (by decide) (fun c_139 => ?_) (fun c_139 => ?_)
          · exact absurd rfl c_139
          refine aw_aload_n dX6_readLines_42 rfl ?_
          refine aw_get dX6_readLines_43 fl_X6_9_5 ((j_68.2.1 _ hp.1 hp.2).trans hR) (by omega) rfl ?_
          obtain ⟨ts_140, tn_140, tf_140, ta_140, e_140, hta_140⟩ := JW.get j_68 ct_1
          refine aw_get dX6_readLines_46 fl_X6_28 e_140 (by omega) rfl ?_
          refine aw_eqi (y := (flt 1 a2)) ((Eq.symm (congrArg (fun z => fI z 4) e_140)).trans hk_77) ?_
          refine aw_ireti dX6_readLines_49 rfl (Nat.le_of_ble_eq_true rfl) (Nat.le_of_ble_eq_true rfl) ?_
          exact ⟨(congrArg cod (((i2_4).resolve_left (fun z => by omega)).2.symm.trans (af_no (by omega) hn_76))).symm, rfl, j_68⟩
      · skip
        have nc_64 : ¬ (a2 < n) := fun z => c_64 ((nI_ltI (a := a2) (b := n) (by omega) (by omega)).mpr z)
        refine aw_iload_n dX6_readLines_28 rfl ?_
        refine aw_ireti dX6_readLines_29 rfl (Nat.le_of_ble_eq_true rfl) (Nat.le_of_ble_eq_true rfl) ?_
        exact ⟨((congrArg nI (by omega : j2 = 16 - (16 - j2))).trans (congrArg cod (((i2_4).resolve_left (fun z => by omega)).2.symm.trans (af_end (by omega)))).symm), rfl, i2_0⟩
  refine aw_le ?_ (ml_2_1 _ a 0 V rfl (hJ0) (hE) (hA) (hg) (Or.inl ⟨rfl, rfl⟩) (⟨by omega, Nat.le_refl _, by omega⟩))
  exact ⟨rfl, ⟨rfl, ⟨rfl, trivial⟩⟩⟩

theorem lawA_of {D : va_G} {V : Wd} {g : Nat → Int32} {m : Nat} {n : Int32} (e : V 2 = cI D 260 g) (em : n = nI m) (hm : m ≤ 240) : lawA (fI (V 2)) n = cod (txL g m 16 0) := by
  have hf : fI (V 2) = g := funext fun k => by rw [e]; rfl
  rw [lawA, hf, em, nI_clamp (by omega)]

theorem fI_cI9 {D : va_G} {n : Nat} {V : Wd} {c : Nat} {g : Nat → Int32} (e : V c = cI D n g) : fI (V c) = g := funext fun k => by rw [e]; rfl

set_option maxHeartbeats 4000000 in
set_option maxRecDepth 100000 in
theorem g_X11_lawS (l : Launch) (D : va_G) (b : Nat) (N : Nat) (V : Wd) (hN : 100 ≤ N) (hW : CW D b V) (n0 : Int32) (hB : BY (fI (V 2))) : MI l D b 29 jX11_law [.ref (b + 0), .int n0] N V 1 2 (fun r N9 V9 => N ≤ N9 ∧ N9 ≤ N + 1 ∧ ANS (cIn n0 1 240 (fI (V 1) 1)) r (lawA (fI (V 2)) n0) ∧ TKS (cIn n0 1 240 (fI (V 1) 1)) (fI (V 1) 1) (fI (V9 1) 1) ∧ JW D b N [(57, 72, 0, 1000000), (1, 1, 2, 2), (1, 1, 3, 3), (1, 1, 4, 4), (1, 1, 1, 1), (0, 0, 5, 5), (0, 0, 6, 6)] V V9) := by
  have hJ0 : JW D b N [(57, 72, 0, 1000000), (1, 1, 2, 2), (1, 1, 3, 3), (1, 1, 4, 4), (1, 1, 1, 1), (0, 0, 5, 5), (0, 0, 6, 6)] V V := JW.rf hW
  refine mw_of (by decide) (by simp [Value.category]) (Nat.le_of_ble_eq_true rfl) ?_
  show AW l D b jX11_law (fx_rm 29 1 2) none (fx_MQ D b 1 2 (fx_qi (fun r N9 V9 => N ≤ N9 ∧ N9 ≤ N + 1 ∧ ANS (cIn n0 1 240 (fI (V 1) 1)) r (lawA (fI (V 2)) n0) ∧ TKS (cIn n0 1 240 (fI (V 1) 1)) (fI (V 1) 1) (fI (V9 1) 1) ∧ JW D b N [(57, 72, 0, 1000000), (1, 1, 2, 2), (1, 1, 3, 3), (1, 1, 4, 4), (1, 1, 1, 1), (0, 0, 5, 5), (0, 0, 6, 6)] V V9))) 0 [some (.ref (b + 0)), some (.int n0), none, none] [] N V 0 0
  obtain ⟨g_1, e_1⟩ := JW.get hJ0 ct_2
  refine aw_aload_n dX11_law_0 rfl ?_
  obtain ⟨ek_2, x_2, y_2, e_2, hx_2, hy_2⟩ := JW.get hJ0 ct_0
  refine aw_get dX11_law_1 fl_X11_12 e_2 (by omega) rfl ?_
  refine aw_iload_n dX11_law_4 rfl ?_
  refine aw_iconst (v := 1) dX11_law_5 (by decide) ?_
  refine aw_sipush (v := 240) dX11_law_6 (by decide) ?_
  obtain ⟨ts_6, tn_6, tf_6, ta_6, e_6, hta_6⟩ := JW.get hJ0 ct_1
  refine aw_callVi (J' := jX10_holds) (As := [.int n0, .int 1, .int 240]) (st := []) dX11_law_9 tb_267 ok_X10_holds ⟨_, e_6⟩ (by omega) rfl rfl (g_X10_holdsK l D b N V hN hJ0.1 n0 1 240) rfl (Nat.le_of_ble_eq_true rfl) ⟨Nat.le_of_ble_eq_true rfl, Nat.le_of_ble_eq_true rfl, Nat.le_of_ble_eq_true rfl, Nat.le_of_ble_eq_true rfl⟩ (fun r_7 N_8 V_9 q_10 => ?_)
  obtain ⟨⟨z_5, h_4⟩, rfl, rfl⟩ := q_10
  refine aw_if_ne (tgt := 17) dX11_law_12 (by decide) (fun c_11 => ?_) (fun c_11 => ?_)
  · skip
    refine aw_aload_n dX11_law_17 rfl ?_
    refine aw_get dX11_law_18 fl_X11_12 e_2 (by omega) rfl ?_
    refine aw_iload_n dX11_law_21 rfl ?_
    have hh9 := (h_4.resolve_right (fun z => c_11 z.1)).2
    have hB9 : BY g_1 := (fI_cI9 e_1) ▸ hB
    obtain ⟨m_12, m_12a, m_12b, m_12e⟩ := in_nat (a := 1) (b := 240) (by decide) ⟨hh9.1, hh9.2.1⟩
    refine aw_callVv (J' := jX10_take) (As := [.int n0]) (st := []) dX11_law_22 tb_271 ok_X10_take ⟨_, e_6⟩ (by omega) rfl rfl (g_X10_takeS l D b N V hN hJ0.1 n0) rfl (Nat.le_of_ble_eq_true rfl) ⟨Nat.le_of_ble_eq_true rfl, Nat.le_of_ble_eq_true rfl, Nat.le_of_ble_eq_true rfl, Nat.le_of_ble_eq_true rfl⟩ (fun  N_17 V_16 q_18 => ?_)
    obtain ⟨h_14, rfl, q_13⟩ := q_18
    have j_15 := JW.trans hJ0 (JW.weak q_13 (Sub.cons (LMs LM0) (by decide) (by decide) (by decide) (Or.inr ⟨by decide, by decide⟩) (Sub.cons (LMs (LMs LM0)) (by decide) (by decide) (by decide) (Or.inr ⟨by decide, by decide⟩) (Sub.cons (LMs (LMs (LMs LM0))) (by decide) (by decide) (by decide) (Or.inr ⟨by decide, by decide⟩) (Sub.cons (LMs (LMs (LMs (LMs LM0)))) (by decide) (by decide) (by decide) (Or.inr ⟨by decide, by decide⟩) Sub.nil)))))
    refine aw_aload_n dX11_law_25 rfl ?_
    obtain ⟨ek_19, x_19, y_19, e_19, hx_19, hy_19⟩ := JW.get j_15 ct_0
    refine aw_get dX11_law_26 fl_X11_40 e_19 (by omega) rfl ?_
    obtain ⟨s8_23, r8_23, h8_23, e_23, hs_23, hr_23⟩ := JW.get j_15 (ctl_0 hy_19)
    refine aw_callVv (J' := jX4_clear) (As := []) (st := []) dX11_law_29 tb_275 ok_X4_clear ⟨_, e_23⟩ (by omega) rfl rfl (g_X4_clear l D b N V_16 hN j_15.1 y_19 hy_19) rfl (Nat.le_of_ble_eq_true rfl) ⟨Nat.le_of_ble_eq_true rfl, Nat.le_of_ble_eq_true rfl, Nat.le_of_ble_eq_true rfl, Nat.le_of_ble_eq_true rfl⟩ (fun  N_24 V_22 q_25 => ?_)
    obtain ⟨rfl, q_20⟩ := q_25
    have j_21 := JW.trans j_15 (JW.weak q_20 (Sub.cons LM0 (by omega) (by omega) (by decide) (Or.inl rfl) (Sub.cons LM0 (by omega) (by omega) (by decide) (Or.inl rfl) Sub.nil)))
    refine aw_new dX11_law_32 nw_X11_89 (Nat.le_of_ble_eq_true rfl) (Nat.le_of_ble_eq_true rfl) ?_
    refine aw_newJ j_21 hN (fun V_26 j_26 e_26 k_26 => ?_)
    refine aw_dup dX11_law_35 rfl ?_
    refine aw_aload_n dX11_law_36 rfl ?_
    obtain ⟨ek_27, x_27, y_27, e_27, hx_27, hy_27⟩ := JW.get j_26 ct_0
    refine aw_get dX11_law_37 fl_X11_12 e_27 (by omega) rfl ?_
    refine aw_aload_n dX11_law_40 rfl ?_
    refine aw_get dX11_law_41 fl_X11_40 e_27 (by omega) rfl ?_
    refine aw_callIv (As := [.ref (b + 1), .ref (b + y_27)]) (st := [.ref (b + N)]) dX11_law_44 tb_281 ok_X5_init rfl (g_X5_init l D b (N + 1) V_26 N (by omega) y_27 e_26) rfl (Nat.le_of_ble_eq_true rfl) ⟨Nat.le_of_ble_eq_true rfl, Nat.le_of_ble_eq_true rfl, Nat.le_of_ble_eq_true rfl, Nat.le_of_ble_eq_true rfl⟩ (fun  N_33 V_32 q_34 => ?_)
    obtain ⟨rfl, h_28, f_29⟩ := q_34
    have jA_30 := JW.skip j_26 f_29 hN
    have jB_31 : JW D b (N + 1) [(57, 72, 0, 1000000), (1, 1, 2, 2), (1, 1, 3, 3), (1, 1, 4, 4), (1, 1, 1, 1), (0, 0, 5, 5), (0, 0, 6, 6)] V_32 V_32 := JW.rf jA_30.1
    refine aw_bipush (v := 16) dX11_law_47 (by decide) ?_
    refine aw_callWi (J' := jX6_readLines) (y := ({ cls := "FearLocks$LawReader", name := "readLines", desc := "(I)I" } : Jvm.MethodName)) (RC := "FearLocks$LawReader") (owner := "FearLocks$LinesReader") (As := [.int 16]) (st := []) dX11_law_49 tb_301 okW_X6_readLines_X5 ⟨_, ((jB_31.2.1 _ (by omega) (by omega)).trans h_28)⟩ (by omega) rfl rfl (g_X6_readLines_LS l D b (N + 1) V_32 (by omega) jB_31.1 N y_27 ⟨by omega, by omega⟩ hy_27 ((jB_31.2.1 _ (by omega) (by omega)).trans h_28) g_1 ((f_29 _ (by omega)).trans ((k_26 _ (by omega)).trans ((JW.same q_20 (by decide) (fun k => (nfc (by omega) (nfc (by omega) nf0)))).trans ((JW.same q_13 (by decide) (fun k => (nfc (by omega) (nfc (by omega) (nfc (by omega) (nfc (by omega) nf0)))))).trans e_1)))) m_12 0 ⟨by omega, by omega⟩ ((congrArg (fun z => fI z 2) (f_29 _ (by omega))).trans ((congrArg (fun z => fI z 2) (k_26 _ (by omega))).trans ((JW.fI q_20 (by omega) (nfc (by omega) (nfc (by omega) nf0))).trans (h_14.2.1.trans m_12e)))) ((congrArg (fun z => fI z 3) (f_29 _ (by omega))).trans ((congrArg (fun z => fI z 3) (k_26 _ (by omega))).trans ((JW.fI q_20 (by omega) (nfc (by omega) (nfc (by omega) nf0))).trans h_14.2.2))) hB9) rfl (Nat.le_of_ble_eq_true rfl) ⟨Nat.le_of_ble_eq_true rfl, Nat.le_of_ble_eq_true rfl, Nat.le_of_ble_eq_true rfl, Nat.le_of_ble_eq_true rfl⟩ (fun r_39 N_40 V_38 q_41 => ?_)
    obtain ⟨h_36, rfl, q_35⟩ := q_41
    have j_37 := JW.trans jB_31 (JW.weak q_35 (Sub.cons (LMs (LMs LM0)) (by decide) (by decide) (by decide) (Or.inr ⟨by decide, by decide⟩) (Sub.cons LM0 (by omega) (by omega) (by decide) (Or.inl rfl) (Sub.cons LM0 (by omega) (by omega) (by decide) (Or.inl rfl) (Sub.cons LM0 (by omega) (by omega) (by decide) (Or.inl rfl) (Sub.cons LM0 (by omega) (by omega) (by decide) (Or.inl rfl) (Sub.cons LM0 (by omega) (by omega) (by decide) (Or.inl rfl) (Sub.cons LM0 (by omega) (by omega) (by decide) (Or.inl rfl) (Sub.cons (LMs (LMs (LMs LM0))) (by decide) (by decide) (by decide) (Or.inr ⟨by decide, by decide⟩) (Sub.cons LM0 (by omega) (by omega) (by decide) (Or.inl rfl) Sub.nil))))))))))
    refine aw_istore_n (ls' := [some (.ref (b + 0)), some (.int n0), some (.int r_39), none]) dX11_law_52 (Nat.le_of_ble_eq_true rfl) rfl ?_
    refine aw_iload_n dX11_law_53 rfl ?_
    refine aw_if_le (tgt := 75) dX11_law_54 (by decide) (fun c_42 => ?_) (fun c_42 => ?_)
    · skip
      refine aw_iload_n dX11_law_75 rfl ?_
      refine aw_ireti dX11_law_76 rfl (Nat.le_of_ble_eq_true rfl) (Nat.le_of_ble_eq_true rfl) ?_
      exact ⟨Nat.le_succ _, Nat.le_refl _, Or.inl ⟨(by have e0 : (0 : Int32).toInt = 0 := (by decide); have e1 : (1 : Int32).toInt = 1 := (by decide); have e240 : (240 : Int32).toInt = 240 := (by decide); have q0 := c_11; have q1 := h_4; simp only [cIn, ← Int32.toInt_inj, Int32.le_iff_toInt_le, Int32.lt_iff_toInt_lt] at q0 q1 ⊢; omega), h_36.trans (lawA_of e_1 m_12e (by omega)).symm⟩, Or.inl ⟨(by have e0 : (0 : Int32).toInt = 0 := (by decide); have e1 : (1 : Int32).toInt = 1 := (by decide); have e240 : (240 : Int32).toInt = 240 := (by decide); have q0 := c_11; have q1 := h_4; simp only [cIn, ← Int32.toInt_inj, Int32.le_iff_toInt_le, Int32.lt_iff_toInt_lt] at q0 q1 ⊢; omega), ((JW.fI q_35 (by omega) (nfc (by omega) (nfc (by omega) (nfc (by omega) (nfc (by omega) (nfc (by omega) (nfc (by omega) (nfc (by omega) (nfc (by omega) (nfc (by omega) nf0)))))))))).trans ((congrArg (fun z => fI z 1) (f_29 _ (by omega))).trans ((congrArg (fun z => fI z 1) (k_26 _ (by omega))).trans ((JW.fI q_20 (by omega) (nfc (by omega) (nfc (by omega) nf0))).trans h_14.1))))⟩, JW.trans jA_30 (JW.weakN j_37)⟩
    · skip
      refine aw_aload_n dX11_law_57 rfl ?_
      obtain ⟨ek_43, x_43, y_43, e_43, hx_43, hy_43⟩ := JW.get j_37 ct_0
      refine aw_get dX11_law_58 fl_X11_36 e_43 (by omega) rfl ?_
      refine aw_astore_n (ls' := [some (.ref (b + 0)), some (.int n0), some (.int r_39), some (.ref (b + x_43))]) dX11_law_61 (Nat.le_of_ble_eq_true rfl) rfl ?_
      refine aw_aload_n dX11_law_62 rfl ?_
      refine aw_aload_n dX11_law_63 rfl ?_
      refine aw_get dX11_law_64 fl_X11_40 e_43 (by omega) rfl ?_
      refine aw_put dX11_law_67 fp_X11_36 e_43 (by omega) rfl rfl (Nat.le_of_ble_eq_true rfl) rfl ?_
      refine aw_up j_37 ct_0 ⟨_, _, _, rfl, hy_43, hy_43⟩ (WO (s := 5) (x := .ref (b + y_43)) e_43 rfl (LMs (LMs (LMs (LMs (LMs LM0))))) (by decide) (by decide) (by decide) (Or.inl (by decide))) (fun V_44 j_44 k_44 e_44 => ?_)
      refine aw_aload_n dX11_law_70 rfl ?_
      refine aw_aload_n dX11_law_71 rfl ?_
      refine aw_put dX11_law_72 fp_X11_40 e_44 (by omega) rfl rfl (Nat.le_of_ble_eq_true rfl) rfl ?_
      refine aw_up j_44 ct_0 ⟨_, _, _, rfl, hy_43, hx_43⟩ (WO (s := 6) (x := .ref (b + x_43)) e_44 rfl (LMs (LMs (LMs (LMs (LMs (LMs LM0)))))) (by decide) (by decide) (by decide) (Or.inl (by decide))) (fun V_45 j_45 k_45 e_45 => ?_)
      refine aw_iload_n dX11_law_75 rfl ?_
      refine aw_ireti dX11_law_76 rfl (Nat.le_of_ble_eq_true rfl) (Nat.le_of_ble_eq_true rfl) ?_
      exact ⟨Nat.le_succ _, Nat.le_refl _, Or.inl ⟨(by have e0 : (0 : Int32).toInt = 0 := (by decide); have e1 : (1 : Int32).toInt = 1 := (by decide); have e240 : (240 : Int32).toInt = 240 := (by decide); have q0 := c_11; have q1 := h_4; simp only [cIn, ← Int32.toInt_inj, Int32.le_iff_toInt_le, Int32.lt_iff_toInt_lt] at q0 q1 ⊢; omega), h_36.trans (lawA_of e_1 m_12e (by omega)).symm⟩, Or.inl ⟨(by have e0 : (0 : Int32).toInt = 0 := (by decide); have e1 : (1 : Int32).toInt = 1 := (by decide); have e240 : (240 : Int32).toInt = 240 := (by decide); have q0 := c_11; have q1 := h_4; simp only [cIn, ← Int32.toInt_inj, Int32.le_iff_toInt_le, Int32.lt_iff_toInt_lt] at q0 q1 ⊢; omega), (KA (s := 6) (x := .ref (b + x_43)) e_44 rfl (by decide) e_45 k_45 (KA (s := 5) (x := .ref (b + y_43)) e_43 rfl (by decide) e_44 k_44 ((JW.fI q_35 (by omega) (nfc (by omega) (nfc (by omega) (nfc (by omega) (nfc (by omega) (nfc (by omega) (nfc (by omega) (nfc (by omega) (nfc (by omega) (nfc (by omega) nf0)))))))))).trans ((congrArg (fun z => fI z 1) (f_29 _ (by omega))).trans ((congrArg (fun z => fI z 1) (k_26 _ (by omega))).trans ((JW.fI q_20 (by omega) (nfc (by omega) (nfc (by omega) nf0))).trans h_14.1))))))⟩, JW.trans jA_30 (JW.weakN j_45)⟩
  · skip
    refine aw_iconst (v := (-1)) dX11_law_15 (by decide) ?_
    refine aw_ireti dX11_law_16 rfl (Nat.le_of_ble_eq_true rfl) (Nat.le_of_ble_eq_true rfl) ?_
    exact ⟨Nat.le_refl _, Nat.le_succ _, Or.inr ⟨(by have e0 : (0 : Int32).toInt = 0 := (by decide); have e1 : (1 : Int32).toInt = 1 := (by decide); have e240 : (240 : Int32).toInt = 240 := (by decide); have q0 := c_11; have q1 := h_4; simp only [cIn, ← Int32.toInt_inj, Int32.le_iff_toInt_le, Int32.lt_iff_toInt_lt] at q0 q1 ⊢; omega), rfl⟩, Or.inr ⟨(by have e0 : (0 : Int32).toInt = 0 := (by decide); have e1 : (1 : Int32).toInt = 1 := (by decide); have e240 : (240 : Int32).toInt = 240 := (by decide); have q0 := c_11; have q1 := h_4; simp only [cIn, ← Int32.toInt_inj, Int32.le_iff_toInt_le, Int32.lt_iff_toInt_lt] at q0 q1 ⊢; omega), (Eq.refl (fI (V 1) 1))⟩, hJ0⟩

