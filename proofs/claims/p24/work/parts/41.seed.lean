def SD (x a c r : Int32) : Prop := (a ≤ x ∧ x ≤ c ∧ r = 1) ∨ (¬ (a ≤ x ∧ x ≤ c) ∧ r = 0)
theorem SD.one {x a c r r9 : Int32} (h : SD x a c r) (h9 : SD x a c r9) : r = r9 := by
  rcases h with ⟨p, q, e⟩ | ⟨p, e⟩ <;> rcases h9 with ⟨p9, q9, e9⟩ | ⟨p9, e9⟩
  · rw [e, e9]
  · exact absurd ⟨p, q⟩ p9
  · exact absurd ⟨p9, q9⟩ p
  · rw [e, e9]

set_option maxHeartbeats 4000000 in
set_option maxRecDepth 100000 in
theorem g_X11_seedS (l : Launch) (D : va_G) (b : Nat) (N : Nat) (V : Wd) (hN : 100 ≤ N) (hW : CW D b V) (n0 : Int32)  : MI l D b 0 jX11_seed [.ref (b + 0), .int n0] N V 0 0 (fun r N9 V9 => SD n0 0 65535 r ∧ N = N9 ∧ JW D b N true V V9) := by
  have hJ0 : JW D b N true V V := JW.rf hW
  refine mw_of (by decide) (by simp [Value.category]) (Nat.le_of_ble_eq_true rfl) ?_
  show AW l D b jX11_seed (fx_rm 0 0 0) none (fx_MQ D b 0 0 (fx_qi (fun r N9 V9 => SD n0 0 65535 r ∧ N = N9 ∧ JW D b N true V V9))) 0 [some (.ref (b + 0)), some (.int n0)] [] N V 0 0
  refine aw_iload_n dX11_seed_0 rfl ?_
  refine aw_if_lt (tgt := 10) dX11_seed_1 (by decide) (fun c_1 => ?_) (fun c_1 => ?_)
  · skip
    refine aw_iconst (v := 0) dX11_seed_10 (by decide) ?_
    refine aw_zreti dX11_seed_11 rfl (by first | exact Or.inl rfl | exact Or.inr rfl | assumption) (Nat.le_of_ble_eq_true rfl) (Nat.le_of_ble_eq_true rfl) ?_
    exact ⟨(by first | exact Or.inl ⟨Int32.not_lt.mp c_1, c_2, rfl⟩ | exact Or.inr ⟨fun z => absurd c_1 (Int32.not_lt.mpr z.1), rfl⟩ | exact Or.inr ⟨fun z => c_2 z.2, rfl⟩), rfl, hJ0⟩
  · skip
    refine aw_iload_n dX11_seed_4 rfl ?_
    refine aw_ldc (v := 65535) dX11_seed_5 tb_946 ?_
    refine aw_icmp_le (tgt := 12) dX11_seed_7 (by decide) (fun c_2 => ?_) (fun c_2 => ?_)
    · skip
      refine aw_aload_n dX11_seed_12 rfl ?_
      obtain ⟨ek_3, x_3, y_3, e_3, hx_3, hy_3⟩ := JW.get hJ0 ct_0
      refine aw_get dX11_seed_13 fl_X11_19 e_3 (by omega) rfl ?_
      refine aw_iload_n dX11_seed_16 rfl ?_
      obtain ⟨pe_4, dd_4, ni_4, xx_4, e_4⟩ := JW.get hJ0 (ctc_0 cA_3)
      refine aw_put dX11_seed_17 fp_X11_265 e_4 (by omega) rfl rfl (Nat.le_of_ble_eq_true rfl) rfl ?_
      refine aw_up hJ0 (ctc_0 cA_3) ⟨_, _, _, _, rfl⟩ (fun _ => by omega) (fun V_5 j_5 k_5 e_5 => ?_)
      refine aw_iconst (v := 1) dX11_seed_20 (by decide) ?_
      refine aw_zreti dX11_seed_21 rfl (by first | exact Or.inl rfl | exact Or.inr rfl | assumption) (Nat.le_of_ble_eq_true rfl) (Nat.le_of_ble_eq_true rfl) ?_
      exact ⟨(by first | exact Or.inl ⟨Int32.not_lt.mp c_1, c_2, rfl⟩ | exact Or.inr ⟨fun z => absurd c_1 (Int32.not_lt.mpr z.1), rfl⟩ | exact Or.inr ⟨fun z => c_2 z.2, rfl⟩), rfl, j_5⟩
    · skip
      refine aw_iconst (v := 0) dX11_seed_10 (by decide) ?_
      refine aw_zreti dX11_seed_11 rfl (by first | exact Or.inl rfl | exact Or.inr rfl | assumption) (Nat.le_of_ble_eq_true rfl) (Nat.le_of_ble_eq_true rfl) ?_
      exact ⟨(by first | exact Or.inl ⟨Int32.not_lt.mp c_1, c_2, rfl⟩ | exact Or.inr ⟨fun z => absurd c_1 (Int32.not_lt.mpr z.1), rfl⟩ | exact Or.inr ⟨fun z => c_2 z.2, rfl⟩), rfl, hJ0⟩

set_option maxHeartbeats 4000000 in
set_option maxRecDepth 100000 in
theorem r_inS (l : Launch) (D : va_G) (b : Nat) (N : Nat) (V : Wd) (hN : 133 ≤ N) (cl : Nat) (hW : CR D b cl V) (n0 : Int32) (n1 : Int32) (n2 : Int32)  : MI l D b 0 jX12_in [.int n0, .int n1, .int n2] N V 0 0 (fun r N9 V9 => SD n0 n1 n2 r ∧ N = N9 ∧ V = V9) := by
  have hJ0 : JR D b N cl V V := JR.rf hW
  refine mw_of (by decide) (by simp [Value.category]) (Nat.le_of_ble_eq_true rfl) ?_
  show AW l D b jX12_in (fx_rm 0 0 0) none (fx_MQ D b 0 0 (fx_qi (fun r N9 V9 => SD n0 n1 n2 r ∧ N = N9 ∧ V = V9))) 0 [some (.int n0), some (.int n1), some (.int n2)] [] N V 0 0
  refine aw_iload_n dX12_in_0 rfl ?_
  refine aw_iload_n dX12_in_1 rfl ?_
  refine aw_icmp_lt (tgt := 14) dX12_in_2 (by decide) (fun c_1 => ?_) (fun c_1 => ?_)
  · skip
    refine aw_iconst (v := 0) dX12_in_14 (by decide) ?_
    refine aw_zreti dX12_in_15 rfl (by first | exact Or.inl rfl | exact Or.inr rfl | assumption) (Nat.le_of_ble_eq_true rfl) (Nat.le_of_ble_eq_true rfl) ?_
    exact ⟨(by first | exact Or.inl ⟨Int32.not_lt.mp c_1, Int32.not_lt.mp c_2, rfl⟩ | exact Or.inr ⟨fun z => absurd c_1 (Int32.not_lt.mpr z.1), rfl⟩ | exact Or.inr ⟨fun z => absurd c_2 (Int32.not_lt.mpr z.2), rfl⟩), rfl, rfl⟩
  · skip
    refine aw_iload_n dX12_in_5 rfl ?_
    refine aw_iload_n dX12_in_6 rfl ?_
    refine aw_icmp_gt (tgt := 14) dX12_in_7 (by decide) (fun c_2 => ?_) (fun c_2 => ?_)
    · skip
      refine aw_iconst (v := 0) dX12_in_14 (by decide) ?_
      refine aw_zreti dX12_in_15 rfl (by first | exact Or.inl rfl | exact Or.inr rfl | assumption) (Nat.le_of_ble_eq_true rfl) (Nat.le_of_ble_eq_true rfl) ?_
      exact ⟨(by first | exact Or.inl ⟨Int32.not_lt.mp c_1, Int32.not_lt.mp c_2, rfl⟩ | exact Or.inr ⟨fun z => absurd c_1 (Int32.not_lt.mpr z.1), rfl⟩ | exact Or.inr ⟨fun z => absurd c_2 (Int32.not_lt.mpr z.2), rfl⟩), rfl, rfl⟩
    · skip
      refine aw_iconst (v := 1) dX12_in_10 (by decide) ?_
      refine aw_goto (tgt := 15) dX12_in_11 (by decide) ?_
      refine aw_zreti dX12_in_15 rfl (by first | exact Or.inl rfl | exact Or.inr rfl | assumption) (Nat.le_of_ble_eq_true rfl) (Nat.le_of_ble_eq_true rfl) ?_
      exact ⟨(by first | exact Or.inl ⟨Int32.not_lt.mp c_1, Int32.not_lt.mp c_2, rfl⟩ | exact Or.inr ⟨fun z => absurd c_1 (Int32.not_lt.mpr z.1), rfl⟩ | exact Or.inr ⟨fun z => absurd c_2 (Int32.not_lt.mpr z.2), rfl⟩), rfl, rfl⟩

set_option maxHeartbeats 4000000 in
set_option maxRecDepth 100000 in
theorem r_seedS (l : Launch) (D : va_G) (b : Nat) (N : Nat) (V : Wd) (hN : 133 ≤ N) (cl : Nat) (hW : CR D b cl V) (n0 : Int32)  : MI l D b 1 jX12_seed [.ref (b + 100), .int n0] N V 0 0 (fun r N9 V9 => SD n0 0 65535 r ∧ N = N9 ∧ JR D b N cl V V9) := by
  have hJ0 : JR D b N cl V V := JR.rf hW
  refine mw_of (by decide) (by simp [Value.category]) (Nat.le_of_ble_eq_true rfl) ?_
  show AW l D b jX12_seed (fx_rm 1 0 0) none (fx_MQ D b 0 0 (fx_qi (fun r N9 V9 => SD n0 0 65535 r ∧ N = N9 ∧ JR D b N cl V V9))) 0 [some (.ref (b + 100)), some (.int n0)] [] N V 0 0
  refine aw_iload_n dX12_seed_0 rfl ?_
  refine aw_iconst (v := 0) dX12_seed_1 (by decide) ?_
  refine aw_ldcw (v := 65535) dX12_seed_2 tb_1314 ?_
  refine aw_callSi (J' := jX12_in) (As := [.int n0, .int 0, .int 65535]) (st := []) dX12_seed_5 tb_1209 ok_X12_in rfl (r_inS l D b N V hN cl hJ0.1 n0 0 65535) rfl (Nat.le_of_ble_eq_true rfl) ⟨Nat.le_of_ble_eq_true rfl, Nat.le_of_ble_eq_true rfl, Nat.le_of_ble_eq_true rfl, Nat.le_of_ble_eq_true rfl⟩ (fun r_4 N_5 V_6 q_7 => ?_)
  obtain ⟨hs9, rfl, rfl⟩ := q_7
  refine aw_if_ne (tgt := 13) dX12_seed_8 (by decide) (fun c_8 => ?_) (fun c_8 => ?_)
  · skip
    have hs8 : 0 ≤ n0 ∧ n0 ≤ 65535 := by
      rcases hs9 with ⟨p, q, e⟩ | ⟨p, e⟩
      · exact ⟨p, q⟩
      · exact absurd e c_8
    refine aw_aload_n dX12_seed_13 rfl ?_
    obtain ⟨ftoldPeople_9, ftoldDoors_9, fwasDoors_9, ffault_9, fopen_9, flines_9, fmeantSet_9, fopenedNow_9, fvainNow_9, flowNow_9, fhighNow_9, fisKept_9, tad_9, pl0_9, le0_9, nu0_9, coy_9, wag_9, say_9, e_9, hntad_9, hnpl0_9, hnle0_9, hnnu0_9, hncoy_9, hnwag_9, hnsay_9⟩ := JR.get hJ0 cm_100
    refine aw_get dX12_seed_14 fl_X12_7 e_9 (by omega) rfl ?_
    refine aw_sipush (v := 209) dX12_seed_17 (by decide) ?_
    refine aw_iload_n dX12_seed_20 rfl ?_
    obtain ⟨g_10, e_10⟩ := JR.get hJ0 cm_101
    refine aw_iast dX12_seed_21 e_10 (by omega) (vp_in_nI (n := 209) (N := 210) (by decide) (by decide)) ?_
    refine aw_upR hJ0 cm_101 ⟨_, rfl⟩ (by decide) (fun V_11 j_11 k_11 e_11 => ?_)
    refine aw_iconst (v := 1) dX12_seed_22 (by decide) ?_
    refine aw_zreti dX12_seed_23 rfl (by first | exact Or.inl rfl | exact Or.inr rfl | assumption) (Nat.le_of_ble_eq_true rfl) (Nat.le_of_ble_eq_true rfl) ?_
    exact ⟨(by first | exact Or.inl ⟨hs8.1, hs8.2, rfl⟩ | exact Or.inr ⟨fun z => by rcases hs9 with ⟨p, q, e⟩ | ⟨p, e⟩; exact absurd (c_8.symm.trans e) (by decide); exact p z, rfl⟩), rfl, j_11⟩
  · skip
    refine aw_iconst (v := 0) dX12_seed_11 (by decide) ?_
    refine aw_zreti dX12_seed_12 rfl (by first | exact Or.inl rfl | exact Or.inr rfl | assumption) (Nat.le_of_ble_eq_true rfl) (Nat.le_of_ble_eq_true rfl) ?_
    exact ⟨(by first | exact Or.inl ⟨hs8.1, hs8.2, rfl⟩ | exact Or.inr ⟨fun z => by rcases hs9 with ⟨p, q, e⟩ | ⟨p, e⟩; exact absurd (c_8.symm.trans e) (by decide); exact p z, rfl⟩), rfl, hJ0⟩
