set_option maxHeartbeats 4000000 in
set_option maxRecDepth 100000 in
theorem g_X5_startsLine (l : Launch) (D : va_G) (b : Nat) (N : Nat) (V : Wd) (hN : 100 ≤ N) (hW : CW D b V) (p x : Nat) (hp : 100 ≤ p ∧ p < N) (hx : x = 57 ∨ x = 65) (hR : V p = cO 5 [.ref (b + 1), .ref (b + x)]) (n0 : Int32)  : MI l D b 0 jX5_startsLine [.ref (b + p), .int n0] N V 0 0 (fun r N9 V9 => ((r = 0 ∨ r = 1) ∧ (r = 0 ∨ 0 ≤ n0)) ∧ N = N9 ∧ V = V9) := by
  have hJ0 : JW D b N [] V V := JW.rf hW
  refine mw_of (by decide) (by simp [Value.category]) (Nat.le_of_ble_eq_true rfl) ?_
  show AW l D b jX5_startsLine (fx_rm 0 0 0) none (fx_MQ D b 0 0 (fx_qi (fun r N9 V9 => ((r = 0 ∨ r = 1) ∧ (r = 0 ∨ 0 ≤ n0)) ∧ N = N9 ∧ V = V9))) 0 [some (.ref (b + p)), some (.int n0)] [] N V 0 0
  refine aw_iload_n dX5_startsLine_0 rfl ?_
  refine aw_bipush (v := 101) dX5_startsLine_1 (by decide) ?_
  refine aw_icmp_eq (tgt := 24) dX5_startsLine_3 (by decide) (fun c_1 => ?_) (fun c_1 => ?_)
  · skip
    refine aw_iconst (v := 1) dX5_startsLine_24 (by decide) ?_
    refine aw_goto (tgt := 29) dX5_startsLine_25 (by decide) ?_
    refine aw_zreti dX5_startsLine_29 rfl (by first | exact Or.inl rfl | exact Or.inr rfl | assumption) (Nat.le_of_ble_eq_true rfl) (Nat.le_of_ble_eq_true rfl) ?_
    exact ⟨⟨(by first | exact Or.inl rfl | exact Or.inr rfl | assumption), Or.inr (by rw [c_1]; decide)⟩, rfl, rfl⟩
  · skip
    refine aw_iload_n dX5_startsLine_6 rfl ?_
    refine aw_bipush (v := 99) dX5_startsLine_7 (by decide) ?_
    refine aw_icmp_eq (tgt := 24) dX5_startsLine_9 (by decide) (fun c_2 => ?_) (fun c_2 => ?_)
    · skip
      refine aw_iconst (v := 1) dX5_startsLine_24 (by decide) ?_
      refine aw_goto (tgt := 29) dX5_startsLine_25 (by decide) ?_
      refine aw_zreti dX5_startsLine_29 rfl (by first | exact Or.inl rfl | exact Or.inr rfl | assumption) (Nat.le_of_ble_eq_true rfl) (Nat.le_of_ble_eq_true rfl) ?_
      exact ⟨⟨(by first | exact Or.inl rfl | exact Or.inr rfl | assumption), Or.inr (by rw [c_2]; decide)⟩, rfl, rfl⟩
    · skip
      refine aw_iload_n dX5_startsLine_12 rfl ?_
      refine aw_bipush (v := 115) dX5_startsLine_13 (by decide) ?_
      refine aw_icmp_eq (tgt := 24) dX5_startsLine_15 (by decide) (fun c_3 => ?_) (fun c_3 => ?_)
      · skip
        refine aw_iconst (v := 1) dX5_startsLine_24 (by decide) ?_
        refine aw_goto (tgt := 29) dX5_startsLine_25 (by decide) ?_
        refine aw_zreti dX5_startsLine_29 rfl (by first | exact Or.inl rfl | exact Or.inr rfl | assumption) (Nat.le_of_ble_eq_true rfl) (Nat.le_of_ble_eq_true rfl) ?_
        exact ⟨⟨(by first | exact Or.inl rfl | exact Or.inr rfl | assumption), Or.inr (by rw [c_3]; decide)⟩, rfl, rfl⟩
      · skip
        refine aw_iload_n dX5_startsLine_18 rfl ?_
        refine aw_bipush (v := 120) dX5_startsLine_19 (by decide) ?_
        refine aw_icmp_ne (tgt := 28) dX5_startsLine_21 (by decide) (fun c_4 => ?_) (fun c_4 => ?_)
        · skip
          refine aw_iconst (v := 0) dX5_startsLine_28 (by decide) ?_
          refine aw_zreti dX5_startsLine_29 rfl (by first | exact Or.inl rfl | exact Or.inr rfl | assumption) (Nat.le_of_ble_eq_true rfl) (Nat.le_of_ble_eq_true rfl) ?_
          exact ⟨⟨(by first | exact Or.inl rfl | exact Or.inr rfl | assumption), Or.inl rfl⟩, rfl, rfl⟩
        · skip
          refine aw_iconst (v := 1) dX5_startsLine_24 (by decide) ?_
          refine aw_goto (tgt := 29) dX5_startsLine_25 (by decide) ?_
          refine aw_zreti dX5_startsLine_29 rfl (by first | exact Or.inl rfl | exact Or.inr rfl | assumption) (Nat.le_of_ble_eq_true rfl) (Nat.le_of_ble_eq_true rfl) ?_
          exact ⟨⟨(by first | exact Or.inl rfl | exact Or.inr rfl | assumption), Or.inr (by rw [c_4]; decide)⟩, rfl, rfl⟩

set_option maxHeartbeats 4000000 in
set_option maxRecDepth 100000 in
theorem g_X2_startsLine (l : Launch) (D : va_G) (b : Nat) (N : Nat) (V : Wd) (hN : 100 ≤ N) (hW : CW D b V) (p c : Nat) (pn : Int32) (hp : 100 ≤ p ∧ p < N) (hc : c = 3 ∨ c = 21 ∨ c = 39 ∨ c = 74) (hR : V p = cO 2 [.ref (b + 1), .ref (b + c), .int pn]) (n0 : Int32)  : MI l D b 1 jX2_startsLine [.ref (b + p), .int n0] N V 0 0 (fun r N9 V9 => ((r = 0 ∨ r = 1) ∧ (r = 0 ∨ 0 ≤ n0)) ∧ N = N9 ∧ V = V9) := by
  have hJ0 : JW D b N [] V V := JW.rf hW
  refine mw_of (by decide) (by simp [Value.category]) (Nat.le_of_ble_eq_true rfl) ?_
  show AW l D b jX2_startsLine (fx_rm 1 0 0) none (fx_MQ D b 0 0 (fx_qi (fun r N9 V9 => ((r = 0 ∨ r = 1) ∧ (r = 0 ∨ 0 ≤ n0)) ∧ N = N9 ∧ V = V9))) 0 [some (.ref (b + p)), some (.int n0)] [] N V 0 0
  refine aw_iload_n dX2_startsLine_0 rfl ?_
  refine aw_bipush (v := 42) dX2_startsLine_1 (by decide) ?_
  refine aw_icmp_eq (tgt := 13) dX2_startsLine_3 (by decide) (fun c_1 => ?_) (fun c_1 => ?_)
  · skip
    refine aw_iconst (v := 1) dX2_startsLine_13 (by decide) ?_
    refine aw_goto (tgt := 18) dX2_startsLine_14 (by decide) ?_
    refine aw_zreti dX2_startsLine_18 rfl (by first | exact Or.inl rfl | exact Or.inr rfl | assumption) (Nat.le_of_ble_eq_true rfl) (Nat.le_of_ble_eq_true rfl) ?_
    exact ⟨⟨(by first | exact Or.inl rfl | exact Or.inr rfl | assumption), Or.inr (by rw [c_1]; decide)⟩, rfl, rfl⟩
  · skip
    refine aw_iload_n dX2_startsLine_6 rfl ?_
    refine aw_callSi (J' := jX10_isFear) (As := [.int n0]) (st := []) dX2_startsLine_7 tb_326 ok_X10_isFear rfl (g_X10_isFear l D b N V hN hJ0.1 n0) rfl (Nat.le_of_ble_eq_true rfl) ⟨Nat.le_of_ble_eq_true rfl, Nat.le_of_ble_eq_true rfl, Nat.le_of_ble_eq_true rfl, Nat.le_of_ble_eq_true rfl⟩ (fun r_5 N_6 V_7 q_8 => ?_)
    obtain ⟨⟨z_4, h_3⟩, rfl, rfl⟩ := q_8
    refine aw_if_eq (tgt := 17) dX2_startsLine_10 (by decide) (fun c_9 => ?_) (fun c_9 => ?_)
    · skip
      refine aw_iconst (v := 0) dX2_startsLine_17 (by decide) ?_
      refine aw_zreti dX2_startsLine_18 rfl (by first | exact Or.inl rfl | exact Or.inr rfl | assumption) (Nat.le_of_ble_eq_true rfl) (Nat.le_of_ble_eq_true rfl) ?_
      exact ⟨⟨(by first | exact Or.inl rfl | exact Or.inr rfl | assumption), Or.inl rfl⟩, rfl, rfl⟩
    · skip
      have h0c_9 := h_3.resolve_left c_9
      refine aw_iconst (v := 1) dX2_startsLine_13 (by decide) ?_
      refine aw_goto (tgt := 18) dX2_startsLine_14 (by decide) ?_
      refine aw_zreti dX2_startsLine_18 rfl (by first | exact Or.inl rfl | exact Or.inr rfl | assumption) (Nat.le_of_ble_eq_true rfl) (Nat.le_of_ble_eq_true rfl) ?_
      exact ⟨⟨(by first | exact Or.inl rfl | exact Or.inr rfl | assumption), Or.inr h0c_9⟩, rfl, rfl⟩

set_option maxHeartbeats 4000000 in
set_option maxRecDepth 100000 in
theorem g_X8_startsLine (l : Launch) (D : va_G) (b : Nat) (N : Nat) (V : Wd) (hN : 100 ≤ N) (hW : CW D b V) (p c : Nat) (hp : 100 ≤ p ∧ p < N) (hc : c = 3 ∨ c = 21 ∨ c = 39 ∨ c = 74) (hR : V p = cO 7 [.ref (b + 1), .ref (b + c)]) (n0 : Int32)  : MI l D b 1 jX8_startsLine [.ref (b + p), .int n0] N V 0 0 (fun r N9 V9 => ((r = 0 ∨ r = 1) ∧ (r = 0 ∨ 0 ≤ n0)) ∧ N = N9 ∧ V = V9) := by
  have hJ0 : JW D b N [] V V := JW.rf hW
  refine mw_of (by decide) (by simp [Value.category]) (Nat.le_of_ble_eq_true rfl) ?_
  show AW l D b jX8_startsLine (fx_rm 1 0 0) none (fx_MQ D b 0 0 (fx_qi (fun r N9 V9 => ((r = 0 ∨ r = 1) ∧ (r = 0 ∨ 0 ≤ n0)) ∧ N = N9 ∧ V = V9))) 0 [some (.ref (b + p)), some (.int n0)] [] N V 0 0
  refine aw_iload_n dX8_startsLine_0 rfl ?_
  refine aw_bipush (v := 100) dX8_startsLine_1 (by decide) ?_
  refine aw_icmp_eq (tgt := 13) dX8_startsLine_3 (by decide) (fun c_1 => ?_) (fun c_1 => ?_)
  · skip
    refine aw_iconst (v := 1) dX8_startsLine_13 (by decide) ?_
    refine aw_goto (tgt := 18) dX8_startsLine_14 (by decide) ?_
    refine aw_zreti dX8_startsLine_18 rfl (by first | exact Or.inl rfl | exact Or.inr rfl | assumption) (Nat.le_of_ble_eq_true rfl) (Nat.le_of_ble_eq_true rfl) ?_
    exact ⟨⟨(by first | exact Or.inl rfl | exact Or.inr rfl | assumption), Or.inr (by rw [c_1]; decide)⟩, rfl, rfl⟩
  · skip
    refine aw_iload_n dX8_startsLine_6 rfl ?_
    refine aw_callSi (J' := jX10_isDigit) (As := [.int n0]) (st := []) dX8_startsLine_7 tb_335 ok_X10_isDigit rfl (g_X10_isDigit l D b N V hN hJ0.1 n0) rfl (Nat.le_of_ble_eq_true rfl) ⟨Nat.le_of_ble_eq_true rfl, Nat.le_of_ble_eq_true rfl, Nat.le_of_ble_eq_true rfl, Nat.le_of_ble_eq_true rfl⟩ (fun r_5 N_6 V_7 q_8 => ?_)
    obtain ⟨⟨z_4, h_3⟩, rfl, rfl⟩ := q_8
    refine aw_if_eq (tgt := 17) dX8_startsLine_10 (by decide) (fun c_9 => ?_) (fun c_9 => ?_)
    · skip
      refine aw_iconst (v := 0) dX8_startsLine_17 (by decide) ?_
      refine aw_zreti dX8_startsLine_18 rfl (by first | exact Or.inl rfl | exact Or.inr rfl | assumption) (Nat.le_of_ble_eq_true rfl) (Nat.le_of_ble_eq_true rfl) ?_
      exact ⟨⟨(by first | exact Or.inl rfl | exact Or.inr rfl | assumption), Or.inl rfl⟩, rfl, rfl⟩
    · skip
      have h0c_9 := h_3.resolve_left c_9
      refine aw_iconst (v := 1) dX8_startsLine_13 (by decide) ?_
      refine aw_goto (tgt := 18) dX8_startsLine_14 (by decide) ?_
      refine aw_zreti dX8_startsLine_18 rfl (by first | exact Or.inl rfl | exact Or.inr rfl | assumption) (Nat.le_of_ble_eq_true rfl) (Nat.le_of_ble_eq_true rfl) ?_
      exact ⟨⟨(by first | exact Or.inl rfl | exact Or.inr rfl | assumption), Or.inr h0c_9⟩, rfl, rfl⟩

set_option maxHeartbeats 4000000 in
set_option maxRecDepth 100000 in
theorem g_X5_joinsFactors (l : Launch) (D : va_G) (b : Nat) (N : Nat) (V : Wd) (hN : 100 ≤ N) (hW : CW D b V) (n0 : Int32)  : MI l D b 0 jX5_joinsFactors [.int n0] N V 0 0 (fun r N9 V9 => ((r = 0 ∨ r = 1) ∧ (r = 0 ∨ 0 ≤ n0)) ∧ N = N9 ∧ V = V9) := by
  have hJ0 : JW D b N [] V V := JW.rf hW
  refine mw_of (by decide) (by simp [Value.category]) (Nat.le_of_ble_eq_true rfl) ?_
  show AW l D b jX5_joinsFactors (fx_rm 0 0 0) none (fx_MQ D b 0 0 (fx_qi (fun r N9 V9 => ((r = 0 ∨ r = 1) ∧ (r = 0 ∨ 0 ≤ n0)) ∧ N = N9 ∧ V = V9))) 0 [some (.int n0)] [] N V 0 0
  refine aw_iload_n dX5_joinsFactors_0 rfl ?_
  refine aw_bipush (v := 42) dX5_joinsFactors_1 (by decide) ?_
  refine aw_icmp_eq (tgt := 18) dX5_joinsFactors_3 (by decide) (fun c_1 => ?_) (fun c_1 => ?_)
  · skip
    refine aw_iconst (v := 1) dX5_joinsFactors_18 (by decide) ?_
    refine aw_goto (tgt := 23) dX5_joinsFactors_19 (by decide) ?_
    refine aw_zreti dX5_joinsFactors_23 rfl (by first | exact Or.inl rfl | exact Or.inr rfl | assumption) (Nat.le_of_ble_eq_true rfl) (Nat.le_of_ble_eq_true rfl) ?_
    exact ⟨⟨(by first | exact Or.inl rfl | exact Or.inr rfl | assumption), Or.inr (by rw [c_1]; decide)⟩, rfl, rfl⟩
  · skip
    refine aw_iload_n dX5_joinsFactors_6 rfl ?_
    refine aw_bipush (v := 47) dX5_joinsFactors_7 (by decide) ?_
    refine aw_icmp_eq (tgt := 18) dX5_joinsFactors_9 (by decide) (fun c_2 => ?_) (fun c_2 => ?_)
    · skip
      refine aw_iconst (v := 1) dX5_joinsFactors_18 (by decide) ?_
      refine aw_goto (tgt := 23) dX5_joinsFactors_19 (by decide) ?_
      refine aw_zreti dX5_joinsFactors_23 rfl (by first | exact Or.inl rfl | exact Or.inr rfl | assumption) (Nat.le_of_ble_eq_true rfl) (Nat.le_of_ble_eq_true rfl) ?_
      exact ⟨⟨(by first | exact Or.inl rfl | exact Or.inr rfl | assumption), Or.inr (by rw [c_2]; decide)⟩, rfl, rfl⟩
    · skip
      refine aw_iload_n dX5_joinsFactors_12 rfl ?_
      refine aw_bipush (v := 37) dX5_joinsFactors_13 (by decide) ?_
      refine aw_icmp_ne (tgt := 22) dX5_joinsFactors_15 (by decide) (fun c_3 => ?_) (fun c_3 => ?_)
      · skip
        refine aw_iconst (v := 0) dX5_joinsFactors_22 (by decide) ?_
        refine aw_zreti dX5_joinsFactors_23 rfl (by first | exact Or.inl rfl | exact Or.inr rfl | assumption) (Nat.le_of_ble_eq_true rfl) (Nat.le_of_ble_eq_true rfl) ?_
        exact ⟨⟨(by first | exact Or.inl rfl | exact Or.inr rfl | assumption), Or.inl rfl⟩, rfl, rfl⟩
      · skip
        refine aw_iconst (v := 1) dX5_joinsFactors_18 (by decide) ?_
        refine aw_goto (tgt := 23) dX5_joinsFactors_19 (by decide) ?_
        refine aw_zreti dX5_joinsFactors_23 rfl (by first | exact Or.inl rfl | exact Or.inr rfl | assumption) (Nat.le_of_ble_eq_true rfl) (Nat.le_of_ble_eq_true rfl) ?_
        exact ⟨⟨(by first | exact Or.inl rfl | exact Or.inr rfl | assumption), Or.inr (by rw [c_3]; decide)⟩, rfl, rfl⟩

set_option maxHeartbeats 4000000 in
set_option maxRecDepth 100000 in
theorem g_X2_readFears (l : Launch) (D : va_G) (b : Nat) (N : Nat) (V : Wd) (hN : 100 ≤ N) (hW : CW D b V) (p c : Nat) (pn : Int32) (hp : 100 ≤ p ∧ p < N) (hc : c = 3 ∨ c = 21 ∨ c = 39 ∨ c = 74) (hR : V p = cO 2 [.ref (b + 1), .ref (b + c), .int pn]) (a : Nat) (hT : TA b a V) : MI l D b 1 jX2_readFears [.ref (b + p)] N V 0 0 (fun r N9 V9 => (∃ a9, a ≤ a9 ∧ TA b a9 V9) ∧ N = N9 ∧ JW D b N [(1, 1, 3, 3), (1, 1, 4, 4)] V V9) := by
  have hJ0 : JW D b N [(1, 1, 3, 3), (1, 1, 4, 4)] V V := JW.rf hW
  obtain ⟨⟨ts_0, tn_0, tf_0, te_0⟩, ha_0⟩ := id hT
  refine mw_of (by decide) (by simp [Value.category]) (Nat.le_of_ble_eq_true rfl) ?_
  show AW l D b jX2_readFears (fx_rm 1 0 0) none (fx_MQ D b 0 0 (fx_qi (fun r N9 V9 => (∃ a9, a ≤ a9 ∧ TA b a9 V9) ∧ N = N9 ∧ JW D b N [(1, 1, 3, 3), (1, 1, 4, 4)] V V9))) 0 [some (.ref (b + p)), none, none] [] N V 0 0
  refine aw_aload_n dX2_readFears_0 rfl ?_
  refine aw_get dX2_readFears_1 fl_X2_29 ((hJ0.2.1 _ hp.1 hp.2).trans hR) (by omega) rfl ?_
  refine aw_callVi (J' := jX10_now) (As := []) (st := []) dX2_readFears_4 tb_354 ok_X10_now ⟨_, te_0⟩ (by omega) rfl rfl (g_X10_now l D b N V hN hJ0.1 a (⟨⟨_, _, _, te_0⟩, by omega⟩)) rfl (Nat.le_of_ble_eq_true rfl) ⟨Nat.le_of_ble_eq_true rfl, Nat.le_of_ble_eq_true rfl, Nat.le_of_ble_eq_true rfl, Nat.le_of_ble_eq_true rfl⟩ (fun r_3 N_4 V_5 q_6 => ?_)
  obtain ⟨h_2, rfl, rfl⟩ := q_6
  refine aw_bipush (v := 42) dX2_readFears_7 (by decide) ?_
  refine aw_icmp_ne (tgt := 28) dX2_readFears_9 (by decide) (fun c_7 => ?_) (fun c_7 => ?_)
  · skip
    refine aw_iconst (v := 0) dX2_readFears_28 (by decide) ?_
    refine aw_istore_n (ls' := [some (.ref (b + p)), some (.int 0), none]) dX2_readFears_29 (Nat.le_of_ble_eq_true rfl) rfl ?_
    have ml_30_8 : ∀ (m : Nat) (a30 : Nat) (v30_1 : Int32) (V30 : Wd), m = 260 - a30 → (JW D b N [(1, 1, 3, 3), (1, 1, 4, 4)] V V30) → (TA b a30 V30) → (a ≤ a30) → AW l D b jX2_readFears (fx_rm 1 0 0) none (fx_MQ D b 0 0 (fx_qi (fun r N9 V9 => (∃ a9, a ≤ a9 ∧ TA b a9 V9) ∧ N = N9 ∧ JW D b N [(1, 1, 3, 3), (1, 1, 4, 4)] V V9))) 30 [some (.ref (b + p)), some (.int v30_1), none] [] N V30 0 0 := by
      intro m; refine Nat.strongRecOn m ?_
      intro m mih_30_8 a30 v30_1 V30 hm30 i30_0 i30_1 i30_2
      obtain ⟨⟨ts_30, tn_30, tf_30, te_30⟩, hb_30⟩ := i30_1
      refine aw_aload_n dX2_readFears_30 rfl ?_
      refine aw_get dX2_readFears_31 fl_X2_29 ((i30_0.2.1 _ hp.1 hp.2).trans hR) (by omega) rfl ?_
      refine aw_get dX2_readFears_34 fl_X2_40 te_30 (by omega) rfl ?_
      refine aw_aload_n dX2_readFears_37 rfl ?_
      refine aw_get dX2_readFears_38 fl_X2_29 ((i30_0.2.1 _ hp.1 hp.2).trans hR) (by omega) rfl ?_
      refine aw_get dX2_readFears_41 fl_X2_57 te_30 (by omega) rfl ?_
      refine aw_icmp_ge (tgt := 120) dX2_readFears_44 (by decide) (fun c_9 => ?_) (fun c_9 => ?_)
      · skip
        refine aw_iload_n dX2_readFears_120 rfl ?_
        refine aw_ireti dX2_readFears_121 rfl (Nat.le_of_ble_eq_true rfl) (Nat.le_of_ble_eq_true rfl) ?_
        exact ⟨⟨a30, by omega, ⟨⟨_, _, _, te_30⟩, by omega⟩⟩, rfl, i30_0⟩
      · skip
        refine aw_aload_n dX2_readFears_47 rfl ?_
        refine aw_get dX2_readFears_48 fl_X2_29 ((i30_0.2.1 _ hp.1 hp.2).trans hR) (by omega) rfl ?_
        refine aw_callVi (J' := jX10_now) (As := []) (st := []) dX2_readFears_51 tb_354 ok_X10_now ⟨_, te_30⟩ (by omega) rfl rfl (g_X10_now l D b N V30 hN i30_0.1 a30 (⟨⟨_, _, _, te_30⟩, by omega⟩)) rfl (Nat.le_of_ble_eq_true rfl) ⟨Nat.le_of_ble_eq_true rfl, Nat.le_of_ble_eq_true rfl, Nat.le_of_ble_eq_true rfl, Nat.le_of_ble_eq_true rfl⟩ (fun r_12 N_13 V_14 q_15 => ?_)
        obtain ⟨h_11, rfl, rfl⟩ := q_15
        refine aw_callSi (J' := jX10_isFear) (As := [.int r_12]) (st := []) dX2_readFears_54 tb_326 ok_X10_isFear rfl (g_X10_isFear l D b N V30 hN i30_0.1 r_12) rfl (Nat.le_of_ble_eq_true rfl) ⟨Nat.le_of_ble_eq_true rfl, Nat.le_of_ble_eq_true rfl, Nat.le_of_ble_eq_true rfl, Nat.le_of_ble_eq_true rfl⟩ (fun r_19 N_20 V_21 q_22 => ?_)
        obtain ⟨⟨z_18, h_17⟩, rfl, rfl⟩ := q_22
        refine aw_if_eq (tgt := 120) dX2_readFears_57 (by decide) (fun c_23 => ?_) (fun c_23 => ?_)
        · skip
          refine aw_iload_n dX2_readFears_120 rfl ?_
          refine aw_ireti dX2_readFears_121 rfl (Nat.le_of_ble_eq_true rfl) (Nat.le_of_ble_eq_true rfl) ?_
          exact ⟨⟨a30, by omega, ⟨⟨_, _, _, te_30⟩, by omega⟩⟩, rfl, i30_0⟩
        · skip
          have h0c_23 := h_17.resolve_left c_23
          have hlc_23 := h_11.resolve_left (fun z => absurd h0c_23 (by rw [z]; decide))
          refine aw_aload_n dX2_readFears_60 rfl ?_
          refine aw_get dX2_readFears_61 fl_X2_29 ((i30_0.2.1 _ hp.1 hp.2).trans hR) (by omega) rfl ?_
          refine aw_callVi (J' := jX10_now) (As := []) (st := []) dX2_readFears_64 tb_354 ok_X10_now ⟨_, te_30⟩ (by omega) rfl rfl (g_X10_now l D b N V30 hN i30_0.1 a30 (⟨⟨_, _, _, te_30⟩, by omega⟩)) rfl (Nat.le_of_ble_eq_true rfl) ⟨Nat.le_of_ble_eq_true rfl, Nat.le_of_ble_eq_true rfl, Nat.le_of_ble_eq_true rfl, Nat.le_of_ble_eq_true rfl⟩ (fun r_26 N_27 V_28 q_29 => ?_)
          obtain ⟨h_25, rfl, rfl⟩ := q_29
          refine aw_bipush (v := 97) dX2_readFears_67 (by decide) ?_
          refine aw_isub dX2_readFears_69 ?_
          refine aw_istore_n (ls' := [some (.ref (b + p)), some (.int v30_1), some (.int (r_26 - 97))]) dX2_readFears_70 (Nat.le_of_ble_eq_true rfl) rfl ?_
          refine aw_iload_n dX2_readFears_71 rfl ?_
          refine aw_iload_n dX2_readFears_72 rfl ?_
          refine aw_callSNi (J' := jX11_has) (As := [.int v30_1, .int (r_26 - 97)]) (st := []) dX2_readFears_73 tb_356 ok_X11_has rfl (g_X11_has l D b N V30 hN i30_0.1 v30_1 (r_26 - 97)) rfl (Nat.le_of_ble_eq_true rfl) ⟨Nat.le_of_ble_eq_true rfl, Nat.le_of_ble_eq_true rfl, Nat.le_of_ble_eq_true rfl, Nat.le_of_ble_eq_true rfl⟩ (fun r_32 N_33 V_34 q_35 => ?_)
          obtain ⟨h_31, rfl, rfl⟩ := q_35
          refine aw_if_eq (tgt := 98) dX2_readFears_76 (by decide) (fun c_36 => ?_) (fun c_36 => ?_)
          · skip
            refine aw_iload_n dX2_readFears_98 rfl ?_
            refine aw_iconst (v := 1) dX2_readFears_99 (by decide) ?_
            refine aw_iload_n dX2_readFears_100 rfl ?_
            refine aw_ishl dX2_readFears_101 ?_
            refine aw_ior dX2_readFears_102 ?_
            refine aw_istore_n (ls' := [some (.ref (b + p)), some (.int (v30_1 ||| ((1 : Int32) <<< ((r_26 - 97) &&& 31)))), some (.int (r_26 - 97))]) dX2_readFears_103 (Nat.le_of_ble_eq_true rfl) rfl ?_
            refine aw_aload_n dX2_readFears_104 rfl ?_
            refine aw_get dX2_readFears_105 fl_X2_29 ((i30_0.2.1 _ hp.1 hp.2).trans hR) (by omega) rfl ?_
            refine aw_dup dX2_readFears_108 rfl ?_
            refine aw_get dX2_readFears_109 fl_X2_40 te_30 (by omega) rfl ?_
            refine aw_iconst (v := 1) dX2_readFears_112 (by decide) ?_
            refine aw_iadd dX2_readFears_113 ?_
            refine aw_eqi (y := nI (a30 + 1)) (nI_add _ _) ?_
            refine aw_put dX2_readFears_114 fp_X2_40 te_30 (by omega) rfl rfl (Nat.le_of_ble_eq_true rfl) rfl ?_
            refine aw_up i30_0 ct_1 ⟨_, _, _, (a30 + 1), rfl, (by first | omega | (split <;> omega))⟩ (WO (s := 3) (x := .int (nI (a30 + 1))) te_30 rfl LM0 (by decide) (by decide) (by decide) (Or.inl (by decide))) (fun V_37 j_37 k_37 e_37 => ?_)
            refine aw_goto (tgt := 30) dX2_readFears_117 (by decide) ?_
            refine aw_le ?_ (mih_30_8 _ (by omega) (a30 + 1) (v30_1 ||| ((1 : Int32) <<< ((r_26 - 97) &&& 31))) V_37 rfl (j_37) (⟨⟨_, _, _, e_37⟩, by omega⟩) (by omega))
            exact ⟨rfl, ⟨rfl, trivial⟩⟩
          · skip
            refine aw_aload_n dX2_readFears_79 rfl ?_
            refine aw_get dX2_readFears_80 fl_X2_29 ((i30_0.2.1 _ hp.1 hp.2).trans hR) (by omega) rfl ?_
            refine aw_bipush (v := 6) dX2_readFears_83 (by decide) ?_
            refine aw_aload_n dX2_readFears_85 rfl ?_
            refine aw_get dX2_readFears_86 fl_X2_29 ((i30_0.2.1 _ hp.1 hp.2).trans hR) (by omega) rfl ?_
            refine aw_get dX2_readFears_89 fl_X2_40 te_30 (by omega) rfl ?_
            refine aw_callVi (J' := jX10_fail) (As := [.int 6, .int (nI a30)]) (st := []) dX2_readFears_92 tb_359 ok_X10_fail ⟨_, te_30⟩ (by omega) rfl rfl (g_X10_fail l D b N V30 hN i30_0.1 6 (nI a30) a30 (⟨⟨_, _, _, te_30⟩, by omega⟩)) rfl (Nat.le_of_ble_eq_true rfl) ⟨Nat.le_of_ble_eq_true rfl, Nat.le_of_ble_eq_true rfl, Nat.le_of_ble_eq_true rfl, Nat.le_of_ble_eq_true rfl⟩ (fun r_47 N_48 V_42 q_49 => ?_)
            obtain ⟨⟨z_40, h_39⟩, rfl, q_38⟩ := q_49
            have j_41 := JW.trans i30_0 (JW.weak q_38 (Sub.cons (LMs LM0) (by decide) (by decide) (by decide) (Or.inr ⟨by decide, by decide⟩) Sub.nil))
            obtain ⟨h_46, a_43, ha_44, ⟨ts_t_45, tn_t_45, tf_t_45, te_t_45⟩, hb_t_45⟩ := h_39
            obtain rfl := h_46
            refine aw_pop dX2_readFears_95 rfl ?_
            refine aw_iconst (v := 0) dX2_readFears_96 (by decide) ?_
            refine aw_ireti dX2_readFears_97 rfl (Nat.le_of_ble_eq_true rfl) (Nat.le_of_ble_eq_true rfl) ?_
            exact ⟨⟨a_43, by omega, ⟨⟨_, _, _, te_t_45⟩, by omega⟩⟩, rfl, j_41⟩
    refine aw_le ?_ (ml_30_8 _ a 0 V rfl (hJ0) (⟨⟨_, _, _, te_0⟩, by omega⟩) (by omega))
    exact ⟨rfl, ⟨rfl, trivial⟩⟩
  · skip
    have hlc_7 := h_2.resolve_left (by rw [c_7]; decide)
    refine aw_aload_n dX2_readFears_12 rfl ?_
    refine aw_get dX2_readFears_13 fl_X2_29 ((hJ0.2.1 _ hp.1 hp.2).trans hR) (by omega) rfl ?_
    refine aw_dup dX2_readFears_16 rfl ?_
    refine aw_get dX2_readFears_17 fl_X2_40 te_0 (by omega) rfl ?_
    refine aw_iconst (v := 1) dX2_readFears_20 (by decide) ?_
    refine aw_iadd dX2_readFears_21 ?_
    refine aw_eqi (y := nI (a + 1)) (nI_add _ _) ?_
    refine aw_put dX2_readFears_22 fp_X2_40 te_0 (by omega) rfl rfl (Nat.le_of_ble_eq_true rfl) rfl ?_
    refine aw_up hJ0 ct_1 ⟨_, _, _, (a + 1), rfl, (by first | omega | (split <;> omega))⟩ (WO (s := 3) (x := .int (nI (a + 1))) te_0 rfl LM0 (by decide) (by decide) (by decide) (Or.inl (by decide))) (fun V_50 j_50 k_50 e_50 => ?_)
    refine aw_ldc (v := 65535) dX2_readFears_25 tb_355 ?_
    refine aw_ireti dX2_readFears_27 rfl (Nat.le_of_ble_eq_true rfl) (Nat.le_of_ble_eq_true rfl) ?_
    exact ⟨⟨(a + 1), by omega, ⟨⟨_, _, _, e_50⟩, by omega⟩⟩, rfl, j_50⟩

set_option maxHeartbeats 4000000 in
set_option maxRecDepth 100000 in
theorem g_X2_change (l : Launch) (D : va_G) (b : Nat) (N : Nat) (V : Wd) (hN : 100 ≤ N) (hW : CW D b V) (p c : Nat) (pn : Int32) (hp : 100 ≤ p ∧ p < N) (hc : c = 3 ∨ c = 21 ∨ c = 39 ∨ c = 74) (hR : V p = cO 2 [.ref (b + 1), .ref (b + c), .int pn]) (n0 : Int32) (n1 : Int32) (n2 : Int32)  : MV l D b 2 jX2_change [.ref (b + p), .int n0, .int n1, .int n2] N V 0 0 (fun N9 V9 => N = N9 ∧ JW D b N [(c + 2, c + 13, 0, 1000000)] V V9) := by
  have hJ0 : JW D b N [(c + 2, c + 13, 0, 1000000)] V V := JW.rf hW
  refine mw_of (by decide) (by simp [Value.category]) (Nat.le_of_ble_eq_true rfl) ?_
  show AW l D b jX2_change (fx_rm 2 0 0) none (fx_MQ D b 0 0 (fx_qv (fun N9 V9 => N = N9 ∧ JW D b N [(c + 2, c + 13, 0, 1000000)] V V9))) 0 [some (.ref (b + p)), some (.int n0), some (.int n1), some (.int n2), none, none] [] N V 0 0
  refine aw_iconst (v := 0) dX2_change_0 (by decide) ?_
  refine aw_istore (ls' := [some (.ref (b + p)), some (.int n0), some (.int n1), some (.int n2), some (.int 0), none]) dX2_change_1 (Nat.le_of_ble_eq_true rfl) rfl ?_
  have loop_3_0 : ∀ (g_3 : Nat), ∀ (j3 : Nat)  (V3 : Wd), j3 + g_3 = 16 → (JW D b N [(c + 2, c + 13, 0, 1000000)] V V3) → AW l D b jX2_change (fx_rm 2 0 0) none (fx_MQ D b 0 0 (fx_qv (fun N9 V9 => N = N9 ∧ JW D b N [(c + 2, c + 13, 0, 1000000)] V V9))) 3 [some (.ref (b + p)), some (.int n0), some (.int n1), some (.int n2), some (.int (nI j3)), none] [] N V3 0 0 := by
    intro g_3
    induction g_3 with
    | zero =>
      intro j3  V3 hj3 i3_0
      obtain rfl : j3 = 16 := by omega
      refine aw_iload dX2_change_3 rfl ?_
      refine aw_bipush (v := 16) dX2_change_5 (by decide) ?_
      refine aw_icmp_ge (tgt := 80) dX2_change_7 (by decide) (fun c_3 => ?_) (fun c_3 => ?_)
      rotate_left
      · exact absurd (nI_le (a := 16) (b := 16) (Nat.le_refl _) (by omega)) c_3
      refine aw_vreti dX2_change_80 rfl (Nat.le_of_ble_eq_true rfl) (Nat.le_of_ble_eq_true rfl) ?_
      exact ⟨rfl, i3_0⟩
    | succ g_3 ih_3_1 =>
      intro j3  V3 hj3 i3_0
      have hlj3 : j3 < 16 := by omega
      refine aw_iload dX2_change_3 rfl ?_
      refine aw_bipush (v := 16) dX2_change_5 (by decide) ?_
      refine aw_icmp_ge (tgt := 80) dX2_change_7 (by decide) (fun c_4 => ?_) (fun c_4 => ?_)
      · exact absurd c_4 (nI_ge (a := j3) (b := 16) (by omega) (by omega))
      refine aw_iload_n dX2_change_10 rfl ?_
      refine aw_iload dX2_change_11 rfl ?_
      refine aw_callSNi (J' := jX11_has) (As := [.int n0, .int (nI j3)]) (st := []) dX2_change_13 tb_356 ok_X11_has rfl (g_X11_has l D b N V3 hN i3_0.1 n0 (nI j3)) rfl (Nat.le_of_ble_eq_true rfl) ⟨Nat.le_of_ble_eq_true rfl, Nat.le_of_ble_eq_true rfl, Nat.le_of_ble_eq_true rfl, Nat.le_of_ble_eq_true rfl⟩ (fun r_7 N_8 V_9 q_10 => ?_)
      obtain ⟨h_6, rfl, rfl⟩ := q_10
      refine aw_if_eq (tgt := 74) dX2_change_16 (by decide) (fun c_11 => ?_) (fun c_11 => ?_)
      · skip
        refine aw_iinc (v := (nI (j3 + 1))) (ls' := [some (.ref (b + p)), some (.int n0), some (.int n1), some (.int n2), some (.int (nI (j3 + 1))), none]) dX2_change_74 rfl (fx_up_1 _) (Nat.le_of_ble_eq_true rfl) rfl ?_
        refine aw_goto (tgt := 3) dX2_change_77 (by decide) ?_
        refine aw_le ?_ (ih_3_1 (j3 + 1)  V3 (by omega) (i3_0))
        exact ⟨rfl, ⟨rfl, ⟨rfl, ⟨rfl, ⟨rfl, trivial⟩⟩⟩⟩⟩
      · skip
        refine aw_iload_n dX2_change_19 rfl ?_
        refine aw_bipush (v := 61) dX2_change_20 (by decide) ?_
        refine aw_icmp_ne (tgt := 29) dX2_change_22 (by decide) (fun c_12 => ?_) (fun c_12 => ?_)
        · skip
          refine aw_aload_n dX2_change_29 rfl ?_
          refine aw_get dX2_change_30 fl_X2_9 ((i3_0.2.1 _ hp.1 hp.2).trans hR) (by omega) rfl ?_
          refine aw_aload_n dX2_change_33 rfl ?_
          refine aw_get dX2_change_34 fl_X2_15 ((i3_0.2.1 _ hp.1 hp.2).trans hR) (by omega) rfl ?_
          refine aw_iload dX2_change_37 rfl ?_
          obtain ⟨pe_14, dd_14, ni_14, xx_14, e_14⟩ := JW.get i3_0 (ctc_0 hc)
          refine aw_callVi (J' := jX0_dreadOf) (As := [.int pn, .int (nI j3)]) (st := []) dX2_change_39 tb_370 ok_X0_dreadOf ⟨_, e_14⟩ (by omega) rfl rfl (g_X0_dreadOf l D b N V3 hN i3_0.1 c hc pn (nI j3)) rfl (Nat.le_of_ble_eq_true rfl) ⟨Nat.le_of_ble_eq_true rfl, Nat.le_of_ble_eq_true rfl, Nat.le_of_ble_eq_true rfl, Nat.le_of_ble_eq_true rfl⟩ (fun r_15 N_16 V_17 q_18 => ?_)
          obtain ⟨rfl, rfl⟩ := q_18
          refine aw_istore (ls' := [some (.ref (b + p)), some (.int n0), some (.int n1), some (.int n2), some (.int (nI j3)), some (.int r_15)]) dX2_change_42 (Nat.le_of_ble_eq_true rfl) rfl ?_
          refine aw_aload_n dX2_change_44 rfl ?_
          refine aw_get dX2_change_45 fl_X2_9 ((i3_0.2.1 _ hp.1 hp.2).trans hR) (by omega) rfl ?_
          refine aw_aload_n dX2_change_48 rfl ?_
          refine aw_get dX2_change_49 fl_X2_15 ((i3_0.2.1 _ hp.1 hp.2).trans hR) (by omega) rfl ?_
          refine aw_iload dX2_change_52 rfl ?_
          refine aw_iload_n dX2_change_54 rfl ?_
          refine aw_bipush (v := 45) dX2_change_55 (by decide) ?_
          refine aw_icmp_ne (tgt := 67) dX2_change_57 (by decide) (fun c_19 => ?_) (fun c_19 => ?_)
          · skip
            refine aw_iload dX2_change_67 rfl ?_
            refine aw_iload_n dX2_change_69 rfl ?_
            refine aw_iadd dX2_change_70 ?_
            refine aw_callVv (J' := jX0_setDread) (As := [.int pn, .int (nI j3), .int (r_15 + n2)]) (st := []) dX2_change_71 tb_374 ok_X0_setDread ⟨_, e_14⟩ (by omega) rfl rfl (g_X0_setDread l D b N V3 hN i3_0.1 c hc pn (nI j3) (r_15 + n2)) rfl (Nat.le_of_ble_eq_true rfl) ⟨Nat.le_of_ble_eq_true rfl, Nat.le_of_ble_eq_true rfl, Nat.le_of_ble_eq_true rfl, Nat.le_of_ble_eq_true rfl⟩ (fun  N_23 V_22 q_24 => ?_)
            obtain ⟨rfl, q_20⟩ := q_24
            have j_21 := JW.trans i3_0 (JW.weak q_20 (Sub.cons LM0 (by omega) (by omega) (by decide) (Or.inl rfl) Sub.nil))
            refine aw_iinc (v := (nI (j3 + 1))) (ls' := [some (.ref (b + p)), some (.int n0), some (.int n1), some (.int n2), some (.int (nI (j3 + 1))), some (.int r_15)]) dX2_change_74 rfl (fx_up_1 _) (Nat.le_of_ble_eq_true rfl) rfl ?_
            refine aw_goto (tgt := 3) dX2_change_77 (by decide) ?_
            refine aw_le ?_ (ih_3_1 (j3 + 1)  V_22 (by omega) (j_21))
            exact ⟨rfl, ⟨rfl, ⟨rfl, ⟨rfl, ⟨rfl, trivial⟩⟩⟩⟩⟩
          · skip
            refine aw_iload dX2_change_60 rfl ?_
            refine aw_iload_n dX2_change_62 rfl ?_
            refine aw_isub dX2_change_63 ?_
            refine aw_goto (tgt := 71) dX2_change_64 (by decide) ?_
            refine aw_callVv (J' := jX0_setDread) (As := [.int pn, .int (nI j3), .int (r_15 - n2)]) (st := []) dX2_change_71 tb_374 ok_X0_setDread ⟨_, e_14⟩ (by omega) rfl rfl (g_X0_setDread l D b N V3 hN i3_0.1 c hc pn (nI j3) (r_15 - n2)) rfl (Nat.le_of_ble_eq_true rfl) ⟨Nat.le_of_ble_eq_true rfl, Nat.le_of_ble_eq_true rfl, Nat.le_of_ble_eq_true rfl, Nat.le_of_ble_eq_true rfl⟩ (fun  N_28 V_27 q_29 => ?_)
            obtain ⟨rfl, q_25⟩ := q_29
            have j_26 := JW.trans i3_0 (JW.weak q_25 (Sub.cons LM0 (by omega) (by omega) (by decide) (Or.inl rfl) Sub.nil))
            refine aw_iinc (v := (nI (j3 + 1))) (ls' := [some (.ref (b + p)), some (.int n0), some (.int n1), some (.int n2), some (.int (nI (j3 + 1))), some (.int r_15)]) dX2_change_74 rfl (fx_up_1 _) (Nat.le_of_ble_eq_true rfl) rfl ?_
            refine aw_goto (tgt := 3) dX2_change_77 (by decide) ?_
            refine aw_le ?_ (ih_3_1 (j3 + 1)  V_27 (by omega) (j_26))
            exact ⟨rfl, ⟨rfl, ⟨rfl, ⟨rfl, ⟨rfl, trivial⟩⟩⟩⟩⟩
        · skip
          refine aw_iconst (v := 0) dX2_change_25 (by decide) ?_
          refine aw_goto (tgt := 42) dX2_change_26 (by decide) ?_
          refine aw_istore (ls' := [some (.ref (b + p)), some (.int n0), some (.int n1), some (.int n2), some (.int (nI j3)), some (.int 0)]) dX2_change_42 (Nat.le_of_ble_eq_true rfl) rfl ?_
          refine aw_aload_n dX2_change_44 rfl ?_
          refine aw_get dX2_change_45 fl_X2_9 ((i3_0.2.1 _ hp.1 hp.2).trans hR) (by omega) rfl ?_
          refine aw_aload_n dX2_change_48 rfl ?_
          refine aw_get dX2_change_49 fl_X2_15 ((i3_0.2.1 _ hp.1 hp.2).trans hR) (by omega) rfl ?_
          refine aw_iload dX2_change_52 rfl ?_
          refine aw_iload_n dX2_change_54 rfl ?_
          refine aw_bipush (v := 45) dX2_change_55 (by decide) ?_
          refine aw_icmp_ne (tgt := 67) dX2_change_57 (by decide) (fun c_30 => ?_) (fun c_30 => ?_)
          · skip
            refine aw_iload dX2_change_67 rfl ?_
            refine aw_iload_n dX2_change_69 rfl ?_
            refine aw_iadd dX2_change_70 ?_
            obtain ⟨pe_34, dd_34, ni_34, xx_34, e_34⟩ := JW.get i3_0 (ctc_0 hc)
            refine aw_callVv (J' := jX0_setDread) (As := [.int pn, .int (nI j3), .int (0 + n2)]) (st := []) dX2_change_71 tb_374 ok_X0_setDread ⟨_, e_34⟩ (by omega) rfl rfl (g_X0_setDread l D b N V3 hN i3_0.1 c hc pn (nI j3) (0 + n2)) rfl (Nat.le_of_ble_eq_true rfl) ⟨Nat.le_of_ble_eq_true rfl, Nat.le_of_ble_eq_true rfl, Nat.le_of_ble_eq_true rfl, Nat.le_of_ble_eq_true rfl⟩ (fun  N_35 V_33 q_36 => ?_)
            obtain ⟨rfl, q_31⟩ := q_36
            have j_32 := JW.trans i3_0 (JW.weak q_31 (Sub.cons LM0 (by omega) (by omega) (by decide) (Or.inl rfl) Sub.nil))
            refine aw_iinc (v := (nI (j3 + 1))) (ls' := [some (.ref (b + p)), some (.int n0), some (.int n1), some (.int n2), some (.int (nI (j3 + 1))), some (.int 0)]) dX2_change_74 rfl (fx_up_1 _) (Nat.le_of_ble_eq_true rfl) rfl ?_
            refine aw_goto (tgt := 3) dX2_change_77 (by decide) ?_
            refine aw_le ?_ (ih_3_1 (j3 + 1)  V_33 (by omega) (j_32))
            exact ⟨rfl, ⟨rfl, ⟨rfl, ⟨rfl, ⟨rfl, trivial⟩⟩⟩⟩⟩
          · skip
            refine aw_iload dX2_change_60 rfl ?_
            refine aw_iload_n dX2_change_62 rfl ?_
            refine aw_isub dX2_change_63 ?_
            refine aw_goto (tgt := 71) dX2_change_64 (by decide) ?_
            obtain ⟨pe_40, dd_40, ni_40, xx_40, e_40⟩ := JW.get i3_0 (ctc_0 hc)
            refine aw_callVv (J' := jX0_setDread) (As := [.int pn, .int (nI j3), .int (0 - n2)]) (st := []) dX2_change_71 tb_374 ok_X0_setDread ⟨_, e_40⟩ (by omega) rfl rfl (g_X0_setDread l D b N V3 hN i3_0.1 c hc pn (nI j3) (0 - n2)) rfl (Nat.le_of_ble_eq_true rfl) ⟨Nat.le_of_ble_eq_true rfl, Nat.le_of_ble_eq_true rfl, Nat.le_of_ble_eq_true rfl, Nat.le_of_ble_eq_true rfl⟩ (fun  N_41 V_39 q_42 => ?_)
            obtain ⟨rfl, q_37⟩ := q_42
            have j_38 := JW.trans i3_0 (JW.weak q_37 (Sub.cons LM0 (by omega) (by omega) (by decide) (Or.inl rfl) Sub.nil))
            refine aw_iinc (v := (nI (j3 + 1))) (ls' := [some (.ref (b + p)), some (.int n0), some (.int n1), some (.int n2), some (.int (nI (j3 + 1))), some (.int 0)]) dX2_change_74 rfl (fx_up_1 _) (Nat.le_of_ble_eq_true rfl) rfl ?_
            refine aw_goto (tgt := 3) dX2_change_77 (by decide) ?_
            refine aw_le ?_ (ih_3_1 (j3 + 1)  V_39 (by omega) (j_38))
            exact ⟨rfl, ⟨rfl, ⟨rfl, ⟨rfl, ⟨rfl, trivial⟩⟩⟩⟩⟩
  refine aw_le ?_ (loop_3_0 16 0  V (by omega) (hJ0))
  exact ⟨rfl, ⟨rfl, ⟨rfl, ⟨rfl, ⟨rfl, trivial⟩⟩⟩⟩⟩

set_option maxHeartbeats 4000000 in
set_option maxRecDepth 100000 in
theorem g_X2_readLine (l : Launch) (D : va_G) (b : Nat) (N : Nat) (V : Wd) (hN : 100 ≤ N) (hW : CW D b V) (p c : Nat) (pn : Int32) (hp : 100 ≤ p ∧ p < N) (hc : c = 3 ∨ c = 21 ∨ c = 39 ∨ c = 74) (hR : V p = cO 2 [.ref (b + 1), .ref (b + c), .int pn]) (a : Nat) (hT : TA b a V) : MI l D b 3 jX2_readLine [.ref (b + p)] N V 0 0 (fun r N9 V9 => ((r = 0 ∨ r = 1) ∧ (∃ a9, a ≤ a9 ∧ TA b a9 V9)) ∧ N = N9 ∧ JW D b N [(1, 1, 3, 3), (1, 1, 4, 4), (c, c, 5, 5), (c + 2, c + 13, 0, 1000000)] V V9) := by
  have hJ0 : JW D b N [(1, 1, 3, 3), (1, 1, 4, 4), (c, c, 5, 5), (c + 2, c + 13, 0, 1000000)] V V := JW.rf hW
  obtain ⟨⟨ts_0, tn_0, tf_0, te_0⟩, ha_0⟩ := id hT
  refine mw_of (by decide) (by simp [Value.category]) (Nat.le_of_ble_eq_true rfl) ?_
  show AW l D b jX2_readLine (fx_rm 3 0 0) none (fx_MQ D b 0 0 (fx_qi (fun r N9 V9 => ((r = 0 ∨ r = 1) ∧ (∃ a9, a ≤ a9 ∧ TA b a9 V9)) ∧ N = N9 ∧ JW D b N [(1, 1, 3, 3), (1, 1, 4, 4), (c, c, 5, 5), (c + 2, c + 13, 0, 1000000)] V V9))) 0 [some (.ref (b + p)), none, none, none] [] N V 0 0
  refine aw_aload_n dX2_readLine_0 rfl ?_
  refine aw_callVi (J' := jX2_readFears) (As := []) (st := []) dX2_readLine_1 tb_349 ok_X2_readFears ⟨_, ((hJ0.2.1 _ hp.1 hp.2).trans hR)⟩ (by omega) rfl rfl (g_X2_readFears l D b N V hN hJ0.1 p c pn ⟨by omega, by omega⟩ hc ((hJ0.2.1 _ hp.1 hp.2).trans hR) a (⟨⟨_, _, _, te_0⟩, by omega⟩)) rfl (Nat.le_of_ble_eq_true rfl) ⟨Nat.le_of_ble_eq_true rfl, Nat.le_of_ble_eq_true rfl, Nat.le_of_ble_eq_true rfl, Nat.le_of_ble_eq_true rfl⟩ (fun r_8 N_9 V_4 q_10 => ?_)
  obtain ⟨h_2, rfl, q_1⟩ := q_10
  have j_3 := JW.trans hJ0 (JW.weak q_1 (Sub.cons LM0 (by decide) (by decide) (by decide) (Or.inr ⟨by decide, by decide⟩) (Sub.cons (LMs LM0) (by decide) (by decide) (by decide) (Or.inr ⟨by decide, by decide⟩) Sub.nil)))
  obtain ⟨a_5, ha_6, ⟨ts_t_7, tn_t_7, tf_t_7, te_t_7⟩, hb_t_7⟩ := h_2
  refine aw_istore_n (ls' := [some (.ref (b + p)), some (.int r_8), none, none]) dX2_readLine_4 (Nat.le_of_ble_eq_true rfl) rfl ?_
  refine aw_iload_n dX2_readLine_5 rfl ?_
  refine aw_if_ne (tgt := 11) dX2_readLine_6 (by decide) (fun c_11 => ?_) (fun c_11 => ?_)
  · skip
    refine aw_aload_n dX2_readLine_11 rfl ?_
    refine aw_get dX2_readLine_12 fl_X2_29 ((j_3.2.1 _ hp.1 hp.2).trans hR) (by omega) rfl ?_
    refine aw_callVi (J' := jX10_now) (As := []) (st := []) dX2_readLine_15 tb_354 ok_X10_now ⟨_, te_t_7⟩ (by omega) rfl rfl (g_X10_now l D b N V_4 hN j_3.1 a_5 (⟨⟨_, _, _, te_t_7⟩, by omega⟩)) rfl (Nat.le_of_ble_eq_true rfl) ⟨Nat.le_of_ble_eq_true rfl, Nat.le_of_ble_eq_true rfl, Nat.le_of_ble_eq_true rfl, Nat.le_of_ble_eq_true rfl⟩ (fun r_14 N_15 V_16 q_17 => ?_)
    obtain ⟨h_13, rfl, rfl⟩ := q_17
    refine aw_istore_n (ls' := [some (.ref (b + p)), some (.int r_8), some (.int r_14), none]) dX2_readLine_18 (Nat.le_of_ble_eq_true rfl) rfl ?_
    refine aw_iload_n dX2_readLine_19 rfl ?_
    refine aw_bipush (v := 61) dX2_readLine_20 (by decide) ?_
    refine aw_icmp_eq (tgt := 45) dX2_readLine_22 (by decide) (fun c_18 => ?_) (fun c_18 => ?_)
    · skip
      have hlc_18 := h_13.resolve_left (by rw [c_18]; decide)
      refine aw_aload_n dX2_readLine_45 rfl ?_
      refine aw_get dX2_readLine_46 fl_X2_29 ((j_3.2.1 _ hp.1 hp.2).trans hR) (by omega) rfl ?_
      refine aw_dup dX2_readLine_49 rfl ?_
      refine aw_get dX2_readLine_50 fl_X2_40 te_t_7 (by omega) rfl ?_
      refine aw_iconst (v := 1) dX2_readLine_53 (by decide) ?_
      refine aw_iadd dX2_readLine_54 ?_
      refine aw_eqi (y := nI (a_5 + 1)) (nI_add _ _) ?_
      refine aw_put dX2_readLine_55 fp_X2_40 te_t_7 (by omega) rfl rfl (Nat.le_of_ble_eq_true rfl) rfl ?_
      refine aw_up j_3 ct_1 ⟨_, _, _, (a_5 + 1), rfl, (by first | omega | (split <;> omega))⟩ (WO (s := 3) (x := .int (nI (a_5 + 1))) te_t_7 rfl LM0 (by decide) (by decide) (by decide) (Or.inl (by decide))) (fun V_19 j_19 k_19 e_19 => ?_)
      refine aw_aload_n dX2_readLine_58 rfl ?_
      refine aw_get dX2_readLine_59 fl_X2_29 ((j_19.2.1 _ hp.1 hp.2).trans hR) (by omega) rfl ?_
      refine aw_iconst (v := 2) dX2_readLine_62 (by decide) ?_
      refine aw_callVi (J' := jX10_readNumber) (As := [.int 2]) (st := []) dX2_readLine_63 tb_361 ok_X10_readNumber ⟨_, e_19⟩ (by omega) rfl rfl (g_X10_readNumber l D b N V_19 hN j_19.1 2 (a_5 + 1) (⟨⟨_, _, _, e_19⟩, by omega⟩)) rfl (Nat.le_of_ble_eq_true rfl) ⟨Nat.le_of_ble_eq_true rfl, Nat.le_of_ble_eq_true rfl, Nat.le_of_ble_eq_true rfl, Nat.le_of_ble_eq_true rfl⟩ (fun r_27 N_28 V_23 q_29 => ?_)
      obtain ⟨h_21, rfl, q_20⟩ := q_29
      have j_22 := JW.trans j_19 (JW.weak q_20 (Sub.cons LM0 (by decide) (by decide) (by decide) (Or.inr ⟨by decide, by decide⟩) (Sub.cons (LMs LM0) (by decide) (by decide) (by decide) (Or.inr ⟨by decide, by decide⟩) Sub.nil)))
      obtain ⟨a_24, ha_25, ⟨ts_t_26, tn_t_26, tf_t_26, te_t_26⟩, hb_t_26⟩ := h_21
      refine aw_istore_n (ls' := [some (.ref (b + p)), some (.int r_8), some (.int r_14), some (.int r_27)]) dX2_readLine_66 (Nat.le_of_ble_eq_true rfl) rfl ?_
      refine aw_iload_n dX2_readLine_67 rfl ?_
      refine aw_if_ge (tgt := 73) dX2_readLine_68 (by decide) (fun c_30 => ?_) (fun c_30 => ?_)
      · skip
        refine aw_aload_n dX2_readLine_73 rfl ?_
        refine aw_get dX2_readLine_74 fl_X2_9 ((j_22.2.1 _ hp.1 hp.2).trans hR) (by omega) rfl ?_
        refine aw_dup dX2_readLine_77 rfl ?_
        obtain ⟨pe_31, dd_31, ni_31, xx_31, e_31⟩ := JW.get j_22 (ctc_0 hc)
        refine aw_get dX2_readLine_78 fl_X2_47 e_31 (by omega) rfl ?_
        refine aw_iconst (v := 1) dX2_readLine_81 (by decide) ?_
        refine aw_aload_n dX2_readLine_82 rfl ?_
        refine aw_get dX2_readLine_83 fl_X2_15 ((j_22.2.1 _ hp.1 hp.2).trans hR) (by omega) rfl ?_
        refine aw_ishl dX2_readLine_86 ?_
        refine aw_ior dX2_readLine_87 ?_
        refine aw_put dX2_readLine_88 fp_X2_47 e_31 (by omega) rfl rfl (Nat.le_of_ble_eq_true rfl) rfl ?_
        refine aw_up j_22 (ctc_0 hc) ⟨_, _, _, _, rfl⟩ (WO (s := 5) (x := .int (pe_31 ||| ((1 : Int32) <<< (pn &&& 31)))) e_31 rfl (LMs (LMs LM0)) (by omega) (by omega) (by decide) (Or.inl (by decide))) (fun V_32 j_32 k_32 e_32 => ?_)
        refine aw_aload_n dX2_readLine_91 rfl ?_
        refine aw_iload_n dX2_readLine_92 rfl ?_
        refine aw_iload_n dX2_readLine_93 rfl ?_
        refine aw_iload_n dX2_readLine_94 rfl ?_
        refine aw_callVv (J' := jX2_change) (As := [.int r_8, .int r_14, .int r_27]) (st := []) dX2_readLine_95 tb_366 ok_X2_change ⟨_, ((j_32.2.1 _ hp.1 hp.2).trans hR)⟩ (by omega) rfl rfl (g_X2_change l D b N V_32 hN j_32.1 p c pn ⟨by omega, by omega⟩ hc ((j_32.2.1 _ hp.1 hp.2).trans hR) r_8 r_14 r_27) rfl (Nat.le_of_ble_eq_true rfl) ⟨Nat.le_of_ble_eq_true rfl, Nat.le_of_ble_eq_true rfl, Nat.le_of_ble_eq_true rfl, Nat.le_of_ble_eq_true rfl⟩ (fun  N_36 V_35 q_37 => ?_)
        obtain ⟨rfl, q_33⟩ := q_37
        have j_34 := JW.trans j_32 (JW.weak q_33 (Sub.cons (LMs (LMs (LMs LM0))) (by omega) (by omega) (by decide) (Or.inl rfl) Sub.nil))
        refine aw_iconst (v := 1) dX2_readLine_98 (by decide) ?_
        refine aw_zreti dX2_readLine_99 rfl (by first | exact Or.inl rfl | exact Or.inr rfl | assumption) (Nat.le_of_ble_eq_true rfl) (Nat.le_of_ble_eq_true rfl) ?_
        exact ⟨⟨(by first | exact Or.inl rfl | exact Or.inr rfl | assumption), ⟨a_24, by omega, ⟨⟨_, _, _, ((JW.same q_33 (by decide) (fun k => (nfc (by omega) nf0))).trans ((k_32 _ (by omega)).trans te_t_26))⟩, by omega⟩⟩⟩, rfl, j_34⟩
      · skip
        refine aw_iconst (v := 0) dX2_readLine_71 (by decide) ?_
        refine aw_zreti dX2_readLine_72 rfl (by first | exact Or.inl rfl | exact Or.inr rfl | assumption) (Nat.le_of_ble_eq_true rfl) (Nat.le_of_ble_eq_true rfl) ?_
        exact ⟨⟨(by first | exact Or.inl rfl | exact Or.inr rfl | assumption), ⟨a_24, by omega, ⟨⟨_, _, _, te_t_26⟩, by omega⟩⟩⟩, rfl, j_22⟩
    · skip
      refine aw_iload_n dX2_readLine_25 rfl ?_
      refine aw_bipush (v := 43) dX2_readLine_26 (by decide) ?_
      refine aw_icmp_eq (tgt := 45) dX2_readLine_28 (by decide) (fun c_38 => ?_) (fun c_38 => ?_)
      · skip
        have hlc_38 := h_13.resolve_left (by rw [c_38]; decide)
        refine aw_aload_n dX2_readLine_45 rfl ?_
        refine aw_get dX2_readLine_46 fl_X2_29 ((j_3.2.1 _ hp.1 hp.2).trans hR) (by omega) rfl ?_
        refine aw_dup dX2_readLine_49 rfl ?_
        refine aw_get dX2_readLine_50 fl_X2_40 te_t_7 (by omega) rfl ?_
        refine aw_iconst (v := 1) dX2_readLine_53 (by decide) ?_
        refine aw_iadd dX2_readLine_54 ?_
        refine aw_eqi (y := nI (a_5 + 1)) (nI_add _ _) ?_
        refine aw_put dX2_readLine_55 fp_X2_40 te_t_7 (by omega) rfl rfl (Nat.le_of_ble_eq_true rfl) rfl ?_
        refine aw_up j_3 ct_1 ⟨_, _, _, (a_5 + 1), rfl, (by first | omega | (split <;> omega))⟩ (WO (s := 3) (x := .int (nI (a_5 + 1))) te_t_7 rfl LM0 (by decide) (by decide) (by decide) (Or.inl (by decide))) (fun V_39 j_39 k_39 e_39 => ?_)
        refine aw_aload_n dX2_readLine_58 rfl ?_
        refine aw_get dX2_readLine_59 fl_X2_29 ((j_39.2.1 _ hp.1 hp.2).trans hR) (by omega) rfl ?_
        refine aw_iconst (v := 2) dX2_readLine_62 (by decide) ?_
        refine aw_callVi (J' := jX10_readNumber) (As := [.int 2]) (st := []) dX2_readLine_63 tb_361 ok_X10_readNumber ⟨_, e_39⟩ (by omega) rfl rfl (g_X10_readNumber l D b N V_39 hN j_39.1 2 (a_5 + 1) (⟨⟨_, _, _, e_39⟩, by omega⟩)) rfl (Nat.le_of_ble_eq_true rfl) ⟨Nat.le_of_ble_eq_true rfl, Nat.le_of_ble_eq_true rfl, Nat.le_of_ble_eq_true rfl, Nat.le_of_ble_eq_true rfl⟩ (fun r_47 N_48 V_43 q_49 => ?_)
        obtain ⟨h_41, rfl, q_40⟩ := q_49
        have j_42 := JW.trans j_39 (JW.weak q_40 (Sub.cons LM0 (by decide) (by decide) (by decide) (Or.inr ⟨by decide, by decide⟩) (Sub.cons (LMs LM0) (by decide) (by decide) (by decide) (Or.inr ⟨by decide, by decide⟩) Sub.nil)))
        obtain ⟨a_44, ha_45, ⟨ts_t_46, tn_t_46, tf_t_46, te_t_46⟩, hb_t_46⟩ := h_41
        refine aw_istore_n (ls' := [some (.ref (b + p)), some (.int r_8), some (.int r_14), some (.int r_47)]) dX2_readLine_66 (Nat.le_of_ble_eq_true rfl) rfl ?_
        refine aw_iload_n dX2_readLine_67 rfl ?_
        refine aw_if_ge (tgt := 73) dX2_readLine_68 (by decide) (fun c_50 => ?_) (fun c_50 => ?_)
        · skip
          refine aw_aload_n dX2_readLine_73 rfl ?_
          refine aw_get dX2_readLine_74 fl_X2_9 ((j_42.2.1 _ hp.1 hp.2).trans hR) (by omega) rfl ?_
          refine aw_dup dX2_readLine_77 rfl ?_
          obtain ⟨pe_51, dd_51, ni_51, xx_51, e_51⟩ := JW.get j_42 (ctc_0 hc)
          refine aw_get dX2_readLine_78 fl_X2_47 e_51 (by omega) rfl ?_
          refine aw_iconst (v := 1) dX2_readLine_81 (by decide) ?_
          refine aw_aload_n dX2_readLine_82 rfl ?_
          refine aw_get dX2_readLine_83 fl_X2_15 ((j_42.2.1 _ hp.1 hp.2).trans hR) (by omega) rfl ?_
          refine aw_ishl dX2_readLine_86 ?_
          refine aw_ior dX2_readLine_87 ?_
          refine aw_put dX2_readLine_88 fp_X2_47 e_51 (by omega) rfl rfl (Nat.le_of_ble_eq_true rfl) rfl ?_
          refine aw_up j_42 (ctc_0 hc) ⟨_, _, _, _, rfl⟩ (WO (s := 5) (x := .int (pe_51 ||| ((1 : Int32) <<< (pn &&& 31)))) e_51 rfl (LMs (LMs LM0)) (by omega) (by omega) (by decide) (Or.inl (by decide))) (fun V_52 j_52 k_52 e_52 => ?_)
          refine aw_aload_n dX2_readLine_91 rfl ?_
          refine aw_iload_n dX2_readLine_92 rfl ?_
          refine aw_iload_n dX2_readLine_93 rfl ?_
          refine aw_iload_n dX2_readLine_94 rfl ?_
          refine aw_callVv (J' := jX2_change) (As := [.int r_8, .int r_14, .int r_47]) (st := []) dX2_readLine_95 tb_366 ok_X2_change ⟨_, ((j_52.2.1 _ hp.1 hp.2).trans hR)⟩ (by omega) rfl rfl (g_X2_change l D b N V_52 hN j_52.1 p c pn ⟨by omega, by omega⟩ hc ((j_52.2.1 _ hp.1 hp.2).trans hR) r_8 r_14 r_47) rfl (Nat.le_of_ble_eq_true rfl) ⟨Nat.le_of_ble_eq_true rfl, Nat.le_of_ble_eq_true rfl, Nat.le_of_ble_eq_true rfl, Nat.le_of_ble_eq_true rfl⟩ (fun  N_56 V_55 q_57 => ?_)
          obtain ⟨rfl, q_53⟩ := q_57
          have j_54 := JW.trans j_52 (JW.weak q_53 (Sub.cons (LMs (LMs (LMs LM0))) (by omega) (by omega) (by decide) (Or.inl rfl) Sub.nil))
          refine aw_iconst (v := 1) dX2_readLine_98 (by decide) ?_
          refine aw_zreti dX2_readLine_99 rfl (by first | exact Or.inl rfl | exact Or.inr rfl | assumption) (Nat.le_of_ble_eq_true rfl) (Nat.le_of_ble_eq_true rfl) ?_
          exact ⟨⟨(by first | exact Or.inl rfl | exact Or.inr rfl | assumption), ⟨a_44, by omega, ⟨⟨_, _, _, ((JW.same q_53 (by decide) (fun k => (nfc (by omega) nf0))).trans ((k_52 _ (by omega)).trans te_t_46))⟩, by omega⟩⟩⟩, rfl, j_54⟩
        · skip
          refine aw_iconst (v := 0) dX2_readLine_71 (by decide) ?_
          refine aw_zreti dX2_readLine_72 rfl (by first | exact Or.inl rfl | exact Or.inr rfl | assumption) (Nat.le_of_ble_eq_true rfl) (Nat.le_of_ble_eq_true rfl) ?_
          exact ⟨⟨(by first | exact Or.inl rfl | exact Or.inr rfl | assumption), ⟨a_44, by omega, ⟨⟨_, _, _, te_t_46⟩, by omega⟩⟩⟩, rfl, j_42⟩
      · skip
        refine aw_iload_n dX2_readLine_31 rfl ?_
        refine aw_bipush (v := 45) dX2_readLine_32 (by decide) ?_
        refine aw_icmp_eq (tgt := 45) dX2_readLine_34 (by decide) (fun c_58 => ?_) (fun c_58 => ?_)
        · skip
          have hlc_58 := h_13.resolve_left (by rw [c_58]; decide)
          refine aw_aload_n dX2_readLine_45 rfl ?_
          refine aw_get dX2_readLine_46 fl_X2_29 ((j_3.2.1 _ hp.1 hp.2).trans hR) (by omega) rfl ?_
          refine aw_dup dX2_readLine_49 rfl ?_
          refine aw_get dX2_readLine_50 fl_X2_40 te_t_7 (by omega) rfl ?_
          refine aw_iconst (v := 1) dX2_readLine_53 (by decide) ?_
          refine aw_iadd dX2_readLine_54 ?_
          refine aw_eqi (y := nI (a_5 + 1)) (nI_add _ _) ?_
          refine aw_put dX2_readLine_55 fp_X2_40 te_t_7 (by omega) rfl rfl (Nat.le_of_ble_eq_true rfl) rfl ?_
          refine aw_up j_3 ct_1 ⟨_, _, _, (a_5 + 1), rfl, (by first | omega | (split <;> omega))⟩ (WO (s := 3) (x := .int (nI (a_5 + 1))) te_t_7 rfl LM0 (by decide) (by decide) (by decide) (Or.inl (by decide))) (fun V_59 j_59 k_59 e_59 => ?_)
          refine aw_aload_n dX2_readLine_58 rfl ?_
          refine aw_get dX2_readLine_59 fl_X2_29 ((j_59.2.1 _ hp.1 hp.2).trans hR) (by omega) rfl ?_
          refine aw_iconst (v := 2) dX2_readLine_62 (by decide) ?_
          refine aw_callVi (J' := jX10_readNumber) (As := [.int 2]) (st := []) dX2_readLine_63 tb_361 ok_X10_readNumber ⟨_, e_59⟩ (by omega) rfl rfl (g_X10_readNumber l D b N V_59 hN j_59.1 2 (a_5 + 1) (⟨⟨_, _, _, e_59⟩, by omega⟩)) rfl (Nat.le_of_ble_eq_true rfl) ⟨Nat.le_of_ble_eq_true rfl, Nat.le_of_ble_eq_true rfl, Nat.le_of_ble_eq_true rfl, Nat.le_of_ble_eq_true rfl⟩ (fun r_67 N_68 V_63 q_69 => ?_)
          obtain ⟨h_61, rfl, q_60⟩ := q_69
          have j_62 := JW.trans j_59 (JW.weak q_60 (Sub.cons LM0 (by decide) (by decide) (by decide) (Or.inr ⟨by decide, by decide⟩) (Sub.cons (LMs LM0) (by decide) (by decide) (by decide) (Or.inr ⟨by decide, by decide⟩) Sub.nil)))
          obtain ⟨a_64, ha_65, ⟨ts_t_66, tn_t_66, tf_t_66, te_t_66⟩, hb_t_66⟩ := h_61
          refine aw_istore_n (ls' := [some (.ref (b + p)), some (.int r_8), some (.int r_14), some (.int r_67)]) dX2_readLine_66 (Nat.le_of_ble_eq_true rfl) rfl ?_
          refine aw_iload_n dX2_readLine_67 rfl ?_
          refine aw_if_ge (tgt := 73) dX2_readLine_68 (by decide) (fun c_70 => ?_) (fun c_70 => ?_)
          · skip
            refine aw_aload_n dX2_readLine_73 rfl ?_
            refine aw_get dX2_readLine_74 fl_X2_9 ((j_62.2.1 _ hp.1 hp.2).trans hR) (by omega) rfl ?_
            refine aw_dup dX2_readLine_77 rfl ?_
            obtain ⟨pe_71, dd_71, ni_71, xx_71, e_71⟩ := JW.get j_62 (ctc_0 hc)
            refine aw_get dX2_readLine_78 fl_X2_47 e_71 (by omega) rfl ?_
            refine aw_iconst (v := 1) dX2_readLine_81 (by decide) ?_
            refine aw_aload_n dX2_readLine_82 rfl ?_
            refine aw_get dX2_readLine_83 fl_X2_15 ((j_62.2.1 _ hp.1 hp.2).trans hR) (by omega) rfl ?_
            refine aw_ishl dX2_readLine_86 ?_
            refine aw_ior dX2_readLine_87 ?_
            refine aw_put dX2_readLine_88 fp_X2_47 e_71 (by omega) rfl rfl (Nat.le_of_ble_eq_true rfl) rfl ?_
            refine aw_up j_62 (ctc_0 hc) ⟨_, _, _, _, rfl⟩ (WO (s := 5) (x := .int (pe_71 ||| ((1 : Int32) <<< (pn &&& 31)))) e_71 rfl (LMs (LMs LM0)) (by omega) (by omega) (by decide) (Or.inl (by decide))) (fun V_72 j_72 k_72 e_72 => ?_)
            refine aw_aload_n dX2_readLine_91 rfl ?_
            refine aw_iload_n dX2_readLine_92 rfl ?_
            refine aw_iload_n dX2_readLine_93 rfl ?_
            refine aw_iload_n dX2_readLine_94 rfl ?_
            refine aw_callVv (J' := jX2_change) (As := [.int r_8, .int r_14, .int r_67]) (st := []) dX2_readLine_95 tb_366 ok_X2_change ⟨_, ((j_72.2.1 _ hp.1 hp.2).trans hR)⟩ (by omega) rfl rfl (g_X2_change l D b N V_72 hN j_72.1 p c pn ⟨by omega, by omega⟩ hc ((j_72.2.1 _ hp.1 hp.2).trans hR) r_8 r_14 r_67) rfl (Nat.le_of_ble_eq_true rfl) ⟨Nat.le_of_ble_eq_true rfl, Nat.le_of_ble_eq_true rfl, Nat.le_of_ble_eq_true rfl, Nat.le_of_ble_eq_true rfl⟩ (fun  N_76 V_75 q_77 => ?_)
            obtain ⟨rfl, q_73⟩ := q_77
            have j_74 := JW.trans j_72 (JW.weak q_73 (Sub.cons (LMs (LMs (LMs LM0))) (by omega) (by omega) (by decide) (Or.inl rfl) Sub.nil))
            refine aw_iconst (v := 1) dX2_readLine_98 (by decide) ?_
            refine aw_zreti dX2_readLine_99 rfl (by first | exact Or.inl rfl | exact Or.inr rfl | assumption) (Nat.le_of_ble_eq_true rfl) (Nat.le_of_ble_eq_true rfl) ?_
            exact ⟨⟨(by first | exact Or.inl rfl | exact Or.inr rfl | assumption), ⟨a_64, by omega, ⟨⟨_, _, _, ((JW.same q_73 (by decide) (fun k => (nfc (by omega) nf0))).trans ((k_72 _ (by omega)).trans te_t_66))⟩, by omega⟩⟩⟩, rfl, j_74⟩
          · skip
            refine aw_iconst (v := 0) dX2_readLine_71 (by decide) ?_
            refine aw_zreti dX2_readLine_72 rfl (by first | exact Or.inl rfl | exact Or.inr rfl | assumption) (Nat.le_of_ble_eq_true rfl) (Nat.le_of_ble_eq_true rfl) ?_
            exact ⟨⟨(by first | exact Or.inl rfl | exact Or.inr rfl | assumption), ⟨a_64, by omega, ⟨⟨_, _, _, te_t_66⟩, by omega⟩⟩⟩, rfl, j_62⟩
        · skip
          refine aw_aload_n dX2_readLine_37 rfl ?_
          refine aw_get dX2_readLine_38 fl_X2_29 ((j_3.2.1 _ hp.1 hp.2).trans hR) (by omega) rfl ?_
          refine aw_callVi (J' := jX10_cannotStand) (As := []) (st := []) dX2_readLine_41 tb_360 ok_X10_cannotStand ⟨_, te_t_7⟩ (by omega) rfl rfl (g_X10_cannotStand l D b N V_4 hN j_3.1 a_5 (⟨⟨_, _, _, te_t_7⟩, by omega⟩)) rfl (Nat.le_of_ble_eq_true rfl) ⟨Nat.le_of_ble_eq_true rfl, Nat.le_of_ble_eq_true rfl, Nat.le_of_ble_eq_true rfl, Nat.le_of_ble_eq_true rfl⟩ (fun r_87 N_88 V_82 q_89 => ?_)
          obtain ⟨⟨z_80, h_79⟩, rfl, q_78⟩ := q_89
          have j_81 := JW.trans j_3 (JW.weak q_78 (Sub.cons (LMs LM0) (by decide) (by decide) (by decide) (Or.inr ⟨by decide, by decide⟩) Sub.nil))
          obtain ⟨h_86, a_83, ha_84, ⟨ts_t_85, tn_t_85, tf_t_85, te_t_85⟩, hb_t_85⟩ := h_79
          obtain rfl := h_86
          refine aw_zreti dX2_readLine_44 rfl (by first | exact Or.inl rfl | exact Or.inr rfl | assumption) (Nat.le_of_ble_eq_true rfl) (Nat.le_of_ble_eq_true rfl) ?_
          exact ⟨⟨(by first | exact Or.inl rfl | exact Or.inr rfl | assumption), ⟨a_83, by omega, ⟨⟨_, _, _, te_t_85⟩, by omega⟩⟩⟩, rfl, j_81⟩
  · skip
    refine aw_iconst (v := 0) dX2_readLine_9 (by decide) ?_
    refine aw_zreti dX2_readLine_10 rfl (by first | exact Or.inl rfl | exact Or.inr rfl | assumption) (Nat.le_of_ble_eq_true rfl) (Nat.le_of_ble_eq_true rfl) ?_
    exact ⟨⟨(by first | exact Or.inl rfl | exact Or.inr rfl | assumption), ⟨a_5, by omega, ⟨⟨_, _, _, te_t_7⟩, by omega⟩⟩⟩, rfl, j_3⟩

set_option maxHeartbeats 4000000 in
set_option maxRecDepth 100000 in
theorem g_X8_readPerson (l : Launch) (D : va_G) (b : Nat) (N : Nat) (V : Wd) (hN : 100 ≤ N) (hW : CW D b V) (p c : Nat) (hp : 100 ≤ p ∧ p < N) (hc : c = 3 ∨ c = 21 ∨ c = 39 ∨ c = 74) (hR : V p = cO 7 [.ref (b + 1), .ref (b + c)]) (a : Nat) (hT : TA b a V) : MI l D b 2 jX8_readPerson [.ref (b + p)] N V 0 0 (fun r N9 V9 => (∃ a9, a ≤ a9 ∧ TA b a9 V9) ∧ N = N9 ∧ JW D b N [(1, 1, 3, 3), (1, 1, 4, 4)] V V9) := by
  have hJ0 : JW D b N [(1, 1, 3, 3), (1, 1, 4, 4)] V V := JW.rf hW
  obtain ⟨⟨ts_0, tn_0, tf_0, te_0⟩, ha_0⟩ := id hT
  refine mw_of (by decide) (by simp [Value.category]) (Nat.le_of_ble_eq_true rfl) ?_
  show AW l D b jX8_readPerson (fx_rm 2 0 0) none (fx_MQ D b 0 0 (fx_qi (fun r N9 V9 => (∃ a9, a ≤ a9 ∧ TA b a9 V9) ∧ N = N9 ∧ JW D b N [(1, 1, 3, 3), (1, 1, 4, 4)] V V9))) 0 [some (.ref (b + p)), none, none] [] N V 0 0
  refine aw_aload_n dX8_readPerson_0 rfl ?_
  refine aw_get dX8_readPerson_1 fl_X8_21 ((hJ0.2.1 _ hp.1 hp.2).trans hR) (by omega) rfl ?_
  refine aw_get dX8_readPerson_4 fl_X8_42 te_0 (by omega) rfl ?_
  refine aw_istore_n (ls' := [some (.ref (b + p)), some (.int (nI a)), none]) dX8_readPerson_7 (Nat.le_of_ble_eq_true rfl) rfl ?_
  refine aw_aload_n dX8_readPerson_8 rfl ?_
  refine aw_get dX8_readPerson_9 fl_X8_21 ((hJ0.2.1 _ hp.1 hp.2).trans hR) (by omega) rfl ?_
  refine aw_iconst (v := 2) dX8_readPerson_12 (by decide) ?_
  refine aw_callVi (J' := jX10_readNumber) (As := [.int 2]) (st := []) dX8_readPerson_13 tb_539 ok_X10_readNumber ⟨_, te_0⟩ (by omega) rfl rfl (g_X10_readNumber l D b N V hN hJ0.1 2 a (⟨⟨_, _, _, te_0⟩, by omega⟩)) rfl (Nat.le_of_ble_eq_true rfl) ⟨Nat.le_of_ble_eq_true rfl, Nat.le_of_ble_eq_true rfl, Nat.le_of_ble_eq_true rfl, Nat.le_of_ble_eq_true rfl⟩ (fun r_8 N_9 V_4 q_10 => ?_)
  obtain ⟨h_2, rfl, q_1⟩ := q_10
  have j_3 := JW.trans hJ0 (JW.weak q_1 (Sub.cons LM0 (by decide) (by decide) (by decide) (Or.inr ⟨by decide, by decide⟩) (Sub.cons (LMs LM0) (by decide) (by decide) (by decide) (Or.inr ⟨by decide, by decide⟩) Sub.nil)))
  obtain ⟨a_5, ha_6, ⟨ts_t_7, tn_t_7, tf_t_7, te_t_7⟩, hb_t_7⟩ := h_2
  refine aw_istore_n (ls' := [some (.ref (b + p)), some (.int (nI a)), some (.int r_8)]) dX8_readPerson_16 (Nat.le_of_ble_eq_true rfl) rfl ?_
  refine aw_iload_n dX8_readPerson_17 rfl ?_
  refine aw_if_lt (tgt := 45) dX8_readPerson_18 (by decide) (fun c_11 => ?_) (fun c_11 => ?_)
  · skip
    refine aw_iload_n dX8_readPerson_45 rfl ?_
    refine aw_ireti dX8_readPerson_46 rfl (Nat.le_of_ble_eq_true rfl) (Nat.le_of_ble_eq_true rfl) ?_
    exact ⟨⟨a_5, by omega, ⟨⟨_, _, _, te_t_7⟩, by omega⟩⟩, rfl, j_3⟩
  · skip
    refine aw_aload_n dX8_readPerson_21 rfl ?_
    refine aw_get dX8_readPerson_22 fl_X8_9 ((j_3.2.1 _ hp.1 hp.2).trans hR) (by omega) rfl ?_
    refine aw_iload_n dX8_readPerson_25 rfl ?_
    obtain ⟨pe_15, dd_15, ni_15, xx_15, e_15⟩ := JW.get j_3 (ctc_0 hc)
    refine aw_callVi (J' := jX0_isPerson) (As := [.int r_8]) (st := []) dX8_readPerson_26 tb_569 ok_X0_isPerson ⟨_, e_15⟩ (by omega) rfl rfl (g_X0_isPerson l D b N V_4 hN j_3.1 c hc r_8) rfl (Nat.le_of_ble_eq_true rfl) ⟨Nat.le_of_ble_eq_true rfl, Nat.le_of_ble_eq_true rfl, Nat.le_of_ble_eq_true rfl, Nat.le_of_ble_eq_true rfl⟩ (fun r_16 N_17 V_18 q_19 => ?_)
    obtain ⟨⟨z_14, h_13⟩, rfl, rfl⟩ := q_19
    refine aw_if_ne (tgt := 45) dX8_readPerson_29 (by decide) (fun c_20 => ?_) (fun c_20 => ?_)
    · skip
      refine aw_iload_n dX8_readPerson_45 rfl ?_
      refine aw_ireti dX8_readPerson_46 rfl (Nat.le_of_ble_eq_true rfl) (Nat.le_of_ble_eq_true rfl) ?_
      exact ⟨⟨a_5, by omega, ⟨⟨_, _, _, te_t_7⟩, by omega⟩⟩, rfl, j_3⟩
    · skip
      refine aw_aload_n dX8_readPerson_32 rfl ?_
      refine aw_get dX8_readPerson_33 fl_X8_21 ((j_3.2.1 _ hp.1 hp.2).trans hR) (by omega) rfl ?_
      refine aw_bipush (v := 7) dX8_readPerson_36 (by decide) ?_
      refine aw_iload_n dX8_readPerson_38 rfl ?_
      refine aw_callVi (J' := jX10_fail) (As := [.int 7, .int (nI a)]) (st := []) dX8_readPerson_39 tb_540 ok_X10_fail ⟨_, te_t_7⟩ (by omega) rfl rfl (g_X10_fail l D b N V_4 hN j_3.1 7 (nI a) a_5 (⟨⟨_, _, _, te_t_7⟩, by omega⟩)) rfl (Nat.le_of_ble_eq_true rfl) ⟨Nat.le_of_ble_eq_true rfl, Nat.le_of_ble_eq_true rfl, Nat.le_of_ble_eq_true rfl, Nat.le_of_ble_eq_true rfl⟩ (fun r_30 N_31 V_25 q_32 => ?_)
      obtain ⟨⟨z_23, h_22⟩, rfl, q_21⟩ := q_32
      have j_24 := JW.trans j_3 (JW.weak q_21 (Sub.cons (LMs LM0) (by decide) (by decide) (by decide) (Or.inr ⟨by decide, by decide⟩) Sub.nil))
      obtain ⟨h_29, a_26, ha_27, ⟨ts_t_28, tn_t_28, tf_t_28, te_t_28⟩, hb_t_28⟩ := h_22
      obtain rfl := h_29
      refine aw_pop dX8_readPerson_42 rfl ?_
      refine aw_iconst (v := (-1)) dX8_readPerson_43 (by decide) ?_
      refine aw_ireti dX8_readPerson_44 rfl (Nat.le_of_ble_eq_true rfl) (Nat.le_of_ble_eq_true rfl) ?_
      exact ⟨⟨a_26, by omega, ⟨⟨_, _, _, te_t_28⟩, by omega⟩⟩, rfl, j_24⟩

set_option maxHeartbeats 4000000 in
set_option maxRecDepth 100000 in
theorem g_X8_readAcquaintance (l : Launch) (D : va_G) (b : Nat) (N : Nat) (V : Wd) (hN : 100 ≤ N) (hW : CW D b V) (p c : Nat) (hp : 100 ≤ p ∧ p < N) (hc : c = 3 ∨ c = 21 ∨ c = 39 ∨ c = 74) (hR : V p = cO 7 [.ref (b + 1), .ref (b + c)]) (a : Nat) (hT : TA b a V) : MI l D b 3 jX8_readAcquaintance [.ref (b + p)] N V 0 0 (fun r N9 V9 => ((r = 0 ∨ r = 1) ∧ (∃ a9, a ≤ a9 ∧ TA b a9 V9)) ∧ N = N9 ∧ JW D b N [(1, 1, 3, 3), (1, 1, 4, 4), (c + 14, c + 14, 0, 1000000)] V V9) := by
  have hJ0 : JW D b N [(1, 1, 3, 3), (1, 1, 4, 4), (c + 14, c + 14, 0, 1000000)] V V := JW.rf hW
  obtain ⟨⟨ts_0, tn_0, tf_0, te_0⟩, ha_0⟩ := id hT
  refine mw_of (by decide) (by simp [Value.category]) (Nat.le_of_ble_eq_true rfl) ?_
  show AW l D b jX8_readAcquaintance (fx_rm 3 0 0) none (fx_MQ D b 0 0 (fx_qi (fun r N9 V9 => ((r = 0 ∨ r = 1) ∧ (∃ a9, a ≤ a9 ∧ TA b a9 V9)) ∧ N = N9 ∧ JW D b N [(1, 1, 3, 3), (1, 1, 4, 4), (c + 14, c + 14, 0, 1000000)] V V9))) 0 [some (.ref (b + p)), none, none, none, none] [] N V 0 0
  refine aw_aload_n dX8_readAcquaintance_0 rfl ?_
  refine aw_callVi (J' := jX8_readPerson) (As := []) (st := []) dX8_readAcquaintance_1 tb_565 ok_X8_readPerson ⟨_, ((hJ0.2.1 _ hp.1 hp.2).trans hR)⟩ (by omega) rfl rfl (g_X8_readPerson l D b N V hN hJ0.1 p c ⟨by omega, by omega⟩ hc ((hJ0.2.1 _ hp.1 hp.2).trans hR) a (⟨⟨_, _, _, te_0⟩, by omega⟩)) rfl (Nat.le_of_ble_eq_true rfl) ⟨Nat.le_of_ble_eq_true rfl, Nat.le_of_ble_eq_true rfl, Nat.le_of_ble_eq_true rfl, Nat.le_of_ble_eq_true rfl⟩ (fun r_8 N_9 V_4 q_10 => ?_)
  obtain ⟨h_2, rfl, q_1⟩ := q_10
  have j_3 := JW.trans hJ0 (JW.weak q_1 (Sub.cons LM0 (by decide) (by decide) (by decide) (Or.inr ⟨by decide, by decide⟩) (Sub.cons (LMs LM0) (by decide) (by decide) (by decide) (Or.inr ⟨by decide, by decide⟩) Sub.nil)))
  obtain ⟨a_5, ha_6, ⟨ts_t_7, tn_t_7, tf_t_7, te_t_7⟩, hb_t_7⟩ := h_2
  refine aw_istore_n (ls' := [some (.ref (b + p)), some (.int r_8), none, none, none]) dX8_readAcquaintance_4 (Nat.le_of_ble_eq_true rfl) rfl ?_
  refine aw_iload_n dX8_readAcquaintance_5 rfl ?_
  refine aw_if_ge (tgt := 11) dX8_readAcquaintance_6 (by decide) (fun c_11 => ?_) (fun c_11 => ?_)
  · skip
    refine aw_aload_n dX8_readAcquaintance_11 rfl ?_
    refine aw_get dX8_readAcquaintance_12 fl_X8_21 ((j_3.2.1 _ hp.1 hp.2).trans hR) (by omega) rfl ?_
    refine aw_callVi (J' := jX10_now) (As := []) (st := []) dX8_readAcquaintance_15 tb_533 ok_X10_now ⟨_, te_t_7⟩ (by omega) rfl rfl (g_X10_now l D b N V_4 hN j_3.1 a_5 (⟨⟨_, _, _, te_t_7⟩, by omega⟩)) rfl (Nat.le_of_ble_eq_true rfl) ⟨Nat.le_of_ble_eq_true rfl, Nat.le_of_ble_eq_true rfl, Nat.le_of_ble_eq_true rfl, Nat.le_of_ble_eq_true rfl⟩ (fun r_14 N_15 V_16 q_17 => ?_)
    obtain ⟨h_13, rfl, rfl⟩ := q_17
    refine aw_istore_n (ls' := [some (.ref (b + p)), some (.int r_8), some (.int r_14), none, none]) dX8_readAcquaintance_18 (Nat.le_of_ble_eq_true rfl) rfl ?_
    refine aw_iload_n dX8_readAcquaintance_19 rfl ?_
    refine aw_bipush (v := 38) dX8_readAcquaintance_20 (by decide) ?_
    refine aw_icmp_eq (tgt := 39) dX8_readAcquaintance_22 (by decide) (fun c_18 => ?_) (fun c_18 => ?_)
    · skip
      have hlc_18 := h_13.resolve_left (by rw [c_18]; decide)
      refine aw_aload_n dX8_readAcquaintance_39 rfl ?_
      refine aw_get dX8_readAcquaintance_40 fl_X8_21 ((j_3.2.1 _ hp.1 hp.2).trans hR) (by omega) rfl ?_
      refine aw_dup dX8_readAcquaintance_43 rfl ?_
      refine aw_get dX8_readAcquaintance_44 fl_X8_42 te_t_7 (by omega) rfl ?_
      refine aw_iconst (v := 1) dX8_readAcquaintance_47 (by decide) ?_
      refine aw_iadd dX8_readAcquaintance_48 ?_
      refine aw_eqi (y := nI (a_5 + 1)) (nI_add _ _) ?_
      refine aw_put dX8_readAcquaintance_49 fp_X8_42 te_t_7 (by omega) rfl rfl (Nat.le_of_ble_eq_true rfl) rfl ?_
      refine aw_up j_3 ct_1 ⟨_, _, _, (a_5 + 1), rfl, (by first | omega | (split <;> omega))⟩ (WO (s := 3) (x := .int (nI (a_5 + 1))) te_t_7 rfl LM0 (by decide) (by decide) (by decide) (Or.inl (by decide))) (fun V_19 j_19 k_19 e_19 => ?_)
      refine aw_aload_n dX8_readAcquaintance_52 rfl ?_
      refine aw_get dX8_readAcquaintance_53 fl_X8_21 ((j_19.2.1 _ hp.1 hp.2).trans hR) (by omega) rfl ?_
      refine aw_get dX8_readAcquaintance_56 fl_X8_42 e_19 (by omega) rfl ?_
      refine aw_istore_n (ls' := [some (.ref (b + p)), some (.int r_8), some (.int r_14), some (.int (nI (a_5 + 1))), none]) dX8_readAcquaintance_59 (Nat.le_of_ble_eq_true rfl) rfl ?_
      refine aw_aload_n dX8_readAcquaintance_60 rfl ?_
      refine aw_callVi (J' := jX8_readPerson) (As := []) (st := []) dX8_readAcquaintance_61 tb_565 ok_X8_readPerson ⟨_, ((j_19.2.1 _ hp.1 hp.2).trans hR)⟩ (by omega) rfl rfl (g_X8_readPerson l D b N V_19 hN j_19.1 p c ⟨by omega, by omega⟩ hc ((j_19.2.1 _ hp.1 hp.2).trans hR) (a_5 + 1) (⟨⟨_, _, _, e_19⟩, by omega⟩)) rfl (Nat.le_of_ble_eq_true rfl) ⟨Nat.le_of_ble_eq_true rfl, Nat.le_of_ble_eq_true rfl, Nat.le_of_ble_eq_true rfl, Nat.le_of_ble_eq_true rfl⟩ (fun r_27 N_28 V_23 q_29 => ?_)
      obtain ⟨h_21, rfl, q_20⟩ := q_29
      have j_22 := JW.trans j_19 (JW.weak q_20 (Sub.cons LM0 (by decide) (by decide) (by decide) (Or.inr ⟨by decide, by decide⟩) (Sub.cons (LMs LM0) (by decide) (by decide) (by decide) (Or.inr ⟨by decide, by decide⟩) Sub.nil)))
      obtain ⟨a_24, ha_25, ⟨ts_t_26, tn_t_26, tf_t_26, te_t_26⟩, hb_t_26⟩ := h_21
      refine aw_istore (ls' := [some (.ref (b + p)), some (.int r_8), some (.int r_14), some (.int (nI (a_5 + 1))), some (.int r_27)]) dX8_readAcquaintance_64 (Nat.le_of_ble_eq_true rfl) rfl ?_
      refine aw_iload dX8_readAcquaintance_66 rfl ?_
      refine aw_if_ge (tgt := 73) dX8_readAcquaintance_68 (by decide) (fun c_30 => ?_) (fun c_30 => ?_)
      · skip
        refine aw_iload_n dX8_readAcquaintance_73 rfl ?_
        refine aw_iload dX8_readAcquaintance_74 rfl ?_
        refine aw_icmp_ne (tgt := 90) dX8_readAcquaintance_76 (by decide) (fun c_31 => ?_) (fun c_31 => ?_)
        · skip
          refine aw_aload_n dX8_readAcquaintance_90 rfl ?_
          refine aw_get dX8_readAcquaintance_91 fl_X8_9 ((j_22.2.1 _ hp.1 hp.2).trans hR) (by omega) rfl ?_
          refine aw_iload_n dX8_readAcquaintance_94 rfl ?_
          refine aw_iload dX8_readAcquaintance_95 rfl ?_
          refine aw_iload_n dX8_readAcquaintance_97 rfl ?_
          refine aw_bipush (v := 38) dX8_readAcquaintance_98 (by decide) ?_
          refine aw_icmp_ne (tgt := 107) dX8_readAcquaintance_100 (by decide) (fun c_32 => ?_) (fun c_32 => ?_)
          · first | exact absurd c_32 c_18 | exact absurd c_18 c_32 | exact absurd c_32 (Int32.not_lt.mpr c_18) | exact absurd c_18 (Int32.not_lt.mpr c_32) | exact c_18 (Int32.not_lt.mp c_32) | exact c_18 (Int32.not_le.mp c_32)
          have hlc_32 := h_13.resolve_left (by rw [c_32]; decide)
          refine aw_iconst (v := 1) dX8_readAcquaintance_103 (by decide) ?_
          refine aw_goto (tgt := 108) dX8_readAcquaintance_104 (by decide) ?_
          obtain ⟨pe_36, dd_36, ni_36, xx_36, e_36⟩ := JW.get j_22 (ctc_0 hc)
          refine aw_callVv (J' := jX0_acquaint) (As := [.int r_8, .int r_27, .int 1]) (st := []) dX8_readAcquaintance_108 tb_573 ok_X0_acquaint ⟨_, e_36⟩ (by omega) rfl rfl (g_X0_acquaint l D b N V_23 hN j_22.1 c hc r_8 r_27 1) rfl (Nat.le_of_ble_eq_true rfl) ⟨Nat.le_of_ble_eq_true rfl, Nat.le_of_ble_eq_true rfl, Nat.le_of_ble_eq_true rfl, Nat.le_of_ble_eq_true rfl⟩ (fun  N_37 V_35 q_38 => ?_)
          obtain ⟨rfl, q_33⟩ := q_38
          have j_34 := JW.trans j_22 (JW.weak q_33 (Sub.cons (LMs (LMs LM0)) (by omega) (by omega) (by decide) (Or.inl rfl) Sub.nil))
          refine aw_iconst (v := 1) dX8_readAcquaintance_111 (by decide) ?_
          refine aw_zreti dX8_readAcquaintance_112 rfl (by first | exact Or.inl rfl | exact Or.inr rfl | assumption) (Nat.le_of_ble_eq_true rfl) (Nat.le_of_ble_eq_true rfl) ?_
          exact ⟨⟨(by first | exact Or.inl rfl | exact Or.inr rfl | assumption), ⟨a_24, by omega, ⟨⟨_, _, _, ((JW.same q_33 (by decide) (fun k => (nfc (by omega) nf0))).trans te_t_26)⟩, by omega⟩⟩⟩, rfl, j_34⟩
        · skip
          refine aw_aload_n dX8_readAcquaintance_79 rfl ?_
          refine aw_get dX8_readAcquaintance_80 fl_X8_21 ((j_22.2.1 _ hp.1 hp.2).trans hR) (by omega) rfl ?_
          refine aw_bipush (v := 6) dX8_readAcquaintance_83 (by decide) ?_
          refine aw_iload_n dX8_readAcquaintance_85 rfl ?_
          refine aw_callVi (J' := jX10_fail) (As := [.int 6, .int (nI (a_5 + 1))]) (st := []) dX8_readAcquaintance_86 tb_540 ok_X10_fail ⟨_, te_t_26⟩ (by omega) rfl rfl (g_X10_fail l D b N V_23 hN j_22.1 6 (nI (a_5 + 1)) a_24 (⟨⟨_, _, _, te_t_26⟩, by omega⟩)) rfl (Nat.le_of_ble_eq_true rfl) ⟨Nat.le_of_ble_eq_true rfl, Nat.le_of_ble_eq_true rfl, Nat.le_of_ble_eq_true rfl, Nat.le_of_ble_eq_true rfl⟩ (fun r_48 N_49 V_43 q_50 => ?_)
          obtain ⟨⟨z_41, h_40⟩, rfl, q_39⟩ := q_50
          have j_42 := JW.trans j_22 (JW.weak q_39 (Sub.cons (LMs LM0) (by decide) (by decide) (by decide) (Or.inr ⟨by decide, by decide⟩) Sub.nil))
          obtain ⟨h_47, a_44, ha_45, ⟨ts_t_46, tn_t_46, tf_t_46, te_t_46⟩, hb_t_46⟩ := h_40
          obtain rfl := h_47
          refine aw_zreti dX8_readAcquaintance_89 rfl (by first | exact Or.inl rfl | exact Or.inr rfl | assumption) (Nat.le_of_ble_eq_true rfl) (Nat.le_of_ble_eq_true rfl) ?_
          exact ⟨⟨(by first | exact Or.inl rfl | exact Or.inr rfl | assumption), ⟨a_44, by omega, ⟨⟨_, _, _, te_t_46⟩, by omega⟩⟩⟩, rfl, j_42⟩
      · skip
        refine aw_iconst (v := 0) dX8_readAcquaintance_71 (by decide) ?_
        refine aw_zreti dX8_readAcquaintance_72 rfl (by first | exact Or.inl rfl | exact Or.inr rfl | assumption) (Nat.le_of_ble_eq_true rfl) (Nat.le_of_ble_eq_true rfl) ?_
        exact ⟨⟨(by first | exact Or.inl rfl | exact Or.inr rfl | assumption), ⟨a_24, by omega, ⟨⟨_, _, _, te_t_26⟩, by omega⟩⟩⟩, rfl, j_22⟩
    · skip
      refine aw_iload_n dX8_readAcquaintance_25 rfl ?_
      refine aw_bipush (v := 47) dX8_readAcquaintance_26 (by decide) ?_
      refine aw_icmp_eq (tgt := 39) dX8_readAcquaintance_28 (by decide) (fun c_51 => ?_) (fun c_51 => ?_)
      · skip
        have hlc_51 := h_13.resolve_left (by rw [c_51]; decide)
        refine aw_aload_n dX8_readAcquaintance_39 rfl ?_
        refine aw_get dX8_readAcquaintance_40 fl_X8_21 ((j_3.2.1 _ hp.1 hp.2).trans hR) (by omega) rfl ?_
        refine aw_dup dX8_readAcquaintance_43 rfl ?_
        refine aw_get dX8_readAcquaintance_44 fl_X8_42 te_t_7 (by omega) rfl ?_
        refine aw_iconst (v := 1) dX8_readAcquaintance_47 (by decide) ?_
        refine aw_iadd dX8_readAcquaintance_48 ?_
        refine aw_eqi (y := nI (a_5 + 1)) (nI_add _ _) ?_
        refine aw_put dX8_readAcquaintance_49 fp_X8_42 te_t_7 (by omega) rfl rfl (Nat.le_of_ble_eq_true rfl) rfl ?_
        refine aw_up j_3 ct_1 ⟨_, _, _, (a_5 + 1), rfl, (by first | omega | (split <;> omega))⟩ (WO (s := 3) (x := .int (nI (a_5 + 1))) te_t_7 rfl LM0 (by decide) (by decide) (by decide) (Or.inl (by decide))) (fun V_52 j_52 k_52 e_52 => ?_)
        refine aw_aload_n dX8_readAcquaintance_52 rfl ?_
        refine aw_get dX8_readAcquaintance_53 fl_X8_21 ((j_52.2.1 _ hp.1 hp.2).trans hR) (by omega) rfl ?_
        refine aw_get dX8_readAcquaintance_56 fl_X8_42 e_52 (by omega) rfl ?_
        refine aw_istore_n (ls' := [some (.ref (b + p)), some (.int r_8), some (.int r_14), some (.int (nI (a_5 + 1))), none]) dX8_readAcquaintance_59 (Nat.le_of_ble_eq_true rfl) rfl ?_
        refine aw_aload_n dX8_readAcquaintance_60 rfl ?_
        refine aw_callVi (J' := jX8_readPerson) (As := []) (st := []) dX8_readAcquaintance_61 tb_565 ok_X8_readPerson ⟨_, ((j_52.2.1 _ hp.1 hp.2).trans hR)⟩ (by omega) rfl rfl (g_X8_readPerson l D b N V_52 hN j_52.1 p c ⟨by omega, by omega⟩ hc ((j_52.2.1 _ hp.1 hp.2).trans hR) (a_5 + 1) (⟨⟨_, _, _, e_52⟩, by omega⟩)) rfl (Nat.le_of_ble_eq_true rfl) ⟨Nat.le_of_ble_eq_true rfl, Nat.le_of_ble_eq_true rfl, Nat.le_of_ble_eq_true rfl, Nat.le_of_ble_eq_true rfl⟩ (fun r_60 N_61 V_56 q_62 => ?_)
        obtain ⟨h_54, rfl, q_53⟩ := q_62
        have j_55 := JW.trans j_52 (JW.weak q_53 (Sub.cons LM0 (by decide) (by decide) (by decide) (Or.inr ⟨by decide, by decide⟩) (Sub.cons (LMs LM0) (by decide) (by decide) (by decide) (Or.inr ⟨by decide, by decide⟩) Sub.nil)))
        obtain ⟨a_57, ha_58, ⟨ts_t_59, tn_t_59, tf_t_59, te_t_59⟩, hb_t_59⟩ := h_54
        refine aw_istore (ls' := [some (.ref (b + p)), some (.int r_8), some (.int r_14), some (.int (nI (a_5 + 1))), some (.int r_60)]) dX8_readAcquaintance_64 (Nat.le_of_ble_eq_true rfl) rfl ?_
        refine aw_iload dX8_readAcquaintance_66 rfl ?_
        refine aw_if_ge (tgt := 73) dX8_readAcquaintance_68 (by decide) (fun c_63 => ?_) (fun c_63 => ?_)
        · skip
          refine aw_iload_n dX8_readAcquaintance_73 rfl ?_
          refine aw_iload dX8_readAcquaintance_74 rfl ?_
          refine aw_icmp_ne (tgt := 90) dX8_readAcquaintance_76 (by decide) (fun c_64 => ?_) (fun c_64 => ?_)
          · skip
            refine aw_aload_n dX8_readAcquaintance_90 rfl ?_
            refine aw_get dX8_readAcquaintance_91 fl_X8_9 ((j_55.2.1 _ hp.1 hp.2).trans hR) (by omega) rfl ?_
            refine aw_iload_n dX8_readAcquaintance_94 rfl ?_
            refine aw_iload dX8_readAcquaintance_95 rfl ?_
            refine aw_iload_n dX8_readAcquaintance_97 rfl ?_
            refine aw_bipush (v := 38) dX8_readAcquaintance_98 (by decide) ?_
            refine aw_icmp_ne (tgt := 107) dX8_readAcquaintance_100 (by decide) (fun c_65 => ?_) (fun c_65 => ?_)
            rotate_left
            · first | exact absurd c_18 c_65 | exact absurd c_65 c_18
            refine aw_iconst (v := 0) dX8_readAcquaintance_107 (by decide) ?_
            obtain ⟨pe_69, dd_69, ni_69, xx_69, e_69⟩ := JW.get j_55 (ctc_0 hc)
            refine aw_callVv (J' := jX0_acquaint) (As := [.int r_8, .int r_60, .int 0]) (st := []) dX8_readAcquaintance_108 tb_573 ok_X0_acquaint ⟨_, e_69⟩ (by omega) rfl rfl (g_X0_acquaint l D b N V_56 hN j_55.1 c hc r_8 r_60 0) rfl (Nat.le_of_ble_eq_true rfl) ⟨Nat.le_of_ble_eq_true rfl, Nat.le_of_ble_eq_true rfl, Nat.le_of_ble_eq_true rfl, Nat.le_of_ble_eq_true rfl⟩ (fun  N_70 V_68 q_71 => ?_)
            obtain ⟨rfl, q_66⟩ := q_71
            have j_67 := JW.trans j_55 (JW.weak q_66 (Sub.cons (LMs (LMs LM0)) (by omega) (by omega) (by decide) (Or.inl rfl) Sub.nil))
            refine aw_iconst (v := 1) dX8_readAcquaintance_111 (by decide) ?_
            refine aw_zreti dX8_readAcquaintance_112 rfl (by first | exact Or.inl rfl | exact Or.inr rfl | assumption) (Nat.le_of_ble_eq_true rfl) (Nat.le_of_ble_eq_true rfl) ?_
            exact ⟨⟨(by first | exact Or.inl rfl | exact Or.inr rfl | assumption), ⟨a_57, by omega, ⟨⟨_, _, _, ((JW.same q_66 (by decide) (fun k => (nfc (by omega) nf0))).trans te_t_59)⟩, by omega⟩⟩⟩, rfl, j_67⟩
          · skip
            refine aw_aload_n dX8_readAcquaintance_79 rfl ?_
            refine aw_get dX8_readAcquaintance_80 fl_X8_21 ((j_55.2.1 _ hp.1 hp.2).trans hR) (by omega) rfl ?_
            refine aw_bipush (v := 6) dX8_readAcquaintance_83 (by decide) ?_
            refine aw_iload_n dX8_readAcquaintance_85 rfl ?_
            refine aw_callVi (J' := jX10_fail) (As := [.int 6, .int (nI (a_5 + 1))]) (st := []) dX8_readAcquaintance_86 tb_540 ok_X10_fail ⟨_, te_t_59⟩ (by omega) rfl rfl (g_X10_fail l D b N V_56 hN j_55.1 6 (nI (a_5 + 1)) a_57 (⟨⟨_, _, _, te_t_59⟩, by omega⟩)) rfl (Nat.le_of_ble_eq_true rfl) ⟨Nat.le_of_ble_eq_true rfl, Nat.le_of_ble_eq_true rfl, Nat.le_of_ble_eq_true rfl, Nat.le_of_ble_eq_true rfl⟩ (fun r_81 N_82 V_76 q_83 => ?_)
            obtain ⟨⟨z_74, h_73⟩, rfl, q_72⟩ := q_83
            have j_75 := JW.trans j_55 (JW.weak q_72 (Sub.cons (LMs LM0) (by decide) (by decide) (by decide) (Or.inr ⟨by decide, by decide⟩) Sub.nil))
            obtain ⟨h_80, a_77, ha_78, ⟨ts_t_79, tn_t_79, tf_t_79, te_t_79⟩, hb_t_79⟩ := h_73
            obtain rfl := h_80
            refine aw_zreti dX8_readAcquaintance_89 rfl (by first | exact Or.inl rfl | exact Or.inr rfl | assumption) (Nat.le_of_ble_eq_true rfl) (Nat.le_of_ble_eq_true rfl) ?_
            exact ⟨⟨(by first | exact Or.inl rfl | exact Or.inr rfl | assumption), ⟨a_77, by omega, ⟨⟨_, _, _, te_t_79⟩, by omega⟩⟩⟩, rfl, j_75⟩
        · skip
          refine aw_iconst (v := 0) dX8_readAcquaintance_71 (by decide) ?_
          refine aw_zreti dX8_readAcquaintance_72 rfl (by first | exact Or.inl rfl | exact Or.inr rfl | assumption) (Nat.le_of_ble_eq_true rfl) (Nat.le_of_ble_eq_true rfl) ?_
          exact ⟨⟨(by first | exact Or.inl rfl | exact Or.inr rfl | assumption), ⟨a_57, by omega, ⟨⟨_, _, _, te_t_59⟩, by omega⟩⟩⟩, rfl, j_55⟩
      · skip
        refine aw_aload_n dX8_readAcquaintance_31 rfl ?_
        refine aw_get dX8_readAcquaintance_32 fl_X8_21 ((j_3.2.1 _ hp.1 hp.2).trans hR) (by omega) rfl ?_
        refine aw_callVi (J' := jX10_cannotStand) (As := []) (st := []) dX8_readAcquaintance_35 tb_556 ok_X10_cannotStand ⟨_, te_t_7⟩ (by omega) rfl rfl (g_X10_cannotStand l D b N V_4 hN j_3.1 a_5 (⟨⟨_, _, _, te_t_7⟩, by omega⟩)) rfl (Nat.le_of_ble_eq_true rfl) ⟨Nat.le_of_ble_eq_true rfl, Nat.le_of_ble_eq_true rfl, Nat.le_of_ble_eq_true rfl, Nat.le_of_ble_eq_true rfl⟩ (fun r_93 N_94 V_88 q_95 => ?_)
        obtain ⟨⟨z_86, h_85⟩, rfl, q_84⟩ := q_95
        have j_87 := JW.trans j_3 (JW.weak q_84 (Sub.cons (LMs LM0) (by decide) (by decide) (by decide) (Or.inr ⟨by decide, by decide⟩) Sub.nil))
        obtain ⟨h_92, a_89, ha_90, ⟨ts_t_91, tn_t_91, tf_t_91, te_t_91⟩, hb_t_91⟩ := h_85
        obtain rfl := h_92
        refine aw_zreti dX8_readAcquaintance_38 rfl (by first | exact Or.inl rfl | exact Or.inr rfl | assumption) (Nat.le_of_ble_eq_true rfl) (Nat.le_of_ble_eq_true rfl) ?_
        exact ⟨⟨(by first | exact Or.inl rfl | exact Or.inr rfl | assumption), ⟨a_89, by omega, ⟨⟨_, _, _, te_t_91⟩, by omega⟩⟩⟩, rfl, j_87⟩
  · skip
    refine aw_iconst (v := 0) dX8_readAcquaintance_9 (by decide) ?_
    refine aw_zreti dX8_readAcquaintance_10 rfl (by first | exact Or.inl rfl | exact Or.inr rfl | assumption) (Nat.le_of_ble_eq_true rfl) (Nat.le_of_ble_eq_true rfl) ?_
    exact ⟨⟨(by first | exact Or.inl rfl | exact Or.inr rfl | assumption), ⟨a_5, by omega, ⟨⟨_, _, _, te_t_7⟩, by omega⟩⟩⟩, rfl, j_3⟩

set_option maxHeartbeats 4000000 in
set_option maxRecDepth 100000 in
theorem g_X8_readLock (l : Launch) (D : va_G) (b : Nat) (N : Nat) (V : Wd) (hN : 100 ≤ N) (hW : CW D b V) (p c : Nat) (hp : 100 ≤ p ∧ p < N) (hc : c = 3 ∨ c = 21 ∨ c = 39 ∨ c = 74) (hR : V p = cO 7 [.ref (b + 1), .ref (b + c)]) (n0 : Int32) (a : Nat) (hT : TA b a V) : MI l D b 2 jX8_readLock [.ref (b + p), .int n0] N V 0 0 (fun r N9 V9 => ((r = 0 ∨ r = 1) ∧ (∃ a9, a ≤ a9 ∧ TA b a9 V9)) ∧ N = N9 ∧ JW D b N [(1, 1, 3, 3), (1, 1, 4, 4), (c, c, 6, 6), (c + 15, c + 15, 0, 1000000), (c + 16, c + 16, 0, 1000000), (c + 17, c + 17, 0, 1000000)] V V9) := by
  have hJ0 : JW D b N [(1, 1, 3, 3), (1, 1, 4, 4), (c, c, 6, 6), (c + 15, c + 15, 0, 1000000), (c + 16, c + 16, 0, 1000000), (c + 17, c + 17, 0, 1000000)] V V := JW.rf hW
  obtain ⟨⟨ts_0, tn_0, tf_0, te_0⟩, ha_0⟩ := id hT
  refine mw_of (by decide) (by simp [Value.category]) (Nat.le_of_ble_eq_true rfl) ?_
  show AW l D b jX8_readLock (fx_rm 2 0 0) none (fx_MQ D b 0 0 (fx_qi (fun r N9 V9 => ((r = 0 ∨ r = 1) ∧ (∃ a9, a ≤ a9 ∧ TA b a9 V9)) ∧ N = N9 ∧ JW D b N [(1, 1, 3, 3), (1, 1, 4, 4), (c, c, 6, 6), (c + 15, c + 15, 0, 1000000), (c + 16, c + 16, 0, 1000000), (c + 17, c + 17, 0, 1000000)] V V9))) 0 [some (.ref (b + p)), some (.int n0), none, none] [] N V 0 0
  refine aw_aload_n dX8_readLock_0 rfl ?_
  refine aw_get dX8_readLock_1 fl_X8_21 ((hJ0.2.1 _ hp.1 hp.2).trans hR) (by omega) rfl ?_
  refine aw_callVi (J' := jX10_now) (As := []) (st := []) dX8_readLock_4 tb_533 ok_X10_now ⟨_, te_0⟩ (by omega) rfl rfl (g_X10_now l D b N V hN hJ0.1 a (⟨⟨_, _, _, te_0⟩, by omega⟩)) rfl (Nat.le_of_ble_eq_true rfl) ⟨Nat.le_of_ble_eq_true rfl, Nat.le_of_ble_eq_true rfl, Nat.le_of_ble_eq_true rfl, Nat.le_of_ble_eq_true rfl⟩ (fun r_3 N_4 V_5 q_6 => ?_)
  obtain ⟨h_2, rfl, rfl⟩ := q_6
  refine aw_istore_n (ls' := [some (.ref (b + p)), some (.int n0), some (.int r_3), none]) dX8_readLock_7 (Nat.le_of_ble_eq_true rfl) rfl ?_
  refine aw_iload_n dX8_readLock_8 rfl ?_
  refine aw_callSi (J' := jX10_isFear) (As := [.int r_3]) (st := []) dX8_readLock_9 tb_555 ok_X10_isFear rfl (g_X10_isFear l D b N V hN hJ0.1 r_3) rfl (Nat.le_of_ble_eq_true rfl) ⟨Nat.le_of_ble_eq_true rfl, Nat.le_of_ble_eq_true rfl, Nat.le_of_ble_eq_true rfl, Nat.le_of_ble_eq_true rfl⟩ (fun r_10 N_11 V_12 q_13 => ?_)
  obtain ⟨⟨z_9, h_8⟩, rfl, rfl⟩ := q_13
  refine aw_if_ne (tgt := 23) dX8_readLock_12 (by decide) (fun c_14 => ?_) (fun c_14 => ?_)
  · skip
    have h0c_14 := h_8.resolve_left c_14
    have hlc_14 := h_2.resolve_left (fun z => absurd h0c_14 (by rw [z]; decide))
    refine aw_aload_n dX8_readLock_23 rfl ?_
    refine aw_get dX8_readLock_24 fl_X8_21 ((hJ0.2.1 _ hp.1 hp.2).trans hR) (by omega) rfl ?_
    refine aw_dup dX8_readLock_27 rfl ?_
    refine aw_get dX8_readLock_28 fl_X8_42 te_0 (by omega) rfl ?_
    refine aw_iconst (v := 1) dX8_readLock_31 (by decide) ?_
    refine aw_iadd dX8_readLock_32 ?_
    refine aw_eqi (y := nI (a + 1)) (nI_add _ _) ?_
    refine aw_put dX8_readLock_33 fp_X8_42 te_0 (by omega) rfl rfl (Nat.le_of_ble_eq_true rfl) rfl ?_
    refine aw_up hJ0 ct_1 ⟨_, _, _, (a + 1), rfl, (by first | omega | (split <;> omega))⟩ (WO (s := 3) (x := .int (nI (a + 1))) te_0 rfl LM0 (by decide) (by decide) (by decide) (Or.inl (by decide))) (fun V_15 j_15 k_15 e_15 => ?_)
    refine aw_aload_n dX8_readLock_36 rfl ?_
    refine aw_get dX8_readLock_37 fl_X8_21 ((j_15.2.1 _ hp.1 hp.2).trans hR) (by omega) rfl ?_
    refine aw_iconst (v := 2) dX8_readLock_40 (by decide) ?_
    refine aw_callVi (J' := jX10_readNumber) (As := [.int 2]) (st := []) dX8_readLock_41 tb_539 ok_X10_readNumber ⟨_, e_15⟩ (by omega) rfl rfl (g_X10_readNumber l D b N V_15 hN j_15.1 2 (a + 1) (⟨⟨_, _, _, e_15⟩, by omega⟩)) rfl (Nat.le_of_ble_eq_true rfl) ⟨Nat.le_of_ble_eq_true rfl, Nat.le_of_ble_eq_true rfl, Nat.le_of_ble_eq_true rfl, Nat.le_of_ble_eq_true rfl⟩ (fun r_23 N_24 V_19 q_25 => ?_)
    obtain ⟨h_17, rfl, q_16⟩ := q_25
    have j_18 := JW.trans j_15 (JW.weak q_16 (Sub.cons LM0 (by decide) (by decide) (by decide) (Or.inr ⟨by decide, by decide⟩) (Sub.cons (LMs LM0) (by decide) (by decide) (by decide) (Or.inr ⟨by decide, by decide⟩) Sub.nil)))
    obtain ⟨a_20, ha_21, ⟨ts_t_22, tn_t_22, tf_t_22, te_t_22⟩, hb_t_22⟩ := h_17
    refine aw_istore_n (ls' := [some (.ref (b + p)), some (.int n0), some (.int r_3), some (.int r_23)]) dX8_readLock_44 (Nat.le_of_ble_eq_true rfl) rfl ?_
    refine aw_iload_n dX8_readLock_45 rfl ?_
    refine aw_if_ge (tgt := 51) dX8_readLock_46 (by decide) (fun c_26 => ?_) (fun c_26 => ?_)
    · skip
      refine aw_aload_n dX8_readLock_51 rfl ?_
      refine aw_get dX8_readLock_52 fl_X8_9 ((j_18.2.1 _ hp.1 hp.2).trans hR) (by omega) rfl ?_
      refine aw_iload_n dX8_readLock_55 rfl ?_
      refine aw_iload_n dX8_readLock_56 rfl ?_
      refine aw_bipush (v := 97) dX8_readLock_57 (by decide) ?_
      refine aw_isub dX8_readLock_59 ?_
      refine aw_iload_n dX8_readLock_60 rfl ?_
      obtain ⟨pe_30, dd_30, ni_30, xx_30, e_30⟩ := JW.get j_18 (ctc_0 hc)
      refine aw_callVv (J' := jX0_tellDoor) (As := [.int n0, .int (r_3 - 97), .int r_23]) (st := []) dX8_readLock_61 tb_557 ok_X0_tellDoor ⟨_, e_30⟩ (by omega) rfl rfl (g_X0_tellDoor l D b N V_19 hN j_18.1 c hc n0 (r_3 - 97) r_23) rfl (Nat.le_of_ble_eq_true rfl) ⟨Nat.le_of_ble_eq_true rfl, Nat.le_of_ble_eq_true rfl, Nat.le_of_ble_eq_true rfl, Nat.le_of_ble_eq_true rfl⟩ (fun  N_31 V_29 q_32 => ?_)
      obtain ⟨rfl, q_27⟩ := q_32
      have j_28 := JW.trans j_18 (JW.weak q_27 (Sub.cons (LMs (LMs LM0)) (by omega) (by omega) (by decide) (Or.inr ⟨by decide, by decide⟩) (Sub.cons (LMs (LMs (LMs LM0))) (by omega) (by omega) (by decide) (Or.inl rfl) (Sub.cons (LMs (LMs (LMs (LMs LM0)))) (by omega) (by omega) (by decide) (Or.inl rfl) (Sub.cons (LMs (LMs (LMs (LMs (LMs LM0))))) (by omega) (by omega) (by decide) (Or.inl rfl) Sub.nil)))))
      refine aw_iconst (v := 1) dX8_readLock_64 (by decide) ?_
      refine aw_zreti dX8_readLock_65 rfl (by first | exact Or.inl rfl | exact Or.inr rfl | assumption) (Nat.le_of_ble_eq_true rfl) (Nat.le_of_ble_eq_true rfl) ?_
      exact ⟨⟨(by first | exact Or.inl rfl | exact Or.inr rfl | assumption), ⟨a_20, by omega, ⟨⟨_, _, _, ((JW.same q_27 (by decide) (fun k => (nfc (by omega) (nfc (by omega) (nfc (by omega) (nfc (by omega) nf0)))))).trans te_t_22)⟩, by omega⟩⟩⟩, rfl, j_28⟩
    · skip
      refine aw_iconst (v := 0) dX8_readLock_49 (by decide) ?_
      refine aw_zreti dX8_readLock_50 rfl (by first | exact Or.inl rfl | exact Or.inr rfl | assumption) (Nat.le_of_ble_eq_true rfl) (Nat.le_of_ble_eq_true rfl) ?_
      exact ⟨⟨(by first | exact Or.inl rfl | exact Or.inr rfl | assumption), ⟨a_20, by omega, ⟨⟨_, _, _, te_t_22⟩, by omega⟩⟩⟩, rfl, j_18⟩
  · skip
    refine aw_aload_n dX8_readLock_15 rfl ?_
    refine aw_get dX8_readLock_16 fl_X8_21 ((hJ0.2.1 _ hp.1 hp.2).trans hR) (by omega) rfl ?_
    refine aw_callVi (J' := jX10_cannotStand) (As := []) (st := []) dX8_readLock_19 tb_556 ok_X10_cannotStand ⟨_, te_0⟩ (by omega) rfl rfl (g_X10_cannotStand l D b N V hN hJ0.1 a (⟨⟨_, _, _, te_0⟩, by omega⟩)) rfl (Nat.le_of_ble_eq_true rfl) ⟨Nat.le_of_ble_eq_true rfl, Nat.le_of_ble_eq_true rfl, Nat.le_of_ble_eq_true rfl, Nat.le_of_ble_eq_true rfl⟩ (fun r_42 N_43 V_37 q_44 => ?_)
    obtain ⟨⟨z_35, h_34⟩, rfl, q_33⟩ := q_44
    have j_36 := JW.trans hJ0 (JW.weak q_33 (Sub.cons (LMs LM0) (by decide) (by decide) (by decide) (Or.inr ⟨by decide, by decide⟩) Sub.nil))
    obtain ⟨h_41, a_38, ha_39, ⟨ts_t_40, tn_t_40, tf_t_40, te_t_40⟩, hb_t_40⟩ := h_34
    obtain rfl := h_41
    refine aw_zreti dX8_readLock_22 rfl (by first | exact Or.inl rfl | exact Or.inr rfl | assumption) (Nat.le_of_ble_eq_true rfl) (Nat.le_of_ble_eq_true rfl) ?_
    exact ⟨⟨(by first | exact Or.inl rfl | exact Or.inr rfl | assumption), ⟨a_38, by omega, ⟨⟨_, _, _, te_t_40⟩, by omega⟩⟩⟩, rfl, j_36⟩

set_option maxHeartbeats 4000000 in
set_option maxRecDepth 100000 in
theorem g_X8_readDoor (l : Launch) (D : va_G) (b : Nat) (N : Nat) (V : Wd) (hN : 100 ≤ N) (hW : CW D b V) (p c : Nat) (hp : 100 ≤ p ∧ p < N) (hc : c = 3 ∨ c = 21 ∨ c = 39 ∨ c = 74) (hR : V p = cO 7 [.ref (b + 1), .ref (b + c)]) (a : Nat) (hT : TA b a V) (hlt : a < 260) : MI l D b 3 jX8_readDoor [.ref (b + p)] N V 0 0 (fun r N9 V9 => ((r = 0 ∨ r = 1) ∧ (∃ a9, a ≤ a9 ∧ TA b a9 V9)) ∧ N = N9 ∧ JW D b N [(1, 1, 3, 3), (1, 1, 4, 4), (c, c, 6, 6), (c + 15, c + 15, 0, 1000000), (c + 16, c + 16, 0, 1000000), (c + 17, c + 17, 0, 1000000)] V V9) := by
  have hJ0 : JW D b N [(1, 1, 3, 3), (1, 1, 4, 4), (c, c, 6, 6), (c + 15, c + 15, 0, 1000000), (c + 16, c + 16, 0, 1000000), (c + 17, c + 17, 0, 1000000)] V V := JW.rf hW
  obtain ⟨⟨ts_0, tn_0, tf_0, te_0⟩, ha_0⟩ := id hT
  refine mw_of (by decide) (by simp [Value.category]) (Nat.le_of_ble_eq_true rfl) ?_
  show AW l D b jX8_readDoor (fx_rm 3 0 0) none (fx_MQ D b 0 0 (fx_qi (fun r N9 V9 => ((r = 0 ∨ r = 1) ∧ (∃ a9, a ≤ a9 ∧ TA b a9 V9)) ∧ N = N9 ∧ JW D b N [(1, 1, 3, 3), (1, 1, 4, 4), (c, c, 6, 6), (c + 15, c + 15, 0, 1000000), (c + 16, c + 16, 0, 1000000), (c + 17, c + 17, 0, 1000000)] V V9))) 0 [some (.ref (b + p)), none, none] [] N V 0 0
  refine aw_aload_n dX8_readDoor_0 rfl ?_
  refine aw_get dX8_readDoor_1 fl_X8_21 ((hJ0.2.1 _ hp.1 hp.2).trans hR) (by omega) rfl ?_
  refine aw_dup dX8_readDoor_4 rfl ?_
  refine aw_get dX8_readDoor_5 fl_X8_42 te_0 (by omega) rfl ?_
  refine aw_iconst (v := 1) dX8_readDoor_8 (by decide) ?_
  refine aw_iadd dX8_readDoor_9 ?_
  refine aw_eqi (y := nI (a + 1)) (nI_add _ _) ?_
  refine aw_put dX8_readDoor_10 fp_X8_42 te_0 (by omega) rfl rfl (Nat.le_of_ble_eq_true rfl) rfl ?_
  refine aw_up hJ0 ct_1 ⟨_, _, _, (a + 1), rfl, (by first | omega | (split <;> omega))⟩ (WO (s := 3) (x := .int (nI (a + 1))) te_0 rfl LM0 (by decide) (by decide) (by decide) (Or.inl (by decide))) (fun V_1 j_1 k_1 e_1 => ?_)
  refine aw_aload_n dX8_readDoor_13 rfl ?_
  refine aw_get dX8_readDoor_14 fl_X8_21 ((j_1.2.1 _ hp.1 hp.2).trans hR) (by omega) rfl ?_
  refine aw_get dX8_readDoor_17 fl_X8_42 e_1 (by omega) rfl ?_
  refine aw_istore_n (ls' := [some (.ref (b + p)), some (.int (nI (a + 1))), none]) dX8_readDoor_20 (Nat.le_of_ble_eq_true rfl) rfl ?_
  refine aw_aload_n dX8_readDoor_21 rfl ?_
  refine aw_get dX8_readDoor_22 fl_X8_21 ((j_1.2.1 _ hp.1 hp.2).trans hR) (by omega) rfl ?_
  refine aw_iconst (v := 2) dX8_readDoor_25 (by decide) ?_
  refine aw_callVi (J' := jX10_readNumber) (As := [.int 2]) (st := []) dX8_readDoor_26 tb_539 ok_X10_readNumber ⟨_, e_1⟩ (by omega) rfl rfl (g_X10_readNumber l D b N V_1 hN j_1.1 2 (a + 1) (⟨⟨_, _, _, e_1⟩, by omega⟩)) rfl (Nat.le_of_ble_eq_true rfl) ⟨Nat.le_of_ble_eq_true rfl, Nat.le_of_ble_eq_true rfl, Nat.le_of_ble_eq_true rfl, Nat.le_of_ble_eq_true rfl⟩ (fun r_9 N_10 V_5 q_11 => ?_)
  obtain ⟨h_3, rfl, q_2⟩ := q_11
  have j_4 := JW.trans j_1 (JW.weak q_2 (Sub.cons LM0 (by decide) (by decide) (by decide) (Or.inr ⟨by decide, by decide⟩) (Sub.cons (LMs LM0) (by decide) (by decide) (by decide) (Or.inr ⟨by decide, by decide⟩) Sub.nil)))
  obtain ⟨a_6, ha_7, ⟨ts_t_8, tn_t_8, tf_t_8, te_t_8⟩, hb_t_8⟩ := h_3
  refine aw_istore_n (ls' := [some (.ref (b + p)), some (.int (nI (a + 1))), some (.int r_9)]) dX8_readDoor_29 (Nat.le_of_ble_eq_true rfl) rfl ?_
  refine aw_iload_n dX8_readDoor_30 rfl ?_
  refine aw_if_ge (tgt := 36) dX8_readDoor_31 (by decide) (fun c_12 => ?_) (fun c_12 => ?_)
  · skip
    refine aw_iload_n dX8_readDoor_36 rfl ?_
    refine aw_bipush (v := 16) dX8_readDoor_37 (by decide) ?_
    refine aw_icmp_lt (tgt := 52) dX8_readDoor_39 (by decide) (fun c_13 => ?_) (fun c_13 => ?_)
    · skip
      refine aw_aload_n dX8_readDoor_52 rfl ?_
      refine aw_get dX8_readDoor_53 fl_X8_21 ((j_4.2.1 _ hp.1 hp.2).trans hR) (by omega) rfl ?_
      refine aw_callVi (J' := jX10_now) (As := []) (st := []) dX8_readDoor_56 tb_533 ok_X10_now ⟨_, te_t_8⟩ (by omega) rfl rfl (g_X10_now l D b N V_5 hN j_4.1 a_6 (⟨⟨_, _, _, te_t_8⟩, by omega⟩)) rfl (Nat.le_of_ble_eq_true rfl) ⟨Nat.le_of_ble_eq_true rfl, Nat.le_of_ble_eq_true rfl, Nat.le_of_ble_eq_true rfl, Nat.le_of_ble_eq_true rfl⟩ (fun r_16 N_17 V_18 q_19 => ?_)
      obtain ⟨h_15, rfl, rfl⟩ := q_19
      refine aw_bipush (v := 33) dX8_readDoor_59 (by decide) ?_
      refine aw_icmp_ne (tgt := 109) dX8_readDoor_61 (by decide) (fun c_20 => ?_) (fun c_20 => ?_)
      · skip
        refine aw_aload_n dX8_readDoor_109 rfl ?_
        refine aw_get dX8_readDoor_110 fl_X8_21 ((j_4.2.1 _ hp.1 hp.2).trans hR) (by omega) rfl ?_
        refine aw_bipush (v := 58) dX8_readDoor_113 (by decide) ?_
        refine aw_callVi (J' := jX10_expect) (As := [.int 58]) (st := []) dX8_readDoor_115 tb_550 ok_X10_expect ⟨_, te_t_8⟩ (by omega) rfl rfl (g_X10_expect l D b N V_5 hN j_4.1 58 a_6 (⟨⟨_, _, _, te_t_8⟩, by omega⟩) (by decide)) rfl (Nat.le_of_ble_eq_true rfl) ⟨Nat.le_of_ble_eq_true rfl, Nat.le_of_ble_eq_true rfl, Nat.le_of_ble_eq_true rfl, Nat.le_of_ble_eq_true rfl⟩ (fun r_29 N_30 V_25 q_31 => ?_)
        obtain ⟨⟨z_23, h_22⟩, rfl, q_21⟩ := q_31
        have j_24 := JW.trans j_4 (JW.weak q_21 (Sub.cons LM0 (by decide) (by decide) (by decide) (Or.inr ⟨by decide, by decide⟩) (Sub.cons (LMs LM0) (by decide) (by decide) (by decide) (Or.inr ⟨by decide, by decide⟩) Sub.nil)))
        obtain ⟨a_26, ha_27, ⟨ts_t_28, tn_t_28, tf_t_28, te_t_28⟩, hb_t_28⟩ := h_22
        refine aw_if_eq (tgt := 133) dX8_readDoor_118 (by decide) (fun c_32 => ?_) (fun c_32 => ?_)
        · skip
          refine aw_iconst (v := 0) dX8_readDoor_133 (by decide) ?_
          refine aw_zreti dX8_readDoor_134 rfl (by first | exact Or.inl rfl | exact Or.inr rfl | assumption) (Nat.le_of_ble_eq_true rfl) (Nat.le_of_ble_eq_true rfl) ?_
          exact ⟨⟨(by first | exact Or.inl rfl | exact Or.inr rfl | assumption), ⟨a_26, by omega, ⟨⟨_, _, _, te_t_28⟩, by omega⟩⟩⟩, rfl, j_24⟩
        · skip
          refine aw_aload_n dX8_readDoor_121 rfl ?_
          refine aw_iload_n dX8_readDoor_122 rfl ?_
          refine aw_callVi (J' := jX8_readLock) (As := [.int r_9]) (st := []) dX8_readDoor_123 tb_551 ok_X8_readLock ⟨_, ((j_24.2.1 _ hp.1 hp.2).trans hR)⟩ (by omega) rfl rfl (g_X8_readLock l D b N V_25 hN j_24.1 p c ⟨by omega, by omega⟩ hc ((j_24.2.1 _ hp.1 hp.2).trans hR) r_9 a_26 (⟨⟨_, _, _, te_t_28⟩, by omega⟩)) rfl (Nat.le_of_ble_eq_true rfl) ⟨Nat.le_of_ble_eq_true rfl, Nat.le_of_ble_eq_true rfl, Nat.le_of_ble_eq_true rfl, Nat.le_of_ble_eq_true rfl⟩ (fun r_41 N_42 V_37 q_43 => ?_)
          obtain ⟨⟨z_35, h_34⟩, rfl, q_33⟩ := q_43
          have j_36 := JW.trans j_24 (JW.weak q_33 (Sub.cons LM0 (by decide) (by decide) (by decide) (Or.inr ⟨by decide, by decide⟩) (Sub.cons (LMs LM0) (by decide) (by decide) (by decide) (Or.inr ⟨by decide, by decide⟩) (Sub.cons (LMs (LMs LM0)) (by omega) (by omega) (by decide) (Or.inr ⟨by decide, by decide⟩) (Sub.cons (LMs (LMs (LMs LM0))) (by omega) (by omega) (by decide) (Or.inl rfl) (Sub.cons (LMs (LMs (LMs (LMs LM0)))) (by omega) (by omega) (by decide) (Or.inl rfl) (Sub.cons (LMs (LMs (LMs (LMs (LMs LM0))))) (by omega) (by omega) (by decide) (Or.inl rfl) Sub.nil)))))))
          obtain ⟨a_38, ha_39, ⟨ts_t_40, tn_t_40, tf_t_40, te_t_40⟩, hb_t_40⟩ := h_34
          refine aw_if_eq (tgt := 133) dX8_readDoor_126 (by decide) (fun c_44 => ?_) (fun c_44 => ?_)
          · skip
            refine aw_iconst (v := 0) dX8_readDoor_133 (by decide) ?_
            refine aw_zreti dX8_readDoor_134 rfl (by first | exact Or.inl rfl | exact Or.inr rfl | assumption) (Nat.le_of_ble_eq_true rfl) (Nat.le_of_ble_eq_true rfl) ?_
            exact ⟨⟨(by first | exact Or.inl rfl | exact Or.inr rfl | assumption), ⟨a_38, by omega, ⟨⟨_, _, _, te_t_40⟩, by omega⟩⟩⟩, rfl, j_36⟩
          · skip
            refine aw_iconst (v := 1) dX8_readDoor_129 (by decide) ?_
            refine aw_goto (tgt := 134) dX8_readDoor_130 (by decide) ?_
            refine aw_zreti dX8_readDoor_134 rfl (by first | exact Or.inl rfl | exact Or.inr rfl | assumption) (Nat.le_of_ble_eq_true rfl) (Nat.le_of_ble_eq_true rfl) ?_
            exact ⟨⟨(by first | exact Or.inl rfl | exact Or.inr rfl | assumption), ⟨a_38, by omega, ⟨⟨_, _, _, te_t_40⟩, by omega⟩⟩⟩, rfl, j_36⟩
      · skip
        have hlc_20 := h_15.resolve_left (by rw [c_20]; decide)
        refine aw_aload_n dX8_readDoor_64 rfl ?_
        refine aw_get dX8_readDoor_65 fl_X8_21 ((j_4.2.1 _ hp.1 hp.2).trans hR) (by omega) rfl ?_
        refine aw_dup dX8_readDoor_68 rfl ?_
        refine aw_get dX8_readDoor_69 fl_X8_42 te_t_8 (by omega) rfl ?_
        refine aw_iconst (v := 1) dX8_readDoor_72 (by decide) ?_
        refine aw_iadd dX8_readDoor_73 ?_
        refine aw_eqi (y := nI (a_6 + 1)) (nI_add _ _) ?_
        refine aw_put dX8_readDoor_74 fp_X8_42 te_t_8 (by omega) rfl rfl (Nat.le_of_ble_eq_true rfl) rfl ?_
        refine aw_up j_4 ct_1 ⟨_, _, _, (a_6 + 1), rfl, (by first | omega | (split <;> omega))⟩ (WO (s := 3) (x := .int (nI (a_6 + 1))) te_t_8 rfl LM0 (by decide) (by decide) (by decide) (Or.inl (by decide))) (fun V_45 j_45 k_45 e_45 => ?_)
        refine aw_aload_n dX8_readDoor_77 rfl ?_
        refine aw_get dX8_readDoor_78 fl_X8_9 ((j_45.2.1 _ hp.1 hp.2).trans hR) (by omega) rfl ?_
        refine aw_iload_n dX8_readDoor_81 rfl ?_
        obtain ⟨pe_49, dd_49, ni_49, xx_49, e_49⟩ := JW.get j_45 (ctc_0 hc)
        refine aw_callVi (J' := jX0_isDoor) (As := [.int r_9]) (st := []) dX8_readDoor_82 tb_541 ok_X0_isDoor ⟨_, e_49⟩ (by omega) rfl rfl (g_X0_isDoor l D b N V_45 hN j_45.1 c hc r_9) rfl (Nat.le_of_ble_eq_true rfl) ⟨Nat.le_of_ble_eq_true rfl, Nat.le_of_ble_eq_true rfl, Nat.le_of_ble_eq_true rfl, Nat.le_of_ble_eq_true rfl⟩ (fun r_50 N_51 V_52 q_53 => ?_)
        obtain ⟨⟨z_48, h_47⟩, rfl, rfl⟩ := q_53
        refine aw_if_ne (tgt := 99) dX8_readDoor_85 (by decide) (fun c_54 => ?_) (fun c_54 => ?_)
        · skip
          refine aw_aload_n dX8_readDoor_99 rfl ?_
          refine aw_get dX8_readDoor_100 fl_X8_9 ((j_45.2.1 _ hp.1 hp.2).trans hR) (by omega) rfl ?_
          refine aw_iload_n dX8_readDoor_103 rfl ?_
          refine aw_callVv (J' := jX0_dropDoor) (As := [.int r_9]) (st := []) dX8_readDoor_104 tb_546 ok_X0_dropDoor ⟨_, e_49⟩ (by omega) rfl rfl (g_X0_dropDoor l D b N V_45 hN j_45.1 c hc r_9) rfl (Nat.le_of_ble_eq_true rfl) ⟨Nat.le_of_ble_eq_true rfl, Nat.le_of_ble_eq_true rfl, Nat.le_of_ble_eq_true rfl, Nat.le_of_ble_eq_true rfl⟩ (fun  N_58 V_57 q_59 => ?_)
          obtain ⟨rfl, q_55⟩ := q_59
          have j_56 := JW.trans j_45 (JW.weak q_55 (Sub.cons (LMs (LMs LM0)) (by omega) (by omega) (by decide) (Or.inr ⟨by decide, by decide⟩) (Sub.cons (LMs (LMs (LMs (LMs (LMs LM0))))) (by omega) (by omega) (by decide) (Or.inl rfl) Sub.nil)))
          refine aw_iconst (v := 1) dX8_readDoor_107 (by decide) ?_
          refine aw_zreti dX8_readDoor_108 rfl (by first | exact Or.inl rfl | exact Or.inr rfl | assumption) (Nat.le_of_ble_eq_true rfl) (Nat.le_of_ble_eq_true rfl) ?_
          exact ⟨⟨(by first | exact Or.inl rfl | exact Or.inr rfl | assumption), ⟨(a_6 + 1), by omega, ⟨⟨_, _, _, ((JW.same q_55 (by decide) (fun k => (nfc (by omega) (nfc (by omega) nf0)))).trans e_45)⟩, by omega⟩⟩⟩, rfl, j_56⟩
        · skip
          refine aw_aload_n dX8_readDoor_88 rfl ?_
          refine aw_get dX8_readDoor_89 fl_X8_21 ((j_45.2.1 _ hp.1 hp.2).trans hR) (by omega) rfl ?_
          refine aw_bipush (v := 7) dX8_readDoor_92 (by decide) ?_
          refine aw_iload_n dX8_readDoor_94 rfl ?_
          refine aw_callVi (J' := jX10_fail) (As := [.int 7, .int (nI (a + 1))]) (st := []) dX8_readDoor_95 tb_540 ok_X10_fail ⟨_, e_45⟩ (by omega) rfl rfl (g_X10_fail l D b N V_45 hN j_45.1 7 (nI (a + 1)) (a_6 + 1) (⟨⟨_, _, _, e_45⟩, by omega⟩)) rfl (Nat.le_of_ble_eq_true rfl) ⟨Nat.le_of_ble_eq_true rfl, Nat.le_of_ble_eq_true rfl, Nat.le_of_ble_eq_true rfl, Nat.le_of_ble_eq_true rfl⟩ (fun r_69 N_70 V_64 q_71 => ?_)
          obtain ⟨⟨z_62, h_61⟩, rfl, q_60⟩ := q_71
          have j_63 := JW.trans j_45 (JW.weak q_60 (Sub.cons (LMs LM0) (by decide) (by decide) (by decide) (Or.inr ⟨by decide, by decide⟩) Sub.nil))
          obtain ⟨h_68, a_65, ha_66, ⟨ts_t_67, tn_t_67, tf_t_67, te_t_67⟩, hb_t_67⟩ := h_61
          obtain rfl := h_68
          refine aw_zreti dX8_readDoor_98 rfl (by first | exact Or.inl rfl | exact Or.inr rfl | assumption) (Nat.le_of_ble_eq_true rfl) (Nat.le_of_ble_eq_true rfl) ?_
          exact ⟨⟨(by first | exact Or.inl rfl | exact Or.inr rfl | assumption), ⟨a_65, by omega, ⟨⟨_, _, _, te_t_67⟩, by omega⟩⟩⟩, rfl, j_63⟩
    · skip
      refine aw_aload_n dX8_readDoor_42 rfl ?_
      refine aw_get dX8_readDoor_43 fl_X8_21 ((j_4.2.1 _ hp.1 hp.2).trans hR) (by omega) rfl ?_
      refine aw_iconst (v := 3) dX8_readDoor_46 (by decide) ?_
      refine aw_iload_n dX8_readDoor_47 rfl ?_
      refine aw_callVi (J' := jX10_fail) (As := [.int 3, .int (nI (a + 1))]) (st := []) dX8_readDoor_48 tb_540 ok_X10_fail ⟨_, te_t_8⟩ (by omega) rfl rfl (g_X10_fail l D b N V_5 hN j_4.1 3 (nI (a + 1)) a_6 (⟨⟨_, _, _, te_t_8⟩, by omega⟩)) rfl (Nat.le_of_ble_eq_true rfl) ⟨Nat.le_of_ble_eq_true rfl, Nat.le_of_ble_eq_true rfl, Nat.le_of_ble_eq_true rfl, Nat.le_of_ble_eq_true rfl⟩ (fun r_81 N_82 V_76 q_83 => ?_)
      obtain ⟨⟨z_74, h_73⟩, rfl, q_72⟩ := q_83
      have j_75 := JW.trans j_4 (JW.weak q_72 (Sub.cons (LMs LM0) (by decide) (by decide) (by decide) (Or.inr ⟨by decide, by decide⟩) Sub.nil))
      obtain ⟨h_80, a_77, ha_78, ⟨ts_t_79, tn_t_79, tf_t_79, te_t_79⟩, hb_t_79⟩ := h_73
      obtain rfl := h_80
      refine aw_zreti dX8_readDoor_51 rfl (by first | exact Or.inl rfl | exact Or.inr rfl | assumption) (Nat.le_of_ble_eq_true rfl) (Nat.le_of_ble_eq_true rfl) ?_
      exact ⟨⟨(by first | exact Or.inl rfl | exact Or.inr rfl | assumption), ⟨a_77, by omega, ⟨⟨_, _, _, te_t_79⟩, by omega⟩⟩⟩, rfl, j_75⟩
  · skip
    refine aw_iconst (v := 0) dX8_readDoor_34 (by decide) ?_
    refine aw_zreti dX8_readDoor_35 rfl (by first | exact Or.inl rfl | exact Or.inr rfl | assumption) (Nat.le_of_ble_eq_true rfl) (Nat.le_of_ble_eq_true rfl) ?_
    exact ⟨⟨(by first | exact Or.inl rfl | exact Or.inr rfl | assumption), ⟨a_6, by omega, ⟨⟨_, _, _, te_t_8⟩, by omega⟩⟩⟩, rfl, j_4⟩

set_option maxHeartbeats 4000000 in
set_option maxRecDepth 100000 in
theorem g_X8_readLine (l : Launch) (D : va_G) (b : Nat) (N : Nat) (V : Wd) (hN : 100 ≤ N) (hW : CW D b V) (p c : Nat) (hp : 100 ≤ p ∧ p < N) (hc : c = 3 ∨ c = 21 ∨ c = 39 ∨ c = 74) (hR : V p = cO 7 [.ref (b + 1), .ref (b + c)]) (a : Nat) (hT : TA b a V) : MI l D b 4 jX8_readLine [.ref (b + p)] N V 0 0 (fun r N9 V9 => ((r = 0 ∨ r = 1) ∧ (∃ a9, a ≤ a9 ∧ TA b a9 V9)) ∧ N = N9 ∧ JW D b N [(1, 1, 3, 3), (1, 1, 4, 4), (c + 14, c + 14, 0, 1000000), (c, c, 6, 6), (c + 15, c + 15, 0, 1000000), (c + 16, c + 16, 0, 1000000), (c + 17, c + 17, 0, 1000000)] V V9) := by
  have hJ0 : JW D b N [(1, 1, 3, 3), (1, 1, 4, 4), (c + 14, c + 14, 0, 1000000), (c, c, 6, 6), (c + 15, c + 15, 0, 1000000), (c + 16, c + 16, 0, 1000000), (c + 17, c + 17, 0, 1000000)] V V := JW.rf hW
  obtain ⟨⟨ts_0, tn_0, tf_0, te_0⟩, ha_0⟩ := id hT
  refine mw_of (by decide) (by simp [Value.category]) (Nat.le_of_ble_eq_true rfl) ?_
  show AW l D b jX8_readLine (fx_rm 4 0 0) none (fx_MQ D b 0 0 (fx_qi (fun r N9 V9 => ((r = 0 ∨ r = 1) ∧ (∃ a9, a ≤ a9 ∧ TA b a9 V9)) ∧ N = N9 ∧ JW D b N [(1, 1, 3, 3), (1, 1, 4, 4), (c + 14, c + 14, 0, 1000000), (c, c, 6, 6), (c + 15, c + 15, 0, 1000000), (c + 16, c + 16, 0, 1000000), (c + 17, c + 17, 0, 1000000)] V V9))) 0 [some (.ref (b + p))] [] N V 0 0
  refine aw_aload_n dX8_readLine_0 rfl ?_
  refine aw_get dX8_readLine_1 fl_X8_21 ((hJ0.2.1 _ hp.1 hp.2).trans hR) (by omega) rfl ?_
  refine aw_callVi (J' := jX10_now) (As := []) (st := []) dX8_readLine_4 tb_533 ok_X10_now ⟨_, te_0⟩ (by omega) rfl rfl (g_X10_now l D b N V hN hJ0.1 a (⟨⟨_, _, _, te_0⟩, by omega⟩)) rfl (Nat.le_of_ble_eq_true rfl) ⟨Nat.le_of_ble_eq_true rfl, Nat.le_of_ble_eq_true rfl, Nat.le_of_ble_eq_true rfl, Nat.le_of_ble_eq_true rfl⟩ (fun r_3 N_4 V_5 q_6 => ?_)
  obtain ⟨h_2, rfl, rfl⟩ := q_6
  refine aw_bipush (v := 100) dX8_readLine_7 (by decide) ?_
  refine aw_icmp_ne (tgt := 19) dX8_readLine_9 (by decide) (fun c_7 => ?_) (fun c_7 => ?_)
  · skip
    refine aw_aload_n dX8_readLine_19 rfl ?_
    refine aw_callVi (J' := jX8_readAcquaintance) (As := []) (st := []) dX8_readLine_20 tb_561 ok_X8_readAcquaintance ⟨_, ((hJ0.2.1 _ hp.1 hp.2).trans hR)⟩ (by omega) rfl rfl (g_X8_readAcquaintance l D b N V hN hJ0.1 p c ⟨by omega, by omega⟩ hc ((hJ0.2.1 _ hp.1 hp.2).trans hR) a (⟨⟨_, _, _, te_0⟩, by omega⟩)) rfl (Nat.le_of_ble_eq_true rfl) ⟨Nat.le_of_ble_eq_true rfl, Nat.le_of_ble_eq_true rfl, Nat.le_of_ble_eq_true rfl, Nat.le_of_ble_eq_true rfl⟩ (fun r_16 N_17 V_12 q_18 => ?_)
    obtain ⟨⟨z_10, h_9⟩, rfl, q_8⟩ := q_18
    have j_11 := JW.trans hJ0 (JW.weak q_8 (Sub.cons LM0 (by decide) (by decide) (by decide) (Or.inr ⟨by decide, by decide⟩) (Sub.cons (LMs LM0) (by decide) (by decide) (by decide) (Or.inr ⟨by decide, by decide⟩) (Sub.cons (LMs (LMs LM0)) (by omega) (by omega) (by decide) (Or.inl rfl) Sub.nil))))
    obtain ⟨a_13, ha_14, ⟨ts_t_15, tn_t_15, tf_t_15, te_t_15⟩, hb_t_15⟩ := h_9
    refine aw_zreti dX8_readLine_23 rfl (by first | exact Or.inl rfl | exact Or.inr rfl | assumption) (Nat.le_of_ble_eq_true rfl) (Nat.le_of_ble_eq_true rfl) ?_
    exact ⟨⟨(by first | exact Or.inl rfl | exact Or.inr rfl | assumption), ⟨a_13, by omega, ⟨⟨_, _, _, te_t_15⟩, by omega⟩⟩⟩, rfl, j_11⟩
  · skip
    have hlc_7 := h_2.resolve_left (by rw [c_7]; decide)
    refine aw_aload_n dX8_readLine_12 rfl ?_
    refine aw_callVi (J' := jX8_readDoor) (As := []) (st := []) dX8_readLine_13 tb_534 ok_X8_readDoor ⟨_, ((hJ0.2.1 _ hp.1 hp.2).trans hR)⟩ (by omega) rfl rfl (g_X8_readDoor l D b N V hN hJ0.1 p c ⟨by omega, by omega⟩ hc ((hJ0.2.1 _ hp.1 hp.2).trans hR) a (⟨⟨_, _, _, te_0⟩, by omega⟩) (by omega)) rfl (Nat.le_of_ble_eq_true rfl) ⟨Nat.le_of_ble_eq_true rfl, Nat.le_of_ble_eq_true rfl, Nat.le_of_ble_eq_true rfl, Nat.le_of_ble_eq_true rfl⟩ (fun r_27 N_28 V_23 q_29 => ?_)
    obtain ⟨⟨z_21, h_20⟩, rfl, q_19⟩ := q_29
    have j_22 := JW.trans hJ0 (JW.weak q_19 (Sub.cons LM0 (by decide) (by decide) (by decide) (Or.inr ⟨by decide, by decide⟩) (Sub.cons (LMs LM0) (by decide) (by decide) (by decide) (Or.inr ⟨by decide, by decide⟩) (Sub.cons (LMs (LMs (LMs LM0))) (by omega) (by omega) (by decide) (Or.inr ⟨by decide, by decide⟩) (Sub.cons (LMs (LMs (LMs (LMs LM0)))) (by omega) (by omega) (by decide) (Or.inl rfl) (Sub.cons (LMs (LMs (LMs (LMs (LMs LM0))))) (by omega) (by omega) (by decide) (Or.inl rfl) (Sub.cons (LMs (LMs (LMs (LMs (LMs (LMs LM0)))))) (by omega) (by omega) (by decide) (Or.inl rfl) Sub.nil)))))))
    obtain ⟨a_24, ha_25, ⟨ts_t_26, tn_t_26, tf_t_26, te_t_26⟩, hb_t_26⟩ := h_20
    refine aw_goto (tgt := 23) dX8_readLine_16 (by decide) ?_
    refine aw_zreti dX8_readLine_23 rfl (by first | exact Or.inl rfl | exact Or.inr rfl | assumption) (Nat.le_of_ble_eq_true rfl) (Nat.le_of_ble_eq_true rfl) ?_
    exact ⟨⟨(by first | exact Or.inl rfl | exact Or.inr rfl | assumption), ⟨a_24, by omega, ⟨⟨_, _, _, te_t_26⟩, by omega⟩⟩⟩, rfl, j_22⟩

set_option maxHeartbeats 4000000 in
set_option maxRecDepth 100000 in
theorem g_X5_open_6 (l : Launch) (D : va_G) (b : Nat) (N : Nat) (V : Wd) (hN : 100 ≤ N) (hW : CW D b V) (p x : Nat) (hp : 100 ≤ p ∧ p < N) (hx : x = 57 ∨ x = 65) (hR : V p = cO 5 [.ref (b + 1), .ref (b + x)]) (a : Nat) (hT : TA b a V) (hlt : a < 260) : MI l D b 1 jX5_open [.ref (b + p), .int 6] N V 0 0 (fun r N9 V9 => ((r = 0 ∨ r = 1) ∧ ((r = 0) ∧ ∃ a9, a ≤ a9 ∧ TA b a9 V9)) ∧ N = N9 ∧ JW D b N [(1, 1, 4, 4)] V V9) := by
  have hJ0 : JW D b N [(1, 1, 4, 4)] V V := JW.rf hW
  obtain ⟨⟨ts_0, tn_0, tf_0, te_0⟩, ha_0⟩ := id hT
  refine mw_of (by decide) (by simp [Value.category]) (Nat.le_of_ble_eq_true rfl) ?_
  show AW l D b jX5_open (fx_rm 1 0 0) none (fx_MQ D b 0 0 (fx_qi (fun r N9 V9 => ((r = 0 ∨ r = 1) ∧ ((r = 0) ∧ ∃ a9, a ≤ a9 ∧ TA b a9 V9)) ∧ N = N9 ∧ JW D b N [(1, 1, 4, 4)] V V9))) 0 [some (.ref (b + p)), some (.int 6)] [] N V 0 0
  refine aw_iload_n dX5_open_0 rfl ?_
  refine aw_bipush (v := 6) dX5_open_1 (by decide) ?_
  refine aw_icmp_lt (tgt := 22) dX5_open_3 (by decide) (fun c_1 => ?_) (fun c_1 => ?_)
  · exact absurd c_1 (by decide)
  refine aw_aload_n dX5_open_6 rfl ?_
  refine aw_get dX5_open_7 fl_X5_15 ((hJ0.2.1 _ hp.1 hp.2).trans hR) (by omega) rfl ?_
  refine aw_iconst (v := 5) dX5_open_10 (by decide) ?_
  refine aw_aload_n dX5_open_11 rfl ?_
  refine aw_get dX5_open_12 fl_X5_15 ((hJ0.2.1 _ hp.1 hp.2).trans hR) (by omega) rfl ?_
  refine aw_get dX5_open_15 fl_X5_25 te_0 (by omega) rfl ?_
  refine aw_callVi (J' := jX10_fail) (As := [.int 5, .int (nI a)]) (st := []) dX5_open_18 tb_411 ok_X10_fail ⟨_, te_0⟩ (by omega) rfl rfl (g_X10_fail l D b N V hN hJ0.1 5 (nI a) a (⟨⟨_, _, _, te_0⟩, by omega⟩)) rfl (Nat.le_of_ble_eq_true rfl) ⟨Nat.le_of_ble_eq_true rfl, Nat.le_of_ble_eq_true rfl, Nat.le_of_ble_eq_true rfl, Nat.le_of_ble_eq_true rfl⟩ (fun r_11 N_12 V_6 q_13 => ?_)
  obtain ⟨⟨z_4, h_3⟩, rfl, q_2⟩ := q_13
  have j_5 := JW.trans hJ0 (JW.weak q_2 (Sub.cons LM0 (by decide) (by decide) (by decide) (Or.inr ⟨by decide, by decide⟩) Sub.nil))
  obtain ⟨h_10, a_7, ha_8, ⟨ts_t_9, tn_t_9, tf_t_9, te_t_9⟩, hb_t_9⟩ := h_3
  obtain rfl := h_10
  refine aw_zreti dX5_open_21 rfl (by first | exact Or.inl rfl | exact Or.inr rfl | assumption) (Nat.le_of_ble_eq_true rfl) (Nat.le_of_ble_eq_true rfl) ?_
  exact ⟨⟨(by first | exact Or.inl rfl | exact Or.inr rfl | assumption), ⟨rfl, ⟨a_7, by omega, ⟨⟨_, _, _, te_t_9⟩, by omega⟩⟩⟩⟩, rfl, j_5⟩

set_option maxHeartbeats 4000000 in
set_option maxRecDepth 100000 in
theorem g_X5_readFactor_6 (l : Launch) (D : va_G) (b : Nat) (N : Nat) (V : Wd) (hN : 100 ≤ N) (hW : CW D b V) (p x : Nat) (hp : 100 ≤ p ∧ p < N) (hx : x = 57 ∨ x = 65) (hR : V p = cO 5 [.ref (b + 1), .ref (b + x)]) (a : Nat) (hT : TA b a V) : MI l D b 5 jX5_readFactor [.ref (b + p), .int 6] N V 0 0 (fun r N9 V9 => ((r = 0 ∨ r = 1) ∧ (∃ a9, a ≤ a9 ∧ TA b a9 V9)) ∧ N = N9 ∧ JW D b N [(1, 1, 3, 3), (x + 1, x + 1, 0, 1000000), (x + 2, x + 2, 0, 1000000), (x, x, 2, 2), (1, 1, 4, 4)] V V9) := by
  have hJ0 : JW D b N [(1, 1, 3, 3), (x + 1, x + 1, 0, 1000000), (x + 2, x + 2, 0, 1000000), (x, x, 2, 2), (1, 1, 4, 4)] V V := JW.rf hW
  obtain ⟨⟨ts_0, tn_0, tf_0, te_0⟩, ha_0⟩ := id hT
  refine mw_of (by decide) (by simp [Value.category]) (Nat.le_of_ble_eq_true rfl) ?_
  show AW l D b jX5_readFactor (fx_rm 5 0 0) none (fx_MQ D b 0 0 (fx_qi (fun r N9 V9 => ((r = 0 ∨ r = 1) ∧ (∃ a9, a ≤ a9 ∧ TA b a9 V9)) ∧ N = N9 ∧ JW D b N [(1, 1, 3, 3), (x + 1, x + 1, 0, 1000000), (x + 2, x + 2, 0, 1000000), (x, x, 2, 2), (1, 1, 4, 4)] V V9))) 0 [some (.ref (b + p)), some (.int 6), none, none] [] N V 0 0
  refine aw_aload_n dX5_readFactor_0 rfl ?_
  refine aw_get dX5_readFactor_1 fl_X5_15 ((hJ0.2.1 _ hp.1 hp.2).trans hR) (by omega) rfl ?_
  refine aw_callVi (J' := jX10_now) (As := []) (st := []) dX5_readFactor_4 tb_390 ok_X10_now ⟨_, te_0⟩ (by omega) rfl rfl (g_X10_now l D b N V hN hJ0.1 a (⟨⟨_, _, _, te_0⟩, by omega⟩)) rfl (Nat.le_of_ble_eq_true rfl) ⟨Nat.le_of_ble_eq_true rfl, Nat.le_of_ble_eq_true rfl, Nat.le_of_ble_eq_true rfl, Nat.le_of_ble_eq_true rfl⟩ (fun r_3 N_4 V_5 q_6 => ?_)
  obtain ⟨h_2, rfl, rfl⟩ := q_6
  refine aw_istore_n (ls' := [some (.ref (b + p)), some (.int 6), some (.int r_3), none]) dX5_readFactor_7 (Nat.le_of_ble_eq_true rfl) rfl ?_
  refine aw_iload_n dX5_readFactor_8 rfl ?_
  refine aw_bipush (v := 91) dX5_readFactor_9 (by decide) ?_
  refine aw_icmp_ne (tgt := 50) dX5_readFactor_11 (by decide) (fun c_7 => ?_) (fun c_7 => ?_)
  · skip
    refine aw_iload_n dX5_readFactor_50 rfl ?_
    refine aw_callSi (J' := jX10_isDigit) (As := [.int r_3]) (st := []) dX5_readFactor_51 tb_413 ok_X10_isDigit rfl (g_X10_isDigit l D b N V hN hJ0.1 r_3) rfl (Nat.le_of_ble_eq_true rfl) ⟨Nat.le_of_ble_eq_true rfl, Nat.le_of_ble_eq_true rfl, Nat.le_of_ble_eq_true rfl, Nat.le_of_ble_eq_true rfl⟩ (fun r_11 N_12 V_13 q_14 => ?_)
    obtain ⟨⟨z_10, h_9⟩, rfl, rfl⟩ := q_14
    refine aw_if_eq (tgt := 85) dX5_readFactor_54 (by decide) (fun c_15 => ?_) (fun c_15 => ?_)
    · skip
      refine aw_iload_n dX5_readFactor_85 rfl ?_
      refine aw_if_ge (tgt := 93) dX5_readFactor_86 (by decide) (fun c_16 => ?_) (fun c_16 => ?_)
      · skip
        have hlc_16 := h_2.resolve_left (fun z => absurd c_16 (by rw [z]; decide))
        refine aw_strIdx rfl dX5_readFactor_93 dX5_readFactor_95 dX5_readFactor_96 dX5_readFactor_97 rfl rfl (Nat.le_of_ble_eq_true rfl) ⟨Nat.le_of_ble_eq_true rfl, Nat.le_of_ble_eq_true rfl, Nat.le_of_ble_eq_true rfl, Nat.le_of_ble_eq_true rfl⟩ (fun ixr => ?_)
        refine aw_istore_n (ls' := [some (.ref (b + p)), some (.int 6), some (.int r_3), some (.int ixr)]) dX5_readFactor_100 (Nat.le_of_ble_eq_true rfl) rfl ?_
        refine aw_iload_n dX5_readFactor_101 rfl ?_
        refine aw_if_ge (tgt := 113) dX5_readFactor_102 (by decide) (fun c_17 => ?_) (fun c_17 => ?_)
        · skip
          refine aw_aload_n dX5_readFactor_113 rfl ?_
          refine aw_get dX5_readFactor_114 fl_X5_15 ((hJ0.2.1 _ hp.1 hp.2).trans hR) (by omega) rfl ?_
          refine aw_dup dX5_readFactor_117 rfl ?_
          refine aw_get dX5_readFactor_118 fl_X5_25 te_0 (by omega) rfl ?_
          refine aw_iconst (v := 1) dX5_readFactor_121 (by decide) ?_
          refine aw_iadd dX5_readFactor_122 ?_
          refine aw_eqi (y := nI (a + 1)) (nI_add _ _) ?_
          refine aw_put dX5_readFactor_123 fp_X5_25 te_0 (by omega) rfl rfl (Nat.le_of_ble_eq_true rfl) rfl ?_
          refine aw_up hJ0 ct_1 ⟨_, _, _, (a + 1), rfl, (by first | omega | (split <;> omega))⟩ (WO (s := 3) (x := .int (nI (a + 1))) te_0 rfl LM0 (by decide) (by decide) (by decide) (Or.inl (by decide))) (fun V_18 j_18 k_18 e_18 => ?_)
          refine aw_aload_n dX5_readFactor_126 rfl ?_
          refine aw_get dX5_readFactor_127 fl_X5_9 ((j_18.2.1 _ hp.1 hp.2).trans hR) (by omega) rfl ?_
          refine aw_bipush (v := 64) dX5_readFactor_130 (by decide) ?_
          refine aw_iload_n dX5_readFactor_132 rfl ?_
          obtain ⟨s8_22, r8_22, h8_22, e_22, hs_22, hr_22⟩ := JW.get j_18 (ctl_0 hx)
          refine aw_callVi (J' := jX4_add) (As := [.int 64, .int ixr]) (st := []) dX5_readFactor_133 tb_415 ok_X4_add ⟨_, e_22⟩ (by omega) rfl rfl (g_X4_add l D b N V_18 hN j_18.1 x hx 64 ixr c_17) rfl (Nat.le_of_ble_eq_true rfl) ⟨Nat.le_of_ble_eq_true rfl, Nat.le_of_ble_eq_true rfl, Nat.le_of_ble_eq_true rfl, Nat.le_of_ble_eq_true rfl⟩ (fun r_23 N_24 V_21 q_25 => ?_)
          obtain ⟨rfl, q_19⟩ := q_25
          have j_20 := JW.trans j_18 (JW.weak q_19 (Sub.cons (LMs LM0) (by omega) (by omega) (by decide) (Or.inl rfl) (Sub.cons (LMs (LMs LM0)) (by omega) (by omega) (by decide) (Or.inl rfl) (Sub.cons (LMs (LMs (LMs LM0))) (by omega) (by omega) (by decide) (Or.inr ⟨by decide, by decide⟩) Sub.nil))))
          refine aw_pop dX5_readFactor_136 rfl ?_
          refine aw_iconst (v := 1) dX5_readFactor_137 (by decide) ?_
          refine aw_zreti dX5_readFactor_138 rfl (by first | exact Or.inl rfl | exact Or.inr rfl | assumption) (Nat.le_of_ble_eq_true rfl) (Nat.le_of_ble_eq_true rfl) ?_
          exact ⟨⟨(by first | exact Or.inl rfl | exact Or.inr rfl | assumption), ⟨(a + 1), by omega, ⟨⟨_, _, _, ((JW.same q_19 (by decide) (fun k => (nfc (by omega) (nfc (by omega) (nfc (by omega) nf0))))).trans e_18)⟩, by omega⟩⟩⟩, rfl, j_20⟩
        · skip
          refine aw_aload_n dX5_readFactor_105 rfl ?_
          refine aw_get dX5_readFactor_106 fl_X5_15 ((hJ0.2.1 _ hp.1 hp.2).trans hR) (by omega) rfl ?_
          refine aw_callVi (J' := jX10_cannotStand) (As := []) (st := []) dX5_readFactor_109 tb_493 ok_X10_cannotStand ⟨_, te_0⟩ (by omega) rfl rfl (g_X10_cannotStand l D b N V hN hJ0.1 a (⟨⟨_, _, _, te_0⟩, by omega⟩)) rfl (Nat.le_of_ble_eq_true rfl) ⟨Nat.le_of_ble_eq_true rfl, Nat.le_of_ble_eq_true rfl, Nat.le_of_ble_eq_true rfl, Nat.le_of_ble_eq_true rfl⟩ (fun r_35 N_36 V_30 q_37 => ?_)
          obtain ⟨⟨z_28, h_27⟩, rfl, q_26⟩ := q_37
          have j_29 := JW.trans hJ0 (JW.weak q_26 (Sub.cons (LMs (LMs (LMs (LMs LM0)))) (by decide) (by decide) (by decide) (Or.inr ⟨by decide, by decide⟩) Sub.nil))
          obtain ⟨h_34, a_31, ha_32, ⟨ts_t_33, tn_t_33, tf_t_33, te_t_33⟩, hb_t_33⟩ := h_27
          obtain rfl := h_34
          refine aw_zreti dX5_readFactor_112 rfl (by first | exact Or.inl rfl | exact Or.inr rfl | assumption) (Nat.le_of_ble_eq_true rfl) (Nat.le_of_ble_eq_true rfl) ?_
          exact ⟨⟨(by first | exact Or.inl rfl | exact Or.inr rfl | assumption), ⟨a_31, by omega, ⟨⟨_, _, _, te_t_33⟩, by omega⟩⟩⟩, rfl, j_29⟩
      · skip
        refine aw_iconst (v := (-1)) dX5_readFactor_89 (by decide) ?_
        refine aw_goto (tgt := 100) dX5_readFactor_90 (by decide) ?_
        refine aw_istore_n (ls' := [some (.ref (b + p)), some (.int 6), some (.int r_3), some (.int (-1))]) dX5_readFactor_100 (Nat.le_of_ble_eq_true rfl) rfl ?_
        refine aw_iload_n dX5_readFactor_101 rfl ?_
        refine aw_if_ge (tgt := 113) dX5_readFactor_102 (by decide) (fun c_38 => ?_) (fun c_38 => ?_)
        · exact absurd c_38 (by decide)
        refine aw_aload_n dX5_readFactor_105 rfl ?_
        refine aw_get dX5_readFactor_106 fl_X5_15 ((hJ0.2.1 _ hp.1 hp.2).trans hR) (by omega) rfl ?_
        refine aw_callVi (J' := jX10_cannotStand) (As := []) (st := []) dX5_readFactor_109 tb_493 ok_X10_cannotStand ⟨_, te_0⟩ (by omega) rfl rfl (g_X10_cannotStand l D b N V hN hJ0.1 a (⟨⟨_, _, _, te_0⟩, by omega⟩)) rfl (Nat.le_of_ble_eq_true rfl) ⟨Nat.le_of_ble_eq_true rfl, Nat.le_of_ble_eq_true rfl, Nat.le_of_ble_eq_true rfl, Nat.le_of_ble_eq_true rfl⟩ (fun r_48 N_49 V_43 q_50 => ?_)
        obtain ⟨⟨z_41, h_40⟩, rfl, q_39⟩ := q_50
        have j_42 := JW.trans hJ0 (JW.weak q_39 (Sub.cons (LMs (LMs (LMs (LMs LM0)))) (by decide) (by decide) (by decide) (Or.inr ⟨by decide, by decide⟩) Sub.nil))
        obtain ⟨h_47, a_44, ha_45, ⟨ts_t_46, tn_t_46, tf_t_46, te_t_46⟩, hb_t_46⟩ := h_40
        obtain rfl := h_47
        refine aw_zreti dX5_readFactor_112 rfl (by first | exact Or.inl rfl | exact Or.inr rfl | assumption) (Nat.le_of_ble_eq_true rfl) (Nat.le_of_ble_eq_true rfl) ?_
        exact ⟨⟨(by first | exact Or.inl rfl | exact Or.inr rfl | assumption), ⟨a_44, by omega, ⟨⟨_, _, _, te_t_46⟩, by omega⟩⟩⟩, rfl, j_42⟩
    · skip
      have h0c_15 := h_9.resolve_left c_15
      have hlc_15 := h_2.resolve_left (fun z => absurd h0c_15 (by rw [z]; decide))
      refine aw_aload_n dX5_readFactor_57 rfl ?_
      refine aw_get dX5_readFactor_58 fl_X5_15 ((hJ0.2.1 _ hp.1 hp.2).trans hR) (by omega) rfl ?_
      refine aw_iconst (v := 5) dX5_readFactor_61 (by decide) ?_
      refine aw_callVi (J' := jX10_readNumber) (As := [.int 5]) (st := []) dX5_readFactor_62 tb_414 ok_X10_readNumber ⟨_, te_0⟩ (by omega) rfl rfl (g_X10_readNumber l D b N V hN hJ0.1 5 a (⟨⟨_, _, _, te_0⟩, by omega⟩)) rfl (Nat.le_of_ble_eq_true rfl) ⟨Nat.le_of_ble_eq_true rfl, Nat.le_of_ble_eq_true rfl, Nat.le_of_ble_eq_true rfl, Nat.le_of_ble_eq_true rfl⟩ (fun r_58 N_59 V_54 q_60 => ?_)
      obtain ⟨h_52, rfl, q_51⟩ := q_60
      have j_53 := JW.trans hJ0 (JW.weak q_51 (Sub.cons LM0 (by decide) (by decide) (by decide) (Or.inr ⟨by decide, by decide⟩) (Sub.cons (LMs (LMs (LMs (LMs LM0)))) (by decide) (by decide) (by decide) (Or.inr ⟨by decide, by decide⟩) Sub.nil)))
      obtain ⟨a_55, ha_56, ⟨ts_t_57, tn_t_57, tf_t_57, te_t_57⟩, hb_t_57⟩ := h_52
      refine aw_istore_n (ls' := [some (.ref (b + p)), some (.int 6), some (.int r_3), some (.int r_58)]) dX5_readFactor_65 (Nat.le_of_ble_eq_true rfl) rfl ?_
      refine aw_iload_n dX5_readFactor_66 rfl ?_
      refine aw_if_ge (tgt := 72) dX5_readFactor_67 (by decide) (fun c_61 => ?_) (fun c_61 => ?_)
      · skip
        refine aw_aload_n dX5_readFactor_72 rfl ?_
        refine aw_get dX5_readFactor_73 fl_X5_9 ((j_53.2.1 _ hp.1 hp.2).trans hR) (by omega) rfl ?_
        refine aw_bipush (v := 35) dX5_readFactor_76 (by decide) ?_
        refine aw_iload_n dX5_readFactor_78 rfl ?_
        obtain ⟨s8_65, r8_65, h8_65, e_65, hs_65, hr_65⟩ := JW.get j_53 (ctl_0 hx)
        refine aw_callVi (J' := jX4_add) (As := [.int 35, .int r_58]) (st := []) dX5_readFactor_79 tb_415 ok_X4_add ⟨_, e_65⟩ (by omega) rfl rfl (g_X4_add l D b N V_54 hN j_53.1 x hx 35 r_58 c_61) rfl (Nat.le_of_ble_eq_true rfl) ⟨Nat.le_of_ble_eq_true rfl, Nat.le_of_ble_eq_true rfl, Nat.le_of_ble_eq_true rfl, Nat.le_of_ble_eq_true rfl⟩ (fun r_66 N_67 V_64 q_68 => ?_)
        obtain ⟨rfl, q_62⟩ := q_68
        have j_63 := JW.trans j_53 (JW.weak q_62 (Sub.cons (LMs LM0) (by omega) (by omega) (by decide) (Or.inl rfl) (Sub.cons (LMs (LMs LM0)) (by omega) (by omega) (by decide) (Or.inl rfl) (Sub.cons (LMs (LMs (LMs LM0))) (by omega) (by omega) (by decide) (Or.inr ⟨by decide, by decide⟩) Sub.nil))))
        refine aw_pop dX5_readFactor_82 rfl ?_
        refine aw_iconst (v := 1) dX5_readFactor_83 (by decide) ?_
        refine aw_zreti dX5_readFactor_84 rfl (by first | exact Or.inl rfl | exact Or.inr rfl | assumption) (Nat.le_of_ble_eq_true rfl) (Nat.le_of_ble_eq_true rfl) ?_
        exact ⟨⟨(by first | exact Or.inl rfl | exact Or.inr rfl | assumption), ⟨a_55, by omega, ⟨⟨_, _, _, ((JW.same q_62 (by decide) (fun k => (nfc (by omega) (nfc (by omega) (nfc (by omega) nf0))))).trans te_t_57)⟩, by omega⟩⟩⟩, rfl, j_63⟩
      · skip
        refine aw_iconst (v := 0) dX5_readFactor_70 (by decide) ?_
        refine aw_zreti dX5_readFactor_71 rfl (by first | exact Or.inl rfl | exact Or.inr rfl | assumption) (Nat.le_of_ble_eq_true rfl) (Nat.le_of_ble_eq_true rfl) ?_
        exact ⟨⟨(by first | exact Or.inl rfl | exact Or.inr rfl | assumption), ⟨a_55, by omega, ⟨⟨_, _, _, te_t_57⟩, by omega⟩⟩⟩, rfl, j_53⟩
  · skip
    have hlc_7 := h_2.resolve_left (by rw [c_7]; decide)
    refine aw_aload_n dX5_readFactor_14 rfl ?_
    refine aw_iload_n dX5_readFactor_15 rfl ?_
    refine aw_callVi (J' := jX5_open) (As := [.int 6]) (st := []) dX5_readFactor_16 tb_407 ok_X5_open ⟨_, ((hJ0.2.1 _ hp.1 hp.2).trans hR)⟩ (by omega) rfl rfl (g_X5_open_6 l D b N V hN hJ0.1 p x ⟨by omega, by omega⟩ hx ((hJ0.2.1 _ hp.1 hp.2).trans hR) a (⟨⟨_, _, _, te_0⟩, by omega⟩) (by omega)) rfl (Nat.le_of_ble_eq_true rfl) ⟨Nat.le_of_ble_eq_true rfl, Nat.le_of_ble_eq_true rfl, Nat.le_of_ble_eq_true rfl, Nat.le_of_ble_eq_true rfl⟩ (fun r_78 N_79 V_73 q_80 => ?_)
    obtain ⟨⟨z_71, h_70⟩, rfl, q_69⟩ := q_80
    have j_72 := JW.trans hJ0 (JW.weak q_69 (Sub.cons (LMs (LMs (LMs (LMs LM0)))) (by decide) (by decide) (by decide) (Or.inr ⟨by decide, by decide⟩) Sub.nil))
    obtain ⟨h_77, a_74, ha_75, ⟨ts_t_76, tn_t_76, tf_t_76, te_t_76⟩, hb_t_76⟩ := h_70
    obtain rfl := h_77
    refine aw_if_eq (tgt := 48) dX5_readFactor_19 (by decide) (fun c_81 => ?_) (fun c_81 => ?_)
    rotate_left
    · exact absurd (by decide) c_81
    refine aw_iconst (v := 0) dX5_readFactor_48 (by decide) ?_
    refine aw_zreti dX5_readFactor_49 rfl (by first | exact Or.inl rfl | exact Or.inr rfl | assumption) (Nat.le_of_ble_eq_true rfl) (Nat.le_of_ble_eq_true rfl) ?_
    exact ⟨⟨(by first | exact Or.inl rfl | exact Or.inr rfl | assumption), ⟨a_74, by omega, ⟨⟨_, _, _, te_t_76⟩, by omega⟩⟩⟩, rfl, j_72⟩

set_option maxHeartbeats 4000000 in
set_option maxRecDepth 100000 in
theorem g_X5_readProduct_6 (l : Launch) (D : va_G) (b : Nat) (N : Nat) (V : Wd) (hN : 100 ≤ N) (hW : CW D b V) (p x : Nat) (hp : 100 ≤ p ∧ p < N) (hx : x = 57 ∨ x = 65) (hR : V p = cO 5 [.ref (b + 1), .ref (b + x)]) (a : Nat) (hT : TA b a V) : MI l D b 6 jX5_readProduct [.ref (b + p), .int 6] N V 0 0 (fun r N9 V9 => ((r = 0 ∨ r = 1) ∧ (∃ a9, a ≤ a9 ∧ TA b a9 V9)) ∧ N = N9 ∧ JW D b N [(1, 1, 3, 3), (x + 1, x + 1, 0, 1000000), (x + 2, x + 2, 0, 1000000), (x, x, 2, 2), (1, 1, 4, 4)] V V9) := by
  have hJ0 : JW D b N [(1, 1, 3, 3), (x + 1, x + 1, 0, 1000000), (x + 2, x + 2, 0, 1000000), (x, x, 2, 2), (1, 1, 4, 4)] V V := JW.rf hW
  obtain ⟨⟨ts_0, tn_0, tf_0, te_0⟩, ha_0⟩ := id hT
  refine mw_of (by decide) (by simp [Value.category]) (Nat.le_of_ble_eq_true rfl) ?_
  show AW l D b jX5_readProduct (fx_rm 6 0 0) none (fx_MQ D b 0 0 (fx_qi (fun r N9 V9 => ((r = 0 ∨ r = 1) ∧ (∃ a9, a ≤ a9 ∧ TA b a9 V9)) ∧ N = N9 ∧ JW D b N [(1, 1, 3, 3), (x + 1, x + 1, 0, 1000000), (x + 2, x + 2, 0, 1000000), (x, x, 2, 2), (1, 1, 4, 4)] V V9))) 0 [some (.ref (b + p)), some (.int 6), none] [] N V 0 0
  refine aw_aload_n dX5_readProduct_0 rfl ?_
  refine aw_iload_n dX5_readProduct_1 rfl ?_
  refine aw_callVi (J' := jX5_readFactor) (As := [.int 6]) (st := []) dX5_readProduct_2 tb_403 ok_X5_readFactor ⟨_, ((hJ0.2.1 _ hp.1 hp.2).trans hR)⟩ (by omega) rfl rfl (g_X5_readFactor_6 l D b N V hN hJ0.1 p x ⟨by omega, by omega⟩ hx ((hJ0.2.1 _ hp.1 hp.2).trans hR) a (⟨⟨_, _, _, te_0⟩, by omega⟩)) rfl (Nat.le_of_ble_eq_true rfl) ⟨Nat.le_of_ble_eq_true rfl, Nat.le_of_ble_eq_true rfl, Nat.le_of_ble_eq_true rfl, Nat.le_of_ble_eq_true rfl⟩ (fun r_9 N_10 V_5 q_11 => ?_)
  obtain ⟨⟨z_3, h_2⟩, rfl, q_1⟩ := q_11
  have j_4 := JW.trans hJ0 (JW.weak q_1 (Sub.cons LM0 (by decide) (by decide) (by decide) (Or.inr ⟨by decide, by decide⟩) (Sub.cons (LMs LM0) (by omega) (by omega) (by decide) (Or.inl rfl) (Sub.cons (LMs (LMs LM0)) (by omega) (by omega) (by decide) (Or.inl rfl) (Sub.cons (LMs (LMs (LMs LM0))) (by omega) (by omega) (by decide) (Or.inr ⟨by decide, by decide⟩) (Sub.cons (LMs (LMs (LMs (LMs LM0)))) (by decide) (by decide) (by decide) (Or.inr ⟨by decide, by decide⟩) Sub.nil))))))
  obtain ⟨a_6, ha_7, ⟨ts_t_8, tn_t_8, tf_t_8, te_t_8⟩, hb_t_8⟩ := h_2
  refine aw_if_ne (tgt := 10) dX5_readProduct_5 (by decide) (fun c_12 => ?_) (fun c_12 => ?_)
  · skip
    have ml_10_13 : ∀ (m : Nat) (a10 : Nat) (V10 : Wd), m = 260 - a10 → (JW D b N [(1, 1, 3, 3), (x + 1, x + 1, 0, 1000000), (x + 2, x + 2, 0, 1000000), (x, x, 2, 2), (1, 1, 4, 4)] V V10) → (TA b a10 V10) → (a ≤ a10) → AW l D b jX5_readProduct (fx_rm 6 0 0) none (fx_MQ D b 0 0 (fx_qi (fun r N9 V9 => ((r = 0 ∨ r = 1) ∧ (∃ a9, a ≤ a9 ∧ TA b a9 V9)) ∧ N = N9 ∧ JW D b N [(1, 1, 3, 3), (x + 1, x + 1, 0, 1000000), (x + 2, x + 2, 0, 1000000), (x, x, 2, 2), (1, 1, 4, 4)] V V9))) 10 [some (.ref (b + p)), some (.int 6), none] [] N V10 0 0 := by
      intro m; refine Nat.strongRecOn m ?_
      intro m mih_10_13 a10 V10 hm10 i10_0 i10_1 i10_2
      obtain ⟨⟨ts_10, tn_10, tf_10, te_10⟩, hb_10⟩ := i10_1
      refine aw_aload_n dX5_readProduct_10 rfl ?_
      refine aw_get dX5_readProduct_11 fl_X5_15 ((i10_0.2.1 _ hp.1 hp.2).trans hR) (by omega) rfl ?_
      refine aw_get dX5_readProduct_14 fl_X5_25 te_10 (by omega) rfl ?_
      refine aw_aload_n dX5_readProduct_17 rfl ?_
      refine aw_get dX5_readProduct_18 fl_X5_15 ((i10_0.2.1 _ hp.1 hp.2).trans hR) (by omega) rfl ?_
      refine aw_get dX5_readProduct_21 fl_X5_59 te_10 (by omega) rfl ?_
      refine aw_icmp_ge (tgt := 84) dX5_readProduct_24 (by decide) (fun c_14 => ?_) (fun c_14 => ?_)
      · skip
        refine aw_iconst (v := 1) dX5_readProduct_84 (by decide) ?_
        refine aw_zreti dX5_readProduct_85 rfl (by first | exact Or.inl rfl | exact Or.inr rfl | assumption) (Nat.le_of_ble_eq_true rfl) (Nat.le_of_ble_eq_true rfl) ?_
        exact ⟨⟨(by first | exact Or.inl rfl | exact Or.inr rfl | assumption), ⟨a10, by omega, ⟨⟨_, _, _, te_10⟩, by omega⟩⟩⟩, rfl, i10_0⟩
      · skip
        refine aw_aload_n dX5_readProduct_27 rfl ?_
        refine aw_get dX5_readProduct_28 fl_X5_15 ((i10_0.2.1 _ hp.1 hp.2).trans hR) (by omega) rfl ?_
        refine aw_callVi (J' := jX10_now) (As := []) (st := []) dX5_readProduct_31 tb_390 ok_X10_now ⟨_, te_10⟩ (by omega) rfl rfl (g_X10_now l D b N V10 hN i10_0.1 a10 (⟨⟨_, _, _, te_10⟩, by omega⟩)) rfl (Nat.le_of_ble_eq_true rfl) ⟨Nat.le_of_ble_eq_true rfl, Nat.le_of_ble_eq_true rfl, Nat.le_of_ble_eq_true rfl, Nat.le_of_ble_eq_true rfl⟩ (fun r_17 N_18 V_19 q_20 => ?_)
        obtain ⟨h_16, rfl, rfl⟩ := q_20
        refine aw_callSi (J' := jX5_joinsFactors) (As := [.int r_17]) (st := []) dX5_readProduct_34 tb_494 ok_X5_joinsFactors rfl (g_X5_joinsFactors l D b N V10 hN i10_0.1 r_17) rfl (Nat.le_of_ble_eq_true rfl) ⟨Nat.le_of_ble_eq_true rfl, Nat.le_of_ble_eq_true rfl, Nat.le_of_ble_eq_true rfl, Nat.le_of_ble_eq_true rfl⟩ (fun r_24 N_25 V_26 q_27 => ?_)
        obtain ⟨⟨z_23, h_22⟩, rfl, rfl⟩ := q_27
        refine aw_if_eq (tgt := 84) dX5_readProduct_37 (by decide) (fun c_28 => ?_) (fun c_28 => ?_)
        · skip
          refine aw_iconst (v := 1) dX5_readProduct_84 (by decide) ?_
          refine aw_zreti dX5_readProduct_85 rfl (by first | exact Or.inl rfl | exact Or.inr rfl | assumption) (Nat.le_of_ble_eq_true rfl) (Nat.le_of_ble_eq_true rfl) ?_
          exact ⟨⟨(by first | exact Or.inl rfl | exact Or.inr rfl | assumption), ⟨a10, by omega, ⟨⟨_, _, _, te_10⟩, by omega⟩⟩⟩, rfl, i10_0⟩
        · skip
          have h0c_28 := h_22.resolve_left c_28
          have hlc_28 := h_16.resolve_left (fun z => absurd h0c_28 (by rw [z]; decide))
          refine aw_aload_n dX5_readProduct_40 rfl ?_
          refine aw_get dX5_readProduct_41 fl_X5_15 ((i10_0.2.1 _ hp.1 hp.2).trans hR) (by omega) rfl ?_
          refine aw_callVi (J' := jX10_now) (As := []) (st := []) dX5_readProduct_44 tb_390 ok_X10_now ⟨_, te_10⟩ (by omega) rfl rfl (g_X10_now l D b N V10 hN i10_0.1 a10 (⟨⟨_, _, _, te_10⟩, by omega⟩)) rfl (Nat.le_of_ble_eq_true rfl) ⟨Nat.le_of_ble_eq_true rfl, Nat.le_of_ble_eq_true rfl, Nat.le_of_ble_eq_true rfl, Nat.le_of_ble_eq_true rfl⟩ (fun r_31 N_32 V_33 q_34 => ?_)
          obtain ⟨h_30, rfl, rfl⟩ := q_34
          refine aw_istore_n (ls' := [some (.ref (b + p)), some (.int 6), some (.int r_31)]) dX5_readProduct_47 (Nat.le_of_ble_eq_true rfl) rfl ?_
          refine aw_aload_n dX5_readProduct_48 rfl ?_
          refine aw_get dX5_readProduct_49 fl_X5_15 ((i10_0.2.1 _ hp.1 hp.2).trans hR) (by omega) rfl ?_
          refine aw_dup dX5_readProduct_52 rfl ?_
          refine aw_get dX5_readProduct_53 fl_X5_25 te_10 (by omega) rfl ?_
          refine aw_iconst (v := 1) dX5_readProduct_56 (by decide) ?_
          refine aw_iadd dX5_readProduct_57 ?_
          refine aw_eqi (y := nI (a10 + 1)) (nI_add _ _) ?_
          refine aw_put dX5_readProduct_58 fp_X5_25 te_10 (by omega) rfl rfl (Nat.le_of_ble_eq_true rfl) rfl ?_
          refine aw_up i10_0 ct_1 ⟨_, _, _, (a10 + 1), rfl, (by first | omega | (split <;> omega))⟩ (WO (s := 3) (x := .int (nI (a10 + 1))) te_10 rfl LM0 (by decide) (by decide) (by decide) (Or.inl (by decide))) (fun V_35 j_35 k_35 e_35 => ?_)
          refine aw_aload_n dX5_readProduct_61 rfl ?_
          refine aw_iload_n dX5_readProduct_62 rfl ?_
          refine aw_callVi (J' := jX5_readFactor) (As := [.int 6]) (st := []) dX5_readProduct_63 tb_403 ok_X5_readFactor ⟨_, ((j_35.2.1 _ hp.1 hp.2).trans hR)⟩ (by omega) rfl rfl (g_X5_readFactor_6 l D b N V_35 hN j_35.1 p x ⟨by omega, by omega⟩ hx ((j_35.2.1 _ hp.1 hp.2).trans hR) (a10 + 1) (⟨⟨_, _, _, e_35⟩, by omega⟩)) rfl (Nat.le_of_ble_eq_true rfl) ⟨Nat.le_of_ble_eq_true rfl, Nat.le_of_ble_eq_true rfl, Nat.le_of_ble_eq_true rfl, Nat.le_of_ble_eq_true rfl⟩ (fun r_44 N_45 V_40 q_46 => ?_)
          obtain ⟨⟨z_38, h_37⟩, rfl, q_36⟩ := q_46
          have j_39 := JW.trans j_35 (JW.weak q_36 (Sub.cons LM0 (by decide) (by decide) (by decide) (Or.inr ⟨by decide, by decide⟩) (Sub.cons (LMs LM0) (by omega) (by omega) (by decide) (Or.inl rfl) (Sub.cons (LMs (LMs LM0)) (by omega) (by omega) (by decide) (Or.inl rfl) (Sub.cons (LMs (LMs (LMs LM0))) (by omega) (by omega) (by decide) (Or.inr ⟨by decide, by decide⟩) (Sub.cons (LMs (LMs (LMs (LMs LM0)))) (by decide) (by decide) (by decide) (Or.inr ⟨by decide, by decide⟩) Sub.nil))))))
          obtain ⟨a_41, ha_42, ⟨ts_t_43, tn_t_43, tf_t_43, te_t_43⟩, hb_t_43⟩ := h_37
          refine aw_if_ne (tgt := 71) dX5_readProduct_66 (by decide) (fun c_47 => ?_) (fun c_47 => ?_)
          · skip
            refine aw_aload_n dX5_readProduct_71 rfl ?_
            refine aw_get dX5_readProduct_72 fl_X5_9 ((j_39.2.1 _ hp.1 hp.2).trans hR) (by omega) rfl ?_
            refine aw_iload_n dX5_readProduct_75 rfl ?_
            refine aw_iconst (v := 0) dX5_readProduct_76 (by decide) ?_
            obtain ⟨s8_51, r8_51, h8_51, e_51, hs_51, hr_51⟩ := JW.get j_39 (ctl_0 hx)
            refine aw_callVi (J' := jX4_add) (As := [.int r_31, .int 0]) (st := []) dX5_readProduct_77 tb_415 ok_X4_add ⟨_, e_51⟩ (by omega) rfl rfl (g_X4_add l D b N V_40 hN j_39.1 x hx r_31 0 (by decide)) rfl (Nat.le_of_ble_eq_true rfl) ⟨Nat.le_of_ble_eq_true rfl, Nat.le_of_ble_eq_true rfl, Nat.le_of_ble_eq_true rfl, Nat.le_of_ble_eq_true rfl⟩ (fun r_52 N_53 V_50 q_54 => ?_)
            obtain ⟨rfl, q_48⟩ := q_54
            have j_49 := JW.trans j_39 (JW.weak q_48 (Sub.cons (LMs LM0) (by omega) (by omega) (by decide) (Or.inl rfl) (Sub.cons (LMs (LMs LM0)) (by omega) (by omega) (by decide) (Or.inl rfl) (Sub.cons (LMs (LMs (LMs LM0))) (by omega) (by omega) (by decide) (Or.inr ⟨by decide, by decide⟩) Sub.nil))))
            refine aw_pop dX5_readProduct_80 rfl ?_
            refine aw_goto (tgt := 10) dX5_readProduct_81 (by decide) ?_
            refine aw_le ?_ (mih_10_13 _ (by omega) a_41 V_50 rfl (j_49) (⟨⟨_, _, _, ((JW.same q_48 (by decide) (fun k => (nfc (by omega) (nfc (by omega) (nfc (by omega) nf0))))).trans te_t_43)⟩, by omega⟩) (by omega))
            exact ⟨rfl, ⟨rfl, trivial⟩⟩
          · skip
            refine aw_iconst (v := 0) dX5_readProduct_69 (by decide) ?_
            refine aw_zreti dX5_readProduct_70 rfl (by first | exact Or.inl rfl | exact Or.inr rfl | assumption) (Nat.le_of_ble_eq_true rfl) (Nat.le_of_ble_eq_true rfl) ?_
            exact ⟨⟨(by first | exact Or.inl rfl | exact Or.inr rfl | assumption), ⟨a_41, by omega, ⟨⟨_, _, _, te_t_43⟩, by omega⟩⟩⟩, rfl, j_39⟩
    refine aw_le ?_ (ml_10_13 _ a_6 V_5 rfl (j_4) (⟨⟨_, _, _, te_t_8⟩, by omega⟩) (by omega))
    exact ⟨rfl, ⟨rfl, trivial⟩⟩
  · skip
    refine aw_iconst (v := 0) dX5_readProduct_8 (by decide) ?_
    refine aw_zreti dX5_readProduct_9 rfl (by first | exact Or.inl rfl | exact Or.inr rfl | assumption) (Nat.le_of_ble_eq_true rfl) (Nat.le_of_ble_eq_true rfl) ?_
    exact ⟨⟨(by first | exact Or.inl rfl | exact Or.inr rfl | assumption), ⟨a_6, by omega, ⟨⟨_, _, _, te_t_8⟩, by omega⟩⟩⟩, rfl, j_4⟩

set_option maxHeartbeats 4000000 in
set_option maxRecDepth 100000 in
theorem g_X5_readSum_6 (l : Launch) (D : va_G) (b : Nat) (N : Nat) (V : Wd) (hN : 100 ≤ N) (hW : CW D b V) (p x : Nat) (hp : 100 ≤ p ∧ p < N) (hx : x = 57 ∨ x = 65) (hR : V p = cO 5 [.ref (b + 1), .ref (b + x)]) (a : Nat) (hT : TA b a V) : MI l D b 7 jX5_readSum [.ref (b + p), .int 6] N V 0 0 (fun r N9 V9 => ((r = 0 ∨ r = 1) ∧ (∃ a9, a ≤ a9 ∧ TA b a9 V9)) ∧ N = N9 ∧ JW D b N [(1, 1, 3, 3), (x + 1, x + 1, 0, 1000000), (x + 2, x + 2, 0, 1000000), (x, x, 2, 2), (1, 1, 4, 4)] V V9) := by
  have hJ0 : JW D b N [(1, 1, 3, 3), (x + 1, x + 1, 0, 1000000), (x + 2, x + 2, 0, 1000000), (x, x, 2, 2), (1, 1, 4, 4)] V V := JW.rf hW
  obtain ⟨⟨ts_0, tn_0, tf_0, te_0⟩, ha_0⟩ := id hT
  refine mw_of (by decide) (by simp [Value.category]) (Nat.le_of_ble_eq_true rfl) ?_
  show AW l D b jX5_readSum (fx_rm 7 0 0) none (fx_MQ D b 0 0 (fx_qi (fun r N9 V9 => ((r = 0 ∨ r = 1) ∧ (∃ a9, a ≤ a9 ∧ TA b a9 V9)) ∧ N = N9 ∧ JW D b N [(1, 1, 3, 3), (x + 1, x + 1, 0, 1000000), (x + 2, x + 2, 0, 1000000), (x, x, 2, 2), (1, 1, 4, 4)] V V9))) 0 [some (.ref (b + p)), some (.int 6), none] [] N V 0 0
  refine aw_aload_n dX5_readSum_0 rfl ?_
  refine aw_iload_n dX5_readSum_1 rfl ?_
  refine aw_callVi (J' := jX5_readProduct) (As := [.int 6]) (st := []) dX5_readSum_2 tb_399 ok_X5_readProduct ⟨_, ((hJ0.2.1 _ hp.1 hp.2).trans hR)⟩ (by omega) rfl rfl (g_X5_readProduct_6 l D b N V hN hJ0.1 p x ⟨by omega, by omega⟩ hx ((hJ0.2.1 _ hp.1 hp.2).trans hR) a (⟨⟨_, _, _, te_0⟩, by omega⟩)) rfl (Nat.le_of_ble_eq_true rfl) ⟨Nat.le_of_ble_eq_true rfl, Nat.le_of_ble_eq_true rfl, Nat.le_of_ble_eq_true rfl, Nat.le_of_ble_eq_true rfl⟩ (fun r_9 N_10 V_5 q_11 => ?_)
  obtain ⟨⟨z_3, h_2⟩, rfl, q_1⟩ := q_11
  have j_4 := JW.trans hJ0 (JW.weak q_1 (Sub.cons LM0 (by decide) (by decide) (by decide) (Or.inr ⟨by decide, by decide⟩) (Sub.cons (LMs LM0) (by omega) (by omega) (by decide) (Or.inl rfl) (Sub.cons (LMs (LMs LM0)) (by omega) (by omega) (by decide) (Or.inl rfl) (Sub.cons (LMs (LMs (LMs LM0))) (by omega) (by omega) (by decide) (Or.inr ⟨by decide, by decide⟩) (Sub.cons (LMs (LMs (LMs (LMs LM0)))) (by decide) (by decide) (by decide) (Or.inr ⟨by decide, by decide⟩) Sub.nil))))))
  obtain ⟨a_6, ha_7, ⟨ts_t_8, tn_t_8, tf_t_8, te_t_8⟩, hb_t_8⟩ := h_2
  refine aw_if_ne (tgt := 10) dX5_readSum_5 (by decide) (fun c_12 => ?_) (fun c_12 => ?_)
  · skip
    have ml_10_13 : ∀ (m : Nat) (a10 : Nat) (V10 : Wd), m = 260 - a10 → (JW D b N [(1, 1, 3, 3), (x + 1, x + 1, 0, 1000000), (x + 2, x + 2, 0, 1000000), (x, x, 2, 2), (1, 1, 4, 4)] V V10) → (TA b a10 V10) → (a ≤ a10) → AW l D b jX5_readSum (fx_rm 7 0 0) none (fx_MQ D b 0 0 (fx_qi (fun r N9 V9 => ((r = 0 ∨ r = 1) ∧ (∃ a9, a ≤ a9 ∧ TA b a9 V9)) ∧ N = N9 ∧ JW D b N [(1, 1, 3, 3), (x + 1, x + 1, 0, 1000000), (x + 2, x + 2, 0, 1000000), (x, x, 2, 2), (1, 1, 4, 4)] V V9))) 10 [some (.ref (b + p)), some (.int 6), none] [] N V10 0 0 := by
      intro m; refine Nat.strongRecOn m ?_
      intro m mih_10_13 a10 V10 hm10 i10_0 i10_1 i10_2
      obtain ⟨⟨ts_10, tn_10, tf_10, te_10⟩, hb_10⟩ := i10_1
      refine aw_aload_n dX5_readSum_10 rfl ?_
      refine aw_get dX5_readSum_11 fl_X5_15 ((i10_0.2.1 _ hp.1 hp.2).trans hR) (by omega) rfl ?_
      refine aw_get dX5_readSum_14 fl_X5_25 te_10 (by omega) rfl ?_
      refine aw_aload_n dX5_readSum_17 rfl ?_
      refine aw_get dX5_readSum_18 fl_X5_15 ((i10_0.2.1 _ hp.1 hp.2).trans hR) (by omega) rfl ?_
      refine aw_get dX5_readSum_21 fl_X5_59 te_10 (by omega) rfl ?_
      refine aw_icmp_ge (tgt := 95) dX5_readSum_24 (by decide) (fun c_14 => ?_) (fun c_14 => ?_)
      · skip
        refine aw_iconst (v := 1) dX5_readSum_95 (by decide) ?_
        refine aw_zreti dX5_readSum_96 rfl (by first | exact Or.inl rfl | exact Or.inr rfl | assumption) (Nat.le_of_ble_eq_true rfl) (Nat.le_of_ble_eq_true rfl) ?_
        exact ⟨⟨(by first | exact Or.inl rfl | exact Or.inr rfl | assumption), ⟨a10, by omega, ⟨⟨_, _, _, te_10⟩, by omega⟩⟩⟩, rfl, i10_0⟩
      · skip
        refine aw_aload_n dX5_readSum_27 rfl ?_
        refine aw_get dX5_readSum_28 fl_X5_15 ((i10_0.2.1 _ hp.1 hp.2).trans hR) (by omega) rfl ?_
        refine aw_callVi (J' := jX10_now) (As := []) (st := []) dX5_readSum_31 tb_390 ok_X10_now ⟨_, te_10⟩ (by omega) rfl rfl (g_X10_now l D b N V10 hN i10_0.1 a10 (⟨⟨_, _, _, te_10⟩, by omega⟩)) rfl (Nat.le_of_ble_eq_true rfl) ⟨Nat.le_of_ble_eq_true rfl, Nat.le_of_ble_eq_true rfl, Nat.le_of_ble_eq_true rfl, Nat.le_of_ble_eq_true rfl⟩ (fun r_17 N_18 V_19 q_20 => ?_)
        obtain ⟨h_16, rfl, rfl⟩ := q_20
        refine aw_bipush (v := 43) dX5_readSum_34 (by decide) ?_
        refine aw_icmp_eq (tgt := 51) dX5_readSum_36 (by decide) (fun c_21 => ?_) (fun c_21 => ?_)
        · skip
          have hlc_21 := h_16.resolve_left (by rw [c_21]; decide)
          refine aw_aload_n dX5_readSum_51 rfl ?_
          refine aw_get dX5_readSum_52 fl_X5_15 ((i10_0.2.1 _ hp.1 hp.2).trans hR) (by omega) rfl ?_
          refine aw_callVi (J' := jX10_now) (As := []) (st := []) dX5_readSum_55 tb_390 ok_X10_now ⟨_, te_10⟩ (by omega) rfl rfl (g_X10_now l D b N V10 hN i10_0.1 a10 (⟨⟨_, _, _, te_10⟩, by omega⟩)) rfl (Nat.le_of_ble_eq_true rfl) ⟨Nat.le_of_ble_eq_true rfl, Nat.le_of_ble_eq_true rfl, Nat.le_of_ble_eq_true rfl, Nat.le_of_ble_eq_true rfl⟩ (fun r_24 N_25 V_26 q_27 => ?_)
          obtain ⟨h_23, rfl, rfl⟩ := q_27
          refine aw_istore_n (ls' := [some (.ref (b + p)), some (.int 6), some (.int r_24)]) dX5_readSum_58 (Nat.le_of_ble_eq_true rfl) rfl ?_
          refine aw_aload_n dX5_readSum_59 rfl ?_
          refine aw_get dX5_readSum_60 fl_X5_15 ((i10_0.2.1 _ hp.1 hp.2).trans hR) (by omega) rfl ?_
          refine aw_dup dX5_readSum_63 rfl ?_
          refine aw_get dX5_readSum_64 fl_X5_25 te_10 (by omega) rfl ?_
          refine aw_iconst (v := 1) dX5_readSum_67 (by decide) ?_
          refine aw_iadd dX5_readSum_68 ?_
          refine aw_eqi (y := nI (a10 + 1)) (nI_add _ _) ?_
          refine aw_put dX5_readSum_69 fp_X5_25 te_10 (by omega) rfl rfl (Nat.le_of_ble_eq_true rfl) rfl ?_
          refine aw_up i10_0 ct_1 ⟨_, _, _, (a10 + 1), rfl, (by first | omega | (split <;> omega))⟩ (WO (s := 3) (x := .int (nI (a10 + 1))) te_10 rfl LM0 (by decide) (by decide) (by decide) (Or.inl (by decide))) (fun V_28 j_28 k_28 e_28 => ?_)
          refine aw_aload_n dX5_readSum_72 rfl ?_
          refine aw_iload_n dX5_readSum_73 rfl ?_
          refine aw_callVi (J' := jX5_readProduct) (As := [.int 6]) (st := []) dX5_readSum_74 tb_399 ok_X5_readProduct ⟨_, ((j_28.2.1 _ hp.1 hp.2).trans hR)⟩ (by omega) rfl rfl (g_X5_readProduct_6 l D b N V_28 hN j_28.1 p x ⟨by omega, by omega⟩ hx ((j_28.2.1 _ hp.1 hp.2).trans hR) (a10 + 1) (⟨⟨_, _, _, e_28⟩, by omega⟩)) rfl (Nat.le_of_ble_eq_true rfl) ⟨Nat.le_of_ble_eq_true rfl, Nat.le_of_ble_eq_true rfl, Nat.le_of_ble_eq_true rfl, Nat.le_of_ble_eq_true rfl⟩ (fun r_37 N_38 V_33 q_39 => ?_)
          obtain ⟨⟨z_31, h_30⟩, rfl, q_29⟩ := q_39
          have j_32 := JW.trans j_28 (JW.weak q_29 (Sub.cons LM0 (by decide) (by decide) (by decide) (Or.inr ⟨by decide, by decide⟩) (Sub.cons (LMs LM0) (by omega) (by omega) (by decide) (Or.inl rfl) (Sub.cons (LMs (LMs LM0)) (by omega) (by omega) (by decide) (Or.inl rfl) (Sub.cons (LMs (LMs (LMs LM0))) (by omega) (by omega) (by decide) (Or.inr ⟨by decide, by decide⟩) (Sub.cons (LMs (LMs (LMs (LMs LM0)))) (by decide) (by decide) (by decide) (Or.inr ⟨by decide, by decide⟩) Sub.nil))))))
          obtain ⟨a_34, ha_35, ⟨ts_t_36, tn_t_36, tf_t_36, te_t_36⟩, hb_t_36⟩ := h_30
          refine aw_if_ne (tgt := 82) dX5_readSum_77 (by decide) (fun c_40 => ?_) (fun c_40 => ?_)
          · skip
            refine aw_aload_n dX5_readSum_82 rfl ?_
            refine aw_get dX5_readSum_83 fl_X5_9 ((j_32.2.1 _ hp.1 hp.2).trans hR) (by omega) rfl ?_
            refine aw_iload_n dX5_readSum_86 rfl ?_
            refine aw_iconst (v := 0) dX5_readSum_87 (by decide) ?_
            obtain ⟨s8_44, r8_44, h8_44, e_44, hs_44, hr_44⟩ := JW.get j_32 (ctl_0 hx)
            refine aw_callVi (J' := jX4_add) (As := [.int r_24, .int 0]) (st := []) dX5_readSum_88 tb_415 ok_X4_add ⟨_, e_44⟩ (by omega) rfl rfl (g_X4_add l D b N V_33 hN j_32.1 x hx r_24 0 (by decide)) rfl (Nat.le_of_ble_eq_true rfl) ⟨Nat.le_of_ble_eq_true rfl, Nat.le_of_ble_eq_true rfl, Nat.le_of_ble_eq_true rfl, Nat.le_of_ble_eq_true rfl⟩ (fun r_45 N_46 V_43 q_47 => ?_)
            obtain ⟨rfl, q_41⟩ := q_47
            have j_42 := JW.trans j_32 (JW.weak q_41 (Sub.cons (LMs LM0) (by omega) (by omega) (by decide) (Or.inl rfl) (Sub.cons (LMs (LMs LM0)) (by omega) (by omega) (by decide) (Or.inl rfl) (Sub.cons (LMs (LMs (LMs LM0))) (by omega) (by omega) (by decide) (Or.inr ⟨by decide, by decide⟩) Sub.nil))))
            refine aw_pop dX5_readSum_91 rfl ?_
            refine aw_goto (tgt := 10) dX5_readSum_92 (by decide) ?_
            refine aw_le ?_ (mih_10_13 _ (by omega) a_34 V_43 rfl (j_42) (⟨⟨_, _, _, ((JW.same q_41 (by decide) (fun k => (nfc (by omega) (nfc (by omega) (nfc (by omega) nf0))))).trans te_t_36)⟩, by omega⟩) (by omega))
            exact ⟨rfl, ⟨rfl, trivial⟩⟩
          · skip
            refine aw_iconst (v := 0) dX5_readSum_80 (by decide) ?_
            refine aw_zreti dX5_readSum_81 rfl (by first | exact Or.inl rfl | exact Or.inr rfl | assumption) (Nat.le_of_ble_eq_true rfl) (Nat.le_of_ble_eq_true rfl) ?_
            exact ⟨⟨(by first | exact Or.inl rfl | exact Or.inr rfl | assumption), ⟨a_34, by omega, ⟨⟨_, _, _, te_t_36⟩, by omega⟩⟩⟩, rfl, j_32⟩
        · skip
          refine aw_aload_n dX5_readSum_39 rfl ?_
          refine aw_get dX5_readSum_40 fl_X5_15 ((i10_0.2.1 _ hp.1 hp.2).trans hR) (by omega) rfl ?_
          refine aw_callVi (J' := jX10_now) (As := []) (st := []) dX5_readSum_43 tb_390 ok_X10_now ⟨_, te_10⟩ (by omega) rfl rfl (g_X10_now l D b N V10 hN i10_0.1 a10 (⟨⟨_, _, _, te_10⟩, by omega⟩)) rfl (Nat.le_of_ble_eq_true rfl) ⟨Nat.le_of_ble_eq_true rfl, Nat.le_of_ble_eq_true rfl, Nat.le_of_ble_eq_true rfl, Nat.le_of_ble_eq_true rfl⟩ (fun r_50 N_51 V_52 q_53 => ?_)
          obtain ⟨h_49, rfl, rfl⟩ := q_53
          refine aw_bipush (v := 45) dX5_readSum_46 (by decide) ?_
          refine aw_icmp_ne (tgt := 95) dX5_readSum_48 (by decide) (fun c_54 => ?_) (fun c_54 => ?_)
          · skip
            refine aw_iconst (v := 1) dX5_readSum_95 (by decide) ?_
            refine aw_zreti dX5_readSum_96 rfl (by first | exact Or.inl rfl | exact Or.inr rfl | assumption) (Nat.le_of_ble_eq_true rfl) (Nat.le_of_ble_eq_true rfl) ?_
            exact ⟨⟨(by first | exact Or.inl rfl | exact Or.inr rfl | assumption), ⟨a10, by omega, ⟨⟨_, _, _, te_10⟩, by omega⟩⟩⟩, rfl, i10_0⟩
          · skip
            have hlc_54 := h_49.resolve_left (by rw [c_54]; decide)
            refine aw_aload_n dX5_readSum_51 rfl ?_
            refine aw_get dX5_readSum_52 fl_X5_15 ((i10_0.2.1 _ hp.1 hp.2).trans hR) (by omega) rfl ?_
            refine aw_callVi (J' := jX10_now) (As := []) (st := []) dX5_readSum_55 tb_390 ok_X10_now ⟨_, te_10⟩ (by omega) rfl rfl (g_X10_now l D b N V10 hN i10_0.1 a10 (⟨⟨_, _, _, te_10⟩, by omega⟩)) rfl (Nat.le_of_ble_eq_true rfl) ⟨Nat.le_of_ble_eq_true rfl, Nat.le_of_ble_eq_true rfl, Nat.le_of_ble_eq_true rfl, Nat.le_of_ble_eq_true rfl⟩ (fun r_57 N_58 V_59 q_60 => ?_)
            obtain ⟨h_56, rfl, rfl⟩ := q_60
            refine aw_istore_n (ls' := [some (.ref (b + p)), some (.int 6), some (.int r_57)]) dX5_readSum_58 (Nat.le_of_ble_eq_true rfl) rfl ?_
            refine aw_aload_n dX5_readSum_59 rfl ?_
            refine aw_get dX5_readSum_60 fl_X5_15 ((i10_0.2.1 _ hp.1 hp.2).trans hR) (by omega) rfl ?_
            refine aw_dup dX5_readSum_63 rfl ?_
            refine aw_get dX5_readSum_64 fl_X5_25 te_10 (by omega) rfl ?_
            refine aw_iconst (v := 1) dX5_readSum_67 (by decide) ?_
            refine aw_iadd dX5_readSum_68 ?_
            refine aw_eqi (y := nI (a10 + 1)) (nI_add _ _) ?_
            refine aw_put dX5_readSum_69 fp_X5_25 te_10 (by omega) rfl rfl (Nat.le_of_ble_eq_true rfl) rfl ?_
            refine aw_up i10_0 ct_1 ⟨_, _, _, (a10 + 1), rfl, (by first | omega | (split <;> omega))⟩ (WO (s := 3) (x := .int (nI (a10 + 1))) te_10 rfl LM0 (by decide) (by decide) (by decide) (Or.inl (by decide))) (fun V_61 j_61 k_61 e_61 => ?_)
            refine aw_aload_n dX5_readSum_72 rfl ?_
            refine aw_iload_n dX5_readSum_73 rfl ?_
            refine aw_callVi (J' := jX5_readProduct) (As := [.int 6]) (st := []) dX5_readSum_74 tb_399 ok_X5_readProduct ⟨_, ((j_61.2.1 _ hp.1 hp.2).trans hR)⟩ (by omega) rfl rfl (g_X5_readProduct_6 l D b N V_61 hN j_61.1 p x ⟨by omega, by omega⟩ hx ((j_61.2.1 _ hp.1 hp.2).trans hR) (a10 + 1) (⟨⟨_, _, _, e_61⟩, by omega⟩)) rfl (Nat.le_of_ble_eq_true rfl) ⟨Nat.le_of_ble_eq_true rfl, Nat.le_of_ble_eq_true rfl, Nat.le_of_ble_eq_true rfl, Nat.le_of_ble_eq_true rfl⟩ (fun r_70 N_71 V_66 q_72 => ?_)
            obtain ⟨⟨z_64, h_63⟩, rfl, q_62⟩ := q_72
            have j_65 := JW.trans j_61 (JW.weak q_62 (Sub.cons LM0 (by decide) (by decide) (by decide) (Or.inr ⟨by decide, by decide⟩) (Sub.cons (LMs LM0) (by omega) (by omega) (by decide) (Or.inl rfl) (Sub.cons (LMs (LMs LM0)) (by omega) (by omega) (by decide) (Or.inl rfl) (Sub.cons (LMs (LMs (LMs LM0))) (by omega) (by omega) (by decide) (Or.inr ⟨by decide, by decide⟩) (Sub.cons (LMs (LMs (LMs (LMs LM0)))) (by decide) (by decide) (by decide) (Or.inr ⟨by decide, by decide⟩) Sub.nil))))))
            obtain ⟨a_67, ha_68, ⟨ts_t_69, tn_t_69, tf_t_69, te_t_69⟩, hb_t_69⟩ := h_63
            refine aw_if_ne (tgt := 82) dX5_readSum_77 (by decide) (fun c_73 => ?_) (fun c_73 => ?_)
            · skip
              refine aw_aload_n dX5_readSum_82 rfl ?_
              refine aw_get dX5_readSum_83 fl_X5_9 ((j_65.2.1 _ hp.1 hp.2).trans hR) (by omega) rfl ?_
              refine aw_iload_n dX5_readSum_86 rfl ?_
              refine aw_iconst (v := 0) dX5_readSum_87 (by decide) ?_
              obtain ⟨s8_77, r8_77, h8_77, e_77, hs_77, hr_77⟩ := JW.get j_65 (ctl_0 hx)
              refine aw_callVi (J' := jX4_add) (As := [.int r_57, .int 0]) (st := []) dX5_readSum_88 tb_415 ok_X4_add ⟨_, e_77⟩ (by omega) rfl rfl (g_X4_add l D b N V_66 hN j_65.1 x hx r_57 0 (by decide)) rfl (Nat.le_of_ble_eq_true rfl) ⟨Nat.le_of_ble_eq_true rfl, Nat.le_of_ble_eq_true rfl, Nat.le_of_ble_eq_true rfl, Nat.le_of_ble_eq_true rfl⟩ (fun r_78 N_79 V_76 q_80 => ?_)
              obtain ⟨rfl, q_74⟩ := q_80
              have j_75 := JW.trans j_65 (JW.weak q_74 (Sub.cons (LMs LM0) (by omega) (by omega) (by decide) (Or.inl rfl) (Sub.cons (LMs (LMs LM0)) (by omega) (by omega) (by decide) (Or.inl rfl) (Sub.cons (LMs (LMs (LMs LM0))) (by omega) (by omega) (by decide) (Or.inr ⟨by decide, by decide⟩) Sub.nil))))
              refine aw_pop dX5_readSum_91 rfl ?_
              refine aw_goto (tgt := 10) dX5_readSum_92 (by decide) ?_
              refine aw_le ?_ (mih_10_13 _ (by omega) a_67 V_76 rfl (j_75) (⟨⟨_, _, _, ((JW.same q_74 (by decide) (fun k => (nfc (by omega) (nfc (by omega) (nfc (by omega) nf0))))).trans te_t_69)⟩, by omega⟩) (by omega))
              exact ⟨rfl, ⟨rfl, trivial⟩⟩
            · skip
              refine aw_iconst (v := 0) dX5_readSum_80 (by decide) ?_
              refine aw_zreti dX5_readSum_81 rfl (by first | exact Or.inl rfl | exact Or.inr rfl | assumption) (Nat.le_of_ble_eq_true rfl) (Nat.le_of_ble_eq_true rfl) ?_
              exact ⟨⟨(by first | exact Or.inl rfl | exact Or.inr rfl | assumption), ⟨a_67, by omega, ⟨⟨_, _, _, te_t_69⟩, by omega⟩⟩⟩, rfl, j_65⟩
    refine aw_le ?_ (ml_10_13 _ a_6 V_5 rfl (j_4) (⟨⟨_, _, _, te_t_8⟩, by omega⟩) (by omega))
    exact ⟨rfl, ⟨rfl, trivial⟩⟩
  · skip
    refine aw_iconst (v := 0) dX5_readSum_8 (by decide) ?_
    refine aw_zreti dX5_readSum_9 rfl (by first | exact Or.inl rfl | exact Or.inr rfl | assumption) (Nat.le_of_ble_eq_true rfl) (Nat.le_of_ble_eq_true rfl) ?_
    exact ⟨⟨(by first | exact Or.inl rfl | exact Or.inr rfl | assumption), ⟨a_6, by omega, ⟨⟨_, _, _, te_t_8⟩, by omega⟩⟩⟩, rfl, j_4⟩

set_option maxHeartbeats 4000000 in
set_option maxRecDepth 100000 in
theorem g_X5_readComparison_6 (l : Launch) (D : va_G) (b : Nat) (N : Nat) (V : Wd) (hN : 100 ≤ N) (hW : CW D b V) (p x : Nat) (hp : 100 ≤ p ∧ p < N) (hx : x = 57 ∨ x = 65) (hR : V p = cO 5 [.ref (b + 1), .ref (b + x)]) (a : Nat) (hT : TA b a V) : MI l D b 8 jX5_readComparison [.ref (b + p), .int 6] N V 0 0 (fun r N9 V9 => ((r = 0 ∨ r = 1) ∧ (∃ a9, a ≤ a9 ∧ TA b a9 V9)) ∧ N = N9 ∧ JW D b N [(1, 1, 3, 3), (x + 1, x + 1, 0, 1000000), (x + 2, x + 2, 0, 1000000), (x, x, 2, 2), (1, 1, 4, 4)] V V9) := by
  have hJ0 : JW D b N [(1, 1, 3, 3), (x + 1, x + 1, 0, 1000000), (x + 2, x + 2, 0, 1000000), (x, x, 2, 2), (1, 1, 4, 4)] V V := JW.rf hW
  obtain ⟨⟨ts_0, tn_0, tf_0, te_0⟩, ha_0⟩ := id hT
  refine mw_of (by decide) (by simp [Value.category]) (Nat.le_of_ble_eq_true rfl) ?_
  show AW l D b jX5_readComparison (fx_rm 8 0 0) none (fx_MQ D b 0 0 (fx_qi (fun r N9 V9 => ((r = 0 ∨ r = 1) ∧ (∃ a9, a ≤ a9 ∧ TA b a9 V9)) ∧ N = N9 ∧ JW D b N [(1, 1, 3, 3), (x + 1, x + 1, 0, 1000000), (x + 2, x + 2, 0, 1000000), (x, x, 2, 2), (1, 1, 4, 4)] V V9))) 0 [some (.ref (b + p)), some (.int 6), none] [] N V 0 0
  refine aw_aload_n dX5_readComparison_0 rfl ?_
  refine aw_iload_n dX5_readComparison_1 rfl ?_
  refine aw_callVi (J' := jX5_readSum) (As := [.int 6]) (st := []) dX5_readComparison_2 tb_395 ok_X5_readSum ⟨_, ((hJ0.2.1 _ hp.1 hp.2).trans hR)⟩ (by omega) rfl rfl (g_X5_readSum_6 l D b N V hN hJ0.1 p x ⟨by omega, by omega⟩ hx ((hJ0.2.1 _ hp.1 hp.2).trans hR) a (⟨⟨_, _, _, te_0⟩, by omega⟩)) rfl (Nat.le_of_ble_eq_true rfl) ⟨Nat.le_of_ble_eq_true rfl, Nat.le_of_ble_eq_true rfl, Nat.le_of_ble_eq_true rfl, Nat.le_of_ble_eq_true rfl⟩ (fun r_9 N_10 V_5 q_11 => ?_)
  obtain ⟨⟨z_3, h_2⟩, rfl, q_1⟩ := q_11
  have j_4 := JW.trans hJ0 (JW.weak q_1 (Sub.cons LM0 (by decide) (by decide) (by decide) (Or.inr ⟨by decide, by decide⟩) (Sub.cons (LMs LM0) (by omega) (by omega) (by decide) (Or.inl rfl) (Sub.cons (LMs (LMs LM0)) (by omega) (by omega) (by decide) (Or.inl rfl) (Sub.cons (LMs (LMs (LMs LM0))) (by omega) (by omega) (by decide) (Or.inr ⟨by decide, by decide⟩) (Sub.cons (LMs (LMs (LMs (LMs LM0)))) (by decide) (by decide) (by decide) (Or.inr ⟨by decide, by decide⟩) Sub.nil))))))
  obtain ⟨a_6, ha_7, ⟨ts_t_8, tn_t_8, tf_t_8, te_t_8⟩, hb_t_8⟩ := h_2
  refine aw_if_ne (tgt := 10) dX5_readComparison_5 (by decide) (fun c_12 => ?_) (fun c_12 => ?_)
  · skip
    refine aw_aload_n dX5_readComparison_10 rfl ?_
    refine aw_get dX5_readComparison_11 fl_X5_15 ((j_4.2.1 _ hp.1 hp.2).trans hR) (by omega) rfl ?_
    refine aw_callVi (J' := jX10_now) (As := []) (st := []) dX5_readComparison_14 tb_390 ok_X10_now ⟨_, te_t_8⟩ (by omega) rfl rfl (g_X10_now l D b N V_5 hN j_4.1 a_6 (⟨⟨_, _, _, te_t_8⟩, by omega⟩)) rfl (Nat.le_of_ble_eq_true rfl) ⟨Nat.le_of_ble_eq_true rfl, Nat.le_of_ble_eq_true rfl, Nat.le_of_ble_eq_true rfl, Nat.le_of_ble_eq_true rfl⟩ (fun r_15 N_16 V_17 q_18 => ?_)
    obtain ⟨h_14, rfl, rfl⟩ := q_18
    refine aw_istore_n (ls' := [some (.ref (b + p)), some (.int 6), some (.int r_15)]) dX5_readComparison_17 (Nat.le_of_ble_eq_true rfl) rfl ?_
    refine aw_iload_n dX5_readComparison_18 rfl ?_
    refine aw_bipush (v := 60) dX5_readComparison_19 (by decide) ?_
    refine aw_icmp_eq (tgt := 44) dX5_readComparison_21 (by decide) (fun c_19 => ?_) (fun c_19 => ?_)
    · skip
      have hlc_19 := h_14.resolve_left (by rw [c_19]; decide)
      refine aw_aload_n dX5_readComparison_44 rfl ?_
      refine aw_get dX5_readComparison_45 fl_X5_15 ((j_4.2.1 _ hp.1 hp.2).trans hR) (by omega) rfl ?_
      refine aw_dup dX5_readComparison_48 rfl ?_
      refine aw_get dX5_readComparison_49 fl_X5_25 te_t_8 (by omega) rfl ?_
      refine aw_iconst (v := 1) dX5_readComparison_52 (by decide) ?_
      refine aw_iadd dX5_readComparison_53 ?_
      refine aw_eqi (y := nI (a_6 + 1)) (nI_add _ _) ?_
      refine aw_put dX5_readComparison_54 fp_X5_25 te_t_8 (by omega) rfl rfl (Nat.le_of_ble_eq_true rfl) rfl ?_
      refine aw_up j_4 ct_1 ⟨_, _, _, (a_6 + 1), rfl, (by first | omega | (split <;> omega))⟩ (WO (s := 3) (x := .int (nI (a_6 + 1))) te_t_8 rfl LM0 (by decide) (by decide) (by decide) (Or.inl (by decide))) (fun V_20 j_20 k_20 e_20 => ?_)
      refine aw_aload_n dX5_readComparison_57 rfl ?_
      refine aw_iload_n dX5_readComparison_58 rfl ?_
      refine aw_callVi (J' := jX5_readSum) (As := [.int 6]) (st := []) dX5_readComparison_59 tb_395 ok_X5_readSum ⟨_, ((j_20.2.1 _ hp.1 hp.2).trans hR)⟩ (by omega) rfl rfl (g_X5_readSum_6 l D b N V_20 hN j_20.1 p x ⟨by omega, by omega⟩ hx ((j_20.2.1 _ hp.1 hp.2).trans hR) (a_6 + 1) (⟨⟨_, _, _, e_20⟩, by omega⟩)) rfl (Nat.le_of_ble_eq_true rfl) ⟨Nat.le_of_ble_eq_true rfl, Nat.le_of_ble_eq_true rfl, Nat.le_of_ble_eq_true rfl, Nat.le_of_ble_eq_true rfl⟩ (fun r_29 N_30 V_25 q_31 => ?_)
      obtain ⟨⟨z_23, h_22⟩, rfl, q_21⟩ := q_31
      have j_24 := JW.trans j_20 (JW.weak q_21 (Sub.cons LM0 (by decide) (by decide) (by decide) (Or.inr ⟨by decide, by decide⟩) (Sub.cons (LMs LM0) (by omega) (by omega) (by decide) (Or.inl rfl) (Sub.cons (LMs (LMs LM0)) (by omega) (by omega) (by decide) (Or.inl rfl) (Sub.cons (LMs (LMs (LMs LM0))) (by omega) (by omega) (by decide) (Or.inr ⟨by decide, by decide⟩) (Sub.cons (LMs (LMs (LMs (LMs LM0)))) (by decide) (by decide) (by decide) (Or.inr ⟨by decide, by decide⟩) Sub.nil))))))
      obtain ⟨a_26, ha_27, ⟨ts_t_28, tn_t_28, tf_t_28, te_t_28⟩, hb_t_28⟩ := h_22
      refine aw_if_ne (tgt := 67) dX5_readComparison_62 (by decide) (fun c_32 => ?_) (fun c_32 => ?_)
      · skip
        refine aw_aload_n dX5_readComparison_67 rfl ?_
        refine aw_get dX5_readComparison_68 fl_X5_9 ((j_24.2.1 _ hp.1 hp.2).trans hR) (by omega) rfl ?_
        refine aw_iload_n dX5_readComparison_71 rfl ?_
        refine aw_iconst (v := 0) dX5_readComparison_72 (by decide) ?_
        obtain ⟨s8_36, r8_36, h8_36, e_36, hs_36, hr_36⟩ := JW.get j_24 (ctl_0 hx)
        refine aw_callVi (J' := jX4_add) (As := [.int r_15, .int 0]) (st := []) dX5_readComparison_73 tb_415 ok_X4_add ⟨_, e_36⟩ (by omega) rfl rfl (g_X4_add l D b N V_25 hN j_24.1 x hx r_15 0 (by decide)) rfl (Nat.le_of_ble_eq_true rfl) ⟨Nat.le_of_ble_eq_true rfl, Nat.le_of_ble_eq_true rfl, Nat.le_of_ble_eq_true rfl, Nat.le_of_ble_eq_true rfl⟩ (fun r_37 N_38 V_35 q_39 => ?_)
        obtain ⟨rfl, q_33⟩ := q_39
        have j_34 := JW.trans j_24 (JW.weak q_33 (Sub.cons (LMs LM0) (by omega) (by omega) (by decide) (Or.inl rfl) (Sub.cons (LMs (LMs LM0)) (by omega) (by omega) (by decide) (Or.inl rfl) (Sub.cons (LMs (LMs (LMs LM0))) (by omega) (by omega) (by decide) (Or.inr ⟨by decide, by decide⟩) Sub.nil))))
        refine aw_pop dX5_readComparison_76 rfl ?_
        refine aw_iconst (v := 1) dX5_readComparison_77 (by decide) ?_
        refine aw_zreti dX5_readComparison_78 rfl (by first | exact Or.inl rfl | exact Or.inr rfl | assumption) (Nat.le_of_ble_eq_true rfl) (Nat.le_of_ble_eq_true rfl) ?_
        exact ⟨⟨(by first | exact Or.inl rfl | exact Or.inr rfl | assumption), ⟨a_26, by omega, ⟨⟨_, _, _, ((JW.same q_33 (by decide) (fun k => (nfc (by omega) (nfc (by omega) (nfc (by omega) nf0))))).trans te_t_28)⟩, by omega⟩⟩⟩, rfl, j_34⟩
      · skip
        refine aw_iconst (v := 0) dX5_readComparison_65 (by decide) ?_
        refine aw_zreti dX5_readComparison_66 rfl (by first | exact Or.inl rfl | exact Or.inr rfl | assumption) (Nat.le_of_ble_eq_true rfl) (Nat.le_of_ble_eq_true rfl) ?_
        exact ⟨⟨(by first | exact Or.inl rfl | exact Or.inr rfl | assumption), ⟨a_26, by omega, ⟨⟨_, _, _, te_t_28⟩, by omega⟩⟩⟩, rfl, j_24⟩
    · skip
      refine aw_iload_n dX5_readComparison_24 rfl ?_
      refine aw_bipush (v := 62) dX5_readComparison_25 (by decide) ?_
      refine aw_icmp_eq (tgt := 44) dX5_readComparison_27 (by decide) (fun c_40 => ?_) (fun c_40 => ?_)
      · skip
        have hlc_40 := h_14.resolve_left (by rw [c_40]; decide)
        refine aw_aload_n dX5_readComparison_44 rfl ?_
        refine aw_get dX5_readComparison_45 fl_X5_15 ((j_4.2.1 _ hp.1 hp.2).trans hR) (by omega) rfl ?_
        refine aw_dup dX5_readComparison_48 rfl ?_
        refine aw_get dX5_readComparison_49 fl_X5_25 te_t_8 (by omega) rfl ?_
        refine aw_iconst (v := 1) dX5_readComparison_52 (by decide) ?_
        refine aw_iadd dX5_readComparison_53 ?_
        refine aw_eqi (y := nI (a_6 + 1)) (nI_add _ _) ?_
        refine aw_put dX5_readComparison_54 fp_X5_25 te_t_8 (by omega) rfl rfl (Nat.le_of_ble_eq_true rfl) rfl ?_
        refine aw_up j_4 ct_1 ⟨_, _, _, (a_6 + 1), rfl, (by first | omega | (split <;> omega))⟩ (WO (s := 3) (x := .int (nI (a_6 + 1))) te_t_8 rfl LM0 (by decide) (by decide) (by decide) (Or.inl (by decide))) (fun V_41 j_41 k_41 e_41 => ?_)
        refine aw_aload_n dX5_readComparison_57 rfl ?_
        refine aw_iload_n dX5_readComparison_58 rfl ?_
        refine aw_callVi (J' := jX5_readSum) (As := [.int 6]) (st := []) dX5_readComparison_59 tb_395 ok_X5_readSum ⟨_, ((j_41.2.1 _ hp.1 hp.2).trans hR)⟩ (by omega) rfl rfl (g_X5_readSum_6 l D b N V_41 hN j_41.1 p x ⟨by omega, by omega⟩ hx ((j_41.2.1 _ hp.1 hp.2).trans hR) (a_6 + 1) (⟨⟨_, _, _, e_41⟩, by omega⟩)) rfl (Nat.le_of_ble_eq_true rfl) ⟨Nat.le_of_ble_eq_true rfl, Nat.le_of_ble_eq_true rfl, Nat.le_of_ble_eq_true rfl, Nat.le_of_ble_eq_true rfl⟩ (fun r_50 N_51 V_46 q_52 => ?_)
        obtain ⟨⟨z_44, h_43⟩, rfl, q_42⟩ := q_52
        have j_45 := JW.trans j_41 (JW.weak q_42 (Sub.cons LM0 (by decide) (by decide) (by decide) (Or.inr ⟨by decide, by decide⟩) (Sub.cons (LMs LM0) (by omega) (by omega) (by decide) (Or.inl rfl) (Sub.cons (LMs (LMs LM0)) (by omega) (by omega) (by decide) (Or.inl rfl) (Sub.cons (LMs (LMs (LMs LM0))) (by omega) (by omega) (by decide) (Or.inr ⟨by decide, by decide⟩) (Sub.cons (LMs (LMs (LMs (LMs LM0)))) (by decide) (by decide) (by decide) (Or.inr ⟨by decide, by decide⟩) Sub.nil))))))
        obtain ⟨a_47, ha_48, ⟨ts_t_49, tn_t_49, tf_t_49, te_t_49⟩, hb_t_49⟩ := h_43
        refine aw_if_ne (tgt := 67) dX5_readComparison_62 (by decide) (fun c_53 => ?_) (fun c_53 => ?_)
        · skip
          refine aw_aload_n dX5_readComparison_67 rfl ?_
          refine aw_get dX5_readComparison_68 fl_X5_9 ((j_45.2.1 _ hp.1 hp.2).trans hR) (by omega) rfl ?_
          refine aw_iload_n dX5_readComparison_71 rfl ?_
          refine aw_iconst (v := 0) dX5_readComparison_72 (by decide) ?_
          obtain ⟨s8_57, r8_57, h8_57, e_57, hs_57, hr_57⟩ := JW.get j_45 (ctl_0 hx)
          refine aw_callVi (J' := jX4_add) (As := [.int r_15, .int 0]) (st := []) dX5_readComparison_73 tb_415 ok_X4_add ⟨_, e_57⟩ (by omega) rfl rfl (g_X4_add l D b N V_46 hN j_45.1 x hx r_15 0 (by decide)) rfl (Nat.le_of_ble_eq_true rfl) ⟨Nat.le_of_ble_eq_true rfl, Nat.le_of_ble_eq_true rfl, Nat.le_of_ble_eq_true rfl, Nat.le_of_ble_eq_true rfl⟩ (fun r_58 N_59 V_56 q_60 => ?_)
          obtain ⟨rfl, q_54⟩ := q_60
          have j_55 := JW.trans j_45 (JW.weak q_54 (Sub.cons (LMs LM0) (by omega) (by omega) (by decide) (Or.inl rfl) (Sub.cons (LMs (LMs LM0)) (by omega) (by omega) (by decide) (Or.inl rfl) (Sub.cons (LMs (LMs (LMs LM0))) (by omega) (by omega) (by decide) (Or.inr ⟨by decide, by decide⟩) Sub.nil))))
          refine aw_pop dX5_readComparison_76 rfl ?_
          refine aw_iconst (v := 1) dX5_readComparison_77 (by decide) ?_
          refine aw_zreti dX5_readComparison_78 rfl (by first | exact Or.inl rfl | exact Or.inr rfl | assumption) (Nat.le_of_ble_eq_true rfl) (Nat.le_of_ble_eq_true rfl) ?_
          exact ⟨⟨(by first | exact Or.inl rfl | exact Or.inr rfl | assumption), ⟨a_47, by omega, ⟨⟨_, _, _, ((JW.same q_54 (by decide) (fun k => (nfc (by omega) (nfc (by omega) (nfc (by omega) nf0))))).trans te_t_49)⟩, by omega⟩⟩⟩, rfl, j_55⟩
        · skip
          refine aw_iconst (v := 0) dX5_readComparison_65 (by decide) ?_
          refine aw_zreti dX5_readComparison_66 rfl (by first | exact Or.inl rfl | exact Or.inr rfl | assumption) (Nat.le_of_ble_eq_true rfl) (Nat.le_of_ble_eq_true rfl) ?_
          exact ⟨⟨(by first | exact Or.inl rfl | exact Or.inr rfl | assumption), ⟨a_47, by omega, ⟨⟨_, _, _, te_t_49⟩, by omega⟩⟩⟩, rfl, j_45⟩
      · skip
        refine aw_iload_n dX5_readComparison_30 rfl ?_
        refine aw_bipush (v := 61) dX5_readComparison_31 (by decide) ?_
        refine aw_icmp_eq (tgt := 44) dX5_readComparison_33 (by decide) (fun c_61 => ?_) (fun c_61 => ?_)
        · skip
          have hlc_61 := h_14.resolve_left (by rw [c_61]; decide)
          refine aw_aload_n dX5_readComparison_44 rfl ?_
          refine aw_get dX5_readComparison_45 fl_X5_15 ((j_4.2.1 _ hp.1 hp.2).trans hR) (by omega) rfl ?_
          refine aw_dup dX5_readComparison_48 rfl ?_
          refine aw_get dX5_readComparison_49 fl_X5_25 te_t_8 (by omega) rfl ?_
          refine aw_iconst (v := 1) dX5_readComparison_52 (by decide) ?_
          refine aw_iadd dX5_readComparison_53 ?_
          refine aw_eqi (y := nI (a_6 + 1)) (nI_add _ _) ?_
          refine aw_put dX5_readComparison_54 fp_X5_25 te_t_8 (by omega) rfl rfl (Nat.le_of_ble_eq_true rfl) rfl ?_
          refine aw_up j_4 ct_1 ⟨_, _, _, (a_6 + 1), rfl, (by first | omega | (split <;> omega))⟩ (WO (s := 3) (x := .int (nI (a_6 + 1))) te_t_8 rfl LM0 (by decide) (by decide) (by decide) (Or.inl (by decide))) (fun V_62 j_62 k_62 e_62 => ?_)
          refine aw_aload_n dX5_readComparison_57 rfl ?_
          refine aw_iload_n dX5_readComparison_58 rfl ?_
          refine aw_callVi (J' := jX5_readSum) (As := [.int 6]) (st := []) dX5_readComparison_59 tb_395 ok_X5_readSum ⟨_, ((j_62.2.1 _ hp.1 hp.2).trans hR)⟩ (by omega) rfl rfl (g_X5_readSum_6 l D b N V_62 hN j_62.1 p x ⟨by omega, by omega⟩ hx ((j_62.2.1 _ hp.1 hp.2).trans hR) (a_6 + 1) (⟨⟨_, _, _, e_62⟩, by omega⟩)) rfl (Nat.le_of_ble_eq_true rfl) ⟨Nat.le_of_ble_eq_true rfl, Nat.le_of_ble_eq_true rfl, Nat.le_of_ble_eq_true rfl, Nat.le_of_ble_eq_true rfl⟩ (fun r_71 N_72 V_67 q_73 => ?_)
          obtain ⟨⟨z_65, h_64⟩, rfl, q_63⟩ := q_73
          have j_66 := JW.trans j_62 (JW.weak q_63 (Sub.cons LM0 (by decide) (by decide) (by decide) (Or.inr ⟨by decide, by decide⟩) (Sub.cons (LMs LM0) (by omega) (by omega) (by decide) (Or.inl rfl) (Sub.cons (LMs (LMs LM0)) (by omega) (by omega) (by decide) (Or.inl rfl) (Sub.cons (LMs (LMs (LMs LM0))) (by omega) (by omega) (by decide) (Or.inr ⟨by decide, by decide⟩) (Sub.cons (LMs (LMs (LMs (LMs LM0)))) (by decide) (by decide) (by decide) (Or.inr ⟨by decide, by decide⟩) Sub.nil))))))
          obtain ⟨a_68, ha_69, ⟨ts_t_70, tn_t_70, tf_t_70, te_t_70⟩, hb_t_70⟩ := h_64
          refine aw_if_ne (tgt := 67) dX5_readComparison_62 (by decide) (fun c_74 => ?_) (fun c_74 => ?_)
          · skip
            refine aw_aload_n dX5_readComparison_67 rfl ?_
            refine aw_get dX5_readComparison_68 fl_X5_9 ((j_66.2.1 _ hp.1 hp.2).trans hR) (by omega) rfl ?_
            refine aw_iload_n dX5_readComparison_71 rfl ?_
            refine aw_iconst (v := 0) dX5_readComparison_72 (by decide) ?_
            obtain ⟨s8_78, r8_78, h8_78, e_78, hs_78, hr_78⟩ := JW.get j_66 (ctl_0 hx)
            refine aw_callVi (J' := jX4_add) (As := [.int r_15, .int 0]) (st := []) dX5_readComparison_73 tb_415 ok_X4_add ⟨_, e_78⟩ (by omega) rfl rfl (g_X4_add l D b N V_67 hN j_66.1 x hx r_15 0 (by decide)) rfl (Nat.le_of_ble_eq_true rfl) ⟨Nat.le_of_ble_eq_true rfl, Nat.le_of_ble_eq_true rfl, Nat.le_of_ble_eq_true rfl, Nat.le_of_ble_eq_true rfl⟩ (fun r_79 N_80 V_77 q_81 => ?_)
            obtain ⟨rfl, q_75⟩ := q_81
            have j_76 := JW.trans j_66 (JW.weak q_75 (Sub.cons (LMs LM0) (by omega) (by omega) (by decide) (Or.inl rfl) (Sub.cons (LMs (LMs LM0)) (by omega) (by omega) (by decide) (Or.inl rfl) (Sub.cons (LMs (LMs (LMs LM0))) (by omega) (by omega) (by decide) (Or.inr ⟨by decide, by decide⟩) Sub.nil))))
            refine aw_pop dX5_readComparison_76 rfl ?_
            refine aw_iconst (v := 1) dX5_readComparison_77 (by decide) ?_
            refine aw_zreti dX5_readComparison_78 rfl (by first | exact Or.inl rfl | exact Or.inr rfl | assumption) (Nat.le_of_ble_eq_true rfl) (Nat.le_of_ble_eq_true rfl) ?_
            exact ⟨⟨(by first | exact Or.inl rfl | exact Or.inr rfl | assumption), ⟨a_68, by omega, ⟨⟨_, _, _, ((JW.same q_75 (by decide) (fun k => (nfc (by omega) (nfc (by omega) (nfc (by omega) nf0))))).trans te_t_70)⟩, by omega⟩⟩⟩, rfl, j_76⟩
          · skip
            refine aw_iconst (v := 0) dX5_readComparison_65 (by decide) ?_
            refine aw_zreti dX5_readComparison_66 rfl (by first | exact Or.inl rfl | exact Or.inr rfl | assumption) (Nat.le_of_ble_eq_true rfl) (Nat.le_of_ble_eq_true rfl) ?_
            exact ⟨⟨(by first | exact Or.inl rfl | exact Or.inr rfl | assumption), ⟨a_68, by omega, ⟨⟨_, _, _, te_t_70⟩, by omega⟩⟩⟩, rfl, j_66⟩
        · skip
          refine aw_aload_n dX5_readComparison_36 rfl ?_
          refine aw_get dX5_readComparison_37 fl_X5_15 ((j_4.2.1 _ hp.1 hp.2).trans hR) (by omega) rfl ?_
          refine aw_callVi (J' := jX10_cannotStand) (As := []) (st := []) dX5_readComparison_40 tb_493 ok_X10_cannotStand ⟨_, te_t_8⟩ (by omega) rfl rfl (g_X10_cannotStand l D b N V_5 hN j_4.1 a_6 (⟨⟨_, _, _, te_t_8⟩, by omega⟩)) rfl (Nat.le_of_ble_eq_true rfl) ⟨Nat.le_of_ble_eq_true rfl, Nat.le_of_ble_eq_true rfl, Nat.le_of_ble_eq_true rfl, Nat.le_of_ble_eq_true rfl⟩ (fun r_91 N_92 V_86 q_93 => ?_)
          obtain ⟨⟨z_84, h_83⟩, rfl, q_82⟩ := q_93
          have j_85 := JW.trans j_4 (JW.weak q_82 (Sub.cons (LMs (LMs (LMs (LMs LM0)))) (by decide) (by decide) (by decide) (Or.inr ⟨by decide, by decide⟩) Sub.nil))
          obtain ⟨h_90, a_87, ha_88, ⟨ts_t_89, tn_t_89, tf_t_89, te_t_89⟩, hb_t_89⟩ := h_83
          obtain rfl := h_90
          refine aw_zreti dX5_readComparison_43 rfl (by first | exact Or.inl rfl | exact Or.inr rfl | assumption) (Nat.le_of_ble_eq_true rfl) (Nat.le_of_ble_eq_true rfl) ?_
          exact ⟨⟨(by first | exact Or.inl rfl | exact Or.inr rfl | assumption), ⟨a_87, by omega, ⟨⟨_, _, _, te_t_89⟩, by omega⟩⟩⟩, rfl, j_85⟩
  · skip
    refine aw_iconst (v := 0) dX5_readComparison_8 (by decide) ?_
    refine aw_zreti dX5_readComparison_9 rfl (by first | exact Or.inl rfl | exact Or.inr rfl | assumption) (Nat.le_of_ble_eq_true rfl) (Nat.le_of_ble_eq_true rfl) ?_
    exact ⟨⟨(by first | exact Or.inl rfl | exact Or.inr rfl | assumption), ⟨a_6, by omega, ⟨⟨_, _, _, te_t_8⟩, by omega⟩⟩⟩, rfl, j_4⟩

set_option maxHeartbeats 4000000 in
set_option maxRecDepth 100000 in
theorem g_X5_readNegation_6 (l : Launch) (D : va_G) (b : Nat) (N : Nat) (V : Wd) (hN : 100 ≤ N) (hW : CW D b V) (p x : Nat) (hp : 100 ≤ p ∧ p < N) (hx : x = 57 ∨ x = 65) (hR : V p = cO 5 [.ref (b + 1), .ref (b + x)]) (a : Nat) (hT : TA b a V) (hlt : a < 260) : MI l D b 2 jX5_readNegation [.ref (b + p), .int 6] N V 0 0 (fun r N9 V9 => ((r = 0 ∨ r = 1) ∧ (∃ a9, a ≤ a9 ∧ TA b a9 V9)) ∧ N = N9 ∧ JW D b N [(1, 1, 4, 4)] V V9) := by
  have hJ0 : JW D b N [(1, 1, 4, 4)] V V := JW.rf hW
  obtain ⟨⟨ts_0, tn_0, tf_0, te_0⟩, ha_0⟩ := id hT
  refine mw_of (by decide) (by simp [Value.category]) (Nat.le_of_ble_eq_true rfl) ?_
  show AW l D b jX5_readNegation (fx_rm 2 0 0) none (fx_MQ D b 0 0 (fx_qi (fun r N9 V9 => ((r = 0 ∨ r = 1) ∧ (∃ a9, a ≤ a9 ∧ TA b a9 V9)) ∧ N = N9 ∧ JW D b N [(1, 1, 4, 4)] V V9))) 0 [some (.ref (b + p)), some (.int 6)] [] N V 0 0
  refine aw_aload_n dX5_readNegation_0 rfl ?_
  refine aw_iload_n dX5_readNegation_1 rfl ?_
  refine aw_callVi (J' := jX5_open) (As := [.int 6]) (st := []) dX5_readNegation_2 tb_407 ok_X5_open ⟨_, ((hJ0.2.1 _ hp.1 hp.2).trans hR)⟩ (by omega) rfl rfl (g_X5_open_6 l D b N V hN hJ0.1 p x ⟨by omega, by omega⟩ hx ((hJ0.2.1 _ hp.1 hp.2).trans hR) a (⟨⟨_, _, _, te_0⟩, by omega⟩) (by omega)) rfl (Nat.le_of_ble_eq_true rfl) ⟨Nat.le_of_ble_eq_true rfl, Nat.le_of_ble_eq_true rfl, Nat.le_of_ble_eq_true rfl, Nat.le_of_ble_eq_true rfl⟩ (fun r_10 N_11 V_5 q_12 => ?_)
  obtain ⟨⟨z_3, h_2⟩, rfl, q_1⟩ := q_12
  have j_4 := JW.trans hJ0 (JW.weak q_1 (Sub.cons LM0 (by decide) (by decide) (by decide) (Or.inr ⟨by decide, by decide⟩) Sub.nil))
  obtain ⟨h_9, a_6, ha_7, ⟨ts_t_8, tn_t_8, tf_t_8, te_t_8⟩, hb_t_8⟩ := h_2
  obtain rfl := h_9
  refine aw_if_eq (tgt := 18) dX5_readNegation_5 (by decide) (fun c_13 => ?_) (fun c_13 => ?_)
  rotate_left
  · exact absurd (by decide) c_13
  refine aw_iconst (v := 0) dX5_readNegation_18 (by decide) ?_
  refine aw_zreti dX5_readNegation_19 rfl (by first | exact Or.inl rfl | exact Or.inr rfl | assumption) (Nat.le_of_ble_eq_true rfl) (Nat.le_of_ble_eq_true rfl) ?_
  exact ⟨⟨(by first | exact Or.inl rfl | exact Or.inr rfl | assumption), ⟨a_6, by omega, ⟨⟨_, _, _, te_t_8⟩, by omega⟩⟩⟩, rfl, j_4⟩

set_option maxHeartbeats 4000000 in
set_option maxRecDepth 100000 in
theorem g_X5_readTest_6 (l : Launch) (D : va_G) (b : Nat) (N : Nat) (V : Wd) (hN : 100 ≤ N) (hW : CW D b V) (p x : Nat) (hp : 100 ≤ p ∧ p < N) (hx : x = 57 ∨ x = 65) (hR : V p = cO 5 [.ref (b + 1), .ref (b + x)]) (a : Nat) (hT : TA b a V) : MI l D b 9 jX5_readTest [.ref (b + p), .int 6] N V 0 0 (fun r N9 V9 => ((r = 0 ∨ r = 1) ∧ (∃ a9, a ≤ a9 ∧ TA b a9 V9)) ∧ N = N9 ∧ JW D b N [(1, 1, 3, 3), (x + 1, x + 1, 0, 1000000), (x + 2, x + 2, 0, 1000000), (x, x, 2, 2), (1, 1, 4, 4)] V V9) := by
  have hJ0 : JW D b N [(1, 1, 3, 3), (x + 1, x + 1, 0, 1000000), (x + 2, x + 2, 0, 1000000), (x, x, 2, 2), (1, 1, 4, 4)] V V := JW.rf hW
  obtain ⟨⟨ts_0, tn_0, tf_0, te_0⟩, ha_0⟩ := id hT
  refine mw_of (by decide) (by simp [Value.category]) (Nat.le_of_ble_eq_true rfl) ?_
  show AW l D b jX5_readTest (fx_rm 9 0 0) none (fx_MQ D b 0 0 (fx_qi (fun r N9 V9 => ((r = 0 ∨ r = 1) ∧ (∃ a9, a ≤ a9 ∧ TA b a9 V9)) ∧ N = N9 ∧ JW D b N [(1, 1, 3, 3), (x + 1, x + 1, 0, 1000000), (x + 2, x + 2, 0, 1000000), (x, x, 2, 2), (1, 1, 4, 4)] V V9))) 0 [some (.ref (b + p)), some (.int 6), none] [] N V 0 0
  refine aw_aload_n dX5_readTest_0 rfl ?_
  refine aw_get dX5_readTest_1 fl_X5_15 ((hJ0.2.1 _ hp.1 hp.2).trans hR) (by omega) rfl ?_
  refine aw_callVi (J' := jX10_now) (As := []) (st := []) dX5_readTest_4 tb_390 ok_X10_now ⟨_, te_0⟩ (by omega) rfl rfl (g_X10_now l D b N V hN hJ0.1 a (⟨⟨_, _, _, te_0⟩, by omega⟩)) rfl (Nat.le_of_ble_eq_true rfl) ⟨Nat.le_of_ble_eq_true rfl, Nat.le_of_ble_eq_true rfl, Nat.le_of_ble_eq_true rfl, Nat.le_of_ble_eq_true rfl⟩ (fun r_3 N_4 V_5 q_6 => ?_)
  obtain ⟨h_2, rfl, rfl⟩ := q_6
  refine aw_istore_n (ls' := [some (.ref (b + p)), some (.int 6), some (.int r_3)]) dX5_readTest_7 (Nat.le_of_ble_eq_true rfl) rfl ?_
  refine aw_iload_n dX5_readTest_8 rfl ?_
  refine aw_bipush (v := 33) dX5_readTest_9 (by decide) ?_
  refine aw_icmp_ne (tgt := 20) dX5_readTest_11 (by decide) (fun c_7 => ?_) (fun c_7 => ?_)
  · skip
    refine aw_iload_n dX5_readTest_20 rfl ?_
    refine aw_bipush (v := 40) dX5_readTest_21 (by decide) ?_
    refine aw_icmp_ne (tgt := 62) dX5_readTest_23 (by decide) (fun c_8 => ?_) (fun c_8 => ?_)
    · skip
      refine aw_aload_n dX5_readTest_62 rfl ?_
      refine aw_iload_n dX5_readTest_63 rfl ?_
      refine aw_callVi (J' := jX5_readComparison) (As := [.int 6]) (st := []) dX5_readTest_64 tb_517 ok_X5_readComparison ⟨_, ((hJ0.2.1 _ hp.1 hp.2).trans hR)⟩ (by omega) rfl rfl (g_X5_readComparison_6 l D b N V hN hJ0.1 p x ⟨by omega, by omega⟩ hx ((hJ0.2.1 _ hp.1 hp.2).trans hR) a (⟨⟨_, _, _, te_0⟩, by omega⟩)) rfl (Nat.le_of_ble_eq_true rfl) ⟨Nat.le_of_ble_eq_true rfl, Nat.le_of_ble_eq_true rfl, Nat.le_of_ble_eq_true rfl, Nat.le_of_ble_eq_true rfl⟩ (fun r_17 N_18 V_13 q_19 => ?_)
      obtain ⟨⟨z_11, h_10⟩, rfl, q_9⟩ := q_19
      have j_12 := JW.trans hJ0 (JW.weak q_9 (Sub.cons LM0 (by decide) (by decide) (by decide) (Or.inr ⟨by decide, by decide⟩) (Sub.cons (LMs LM0) (by omega) (by omega) (by decide) (Or.inl rfl) (Sub.cons (LMs (LMs LM0)) (by omega) (by omega) (by decide) (Or.inl rfl) (Sub.cons (LMs (LMs (LMs LM0))) (by omega) (by omega) (by decide) (Or.inr ⟨by decide, by decide⟩) (Sub.cons (LMs (LMs (LMs (LMs LM0)))) (by decide) (by decide) (by decide) (Or.inr ⟨by decide, by decide⟩) Sub.nil))))))
      obtain ⟨a_14, ha_15, ⟨ts_t_16, tn_t_16, tf_t_16, te_t_16⟩, hb_t_16⟩ := h_10
      refine aw_zreti dX5_readTest_67 rfl (by first | exact Or.inl rfl | exact Or.inr rfl | assumption) (Nat.le_of_ble_eq_true rfl) (Nat.le_of_ble_eq_true rfl) ?_
      exact ⟨⟨(by first | exact Or.inl rfl | exact Or.inr rfl | assumption), ⟨a_14, by omega, ⟨⟨_, _, _, te_t_16⟩, by omega⟩⟩⟩, rfl, j_12⟩
    · skip
      have hlc_8 := h_2.resolve_left (by rw [c_8]; decide)
      refine aw_aload_n dX5_readTest_26 rfl ?_
      refine aw_iload_n dX5_readTest_27 rfl ?_
      refine aw_callVi (J' := jX5_open) (As := [.int 6]) (st := []) dX5_readTest_28 tb_407 ok_X5_open ⟨_, ((hJ0.2.1 _ hp.1 hp.2).trans hR)⟩ (by omega) rfl rfl (g_X5_open_6 l D b N V hN hJ0.1 p x ⟨by omega, by omega⟩ hx ((hJ0.2.1 _ hp.1 hp.2).trans hR) a (⟨⟨_, _, _, te_0⟩, by omega⟩) (by omega)) rfl (Nat.le_of_ble_eq_true rfl) ⟨Nat.le_of_ble_eq_true rfl, Nat.le_of_ble_eq_true rfl, Nat.le_of_ble_eq_true rfl, Nat.le_of_ble_eq_true rfl⟩ (fun r_29 N_30 V_24 q_31 => ?_)
      obtain ⟨⟨z_22, h_21⟩, rfl, q_20⟩ := q_31
      have j_23 := JW.trans hJ0 (JW.weak q_20 (Sub.cons (LMs (LMs (LMs (LMs LM0)))) (by decide) (by decide) (by decide) (Or.inr ⟨by decide, by decide⟩) Sub.nil))
      obtain ⟨h_28, a_25, ha_26, ⟨ts_t_27, tn_t_27, tf_t_27, te_t_27⟩, hb_t_27⟩ := h_21
      obtain rfl := h_28
      refine aw_if_eq (tgt := 60) dX5_readTest_31 (by decide) (fun c_32 => ?_) (fun c_32 => ?_)
      rotate_left
      · exact absurd (by decide) c_32
      refine aw_iconst (v := 0) dX5_readTest_60 (by decide) ?_
      refine aw_zreti dX5_readTest_61 rfl (by first | exact Or.inl rfl | exact Or.inr rfl | assumption) (Nat.le_of_ble_eq_true rfl) (Nat.le_of_ble_eq_true rfl) ?_
      exact ⟨⟨(by first | exact Or.inl rfl | exact Or.inr rfl | assumption), ⟨a_25, by omega, ⟨⟨_, _, _, te_t_27⟩, by omega⟩⟩⟩, rfl, j_23⟩
  · skip
    have hlc_7 := h_2.resolve_left (by rw [c_7]; decide)
    refine aw_aload_n dX5_readTest_14 rfl ?_
    refine aw_iload_n dX5_readTest_15 rfl ?_
    refine aw_callVi (J' := jX5_readNegation) (As := [.int 6]) (st := []) dX5_readTest_16 tb_513 ok_X5_readNegation ⟨_, ((hJ0.2.1 _ hp.1 hp.2).trans hR)⟩ (by omega) rfl rfl (g_X5_readNegation_6 l D b N V hN hJ0.1 p x ⟨by omega, by omega⟩ hx ((hJ0.2.1 _ hp.1 hp.2).trans hR) a (⟨⟨_, _, _, te_0⟩, by omega⟩) (by omega)) rfl (Nat.le_of_ble_eq_true rfl) ⟨Nat.le_of_ble_eq_true rfl, Nat.le_of_ble_eq_true rfl, Nat.le_of_ble_eq_true rfl, Nat.le_of_ble_eq_true rfl⟩ (fun r_41 N_42 V_37 q_43 => ?_)
    obtain ⟨⟨z_35, h_34⟩, rfl, q_33⟩ := q_43
    have j_36 := JW.trans hJ0 (JW.weak q_33 (Sub.cons (LMs (LMs (LMs (LMs LM0)))) (by decide) (by decide) (by decide) (Or.inr ⟨by decide, by decide⟩) Sub.nil))
    obtain ⟨a_38, ha_39, ⟨ts_t_40, tn_t_40, tf_t_40, te_t_40⟩, hb_t_40⟩ := h_34
    refine aw_zreti dX5_readTest_19 rfl (by first | exact Or.inl rfl | exact Or.inr rfl | assumption) (Nat.le_of_ble_eq_true rfl) (Nat.le_of_ble_eq_true rfl) ?_
    exact ⟨⟨(by first | exact Or.inl rfl | exact Or.inr rfl | assumption), ⟨a_38, by omega, ⟨⟨_, _, _, te_t_40⟩, by omega⟩⟩⟩, rfl, j_36⟩

set_option maxHeartbeats 4000000 in
set_option maxRecDepth 100000 in
theorem g_X5_readAllOf_6 (l : Launch) (D : va_G) (b : Nat) (N : Nat) (V : Wd) (hN : 100 ≤ N) (hW : CW D b V) (p x : Nat) (hp : 100 ≤ p ∧ p < N) (hx : x = 57 ∨ x = 65) (hR : V p = cO 5 [.ref (b + 1), .ref (b + x)]) (a : Nat) (hT : TA b a V) : MI l D b 10 jX5_readAllOf [.ref (b + p), .int 6] N V 0 0 (fun r N9 V9 => ((r = 0 ∨ r = 1) ∧ (∃ a9, a ≤ a9 ∧ TA b a9 V9)) ∧ N = N9 ∧ JW D b N [(1, 1, 3, 3), (x + 1, x + 1, 0, 1000000), (x + 2, x + 2, 0, 1000000), (x, x, 2, 2), (1, 1, 4, 4)] V V9) := by
  have hJ0 : JW D b N [(1, 1, 3, 3), (x + 1, x + 1, 0, 1000000), (x + 2, x + 2, 0, 1000000), (x, x, 2, 2), (1, 1, 4, 4)] V V := JW.rf hW
  obtain ⟨⟨ts_0, tn_0, tf_0, te_0⟩, ha_0⟩ := id hT
  refine mw_of (by decide) (by simp [Value.category]) (Nat.le_of_ble_eq_true rfl) ?_
  show AW l D b jX5_readAllOf (fx_rm 10 0 0) none (fx_MQ D b 0 0 (fx_qi (fun r N9 V9 => ((r = 0 ∨ r = 1) ∧ (∃ a9, a ≤ a9 ∧ TA b a9 V9)) ∧ N = N9 ∧ JW D b N [(1, 1, 3, 3), (x + 1, x + 1, 0, 1000000), (x + 2, x + 2, 0, 1000000), (x, x, 2, 2), (1, 1, 4, 4)] V V9))) 0 [some (.ref (b + p)), some (.int 6), none] [] N V 0 0
  refine aw_aload_n dX5_readAllOf_0 rfl ?_
  refine aw_iload_n dX5_readAllOf_1 rfl ?_
  refine aw_callVi (J' := jX5_readTest) (As := [.int 6]) (st := []) dX5_readAllOf_2 tb_509 ok_X5_readTest ⟨_, ((hJ0.2.1 _ hp.1 hp.2).trans hR)⟩ (by omega) rfl rfl (g_X5_readTest_6 l D b N V hN hJ0.1 p x ⟨by omega, by omega⟩ hx ((hJ0.2.1 _ hp.1 hp.2).trans hR) a (⟨⟨_, _, _, te_0⟩, by omega⟩)) rfl (Nat.le_of_ble_eq_true rfl) ⟨Nat.le_of_ble_eq_true rfl, Nat.le_of_ble_eq_true rfl, Nat.le_of_ble_eq_true rfl, Nat.le_of_ble_eq_true rfl⟩ (fun r_9 N_10 V_5 q_11 => ?_)
  obtain ⟨⟨z_3, h_2⟩, rfl, q_1⟩ := q_11
  have j_4 := JW.trans hJ0 (JW.weak q_1 (Sub.cons LM0 (by decide) (by decide) (by decide) (Or.inr ⟨by decide, by decide⟩) (Sub.cons (LMs LM0) (by omega) (by omega) (by decide) (Or.inl rfl) (Sub.cons (LMs (LMs LM0)) (by omega) (by omega) (by decide) (Or.inl rfl) (Sub.cons (LMs (LMs (LMs LM0))) (by omega) (by omega) (by decide) (Or.inr ⟨by decide, by decide⟩) (Sub.cons (LMs (LMs (LMs (LMs LM0)))) (by decide) (by decide) (by decide) (Or.inr ⟨by decide, by decide⟩) Sub.nil))))))
  obtain ⟨a_6, ha_7, ⟨ts_t_8, tn_t_8, tf_t_8, te_t_8⟩, hb_t_8⟩ := h_2
  refine aw_if_ne (tgt := 10) dX5_readAllOf_5 (by decide) (fun c_12 => ?_) (fun c_12 => ?_)
  · skip
    have ml_10_13 : ∀ (m : Nat) (a10 : Nat) (V10 : Wd), m = 260 - a10 → (JW D b N [(1, 1, 3, 3), (x + 1, x + 1, 0, 1000000), (x + 2, x + 2, 0, 1000000), (x, x, 2, 2), (1, 1, 4, 4)] V V10) → (TA b a10 V10) → (a ≤ a10) → AW l D b jX5_readAllOf (fx_rm 10 0 0) none (fx_MQ D b 0 0 (fx_qi (fun r N9 V9 => ((r = 0 ∨ r = 1) ∧ (∃ a9, a ≤ a9 ∧ TA b a9 V9)) ∧ N = N9 ∧ JW D b N [(1, 1, 3, 3), (x + 1, x + 1, 0, 1000000), (x + 2, x + 2, 0, 1000000), (x, x, 2, 2), (1, 1, 4, 4)] V V9))) 10 [some (.ref (b + p)), some (.int 6), none] [] N V10 0 0 := by
      intro m; refine Nat.strongRecOn m ?_
      intro m mih_10_13 a10 V10 hm10 i10_0 i10_1 i10_2
      obtain ⟨⟨ts_10, tn_10, tf_10, te_10⟩, hb_10⟩ := i10_1
      refine aw_aload_n dX5_readAllOf_10 rfl ?_
      refine aw_get dX5_readAllOf_11 fl_X5_15 ((i10_0.2.1 _ hp.1 hp.2).trans hR) (by omega) rfl ?_
      refine aw_get dX5_readAllOf_14 fl_X5_25 te_10 (by omega) rfl ?_
      refine aw_aload_n dX5_readAllOf_17 rfl ?_
      refine aw_get dX5_readAllOf_18 fl_X5_15 ((i10_0.2.1 _ hp.1 hp.2).trans hR) (by omega) rfl ?_
      refine aw_get dX5_readAllOf_21 fl_X5_59 te_10 (by omega) rfl ?_
      refine aw_icmp_ge (tgt := 84) dX5_readAllOf_24 (by decide) (fun c_14 => ?_) (fun c_14 => ?_)
      · skip
        refine aw_iconst (v := 1) dX5_readAllOf_84 (by decide) ?_
        refine aw_zreti dX5_readAllOf_85 rfl (by first | exact Or.inl rfl | exact Or.inr rfl | assumption) (Nat.le_of_ble_eq_true rfl) (Nat.le_of_ble_eq_true rfl) ?_
        exact ⟨⟨(by first | exact Or.inl rfl | exact Or.inr rfl | assumption), ⟨a10, by omega, ⟨⟨_, _, _, te_10⟩, by omega⟩⟩⟩, rfl, i10_0⟩
      · skip
        refine aw_aload_n dX5_readAllOf_27 rfl ?_
        refine aw_get dX5_readAllOf_28 fl_X5_15 ((i10_0.2.1 _ hp.1 hp.2).trans hR) (by omega) rfl ?_
        refine aw_callVi (J' := jX10_now) (As := []) (st := []) dX5_readAllOf_31 tb_390 ok_X10_now ⟨_, te_10⟩ (by omega) rfl rfl (g_X10_now l D b N V10 hN i10_0.1 a10 (⟨⟨_, _, _, te_10⟩, by omega⟩)) rfl (Nat.le_of_ble_eq_true rfl) ⟨Nat.le_of_ble_eq_true rfl, Nat.le_of_ble_eq_true rfl, Nat.le_of_ble_eq_true rfl, Nat.le_of_ble_eq_true rfl⟩ (fun r_17 N_18 V_19 q_20 => ?_)
        obtain ⟨h_16, rfl, rfl⟩ := q_20
        refine aw_bipush (v := 38) dX5_readAllOf_34 (by decide) ?_
        refine aw_icmp_ne (tgt := 84) dX5_readAllOf_36 (by decide) (fun c_21 => ?_) (fun c_21 => ?_)
        · skip
          refine aw_iconst (v := 1) dX5_readAllOf_84 (by decide) ?_
          refine aw_zreti dX5_readAllOf_85 rfl (by first | exact Or.inl rfl | exact Or.inr rfl | assumption) (Nat.le_of_ble_eq_true rfl) (Nat.le_of_ble_eq_true rfl) ?_
          exact ⟨⟨(by first | exact Or.inl rfl | exact Or.inr rfl | assumption), ⟨a10, by omega, ⟨⟨_, _, _, te_10⟩, by omega⟩⟩⟩, rfl, i10_0⟩
        · skip
          have hlc_21 := h_16.resolve_left (by rw [c_21]; decide)
          refine aw_aload_n dX5_readAllOf_39 rfl ?_
          refine aw_get dX5_readAllOf_40 fl_X5_15 ((i10_0.2.1 _ hp.1 hp.2).trans hR) (by omega) rfl ?_
          refine aw_dup dX5_readAllOf_43 rfl ?_
          refine aw_get dX5_readAllOf_44 fl_X5_25 te_10 (by omega) rfl ?_
          refine aw_iconst (v := 1) dX5_readAllOf_47 (by decide) ?_
          refine aw_iadd dX5_readAllOf_48 ?_
          refine aw_eqi (y := nI (a10 + 1)) (nI_add _ _) ?_
          refine aw_put dX5_readAllOf_49 fp_X5_25 te_10 (by omega) rfl rfl (Nat.le_of_ble_eq_true rfl) rfl ?_
          refine aw_up i10_0 ct_1 ⟨_, _, _, (a10 + 1), rfl, (by first | omega | (split <;> omega))⟩ (WO (s := 3) (x := .int (nI (a10 + 1))) te_10 rfl LM0 (by decide) (by decide) (by decide) (Or.inl (by decide))) (fun V_22 j_22 k_22 e_22 => ?_)
          refine aw_aload_n dX5_readAllOf_52 rfl ?_
          refine aw_get dX5_readAllOf_53 fl_X5_9 ((j_22.2.1 _ hp.1 hp.2).trans hR) (by omega) rfl ?_
          refine aw_bipush (v := 38) dX5_readAllOf_56 (by decide) ?_
          refine aw_iconst (v := 0) dX5_readAllOf_58 (by decide) ?_
          obtain ⟨s8_26, r8_26, h8_26, e_26, hs_26, hr_26⟩ := JW.get j_22 (ctl_0 hx)
          refine aw_callVi (J' := jX4_add) (As := [.int 38, .int 0]) (st := []) dX5_readAllOf_59 tb_415 ok_X4_add ⟨_, e_26⟩ (by omega) rfl rfl (g_X4_add l D b N V_22 hN j_22.1 x hx 38 0 (by decide)) rfl (Nat.le_of_ble_eq_true rfl) ⟨Nat.le_of_ble_eq_true rfl, Nat.le_of_ble_eq_true rfl, Nat.le_of_ble_eq_true rfl, Nat.le_of_ble_eq_true rfl⟩ (fun r_27 N_28 V_25 q_29 => ?_)
          obtain ⟨rfl, q_23⟩ := q_29
          have j_24 := JW.trans j_22 (JW.weak q_23 (Sub.cons (LMs LM0) (by omega) (by omega) (by decide) (Or.inl rfl) (Sub.cons (LMs (LMs LM0)) (by omega) (by omega) (by decide) (Or.inl rfl) (Sub.cons (LMs (LMs (LMs LM0))) (by omega) (by omega) (by decide) (Or.inr ⟨by decide, by decide⟩) Sub.nil))))
          refine aw_istore_n (ls' := [some (.ref (b + p)), some (.int 6), some (.int r_27)]) dX5_readAllOf_62 (Nat.le_of_ble_eq_true rfl) rfl ?_
          refine aw_aload_n dX5_readAllOf_63 rfl ?_
          refine aw_iload_n dX5_readAllOf_64 rfl ?_
          refine aw_callVi (J' := jX5_readTest) (As := [.int 6]) (st := []) dX5_readAllOf_65 tb_509 ok_X5_readTest ⟨_, ((j_24.2.1 _ hp.1 hp.2).trans hR)⟩ (by omega) rfl rfl (g_X5_readTest_6 l D b N V_25 hN j_24.1 p x ⟨by omega, by omega⟩ hx ((j_24.2.1 _ hp.1 hp.2).trans hR) (a10 + 1) (⟨⟨_, _, _, ((JW.same q_23 (by decide) (fun k => (nfc (by omega) (nfc (by omega) (nfc (by omega) nf0))))).trans e_22)⟩, by omega⟩)) rfl (Nat.le_of_ble_eq_true rfl) ⟨Nat.le_of_ble_eq_true rfl, Nat.le_of_ble_eq_true rfl, Nat.le_of_ble_eq_true rfl, Nat.le_of_ble_eq_true rfl⟩ (fun r_38 N_39 V_34 q_40 => ?_)
          obtain ⟨⟨z_32, h_31⟩, rfl, q_30⟩ := q_40
          have j_33 := JW.trans j_24 (JW.weak q_30 (Sub.cons LM0 (by decide) (by decide) (by decide) (Or.inr ⟨by decide, by decide⟩) (Sub.cons (LMs LM0) (by omega) (by omega) (by decide) (Or.inl rfl) (Sub.cons (LMs (LMs LM0)) (by omega) (by omega) (by decide) (Or.inl rfl) (Sub.cons (LMs (LMs (LMs LM0))) (by omega) (by omega) (by decide) (Or.inr ⟨by decide, by decide⟩) (Sub.cons (LMs (LMs (LMs (LMs LM0)))) (by decide) (by decide) (by decide) (Or.inr ⟨by decide, by decide⟩) Sub.nil))))))
          obtain ⟨a_35, ha_36, ⟨ts_t_37, tn_t_37, tf_t_37, te_t_37⟩, hb_t_37⟩ := h_31
          refine aw_if_ne (tgt := 73) dX5_readAllOf_68 (by decide) (fun c_41 => ?_) (fun c_41 => ?_)
          · skip
            refine aw_aload_n dX5_readAllOf_73 rfl ?_
            refine aw_get dX5_readAllOf_74 fl_X5_9 ((j_33.2.1 _ hp.1 hp.2).trans hR) (by omega) rfl ?_
            refine aw_iload_n dX5_readAllOf_77 rfl ?_
            obtain ⟨s8_45, r8_45, h8_45, e_45, hs_45, hr_45⟩ := JW.get j_33 (ctl_0 hx)
            refine aw_callVv (J' := jX4_leadHere) (As := [.int r_27]) (st := []) dX5_readAllOf_78 tb_521 ok_X4_leadHere ⟨_, e_45⟩ (by omega) rfl rfl (g_X4_leadHere l D b N V_34 hN j_33.1 x hx r_27) rfl (Nat.le_of_ble_eq_true rfl) ⟨Nat.le_of_ble_eq_true rfl, Nat.le_of_ble_eq_true rfl, Nat.le_of_ble_eq_true rfl, Nat.le_of_ble_eq_true rfl⟩ (fun  N_46 V_44 q_47 => ?_)
            obtain ⟨rfl, q_42⟩ := q_47
            have j_43 := JW.trans j_33 (JW.weak q_42 (Sub.cons (LMs (LMs LM0)) (by omega) (by omega) (by decide) (Or.inl rfl) Sub.nil))
            refine aw_goto (tgt := 10) dX5_readAllOf_81 (by decide) ?_
            refine aw_le ?_ (mih_10_13 _ (by omega) a_35 V_44 rfl (j_43) (⟨⟨_, _, _, ((JW.same q_42 (by decide) (fun k => (nfc (by omega) nf0))).trans te_t_37)⟩, by omega⟩) (by omega))
            exact ⟨rfl, ⟨rfl, trivial⟩⟩
          · skip
            refine aw_iconst (v := 0) dX5_readAllOf_71 (by decide) ?_
            refine aw_zreti dX5_readAllOf_72 rfl (by first | exact Or.inl rfl | exact Or.inr rfl | assumption) (Nat.le_of_ble_eq_true rfl) (Nat.le_of_ble_eq_true rfl) ?_
            exact ⟨⟨(by first | exact Or.inl rfl | exact Or.inr rfl | assumption), ⟨a_35, by omega, ⟨⟨_, _, _, te_t_37⟩, by omega⟩⟩⟩, rfl, j_33⟩
    refine aw_le ?_ (ml_10_13 _ a_6 V_5 rfl (j_4) (⟨⟨_, _, _, te_t_8⟩, by omega⟩) (by omega))
    exact ⟨rfl, ⟨rfl, trivial⟩⟩
  · skip
    refine aw_iconst (v := 0) dX5_readAllOf_8 (by decide) ?_
    refine aw_zreti dX5_readAllOf_9 rfl (by first | exact Or.inl rfl | exact Or.inr rfl | assumption) (Nat.le_of_ble_eq_true rfl) (Nat.le_of_ble_eq_true rfl) ?_
    exact ⟨⟨(by first | exact Or.inl rfl | exact Or.inr rfl | assumption), ⟨a_6, by omega, ⟨⟨_, _, _, te_t_8⟩, by omega⟩⟩⟩, rfl, j_4⟩

set_option maxHeartbeats 4000000 in
set_option maxRecDepth 100000 in
theorem g_X5_readAnyOf_6 (l : Launch) (D : va_G) (b : Nat) (N : Nat) (V : Wd) (hN : 100 ≤ N) (hW : CW D b V) (p x : Nat) (hp : 100 ≤ p ∧ p < N) (hx : x = 57 ∨ x = 65) (hR : V p = cO 5 [.ref (b + 1), .ref (b + x)]) (a : Nat) (hT : TA b a V) : MI l D b 11 jX5_readAnyOf [.ref (b + p), .int 6] N V 0 0 (fun r N9 V9 => ((r = 0 ∨ r = 1) ∧ (∃ a9, a ≤ a9 ∧ TA b a9 V9)) ∧ N = N9 ∧ JW D b N [(1, 1, 3, 3), (x + 1, x + 1, 0, 1000000), (x + 2, x + 2, 0, 1000000), (x, x, 2, 2), (1, 1, 4, 4)] V V9) := by
  have hJ0 : JW D b N [(1, 1, 3, 3), (x + 1, x + 1, 0, 1000000), (x + 2, x + 2, 0, 1000000), (x, x, 2, 2), (1, 1, 4, 4)] V V := JW.rf hW
  obtain ⟨⟨ts_0, tn_0, tf_0, te_0⟩, ha_0⟩ := id hT
  refine mw_of (by decide) (by simp [Value.category]) (Nat.le_of_ble_eq_true rfl) ?_
  show AW l D b jX5_readAnyOf (fx_rm 11 0 0) none (fx_MQ D b 0 0 (fx_qi (fun r N9 V9 => ((r = 0 ∨ r = 1) ∧ (∃ a9, a ≤ a9 ∧ TA b a9 V9)) ∧ N = N9 ∧ JW D b N [(1, 1, 3, 3), (x + 1, x + 1, 0, 1000000), (x + 2, x + 2, 0, 1000000), (x, x, 2, 2), (1, 1, 4, 4)] V V9))) 0 [some (.ref (b + p)), some (.int 6), none] [] N V 0 0
  refine aw_aload_n dX5_readAnyOf_0 rfl ?_
  refine aw_iload_n dX5_readAnyOf_1 rfl ?_
  refine aw_callVi (J' := jX5_readAllOf) (As := [.int 6]) (st := []) dX5_readAnyOf_2 tb_505 ok_X5_readAllOf ⟨_, ((hJ0.2.1 _ hp.1 hp.2).trans hR)⟩ (by omega) rfl rfl (g_X5_readAllOf_6 l D b N V hN hJ0.1 p x ⟨by omega, by omega⟩ hx ((hJ0.2.1 _ hp.1 hp.2).trans hR) a (⟨⟨_, _, _, te_0⟩, by omega⟩)) rfl (Nat.le_of_ble_eq_true rfl) ⟨Nat.le_of_ble_eq_true rfl, Nat.le_of_ble_eq_true rfl, Nat.le_of_ble_eq_true rfl, Nat.le_of_ble_eq_true rfl⟩ (fun r_9 N_10 V_5 q_11 => ?_)
  obtain ⟨⟨z_3, h_2⟩, rfl, q_1⟩ := q_11
  have j_4 := JW.trans hJ0 (JW.weak q_1 (Sub.cons LM0 (by decide) (by decide) (by decide) (Or.inr ⟨by decide, by decide⟩) (Sub.cons (LMs LM0) (by omega) (by omega) (by decide) (Or.inl rfl) (Sub.cons (LMs (LMs LM0)) (by omega) (by omega) (by decide) (Or.inl rfl) (Sub.cons (LMs (LMs (LMs LM0))) (by omega) (by omega) (by decide) (Or.inr ⟨by decide, by decide⟩) (Sub.cons (LMs (LMs (LMs (LMs LM0)))) (by decide) (by decide) (by decide) (Or.inr ⟨by decide, by decide⟩) Sub.nil))))))
  obtain ⟨a_6, ha_7, ⟨ts_t_8, tn_t_8, tf_t_8, te_t_8⟩, hb_t_8⟩ := h_2
  refine aw_if_ne (tgt := 10) dX5_readAnyOf_5 (by decide) (fun c_12 => ?_) (fun c_12 => ?_)
  · skip
    have ml_10_13 : ∀ (m : Nat) (a10 : Nat) (V10 : Wd), m = 260 - a10 → (JW D b N [(1, 1, 3, 3), (x + 1, x + 1, 0, 1000000), (x + 2, x + 2, 0, 1000000), (x, x, 2, 2), (1, 1, 4, 4)] V V10) → (TA b a10 V10) → (a ≤ a10) → AW l D b jX5_readAnyOf (fx_rm 11 0 0) none (fx_MQ D b 0 0 (fx_qi (fun r N9 V9 => ((r = 0 ∨ r = 1) ∧ (∃ a9, a ≤ a9 ∧ TA b a9 V9)) ∧ N = N9 ∧ JW D b N [(1, 1, 3, 3), (x + 1, x + 1, 0, 1000000), (x + 2, x + 2, 0, 1000000), (x, x, 2, 2), (1, 1, 4, 4)] V V9))) 10 [some (.ref (b + p)), some (.int 6), none] [] N V10 0 0 := by
      intro m; refine Nat.strongRecOn m ?_
      intro m mih_10_13 a10 V10 hm10 i10_0 i10_1 i10_2
      obtain ⟨⟨ts_10, tn_10, tf_10, te_10⟩, hb_10⟩ := i10_1
      refine aw_aload_n dX5_readAnyOf_10 rfl ?_
      refine aw_get dX5_readAnyOf_11 fl_X5_15 ((i10_0.2.1 _ hp.1 hp.2).trans hR) (by omega) rfl ?_
      refine aw_get dX5_readAnyOf_14 fl_X5_25 te_10 (by omega) rfl ?_
      refine aw_aload_n dX5_readAnyOf_17 rfl ?_
      refine aw_get dX5_readAnyOf_18 fl_X5_15 ((i10_0.2.1 _ hp.1 hp.2).trans hR) (by omega) rfl ?_
      refine aw_get dX5_readAnyOf_21 fl_X5_59 te_10 (by omega) rfl ?_
      refine aw_icmp_ge (tgt := 84) dX5_readAnyOf_24 (by decide) (fun c_14 => ?_) (fun c_14 => ?_)
      · skip
        refine aw_iconst (v := 1) dX5_readAnyOf_84 (by decide) ?_
        refine aw_zreti dX5_readAnyOf_85 rfl (by first | exact Or.inl rfl | exact Or.inr rfl | assumption) (Nat.le_of_ble_eq_true rfl) (Nat.le_of_ble_eq_true rfl) ?_
        exact ⟨⟨(by first | exact Or.inl rfl | exact Or.inr rfl | assumption), ⟨a10, by omega, ⟨⟨_, _, _, te_10⟩, by omega⟩⟩⟩, rfl, i10_0⟩
      · skip
        refine aw_aload_n dX5_readAnyOf_27 rfl ?_
        refine aw_get dX5_readAnyOf_28 fl_X5_15 ((i10_0.2.1 _ hp.1 hp.2).trans hR) (by omega) rfl ?_
        refine aw_callVi (J' := jX10_now) (As := []) (st := []) dX5_readAnyOf_31 tb_390 ok_X10_now ⟨_, te_10⟩ (by omega) rfl rfl (g_X10_now l D b N V10 hN i10_0.1 a10 (⟨⟨_, _, _, te_10⟩, by omega⟩)) rfl (Nat.le_of_ble_eq_true rfl) ⟨Nat.le_of_ble_eq_true rfl, Nat.le_of_ble_eq_true rfl, Nat.le_of_ble_eq_true rfl, Nat.le_of_ble_eq_true rfl⟩ (fun r_17 N_18 V_19 q_20 => ?_)
        obtain ⟨h_16, rfl, rfl⟩ := q_20
        refine aw_bipush (v := 124) dX5_readAnyOf_34 (by decide) ?_
        refine aw_icmp_ne (tgt := 84) dX5_readAnyOf_36 (by decide) (fun c_21 => ?_) (fun c_21 => ?_)
        · skip
          refine aw_iconst (v := 1) dX5_readAnyOf_84 (by decide) ?_
          refine aw_zreti dX5_readAnyOf_85 rfl (by first | exact Or.inl rfl | exact Or.inr rfl | assumption) (Nat.le_of_ble_eq_true rfl) (Nat.le_of_ble_eq_true rfl) ?_
          exact ⟨⟨(by first | exact Or.inl rfl | exact Or.inr rfl | assumption), ⟨a10, by omega, ⟨⟨_, _, _, te_10⟩, by omega⟩⟩⟩, rfl, i10_0⟩
        · skip
          have hlc_21 := h_16.resolve_left (by rw [c_21]; decide)
          refine aw_aload_n dX5_readAnyOf_39 rfl ?_
          refine aw_get dX5_readAnyOf_40 fl_X5_15 ((i10_0.2.1 _ hp.1 hp.2).trans hR) (by omega) rfl ?_
          refine aw_dup dX5_readAnyOf_43 rfl ?_
          refine aw_get dX5_readAnyOf_44 fl_X5_25 te_10 (by omega) rfl ?_
          refine aw_iconst (v := 1) dX5_readAnyOf_47 (by decide) ?_
          refine aw_iadd dX5_readAnyOf_48 ?_
          refine aw_eqi (y := nI (a10 + 1)) (nI_add _ _) ?_
          refine aw_put dX5_readAnyOf_49 fp_X5_25 te_10 (by omega) rfl rfl (Nat.le_of_ble_eq_true rfl) rfl ?_
          refine aw_up i10_0 ct_1 ⟨_, _, _, (a10 + 1), rfl, (by first | omega | (split <;> omega))⟩ (WO (s := 3) (x := .int (nI (a10 + 1))) te_10 rfl LM0 (by decide) (by decide) (by decide) (Or.inl (by decide))) (fun V_22 j_22 k_22 e_22 => ?_)
          refine aw_aload_n dX5_readAnyOf_52 rfl ?_
          refine aw_get dX5_readAnyOf_53 fl_X5_9 ((j_22.2.1 _ hp.1 hp.2).trans hR) (by omega) rfl ?_
          refine aw_bipush (v := 124) dX5_readAnyOf_56 (by decide) ?_
          refine aw_iconst (v := 0) dX5_readAnyOf_58 (by decide) ?_
          obtain ⟨s8_26, r8_26, h8_26, e_26, hs_26, hr_26⟩ := JW.get j_22 (ctl_0 hx)
          refine aw_callVi (J' := jX4_add) (As := [.int 124, .int 0]) (st := []) dX5_readAnyOf_59 tb_415 ok_X4_add ⟨_, e_26⟩ (by omega) rfl rfl (g_X4_add l D b N V_22 hN j_22.1 x hx 124 0 (by decide)) rfl (Nat.le_of_ble_eq_true rfl) ⟨Nat.le_of_ble_eq_true rfl, Nat.le_of_ble_eq_true rfl, Nat.le_of_ble_eq_true rfl, Nat.le_of_ble_eq_true rfl⟩ (fun r_27 N_28 V_25 q_29 => ?_)
          obtain ⟨rfl, q_23⟩ := q_29
          have j_24 := JW.trans j_22 (JW.weak q_23 (Sub.cons (LMs LM0) (by omega) (by omega) (by decide) (Or.inl rfl) (Sub.cons (LMs (LMs LM0)) (by omega) (by omega) (by decide) (Or.inl rfl) (Sub.cons (LMs (LMs (LMs LM0))) (by omega) (by omega) (by decide) (Or.inr ⟨by decide, by decide⟩) Sub.nil))))
          refine aw_istore_n (ls' := [some (.ref (b + p)), some (.int 6), some (.int r_27)]) dX5_readAnyOf_62 (Nat.le_of_ble_eq_true rfl) rfl ?_
          refine aw_aload_n dX5_readAnyOf_63 rfl ?_
          refine aw_iload_n dX5_readAnyOf_64 rfl ?_
          refine aw_callVi (J' := jX5_readAllOf) (As := [.int 6]) (st := []) dX5_readAnyOf_65 tb_505 ok_X5_readAllOf ⟨_, ((j_24.2.1 _ hp.1 hp.2).trans hR)⟩ (by omega) rfl rfl (g_X5_readAllOf_6 l D b N V_25 hN j_24.1 p x ⟨by omega, by omega⟩ hx ((j_24.2.1 _ hp.1 hp.2).trans hR) (a10 + 1) (⟨⟨_, _, _, ((JW.same q_23 (by decide) (fun k => (nfc (by omega) (nfc (by omega) (nfc (by omega) nf0))))).trans e_22)⟩, by omega⟩)) rfl (Nat.le_of_ble_eq_true rfl) ⟨Nat.le_of_ble_eq_true rfl, Nat.le_of_ble_eq_true rfl, Nat.le_of_ble_eq_true rfl, Nat.le_of_ble_eq_true rfl⟩ (fun r_38 N_39 V_34 q_40 => ?_)
          obtain ⟨⟨z_32, h_31⟩, rfl, q_30⟩ := q_40
          have j_33 := JW.trans j_24 (JW.weak q_30 (Sub.cons LM0 (by decide) (by decide) (by decide) (Or.inr ⟨by decide, by decide⟩) (Sub.cons (LMs LM0) (by omega) (by omega) (by decide) (Or.inl rfl) (Sub.cons (LMs (LMs LM0)) (by omega) (by omega) (by decide) (Or.inl rfl) (Sub.cons (LMs (LMs (LMs LM0))) (by omega) (by omega) (by decide) (Or.inr ⟨by decide, by decide⟩) (Sub.cons (LMs (LMs (LMs (LMs LM0)))) (by decide) (by decide) (by decide) (Or.inr ⟨by decide, by decide⟩) Sub.nil))))))
          obtain ⟨a_35, ha_36, ⟨ts_t_37, tn_t_37, tf_t_37, te_t_37⟩, hb_t_37⟩ := h_31
          refine aw_if_ne (tgt := 73) dX5_readAnyOf_68 (by decide) (fun c_41 => ?_) (fun c_41 => ?_)
          · skip
            refine aw_aload_n dX5_readAnyOf_73 rfl ?_
            refine aw_get dX5_readAnyOf_74 fl_X5_9 ((j_33.2.1 _ hp.1 hp.2).trans hR) (by omega) rfl ?_
            refine aw_iload_n dX5_readAnyOf_77 rfl ?_
            obtain ⟨s8_45, r8_45, h8_45, e_45, hs_45, hr_45⟩ := JW.get j_33 (ctl_0 hx)
            refine aw_callVv (J' := jX4_leadHere) (As := [.int r_27]) (st := []) dX5_readAnyOf_78 tb_521 ok_X4_leadHere ⟨_, e_45⟩ (by omega) rfl rfl (g_X4_leadHere l D b N V_34 hN j_33.1 x hx r_27) rfl (Nat.le_of_ble_eq_true rfl) ⟨Nat.le_of_ble_eq_true rfl, Nat.le_of_ble_eq_true rfl, Nat.le_of_ble_eq_true rfl, Nat.le_of_ble_eq_true rfl⟩ (fun  N_46 V_44 q_47 => ?_)
            obtain ⟨rfl, q_42⟩ := q_47
            have j_43 := JW.trans j_33 (JW.weak q_42 (Sub.cons (LMs (LMs LM0)) (by omega) (by omega) (by decide) (Or.inl rfl) Sub.nil))
            refine aw_goto (tgt := 10) dX5_readAnyOf_81 (by decide) ?_
            refine aw_le ?_ (mih_10_13 _ (by omega) a_35 V_44 rfl (j_43) (⟨⟨_, _, _, ((JW.same q_42 (by decide) (fun k => (nfc (by omega) nf0))).trans te_t_37)⟩, by omega⟩) (by omega))
            exact ⟨rfl, ⟨rfl, trivial⟩⟩
          · skip
            refine aw_iconst (v := 0) dX5_readAnyOf_71 (by decide) ?_
            refine aw_zreti dX5_readAnyOf_72 rfl (by first | exact Or.inl rfl | exact Or.inr rfl | assumption) (Nat.le_of_ble_eq_true rfl) (Nat.le_of_ble_eq_true rfl) ?_
            exact ⟨⟨(by first | exact Or.inl rfl | exact Or.inr rfl | assumption), ⟨a_35, by omega, ⟨⟨_, _, _, te_t_37⟩, by omega⟩⟩⟩, rfl, j_33⟩
    refine aw_le ?_ (ml_10_13 _ a_6 V_5 rfl (j_4) (⟨⟨_, _, _, te_t_8⟩, by omega⟩) (by omega))
    exact ⟨rfl, ⟨rfl, trivial⟩⟩
  · skip
    refine aw_iconst (v := 0) dX5_readAnyOf_8 (by decide) ?_
    refine aw_zreti dX5_readAnyOf_9 rfl (by first | exact Or.inl rfl | exact Or.inr rfl | assumption) (Nat.le_of_ble_eq_true rfl) (Nat.le_of_ble_eq_true rfl) ?_
    exact ⟨⟨(by first | exact Or.inl rfl | exact Or.inr rfl | assumption), ⟨a_6, by omega, ⟨⟨_, _, _, te_t_8⟩, by omega⟩⟩⟩, rfl, j_4⟩

set_option maxHeartbeats 4000000 in
set_option maxRecDepth 100000 in
theorem g_X5_open_5 (l : Launch) (D : va_G) (b : Nat) (N : Nat) (V : Wd) (hN : 100 ≤ N) (hW : CW D b V) (p x : Nat) (hp : 100 ≤ p ∧ p < N) (hx : x = 57 ∨ x = 65) (hR : V p = cO 5 [.ref (b + 1), .ref (b + x)]) (a : Nat) (hT : TA b a V) (hlt : a < 260) : MI l D b 1 jX5_open [.ref (b + p), .int 5] N V 0 0 (fun r N9 V9 => ((r = 0 ∨ r = 1) ∧ ((r = 1) ∧ ∃ a9, a ≤ a9 ∧ TA b a9 V9)) ∧ N = N9 ∧ JW D b N [(1, 1, 3, 3)] V V9) := by
  have hJ0 : JW D b N [(1, 1, 3, 3)] V V := JW.rf hW
  obtain ⟨⟨ts_0, tn_0, tf_0, te_0⟩, ha_0⟩ := id hT
  refine mw_of (by decide) (by simp [Value.category]) (Nat.le_of_ble_eq_true rfl) ?_
  show AW l D b jX5_open (fx_rm 1 0 0) none (fx_MQ D b 0 0 (fx_qi (fun r N9 V9 => ((r = 0 ∨ r = 1) ∧ ((r = 1) ∧ ∃ a9, a ≤ a9 ∧ TA b a9 V9)) ∧ N = N9 ∧ JW D b N [(1, 1, 3, 3)] V V9))) 0 [some (.ref (b + p)), some (.int 5)] [] N V 0 0
  refine aw_iload_n dX5_open_0 rfl ?_
  refine aw_bipush (v := 6) dX5_open_1 (by decide) ?_
  refine aw_icmp_lt (tgt := 22) dX5_open_3 (by decide) (fun c_1 => ?_) (fun c_1 => ?_)
  rotate_left
  · exact absurd (by decide) c_1
  refine aw_aload_n dX5_open_22 rfl ?_
  refine aw_get dX5_open_23 fl_X5_15 ((hJ0.2.1 _ hp.1 hp.2).trans hR) (by omega) rfl ?_
  refine aw_dup dX5_open_26 rfl ?_
  refine aw_get dX5_open_27 fl_X5_25 te_0 (by omega) rfl ?_
  refine aw_iconst (v := 1) dX5_open_30 (by decide) ?_
  refine aw_iadd dX5_open_31 ?_
  refine aw_eqi (y := nI (a + 1)) (nI_add _ _) ?_
  refine aw_put dX5_open_32 fp_X5_25 te_0 (by omega) rfl rfl (Nat.le_of_ble_eq_true rfl) rfl ?_
  refine aw_up hJ0 ct_1 ⟨_, _, _, (a + 1), rfl, (by first | omega | (split <;> omega))⟩ (WO (s := 3) (x := .int (nI (a + 1))) te_0 rfl LM0 (by decide) (by decide) (by decide) (Or.inl (by decide))) (fun V_2 j_2 k_2 e_2 => ?_)
  refine aw_iconst (v := 1) dX5_open_35 (by decide) ?_
  refine aw_zreti dX5_open_36 rfl (by first | exact Or.inl rfl | exact Or.inr rfl | assumption) (Nat.le_of_ble_eq_true rfl) (Nat.le_of_ble_eq_true rfl) ?_
  exact ⟨⟨(by first | exact Or.inl rfl | exact Or.inr rfl | assumption), ⟨rfl, ⟨(a + 1), by omega, ⟨⟨_, _, _, e_2⟩, by omega⟩⟩⟩⟩, rfl, j_2⟩

set_option maxHeartbeats 4000000 in
set_option maxRecDepth 100000 in
theorem g_X5_readFactor_5 (l : Launch) (D : va_G) (b : Nat) (N : Nat) (V : Wd) (hN : 100 ≤ N) (hW : CW D b V) (p x : Nat) (hp : 100 ≤ p ∧ p < N) (hx : x = 57 ∨ x = 65) (hR : V p = cO 5 [.ref (b + 1), .ref (b + x)]) (a : Nat) (hT : TA b a V) : MI l D b 8 jX5_readFactor [.ref (b + p), .int 5] N V 0 0 (fun r N9 V9 => ((r = 0 ∨ r = 1) ∧ (∃ a9, a ≤ a9 ∧ TA b a9 V9)) ∧ N = N9 ∧ JW D b N [(1, 1, 3, 3), (x + 1, x + 1, 0, 1000000), (x + 2, x + 2, 0, 1000000), (x, x, 2, 2), (1, 1, 4, 4)] V V9) := by
  have hJ0 : JW D b N [(1, 1, 3, 3), (x + 1, x + 1, 0, 1000000), (x + 2, x + 2, 0, 1000000), (x, x, 2, 2), (1, 1, 4, 4)] V V := JW.rf hW
  obtain ⟨⟨ts_0, tn_0, tf_0, te_0⟩, ha_0⟩ := id hT
  refine mw_of (by decide) (by simp [Value.category]) (Nat.le_of_ble_eq_true rfl) ?_
  show AW l D b jX5_readFactor (fx_rm 8 0 0) none (fx_MQ D b 0 0 (fx_qi (fun r N9 V9 => ((r = 0 ∨ r = 1) ∧ (∃ a9, a ≤ a9 ∧ TA b a9 V9)) ∧ N = N9 ∧ JW D b N [(1, 1, 3, 3), (x + 1, x + 1, 0, 1000000), (x + 2, x + 2, 0, 1000000), (x, x, 2, 2), (1, 1, 4, 4)] V V9))) 0 [some (.ref (b + p)), some (.int 5), none, none] [] N V 0 0
  refine aw_aload_n dX5_readFactor_0 rfl ?_
  refine aw_get dX5_readFactor_1 fl_X5_15 ((hJ0.2.1 _ hp.1 hp.2).trans hR) (by omega) rfl ?_
  refine aw_callVi (J' := jX10_now) (As := []) (st := []) dX5_readFactor_4 tb_390 ok_X10_now ⟨_, te_0⟩ (by omega) rfl rfl (g_X10_now l D b N V hN hJ0.1 a (⟨⟨_, _, _, te_0⟩, by omega⟩)) rfl (Nat.le_of_ble_eq_true rfl) ⟨Nat.le_of_ble_eq_true rfl, Nat.le_of_ble_eq_true rfl, Nat.le_of_ble_eq_true rfl, Nat.le_of_ble_eq_true rfl⟩ (fun r_3 N_4 V_5 q_6 => ?_)
  obtain ⟨h_2, rfl, rfl⟩ := q_6
  refine aw_istore_n (ls' := [some (.ref (b + p)), some (.int 5), some (.int r_3), none]) dX5_readFactor_7 (Nat.le_of_ble_eq_true rfl) rfl ?_
  refine aw_iload_n dX5_readFactor_8 rfl ?_
  refine aw_bipush (v := 91) dX5_readFactor_9 (by decide) ?_
  refine aw_icmp_ne (tgt := 50) dX5_readFactor_11 (by decide) (fun c_7 => ?_) (fun c_7 => ?_)
  · skip
    refine aw_iload_n dX5_readFactor_50 rfl ?_
    refine aw_callSi (J' := jX10_isDigit) (As := [.int r_3]) (st := []) dX5_readFactor_51 tb_413 ok_X10_isDigit rfl (g_X10_isDigit l D b N V hN hJ0.1 r_3) rfl (Nat.le_of_ble_eq_true rfl) ⟨Nat.le_of_ble_eq_true rfl, Nat.le_of_ble_eq_true rfl, Nat.le_of_ble_eq_true rfl, Nat.le_of_ble_eq_true rfl⟩ (fun r_11 N_12 V_13 q_14 => ?_)
    obtain ⟨⟨z_10, h_9⟩, rfl, rfl⟩ := q_14
    refine aw_if_eq (tgt := 85) dX5_readFactor_54 (by decide) (fun c_15 => ?_) (fun c_15 => ?_)
    · skip
      refine aw_iload_n dX5_readFactor_85 rfl ?_
      refine aw_if_ge (tgt := 93) dX5_readFactor_86 (by decide) (fun c_16 => ?_) (fun c_16 => ?_)
      · skip
        have hlc_16 := h_2.resolve_left (fun z => absurd c_16 (by rw [z]; decide))
        refine aw_strIdx rfl dX5_readFactor_93 dX5_readFactor_95 dX5_readFactor_96 dX5_readFactor_97 rfl rfl (Nat.le_of_ble_eq_true rfl) ⟨Nat.le_of_ble_eq_true rfl, Nat.le_of_ble_eq_true rfl, Nat.le_of_ble_eq_true rfl, Nat.le_of_ble_eq_true rfl⟩ (fun ixr => ?_)
        refine aw_istore_n (ls' := [some (.ref (b + p)), some (.int 5), some (.int r_3), some (.int ixr)]) dX5_readFactor_100 (Nat.le_of_ble_eq_true rfl) rfl ?_
        refine aw_iload_n dX5_readFactor_101 rfl ?_
        refine aw_if_ge (tgt := 113) dX5_readFactor_102 (by decide) (fun c_17 => ?_) (fun c_17 => ?_)
        · skip
          refine aw_aload_n dX5_readFactor_113 rfl ?_
          refine aw_get dX5_readFactor_114 fl_X5_15 ((hJ0.2.1 _ hp.1 hp.2).trans hR) (by omega) rfl ?_
          refine aw_dup dX5_readFactor_117 rfl ?_
          refine aw_get dX5_readFactor_118 fl_X5_25 te_0 (by omega) rfl ?_
          refine aw_iconst (v := 1) dX5_readFactor_121 (by decide) ?_
          refine aw_iadd dX5_readFactor_122 ?_
          refine aw_eqi (y := nI (a + 1)) (nI_add _ _) ?_
          refine aw_put dX5_readFactor_123 fp_X5_25 te_0 (by omega) rfl rfl (Nat.le_of_ble_eq_true rfl) rfl ?_
          refine aw_up hJ0 ct_1 ⟨_, _, _, (a + 1), rfl, (by first | omega | (split <;> omega))⟩ (WO (s := 3) (x := .int (nI (a + 1))) te_0 rfl LM0 (by decide) (by decide) (by decide) (Or.inl (by decide))) (fun V_18 j_18 k_18 e_18 => ?_)
          refine aw_aload_n dX5_readFactor_126 rfl ?_
          refine aw_get dX5_readFactor_127 fl_X5_9 ((j_18.2.1 _ hp.1 hp.2).trans hR) (by omega) rfl ?_
          refine aw_bipush (v := 64) dX5_readFactor_130 (by decide) ?_
          refine aw_iload_n dX5_readFactor_132 rfl ?_
          obtain ⟨s8_22, r8_22, h8_22, e_22, hs_22, hr_22⟩ := JW.get j_18 (ctl_0 hx)
          refine aw_callVi (J' := jX4_add) (As := [.int 64, .int ixr]) (st := []) dX5_readFactor_133 tb_415 ok_X4_add ⟨_, e_22⟩ (by omega) rfl rfl (g_X4_add l D b N V_18 hN j_18.1 x hx 64 ixr c_17) rfl (Nat.le_of_ble_eq_true rfl) ⟨Nat.le_of_ble_eq_true rfl, Nat.le_of_ble_eq_true rfl, Nat.le_of_ble_eq_true rfl, Nat.le_of_ble_eq_true rfl⟩ (fun r_23 N_24 V_21 q_25 => ?_)
          obtain ⟨rfl, q_19⟩ := q_25
          have j_20 := JW.trans j_18 (JW.weak q_19 (Sub.cons (LMs LM0) (by omega) (by omega) (by decide) (Or.inl rfl) (Sub.cons (LMs (LMs LM0)) (by omega) (by omega) (by decide) (Or.inl rfl) (Sub.cons (LMs (LMs (LMs LM0))) (by omega) (by omega) (by decide) (Or.inr ⟨by decide, by decide⟩) Sub.nil))))
          refine aw_pop dX5_readFactor_136 rfl ?_
          refine aw_iconst (v := 1) dX5_readFactor_137 (by decide) ?_
          refine aw_zreti dX5_readFactor_138 rfl (by first | exact Or.inl rfl | exact Or.inr rfl | assumption) (Nat.le_of_ble_eq_true rfl) (Nat.le_of_ble_eq_true rfl) ?_
          exact ⟨⟨(by first | exact Or.inl rfl | exact Or.inr rfl | assumption), ⟨(a + 1), by omega, ⟨⟨_, _, _, ((JW.same q_19 (by decide) (fun k => (nfc (by omega) (nfc (by omega) (nfc (by omega) nf0))))).trans e_18)⟩, by omega⟩⟩⟩, rfl, j_20⟩
        · skip
          refine aw_aload_n dX5_readFactor_105 rfl ?_
          refine aw_get dX5_readFactor_106 fl_X5_15 ((hJ0.2.1 _ hp.1 hp.2).trans hR) (by omega) rfl ?_
          refine aw_callVi (J' := jX10_cannotStand) (As := []) (st := []) dX5_readFactor_109 tb_493 ok_X10_cannotStand ⟨_, te_0⟩ (by omega) rfl rfl (g_X10_cannotStand l D b N V hN hJ0.1 a (⟨⟨_, _, _, te_0⟩, by omega⟩)) rfl (Nat.le_of_ble_eq_true rfl) ⟨Nat.le_of_ble_eq_true rfl, Nat.le_of_ble_eq_true rfl, Nat.le_of_ble_eq_true rfl, Nat.le_of_ble_eq_true rfl⟩ (fun r_35 N_36 V_30 q_37 => ?_)
          obtain ⟨⟨z_28, h_27⟩, rfl, q_26⟩ := q_37
          have j_29 := JW.trans hJ0 (JW.weak q_26 (Sub.cons (LMs (LMs (LMs (LMs LM0)))) (by decide) (by decide) (by decide) (Or.inr ⟨by decide, by decide⟩) Sub.nil))
          obtain ⟨h_34, a_31, ha_32, ⟨ts_t_33, tn_t_33, tf_t_33, te_t_33⟩, hb_t_33⟩ := h_27
          obtain rfl := h_34
          refine aw_zreti dX5_readFactor_112 rfl (by first | exact Or.inl rfl | exact Or.inr rfl | assumption) (Nat.le_of_ble_eq_true rfl) (Nat.le_of_ble_eq_true rfl) ?_
          exact ⟨⟨(by first | exact Or.inl rfl | exact Or.inr rfl | assumption), ⟨a_31, by omega, ⟨⟨_, _, _, te_t_33⟩, by omega⟩⟩⟩, rfl, j_29⟩
      · skip
        refine aw_iconst (v := (-1)) dX5_readFactor_89 (by decide) ?_
        refine aw_goto (tgt := 100) dX5_readFactor_90 (by decide) ?_
        refine aw_istore_n (ls' := [some (.ref (b + p)), some (.int 5), some (.int r_3), some (.int (-1))]) dX5_readFactor_100 (Nat.le_of_ble_eq_true rfl) rfl ?_
        refine aw_iload_n dX5_readFactor_101 rfl ?_
        refine aw_if_ge (tgt := 113) dX5_readFactor_102 (by decide) (fun c_38 => ?_) (fun c_38 => ?_)
        · exact absurd c_38 (by decide)
        refine aw_aload_n dX5_readFactor_105 rfl ?_
        refine aw_get dX5_readFactor_106 fl_X5_15 ((hJ0.2.1 _ hp.1 hp.2).trans hR) (by omega) rfl ?_
        refine aw_callVi (J' := jX10_cannotStand) (As := []) (st := []) dX5_readFactor_109 tb_493 ok_X10_cannotStand ⟨_, te_0⟩ (by omega) rfl rfl (g_X10_cannotStand l D b N V hN hJ0.1 a (⟨⟨_, _, _, te_0⟩, by omega⟩)) rfl (Nat.le_of_ble_eq_true rfl) ⟨Nat.le_of_ble_eq_true rfl, Nat.le_of_ble_eq_true rfl, Nat.le_of_ble_eq_true rfl, Nat.le_of_ble_eq_true rfl⟩ (fun r_48 N_49 V_43 q_50 => ?_)
        obtain ⟨⟨z_41, h_40⟩, rfl, q_39⟩ := q_50
        have j_42 := JW.trans hJ0 (JW.weak q_39 (Sub.cons (LMs (LMs (LMs (LMs LM0)))) (by decide) (by decide) (by decide) (Or.inr ⟨by decide, by decide⟩) Sub.nil))
        obtain ⟨h_47, a_44, ha_45, ⟨ts_t_46, tn_t_46, tf_t_46, te_t_46⟩, hb_t_46⟩ := h_40
        obtain rfl := h_47
        refine aw_zreti dX5_readFactor_112 rfl (by first | exact Or.inl rfl | exact Or.inr rfl | assumption) (Nat.le_of_ble_eq_true rfl) (Nat.le_of_ble_eq_true rfl) ?_
        exact ⟨⟨(by first | exact Or.inl rfl | exact Or.inr rfl | assumption), ⟨a_44, by omega, ⟨⟨_, _, _, te_t_46⟩, by omega⟩⟩⟩, rfl, j_42⟩
    · skip
      have h0c_15 := h_9.resolve_left c_15
      have hlc_15 := h_2.resolve_left (fun z => absurd h0c_15 (by rw [z]; decide))
      refine aw_aload_n dX5_readFactor_57 rfl ?_
      refine aw_get dX5_readFactor_58 fl_X5_15 ((hJ0.2.1 _ hp.1 hp.2).trans hR) (by omega) rfl ?_
      refine aw_iconst (v := 5) dX5_readFactor_61 (by decide) ?_
      refine aw_callVi (J' := jX10_readNumber) (As := [.int 5]) (st := []) dX5_readFactor_62 tb_414 ok_X10_readNumber ⟨_, te_0⟩ (by omega) rfl rfl (g_X10_readNumber l D b N V hN hJ0.1 5 a (⟨⟨_, _, _, te_0⟩, by omega⟩)) rfl (Nat.le_of_ble_eq_true rfl) ⟨Nat.le_of_ble_eq_true rfl, Nat.le_of_ble_eq_true rfl, Nat.le_of_ble_eq_true rfl, Nat.le_of_ble_eq_true rfl⟩ (fun r_58 N_59 V_54 q_60 => ?_)
      obtain ⟨h_52, rfl, q_51⟩ := q_60
      have j_53 := JW.trans hJ0 (JW.weak q_51 (Sub.cons LM0 (by decide) (by decide) (by decide) (Or.inr ⟨by decide, by decide⟩) (Sub.cons (LMs (LMs (LMs (LMs LM0)))) (by decide) (by decide) (by decide) (Or.inr ⟨by decide, by decide⟩) Sub.nil)))
      obtain ⟨a_55, ha_56, ⟨ts_t_57, tn_t_57, tf_t_57, te_t_57⟩, hb_t_57⟩ := h_52
      refine aw_istore_n (ls' := [some (.ref (b + p)), some (.int 5), some (.int r_3), some (.int r_58)]) dX5_readFactor_65 (Nat.le_of_ble_eq_true rfl) rfl ?_
      refine aw_iload_n dX5_readFactor_66 rfl ?_
      refine aw_if_ge (tgt := 72) dX5_readFactor_67 (by decide) (fun c_61 => ?_) (fun c_61 => ?_)
      · skip
        refine aw_aload_n dX5_readFactor_72 rfl ?_
        refine aw_get dX5_readFactor_73 fl_X5_9 ((j_53.2.1 _ hp.1 hp.2).trans hR) (by omega) rfl ?_
        refine aw_bipush (v := 35) dX5_readFactor_76 (by decide) ?_
        refine aw_iload_n dX5_readFactor_78 rfl ?_
        obtain ⟨s8_65, r8_65, h8_65, e_65, hs_65, hr_65⟩ := JW.get j_53 (ctl_0 hx)
        refine aw_callVi (J' := jX4_add) (As := [.int 35, .int r_58]) (st := []) dX5_readFactor_79 tb_415 ok_X4_add ⟨_, e_65⟩ (by omega) rfl rfl (g_X4_add l D b N V_54 hN j_53.1 x hx 35 r_58 c_61) rfl (Nat.le_of_ble_eq_true rfl) ⟨Nat.le_of_ble_eq_true rfl, Nat.le_of_ble_eq_true rfl, Nat.le_of_ble_eq_true rfl, Nat.le_of_ble_eq_true rfl⟩ (fun r_66 N_67 V_64 q_68 => ?_)
        obtain ⟨rfl, q_62⟩ := q_68
        have j_63 := JW.trans j_53 (JW.weak q_62 (Sub.cons (LMs LM0) (by omega) (by omega) (by decide) (Or.inl rfl) (Sub.cons (LMs (LMs LM0)) (by omega) (by omega) (by decide) (Or.inl rfl) (Sub.cons (LMs (LMs (LMs LM0))) (by omega) (by omega) (by decide) (Or.inr ⟨by decide, by decide⟩) Sub.nil))))
        refine aw_pop dX5_readFactor_82 rfl ?_
        refine aw_iconst (v := 1) dX5_readFactor_83 (by decide) ?_
        refine aw_zreti dX5_readFactor_84 rfl (by first | exact Or.inl rfl | exact Or.inr rfl | assumption) (Nat.le_of_ble_eq_true rfl) (Nat.le_of_ble_eq_true rfl) ?_
        exact ⟨⟨(by first | exact Or.inl rfl | exact Or.inr rfl | assumption), ⟨a_55, by omega, ⟨⟨_, _, _, ((JW.same q_62 (by decide) (fun k => (nfc (by omega) (nfc (by omega) (nfc (by omega) nf0))))).trans te_t_57)⟩, by omega⟩⟩⟩, rfl, j_63⟩
      · skip
        refine aw_iconst (v := 0) dX5_readFactor_70 (by decide) ?_
        refine aw_zreti dX5_readFactor_71 rfl (by first | exact Or.inl rfl | exact Or.inr rfl | assumption) (Nat.le_of_ble_eq_true rfl) (Nat.le_of_ble_eq_true rfl) ?_
        exact ⟨⟨(by first | exact Or.inl rfl | exact Or.inr rfl | assumption), ⟨a_55, by omega, ⟨⟨_, _, _, te_t_57⟩, by omega⟩⟩⟩, rfl, j_53⟩
  · skip
    have hlc_7 := h_2.resolve_left (by rw [c_7]; decide)
    refine aw_aload_n dX5_readFactor_14 rfl ?_
    refine aw_iload_n dX5_readFactor_15 rfl ?_
    refine aw_callVi (J' := jX5_open) (As := [.int 5]) (st := []) dX5_readFactor_16 tb_407 ok_X5_open ⟨_, ((hJ0.2.1 _ hp.1 hp.2).trans hR)⟩ (by omega) rfl rfl (g_X5_open_5 l D b N V hN hJ0.1 p x ⟨by omega, by omega⟩ hx ((hJ0.2.1 _ hp.1 hp.2).trans hR) a (⟨⟨_, _, _, te_0⟩, by omega⟩) (by omega)) rfl (Nat.le_of_ble_eq_true rfl) ⟨Nat.le_of_ble_eq_true rfl, Nat.le_of_ble_eq_true rfl, Nat.le_of_ble_eq_true rfl, Nat.le_of_ble_eq_true rfl⟩ (fun r_78 N_79 V_73 q_80 => ?_)
    obtain ⟨⟨z_71, h_70⟩, rfl, q_69⟩ := q_80
    have j_72 := JW.trans hJ0 (JW.weak q_69 (Sub.cons LM0 (by decide) (by decide) (by decide) (Or.inr ⟨by decide, by decide⟩) Sub.nil))
    obtain ⟨h_77, a_74, ha_75, ⟨ts_t_76, tn_t_76, tf_t_76, te_t_76⟩, hb_t_76⟩ := h_70
    obtain rfl := h_77
    refine aw_if_eq (tgt := 48) dX5_readFactor_19 (by decide) (fun c_81 => ?_) (fun c_81 => ?_)
    · exact absurd c_81 (by decide)
    refine aw_aload_n dX5_readFactor_22 rfl ?_
    refine aw_iload_n dX5_readFactor_23 rfl ?_
    refine aw_iconst (v := 1) dX5_readFactor_24 (by decide) ?_
    refine aw_iadd dX5_readFactor_25 ?_
    refine aw_eqi (y := 6) (by decide) ?_
    refine aw_callVi (J' := jX5_readSum) (As := [.int 6]) (st := []) dX5_readFactor_26 tb_395 ok_X5_readSum ⟨_, ((j_72.2.1 _ hp.1 hp.2).trans hR)⟩ (by omega) rfl rfl (g_X5_readSum_6 l D b N V_73 hN j_72.1 p x ⟨by omega, by omega⟩ hx ((j_72.2.1 _ hp.1 hp.2).trans hR) a_74 (⟨⟨_, _, _, te_t_76⟩, by omega⟩)) rfl (Nat.le_of_ble_eq_true rfl) ⟨Nat.le_of_ble_eq_true rfl, Nat.le_of_ble_eq_true rfl, Nat.le_of_ble_eq_true rfl, Nat.le_of_ble_eq_true rfl⟩ (fun r_90 N_91 V_86 q_92 => ?_)
    obtain ⟨⟨z_84, h_83⟩, rfl, q_82⟩ := q_92
    have j_85 := JW.trans j_72 (JW.weak q_82 (Sub.cons LM0 (by decide) (by decide) (by decide) (Or.inr ⟨by decide, by decide⟩) (Sub.cons (LMs LM0) (by omega) (by omega) (by decide) (Or.inl rfl) (Sub.cons (LMs (LMs LM0)) (by omega) (by omega) (by decide) (Or.inl rfl) (Sub.cons (LMs (LMs (LMs LM0))) (by omega) (by omega) (by decide) (Or.inr ⟨by decide, by decide⟩) (Sub.cons (LMs (LMs (LMs (LMs LM0)))) (by decide) (by decide) (by decide) (Or.inr ⟨by decide, by decide⟩) Sub.nil))))))
    obtain ⟨a_87, ha_88, ⟨ts_t_89, tn_t_89, tf_t_89, te_t_89⟩, hb_t_89⟩ := h_83
    refine aw_if_eq (tgt := 48) dX5_readFactor_29 (by decide) (fun c_93 => ?_) (fun c_93 => ?_)
    · skip
      refine aw_iconst (v := 0) dX5_readFactor_48 (by decide) ?_
      refine aw_zreti dX5_readFactor_49 rfl (by first | exact Or.inl rfl | exact Or.inr rfl | assumption) (Nat.le_of_ble_eq_true rfl) (Nat.le_of_ble_eq_true rfl) ?_
      exact ⟨⟨(by first | exact Or.inl rfl | exact Or.inr rfl | assumption), ⟨a_87, by omega, ⟨⟨_, _, _, te_t_89⟩, by omega⟩⟩⟩, rfl, j_85⟩
    · skip
      refine aw_aload_n dX5_readFactor_32 rfl ?_
      refine aw_get dX5_readFactor_33 fl_X5_15 ((j_85.2.1 _ hp.1 hp.2).trans hR) (by omega) rfl ?_
      refine aw_bipush (v := 93) dX5_readFactor_36 (by decide) ?_
      refine aw_callVi (J' := jX10_expect) (As := [.int 93]) (st := []) dX5_readFactor_38 tb_412 ok_X10_expect ⟨_, te_t_89⟩ (by omega) rfl rfl (g_X10_expect l D b N V_86 hN j_85.1 93 a_87 (⟨⟨_, _, _, te_t_89⟩, by omega⟩) (by decide)) rfl (Nat.le_of_ble_eq_true rfl) ⟨Nat.le_of_ble_eq_true rfl, Nat.le_of_ble_eq_true rfl, Nat.le_of_ble_eq_true rfl, Nat.le_of_ble_eq_true rfl⟩ (fun r_102 N_103 V_98 q_104 => ?_)
      obtain ⟨⟨z_96, h_95⟩, rfl, q_94⟩ := q_104
      have j_97 := JW.trans j_85 (JW.weak q_94 (Sub.cons LM0 (by decide) (by decide) (by decide) (Or.inr ⟨by decide, by decide⟩) (Sub.cons (LMs (LMs (LMs (LMs LM0)))) (by decide) (by decide) (by decide) (Or.inr ⟨by decide, by decide⟩) Sub.nil)))
      obtain ⟨a_99, ha_100, ⟨ts_t_101, tn_t_101, tf_t_101, te_t_101⟩, hb_t_101⟩ := h_95
      refine aw_if_eq (tgt := 48) dX5_readFactor_41 (by decide) (fun c_105 => ?_) (fun c_105 => ?_)
      · skip
        refine aw_iconst (v := 0) dX5_readFactor_48 (by decide) ?_
        refine aw_zreti dX5_readFactor_49 rfl (by first | exact Or.inl rfl | exact Or.inr rfl | assumption) (Nat.le_of_ble_eq_true rfl) (Nat.le_of_ble_eq_true rfl) ?_
        exact ⟨⟨(by first | exact Or.inl rfl | exact Or.inr rfl | assumption), ⟨a_99, by omega, ⟨⟨_, _, _, te_t_101⟩, by omega⟩⟩⟩, rfl, j_97⟩
      · skip
        refine aw_iconst (v := 1) dX5_readFactor_44 (by decide) ?_
        refine aw_goto (tgt := 49) dX5_readFactor_45 (by decide) ?_
        refine aw_zreti dX5_readFactor_49 rfl (by first | exact Or.inl rfl | exact Or.inr rfl | assumption) (Nat.le_of_ble_eq_true rfl) (Nat.le_of_ble_eq_true rfl) ?_
        exact ⟨⟨(by first | exact Or.inl rfl | exact Or.inr rfl | assumption), ⟨a_99, by omega, ⟨⟨_, _, _, te_t_101⟩, by omega⟩⟩⟩, rfl, j_97⟩

set_option maxHeartbeats 4000000 in
set_option maxRecDepth 100000 in
theorem g_X5_readProduct_5 (l : Launch) (D : va_G) (b : Nat) (N : Nat) (V : Wd) (hN : 100 ≤ N) (hW : CW D b V) (p x : Nat) (hp : 100 ≤ p ∧ p < N) (hx : x = 57 ∨ x = 65) (hR : V p = cO 5 [.ref (b + 1), .ref (b + x)]) (a : Nat) (hT : TA b a V) : MI l D b 9 jX5_readProduct [.ref (b + p), .int 5] N V 0 0 (fun r N9 V9 => ((r = 0 ∨ r = 1) ∧ (∃ a9, a ≤ a9 ∧ TA b a9 V9)) ∧ N = N9 ∧ JW D b N [(1, 1, 3, 3), (x + 1, x + 1, 0, 1000000), (x + 2, x + 2, 0, 1000000), (x, x, 2, 2), (1, 1, 4, 4)] V V9) := by
  have hJ0 : JW D b N [(1, 1, 3, 3), (x + 1, x + 1, 0, 1000000), (x + 2, x + 2, 0, 1000000), (x, x, 2, 2), (1, 1, 4, 4)] V V := JW.rf hW
  obtain ⟨⟨ts_0, tn_0, tf_0, te_0⟩, ha_0⟩ := id hT
  refine mw_of (by decide) (by simp [Value.category]) (Nat.le_of_ble_eq_true rfl) ?_
  show AW l D b jX5_readProduct (fx_rm 9 0 0) none (fx_MQ D b 0 0 (fx_qi (fun r N9 V9 => ((r = 0 ∨ r = 1) ∧ (∃ a9, a ≤ a9 ∧ TA b a9 V9)) ∧ N = N9 ∧ JW D b N [(1, 1, 3, 3), (x + 1, x + 1, 0, 1000000), (x + 2, x + 2, 0, 1000000), (x, x, 2, 2), (1, 1, 4, 4)] V V9))) 0 [some (.ref (b + p)), some (.int 5), none] [] N V 0 0
  refine aw_aload_n dX5_readProduct_0 rfl ?_
  refine aw_iload_n dX5_readProduct_1 rfl ?_
  refine aw_callVi (J' := jX5_readFactor) (As := [.int 5]) (st := []) dX5_readProduct_2 tb_403 ok_X5_readFactor ⟨_, ((hJ0.2.1 _ hp.1 hp.2).trans hR)⟩ (by omega) rfl rfl (g_X5_readFactor_5 l D b N V hN hJ0.1 p x ⟨by omega, by omega⟩ hx ((hJ0.2.1 _ hp.1 hp.2).trans hR) a (⟨⟨_, _, _, te_0⟩, by omega⟩)) rfl (Nat.le_of_ble_eq_true rfl) ⟨Nat.le_of_ble_eq_true rfl, Nat.le_of_ble_eq_true rfl, Nat.le_of_ble_eq_true rfl, Nat.le_of_ble_eq_true rfl⟩ (fun r_9 N_10 V_5 q_11 => ?_)
  obtain ⟨⟨z_3, h_2⟩, rfl, q_1⟩ := q_11
  have j_4 := JW.trans hJ0 (JW.weak q_1 (Sub.cons LM0 (by decide) (by decide) (by decide) (Or.inr ⟨by decide, by decide⟩) (Sub.cons (LMs LM0) (by omega) (by omega) (by decide) (Or.inl rfl) (Sub.cons (LMs (LMs LM0)) (by omega) (by omega) (by decide) (Or.inl rfl) (Sub.cons (LMs (LMs (LMs LM0))) (by omega) (by omega) (by decide) (Or.inr ⟨by decide, by decide⟩) (Sub.cons (LMs (LMs (LMs (LMs LM0)))) (by decide) (by decide) (by decide) (Or.inr ⟨by decide, by decide⟩) Sub.nil))))))
  obtain ⟨a_6, ha_7, ⟨ts_t_8, tn_t_8, tf_t_8, te_t_8⟩, hb_t_8⟩ := h_2
  refine aw_if_ne (tgt := 10) dX5_readProduct_5 (by decide) (fun c_12 => ?_) (fun c_12 => ?_)
  · skip
    have ml_10_13 : ∀ (m : Nat) (a10 : Nat) (V10 : Wd), m = 260 - a10 → (JW D b N [(1, 1, 3, 3), (x + 1, x + 1, 0, 1000000), (x + 2, x + 2, 0, 1000000), (x, x, 2, 2), (1, 1, 4, 4)] V V10) → (TA b a10 V10) → (a ≤ a10) → AW l D b jX5_readProduct (fx_rm 9 0 0) none (fx_MQ D b 0 0 (fx_qi (fun r N9 V9 => ((r = 0 ∨ r = 1) ∧ (∃ a9, a ≤ a9 ∧ TA b a9 V9)) ∧ N = N9 ∧ JW D b N [(1, 1, 3, 3), (x + 1, x + 1, 0, 1000000), (x + 2, x + 2, 0, 1000000), (x, x, 2, 2), (1, 1, 4, 4)] V V9))) 10 [some (.ref (b + p)), some (.int 5), none] [] N V10 0 0 := by
      intro m; refine Nat.strongRecOn m ?_
      intro m mih_10_13 a10 V10 hm10 i10_0 i10_1 i10_2
      obtain ⟨⟨ts_10, tn_10, tf_10, te_10⟩, hb_10⟩ := i10_1
      refine aw_aload_n dX5_readProduct_10 rfl ?_
      refine aw_get dX5_readProduct_11 fl_X5_15 ((i10_0.2.1 _ hp.1 hp.2).trans hR) (by omega) rfl ?_
      refine aw_get dX5_readProduct_14 fl_X5_25 te_10 (by omega) rfl ?_
      refine aw_aload_n dX5_readProduct_17 rfl ?_
      refine aw_get dX5_readProduct_18 fl_X5_15 ((i10_0.2.1 _ hp.1 hp.2).trans hR) (by omega) rfl ?_
      refine aw_get dX5_readProduct_21 fl_X5_59 te_10 (by omega) rfl ?_
      refine aw_icmp_ge (tgt := 84) dX5_readProduct_24 (by decide) (fun c_14 => ?_) (fun c_14 => ?_)
      · skip
        refine aw_iconst (v := 1) dX5_readProduct_84 (by decide) ?_
        refine aw_zreti dX5_readProduct_85 rfl (by first | exact Or.inl rfl | exact Or.inr rfl | assumption) (Nat.le_of_ble_eq_true rfl) (Nat.le_of_ble_eq_true rfl) ?_
        exact ⟨⟨(by first | exact Or.inl rfl | exact Or.inr rfl | assumption), ⟨a10, by omega, ⟨⟨_, _, _, te_10⟩, by omega⟩⟩⟩, rfl, i10_0⟩
      · skip
        refine aw_aload_n dX5_readProduct_27 rfl ?_
        refine aw_get dX5_readProduct_28 fl_X5_15 ((i10_0.2.1 _ hp.1 hp.2).trans hR) (by omega) rfl ?_
        refine aw_callVi (J' := jX10_now) (As := []) (st := []) dX5_readProduct_31 tb_390 ok_X10_now ⟨_, te_10⟩ (by omega) rfl rfl (g_X10_now l D b N V10 hN i10_0.1 a10 (⟨⟨_, _, _, te_10⟩, by omega⟩)) rfl (Nat.le_of_ble_eq_true rfl) ⟨Nat.le_of_ble_eq_true rfl, Nat.le_of_ble_eq_true rfl, Nat.le_of_ble_eq_true rfl, Nat.le_of_ble_eq_true rfl⟩ (fun r_17 N_18 V_19 q_20 => ?_)
        obtain ⟨h_16, rfl, rfl⟩ := q_20
        refine aw_callSi (J' := jX5_joinsFactors) (As := [.int r_17]) (st := []) dX5_readProduct_34 tb_494 ok_X5_joinsFactors rfl (g_X5_joinsFactors l D b N V10 hN i10_0.1 r_17) rfl (Nat.le_of_ble_eq_true rfl) ⟨Nat.le_of_ble_eq_true rfl, Nat.le_of_ble_eq_true rfl, Nat.le_of_ble_eq_true rfl, Nat.le_of_ble_eq_true rfl⟩ (fun r_24 N_25 V_26 q_27 => ?_)
        obtain ⟨⟨z_23, h_22⟩, rfl, rfl⟩ := q_27
        refine aw_if_eq (tgt := 84) dX5_readProduct_37 (by decide) (fun c_28 => ?_) (fun c_28 => ?_)
        · skip
          refine aw_iconst (v := 1) dX5_readProduct_84 (by decide) ?_
          refine aw_zreti dX5_readProduct_85 rfl (by first | exact Or.inl rfl | exact Or.inr rfl | assumption) (Nat.le_of_ble_eq_true rfl) (Nat.le_of_ble_eq_true rfl) ?_
          exact ⟨⟨(by first | exact Or.inl rfl | exact Or.inr rfl | assumption), ⟨a10, by omega, ⟨⟨_, _, _, te_10⟩, by omega⟩⟩⟩, rfl, i10_0⟩
        · skip
          have h0c_28 := h_22.resolve_left c_28
          have hlc_28 := h_16.resolve_left (fun z => absurd h0c_28 (by rw [z]; decide))
          refine aw_aload_n dX5_readProduct_40 rfl ?_
          refine aw_get dX5_readProduct_41 fl_X5_15 ((i10_0.2.1 _ hp.1 hp.2).trans hR) (by omega) rfl ?_
          refine aw_callVi (J' := jX10_now) (As := []) (st := []) dX5_readProduct_44 tb_390 ok_X10_now ⟨_, te_10⟩ (by omega) rfl rfl (g_X10_now l D b N V10 hN i10_0.1 a10 (⟨⟨_, _, _, te_10⟩, by omega⟩)) rfl (Nat.le_of_ble_eq_true rfl) ⟨Nat.le_of_ble_eq_true rfl, Nat.le_of_ble_eq_true rfl, Nat.le_of_ble_eq_true rfl, Nat.le_of_ble_eq_true rfl⟩ (fun r_31 N_32 V_33 q_34 => ?_)
          obtain ⟨h_30, rfl, rfl⟩ := q_34
          refine aw_istore_n (ls' := [some (.ref (b + p)), some (.int 5), some (.int r_31)]) dX5_readProduct_47 (Nat.le_of_ble_eq_true rfl) rfl ?_
          refine aw_aload_n dX5_readProduct_48 rfl ?_
          refine aw_get dX5_readProduct_49 fl_X5_15 ((i10_0.2.1 _ hp.1 hp.2).trans hR) (by omega) rfl ?_
          refine aw_dup dX5_readProduct_52 rfl ?_
          refine aw_get dX5_readProduct_53 fl_X5_25 te_10 (by omega) rfl ?_
          refine aw_iconst (v := 1) dX5_readProduct_56 (by decide) ?_
          refine aw_iadd dX5_readProduct_57 ?_
          refine aw_eqi (y := nI (a10 + 1)) (nI_add _ _) ?_
          refine aw_put dX5_readProduct_58 fp_X5_25 te_10 (by omega) rfl rfl (Nat.le_of_ble_eq_true rfl) rfl ?_
          refine aw_up i10_0 ct_1 ⟨_, _, _, (a10 + 1), rfl, (by first | omega | (split <;> omega))⟩ (WO (s := 3) (x := .int (nI (a10 + 1))) te_10 rfl LM0 (by decide) (by decide) (by decide) (Or.inl (by decide))) (fun V_35 j_35 k_35 e_35 => ?_)
          refine aw_aload_n dX5_readProduct_61 rfl ?_
          refine aw_iload_n dX5_readProduct_62 rfl ?_
          refine aw_callVi (J' := jX5_readFactor) (As := [.int 5]) (st := []) dX5_readProduct_63 tb_403 ok_X5_readFactor ⟨_, ((j_35.2.1 _ hp.1 hp.2).trans hR)⟩ (by omega) rfl rfl (g_X5_readFactor_5 l D b N V_35 hN j_35.1 p x ⟨by omega, by omega⟩ hx ((j_35.2.1 _ hp.1 hp.2).trans hR) (a10 + 1) (⟨⟨_, _, _, e_35⟩, by omega⟩)) rfl (Nat.le_of_ble_eq_true rfl) ⟨Nat.le_of_ble_eq_true rfl, Nat.le_of_ble_eq_true rfl, Nat.le_of_ble_eq_true rfl, Nat.le_of_ble_eq_true rfl⟩ (fun r_44 N_45 V_40 q_46 => ?_)
          obtain ⟨⟨z_38, h_37⟩, rfl, q_36⟩ := q_46
          have j_39 := JW.trans j_35 (JW.weak q_36 (Sub.cons LM0 (by decide) (by decide) (by decide) (Or.inr ⟨by decide, by decide⟩) (Sub.cons (LMs LM0) (by omega) (by omega) (by decide) (Or.inl rfl) (Sub.cons (LMs (LMs LM0)) (by omega) (by omega) (by decide) (Or.inl rfl) (Sub.cons (LMs (LMs (LMs LM0))) (by omega) (by omega) (by decide) (Or.inr ⟨by decide, by decide⟩) (Sub.cons (LMs (LMs (LMs (LMs LM0)))) (by decide) (by decide) (by decide) (Or.inr ⟨by decide, by decide⟩) Sub.nil))))))
          obtain ⟨a_41, ha_42, ⟨ts_t_43, tn_t_43, tf_t_43, te_t_43⟩, hb_t_43⟩ := h_37
          refine aw_if_ne (tgt := 71) dX5_readProduct_66 (by decide) (fun c_47 => ?_) (fun c_47 => ?_)
          · skip
            refine aw_aload_n dX5_readProduct_71 rfl ?_
            refine aw_get dX5_readProduct_72 fl_X5_9 ((j_39.2.1 _ hp.1 hp.2).trans hR) (by omega) rfl ?_
            refine aw_iload_n dX5_readProduct_75 rfl ?_
            refine aw_iconst (v := 0) dX5_readProduct_76 (by decide) ?_
            obtain ⟨s8_51, r8_51, h8_51, e_51, hs_51, hr_51⟩ := JW.get j_39 (ctl_0 hx)
            refine aw_callVi (J' := jX4_add) (As := [.int r_31, .int 0]) (st := []) dX5_readProduct_77 tb_415 ok_X4_add ⟨_, e_51⟩ (by omega) rfl rfl (g_X4_add l D b N V_40 hN j_39.1 x hx r_31 0 (by decide)) rfl (Nat.le_of_ble_eq_true rfl) ⟨Nat.le_of_ble_eq_true rfl, Nat.le_of_ble_eq_true rfl, Nat.le_of_ble_eq_true rfl, Nat.le_of_ble_eq_true rfl⟩ (fun r_52 N_53 V_50 q_54 => ?_)
            obtain ⟨rfl, q_48⟩ := q_54
            have j_49 := JW.trans j_39 (JW.weak q_48 (Sub.cons (LMs LM0) (by omega) (by omega) (by decide) (Or.inl rfl) (Sub.cons (LMs (LMs LM0)) (by omega) (by omega) (by decide) (Or.inl rfl) (Sub.cons (LMs (LMs (LMs LM0))) (by omega) (by omega) (by decide) (Or.inr ⟨by decide, by decide⟩) Sub.nil))))
            refine aw_pop dX5_readProduct_80 rfl ?_
            refine aw_goto (tgt := 10) dX5_readProduct_81 (by decide) ?_
            refine aw_le ?_ (mih_10_13 _ (by omega) a_41 V_50 rfl (j_49) (⟨⟨_, _, _, ((JW.same q_48 (by decide) (fun k => (nfc (by omega) (nfc (by omega) (nfc (by omega) nf0))))).trans te_t_43)⟩, by omega⟩) (by omega))
            exact ⟨rfl, ⟨rfl, trivial⟩⟩
          · skip
            refine aw_iconst (v := 0) dX5_readProduct_69 (by decide) ?_
            refine aw_zreti dX5_readProduct_70 rfl (by first | exact Or.inl rfl | exact Or.inr rfl | assumption) (Nat.le_of_ble_eq_true rfl) (Nat.le_of_ble_eq_true rfl) ?_
            exact ⟨⟨(by first | exact Or.inl rfl | exact Or.inr rfl | assumption), ⟨a_41, by omega, ⟨⟨_, _, _, te_t_43⟩, by omega⟩⟩⟩, rfl, j_39⟩
    refine aw_le ?_ (ml_10_13 _ a_6 V_5 rfl (j_4) (⟨⟨_, _, _, te_t_8⟩, by omega⟩) (by omega))
    exact ⟨rfl, ⟨rfl, trivial⟩⟩
  · skip
    refine aw_iconst (v := 0) dX5_readProduct_8 (by decide) ?_
    refine aw_zreti dX5_readProduct_9 rfl (by first | exact Or.inl rfl | exact Or.inr rfl | assumption) (Nat.le_of_ble_eq_true rfl) (Nat.le_of_ble_eq_true rfl) ?_
    exact ⟨⟨(by first | exact Or.inl rfl | exact Or.inr rfl | assumption), ⟨a_6, by omega, ⟨⟨_, _, _, te_t_8⟩, by omega⟩⟩⟩, rfl, j_4⟩

set_option maxHeartbeats 4000000 in
set_option maxRecDepth 100000 in
theorem g_X5_readSum_5 (l : Launch) (D : va_G) (b : Nat) (N : Nat) (V : Wd) (hN : 100 ≤ N) (hW : CW D b V) (p x : Nat) (hp : 100 ≤ p ∧ p < N) (hx : x = 57 ∨ x = 65) (hR : V p = cO 5 [.ref (b + 1), .ref (b + x)]) (a : Nat) (hT : TA b a V) : MI l D b 10 jX5_readSum [.ref (b + p), .int 5] N V 0 0 (fun r N9 V9 => ((r = 0 ∨ r = 1) ∧ (∃ a9, a ≤ a9 ∧ TA b a9 V9)) ∧ N = N9 ∧ JW D b N [(1, 1, 3, 3), (x + 1, x + 1, 0, 1000000), (x + 2, x + 2, 0, 1000000), (x, x, 2, 2), (1, 1, 4, 4)] V V9) := by
  have hJ0 : JW D b N [(1, 1, 3, 3), (x + 1, x + 1, 0, 1000000), (x + 2, x + 2, 0, 1000000), (x, x, 2, 2), (1, 1, 4, 4)] V V := JW.rf hW
  obtain ⟨⟨ts_0, tn_0, tf_0, te_0⟩, ha_0⟩ := id hT
  refine mw_of (by decide) (by simp [Value.category]) (Nat.le_of_ble_eq_true rfl) ?_
  show AW l D b jX5_readSum (fx_rm 10 0 0) none (fx_MQ D b 0 0 (fx_qi (fun r N9 V9 => ((r = 0 ∨ r = 1) ∧ (∃ a9, a ≤ a9 ∧ TA b a9 V9)) ∧ N = N9 ∧ JW D b N [(1, 1, 3, 3), (x + 1, x + 1, 0, 1000000), (x + 2, x + 2, 0, 1000000), (x, x, 2, 2), (1, 1, 4, 4)] V V9))) 0 [some (.ref (b + p)), some (.int 5), none] [] N V 0 0
  refine aw_aload_n dX5_readSum_0 rfl ?_
  refine aw_iload_n dX5_readSum_1 rfl ?_
  refine aw_callVi (J' := jX5_readProduct) (As := [.int 5]) (st := []) dX5_readSum_2 tb_399 ok_X5_readProduct ⟨_, ((hJ0.2.1 _ hp.1 hp.2).trans hR)⟩ (by omega) rfl rfl (g_X5_readProduct_5 l D b N V hN hJ0.1 p x ⟨by omega, by omega⟩ hx ((hJ0.2.1 _ hp.1 hp.2).trans hR) a (⟨⟨_, _, _, te_0⟩, by omega⟩)) rfl (Nat.le_of_ble_eq_true rfl) ⟨Nat.le_of_ble_eq_true rfl, Nat.le_of_ble_eq_true rfl, Nat.le_of_ble_eq_true rfl, Nat.le_of_ble_eq_true rfl⟩ (fun r_9 N_10 V_5 q_11 => ?_)
  obtain ⟨⟨z_3, h_2⟩, rfl, q_1⟩ := q_11
  have j_4 := JW.trans hJ0 (JW.weak q_1 (Sub.cons LM0 (by decide) (by decide) (by decide) (Or.inr ⟨by decide, by decide⟩) (Sub.cons (LMs LM0) (by omega) (by omega) (by decide) (Or.inl rfl) (Sub.cons (LMs (LMs LM0)) (by omega) (by omega) (by decide) (Or.inl rfl) (Sub.cons (LMs (LMs (LMs LM0))) (by omega) (by omega) (by decide) (Or.inr ⟨by decide, by decide⟩) (Sub.cons (LMs (LMs (LMs (LMs LM0)))) (by decide) (by decide) (by decide) (Or.inr ⟨by decide, by decide⟩) Sub.nil))))))
  obtain ⟨a_6, ha_7, ⟨ts_t_8, tn_t_8, tf_t_8, te_t_8⟩, hb_t_8⟩ := h_2
  refine aw_if_ne (tgt := 10) dX5_readSum_5 (by decide) (fun c_12 => ?_) (fun c_12 => ?_)
  · skip
    have ml_10_13 : ∀ (m : Nat) (a10 : Nat) (V10 : Wd), m = 260 - a10 → (JW D b N [(1, 1, 3, 3), (x + 1, x + 1, 0, 1000000), (x + 2, x + 2, 0, 1000000), (x, x, 2, 2), (1, 1, 4, 4)] V V10) → (TA b a10 V10) → (a ≤ a10) → AW l D b jX5_readSum (fx_rm 10 0 0) none (fx_MQ D b 0 0 (fx_qi (fun r N9 V9 => ((r = 0 ∨ r = 1) ∧ (∃ a9, a ≤ a9 ∧ TA b a9 V9)) ∧ N = N9 ∧ JW D b N [(1, 1, 3, 3), (x + 1, x + 1, 0, 1000000), (x + 2, x + 2, 0, 1000000), (x, x, 2, 2), (1, 1, 4, 4)] V V9))) 10 [some (.ref (b + p)), some (.int 5), none] [] N V10 0 0 := by
      intro m; refine Nat.strongRecOn m ?_
      intro m mih_10_13 a10 V10 hm10 i10_0 i10_1 i10_2
      obtain ⟨⟨ts_10, tn_10, tf_10, te_10⟩, hb_10⟩ := i10_1
      refine aw_aload_n dX5_readSum_10 rfl ?_
      refine aw_get dX5_readSum_11 fl_X5_15 ((i10_0.2.1 _ hp.1 hp.2).trans hR) (by omega) rfl ?_
      refine aw_get dX5_readSum_14 fl_X5_25 te_10 (by omega) rfl ?_
      refine aw_aload_n dX5_readSum_17 rfl ?_
      refine aw_get dX5_readSum_18 fl_X5_15 ((i10_0.2.1 _ hp.1 hp.2).trans hR) (by omega) rfl ?_
      refine aw_get dX5_readSum_21 fl_X5_59 te_10 (by omega) rfl ?_
      refine aw_icmp_ge (tgt := 95) dX5_readSum_24 (by decide) (fun c_14 => ?_) (fun c_14 => ?_)
      · skip
        refine aw_iconst (v := 1) dX5_readSum_95 (by decide) ?_
        refine aw_zreti dX5_readSum_96 rfl (by first | exact Or.inl rfl | exact Or.inr rfl | assumption) (Nat.le_of_ble_eq_true rfl) (Nat.le_of_ble_eq_true rfl) ?_
        exact ⟨⟨(by first | exact Or.inl rfl | exact Or.inr rfl | assumption), ⟨a10, by omega, ⟨⟨_, _, _, te_10⟩, by omega⟩⟩⟩, rfl, i10_0⟩
      · skip
        refine aw_aload_n dX5_readSum_27 rfl ?_
        refine aw_get dX5_readSum_28 fl_X5_15 ((i10_0.2.1 _ hp.1 hp.2).trans hR) (by omega) rfl ?_
        refine aw_callVi (J' := jX10_now) (As := []) (st := []) dX5_readSum_31 tb_390 ok_X10_now ⟨_, te_10⟩ (by omega) rfl rfl (g_X10_now l D b N V10 hN i10_0.1 a10 (⟨⟨_, _, _, te_10⟩, by omega⟩)) rfl (Nat.le_of_ble_eq_true rfl) ⟨Nat.le_of_ble_eq_true rfl, Nat.le_of_ble_eq_true rfl, Nat.le_of_ble_eq_true rfl, Nat.le_of_ble_eq_true rfl⟩ (fun r_17 N_18 V_19 q_20 => ?_)
        obtain ⟨h_16, rfl, rfl⟩ := q_20
        refine aw_bipush (v := 43) dX5_readSum_34 (by decide) ?_
        refine aw_icmp_eq (tgt := 51) dX5_readSum_36 (by decide) (fun c_21 => ?_) (fun c_21 => ?_)
        · skip
          have hlc_21 := h_16.resolve_left (by rw [c_21]; decide)
          refine aw_aload_n dX5_readSum_51 rfl ?_
          refine aw_get dX5_readSum_52 fl_X5_15 ((i10_0.2.1 _ hp.1 hp.2).trans hR) (by omega) rfl ?_
          refine aw_callVi (J' := jX10_now) (As := []) (st := []) dX5_readSum_55 tb_390 ok_X10_now ⟨_, te_10⟩ (by omega) rfl rfl (g_X10_now l D b N V10 hN i10_0.1 a10 (⟨⟨_, _, _, te_10⟩, by omega⟩)) rfl (Nat.le_of_ble_eq_true rfl) ⟨Nat.le_of_ble_eq_true rfl, Nat.le_of_ble_eq_true rfl, Nat.le_of_ble_eq_true rfl, Nat.le_of_ble_eq_true rfl⟩ (fun r_24 N_25 V_26 q_27 => ?_)
          obtain ⟨h_23, rfl, rfl⟩ := q_27
          refine aw_istore_n (ls' := [some (.ref (b + p)), some (.int 5), some (.int r_24)]) dX5_readSum_58 (Nat.le_of_ble_eq_true rfl) rfl ?_
          refine aw_aload_n dX5_readSum_59 rfl ?_
          refine aw_get dX5_readSum_60 fl_X5_15 ((i10_0.2.1 _ hp.1 hp.2).trans hR) (by omega) rfl ?_
          refine aw_dup dX5_readSum_63 rfl ?_
          refine aw_get dX5_readSum_64 fl_X5_25 te_10 (by omega) rfl ?_
          refine aw_iconst (v := 1) dX5_readSum_67 (by decide) ?_
          refine aw_iadd dX5_readSum_68 ?_
          refine aw_eqi (y := nI (a10 + 1)) (nI_add _ _) ?_
          refine aw_put dX5_readSum_69 fp_X5_25 te_10 (by omega) rfl rfl (Nat.le_of_ble_eq_true rfl) rfl ?_
          refine aw_up i10_0 ct_1 ⟨_, _, _, (a10 + 1), rfl, (by first | omega | (split <;> omega))⟩ (WO (s := 3) (x := .int (nI (a10 + 1))) te_10 rfl LM0 (by decide) (by decide) (by decide) (Or.inl (by decide))) (fun V_28 j_28 k_28 e_28 => ?_)
          refine aw_aload_n dX5_readSum_72 rfl ?_
          refine aw_iload_n dX5_readSum_73 rfl ?_
          refine aw_callVi (J' := jX5_readProduct) (As := [.int 5]) (st := []) dX5_readSum_74 tb_399 ok_X5_readProduct ⟨_, ((j_28.2.1 _ hp.1 hp.2).trans hR)⟩ (by omega) rfl rfl (g_X5_readProduct_5 l D b N V_28 hN j_28.1 p x ⟨by omega, by omega⟩ hx ((j_28.2.1 _ hp.1 hp.2).trans hR) (a10 + 1) (⟨⟨_, _, _, e_28⟩, by omega⟩)) rfl (Nat.le_of_ble_eq_true rfl) ⟨Nat.le_of_ble_eq_true rfl, Nat.le_of_ble_eq_true rfl, Nat.le_of_ble_eq_true rfl, Nat.le_of_ble_eq_true rfl⟩ (fun r_37 N_38 V_33 q_39 => ?_)
          obtain ⟨⟨z_31, h_30⟩, rfl, q_29⟩ := q_39
          have j_32 := JW.trans j_28 (JW.weak q_29 (Sub.cons LM0 (by decide) (by decide) (by decide) (Or.inr ⟨by decide, by decide⟩) (Sub.cons (LMs LM0) (by omega) (by omega) (by decide) (Or.inl rfl) (Sub.cons (LMs (LMs LM0)) (by omega) (by omega) (by decide) (Or.inl rfl) (Sub.cons (LMs (LMs (LMs LM0))) (by omega) (by omega) (by decide) (Or.inr ⟨by decide, by decide⟩) (Sub.cons (LMs (LMs (LMs (LMs LM0)))) (by decide) (by decide) (by decide) (Or.inr ⟨by decide, by decide⟩) Sub.nil))))))
          obtain ⟨a_34, ha_35, ⟨ts_t_36, tn_t_36, tf_t_36, te_t_36⟩, hb_t_36⟩ := h_30
          refine aw_if_ne (tgt := 82) dX5_readSum_77 (by decide) (fun c_40 => ?_) (fun c_40 => ?_)
          · skip
            refine aw_aload_n dX5_readSum_82 rfl ?_
            refine aw_get dX5_readSum_83 fl_X5_9 ((j_32.2.1 _ hp.1 hp.2).trans hR) (by omega) rfl ?_
            refine aw_iload_n dX5_readSum_86 rfl ?_
            refine aw_iconst (v := 0) dX5_readSum_87 (by decide) ?_
            obtain ⟨s8_44, r8_44, h8_44, e_44, hs_44, hr_44⟩ := JW.get j_32 (ctl_0 hx)
            refine aw_callVi (J' := jX4_add) (As := [.int r_24, .int 0]) (st := []) dX5_readSum_88 tb_415 ok_X4_add ⟨_, e_44⟩ (by omega) rfl rfl (g_X4_add l D b N V_33 hN j_32.1 x hx r_24 0 (by decide)) rfl (Nat.le_of_ble_eq_true rfl) ⟨Nat.le_of_ble_eq_true rfl, Nat.le_of_ble_eq_true rfl, Nat.le_of_ble_eq_true rfl, Nat.le_of_ble_eq_true rfl⟩ (fun r_45 N_46 V_43 q_47 => ?_)
            obtain ⟨rfl, q_41⟩ := q_47
            have j_42 := JW.trans j_32 (JW.weak q_41 (Sub.cons (LMs LM0) (by omega) (by omega) (by decide) (Or.inl rfl) (Sub.cons (LMs (LMs LM0)) (by omega) (by omega) (by decide) (Or.inl rfl) (Sub.cons (LMs (LMs (LMs LM0))) (by omega) (by omega) (by decide) (Or.inr ⟨by decide, by decide⟩) Sub.nil))))
            refine aw_pop dX5_readSum_91 rfl ?_
            refine aw_goto (tgt := 10) dX5_readSum_92 (by decide) ?_
            refine aw_le ?_ (mih_10_13 _ (by omega) a_34 V_43 rfl (j_42) (⟨⟨_, _, _, ((JW.same q_41 (by decide) (fun k => (nfc (by omega) (nfc (by omega) (nfc (by omega) nf0))))).trans te_t_36)⟩, by omega⟩) (by omega))
            exact ⟨rfl, ⟨rfl, trivial⟩⟩
          · skip
            refine aw_iconst (v := 0) dX5_readSum_80 (by decide) ?_
            refine aw_zreti dX5_readSum_81 rfl (by first | exact Or.inl rfl | exact Or.inr rfl | assumption) (Nat.le_of_ble_eq_true rfl) (Nat.le_of_ble_eq_true rfl) ?_
            exact ⟨⟨(by first | exact Or.inl rfl | exact Or.inr rfl | assumption), ⟨a_34, by omega, ⟨⟨_, _, _, te_t_36⟩, by omega⟩⟩⟩, rfl, j_32⟩
        · skip
          refine aw_aload_n dX5_readSum_39 rfl ?_
          refine aw_get dX5_readSum_40 fl_X5_15 ((i10_0.2.1 _ hp.1 hp.2).trans hR) (by omega) rfl ?_
          refine aw_callVi (J' := jX10_now) (As := []) (st := []) dX5_readSum_43 tb_390 ok_X10_now ⟨_, te_10⟩ (by omega) rfl rfl (g_X10_now l D b N V10 hN i10_0.1 a10 (⟨⟨_, _, _, te_10⟩, by omega⟩)) rfl (Nat.le_of_ble_eq_true rfl) ⟨Nat.le_of_ble_eq_true rfl, Nat.le_of_ble_eq_true rfl, Nat.le_of_ble_eq_true rfl, Nat.le_of_ble_eq_true rfl⟩ (fun r_50 N_51 V_52 q_53 => ?_)
          obtain ⟨h_49, rfl, rfl⟩ := q_53
          refine aw_bipush (v := 45) dX5_readSum_46 (by decide) ?_
          refine aw_icmp_ne (tgt := 95) dX5_readSum_48 (by decide) (fun c_54 => ?_) (fun c_54 => ?_)
          · skip
            refine aw_iconst (v := 1) dX5_readSum_95 (by decide) ?_
            refine aw_zreti dX5_readSum_96 rfl (by first | exact Or.inl rfl | exact Or.inr rfl | assumption) (Nat.le_of_ble_eq_true rfl) (Nat.le_of_ble_eq_true rfl) ?_
            exact ⟨⟨(by first | exact Or.inl rfl | exact Or.inr rfl | assumption), ⟨a10, by omega, ⟨⟨_, _, _, te_10⟩, by omega⟩⟩⟩, rfl, i10_0⟩
          · skip
            have hlc_54 := h_49.resolve_left (by rw [c_54]; decide)
            refine aw_aload_n dX5_readSum_51 rfl ?_
            refine aw_get dX5_readSum_52 fl_X5_15 ((i10_0.2.1 _ hp.1 hp.2).trans hR) (by omega) rfl ?_
            refine aw_callVi (J' := jX10_now) (As := []) (st := []) dX5_readSum_55 tb_390 ok_X10_now ⟨_, te_10⟩ (by omega) rfl rfl (g_X10_now l D b N V10 hN i10_0.1 a10 (⟨⟨_, _, _, te_10⟩, by omega⟩)) rfl (Nat.le_of_ble_eq_true rfl) ⟨Nat.le_of_ble_eq_true rfl, Nat.le_of_ble_eq_true rfl, Nat.le_of_ble_eq_true rfl, Nat.le_of_ble_eq_true rfl⟩ (fun r_57 N_58 V_59 q_60 => ?_)
            obtain ⟨h_56, rfl, rfl⟩ := q_60
            refine aw_istore_n (ls' := [some (.ref (b + p)), some (.int 5), some (.int r_57)]) dX5_readSum_58 (Nat.le_of_ble_eq_true rfl) rfl ?_
            refine aw_aload_n dX5_readSum_59 rfl ?_
            refine aw_get dX5_readSum_60 fl_X5_15 ((i10_0.2.1 _ hp.1 hp.2).trans hR) (by omega) rfl ?_
            refine aw_dup dX5_readSum_63 rfl ?_
            refine aw_get dX5_readSum_64 fl_X5_25 te_10 (by omega) rfl ?_
            refine aw_iconst (v := 1) dX5_readSum_67 (by decide) ?_
            refine aw_iadd dX5_readSum_68 ?_
            refine aw_eqi (y := nI (a10 + 1)) (nI_add _ _) ?_
            refine aw_put dX5_readSum_69 fp_X5_25 te_10 (by omega) rfl rfl (Nat.le_of_ble_eq_true rfl) rfl ?_
            refine aw_up i10_0 ct_1 ⟨_, _, _, (a10 + 1), rfl, (by first | omega | (split <;> omega))⟩ (WO (s := 3) (x := .int (nI (a10 + 1))) te_10 rfl LM0 (by decide) (by decide) (by decide) (Or.inl (by decide))) (fun V_61 j_61 k_61 e_61 => ?_)
            refine aw_aload_n dX5_readSum_72 rfl ?_
            refine aw_iload_n dX5_readSum_73 rfl ?_
            refine aw_callVi (J' := jX5_readProduct) (As := [.int 5]) (st := []) dX5_readSum_74 tb_399 ok_X5_readProduct ⟨_, ((j_61.2.1 _ hp.1 hp.2).trans hR)⟩ (by omega) rfl rfl (g_X5_readProduct_5 l D b N V_61 hN j_61.1 p x ⟨by omega, by omega⟩ hx ((j_61.2.1 _ hp.1 hp.2).trans hR) (a10 + 1) (⟨⟨_, _, _, e_61⟩, by omega⟩)) rfl (Nat.le_of_ble_eq_true rfl) ⟨Nat.le_of_ble_eq_true rfl, Nat.le_of_ble_eq_true rfl, Nat.le_of_ble_eq_true rfl, Nat.le_of_ble_eq_true rfl⟩ (fun r_70 N_71 V_66 q_72 => ?_)
            obtain ⟨⟨z_64, h_63⟩, rfl, q_62⟩ := q_72
            have j_65 := JW.trans j_61 (JW.weak q_62 (Sub.cons LM0 (by decide) (by decide) (by decide) (Or.inr ⟨by decide, by decide⟩) (Sub.cons (LMs LM0) (by omega) (by omega) (by decide) (Or.inl rfl) (Sub.cons (LMs (LMs LM0)) (by omega) (by omega) (by decide) (Or.inl rfl) (Sub.cons (LMs (LMs (LMs LM0))) (by omega) (by omega) (by decide) (Or.inr ⟨by decide, by decide⟩) (Sub.cons (LMs (LMs (LMs (LMs LM0)))) (by decide) (by decide) (by decide) (Or.inr ⟨by decide, by decide⟩) Sub.nil))))))
            obtain ⟨a_67, ha_68, ⟨ts_t_69, tn_t_69, tf_t_69, te_t_69⟩, hb_t_69⟩ := h_63
            refine aw_if_ne (tgt := 82) dX5_readSum_77 (by decide) (fun c_73 => ?_) (fun c_73 => ?_)
            · skip
              refine aw_aload_n dX5_readSum_82 rfl ?_
              refine aw_get dX5_readSum_83 fl_X5_9 ((j_65.2.1 _ hp.1 hp.2).trans hR) (by omega) rfl ?_
              refine aw_iload_n dX5_readSum_86 rfl ?_
              refine aw_iconst (v := 0) dX5_readSum_87 (by decide) ?_
              obtain ⟨s8_77, r8_77, h8_77, e_77, hs_77, hr_77⟩ := JW.get j_65 (ctl_0 hx)
              refine aw_callVi (J' := jX4_add) (As := [.int r_57, .int 0]) (st := []) dX5_readSum_88 tb_415 ok_X4_add ⟨_, e_77⟩ (by omega) rfl rfl (g_X4_add l D b N V_66 hN j_65.1 x hx r_57 0 (by decide)) rfl (Nat.le_of_ble_eq_true rfl) ⟨Nat.le_of_ble_eq_true rfl, Nat.le_of_ble_eq_true rfl, Nat.le_of_ble_eq_true rfl, Nat.le_of_ble_eq_true rfl⟩ (fun r_78 N_79 V_76 q_80 => ?_)
              obtain ⟨rfl, q_74⟩ := q_80
              have j_75 := JW.trans j_65 (JW.weak q_74 (Sub.cons (LMs LM0) (by omega) (by omega) (by decide) (Or.inl rfl) (Sub.cons (LMs (LMs LM0)) (by omega) (by omega) (by decide) (Or.inl rfl) (Sub.cons (LMs (LMs (LMs LM0))) (by omega) (by omega) (by decide) (Or.inr ⟨by decide, by decide⟩) Sub.nil))))
              refine aw_pop dX5_readSum_91 rfl ?_
              refine aw_goto (tgt := 10) dX5_readSum_92 (by decide) ?_
              refine aw_le ?_ (mih_10_13 _ (by omega) a_67 V_76 rfl (j_75) (⟨⟨_, _, _, ((JW.same q_74 (by decide) (fun k => (nfc (by omega) (nfc (by omega) (nfc (by omega) nf0))))).trans te_t_69)⟩, by omega⟩) (by omega))
              exact ⟨rfl, ⟨rfl, trivial⟩⟩
            · skip
              refine aw_iconst (v := 0) dX5_readSum_80 (by decide) ?_
              refine aw_zreti dX5_readSum_81 rfl (by first | exact Or.inl rfl | exact Or.inr rfl | assumption) (Nat.le_of_ble_eq_true rfl) (Nat.le_of_ble_eq_true rfl) ?_
              exact ⟨⟨(by first | exact Or.inl rfl | exact Or.inr rfl | assumption), ⟨a_67, by omega, ⟨⟨_, _, _, te_t_69⟩, by omega⟩⟩⟩, rfl, j_65⟩
    refine aw_le ?_ (ml_10_13 _ a_6 V_5 rfl (j_4) (⟨⟨_, _, _, te_t_8⟩, by omega⟩) (by omega))
    exact ⟨rfl, ⟨rfl, trivial⟩⟩
  · skip
    refine aw_iconst (v := 0) dX5_readSum_8 (by decide) ?_
    refine aw_zreti dX5_readSum_9 rfl (by first | exact Or.inl rfl | exact Or.inr rfl | assumption) (Nat.le_of_ble_eq_true rfl) (Nat.le_of_ble_eq_true rfl) ?_
    exact ⟨⟨(by first | exact Or.inl rfl | exact Or.inr rfl | assumption), ⟨a_6, by omega, ⟨⟨_, _, _, te_t_8⟩, by omega⟩⟩⟩, rfl, j_4⟩

set_option maxHeartbeats 4000000 in
set_option maxRecDepth 100000 in
theorem g_X5_readComparison_5 (l : Launch) (D : va_G) (b : Nat) (N : Nat) (V : Wd) (hN : 100 ≤ N) (hW : CW D b V) (p x : Nat) (hp : 100 ≤ p ∧ p < N) (hx : x = 57 ∨ x = 65) (hR : V p = cO 5 [.ref (b + 1), .ref (b + x)]) (a : Nat) (hT : TA b a V) : MI l D b 11 jX5_readComparison [.ref (b + p), .int 5] N V 0 0 (fun r N9 V9 => ((r = 0 ∨ r = 1) ∧ (∃ a9, a ≤ a9 ∧ TA b a9 V9)) ∧ N = N9 ∧ JW D b N [(1, 1, 3, 3), (x + 1, x + 1, 0, 1000000), (x + 2, x + 2, 0, 1000000), (x, x, 2, 2), (1, 1, 4, 4)] V V9) := by
  have hJ0 : JW D b N [(1, 1, 3, 3), (x + 1, x + 1, 0, 1000000), (x + 2, x + 2, 0, 1000000), (x, x, 2, 2), (1, 1, 4, 4)] V V := JW.rf hW
  obtain ⟨⟨ts_0, tn_0, tf_0, te_0⟩, ha_0⟩ := id hT
  refine mw_of (by decide) (by simp [Value.category]) (Nat.le_of_ble_eq_true rfl) ?_
  show AW l D b jX5_readComparison (fx_rm 11 0 0) none (fx_MQ D b 0 0 (fx_qi (fun r N9 V9 => ((r = 0 ∨ r = 1) ∧ (∃ a9, a ≤ a9 ∧ TA b a9 V9)) ∧ N = N9 ∧ JW D b N [(1, 1, 3, 3), (x + 1, x + 1, 0, 1000000), (x + 2, x + 2, 0, 1000000), (x, x, 2, 2), (1, 1, 4, 4)] V V9))) 0 [some (.ref (b + p)), some (.int 5), none] [] N V 0 0
  refine aw_aload_n dX5_readComparison_0 rfl ?_
  refine aw_iload_n dX5_readComparison_1 rfl ?_
  refine aw_callVi (J' := jX5_readSum) (As := [.int 5]) (st := []) dX5_readComparison_2 tb_395 ok_X5_readSum ⟨_, ((hJ0.2.1 _ hp.1 hp.2).trans hR)⟩ (by omega) rfl rfl (g_X5_readSum_5 l D b N V hN hJ0.1 p x ⟨by omega, by omega⟩ hx ((hJ0.2.1 _ hp.1 hp.2).trans hR) a (⟨⟨_, _, _, te_0⟩, by omega⟩)) rfl (Nat.le_of_ble_eq_true rfl) ⟨Nat.le_of_ble_eq_true rfl, Nat.le_of_ble_eq_true rfl, Nat.le_of_ble_eq_true rfl, Nat.le_of_ble_eq_true rfl⟩ (fun r_9 N_10 V_5 q_11 => ?_)
  obtain ⟨⟨z_3, h_2⟩, rfl, q_1⟩ := q_11
  have j_4 := JW.trans hJ0 (JW.weak q_1 (Sub.cons LM0 (by decide) (by decide) (by decide) (Or.inr ⟨by decide, by decide⟩) (Sub.cons (LMs LM0) (by omega) (by omega) (by decide) (Or.inl rfl) (Sub.cons (LMs (LMs LM0)) (by omega) (by omega) (by decide) (Or.inl rfl) (Sub.cons (LMs (LMs (LMs LM0))) (by omega) (by omega) (by decide) (Or.inr ⟨by decide, by decide⟩) (Sub.cons (LMs (LMs (LMs (LMs LM0)))) (by decide) (by decide) (by decide) (Or.inr ⟨by decide, by decide⟩) Sub.nil))))))
  obtain ⟨a_6, ha_7, ⟨ts_t_8, tn_t_8, tf_t_8, te_t_8⟩, hb_t_8⟩ := h_2
  refine aw_if_ne (tgt := 10) dX5_readComparison_5 (by decide) (fun c_12 => ?_) (fun c_12 => ?_)
  · skip
    refine aw_aload_n dX5_readComparison_10 rfl ?_
    refine aw_get dX5_readComparison_11 fl_X5_15 ((j_4.2.1 _ hp.1 hp.2).trans hR) (by omega) rfl ?_
    refine aw_callVi (J' := jX10_now) (As := []) (st := []) dX5_readComparison_14 tb_390 ok_X10_now ⟨_, te_t_8⟩ (by omega) rfl rfl (g_X10_now l D b N V_5 hN j_4.1 a_6 (⟨⟨_, _, _, te_t_8⟩, by omega⟩)) rfl (Nat.le_of_ble_eq_true rfl) ⟨Nat.le_of_ble_eq_true rfl, Nat.le_of_ble_eq_true rfl, Nat.le_of_ble_eq_true rfl, Nat.le_of_ble_eq_true rfl⟩ (fun r_15 N_16 V_17 q_18 => ?_)
    obtain ⟨h_14, rfl, rfl⟩ := q_18
    refine aw_istore_n (ls' := [some (.ref (b + p)), some (.int 5), some (.int r_15)]) dX5_readComparison_17 (Nat.le_of_ble_eq_true rfl) rfl ?_
    refine aw_iload_n dX5_readComparison_18 rfl ?_
    refine aw_bipush (v := 60) dX5_readComparison_19 (by decide) ?_
    refine aw_icmp_eq (tgt := 44) dX5_readComparison_21 (by decide) (fun c_19 => ?_) (fun c_19 => ?_)
    · skip
      have hlc_19 := h_14.resolve_left (by rw [c_19]; decide)
      refine aw_aload_n dX5_readComparison_44 rfl ?_
      refine aw_get dX5_readComparison_45 fl_X5_15 ((j_4.2.1 _ hp.1 hp.2).trans hR) (by omega) rfl ?_
      refine aw_dup dX5_readComparison_48 rfl ?_
      refine aw_get dX5_readComparison_49 fl_X5_25 te_t_8 (by omega) rfl ?_
      refine aw_iconst (v := 1) dX5_readComparison_52 (by decide) ?_
      refine aw_iadd dX5_readComparison_53 ?_
      refine aw_eqi (y := nI (a_6 + 1)) (nI_add _ _) ?_
      refine aw_put dX5_readComparison_54 fp_X5_25 te_t_8 (by omega) rfl rfl (Nat.le_of_ble_eq_true rfl) rfl ?_
      refine aw_up j_4 ct_1 ⟨_, _, _, (a_6 + 1), rfl, (by first | omega | (split <;> omega))⟩ (WO (s := 3) (x := .int (nI (a_6 + 1))) te_t_8 rfl LM0 (by decide) (by decide) (by decide) (Or.inl (by decide))) (fun V_20 j_20 k_20 e_20 => ?_)
      refine aw_aload_n dX5_readComparison_57 rfl ?_
      refine aw_iload_n dX5_readComparison_58 rfl ?_
      refine aw_callVi (J' := jX5_readSum) (As := [.int 5]) (st := []) dX5_readComparison_59 tb_395 ok_X5_readSum ⟨_, ((j_20.2.1 _ hp.1 hp.2).trans hR)⟩ (by omega) rfl rfl (g_X5_readSum_5 l D b N V_20 hN j_20.1 p x ⟨by omega, by omega⟩ hx ((j_20.2.1 _ hp.1 hp.2).trans hR) (a_6 + 1) (⟨⟨_, _, _, e_20⟩, by omega⟩)) rfl (Nat.le_of_ble_eq_true rfl) ⟨Nat.le_of_ble_eq_true rfl, Nat.le_of_ble_eq_true rfl, Nat.le_of_ble_eq_true rfl, Nat.le_of_ble_eq_true rfl⟩ (fun r_29 N_30 V_25 q_31 => ?_)
      obtain ⟨⟨z_23, h_22⟩, rfl, q_21⟩ := q_31
      have j_24 := JW.trans j_20 (JW.weak q_21 (Sub.cons LM0 (by decide) (by decide) (by decide) (Or.inr ⟨by decide, by decide⟩) (Sub.cons (LMs LM0) (by omega) (by omega) (by decide) (Or.inl rfl) (Sub.cons (LMs (LMs LM0)) (by omega) (by omega) (by decide) (Or.inl rfl) (Sub.cons (LMs (LMs (LMs LM0))) (by omega) (by omega) (by decide) (Or.inr ⟨by decide, by decide⟩) (Sub.cons (LMs (LMs (LMs (LMs LM0)))) (by decide) (by decide) (by decide) (Or.inr ⟨by decide, by decide⟩) Sub.nil))))))
      obtain ⟨a_26, ha_27, ⟨ts_t_28, tn_t_28, tf_t_28, te_t_28⟩, hb_t_28⟩ := h_22
      refine aw_if_ne (tgt := 67) dX5_readComparison_62 (by decide) (fun c_32 => ?_) (fun c_32 => ?_)
      · skip
        refine aw_aload_n dX5_readComparison_67 rfl ?_
        refine aw_get dX5_readComparison_68 fl_X5_9 ((j_24.2.1 _ hp.1 hp.2).trans hR) (by omega) rfl ?_
        refine aw_iload_n dX5_readComparison_71 rfl ?_
        refine aw_iconst (v := 0) dX5_readComparison_72 (by decide) ?_
        obtain ⟨s8_36, r8_36, h8_36, e_36, hs_36, hr_36⟩ := JW.get j_24 (ctl_0 hx)
        refine aw_callVi (J' := jX4_add) (As := [.int r_15, .int 0]) (st := []) dX5_readComparison_73 tb_415 ok_X4_add ⟨_, e_36⟩ (by omega) rfl rfl (g_X4_add l D b N V_25 hN j_24.1 x hx r_15 0 (by decide)) rfl (Nat.le_of_ble_eq_true rfl) ⟨Nat.le_of_ble_eq_true rfl, Nat.le_of_ble_eq_true rfl, Nat.le_of_ble_eq_true rfl, Nat.le_of_ble_eq_true rfl⟩ (fun r_37 N_38 V_35 q_39 => ?_)
        obtain ⟨rfl, q_33⟩ := q_39
        have j_34 := JW.trans j_24 (JW.weak q_33 (Sub.cons (LMs LM0) (by omega) (by omega) (by decide) (Or.inl rfl) (Sub.cons (LMs (LMs LM0)) (by omega) (by omega) (by decide) (Or.inl rfl) (Sub.cons (LMs (LMs (LMs LM0))) (by omega) (by omega) (by decide) (Or.inr ⟨by decide, by decide⟩) Sub.nil))))
        refine aw_pop dX5_readComparison_76 rfl ?_
        refine aw_iconst (v := 1) dX5_readComparison_77 (by decide) ?_
        refine aw_zreti dX5_readComparison_78 rfl (by first | exact Or.inl rfl | exact Or.inr rfl | assumption) (Nat.le_of_ble_eq_true rfl) (Nat.le_of_ble_eq_true rfl) ?_
        exact ⟨⟨(by first | exact Or.inl rfl | exact Or.inr rfl | assumption), ⟨a_26, by omega, ⟨⟨_, _, _, ((JW.same q_33 (by decide) (fun k => (nfc (by omega) (nfc (by omega) (nfc (by omega) nf0))))).trans te_t_28)⟩, by omega⟩⟩⟩, rfl, j_34⟩
      · skip
        refine aw_iconst (v := 0) dX5_readComparison_65 (by decide) ?_
        refine aw_zreti dX5_readComparison_66 rfl (by first | exact Or.inl rfl | exact Or.inr rfl | assumption) (Nat.le_of_ble_eq_true rfl) (Nat.le_of_ble_eq_true rfl) ?_
        exact ⟨⟨(by first | exact Or.inl rfl | exact Or.inr rfl | assumption), ⟨a_26, by omega, ⟨⟨_, _, _, te_t_28⟩, by omega⟩⟩⟩, rfl, j_24⟩
    · skip
      refine aw_iload_n dX5_readComparison_24 rfl ?_
      refine aw_bipush (v := 62) dX5_readComparison_25 (by decide) ?_
      refine aw_icmp_eq (tgt := 44) dX5_readComparison_27 (by decide) (fun c_40 => ?_) (fun c_40 => ?_)
      · skip
        have hlc_40 := h_14.resolve_left (by rw [c_40]; decide)
        refine aw_aload_n dX5_readComparison_44 rfl ?_
        refine aw_get dX5_readComparison_45 fl_X5_15 ((j_4.2.1 _ hp.1 hp.2).trans hR) (by omega) rfl ?_
        refine aw_dup dX5_readComparison_48 rfl ?_
        refine aw_get dX5_readComparison_49 fl_X5_25 te_t_8 (by omega) rfl ?_
        refine aw_iconst (v := 1) dX5_readComparison_52 (by decide) ?_
        refine aw_iadd dX5_readComparison_53 ?_
        refine aw_eqi (y := nI (a_6 + 1)) (nI_add _ _) ?_
        refine aw_put dX5_readComparison_54 fp_X5_25 te_t_8 (by omega) rfl rfl (Nat.le_of_ble_eq_true rfl) rfl ?_
        refine aw_up j_4 ct_1 ⟨_, _, _, (a_6 + 1), rfl, (by first | omega | (split <;> omega))⟩ (WO (s := 3) (x := .int (nI (a_6 + 1))) te_t_8 rfl LM0 (by decide) (by decide) (by decide) (Or.inl (by decide))) (fun V_41 j_41 k_41 e_41 => ?_)
        refine aw_aload_n dX5_readComparison_57 rfl ?_
        refine aw_iload_n dX5_readComparison_58 rfl ?_
        refine aw_callVi (J' := jX5_readSum) (As := [.int 5]) (st := []) dX5_readComparison_59 tb_395 ok_X5_readSum ⟨_, ((j_41.2.1 _ hp.1 hp.2).trans hR)⟩ (by omega) rfl rfl (g_X5_readSum_5 l D b N V_41 hN j_41.1 p x ⟨by omega, by omega⟩ hx ((j_41.2.1 _ hp.1 hp.2).trans hR) (a_6 + 1) (⟨⟨_, _, _, e_41⟩, by omega⟩)) rfl (Nat.le_of_ble_eq_true rfl) ⟨Nat.le_of_ble_eq_true rfl, Nat.le_of_ble_eq_true rfl, Nat.le_of_ble_eq_true rfl, Nat.le_of_ble_eq_true rfl⟩ (fun r_50 N_51 V_46 q_52 => ?_)
        obtain ⟨⟨z_44, h_43⟩, rfl, q_42⟩ := q_52
        have j_45 := JW.trans j_41 (JW.weak q_42 (Sub.cons LM0 (by decide) (by decide) (by decide) (Or.inr ⟨by decide, by decide⟩) (Sub.cons (LMs LM0) (by omega) (by omega) (by decide) (Or.inl rfl) (Sub.cons (LMs (LMs LM0)) (by omega) (by omega) (by decide) (Or.inl rfl) (Sub.cons (LMs (LMs (LMs LM0))) (by omega) (by omega) (by decide) (Or.inr ⟨by decide, by decide⟩) (Sub.cons (LMs (LMs (LMs (LMs LM0)))) (by decide) (by decide) (by decide) (Or.inr ⟨by decide, by decide⟩) Sub.nil))))))
        obtain ⟨a_47, ha_48, ⟨ts_t_49, tn_t_49, tf_t_49, te_t_49⟩, hb_t_49⟩ := h_43
        refine aw_if_ne (tgt := 67) dX5_readComparison_62 (by decide) (fun c_53 => ?_) (fun c_53 => ?_)
        · skip
          refine aw_aload_n dX5_readComparison_67 rfl ?_
          refine aw_get dX5_readComparison_68 fl_X5_9 ((j_45.2.1 _ hp.1 hp.2).trans hR) (by omega) rfl ?_
          refine aw_iload_n dX5_readComparison_71 rfl ?_
          refine aw_iconst (v := 0) dX5_readComparison_72 (by decide) ?_
          obtain ⟨s8_57, r8_57, h8_57, e_57, hs_57, hr_57⟩ := JW.get j_45 (ctl_0 hx)
          refine aw_callVi (J' := jX4_add) (As := [.int r_15, .int 0]) (st := []) dX5_readComparison_73 tb_415 ok_X4_add ⟨_, e_57⟩ (by omega) rfl rfl (g_X4_add l D b N V_46 hN j_45.1 x hx r_15 0 (by decide)) rfl (Nat.le_of_ble_eq_true rfl) ⟨Nat.le_of_ble_eq_true rfl, Nat.le_of_ble_eq_true rfl, Nat.le_of_ble_eq_true rfl, Nat.le_of_ble_eq_true rfl⟩ (fun r_58 N_59 V_56 q_60 => ?_)
          obtain ⟨rfl, q_54⟩ := q_60
          have j_55 := JW.trans j_45 (JW.weak q_54 (Sub.cons (LMs LM0) (by omega) (by omega) (by decide) (Or.inl rfl) (Sub.cons (LMs (LMs LM0)) (by omega) (by omega) (by decide) (Or.inl rfl) (Sub.cons (LMs (LMs (LMs LM0))) (by omega) (by omega) (by decide) (Or.inr ⟨by decide, by decide⟩) Sub.nil))))
          refine aw_pop dX5_readComparison_76 rfl ?_
          refine aw_iconst (v := 1) dX5_readComparison_77 (by decide) ?_
          refine aw_zreti dX5_readComparison_78 rfl (by first | exact Or.inl rfl | exact Or.inr rfl | assumption) (Nat.le_of_ble_eq_true rfl) (Nat.le_of_ble_eq_true rfl) ?_
          exact ⟨⟨(by first | exact Or.inl rfl | exact Or.inr rfl | assumption), ⟨a_47, by omega, ⟨⟨_, _, _, ((JW.same q_54 (by decide) (fun k => (nfc (by omega) (nfc (by omega) (nfc (by omega) nf0))))).trans te_t_49)⟩, by omega⟩⟩⟩, rfl, j_55⟩
        · skip
          refine aw_iconst (v := 0) dX5_readComparison_65 (by decide) ?_
          refine aw_zreti dX5_readComparison_66 rfl (by first | exact Or.inl rfl | exact Or.inr rfl | assumption) (Nat.le_of_ble_eq_true rfl) (Nat.le_of_ble_eq_true rfl) ?_
          exact ⟨⟨(by first | exact Or.inl rfl | exact Or.inr rfl | assumption), ⟨a_47, by omega, ⟨⟨_, _, _, te_t_49⟩, by omega⟩⟩⟩, rfl, j_45⟩
      · skip
        refine aw_iload_n dX5_readComparison_30 rfl ?_
        refine aw_bipush (v := 61) dX5_readComparison_31 (by decide) ?_
        refine aw_icmp_eq (tgt := 44) dX5_readComparison_33 (by decide) (fun c_61 => ?_) (fun c_61 => ?_)
        · skip
          have hlc_61 := h_14.resolve_left (by rw [c_61]; decide)
          refine aw_aload_n dX5_readComparison_44 rfl ?_
          refine aw_get dX5_readComparison_45 fl_X5_15 ((j_4.2.1 _ hp.1 hp.2).trans hR) (by omega) rfl ?_
          refine aw_dup dX5_readComparison_48 rfl ?_
          refine aw_get dX5_readComparison_49 fl_X5_25 te_t_8 (by omega) rfl ?_
          refine aw_iconst (v := 1) dX5_readComparison_52 (by decide) ?_
          refine aw_iadd dX5_readComparison_53 ?_
          refine aw_eqi (y := nI (a_6 + 1)) (nI_add _ _) ?_
          refine aw_put dX5_readComparison_54 fp_X5_25 te_t_8 (by omega) rfl rfl (Nat.le_of_ble_eq_true rfl) rfl ?_
          refine aw_up j_4 ct_1 ⟨_, _, _, (a_6 + 1), rfl, (by first | omega | (split <;> omega))⟩ (WO (s := 3) (x := .int (nI (a_6 + 1))) te_t_8 rfl LM0 (by decide) (by decide) (by decide) (Or.inl (by decide))) (fun V_62 j_62 k_62 e_62 => ?_)
          refine aw_aload_n dX5_readComparison_57 rfl ?_
          refine aw_iload_n dX5_readComparison_58 rfl ?_
          refine aw_callVi (J' := jX5_readSum) (As := [.int 5]) (st := []) dX5_readComparison_59 tb_395 ok_X5_readSum ⟨_, ((j_62.2.1 _ hp.1 hp.2).trans hR)⟩ (by omega) rfl rfl (g_X5_readSum_5 l D b N V_62 hN j_62.1 p x ⟨by omega, by omega⟩ hx ((j_62.2.1 _ hp.1 hp.2).trans hR) (a_6 + 1) (⟨⟨_, _, _, e_62⟩, by omega⟩)) rfl (Nat.le_of_ble_eq_true rfl) ⟨Nat.le_of_ble_eq_true rfl, Nat.le_of_ble_eq_true rfl, Nat.le_of_ble_eq_true rfl, Nat.le_of_ble_eq_true rfl⟩ (fun r_71 N_72 V_67 q_73 => ?_)
          obtain ⟨⟨z_65, h_64⟩, rfl, q_63⟩ := q_73
          have j_66 := JW.trans j_62 (JW.weak q_63 (Sub.cons LM0 (by decide) (by decide) (by decide) (Or.inr ⟨by decide, by decide⟩) (Sub.cons (LMs LM0) (by omega) (by omega) (by decide) (Or.inl rfl) (Sub.cons (LMs (LMs LM0)) (by omega) (by omega) (by decide) (Or.inl rfl) (Sub.cons (LMs (LMs (LMs LM0))) (by omega) (by omega) (by decide) (Or.inr ⟨by decide, by decide⟩) (Sub.cons (LMs (LMs (LMs (LMs LM0)))) (by decide) (by decide) (by decide) (Or.inr ⟨by decide, by decide⟩) Sub.nil))))))
          obtain ⟨a_68, ha_69, ⟨ts_t_70, tn_t_70, tf_t_70, te_t_70⟩, hb_t_70⟩ := h_64
          refine aw_if_ne (tgt := 67) dX5_readComparison_62 (by decide) (fun c_74 => ?_) (fun c_74 => ?_)
          · skip
            refine aw_aload_n dX5_readComparison_67 rfl ?_
            refine aw_get dX5_readComparison_68 fl_X5_9 ((j_66.2.1 _ hp.1 hp.2).trans hR) (by omega) rfl ?_
            refine aw_iload_n dX5_readComparison_71 rfl ?_
            refine aw_iconst (v := 0) dX5_readComparison_72 (by decide) ?_
            obtain ⟨s8_78, r8_78, h8_78, e_78, hs_78, hr_78⟩ := JW.get j_66 (ctl_0 hx)
            refine aw_callVi (J' := jX4_add) (As := [.int r_15, .int 0]) (st := []) dX5_readComparison_73 tb_415 ok_X4_add ⟨_, e_78⟩ (by omega) rfl rfl (g_X4_add l D b N V_67 hN j_66.1 x hx r_15 0 (by decide)) rfl (Nat.le_of_ble_eq_true rfl) ⟨Nat.le_of_ble_eq_true rfl, Nat.le_of_ble_eq_true rfl, Nat.le_of_ble_eq_true rfl, Nat.le_of_ble_eq_true rfl⟩ (fun r_79 N_80 V_77 q_81 => ?_)
            obtain ⟨rfl, q_75⟩ := q_81
            have j_76 := JW.trans j_66 (JW.weak q_75 (Sub.cons (LMs LM0) (by omega) (by omega) (by decide) (Or.inl rfl) (Sub.cons (LMs (LMs LM0)) (by omega) (by omega) (by decide) (Or.inl rfl) (Sub.cons (LMs (LMs (LMs LM0))) (by omega) (by omega) (by decide) (Or.inr ⟨by decide, by decide⟩) Sub.nil))))
            refine aw_pop dX5_readComparison_76 rfl ?_
            refine aw_iconst (v := 1) dX5_readComparison_77 (by decide) ?_
            refine aw_zreti dX5_readComparison_78 rfl (by first | exact Or.inl rfl | exact Or.inr rfl | assumption) (Nat.le_of_ble_eq_true rfl) (Nat.le_of_ble_eq_true rfl) ?_
            exact ⟨⟨(by first | exact Or.inl rfl | exact Or.inr rfl | assumption), ⟨a_68, by omega, ⟨⟨_, _, _, ((JW.same q_75 (by decide) (fun k => (nfc (by omega) (nfc (by omega) (nfc (by omega) nf0))))).trans te_t_70)⟩, by omega⟩⟩⟩, rfl, j_76⟩
          · skip
            refine aw_iconst (v := 0) dX5_readComparison_65 (by decide) ?_
            refine aw_zreti dX5_readComparison_66 rfl (by first | exact Or.inl rfl | exact Or.inr rfl | assumption) (Nat.le_of_ble_eq_true rfl) (Nat.le_of_ble_eq_true rfl) ?_
            exact ⟨⟨(by first | exact Or.inl rfl | exact Or.inr rfl | assumption), ⟨a_68, by omega, ⟨⟨_, _, _, te_t_70⟩, by omega⟩⟩⟩, rfl, j_66⟩
        · skip
          refine aw_aload_n dX5_readComparison_36 rfl ?_
          refine aw_get dX5_readComparison_37 fl_X5_15 ((j_4.2.1 _ hp.1 hp.2).trans hR) (by omega) rfl ?_
          refine aw_callVi (J' := jX10_cannotStand) (As := []) (st := []) dX5_readComparison_40 tb_493 ok_X10_cannotStand ⟨_, te_t_8⟩ (by omega) rfl rfl (g_X10_cannotStand l D b N V_5 hN j_4.1 a_6 (⟨⟨_, _, _, te_t_8⟩, by omega⟩)) rfl (Nat.le_of_ble_eq_true rfl) ⟨Nat.le_of_ble_eq_true rfl, Nat.le_of_ble_eq_true rfl, Nat.le_of_ble_eq_true rfl, Nat.le_of_ble_eq_true rfl⟩ (fun r_91 N_92 V_86 q_93 => ?_)
          obtain ⟨⟨z_84, h_83⟩, rfl, q_82⟩ := q_93
          have j_85 := JW.trans j_4 (JW.weak q_82 (Sub.cons (LMs (LMs (LMs (LMs LM0)))) (by decide) (by decide) (by decide) (Or.inr ⟨by decide, by decide⟩) Sub.nil))
          obtain ⟨h_90, a_87, ha_88, ⟨ts_t_89, tn_t_89, tf_t_89, te_t_89⟩, hb_t_89⟩ := h_83
          obtain rfl := h_90
          refine aw_zreti dX5_readComparison_43 rfl (by first | exact Or.inl rfl | exact Or.inr rfl | assumption) (Nat.le_of_ble_eq_true rfl) (Nat.le_of_ble_eq_true rfl) ?_
          exact ⟨⟨(by first | exact Or.inl rfl | exact Or.inr rfl | assumption), ⟨a_87, by omega, ⟨⟨_, _, _, te_t_89⟩, by omega⟩⟩⟩, rfl, j_85⟩
  · skip
    refine aw_iconst (v := 0) dX5_readComparison_8 (by decide) ?_
    refine aw_zreti dX5_readComparison_9 rfl (by first | exact Or.inl rfl | exact Or.inr rfl | assumption) (Nat.le_of_ble_eq_true rfl) (Nat.le_of_ble_eq_true rfl) ?_
    exact ⟨⟨(by first | exact Or.inl rfl | exact Or.inr rfl | assumption), ⟨a_6, by omega, ⟨⟨_, _, _, te_t_8⟩, by omega⟩⟩⟩, rfl, j_4⟩

set_option maxHeartbeats 4000000 in
set_option maxRecDepth 100000 in
theorem g_X5_readNegation_5 (l : Launch) (D : va_G) (b : Nat) (N : Nat) (V : Wd) (hN : 100 ≤ N) (hW : CW D b V) (p x : Nat) (hp : 100 ≤ p ∧ p < N) (hx : x = 57 ∨ x = 65) (hR : V p = cO 5 [.ref (b + 1), .ref (b + x)]) (a : Nat) (hT : TA b a V) (hlt : a < 260) : MI l D b 10 jX5_readNegation [.ref (b + p), .int 5] N V 0 0 (fun r N9 V9 => ((r = 0 ∨ r = 1) ∧ (∃ a9, a ≤ a9 ∧ TA b a9 V9)) ∧ N = N9 ∧ JW D b N [(1, 1, 3, 3), (x + 1, x + 1, 0, 1000000), (x + 2, x + 2, 0, 1000000), (x, x, 2, 2), (1, 1, 4, 4)] V V9) := by
  have hJ0 : JW D b N [(1, 1, 3, 3), (x + 1, x + 1, 0, 1000000), (x + 2, x + 2, 0, 1000000), (x, x, 2, 2), (1, 1, 4, 4)] V V := JW.rf hW
  obtain ⟨⟨ts_0, tn_0, tf_0, te_0⟩, ha_0⟩ := id hT
  refine mw_of (by decide) (by simp [Value.category]) (Nat.le_of_ble_eq_true rfl) ?_
  show AW l D b jX5_readNegation (fx_rm 10 0 0) none (fx_MQ D b 0 0 (fx_qi (fun r N9 V9 => ((r = 0 ∨ r = 1) ∧ (∃ a9, a ≤ a9 ∧ TA b a9 V9)) ∧ N = N9 ∧ JW D b N [(1, 1, 3, 3), (x + 1, x + 1, 0, 1000000), (x + 2, x + 2, 0, 1000000), (x, x, 2, 2), (1, 1, 4, 4)] V V9))) 0 [some (.ref (b + p)), some (.int 5)] [] N V 0 0
  refine aw_aload_n dX5_readNegation_0 rfl ?_
  refine aw_iload_n dX5_readNegation_1 rfl ?_
  refine aw_callVi (J' := jX5_open) (As := [.int 5]) (st := []) dX5_readNegation_2 tb_407 ok_X5_open ⟨_, ((hJ0.2.1 _ hp.1 hp.2).trans hR)⟩ (by omega) rfl rfl (g_X5_open_5 l D b N V hN hJ0.1 p x ⟨by omega, by omega⟩ hx ((hJ0.2.1 _ hp.1 hp.2).trans hR) a (⟨⟨_, _, _, te_0⟩, by omega⟩) (by omega)) rfl (Nat.le_of_ble_eq_true rfl) ⟨Nat.le_of_ble_eq_true rfl, Nat.le_of_ble_eq_true rfl, Nat.le_of_ble_eq_true rfl, Nat.le_of_ble_eq_true rfl⟩ (fun r_10 N_11 V_5 q_12 => ?_)
  obtain ⟨⟨z_3, h_2⟩, rfl, q_1⟩ := q_12
  have j_4 := JW.trans hJ0 (JW.weak q_1 (Sub.cons LM0 (by decide) (by decide) (by decide) (Or.inr ⟨by decide, by decide⟩) Sub.nil))
  obtain ⟨h_9, a_6, ha_7, ⟨ts_t_8, tn_t_8, tf_t_8, te_t_8⟩, hb_t_8⟩ := h_2
  obtain rfl := h_9
  refine aw_if_eq (tgt := 18) dX5_readNegation_5 (by decide) (fun c_13 => ?_) (fun c_13 => ?_)
  · exact absurd c_13 (by decide)
  refine aw_aload_n dX5_readNegation_8 rfl ?_
  refine aw_iload_n dX5_readNegation_9 rfl ?_
  refine aw_iconst (v := 1) dX5_readNegation_10 (by decide) ?_
  refine aw_iadd dX5_readNegation_11 ?_
  refine aw_eqi (y := 6) (by decide) ?_
  refine aw_callVi (J' := jX5_readTest) (As := [.int 6]) (st := []) dX5_readNegation_12 tb_509 ok_X5_readTest ⟨_, ((j_4.2.1 _ hp.1 hp.2).trans hR)⟩ (by omega) rfl rfl (g_X5_readTest_6 l D b N V_5 hN j_4.1 p x ⟨by omega, by omega⟩ hx ((j_4.2.1 _ hp.1 hp.2).trans hR) a_6 (⟨⟨_, _, _, te_t_8⟩, by omega⟩)) rfl (Nat.le_of_ble_eq_true rfl) ⟨Nat.le_of_ble_eq_true rfl, Nat.le_of_ble_eq_true rfl, Nat.le_of_ble_eq_true rfl, Nat.le_of_ble_eq_true rfl⟩ (fun r_22 N_23 V_18 q_24 => ?_)
  obtain ⟨⟨z_16, h_15⟩, rfl, q_14⟩ := q_24
  have j_17 := JW.trans j_4 (JW.weak q_14 (Sub.cons LM0 (by decide) (by decide) (by decide) (Or.inr ⟨by decide, by decide⟩) (Sub.cons (LMs LM0) (by omega) (by omega) (by decide) (Or.inl rfl) (Sub.cons (LMs (LMs LM0)) (by omega) (by omega) (by decide) (Or.inl rfl) (Sub.cons (LMs (LMs (LMs LM0))) (by omega) (by omega) (by decide) (Or.inr ⟨by decide, by decide⟩) (Sub.cons (LMs (LMs (LMs (LMs LM0)))) (by decide) (by decide) (by decide) (Or.inr ⟨by decide, by decide⟩) Sub.nil))))))
  obtain ⟨a_19, ha_20, ⟨ts_t_21, tn_t_21, tf_t_21, te_t_21⟩, hb_t_21⟩ := h_15
  refine aw_if_ne (tgt := 20) dX5_readNegation_15 (by decide) (fun c_25 => ?_) (fun c_25 => ?_)
  · skip
    refine aw_aload_n dX5_readNegation_20 rfl ?_
    refine aw_get dX5_readNegation_21 fl_X5_9 ((j_17.2.1 _ hp.1 hp.2).trans hR) (by omega) rfl ?_
    refine aw_bipush (v := 33) dX5_readNegation_24 (by decide) ?_
    refine aw_iconst (v := 0) dX5_readNegation_26 (by decide) ?_
    obtain ⟨s8_29, r8_29, h8_29, e_29, hs_29, hr_29⟩ := JW.get j_17 (ctl_0 hx)
    refine aw_callVi (J' := jX4_add) (As := [.int 33, .int 0]) (st := []) dX5_readNegation_27 tb_415 ok_X4_add ⟨_, e_29⟩ (by omega) rfl rfl (g_X4_add l D b N V_18 hN j_17.1 x hx 33 0 (by decide)) rfl (Nat.le_of_ble_eq_true rfl) ⟨Nat.le_of_ble_eq_true rfl, Nat.le_of_ble_eq_true rfl, Nat.le_of_ble_eq_true rfl, Nat.le_of_ble_eq_true rfl⟩ (fun r_30 N_31 V_28 q_32 => ?_)
    obtain ⟨rfl, q_26⟩ := q_32
    have j_27 := JW.trans j_17 (JW.weak q_26 (Sub.cons (LMs LM0) (by omega) (by omega) (by decide) (Or.inl rfl) (Sub.cons (LMs (LMs LM0)) (by omega) (by omega) (by decide) (Or.inl rfl) (Sub.cons (LMs (LMs (LMs LM0))) (by omega) (by omega) (by decide) (Or.inr ⟨by decide, by decide⟩) Sub.nil))))
    refine aw_pop dX5_readNegation_30 rfl ?_
    refine aw_iconst (v := 1) dX5_readNegation_31 (by decide) ?_
    refine aw_zreti dX5_readNegation_32 rfl (by first | exact Or.inl rfl | exact Or.inr rfl | assumption) (Nat.le_of_ble_eq_true rfl) (Nat.le_of_ble_eq_true rfl) ?_
    exact ⟨⟨(by first | exact Or.inl rfl | exact Or.inr rfl | assumption), ⟨a_19, by omega, ⟨⟨_, _, _, ((JW.same q_26 (by decide) (fun k => (nfc (by omega) (nfc (by omega) (nfc (by omega) nf0))))).trans te_t_21)⟩, by omega⟩⟩⟩, rfl, j_27⟩
  · skip
    refine aw_iconst (v := 0) dX5_readNegation_18 (by decide) ?_
    refine aw_zreti dX5_readNegation_19 rfl (by first | exact Or.inl rfl | exact Or.inr rfl | assumption) (Nat.le_of_ble_eq_true rfl) (Nat.le_of_ble_eq_true rfl) ?_
    exact ⟨⟨(by first | exact Or.inl rfl | exact Or.inr rfl | assumption), ⟨a_19, by omega, ⟨⟨_, _, _, te_t_21⟩, by omega⟩⟩⟩, rfl, j_17⟩

set_option maxHeartbeats 4000000 in
set_option maxRecDepth 100000 in
theorem g_X5_readTest_5 (l : Launch) (D : va_G) (b : Nat) (N : Nat) (V : Wd) (hN : 100 ≤ N) (hW : CW D b V) (p x : Nat) (hp : 100 ≤ p ∧ p < N) (hx : x = 57 ∨ x = 65) (hR : V p = cO 5 [.ref (b + 1), .ref (b + x)]) (a : Nat) (hT : TA b a V) : MI l D b 12 jX5_readTest [.ref (b + p), .int 5] N V 0 0 (fun r N9 V9 => ((r = 0 ∨ r = 1) ∧ (∃ a9, a ≤ a9 ∧ TA b a9 V9)) ∧ N = N9 ∧ JW D b N [(1, 1, 3, 3), (x + 1, x + 1, 0, 1000000), (x + 2, x + 2, 0, 1000000), (x, x, 2, 2), (1, 1, 4, 4)] V V9) := by
  have hJ0 : JW D b N [(1, 1, 3, 3), (x + 1, x + 1, 0, 1000000), (x + 2, x + 2, 0, 1000000), (x, x, 2, 2), (1, 1, 4, 4)] V V := JW.rf hW
  obtain ⟨⟨ts_0, tn_0, tf_0, te_0⟩, ha_0⟩ := id hT
  refine mw_of (by decide) (by simp [Value.category]) (Nat.le_of_ble_eq_true rfl) ?_
  show AW l D b jX5_readTest (fx_rm 12 0 0) none (fx_MQ D b 0 0 (fx_qi (fun r N9 V9 => ((r = 0 ∨ r = 1) ∧ (∃ a9, a ≤ a9 ∧ TA b a9 V9)) ∧ N = N9 ∧ JW D b N [(1, 1, 3, 3), (x + 1, x + 1, 0, 1000000), (x + 2, x + 2, 0, 1000000), (x, x, 2, 2), (1, 1, 4, 4)] V V9))) 0 [some (.ref (b + p)), some (.int 5), none] [] N V 0 0
  refine aw_aload_n dX5_readTest_0 rfl ?_
  refine aw_get dX5_readTest_1 fl_X5_15 ((hJ0.2.1 _ hp.1 hp.2).trans hR) (by omega) rfl ?_
  refine aw_callVi (J' := jX10_now) (As := []) (st := []) dX5_readTest_4 tb_390 ok_X10_now ⟨_, te_0⟩ (by omega) rfl rfl (g_X10_now l D b N V hN hJ0.1 a (⟨⟨_, _, _, te_0⟩, by omega⟩)) rfl (Nat.le_of_ble_eq_true rfl) ⟨Nat.le_of_ble_eq_true rfl, Nat.le_of_ble_eq_true rfl, Nat.le_of_ble_eq_true rfl, Nat.le_of_ble_eq_true rfl⟩ (fun r_3 N_4 V_5 q_6 => ?_)
  obtain ⟨h_2, rfl, rfl⟩ := q_6
  refine aw_istore_n (ls' := [some (.ref (b + p)), some (.int 5), some (.int r_3)]) dX5_readTest_7 (Nat.le_of_ble_eq_true rfl) rfl ?_
  refine aw_iload_n dX5_readTest_8 rfl ?_
  refine aw_bipush (v := 33) dX5_readTest_9 (by decide) ?_
  refine aw_icmp_ne (tgt := 20) dX5_readTest_11 (by decide) (fun c_7 => ?_) (fun c_7 => ?_)
  · skip
    refine aw_iload_n dX5_readTest_20 rfl ?_
    refine aw_bipush (v := 40) dX5_readTest_21 (by decide) ?_
    refine aw_icmp_ne (tgt := 62) dX5_readTest_23 (by decide) (fun c_8 => ?_) (fun c_8 => ?_)
    · skip
      refine aw_aload_n dX5_readTest_62 rfl ?_
      refine aw_iload_n dX5_readTest_63 rfl ?_
      refine aw_callVi (J' := jX5_readComparison) (As := [.int 5]) (st := []) dX5_readTest_64 tb_517 ok_X5_readComparison ⟨_, ((hJ0.2.1 _ hp.1 hp.2).trans hR)⟩ (by omega) rfl rfl (g_X5_readComparison_5 l D b N V hN hJ0.1 p x ⟨by omega, by omega⟩ hx ((hJ0.2.1 _ hp.1 hp.2).trans hR) a (⟨⟨_, _, _, te_0⟩, by omega⟩)) rfl (Nat.le_of_ble_eq_true rfl) ⟨Nat.le_of_ble_eq_true rfl, Nat.le_of_ble_eq_true rfl, Nat.le_of_ble_eq_true rfl, Nat.le_of_ble_eq_true rfl⟩ (fun r_17 N_18 V_13 q_19 => ?_)
      obtain ⟨⟨z_11, h_10⟩, rfl, q_9⟩ := q_19
      have j_12 := JW.trans hJ0 (JW.weak q_9 (Sub.cons LM0 (by decide) (by decide) (by decide) (Or.inr ⟨by decide, by decide⟩) (Sub.cons (LMs LM0) (by omega) (by omega) (by decide) (Or.inl rfl) (Sub.cons (LMs (LMs LM0)) (by omega) (by omega) (by decide) (Or.inl rfl) (Sub.cons (LMs (LMs (LMs LM0))) (by omega) (by omega) (by decide) (Or.inr ⟨by decide, by decide⟩) (Sub.cons (LMs (LMs (LMs (LMs LM0)))) (by decide) (by decide) (by decide) (Or.inr ⟨by decide, by decide⟩) Sub.nil))))))
      obtain ⟨a_14, ha_15, ⟨ts_t_16, tn_t_16, tf_t_16, te_t_16⟩, hb_t_16⟩ := h_10
      refine aw_zreti dX5_readTest_67 rfl (by first | exact Or.inl rfl | exact Or.inr rfl | assumption) (Nat.le_of_ble_eq_true rfl) (Nat.le_of_ble_eq_true rfl) ?_
      exact ⟨⟨(by first | exact Or.inl rfl | exact Or.inr rfl | assumption), ⟨a_14, by omega, ⟨⟨_, _, _, te_t_16⟩, by omega⟩⟩⟩, rfl, j_12⟩
    · skip
      have hlc_8 := h_2.resolve_left (by rw [c_8]; decide)
      refine aw_aload_n dX5_readTest_26 rfl ?_
      refine aw_iload_n dX5_readTest_27 rfl ?_
      refine aw_callVi (J' := jX5_open) (As := [.int 5]) (st := []) dX5_readTest_28 tb_407 ok_X5_open ⟨_, ((hJ0.2.1 _ hp.1 hp.2).trans hR)⟩ (by omega) rfl rfl (g_X5_open_5 l D b N V hN hJ0.1 p x ⟨by omega, by omega⟩ hx ((hJ0.2.1 _ hp.1 hp.2).trans hR) a (⟨⟨_, _, _, te_0⟩, by omega⟩) (by omega)) rfl (Nat.le_of_ble_eq_true rfl) ⟨Nat.le_of_ble_eq_true rfl, Nat.le_of_ble_eq_true rfl, Nat.le_of_ble_eq_true rfl, Nat.le_of_ble_eq_true rfl⟩ (fun r_29 N_30 V_24 q_31 => ?_)
      obtain ⟨⟨z_22, h_21⟩, rfl, q_20⟩ := q_31
      have j_23 := JW.trans hJ0 (JW.weak q_20 (Sub.cons LM0 (by decide) (by decide) (by decide) (Or.inr ⟨by decide, by decide⟩) Sub.nil))
      obtain ⟨h_28, a_25, ha_26, ⟨ts_t_27, tn_t_27, tf_t_27, te_t_27⟩, hb_t_27⟩ := h_21
      obtain rfl := h_28
      refine aw_if_eq (tgt := 60) dX5_readTest_31 (by decide) (fun c_32 => ?_) (fun c_32 => ?_)
      · exact absurd c_32 (by decide)
      refine aw_aload_n dX5_readTest_34 rfl ?_
      refine aw_iload_n dX5_readTest_35 rfl ?_
      refine aw_iconst (v := 1) dX5_readTest_36 (by decide) ?_
      refine aw_iadd dX5_readTest_37 ?_
      refine aw_eqi (y := 6) (by decide) ?_
      refine aw_callVi (J' := jX5_readAnyOf) (As := [.int 6]) (st := []) dX5_readTest_38 tb_501 ok_X5_readAnyOf ⟨_, ((j_23.2.1 _ hp.1 hp.2).trans hR)⟩ (by omega) rfl rfl (g_X5_readAnyOf_6 l D b N V_24 hN j_23.1 p x ⟨by omega, by omega⟩ hx ((j_23.2.1 _ hp.1 hp.2).trans hR) a_25 (⟨⟨_, _, _, te_t_27⟩, by omega⟩)) rfl (Nat.le_of_ble_eq_true rfl) ⟨Nat.le_of_ble_eq_true rfl, Nat.le_of_ble_eq_true rfl, Nat.le_of_ble_eq_true rfl, Nat.le_of_ble_eq_true rfl⟩ (fun r_41 N_42 V_37 q_43 => ?_)
      obtain ⟨⟨z_35, h_34⟩, rfl, q_33⟩ := q_43
      have j_36 := JW.trans j_23 (JW.weak q_33 (Sub.cons LM0 (by decide) (by decide) (by decide) (Or.inr ⟨by decide, by decide⟩) (Sub.cons (LMs LM0) (by omega) (by omega) (by decide) (Or.inl rfl) (Sub.cons (LMs (LMs LM0)) (by omega) (by omega) (by decide) (Or.inl rfl) (Sub.cons (LMs (LMs (LMs LM0))) (by omega) (by omega) (by decide) (Or.inr ⟨by decide, by decide⟩) (Sub.cons (LMs (LMs (LMs (LMs LM0)))) (by decide) (by decide) (by decide) (Or.inr ⟨by decide, by decide⟩) Sub.nil))))))
      obtain ⟨a_38, ha_39, ⟨ts_t_40, tn_t_40, tf_t_40, te_t_40⟩, hb_t_40⟩ := h_34
      refine aw_if_eq (tgt := 60) dX5_readTest_41 (by decide) (fun c_44 => ?_) (fun c_44 => ?_)
      · skip
        refine aw_iconst (v := 0) dX5_readTest_60 (by decide) ?_
        refine aw_zreti dX5_readTest_61 rfl (by first | exact Or.inl rfl | exact Or.inr rfl | assumption) (Nat.le_of_ble_eq_true rfl) (Nat.le_of_ble_eq_true rfl) ?_
        exact ⟨⟨(by first | exact Or.inl rfl | exact Or.inr rfl | assumption), ⟨a_38, by omega, ⟨⟨_, _, _, te_t_40⟩, by omega⟩⟩⟩, rfl, j_36⟩
      · skip
        refine aw_aload_n dX5_readTest_44 rfl ?_
        refine aw_get dX5_readTest_45 fl_X5_15 ((j_36.2.1 _ hp.1 hp.2).trans hR) (by omega) rfl ?_
        refine aw_bipush (v := 41) dX5_readTest_48 (by decide) ?_
        refine aw_callVi (J' := jX10_expect) (As := [.int 41]) (st := []) dX5_readTest_50 tb_412 ok_X10_expect ⟨_, te_t_40⟩ (by omega) rfl rfl (g_X10_expect l D b N V_37 hN j_36.1 41 a_38 (⟨⟨_, _, _, te_t_40⟩, by omega⟩) (by decide)) rfl (Nat.le_of_ble_eq_true rfl) ⟨Nat.le_of_ble_eq_true rfl, Nat.le_of_ble_eq_true rfl, Nat.le_of_ble_eq_true rfl, Nat.le_of_ble_eq_true rfl⟩ (fun r_53 N_54 V_49 q_55 => ?_)
        obtain ⟨⟨z_47, h_46⟩, rfl, q_45⟩ := q_55
        have j_48 := JW.trans j_36 (JW.weak q_45 (Sub.cons LM0 (by decide) (by decide) (by decide) (Or.inr ⟨by decide, by decide⟩) (Sub.cons (LMs (LMs (LMs (LMs LM0)))) (by decide) (by decide) (by decide) (Or.inr ⟨by decide, by decide⟩) Sub.nil)))
        obtain ⟨a_50, ha_51, ⟨ts_t_52, tn_t_52, tf_t_52, te_t_52⟩, hb_t_52⟩ := h_46
        refine aw_if_eq (tgt := 60) dX5_readTest_53 (by decide) (fun c_56 => ?_) (fun c_56 => ?_)
        · skip
          refine aw_iconst (v := 0) dX5_readTest_60 (by decide) ?_
          refine aw_zreti dX5_readTest_61 rfl (by first | exact Or.inl rfl | exact Or.inr rfl | assumption) (Nat.le_of_ble_eq_true rfl) (Nat.le_of_ble_eq_true rfl) ?_
          exact ⟨⟨(by first | exact Or.inl rfl | exact Or.inr rfl | assumption), ⟨a_50, by omega, ⟨⟨_, _, _, te_t_52⟩, by omega⟩⟩⟩, rfl, j_48⟩
        · skip
          refine aw_iconst (v := 1) dX5_readTest_56 (by decide) ?_
          refine aw_goto (tgt := 61) dX5_readTest_57 (by decide) ?_
          refine aw_zreti dX5_readTest_61 rfl (by first | exact Or.inl rfl | exact Or.inr rfl | assumption) (Nat.le_of_ble_eq_true rfl) (Nat.le_of_ble_eq_true rfl) ?_
          exact ⟨⟨(by first | exact Or.inl rfl | exact Or.inr rfl | assumption), ⟨a_50, by omega, ⟨⟨_, _, _, te_t_52⟩, by omega⟩⟩⟩, rfl, j_48⟩
  · skip
    have hlc_7 := h_2.resolve_left (by rw [c_7]; decide)
    refine aw_aload_n dX5_readTest_14 rfl ?_
    refine aw_iload_n dX5_readTest_15 rfl ?_
    refine aw_callVi (J' := jX5_readNegation) (As := [.int 5]) (st := []) dX5_readTest_16 tb_513 ok_X5_readNegation ⟨_, ((hJ0.2.1 _ hp.1 hp.2).trans hR)⟩ (by omega) rfl rfl (g_X5_readNegation_5 l D b N V hN hJ0.1 p x ⟨by omega, by omega⟩ hx ((hJ0.2.1 _ hp.1 hp.2).trans hR) a (⟨⟨_, _, _, te_0⟩, by omega⟩) (by omega)) rfl (Nat.le_of_ble_eq_true rfl) ⟨Nat.le_of_ble_eq_true rfl, Nat.le_of_ble_eq_true rfl, Nat.le_of_ble_eq_true rfl, Nat.le_of_ble_eq_true rfl⟩ (fun r_65 N_66 V_61 q_67 => ?_)
    obtain ⟨⟨z_59, h_58⟩, rfl, q_57⟩ := q_67
    have j_60 := JW.trans hJ0 (JW.weak q_57 (Sub.cons LM0 (by decide) (by decide) (by decide) (Or.inr ⟨by decide, by decide⟩) (Sub.cons (LMs LM0) (by omega) (by omega) (by decide) (Or.inl rfl) (Sub.cons (LMs (LMs LM0)) (by omega) (by omega) (by decide) (Or.inl rfl) (Sub.cons (LMs (LMs (LMs LM0))) (by omega) (by omega) (by decide) (Or.inr ⟨by decide, by decide⟩) (Sub.cons (LMs (LMs (LMs (LMs LM0)))) (by decide) (by decide) (by decide) (Or.inr ⟨by decide, by decide⟩) Sub.nil))))))
    obtain ⟨a_62, ha_63, ⟨ts_t_64, tn_t_64, tf_t_64, te_t_64⟩, hb_t_64⟩ := h_58
    refine aw_zreti dX5_readTest_19 rfl (by first | exact Or.inl rfl | exact Or.inr rfl | assumption) (Nat.le_of_ble_eq_true rfl) (Nat.le_of_ble_eq_true rfl) ?_
    exact ⟨⟨(by first | exact Or.inl rfl | exact Or.inr rfl | assumption), ⟨a_62, by omega, ⟨⟨_, _, _, te_t_64⟩, by omega⟩⟩⟩, rfl, j_60⟩

set_option maxHeartbeats 4000000 in
set_option maxRecDepth 100000 in
theorem g_X5_readAllOf_5 (l : Launch) (D : va_G) (b : Nat) (N : Nat) (V : Wd) (hN : 100 ≤ N) (hW : CW D b V) (p x : Nat) (hp : 100 ≤ p ∧ p < N) (hx : x = 57 ∨ x = 65) (hR : V p = cO 5 [.ref (b + 1), .ref (b + x)]) (a : Nat) (hT : TA b a V) : MI l D b 13 jX5_readAllOf [.ref (b + p), .int 5] N V 0 0 (fun r N9 V9 => ((r = 0 ∨ r = 1) ∧ (∃ a9, a ≤ a9 ∧ TA b a9 V9)) ∧ N = N9 ∧ JW D b N [(1, 1, 3, 3), (x + 1, x + 1, 0, 1000000), (x + 2, x + 2, 0, 1000000), (x, x, 2, 2), (1, 1, 4, 4)] V V9) := by
  have hJ0 : JW D b N [(1, 1, 3, 3), (x + 1, x + 1, 0, 1000000), (x + 2, x + 2, 0, 1000000), (x, x, 2, 2), (1, 1, 4, 4)] V V := JW.rf hW
  obtain ⟨⟨ts_0, tn_0, tf_0, te_0⟩, ha_0⟩ := id hT
  refine mw_of (by decide) (by simp [Value.category]) (Nat.le_of_ble_eq_true rfl) ?_
  show AW l D b jX5_readAllOf (fx_rm 13 0 0) none (fx_MQ D b 0 0 (fx_qi (fun r N9 V9 => ((r = 0 ∨ r = 1) ∧ (∃ a9, a ≤ a9 ∧ TA b a9 V9)) ∧ N = N9 ∧ JW D b N [(1, 1, 3, 3), (x + 1, x + 1, 0, 1000000), (x + 2, x + 2, 0, 1000000), (x, x, 2, 2), (1, 1, 4, 4)] V V9))) 0 [some (.ref (b + p)), some (.int 5), none] [] N V 0 0
  refine aw_aload_n dX5_readAllOf_0 rfl ?_
  refine aw_iload_n dX5_readAllOf_1 rfl ?_
  refine aw_callVi (J' := jX5_readTest) (As := [.int 5]) (st := []) dX5_readAllOf_2 tb_509 ok_X5_readTest ⟨_, ((hJ0.2.1 _ hp.1 hp.2).trans hR)⟩ (by omega) rfl rfl (g_X5_readTest_5 l D b N V hN hJ0.1 p x ⟨by omega, by omega⟩ hx ((hJ0.2.1 _ hp.1 hp.2).trans hR) a (⟨⟨_, _, _, te_0⟩, by omega⟩)) rfl (Nat.le_of_ble_eq_true rfl) ⟨Nat.le_of_ble_eq_true rfl, Nat.le_of_ble_eq_true rfl, Nat.le_of_ble_eq_true rfl, Nat.le_of_ble_eq_true rfl⟩ (fun r_9 N_10 V_5 q_11 => ?_)
  obtain ⟨⟨z_3, h_2⟩, rfl, q_1⟩ := q_11
  have j_4 := JW.trans hJ0 (JW.weak q_1 (Sub.cons LM0 (by decide) (by decide) (by decide) (Or.inr ⟨by decide, by decide⟩) (Sub.cons (LMs LM0) (by omega) (by omega) (by decide) (Or.inl rfl) (Sub.cons (LMs (LMs LM0)) (by omega) (by omega) (by decide) (Or.inl rfl) (Sub.cons (LMs (LMs (LMs LM0))) (by omega) (by omega) (by decide) (Or.inr ⟨by decide, by decide⟩) (Sub.cons (LMs (LMs (LMs (LMs LM0)))) (by decide) (by decide) (by decide) (Or.inr ⟨by decide, by decide⟩) Sub.nil))))))
  obtain ⟨a_6, ha_7, ⟨ts_t_8, tn_t_8, tf_t_8, te_t_8⟩, hb_t_8⟩ := h_2
  refine aw_if_ne (tgt := 10) dX5_readAllOf_5 (by decide) (fun c_12 => ?_) (fun c_12 => ?_)
  · skip
    have ml_10_13 : ∀ (m : Nat) (a10 : Nat) (V10 : Wd), m = 260 - a10 → (JW D b N [(1, 1, 3, 3), (x + 1, x + 1, 0, 1000000), (x + 2, x + 2, 0, 1000000), (x, x, 2, 2), (1, 1, 4, 4)] V V10) → (TA b a10 V10) → (a ≤ a10) → AW l D b jX5_readAllOf (fx_rm 13 0 0) none (fx_MQ D b 0 0 (fx_qi (fun r N9 V9 => ((r = 0 ∨ r = 1) ∧ (∃ a9, a ≤ a9 ∧ TA b a9 V9)) ∧ N = N9 ∧ JW D b N [(1, 1, 3, 3), (x + 1, x + 1, 0, 1000000), (x + 2, x + 2, 0, 1000000), (x, x, 2, 2), (1, 1, 4, 4)] V V9))) 10 [some (.ref (b + p)), some (.int 5), none] [] N V10 0 0 := by
      intro m; refine Nat.strongRecOn m ?_
      intro m mih_10_13 a10 V10 hm10 i10_0 i10_1 i10_2
      obtain ⟨⟨ts_10, tn_10, tf_10, te_10⟩, hb_10⟩ := i10_1
      refine aw_aload_n dX5_readAllOf_10 rfl ?_
      refine aw_get dX5_readAllOf_11 fl_X5_15 ((i10_0.2.1 _ hp.1 hp.2).trans hR) (by omega) rfl ?_
      refine aw_get dX5_readAllOf_14 fl_X5_25 te_10 (by omega) rfl ?_
      refine aw_aload_n dX5_readAllOf_17 rfl ?_
      refine aw_get dX5_readAllOf_18 fl_X5_15 ((i10_0.2.1 _ hp.1 hp.2).trans hR) (by omega) rfl ?_
      refine aw_get dX5_readAllOf_21 fl_X5_59 te_10 (by omega) rfl ?_
      refine aw_icmp_ge (tgt := 84) dX5_readAllOf_24 (by decide) (fun c_14 => ?_) (fun c_14 => ?_)
      · skip
        refine aw_iconst (v := 1) dX5_readAllOf_84 (by decide) ?_
        refine aw_zreti dX5_readAllOf_85 rfl (by first | exact Or.inl rfl | exact Or.inr rfl | assumption) (Nat.le_of_ble_eq_true rfl) (Nat.le_of_ble_eq_true rfl) ?_
        exact ⟨⟨(by first | exact Or.inl rfl | exact Or.inr rfl | assumption), ⟨a10, by omega, ⟨⟨_, _, _, te_10⟩, by omega⟩⟩⟩, rfl, i10_0⟩
      · skip
        refine aw_aload_n dX5_readAllOf_27 rfl ?_
        refine aw_get dX5_readAllOf_28 fl_X5_15 ((i10_0.2.1 _ hp.1 hp.2).trans hR) (by omega) rfl ?_
        refine aw_callVi (J' := jX10_now) (As := []) (st := []) dX5_readAllOf_31 tb_390 ok_X10_now ⟨_, te_10⟩ (by omega) rfl rfl (g_X10_now l D b N V10 hN i10_0.1 a10 (⟨⟨_, _, _, te_10⟩, by omega⟩)) rfl (Nat.le_of_ble_eq_true rfl) ⟨Nat.le_of_ble_eq_true rfl, Nat.le_of_ble_eq_true rfl, Nat.le_of_ble_eq_true rfl, Nat.le_of_ble_eq_true rfl⟩ (fun r_17 N_18 V_19 q_20 => ?_)
        obtain ⟨h_16, rfl, rfl⟩ := q_20
        refine aw_bipush (v := 38) dX5_readAllOf_34 (by decide) ?_
        refine aw_icmp_ne (tgt := 84) dX5_readAllOf_36 (by decide) (fun c_21 => ?_) (fun c_21 => ?_)
        · skip
          refine aw_iconst (v := 1) dX5_readAllOf_84 (by decide) ?_
          refine aw_zreti dX5_readAllOf_85 rfl (by first | exact Or.inl rfl | exact Or.inr rfl | assumption) (Nat.le_of_ble_eq_true rfl) (Nat.le_of_ble_eq_true rfl) ?_
          exact ⟨⟨(by first | exact Or.inl rfl | exact Or.inr rfl | assumption), ⟨a10, by omega, ⟨⟨_, _, _, te_10⟩, by omega⟩⟩⟩, rfl, i10_0⟩
        · skip
          have hlc_21 := h_16.resolve_left (by rw [c_21]; decide)
          refine aw_aload_n dX5_readAllOf_39 rfl ?_
          refine aw_get dX5_readAllOf_40 fl_X5_15 ((i10_0.2.1 _ hp.1 hp.2).trans hR) (by omega) rfl ?_
          refine aw_dup dX5_readAllOf_43 rfl ?_
          refine aw_get dX5_readAllOf_44 fl_X5_25 te_10 (by omega) rfl ?_
          refine aw_iconst (v := 1) dX5_readAllOf_47 (by decide) ?_
          refine aw_iadd dX5_readAllOf_48 ?_
          refine aw_eqi (y := nI (a10 + 1)) (nI_add _ _) ?_
          refine aw_put dX5_readAllOf_49 fp_X5_25 te_10 (by omega) rfl rfl (Nat.le_of_ble_eq_true rfl) rfl ?_
          refine aw_up i10_0 ct_1 ⟨_, _, _, (a10 + 1), rfl, (by first | omega | (split <;> omega))⟩ (WO (s := 3) (x := .int (nI (a10 + 1))) te_10 rfl LM0 (by decide) (by decide) (by decide) (Or.inl (by decide))) (fun V_22 j_22 k_22 e_22 => ?_)
          refine aw_aload_n dX5_readAllOf_52 rfl ?_
          refine aw_get dX5_readAllOf_53 fl_X5_9 ((j_22.2.1 _ hp.1 hp.2).trans hR) (by omega) rfl ?_
          refine aw_bipush (v := 38) dX5_readAllOf_56 (by decide) ?_
          refine aw_iconst (v := 0) dX5_readAllOf_58 (by decide) ?_
          obtain ⟨s8_26, r8_26, h8_26, e_26, hs_26, hr_26⟩ := JW.get j_22 (ctl_0 hx)
          refine aw_callVi (J' := jX4_add) (As := [.int 38, .int 0]) (st := []) dX5_readAllOf_59 tb_415 ok_X4_add ⟨_, e_26⟩ (by omega) rfl rfl (g_X4_add l D b N V_22 hN j_22.1 x hx 38 0 (by decide)) rfl (Nat.le_of_ble_eq_true rfl) ⟨Nat.le_of_ble_eq_true rfl, Nat.le_of_ble_eq_true rfl, Nat.le_of_ble_eq_true rfl, Nat.le_of_ble_eq_true rfl⟩ (fun r_27 N_28 V_25 q_29 => ?_)
          obtain ⟨rfl, q_23⟩ := q_29
          have j_24 := JW.trans j_22 (JW.weak q_23 (Sub.cons (LMs LM0) (by omega) (by omega) (by decide) (Or.inl rfl) (Sub.cons (LMs (LMs LM0)) (by omega) (by omega) (by decide) (Or.inl rfl) (Sub.cons (LMs (LMs (LMs LM0))) (by omega) (by omega) (by decide) (Or.inr ⟨by decide, by decide⟩) Sub.nil))))
          refine aw_istore_n (ls' := [some (.ref (b + p)), some (.int 5), some (.int r_27)]) dX5_readAllOf_62 (Nat.le_of_ble_eq_true rfl) rfl ?_
          refine aw_aload_n dX5_readAllOf_63 rfl ?_
          refine aw_iload_n dX5_readAllOf_64 rfl ?_
          refine aw_callVi (J' := jX5_readTest) (As := [.int 5]) (st := []) dX5_readAllOf_65 tb_509 ok_X5_readTest ⟨_, ((j_24.2.1 _ hp.1 hp.2).trans hR)⟩ (by omega) rfl rfl (g_X5_readTest_5 l D b N V_25 hN j_24.1 p x ⟨by omega, by omega⟩ hx ((j_24.2.1 _ hp.1 hp.2).trans hR) (a10 + 1) (⟨⟨_, _, _, ((JW.same q_23 (by decide) (fun k => (nfc (by omega) (nfc (by omega) (nfc (by omega) nf0))))).trans e_22)⟩, by omega⟩)) rfl (Nat.le_of_ble_eq_true rfl) ⟨Nat.le_of_ble_eq_true rfl, Nat.le_of_ble_eq_true rfl, Nat.le_of_ble_eq_true rfl, Nat.le_of_ble_eq_true rfl⟩ (fun r_38 N_39 V_34 q_40 => ?_)
          obtain ⟨⟨z_32, h_31⟩, rfl, q_30⟩ := q_40
          have j_33 := JW.trans j_24 (JW.weak q_30 (Sub.cons LM0 (by decide) (by decide) (by decide) (Or.inr ⟨by decide, by decide⟩) (Sub.cons (LMs LM0) (by omega) (by omega) (by decide) (Or.inl rfl) (Sub.cons (LMs (LMs LM0)) (by omega) (by omega) (by decide) (Or.inl rfl) (Sub.cons (LMs (LMs (LMs LM0))) (by omega) (by omega) (by decide) (Or.inr ⟨by decide, by decide⟩) (Sub.cons (LMs (LMs (LMs (LMs LM0)))) (by decide) (by decide) (by decide) (Or.inr ⟨by decide, by decide⟩) Sub.nil))))))
          obtain ⟨a_35, ha_36, ⟨ts_t_37, tn_t_37, tf_t_37, te_t_37⟩, hb_t_37⟩ := h_31
          refine aw_if_ne (tgt := 73) dX5_readAllOf_68 (by decide) (fun c_41 => ?_) (fun c_41 => ?_)
          · skip
            refine aw_aload_n dX5_readAllOf_73 rfl ?_
            refine aw_get dX5_readAllOf_74 fl_X5_9 ((j_33.2.1 _ hp.1 hp.2).trans hR) (by omega) rfl ?_
            refine aw_iload_n dX5_readAllOf_77 rfl ?_
            obtain ⟨s8_45, r8_45, h8_45, e_45, hs_45, hr_45⟩ := JW.get j_33 (ctl_0 hx)
            refine aw_callVv (J' := jX4_leadHere) (As := [.int r_27]) (st := []) dX5_readAllOf_78 tb_521 ok_X4_leadHere ⟨_, e_45⟩ (by omega) rfl rfl (g_X4_leadHere l D b N V_34 hN j_33.1 x hx r_27) rfl (Nat.le_of_ble_eq_true rfl) ⟨Nat.le_of_ble_eq_true rfl, Nat.le_of_ble_eq_true rfl, Nat.le_of_ble_eq_true rfl, Nat.le_of_ble_eq_true rfl⟩ (fun  N_46 V_44 q_47 => ?_)
            obtain ⟨rfl, q_42⟩ := q_47
            have j_43 := JW.trans j_33 (JW.weak q_42 (Sub.cons (LMs (LMs LM0)) (by omega) (by omega) (by decide) (Or.inl rfl) Sub.nil))
            refine aw_goto (tgt := 10) dX5_readAllOf_81 (by decide) ?_
            refine aw_le ?_ (mih_10_13 _ (by omega) a_35 V_44 rfl (j_43) (⟨⟨_, _, _, ((JW.same q_42 (by decide) (fun k => (nfc (by omega) nf0))).trans te_t_37)⟩, by omega⟩) (by omega))
            exact ⟨rfl, ⟨rfl, trivial⟩⟩
          · skip
            refine aw_iconst (v := 0) dX5_readAllOf_71 (by decide) ?_
            refine aw_zreti dX5_readAllOf_72 rfl (by first | exact Or.inl rfl | exact Or.inr rfl | assumption) (Nat.le_of_ble_eq_true rfl) (Nat.le_of_ble_eq_true rfl) ?_
            exact ⟨⟨(by first | exact Or.inl rfl | exact Or.inr rfl | assumption), ⟨a_35, by omega, ⟨⟨_, _, _, te_t_37⟩, by omega⟩⟩⟩, rfl, j_33⟩
    refine aw_le ?_ (ml_10_13 _ a_6 V_5 rfl (j_4) (⟨⟨_, _, _, te_t_8⟩, by omega⟩) (by omega))
    exact ⟨rfl, ⟨rfl, trivial⟩⟩
  · skip
    refine aw_iconst (v := 0) dX5_readAllOf_8 (by decide) ?_
    refine aw_zreti dX5_readAllOf_9 rfl (by first | exact Or.inl rfl | exact Or.inr rfl | assumption) (Nat.le_of_ble_eq_true rfl) (Nat.le_of_ble_eq_true rfl) ?_
    exact ⟨⟨(by first | exact Or.inl rfl | exact Or.inr rfl | assumption), ⟨a_6, by omega, ⟨⟨_, _, _, te_t_8⟩, by omega⟩⟩⟩, rfl, j_4⟩

set_option maxHeartbeats 4000000 in
set_option maxRecDepth 100000 in
theorem g_X5_readAnyOf_5 (l : Launch) (D : va_G) (b : Nat) (N : Nat) (V : Wd) (hN : 100 ≤ N) (hW : CW D b V) (p x : Nat) (hp : 100 ≤ p ∧ p < N) (hx : x = 57 ∨ x = 65) (hR : V p = cO 5 [.ref (b + 1), .ref (b + x)]) (a : Nat) (hT : TA b a V) : MI l D b 14 jX5_readAnyOf [.ref (b + p), .int 5] N V 0 0 (fun r N9 V9 => ((r = 0 ∨ r = 1) ∧ (∃ a9, a ≤ a9 ∧ TA b a9 V9)) ∧ N = N9 ∧ JW D b N [(1, 1, 3, 3), (x + 1, x + 1, 0, 1000000), (x + 2, x + 2, 0, 1000000), (x, x, 2, 2), (1, 1, 4, 4)] V V9) := by
  have hJ0 : JW D b N [(1, 1, 3, 3), (x + 1, x + 1, 0, 1000000), (x + 2, x + 2, 0, 1000000), (x, x, 2, 2), (1, 1, 4, 4)] V V := JW.rf hW
  obtain ⟨⟨ts_0, tn_0, tf_0, te_0⟩, ha_0⟩ := id hT
  refine mw_of (by decide) (by simp [Value.category]) (Nat.le_of_ble_eq_true rfl) ?_
  show AW l D b jX5_readAnyOf (fx_rm 14 0 0) none (fx_MQ D b 0 0 (fx_qi (fun r N9 V9 => ((r = 0 ∨ r = 1) ∧ (∃ a9, a ≤ a9 ∧ TA b a9 V9)) ∧ N = N9 ∧ JW D b N [(1, 1, 3, 3), (x + 1, x + 1, 0, 1000000), (x + 2, x + 2, 0, 1000000), (x, x, 2, 2), (1, 1, 4, 4)] V V9))) 0 [some (.ref (b + p)), some (.int 5), none] [] N V 0 0
  refine aw_aload_n dX5_readAnyOf_0 rfl ?_
  refine aw_iload_n dX5_readAnyOf_1 rfl ?_
  refine aw_callVi (J' := jX5_readAllOf) (As := [.int 5]) (st := []) dX5_readAnyOf_2 tb_505 ok_X5_readAllOf ⟨_, ((hJ0.2.1 _ hp.1 hp.2).trans hR)⟩ (by omega) rfl rfl (g_X5_readAllOf_5 l D b N V hN hJ0.1 p x ⟨by omega, by omega⟩ hx ((hJ0.2.1 _ hp.1 hp.2).trans hR) a (⟨⟨_, _, _, te_0⟩, by omega⟩)) rfl (Nat.le_of_ble_eq_true rfl) ⟨Nat.le_of_ble_eq_true rfl, Nat.le_of_ble_eq_true rfl, Nat.le_of_ble_eq_true rfl, Nat.le_of_ble_eq_true rfl⟩ (fun r_9 N_10 V_5 q_11 => ?_)
  obtain ⟨⟨z_3, h_2⟩, rfl, q_1⟩ := q_11
  have j_4 := JW.trans hJ0 (JW.weak q_1 (Sub.cons LM0 (by decide) (by decide) (by decide) (Or.inr ⟨by decide, by decide⟩) (Sub.cons (LMs LM0) (by omega) (by omega) (by decide) (Or.inl rfl) (Sub.cons (LMs (LMs LM0)) (by omega) (by omega) (by decide) (Or.inl rfl) (Sub.cons (LMs (LMs (LMs LM0))) (by omega) (by omega) (by decide) (Or.inr ⟨by decide, by decide⟩) (Sub.cons (LMs (LMs (LMs (LMs LM0)))) (by decide) (by decide) (by decide) (Or.inr ⟨by decide, by decide⟩) Sub.nil))))))
  obtain ⟨a_6, ha_7, ⟨ts_t_8, tn_t_8, tf_t_8, te_t_8⟩, hb_t_8⟩ := h_2
  refine aw_if_ne (tgt := 10) dX5_readAnyOf_5 (by decide) (fun c_12 => ?_) (fun c_12 => ?_)
  · skip
    have ml_10_13 : ∀ (m : Nat) (a10 : Nat) (V10 : Wd), m = 260 - a10 → (JW D b N [(1, 1, 3, 3), (x + 1, x + 1, 0, 1000000), (x + 2, x + 2, 0, 1000000), (x, x, 2, 2), (1, 1, 4, 4)] V V10) → (TA b a10 V10) → (a ≤ a10) → AW l D b jX5_readAnyOf (fx_rm 14 0 0) none (fx_MQ D b 0 0 (fx_qi (fun r N9 V9 => ((r = 0 ∨ r = 1) ∧ (∃ a9, a ≤ a9 ∧ TA b a9 V9)) ∧ N = N9 ∧ JW D b N [(1, 1, 3, 3), (x + 1, x + 1, 0, 1000000), (x + 2, x + 2, 0, 1000000), (x, x, 2, 2), (1, 1, 4, 4)] V V9))) 10 [some (.ref (b + p)), some (.int 5), none] [] N V10 0 0 := by
      intro m; refine Nat.strongRecOn m ?_
      intro m mih_10_13 a10 V10 hm10 i10_0 i10_1 i10_2
      obtain ⟨⟨ts_10, tn_10, tf_10, te_10⟩, hb_10⟩ := i10_1
      refine aw_aload_n dX5_readAnyOf_10 rfl ?_
      refine aw_get dX5_readAnyOf_11 fl_X5_15 ((i10_0.2.1 _ hp.1 hp.2).trans hR) (by omega) rfl ?_
      refine aw_get dX5_readAnyOf_14 fl_X5_25 te_10 (by omega) rfl ?_
      refine aw_aload_n dX5_readAnyOf_17 rfl ?_
      refine aw_get dX5_readAnyOf_18 fl_X5_15 ((i10_0.2.1 _ hp.1 hp.2).trans hR) (by omega) rfl ?_
      refine aw_get dX5_readAnyOf_21 fl_X5_59 te_10 (by omega) rfl ?_
      refine aw_icmp_ge (tgt := 84) dX5_readAnyOf_24 (by decide) (fun c_14 => ?_) (fun c_14 => ?_)
      · skip
        refine aw_iconst (v := 1) dX5_readAnyOf_84 (by decide) ?_
        refine aw_zreti dX5_readAnyOf_85 rfl (by first | exact Or.inl rfl | exact Or.inr rfl | assumption) (Nat.le_of_ble_eq_true rfl) (Nat.le_of_ble_eq_true rfl) ?_
        exact ⟨⟨(by first | exact Or.inl rfl | exact Or.inr rfl | assumption), ⟨a10, by omega, ⟨⟨_, _, _, te_10⟩, by omega⟩⟩⟩, rfl, i10_0⟩
      · skip
        refine aw_aload_n dX5_readAnyOf_27 rfl ?_
        refine aw_get dX5_readAnyOf_28 fl_X5_15 ((i10_0.2.1 _ hp.1 hp.2).trans hR) (by omega) rfl ?_
        refine aw_callVi (J' := jX10_now) (As := []) (st := []) dX5_readAnyOf_31 tb_390 ok_X10_now ⟨_, te_10⟩ (by omega) rfl rfl (g_X10_now l D b N V10 hN i10_0.1 a10 (⟨⟨_, _, _, te_10⟩, by omega⟩)) rfl (Nat.le_of_ble_eq_true rfl) ⟨Nat.le_of_ble_eq_true rfl, Nat.le_of_ble_eq_true rfl, Nat.le_of_ble_eq_true rfl, Nat.le_of_ble_eq_true rfl⟩ (fun r_17 N_18 V_19 q_20 => ?_)
        obtain ⟨h_16, rfl, rfl⟩ := q_20
        refine aw_bipush (v := 124) dX5_readAnyOf_34 (by decide) ?_
        refine aw_icmp_ne (tgt := 84) dX5_readAnyOf_36 (by decide) (fun c_21 => ?_) (fun c_21 => ?_)
        · skip
          refine aw_iconst (v := 1) dX5_readAnyOf_84 (by decide) ?_
          refine aw_zreti dX5_readAnyOf_85 rfl (by first | exact Or.inl rfl | exact Or.inr rfl | assumption) (Nat.le_of_ble_eq_true rfl) (Nat.le_of_ble_eq_true rfl) ?_
          exact ⟨⟨(by first | exact Or.inl rfl | exact Or.inr rfl | assumption), ⟨a10, by omega, ⟨⟨_, _, _, te_10⟩, by omega⟩⟩⟩, rfl, i10_0⟩
        · skip
          have hlc_21 := h_16.resolve_left (by rw [c_21]; decide)
          refine aw_aload_n dX5_readAnyOf_39 rfl ?_
          refine aw_get dX5_readAnyOf_40 fl_X5_15 ((i10_0.2.1 _ hp.1 hp.2).trans hR) (by omega) rfl ?_
          refine aw_dup dX5_readAnyOf_43 rfl ?_
          refine aw_get dX5_readAnyOf_44 fl_X5_25 te_10 (by omega) rfl ?_
          refine aw_iconst (v := 1) dX5_readAnyOf_47 (by decide) ?_
          refine aw_iadd dX5_readAnyOf_48 ?_
          refine aw_eqi (y := nI (a10 + 1)) (nI_add _ _) ?_
          refine aw_put dX5_readAnyOf_49 fp_X5_25 te_10 (by omega) rfl rfl (Nat.le_of_ble_eq_true rfl) rfl ?_
          refine aw_up i10_0 ct_1 ⟨_, _, _, (a10 + 1), rfl, (by first | omega | (split <;> omega))⟩ (WO (s := 3) (x := .int (nI (a10 + 1))) te_10 rfl LM0 (by decide) (by decide) (by decide) (Or.inl (by decide))) (fun V_22 j_22 k_22 e_22 => ?_)
          refine aw_aload_n dX5_readAnyOf_52 rfl ?_
          refine aw_get dX5_readAnyOf_53 fl_X5_9 ((j_22.2.1 _ hp.1 hp.2).trans hR) (by omega) rfl ?_
          refine aw_bipush (v := 124) dX5_readAnyOf_56 (by decide) ?_
          refine aw_iconst (v := 0) dX5_readAnyOf_58 (by decide) ?_
          obtain ⟨s8_26, r8_26, h8_26, e_26, hs_26, hr_26⟩ := JW.get j_22 (ctl_0 hx)
          refine aw_callVi (J' := jX4_add) (As := [.int 124, .int 0]) (st := []) dX5_readAnyOf_59 tb_415 ok_X4_add ⟨_, e_26⟩ (by omega) rfl rfl (g_X4_add l D b N V_22 hN j_22.1 x hx 124 0 (by decide)) rfl (Nat.le_of_ble_eq_true rfl) ⟨Nat.le_of_ble_eq_true rfl, Nat.le_of_ble_eq_true rfl, Nat.le_of_ble_eq_true rfl, Nat.le_of_ble_eq_true rfl⟩ (fun r_27 N_28 V_25 q_29 => ?_)
          obtain ⟨rfl, q_23⟩ := q_29
          have j_24 := JW.trans j_22 (JW.weak q_23 (Sub.cons (LMs LM0) (by omega) (by omega) (by decide) (Or.inl rfl) (Sub.cons (LMs (LMs LM0)) (by omega) (by omega) (by decide) (Or.inl rfl) (Sub.cons (LMs (LMs (LMs LM0))) (by omega) (by omega) (by decide) (Or.inr ⟨by decide, by decide⟩) Sub.nil))))
          refine aw_istore_n (ls' := [some (.ref (b + p)), some (.int 5), some (.int r_27)]) dX5_readAnyOf_62 (Nat.le_of_ble_eq_true rfl) rfl ?_
          refine aw_aload_n dX5_readAnyOf_63 rfl ?_
          refine aw_iload_n dX5_readAnyOf_64 rfl ?_
          refine aw_callVi (J' := jX5_readAllOf) (As := [.int 5]) (st := []) dX5_readAnyOf_65 tb_505 ok_X5_readAllOf ⟨_, ((j_24.2.1 _ hp.1 hp.2).trans hR)⟩ (by omega) rfl rfl (g_X5_readAllOf_5 l D b N V_25 hN j_24.1 p x ⟨by omega, by omega⟩ hx ((j_24.2.1 _ hp.1 hp.2).trans hR) (a10 + 1) (⟨⟨_, _, _, ((JW.same q_23 (by decide) (fun k => (nfc (by omega) (nfc (by omega) (nfc (by omega) nf0))))).trans e_22)⟩, by omega⟩)) rfl (Nat.le_of_ble_eq_true rfl) ⟨Nat.le_of_ble_eq_true rfl, Nat.le_of_ble_eq_true rfl, Nat.le_of_ble_eq_true rfl, Nat.le_of_ble_eq_true rfl⟩ (fun r_38 N_39 V_34 q_40 => ?_)
          obtain ⟨⟨z_32, h_31⟩, rfl, q_30⟩ := q_40
          have j_33 := JW.trans j_24 (JW.weak q_30 (Sub.cons LM0 (by decide) (by decide) (by decide) (Or.inr ⟨by decide, by decide⟩) (Sub.cons (LMs LM0) (by omega) (by omega) (by decide) (Or.inl rfl) (Sub.cons (LMs (LMs LM0)) (by omega) (by omega) (by decide) (Or.inl rfl) (Sub.cons (LMs (LMs (LMs LM0))) (by omega) (by omega) (by decide) (Or.inr ⟨by decide, by decide⟩) (Sub.cons (LMs (LMs (LMs (LMs LM0)))) (by decide) (by decide) (by decide) (Or.inr ⟨by decide, by decide⟩) Sub.nil))))))
          obtain ⟨a_35, ha_36, ⟨ts_t_37, tn_t_37, tf_t_37, te_t_37⟩, hb_t_37⟩ := h_31
          refine aw_if_ne (tgt := 73) dX5_readAnyOf_68 (by decide) (fun c_41 => ?_) (fun c_41 => ?_)
          · skip
            refine aw_aload_n dX5_readAnyOf_73 rfl ?_
            refine aw_get dX5_readAnyOf_74 fl_X5_9 ((j_33.2.1 _ hp.1 hp.2).trans hR) (by omega) rfl ?_
            refine aw_iload_n dX5_readAnyOf_77 rfl ?_
            obtain ⟨s8_45, r8_45, h8_45, e_45, hs_45, hr_45⟩ := JW.get j_33 (ctl_0 hx)
            refine aw_callVv (J' := jX4_leadHere) (As := [.int r_27]) (st := []) dX5_readAnyOf_78 tb_521 ok_X4_leadHere ⟨_, e_45⟩ (by omega) rfl rfl (g_X4_leadHere l D b N V_34 hN j_33.1 x hx r_27) rfl (Nat.le_of_ble_eq_true rfl) ⟨Nat.le_of_ble_eq_true rfl, Nat.le_of_ble_eq_true rfl, Nat.le_of_ble_eq_true rfl, Nat.le_of_ble_eq_true rfl⟩ (fun  N_46 V_44 q_47 => ?_)
            obtain ⟨rfl, q_42⟩ := q_47
            have j_43 := JW.trans j_33 (JW.weak q_42 (Sub.cons (LMs (LMs LM0)) (by omega) (by omega) (by decide) (Or.inl rfl) Sub.nil))
            refine aw_goto (tgt := 10) dX5_readAnyOf_81 (by decide) ?_
            refine aw_le ?_ (mih_10_13 _ (by omega) a_35 V_44 rfl (j_43) (⟨⟨_, _, _, ((JW.same q_42 (by decide) (fun k => (nfc (by omega) nf0))).trans te_t_37)⟩, by omega⟩) (by omega))
            exact ⟨rfl, ⟨rfl, trivial⟩⟩
          · skip
            refine aw_iconst (v := 0) dX5_readAnyOf_71 (by decide) ?_
            refine aw_zreti dX5_readAnyOf_72 rfl (by first | exact Or.inl rfl | exact Or.inr rfl | assumption) (Nat.le_of_ble_eq_true rfl) (Nat.le_of_ble_eq_true rfl) ?_
            exact ⟨⟨(by first | exact Or.inl rfl | exact Or.inr rfl | assumption), ⟨a_35, by omega, ⟨⟨_, _, _, te_t_37⟩, by omega⟩⟩⟩, rfl, j_33⟩
    refine aw_le ?_ (ml_10_13 _ a_6 V_5 rfl (j_4) (⟨⟨_, _, _, te_t_8⟩, by omega⟩) (by omega))
    exact ⟨rfl, ⟨rfl, trivial⟩⟩
  · skip
    refine aw_iconst (v := 0) dX5_readAnyOf_8 (by decide) ?_
    refine aw_zreti dX5_readAnyOf_9 rfl (by first | exact Or.inl rfl | exact Or.inr rfl | assumption) (Nat.le_of_ble_eq_true rfl) (Nat.le_of_ble_eq_true rfl) ?_
    exact ⟨⟨(by first | exact Or.inl rfl | exact Or.inr rfl | assumption), ⟨a_6, by omega, ⟨⟨_, _, _, te_t_8⟩, by omega⟩⟩⟩, rfl, j_4⟩

set_option maxHeartbeats 4000000 in
set_option maxRecDepth 100000 in
theorem g_X5_open_4 (l : Launch) (D : va_G) (b : Nat) (N : Nat) (V : Wd) (hN : 100 ≤ N) (hW : CW D b V) (p x : Nat) (hp : 100 ≤ p ∧ p < N) (hx : x = 57 ∨ x = 65) (hR : V p = cO 5 [.ref (b + 1), .ref (b + x)]) (a : Nat) (hT : TA b a V) (hlt : a < 260) : MI l D b 1 jX5_open [.ref (b + p), .int 4] N V 0 0 (fun r N9 V9 => ((r = 0 ∨ r = 1) ∧ ((r = 1) ∧ ∃ a9, a ≤ a9 ∧ TA b a9 V9)) ∧ N = N9 ∧ JW D b N [(1, 1, 3, 3)] V V9) := by
  have hJ0 : JW D b N [(1, 1, 3, 3)] V V := JW.rf hW
  obtain ⟨⟨ts_0, tn_0, tf_0, te_0⟩, ha_0⟩ := id hT
  refine mw_of (by decide) (by simp [Value.category]) (Nat.le_of_ble_eq_true rfl) ?_
  show AW l D b jX5_open (fx_rm 1 0 0) none (fx_MQ D b 0 0 (fx_qi (fun r N9 V9 => ((r = 0 ∨ r = 1) ∧ ((r = 1) ∧ ∃ a9, a ≤ a9 ∧ TA b a9 V9)) ∧ N = N9 ∧ JW D b N [(1, 1, 3, 3)] V V9))) 0 [some (.ref (b + p)), some (.int 4)] [] N V 0 0
  refine aw_iload_n dX5_open_0 rfl ?_
  refine aw_bipush (v := 6) dX5_open_1 (by decide) ?_
  refine aw_icmp_lt (tgt := 22) dX5_open_3 (by decide) (fun c_1 => ?_) (fun c_1 => ?_)
  rotate_left
  · exact absurd (by decide) c_1
  refine aw_aload_n dX5_open_22 rfl ?_
  refine aw_get dX5_open_23 fl_X5_15 ((hJ0.2.1 _ hp.1 hp.2).trans hR) (by omega) rfl ?_
  refine aw_dup dX5_open_26 rfl ?_
  refine aw_get dX5_open_27 fl_X5_25 te_0 (by omega) rfl ?_
  refine aw_iconst (v := 1) dX5_open_30 (by decide) ?_
  refine aw_iadd dX5_open_31 ?_
  refine aw_eqi (y := nI (a + 1)) (nI_add _ _) ?_
  refine aw_put dX5_open_32 fp_X5_25 te_0 (by omega) rfl rfl (Nat.le_of_ble_eq_true rfl) rfl ?_
  refine aw_up hJ0 ct_1 ⟨_, _, _, (a + 1), rfl, (by first | omega | (split <;> omega))⟩ (WO (s := 3) (x := .int (nI (a + 1))) te_0 rfl LM0 (by decide) (by decide) (by decide) (Or.inl (by decide))) (fun V_2 j_2 k_2 e_2 => ?_)
  refine aw_iconst (v := 1) dX5_open_35 (by decide) ?_
  refine aw_zreti dX5_open_36 rfl (by first | exact Or.inl rfl | exact Or.inr rfl | assumption) (Nat.le_of_ble_eq_true rfl) (Nat.le_of_ble_eq_true rfl) ?_
  exact ⟨⟨(by first | exact Or.inl rfl | exact Or.inr rfl | assumption), ⟨rfl, ⟨(a + 1), by omega, ⟨⟨_, _, _, e_2⟩, by omega⟩⟩⟩⟩, rfl, j_2⟩

set_option maxHeartbeats 4000000 in
set_option maxRecDepth 100000 in
theorem g_X5_readFactor_4 (l : Launch) (D : va_G) (b : Nat) (N : Nat) (V : Wd) (hN : 100 ≤ N) (hW : CW D b V) (p x : Nat) (hp : 100 ≤ p ∧ p < N) (hx : x = 57 ∨ x = 65) (hR : V p = cO 5 [.ref (b + 1), .ref (b + x)]) (a : Nat) (hT : TA b a V) : MI l D b 11 jX5_readFactor [.ref (b + p), .int 4] N V 0 0 (fun r N9 V9 => ((r = 0 ∨ r = 1) ∧ (∃ a9, a ≤ a9 ∧ TA b a9 V9)) ∧ N = N9 ∧ JW D b N [(1, 1, 3, 3), (x + 1, x + 1, 0, 1000000), (x + 2, x + 2, 0, 1000000), (x, x, 2, 2), (1, 1, 4, 4)] V V9) := by
  have hJ0 : JW D b N [(1, 1, 3, 3), (x + 1, x + 1, 0, 1000000), (x + 2, x + 2, 0, 1000000), (x, x, 2, 2), (1, 1, 4, 4)] V V := JW.rf hW
  obtain ⟨⟨ts_0, tn_0, tf_0, te_0⟩, ha_0⟩ := id hT
  refine mw_of (by decide) (by simp [Value.category]) (Nat.le_of_ble_eq_true rfl) ?_
  show AW l D b jX5_readFactor (fx_rm 11 0 0) none (fx_MQ D b 0 0 (fx_qi (fun r N9 V9 => ((r = 0 ∨ r = 1) ∧ (∃ a9, a ≤ a9 ∧ TA b a9 V9)) ∧ N = N9 ∧ JW D b N [(1, 1, 3, 3), (x + 1, x + 1, 0, 1000000), (x + 2, x + 2, 0, 1000000), (x, x, 2, 2), (1, 1, 4, 4)] V V9))) 0 [some (.ref (b + p)), some (.int 4), none, none] [] N V 0 0
  refine aw_aload_n dX5_readFactor_0 rfl ?_
  refine aw_get dX5_readFactor_1 fl_X5_15 ((hJ0.2.1 _ hp.1 hp.2).trans hR) (by omega) rfl ?_
  refine aw_callVi (J' := jX10_now) (As := []) (st := []) dX5_readFactor_4 tb_390 ok_X10_now ⟨_, te_0⟩ (by omega) rfl rfl (g_X10_now l D b N V hN hJ0.1 a (⟨⟨_, _, _, te_0⟩, by omega⟩)) rfl (Nat.le_of_ble_eq_true rfl) ⟨Nat.le_of_ble_eq_true rfl, Nat.le_of_ble_eq_true rfl, Nat.le_of_ble_eq_true rfl, Nat.le_of_ble_eq_true rfl⟩ (fun r_3 N_4 V_5 q_6 => ?_)
  obtain ⟨h_2, rfl, rfl⟩ := q_6
  refine aw_istore_n (ls' := [some (.ref (b + p)), some (.int 4), some (.int r_3), none]) dX5_readFactor_7 (Nat.le_of_ble_eq_true rfl) rfl ?_
  refine aw_iload_n dX5_readFactor_8 rfl ?_
  refine aw_bipush (v := 91) dX5_readFactor_9 (by decide) ?_
  refine aw_icmp_ne (tgt := 50) dX5_readFactor_11 (by decide) (fun c_7 => ?_) (fun c_7 => ?_)
  · skip
    refine aw_iload_n dX5_readFactor_50 rfl ?_
    refine aw_callSi (J' := jX10_isDigit) (As := [.int r_3]) (st := []) dX5_readFactor_51 tb_413 ok_X10_isDigit rfl (g_X10_isDigit l D b N V hN hJ0.1 r_3) rfl (Nat.le_of_ble_eq_true rfl) ⟨Nat.le_of_ble_eq_true rfl, Nat.le_of_ble_eq_true rfl, Nat.le_of_ble_eq_true rfl, Nat.le_of_ble_eq_true rfl⟩ (fun r_11 N_12 V_13 q_14 => ?_)
    obtain ⟨⟨z_10, h_9⟩, rfl, rfl⟩ := q_14
    refine aw_if_eq (tgt := 85) dX5_readFactor_54 (by decide) (fun c_15 => ?_) (fun c_15 => ?_)
    · skip
      refine aw_iload_n dX5_readFactor_85 rfl ?_
      refine aw_if_ge (tgt := 93) dX5_readFactor_86 (by decide) (fun c_16 => ?_) (fun c_16 => ?_)
      · skip
        have hlc_16 := h_2.resolve_left (fun z => absurd c_16 (by rw [z]; decide))
        refine aw_strIdx rfl dX5_readFactor_93 dX5_readFactor_95 dX5_readFactor_96 dX5_readFactor_97 rfl rfl (Nat.le_of_ble_eq_true rfl) ⟨Nat.le_of_ble_eq_true rfl, Nat.le_of_ble_eq_true rfl, Nat.le_of_ble_eq_true rfl, Nat.le_of_ble_eq_true rfl⟩ (fun ixr => ?_)
        refine aw_istore_n (ls' := [some (.ref (b + p)), some (.int 4), some (.int r_3), some (.int ixr)]) dX5_readFactor_100 (Nat.le_of_ble_eq_true rfl) rfl ?_
        refine aw_iload_n dX5_readFactor_101 rfl ?_
        refine aw_if_ge (tgt := 113) dX5_readFactor_102 (by decide) (fun c_17 => ?_) (fun c_17 => ?_)
        · skip
          refine aw_aload_n dX5_readFactor_113 rfl ?_
          refine aw_get dX5_readFactor_114 fl_X5_15 ((hJ0.2.1 _ hp.1 hp.2).trans hR) (by omega) rfl ?_
          refine aw_dup dX5_readFactor_117 rfl ?_
          refine aw_get dX5_readFactor_118 fl_X5_25 te_0 (by omega) rfl ?_
          refine aw_iconst (v := 1) dX5_readFactor_121 (by decide) ?_
          refine aw_iadd dX5_readFactor_122 ?_
          refine aw_eqi (y := nI (a + 1)) (nI_add _ _) ?_
          refine aw_put dX5_readFactor_123 fp_X5_25 te_0 (by omega) rfl rfl (Nat.le_of_ble_eq_true rfl) rfl ?_
          refine aw_up hJ0 ct_1 ⟨_, _, _, (a + 1), rfl, (by first | omega | (split <;> omega))⟩ (WO (s := 3) (x := .int (nI (a + 1))) te_0 rfl LM0 (by decide) (by decide) (by decide) (Or.inl (by decide))) (fun V_18 j_18 k_18 e_18 => ?_)
          refine aw_aload_n dX5_readFactor_126 rfl ?_
          refine aw_get dX5_readFactor_127 fl_X5_9 ((j_18.2.1 _ hp.1 hp.2).trans hR) (by omega) rfl ?_
          refine aw_bipush (v := 64) dX5_readFactor_130 (by decide) ?_
          refine aw_iload_n dX5_readFactor_132 rfl ?_
          obtain ⟨s8_22, r8_22, h8_22, e_22, hs_22, hr_22⟩ := JW.get j_18 (ctl_0 hx)
          refine aw_callVi (J' := jX4_add) (As := [.int 64, .int ixr]) (st := []) dX5_readFactor_133 tb_415 ok_X4_add ⟨_, e_22⟩ (by omega) rfl rfl (g_X4_add l D b N V_18 hN j_18.1 x hx 64 ixr c_17) rfl (Nat.le_of_ble_eq_true rfl) ⟨Nat.le_of_ble_eq_true rfl, Nat.le_of_ble_eq_true rfl, Nat.le_of_ble_eq_true rfl, Nat.le_of_ble_eq_true rfl⟩ (fun r_23 N_24 V_21 q_25 => ?_)
          obtain ⟨rfl, q_19⟩ := q_25
          have j_20 := JW.trans j_18 (JW.weak q_19 (Sub.cons (LMs LM0) (by omega) (by omega) (by decide) (Or.inl rfl) (Sub.cons (LMs (LMs LM0)) (by omega) (by omega) (by decide) (Or.inl rfl) (Sub.cons (LMs (LMs (LMs LM0))) (by omega) (by omega) (by decide) (Or.inr ⟨by decide, by decide⟩) Sub.nil))))
          refine aw_pop dX5_readFactor_136 rfl ?_
          refine aw_iconst (v := 1) dX5_readFactor_137 (by decide) ?_
          refine aw_zreti dX5_readFactor_138 rfl (by first | exact Or.inl rfl | exact Or.inr rfl | assumption) (Nat.le_of_ble_eq_true rfl) (Nat.le_of_ble_eq_true rfl) ?_
          exact ⟨⟨(by first | exact Or.inl rfl | exact Or.inr rfl | assumption), ⟨(a + 1), by omega, ⟨⟨_, _, _, ((JW.same q_19 (by decide) (fun k => (nfc (by omega) (nfc (by omega) (nfc (by omega) nf0))))).trans e_18)⟩, by omega⟩⟩⟩, rfl, j_20⟩
        · skip
          refine aw_aload_n dX5_readFactor_105 rfl ?_
          refine aw_get dX5_readFactor_106 fl_X5_15 ((hJ0.2.1 _ hp.1 hp.2).trans hR) (by omega) rfl ?_
          refine aw_callVi (J' := jX10_cannotStand) (As := []) (st := []) dX5_readFactor_109 tb_493 ok_X10_cannotStand ⟨_, te_0⟩ (by omega) rfl rfl (g_X10_cannotStand l D b N V hN hJ0.1 a (⟨⟨_, _, _, te_0⟩, by omega⟩)) rfl (Nat.le_of_ble_eq_true rfl) ⟨Nat.le_of_ble_eq_true rfl, Nat.le_of_ble_eq_true rfl, Nat.le_of_ble_eq_true rfl, Nat.le_of_ble_eq_true rfl⟩ (fun r_35 N_36 V_30 q_37 => ?_)
          obtain ⟨⟨z_28, h_27⟩, rfl, q_26⟩ := q_37
          have j_29 := JW.trans hJ0 (JW.weak q_26 (Sub.cons (LMs (LMs (LMs (LMs LM0)))) (by decide) (by decide) (by decide) (Or.inr ⟨by decide, by decide⟩) Sub.nil))
          obtain ⟨h_34, a_31, ha_32, ⟨ts_t_33, tn_t_33, tf_t_33, te_t_33⟩, hb_t_33⟩ := h_27
          obtain rfl := h_34
          refine aw_zreti dX5_readFactor_112 rfl (by first | exact Or.inl rfl | exact Or.inr rfl | assumption) (Nat.le_of_ble_eq_true rfl) (Nat.le_of_ble_eq_true rfl) ?_
          exact ⟨⟨(by first | exact Or.inl rfl | exact Or.inr rfl | assumption), ⟨a_31, by omega, ⟨⟨_, _, _, te_t_33⟩, by omega⟩⟩⟩, rfl, j_29⟩
      · skip
        refine aw_iconst (v := (-1)) dX5_readFactor_89 (by decide) ?_
        refine aw_goto (tgt := 100) dX5_readFactor_90 (by decide) ?_
        refine aw_istore_n (ls' := [some (.ref (b + p)), some (.int 4), some (.int r_3), some (.int (-1))]) dX5_readFactor_100 (Nat.le_of_ble_eq_true rfl) rfl ?_
        refine aw_iload_n dX5_readFactor_101 rfl ?_
        refine aw_if_ge (tgt := 113) dX5_readFactor_102 (by decide) (fun c_38 => ?_) (fun c_38 => ?_)
        · exact absurd c_38 (by decide)
        refine aw_aload_n dX5_readFactor_105 rfl ?_
        refine aw_get dX5_readFactor_106 fl_X5_15 ((hJ0.2.1 _ hp.1 hp.2).trans hR) (by omega) rfl ?_
        refine aw_callVi (J' := jX10_cannotStand) (As := []) (st := []) dX5_readFactor_109 tb_493 ok_X10_cannotStand ⟨_, te_0⟩ (by omega) rfl rfl (g_X10_cannotStand l D b N V hN hJ0.1 a (⟨⟨_, _, _, te_0⟩, by omega⟩)) rfl (Nat.le_of_ble_eq_true rfl) ⟨Nat.le_of_ble_eq_true rfl, Nat.le_of_ble_eq_true rfl, Nat.le_of_ble_eq_true rfl, Nat.le_of_ble_eq_true rfl⟩ (fun r_48 N_49 V_43 q_50 => ?_)
        obtain ⟨⟨z_41, h_40⟩, rfl, q_39⟩ := q_50
        have j_42 := JW.trans hJ0 (JW.weak q_39 (Sub.cons (LMs (LMs (LMs (LMs LM0)))) (by decide) (by decide) (by decide) (Or.inr ⟨by decide, by decide⟩) Sub.nil))
        obtain ⟨h_47, a_44, ha_45, ⟨ts_t_46, tn_t_46, tf_t_46, te_t_46⟩, hb_t_46⟩ := h_40
        obtain rfl := h_47
        refine aw_zreti dX5_readFactor_112 rfl (by first | exact Or.inl rfl | exact Or.inr rfl | assumption) (Nat.le_of_ble_eq_true rfl) (Nat.le_of_ble_eq_true rfl) ?_
        exact ⟨⟨(by first | exact Or.inl rfl | exact Or.inr rfl | assumption), ⟨a_44, by omega, ⟨⟨_, _, _, te_t_46⟩, by omega⟩⟩⟩, rfl, j_42⟩
    · skip
      have h0c_15 := h_9.resolve_left c_15
      have hlc_15 := h_2.resolve_left (fun z => absurd h0c_15 (by rw [z]; decide))
      refine aw_aload_n dX5_readFactor_57 rfl ?_
      refine aw_get dX5_readFactor_58 fl_X5_15 ((hJ0.2.1 _ hp.1 hp.2).trans hR) (by omega) rfl ?_
      refine aw_iconst (v := 5) dX5_readFactor_61 (by decide) ?_
      refine aw_callVi (J' := jX10_readNumber) (As := [.int 5]) (st := []) dX5_readFactor_62 tb_414 ok_X10_readNumber ⟨_, te_0⟩ (by omega) rfl rfl (g_X10_readNumber l D b N V hN hJ0.1 5 a (⟨⟨_, _, _, te_0⟩, by omega⟩)) rfl (Nat.le_of_ble_eq_true rfl) ⟨Nat.le_of_ble_eq_true rfl, Nat.le_of_ble_eq_true rfl, Nat.le_of_ble_eq_true rfl, Nat.le_of_ble_eq_true rfl⟩ (fun r_58 N_59 V_54 q_60 => ?_)
      obtain ⟨h_52, rfl, q_51⟩ := q_60
      have j_53 := JW.trans hJ0 (JW.weak q_51 (Sub.cons LM0 (by decide) (by decide) (by decide) (Or.inr ⟨by decide, by decide⟩) (Sub.cons (LMs (LMs (LMs (LMs LM0)))) (by decide) (by decide) (by decide) (Or.inr ⟨by decide, by decide⟩) Sub.nil)))
      obtain ⟨a_55, ha_56, ⟨ts_t_57, tn_t_57, tf_t_57, te_t_57⟩, hb_t_57⟩ := h_52
      refine aw_istore_n (ls' := [some (.ref (b + p)), some (.int 4), some (.int r_3), some (.int r_58)]) dX5_readFactor_65 (Nat.le_of_ble_eq_true rfl) rfl ?_
      refine aw_iload_n dX5_readFactor_66 rfl ?_
      refine aw_if_ge (tgt := 72) dX5_readFactor_67 (by decide) (fun c_61 => ?_) (fun c_61 => ?_)
      · skip
        refine aw_aload_n dX5_readFactor_72 rfl ?_
        refine aw_get dX5_readFactor_73 fl_X5_9 ((j_53.2.1 _ hp.1 hp.2).trans hR) (by omega) rfl ?_
        refine aw_bipush (v := 35) dX5_readFactor_76 (by decide) ?_
        refine aw_iload_n dX5_readFactor_78 rfl ?_
        obtain ⟨s8_65, r8_65, h8_65, e_65, hs_65, hr_65⟩ := JW.get j_53 (ctl_0 hx)
        refine aw_callVi (J' := jX4_add) (As := [.int 35, .int r_58]) (st := []) dX5_readFactor_79 tb_415 ok_X4_add ⟨_, e_65⟩ (by omega) rfl rfl (g_X4_add l D b N V_54 hN j_53.1 x hx 35 r_58 c_61) rfl (Nat.le_of_ble_eq_true rfl) ⟨Nat.le_of_ble_eq_true rfl, Nat.le_of_ble_eq_true rfl, Nat.le_of_ble_eq_true rfl, Nat.le_of_ble_eq_true rfl⟩ (fun r_66 N_67 V_64 q_68 => ?_)
        obtain ⟨rfl, q_62⟩ := q_68
        have j_63 := JW.trans j_53 (JW.weak q_62 (Sub.cons (LMs LM0) (by omega) (by omega) (by decide) (Or.inl rfl) (Sub.cons (LMs (LMs LM0)) (by omega) (by omega) (by decide) (Or.inl rfl) (Sub.cons (LMs (LMs (LMs LM0))) (by omega) (by omega) (by decide) (Or.inr ⟨by decide, by decide⟩) Sub.nil))))
        refine aw_pop dX5_readFactor_82 rfl ?_
        refine aw_iconst (v := 1) dX5_readFactor_83 (by decide) ?_
        refine aw_zreti dX5_readFactor_84 rfl (by first | exact Or.inl rfl | exact Or.inr rfl | assumption) (Nat.le_of_ble_eq_true rfl) (Nat.le_of_ble_eq_true rfl) ?_
        exact ⟨⟨(by first | exact Or.inl rfl | exact Or.inr rfl | assumption), ⟨a_55, by omega, ⟨⟨_, _, _, ((JW.same q_62 (by decide) (fun k => (nfc (by omega) (nfc (by omega) (nfc (by omega) nf0))))).trans te_t_57)⟩, by omega⟩⟩⟩, rfl, j_63⟩
      · skip
        refine aw_iconst (v := 0) dX5_readFactor_70 (by decide) ?_
        refine aw_zreti dX5_readFactor_71 rfl (by first | exact Or.inl rfl | exact Or.inr rfl | assumption) (Nat.le_of_ble_eq_true rfl) (Nat.le_of_ble_eq_true rfl) ?_
        exact ⟨⟨(by first | exact Or.inl rfl | exact Or.inr rfl | assumption), ⟨a_55, by omega, ⟨⟨_, _, _, te_t_57⟩, by omega⟩⟩⟩, rfl, j_53⟩
  · skip
    have hlc_7 := h_2.resolve_left (by rw [c_7]; decide)
    refine aw_aload_n dX5_readFactor_14 rfl ?_
    refine aw_iload_n dX5_readFactor_15 rfl ?_
    refine aw_callVi (J' := jX5_open) (As := [.int 4]) (st := []) dX5_readFactor_16 tb_407 ok_X5_open ⟨_, ((hJ0.2.1 _ hp.1 hp.2).trans hR)⟩ (by omega) rfl rfl (g_X5_open_4 l D b N V hN hJ0.1 p x ⟨by omega, by omega⟩ hx ((hJ0.2.1 _ hp.1 hp.2).trans hR) a (⟨⟨_, _, _, te_0⟩, by omega⟩) (by omega)) rfl (Nat.le_of_ble_eq_true rfl) ⟨Nat.le_of_ble_eq_true rfl, Nat.le_of_ble_eq_true rfl, Nat.le_of_ble_eq_true rfl, Nat.le_of_ble_eq_true rfl⟩ (fun r_78 N_79 V_73 q_80 => ?_)
    obtain ⟨⟨z_71, h_70⟩, rfl, q_69⟩ := q_80
    have j_72 := JW.trans hJ0 (JW.weak q_69 (Sub.cons LM0 (by decide) (by decide) (by decide) (Or.inr ⟨by decide, by decide⟩) Sub.nil))
    obtain ⟨h_77, a_74, ha_75, ⟨ts_t_76, tn_t_76, tf_t_76, te_t_76⟩, hb_t_76⟩ := h_70
    obtain rfl := h_77
    refine aw_if_eq (tgt := 48) dX5_readFactor_19 (by decide) (fun c_81 => ?_) (fun c_81 => ?_)
    · exact absurd c_81 (by decide)
    refine aw_aload_n dX5_readFactor_22 rfl ?_
    refine aw_iload_n dX5_readFactor_23 rfl ?_
    refine aw_iconst (v := 1) dX5_readFactor_24 (by decide) ?_
    refine aw_iadd dX5_readFactor_25 ?_
    refine aw_eqi (y := 5) (by decide) ?_
    refine aw_callVi (J' := jX5_readSum) (As := [.int 5]) (st := []) dX5_readFactor_26 tb_395 ok_X5_readSum ⟨_, ((j_72.2.1 _ hp.1 hp.2).trans hR)⟩ (by omega) rfl rfl (g_X5_readSum_5 l D b N V_73 hN j_72.1 p x ⟨by omega, by omega⟩ hx ((j_72.2.1 _ hp.1 hp.2).trans hR) a_74 (⟨⟨_, _, _, te_t_76⟩, by omega⟩)) rfl (Nat.le_of_ble_eq_true rfl) ⟨Nat.le_of_ble_eq_true rfl, Nat.le_of_ble_eq_true rfl, Nat.le_of_ble_eq_true rfl, Nat.le_of_ble_eq_true rfl⟩ (fun r_90 N_91 V_86 q_92 => ?_)
    obtain ⟨⟨z_84, h_83⟩, rfl, q_82⟩ := q_92
    have j_85 := JW.trans j_72 (JW.weak q_82 (Sub.cons LM0 (by decide) (by decide) (by decide) (Or.inr ⟨by decide, by decide⟩) (Sub.cons (LMs LM0) (by omega) (by omega) (by decide) (Or.inl rfl) (Sub.cons (LMs (LMs LM0)) (by omega) (by omega) (by decide) (Or.inl rfl) (Sub.cons (LMs (LMs (LMs LM0))) (by omega) (by omega) (by decide) (Or.inr ⟨by decide, by decide⟩) (Sub.cons (LMs (LMs (LMs (LMs LM0)))) (by decide) (by decide) (by decide) (Or.inr ⟨by decide, by decide⟩) Sub.nil))))))
    obtain ⟨a_87, ha_88, ⟨ts_t_89, tn_t_89, tf_t_89, te_t_89⟩, hb_t_89⟩ := h_83
    refine aw_if_eq (tgt := 48) dX5_readFactor_29 (by decide) (fun c_93 => ?_) (fun c_93 => ?_)
    · skip
      refine aw_iconst (v := 0) dX5_readFactor_48 (by decide) ?_
      refine aw_zreti dX5_readFactor_49 rfl (by first | exact Or.inl rfl | exact Or.inr rfl | assumption) (Nat.le_of_ble_eq_true rfl) (Nat.le_of_ble_eq_true rfl) ?_
      exact ⟨⟨(by first | exact Or.inl rfl | exact Or.inr rfl | assumption), ⟨a_87, by omega, ⟨⟨_, _, _, te_t_89⟩, by omega⟩⟩⟩, rfl, j_85⟩
    · skip
      refine aw_aload_n dX5_readFactor_32 rfl ?_
      refine aw_get dX5_readFactor_33 fl_X5_15 ((j_85.2.1 _ hp.1 hp.2).trans hR) (by omega) rfl ?_
      refine aw_bipush (v := 93) dX5_readFactor_36 (by decide) ?_
      refine aw_callVi (J' := jX10_expect) (As := [.int 93]) (st := []) dX5_readFactor_38 tb_412 ok_X10_expect ⟨_, te_t_89⟩ (by omega) rfl rfl (g_X10_expect l D b N V_86 hN j_85.1 93 a_87 (⟨⟨_, _, _, te_t_89⟩, by omega⟩) (by decide)) rfl (Nat.le_of_ble_eq_true rfl) ⟨Nat.le_of_ble_eq_true rfl, Nat.le_of_ble_eq_true rfl, Nat.le_of_ble_eq_true rfl, Nat.le_of_ble_eq_true rfl⟩ (fun r_102 N_103 V_98 q_104 => ?_)
      obtain ⟨⟨z_96, h_95⟩, rfl, q_94⟩ := q_104
      have j_97 := JW.trans j_85 (JW.weak q_94 (Sub.cons LM0 (by decide) (by decide) (by decide) (Or.inr ⟨by decide, by decide⟩) (Sub.cons (LMs (LMs (LMs (LMs LM0)))) (by decide) (by decide) (by decide) (Or.inr ⟨by decide, by decide⟩) Sub.nil)))
      obtain ⟨a_99, ha_100, ⟨ts_t_101, tn_t_101, tf_t_101, te_t_101⟩, hb_t_101⟩ := h_95
      refine aw_if_eq (tgt := 48) dX5_readFactor_41 (by decide) (fun c_105 => ?_) (fun c_105 => ?_)
      · skip
        refine aw_iconst (v := 0) dX5_readFactor_48 (by decide) ?_
        refine aw_zreti dX5_readFactor_49 rfl (by first | exact Or.inl rfl | exact Or.inr rfl | assumption) (Nat.le_of_ble_eq_true rfl) (Nat.le_of_ble_eq_true rfl) ?_
        exact ⟨⟨(by first | exact Or.inl rfl | exact Or.inr rfl | assumption), ⟨a_99, by omega, ⟨⟨_, _, _, te_t_101⟩, by omega⟩⟩⟩, rfl, j_97⟩
      · skip
        refine aw_iconst (v := 1) dX5_readFactor_44 (by decide) ?_
        refine aw_goto (tgt := 49) dX5_readFactor_45 (by decide) ?_
        refine aw_zreti dX5_readFactor_49 rfl (by first | exact Or.inl rfl | exact Or.inr rfl | assumption) (Nat.le_of_ble_eq_true rfl) (Nat.le_of_ble_eq_true rfl) ?_
        exact ⟨⟨(by first | exact Or.inl rfl | exact Or.inr rfl | assumption), ⟨a_99, by omega, ⟨⟨_, _, _, te_t_101⟩, by omega⟩⟩⟩, rfl, j_97⟩

set_option maxHeartbeats 4000000 in
set_option maxRecDepth 100000 in
theorem g_X5_readProduct_4 (l : Launch) (D : va_G) (b : Nat) (N : Nat) (V : Wd) (hN : 100 ≤ N) (hW : CW D b V) (p x : Nat) (hp : 100 ≤ p ∧ p < N) (hx : x = 57 ∨ x = 65) (hR : V p = cO 5 [.ref (b + 1), .ref (b + x)]) (a : Nat) (hT : TA b a V) : MI l D b 12 jX5_readProduct [.ref (b + p), .int 4] N V 0 0 (fun r N9 V9 => ((r = 0 ∨ r = 1) ∧ (∃ a9, a ≤ a9 ∧ TA b a9 V9)) ∧ N = N9 ∧ JW D b N [(1, 1, 3, 3), (x + 1, x + 1, 0, 1000000), (x + 2, x + 2, 0, 1000000), (x, x, 2, 2), (1, 1, 4, 4)] V V9) := by
  have hJ0 : JW D b N [(1, 1, 3, 3), (x + 1, x + 1, 0, 1000000), (x + 2, x + 2, 0, 1000000), (x, x, 2, 2), (1, 1, 4, 4)] V V := JW.rf hW
  obtain ⟨⟨ts_0, tn_0, tf_0, te_0⟩, ha_0⟩ := id hT
  refine mw_of (by decide) (by simp [Value.category]) (Nat.le_of_ble_eq_true rfl) ?_
  show AW l D b jX5_readProduct (fx_rm 12 0 0) none (fx_MQ D b 0 0 (fx_qi (fun r N9 V9 => ((r = 0 ∨ r = 1) ∧ (∃ a9, a ≤ a9 ∧ TA b a9 V9)) ∧ N = N9 ∧ JW D b N [(1, 1, 3, 3), (x + 1, x + 1, 0, 1000000), (x + 2, x + 2, 0, 1000000), (x, x, 2, 2), (1, 1, 4, 4)] V V9))) 0 [some (.ref (b + p)), some (.int 4), none] [] N V 0 0
  refine aw_aload_n dX5_readProduct_0 rfl ?_
  refine aw_iload_n dX5_readProduct_1 rfl ?_
  refine aw_callVi (J' := jX5_readFactor) (As := [.int 4]) (st := []) dX5_readProduct_2 tb_403 ok_X5_readFactor ⟨_, ((hJ0.2.1 _ hp.1 hp.2).trans hR)⟩ (by omega) rfl rfl (g_X5_readFactor_4 l D b N V hN hJ0.1 p x ⟨by omega, by omega⟩ hx ((hJ0.2.1 _ hp.1 hp.2).trans hR) a (⟨⟨_, _, _, te_0⟩, by omega⟩)) rfl (Nat.le_of_ble_eq_true rfl) ⟨Nat.le_of_ble_eq_true rfl, Nat.le_of_ble_eq_true rfl, Nat.le_of_ble_eq_true rfl, Nat.le_of_ble_eq_true rfl⟩ (fun r_9 N_10 V_5 q_11 => ?_)
  obtain ⟨⟨z_3, h_2⟩, rfl, q_1⟩ := q_11
  have j_4 := JW.trans hJ0 (JW.weak q_1 (Sub.cons LM0 (by decide) (by decide) (by decide) (Or.inr ⟨by decide, by decide⟩) (Sub.cons (LMs LM0) (by omega) (by omega) (by decide) (Or.inl rfl) (Sub.cons (LMs (LMs LM0)) (by omega) (by omega) (by decide) (Or.inl rfl) (Sub.cons (LMs (LMs (LMs LM0))) (by omega) (by omega) (by decide) (Or.inr ⟨by decide, by decide⟩) (Sub.cons (LMs (LMs (LMs (LMs LM0)))) (by decide) (by decide) (by decide) (Or.inr ⟨by decide, by decide⟩) Sub.nil))))))
  obtain ⟨a_6, ha_7, ⟨ts_t_8, tn_t_8, tf_t_8, te_t_8⟩, hb_t_8⟩ := h_2
  refine aw_if_ne (tgt := 10) dX5_readProduct_5 (by decide) (fun c_12 => ?_) (fun c_12 => ?_)
  · skip
    have ml_10_13 : ∀ (m : Nat) (a10 : Nat) (V10 : Wd), m = 260 - a10 → (JW D b N [(1, 1, 3, 3), (x + 1, x + 1, 0, 1000000), (x + 2, x + 2, 0, 1000000), (x, x, 2, 2), (1, 1, 4, 4)] V V10) → (TA b a10 V10) → (a ≤ a10) → AW l D b jX5_readProduct (fx_rm 12 0 0) none (fx_MQ D b 0 0 (fx_qi (fun r N9 V9 => ((r = 0 ∨ r = 1) ∧ (∃ a9, a ≤ a9 ∧ TA b a9 V9)) ∧ N = N9 ∧ JW D b N [(1, 1, 3, 3), (x + 1, x + 1, 0, 1000000), (x + 2, x + 2, 0, 1000000), (x, x, 2, 2), (1, 1, 4, 4)] V V9))) 10 [some (.ref (b + p)), some (.int 4), none] [] N V10 0 0 := by
      intro m; refine Nat.strongRecOn m ?_
      intro m mih_10_13 a10 V10 hm10 i10_0 i10_1 i10_2
      obtain ⟨⟨ts_10, tn_10, tf_10, te_10⟩, hb_10⟩ := i10_1
      refine aw_aload_n dX5_readProduct_10 rfl ?_
      refine aw_get dX5_readProduct_11 fl_X5_15 ((i10_0.2.1 _ hp.1 hp.2).trans hR) (by omega) rfl ?_
      refine aw_get dX5_readProduct_14 fl_X5_25 te_10 (by omega) rfl ?_
      refine aw_aload_n dX5_readProduct_17 rfl ?_
      refine aw_get dX5_readProduct_18 fl_X5_15 ((i10_0.2.1 _ hp.1 hp.2).trans hR) (by omega) rfl ?_
      refine aw_get dX5_readProduct_21 fl_X5_59 te_10 (by omega) rfl ?_
      refine aw_icmp_ge (tgt := 84) dX5_readProduct_24 (by decide) (fun c_14 => ?_) (fun c_14 => ?_)
      · skip
        refine aw_iconst (v := 1) dX5_readProduct_84 (by decide) ?_
        refine aw_zreti dX5_readProduct_85 rfl (by first | exact Or.inl rfl | exact Or.inr rfl | assumption) (Nat.le_of_ble_eq_true rfl) (Nat.le_of_ble_eq_true rfl) ?_
        exact ⟨⟨(by first | exact Or.inl rfl | exact Or.inr rfl | assumption), ⟨a10, by omega, ⟨⟨_, _, _, te_10⟩, by omega⟩⟩⟩, rfl, i10_0⟩
      · skip
        refine aw_aload_n dX5_readProduct_27 rfl ?_
        refine aw_get dX5_readProduct_28 fl_X5_15 ((i10_0.2.1 _ hp.1 hp.2).trans hR) (by omega) rfl ?_
        refine aw_callVi (J' := jX10_now) (As := []) (st := []) dX5_readProduct_31 tb_390 ok_X10_now ⟨_, te_10⟩ (by omega) rfl rfl (g_X10_now l D b N V10 hN i10_0.1 a10 (⟨⟨_, _, _, te_10⟩, by omega⟩)) rfl (Nat.le_of_ble_eq_true rfl) ⟨Nat.le_of_ble_eq_true rfl, Nat.le_of_ble_eq_true rfl, Nat.le_of_ble_eq_true rfl, Nat.le_of_ble_eq_true rfl⟩ (fun r_17 N_18 V_19 q_20 => ?_)
        obtain ⟨h_16, rfl, rfl⟩ := q_20
        refine aw_callSi (J' := jX5_joinsFactors) (As := [.int r_17]) (st := []) dX5_readProduct_34 tb_494 ok_X5_joinsFactors rfl (g_X5_joinsFactors l D b N V10 hN i10_0.1 r_17) rfl (Nat.le_of_ble_eq_true rfl) ⟨Nat.le_of_ble_eq_true rfl, Nat.le_of_ble_eq_true rfl, Nat.le_of_ble_eq_true rfl, Nat.le_of_ble_eq_true rfl⟩ (fun r_24 N_25 V_26 q_27 => ?_)
        obtain ⟨⟨z_23, h_22⟩, rfl, rfl⟩ := q_27
        refine aw_if_eq (tgt := 84) dX5_readProduct_37 (by decide) (fun c_28 => ?_) (fun c_28 => ?_)
        · skip
          refine aw_iconst (v := 1) dX5_readProduct_84 (by decide) ?_
          refine aw_zreti dX5_readProduct_85 rfl (by first | exact Or.inl rfl | exact Or.inr rfl | assumption) (Nat.le_of_ble_eq_true rfl) (Nat.le_of_ble_eq_true rfl) ?_
          exact ⟨⟨(by first | exact Or.inl rfl | exact Or.inr rfl | assumption), ⟨a10, by omega, ⟨⟨_, _, _, te_10⟩, by omega⟩⟩⟩, rfl, i10_0⟩
        · skip
          have h0c_28 := h_22.resolve_left c_28
          have hlc_28 := h_16.resolve_left (fun z => absurd h0c_28 (by rw [z]; decide))
          refine aw_aload_n dX5_readProduct_40 rfl ?_
          refine aw_get dX5_readProduct_41 fl_X5_15 ((i10_0.2.1 _ hp.1 hp.2).trans hR) (by omega) rfl ?_
          refine aw_callVi (J' := jX10_now) (As := []) (st := []) dX5_readProduct_44 tb_390 ok_X10_now ⟨_, te_10⟩ (by omega) rfl rfl (g_X10_now l D b N V10 hN i10_0.1 a10 (⟨⟨_, _, _, te_10⟩, by omega⟩)) rfl (Nat.le_of_ble_eq_true rfl) ⟨Nat.le_of_ble_eq_true rfl, Nat.le_of_ble_eq_true rfl, Nat.le_of_ble_eq_true rfl, Nat.le_of_ble_eq_true rfl⟩ (fun r_31 N_32 V_33 q_34 => ?_)
          obtain ⟨h_30, rfl, rfl⟩ := q_34
          refine aw_istore_n (ls' := [some (.ref (b + p)), some (.int 4), some (.int r_31)]) dX5_readProduct_47 (Nat.le_of_ble_eq_true rfl) rfl ?_
          refine aw_aload_n dX5_readProduct_48 rfl ?_
          refine aw_get dX5_readProduct_49 fl_X5_15 ((i10_0.2.1 _ hp.1 hp.2).trans hR) (by omega) rfl ?_
          refine aw_dup dX5_readProduct_52 rfl ?_
          refine aw_get dX5_readProduct_53 fl_X5_25 te_10 (by omega) rfl ?_
          refine aw_iconst (v := 1) dX5_readProduct_56 (by decide) ?_
          refine aw_iadd dX5_readProduct_57 ?_
          refine aw_eqi (y := nI (a10 + 1)) (nI_add _ _) ?_
          refine aw_put dX5_readProduct_58 fp_X5_25 te_10 (by omega) rfl rfl (Nat.le_of_ble_eq_true rfl) rfl ?_
          refine aw_up i10_0 ct_1 ⟨_, _, _, (a10 + 1), rfl, (by first | omega | (split <;> omega))⟩ (WO (s := 3) (x := .int (nI (a10 + 1))) te_10 rfl LM0 (by decide) (by decide) (by decide) (Or.inl (by decide))) (fun V_35 j_35 k_35 e_35 => ?_)
          refine aw_aload_n dX5_readProduct_61 rfl ?_
          refine aw_iload_n dX5_readProduct_62 rfl ?_
          refine aw_callVi (J' := jX5_readFactor) (As := [.int 4]) (st := []) dX5_readProduct_63 tb_403 ok_X5_readFactor ⟨_, ((j_35.2.1 _ hp.1 hp.2).trans hR)⟩ (by omega) rfl rfl (g_X5_readFactor_4 l D b N V_35 hN j_35.1 p x ⟨by omega, by omega⟩ hx ((j_35.2.1 _ hp.1 hp.2).trans hR) (a10 + 1) (⟨⟨_, _, _, e_35⟩, by omega⟩)) rfl (Nat.le_of_ble_eq_true rfl) ⟨Nat.le_of_ble_eq_true rfl, Nat.le_of_ble_eq_true rfl, Nat.le_of_ble_eq_true rfl, Nat.le_of_ble_eq_true rfl⟩ (fun r_44 N_45 V_40 q_46 => ?_)
          obtain ⟨⟨z_38, h_37⟩, rfl, q_36⟩ := q_46
          have j_39 := JW.trans j_35 (JW.weak q_36 (Sub.cons LM0 (by decide) (by decide) (by decide) (Or.inr ⟨by decide, by decide⟩) (Sub.cons (LMs LM0) (by omega) (by omega) (by decide) (Or.inl rfl) (Sub.cons (LMs (LMs LM0)) (by omega) (by omega) (by decide) (Or.inl rfl) (Sub.cons (LMs (LMs (LMs LM0))) (by omega) (by omega) (by decide) (Or.inr ⟨by decide, by decide⟩) (Sub.cons (LMs (LMs (LMs (LMs LM0)))) (by decide) (by decide) (by decide) (Or.inr ⟨by decide, by decide⟩) Sub.nil))))))
          obtain ⟨a_41, ha_42, ⟨ts_t_43, tn_t_43, tf_t_43, te_t_43⟩, hb_t_43⟩ := h_37
          refine aw_if_ne (tgt := 71) dX5_readProduct_66 (by decide) (fun c_47 => ?_) (fun c_47 => ?_)
          · skip
            refine aw_aload_n dX5_readProduct_71 rfl ?_
            refine aw_get dX5_readProduct_72 fl_X5_9 ((j_39.2.1 _ hp.1 hp.2).trans hR) (by omega) rfl ?_
            refine aw_iload_n dX5_readProduct_75 rfl ?_
            refine aw_iconst (v := 0) dX5_readProduct_76 (by decide) ?_
            obtain ⟨s8_51, r8_51, h8_51, e_51, hs_51, hr_51⟩ := JW.get j_39 (ctl_0 hx)
            refine aw_callVi (J' := jX4_add) (As := [.int r_31, .int 0]) (st := []) dX5_readProduct_77 tb_415 ok_X4_add ⟨_, e_51⟩ (by omega) rfl rfl (g_X4_add l D b N V_40 hN j_39.1 x hx r_31 0 (by decide)) rfl (Nat.le_of_ble_eq_true rfl) ⟨Nat.le_of_ble_eq_true rfl, Nat.le_of_ble_eq_true rfl, Nat.le_of_ble_eq_true rfl, Nat.le_of_ble_eq_true rfl⟩ (fun r_52 N_53 V_50 q_54 => ?_)
            obtain ⟨rfl, q_48⟩ := q_54
            have j_49 := JW.trans j_39 (JW.weak q_48 (Sub.cons (LMs LM0) (by omega) (by omega) (by decide) (Or.inl rfl) (Sub.cons (LMs (LMs LM0)) (by omega) (by omega) (by decide) (Or.inl rfl) (Sub.cons (LMs (LMs (LMs LM0))) (by omega) (by omega) (by decide) (Or.inr ⟨by decide, by decide⟩) Sub.nil))))
            refine aw_pop dX5_readProduct_80 rfl ?_
            refine aw_goto (tgt := 10) dX5_readProduct_81 (by decide) ?_
            refine aw_le ?_ (mih_10_13 _ (by omega) a_41 V_50 rfl (j_49) (⟨⟨_, _, _, ((JW.same q_48 (by decide) (fun k => (nfc (by omega) (nfc (by omega) (nfc (by omega) nf0))))).trans te_t_43)⟩, by omega⟩) (by omega))
            exact ⟨rfl, ⟨rfl, trivial⟩⟩
          · skip
            refine aw_iconst (v := 0) dX5_readProduct_69 (by decide) ?_
            refine aw_zreti dX5_readProduct_70 rfl (by first | exact Or.inl rfl | exact Or.inr rfl | assumption) (Nat.le_of_ble_eq_true rfl) (Nat.le_of_ble_eq_true rfl) ?_
            exact ⟨⟨(by first | exact Or.inl rfl | exact Or.inr rfl | assumption), ⟨a_41, by omega, ⟨⟨_, _, _, te_t_43⟩, by omega⟩⟩⟩, rfl, j_39⟩
    refine aw_le ?_ (ml_10_13 _ a_6 V_5 rfl (j_4) (⟨⟨_, _, _, te_t_8⟩, by omega⟩) (by omega))
    exact ⟨rfl, ⟨rfl, trivial⟩⟩
  · skip
    refine aw_iconst (v := 0) dX5_readProduct_8 (by decide) ?_
    refine aw_zreti dX5_readProduct_9 rfl (by first | exact Or.inl rfl | exact Or.inr rfl | assumption) (Nat.le_of_ble_eq_true rfl) (Nat.le_of_ble_eq_true rfl) ?_
    exact ⟨⟨(by first | exact Or.inl rfl | exact Or.inr rfl | assumption), ⟨a_6, by omega, ⟨⟨_, _, _, te_t_8⟩, by omega⟩⟩⟩, rfl, j_4⟩

set_option maxHeartbeats 4000000 in
set_option maxRecDepth 100000 in
theorem g_X5_readSum_4 (l : Launch) (D : va_G) (b : Nat) (N : Nat) (V : Wd) (hN : 100 ≤ N) (hW : CW D b V) (p x : Nat) (hp : 100 ≤ p ∧ p < N) (hx : x = 57 ∨ x = 65) (hR : V p = cO 5 [.ref (b + 1), .ref (b + x)]) (a : Nat) (hT : TA b a V) : MI l D b 13 jX5_readSum [.ref (b + p), .int 4] N V 0 0 (fun r N9 V9 => ((r = 0 ∨ r = 1) ∧ (∃ a9, a ≤ a9 ∧ TA b a9 V9)) ∧ N = N9 ∧ JW D b N [(1, 1, 3, 3), (x + 1, x + 1, 0, 1000000), (x + 2, x + 2, 0, 1000000), (x, x, 2, 2), (1, 1, 4, 4)] V V9) := by
  have hJ0 : JW D b N [(1, 1, 3, 3), (x + 1, x + 1, 0, 1000000), (x + 2, x + 2, 0, 1000000), (x, x, 2, 2), (1, 1, 4, 4)] V V := JW.rf hW
  obtain ⟨⟨ts_0, tn_0, tf_0, te_0⟩, ha_0⟩ := id hT
  refine mw_of (by decide) (by simp [Value.category]) (Nat.le_of_ble_eq_true rfl) ?_
  show AW l D b jX5_readSum (fx_rm 13 0 0) none (fx_MQ D b 0 0 (fx_qi (fun r N9 V9 => ((r = 0 ∨ r = 1) ∧ (∃ a9, a ≤ a9 ∧ TA b a9 V9)) ∧ N = N9 ∧ JW D b N [(1, 1, 3, 3), (x + 1, x + 1, 0, 1000000), (x + 2, x + 2, 0, 1000000), (x, x, 2, 2), (1, 1, 4, 4)] V V9))) 0 [some (.ref (b + p)), some (.int 4), none] [] N V 0 0
  refine aw_aload_n dX5_readSum_0 rfl ?_
  refine aw_iload_n dX5_readSum_1 rfl ?_
  refine aw_callVi (J' := jX5_readProduct) (As := [.int 4]) (st := []) dX5_readSum_2 tb_399 ok_X5_readProduct ⟨_, ((hJ0.2.1 _ hp.1 hp.2).trans hR)⟩ (by omega) rfl rfl (g_X5_readProduct_4 l D b N V hN hJ0.1 p x ⟨by omega, by omega⟩ hx ((hJ0.2.1 _ hp.1 hp.2).trans hR) a (⟨⟨_, _, _, te_0⟩, by omega⟩)) rfl (Nat.le_of_ble_eq_true rfl) ⟨Nat.le_of_ble_eq_true rfl, Nat.le_of_ble_eq_true rfl, Nat.le_of_ble_eq_true rfl, Nat.le_of_ble_eq_true rfl⟩ (fun r_9 N_10 V_5 q_11 => ?_)
  obtain ⟨⟨z_3, h_2⟩, rfl, q_1⟩ := q_11
  have j_4 := JW.trans hJ0 (JW.weak q_1 (Sub.cons LM0 (by decide) (by decide) (by decide) (Or.inr ⟨by decide, by decide⟩) (Sub.cons (LMs LM0) (by omega) (by omega) (by decide) (Or.inl rfl) (Sub.cons (LMs (LMs LM0)) (by omega) (by omega) (by decide) (Or.inl rfl) (Sub.cons (LMs (LMs (LMs LM0))) (by omega) (by omega) (by decide) (Or.inr ⟨by decide, by decide⟩) (Sub.cons (LMs (LMs (LMs (LMs LM0)))) (by decide) (by decide) (by decide) (Or.inr ⟨by decide, by decide⟩) Sub.nil))))))
  obtain ⟨a_6, ha_7, ⟨ts_t_8, tn_t_8, tf_t_8, te_t_8⟩, hb_t_8⟩ := h_2
  refine aw_if_ne (tgt := 10) dX5_readSum_5 (by decide) (fun c_12 => ?_) (fun c_12 => ?_)
  · skip
    have ml_10_13 : ∀ (m : Nat) (a10 : Nat) (V10 : Wd), m = 260 - a10 → (JW D b N [(1, 1, 3, 3), (x + 1, x + 1, 0, 1000000), (x + 2, x + 2, 0, 1000000), (x, x, 2, 2), (1, 1, 4, 4)] V V10) → (TA b a10 V10) → (a ≤ a10) → AW l D b jX5_readSum (fx_rm 13 0 0) none (fx_MQ D b 0 0 (fx_qi (fun r N9 V9 => ((r = 0 ∨ r = 1) ∧ (∃ a9, a ≤ a9 ∧ TA b a9 V9)) ∧ N = N9 ∧ JW D b N [(1, 1, 3, 3), (x + 1, x + 1, 0, 1000000), (x + 2, x + 2, 0, 1000000), (x, x, 2, 2), (1, 1, 4, 4)] V V9))) 10 [some (.ref (b + p)), some (.int 4), none] [] N V10 0 0 := by
      intro m; refine Nat.strongRecOn m ?_
      intro m mih_10_13 a10 V10 hm10 i10_0 i10_1 i10_2
      obtain ⟨⟨ts_10, tn_10, tf_10, te_10⟩, hb_10⟩ := i10_1
      refine aw_aload_n dX5_readSum_10 rfl ?_
      refine aw_get dX5_readSum_11 fl_X5_15 ((i10_0.2.1 _ hp.1 hp.2).trans hR) (by omega) rfl ?_
      refine aw_get dX5_readSum_14 fl_X5_25 te_10 (by omega) rfl ?_
      refine aw_aload_n dX5_readSum_17 rfl ?_
      refine aw_get dX5_readSum_18 fl_X5_15 ((i10_0.2.1 _ hp.1 hp.2).trans hR) (by omega) rfl ?_
      refine aw_get dX5_readSum_21 fl_X5_59 te_10 (by omega) rfl ?_
      refine aw_icmp_ge (tgt := 95) dX5_readSum_24 (by decide) (fun c_14 => ?_) (fun c_14 => ?_)
      · skip
        refine aw_iconst (v := 1) dX5_readSum_95 (by decide) ?_
        refine aw_zreti dX5_readSum_96 rfl (by first | exact Or.inl rfl | exact Or.inr rfl | assumption) (Nat.le_of_ble_eq_true rfl) (Nat.le_of_ble_eq_true rfl) ?_
        exact ⟨⟨(by first | exact Or.inl rfl | exact Or.inr rfl | assumption), ⟨a10, by omega, ⟨⟨_, _, _, te_10⟩, by omega⟩⟩⟩, rfl, i10_0⟩
      · skip
        refine aw_aload_n dX5_readSum_27 rfl ?_
        refine aw_get dX5_readSum_28 fl_X5_15 ((i10_0.2.1 _ hp.1 hp.2).trans hR) (by omega) rfl ?_
        refine aw_callVi (J' := jX10_now) (As := []) (st := []) dX5_readSum_31 tb_390 ok_X10_now ⟨_, te_10⟩ (by omega) rfl rfl (g_X10_now l D b N V10 hN i10_0.1 a10 (⟨⟨_, _, _, te_10⟩, by omega⟩)) rfl (Nat.le_of_ble_eq_true rfl) ⟨Nat.le_of_ble_eq_true rfl, Nat.le_of_ble_eq_true rfl, Nat.le_of_ble_eq_true rfl, Nat.le_of_ble_eq_true rfl⟩ (fun r_17 N_18 V_19 q_20 => ?_)
        obtain ⟨h_16, rfl, rfl⟩ := q_20
        refine aw_bipush (v := 43) dX5_readSum_34 (by decide) ?_
        refine aw_icmp_eq (tgt := 51) dX5_readSum_36 (by decide) (fun c_21 => ?_) (fun c_21 => ?_)
        · skip
          have hlc_21 := h_16.resolve_left (by rw [c_21]; decide)
          refine aw_aload_n dX5_readSum_51 rfl ?_
          refine aw_get dX5_readSum_52 fl_X5_15 ((i10_0.2.1 _ hp.1 hp.2).trans hR) (by omega) rfl ?_
          refine aw_callVi (J' := jX10_now) (As := []) (st := []) dX5_readSum_55 tb_390 ok_X10_now ⟨_, te_10⟩ (by omega) rfl rfl (g_X10_now l D b N V10 hN i10_0.1 a10 (⟨⟨_, _, _, te_10⟩, by omega⟩)) rfl (Nat.le_of_ble_eq_true rfl) ⟨Nat.le_of_ble_eq_true rfl, Nat.le_of_ble_eq_true rfl, Nat.le_of_ble_eq_true rfl, Nat.le_of_ble_eq_true rfl⟩ (fun r_24 N_25 V_26 q_27 => ?_)
          obtain ⟨h_23, rfl, rfl⟩ := q_27
          refine aw_istore_n (ls' := [some (.ref (b + p)), some (.int 4), some (.int r_24)]) dX5_readSum_58 (Nat.le_of_ble_eq_true rfl) rfl ?_
          refine aw_aload_n dX5_readSum_59 rfl ?_
          refine aw_get dX5_readSum_60 fl_X5_15 ((i10_0.2.1 _ hp.1 hp.2).trans hR) (by omega) rfl ?_
          refine aw_dup dX5_readSum_63 rfl ?_
          refine aw_get dX5_readSum_64 fl_X5_25 te_10 (by omega) rfl ?_
          refine aw_iconst (v := 1) dX5_readSum_67 (by decide) ?_
          refine aw_iadd dX5_readSum_68 ?_
          refine aw_eqi (y := nI (a10 + 1)) (nI_add _ _) ?_
          refine aw_put dX5_readSum_69 fp_X5_25 te_10 (by omega) rfl rfl (Nat.le_of_ble_eq_true rfl) rfl ?_
          refine aw_up i10_0 ct_1 ⟨_, _, _, (a10 + 1), rfl, (by first | omega | (split <;> omega))⟩ (WO (s := 3) (x := .int (nI (a10 + 1))) te_10 rfl LM0 (by decide) (by decide) (by decide) (Or.inl (by decide))) (fun V_28 j_28 k_28 e_28 => ?_)
          refine aw_aload_n dX5_readSum_72 rfl ?_
          refine aw_iload_n dX5_readSum_73 rfl ?_
          refine aw_callVi (J' := jX5_readProduct) (As := [.int 4]) (st := []) dX5_readSum_74 tb_399 ok_X5_readProduct ⟨_, ((j_28.2.1 _ hp.1 hp.2).trans hR)⟩ (by omega) rfl rfl (g_X5_readProduct_4 l D b N V_28 hN j_28.1 p x ⟨by omega, by omega⟩ hx ((j_28.2.1 _ hp.1 hp.2).trans hR) (a10 + 1) (⟨⟨_, _, _, e_28⟩, by omega⟩)) rfl (Nat.le_of_ble_eq_true rfl) ⟨Nat.le_of_ble_eq_true rfl, Nat.le_of_ble_eq_true rfl, Nat.le_of_ble_eq_true rfl, Nat.le_of_ble_eq_true rfl⟩ (fun r_37 N_38 V_33 q_39 => ?_)
          obtain ⟨⟨z_31, h_30⟩, rfl, q_29⟩ := q_39
          have j_32 := JW.trans j_28 (JW.weak q_29 (Sub.cons LM0 (by decide) (by decide) (by decide) (Or.inr ⟨by decide, by decide⟩) (Sub.cons (LMs LM0) (by omega) (by omega) (by decide) (Or.inl rfl) (Sub.cons (LMs (LMs LM0)) (by omega) (by omega) (by decide) (Or.inl rfl) (Sub.cons (LMs (LMs (LMs LM0))) (by omega) (by omega) (by decide) (Or.inr ⟨by decide, by decide⟩) (Sub.cons (LMs (LMs (LMs (LMs LM0)))) (by decide) (by decide) (by decide) (Or.inr ⟨by decide, by decide⟩) Sub.nil))))))
          obtain ⟨a_34, ha_35, ⟨ts_t_36, tn_t_36, tf_t_36, te_t_36⟩, hb_t_36⟩ := h_30
          refine aw_if_ne (tgt := 82) dX5_readSum_77 (by decide) (fun c_40 => ?_) (fun c_40 => ?_)
          · skip
            refine aw_aload_n dX5_readSum_82 rfl ?_
            refine aw_get dX5_readSum_83 fl_X5_9 ((j_32.2.1 _ hp.1 hp.2).trans hR) (by omega) rfl ?_
            refine aw_iload_n dX5_readSum_86 rfl ?_
            refine aw_iconst (v := 0) dX5_readSum_87 (by decide) ?_
            obtain ⟨s8_44, r8_44, h8_44, e_44, hs_44, hr_44⟩ := JW.get j_32 (ctl_0 hx)
            refine aw_callVi (J' := jX4_add) (As := [.int r_24, .int 0]) (st := []) dX5_readSum_88 tb_415 ok_X4_add ⟨_, e_44⟩ (by omega) rfl rfl (g_X4_add l D b N V_33 hN j_32.1 x hx r_24 0 (by decide)) rfl (Nat.le_of_ble_eq_true rfl) ⟨Nat.le_of_ble_eq_true rfl, Nat.le_of_ble_eq_true rfl, Nat.le_of_ble_eq_true rfl, Nat.le_of_ble_eq_true rfl⟩ (fun r_45 N_46 V_43 q_47 => ?_)
            obtain ⟨rfl, q_41⟩ := q_47
            have j_42 := JW.trans j_32 (JW.weak q_41 (Sub.cons (LMs LM0) (by omega) (by omega) (by decide) (Or.inl rfl) (Sub.cons (LMs (LMs LM0)) (by omega) (by omega) (by decide) (Or.inl rfl) (Sub.cons (LMs (LMs (LMs LM0))) (by omega) (by omega) (by decide) (Or.inr ⟨by decide, by decide⟩) Sub.nil))))
            refine aw_pop dX5_readSum_91 rfl ?_
            refine aw_goto (tgt := 10) dX5_readSum_92 (by decide) ?_
            refine aw_le ?_ (mih_10_13 _ (by omega) a_34 V_43 rfl (j_42) (⟨⟨_, _, _, ((JW.same q_41 (by decide) (fun k => (nfc (by omega) (nfc (by omega) (nfc (by omega) nf0))))).trans te_t_36)⟩, by omega⟩) (by omega))
            exact ⟨rfl, ⟨rfl, trivial⟩⟩
          · skip
            refine aw_iconst (v := 0) dX5_readSum_80 (by decide) ?_
            refine aw_zreti dX5_readSum_81 rfl (by first | exact Or.inl rfl | exact Or.inr rfl | assumption) (Nat.le_of_ble_eq_true rfl) (Nat.le_of_ble_eq_true rfl) ?_
            exact ⟨⟨(by first | exact Or.inl rfl | exact Or.inr rfl | assumption), ⟨a_34, by omega, ⟨⟨_, _, _, te_t_36⟩, by omega⟩⟩⟩, rfl, j_32⟩
        · skip
          refine aw_aload_n dX5_readSum_39 rfl ?_
          refine aw_get dX5_readSum_40 fl_X5_15 ((i10_0.2.1 _ hp.1 hp.2).trans hR) (by omega) rfl ?_
          refine aw_callVi (J' := jX10_now) (As := []) (st := []) dX5_readSum_43 tb_390 ok_X10_now ⟨_, te_10⟩ (by omega) rfl rfl (g_X10_now l D b N V10 hN i10_0.1 a10 (⟨⟨_, _, _, te_10⟩, by omega⟩)) rfl (Nat.le_of_ble_eq_true rfl) ⟨Nat.le_of_ble_eq_true rfl, Nat.le_of_ble_eq_true rfl, Nat.le_of_ble_eq_true rfl, Nat.le_of_ble_eq_true rfl⟩ (fun r_50 N_51 V_52 q_53 => ?_)
          obtain ⟨h_49, rfl, rfl⟩ := q_53
          refine aw_bipush (v := 45) dX5_readSum_46 (by decide) ?_
          refine aw_icmp_ne (tgt := 95) dX5_readSum_48 (by decide) (fun c_54 => ?_) (fun c_54 => ?_)
          · skip
            refine aw_iconst (v := 1) dX5_readSum_95 (by decide) ?_
            refine aw_zreti dX5_readSum_96 rfl (by first | exact Or.inl rfl | exact Or.inr rfl | assumption) (Nat.le_of_ble_eq_true rfl) (Nat.le_of_ble_eq_true rfl) ?_
            exact ⟨⟨(by first | exact Or.inl rfl | exact Or.inr rfl | assumption), ⟨a10, by omega, ⟨⟨_, _, _, te_10⟩, by omega⟩⟩⟩, rfl, i10_0⟩
          · skip
            have hlc_54 := h_49.resolve_left (by rw [c_54]; decide)
            refine aw_aload_n dX5_readSum_51 rfl ?_
            refine aw_get dX5_readSum_52 fl_X5_15 ((i10_0.2.1 _ hp.1 hp.2).trans hR) (by omega) rfl ?_
            refine aw_callVi (J' := jX10_now) (As := []) (st := []) dX5_readSum_55 tb_390 ok_X10_now ⟨_, te_10⟩ (by omega) rfl rfl (g_X10_now l D b N V10 hN i10_0.1 a10 (⟨⟨_, _, _, te_10⟩, by omega⟩)) rfl (Nat.le_of_ble_eq_true rfl) ⟨Nat.le_of_ble_eq_true rfl, Nat.le_of_ble_eq_true rfl, Nat.le_of_ble_eq_true rfl, Nat.le_of_ble_eq_true rfl⟩ (fun r_57 N_58 V_59 q_60 => ?_)
            obtain ⟨h_56, rfl, rfl⟩ := q_60
            refine aw_istore_n (ls' := [some (.ref (b + p)), some (.int 4), some (.int r_57)]) dX5_readSum_58 (Nat.le_of_ble_eq_true rfl) rfl ?_
            refine aw_aload_n dX5_readSum_59 rfl ?_
            refine aw_get dX5_readSum_60 fl_X5_15 ((i10_0.2.1 _ hp.1 hp.2).trans hR) (by omega) rfl ?_
            refine aw_dup dX5_readSum_63 rfl ?_
            refine aw_get dX5_readSum_64 fl_X5_25 te_10 (by omega) rfl ?_
            refine aw_iconst (v := 1) dX5_readSum_67 (by decide) ?_
            refine aw_iadd dX5_readSum_68 ?_
            refine aw_eqi (y := nI (a10 + 1)) (nI_add _ _) ?_
            refine aw_put dX5_readSum_69 fp_X5_25 te_10 (by omega) rfl rfl (Nat.le_of_ble_eq_true rfl) rfl ?_
            refine aw_up i10_0 ct_1 ⟨_, _, _, (a10 + 1), rfl, (by first | omega | (split <;> omega))⟩ (WO (s := 3) (x := .int (nI (a10 + 1))) te_10 rfl LM0 (by decide) (by decide) (by decide) (Or.inl (by decide))) (fun V_61 j_61 k_61 e_61 => ?_)
            refine aw_aload_n dX5_readSum_72 rfl ?_
            refine aw_iload_n dX5_readSum_73 rfl ?_
            refine aw_callVi (J' := jX5_readProduct) (As := [.int 4]) (st := []) dX5_readSum_74 tb_399 ok_X5_readProduct ⟨_, ((j_61.2.1 _ hp.1 hp.2).trans hR)⟩ (by omega) rfl rfl (g_X5_readProduct_4 l D b N V_61 hN j_61.1 p x ⟨by omega, by omega⟩ hx ((j_61.2.1 _ hp.1 hp.2).trans hR) (a10 + 1) (⟨⟨_, _, _, e_61⟩, by omega⟩)) rfl (Nat.le_of_ble_eq_true rfl) ⟨Nat.le_of_ble_eq_true rfl, Nat.le_of_ble_eq_true rfl, Nat.le_of_ble_eq_true rfl, Nat.le_of_ble_eq_true rfl⟩ (fun r_70 N_71 V_66 q_72 => ?_)
            obtain ⟨⟨z_64, h_63⟩, rfl, q_62⟩ := q_72
            have j_65 := JW.trans j_61 (JW.weak q_62 (Sub.cons LM0 (by decide) (by decide) (by decide) (Or.inr ⟨by decide, by decide⟩) (Sub.cons (LMs LM0) (by omega) (by omega) (by decide) (Or.inl rfl) (Sub.cons (LMs (LMs LM0)) (by omega) (by omega) (by decide) (Or.inl rfl) (Sub.cons (LMs (LMs (LMs LM0))) (by omega) (by omega) (by decide) (Or.inr ⟨by decide, by decide⟩) (Sub.cons (LMs (LMs (LMs (LMs LM0)))) (by decide) (by decide) (by decide) (Or.inr ⟨by decide, by decide⟩) Sub.nil))))))
            obtain ⟨a_67, ha_68, ⟨ts_t_69, tn_t_69, tf_t_69, te_t_69⟩, hb_t_69⟩ := h_63
            refine aw_if_ne (tgt := 82) dX5_readSum_77 (by decide) (fun c_73 => ?_) (fun c_73 => ?_)
            · skip
              refine aw_aload_n dX5_readSum_82 rfl ?_
              refine aw_get dX5_readSum_83 fl_X5_9 ((j_65.2.1 _ hp.1 hp.2).trans hR) (by omega) rfl ?_
              refine aw_iload_n dX5_readSum_86 rfl ?_
              refine aw_iconst (v := 0) dX5_readSum_87 (by decide) ?_
              obtain ⟨s8_77, r8_77, h8_77, e_77, hs_77, hr_77⟩ := JW.get j_65 (ctl_0 hx)
              refine aw_callVi (J' := jX4_add) (As := [.int r_57, .int 0]) (st := []) dX5_readSum_88 tb_415 ok_X4_add ⟨_, e_77⟩ (by omega) rfl rfl (g_X4_add l D b N V_66 hN j_65.1 x hx r_57 0 (by decide)) rfl (Nat.le_of_ble_eq_true rfl) ⟨Nat.le_of_ble_eq_true rfl, Nat.le_of_ble_eq_true rfl, Nat.le_of_ble_eq_true rfl, Nat.le_of_ble_eq_true rfl⟩ (fun r_78 N_79 V_76 q_80 => ?_)
              obtain ⟨rfl, q_74⟩ := q_80
              have j_75 := JW.trans j_65 (JW.weak q_74 (Sub.cons (LMs LM0) (by omega) (by omega) (by decide) (Or.inl rfl) (Sub.cons (LMs (LMs LM0)) (by omega) (by omega) (by decide) (Or.inl rfl) (Sub.cons (LMs (LMs (LMs LM0))) (by omega) (by omega) (by decide) (Or.inr ⟨by decide, by decide⟩) Sub.nil))))
              refine aw_pop dX5_readSum_91 rfl ?_
              refine aw_goto (tgt := 10) dX5_readSum_92 (by decide) ?_
              refine aw_le ?_ (mih_10_13 _ (by omega) a_67 V_76 rfl (j_75) (⟨⟨_, _, _, ((JW.same q_74 (by decide) (fun k => (nfc (by omega) (nfc (by omega) (nfc (by omega) nf0))))).trans te_t_69)⟩, by omega⟩) (by omega))
              exact ⟨rfl, ⟨rfl, trivial⟩⟩
            · skip
              refine aw_iconst (v := 0) dX5_readSum_80 (by decide) ?_
              refine aw_zreti dX5_readSum_81 rfl (by first | exact Or.inl rfl | exact Or.inr rfl | assumption) (Nat.le_of_ble_eq_true rfl) (Nat.le_of_ble_eq_true rfl) ?_
              exact ⟨⟨(by first | exact Or.inl rfl | exact Or.inr rfl | assumption), ⟨a_67, by omega, ⟨⟨_, _, _, te_t_69⟩, by omega⟩⟩⟩, rfl, j_65⟩
    refine aw_le ?_ (ml_10_13 _ a_6 V_5 rfl (j_4) (⟨⟨_, _, _, te_t_8⟩, by omega⟩) (by omega))
    exact ⟨rfl, ⟨rfl, trivial⟩⟩
  · skip
    refine aw_iconst (v := 0) dX5_readSum_8 (by decide) ?_
    refine aw_zreti dX5_readSum_9 rfl (by first | exact Or.inl rfl | exact Or.inr rfl | assumption) (Nat.le_of_ble_eq_true rfl) (Nat.le_of_ble_eq_true rfl) ?_
    exact ⟨⟨(by first | exact Or.inl rfl | exact Or.inr rfl | assumption), ⟨a_6, by omega, ⟨⟨_, _, _, te_t_8⟩, by omega⟩⟩⟩, rfl, j_4⟩

set_option maxHeartbeats 4000000 in
set_option maxRecDepth 100000 in
theorem g_X5_readComparison_4 (l : Launch) (D : va_G) (b : Nat) (N : Nat) (V : Wd) (hN : 100 ≤ N) (hW : CW D b V) (p x : Nat) (hp : 100 ≤ p ∧ p < N) (hx : x = 57 ∨ x = 65) (hR : V p = cO 5 [.ref (b + 1), .ref (b + x)]) (a : Nat) (hT : TA b a V) : MI l D b 14 jX5_readComparison [.ref (b + p), .int 4] N V 0 0 (fun r N9 V9 => ((r = 0 ∨ r = 1) ∧ (∃ a9, a ≤ a9 ∧ TA b a9 V9)) ∧ N = N9 ∧ JW D b N [(1, 1, 3, 3), (x + 1, x + 1, 0, 1000000), (x + 2, x + 2, 0, 1000000), (x, x, 2, 2), (1, 1, 4, 4)] V V9) := by
  have hJ0 : JW D b N [(1, 1, 3, 3), (x + 1, x + 1, 0, 1000000), (x + 2, x + 2, 0, 1000000), (x, x, 2, 2), (1, 1, 4, 4)] V V := JW.rf hW
  obtain ⟨⟨ts_0, tn_0, tf_0, te_0⟩, ha_0⟩ := id hT
  refine mw_of (by decide) (by simp [Value.category]) (Nat.le_of_ble_eq_true rfl) ?_
  show AW l D b jX5_readComparison (fx_rm 14 0 0) none (fx_MQ D b 0 0 (fx_qi (fun r N9 V9 => ((r = 0 ∨ r = 1) ∧ (∃ a9, a ≤ a9 ∧ TA b a9 V9)) ∧ N = N9 ∧ JW D b N [(1, 1, 3, 3), (x + 1, x + 1, 0, 1000000), (x + 2, x + 2, 0, 1000000), (x, x, 2, 2), (1, 1, 4, 4)] V V9))) 0 [some (.ref (b + p)), some (.int 4), none] [] N V 0 0
  refine aw_aload_n dX5_readComparison_0 rfl ?_
  refine aw_iload_n dX5_readComparison_1 rfl ?_
  refine aw_callVi (J' := jX5_readSum) (As := [.int 4]) (st := []) dX5_readComparison_2 tb_395 ok_X5_readSum ⟨_, ((hJ0.2.1 _ hp.1 hp.2).trans hR)⟩ (by omega) rfl rfl (g_X5_readSum_4 l D b N V hN hJ0.1 p x ⟨by omega, by omega⟩ hx ((hJ0.2.1 _ hp.1 hp.2).trans hR) a (⟨⟨_, _, _, te_0⟩, by omega⟩)) rfl (Nat.le_of_ble_eq_true rfl) ⟨Nat.le_of_ble_eq_true rfl, Nat.le_of_ble_eq_true rfl, Nat.le_of_ble_eq_true rfl, Nat.le_of_ble_eq_true rfl⟩ (fun r_9 N_10 V_5 q_11 => ?_)
  obtain ⟨⟨z_3, h_2⟩, rfl, q_1⟩ := q_11
  have j_4 := JW.trans hJ0 (JW.weak q_1 (Sub.cons LM0 (by decide) (by decide) (by decide) (Or.inr ⟨by decide, by decide⟩) (Sub.cons (LMs LM0) (by omega) (by omega) (by decide) (Or.inl rfl) (Sub.cons (LMs (LMs LM0)) (by omega) (by omega) (by decide) (Or.inl rfl) (Sub.cons (LMs (LMs (LMs LM0))) (by omega) (by omega) (by decide) (Or.inr ⟨by decide, by decide⟩) (Sub.cons (LMs (LMs (LMs (LMs LM0)))) (by decide) (by decide) (by decide) (Or.inr ⟨by decide, by decide⟩) Sub.nil))))))
  obtain ⟨a_6, ha_7, ⟨ts_t_8, tn_t_8, tf_t_8, te_t_8⟩, hb_t_8⟩ := h_2
  refine aw_if_ne (tgt := 10) dX5_readComparison_5 (by decide) (fun c_12 => ?_) (fun c_12 => ?_)
  · skip
    refine aw_aload_n dX5_readComparison_10 rfl ?_
    refine aw_get dX5_readComparison_11 fl_X5_15 ((j_4.2.1 _ hp.1 hp.2).trans hR) (by omega) rfl ?_
    refine aw_callVi (J' := jX10_now) (As := []) (st := []) dX5_readComparison_14 tb_390 ok_X10_now ⟨_, te_t_8⟩ (by omega) rfl rfl (g_X10_now l D b N V_5 hN j_4.1 a_6 (⟨⟨_, _, _, te_t_8⟩, by omega⟩)) rfl (Nat.le_of_ble_eq_true rfl) ⟨Nat.le_of_ble_eq_true rfl, Nat.le_of_ble_eq_true rfl, Nat.le_of_ble_eq_true rfl, Nat.le_of_ble_eq_true rfl⟩ (fun r_15 N_16 V_17 q_18 => ?_)
    obtain ⟨h_14, rfl, rfl⟩ := q_18
    refine aw_istore_n (ls' := [some (.ref (b + p)), some (.int 4), some (.int r_15)]) dX5_readComparison_17 (Nat.le_of_ble_eq_true rfl) rfl ?_
    refine aw_iload_n dX5_readComparison_18 rfl ?_
    refine aw_bipush (v := 60) dX5_readComparison_19 (by decide) ?_
    refine aw_icmp_eq (tgt := 44) dX5_readComparison_21 (by decide) (fun c_19 => ?_) (fun c_19 => ?_)
    · skip
      have hlc_19 := h_14.resolve_left (by rw [c_19]; decide)
      refine aw_aload_n dX5_readComparison_44 rfl ?_
      refine aw_get dX5_readComparison_45 fl_X5_15 ((j_4.2.1 _ hp.1 hp.2).trans hR) (by omega) rfl ?_
      refine aw_dup dX5_readComparison_48 rfl ?_
      refine aw_get dX5_readComparison_49 fl_X5_25 te_t_8 (by omega) rfl ?_
      refine aw_iconst (v := 1) dX5_readComparison_52 (by decide) ?_
      refine aw_iadd dX5_readComparison_53 ?_
      refine aw_eqi (y := nI (a_6 + 1)) (nI_add _ _) ?_
      refine aw_put dX5_readComparison_54 fp_X5_25 te_t_8 (by omega) rfl rfl (Nat.le_of_ble_eq_true rfl) rfl ?_
      refine aw_up j_4 ct_1 ⟨_, _, _, (a_6 + 1), rfl, (by first | omega | (split <;> omega))⟩ (WO (s := 3) (x := .int (nI (a_6 + 1))) te_t_8 rfl LM0 (by decide) (by decide) (by decide) (Or.inl (by decide))) (fun V_20 j_20 k_20 e_20 => ?_)
      refine aw_aload_n dX5_readComparison_57 rfl ?_
      refine aw_iload_n dX5_readComparison_58 rfl ?_
      refine aw_callVi (J' := jX5_readSum) (As := [.int 4]) (st := []) dX5_readComparison_59 tb_395 ok_X5_readSum ⟨_, ((j_20.2.1 _ hp.1 hp.2).trans hR)⟩ (by omega) rfl rfl (g_X5_readSum_4 l D b N V_20 hN j_20.1 p x ⟨by omega, by omega⟩ hx ((j_20.2.1 _ hp.1 hp.2).trans hR) (a_6 + 1) (⟨⟨_, _, _, e_20⟩, by omega⟩)) rfl (Nat.le_of_ble_eq_true rfl) ⟨Nat.le_of_ble_eq_true rfl, Nat.le_of_ble_eq_true rfl, Nat.le_of_ble_eq_true rfl, Nat.le_of_ble_eq_true rfl⟩ (fun r_29 N_30 V_25 q_31 => ?_)
      obtain ⟨⟨z_23, h_22⟩, rfl, q_21⟩ := q_31
      have j_24 := JW.trans j_20 (JW.weak q_21 (Sub.cons LM0 (by decide) (by decide) (by decide) (Or.inr ⟨by decide, by decide⟩) (Sub.cons (LMs LM0) (by omega) (by omega) (by decide) (Or.inl rfl) (Sub.cons (LMs (LMs LM0)) (by omega) (by omega) (by decide) (Or.inl rfl) (Sub.cons (LMs (LMs (LMs LM0))) (by omega) (by omega) (by decide) (Or.inr ⟨by decide, by decide⟩) (Sub.cons (LMs (LMs (LMs (LMs LM0)))) (by decide) (by decide) (by decide) (Or.inr ⟨by decide, by decide⟩) Sub.nil))))))
      obtain ⟨a_26, ha_27, ⟨ts_t_28, tn_t_28, tf_t_28, te_t_28⟩, hb_t_28⟩ := h_22
      refine aw_if_ne (tgt := 67) dX5_readComparison_62 (by decide) (fun c_32 => ?_) (fun c_32 => ?_)
      · skip
        refine aw_aload_n dX5_readComparison_67 rfl ?_
        refine aw_get dX5_readComparison_68 fl_X5_9 ((j_24.2.1 _ hp.1 hp.2).trans hR) (by omega) rfl ?_
        refine aw_iload_n dX5_readComparison_71 rfl ?_
        refine aw_iconst (v := 0) dX5_readComparison_72 (by decide) ?_
        obtain ⟨s8_36, r8_36, h8_36, e_36, hs_36, hr_36⟩ := JW.get j_24 (ctl_0 hx)
        refine aw_callVi (J' := jX4_add) (As := [.int r_15, .int 0]) (st := []) dX5_readComparison_73 tb_415 ok_X4_add ⟨_, e_36⟩ (by omega) rfl rfl (g_X4_add l D b N V_25 hN j_24.1 x hx r_15 0 (by decide)) rfl (Nat.le_of_ble_eq_true rfl) ⟨Nat.le_of_ble_eq_true rfl, Nat.le_of_ble_eq_true rfl, Nat.le_of_ble_eq_true rfl, Nat.le_of_ble_eq_true rfl⟩ (fun r_37 N_38 V_35 q_39 => ?_)
        obtain ⟨rfl, q_33⟩ := q_39
        have j_34 := JW.trans j_24 (JW.weak q_33 (Sub.cons (LMs LM0) (by omega) (by omega) (by decide) (Or.inl rfl) (Sub.cons (LMs (LMs LM0)) (by omega) (by omega) (by decide) (Or.inl rfl) (Sub.cons (LMs (LMs (LMs LM0))) (by omega) (by omega) (by decide) (Or.inr ⟨by decide, by decide⟩) Sub.nil))))
        refine aw_pop dX5_readComparison_76 rfl ?_
        refine aw_iconst (v := 1) dX5_readComparison_77 (by decide) ?_
        refine aw_zreti dX5_readComparison_78 rfl (by first | exact Or.inl rfl | exact Or.inr rfl | assumption) (Nat.le_of_ble_eq_true rfl) (Nat.le_of_ble_eq_true rfl) ?_
        exact ⟨⟨(by first | exact Or.inl rfl | exact Or.inr rfl | assumption), ⟨a_26, by omega, ⟨⟨_, _, _, ((JW.same q_33 (by decide) (fun k => (nfc (by omega) (nfc (by omega) (nfc (by omega) nf0))))).trans te_t_28)⟩, by omega⟩⟩⟩, rfl, j_34⟩
      · skip
        refine aw_iconst (v := 0) dX5_readComparison_65 (by decide) ?_
        refine aw_zreti dX5_readComparison_66 rfl (by first | exact Or.inl rfl | exact Or.inr rfl | assumption) (Nat.le_of_ble_eq_true rfl) (Nat.le_of_ble_eq_true rfl) ?_
        exact ⟨⟨(by first | exact Or.inl rfl | exact Or.inr rfl | assumption), ⟨a_26, by omega, ⟨⟨_, _, _, te_t_28⟩, by omega⟩⟩⟩, rfl, j_24⟩
    · skip
      refine aw_iload_n dX5_readComparison_24 rfl ?_
      refine aw_bipush (v := 62) dX5_readComparison_25 (by decide) ?_
      refine aw_icmp_eq (tgt := 44) dX5_readComparison_27 (by decide) (fun c_40 => ?_) (fun c_40 => ?_)
      · skip
        have hlc_40 := h_14.resolve_left (by rw [c_40]; decide)
        refine aw_aload_n dX5_readComparison_44 rfl ?_
        refine aw_get dX5_readComparison_45 fl_X5_15 ((j_4.2.1 _ hp.1 hp.2).trans hR) (by omega) rfl ?_
        refine aw_dup dX5_readComparison_48 rfl ?_
        refine aw_get dX5_readComparison_49 fl_X5_25 te_t_8 (by omega) rfl ?_
        refine aw_iconst (v := 1) dX5_readComparison_52 (by decide) ?_
        refine aw_iadd dX5_readComparison_53 ?_
        refine aw_eqi (y := nI (a_6 + 1)) (nI_add _ _) ?_
        refine aw_put dX5_readComparison_54 fp_X5_25 te_t_8 (by omega) rfl rfl (Nat.le_of_ble_eq_true rfl) rfl ?_
        refine aw_up j_4 ct_1 ⟨_, _, _, (a_6 + 1), rfl, (by first | omega | (split <;> omega))⟩ (WO (s := 3) (x := .int (nI (a_6 + 1))) te_t_8 rfl LM0 (by decide) (by decide) (by decide) (Or.inl (by decide))) (fun V_41 j_41 k_41 e_41 => ?_)
        refine aw_aload_n dX5_readComparison_57 rfl ?_
        refine aw_iload_n dX5_readComparison_58 rfl ?_
        refine aw_callVi (J' := jX5_readSum) (As := [.int 4]) (st := []) dX5_readComparison_59 tb_395 ok_X5_readSum ⟨_, ((j_41.2.1 _ hp.1 hp.2).trans hR)⟩ (by omega) rfl rfl (g_X5_readSum_4 l D b N V_41 hN j_41.1 p x ⟨by omega, by omega⟩ hx ((j_41.2.1 _ hp.1 hp.2).trans hR) (a_6 + 1) (⟨⟨_, _, _, e_41⟩, by omega⟩)) rfl (Nat.le_of_ble_eq_true rfl) ⟨Nat.le_of_ble_eq_true rfl, Nat.le_of_ble_eq_true rfl, Nat.le_of_ble_eq_true rfl, Nat.le_of_ble_eq_true rfl⟩ (fun r_50 N_51 V_46 q_52 => ?_)
        obtain ⟨⟨z_44, h_43⟩, rfl, q_42⟩ := q_52
        have j_45 := JW.trans j_41 (JW.weak q_42 (Sub.cons LM0 (by decide) (by decide) (by decide) (Or.inr ⟨by decide, by decide⟩) (Sub.cons (LMs LM0) (by omega) (by omega) (by decide) (Or.inl rfl) (Sub.cons (LMs (LMs LM0)) (by omega) (by omega) (by decide) (Or.inl rfl) (Sub.cons (LMs (LMs (LMs LM0))) (by omega) (by omega) (by decide) (Or.inr ⟨by decide, by decide⟩) (Sub.cons (LMs (LMs (LMs (LMs LM0)))) (by decide) (by decide) (by decide) (Or.inr ⟨by decide, by decide⟩) Sub.nil))))))
        obtain ⟨a_47, ha_48, ⟨ts_t_49, tn_t_49, tf_t_49, te_t_49⟩, hb_t_49⟩ := h_43
        refine aw_if_ne (tgt := 67) dX5_readComparison_62 (by decide) (fun c_53 => ?_) (fun c_53 => ?_)
        · skip
          refine aw_aload_n dX5_readComparison_67 rfl ?_
          refine aw_get dX5_readComparison_68 fl_X5_9 ((j_45.2.1 _ hp.1 hp.2).trans hR) (by omega) rfl ?_
          refine aw_iload_n dX5_readComparison_71 rfl ?_
          refine aw_iconst (v := 0) dX5_readComparison_72 (by decide) ?_
          obtain ⟨s8_57, r8_57, h8_57, e_57, hs_57, hr_57⟩ := JW.get j_45 (ctl_0 hx)
          refine aw_callVi (J' := jX4_add) (As := [.int r_15, .int 0]) (st := []) dX5_readComparison_73 tb_415 ok_X4_add ⟨_, e_57⟩ (by omega) rfl rfl (g_X4_add l D b N V_46 hN j_45.1 x hx r_15 0 (by decide)) rfl (Nat.le_of_ble_eq_true rfl) ⟨Nat.le_of_ble_eq_true rfl, Nat.le_of_ble_eq_true rfl, Nat.le_of_ble_eq_true rfl, Nat.le_of_ble_eq_true rfl⟩ (fun r_58 N_59 V_56 q_60 => ?_)
          obtain ⟨rfl, q_54⟩ := q_60
          have j_55 := JW.trans j_45 (JW.weak q_54 (Sub.cons (LMs LM0) (by omega) (by omega) (by decide) (Or.inl rfl) (Sub.cons (LMs (LMs LM0)) (by omega) (by omega) (by decide) (Or.inl rfl) (Sub.cons (LMs (LMs (LMs LM0))) (by omega) (by omega) (by decide) (Or.inr ⟨by decide, by decide⟩) Sub.nil))))
          refine aw_pop dX5_readComparison_76 rfl ?_
          refine aw_iconst (v := 1) dX5_readComparison_77 (by decide) ?_
          refine aw_zreti dX5_readComparison_78 rfl (by first | exact Or.inl rfl | exact Or.inr rfl | assumption) (Nat.le_of_ble_eq_true rfl) (Nat.le_of_ble_eq_true rfl) ?_
          exact ⟨⟨(by first | exact Or.inl rfl | exact Or.inr rfl | assumption), ⟨a_47, by omega, ⟨⟨_, _, _, ((JW.same q_54 (by decide) (fun k => (nfc (by omega) (nfc (by omega) (nfc (by omega) nf0))))).trans te_t_49)⟩, by omega⟩⟩⟩, rfl, j_55⟩
        · skip
          refine aw_iconst (v := 0) dX5_readComparison_65 (by decide) ?_
          refine aw_zreti dX5_readComparison_66 rfl (by first | exact Or.inl rfl | exact Or.inr rfl | assumption) (Nat.le_of_ble_eq_true rfl) (Nat.le_of_ble_eq_true rfl) ?_
          exact ⟨⟨(by first | exact Or.inl rfl | exact Or.inr rfl | assumption), ⟨a_47, by omega, ⟨⟨_, _, _, te_t_49⟩, by omega⟩⟩⟩, rfl, j_45⟩
      · skip
        refine aw_iload_n dX5_readComparison_30 rfl ?_
        refine aw_bipush (v := 61) dX5_readComparison_31 (by decide) ?_
        refine aw_icmp_eq (tgt := 44) dX5_readComparison_33 (by decide) (fun c_61 => ?_) (fun c_61 => ?_)
        · skip
          have hlc_61 := h_14.resolve_left (by rw [c_61]; decide)
          refine aw_aload_n dX5_readComparison_44 rfl ?_
          refine aw_get dX5_readComparison_45 fl_X5_15 ((j_4.2.1 _ hp.1 hp.2).trans hR) (by omega) rfl ?_
          refine aw_dup dX5_readComparison_48 rfl ?_
          refine aw_get dX5_readComparison_49 fl_X5_25 te_t_8 (by omega) rfl ?_
          refine aw_iconst (v := 1) dX5_readComparison_52 (by decide) ?_
          refine aw_iadd dX5_readComparison_53 ?_
          refine aw_eqi (y := nI (a_6 + 1)) (nI_add _ _) ?_
          refine aw_put dX5_readComparison_54 fp_X5_25 te_t_8 (by omega) rfl rfl (Nat.le_of_ble_eq_true rfl) rfl ?_
          refine aw_up j_4 ct_1 ⟨_, _, _, (a_6 + 1), rfl, (by first | omega | (split <;> omega))⟩ (WO (s := 3) (x := .int (nI (a_6 + 1))) te_t_8 rfl LM0 (by decide) (by decide) (by decide) (Or.inl (by decide))) (fun V_62 j_62 k_62 e_62 => ?_)
          refine aw_aload_n dX5_readComparison_57 rfl ?_
          refine aw_iload_n dX5_readComparison_58 rfl ?_
          refine aw_callVi (J' := jX5_readSum) (As := [.int 4]) (st := []) dX5_readComparison_59 tb_395 ok_X5_readSum ⟨_, ((j_62.2.1 _ hp.1 hp.2).trans hR)⟩ (by omega) rfl rfl (g_X5_readSum_4 l D b N V_62 hN j_62.1 p x ⟨by omega, by omega⟩ hx ((j_62.2.1 _ hp.1 hp.2).trans hR) (a_6 + 1) (⟨⟨_, _, _, e_62⟩, by omega⟩)) rfl (Nat.le_of_ble_eq_true rfl) ⟨Nat.le_of_ble_eq_true rfl, Nat.le_of_ble_eq_true rfl, Nat.le_of_ble_eq_true rfl, Nat.le_of_ble_eq_true rfl⟩ (fun r_71 N_72 V_67 q_73 => ?_)
          obtain ⟨⟨z_65, h_64⟩, rfl, q_63⟩ := q_73
          have j_66 := JW.trans j_62 (JW.weak q_63 (Sub.cons LM0 (by decide) (by decide) (by decide) (Or.inr ⟨by decide, by decide⟩) (Sub.cons (LMs LM0) (by omega) (by omega) (by decide) (Or.inl rfl) (Sub.cons (LMs (LMs LM0)) (by omega) (by omega) (by decide) (Or.inl rfl) (Sub.cons (LMs (LMs (LMs LM0))) (by omega) (by omega) (by decide) (Or.inr ⟨by decide, by decide⟩) (Sub.cons (LMs (LMs (LMs (LMs LM0)))) (by decide) (by decide) (by decide) (Or.inr ⟨by decide, by decide⟩) Sub.nil))))))
          obtain ⟨a_68, ha_69, ⟨ts_t_70, tn_t_70, tf_t_70, te_t_70⟩, hb_t_70⟩ := h_64
          refine aw_if_ne (tgt := 67) dX5_readComparison_62 (by decide) (fun c_74 => ?_) (fun c_74 => ?_)
          · skip
            refine aw_aload_n dX5_readComparison_67 rfl ?_
            refine aw_get dX5_readComparison_68 fl_X5_9 ((j_66.2.1 _ hp.1 hp.2).trans hR) (by omega) rfl ?_
            refine aw_iload_n dX5_readComparison_71 rfl ?_
            refine aw_iconst (v := 0) dX5_readComparison_72 (by decide) ?_
            obtain ⟨s8_78, r8_78, h8_78, e_78, hs_78, hr_78⟩ := JW.get j_66 (ctl_0 hx)
            refine aw_callVi (J' := jX4_add) (As := [.int r_15, .int 0]) (st := []) dX5_readComparison_73 tb_415 ok_X4_add ⟨_, e_78⟩ (by omega) rfl rfl (g_X4_add l D b N V_67 hN j_66.1 x hx r_15 0 (by decide)) rfl (Nat.le_of_ble_eq_true rfl) ⟨Nat.le_of_ble_eq_true rfl, Nat.le_of_ble_eq_true rfl, Nat.le_of_ble_eq_true rfl, Nat.le_of_ble_eq_true rfl⟩ (fun r_79 N_80 V_77 q_81 => ?_)
            obtain ⟨rfl, q_75⟩ := q_81
            have j_76 := JW.trans j_66 (JW.weak q_75 (Sub.cons (LMs LM0) (by omega) (by omega) (by decide) (Or.inl rfl) (Sub.cons (LMs (LMs LM0)) (by omega) (by omega) (by decide) (Or.inl rfl) (Sub.cons (LMs (LMs (LMs LM0))) (by omega) (by omega) (by decide) (Or.inr ⟨by decide, by decide⟩) Sub.nil))))
            refine aw_pop dX5_readComparison_76 rfl ?_
            refine aw_iconst (v := 1) dX5_readComparison_77 (by decide) ?_
            refine aw_zreti dX5_readComparison_78 rfl (by first | exact Or.inl rfl | exact Or.inr rfl | assumption) (Nat.le_of_ble_eq_true rfl) (Nat.le_of_ble_eq_true rfl) ?_
            exact ⟨⟨(by first | exact Or.inl rfl | exact Or.inr rfl | assumption), ⟨a_68, by omega, ⟨⟨_, _, _, ((JW.same q_75 (by decide) (fun k => (nfc (by omega) (nfc (by omega) (nfc (by omega) nf0))))).trans te_t_70)⟩, by omega⟩⟩⟩, rfl, j_76⟩
          · skip
            refine aw_iconst (v := 0) dX5_readComparison_65 (by decide) ?_
            refine aw_zreti dX5_readComparison_66 rfl (by first | exact Or.inl rfl | exact Or.inr rfl | assumption) (Nat.le_of_ble_eq_true rfl) (Nat.le_of_ble_eq_true rfl) ?_
            exact ⟨⟨(by first | exact Or.inl rfl | exact Or.inr rfl | assumption), ⟨a_68, by omega, ⟨⟨_, _, _, te_t_70⟩, by omega⟩⟩⟩, rfl, j_66⟩
        · skip
          refine aw_aload_n dX5_readComparison_36 rfl ?_
          refine aw_get dX5_readComparison_37 fl_X5_15 ((j_4.2.1 _ hp.1 hp.2).trans hR) (by omega) rfl ?_
          refine aw_callVi (J' := jX10_cannotStand) (As := []) (st := []) dX5_readComparison_40 tb_493 ok_X10_cannotStand ⟨_, te_t_8⟩ (by omega) rfl rfl (g_X10_cannotStand l D b N V_5 hN j_4.1 a_6 (⟨⟨_, _, _, te_t_8⟩, by omega⟩)) rfl (Nat.le_of_ble_eq_true rfl) ⟨Nat.le_of_ble_eq_true rfl, Nat.le_of_ble_eq_true rfl, Nat.le_of_ble_eq_true rfl, Nat.le_of_ble_eq_true rfl⟩ (fun r_91 N_92 V_86 q_93 => ?_)
          obtain ⟨⟨z_84, h_83⟩, rfl, q_82⟩ := q_93
          have j_85 := JW.trans j_4 (JW.weak q_82 (Sub.cons (LMs (LMs (LMs (LMs LM0)))) (by decide) (by decide) (by decide) (Or.inr ⟨by decide, by decide⟩) Sub.nil))
          obtain ⟨h_90, a_87, ha_88, ⟨ts_t_89, tn_t_89, tf_t_89, te_t_89⟩, hb_t_89⟩ := h_83
          obtain rfl := h_90
          refine aw_zreti dX5_readComparison_43 rfl (by first | exact Or.inl rfl | exact Or.inr rfl | assumption) (Nat.le_of_ble_eq_true rfl) (Nat.le_of_ble_eq_true rfl) ?_
          exact ⟨⟨(by first | exact Or.inl rfl | exact Or.inr rfl | assumption), ⟨a_87, by omega, ⟨⟨_, _, _, te_t_89⟩, by omega⟩⟩⟩, rfl, j_85⟩
  · skip
    refine aw_iconst (v := 0) dX5_readComparison_8 (by decide) ?_
    refine aw_zreti dX5_readComparison_9 rfl (by first | exact Or.inl rfl | exact Or.inr rfl | assumption) (Nat.le_of_ble_eq_true rfl) (Nat.le_of_ble_eq_true rfl) ?_
    exact ⟨⟨(by first | exact Or.inl rfl | exact Or.inr rfl | assumption), ⟨a_6, by omega, ⟨⟨_, _, _, te_t_8⟩, by omega⟩⟩⟩, rfl, j_4⟩

set_option maxHeartbeats 4000000 in
set_option maxRecDepth 100000 in
theorem g_X5_readNegation_4 (l : Launch) (D : va_G) (b : Nat) (N : Nat) (V : Wd) (hN : 100 ≤ N) (hW : CW D b V) (p x : Nat) (hp : 100 ≤ p ∧ p < N) (hx : x = 57 ∨ x = 65) (hR : V p = cO 5 [.ref (b + 1), .ref (b + x)]) (a : Nat) (hT : TA b a V) (hlt : a < 260) : MI l D b 13 jX5_readNegation [.ref (b + p), .int 4] N V 0 0 (fun r N9 V9 => ((r = 0 ∨ r = 1) ∧ (∃ a9, a ≤ a9 ∧ TA b a9 V9)) ∧ N = N9 ∧ JW D b N [(1, 1, 3, 3), (x + 1, x + 1, 0, 1000000), (x + 2, x + 2, 0, 1000000), (x, x, 2, 2), (1, 1, 4, 4)] V V9) := by
  have hJ0 : JW D b N [(1, 1, 3, 3), (x + 1, x + 1, 0, 1000000), (x + 2, x + 2, 0, 1000000), (x, x, 2, 2), (1, 1, 4, 4)] V V := JW.rf hW
  obtain ⟨⟨ts_0, tn_0, tf_0, te_0⟩, ha_0⟩ := id hT
  refine mw_of (by decide) (by simp [Value.category]) (Nat.le_of_ble_eq_true rfl) ?_
  show AW l D b jX5_readNegation (fx_rm 13 0 0) none (fx_MQ D b 0 0 (fx_qi (fun r N9 V9 => ((r = 0 ∨ r = 1) ∧ (∃ a9, a ≤ a9 ∧ TA b a9 V9)) ∧ N = N9 ∧ JW D b N [(1, 1, 3, 3), (x + 1, x + 1, 0, 1000000), (x + 2, x + 2, 0, 1000000), (x, x, 2, 2), (1, 1, 4, 4)] V V9))) 0 [some (.ref (b + p)), some (.int 4)] [] N V 0 0
  refine aw_aload_n dX5_readNegation_0 rfl ?_
  refine aw_iload_n dX5_readNegation_1 rfl ?_
  refine aw_callVi (J' := jX5_open) (As := [.int 4]) (st := []) dX5_readNegation_2 tb_407 ok_X5_open ⟨_, ((hJ0.2.1 _ hp.1 hp.2).trans hR)⟩ (by omega) rfl rfl (g_X5_open_4 l D b N V hN hJ0.1 p x ⟨by omega, by omega⟩ hx ((hJ0.2.1 _ hp.1 hp.2).trans hR) a (⟨⟨_, _, _, te_0⟩, by omega⟩) (by omega)) rfl (Nat.le_of_ble_eq_true rfl) ⟨Nat.le_of_ble_eq_true rfl, Nat.le_of_ble_eq_true rfl, Nat.le_of_ble_eq_true rfl, Nat.le_of_ble_eq_true rfl⟩ (fun r_10 N_11 V_5 q_12 => ?_)
  obtain ⟨⟨z_3, h_2⟩, rfl, q_1⟩ := q_12
  have j_4 := JW.trans hJ0 (JW.weak q_1 (Sub.cons LM0 (by decide) (by decide) (by decide) (Or.inr ⟨by decide, by decide⟩) Sub.nil))
  obtain ⟨h_9, a_6, ha_7, ⟨ts_t_8, tn_t_8, tf_t_8, te_t_8⟩, hb_t_8⟩ := h_2
  obtain rfl := h_9
  refine aw_if_eq (tgt := 18) dX5_readNegation_5 (by decide) (fun c_13 => ?_) (fun c_13 => ?_)
  · exact absurd c_13 (by decide)
  refine aw_aload_n dX5_readNegation_8 rfl ?_
  refine aw_iload_n dX5_readNegation_9 rfl ?_
  refine aw_iconst (v := 1) dX5_readNegation_10 (by decide) ?_
  refine aw_iadd dX5_readNegation_11 ?_
  refine aw_eqi (y := 5) (by decide) ?_
  refine aw_callVi (J' := jX5_readTest) (As := [.int 5]) (st := []) dX5_readNegation_12 tb_509 ok_X5_readTest ⟨_, ((j_4.2.1 _ hp.1 hp.2).trans hR)⟩ (by omega) rfl rfl (g_X5_readTest_5 l D b N V_5 hN j_4.1 p x ⟨by omega, by omega⟩ hx ((j_4.2.1 _ hp.1 hp.2).trans hR) a_6 (⟨⟨_, _, _, te_t_8⟩, by omega⟩)) rfl (Nat.le_of_ble_eq_true rfl) ⟨Nat.le_of_ble_eq_true rfl, Nat.le_of_ble_eq_true rfl, Nat.le_of_ble_eq_true rfl, Nat.le_of_ble_eq_true rfl⟩ (fun r_22 N_23 V_18 q_24 => ?_)
  obtain ⟨⟨z_16, h_15⟩, rfl, q_14⟩ := q_24
  have j_17 := JW.trans j_4 (JW.weak q_14 (Sub.cons LM0 (by decide) (by decide) (by decide) (Or.inr ⟨by decide, by decide⟩) (Sub.cons (LMs LM0) (by omega) (by omega) (by decide) (Or.inl rfl) (Sub.cons (LMs (LMs LM0)) (by omega) (by omega) (by decide) (Or.inl rfl) (Sub.cons (LMs (LMs (LMs LM0))) (by omega) (by omega) (by decide) (Or.inr ⟨by decide, by decide⟩) (Sub.cons (LMs (LMs (LMs (LMs LM0)))) (by decide) (by decide) (by decide) (Or.inr ⟨by decide, by decide⟩) Sub.nil))))))
  obtain ⟨a_19, ha_20, ⟨ts_t_21, tn_t_21, tf_t_21, te_t_21⟩, hb_t_21⟩ := h_15
  refine aw_if_ne (tgt := 20) dX5_readNegation_15 (by decide) (fun c_25 => ?_) (fun c_25 => ?_)
  · skip
    refine aw_aload_n dX5_readNegation_20 rfl ?_
    refine aw_get dX5_readNegation_21 fl_X5_9 ((j_17.2.1 _ hp.1 hp.2).trans hR) (by omega) rfl ?_
    refine aw_bipush (v := 33) dX5_readNegation_24 (by decide) ?_
    refine aw_iconst (v := 0) dX5_readNegation_26 (by decide) ?_
    obtain ⟨s8_29, r8_29, h8_29, e_29, hs_29, hr_29⟩ := JW.get j_17 (ctl_0 hx)
    refine aw_callVi (J' := jX4_add) (As := [.int 33, .int 0]) (st := []) dX5_readNegation_27 tb_415 ok_X4_add ⟨_, e_29⟩ (by omega) rfl rfl (g_X4_add l D b N V_18 hN j_17.1 x hx 33 0 (by decide)) rfl (Nat.le_of_ble_eq_true rfl) ⟨Nat.le_of_ble_eq_true rfl, Nat.le_of_ble_eq_true rfl, Nat.le_of_ble_eq_true rfl, Nat.le_of_ble_eq_true rfl⟩ (fun r_30 N_31 V_28 q_32 => ?_)
    obtain ⟨rfl, q_26⟩ := q_32
    have j_27 := JW.trans j_17 (JW.weak q_26 (Sub.cons (LMs LM0) (by omega) (by omega) (by decide) (Or.inl rfl) (Sub.cons (LMs (LMs LM0)) (by omega) (by omega) (by decide) (Or.inl rfl) (Sub.cons (LMs (LMs (LMs LM0))) (by omega) (by omega) (by decide) (Or.inr ⟨by decide, by decide⟩) Sub.nil))))
    refine aw_pop dX5_readNegation_30 rfl ?_
    refine aw_iconst (v := 1) dX5_readNegation_31 (by decide) ?_
    refine aw_zreti dX5_readNegation_32 rfl (by first | exact Or.inl rfl | exact Or.inr rfl | assumption) (Nat.le_of_ble_eq_true rfl) (Nat.le_of_ble_eq_true rfl) ?_
    exact ⟨⟨(by first | exact Or.inl rfl | exact Or.inr rfl | assumption), ⟨a_19, by omega, ⟨⟨_, _, _, ((JW.same q_26 (by decide) (fun k => (nfc (by omega) (nfc (by omega) (nfc (by omega) nf0))))).trans te_t_21)⟩, by omega⟩⟩⟩, rfl, j_27⟩
  · skip
    refine aw_iconst (v := 0) dX5_readNegation_18 (by decide) ?_
    refine aw_zreti dX5_readNegation_19 rfl (by first | exact Or.inl rfl | exact Or.inr rfl | assumption) (Nat.le_of_ble_eq_true rfl) (Nat.le_of_ble_eq_true rfl) ?_
    exact ⟨⟨(by first | exact Or.inl rfl | exact Or.inr rfl | assumption), ⟨a_19, by omega, ⟨⟨_, _, _, te_t_21⟩, by omega⟩⟩⟩, rfl, j_17⟩

set_option maxHeartbeats 4000000 in
set_option maxRecDepth 100000 in
theorem g_X5_readTest_4 (l : Launch) (D : va_G) (b : Nat) (N : Nat) (V : Wd) (hN : 100 ≤ N) (hW : CW D b V) (p x : Nat) (hp : 100 ≤ p ∧ p < N) (hx : x = 57 ∨ x = 65) (hR : V p = cO 5 [.ref (b + 1), .ref (b + x)]) (a : Nat) (hT : TA b a V) : MI l D b 15 jX5_readTest [.ref (b + p), .int 4] N V 0 0 (fun r N9 V9 => ((r = 0 ∨ r = 1) ∧ (∃ a9, a ≤ a9 ∧ TA b a9 V9)) ∧ N = N9 ∧ JW D b N [(1, 1, 3, 3), (x + 1, x + 1, 0, 1000000), (x + 2, x + 2, 0, 1000000), (x, x, 2, 2), (1, 1, 4, 4)] V V9) := by
  have hJ0 : JW D b N [(1, 1, 3, 3), (x + 1, x + 1, 0, 1000000), (x + 2, x + 2, 0, 1000000), (x, x, 2, 2), (1, 1, 4, 4)] V V := JW.rf hW
  obtain ⟨⟨ts_0, tn_0, tf_0, te_0⟩, ha_0⟩ := id hT
  refine mw_of (by decide) (by simp [Value.category]) (Nat.le_of_ble_eq_true rfl) ?_
  show AW l D b jX5_readTest (fx_rm 15 0 0) none (fx_MQ D b 0 0 (fx_qi (fun r N9 V9 => ((r = 0 ∨ r = 1) ∧ (∃ a9, a ≤ a9 ∧ TA b a9 V9)) ∧ N = N9 ∧ JW D b N [(1, 1, 3, 3), (x + 1, x + 1, 0, 1000000), (x + 2, x + 2, 0, 1000000), (x, x, 2, 2), (1, 1, 4, 4)] V V9))) 0 [some (.ref (b + p)), some (.int 4), none] [] N V 0 0
  refine aw_aload_n dX5_readTest_0 rfl ?_
  refine aw_get dX5_readTest_1 fl_X5_15 ((hJ0.2.1 _ hp.1 hp.2).trans hR) (by omega) rfl ?_
  refine aw_callVi (J' := jX10_now) (As := []) (st := []) dX5_readTest_4 tb_390 ok_X10_now ⟨_, te_0⟩ (by omega) rfl rfl (g_X10_now l D b N V hN hJ0.1 a (⟨⟨_, _, _, te_0⟩, by omega⟩)) rfl (Nat.le_of_ble_eq_true rfl) ⟨Nat.le_of_ble_eq_true rfl, Nat.le_of_ble_eq_true rfl, Nat.le_of_ble_eq_true rfl, Nat.le_of_ble_eq_true rfl⟩ (fun r_3 N_4 V_5 q_6 => ?_)
  obtain ⟨h_2, rfl, rfl⟩ := q_6
  refine aw_istore_n (ls' := [some (.ref (b + p)), some (.int 4), some (.int r_3)]) dX5_readTest_7 (Nat.le_of_ble_eq_true rfl) rfl ?_
  refine aw_iload_n dX5_readTest_8 rfl ?_
  refine aw_bipush (v := 33) dX5_readTest_9 (by decide) ?_
  refine aw_icmp_ne (tgt := 20) dX5_readTest_11 (by decide) (fun c_7 => ?_) (fun c_7 => ?_)
  · skip
    refine aw_iload_n dX5_readTest_20 rfl ?_
    refine aw_bipush (v := 40) dX5_readTest_21 (by decide) ?_
    refine aw_icmp_ne (tgt := 62) dX5_readTest_23 (by decide) (fun c_8 => ?_) (fun c_8 => ?_)
    · skip
      refine aw_aload_n dX5_readTest_62 rfl ?_
      refine aw_iload_n dX5_readTest_63 rfl ?_
      refine aw_callVi (J' := jX5_readComparison) (As := [.int 4]) (st := []) dX5_readTest_64 tb_517 ok_X5_readComparison ⟨_, ((hJ0.2.1 _ hp.1 hp.2).trans hR)⟩ (by omega) rfl rfl (g_X5_readComparison_4 l D b N V hN hJ0.1 p x ⟨by omega, by omega⟩ hx ((hJ0.2.1 _ hp.1 hp.2).trans hR) a (⟨⟨_, _, _, te_0⟩, by omega⟩)) rfl (Nat.le_of_ble_eq_true rfl) ⟨Nat.le_of_ble_eq_true rfl, Nat.le_of_ble_eq_true rfl, Nat.le_of_ble_eq_true rfl, Nat.le_of_ble_eq_true rfl⟩ (fun r_17 N_18 V_13 q_19 => ?_)
      obtain ⟨⟨z_11, h_10⟩, rfl, q_9⟩ := q_19
      have j_12 := JW.trans hJ0 (JW.weak q_9 (Sub.cons LM0 (by decide) (by decide) (by decide) (Or.inr ⟨by decide, by decide⟩) (Sub.cons (LMs LM0) (by omega) (by omega) (by decide) (Or.inl rfl) (Sub.cons (LMs (LMs LM0)) (by omega) (by omega) (by decide) (Or.inl rfl) (Sub.cons (LMs (LMs (LMs LM0))) (by omega) (by omega) (by decide) (Or.inr ⟨by decide, by decide⟩) (Sub.cons (LMs (LMs (LMs (LMs LM0)))) (by decide) (by decide) (by decide) (Or.inr ⟨by decide, by decide⟩) Sub.nil))))))
      obtain ⟨a_14, ha_15, ⟨ts_t_16, tn_t_16, tf_t_16, te_t_16⟩, hb_t_16⟩ := h_10
      refine aw_zreti dX5_readTest_67 rfl (by first | exact Or.inl rfl | exact Or.inr rfl | assumption) (Nat.le_of_ble_eq_true rfl) (Nat.le_of_ble_eq_true rfl) ?_
      exact ⟨⟨(by first | exact Or.inl rfl | exact Or.inr rfl | assumption), ⟨a_14, by omega, ⟨⟨_, _, _, te_t_16⟩, by omega⟩⟩⟩, rfl, j_12⟩
    · skip
      have hlc_8 := h_2.resolve_left (by rw [c_8]; decide)
      refine aw_aload_n dX5_readTest_26 rfl ?_
      refine aw_iload_n dX5_readTest_27 rfl ?_
      refine aw_callVi (J' := jX5_open) (As := [.int 4]) (st := []) dX5_readTest_28 tb_407 ok_X5_open ⟨_, ((hJ0.2.1 _ hp.1 hp.2).trans hR)⟩ (by omega) rfl rfl (g_X5_open_4 l D b N V hN hJ0.1 p x ⟨by omega, by omega⟩ hx ((hJ0.2.1 _ hp.1 hp.2).trans hR) a (⟨⟨_, _, _, te_0⟩, by omega⟩) (by omega)) rfl (Nat.le_of_ble_eq_true rfl) ⟨Nat.le_of_ble_eq_true rfl, Nat.le_of_ble_eq_true rfl, Nat.le_of_ble_eq_true rfl, Nat.le_of_ble_eq_true rfl⟩ (fun r_29 N_30 V_24 q_31 => ?_)
      obtain ⟨⟨z_22, h_21⟩, rfl, q_20⟩ := q_31
      have j_23 := JW.trans hJ0 (JW.weak q_20 (Sub.cons LM0 (by decide) (by decide) (by decide) (Or.inr ⟨by decide, by decide⟩) Sub.nil))
      obtain ⟨h_28, a_25, ha_26, ⟨ts_t_27, tn_t_27, tf_t_27, te_t_27⟩, hb_t_27⟩ := h_21
      obtain rfl := h_28
      refine aw_if_eq (tgt := 60) dX5_readTest_31 (by decide) (fun c_32 => ?_) (fun c_32 => ?_)
      · exact absurd c_32 (by decide)
      refine aw_aload_n dX5_readTest_34 rfl ?_
      refine aw_iload_n dX5_readTest_35 rfl ?_
      refine aw_iconst (v := 1) dX5_readTest_36 (by decide) ?_
      refine aw_iadd dX5_readTest_37 ?_
      refine aw_eqi (y := 5) (by decide) ?_
      refine aw_callVi (J' := jX5_readAnyOf) (As := [.int 5]) (st := []) dX5_readTest_38 tb_501 ok_X5_readAnyOf ⟨_, ((j_23.2.1 _ hp.1 hp.2).trans hR)⟩ (by omega) rfl rfl (g_X5_readAnyOf_5 l D b N V_24 hN j_23.1 p x ⟨by omega, by omega⟩ hx ((j_23.2.1 _ hp.1 hp.2).trans hR) a_25 (⟨⟨_, _, _, te_t_27⟩, by omega⟩)) rfl (Nat.le_of_ble_eq_true rfl) ⟨Nat.le_of_ble_eq_true rfl, Nat.le_of_ble_eq_true rfl, Nat.le_of_ble_eq_true rfl, Nat.le_of_ble_eq_true rfl⟩ (fun r_41 N_42 V_37 q_43 => ?_)
      obtain ⟨⟨z_35, h_34⟩, rfl, q_33⟩ := q_43
      have j_36 := JW.trans j_23 (JW.weak q_33 (Sub.cons LM0 (by decide) (by decide) (by decide) (Or.inr ⟨by decide, by decide⟩) (Sub.cons (LMs LM0) (by omega) (by omega) (by decide) (Or.inl rfl) (Sub.cons (LMs (LMs LM0)) (by omega) (by omega) (by decide) (Or.inl rfl) (Sub.cons (LMs (LMs (LMs LM0))) (by omega) (by omega) (by decide) (Or.inr ⟨by decide, by decide⟩) (Sub.cons (LMs (LMs (LMs (LMs LM0)))) (by decide) (by decide) (by decide) (Or.inr ⟨by decide, by decide⟩) Sub.nil))))))
      obtain ⟨a_38, ha_39, ⟨ts_t_40, tn_t_40, tf_t_40, te_t_40⟩, hb_t_40⟩ := h_34
      refine aw_if_eq (tgt := 60) dX5_readTest_41 (by decide) (fun c_44 => ?_) (fun c_44 => ?_)
      · skip
        refine aw_iconst (v := 0) dX5_readTest_60 (by decide) ?_
        refine aw_zreti dX5_readTest_61 rfl (by first | exact Or.inl rfl | exact Or.inr rfl | assumption) (Nat.le_of_ble_eq_true rfl) (Nat.le_of_ble_eq_true rfl) ?_
        exact ⟨⟨(by first | exact Or.inl rfl | exact Or.inr rfl | assumption), ⟨a_38, by omega, ⟨⟨_, _, _, te_t_40⟩, by omega⟩⟩⟩, rfl, j_36⟩
      · skip
        refine aw_aload_n dX5_readTest_44 rfl ?_
        refine aw_get dX5_readTest_45 fl_X5_15 ((j_36.2.1 _ hp.1 hp.2).trans hR) (by omega) rfl ?_
        refine aw_bipush (v := 41) dX5_readTest_48 (by decide) ?_
        refine aw_callVi (J' := jX10_expect) (As := [.int 41]) (st := []) dX5_readTest_50 tb_412 ok_X10_expect ⟨_, te_t_40⟩ (by omega) rfl rfl (g_X10_expect l D b N V_37 hN j_36.1 41 a_38 (⟨⟨_, _, _, te_t_40⟩, by omega⟩) (by decide)) rfl (Nat.le_of_ble_eq_true rfl) ⟨Nat.le_of_ble_eq_true rfl, Nat.le_of_ble_eq_true rfl, Nat.le_of_ble_eq_true rfl, Nat.le_of_ble_eq_true rfl⟩ (fun r_53 N_54 V_49 q_55 => ?_)
        obtain ⟨⟨z_47, h_46⟩, rfl, q_45⟩ := q_55
        have j_48 := JW.trans j_36 (JW.weak q_45 (Sub.cons LM0 (by decide) (by decide) (by decide) (Or.inr ⟨by decide, by decide⟩) (Sub.cons (LMs (LMs (LMs (LMs LM0)))) (by decide) (by decide) (by decide) (Or.inr ⟨by decide, by decide⟩) Sub.nil)))
        obtain ⟨a_50, ha_51, ⟨ts_t_52, tn_t_52, tf_t_52, te_t_52⟩, hb_t_52⟩ := h_46
        refine aw_if_eq (tgt := 60) dX5_readTest_53 (by decide) (fun c_56 => ?_) (fun c_56 => ?_)
        · skip
          refine aw_iconst (v := 0) dX5_readTest_60 (by decide) ?_
          refine aw_zreti dX5_readTest_61 rfl (by first | exact Or.inl rfl | exact Or.inr rfl | assumption) (Nat.le_of_ble_eq_true rfl) (Nat.le_of_ble_eq_true rfl) ?_
          exact ⟨⟨(by first | exact Or.inl rfl | exact Or.inr rfl | assumption), ⟨a_50, by omega, ⟨⟨_, _, _, te_t_52⟩, by omega⟩⟩⟩, rfl, j_48⟩
        · skip
          refine aw_iconst (v := 1) dX5_readTest_56 (by decide) ?_
          refine aw_goto (tgt := 61) dX5_readTest_57 (by decide) ?_
          refine aw_zreti dX5_readTest_61 rfl (by first | exact Or.inl rfl | exact Or.inr rfl | assumption) (Nat.le_of_ble_eq_true rfl) (Nat.le_of_ble_eq_true rfl) ?_
          exact ⟨⟨(by first | exact Or.inl rfl | exact Or.inr rfl | assumption), ⟨a_50, by omega, ⟨⟨_, _, _, te_t_52⟩, by omega⟩⟩⟩, rfl, j_48⟩
  · skip
    have hlc_7 := h_2.resolve_left (by rw [c_7]; decide)
    refine aw_aload_n dX5_readTest_14 rfl ?_
    refine aw_iload_n dX5_readTest_15 rfl ?_
    refine aw_callVi (J' := jX5_readNegation) (As := [.int 4]) (st := []) dX5_readTest_16 tb_513 ok_X5_readNegation ⟨_, ((hJ0.2.1 _ hp.1 hp.2).trans hR)⟩ (by omega) rfl rfl (g_X5_readNegation_4 l D b N V hN hJ0.1 p x ⟨by omega, by omega⟩ hx ((hJ0.2.1 _ hp.1 hp.2).trans hR) a (⟨⟨_, _, _, te_0⟩, by omega⟩) (by omega)) rfl (Nat.le_of_ble_eq_true rfl) ⟨Nat.le_of_ble_eq_true rfl, Nat.le_of_ble_eq_true rfl, Nat.le_of_ble_eq_true rfl, Nat.le_of_ble_eq_true rfl⟩ (fun r_65 N_66 V_61 q_67 => ?_)
    obtain ⟨⟨z_59, h_58⟩, rfl, q_57⟩ := q_67
    have j_60 := JW.trans hJ0 (JW.weak q_57 (Sub.cons LM0 (by decide) (by decide) (by decide) (Or.inr ⟨by decide, by decide⟩) (Sub.cons (LMs LM0) (by omega) (by omega) (by decide) (Or.inl rfl) (Sub.cons (LMs (LMs LM0)) (by omega) (by omega) (by decide) (Or.inl rfl) (Sub.cons (LMs (LMs (LMs LM0))) (by omega) (by omega) (by decide) (Or.inr ⟨by decide, by decide⟩) (Sub.cons (LMs (LMs (LMs (LMs LM0)))) (by decide) (by decide) (by decide) (Or.inr ⟨by decide, by decide⟩) Sub.nil))))))
    obtain ⟨a_62, ha_63, ⟨ts_t_64, tn_t_64, tf_t_64, te_t_64⟩, hb_t_64⟩ := h_58
    refine aw_zreti dX5_readTest_19 rfl (by first | exact Or.inl rfl | exact Or.inr rfl | assumption) (Nat.le_of_ble_eq_true rfl) (Nat.le_of_ble_eq_true rfl) ?_
    exact ⟨⟨(by first | exact Or.inl rfl | exact Or.inr rfl | assumption), ⟨a_62, by omega, ⟨⟨_, _, _, te_t_64⟩, by omega⟩⟩⟩, rfl, j_60⟩

set_option maxHeartbeats 4000000 in
set_option maxRecDepth 100000 in
theorem g_X5_readAllOf_4 (l : Launch) (D : va_G) (b : Nat) (N : Nat) (V : Wd) (hN : 100 ≤ N) (hW : CW D b V) (p x : Nat) (hp : 100 ≤ p ∧ p < N) (hx : x = 57 ∨ x = 65) (hR : V p = cO 5 [.ref (b + 1), .ref (b + x)]) (a : Nat) (hT : TA b a V) : MI l D b 16 jX5_readAllOf [.ref (b + p), .int 4] N V 0 0 (fun r N9 V9 => ((r = 0 ∨ r = 1) ∧ (∃ a9, a ≤ a9 ∧ TA b a9 V9)) ∧ N = N9 ∧ JW D b N [(1, 1, 3, 3), (x + 1, x + 1, 0, 1000000), (x + 2, x + 2, 0, 1000000), (x, x, 2, 2), (1, 1, 4, 4)] V V9) := by
  have hJ0 : JW D b N [(1, 1, 3, 3), (x + 1, x + 1, 0, 1000000), (x + 2, x + 2, 0, 1000000), (x, x, 2, 2), (1, 1, 4, 4)] V V := JW.rf hW
  obtain ⟨⟨ts_0, tn_0, tf_0, te_0⟩, ha_0⟩ := id hT
  refine mw_of (by decide) (by simp [Value.category]) (Nat.le_of_ble_eq_true rfl) ?_
  show AW l D b jX5_readAllOf (fx_rm 16 0 0) none (fx_MQ D b 0 0 (fx_qi (fun r N9 V9 => ((r = 0 ∨ r = 1) ∧ (∃ a9, a ≤ a9 ∧ TA b a9 V9)) ∧ N = N9 ∧ JW D b N [(1, 1, 3, 3), (x + 1, x + 1, 0, 1000000), (x + 2, x + 2, 0, 1000000), (x, x, 2, 2), (1, 1, 4, 4)] V V9))) 0 [some (.ref (b + p)), some (.int 4), none] [] N V 0 0
  refine aw_aload_n dX5_readAllOf_0 rfl ?_
  refine aw_iload_n dX5_readAllOf_1 rfl ?_
  refine aw_callVi (J' := jX5_readTest) (As := [.int 4]) (st := []) dX5_readAllOf_2 tb_509 ok_X5_readTest ⟨_, ((hJ0.2.1 _ hp.1 hp.2).trans hR)⟩ (by omega) rfl rfl (g_X5_readTest_4 l D b N V hN hJ0.1 p x ⟨by omega, by omega⟩ hx ((hJ0.2.1 _ hp.1 hp.2).trans hR) a (⟨⟨_, _, _, te_0⟩, by omega⟩)) rfl (Nat.le_of_ble_eq_true rfl) ⟨Nat.le_of_ble_eq_true rfl, Nat.le_of_ble_eq_true rfl, Nat.le_of_ble_eq_true rfl, Nat.le_of_ble_eq_true rfl⟩ (fun r_9 N_10 V_5 q_11 => ?_)
  obtain ⟨⟨z_3, h_2⟩, rfl, q_1⟩ := q_11
  have j_4 := JW.trans hJ0 (JW.weak q_1 (Sub.cons LM0 (by decide) (by decide) (by decide) (Or.inr ⟨by decide, by decide⟩) (Sub.cons (LMs LM0) (by omega) (by omega) (by decide) (Or.inl rfl) (Sub.cons (LMs (LMs LM0)) (by omega) (by omega) (by decide) (Or.inl rfl) (Sub.cons (LMs (LMs (LMs LM0))) (by omega) (by omega) (by decide) (Or.inr ⟨by decide, by decide⟩) (Sub.cons (LMs (LMs (LMs (LMs LM0)))) (by decide) (by decide) (by decide) (Or.inr ⟨by decide, by decide⟩) Sub.nil))))))
  obtain ⟨a_6, ha_7, ⟨ts_t_8, tn_t_8, tf_t_8, te_t_8⟩, hb_t_8⟩ := h_2
  refine aw_if_ne (tgt := 10) dX5_readAllOf_5 (by decide) (fun c_12 => ?_) (fun c_12 => ?_)
  · skip
    have ml_10_13 : ∀ (m : Nat) (a10 : Nat) (V10 : Wd), m = 260 - a10 → (JW D b N [(1, 1, 3, 3), (x + 1, x + 1, 0, 1000000), (x + 2, x + 2, 0, 1000000), (x, x, 2, 2), (1, 1, 4, 4)] V V10) → (TA b a10 V10) → (a ≤ a10) → AW l D b jX5_readAllOf (fx_rm 16 0 0) none (fx_MQ D b 0 0 (fx_qi (fun r N9 V9 => ((r = 0 ∨ r = 1) ∧ (∃ a9, a ≤ a9 ∧ TA b a9 V9)) ∧ N = N9 ∧ JW D b N [(1, 1, 3, 3), (x + 1, x + 1, 0, 1000000), (x + 2, x + 2, 0, 1000000), (x, x, 2, 2), (1, 1, 4, 4)] V V9))) 10 [some (.ref (b + p)), some (.int 4), none] [] N V10 0 0 := by
      intro m; refine Nat.strongRecOn m ?_
      intro m mih_10_13 a10 V10 hm10 i10_0 i10_1 i10_2
      obtain ⟨⟨ts_10, tn_10, tf_10, te_10⟩, hb_10⟩ := i10_1
      refine aw_aload_n dX5_readAllOf_10 rfl ?_
      refine aw_get dX5_readAllOf_11 fl_X5_15 ((i10_0.2.1 _ hp.1 hp.2).trans hR) (by omega) rfl ?_
      refine aw_get dX5_readAllOf_14 fl_X5_25 te_10 (by omega) rfl ?_
      refine aw_aload_n dX5_readAllOf_17 rfl ?_
      refine aw_get dX5_readAllOf_18 fl_X5_15 ((i10_0.2.1 _ hp.1 hp.2).trans hR) (by omega) rfl ?_
      refine aw_get dX5_readAllOf_21 fl_X5_59 te_10 (by omega) rfl ?_
      refine aw_icmp_ge (tgt := 84) dX5_readAllOf_24 (by decide) (fun c_14 => ?_) (fun c_14 => ?_)
      · skip
        refine aw_iconst (v := 1) dX5_readAllOf_84 (by decide) ?_
        refine aw_zreti dX5_readAllOf_85 rfl (by first | exact Or.inl rfl | exact Or.inr rfl | assumption) (Nat.le_of_ble_eq_true rfl) (Nat.le_of_ble_eq_true rfl) ?_
        exact ⟨⟨(by first | exact Or.inl rfl | exact Or.inr rfl | assumption), ⟨a10, by omega, ⟨⟨_, _, _, te_10⟩, by omega⟩⟩⟩, rfl, i10_0⟩
      · skip
        refine aw_aload_n dX5_readAllOf_27 rfl ?_
        refine aw_get dX5_readAllOf_28 fl_X5_15 ((i10_0.2.1 _ hp.1 hp.2).trans hR) (by omega) rfl ?_
        refine aw_callVi (J' := jX10_now) (As := []) (st := []) dX5_readAllOf_31 tb_390 ok_X10_now ⟨_, te_10⟩ (by omega) rfl rfl (g_X10_now l D b N V10 hN i10_0.1 a10 (⟨⟨_, _, _, te_10⟩, by omega⟩)) rfl (Nat.le_of_ble_eq_true rfl) ⟨Nat.le_of_ble_eq_true rfl, Nat.le_of_ble_eq_true rfl, Nat.le_of_ble_eq_true rfl, Nat.le_of_ble_eq_true rfl⟩ (fun r_17 N_18 V_19 q_20 => ?_)
        obtain ⟨h_16, rfl, rfl⟩ := q_20
        refine aw_bipush (v := 38) dX5_readAllOf_34 (by decide) ?_
        refine aw_icmp_ne (tgt := 84) dX5_readAllOf_36 (by decide) (fun c_21 => ?_) (fun c_21 => ?_)
        · skip
          refine aw_iconst (v := 1) dX5_readAllOf_84 (by decide) ?_
          refine aw_zreti dX5_readAllOf_85 rfl (by first | exact Or.inl rfl | exact Or.inr rfl | assumption) (Nat.le_of_ble_eq_true rfl) (Nat.le_of_ble_eq_true rfl) ?_
          exact ⟨⟨(by first | exact Or.inl rfl | exact Or.inr rfl | assumption), ⟨a10, by omega, ⟨⟨_, _, _, te_10⟩, by omega⟩⟩⟩, rfl, i10_0⟩
        · skip
          have hlc_21 := h_16.resolve_left (by rw [c_21]; decide)
          refine aw_aload_n dX5_readAllOf_39 rfl ?_
          refine aw_get dX5_readAllOf_40 fl_X5_15 ((i10_0.2.1 _ hp.1 hp.2).trans hR) (by omega) rfl ?_
          refine aw_dup dX5_readAllOf_43 rfl ?_
          refine aw_get dX5_readAllOf_44 fl_X5_25 te_10 (by omega) rfl ?_
          refine aw_iconst (v := 1) dX5_readAllOf_47 (by decide) ?_
          refine aw_iadd dX5_readAllOf_48 ?_
          refine aw_eqi (y := nI (a10 + 1)) (nI_add _ _) ?_
          refine aw_put dX5_readAllOf_49 fp_X5_25 te_10 (by omega) rfl rfl (Nat.le_of_ble_eq_true rfl) rfl ?_
          refine aw_up i10_0 ct_1 ⟨_, _, _, (a10 + 1), rfl, (by first | omega | (split <;> omega))⟩ (WO (s := 3) (x := .int (nI (a10 + 1))) te_10 rfl LM0 (by decide) (by decide) (by decide) (Or.inl (by decide))) (fun V_22 j_22 k_22 e_22 => ?_)
          refine aw_aload_n dX5_readAllOf_52 rfl ?_
          refine aw_get dX5_readAllOf_53 fl_X5_9 ((j_22.2.1 _ hp.1 hp.2).trans hR) (by omega) rfl ?_
          refine aw_bipush (v := 38) dX5_readAllOf_56 (by decide) ?_
          refine aw_iconst (v := 0) dX5_readAllOf_58 (by decide) ?_
          obtain ⟨s8_26, r8_26, h8_26, e_26, hs_26, hr_26⟩ := JW.get j_22 (ctl_0 hx)
          refine aw_callVi (J' := jX4_add) (As := [.int 38, .int 0]) (st := []) dX5_readAllOf_59 tb_415 ok_X4_add ⟨_, e_26⟩ (by omega) rfl rfl (g_X4_add l D b N V_22 hN j_22.1 x hx 38 0 (by decide)) rfl (Nat.le_of_ble_eq_true rfl) ⟨Nat.le_of_ble_eq_true rfl, Nat.le_of_ble_eq_true rfl, Nat.le_of_ble_eq_true rfl, Nat.le_of_ble_eq_true rfl⟩ (fun r_27 N_28 V_25 q_29 => ?_)
          obtain ⟨rfl, q_23⟩ := q_29
          have j_24 := JW.trans j_22 (JW.weak q_23 (Sub.cons (LMs LM0) (by omega) (by omega) (by decide) (Or.inl rfl) (Sub.cons (LMs (LMs LM0)) (by omega) (by omega) (by decide) (Or.inl rfl) (Sub.cons (LMs (LMs (LMs LM0))) (by omega) (by omega) (by decide) (Or.inr ⟨by decide, by decide⟩) Sub.nil))))
          refine aw_istore_n (ls' := [some (.ref (b + p)), some (.int 4), some (.int r_27)]) dX5_readAllOf_62 (Nat.le_of_ble_eq_true rfl) rfl ?_
          refine aw_aload_n dX5_readAllOf_63 rfl ?_
          refine aw_iload_n dX5_readAllOf_64 rfl ?_
          refine aw_callVi (J' := jX5_readTest) (As := [.int 4]) (st := []) dX5_readAllOf_65 tb_509 ok_X5_readTest ⟨_, ((j_24.2.1 _ hp.1 hp.2).trans hR)⟩ (by omega) rfl rfl (g_X5_readTest_4 l D b N V_25 hN j_24.1 p x ⟨by omega, by omega⟩ hx ((j_24.2.1 _ hp.1 hp.2).trans hR) (a10 + 1) (⟨⟨_, _, _, ((JW.same q_23 (by decide) (fun k => (nfc (by omega) (nfc (by omega) (nfc (by omega) nf0))))).trans e_22)⟩, by omega⟩)) rfl (Nat.le_of_ble_eq_true rfl) ⟨Nat.le_of_ble_eq_true rfl, Nat.le_of_ble_eq_true rfl, Nat.le_of_ble_eq_true rfl, Nat.le_of_ble_eq_true rfl⟩ (fun r_38 N_39 V_34 q_40 => ?_)
          obtain ⟨⟨z_32, h_31⟩, rfl, q_30⟩ := q_40
          have j_33 := JW.trans j_24 (JW.weak q_30 (Sub.cons LM0 (by decide) (by decide) (by decide) (Or.inr ⟨by decide, by decide⟩) (Sub.cons (LMs LM0) (by omega) (by omega) (by decide) (Or.inl rfl) (Sub.cons (LMs (LMs LM0)) (by omega) (by omega) (by decide) (Or.inl rfl) (Sub.cons (LMs (LMs (LMs LM0))) (by omega) (by omega) (by decide) (Or.inr ⟨by decide, by decide⟩) (Sub.cons (LMs (LMs (LMs (LMs LM0)))) (by decide) (by decide) (by decide) (Or.inr ⟨by decide, by decide⟩) Sub.nil))))))
          obtain ⟨a_35, ha_36, ⟨ts_t_37, tn_t_37, tf_t_37, te_t_37⟩, hb_t_37⟩ := h_31
          refine aw_if_ne (tgt := 73) dX5_readAllOf_68 (by decide) (fun c_41 => ?_) (fun c_41 => ?_)
          · skip
            refine aw_aload_n dX5_readAllOf_73 rfl ?_
            refine aw_get dX5_readAllOf_74 fl_X5_9 ((j_33.2.1 _ hp.1 hp.2).trans hR) (by omega) rfl ?_
            refine aw_iload_n dX5_readAllOf_77 rfl ?_
            obtain ⟨s8_45, r8_45, h8_45, e_45, hs_45, hr_45⟩ := JW.get j_33 (ctl_0 hx)
            refine aw_callVv (J' := jX4_leadHere) (As := [.int r_27]) (st := []) dX5_readAllOf_78 tb_521 ok_X4_leadHere ⟨_, e_45⟩ (by omega) rfl rfl (g_X4_leadHere l D b N V_34 hN j_33.1 x hx r_27) rfl (Nat.le_of_ble_eq_true rfl) ⟨Nat.le_of_ble_eq_true rfl, Nat.le_of_ble_eq_true rfl, Nat.le_of_ble_eq_true rfl, Nat.le_of_ble_eq_true rfl⟩ (fun  N_46 V_44 q_47 => ?_)
            obtain ⟨rfl, q_42⟩ := q_47
            have j_43 := JW.trans j_33 (JW.weak q_42 (Sub.cons (LMs (LMs LM0)) (by omega) (by omega) (by decide) (Or.inl rfl) Sub.nil))
            refine aw_goto (tgt := 10) dX5_readAllOf_81 (by decide) ?_
            refine aw_le ?_ (mih_10_13 _ (by omega) a_35 V_44 rfl (j_43) (⟨⟨_, _, _, ((JW.same q_42 (by decide) (fun k => (nfc (by omega) nf0))).trans te_t_37)⟩, by omega⟩) (by omega))
            exact ⟨rfl, ⟨rfl, trivial⟩⟩
          · skip
            refine aw_iconst (v := 0) dX5_readAllOf_71 (by decide) ?_
            refine aw_zreti dX5_readAllOf_72 rfl (by first | exact Or.inl rfl | exact Or.inr rfl | assumption) (Nat.le_of_ble_eq_true rfl) (Nat.le_of_ble_eq_true rfl) ?_
            exact ⟨⟨(by first | exact Or.inl rfl | exact Or.inr rfl | assumption), ⟨a_35, by omega, ⟨⟨_, _, _, te_t_37⟩, by omega⟩⟩⟩, rfl, j_33⟩
    refine aw_le ?_ (ml_10_13 _ a_6 V_5 rfl (j_4) (⟨⟨_, _, _, te_t_8⟩, by omega⟩) (by omega))
    exact ⟨rfl, ⟨rfl, trivial⟩⟩
  · skip
    refine aw_iconst (v := 0) dX5_readAllOf_8 (by decide) ?_
    refine aw_zreti dX5_readAllOf_9 rfl (by first | exact Or.inl rfl | exact Or.inr rfl | assumption) (Nat.le_of_ble_eq_true rfl) (Nat.le_of_ble_eq_true rfl) ?_
    exact ⟨⟨(by first | exact Or.inl rfl | exact Or.inr rfl | assumption), ⟨a_6, by omega, ⟨⟨_, _, _, te_t_8⟩, by omega⟩⟩⟩, rfl, j_4⟩

set_option maxHeartbeats 4000000 in
set_option maxRecDepth 100000 in
theorem g_X5_readAnyOf_4 (l : Launch) (D : va_G) (b : Nat) (N : Nat) (V : Wd) (hN : 100 ≤ N) (hW : CW D b V) (p x : Nat) (hp : 100 ≤ p ∧ p < N) (hx : x = 57 ∨ x = 65) (hR : V p = cO 5 [.ref (b + 1), .ref (b + x)]) (a : Nat) (hT : TA b a V) : MI l D b 17 jX5_readAnyOf [.ref (b + p), .int 4] N V 0 0 (fun r N9 V9 => ((r = 0 ∨ r = 1) ∧ (∃ a9, a ≤ a9 ∧ TA b a9 V9)) ∧ N = N9 ∧ JW D b N [(1, 1, 3, 3), (x + 1, x + 1, 0, 1000000), (x + 2, x + 2, 0, 1000000), (x, x, 2, 2), (1, 1, 4, 4)] V V9) := by
  have hJ0 : JW D b N [(1, 1, 3, 3), (x + 1, x + 1, 0, 1000000), (x + 2, x + 2, 0, 1000000), (x, x, 2, 2), (1, 1, 4, 4)] V V := JW.rf hW
  obtain ⟨⟨ts_0, tn_0, tf_0, te_0⟩, ha_0⟩ := id hT
  refine mw_of (by decide) (by simp [Value.category]) (Nat.le_of_ble_eq_true rfl) ?_
  show AW l D b jX5_readAnyOf (fx_rm 17 0 0) none (fx_MQ D b 0 0 (fx_qi (fun r N9 V9 => ((r = 0 ∨ r = 1) ∧ (∃ a9, a ≤ a9 ∧ TA b a9 V9)) ∧ N = N9 ∧ JW D b N [(1, 1, 3, 3), (x + 1, x + 1, 0, 1000000), (x + 2, x + 2, 0, 1000000), (x, x, 2, 2), (1, 1, 4, 4)] V V9))) 0 [some (.ref (b + p)), some (.int 4), none] [] N V 0 0
  refine aw_aload_n dX5_readAnyOf_0 rfl ?_
  refine aw_iload_n dX5_readAnyOf_1 rfl ?_
  refine aw_callVi (J' := jX5_readAllOf) (As := [.int 4]) (st := []) dX5_readAnyOf_2 tb_505 ok_X5_readAllOf ⟨_, ((hJ0.2.1 _ hp.1 hp.2).trans hR)⟩ (by omega) rfl rfl (g_X5_readAllOf_4 l D b N V hN hJ0.1 p x ⟨by omega, by omega⟩ hx ((hJ0.2.1 _ hp.1 hp.2).trans hR) a (⟨⟨_, _, _, te_0⟩, by omega⟩)) rfl (Nat.le_of_ble_eq_true rfl) ⟨Nat.le_of_ble_eq_true rfl, Nat.le_of_ble_eq_true rfl, Nat.le_of_ble_eq_true rfl, Nat.le_of_ble_eq_true rfl⟩ (fun r_9 N_10 V_5 q_11 => ?_)
  obtain ⟨⟨z_3, h_2⟩, rfl, q_1⟩ := q_11
  have j_4 := JW.trans hJ0 (JW.weak q_1 (Sub.cons LM0 (by decide) (by decide) (by decide) (Or.inr ⟨by decide, by decide⟩) (Sub.cons (LMs LM0) (by omega) (by omega) (by decide) (Or.inl rfl) (Sub.cons (LMs (LMs LM0)) (by omega) (by omega) (by decide) (Or.inl rfl) (Sub.cons (LMs (LMs (LMs LM0))) (by omega) (by omega) (by decide) (Or.inr ⟨by decide, by decide⟩) (Sub.cons (LMs (LMs (LMs (LMs LM0)))) (by decide) (by decide) (by decide) (Or.inr ⟨by decide, by decide⟩) Sub.nil))))))
  obtain ⟨a_6, ha_7, ⟨ts_t_8, tn_t_8, tf_t_8, te_t_8⟩, hb_t_8⟩ := h_2
  refine aw_if_ne (tgt := 10) dX5_readAnyOf_5 (by decide) (fun c_12 => ?_) (fun c_12 => ?_)
  · skip
    have ml_10_13 : ∀ (m : Nat) (a10 : Nat) (V10 : Wd), m = 260 - a10 → (JW D b N [(1, 1, 3, 3), (x + 1, x + 1, 0, 1000000), (x + 2, x + 2, 0, 1000000), (x, x, 2, 2), (1, 1, 4, 4)] V V10) → (TA b a10 V10) → (a ≤ a10) → AW l D b jX5_readAnyOf (fx_rm 17 0 0) none (fx_MQ D b 0 0 (fx_qi (fun r N9 V9 => ((r = 0 ∨ r = 1) ∧ (∃ a9, a ≤ a9 ∧ TA b a9 V9)) ∧ N = N9 ∧ JW D b N [(1, 1, 3, 3), (x + 1, x + 1, 0, 1000000), (x + 2, x + 2, 0, 1000000), (x, x, 2, 2), (1, 1, 4, 4)] V V9))) 10 [some (.ref (b + p)), some (.int 4), none] [] N V10 0 0 := by
      intro m; refine Nat.strongRecOn m ?_
      intro m mih_10_13 a10 V10 hm10 i10_0 i10_1 i10_2
      obtain ⟨⟨ts_10, tn_10, tf_10, te_10⟩, hb_10⟩ := i10_1
      refine aw_aload_n dX5_readAnyOf_10 rfl ?_
      refine aw_get dX5_readAnyOf_11 fl_X5_15 ((i10_0.2.1 _ hp.1 hp.2).trans hR) (by omega) rfl ?_
      refine aw_get dX5_readAnyOf_14 fl_X5_25 te_10 (by omega) rfl ?_
      refine aw_aload_n dX5_readAnyOf_17 rfl ?_
      refine aw_get dX5_readAnyOf_18 fl_X5_15 ((i10_0.2.1 _ hp.1 hp.2).trans hR) (by omega) rfl ?_
      refine aw_get dX5_readAnyOf_21 fl_X5_59 te_10 (by omega) rfl ?_
      refine aw_icmp_ge (tgt := 84) dX5_readAnyOf_24 (by decide) (fun c_14 => ?_) (fun c_14 => ?_)
      · skip
        refine aw_iconst (v := 1) dX5_readAnyOf_84 (by decide) ?_
        refine aw_zreti dX5_readAnyOf_85 rfl (by first | exact Or.inl rfl | exact Or.inr rfl | assumption) (Nat.le_of_ble_eq_true rfl) (Nat.le_of_ble_eq_true rfl) ?_
        exact ⟨⟨(by first | exact Or.inl rfl | exact Or.inr rfl | assumption), ⟨a10, by omega, ⟨⟨_, _, _, te_10⟩, by omega⟩⟩⟩, rfl, i10_0⟩
      · skip
        refine aw_aload_n dX5_readAnyOf_27 rfl ?_
        refine aw_get dX5_readAnyOf_28 fl_X5_15 ((i10_0.2.1 _ hp.1 hp.2).trans hR) (by omega) rfl ?_
        refine aw_callVi (J' := jX10_now) (As := []) (st := []) dX5_readAnyOf_31 tb_390 ok_X10_now ⟨_, te_10⟩ (by omega) rfl rfl (g_X10_now l D b N V10 hN i10_0.1 a10 (⟨⟨_, _, _, te_10⟩, by omega⟩)) rfl (Nat.le_of_ble_eq_true rfl) ⟨Nat.le_of_ble_eq_true rfl, Nat.le_of_ble_eq_true rfl, Nat.le_of_ble_eq_true rfl, Nat.le_of_ble_eq_true rfl⟩ (fun r_17 N_18 V_19 q_20 => ?_)
        obtain ⟨h_16, rfl, rfl⟩ := q_20
        refine aw_bipush (v := 124) dX5_readAnyOf_34 (by decide) ?_
        refine aw_icmp_ne (tgt := 84) dX5_readAnyOf_36 (by decide) (fun c_21 => ?_) (fun c_21 => ?_)
        · skip
          refine aw_iconst (v := 1) dX5_readAnyOf_84 (by decide) ?_
          refine aw_zreti dX5_readAnyOf_85 rfl (by first | exact Or.inl rfl | exact Or.inr rfl | assumption) (Nat.le_of_ble_eq_true rfl) (Nat.le_of_ble_eq_true rfl) ?_
          exact ⟨⟨(by first | exact Or.inl rfl | exact Or.inr rfl | assumption), ⟨a10, by omega, ⟨⟨_, _, _, te_10⟩, by omega⟩⟩⟩, rfl, i10_0⟩
        · skip
          have hlc_21 := h_16.resolve_left (by rw [c_21]; decide)
          refine aw_aload_n dX5_readAnyOf_39 rfl ?_
          refine aw_get dX5_readAnyOf_40 fl_X5_15 ((i10_0.2.1 _ hp.1 hp.2).trans hR) (by omega) rfl ?_
          refine aw_dup dX5_readAnyOf_43 rfl ?_
          refine aw_get dX5_readAnyOf_44 fl_X5_25 te_10 (by omega) rfl ?_
          refine aw_iconst (v := 1) dX5_readAnyOf_47 (by decide) ?_
          refine aw_iadd dX5_readAnyOf_48 ?_
          refine aw_eqi (y := nI (a10 + 1)) (nI_add _ _) ?_
          refine aw_put dX5_readAnyOf_49 fp_X5_25 te_10 (by omega) rfl rfl (Nat.le_of_ble_eq_true rfl) rfl ?_
          refine aw_up i10_0 ct_1 ⟨_, _, _, (a10 + 1), rfl, (by first | omega | (split <;> omega))⟩ (WO (s := 3) (x := .int (nI (a10 + 1))) te_10 rfl LM0 (by decide) (by decide) (by decide) (Or.inl (by decide))) (fun V_22 j_22 k_22 e_22 => ?_)
          refine aw_aload_n dX5_readAnyOf_52 rfl ?_
          refine aw_get dX5_readAnyOf_53 fl_X5_9 ((j_22.2.1 _ hp.1 hp.2).trans hR) (by omega) rfl ?_
          refine aw_bipush (v := 124) dX5_readAnyOf_56 (by decide) ?_
          refine aw_iconst (v := 0) dX5_readAnyOf_58 (by decide) ?_
          obtain ⟨s8_26, r8_26, h8_26, e_26, hs_26, hr_26⟩ := JW.get j_22 (ctl_0 hx)
          refine aw_callVi (J' := jX4_add) (As := [.int 124, .int 0]) (st := []) dX5_readAnyOf_59 tb_415 ok_X4_add ⟨_, e_26⟩ (by omega) rfl rfl (g_X4_add l D b N V_22 hN j_22.1 x hx 124 0 (by decide)) rfl (Nat.le_of_ble_eq_true rfl) ⟨Nat.le_of_ble_eq_true rfl, Nat.le_of_ble_eq_true rfl, Nat.le_of_ble_eq_true rfl, Nat.le_of_ble_eq_true rfl⟩ (fun r_27 N_28 V_25 q_29 => ?_)
          obtain ⟨rfl, q_23⟩ := q_29
          have j_24 := JW.trans j_22 (JW.weak q_23 (Sub.cons (LMs LM0) (by omega) (by omega) (by decide) (Or.inl rfl) (Sub.cons (LMs (LMs LM0)) (by omega) (by omega) (by decide) (Or.inl rfl) (Sub.cons (LMs (LMs (LMs LM0))) (by omega) (by omega) (by decide) (Or.inr ⟨by decide, by decide⟩) Sub.nil))))
          refine aw_istore_n (ls' := [some (.ref (b + p)), some (.int 4), some (.int r_27)]) dX5_readAnyOf_62 (Nat.le_of_ble_eq_true rfl) rfl ?_
          refine aw_aload_n dX5_readAnyOf_63 rfl ?_
          refine aw_iload_n dX5_readAnyOf_64 rfl ?_
          refine aw_callVi (J' := jX5_readAllOf) (As := [.int 4]) (st := []) dX5_readAnyOf_65 tb_505 ok_X5_readAllOf ⟨_, ((j_24.2.1 _ hp.1 hp.2).trans hR)⟩ (by omega) rfl rfl (g_X5_readAllOf_4 l D b N V_25 hN j_24.1 p x ⟨by omega, by omega⟩ hx ((j_24.2.1 _ hp.1 hp.2).trans hR) (a10 + 1) (⟨⟨_, _, _, ((JW.same q_23 (by decide) (fun k => (nfc (by omega) (nfc (by omega) (nfc (by omega) nf0))))).trans e_22)⟩, by omega⟩)) rfl (Nat.le_of_ble_eq_true rfl) ⟨Nat.le_of_ble_eq_true rfl, Nat.le_of_ble_eq_true rfl, Nat.le_of_ble_eq_true rfl, Nat.le_of_ble_eq_true rfl⟩ (fun r_38 N_39 V_34 q_40 => ?_)
          obtain ⟨⟨z_32, h_31⟩, rfl, q_30⟩ := q_40
          have j_33 := JW.trans j_24 (JW.weak q_30 (Sub.cons LM0 (by decide) (by decide) (by decide) (Or.inr ⟨by decide, by decide⟩) (Sub.cons (LMs LM0) (by omega) (by omega) (by decide) (Or.inl rfl) (Sub.cons (LMs (LMs LM0)) (by omega) (by omega) (by decide) (Or.inl rfl) (Sub.cons (LMs (LMs (LMs LM0))) (by omega) (by omega) (by decide) (Or.inr ⟨by decide, by decide⟩) (Sub.cons (LMs (LMs (LMs (LMs LM0)))) (by decide) (by decide) (by decide) (Or.inr ⟨by decide, by decide⟩) Sub.nil))))))
          obtain ⟨a_35, ha_36, ⟨ts_t_37, tn_t_37, tf_t_37, te_t_37⟩, hb_t_37⟩ := h_31
          refine aw_if_ne (tgt := 73) dX5_readAnyOf_68 (by decide) (fun c_41 => ?_) (fun c_41 => ?_)
          · skip
            refine aw_aload_n dX5_readAnyOf_73 rfl ?_
            refine aw_get dX5_readAnyOf_74 fl_X5_9 ((j_33.2.1 _ hp.1 hp.2).trans hR) (by omega) rfl ?_
            refine aw_iload_n dX5_readAnyOf_77 rfl ?_
            obtain ⟨s8_45, r8_45, h8_45, e_45, hs_45, hr_45⟩ := JW.get j_33 (ctl_0 hx)
            refine aw_callVv (J' := jX4_leadHere) (As := [.int r_27]) (st := []) dX5_readAnyOf_78 tb_521 ok_X4_leadHere ⟨_, e_45⟩ (by omega) rfl rfl (g_X4_leadHere l D b N V_34 hN j_33.1 x hx r_27) rfl (Nat.le_of_ble_eq_true rfl) ⟨Nat.le_of_ble_eq_true rfl, Nat.le_of_ble_eq_true rfl, Nat.le_of_ble_eq_true rfl, Nat.le_of_ble_eq_true rfl⟩ (fun  N_46 V_44 q_47 => ?_)
            obtain ⟨rfl, q_42⟩ := q_47
            have j_43 := JW.trans j_33 (JW.weak q_42 (Sub.cons (LMs (LMs LM0)) (by omega) (by omega) (by decide) (Or.inl rfl) Sub.nil))
            refine aw_goto (tgt := 10) dX5_readAnyOf_81 (by decide) ?_
            refine aw_le ?_ (mih_10_13 _ (by omega) a_35 V_44 rfl (j_43) (⟨⟨_, _, _, ((JW.same q_42 (by decide) (fun k => (nfc (by omega) nf0))).trans te_t_37)⟩, by omega⟩) (by omega))
            exact ⟨rfl, ⟨rfl, trivial⟩⟩
          · skip
            refine aw_iconst (v := 0) dX5_readAnyOf_71 (by decide) ?_
            refine aw_zreti dX5_readAnyOf_72 rfl (by first | exact Or.inl rfl | exact Or.inr rfl | assumption) (Nat.le_of_ble_eq_true rfl) (Nat.le_of_ble_eq_true rfl) ?_
            exact ⟨⟨(by first | exact Or.inl rfl | exact Or.inr rfl | assumption), ⟨a_35, by omega, ⟨⟨_, _, _, te_t_37⟩, by omega⟩⟩⟩, rfl, j_33⟩
    refine aw_le ?_ (ml_10_13 _ a_6 V_5 rfl (j_4) (⟨⟨_, _, _, te_t_8⟩, by omega⟩) (by omega))
    exact ⟨rfl, ⟨rfl, trivial⟩⟩
  · skip
    refine aw_iconst (v := 0) dX5_readAnyOf_8 (by decide) ?_
    refine aw_zreti dX5_readAnyOf_9 rfl (by first | exact Or.inl rfl | exact Or.inr rfl | assumption) (Nat.le_of_ble_eq_true rfl) (Nat.le_of_ble_eq_true rfl) ?_
    exact ⟨⟨(by first | exact Or.inl rfl | exact Or.inr rfl | assumption), ⟨a_6, by omega, ⟨⟨_, _, _, te_t_8⟩, by omega⟩⟩⟩, rfl, j_4⟩

set_option maxHeartbeats 4000000 in
set_option maxRecDepth 100000 in
theorem g_X5_open_3 (l : Launch) (D : va_G) (b : Nat) (N : Nat) (V : Wd) (hN : 100 ≤ N) (hW : CW D b V) (p x : Nat) (hp : 100 ≤ p ∧ p < N) (hx : x = 57 ∨ x = 65) (hR : V p = cO 5 [.ref (b + 1), .ref (b + x)]) (a : Nat) (hT : TA b a V) (hlt : a < 260) : MI l D b 1 jX5_open [.ref (b + p), .int 3] N V 0 0 (fun r N9 V9 => ((r = 0 ∨ r = 1) ∧ ((r = 1) ∧ ∃ a9, a ≤ a9 ∧ TA b a9 V9)) ∧ N = N9 ∧ JW D b N [(1, 1, 3, 3)] V V9) := by
  have hJ0 : JW D b N [(1, 1, 3, 3)] V V := JW.rf hW
  obtain ⟨⟨ts_0, tn_0, tf_0, te_0⟩, ha_0⟩ := id hT
  refine mw_of (by decide) (by simp [Value.category]) (Nat.le_of_ble_eq_true rfl) ?_
  show AW l D b jX5_open (fx_rm 1 0 0) none (fx_MQ D b 0 0 (fx_qi (fun r N9 V9 => ((r = 0 ∨ r = 1) ∧ ((r = 1) ∧ ∃ a9, a ≤ a9 ∧ TA b a9 V9)) ∧ N = N9 ∧ JW D b N [(1, 1, 3, 3)] V V9))) 0 [some (.ref (b + p)), some (.int 3)] [] N V 0 0
  refine aw_iload_n dX5_open_0 rfl ?_
  refine aw_bipush (v := 6) dX5_open_1 (by decide) ?_
  refine aw_icmp_lt (tgt := 22) dX5_open_3 (by decide) (fun c_1 => ?_) (fun c_1 => ?_)
  rotate_left
  · exact absurd (by decide) c_1
  refine aw_aload_n dX5_open_22 rfl ?_
  refine aw_get dX5_open_23 fl_X5_15 ((hJ0.2.1 _ hp.1 hp.2).trans hR) (by omega) rfl ?_
  refine aw_dup dX5_open_26 rfl ?_
  refine aw_get dX5_open_27 fl_X5_25 te_0 (by omega) rfl ?_
  refine aw_iconst (v := 1) dX5_open_30 (by decide) ?_
  refine aw_iadd dX5_open_31 ?_
  refine aw_eqi (y := nI (a + 1)) (nI_add _ _) ?_
  refine aw_put dX5_open_32 fp_X5_25 te_0 (by omega) rfl rfl (Nat.le_of_ble_eq_true rfl) rfl ?_
  refine aw_up hJ0 ct_1 ⟨_, _, _, (a + 1), rfl, (by first | omega | (split <;> omega))⟩ (WO (s := 3) (x := .int (nI (a + 1))) te_0 rfl LM0 (by decide) (by decide) (by decide) (Or.inl (by decide))) (fun V_2 j_2 k_2 e_2 => ?_)
  refine aw_iconst (v := 1) dX5_open_35 (by decide) ?_
  refine aw_zreti dX5_open_36 rfl (by first | exact Or.inl rfl | exact Or.inr rfl | assumption) (Nat.le_of_ble_eq_true rfl) (Nat.le_of_ble_eq_true rfl) ?_
  exact ⟨⟨(by first | exact Or.inl rfl | exact Or.inr rfl | assumption), ⟨rfl, ⟨(a + 1), by omega, ⟨⟨_, _, _, e_2⟩, by omega⟩⟩⟩⟩, rfl, j_2⟩

set_option maxHeartbeats 4000000 in
set_option maxRecDepth 100000 in
theorem g_X5_readFactor_3 (l : Launch) (D : va_G) (b : Nat) (N : Nat) (V : Wd) (hN : 100 ≤ N) (hW : CW D b V) (p x : Nat) (hp : 100 ≤ p ∧ p < N) (hx : x = 57 ∨ x = 65) (hR : V p = cO 5 [.ref (b + 1), .ref (b + x)]) (a : Nat) (hT : TA b a V) : MI l D b 14 jX5_readFactor [.ref (b + p), .int 3] N V 0 0 (fun r N9 V9 => ((r = 0 ∨ r = 1) ∧ (∃ a9, a ≤ a9 ∧ TA b a9 V9)) ∧ N = N9 ∧ JW D b N [(1, 1, 3, 3), (x + 1, x + 1, 0, 1000000), (x + 2, x + 2, 0, 1000000), (x, x, 2, 2), (1, 1, 4, 4)] V V9) := by
  have hJ0 : JW D b N [(1, 1, 3, 3), (x + 1, x + 1, 0, 1000000), (x + 2, x + 2, 0, 1000000), (x, x, 2, 2), (1, 1, 4, 4)] V V := JW.rf hW
  obtain ⟨⟨ts_0, tn_0, tf_0, te_0⟩, ha_0⟩ := id hT
  refine mw_of (by decide) (by simp [Value.category]) (Nat.le_of_ble_eq_true rfl) ?_
  show AW l D b jX5_readFactor (fx_rm 14 0 0) none (fx_MQ D b 0 0 (fx_qi (fun r N9 V9 => ((r = 0 ∨ r = 1) ∧ (∃ a9, a ≤ a9 ∧ TA b a9 V9)) ∧ N = N9 ∧ JW D b N [(1, 1, 3, 3), (x + 1, x + 1, 0, 1000000), (x + 2, x + 2, 0, 1000000), (x, x, 2, 2), (1, 1, 4, 4)] V V9))) 0 [some (.ref (b + p)), some (.int 3), none, none] [] N V 0 0
  refine aw_aload_n dX5_readFactor_0 rfl ?_
  refine aw_get dX5_readFactor_1 fl_X5_15 ((hJ0.2.1 _ hp.1 hp.2).trans hR) (by omega) rfl ?_
  refine aw_callVi (J' := jX10_now) (As := []) (st := []) dX5_readFactor_4 tb_390 ok_X10_now ⟨_, te_0⟩ (by omega) rfl rfl (g_X10_now l D b N V hN hJ0.1 a (⟨⟨_, _, _, te_0⟩, by omega⟩)) rfl (Nat.le_of_ble_eq_true rfl) ⟨Nat.le_of_ble_eq_true rfl, Nat.le_of_ble_eq_true rfl, Nat.le_of_ble_eq_true rfl, Nat.le_of_ble_eq_true rfl⟩ (fun r_3 N_4 V_5 q_6 => ?_)
  obtain ⟨h_2, rfl, rfl⟩ := q_6
  refine aw_istore_n (ls' := [some (.ref (b + p)), some (.int 3), some (.int r_3), none]) dX5_readFactor_7 (Nat.le_of_ble_eq_true rfl) rfl ?_
  refine aw_iload_n dX5_readFactor_8 rfl ?_
  refine aw_bipush (v := 91) dX5_readFactor_9 (by decide) ?_
  refine aw_icmp_ne (tgt := 50) dX5_readFactor_11 (by decide) (fun c_7 => ?_) (fun c_7 => ?_)
  · skip
    refine aw_iload_n dX5_readFactor_50 rfl ?_
    refine aw_callSi (J' := jX10_isDigit) (As := [.int r_3]) (st := []) dX5_readFactor_51 tb_413 ok_X10_isDigit rfl (g_X10_isDigit l D b N V hN hJ0.1 r_3) rfl (Nat.le_of_ble_eq_true rfl) ⟨Nat.le_of_ble_eq_true rfl, Nat.le_of_ble_eq_true rfl, Nat.le_of_ble_eq_true rfl, Nat.le_of_ble_eq_true rfl⟩ (fun r_11 N_12 V_13 q_14 => ?_)
    obtain ⟨⟨z_10, h_9⟩, rfl, rfl⟩ := q_14
    refine aw_if_eq (tgt := 85) dX5_readFactor_54 (by decide) (fun c_15 => ?_) (fun c_15 => ?_)
    · skip
      refine aw_iload_n dX5_readFactor_85 rfl ?_
      refine aw_if_ge (tgt := 93) dX5_readFactor_86 (by decide) (fun c_16 => ?_) (fun c_16 => ?_)
      · skip
        have hlc_16 := h_2.resolve_left (fun z => absurd c_16 (by rw [z]; decide))
        refine aw_strIdx rfl dX5_readFactor_93 dX5_readFactor_95 dX5_readFactor_96 dX5_readFactor_97 rfl rfl (Nat.le_of_ble_eq_true rfl) ⟨Nat.le_of_ble_eq_true rfl, Nat.le_of_ble_eq_true rfl, Nat.le_of_ble_eq_true rfl, Nat.le_of_ble_eq_true rfl⟩ (fun ixr => ?_)
        refine aw_istore_n (ls' := [some (.ref (b + p)), some (.int 3), some (.int r_3), some (.int ixr)]) dX5_readFactor_100 (Nat.le_of_ble_eq_true rfl) rfl ?_
        refine aw_iload_n dX5_readFactor_101 rfl ?_
        refine aw_if_ge (tgt := 113) dX5_readFactor_102 (by decide) (fun c_17 => ?_) (fun c_17 => ?_)
        · skip
          refine aw_aload_n dX5_readFactor_113 rfl ?_
          refine aw_get dX5_readFactor_114 fl_X5_15 ((hJ0.2.1 _ hp.1 hp.2).trans hR) (by omega) rfl ?_
          refine aw_dup dX5_readFactor_117 rfl ?_
          refine aw_get dX5_readFactor_118 fl_X5_25 te_0 (by omega) rfl ?_
          refine aw_iconst (v := 1) dX5_readFactor_121 (by decide) ?_
          refine aw_iadd dX5_readFactor_122 ?_
          refine aw_eqi (y := nI (a + 1)) (nI_add _ _) ?_
          refine aw_put dX5_readFactor_123 fp_X5_25 te_0 (by omega) rfl rfl (Nat.le_of_ble_eq_true rfl) rfl ?_
          refine aw_up hJ0 ct_1 ⟨_, _, _, (a + 1), rfl, (by first | omega | (split <;> omega))⟩ (WO (s := 3) (x := .int (nI (a + 1))) te_0 rfl LM0 (by decide) (by decide) (by decide) (Or.inl (by decide))) (fun V_18 j_18 k_18 e_18 => ?_)
          refine aw_aload_n dX5_readFactor_126 rfl ?_
          refine aw_get dX5_readFactor_127 fl_X5_9 ((j_18.2.1 _ hp.1 hp.2).trans hR) (by omega) rfl ?_
          refine aw_bipush (v := 64) dX5_readFactor_130 (by decide) ?_
          refine aw_iload_n dX5_readFactor_132 rfl ?_
          obtain ⟨s8_22, r8_22, h8_22, e_22, hs_22, hr_22⟩ := JW.get j_18 (ctl_0 hx)
          refine aw_callVi (J' := jX4_add) (As := [.int 64, .int ixr]) (st := []) dX5_readFactor_133 tb_415 ok_X4_add ⟨_, e_22⟩ (by omega) rfl rfl (g_X4_add l D b N V_18 hN j_18.1 x hx 64 ixr c_17) rfl (Nat.le_of_ble_eq_true rfl) ⟨Nat.le_of_ble_eq_true rfl, Nat.le_of_ble_eq_true rfl, Nat.le_of_ble_eq_true rfl, Nat.le_of_ble_eq_true rfl⟩ (fun r_23 N_24 V_21 q_25 => ?_)
          obtain ⟨rfl, q_19⟩ := q_25
          have j_20 := JW.trans j_18 (JW.weak q_19 (Sub.cons (LMs LM0) (by omega) (by omega) (by decide) (Or.inl rfl) (Sub.cons (LMs (LMs LM0)) (by omega) (by omega) (by decide) (Or.inl rfl) (Sub.cons (LMs (LMs (LMs LM0))) (by omega) (by omega) (by decide) (Or.inr ⟨by decide, by decide⟩) Sub.nil))))
          refine aw_pop dX5_readFactor_136 rfl ?_
          refine aw_iconst (v := 1) dX5_readFactor_137 (by decide) ?_
          refine aw_zreti dX5_readFactor_138 rfl (by first | exact Or.inl rfl | exact Or.inr rfl | assumption) (Nat.le_of_ble_eq_true rfl) (Nat.le_of_ble_eq_true rfl) ?_
          exact ⟨⟨(by first | exact Or.inl rfl | exact Or.inr rfl | assumption), ⟨(a + 1), by omega, ⟨⟨_, _, _, ((JW.same q_19 (by decide) (fun k => (nfc (by omega) (nfc (by omega) (nfc (by omega) nf0))))).trans e_18)⟩, by omega⟩⟩⟩, rfl, j_20⟩
        · skip
          refine aw_aload_n dX5_readFactor_105 rfl ?_
          refine aw_get dX5_readFactor_106 fl_X5_15 ((hJ0.2.1 _ hp.1 hp.2).trans hR) (by omega) rfl ?_
          refine aw_callVi (J' := jX10_cannotStand) (As := []) (st := []) dX5_readFactor_109 tb_493 ok_X10_cannotStand ⟨_, te_0⟩ (by omega) rfl rfl (g_X10_cannotStand l D b N V hN hJ0.1 a (⟨⟨_, _, _, te_0⟩, by omega⟩)) rfl (Nat.le_of_ble_eq_true rfl) ⟨Nat.le_of_ble_eq_true rfl, Nat.le_of_ble_eq_true rfl, Nat.le_of_ble_eq_true rfl, Nat.le_of_ble_eq_true rfl⟩ (fun r_35 N_36 V_30 q_37 => ?_)
          obtain ⟨⟨z_28, h_27⟩, rfl, q_26⟩ := q_37
          have j_29 := JW.trans hJ0 (JW.weak q_26 (Sub.cons (LMs (LMs (LMs (LMs LM0)))) (by decide) (by decide) (by decide) (Or.inr ⟨by decide, by decide⟩) Sub.nil))
          obtain ⟨h_34, a_31, ha_32, ⟨ts_t_33, tn_t_33, tf_t_33, te_t_33⟩, hb_t_33⟩ := h_27
          obtain rfl := h_34
          refine aw_zreti dX5_readFactor_112 rfl (by first | exact Or.inl rfl | exact Or.inr rfl | assumption) (Nat.le_of_ble_eq_true rfl) (Nat.le_of_ble_eq_true rfl) ?_
          exact ⟨⟨(by first | exact Or.inl rfl | exact Or.inr rfl | assumption), ⟨a_31, by omega, ⟨⟨_, _, _, te_t_33⟩, by omega⟩⟩⟩, rfl, j_29⟩
      · skip
        refine aw_iconst (v := (-1)) dX5_readFactor_89 (by decide) ?_
        refine aw_goto (tgt := 100) dX5_readFactor_90 (by decide) ?_
        refine aw_istore_n (ls' := [some (.ref (b + p)), some (.int 3), some (.int r_3), some (.int (-1))]) dX5_readFactor_100 (Nat.le_of_ble_eq_true rfl) rfl ?_
        refine aw_iload_n dX5_readFactor_101 rfl ?_
        refine aw_if_ge (tgt := 113) dX5_readFactor_102 (by decide) (fun c_38 => ?_) (fun c_38 => ?_)
        · exact absurd c_38 (by decide)
        refine aw_aload_n dX5_readFactor_105 rfl ?_
        refine aw_get dX5_readFactor_106 fl_X5_15 ((hJ0.2.1 _ hp.1 hp.2).trans hR) (by omega) rfl ?_
        refine aw_callVi (J' := jX10_cannotStand) (As := []) (st := []) dX5_readFactor_109 tb_493 ok_X10_cannotStand ⟨_, te_0⟩ (by omega) rfl rfl (g_X10_cannotStand l D b N V hN hJ0.1 a (⟨⟨_, _, _, te_0⟩, by omega⟩)) rfl (Nat.le_of_ble_eq_true rfl) ⟨Nat.le_of_ble_eq_true rfl, Nat.le_of_ble_eq_true rfl, Nat.le_of_ble_eq_true rfl, Nat.le_of_ble_eq_true rfl⟩ (fun r_48 N_49 V_43 q_50 => ?_)
        obtain ⟨⟨z_41, h_40⟩, rfl, q_39⟩ := q_50
        have j_42 := JW.trans hJ0 (JW.weak q_39 (Sub.cons (LMs (LMs (LMs (LMs LM0)))) (by decide) (by decide) (by decide) (Or.inr ⟨by decide, by decide⟩) Sub.nil))
        obtain ⟨h_47, a_44, ha_45, ⟨ts_t_46, tn_t_46, tf_t_46, te_t_46⟩, hb_t_46⟩ := h_40
        obtain rfl := h_47
        refine aw_zreti dX5_readFactor_112 rfl (by first | exact Or.inl rfl | exact Or.inr rfl | assumption) (Nat.le_of_ble_eq_true rfl) (Nat.le_of_ble_eq_true rfl) ?_
        exact ⟨⟨(by first | exact Or.inl rfl | exact Or.inr rfl | assumption), ⟨a_44, by omega, ⟨⟨_, _, _, te_t_46⟩, by omega⟩⟩⟩, rfl, j_42⟩
    · skip
      have h0c_15 := h_9.resolve_left c_15
      have hlc_15 := h_2.resolve_left (fun z => absurd h0c_15 (by rw [z]; decide))
      refine aw_aload_n dX5_readFactor_57 rfl ?_
      refine aw_get dX5_readFactor_58 fl_X5_15 ((hJ0.2.1 _ hp.1 hp.2).trans hR) (by omega) rfl ?_
      refine aw_iconst (v := 5) dX5_readFactor_61 (by decide) ?_
      refine aw_callVi (J' := jX10_readNumber) (As := [.int 5]) (st := []) dX5_readFactor_62 tb_414 ok_X10_readNumber ⟨_, te_0⟩ (by omega) rfl rfl (g_X10_readNumber l D b N V hN hJ0.1 5 a (⟨⟨_, _, _, te_0⟩, by omega⟩)) rfl (Nat.le_of_ble_eq_true rfl) ⟨Nat.le_of_ble_eq_true rfl, Nat.le_of_ble_eq_true rfl, Nat.le_of_ble_eq_true rfl, Nat.le_of_ble_eq_true rfl⟩ (fun r_58 N_59 V_54 q_60 => ?_)
      obtain ⟨h_52, rfl, q_51⟩ := q_60
      have j_53 := JW.trans hJ0 (JW.weak q_51 (Sub.cons LM0 (by decide) (by decide) (by decide) (Or.inr ⟨by decide, by decide⟩) (Sub.cons (LMs (LMs (LMs (LMs LM0)))) (by decide) (by decide) (by decide) (Or.inr ⟨by decide, by decide⟩) Sub.nil)))
      obtain ⟨a_55, ha_56, ⟨ts_t_57, tn_t_57, tf_t_57, te_t_57⟩, hb_t_57⟩ := h_52
      refine aw_istore_n (ls' := [some (.ref (b + p)), some (.int 3), some (.int r_3), some (.int r_58)]) dX5_readFactor_65 (Nat.le_of_ble_eq_true rfl) rfl ?_
      refine aw_iload_n dX5_readFactor_66 rfl ?_
      refine aw_if_ge (tgt := 72) dX5_readFactor_67 (by decide) (fun c_61 => ?_) (fun c_61 => ?_)
      · skip
        refine aw_aload_n dX5_readFactor_72 rfl ?_
        refine aw_get dX5_readFactor_73 fl_X5_9 ((j_53.2.1 _ hp.1 hp.2).trans hR) (by omega) rfl ?_
        refine aw_bipush (v := 35) dX5_readFactor_76 (by decide) ?_
        refine aw_iload_n dX5_readFactor_78 rfl ?_
        obtain ⟨s8_65, r8_65, h8_65, e_65, hs_65, hr_65⟩ := JW.get j_53 (ctl_0 hx)
        refine aw_callVi (J' := jX4_add) (As := [.int 35, .int r_58]) (st := []) dX5_readFactor_79 tb_415 ok_X4_add ⟨_, e_65⟩ (by omega) rfl rfl (g_X4_add l D b N V_54 hN j_53.1 x hx 35 r_58 c_61) rfl (Nat.le_of_ble_eq_true rfl) ⟨Nat.le_of_ble_eq_true rfl, Nat.le_of_ble_eq_true rfl, Nat.le_of_ble_eq_true rfl, Nat.le_of_ble_eq_true rfl⟩ (fun r_66 N_67 V_64 q_68 => ?_)
        obtain ⟨rfl, q_62⟩ := q_68
        have j_63 := JW.trans j_53 (JW.weak q_62 (Sub.cons (LMs LM0) (by omega) (by omega) (by decide) (Or.inl rfl) (Sub.cons (LMs (LMs LM0)) (by omega) (by omega) (by decide) (Or.inl rfl) (Sub.cons (LMs (LMs (LMs LM0))) (by omega) (by omega) (by decide) (Or.inr ⟨by decide, by decide⟩) Sub.nil))))
        refine aw_pop dX5_readFactor_82 rfl ?_
        refine aw_iconst (v := 1) dX5_readFactor_83 (by decide) ?_
        refine aw_zreti dX5_readFactor_84 rfl (by first | exact Or.inl rfl | exact Or.inr rfl | assumption) (Nat.le_of_ble_eq_true rfl) (Nat.le_of_ble_eq_true rfl) ?_
        exact ⟨⟨(by first | exact Or.inl rfl | exact Or.inr rfl | assumption), ⟨a_55, by omega, ⟨⟨_, _, _, ((JW.same q_62 (by decide) (fun k => (nfc (by omega) (nfc (by omega) (nfc (by omega) nf0))))).trans te_t_57)⟩, by omega⟩⟩⟩, rfl, j_63⟩
      · skip
        refine aw_iconst (v := 0) dX5_readFactor_70 (by decide) ?_
        refine aw_zreti dX5_readFactor_71 rfl (by first | exact Or.inl rfl | exact Or.inr rfl | assumption) (Nat.le_of_ble_eq_true rfl) (Nat.le_of_ble_eq_true rfl) ?_
        exact ⟨⟨(by first | exact Or.inl rfl | exact Or.inr rfl | assumption), ⟨a_55, by omega, ⟨⟨_, _, _, te_t_57⟩, by omega⟩⟩⟩, rfl, j_53⟩
  · skip
    have hlc_7 := h_2.resolve_left (by rw [c_7]; decide)
    refine aw_aload_n dX5_readFactor_14 rfl ?_
    refine aw_iload_n dX5_readFactor_15 rfl ?_
    refine aw_callVi (J' := jX5_open) (As := [.int 3]) (st := []) dX5_readFactor_16 tb_407 ok_X5_open ⟨_, ((hJ0.2.1 _ hp.1 hp.2).trans hR)⟩ (by omega) rfl rfl (g_X5_open_3 l D b N V hN hJ0.1 p x ⟨by omega, by omega⟩ hx ((hJ0.2.1 _ hp.1 hp.2).trans hR) a (⟨⟨_, _, _, te_0⟩, by omega⟩) (by omega)) rfl (Nat.le_of_ble_eq_true rfl) ⟨Nat.le_of_ble_eq_true rfl, Nat.le_of_ble_eq_true rfl, Nat.le_of_ble_eq_true rfl, Nat.le_of_ble_eq_true rfl⟩ (fun r_78 N_79 V_73 q_80 => ?_)
    obtain ⟨⟨z_71, h_70⟩, rfl, q_69⟩ := q_80
    have j_72 := JW.trans hJ0 (JW.weak q_69 (Sub.cons LM0 (by decide) (by decide) (by decide) (Or.inr ⟨by decide, by decide⟩) Sub.nil))
    obtain ⟨h_77, a_74, ha_75, ⟨ts_t_76, tn_t_76, tf_t_76, te_t_76⟩, hb_t_76⟩ := h_70
    obtain rfl := h_77
    refine aw_if_eq (tgt := 48) dX5_readFactor_19 (by decide) (fun c_81 => ?_) (fun c_81 => ?_)
    · exact absurd c_81 (by decide)
    refine aw_aload_n dX5_readFactor_22 rfl ?_
    refine aw_iload_n dX5_readFactor_23 rfl ?_
    refine aw_iconst (v := 1) dX5_readFactor_24 (by decide) ?_
    refine aw_iadd dX5_readFactor_25 ?_
    refine aw_eqi (y := 4) (by decide) ?_
    refine aw_callVi (J' := jX5_readSum) (As := [.int 4]) (st := []) dX5_readFactor_26 tb_395 ok_X5_readSum ⟨_, ((j_72.2.1 _ hp.1 hp.2).trans hR)⟩ (by omega) rfl rfl (g_X5_readSum_4 l D b N V_73 hN j_72.1 p x ⟨by omega, by omega⟩ hx ((j_72.2.1 _ hp.1 hp.2).trans hR) a_74 (⟨⟨_, _, _, te_t_76⟩, by omega⟩)) rfl (Nat.le_of_ble_eq_true rfl) ⟨Nat.le_of_ble_eq_true rfl, Nat.le_of_ble_eq_true rfl, Nat.le_of_ble_eq_true rfl, Nat.le_of_ble_eq_true rfl⟩ (fun r_90 N_91 V_86 q_92 => ?_)
    obtain ⟨⟨z_84, h_83⟩, rfl, q_82⟩ := q_92
    have j_85 := JW.trans j_72 (JW.weak q_82 (Sub.cons LM0 (by decide) (by decide) (by decide) (Or.inr ⟨by decide, by decide⟩) (Sub.cons (LMs LM0) (by omega) (by omega) (by decide) (Or.inl rfl) (Sub.cons (LMs (LMs LM0)) (by omega) (by omega) (by decide) (Or.inl rfl) (Sub.cons (LMs (LMs (LMs LM0))) (by omega) (by omega) (by decide) (Or.inr ⟨by decide, by decide⟩) (Sub.cons (LMs (LMs (LMs (LMs LM0)))) (by decide) (by decide) (by decide) (Or.inr ⟨by decide, by decide⟩) Sub.nil))))))
    obtain ⟨a_87, ha_88, ⟨ts_t_89, tn_t_89, tf_t_89, te_t_89⟩, hb_t_89⟩ := h_83
    refine aw_if_eq (tgt := 48) dX5_readFactor_29 (by decide) (fun c_93 => ?_) (fun c_93 => ?_)
    · skip
      refine aw_iconst (v := 0) dX5_readFactor_48 (by decide) ?_
      refine aw_zreti dX5_readFactor_49 rfl (by first | exact Or.inl rfl | exact Or.inr rfl | assumption) (Nat.le_of_ble_eq_true rfl) (Nat.le_of_ble_eq_true rfl) ?_
      exact ⟨⟨(by first | exact Or.inl rfl | exact Or.inr rfl | assumption), ⟨a_87, by omega, ⟨⟨_, _, _, te_t_89⟩, by omega⟩⟩⟩, rfl, j_85⟩
    · skip
      refine aw_aload_n dX5_readFactor_32 rfl ?_
      refine aw_get dX5_readFactor_33 fl_X5_15 ((j_85.2.1 _ hp.1 hp.2).trans hR) (by omega) rfl ?_
      refine aw_bipush (v := 93) dX5_readFactor_36 (by decide) ?_
      refine aw_callVi (J' := jX10_expect) (As := [.int 93]) (st := []) dX5_readFactor_38 tb_412 ok_X10_expect ⟨_, te_t_89⟩ (by omega) rfl rfl (g_X10_expect l D b N V_86 hN j_85.1 93 a_87 (⟨⟨_, _, _, te_t_89⟩, by omega⟩) (by decide)) rfl (Nat.le_of_ble_eq_true rfl) ⟨Nat.le_of_ble_eq_true rfl, Nat.le_of_ble_eq_true rfl, Nat.le_of_ble_eq_true rfl, Nat.le_of_ble_eq_true rfl⟩ (fun r_102 N_103 V_98 q_104 => ?_)
      obtain ⟨⟨z_96, h_95⟩, rfl, q_94⟩ := q_104
      have j_97 := JW.trans j_85 (JW.weak q_94 (Sub.cons LM0 (by decide) (by decide) (by decide) (Or.inr ⟨by decide, by decide⟩) (Sub.cons (LMs (LMs (LMs (LMs LM0)))) (by decide) (by decide) (by decide) (Or.inr ⟨by decide, by decide⟩) Sub.nil)))
      obtain ⟨a_99, ha_100, ⟨ts_t_101, tn_t_101, tf_t_101, te_t_101⟩, hb_t_101⟩ := h_95
      refine aw_if_eq (tgt := 48) dX5_readFactor_41 (by decide) (fun c_105 => ?_) (fun c_105 => ?_)
      · skip
        refine aw_iconst (v := 0) dX5_readFactor_48 (by decide) ?_
        refine aw_zreti dX5_readFactor_49 rfl (by first | exact Or.inl rfl | exact Or.inr rfl | assumption) (Nat.le_of_ble_eq_true rfl) (Nat.le_of_ble_eq_true rfl) ?_
        exact ⟨⟨(by first | exact Or.inl rfl | exact Or.inr rfl | assumption), ⟨a_99, by omega, ⟨⟨_, _, _, te_t_101⟩, by omega⟩⟩⟩, rfl, j_97⟩
      · skip
        refine aw_iconst (v := 1) dX5_readFactor_44 (by decide) ?_
        refine aw_goto (tgt := 49) dX5_readFactor_45 (by decide) ?_
        refine aw_zreti dX5_readFactor_49 rfl (by first | exact Or.inl rfl | exact Or.inr rfl | assumption) (Nat.le_of_ble_eq_true rfl) (Nat.le_of_ble_eq_true rfl) ?_
        exact ⟨⟨(by first | exact Or.inl rfl | exact Or.inr rfl | assumption), ⟨a_99, by omega, ⟨⟨_, _, _, te_t_101⟩, by omega⟩⟩⟩, rfl, j_97⟩

set_option maxHeartbeats 4000000 in
set_option maxRecDepth 100000 in
theorem g_X5_readProduct_3 (l : Launch) (D : va_G) (b : Nat) (N : Nat) (V : Wd) (hN : 100 ≤ N) (hW : CW D b V) (p x : Nat) (hp : 100 ≤ p ∧ p < N) (hx : x = 57 ∨ x = 65) (hR : V p = cO 5 [.ref (b + 1), .ref (b + x)]) (a : Nat) (hT : TA b a V) : MI l D b 15 jX5_readProduct [.ref (b + p), .int 3] N V 0 0 (fun r N9 V9 => ((r = 0 ∨ r = 1) ∧ (∃ a9, a ≤ a9 ∧ TA b a9 V9)) ∧ N = N9 ∧ JW D b N [(1, 1, 3, 3), (x + 1, x + 1, 0, 1000000), (x + 2, x + 2, 0, 1000000), (x, x, 2, 2), (1, 1, 4, 4)] V V9) := by
  have hJ0 : JW D b N [(1, 1, 3, 3), (x + 1, x + 1, 0, 1000000), (x + 2, x + 2, 0, 1000000), (x, x, 2, 2), (1, 1, 4, 4)] V V := JW.rf hW
  obtain ⟨⟨ts_0, tn_0, tf_0, te_0⟩, ha_0⟩ := id hT
  refine mw_of (by decide) (by simp [Value.category]) (Nat.le_of_ble_eq_true rfl) ?_
  show AW l D b jX5_readProduct (fx_rm 15 0 0) none (fx_MQ D b 0 0 (fx_qi (fun r N9 V9 => ((r = 0 ∨ r = 1) ∧ (∃ a9, a ≤ a9 ∧ TA b a9 V9)) ∧ N = N9 ∧ JW D b N [(1, 1, 3, 3), (x + 1, x + 1, 0, 1000000), (x + 2, x + 2, 0, 1000000), (x, x, 2, 2), (1, 1, 4, 4)] V V9))) 0 [some (.ref (b + p)), some (.int 3), none] [] N V 0 0
  refine aw_aload_n dX5_readProduct_0 rfl ?_
  refine aw_iload_n dX5_readProduct_1 rfl ?_
  refine aw_callVi (J' := jX5_readFactor) (As := [.int 3]) (st := []) dX5_readProduct_2 tb_403 ok_X5_readFactor ⟨_, ((hJ0.2.1 _ hp.1 hp.2).trans hR)⟩ (by omega) rfl rfl (g_X5_readFactor_3 l D b N V hN hJ0.1 p x ⟨by omega, by omega⟩ hx ((hJ0.2.1 _ hp.1 hp.2).trans hR) a (⟨⟨_, _, _, te_0⟩, by omega⟩)) rfl (Nat.le_of_ble_eq_true rfl) ⟨Nat.le_of_ble_eq_true rfl, Nat.le_of_ble_eq_true rfl, Nat.le_of_ble_eq_true rfl, Nat.le_of_ble_eq_true rfl⟩ (fun r_9 N_10 V_5 q_11 => ?_)
  obtain ⟨⟨z_3, h_2⟩, rfl, q_1⟩ := q_11
  have j_4 := JW.trans hJ0 (JW.weak q_1 (Sub.cons LM0 (by decide) (by decide) (by decide) (Or.inr ⟨by decide, by decide⟩) (Sub.cons (LMs LM0) (by omega) (by omega) (by decide) (Or.inl rfl) (Sub.cons (LMs (LMs LM0)) (by omega) (by omega) (by decide) (Or.inl rfl) (Sub.cons (LMs (LMs (LMs LM0))) (by omega) (by omega) (by decide) (Or.inr ⟨by decide, by decide⟩) (Sub.cons (LMs (LMs (LMs (LMs LM0)))) (by decide) (by decide) (by decide) (Or.inr ⟨by decide, by decide⟩) Sub.nil))))))
  obtain ⟨a_6, ha_7, ⟨ts_t_8, tn_t_8, tf_t_8, te_t_8⟩, hb_t_8⟩ := h_2
  refine aw_if_ne (tgt := 10) dX5_readProduct_5 (by decide) (fun c_12 => ?_) (fun c_12 => ?_)
  · skip
    have ml_10_13 : ∀ (m : Nat) (a10 : Nat) (V10 : Wd), m = 260 - a10 → (JW D b N [(1, 1, 3, 3), (x + 1, x + 1, 0, 1000000), (x + 2, x + 2, 0, 1000000), (x, x, 2, 2), (1, 1, 4, 4)] V V10) → (TA b a10 V10) → (a ≤ a10) → AW l D b jX5_readProduct (fx_rm 15 0 0) none (fx_MQ D b 0 0 (fx_qi (fun r N9 V9 => ((r = 0 ∨ r = 1) ∧ (∃ a9, a ≤ a9 ∧ TA b a9 V9)) ∧ N = N9 ∧ JW D b N [(1, 1, 3, 3), (x + 1, x + 1, 0, 1000000), (x + 2, x + 2, 0, 1000000), (x, x, 2, 2), (1, 1, 4, 4)] V V9))) 10 [some (.ref (b + p)), some (.int 3), none] [] N V10 0 0 := by
      intro m; refine Nat.strongRecOn m ?_
      intro m mih_10_13 a10 V10 hm10 i10_0 i10_1 i10_2
      obtain ⟨⟨ts_10, tn_10, tf_10, te_10⟩, hb_10⟩ := i10_1
      refine aw_aload_n dX5_readProduct_10 rfl ?_
      refine aw_get dX5_readProduct_11 fl_X5_15 ((i10_0.2.1 _ hp.1 hp.2).trans hR) (by omega) rfl ?_
      refine aw_get dX5_readProduct_14 fl_X5_25 te_10 (by omega) rfl ?_
      refine aw_aload_n dX5_readProduct_17 rfl ?_
      refine aw_get dX5_readProduct_18 fl_X5_15 ((i10_0.2.1 _ hp.1 hp.2).trans hR) (by omega) rfl ?_
      refine aw_get dX5_readProduct_21 fl_X5_59 te_10 (by omega) rfl ?_
      refine aw_icmp_ge (tgt := 84) dX5_readProduct_24 (by decide) (fun c_14 => ?_) (fun c_14 => ?_)
      · skip
        refine aw_iconst (v := 1) dX5_readProduct_84 (by decide) ?_
        refine aw_zreti dX5_readProduct_85 rfl (by first | exact Or.inl rfl | exact Or.inr rfl | assumption) (Nat.le_of_ble_eq_true rfl) (Nat.le_of_ble_eq_true rfl) ?_
        exact ⟨⟨(by first | exact Or.inl rfl | exact Or.inr rfl | assumption), ⟨a10, by omega, ⟨⟨_, _, _, te_10⟩, by omega⟩⟩⟩, rfl, i10_0⟩
      · skip
        refine aw_aload_n dX5_readProduct_27 rfl ?_
        refine aw_get dX5_readProduct_28 fl_X5_15 ((i10_0.2.1 _ hp.1 hp.2).trans hR) (by omega) rfl ?_
        refine aw_callVi (J' := jX10_now) (As := []) (st := []) dX5_readProduct_31 tb_390 ok_X10_now ⟨_, te_10⟩ (by omega) rfl rfl (g_X10_now l D b N V10 hN i10_0.1 a10 (⟨⟨_, _, _, te_10⟩, by omega⟩)) rfl (Nat.le_of_ble_eq_true rfl) ⟨Nat.le_of_ble_eq_true rfl, Nat.le_of_ble_eq_true rfl, Nat.le_of_ble_eq_true rfl, Nat.le_of_ble_eq_true rfl⟩ (fun r_17 N_18 V_19 q_20 => ?_)
        obtain ⟨h_16, rfl, rfl⟩ := q_20
        refine aw_callSi (J' := jX5_joinsFactors) (As := [.int r_17]) (st := []) dX5_readProduct_34 tb_494 ok_X5_joinsFactors rfl (g_X5_joinsFactors l D b N V10 hN i10_0.1 r_17) rfl (Nat.le_of_ble_eq_true rfl) ⟨Nat.le_of_ble_eq_true rfl, Nat.le_of_ble_eq_true rfl, Nat.le_of_ble_eq_true rfl, Nat.le_of_ble_eq_true rfl⟩ (fun r_24 N_25 V_26 q_27 => ?_)
        obtain ⟨⟨z_23, h_22⟩, rfl, rfl⟩ := q_27
        refine aw_if_eq (tgt := 84) dX5_readProduct_37 (by decide) (fun c_28 => ?_) (fun c_28 => ?_)
        · skip
          refine aw_iconst (v := 1) dX5_readProduct_84 (by decide) ?_
          refine aw_zreti dX5_readProduct_85 rfl (by first | exact Or.inl rfl | exact Or.inr rfl | assumption) (Nat.le_of_ble_eq_true rfl) (Nat.le_of_ble_eq_true rfl) ?_
          exact ⟨⟨(by first | exact Or.inl rfl | exact Or.inr rfl | assumption), ⟨a10, by omega, ⟨⟨_, _, _, te_10⟩, by omega⟩⟩⟩, rfl, i10_0⟩
        · skip
          have h0c_28 := h_22.resolve_left c_28
          have hlc_28 := h_16.resolve_left (fun z => absurd h0c_28 (by rw [z]; decide))
          refine aw_aload_n dX5_readProduct_40 rfl ?_
          refine aw_get dX5_readProduct_41 fl_X5_15 ((i10_0.2.1 _ hp.1 hp.2).trans hR) (by omega) rfl ?_
          refine aw_callVi (J' := jX10_now) (As := []) (st := []) dX5_readProduct_44 tb_390 ok_X10_now ⟨_, te_10⟩ (by omega) rfl rfl (g_X10_now l D b N V10 hN i10_0.1 a10 (⟨⟨_, _, _, te_10⟩, by omega⟩)) rfl (Nat.le_of_ble_eq_true rfl) ⟨Nat.le_of_ble_eq_true rfl, Nat.le_of_ble_eq_true rfl, Nat.le_of_ble_eq_true rfl, Nat.le_of_ble_eq_true rfl⟩ (fun r_31 N_32 V_33 q_34 => ?_)
          obtain ⟨h_30, rfl, rfl⟩ := q_34
          refine aw_istore_n (ls' := [some (.ref (b + p)), some (.int 3), some (.int r_31)]) dX5_readProduct_47 (Nat.le_of_ble_eq_true rfl) rfl ?_
          refine aw_aload_n dX5_readProduct_48 rfl ?_
          refine aw_get dX5_readProduct_49 fl_X5_15 ((i10_0.2.1 _ hp.1 hp.2).trans hR) (by omega) rfl ?_
          refine aw_dup dX5_readProduct_52 rfl ?_
          refine aw_get dX5_readProduct_53 fl_X5_25 te_10 (by omega) rfl ?_
          refine aw_iconst (v := 1) dX5_readProduct_56 (by decide) ?_
          refine aw_iadd dX5_readProduct_57 ?_
          refine aw_eqi (y := nI (a10 + 1)) (nI_add _ _) ?_
          refine aw_put dX5_readProduct_58 fp_X5_25 te_10 (by omega) rfl rfl (Nat.le_of_ble_eq_true rfl) rfl ?_
          refine aw_up i10_0 ct_1 ⟨_, _, _, (a10 + 1), rfl, (by first | omega | (split <;> omega))⟩ (WO (s := 3) (x := .int (nI (a10 + 1))) te_10 rfl LM0 (by decide) (by decide) (by decide) (Or.inl (by decide))) (fun V_35 j_35 k_35 e_35 => ?_)
          refine aw_aload_n dX5_readProduct_61 rfl ?_
          refine aw_iload_n dX5_readProduct_62 rfl ?_
          refine aw_callVi (J' := jX5_readFactor) (As := [.int 3]) (st := []) dX5_readProduct_63 tb_403 ok_X5_readFactor ⟨_, ((j_35.2.1 _ hp.1 hp.2).trans hR)⟩ (by omega) rfl rfl (g_X5_readFactor_3 l D b N V_35 hN j_35.1 p x ⟨by omega, by omega⟩ hx ((j_35.2.1 _ hp.1 hp.2).trans hR) (a10 + 1) (⟨⟨_, _, _, e_35⟩, by omega⟩)) rfl (Nat.le_of_ble_eq_true rfl) ⟨Nat.le_of_ble_eq_true rfl, Nat.le_of_ble_eq_true rfl, Nat.le_of_ble_eq_true rfl, Nat.le_of_ble_eq_true rfl⟩ (fun r_44 N_45 V_40 q_46 => ?_)
          obtain ⟨⟨z_38, h_37⟩, rfl, q_36⟩ := q_46
          have j_39 := JW.trans j_35 (JW.weak q_36 (Sub.cons LM0 (by decide) (by decide) (by decide) (Or.inr ⟨by decide, by decide⟩) (Sub.cons (LMs LM0) (by omega) (by omega) (by decide) (Or.inl rfl) (Sub.cons (LMs (LMs LM0)) (by omega) (by omega) (by decide) (Or.inl rfl) (Sub.cons (LMs (LMs (LMs LM0))) (by omega) (by omega) (by decide) (Or.inr ⟨by decide, by decide⟩) (Sub.cons (LMs (LMs (LMs (LMs LM0)))) (by decide) (by decide) (by decide) (Or.inr ⟨by decide, by decide⟩) Sub.nil))))))
          obtain ⟨a_41, ha_42, ⟨ts_t_43, tn_t_43, tf_t_43, te_t_43⟩, hb_t_43⟩ := h_37
          refine aw_if_ne (tgt := 71) dX5_readProduct_66 (by decide) (fun c_47 => ?_) (fun c_47 => ?_)
          · skip
            refine aw_aload_n dX5_readProduct_71 rfl ?_
            refine aw_get dX5_readProduct_72 fl_X5_9 ((j_39.2.1 _ hp.1 hp.2).trans hR) (by omega) rfl ?_
            refine aw_iload_n dX5_readProduct_75 rfl ?_
            refine aw_iconst (v := 0) dX5_readProduct_76 (by decide) ?_
            obtain ⟨s8_51, r8_51, h8_51, e_51, hs_51, hr_51⟩ := JW.get j_39 (ctl_0 hx)
            refine aw_callVi (J' := jX4_add) (As := [.int r_31, .int 0]) (st := []) dX5_readProduct_77 tb_415 ok_X4_add ⟨_, e_51⟩ (by omega) rfl rfl (g_X4_add l D b N V_40 hN j_39.1 x hx r_31 0 (by decide)) rfl (Nat.le_of_ble_eq_true rfl) ⟨Nat.le_of_ble_eq_true rfl, Nat.le_of_ble_eq_true rfl, Nat.le_of_ble_eq_true rfl, Nat.le_of_ble_eq_true rfl⟩ (fun r_52 N_53 V_50 q_54 => ?_)
            obtain ⟨rfl, q_48⟩ := q_54
            have j_49 := JW.trans j_39 (JW.weak q_48 (Sub.cons (LMs LM0) (by omega) (by omega) (by decide) (Or.inl rfl) (Sub.cons (LMs (LMs LM0)) (by omega) (by omega) (by decide) (Or.inl rfl) (Sub.cons (LMs (LMs (LMs LM0))) (by omega) (by omega) (by decide) (Or.inr ⟨by decide, by decide⟩) Sub.nil))))
            refine aw_pop dX5_readProduct_80 rfl ?_
            refine aw_goto (tgt := 10) dX5_readProduct_81 (by decide) ?_
            refine aw_le ?_ (mih_10_13 _ (by omega) a_41 V_50 rfl (j_49) (⟨⟨_, _, _, ((JW.same q_48 (by decide) (fun k => (nfc (by omega) (nfc (by omega) (nfc (by omega) nf0))))).trans te_t_43)⟩, by omega⟩) (by omega))
            exact ⟨rfl, ⟨rfl, trivial⟩⟩
          · skip
            refine aw_iconst (v := 0) dX5_readProduct_69 (by decide) ?_
            refine aw_zreti dX5_readProduct_70 rfl (by first | exact Or.inl rfl | exact Or.inr rfl | assumption) (Nat.le_of_ble_eq_true rfl) (Nat.le_of_ble_eq_true rfl) ?_
            exact ⟨⟨(by first | exact Or.inl rfl | exact Or.inr rfl | assumption), ⟨a_41, by omega, ⟨⟨_, _, _, te_t_43⟩, by omega⟩⟩⟩, rfl, j_39⟩
    refine aw_le ?_ (ml_10_13 _ a_6 V_5 rfl (j_4) (⟨⟨_, _, _, te_t_8⟩, by omega⟩) (by omega))
    exact ⟨rfl, ⟨rfl, trivial⟩⟩
  · skip
    refine aw_iconst (v := 0) dX5_readProduct_8 (by decide) ?_
    refine aw_zreti dX5_readProduct_9 rfl (by first | exact Or.inl rfl | exact Or.inr rfl | assumption) (Nat.le_of_ble_eq_true rfl) (Nat.le_of_ble_eq_true rfl) ?_
    exact ⟨⟨(by first | exact Or.inl rfl | exact Or.inr rfl | assumption), ⟨a_6, by omega, ⟨⟨_, _, _, te_t_8⟩, by omega⟩⟩⟩, rfl, j_4⟩

set_option maxHeartbeats 4000000 in
set_option maxRecDepth 100000 in
theorem g_X5_readSum_3 (l : Launch) (D : va_G) (b : Nat) (N : Nat) (V : Wd) (hN : 100 ≤ N) (hW : CW D b V) (p x : Nat) (hp : 100 ≤ p ∧ p < N) (hx : x = 57 ∨ x = 65) (hR : V p = cO 5 [.ref (b + 1), .ref (b + x)]) (a : Nat) (hT : TA b a V) : MI l D b 16 jX5_readSum [.ref (b + p), .int 3] N V 0 0 (fun r N9 V9 => ((r = 0 ∨ r = 1) ∧ (∃ a9, a ≤ a9 ∧ TA b a9 V9)) ∧ N = N9 ∧ JW D b N [(1, 1, 3, 3), (x + 1, x + 1, 0, 1000000), (x + 2, x + 2, 0, 1000000), (x, x, 2, 2), (1, 1, 4, 4)] V V9) := by
  have hJ0 : JW D b N [(1, 1, 3, 3), (x + 1, x + 1, 0, 1000000), (x + 2, x + 2, 0, 1000000), (x, x, 2, 2), (1, 1, 4, 4)] V V := JW.rf hW
  obtain ⟨⟨ts_0, tn_0, tf_0, te_0⟩, ha_0⟩ := id hT
  refine mw_of (by decide) (by simp [Value.category]) (Nat.le_of_ble_eq_true rfl) ?_
  show AW l D b jX5_readSum (fx_rm 16 0 0) none (fx_MQ D b 0 0 (fx_qi (fun r N9 V9 => ((r = 0 ∨ r = 1) ∧ (∃ a9, a ≤ a9 ∧ TA b a9 V9)) ∧ N = N9 ∧ JW D b N [(1, 1, 3, 3), (x + 1, x + 1, 0, 1000000), (x + 2, x + 2, 0, 1000000), (x, x, 2, 2), (1, 1, 4, 4)] V V9))) 0 [some (.ref (b + p)), some (.int 3), none] [] N V 0 0
  refine aw_aload_n dX5_readSum_0 rfl ?_
  refine aw_iload_n dX5_readSum_1 rfl ?_
  refine aw_callVi (J' := jX5_readProduct) (As := [.int 3]) (st := []) dX5_readSum_2 tb_399 ok_X5_readProduct ⟨_, ((hJ0.2.1 _ hp.1 hp.2).trans hR)⟩ (by omega) rfl rfl (g_X5_readProduct_3 l D b N V hN hJ0.1 p x ⟨by omega, by omega⟩ hx ((hJ0.2.1 _ hp.1 hp.2).trans hR) a (⟨⟨_, _, _, te_0⟩, by omega⟩)) rfl (Nat.le_of_ble_eq_true rfl) ⟨Nat.le_of_ble_eq_true rfl, Nat.le_of_ble_eq_true rfl, Nat.le_of_ble_eq_true rfl, Nat.le_of_ble_eq_true rfl⟩ (fun r_9 N_10 V_5 q_11 => ?_)
  obtain ⟨⟨z_3, h_2⟩, rfl, q_1⟩ := q_11
  have j_4 := JW.trans hJ0 (JW.weak q_1 (Sub.cons LM0 (by decide) (by decide) (by decide) (Or.inr ⟨by decide, by decide⟩) (Sub.cons (LMs LM0) (by omega) (by omega) (by decide) (Or.inl rfl) (Sub.cons (LMs (LMs LM0)) (by omega) (by omega) (by decide) (Or.inl rfl) (Sub.cons (LMs (LMs (LMs LM0))) (by omega) (by omega) (by decide) (Or.inr ⟨by decide, by decide⟩) (Sub.cons (LMs (LMs (LMs (LMs LM0)))) (by decide) (by decide) (by decide) (Or.inr ⟨by decide, by decide⟩) Sub.nil))))))
  obtain ⟨a_6, ha_7, ⟨ts_t_8, tn_t_8, tf_t_8, te_t_8⟩, hb_t_8⟩ := h_2
  refine aw_if_ne (tgt := 10) dX5_readSum_5 (by decide) (fun c_12 => ?_) (fun c_12 => ?_)
  · skip
    have ml_10_13 : ∀ (m : Nat) (a10 : Nat) (V10 : Wd), m = 260 - a10 → (JW D b N [(1, 1, 3, 3), (x + 1, x + 1, 0, 1000000), (x + 2, x + 2, 0, 1000000), (x, x, 2, 2), (1, 1, 4, 4)] V V10) → (TA b a10 V10) → (a ≤ a10) → AW l D b jX5_readSum (fx_rm 16 0 0) none (fx_MQ D b 0 0 (fx_qi (fun r N9 V9 => ((r = 0 ∨ r = 1) ∧ (∃ a9, a ≤ a9 ∧ TA b a9 V9)) ∧ N = N9 ∧ JW D b N [(1, 1, 3, 3), (x + 1, x + 1, 0, 1000000), (x + 2, x + 2, 0, 1000000), (x, x, 2, 2), (1, 1, 4, 4)] V V9))) 10 [some (.ref (b + p)), some (.int 3), none] [] N V10 0 0 := by
      intro m; refine Nat.strongRecOn m ?_
      intro m mih_10_13 a10 V10 hm10 i10_0 i10_1 i10_2
      obtain ⟨⟨ts_10, tn_10, tf_10, te_10⟩, hb_10⟩ := i10_1
      refine aw_aload_n dX5_readSum_10 rfl ?_
      refine aw_get dX5_readSum_11 fl_X5_15 ((i10_0.2.1 _ hp.1 hp.2).trans hR) (by omega) rfl ?_
      refine aw_get dX5_readSum_14 fl_X5_25 te_10 (by omega) rfl ?_
      refine aw_aload_n dX5_readSum_17 rfl ?_
      refine aw_get dX5_readSum_18 fl_X5_15 ((i10_0.2.1 _ hp.1 hp.2).trans hR) (by omega) rfl ?_
      refine aw_get dX5_readSum_21 fl_X5_59 te_10 (by omega) rfl ?_
      refine aw_icmp_ge (tgt := 95) dX5_readSum_24 (by decide) (fun c_14 => ?_) (fun c_14 => ?_)
      · skip
        refine aw_iconst (v := 1) dX5_readSum_95 (by decide) ?_
        refine aw_zreti dX5_readSum_96 rfl (by first | exact Or.inl rfl | exact Or.inr rfl | assumption) (Nat.le_of_ble_eq_true rfl) (Nat.le_of_ble_eq_true rfl) ?_
        exact ⟨⟨(by first | exact Or.inl rfl | exact Or.inr rfl | assumption), ⟨a10, by omega, ⟨⟨_, _, _, te_10⟩, by omega⟩⟩⟩, rfl, i10_0⟩
      · skip
        refine aw_aload_n dX5_readSum_27 rfl ?_
        refine aw_get dX5_readSum_28 fl_X5_15 ((i10_0.2.1 _ hp.1 hp.2).trans hR) (by omega) rfl ?_
        refine aw_callVi (J' := jX10_now) (As := []) (st := []) dX5_readSum_31 tb_390 ok_X10_now ⟨_, te_10⟩ (by omega) rfl rfl (g_X10_now l D b N V10 hN i10_0.1 a10 (⟨⟨_, _, _, te_10⟩, by omega⟩)) rfl (Nat.le_of_ble_eq_true rfl) ⟨Nat.le_of_ble_eq_true rfl, Nat.le_of_ble_eq_true rfl, Nat.le_of_ble_eq_true rfl, Nat.le_of_ble_eq_true rfl⟩ (fun r_17 N_18 V_19 q_20 => ?_)
        obtain ⟨h_16, rfl, rfl⟩ := q_20
        refine aw_bipush (v := 43) dX5_readSum_34 (by decide) ?_
        refine aw_icmp_eq (tgt := 51) dX5_readSum_36 (by decide) (fun c_21 => ?_) (fun c_21 => ?_)
        · skip
          have hlc_21 := h_16.resolve_left (by rw [c_21]; decide)
          refine aw_aload_n dX5_readSum_51 rfl ?_
          refine aw_get dX5_readSum_52 fl_X5_15 ((i10_0.2.1 _ hp.1 hp.2).trans hR) (by omega) rfl ?_
          refine aw_callVi (J' := jX10_now) (As := []) (st := []) dX5_readSum_55 tb_390 ok_X10_now ⟨_, te_10⟩ (by omega) rfl rfl (g_X10_now l D b N V10 hN i10_0.1 a10 (⟨⟨_, _, _, te_10⟩, by omega⟩)) rfl (Nat.le_of_ble_eq_true rfl) ⟨Nat.le_of_ble_eq_true rfl, Nat.le_of_ble_eq_true rfl, Nat.le_of_ble_eq_true rfl, Nat.le_of_ble_eq_true rfl⟩ (fun r_24 N_25 V_26 q_27 => ?_)
          obtain ⟨h_23, rfl, rfl⟩ := q_27
          refine aw_istore_n (ls' := [some (.ref (b + p)), some (.int 3), some (.int r_24)]) dX5_readSum_58 (Nat.le_of_ble_eq_true rfl) rfl ?_
          refine aw_aload_n dX5_readSum_59 rfl ?_
          refine aw_get dX5_readSum_60 fl_X5_15 ((i10_0.2.1 _ hp.1 hp.2).trans hR) (by omega) rfl ?_
          refine aw_dup dX5_readSum_63 rfl ?_
          refine aw_get dX5_readSum_64 fl_X5_25 te_10 (by omega) rfl ?_
          refine aw_iconst (v := 1) dX5_readSum_67 (by decide) ?_
          refine aw_iadd dX5_readSum_68 ?_
          refine aw_eqi (y := nI (a10 + 1)) (nI_add _ _) ?_
          refine aw_put dX5_readSum_69 fp_X5_25 te_10 (by omega) rfl rfl (Nat.le_of_ble_eq_true rfl) rfl ?_
          refine aw_up i10_0 ct_1 ⟨_, _, _, (a10 + 1), rfl, (by first | omega | (split <;> omega))⟩ (WO (s := 3) (x := .int (nI (a10 + 1))) te_10 rfl LM0 (by decide) (by decide) (by decide) (Or.inl (by decide))) (fun V_28 j_28 k_28 e_28 => ?_)
          refine aw_aload_n dX5_readSum_72 rfl ?_
          refine aw_iload_n dX5_readSum_73 rfl ?_
          refine aw_callVi (J' := jX5_readProduct) (As := [.int 3]) (st := []) dX5_readSum_74 tb_399 ok_X5_readProduct ⟨_, ((j_28.2.1 _ hp.1 hp.2).trans hR)⟩ (by omega) rfl rfl (g_X5_readProduct_3 l D b N V_28 hN j_28.1 p x ⟨by omega, by omega⟩ hx ((j_28.2.1 _ hp.1 hp.2).trans hR) (a10 + 1) (⟨⟨_, _, _, e_28⟩, by omega⟩)) rfl (Nat.le_of_ble_eq_true rfl) ⟨Nat.le_of_ble_eq_true rfl, Nat.le_of_ble_eq_true rfl, Nat.le_of_ble_eq_true rfl, Nat.le_of_ble_eq_true rfl⟩ (fun r_37 N_38 V_33 q_39 => ?_)
          obtain ⟨⟨z_31, h_30⟩, rfl, q_29⟩ := q_39
          have j_32 := JW.trans j_28 (JW.weak q_29 (Sub.cons LM0 (by decide) (by decide) (by decide) (Or.inr ⟨by decide, by decide⟩) (Sub.cons (LMs LM0) (by omega) (by omega) (by decide) (Or.inl rfl) (Sub.cons (LMs (LMs LM0)) (by omega) (by omega) (by decide) (Or.inl rfl) (Sub.cons (LMs (LMs (LMs LM0))) (by omega) (by omega) (by decide) (Or.inr ⟨by decide, by decide⟩) (Sub.cons (LMs (LMs (LMs (LMs LM0)))) (by decide) (by decide) (by decide) (Or.inr ⟨by decide, by decide⟩) Sub.nil))))))
          obtain ⟨a_34, ha_35, ⟨ts_t_36, tn_t_36, tf_t_36, te_t_36⟩, hb_t_36⟩ := h_30
          refine aw_if_ne (tgt := 82) dX5_readSum_77 (by decide) (fun c_40 => ?_) (fun c_40 => ?_)
          · skip
            refine aw_aload_n dX5_readSum_82 rfl ?_
            refine aw_get dX5_readSum_83 fl_X5_9 ((j_32.2.1 _ hp.1 hp.2).trans hR) (by omega) rfl ?_
            refine aw_iload_n dX5_readSum_86 rfl ?_
            refine aw_iconst (v := 0) dX5_readSum_87 (by decide) ?_
            obtain ⟨s8_44, r8_44, h8_44, e_44, hs_44, hr_44⟩ := JW.get j_32 (ctl_0 hx)
            refine aw_callVi (J' := jX4_add) (As := [.int r_24, .int 0]) (st := []) dX5_readSum_88 tb_415 ok_X4_add ⟨_, e_44⟩ (by omega) rfl rfl (g_X4_add l D b N V_33 hN j_32.1 x hx r_24 0 (by decide)) rfl (Nat.le_of_ble_eq_true rfl) ⟨Nat.le_of_ble_eq_true rfl, Nat.le_of_ble_eq_true rfl, Nat.le_of_ble_eq_true rfl, Nat.le_of_ble_eq_true rfl⟩ (fun r_45 N_46 V_43 q_47 => ?_)
            obtain ⟨rfl, q_41⟩ := q_47
            have j_42 := JW.trans j_32 (JW.weak q_41 (Sub.cons (LMs LM0) (by omega) (by omega) (by decide) (Or.inl rfl) (Sub.cons (LMs (LMs LM0)) (by omega) (by omega) (by decide) (Or.inl rfl) (Sub.cons (LMs (LMs (LMs LM0))) (by omega) (by omega) (by decide) (Or.inr ⟨by decide, by decide⟩) Sub.nil))))
            refine aw_pop dX5_readSum_91 rfl ?_
            refine aw_goto (tgt := 10) dX5_readSum_92 (by decide) ?_
            refine aw_le ?_ (mih_10_13 _ (by omega) a_34 V_43 rfl (j_42) (⟨⟨_, _, _, ((JW.same q_41 (by decide) (fun k => (nfc (by omega) (nfc (by omega) (nfc (by omega) nf0))))).trans te_t_36)⟩, by omega⟩) (by omega))
            exact ⟨rfl, ⟨rfl, trivial⟩⟩
          · skip
            refine aw_iconst (v := 0) dX5_readSum_80 (by decide) ?_
            refine aw_zreti dX5_readSum_81 rfl (by first | exact Or.inl rfl | exact Or.inr rfl | assumption) (Nat.le_of_ble_eq_true rfl) (Nat.le_of_ble_eq_true rfl) ?_
            exact ⟨⟨(by first | exact Or.inl rfl | exact Or.inr rfl | assumption), ⟨a_34, by omega, ⟨⟨_, _, _, te_t_36⟩, by omega⟩⟩⟩, rfl, j_32⟩
        · skip
          refine aw_aload_n dX5_readSum_39 rfl ?_
          refine aw_get dX5_readSum_40 fl_X5_15 ((i10_0.2.1 _ hp.1 hp.2).trans hR) (by omega) rfl ?_
          refine aw_callVi (J' := jX10_now) (As := []) (st := []) dX5_readSum_43 tb_390 ok_X10_now ⟨_, te_10⟩ (by omega) rfl rfl (g_X10_now l D b N V10 hN i10_0.1 a10 (⟨⟨_, _, _, te_10⟩, by omega⟩)) rfl (Nat.le_of_ble_eq_true rfl) ⟨Nat.le_of_ble_eq_true rfl, Nat.le_of_ble_eq_true rfl, Nat.le_of_ble_eq_true rfl, Nat.le_of_ble_eq_true rfl⟩ (fun r_50 N_51 V_52 q_53 => ?_)
          obtain ⟨h_49, rfl, rfl⟩ := q_53
          refine aw_bipush (v := 45) dX5_readSum_46 (by decide) ?_
          refine aw_icmp_ne (tgt := 95) dX5_readSum_48 (by decide) (fun c_54 => ?_) (fun c_54 => ?_)
          · skip
            refine aw_iconst (v := 1) dX5_readSum_95 (by decide) ?_
            refine aw_zreti dX5_readSum_96 rfl (by first | exact Or.inl rfl | exact Or.inr rfl | assumption) (Nat.le_of_ble_eq_true rfl) (Nat.le_of_ble_eq_true rfl) ?_
            exact ⟨⟨(by first | exact Or.inl rfl | exact Or.inr rfl | assumption), ⟨a10, by omega, ⟨⟨_, _, _, te_10⟩, by omega⟩⟩⟩, rfl, i10_0⟩
          · skip
            have hlc_54 := h_49.resolve_left (by rw [c_54]; decide)
            refine aw_aload_n dX5_readSum_51 rfl ?_
            refine aw_get dX5_readSum_52 fl_X5_15 ((i10_0.2.1 _ hp.1 hp.2).trans hR) (by omega) rfl ?_
            refine aw_callVi (J' := jX10_now) (As := []) (st := []) dX5_readSum_55 tb_390 ok_X10_now ⟨_, te_10⟩ (by omega) rfl rfl (g_X10_now l D b N V10 hN i10_0.1 a10 (⟨⟨_, _, _, te_10⟩, by omega⟩)) rfl (Nat.le_of_ble_eq_true rfl) ⟨Nat.le_of_ble_eq_true rfl, Nat.le_of_ble_eq_true rfl, Nat.le_of_ble_eq_true rfl, Nat.le_of_ble_eq_true rfl⟩ (fun r_57 N_58 V_59 q_60 => ?_)
            obtain ⟨h_56, rfl, rfl⟩ := q_60
            refine aw_istore_n (ls' := [some (.ref (b + p)), some (.int 3), some (.int r_57)]) dX5_readSum_58 (Nat.le_of_ble_eq_true rfl) rfl ?_
            refine aw_aload_n dX5_readSum_59 rfl ?_
            refine aw_get dX5_readSum_60 fl_X5_15 ((i10_0.2.1 _ hp.1 hp.2).trans hR) (by omega) rfl ?_
            refine aw_dup dX5_readSum_63 rfl ?_
            refine aw_get dX5_readSum_64 fl_X5_25 te_10 (by omega) rfl ?_
            refine aw_iconst (v := 1) dX5_readSum_67 (by decide) ?_
            refine aw_iadd dX5_readSum_68 ?_
            refine aw_eqi (y := nI (a10 + 1)) (nI_add _ _) ?_
            refine aw_put dX5_readSum_69 fp_X5_25 te_10 (by omega) rfl rfl (Nat.le_of_ble_eq_true rfl) rfl ?_
            refine aw_up i10_0 ct_1 ⟨_, _, _, (a10 + 1), rfl, (by first | omega | (split <;> omega))⟩ (WO (s := 3) (x := .int (nI (a10 + 1))) te_10 rfl LM0 (by decide) (by decide) (by decide) (Or.inl (by decide))) (fun V_61 j_61 k_61 e_61 => ?_)
            refine aw_aload_n dX5_readSum_72 rfl ?_
            refine aw_iload_n dX5_readSum_73 rfl ?_
            refine aw_callVi (J' := jX5_readProduct) (As := [.int 3]) (st := []) dX5_readSum_74 tb_399 ok_X5_readProduct ⟨_, ((j_61.2.1 _ hp.1 hp.2).trans hR)⟩ (by omega) rfl rfl (g_X5_readProduct_3 l D b N V_61 hN j_61.1 p x ⟨by omega, by omega⟩ hx ((j_61.2.1 _ hp.1 hp.2).trans hR) (a10 + 1) (⟨⟨_, _, _, e_61⟩, by omega⟩)) rfl (Nat.le_of_ble_eq_true rfl) ⟨Nat.le_of_ble_eq_true rfl, Nat.le_of_ble_eq_true rfl, Nat.le_of_ble_eq_true rfl, Nat.le_of_ble_eq_true rfl⟩ (fun r_70 N_71 V_66 q_72 => ?_)
            obtain ⟨⟨z_64, h_63⟩, rfl, q_62⟩ := q_72
            have j_65 := JW.trans j_61 (JW.weak q_62 (Sub.cons LM0 (by decide) (by decide) (by decide) (Or.inr ⟨by decide, by decide⟩) (Sub.cons (LMs LM0) (by omega) (by omega) (by decide) (Or.inl rfl) (Sub.cons (LMs (LMs LM0)) (by omega) (by omega) (by decide) (Or.inl rfl) (Sub.cons (LMs (LMs (LMs LM0))) (by omega) (by omega) (by decide) (Or.inr ⟨by decide, by decide⟩) (Sub.cons (LMs (LMs (LMs (LMs LM0)))) (by decide) (by decide) (by decide) (Or.inr ⟨by decide, by decide⟩) Sub.nil))))))
            obtain ⟨a_67, ha_68, ⟨ts_t_69, tn_t_69, tf_t_69, te_t_69⟩, hb_t_69⟩ := h_63
            refine aw_if_ne (tgt := 82) dX5_readSum_77 (by decide) (fun c_73 => ?_) (fun c_73 => ?_)
            · skip
              refine aw_aload_n dX5_readSum_82 rfl ?_
              refine aw_get dX5_readSum_83 fl_X5_9 ((j_65.2.1 _ hp.1 hp.2).trans hR) (by omega) rfl ?_
              refine aw_iload_n dX5_readSum_86 rfl ?_
              refine aw_iconst (v := 0) dX5_readSum_87 (by decide) ?_
              obtain ⟨s8_77, r8_77, h8_77, e_77, hs_77, hr_77⟩ := JW.get j_65 (ctl_0 hx)
              refine aw_callVi (J' := jX4_add) (As := [.int r_57, .int 0]) (st := []) dX5_readSum_88 tb_415 ok_X4_add ⟨_, e_77⟩ (by omega) rfl rfl (g_X4_add l D b N V_66 hN j_65.1 x hx r_57 0 (by decide)) rfl (Nat.le_of_ble_eq_true rfl) ⟨Nat.le_of_ble_eq_true rfl, Nat.le_of_ble_eq_true rfl, Nat.le_of_ble_eq_true rfl, Nat.le_of_ble_eq_true rfl⟩ (fun r_78 N_79 V_76 q_80 => ?_)
              obtain ⟨rfl, q_74⟩ := q_80
              have j_75 := JW.trans j_65 (JW.weak q_74 (Sub.cons (LMs LM0) (by omega) (by omega) (by decide) (Or.inl rfl) (Sub.cons (LMs (LMs LM0)) (by omega) (by omega) (by decide) (Or.inl rfl) (Sub.cons (LMs (LMs (LMs LM0))) (by omega) (by omega) (by decide) (Or.inr ⟨by decide, by decide⟩) Sub.nil))))
              refine aw_pop dX5_readSum_91 rfl ?_
              refine aw_goto (tgt := 10) dX5_readSum_92 (by decide) ?_
              refine aw_le ?_ (mih_10_13 _ (by omega) a_67 V_76 rfl (j_75) (⟨⟨_, _, _, ((JW.same q_74 (by decide) (fun k => (nfc (by omega) (nfc (by omega) (nfc (by omega) nf0))))).trans te_t_69)⟩, by omega⟩) (by omega))
              exact ⟨rfl, ⟨rfl, trivial⟩⟩
            · skip
              refine aw_iconst (v := 0) dX5_readSum_80 (by decide) ?_
              refine aw_zreti dX5_readSum_81 rfl (by first | exact Or.inl rfl | exact Or.inr rfl | assumption) (Nat.le_of_ble_eq_true rfl) (Nat.le_of_ble_eq_true rfl) ?_
              exact ⟨⟨(by first | exact Or.inl rfl | exact Or.inr rfl | assumption), ⟨a_67, by omega, ⟨⟨_, _, _, te_t_69⟩, by omega⟩⟩⟩, rfl, j_65⟩
    refine aw_le ?_ (ml_10_13 _ a_6 V_5 rfl (j_4) (⟨⟨_, _, _, te_t_8⟩, by omega⟩) (by omega))
    exact ⟨rfl, ⟨rfl, trivial⟩⟩
  · skip
    refine aw_iconst (v := 0) dX5_readSum_8 (by decide) ?_
    refine aw_zreti dX5_readSum_9 rfl (by first | exact Or.inl rfl | exact Or.inr rfl | assumption) (Nat.le_of_ble_eq_true rfl) (Nat.le_of_ble_eq_true rfl) ?_
    exact ⟨⟨(by first | exact Or.inl rfl | exact Or.inr rfl | assumption), ⟨a_6, by omega, ⟨⟨_, _, _, te_t_8⟩, by omega⟩⟩⟩, rfl, j_4⟩

set_option maxHeartbeats 4000000 in
set_option maxRecDepth 100000 in
theorem g_X5_readComparison_3 (l : Launch) (D : va_G) (b : Nat) (N : Nat) (V : Wd) (hN : 100 ≤ N) (hW : CW D b V) (p x : Nat) (hp : 100 ≤ p ∧ p < N) (hx : x = 57 ∨ x = 65) (hR : V p = cO 5 [.ref (b + 1), .ref (b + x)]) (a : Nat) (hT : TA b a V) : MI l D b 17 jX5_readComparison [.ref (b + p), .int 3] N V 0 0 (fun r N9 V9 => ((r = 0 ∨ r = 1) ∧ (∃ a9, a ≤ a9 ∧ TA b a9 V9)) ∧ N = N9 ∧ JW D b N [(1, 1, 3, 3), (x + 1, x + 1, 0, 1000000), (x + 2, x + 2, 0, 1000000), (x, x, 2, 2), (1, 1, 4, 4)] V V9) := by
  have hJ0 : JW D b N [(1, 1, 3, 3), (x + 1, x + 1, 0, 1000000), (x + 2, x + 2, 0, 1000000), (x, x, 2, 2), (1, 1, 4, 4)] V V := JW.rf hW
  obtain ⟨⟨ts_0, tn_0, tf_0, te_0⟩, ha_0⟩ := id hT
  refine mw_of (by decide) (by simp [Value.category]) (Nat.le_of_ble_eq_true rfl) ?_
  show AW l D b jX5_readComparison (fx_rm 17 0 0) none (fx_MQ D b 0 0 (fx_qi (fun r N9 V9 => ((r = 0 ∨ r = 1) ∧ (∃ a9, a ≤ a9 ∧ TA b a9 V9)) ∧ N = N9 ∧ JW D b N [(1, 1, 3, 3), (x + 1, x + 1, 0, 1000000), (x + 2, x + 2, 0, 1000000), (x, x, 2, 2), (1, 1, 4, 4)] V V9))) 0 [some (.ref (b + p)), some (.int 3), none] [] N V 0 0
  refine aw_aload_n dX5_readComparison_0 rfl ?_
  refine aw_iload_n dX5_readComparison_1 rfl ?_
  refine aw_callVi (J' := jX5_readSum) (As := [.int 3]) (st := []) dX5_readComparison_2 tb_395 ok_X5_readSum ⟨_, ((hJ0.2.1 _ hp.1 hp.2).trans hR)⟩ (by omega) rfl rfl (g_X5_readSum_3 l D b N V hN hJ0.1 p x ⟨by omega, by omega⟩ hx ((hJ0.2.1 _ hp.1 hp.2).trans hR) a (⟨⟨_, _, _, te_0⟩, by omega⟩)) rfl (Nat.le_of_ble_eq_true rfl) ⟨Nat.le_of_ble_eq_true rfl, Nat.le_of_ble_eq_true rfl, Nat.le_of_ble_eq_true rfl, Nat.le_of_ble_eq_true rfl⟩ (fun r_9 N_10 V_5 q_11 => ?_)
  obtain ⟨⟨z_3, h_2⟩, rfl, q_1⟩ := q_11
  have j_4 := JW.trans hJ0 (JW.weak q_1 (Sub.cons LM0 (by decide) (by decide) (by decide) (Or.inr ⟨by decide, by decide⟩) (Sub.cons (LMs LM0) (by omega) (by omega) (by decide) (Or.inl rfl) (Sub.cons (LMs (LMs LM0)) (by omega) (by omega) (by decide) (Or.inl rfl) (Sub.cons (LMs (LMs (LMs LM0))) (by omega) (by omega) (by decide) (Or.inr ⟨by decide, by decide⟩) (Sub.cons (LMs (LMs (LMs (LMs LM0)))) (by decide) (by decide) (by decide) (Or.inr ⟨by decide, by decide⟩) Sub.nil))))))
  obtain ⟨a_6, ha_7, ⟨ts_t_8, tn_t_8, tf_t_8, te_t_8⟩, hb_t_8⟩ := h_2
  refine aw_if_ne (tgt := 10) dX5_readComparison_5 (by decide) (fun c_12 => ?_) (fun c_12 => ?_)
  · skip
    refine aw_aload_n dX5_readComparison_10 rfl ?_
    refine aw_get dX5_readComparison_11 fl_X5_15 ((j_4.2.1 _ hp.1 hp.2).trans hR) (by omega) rfl ?_
    refine aw_callVi (J' := jX10_now) (As := []) (st := []) dX5_readComparison_14 tb_390 ok_X10_now ⟨_, te_t_8⟩ (by omega) rfl rfl (g_X10_now l D b N V_5 hN j_4.1 a_6 (⟨⟨_, _, _, te_t_8⟩, by omega⟩)) rfl (Nat.le_of_ble_eq_true rfl) ⟨Nat.le_of_ble_eq_true rfl, Nat.le_of_ble_eq_true rfl, Nat.le_of_ble_eq_true rfl, Nat.le_of_ble_eq_true rfl⟩ (fun r_15 N_16 V_17 q_18 => ?_)
    obtain ⟨h_14, rfl, rfl⟩ := q_18
    refine aw_istore_n (ls' := [some (.ref (b + p)), some (.int 3), some (.int r_15)]) dX5_readComparison_17 (Nat.le_of_ble_eq_true rfl) rfl ?_
    refine aw_iload_n dX5_readComparison_18 rfl ?_
    refine aw_bipush (v := 60) dX5_readComparison_19 (by decide) ?_
    refine aw_icmp_eq (tgt := 44) dX5_readComparison_21 (by decide) (fun c_19 => ?_) (fun c_19 => ?_)
    · skip
      have hlc_19 := h_14.resolve_left (by rw [c_19]; decide)
      refine aw_aload_n dX5_readComparison_44 rfl ?_
      refine aw_get dX5_readComparison_45 fl_X5_15 ((j_4.2.1 _ hp.1 hp.2).trans hR) (by omega) rfl ?_
      refine aw_dup dX5_readComparison_48 rfl ?_
      refine aw_get dX5_readComparison_49 fl_X5_25 te_t_8 (by omega) rfl ?_
      refine aw_iconst (v := 1) dX5_readComparison_52 (by decide) ?_
      refine aw_iadd dX5_readComparison_53 ?_
      refine aw_eqi (y := nI (a_6 + 1)) (nI_add _ _) ?_
      refine aw_put dX5_readComparison_54 fp_X5_25 te_t_8 (by omega) rfl rfl (Nat.le_of_ble_eq_true rfl) rfl ?_
      refine aw_up j_4 ct_1 ⟨_, _, _, (a_6 + 1), rfl, (by first | omega | (split <;> omega))⟩ (WO (s := 3) (x := .int (nI (a_6 + 1))) te_t_8 rfl LM0 (by decide) (by decide) (by decide) (Or.inl (by decide))) (fun V_20 j_20 k_20 e_20 => ?_)
      refine aw_aload_n dX5_readComparison_57 rfl ?_
      refine aw_iload_n dX5_readComparison_58 rfl ?_
      refine aw_callVi (J' := jX5_readSum) (As := [.int 3]) (st := []) dX5_readComparison_59 tb_395 ok_X5_readSum ⟨_, ((j_20.2.1 _ hp.1 hp.2).trans hR)⟩ (by omega) rfl rfl (g_X5_readSum_3 l D b N V_20 hN j_20.1 p x ⟨by omega, by omega⟩ hx ((j_20.2.1 _ hp.1 hp.2).trans hR) (a_6 + 1) (⟨⟨_, _, _, e_20⟩, by omega⟩)) rfl (Nat.le_of_ble_eq_true rfl) ⟨Nat.le_of_ble_eq_true rfl, Nat.le_of_ble_eq_true rfl, Nat.le_of_ble_eq_true rfl, Nat.le_of_ble_eq_true rfl⟩ (fun r_29 N_30 V_25 q_31 => ?_)
      obtain ⟨⟨z_23, h_22⟩, rfl, q_21⟩ := q_31
      have j_24 := JW.trans j_20 (JW.weak q_21 (Sub.cons LM0 (by decide) (by decide) (by decide) (Or.inr ⟨by decide, by decide⟩) (Sub.cons (LMs LM0) (by omega) (by omega) (by decide) (Or.inl rfl) (Sub.cons (LMs (LMs LM0)) (by omega) (by omega) (by decide) (Or.inl rfl) (Sub.cons (LMs (LMs (LMs LM0))) (by omega) (by omega) (by decide) (Or.inr ⟨by decide, by decide⟩) (Sub.cons (LMs (LMs (LMs (LMs LM0)))) (by decide) (by decide) (by decide) (Or.inr ⟨by decide, by decide⟩) Sub.nil))))))
      obtain ⟨a_26, ha_27, ⟨ts_t_28, tn_t_28, tf_t_28, te_t_28⟩, hb_t_28⟩ := h_22
      refine aw_if_ne (tgt := 67) dX5_readComparison_62 (by decide) (fun c_32 => ?_) (fun c_32 => ?_)
      · skip
        refine aw_aload_n dX5_readComparison_67 rfl ?_
        refine aw_get dX5_readComparison_68 fl_X5_9 ((j_24.2.1 _ hp.1 hp.2).trans hR) (by omega) rfl ?_
        refine aw_iload_n dX5_readComparison_71 rfl ?_
        refine aw_iconst (v := 0) dX5_readComparison_72 (by decide) ?_
        obtain ⟨s8_36, r8_36, h8_36, e_36, hs_36, hr_36⟩ := JW.get j_24 (ctl_0 hx)
        refine aw_callVi (J' := jX4_add) (As := [.int r_15, .int 0]) (st := []) dX5_readComparison_73 tb_415 ok_X4_add ⟨_, e_36⟩ (by omega) rfl rfl (g_X4_add l D b N V_25 hN j_24.1 x hx r_15 0 (by decide)) rfl (Nat.le_of_ble_eq_true rfl) ⟨Nat.le_of_ble_eq_true rfl, Nat.le_of_ble_eq_true rfl, Nat.le_of_ble_eq_true rfl, Nat.le_of_ble_eq_true rfl⟩ (fun r_37 N_38 V_35 q_39 => ?_)
        obtain ⟨rfl, q_33⟩ := q_39
        have j_34 := JW.trans j_24 (JW.weak q_33 (Sub.cons (LMs LM0) (by omega) (by omega) (by decide) (Or.inl rfl) (Sub.cons (LMs (LMs LM0)) (by omega) (by omega) (by decide) (Or.inl rfl) (Sub.cons (LMs (LMs (LMs LM0))) (by omega) (by omega) (by decide) (Or.inr ⟨by decide, by decide⟩) Sub.nil))))
        refine aw_pop dX5_readComparison_76 rfl ?_
        refine aw_iconst (v := 1) dX5_readComparison_77 (by decide) ?_
        refine aw_zreti dX5_readComparison_78 rfl (by first | exact Or.inl rfl | exact Or.inr rfl | assumption) (Nat.le_of_ble_eq_true rfl) (Nat.le_of_ble_eq_true rfl) ?_
        exact ⟨⟨(by first | exact Or.inl rfl | exact Or.inr rfl | assumption), ⟨a_26, by omega, ⟨⟨_, _, _, ((JW.same q_33 (by decide) (fun k => (nfc (by omega) (nfc (by omega) (nfc (by omega) nf0))))).trans te_t_28)⟩, by omega⟩⟩⟩, rfl, j_34⟩
      · skip
        refine aw_iconst (v := 0) dX5_readComparison_65 (by decide) ?_
        refine aw_zreti dX5_readComparison_66 rfl (by first | exact Or.inl rfl | exact Or.inr rfl | assumption) (Nat.le_of_ble_eq_true rfl) (Nat.le_of_ble_eq_true rfl) ?_
        exact ⟨⟨(by first | exact Or.inl rfl | exact Or.inr rfl | assumption), ⟨a_26, by omega, ⟨⟨_, _, _, te_t_28⟩, by omega⟩⟩⟩, rfl, j_24⟩
    · skip
      refine aw_iload_n dX5_readComparison_24 rfl ?_
      refine aw_bipush (v := 62) dX5_readComparison_25 (by decide) ?_
      refine aw_icmp_eq (tgt := 44) dX5_readComparison_27 (by decide) (fun c_40 => ?_) (fun c_40 => ?_)
      · skip
        have hlc_40 := h_14.resolve_left (by rw [c_40]; decide)
        refine aw_aload_n dX5_readComparison_44 rfl ?_
        refine aw_get dX5_readComparison_45 fl_X5_15 ((j_4.2.1 _ hp.1 hp.2).trans hR) (by omega) rfl ?_
        refine aw_dup dX5_readComparison_48 rfl ?_
        refine aw_get dX5_readComparison_49 fl_X5_25 te_t_8 (by omega) rfl ?_
        refine aw_iconst (v := 1) dX5_readComparison_52 (by decide) ?_
        refine aw_iadd dX5_readComparison_53 ?_
        refine aw_eqi (y := nI (a_6 + 1)) (nI_add _ _) ?_
        refine aw_put dX5_readComparison_54 fp_X5_25 te_t_8 (by omega) rfl rfl (Nat.le_of_ble_eq_true rfl) rfl ?_
        refine aw_up j_4 ct_1 ⟨_, _, _, (a_6 + 1), rfl, (by first | omega | (split <;> omega))⟩ (WO (s := 3) (x := .int (nI (a_6 + 1))) te_t_8 rfl LM0 (by decide) (by decide) (by decide) (Or.inl (by decide))) (fun V_41 j_41 k_41 e_41 => ?_)
        refine aw_aload_n dX5_readComparison_57 rfl ?_
        refine aw_iload_n dX5_readComparison_58 rfl ?_
        refine aw_callVi (J' := jX5_readSum) (As := [.int 3]) (st := []) dX5_readComparison_59 tb_395 ok_X5_readSum ⟨_, ((j_41.2.1 _ hp.1 hp.2).trans hR)⟩ (by omega) rfl rfl (g_X5_readSum_3 l D b N V_41 hN j_41.1 p x ⟨by omega, by omega⟩ hx ((j_41.2.1 _ hp.1 hp.2).trans hR) (a_6 + 1) (⟨⟨_, _, _, e_41⟩, by omega⟩)) rfl (Nat.le_of_ble_eq_true rfl) ⟨Nat.le_of_ble_eq_true rfl, Nat.le_of_ble_eq_true rfl, Nat.le_of_ble_eq_true rfl, Nat.le_of_ble_eq_true rfl⟩ (fun r_50 N_51 V_46 q_52 => ?_)
        obtain ⟨⟨z_44, h_43⟩, rfl, q_42⟩ := q_52
        have j_45 := JW.trans j_41 (JW.weak q_42 (Sub.cons LM0 (by decide) (by decide) (by decide) (Or.inr ⟨by decide, by decide⟩) (Sub.cons (LMs LM0) (by omega) (by omega) (by decide) (Or.inl rfl) (Sub.cons (LMs (LMs LM0)) (by omega) (by omega) (by decide) (Or.inl rfl) (Sub.cons (LMs (LMs (LMs LM0))) (by omega) (by omega) (by decide) (Or.inr ⟨by decide, by decide⟩) (Sub.cons (LMs (LMs (LMs (LMs LM0)))) (by decide) (by decide) (by decide) (Or.inr ⟨by decide, by decide⟩) Sub.nil))))))
        obtain ⟨a_47, ha_48, ⟨ts_t_49, tn_t_49, tf_t_49, te_t_49⟩, hb_t_49⟩ := h_43
        refine aw_if_ne (tgt := 67) dX5_readComparison_62 (by decide) (fun c_53 => ?_) (fun c_53 => ?_)
        · skip
          refine aw_aload_n dX5_readComparison_67 rfl ?_
          refine aw_get dX5_readComparison_68 fl_X5_9 ((j_45.2.1 _ hp.1 hp.2).trans hR) (by omega) rfl ?_
          refine aw_iload_n dX5_readComparison_71 rfl ?_
          refine aw_iconst (v := 0) dX5_readComparison_72 (by decide) ?_
          obtain ⟨s8_57, r8_57, h8_57, e_57, hs_57, hr_57⟩ := JW.get j_45 (ctl_0 hx)
          refine aw_callVi (J' := jX4_add) (As := [.int r_15, .int 0]) (st := []) dX5_readComparison_73 tb_415 ok_X4_add ⟨_, e_57⟩ (by omega) rfl rfl (g_X4_add l D b N V_46 hN j_45.1 x hx r_15 0 (by decide)) rfl (Nat.le_of_ble_eq_true rfl) ⟨Nat.le_of_ble_eq_true rfl, Nat.le_of_ble_eq_true rfl, Nat.le_of_ble_eq_true rfl, Nat.le_of_ble_eq_true rfl⟩ (fun r_58 N_59 V_56 q_60 => ?_)
          obtain ⟨rfl, q_54⟩ := q_60
          have j_55 := JW.trans j_45 (JW.weak q_54 (Sub.cons (LMs LM0) (by omega) (by omega) (by decide) (Or.inl rfl) (Sub.cons (LMs (LMs LM0)) (by omega) (by omega) (by decide) (Or.inl rfl) (Sub.cons (LMs (LMs (LMs LM0))) (by omega) (by omega) (by decide) (Or.inr ⟨by decide, by decide⟩) Sub.nil))))
          refine aw_pop dX5_readComparison_76 rfl ?_
          refine aw_iconst (v := 1) dX5_readComparison_77 (by decide) ?_
          refine aw_zreti dX5_readComparison_78 rfl (by first | exact Or.inl rfl | exact Or.inr rfl | assumption) (Nat.le_of_ble_eq_true rfl) (Nat.le_of_ble_eq_true rfl) ?_
          exact ⟨⟨(by first | exact Or.inl rfl | exact Or.inr rfl | assumption), ⟨a_47, by omega, ⟨⟨_, _, _, ((JW.same q_54 (by decide) (fun k => (nfc (by omega) (nfc (by omega) (nfc (by omega) nf0))))).trans te_t_49)⟩, by omega⟩⟩⟩, rfl, j_55⟩
        · skip
          refine aw_iconst (v := 0) dX5_readComparison_65 (by decide) ?_
          refine aw_zreti dX5_readComparison_66 rfl (by first | exact Or.inl rfl | exact Or.inr rfl | assumption) (Nat.le_of_ble_eq_true rfl) (Nat.le_of_ble_eq_true rfl) ?_
          exact ⟨⟨(by first | exact Or.inl rfl | exact Or.inr rfl | assumption), ⟨a_47, by omega, ⟨⟨_, _, _, te_t_49⟩, by omega⟩⟩⟩, rfl, j_45⟩
      · skip
        refine aw_iload_n dX5_readComparison_30 rfl ?_
        refine aw_bipush (v := 61) dX5_readComparison_31 (by decide) ?_
        refine aw_icmp_eq (tgt := 44) dX5_readComparison_33 (by decide) (fun c_61 => ?_) (fun c_61 => ?_)
        · skip
          have hlc_61 := h_14.resolve_left (by rw [c_61]; decide)
          refine aw_aload_n dX5_readComparison_44 rfl ?_
          refine aw_get dX5_readComparison_45 fl_X5_15 ((j_4.2.1 _ hp.1 hp.2).trans hR) (by omega) rfl ?_
          refine aw_dup dX5_readComparison_48 rfl ?_
          refine aw_get dX5_readComparison_49 fl_X5_25 te_t_8 (by omega) rfl ?_
          refine aw_iconst (v := 1) dX5_readComparison_52 (by decide) ?_
          refine aw_iadd dX5_readComparison_53 ?_
          refine aw_eqi (y := nI (a_6 + 1)) (nI_add _ _) ?_
          refine aw_put dX5_readComparison_54 fp_X5_25 te_t_8 (by omega) rfl rfl (Nat.le_of_ble_eq_true rfl) rfl ?_
          refine aw_up j_4 ct_1 ⟨_, _, _, (a_6 + 1), rfl, (by first | omega | (split <;> omega))⟩ (WO (s := 3) (x := .int (nI (a_6 + 1))) te_t_8 rfl LM0 (by decide) (by decide) (by decide) (Or.inl (by decide))) (fun V_62 j_62 k_62 e_62 => ?_)
          refine aw_aload_n dX5_readComparison_57 rfl ?_
          refine aw_iload_n dX5_readComparison_58 rfl ?_
          refine aw_callVi (J' := jX5_readSum) (As := [.int 3]) (st := []) dX5_readComparison_59 tb_395 ok_X5_readSum ⟨_, ((j_62.2.1 _ hp.1 hp.2).trans hR)⟩ (by omega) rfl rfl (g_X5_readSum_3 l D b N V_62 hN j_62.1 p x ⟨by omega, by omega⟩ hx ((j_62.2.1 _ hp.1 hp.2).trans hR) (a_6 + 1) (⟨⟨_, _, _, e_62⟩, by omega⟩)) rfl (Nat.le_of_ble_eq_true rfl) ⟨Nat.le_of_ble_eq_true rfl, Nat.le_of_ble_eq_true rfl, Nat.le_of_ble_eq_true rfl, Nat.le_of_ble_eq_true rfl⟩ (fun r_71 N_72 V_67 q_73 => ?_)
          obtain ⟨⟨z_65, h_64⟩, rfl, q_63⟩ := q_73
          have j_66 := JW.trans j_62 (JW.weak q_63 (Sub.cons LM0 (by decide) (by decide) (by decide) (Or.inr ⟨by decide, by decide⟩) (Sub.cons (LMs LM0) (by omega) (by omega) (by decide) (Or.inl rfl) (Sub.cons (LMs (LMs LM0)) (by omega) (by omega) (by decide) (Or.inl rfl) (Sub.cons (LMs (LMs (LMs LM0))) (by omega) (by omega) (by decide) (Or.inr ⟨by decide, by decide⟩) (Sub.cons (LMs (LMs (LMs (LMs LM0)))) (by decide) (by decide) (by decide) (Or.inr ⟨by decide, by decide⟩) Sub.nil))))))
          obtain ⟨a_68, ha_69, ⟨ts_t_70, tn_t_70, tf_t_70, te_t_70⟩, hb_t_70⟩ := h_64
          refine aw_if_ne (tgt := 67) dX5_readComparison_62 (by decide) (fun c_74 => ?_) (fun c_74 => ?_)
          · skip
            refine aw_aload_n dX5_readComparison_67 rfl ?_
            refine aw_get dX5_readComparison_68 fl_X5_9 ((j_66.2.1 _ hp.1 hp.2).trans hR) (by omega) rfl ?_
            refine aw_iload_n dX5_readComparison_71 rfl ?_
            refine aw_iconst (v := 0) dX5_readComparison_72 (by decide) ?_
            obtain ⟨s8_78, r8_78, h8_78, e_78, hs_78, hr_78⟩ := JW.get j_66 (ctl_0 hx)
            refine aw_callVi (J' := jX4_add) (As := [.int r_15, .int 0]) (st := []) dX5_readComparison_73 tb_415 ok_X4_add ⟨_, e_78⟩ (by omega) rfl rfl (g_X4_add l D b N V_67 hN j_66.1 x hx r_15 0 (by decide)) rfl (Nat.le_of_ble_eq_true rfl) ⟨Nat.le_of_ble_eq_true rfl, Nat.le_of_ble_eq_true rfl, Nat.le_of_ble_eq_true rfl, Nat.le_of_ble_eq_true rfl⟩ (fun r_79 N_80 V_77 q_81 => ?_)
            obtain ⟨rfl, q_75⟩ := q_81
            have j_76 := JW.trans j_66 (JW.weak q_75 (Sub.cons (LMs LM0) (by omega) (by omega) (by decide) (Or.inl rfl) (Sub.cons (LMs (LMs LM0)) (by omega) (by omega) (by decide) (Or.inl rfl) (Sub.cons (LMs (LMs (LMs LM0))) (by omega) (by omega) (by decide) (Or.inr ⟨by decide, by decide⟩) Sub.nil))))
            refine aw_pop dX5_readComparison_76 rfl ?_
            refine aw_iconst (v := 1) dX5_readComparison_77 (by decide) ?_
            refine aw_zreti dX5_readComparison_78 rfl (by first | exact Or.inl rfl | exact Or.inr rfl | assumption) (Nat.le_of_ble_eq_true rfl) (Nat.le_of_ble_eq_true rfl) ?_
            exact ⟨⟨(by first | exact Or.inl rfl | exact Or.inr rfl | assumption), ⟨a_68, by omega, ⟨⟨_, _, _, ((JW.same q_75 (by decide) (fun k => (nfc (by omega) (nfc (by omega) (nfc (by omega) nf0))))).trans te_t_70)⟩, by omega⟩⟩⟩, rfl, j_76⟩
          · skip
            refine aw_iconst (v := 0) dX5_readComparison_65 (by decide) ?_
            refine aw_zreti dX5_readComparison_66 rfl (by first | exact Or.inl rfl | exact Or.inr rfl | assumption) (Nat.le_of_ble_eq_true rfl) (Nat.le_of_ble_eq_true rfl) ?_
            exact ⟨⟨(by first | exact Or.inl rfl | exact Or.inr rfl | assumption), ⟨a_68, by omega, ⟨⟨_, _, _, te_t_70⟩, by omega⟩⟩⟩, rfl, j_66⟩
        · skip
          refine aw_aload_n dX5_readComparison_36 rfl ?_
          refine aw_get dX5_readComparison_37 fl_X5_15 ((j_4.2.1 _ hp.1 hp.2).trans hR) (by omega) rfl ?_
          refine aw_callVi (J' := jX10_cannotStand) (As := []) (st := []) dX5_readComparison_40 tb_493 ok_X10_cannotStand ⟨_, te_t_8⟩ (by omega) rfl rfl (g_X10_cannotStand l D b N V_5 hN j_4.1 a_6 (⟨⟨_, _, _, te_t_8⟩, by omega⟩)) rfl (Nat.le_of_ble_eq_true rfl) ⟨Nat.le_of_ble_eq_true rfl, Nat.le_of_ble_eq_true rfl, Nat.le_of_ble_eq_true rfl, Nat.le_of_ble_eq_true rfl⟩ (fun r_91 N_92 V_86 q_93 => ?_)
          obtain ⟨⟨z_84, h_83⟩, rfl, q_82⟩ := q_93
          have j_85 := JW.trans j_4 (JW.weak q_82 (Sub.cons (LMs (LMs (LMs (LMs LM0)))) (by decide) (by decide) (by decide) (Or.inr ⟨by decide, by decide⟩) Sub.nil))
          obtain ⟨h_90, a_87, ha_88, ⟨ts_t_89, tn_t_89, tf_t_89, te_t_89⟩, hb_t_89⟩ := h_83
          obtain rfl := h_90
          refine aw_zreti dX5_readComparison_43 rfl (by first | exact Or.inl rfl | exact Or.inr rfl | assumption) (Nat.le_of_ble_eq_true rfl) (Nat.le_of_ble_eq_true rfl) ?_
          exact ⟨⟨(by first | exact Or.inl rfl | exact Or.inr rfl | assumption), ⟨a_87, by omega, ⟨⟨_, _, _, te_t_89⟩, by omega⟩⟩⟩, rfl, j_85⟩
  · skip
    refine aw_iconst (v := 0) dX5_readComparison_8 (by decide) ?_
    refine aw_zreti dX5_readComparison_9 rfl (by first | exact Or.inl rfl | exact Or.inr rfl | assumption) (Nat.le_of_ble_eq_true rfl) (Nat.le_of_ble_eq_true rfl) ?_
    exact ⟨⟨(by first | exact Or.inl rfl | exact Or.inr rfl | assumption), ⟨a_6, by omega, ⟨⟨_, _, _, te_t_8⟩, by omega⟩⟩⟩, rfl, j_4⟩

set_option maxHeartbeats 4000000 in
set_option maxRecDepth 100000 in
theorem g_X5_readNegation_3 (l : Launch) (D : va_G) (b : Nat) (N : Nat) (V : Wd) (hN : 100 ≤ N) (hW : CW D b V) (p x : Nat) (hp : 100 ≤ p ∧ p < N) (hx : x = 57 ∨ x = 65) (hR : V p = cO 5 [.ref (b + 1), .ref (b + x)]) (a : Nat) (hT : TA b a V) (hlt : a < 260) : MI l D b 16 jX5_readNegation [.ref (b + p), .int 3] N V 0 0 (fun r N9 V9 => ((r = 0 ∨ r = 1) ∧ (∃ a9, a ≤ a9 ∧ TA b a9 V9)) ∧ N = N9 ∧ JW D b N [(1, 1, 3, 3), (x + 1, x + 1, 0, 1000000), (x + 2, x + 2, 0, 1000000), (x, x, 2, 2), (1, 1, 4, 4)] V V9) := by
  have hJ0 : JW D b N [(1, 1, 3, 3), (x + 1, x + 1, 0, 1000000), (x + 2, x + 2, 0, 1000000), (x, x, 2, 2), (1, 1, 4, 4)] V V := JW.rf hW
  obtain ⟨⟨ts_0, tn_0, tf_0, te_0⟩, ha_0⟩ := id hT
  refine mw_of (by decide) (by simp [Value.category]) (Nat.le_of_ble_eq_true rfl) ?_
  show AW l D b jX5_readNegation (fx_rm 16 0 0) none (fx_MQ D b 0 0 (fx_qi (fun r N9 V9 => ((r = 0 ∨ r = 1) ∧ (∃ a9, a ≤ a9 ∧ TA b a9 V9)) ∧ N = N9 ∧ JW D b N [(1, 1, 3, 3), (x + 1, x + 1, 0, 1000000), (x + 2, x + 2, 0, 1000000), (x, x, 2, 2), (1, 1, 4, 4)] V V9))) 0 [some (.ref (b + p)), some (.int 3)] [] N V 0 0
  refine aw_aload_n dX5_readNegation_0 rfl ?_
  refine aw_iload_n dX5_readNegation_1 rfl ?_
  refine aw_callVi (J' := jX5_open) (As := [.int 3]) (st := []) dX5_readNegation_2 tb_407 ok_X5_open ⟨_, ((hJ0.2.1 _ hp.1 hp.2).trans hR)⟩ (by omega) rfl rfl (g_X5_open_3 l D b N V hN hJ0.1 p x ⟨by omega, by omega⟩ hx ((hJ0.2.1 _ hp.1 hp.2).trans hR) a (⟨⟨_, _, _, te_0⟩, by omega⟩) (by omega)) rfl (Nat.le_of_ble_eq_true rfl) ⟨Nat.le_of_ble_eq_true rfl, Nat.le_of_ble_eq_true rfl, Nat.le_of_ble_eq_true rfl, Nat.le_of_ble_eq_true rfl⟩ (fun r_10 N_11 V_5 q_12 => ?_)
  obtain ⟨⟨z_3, h_2⟩, rfl, q_1⟩ := q_12
  have j_4 := JW.trans hJ0 (JW.weak q_1 (Sub.cons LM0 (by decide) (by decide) (by decide) (Or.inr ⟨by decide, by decide⟩) Sub.nil))
  obtain ⟨h_9, a_6, ha_7, ⟨ts_t_8, tn_t_8, tf_t_8, te_t_8⟩, hb_t_8⟩ := h_2
  obtain rfl := h_9
  refine aw_if_eq (tgt := 18) dX5_readNegation_5 (by decide) (fun c_13 => ?_) (fun c_13 => ?_)
  · exact absurd c_13 (by decide)
  refine aw_aload_n dX5_readNegation_8 rfl ?_
  refine aw_iload_n dX5_readNegation_9 rfl ?_
  refine aw_iconst (v := 1) dX5_readNegation_10 (by decide) ?_
  refine aw_iadd dX5_readNegation_11 ?_
  refine aw_eqi (y := 4) (by decide) ?_
  refine aw_callVi (J' := jX5_readTest) (As := [.int 4]) (st := []) dX5_readNegation_12 tb_509 ok_X5_readTest ⟨_, ((j_4.2.1 _ hp.1 hp.2).trans hR)⟩ (by omega) rfl rfl (g_X5_readTest_4 l D b N V_5 hN j_4.1 p x ⟨by omega, by omega⟩ hx ((j_4.2.1 _ hp.1 hp.2).trans hR) a_6 (⟨⟨_, _, _, te_t_8⟩, by omega⟩)) rfl (Nat.le_of_ble_eq_true rfl) ⟨Nat.le_of_ble_eq_true rfl, Nat.le_of_ble_eq_true rfl, Nat.le_of_ble_eq_true rfl, Nat.le_of_ble_eq_true rfl⟩ (fun r_22 N_23 V_18 q_24 => ?_)
  obtain ⟨⟨z_16, h_15⟩, rfl, q_14⟩ := q_24
  have j_17 := JW.trans j_4 (JW.weak q_14 (Sub.cons LM0 (by decide) (by decide) (by decide) (Or.inr ⟨by decide, by decide⟩) (Sub.cons (LMs LM0) (by omega) (by omega) (by decide) (Or.inl rfl) (Sub.cons (LMs (LMs LM0)) (by omega) (by omega) (by decide) (Or.inl rfl) (Sub.cons (LMs (LMs (LMs LM0))) (by omega) (by omega) (by decide) (Or.inr ⟨by decide, by decide⟩) (Sub.cons (LMs (LMs (LMs (LMs LM0)))) (by decide) (by decide) (by decide) (Or.inr ⟨by decide, by decide⟩) Sub.nil))))))
  obtain ⟨a_19, ha_20, ⟨ts_t_21, tn_t_21, tf_t_21, te_t_21⟩, hb_t_21⟩ := h_15
  refine aw_if_ne (tgt := 20) dX5_readNegation_15 (by decide) (fun c_25 => ?_) (fun c_25 => ?_)
  · skip
    refine aw_aload_n dX5_readNegation_20 rfl ?_
    refine aw_get dX5_readNegation_21 fl_X5_9 ((j_17.2.1 _ hp.1 hp.2).trans hR) (by omega) rfl ?_
    refine aw_bipush (v := 33) dX5_readNegation_24 (by decide) ?_
    refine aw_iconst (v := 0) dX5_readNegation_26 (by decide) ?_
    obtain ⟨s8_29, r8_29, h8_29, e_29, hs_29, hr_29⟩ := JW.get j_17 (ctl_0 hx)
    refine aw_callVi (J' := jX4_add) (As := [.int 33, .int 0]) (st := []) dX5_readNegation_27 tb_415 ok_X4_add ⟨_, e_29⟩ (by omega) rfl rfl (g_X4_add l D b N V_18 hN j_17.1 x hx 33 0 (by decide)) rfl (Nat.le_of_ble_eq_true rfl) ⟨Nat.le_of_ble_eq_true rfl, Nat.le_of_ble_eq_true rfl, Nat.le_of_ble_eq_true rfl, Nat.le_of_ble_eq_true rfl⟩ (fun r_30 N_31 V_28 q_32 => ?_)
    obtain ⟨rfl, q_26⟩ := q_32
    have j_27 := JW.trans j_17 (JW.weak q_26 (Sub.cons (LMs LM0) (by omega) (by omega) (by decide) (Or.inl rfl) (Sub.cons (LMs (LMs LM0)) (by omega) (by omega) (by decide) (Or.inl rfl) (Sub.cons (LMs (LMs (LMs LM0))) (by omega) (by omega) (by decide) (Or.inr ⟨by decide, by decide⟩) Sub.nil))))
    refine aw_pop dX5_readNegation_30 rfl ?_
    refine aw_iconst (v := 1) dX5_readNegation_31 (by decide) ?_
    refine aw_zreti dX5_readNegation_32 rfl (by first | exact Or.inl rfl | exact Or.inr rfl | assumption) (Nat.le_of_ble_eq_true rfl) (Nat.le_of_ble_eq_true rfl) ?_
    exact ⟨⟨(by first | exact Or.inl rfl | exact Or.inr rfl | assumption), ⟨a_19, by omega, ⟨⟨_, _, _, ((JW.same q_26 (by decide) (fun k => (nfc (by omega) (nfc (by omega) (nfc (by omega) nf0))))).trans te_t_21)⟩, by omega⟩⟩⟩, rfl, j_27⟩
  · skip
    refine aw_iconst (v := 0) dX5_readNegation_18 (by decide) ?_
    refine aw_zreti dX5_readNegation_19 rfl (by first | exact Or.inl rfl | exact Or.inr rfl | assumption) (Nat.le_of_ble_eq_true rfl) (Nat.le_of_ble_eq_true rfl) ?_
    exact ⟨⟨(by first | exact Or.inl rfl | exact Or.inr rfl | assumption), ⟨a_19, by omega, ⟨⟨_, _, _, te_t_21⟩, by omega⟩⟩⟩, rfl, j_17⟩

set_option maxHeartbeats 4000000 in
set_option maxRecDepth 100000 in
theorem g_X5_readTest_3 (l : Launch) (D : va_G) (b : Nat) (N : Nat) (V : Wd) (hN : 100 ≤ N) (hW : CW D b V) (p x : Nat) (hp : 100 ≤ p ∧ p < N) (hx : x = 57 ∨ x = 65) (hR : V p = cO 5 [.ref (b + 1), .ref (b + x)]) (a : Nat) (hT : TA b a V) : MI l D b 18 jX5_readTest [.ref (b + p), .int 3] N V 0 0 (fun r N9 V9 => ((r = 0 ∨ r = 1) ∧ (∃ a9, a ≤ a9 ∧ TA b a9 V9)) ∧ N = N9 ∧ JW D b N [(1, 1, 3, 3), (x + 1, x + 1, 0, 1000000), (x + 2, x + 2, 0, 1000000), (x, x, 2, 2), (1, 1, 4, 4)] V V9) := by
  have hJ0 : JW D b N [(1, 1, 3, 3), (x + 1, x + 1, 0, 1000000), (x + 2, x + 2, 0, 1000000), (x, x, 2, 2), (1, 1, 4, 4)] V V := JW.rf hW
  obtain ⟨⟨ts_0, tn_0, tf_0, te_0⟩, ha_0⟩ := id hT
  refine mw_of (by decide) (by simp [Value.category]) (Nat.le_of_ble_eq_true rfl) ?_
  show AW l D b jX5_readTest (fx_rm 18 0 0) none (fx_MQ D b 0 0 (fx_qi (fun r N9 V9 => ((r = 0 ∨ r = 1) ∧ (∃ a9, a ≤ a9 ∧ TA b a9 V9)) ∧ N = N9 ∧ JW D b N [(1, 1, 3, 3), (x + 1, x + 1, 0, 1000000), (x + 2, x + 2, 0, 1000000), (x, x, 2, 2), (1, 1, 4, 4)] V V9))) 0 [some (.ref (b + p)), some (.int 3), none] [] N V 0 0
  refine aw_aload_n dX5_readTest_0 rfl ?_
  refine aw_get dX5_readTest_1 fl_X5_15 ((hJ0.2.1 _ hp.1 hp.2).trans hR) (by omega) rfl ?_
  refine aw_callVi (J' := jX10_now) (As := []) (st := []) dX5_readTest_4 tb_390 ok_X10_now ⟨_, te_0⟩ (by omega) rfl rfl (g_X10_now l D b N V hN hJ0.1 a (⟨⟨_, _, _, te_0⟩, by omega⟩)) rfl (Nat.le_of_ble_eq_true rfl) ⟨Nat.le_of_ble_eq_true rfl, Nat.le_of_ble_eq_true rfl, Nat.le_of_ble_eq_true rfl, Nat.le_of_ble_eq_true rfl⟩ (fun r_3 N_4 V_5 q_6 => ?_)
  obtain ⟨h_2, rfl, rfl⟩ := q_6
  refine aw_istore_n (ls' := [some (.ref (b + p)), some (.int 3), some (.int r_3)]) dX5_readTest_7 (Nat.le_of_ble_eq_true rfl) rfl ?_
  refine aw_iload_n dX5_readTest_8 rfl ?_
  refine aw_bipush (v := 33) dX5_readTest_9 (by decide) ?_
  refine aw_icmp_ne (tgt := 20) dX5_readTest_11 (by decide) (fun c_7 => ?_) (fun c_7 => ?_)
  · skip
    refine aw_iload_n dX5_readTest_20 rfl ?_
    refine aw_bipush (v := 40) dX5_readTest_21 (by decide) ?_
    refine aw_icmp_ne (tgt := 62) dX5_readTest_23 (by decide) (fun c_8 => ?_) (fun c_8 => ?_)
    · skip
      refine aw_aload_n dX5_readTest_62 rfl ?_
      refine aw_iload_n dX5_readTest_63 rfl ?_
      refine aw_callVi (J' := jX5_readComparison) (As := [.int 3]) (st := []) dX5_readTest_64 tb_517 ok_X5_readComparison ⟨_, ((hJ0.2.1 _ hp.1 hp.2).trans hR)⟩ (by omega) rfl rfl (g_X5_readComparison_3 l D b N V hN hJ0.1 p x ⟨by omega, by omega⟩ hx ((hJ0.2.1 _ hp.1 hp.2).trans hR) a (⟨⟨_, _, _, te_0⟩, by omega⟩)) rfl (Nat.le_of_ble_eq_true rfl) ⟨Nat.le_of_ble_eq_true rfl, Nat.le_of_ble_eq_true rfl, Nat.le_of_ble_eq_true rfl, Nat.le_of_ble_eq_true rfl⟩ (fun r_17 N_18 V_13 q_19 => ?_)
      obtain ⟨⟨z_11, h_10⟩, rfl, q_9⟩ := q_19
      have j_12 := JW.trans hJ0 (JW.weak q_9 (Sub.cons LM0 (by decide) (by decide) (by decide) (Or.inr ⟨by decide, by decide⟩) (Sub.cons (LMs LM0) (by omega) (by omega) (by decide) (Or.inl rfl) (Sub.cons (LMs (LMs LM0)) (by omega) (by omega) (by decide) (Or.inl rfl) (Sub.cons (LMs (LMs (LMs LM0))) (by omega) (by omega) (by decide) (Or.inr ⟨by decide, by decide⟩) (Sub.cons (LMs (LMs (LMs (LMs LM0)))) (by decide) (by decide) (by decide) (Or.inr ⟨by decide, by decide⟩) Sub.nil))))))
      obtain ⟨a_14, ha_15, ⟨ts_t_16, tn_t_16, tf_t_16, te_t_16⟩, hb_t_16⟩ := h_10
      refine aw_zreti dX5_readTest_67 rfl (by first | exact Or.inl rfl | exact Or.inr rfl | assumption) (Nat.le_of_ble_eq_true rfl) (Nat.le_of_ble_eq_true rfl) ?_
      exact ⟨⟨(by first | exact Or.inl rfl | exact Or.inr rfl | assumption), ⟨a_14, by omega, ⟨⟨_, _, _, te_t_16⟩, by omega⟩⟩⟩, rfl, j_12⟩
    · skip
      have hlc_8 := h_2.resolve_left (by rw [c_8]; decide)
      refine aw_aload_n dX5_readTest_26 rfl ?_
      refine aw_iload_n dX5_readTest_27 rfl ?_
      refine aw_callVi (J' := jX5_open) (As := [.int 3]) (st := []) dX5_readTest_28 tb_407 ok_X5_open ⟨_, ((hJ0.2.1 _ hp.1 hp.2).trans hR)⟩ (by omega) rfl rfl (g_X5_open_3 l D b N V hN hJ0.1 p x ⟨by omega, by omega⟩ hx ((hJ0.2.1 _ hp.1 hp.2).trans hR) a (⟨⟨_, _, _, te_0⟩, by omega⟩) (by omega)) rfl (Nat.le_of_ble_eq_true rfl) ⟨Nat.le_of_ble_eq_true rfl, Nat.le_of_ble_eq_true rfl, Nat.le_of_ble_eq_true rfl, Nat.le_of_ble_eq_true rfl⟩ (fun r_29 N_30 V_24 q_31 => ?_)
      obtain ⟨⟨z_22, h_21⟩, rfl, q_20⟩ := q_31
      have j_23 := JW.trans hJ0 (JW.weak q_20 (Sub.cons LM0 (by decide) (by decide) (by decide) (Or.inr ⟨by decide, by decide⟩) Sub.nil))
      obtain ⟨h_28, a_25, ha_26, ⟨ts_t_27, tn_t_27, tf_t_27, te_t_27⟩, hb_t_27⟩ := h_21
      obtain rfl := h_28
      refine aw_if_eq (tgt := 60) dX5_readTest_31 (by decide) (fun c_32 => ?_) (fun c_32 => ?_)
      · exact absurd c_32 (by decide)
      refine aw_aload_n dX5_readTest_34 rfl ?_
      refine aw_iload_n dX5_readTest_35 rfl ?_
      refine aw_iconst (v := 1) dX5_readTest_36 (by decide) ?_
      refine aw_iadd dX5_readTest_37 ?_
      refine aw_eqi (y := 4) (by decide) ?_
      refine aw_callVi (J' := jX5_readAnyOf) (As := [.int 4]) (st := []) dX5_readTest_38 tb_501 ok_X5_readAnyOf ⟨_, ((j_23.2.1 _ hp.1 hp.2).trans hR)⟩ (by omega) rfl rfl (g_X5_readAnyOf_4 l D b N V_24 hN j_23.1 p x ⟨by omega, by omega⟩ hx ((j_23.2.1 _ hp.1 hp.2).trans hR) a_25 (⟨⟨_, _, _, te_t_27⟩, by omega⟩)) rfl (Nat.le_of_ble_eq_true rfl) ⟨Nat.le_of_ble_eq_true rfl, Nat.le_of_ble_eq_true rfl, Nat.le_of_ble_eq_true rfl, Nat.le_of_ble_eq_true rfl⟩ (fun r_41 N_42 V_37 q_43 => ?_)
      obtain ⟨⟨z_35, h_34⟩, rfl, q_33⟩ := q_43
      have j_36 := JW.trans j_23 (JW.weak q_33 (Sub.cons LM0 (by decide) (by decide) (by decide) (Or.inr ⟨by decide, by decide⟩) (Sub.cons (LMs LM0) (by omega) (by omega) (by decide) (Or.inl rfl) (Sub.cons (LMs (LMs LM0)) (by omega) (by omega) (by decide) (Or.inl rfl) (Sub.cons (LMs (LMs (LMs LM0))) (by omega) (by omega) (by decide) (Or.inr ⟨by decide, by decide⟩) (Sub.cons (LMs (LMs (LMs (LMs LM0)))) (by decide) (by decide) (by decide) (Or.inr ⟨by decide, by decide⟩) Sub.nil))))))
      obtain ⟨a_38, ha_39, ⟨ts_t_40, tn_t_40, tf_t_40, te_t_40⟩, hb_t_40⟩ := h_34
      refine aw_if_eq (tgt := 60) dX5_readTest_41 (by decide) (fun c_44 => ?_) (fun c_44 => ?_)
      · skip
        refine aw_iconst (v := 0) dX5_readTest_60 (by decide) ?_
        refine aw_zreti dX5_readTest_61 rfl (by first | exact Or.inl rfl | exact Or.inr rfl | assumption) (Nat.le_of_ble_eq_true rfl) (Nat.le_of_ble_eq_true rfl) ?_
        exact ⟨⟨(by first | exact Or.inl rfl | exact Or.inr rfl | assumption), ⟨a_38, by omega, ⟨⟨_, _, _, te_t_40⟩, by omega⟩⟩⟩, rfl, j_36⟩
      · skip
        refine aw_aload_n dX5_readTest_44 rfl ?_
        refine aw_get dX5_readTest_45 fl_X5_15 ((j_36.2.1 _ hp.1 hp.2).trans hR) (by omega) rfl ?_
        refine aw_bipush (v := 41) dX5_readTest_48 (by decide) ?_
        refine aw_callVi (J' := jX10_expect) (As := [.int 41]) (st := []) dX5_readTest_50 tb_412 ok_X10_expect ⟨_, te_t_40⟩ (by omega) rfl rfl (g_X10_expect l D b N V_37 hN j_36.1 41 a_38 (⟨⟨_, _, _, te_t_40⟩, by omega⟩) (by decide)) rfl (Nat.le_of_ble_eq_true rfl) ⟨Nat.le_of_ble_eq_true rfl, Nat.le_of_ble_eq_true rfl, Nat.le_of_ble_eq_true rfl, Nat.le_of_ble_eq_true rfl⟩ (fun r_53 N_54 V_49 q_55 => ?_)
        obtain ⟨⟨z_47, h_46⟩, rfl, q_45⟩ := q_55
        have j_48 := JW.trans j_36 (JW.weak q_45 (Sub.cons LM0 (by decide) (by decide) (by decide) (Or.inr ⟨by decide, by decide⟩) (Sub.cons (LMs (LMs (LMs (LMs LM0)))) (by decide) (by decide) (by decide) (Or.inr ⟨by decide, by decide⟩) Sub.nil)))
        obtain ⟨a_50, ha_51, ⟨ts_t_52, tn_t_52, tf_t_52, te_t_52⟩, hb_t_52⟩ := h_46
        refine aw_if_eq (tgt := 60) dX5_readTest_53 (by decide) (fun c_56 => ?_) (fun c_56 => ?_)
        · skip
          refine aw_iconst (v := 0) dX5_readTest_60 (by decide) ?_
          refine aw_zreti dX5_readTest_61 rfl (by first | exact Or.inl rfl | exact Or.inr rfl | assumption) (Nat.le_of_ble_eq_true rfl) (Nat.le_of_ble_eq_true rfl) ?_
          exact ⟨⟨(by first | exact Or.inl rfl | exact Or.inr rfl | assumption), ⟨a_50, by omega, ⟨⟨_, _, _, te_t_52⟩, by omega⟩⟩⟩, rfl, j_48⟩
        · skip
          refine aw_iconst (v := 1) dX5_readTest_56 (by decide) ?_
          refine aw_goto (tgt := 61) dX5_readTest_57 (by decide) ?_
          refine aw_zreti dX5_readTest_61 rfl (by first | exact Or.inl rfl | exact Or.inr rfl | assumption) (Nat.le_of_ble_eq_true rfl) (Nat.le_of_ble_eq_true rfl) ?_
          exact ⟨⟨(by first | exact Or.inl rfl | exact Or.inr rfl | assumption), ⟨a_50, by omega, ⟨⟨_, _, _, te_t_52⟩, by omega⟩⟩⟩, rfl, j_48⟩
  · skip
    have hlc_7 := h_2.resolve_left (by rw [c_7]; decide)
    refine aw_aload_n dX5_readTest_14 rfl ?_
    refine aw_iload_n dX5_readTest_15 rfl ?_
    refine aw_callVi (J' := jX5_readNegation) (As := [.int 3]) (st := []) dX5_readTest_16 tb_513 ok_X5_readNegation ⟨_, ((hJ0.2.1 _ hp.1 hp.2).trans hR)⟩ (by omega) rfl rfl (g_X5_readNegation_3 l D b N V hN hJ0.1 p x ⟨by omega, by omega⟩ hx ((hJ0.2.1 _ hp.1 hp.2).trans hR) a (⟨⟨_, _, _, te_0⟩, by omega⟩) (by omega)) rfl (Nat.le_of_ble_eq_true rfl) ⟨Nat.le_of_ble_eq_true rfl, Nat.le_of_ble_eq_true rfl, Nat.le_of_ble_eq_true rfl, Nat.le_of_ble_eq_true rfl⟩ (fun r_65 N_66 V_61 q_67 => ?_)
    obtain ⟨⟨z_59, h_58⟩, rfl, q_57⟩ := q_67
    have j_60 := JW.trans hJ0 (JW.weak q_57 (Sub.cons LM0 (by decide) (by decide) (by decide) (Or.inr ⟨by decide, by decide⟩) (Sub.cons (LMs LM0) (by omega) (by omega) (by decide) (Or.inl rfl) (Sub.cons (LMs (LMs LM0)) (by omega) (by omega) (by decide) (Or.inl rfl) (Sub.cons (LMs (LMs (LMs LM0))) (by omega) (by omega) (by decide) (Or.inr ⟨by decide, by decide⟩) (Sub.cons (LMs (LMs (LMs (LMs LM0)))) (by decide) (by decide) (by decide) (Or.inr ⟨by decide, by decide⟩) Sub.nil))))))
    obtain ⟨a_62, ha_63, ⟨ts_t_64, tn_t_64, tf_t_64, te_t_64⟩, hb_t_64⟩ := h_58
    refine aw_zreti dX5_readTest_19 rfl (by first | exact Or.inl rfl | exact Or.inr rfl | assumption) (Nat.le_of_ble_eq_true rfl) (Nat.le_of_ble_eq_true rfl) ?_
    exact ⟨⟨(by first | exact Or.inl rfl | exact Or.inr rfl | assumption), ⟨a_62, by omega, ⟨⟨_, _, _, te_t_64⟩, by omega⟩⟩⟩, rfl, j_60⟩

set_option maxHeartbeats 4000000 in
set_option maxRecDepth 100000 in
theorem g_X5_readAllOf_3 (l : Launch) (D : va_G) (b : Nat) (N : Nat) (V : Wd) (hN : 100 ≤ N) (hW : CW D b V) (p x : Nat) (hp : 100 ≤ p ∧ p < N) (hx : x = 57 ∨ x = 65) (hR : V p = cO 5 [.ref (b + 1), .ref (b + x)]) (a : Nat) (hT : TA b a V) : MI l D b 19 jX5_readAllOf [.ref (b + p), .int 3] N V 0 0 (fun r N9 V9 => ((r = 0 ∨ r = 1) ∧ (∃ a9, a ≤ a9 ∧ TA b a9 V9)) ∧ N = N9 ∧ JW D b N [(1, 1, 3, 3), (x + 1, x + 1, 0, 1000000), (x + 2, x + 2, 0, 1000000), (x, x, 2, 2), (1, 1, 4, 4)] V V9) := by
  have hJ0 : JW D b N [(1, 1, 3, 3), (x + 1, x + 1, 0, 1000000), (x + 2, x + 2, 0, 1000000), (x, x, 2, 2), (1, 1, 4, 4)] V V := JW.rf hW
  obtain ⟨⟨ts_0, tn_0, tf_0, te_0⟩, ha_0⟩ := id hT
  refine mw_of (by decide) (by simp [Value.category]) (Nat.le_of_ble_eq_true rfl) ?_
  show AW l D b jX5_readAllOf (fx_rm 19 0 0) none (fx_MQ D b 0 0 (fx_qi (fun r N9 V9 => ((r = 0 ∨ r = 1) ∧ (∃ a9, a ≤ a9 ∧ TA b a9 V9)) ∧ N = N9 ∧ JW D b N [(1, 1, 3, 3), (x + 1, x + 1, 0, 1000000), (x + 2, x + 2, 0, 1000000), (x, x, 2, 2), (1, 1, 4, 4)] V V9))) 0 [some (.ref (b + p)), some (.int 3), none] [] N V 0 0
  refine aw_aload_n dX5_readAllOf_0 rfl ?_
  refine aw_iload_n dX5_readAllOf_1 rfl ?_
  refine aw_callVi (J' := jX5_readTest) (As := [.int 3]) (st := []) dX5_readAllOf_2 tb_509 ok_X5_readTest ⟨_, ((hJ0.2.1 _ hp.1 hp.2).trans hR)⟩ (by omega) rfl rfl (g_X5_readTest_3 l D b N V hN hJ0.1 p x ⟨by omega, by omega⟩ hx ((hJ0.2.1 _ hp.1 hp.2).trans hR) a (⟨⟨_, _, _, te_0⟩, by omega⟩)) rfl (Nat.le_of_ble_eq_true rfl) ⟨Nat.le_of_ble_eq_true rfl, Nat.le_of_ble_eq_true rfl, Nat.le_of_ble_eq_true rfl, Nat.le_of_ble_eq_true rfl⟩ (fun r_9 N_10 V_5 q_11 => ?_)
  obtain ⟨⟨z_3, h_2⟩, rfl, q_1⟩ := q_11
  have j_4 := JW.trans hJ0 (JW.weak q_1 (Sub.cons LM0 (by decide) (by decide) (by decide) (Or.inr ⟨by decide, by decide⟩) (Sub.cons (LMs LM0) (by omega) (by omega) (by decide) (Or.inl rfl) (Sub.cons (LMs (LMs LM0)) (by omega) (by omega) (by decide) (Or.inl rfl) (Sub.cons (LMs (LMs (LMs LM0))) (by omega) (by omega) (by decide) (Or.inr ⟨by decide, by decide⟩) (Sub.cons (LMs (LMs (LMs (LMs LM0)))) (by decide) (by decide) (by decide) (Or.inr ⟨by decide, by decide⟩) Sub.nil))))))
  obtain ⟨a_6, ha_7, ⟨ts_t_8, tn_t_8, tf_t_8, te_t_8⟩, hb_t_8⟩ := h_2
  refine aw_if_ne (tgt := 10) dX5_readAllOf_5 (by decide) (fun c_12 => ?_) (fun c_12 => ?_)
  · skip
    have ml_10_13 : ∀ (m : Nat) (a10 : Nat) (V10 : Wd), m = 260 - a10 → (JW D b N [(1, 1, 3, 3), (x + 1, x + 1, 0, 1000000), (x + 2, x + 2, 0, 1000000), (x, x, 2, 2), (1, 1, 4, 4)] V V10) → (TA b a10 V10) → (a ≤ a10) → AW l D b jX5_readAllOf (fx_rm 19 0 0) none (fx_MQ D b 0 0 (fx_qi (fun r N9 V9 => ((r = 0 ∨ r = 1) ∧ (∃ a9, a ≤ a9 ∧ TA b a9 V9)) ∧ N = N9 ∧ JW D b N [(1, 1, 3, 3), (x + 1, x + 1, 0, 1000000), (x + 2, x + 2, 0, 1000000), (x, x, 2, 2), (1, 1, 4, 4)] V V9))) 10 [some (.ref (b + p)), some (.int 3), none] [] N V10 0 0 := by
      intro m; refine Nat.strongRecOn m ?_
      intro m mih_10_13 a10 V10 hm10 i10_0 i10_1 i10_2
      obtain ⟨⟨ts_10, tn_10, tf_10, te_10⟩, hb_10⟩ := i10_1
      refine aw_aload_n dX5_readAllOf_10 rfl ?_
      refine aw_get dX5_readAllOf_11 fl_X5_15 ((i10_0.2.1 _ hp.1 hp.2).trans hR) (by omega) rfl ?_
      refine aw_get dX5_readAllOf_14 fl_X5_25 te_10 (by omega) rfl ?_
      refine aw_aload_n dX5_readAllOf_17 rfl ?_
      refine aw_get dX5_readAllOf_18 fl_X5_15 ((i10_0.2.1 _ hp.1 hp.2).trans hR) (by omega) rfl ?_
      refine aw_get dX5_readAllOf_21 fl_X5_59 te_10 (by omega) rfl ?_
      refine aw_icmp_ge (tgt := 84) dX5_readAllOf_24 (by decide) (fun c_14 => ?_) (fun c_14 => ?_)
      · skip
        refine aw_iconst (v := 1) dX5_readAllOf_84 (by decide) ?_
        refine aw_zreti dX5_readAllOf_85 rfl (by first | exact Or.inl rfl | exact Or.inr rfl | assumption) (Nat.le_of_ble_eq_true rfl) (Nat.le_of_ble_eq_true rfl) ?_
        exact ⟨⟨(by first | exact Or.inl rfl | exact Or.inr rfl | assumption), ⟨a10, by omega, ⟨⟨_, _, _, te_10⟩, by omega⟩⟩⟩, rfl, i10_0⟩
      · skip
        refine aw_aload_n dX5_readAllOf_27 rfl ?_
        refine aw_get dX5_readAllOf_28 fl_X5_15 ((i10_0.2.1 _ hp.1 hp.2).trans hR) (by omega) rfl ?_
        refine aw_callVi (J' := jX10_now) (As := []) (st := []) dX5_readAllOf_31 tb_390 ok_X10_now ⟨_, te_10⟩ (by omega) rfl rfl (g_X10_now l D b N V10 hN i10_0.1 a10 (⟨⟨_, _, _, te_10⟩, by omega⟩)) rfl (Nat.le_of_ble_eq_true rfl) ⟨Nat.le_of_ble_eq_true rfl, Nat.le_of_ble_eq_true rfl, Nat.le_of_ble_eq_true rfl, Nat.le_of_ble_eq_true rfl⟩ (fun r_17 N_18 V_19 q_20 => ?_)
        obtain ⟨h_16, rfl, rfl⟩ := q_20
        refine aw_bipush (v := 38) dX5_readAllOf_34 (by decide) ?_
        refine aw_icmp_ne (tgt := 84) dX5_readAllOf_36 (by decide) (fun c_21 => ?_) (fun c_21 => ?_)
        · skip
          refine aw_iconst (v := 1) dX5_readAllOf_84 (by decide) ?_
          refine aw_zreti dX5_readAllOf_85 rfl (by first | exact Or.inl rfl | exact Or.inr rfl | assumption) (Nat.le_of_ble_eq_true rfl) (Nat.le_of_ble_eq_true rfl) ?_
          exact ⟨⟨(by first | exact Or.inl rfl | exact Or.inr rfl | assumption), ⟨a10, by omega, ⟨⟨_, _, _, te_10⟩, by omega⟩⟩⟩, rfl, i10_0⟩
        · skip
          have hlc_21 := h_16.resolve_left (by rw [c_21]; decide)
          refine aw_aload_n dX5_readAllOf_39 rfl ?_
          refine aw_get dX5_readAllOf_40 fl_X5_15 ((i10_0.2.1 _ hp.1 hp.2).trans hR) (by omega) rfl ?_
          refine aw_dup dX5_readAllOf_43 rfl ?_
          refine aw_get dX5_readAllOf_44 fl_X5_25 te_10 (by omega) rfl ?_
          refine aw_iconst (v := 1) dX5_readAllOf_47 (by decide) ?_
          refine aw_iadd dX5_readAllOf_48 ?_
          refine aw_eqi (y := nI (a10 + 1)) (nI_add _ _) ?_
          refine aw_put dX5_readAllOf_49 fp_X5_25 te_10 (by omega) rfl rfl (Nat.le_of_ble_eq_true rfl) rfl ?_
          refine aw_up i10_0 ct_1 ⟨_, _, _, (a10 + 1), rfl, (by first | omega | (split <;> omega))⟩ (WO (s := 3) (x := .int (nI (a10 + 1))) te_10 rfl LM0 (by decide) (by decide) (by decide) (Or.inl (by decide))) (fun V_22 j_22 k_22 e_22 => ?_)
          refine aw_aload_n dX5_readAllOf_52 rfl ?_
          refine aw_get dX5_readAllOf_53 fl_X5_9 ((j_22.2.1 _ hp.1 hp.2).trans hR) (by omega) rfl ?_
          refine aw_bipush (v := 38) dX5_readAllOf_56 (by decide) ?_
          refine aw_iconst (v := 0) dX5_readAllOf_58 (by decide) ?_
          obtain ⟨s8_26, r8_26, h8_26, e_26, hs_26, hr_26⟩ := JW.get j_22 (ctl_0 hx)
          refine aw_callVi (J' := jX4_add) (As := [.int 38, .int 0]) (st := []) dX5_readAllOf_59 tb_415 ok_X4_add ⟨_, e_26⟩ (by omega) rfl rfl (g_X4_add l D b N V_22 hN j_22.1 x hx 38 0 (by decide)) rfl (Nat.le_of_ble_eq_true rfl) ⟨Nat.le_of_ble_eq_true rfl, Nat.le_of_ble_eq_true rfl, Nat.le_of_ble_eq_true rfl, Nat.le_of_ble_eq_true rfl⟩ (fun r_27 N_28 V_25 q_29 => ?_)
          obtain ⟨rfl, q_23⟩ := q_29
          have j_24 := JW.trans j_22 (JW.weak q_23 (Sub.cons (LMs LM0) (by omega) (by omega) (by decide) (Or.inl rfl) (Sub.cons (LMs (LMs LM0)) (by omega) (by omega) (by decide) (Or.inl rfl) (Sub.cons (LMs (LMs (LMs LM0))) (by omega) (by omega) (by decide) (Or.inr ⟨by decide, by decide⟩) Sub.nil))))
          refine aw_istore_n (ls' := [some (.ref (b + p)), some (.int 3), some (.int r_27)]) dX5_readAllOf_62 (Nat.le_of_ble_eq_true rfl) rfl ?_
          refine aw_aload_n dX5_readAllOf_63 rfl ?_
          refine aw_iload_n dX5_readAllOf_64 rfl ?_
          refine aw_callVi (J' := jX5_readTest) (As := [.int 3]) (st := []) dX5_readAllOf_65 tb_509 ok_X5_readTest ⟨_, ((j_24.2.1 _ hp.1 hp.2).trans hR)⟩ (by omega) rfl rfl (g_X5_readTest_3 l D b N V_25 hN j_24.1 p x ⟨by omega, by omega⟩ hx ((j_24.2.1 _ hp.1 hp.2).trans hR) (a10 + 1) (⟨⟨_, _, _, ((JW.same q_23 (by decide) (fun k => (nfc (by omega) (nfc (by omega) (nfc (by omega) nf0))))).trans e_22)⟩, by omega⟩)) rfl (Nat.le_of_ble_eq_true rfl) ⟨Nat.le_of_ble_eq_true rfl, Nat.le_of_ble_eq_true rfl, Nat.le_of_ble_eq_true rfl, Nat.le_of_ble_eq_true rfl⟩ (fun r_38 N_39 V_34 q_40 => ?_)
          obtain ⟨⟨z_32, h_31⟩, rfl, q_30⟩ := q_40
          have j_33 := JW.trans j_24 (JW.weak q_30 (Sub.cons LM0 (by decide) (by decide) (by decide) (Or.inr ⟨by decide, by decide⟩) (Sub.cons (LMs LM0) (by omega) (by omega) (by decide) (Or.inl rfl) (Sub.cons (LMs (LMs LM0)) (by omega) (by omega) (by decide) (Or.inl rfl) (Sub.cons (LMs (LMs (LMs LM0))) (by omega) (by omega) (by decide) (Or.inr ⟨by decide, by decide⟩) (Sub.cons (LMs (LMs (LMs (LMs LM0)))) (by decide) (by decide) (by decide) (Or.inr ⟨by decide, by decide⟩) Sub.nil))))))
          obtain ⟨a_35, ha_36, ⟨ts_t_37, tn_t_37, tf_t_37, te_t_37⟩, hb_t_37⟩ := h_31
          refine aw_if_ne (tgt := 73) dX5_readAllOf_68 (by decide) (fun c_41 => ?_) (fun c_41 => ?_)
          · skip
            refine aw_aload_n dX5_readAllOf_73 rfl ?_
            refine aw_get dX5_readAllOf_74 fl_X5_9 ((j_33.2.1 _ hp.1 hp.2).trans hR) (by omega) rfl ?_
            refine aw_iload_n dX5_readAllOf_77 rfl ?_
            obtain ⟨s8_45, r8_45, h8_45, e_45, hs_45, hr_45⟩ := JW.get j_33 (ctl_0 hx)
            refine aw_callVv (J' := jX4_leadHere) (As := [.int r_27]) (st := []) dX5_readAllOf_78 tb_521 ok_X4_leadHere ⟨_, e_45⟩ (by omega) rfl rfl (g_X4_leadHere l D b N V_34 hN j_33.1 x hx r_27) rfl (Nat.le_of_ble_eq_true rfl) ⟨Nat.le_of_ble_eq_true rfl, Nat.le_of_ble_eq_true rfl, Nat.le_of_ble_eq_true rfl, Nat.le_of_ble_eq_true rfl⟩ (fun  N_46 V_44 q_47 => ?_)
            obtain ⟨rfl, q_42⟩ := q_47
            have j_43 := JW.trans j_33 (JW.weak q_42 (Sub.cons (LMs (LMs LM0)) (by omega) (by omega) (by decide) (Or.inl rfl) Sub.nil))
            refine aw_goto (tgt := 10) dX5_readAllOf_81 (by decide) ?_
            refine aw_le ?_ (mih_10_13 _ (by omega) a_35 V_44 rfl (j_43) (⟨⟨_, _, _, ((JW.same q_42 (by decide) (fun k => (nfc (by omega) nf0))).trans te_t_37)⟩, by omega⟩) (by omega))
            exact ⟨rfl, ⟨rfl, trivial⟩⟩
          · skip
            refine aw_iconst (v := 0) dX5_readAllOf_71 (by decide) ?_
            refine aw_zreti dX5_readAllOf_72 rfl (by first | exact Or.inl rfl | exact Or.inr rfl | assumption) (Nat.le_of_ble_eq_true rfl) (Nat.le_of_ble_eq_true rfl) ?_
            exact ⟨⟨(by first | exact Or.inl rfl | exact Or.inr rfl | assumption), ⟨a_35, by omega, ⟨⟨_, _, _, te_t_37⟩, by omega⟩⟩⟩, rfl, j_33⟩
    refine aw_le ?_ (ml_10_13 _ a_6 V_5 rfl (j_4) (⟨⟨_, _, _, te_t_8⟩, by omega⟩) (by omega))
    exact ⟨rfl, ⟨rfl, trivial⟩⟩
  · skip
    refine aw_iconst (v := 0) dX5_readAllOf_8 (by decide) ?_
    refine aw_zreti dX5_readAllOf_9 rfl (by first | exact Or.inl rfl | exact Or.inr rfl | assumption) (Nat.le_of_ble_eq_true rfl) (Nat.le_of_ble_eq_true rfl) ?_
    exact ⟨⟨(by first | exact Or.inl rfl | exact Or.inr rfl | assumption), ⟨a_6, by omega, ⟨⟨_, _, _, te_t_8⟩, by omega⟩⟩⟩, rfl, j_4⟩

set_option maxHeartbeats 4000000 in
set_option maxRecDepth 100000 in
theorem g_X5_readAnyOf_3 (l : Launch) (D : va_G) (b : Nat) (N : Nat) (V : Wd) (hN : 100 ≤ N) (hW : CW D b V) (p x : Nat) (hp : 100 ≤ p ∧ p < N) (hx : x = 57 ∨ x = 65) (hR : V p = cO 5 [.ref (b + 1), .ref (b + x)]) (a : Nat) (hT : TA b a V) : MI l D b 20 jX5_readAnyOf [.ref (b + p), .int 3] N V 0 0 (fun r N9 V9 => ((r = 0 ∨ r = 1) ∧ (∃ a9, a ≤ a9 ∧ TA b a9 V9)) ∧ N = N9 ∧ JW D b N [(1, 1, 3, 3), (x + 1, x + 1, 0, 1000000), (x + 2, x + 2, 0, 1000000), (x, x, 2, 2), (1, 1, 4, 4)] V V9) := by
  have hJ0 : JW D b N [(1, 1, 3, 3), (x + 1, x + 1, 0, 1000000), (x + 2, x + 2, 0, 1000000), (x, x, 2, 2), (1, 1, 4, 4)] V V := JW.rf hW
  obtain ⟨⟨ts_0, tn_0, tf_0, te_0⟩, ha_0⟩ := id hT
  refine mw_of (by decide) (by simp [Value.category]) (Nat.le_of_ble_eq_true rfl) ?_
  show AW l D b jX5_readAnyOf (fx_rm 20 0 0) none (fx_MQ D b 0 0 (fx_qi (fun r N9 V9 => ((r = 0 ∨ r = 1) ∧ (∃ a9, a ≤ a9 ∧ TA b a9 V9)) ∧ N = N9 ∧ JW D b N [(1, 1, 3, 3), (x + 1, x + 1, 0, 1000000), (x + 2, x + 2, 0, 1000000), (x, x, 2, 2), (1, 1, 4, 4)] V V9))) 0 [some (.ref (b + p)), some (.int 3), none] [] N V 0 0
  refine aw_aload_n dX5_readAnyOf_0 rfl ?_
  refine aw_iload_n dX5_readAnyOf_1 rfl ?_
  refine aw_callVi (J' := jX5_readAllOf) (As := [.int 3]) (st := []) dX5_readAnyOf_2 tb_505 ok_X5_readAllOf ⟨_, ((hJ0.2.1 _ hp.1 hp.2).trans hR)⟩ (by omega) rfl rfl (g_X5_readAllOf_3 l D b N V hN hJ0.1 p x ⟨by omega, by omega⟩ hx ((hJ0.2.1 _ hp.1 hp.2).trans hR) a (⟨⟨_, _, _, te_0⟩, by omega⟩)) rfl (Nat.le_of_ble_eq_true rfl) ⟨Nat.le_of_ble_eq_true rfl, Nat.le_of_ble_eq_true rfl, Nat.le_of_ble_eq_true rfl, Nat.le_of_ble_eq_true rfl⟩ (fun r_9 N_10 V_5 q_11 => ?_)
  obtain ⟨⟨z_3, h_2⟩, rfl, q_1⟩ := q_11
  have j_4 := JW.trans hJ0 (JW.weak q_1 (Sub.cons LM0 (by decide) (by decide) (by decide) (Or.inr ⟨by decide, by decide⟩) (Sub.cons (LMs LM0) (by omega) (by omega) (by decide) (Or.inl rfl) (Sub.cons (LMs (LMs LM0)) (by omega) (by omega) (by decide) (Or.inl rfl) (Sub.cons (LMs (LMs (LMs LM0))) (by omega) (by omega) (by decide) (Or.inr ⟨by decide, by decide⟩) (Sub.cons (LMs (LMs (LMs (LMs LM0)))) (by decide) (by decide) (by decide) (Or.inr ⟨by decide, by decide⟩) Sub.nil))))))
  obtain ⟨a_6, ha_7, ⟨ts_t_8, tn_t_8, tf_t_8, te_t_8⟩, hb_t_8⟩ := h_2
  refine aw_if_ne (tgt := 10) dX5_readAnyOf_5 (by decide) (fun c_12 => ?_) (fun c_12 => ?_)
  · skip
    have ml_10_13 : ∀ (m : Nat) (a10 : Nat) (V10 : Wd), m = 260 - a10 → (JW D b N [(1, 1, 3, 3), (x + 1, x + 1, 0, 1000000), (x + 2, x + 2, 0, 1000000), (x, x, 2, 2), (1, 1, 4, 4)] V V10) → (TA b a10 V10) → (a ≤ a10) → AW l D b jX5_readAnyOf (fx_rm 20 0 0) none (fx_MQ D b 0 0 (fx_qi (fun r N9 V9 => ((r = 0 ∨ r = 1) ∧ (∃ a9, a ≤ a9 ∧ TA b a9 V9)) ∧ N = N9 ∧ JW D b N [(1, 1, 3, 3), (x + 1, x + 1, 0, 1000000), (x + 2, x + 2, 0, 1000000), (x, x, 2, 2), (1, 1, 4, 4)] V V9))) 10 [some (.ref (b + p)), some (.int 3), none] [] N V10 0 0 := by
      intro m; refine Nat.strongRecOn m ?_
      intro m mih_10_13 a10 V10 hm10 i10_0 i10_1 i10_2
      obtain ⟨⟨ts_10, tn_10, tf_10, te_10⟩, hb_10⟩ := i10_1
      refine aw_aload_n dX5_readAnyOf_10 rfl ?_
      refine aw_get dX5_readAnyOf_11 fl_X5_15 ((i10_0.2.1 _ hp.1 hp.2).trans hR) (by omega) rfl ?_
      refine aw_get dX5_readAnyOf_14 fl_X5_25 te_10 (by omega) rfl ?_
      refine aw_aload_n dX5_readAnyOf_17 rfl ?_
      refine aw_get dX5_readAnyOf_18 fl_X5_15 ((i10_0.2.1 _ hp.1 hp.2).trans hR) (by omega) rfl ?_
      refine aw_get dX5_readAnyOf_21 fl_X5_59 te_10 (by omega) rfl ?_
      refine aw_icmp_ge (tgt := 84) dX5_readAnyOf_24 (by decide) (fun c_14 => ?_) (fun c_14 => ?_)
      · skip
        refine aw_iconst (v := 1) dX5_readAnyOf_84 (by decide) ?_
        refine aw_zreti dX5_readAnyOf_85 rfl (by first | exact Or.inl rfl | exact Or.inr rfl | assumption) (Nat.le_of_ble_eq_true rfl) (Nat.le_of_ble_eq_true rfl) ?_
        exact ⟨⟨(by first | exact Or.inl rfl | exact Or.inr rfl | assumption), ⟨a10, by omega, ⟨⟨_, _, _, te_10⟩, by omega⟩⟩⟩, rfl, i10_0⟩
      · skip
        refine aw_aload_n dX5_readAnyOf_27 rfl ?_
        refine aw_get dX5_readAnyOf_28 fl_X5_15 ((i10_0.2.1 _ hp.1 hp.2).trans hR) (by omega) rfl ?_
        refine aw_callVi (J' := jX10_now) (As := []) (st := []) dX5_readAnyOf_31 tb_390 ok_X10_now ⟨_, te_10⟩ (by omega) rfl rfl (g_X10_now l D b N V10 hN i10_0.1 a10 (⟨⟨_, _, _, te_10⟩, by omega⟩)) rfl (Nat.le_of_ble_eq_true rfl) ⟨Nat.le_of_ble_eq_true rfl, Nat.le_of_ble_eq_true rfl, Nat.le_of_ble_eq_true rfl, Nat.le_of_ble_eq_true rfl⟩ (fun r_17 N_18 V_19 q_20 => ?_)
        obtain ⟨h_16, rfl, rfl⟩ := q_20
        refine aw_bipush (v := 124) dX5_readAnyOf_34 (by decide) ?_
        refine aw_icmp_ne (tgt := 84) dX5_readAnyOf_36 (by decide) (fun c_21 => ?_) (fun c_21 => ?_)
        · skip
          refine aw_iconst (v := 1) dX5_readAnyOf_84 (by decide) ?_
          refine aw_zreti dX5_readAnyOf_85 rfl (by first | exact Or.inl rfl | exact Or.inr rfl | assumption) (Nat.le_of_ble_eq_true rfl) (Nat.le_of_ble_eq_true rfl) ?_
          exact ⟨⟨(by first | exact Or.inl rfl | exact Or.inr rfl | assumption), ⟨a10, by omega, ⟨⟨_, _, _, te_10⟩, by omega⟩⟩⟩, rfl, i10_0⟩
        · skip
          have hlc_21 := h_16.resolve_left (by rw [c_21]; decide)
          refine aw_aload_n dX5_readAnyOf_39 rfl ?_
          refine aw_get dX5_readAnyOf_40 fl_X5_15 ((i10_0.2.1 _ hp.1 hp.2).trans hR) (by omega) rfl ?_
          refine aw_dup dX5_readAnyOf_43 rfl ?_
          refine aw_get dX5_readAnyOf_44 fl_X5_25 te_10 (by omega) rfl ?_
          refine aw_iconst (v := 1) dX5_readAnyOf_47 (by decide) ?_
          refine aw_iadd dX5_readAnyOf_48 ?_
          refine aw_eqi (y := nI (a10 + 1)) (nI_add _ _) ?_
          refine aw_put dX5_readAnyOf_49 fp_X5_25 te_10 (by omega) rfl rfl (Nat.le_of_ble_eq_true rfl) rfl ?_
          refine aw_up i10_0 ct_1 ⟨_, _, _, (a10 + 1), rfl, (by first | omega | (split <;> omega))⟩ (WO (s := 3) (x := .int (nI (a10 + 1))) te_10 rfl LM0 (by decide) (by decide) (by decide) (Or.inl (by decide))) (fun V_22 j_22 k_22 e_22 => ?_)
          refine aw_aload_n dX5_readAnyOf_52 rfl ?_
          refine aw_get dX5_readAnyOf_53 fl_X5_9 ((j_22.2.1 _ hp.1 hp.2).trans hR) (by omega) rfl ?_
          refine aw_bipush (v := 124) dX5_readAnyOf_56 (by decide) ?_
          refine aw_iconst (v := 0) dX5_readAnyOf_58 (by decide) ?_
          obtain ⟨s8_26, r8_26, h8_26, e_26, hs_26, hr_26⟩ := JW.get j_22 (ctl_0 hx)
          refine aw_callVi (J' := jX4_add) (As := [.int 124, .int 0]) (st := []) dX5_readAnyOf_59 tb_415 ok_X4_add ⟨_, e_26⟩ (by omega) rfl rfl (g_X4_add l D b N V_22 hN j_22.1 x hx 124 0 (by decide)) rfl (Nat.le_of_ble_eq_true rfl) ⟨Nat.le_of_ble_eq_true rfl, Nat.le_of_ble_eq_true rfl, Nat.le_of_ble_eq_true rfl, Nat.le_of_ble_eq_true rfl⟩ (fun r_27 N_28 V_25 q_29 => ?_)
          obtain ⟨rfl, q_23⟩ := q_29
          have j_24 := JW.trans j_22 (JW.weak q_23 (Sub.cons (LMs LM0) (by omega) (by omega) (by decide) (Or.inl rfl) (Sub.cons (LMs (LMs LM0)) (by omega) (by omega) (by decide) (Or.inl rfl) (Sub.cons (LMs (LMs (LMs LM0))) (by omega) (by omega) (by decide) (Or.inr ⟨by decide, by decide⟩) Sub.nil))))
          refine aw_istore_n (ls' := [some (.ref (b + p)), some (.int 3), some (.int r_27)]) dX5_readAnyOf_62 (Nat.le_of_ble_eq_true rfl) rfl ?_
          refine aw_aload_n dX5_readAnyOf_63 rfl ?_
          refine aw_iload_n dX5_readAnyOf_64 rfl ?_
          refine aw_callVi (J' := jX5_readAllOf) (As := [.int 3]) (st := []) dX5_readAnyOf_65 tb_505 ok_X5_readAllOf ⟨_, ((j_24.2.1 _ hp.1 hp.2).trans hR)⟩ (by omega) rfl rfl (g_X5_readAllOf_3 l D b N V_25 hN j_24.1 p x ⟨by omega, by omega⟩ hx ((j_24.2.1 _ hp.1 hp.2).trans hR) (a10 + 1) (⟨⟨_, _, _, ((JW.same q_23 (by decide) (fun k => (nfc (by omega) (nfc (by omega) (nfc (by omega) nf0))))).trans e_22)⟩, by omega⟩)) rfl (Nat.le_of_ble_eq_true rfl) ⟨Nat.le_of_ble_eq_true rfl, Nat.le_of_ble_eq_true rfl, Nat.le_of_ble_eq_true rfl, Nat.le_of_ble_eq_true rfl⟩ (fun r_38 N_39 V_34 q_40 => ?_)
          obtain ⟨⟨z_32, h_31⟩, rfl, q_30⟩ := q_40
          have j_33 := JW.trans j_24 (JW.weak q_30 (Sub.cons LM0 (by decide) (by decide) (by decide) (Or.inr ⟨by decide, by decide⟩) (Sub.cons (LMs LM0) (by omega) (by omega) (by decide) (Or.inl rfl) (Sub.cons (LMs (LMs LM0)) (by omega) (by omega) (by decide) (Or.inl rfl) (Sub.cons (LMs (LMs (LMs LM0))) (by omega) (by omega) (by decide) (Or.inr ⟨by decide, by decide⟩) (Sub.cons (LMs (LMs (LMs (LMs LM0)))) (by decide) (by decide) (by decide) (Or.inr ⟨by decide, by decide⟩) Sub.nil))))))
          obtain ⟨a_35, ha_36, ⟨ts_t_37, tn_t_37, tf_t_37, te_t_37⟩, hb_t_37⟩ := h_31
          refine aw_if_ne (tgt := 73) dX5_readAnyOf_68 (by decide) (fun c_41 => ?_) (fun c_41 => ?_)
          · skip
            refine aw_aload_n dX5_readAnyOf_73 rfl ?_
            refine aw_get dX5_readAnyOf_74 fl_X5_9 ((j_33.2.1 _ hp.1 hp.2).trans hR) (by omega) rfl ?_
            refine aw_iload_n dX5_readAnyOf_77 rfl ?_
            obtain ⟨s8_45, r8_45, h8_45, e_45, hs_45, hr_45⟩ := JW.get j_33 (ctl_0 hx)
            refine aw_callVv (J' := jX4_leadHere) (As := [.int r_27]) (st := []) dX5_readAnyOf_78 tb_521 ok_X4_leadHere ⟨_, e_45⟩ (by omega) rfl rfl (g_X4_leadHere l D b N V_34 hN j_33.1 x hx r_27) rfl (Nat.le_of_ble_eq_true rfl) ⟨Nat.le_of_ble_eq_true rfl, Nat.le_of_ble_eq_true rfl, Nat.le_of_ble_eq_true rfl, Nat.le_of_ble_eq_true rfl⟩ (fun  N_46 V_44 q_47 => ?_)
            obtain ⟨rfl, q_42⟩ := q_47
            have j_43 := JW.trans j_33 (JW.weak q_42 (Sub.cons (LMs (LMs LM0)) (by omega) (by omega) (by decide) (Or.inl rfl) Sub.nil))
            refine aw_goto (tgt := 10) dX5_readAnyOf_81 (by decide) ?_
            refine aw_le ?_ (mih_10_13 _ (by omega) a_35 V_44 rfl (j_43) (⟨⟨_, _, _, ((JW.same q_42 (by decide) (fun k => (nfc (by omega) nf0))).trans te_t_37)⟩, by omega⟩) (by omega))
            exact ⟨rfl, ⟨rfl, trivial⟩⟩
          · skip
            refine aw_iconst (v := 0) dX5_readAnyOf_71 (by decide) ?_
            refine aw_zreti dX5_readAnyOf_72 rfl (by first | exact Or.inl rfl | exact Or.inr rfl | assumption) (Nat.le_of_ble_eq_true rfl) (Nat.le_of_ble_eq_true rfl) ?_
            exact ⟨⟨(by first | exact Or.inl rfl | exact Or.inr rfl | assumption), ⟨a_35, by omega, ⟨⟨_, _, _, te_t_37⟩, by omega⟩⟩⟩, rfl, j_33⟩
    refine aw_le ?_ (ml_10_13 _ a_6 V_5 rfl (j_4) (⟨⟨_, _, _, te_t_8⟩, by omega⟩) (by omega))
    exact ⟨rfl, ⟨rfl, trivial⟩⟩
  · skip
    refine aw_iconst (v := 0) dX5_readAnyOf_8 (by decide) ?_
    refine aw_zreti dX5_readAnyOf_9 rfl (by first | exact Or.inl rfl | exact Or.inr rfl | assumption) (Nat.le_of_ble_eq_true rfl) (Nat.le_of_ble_eq_true rfl) ?_
    exact ⟨⟨(by first | exact Or.inl rfl | exact Or.inr rfl | assumption), ⟨a_6, by omega, ⟨⟨_, _, _, te_t_8⟩, by omega⟩⟩⟩, rfl, j_4⟩

set_option maxHeartbeats 4000000 in
set_option maxRecDepth 100000 in
theorem g_X5_open_2 (l : Launch) (D : va_G) (b : Nat) (N : Nat) (V : Wd) (hN : 100 ≤ N) (hW : CW D b V) (p x : Nat) (hp : 100 ≤ p ∧ p < N) (hx : x = 57 ∨ x = 65) (hR : V p = cO 5 [.ref (b + 1), .ref (b + x)]) (a : Nat) (hT : TA b a V) (hlt : a < 260) : MI l D b 1 jX5_open [.ref (b + p), .int 2] N V 0 0 (fun r N9 V9 => ((r = 0 ∨ r = 1) ∧ ((r = 1) ∧ ∃ a9, a ≤ a9 ∧ TA b a9 V9)) ∧ N = N9 ∧ JW D b N [(1, 1, 3, 3)] V V9) := by
  have hJ0 : JW D b N [(1, 1, 3, 3)] V V := JW.rf hW
  obtain ⟨⟨ts_0, tn_0, tf_0, te_0⟩, ha_0⟩ := id hT
  refine mw_of (by decide) (by simp [Value.category]) (Nat.le_of_ble_eq_true rfl) ?_
  show AW l D b jX5_open (fx_rm 1 0 0) none (fx_MQ D b 0 0 (fx_qi (fun r N9 V9 => ((r = 0 ∨ r = 1) ∧ ((r = 1) ∧ ∃ a9, a ≤ a9 ∧ TA b a9 V9)) ∧ N = N9 ∧ JW D b N [(1, 1, 3, 3)] V V9))) 0 [some (.ref (b + p)), some (.int 2)] [] N V 0 0
  refine aw_iload_n dX5_open_0 rfl ?_
  refine aw_bipush (v := 6) dX5_open_1 (by decide) ?_
  refine aw_icmp_lt (tgt := 22) dX5_open_3 (by decide) (fun c_1 => ?_) (fun c_1 => ?_)
  rotate_left
  · exact absurd (by decide) c_1
  refine aw_aload_n dX5_open_22 rfl ?_
  refine aw_get dX5_open_23 fl_X5_15 ((hJ0.2.1 _ hp.1 hp.2).trans hR) (by omega) rfl ?_
  refine aw_dup dX5_open_26 rfl ?_
  refine aw_get dX5_open_27 fl_X5_25 te_0 (by omega) rfl ?_
  refine aw_iconst (v := 1) dX5_open_30 (by decide) ?_
  refine aw_iadd dX5_open_31 ?_
  refine aw_eqi (y := nI (a + 1)) (nI_add _ _) ?_
  refine aw_put dX5_open_32 fp_X5_25 te_0 (by omega) rfl rfl (Nat.le_of_ble_eq_true rfl) rfl ?_
  refine aw_up hJ0 ct_1 ⟨_, _, _, (a + 1), rfl, (by first | omega | (split <;> omega))⟩ (WO (s := 3) (x := .int (nI (a + 1))) te_0 rfl LM0 (by decide) (by decide) (by decide) (Or.inl (by decide))) (fun V_2 j_2 k_2 e_2 => ?_)
  refine aw_iconst (v := 1) dX5_open_35 (by decide) ?_
  refine aw_zreti dX5_open_36 rfl (by first | exact Or.inl rfl | exact Or.inr rfl | assumption) (Nat.le_of_ble_eq_true rfl) (Nat.le_of_ble_eq_true rfl) ?_
  exact ⟨⟨(by first | exact Or.inl rfl | exact Or.inr rfl | assumption), ⟨rfl, ⟨(a + 1), by omega, ⟨⟨_, _, _, e_2⟩, by omega⟩⟩⟩⟩, rfl, j_2⟩

set_option maxHeartbeats 4000000 in
set_option maxRecDepth 100000 in
theorem g_X5_readFactor_2 (l : Launch) (D : va_G) (b : Nat) (N : Nat) (V : Wd) (hN : 100 ≤ N) (hW : CW D b V) (p x : Nat) (hp : 100 ≤ p ∧ p < N) (hx : x = 57 ∨ x = 65) (hR : V p = cO 5 [.ref (b + 1), .ref (b + x)]) (a : Nat) (hT : TA b a V) : MI l D b 17 jX5_readFactor [.ref (b + p), .int 2] N V 0 0 (fun r N9 V9 => ((r = 0 ∨ r = 1) ∧ (∃ a9, a ≤ a9 ∧ TA b a9 V9)) ∧ N = N9 ∧ JW D b N [(1, 1, 3, 3), (x + 1, x + 1, 0, 1000000), (x + 2, x + 2, 0, 1000000), (x, x, 2, 2), (1, 1, 4, 4)] V V9) := by
  have hJ0 : JW D b N [(1, 1, 3, 3), (x + 1, x + 1, 0, 1000000), (x + 2, x + 2, 0, 1000000), (x, x, 2, 2), (1, 1, 4, 4)] V V := JW.rf hW
  obtain ⟨⟨ts_0, tn_0, tf_0, te_0⟩, ha_0⟩ := id hT
  refine mw_of (by decide) (by simp [Value.category]) (Nat.le_of_ble_eq_true rfl) ?_
  show AW l D b jX5_readFactor (fx_rm 17 0 0) none (fx_MQ D b 0 0 (fx_qi (fun r N9 V9 => ((r = 0 ∨ r = 1) ∧ (∃ a9, a ≤ a9 ∧ TA b a9 V9)) ∧ N = N9 ∧ JW D b N [(1, 1, 3, 3), (x + 1, x + 1, 0, 1000000), (x + 2, x + 2, 0, 1000000), (x, x, 2, 2), (1, 1, 4, 4)] V V9))) 0 [some (.ref (b + p)), some (.int 2), none, none] [] N V 0 0
  refine aw_aload_n dX5_readFactor_0 rfl ?_
  refine aw_get dX5_readFactor_1 fl_X5_15 ((hJ0.2.1 _ hp.1 hp.2).trans hR) (by omega) rfl ?_
  refine aw_callVi (J' := jX10_now) (As := []) (st := []) dX5_readFactor_4 tb_390 ok_X10_now ⟨_, te_0⟩ (by omega) rfl rfl (g_X10_now l D b N V hN hJ0.1 a (⟨⟨_, _, _, te_0⟩, by omega⟩)) rfl (Nat.le_of_ble_eq_true rfl) ⟨Nat.le_of_ble_eq_true rfl, Nat.le_of_ble_eq_true rfl, Nat.le_of_ble_eq_true rfl, Nat.le_of_ble_eq_true rfl⟩ (fun r_3 N_4 V_5 q_6 => ?_)
  obtain ⟨h_2, rfl, rfl⟩ := q_6
  refine aw_istore_n (ls' := [some (.ref (b + p)), some (.int 2), some (.int r_3), none]) dX5_readFactor_7 (Nat.le_of_ble_eq_true rfl) rfl ?_
  refine aw_iload_n dX5_readFactor_8 rfl ?_
  refine aw_bipush (v := 91) dX5_readFactor_9 (by decide) ?_
  refine aw_icmp_ne (tgt := 50) dX5_readFactor_11 (by decide) (fun c_7 => ?_) (fun c_7 => ?_)
  · skip
    refine aw_iload_n dX5_readFactor_50 rfl ?_
    refine aw_callSi (J' := jX10_isDigit) (As := [.int r_3]) (st := []) dX5_readFactor_51 tb_413 ok_X10_isDigit rfl (g_X10_isDigit l D b N V hN hJ0.1 r_3) rfl (Nat.le_of_ble_eq_true rfl) ⟨Nat.le_of_ble_eq_true rfl, Nat.le_of_ble_eq_true rfl, Nat.le_of_ble_eq_true rfl, Nat.le_of_ble_eq_true rfl⟩ (fun r_11 N_12 V_13 q_14 => ?_)
    obtain ⟨⟨z_10, h_9⟩, rfl, rfl⟩ := q_14
    refine aw_if_eq (tgt := 85) dX5_readFactor_54 (by decide) (fun c_15 => ?_) (fun c_15 => ?_)
    · skip
      refine aw_iload_n dX5_readFactor_85 rfl ?_
      refine aw_if_ge (tgt := 93) dX5_readFactor_86 (by decide) (fun c_16 => ?_) (fun c_16 => ?_)
      · skip
        have hlc_16 := h_2.resolve_left (fun z => absurd c_16 (by rw [z]; decide))
        refine aw_strIdx rfl dX5_readFactor_93 dX5_readFactor_95 dX5_readFactor_96 dX5_readFactor_97 rfl rfl (Nat.le_of_ble_eq_true rfl) ⟨Nat.le_of_ble_eq_true rfl, Nat.le_of_ble_eq_true rfl, Nat.le_of_ble_eq_true rfl, Nat.le_of_ble_eq_true rfl⟩ (fun ixr => ?_)
        refine aw_istore_n (ls' := [some (.ref (b + p)), some (.int 2), some (.int r_3), some (.int ixr)]) dX5_readFactor_100 (Nat.le_of_ble_eq_true rfl) rfl ?_
        refine aw_iload_n dX5_readFactor_101 rfl ?_
        refine aw_if_ge (tgt := 113) dX5_readFactor_102 (by decide) (fun c_17 => ?_) (fun c_17 => ?_)
        · skip
          refine aw_aload_n dX5_readFactor_113 rfl ?_
          refine aw_get dX5_readFactor_114 fl_X5_15 ((hJ0.2.1 _ hp.1 hp.2).trans hR) (by omega) rfl ?_
          refine aw_dup dX5_readFactor_117 rfl ?_
          refine aw_get dX5_readFactor_118 fl_X5_25 te_0 (by omega) rfl ?_
          refine aw_iconst (v := 1) dX5_readFactor_121 (by decide) ?_
          refine aw_iadd dX5_readFactor_122 ?_
          refine aw_eqi (y := nI (a + 1)) (nI_add _ _) ?_
          refine aw_put dX5_readFactor_123 fp_X5_25 te_0 (by omega) rfl rfl (Nat.le_of_ble_eq_true rfl) rfl ?_
          refine aw_up hJ0 ct_1 ⟨_, _, _, (a + 1), rfl, (by first | omega | (split <;> omega))⟩ (WO (s := 3) (x := .int (nI (a + 1))) te_0 rfl LM0 (by decide) (by decide) (by decide) (Or.inl (by decide))) (fun V_18 j_18 k_18 e_18 => ?_)
          refine aw_aload_n dX5_readFactor_126 rfl ?_
          refine aw_get dX5_readFactor_127 fl_X5_9 ((j_18.2.1 _ hp.1 hp.2).trans hR) (by omega) rfl ?_
          refine aw_bipush (v := 64) dX5_readFactor_130 (by decide) ?_
          refine aw_iload_n dX5_readFactor_132 rfl ?_
          obtain ⟨s8_22, r8_22, h8_22, e_22, hs_22, hr_22⟩ := JW.get j_18 (ctl_0 hx)
          refine aw_callVi (J' := jX4_add) (As := [.int 64, .int ixr]) (st := []) dX5_readFactor_133 tb_415 ok_X4_add ⟨_, e_22⟩ (by omega) rfl rfl (g_X4_add l D b N V_18 hN j_18.1 x hx 64 ixr c_17) rfl (Nat.le_of_ble_eq_true rfl) ⟨Nat.le_of_ble_eq_true rfl, Nat.le_of_ble_eq_true rfl, Nat.le_of_ble_eq_true rfl, Nat.le_of_ble_eq_true rfl⟩ (fun r_23 N_24 V_21 q_25 => ?_)
          obtain ⟨rfl, q_19⟩ := q_25
          have j_20 := JW.trans j_18 (JW.weak q_19 (Sub.cons (LMs LM0) (by omega) (by omega) (by decide) (Or.inl rfl) (Sub.cons (LMs (LMs LM0)) (by omega) (by omega) (by decide) (Or.inl rfl) (Sub.cons (LMs (LMs (LMs LM0))) (by omega) (by omega) (by decide) (Or.inr ⟨by decide, by decide⟩) Sub.nil))))
          refine aw_pop dX5_readFactor_136 rfl ?_
          refine aw_iconst (v := 1) dX5_readFactor_137 (by decide) ?_
          refine aw_zreti dX5_readFactor_138 rfl (by first | exact Or.inl rfl | exact Or.inr rfl | assumption) (Nat.le_of_ble_eq_true rfl) (Nat.le_of_ble_eq_true rfl) ?_
          exact ⟨⟨(by first | exact Or.inl rfl | exact Or.inr rfl | assumption), ⟨(a + 1), by omega, ⟨⟨_, _, _, ((JW.same q_19 (by decide) (fun k => (nfc (by omega) (nfc (by omega) (nfc (by omega) nf0))))).trans e_18)⟩, by omega⟩⟩⟩, rfl, j_20⟩
        · skip
          refine aw_aload_n dX5_readFactor_105 rfl ?_
          refine aw_get dX5_readFactor_106 fl_X5_15 ((hJ0.2.1 _ hp.1 hp.2).trans hR) (by omega) rfl ?_
          refine aw_callVi (J' := jX10_cannotStand) (As := []) (st := []) dX5_readFactor_109 tb_493 ok_X10_cannotStand ⟨_, te_0⟩ (by omega) rfl rfl (g_X10_cannotStand l D b N V hN hJ0.1 a (⟨⟨_, _, _, te_0⟩, by omega⟩)) rfl (Nat.le_of_ble_eq_true rfl) ⟨Nat.le_of_ble_eq_true rfl, Nat.le_of_ble_eq_true rfl, Nat.le_of_ble_eq_true rfl, Nat.le_of_ble_eq_true rfl⟩ (fun r_35 N_36 V_30 q_37 => ?_)
          obtain ⟨⟨z_28, h_27⟩, rfl, q_26⟩ := q_37
          have j_29 := JW.trans hJ0 (JW.weak q_26 (Sub.cons (LMs (LMs (LMs (LMs LM0)))) (by decide) (by decide) (by decide) (Or.inr ⟨by decide, by decide⟩) Sub.nil))
          obtain ⟨h_34, a_31, ha_32, ⟨ts_t_33, tn_t_33, tf_t_33, te_t_33⟩, hb_t_33⟩ := h_27
          obtain rfl := h_34
          refine aw_zreti dX5_readFactor_112 rfl (by first | exact Or.inl rfl | exact Or.inr rfl | assumption) (Nat.le_of_ble_eq_true rfl) (Nat.le_of_ble_eq_true rfl) ?_
          exact ⟨⟨(by first | exact Or.inl rfl | exact Or.inr rfl | assumption), ⟨a_31, by omega, ⟨⟨_, _, _, te_t_33⟩, by omega⟩⟩⟩, rfl, j_29⟩
      · skip
        refine aw_iconst (v := (-1)) dX5_readFactor_89 (by decide) ?_
        refine aw_goto (tgt := 100) dX5_readFactor_90 (by decide) ?_
        refine aw_istore_n (ls' := [some (.ref (b + p)), some (.int 2), some (.int r_3), some (.int (-1))]) dX5_readFactor_100 (Nat.le_of_ble_eq_true rfl) rfl ?_
        refine aw_iload_n dX5_readFactor_101 rfl ?_
        refine aw_if_ge (tgt := 113) dX5_readFactor_102 (by decide) (fun c_38 => ?_) (fun c_38 => ?_)
        · exact absurd c_38 (by decide)
        refine aw_aload_n dX5_readFactor_105 rfl ?_
        refine aw_get dX5_readFactor_106 fl_X5_15 ((hJ0.2.1 _ hp.1 hp.2).trans hR) (by omega) rfl ?_
        refine aw_callVi (J' := jX10_cannotStand) (As := []) (st := []) dX5_readFactor_109 tb_493 ok_X10_cannotStand ⟨_, te_0⟩ (by omega) rfl rfl (g_X10_cannotStand l D b N V hN hJ0.1 a (⟨⟨_, _, _, te_0⟩, by omega⟩)) rfl (Nat.le_of_ble_eq_true rfl) ⟨Nat.le_of_ble_eq_true rfl, Nat.le_of_ble_eq_true rfl, Nat.le_of_ble_eq_true rfl, Nat.le_of_ble_eq_true rfl⟩ (fun r_48 N_49 V_43 q_50 => ?_)
        obtain ⟨⟨z_41, h_40⟩, rfl, q_39⟩ := q_50
        have j_42 := JW.trans hJ0 (JW.weak q_39 (Sub.cons (LMs (LMs (LMs (LMs LM0)))) (by decide) (by decide) (by decide) (Or.inr ⟨by decide, by decide⟩) Sub.nil))
        obtain ⟨h_47, a_44, ha_45, ⟨ts_t_46, tn_t_46, tf_t_46, te_t_46⟩, hb_t_46⟩ := h_40
        obtain rfl := h_47
        refine aw_zreti dX5_readFactor_112 rfl (by first | exact Or.inl rfl | exact Or.inr rfl | assumption) (Nat.le_of_ble_eq_true rfl) (Nat.le_of_ble_eq_true rfl) ?_
        exact ⟨⟨(by first | exact Or.inl rfl | exact Or.inr rfl | assumption), ⟨a_44, by omega, ⟨⟨_, _, _, te_t_46⟩, by omega⟩⟩⟩, rfl, j_42⟩
    · skip
      have h0c_15 := h_9.resolve_left c_15
      have hlc_15 := h_2.resolve_left (fun z => absurd h0c_15 (by rw [z]; decide))
      refine aw_aload_n dX5_readFactor_57 rfl ?_
      refine aw_get dX5_readFactor_58 fl_X5_15 ((hJ0.2.1 _ hp.1 hp.2).trans hR) (by omega) rfl ?_
      refine aw_iconst (v := 5) dX5_readFactor_61 (by decide) ?_
      refine aw_callVi (J' := jX10_readNumber) (As := [.int 5]) (st := []) dX5_readFactor_62 tb_414 ok_X10_readNumber ⟨_, te_0⟩ (by omega) rfl rfl (g_X10_readNumber l D b N V hN hJ0.1 5 a (⟨⟨_, _, _, te_0⟩, by omega⟩)) rfl (Nat.le_of_ble_eq_true rfl) ⟨Nat.le_of_ble_eq_true rfl, Nat.le_of_ble_eq_true rfl, Nat.le_of_ble_eq_true rfl, Nat.le_of_ble_eq_true rfl⟩ (fun r_58 N_59 V_54 q_60 => ?_)
      obtain ⟨h_52, rfl, q_51⟩ := q_60
      have j_53 := JW.trans hJ0 (JW.weak q_51 (Sub.cons LM0 (by decide) (by decide) (by decide) (Or.inr ⟨by decide, by decide⟩) (Sub.cons (LMs (LMs (LMs (LMs LM0)))) (by decide) (by decide) (by decide) (Or.inr ⟨by decide, by decide⟩) Sub.nil)))
      obtain ⟨a_55, ha_56, ⟨ts_t_57, tn_t_57, tf_t_57, te_t_57⟩, hb_t_57⟩ := h_52
      refine aw_istore_n (ls' := [some (.ref (b + p)), some (.int 2), some (.int r_3), some (.int r_58)]) dX5_readFactor_65 (Nat.le_of_ble_eq_true rfl) rfl ?_
      refine aw_iload_n dX5_readFactor_66 rfl ?_
      refine aw_if_ge (tgt := 72) dX5_readFactor_67 (by decide) (fun c_61 => ?_) (fun c_61 => ?_)
      · skip
        refine aw_aload_n dX5_readFactor_72 rfl ?_
        refine aw_get dX5_readFactor_73 fl_X5_9 ((j_53.2.1 _ hp.1 hp.2).trans hR) (by omega) rfl ?_
        refine aw_bipush (v := 35) dX5_readFactor_76 (by decide) ?_
        refine aw_iload_n dX5_readFactor_78 rfl ?_
        obtain ⟨s8_65, r8_65, h8_65, e_65, hs_65, hr_65⟩ := JW.get j_53 (ctl_0 hx)
        refine aw_callVi (J' := jX4_add) (As := [.int 35, .int r_58]) (st := []) dX5_readFactor_79 tb_415 ok_X4_add ⟨_, e_65⟩ (by omega) rfl rfl (g_X4_add l D b N V_54 hN j_53.1 x hx 35 r_58 c_61) rfl (Nat.le_of_ble_eq_true rfl) ⟨Nat.le_of_ble_eq_true rfl, Nat.le_of_ble_eq_true rfl, Nat.le_of_ble_eq_true rfl, Nat.le_of_ble_eq_true rfl⟩ (fun r_66 N_67 V_64 q_68 => ?_)
        obtain ⟨rfl, q_62⟩ := q_68
        have j_63 := JW.trans j_53 (JW.weak q_62 (Sub.cons (LMs LM0) (by omega) (by omega) (by decide) (Or.inl rfl) (Sub.cons (LMs (LMs LM0)) (by omega) (by omega) (by decide) (Or.inl rfl) (Sub.cons (LMs (LMs (LMs LM0))) (by omega) (by omega) (by decide) (Or.inr ⟨by decide, by decide⟩) Sub.nil))))
        refine aw_pop dX5_readFactor_82 rfl ?_
        refine aw_iconst (v := 1) dX5_readFactor_83 (by decide) ?_
        refine aw_zreti dX5_readFactor_84 rfl (by first | exact Or.inl rfl | exact Or.inr rfl | assumption) (Nat.le_of_ble_eq_true rfl) (Nat.le_of_ble_eq_true rfl) ?_
        exact ⟨⟨(by first | exact Or.inl rfl | exact Or.inr rfl | assumption), ⟨a_55, by omega, ⟨⟨_, _, _, ((JW.same q_62 (by decide) (fun k => (nfc (by omega) (nfc (by omega) (nfc (by omega) nf0))))).trans te_t_57)⟩, by omega⟩⟩⟩, rfl, j_63⟩
      · skip
        refine aw_iconst (v := 0) dX5_readFactor_70 (by decide) ?_
        refine aw_zreti dX5_readFactor_71 rfl (by first | exact Or.inl rfl | exact Or.inr rfl | assumption) (Nat.le_of_ble_eq_true rfl) (Nat.le_of_ble_eq_true rfl) ?_
        exact ⟨⟨(by first | exact Or.inl rfl | exact Or.inr rfl | assumption), ⟨a_55, by omega, ⟨⟨_, _, _, te_t_57⟩, by omega⟩⟩⟩, rfl, j_53⟩
  · skip
    have hlc_7 := h_2.resolve_left (by rw [c_7]; decide)
    refine aw_aload_n dX5_readFactor_14 rfl ?_
    refine aw_iload_n dX5_readFactor_15 rfl ?_
    refine aw_callVi (J' := jX5_open) (As := [.int 2]) (st := []) dX5_readFactor_16 tb_407 ok_X5_open ⟨_, ((hJ0.2.1 _ hp.1 hp.2).trans hR)⟩ (by omega) rfl rfl (g_X5_open_2 l D b N V hN hJ0.1 p x ⟨by omega, by omega⟩ hx ((hJ0.2.1 _ hp.1 hp.2).trans hR) a (⟨⟨_, _, _, te_0⟩, by omega⟩) (by omega)) rfl (Nat.le_of_ble_eq_true rfl) ⟨Nat.le_of_ble_eq_true rfl, Nat.le_of_ble_eq_true rfl, Nat.le_of_ble_eq_true rfl, Nat.le_of_ble_eq_true rfl⟩ (fun r_78 N_79 V_73 q_80 => ?_)
    obtain ⟨⟨z_71, h_70⟩, rfl, q_69⟩ := q_80
    have j_72 := JW.trans hJ0 (JW.weak q_69 (Sub.cons LM0 (by decide) (by decide) (by decide) (Or.inr ⟨by decide, by decide⟩) Sub.nil))
    obtain ⟨h_77, a_74, ha_75, ⟨ts_t_76, tn_t_76, tf_t_76, te_t_76⟩, hb_t_76⟩ := h_70
    obtain rfl := h_77
    refine aw_if_eq (tgt := 48) dX5_readFactor_19 (by decide) (fun c_81 => ?_) (fun c_81 => ?_)
    · exact absurd c_81 (by decide)
    refine aw_aload_n dX5_readFactor_22 rfl ?_
    refine aw_iload_n dX5_readFactor_23 rfl ?_
    refine aw_iconst (v := 1) dX5_readFactor_24 (by decide) ?_
    refine aw_iadd dX5_readFactor_25 ?_
    refine aw_eqi (y := 3) (by decide) ?_
    refine aw_callVi (J' := jX5_readSum) (As := [.int 3]) (st := []) dX5_readFactor_26 tb_395 ok_X5_readSum ⟨_, ((j_72.2.1 _ hp.1 hp.2).trans hR)⟩ (by omega) rfl rfl (g_X5_readSum_3 l D b N V_73 hN j_72.1 p x ⟨by omega, by omega⟩ hx ((j_72.2.1 _ hp.1 hp.2).trans hR) a_74 (⟨⟨_, _, _, te_t_76⟩, by omega⟩)) rfl (Nat.le_of_ble_eq_true rfl) ⟨Nat.le_of_ble_eq_true rfl, Nat.le_of_ble_eq_true rfl, Nat.le_of_ble_eq_true rfl, Nat.le_of_ble_eq_true rfl⟩ (fun r_90 N_91 V_86 q_92 => ?_)
    obtain ⟨⟨z_84, h_83⟩, rfl, q_82⟩ := q_92
    have j_85 := JW.trans j_72 (JW.weak q_82 (Sub.cons LM0 (by decide) (by decide) (by decide) (Or.inr ⟨by decide, by decide⟩) (Sub.cons (LMs LM0) (by omega) (by omega) (by decide) (Or.inl rfl) (Sub.cons (LMs (LMs LM0)) (by omega) (by omega) (by decide) (Or.inl rfl) (Sub.cons (LMs (LMs (LMs LM0))) (by omega) (by omega) (by decide) (Or.inr ⟨by decide, by decide⟩) (Sub.cons (LMs (LMs (LMs (LMs LM0)))) (by decide) (by decide) (by decide) (Or.inr ⟨by decide, by decide⟩) Sub.nil))))))
    obtain ⟨a_87, ha_88, ⟨ts_t_89, tn_t_89, tf_t_89, te_t_89⟩, hb_t_89⟩ := h_83
    refine aw_if_eq (tgt := 48) dX5_readFactor_29 (by decide) (fun c_93 => ?_) (fun c_93 => ?_)
    · skip
      refine aw_iconst (v := 0) dX5_readFactor_48 (by decide) ?_
      refine aw_zreti dX5_readFactor_49 rfl (by first | exact Or.inl rfl | exact Or.inr rfl | assumption) (Nat.le_of_ble_eq_true rfl) (Nat.le_of_ble_eq_true rfl) ?_
      exact ⟨⟨(by first | exact Or.inl rfl | exact Or.inr rfl | assumption), ⟨a_87, by omega, ⟨⟨_, _, _, te_t_89⟩, by omega⟩⟩⟩, rfl, j_85⟩
    · skip
      refine aw_aload_n dX5_readFactor_32 rfl ?_
      refine aw_get dX5_readFactor_33 fl_X5_15 ((j_85.2.1 _ hp.1 hp.2).trans hR) (by omega) rfl ?_
      refine aw_bipush (v := 93) dX5_readFactor_36 (by decide) ?_
      refine aw_callVi (J' := jX10_expect) (As := [.int 93]) (st := []) dX5_readFactor_38 tb_412 ok_X10_expect ⟨_, te_t_89⟩ (by omega) rfl rfl (g_X10_expect l D b N V_86 hN j_85.1 93 a_87 (⟨⟨_, _, _, te_t_89⟩, by omega⟩) (by decide)) rfl (Nat.le_of_ble_eq_true rfl) ⟨Nat.le_of_ble_eq_true rfl, Nat.le_of_ble_eq_true rfl, Nat.le_of_ble_eq_true rfl, Nat.le_of_ble_eq_true rfl⟩ (fun r_102 N_103 V_98 q_104 => ?_)
      obtain ⟨⟨z_96, h_95⟩, rfl, q_94⟩ := q_104
      have j_97 := JW.trans j_85 (JW.weak q_94 (Sub.cons LM0 (by decide) (by decide) (by decide) (Or.inr ⟨by decide, by decide⟩) (Sub.cons (LMs (LMs (LMs (LMs LM0)))) (by decide) (by decide) (by decide) (Or.inr ⟨by decide, by decide⟩) Sub.nil)))
      obtain ⟨a_99, ha_100, ⟨ts_t_101, tn_t_101, tf_t_101, te_t_101⟩, hb_t_101⟩ := h_95
      refine aw_if_eq (tgt := 48) dX5_readFactor_41 (by decide) (fun c_105 => ?_) (fun c_105 => ?_)
      · skip
        refine aw_iconst (v := 0) dX5_readFactor_48 (by decide) ?_
        refine aw_zreti dX5_readFactor_49 rfl (by first | exact Or.inl rfl | exact Or.inr rfl | assumption) (Nat.le_of_ble_eq_true rfl) (Nat.le_of_ble_eq_true rfl) ?_
        exact ⟨⟨(by first | exact Or.inl rfl | exact Or.inr rfl | assumption), ⟨a_99, by omega, ⟨⟨_, _, _, te_t_101⟩, by omega⟩⟩⟩, rfl, j_97⟩
      · skip
        refine aw_iconst (v := 1) dX5_readFactor_44 (by decide) ?_
        refine aw_goto (tgt := 49) dX5_readFactor_45 (by decide) ?_
        refine aw_zreti dX5_readFactor_49 rfl (by first | exact Or.inl rfl | exact Or.inr rfl | assumption) (Nat.le_of_ble_eq_true rfl) (Nat.le_of_ble_eq_true rfl) ?_
        exact ⟨⟨(by first | exact Or.inl rfl | exact Or.inr rfl | assumption), ⟨a_99, by omega, ⟨⟨_, _, _, te_t_101⟩, by omega⟩⟩⟩, rfl, j_97⟩

set_option maxHeartbeats 4000000 in
set_option maxRecDepth 100000 in
theorem g_X5_readProduct_2 (l : Launch) (D : va_G) (b : Nat) (N : Nat) (V : Wd) (hN : 100 ≤ N) (hW : CW D b V) (p x : Nat) (hp : 100 ≤ p ∧ p < N) (hx : x = 57 ∨ x = 65) (hR : V p = cO 5 [.ref (b + 1), .ref (b + x)]) (a : Nat) (hT : TA b a V) : MI l D b 18 jX5_readProduct [.ref (b + p), .int 2] N V 0 0 (fun r N9 V9 => ((r = 0 ∨ r = 1) ∧ (∃ a9, a ≤ a9 ∧ TA b a9 V9)) ∧ N = N9 ∧ JW D b N [(1, 1, 3, 3), (x + 1, x + 1, 0, 1000000), (x + 2, x + 2, 0, 1000000), (x, x, 2, 2), (1, 1, 4, 4)] V V9) := by
  have hJ0 : JW D b N [(1, 1, 3, 3), (x + 1, x + 1, 0, 1000000), (x + 2, x + 2, 0, 1000000), (x, x, 2, 2), (1, 1, 4, 4)] V V := JW.rf hW
  obtain ⟨⟨ts_0, tn_0, tf_0, te_0⟩, ha_0⟩ := id hT
  refine mw_of (by decide) (by simp [Value.category]) (Nat.le_of_ble_eq_true rfl) ?_
  show AW l D b jX5_readProduct (fx_rm 18 0 0) none (fx_MQ D b 0 0 (fx_qi (fun r N9 V9 => ((r = 0 ∨ r = 1) ∧ (∃ a9, a ≤ a9 ∧ TA b a9 V9)) ∧ N = N9 ∧ JW D b N [(1, 1, 3, 3), (x + 1, x + 1, 0, 1000000), (x + 2, x + 2, 0, 1000000), (x, x, 2, 2), (1, 1, 4, 4)] V V9))) 0 [some (.ref (b + p)), some (.int 2), none] [] N V 0 0
  refine aw_aload_n dX5_readProduct_0 rfl ?_
  refine aw_iload_n dX5_readProduct_1 rfl ?_
  refine aw_callVi (J' := jX5_readFactor) (As := [.int 2]) (st := []) dX5_readProduct_2 tb_403 ok_X5_readFactor ⟨_, ((hJ0.2.1 _ hp.1 hp.2).trans hR)⟩ (by omega) rfl rfl (g_X5_readFactor_2 l D b N V hN hJ0.1 p x ⟨by omega, by omega⟩ hx ((hJ0.2.1 _ hp.1 hp.2).trans hR) a (⟨⟨_, _, _, te_0⟩, by omega⟩)) rfl (Nat.le_of_ble_eq_true rfl) ⟨Nat.le_of_ble_eq_true rfl, Nat.le_of_ble_eq_true rfl, Nat.le_of_ble_eq_true rfl, Nat.le_of_ble_eq_true rfl⟩ (fun r_9 N_10 V_5 q_11 => ?_)
  obtain ⟨⟨z_3, h_2⟩, rfl, q_1⟩ := q_11
  have j_4 := JW.trans hJ0 (JW.weak q_1 (Sub.cons LM0 (by decide) (by decide) (by decide) (Or.inr ⟨by decide, by decide⟩) (Sub.cons (LMs LM0) (by omega) (by omega) (by decide) (Or.inl rfl) (Sub.cons (LMs (LMs LM0)) (by omega) (by omega) (by decide) (Or.inl rfl) (Sub.cons (LMs (LMs (LMs LM0))) (by omega) (by omega) (by decide) (Or.inr ⟨by decide, by decide⟩) (Sub.cons (LMs (LMs (LMs (LMs LM0)))) (by decide) (by decide) (by decide) (Or.inr ⟨by decide, by decide⟩) Sub.nil))))))
  obtain ⟨a_6, ha_7, ⟨ts_t_8, tn_t_8, tf_t_8, te_t_8⟩, hb_t_8⟩ := h_2
  refine aw_if_ne (tgt := 10) dX5_readProduct_5 (by decide) (fun c_12 => ?_) (fun c_12 => ?_)
  · skip
    have ml_10_13 : ∀ (m : Nat) (a10 : Nat) (V10 : Wd), m = 260 - a10 → (JW D b N [(1, 1, 3, 3), (x + 1, x + 1, 0, 1000000), (x + 2, x + 2, 0, 1000000), (x, x, 2, 2), (1, 1, 4, 4)] V V10) → (TA b a10 V10) → (a ≤ a10) → AW l D b jX5_readProduct (fx_rm 18 0 0) none (fx_MQ D b 0 0 (fx_qi (fun r N9 V9 => ((r = 0 ∨ r = 1) ∧ (∃ a9, a ≤ a9 ∧ TA b a9 V9)) ∧ N = N9 ∧ JW D b N [(1, 1, 3, 3), (x + 1, x + 1, 0, 1000000), (x + 2, x + 2, 0, 1000000), (x, x, 2, 2), (1, 1, 4, 4)] V V9))) 10 [some (.ref (b + p)), some (.int 2), none] [] N V10 0 0 := by
      intro m; refine Nat.strongRecOn m ?_
      intro m mih_10_13 a10 V10 hm10 i10_0 i10_1 i10_2
      obtain ⟨⟨ts_10, tn_10, tf_10, te_10⟩, hb_10⟩ := i10_1
      refine aw_aload_n dX5_readProduct_10 rfl ?_
      refine aw_get dX5_readProduct_11 fl_X5_15 ((i10_0.2.1 _ hp.1 hp.2).trans hR) (by omega) rfl ?_
      refine aw_get dX5_readProduct_14 fl_X5_25 te_10 (by omega) rfl ?_
      refine aw_aload_n dX5_readProduct_17 rfl ?_
      refine aw_get dX5_readProduct_18 fl_X5_15 ((i10_0.2.1 _ hp.1 hp.2).trans hR) (by omega) rfl ?_
      refine aw_get dX5_readProduct_21 fl_X5_59 te_10 (by omega) rfl ?_
      refine aw_icmp_ge (tgt := 84) dX5_readProduct_24 (by decide) (fun c_14 => ?_) (fun c_14 => ?_)
      · skip
        refine aw_iconst (v := 1) dX5_readProduct_84 (by decide) ?_
        refine aw_zreti dX5_readProduct_85 rfl (by first | exact Or.inl rfl | exact Or.inr rfl | assumption) (Nat.le_of_ble_eq_true rfl) (Nat.le_of_ble_eq_true rfl) ?_
        exact ⟨⟨(by first | exact Or.inl rfl | exact Or.inr rfl | assumption), ⟨a10, by omega, ⟨⟨_, _, _, te_10⟩, by omega⟩⟩⟩, rfl, i10_0⟩
      · skip
        refine aw_aload_n dX5_readProduct_27 rfl ?_
        refine aw_get dX5_readProduct_28 fl_X5_15 ((i10_0.2.1 _ hp.1 hp.2).trans hR) (by omega) rfl ?_
        refine aw_callVi (J' := jX10_now) (As := []) (st := []) dX5_readProduct_31 tb_390 ok_X10_now ⟨_, te_10⟩ (by omega) rfl rfl (g_X10_now l D b N V10 hN i10_0.1 a10 (⟨⟨_, _, _, te_10⟩, by omega⟩)) rfl (Nat.le_of_ble_eq_true rfl) ⟨Nat.le_of_ble_eq_true rfl, Nat.le_of_ble_eq_true rfl, Nat.le_of_ble_eq_true rfl, Nat.le_of_ble_eq_true rfl⟩ (fun r_17 N_18 V_19 q_20 => ?_)
        obtain ⟨h_16, rfl, rfl⟩ := q_20
        refine aw_callSi (J' := jX5_joinsFactors) (As := [.int r_17]) (st := []) dX5_readProduct_34 tb_494 ok_X5_joinsFactors rfl (g_X5_joinsFactors l D b N V10 hN i10_0.1 r_17) rfl (Nat.le_of_ble_eq_true rfl) ⟨Nat.le_of_ble_eq_true rfl, Nat.le_of_ble_eq_true rfl, Nat.le_of_ble_eq_true rfl, Nat.le_of_ble_eq_true rfl⟩ (fun r_24 N_25 V_26 q_27 => ?_)
        obtain ⟨⟨z_23, h_22⟩, rfl, rfl⟩ := q_27
        refine aw_if_eq (tgt := 84) dX5_readProduct_37 (by decide) (fun c_28 => ?_) (fun c_28 => ?_)
        · skip
          refine aw_iconst (v := 1) dX5_readProduct_84 (by decide) ?_
          refine aw_zreti dX5_readProduct_85 rfl (by first | exact Or.inl rfl | exact Or.inr rfl | assumption) (Nat.le_of_ble_eq_true rfl) (Nat.le_of_ble_eq_true rfl) ?_
          exact ⟨⟨(by first | exact Or.inl rfl | exact Or.inr rfl | assumption), ⟨a10, by omega, ⟨⟨_, _, _, te_10⟩, by omega⟩⟩⟩, rfl, i10_0⟩
        · skip
          have h0c_28 := h_22.resolve_left c_28
          have hlc_28 := h_16.resolve_left (fun z => absurd h0c_28 (by rw [z]; decide))
          refine aw_aload_n dX5_readProduct_40 rfl ?_
          refine aw_get dX5_readProduct_41 fl_X5_15 ((i10_0.2.1 _ hp.1 hp.2).trans hR) (by omega) rfl ?_
          refine aw_callVi (J' := jX10_now) (As := []) (st := []) dX5_readProduct_44 tb_390 ok_X10_now ⟨_, te_10⟩ (by omega) rfl rfl (g_X10_now l D b N V10 hN i10_0.1 a10 (⟨⟨_, _, _, te_10⟩, by omega⟩)) rfl (Nat.le_of_ble_eq_true rfl) ⟨Nat.le_of_ble_eq_true rfl, Nat.le_of_ble_eq_true rfl, Nat.le_of_ble_eq_true rfl, Nat.le_of_ble_eq_true rfl⟩ (fun r_31 N_32 V_33 q_34 => ?_)
          obtain ⟨h_30, rfl, rfl⟩ := q_34
          refine aw_istore_n (ls' := [some (.ref (b + p)), some (.int 2), some (.int r_31)]) dX5_readProduct_47 (Nat.le_of_ble_eq_true rfl) rfl ?_
          refine aw_aload_n dX5_readProduct_48 rfl ?_
          refine aw_get dX5_readProduct_49 fl_X5_15 ((i10_0.2.1 _ hp.1 hp.2).trans hR) (by omega) rfl ?_
          refine aw_dup dX5_readProduct_52 rfl ?_
          refine aw_get dX5_readProduct_53 fl_X5_25 te_10 (by omega) rfl ?_
          refine aw_iconst (v := 1) dX5_readProduct_56 (by decide) ?_
          refine aw_iadd dX5_readProduct_57 ?_
          refine aw_eqi (y := nI (a10 + 1)) (nI_add _ _) ?_
          refine aw_put dX5_readProduct_58 fp_X5_25 te_10 (by omega) rfl rfl (Nat.le_of_ble_eq_true rfl) rfl ?_
          refine aw_up i10_0 ct_1 ⟨_, _, _, (a10 + 1), rfl, (by first | omega | (split <;> omega))⟩ (WO (s := 3) (x := .int (nI (a10 + 1))) te_10 rfl LM0 (by decide) (by decide) (by decide) (Or.inl (by decide))) (fun V_35 j_35 k_35 e_35 => ?_)
          refine aw_aload_n dX5_readProduct_61 rfl ?_
          refine aw_iload_n dX5_readProduct_62 rfl ?_
          refine aw_callVi (J' := jX5_readFactor) (As := [.int 2]) (st := []) dX5_readProduct_63 tb_403 ok_X5_readFactor ⟨_, ((j_35.2.1 _ hp.1 hp.2).trans hR)⟩ (by omega) rfl rfl (g_X5_readFactor_2 l D b N V_35 hN j_35.1 p x ⟨by omega, by omega⟩ hx ((j_35.2.1 _ hp.1 hp.2).trans hR) (a10 + 1) (⟨⟨_, _, _, e_35⟩, by omega⟩)) rfl (Nat.le_of_ble_eq_true rfl) ⟨Nat.le_of_ble_eq_true rfl, Nat.le_of_ble_eq_true rfl, Nat.le_of_ble_eq_true rfl, Nat.le_of_ble_eq_true rfl⟩ (fun r_44 N_45 V_40 q_46 => ?_)
          obtain ⟨⟨z_38, h_37⟩, rfl, q_36⟩ := q_46
          have j_39 := JW.trans j_35 (JW.weak q_36 (Sub.cons LM0 (by decide) (by decide) (by decide) (Or.inr ⟨by decide, by decide⟩) (Sub.cons (LMs LM0) (by omega) (by omega) (by decide) (Or.inl rfl) (Sub.cons (LMs (LMs LM0)) (by omega) (by omega) (by decide) (Or.inl rfl) (Sub.cons (LMs (LMs (LMs LM0))) (by omega) (by omega) (by decide) (Or.inr ⟨by decide, by decide⟩) (Sub.cons (LMs (LMs (LMs (LMs LM0)))) (by decide) (by decide) (by decide) (Or.inr ⟨by decide, by decide⟩) Sub.nil))))))
          obtain ⟨a_41, ha_42, ⟨ts_t_43, tn_t_43, tf_t_43, te_t_43⟩, hb_t_43⟩ := h_37
          refine aw_if_ne (tgt := 71) dX5_readProduct_66 (by decide) (fun c_47 => ?_) (fun c_47 => ?_)
          · skip
            refine aw_aload_n dX5_readProduct_71 rfl ?_
            refine aw_get dX5_readProduct_72 fl_X5_9 ((j_39.2.1 _ hp.1 hp.2).trans hR) (by omega) rfl ?_
            refine aw_iload_n dX5_readProduct_75 rfl ?_
            refine aw_iconst (v := 0) dX5_readProduct_76 (by decide) ?_
            obtain ⟨s8_51, r8_51, h8_51, e_51, hs_51, hr_51⟩ := JW.get j_39 (ctl_0 hx)
            refine aw_callVi (J' := jX4_add) (As := [.int r_31, .int 0]) (st := []) dX5_readProduct_77 tb_415 ok_X4_add ⟨_, e_51⟩ (by omega) rfl rfl (g_X4_add l D b N V_40 hN j_39.1 x hx r_31 0 (by decide)) rfl (Nat.le_of_ble_eq_true rfl) ⟨Nat.le_of_ble_eq_true rfl, Nat.le_of_ble_eq_true rfl, Nat.le_of_ble_eq_true rfl, Nat.le_of_ble_eq_true rfl⟩ (fun r_52 N_53 V_50 q_54 => ?_)
            obtain ⟨rfl, q_48⟩ := q_54
            have j_49 := JW.trans j_39 (JW.weak q_48 (Sub.cons (LMs LM0) (by omega) (by omega) (by decide) (Or.inl rfl) (Sub.cons (LMs (LMs LM0)) (by omega) (by omega) (by decide) (Or.inl rfl) (Sub.cons (LMs (LMs (LMs LM0))) (by omega) (by omega) (by decide) (Or.inr ⟨by decide, by decide⟩) Sub.nil))))
            refine aw_pop dX5_readProduct_80 rfl ?_
            refine aw_goto (tgt := 10) dX5_readProduct_81 (by decide) ?_
            refine aw_le ?_ (mih_10_13 _ (by omega) a_41 V_50 rfl (j_49) (⟨⟨_, _, _, ((JW.same q_48 (by decide) (fun k => (nfc (by omega) (nfc (by omega) (nfc (by omega) nf0))))).trans te_t_43)⟩, by omega⟩) (by omega))
            exact ⟨rfl, ⟨rfl, trivial⟩⟩
          · skip
            refine aw_iconst (v := 0) dX5_readProduct_69 (by decide) ?_
            refine aw_zreti dX5_readProduct_70 rfl (by first | exact Or.inl rfl | exact Or.inr rfl | assumption) (Nat.le_of_ble_eq_true rfl) (Nat.le_of_ble_eq_true rfl) ?_
            exact ⟨⟨(by first | exact Or.inl rfl | exact Or.inr rfl | assumption), ⟨a_41, by omega, ⟨⟨_, _, _, te_t_43⟩, by omega⟩⟩⟩, rfl, j_39⟩
    refine aw_le ?_ (ml_10_13 _ a_6 V_5 rfl (j_4) (⟨⟨_, _, _, te_t_8⟩, by omega⟩) (by omega))
    exact ⟨rfl, ⟨rfl, trivial⟩⟩
  · skip
    refine aw_iconst (v := 0) dX5_readProduct_8 (by decide) ?_
    refine aw_zreti dX5_readProduct_9 rfl (by first | exact Or.inl rfl | exact Or.inr rfl | assumption) (Nat.le_of_ble_eq_true rfl) (Nat.le_of_ble_eq_true rfl) ?_
    exact ⟨⟨(by first | exact Or.inl rfl | exact Or.inr rfl | assumption), ⟨a_6, by omega, ⟨⟨_, _, _, te_t_8⟩, by omega⟩⟩⟩, rfl, j_4⟩

set_option maxHeartbeats 4000000 in
set_option maxRecDepth 100000 in
theorem g_X5_readSum_2 (l : Launch) (D : va_G) (b : Nat) (N : Nat) (V : Wd) (hN : 100 ≤ N) (hW : CW D b V) (p x : Nat) (hp : 100 ≤ p ∧ p < N) (hx : x = 57 ∨ x = 65) (hR : V p = cO 5 [.ref (b + 1), .ref (b + x)]) (a : Nat) (hT : TA b a V) : MI l D b 19 jX5_readSum [.ref (b + p), .int 2] N V 0 0 (fun r N9 V9 => ((r = 0 ∨ r = 1) ∧ (∃ a9, a ≤ a9 ∧ TA b a9 V9)) ∧ N = N9 ∧ JW D b N [(1, 1, 3, 3), (x + 1, x + 1, 0, 1000000), (x + 2, x + 2, 0, 1000000), (x, x, 2, 2), (1, 1, 4, 4)] V V9) := by
  have hJ0 : JW D b N [(1, 1, 3, 3), (x + 1, x + 1, 0, 1000000), (x + 2, x + 2, 0, 1000000), (x, x, 2, 2), (1, 1, 4, 4)] V V := JW.rf hW
  obtain ⟨⟨ts_0, tn_0, tf_0, te_0⟩, ha_0⟩ := id hT
  refine mw_of (by decide) (by simp [Value.category]) (Nat.le_of_ble_eq_true rfl) ?_
  show AW l D b jX5_readSum (fx_rm 19 0 0) none (fx_MQ D b 0 0 (fx_qi (fun r N9 V9 => ((r = 0 ∨ r = 1) ∧ (∃ a9, a ≤ a9 ∧ TA b a9 V9)) ∧ N = N9 ∧ JW D b N [(1, 1, 3, 3), (x + 1, x + 1, 0, 1000000), (x + 2, x + 2, 0, 1000000), (x, x, 2, 2), (1, 1, 4, 4)] V V9))) 0 [some (.ref (b + p)), some (.int 2), none] [] N V 0 0
  refine aw_aload_n dX5_readSum_0 rfl ?_
  refine aw_iload_n dX5_readSum_1 rfl ?_
  refine aw_callVi (J' := jX5_readProduct) (As := [.int 2]) (st := []) dX5_readSum_2 tb_399 ok_X5_readProduct ⟨_, ((hJ0.2.1 _ hp.1 hp.2).trans hR)⟩ (by omega) rfl rfl (g_X5_readProduct_2 l D b N V hN hJ0.1 p x ⟨by omega, by omega⟩ hx ((hJ0.2.1 _ hp.1 hp.2).trans hR) a (⟨⟨_, _, _, te_0⟩, by omega⟩)) rfl (Nat.le_of_ble_eq_true rfl) ⟨Nat.le_of_ble_eq_true rfl, Nat.le_of_ble_eq_true rfl, Nat.le_of_ble_eq_true rfl, Nat.le_of_ble_eq_true rfl⟩ (fun r_9 N_10 V_5 q_11 => ?_)
  obtain ⟨⟨z_3, h_2⟩, rfl, q_1⟩ := q_11
  have j_4 := JW.trans hJ0 (JW.weak q_1 (Sub.cons LM0 (by decide) (by decide) (by decide) (Or.inr ⟨by decide, by decide⟩) (Sub.cons (LMs LM0) (by omega) (by omega) (by decide) (Or.inl rfl) (Sub.cons (LMs (LMs LM0)) (by omega) (by omega) (by decide) (Or.inl rfl) (Sub.cons (LMs (LMs (LMs LM0))) (by omega) (by omega) (by decide) (Or.inr ⟨by decide, by decide⟩) (Sub.cons (LMs (LMs (LMs (LMs LM0)))) (by decide) (by decide) (by decide) (Or.inr ⟨by decide, by decide⟩) Sub.nil))))))
  obtain ⟨a_6, ha_7, ⟨ts_t_8, tn_t_8, tf_t_8, te_t_8⟩, hb_t_8⟩ := h_2
  refine aw_if_ne (tgt := 10) dX5_readSum_5 (by decide) (fun c_12 => ?_) (fun c_12 => ?_)
  · skip
    have ml_10_13 : ∀ (m : Nat) (a10 : Nat) (V10 : Wd), m = 260 - a10 → (JW D b N [(1, 1, 3, 3), (x + 1, x + 1, 0, 1000000), (x + 2, x + 2, 0, 1000000), (x, x, 2, 2), (1, 1, 4, 4)] V V10) → (TA b a10 V10) → (a ≤ a10) → AW l D b jX5_readSum (fx_rm 19 0 0) none (fx_MQ D b 0 0 (fx_qi (fun r N9 V9 => ((r = 0 ∨ r = 1) ∧ (∃ a9, a ≤ a9 ∧ TA b a9 V9)) ∧ N = N9 ∧ JW D b N [(1, 1, 3, 3), (x + 1, x + 1, 0, 1000000), (x + 2, x + 2, 0, 1000000), (x, x, 2, 2), (1, 1, 4, 4)] V V9))) 10 [some (.ref (b + p)), some (.int 2), none] [] N V10 0 0 := by
      intro m; refine Nat.strongRecOn m ?_
      intro m mih_10_13 a10 V10 hm10 i10_0 i10_1 i10_2
      obtain ⟨⟨ts_10, tn_10, tf_10, te_10⟩, hb_10⟩ := i10_1
      refine aw_aload_n dX5_readSum_10 rfl ?_
      refine aw_get dX5_readSum_11 fl_X5_15 ((i10_0.2.1 _ hp.1 hp.2).trans hR) (by omega) rfl ?_
      refine aw_get dX5_readSum_14 fl_X5_25 te_10 (by omega) rfl ?_
      refine aw_aload_n dX5_readSum_17 rfl ?_
      refine aw_get dX5_readSum_18 fl_X5_15 ((i10_0.2.1 _ hp.1 hp.2).trans hR) (by omega) rfl ?_
      refine aw_get dX5_readSum_21 fl_X5_59 te_10 (by omega) rfl ?_
      refine aw_icmp_ge (tgt := 95) dX5_readSum_24 (by decide) (fun c_14 => ?_) (fun c_14 => ?_)
      · skip
        refine aw_iconst (v := 1) dX5_readSum_95 (by decide) ?_
        refine aw_zreti dX5_readSum_96 rfl (by first | exact Or.inl rfl | exact Or.inr rfl | assumption) (Nat.le_of_ble_eq_true rfl) (Nat.le_of_ble_eq_true rfl) ?_
        exact ⟨⟨(by first | exact Or.inl rfl | exact Or.inr rfl | assumption), ⟨a10, by omega, ⟨⟨_, _, _, te_10⟩, by omega⟩⟩⟩, rfl, i10_0⟩
      · skip
        refine aw_aload_n dX5_readSum_27 rfl ?_
        refine aw_get dX5_readSum_28 fl_X5_15 ((i10_0.2.1 _ hp.1 hp.2).trans hR) (by omega) rfl ?_
        refine aw_callVi (J' := jX10_now) (As := []) (st := []) dX5_readSum_31 tb_390 ok_X10_now ⟨_, te_10⟩ (by omega) rfl rfl (g_X10_now l D b N V10 hN i10_0.1 a10 (⟨⟨_, _, _, te_10⟩, by omega⟩)) rfl (Nat.le_of_ble_eq_true rfl) ⟨Nat.le_of_ble_eq_true rfl, Nat.le_of_ble_eq_true rfl, Nat.le_of_ble_eq_true rfl, Nat.le_of_ble_eq_true rfl⟩ (fun r_17 N_18 V_19 q_20 => ?_)
        obtain ⟨h_16, rfl, rfl⟩ := q_20
        refine aw_bipush (v := 43) dX5_readSum_34 (by decide) ?_
        refine aw_icmp_eq (tgt := 51) dX5_readSum_36 (by decide) (fun c_21 => ?_) (fun c_21 => ?_)
        · skip
          have hlc_21 := h_16.resolve_left (by rw [c_21]; decide)
          refine aw_aload_n dX5_readSum_51 rfl ?_
          refine aw_get dX5_readSum_52 fl_X5_15 ((i10_0.2.1 _ hp.1 hp.2).trans hR) (by omega) rfl ?_
          refine aw_callVi (J' := jX10_now) (As := []) (st := []) dX5_readSum_55 tb_390 ok_X10_now ⟨_, te_10⟩ (by omega) rfl rfl (g_X10_now l D b N V10 hN i10_0.1 a10 (⟨⟨_, _, _, te_10⟩, by omega⟩)) rfl (Nat.le_of_ble_eq_true rfl) ⟨Nat.le_of_ble_eq_true rfl, Nat.le_of_ble_eq_true rfl, Nat.le_of_ble_eq_true rfl, Nat.le_of_ble_eq_true rfl⟩ (fun r_24 N_25 V_26 q_27 => ?_)
          obtain ⟨h_23, rfl, rfl⟩ := q_27
          refine aw_istore_n (ls' := [some (.ref (b + p)), some (.int 2), some (.int r_24)]) dX5_readSum_58 (Nat.le_of_ble_eq_true rfl) rfl ?_
          refine aw_aload_n dX5_readSum_59 rfl ?_
          refine aw_get dX5_readSum_60 fl_X5_15 ((i10_0.2.1 _ hp.1 hp.2).trans hR) (by omega) rfl ?_
          refine aw_dup dX5_readSum_63 rfl ?_
          refine aw_get dX5_readSum_64 fl_X5_25 te_10 (by omega) rfl ?_
          refine aw_iconst (v := 1) dX5_readSum_67 (by decide) ?_
          refine aw_iadd dX5_readSum_68 ?_
          refine aw_eqi (y := nI (a10 + 1)) (nI_add _ _) ?_
          refine aw_put dX5_readSum_69 fp_X5_25 te_10 (by omega) rfl rfl (Nat.le_of_ble_eq_true rfl) rfl ?_
          refine aw_up i10_0 ct_1 ⟨_, _, _, (a10 + 1), rfl, (by first | omega | (split <;> omega))⟩ (WO (s := 3) (x := .int (nI (a10 + 1))) te_10 rfl LM0 (by decide) (by decide) (by decide) (Or.inl (by decide))) (fun V_28 j_28 k_28 e_28 => ?_)
          refine aw_aload_n dX5_readSum_72 rfl ?_
          refine aw_iload_n dX5_readSum_73 rfl ?_
          refine aw_callVi (J' := jX5_readProduct) (As := [.int 2]) (st := []) dX5_readSum_74 tb_399 ok_X5_readProduct ⟨_, ((j_28.2.1 _ hp.1 hp.2).trans hR)⟩ (by omega) rfl rfl (g_X5_readProduct_2 l D b N V_28 hN j_28.1 p x ⟨by omega, by omega⟩ hx ((j_28.2.1 _ hp.1 hp.2).trans hR) (a10 + 1) (⟨⟨_, _, _, e_28⟩, by omega⟩)) rfl (Nat.le_of_ble_eq_true rfl) ⟨Nat.le_of_ble_eq_true rfl, Nat.le_of_ble_eq_true rfl, Nat.le_of_ble_eq_true rfl, Nat.le_of_ble_eq_true rfl⟩ (fun r_37 N_38 V_33 q_39 => ?_)
          obtain ⟨⟨z_31, h_30⟩, rfl, q_29⟩ := q_39
          have j_32 := JW.trans j_28 (JW.weak q_29 (Sub.cons LM0 (by decide) (by decide) (by decide) (Or.inr ⟨by decide, by decide⟩) (Sub.cons (LMs LM0) (by omega) (by omega) (by decide) (Or.inl rfl) (Sub.cons (LMs (LMs LM0)) (by omega) (by omega) (by decide) (Or.inl rfl) (Sub.cons (LMs (LMs (LMs LM0))) (by omega) (by omega) (by decide) (Or.inr ⟨by decide, by decide⟩) (Sub.cons (LMs (LMs (LMs (LMs LM0)))) (by decide) (by decide) (by decide) (Or.inr ⟨by decide, by decide⟩) Sub.nil))))))
          obtain ⟨a_34, ha_35, ⟨ts_t_36, tn_t_36, tf_t_36, te_t_36⟩, hb_t_36⟩ := h_30
          refine aw_if_ne (tgt := 82) dX5_readSum_77 (by decide) (fun c_40 => ?_) (fun c_40 => ?_)
          · skip
            refine aw_aload_n dX5_readSum_82 rfl ?_
            refine aw_get dX5_readSum_83 fl_X5_9 ((j_32.2.1 _ hp.1 hp.2).trans hR) (by omega) rfl ?_
            refine aw_iload_n dX5_readSum_86 rfl ?_
            refine aw_iconst (v := 0) dX5_readSum_87 (by decide) ?_
            obtain ⟨s8_44, r8_44, h8_44, e_44, hs_44, hr_44⟩ := JW.get j_32 (ctl_0 hx)
            refine aw_callVi (J' := jX4_add) (As := [.int r_24, .int 0]) (st := []) dX5_readSum_88 tb_415 ok_X4_add ⟨_, e_44⟩ (by omega) rfl rfl (g_X4_add l D b N V_33 hN j_32.1 x hx r_24 0 (by decide)) rfl (Nat.le_of_ble_eq_true rfl) ⟨Nat.le_of_ble_eq_true rfl, Nat.le_of_ble_eq_true rfl, Nat.le_of_ble_eq_true rfl, Nat.le_of_ble_eq_true rfl⟩ (fun r_45 N_46 V_43 q_47 => ?_)
            obtain ⟨rfl, q_41⟩ := q_47
            have j_42 := JW.trans j_32 (JW.weak q_41 (Sub.cons (LMs LM0) (by omega) (by omega) (by decide) (Or.inl rfl) (Sub.cons (LMs (LMs LM0)) (by omega) (by omega) (by decide) (Or.inl rfl) (Sub.cons (LMs (LMs (LMs LM0))) (by omega) (by omega) (by decide) (Or.inr ⟨by decide, by decide⟩) Sub.nil))))
            refine aw_pop dX5_readSum_91 rfl ?_
            refine aw_goto (tgt := 10) dX5_readSum_92 (by decide) ?_
            refine aw_le ?_ (mih_10_13 _ (by omega) a_34 V_43 rfl (j_42) (⟨⟨_, _, _, ((JW.same q_41 (by decide) (fun k => (nfc (by omega) (nfc (by omega) (nfc (by omega) nf0))))).trans te_t_36)⟩, by omega⟩) (by omega))
            exact ⟨rfl, ⟨rfl, trivial⟩⟩
          · skip
            refine aw_iconst (v := 0) dX5_readSum_80 (by decide) ?_
            refine aw_zreti dX5_readSum_81 rfl (by first | exact Or.inl rfl | exact Or.inr rfl | assumption) (Nat.le_of_ble_eq_true rfl) (Nat.le_of_ble_eq_true rfl) ?_
            exact ⟨⟨(by first | exact Or.inl rfl | exact Or.inr rfl | assumption), ⟨a_34, by omega, ⟨⟨_, _, _, te_t_36⟩, by omega⟩⟩⟩, rfl, j_32⟩
        · skip
          refine aw_aload_n dX5_readSum_39 rfl ?_
          refine aw_get dX5_readSum_40 fl_X5_15 ((i10_0.2.1 _ hp.1 hp.2).trans hR) (by omega) rfl ?_
          refine aw_callVi (J' := jX10_now) (As := []) (st := []) dX5_readSum_43 tb_390 ok_X10_now ⟨_, te_10⟩ (by omega) rfl rfl (g_X10_now l D b N V10 hN i10_0.1 a10 (⟨⟨_, _, _, te_10⟩, by omega⟩)) rfl (Nat.le_of_ble_eq_true rfl) ⟨Nat.le_of_ble_eq_true rfl, Nat.le_of_ble_eq_true rfl, Nat.le_of_ble_eq_true rfl, Nat.le_of_ble_eq_true rfl⟩ (fun r_50 N_51 V_52 q_53 => ?_)
          obtain ⟨h_49, rfl, rfl⟩ := q_53
          refine aw_bipush (v := 45) dX5_readSum_46 (by decide) ?_
          refine aw_icmp_ne (tgt := 95) dX5_readSum_48 (by decide) (fun c_54 => ?_) (fun c_54 => ?_)
          · skip
            refine aw_iconst (v := 1) dX5_readSum_95 (by decide) ?_
            refine aw_zreti dX5_readSum_96 rfl (by first | exact Or.inl rfl | exact Or.inr rfl | assumption) (Nat.le_of_ble_eq_true rfl) (Nat.le_of_ble_eq_true rfl) ?_
            exact ⟨⟨(by first | exact Or.inl rfl | exact Or.inr rfl | assumption), ⟨a10, by omega, ⟨⟨_, _, _, te_10⟩, by omega⟩⟩⟩, rfl, i10_0⟩
          · skip
            have hlc_54 := h_49.resolve_left (by rw [c_54]; decide)
            refine aw_aload_n dX5_readSum_51 rfl ?_
            refine aw_get dX5_readSum_52 fl_X5_15 ((i10_0.2.1 _ hp.1 hp.2).trans hR) (by omega) rfl ?_
            refine aw_callVi (J' := jX10_now) (As := []) (st := []) dX5_readSum_55 tb_390 ok_X10_now ⟨_, te_10⟩ (by omega) rfl rfl (g_X10_now l D b N V10 hN i10_0.1 a10 (⟨⟨_, _, _, te_10⟩, by omega⟩)) rfl (Nat.le_of_ble_eq_true rfl) ⟨Nat.le_of_ble_eq_true rfl, Nat.le_of_ble_eq_true rfl, Nat.le_of_ble_eq_true rfl, Nat.le_of_ble_eq_true rfl⟩ (fun r_57 N_58 V_59 q_60 => ?_)
            obtain ⟨h_56, rfl, rfl⟩ := q_60
            refine aw_istore_n (ls' := [some (.ref (b + p)), some (.int 2), some (.int r_57)]) dX5_readSum_58 (Nat.le_of_ble_eq_true rfl) rfl ?_
            refine aw_aload_n dX5_readSum_59 rfl ?_
            refine aw_get dX5_readSum_60 fl_X5_15 ((i10_0.2.1 _ hp.1 hp.2).trans hR) (by omega) rfl ?_
            refine aw_dup dX5_readSum_63 rfl ?_
            refine aw_get dX5_readSum_64 fl_X5_25 te_10 (by omega) rfl ?_
            refine aw_iconst (v := 1) dX5_readSum_67 (by decide) ?_
            refine aw_iadd dX5_readSum_68 ?_
            refine aw_eqi (y := nI (a10 + 1)) (nI_add _ _) ?_
            refine aw_put dX5_readSum_69 fp_X5_25 te_10 (by omega) rfl rfl (Nat.le_of_ble_eq_true rfl) rfl ?_
            refine aw_up i10_0 ct_1 ⟨_, _, _, (a10 + 1), rfl, (by first | omega | (split <;> omega))⟩ (WO (s := 3) (x := .int (nI (a10 + 1))) te_10 rfl LM0 (by decide) (by decide) (by decide) (Or.inl (by decide))) (fun V_61 j_61 k_61 e_61 => ?_)
            refine aw_aload_n dX5_readSum_72 rfl ?_
            refine aw_iload_n dX5_readSum_73 rfl ?_
            refine aw_callVi (J' := jX5_readProduct) (As := [.int 2]) (st := []) dX5_readSum_74 tb_399 ok_X5_readProduct ⟨_, ((j_61.2.1 _ hp.1 hp.2).trans hR)⟩ (by omega) rfl rfl (g_X5_readProduct_2 l D b N V_61 hN j_61.1 p x ⟨by omega, by omega⟩ hx ((j_61.2.1 _ hp.1 hp.2).trans hR) (a10 + 1) (⟨⟨_, _, _, e_61⟩, by omega⟩)) rfl (Nat.le_of_ble_eq_true rfl) ⟨Nat.le_of_ble_eq_true rfl, Nat.le_of_ble_eq_true rfl, Nat.le_of_ble_eq_true rfl, Nat.le_of_ble_eq_true rfl⟩ (fun r_70 N_71 V_66 q_72 => ?_)
            obtain ⟨⟨z_64, h_63⟩, rfl, q_62⟩ := q_72
            have j_65 := JW.trans j_61 (JW.weak q_62 (Sub.cons LM0 (by decide) (by decide) (by decide) (Or.inr ⟨by decide, by decide⟩) (Sub.cons (LMs LM0) (by omega) (by omega) (by decide) (Or.inl rfl) (Sub.cons (LMs (LMs LM0)) (by omega) (by omega) (by decide) (Or.inl rfl) (Sub.cons (LMs (LMs (LMs LM0))) (by omega) (by omega) (by decide) (Or.inr ⟨by decide, by decide⟩) (Sub.cons (LMs (LMs (LMs (LMs LM0)))) (by decide) (by decide) (by decide) (Or.inr ⟨by decide, by decide⟩) Sub.nil))))))
            obtain ⟨a_67, ha_68, ⟨ts_t_69, tn_t_69, tf_t_69, te_t_69⟩, hb_t_69⟩ := h_63
            refine aw_if_ne (tgt := 82) dX5_readSum_77 (by decide) (fun c_73 => ?_) (fun c_73 => ?_)
            · skip
              refine aw_aload_n dX5_readSum_82 rfl ?_
              refine aw_get dX5_readSum_83 fl_X5_9 ((j_65.2.1 _ hp.1 hp.2).trans hR) (by omega) rfl ?_
              refine aw_iload_n dX5_readSum_86 rfl ?_
              refine aw_iconst (v := 0) dX5_readSum_87 (by decide) ?_
              obtain ⟨s8_77, r8_77, h8_77, e_77, hs_77, hr_77⟩ := JW.get j_65 (ctl_0 hx)
              refine aw_callVi (J' := jX4_add) (As := [.int r_57, .int 0]) (st := []) dX5_readSum_88 tb_415 ok_X4_add ⟨_, e_77⟩ (by omega) rfl rfl (g_X4_add l D b N V_66 hN j_65.1 x hx r_57 0 (by decide)) rfl (Nat.le_of_ble_eq_true rfl) ⟨Nat.le_of_ble_eq_true rfl, Nat.le_of_ble_eq_true rfl, Nat.le_of_ble_eq_true rfl, Nat.le_of_ble_eq_true rfl⟩ (fun r_78 N_79 V_76 q_80 => ?_)
              obtain ⟨rfl, q_74⟩ := q_80
              have j_75 := JW.trans j_65 (JW.weak q_74 (Sub.cons (LMs LM0) (by omega) (by omega) (by decide) (Or.inl rfl) (Sub.cons (LMs (LMs LM0)) (by omega) (by omega) (by decide) (Or.inl rfl) (Sub.cons (LMs (LMs (LMs LM0))) (by omega) (by omega) (by decide) (Or.inr ⟨by decide, by decide⟩) Sub.nil))))
              refine aw_pop dX5_readSum_91 rfl ?_
              refine aw_goto (tgt := 10) dX5_readSum_92 (by decide) ?_
              refine aw_le ?_ (mih_10_13 _ (by omega) a_67 V_76 rfl (j_75) (⟨⟨_, _, _, ((JW.same q_74 (by decide) (fun k => (nfc (by omega) (nfc (by omega) (nfc (by omega) nf0))))).trans te_t_69)⟩, by omega⟩) (by omega))
              exact ⟨rfl, ⟨rfl, trivial⟩⟩
            · skip
              refine aw_iconst (v := 0) dX5_readSum_80 (by decide) ?_
              refine aw_zreti dX5_readSum_81 rfl (by first | exact Or.inl rfl | exact Or.inr rfl | assumption) (Nat.le_of_ble_eq_true rfl) (Nat.le_of_ble_eq_true rfl) ?_
              exact ⟨⟨(by first | exact Or.inl rfl | exact Or.inr rfl | assumption), ⟨a_67, by omega, ⟨⟨_, _, _, te_t_69⟩, by omega⟩⟩⟩, rfl, j_65⟩
    refine aw_le ?_ (ml_10_13 _ a_6 V_5 rfl (j_4) (⟨⟨_, _, _, te_t_8⟩, by omega⟩) (by omega))
    exact ⟨rfl, ⟨rfl, trivial⟩⟩
  · skip
    refine aw_iconst (v := 0) dX5_readSum_8 (by decide) ?_
    refine aw_zreti dX5_readSum_9 rfl (by first | exact Or.inl rfl | exact Or.inr rfl | assumption) (Nat.le_of_ble_eq_true rfl) (Nat.le_of_ble_eq_true rfl) ?_
    exact ⟨⟨(by first | exact Or.inl rfl | exact Or.inr rfl | assumption), ⟨a_6, by omega, ⟨⟨_, _, _, te_t_8⟩, by omega⟩⟩⟩, rfl, j_4⟩

set_option maxHeartbeats 4000000 in
set_option maxRecDepth 100000 in
theorem g_X5_readComparison_2 (l : Launch) (D : va_G) (b : Nat) (N : Nat) (V : Wd) (hN : 100 ≤ N) (hW : CW D b V) (p x : Nat) (hp : 100 ≤ p ∧ p < N) (hx : x = 57 ∨ x = 65) (hR : V p = cO 5 [.ref (b + 1), .ref (b + x)]) (a : Nat) (hT : TA b a V) : MI l D b 20 jX5_readComparison [.ref (b + p), .int 2] N V 0 0 (fun r N9 V9 => ((r = 0 ∨ r = 1) ∧ (∃ a9, a ≤ a9 ∧ TA b a9 V9)) ∧ N = N9 ∧ JW D b N [(1, 1, 3, 3), (x + 1, x + 1, 0, 1000000), (x + 2, x + 2, 0, 1000000), (x, x, 2, 2), (1, 1, 4, 4)] V V9) := by
  have hJ0 : JW D b N [(1, 1, 3, 3), (x + 1, x + 1, 0, 1000000), (x + 2, x + 2, 0, 1000000), (x, x, 2, 2), (1, 1, 4, 4)] V V := JW.rf hW
  obtain ⟨⟨ts_0, tn_0, tf_0, te_0⟩, ha_0⟩ := id hT
  refine mw_of (by decide) (by simp [Value.category]) (Nat.le_of_ble_eq_true rfl) ?_
  show AW l D b jX5_readComparison (fx_rm 20 0 0) none (fx_MQ D b 0 0 (fx_qi (fun r N9 V9 => ((r = 0 ∨ r = 1) ∧ (∃ a9, a ≤ a9 ∧ TA b a9 V9)) ∧ N = N9 ∧ JW D b N [(1, 1, 3, 3), (x + 1, x + 1, 0, 1000000), (x + 2, x + 2, 0, 1000000), (x, x, 2, 2), (1, 1, 4, 4)] V V9))) 0 [some (.ref (b + p)), some (.int 2), none] [] N V 0 0
  refine aw_aload_n dX5_readComparison_0 rfl ?_
  refine aw_iload_n dX5_readComparison_1 rfl ?_
  refine aw_callVi (J' := jX5_readSum) (As := [.int 2]) (st := []) dX5_readComparison_2 tb_395 ok_X5_readSum ⟨_, ((hJ0.2.1 _ hp.1 hp.2).trans hR)⟩ (by omega) rfl rfl (g_X5_readSum_2 l D b N V hN hJ0.1 p x ⟨by omega, by omega⟩ hx ((hJ0.2.1 _ hp.1 hp.2).trans hR) a (⟨⟨_, _, _, te_0⟩, by omega⟩)) rfl (Nat.le_of_ble_eq_true rfl) ⟨Nat.le_of_ble_eq_true rfl, Nat.le_of_ble_eq_true rfl, Nat.le_of_ble_eq_true rfl, Nat.le_of_ble_eq_true rfl⟩ (fun r_9 N_10 V_5 q_11 => ?_)
  obtain ⟨⟨z_3, h_2⟩, rfl, q_1⟩ := q_11
  have j_4 := JW.trans hJ0 (JW.weak q_1 (Sub.cons LM0 (by decide) (by decide) (by decide) (Or.inr ⟨by decide, by decide⟩) (Sub.cons (LMs LM0) (by omega) (by omega) (by decide) (Or.inl rfl) (Sub.cons (LMs (LMs LM0)) (by omega) (by omega) (by decide) (Or.inl rfl) (Sub.cons (LMs (LMs (LMs LM0))) (by omega) (by omega) (by decide) (Or.inr ⟨by decide, by decide⟩) (Sub.cons (LMs (LMs (LMs (LMs LM0)))) (by decide) (by decide) (by decide) (Or.inr ⟨by decide, by decide⟩) Sub.nil))))))
  obtain ⟨a_6, ha_7, ⟨ts_t_8, tn_t_8, tf_t_8, te_t_8⟩, hb_t_8⟩ := h_2
  refine aw_if_ne (tgt := 10) dX5_readComparison_5 (by decide) (fun c_12 => ?_) (fun c_12 => ?_)
  · skip
    refine aw_aload_n dX5_readComparison_10 rfl ?_
    refine aw_get dX5_readComparison_11 fl_X5_15 ((j_4.2.1 _ hp.1 hp.2).trans hR) (by omega) rfl ?_
    refine aw_callVi (J' := jX10_now) (As := []) (st := []) dX5_readComparison_14 tb_390 ok_X10_now ⟨_, te_t_8⟩ (by omega) rfl rfl (g_X10_now l D b N V_5 hN j_4.1 a_6 (⟨⟨_, _, _, te_t_8⟩, by omega⟩)) rfl (Nat.le_of_ble_eq_true rfl) ⟨Nat.le_of_ble_eq_true rfl, Nat.le_of_ble_eq_true rfl, Nat.le_of_ble_eq_true rfl, Nat.le_of_ble_eq_true rfl⟩ (fun r_15 N_16 V_17 q_18 => ?_)
    obtain ⟨h_14, rfl, rfl⟩ := q_18
    refine aw_istore_n (ls' := [some (.ref (b + p)), some (.int 2), some (.int r_15)]) dX5_readComparison_17 (Nat.le_of_ble_eq_true rfl) rfl ?_
    refine aw_iload_n dX5_readComparison_18 rfl ?_
    refine aw_bipush (v := 60) dX5_readComparison_19 (by decide) ?_
    refine aw_icmp_eq (tgt := 44) dX5_readComparison_21 (by decide) (fun c_19 => ?_) (fun c_19 => ?_)
    · skip
      have hlc_19 := h_14.resolve_left (by rw [c_19]; decide)
      refine aw_aload_n dX5_readComparison_44 rfl ?_
      refine aw_get dX5_readComparison_45 fl_X5_15 ((j_4.2.1 _ hp.1 hp.2).trans hR) (by omega) rfl ?_
      refine aw_dup dX5_readComparison_48 rfl ?_
      refine aw_get dX5_readComparison_49 fl_X5_25 te_t_8 (by omega) rfl ?_
      refine aw_iconst (v := 1) dX5_readComparison_52 (by decide) ?_
      refine aw_iadd dX5_readComparison_53 ?_
      refine aw_eqi (y := nI (a_6 + 1)) (nI_add _ _) ?_
      refine aw_put dX5_readComparison_54 fp_X5_25 te_t_8 (by omega) rfl rfl (Nat.le_of_ble_eq_true rfl) rfl ?_
      refine aw_up j_4 ct_1 ⟨_, _, _, (a_6 + 1), rfl, (by first | omega | (split <;> omega))⟩ (WO (s := 3) (x := .int (nI (a_6 + 1))) te_t_8 rfl LM0 (by decide) (by decide) (by decide) (Or.inl (by decide))) (fun V_20 j_20 k_20 e_20 => ?_)
      refine aw_aload_n dX5_readComparison_57 rfl ?_
      refine aw_iload_n dX5_readComparison_58 rfl ?_
      refine aw_callVi (J' := jX5_readSum) (As := [.int 2]) (st := []) dX5_readComparison_59 tb_395 ok_X5_readSum ⟨_, ((j_20.2.1 _ hp.1 hp.2).trans hR)⟩ (by omega) rfl rfl (g_X5_readSum_2 l D b N V_20 hN j_20.1 p x ⟨by omega, by omega⟩ hx ((j_20.2.1 _ hp.1 hp.2).trans hR) (a_6 + 1) (⟨⟨_, _, _, e_20⟩, by omega⟩)) rfl (Nat.le_of_ble_eq_true rfl) ⟨Nat.le_of_ble_eq_true rfl, Nat.le_of_ble_eq_true rfl, Nat.le_of_ble_eq_true rfl, Nat.le_of_ble_eq_true rfl⟩ (fun r_29 N_30 V_25 q_31 => ?_)
      obtain ⟨⟨z_23, h_22⟩, rfl, q_21⟩ := q_31
      have j_24 := JW.trans j_20 (JW.weak q_21 (Sub.cons LM0 (by decide) (by decide) (by decide) (Or.inr ⟨by decide, by decide⟩) (Sub.cons (LMs LM0) (by omega) (by omega) (by decide) (Or.inl rfl) (Sub.cons (LMs (LMs LM0)) (by omega) (by omega) (by decide) (Or.inl rfl) (Sub.cons (LMs (LMs (LMs LM0))) (by omega) (by omega) (by decide) (Or.inr ⟨by decide, by decide⟩) (Sub.cons (LMs (LMs (LMs (LMs LM0)))) (by decide) (by decide) (by decide) (Or.inr ⟨by decide, by decide⟩) Sub.nil))))))
      obtain ⟨a_26, ha_27, ⟨ts_t_28, tn_t_28, tf_t_28, te_t_28⟩, hb_t_28⟩ := h_22
      refine aw_if_ne (tgt := 67) dX5_readComparison_62 (by decide) (fun c_32 => ?_) (fun c_32 => ?_)
      · skip
        refine aw_aload_n dX5_readComparison_67 rfl ?_
        refine aw_get dX5_readComparison_68 fl_X5_9 ((j_24.2.1 _ hp.1 hp.2).trans hR) (by omega) rfl ?_
        refine aw_iload_n dX5_readComparison_71 rfl ?_
        refine aw_iconst (v := 0) dX5_readComparison_72 (by decide) ?_
        obtain ⟨s8_36, r8_36, h8_36, e_36, hs_36, hr_36⟩ := JW.get j_24 (ctl_0 hx)
        refine aw_callVi (J' := jX4_add) (As := [.int r_15, .int 0]) (st := []) dX5_readComparison_73 tb_415 ok_X4_add ⟨_, e_36⟩ (by omega) rfl rfl (g_X4_add l D b N V_25 hN j_24.1 x hx r_15 0 (by decide)) rfl (Nat.le_of_ble_eq_true rfl) ⟨Nat.le_of_ble_eq_true rfl, Nat.le_of_ble_eq_true rfl, Nat.le_of_ble_eq_true rfl, Nat.le_of_ble_eq_true rfl⟩ (fun r_37 N_38 V_35 q_39 => ?_)
        obtain ⟨rfl, q_33⟩ := q_39
        have j_34 := JW.trans j_24 (JW.weak q_33 (Sub.cons (LMs LM0) (by omega) (by omega) (by decide) (Or.inl rfl) (Sub.cons (LMs (LMs LM0)) (by omega) (by omega) (by decide) (Or.inl rfl) (Sub.cons (LMs (LMs (LMs LM0))) (by omega) (by omega) (by decide) (Or.inr ⟨by decide, by decide⟩) Sub.nil))))
        refine aw_pop dX5_readComparison_76 rfl ?_
        refine aw_iconst (v := 1) dX5_readComparison_77 (by decide) ?_
        refine aw_zreti dX5_readComparison_78 rfl (by first | exact Or.inl rfl | exact Or.inr rfl | assumption) (Nat.le_of_ble_eq_true rfl) (Nat.le_of_ble_eq_true rfl) ?_
        exact ⟨⟨(by first | exact Or.inl rfl | exact Or.inr rfl | assumption), ⟨a_26, by omega, ⟨⟨_, _, _, ((JW.same q_33 (by decide) (fun k => (nfc (by omega) (nfc (by omega) (nfc (by omega) nf0))))).trans te_t_28)⟩, by omega⟩⟩⟩, rfl, j_34⟩
      · skip
        refine aw_iconst (v := 0) dX5_readComparison_65 (by decide) ?_
        refine aw_zreti dX5_readComparison_66 rfl (by first | exact Or.inl rfl | exact Or.inr rfl | assumption) (Nat.le_of_ble_eq_true rfl) (Nat.le_of_ble_eq_true rfl) ?_
        exact ⟨⟨(by first | exact Or.inl rfl | exact Or.inr rfl | assumption), ⟨a_26, by omega, ⟨⟨_, _, _, te_t_28⟩, by omega⟩⟩⟩, rfl, j_24⟩
    · skip
      refine aw_iload_n dX5_readComparison_24 rfl ?_
      refine aw_bipush (v := 62) dX5_readComparison_25 (by decide) ?_
      refine aw_icmp_eq (tgt := 44) dX5_readComparison_27 (by decide) (fun c_40 => ?_) (fun c_40 => ?_)
      · skip
        have hlc_40 := h_14.resolve_left (by rw [c_40]; decide)
        refine aw_aload_n dX5_readComparison_44 rfl ?_
        refine aw_get dX5_readComparison_45 fl_X5_15 ((j_4.2.1 _ hp.1 hp.2).trans hR) (by omega) rfl ?_
        refine aw_dup dX5_readComparison_48 rfl ?_
        refine aw_get dX5_readComparison_49 fl_X5_25 te_t_8 (by omega) rfl ?_
        refine aw_iconst (v := 1) dX5_readComparison_52 (by decide) ?_
        refine aw_iadd dX5_readComparison_53 ?_
        refine aw_eqi (y := nI (a_6 + 1)) (nI_add _ _) ?_
        refine aw_put dX5_readComparison_54 fp_X5_25 te_t_8 (by omega) rfl rfl (Nat.le_of_ble_eq_true rfl) rfl ?_
        refine aw_up j_4 ct_1 ⟨_, _, _, (a_6 + 1), rfl, (by first | omega | (split <;> omega))⟩ (WO (s := 3) (x := .int (nI (a_6 + 1))) te_t_8 rfl LM0 (by decide) (by decide) (by decide) (Or.inl (by decide))) (fun V_41 j_41 k_41 e_41 => ?_)
        refine aw_aload_n dX5_readComparison_57 rfl ?_
        refine aw_iload_n dX5_readComparison_58 rfl ?_
        refine aw_callVi (J' := jX5_readSum) (As := [.int 2]) (st := []) dX5_readComparison_59 tb_395 ok_X5_readSum ⟨_, ((j_41.2.1 _ hp.1 hp.2).trans hR)⟩ (by omega) rfl rfl (g_X5_readSum_2 l D b N V_41 hN j_41.1 p x ⟨by omega, by omega⟩ hx ((j_41.2.1 _ hp.1 hp.2).trans hR) (a_6 + 1) (⟨⟨_, _, _, e_41⟩, by omega⟩)) rfl (Nat.le_of_ble_eq_true rfl) ⟨Nat.le_of_ble_eq_true rfl, Nat.le_of_ble_eq_true rfl, Nat.le_of_ble_eq_true rfl, Nat.le_of_ble_eq_true rfl⟩ (fun r_50 N_51 V_46 q_52 => ?_)
        obtain ⟨⟨z_44, h_43⟩, rfl, q_42⟩ := q_52
        have j_45 := JW.trans j_41 (JW.weak q_42 (Sub.cons LM0 (by decide) (by decide) (by decide) (Or.inr ⟨by decide, by decide⟩) (Sub.cons (LMs LM0) (by omega) (by omega) (by decide) (Or.inl rfl) (Sub.cons (LMs (LMs LM0)) (by omega) (by omega) (by decide) (Or.inl rfl) (Sub.cons (LMs (LMs (LMs LM0))) (by omega) (by omega) (by decide) (Or.inr ⟨by decide, by decide⟩) (Sub.cons (LMs (LMs (LMs (LMs LM0)))) (by decide) (by decide) (by decide) (Or.inr ⟨by decide, by decide⟩) Sub.nil))))))
        obtain ⟨a_47, ha_48, ⟨ts_t_49, tn_t_49, tf_t_49, te_t_49⟩, hb_t_49⟩ := h_43
        refine aw_if_ne (tgt := 67) dX5_readComparison_62 (by decide) (fun c_53 => ?_) (fun c_53 => ?_)
        · skip
          refine aw_aload_n dX5_readComparison_67 rfl ?_
          refine aw_get dX5_readComparison_68 fl_X5_9 ((j_45.2.1 _ hp.1 hp.2).trans hR) (by omega) rfl ?_
          refine aw_iload_n dX5_readComparison_71 rfl ?_
          refine aw_iconst (v := 0) dX5_readComparison_72 (by decide) ?_
          obtain ⟨s8_57, r8_57, h8_57, e_57, hs_57, hr_57⟩ := JW.get j_45 (ctl_0 hx)
          refine aw_callVi (J' := jX4_add) (As := [.int r_15, .int 0]) (st := []) dX5_readComparison_73 tb_415 ok_X4_add ⟨_, e_57⟩ (by omega) rfl rfl (g_X4_add l D b N V_46 hN j_45.1 x hx r_15 0 (by decide)) rfl (Nat.le_of_ble_eq_true rfl) ⟨Nat.le_of_ble_eq_true rfl, Nat.le_of_ble_eq_true rfl, Nat.le_of_ble_eq_true rfl, Nat.le_of_ble_eq_true rfl⟩ (fun r_58 N_59 V_56 q_60 => ?_)
          obtain ⟨rfl, q_54⟩ := q_60
          have j_55 := JW.trans j_45 (JW.weak q_54 (Sub.cons (LMs LM0) (by omega) (by omega) (by decide) (Or.inl rfl) (Sub.cons (LMs (LMs LM0)) (by omega) (by omega) (by decide) (Or.inl rfl) (Sub.cons (LMs (LMs (LMs LM0))) (by omega) (by omega) (by decide) (Or.inr ⟨by decide, by decide⟩) Sub.nil))))
          refine aw_pop dX5_readComparison_76 rfl ?_
          refine aw_iconst (v := 1) dX5_readComparison_77 (by decide) ?_
          refine aw_zreti dX5_readComparison_78 rfl (by first | exact Or.inl rfl | exact Or.inr rfl | assumption) (Nat.le_of_ble_eq_true rfl) (Nat.le_of_ble_eq_true rfl) ?_
          exact ⟨⟨(by first | exact Or.inl rfl | exact Or.inr rfl | assumption), ⟨a_47, by omega, ⟨⟨_, _, _, ((JW.same q_54 (by decide) (fun k => (nfc (by omega) (nfc (by omega) (nfc (by omega) nf0))))).trans te_t_49)⟩, by omega⟩⟩⟩, rfl, j_55⟩
        · skip
          refine aw_iconst (v := 0) dX5_readComparison_65 (by decide) ?_
          refine aw_zreti dX5_readComparison_66 rfl (by first | exact Or.inl rfl | exact Or.inr rfl | assumption) (Nat.le_of_ble_eq_true rfl) (Nat.le_of_ble_eq_true rfl) ?_
          exact ⟨⟨(by first | exact Or.inl rfl | exact Or.inr rfl | assumption), ⟨a_47, by omega, ⟨⟨_, _, _, te_t_49⟩, by omega⟩⟩⟩, rfl, j_45⟩
      · skip
        refine aw_iload_n dX5_readComparison_30 rfl ?_
        refine aw_bipush (v := 61) dX5_readComparison_31 (by decide) ?_
        refine aw_icmp_eq (tgt := 44) dX5_readComparison_33 (by decide) (fun c_61 => ?_) (fun c_61 => ?_)
        · skip
          have hlc_61 := h_14.resolve_left (by rw [c_61]; decide)
          refine aw_aload_n dX5_readComparison_44 rfl ?_
          refine aw_get dX5_readComparison_45 fl_X5_15 ((j_4.2.1 _ hp.1 hp.2).trans hR) (by omega) rfl ?_
          refine aw_dup dX5_readComparison_48 rfl ?_
          refine aw_get dX5_readComparison_49 fl_X5_25 te_t_8 (by omega) rfl ?_
          refine aw_iconst (v := 1) dX5_readComparison_52 (by decide) ?_
          refine aw_iadd dX5_readComparison_53 ?_
          refine aw_eqi (y := nI (a_6 + 1)) (nI_add _ _) ?_
          refine aw_put dX5_readComparison_54 fp_X5_25 te_t_8 (by omega) rfl rfl (Nat.le_of_ble_eq_true rfl) rfl ?_
          refine aw_up j_4 ct_1 ⟨_, _, _, (a_6 + 1), rfl, (by first | omega | (split <;> omega))⟩ (WO (s := 3) (x := .int (nI (a_6 + 1))) te_t_8 rfl LM0 (by decide) (by decide) (by decide) (Or.inl (by decide))) (fun V_62 j_62 k_62 e_62 => ?_)
          refine aw_aload_n dX5_readComparison_57 rfl ?_
          refine aw_iload_n dX5_readComparison_58 rfl ?_
          refine aw_callVi (J' := jX5_readSum) (As := [.int 2]) (st := []) dX5_readComparison_59 tb_395 ok_X5_readSum ⟨_, ((j_62.2.1 _ hp.1 hp.2).trans hR)⟩ (by omega) rfl rfl (g_X5_readSum_2 l D b N V_62 hN j_62.1 p x ⟨by omega, by omega⟩ hx ((j_62.2.1 _ hp.1 hp.2).trans hR) (a_6 + 1) (⟨⟨_, _, _, e_62⟩, by omega⟩)) rfl (Nat.le_of_ble_eq_true rfl) ⟨Nat.le_of_ble_eq_true rfl, Nat.le_of_ble_eq_true rfl, Nat.le_of_ble_eq_true rfl, Nat.le_of_ble_eq_true rfl⟩ (fun r_71 N_72 V_67 q_73 => ?_)
          obtain ⟨⟨z_65, h_64⟩, rfl, q_63⟩ := q_73
          have j_66 := JW.trans j_62 (JW.weak q_63 (Sub.cons LM0 (by decide) (by decide) (by decide) (Or.inr ⟨by decide, by decide⟩) (Sub.cons (LMs LM0) (by omega) (by omega) (by decide) (Or.inl rfl) (Sub.cons (LMs (LMs LM0)) (by omega) (by omega) (by decide) (Or.inl rfl) (Sub.cons (LMs (LMs (LMs LM0))) (by omega) (by omega) (by decide) (Or.inr ⟨by decide, by decide⟩) (Sub.cons (LMs (LMs (LMs (LMs LM0)))) (by decide) (by decide) (by decide) (Or.inr ⟨by decide, by decide⟩) Sub.nil))))))
          obtain ⟨a_68, ha_69, ⟨ts_t_70, tn_t_70, tf_t_70, te_t_70⟩, hb_t_70⟩ := h_64
          refine aw_if_ne (tgt := 67) dX5_readComparison_62 (by decide) (fun c_74 => ?_) (fun c_74 => ?_)
          · skip
            refine aw_aload_n dX5_readComparison_67 rfl ?_
            refine aw_get dX5_readComparison_68 fl_X5_9 ((j_66.2.1 _ hp.1 hp.2).trans hR) (by omega) rfl ?_
            refine aw_iload_n dX5_readComparison_71 rfl ?_
            refine aw_iconst (v := 0) dX5_readComparison_72 (by decide) ?_
            obtain ⟨s8_78, r8_78, h8_78, e_78, hs_78, hr_78⟩ := JW.get j_66 (ctl_0 hx)
            refine aw_callVi (J' := jX4_add) (As := [.int r_15, .int 0]) (st := []) dX5_readComparison_73 tb_415 ok_X4_add ⟨_, e_78⟩ (by omega) rfl rfl (g_X4_add l D b N V_67 hN j_66.1 x hx r_15 0 (by decide)) rfl (Nat.le_of_ble_eq_true rfl) ⟨Nat.le_of_ble_eq_true rfl, Nat.le_of_ble_eq_true rfl, Nat.le_of_ble_eq_true rfl, Nat.le_of_ble_eq_true rfl⟩ (fun r_79 N_80 V_77 q_81 => ?_)
            obtain ⟨rfl, q_75⟩ := q_81
            have j_76 := JW.trans j_66 (JW.weak q_75 (Sub.cons (LMs LM0) (by omega) (by omega) (by decide) (Or.inl rfl) (Sub.cons (LMs (LMs LM0)) (by omega) (by omega) (by decide) (Or.inl rfl) (Sub.cons (LMs (LMs (LMs LM0))) (by omega) (by omega) (by decide) (Or.inr ⟨by decide, by decide⟩) Sub.nil))))
            refine aw_pop dX5_readComparison_76 rfl ?_
            refine aw_iconst (v := 1) dX5_readComparison_77 (by decide) ?_
            refine aw_zreti dX5_readComparison_78 rfl (by first | exact Or.inl rfl | exact Or.inr rfl | assumption) (Nat.le_of_ble_eq_true rfl) (Nat.le_of_ble_eq_true rfl) ?_
            exact ⟨⟨(by first | exact Or.inl rfl | exact Or.inr rfl | assumption), ⟨a_68, by omega, ⟨⟨_, _, _, ((JW.same q_75 (by decide) (fun k => (nfc (by omega) (nfc (by omega) (nfc (by omega) nf0))))).trans te_t_70)⟩, by omega⟩⟩⟩, rfl, j_76⟩
          · skip
            refine aw_iconst (v := 0) dX5_readComparison_65 (by decide) ?_
            refine aw_zreti dX5_readComparison_66 rfl (by first | exact Or.inl rfl | exact Or.inr rfl | assumption) (Nat.le_of_ble_eq_true rfl) (Nat.le_of_ble_eq_true rfl) ?_
            exact ⟨⟨(by first | exact Or.inl rfl | exact Or.inr rfl | assumption), ⟨a_68, by omega, ⟨⟨_, _, _, te_t_70⟩, by omega⟩⟩⟩, rfl, j_66⟩
        · skip
          refine aw_aload_n dX5_readComparison_36 rfl ?_
          refine aw_get dX5_readComparison_37 fl_X5_15 ((j_4.2.1 _ hp.1 hp.2).trans hR) (by omega) rfl ?_
          refine aw_callVi (J' := jX10_cannotStand) (As := []) (st := []) dX5_readComparison_40 tb_493 ok_X10_cannotStand ⟨_, te_t_8⟩ (by omega) rfl rfl (g_X10_cannotStand l D b N V_5 hN j_4.1 a_6 (⟨⟨_, _, _, te_t_8⟩, by omega⟩)) rfl (Nat.le_of_ble_eq_true rfl) ⟨Nat.le_of_ble_eq_true rfl, Nat.le_of_ble_eq_true rfl, Nat.le_of_ble_eq_true rfl, Nat.le_of_ble_eq_true rfl⟩ (fun r_91 N_92 V_86 q_93 => ?_)
          obtain ⟨⟨z_84, h_83⟩, rfl, q_82⟩ := q_93
          have j_85 := JW.trans j_4 (JW.weak q_82 (Sub.cons (LMs (LMs (LMs (LMs LM0)))) (by decide) (by decide) (by decide) (Or.inr ⟨by decide, by decide⟩) Sub.nil))
          obtain ⟨h_90, a_87, ha_88, ⟨ts_t_89, tn_t_89, tf_t_89, te_t_89⟩, hb_t_89⟩ := h_83
          obtain rfl := h_90
          refine aw_zreti dX5_readComparison_43 rfl (by first | exact Or.inl rfl | exact Or.inr rfl | assumption) (Nat.le_of_ble_eq_true rfl) (Nat.le_of_ble_eq_true rfl) ?_
          exact ⟨⟨(by first | exact Or.inl rfl | exact Or.inr rfl | assumption), ⟨a_87, by omega, ⟨⟨_, _, _, te_t_89⟩, by omega⟩⟩⟩, rfl, j_85⟩
  · skip
    refine aw_iconst (v := 0) dX5_readComparison_8 (by decide) ?_
    refine aw_zreti dX5_readComparison_9 rfl (by first | exact Or.inl rfl | exact Or.inr rfl | assumption) (Nat.le_of_ble_eq_true rfl) (Nat.le_of_ble_eq_true rfl) ?_
    exact ⟨⟨(by first | exact Or.inl rfl | exact Or.inr rfl | assumption), ⟨a_6, by omega, ⟨⟨_, _, _, te_t_8⟩, by omega⟩⟩⟩, rfl, j_4⟩

set_option maxHeartbeats 4000000 in
set_option maxRecDepth 100000 in
theorem g_X5_readNegation_2 (l : Launch) (D : va_G) (b : Nat) (N : Nat) (V : Wd) (hN : 100 ≤ N) (hW : CW D b V) (p x : Nat) (hp : 100 ≤ p ∧ p < N) (hx : x = 57 ∨ x = 65) (hR : V p = cO 5 [.ref (b + 1), .ref (b + x)]) (a : Nat) (hT : TA b a V) (hlt : a < 260) : MI l D b 19 jX5_readNegation [.ref (b + p), .int 2] N V 0 0 (fun r N9 V9 => ((r = 0 ∨ r = 1) ∧ (∃ a9, a ≤ a9 ∧ TA b a9 V9)) ∧ N = N9 ∧ JW D b N [(1, 1, 3, 3), (x + 1, x + 1, 0, 1000000), (x + 2, x + 2, 0, 1000000), (x, x, 2, 2), (1, 1, 4, 4)] V V9) := by
  have hJ0 : JW D b N [(1, 1, 3, 3), (x + 1, x + 1, 0, 1000000), (x + 2, x + 2, 0, 1000000), (x, x, 2, 2), (1, 1, 4, 4)] V V := JW.rf hW
  obtain ⟨⟨ts_0, tn_0, tf_0, te_0⟩, ha_0⟩ := id hT
  refine mw_of (by decide) (by simp [Value.category]) (Nat.le_of_ble_eq_true rfl) ?_
  show AW l D b jX5_readNegation (fx_rm 19 0 0) none (fx_MQ D b 0 0 (fx_qi (fun r N9 V9 => ((r = 0 ∨ r = 1) ∧ (∃ a9, a ≤ a9 ∧ TA b a9 V9)) ∧ N = N9 ∧ JW D b N [(1, 1, 3, 3), (x + 1, x + 1, 0, 1000000), (x + 2, x + 2, 0, 1000000), (x, x, 2, 2), (1, 1, 4, 4)] V V9))) 0 [some (.ref (b + p)), some (.int 2)] [] N V 0 0
  refine aw_aload_n dX5_readNegation_0 rfl ?_
  refine aw_iload_n dX5_readNegation_1 rfl ?_
  refine aw_callVi (J' := jX5_open) (As := [.int 2]) (st := []) dX5_readNegation_2 tb_407 ok_X5_open ⟨_, ((hJ0.2.1 _ hp.1 hp.2).trans hR)⟩ (by omega) rfl rfl (g_X5_open_2 l D b N V hN hJ0.1 p x ⟨by omega, by omega⟩ hx ((hJ0.2.1 _ hp.1 hp.2).trans hR) a (⟨⟨_, _, _, te_0⟩, by omega⟩) (by omega)) rfl (Nat.le_of_ble_eq_true rfl) ⟨Nat.le_of_ble_eq_true rfl, Nat.le_of_ble_eq_true rfl, Nat.le_of_ble_eq_true rfl, Nat.le_of_ble_eq_true rfl⟩ (fun r_10 N_11 V_5 q_12 => ?_)
  obtain ⟨⟨z_3, h_2⟩, rfl, q_1⟩ := q_12
  have j_4 := JW.trans hJ0 (JW.weak q_1 (Sub.cons LM0 (by decide) (by decide) (by decide) (Or.inr ⟨by decide, by decide⟩) Sub.nil))
  obtain ⟨h_9, a_6, ha_7, ⟨ts_t_8, tn_t_8, tf_t_8, te_t_8⟩, hb_t_8⟩ := h_2
  obtain rfl := h_9
  refine aw_if_eq (tgt := 18) dX5_readNegation_5 (by decide) (fun c_13 => ?_) (fun c_13 => ?_)
  · exact absurd c_13 (by decide)
  refine aw_aload_n dX5_readNegation_8 rfl ?_
  refine aw_iload_n dX5_readNegation_9 rfl ?_
  refine aw_iconst (v := 1) dX5_readNegation_10 (by decide) ?_
  refine aw_iadd dX5_readNegation_11 ?_
  refine aw_eqi (y := 3) (by decide) ?_
  refine aw_callVi (J' := jX5_readTest) (As := [.int 3]) (st := []) dX5_readNegation_12 tb_509 ok_X5_readTest ⟨_, ((j_4.2.1 _ hp.1 hp.2).trans hR)⟩ (by omega) rfl rfl (g_X5_readTest_3 l D b N V_5 hN j_4.1 p x ⟨by omega, by omega⟩ hx ((j_4.2.1 _ hp.1 hp.2).trans hR) a_6 (⟨⟨_, _, _, te_t_8⟩, by omega⟩)) rfl (Nat.le_of_ble_eq_true rfl) ⟨Nat.le_of_ble_eq_true rfl, Nat.le_of_ble_eq_true rfl, Nat.le_of_ble_eq_true rfl, Nat.le_of_ble_eq_true rfl⟩ (fun r_22 N_23 V_18 q_24 => ?_)
  obtain ⟨⟨z_16, h_15⟩, rfl, q_14⟩ := q_24
  have j_17 := JW.trans j_4 (JW.weak q_14 (Sub.cons LM0 (by decide) (by decide) (by decide) (Or.inr ⟨by decide, by decide⟩) (Sub.cons (LMs LM0) (by omega) (by omega) (by decide) (Or.inl rfl) (Sub.cons (LMs (LMs LM0)) (by omega) (by omega) (by decide) (Or.inl rfl) (Sub.cons (LMs (LMs (LMs LM0))) (by omega) (by omega) (by decide) (Or.inr ⟨by decide, by decide⟩) (Sub.cons (LMs (LMs (LMs (LMs LM0)))) (by decide) (by decide) (by decide) (Or.inr ⟨by decide, by decide⟩) Sub.nil))))))
  obtain ⟨a_19, ha_20, ⟨ts_t_21, tn_t_21, tf_t_21, te_t_21⟩, hb_t_21⟩ := h_15
  refine aw_if_ne (tgt := 20) dX5_readNegation_15 (by decide) (fun c_25 => ?_) (fun c_25 => ?_)
  · skip
    refine aw_aload_n dX5_readNegation_20 rfl ?_
    refine aw_get dX5_readNegation_21 fl_X5_9 ((j_17.2.1 _ hp.1 hp.2).trans hR) (by omega) rfl ?_
    refine aw_bipush (v := 33) dX5_readNegation_24 (by decide) ?_
    refine aw_iconst (v := 0) dX5_readNegation_26 (by decide) ?_
    obtain ⟨s8_29, r8_29, h8_29, e_29, hs_29, hr_29⟩ := JW.get j_17 (ctl_0 hx)
    refine aw_callVi (J' := jX4_add) (As := [.int 33, .int 0]) (st := []) dX5_readNegation_27 tb_415 ok_X4_add ⟨_, e_29⟩ (by omega) rfl rfl (g_X4_add l D b N V_18 hN j_17.1 x hx 33 0 (by decide)) rfl (Nat.le_of_ble_eq_true rfl) ⟨Nat.le_of_ble_eq_true rfl, Nat.le_of_ble_eq_true rfl, Nat.le_of_ble_eq_true rfl, Nat.le_of_ble_eq_true rfl⟩ (fun r_30 N_31 V_28 q_32 => ?_)
    obtain ⟨rfl, q_26⟩ := q_32
    have j_27 := JW.trans j_17 (JW.weak q_26 (Sub.cons (LMs LM0) (by omega) (by omega) (by decide) (Or.inl rfl) (Sub.cons (LMs (LMs LM0)) (by omega) (by omega) (by decide) (Or.inl rfl) (Sub.cons (LMs (LMs (LMs LM0))) (by omega) (by omega) (by decide) (Or.inr ⟨by decide, by decide⟩) Sub.nil))))
    refine aw_pop dX5_readNegation_30 rfl ?_
    refine aw_iconst (v := 1) dX5_readNegation_31 (by decide) ?_
    refine aw_zreti dX5_readNegation_32 rfl (by first | exact Or.inl rfl | exact Or.inr rfl | assumption) (Nat.le_of_ble_eq_true rfl) (Nat.le_of_ble_eq_true rfl) ?_
    exact ⟨⟨(by first | exact Or.inl rfl | exact Or.inr rfl | assumption), ⟨a_19, by omega, ⟨⟨_, _, _, ((JW.same q_26 (by decide) (fun k => (nfc (by omega) (nfc (by omega) (nfc (by omega) nf0))))).trans te_t_21)⟩, by omega⟩⟩⟩, rfl, j_27⟩
  · skip
    refine aw_iconst (v := 0) dX5_readNegation_18 (by decide) ?_
    refine aw_zreti dX5_readNegation_19 rfl (by first | exact Or.inl rfl | exact Or.inr rfl | assumption) (Nat.le_of_ble_eq_true rfl) (Nat.le_of_ble_eq_true rfl) ?_
    exact ⟨⟨(by first | exact Or.inl rfl | exact Or.inr rfl | assumption), ⟨a_19, by omega, ⟨⟨_, _, _, te_t_21⟩, by omega⟩⟩⟩, rfl, j_17⟩

set_option maxHeartbeats 4000000 in
set_option maxRecDepth 100000 in
theorem g_X5_readTest_2 (l : Launch) (D : va_G) (b : Nat) (N : Nat) (V : Wd) (hN : 100 ≤ N) (hW : CW D b V) (p x : Nat) (hp : 100 ≤ p ∧ p < N) (hx : x = 57 ∨ x = 65) (hR : V p = cO 5 [.ref (b + 1), .ref (b + x)]) (a : Nat) (hT : TA b a V) : MI l D b 21 jX5_readTest [.ref (b + p), .int 2] N V 0 0 (fun r N9 V9 => ((r = 0 ∨ r = 1) ∧ (∃ a9, a ≤ a9 ∧ TA b a9 V9)) ∧ N = N9 ∧ JW D b N [(1, 1, 3, 3), (x + 1, x + 1, 0, 1000000), (x + 2, x + 2, 0, 1000000), (x, x, 2, 2), (1, 1, 4, 4)] V V9) := by
  have hJ0 : JW D b N [(1, 1, 3, 3), (x + 1, x + 1, 0, 1000000), (x + 2, x + 2, 0, 1000000), (x, x, 2, 2), (1, 1, 4, 4)] V V := JW.rf hW
  obtain ⟨⟨ts_0, tn_0, tf_0, te_0⟩, ha_0⟩ := id hT
  refine mw_of (by decide) (by simp [Value.category]) (Nat.le_of_ble_eq_true rfl) ?_
  show AW l D b jX5_readTest (fx_rm 21 0 0) none (fx_MQ D b 0 0 (fx_qi (fun r N9 V9 => ((r = 0 ∨ r = 1) ∧ (∃ a9, a ≤ a9 ∧ TA b a9 V9)) ∧ N = N9 ∧ JW D b N [(1, 1, 3, 3), (x + 1, x + 1, 0, 1000000), (x + 2, x + 2, 0, 1000000), (x, x, 2, 2), (1, 1, 4, 4)] V V9))) 0 [some (.ref (b + p)), some (.int 2), none] [] N V 0 0
  refine aw_aload_n dX5_readTest_0 rfl ?_
  refine aw_get dX5_readTest_1 fl_X5_15 ((hJ0.2.1 _ hp.1 hp.2).trans hR) (by omega) rfl ?_
  refine aw_callVi (J' := jX10_now) (As := []) (st := []) dX5_readTest_4 tb_390 ok_X10_now ⟨_, te_0⟩ (by omega) rfl rfl (g_X10_now l D b N V hN hJ0.1 a (⟨⟨_, _, _, te_0⟩, by omega⟩)) rfl (Nat.le_of_ble_eq_true rfl) ⟨Nat.le_of_ble_eq_true rfl, Nat.le_of_ble_eq_true rfl, Nat.le_of_ble_eq_true rfl, Nat.le_of_ble_eq_true rfl⟩ (fun r_3 N_4 V_5 q_6 => ?_)
  obtain ⟨h_2, rfl, rfl⟩ := q_6
  refine aw_istore_n (ls' := [some (.ref (b + p)), some (.int 2), some (.int r_3)]) dX5_readTest_7 (Nat.le_of_ble_eq_true rfl) rfl ?_
  refine aw_iload_n dX5_readTest_8 rfl ?_
  refine aw_bipush (v := 33) dX5_readTest_9 (by decide) ?_
  refine aw_icmp_ne (tgt := 20) dX5_readTest_11 (by decide) (fun c_7 => ?_) (fun c_7 => ?_)
  · skip
    refine aw_iload_n dX5_readTest_20 rfl ?_
    refine aw_bipush (v := 40) dX5_readTest_21 (by decide) ?_
    refine aw_icmp_ne (tgt := 62) dX5_readTest_23 (by decide) (fun c_8 => ?_) (fun c_8 => ?_)
    · skip
      refine aw_aload_n dX5_readTest_62 rfl ?_
      refine aw_iload_n dX5_readTest_63 rfl ?_
      refine aw_callVi (J' := jX5_readComparison) (As := [.int 2]) (st := []) dX5_readTest_64 tb_517 ok_X5_readComparison ⟨_, ((hJ0.2.1 _ hp.1 hp.2).trans hR)⟩ (by omega) rfl rfl (g_X5_readComparison_2 l D b N V hN hJ0.1 p x ⟨by omega, by omega⟩ hx ((hJ0.2.1 _ hp.1 hp.2).trans hR) a (⟨⟨_, _, _, te_0⟩, by omega⟩)) rfl (Nat.le_of_ble_eq_true rfl) ⟨Nat.le_of_ble_eq_true rfl, Nat.le_of_ble_eq_true rfl, Nat.le_of_ble_eq_true rfl, Nat.le_of_ble_eq_true rfl⟩ (fun r_17 N_18 V_13 q_19 => ?_)
      obtain ⟨⟨z_11, h_10⟩, rfl, q_9⟩ := q_19
      have j_12 := JW.trans hJ0 (JW.weak q_9 (Sub.cons LM0 (by decide) (by decide) (by decide) (Or.inr ⟨by decide, by decide⟩) (Sub.cons (LMs LM0) (by omega) (by omega) (by decide) (Or.inl rfl) (Sub.cons (LMs (LMs LM0)) (by omega) (by omega) (by decide) (Or.inl rfl) (Sub.cons (LMs (LMs (LMs LM0))) (by omega) (by omega) (by decide) (Or.inr ⟨by decide, by decide⟩) (Sub.cons (LMs (LMs (LMs (LMs LM0)))) (by decide) (by decide) (by decide) (Or.inr ⟨by decide, by decide⟩) Sub.nil))))))
      obtain ⟨a_14, ha_15, ⟨ts_t_16, tn_t_16, tf_t_16, te_t_16⟩, hb_t_16⟩ := h_10
      refine aw_zreti dX5_readTest_67 rfl (by first | exact Or.inl rfl | exact Or.inr rfl | assumption) (Nat.le_of_ble_eq_true rfl) (Nat.le_of_ble_eq_true rfl) ?_
      exact ⟨⟨(by first | exact Or.inl rfl | exact Or.inr rfl | assumption), ⟨a_14, by omega, ⟨⟨_, _, _, te_t_16⟩, by omega⟩⟩⟩, rfl, j_12⟩
    · skip
      have hlc_8 := h_2.resolve_left (by rw [c_8]; decide)
      refine aw_aload_n dX5_readTest_26 rfl ?_
      refine aw_iload_n dX5_readTest_27 rfl ?_
      refine aw_callVi (J' := jX5_open) (As := [.int 2]) (st := []) dX5_readTest_28 tb_407 ok_X5_open ⟨_, ((hJ0.2.1 _ hp.1 hp.2).trans hR)⟩ (by omega) rfl rfl (g_X5_open_2 l D b N V hN hJ0.1 p x ⟨by omega, by omega⟩ hx ((hJ0.2.1 _ hp.1 hp.2).trans hR) a (⟨⟨_, _, _, te_0⟩, by omega⟩) (by omega)) rfl (Nat.le_of_ble_eq_true rfl) ⟨Nat.le_of_ble_eq_true rfl, Nat.le_of_ble_eq_true rfl, Nat.le_of_ble_eq_true rfl, Nat.le_of_ble_eq_true rfl⟩ (fun r_29 N_30 V_24 q_31 => ?_)
      obtain ⟨⟨z_22, h_21⟩, rfl, q_20⟩ := q_31
      have j_23 := JW.trans hJ0 (JW.weak q_20 (Sub.cons LM0 (by decide) (by decide) (by decide) (Or.inr ⟨by decide, by decide⟩) Sub.nil))
      obtain ⟨h_28, a_25, ha_26, ⟨ts_t_27, tn_t_27, tf_t_27, te_t_27⟩, hb_t_27⟩ := h_21
      obtain rfl := h_28
      refine aw_if_eq (tgt := 60) dX5_readTest_31 (by decide) (fun c_32 => ?_) (fun c_32 => ?_)
      · exact absurd c_32 (by decide)
      refine aw_aload_n dX5_readTest_34 rfl ?_
      refine aw_iload_n dX5_readTest_35 rfl ?_
      refine aw_iconst (v := 1) dX5_readTest_36 (by decide) ?_
      refine aw_iadd dX5_readTest_37 ?_
      refine aw_eqi (y := 3) (by decide) ?_
      refine aw_callVi (J' := jX5_readAnyOf) (As := [.int 3]) (st := []) dX5_readTest_38 tb_501 ok_X5_readAnyOf ⟨_, ((j_23.2.1 _ hp.1 hp.2).trans hR)⟩ (by omega) rfl rfl (g_X5_readAnyOf_3 l D b N V_24 hN j_23.1 p x ⟨by omega, by omega⟩ hx ((j_23.2.1 _ hp.1 hp.2).trans hR) a_25 (⟨⟨_, _, _, te_t_27⟩, by omega⟩)) rfl (Nat.le_of_ble_eq_true rfl) ⟨Nat.le_of_ble_eq_true rfl, Nat.le_of_ble_eq_true rfl, Nat.le_of_ble_eq_true rfl, Nat.le_of_ble_eq_true rfl⟩ (fun r_41 N_42 V_37 q_43 => ?_)
      obtain ⟨⟨z_35, h_34⟩, rfl, q_33⟩ := q_43
      have j_36 := JW.trans j_23 (JW.weak q_33 (Sub.cons LM0 (by decide) (by decide) (by decide) (Or.inr ⟨by decide, by decide⟩) (Sub.cons (LMs LM0) (by omega) (by omega) (by decide) (Or.inl rfl) (Sub.cons (LMs (LMs LM0)) (by omega) (by omega) (by decide) (Or.inl rfl) (Sub.cons (LMs (LMs (LMs LM0))) (by omega) (by omega) (by decide) (Or.inr ⟨by decide, by decide⟩) (Sub.cons (LMs (LMs (LMs (LMs LM0)))) (by decide) (by decide) (by decide) (Or.inr ⟨by decide, by decide⟩) Sub.nil))))))
      obtain ⟨a_38, ha_39, ⟨ts_t_40, tn_t_40, tf_t_40, te_t_40⟩, hb_t_40⟩ := h_34
      refine aw_if_eq (tgt := 60) dX5_readTest_41 (by decide) (fun c_44 => ?_) (fun c_44 => ?_)
      · skip
        refine aw_iconst (v := 0) dX5_readTest_60 (by decide) ?_
        refine aw_zreti dX5_readTest_61 rfl (by first | exact Or.inl rfl | exact Or.inr rfl | assumption) (Nat.le_of_ble_eq_true rfl) (Nat.le_of_ble_eq_true rfl) ?_
        exact ⟨⟨(by first | exact Or.inl rfl | exact Or.inr rfl | assumption), ⟨a_38, by omega, ⟨⟨_, _, _, te_t_40⟩, by omega⟩⟩⟩, rfl, j_36⟩
      · skip
        refine aw_aload_n dX5_readTest_44 rfl ?_
        refine aw_get dX5_readTest_45 fl_X5_15 ((j_36.2.1 _ hp.1 hp.2).trans hR) (by omega) rfl ?_
        refine aw_bipush (v := 41) dX5_readTest_48 (by decide) ?_
        refine aw_callVi (J' := jX10_expect) (As := [.int 41]) (st := []) dX5_readTest_50 tb_412 ok_X10_expect ⟨_, te_t_40⟩ (by omega) rfl rfl (g_X10_expect l D b N V_37 hN j_36.1 41 a_38 (⟨⟨_, _, _, te_t_40⟩, by omega⟩) (by decide)) rfl (Nat.le_of_ble_eq_true rfl) ⟨Nat.le_of_ble_eq_true rfl, Nat.le_of_ble_eq_true rfl, Nat.le_of_ble_eq_true rfl, Nat.le_of_ble_eq_true rfl⟩ (fun r_53 N_54 V_49 q_55 => ?_)
        obtain ⟨⟨z_47, h_46⟩, rfl, q_45⟩ := q_55
        have j_48 := JW.trans j_36 (JW.weak q_45 (Sub.cons LM0 (by decide) (by decide) (by decide) (Or.inr ⟨by decide, by decide⟩) (Sub.cons (LMs (LMs (LMs (LMs LM0)))) (by decide) (by decide) (by decide) (Or.inr ⟨by decide, by decide⟩) Sub.nil)))
        obtain ⟨a_50, ha_51, ⟨ts_t_52, tn_t_52, tf_t_52, te_t_52⟩, hb_t_52⟩ := h_46
        refine aw_if_eq (tgt := 60) dX5_readTest_53 (by decide) (fun c_56 => ?_) (fun c_56 => ?_)
        · skip
          refine aw_iconst (v := 0) dX5_readTest_60 (by decide) ?_
          refine aw_zreti dX5_readTest_61 rfl (by first | exact Or.inl rfl | exact Or.inr rfl | assumption) (Nat.le_of_ble_eq_true rfl) (Nat.le_of_ble_eq_true rfl) ?_
          exact ⟨⟨(by first | exact Or.inl rfl | exact Or.inr rfl | assumption), ⟨a_50, by omega, ⟨⟨_, _, _, te_t_52⟩, by omega⟩⟩⟩, rfl, j_48⟩
        · skip
          refine aw_iconst (v := 1) dX5_readTest_56 (by decide) ?_
          refine aw_goto (tgt := 61) dX5_readTest_57 (by decide) ?_
          refine aw_zreti dX5_readTest_61 rfl (by first | exact Or.inl rfl | exact Or.inr rfl | assumption) (Nat.le_of_ble_eq_true rfl) (Nat.le_of_ble_eq_true rfl) ?_
          exact ⟨⟨(by first | exact Or.inl rfl | exact Or.inr rfl | assumption), ⟨a_50, by omega, ⟨⟨_, _, _, te_t_52⟩, by omega⟩⟩⟩, rfl, j_48⟩
  · skip
    have hlc_7 := h_2.resolve_left (by rw [c_7]; decide)
    refine aw_aload_n dX5_readTest_14 rfl ?_
    refine aw_iload_n dX5_readTest_15 rfl ?_
    refine aw_callVi (J' := jX5_readNegation) (As := [.int 2]) (st := []) dX5_readTest_16 tb_513 ok_X5_readNegation ⟨_, ((hJ0.2.1 _ hp.1 hp.2).trans hR)⟩ (by omega) rfl rfl (g_X5_readNegation_2 l D b N V hN hJ0.1 p x ⟨by omega, by omega⟩ hx ((hJ0.2.1 _ hp.1 hp.2).trans hR) a (⟨⟨_, _, _, te_0⟩, by omega⟩) (by omega)) rfl (Nat.le_of_ble_eq_true rfl) ⟨Nat.le_of_ble_eq_true rfl, Nat.le_of_ble_eq_true rfl, Nat.le_of_ble_eq_true rfl, Nat.le_of_ble_eq_true rfl⟩ (fun r_65 N_66 V_61 q_67 => ?_)
    obtain ⟨⟨z_59, h_58⟩, rfl, q_57⟩ := q_67
    have j_60 := JW.trans hJ0 (JW.weak q_57 (Sub.cons LM0 (by decide) (by decide) (by decide) (Or.inr ⟨by decide, by decide⟩) (Sub.cons (LMs LM0) (by omega) (by omega) (by decide) (Or.inl rfl) (Sub.cons (LMs (LMs LM0)) (by omega) (by omega) (by decide) (Or.inl rfl) (Sub.cons (LMs (LMs (LMs LM0))) (by omega) (by omega) (by decide) (Or.inr ⟨by decide, by decide⟩) (Sub.cons (LMs (LMs (LMs (LMs LM0)))) (by decide) (by decide) (by decide) (Or.inr ⟨by decide, by decide⟩) Sub.nil))))))
    obtain ⟨a_62, ha_63, ⟨ts_t_64, tn_t_64, tf_t_64, te_t_64⟩, hb_t_64⟩ := h_58
    refine aw_zreti dX5_readTest_19 rfl (by first | exact Or.inl rfl | exact Or.inr rfl | assumption) (Nat.le_of_ble_eq_true rfl) (Nat.le_of_ble_eq_true rfl) ?_
    exact ⟨⟨(by first | exact Or.inl rfl | exact Or.inr rfl | assumption), ⟨a_62, by omega, ⟨⟨_, _, _, te_t_64⟩, by omega⟩⟩⟩, rfl, j_60⟩

set_option maxHeartbeats 4000000 in
set_option maxRecDepth 100000 in
theorem g_X5_readAllOf_2 (l : Launch) (D : va_G) (b : Nat) (N : Nat) (V : Wd) (hN : 100 ≤ N) (hW : CW D b V) (p x : Nat) (hp : 100 ≤ p ∧ p < N) (hx : x = 57 ∨ x = 65) (hR : V p = cO 5 [.ref (b + 1), .ref (b + x)]) (a : Nat) (hT : TA b a V) : MI l D b 22 jX5_readAllOf [.ref (b + p), .int 2] N V 0 0 (fun r N9 V9 => ((r = 0 ∨ r = 1) ∧ (∃ a9, a ≤ a9 ∧ TA b a9 V9)) ∧ N = N9 ∧ JW D b N [(1, 1, 3, 3), (x + 1, x + 1, 0, 1000000), (x + 2, x + 2, 0, 1000000), (x, x, 2, 2), (1, 1, 4, 4)] V V9) := by
  have hJ0 : JW D b N [(1, 1, 3, 3), (x + 1, x + 1, 0, 1000000), (x + 2, x + 2, 0, 1000000), (x, x, 2, 2), (1, 1, 4, 4)] V V := JW.rf hW
  obtain ⟨⟨ts_0, tn_0, tf_0, te_0⟩, ha_0⟩ := id hT
  refine mw_of (by decide) (by simp [Value.category]) (Nat.le_of_ble_eq_true rfl) ?_
  show AW l D b jX5_readAllOf (fx_rm 22 0 0) none (fx_MQ D b 0 0 (fx_qi (fun r N9 V9 => ((r = 0 ∨ r = 1) ∧ (∃ a9, a ≤ a9 ∧ TA b a9 V9)) ∧ N = N9 ∧ JW D b N [(1, 1, 3, 3), (x + 1, x + 1, 0, 1000000), (x + 2, x + 2, 0, 1000000), (x, x, 2, 2), (1, 1, 4, 4)] V V9))) 0 [some (.ref (b + p)), some (.int 2), none] [] N V 0 0
  refine aw_aload_n dX5_readAllOf_0 rfl ?_
  refine aw_iload_n dX5_readAllOf_1 rfl ?_
  refine aw_callVi (J' := jX5_readTest) (As := [.int 2]) (st := []) dX5_readAllOf_2 tb_509 ok_X5_readTest ⟨_, ((hJ0.2.1 _ hp.1 hp.2).trans hR)⟩ (by omega) rfl rfl (g_X5_readTest_2 l D b N V hN hJ0.1 p x ⟨by omega, by omega⟩ hx ((hJ0.2.1 _ hp.1 hp.2).trans hR) a (⟨⟨_, _, _, te_0⟩, by omega⟩)) rfl (Nat.le_of_ble_eq_true rfl) ⟨Nat.le_of_ble_eq_true rfl, Nat.le_of_ble_eq_true rfl, Nat.le_of_ble_eq_true rfl, Nat.le_of_ble_eq_true rfl⟩ (fun r_9 N_10 V_5 q_11 => ?_)
  obtain ⟨⟨z_3, h_2⟩, rfl, q_1⟩ := q_11
  have j_4 := JW.trans hJ0 (JW.weak q_1 (Sub.cons LM0 (by decide) (by decide) (by decide) (Or.inr ⟨by decide, by decide⟩) (Sub.cons (LMs LM0) (by omega) (by omega) (by decide) (Or.inl rfl) (Sub.cons (LMs (LMs LM0)) (by omega) (by omega) (by decide) (Or.inl rfl) (Sub.cons (LMs (LMs (LMs LM0))) (by omega) (by omega) (by decide) (Or.inr ⟨by decide, by decide⟩) (Sub.cons (LMs (LMs (LMs (LMs LM0)))) (by decide) (by decide) (by decide) (Or.inr ⟨by decide, by decide⟩) Sub.nil))))))
  obtain ⟨a_6, ha_7, ⟨ts_t_8, tn_t_8, tf_t_8, te_t_8⟩, hb_t_8⟩ := h_2
  refine aw_if_ne (tgt := 10) dX5_readAllOf_5 (by decide) (fun c_12 => ?_) (fun c_12 => ?_)
  · skip
    have ml_10_13 : ∀ (m : Nat) (a10 : Nat) (V10 : Wd), m = 260 - a10 → (JW D b N [(1, 1, 3, 3), (x + 1, x + 1, 0, 1000000), (x + 2, x + 2, 0, 1000000), (x, x, 2, 2), (1, 1, 4, 4)] V V10) → (TA b a10 V10) → (a ≤ a10) → AW l D b jX5_readAllOf (fx_rm 22 0 0) none (fx_MQ D b 0 0 (fx_qi (fun r N9 V9 => ((r = 0 ∨ r = 1) ∧ (∃ a9, a ≤ a9 ∧ TA b a9 V9)) ∧ N = N9 ∧ JW D b N [(1, 1, 3, 3), (x + 1, x + 1, 0, 1000000), (x + 2, x + 2, 0, 1000000), (x, x, 2, 2), (1, 1, 4, 4)] V V9))) 10 [some (.ref (b + p)), some (.int 2), none] [] N V10 0 0 := by
      intro m; refine Nat.strongRecOn m ?_
      intro m mih_10_13 a10 V10 hm10 i10_0 i10_1 i10_2
      obtain ⟨⟨ts_10, tn_10, tf_10, te_10⟩, hb_10⟩ := i10_1
      refine aw_aload_n dX5_readAllOf_10 rfl ?_
      refine aw_get dX5_readAllOf_11 fl_X5_15 ((i10_0.2.1 _ hp.1 hp.2).trans hR) (by omega) rfl ?_
      refine aw_get dX5_readAllOf_14 fl_X5_25 te_10 (by omega) rfl ?_
      refine aw_aload_n dX5_readAllOf_17 rfl ?_
      refine aw_get dX5_readAllOf_18 fl_X5_15 ((i10_0.2.1 _ hp.1 hp.2).trans hR) (by omega) rfl ?_
      refine aw_get dX5_readAllOf_21 fl_X5_59 te_10 (by omega) rfl ?_
      refine aw_icmp_ge (tgt := 84) dX5_readAllOf_24 (by decide) (fun c_14 => ?_) (fun c_14 => ?_)
      · skip
        refine aw_iconst (v := 1) dX5_readAllOf_84 (by decide) ?_
        refine aw_zreti dX5_readAllOf_85 rfl (by first | exact Or.inl rfl | exact Or.inr rfl | assumption) (Nat.le_of_ble_eq_true rfl) (Nat.le_of_ble_eq_true rfl) ?_
        exact ⟨⟨(by first | exact Or.inl rfl | exact Or.inr rfl | assumption), ⟨a10, by omega, ⟨⟨_, _, _, te_10⟩, by omega⟩⟩⟩, rfl, i10_0⟩
      · skip
        refine aw_aload_n dX5_readAllOf_27 rfl ?_
        refine aw_get dX5_readAllOf_28 fl_X5_15 ((i10_0.2.1 _ hp.1 hp.2).trans hR) (by omega) rfl ?_
        refine aw_callVi (J' := jX10_now) (As := []) (st := []) dX5_readAllOf_31 tb_390 ok_X10_now ⟨_, te_10⟩ (by omega) rfl rfl (g_X10_now l D b N V10 hN i10_0.1 a10 (⟨⟨_, _, _, te_10⟩, by omega⟩)) rfl (Nat.le_of_ble_eq_true rfl) ⟨Nat.le_of_ble_eq_true rfl, Nat.le_of_ble_eq_true rfl, Nat.le_of_ble_eq_true rfl, Nat.le_of_ble_eq_true rfl⟩ (fun r_17 N_18 V_19 q_20 => ?_)
        obtain ⟨h_16, rfl, rfl⟩ := q_20
        refine aw_bipush (v := 38) dX5_readAllOf_34 (by decide) ?_
        refine aw_icmp_ne (tgt := 84) dX5_readAllOf_36 (by decide) (fun c_21 => ?_) (fun c_21 => ?_)
        · skip
          refine aw_iconst (v := 1) dX5_readAllOf_84 (by decide) ?_
          refine aw_zreti dX5_readAllOf_85 rfl (by first | exact Or.inl rfl | exact Or.inr rfl | assumption) (Nat.le_of_ble_eq_true rfl) (Nat.le_of_ble_eq_true rfl) ?_
          exact ⟨⟨(by first | exact Or.inl rfl | exact Or.inr rfl | assumption), ⟨a10, by omega, ⟨⟨_, _, _, te_10⟩, by omega⟩⟩⟩, rfl, i10_0⟩
        · skip
          have hlc_21 := h_16.resolve_left (by rw [c_21]; decide)
          refine aw_aload_n dX5_readAllOf_39 rfl ?_
          refine aw_get dX5_readAllOf_40 fl_X5_15 ((i10_0.2.1 _ hp.1 hp.2).trans hR) (by omega) rfl ?_
          refine aw_dup dX5_readAllOf_43 rfl ?_
          refine aw_get dX5_readAllOf_44 fl_X5_25 te_10 (by omega) rfl ?_
          refine aw_iconst (v := 1) dX5_readAllOf_47 (by decide) ?_
          refine aw_iadd dX5_readAllOf_48 ?_
          refine aw_eqi (y := nI (a10 + 1)) (nI_add _ _) ?_
          refine aw_put dX5_readAllOf_49 fp_X5_25 te_10 (by omega) rfl rfl (Nat.le_of_ble_eq_true rfl) rfl ?_
          refine aw_up i10_0 ct_1 ⟨_, _, _, (a10 + 1), rfl, (by first | omega | (split <;> omega))⟩ (WO (s := 3) (x := .int (nI (a10 + 1))) te_10 rfl LM0 (by decide) (by decide) (by decide) (Or.inl (by decide))) (fun V_22 j_22 k_22 e_22 => ?_)
          refine aw_aload_n dX5_readAllOf_52 rfl ?_
          refine aw_get dX5_readAllOf_53 fl_X5_9 ((j_22.2.1 _ hp.1 hp.2).trans hR) (by omega) rfl ?_
          refine aw_bipush (v := 38) dX5_readAllOf_56 (by decide) ?_
          refine aw_iconst (v := 0) dX5_readAllOf_58 (by decide) ?_
          obtain ⟨s8_26, r8_26, h8_26, e_26, hs_26, hr_26⟩ := JW.get j_22 (ctl_0 hx)
          refine aw_callVi (J' := jX4_add) (As := [.int 38, .int 0]) (st := []) dX5_readAllOf_59 tb_415 ok_X4_add ⟨_, e_26⟩ (by omega) rfl rfl (g_X4_add l D b N V_22 hN j_22.1 x hx 38 0 (by decide)) rfl (Nat.le_of_ble_eq_true rfl) ⟨Nat.le_of_ble_eq_true rfl, Nat.le_of_ble_eq_true rfl, Nat.le_of_ble_eq_true rfl, Nat.le_of_ble_eq_true rfl⟩ (fun r_27 N_28 V_25 q_29 => ?_)
          obtain ⟨rfl, q_23⟩ := q_29
          have j_24 := JW.trans j_22 (JW.weak q_23 (Sub.cons (LMs LM0) (by omega) (by omega) (by decide) (Or.inl rfl) (Sub.cons (LMs (LMs LM0)) (by omega) (by omega) (by decide) (Or.inl rfl) (Sub.cons (LMs (LMs (LMs LM0))) (by omega) (by omega) (by decide) (Or.inr ⟨by decide, by decide⟩) Sub.nil))))
          refine aw_istore_n (ls' := [some (.ref (b + p)), some (.int 2), some (.int r_27)]) dX5_readAllOf_62 (Nat.le_of_ble_eq_true rfl) rfl ?_
          refine aw_aload_n dX5_readAllOf_63 rfl ?_
          refine aw_iload_n dX5_readAllOf_64 rfl ?_
          refine aw_callVi (J' := jX5_readTest) (As := [.int 2]) (st := []) dX5_readAllOf_65 tb_509 ok_X5_readTest ⟨_, ((j_24.2.1 _ hp.1 hp.2).trans hR)⟩ (by omega) rfl rfl (g_X5_readTest_2 l D b N V_25 hN j_24.1 p x ⟨by omega, by omega⟩ hx ((j_24.2.1 _ hp.1 hp.2).trans hR) (a10 + 1) (⟨⟨_, _, _, ((JW.same q_23 (by decide) (fun k => (nfc (by omega) (nfc (by omega) (nfc (by omega) nf0))))).trans e_22)⟩, by omega⟩)) rfl (Nat.le_of_ble_eq_true rfl) ⟨Nat.le_of_ble_eq_true rfl, Nat.le_of_ble_eq_true rfl, Nat.le_of_ble_eq_true rfl, Nat.le_of_ble_eq_true rfl⟩ (fun r_38 N_39 V_34 q_40 => ?_)
          obtain ⟨⟨z_32, h_31⟩, rfl, q_30⟩ := q_40
          have j_33 := JW.trans j_24 (JW.weak q_30 (Sub.cons LM0 (by decide) (by decide) (by decide) (Or.inr ⟨by decide, by decide⟩) (Sub.cons (LMs LM0) (by omega) (by omega) (by decide) (Or.inl rfl) (Sub.cons (LMs (LMs LM0)) (by omega) (by omega) (by decide) (Or.inl rfl) (Sub.cons (LMs (LMs (LMs LM0))) (by omega) (by omega) (by decide) (Or.inr ⟨by decide, by decide⟩) (Sub.cons (LMs (LMs (LMs (LMs LM0)))) (by decide) (by decide) (by decide) (Or.inr ⟨by decide, by decide⟩) Sub.nil))))))
          obtain ⟨a_35, ha_36, ⟨ts_t_37, tn_t_37, tf_t_37, te_t_37⟩, hb_t_37⟩ := h_31
          refine aw_if_ne (tgt := 73) dX5_readAllOf_68 (by decide) (fun c_41 => ?_) (fun c_41 => ?_)
          · skip
            refine aw_aload_n dX5_readAllOf_73 rfl ?_
            refine aw_get dX5_readAllOf_74 fl_X5_9 ((j_33.2.1 _ hp.1 hp.2).trans hR) (by omega) rfl ?_
            refine aw_iload_n dX5_readAllOf_77 rfl ?_
            obtain ⟨s8_45, r8_45, h8_45, e_45, hs_45, hr_45⟩ := JW.get j_33 (ctl_0 hx)
            refine aw_callVv (J' := jX4_leadHere) (As := [.int r_27]) (st := []) dX5_readAllOf_78 tb_521 ok_X4_leadHere ⟨_, e_45⟩ (by omega) rfl rfl (g_X4_leadHere l D b N V_34 hN j_33.1 x hx r_27) rfl (Nat.le_of_ble_eq_true rfl) ⟨Nat.le_of_ble_eq_true rfl, Nat.le_of_ble_eq_true rfl, Nat.le_of_ble_eq_true rfl, Nat.le_of_ble_eq_true rfl⟩ (fun  N_46 V_44 q_47 => ?_)
            obtain ⟨rfl, q_42⟩ := q_47
            have j_43 := JW.trans j_33 (JW.weak q_42 (Sub.cons (LMs (LMs LM0)) (by omega) (by omega) (by decide) (Or.inl rfl) Sub.nil))
            refine aw_goto (tgt := 10) dX5_readAllOf_81 (by decide) ?_
            refine aw_le ?_ (mih_10_13 _ (by omega) a_35 V_44 rfl (j_43) (⟨⟨_, _, _, ((JW.same q_42 (by decide) (fun k => (nfc (by omega) nf0))).trans te_t_37)⟩, by omega⟩) (by omega))
            exact ⟨rfl, ⟨rfl, trivial⟩⟩
          · skip
            refine aw_iconst (v := 0) dX5_readAllOf_71 (by decide) ?_
            refine aw_zreti dX5_readAllOf_72 rfl (by first | exact Or.inl rfl | exact Or.inr rfl | assumption) (Nat.le_of_ble_eq_true rfl) (Nat.le_of_ble_eq_true rfl) ?_
            exact ⟨⟨(by first | exact Or.inl rfl | exact Or.inr rfl | assumption), ⟨a_35, by omega, ⟨⟨_, _, _, te_t_37⟩, by omega⟩⟩⟩, rfl, j_33⟩
    refine aw_le ?_ (ml_10_13 _ a_6 V_5 rfl (j_4) (⟨⟨_, _, _, te_t_8⟩, by omega⟩) (by omega))
    exact ⟨rfl, ⟨rfl, trivial⟩⟩
  · skip
    refine aw_iconst (v := 0) dX5_readAllOf_8 (by decide) ?_
    refine aw_zreti dX5_readAllOf_9 rfl (by first | exact Or.inl rfl | exact Or.inr rfl | assumption) (Nat.le_of_ble_eq_true rfl) (Nat.le_of_ble_eq_true rfl) ?_
    exact ⟨⟨(by first | exact Or.inl rfl | exact Or.inr rfl | assumption), ⟨a_6, by omega, ⟨⟨_, _, _, te_t_8⟩, by omega⟩⟩⟩, rfl, j_4⟩

set_option maxHeartbeats 4000000 in
set_option maxRecDepth 100000 in
theorem g_X5_readAnyOf_2 (l : Launch) (D : va_G) (b : Nat) (N : Nat) (V : Wd) (hN : 100 ≤ N) (hW : CW D b V) (p x : Nat) (hp : 100 ≤ p ∧ p < N) (hx : x = 57 ∨ x = 65) (hR : V p = cO 5 [.ref (b + 1), .ref (b + x)]) (a : Nat) (hT : TA b a V) : MI l D b 23 jX5_readAnyOf [.ref (b + p), .int 2] N V 0 0 (fun r N9 V9 => ((r = 0 ∨ r = 1) ∧ (∃ a9, a ≤ a9 ∧ TA b a9 V9)) ∧ N = N9 ∧ JW D b N [(1, 1, 3, 3), (x + 1, x + 1, 0, 1000000), (x + 2, x + 2, 0, 1000000), (x, x, 2, 2), (1, 1, 4, 4)] V V9) := by
  have hJ0 : JW D b N [(1, 1, 3, 3), (x + 1, x + 1, 0, 1000000), (x + 2, x + 2, 0, 1000000), (x, x, 2, 2), (1, 1, 4, 4)] V V := JW.rf hW
  obtain ⟨⟨ts_0, tn_0, tf_0, te_0⟩, ha_0⟩ := id hT
  refine mw_of (by decide) (by simp [Value.category]) (Nat.le_of_ble_eq_true rfl) ?_
  show AW l D b jX5_readAnyOf (fx_rm 23 0 0) none (fx_MQ D b 0 0 (fx_qi (fun r N9 V9 => ((r = 0 ∨ r = 1) ∧ (∃ a9, a ≤ a9 ∧ TA b a9 V9)) ∧ N = N9 ∧ JW D b N [(1, 1, 3, 3), (x + 1, x + 1, 0, 1000000), (x + 2, x + 2, 0, 1000000), (x, x, 2, 2), (1, 1, 4, 4)] V V9))) 0 [some (.ref (b + p)), some (.int 2), none] [] N V 0 0
  refine aw_aload_n dX5_readAnyOf_0 rfl ?_
  refine aw_iload_n dX5_readAnyOf_1 rfl ?_
  refine aw_callVi (J' := jX5_readAllOf) (As := [.int 2]) (st := []) dX5_readAnyOf_2 tb_505 ok_X5_readAllOf ⟨_, ((hJ0.2.1 _ hp.1 hp.2).trans hR)⟩ (by omega) rfl rfl (g_X5_readAllOf_2 l D b N V hN hJ0.1 p x ⟨by omega, by omega⟩ hx ((hJ0.2.1 _ hp.1 hp.2).trans hR) a (⟨⟨_, _, _, te_0⟩, by omega⟩)) rfl (Nat.le_of_ble_eq_true rfl) ⟨Nat.le_of_ble_eq_true rfl, Nat.le_of_ble_eq_true rfl, Nat.le_of_ble_eq_true rfl, Nat.le_of_ble_eq_true rfl⟩ (fun r_9 N_10 V_5 q_11 => ?_)
  obtain ⟨⟨z_3, h_2⟩, rfl, q_1⟩ := q_11
  have j_4 := JW.trans hJ0 (JW.weak q_1 (Sub.cons LM0 (by decide) (by decide) (by decide) (Or.inr ⟨by decide, by decide⟩) (Sub.cons (LMs LM0) (by omega) (by omega) (by decide) (Or.inl rfl) (Sub.cons (LMs (LMs LM0)) (by omega) (by omega) (by decide) (Or.inl rfl) (Sub.cons (LMs (LMs (LMs LM0))) (by omega) (by omega) (by decide) (Or.inr ⟨by decide, by decide⟩) (Sub.cons (LMs (LMs (LMs (LMs LM0)))) (by decide) (by decide) (by decide) (Or.inr ⟨by decide, by decide⟩) Sub.nil))))))
  obtain ⟨a_6, ha_7, ⟨ts_t_8, tn_t_8, tf_t_8, te_t_8⟩, hb_t_8⟩ := h_2
  refine aw_if_ne (tgt := 10) dX5_readAnyOf_5 (by decide) (fun c_12 => ?_) (fun c_12 => ?_)
  · skip
    have ml_10_13 : ∀ (m : Nat) (a10 : Nat) (V10 : Wd), m = 260 - a10 → (JW D b N [(1, 1, 3, 3), (x + 1, x + 1, 0, 1000000), (x + 2, x + 2, 0, 1000000), (x, x, 2, 2), (1, 1, 4, 4)] V V10) → (TA b a10 V10) → (a ≤ a10) → AW l D b jX5_readAnyOf (fx_rm 23 0 0) none (fx_MQ D b 0 0 (fx_qi (fun r N9 V9 => ((r = 0 ∨ r = 1) ∧ (∃ a9, a ≤ a9 ∧ TA b a9 V9)) ∧ N = N9 ∧ JW D b N [(1, 1, 3, 3), (x + 1, x + 1, 0, 1000000), (x + 2, x + 2, 0, 1000000), (x, x, 2, 2), (1, 1, 4, 4)] V V9))) 10 [some (.ref (b + p)), some (.int 2), none] [] N V10 0 0 := by
      intro m; refine Nat.strongRecOn m ?_
      intro m mih_10_13 a10 V10 hm10 i10_0 i10_1 i10_2
      obtain ⟨⟨ts_10, tn_10, tf_10, te_10⟩, hb_10⟩ := i10_1
      refine aw_aload_n dX5_readAnyOf_10 rfl ?_
      refine aw_get dX5_readAnyOf_11 fl_X5_15 ((i10_0.2.1 _ hp.1 hp.2).trans hR) (by omega) rfl ?_
      refine aw_get dX5_readAnyOf_14 fl_X5_25 te_10 (by omega) rfl ?_
      refine aw_aload_n dX5_readAnyOf_17 rfl ?_
      refine aw_get dX5_readAnyOf_18 fl_X5_15 ((i10_0.2.1 _ hp.1 hp.2).trans hR) (by omega) rfl ?_
      refine aw_get dX5_readAnyOf_21 fl_X5_59 te_10 (by omega) rfl ?_
      refine aw_icmp_ge (tgt := 84) dX5_readAnyOf_24 (by decide) (fun c_14 => ?_) (fun c_14 => ?_)
      · skip
        refine aw_iconst (v := 1) dX5_readAnyOf_84 (by decide) ?_
        refine aw_zreti dX5_readAnyOf_85 rfl (by first | exact Or.inl rfl | exact Or.inr rfl | assumption) (Nat.le_of_ble_eq_true rfl) (Nat.le_of_ble_eq_true rfl) ?_
        exact ⟨⟨(by first | exact Or.inl rfl | exact Or.inr rfl | assumption), ⟨a10, by omega, ⟨⟨_, _, _, te_10⟩, by omega⟩⟩⟩, rfl, i10_0⟩
      · skip
        refine aw_aload_n dX5_readAnyOf_27 rfl ?_
        refine aw_get dX5_readAnyOf_28 fl_X5_15 ((i10_0.2.1 _ hp.1 hp.2).trans hR) (by omega) rfl ?_
        refine aw_callVi (J' := jX10_now) (As := []) (st := []) dX5_readAnyOf_31 tb_390 ok_X10_now ⟨_, te_10⟩ (by omega) rfl rfl (g_X10_now l D b N V10 hN i10_0.1 a10 (⟨⟨_, _, _, te_10⟩, by omega⟩)) rfl (Nat.le_of_ble_eq_true rfl) ⟨Nat.le_of_ble_eq_true rfl, Nat.le_of_ble_eq_true rfl, Nat.le_of_ble_eq_true rfl, Nat.le_of_ble_eq_true rfl⟩ (fun r_17 N_18 V_19 q_20 => ?_)
        obtain ⟨h_16, rfl, rfl⟩ := q_20
        refine aw_bipush (v := 124) dX5_readAnyOf_34 (by decide) ?_
        refine aw_icmp_ne (tgt := 84) dX5_readAnyOf_36 (by decide) (fun c_21 => ?_) (fun c_21 => ?_)
        · skip
          refine aw_iconst (v := 1) dX5_readAnyOf_84 (by decide) ?_
          refine aw_zreti dX5_readAnyOf_85 rfl (by first | exact Or.inl rfl | exact Or.inr rfl | assumption) (Nat.le_of_ble_eq_true rfl) (Nat.le_of_ble_eq_true rfl) ?_
          exact ⟨⟨(by first | exact Or.inl rfl | exact Or.inr rfl | assumption), ⟨a10, by omega, ⟨⟨_, _, _, te_10⟩, by omega⟩⟩⟩, rfl, i10_0⟩
        · skip
          have hlc_21 := h_16.resolve_left (by rw [c_21]; decide)
          refine aw_aload_n dX5_readAnyOf_39 rfl ?_
          refine aw_get dX5_readAnyOf_40 fl_X5_15 ((i10_0.2.1 _ hp.1 hp.2).trans hR) (by omega) rfl ?_
          refine aw_dup dX5_readAnyOf_43 rfl ?_
          refine aw_get dX5_readAnyOf_44 fl_X5_25 te_10 (by omega) rfl ?_
          refine aw_iconst (v := 1) dX5_readAnyOf_47 (by decide) ?_
          refine aw_iadd dX5_readAnyOf_48 ?_
          refine aw_eqi (y := nI (a10 + 1)) (nI_add _ _) ?_
          refine aw_put dX5_readAnyOf_49 fp_X5_25 te_10 (by omega) rfl rfl (Nat.le_of_ble_eq_true rfl) rfl ?_
          refine aw_up i10_0 ct_1 ⟨_, _, _, (a10 + 1), rfl, (by first | omega | (split <;> omega))⟩ (WO (s := 3) (x := .int (nI (a10 + 1))) te_10 rfl LM0 (by decide) (by decide) (by decide) (Or.inl (by decide))) (fun V_22 j_22 k_22 e_22 => ?_)
          refine aw_aload_n dX5_readAnyOf_52 rfl ?_
          refine aw_get dX5_readAnyOf_53 fl_X5_9 ((j_22.2.1 _ hp.1 hp.2).trans hR) (by omega) rfl ?_
          refine aw_bipush (v := 124) dX5_readAnyOf_56 (by decide) ?_
          refine aw_iconst (v := 0) dX5_readAnyOf_58 (by decide) ?_
          obtain ⟨s8_26, r8_26, h8_26, e_26, hs_26, hr_26⟩ := JW.get j_22 (ctl_0 hx)
          refine aw_callVi (J' := jX4_add) (As := [.int 124, .int 0]) (st := []) dX5_readAnyOf_59 tb_415 ok_X4_add ⟨_, e_26⟩ (by omega) rfl rfl (g_X4_add l D b N V_22 hN j_22.1 x hx 124 0 (by decide)) rfl (Nat.le_of_ble_eq_true rfl) ⟨Nat.le_of_ble_eq_true rfl, Nat.le_of_ble_eq_true rfl, Nat.le_of_ble_eq_true rfl, Nat.le_of_ble_eq_true rfl⟩ (fun r_27 N_28 V_25 q_29 => ?_)
          obtain ⟨rfl, q_23⟩ := q_29
          have j_24 := JW.trans j_22 (JW.weak q_23 (Sub.cons (LMs LM0) (by omega) (by omega) (by decide) (Or.inl rfl) (Sub.cons (LMs (LMs LM0)) (by omega) (by omega) (by decide) (Or.inl rfl) (Sub.cons (LMs (LMs (LMs LM0))) (by omega) (by omega) (by decide) (Or.inr ⟨by decide, by decide⟩) Sub.nil))))
          refine aw_istore_n (ls' := [some (.ref (b + p)), some (.int 2), some (.int r_27)]) dX5_readAnyOf_62 (Nat.le_of_ble_eq_true rfl) rfl ?_
          refine aw_aload_n dX5_readAnyOf_63 rfl ?_
          refine aw_iload_n dX5_readAnyOf_64 rfl ?_
          refine aw_callVi (J' := jX5_readAllOf) (As := [.int 2]) (st := []) dX5_readAnyOf_65 tb_505 ok_X5_readAllOf ⟨_, ((j_24.2.1 _ hp.1 hp.2).trans hR)⟩ (by omega) rfl rfl (g_X5_readAllOf_2 l D b N V_25 hN j_24.1 p x ⟨by omega, by omega⟩ hx ((j_24.2.1 _ hp.1 hp.2).trans hR) (a10 + 1) (⟨⟨_, _, _, ((JW.same q_23 (by decide) (fun k => (nfc (by omega) (nfc (by omega) (nfc (by omega) nf0))))).trans e_22)⟩, by omega⟩)) rfl (Nat.le_of_ble_eq_true rfl) ⟨Nat.le_of_ble_eq_true rfl, Nat.le_of_ble_eq_true rfl, Nat.le_of_ble_eq_true rfl, Nat.le_of_ble_eq_true rfl⟩ (fun r_38 N_39 V_34 q_40 => ?_)
          obtain ⟨⟨z_32, h_31⟩, rfl, q_30⟩ := q_40
          have j_33 := JW.trans j_24 (JW.weak q_30 (Sub.cons LM0 (by decide) (by decide) (by decide) (Or.inr ⟨by decide, by decide⟩) (Sub.cons (LMs LM0) (by omega) (by omega) (by decide) (Or.inl rfl) (Sub.cons (LMs (LMs LM0)) (by omega) (by omega) (by decide) (Or.inl rfl) (Sub.cons (LMs (LMs (LMs LM0))) (by omega) (by omega) (by decide) (Or.inr ⟨by decide, by decide⟩) (Sub.cons (LMs (LMs (LMs (LMs LM0)))) (by decide) (by decide) (by decide) (Or.inr ⟨by decide, by decide⟩) Sub.nil))))))
          obtain ⟨a_35, ha_36, ⟨ts_t_37, tn_t_37, tf_t_37, te_t_37⟩, hb_t_37⟩ := h_31
          refine aw_if_ne (tgt := 73) dX5_readAnyOf_68 (by decide) (fun c_41 => ?_) (fun c_41 => ?_)
          · skip
            refine aw_aload_n dX5_readAnyOf_73 rfl ?_
            refine aw_get dX5_readAnyOf_74 fl_X5_9 ((j_33.2.1 _ hp.1 hp.2).trans hR) (by omega) rfl ?_
            refine aw_iload_n dX5_readAnyOf_77 rfl ?_
            obtain ⟨s8_45, r8_45, h8_45, e_45, hs_45, hr_45⟩ := JW.get j_33 (ctl_0 hx)
            refine aw_callVv (J' := jX4_leadHere) (As := [.int r_27]) (st := []) dX5_readAnyOf_78 tb_521 ok_X4_leadHere ⟨_, e_45⟩ (by omega) rfl rfl (g_X4_leadHere l D b N V_34 hN j_33.1 x hx r_27) rfl (Nat.le_of_ble_eq_true rfl) ⟨Nat.le_of_ble_eq_true rfl, Nat.le_of_ble_eq_true rfl, Nat.le_of_ble_eq_true rfl, Nat.le_of_ble_eq_true rfl⟩ (fun  N_46 V_44 q_47 => ?_)
            obtain ⟨rfl, q_42⟩ := q_47
            have j_43 := JW.trans j_33 (JW.weak q_42 (Sub.cons (LMs (LMs LM0)) (by omega) (by omega) (by decide) (Or.inl rfl) Sub.nil))
            refine aw_goto (tgt := 10) dX5_readAnyOf_81 (by decide) ?_
            refine aw_le ?_ (mih_10_13 _ (by omega) a_35 V_44 rfl (j_43) (⟨⟨_, _, _, ((JW.same q_42 (by decide) (fun k => (nfc (by omega) nf0))).trans te_t_37)⟩, by omega⟩) (by omega))
            exact ⟨rfl, ⟨rfl, trivial⟩⟩
          · skip
            refine aw_iconst (v := 0) dX5_readAnyOf_71 (by decide) ?_
            refine aw_zreti dX5_readAnyOf_72 rfl (by first | exact Or.inl rfl | exact Or.inr rfl | assumption) (Nat.le_of_ble_eq_true rfl) (Nat.le_of_ble_eq_true rfl) ?_
            exact ⟨⟨(by first | exact Or.inl rfl | exact Or.inr rfl | assumption), ⟨a_35, by omega, ⟨⟨_, _, _, te_t_37⟩, by omega⟩⟩⟩, rfl, j_33⟩
    refine aw_le ?_ (ml_10_13 _ a_6 V_5 rfl (j_4) (⟨⟨_, _, _, te_t_8⟩, by omega⟩) (by omega))
    exact ⟨rfl, ⟨rfl, trivial⟩⟩
  · skip
    refine aw_iconst (v := 0) dX5_readAnyOf_8 (by decide) ?_
    refine aw_zreti dX5_readAnyOf_9 rfl (by first | exact Or.inl rfl | exact Or.inr rfl | assumption) (Nat.le_of_ble_eq_true rfl) (Nat.le_of_ble_eq_true rfl) ?_
    exact ⟨⟨(by first | exact Or.inl rfl | exact Or.inr rfl | assumption), ⟨a_6, by omega, ⟨⟨_, _, _, te_t_8⟩, by omega⟩⟩⟩, rfl, j_4⟩

set_option maxHeartbeats 4000000 in
set_option maxRecDepth 100000 in
theorem g_X5_open_1 (l : Launch) (D : va_G) (b : Nat) (N : Nat) (V : Wd) (hN : 100 ≤ N) (hW : CW D b V) (p x : Nat) (hp : 100 ≤ p ∧ p < N) (hx : x = 57 ∨ x = 65) (hR : V p = cO 5 [.ref (b + 1), .ref (b + x)]) (a : Nat) (hT : TA b a V) (hlt : a < 260) : MI l D b 1 jX5_open [.ref (b + p), .int 1] N V 0 0 (fun r N9 V9 => ((r = 0 ∨ r = 1) ∧ ((r = 1) ∧ ∃ a9, a ≤ a9 ∧ TA b a9 V9)) ∧ N = N9 ∧ JW D b N [(1, 1, 3, 3)] V V9) := by
  have hJ0 : JW D b N [(1, 1, 3, 3)] V V := JW.rf hW
  obtain ⟨⟨ts_0, tn_0, tf_0, te_0⟩, ha_0⟩ := id hT
  refine mw_of (by decide) (by simp [Value.category]) (Nat.le_of_ble_eq_true rfl) ?_
  show AW l D b jX5_open (fx_rm 1 0 0) none (fx_MQ D b 0 0 (fx_qi (fun r N9 V9 => ((r = 0 ∨ r = 1) ∧ ((r = 1) ∧ ∃ a9, a ≤ a9 ∧ TA b a9 V9)) ∧ N = N9 ∧ JW D b N [(1, 1, 3, 3)] V V9))) 0 [some (.ref (b + p)), some (.int 1)] [] N V 0 0
  refine aw_iload_n dX5_open_0 rfl ?_
  refine aw_bipush (v := 6) dX5_open_1 (by decide) ?_
  refine aw_icmp_lt (tgt := 22) dX5_open_3 (by decide) (fun c_1 => ?_) (fun c_1 => ?_)
  rotate_left
  · exact absurd (by decide) c_1
  refine aw_aload_n dX5_open_22 rfl ?_
  refine aw_get dX5_open_23 fl_X5_15 ((hJ0.2.1 _ hp.1 hp.2).trans hR) (by omega) rfl ?_
  refine aw_dup dX5_open_26 rfl ?_
  refine aw_get dX5_open_27 fl_X5_25 te_0 (by omega) rfl ?_
  refine aw_iconst (v := 1) dX5_open_30 (by decide) ?_
  refine aw_iadd dX5_open_31 ?_
  refine aw_eqi (y := nI (a + 1)) (nI_add _ _) ?_
  refine aw_put dX5_open_32 fp_X5_25 te_0 (by omega) rfl rfl (Nat.le_of_ble_eq_true rfl) rfl ?_
  refine aw_up hJ0 ct_1 ⟨_, _, _, (a + 1), rfl, (by first | omega | (split <;> omega))⟩ (WO (s := 3) (x := .int (nI (a + 1))) te_0 rfl LM0 (by decide) (by decide) (by decide) (Or.inl (by decide))) (fun V_2 j_2 k_2 e_2 => ?_)
  refine aw_iconst (v := 1) dX5_open_35 (by decide) ?_
  refine aw_zreti dX5_open_36 rfl (by first | exact Or.inl rfl | exact Or.inr rfl | assumption) (Nat.le_of_ble_eq_true rfl) (Nat.le_of_ble_eq_true rfl) ?_
  exact ⟨⟨(by first | exact Or.inl rfl | exact Or.inr rfl | assumption), ⟨rfl, ⟨(a + 1), by omega, ⟨⟨_, _, _, e_2⟩, by omega⟩⟩⟩⟩, rfl, j_2⟩

set_option maxHeartbeats 4000000 in
set_option maxRecDepth 100000 in
theorem g_X5_readFactor_1 (l : Launch) (D : va_G) (b : Nat) (N : Nat) (V : Wd) (hN : 100 ≤ N) (hW : CW D b V) (p x : Nat) (hp : 100 ≤ p ∧ p < N) (hx : x = 57 ∨ x = 65) (hR : V p = cO 5 [.ref (b + 1), .ref (b + x)]) (a : Nat) (hT : TA b a V) : MI l D b 20 jX5_readFactor [.ref (b + p), .int 1] N V 0 0 (fun r N9 V9 => ((r = 0 ∨ r = 1) ∧ (∃ a9, a ≤ a9 ∧ TA b a9 V9)) ∧ N = N9 ∧ JW D b N [(1, 1, 3, 3), (x + 1, x + 1, 0, 1000000), (x + 2, x + 2, 0, 1000000), (x, x, 2, 2), (1, 1, 4, 4)] V V9) := by
  have hJ0 : JW D b N [(1, 1, 3, 3), (x + 1, x + 1, 0, 1000000), (x + 2, x + 2, 0, 1000000), (x, x, 2, 2), (1, 1, 4, 4)] V V := JW.rf hW
  obtain ⟨⟨ts_0, tn_0, tf_0, te_0⟩, ha_0⟩ := id hT
  refine mw_of (by decide) (by simp [Value.category]) (Nat.le_of_ble_eq_true rfl) ?_
  show AW l D b jX5_readFactor (fx_rm 20 0 0) none (fx_MQ D b 0 0 (fx_qi (fun r N9 V9 => ((r = 0 ∨ r = 1) ∧ (∃ a9, a ≤ a9 ∧ TA b a9 V9)) ∧ N = N9 ∧ JW D b N [(1, 1, 3, 3), (x + 1, x + 1, 0, 1000000), (x + 2, x + 2, 0, 1000000), (x, x, 2, 2), (1, 1, 4, 4)] V V9))) 0 [some (.ref (b + p)), some (.int 1), none, none] [] N V 0 0
  refine aw_aload_n dX5_readFactor_0 rfl ?_
  refine aw_get dX5_readFactor_1 fl_X5_15 ((hJ0.2.1 _ hp.1 hp.2).trans hR) (by omega) rfl ?_
  refine aw_callVi (J' := jX10_now) (As := []) (st := []) dX5_readFactor_4 tb_390 ok_X10_now ⟨_, te_0⟩ (by omega) rfl rfl (g_X10_now l D b N V hN hJ0.1 a (⟨⟨_, _, _, te_0⟩, by omega⟩)) rfl (Nat.le_of_ble_eq_true rfl) ⟨Nat.le_of_ble_eq_true rfl, Nat.le_of_ble_eq_true rfl, Nat.le_of_ble_eq_true rfl, Nat.le_of_ble_eq_true rfl⟩ (fun r_3 N_4 V_5 q_6 => ?_)
  obtain ⟨h_2, rfl, rfl⟩ := q_6
  refine aw_istore_n (ls' := [some (.ref (b + p)), some (.int 1), some (.int r_3), none]) dX5_readFactor_7 (Nat.le_of_ble_eq_true rfl) rfl ?_
  refine aw_iload_n dX5_readFactor_8 rfl ?_
  refine aw_bipush (v := 91) dX5_readFactor_9 (by decide) ?_
  refine aw_icmp_ne (tgt := 50) dX5_readFactor_11 (by decide) (fun c_7 => ?_) (fun c_7 => ?_)
  · skip
    refine aw_iload_n dX5_readFactor_50 rfl ?_
    refine aw_callSi (J' := jX10_isDigit) (As := [.int r_3]) (st := []) dX5_readFactor_51 tb_413 ok_X10_isDigit rfl (g_X10_isDigit l D b N V hN hJ0.1 r_3) rfl (Nat.le_of_ble_eq_true rfl) ⟨Nat.le_of_ble_eq_true rfl, Nat.le_of_ble_eq_true rfl, Nat.le_of_ble_eq_true rfl, Nat.le_of_ble_eq_true rfl⟩ (fun r_11 N_12 V_13 q_14 => ?_)
    obtain ⟨⟨z_10, h_9⟩, rfl, rfl⟩ := q_14
    refine aw_if_eq (tgt := 85) dX5_readFactor_54 (by decide) (fun c_15 => ?_) (fun c_15 => ?_)
    · skip
      refine aw_iload_n dX5_readFactor_85 rfl ?_
      refine aw_if_ge (tgt := 93) dX5_readFactor_86 (by decide) (fun c_16 => ?_) (fun c_16 => ?_)
      · skip
        have hlc_16 := h_2.resolve_left (fun z => absurd c_16 (by rw [z]; decide))
        refine aw_strIdx rfl dX5_readFactor_93 dX5_readFactor_95 dX5_readFactor_96 dX5_readFactor_97 rfl rfl (Nat.le_of_ble_eq_true rfl) ⟨Nat.le_of_ble_eq_true rfl, Nat.le_of_ble_eq_true rfl, Nat.le_of_ble_eq_true rfl, Nat.le_of_ble_eq_true rfl⟩ (fun ixr => ?_)
        refine aw_istore_n (ls' := [some (.ref (b + p)), some (.int 1), some (.int r_3), some (.int ixr)]) dX5_readFactor_100 (Nat.le_of_ble_eq_true rfl) rfl ?_
        refine aw_iload_n dX5_readFactor_101 rfl ?_
        refine aw_if_ge (tgt := 113) dX5_readFactor_102 (by decide) (fun c_17 => ?_) (fun c_17 => ?_)
        · skip
          refine aw_aload_n dX5_readFactor_113 rfl ?_
          refine aw_get dX5_readFactor_114 fl_X5_15 ((hJ0.2.1 _ hp.1 hp.2).trans hR) (by omega) rfl ?_
          refine aw_dup dX5_readFactor_117 rfl ?_
          refine aw_get dX5_readFactor_118 fl_X5_25 te_0 (by omega) rfl ?_
          refine aw_iconst (v := 1) dX5_readFactor_121 (by decide) ?_
          refine aw_iadd dX5_readFactor_122 ?_
          refine aw_eqi (y := nI (a + 1)) (nI_add _ _) ?_
          refine aw_put dX5_readFactor_123 fp_X5_25 te_0 (by omega) rfl rfl (Nat.le_of_ble_eq_true rfl) rfl ?_
          refine aw_up hJ0 ct_1 ⟨_, _, _, (a + 1), rfl, (by first | omega | (split <;> omega))⟩ (WO (s := 3) (x := .int (nI (a + 1))) te_0 rfl LM0 (by decide) (by decide) (by decide) (Or.inl (by decide))) (fun V_18 j_18 k_18 e_18 => ?_)
          refine aw_aload_n dX5_readFactor_126 rfl ?_
          refine aw_get dX5_readFactor_127 fl_X5_9 ((j_18.2.1 _ hp.1 hp.2).trans hR) (by omega) rfl ?_
          refine aw_bipush (v := 64) dX5_readFactor_130 (by decide) ?_
          refine aw_iload_n dX5_readFactor_132 rfl ?_
          obtain ⟨s8_22, r8_22, h8_22, e_22, hs_22, hr_22⟩ := JW.get j_18 (ctl_0 hx)
          refine aw_callVi (J' := jX4_add) (As := [.int 64, .int ixr]) (st := []) dX5_readFactor_133 tb_415 ok_X4_add ⟨_, e_22⟩ (by omega) rfl rfl (g_X4_add l D b N V_18 hN j_18.1 x hx 64 ixr c_17) rfl (Nat.le_of_ble_eq_true rfl) ⟨Nat.le_of_ble_eq_true rfl, Nat.le_of_ble_eq_true rfl, Nat.le_of_ble_eq_true rfl, Nat.le_of_ble_eq_true rfl⟩ (fun r_23 N_24 V_21 q_25 => ?_)
          obtain ⟨rfl, q_19⟩ := q_25
          have j_20 := JW.trans j_18 (JW.weak q_19 (Sub.cons (LMs LM0) (by omega) (by omega) (by decide) (Or.inl rfl) (Sub.cons (LMs (LMs LM0)) (by omega) (by omega) (by decide) (Or.inl rfl) (Sub.cons (LMs (LMs (LMs LM0))) (by omega) (by omega) (by decide) (Or.inr ⟨by decide, by decide⟩) Sub.nil))))
          refine aw_pop dX5_readFactor_136 rfl ?_
          refine aw_iconst (v := 1) dX5_readFactor_137 (by decide) ?_
          refine aw_zreti dX5_readFactor_138 rfl (by first | exact Or.inl rfl | exact Or.inr rfl | assumption) (Nat.le_of_ble_eq_true rfl) (Nat.le_of_ble_eq_true rfl) ?_
          exact ⟨⟨(by first | exact Or.inl rfl | exact Or.inr rfl | assumption), ⟨(a + 1), by omega, ⟨⟨_, _, _, ((JW.same q_19 (by decide) (fun k => (nfc (by omega) (nfc (by omega) (nfc (by omega) nf0))))).trans e_18)⟩, by omega⟩⟩⟩, rfl, j_20⟩
        · skip
          refine aw_aload_n dX5_readFactor_105 rfl ?_
          refine aw_get dX5_readFactor_106 fl_X5_15 ((hJ0.2.1 _ hp.1 hp.2).trans hR) (by omega) rfl ?_
          refine aw_callVi (J' := jX10_cannotStand) (As := []) (st := []) dX5_readFactor_109 tb_493 ok_X10_cannotStand ⟨_, te_0⟩ (by omega) rfl rfl (g_X10_cannotStand l D b N V hN hJ0.1 a (⟨⟨_, _, _, te_0⟩, by omega⟩)) rfl (Nat.le_of_ble_eq_true rfl) ⟨Nat.le_of_ble_eq_true rfl, Nat.le_of_ble_eq_true rfl, Nat.le_of_ble_eq_true rfl, Nat.le_of_ble_eq_true rfl⟩ (fun r_35 N_36 V_30 q_37 => ?_)
          obtain ⟨⟨z_28, h_27⟩, rfl, q_26⟩ := q_37
          have j_29 := JW.trans hJ0 (JW.weak q_26 (Sub.cons (LMs (LMs (LMs (LMs LM0)))) (by decide) (by decide) (by decide) (Or.inr ⟨by decide, by decide⟩) Sub.nil))
          obtain ⟨h_34, a_31, ha_32, ⟨ts_t_33, tn_t_33, tf_t_33, te_t_33⟩, hb_t_33⟩ := h_27
          obtain rfl := h_34
          refine aw_zreti dX5_readFactor_112 rfl (by first | exact Or.inl rfl | exact Or.inr rfl | assumption) (Nat.le_of_ble_eq_true rfl) (Nat.le_of_ble_eq_true rfl) ?_
          exact ⟨⟨(by first | exact Or.inl rfl | exact Or.inr rfl | assumption), ⟨a_31, by omega, ⟨⟨_, _, _, te_t_33⟩, by omega⟩⟩⟩, rfl, j_29⟩
      · skip
        refine aw_iconst (v := (-1)) dX5_readFactor_89 (by decide) ?_
        refine aw_goto (tgt := 100) dX5_readFactor_90 (by decide) ?_
        refine aw_istore_n (ls' := [some (.ref (b + p)), some (.int 1), some (.int r_3), some (.int (-1))]) dX5_readFactor_100 (Nat.le_of_ble_eq_true rfl) rfl ?_
        refine aw_iload_n dX5_readFactor_101 rfl ?_
        refine aw_if_ge (tgt := 113) dX5_readFactor_102 (by decide) (fun c_38 => ?_) (fun c_38 => ?_)
        · exact absurd c_38 (by decide)
        refine aw_aload_n dX5_readFactor_105 rfl ?_
        refine aw_get dX5_readFactor_106 fl_X5_15 ((hJ0.2.1 _ hp.1 hp.2).trans hR) (by omega) rfl ?_
        refine aw_callVi (J' := jX10_cannotStand) (As := []) (st := []) dX5_readFactor_109 tb_493 ok_X10_cannotStand ⟨_, te_0⟩ (by omega) rfl rfl (g_X10_cannotStand l D b N V hN hJ0.1 a (⟨⟨_, _, _, te_0⟩, by omega⟩)) rfl (Nat.le_of_ble_eq_true rfl) ⟨Nat.le_of_ble_eq_true rfl, Nat.le_of_ble_eq_true rfl, Nat.le_of_ble_eq_true rfl, Nat.le_of_ble_eq_true rfl⟩ (fun r_48 N_49 V_43 q_50 => ?_)
        obtain ⟨⟨z_41, h_40⟩, rfl, q_39⟩ := q_50
        have j_42 := JW.trans hJ0 (JW.weak q_39 (Sub.cons (LMs (LMs (LMs (LMs LM0)))) (by decide) (by decide) (by decide) (Or.inr ⟨by decide, by decide⟩) Sub.nil))
        obtain ⟨h_47, a_44, ha_45, ⟨ts_t_46, tn_t_46, tf_t_46, te_t_46⟩, hb_t_46⟩ := h_40
        obtain rfl := h_47
        refine aw_zreti dX5_readFactor_112 rfl (by first | exact Or.inl rfl | exact Or.inr rfl | assumption) (Nat.le_of_ble_eq_true rfl) (Nat.le_of_ble_eq_true rfl) ?_
        exact ⟨⟨(by first | exact Or.inl rfl | exact Or.inr rfl | assumption), ⟨a_44, by omega, ⟨⟨_, _, _, te_t_46⟩, by omega⟩⟩⟩, rfl, j_42⟩
    · skip
      have h0c_15 := h_9.resolve_left c_15
      have hlc_15 := h_2.resolve_left (fun z => absurd h0c_15 (by rw [z]; decide))
      refine aw_aload_n dX5_readFactor_57 rfl ?_
      refine aw_get dX5_readFactor_58 fl_X5_15 ((hJ0.2.1 _ hp.1 hp.2).trans hR) (by omega) rfl ?_
      refine aw_iconst (v := 5) dX5_readFactor_61 (by decide) ?_
      refine aw_callVi (J' := jX10_readNumber) (As := [.int 5]) (st := []) dX5_readFactor_62 tb_414 ok_X10_readNumber ⟨_, te_0⟩ (by omega) rfl rfl (g_X10_readNumber l D b N V hN hJ0.1 5 a (⟨⟨_, _, _, te_0⟩, by omega⟩)) rfl (Nat.le_of_ble_eq_true rfl) ⟨Nat.le_of_ble_eq_true rfl, Nat.le_of_ble_eq_true rfl, Nat.le_of_ble_eq_true rfl, Nat.le_of_ble_eq_true rfl⟩ (fun r_58 N_59 V_54 q_60 => ?_)
      obtain ⟨h_52, rfl, q_51⟩ := q_60
      have j_53 := JW.trans hJ0 (JW.weak q_51 (Sub.cons LM0 (by decide) (by decide) (by decide) (Or.inr ⟨by decide, by decide⟩) (Sub.cons (LMs (LMs (LMs (LMs LM0)))) (by decide) (by decide) (by decide) (Or.inr ⟨by decide, by decide⟩) Sub.nil)))
      obtain ⟨a_55, ha_56, ⟨ts_t_57, tn_t_57, tf_t_57, te_t_57⟩, hb_t_57⟩ := h_52
      refine aw_istore_n (ls' := [some (.ref (b + p)), some (.int 1), some (.int r_3), some (.int r_58)]) dX5_readFactor_65 (Nat.le_of_ble_eq_true rfl) rfl ?_
      refine aw_iload_n dX5_readFactor_66 rfl ?_
      refine aw_if_ge (tgt := 72) dX5_readFactor_67 (by decide) (fun c_61 => ?_) (fun c_61 => ?_)
      · skip
        refine aw_aload_n dX5_readFactor_72 rfl ?_
        refine aw_get dX5_readFactor_73 fl_X5_9 ((j_53.2.1 _ hp.1 hp.2).trans hR) (by omega) rfl ?_
        refine aw_bipush (v := 35) dX5_readFactor_76 (by decide) ?_
        refine aw_iload_n dX5_readFactor_78 rfl ?_
        obtain ⟨s8_65, r8_65, h8_65, e_65, hs_65, hr_65⟩ := JW.get j_53 (ctl_0 hx)
        refine aw_callVi (J' := jX4_add) (As := [.int 35, .int r_58]) (st := []) dX5_readFactor_79 tb_415 ok_X4_add ⟨_, e_65⟩ (by omega) rfl rfl (g_X4_add l D b N V_54 hN j_53.1 x hx 35 r_58 c_61) rfl (Nat.le_of_ble_eq_true rfl) ⟨Nat.le_of_ble_eq_true rfl, Nat.le_of_ble_eq_true rfl, Nat.le_of_ble_eq_true rfl, Nat.le_of_ble_eq_true rfl⟩ (fun r_66 N_67 V_64 q_68 => ?_)
        obtain ⟨rfl, q_62⟩ := q_68
        have j_63 := JW.trans j_53 (JW.weak q_62 (Sub.cons (LMs LM0) (by omega) (by omega) (by decide) (Or.inl rfl) (Sub.cons (LMs (LMs LM0)) (by omega) (by omega) (by decide) (Or.inl rfl) (Sub.cons (LMs (LMs (LMs LM0))) (by omega) (by omega) (by decide) (Or.inr ⟨by decide, by decide⟩) Sub.nil))))
        refine aw_pop dX5_readFactor_82 rfl ?_
        refine aw_iconst (v := 1) dX5_readFactor_83 (by decide) ?_
        refine aw_zreti dX5_readFactor_84 rfl (by first | exact Or.inl rfl | exact Or.inr rfl | assumption) (Nat.le_of_ble_eq_true rfl) (Nat.le_of_ble_eq_true rfl) ?_
        exact ⟨⟨(by first | exact Or.inl rfl | exact Or.inr rfl | assumption), ⟨a_55, by omega, ⟨⟨_, _, _, ((JW.same q_62 (by decide) (fun k => (nfc (by omega) (nfc (by omega) (nfc (by omega) nf0))))).trans te_t_57)⟩, by omega⟩⟩⟩, rfl, j_63⟩
      · skip
        refine aw_iconst (v := 0) dX5_readFactor_70 (by decide) ?_
        refine aw_zreti dX5_readFactor_71 rfl (by first | exact Or.inl rfl | exact Or.inr rfl | assumption) (Nat.le_of_ble_eq_true rfl) (Nat.le_of_ble_eq_true rfl) ?_
        exact ⟨⟨(by first | exact Or.inl rfl | exact Or.inr rfl | assumption), ⟨a_55, by omega, ⟨⟨_, _, _, te_t_57⟩, by omega⟩⟩⟩, rfl, j_53⟩
  · skip
    have hlc_7 := h_2.resolve_left (by rw [c_7]; decide)
    refine aw_aload_n dX5_readFactor_14 rfl ?_
    refine aw_iload_n dX5_readFactor_15 rfl ?_
    refine aw_callVi (J' := jX5_open) (As := [.int 1]) (st := []) dX5_readFactor_16 tb_407 ok_X5_open ⟨_, ((hJ0.2.1 _ hp.1 hp.2).trans hR)⟩ (by omega) rfl rfl (g_X5_open_1 l D b N V hN hJ0.1 p x ⟨by omega, by omega⟩ hx ((hJ0.2.1 _ hp.1 hp.2).trans hR) a (⟨⟨_, _, _, te_0⟩, by omega⟩) (by omega)) rfl (Nat.le_of_ble_eq_true rfl) ⟨Nat.le_of_ble_eq_true rfl, Nat.le_of_ble_eq_true rfl, Nat.le_of_ble_eq_true rfl, Nat.le_of_ble_eq_true rfl⟩ (fun r_78 N_79 V_73 q_80 => ?_)
    obtain ⟨⟨z_71, h_70⟩, rfl, q_69⟩ := q_80
    have j_72 := JW.trans hJ0 (JW.weak q_69 (Sub.cons LM0 (by decide) (by decide) (by decide) (Or.inr ⟨by decide, by decide⟩) Sub.nil))
    obtain ⟨h_77, a_74, ha_75, ⟨ts_t_76, tn_t_76, tf_t_76, te_t_76⟩, hb_t_76⟩ := h_70
    obtain rfl := h_77
    refine aw_if_eq (tgt := 48) dX5_readFactor_19 (by decide) (fun c_81 => ?_) (fun c_81 => ?_)
    · exact absurd c_81 (by decide)
    refine aw_aload_n dX5_readFactor_22 rfl ?_
    refine aw_iload_n dX5_readFactor_23 rfl ?_
    refine aw_iconst (v := 1) dX5_readFactor_24 (by decide) ?_
    refine aw_iadd dX5_readFactor_25 ?_
    refine aw_eqi (y := 2) (by decide) ?_
    refine aw_callVi (J' := jX5_readSum) (As := [.int 2]) (st := []) dX5_readFactor_26 tb_395 ok_X5_readSum ⟨_, ((j_72.2.1 _ hp.1 hp.2).trans hR)⟩ (by omega) rfl rfl (g_X5_readSum_2 l D b N V_73 hN j_72.1 p x ⟨by omega, by omega⟩ hx ((j_72.2.1 _ hp.1 hp.2).trans hR) a_74 (⟨⟨_, _, _, te_t_76⟩, by omega⟩)) rfl (Nat.le_of_ble_eq_true rfl) ⟨Nat.le_of_ble_eq_true rfl, Nat.le_of_ble_eq_true rfl, Nat.le_of_ble_eq_true rfl, Nat.le_of_ble_eq_true rfl⟩ (fun r_90 N_91 V_86 q_92 => ?_)
    obtain ⟨⟨z_84, h_83⟩, rfl, q_82⟩ := q_92
    have j_85 := JW.trans j_72 (JW.weak q_82 (Sub.cons LM0 (by decide) (by decide) (by decide) (Or.inr ⟨by decide, by decide⟩) (Sub.cons (LMs LM0) (by omega) (by omega) (by decide) (Or.inl rfl) (Sub.cons (LMs (LMs LM0)) (by omega) (by omega) (by decide) (Or.inl rfl) (Sub.cons (LMs (LMs (LMs LM0))) (by omega) (by omega) (by decide) (Or.inr ⟨by decide, by decide⟩) (Sub.cons (LMs (LMs (LMs (LMs LM0)))) (by decide) (by decide) (by decide) (Or.inr ⟨by decide, by decide⟩) Sub.nil))))))
    obtain ⟨a_87, ha_88, ⟨ts_t_89, tn_t_89, tf_t_89, te_t_89⟩, hb_t_89⟩ := h_83
    refine aw_if_eq (tgt := 48) dX5_readFactor_29 (by decide) (fun c_93 => ?_) (fun c_93 => ?_)
    · skip
      refine aw_iconst (v := 0) dX5_readFactor_48 (by decide) ?_
      refine aw_zreti dX5_readFactor_49 rfl (by first | exact Or.inl rfl | exact Or.inr rfl | assumption) (Nat.le_of_ble_eq_true rfl) (Nat.le_of_ble_eq_true rfl) ?_
      exact ⟨⟨(by first | exact Or.inl rfl | exact Or.inr rfl | assumption), ⟨a_87, by omega, ⟨⟨_, _, _, te_t_89⟩, by omega⟩⟩⟩, rfl, j_85⟩
    · skip
      refine aw_aload_n dX5_readFactor_32 rfl ?_
      refine aw_get dX5_readFactor_33 fl_X5_15 ((j_85.2.1 _ hp.1 hp.2).trans hR) (by omega) rfl ?_
      refine aw_bipush (v := 93) dX5_readFactor_36 (by decide) ?_
      refine aw_callVi (J' := jX10_expect) (As := [.int 93]) (st := []) dX5_readFactor_38 tb_412 ok_X10_expect ⟨_, te_t_89⟩ (by omega) rfl rfl (g_X10_expect l D b N V_86 hN j_85.1 93 a_87 (⟨⟨_, _, _, te_t_89⟩, by omega⟩) (by decide)) rfl (Nat.le_of_ble_eq_true rfl) ⟨Nat.le_of_ble_eq_true rfl, Nat.le_of_ble_eq_true rfl, Nat.le_of_ble_eq_true rfl, Nat.le_of_ble_eq_true rfl⟩ (fun r_102 N_103 V_98 q_104 => ?_)
      obtain ⟨⟨z_96, h_95⟩, rfl, q_94⟩ := q_104
      have j_97 := JW.trans j_85 (JW.weak q_94 (Sub.cons LM0 (by decide) (by decide) (by decide) (Or.inr ⟨by decide, by decide⟩) (Sub.cons (LMs (LMs (LMs (LMs LM0)))) (by decide) (by decide) (by decide) (Or.inr ⟨by decide, by decide⟩) Sub.nil)))
      obtain ⟨a_99, ha_100, ⟨ts_t_101, tn_t_101, tf_t_101, te_t_101⟩, hb_t_101⟩ := h_95
      refine aw_if_eq (tgt := 48) dX5_readFactor_41 (by decide) (fun c_105 => ?_) (fun c_105 => ?_)
      · skip
        refine aw_iconst (v := 0) dX5_readFactor_48 (by decide) ?_
        refine aw_zreti dX5_readFactor_49 rfl (by first | exact Or.inl rfl | exact Or.inr rfl | assumption) (Nat.le_of_ble_eq_true rfl) (Nat.le_of_ble_eq_true rfl) ?_
        exact ⟨⟨(by first | exact Or.inl rfl | exact Or.inr rfl | assumption), ⟨a_99, by omega, ⟨⟨_, _, _, te_t_101⟩, by omega⟩⟩⟩, rfl, j_97⟩
      · skip
        refine aw_iconst (v := 1) dX5_readFactor_44 (by decide) ?_
        refine aw_goto (tgt := 49) dX5_readFactor_45 (by decide) ?_
        refine aw_zreti dX5_readFactor_49 rfl (by first | exact Or.inl rfl | exact Or.inr rfl | assumption) (Nat.le_of_ble_eq_true rfl) (Nat.le_of_ble_eq_true rfl) ?_
        exact ⟨⟨(by first | exact Or.inl rfl | exact Or.inr rfl | assumption), ⟨a_99, by omega, ⟨⟨_, _, _, te_t_101⟩, by omega⟩⟩⟩, rfl, j_97⟩

set_option maxHeartbeats 4000000 in
set_option maxRecDepth 100000 in
theorem g_X5_readProduct_1 (l : Launch) (D : va_G) (b : Nat) (N : Nat) (V : Wd) (hN : 100 ≤ N) (hW : CW D b V) (p x : Nat) (hp : 100 ≤ p ∧ p < N) (hx : x = 57 ∨ x = 65) (hR : V p = cO 5 [.ref (b + 1), .ref (b + x)]) (a : Nat) (hT : TA b a V) : MI l D b 21 jX5_readProduct [.ref (b + p), .int 1] N V 0 0 (fun r N9 V9 => ((r = 0 ∨ r = 1) ∧ (∃ a9, a ≤ a9 ∧ TA b a9 V9)) ∧ N = N9 ∧ JW D b N [(1, 1, 3, 3), (x + 1, x + 1, 0, 1000000), (x + 2, x + 2, 0, 1000000), (x, x, 2, 2), (1, 1, 4, 4)] V V9) := by
  have hJ0 : JW D b N [(1, 1, 3, 3), (x + 1, x + 1, 0, 1000000), (x + 2, x + 2, 0, 1000000), (x, x, 2, 2), (1, 1, 4, 4)] V V := JW.rf hW
  obtain ⟨⟨ts_0, tn_0, tf_0, te_0⟩, ha_0⟩ := id hT
  refine mw_of (by decide) (by simp [Value.category]) (Nat.le_of_ble_eq_true rfl) ?_
  show AW l D b jX5_readProduct (fx_rm 21 0 0) none (fx_MQ D b 0 0 (fx_qi (fun r N9 V9 => ((r = 0 ∨ r = 1) ∧ (∃ a9, a ≤ a9 ∧ TA b a9 V9)) ∧ N = N9 ∧ JW D b N [(1, 1, 3, 3), (x + 1, x + 1, 0, 1000000), (x + 2, x + 2, 0, 1000000), (x, x, 2, 2), (1, 1, 4, 4)] V V9))) 0 [some (.ref (b + p)), some (.int 1), none] [] N V 0 0
  refine aw_aload_n dX5_readProduct_0 rfl ?_
  refine aw_iload_n dX5_readProduct_1 rfl ?_
  refine aw_callVi (J' := jX5_readFactor) (As := [.int 1]) (st := []) dX5_readProduct_2 tb_403 ok_X5_readFactor ⟨_, ((hJ0.2.1 _ hp.1 hp.2).trans hR)⟩ (by omega) rfl rfl (g_X5_readFactor_1 l D b N V hN hJ0.1 p x ⟨by omega, by omega⟩ hx ((hJ0.2.1 _ hp.1 hp.2).trans hR) a (⟨⟨_, _, _, te_0⟩, by omega⟩)) rfl (Nat.le_of_ble_eq_true rfl) ⟨Nat.le_of_ble_eq_true rfl, Nat.le_of_ble_eq_true rfl, Nat.le_of_ble_eq_true rfl, Nat.le_of_ble_eq_true rfl⟩ (fun r_9 N_10 V_5 q_11 => ?_)
  obtain ⟨⟨z_3, h_2⟩, rfl, q_1⟩ := q_11
  have j_4 := JW.trans hJ0 (JW.weak q_1 (Sub.cons LM0 (by decide) (by decide) (by decide) (Or.inr ⟨by decide, by decide⟩) (Sub.cons (LMs LM0) (by omega) (by omega) (by decide) (Or.inl rfl) (Sub.cons (LMs (LMs LM0)) (by omega) (by omega) (by decide) (Or.inl rfl) (Sub.cons (LMs (LMs (LMs LM0))) (by omega) (by omega) (by decide) (Or.inr ⟨by decide, by decide⟩) (Sub.cons (LMs (LMs (LMs (LMs LM0)))) (by decide) (by decide) (by decide) (Or.inr ⟨by decide, by decide⟩) Sub.nil))))))
  obtain ⟨a_6, ha_7, ⟨ts_t_8, tn_t_8, tf_t_8, te_t_8⟩, hb_t_8⟩ := h_2
  refine aw_if_ne (tgt := 10) dX5_readProduct_5 (by decide) (fun c_12 => ?_) (fun c_12 => ?_)
  · skip
    have ml_10_13 : ∀ (m : Nat) (a10 : Nat) (V10 : Wd), m = 260 - a10 → (JW D b N [(1, 1, 3, 3), (x + 1, x + 1, 0, 1000000), (x + 2, x + 2, 0, 1000000), (x, x, 2, 2), (1, 1, 4, 4)] V V10) → (TA b a10 V10) → (a ≤ a10) → AW l D b jX5_readProduct (fx_rm 21 0 0) none (fx_MQ D b 0 0 (fx_qi (fun r N9 V9 => ((r = 0 ∨ r = 1) ∧ (∃ a9, a ≤ a9 ∧ TA b a9 V9)) ∧ N = N9 ∧ JW D b N [(1, 1, 3, 3), (x + 1, x + 1, 0, 1000000), (x + 2, x + 2, 0, 1000000), (x, x, 2, 2), (1, 1, 4, 4)] V V9))) 10 [some (.ref (b + p)), some (.int 1), none] [] N V10 0 0 := by
      intro m; refine Nat.strongRecOn m ?_
      intro m mih_10_13 a10 V10 hm10 i10_0 i10_1 i10_2
      obtain ⟨⟨ts_10, tn_10, tf_10, te_10⟩, hb_10⟩ := i10_1
      refine aw_aload_n dX5_readProduct_10 rfl ?_
      refine aw_get dX5_readProduct_11 fl_X5_15 ((i10_0.2.1 _ hp.1 hp.2).trans hR) (by omega) rfl ?_
      refine aw_get dX5_readProduct_14 fl_X5_25 te_10 (by omega) rfl ?_
      refine aw_aload_n dX5_readProduct_17 rfl ?_
      refine aw_get dX5_readProduct_18 fl_X5_15 ((i10_0.2.1 _ hp.1 hp.2).trans hR) (by omega) rfl ?_
      refine aw_get dX5_readProduct_21 fl_X5_59 te_10 (by omega) rfl ?_
      refine aw_icmp_ge (tgt := 84) dX5_readProduct_24 (by decide) (fun c_14 => ?_) (fun c_14 => ?_)
      · skip
        refine aw_iconst (v := 1) dX5_readProduct_84 (by decide) ?_
        refine aw_zreti dX5_readProduct_85 rfl (by first | exact Or.inl rfl | exact Or.inr rfl | assumption) (Nat.le_of_ble_eq_true rfl) (Nat.le_of_ble_eq_true rfl) ?_
        exact ⟨⟨(by first | exact Or.inl rfl | exact Or.inr rfl | assumption), ⟨a10, by omega, ⟨⟨_, _, _, te_10⟩, by omega⟩⟩⟩, rfl, i10_0⟩
      · skip
        refine aw_aload_n dX5_readProduct_27 rfl ?_
        refine aw_get dX5_readProduct_28 fl_X5_15 ((i10_0.2.1 _ hp.1 hp.2).trans hR) (by omega) rfl ?_
        refine aw_callVi (J' := jX10_now) (As := []) (st := []) dX5_readProduct_31 tb_390 ok_X10_now ⟨_, te_10⟩ (by omega) rfl rfl (g_X10_now l D b N V10 hN i10_0.1 a10 (⟨⟨_, _, _, te_10⟩, by omega⟩)) rfl (Nat.le_of_ble_eq_true rfl) ⟨Nat.le_of_ble_eq_true rfl, Nat.le_of_ble_eq_true rfl, Nat.le_of_ble_eq_true rfl, Nat.le_of_ble_eq_true rfl⟩ (fun r_17 N_18 V_19 q_20 => ?_)
        obtain ⟨h_16, rfl, rfl⟩ := q_20
        refine aw_callSi (J' := jX5_joinsFactors) (As := [.int r_17]) (st := []) dX5_readProduct_34 tb_494 ok_X5_joinsFactors rfl (g_X5_joinsFactors l D b N V10 hN i10_0.1 r_17) rfl (Nat.le_of_ble_eq_true rfl) ⟨Nat.le_of_ble_eq_true rfl, Nat.le_of_ble_eq_true rfl, Nat.le_of_ble_eq_true rfl, Nat.le_of_ble_eq_true rfl⟩ (fun r_24 N_25 V_26 q_27 => ?_)
        obtain ⟨⟨z_23, h_22⟩, rfl, rfl⟩ := q_27
        refine aw_if_eq (tgt := 84) dX5_readProduct_37 (by decide) (fun c_28 => ?_) (fun c_28 => ?_)
        · skip
          refine aw_iconst (v := 1) dX5_readProduct_84 (by decide) ?_
          refine aw_zreti dX5_readProduct_85 rfl (by first | exact Or.inl rfl | exact Or.inr rfl | assumption) (Nat.le_of_ble_eq_true rfl) (Nat.le_of_ble_eq_true rfl) ?_
          exact ⟨⟨(by first | exact Or.inl rfl | exact Or.inr rfl | assumption), ⟨a10, by omega, ⟨⟨_, _, _, te_10⟩, by omega⟩⟩⟩, rfl, i10_0⟩
        · skip
          have h0c_28 := h_22.resolve_left c_28
          have hlc_28 := h_16.resolve_left (fun z => absurd h0c_28 (by rw [z]; decide))
          refine aw_aload_n dX5_readProduct_40 rfl ?_
          refine aw_get dX5_readProduct_41 fl_X5_15 ((i10_0.2.1 _ hp.1 hp.2).trans hR) (by omega) rfl ?_
          refine aw_callVi (J' := jX10_now) (As := []) (st := []) dX5_readProduct_44 tb_390 ok_X10_now ⟨_, te_10⟩ (by omega) rfl rfl (g_X10_now l D b N V10 hN i10_0.1 a10 (⟨⟨_, _, _, te_10⟩, by omega⟩)) rfl (Nat.le_of_ble_eq_true rfl) ⟨Nat.le_of_ble_eq_true rfl, Nat.le_of_ble_eq_true rfl, Nat.le_of_ble_eq_true rfl, Nat.le_of_ble_eq_true rfl⟩ (fun r_31 N_32 V_33 q_34 => ?_)
          obtain ⟨h_30, rfl, rfl⟩ := q_34
          refine aw_istore_n (ls' := [some (.ref (b + p)), some (.int 1), some (.int r_31)]) dX5_readProduct_47 (Nat.le_of_ble_eq_true rfl) rfl ?_
          refine aw_aload_n dX5_readProduct_48 rfl ?_
          refine aw_get dX5_readProduct_49 fl_X5_15 ((i10_0.2.1 _ hp.1 hp.2).trans hR) (by omega) rfl ?_
          refine aw_dup dX5_readProduct_52 rfl ?_
          refine aw_get dX5_readProduct_53 fl_X5_25 te_10 (by omega) rfl ?_
          refine aw_iconst (v := 1) dX5_readProduct_56 (by decide) ?_
          refine aw_iadd dX5_readProduct_57 ?_
          refine aw_eqi (y := nI (a10 + 1)) (nI_add _ _) ?_
          refine aw_put dX5_readProduct_58 fp_X5_25 te_10 (by omega) rfl rfl (Nat.le_of_ble_eq_true rfl) rfl ?_
          refine aw_up i10_0 ct_1 ⟨_, _, _, (a10 + 1), rfl, (by first | omega | (split <;> omega))⟩ (WO (s := 3) (x := .int (nI (a10 + 1))) te_10 rfl LM0 (by decide) (by decide) (by decide) (Or.inl (by decide))) (fun V_35 j_35 k_35 e_35 => ?_)
          refine aw_aload_n dX5_readProduct_61 rfl ?_
          refine aw_iload_n dX5_readProduct_62 rfl ?_
          refine aw_callVi (J' := jX5_readFactor) (As := [.int 1]) (st := []) dX5_readProduct_63 tb_403 ok_X5_readFactor ⟨_, ((j_35.2.1 _ hp.1 hp.2).trans hR)⟩ (by omega) rfl rfl (g_X5_readFactor_1 l D b N V_35 hN j_35.1 p x ⟨by omega, by omega⟩ hx ((j_35.2.1 _ hp.1 hp.2).trans hR) (a10 + 1) (⟨⟨_, _, _, e_35⟩, by omega⟩)) rfl (Nat.le_of_ble_eq_true rfl) ⟨Nat.le_of_ble_eq_true rfl, Nat.le_of_ble_eq_true rfl, Nat.le_of_ble_eq_true rfl, Nat.le_of_ble_eq_true rfl⟩ (fun r_44 N_45 V_40 q_46 => ?_)
          obtain ⟨⟨z_38, h_37⟩, rfl, q_36⟩ := q_46
          have j_39 := JW.trans j_35 (JW.weak q_36 (Sub.cons LM0 (by decide) (by decide) (by decide) (Or.inr ⟨by decide, by decide⟩) (Sub.cons (LMs LM0) (by omega) (by omega) (by decide) (Or.inl rfl) (Sub.cons (LMs (LMs LM0)) (by omega) (by omega) (by decide) (Or.inl rfl) (Sub.cons (LMs (LMs (LMs LM0))) (by omega) (by omega) (by decide) (Or.inr ⟨by decide, by decide⟩) (Sub.cons (LMs (LMs (LMs (LMs LM0)))) (by decide) (by decide) (by decide) (Or.inr ⟨by decide, by decide⟩) Sub.nil))))))
          obtain ⟨a_41, ha_42, ⟨ts_t_43, tn_t_43, tf_t_43, te_t_43⟩, hb_t_43⟩ := h_37
          refine aw_if_ne (tgt := 71) dX5_readProduct_66 (by decide) (fun c_47 => ?_) (fun c_47 => ?_)
          · skip
            refine aw_aload_n dX5_readProduct_71 rfl ?_
            refine aw_get dX5_readProduct_72 fl_X5_9 ((j_39.2.1 _ hp.1 hp.2).trans hR) (by omega) rfl ?_
            refine aw_iload_n dX5_readProduct_75 rfl ?_
            refine aw_iconst (v := 0) dX5_readProduct_76 (by decide) ?_
            obtain ⟨s8_51, r8_51, h8_51, e_51, hs_51, hr_51⟩ := JW.get j_39 (ctl_0 hx)
            refine aw_callVi (J' := jX4_add) (As := [.int r_31, .int 0]) (st := []) dX5_readProduct_77 tb_415 ok_X4_add ⟨_, e_51⟩ (by omega) rfl rfl (g_X4_add l D b N V_40 hN j_39.1 x hx r_31 0 (by decide)) rfl (Nat.le_of_ble_eq_true rfl) ⟨Nat.le_of_ble_eq_true rfl, Nat.le_of_ble_eq_true rfl, Nat.le_of_ble_eq_true rfl, Nat.le_of_ble_eq_true rfl⟩ (fun r_52 N_53 V_50 q_54 => ?_)
            obtain ⟨rfl, q_48⟩ := q_54
            have j_49 := JW.trans j_39 (JW.weak q_48 (Sub.cons (LMs LM0) (by omega) (by omega) (by decide) (Or.inl rfl) (Sub.cons (LMs (LMs LM0)) (by omega) (by omega) (by decide) (Or.inl rfl) (Sub.cons (LMs (LMs (LMs LM0))) (by omega) (by omega) (by decide) (Or.inr ⟨by decide, by decide⟩) Sub.nil))))
            refine aw_pop dX5_readProduct_80 rfl ?_
            refine aw_goto (tgt := 10) dX5_readProduct_81 (by decide) ?_
            refine aw_le ?_ (mih_10_13 _ (by omega) a_41 V_50 rfl (j_49) (⟨⟨_, _, _, ((JW.same q_48 (by decide) (fun k => (nfc (by omega) (nfc (by omega) (nfc (by omega) nf0))))).trans te_t_43)⟩, by omega⟩) (by omega))
            exact ⟨rfl, ⟨rfl, trivial⟩⟩
          · skip
            refine aw_iconst (v := 0) dX5_readProduct_69 (by decide) ?_
            refine aw_zreti dX5_readProduct_70 rfl (by first | exact Or.inl rfl | exact Or.inr rfl | assumption) (Nat.le_of_ble_eq_true rfl) (Nat.le_of_ble_eq_true rfl) ?_
            exact ⟨⟨(by first | exact Or.inl rfl | exact Or.inr rfl | assumption), ⟨a_41, by omega, ⟨⟨_, _, _, te_t_43⟩, by omega⟩⟩⟩, rfl, j_39⟩
    refine aw_le ?_ (ml_10_13 _ a_6 V_5 rfl (j_4) (⟨⟨_, _, _, te_t_8⟩, by omega⟩) (by omega))
    exact ⟨rfl, ⟨rfl, trivial⟩⟩
  · skip
    refine aw_iconst (v := 0) dX5_readProduct_8 (by decide) ?_
    refine aw_zreti dX5_readProduct_9 rfl (by first | exact Or.inl rfl | exact Or.inr rfl | assumption) (Nat.le_of_ble_eq_true rfl) (Nat.le_of_ble_eq_true rfl) ?_
    exact ⟨⟨(by first | exact Or.inl rfl | exact Or.inr rfl | assumption), ⟨a_6, by omega, ⟨⟨_, _, _, te_t_8⟩, by omega⟩⟩⟩, rfl, j_4⟩

set_option maxHeartbeats 4000000 in
set_option maxRecDepth 100000 in
theorem g_X5_readSum_1 (l : Launch) (D : va_G) (b : Nat) (N : Nat) (V : Wd) (hN : 100 ≤ N) (hW : CW D b V) (p x : Nat) (hp : 100 ≤ p ∧ p < N) (hx : x = 57 ∨ x = 65) (hR : V p = cO 5 [.ref (b + 1), .ref (b + x)]) (a : Nat) (hT : TA b a V) : MI l D b 22 jX5_readSum [.ref (b + p), .int 1] N V 0 0 (fun r N9 V9 => ((r = 0 ∨ r = 1) ∧ (∃ a9, a ≤ a9 ∧ TA b a9 V9)) ∧ N = N9 ∧ JW D b N [(1, 1, 3, 3), (x + 1, x + 1, 0, 1000000), (x + 2, x + 2, 0, 1000000), (x, x, 2, 2), (1, 1, 4, 4)] V V9) := by
  have hJ0 : JW D b N [(1, 1, 3, 3), (x + 1, x + 1, 0, 1000000), (x + 2, x + 2, 0, 1000000), (x, x, 2, 2), (1, 1, 4, 4)] V V := JW.rf hW
  obtain ⟨⟨ts_0, tn_0, tf_0, te_0⟩, ha_0⟩ := id hT
  refine mw_of (by decide) (by simp [Value.category]) (Nat.le_of_ble_eq_true rfl) ?_
  show AW l D b jX5_readSum (fx_rm 22 0 0) none (fx_MQ D b 0 0 (fx_qi (fun r N9 V9 => ((r = 0 ∨ r = 1) ∧ (∃ a9, a ≤ a9 ∧ TA b a9 V9)) ∧ N = N9 ∧ JW D b N [(1, 1, 3, 3), (x + 1, x + 1, 0, 1000000), (x + 2, x + 2, 0, 1000000), (x, x, 2, 2), (1, 1, 4, 4)] V V9))) 0 [some (.ref (b + p)), some (.int 1), none] [] N V 0 0
  refine aw_aload_n dX5_readSum_0 rfl ?_
  refine aw_iload_n dX5_readSum_1 rfl ?_
  refine aw_callVi (J' := jX5_readProduct) (As := [.int 1]) (st := []) dX5_readSum_2 tb_399 ok_X5_readProduct ⟨_, ((hJ0.2.1 _ hp.1 hp.2).trans hR)⟩ (by omega) rfl rfl (g_X5_readProduct_1 l D b N V hN hJ0.1 p x ⟨by omega, by omega⟩ hx ((hJ0.2.1 _ hp.1 hp.2).trans hR) a (⟨⟨_, _, _, te_0⟩, by omega⟩)) rfl (Nat.le_of_ble_eq_true rfl) ⟨Nat.le_of_ble_eq_true rfl, Nat.le_of_ble_eq_true rfl, Nat.le_of_ble_eq_true rfl, Nat.le_of_ble_eq_true rfl⟩ (fun r_9 N_10 V_5 q_11 => ?_)
  obtain ⟨⟨z_3, h_2⟩, rfl, q_1⟩ := q_11
  have j_4 := JW.trans hJ0 (JW.weak q_1 (Sub.cons LM0 (by decide) (by decide) (by decide) (Or.inr ⟨by decide, by decide⟩) (Sub.cons (LMs LM0) (by omega) (by omega) (by decide) (Or.inl rfl) (Sub.cons (LMs (LMs LM0)) (by omega) (by omega) (by decide) (Or.inl rfl) (Sub.cons (LMs (LMs (LMs LM0))) (by omega) (by omega) (by decide) (Or.inr ⟨by decide, by decide⟩) (Sub.cons (LMs (LMs (LMs (LMs LM0)))) (by decide) (by decide) (by decide) (Or.inr ⟨by decide, by decide⟩) Sub.nil))))))
  obtain ⟨a_6, ha_7, ⟨ts_t_8, tn_t_8, tf_t_8, te_t_8⟩, hb_t_8⟩ := h_2
  refine aw_if_ne (tgt := 10) dX5_readSum_5 (by decide) (fun c_12 => ?_) (fun c_12 => ?_)
  · skip
    have ml_10_13 : ∀ (m : Nat) (a10 : Nat) (V10 : Wd), m = 260 - a10 → (JW D b N [(1, 1, 3, 3), (x + 1, x + 1, 0, 1000000), (x + 2, x + 2, 0, 1000000), (x, x, 2, 2), (1, 1, 4, 4)] V V10) → (TA b a10 V10) → (a ≤ a10) → AW l D b jX5_readSum (fx_rm 22 0 0) none (fx_MQ D b 0 0 (fx_qi (fun r N9 V9 => ((r = 0 ∨ r = 1) ∧ (∃ a9, a ≤ a9 ∧ TA b a9 V9)) ∧ N = N9 ∧ JW D b N [(1, 1, 3, 3), (x + 1, x + 1, 0, 1000000), (x + 2, x + 2, 0, 1000000), (x, x, 2, 2), (1, 1, 4, 4)] V V9))) 10 [some (.ref (b + p)), some (.int 1), none] [] N V10 0 0 := by
      intro m; refine Nat.strongRecOn m ?_
      intro m mih_10_13 a10 V10 hm10 i10_0 i10_1 i10_2
      obtain ⟨⟨ts_10, tn_10, tf_10, te_10⟩, hb_10⟩ := i10_1
      refine aw_aload_n dX5_readSum_10 rfl ?_
      refine aw_get dX5_readSum_11 fl_X5_15 ((i10_0.2.1 _ hp.1 hp.2).trans hR) (by omega) rfl ?_
      refine aw_get dX5_readSum_14 fl_X5_25 te_10 (by omega) rfl ?_
      refine aw_aload_n dX5_readSum_17 rfl ?_
      refine aw_get dX5_readSum_18 fl_X5_15 ((i10_0.2.1 _ hp.1 hp.2).trans hR) (by omega) rfl ?_
      refine aw_get dX5_readSum_21 fl_X5_59 te_10 (by omega) rfl ?_
      refine aw_icmp_ge (tgt := 95) dX5_readSum_24 (by decide) (fun c_14 => ?_) (fun c_14 => ?_)
      · skip
        refine aw_iconst (v := 1) dX5_readSum_95 (by decide) ?_
        refine aw_zreti dX5_readSum_96 rfl (by first | exact Or.inl rfl | exact Or.inr rfl | assumption) (Nat.le_of_ble_eq_true rfl) (Nat.le_of_ble_eq_true rfl) ?_
        exact ⟨⟨(by first | exact Or.inl rfl | exact Or.inr rfl | assumption), ⟨a10, by omega, ⟨⟨_, _, _, te_10⟩, by omega⟩⟩⟩, rfl, i10_0⟩
      · skip
        refine aw_aload_n dX5_readSum_27 rfl ?_
        refine aw_get dX5_readSum_28 fl_X5_15 ((i10_0.2.1 _ hp.1 hp.2).trans hR) (by omega) rfl ?_
        refine aw_callVi (J' := jX10_now) (As := []) (st := []) dX5_readSum_31 tb_390 ok_X10_now ⟨_, te_10⟩ (by omega) rfl rfl (g_X10_now l D b N V10 hN i10_0.1 a10 (⟨⟨_, _, _, te_10⟩, by omega⟩)) rfl (Nat.le_of_ble_eq_true rfl) ⟨Nat.le_of_ble_eq_true rfl, Nat.le_of_ble_eq_true rfl, Nat.le_of_ble_eq_true rfl, Nat.le_of_ble_eq_true rfl⟩ (fun r_17 N_18 V_19 q_20 => ?_)
        obtain ⟨h_16, rfl, rfl⟩ := q_20
        refine aw_bipush (v := 43) dX5_readSum_34 (by decide) ?_
        refine aw_icmp_eq (tgt := 51) dX5_readSum_36 (by decide) (fun c_21 => ?_) (fun c_21 => ?_)
        · skip
          have hlc_21 := h_16.resolve_left (by rw [c_21]; decide)
          refine aw_aload_n dX5_readSum_51 rfl ?_
          refine aw_get dX5_readSum_52 fl_X5_15 ((i10_0.2.1 _ hp.1 hp.2).trans hR) (by omega) rfl ?_
          refine aw_callVi (J' := jX10_now) (As := []) (st := []) dX5_readSum_55 tb_390 ok_X10_now ⟨_, te_10⟩ (by omega) rfl rfl (g_X10_now l D b N V10 hN i10_0.1 a10 (⟨⟨_, _, _, te_10⟩, by omega⟩)) rfl (Nat.le_of_ble_eq_true rfl) ⟨Nat.le_of_ble_eq_true rfl, Nat.le_of_ble_eq_true rfl, Nat.le_of_ble_eq_true rfl, Nat.le_of_ble_eq_true rfl⟩ (fun r_24 N_25 V_26 q_27 => ?_)
          obtain ⟨h_23, rfl, rfl⟩ := q_27
          refine aw_istore_n (ls' := [some (.ref (b + p)), some (.int 1), some (.int r_24)]) dX5_readSum_58 (Nat.le_of_ble_eq_true rfl) rfl ?_
          refine aw_aload_n dX5_readSum_59 rfl ?_
          refine aw_get dX5_readSum_60 fl_X5_15 ((i10_0.2.1 _ hp.1 hp.2).trans hR) (by omega) rfl ?_
          refine aw_dup dX5_readSum_63 rfl ?_
          refine aw_get dX5_readSum_64 fl_X5_25 te_10 (by omega) rfl ?_
          refine aw_iconst (v := 1) dX5_readSum_67 (by decide) ?_
          refine aw_iadd dX5_readSum_68 ?_
          refine aw_eqi (y := nI (a10 + 1)) (nI_add _ _) ?_
          refine aw_put dX5_readSum_69 fp_X5_25 te_10 (by omega) rfl rfl (Nat.le_of_ble_eq_true rfl) rfl ?_
          refine aw_up i10_0 ct_1 ⟨_, _, _, (a10 + 1), rfl, (by first | omega | (split <;> omega))⟩ (WO (s := 3) (x := .int (nI (a10 + 1))) te_10 rfl LM0 (by decide) (by decide) (by decide) (Or.inl (by decide))) (fun V_28 j_28 k_28 e_28 => ?_)
          refine aw_aload_n dX5_readSum_72 rfl ?_
          refine aw_iload_n dX5_readSum_73 rfl ?_
          refine aw_callVi (J' := jX5_readProduct) (As := [.int 1]) (st := []) dX5_readSum_74 tb_399 ok_X5_readProduct ⟨_, ((j_28.2.1 _ hp.1 hp.2).trans hR)⟩ (by omega) rfl rfl (g_X5_readProduct_1 l D b N V_28 hN j_28.1 p x ⟨by omega, by omega⟩ hx ((j_28.2.1 _ hp.1 hp.2).trans hR) (a10 + 1) (⟨⟨_, _, _, e_28⟩, by omega⟩)) rfl (Nat.le_of_ble_eq_true rfl) ⟨Nat.le_of_ble_eq_true rfl, Nat.le_of_ble_eq_true rfl, Nat.le_of_ble_eq_true rfl, Nat.le_of_ble_eq_true rfl⟩ (fun r_37 N_38 V_33 q_39 => ?_)
          obtain ⟨⟨z_31, h_30⟩, rfl, q_29⟩ := q_39
          have j_32 := JW.trans j_28 (JW.weak q_29 (Sub.cons LM0 (by decide) (by decide) (by decide) (Or.inr ⟨by decide, by decide⟩) (Sub.cons (LMs LM0) (by omega) (by omega) (by decide) (Or.inl rfl) (Sub.cons (LMs (LMs LM0)) (by omega) (by omega) (by decide) (Or.inl rfl) (Sub.cons (LMs (LMs (LMs LM0))) (by omega) (by omega) (by decide) (Or.inr ⟨by decide, by decide⟩) (Sub.cons (LMs (LMs (LMs (LMs LM0)))) (by decide) (by decide) (by decide) (Or.inr ⟨by decide, by decide⟩) Sub.nil))))))
          obtain ⟨a_34, ha_35, ⟨ts_t_36, tn_t_36, tf_t_36, te_t_36⟩, hb_t_36⟩ := h_30
          refine aw_if_ne (tgt := 82) dX5_readSum_77 (by decide) (fun c_40 => ?_) (fun c_40 => ?_)
          · skip
            refine aw_aload_n dX5_readSum_82 rfl ?_
            refine aw_get dX5_readSum_83 fl_X5_9 ((j_32.2.1 _ hp.1 hp.2).trans hR) (by omega) rfl ?_
            refine aw_iload_n dX5_readSum_86 rfl ?_
            refine aw_iconst (v := 0) dX5_readSum_87 (by decide) ?_
            obtain ⟨s8_44, r8_44, h8_44, e_44, hs_44, hr_44⟩ := JW.get j_32 (ctl_0 hx)
            refine aw_callVi (J' := jX4_add) (As := [.int r_24, .int 0]) (st := []) dX5_readSum_88 tb_415 ok_X4_add ⟨_, e_44⟩ (by omega) rfl rfl (g_X4_add l D b N V_33 hN j_32.1 x hx r_24 0 (by decide)) rfl (Nat.le_of_ble_eq_true rfl) ⟨Nat.le_of_ble_eq_true rfl, Nat.le_of_ble_eq_true rfl, Nat.le_of_ble_eq_true rfl, Nat.le_of_ble_eq_true rfl⟩ (fun r_45 N_46 V_43 q_47 => ?_)
            obtain ⟨rfl, q_41⟩ := q_47
            have j_42 := JW.trans j_32 (JW.weak q_41 (Sub.cons (LMs LM0) (by omega) (by omega) (by decide) (Or.inl rfl) (Sub.cons (LMs (LMs LM0)) (by omega) (by omega) (by decide) (Or.inl rfl) (Sub.cons (LMs (LMs (LMs LM0))) (by omega) (by omega) (by decide) (Or.inr ⟨by decide, by decide⟩) Sub.nil))))
            refine aw_pop dX5_readSum_91 rfl ?_
            refine aw_goto (tgt := 10) dX5_readSum_92 (by decide) ?_
            refine aw_le ?_ (mih_10_13 _ (by omega) a_34 V_43 rfl (j_42) (⟨⟨_, _, _, ((JW.same q_41 (by decide) (fun k => (nfc (by omega) (nfc (by omega) (nfc (by omega) nf0))))).trans te_t_36)⟩, by omega⟩) (by omega))
            exact ⟨rfl, ⟨rfl, trivial⟩⟩
          · skip
            refine aw_iconst (v := 0) dX5_readSum_80 (by decide) ?_
            refine aw_zreti dX5_readSum_81 rfl (by first | exact Or.inl rfl | exact Or.inr rfl | assumption) (Nat.le_of_ble_eq_true rfl) (Nat.le_of_ble_eq_true rfl) ?_
            exact ⟨⟨(by first | exact Or.inl rfl | exact Or.inr rfl | assumption), ⟨a_34, by omega, ⟨⟨_, _, _, te_t_36⟩, by omega⟩⟩⟩, rfl, j_32⟩
        · skip
          refine aw_aload_n dX5_readSum_39 rfl ?_
          refine aw_get dX5_readSum_40 fl_X5_15 ((i10_0.2.1 _ hp.1 hp.2).trans hR) (by omega) rfl ?_
          refine aw_callVi (J' := jX10_now) (As := []) (st := []) dX5_readSum_43 tb_390 ok_X10_now ⟨_, te_10⟩ (by omega) rfl rfl (g_X10_now l D b N V10 hN i10_0.1 a10 (⟨⟨_, _, _, te_10⟩, by omega⟩)) rfl (Nat.le_of_ble_eq_true rfl) ⟨Nat.le_of_ble_eq_true rfl, Nat.le_of_ble_eq_true rfl, Nat.le_of_ble_eq_true rfl, Nat.le_of_ble_eq_true rfl⟩ (fun r_50 N_51 V_52 q_53 => ?_)
          obtain ⟨h_49, rfl, rfl⟩ := q_53
          refine aw_bipush (v := 45) dX5_readSum_46 (by decide) ?_
          refine aw_icmp_ne (tgt := 95) dX5_readSum_48 (by decide) (fun c_54 => ?_) (fun c_54 => ?_)
          · skip
            refine aw_iconst (v := 1) dX5_readSum_95 (by decide) ?_
            refine aw_zreti dX5_readSum_96 rfl (by first | exact Or.inl rfl | exact Or.inr rfl | assumption) (Nat.le_of_ble_eq_true rfl) (Nat.le_of_ble_eq_true rfl) ?_
            exact ⟨⟨(by first | exact Or.inl rfl | exact Or.inr rfl | assumption), ⟨a10, by omega, ⟨⟨_, _, _, te_10⟩, by omega⟩⟩⟩, rfl, i10_0⟩
          · skip
            have hlc_54 := h_49.resolve_left (by rw [c_54]; decide)
            refine aw_aload_n dX5_readSum_51 rfl ?_
            refine aw_get dX5_readSum_52 fl_X5_15 ((i10_0.2.1 _ hp.1 hp.2).trans hR) (by omega) rfl ?_
            refine aw_callVi (J' := jX10_now) (As := []) (st := []) dX5_readSum_55 tb_390 ok_X10_now ⟨_, te_10⟩ (by omega) rfl rfl (g_X10_now l D b N V10 hN i10_0.1 a10 (⟨⟨_, _, _, te_10⟩, by omega⟩)) rfl (Nat.le_of_ble_eq_true rfl) ⟨Nat.le_of_ble_eq_true rfl, Nat.le_of_ble_eq_true rfl, Nat.le_of_ble_eq_true rfl, Nat.le_of_ble_eq_true rfl⟩ (fun r_57 N_58 V_59 q_60 => ?_)
            obtain ⟨h_56, rfl, rfl⟩ := q_60
            refine aw_istore_n (ls' := [some (.ref (b + p)), some (.int 1), some (.int r_57)]) dX5_readSum_58 (Nat.le_of_ble_eq_true rfl) rfl ?_
            refine aw_aload_n dX5_readSum_59 rfl ?_
            refine aw_get dX5_readSum_60 fl_X5_15 ((i10_0.2.1 _ hp.1 hp.2).trans hR) (by omega) rfl ?_
            refine aw_dup dX5_readSum_63 rfl ?_
            refine aw_get dX5_readSum_64 fl_X5_25 te_10 (by omega) rfl ?_
            refine aw_iconst (v := 1) dX5_readSum_67 (by decide) ?_
            refine aw_iadd dX5_readSum_68 ?_
            refine aw_eqi (y := nI (a10 + 1)) (nI_add _ _) ?_
            refine aw_put dX5_readSum_69 fp_X5_25 te_10 (by omega) rfl rfl (Nat.le_of_ble_eq_true rfl) rfl ?_
            refine aw_up i10_0 ct_1 ⟨_, _, _, (a10 + 1), rfl, (by first | omega | (split <;> omega))⟩ (WO (s := 3) (x := .int (nI (a10 + 1))) te_10 rfl LM0 (by decide) (by decide) (by decide) (Or.inl (by decide))) (fun V_61 j_61 k_61 e_61 => ?_)
            refine aw_aload_n dX5_readSum_72 rfl ?_
            refine aw_iload_n dX5_readSum_73 rfl ?_
            refine aw_callVi (J' := jX5_readProduct) (As := [.int 1]) (st := []) dX5_readSum_74 tb_399 ok_X5_readProduct ⟨_, ((j_61.2.1 _ hp.1 hp.2).trans hR)⟩ (by omega) rfl rfl (g_X5_readProduct_1 l D b N V_61 hN j_61.1 p x ⟨by omega, by omega⟩ hx ((j_61.2.1 _ hp.1 hp.2).trans hR) (a10 + 1) (⟨⟨_, _, _, e_61⟩, by omega⟩)) rfl (Nat.le_of_ble_eq_true rfl) ⟨Nat.le_of_ble_eq_true rfl, Nat.le_of_ble_eq_true rfl, Nat.le_of_ble_eq_true rfl, Nat.le_of_ble_eq_true rfl⟩ (fun r_70 N_71 V_66 q_72 => ?_)
            obtain ⟨⟨z_64, h_63⟩, rfl, q_62⟩ := q_72
            have j_65 := JW.trans j_61 (JW.weak q_62 (Sub.cons LM0 (by decide) (by decide) (by decide) (Or.inr ⟨by decide, by decide⟩) (Sub.cons (LMs LM0) (by omega) (by omega) (by decide) (Or.inl rfl) (Sub.cons (LMs (LMs LM0)) (by omega) (by omega) (by decide) (Or.inl rfl) (Sub.cons (LMs (LMs (LMs LM0))) (by omega) (by omega) (by decide) (Or.inr ⟨by decide, by decide⟩) (Sub.cons (LMs (LMs (LMs (LMs LM0)))) (by decide) (by decide) (by decide) (Or.inr ⟨by decide, by decide⟩) Sub.nil))))))
            obtain ⟨a_67, ha_68, ⟨ts_t_69, tn_t_69, tf_t_69, te_t_69⟩, hb_t_69⟩ := h_63
            refine aw_if_ne (tgt := 82) dX5_readSum_77 (by decide) (fun c_73 => ?_) (fun c_73 => ?_)
            · skip
              refine aw_aload_n dX5_readSum_82 rfl ?_
              refine aw_get dX5_readSum_83 fl_X5_9 ((j_65.2.1 _ hp.1 hp.2).trans hR) (by omega) rfl ?_
              refine aw_iload_n dX5_readSum_86 rfl ?_
              refine aw_iconst (v := 0) dX5_readSum_87 (by decide) ?_
              obtain ⟨s8_77, r8_77, h8_77, e_77, hs_77, hr_77⟩ := JW.get j_65 (ctl_0 hx)
              refine aw_callVi (J' := jX4_add) (As := [.int r_57, .int 0]) (st := []) dX5_readSum_88 tb_415 ok_X4_add ⟨_, e_77⟩ (by omega) rfl rfl (g_X4_add l D b N V_66 hN j_65.1 x hx r_57 0 (by decide)) rfl (Nat.le_of_ble_eq_true rfl) ⟨Nat.le_of_ble_eq_true rfl, Nat.le_of_ble_eq_true rfl, Nat.le_of_ble_eq_true rfl, Nat.le_of_ble_eq_true rfl⟩ (fun r_78 N_79 V_76 q_80 => ?_)
              obtain ⟨rfl, q_74⟩ := q_80
              have j_75 := JW.trans j_65 (JW.weak q_74 (Sub.cons (LMs LM0) (by omega) (by omega) (by decide) (Or.inl rfl) (Sub.cons (LMs (LMs LM0)) (by omega) (by omega) (by decide) (Or.inl rfl) (Sub.cons (LMs (LMs (LMs LM0))) (by omega) (by omega) (by decide) (Or.inr ⟨by decide, by decide⟩) Sub.nil))))
              refine aw_pop dX5_readSum_91 rfl ?_
              refine aw_goto (tgt := 10) dX5_readSum_92 (by decide) ?_
              refine aw_le ?_ (mih_10_13 _ (by omega) a_67 V_76 rfl (j_75) (⟨⟨_, _, _, ((JW.same q_74 (by decide) (fun k => (nfc (by omega) (nfc (by omega) (nfc (by omega) nf0))))).trans te_t_69)⟩, by omega⟩) (by omega))
              exact ⟨rfl, ⟨rfl, trivial⟩⟩
            · skip
              refine aw_iconst (v := 0) dX5_readSum_80 (by decide) ?_
              refine aw_zreti dX5_readSum_81 rfl (by first | exact Or.inl rfl | exact Or.inr rfl | assumption) (Nat.le_of_ble_eq_true rfl) (Nat.le_of_ble_eq_true rfl) ?_
              exact ⟨⟨(by first | exact Or.inl rfl | exact Or.inr rfl | assumption), ⟨a_67, by omega, ⟨⟨_, _, _, te_t_69⟩, by omega⟩⟩⟩, rfl, j_65⟩
    refine aw_le ?_ (ml_10_13 _ a_6 V_5 rfl (j_4) (⟨⟨_, _, _, te_t_8⟩, by omega⟩) (by omega))
    exact ⟨rfl, ⟨rfl, trivial⟩⟩
  · skip
    refine aw_iconst (v := 0) dX5_readSum_8 (by decide) ?_
    refine aw_zreti dX5_readSum_9 rfl (by first | exact Or.inl rfl | exact Or.inr rfl | assumption) (Nat.le_of_ble_eq_true rfl) (Nat.le_of_ble_eq_true rfl) ?_
    exact ⟨⟨(by first | exact Or.inl rfl | exact Or.inr rfl | assumption), ⟨a_6, by omega, ⟨⟨_, _, _, te_t_8⟩, by omega⟩⟩⟩, rfl, j_4⟩

set_option maxHeartbeats 4000000 in
set_option maxRecDepth 100000 in
theorem g_X5_readComparison_1 (l : Launch) (D : va_G) (b : Nat) (N : Nat) (V : Wd) (hN : 100 ≤ N) (hW : CW D b V) (p x : Nat) (hp : 100 ≤ p ∧ p < N) (hx : x = 57 ∨ x = 65) (hR : V p = cO 5 [.ref (b + 1), .ref (b + x)]) (a : Nat) (hT : TA b a V) : MI l D b 23 jX5_readComparison [.ref (b + p), .int 1] N V 0 0 (fun r N9 V9 => ((r = 0 ∨ r = 1) ∧ (∃ a9, a ≤ a9 ∧ TA b a9 V9)) ∧ N = N9 ∧ JW D b N [(1, 1, 3, 3), (x + 1, x + 1, 0, 1000000), (x + 2, x + 2, 0, 1000000), (x, x, 2, 2), (1, 1, 4, 4)] V V9) := by
  have hJ0 : JW D b N [(1, 1, 3, 3), (x + 1, x + 1, 0, 1000000), (x + 2, x + 2, 0, 1000000), (x, x, 2, 2), (1, 1, 4, 4)] V V := JW.rf hW
  obtain ⟨⟨ts_0, tn_0, tf_0, te_0⟩, ha_0⟩ := id hT
  refine mw_of (by decide) (by simp [Value.category]) (Nat.le_of_ble_eq_true rfl) ?_
  show AW l D b jX5_readComparison (fx_rm 23 0 0) none (fx_MQ D b 0 0 (fx_qi (fun r N9 V9 => ((r = 0 ∨ r = 1) ∧ (∃ a9, a ≤ a9 ∧ TA b a9 V9)) ∧ N = N9 ∧ JW D b N [(1, 1, 3, 3), (x + 1, x + 1, 0, 1000000), (x + 2, x + 2, 0, 1000000), (x, x, 2, 2), (1, 1, 4, 4)] V V9))) 0 [some (.ref (b + p)), some (.int 1), none] [] N V 0 0
  refine aw_aload_n dX5_readComparison_0 rfl ?_
  refine aw_iload_n dX5_readComparison_1 rfl ?_
  refine aw_callVi (J' := jX5_readSum) (As := [.int 1]) (st := []) dX5_readComparison_2 tb_395 ok_X5_readSum ⟨_, ((hJ0.2.1 _ hp.1 hp.2).trans hR)⟩ (by omega) rfl rfl (g_X5_readSum_1 l D b N V hN hJ0.1 p x ⟨by omega, by omega⟩ hx ((hJ0.2.1 _ hp.1 hp.2).trans hR) a (⟨⟨_, _, _, te_0⟩, by omega⟩)) rfl (Nat.le_of_ble_eq_true rfl) ⟨Nat.le_of_ble_eq_true rfl, Nat.le_of_ble_eq_true rfl, Nat.le_of_ble_eq_true rfl, Nat.le_of_ble_eq_true rfl⟩ (fun r_9 N_10 V_5 q_11 => ?_)
  obtain ⟨⟨z_3, h_2⟩, rfl, q_1⟩ := q_11
  have j_4 := JW.trans hJ0 (JW.weak q_1 (Sub.cons LM0 (by decide) (by decide) (by decide) (Or.inr ⟨by decide, by decide⟩) (Sub.cons (LMs LM0) (by omega) (by omega) (by decide) (Or.inl rfl) (Sub.cons (LMs (LMs LM0)) (by omega) (by omega) (by decide) (Or.inl rfl) (Sub.cons (LMs (LMs (LMs LM0))) (by omega) (by omega) (by decide) (Or.inr ⟨by decide, by decide⟩) (Sub.cons (LMs (LMs (LMs (LMs LM0)))) (by decide) (by decide) (by decide) (Or.inr ⟨by decide, by decide⟩) Sub.nil))))))
  obtain ⟨a_6, ha_7, ⟨ts_t_8, tn_t_8, tf_t_8, te_t_8⟩, hb_t_8⟩ := h_2
  refine aw_if_ne (tgt := 10) dX5_readComparison_5 (by decide) (fun c_12 => ?_) (fun c_12 => ?_)
  · skip
    refine aw_aload_n dX5_readComparison_10 rfl ?_
    refine aw_get dX5_readComparison_11 fl_X5_15 ((j_4.2.1 _ hp.1 hp.2).trans hR) (by omega) rfl ?_
    refine aw_callVi (J' := jX10_now) (As := []) (st := []) dX5_readComparison_14 tb_390 ok_X10_now ⟨_, te_t_8⟩ (by omega) rfl rfl (g_X10_now l D b N V_5 hN j_4.1 a_6 (⟨⟨_, _, _, te_t_8⟩, by omega⟩)) rfl (Nat.le_of_ble_eq_true rfl) ⟨Nat.le_of_ble_eq_true rfl, Nat.le_of_ble_eq_true rfl, Nat.le_of_ble_eq_true rfl, Nat.le_of_ble_eq_true rfl⟩ (fun r_15 N_16 V_17 q_18 => ?_)
    obtain ⟨h_14, rfl, rfl⟩ := q_18
    refine aw_istore_n (ls' := [some (.ref (b + p)), some (.int 1), some (.int r_15)]) dX5_readComparison_17 (Nat.le_of_ble_eq_true rfl) rfl ?_
    refine aw_iload_n dX5_readComparison_18 rfl ?_
    refine aw_bipush (v := 60) dX5_readComparison_19 (by decide) ?_
    refine aw_icmp_eq (tgt := 44) dX5_readComparison_21 (by decide) (fun c_19 => ?_) (fun c_19 => ?_)
    · skip
      have hlc_19 := h_14.resolve_left (by rw [c_19]; decide)
      refine aw_aload_n dX5_readComparison_44 rfl ?_
      refine aw_get dX5_readComparison_45 fl_X5_15 ((j_4.2.1 _ hp.1 hp.2).trans hR) (by omega) rfl ?_
      refine aw_dup dX5_readComparison_48 rfl ?_
      refine aw_get dX5_readComparison_49 fl_X5_25 te_t_8 (by omega) rfl ?_
      refine aw_iconst (v := 1) dX5_readComparison_52 (by decide) ?_
      refine aw_iadd dX5_readComparison_53 ?_
      refine aw_eqi (y := nI (a_6 + 1)) (nI_add _ _) ?_
      refine aw_put dX5_readComparison_54 fp_X5_25 te_t_8 (by omega) rfl rfl (Nat.le_of_ble_eq_true rfl) rfl ?_
      refine aw_up j_4 ct_1 ⟨_, _, _, (a_6 + 1), rfl, (by first | omega | (split <;> omega))⟩ (WO (s := 3) (x := .int (nI (a_6 + 1))) te_t_8 rfl LM0 (by decide) (by decide) (by decide) (Or.inl (by decide))) (fun V_20 j_20 k_20 e_20 => ?_)
      refine aw_aload_n dX5_readComparison_57 rfl ?_
      refine aw_iload_n dX5_readComparison_58 rfl ?_
      refine aw_callVi (J' := jX5_readSum) (As := [.int 1]) (st := []) dX5_readComparison_59 tb_395 ok_X5_readSum ⟨_, ((j_20.2.1 _ hp.1 hp.2).trans hR)⟩ (by omega) rfl rfl (g_X5_readSum_1 l D b N V_20 hN j_20.1 p x ⟨by omega, by omega⟩ hx ((j_20.2.1 _ hp.1 hp.2).trans hR) (a_6 + 1) (⟨⟨_, _, _, e_20⟩, by omega⟩)) rfl (Nat.le_of_ble_eq_true rfl) ⟨Nat.le_of_ble_eq_true rfl, Nat.le_of_ble_eq_true rfl, Nat.le_of_ble_eq_true rfl, Nat.le_of_ble_eq_true rfl⟩ (fun r_29 N_30 V_25 q_31 => ?_)
      obtain ⟨⟨z_23, h_22⟩, rfl, q_21⟩ := q_31
      have j_24 := JW.trans j_20 (JW.weak q_21 (Sub.cons LM0 (by decide) (by decide) (by decide) (Or.inr ⟨by decide, by decide⟩) (Sub.cons (LMs LM0) (by omega) (by omega) (by decide) (Or.inl rfl) (Sub.cons (LMs (LMs LM0)) (by omega) (by omega) (by decide) (Or.inl rfl) (Sub.cons (LMs (LMs (LMs LM0))) (by omega) (by omega) (by decide) (Or.inr ⟨by decide, by decide⟩) (Sub.cons (LMs (LMs (LMs (LMs LM0)))) (by decide) (by decide) (by decide) (Or.inr ⟨by decide, by decide⟩) Sub.nil))))))
      obtain ⟨a_26, ha_27, ⟨ts_t_28, tn_t_28, tf_t_28, te_t_28⟩, hb_t_28⟩ := h_22
      refine aw_if_ne (tgt := 67) dX5_readComparison_62 (by decide) (fun c_32 => ?_) (fun c_32 => ?_)
      · skip
        refine aw_aload_n dX5_readComparison_67 rfl ?_
        refine aw_get dX5_readComparison_68 fl_X5_9 ((j_24.2.1 _ hp.1 hp.2).trans hR) (by omega) rfl ?_
        refine aw_iload_n dX5_readComparison_71 rfl ?_
        refine aw_iconst (v := 0) dX5_readComparison_72 (by decide) ?_
        obtain ⟨s8_36, r8_36, h8_36, e_36, hs_36, hr_36⟩ := JW.get j_24 (ctl_0 hx)
        refine aw_callVi (J' := jX4_add) (As := [.int r_15, .int 0]) (st := []) dX5_readComparison_73 tb_415 ok_X4_add ⟨_, e_36⟩ (by omega) rfl rfl (g_X4_add l D b N V_25 hN j_24.1 x hx r_15 0 (by decide)) rfl (Nat.le_of_ble_eq_true rfl) ⟨Nat.le_of_ble_eq_true rfl, Nat.le_of_ble_eq_true rfl, Nat.le_of_ble_eq_true rfl, Nat.le_of_ble_eq_true rfl⟩ (fun r_37 N_38 V_35 q_39 => ?_)
        obtain ⟨rfl, q_33⟩ := q_39
        have j_34 := JW.trans j_24 (JW.weak q_33 (Sub.cons (LMs LM0) (by omega) (by omega) (by decide) (Or.inl rfl) (Sub.cons (LMs (LMs LM0)) (by omega) (by omega) (by decide) (Or.inl rfl) (Sub.cons (LMs (LMs (LMs LM0))) (by omega) (by omega) (by decide) (Or.inr ⟨by decide, by decide⟩) Sub.nil))))
        refine aw_pop dX5_readComparison_76 rfl ?_
        refine aw_iconst (v := 1) dX5_readComparison_77 (by decide) ?_
        refine aw_zreti dX5_readComparison_78 rfl (by first | exact Or.inl rfl | exact Or.inr rfl | assumption) (Nat.le_of_ble_eq_true rfl) (Nat.le_of_ble_eq_true rfl) ?_
        exact ⟨⟨(by first | exact Or.inl rfl | exact Or.inr rfl | assumption), ⟨a_26, by omega, ⟨⟨_, _, _, ((JW.same q_33 (by decide) (fun k => (nfc (by omega) (nfc (by omega) (nfc (by omega) nf0))))).trans te_t_28)⟩, by omega⟩⟩⟩, rfl, j_34⟩
      · skip
        refine aw_iconst (v := 0) dX5_readComparison_65 (by decide) ?_
        refine aw_zreti dX5_readComparison_66 rfl (by first | exact Or.inl rfl | exact Or.inr rfl | assumption) (Nat.le_of_ble_eq_true rfl) (Nat.le_of_ble_eq_true rfl) ?_
        exact ⟨⟨(by first | exact Or.inl rfl | exact Or.inr rfl | assumption), ⟨a_26, by omega, ⟨⟨_, _, _, te_t_28⟩, by omega⟩⟩⟩, rfl, j_24⟩
    · skip
      refine aw_iload_n dX5_readComparison_24 rfl ?_
      refine aw_bipush (v := 62) dX5_readComparison_25 (by decide) ?_
      refine aw_icmp_eq (tgt := 44) dX5_readComparison_27 (by decide) (fun c_40 => ?_) (fun c_40 => ?_)
      · skip
        have hlc_40 := h_14.resolve_left (by rw [c_40]; decide)
        refine aw_aload_n dX5_readComparison_44 rfl ?_
        refine aw_get dX5_readComparison_45 fl_X5_15 ((j_4.2.1 _ hp.1 hp.2).trans hR) (by omega) rfl ?_
        refine aw_dup dX5_readComparison_48 rfl ?_
        refine aw_get dX5_readComparison_49 fl_X5_25 te_t_8 (by omega) rfl ?_
        refine aw_iconst (v := 1) dX5_readComparison_52 (by decide) ?_
        refine aw_iadd dX5_readComparison_53 ?_
        refine aw_eqi (y := nI (a_6 + 1)) (nI_add _ _) ?_
        refine aw_put dX5_readComparison_54 fp_X5_25 te_t_8 (by omega) rfl rfl (Nat.le_of_ble_eq_true rfl) rfl ?_
        refine aw_up j_4 ct_1 ⟨_, _, _, (a_6 + 1), rfl, (by first | omega | (split <;> omega))⟩ (WO (s := 3) (x := .int (nI (a_6 + 1))) te_t_8 rfl LM0 (by decide) (by decide) (by decide) (Or.inl (by decide))) (fun V_41 j_41 k_41 e_41 => ?_)
        refine aw_aload_n dX5_readComparison_57 rfl ?_
        refine aw_iload_n dX5_readComparison_58 rfl ?_
        refine aw_callVi (J' := jX5_readSum) (As := [.int 1]) (st := []) dX5_readComparison_59 tb_395 ok_X5_readSum ⟨_, ((j_41.2.1 _ hp.1 hp.2).trans hR)⟩ (by omega) rfl rfl (g_X5_readSum_1 l D b N V_41 hN j_41.1 p x ⟨by omega, by omega⟩ hx ((j_41.2.1 _ hp.1 hp.2).trans hR) (a_6 + 1) (⟨⟨_, _, _, e_41⟩, by omega⟩)) rfl (Nat.le_of_ble_eq_true rfl) ⟨Nat.le_of_ble_eq_true rfl, Nat.le_of_ble_eq_true rfl, Nat.le_of_ble_eq_true rfl, Nat.le_of_ble_eq_true rfl⟩ (fun r_50 N_51 V_46 q_52 => ?_)
        obtain ⟨⟨z_44, h_43⟩, rfl, q_42⟩ := q_52
        have j_45 := JW.trans j_41 (JW.weak q_42 (Sub.cons LM0 (by decide) (by decide) (by decide) (Or.inr ⟨by decide, by decide⟩) (Sub.cons (LMs LM0) (by omega) (by omega) (by decide) (Or.inl rfl) (Sub.cons (LMs (LMs LM0)) (by omega) (by omega) (by decide) (Or.inl rfl) (Sub.cons (LMs (LMs (LMs LM0))) (by omega) (by omega) (by decide) (Or.inr ⟨by decide, by decide⟩) (Sub.cons (LMs (LMs (LMs (LMs LM0)))) (by decide) (by decide) (by decide) (Or.inr ⟨by decide, by decide⟩) Sub.nil))))))
        obtain ⟨a_47, ha_48, ⟨ts_t_49, tn_t_49, tf_t_49, te_t_49⟩, hb_t_49⟩ := h_43
        refine aw_if_ne (tgt := 67) dX5_readComparison_62 (by decide) (fun c_53 => ?_) (fun c_53 => ?_)
        · skip
          refine aw_aload_n dX5_readComparison_67 rfl ?_
          refine aw_get dX5_readComparison_68 fl_X5_9 ((j_45.2.1 _ hp.1 hp.2).trans hR) (by omega) rfl ?_
          refine aw_iload_n dX5_readComparison_71 rfl ?_
          refine aw_iconst (v := 0) dX5_readComparison_72 (by decide) ?_
          obtain ⟨s8_57, r8_57, h8_57, e_57, hs_57, hr_57⟩ := JW.get j_45 (ctl_0 hx)
          refine aw_callVi (J' := jX4_add) (As := [.int r_15, .int 0]) (st := []) dX5_readComparison_73 tb_415 ok_X4_add ⟨_, e_57⟩ (by omega) rfl rfl (g_X4_add l D b N V_46 hN j_45.1 x hx r_15 0 (by decide)) rfl (Nat.le_of_ble_eq_true rfl) ⟨Nat.le_of_ble_eq_true rfl, Nat.le_of_ble_eq_true rfl, Nat.le_of_ble_eq_true rfl, Nat.le_of_ble_eq_true rfl⟩ (fun r_58 N_59 V_56 q_60 => ?_)
          obtain ⟨rfl, q_54⟩ := q_60
          have j_55 := JW.trans j_45 (JW.weak q_54 (Sub.cons (LMs LM0) (by omega) (by omega) (by decide) (Or.inl rfl) (Sub.cons (LMs (LMs LM0)) (by omega) (by omega) (by decide) (Or.inl rfl) (Sub.cons (LMs (LMs (LMs LM0))) (by omega) (by omega) (by decide) (Or.inr ⟨by decide, by decide⟩) Sub.nil))))
          refine aw_pop dX5_readComparison_76 rfl ?_
          refine aw_iconst (v := 1) dX5_readComparison_77 (by decide) ?_
          refine aw_zreti dX5_readComparison_78 rfl (by first | exact Or.inl rfl | exact Or.inr rfl | assumption) (Nat.le_of_ble_eq_true rfl) (Nat.le_of_ble_eq_true rfl) ?_
          exact ⟨⟨(by first | exact Or.inl rfl | exact Or.inr rfl | assumption), ⟨a_47, by omega, ⟨⟨_, _, _, ((JW.same q_54 (by decide) (fun k => (nfc (by omega) (nfc (by omega) (nfc (by omega) nf0))))).trans te_t_49)⟩, by omega⟩⟩⟩, rfl, j_55⟩
        · skip
          refine aw_iconst (v := 0) dX5_readComparison_65 (by decide) ?_
          refine aw_zreti dX5_readComparison_66 rfl (by first | exact Or.inl rfl | exact Or.inr rfl | assumption) (Nat.le_of_ble_eq_true rfl) (Nat.le_of_ble_eq_true rfl) ?_
          exact ⟨⟨(by first | exact Or.inl rfl | exact Or.inr rfl | assumption), ⟨a_47, by omega, ⟨⟨_, _, _, te_t_49⟩, by omega⟩⟩⟩, rfl, j_45⟩
      · skip
        refine aw_iload_n dX5_readComparison_30 rfl ?_
        refine aw_bipush (v := 61) dX5_readComparison_31 (by decide) ?_
        refine aw_icmp_eq (tgt := 44) dX5_readComparison_33 (by decide) (fun c_61 => ?_) (fun c_61 => ?_)
        · skip
          have hlc_61 := h_14.resolve_left (by rw [c_61]; decide)
          refine aw_aload_n dX5_readComparison_44 rfl ?_
          refine aw_get dX5_readComparison_45 fl_X5_15 ((j_4.2.1 _ hp.1 hp.2).trans hR) (by omega) rfl ?_
          refine aw_dup dX5_readComparison_48 rfl ?_
          refine aw_get dX5_readComparison_49 fl_X5_25 te_t_8 (by omega) rfl ?_
          refine aw_iconst (v := 1) dX5_readComparison_52 (by decide) ?_
          refine aw_iadd dX5_readComparison_53 ?_
          refine aw_eqi (y := nI (a_6 + 1)) (nI_add _ _) ?_
          refine aw_put dX5_readComparison_54 fp_X5_25 te_t_8 (by omega) rfl rfl (Nat.le_of_ble_eq_true rfl) rfl ?_
          refine aw_up j_4 ct_1 ⟨_, _, _, (a_6 + 1), rfl, (by first | omega | (split <;> omega))⟩ (WO (s := 3) (x := .int (nI (a_6 + 1))) te_t_8 rfl LM0 (by decide) (by decide) (by decide) (Or.inl (by decide))) (fun V_62 j_62 k_62 e_62 => ?_)
          refine aw_aload_n dX5_readComparison_57 rfl ?_
          refine aw_iload_n dX5_readComparison_58 rfl ?_
          refine aw_callVi (J' := jX5_readSum) (As := [.int 1]) (st := []) dX5_readComparison_59 tb_395 ok_X5_readSum ⟨_, ((j_62.2.1 _ hp.1 hp.2).trans hR)⟩ (by omega) rfl rfl (g_X5_readSum_1 l D b N V_62 hN j_62.1 p x ⟨by omega, by omega⟩ hx ((j_62.2.1 _ hp.1 hp.2).trans hR) (a_6 + 1) (⟨⟨_, _, _, e_62⟩, by omega⟩)) rfl (Nat.le_of_ble_eq_true rfl) ⟨Nat.le_of_ble_eq_true rfl, Nat.le_of_ble_eq_true rfl, Nat.le_of_ble_eq_true rfl, Nat.le_of_ble_eq_true rfl⟩ (fun r_71 N_72 V_67 q_73 => ?_)
          obtain ⟨⟨z_65, h_64⟩, rfl, q_63⟩ := q_73
          have j_66 := JW.trans j_62 (JW.weak q_63 (Sub.cons LM0 (by decide) (by decide) (by decide) (Or.inr ⟨by decide, by decide⟩) (Sub.cons (LMs LM0) (by omega) (by omega) (by decide) (Or.inl rfl) (Sub.cons (LMs (LMs LM0)) (by omega) (by omega) (by decide) (Or.inl rfl) (Sub.cons (LMs (LMs (LMs LM0))) (by omega) (by omega) (by decide) (Or.inr ⟨by decide, by decide⟩) (Sub.cons (LMs (LMs (LMs (LMs LM0)))) (by decide) (by decide) (by decide) (Or.inr ⟨by decide, by decide⟩) Sub.nil))))))
          obtain ⟨a_68, ha_69, ⟨ts_t_70, tn_t_70, tf_t_70, te_t_70⟩, hb_t_70⟩ := h_64
          refine aw_if_ne (tgt := 67) dX5_readComparison_62 (by decide) (fun c_74 => ?_) (fun c_74 => ?_)
          · skip
            refine aw_aload_n dX5_readComparison_67 rfl ?_
            refine aw_get dX5_readComparison_68 fl_X5_9 ((j_66.2.1 _ hp.1 hp.2).trans hR) (by omega) rfl ?_
            refine aw_iload_n dX5_readComparison_71 rfl ?_
            refine aw_iconst (v := 0) dX5_readComparison_72 (by decide) ?_
            obtain ⟨s8_78, r8_78, h8_78, e_78, hs_78, hr_78⟩ := JW.get j_66 (ctl_0 hx)
            refine aw_callVi (J' := jX4_add) (As := [.int r_15, .int 0]) (st := []) dX5_readComparison_73 tb_415 ok_X4_add ⟨_, e_78⟩ (by omega) rfl rfl (g_X4_add l D b N V_67 hN j_66.1 x hx r_15 0 (by decide)) rfl (Nat.le_of_ble_eq_true rfl) ⟨Nat.le_of_ble_eq_true rfl, Nat.le_of_ble_eq_true rfl, Nat.le_of_ble_eq_true rfl, Nat.le_of_ble_eq_true rfl⟩ (fun r_79 N_80 V_77 q_81 => ?_)
            obtain ⟨rfl, q_75⟩ := q_81
            have j_76 := JW.trans j_66 (JW.weak q_75 (Sub.cons (LMs LM0) (by omega) (by omega) (by decide) (Or.inl rfl) (Sub.cons (LMs (LMs LM0)) (by omega) (by omega) (by decide) (Or.inl rfl) (Sub.cons (LMs (LMs (LMs LM0))) (by omega) (by omega) (by decide) (Or.inr ⟨by decide, by decide⟩) Sub.nil))))
            refine aw_pop dX5_readComparison_76 rfl ?_
            refine aw_iconst (v := 1) dX5_readComparison_77 (by decide) ?_
            refine aw_zreti dX5_readComparison_78 rfl (by first | exact Or.inl rfl | exact Or.inr rfl | assumption) (Nat.le_of_ble_eq_true rfl) (Nat.le_of_ble_eq_true rfl) ?_
            exact ⟨⟨(by first | exact Or.inl rfl | exact Or.inr rfl | assumption), ⟨a_68, by omega, ⟨⟨_, _, _, ((JW.same q_75 (by decide) (fun k => (nfc (by omega) (nfc (by omega) (nfc (by omega) nf0))))).trans te_t_70)⟩, by omega⟩⟩⟩, rfl, j_76⟩
          · skip
            refine aw_iconst (v := 0) dX5_readComparison_65 (by decide) ?_
            refine aw_zreti dX5_readComparison_66 rfl (by first | exact Or.inl rfl | exact Or.inr rfl | assumption) (Nat.le_of_ble_eq_true rfl) (Nat.le_of_ble_eq_true rfl) ?_
            exact ⟨⟨(by first | exact Or.inl rfl | exact Or.inr rfl | assumption), ⟨a_68, by omega, ⟨⟨_, _, _, te_t_70⟩, by omega⟩⟩⟩, rfl, j_66⟩
        · skip
          refine aw_aload_n dX5_readComparison_36 rfl ?_
          refine aw_get dX5_readComparison_37 fl_X5_15 ((j_4.2.1 _ hp.1 hp.2).trans hR) (by omega) rfl ?_
          refine aw_callVi (J' := jX10_cannotStand) (As := []) (st := []) dX5_readComparison_40 tb_493 ok_X10_cannotStand ⟨_, te_t_8⟩ (by omega) rfl rfl (g_X10_cannotStand l D b N V_5 hN j_4.1 a_6 (⟨⟨_, _, _, te_t_8⟩, by omega⟩)) rfl (Nat.le_of_ble_eq_true rfl) ⟨Nat.le_of_ble_eq_true rfl, Nat.le_of_ble_eq_true rfl, Nat.le_of_ble_eq_true rfl, Nat.le_of_ble_eq_true rfl⟩ (fun r_91 N_92 V_86 q_93 => ?_)
          obtain ⟨⟨z_84, h_83⟩, rfl, q_82⟩ := q_93
          have j_85 := JW.trans j_4 (JW.weak q_82 (Sub.cons (LMs (LMs (LMs (LMs LM0)))) (by decide) (by decide) (by decide) (Or.inr ⟨by decide, by decide⟩) Sub.nil))
          obtain ⟨h_90, a_87, ha_88, ⟨ts_t_89, tn_t_89, tf_t_89, te_t_89⟩, hb_t_89⟩ := h_83
          obtain rfl := h_90
          refine aw_zreti dX5_readComparison_43 rfl (by first | exact Or.inl rfl | exact Or.inr rfl | assumption) (Nat.le_of_ble_eq_true rfl) (Nat.le_of_ble_eq_true rfl) ?_
          exact ⟨⟨(by first | exact Or.inl rfl | exact Or.inr rfl | assumption), ⟨a_87, by omega, ⟨⟨_, _, _, te_t_89⟩, by omega⟩⟩⟩, rfl, j_85⟩
  · skip
    refine aw_iconst (v := 0) dX5_readComparison_8 (by decide) ?_
    refine aw_zreti dX5_readComparison_9 rfl (by first | exact Or.inl rfl | exact Or.inr rfl | assumption) (Nat.le_of_ble_eq_true rfl) (Nat.le_of_ble_eq_true rfl) ?_
    exact ⟨⟨(by first | exact Or.inl rfl | exact Or.inr rfl | assumption), ⟨a_6, by omega, ⟨⟨_, _, _, te_t_8⟩, by omega⟩⟩⟩, rfl, j_4⟩

set_option maxHeartbeats 4000000 in
set_option maxRecDepth 100000 in
theorem g_X5_readNegation_1 (l : Launch) (D : va_G) (b : Nat) (N : Nat) (V : Wd) (hN : 100 ≤ N) (hW : CW D b V) (p x : Nat) (hp : 100 ≤ p ∧ p < N) (hx : x = 57 ∨ x = 65) (hR : V p = cO 5 [.ref (b + 1), .ref (b + x)]) (a : Nat) (hT : TA b a V) (hlt : a < 260) : MI l D b 22 jX5_readNegation [.ref (b + p), .int 1] N V 0 0 (fun r N9 V9 => ((r = 0 ∨ r = 1) ∧ (∃ a9, a ≤ a9 ∧ TA b a9 V9)) ∧ N = N9 ∧ JW D b N [(1, 1, 3, 3), (x + 1, x + 1, 0, 1000000), (x + 2, x + 2, 0, 1000000), (x, x, 2, 2), (1, 1, 4, 4)] V V9) := by
  have hJ0 : JW D b N [(1, 1, 3, 3), (x + 1, x + 1, 0, 1000000), (x + 2, x + 2, 0, 1000000), (x, x, 2, 2), (1, 1, 4, 4)] V V := JW.rf hW
  obtain ⟨⟨ts_0, tn_0, tf_0, te_0⟩, ha_0⟩ := id hT
  refine mw_of (by decide) (by simp [Value.category]) (Nat.le_of_ble_eq_true rfl) ?_
  show AW l D b jX5_readNegation (fx_rm 22 0 0) none (fx_MQ D b 0 0 (fx_qi (fun r N9 V9 => ((r = 0 ∨ r = 1) ∧ (∃ a9, a ≤ a9 ∧ TA b a9 V9)) ∧ N = N9 ∧ JW D b N [(1, 1, 3, 3), (x + 1, x + 1, 0, 1000000), (x + 2, x + 2, 0, 1000000), (x, x, 2, 2), (1, 1, 4, 4)] V V9))) 0 [some (.ref (b + p)), some (.int 1)] [] N V 0 0
  refine aw_aload_n dX5_readNegation_0 rfl ?_
  refine aw_iload_n dX5_readNegation_1 rfl ?_
  refine aw_callVi (J' := jX5_open) (As := [.int 1]) (st := []) dX5_readNegation_2 tb_407 ok_X5_open ⟨_, ((hJ0.2.1 _ hp.1 hp.2).trans hR)⟩ (by omega) rfl rfl (g_X5_open_1 l D b N V hN hJ0.1 p x ⟨by omega, by omega⟩ hx ((hJ0.2.1 _ hp.1 hp.2).trans hR) a (⟨⟨_, _, _, te_0⟩, by omega⟩) (by omega)) rfl (Nat.le_of_ble_eq_true rfl) ⟨Nat.le_of_ble_eq_true rfl, Nat.le_of_ble_eq_true rfl, Nat.le_of_ble_eq_true rfl, Nat.le_of_ble_eq_true rfl⟩ (fun r_10 N_11 V_5 q_12 => ?_)
  obtain ⟨⟨z_3, h_2⟩, rfl, q_1⟩ := q_12
  have j_4 := JW.trans hJ0 (JW.weak q_1 (Sub.cons LM0 (by decide) (by decide) (by decide) (Or.inr ⟨by decide, by decide⟩) Sub.nil))
  obtain ⟨h_9, a_6, ha_7, ⟨ts_t_8, tn_t_8, tf_t_8, te_t_8⟩, hb_t_8⟩ := h_2
  obtain rfl := h_9
  refine aw_if_eq (tgt := 18) dX5_readNegation_5 (by decide) (fun c_13 => ?_) (fun c_13 => ?_)
  · exact absurd c_13 (by decide)
  refine aw_aload_n dX5_readNegation_8 rfl ?_
  refine aw_iload_n dX5_readNegation_9 rfl ?_
  refine aw_iconst (v := 1) dX5_readNegation_10 (by decide) ?_
  refine aw_iadd dX5_readNegation_11 ?_
  refine aw_eqi (y := 2) (by decide) ?_
  refine aw_callVi (J' := jX5_readTest) (As := [.int 2]) (st := []) dX5_readNegation_12 tb_509 ok_X5_readTest ⟨_, ((j_4.2.1 _ hp.1 hp.2).trans hR)⟩ (by omega) rfl rfl (g_X5_readTest_2 l D b N V_5 hN j_4.1 p x ⟨by omega, by omega⟩ hx ((j_4.2.1 _ hp.1 hp.2).trans hR) a_6 (⟨⟨_, _, _, te_t_8⟩, by omega⟩)) rfl (Nat.le_of_ble_eq_true rfl) ⟨Nat.le_of_ble_eq_true rfl, Nat.le_of_ble_eq_true rfl, Nat.le_of_ble_eq_true rfl, Nat.le_of_ble_eq_true rfl⟩ (fun r_22 N_23 V_18 q_24 => ?_)
  obtain ⟨⟨z_16, h_15⟩, rfl, q_14⟩ := q_24
  have j_17 := JW.trans j_4 (JW.weak q_14 (Sub.cons LM0 (by decide) (by decide) (by decide) (Or.inr ⟨by decide, by decide⟩) (Sub.cons (LMs LM0) (by omega) (by omega) (by decide) (Or.inl rfl) (Sub.cons (LMs (LMs LM0)) (by omega) (by omega) (by decide) (Or.inl rfl) (Sub.cons (LMs (LMs (LMs LM0))) (by omega) (by omega) (by decide) (Or.inr ⟨by decide, by decide⟩) (Sub.cons (LMs (LMs (LMs (LMs LM0)))) (by decide) (by decide) (by decide) (Or.inr ⟨by decide, by decide⟩) Sub.nil))))))
  obtain ⟨a_19, ha_20, ⟨ts_t_21, tn_t_21, tf_t_21, te_t_21⟩, hb_t_21⟩ := h_15
  refine aw_if_ne (tgt := 20) dX5_readNegation_15 (by decide) (fun c_25 => ?_) (fun c_25 => ?_)
  · skip
    refine aw_aload_n dX5_readNegation_20 rfl ?_
    refine aw_get dX5_readNegation_21 fl_X5_9 ((j_17.2.1 _ hp.1 hp.2).trans hR) (by omega) rfl ?_
    refine aw_bipush (v := 33) dX5_readNegation_24 (by decide) ?_
    refine aw_iconst (v := 0) dX5_readNegation_26 (by decide) ?_
    obtain ⟨s8_29, r8_29, h8_29, e_29, hs_29, hr_29⟩ := JW.get j_17 (ctl_0 hx)
    refine aw_callVi (J' := jX4_add) (As := [.int 33, .int 0]) (st := []) dX5_readNegation_27 tb_415 ok_X4_add ⟨_, e_29⟩ (by omega) rfl rfl (g_X4_add l D b N V_18 hN j_17.1 x hx 33 0 (by decide)) rfl (Nat.le_of_ble_eq_true rfl) ⟨Nat.le_of_ble_eq_true rfl, Nat.le_of_ble_eq_true rfl, Nat.le_of_ble_eq_true rfl, Nat.le_of_ble_eq_true rfl⟩ (fun r_30 N_31 V_28 q_32 => ?_)
    obtain ⟨rfl, q_26⟩ := q_32
    have j_27 := JW.trans j_17 (JW.weak q_26 (Sub.cons (LMs LM0) (by omega) (by omega) (by decide) (Or.inl rfl) (Sub.cons (LMs (LMs LM0)) (by omega) (by omega) (by decide) (Or.inl rfl) (Sub.cons (LMs (LMs (LMs LM0))) (by omega) (by omega) (by decide) (Or.inr ⟨by decide, by decide⟩) Sub.nil))))
    refine aw_pop dX5_readNegation_30 rfl ?_
    refine aw_iconst (v := 1) dX5_readNegation_31 (by decide) ?_
    refine aw_zreti dX5_readNegation_32 rfl (by first | exact Or.inl rfl | exact Or.inr rfl | assumption) (Nat.le_of_ble_eq_true rfl) (Nat.le_of_ble_eq_true rfl) ?_
    exact ⟨⟨(by first | exact Or.inl rfl | exact Or.inr rfl | assumption), ⟨a_19, by omega, ⟨⟨_, _, _, ((JW.same q_26 (by decide) (fun k => (nfc (by omega) (nfc (by omega) (nfc (by omega) nf0))))).trans te_t_21)⟩, by omega⟩⟩⟩, rfl, j_27⟩
  · skip
    refine aw_iconst (v := 0) dX5_readNegation_18 (by decide) ?_
    refine aw_zreti dX5_readNegation_19 rfl (by first | exact Or.inl rfl | exact Or.inr rfl | assumption) (Nat.le_of_ble_eq_true rfl) (Nat.le_of_ble_eq_true rfl) ?_
    exact ⟨⟨(by first | exact Or.inl rfl | exact Or.inr rfl | assumption), ⟨a_19, by omega, ⟨⟨_, _, _, te_t_21⟩, by omega⟩⟩⟩, rfl, j_17⟩

set_option maxHeartbeats 4000000 in
set_option maxRecDepth 100000 in
theorem g_X5_readTest_1 (l : Launch) (D : va_G) (b : Nat) (N : Nat) (V : Wd) (hN : 100 ≤ N) (hW : CW D b V) (p x : Nat) (hp : 100 ≤ p ∧ p < N) (hx : x = 57 ∨ x = 65) (hR : V p = cO 5 [.ref (b + 1), .ref (b + x)]) (a : Nat) (hT : TA b a V) : MI l D b 24 jX5_readTest [.ref (b + p), .int 1] N V 0 0 (fun r N9 V9 => ((r = 0 ∨ r = 1) ∧ (∃ a9, a ≤ a9 ∧ TA b a9 V9)) ∧ N = N9 ∧ JW D b N [(1, 1, 3, 3), (x + 1, x + 1, 0, 1000000), (x + 2, x + 2, 0, 1000000), (x, x, 2, 2), (1, 1, 4, 4)] V V9) := by
  have hJ0 : JW D b N [(1, 1, 3, 3), (x + 1, x + 1, 0, 1000000), (x + 2, x + 2, 0, 1000000), (x, x, 2, 2), (1, 1, 4, 4)] V V := JW.rf hW
  obtain ⟨⟨ts_0, tn_0, tf_0, te_0⟩, ha_0⟩ := id hT
  refine mw_of (by decide) (by simp [Value.category]) (Nat.le_of_ble_eq_true rfl) ?_
  show AW l D b jX5_readTest (fx_rm 24 0 0) none (fx_MQ D b 0 0 (fx_qi (fun r N9 V9 => ((r = 0 ∨ r = 1) ∧ (∃ a9, a ≤ a9 ∧ TA b a9 V9)) ∧ N = N9 ∧ JW D b N [(1, 1, 3, 3), (x + 1, x + 1, 0, 1000000), (x + 2, x + 2, 0, 1000000), (x, x, 2, 2), (1, 1, 4, 4)] V V9))) 0 [some (.ref (b + p)), some (.int 1), none] [] N V 0 0
  refine aw_aload_n dX5_readTest_0 rfl ?_
  refine aw_get dX5_readTest_1 fl_X5_15 ((hJ0.2.1 _ hp.1 hp.2).trans hR) (by omega) rfl ?_
  refine aw_callVi (J' := jX10_now) (As := []) (st := []) dX5_readTest_4 tb_390 ok_X10_now ⟨_, te_0⟩ (by omega) rfl rfl (g_X10_now l D b N V hN hJ0.1 a (⟨⟨_, _, _, te_0⟩, by omega⟩)) rfl (Nat.le_of_ble_eq_true rfl) ⟨Nat.le_of_ble_eq_true rfl, Nat.le_of_ble_eq_true rfl, Nat.le_of_ble_eq_true rfl, Nat.le_of_ble_eq_true rfl⟩ (fun r_3 N_4 V_5 q_6 => ?_)
  obtain ⟨h_2, rfl, rfl⟩ := q_6
  refine aw_istore_n (ls' := [some (.ref (b + p)), some (.int 1), some (.int r_3)]) dX5_readTest_7 (Nat.le_of_ble_eq_true rfl) rfl ?_
  refine aw_iload_n dX5_readTest_8 rfl ?_
  refine aw_bipush (v := 33) dX5_readTest_9 (by decide) ?_
  refine aw_icmp_ne (tgt := 20) dX5_readTest_11 (by decide) (fun c_7 => ?_) (fun c_7 => ?_)
  · skip
    refine aw_iload_n dX5_readTest_20 rfl ?_
    refine aw_bipush (v := 40) dX5_readTest_21 (by decide) ?_
    refine aw_icmp_ne (tgt := 62) dX5_readTest_23 (by decide) (fun c_8 => ?_) (fun c_8 => ?_)
    · skip
      refine aw_aload_n dX5_readTest_62 rfl ?_
      refine aw_iload_n dX5_readTest_63 rfl ?_
      refine aw_callVi (J' := jX5_readComparison) (As := [.int 1]) (st := []) dX5_readTest_64 tb_517 ok_X5_readComparison ⟨_, ((hJ0.2.1 _ hp.1 hp.2).trans hR)⟩ (by omega) rfl rfl (g_X5_readComparison_1 l D b N V hN hJ0.1 p x ⟨by omega, by omega⟩ hx ((hJ0.2.1 _ hp.1 hp.2).trans hR) a (⟨⟨_, _, _, te_0⟩, by omega⟩)) rfl (Nat.le_of_ble_eq_true rfl) ⟨Nat.le_of_ble_eq_true rfl, Nat.le_of_ble_eq_true rfl, Nat.le_of_ble_eq_true rfl, Nat.le_of_ble_eq_true rfl⟩ (fun r_17 N_18 V_13 q_19 => ?_)
      obtain ⟨⟨z_11, h_10⟩, rfl, q_9⟩ := q_19
      have j_12 := JW.trans hJ0 (JW.weak q_9 (Sub.cons LM0 (by decide) (by decide) (by decide) (Or.inr ⟨by decide, by decide⟩) (Sub.cons (LMs LM0) (by omega) (by omega) (by decide) (Or.inl rfl) (Sub.cons (LMs (LMs LM0)) (by omega) (by omega) (by decide) (Or.inl rfl) (Sub.cons (LMs (LMs (LMs LM0))) (by omega) (by omega) (by decide) (Or.inr ⟨by decide, by decide⟩) (Sub.cons (LMs (LMs (LMs (LMs LM0)))) (by decide) (by decide) (by decide) (Or.inr ⟨by decide, by decide⟩) Sub.nil))))))
      obtain ⟨a_14, ha_15, ⟨ts_t_16, tn_t_16, tf_t_16, te_t_16⟩, hb_t_16⟩ := h_10
      refine aw_zreti dX5_readTest_67 rfl (by first | exact Or.inl rfl | exact Or.inr rfl | assumption) (Nat.le_of_ble_eq_true rfl) (Nat.le_of_ble_eq_true rfl) ?_
      exact ⟨⟨(by first | exact Or.inl rfl | exact Or.inr rfl | assumption), ⟨a_14, by omega, ⟨⟨_, _, _, te_t_16⟩, by omega⟩⟩⟩, rfl, j_12⟩
    · skip
      have hlc_8 := h_2.resolve_left (by rw [c_8]; decide)
      refine aw_aload_n dX5_readTest_26 rfl ?_
      refine aw_iload_n dX5_readTest_27 rfl ?_
      refine aw_callVi (J' := jX5_open) (As := [.int 1]) (st := []) dX5_readTest_28 tb_407 ok_X5_open ⟨_, ((hJ0.2.1 _ hp.1 hp.2).trans hR)⟩ (by omega) rfl rfl (g_X5_open_1 l D b N V hN hJ0.1 p x ⟨by omega, by omega⟩ hx ((hJ0.2.1 _ hp.1 hp.2).trans hR) a (⟨⟨_, _, _, te_0⟩, by omega⟩) (by omega)) rfl (Nat.le_of_ble_eq_true rfl) ⟨Nat.le_of_ble_eq_true rfl, Nat.le_of_ble_eq_true rfl, Nat.le_of_ble_eq_true rfl, Nat.le_of_ble_eq_true rfl⟩ (fun r_29 N_30 V_24 q_31 => ?_)
      obtain ⟨⟨z_22, h_21⟩, rfl, q_20⟩ := q_31
      have j_23 := JW.trans hJ0 (JW.weak q_20 (Sub.cons LM0 (by decide) (by decide) (by decide) (Or.inr ⟨by decide, by decide⟩) Sub.nil))
      obtain ⟨h_28, a_25, ha_26, ⟨ts_t_27, tn_t_27, tf_t_27, te_t_27⟩, hb_t_27⟩ := h_21
      obtain rfl := h_28
      refine aw_if_eq (tgt := 60) dX5_readTest_31 (by decide) (fun c_32 => ?_) (fun c_32 => ?_)
      · exact absurd c_32 (by decide)
      refine aw_aload_n dX5_readTest_34 rfl ?_
      refine aw_iload_n dX5_readTest_35 rfl ?_
      refine aw_iconst (v := 1) dX5_readTest_36 (by decide) ?_
      refine aw_iadd dX5_readTest_37 ?_
      refine aw_eqi (y := 2) (by decide) ?_
      refine aw_callVi (J' := jX5_readAnyOf) (As := [.int 2]) (st := []) dX5_readTest_38 tb_501 ok_X5_readAnyOf ⟨_, ((j_23.2.1 _ hp.1 hp.2).trans hR)⟩ (by omega) rfl rfl (g_X5_readAnyOf_2 l D b N V_24 hN j_23.1 p x ⟨by omega, by omega⟩ hx ((j_23.2.1 _ hp.1 hp.2).trans hR) a_25 (⟨⟨_, _, _, te_t_27⟩, by omega⟩)) rfl (Nat.le_of_ble_eq_true rfl) ⟨Nat.le_of_ble_eq_true rfl, Nat.le_of_ble_eq_true rfl, Nat.le_of_ble_eq_true rfl, Nat.le_of_ble_eq_true rfl⟩ (fun r_41 N_42 V_37 q_43 => ?_)
      obtain ⟨⟨z_35, h_34⟩, rfl, q_33⟩ := q_43
      have j_36 := JW.trans j_23 (JW.weak q_33 (Sub.cons LM0 (by decide) (by decide) (by decide) (Or.inr ⟨by decide, by decide⟩) (Sub.cons (LMs LM0) (by omega) (by omega) (by decide) (Or.inl rfl) (Sub.cons (LMs (LMs LM0)) (by omega) (by omega) (by decide) (Or.inl rfl) (Sub.cons (LMs (LMs (LMs LM0))) (by omega) (by omega) (by decide) (Or.inr ⟨by decide, by decide⟩) (Sub.cons (LMs (LMs (LMs (LMs LM0)))) (by decide) (by decide) (by decide) (Or.inr ⟨by decide, by decide⟩) Sub.nil))))))
      obtain ⟨a_38, ha_39, ⟨ts_t_40, tn_t_40, tf_t_40, te_t_40⟩, hb_t_40⟩ := h_34
      refine aw_if_eq (tgt := 60) dX5_readTest_41 (by decide) (fun c_44 => ?_) (fun c_44 => ?_)
      · skip
        refine aw_iconst (v := 0) dX5_readTest_60 (by decide) ?_
        refine aw_zreti dX5_readTest_61 rfl (by first | exact Or.inl rfl | exact Or.inr rfl | assumption) (Nat.le_of_ble_eq_true rfl) (Nat.le_of_ble_eq_true rfl) ?_
        exact ⟨⟨(by first | exact Or.inl rfl | exact Or.inr rfl | assumption), ⟨a_38, by omega, ⟨⟨_, _, _, te_t_40⟩, by omega⟩⟩⟩, rfl, j_36⟩
      · skip
        refine aw_aload_n dX5_readTest_44 rfl ?_
        refine aw_get dX5_readTest_45 fl_X5_15 ((j_36.2.1 _ hp.1 hp.2).trans hR) (by omega) rfl ?_
        refine aw_bipush (v := 41) dX5_readTest_48 (by decide) ?_
        refine aw_callVi (J' := jX10_expect) (As := [.int 41]) (st := []) dX5_readTest_50 tb_412 ok_X10_expect ⟨_, te_t_40⟩ (by omega) rfl rfl (g_X10_expect l D b N V_37 hN j_36.1 41 a_38 (⟨⟨_, _, _, te_t_40⟩, by omega⟩) (by decide)) rfl (Nat.le_of_ble_eq_true rfl) ⟨Nat.le_of_ble_eq_true rfl, Nat.le_of_ble_eq_true rfl, Nat.le_of_ble_eq_true rfl, Nat.le_of_ble_eq_true rfl⟩ (fun r_53 N_54 V_49 q_55 => ?_)
        obtain ⟨⟨z_47, h_46⟩, rfl, q_45⟩ := q_55
        have j_48 := JW.trans j_36 (JW.weak q_45 (Sub.cons LM0 (by decide) (by decide) (by decide) (Or.inr ⟨by decide, by decide⟩) (Sub.cons (LMs (LMs (LMs (LMs LM0)))) (by decide) (by decide) (by decide) (Or.inr ⟨by decide, by decide⟩) Sub.nil)))
        obtain ⟨a_50, ha_51, ⟨ts_t_52, tn_t_52, tf_t_52, te_t_52⟩, hb_t_52⟩ := h_46
        refine aw_if_eq (tgt := 60) dX5_readTest_53 (by decide) (fun c_56 => ?_) (fun c_56 => ?_)
        · skip
          refine aw_iconst (v := 0) dX5_readTest_60 (by decide) ?_
          refine aw_zreti dX5_readTest_61 rfl (by first | exact Or.inl rfl | exact Or.inr rfl | assumption) (Nat.le_of_ble_eq_true rfl) (Nat.le_of_ble_eq_true rfl) ?_
          exact ⟨⟨(by first | exact Or.inl rfl | exact Or.inr rfl | assumption), ⟨a_50, by omega, ⟨⟨_, _, _, te_t_52⟩, by omega⟩⟩⟩, rfl, j_48⟩
        · skip
          refine aw_iconst (v := 1) dX5_readTest_56 (by decide) ?_
          refine aw_goto (tgt := 61) dX5_readTest_57 (by decide) ?_
          refine aw_zreti dX5_readTest_61 rfl (by first | exact Or.inl rfl | exact Or.inr rfl | assumption) (Nat.le_of_ble_eq_true rfl) (Nat.le_of_ble_eq_true rfl) ?_
          exact ⟨⟨(by first | exact Or.inl rfl | exact Or.inr rfl | assumption), ⟨a_50, by omega, ⟨⟨_, _, _, te_t_52⟩, by omega⟩⟩⟩, rfl, j_48⟩
  · skip
    have hlc_7 := h_2.resolve_left (by rw [c_7]; decide)
    refine aw_aload_n dX5_readTest_14 rfl ?_
    refine aw_iload_n dX5_readTest_15 rfl ?_
    refine aw_callVi (J' := jX5_readNegation) (As := [.int 1]) (st := []) dX5_readTest_16 tb_513 ok_X5_readNegation ⟨_, ((hJ0.2.1 _ hp.1 hp.2).trans hR)⟩ (by omega) rfl rfl (g_X5_readNegation_1 l D b N V hN hJ0.1 p x ⟨by omega, by omega⟩ hx ((hJ0.2.1 _ hp.1 hp.2).trans hR) a (⟨⟨_, _, _, te_0⟩, by omega⟩) (by omega)) rfl (Nat.le_of_ble_eq_true rfl) ⟨Nat.le_of_ble_eq_true rfl, Nat.le_of_ble_eq_true rfl, Nat.le_of_ble_eq_true rfl, Nat.le_of_ble_eq_true rfl⟩ (fun r_65 N_66 V_61 q_67 => ?_)
    obtain ⟨⟨z_59, h_58⟩, rfl, q_57⟩ := q_67
    have j_60 := JW.trans hJ0 (JW.weak q_57 (Sub.cons LM0 (by decide) (by decide) (by decide) (Or.inr ⟨by decide, by decide⟩) (Sub.cons (LMs LM0) (by omega) (by omega) (by decide) (Or.inl rfl) (Sub.cons (LMs (LMs LM0)) (by omega) (by omega) (by decide) (Or.inl rfl) (Sub.cons (LMs (LMs (LMs LM0))) (by omega) (by omega) (by decide) (Or.inr ⟨by decide, by decide⟩) (Sub.cons (LMs (LMs (LMs (LMs LM0)))) (by decide) (by decide) (by decide) (Or.inr ⟨by decide, by decide⟩) Sub.nil))))))
    obtain ⟨a_62, ha_63, ⟨ts_t_64, tn_t_64, tf_t_64, te_t_64⟩, hb_t_64⟩ := h_58
    refine aw_zreti dX5_readTest_19 rfl (by first | exact Or.inl rfl | exact Or.inr rfl | assumption) (Nat.le_of_ble_eq_true rfl) (Nat.le_of_ble_eq_true rfl) ?_
    exact ⟨⟨(by first | exact Or.inl rfl | exact Or.inr rfl | assumption), ⟨a_62, by omega, ⟨⟨_, _, _, te_t_64⟩, by omega⟩⟩⟩, rfl, j_60⟩

set_option maxHeartbeats 4000000 in
set_option maxRecDepth 100000 in
theorem g_X5_readAllOf_1 (l : Launch) (D : va_G) (b : Nat) (N : Nat) (V : Wd) (hN : 100 ≤ N) (hW : CW D b V) (p x : Nat) (hp : 100 ≤ p ∧ p < N) (hx : x = 57 ∨ x = 65) (hR : V p = cO 5 [.ref (b + 1), .ref (b + x)]) (a : Nat) (hT : TA b a V) : MI l D b 25 jX5_readAllOf [.ref (b + p), .int 1] N V 0 0 (fun r N9 V9 => ((r = 0 ∨ r = 1) ∧ (∃ a9, a ≤ a9 ∧ TA b a9 V9)) ∧ N = N9 ∧ JW D b N [(1, 1, 3, 3), (x + 1, x + 1, 0, 1000000), (x + 2, x + 2, 0, 1000000), (x, x, 2, 2), (1, 1, 4, 4)] V V9) := by
  have hJ0 : JW D b N [(1, 1, 3, 3), (x + 1, x + 1, 0, 1000000), (x + 2, x + 2, 0, 1000000), (x, x, 2, 2), (1, 1, 4, 4)] V V := JW.rf hW
  obtain ⟨⟨ts_0, tn_0, tf_0, te_0⟩, ha_0⟩ := id hT
  refine mw_of (by decide) (by simp [Value.category]) (Nat.le_of_ble_eq_true rfl) ?_
  show AW l D b jX5_readAllOf (fx_rm 25 0 0) none (fx_MQ D b 0 0 (fx_qi (fun r N9 V9 => ((r = 0 ∨ r = 1) ∧ (∃ a9, a ≤ a9 ∧ TA b a9 V9)) ∧ N = N9 ∧ JW D b N [(1, 1, 3, 3), (x + 1, x + 1, 0, 1000000), (x + 2, x + 2, 0, 1000000), (x, x, 2, 2), (1, 1, 4, 4)] V V9))) 0 [some (.ref (b + p)), some (.int 1), none] [] N V 0 0
  refine aw_aload_n dX5_readAllOf_0 rfl ?_
  refine aw_iload_n dX5_readAllOf_1 rfl ?_
  refine aw_callVi (J' := jX5_readTest) (As := [.int 1]) (st := []) dX5_readAllOf_2 tb_509 ok_X5_readTest ⟨_, ((hJ0.2.1 _ hp.1 hp.2).trans hR)⟩ (by omega) rfl rfl (g_X5_readTest_1 l D b N V hN hJ0.1 p x ⟨by omega, by omega⟩ hx ((hJ0.2.1 _ hp.1 hp.2).trans hR) a (⟨⟨_, _, _, te_0⟩, by omega⟩)) rfl (Nat.le_of_ble_eq_true rfl) ⟨Nat.le_of_ble_eq_true rfl, Nat.le_of_ble_eq_true rfl, Nat.le_of_ble_eq_true rfl, Nat.le_of_ble_eq_true rfl⟩ (fun r_9 N_10 V_5 q_11 => ?_)
  obtain ⟨⟨z_3, h_2⟩, rfl, q_1⟩ := q_11
  have j_4 := JW.trans hJ0 (JW.weak q_1 (Sub.cons LM0 (by decide) (by decide) (by decide) (Or.inr ⟨by decide, by decide⟩) (Sub.cons (LMs LM0) (by omega) (by omega) (by decide) (Or.inl rfl) (Sub.cons (LMs (LMs LM0)) (by omega) (by omega) (by decide) (Or.inl rfl) (Sub.cons (LMs (LMs (LMs LM0))) (by omega) (by omega) (by decide) (Or.inr ⟨by decide, by decide⟩) (Sub.cons (LMs (LMs (LMs (LMs LM0)))) (by decide) (by decide) (by decide) (Or.inr ⟨by decide, by decide⟩) Sub.nil))))))
  obtain ⟨a_6, ha_7, ⟨ts_t_8, tn_t_8, tf_t_8, te_t_8⟩, hb_t_8⟩ := h_2
  refine aw_if_ne (tgt := 10) dX5_readAllOf_5 (by decide) (fun c_12 => ?_) (fun c_12 => ?_)
  · skip
    have ml_10_13 : ∀ (m : Nat) (a10 : Nat) (V10 : Wd), m = 260 - a10 → (JW D b N [(1, 1, 3, 3), (x + 1, x + 1, 0, 1000000), (x + 2, x + 2, 0, 1000000), (x, x, 2, 2), (1, 1, 4, 4)] V V10) → (TA b a10 V10) → (a ≤ a10) → AW l D b jX5_readAllOf (fx_rm 25 0 0) none (fx_MQ D b 0 0 (fx_qi (fun r N9 V9 => ((r = 0 ∨ r = 1) ∧ (∃ a9, a ≤ a9 ∧ TA b a9 V9)) ∧ N = N9 ∧ JW D b N [(1, 1, 3, 3), (x + 1, x + 1, 0, 1000000), (x + 2, x + 2, 0, 1000000), (x, x, 2, 2), (1, 1, 4, 4)] V V9))) 10 [some (.ref (b + p)), some (.int 1), none] [] N V10 0 0 := by
      intro m; refine Nat.strongRecOn m ?_
      intro m mih_10_13 a10 V10 hm10 i10_0 i10_1 i10_2
      obtain ⟨⟨ts_10, tn_10, tf_10, te_10⟩, hb_10⟩ := i10_1
      refine aw_aload_n dX5_readAllOf_10 rfl ?_
      refine aw_get dX5_readAllOf_11 fl_X5_15 ((i10_0.2.1 _ hp.1 hp.2).trans hR) (by omega) rfl ?_
      refine aw_get dX5_readAllOf_14 fl_X5_25 te_10 (by omega) rfl ?_
      refine aw_aload_n dX5_readAllOf_17 rfl ?_
      refine aw_get dX5_readAllOf_18 fl_X5_15 ((i10_0.2.1 _ hp.1 hp.2).trans hR) (by omega) rfl ?_
      refine aw_get dX5_readAllOf_21 fl_X5_59 te_10 (by omega) rfl ?_
      refine aw_icmp_ge (tgt := 84) dX5_readAllOf_24 (by decide) (fun c_14 => ?_) (fun c_14 => ?_)
      · skip
        refine aw_iconst (v := 1) dX5_readAllOf_84 (by decide) ?_
        refine aw_zreti dX5_readAllOf_85 rfl (by first | exact Or.inl rfl | exact Or.inr rfl | assumption) (Nat.le_of_ble_eq_true rfl) (Nat.le_of_ble_eq_true rfl) ?_
        exact ⟨⟨(by first | exact Or.inl rfl | exact Or.inr rfl | assumption), ⟨a10, by omega, ⟨⟨_, _, _, te_10⟩, by omega⟩⟩⟩, rfl, i10_0⟩
      · skip
        refine aw_aload_n dX5_readAllOf_27 rfl ?_
        refine aw_get dX5_readAllOf_28 fl_X5_15 ((i10_0.2.1 _ hp.1 hp.2).trans hR) (by omega) rfl ?_
        refine aw_callVi (J' := jX10_now) (As := []) (st := []) dX5_readAllOf_31 tb_390 ok_X10_now ⟨_, te_10⟩ (by omega) rfl rfl (g_X10_now l D b N V10 hN i10_0.1 a10 (⟨⟨_, _, _, te_10⟩, by omega⟩)) rfl (Nat.le_of_ble_eq_true rfl) ⟨Nat.le_of_ble_eq_true rfl, Nat.le_of_ble_eq_true rfl, Nat.le_of_ble_eq_true rfl, Nat.le_of_ble_eq_true rfl⟩ (fun r_17 N_18 V_19 q_20 => ?_)
        obtain ⟨h_16, rfl, rfl⟩ := q_20
        refine aw_bipush (v := 38) dX5_readAllOf_34 (by decide) ?_
        refine aw_icmp_ne (tgt := 84) dX5_readAllOf_36 (by decide) (fun c_21 => ?_) (fun c_21 => ?_)
        · skip
          refine aw_iconst (v := 1) dX5_readAllOf_84 (by decide) ?_
          refine aw_zreti dX5_readAllOf_85 rfl (by first | exact Or.inl rfl | exact Or.inr rfl | assumption) (Nat.le_of_ble_eq_true rfl) (Nat.le_of_ble_eq_true rfl) ?_
          exact ⟨⟨(by first | exact Or.inl rfl | exact Or.inr rfl | assumption), ⟨a10, by omega, ⟨⟨_, _, _, te_10⟩, by omega⟩⟩⟩, rfl, i10_0⟩
        · skip
          have hlc_21 := h_16.resolve_left (by rw [c_21]; decide)
          refine aw_aload_n dX5_readAllOf_39 rfl ?_
          refine aw_get dX5_readAllOf_40 fl_X5_15 ((i10_0.2.1 _ hp.1 hp.2).trans hR) (by omega) rfl ?_
          refine aw_dup dX5_readAllOf_43 rfl ?_
          refine aw_get dX5_readAllOf_44 fl_X5_25 te_10 (by omega) rfl ?_
          refine aw_iconst (v := 1) dX5_readAllOf_47 (by decide) ?_
          refine aw_iadd dX5_readAllOf_48 ?_
          refine aw_eqi (y := nI (a10 + 1)) (nI_add _ _) ?_
          refine aw_put dX5_readAllOf_49 fp_X5_25 te_10 (by omega) rfl rfl (Nat.le_of_ble_eq_true rfl) rfl ?_
          refine aw_up i10_0 ct_1 ⟨_, _, _, (a10 + 1), rfl, (by first | omega | (split <;> omega))⟩ (WO (s := 3) (x := .int (nI (a10 + 1))) te_10 rfl LM0 (by decide) (by decide) (by decide) (Or.inl (by decide))) (fun V_22 j_22 k_22 e_22 => ?_)
          refine aw_aload_n dX5_readAllOf_52 rfl ?_
          refine aw_get dX5_readAllOf_53 fl_X5_9 ((j_22.2.1 _ hp.1 hp.2).trans hR) (by omega) rfl ?_
          refine aw_bipush (v := 38) dX5_readAllOf_56 (by decide) ?_
          refine aw_iconst (v := 0) dX5_readAllOf_58 (by decide) ?_
          obtain ⟨s8_26, r8_26, h8_26, e_26, hs_26, hr_26⟩ := JW.get j_22 (ctl_0 hx)
          refine aw_callVi (J' := jX4_add) (As := [.int 38, .int 0]) (st := []) dX5_readAllOf_59 tb_415 ok_X4_add ⟨_, e_26⟩ (by omega) rfl rfl (g_X4_add l D b N V_22 hN j_22.1 x hx 38 0 (by decide)) rfl (Nat.le_of_ble_eq_true rfl) ⟨Nat.le_of_ble_eq_true rfl, Nat.le_of_ble_eq_true rfl, Nat.le_of_ble_eq_true rfl, Nat.le_of_ble_eq_true rfl⟩ (fun r_27 N_28 V_25 q_29 => ?_)
          obtain ⟨rfl, q_23⟩ := q_29
          have j_24 := JW.trans j_22 (JW.weak q_23 (Sub.cons (LMs LM0) (by omega) (by omega) (by decide) (Or.inl rfl) (Sub.cons (LMs (LMs LM0)) (by omega) (by omega) (by decide) (Or.inl rfl) (Sub.cons (LMs (LMs (LMs LM0))) (by omega) (by omega) (by decide) (Or.inr ⟨by decide, by decide⟩) Sub.nil))))
          refine aw_istore_n (ls' := [some (.ref (b + p)), some (.int 1), some (.int r_27)]) dX5_readAllOf_62 (Nat.le_of_ble_eq_true rfl) rfl ?_
          refine aw_aload_n dX5_readAllOf_63 rfl ?_
          refine aw_iload_n dX5_readAllOf_64 rfl ?_
          refine aw_callVi (J' := jX5_readTest) (As := [.int 1]) (st := []) dX5_readAllOf_65 tb_509 ok_X5_readTest ⟨_, ((j_24.2.1 _ hp.1 hp.2).trans hR)⟩ (by omega) rfl rfl (g_X5_readTest_1 l D b N V_25 hN j_24.1 p x ⟨by omega, by omega⟩ hx ((j_24.2.1 _ hp.1 hp.2).trans hR) (a10 + 1) (⟨⟨_, _, _, ((JW.same q_23 (by decide) (fun k => (nfc (by omega) (nfc (by omega) (nfc (by omega) nf0))))).trans e_22)⟩, by omega⟩)) rfl (Nat.le_of_ble_eq_true rfl) ⟨Nat.le_of_ble_eq_true rfl, Nat.le_of_ble_eq_true rfl, Nat.le_of_ble_eq_true rfl, Nat.le_of_ble_eq_true rfl⟩ (fun r_38 N_39 V_34 q_40 => ?_)
          obtain ⟨⟨z_32, h_31⟩, rfl, q_30⟩ := q_40
          have j_33 := JW.trans j_24 (JW.weak q_30 (Sub.cons LM0 (by decide) (by decide) (by decide) (Or.inr ⟨by decide, by decide⟩) (Sub.cons (LMs LM0) (by omega) (by omega) (by decide) (Or.inl rfl) (Sub.cons (LMs (LMs LM0)) (by omega) (by omega) (by decide) (Or.inl rfl) (Sub.cons (LMs (LMs (LMs LM0))) (by omega) (by omega) (by decide) (Or.inr ⟨by decide, by decide⟩) (Sub.cons (LMs (LMs (LMs (LMs LM0)))) (by decide) (by decide) (by decide) (Or.inr ⟨by decide, by decide⟩) Sub.nil))))))
          obtain ⟨a_35, ha_36, ⟨ts_t_37, tn_t_37, tf_t_37, te_t_37⟩, hb_t_37⟩ := h_31
          refine aw_if_ne (tgt := 73) dX5_readAllOf_68 (by decide) (fun c_41 => ?_) (fun c_41 => ?_)
          · skip
            refine aw_aload_n dX5_readAllOf_73 rfl ?_
            refine aw_get dX5_readAllOf_74 fl_X5_9 ((j_33.2.1 _ hp.1 hp.2).trans hR) (by omega) rfl ?_
            refine aw_iload_n dX5_readAllOf_77 rfl ?_
            obtain ⟨s8_45, r8_45, h8_45, e_45, hs_45, hr_45⟩ := JW.get j_33 (ctl_0 hx)
            refine aw_callVv (J' := jX4_leadHere) (As := [.int r_27]) (st := []) dX5_readAllOf_78 tb_521 ok_X4_leadHere ⟨_, e_45⟩ (by omega) rfl rfl (g_X4_leadHere l D b N V_34 hN j_33.1 x hx r_27) rfl (Nat.le_of_ble_eq_true rfl) ⟨Nat.le_of_ble_eq_true rfl, Nat.le_of_ble_eq_true rfl, Nat.le_of_ble_eq_true rfl, Nat.le_of_ble_eq_true rfl⟩ (fun  N_46 V_44 q_47 => ?_)
            obtain ⟨rfl, q_42⟩ := q_47
            have j_43 := JW.trans j_33 (JW.weak q_42 (Sub.cons (LMs (LMs LM0)) (by omega) (by omega) (by decide) (Or.inl rfl) Sub.nil))
            refine aw_goto (tgt := 10) dX5_readAllOf_81 (by decide) ?_
            refine aw_le ?_ (mih_10_13 _ (by omega) a_35 V_44 rfl (j_43) (⟨⟨_, _, _, ((JW.same q_42 (by decide) (fun k => (nfc (by omega) nf0))).trans te_t_37)⟩, by omega⟩) (by omega))
            exact ⟨rfl, ⟨rfl, trivial⟩⟩
          · skip
            refine aw_iconst (v := 0) dX5_readAllOf_71 (by decide) ?_
            refine aw_zreti dX5_readAllOf_72 rfl (by first | exact Or.inl rfl | exact Or.inr rfl | assumption) (Nat.le_of_ble_eq_true rfl) (Nat.le_of_ble_eq_true rfl) ?_
            exact ⟨⟨(by first | exact Or.inl rfl | exact Or.inr rfl | assumption), ⟨a_35, by omega, ⟨⟨_, _, _, te_t_37⟩, by omega⟩⟩⟩, rfl, j_33⟩
    refine aw_le ?_ (ml_10_13 _ a_6 V_5 rfl (j_4) (⟨⟨_, _, _, te_t_8⟩, by omega⟩) (by omega))
    exact ⟨rfl, ⟨rfl, trivial⟩⟩
  · skip
    refine aw_iconst (v := 0) dX5_readAllOf_8 (by decide) ?_
    refine aw_zreti dX5_readAllOf_9 rfl (by first | exact Or.inl rfl | exact Or.inr rfl | assumption) (Nat.le_of_ble_eq_true rfl) (Nat.le_of_ble_eq_true rfl) ?_
    exact ⟨⟨(by first | exact Or.inl rfl | exact Or.inr rfl | assumption), ⟨a_6, by omega, ⟨⟨_, _, _, te_t_8⟩, by omega⟩⟩⟩, rfl, j_4⟩

set_option maxHeartbeats 4000000 in
set_option maxRecDepth 100000 in
theorem g_X5_readAnyOf_1 (l : Launch) (D : va_G) (b : Nat) (N : Nat) (V : Wd) (hN : 100 ≤ N) (hW : CW D b V) (p x : Nat) (hp : 100 ≤ p ∧ p < N) (hx : x = 57 ∨ x = 65) (hR : V p = cO 5 [.ref (b + 1), .ref (b + x)]) (a : Nat) (hT : TA b a V) : MI l D b 26 jX5_readAnyOf [.ref (b + p), .int 1] N V 0 0 (fun r N9 V9 => ((r = 0 ∨ r = 1) ∧ (∃ a9, a ≤ a9 ∧ TA b a9 V9)) ∧ N = N9 ∧ JW D b N [(1, 1, 3, 3), (x + 1, x + 1, 0, 1000000), (x + 2, x + 2, 0, 1000000), (x, x, 2, 2), (1, 1, 4, 4)] V V9) := by
  have hJ0 : JW D b N [(1, 1, 3, 3), (x + 1, x + 1, 0, 1000000), (x + 2, x + 2, 0, 1000000), (x, x, 2, 2), (1, 1, 4, 4)] V V := JW.rf hW
  obtain ⟨⟨ts_0, tn_0, tf_0, te_0⟩, ha_0⟩ := id hT
  refine mw_of (by decide) (by simp [Value.category]) (Nat.le_of_ble_eq_true rfl) ?_
  show AW l D b jX5_readAnyOf (fx_rm 26 0 0) none (fx_MQ D b 0 0 (fx_qi (fun r N9 V9 => ((r = 0 ∨ r = 1) ∧ (∃ a9, a ≤ a9 ∧ TA b a9 V9)) ∧ N = N9 ∧ JW D b N [(1, 1, 3, 3), (x + 1, x + 1, 0, 1000000), (x + 2, x + 2, 0, 1000000), (x, x, 2, 2), (1, 1, 4, 4)] V V9))) 0 [some (.ref (b + p)), some (.int 1), none] [] N V 0 0
  refine aw_aload_n dX5_readAnyOf_0 rfl ?_
  refine aw_iload_n dX5_readAnyOf_1 rfl ?_
  refine aw_callVi (J' := jX5_readAllOf) (As := [.int 1]) (st := []) dX5_readAnyOf_2 tb_505 ok_X5_readAllOf ⟨_, ((hJ0.2.1 _ hp.1 hp.2).trans hR)⟩ (by omega) rfl rfl (g_X5_readAllOf_1 l D b N V hN hJ0.1 p x ⟨by omega, by omega⟩ hx ((hJ0.2.1 _ hp.1 hp.2).trans hR) a (⟨⟨_, _, _, te_0⟩, by omega⟩)) rfl (Nat.le_of_ble_eq_true rfl) ⟨Nat.le_of_ble_eq_true rfl, Nat.le_of_ble_eq_true rfl, Nat.le_of_ble_eq_true rfl, Nat.le_of_ble_eq_true rfl⟩ (fun r_9 N_10 V_5 q_11 => ?_)
  obtain ⟨⟨z_3, h_2⟩, rfl, q_1⟩ := q_11
  have j_4 := JW.trans hJ0 (JW.weak q_1 (Sub.cons LM0 (by decide) (by decide) (by decide) (Or.inr ⟨by decide, by decide⟩) (Sub.cons (LMs LM0) (by omega) (by omega) (by decide) (Or.inl rfl) (Sub.cons (LMs (LMs LM0)) (by omega) (by omega) (by decide) (Or.inl rfl) (Sub.cons (LMs (LMs (LMs LM0))) (by omega) (by omega) (by decide) (Or.inr ⟨by decide, by decide⟩) (Sub.cons (LMs (LMs (LMs (LMs LM0)))) (by decide) (by decide) (by decide) (Or.inr ⟨by decide, by decide⟩) Sub.nil))))))
  obtain ⟨a_6, ha_7, ⟨ts_t_8, tn_t_8, tf_t_8, te_t_8⟩, hb_t_8⟩ := h_2
  refine aw_if_ne (tgt := 10) dX5_readAnyOf_5 (by decide) (fun c_12 => ?_) (fun c_12 => ?_)
  · skip
    have ml_10_13 : ∀ (m : Nat) (a10 : Nat) (V10 : Wd), m = 260 - a10 → (JW D b N [(1, 1, 3, 3), (x + 1, x + 1, 0, 1000000), (x + 2, x + 2, 0, 1000000), (x, x, 2, 2), (1, 1, 4, 4)] V V10) → (TA b a10 V10) → (a ≤ a10) → AW l D b jX5_readAnyOf (fx_rm 26 0 0) none (fx_MQ D b 0 0 (fx_qi (fun r N9 V9 => ((r = 0 ∨ r = 1) ∧ (∃ a9, a ≤ a9 ∧ TA b a9 V9)) ∧ N = N9 ∧ JW D b N [(1, 1, 3, 3), (x + 1, x + 1, 0, 1000000), (x + 2, x + 2, 0, 1000000), (x, x, 2, 2), (1, 1, 4, 4)] V V9))) 10 [some (.ref (b + p)), some (.int 1), none] [] N V10 0 0 := by
      intro m; refine Nat.strongRecOn m ?_
      intro m mih_10_13 a10 V10 hm10 i10_0 i10_1 i10_2
      obtain ⟨⟨ts_10, tn_10, tf_10, te_10⟩, hb_10⟩ := i10_1
      refine aw_aload_n dX5_readAnyOf_10 rfl ?_
      refine aw_get dX5_readAnyOf_11 fl_X5_15 ((i10_0.2.1 _ hp.1 hp.2).trans hR) (by omega) rfl ?_
      refine aw_get dX5_readAnyOf_14 fl_X5_25 te_10 (by omega) rfl ?_
      refine aw_aload_n dX5_readAnyOf_17 rfl ?_
      refine aw_get dX5_readAnyOf_18 fl_X5_15 ((i10_0.2.1 _ hp.1 hp.2).trans hR) (by omega) rfl ?_
      refine aw_get dX5_readAnyOf_21 fl_X5_59 te_10 (by omega) rfl ?_
      refine aw_icmp_ge (tgt := 84) dX5_readAnyOf_24 (by decide) (fun c_14 => ?_) (fun c_14 => ?_)
      · skip
        refine aw_iconst (v := 1) dX5_readAnyOf_84 (by decide) ?_
        refine aw_zreti dX5_readAnyOf_85 rfl (by first | exact Or.inl rfl | exact Or.inr rfl | assumption) (Nat.le_of_ble_eq_true rfl) (Nat.le_of_ble_eq_true rfl) ?_
        exact ⟨⟨(by first | exact Or.inl rfl | exact Or.inr rfl | assumption), ⟨a10, by omega, ⟨⟨_, _, _, te_10⟩, by omega⟩⟩⟩, rfl, i10_0⟩
      · skip
        refine aw_aload_n dX5_readAnyOf_27 rfl ?_
        refine aw_get dX5_readAnyOf_28 fl_X5_15 ((i10_0.2.1 _ hp.1 hp.2).trans hR) (by omega) rfl ?_
        refine aw_callVi (J' := jX10_now) (As := []) (st := []) dX5_readAnyOf_31 tb_390 ok_X10_now ⟨_, te_10⟩ (by omega) rfl rfl (g_X10_now l D b N V10 hN i10_0.1 a10 (⟨⟨_, _, _, te_10⟩, by omega⟩)) rfl (Nat.le_of_ble_eq_true rfl) ⟨Nat.le_of_ble_eq_true rfl, Nat.le_of_ble_eq_true rfl, Nat.le_of_ble_eq_true rfl, Nat.le_of_ble_eq_true rfl⟩ (fun r_17 N_18 V_19 q_20 => ?_)
        obtain ⟨h_16, rfl, rfl⟩ := q_20
        refine aw_bipush (v := 124) dX5_readAnyOf_34 (by decide) ?_
        refine aw_icmp_ne (tgt := 84) dX5_readAnyOf_36 (by decide) (fun c_21 => ?_) (fun c_21 => ?_)
        · skip
          refine aw_iconst (v := 1) dX5_readAnyOf_84 (by decide) ?_
          refine aw_zreti dX5_readAnyOf_85 rfl (by first | exact Or.inl rfl | exact Or.inr rfl | assumption) (Nat.le_of_ble_eq_true rfl) (Nat.le_of_ble_eq_true rfl) ?_
          exact ⟨⟨(by first | exact Or.inl rfl | exact Or.inr rfl | assumption), ⟨a10, by omega, ⟨⟨_, _, _, te_10⟩, by omega⟩⟩⟩, rfl, i10_0⟩
        · skip
          have hlc_21 := h_16.resolve_left (by rw [c_21]; decide)
          refine aw_aload_n dX5_readAnyOf_39 rfl ?_
          refine aw_get dX5_readAnyOf_40 fl_X5_15 ((i10_0.2.1 _ hp.1 hp.2).trans hR) (by omega) rfl ?_
          refine aw_dup dX5_readAnyOf_43 rfl ?_
          refine aw_get dX5_readAnyOf_44 fl_X5_25 te_10 (by omega) rfl ?_
          refine aw_iconst (v := 1) dX5_readAnyOf_47 (by decide) ?_
          refine aw_iadd dX5_readAnyOf_48 ?_
          refine aw_eqi (y := nI (a10 + 1)) (nI_add _ _) ?_
          refine aw_put dX5_readAnyOf_49 fp_X5_25 te_10 (by omega) rfl rfl (Nat.le_of_ble_eq_true rfl) rfl ?_
          refine aw_up i10_0 ct_1 ⟨_, _, _, (a10 + 1), rfl, (by first | omega | (split <;> omega))⟩ (WO (s := 3) (x := .int (nI (a10 + 1))) te_10 rfl LM0 (by decide) (by decide) (by decide) (Or.inl (by decide))) (fun V_22 j_22 k_22 e_22 => ?_)
          refine aw_aload_n dX5_readAnyOf_52 rfl ?_
          refine aw_get dX5_readAnyOf_53 fl_X5_9 ((j_22.2.1 _ hp.1 hp.2).trans hR) (by omega) rfl ?_
          refine aw_bipush (v := 124) dX5_readAnyOf_56 (by decide) ?_
          refine aw_iconst (v := 0) dX5_readAnyOf_58 (by decide) ?_
          obtain ⟨s8_26, r8_26, h8_26, e_26, hs_26, hr_26⟩ := JW.get j_22 (ctl_0 hx)
          refine aw_callVi (J' := jX4_add) (As := [.int 124, .int 0]) (st := []) dX5_readAnyOf_59 tb_415 ok_X4_add ⟨_, e_26⟩ (by omega) rfl rfl (g_X4_add l D b N V_22 hN j_22.1 x hx 124 0 (by decide)) rfl (Nat.le_of_ble_eq_true rfl) ⟨Nat.le_of_ble_eq_true rfl, Nat.le_of_ble_eq_true rfl, Nat.le_of_ble_eq_true rfl, Nat.le_of_ble_eq_true rfl⟩ (fun r_27 N_28 V_25 q_29 => ?_)
          obtain ⟨rfl, q_23⟩ := q_29
          have j_24 := JW.trans j_22 (JW.weak q_23 (Sub.cons (LMs LM0) (by omega) (by omega) (by decide) (Or.inl rfl) (Sub.cons (LMs (LMs LM0)) (by omega) (by omega) (by decide) (Or.inl rfl) (Sub.cons (LMs (LMs (LMs LM0))) (by omega) (by omega) (by decide) (Or.inr ⟨by decide, by decide⟩) Sub.nil))))
          refine aw_istore_n (ls' := [some (.ref (b + p)), some (.int 1), some (.int r_27)]) dX5_readAnyOf_62 (Nat.le_of_ble_eq_true rfl) rfl ?_
          refine aw_aload_n dX5_readAnyOf_63 rfl ?_
          refine aw_iload_n dX5_readAnyOf_64 rfl ?_
          refine aw_callVi (J' := jX5_readAllOf) (As := [.int 1]) (st := []) dX5_readAnyOf_65 tb_505 ok_X5_readAllOf ⟨_, ((j_24.2.1 _ hp.1 hp.2).trans hR)⟩ (by omega) rfl rfl (g_X5_readAllOf_1 l D b N V_25 hN j_24.1 p x ⟨by omega, by omega⟩ hx ((j_24.2.1 _ hp.1 hp.2).trans hR) (a10 + 1) (⟨⟨_, _, _, ((JW.same q_23 (by decide) (fun k => (nfc (by omega) (nfc (by omega) (nfc (by omega) nf0))))).trans e_22)⟩, by omega⟩)) rfl (Nat.le_of_ble_eq_true rfl) ⟨Nat.le_of_ble_eq_true rfl, Nat.le_of_ble_eq_true rfl, Nat.le_of_ble_eq_true rfl, Nat.le_of_ble_eq_true rfl⟩ (fun r_38 N_39 V_34 q_40 => ?_)
          obtain ⟨⟨z_32, h_31⟩, rfl, q_30⟩ := q_40
          have j_33 := JW.trans j_24 (JW.weak q_30 (Sub.cons LM0 (by decide) (by decide) (by decide) (Or.inr ⟨by decide, by decide⟩) (Sub.cons (LMs LM0) (by omega) (by omega) (by decide) (Or.inl rfl) (Sub.cons (LMs (LMs LM0)) (by omega) (by omega) (by decide) (Or.inl rfl) (Sub.cons (LMs (LMs (LMs LM0))) (by omega) (by omega) (by decide) (Or.inr ⟨by decide, by decide⟩) (Sub.cons (LMs (LMs (LMs (LMs LM0)))) (by decide) (by decide) (by decide) (Or.inr ⟨by decide, by decide⟩) Sub.nil))))))
          obtain ⟨a_35, ha_36, ⟨ts_t_37, tn_t_37, tf_t_37, te_t_37⟩, hb_t_37⟩ := h_31
          refine aw_if_ne (tgt := 73) dX5_readAnyOf_68 (by decide) (fun c_41 => ?_) (fun c_41 => ?_)
          · skip
            refine aw_aload_n dX5_readAnyOf_73 rfl ?_
            refine aw_get dX5_readAnyOf_74 fl_X5_9 ((j_33.2.1 _ hp.1 hp.2).trans hR) (by omega) rfl ?_
            refine aw_iload_n dX5_readAnyOf_77 rfl ?_
            obtain ⟨s8_45, r8_45, h8_45, e_45, hs_45, hr_45⟩ := JW.get j_33 (ctl_0 hx)
            refine aw_callVv (J' := jX4_leadHere) (As := [.int r_27]) (st := []) dX5_readAnyOf_78 tb_521 ok_X4_leadHere ⟨_, e_45⟩ (by omega) rfl rfl (g_X4_leadHere l D b N V_34 hN j_33.1 x hx r_27) rfl (Nat.le_of_ble_eq_true rfl) ⟨Nat.le_of_ble_eq_true rfl, Nat.le_of_ble_eq_true rfl, Nat.le_of_ble_eq_true rfl, Nat.le_of_ble_eq_true rfl⟩ (fun  N_46 V_44 q_47 => ?_)
            obtain ⟨rfl, q_42⟩ := q_47
            have j_43 := JW.trans j_33 (JW.weak q_42 (Sub.cons (LMs (LMs LM0)) (by omega) (by omega) (by decide) (Or.inl rfl) Sub.nil))
            refine aw_goto (tgt := 10) dX5_readAnyOf_81 (by decide) ?_
            refine aw_le ?_ (mih_10_13 _ (by omega) a_35 V_44 rfl (j_43) (⟨⟨_, _, _, ((JW.same q_42 (by decide) (fun k => (nfc (by omega) nf0))).trans te_t_37)⟩, by omega⟩) (by omega))
            exact ⟨rfl, ⟨rfl, trivial⟩⟩
          · skip
            refine aw_iconst (v := 0) dX5_readAnyOf_71 (by decide) ?_
            refine aw_zreti dX5_readAnyOf_72 rfl (by first | exact Or.inl rfl | exact Or.inr rfl | assumption) (Nat.le_of_ble_eq_true rfl) (Nat.le_of_ble_eq_true rfl) ?_
            exact ⟨⟨(by first | exact Or.inl rfl | exact Or.inr rfl | assumption), ⟨a_35, by omega, ⟨⟨_, _, _, te_t_37⟩, by omega⟩⟩⟩, rfl, j_33⟩
    refine aw_le ?_ (ml_10_13 _ a_6 V_5 rfl (j_4) (⟨⟨_, _, _, te_t_8⟩, by omega⟩) (by omega))
    exact ⟨rfl, ⟨rfl, trivial⟩⟩
  · skip
    refine aw_iconst (v := 0) dX5_readAnyOf_8 (by decide) ?_
    refine aw_zreti dX5_readAnyOf_9 rfl (by first | exact Or.inl rfl | exact Or.inr rfl | assumption) (Nat.le_of_ble_eq_true rfl) (Nat.le_of_ble_eq_true rfl) ?_
    exact ⟨⟨(by first | exact Or.inl rfl | exact Or.inr rfl | assumption), ⟨a_6, by omega, ⟨⟨_, _, _, te_t_8⟩, by omega⟩⟩⟩, rfl, j_4⟩

set_option maxHeartbeats 4000000 in
set_option maxRecDepth 100000 in
theorem g_X5_open_0 (l : Launch) (D : va_G) (b : Nat) (N : Nat) (V : Wd) (hN : 100 ≤ N) (hW : CW D b V) (p x : Nat) (hp : 100 ≤ p ∧ p < N) (hx : x = 57 ∨ x = 65) (hR : V p = cO 5 [.ref (b + 1), .ref (b + x)]) (a : Nat) (hT : TA b a V) (hlt : a < 260) : MI l D b 1 jX5_open [.ref (b + p), .int 0] N V 0 0 (fun r N9 V9 => ((r = 0 ∨ r = 1) ∧ ((r = 1) ∧ ∃ a9, a ≤ a9 ∧ TA b a9 V9)) ∧ N = N9 ∧ JW D b N [(1, 1, 3, 3)] V V9) := by
  have hJ0 : JW D b N [(1, 1, 3, 3)] V V := JW.rf hW
  obtain ⟨⟨ts_0, tn_0, tf_0, te_0⟩, ha_0⟩ := id hT
  refine mw_of (by decide) (by simp [Value.category]) (Nat.le_of_ble_eq_true rfl) ?_
  show AW l D b jX5_open (fx_rm 1 0 0) none (fx_MQ D b 0 0 (fx_qi (fun r N9 V9 => ((r = 0 ∨ r = 1) ∧ ((r = 1) ∧ ∃ a9, a ≤ a9 ∧ TA b a9 V9)) ∧ N = N9 ∧ JW D b N [(1, 1, 3, 3)] V V9))) 0 [some (.ref (b + p)), some (.int 0)] [] N V 0 0
  refine aw_iload_n dX5_open_0 rfl ?_
  refine aw_bipush (v := 6) dX5_open_1 (by decide) ?_
  refine aw_icmp_lt (tgt := 22) dX5_open_3 (by decide) (fun c_1 => ?_) (fun c_1 => ?_)
  rotate_left
  · exact absurd (by decide) c_1
  refine aw_aload_n dX5_open_22 rfl ?_
  refine aw_get dX5_open_23 fl_X5_15 ((hJ0.2.1 _ hp.1 hp.2).trans hR) (by omega) rfl ?_
  refine aw_dup dX5_open_26 rfl ?_
  refine aw_get dX5_open_27 fl_X5_25 te_0 (by omega) rfl ?_
  refine aw_iconst (v := 1) dX5_open_30 (by decide) ?_
  refine aw_iadd dX5_open_31 ?_
  refine aw_eqi (y := nI (a + 1)) (nI_add _ _) ?_
  refine aw_put dX5_open_32 fp_X5_25 te_0 (by omega) rfl rfl (Nat.le_of_ble_eq_true rfl) rfl ?_
  refine aw_up hJ0 ct_1 ⟨_, _, _, (a + 1), rfl, (by first | omega | (split <;> omega))⟩ (WO (s := 3) (x := .int (nI (a + 1))) te_0 rfl LM0 (by decide) (by decide) (by decide) (Or.inl (by decide))) (fun V_2 j_2 k_2 e_2 => ?_)
  refine aw_iconst (v := 1) dX5_open_35 (by decide) ?_
  refine aw_zreti dX5_open_36 rfl (by first | exact Or.inl rfl | exact Or.inr rfl | assumption) (Nat.le_of_ble_eq_true rfl) (Nat.le_of_ble_eq_true rfl) ?_
  exact ⟨⟨(by first | exact Or.inl rfl | exact Or.inr rfl | assumption), ⟨rfl, ⟨(a + 1), by omega, ⟨⟨_, _, _, e_2⟩, by omega⟩⟩⟩⟩, rfl, j_2⟩

set_option maxHeartbeats 4000000 in
set_option maxRecDepth 100000 in
theorem g_X5_readFactor_0 (l : Launch) (D : va_G) (b : Nat) (N : Nat) (V : Wd) (hN : 100 ≤ N) (hW : CW D b V) (p x : Nat) (hp : 100 ≤ p ∧ p < N) (hx : x = 57 ∨ x = 65) (hR : V p = cO 5 [.ref (b + 1), .ref (b + x)]) (a : Nat) (hT : TA b a V) : MI l D b 23 jX5_readFactor [.ref (b + p), .int 0] N V 0 0 (fun r N9 V9 => ((r = 0 ∨ r = 1) ∧ (∃ a9, a ≤ a9 ∧ TA b a9 V9)) ∧ N = N9 ∧ JW D b N [(1, 1, 3, 3), (x + 1, x + 1, 0, 1000000), (x + 2, x + 2, 0, 1000000), (x, x, 2, 2), (1, 1, 4, 4)] V V9) := by
  have hJ0 : JW D b N [(1, 1, 3, 3), (x + 1, x + 1, 0, 1000000), (x + 2, x + 2, 0, 1000000), (x, x, 2, 2), (1, 1, 4, 4)] V V := JW.rf hW
  obtain ⟨⟨ts_0, tn_0, tf_0, te_0⟩, ha_0⟩ := id hT
  refine mw_of (by decide) (by simp [Value.category]) (Nat.le_of_ble_eq_true rfl) ?_
  show AW l D b jX5_readFactor (fx_rm 23 0 0) none (fx_MQ D b 0 0 (fx_qi (fun r N9 V9 => ((r = 0 ∨ r = 1) ∧ (∃ a9, a ≤ a9 ∧ TA b a9 V9)) ∧ N = N9 ∧ JW D b N [(1, 1, 3, 3), (x + 1, x + 1, 0, 1000000), (x + 2, x + 2, 0, 1000000), (x, x, 2, 2), (1, 1, 4, 4)] V V9))) 0 [some (.ref (b + p)), some (.int 0), none, none] [] N V 0 0
  refine aw_aload_n dX5_readFactor_0 rfl ?_
  refine aw_get dX5_readFactor_1 fl_X5_15 ((hJ0.2.1 _ hp.1 hp.2).trans hR) (by omega) rfl ?_
  refine aw_callVi (J' := jX10_now) (As := []) (st := []) dX5_readFactor_4 tb_390 ok_X10_now ⟨_, te_0⟩ (by omega) rfl rfl (g_X10_now l D b N V hN hJ0.1 a (⟨⟨_, _, _, te_0⟩, by omega⟩)) rfl (Nat.le_of_ble_eq_true rfl) ⟨Nat.le_of_ble_eq_true rfl, Nat.le_of_ble_eq_true rfl, Nat.le_of_ble_eq_true rfl, Nat.le_of_ble_eq_true rfl⟩ (fun r_3 N_4 V_5 q_6 => ?_)
  obtain ⟨h_2, rfl, rfl⟩ := q_6
  refine aw_istore_n (ls' := [some (.ref (b + p)), some (.int 0), some (.int r_3), none]) dX5_readFactor_7 (Nat.le_of_ble_eq_true rfl) rfl ?_
  refine aw_iload_n dX5_readFactor_8 rfl ?_
  refine aw_bipush (v := 91) dX5_readFactor_9 (by decide) ?_
  refine aw_icmp_ne (tgt := 50) dX5_readFactor_11 (by decide) (fun c_7 => ?_) (fun c_7 => ?_)
  · skip
    refine aw_iload_n dX5_readFactor_50 rfl ?_
    refine aw_callSi (J' := jX10_isDigit) (As := [.int r_3]) (st := []) dX5_readFactor_51 tb_413 ok_X10_isDigit rfl (g_X10_isDigit l D b N V hN hJ0.1 r_3) rfl (Nat.le_of_ble_eq_true rfl) ⟨Nat.le_of_ble_eq_true rfl, Nat.le_of_ble_eq_true rfl, Nat.le_of_ble_eq_true rfl, Nat.le_of_ble_eq_true rfl⟩ (fun r_11 N_12 V_13 q_14 => ?_)
    obtain ⟨⟨z_10, h_9⟩, rfl, rfl⟩ := q_14
    refine aw_if_eq (tgt := 85) dX5_readFactor_54 (by decide) (fun c_15 => ?_) (fun c_15 => ?_)
    · skip
      refine aw_iload_n dX5_readFactor_85 rfl ?_
      refine aw_if_ge (tgt := 93) dX5_readFactor_86 (by decide) (fun c_16 => ?_) (fun c_16 => ?_)
      · skip
        have hlc_16 := h_2.resolve_left (fun z => absurd c_16 (by rw [z]; decide))
        refine aw_strIdx rfl dX5_readFactor_93 dX5_readFactor_95 dX5_readFactor_96 dX5_readFactor_97 rfl rfl (Nat.le_of_ble_eq_true rfl) ⟨Nat.le_of_ble_eq_true rfl, Nat.le_of_ble_eq_true rfl, Nat.le_of_ble_eq_true rfl, Nat.le_of_ble_eq_true rfl⟩ (fun ixr => ?_)
        refine aw_istore_n (ls' := [some (.ref (b + p)), some (.int 0), some (.int r_3), some (.int ixr)]) dX5_readFactor_100 (Nat.le_of_ble_eq_true rfl) rfl ?_
        refine aw_iload_n dX5_readFactor_101 rfl ?_
        refine aw_if_ge (tgt := 113) dX5_readFactor_102 (by decide) (fun c_17 => ?_) (fun c_17 => ?_)
        · skip
          refine aw_aload_n dX5_readFactor_113 rfl ?_
          refine aw_get dX5_readFactor_114 fl_X5_15 ((hJ0.2.1 _ hp.1 hp.2).trans hR) (by omega) rfl ?_
          refine aw_dup dX5_readFactor_117 rfl ?_
          refine aw_get dX5_readFactor_118 fl_X5_25 te_0 (by omega) rfl ?_
          refine aw_iconst (v := 1) dX5_readFactor_121 (by decide) ?_
          refine aw_iadd dX5_readFactor_122 ?_
          refine aw_eqi (y := nI (a + 1)) (nI_add _ _) ?_
          refine aw_put dX5_readFactor_123 fp_X5_25 te_0 (by omega) rfl rfl (Nat.le_of_ble_eq_true rfl) rfl ?_
          refine aw_up hJ0 ct_1 ⟨_, _, _, (a + 1), rfl, (by first | omega | (split <;> omega))⟩ (WO (s := 3) (x := .int (nI (a + 1))) te_0 rfl LM0 (by decide) (by decide) (by decide) (Or.inl (by decide))) (fun V_18 j_18 k_18 e_18 => ?_)
          refine aw_aload_n dX5_readFactor_126 rfl ?_
          refine aw_get dX5_readFactor_127 fl_X5_9 ((j_18.2.1 _ hp.1 hp.2).trans hR) (by omega) rfl ?_
          refine aw_bipush (v := 64) dX5_readFactor_130 (by decide) ?_
          refine aw_iload_n dX5_readFactor_132 rfl ?_
          obtain ⟨s8_22, r8_22, h8_22, e_22, hs_22, hr_22⟩ := JW.get j_18 (ctl_0 hx)
          refine aw_callVi (J' := jX4_add) (As := [.int 64, .int ixr]) (st := []) dX5_readFactor_133 tb_415 ok_X4_add ⟨_, e_22⟩ (by omega) rfl rfl (g_X4_add l D b N V_18 hN j_18.1 x hx 64 ixr c_17) rfl (Nat.le_of_ble_eq_true rfl) ⟨Nat.le_of_ble_eq_true rfl, Nat.le_of_ble_eq_true rfl, Nat.le_of_ble_eq_true rfl, Nat.le_of_ble_eq_true rfl⟩ (fun r_23 N_24 V_21 q_25 => ?_)
          obtain ⟨rfl, q_19⟩ := q_25
          have j_20 := JW.trans j_18 (JW.weak q_19 (Sub.cons (LMs LM0) (by omega) (by omega) (by decide) (Or.inl rfl) (Sub.cons (LMs (LMs LM0)) (by omega) (by omega) (by decide) (Or.inl rfl) (Sub.cons (LMs (LMs (LMs LM0))) (by omega) (by omega) (by decide) (Or.inr ⟨by decide, by decide⟩) Sub.nil))))
          refine aw_pop dX5_readFactor_136 rfl ?_
          refine aw_iconst (v := 1) dX5_readFactor_137 (by decide) ?_
          refine aw_zreti dX5_readFactor_138 rfl (by first | exact Or.inl rfl | exact Or.inr rfl | assumption) (Nat.le_of_ble_eq_true rfl) (Nat.le_of_ble_eq_true rfl) ?_
          exact ⟨⟨(by first | exact Or.inl rfl | exact Or.inr rfl | assumption), ⟨(a + 1), by omega, ⟨⟨_, _, _, ((JW.same q_19 (by decide) (fun k => (nfc (by omega) (nfc (by omega) (nfc (by omega) nf0))))).trans e_18)⟩, by omega⟩⟩⟩, rfl, j_20⟩
        · skip
          refine aw_aload_n dX5_readFactor_105 rfl ?_
          refine aw_get dX5_readFactor_106 fl_X5_15 ((hJ0.2.1 _ hp.1 hp.2).trans hR) (by omega) rfl ?_
          refine aw_callVi (J' := jX10_cannotStand) (As := []) (st := []) dX5_readFactor_109 tb_493 ok_X10_cannotStand ⟨_, te_0⟩ (by omega) rfl rfl (g_X10_cannotStand l D b N V hN hJ0.1 a (⟨⟨_, _, _, te_0⟩, by omega⟩)) rfl (Nat.le_of_ble_eq_true rfl) ⟨Nat.le_of_ble_eq_true rfl, Nat.le_of_ble_eq_true rfl, Nat.le_of_ble_eq_true rfl, Nat.le_of_ble_eq_true rfl⟩ (fun r_35 N_36 V_30 q_37 => ?_)
          obtain ⟨⟨z_28, h_27⟩, rfl, q_26⟩ := q_37
          have j_29 := JW.trans hJ0 (JW.weak q_26 (Sub.cons (LMs (LMs (LMs (LMs LM0)))) (by decide) (by decide) (by decide) (Or.inr ⟨by decide, by decide⟩) Sub.nil))
          obtain ⟨h_34, a_31, ha_32, ⟨ts_t_33, tn_t_33, tf_t_33, te_t_33⟩, hb_t_33⟩ := h_27
          obtain rfl := h_34
          refine aw_zreti dX5_readFactor_112 rfl (by first | exact Or.inl rfl | exact Or.inr rfl | assumption) (Nat.le_of_ble_eq_true rfl) (Nat.le_of_ble_eq_true rfl) ?_
          exact ⟨⟨(by first | exact Or.inl rfl | exact Or.inr rfl | assumption), ⟨a_31, by omega, ⟨⟨_, _, _, te_t_33⟩, by omega⟩⟩⟩, rfl, j_29⟩
      · skip
        refine aw_iconst (v := (-1)) dX5_readFactor_89 (by decide) ?_
        refine aw_goto (tgt := 100) dX5_readFactor_90 (by decide) ?_
        refine aw_istore_n (ls' := [some (.ref (b + p)), some (.int 0), some (.int r_3), some (.int (-1))]) dX5_readFactor_100 (Nat.le_of_ble_eq_true rfl) rfl ?_
        refine aw_iload_n dX5_readFactor_101 rfl ?_
        refine aw_if_ge (tgt := 113) dX5_readFactor_102 (by decide) (fun c_38 => ?_) (fun c_38 => ?_)
        · exact absurd c_38 (by decide)
        refine aw_aload_n dX5_readFactor_105 rfl ?_
        refine aw_get dX5_readFactor_106 fl_X5_15 ((hJ0.2.1 _ hp.1 hp.2).trans hR) (by omega) rfl ?_
        refine aw_callVi (J' := jX10_cannotStand) (As := []) (st := []) dX5_readFactor_109 tb_493 ok_X10_cannotStand ⟨_, te_0⟩ (by omega) rfl rfl (g_X10_cannotStand l D b N V hN hJ0.1 a (⟨⟨_, _, _, te_0⟩, by omega⟩)) rfl (Nat.le_of_ble_eq_true rfl) ⟨Nat.le_of_ble_eq_true rfl, Nat.le_of_ble_eq_true rfl, Nat.le_of_ble_eq_true rfl, Nat.le_of_ble_eq_true rfl⟩ (fun r_48 N_49 V_43 q_50 => ?_)
        obtain ⟨⟨z_41, h_40⟩, rfl, q_39⟩ := q_50
        have j_42 := JW.trans hJ0 (JW.weak q_39 (Sub.cons (LMs (LMs (LMs (LMs LM0)))) (by decide) (by decide) (by decide) (Or.inr ⟨by decide, by decide⟩) Sub.nil))
        obtain ⟨h_47, a_44, ha_45, ⟨ts_t_46, tn_t_46, tf_t_46, te_t_46⟩, hb_t_46⟩ := h_40
        obtain rfl := h_47
        refine aw_zreti dX5_readFactor_112 rfl (by first | exact Or.inl rfl | exact Or.inr rfl | assumption) (Nat.le_of_ble_eq_true rfl) (Nat.le_of_ble_eq_true rfl) ?_
        exact ⟨⟨(by first | exact Or.inl rfl | exact Or.inr rfl | assumption), ⟨a_44, by omega, ⟨⟨_, _, _, te_t_46⟩, by omega⟩⟩⟩, rfl, j_42⟩
    · skip
      have h0c_15 := h_9.resolve_left c_15
      have hlc_15 := h_2.resolve_left (fun z => absurd h0c_15 (by rw [z]; decide))
      refine aw_aload_n dX5_readFactor_57 rfl ?_
      refine aw_get dX5_readFactor_58 fl_X5_15 ((hJ0.2.1 _ hp.1 hp.2).trans hR) (by omega) rfl ?_
      refine aw_iconst (v := 5) dX5_readFactor_61 (by decide) ?_
      refine aw_callVi (J' := jX10_readNumber) (As := [.int 5]) (st := []) dX5_readFactor_62 tb_414 ok_X10_readNumber ⟨_, te_0⟩ (by omega) rfl rfl (g_X10_readNumber l D b N V hN hJ0.1 5 a (⟨⟨_, _, _, te_0⟩, by omega⟩)) rfl (Nat.le_of_ble_eq_true rfl) ⟨Nat.le_of_ble_eq_true rfl, Nat.le_of_ble_eq_true rfl, Nat.le_of_ble_eq_true rfl, Nat.le_of_ble_eq_true rfl⟩ (fun r_58 N_59 V_54 q_60 => ?_)
      obtain ⟨h_52, rfl, q_51⟩ := q_60
      have j_53 := JW.trans hJ0 (JW.weak q_51 (Sub.cons LM0 (by decide) (by decide) (by decide) (Or.inr ⟨by decide, by decide⟩) (Sub.cons (LMs (LMs (LMs (LMs LM0)))) (by decide) (by decide) (by decide) (Or.inr ⟨by decide, by decide⟩) Sub.nil)))
      obtain ⟨a_55, ha_56, ⟨ts_t_57, tn_t_57, tf_t_57, te_t_57⟩, hb_t_57⟩ := h_52
      refine aw_istore_n (ls' := [some (.ref (b + p)), some (.int 0), some (.int r_3), some (.int r_58)]) dX5_readFactor_65 (Nat.le_of_ble_eq_true rfl) rfl ?_
      refine aw_iload_n dX5_readFactor_66 rfl ?_
      refine aw_if_ge (tgt := 72) dX5_readFactor_67 (by decide) (fun c_61 => ?_) (fun c_61 => ?_)
      · skip
        refine aw_aload_n dX5_readFactor_72 rfl ?_
        refine aw_get dX5_readFactor_73 fl_X5_9 ((j_53.2.1 _ hp.1 hp.2).trans hR) (by omega) rfl ?_
        refine aw_bipush (v := 35) dX5_readFactor_76 (by decide) ?_
        refine aw_iload_n dX5_readFactor_78 rfl ?_
        obtain ⟨s8_65, r8_65, h8_65, e_65, hs_65, hr_65⟩ := JW.get j_53 (ctl_0 hx)
        refine aw_callVi (J' := jX4_add) (As := [.int 35, .int r_58]) (st := []) dX5_readFactor_79 tb_415 ok_X4_add ⟨_, e_65⟩ (by omega) rfl rfl (g_X4_add l D b N V_54 hN j_53.1 x hx 35 r_58 c_61) rfl (Nat.le_of_ble_eq_true rfl) ⟨Nat.le_of_ble_eq_true rfl, Nat.le_of_ble_eq_true rfl, Nat.le_of_ble_eq_true rfl, Nat.le_of_ble_eq_true rfl⟩ (fun r_66 N_67 V_64 q_68 => ?_)
        obtain ⟨rfl, q_62⟩ := q_68
        have j_63 := JW.trans j_53 (JW.weak q_62 (Sub.cons (LMs LM0) (by omega) (by omega) (by decide) (Or.inl rfl) (Sub.cons (LMs (LMs LM0)) (by omega) (by omega) (by decide) (Or.inl rfl) (Sub.cons (LMs (LMs (LMs LM0))) (by omega) (by omega) (by decide) (Or.inr ⟨by decide, by decide⟩) Sub.nil))))
        refine aw_pop dX5_readFactor_82 rfl ?_
        refine aw_iconst (v := 1) dX5_readFactor_83 (by decide) ?_
        refine aw_zreti dX5_readFactor_84 rfl (by first | exact Or.inl rfl | exact Or.inr rfl | assumption) (Nat.le_of_ble_eq_true rfl) (Nat.le_of_ble_eq_true rfl) ?_
        exact ⟨⟨(by first | exact Or.inl rfl | exact Or.inr rfl | assumption), ⟨a_55, by omega, ⟨⟨_, _, _, ((JW.same q_62 (by decide) (fun k => (nfc (by omega) (nfc (by omega) (nfc (by omega) nf0))))).trans te_t_57)⟩, by omega⟩⟩⟩, rfl, j_63⟩
      · skip
        refine aw_iconst (v := 0) dX5_readFactor_70 (by decide) ?_
        refine aw_zreti dX5_readFactor_71 rfl (by first | exact Or.inl rfl | exact Or.inr rfl | assumption) (Nat.le_of_ble_eq_true rfl) (Nat.le_of_ble_eq_true rfl) ?_
        exact ⟨⟨(by first | exact Or.inl rfl | exact Or.inr rfl | assumption), ⟨a_55, by omega, ⟨⟨_, _, _, te_t_57⟩, by omega⟩⟩⟩, rfl, j_53⟩
  · skip
    have hlc_7 := h_2.resolve_left (by rw [c_7]; decide)
    refine aw_aload_n dX5_readFactor_14 rfl ?_
    refine aw_iload_n dX5_readFactor_15 rfl ?_
    refine aw_callVi (J' := jX5_open) (As := [.int 0]) (st := []) dX5_readFactor_16 tb_407 ok_X5_open ⟨_, ((hJ0.2.1 _ hp.1 hp.2).trans hR)⟩ (by omega) rfl rfl (g_X5_open_0 l D b N V hN hJ0.1 p x ⟨by omega, by omega⟩ hx ((hJ0.2.1 _ hp.1 hp.2).trans hR) a (⟨⟨_, _, _, te_0⟩, by omega⟩) (by omega)) rfl (Nat.le_of_ble_eq_true rfl) ⟨Nat.le_of_ble_eq_true rfl, Nat.le_of_ble_eq_true rfl, Nat.le_of_ble_eq_true rfl, Nat.le_of_ble_eq_true rfl⟩ (fun r_78 N_79 V_73 q_80 => ?_)
    obtain ⟨⟨z_71, h_70⟩, rfl, q_69⟩ := q_80
    have j_72 := JW.trans hJ0 (JW.weak q_69 (Sub.cons LM0 (by decide) (by decide) (by decide) (Or.inr ⟨by decide, by decide⟩) Sub.nil))
    obtain ⟨h_77, a_74, ha_75, ⟨ts_t_76, tn_t_76, tf_t_76, te_t_76⟩, hb_t_76⟩ := h_70
    obtain rfl := h_77
    refine aw_if_eq (tgt := 48) dX5_readFactor_19 (by decide) (fun c_81 => ?_) (fun c_81 => ?_)
    · exact absurd c_81 (by decide)
    refine aw_aload_n dX5_readFactor_22 rfl ?_
    refine aw_iload_n dX5_readFactor_23 rfl ?_
    refine aw_iconst (v := 1) dX5_readFactor_24 (by decide) ?_
    refine aw_iadd dX5_readFactor_25 ?_
    refine aw_eqi (y := 1) (by decide) ?_
    refine aw_callVi (J' := jX5_readSum) (As := [.int 1]) (st := []) dX5_readFactor_26 tb_395 ok_X5_readSum ⟨_, ((j_72.2.1 _ hp.1 hp.2).trans hR)⟩ (by omega) rfl rfl (g_X5_readSum_1 l D b N V_73 hN j_72.1 p x ⟨by omega, by omega⟩ hx ((j_72.2.1 _ hp.1 hp.2).trans hR) a_74 (⟨⟨_, _, _, te_t_76⟩, by omega⟩)) rfl (Nat.le_of_ble_eq_true rfl) ⟨Nat.le_of_ble_eq_true rfl, Nat.le_of_ble_eq_true rfl, Nat.le_of_ble_eq_true rfl, Nat.le_of_ble_eq_true rfl⟩ (fun r_90 N_91 V_86 q_92 => ?_)
    obtain ⟨⟨z_84, h_83⟩, rfl, q_82⟩ := q_92
    have j_85 := JW.trans j_72 (JW.weak q_82 (Sub.cons LM0 (by decide) (by decide) (by decide) (Or.inr ⟨by decide, by decide⟩) (Sub.cons (LMs LM0) (by omega) (by omega) (by decide) (Or.inl rfl) (Sub.cons (LMs (LMs LM0)) (by omega) (by omega) (by decide) (Or.inl rfl) (Sub.cons (LMs (LMs (LMs LM0))) (by omega) (by omega) (by decide) (Or.inr ⟨by decide, by decide⟩) (Sub.cons (LMs (LMs (LMs (LMs LM0)))) (by decide) (by decide) (by decide) (Or.inr ⟨by decide, by decide⟩) Sub.nil))))))
    obtain ⟨a_87, ha_88, ⟨ts_t_89, tn_t_89, tf_t_89, te_t_89⟩, hb_t_89⟩ := h_83
    refine aw_if_eq (tgt := 48) dX5_readFactor_29 (by decide) (fun c_93 => ?_) (fun c_93 => ?_)
    · skip
      refine aw_iconst (v := 0) dX5_readFactor_48 (by decide) ?_
      refine aw_zreti dX5_readFactor_49 rfl (by first | exact Or.inl rfl | exact Or.inr rfl | assumption) (Nat.le_of_ble_eq_true rfl) (Nat.le_of_ble_eq_true rfl) ?_
      exact ⟨⟨(by first | exact Or.inl rfl | exact Or.inr rfl | assumption), ⟨a_87, by omega, ⟨⟨_, _, _, te_t_89⟩, by omega⟩⟩⟩, rfl, j_85⟩
    · skip
      refine aw_aload_n dX5_readFactor_32 rfl ?_
      refine aw_get dX5_readFactor_33 fl_X5_15 ((j_85.2.1 _ hp.1 hp.2).trans hR) (by omega) rfl ?_
      refine aw_bipush (v := 93) dX5_readFactor_36 (by decide) ?_
      refine aw_callVi (J' := jX10_expect) (As := [.int 93]) (st := []) dX5_readFactor_38 tb_412 ok_X10_expect ⟨_, te_t_89⟩ (by omega) rfl rfl (g_X10_expect l D b N V_86 hN j_85.1 93 a_87 (⟨⟨_, _, _, te_t_89⟩, by omega⟩) (by decide)) rfl (Nat.le_of_ble_eq_true rfl) ⟨Nat.le_of_ble_eq_true rfl, Nat.le_of_ble_eq_true rfl, Nat.le_of_ble_eq_true rfl, Nat.le_of_ble_eq_true rfl⟩ (fun r_102 N_103 V_98 q_104 => ?_)
      obtain ⟨⟨z_96, h_95⟩, rfl, q_94⟩ := q_104
      have j_97 := JW.trans j_85 (JW.weak q_94 (Sub.cons LM0 (by decide) (by decide) (by decide) (Or.inr ⟨by decide, by decide⟩) (Sub.cons (LMs (LMs (LMs (LMs LM0)))) (by decide) (by decide) (by decide) (Or.inr ⟨by decide, by decide⟩) Sub.nil)))
      obtain ⟨a_99, ha_100, ⟨ts_t_101, tn_t_101, tf_t_101, te_t_101⟩, hb_t_101⟩ := h_95
      refine aw_if_eq (tgt := 48) dX5_readFactor_41 (by decide) (fun c_105 => ?_) (fun c_105 => ?_)
      · skip
        refine aw_iconst (v := 0) dX5_readFactor_48 (by decide) ?_
        refine aw_zreti dX5_readFactor_49 rfl (by first | exact Or.inl rfl | exact Or.inr rfl | assumption) (Nat.le_of_ble_eq_true rfl) (Nat.le_of_ble_eq_true rfl) ?_
        exact ⟨⟨(by first | exact Or.inl rfl | exact Or.inr rfl | assumption), ⟨a_99, by omega, ⟨⟨_, _, _, te_t_101⟩, by omega⟩⟩⟩, rfl, j_97⟩
      · skip
        refine aw_iconst (v := 1) dX5_readFactor_44 (by decide) ?_
        refine aw_goto (tgt := 49) dX5_readFactor_45 (by decide) ?_
        refine aw_zreti dX5_readFactor_49 rfl (by first | exact Or.inl rfl | exact Or.inr rfl | assumption) (Nat.le_of_ble_eq_true rfl) (Nat.le_of_ble_eq_true rfl) ?_
        exact ⟨⟨(by first | exact Or.inl rfl | exact Or.inr rfl | assumption), ⟨a_99, by omega, ⟨⟨_, _, _, te_t_101⟩, by omega⟩⟩⟩, rfl, j_97⟩

set_option maxHeartbeats 4000000 in
set_option maxRecDepth 100000 in
theorem g_X5_readProduct_0 (l : Launch) (D : va_G) (b : Nat) (N : Nat) (V : Wd) (hN : 100 ≤ N) (hW : CW D b V) (p x : Nat) (hp : 100 ≤ p ∧ p < N) (hx : x = 57 ∨ x = 65) (hR : V p = cO 5 [.ref (b + 1), .ref (b + x)]) (a : Nat) (hT : TA b a V) : MI l D b 24 jX5_readProduct [.ref (b + p), .int 0] N V 0 0 (fun r N9 V9 => ((r = 0 ∨ r = 1) ∧ (∃ a9, a ≤ a9 ∧ TA b a9 V9)) ∧ N = N9 ∧ JW D b N [(1, 1, 3, 3), (x + 1, x + 1, 0, 1000000), (x + 2, x + 2, 0, 1000000), (x, x, 2, 2), (1, 1, 4, 4)] V V9) := by
  have hJ0 : JW D b N [(1, 1, 3, 3), (x + 1, x + 1, 0, 1000000), (x + 2, x + 2, 0, 1000000), (x, x, 2, 2), (1, 1, 4, 4)] V V := JW.rf hW
  obtain ⟨⟨ts_0, tn_0, tf_0, te_0⟩, ha_0⟩ := id hT
  refine mw_of (by decide) (by simp [Value.category]) (Nat.le_of_ble_eq_true rfl) ?_
  show AW l D b jX5_readProduct (fx_rm 24 0 0) none (fx_MQ D b 0 0 (fx_qi (fun r N9 V9 => ((r = 0 ∨ r = 1) ∧ (∃ a9, a ≤ a9 ∧ TA b a9 V9)) ∧ N = N9 ∧ JW D b N [(1, 1, 3, 3), (x + 1, x + 1, 0, 1000000), (x + 2, x + 2, 0, 1000000), (x, x, 2, 2), (1, 1, 4, 4)] V V9))) 0 [some (.ref (b + p)), some (.int 0), none] [] N V 0 0
  refine aw_aload_n dX5_readProduct_0 rfl ?_
  refine aw_iload_n dX5_readProduct_1 rfl ?_
  refine aw_callVi (J' := jX5_readFactor) (As := [.int 0]) (st := []) dX5_readProduct_2 tb_403 ok_X5_readFactor ⟨_, ((hJ0.2.1 _ hp.1 hp.2).trans hR)⟩ (by omega) rfl rfl (g_X5_readFactor_0 l D b N V hN hJ0.1 p x ⟨by omega, by omega⟩ hx ((hJ0.2.1 _ hp.1 hp.2).trans hR) a (⟨⟨_, _, _, te_0⟩, by omega⟩)) rfl (Nat.le_of_ble_eq_true rfl) ⟨Nat.le_of_ble_eq_true rfl, Nat.le_of_ble_eq_true rfl, Nat.le_of_ble_eq_true rfl, Nat.le_of_ble_eq_true rfl⟩ (fun r_9 N_10 V_5 q_11 => ?_)
  obtain ⟨⟨z_3, h_2⟩, rfl, q_1⟩ := q_11
  have j_4 := JW.trans hJ0 (JW.weak q_1 (Sub.cons LM0 (by decide) (by decide) (by decide) (Or.inr ⟨by decide, by decide⟩) (Sub.cons (LMs LM0) (by omega) (by omega) (by decide) (Or.inl rfl) (Sub.cons (LMs (LMs LM0)) (by omega) (by omega) (by decide) (Or.inl rfl) (Sub.cons (LMs (LMs (LMs LM0))) (by omega) (by omega) (by decide) (Or.inr ⟨by decide, by decide⟩) (Sub.cons (LMs (LMs (LMs (LMs LM0)))) (by decide) (by decide) (by decide) (Or.inr ⟨by decide, by decide⟩) Sub.nil))))))
  obtain ⟨a_6, ha_7, ⟨ts_t_8, tn_t_8, tf_t_8, te_t_8⟩, hb_t_8⟩ := h_2
  refine aw_if_ne (tgt := 10) dX5_readProduct_5 (by decide) (fun c_12 => ?_) (fun c_12 => ?_)
  · skip
    have ml_10_13 : ∀ (m : Nat) (a10 : Nat) (V10 : Wd), m = 260 - a10 → (JW D b N [(1, 1, 3, 3), (x + 1, x + 1, 0, 1000000), (x + 2, x + 2, 0, 1000000), (x, x, 2, 2), (1, 1, 4, 4)] V V10) → (TA b a10 V10) → (a ≤ a10) → AW l D b jX5_readProduct (fx_rm 24 0 0) none (fx_MQ D b 0 0 (fx_qi (fun r N9 V9 => ((r = 0 ∨ r = 1) ∧ (∃ a9, a ≤ a9 ∧ TA b a9 V9)) ∧ N = N9 ∧ JW D b N [(1, 1, 3, 3), (x + 1, x + 1, 0, 1000000), (x + 2, x + 2, 0, 1000000), (x, x, 2, 2), (1, 1, 4, 4)] V V9))) 10 [some (.ref (b + p)), some (.int 0), none] [] N V10 0 0 := by
      intro m; refine Nat.strongRecOn m ?_
      intro m mih_10_13 a10 V10 hm10 i10_0 i10_1 i10_2
      obtain ⟨⟨ts_10, tn_10, tf_10, te_10⟩, hb_10⟩ := i10_1
      refine aw_aload_n dX5_readProduct_10 rfl ?_
      refine aw_get dX5_readProduct_11 fl_X5_15 ((i10_0.2.1 _ hp.1 hp.2).trans hR) (by omega) rfl ?_
      refine aw_get dX5_readProduct_14 fl_X5_25 te_10 (by omega) rfl ?_
      refine aw_aload_n dX5_readProduct_17 rfl ?_
      refine aw_get dX5_readProduct_18 fl_X5_15 ((i10_0.2.1 _ hp.1 hp.2).trans hR) (by omega) rfl ?_
      refine aw_get dX5_readProduct_21 fl_X5_59 te_10 (by omega) rfl ?_
      refine aw_icmp_ge (tgt := 84) dX5_readProduct_24 (by decide) (fun c_14 => ?_) (fun c_14 => ?_)
      · skip
        refine aw_iconst (v := 1) dX5_readProduct_84 (by decide) ?_
        refine aw_zreti dX5_readProduct_85 rfl (by first | exact Or.inl rfl | exact Or.inr rfl | assumption) (Nat.le_of_ble_eq_true rfl) (Nat.le_of_ble_eq_true rfl) ?_
        exact ⟨⟨(by first | exact Or.inl rfl | exact Or.inr rfl | assumption), ⟨a10, by omega, ⟨⟨_, _, _, te_10⟩, by omega⟩⟩⟩, rfl, i10_0⟩
      · skip
        refine aw_aload_n dX5_readProduct_27 rfl ?_
        refine aw_get dX5_readProduct_28 fl_X5_15 ((i10_0.2.1 _ hp.1 hp.2).trans hR) (by omega) rfl ?_
        refine aw_callVi (J' := jX10_now) (As := []) (st := []) dX5_readProduct_31 tb_390 ok_X10_now ⟨_, te_10⟩ (by omega) rfl rfl (g_X10_now l D b N V10 hN i10_0.1 a10 (⟨⟨_, _, _, te_10⟩, by omega⟩)) rfl (Nat.le_of_ble_eq_true rfl) ⟨Nat.le_of_ble_eq_true rfl, Nat.le_of_ble_eq_true rfl, Nat.le_of_ble_eq_true rfl, Nat.le_of_ble_eq_true rfl⟩ (fun r_17 N_18 V_19 q_20 => ?_)
        obtain ⟨h_16, rfl, rfl⟩ := q_20
        refine aw_callSi (J' := jX5_joinsFactors) (As := [.int r_17]) (st := []) dX5_readProduct_34 tb_494 ok_X5_joinsFactors rfl (g_X5_joinsFactors l D b N V10 hN i10_0.1 r_17) rfl (Nat.le_of_ble_eq_true rfl) ⟨Nat.le_of_ble_eq_true rfl, Nat.le_of_ble_eq_true rfl, Nat.le_of_ble_eq_true rfl, Nat.le_of_ble_eq_true rfl⟩ (fun r_24 N_25 V_26 q_27 => ?_)
        obtain ⟨⟨z_23, h_22⟩, rfl, rfl⟩ := q_27
        refine aw_if_eq (tgt := 84) dX5_readProduct_37 (by decide) (fun c_28 => ?_) (fun c_28 => ?_)
        · skip
          refine aw_iconst (v := 1) dX5_readProduct_84 (by decide) ?_
          refine aw_zreti dX5_readProduct_85 rfl (by first | exact Or.inl rfl | exact Or.inr rfl | assumption) (Nat.le_of_ble_eq_true rfl) (Nat.le_of_ble_eq_true rfl) ?_
          exact ⟨⟨(by first | exact Or.inl rfl | exact Or.inr rfl | assumption), ⟨a10, by omega, ⟨⟨_, _, _, te_10⟩, by omega⟩⟩⟩, rfl, i10_0⟩
        · skip
          have h0c_28 := h_22.resolve_left c_28
          have hlc_28 := h_16.resolve_left (fun z => absurd h0c_28 (by rw [z]; decide))
          refine aw_aload_n dX5_readProduct_40 rfl ?_
          refine aw_get dX5_readProduct_41 fl_X5_15 ((i10_0.2.1 _ hp.1 hp.2).trans hR) (by omega) rfl ?_
          refine aw_callVi (J' := jX10_now) (As := []) (st := []) dX5_readProduct_44 tb_390 ok_X10_now ⟨_, te_10⟩ (by omega) rfl rfl (g_X10_now l D b N V10 hN i10_0.1 a10 (⟨⟨_, _, _, te_10⟩, by omega⟩)) rfl (Nat.le_of_ble_eq_true rfl) ⟨Nat.le_of_ble_eq_true rfl, Nat.le_of_ble_eq_true rfl, Nat.le_of_ble_eq_true rfl, Nat.le_of_ble_eq_true rfl⟩ (fun r_31 N_32 V_33 q_34 => ?_)
          obtain ⟨h_30, rfl, rfl⟩ := q_34
          refine aw_istore_n (ls' := [some (.ref (b + p)), some (.int 0), some (.int r_31)]) dX5_readProduct_47 (Nat.le_of_ble_eq_true rfl) rfl ?_
          refine aw_aload_n dX5_readProduct_48 rfl ?_
          refine aw_get dX5_readProduct_49 fl_X5_15 ((i10_0.2.1 _ hp.1 hp.2).trans hR) (by omega) rfl ?_
          refine aw_dup dX5_readProduct_52 rfl ?_
          refine aw_get dX5_readProduct_53 fl_X5_25 te_10 (by omega) rfl ?_
          refine aw_iconst (v := 1) dX5_readProduct_56 (by decide) ?_
          refine aw_iadd dX5_readProduct_57 ?_
          refine aw_eqi (y := nI (a10 + 1)) (nI_add _ _) ?_
          refine aw_put dX5_readProduct_58 fp_X5_25 te_10 (by omega) rfl rfl (Nat.le_of_ble_eq_true rfl) rfl ?_
          refine aw_up i10_0 ct_1 ⟨_, _, _, (a10 + 1), rfl, (by first | omega | (split <;> omega))⟩ (WO (s := 3) (x := .int (nI (a10 + 1))) te_10 rfl LM0 (by decide) (by decide) (by decide) (Or.inl (by decide))) (fun V_35 j_35 k_35 e_35 => ?_)
          refine aw_aload_n dX5_readProduct_61 rfl ?_
          refine aw_iload_n dX5_readProduct_62 rfl ?_
          refine aw_callVi (J' := jX5_readFactor) (As := [.int 0]) (st := []) dX5_readProduct_63 tb_403 ok_X5_readFactor ⟨_, ((j_35.2.1 _ hp.1 hp.2).trans hR)⟩ (by omega) rfl rfl (g_X5_readFactor_0 l D b N V_35 hN j_35.1 p x ⟨by omega, by omega⟩ hx ((j_35.2.1 _ hp.1 hp.2).trans hR) (a10 + 1) (⟨⟨_, _, _, e_35⟩, by omega⟩)) rfl (Nat.le_of_ble_eq_true rfl) ⟨Nat.le_of_ble_eq_true rfl, Nat.le_of_ble_eq_true rfl, Nat.le_of_ble_eq_true rfl, Nat.le_of_ble_eq_true rfl⟩ (fun r_44 N_45 V_40 q_46 => ?_)
          obtain ⟨⟨z_38, h_37⟩, rfl, q_36⟩ := q_46
          have j_39 := JW.trans j_35 (JW.weak q_36 (Sub.cons LM0 (by decide) (by decide) (by decide) (Or.inr ⟨by decide, by decide⟩) (Sub.cons (LMs LM0) (by omega) (by omega) (by decide) (Or.inl rfl) (Sub.cons (LMs (LMs LM0)) (by omega) (by omega) (by decide) (Or.inl rfl) (Sub.cons (LMs (LMs (LMs LM0))) (by omega) (by omega) (by decide) (Or.inr ⟨by decide, by decide⟩) (Sub.cons (LMs (LMs (LMs (LMs LM0)))) (by decide) (by decide) (by decide) (Or.inr ⟨by decide, by decide⟩) Sub.nil))))))
          obtain ⟨a_41, ha_42, ⟨ts_t_43, tn_t_43, tf_t_43, te_t_43⟩, hb_t_43⟩ := h_37
          refine aw_if_ne (tgt := 71) dX5_readProduct_66 (by decide) (fun c_47 => ?_) (fun c_47 => ?_)
          · skip
            refine aw_aload_n dX5_readProduct_71 rfl ?_
            refine aw_get dX5_readProduct_72 fl_X5_9 ((j_39.2.1 _ hp.1 hp.2).trans hR) (by omega) rfl ?_
            refine aw_iload_n dX5_readProduct_75 rfl ?_
            refine aw_iconst (v := 0) dX5_readProduct_76 (by decide) ?_
            obtain ⟨s8_51, r8_51, h8_51, e_51, hs_51, hr_51⟩ := JW.get j_39 (ctl_0 hx)
            refine aw_callVi (J' := jX4_add) (As := [.int r_31, .int 0]) (st := []) dX5_readProduct_77 tb_415 ok_X4_add ⟨_, e_51⟩ (by omega) rfl rfl (g_X4_add l D b N V_40 hN j_39.1 x hx r_31 0 (by decide)) rfl (Nat.le_of_ble_eq_true rfl) ⟨Nat.le_of_ble_eq_true rfl, Nat.le_of_ble_eq_true rfl, Nat.le_of_ble_eq_true rfl, Nat.le_of_ble_eq_true rfl⟩ (fun r_52 N_53 V_50 q_54 => ?_)
            obtain ⟨rfl, q_48⟩ := q_54
            have j_49 := JW.trans j_39 (JW.weak q_48 (Sub.cons (LMs LM0) (by omega) (by omega) (by decide) (Or.inl rfl) (Sub.cons (LMs (LMs LM0)) (by omega) (by omega) (by decide) (Or.inl rfl) (Sub.cons (LMs (LMs (LMs LM0))) (by omega) (by omega) (by decide) (Or.inr ⟨by decide, by decide⟩) Sub.nil))))
            refine aw_pop dX5_readProduct_80 rfl ?_
            refine aw_goto (tgt := 10) dX5_readProduct_81 (by decide) ?_
            refine aw_le ?_ (mih_10_13 _ (by omega) a_41 V_50 rfl (j_49) (⟨⟨_, _, _, ((JW.same q_48 (by decide) (fun k => (nfc (by omega) (nfc (by omega) (nfc (by omega) nf0))))).trans te_t_43)⟩, by omega⟩) (by omega))
            exact ⟨rfl, ⟨rfl, trivial⟩⟩
          · skip
            refine aw_iconst (v := 0) dX5_readProduct_69 (by decide) ?_
            refine aw_zreti dX5_readProduct_70 rfl (by first | exact Or.inl rfl | exact Or.inr rfl | assumption) (Nat.le_of_ble_eq_true rfl) (Nat.le_of_ble_eq_true rfl) ?_
            exact ⟨⟨(by first | exact Or.inl rfl | exact Or.inr rfl | assumption), ⟨a_41, by omega, ⟨⟨_, _, _, te_t_43⟩, by omega⟩⟩⟩, rfl, j_39⟩
    refine aw_le ?_ (ml_10_13 _ a_6 V_5 rfl (j_4) (⟨⟨_, _, _, te_t_8⟩, by omega⟩) (by omega))
    exact ⟨rfl, ⟨rfl, trivial⟩⟩
  · skip
    refine aw_iconst (v := 0) dX5_readProduct_8 (by decide) ?_
    refine aw_zreti dX5_readProduct_9 rfl (by first | exact Or.inl rfl | exact Or.inr rfl | assumption) (Nat.le_of_ble_eq_true rfl) (Nat.le_of_ble_eq_true rfl) ?_
    exact ⟨⟨(by first | exact Or.inl rfl | exact Or.inr rfl | assumption), ⟨a_6, by omega, ⟨⟨_, _, _, te_t_8⟩, by omega⟩⟩⟩, rfl, j_4⟩

set_option maxHeartbeats 4000000 in
set_option maxRecDepth 100000 in
theorem g_X5_readSum_0 (l : Launch) (D : va_G) (b : Nat) (N : Nat) (V : Wd) (hN : 100 ≤ N) (hW : CW D b V) (p x : Nat) (hp : 100 ≤ p ∧ p < N) (hx : x = 57 ∨ x = 65) (hR : V p = cO 5 [.ref (b + 1), .ref (b + x)]) (a : Nat) (hT : TA b a V) : MI l D b 25 jX5_readSum [.ref (b + p), .int 0] N V 0 0 (fun r N9 V9 => ((r = 0 ∨ r = 1) ∧ (∃ a9, a ≤ a9 ∧ TA b a9 V9)) ∧ N = N9 ∧ JW D b N [(1, 1, 3, 3), (x + 1, x + 1, 0, 1000000), (x + 2, x + 2, 0, 1000000), (x, x, 2, 2), (1, 1, 4, 4)] V V9) := by
  have hJ0 : JW D b N [(1, 1, 3, 3), (x + 1, x + 1, 0, 1000000), (x + 2, x + 2, 0, 1000000), (x, x, 2, 2), (1, 1, 4, 4)] V V := JW.rf hW
  obtain ⟨⟨ts_0, tn_0, tf_0, te_0⟩, ha_0⟩ := id hT
  refine mw_of (by decide) (by simp [Value.category]) (Nat.le_of_ble_eq_true rfl) ?_
  show AW l D b jX5_readSum (fx_rm 25 0 0) none (fx_MQ D b 0 0 (fx_qi (fun r N9 V9 => ((r = 0 ∨ r = 1) ∧ (∃ a9, a ≤ a9 ∧ TA b a9 V9)) ∧ N = N9 ∧ JW D b N [(1, 1, 3, 3), (x + 1, x + 1, 0, 1000000), (x + 2, x + 2, 0, 1000000), (x, x, 2, 2), (1, 1, 4, 4)] V V9))) 0 [some (.ref (b + p)), some (.int 0), none] [] N V 0 0
  refine aw_aload_n dX5_readSum_0 rfl ?_
  refine aw_iload_n dX5_readSum_1 rfl ?_
  refine aw_callVi (J' := jX5_readProduct) (As := [.int 0]) (st := []) dX5_readSum_2 tb_399 ok_X5_readProduct ⟨_, ((hJ0.2.1 _ hp.1 hp.2).trans hR)⟩ (by omega) rfl rfl (g_X5_readProduct_0 l D b N V hN hJ0.1 p x ⟨by omega, by omega⟩ hx ((hJ0.2.1 _ hp.1 hp.2).trans hR) a (⟨⟨_, _, _, te_0⟩, by omega⟩)) rfl (Nat.le_of_ble_eq_true rfl) ⟨Nat.le_of_ble_eq_true rfl, Nat.le_of_ble_eq_true rfl, Nat.le_of_ble_eq_true rfl, Nat.le_of_ble_eq_true rfl⟩ (fun r_9 N_10 V_5 q_11 => ?_)
  obtain ⟨⟨z_3, h_2⟩, rfl, q_1⟩ := q_11
  have j_4 := JW.trans hJ0 (JW.weak q_1 (Sub.cons LM0 (by decide) (by decide) (by decide) (Or.inr ⟨by decide, by decide⟩) (Sub.cons (LMs LM0) (by omega) (by omega) (by decide) (Or.inl rfl) (Sub.cons (LMs (LMs LM0)) (by omega) (by omega) (by decide) (Or.inl rfl) (Sub.cons (LMs (LMs (LMs LM0))) (by omega) (by omega) (by decide) (Or.inr ⟨by decide, by decide⟩) (Sub.cons (LMs (LMs (LMs (LMs LM0)))) (by decide) (by decide) (by decide) (Or.inr ⟨by decide, by decide⟩) Sub.nil))))))
  obtain ⟨a_6, ha_7, ⟨ts_t_8, tn_t_8, tf_t_8, te_t_8⟩, hb_t_8⟩ := h_2
  refine aw_if_ne (tgt := 10) dX5_readSum_5 (by decide) (fun c_12 => ?_) (fun c_12 => ?_)
  · skip
    have ml_10_13 : ∀ (m : Nat) (a10 : Nat) (V10 : Wd), m = 260 - a10 → (JW D b N [(1, 1, 3, 3), (x + 1, x + 1, 0, 1000000), (x + 2, x + 2, 0, 1000000), (x, x, 2, 2), (1, 1, 4, 4)] V V10) → (TA b a10 V10) → (a ≤ a10) → AW l D b jX5_readSum (fx_rm 25 0 0) none (fx_MQ D b 0 0 (fx_qi (fun r N9 V9 => ((r = 0 ∨ r = 1) ∧ (∃ a9, a ≤ a9 ∧ TA b a9 V9)) ∧ N = N9 ∧ JW D b N [(1, 1, 3, 3), (x + 1, x + 1, 0, 1000000), (x + 2, x + 2, 0, 1000000), (x, x, 2, 2), (1, 1, 4, 4)] V V9))) 10 [some (.ref (b + p)), some (.int 0), none] [] N V10 0 0 := by
      intro m; refine Nat.strongRecOn m ?_
      intro m mih_10_13 a10 V10 hm10 i10_0 i10_1 i10_2
      obtain ⟨⟨ts_10, tn_10, tf_10, te_10⟩, hb_10⟩ := i10_1
      refine aw_aload_n dX5_readSum_10 rfl ?_
      refine aw_get dX5_readSum_11 fl_X5_15 ((i10_0.2.1 _ hp.1 hp.2).trans hR) (by omega) rfl ?_
      refine aw_get dX5_readSum_14 fl_X5_25 te_10 (by omega) rfl ?_
      refine aw_aload_n dX5_readSum_17 rfl ?_
      refine aw_get dX5_readSum_18 fl_X5_15 ((i10_0.2.1 _ hp.1 hp.2).trans hR) (by omega) rfl ?_
      refine aw_get dX5_readSum_21 fl_X5_59 te_10 (by omega) rfl ?_
      refine aw_icmp_ge (tgt := 95) dX5_readSum_24 (by decide) (fun c_14 => ?_) (fun c_14 => ?_)
      · skip
        refine aw_iconst (v := 1) dX5_readSum_95 (by decide) ?_
        refine aw_zreti dX5_readSum_96 rfl (by first | exact Or.inl rfl | exact Or.inr rfl | assumption) (Nat.le_of_ble_eq_true rfl) (Nat.le_of_ble_eq_true rfl) ?_
        exact ⟨⟨(by first | exact Or.inl rfl | exact Or.inr rfl | assumption), ⟨a10, by omega, ⟨⟨_, _, _, te_10⟩, by omega⟩⟩⟩, rfl, i10_0⟩
      · skip
        refine aw_aload_n dX5_readSum_27 rfl ?_
        refine aw_get dX5_readSum_28 fl_X5_15 ((i10_0.2.1 _ hp.1 hp.2).trans hR) (by omega) rfl ?_
        refine aw_callVi (J' := jX10_now) (As := []) (st := []) dX5_readSum_31 tb_390 ok_X10_now ⟨_, te_10⟩ (by omega) rfl rfl (g_X10_now l D b N V10 hN i10_0.1 a10 (⟨⟨_, _, _, te_10⟩, by omega⟩)) rfl (Nat.le_of_ble_eq_true rfl) ⟨Nat.le_of_ble_eq_true rfl, Nat.le_of_ble_eq_true rfl, Nat.le_of_ble_eq_true rfl, Nat.le_of_ble_eq_true rfl⟩ (fun r_17 N_18 V_19 q_20 => ?_)
        obtain ⟨h_16, rfl, rfl⟩ := q_20
        refine aw_bipush (v := 43) dX5_readSum_34 (by decide) ?_
        refine aw_icmp_eq (tgt := 51) dX5_readSum_36 (by decide) (fun c_21 => ?_) (fun c_21 => ?_)
        · skip
          have hlc_21 := h_16.resolve_left (by rw [c_21]; decide)
          refine aw_aload_n dX5_readSum_51 rfl ?_
          refine aw_get dX5_readSum_52 fl_X5_15 ((i10_0.2.1 _ hp.1 hp.2).trans hR) (by omega) rfl ?_
          refine aw_callVi (J' := jX10_now) (As := []) (st := []) dX5_readSum_55 tb_390 ok_X10_now ⟨_, te_10⟩ (by omega) rfl rfl (g_X10_now l D b N V10 hN i10_0.1 a10 (⟨⟨_, _, _, te_10⟩, by omega⟩)) rfl (Nat.le_of_ble_eq_true rfl) ⟨Nat.le_of_ble_eq_true rfl, Nat.le_of_ble_eq_true rfl, Nat.le_of_ble_eq_true rfl, Nat.le_of_ble_eq_true rfl⟩ (fun r_24 N_25 V_26 q_27 => ?_)
          obtain ⟨h_23, rfl, rfl⟩ := q_27
          refine aw_istore_n (ls' := [some (.ref (b + p)), some (.int 0), some (.int r_24)]) dX5_readSum_58 (Nat.le_of_ble_eq_true rfl) rfl ?_
          refine aw_aload_n dX5_readSum_59 rfl ?_
          refine aw_get dX5_readSum_60 fl_X5_15 ((i10_0.2.1 _ hp.1 hp.2).trans hR) (by omega) rfl ?_
          refine aw_dup dX5_readSum_63 rfl ?_
          refine aw_get dX5_readSum_64 fl_X5_25 te_10 (by omega) rfl ?_
          refine aw_iconst (v := 1) dX5_readSum_67 (by decide) ?_
          refine aw_iadd dX5_readSum_68 ?_
          refine aw_eqi (y := nI (a10 + 1)) (nI_add _ _) ?_
          refine aw_put dX5_readSum_69 fp_X5_25 te_10 (by omega) rfl rfl (Nat.le_of_ble_eq_true rfl) rfl ?_
          refine aw_up i10_0 ct_1 ⟨_, _, _, (a10 + 1), rfl, (by first | omega | (split <;> omega))⟩ (WO (s := 3) (x := .int (nI (a10 + 1))) te_10 rfl LM0 (by decide) (by decide) (by decide) (Or.inl (by decide))) (fun V_28 j_28 k_28 e_28 => ?_)
          refine aw_aload_n dX5_readSum_72 rfl ?_
          refine aw_iload_n dX5_readSum_73 rfl ?_
          refine aw_callVi (J' := jX5_readProduct) (As := [.int 0]) (st := []) dX5_readSum_74 tb_399 ok_X5_readProduct ⟨_, ((j_28.2.1 _ hp.1 hp.2).trans hR)⟩ (by omega) rfl rfl (g_X5_readProduct_0 l D b N V_28 hN j_28.1 p x ⟨by omega, by omega⟩ hx ((j_28.2.1 _ hp.1 hp.2).trans hR) (a10 + 1) (⟨⟨_, _, _, e_28⟩, by omega⟩)) rfl (Nat.le_of_ble_eq_true rfl) ⟨Nat.le_of_ble_eq_true rfl, Nat.le_of_ble_eq_true rfl, Nat.le_of_ble_eq_true rfl, Nat.le_of_ble_eq_true rfl⟩ (fun r_37 N_38 V_33 q_39 => ?_)
          obtain ⟨⟨z_31, h_30⟩, rfl, q_29⟩ := q_39
          have j_32 := JW.trans j_28 (JW.weak q_29 (Sub.cons LM0 (by decide) (by decide) (by decide) (Or.inr ⟨by decide, by decide⟩) (Sub.cons (LMs LM0) (by omega) (by omega) (by decide) (Or.inl rfl) (Sub.cons (LMs (LMs LM0)) (by omega) (by omega) (by decide) (Or.inl rfl) (Sub.cons (LMs (LMs (LMs LM0))) (by omega) (by omega) (by decide) (Or.inr ⟨by decide, by decide⟩) (Sub.cons (LMs (LMs (LMs (LMs LM0)))) (by decide) (by decide) (by decide) (Or.inr ⟨by decide, by decide⟩) Sub.nil))))))
          obtain ⟨a_34, ha_35, ⟨ts_t_36, tn_t_36, tf_t_36, te_t_36⟩, hb_t_36⟩ := h_30
          refine aw_if_ne (tgt := 82) dX5_readSum_77 (by decide) (fun c_40 => ?_) (fun c_40 => ?_)
          · skip
            refine aw_aload_n dX5_readSum_82 rfl ?_
            refine aw_get dX5_readSum_83 fl_X5_9 ((j_32.2.1 _ hp.1 hp.2).trans hR) (by omega) rfl ?_
            refine aw_iload_n dX5_readSum_86 rfl ?_
            refine aw_iconst (v := 0) dX5_readSum_87 (by decide) ?_
            obtain ⟨s8_44, r8_44, h8_44, e_44, hs_44, hr_44⟩ := JW.get j_32 (ctl_0 hx)
            refine aw_callVi (J' := jX4_add) (As := [.int r_24, .int 0]) (st := []) dX5_readSum_88 tb_415 ok_X4_add ⟨_, e_44⟩ (by omega) rfl rfl (g_X4_add l D b N V_33 hN j_32.1 x hx r_24 0 (by decide)) rfl (Nat.le_of_ble_eq_true rfl) ⟨Nat.le_of_ble_eq_true rfl, Nat.le_of_ble_eq_true rfl, Nat.le_of_ble_eq_true rfl, Nat.le_of_ble_eq_true rfl⟩ (fun r_45 N_46 V_43 q_47 => ?_)
            obtain ⟨rfl, q_41⟩ := q_47
            have j_42 := JW.trans j_32 (JW.weak q_41 (Sub.cons (LMs LM0) (by omega) (by omega) (by decide) (Or.inl rfl) (Sub.cons (LMs (LMs LM0)) (by omega) (by omega) (by decide) (Or.inl rfl) (Sub.cons (LMs (LMs (LMs LM0))) (by omega) (by omega) (by decide) (Or.inr ⟨by decide, by decide⟩) Sub.nil))))
            refine aw_pop dX5_readSum_91 rfl ?_
            refine aw_goto (tgt := 10) dX5_readSum_92 (by decide) ?_
            refine aw_le ?_ (mih_10_13 _ (by omega) a_34 V_43 rfl (j_42) (⟨⟨_, _, _, ((JW.same q_41 (by decide) (fun k => (nfc (by omega) (nfc (by omega) (nfc (by omega) nf0))))).trans te_t_36)⟩, by omega⟩) (by omega))
            exact ⟨rfl, ⟨rfl, trivial⟩⟩
          · skip
            refine aw_iconst (v := 0) dX5_readSum_80 (by decide) ?_
            refine aw_zreti dX5_readSum_81 rfl (by first | exact Or.inl rfl | exact Or.inr rfl | assumption) (Nat.le_of_ble_eq_true rfl) (Nat.le_of_ble_eq_true rfl) ?_
            exact ⟨⟨(by first | exact Or.inl rfl | exact Or.inr rfl | assumption), ⟨a_34, by omega, ⟨⟨_, _, _, te_t_36⟩, by omega⟩⟩⟩, rfl, j_32⟩
        · skip
          refine aw_aload_n dX5_readSum_39 rfl ?_
          refine aw_get dX5_readSum_40 fl_X5_15 ((i10_0.2.1 _ hp.1 hp.2).trans hR) (by omega) rfl ?_
          refine aw_callVi (J' := jX10_now) (As := []) (st := []) dX5_readSum_43 tb_390 ok_X10_now ⟨_, te_10⟩ (by omega) rfl rfl (g_X10_now l D b N V10 hN i10_0.1 a10 (⟨⟨_, _, _, te_10⟩, by omega⟩)) rfl (Nat.le_of_ble_eq_true rfl) ⟨Nat.le_of_ble_eq_true rfl, Nat.le_of_ble_eq_true rfl, Nat.le_of_ble_eq_true rfl, Nat.le_of_ble_eq_true rfl⟩ (fun r_50 N_51 V_52 q_53 => ?_)
          obtain ⟨h_49, rfl, rfl⟩ := q_53
          refine aw_bipush (v := 45) dX5_readSum_46 (by decide) ?_
          refine aw_icmp_ne (tgt := 95) dX5_readSum_48 (by decide) (fun c_54 => ?_) (fun c_54 => ?_)
          · skip
            refine aw_iconst (v := 1) dX5_readSum_95 (by decide) ?_
            refine aw_zreti dX5_readSum_96 rfl (by first | exact Or.inl rfl | exact Or.inr rfl | assumption) (Nat.le_of_ble_eq_true rfl) (Nat.le_of_ble_eq_true rfl) ?_
            exact ⟨⟨(by first | exact Or.inl rfl | exact Or.inr rfl | assumption), ⟨a10, by omega, ⟨⟨_, _, _, te_10⟩, by omega⟩⟩⟩, rfl, i10_0⟩
          · skip
            have hlc_54 := h_49.resolve_left (by rw [c_54]; decide)
            refine aw_aload_n dX5_readSum_51 rfl ?_
            refine aw_get dX5_readSum_52 fl_X5_15 ((i10_0.2.1 _ hp.1 hp.2).trans hR) (by omega) rfl ?_
            refine aw_callVi (J' := jX10_now) (As := []) (st := []) dX5_readSum_55 tb_390 ok_X10_now ⟨_, te_10⟩ (by omega) rfl rfl (g_X10_now l D b N V10 hN i10_0.1 a10 (⟨⟨_, _, _, te_10⟩, by omega⟩)) rfl (Nat.le_of_ble_eq_true rfl) ⟨Nat.le_of_ble_eq_true rfl, Nat.le_of_ble_eq_true rfl, Nat.le_of_ble_eq_true rfl, Nat.le_of_ble_eq_true rfl⟩ (fun r_57 N_58 V_59 q_60 => ?_)
            obtain ⟨h_56, rfl, rfl⟩ := q_60
            refine aw_istore_n (ls' := [some (.ref (b + p)), some (.int 0), some (.int r_57)]) dX5_readSum_58 (Nat.le_of_ble_eq_true rfl) rfl ?_
            refine aw_aload_n dX5_readSum_59 rfl ?_
            refine aw_get dX5_readSum_60 fl_X5_15 ((i10_0.2.1 _ hp.1 hp.2).trans hR) (by omega) rfl ?_
            refine aw_dup dX5_readSum_63 rfl ?_
            refine aw_get dX5_readSum_64 fl_X5_25 te_10 (by omega) rfl ?_
            refine aw_iconst (v := 1) dX5_readSum_67 (by decide) ?_
            refine aw_iadd dX5_readSum_68 ?_
            refine aw_eqi (y := nI (a10 + 1)) (nI_add _ _) ?_
            refine aw_put dX5_readSum_69 fp_X5_25 te_10 (by omega) rfl rfl (Nat.le_of_ble_eq_true rfl) rfl ?_
            refine aw_up i10_0 ct_1 ⟨_, _, _, (a10 + 1), rfl, (by first | omega | (split <;> omega))⟩ (WO (s := 3) (x := .int (nI (a10 + 1))) te_10 rfl LM0 (by decide) (by decide) (by decide) (Or.inl (by decide))) (fun V_61 j_61 k_61 e_61 => ?_)
            refine aw_aload_n dX5_readSum_72 rfl ?_
            refine aw_iload_n dX5_readSum_73 rfl ?_
            refine aw_callVi (J' := jX5_readProduct) (As := [.int 0]) (st := []) dX5_readSum_74 tb_399 ok_X5_readProduct ⟨_, ((j_61.2.1 _ hp.1 hp.2).trans hR)⟩ (by omega) rfl rfl (g_X5_readProduct_0 l D b N V_61 hN j_61.1 p x ⟨by omega, by omega⟩ hx ((j_61.2.1 _ hp.1 hp.2).trans hR) (a10 + 1) (⟨⟨_, _, _, e_61⟩, by omega⟩)) rfl (Nat.le_of_ble_eq_true rfl) ⟨Nat.le_of_ble_eq_true rfl, Nat.le_of_ble_eq_true rfl, Nat.le_of_ble_eq_true rfl, Nat.le_of_ble_eq_true rfl⟩ (fun r_70 N_71 V_66 q_72 => ?_)
            obtain ⟨⟨z_64, h_63⟩, rfl, q_62⟩ := q_72
            have j_65 := JW.trans j_61 (JW.weak q_62 (Sub.cons LM0 (by decide) (by decide) (by decide) (Or.inr ⟨by decide, by decide⟩) (Sub.cons (LMs LM0) (by omega) (by omega) (by decide) (Or.inl rfl) (Sub.cons (LMs (LMs LM0)) (by omega) (by omega) (by decide) (Or.inl rfl) (Sub.cons (LMs (LMs (LMs LM0))) (by omega) (by omega) (by decide) (Or.inr ⟨by decide, by decide⟩) (Sub.cons (LMs (LMs (LMs (LMs LM0)))) (by decide) (by decide) (by decide) (Or.inr ⟨by decide, by decide⟩) Sub.nil))))))
            obtain ⟨a_67, ha_68, ⟨ts_t_69, tn_t_69, tf_t_69, te_t_69⟩, hb_t_69⟩ := h_63
            refine aw_if_ne (tgt := 82) dX5_readSum_77 (by decide) (fun c_73 => ?_) (fun c_73 => ?_)
            · skip
              refine aw_aload_n dX5_readSum_82 rfl ?_
              refine aw_get dX5_readSum_83 fl_X5_9 ((j_65.2.1 _ hp.1 hp.2).trans hR) (by omega) rfl ?_
              refine aw_iload_n dX5_readSum_86 rfl ?_
              refine aw_iconst (v := 0) dX5_readSum_87 (by decide) ?_
              obtain ⟨s8_77, r8_77, h8_77, e_77, hs_77, hr_77⟩ := JW.get j_65 (ctl_0 hx)
              refine aw_callVi (J' := jX4_add) (As := [.int r_57, .int 0]) (st := []) dX5_readSum_88 tb_415 ok_X4_add ⟨_, e_77⟩ (by omega) rfl rfl (g_X4_add l D b N V_66 hN j_65.1 x hx r_57 0 (by decide)) rfl (Nat.le_of_ble_eq_true rfl) ⟨Nat.le_of_ble_eq_true rfl, Nat.le_of_ble_eq_true rfl, Nat.le_of_ble_eq_true rfl, Nat.le_of_ble_eq_true rfl⟩ (fun r_78 N_79 V_76 q_80 => ?_)
              obtain ⟨rfl, q_74⟩ := q_80
              have j_75 := JW.trans j_65 (JW.weak q_74 (Sub.cons (LMs LM0) (by omega) (by omega) (by decide) (Or.inl rfl) (Sub.cons (LMs (LMs LM0)) (by omega) (by omega) (by decide) (Or.inl rfl) (Sub.cons (LMs (LMs (LMs LM0))) (by omega) (by omega) (by decide) (Or.inr ⟨by decide, by decide⟩) Sub.nil))))
              refine aw_pop dX5_readSum_91 rfl ?_
              refine aw_goto (tgt := 10) dX5_readSum_92 (by decide) ?_
              refine aw_le ?_ (mih_10_13 _ (by omega) a_67 V_76 rfl (j_75) (⟨⟨_, _, _, ((JW.same q_74 (by decide) (fun k => (nfc (by omega) (nfc (by omega) (nfc (by omega) nf0))))).trans te_t_69)⟩, by omega⟩) (by omega))
              exact ⟨rfl, ⟨rfl, trivial⟩⟩
            · skip
              refine aw_iconst (v := 0) dX5_readSum_80 (by decide) ?_
              refine aw_zreti dX5_readSum_81 rfl (by first | exact Or.inl rfl | exact Or.inr rfl | assumption) (Nat.le_of_ble_eq_true rfl) (Nat.le_of_ble_eq_true rfl) ?_
              exact ⟨⟨(by first | exact Or.inl rfl | exact Or.inr rfl | assumption), ⟨a_67, by omega, ⟨⟨_, _, _, te_t_69⟩, by omega⟩⟩⟩, rfl, j_65⟩
    refine aw_le ?_ (ml_10_13 _ a_6 V_5 rfl (j_4) (⟨⟨_, _, _, te_t_8⟩, by omega⟩) (by omega))
    exact ⟨rfl, ⟨rfl, trivial⟩⟩
  · skip
    refine aw_iconst (v := 0) dX5_readSum_8 (by decide) ?_
    refine aw_zreti dX5_readSum_9 rfl (by first | exact Or.inl rfl | exact Or.inr rfl | assumption) (Nat.le_of_ble_eq_true rfl) (Nat.le_of_ble_eq_true rfl) ?_
    exact ⟨⟨(by first | exact Or.inl rfl | exact Or.inr rfl | assumption), ⟨a_6, by omega, ⟨⟨_, _, _, te_t_8⟩, by omega⟩⟩⟩, rfl, j_4⟩

set_option maxHeartbeats 4000000 in
set_option maxRecDepth 100000 in
theorem g_X5_readLine (l : Launch) (D : va_G) (b : Nat) (N : Nat) (V : Wd) (hN : 100 ≤ N) (hW : CW D b V) (p x : Nat) (hp : 100 ≤ p ∧ p < N) (hx : x = 57 ∨ x = 65) (hR : V p = cO 5 [.ref (b + 1), .ref (b + x)]) (a : Nat) (hT : TA b a V) (hlt : a < 260) : MI l D b 27 jX5_readLine [.ref (b + p)] N V 0 0 (fun r N9 V9 => ((r = 0 ∨ r = 1) ∧ (∃ a9, a ≤ a9 ∧ TA b a9 V9)) ∧ N = N9 ∧ JW D b N [(1, 1, 3, 3), (x + 3, x + 3, 0, 1000000), (x + 4, x + 4, 0, 1000000), (x + 1, x + 1, 0, 1000000), (x + 2, x + 2, 0, 1000000), (x, x, 2, 2), (x + 5, x + 5, 0, 1000000), (1, 1, 4, 4), (x, x, 6, 6)] V V9) := by
  have hJ0 : JW D b N [(1, 1, 3, 3), (x + 3, x + 3, 0, 1000000), (x + 4, x + 4, 0, 1000000), (x + 1, x + 1, 0, 1000000), (x + 2, x + 2, 0, 1000000), (x, x, 2, 2), (x + 5, x + 5, 0, 1000000), (1, 1, 4, 4), (x, x, 6, 6)] V V := JW.rf hW
  obtain ⟨⟨ts_0, tn_0, tf_0, te_0⟩, ha_0⟩ := id hT
  refine mw_of (by decide) (by simp [Value.category]) (Nat.le_of_ble_eq_true rfl) ?_
  show AW l D b jX5_readLine (fx_rm 27 0 0) none (fx_MQ D b 0 0 (fx_qi (fun r N9 V9 => ((r = 0 ∨ r = 1) ∧ (∃ a9, a ≤ a9 ∧ TA b a9 V9)) ∧ N = N9 ∧ JW D b N [(1, 1, 3, 3), (x + 3, x + 3, 0, 1000000), (x + 4, x + 4, 0, 1000000), (x + 1, x + 1, 0, 1000000), (x + 2, x + 2, 0, 1000000), (x, x, 2, 2), (x + 5, x + 5, 0, 1000000), (1, 1, 4, 4), (x, x, 6, 6)] V V9))) 0 [some (.ref (b + p)), none] [] N V 0 0
  refine aw_aload_n dX5_readLine_0 rfl ?_
  refine aw_get dX5_readLine_1 fl_X5_15 ((hJ0.2.1 _ hp.1 hp.2).trans hR) (by omega) rfl ?_
  refine aw_callVi (J' := jX10_now) (As := []) (st := []) dX5_readLine_4 tb_390 ok_X10_now ⟨_, te_0⟩ (by omega) rfl rfl (g_X10_now l D b N V hN hJ0.1 a (⟨⟨_, _, _, te_0⟩, by omega⟩)) rfl (Nat.le_of_ble_eq_true rfl) ⟨Nat.le_of_ble_eq_true rfl, Nat.le_of_ble_eq_true rfl, Nat.le_of_ble_eq_true rfl, Nat.le_of_ble_eq_true rfl⟩ (fun r_3 N_4 V_5 q_6 => ?_)
  obtain ⟨h_2, rfl, rfl⟩ := q_6
  refine aw_istore_n (ls' := [some (.ref (b + p)), some (.int r_3)]) dX5_readLine_7 (Nat.le_of_ble_eq_true rfl) rfl ?_
  refine aw_aload_n dX5_readLine_8 rfl ?_
  refine aw_get dX5_readLine_9 fl_X5_15 ((hJ0.2.1 _ hp.1 hp.2).trans hR) (by omega) rfl ?_
  refine aw_dup dX5_readLine_12 rfl ?_
  refine aw_get dX5_readLine_13 fl_X5_25 te_0 (by omega) rfl ?_
  refine aw_iconst (v := 1) dX5_readLine_16 (by decide) ?_
  refine aw_iadd dX5_readLine_17 ?_
  refine aw_eqi (y := nI (a + 1)) (nI_add _ _) ?_
  refine aw_put dX5_readLine_18 fp_X5_25 te_0 (by omega) rfl rfl (Nat.le_of_ble_eq_true rfl) rfl ?_
  refine aw_up hJ0 ct_1 ⟨_, _, _, (a + 1), rfl, (by first | omega | (split <;> omega))⟩ (WO (s := 3) (x := .int (nI (a + 1))) te_0 rfl LM0 (by decide) (by decide) (by decide) (Or.inl (by decide))) (fun V_7 j_7 k_7 e_7 => ?_)
  refine aw_aload_n dX5_readLine_21 rfl ?_
  refine aw_get dX5_readLine_22 fl_X5_9 ((j_7.2.1 _ hp.1 hp.2).trans hR) (by omega) rfl ?_
  refine aw_iload_n dX5_readLine_25 rfl ?_
  obtain ⟨s8_11, r8_11, h8_11, e_11, hs_11, hr_11⟩ := JW.get j_7 (ctl_0 hx)
  refine aw_callVv (J' := jX4_startRule) (As := [.int r_3]) (st := []) dX5_readLine_26 tb_391 ok_X4_startRule ⟨_, e_11⟩ (by omega) rfl rfl (g_X4_startRule l D b N V_7 hN j_7.1 x hx r_3) rfl (Nat.le_of_ble_eq_true rfl) ⟨Nat.le_of_ble_eq_true rfl, Nat.le_of_ble_eq_true rfl, Nat.le_of_ble_eq_true rfl, Nat.le_of_ble_eq_true rfl⟩ (fun  N_12 V_10 q_13 => ?_)
  obtain ⟨rfl, q_8⟩ := q_13
  have j_9 := JW.trans j_7 (JW.weak q_8 (Sub.cons (LMs LM0) (by omega) (by omega) (by decide) (Or.inl rfl) (Sub.cons (LMs (LMs LM0)) (by omega) (by omega) (by decide) (Or.inl rfl) Sub.nil)))
  refine aw_iload_n dX5_readLine_29 rfl ?_
  refine aw_bipush (v := 120) dX5_readLine_30 (by decide) ?_
  refine aw_icmp_eq (tgt := 45) dX5_readLine_32 (by decide) (fun c_14 => ?_) (fun c_14 => ?_)
  · skip
    have hlc_14 := h_2.resolve_left (by rw [c_14]; decide)
    refine aw_aload_n dX5_readLine_45 rfl ?_
    refine aw_get dX5_readLine_46 fl_X5_9 ((j_9.2.1 _ hp.1 hp.2).trans hR) (by omega) rfl ?_
    refine aw_bipush (v := 46) dX5_readLine_49 (by decide) ?_
    refine aw_iconst (v := 0) dX5_readLine_51 (by decide) ?_
    obtain ⟨s8_18, r8_18, h8_18, e_18, hs_18, hr_18⟩ := JW.get j_9 (ctl_0 hx)
    refine aw_callVi (J' := jX4_add) (As := [.int 46, .int 0]) (st := []) dX5_readLine_52 tb_415 ok_X4_add ⟨_, e_18⟩ (by omega) rfl rfl (g_X4_add l D b N V_10 hN j_9.1 x hx 46 0 (by decide)) rfl (Nat.le_of_ble_eq_true rfl) ⟨Nat.le_of_ble_eq_true rfl, Nat.le_of_ble_eq_true rfl, Nat.le_of_ble_eq_true rfl, Nat.le_of_ble_eq_true rfl⟩ (fun r_19 N_20 V_17 q_21 => ?_)
    obtain ⟨rfl, q_15⟩ := q_21
    have j_16 := JW.trans j_9 (JW.weak q_15 (Sub.cons (LMs (LMs (LMs LM0))) (by omega) (by omega) (by decide) (Or.inl rfl) (Sub.cons (LMs (LMs (LMs (LMs LM0)))) (by omega) (by omega) (by decide) (Or.inl rfl) (Sub.cons (LMs (LMs (LMs (LMs (LMs LM0))))) (by omega) (by omega) (by decide) (Or.inr ⟨by decide, by decide⟩) Sub.nil))))
    refine aw_pop dX5_readLine_55 rfl ?_
    refine aw_aload_n dX5_readLine_56 rfl ?_
    refine aw_get dX5_readLine_57 fl_X5_9 ((j_16.2.1 _ hp.1 hp.2).trans hR) (by omega) rfl ?_
    obtain ⟨s8_25, r8_25, h8_25, e_25, hs_25, hr_25⟩ := JW.get j_16 (ctl_0 hx)
    refine aw_callVv (J' := jX4_startCondition) (As := []) (st := []) dX5_readLine_60 tb_497 ok_X4_startCondition ⟨_, e_25⟩ (by omega) rfl rfl (g_X4_startCondition l D b N V_17 hN j_16.1 x hx) rfl (Nat.le_of_ble_eq_true rfl) ⟨Nat.le_of_ble_eq_true rfl, Nat.le_of_ble_eq_true rfl, Nat.le_of_ble_eq_true rfl, Nat.le_of_ble_eq_true rfl⟩ (fun  N_26 V_24 q_27 => ?_)
    obtain ⟨rfl, q_22⟩ := q_27
    have j_23 := JW.trans j_16 (JW.weak q_22 (Sub.cons (LMs (LMs (LMs (LMs (LMs (LMs LM0)))))) (by omega) (by omega) (by decide) (Or.inl rfl) Sub.nil))
    refine aw_aload_n dX5_readLine_63 rfl ?_
    refine aw_get dX5_readLine_64 fl_X5_15 ((j_23.2.1 _ hp.1 hp.2).trans hR) (by omega) rfl ?_
    refine aw_bipush (v := 40) dX5_readLine_67 (by decide) ?_
    refine aw_callVi (J' := jX10_expect) (As := [.int 40]) (st := []) dX5_readLine_69 tb_412 ok_X10_expect ⟨_, ((JW.same q_22 (by decide) (fun k => (nfc (by omega) nf0))).trans ((JW.same q_15 (by decide) (fun k => (nfc (by omega) (nfc (by omega) (nfc (by omega) nf0))))).trans ((JW.same q_8 (by decide) (fun k => (nfc (by omega) (nfc (by omega) nf0)))).trans e_7)))⟩ (by omega) rfl rfl (g_X10_expect l D b N V_24 hN j_23.1 40 (a + 1) (⟨⟨_, _, _, ((JW.same q_22 (by decide) (fun k => (nfc (by omega) nf0))).trans ((JW.same q_15 (by decide) (fun k => (nfc (by omega) (nfc (by omega) (nfc (by omega) nf0))))).trans ((JW.same q_8 (by decide) (fun k => (nfc (by omega) (nfc (by omega) nf0)))).trans e_7)))⟩, by omega⟩) (by decide)) rfl (Nat.le_of_ble_eq_true rfl) ⟨Nat.le_of_ble_eq_true rfl, Nat.le_of_ble_eq_true rfl, Nat.le_of_ble_eq_true rfl, Nat.le_of_ble_eq_true rfl⟩ (fun r_36 N_37 V_32 q_38 => ?_)
    obtain ⟨⟨z_30, h_29⟩, rfl, q_28⟩ := q_38
    have j_31 := JW.trans j_23 (JW.weak q_28 (Sub.cons LM0 (by decide) (by decide) (by decide) (Or.inr ⟨by decide, by decide⟩) (Sub.cons (LMs (LMs (LMs (LMs (LMs (LMs (LMs LM0))))))) (by decide) (by decide) (by decide) (Or.inr ⟨by decide, by decide⟩) Sub.nil)))
    obtain ⟨a_33, ha_34, ⟨ts_t_35, tn_t_35, tf_t_35, te_t_35⟩, hb_t_35⟩ := h_29
    refine aw_if_eq (tgt := 95) dX5_readLine_72 (by decide) (fun c_39 => ?_) (fun c_39 => ?_)
    · skip
      refine aw_iconst (v := 0) dX5_readLine_95 (by decide) ?_
      refine aw_zreti dX5_readLine_96 rfl (by first | exact Or.inl rfl | exact Or.inr rfl | assumption) (Nat.le_of_ble_eq_true rfl) (Nat.le_of_ble_eq_true rfl) ?_
      exact ⟨⟨(by first | exact Or.inl rfl | exact Or.inr rfl | assumption), ⟨a_33, by omega, ⟨⟨_, _, _, te_t_35⟩, by omega⟩⟩⟩, rfl, j_31⟩
    · skip
      refine aw_aload_n dX5_readLine_75 rfl ?_
      refine aw_iconst (v := 1) dX5_readLine_76 (by decide) ?_
      refine aw_callVi (J' := jX5_readAnyOf) (As := [.int 1]) (st := []) dX5_readLine_77 tb_501 ok_X5_readAnyOf ⟨_, ((j_31.2.1 _ hp.1 hp.2).trans hR)⟩ (by omega) rfl rfl (g_X5_readAnyOf_1 l D b N V_32 hN j_31.1 p x ⟨by omega, by omega⟩ hx ((j_31.2.1 _ hp.1 hp.2).trans hR) a_33 (⟨⟨_, _, _, te_t_35⟩, by omega⟩)) rfl (Nat.le_of_ble_eq_true rfl) ⟨Nat.le_of_ble_eq_true rfl, Nat.le_of_ble_eq_true rfl, Nat.le_of_ble_eq_true rfl, Nat.le_of_ble_eq_true rfl⟩ (fun r_48 N_49 V_44 q_50 => ?_)
      obtain ⟨⟨z_42, h_41⟩, rfl, q_40⟩ := q_50
      have j_43 := JW.trans j_31 (JW.weak q_40 (Sub.cons LM0 (by decide) (by decide) (by decide) (Or.inr ⟨by decide, by decide⟩) (Sub.cons (LMs (LMs (LMs LM0))) (by omega) (by omega) (by decide) (Or.inl rfl) (Sub.cons (LMs (LMs (LMs (LMs LM0)))) (by omega) (by omega) (by decide) (Or.inl rfl) (Sub.cons (LMs (LMs (LMs (LMs (LMs LM0))))) (by omega) (by omega) (by decide) (Or.inr ⟨by decide, by decide⟩) (Sub.cons (LMs (LMs (LMs (LMs (LMs (LMs (LMs LM0))))))) (by decide) (by decide) (by decide) (Or.inr ⟨by decide, by decide⟩) Sub.nil))))))
      obtain ⟨a_45, ha_46, ⟨ts_t_47, tn_t_47, tf_t_47, te_t_47⟩, hb_t_47⟩ := h_41
      refine aw_if_eq (tgt := 95) dX5_readLine_80 (by decide) (fun c_51 => ?_) (fun c_51 => ?_)
      · skip
        refine aw_iconst (v := 0) dX5_readLine_95 (by decide) ?_
        refine aw_zreti dX5_readLine_96 rfl (by first | exact Or.inl rfl | exact Or.inr rfl | assumption) (Nat.le_of_ble_eq_true rfl) (Nat.le_of_ble_eq_true rfl) ?_
        exact ⟨⟨(by first | exact Or.inl rfl | exact Or.inr rfl | assumption), ⟨a_45, by omega, ⟨⟨_, _, _, te_t_47⟩, by omega⟩⟩⟩, rfl, j_43⟩
      · skip
        refine aw_aload_n dX5_readLine_83 rfl ?_
        refine aw_get dX5_readLine_84 fl_X5_15 ((j_43.2.1 _ hp.1 hp.2).trans hR) (by omega) rfl ?_
        refine aw_bipush (v := 41) dX5_readLine_87 (by decide) ?_
        refine aw_callVi (J' := jX10_expect) (As := [.int 41]) (st := []) dX5_readLine_89 tb_412 ok_X10_expect ⟨_, te_t_47⟩ (by omega) rfl rfl (g_X10_expect l D b N V_44 hN j_43.1 41 a_45 (⟨⟨_, _, _, te_t_47⟩, by omega⟩) (by decide)) rfl (Nat.le_of_ble_eq_true rfl) ⟨Nat.le_of_ble_eq_true rfl, Nat.le_of_ble_eq_true rfl, Nat.le_of_ble_eq_true rfl, Nat.le_of_ble_eq_true rfl⟩ (fun r_60 N_61 V_56 q_62 => ?_)
        obtain ⟨⟨z_54, h_53⟩, rfl, q_52⟩ := q_62
        have j_55 := JW.trans j_43 (JW.weak q_52 (Sub.cons LM0 (by decide) (by decide) (by decide) (Or.inr ⟨by decide, by decide⟩) (Sub.cons (LMs (LMs (LMs (LMs (LMs (LMs (LMs LM0))))))) (by decide) (by decide) (by decide) (Or.inr ⟨by decide, by decide⟩) Sub.nil)))
        obtain ⟨a_57, ha_58, ⟨ts_t_59, tn_t_59, tf_t_59, te_t_59⟩, hb_t_59⟩ := h_53
        refine aw_if_ne (tgt := 97) dX5_readLine_92 (by decide) (fun c_63 => ?_) (fun c_63 => ?_)
        · skip
          refine aw_aload_n dX5_readLine_97 rfl ?_
          refine aw_get dX5_readLine_98 fl_X5_9 ((j_55.2.1 _ hp.1 hp.2).trans hR) (by omega) rfl ?_
          refine aw_bipush (v := 46) dX5_readLine_101 (by decide) ?_
          refine aw_iconst (v := 0) dX5_readLine_103 (by decide) ?_
          obtain ⟨s8_67, r8_67, h8_67, e_67, hs_67, hr_67⟩ := JW.get j_55 (ctl_0 hx)
          refine aw_callVi (J' := jX4_add) (As := [.int 46, .int 0]) (st := []) dX5_readLine_104 tb_415 ok_X4_add ⟨_, e_67⟩ (by omega) rfl rfl (g_X4_add l D b N V_56 hN j_55.1 x hx 46 0 (by decide)) rfl (Nat.le_of_ble_eq_true rfl) ⟨Nat.le_of_ble_eq_true rfl, Nat.le_of_ble_eq_true rfl, Nat.le_of_ble_eq_true rfl, Nat.le_of_ble_eq_true rfl⟩ (fun r_68 N_69 V_66 q_70 => ?_)
          obtain ⟨rfl, q_64⟩ := q_70
          have j_65 := JW.trans j_55 (JW.weak q_64 (Sub.cons (LMs (LMs (LMs LM0))) (by omega) (by omega) (by decide) (Or.inl rfl) (Sub.cons (LMs (LMs (LMs (LMs LM0)))) (by omega) (by omega) (by decide) (Or.inl rfl) (Sub.cons (LMs (LMs (LMs (LMs (LMs LM0))))) (by omega) (by omega) (by decide) (Or.inr ⟨by decide, by decide⟩) Sub.nil))))
          refine aw_pop dX5_readLine_107 rfl ?_
          refine aw_aload_n dX5_readLine_108 rfl ?_
          refine aw_get dX5_readLine_109 fl_X5_9 ((j_65.2.1 _ hp.1 hp.2).trans hR) (by omega) rfl ?_
          obtain ⟨s8_74, r8_74, h8_74, e_74, hs_74, hr_74⟩ := JW.get j_65 (ctl_0 hx)
          refine aw_callVv (J' := jX4_endRule) (As := []) (st := []) dX5_readLine_112 tb_525 ok_X4_endRule ⟨_, e_74⟩ (by omega) rfl rfl (g_X4_endRule l D b N V_66 hN j_65.1 x hx) rfl (Nat.le_of_ble_eq_true rfl) ⟨Nat.le_of_ble_eq_true rfl, Nat.le_of_ble_eq_true rfl, Nat.le_of_ble_eq_true rfl, Nat.le_of_ble_eq_true rfl⟩ (fun  N_75 V_73 q_76 => ?_)
          obtain ⟨rfl, q_71⟩ := q_76
          have j_72 := JW.trans j_65 (JW.weak q_71 (Sub.cons (LMs (LMs (LMs (LMs (LMs (LMs (LMs (LMs LM0)))))))) (by omega) (by omega) (by decide) (Or.inr ⟨by decide, by decide⟩) Sub.nil))
          refine aw_iconst (v := 1) dX5_readLine_115 (by decide) ?_
          refine aw_zreti dX5_readLine_116 rfl (by first | exact Or.inl rfl | exact Or.inr rfl | assumption) (Nat.le_of_ble_eq_true rfl) (Nat.le_of_ble_eq_true rfl) ?_
          exact ⟨⟨(by first | exact Or.inl rfl | exact Or.inr rfl | assumption), ⟨a_57, by omega, ⟨⟨_, _, _, ((JW.same q_71 (by decide) (fun k => (nfc (by omega) nf0))).trans ((JW.same q_64 (by decide) (fun k => (nfc (by omega) (nfc (by omega) (nfc (by omega) nf0))))).trans te_t_59))⟩, by omega⟩⟩⟩, rfl, j_72⟩
        · skip
          refine aw_iconst (v := 0) dX5_readLine_95 (by decide) ?_
          refine aw_zreti dX5_readLine_96 rfl (by first | exact Or.inl rfl | exact Or.inr rfl | assumption) (Nat.le_of_ble_eq_true rfl) (Nat.le_of_ble_eq_true rfl) ?_
          exact ⟨⟨(by first | exact Or.inl rfl | exact Or.inr rfl | assumption), ⟨a_57, by omega, ⟨⟨_, _, _, te_t_59⟩, by omega⟩⟩⟩, rfl, j_55⟩
  · skip
    refine aw_aload_n dX5_readLine_35 rfl ?_
    refine aw_iconst (v := 0) dX5_readLine_36 (by decide) ?_
    refine aw_callVi (J' := jX5_readSum) (As := [.int 0]) (st := []) dX5_readLine_37 tb_395 ok_X5_readSum ⟨_, ((j_9.2.1 _ hp.1 hp.2).trans hR)⟩ (by omega) rfl rfl (g_X5_readSum_0 l D b N V_10 hN j_9.1 p x ⟨by omega, by omega⟩ hx ((j_9.2.1 _ hp.1 hp.2).trans hR) (a + 1) (⟨⟨_, _, _, ((JW.same q_8 (by decide) (fun k => (nfc (by omega) (nfc (by omega) nf0)))).trans e_7)⟩, by omega⟩)) rfl (Nat.le_of_ble_eq_true rfl) ⟨Nat.le_of_ble_eq_true rfl, Nat.le_of_ble_eq_true rfl, Nat.le_of_ble_eq_true rfl, Nat.le_of_ble_eq_true rfl⟩ (fun r_85 N_86 V_81 q_87 => ?_)
    obtain ⟨⟨z_79, h_78⟩, rfl, q_77⟩ := q_87
    have j_80 := JW.trans j_9 (JW.weak q_77 (Sub.cons LM0 (by decide) (by decide) (by decide) (Or.inr ⟨by decide, by decide⟩) (Sub.cons (LMs (LMs (LMs LM0))) (by omega) (by omega) (by decide) (Or.inl rfl) (Sub.cons (LMs (LMs (LMs (LMs LM0)))) (by omega) (by omega) (by decide) (Or.inl rfl) (Sub.cons (LMs (LMs (LMs (LMs (LMs LM0))))) (by omega) (by omega) (by decide) (Or.inr ⟨by decide, by decide⟩) (Sub.cons (LMs (LMs (LMs (LMs (LMs (LMs (LMs LM0))))))) (by decide) (by decide) (by decide) (Or.inr ⟨by decide, by decide⟩) Sub.nil))))))
    obtain ⟨a_82, ha_83, ⟨ts_t_84, tn_t_84, tf_t_84, te_t_84⟩, hb_t_84⟩ := h_78
    refine aw_if_ne (tgt := 45) dX5_readLine_40 (by decide) (fun c_88 => ?_) (fun c_88 => ?_)
    · skip
      refine aw_aload_n dX5_readLine_45 rfl ?_
      refine aw_get dX5_readLine_46 fl_X5_9 ((j_80.2.1 _ hp.1 hp.2).trans hR) (by omega) rfl ?_
      refine aw_bipush (v := 46) dX5_readLine_49 (by decide) ?_
      refine aw_iconst (v := 0) dX5_readLine_51 (by decide) ?_
      obtain ⟨s8_92, r8_92, h8_92, e_92, hs_92, hr_92⟩ := JW.get j_80 (ctl_0 hx)
      refine aw_callVi (J' := jX4_add) (As := [.int 46, .int 0]) (st := []) dX5_readLine_52 tb_415 ok_X4_add ⟨_, e_92⟩ (by omega) rfl rfl (g_X4_add l D b N V_81 hN j_80.1 x hx 46 0 (by decide)) rfl (Nat.le_of_ble_eq_true rfl) ⟨Nat.le_of_ble_eq_true rfl, Nat.le_of_ble_eq_true rfl, Nat.le_of_ble_eq_true rfl, Nat.le_of_ble_eq_true rfl⟩ (fun r_93 N_94 V_91 q_95 => ?_)
      obtain ⟨rfl, q_89⟩ := q_95
      have j_90 := JW.trans j_80 (JW.weak q_89 (Sub.cons (LMs (LMs (LMs LM0))) (by omega) (by omega) (by decide) (Or.inl rfl) (Sub.cons (LMs (LMs (LMs (LMs LM0)))) (by omega) (by omega) (by decide) (Or.inl rfl) (Sub.cons (LMs (LMs (LMs (LMs (LMs LM0))))) (by omega) (by omega) (by decide) (Or.inr ⟨by decide, by decide⟩) Sub.nil))))
      refine aw_pop dX5_readLine_55 rfl ?_
      refine aw_aload_n dX5_readLine_56 rfl ?_
      refine aw_get dX5_readLine_57 fl_X5_9 ((j_90.2.1 _ hp.1 hp.2).trans hR) (by omega) rfl ?_
      obtain ⟨s8_99, r8_99, h8_99, e_99, hs_99, hr_99⟩ := JW.get j_90 (ctl_0 hx)
      refine aw_callVv (J' := jX4_startCondition) (As := []) (st := []) dX5_readLine_60 tb_497 ok_X4_startCondition ⟨_, e_99⟩ (by omega) rfl rfl (g_X4_startCondition l D b N V_91 hN j_90.1 x hx) rfl (Nat.le_of_ble_eq_true rfl) ⟨Nat.le_of_ble_eq_true rfl, Nat.le_of_ble_eq_true rfl, Nat.le_of_ble_eq_true rfl, Nat.le_of_ble_eq_true rfl⟩ (fun  N_100 V_98 q_101 => ?_)
      obtain ⟨rfl, q_96⟩ := q_101
      have j_97 := JW.trans j_90 (JW.weak q_96 (Sub.cons (LMs (LMs (LMs (LMs (LMs (LMs LM0)))))) (by omega) (by omega) (by decide) (Or.inl rfl) Sub.nil))
      refine aw_aload_n dX5_readLine_63 rfl ?_
      refine aw_get dX5_readLine_64 fl_X5_15 ((j_97.2.1 _ hp.1 hp.2).trans hR) (by omega) rfl ?_
      refine aw_bipush (v := 40) dX5_readLine_67 (by decide) ?_
      refine aw_callVi (J' := jX10_expect) (As := [.int 40]) (st := []) dX5_readLine_69 tb_412 ok_X10_expect ⟨_, ((JW.same q_96 (by decide) (fun k => (nfc (by omega) nf0))).trans ((JW.same q_89 (by decide) (fun k => (nfc (by omega) (nfc (by omega) (nfc (by omega) nf0))))).trans te_t_84))⟩ (by omega) rfl rfl (g_X10_expect l D b N V_98 hN j_97.1 40 a_82 (⟨⟨_, _, _, ((JW.same q_96 (by decide) (fun k => (nfc (by omega) nf0))).trans ((JW.same q_89 (by decide) (fun k => (nfc (by omega) (nfc (by omega) (nfc (by omega) nf0))))).trans te_t_84))⟩, by omega⟩) (by decide)) rfl (Nat.le_of_ble_eq_true rfl) ⟨Nat.le_of_ble_eq_true rfl, Nat.le_of_ble_eq_true rfl, Nat.le_of_ble_eq_true rfl, Nat.le_of_ble_eq_true rfl⟩ (fun r_110 N_111 V_106 q_112 => ?_)
      obtain ⟨⟨z_104, h_103⟩, rfl, q_102⟩ := q_112
      have j_105 := JW.trans j_97 (JW.weak q_102 (Sub.cons LM0 (by decide) (by decide) (by decide) (Or.inr ⟨by decide, by decide⟩) (Sub.cons (LMs (LMs (LMs (LMs (LMs (LMs (LMs LM0))))))) (by decide) (by decide) (by decide) (Or.inr ⟨by decide, by decide⟩) Sub.nil)))
      obtain ⟨a_107, ha_108, ⟨ts_t_109, tn_t_109, tf_t_109, te_t_109⟩, hb_t_109⟩ := h_103
      refine aw_if_eq (tgt := 95) dX5_readLine_72 (by decide) (fun c_113 => ?_) (fun c_113 => ?_)
      · skip
        refine aw_iconst (v := 0) dX5_readLine_95 (by decide) ?_
        refine aw_zreti dX5_readLine_96 rfl (by first | exact Or.inl rfl | exact Or.inr rfl | assumption) (Nat.le_of_ble_eq_true rfl) (Nat.le_of_ble_eq_true rfl) ?_
        exact ⟨⟨(by first | exact Or.inl rfl | exact Or.inr rfl | assumption), ⟨a_107, by omega, ⟨⟨_, _, _, te_t_109⟩, by omega⟩⟩⟩, rfl, j_105⟩
      · skip
        refine aw_aload_n dX5_readLine_75 rfl ?_
        refine aw_iconst (v := 1) dX5_readLine_76 (by decide) ?_
        refine aw_callVi (J' := jX5_readAnyOf) (As := [.int 1]) (st := []) dX5_readLine_77 tb_501 ok_X5_readAnyOf ⟨_, ((j_105.2.1 _ hp.1 hp.2).trans hR)⟩ (by omega) rfl rfl (g_X5_readAnyOf_1 l D b N V_106 hN j_105.1 p x ⟨by omega, by omega⟩ hx ((j_105.2.1 _ hp.1 hp.2).trans hR) a_107 (⟨⟨_, _, _, te_t_109⟩, by omega⟩)) rfl (Nat.le_of_ble_eq_true rfl) ⟨Nat.le_of_ble_eq_true rfl, Nat.le_of_ble_eq_true rfl, Nat.le_of_ble_eq_true rfl, Nat.le_of_ble_eq_true rfl⟩ (fun r_122 N_123 V_118 q_124 => ?_)
        obtain ⟨⟨z_116, h_115⟩, rfl, q_114⟩ := q_124
        have j_117 := JW.trans j_105 (JW.weak q_114 (Sub.cons LM0 (by decide) (by decide) (by decide) (Or.inr ⟨by decide, by decide⟩) (Sub.cons (LMs (LMs (LMs LM0))) (by omega) (by omega) (by decide) (Or.inl rfl) (Sub.cons (LMs (LMs (LMs (LMs LM0)))) (by omega) (by omega) (by decide) (Or.inl rfl) (Sub.cons (LMs (LMs (LMs (LMs (LMs LM0))))) (by omega) (by omega) (by decide) (Or.inr ⟨by decide, by decide⟩) (Sub.cons (LMs (LMs (LMs (LMs (LMs (LMs (LMs LM0))))))) (by decide) (by decide) (by decide) (Or.inr ⟨by decide, by decide⟩) Sub.nil))))))
        obtain ⟨a_119, ha_120, ⟨ts_t_121, tn_t_121, tf_t_121, te_t_121⟩, hb_t_121⟩ := h_115
        refine aw_if_eq (tgt := 95) dX5_readLine_80 (by decide) (fun c_125 => ?_) (fun c_125 => ?_)
        · skip
          refine aw_iconst (v := 0) dX5_readLine_95 (by decide) ?_
          refine aw_zreti dX5_readLine_96 rfl (by first | exact Or.inl rfl | exact Or.inr rfl | assumption) (Nat.le_of_ble_eq_true rfl) (Nat.le_of_ble_eq_true rfl) ?_
          exact ⟨⟨(by first | exact Or.inl rfl | exact Or.inr rfl | assumption), ⟨a_119, by omega, ⟨⟨_, _, _, te_t_121⟩, by omega⟩⟩⟩, rfl, j_117⟩
        · skip
          refine aw_aload_n dX5_readLine_83 rfl ?_
          refine aw_get dX5_readLine_84 fl_X5_15 ((j_117.2.1 _ hp.1 hp.2).trans hR) (by omega) rfl ?_
          refine aw_bipush (v := 41) dX5_readLine_87 (by decide) ?_
          refine aw_callVi (J' := jX10_expect) (As := [.int 41]) (st := []) dX5_readLine_89 tb_412 ok_X10_expect ⟨_, te_t_121⟩ (by omega) rfl rfl (g_X10_expect l D b N V_118 hN j_117.1 41 a_119 (⟨⟨_, _, _, te_t_121⟩, by omega⟩) (by decide)) rfl (Nat.le_of_ble_eq_true rfl) ⟨Nat.le_of_ble_eq_true rfl, Nat.le_of_ble_eq_true rfl, Nat.le_of_ble_eq_true rfl, Nat.le_of_ble_eq_true rfl⟩ (fun r_134 N_135 V_130 q_136 => ?_)
          obtain ⟨⟨z_128, h_127⟩, rfl, q_126⟩ := q_136
          have j_129 := JW.trans j_117 (JW.weak q_126 (Sub.cons LM0 (by decide) (by decide) (by decide) (Or.inr ⟨by decide, by decide⟩) (Sub.cons (LMs (LMs (LMs (LMs (LMs (LMs (LMs LM0))))))) (by decide) (by decide) (by decide) (Or.inr ⟨by decide, by decide⟩) Sub.nil)))
          obtain ⟨a_131, ha_132, ⟨ts_t_133, tn_t_133, tf_t_133, te_t_133⟩, hb_t_133⟩ := h_127
          refine aw_if_ne (tgt := 97) dX5_readLine_92 (by decide) (fun c_137 => ?_) (fun c_137 => ?_)
          · skip
            refine aw_aload_n dX5_readLine_97 rfl ?_
            refine aw_get dX5_readLine_98 fl_X5_9 ((j_129.2.1 _ hp.1 hp.2).trans hR) (by omega) rfl ?_
            refine aw_bipush (v := 46) dX5_readLine_101 (by decide) ?_
            refine aw_iconst (v := 0) dX5_readLine_103 (by decide) ?_
            obtain ⟨s8_141, r8_141, h8_141, e_141, hs_141, hr_141⟩ := JW.get j_129 (ctl_0 hx)
            refine aw_callVi (J' := jX4_add) (As := [.int 46, .int 0]) (st := []) dX5_readLine_104 tb_415 ok_X4_add ⟨_, e_141⟩ (by omega) rfl rfl (g_X4_add l D b N V_130 hN j_129.1 x hx 46 0 (by decide)) rfl (Nat.le_of_ble_eq_true rfl) ⟨Nat.le_of_ble_eq_true rfl, Nat.le_of_ble_eq_true rfl, Nat.le_of_ble_eq_true rfl, Nat.le_of_ble_eq_true rfl⟩ (fun r_142 N_143 V_140 q_144 => ?_)
            obtain ⟨rfl, q_138⟩ := q_144
            have j_139 := JW.trans j_129 (JW.weak q_138 (Sub.cons (LMs (LMs (LMs LM0))) (by omega) (by omega) (by decide) (Or.inl rfl) (Sub.cons (LMs (LMs (LMs (LMs LM0)))) (by omega) (by omega) (by decide) (Or.inl rfl) (Sub.cons (LMs (LMs (LMs (LMs (LMs LM0))))) (by omega) (by omega) (by decide) (Or.inr ⟨by decide, by decide⟩) Sub.nil))))
            refine aw_pop dX5_readLine_107 rfl ?_
            refine aw_aload_n dX5_readLine_108 rfl ?_
            refine aw_get dX5_readLine_109 fl_X5_9 ((j_139.2.1 _ hp.1 hp.2).trans hR) (by omega) rfl ?_
            obtain ⟨s8_148, r8_148, h8_148, e_148, hs_148, hr_148⟩ := JW.get j_139 (ctl_0 hx)
            refine aw_callVv (J' := jX4_endRule) (As := []) (st := []) dX5_readLine_112 tb_525 ok_X4_endRule ⟨_, e_148⟩ (by omega) rfl rfl (g_X4_endRule l D b N V_140 hN j_139.1 x hx) rfl (Nat.le_of_ble_eq_true rfl) ⟨Nat.le_of_ble_eq_true rfl, Nat.le_of_ble_eq_true rfl, Nat.le_of_ble_eq_true rfl, Nat.le_of_ble_eq_true rfl⟩ (fun  N_149 V_147 q_150 => ?_)
            obtain ⟨rfl, q_145⟩ := q_150
            have j_146 := JW.trans j_139 (JW.weak q_145 (Sub.cons (LMs (LMs (LMs (LMs (LMs (LMs (LMs (LMs LM0)))))))) (by omega) (by omega) (by decide) (Or.inr ⟨by decide, by decide⟩) Sub.nil))
            refine aw_iconst (v := 1) dX5_readLine_115 (by decide) ?_
            refine aw_zreti dX5_readLine_116 rfl (by first | exact Or.inl rfl | exact Or.inr rfl | assumption) (Nat.le_of_ble_eq_true rfl) (Nat.le_of_ble_eq_true rfl) ?_
            exact ⟨⟨(by first | exact Or.inl rfl | exact Or.inr rfl | assumption), ⟨a_131, by omega, ⟨⟨_, _, _, ((JW.same q_145 (by decide) (fun k => (nfc (by omega) nf0))).trans ((JW.same q_138 (by decide) (fun k => (nfc (by omega) (nfc (by omega) (nfc (by omega) nf0))))).trans te_t_133))⟩, by omega⟩⟩⟩, rfl, j_146⟩
          · skip
            refine aw_iconst (v := 0) dX5_readLine_95 (by decide) ?_
            refine aw_zreti dX5_readLine_96 rfl (by first | exact Or.inl rfl | exact Or.inr rfl | assumption) (Nat.le_of_ble_eq_true rfl) (Nat.le_of_ble_eq_true rfl) ?_
            exact ⟨⟨(by first | exact Or.inl rfl | exact Or.inr rfl | assumption), ⟨a_131, by omega, ⟨⟨_, _, _, te_t_133⟩, by omega⟩⟩⟩, rfl, j_129⟩
    · skip
      refine aw_iconst (v := 0) dX5_readLine_43 (by decide) ?_
      refine aw_zreti dX5_readLine_44 rfl (by first | exact Or.inl rfl | exact Or.inr rfl | assumption) (Nat.le_of_ble_eq_true rfl) (Nat.le_of_ble_eq_true rfl) ?_
      exact ⟨⟨(by first | exact Or.inl rfl | exact Or.inr rfl | assumption), ⟨a_82, by omega, ⟨⟨_, _, _, te_t_84⟩, by omega⟩⟩⟩, rfl, j_80⟩
