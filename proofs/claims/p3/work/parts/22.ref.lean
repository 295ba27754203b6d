set_option maxHeartbeats 4000000 in
set_option maxRecDepth 100000 in
theorem r_in (l : Launch) (D : va_G) (b : Nat) (N : Nat) (V : Wd) (hN : 133 ≤ N) (cl : Nat) (hW : CR D b cl V) (n0 : Int32) (n1 : Int32) (n2 : Int32)  : MI l D b 0 jX12_in [.int n0, .int n1, .int n2] N V 0 0 (fun r N9 V9 => ((r = 0 ∨ r = 1) ∧ (r = 0 ∨ (n1 ≤ n0 ∧ n0 ≤ n2))) ∧ N = N9 ∧ V = V9) := by
  have hJ0 : JR D b N cl [] V V := JR.rf hW
  refine mw_of (by decide) (by simp [Value.category]) (Nat.le_of_ble_eq_true rfl) ?_
  show AW l D b jX12_in (fx_rm 0 0 0) none (fx_MQ D b 0 0 (fx_qi (fun r N9 V9 => ((r = 0 ∨ r = 1) ∧ (r = 0 ∨ (n1 ≤ n0 ∧ n0 ≤ n2))) ∧ N = N9 ∧ V = V9))) 0 [some (.int n0), some (.int n1), some (.int n2)] [] N V 0 0
  refine aw_iload_n dX12_in_0 rfl ?_
  refine aw_iload_n dX12_in_1 rfl ?_
  refine aw_icmp_lt (tgt := 14) dX12_in_2 (by decide) (fun c_1 => ?_) (fun c_1 => ?_)
  · skip
    refine aw_iconst (v := 0) dX12_in_14 (by decide) ?_
    refine aw_zreti dX12_in_15 rfl (by first | exact Or.inl rfl | exact Or.inr rfl | assumption) (Nat.le_of_ble_eq_true rfl) (Nat.le_of_ble_eq_true rfl) ?_
    exact ⟨⟨(by first | exact Or.inl rfl | exact Or.inr rfl | assumption), Or.inl rfl⟩, rfl, rfl⟩
  · skip
    refine aw_iload_n dX12_in_5 rfl ?_
    refine aw_iload_n dX12_in_6 rfl ?_
    refine aw_icmp_gt (tgt := 14) dX12_in_7 (by decide) (fun c_2 => ?_) (fun c_2 => ?_)
    · skip
      refine aw_iconst (v := 0) dX12_in_14 (by decide) ?_
      refine aw_zreti dX12_in_15 rfl (by first | exact Or.inl rfl | exact Or.inr rfl | assumption) (Nat.le_of_ble_eq_true rfl) (Nat.le_of_ble_eq_true rfl) ?_
      exact ⟨⟨(by first | exact Or.inl rfl | exact Or.inr rfl | assumption), Or.inl rfl⟩, rfl, rfl⟩
    · skip
      refine aw_iconst (v := 1) dX12_in_10 (by decide) ?_
      refine aw_goto (tgt := 15) dX12_in_11 (by decide) ?_
      refine aw_zreti dX12_in_15 rfl (by first | exact Or.inl rfl | exact Or.inr rfl | assumption) (Nat.le_of_ble_eq_true rfl) (Nat.le_of_ble_eq_true rfl) ?_
      exact ⟨⟨(by first | exact Or.inl rfl | exact Or.inr rfl | assumption), Or.inr ⟨Int32.not_lt.mp c_1, Int32.not_lt.mp c_2⟩⟩, rfl, rfl⟩

set_option maxHeartbeats 4000000 in
set_option maxRecDepth 100000 in
theorem r_min (l : Launch) (D : va_G) (b : Nat) (N : Nat) (V : Wd) (hN : 133 ≤ N) (cl : Nat) (hW : CR D b cl V) (n0 : Int32) (n1 : Int32)  : MI l D b 0 jX12_min [.int n0, .int n1] N V 0 0 (fun r N9 V9 => N = N9 ∧ V = V9) := by
  have hJ0 : JR D b N cl [] V V := JR.rf hW
  refine mw_of (by decide) (by simp [Value.category]) (Nat.le_of_ble_eq_true rfl) ?_
  show AW l D b jX12_min (fx_rm 0 0 0) none (fx_MQ D b 0 0 (fx_qi (fun r N9 V9 => N = N9 ∧ V = V9))) 0 [some (.int n0), some (.int n1)] [] N V 0 0
  refine aw_iload_n dX12_min_0 rfl ?_
  refine aw_iload_n dX12_min_1 rfl ?_
  refine aw_icmp_ge (tgt := 9) dX12_min_2 (by decide) (fun c_1 => ?_) (fun c_1 => ?_)
  · skip
    refine aw_iload_n dX12_min_9 rfl ?_
    refine aw_ireti dX12_min_10 rfl (Nat.le_of_ble_eq_true rfl) (Nat.le_of_ble_eq_true rfl) ?_
    exact ⟨rfl, rfl⟩
  · skip
    refine aw_iload_n dX12_min_5 rfl ?_
    refine aw_goto (tgt := 10) dX12_min_6 (by decide) ?_
    refine aw_ireti dX12_min_10 rfl (Nat.le_of_ble_eq_true rfl) (Nat.le_of_ble_eq_true rfl) ?_
    exact ⟨rfl, rfl⟩

set_option maxHeartbeats 4000000 in
set_option maxRecDepth 100000 in
theorem r_max (l : Launch) (D : va_G) (b : Nat) (N : Nat) (V : Wd) (hN : 133 ≤ N) (cl : Nat) (hW : CR D b cl V) (n0 : Int32) (n1 : Int32)  : MI l D b 0 jX12_max [.int n0, .int n1] N V 0 0 (fun r N9 V9 => N = N9 ∧ V = V9) := by
  have hJ0 : JR D b N cl [] V V := JR.rf hW
  refine mw_of (by decide) (by simp [Value.category]) (Nat.le_of_ble_eq_true rfl) ?_
  show AW l D b jX12_max (fx_rm 0 0 0) none (fx_MQ D b 0 0 (fx_qi (fun r N9 V9 => N = N9 ∧ V = V9))) 0 [some (.int n0), some (.int n1)] [] N V 0 0
  refine aw_iload_n dX12_max_0 rfl ?_
  refine aw_iload_n dX12_max_1 rfl ?_
  refine aw_icmp_le (tgt := 9) dX12_max_2 (by decide) (fun c_1 => ?_) (fun c_1 => ?_)
  · skip
    refine aw_iload_n dX12_max_9 rfl ?_
    refine aw_ireti dX12_max_10 rfl (Nat.le_of_ble_eq_true rfl) (Nat.le_of_ble_eq_true rfl) ?_
    exact ⟨rfl, rfl⟩
  · skip
    refine aw_iload_n dX12_max_5 rfl ?_
    refine aw_goto (tgt := 10) dX12_max_6 (by decide) ?_
    refine aw_ireti dX12_max_10 rfl (Nat.le_of_ble_eq_true rfl) (Nat.le_of_ble_eq_true rfl) ?_
    exact ⟨rfl, rfl⟩

set_option maxHeartbeats 4000000 in
set_option maxRecDepth 100000 in
theorem r_size (l : Launch) (D : va_G) (b : Nat) (N : Nat) (V : Wd) (hN : 133 ≤ N) (cl : Nat) (hW : CR D b cl V) (n0 : Int32)  : MI l D b 0 jX12_size [.int n0] N V 0 0 (fun r N9 V9 => N = N9 ∧ V = V9) := by
  have hJ0 : JR D b N cl [] V V := JR.rf hW
  refine mw_of (by decide) (by simp [Value.category]) (Nat.le_of_ble_eq_true rfl) ?_
  show AW l D b jX12_size (fx_rm 0 0 0) none (fx_MQ D b 0 0 (fx_qi (fun r N9 V9 => N = N9 ∧ V = V9))) 0 [some (.int n0)] [] N V 0 0
  refine aw_iload_n dX12_size_0 rfl ?_
  refine aw_if_ge (tgt := 9) dX12_size_1 (by decide) (fun c_1 => ?_) (fun c_1 => ?_)
  · skip
    refine aw_iload_n dX12_size_9 rfl ?_
    refine aw_ireti dX12_size_10 rfl (Nat.le_of_ble_eq_true rfl) (Nat.le_of_ble_eq_true rfl) ?_
    exact ⟨rfl, rfl⟩
  · skip
    refine aw_iload_n dX12_size_4 rfl ?_
    refine aw_ineg dX12_size_5 ?_
    refine aw_goto (tgt := 10) dX12_size_6 (by decide) ?_
    refine aw_ireti dX12_size_10 rfl (Nat.le_of_ble_eq_true rfl) (Nat.le_of_ble_eq_true rfl) ?_
    exact ⟨rfl, rfl⟩

set_option maxHeartbeats 4000000 in
set_option maxRecDepth 100000 in
theorem r_limit (l : Launch) (D : va_G) (b : Nat) (N : Nat) (V : Wd) (hN : 133 ≤ N) (cl : Nat) (hW : CR D b cl V) (n0 : Int32)  : MI l D b 1 jX12_limit [.int n0] N V 0 0 (fun r N9 V9 => N = N9 ∧ V = V9) := by
  have hJ0 : JR D b N cl [] V V := JR.rf hW
  refine mw_of (by decide) (by simp [Value.category]) (Nat.le_of_ble_eq_true rfl) ?_
  show AW l D b jX12_limit (fx_rm 1 0 0) none (fx_MQ D b 0 0 (fx_qi (fun r N9 V9 => N = N9 ∧ V = V9))) 0 [some (.int n0)] [] N V 0 0
  refine aw_iconst (v := 0) dX12_limit_0 (by decide) ?_
  refine aw_bipush (v := 99) dX12_limit_1 (by decide) ?_
  refine aw_iload_n dX12_limit_3 rfl ?_
  refine aw_callSi (J' := jX12_min) (As := [.int 99, .int n0]) (st := [.int 0]) dX12_limit_4 tb_1325 ok_X12_min rfl (r_min l D b N V hN cl hJ0.1 99 n0) rfl (Nat.le_of_ble_eq_true rfl) ⟨Nat.le_of_ble_eq_true rfl, Nat.le_of_ble_eq_true rfl, Nat.le_of_ble_eq_true rfl, Nat.le_of_ble_eq_true rfl⟩ (fun r_2 N_3 V_4 q_5 => ?_)
  obtain ⟨rfl, rfl⟩ := q_5
  refine aw_callSi (J' := jX12_max) (As := [.int 0, .int r_2]) (st := []) dX12_limit_7 tb_1328 ok_X12_max rfl (r_max l D b N V hN cl hJ0.1 0 r_2) rfl (Nat.le_of_ble_eq_true rfl) ⟨Nat.le_of_ble_eq_true rfl, Nat.le_of_ble_eq_true rfl, Nat.le_of_ble_eq_true rfl, Nat.le_of_ble_eq_true rfl⟩ (fun r_7 N_8 V_9 q_10 => ?_)
  obtain ⟨rfl, rfl⟩ := q_10
  refine aw_ireti dX12_limit_10 rfl (Nat.le_of_ble_eq_true rfl) (Nat.le_of_ble_eq_true rfl) ?_
  exact ⟨rfl, rfl⟩

set_option maxHeartbeats 4000000 in
set_option maxRecDepth 100000 in
theorem r_has (l : Launch) (D : va_G) (b : Nat) (N : Nat) (V : Wd) (hN : 133 ≤ N) (cl : Nat) (hW : CR D b cl V) (n0 : Int32) (n1 : Int32)  : MI l D b 0 jX12_has [.int n0, .int n1] N V 0 0 (fun r N9 V9 => (r = 0 ∨ r = 1) ∧ N = N9 ∧ V = V9) := by
  have hJ0 : JR D b N cl [] V V := JR.rf hW
  refine mw_of (by decide) (by simp [Value.category]) (Nat.le_of_ble_eq_true rfl) ?_
  show AW l D b jX12_has (fx_rm 0 0 0) none (fx_MQ D b 0 0 (fx_qi (fun r N9 V9 => (r = 0 ∨ r = 1) ∧ N = N9 ∧ V = V9))) 0 [some (.int n0), some (.int n1)] [] N V 0 0
  refine aw_iload_n dX12_has_0 rfl ?_
  refine aw_iload_n dX12_has_1 rfl ?_
  refine aw_ishr dX12_has_2 ?_
  refine aw_iconst (v := 1) dX12_has_3 (by decide) ?_
  refine aw_iand dX12_has_4 ?_
  refine aw_iconst (v := 1) dX12_has_5 (by decide) ?_
  refine aw_icmp_ne (tgt := 13) dX12_has_6 (by decide) (fun c_1 => ?_) (fun c_1 => ?_)
  · skip
    refine aw_iconst (v := 0) dX12_has_13 (by decide) ?_
    refine aw_zreti dX12_has_14 rfl (by first | exact Or.inl rfl | exact Or.inr rfl | assumption) (Nat.le_of_ble_eq_true rfl) (Nat.le_of_ble_eq_true rfl) ?_
    exact ⟨(by first | exact Or.inl rfl | exact Or.inr rfl | assumption), rfl, rfl⟩
  · skip
    refine aw_iconst (v := 1) dX12_has_9 (by decide) ?_
    refine aw_goto (tgt := 14) dX12_has_10 (by decide) ?_
    refine aw_zreti dX12_has_14 rfl (by first | exact Or.inl rfl | exact Or.inr rfl | assumption) (Nat.le_of_ble_eq_true rfl) (Nat.le_of_ble_eq_true rfl) ?_
    exact ⟨(by first | exact Or.inl rfl | exact Or.inr rfl | assumption), rfl, rfl⟩

set_option maxHeartbeats 4000000 in
set_option maxRecDepth 100000 in
theorem r_bits (l : Launch) (D : va_G) (b : Nat) (N : Nat) (V : Wd) (hN : 133 ≤ N) (cl : Nat) (hW : CR D b cl V) (n0 : Int32)  : MI l D b 0 jX12_bits [.int n0] N V 0 0 (fun r N9 V9 => N = N9 ∧ V = V9) := by
  have hJ0 : JR D b N cl [] V V := JR.rf hW
  refine mw_of (by decide) (by simp [Value.category]) (Nat.le_of_ble_eq_true rfl) ?_
  show AW l D b jX12_bits (fx_rm 0 0 0) none (fx_MQ D b 0 0 (fx_qi (fun r N9 V9 => N = N9 ∧ V = V9))) 0 [some (.int n0), none, none] [] N V 0 0
  refine aw_iconst (v := 0) dX12_bits_0 (by decide) ?_
  refine aw_istore_n (ls' := [some (.int n0), some (.int 0), none]) dX12_bits_1 (Nat.le_of_ble_eq_true rfl) rfl ?_
  refine aw_iconst (v := 0) dX12_bits_2 (by decide) ?_
  refine aw_istore_n (ls' := [some (.int n0), some (.int 0), some (.int 0)]) dX12_bits_3 (Nat.le_of_ble_eq_true rfl) rfl ?_
  have loop_4_0 : ∀ (g_4 : Nat), ∀ (j4 : Nat) (v4_1 : Int32), j4 + g_4 = 16 → AW l D b jX12_bits (fx_rm 0 0 0) none (fx_MQ D b 0 0 (fx_qi (fun r N9 V9 => N = N9 ∧ V = V9))) 4 [some (.int n0), some (.int v4_1), some (.int (nI j4))] [] N V 0 0 := by
    intro g_4
    induction g_4 with
    | zero =>
      intro j4 v4_1 hj4
      obtain rfl : j4 = 16 := by omega
      refine aw_iload_n dX12_bits_4 rfl ?_
      refine aw_bipush (v := 16) dX12_bits_5 (by decide) ?_
      refine aw_icmp_ge (tgt := 24) dX12_bits_7 (by decide) (fun c_3 => ?_) (fun c_3 => ?_)
      rotate_left
      · exact absurd (nI_le (a := 16) (b := 16) (Nat.le_refl _) (by omega)) c_3
      refine aw_iload_n dX12_bits_24 rfl ?_
      refine aw_ireti dX12_bits_25 rfl (Nat.le_of_ble_eq_true rfl) (Nat.le_of_ble_eq_true rfl) ?_
      exact ⟨rfl, rfl⟩
    | succ g_4 ih_4_1 =>
      intro j4 v4_1 hj4
      have hlj4 : j4 < 16 := by omega
      refine aw_iload_n dX12_bits_4 rfl ?_
      refine aw_bipush (v := 16) dX12_bits_5 (by decide) ?_
      refine aw_icmp_ge (tgt := 24) dX12_bits_7 (by decide) (fun c_4 => ?_) (fun c_4 => ?_)
      · exact absurd c_4 (nI_ge (a := j4) (b := 16) (by omega) (by omega))
      refine aw_iload_n dX12_bits_10 rfl ?_
      refine aw_iload_n dX12_bits_11 rfl ?_
      refine aw_iload_n dX12_bits_12 rfl ?_
      refine aw_ishr dX12_bits_13 ?_
      refine aw_iconst (v := 1) dX12_bits_14 (by decide) ?_
      refine aw_iand dX12_bits_15 ?_
      refine aw_iadd dX12_bits_16 ?_
      refine aw_istore_n (ls' := [some (.int n0), some (.int (v4_1 + ((n0 >>> ((nI j4) &&& 31)) &&& 1))), some (.int (nI j4))]) dX12_bits_17 (Nat.le_of_ble_eq_true rfl) rfl ?_
      refine aw_iinc (v := (nI (j4 + 1))) (ls' := [some (.int n0), some (.int (v4_1 + ((n0 >>> ((nI j4) &&& 31)) &&& 1))), some (.int (nI (j4 + 1)))]) dX12_bits_18 rfl (fx_up_1 _) (Nat.le_of_ble_eq_true rfl) rfl ?_
      refine aw_goto (tgt := 4) dX12_bits_21 (by decide) ?_
      refine aw_le ?_ (ih_4_1 (j4 + 1) (v4_1 + ((n0 >>> ((nI j4) &&& 31)) &&& 1))  (by omega))
      exact ⟨rfl, ⟨rfl, ⟨rfl, trivial⟩⟩⟩
  refine aw_le ?_ (loop_4_0 16 0 0  (by omega))
  exact ⟨rfl, ⟨rfl, ⟨rfl, trivial⟩⟩⟩

set_option maxHeartbeats 4000000 in
set_option maxRecDepth 100000 in
theorem r_hasB (l : Launch) (D : va_G) (b : Nat) (N : Nat) (V : Wd) (x j : Nat) (hx : x < 4096) (hj : j < 12) : MI l D b 0 jX12_has [.int (nI x), .int (nI j)] N V 0 0 (fun r N9 V9 => ((r = 0 ∨ r = 1) ∧ (r = 0 → x.testBit j = false) ∧ (¬ r = 0 → x.testBit j = true)) ∧ N = N9 ∧ V = V9) := by
  refine mw_of (by decide) (by simp [Value.category]) (Nat.le_of_ble_eq_true rfl) ?_
  show AW l D b jX12_has (fx_rm 0 0 0) none (fx_MQ D b 0 0 (fx_qi (fun r N9 V9 => ((r = 0 ∨ r = 1) ∧ (r = 0 → x.testBit j = false) ∧ (¬ r = 0 → x.testBit j = true)) ∧ N = N9 ∧ V = V9))) 0 [some (.int (nI x)), some (.int (nI j))] [] N V 0 0
  refine aw_iload_n dX12_has_0 rfl ?_
  refine aw_iload_n dX12_has_1 rfl ?_
  refine aw_ishr dX12_has_2 ?_
  refine aw_iconst (v := 1) dX12_has_3 (by decide) ?_
  refine aw_iand dX12_has_4 ?_
  refine aw_iconst (v := 1) dX12_has_5 (by decide) ?_
  refine aw_icmp_ne (tgt := 13) dX12_has_6 (by decide) (fun c_1 => ?_) (fun c_1 => ?_)
  · skip
    refine aw_iconst (v := 0) dX12_has_13 (by decide) ?_
    refine aw_zreti dX12_has_14 rfl (by first | exact Or.inl rfl | exact Or.inr rfl) (Nat.le_of_ble_eq_true rfl) (Nat.le_of_ble_eq_true rfl) ?_
    exact ⟨⟨by first | exact Or.inl rfl | exact Or.inr rfl, fun _ => by have := mt (fx_bitN (by omega) hj).mpr c_1; simpa using this, fun z => absurd rfl z⟩, rfl, rfl⟩
  · skip
    refine aw_iconst (v := 1) dX12_has_9 (by decide) ?_
    refine aw_goto (tgt := 14) dX12_has_10 (by decide) ?_
    refine aw_zreti dX12_has_14 rfl (by first | exact Or.inl rfl | exact Or.inr rfl) (Nat.le_of_ble_eq_true rfl) (Nat.le_of_ble_eq_true rfl) ?_
    exact ⟨⟨by first | exact Or.inl rfl | exact Or.inr rfl, fun z => absurd z (by decide), fun _ => (fx_bitN (by omega) hj).mp (by first | exact c_1 | exact Decidable.not_not.mp c_1)⟩, rfl, rfl⟩

set_option maxHeartbeats 4000000 in
set_option maxRecDepth 100000 in
theorem r_copies (l : Launch) (D : va_G) (b : Nat) (N : Nat) (V : Wd) (hN : 133 ≤ N) (cl : Nat) (hW : CR D b cl V) (a0 ia0 : Nat) (ha0 : (ctR D b cl)[ia0]? = some (isI D 210) ∧ a0 = 100 + ia0) (a1 ia1 : Nat) (ha1 : (ctR D b cl)[ia1]? = some (isI D 210) ∧ a1 = 100 + ia1) (hk1 : ¬ (117 ≤ a1 ∧ a1 ≤ 121)) : MV l D b 0 jX12_copies [.ref (b + a0), .ref (b + a1)] N V 0 0 (fun N9 V9 => N = N9 ∧ JR D b N cl [(a1, a1, 0, 1000000)] V V9) := by
  have hJ0 : JR D b N cl [(a1, a1, 0, 1000000)] V V := JR.rf hW
  have hlt_a0 := cm_lt ha0
  have hlt_a1 := cm_lt ha1
  refine mw_of (by decide) (by simp [Value.category]) (Nat.le_of_ble_eq_true rfl) ?_
  show AW l D b jX12_copies (fx_rm 0 0 0) none (fx_MQ D b 0 0 (fx_qv (fun N9 V9 => N = N9 ∧ JR D b N cl [(a1, a1, 0, 1000000)] V V9))) 0 [some (.ref (b + a0)), some (.ref (b + a1)), none] [] N V 0 0
  refine aw_iconst (v := 0) dX12_copies_0 (by decide) ?_
  refine aw_istore_n (ls' := [some (.ref (b + a0)), some (.ref (b + a1)), some (.int 0)]) dX12_copies_1 (Nat.le_of_ble_eq_true rfl) rfl ?_
  have loop_2_0 : ∀ (g_2 : Nat), ∀ (j2 : Nat)  (V2 : Wd), j2 + g_2 = 210 → (JR D b N cl [(a1, a1, 0, 1000000)] V V2) → AW l D b jX12_copies (fx_rm 0 0 0) none (fx_MQ D b 0 0 (fx_qv (fun N9 V9 => N = N9 ∧ JR D b N cl [(a1, a1, 0, 1000000)] V V9))) 2 [some (.ref (b + a0)), some (.ref (b + a1)), some (.int (nI j2))] [] N V2 0 0 := by
    intro g_2
    induction g_2 with
    | zero =>
      intro j2  V2 hj2 i2_0
      obtain rfl : j2 = 210 := by omega
      refine aw_iload_n dX12_copies_2 rfl ?_
      refine aw_sipush (v := 210) dX12_copies_3 (by decide) ?_
      refine aw_icmp_ge (tgt := 21) dX12_copies_6 (by decide) (fun c_3 => ?_) (fun c_3 => ?_)
      rotate_left
      · exact absurd (nI_le (a := 210) (b := 210) (Nat.le_refl _) (by omega)) c_3
      refine aw_vreti dX12_copies_21 rfl (Nat.le_of_ble_eq_true rfl) (Nat.le_of_ble_eq_true rfl) ?_
      exact ⟨rfl, i2_0⟩
    | succ g_2 ih_2_1 =>
      intro j2  V2 hj2 i2_0
      have hlj2 : j2 < 210 := by omega
      refine aw_iload_n dX12_copies_2 rfl ?_
      refine aw_sipush (v := 210) dX12_copies_3 (by decide) ?_
      refine aw_icmp_ge (tgt := 21) dX12_copies_6 (by decide) (fun c_4 => ?_) (fun c_4 => ?_)
      · exact absurd c_4 (nI_ge (a := j2) (b := 210) (by omega) (by omega))
      refine aw_aload_n dX12_copies_9 rfl ?_
      refine aw_iload_n dX12_copies_10 rfl ?_
      refine aw_aload_n dX12_copies_11 rfl ?_
      refine aw_iload_n dX12_copies_12 rfl ?_
      obtain ⟨g_5, e_5⟩ := JR.get i2_0 ha0
      refine aw_iald (v := (g_5 j2)) dX12_copies_13 e_5 (by omega) (vp_in_nI (n := j2) (by omega) (by omega)) (congrArg g_5 (nI_clamp (n := j2) (by omega))) ?_
      obtain ⟨g_6, e_6⟩ := JR.get i2_0 ha1
      refine aw_iast dX12_copies_14 e_6 (by omega) (vp_in_nI (n := j2) (by omega) (by omega)) ?_
      refine aw_upR i2_0 ha1 ⟨_, rfl⟩ (by omega) (WA LM0 (by omega) (by omega)) (fun V_7 j_7 k_7 e_7 => ?_)
      refine aw_iinc (v := (nI (j2 + 1))) (ls' := [some (.ref (b + a0)), some (.ref (b + a1)), some (.int (nI (j2 + 1)))]) dX12_copies_15 rfl (fx_up_1 _) (Nat.le_of_ble_eq_true rfl) rfl ?_
      refine aw_goto (tgt := 2) dX12_copies_18 (by decide) ?_
      refine aw_le ?_ (ih_2_1 (j2 + 1)  V_7 (by omega) (j_7))
      exact ⟨rfl, ⟨rfl, ⟨rfl, trivial⟩⟩⟩
  refine aw_le ?_ (loop_2_0 210 0  V (by omega) (hJ0))
  exact ⟨rfl, ⟨rfl, ⟨rfl, trivial⟩⟩⟩

set_option maxHeartbeats 4000000 in
set_option maxRecDepth 100000 in
theorem r_isTold (l : Launch) (D : va_G) (b : Nat) (N : Nat) (V : Wd) (hN : 133 ≤ N) (cl : Nat) (hW : CR D b cl V) (n0 : Int32)  : MI l D b 1 jX12_isTold [.ref (b + 100), .int n0] N V 0 0 (fun r N9 V9 => ((r = 0 ∨ r = 1) ∧ (r = 0 ∨ ∃ j : Nat, j < 12 ∧ n0 = nI j)) ∧ N = N9 ∧ V = V9) := by
  have hJ0 : JR D b N cl [] V V := JR.rf hW
  refine mw_of (by decide) (by simp [Value.category]) (Nat.le_of_ble_eq_true rfl) ?_
  show AW l D b jX12_isTold (fx_rm 1 0 0) none (fx_MQ D b 0 0 (fx_qi (fun r N9 V9 => ((r = 0 ∨ r = 1) ∧ (r = 0 ∨ ∃ j : Nat, j < 12 ∧ n0 = nI j)) ∧ N = N9 ∧ V = V9))) 0 [some (.ref (b + 100)), some (.int n0)] [] N V 0 0
  refine aw_iload_n dX12_isTold_0 rfl ?_
  refine aw_iconst (v := 0) dX12_isTold_1 (by decide) ?_
  refine aw_bipush (v := 11) dX12_isTold_2 (by decide) ?_
  refine aw_callSi (J' := jX12_in) (As := [.int n0, .int 0, .int 11]) (st := []) dX12_isTold_4 tb_1209 ok_X12_in rfl (r_in l D b N V hN cl hJ0.1 n0 0 11) rfl (Nat.le_of_ble_eq_true rfl) ⟨Nat.le_of_ble_eq_true rfl, Nat.le_of_ble_eq_true rfl, Nat.le_of_ble_eq_true rfl, Nat.le_of_ble_eq_true rfl⟩ (fun r_4 N_5 V_6 q_7 => ?_)
  obtain ⟨⟨z_3, h_2⟩, rfl, rfl⟩ := q_7
  refine aw_if_eq (tgt := 25) dX12_isTold_7 (by decide) (fun c_8 => ?_) (fun c_8 => ?_)
  · skip
    refine aw_iconst (v := 0) dX12_isTold_25 (by decide) ?_
    refine aw_zreti dX12_isTold_26 rfl (by first | exact Or.inl rfl | exact Or.inr rfl | assumption) (Nat.le_of_ble_eq_true rfl) (Nat.le_of_ble_eq_true rfl) ?_
    exact ⟨⟨(by first | exact Or.inl rfl | exact Or.inr rfl | assumption), Or.inl rfl⟩, rfl, rfl⟩
  · skip
    refine aw_aload_n dX12_isTold_10 rfl ?_
    obtain ⟨ftoldPeople_9, ftoldDoors_9, fwasDoors_9, ffault_9, fopen_9, flines_9, fmeantSet_9, fopenedNow_9, fvainNow_9, flowNow_9, fhighNow_9, fisKept_9, tad_9, pl0_9, le0_9, nu0_9, coy_9, wag_9, say_9, e_9, hntad_9, hnpl0_9, hnle0_9, hnnu0_9, hncoy_9, hnwag_9, hnsay_9⟩ := JR.get hJ0 cm_100
    refine aw_get dX12_isTold_11 fl_X12_121 e_9 (by omega) rfl ?_
    refine aw_iload_n dX12_isTold_14 rfl ?_
    refine aw_callSi (J' := jX12_has) (As := [.int ftoldPeople_9, .int n0]) (st := []) dX12_isTold_15 tb_1315 ok_X12_has rfl (r_has l D b N V hN cl hJ0.1 ftoldPeople_9 n0) rfl (Nat.le_of_ble_eq_true rfl) ⟨Nat.le_of_ble_eq_true rfl, Nat.le_of_ble_eq_true rfl, Nat.le_of_ble_eq_true rfl, Nat.le_of_ble_eq_true rfl⟩ (fun r_12 N_13 V_14 q_15 => ?_)
    obtain ⟨h_11, rfl, rfl⟩ := q_15
    refine aw_if_eq (tgt := 25) dX12_isTold_18 (by decide) (fun c_16 => ?_) (fun c_16 => ?_)
    · skip
      refine aw_iconst (v := 0) dX12_isTold_25 (by decide) ?_
      refine aw_zreti dX12_isTold_26 rfl (by first | exact Or.inl rfl | exact Or.inr rfl | assumption) (Nat.le_of_ble_eq_true rfl) (Nat.le_of_ble_eq_true rfl) ?_
      exact ⟨⟨(by first | exact Or.inl rfl | exact Or.inr rfl | assumption), Or.inl rfl⟩, rfl, rfl⟩
    · skip
      refine aw_iconst (v := 1) dX12_isTold_21 (by decide) ?_
      refine aw_goto (tgt := 26) dX12_isTold_22 (by decide) ?_
      refine aw_zreti dX12_isTold_26 rfl (by first | exact Or.inl rfl | exact Or.inr rfl | assumption) (Nat.le_of_ble_eq_true rfl) (Nat.le_of_ble_eq_true rfl) ?_
      exact ⟨⟨(by first | exact Or.inl rfl | exact Or.inr rfl | assumption), Or.inr (in_rg (a := 0) (b := 11) (by decide) (h_2.resolve_left c_8) (by decide))⟩, rfl, rfl⟩

set_option maxHeartbeats 4000000 in
set_option maxRecDepth 100000 in
theorem r_isDoor (l : Launch) (D : va_G) (b : Nat) (N : Nat) (V : Wd) (hN : 133 ≤ N) (cl : Nat) (hW : CR D b cl V) (n0 : Int32)  : MI l D b 1 jX12_isDoor [.ref (b + 100), .int n0] N V 0 0 (fun r N9 V9 => ((r = 0 ∨ r = 1) ∧ (r = 0 ∨ ∃ j : Nat, j < 16 ∧ n0 = nI j)) ∧ N = N9 ∧ V = V9) := by
  have hJ0 : JR D b N cl [] V V := JR.rf hW
  refine mw_of (by decide) (by simp [Value.category]) (Nat.le_of_ble_eq_true rfl) ?_
  show AW l D b jX12_isDoor (fx_rm 1 0 0) none (fx_MQ D b 0 0 (fx_qi (fun r N9 V9 => ((r = 0 ∨ r = 1) ∧ (r = 0 ∨ ∃ j : Nat, j < 16 ∧ n0 = nI j)) ∧ N = N9 ∧ V = V9))) 0 [some (.ref (b + 100)), some (.int n0)] [] N V 0 0
  refine aw_iload_n dX12_isDoor_0 rfl ?_
  refine aw_iconst (v := 0) dX12_isDoor_1 (by decide) ?_
  refine aw_bipush (v := 15) dX12_isDoor_2 (by decide) ?_
  refine aw_callSi (J' := jX12_in) (As := [.int n0, .int 0, .int 15]) (st := []) dX12_isDoor_4 tb_1209 ok_X12_in rfl (r_in l D b N V hN cl hJ0.1 n0 0 15) rfl (Nat.le_of_ble_eq_true rfl) ⟨Nat.le_of_ble_eq_true rfl, Nat.le_of_ble_eq_true rfl, Nat.le_of_ble_eq_true rfl, Nat.le_of_ble_eq_true rfl⟩ (fun r_4 N_5 V_6 q_7 => ?_)
  obtain ⟨⟨z_3, h_2⟩, rfl, rfl⟩ := q_7
  refine aw_if_eq (tgt := 25) dX12_isDoor_7 (by decide) (fun c_8 => ?_) (fun c_8 => ?_)
  · skip
    refine aw_iconst (v := 0) dX12_isDoor_25 (by decide) ?_
    refine aw_zreti dX12_isDoor_26 rfl (by first | exact Or.inl rfl | exact Or.inr rfl | assumption) (Nat.le_of_ble_eq_true rfl) (Nat.le_of_ble_eq_true rfl) ?_
    exact ⟨⟨(by first | exact Or.inl rfl | exact Or.inr rfl | assumption), Or.inl rfl⟩, rfl, rfl⟩
  · skip
    refine aw_aload_n dX12_isDoor_10 rfl ?_
    obtain ⟨ftoldPeople_9, ftoldDoors_9, fwasDoors_9, ffault_9, fopen_9, flines_9, fmeantSet_9, fopenedNow_9, fvainNow_9, flowNow_9, fhighNow_9, fisKept_9, tad_9, pl0_9, le0_9, nu0_9, coy_9, wag_9, say_9, e_9, hntad_9, hnpl0_9, hnle0_9, hnnu0_9, hncoy_9, hnwag_9, hnsay_9⟩ := JR.get hJ0 cm_100
    refine aw_get dX12_isDoor_11 fl_X12_129 e_9 (by omega) rfl ?_
    refine aw_iload_n dX12_isDoor_14 rfl ?_
    refine aw_callSi (J' := jX12_has) (As := [.int ftoldDoors_9, .int n0]) (st := []) dX12_isDoor_15 tb_1315 ok_X12_has rfl (r_has l D b N V hN cl hJ0.1 ftoldDoors_9 n0) rfl (Nat.le_of_ble_eq_true rfl) ⟨Nat.le_of_ble_eq_true rfl, Nat.le_of_ble_eq_true rfl, Nat.le_of_ble_eq_true rfl, Nat.le_of_ble_eq_true rfl⟩ (fun r_12 N_13 V_14 q_15 => ?_)
    obtain ⟨h_11, rfl, rfl⟩ := q_15
    refine aw_if_eq (tgt := 25) dX12_isDoor_18 (by decide) (fun c_16 => ?_) (fun c_16 => ?_)
    · skip
      refine aw_iconst (v := 0) dX12_isDoor_25 (by decide) ?_
      refine aw_zreti dX12_isDoor_26 rfl (by first | exact Or.inl rfl | exact Or.inr rfl | assumption) (Nat.le_of_ble_eq_true rfl) (Nat.le_of_ble_eq_true rfl) ?_
      exact ⟨⟨(by first | exact Or.inl rfl | exact Or.inr rfl | assumption), Or.inl rfl⟩, rfl, rfl⟩
    · skip
      refine aw_iconst (v := 1) dX12_isDoor_21 (by decide) ?_
      refine aw_goto (tgt := 26) dX12_isDoor_22 (by decide) ?_
      refine aw_zreti dX12_isDoor_26 rfl (by first | exact Or.inl rfl | exact Or.inr rfl | assumption) (Nat.le_of_ble_eq_true rfl) (Nat.le_of_ble_eq_true rfl) ?_
      exact ⟨⟨(by first | exact Or.inl rfl | exact Or.inr rfl | assumption), Or.inr (in_rg (a := 0) (b := 15) (by decide) (h_2.resolve_left c_8) (by decide))⟩, rfl, rfl⟩

set_option maxHeartbeats 4000000 in
set_option maxRecDepth 100000 in
theorem r_dread (l : Launch) (D : va_G) (b : Nat) (N : Nat) (V : Wd) (hN : 133 ≤ N) (cl : Nat) (hW : CR D b cl V) (n0 : Int32) (hn0 : ∃ j : Nat, j < 12 ∧ n0 = nI j) (n1 : Int32) (hn1 : ∃ j : Nat, j < 16 ∧ n1 = nI j)  : MI l D b 0 jX12_dread [.ref (b + 100), .int n0, .int n1] N V 0 0 (fun r N9 V9 => N = N9 ∧ V = V9) := by
  have hJ0 : JR D b N cl [] V V := JR.rf hW
  obtain ⟨i0, hi0, rfl⟩ := hn0
  obtain ⟨i1, hi1, rfl⟩ := hn1
  refine mw_of (by decide) (by simp [Value.category]) (Nat.le_of_ble_eq_true rfl) ?_
  show AW l D b jX12_dread (fx_rm 0 0 0) none (fx_MQ D b 0 0 (fx_qi (fun r N9 V9 => N = N9 ∧ V = V9))) 0 [some (.ref (b + 100)), some (.int (nI i0)), some (.int (nI i1))] [] N V 0 0
  refine aw_aload_n dX12_dread_0 rfl ?_
  obtain ⟨ftoldPeople_1, ftoldDoors_1, fwasDoors_1, ffault_1, fopen_1, flines_1, fmeantSet_1, fopenedNow_1, fvainNow_1, flowNow_1, fhighNow_1, fisKept_1, tad_1, pl0_1, le0_1, nu0_1, coy_1, wag_1, say_1, e_1, hntad_1, hnpl0_1, hnle0_1, hnnu0_1, hncoy_1, hnwag_1, hnsay_1⟩ := JR.get hJ0 cm_100
  refine aw_get dX12_dread_1 fl_X12_7 e_1 (by omega) rfl ?_
  refine aw_iconst (v := 0) dX12_dread_4 (by decide) ?_
  refine aw_bipush (v := 16) dX12_dread_5 (by decide) ?_
  refine aw_iload_n dX12_dread_7 rfl ?_
  refine aw_imul dX12_dread_8 ?_
  refine aw_eqi (y := nI (16 * i0)) (pk_mul _ _) ?_
  refine aw_iadd dX12_dread_9 ?_
  refine aw_eqi (y := nI (0 + (16 * i0))) (nI_add _ _) ?_
  refine aw_iload_n dX12_dread_10 rfl ?_
  refine aw_iadd dX12_dread_11 ?_
  refine aw_eqi (y := nI ((0 + (16 * i0)) + i1)) (nI_add _ _) ?_
  obtain ⟨g_2, e_2⟩ := JR.get hJ0 cm_101
  refine aw_iald (v := (g_2 ((0 + (16 * i0)) + i1))) dX12_dread_12 e_2 (by omega) (vp_in_nI (n := ((0 + (16 * i0)) + i1)) (by omega) (by omega)) (congrArg g_2 (nI_clamp (n := ((0 + (16 * i0)) + i1)) (by omega))) ?_
  refine aw_ireti dX12_dread_13 rfl (Nat.le_of_ble_eq_true rfl) (Nat.le_of_ble_eq_true rfl) ?_
  exact ⟨rfl, rfl⟩

set_option maxHeartbeats 4000000 in
set_option maxRecDepth 100000 in
theorem r_greatest (l : Launch) (D : va_G) (b : Nat) (N : Nat) (V : Wd) (hN : 133 ≤ N) (cl : Nat) (hW : CR D b cl V) (n0 : Int32) (hn0 : ∃ j : Nat, j < 12 ∧ n0 = nI j)  : MI l D b 1 jX12_greatest [.ref (b + 100), .int n0] N V 0 0 (fun r N9 V9 => N = N9 ∧ V = V9) := by
  have hJ0 : JR D b N cl [] V V := JR.rf hW
  obtain ⟨i0, hi0, rfl⟩ := hn0
  refine mw_of (by decide) (by simp [Value.category]) (Nat.le_of_ble_eq_true rfl) ?_
  show AW l D b jX12_greatest (fx_rm 1 0 0) none (fx_MQ D b 0 0 (fx_qi (fun r N9 V9 => N = N9 ∧ V = V9))) 0 [some (.ref (b + 100)), some (.int (nI i0)), none, none] [] N V 0 0
  refine aw_iconst (v := 0) dX12_greatest_0 (by decide) ?_
  refine aw_istore_n (ls' := [some (.ref (b + 100)), some (.int (nI i0)), some (.int 0), none]) dX12_greatest_1 (Nat.le_of_ble_eq_true rfl) rfl ?_
  refine aw_iconst (v := 0) dX12_greatest_2 (by decide) ?_
  refine aw_istore_n (ls' := [some (.ref (b + 100)), some (.int (nI i0)), some (.int 0), some (.int 0)]) dX12_greatest_3 (Nat.le_of_ble_eq_true rfl) rfl ?_
  have loop_4_0 : ∀ (g_4 : Nat), ∀ (j4 : Nat) (v4_2 : Int32), j4 + g_4 = 16 → AW l D b jX12_greatest (fx_rm 1 0 0) none (fx_MQ D b 0 0 (fx_qi (fun r N9 V9 => N = N9 ∧ V = V9))) 4 [some (.ref (b + 100)), some (.int (nI i0)), some (.int v4_2), some (.int (nI j4))] [] N V 0 0 := by
    intro g_4
    induction g_4 with
    | zero =>
      intro j4 v4_2 hj4
      obtain rfl : j4 = 16 := by omega
      refine aw_iload_n dX12_greatest_4 rfl ?_
      refine aw_bipush (v := 16) dX12_greatest_5 (by decide) ?_
      refine aw_icmp_ge (tgt := 27) dX12_greatest_7 (by decide) (fun c_3 => ?_) (fun c_3 => ?_)
      rotate_left
      · exact absurd (nI_le (a := 16) (b := 16) (Nat.le_refl _) (by omega)) c_3
      refine aw_iload_n dX12_greatest_27 rfl ?_
      refine aw_ireti dX12_greatest_28 rfl (Nat.le_of_ble_eq_true rfl) (Nat.le_of_ble_eq_true rfl) ?_
      exact ⟨rfl, rfl⟩
    | succ g_4 ih_4_1 =>
      intro j4 v4_2 hj4
      have hlj4 : j4 < 16 := by omega
      refine aw_iload_n dX12_greatest_4 rfl ?_
      refine aw_bipush (v := 16) dX12_greatest_5 (by decide) ?_
      refine aw_icmp_ge (tgt := 27) dX12_greatest_7 (by decide) (fun c_4 => ?_) (fun c_4 => ?_)
      · exact absurd c_4 (nI_ge (a := j4) (b := 16) (by omega) (by omega))
      refine aw_iload_n dX12_greatest_10 rfl ?_
      refine aw_aload_n dX12_greatest_11 rfl ?_
      refine aw_iload_n dX12_greatest_12 rfl ?_
      refine aw_iload_n dX12_greatest_13 rfl ?_
      obtain ⟨ftoldPeople_6, ftoldDoors_6, fwasDoors_6, ffault_6, fopen_6, flines_6, fmeantSet_6, fopenedNow_6, fvainNow_6, flowNow_6, fhighNow_6, fisKept_6, tad_6, pl0_6, le0_6, nu0_6, coy_6, wag_6, say_6, e_6, hntad_6, hnpl0_6, hnle0_6, hnnu0_6, hncoy_6, hnwag_6, hnsay_6⟩ := JR.get hJ0 cm_100
      refine aw_callVi (J' := jX12_dread) (As := [.int (nI i0), .int (nI j4)]) (st := [.int v4_2]) dX12_greatest_14 tb_1392 ok_X12_dread ⟨_, e_6⟩ (by omega) rfl rfl (r_dread l D b N V hN cl hJ0.1 (nI i0) ⟨i0, by omega, rfl⟩ (nI j4) ⟨j4, by omega, rfl⟩) rfl (Nat.le_of_ble_eq_true rfl) ⟨Nat.le_of_ble_eq_true rfl, Nat.le_of_ble_eq_true rfl, Nat.le_of_ble_eq_true rfl, Nat.le_of_ble_eq_true rfl⟩ (fun r_7 N_8 V_9 q_10 => ?_)
      obtain ⟨rfl, rfl⟩ := q_10
      refine aw_callSi (J' := jX12_max) (As := [.int v4_2, .int r_7]) (st := []) dX12_greatest_17 tb_1328 ok_X12_max rfl (r_max l D b N V hN cl hJ0.1 v4_2 r_7) rfl (Nat.le_of_ble_eq_true rfl) ⟨Nat.le_of_ble_eq_true rfl, Nat.le_of_ble_eq_true rfl, Nat.le_of_ble_eq_true rfl, Nat.le_of_ble_eq_true rfl⟩ (fun r_12 N_13 V_14 q_15 => ?_)
      obtain ⟨rfl, rfl⟩ := q_15
      refine aw_istore_n (ls' := [some (.ref (b + 100)), some (.int (nI i0)), some (.int r_12), some (.int (nI j4))]) dX12_greatest_20 (Nat.le_of_ble_eq_true rfl) rfl ?_
      refine aw_iinc (v := (nI (j4 + 1))) (ls' := [some (.ref (b + 100)), some (.int (nI i0)), some (.int r_12), some (.int (nI (j4 + 1)))]) dX12_greatest_21 rfl (fx_up_1 _) (Nat.le_of_ble_eq_true rfl) rfl ?_
      refine aw_goto (tgt := 4) dX12_greatest_24 (by decide) ?_
      refine aw_le ?_ (ih_4_1 (j4 + 1) r_12  (by omega))
      exact ⟨rfl, ⟨rfl, ⟨rfl, ⟨rfl, trivial⟩⟩⟩⟩
  refine aw_le ?_ (loop_4_0 16 0 0  (by omega))
  exact ⟨rfl, ⟨rfl, ⟨rfl, ⟨rfl, trivial⟩⟩⟩⟩

set_option maxHeartbeats 4000000 in
set_option maxRecDepth 100000 in
theorem r_fearOf (l : Launch) (D : va_G) (b : Nat) (N : Nat) (V : Wd) (hN : 133 ≤ N) (cl : Nat) (hW : CR D b cl V) (n0 : Int32) (hn0 : ∃ j : Nat, j < 12 ∧ n0 = nI j)  : MI l D b 2 jX12_fearOf [.ref (b + 100), .int n0] N V 0 0 (fun r N9 V9 => (r = -1 ∨ ∃ k : Nat, k < 16 ∧ r = nI k) ∧ N = N9 ∧ V = V9) := by
  have hJ0 : JR D b N cl [] V V := JR.rf hW
  obtain ⟨i0, hi0, rfl⟩ := hn0
  refine mw_of (by decide) (by simp [Value.category]) (Nat.le_of_ble_eq_true rfl) ?_
  show AW l D b jX12_fearOf (fx_rm 2 0 0) none (fx_MQ D b 0 0 (fx_qi (fun r N9 V9 => (r = -1 ∨ ∃ k : Nat, k < 16 ∧ r = nI k) ∧ N = N9 ∧ V = V9))) 0 [some (.ref (b + 100)), some (.int (nI i0)), none, none, none, none] [] N V 0 0
  refine aw_aload_n dX12_fearOf_0 rfl ?_
  refine aw_iload_n dX12_fearOf_1 rfl ?_
  obtain ⟨ftoldPeople_2, ftoldDoors_2, fwasDoors_2, ffault_2, fopen_2, flines_2, fmeantSet_2, fopenedNow_2, fvainNow_2, flowNow_2, fhighNow_2, fisKept_2, tad_2, pl0_2, le0_2, nu0_2, coy_2, wag_2, say_2, e_2, hntad_2, hnpl0_2, hnle0_2, hnnu0_2, hncoy_2, hnwag_2, hnsay_2⟩ := JR.get hJ0 cm_100
  refine aw_callVi (J' := jX12_greatest) (As := [.int (nI i0)]) (st := []) dX12_fearOf_2 tb_1388 ok_X12_greatest ⟨_, e_2⟩ (by omega) rfl rfl (r_greatest l D b N V hN cl hJ0.1 (nI i0) ⟨i0, by omega, rfl⟩) rfl (Nat.le_of_ble_eq_true rfl) ⟨Nat.le_of_ble_eq_true rfl, Nat.le_of_ble_eq_true rfl, Nat.le_of_ble_eq_true rfl, Nat.le_of_ble_eq_true rfl⟩ (fun r_3 N_4 V_5 q_6 => ?_)
  obtain ⟨rfl, rfl⟩ := q_6
  refine aw_istore_n (ls' := [some (.ref (b + 100)), some (.int (nI i0)), some (.int r_3), none, none, none]) dX12_fearOf_5 (Nat.le_of_ble_eq_true rfl) rfl ?_
  refine aw_iconst (v := (-1)) dX12_fearOf_6 (by decide) ?_
  refine aw_istore_n (ls' := [some (.ref (b + 100)), some (.int (nI i0)), some (.int r_3), some (.int (-1)), none, none]) dX12_fearOf_7 (Nat.le_of_ble_eq_true rfl) rfl ?_
  refine aw_iconst (v := 0) dX12_fearOf_8 (by decide) ?_
  refine aw_istore (ls' := [some (.ref (b + 100)), some (.int (nI i0)), some (.int r_3), some (.int (-1)), some (.int 0), none]) dX12_fearOf_9 (Nat.le_of_ble_eq_true rfl) rfl ?_
  refine aw_iconst (v := 0) dX12_fearOf_11 (by decide) ?_
  refine aw_istore (ls' := [some (.ref (b + 100)), some (.int (nI i0)), some (.int r_3), some (.int (-1)), some (.int 0), some (.int 0)]) dX12_fearOf_12 (Nat.le_of_ble_eq_true rfl) rfl ?_
  have loop_14_6 : ∀ (g_14 : Nat), ∀ (j14 : Nat) (v14_3 : Int32) (v14_4 : Int32), j14 + g_14 = 16 → (v14_3 = -1 ∨ ∃ k : Nat, k < 16 ∧ v14_3 = nI k) → AW l D b jX12_fearOf (fx_rm 2 0 0) none (fx_MQ D b 0 0 (fx_qi (fun r N9 V9 => (r = -1 ∨ ∃ k : Nat, k < 16 ∧ r = nI k) ∧ N = N9 ∧ V = V9))) 14 [some (.ref (b + 100)), some (.int (nI i0)), some (.int r_3), some (.int v14_3), some (.int v14_4), some (.int (nI j14))] [] N V 0 0 := by
    intro g_14
    induction g_14 with
    | zero =>
      intro j14 v14_3 v14_4 hj14 i14_0
      obtain rfl : j14 = 16 := by omega
      refine aw_iload dX12_fearOf_14 rfl ?_
      refine aw_bipush (v := 16) dX12_fearOf_16 (by decide) ?_
      refine aw_icmp_ge (tgt := 50) dX12_fearOf_18 (by decide) (fun c_9 => ?_) (fun c_9 => ?_)
      rotate_left
      · exact absurd (nI_le (a := 16) (b := 16) (Nat.le_refl _) (by omega)) c_9
      refine aw_iload_n dX12_fearOf_50 rfl ?_
      refine aw_if_le (tgt := 64) dX12_fearOf_51 (by decide) (fun c_10 => ?_) (fun c_10 => ?_)
      · skip
        refine aw_iconst (v := (-1)) dX12_fearOf_64 (by decide) ?_
        refine aw_ireti dX12_fearOf_65 rfl (Nat.le_of_ble_eq_true rfl) (Nat.le_of_ble_eq_true rfl) ?_
        exact ⟨Or.inl rfl, rfl, rfl⟩
      · skip
        refine aw_iload dX12_fearOf_54 rfl ?_
        refine aw_iconst (v := 1) dX12_fearOf_56 (by decide) ?_
        refine aw_icmp_ne (tgt := 64) dX12_fearOf_57 (by decide) (fun c_11 => ?_) (fun c_11 => ?_)
        · skip
          refine aw_iconst (v := (-1)) dX12_fearOf_64 (by decide) ?_
          refine aw_ireti dX12_fearOf_65 rfl (Nat.le_of_ble_eq_true rfl) (Nat.le_of_ble_eq_true rfl) ?_
          exact ⟨Or.inl rfl, rfl, rfl⟩
        · skip
          refine aw_iload_n dX12_fearOf_60 rfl ?_
          refine aw_goto (tgt := 65) dX12_fearOf_61 (by decide) ?_
          refine aw_ireti dX12_fearOf_65 rfl (Nat.le_of_ble_eq_true rfl) (Nat.le_of_ble_eq_true rfl) ?_
          exact ⟨i14_0, rfl, rfl⟩
    | succ g_14 ih_14_7 =>
      intro j14 v14_3 v14_4 hj14 i14_0
      have hlj14 : j14 < 16 := by omega
      refine aw_iload dX12_fearOf_14 rfl ?_
      refine aw_bipush (v := 16) dX12_fearOf_16 (by decide) ?_
      refine aw_icmp_ge (tgt := 50) dX12_fearOf_18 (by decide) (fun c_12 => ?_) (fun c_12 => ?_)
      · exact absurd c_12 (nI_ge (a := j14) (b := 16) (by omega) (by omega))
      refine aw_aload_n dX12_fearOf_21 rfl ?_
      refine aw_iload_n dX12_fearOf_22 rfl ?_
      refine aw_iload dX12_fearOf_23 rfl ?_
      refine aw_callVi (J' := jX12_dread) (As := [.int (nI i0), .int (nI j14)]) (st := []) dX12_fearOf_25 tb_1392 ok_X12_dread ⟨_, e_2⟩ (by omega) rfl rfl (r_dread l D b N V hN cl hJ0.1 (nI i0) ⟨i0, by omega, rfl⟩ (nI j14) ⟨j14, by omega, rfl⟩) rfl (Nat.le_of_ble_eq_true rfl) ⟨Nat.le_of_ble_eq_true rfl, Nat.le_of_ble_eq_true rfl, Nat.le_of_ble_eq_true rfl, Nat.le_of_ble_eq_true rfl⟩ (fun r_14 N_15 V_16 q_17 => ?_)
      obtain ⟨rfl, rfl⟩ := q_17
      refine aw_iload_n dX12_fearOf_28 rfl ?_
      refine aw_icmp_eq (tgt := 35) dX12_fearOf_29 (by decide) (fun c_18 => ?_) (fun c_18 => ?_)
      · skip
        refine aw_iload dX12_fearOf_35 rfl ?_
        refine aw_istore_n (ls' := [some (.ref (b + 100)), some (.int (nI i0)), some (.int r_3), some (.int (nI j14)), some (.int v14_4), some (.int (nI j14))]) dX12_fearOf_37 (Nat.le_of_ble_eq_true rfl) rfl ?_
        refine aw_iload dX12_fearOf_38 rfl ?_
        refine aw_iconst (v := 1) dX12_fearOf_40 (by decide) ?_
        refine aw_iadd dX12_fearOf_41 ?_
        refine aw_istore (ls' := [some (.ref (b + 100)), some (.int (nI i0)), some (.int r_3), some (.int (nI j14)), some (.int (v14_4 + 1)), some (.int (nI j14))]) dX12_fearOf_42 (Nat.le_of_ble_eq_true rfl) rfl ?_
        refine aw_iinc (v := (nI (j14 + 1))) (ls' := [some (.ref (b + 100)), some (.int (nI i0)), some (.int r_3), some (.int (nI j14)), some (.int (v14_4 + 1)), some (.int (nI (j14 + 1)))]) dX12_fearOf_44 rfl (fx_up_1 _) (Nat.le_of_ble_eq_true rfl) rfl ?_
        refine aw_goto (tgt := 14) dX12_fearOf_47 (by decide) ?_
        refine aw_le ?_ (ih_14_7 (j14 + 1) (nI j14) (v14_4 + 1)  (by omega) (Or.inr ⟨j14, by omega, rfl⟩))
        exact ⟨rfl, ⟨rfl, ⟨rfl, ⟨rfl, ⟨rfl, ⟨rfl, trivial⟩⟩⟩⟩⟩⟩
      · skip
        refine aw_goto (tgt := 44) dX12_fearOf_32 (by decide) ?_
        refine aw_iinc (v := (nI (j14 + 1))) (ls' := [some (.ref (b + 100)), some (.int (nI i0)), some (.int r_3), some (.int v14_3), some (.int v14_4), some (.int (nI (j14 + 1)))]) dX12_fearOf_44 rfl (fx_up_1 _) (Nat.le_of_ble_eq_true rfl) rfl ?_
        refine aw_goto (tgt := 14) dX12_fearOf_47 (by decide) ?_
        refine aw_le ?_ (ih_14_7 (j14 + 1) v14_3 v14_4  (by omega) (i14_0))
        exact ⟨rfl, ⟨rfl, ⟨rfl, ⟨rfl, ⟨rfl, ⟨rfl, trivial⟩⟩⟩⟩⟩⟩
  refine aw_le ?_ (loop_14_6 16 0 (-1) 0  (by omega) (Or.inl rfl))
  exact ⟨rfl, ⟨rfl, ⟨rfl, ⟨rfl, ⟨rfl, ⟨rfl, trivial⟩⟩⟩⟩⟩⟩

set_option maxHeartbeats 4000000 in
set_option maxRecDepth 100000 in
theorem r_unlocks (l : Launch) (D : va_G) (b : Nat) (N : Nat) (V : Wd) (hN : 133 ≤ N) (cl : Nat) (hW : CR D b cl V) (n0 : Int32) (hn0 : ∃ j : Nat, j < 12 ∧ n0 = nI j) (n1 : Int32) (hn1 : ∃ j : Nat, j < 16 ∧ n1 = nI j)  : MI l D b 3 jX12_unlocks [.ref (b + 100), .int n0, .int n1] N V 0 0 (fun r N9 V9 => (r = 0 ∨ r = 1) ∧ N = N9 ∧ V = V9) := by
  have hJ0 : JR D b N cl [] V V := JR.rf hW
  obtain ⟨i0, hi0, rfl⟩ := hn0
  obtain ⟨i1, hi1, rfl⟩ := hn1
  refine mw_of (by decide) (by simp [Value.category]) (Nat.le_of_ble_eq_true rfl) ?_
  show AW l D b jX12_unlocks (fx_rm 3 0 0) none (fx_MQ D b 0 0 (fx_qi (fun r N9 V9 => (r = 0 ∨ r = 1) ∧ N = N9 ∧ V = V9))) 0 [some (.ref (b + 100)), some (.int (nI i0)), some (.int (nI i1))] [] N V 0 0
  refine aw_aload_n dX12_unlocks_0 rfl ?_
  refine aw_iload_n dX12_unlocks_1 rfl ?_
  obtain ⟨ftoldPeople_3, ftoldDoors_3, fwasDoors_3, ffault_3, fopen_3, flines_3, fmeantSet_3, fopenedNow_3, fvainNow_3, flowNow_3, fhighNow_3, fisKept_3, tad_3, pl0_3, le0_3, nu0_3, coy_3, wag_3, say_3, e_3, hntad_3, hnpl0_3, hnle0_3, hnnu0_3, hncoy_3, hnwag_3, hnsay_3⟩ := JR.get hJ0 cm_100
  refine aw_callVi (J' := jX12_fearOf) (As := [.int (nI i0)]) (st := []) dX12_unlocks_2 tb_1430 ok_X12_fearOf ⟨_, e_3⟩ (by omega) rfl rfl (r_fearOf l D b N V hN cl hJ0.1 (nI i0) ⟨i0, by omega, rfl⟩) rfl (Nat.le_of_ble_eq_true rfl) ⟨Nat.le_of_ble_eq_true rfl, Nat.le_of_ble_eq_true rfl, Nat.le_of_ble_eq_true rfl, Nat.le_of_ble_eq_true rfl⟩ (fun r_4 N_5 V_6 q_7 => ?_)
  obtain ⟨h_2, rfl, rfl⟩ := q_7
  refine aw_aload_n dX12_unlocks_5 rfl ?_
  refine aw_get dX12_unlocks_6 fl_X12_25 e_3 (by omega) rfl ?_
  refine aw_iload_n dX12_unlocks_9 rfl ?_
  obtain ⟨g_8, e_8, p_8⟩ := JR.get hJ0 cm_106
  refine aw_iald (v := (g_8 i1)) dX12_unlocks_10 e_8 (by omega) (vp_in_nI (n := i1) (by omega) (by omega)) (congrArg g_8 (nI_clamp (n := i1) (by omega))) ?_
  refine aw_icmp_ne (tgt := 38) dX12_unlocks_11 (by decide) (fun c_9 => ?_) (fun c_9 => ?_)
  · skip
    refine aw_iconst (v := 0) dX12_unlocks_38 (by decide) ?_
    refine aw_zreti dX12_unlocks_39 rfl (by first | exact Or.inl rfl | exact Or.inr rfl | assumption) (Nat.le_of_ble_eq_true rfl) (Nat.le_of_ble_eq_true rfl) ?_
    exact ⟨(by first | exact Or.inl rfl | exact Or.inr rfl | assumption), rfl, rfl⟩
  · skip
    refine aw_aload_n dX12_unlocks_14 rfl ?_
    refine aw_iload_n dX12_unlocks_15 rfl ?_
    refine aw_aload_n dX12_unlocks_16 rfl ?_
    refine aw_get dX12_unlocks_17 fl_X12_25 e_3 (by omega) rfl ?_
    refine aw_iload_n dX12_unlocks_20 rfl ?_
    refine aw_iald (v := (g_8 i1)) dX12_unlocks_21 e_8 (by omega) (vp_in_nI (n := i1) (by omega) (by omega)) (congrArg g_8 (nI_clamp (n := i1) (by omega))) ?_
    refine aw_callVi (J' := jX12_dread) (As := [.int (nI i0), .int (g_8 i1)]) (st := []) dX12_unlocks_22 tb_1392 ok_X12_dread ⟨_, e_3⟩ (by omega) rfl rfl (r_dread l D b N V hN cl hJ0.1 (nI i0) ⟨i0, by omega, rfl⟩ (g_8 i1) (p_8 _ (by omega))) rfl (Nat.le_of_ble_eq_true rfl) ⟨Nat.le_of_ble_eq_true rfl, Nat.le_of_ble_eq_true rfl, Nat.le_of_ble_eq_true rfl, Nat.le_of_ble_eq_true rfl⟩ (fun r_11 N_12 V_13 q_14 => ?_)
    obtain ⟨rfl, rfl⟩ := q_14
    refine aw_aload_n dX12_unlocks_25 rfl ?_
    refine aw_get dX12_unlocks_26 fl_X12_28 e_3 (by omega) rfl ?_
    refine aw_iload_n dX12_unlocks_29 rfl ?_
    obtain ⟨g_15, e_15⟩ := JR.get hJ0 cm_107
    refine aw_iald (v := (g_15 i1)) dX12_unlocks_30 e_15 (by omega) (vp_in_nI (n := i1) (by omega) (by omega)) (congrArg g_15 (nI_clamp (n := i1) (by omega))) ?_
    refine aw_icmp_lt (tgt := 38) dX12_unlocks_31 (by decide) (fun c_16 => ?_) (fun c_16 => ?_)
    · skip
      refine aw_iconst (v := 0) dX12_unlocks_38 (by decide) ?_
      refine aw_zreti dX12_unlocks_39 rfl (by first | exact Or.inl rfl | exact Or.inr rfl | assumption) (Nat.le_of_ble_eq_true rfl) (Nat.le_of_ble_eq_true rfl) ?_
      exact ⟨(by first | exact Or.inl rfl | exact Or.inr rfl | assumption), rfl, rfl⟩
    · skip
      refine aw_iconst (v := 1) dX12_unlocks_34 (by decide) ?_
      refine aw_goto (tgt := 39) dX12_unlocks_35 (by decide) ?_
      refine aw_zreti dX12_unlocks_39 rfl (by first | exact Or.inl rfl | exact Or.inr rfl | assumption) (Nat.le_of_ble_eq_true rfl) (Nat.le_of_ble_eq_true rfl) ?_
      exact ⟨(by first | exact Or.inl rfl | exact Or.inr rfl | assumption), rfl, rfl⟩

set_option maxHeartbeats 4000000 in
set_option maxRecDepth 100000 in
theorem r_doorsOf (l : Launch) (D : va_G) (b : Nat) (N : Nat) (V : Wd) (hN : 133 ≤ N) (cl : Nat) (hW : CR D b cl V) (n0 : Int32) (hn0 : ∃ j : Nat, j < 12 ∧ n0 = nI j)  : MI l D b 4 jX12_doorsOf [.ref (b + 100), .int n0] N V 0 0 (fun r N9 V9 => N = N9 ∧ V = V9) := by
  have hJ0 : JR D b N cl [] V V := JR.rf hW
  obtain ⟨i0, hi0, rfl⟩ := hn0
  refine mw_of (by decide) (by simp [Value.category]) (Nat.le_of_ble_eq_true rfl) ?_
  show AW l D b jX12_doorsOf (fx_rm 4 0 0) none (fx_MQ D b 0 0 (fx_qi (fun r N9 V9 => N = N9 ∧ V = V9))) 0 [some (.ref (b + 100)), some (.int (nI i0)), none, none] [] N V 0 0
  refine aw_iconst (v := 0) dX12_doorsOf_0 (by decide) ?_
  refine aw_istore_n (ls' := [some (.ref (b + 100)), some (.int (nI i0)), some (.int 0), none]) dX12_doorsOf_1 (Nat.le_of_ble_eq_true rfl) rfl ?_
  refine aw_iconst (v := 0) dX12_doorsOf_2 (by decide) ?_
  refine aw_istore_n (ls' := [some (.ref (b + 100)), some (.int (nI i0)), some (.int 0), some (.int 0)]) dX12_doorsOf_3 (Nat.le_of_ble_eq_true rfl) rfl ?_
  have loop_4_0 : ∀ (g_4 : Nat), ∀ (j4 : Nat) (v4_2 : Int32), j4 + g_4 = 16 → AW l D b jX12_doorsOf (fx_rm 4 0 0) none (fx_MQ D b 0 0 (fx_qi (fun r N9 V9 => N = N9 ∧ V = V9))) 4 [some (.ref (b + 100)), some (.int (nI i0)), some (.int v4_2), some (.int (nI j4))] [] N V 0 0 := by
    intro g_4
    induction g_4 with
    | zero =>
      intro j4 v4_2 hj4
      obtain rfl : j4 = 16 := by omega
      refine aw_iload_n dX12_doorsOf_4 rfl ?_
      refine aw_bipush (v := 16) dX12_doorsOf_5 (by decide) ?_
      refine aw_icmp_ge (tgt := 39) dX12_doorsOf_7 (by decide) (fun c_3 => ?_) (fun c_3 => ?_)
      rotate_left
      · exact absurd (nI_le (a := 16) (b := 16) (Nat.le_refl _) (by omega)) c_3
      refine aw_iload_n dX12_doorsOf_39 rfl ?_
      refine aw_ireti dX12_doorsOf_40 rfl (Nat.le_of_ble_eq_true rfl) (Nat.le_of_ble_eq_true rfl) ?_
      exact ⟨rfl, rfl⟩
    | succ g_4 ih_4_1 =>
      intro j4 v4_2 hj4
      have hlj4 : j4 < 16 := by omega
      refine aw_iload_n dX12_doorsOf_4 rfl ?_
      refine aw_bipush (v := 16) dX12_doorsOf_5 (by decide) ?_
      refine aw_icmp_ge (tgt := 39) dX12_doorsOf_7 (by decide) (fun c_4 => ?_) (fun c_4 => ?_)
      · exact absurd c_4 (nI_ge (a := j4) (b := 16) (by omega) (by omega))
      refine aw_aload_n dX12_doorsOf_10 rfl ?_
      refine aw_iload_n dX12_doorsOf_11 rfl ?_
      obtain ⟨ftoldPeople_8, ftoldDoors_8, fwasDoors_8, ffault_8, fopen_8, flines_8, fmeantSet_8, fopenedNow_8, fvainNow_8, flowNow_8, fhighNow_8, fisKept_8, tad_8, pl0_8, le0_8, nu0_8, coy_8, wag_8, say_8, e_8, hntad_8, hnpl0_8, hnle0_8, hnnu0_8, hncoy_8, hnwag_8, hnsay_8⟩ := JR.get hJ0 cm_100
      refine aw_callVi (J' := jX12_isDoor) (As := [.int (nI j4)]) (st := []) dX12_doorsOf_12 tb_1359 ok_X12_isDoor ⟨_, e_8⟩ (by omega) rfl rfl (r_isDoor l D b N V hN cl hJ0.1 (nI j4)) rfl (Nat.le_of_ble_eq_true rfl) ⟨Nat.le_of_ble_eq_true rfl, Nat.le_of_ble_eq_true rfl, Nat.le_of_ble_eq_true rfl, Nat.le_of_ble_eq_true rfl⟩ (fun r_9 N_10 V_11 q_12 => ?_)
      obtain ⟨⟨z_7, h_6⟩, rfl, rfl⟩ := q_12
      refine aw_if_eq (tgt := 33) dX12_doorsOf_15 (by decide) (fun c_13 => ?_) (fun c_13 => ?_)
      · skip
        refine aw_iinc (v := (nI (j4 + 1))) (ls' := [some (.ref (b + 100)), some (.int (nI i0)), some (.int v4_2), some (.int (nI (j4 + 1)))]) dX12_doorsOf_33 rfl (fx_up_1 _) (Nat.le_of_ble_eq_true rfl) rfl ?_
        refine aw_goto (tgt := 4) dX12_doorsOf_36 (by decide) ?_
        refine aw_le ?_ (ih_4_1 (j4 + 1) v4_2  (by omega))
        exact ⟨rfl, ⟨rfl, ⟨rfl, ⟨rfl, trivial⟩⟩⟩⟩
      · skip
        refine aw_aload_n dX12_doorsOf_18 rfl ?_
        refine aw_iload_n dX12_doorsOf_19 rfl ?_
        refine aw_iload_n dX12_doorsOf_20 rfl ?_
        refine aw_callVi (J' := jX12_unlocks) (As := [.int (nI i0), .int (nI j4)]) (st := []) dX12_doorsOf_21 tb_1426 ok_X12_unlocks ⟨_, e_8⟩ (by omega) rfl rfl (r_unlocks l D b N V hN cl hJ0.1 (nI i0) ⟨i0, by omega, rfl⟩ (nI j4) ⟨j4, by omega, rfl⟩) rfl (Nat.le_of_ble_eq_true rfl) ⟨Nat.le_of_ble_eq_true rfl, Nat.le_of_ble_eq_true rfl, Nat.le_of_ble_eq_true rfl, Nat.le_of_ble_eq_true rfl⟩ (fun r_16 N_17 V_18 q_19 => ?_)
        obtain ⟨h_15, rfl, rfl⟩ := q_19
        refine aw_if_eq (tgt := 33) dX12_doorsOf_24 (by decide) (fun c_20 => ?_) (fun c_20 => ?_)
        · skip
          refine aw_iinc (v := (nI (j4 + 1))) (ls' := [some (.ref (b + 100)), some (.int (nI i0)), some (.int v4_2), some (.int (nI (j4 + 1)))]) dX12_doorsOf_33 rfl (fx_up_1 _) (Nat.le_of_ble_eq_true rfl) rfl ?_
          refine aw_goto (tgt := 4) dX12_doorsOf_36 (by decide) ?_
          refine aw_le ?_ (ih_4_1 (j4 + 1) v4_2  (by omega))
          exact ⟨rfl, ⟨rfl, ⟨rfl, ⟨rfl, trivial⟩⟩⟩⟩
        · skip
          refine aw_iload_n dX12_doorsOf_27 rfl ?_
          refine aw_iconst (v := 1) dX12_doorsOf_28 (by decide) ?_
          refine aw_iload_n dX12_doorsOf_29 rfl ?_
          refine aw_ishl dX12_doorsOf_30 ?_
          refine aw_ior dX12_doorsOf_31 ?_
          refine aw_istore_n (ls' := [some (.ref (b + 100)), some (.int (nI i0)), some (.int (v4_2 ||| ((1 : Int32) <<< ((nI j4) &&& 31)))), some (.int (nI j4))]) dX12_doorsOf_32 (Nat.le_of_ble_eq_true rfl) rfl ?_
          refine aw_iinc (v := (nI (j4 + 1))) (ls' := [some (.ref (b + 100)), some (.int (nI i0)), some (.int (v4_2 ||| ((1 : Int32) <<< ((nI j4) &&& 31)))), some (.int (nI (j4 + 1)))]) dX12_doorsOf_33 rfl (fx_up_1 _) (Nat.le_of_ble_eq_true rfl) rfl ?_
          refine aw_goto (tgt := 4) dX12_doorsOf_36 (by decide) ?_
          refine aw_le ?_ (ih_4_1 (j4 + 1) (v4_2 ||| ((1 : Int32) <<< ((nI j4) &&& 31)))  (by omega))
          exact ⟨rfl, ⟨rfl, ⟨rfl, ⟨rfl, trivial⟩⟩⟩⟩
  refine aw_le ?_ (loop_4_0 16 0 0  (by omega))
  exact ⟨rfl, ⟨rfl, ⟨rfl, ⟨rfl, trivial⟩⟩⟩⟩

set_option maxHeartbeats 4000000 in
set_option maxRecDepth 100000 in
theorem r_whoUnlocks (l : Launch) (D : va_G) (b : Nat) (N : Nat) (V : Wd) (hN : 133 ≤ N) (cl : Nat) (hW : CR D b cl V) (n0 : Int32) (hn0 : ∃ j : Nat, j < 16 ∧ n0 = nI j)  : MI l D b 4 jX12_whoUnlocks [.ref (b + 100), .int n0] N V 0 0 (fun r N9 V9 => N = N9 ∧ V = V9) := by
  have hJ0 : JR D b N cl [] V V := JR.rf hW
  obtain ⟨i0, hi0, rfl⟩ := hn0
  refine mw_of (by decide) (by simp [Value.category]) (Nat.le_of_ble_eq_true rfl) ?_
  show AW l D b jX12_whoUnlocks (fx_rm 4 0 0) none (fx_MQ D b 0 0 (fx_qi (fun r N9 V9 => N = N9 ∧ V = V9))) 0 [some (.ref (b + 100)), some (.int (nI i0)), none, none] [] N V 0 0
  refine aw_iconst (v := 0) dX12_whoUnlocks_0 (by decide) ?_
  refine aw_istore_n (ls' := [some (.ref (b + 100)), some (.int (nI i0)), some (.int 0), none]) dX12_whoUnlocks_1 (Nat.le_of_ble_eq_true rfl) rfl ?_
  refine aw_iconst (v := 0) dX12_whoUnlocks_2 (by decide) ?_
  refine aw_istore_n (ls' := [some (.ref (b + 100)), some (.int (nI i0)), some (.int 0), some (.int 0)]) dX12_whoUnlocks_3 (Nat.le_of_ble_eq_true rfl) rfl ?_
  have loop_4_0 : ∀ (g_4 : Nat), ∀ (j4 : Nat) (v4_2 : Int32), j4 + g_4 = 12 → AW l D b jX12_whoUnlocks (fx_rm 4 0 0) none (fx_MQ D b 0 0 (fx_qi (fun r N9 V9 => N = N9 ∧ V = V9))) 4 [some (.ref (b + 100)), some (.int (nI i0)), some (.int v4_2), some (.int (nI j4))] [] N V 0 0 := by
    intro g_4
    induction g_4 with
    | zero =>
      intro j4 v4_2 hj4
      obtain rfl : j4 = 12 := by omega
      refine aw_iload_n dX12_whoUnlocks_4 rfl ?_
      refine aw_bipush (v := 12) dX12_whoUnlocks_5 (by decide) ?_
      refine aw_icmp_ge (tgt := 39) dX12_whoUnlocks_7 (by decide) (fun c_3 => ?_) (fun c_3 => ?_)
      rotate_left
      · exact absurd (nI_le (a := 12) (b := 12) (Nat.le_refl _) (by omega)) c_3
      refine aw_iload_n dX12_whoUnlocks_39 rfl ?_
      refine aw_ireti dX12_whoUnlocks_40 rfl (Nat.le_of_ble_eq_true rfl) (Nat.le_of_ble_eq_true rfl) ?_
      exact ⟨rfl, rfl⟩
    | succ g_4 ih_4_1 =>
      intro j4 v4_2 hj4
      have hlj4 : j4 < 12 := by omega
      refine aw_iload_n dX12_whoUnlocks_4 rfl ?_
      refine aw_bipush (v := 12) dX12_whoUnlocks_5 (by decide) ?_
      refine aw_icmp_ge (tgt := 39) dX12_whoUnlocks_7 (by decide) (fun c_4 => ?_) (fun c_4 => ?_)
      · exact absurd c_4 (nI_ge (a := j4) (b := 12) (by omega) (by omega))
      refine aw_aload_n dX12_whoUnlocks_10 rfl ?_
      refine aw_iload_n dX12_whoUnlocks_11 rfl ?_
      obtain ⟨ftoldPeople_8, ftoldDoors_8, fwasDoors_8, ffault_8, fopen_8, flines_8, fmeantSet_8, fopenedNow_8, fvainNow_8, flowNow_8, fhighNow_8, fisKept_8, tad_8, pl0_8, le0_8, nu0_8, coy_8, wag_8, say_8, e_8, hntad_8, hnpl0_8, hnle0_8, hnnu0_8, hncoy_8, hnwag_8, hnsay_8⟩ := JR.get hJ0 cm_100
      refine aw_callVi (J' := jX12_isTold) (As := [.int (nI j4)]) (st := []) dX12_whoUnlocks_12 tb_1351 ok_X12_isTold ⟨_, e_8⟩ (by omega) rfl rfl (r_isTold l D b N V hN cl hJ0.1 (nI j4)) rfl (Nat.le_of_ble_eq_true rfl) ⟨Nat.le_of_ble_eq_true rfl, Nat.le_of_ble_eq_true rfl, Nat.le_of_ble_eq_true rfl, Nat.le_of_ble_eq_true rfl⟩ (fun r_9 N_10 V_11 q_12 => ?_)
      obtain ⟨⟨z_7, h_6⟩, rfl, rfl⟩ := q_12
      refine aw_if_eq (tgt := 33) dX12_whoUnlocks_15 (by decide) (fun c_13 => ?_) (fun c_13 => ?_)
      · skip
        refine aw_iinc (v := (nI (j4 + 1))) (ls' := [some (.ref (b + 100)), some (.int (nI i0)), some (.int v4_2), some (.int (nI (j4 + 1)))]) dX12_whoUnlocks_33 rfl (fx_up_1 _) (Nat.le_of_ble_eq_true rfl) rfl ?_
        refine aw_goto (tgt := 4) dX12_whoUnlocks_36 (by decide) ?_
        refine aw_le ?_ (ih_4_1 (j4 + 1) v4_2  (by omega))
        exact ⟨rfl, ⟨rfl, ⟨rfl, ⟨rfl, trivial⟩⟩⟩⟩
      · skip
        refine aw_aload_n dX12_whoUnlocks_18 rfl ?_
        refine aw_iload_n dX12_whoUnlocks_19 rfl ?_
        refine aw_iload_n dX12_whoUnlocks_20 rfl ?_
        refine aw_callVi (J' := jX12_unlocks) (As := [.int (nI j4), .int (nI i0)]) (st := []) dX12_whoUnlocks_21 tb_1426 ok_X12_unlocks ⟨_, e_8⟩ (by omega) rfl rfl (r_unlocks l D b N V hN cl hJ0.1 (nI j4) ⟨j4, by omega, rfl⟩ (nI i0) ⟨i0, by omega, rfl⟩) rfl (Nat.le_of_ble_eq_true rfl) ⟨Nat.le_of_ble_eq_true rfl, Nat.le_of_ble_eq_true rfl, Nat.le_of_ble_eq_true rfl, Nat.le_of_ble_eq_true rfl⟩ (fun r_16 N_17 V_18 q_19 => ?_)
        obtain ⟨h_15, rfl, rfl⟩ := q_19
        refine aw_if_eq (tgt := 33) dX12_whoUnlocks_24 (by decide) (fun c_20 => ?_) (fun c_20 => ?_)
        · skip
          refine aw_iinc (v := (nI (j4 + 1))) (ls' := [some (.ref (b + 100)), some (.int (nI i0)), some (.int v4_2), some (.int (nI (j4 + 1)))]) dX12_whoUnlocks_33 rfl (fx_up_1 _) (Nat.le_of_ble_eq_true rfl) rfl ?_
          refine aw_goto (tgt := 4) dX12_whoUnlocks_36 (by decide) ?_
          refine aw_le ?_ (ih_4_1 (j4 + 1) v4_2  (by omega))
          exact ⟨rfl, ⟨rfl, ⟨rfl, ⟨rfl, trivial⟩⟩⟩⟩
        · skip
          refine aw_iload_n dX12_whoUnlocks_27 rfl ?_
          refine aw_iconst (v := 1) dX12_whoUnlocks_28 (by decide) ?_
          refine aw_iload_n dX12_whoUnlocks_29 rfl ?_
          refine aw_ishl dX12_whoUnlocks_30 ?_
          refine aw_ior dX12_whoUnlocks_31 ?_
          refine aw_istore_n (ls' := [some (.ref (b + 100)), some (.int (nI i0)), some (.int (v4_2 ||| ((1 : Int32) <<< ((nI j4) &&& 31)))), some (.int (nI j4))]) dX12_whoUnlocks_32 (Nat.le_of_ble_eq_true rfl) rfl ?_
          refine aw_iinc (v := (nI (j4 + 1))) (ls' := [some (.ref (b + 100)), some (.int (nI i0)), some (.int (v4_2 ||| ((1 : Int32) <<< ((nI j4) &&& 31)))), some (.int (nI (j4 + 1)))]) dX12_whoUnlocks_33 rfl (fx_up_1 _) (Nat.le_of_ble_eq_true rfl) rfl ?_
          refine aw_goto (tgt := 4) dX12_whoUnlocks_36 (by decide) ?_
          refine aw_le ?_ (ih_4_1 (j4 + 1) (v4_2 ||| ((1 : Int32) <<< ((nI j4) &&& 31)))  (by omega))
          exact ⟨rfl, ⟨rfl, ⟨rfl, ⟨rfl, trivial⟩⟩⟩⟩
  refine aw_le ?_ (loop_4_0 12 0 0  (by omega))
  exact ⟨rfl, ⟨rfl, ⟨rfl, ⟨rfl, trivial⟩⟩⟩⟩

set_option maxHeartbeats 4000000 in
set_option maxRecDepth 100000 in
theorem r_octet (l : Launch) (D : va_G) (b : Nat) (N : Nat) (V : Wd) (hN : 133 ≤ N) (cl : Nat) (hW : CR D b cl V) (n0 : Int32) (hn0 : ∃ j : Nat, j < 260 ∧ n0 = nI j)  : MI l D b 0 jX12_octet [.ref (b + 100), .int n0] N V 0 0 (fun r N9 V9 => N = N9 ∧ V = V9) := by
  have hJ0 : JR D b N cl [] V V := JR.rf hW
  obtain ⟨i0, hi0, rfl⟩ := hn0
  refine mw_of (by decide) (by simp [Value.category]) (Nat.le_of_ble_eq_true rfl) ?_
  show AW l D b jX12_octet (fx_rm 0 0 0) none (fx_MQ D b 0 0 (fx_qi (fun r N9 V9 => N = N9 ∧ V = V9))) 0 [some (.ref (b + 100)), some (.int (nI i0))] [] N V 0 0
  refine aw_aload_n dX12_octet_0 rfl ?_
  obtain ⟨ftoldPeople_1, ftoldDoors_1, fwasDoors_1, ffault_1, fopen_1, flines_1, fmeantSet_1, fopenedNow_1, fvainNow_1, flowNow_1, fhighNow_1, fisKept_1, tad_1, pl0_1, le0_1, nu0_1, coy_1, wag_1, say_1, e_1, hntad_1, hnpl0_1, hnle0_1, hnnu0_1, hncoy_1, hnwag_1, hnsay_1⟩ := JR.get hJ0 cm_100
  refine aw_get dX12_octet_1 fl_X12_37 e_1 (by omega) rfl ?_
  refine aw_iload_n dX12_octet_4 rfl ?_
  obtain ⟨g_2, e_2⟩ := JR.get hJ0 cm_110
  refine aw_bald (v := (g_2 i0)) dX12_octet_5 e_2 (by omega) (vp_in_nI (n := i0) (by omega) (by omega)) (congrArg g_2 (nI_clamp (n := i0) (by omega))) ?_
  refine aw_sipush (v := 255) dX12_octet_6 (by decide) ?_
  refine aw_iand dX12_octet_9 ?_
  refine aw_ireti dX12_octet_10 rfl (Nat.le_of_ble_eq_true rfl) (Nat.le_of_ble_eq_true rfl) ?_
  exact ⟨rfl, rfl⟩

set_option maxHeartbeats 4000000 in
set_option maxRecDepth 100000 in
theorem r_orNone (l : Launch) (D : va_G) (b : Nat) (N : Nat) (V : Wd) (hN : 133 ≤ N) (cl : Nat) (hW : CR D b cl V) (n0 : Int32)  : MI l D b 0 jX12_orNone [.int n0] N V 0 0 (fun r N9 V9 => N = N9 ∧ V = V9) := by
  have hJ0 : JR D b N cl [] V V := JR.rf hW
  refine mw_of (by decide) (by simp [Value.category]) (Nat.le_of_ble_eq_true rfl) ?_
  show AW l D b jX12_orNone (fx_rm 0 0 0) none (fx_MQ D b 0 0 (fx_qi (fun r N9 V9 => N = N9 ∧ V = V9))) 0 [some (.int n0)] [] N V 0 0
  refine aw_iload_n dX12_orNone_0 rfl ?_
  refine aw_iconst (v := (-1)) dX12_orNone_1 (by decide) ?_
  refine aw_icmp_ne (tgt := 10) dX12_orNone_2 (by decide) (fun c_1 => ?_) (fun c_1 => ?_)
  · skip
    refine aw_iload_n dX12_orNone_10 rfl ?_
    refine aw_ireti dX12_orNone_11 rfl (Nat.le_of_ble_eq_true rfl) (Nat.le_of_ble_eq_true rfl) ?_
    exact ⟨rfl, rfl⟩
  · skip
    refine aw_bipush (v := (-2)) dX12_orNone_5 (by decide) ?_
    refine aw_goto (tgt := 11) dX12_orNone_7 (by decide) ?_
    refine aw_ireti dX12_orNone_11 rfl (Nat.le_of_ble_eq_true rfl) (Nat.le_of_ble_eq_true rfl) ?_
    exact ⟨rfl, rfl⟩

set_option maxHeartbeats 4000000 in
set_option maxRecDepth 100000 in
theorem r_dreadSum (l : Launch) (D : va_G) (b : Nat) (N : Nat) (V : Wd) (hN : 133 ≤ N) (cl : Nat) (hW : CR D b cl V) (n0 : Int32) (hn0 : ∃ j : Nat, j < 12 ∧ n0 = nI j)  : MI l D b 1 jX12_dreadSum [.ref (b + 100), .int n0] N V 0 0 (fun r N9 V9 => N = N9 ∧ V = V9) := by
  have hJ0 : JR D b N cl [] V V := JR.rf hW
  obtain ⟨i0, hi0, rfl⟩ := hn0
  refine mw_of (by decide) (by simp [Value.category]) (Nat.le_of_ble_eq_true rfl) ?_
  show AW l D b jX12_dreadSum (fx_rm 1 0 0) none (fx_MQ D b 0 0 (fx_qi (fun r N9 V9 => N = N9 ∧ V = V9))) 0 [some (.ref (b + 100)), some (.int (nI i0)), none, none] [] N V 0 0
  refine aw_iconst (v := 0) dX12_dreadSum_0 (by decide) ?_
  refine aw_istore_n (ls' := [some (.ref (b + 100)), some (.int (nI i0)), some (.int 0), none]) dX12_dreadSum_1 (Nat.le_of_ble_eq_true rfl) rfl ?_
  refine aw_iconst (v := 0) dX12_dreadSum_2 (by decide) ?_
  refine aw_istore_n (ls' := [some (.ref (b + 100)), some (.int (nI i0)), some (.int 0), some (.int 0)]) dX12_dreadSum_3 (Nat.le_of_ble_eq_true rfl) rfl ?_
  have loop_4_0 : ∀ (g_4 : Nat), ∀ (j4 : Nat) (v4_2 : Int32), j4 + g_4 = 16 → AW l D b jX12_dreadSum (fx_rm 1 0 0) none (fx_MQ D b 0 0 (fx_qi (fun r N9 V9 => N = N9 ∧ V = V9))) 4 [some (.ref (b + 100)), some (.int (nI i0)), some (.int v4_2), some (.int (nI j4))] [] N V 0 0 := by
    intro g_4
    induction g_4 with
    | zero =>
      intro j4 v4_2 hj4
      obtain rfl : j4 = 16 := by omega
      refine aw_iload_n dX12_dreadSum_4 rfl ?_
      refine aw_bipush (v := 16) dX12_dreadSum_5 (by decide) ?_
      refine aw_icmp_ge (tgt := 25) dX12_dreadSum_7 (by decide) (fun c_3 => ?_) (fun c_3 => ?_)
      rotate_left
      · exact absurd (nI_le (a := 16) (b := 16) (Nat.le_refl _) (by omega)) c_3
      refine aw_iload_n dX12_dreadSum_25 rfl ?_
      refine aw_ireti dX12_dreadSum_26 rfl (Nat.le_of_ble_eq_true rfl) (Nat.le_of_ble_eq_true rfl) ?_
      exact ⟨rfl, rfl⟩
    | succ g_4 ih_4_1 =>
      intro j4 v4_2 hj4
      have hlj4 : j4 < 16 := by omega
      refine aw_iload_n dX12_dreadSum_4 rfl ?_
      refine aw_bipush (v := 16) dX12_dreadSum_5 (by decide) ?_
      refine aw_icmp_ge (tgt := 25) dX12_dreadSum_7 (by decide) (fun c_4 => ?_) (fun c_4 => ?_)
      · exact absurd c_4 (nI_ge (a := j4) (b := 16) (by omega) (by omega))
      refine aw_iload_n dX12_dreadSum_10 rfl ?_
      refine aw_aload_n dX12_dreadSum_11 rfl ?_
      refine aw_iload_n dX12_dreadSum_12 rfl ?_
      refine aw_iload_n dX12_dreadSum_13 rfl ?_
      obtain ⟨ftoldPeople_6, ftoldDoors_6, fwasDoors_6, ffault_6, fopen_6, flines_6, fmeantSet_6, fopenedNow_6, fvainNow_6, flowNow_6, fhighNow_6, fisKept_6, tad_6, pl0_6, le0_6, nu0_6, coy_6, wag_6, say_6, e_6, hntad_6, hnpl0_6, hnle0_6, hnnu0_6, hncoy_6, hnwag_6, hnsay_6⟩ := JR.get hJ0 cm_100
      refine aw_callVi (J' := jX12_dread) (As := [.int (nI i0), .int (nI j4)]) (st := [.int v4_2]) dX12_dreadSum_14 tb_1392 ok_X12_dread ⟨_, e_6⟩ (by omega) rfl rfl (r_dread l D b N V hN cl hJ0.1 (nI i0) ⟨i0, by omega, rfl⟩ (nI j4) ⟨j4, by omega, rfl⟩) rfl (Nat.le_of_ble_eq_true rfl) ⟨Nat.le_of_ble_eq_true rfl, Nat.le_of_ble_eq_true rfl, Nat.le_of_ble_eq_true rfl, Nat.le_of_ble_eq_true rfl⟩ (fun r_7 N_8 V_9 q_10 => ?_)
      obtain ⟨rfl, rfl⟩ := q_10
      refine aw_iadd dX12_dreadSum_17 ?_
      refine aw_istore_n (ls' := [some (.ref (b + 100)), some (.int (nI i0)), some (.int (v4_2 + r_7)), some (.int (nI j4))]) dX12_dreadSum_18 (Nat.le_of_ble_eq_true rfl) rfl ?_
      refine aw_iinc (v := (nI (j4 + 1))) (ls' := [some (.ref (b + 100)), some (.int (nI i0)), some (.int (v4_2 + r_7)), some (.int (nI (j4 + 1)))]) dX12_dreadSum_19 rfl (fx_up_1 _) (Nat.le_of_ble_eq_true rfl) rfl ?_
      refine aw_goto (tgt := 4) dX12_dreadSum_22 (by decide) ?_
      refine aw_le ?_ (ih_4_1 (j4 + 1) (v4_2 + r_7)  (by omega))
      exact ⟨rfl, ⟨rfl, ⟨rfl, ⟨rfl, trivial⟩⟩⟩⟩
  refine aw_le ?_ (loop_4_0 16 0 0  (by omega))
  exact ⟨rfl, ⟨rfl, ⟨rfl, ⟨rfl, trivial⟩⟩⟩⟩
