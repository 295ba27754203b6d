
def inr (v lo hi : Int32) : Int32 := if v < lo then 0 else if hi < v then 0 else 1
theorem inr_cases (v lo hi : Int32) : (v < lo ∧ inr v lo hi = 0) ∨ (¬ v < lo ∧ hi < v ∧ ¬ v ≤ hi ∧ inr v lo hi = 0) ∨ (¬ v < lo ∧ ¬ hi < v ∧ v ≤ hi ∧ inr v lo hi = 1) := by
  by_cases h1 : v < lo
  · exact Or.inl ⟨h1, by rw [inr, if_pos h1]⟩
  · by_cases h2 : hi < v
    · exact Or.inr (Or.inl ⟨h1, h2, Int32.not_le.mpr h2, by rw [inr, if_neg h1, if_pos h2]⟩)
    · exact Or.inr (Or.inr ⟨h1, h2, Int32.not_lt.mp h2, by rw [inr, if_neg h1, if_neg h2]⟩)
theorem fx_andI (a b : Nat) : nI a &&& nI b = nI (a &&& b) := by
  apply Int32.toBitVec_inj.mp
  simp [nI]
theorem fx_andle {s : Nat} (x : Int32) (hs : s < 2 ^ 31) : ∃ j : Nat, j ≤ s ∧ nI s &&& x = nI j := by
  have e : x = nI x.toBitVec.toNat := by
    apply Int32.toBitVec_inj.mp
    simp [nI]
  refine ⟨s &&& x.toBitVec.toNat, Nat.and_le_left, ?_⟩
  rw [e, fx_andI, ← e]
theorem fx_bit01 (x : Int32) : x &&& 1 = 0 ∨ x &&& 1 = 1 := by
  have e : x = nI x.toBitVec.toNat := by
    apply Int32.toBitVec_inj.mp
    simp [nI]
  have h : x &&& 1 = nI (x.toBitVec.toNat &&& 1) := by
    rw [← fx_andI, ← e]; rfl
  rw [h, Nat.and_one_is_mod]
  rcases Nat.mod_two_eq_zero_or_one x.toBitVec.toNat with q | q
  · left; rw [q]; rfl
  · right; rw [q]; rfl
theorem fx_sm : ∀ k : Nat, k < 12 → ((nI k &&& 31).toBitVec.smod 32).toNat = k := by decide +kernel
theorem fx_low {s : Nat} (h0 : s ≠ 0) (h : s < 4096) : ∃ k : Nat, k < 12 ∧ ¬ ((nI s >>> (nI k &&& 31)) &&& 1) = 0 := by
  obtain ⟨k, hk⟩ := Nat.exists_testBit_of_ne_zero h0
  have hk12 : k < 12 := by
    rcases Nat.lt_or_ge k 12 with q | q
    · exact q
    · rw [Nat.testBit_lt_two_pow (Nat.lt_of_lt_of_le h (Nat.pow_le_pow_right (by decide) q : 2 ^ 12 ≤ 2 ^ k))] at hk
      exact absurd hk (by decide)
  refine ⟨k, hk12, ?_⟩
  rw [pk_shrN (by omega) _ k (fx_sm k hk12), show (1 : Int32) = nI 1 from rfl, fx_andI, Nat.and_one_is_mod]
  rw [Nat.testBit_eq_decide_div_mod_eq] at hk
  rw [of_decide_eq_true hk]
  decide
theorem fx_0le (m : Nat) (h : m < 2 ^ 31) : (0 : Int32) ≤ nI m := nI_le (a := 0) (b := m) (Nat.zero_le _) h
theorem fx_n0g {n lo : Int32} (hl : 0 < lo) (h : ¬ n < lo) : ¬ n ≤ 0 := fun h2 => h (Int32.lt_of_le_of_lt h2 hl)
theorem fx_2n {n : Int32} (h1 : ¬ n < 1) (h2 : n ≤ 12) : ¬ 2 * n ≤ 0 := by
  rcases pk_ix n (n := 13) (by decide) with h | h | ⟨j, h, rfl⟩
  · exact absurd (Int32.lt_trans h (show (0 : Int32) < 1 by decide)) h1
  · exact absurd (Int32.le_trans h h2) (by decide)
  · exact (show ∀ j : Nat, j < 13 → ¬ nI j < 1 → ¬ 2 * nI j ≤ 0 by decide) j h h1
theorem fx_is01 {x : Int32} (h1 : ¬ x < 0) (h2 : x ≤ 1) : x = 0 ∨ x = 1 := by
  by_cases h3 : x = 0
  · exact Or.inl h3
  · by_cases h4 : x = 1
    · exact Or.inr h4
    · exact (fx_01 h1 h2 h3 h4).elim
theorem fx_lt15 {f : Int32} : 15 < f ↔ 16 ≤ f := by
  rw [Int32.lt_iff_toInt_lt, Int32.le_iff_toInt_le, show (15 : Int32).toInt = 15 by decide, show (16 : Int32).toInt = 16 by decide]; omega
theorem fx_lt11 {f : Int32} : 11 < f ↔ 12 ≤ f := by
  rw [Int32.lt_iff_toInt_lt, Int32.le_iff_toInt_le, show (11 : Int32).toInt = 11 by decide, show (12 : Int32).toInt = 12 by decide]; omega
theorem fx_10 : ¬ (1 : Int32) = 0 := by decide
theorem wsum_end {F : Int32} {g : Nat → Int64} {w j : Nat} (h : j = 16 ∨ w ≤ j) (hj : j ≤ 16) : wsum F g w j = wsum F g w 16 := by
  rcases h with h | h
  · rw [h]
  · rw [wsum_past j h, wsum_past 16 (by omega)]
/-- the fresh reference: its cells from 100 to 132 -/
def M0 (D : va_G) (b : Nat) (V : Wd) : Prop := (V 100 = cO 11 [.ref (b + 101), .ref (b + 102), .ref (b + 103), .ref (b + 104), .ref (b + 105), .ref (b + 106), .ref (b + 107), .ref (b + 108), .ref (b + 109), .int 0, .int 0, .int 0, .ref (b + 110), .int 0, .int 0, .int 0, .int 0, .int 0, .int 0, .int 0, .int 0, .int 0, .int 0, .ref (b + 111), .ref (b + 112), .ref (b + 113), .ref (b + 114), .ref (b + 115), .ref (b + 116), .ref (b + 117), .ref (b + 118), .ref (b + 119), .ref (b + 120), .ref (b + 121), .ref (b + 122), .ref (b + 123), .int 0, .int 0, .int 0, .int 0, .ref (b + 124), .ref (b + 125), .ref (b + 126), .ref (b + 127), .ref (b + 128), .int 0, .int 0, .ref (b + 129), .ref (b + 130), .ref (b + 131), .ref (b + 132), .int 0]) ∧ (V 101 = cI D 210 (upd (fun _ => 0) ((209 : Int32).toNatClampNeg) 1)) ∧ (V 102 = cI D 210 (fun _ => 0)) ∧ (V 103 = cI D 210 (fun _ => 0)) ∧ (V 104 = cI D 12 (fun _ => 0)) ∧ (V 110 = cB D 260 (fun _ => 0)) ∧ (V 124 = cI D 12 (fun _ => 0)) ∧ (V 126 = cZ D 4096 (fun _ => 0)) ∧ (V 127 = cI D 4096 (fun _ => 0)) ∧ (V 128 = cI D 16 (fun _ => 0)) ∧ (V 130 = cJ D 129 (fun _ => 0)) ∧ (V 131 = cJ D 129 (fun _ => 0))
theorem M0.frame {D : va_G} {b : Nat} {V V9 : Wd} (h : M0 D b V) (f : ∀ i, 100 ≤ i → V9 i = V i) : M0 D b V9 := by
  obtain ⟨k100, k101, k102, k103, k104, k110, k124, k126, k127, k128, k130, k131⟩ := h
  exact ⟨(f _ (by omega)).trans k100, (f _ (by omega)).trans k101, (f _ (by omega)).trans k102, (f _ (by omega)).trans k103, (f _ (by omega)).trans k104, (f _ (by omega)).trans k110, (f _ (by omega)).trans k124, (f _ (by omega)).trans k126, (f _ (by omega)).trans k127, (f _ (by omega)).trans k128, (f _ (by omega)).trans k130, (f _ (by omega)).trans k131⟩
set_option maxHeartbeats 4000000 in
set_option maxRecDepth 100000 in
theorem k_in (l : Launch) (D : va_G) (b : Nat) (N : Nat) (V : Wd) (v lo hi : Int32) : MI l D b 0 jX12_in [.int v, .int lo, .int hi] N V 0 0 (fun r N9 V9 => r = inr v lo hi ∧ N = N9 ∧ V = V9) := by
  refine mw_of (by decide) (by simp [Value.category]) (Nat.le_of_ble_eq_true rfl) ?_
  show AW l D b jX12_in (fx_rm 0 0 0) none (fx_MQ D b 0 0 (fx_qi (fun r N9 V9 => r = inr v lo hi ∧ N = N9 ∧ V = V9))) 0 [some (.int v), some (.int lo), some (.int hi)] [] N V 0 0
  refine aw_iload_n dX12_in_0 rfl ?_
  refine aw_iload_n dX12_in_1 rfl ?_
  refine aw_icmp_lt (tgt := 14) dX12_in_2 (by decide) (fun c_1 => ?_) (fun c_1 => ?_)
  · skip
    refine aw_iconst (v := 0) dX12_in_14 (by decide) ?_
    refine aw_zreti dX12_in_15 rfl (Or.inl rfl) (Nat.le_of_ble_eq_true rfl) (Nat.le_of_ble_eq_true rfl) ?_
    exact ⟨by simp only [inr, c_1, reduceIte], rfl, rfl⟩
  · skip
    refine aw_iload_n dX12_in_5 rfl ?_
    refine aw_iload_n dX12_in_6 rfl ?_
    refine aw_icmp_gt (tgt := 14) dX12_in_7 (by decide) (fun c_2 => ?_) (fun c_2 => ?_)
    · skip
      refine aw_iconst (v := 0) dX12_in_14 (by decide) ?_
      refine aw_zreti dX12_in_15 rfl (Or.inl rfl) (Nat.le_of_ble_eq_true rfl) (Nat.le_of_ble_eq_true rfl) ?_
      exact ⟨by simp only [inr, c_1, c_2, reduceIte], rfl, rfl⟩
    · skip
      refine aw_iconst (v := 1) dX12_in_10 (by decide) ?_
      refine aw_goto (tgt := 15) dX12_in_11 (by decide) ?_
      refine aw_zreti dX12_in_15 rfl (Or.inr rfl) (Nat.le_of_ble_eq_true rfl) (Nat.le_of_ble_eq_true rfl) ?_
      exact ⟨by simp only [inr, c_1, c_2, reduceIte], rfl, rfl⟩

set_option maxHeartbeats 4000000 in
set_option maxRecDepth 100000 in
theorem k_has0 (l : Launch) (D : va_G) (b : Nat) (N : Nat) (V : Wd) (p : Int32) : MI l D b 0 jX12_has [.int 0, .int p] N V 0 0 (fun r N9 V9 => r = 0 ∧ N = N9 ∧ V = V9) := by
  refine mw_of (by decide) (by simp [Value.category]) (Nat.le_of_ble_eq_true rfl) ?_
  show AW l D b jX12_has (fx_rm 0 0 0) none (fx_MQ D b 0 0 (fx_qi (fun r N9 V9 => r = 0 ∧ N = N9 ∧ V = V9))) 0 [some (.int 0), some (.int p)] [] N V 0 0
  refine aw_iload_n dX12_has_0 rfl ?_
  refine aw_iload_n dX12_has_1 rfl ?_
  refine aw_ishr dX12_has_2 ?_
  refine aw_iconst (v := 1) dX12_has_3 (by decide) ?_
  refine aw_iand dX12_has_4 ?_
  refine aw_iconst (v := 1) dX12_has_5 (by decide) ?_
  refine aw_icmp_ne (tgt := 13) dX12_has_6 (by decide) (fun c_1 => ?_) (fun c_1 => ?_)
  rotate_left
  · exact absurd (c_1.symm.trans (fx_sh0 p)) (by decide)
  refine aw_iconst (v := 0) dX12_has_13 (by decide) ?_
  refine aw_zreti dX12_has_14 rfl (Or.inl rfl) (Nat.le_of_ble_eq_true rfl) (Nat.le_of_ble_eq_true rfl) ?_
  exact ⟨rfl, rfl, rfl⟩

set_option maxHeartbeats 4000000 in
set_option maxRecDepth 100000 in
theorem k_hasF (l : Launch) (D : va_G) (b : Nat) (N : Nat) (V : Wd) (x p : Int32) : MI l D b 0 jX12_has [.int x, .int p] N V 0 0 (fun r N9 V9 => r = (if ((x >>> (p &&& 31)) &&& 1) = 0 then (0 : Int32) else 1) ∧ N = N9 ∧ V = V9) := by
  refine mw_of (by decide) (by simp [Value.category]) (Nat.le_of_ble_eq_true rfl) ?_
  show AW l D b jX12_has (fx_rm 0 0 0) none (fx_MQ D b 0 0 (fx_qi (fun r N9 V9 => r = (if ((x >>> (p &&& 31)) &&& 1) = 0 then (0 : Int32) else 1) ∧ N = N9 ∧ V = V9))) 0 [some (.int x), some (.int p)] [] N V 0 0
  refine aw_iload_n dX12_has_0 rfl ?_
  refine aw_iload_n dX12_has_1 rfl ?_
  refine aw_ishr dX12_has_2 ?_
  refine aw_iconst (v := 1) dX12_has_3 (by decide) ?_
  refine aw_iand dX12_has_4 ?_
  refine aw_iconst (v := 1) dX12_has_5 (by decide) ?_
  refine aw_icmp_ne (tgt := 13) dX12_has_6 (by decide) (fun c_1 => ?_) (fun c_1 => ?_)
  · skip
    refine aw_iconst (v := 0) dX12_has_13 (by decide) ?_
    refine aw_zreti dX12_has_14 rfl (Or.inl rfl) (Nat.le_of_ble_eq_true rfl) (Nat.le_of_ble_eq_true rfl) ?_
    exact ⟨(if_pos ((fx_bit01 _).resolve_right c_1)).symm, rfl, rfl⟩
  · skip
    refine aw_iconst (v := 1) dX12_has_9 (by decide) ?_
    refine aw_goto (tgt := 14) dX12_has_10 (by decide) ?_
    refine aw_zreti dX12_has_14 rfl (Or.inr rfl) (Nat.le_of_ble_eq_true rfl) (Nat.le_of_ble_eq_true rfl) ?_
    exact ⟨(if_neg (by rw [c_1]; decide)).symm, rfl, rfl⟩

set_option maxHeartbeats 4000000 in
set_option maxRecDepth 100000 in
theorem k_bits (l : Launch) (D : va_G) (b : Nat) (N : Nat) (V : Wd) (x : Int32) : MI l D b 0 jX12_bits [.int x] N V 0 0 (fun r N9 V9 => ((x = 0 → r = 0) ∧ 0 ≤ r) ∧ N = N9 ∧ V = V9) := by
  refine mw_of (by decide) (by simp [Value.category]) (Nat.le_of_ble_eq_true rfl) ?_
  show AW l D b jX12_bits (fx_rm 0 0 0) none (fx_MQ D b 0 0 (fx_qi (fun r N9 V9 => ((x = 0 → r = 0) ∧ 0 ≤ r) ∧ N = N9 ∧ V = V9))) 0 [some (.int x), none, none] [] N V 0 0
  refine aw_iconst (v := 0) dX12_bits_0 (by decide) ?_
  refine aw_istore_n (ls' := [some (.int x), some (.int 0), none]) dX12_bits_1 (Nat.le_of_ble_eq_true rfl) rfl ?_
  refine aw_iconst (v := 0) dX12_bits_2 (by decide) ?_
  refine aw_istore_n (ls' := [some (.int x), some (.int 0), some (.int 0)]) dX12_bits_3 (Nat.le_of_ble_eq_true rfl) rfl ?_
  have loop_4_0 : ∀ (g_4 : Nat), ∀ (j4 : Nat) (a : Int32), j4 + g_4 = 16 → (x = 0 → a = 0) → (∃ m : Nat, m ≤ j4 ∧ a = nI m) → AW l D b jX12_bits (fx_rm 0 0 0) none (fx_MQ D b 0 0 (fx_qi (fun r N9 V9 => ((x = 0 → r = 0) ∧ 0 ≤ r) ∧ N = N9 ∧ V = V9))) 4 [some (.int x), some (.int a), some (.int (nI j4))] [] N V 0 0 := by
    intro g_4
    induction g_4 with
    | zero =>
      intro j4 a hj4 i4_0 i4_1
      obtain rfl : j4 = 16 := by omega
      refine aw_iload_n dX12_bits_4 rfl ?_
      refine aw_bipush (v := 16) dX12_bits_5 (by decide) ?_
      refine aw_icmp_ge (tgt := 24) dX12_bits_7 (by decide) (fun c_3 => ?_) (fun c_3 => ?_)
      rotate_left
      · exact absurd (nI_le (a := 16) (b := 16) (Nat.le_refl _) (by omega)) c_3
      refine aw_iload_n dX12_bits_24 rfl ?_
      refine aw_ireti dX12_bits_25 rfl (Nat.le_of_ble_eq_true rfl) (Nat.le_of_ble_eq_true rfl) ?_
      exact ⟨⟨i4_0, by obtain ⟨m, hm, e⟩ := i4_1; rw [e]; exact fx_0le m (by omega)⟩, rfl, rfl⟩
    | succ g_4 ih_4_1 =>
      intro j4 a hj4 i4_0 i4_1
      have hlj4 : j4 < 16 := by omega
      refine aw_iload_n dX12_bits_4 rfl ?_
      refine aw_bipush (v := 16) dX12_bits_5 (by decide) ?_
      refine aw_icmp_ge (tgt := 24) dX12_bits_7 (by decide) (fun c_4 => ?_) (fun c_4 => ?_)
      · exact absurd c_4 (nI_ge (a := j4) (b := 16) (by omega) (by omega))
      refine aw_iload_n dX12_bits_10 rfl ?_
      refine aw_iload_n dX12_bits_11 rfl ?_
      refine aw_iload_n dX12_bits_12 rfl ?_
      refine aw_ishr dX12_bits_13 ?_
      refine aw_iconst (v := 1) dX12_bits_14 (by decide) ?_
      refine aw_iand dX12_bits_15 ?_
      refine aw_iadd dX12_bits_16 ?_
      refine aw_istore_n (ls' := [some (.int x), some (.int (a + ((x >>> ((nI j4) &&& 31)) &&& 1))), some (.int (nI j4))]) dX12_bits_17 (Nat.le_of_ble_eq_true rfl) rfl ?_
      refine aw_iinc (v := (nI (j4 + 1))) (ls' := [some (.int x), some (.int (a + ((x >>> ((nI j4) &&& 31)) &&& 1))), some (.int (nI (j4 + 1)))]) dX12_bits_18 rfl (fx_up_1 _) (Nat.le_of_ble_eq_true rfl) rfl ?_
      refine aw_goto (tgt := 4) dX12_bits_21 (by decide) ?_
      refine aw_le ?_ (ih_4_1 (j4 + 1) (a + ((x >>> ((nI j4) &&& 31)) &&& 1))  (by omega) (fun h => by rw [i4_0 h, h, fx_sh0]; decide) (by obtain ⟨m, hm, e⟩ := i4_1; rcases fx_bit01 (x >>> (nI j4 &&& 31)) with q | q; exact ⟨m, by omega, by rw [q, e]; exact Int32.add_zero _⟩; exact ⟨m + 1, by omega, by rw [q, e]; exact nI_1 _⟩))
      exact ⟨rfl, ⟨rfl, ⟨rfl, trivial⟩⟩⟩
  refine aw_le ?_ (loop_4_0 16 0 0  (by omega) (fun _ => rfl) (⟨0, Nat.zero_le _, rfl⟩))
  exact ⟨rfl, ⟨rfl, ⟨rfl, trivial⟩⟩⟩

set_option maxHeartbeats 4000000 in
set_option maxRecDepth 100000 in
theorem k_isTold (l : Launch) (D : va_G) (b : Nat) (N : Nat) (V : Wd) (hN : 133 ≤ N) (k100 : V 100 = cO 11 [.ref (b + 101), .ref (b + 102), .ref (b + 103), .ref (b + 104), .ref (b + 105), .ref (b + 106), .ref (b + 107), .ref (b + 108), .ref (b + 109), .int 0, .int 0, .int 0, .ref (b + 110), .int 0, .int 0, .int 0, .int 0, .int 0, .int 0, .int 0, .int 0, .int 0, .int 0, .ref (b + 111), .ref (b + 112), .ref (b + 113), .ref (b + 114), .ref (b + 115), .ref (b + 116), .ref (b + 117), .ref (b + 118), .ref (b + 119), .ref (b + 120), .ref (b + 121), .ref (b + 122), .ref (b + 123), .int 0, .int 0, .int 0, .int 0, .ref (b + 124), .ref (b + 125), .ref (b + 126), .ref (b + 127), .ref (b + 128), .int 0, .int 0, .ref (b + 129), .ref (b + 130), .ref (b + 131), .ref (b + 132), .int 0]) (p : Int32) : MI l D b 1 jX12_isTold [.ref (b + 100), .int p] N V 0 0 (fun r N9 V9 => r = 0 ∧ N = N9 ∧ V = V9) := by
  refine mw_of (by decide) (by simp [Value.category]) (Nat.le_of_ble_eq_true rfl) ?_
  show AW l D b jX12_isTold (fx_rm 1 0 0) none (fx_MQ D b 0 0 (fx_qi (fun r N9 V9 => r = 0 ∧ N = N9 ∧ V = V9))) 0 [some (.ref (b + 100)), some (.int p)] [] N V 0 0
  refine aw_iload_n dX12_isTold_0 rfl ?_
  refine aw_iconst (v := 0) dX12_isTold_1 (by decide) ?_
  refine aw_bipush (v := 11) dX12_isTold_2 (by decide) ?_
  refine aw_callSi (J' := jX12_in) (As := [.int p, .int 0, .int 11]) (st := []) dX12_isTold_4 tb_1209 ok_X12_in rfl (k_in l D b N V p 0 11) rfl (Nat.le_of_ble_eq_true rfl) ⟨Nat.le_of_ble_eq_true rfl, Nat.le_of_ble_eq_true rfl, Nat.le_of_ble_eq_true rfl, Nat.le_of_ble_eq_true rfl⟩ (fun r_1 N_2 V_3 q_4 => ?_)
  obtain ⟨rfl, rfl, rfl⟩ := q_4
  rcases inr_cases p 0 11 with ⟨g_5, e_6⟩ | ⟨g_7, g_8, g_9, e_10⟩ | ⟨g_11, g_12, g_13, e_14⟩
  · skip
    refine aw_eqi (y := 0) e_6 ?_
    refine aw_if_eq (tgt := 25) dX12_isTold_7 (by decide) (fun c_15 => ?_) (fun c_15 => ?_)
    rotate_left
    · exact absurd (by decide) c_15
    refine aw_iconst (v := 0) dX12_isTold_25 (by decide) ?_
    refine aw_zreti dX12_isTold_26 rfl (Or.inl rfl) (Nat.le_of_ble_eq_true rfl) (Nat.le_of_ble_eq_true rfl) ?_
    exact ⟨rfl, rfl, rfl⟩
  · skip
    refine aw_eqi (y := 0) e_10 ?_
    have gx_16 := fx_lt11.mp g_8
    refine aw_if_eq (tgt := 25) dX12_isTold_7 (by decide) (fun c_17 => ?_) (fun c_17 => ?_)
    rotate_left
    · exact absurd (by decide) c_17
    refine aw_iconst (v := 0) dX12_isTold_25 (by decide) ?_
    refine aw_zreti dX12_isTold_26 rfl (Or.inl rfl) (Nat.le_of_ble_eq_true rfl) (Nat.le_of_ble_eq_true rfl) ?_
    exact ⟨rfl, rfl, rfl⟩
  · skip
    refine aw_eqi (y := 1) e_14 ?_
    have gx_18 : ¬ 12 ≤ p := fun z => g_12 (fx_lt11.mpr z)
    refine aw_if_eq (tgt := 25) dX12_isTold_7 (by decide) (fun c_19 => ?_) (fun c_19 => ?_)
    · exact absurd c_19 (by decide)
    refine aw_aload_n dX12_isTold_10 rfl ?_
    refine aw_get dX12_isTold_11 fl_X12_121 k100 (by omega) rfl ?_
    refine aw_iload_n dX12_isTold_14 rfl ?_
    refine aw_callSi (J' := jX12_has) (As := [.int 0, .int p]) (st := []) dX12_isTold_15 tb_1315 ok_X12_has rfl (k_has0 l D b N V p) rfl (Nat.le_of_ble_eq_true rfl) ⟨Nat.le_of_ble_eq_true rfl, Nat.le_of_ble_eq_true rfl, Nat.le_of_ble_eq_true rfl, Nat.le_of_ble_eq_true rfl⟩ (fun r_20 N_21 V_22 q_23 => ?_)
    obtain ⟨rfl, rfl, rfl⟩ := q_23
    refine aw_if_eq (tgt := 25) dX12_isTold_18 (by decide) (fun c_24 => ?_) (fun c_24 => ?_)
    rotate_left
    · exact absurd (by decide) c_24
    refine aw_iconst (v := 0) dX12_isTold_25 (by decide) ?_
    refine aw_zreti dX12_isTold_26 rfl (Or.inl rfl) (Nat.le_of_ble_eq_true rfl) (Nat.le_of_ble_eq_true rfl) ?_
    exact ⟨rfl, rfl, rfl⟩

set_option maxHeartbeats 4000000 in
set_option maxRecDepth 100000 in
theorem k_isDoor (l : Launch) (D : va_G) (b : Nat) (N : Nat) (V : Wd) (hN : 133 ≤ N) (k100 : V 100 = cO 11 [.ref (b + 101), .ref (b + 102), .ref (b + 103), .ref (b + 104), .ref (b + 105), .ref (b + 106), .ref (b + 107), .ref (b + 108), .ref (b + 109), .int 0, .int 0, .int 0, .ref (b + 110), .int 0, .int 0, .int 0, .int 0, .int 0, .int 0, .int 0, .int 0, .int 0, .int 0, .ref (b + 111), .ref (b + 112), .ref (b + 113), .ref (b + 114), .ref (b + 115), .ref (b + 116), .ref (b + 117), .ref (b + 118), .ref (b + 119), .ref (b + 120), .ref (b + 121), .ref (b + 122), .ref (b + 123), .int 0, .int 0, .int 0, .int 0, .ref (b + 124), .ref (b + 125), .ref (b + 126), .ref (b + 127), .ref (b + 128), .int 0, .int 0, .ref (b + 129), .ref (b + 130), .ref (b + 131), .ref (b + 132), .int 0]) (p : Int32) : MI l D b 1 jX12_isDoor [.ref (b + 100), .int p] N V 0 0 (fun r N9 V9 => r = 0 ∧ N = N9 ∧ V = V9) := by
  refine mw_of (by decide) (by simp [Value.category]) (Nat.le_of_ble_eq_true rfl) ?_
  show AW l D b jX12_isDoor (fx_rm 1 0 0) none (fx_MQ D b 0 0 (fx_qi (fun r N9 V9 => r = 0 ∧ N = N9 ∧ V = V9))) 0 [some (.ref (b + 100)), some (.int p)] [] N V 0 0
  refine aw_iload_n dX12_isDoor_0 rfl ?_
  refine aw_iconst (v := 0) dX12_isDoor_1 (by decide) ?_
  refine aw_bipush (v := 15) dX12_isDoor_2 (by decide) ?_
  refine aw_callSi (J' := jX12_in) (As := [.int p, .int 0, .int 15]) (st := []) dX12_isDoor_4 tb_1209 ok_X12_in rfl (k_in l D b N V p 0 15) rfl (Nat.le_of_ble_eq_true rfl) ⟨Nat.le_of_ble_eq_true rfl, Nat.le_of_ble_eq_true rfl, Nat.le_of_ble_eq_true rfl, Nat.le_of_ble_eq_true rfl⟩ (fun r_1 N_2 V_3 q_4 => ?_)
  obtain ⟨rfl, rfl, rfl⟩ := q_4
  rcases inr_cases p 0 15 with ⟨g_5, e_6⟩ | ⟨g_7, g_8, g_9, e_10⟩ | ⟨g_11, g_12, g_13, e_14⟩
  · skip
    refine aw_eqi (y := 0) e_6 ?_
    refine aw_if_eq (tgt := 25) dX12_isDoor_7 (by decide) (fun c_15 => ?_) (fun c_15 => ?_)
    rotate_left
    · exact absurd (by decide) c_15
    refine aw_iconst (v := 0) dX12_isDoor_25 (by decide) ?_
    refine aw_zreti dX12_isDoor_26 rfl (Or.inl rfl) (Nat.le_of_ble_eq_true rfl) (Nat.le_of_ble_eq_true rfl) ?_
    exact ⟨rfl, rfl, rfl⟩
  · skip
    refine aw_eqi (y := 0) e_10 ?_
    have gx_16 := fx_lt15.mp g_8
    refine aw_if_eq (tgt := 25) dX12_isDoor_7 (by decide) (fun c_17 => ?_) (fun c_17 => ?_)
    rotate_left
    · exact absurd (by decide) c_17
    refine aw_iconst (v := 0) dX12_isDoor_25 (by decide) ?_
    refine aw_zreti dX12_isDoor_26 rfl (Or.inl rfl) (Nat.le_of_ble_eq_true rfl) (Nat.le_of_ble_eq_true rfl) ?_
    exact ⟨rfl, rfl, rfl⟩
  · skip
    refine aw_eqi (y := 1) e_14 ?_
    have gx_18 : ¬ 16 ≤ p := fun z => g_12 (fx_lt15.mpr z)
    refine aw_if_eq (tgt := 25) dX12_isDoor_7 (by decide) (fun c_19 => ?_) (fun c_19 => ?_)
    · exact absurd c_19 (by decide)
    refine aw_aload_n dX12_isDoor_10 rfl ?_
    refine aw_get dX12_isDoor_11 fl_X12_129 k100 (by omega) rfl ?_
    refine aw_iload_n dX12_isDoor_14 rfl ?_
    refine aw_callSi (J' := jX12_has) (As := [.int 0, .int p]) (st := []) dX12_isDoor_15 tb_1315 ok_X12_has rfl (k_has0 l D b N V p) rfl (Nat.le_of_ble_eq_true rfl) ⟨Nat.le_of_ble_eq_true rfl, Nat.le_of_ble_eq_true rfl, Nat.le_of_ble_eq_true rfl, Nat.le_of_ble_eq_true rfl⟩ (fun r_20 N_21 V_22 q_23 => ?_)
    obtain ⟨rfl, rfl, rfl⟩ := q_23
    refine aw_if_eq (tgt := 25) dX12_isDoor_18 (by decide) (fun c_24 => ?_) (fun c_24 => ?_)
    rotate_left
    · exact absurd (by decide) c_24
    refine aw_iconst (v := 0) dX12_isDoor_25 (by decide) ?_
    refine aw_zreti dX12_isDoor_26 rfl (Or.inl rfl) (Nat.le_of_ble_eq_true rfl) (Nat.le_of_ble_eq_true rfl) ?_
    exact ⟨rfl, rfl, rfl⟩

set_option maxHeartbeats 4000000 in
set_option maxRecDepth 100000 in
theorem k_copies (l : Launch) (D : va_G) (b : Nat) (N : Nat) (V : Wd) (f t : Nat) (hf : f < N) (ht : t < N) (hft : f ≠ t) (g g2 : Nat → Int32) (h1 : V f = cI D 210 g) (h2 : V t = cI D 210 g2) : MV l D b 0 jX12_copies [.ref (b + f), .ref (b + t)] N V 0 0 (fun N9 V9 => N = N9 ∧ (∃ g', V9 t = cI D 210 g') ∧ ∀ i, i ≠ t → V9 i = V i) := by
  refine mw_of (by decide) (by simp [Value.category]) (Nat.le_of_ble_eq_true rfl) ?_
  show AW l D b jX12_copies (fx_rm 0 0 0) none (fx_MQ D b 0 0 (fx_qv (fun N9 V9 => N = N9 ∧ (∃ g', V9 t = cI D 210 g') ∧ ∀ i, i ≠ t → V9 i = V i))) 0 [some (.ref (b + f)), some (.ref (b + t)), none] [] N V 0 0
  refine aw_iconst (v := 0) dX12_copies_0 (by decide) ?_
  refine aw_istore_n (ls' := [some (.ref (b + f)), some (.ref (b + t)), some (.int 0)]) dX12_copies_1 (Nat.le_of_ble_eq_true rfl) rfl ?_
  have loop_2_0 : ∀ (g_2 : Nat), ∀ (j2 : Nat)  (V2 : Wd), j2 + g_2 = 210 → (∃ g3 : Nat → Int32, V2 t = cI D 210 g3) → (∀ i, i ≠ t → V2 i = V i) → AW l D b jX12_copies (fx_rm 0 0 0) none (fx_MQ D b 0 0 (fx_qv (fun N9 V9 => N = N9 ∧ (∃ g', V9 t = cI D 210 g') ∧ ∀ i, i ≠ t → V9 i = V i))) 2 [some (.ref (b + f)), some (.ref (b + t)), some (.int (nI j2))] [] N V2 0 0 := by
    intro g_2
    induction g_2 with
    | zero =>
      intro j2  V2 hj2 i2_0 i2_1
      obtain rfl : j2 = 210 := by omega
      obtain ⟨g3, e2⟩ := id i2_0
      refine aw_iload_n dX12_copies_2 rfl ?_
      refine aw_sipush (v := 210) dX12_copies_3 (by decide) ?_
      refine aw_icmp_ge (tgt := 21) dX12_copies_6 (by decide) (fun c_3 => ?_) (fun c_3 => ?_)
      rotate_left
      · exact absurd (nI_le (a := 210) (b := 210) (Nat.le_refl _) (by omega)) c_3
      refine aw_vreti dX12_copies_21 rfl (Nat.le_of_ble_eq_true rfl) (Nat.le_of_ble_eq_true rfl) ?_
      exact ⟨rfl, ⟨_, e2⟩, i2_1⟩
    | succ g_2 ih_2_1 =>
      intro j2  V2 hj2 i2_0 i2_1
      have hlj2 : j2 < 210 := by omega
      obtain ⟨g3, e2⟩ := id i2_0
      refine aw_iload_n dX12_copies_2 rfl ?_
      refine aw_sipush (v := 210) dX12_copies_3 (by decide) ?_
      refine aw_icmp_ge (tgt := 21) dX12_copies_6 (by decide) (fun c_4 => ?_) (fun c_4 => ?_)
      · exact absurd c_4 (nI_ge (a := j2) (b := 210) (by omega) (by omega))
      refine aw_aload_n dX12_copies_9 rfl ?_
      refine aw_iload_n dX12_copies_10 rfl ?_
      refine aw_aload_n dX12_copies_11 rfl ?_
      refine aw_iload_n dX12_copies_12 rfl ?_
      refine aw_iald (v := (g j2)) dX12_copies_13 ((i2_1 f hft).trans h1) (by omega) (vp_in_nI (n := j2) (by omega) (by omega)) (congrArg g (nI_clamp (n := j2) (by omega))) ?_
      refine aw_iast dX12_copies_14 e2 (by omega) (vp_in_nI (n := j2) (by omega) (by omega)) ?_
      refine aw_iinc (v := (nI (j2 + 1))) (ls' := [some (.ref (b + f)), some (.ref (b + t)), some (.int (nI (j2 + 1)))]) dX12_copies_15 rfl (fx_up_1 _) (Nat.le_of_ble_eq_true rfl) rfl ?_
      refine aw_goto (tgt := 2) dX12_copies_18 (by decide) ?_
      refine aw_le ?_ (ih_2_1 (j2 + 1)  (va_up V2 t (cI D 210 (upd g3 (Int32.toNatClampNeg (nI j2)) (g j2)))) (by omega) (⟨_, va_up_self _ _ _⟩) (fun i hi => (va_up_ne _ _ hi).trans (i2_1 i hi)))
      exact ⟨rfl, ⟨rfl, ⟨rfl, trivial⟩⟩⟩
  refine aw_le ?_ (loop_2_0 210 0  V (by omega) (⟨_, h2⟩) (fun i _ => rfl))
  exact ⟨rfl, ⟨rfl, ⟨rfl, trivial⟩⟩⟩

set_option maxHeartbeats 4000000 in
set_option maxRecDepth 100000 in
theorem k_types (l : Launch) (D : va_G) (b : Nat) (N : Nat) (V : Wd) (hN : 133 ≤ N) (q : Nat) (hq : q + 4 ≤ 260) (h1 : V 100 = cO 11 [.ref (b + 101), .ref (b + 102), .ref (b + 103), .ref (b + 104), .ref (b + 105), .ref (b + 106), .ref (b + 107), .ref (b + 108), .ref (b + 109), .int 0, .int 0, .int 0, .ref (b + 110), .int (nI q), .int 0, .int 0, .int 0, .int 0, .int 0, .int 0, .int 0, .int 0, .int 0, .ref (b + 111), .ref (b + 112), .ref (b + 113), .ref (b + 114), .ref (b + 115), .ref (b + 116), .ref (b + 117), .ref (b + 118), .ref (b + 119), .ref (b + 120), .ref (b + 121), .ref (b + 122), .ref (b + 123), .int 0, .int 0, .int 0, .int 0, .ref (b + 124), .ref (b + 125), .ref (b + 126), .ref (b + 127), .ref (b + 128), .int 0, .int 0, .ref (b + 129), .ref (b + 130), .ref (b + 131), .ref (b + 132), .int 0]) (g : Nat → Int32) (h2 : V 110 = cB D 260 g) (x : Int32) : MV l D b 0 jX12_types [.ref (b + 100), .int x] N V 0 0 (fun N9 V9 => N = N9 ∧ V9 100 = cO 11 [.ref (b + 101), .ref (b + 102), .ref (b + 103), .ref (b + 104), .ref (b + 105), .ref (b + 106), .ref (b + 107), .ref (b + 108), .ref (b + 109), .int 0, .int 0, .int 0, .ref (b + 110), .int (nI (q + 4)), .int 0, .int 0, .int 0, .int 0, .int 0, .int 0, .int 0, .int 0, .int 0, .ref (b + 111), .ref (b + 112), .ref (b + 113), .ref (b + 114), .ref (b + 115), .ref (b + 116), .ref (b + 117), .ref (b + 118), .ref (b + 119), .ref (b + 120), .ref (b + 121), .ref (b + 122), .ref (b + 123), .int 0, .int 0, .int 0, .int 0, .ref (b + 124), .ref (b + 125), .ref (b + 126), .ref (b + 127), .ref (b + 128), .int 0, .int 0, .ref (b + 129), .ref (b + 130), .ref (b + 131), .ref (b + 132), .int 0] ∧ (∃ g', V9 110 = cB D 260 g') ∧ ∀ i, (i < 100 ∨ 110 < i) → V9 i = V i) := by
  refine mw_of (by decide) (by simp [Value.category]) (Nat.le_of_ble_eq_true rfl) ?_
  show AW l D b jX12_types (fx_rm 0 0 0) none (fx_MQ D b 0 0 (fx_qv (fun N9 V9 => N = N9 ∧ V9 100 = cO 11 [.ref (b + 101), .ref (b + 102), .ref (b + 103), .ref (b + 104), .ref (b + 105), .ref (b + 106), .ref (b + 107), .ref (b + 108), .ref (b + 109), .int 0, .int 0, .int 0, .ref (b + 110), .int (nI (q + 4)), .int 0, .int 0, .int 0, .int 0, .int 0, .int 0, .int 0, .int 0, .int 0, .ref (b + 111), .ref (b + 112), .ref (b + 113), .ref (b + 114), .ref (b + 115), .ref (b + 116), .ref (b + 117), .ref (b + 118), .ref (b + 119), .ref (b + 120), .ref (b + 121), .ref (b + 122), .ref (b + 123), .int 0, .int 0, .int 0, .int 0, .ref (b + 124), .ref (b + 125), .ref (b + 126), .ref (b + 127), .ref (b + 128), .int 0, .int 0, .ref (b + 129), .ref (b + 130), .ref (b + 131), .ref (b + 132), .int 0] ∧ (∃ g', V9 110 = cB D 260 g') ∧ ∀ i, (i < 100 ∨ 110 < i) → V9 i = V i))) 0 [some (.ref (b + 100)), some (.int x), none] [] N V 0 0
  refine aw_iconst (v := 3) dX12_types_0 (by decide) ?_
  refine aw_istore_n (ls' := [some (.ref (b + 100)), some (.int x), some (.int 3)]) dX12_types_1 (Nat.le_of_ble_eq_true rfl) rfl ?_
  refine aw_iload_n dX12_types_2 rfl ?_
  refine aw_if_lt (tgt := 38) dX12_types_3 (by decide) (fun c_1 => ?_) (fun c_1 => ?_)
  · exact absurd c_1 (by decide)
  refine aw_aload_n dX12_types_6 rfl ?_
  refine aw_get dX12_types_7 fl_X12_37 h1 (by omega) rfl ?_
  refine aw_aload_n dX12_types_10 rfl ?_
  refine aw_get dX12_types_11 fl_X12_152 h1 (by omega) rfl ?_
  refine aw_iload_n dX12_types_14 rfl ?_
  refine aw_bipush (v := 8) dX12_types_15 (by decide) ?_
  refine aw_iload_n dX12_types_17 rfl ?_
  refine aw_imul dX12_types_18 ?_
  refine aw_eqi (y := 24) (by decide) ?_
  refine aw_ishr dX12_types_19 ?_
  refine aw_i2b dX12_types_20 rfl ?_
  refine aw_bast dX12_types_21 h2 (by omega) (vp_in_nI (n := q) (by omega) (by omega)) ?_
  refine aw_aload_n dX12_types_22 rfl ?_
  refine aw_aload_n dX12_types_23 rfl ?_
  refine aw_get dX12_types_24 fl_X12_152 ((va_up_ne _ _ (by omega)).trans h1) (by omega) rfl ?_
  refine aw_iconst (v := 1) dX12_types_27 (by decide) ?_
  refine aw_iadd dX12_types_28 ?_
  refine aw_eqi (y := (nI (q + 1))) (nI_1 _) ?_
  refine aw_put dX12_types_29 fp_X12_152 ((va_up_ne _ _ (by omega)).trans h1) (by omega) rfl rfl (Nat.le_of_ble_eq_true rfl) rfl ?_
  refine aw_iinc (v := 2) (ls' := [some (.ref (b + 100)), some (.int x), some (.int 2)]) dX12_types_32 rfl (by decide) (Nat.le_of_ble_eq_true rfl) rfl ?_
  refine aw_goto (tgt := 2) dX12_types_35 (by decide) ?_
  refine aw_iload_n dX12_types_2 rfl ?_
  refine aw_if_lt (tgt := 38) dX12_types_3 (by decide) (fun c_2 => ?_) (fun c_2 => ?_)
  · exact absurd c_2 (by decide)
  refine aw_aload_n dX12_types_6 rfl ?_
  refine aw_get dX12_types_7 fl_X12_37 (va_up_self _ _ _) (by omega) rfl ?_
  refine aw_aload_n dX12_types_10 rfl ?_
  refine aw_get dX12_types_11 fl_X12_152 (va_up_self _ _ _) (by omega) rfl ?_
  refine aw_iload_n dX12_types_14 rfl ?_
  refine aw_bipush (v := 8) dX12_types_15 (by decide) ?_
  refine aw_iload_n dX12_types_17 rfl ?_
  refine aw_imul dX12_types_18 ?_
  refine aw_eqi (y := 16) (by decide) ?_
  refine aw_ishr dX12_types_19 ?_
  refine aw_i2b dX12_types_20 rfl ?_
  refine aw_bast dX12_types_21 ((va_up_ne _ _ (by omega)).trans (va_up_self _ _ _)) (by omega) (vp_in_nI (n := (q + 1)) (by omega) (by omega)) ?_
  refine aw_aload_n dX12_types_22 rfl ?_
  refine aw_aload_n dX12_types_23 rfl ?_
  refine aw_get dX12_types_24 fl_X12_152 ((va_up_ne _ _ (by omega)).trans (va_up_self _ _ _)) (by omega) rfl ?_
  refine aw_iconst (v := 1) dX12_types_27 (by decide) ?_
  refine aw_iadd dX12_types_28 ?_
  refine aw_eqi (y := (nI ((q + 1) + 1))) (nI_1 _) ?_
  refine aw_put dX12_types_29 fp_X12_152 ((va_up_ne _ _ (by omega)).trans (va_up_self _ _ _)) (by omega) rfl rfl (Nat.le_of_ble_eq_true rfl) rfl ?_
  refine aw_iinc (v := 1) (ls' := [some (.ref (b + 100)), some (.int x), some (.int 1)]) dX12_types_32 rfl (by decide) (Nat.le_of_ble_eq_true rfl) rfl ?_
  refine aw_goto (tgt := 2) dX12_types_35 (by decide) ?_
  refine aw_iload_n dX12_types_2 rfl ?_
  refine aw_if_lt (tgt := 38) dX12_types_3 (by decide) (fun c_3 => ?_) (fun c_3 => ?_)
  · exact absurd c_3 (by decide)
  refine aw_aload_n dX12_types_6 rfl ?_
  refine aw_get dX12_types_7 fl_X12_37 (va_up_self _ _ _) (by omega) rfl ?_
  refine aw_aload_n dX12_types_10 rfl ?_
  refine aw_get dX12_types_11 fl_X12_152 (va_up_self _ _ _) (by omega) rfl ?_
  refine aw_iload_n dX12_types_14 rfl ?_
  refine aw_bipush (v := 8) dX12_types_15 (by decide) ?_
  refine aw_iload_n dX12_types_17 rfl ?_
  refine aw_imul dX12_types_18 ?_
  refine aw_eqi (y := 8) (by decide) ?_
  refine aw_ishr dX12_types_19 ?_
  refine aw_i2b dX12_types_20 rfl ?_
  refine aw_bast dX12_types_21 ((va_up_ne _ _ (by omega)).trans (va_up_self _ _ _)) (by omega) (vp_in_nI (n := ((q + 1) + 1)) (by omega) (by omega)) ?_
  refine aw_aload_n dX12_types_22 rfl ?_
  refine aw_aload_n dX12_types_23 rfl ?_
  refine aw_get dX12_types_24 fl_X12_152 ((va_up_ne _ _ (by omega)).trans (va_up_self _ _ _)) (by omega) rfl ?_
  refine aw_iconst (v := 1) dX12_types_27 (by decide) ?_
  refine aw_iadd dX12_types_28 ?_
  refine aw_eqi (y := (nI (((q + 1) + 1) + 1))) (nI_1 _) ?_
  refine aw_put dX12_types_29 fp_X12_152 ((va_up_ne _ _ (by omega)).trans (va_up_self _ _ _)) (by omega) rfl rfl (Nat.le_of_ble_eq_true rfl) rfl ?_
  refine aw_iinc (v := 0) (ls' := [some (.ref (b + 100)), some (.int x), some (.int 0)]) dX12_types_32 rfl (by decide) (Nat.le_of_ble_eq_true rfl) rfl ?_
  refine aw_goto (tgt := 2) dX12_types_35 (by decide) ?_
  refine aw_iload_n dX12_types_2 rfl ?_
  refine aw_if_lt (tgt := 38) dX12_types_3 (by decide) (fun c_4 => ?_) (fun c_4 => ?_)
  · exact absurd c_4 (by decide)
  refine aw_aload_n dX12_types_6 rfl ?_
  refine aw_get dX12_types_7 fl_X12_37 (va_up_self _ _ _) (by omega) rfl ?_
  refine aw_aload_n dX12_types_10 rfl ?_
  refine aw_get dX12_types_11 fl_X12_152 (va_up_self _ _ _) (by omega) rfl ?_
  refine aw_iload_n dX12_types_14 rfl ?_
  refine aw_bipush (v := 8) dX12_types_15 (by decide) ?_
  refine aw_iload_n dX12_types_17 rfl ?_
  refine aw_imul dX12_types_18 ?_
  refine aw_eqi (y := 0) (by decide) ?_
  refine aw_ishr dX12_types_19 ?_
  refine aw_i2b dX12_types_20 rfl ?_
  refine aw_bast dX12_types_21 ((va_up_ne _ _ (by omega)).trans (va_up_self _ _ _)) (by omega) (vp_in_nI (n := (((q + 1) + 1) + 1)) (by omega) (by omega)) ?_
  refine aw_aload_n dX12_types_22 rfl ?_
  refine aw_aload_n dX12_types_23 rfl ?_
  refine aw_get dX12_types_24 fl_X12_152 ((va_up_ne _ _ (by omega)).trans (va_up_self _ _ _)) (by omega) rfl ?_
  refine aw_iconst (v := 1) dX12_types_27 (by decide) ?_
  refine aw_iadd dX12_types_28 ?_
  refine aw_eqi (y := (nI ((((q + 1) + 1) + 1) + 1))) (nI_1 _) ?_
  refine aw_put dX12_types_29 fp_X12_152 ((va_up_ne _ _ (by omega)).trans (va_up_self _ _ _)) (by omega) rfl rfl (Nat.le_of_ble_eq_true rfl) rfl ?_
  refine aw_iinc (v := (-1)) (ls' := [some (.ref (b + 100)), some (.int x), some (.int (-1))]) dX12_types_32 rfl (by decide) (Nat.le_of_ble_eq_true rfl) rfl ?_
  refine aw_goto (tgt := 2) dX12_types_35 (by decide) ?_
  refine aw_iload_n dX12_types_2 rfl ?_
  refine aw_if_lt (tgt := 38) dX12_types_3 (by decide) (fun c_5 => ?_) (fun c_5 => ?_)
  rotate_left
  · exact absurd (by decide) c_5
  refine aw_vreti dX12_types_38 rfl (Nat.le_of_ble_eq_true rfl) (Nat.le_of_ble_eq_true rfl) ?_
  exact ⟨rfl, (va_up_self _ _ _), ⟨_, ((va_up_ne _ _ (by omega)).trans (va_up_self _ _ _))⟩, fun i hi => by simp only [va_up, if_neg (show ¬ i = 100 by omega), if_neg (show ¬ i = 110 by omega)]⟩

set_option maxHeartbeats 4000000 in
set_option maxRecDepth 100000 in
theorem r_feed (l : Launch) (D : va_G) (b : Nat) (N : Nat) (V : Wd) (hN : 133 ≤ N) (hM : M0 D b V) (a : Int32) (e1 : Int32) (e2 : Int32) (e3 : Int32) (e4 : Int32) : MI l D b 1 jX12_feed [.ref (b + 100), .int a, .int e1, .int e2, .int e3, .int e4] N V 0 0 (fun r N9 V9 => r = 20 ∧ N = N9) := by
  obtain ⟨k100, k101, k102, k103, k104, k110, k124, k126, k127, k128, k130, k131⟩ := id hM
  refine mw_of (by decide) (by simp [Value.category]) (Nat.le_of_ble_eq_true rfl) ?_
  show AW l D b jX12_feed (fx_rm 1 0 0) none (fx_MQ D b 0 0 (fx_qi (fun r N9 V9 => r = 20 ∧ N = N9))) 0 [some (.ref (b + 100)), some (.int a), some (.int e1), some (.int e2), some (.int e3), some (.int e4)] [] N V 0 0
  refine aw_aload_n dX12_feed_0 rfl ?_
  refine aw_get dX12_feed_1 fl_X12_152 k100 (by omega) rfl ?_
  refine aw_bipush (v := 20) dX12_feed_4 (by decide) ?_
  refine aw_iadd dX12_feed_6 ?_
  refine aw_eqi (y := 20) (by decide) ?_
  refine aw_sipush (v := 260) dX12_feed_7 (by decide) ?_
  refine aw_icmp_le (tgt := 15) dX12_feed_10 (by decide) (fun c_1 => ?_) (fun c_1 => ?_)
  rotate_left
  · exact absurd (by decide) c_1
  refine aw_aload_n dX12_feed_15 rfl ?_
  refine aw_iload_n dX12_feed_16 rfl ?_
  refine aw_callVv (J' := jX12_types) (As := [.int a]) (st := []) dX12_feed_17 tb_1201 ok_X12_types ⟨_, k100⟩ (by omega) rfl rfl (k_types l D b N V hN 0 (by omega) k100 _ k110 a) rfl (Nat.le_of_ble_eq_true rfl) ⟨Nat.le_of_ble_eq_true rfl, Nat.le_of_ble_eq_true rfl, Nat.le_of_ble_eq_true rfl, Nat.le_of_ble_eq_true rfl⟩ (fun  N_7 V_6 q_8 => ?_)
  obtain ⟨rfl, t_3, ⟨g_2, t_4⟩, t_5⟩ := q_8
  refine aw_aload_n dX12_feed_20 rfl ?_
  refine aw_iload_n dX12_feed_21 rfl ?_
  refine aw_callVv (J' := jX12_types) (As := [.int e1]) (st := []) dX12_feed_22 tb_1201 ok_X12_types ⟨_, t_3⟩ (by omega) rfl rfl (k_types l D b N V_6 hN 4 (by omega) t_3 _ t_4 e1) rfl (Nat.le_of_ble_eq_true rfl) ⟨Nat.le_of_ble_eq_true rfl, Nat.le_of_ble_eq_true rfl, Nat.le_of_ble_eq_true rfl, Nat.le_of_ble_eq_true rfl⟩ (fun  N_14 V_13 q_15 => ?_)
  obtain ⟨rfl, t_10, ⟨g_9, t_11⟩, t_12⟩ := q_15
  refine aw_aload_n dX12_feed_25 rfl ?_
  refine aw_iload_n dX12_feed_26 rfl ?_
  refine aw_callVv (J' := jX12_types) (As := [.int e2]) (st := []) dX12_feed_27 tb_1201 ok_X12_types ⟨_, t_10⟩ (by omega) rfl rfl (k_types l D b N V_13 hN 8 (by omega) t_10 _ t_11 e2) rfl (Nat.le_of_ble_eq_true rfl) ⟨Nat.le_of_ble_eq_true rfl, Nat.le_of_ble_eq_true rfl, Nat.le_of_ble_eq_true rfl, Nat.le_of_ble_eq_true rfl⟩ (fun  N_21 V_20 q_22 => ?_)
  obtain ⟨rfl, t_17, ⟨g_16, t_18⟩, t_19⟩ := q_22
  refine aw_aload_n dX12_feed_30 rfl ?_
  refine aw_iload dX12_feed_31 rfl ?_
  refine aw_callVv (J' := jX12_types) (As := [.int e3]) (st := []) dX12_feed_33 tb_1201 ok_X12_types ⟨_, t_17⟩ (by omega) rfl rfl (k_types l D b N V_20 hN 12 (by omega) t_17 _ t_18 e3) rfl (Nat.le_of_ble_eq_true rfl) ⟨Nat.le_of_ble_eq_true rfl, Nat.le_of_ble_eq_true rfl, Nat.le_of_ble_eq_true rfl, Nat.le_of_ble_eq_true rfl⟩ (fun  N_28 V_27 q_29 => ?_)
  obtain ⟨rfl, t_24, ⟨g_23, t_25⟩, t_26⟩ := q_29
  refine aw_aload_n dX12_feed_36 rfl ?_
  refine aw_iload dX12_feed_37 rfl ?_
  refine aw_callVv (J' := jX12_types) (As := [.int e4]) (st := []) dX12_feed_39 tb_1201 ok_X12_types ⟨_, t_24⟩ (by omega) rfl rfl (k_types l D b N V_27 hN 16 (by omega) t_24 _ t_25 e4) rfl (Nat.le_of_ble_eq_true rfl) ⟨Nat.le_of_ble_eq_true rfl, Nat.le_of_ble_eq_true rfl, Nat.le_of_ble_eq_true rfl, Nat.le_of_ble_eq_true rfl⟩ (fun  N_35 V_34 q_36 => ?_)
  obtain ⟨rfl, t_31, ⟨g_30, t_32⟩, t_33⟩ := q_36
  refine aw_aload_n dX12_feed_42 rfl ?_
  refine aw_get dX12_feed_43 fl_X12_152 t_31 (by omega) rfl ?_
  refine aw_ireti dX12_feed_46 rfl (Nat.le_of_ble_eq_true rfl) (Nat.le_of_ble_eq_true rfl) ?_
  exact ⟨by decide, rfl⟩

set_option maxHeartbeats 4000000 in
set_option maxRecDepth 100000 in
theorem r_law (l : Launch) (D : va_G) (b : Nat) (N : Nat) (V : Wd) (hN : 133 ≤ N) (hM : M0 D b V) (n : Int32) : MI l D b 1 jX12_law [.ref (b + 100), .int n] N V 0 0 (fun r N9 V9 => r = (-1) ∧ N = N9) := by
  obtain ⟨k100, k101, k102, k103, k104, k110, k124, k126, k127, k128, k130, k131⟩ := id hM
  refine mw_of (by decide) (by simp [Value.category]) (Nat.le_of_ble_eq_true rfl) ?_
  show AW l D b jX12_law (fx_rm 1 0 0) none (fx_MQ D b 0 0 (fx_qi (fun r N9 V9 => r = (-1) ∧ N = N9))) 0 [some (.ref (b + 100)), some (.int n), none, none] [] N V 0 0
  refine aw_iload_n dX12_law_0 rfl ?_
  refine aw_iconst (v := 1) dX12_law_1 (by decide) ?_
  refine aw_sipush (v := 240) dX12_law_2 (by decide) ?_
  refine aw_callSi (J' := jX12_in) (As := [.int n, .int 1, .int 240]) (st := []) dX12_law_5 tb_1209 ok_X12_in rfl (k_in l D b N V n 1 240) rfl (Nat.le_of_ble_eq_true rfl) ⟨Nat.le_of_ble_eq_true rfl, Nat.le_of_ble_eq_true rfl, Nat.le_of_ble_eq_true rfl, Nat.le_of_ble_eq_true rfl⟩ (fun r_1 N_2 V_3 q_4 => ?_)
  obtain ⟨rfl, rfl, rfl⟩ := q_4
  rcases inr_cases n 1 240 with ⟨g_5, e_6⟩ | ⟨g_7, g_8, g_9, e_10⟩ | ⟨g_11, g_12, g_13, e_14⟩
  · skip
    refine aw_eqi (y := 0) e_6 ?_
    refine aw_if_eq (tgt := 19) dX12_law_8 (by decide) (fun c_15 => ?_) (fun c_15 => ?_)
    rotate_left
    · exact absurd (by decide) c_15
    refine aw_iconst (v := (-1)) dX12_law_19 (by decide) ?_
    refine aw_ireti dX12_law_20 rfl (Nat.le_of_ble_eq_true rfl) (Nat.le_of_ble_eq_true rfl) ?_
    exact ⟨rfl, rfl⟩
  · skip
    refine aw_eqi (y := 0) e_10 ?_
    refine aw_if_eq (tgt := 19) dX12_law_8 (by decide) (fun c_16 => ?_) (fun c_16 => ?_)
    rotate_left
    · exact absurd (by decide) c_16
    refine aw_iconst (v := (-1)) dX12_law_19 (by decide) ?_
    refine aw_ireti dX12_law_20 rfl (Nat.le_of_ble_eq_true rfl) (Nat.le_of_ble_eq_true rfl) ?_
    exact ⟨rfl, rfl⟩
  · skip
    refine aw_eqi (y := 1) e_14 ?_
    refine aw_if_eq (tgt := 19) dX12_law_8 (by decide) (fun c_17 => ?_) (fun c_17 => ?_)
    · exact absurd c_17 (by decide)
    refine aw_iload_n dX12_law_11 rfl ?_
    refine aw_aload_n dX12_law_12 rfl ?_
    refine aw_get dX12_law_13 fl_X12_152 k100 (by omega) rfl ?_
    refine aw_icmp_le (tgt := 21) dX12_law_16 (by decide) (fun c_18 => ?_) (fun c_18 => ?_)
    · exact absurd c_18 (fx_n0g (lo := 1) (by decide) g_11)
    refine aw_iconst (v := (-1)) dX12_law_19 (by decide) ?_
    refine aw_ireti dX12_law_20 rfl (Nat.le_of_ble_eq_true rfl) (Nat.le_of_ble_eq_true rfl) ?_
    exact ⟨rfl, rfl⟩

set_option maxHeartbeats 4000000 in
set_option maxRecDepth 100000 in
theorem r_dreads (l : Launch) (D : va_G) (b : Nat) (N : Nat) (V : Wd) (hN : 133 ≤ N) (hM : M0 D b V) (p : Int32) (n : Int32) : MI l D b 1 jX12_dreads [.ref (b + 100), .int p, .int n] N V 0 0 (fun r N9 V9 => r = (-1) ∧ N = N9) := by
  obtain ⟨k100, k101, k102, k103, k104, k110, k124, k126, k127, k128, k130, k131⟩ := id hM
  refine mw_of (by decide) (by simp [Value.category]) (Nat.le_of_ble_eq_true rfl) ?_
  show AW l D b jX12_dreads (fx_rm 1 0 0) none (fx_MQ D b 0 0 (fx_qi (fun r N9 V9 => r = (-1) ∧ N = N9))) 0 [some (.ref (b + 100)), some (.int p), some (.int n), none] [] N V 0 0
  refine aw_iload_n dX12_dreads_0 rfl ?_
  refine aw_iconst (v := 0) dX12_dreads_1 (by decide) ?_
  refine aw_bipush (v := 11) dX12_dreads_2 (by decide) ?_
  refine aw_callSi (J' := jX12_in) (As := [.int p, .int 0, .int 11]) (st := []) dX12_dreads_4 tb_1209 ok_X12_in rfl (k_in l D b N V p 0 11) rfl (Nat.le_of_ble_eq_true rfl) ⟨Nat.le_of_ble_eq_true rfl, Nat.le_of_ble_eq_true rfl, Nat.le_of_ble_eq_true rfl, Nat.le_of_ble_eq_true rfl⟩ (fun r_1 N_2 V_3 q_4 => ?_)
  obtain ⟨rfl, rfl, rfl⟩ := q_4
  rcases inr_cases p 0 11 with ⟨g_5, e_6⟩ | ⟨g_7, g_8, g_9, e_10⟩ | ⟨g_11, g_12, g_13, e_14⟩
  · skip
    refine aw_eqi (y := 0) e_6 ?_
    refine aw_if_eq (tgt := 28) dX12_dreads_7 (by decide) (fun c_15 => ?_) (fun c_15 => ?_)
    rotate_left
    · exact absurd (by decide) c_15
    refine aw_iconst (v := (-1)) dX12_dreads_28 (by decide) ?_
    refine aw_ireti dX12_dreads_29 rfl (Nat.le_of_ble_eq_true rfl) (Nat.le_of_ble_eq_true rfl) ?_
    exact ⟨rfl, rfl⟩
  · skip
    refine aw_eqi (y := 0) e_10 ?_
    have gx_16 := fx_lt11.mp g_8
    refine aw_if_eq (tgt := 28) dX12_dreads_7 (by decide) (fun c_17 => ?_) (fun c_17 => ?_)
    rotate_left
    · exact absurd (by decide) c_17
    refine aw_iconst (v := (-1)) dX12_dreads_28 (by decide) ?_
    refine aw_ireti dX12_dreads_29 rfl (Nat.le_of_ble_eq_true rfl) (Nat.le_of_ble_eq_true rfl) ?_
    exact ⟨rfl, rfl⟩
  · skip
    refine aw_eqi (y := 1) e_14 ?_
    have gx_18 : ¬ 12 ≤ p := fun z => g_12 (fx_lt11.mpr z)
    refine aw_if_eq (tgt := 28) dX12_dreads_7 (by decide) (fun c_19 => ?_) (fun c_19 => ?_)
    · exact absurd c_19 (by decide)
    refine aw_iload_n dX12_dreads_10 rfl ?_
    refine aw_iconst (v := 1) dX12_dreads_11 (by decide) ?_
    refine aw_bipush (v := 120) dX12_dreads_12 (by decide) ?_
    refine aw_callSi (J' := jX12_in) (As := [.int n, .int 1, .int 120]) (st := []) dX12_dreads_14 tb_1209 ok_X12_in rfl (k_in l D b N V n 1 120) rfl (Nat.le_of_ble_eq_true rfl) ⟨Nat.le_of_ble_eq_true rfl, Nat.le_of_ble_eq_true rfl, Nat.le_of_ble_eq_true rfl, Nat.le_of_ble_eq_true rfl⟩ (fun r_20 N_21 V_22 q_23 => ?_)
    obtain ⟨rfl, rfl, rfl⟩ := q_23
    rcases inr_cases n 1 120 with ⟨g_24, e_25⟩ | ⟨g_26, g_27, g_28, e_29⟩ | ⟨g_30, g_31, g_32, e_33⟩
    · skip
      refine aw_eqi (y := 0) e_25 ?_
      refine aw_if_eq (tgt := 28) dX12_dreads_17 (by decide) (fun c_34 => ?_) (fun c_34 => ?_)
      rotate_left
      · exact absurd (by decide) c_34
      refine aw_iconst (v := (-1)) dX12_dreads_28 (by decide) ?_
      refine aw_ireti dX12_dreads_29 rfl (Nat.le_of_ble_eq_true rfl) (Nat.le_of_ble_eq_true rfl) ?_
      exact ⟨rfl, rfl⟩
    · skip
      refine aw_eqi (y := 0) e_29 ?_
      refine aw_if_eq (tgt := 28) dX12_dreads_17 (by decide) (fun c_35 => ?_) (fun c_35 => ?_)
      rotate_left
      · exact absurd (by decide) c_35
      refine aw_iconst (v := (-1)) dX12_dreads_28 (by decide) ?_
      refine aw_ireti dX12_dreads_29 rfl (Nat.le_of_ble_eq_true rfl) (Nat.le_of_ble_eq_true rfl) ?_
      exact ⟨rfl, rfl⟩
    · skip
      refine aw_eqi (y := 1) e_33 ?_
      refine aw_if_eq (tgt := 28) dX12_dreads_17 (by decide) (fun c_36 => ?_) (fun c_36 => ?_)
      · exact absurd c_36 (by decide)
      refine aw_iload_n dX12_dreads_20 rfl ?_
      refine aw_aload_n dX12_dreads_21 rfl ?_
      refine aw_get dX12_dreads_22 fl_X12_152 k100 (by omega) rfl ?_
      refine aw_icmp_le (tgt := 30) dX12_dreads_25 (by decide) (fun c_37 => ?_) (fun c_37 => ?_)
      · exact absurd c_37 (fx_n0g (lo := 1) (by decide) g_30)
      refine aw_iconst (v := (-1)) dX12_dreads_28 (by decide) ?_
      refine aw_ireti dX12_dreads_29 rfl (Nat.le_of_ble_eq_true rfl) (Nat.le_of_ble_eq_true rfl) ?_
      exact ⟨rfl, rfl⟩

set_option maxHeartbeats 4000000 in
set_option maxRecDepth 100000 in
theorem r_orders (l : Launch) (D : va_G) (b : Nat) (N : Nat) (V : Wd) (hN : 133 ≤ N) (hM : M0 D b V) (n : Int32) : MI l D b 1 jX12_orders [.ref (b + 100), .int n] N V 0 0 (fun r N9 V9 => r = (-1) ∧ N = N9) := by
  obtain ⟨k100, k101, k102, k103, k104, k110, k124, k126, k127, k128, k130, k131⟩ := id hM
  refine mw_of (by decide) (by simp [Value.category]) (Nat.le_of_ble_eq_true rfl) ?_
  show AW l D b jX12_orders (fx_rm 1 0 0) none (fx_MQ D b 0 0 (fx_qi (fun r N9 V9 => r = (-1) ∧ N = N9))) 0 [some (.ref (b + 100)), some (.int n), none] [] N V 0 0
  refine aw_iload_n dX12_orders_0 rfl ?_
  refine aw_iconst (v := 1) dX12_orders_1 (by decide) ?_
  refine aw_bipush (v := 120) dX12_orders_2 (by decide) ?_
  refine aw_callSi (J' := jX12_in) (As := [.int n, .int 1, .int 120]) (st := []) dX12_orders_4 tb_1209 ok_X12_in rfl (k_in l D b N V n 1 120) rfl (Nat.le_of_ble_eq_true rfl) ⟨Nat.le_of_ble_eq_true rfl, Nat.le_of_ble_eq_true rfl, Nat.le_of_ble_eq_true rfl, Nat.le_of_ble_eq_true rfl⟩ (fun r_1 N_2 V_3 q_4 => ?_)
  obtain ⟨rfl, rfl, rfl⟩ := q_4
  rcases inr_cases n 1 120 with ⟨g_5, e_6⟩ | ⟨g_7, g_8, g_9, e_10⟩ | ⟨g_11, g_12, g_13, e_14⟩
  · skip
    refine aw_eqi (y := 0) e_6 ?_
    refine aw_if_eq (tgt := 18) dX12_orders_7 (by decide) (fun c_15 => ?_) (fun c_15 => ?_)
    rotate_left
    · exact absurd (by decide) c_15
    refine aw_iconst (v := (-1)) dX12_orders_18 (by decide) ?_
    refine aw_ireti dX12_orders_19 rfl (Nat.le_of_ble_eq_true rfl) (Nat.le_of_ble_eq_true rfl) ?_
    exact ⟨rfl, rfl⟩
  · skip
    refine aw_eqi (y := 0) e_10 ?_
    refine aw_if_eq (tgt := 18) dX12_orders_7 (by decide) (fun c_16 => ?_) (fun c_16 => ?_)
    rotate_left
    · exact absurd (by decide) c_16
    refine aw_iconst (v := (-1)) dX12_orders_18 (by decide) ?_
    refine aw_ireti dX12_orders_19 rfl (Nat.le_of_ble_eq_true rfl) (Nat.le_of_ble_eq_true rfl) ?_
    exact ⟨rfl, rfl⟩
  · skip
    refine aw_eqi (y := 1) e_14 ?_
    refine aw_if_eq (tgt := 18) dX12_orders_7 (by decide) (fun c_17 => ?_) (fun c_17 => ?_)
    · exact absurd c_17 (by decide)
    refine aw_iload_n dX12_orders_10 rfl ?_
    refine aw_aload_n dX12_orders_11 rfl ?_
    refine aw_get dX12_orders_12 fl_X12_152 k100 (by omega) rfl ?_
    refine aw_icmp_le (tgt := 20) dX12_orders_15 (by decide) (fun c_18 => ?_) (fun c_18 => ?_)
    · exact absurd c_18 (fx_n0g (lo := 1) (by decide) g_11)
    refine aw_iconst (v := (-1)) dX12_orders_18 (by decide) ?_
    refine aw_ireti dX12_orders_19 rfl (Nat.le_of_ble_eq_true rfl) (Nat.le_of_ble_eq_true rfl) ?_
    exact ⟨rfl, rfl⟩

set_option maxHeartbeats 4000000 in
set_option maxRecDepth 100000 in
theorem k_catches (l : Launch) (D : va_G) (b : Nat) (N : Nat) (V : Wd) (hN : 133 ≤ N) (k100 : V 100 = cO 11 [.ref (b + 101), .ref (b + 102), .ref (b + 103), .ref (b + 104), .ref (b + 105), .ref (b + 106), .ref (b + 107), .ref (b + 108), .ref (b + 109), .int 0, .int 0, .int 0, .ref (b + 110), .int 0, .int 0, .int 0, .int 0, .int 0, .int 0, .int 0, .int 0, .int 0, .int 0, .ref (b + 111), .ref (b + 112), .ref (b + 113), .ref (b + 114), .ref (b + 115), .ref (b + 116), .ref (b + 117), .ref (b + 118), .ref (b + 119), .ref (b + 120), .ref (b + 121), .ref (b + 122), .ref (b + 123), .int 0, .int 0, .int 0, .int 0, .ref (b + 124), .ref (b + 125), .ref (b + 126), .ref (b + 127), .ref (b + 128), .int 0, .int 0, .ref (b + 129), .ref (b + 130), .ref (b + 131), .ref (b + 132), .int 0]) (k104 : V 104 = cI D 12 (fun _ => 0)) (g0 : Nat → Int32) (k124 : V 124 = cI D 12 g0) : MV l D b 2 jX12_catches [.ref (b + 100)] N V 0 0 (fun N9 V9 => N = N9 ∧ (∃ g', V9 124 = cI D 12 g') ∧ ∀ i, i ≠ 124 → V9 i = V i) := by
  refine mw_of (by decide) (by simp [Value.category]) (Nat.le_of_ble_eq_true rfl) ?_
  show AW l D b jX12_catches (fx_rm 2 0 0) none (fx_MQ D b 0 0 (fx_qv (fun N9 V9 => N = N9 ∧ (∃ g', V9 124 = cI D 12 g') ∧ ∀ i, i ≠ 124 → V9 i = V i))) 0 [some (.ref (b + 100)), none, none, none, none] [] N V 0 0
  refine aw_iconst (v := 0) dX12_catches_0 (by decide) ?_
  refine aw_istore_n (ls' := [some (.ref (b + 100)), some (.int 0), none, none, none]) dX12_catches_1 (Nat.le_of_ble_eq_true rfl) rfl ?_
  have loop_2_0 : ∀ (g_2 : Nat), ∀ (j2 : Nat)  (V2 : Wd), j2 + g_2 = 12 → (∃ g2 : Nat → Int32, V2 124 = cI D 12 g2) → (∀ i, i ≠ 124 → V2 i = V i) → AW l D b jX12_catches (fx_rm 2 0 0) none (fx_MQ D b 0 0 (fx_qv (fun N9 V9 => N = N9 ∧ (∃ g', V9 124 = cI D 12 g') ∧ ∀ i, i ≠ 124 → V9 i = V i))) 2 [some (.ref (b + 100)), some (.int (nI j2)), none, none, none] [] N V2 0 0 := by
    intro g_2
    induction g_2 with
    | zero =>
      intro j2  V2 hj2 i2_0 i2_1
      obtain rfl : j2 = 12 := by omega
      obtain ⟨g2, e2⟩ := id i2_0
      refine aw_iload_n dX12_catches_2 rfl ?_
      refine aw_bipush (v := 12) dX12_catches_3 (by decide) ?_
      refine aw_icmp_ge (tgt := 37) dX12_catches_5 (by decide) (fun c_3 => ?_) (fun c_3 => ?_)
      rotate_left
      · exact absurd (nI_le (a := 12) (b := 12) (Nat.le_refl _) (by omega)) c_3
      refine aw_iconst (v := 0) dX12_catches_37 (by decide) ?_
      refine aw_istore_n (ls' := [some (.ref (b + 100)), some (.int 0), none, none, none]) dX12_catches_38 (Nat.le_of_ble_eq_true rfl) rfl ?_
      have loop_39_3 : ∀ (g_39 : Nat), ∀ (j39 : Nat), j39 + g_39 = 144 → AW l D b jX12_catches (fx_rm 2 0 0) none (fx_MQ D b 0 0 (fx_qv (fun N9 V9 => N = N9 ∧ (∃ g', V9 124 = cI D 12 g') ∧ ∀ i, i ≠ 124 → V9 i = V i))) 39 [some (.ref (b + 100)), some (.int (nI j39)), none, none, none] [] N V2 0 0 := by
        intro g_39
        induction g_39 with
        | zero =>
          intro j39  hj39
          obtain rfl : j39 = 144 := by omega
          refine aw_iload_n dX12_catches_39 rfl ?_
          refine aw_sipush (v := 144) dX12_catches_40 (by decide) ?_
          refine aw_icmp_ge (tgt := 89) dX12_catches_43 (by decide) (fun c_6 => ?_) (fun c_6 => ?_)
          rotate_left
          · exact absurd (nI_le (a := 144) (b := 144) (Nat.le_refl _) (by omega)) c_6
          refine aw_iconst (v := 0) dX12_catches_89 (by decide) ?_
          refine aw_istore_n (ls' := [some (.ref (b + 100)), some (.int 0), none, none, none]) dX12_catches_90 (Nat.le_of_ble_eq_true rfl) rfl ?_
          have loop_91_6 : ∀ (g_91 : Nat), ∀ (j91 : Nat), j91 + g_91 = 144 → AW l D b jX12_catches (fx_rm 2 0 0) none (fx_MQ D b 0 0 (fx_qv (fun N9 V9 => N = N9 ∧ (∃ g', V9 124 = cI D 12 g') ∧ ∀ i, i ≠ 124 → V9 i = V i))) 91 [some (.ref (b + 100)), some (.int (nI j91)), none, none, none] [] N V2 0 0 := by
            intro g_91
            induction g_91 with
            | zero =>
              intro j91  hj91
              obtain rfl : j91 = 144 := by omega
              refine aw_iload_n dX12_catches_91 rfl ?_
              refine aw_sipush (v := 144) dX12_catches_92 (by decide) ?_
              refine aw_icmp_ge (tgt := 181) dX12_catches_95 (by decide) (fun c_9 => ?_) (fun c_9 => ?_)
              rotate_left
              · exact absurd (nI_le (a := 144) (b := 144) (Nat.le_refl _) (by omega)) c_9
              refine aw_vreti dX12_catches_181 rfl (Nat.le_of_ble_eq_true rfl) (Nat.le_of_ble_eq_true rfl) ?_
              exact ⟨rfl, ⟨_, e2⟩, i2_1⟩
            | succ g_91 ih_91_7 =>
              intro j91  hj91
              have hlj91 : j91 < 144 := by omega
              refine aw_iload_n dX12_catches_91 rfl ?_
              refine aw_sipush (v := 144) dX12_catches_92 (by decide) ?_
              refine aw_icmp_ge (tgt := 181) dX12_catches_95 (by decide) (fun c_10 => ?_) (fun c_10 => ?_)
              · exact absurd c_10 (nI_ge (a := j91) (b := 144) (by omega) (by omega))
              refine aw_iload_n dX12_catches_98 rfl ?_
              refine aw_bipush (v := 12) dX12_catches_99 (by decide) ?_
              refine aw_idiv dX12_catches_101 (by decide) ?_
              refine aw_eqi (y := (nI (j91 / 12))) (pk_div (by omega) (by decide) (by decide)) ?_
              refine aw_istore_n (ls' := [some (.ref (b + 100)), some (.int (nI j91)), some (.int (nI (j91 / 12))), none, none]) dX12_catches_102 (Nat.le_of_ble_eq_true rfl) rfl ?_
              refine aw_iload_n dX12_catches_103 rfl ?_
              refine aw_bipush (v := 12) dX12_catches_104 (by decide) ?_
              refine aw_irem dX12_catches_106 (by decide) ?_
              refine aw_istore_n (ls' := [some (.ref (b + 100)), some (.int (nI j91)), some (.int (nI (j91 / 12))), some (.int ((nI j91) - (nI j91) / 12 * 12)), none]) dX12_catches_107 (Nat.le_of_ble_eq_true rfl) rfl ?_
              refine aw_aload_n dX12_catches_108 rfl ?_
              refine aw_get dX12_catches_109 fl_X12_19 ((i2_1 100 (by omega)).trans k100) (by omega) rfl ?_
              refine aw_iload_n dX12_catches_112 rfl ?_
              refine aw_iald (v := 0) dX12_catches_113 ((i2_1 104 (by omega)).trans k104) (by omega) (vp_in_nI (n := (j91 / 12)) (by omega) (by omega)) rfl ?_
              refine aw_iload_n dX12_catches_114 rfl ?_
              refine aw_callSi (J' := jX12_has) (As := [.int 0, .int ((nI j91) - (nI j91) / 12 * 12)]) (st := []) dX12_catches_115 tb_1315 ok_X12_has rfl (k_has0 l D b N V2 ((nI j91) - (nI j91) / 12 * 12)) rfl (Nat.le_of_ble_eq_true rfl) ⟨Nat.le_of_ble_eq_true rfl, Nat.le_of_ble_eq_true rfl, Nat.le_of_ble_eq_true rfl, Nat.le_of_ble_eq_true rfl⟩ (fun r_11 N_12 V_13 q_14 => ?_)
              obtain ⟨rfl, rfl, rfl⟩ := q_14
              refine aw_if_eq (tgt := 175) dX12_catches_118 (by decide) (fun c_15 => ?_) (fun c_15 => ?_)
              rotate_left
              · exact absurd (by decide) c_15
              refine aw_iinc (v := (nI (j91 + 1))) (ls' := [some (.ref (b + 100)), some (.int (nI (j91 + 1))), some (.int (nI (j91 / 12))), some (.int ((nI j91) - (nI j91) / 12 * 12)), none]) dX12_catches_175 rfl (fx_up_1 _) (Nat.le_of_ble_eq_true rfl) rfl ?_
              refine aw_goto (tgt := 91) dX12_catches_178 (by decide) ?_
              refine aw_le ?_ (ih_91_7 (j91 + 1)   (by omega))
              exact ⟨rfl, ⟨rfl, trivial⟩⟩
          refine aw_le ?_ (loop_91_6 144 0   (by omega))
          exact ⟨rfl, ⟨rfl, trivial⟩⟩
        | succ g_39 ih_39_4 =>
          intro j39  hj39
          have hlj39 : j39 < 144 := by omega
          refine aw_iload_n dX12_catches_39 rfl ?_
          refine aw_sipush (v := 144) dX12_catches_40 (by decide) ?_
          refine aw_icmp_ge (tgt := 89) dX12_catches_43 (by decide) (fun c_16 => ?_) (fun c_16 => ?_)
          · exact absurd c_16 (nI_ge (a := j39) (b := 144) (by omega) (by omega))
          refine aw_aload_n dX12_catches_46 rfl ?_
          refine aw_get dX12_catches_47 fl_X12_19 ((i2_1 100 (by omega)).trans k100) (by omega) rfl ?_
          refine aw_iload_n dX12_catches_50 rfl ?_
          refine aw_bipush (v := 12) dX12_catches_51 (by decide) ?_
          refine aw_idiv dX12_catches_53 (by decide) ?_
          refine aw_eqi (y := (nI (j39 / 12))) (pk_div (by omega) (by decide) (by decide)) ?_
          refine aw_iald (v := 0) dX12_catches_54 ((i2_1 104 (by omega)).trans k104) (by omega) (vp_in_nI (n := (j39 / 12)) (by omega) (by omega)) rfl ?_
          refine aw_iload_n dX12_catches_55 rfl ?_
          refine aw_bipush (v := 12) dX12_catches_56 (by decide) ?_
          refine aw_irem dX12_catches_58 (by decide) ?_
          refine aw_callSi (J' := jX12_has) (As := [.int 0, .int ((nI j39) - (nI j39) / 12 * 12)]) (st := []) dX12_catches_59 tb_1315 ok_X12_has rfl (k_has0 l D b N V2 ((nI j39) - (nI j39) / 12 * 12)) rfl (Nat.le_of_ble_eq_true rfl) ⟨Nat.le_of_ble_eq_true rfl, Nat.le_of_ble_eq_true rfl, Nat.le_of_ble_eq_true rfl, Nat.le_of_ble_eq_true rfl⟩ (fun r_17 N_18 V_19 q_20 => ?_)
          obtain ⟨rfl, rfl, rfl⟩ := q_20
          refine aw_if_eq (tgt := 83) dX12_catches_62 (by decide) (fun c_21 => ?_) (fun c_21 => ?_)
          rotate_left
          · exact absurd (by decide) c_21
          refine aw_iinc (v := (nI (j39 + 1))) (ls' := [some (.ref (b + 100)), some (.int (nI (j39 + 1))), none, none, none]) dX12_catches_83 rfl (fx_up_1 _) (Nat.le_of_ble_eq_true rfl) rfl ?_
          refine aw_goto (tgt := 39) dX12_catches_86 (by decide) ?_
          refine aw_le ?_ (ih_39_4 (j39 + 1)   (by omega))
          exact ⟨rfl, ⟨rfl, trivial⟩⟩
      refine aw_le ?_ (loop_39_3 144 0   (by omega))
      exact ⟨rfl, ⟨rfl, trivial⟩⟩
    | succ g_2 ih_2_1 =>
      intro j2  V2 hj2 i2_0 i2_1
      have hlj2 : j2 < 12 := by omega
      obtain ⟨g2, e2⟩ := id i2_0
      refine aw_iload_n dX12_catches_2 rfl ?_
      refine aw_bipush (v := 12) dX12_catches_3 (by decide) ?_
      refine aw_icmp_ge (tgt := 37) dX12_catches_5 (by decide) (fun c_22 => ?_) (fun c_22 => ?_)
      · exact absurd c_22 (nI_ge (a := j2) (b := 12) (by omega) (by omega))
      refine aw_aload_n dX12_catches_8 rfl ?_
      refine aw_get dX12_catches_9 fl_X12_80 ((i2_1 100 (by omega)).trans k100) (by omega) rfl ?_
      refine aw_iload_n dX12_catches_12 rfl ?_
      refine aw_aload_n dX12_catches_13 rfl ?_
      refine aw_iload_n dX12_catches_14 rfl ?_
      refine aw_callVi (J' := jX12_isTold) (As := [.int (nI j2)]) (st := [.int (nI j2), .ref (b + 124)]) dX12_catches_15 tb_1351 ok_X12_isTold ⟨_, ((i2_1 100 (by omega)).trans k100)⟩ (by omega) rfl rfl (k_isTold l D b N V2 hN ((i2_1 100 (by omega)).trans k100) (nI j2)) rfl (Nat.le_of_ble_eq_true rfl) ⟨Nat.le_of_ble_eq_true rfl, Nat.le_of_ble_eq_true rfl, Nat.le_of_ble_eq_true rfl, Nat.le_of_ble_eq_true rfl⟩ (fun r_23 N_24 V_25 q_26 => ?_)
      obtain ⟨rfl, rfl, rfl⟩ := q_26
      refine aw_if_eq (tgt := 29) dX12_catches_18 (by decide) (fun c_27 => ?_) (fun c_27 => ?_)
      rotate_left
      · exact absurd (by decide) c_27
      refine aw_iconst (v := (-1)) dX12_catches_29 (by decide) ?_
      refine aw_iast dX12_catches_30 e2 (by omega) (vp_in_nI (n := j2) (by omega) (by omega)) ?_
      refine aw_iinc (v := (nI (j2 + 1))) (ls' := [some (.ref (b + 100)), some (.int (nI (j2 + 1))), none, none, none]) dX12_catches_31 rfl (fx_up_1 _) (Nat.le_of_ble_eq_true rfl) rfl ?_
      refine aw_goto (tgt := 2) dX12_catches_34 (by decide) ?_
      refine aw_le ?_ (ih_2_1 (j2 + 1)  (va_up V2 124 (cI D 12 (upd g2 (Int32.toNatClampNeg (nI j2)) (-1)))) (by omega) (⟨_, va_up_self _ _ _⟩) (fun i hi => (va_up_ne _ _ hi).trans (i2_1 i hi)))
      exact ⟨rfl, ⟨rfl, trivial⟩⟩
  refine aw_le ?_ (loop_2_0 12 0  V (by omega) (⟨_, k124⟩) (fun i _ => rfl))
  exact ⟨rfl, ⟨rfl, trivial⟩⟩

set_option maxHeartbeats 4000000 in
set_option maxRecDepth 100000 in
theorem k_nightGoes (l : Launch) (D : va_G) (b : Nat) (N : Nat) (V : Wd) (hN : 133 ≤ N) (k100 : V 100 = cO 11 [.ref (b + 101), .ref (b + 102), .ref (b + 103), .ref (b + 104), .ref (b + 105), .ref (b + 106), .ref (b + 107), .ref (b + 108), .ref (b + 109), .int 0, .int 0, .int 0, .ref (b + 110), .int 0, .int 0, .int 0, .int 0, .int 0, .int 0, .int 0, .int 0, .int 0, .int 0, .ref (b + 111), .ref (b + 112), .ref (b + 113), .ref (b + 114), .ref (b + 115), .ref (b + 116), .ref (b + 117), .ref (b + 118), .ref (b + 119), .ref (b + 120), .ref (b + 121), .ref (b + 122), .ref (b + 123), .int 0, .int 0, .int 0, .int 0, .ref (b + 124), .ref (b + 125), .ref (b + 126), .ref (b + 127), .ref (b + 128), .int 0, .int 0, .ref (b + 129), .ref (b + 130), .ref (b + 131), .ref (b + 132), .int 0]) (k104 : V 104 = cI D 12 (fun _ => 0)) (g0 : Nat → Int32) (k124 : V 124 = cI D 12 g0) (g1 : Nat → Int32) (k101 : V 101 = cI D 210 g1) : MV l D b 3 jX12_nightGoes [.ref (b + 100)] N V 0 0 (fun N9 V9 => N = N9 ∧ (∃ g', V9 101 = cI D 210 g') ∧ (∃ g', V9 124 = cI D 12 g') ∧ ∀ i, i ≠ 101 ∧ i ≠ 124 → V9 i = V i) := by
  refine mw_of (by decide) (by simp [Value.category]) (Nat.le_of_ble_eq_true rfl) ?_
  show AW l D b jX12_nightGoes (fx_rm 3 0 0) none (fx_MQ D b 0 0 (fx_qv (fun N9 V9 => N = N9 ∧ (∃ g', V9 101 = cI D 210 g') ∧ (∃ g', V9 124 = cI D 12 g') ∧ ∀ i, i ≠ 101 ∧ i ≠ 124 → V9 i = V i))) 0 [some (.ref (b + 100)), none] [] N V 0 0
  refine aw_iconst (v := 0) dX12_nightGoes_0 (by decide) ?_
  refine aw_istore_n (ls' := [some (.ref (b + 100)), some (.int 0)]) dX12_nightGoes_1 (Nat.le_of_ble_eq_true rfl) rfl ?_
  have loop_2_0 : ∀ (g_2 : Nat), ∀ (j2 : Nat), j2 + g_2 = 12 → AW l D b jX12_nightGoes (fx_rm 3 0 0) none (fx_MQ D b 0 0 (fx_qv (fun N9 V9 => N = N9 ∧ (∃ g', V9 101 = cI D 210 g') ∧ (∃ g', V9 124 = cI D 12 g') ∧ ∀ i, i ≠ 101 ∧ i ≠ 124 → V9 i = V i))) 2 [some (.ref (b + 100)), some (.int (nI j2))] [] N V 0 0 := by
    intro g_2
    induction g_2 with
    | zero =>
      intro j2  hj2
      obtain rfl : j2 = 12 := by omega
      refine aw_iload_n dX12_nightGoes_2 rfl ?_
      refine aw_bipush (v := 12) dX12_nightGoes_3 (by decide) ?_
      refine aw_icmp_ge (tgt := 27) dX12_nightGoes_5 (by decide) (fun c_3 => ?_) (fun c_3 => ?_)
      rotate_left
      · exact absurd (nI_le (a := 12) (b := 12) (Nat.le_refl _) (by omega)) c_3
      refine aw_aload_n dX12_nightGoes_27 rfl ?_
      refine aw_callVv (J' := jX12_catches) (As := []) (st := []) dX12_nightGoes_28 tb_1434 ok_X12_catches ⟨_, k100⟩ (by omega) rfl rfl (k_catches l D b N V hN k100 k104 _ k124) rfl (Nat.le_of_ble_eq_true rfl) ⟨Nat.le_of_ble_eq_true rfl, Nat.le_of_ble_eq_true rfl, Nat.le_of_ble_eq_true rfl, Nat.le_of_ble_eq_true rfl⟩ (fun  N_8 V_7 q_9 => ?_)
      obtain ⟨rfl, ⟨g_5, q_6⟩, fr_4⟩ := q_9
      refine aw_aload_n dX12_nightGoes_31 rfl ?_
      refine aw_get dX12_nightGoes_32 fl_X12_7 ((fr_4 _ (by omega)).trans k100) (by omega) rfl ?_
      refine aw_sipush (v := 208) dX12_nightGoes_35 (by decide) ?_
      refine aw_aload_n dX12_nightGoes_38 rfl ?_
      refine aw_get dX12_nightGoes_39 fl_X12_7 ((fr_4 _ (by omega)).trans k100) (by omega) rfl ?_
      refine aw_sipush (v := 208) dX12_nightGoes_42 (by decide) ?_
      refine aw_iald (v := (g1 208)) dX12_nightGoes_45 ((fr_4 _ (by omega)).trans k101) (by omega) (vp_in_nI (n := 208) (N := 210) (by decide) (by decide)) (congrArg g1 (nI_clamp (n := 208) (by omega))) ?_
      refine aw_iconst (v := 1) dX12_nightGoes_46 (by decide) ?_
      refine aw_iadd dX12_nightGoes_47 ?_
      refine aw_iast dX12_nightGoes_48 ((fr_4 _ (by omega)).trans k101) (by omega) (vp_in_nI (n := 208) (N := 210) (by decide) (by decide)) ?_
      refine aw_vreti dX12_nightGoes_49 rfl (Nat.le_of_ble_eq_true rfl) (Nat.le_of_ble_eq_true rfl) ?_
      exact ⟨rfl, ⟨_, (va_up_self _ _ _)⟩, ⟨_, ((va_up_ne _ _ (by omega)).trans q_6)⟩, fun i hi => (va_up_ne _ _ hi.1).trans (fr_4 i hi.2)⟩
    | succ g_2 ih_2_1 =>
      intro j2  hj2
      have hlj2 : j2 < 12 := by omega
      refine aw_iload_n dX12_nightGoes_2 rfl ?_
      refine aw_bipush (v := 12) dX12_nightGoes_3 (by decide) ?_
      refine aw_icmp_ge (tgt := 27) dX12_nightGoes_5 (by decide) (fun c_10 => ?_) (fun c_10 => ?_)
      · exact absurd c_10 (nI_ge (a := j2) (b := 12) (by omega) (by omega))
      refine aw_aload_n dX12_nightGoes_8 rfl ?_
      refine aw_iload_n dX12_nightGoes_9 rfl ?_
      refine aw_callVi (J' := jX12_isTold) (As := [.int (nI j2)]) (st := []) dX12_nightGoes_10 tb_1351 ok_X12_isTold ⟨_, k100⟩ (by omega) rfl rfl (k_isTold l D b N V hN k100 (nI j2)) rfl (Nat.le_of_ble_eq_true rfl) ⟨Nat.le_of_ble_eq_true rfl, Nat.le_of_ble_eq_true rfl, Nat.le_of_ble_eq_true rfl, Nat.le_of_ble_eq_true rfl⟩ (fun r_11 N_12 V_13 q_14 => ?_)
      obtain ⟨rfl, rfl, rfl⟩ := q_14
      refine aw_if_eq (tgt := 21) dX12_nightGoes_13 (by decide) (fun c_15 => ?_) (fun c_15 => ?_)
      rotate_left
      · exact absurd (by decide) c_15
      refine aw_iinc (v := (nI (j2 + 1))) (ls' := [some (.ref (b + 100)), some (.int (nI (j2 + 1)))]) dX12_nightGoes_21 rfl (fx_up_1 _) (Nat.le_of_ble_eq_true rfl) rfl ?_
      refine aw_goto (tgt := 2) dX12_nightGoes_24 (by decide) ?_
      refine aw_le ?_ (ih_2_1 (j2 + 1)   (by omega))
      exact ⟨rfl, ⟨rfl, trivial⟩⟩
  refine aw_le ?_ (loop_2_0 12 0   (by omega))
  exact ⟨rfl, ⟨rfl, trivial⟩⟩

set_option maxHeartbeats 4000000 in
set_option maxRecDepth 100000 in
theorem k_nightsGo (l : Launch) (D : va_G) (b : Nat) (N : Nat) (V : Wd) (hN : 133 ≤ N) (k100 : V 100 = cO 11 [.ref (b + 101), .ref (b + 102), .ref (b + 103), .ref (b + 104), .ref (b + 105), .ref (b + 106), .ref (b + 107), .ref (b + 108), .ref (b + 109), .int 0, .int 0, .int 0, .ref (b + 110), .int 0, .int 0, .int 0, .int 0, .int 0, .int 0, .int 0, .int 0, .int 0, .int 0, .ref (b + 111), .ref (b + 112), .ref (b + 113), .ref (b + 114), .ref (b + 115), .ref (b + 116), .ref (b + 117), .ref (b + 118), .ref (b + 119), .ref (b + 120), .ref (b + 121), .ref (b + 122), .ref (b + 123), .int 0, .int 0, .int 0, .int 0, .ref (b + 124), .ref (b + 125), .ref (b + 126), .ref (b + 127), .ref (b + 128), .int 0, .int 0, .ref (b + 129), .ref (b + 130), .ref (b + 131), .ref (b + 132), .int 0]) (k104 : V 104 = cI D 12 (fun _ => 0)) (g0 : Nat → Int32) (k124 : V 124 = cI D 12 g0) (g1 : Nat → Int32) (k101 : V 101 = cI D 210 g1) (m : Nat) (hm : m ≤ 100) : MV l D b 4 jX12_nightsGo [.ref (b + 100), .int (nI m)] N V 0 0 (fun N9 V9 => N = N9 ∧ (V9 100 = cO 11 [.ref (b + 101), .ref (b + 102), .ref (b + 103), .ref (b + 104), .ref (b + 105), .ref (b + 106), .ref (b + 107), .ref (b + 108), .ref (b + 109), .int 0, .int 0, .int 0, .ref (b + 110), .int 0, .int 0, .int 0, .int 0, .int 0, .int 0, .int 0, .int 0, .int 0, .int 0, .ref (b + 111), .ref (b + 112), .ref (b + 113), .ref (b + 114), .ref (b + 115), .ref (b + 116), .ref (b + 117), .ref (b + 118), .ref (b + 119), .ref (b + 120), .ref (b + 121), .ref (b + 122), .ref (b + 123), .int 0, .int 0, .int 0, .int 0, .ref (b + 124), .ref (b + 125), .ref (b + 126), .ref (b + 127), .ref (b + 128), .int 0, .int 0, .ref (b + 129), .ref (b + 130), .ref (b + 131), .ref (b + 132), .int 0]) ∧ (∃ g', V9 101 = cI D 210 g') ∧ (∃ g', V9 124 = cI D 12 g') ∧ (∀ i, i ≠ 100 ∧ i ≠ 101 ∧ i ≠ 124 → V9 i = V i)) := by
  refine mw_of (by decide) (by simp [Value.category]) (Nat.le_of_ble_eq_true rfl) ?_
  show AW l D b jX12_nightsGo (fx_rm 4 0 0) none (fx_MQ D b 0 0 (fx_qv (fun N9 V9 => N = N9 ∧ (V9 100 = cO 11 [.ref (b + 101), .ref (b + 102), .ref (b + 103), .ref (b + 104), .ref (b + 105), .ref (b + 106), .ref (b + 107), .ref (b + 108), .ref (b + 109), .int 0, .int 0, .int 0, .ref (b + 110), .int 0, .int 0, .int 0, .int 0, .int 0, .int 0, .int 0, .int 0, .int 0, .int 0, .ref (b + 111), .ref (b + 112), .ref (b + 113), .ref (b + 114), .ref (b + 115), .ref (b + 116), .ref (b + 117), .ref (b + 118), .ref (b + 119), .ref (b + 120), .ref (b + 121), .ref (b + 122), .ref (b + 123), .int 0, .int 0, .int 0, .int 0, .ref (b + 124), .ref (b + 125), .ref (b + 126), .ref (b + 127), .ref (b + 128), .int 0, .int 0, .ref (b + 129), .ref (b + 130), .ref (b + 131), .ref (b + 132), .int 0]) ∧ (∃ g', V9 101 = cI D 210 g') ∧ (∃ g', V9 124 = cI D 12 g') ∧ (∀ i, i ≠ 100 ∧ i ≠ 101 ∧ i ≠ 124 → V9 i = V i)))) 0 [some (.ref (b + 100)), some (.int (nI m)), none] [] N V 0 0
  refine aw_aload_n dX12_nightsGo_0 rfl ?_
  refine aw_iconst (v := 0) dX12_nightsGo_1 (by decide) ?_
  refine aw_put dX12_nightsGo_2 fp_X12_321 k100 (by omega) rfl rfl (Nat.le_of_ble_eq_true rfl) rfl ?_
  refine aw_aload_n dX12_nightsGo_5 rfl ?_
  refine aw_iconst (v := 0) dX12_nightsGo_6 (by decide) ?_
  refine aw_put dX12_nightsGo_7 fp_X12_324 (va_up_self _ _ _) (by omega) rfl rfl (Nat.le_of_ble_eq_true rfl) rfl ?_
  refine aw_iconst (v := 0) dX12_nightsGo_10 (by decide) ?_
  refine aw_istore_n (ls' := [some (.ref (b + 100)), some (.int (nI m)), some (.int 0)]) dX12_nightsGo_11 (Nat.le_of_ble_eq_true rfl) rfl ?_
  have loop_12_0 : ∀ (g_12 : Nat), ∀ (j12 : Nat)  (V12 : Wd), j12 + g_12 = m → (V12 100 = cO 11 [.ref (b + 101), .ref (b + 102), .ref (b + 103), .ref (b + 104), .ref (b + 105), .ref (b + 106), .ref (b + 107), .ref (b + 108), .ref (b + 109), .int 0, .int 0, .int 0, .ref (b + 110), .int 0, .int 0, .int 0, .int 0, .int 0, .int 0, .int 0, .int 0, .int 0, .int 0, .ref (b + 111), .ref (b + 112), .ref (b + 113), .ref (b + 114), .ref (b + 115), .ref (b + 116), .ref (b + 117), .ref (b + 118), .ref (b + 119), .ref (b + 120), .ref (b + 121), .ref (b + 122), .ref (b + 123), .int 0, .int 0, .int 0, .int 0, .ref (b + 124), .ref (b + 125), .ref (b + 126), .ref (b + 127), .ref (b + 128), .int 0, .int 0, .ref (b + 129), .ref (b + 130), .ref (b + 131), .ref (b + 132), .int 0]) → (∃ g', V12 101 = cI D 210 g') → (∃ g', V12 124 = cI D 12 g') → (∀ i, i ≠ 100 ∧ i ≠ 101 ∧ i ≠ 124 → V12 i = V i) → AW l D b jX12_nightsGo (fx_rm 4 0 0) none (fx_MQ D b 0 0 (fx_qv (fun N9 V9 => N = N9 ∧ (V9 100 = cO 11 [.ref (b + 101), .ref (b + 102), .ref (b + 103), .ref (b + 104), .ref (b + 105), .ref (b + 106), .ref (b + 107), .ref (b + 108), .ref (b + 109), .int 0, .int 0, .int 0, .ref (b + 110), .int 0, .int 0, .int 0, .int 0, .int 0, .int 0, .int 0, .int 0, .int 0, .int 0, .ref (b + 111), .ref (b + 112), .ref (b + 113), .ref (b + 114), .ref (b + 115), .ref (b + 116), .ref (b + 117), .ref (b + 118), .ref (b + 119), .ref (b + 120), .ref (b + 121), .ref (b + 122), .ref (b + 123), .int 0, .int 0, .int 0, .int 0, .ref (b + 124), .ref (b + 125), .ref (b + 126), .ref (b + 127), .ref (b + 128), .int 0, .int 0, .ref (b + 129), .ref (b + 130), .ref (b + 131), .ref (b + 132), .int 0]) ∧ (∃ g', V9 101 = cI D 210 g') ∧ (∃ g', V9 124 = cI D 12 g') ∧ (∀ i, i ≠ 100 ∧ i ≠ 101 ∧ i ≠ 124 → V9 i = V i)))) 12 [some (.ref (b + 100)), some (.int (nI m)), some (.int (nI j12))] [] N V12 0 0 := by
    intro g_12
    induction g_12 with
    | zero =>
      intro j12  V12 hj12 i12_0 i12_1 i12_2 i12_3
      obtain rfl : m = j12 := by omega
      obtain ⟨g12, e12⟩ := id i12_1
      obtain ⟨h12, d12⟩ := id i12_2
      refine aw_iload_n dX12_nightsGo_12 rfl ?_
      refine aw_iload_n dX12_nightsGo_13 rfl ?_
      refine aw_icmp_ge (tgt := 41) dX12_nightsGo_14 (by decide) (fun c_3 => ?_) (fun c_3 => ?_)
      rotate_left
      · exact absurd (nI_le (a := m) (b := m) (Nat.le_refl _) (by omega)) c_3
      refine aw_vreti dX12_nightsGo_41 rfl (Nat.le_of_ble_eq_true rfl) (Nat.le_of_ble_eq_true rfl) ?_
      exact ⟨rfl, i12_0, i12_1, i12_2, i12_3⟩
    | succ g_12 ih_12_1 =>
      intro j12  V12 hj12 i12_0 i12_1 i12_2 i12_3
      have hlj12 : j12 < m := by omega
      obtain ⟨g12, e12⟩ := id i12_1
      obtain ⟨h12, d12⟩ := id i12_2
      refine aw_iload_n dX12_nightsGo_12 rfl ?_
      refine aw_iload_n dX12_nightsGo_13 rfl ?_
      refine aw_icmp_ge (tgt := 41) dX12_nightsGo_14 (by decide) (fun c_4 => ?_) (fun c_4 => ?_)
      · exact absurd c_4 (nI_ge (a := j12) (b := m) (by omega) (by omega))
      refine aw_aload_n dX12_nightsGo_17 rfl ?_
      refine aw_get dX12_nightsGo_18 fl_X12_7 i12_0 (by omega) rfl ?_
      refine aw_sipush (v := 208) dX12_nightsGo_21 (by decide) ?_
      refine aw_iald (v := (g12 208)) dX12_nightsGo_24 e12 (by omega) (vp_in_nI (n := 208) (N := 210) (by decide) (by decide)) (congrArg g12 (nI_clamp (n := 208) (by omega))) ?_
      refine aw_sipush (v := 9999) dX12_nightsGo_25 (by decide) ?_
      refine aw_icmp_ge (tgt := 41) dX12_nightsGo_28 (by decide) (fun c_5 => ?_) (fun c_5 => ?_)
      · skip
        refine aw_vreti dX12_nightsGo_41 rfl (Nat.le_of_ble_eq_true rfl) (Nat.le_of_ble_eq_true rfl) ?_
        exact ⟨rfl, i12_0, i12_1, i12_2, i12_3⟩
      · skip
        refine aw_aload_n dX12_nightsGo_31 rfl ?_
        refine aw_callVv (J' := jX12_nightGoes) (As := []) (st := []) dX12_nightsGo_32 tb_1375 ok_X12_nightGoes ⟨_, i12_0⟩ (by omega) rfl rfl (k_nightGoes l D b N V12 hN i12_0 ((i12_3 104 (by omega)).trans k104) _ d12 _ e12) rfl (Nat.le_of_ble_eq_true rfl) ⟨Nat.le_of_ble_eq_true rfl, Nat.le_of_ble_eq_true rfl, Nat.le_of_ble_eq_true rfl, Nat.le_of_ble_eq_true rfl⟩ (fun  N_12 V_11 q_13 => ?_)
        obtain ⟨rfl, ⟨g_7, q_9⟩, ⟨g_8, q_10⟩, fr_6⟩ := q_13
        refine aw_iinc (v := (nI (j12 + 1))) (ls' := [some (.ref (b + 100)), some (.int (nI m)), some (.int (nI (j12 + 1)))]) dX12_nightsGo_35 rfl (fx_up_1 _) (Nat.le_of_ble_eq_true rfl) rfl ?_
        refine aw_goto (tgt := 12) dX12_nightsGo_38 (by decide) ?_
        refine aw_le ?_ (ih_12_1 (j12 + 1)  V_11 (by omega) (((fr_6 _ (by omega)).trans i12_0)) (⟨_, q_9⟩) (⟨_, q_10⟩) (fun i hi => (fr_6 i hi.2).trans (i12_3 i hi)))
        exact ⟨rfl, ⟨rfl, ⟨rfl, trivial⟩⟩⟩
  refine aw_le ?_ (loop_12_0 m 0  (va_up (va_up V 100 (cO 11 [.ref (b + 101), .ref (b + 102), .ref (b + 103), .ref (b + 104), .ref (b + 105), .ref (b + 106), .ref (b + 107), .ref (b + 108), .ref (b + 109), .int 0, .int 0, .int 0, .ref (b + 110), .int 0, .int 0, .int 0, .int 0, .int 0, .int 0, .int 0, .int 0, .int 0, .int 0, .ref (b + 111), .ref (b + 112), .ref (b + 113), .ref (b + 114), .ref (b + 115), .ref (b + 116), .ref (b + 117), .ref (b + 118), .ref (b + 119), .ref (b + 120), .ref (b + 121), .ref (b + 122), .ref (b + 123), .int 0, .int 0, .int 0, .int 0, .ref (b + 124), .ref (b + 125), .ref (b + 126), .ref (b + 127), .ref (b + 128), .int 0, .int 0, .ref (b + 129), .ref (b + 130), .ref (b + 131), .ref (b + 132), .int 0])) 100 (cO 11 [.ref (b + 101), .ref (b + 102), .ref (b + 103), .ref (b + 104), .ref (b + 105), .ref (b + 106), .ref (b + 107), .ref (b + 108), .ref (b + 109), .int 0, .int 0, .int 0, .ref (b + 110), .int 0, .int 0, .int 0, .int 0, .int 0, .int 0, .int 0, .int 0, .int 0, .int 0, .ref (b + 111), .ref (b + 112), .ref (b + 113), .ref (b + 114), .ref (b + 115), .ref (b + 116), .ref (b + 117), .ref (b + 118), .ref (b + 119), .ref (b + 120), .ref (b + 121), .ref (b + 122), .ref (b + 123), .int 0, .int 0, .int 0, .int 0, .ref (b + 124), .ref (b + 125), .ref (b + 126), .ref (b + 127), .ref (b + 128), .int 0, .int 0, .ref (b + 129), .ref (b + 130), .ref (b + 131), .ref (b + 132), .int 0])) (by omega) ((va_up_self _ _ _)) (⟨_, ((va_up_ne _ _ (by omega)).trans ((va_up_ne _ _ (by omega)).trans k101))⟩) (⟨_, ((va_up_ne _ _ (by omega)).trans ((va_up_ne _ _ (by omega)).trans k124))⟩) (fun i hi => (va_up_ne _ _ hi.1).trans (va_up_ne _ _ hi.1)))
  exact ⟨rfl, ⟨rfl, ⟨rfl, trivial⟩⟩⟩

theorem k_nightsGoI (l : Launch) (D : va_G) (b : Nat) (N : Nat) (V : Wd) (hN : 133 ≤ N) (k100 : V 100 = cO 11 [.ref (b + 101), .ref (b + 102), .ref (b + 103), .ref (b + 104), .ref (b + 105), .ref (b + 106), .ref (b + 107), .ref (b + 108), .ref (b + 109), .int 0, .int 0, .int 0, .ref (b + 110), .int 0, .int 0, .int 0, .int 0, .int 0, .int 0, .int 0, .int 0, .int 0, .int 0, .ref (b + 111), .ref (b + 112), .ref (b + 113), .ref (b + 114), .ref (b + 115), .ref (b + 116), .ref (b + 117), .ref (b + 118), .ref (b + 119), .ref (b + 120), .ref (b + 121), .ref (b + 122), .ref (b + 123), .int 0, .int 0, .int 0, .int 0, .ref (b + 124), .ref (b + 125), .ref (b + 126), .ref (b + 127), .ref (b + 128), .int 0, .int 0, .ref (b + 129), .ref (b + 130), .ref (b + 131), .ref (b + 132), .int 0]) (k104 : V 104 = cI D 12 (fun _ => 0)) (g0 : Nat → Int32) (k124 : V 124 = cI D 12 g0) (g1 : Nat → Int32) (k101 : V 101 = cI D 210 g1) (n : Int32) (h1 : ¬ n < 1) (h2 : n ≤ 100) : MV l D b 4 jX12_nightsGo [.ref (b + 100), .int n] N V 0 0 (fun N9 V9 => N = N9 ∧ (V9 100 = cO 11 [.ref (b + 101), .ref (b + 102), .ref (b + 103), .ref (b + 104), .ref (b + 105), .ref (b + 106), .ref (b + 107), .ref (b + 108), .ref (b + 109), .int 0, .int 0, .int 0, .ref (b + 110), .int 0, .int 0, .int 0, .int 0, .int 0, .int 0, .int 0, .int 0, .int 0, .int 0, .ref (b + 111), .ref (b + 112), .ref (b + 113), .ref (b + 114), .ref (b + 115), .ref (b + 116), .ref (b + 117), .ref (b + 118), .ref (b + 119), .ref (b + 120), .ref (b + 121), .ref (b + 122), .ref (b + 123), .int 0, .int 0, .int 0, .int 0, .ref (b + 124), .ref (b + 125), .ref (b + 126), .ref (b + 127), .ref (b + 128), .int 0, .int 0, .ref (b + 129), .ref (b + 130), .ref (b + 131), .ref (b + 132), .int 0]) ∧ (∃ g', V9 101 = cI D 210 g') ∧ (∃ g', V9 124 = cI D 12 g') ∧ (∀ i, i ≠ 100 ∧ i ≠ 101 ∧ i ≠ 124 → V9 i = V i)) := by
  obtain ⟨m, hm, rfl⟩ := fx_le100 h1 h2
  exact k_nightsGo l D b N V hN k100 k104 g0 k124 g1 k101 m hm

set_option maxHeartbeats 4000000 in
set_option maxRecDepth 100000 in
theorem r_nights (l : Launch) (D : va_G) (b : Nat) (N : Nat) (V : Wd) (hN : 133 ≤ N) (hM : M0 D b V) (n : Int32) : MI l D b 5 jX12_nights [.ref (b + 100), .int n] N V 0 0 (fun r N9 V9 => r = (if n < 1 then (-1) else if n ≤ 100 then 0 else (-1)) ∧ N = N9) := by
  obtain ⟨k100, k101, k102, k103, k104, k110, k124, k126, k127, k128, k130, k131⟩ := id hM
  refine mw_of (by decide) (by simp [Value.category]) (Nat.le_of_ble_eq_true rfl) ?_
  show AW l D b jX12_nights (fx_rm 5 0 0) none (fx_MQ D b 0 0 (fx_qi (fun r N9 V9 => r = (if n < 1 then (-1) else if n ≤ 100 then 0 else (-1)) ∧ N = N9))) 0 [some (.ref (b + 100)), some (.int n)] [] N V 0 0
  refine aw_iload_n dX12_nights_0 rfl ?_
  refine aw_iconst (v := 1) dX12_nights_1 (by decide) ?_
  refine aw_bipush (v := 100) dX12_nights_2 (by decide) ?_
  refine aw_callSi (J' := jX12_in) (As := [.int n, .int 1, .int 100]) (st := []) dX12_nights_4 tb_1209 ok_X12_in rfl (k_in l D b N V n 1 100) rfl (Nat.le_of_ble_eq_true rfl) ⟨Nat.le_of_ble_eq_true rfl, Nat.le_of_ble_eq_true rfl, Nat.le_of_ble_eq_true rfl, Nat.le_of_ble_eq_true rfl⟩ (fun r_1 N_2 V_3 q_4 => ?_)
  obtain ⟨rfl, rfl, rfl⟩ := q_4
  rcases inr_cases n 1 100 with ⟨g_5, e_6⟩ | ⟨g_7, g_8, g_9, e_10⟩ | ⟨g_11, g_12, g_13, e_14⟩
  · skip
    refine aw_eqi (y := 0) e_6 ?_
    refine aw_if_ne (tgt := 12) dX12_nights_7 (by decide) (fun c_15 => ?_) (fun c_15 => ?_)
    · exact absurd rfl c_15
    refine aw_iconst (v := (-1)) dX12_nights_10 (by decide) ?_
    refine aw_ireti dX12_nights_11 rfl (Nat.le_of_ble_eq_true rfl) (Nat.le_of_ble_eq_true rfl) ?_
    exact ⟨by (first | (simp only [g_5, c_15, reduceIte]; done) | (simp only [g_5, reduceIte]; done)), rfl⟩
  · skip
    refine aw_eqi (y := 0) e_10 ?_
    refine aw_if_ne (tgt := 12) dX12_nights_7 (by decide) (fun c_16 => ?_) (fun c_16 => ?_)
    · exact absurd rfl c_16
    refine aw_iconst (v := (-1)) dX12_nights_10 (by decide) ?_
    refine aw_ireti dX12_nights_11 rfl (Nat.le_of_ble_eq_true rfl) (Nat.le_of_ble_eq_true rfl) ?_
    exact ⟨by (first | (simp only [g_7, g_8, g_9, c_16, reduceIte]; done) | (simp only [g_7, g_8, g_9, reduceIte]; done)), rfl⟩
  · skip
    refine aw_eqi (y := 1) e_14 ?_
    refine aw_if_ne (tgt := 12) dX12_nights_7 (by decide) (fun c_17 => ?_) (fun c_17 => ?_)
    rotate_left
    · exact absurd c_17 (by decide)
    refine aw_aload_n dX12_nights_12 rfl ?_
    refine aw_iload_n dX12_nights_13 rfl ?_
    refine aw_callVv (J' := jX12_nightsGo) (As := [.int n]) (st := []) dX12_nights_14 tb_1371 ok_X12_nightsGo ⟨_, k100⟩ (by omega) rfl rfl (k_nightsGoI l D b N V hN k100 k104 _ k124 _ k101 n g_11 g_13) rfl (Nat.le_of_ble_eq_true rfl) ⟨Nat.le_of_ble_eq_true rfl, Nat.le_of_ble_eq_true rfl, Nat.le_of_ble_eq_true rfl, Nat.le_of_ble_eq_true rfl⟩ (fun  N_25 V_24 q_26 => ?_)
    obtain ⟨rfl, q_18, ⟨g_21, q_19⟩, ⟨g_22, q_20⟩, fr_23⟩ := q_26
    refine aw_aload_n dX12_nights_17 rfl ?_
    refine aw_get dX12_nights_18 fl_X12_321 q_18 (by omega) rfl ?_
    refine aw_ireti dX12_nights_21 rfl (Nat.le_of_ble_eq_true rfl) (Nat.le_of_ble_eq_true rfl) ?_
    exact ⟨by (first | (simp only [g_11, g_12, g_13, c_17, reduceIte]; done) | (simp only [g_11, g_12, g_13, reduceIte]; done)), rfl⟩

set_option maxHeartbeats 4000000 in
set_option maxRecDepth 100000 in
theorem r_tried (l : Launch) (D : va_G) (b : Nat) (N : Nat) (V : Wd) (hN : 133 ≤ N) (hM : M0 D b V) (n : Int32) (x : Int32) : MI l D b 5 jX12_tried [.ref (b + 100), .int n, .int x] N V 0 0 (fun r N9 V9 => r = (if n < 1 then (-1) else if 100 < n then (-1) else if cbt x = 0 then (-1) else 0) ∧ N = N9) := by
  obtain ⟨k100, k101, k102, k103, k104, k110, k124, k126, k127, k128, k130, k131⟩ := id hM
  refine mw_of (by decide) (by simp [Value.category]) (Nat.le_of_ble_eq_true rfl) ?_
  show AW l D b jX12_tried (fx_rm 5 0 0) none (fx_MQ D b 0 0 (fx_qi (fun r N9 V9 => r = (if n < 1 then (-1) else if 100 < n then (-1) else if cbt x = 0 then (-1) else 0) ∧ N = N9))) 0 [some (.ref (b + 100)), some (.int n), some (.int x), none] [] N V 0 0
  refine aw_iload_n dX12_tried_0 rfl ?_
  refine aw_iconst (v := 1) dX12_tried_1 (by decide) ?_
  refine aw_bipush (v := 100) dX12_tried_2 (by decide) ?_
  refine aw_callSi (J' := jX12_in) (As := [.int n, .int 1, .int 100]) (st := []) dX12_tried_4 tb_1209 ok_X12_in rfl (k_in l D b N V n 1 100) rfl (Nat.le_of_ble_eq_true rfl) ⟨Nat.le_of_ble_eq_true rfl, Nat.le_of_ble_eq_true rfl, Nat.le_of_ble_eq_true rfl, Nat.le_of_ble_eq_true rfl⟩ (fun r_1 N_2 V_3 q_4 => ?_)
  obtain ⟨rfl, rfl, rfl⟩ := q_4
  rcases inr_cases n 1 100 with ⟨g_5, e_6⟩ | ⟨g_7, g_8, g_9, e_10⟩ | ⟨g_11, g_12, g_13, e_14⟩
  · skip
    refine aw_eqi (y := 0) e_6 ?_
    refine aw_if_eq (tgt := 52) dX12_tried_7 (by decide) (fun c_15 => ?_) (fun c_15 => ?_)
    rotate_left
    · exact absurd (by decide) c_15
    refine aw_iconst (v := (-1)) dX12_tried_52 (by decide) ?_
    refine aw_ireti dX12_tried_53 rfl (Nat.le_of_ble_eq_true rfl) (Nat.le_of_ble_eq_true rfl) ?_
    exact ⟨by simp only [cbt, g_5, reduceIte, fx_10], rfl⟩
  · skip
    refine aw_eqi (y := 0) e_10 ?_
    refine aw_if_eq (tgt := 52) dX12_tried_7 (by decide) (fun c_16 => ?_) (fun c_16 => ?_)
    rotate_left
    · exact absurd (by decide) c_16
    refine aw_iconst (v := (-1)) dX12_tried_52 (by decide) ?_
    refine aw_ireti dX12_tried_53 rfl (Nat.le_of_ble_eq_true rfl) (Nat.le_of_ble_eq_true rfl) ?_
    exact ⟨by simp only [cbt, g_7, g_8, g_9, reduceIte, fx_10], rfl⟩
  · skip
    refine aw_eqi (y := 1) e_14 ?_
    refine aw_if_eq (tgt := 52) dX12_tried_7 (by decide) (fun c_17 => ?_) (fun c_17 => ?_)
    · exact absurd c_17 (by decide)
    refine aw_iload_n dX12_tried_10 rfl ?_
    refine aw_iconst (v := 0) dX12_tried_11 (by decide) ?_
    refine aw_iconst (v := 1) dX12_tried_12 (by decide) ?_
    refine aw_callSi (J' := jX12_in) (As := [.int x, .int 0, .int 1]) (st := []) dX12_tried_13 tb_1209 ok_X12_in rfl (k_in l D b N V x 0 1) rfl (Nat.le_of_ble_eq_true rfl) ⟨Nat.le_of_ble_eq_true rfl, Nat.le_of_ble_eq_true rfl, Nat.le_of_ble_eq_true rfl, Nat.le_of_ble_eq_true rfl⟩ (fun r_18 N_19 V_20 q_21 => ?_)
    obtain ⟨rfl, rfl, rfl⟩ := q_21
    rcases inr_cases x 0 1 with ⟨g_22, e_23⟩ | ⟨g_24, g_25, g_26, e_27⟩ | ⟨g_28, g_29, g_30, e_31⟩
    · skip
      refine aw_eqi (y := 0) e_23 ?_
      refine aw_if_ne (tgt := 54) dX12_tried_16 (by decide) (fun c_32 => ?_) (fun c_32 => ?_)
      · exact absurd rfl c_32
      refine aw_aload_n dX12_tried_19 rfl ?_
      refine aw_iload_n dX12_tried_20 rfl ?_
      refine aw_bipush (v := 10) dX12_tried_21 (by decide) ?_
      refine aw_isub dX12_tried_23 ?_
      refine aw_callVi (J' := jX12_isTold) (As := [.int (x - 10)]) (st := []) dX12_tried_24 tb_1351 ok_X12_isTold ⟨_, k100⟩ (by omega) rfl rfl (k_isTold l D b N V hN k100 (x - 10)) rfl (Nat.le_of_ble_eq_true rfl) ⟨Nat.le_of_ble_eq_true rfl, Nat.le_of_ble_eq_true rfl, Nat.le_of_ble_eq_true rfl, Nat.le_of_ble_eq_true rfl⟩ (fun r_33 N_34 V_35 q_36 => ?_)
      obtain ⟨rfl, rfl, rfl⟩ := q_36
      refine aw_if_ne (tgt := 54) dX12_tried_27 (by decide) (fun c_37 => ?_) (fun c_37 => ?_)
      · exact absurd rfl c_37
      refine aw_aload_n dX12_tried_30 rfl ?_
      refine aw_iload_n dX12_tried_31 rfl ?_
      refine aw_bipush (v := 30) dX12_tried_32 (by decide) ?_
      refine aw_isub dX12_tried_34 ?_
      refine aw_callVi (J' := jX12_isTold) (As := [.int (x - 30)]) (st := []) dX12_tried_35 tb_1351 ok_X12_isTold ⟨_, k100⟩ (by omega) rfl rfl (k_isTold l D b N V hN k100 (x - 30)) rfl (Nat.le_of_ble_eq_true rfl) ⟨Nat.le_of_ble_eq_true rfl, Nat.le_of_ble_eq_true rfl, Nat.le_of_ble_eq_true rfl, Nat.le_of_ble_eq_true rfl⟩ (fun r_38 N_39 V_40 q_41 => ?_)
      obtain ⟨rfl, rfl, rfl⟩ := q_41
      refine aw_if_ne (tgt := 54) dX12_tried_38 (by decide) (fun c_42 => ?_) (fun c_42 => ?_)
      · exact absurd rfl c_42
      refine aw_aload_n dX12_tried_41 rfl ?_
      refine aw_iload_n dX12_tried_42 rfl ?_
      refine aw_bipush (v := 50) dX12_tried_43 (by decide) ?_
      refine aw_isub dX12_tried_45 ?_
      refine aw_callVi (J' := jX12_isDoor) (As := [.int (x - 50)]) (st := []) dX12_tried_46 tb_1359 ok_X12_isDoor ⟨_, k100⟩ (by omega) rfl rfl (k_isDoor l D b N V hN k100 (x - 50)) rfl (Nat.le_of_ble_eq_true rfl) ⟨Nat.le_of_ble_eq_true rfl, Nat.le_of_ble_eq_true rfl, Nat.le_of_ble_eq_true rfl, Nat.le_of_ble_eq_true rfl⟩ (fun r_43 N_44 V_45 q_46 => ?_)
      obtain ⟨rfl, rfl, rfl⟩ := q_46
      refine aw_if_ne (tgt := 54) dX12_tried_49 (by decide) (fun c_47 => ?_) (fun c_47 => ?_)
      · exact absurd rfl c_47
      refine aw_iconst (v := (-1)) dX12_tried_52 (by decide) ?_
      refine aw_ireti dX12_tried_53 rfl (Nat.le_of_ble_eq_true rfl) (Nat.le_of_ble_eq_true rfl) ?_
      exact ⟨by simp only [cbt, g_11, g_12, g_13, g_22, reduceIte, fx_10], rfl⟩
    · skip
      refine aw_eqi (y := 0) e_27 ?_
      refine aw_if_ne (tgt := 54) dX12_tried_16 (by decide) (fun c_48 => ?_) (fun c_48 => ?_)
      · exact absurd rfl c_48
      refine aw_aload_n dX12_tried_19 rfl ?_
      refine aw_iload_n dX12_tried_20 rfl ?_
      refine aw_bipush (v := 10) dX12_tried_21 (by decide) ?_
      refine aw_isub dX12_tried_23 ?_
      refine aw_callVi (J' := jX12_isTold) (As := [.int (x - 10)]) (st := []) dX12_tried_24 tb_1351 ok_X12_isTold ⟨_, k100⟩ (by omega) rfl rfl (k_isTold l D b N V hN k100 (x - 10)) rfl (Nat.le_of_ble_eq_true rfl) ⟨Nat.le_of_ble_eq_true rfl, Nat.le_of_ble_eq_true rfl, Nat.le_of_ble_eq_true rfl, Nat.le_of_ble_eq_true rfl⟩ (fun r_49 N_50 V_51 q_52 => ?_)
      obtain ⟨rfl, rfl, rfl⟩ := q_52
      refine aw_if_ne (tgt := 54) dX12_tried_27 (by decide) (fun c_53 => ?_) (fun c_53 => ?_)
      · exact absurd rfl c_53
      refine aw_aload_n dX12_tried_30 rfl ?_
      refine aw_iload_n dX12_tried_31 rfl ?_
      refine aw_bipush (v := 30) dX12_tried_32 (by decide) ?_
      refine aw_isub dX12_tried_34 ?_
      refine aw_callVi (J' := jX12_isTold) (As := [.int (x - 30)]) (st := []) dX12_tried_35 tb_1351 ok_X12_isTold ⟨_, k100⟩ (by omega) rfl rfl (k_isTold l D b N V hN k100 (x - 30)) rfl (Nat.le_of_ble_eq_true rfl) ⟨Nat.le_of_ble_eq_true rfl, Nat.le_of_ble_eq_true rfl, Nat.le_of_ble_eq_true rfl, Nat.le_of_ble_eq_true rfl⟩ (fun r_54 N_55 V_56 q_57 => ?_)
      obtain ⟨rfl, rfl, rfl⟩ := q_57
      refine aw_if_ne (tgt := 54) dX12_tried_38 (by decide) (fun c_58 => ?_) (fun c_58 => ?_)
      · exact absurd rfl c_58
      refine aw_aload_n dX12_tried_41 rfl ?_
      refine aw_iload_n dX12_tried_42 rfl ?_
      refine aw_bipush (v := 50) dX12_tried_43 (by decide) ?_
      refine aw_isub dX12_tried_45 ?_
      refine aw_callVi (J' := jX12_isDoor) (As := [.int (x - 50)]) (st := []) dX12_tried_46 tb_1359 ok_X12_isDoor ⟨_, k100⟩ (by omega) rfl rfl (k_isDoor l D b N V hN k100 (x - 50)) rfl (Nat.le_of_ble_eq_true rfl) ⟨Nat.le_of_ble_eq_true rfl, Nat.le_of_ble_eq_true rfl, Nat.le_of_ble_eq_true rfl, Nat.le_of_ble_eq_true rfl⟩ (fun r_59 N_60 V_61 q_62 => ?_)
      obtain ⟨rfl, rfl, rfl⟩ := q_62
      refine aw_if_ne (tgt := 54) dX12_tried_49 (by decide) (fun c_63 => ?_) (fun c_63 => ?_)
      · exact absurd rfl c_63
      refine aw_iconst (v := (-1)) dX12_tried_52 (by decide) ?_
      refine aw_ireti dX12_tried_53 rfl (Nat.le_of_ble_eq_true rfl) (Nat.le_of_ble_eq_true rfl) ?_
      exact ⟨by simp only [cbt, g_11, g_12, g_13, g_24, g_25, g_26, reduceIte, fx_10], rfl⟩
    · skip
      refine aw_eqi (y := 1) e_31 ?_
      refine aw_if_ne (tgt := 54) dX12_tried_16 (by decide) (fun c_64 => ?_) (fun c_64 => ?_)
      rotate_left
      · exact absurd c_64 (by decide)
      refine aw_aload_n dX12_tried_54 rfl ?_
      refine aw_get dX12_tried_55 fl_X12_7 k100 (by omega) rfl ?_
      refine aw_aload_n dX12_tried_58 rfl ?_
      refine aw_get dX12_tried_59 fl_X12_13 k100 (by omega) rfl ?_
      refine aw_callSv (J' := jX12_copies) (As := [.ref (b + 101), .ref (b + 102)]) (st := []) dX12_tried_62 tb_1299 ok_X12_copies rfl (k_copies l D b N V 101 102 (by omega) (by omega) (by omega) _ _ k101 k102) rfl (Nat.le_of_ble_eq_true rfl) ⟨Nat.le_of_ble_eq_true rfl, Nat.le_of_ble_eq_true rfl, Nat.le_of_ble_eq_true rfl, Nat.le_of_ble_eq_true rfl⟩ (fun  N_69 V_68 q_70 => ?_)
      obtain ⟨rfl, ⟨g_66, q_67⟩, fr_65⟩ := q_70
      refine aw_aload_n dX12_tried_65 rfl ?_
      refine aw_iload_n dX12_tried_66 rfl ?_
      refine aw_callVv (J' := jX12_nightsGo) (As := [.int n]) (st := []) dX12_tried_67 tb_1371 ok_X12_nightsGo ⟨_, ((fr_65 _ (by omega)).trans k100)⟩ (by omega) rfl rfl (k_nightsGoI l D b N V_68 hN ((fr_65 _ (by omega)).trans k100) ((fr_65 _ (by omega)).trans k104) _ ((fr_65 _ (by omega)).trans k124) _ ((fr_65 _ (by omega)).trans k101) n g_11 g_13) rfl (Nat.le_of_ble_eq_true rfl) ⟨Nat.le_of_ble_eq_true rfl, Nat.le_of_ble_eq_true rfl, Nat.le_of_ble_eq_true rfl, Nat.le_of_ble_eq_true rfl⟩ (fun  N_78 V_77 q_79 => ?_)
      obtain ⟨rfl, q_71, ⟨g_74, q_72⟩, ⟨g_75, q_73⟩, fr_76⟩ := q_79
      refine aw_iload_n dX12_tried_70 rfl ?_
      rcases fx_is01 g_28 g_30 with e01 | e01
      · skip
        refine aw_lookup (off := 25) (tgt := 96) dX12_tried_71 (by decide) (by rw [e01]; decide) (by decide) ?_
        refine aw_aload_n dX12_tried_96 rfl ?_
        refine aw_get dX12_tried_97 fl_X12_321 q_71 (by omega) rfl ?_
        refine aw_istore_n (ls' := [some (.ref (b + 100)), some (.int n), some (.int x), some (.int 0)]) dX12_tried_100 (Nat.le_of_ble_eq_true rfl) rfl ?_
        refine aw_goto (tgt := 163) dX12_tried_101 (by decide) ?_
        refine aw_aload_n dX12_tried_163 rfl ?_
        refine aw_get dX12_tried_164 fl_X12_13 q_71 (by omega) rfl ?_
        refine aw_aload_n dX12_tried_167 rfl ?_
        refine aw_get dX12_tried_168 fl_X12_7 q_71 (by omega) rfl ?_
        refine aw_callSv (J' := jX12_copies) (As := [.ref (b + 102), .ref (b + 101)]) (st := []) dX12_tried_171 tb_1299 ok_X12_copies rfl (k_copies l D b N V_77 102 101 (by omega) (by omega) (by omega) _ _ ((fr_76 _ (by omega)).trans q_67) q_72) rfl (Nat.le_of_ble_eq_true rfl) ⟨Nat.le_of_ble_eq_true rfl, Nat.le_of_ble_eq_true rfl, Nat.le_of_ble_eq_true rfl, Nat.le_of_ble_eq_true rfl⟩ (fun  N_84 V_83 q_85 => ?_)
        obtain ⟨rfl, ⟨g_81, q_82⟩, fr_80⟩ := q_85
        refine aw_iload_n dX12_tried_174 rfl ?_
        refine aw_ireti dX12_tried_175 rfl (Nat.le_of_ble_eq_true rfl) (Nat.le_of_ble_eq_true rfl) ?_
        exact ⟨by simp only [cbt, g_11, g_12, g_13, g_28, g_29, g_30, reduceIte, fx_10], rfl⟩
      · skip
        refine aw_lookup (off := 33) (tgt := 104) dX12_tried_71 (by decide) (by rw [e01]; decide) (by decide) ?_
        refine aw_aload_n dX12_tried_104 rfl ?_
        refine aw_get dX12_tried_105 fl_X12_324 q_71 (by omega) rfl ?_
        refine aw_istore_n (ls' := [some (.ref (b + 100)), some (.int n), some (.int x), some (.int 0)]) dX12_tried_108 (Nat.le_of_ble_eq_true rfl) rfl ?_
        refine aw_goto (tgt := 163) dX12_tried_109 (by decide) ?_
        refine aw_aload_n dX12_tried_163 rfl ?_
        refine aw_get dX12_tried_164 fl_X12_13 q_71 (by omega) rfl ?_
        refine aw_aload_n dX12_tried_167 rfl ?_
        refine aw_get dX12_tried_168 fl_X12_7 q_71 (by omega) rfl ?_
        refine aw_callSv (J' := jX12_copies) (As := [.ref (b + 102), .ref (b + 101)]) (st := []) dX12_tried_171 tb_1299 ok_X12_copies rfl (k_copies l D b N V_77 102 101 (by omega) (by omega) (by omega) _ _ ((fr_76 _ (by omega)).trans q_67) q_72) rfl (Nat.le_of_ble_eq_true rfl) ⟨Nat.le_of_ble_eq_true rfl, Nat.le_of_ble_eq_true rfl, Nat.le_of_ble_eq_true rfl, Nat.le_of_ble_eq_true rfl⟩ (fun  N_90 V_89 q_91 => ?_)
        obtain ⟨rfl, ⟨g_87, q_88⟩, fr_86⟩ := q_91
        refine aw_iload_n dX12_tried_174 rfl ?_
        refine aw_ireti dX12_tried_175 rfl (Nat.le_of_ble_eq_true rfl) (Nat.le_of_ble_eq_true rfl) ?_
        exact ⟨by simp only [cbt, g_11, g_12, g_13, g_28, g_29, g_30, reduceIte, fx_10], rfl⟩

set_option maxHeartbeats 4000000 in
set_option maxRecDepth 100000 in
theorem r_personIs (l : Launch) (D : va_G) (b : Nat) (N : Nat) (V : Wd) (hN : 133 ≤ N) (hM : M0 D b V) (p : Int32) (x : Int32) : MI l D b 2 jX12_personIs [.ref (b + 100), .int p, .int x] N V 0 0 (fun r N9 V9 => r = (-1) ∧ N = N9) := by
  obtain ⟨k100, k101, k102, k103, k104, k110, k124, k126, k127, k128, k130, k131⟩ := id hM
  refine mw_of (by decide) (by simp [Value.category]) (Nat.le_of_ble_eq_true rfl) ?_
  show AW l D b jX12_personIs (fx_rm 2 0 0) none (fx_MQ D b 0 0 (fx_qi (fun r N9 V9 => r = (-1) ∧ N = N9))) 0 [some (.ref (b + 100)), some (.int p), some (.int x)] [] N V 0 0
  refine aw_aload_n dX12_personIs_0 rfl ?_
  refine aw_iload_n dX12_personIs_1 rfl ?_
  refine aw_callVi (J' := jX12_isTold) (As := [.int p]) (st := []) dX12_personIs_2 tb_1351 ok_X12_isTold ⟨_, k100⟩ (by omega) rfl rfl (k_isTold l D b N V hN k100 p) rfl (Nat.le_of_ble_eq_true rfl) ⟨Nat.le_of_ble_eq_true rfl, Nat.le_of_ble_eq_true rfl, Nat.le_of_ble_eq_true rfl, Nat.le_of_ble_eq_true rfl⟩ (fun r_1 N_2 V_3 q_4 => ?_)
  obtain ⟨rfl, rfl, rfl⟩ := q_4
  refine aw_if_ne (tgt := 10) dX12_personIs_5 (by decide) (fun c_5 => ?_) (fun c_5 => ?_)
  · exact absurd rfl c_5
  refine aw_iconst (v := (-1)) dX12_personIs_8 (by decide) ?_
  refine aw_ireti dX12_personIs_9 rfl (Nat.le_of_ble_eq_true rfl) (Nat.le_of_ble_eq_true rfl) ?_
  exact ⟨rfl, rfl⟩

set_option maxHeartbeats 4000000 in
set_option maxRecDepth 100000 in
theorem r_doorIs (l : Launch) (D : va_G) (b : Nat) (N : Nat) (V : Wd) (hN : 133 ≤ N) (hM : M0 D b V) (d : Int32) (x : Int32) : MI l D b 2 jX12_doorIs [.ref (b + 100), .int d, .int x] N V 0 0 (fun r N9 V9 => r = (-1) ∧ N = N9) := by
  obtain ⟨k100, k101, k102, k103, k104, k110, k124, k126, k127, k128, k130, k131⟩ := id hM
  refine mw_of (by decide) (by simp [Value.category]) (Nat.le_of_ble_eq_true rfl) ?_
  show AW l D b jX12_doorIs (fx_rm 2 0 0) none (fx_MQ D b 0 0 (fx_qi (fun r N9 V9 => r = (-1) ∧ N = N9))) 0 [some (.ref (b + 100)), some (.int d), some (.int x)] [] N V 0 0
  refine aw_aload_n dX12_doorIs_0 rfl ?_
  refine aw_iload_n dX12_doorIs_1 rfl ?_
  refine aw_callVi (J' := jX12_isDoor) (As := [.int d]) (st := []) dX12_doorIs_2 tb_1359 ok_X12_isDoor ⟨_, k100⟩ (by omega) rfl rfl (k_isDoor l D b N V hN k100 d) rfl (Nat.le_of_ble_eq_true rfl) ⟨Nat.le_of_ble_eq_true rfl, Nat.le_of_ble_eq_true rfl, Nat.le_of_ble_eq_true rfl, Nat.le_of_ble_eq_true rfl⟩ (fun r_1 N_2 V_3 q_4 => ?_)
  obtain ⟨rfl, rfl, rfl⟩ := q_4
  refine aw_if_ne (tgt := 10) dX12_doorIs_5 (by decide) (fun c_5 => ?_) (fun c_5 => ?_)
  · exact absurd rfl c_5
  refine aw_iconst (v := (-1)) dX12_doorIs_8 (by decide) ?_
  refine aw_ireti dX12_doorIs_9 rfl (Nat.le_of_ble_eq_true rfl) (Nat.le_of_ble_eq_true rfl) ?_
  exact ⟨rfl, rfl⟩

set_option maxHeartbeats 4000000 in
set_option maxRecDepth 100000 in
theorem r_taught (l : Launch) (D : va_G) (b : Nat) (N : Nat) (V : Wd) (hN : 133 ≤ N) (hM : M0 D b V) (p : Int32) (d : Int32) : MI l D b 2 jX12_taught [.ref (b + 100), .int p, .int d] N V 0 0 (fun r N9 V9 => r = (-1) ∧ N = N9) := by
  obtain ⟨k100, k101, k102, k103, k104, k110, k124, k126, k127, k128, k130, k131⟩ := id hM
  refine mw_of (by decide) (by simp [Value.category]) (Nat.le_of_ble_eq_true rfl) ?_
  show AW l D b jX12_taught (fx_rm 2 0 0) none (fx_MQ D b 0 0 (fx_qi (fun r N9 V9 => r = (-1) ∧ N = N9))) 0 [some (.ref (b + 100)), some (.int p), some (.int d), none, none, none, none] [] N V 0 0
  refine aw_aload_n dX12_taught_0 rfl ?_
  refine aw_iload_n dX12_taught_1 rfl ?_
  refine aw_callVi (J' := jX12_isTold) (As := [.int p]) (st := []) dX12_taught_2 tb_1351 ok_X12_isTold ⟨_, k100⟩ (by omega) rfl rfl (k_isTold l D b N V hN k100 p) rfl (Nat.le_of_ble_eq_true rfl) ⟨Nat.le_of_ble_eq_true rfl, Nat.le_of_ble_eq_true rfl, Nat.le_of_ble_eq_true rfl, Nat.le_of_ble_eq_true rfl⟩ (fun r_1 N_2 V_3 q_4 => ?_)
  obtain ⟨rfl, rfl, rfl⟩ := q_4
  refine aw_if_eq (tgt := 16) dX12_taught_5 (by decide) (fun c_5 => ?_) (fun c_5 => ?_)
  rotate_left
  · exact absurd (by decide) c_5
  refine aw_iconst (v := (-1)) dX12_taught_16 (by decide) ?_
  refine aw_ireti dX12_taught_17 rfl (Nat.le_of_ble_eq_true rfl) (Nat.le_of_ble_eq_true rfl) ?_
  exact ⟨rfl, rfl⟩

set_option maxHeartbeats 4000000 in
set_option maxRecDepth 100000 in
theorem k_laysWho (l : Launch) (D : va_G) (b : Nat) (N : Nat) (V : Wd) (hN : 133 ≤ N) (k100 : V 100 = cO 11 [.ref (b + 101), .ref (b + 102), .ref (b + 103), .ref (b + 104), .ref (b + 105), .ref (b + 106), .ref (b + 107), .ref (b + 108), .ref (b + 109), .int 0, .int 0, .int 0, .ref (b + 110), .int 0, .int 0, .int 0, .int 0, .int 0, .int 0, .int 0, .int 0, .int 0, .int 0, .ref (b + 111), .ref (b + 112), .ref (b + 113), .ref (b + 114), .ref (b + 115), .ref (b + 116), .ref (b + 117), .ref (b + 118), .ref (b + 119), .ref (b + 120), .ref (b + 121), .ref (b + 122), .ref (b + 123), .int 0, .int 0, .int 0, .int 0, .ref (b + 124), .ref (b + 125), .ref (b + 126), .ref (b + 127), .ref (b + 128), .int 0, .int 0, .ref (b + 129), .ref (b + 130), .ref (b + 131), .ref (b + 132), .int 0]) (g0 : Nat → Int32) (k128 : V 128 = cI D 16 g0) : MV l D b 2 jX12_laysWho [.ref (b + 100)] N V 0 0 (fun N9 V9 => N = N9 ∧ (∃ g', V9 128 = cI D 16 g' ∧ ∀ k, k < 16 → g' k = (-1)) ∧ ∀ i, i ≠ 128 → V9 i = V i) := by
  refine mw_of (by decide) (by simp [Value.category]) (Nat.le_of_ble_eq_true rfl) ?_
  show AW l D b jX12_laysWho (fx_rm 2 0 0) none (fx_MQ D b 0 0 (fx_qv (fun N9 V9 => N = N9 ∧ (∃ g', V9 128 = cI D 16 g' ∧ ∀ k, k < 16 → g' k = (-1)) ∧ ∀ i, i ≠ 128 → V9 i = V i))) 0 [some (.ref (b + 100)), none] [] N V 0 0
  refine aw_iconst (v := 0) dX12_laysWho_0 (by decide) ?_
  refine aw_istore_n (ls' := [some (.ref (b + 100)), some (.int 0)]) dX12_laysWho_1 (Nat.le_of_ble_eq_true rfl) rfl ?_
  have loop_2_0 : ∀ (g_2 : Nat), ∀ (j2 : Nat)  (V2 : Wd), j2 + g_2 = 16 → (∃ g2 : Nat → Int32, V2 128 = cI D 16 g2 ∧ ∀ k, k < j2 → g2 k = (-1)) → (∀ i, i ≠ 128 → V2 i = V i) → AW l D b jX12_laysWho (fx_rm 2 0 0) none (fx_MQ D b 0 0 (fx_qv (fun N9 V9 => N = N9 ∧ (∃ g', V9 128 = cI D 16 g' ∧ ∀ k, k < 16 → g' k = (-1)) ∧ ∀ i, i ≠ 128 → V9 i = V i))) 2 [some (.ref (b + 100)), some (.int (nI j2))] [] N V2 0 0 := by
    intro g_2
    induction g_2 with
    | zero =>
      intro j2  V2 hj2 i2_0 i2_1
      obtain rfl : j2 = 16 := by omega
      obtain ⟨g2, e2, z2⟩ := id i2_0
      refine aw_iload_n dX12_laysWho_2 rfl ?_
      refine aw_bipush (v := 16) dX12_laysWho_3 (by decide) ?_
      refine aw_icmp_ge (tgt := 37) dX12_laysWho_5 (by decide) (fun c_3 => ?_) (fun c_3 => ?_)
      rotate_left
      · exact absurd (nI_le (a := 16) (b := 16) (Nat.le_refl _) (by omega)) c_3
      refine aw_vreti dX12_laysWho_37 rfl (Nat.le_of_ble_eq_true rfl) (Nat.le_of_ble_eq_true rfl) ?_
      exact ⟨rfl, ⟨_, e2, z2⟩, i2_1⟩
    | succ g_2 ih_2_1 =>
      intro j2  V2 hj2 i2_0 i2_1
      have hlj2 : j2 < 16 := by omega
      obtain ⟨g2, e2, z2⟩ := id i2_0
      refine aw_iload_n dX12_laysWho_2 rfl ?_
      refine aw_bipush (v := 16) dX12_laysWho_3 (by decide) ?_
      refine aw_icmp_ge (tgt := 37) dX12_laysWho_5 (by decide) (fun c_4 => ?_) (fun c_4 => ?_)
      · exact absurd c_4 (nI_ge (a := j2) (b := 16) (by omega) (by omega))
      refine aw_aload_n dX12_laysWho_8 rfl ?_
      refine aw_get dX12_laysWho_9 fl_X12_93 ((i2_1 100 (by omega)).trans k100) (by omega) rfl ?_
      refine aw_iload_n dX12_laysWho_12 rfl ?_
      refine aw_aload_n dX12_laysWho_13 rfl ?_
      refine aw_iload_n dX12_laysWho_14 rfl ?_
      refine aw_callVi (J' := jX12_isDoor) (As := [.int (nI j2)]) (st := [.int (nI j2), .ref (b + 128)]) dX12_laysWho_15 tb_1359 ok_X12_isDoor ⟨_, ((i2_1 100 (by omega)).trans k100)⟩ (by omega) rfl rfl (k_isDoor l D b N V2 hN ((i2_1 100 (by omega)).trans k100) (nI j2)) rfl (Nat.le_of_ble_eq_true rfl) ⟨Nat.le_of_ble_eq_true rfl, Nat.le_of_ble_eq_true rfl, Nat.le_of_ble_eq_true rfl, Nat.le_of_ble_eq_true rfl⟩ (fun r_5 N_6 V_7 q_8 => ?_)
      obtain ⟨rfl, rfl, rfl⟩ := q_8
      refine aw_if_eq (tgt := 29) dX12_laysWho_18 (by decide) (fun c_9 => ?_) (fun c_9 => ?_)
      rotate_left
      · exact absurd (by decide) c_9
      refine aw_iconst (v := (-1)) dX12_laysWho_29 (by decide) ?_
      refine aw_iast dX12_laysWho_30 e2 (by omega) (vp_in_nI (n := j2) (by omega) (by omega)) ?_
      refine aw_iinc (v := (nI (j2 + 1))) (ls' := [some (.ref (b + 100)), some (.int (nI (j2 + 1)))]) dX12_laysWho_31 rfl (fx_up_1 _) (Nat.le_of_ble_eq_true rfl) rfl ?_
      refine aw_goto (tgt := 2) dX12_laysWho_34 (by decide) ?_
      refine aw_le ?_ (ih_2_1 (j2 + 1)  (va_up V2 128 (cI D 16 (upd g2 (Int32.toNatClampNeg (nI j2)) (-1)))) (by omega) (⟨_, va_up_self _ _ _, fun k hk => by rw [nI_clamp (n := j2) (by omega)]; exact (if e : k = j2 then (by subst e; exact pk_us) else (by rw [pk_un e]; exact z2 k (by omega)))⟩) (fun i hi => (va_up_ne _ _ hi).trans (i2_1 i hi)))
      exact ⟨rfl, ⟨rfl, trivial⟩⟩
  refine aw_le ?_ (loop_2_0 16 0  V (by omega) (⟨_, k128, fun k hk => absurd hk (Nat.not_lt_zero k)⟩) (fun i _ => rfl))
  exact ⟨rfl, ⟨rfl, trivial⟩⟩

set_option maxHeartbeats 4000000 in
set_option maxRecDepth 100000 in
theorem k_isCrew (l : Launch) (D : va_G) (b : Nat) (N : Nat) (V : Wd) (hN : 133 ≤ N) (k100 : V 100 = cO 11 [.ref (b + 101), .ref (b + 102), .ref (b + 103), .ref (b + 104), .ref (b + 105), .ref (b + 106), .ref (b + 107), .ref (b + 108), .ref (b + 109), .int 0, .int 0, .int 0, .ref (b + 110), .int 0, .int 0, .int 0, .int 0, .int 0, .int 0, .int 0, .int 0, .int 0, .int 0, .ref (b + 111), .ref (b + 112), .ref (b + 113), .ref (b + 114), .ref (b + 115), .ref (b + 116), .ref (b + 117), .ref (b + 118), .ref (b + 119), .ref (b + 120), .ref (b + 121), .ref (b + 122), .ref (b + 123), .int 0, .int 0, .int 0, .int 0, .ref (b + 124), .ref (b + 125), .ref (b + 126), .ref (b + 127), .ref (b + 128), .int 0, .int 0, .ref (b + 129), .ref (b + 130), .ref (b + 131), .ref (b + 132), .int 0]) (g0 : Nat → Int32) (k128 : V 128 = cI D 16 g0) (z : ∀ k, k < 16 → g0 k = (-1)) (x : Int32) : MI l D b 0 jX12_isCrew [.ref (b + 100), .int x] N V 0 0 (fun r N9 V9 => r = 1 ∧ N = N9 ∧ V = V9) := by
  refine mw_of (by decide) (by simp [Value.category]) (Nat.le_of_ble_eq_true rfl) ?_
  show AW l D b jX12_isCrew (fx_rm 0 0 0) none (fx_MQ D b 0 0 (fx_qi (fun r N9 V9 => r = 1 ∧ N = N9 ∧ V = V9))) 0 [some (.ref (b + 100)), some (.int x), none] [] N V 0 0
  refine aw_iconst (v := 0) dX12_isCrew_0 (by decide) ?_
  refine aw_istore_n (ls' := [some (.ref (b + 100)), some (.int x), some (.int 0)]) dX12_isCrew_1 (Nat.le_of_ble_eq_true rfl) rfl ?_
  have loop_2_0 : ∀ (g_2 : Nat), ∀ (j2 : Nat), j2 + g_2 = 16 → AW l D b jX12_isCrew (fx_rm 0 0 0) none (fx_MQ D b 0 0 (fx_qi (fun r N9 V9 => r = 1 ∧ N = N9 ∧ V = V9))) 2 [some (.ref (b + 100)), some (.int x), some (.int (nI j2))] [] N V 0 0 := by
    intro g_2
    induction g_2 with
    | zero =>
      intro j2  hj2
      obtain rfl : j2 = 16 := by omega
      refine aw_iload_n dX12_isCrew_2 rfl ?_
      refine aw_bipush (v := 16) dX12_isCrew_3 (by decide) ?_
      refine aw_icmp_ge (tgt := 37) dX12_isCrew_5 (by decide) (fun c_3 => ?_) (fun c_3 => ?_)
      rotate_left
      · exact absurd (nI_le (a := 16) (b := 16) (Nat.le_refl _) (by omega)) c_3
      refine aw_iconst (v := 1) dX12_isCrew_37 (by decide) ?_
      refine aw_zreti dX12_isCrew_38 rfl (Or.inr rfl) (Nat.le_of_ble_eq_true rfl) (Nat.le_of_ble_eq_true rfl) ?_
      exact ⟨rfl, rfl, rfl⟩
    | succ g_2 ih_2_1 =>
      intro j2  hj2
      have hlj2 : j2 < 16 := by omega
      refine aw_iload_n dX12_isCrew_2 rfl ?_
      refine aw_bipush (v := 16) dX12_isCrew_3 (by decide) ?_
      refine aw_icmp_ge (tgt := 37) dX12_isCrew_5 (by decide) (fun c_4 => ?_) (fun c_4 => ?_)
      · exact absurd c_4 (nI_ge (a := j2) (b := 16) (by omega) (by omega))
      refine aw_aload_n dX12_isCrew_8 rfl ?_
      refine aw_get dX12_isCrew_9 fl_X12_93 k100 (by omega) rfl ?_
      refine aw_iload_n dX12_isCrew_12 rfl ?_
      refine aw_iald (v := (-1)) dX12_isCrew_13 k128 (by omega) (vp_in_nI (n := j2) (by omega) (by omega)) (by rw [nI_clamp (n := j2) (by omega)]; exact z j2 (by omega)) ?_
      refine aw_iconst (v := (-1)) dX12_isCrew_14 (by decide) ?_
      refine aw_icmp_eq (tgt := 31) dX12_isCrew_15 (by decide) (fun c_5 => ?_) (fun c_5 => ?_)
      rotate_left
      · exact absurd (by decide) c_5
      refine aw_iinc (v := (nI (j2 + 1))) (ls' := [some (.ref (b + 100)), some (.int x), some (.int (nI (j2 + 1)))]) dX12_isCrew_31 rfl (fx_up_1 _) (Nat.le_of_ble_eq_true rfl) rfl ?_
      refine aw_goto (tgt := 2) dX12_isCrew_34 (by decide) ?_
      refine aw_le ?_ (ih_2_1 (j2 + 1)   (by omega))
      exact ⟨rfl, ⟨rfl, ⟨rfl, trivial⟩⟩⟩
  refine aw_le ?_ (loop_2_0 16 0   (by omega))
  exact ⟨rfl, ⟨rfl, ⟨rfl, trivial⟩⟩⟩

set_option maxHeartbeats 4000000 in
set_option maxRecDepth 100000 in
theorem r_crew (l : Launch) (D : va_G) (b : Nat) (N : Nat) (V : Wd) (hN : 133 ≤ N) (hM : M0 D b V) (x : Int32) : MI l D b 3 jX12_crew [.ref (b + 100), .int x] N V 0 0 (fun r N9 V9 => r = (if x < 0 then (-1) else if x ≤ 1 then 0 else (-1)) ∧ N = N9) := by
  obtain ⟨k100, k101, k102, k103, k104, k110, k124, k126, k127, k128, k130, k131⟩ := id hM
  refine mw_of (by decide) (by simp [Value.category]) (Nat.le_of_ble_eq_true rfl) ?_
  show AW l D b jX12_crew (fx_rm 3 0 0) none (fx_MQ D b 0 0 (fx_qi (fun r N9 V9 => r = (if x < 0 then (-1) else if x ≤ 1 then 0 else (-1)) ∧ N = N9))) 0 [some (.ref (b + 100)), some (.int x), none, none] [] N V 0 0
  refine aw_iload_n dX12_crew_0 rfl ?_
  refine aw_iconst (v := 0) dX12_crew_1 (by decide) ?_
  refine aw_iconst (v := 1) dX12_crew_2 (by decide) ?_
  refine aw_callSi (J' := jX12_in) (As := [.int x, .int 0, .int 1]) (st := []) dX12_crew_3 tb_1209 ok_X12_in rfl (k_in l D b N V x 0 1) rfl (Nat.le_of_ble_eq_true rfl) ⟨Nat.le_of_ble_eq_true rfl, Nat.le_of_ble_eq_true rfl, Nat.le_of_ble_eq_true rfl, Nat.le_of_ble_eq_true rfl⟩ (fun r_1 N_2 V_3 q_4 => ?_)
  obtain ⟨rfl, rfl, rfl⟩ := q_4
  rcases inr_cases x 0 1 with ⟨g_5, e_6⟩ | ⟨g_7, g_8, g_9, e_10⟩ | ⟨g_11, g_12, g_13, e_14⟩
  · skip
    refine aw_eqi (y := 0) e_6 ?_
    refine aw_if_ne (tgt := 11) dX12_crew_6 (by decide) (fun c_15 => ?_) (fun c_15 => ?_)
    · exact absurd rfl c_15
    refine aw_iconst (v := (-1)) dX12_crew_9 (by decide) ?_
    refine aw_ireti dX12_crew_10 rfl (Nat.le_of_ble_eq_true rfl) (Nat.le_of_ble_eq_true rfl) ?_
    exact ⟨by (first | (simp only [g_5, c_15, reduceIte]; done) | (simp only [g_5, reduceIte]; done)), rfl⟩
  · skip
    refine aw_eqi (y := 0) e_10 ?_
    refine aw_if_ne (tgt := 11) dX12_crew_6 (by decide) (fun c_16 => ?_) (fun c_16 => ?_)
    · exact absurd rfl c_16
    refine aw_iconst (v := (-1)) dX12_crew_9 (by decide) ?_
    refine aw_ireti dX12_crew_10 rfl (Nat.le_of_ble_eq_true rfl) (Nat.le_of_ble_eq_true rfl) ?_
    exact ⟨by (first | (simp only [g_7, g_8, g_9, c_16, reduceIte]; done) | (simp only [g_7, g_8, g_9, reduceIte]; done)), rfl⟩
  · skip
    refine aw_eqi (y := 1) e_14 ?_
    refine aw_if_ne (tgt := 11) dX12_crew_6 (by decide) (fun c_17 => ?_) (fun c_17 => ?_)
    rotate_left
    · exact absurd c_17 (by decide)
    refine aw_aload_n dX12_crew_11 rfl ?_
    refine aw_callVv (J' := jX12_laysWho) (As := []) (st := []) dX12_crew_12 tb_1481 ok_X12_laysWho ⟨_, k100⟩ (by omega) rfl rfl (k_laysWho l D b N V hN k100 _ k128) rfl (Nat.le_of_ble_eq_true rfl) ⟨Nat.le_of_ble_eq_true rfl, Nat.le_of_ble_eq_true rfl, Nat.le_of_ble_eq_true rfl, Nat.le_of_ble_eq_true rfl⟩ (fun  N_23 V_22 q_24 => ?_)
    obtain ⟨rfl, ⟨g_19, q_20, z_21⟩, fr_18⟩ := q_24
    refine aw_bipush (v := (-2)) dX12_crew_15 (by decide) ?_
    refine aw_istore_n (ls' := [some (.ref (b + 100)), some (.int x), some (.int (-2)), none]) dX12_crew_17 (Nat.le_of_ble_eq_true rfl) rfl ?_
    refine aw_sipush (v := 4095) dX12_crew_18 (by decide) ?_
    refine aw_istore_n (ls' := [some (.ref (b + 100)), some (.int x), some (.int (-2)), some (.int 4095)]) dX12_crew_21 (Nat.le_of_ble_eq_true rfl) rfl ?_
    have loop_22_24 : ∀ (j22 : Nat), ∀ (bt : Int32), j22 ≤ 4096 → (j22 = 0 → bt = 0) → AW l D b jX12_crew (fx_rm 3 0 0) none (fx_MQ D b 0 0 (fx_qi (fun r N9 V9 => r = (if x < 0 then (-1) else if x ≤ 1 then 0 else (-1)) ∧ N = N9))) 22 [some (.ref (b + 100)), some (.int x), some (.int bt), some (.int (fx_dn j22))] [] N V_22 0 0 := by
      intro j22
      induction j22 with
      | zero =>
        intro bt hj22 i22_0
        show AW l D b jX12_crew (fx_rm 3 0 0) none (fx_MQ D b 0 0 (fx_qi (fun r N9 V9 => r = (if x < 0 then (-1) else if x ≤ 1 then 0 else (-1)) ∧ N = N9))) 22 [some (.ref (b + 100)), some (.int x), some (.int bt), some (.int (-1))] [] N V_22 0 0
        refine aw_iload_n dX12_crew_22 rfl ?_
        refine aw_if_lt (tgt := 59) dX12_crew_23 (by decide) (fun c_27 => ?_) (fun c_27 => ?_)
        rotate_left
        · exact absurd (by decide) c_27
        obtain rfl := i22_0 rfl
        refine aw_iload_n dX12_crew_59 rfl ?_
        refine aw_iconst (v := 1) dX12_crew_60 (by decide) ?_
        refine aw_icmp_eq (tgt := 70) dX12_crew_61 (by decide) (fun c_28 => ?_) (fun c_28 => ?_)
        · skip
          refine aw_iload_n dX12_crew_70 rfl ?_
          refine aw_goto (tgt := 78) dX12_crew_71 (by decide) ?_
          refine aw_ireti dX12_crew_78 rfl (Nat.le_of_ble_eq_true rfl) (Nat.le_of_ble_eq_true rfl) ?_
          exact ⟨by (first | (simp only [g_11, g_12, g_13, c_17, c_27, c_28, reduceIte]; done) | (simp only [g_11, g_12, g_13, c_27, reduceIte]; done)), rfl⟩
        · skip
          refine aw_iload_n dX12_crew_64 rfl ?_
          refine aw_bipush (v := (-2)) dX12_crew_65 (by decide) ?_
          refine aw_icmp_ne (tgt := 74) dX12_crew_67 (by decide) (fun c_29 => ?_) (fun c_29 => ?_)
          rotate_left
          · exact absurd c_29 (by decide)
          refine aw_iload_n dX12_crew_74 rfl ?_
          refine aw_callSi (J' := jX12_bits) (As := [.int 0]) (st := []) dX12_crew_75 tb_1396 ok_X12_bits rfl (k_bits l D b N V_22 0) rfl (Nat.le_of_ble_eq_true rfl) ⟨Nat.le_of_ble_eq_true rfl, Nat.le_of_ble_eq_true rfl, Nat.le_of_ble_eq_true rfl, Nat.le_of_ble_eq_true rfl⟩ (fun r_30 N_31 V_32 q_33 => ?_)
          obtain ⟨⟨hr_30, -⟩, rfl, rfl⟩ := q_33
          obtain rfl := hr_30 rfl
          refine aw_ireti dX12_crew_78 rfl (Nat.le_of_ble_eq_true rfl) (Nat.le_of_ble_eq_true rfl) ?_
          exact ⟨by (first | (simp only [g_11, g_12, g_13, c_17, c_27, c_28, c_29, reduceIte]; done) | (simp only [g_11, g_12, g_13, c_27, reduceIte]; done)), rfl⟩
      | succ j22 ih_22_25 =>
        intro bt hj22 i22_0
        show AW l D b jX12_crew (fx_rm 3 0 0) none (fx_MQ D b 0 0 (fx_qi (fun r N9 V9 => r = (if x < 0 then (-1) else if x ≤ 1 then 0 else (-1)) ∧ N = N9))) 22 [some (.ref (b + 100)), some (.int x), some (.int bt), some (.int (nI j22))] [] N V_22 0 0
        refine aw_iload_n dX12_crew_22 rfl ?_
        refine aw_if_lt (tgt := 59) dX12_crew_23 (by decide) (fun c_34 => ?_) (fun c_34 => ?_)
        · exact absurd c_34 (nI_pos (by omega))
        refine aw_aload_n dX12_crew_26 rfl ?_
        refine aw_iload_n dX12_crew_27 rfl ?_
        refine aw_callVi (J' := jX12_isCrew) (As := [.int (nI j22)]) (st := []) dX12_crew_28 tb_1485 ok_X12_isCrew ⟨_, ((fr_18 _ (by omega)).trans k100)⟩ (by omega) rfl rfl (k_isCrew l D b N V_22 hN ((fr_18 _ (by omega)).trans k100) _ q_20 z_21 (nI j22)) rfl (Nat.le_of_ble_eq_true rfl) ⟨Nat.le_of_ble_eq_true rfl, Nat.le_of_ble_eq_true rfl, Nat.le_of_ble_eq_true rfl, Nat.le_of_ble_eq_true rfl⟩ (fun r_35 N_36 V_37 q_38 => ?_)
        obtain ⟨rfl, rfl, rfl⟩ := q_38
        refine aw_if_eq (tgt := 53) dX12_crew_31 (by decide) (fun c_39 => ?_) (fun c_39 => ?_)
        · exact absurd c_39 (by decide)
        refine aw_iload_n dX12_crew_34 rfl ?_
        refine aw_bipush (v := (-2)) dX12_crew_35 (by decide) ?_
        refine aw_icmp_eq (tgt := 51) dX12_crew_37 (by decide) (fun c_40 => ?_) (fun c_40 => ?_)
        · skip
          refine aw_iload_n dX12_crew_51 rfl ?_
          refine aw_istore_n (ls' := [some (.ref (b + 100)), some (.int x), some (.int (nI j22)), some (.int (nI j22))]) dX12_crew_52 (Nat.le_of_ble_eq_true rfl) rfl ?_
          refine aw_iinc (v := (fx_dn j22)) (ls' := [some (.ref (b + 100)), some (.int x), some (.int (nI j22)), some (.int (fx_dn j22))]) dX12_crew_53 rfl (fx_dn_1 _) (Nat.le_of_ble_eq_true rfl) rfl ?_
          refine aw_goto (tgt := 22) dX12_crew_56 (by decide) ?_
          refine aw_le ?_ (ih_22_25 (nI j22)  (by omega) (fun h => by rw [h]; rfl))
          exact ⟨rfl, ⟨rfl, ⟨rfl, ⟨rfl, trivial⟩⟩⟩⟩
        · skip
          refine aw_iload_n dX12_crew_40 rfl ?_
          refine aw_callSi (J' := jX12_bits) (As := [.int (nI j22)]) (st := []) dX12_crew_41 tb_1396 ok_X12_bits rfl (k_bits l D b N V_22 (nI j22)) rfl (Nat.le_of_ble_eq_true rfl) ⟨Nat.le_of_ble_eq_true rfl, Nat.le_of_ble_eq_true rfl, Nat.le_of_ble_eq_true rfl, Nat.le_of_ble_eq_true rfl⟩ (fun r_41 N_42 V_43 q_44 => ?_)
          obtain ⟨⟨hr_41, zr_41⟩, rfl, rfl⟩ := q_44
          refine aw_iload_n dX12_crew_44 rfl ?_
          refine aw_callSi (J' := jX12_bits) (As := [.int bt]) (st := [.int r_41]) dX12_crew_45 tb_1396 ok_X12_bits rfl (k_bits l D b N V_22 bt) rfl (Nat.le_of_ble_eq_true rfl) ⟨Nat.le_of_ble_eq_true rfl, Nat.le_of_ble_eq_true rfl, Nat.le_of_ble_eq_true rfl, Nat.le_of_ble_eq_true rfl⟩ (fun r_45 N_46 V_47 q_48 => ?_)
          obtain ⟨⟨hr_45, zr_45⟩, rfl, rfl⟩ := q_48
          refine aw_icmp_gt (tgt := 53) dX12_crew_48 (by decide) (fun c_49 => ?_) (fun c_49 => ?_)
          · skip
            refine aw_iinc (v := (fx_dn j22)) (ls' := [some (.ref (b + 100)), some (.int x), some (.int bt), some (.int (fx_dn j22))]) dX12_crew_53 rfl (fx_dn_1 _) (Nat.le_of_ble_eq_true rfl) rfl ?_
            refine aw_goto (tgt := 22) dX12_crew_56 (by decide) ?_
            refine aw_le ?_ (ih_22_25 bt  (by omega) (fun h => absurd c_49 (by rw [hr_41 (by rw [h]; rfl)]; exact Int32.not_lt.mpr zr_45)))
            exact ⟨rfl, ⟨rfl, ⟨rfl, ⟨rfl, trivial⟩⟩⟩⟩
          · skip
            refine aw_iload_n dX12_crew_51 rfl ?_
            refine aw_istore_n (ls' := [some (.ref (b + 100)), some (.int x), some (.int (nI j22)), some (.int (nI j22))]) dX12_crew_52 (Nat.le_of_ble_eq_true rfl) rfl ?_
            refine aw_iinc (v := (fx_dn j22)) (ls' := [some (.ref (b + 100)), some (.int x), some (.int (nI j22)), some (.int (fx_dn j22))]) dX12_crew_53 rfl (fx_dn_1 _) (Nat.le_of_ble_eq_true rfl) rfl ?_
            refine aw_goto (tgt := 22) dX12_crew_56 (by decide) ?_
            refine aw_le ?_ (ih_22_25 (nI j22)  (by omega) (fun h => by rw [h]; rfl))
            exact ⟨rfl, ⟨rfl, ⟨rfl, ⟨rfl, trivial⟩⟩⟩⟩
    refine aw_le ?_ (loop_22_24 4096 (-2)  (by omega) (fun h => absurd h (by decide)))
    exact ⟨rfl, ⟨rfl, ⟨rfl, ⟨rfl, trivial⟩⟩⟩⟩

set_option maxHeartbeats 4000000 in
set_option maxRecDepth 100000 in
theorem r_lodgings (l : Launch) (D : va_G) (b : Nat) (N : Nat) (V : Wd) (hN : 133 ≤ N) (hM : M0 D b V)  : MI l D b 3 jX12_lodgings [.ref (b + 100)] N V 0 0 (fun r N9 V9 => r = 0 ∧ N = N9) := by
  obtain ⟨k100, k101, k102, k103, k104, k110, k124, k126, k127, k128, k130, k131⟩ := id hM
  refine mw_of (by decide) (by simp [Value.category]) (Nat.le_of_ble_eq_true rfl) ?_
  show AW l D b jX12_lodgings (fx_rm 3 0 0) none (fx_MQ D b 0 0 (fx_qi (fun r N9 V9 => r = 0 ∧ N = N9))) 0 [some (.ref (b + 100)), none, none, none, none] [] N V 0 0
  refine aw_aload_n dX12_lodgings_0 rfl ?_
  refine aw_callVv (J' := jX12_laysWho) (As := []) (st := []) dX12_lodgings_1 tb_1481 ok_X12_laysWho ⟨_, k100⟩ (by omega) rfl rfl (k_laysWho l D b N V hN k100 _ k128) rfl (Nat.le_of_ble_eq_true rfl) ⟨Nat.le_of_ble_eq_true rfl, Nat.le_of_ble_eq_true rfl, Nat.le_of_ble_eq_true rfl, Nat.le_of_ble_eq_true rfl⟩ (fun  N_6 V_5 q_7 => ?_)
  obtain ⟨rfl, ⟨g_2, q_3, z_4⟩, fr_1⟩ := q_7
  refine aw_iconst (v := 0) dX12_lodgings_4 (by decide) ?_
  refine aw_istore_n (ls' := [some (.ref (b + 100)), some (.int 0), none, none, none]) dX12_lodgings_5 (Nat.le_of_ble_eq_true rfl) rfl ?_
  have loop_6_7 : ∀ (g_6 : Nat), ∀ (j6 : Nat)  (V6 : Wd), j6 + g_6 = 4096 → (∃ g6 : Nat → Int32, V6 126 = cZ D 4096 g6) → (∀ i, i ≠ 126 → V6 i = V_5 i) → AW l D b jX12_lodgings (fx_rm 3 0 0) none (fx_MQ D b 0 0 (fx_qi (fun r N9 V9 => r = 0 ∧ N = N9))) 6 [some (.ref (b + 100)), some (.int (nI j6)), none, none, none] [] N V6 0 0 := by
    intro g_6
    induction g_6 with
    | zero =>
      intro j6  V6 hj6 i6_0 i6_1
      obtain rfl : j6 = 4096 := by omega
      obtain ⟨g6, e6⟩ := id i6_0
      refine aw_iload_n dX12_lodgings_6 rfl ?_
      refine aw_sipush (v := 4096) dX12_lodgings_7 (by decide) ?_
      refine aw_icmp_ge (tgt := 34) dX12_lodgings_10 (by decide) (fun c_10 => ?_) (fun c_10 => ?_)
      rotate_left
      · exact absurd (nI_le (a := 4096) (b := 4096) (Nat.le_refl _) (by omega)) c_10
      refine aw_iconst (v := 0) dX12_lodgings_34 (by decide) ?_
      refine aw_istore_n (ls' := [some (.ref (b + 100)), some (.int 0), none, none, none]) dX12_lodgings_35 (Nat.le_of_ble_eq_true rfl) rfl ?_
      refine aw_iconst (v := 0) dX12_lodgings_36 (by decide) ?_
      refine aw_istore_n (ls' := [some (.ref (b + 100)), some (.int 0), some (.int 0), none, none]) dX12_lodgings_37 (Nat.le_of_ble_eq_true rfl) rfl ?_
      have loop_38_10 : ∀ (g_38 : Nat), ∀ (j38 : Nat), j38 + g_38 = 16 → AW l D b jX12_lodgings (fx_rm 3 0 0) none (fx_MQ D b 0 0 (fx_qi (fun r N9 V9 => r = 0 ∧ N = N9))) 38 [some (.ref (b + 100)), some (.int 0), some (.int (nI j38)), none, none] [] N V6 0 0 := by
        intro g_38
        induction g_38 with
        | zero =>
          intro j38  hj38
          obtain rfl : j38 = 16 := by omega
          refine aw_iload_n dX12_lodgings_38 rfl ?_
          refine aw_bipush (v := 16) dX12_lodgings_39 (by decide) ?_
          refine aw_icmp_ge (tgt := 151) dX12_lodgings_41 (by decide) (fun c_13 => ?_) (fun c_13 => ?_)
          rotate_left
          · exact absurd (nI_le (a := 16) (b := 16) (Nat.le_refl _) (by omega)) c_13
          refine aw_iload_n dX12_lodgings_151 rfl ?_
          refine aw_ireti dX12_lodgings_152 rfl (Nat.le_of_ble_eq_true rfl) (Nat.le_of_ble_eq_true rfl) ?_
          exact ⟨rfl, rfl⟩
        | succ g_38 ih_38_11 =>
          intro j38  hj38
          have hlj38 : j38 < 16 := by omega
          refine aw_iload_n dX12_lodgings_38 rfl ?_
          refine aw_bipush (v := 16) dX12_lodgings_39 (by decide) ?_
          refine aw_icmp_ge (tgt := 151) dX12_lodgings_41 (by decide) (fun c_14 => ?_) (fun c_14 => ?_)
          · exact absurd c_14 (nI_ge (a := j38) (b := 16) (by omega) (by omega))
          refine aw_sipush (v := 4095) dX12_lodgings_44 (by decide) ?_
          refine aw_istore_n (ls' := [some (.ref (b + 100)), some (.int 0), some (.int (nI j38)), some (.int 4095), none]) dX12_lodgings_47 (Nat.le_of_ble_eq_true rfl) rfl ?_
          refine aw_iload_n dX12_lodgings_48 rfl ?_
          refine aw_if_lt (tgt := 145) dX12_lodgings_49 (by decide) (fun c_15 => ?_) (fun c_15 => ?_)
          · exact absurd c_15 (by decide)
          refine aw_aload_n dX12_lodgings_52 rfl ?_
          refine aw_get dX12_lodgings_53 fl_X12_93 ((i6_1 100 (by omega)).trans ((fr_1 _ (by omega)).trans k100)) (by omega) rfl ?_
          refine aw_iload_n dX12_lodgings_56 rfl ?_
          refine aw_iald (v := (-1)) dX12_lodgings_57 ((i6_1 128 (by omega)).trans q_3) (by omega) (vp_in_nI (n := j38) (by omega) (by omega)) (by rw [nI_clamp (n := j38) (by omega)]; exact z_4 j38 (by omega)) ?_
          refine aw_iconst (v := (-1)) dX12_lodgings_58 (by decide) ?_
          refine aw_icmp_eq (tgt := 145) dX12_lodgings_59 (by decide) (fun c_16 => ?_) (fun c_16 => ?_)
          rotate_left
          · exact absurd (by decide) c_16
          refine aw_iinc (v := (nI (j38 + 1))) (ls' := [some (.ref (b + 100)), some (.int 0), some (.int (nI (j38 + 1))), some (.int 4095), none]) dX12_lodgings_145 rfl (fx_up_1 _) (Nat.le_of_ble_eq_true rfl) rfl ?_
          refine aw_goto (tgt := 38) dX12_lodgings_148 (by decide) ?_
          refine aw_le ?_ (ih_38_11 (j38 + 1)   (by omega))
          exact ⟨rfl, ⟨rfl, ⟨rfl, trivial⟩⟩⟩
      refine aw_le ?_ (loop_38_10 16 0   (by omega))
      exact ⟨rfl, ⟨rfl, ⟨rfl, trivial⟩⟩⟩
    | succ g_6 ih_6_8 =>
      intro j6  V6 hj6 i6_0 i6_1
      have hlj6 : j6 < 4096 := by omega
      obtain ⟨g6, e6⟩ := id i6_0
      refine aw_iload_n dX12_lodgings_6 rfl ?_
      refine aw_sipush (v := 4096) dX12_lodgings_7 (by decide) ?_
      refine aw_icmp_ge (tgt := 34) dX12_lodgings_10 (by decide) (fun c_17 => ?_) (fun c_17 => ?_)
      · exact absurd c_17 (nI_ge (a := j6) (b := 4096) (by omega) (by omega))
      refine aw_aload_n dX12_lodgings_13 rfl ?_
      refine aw_get dX12_lodgings_14 fl_X12_86 ((i6_1 100 (by omega)).trans ((fr_1 _ (by omega)).trans k100)) (by omega) rfl ?_
      refine aw_iload_n dX12_lodgings_17 rfl ?_
      refine aw_iload_n dX12_lodgings_18 rfl ?_
      refine aw_if_ne (tgt := 26) dX12_lodgings_19 (by decide) (fun c_18 => ?_) (fun c_18 => ?_)
      · skip
        have nc_18 : ¬ (j6 = 0) := fun z => c_18 ((nI_eq (a := j6) (b := 0) (by omega) (by omega)).mpr z)
        refine aw_iconst (v := 0) dX12_lodgings_26 (by decide) ?_
        refine aw_zast dX12_lodgings_27 e6 (by omega) (vp_in_nI (n := j6) (by omega) (by omega)) ?_
        refine aw_iinc (v := (nI (j6 + 1))) (ls' := [some (.ref (b + 100)), some (.int (nI (j6 + 1))), none, none, none]) dX12_lodgings_28 rfl (fx_up_1 _) (Nat.le_of_ble_eq_true rfl) rfl ?_
        refine aw_goto (tgt := 6) dX12_lodgings_31 (by decide) ?_
        refine aw_le ?_ (ih_6_8 (j6 + 1)  (va_up V6 126 (cZ D 4096 (upd g6 (Int32.toNatClampNeg (nI j6)) (vp_nar .boolean 0)))) (by omega) (⟨_, va_up_self _ _ _⟩) (fun i hi => (va_up_ne _ _ hi).trans (i6_1 i hi)))
        exact ⟨rfl, ⟨rfl, trivial⟩⟩
      · skip
        have nc_18 : j6 = 0 := (nI_eq (a := j6) (b := 0) (by omega) (by omega)).mp c_18
        refine aw_iconst (v := 1) dX12_lodgings_22 (by decide) ?_
        refine aw_goto (tgt := 27) dX12_lodgings_23 (by decide) ?_
        refine aw_zast dX12_lodgings_27 e6 (by omega) (vp_in_nI (n := j6) (by omega) (by omega)) ?_
        refine aw_iinc (v := (nI (j6 + 1))) (ls' := [some (.ref (b + 100)), some (.int (nI (j6 + 1))), none, none, none]) dX12_lodgings_28 rfl (fx_up_1 _) (Nat.le_of_ble_eq_true rfl) rfl ?_
        refine aw_goto (tgt := 6) dX12_lodgings_31 (by decide) ?_
        refine aw_le ?_ (ih_6_8 (j6 + 1)  (va_up V6 126 (cZ D 4096 (upd g6 (Int32.toNatClampNeg (nI j6)) (vp_nar .boolean 1)))) (by omega) (⟨_, va_up_self _ _ _⟩) (fun i hi => (va_up_ne _ _ hi).trans (i6_1 i hi)))
        exact ⟨rfl, ⟨rfl, trivial⟩⟩
  refine aw_le ?_ (loop_6_7 4096 0  V_5 (by omega) (⟨_, ((fr_1 _ (by omega)).trans k126)⟩) (fun i _ => rfl))
  exact ⟨rfl, ⟨rfl, trivial⟩⟩

set_option maxHeartbeats 4000000 in
set_option maxRecDepth 100000 in
theorem k_lowest (l : Launch) (D : va_G) (b : Nat) (N : Nat) (V : Wd) (s : Nat) (h0 : s ≠ 0) (hs : s < 4096) : MI l D b 1 jX12_lowest [.int (nI s)] N V 0 0 (fun r N9 V9 => (∃ k : Nat, k < 12 ∧ r = nI k) ∧ N = N9 ∧ V = V9) := by
  obtain ⟨k0, hk0, hb0⟩ := fx_low h0 hs
  refine mw_of (by decide) (by simp [Value.category]) (Nat.le_of_ble_eq_true rfl) ?_
  show AW l D b jX12_lowest (fx_rm 1 0 0) none (fx_MQ D b 0 0 (fx_qi (fun r N9 V9 => (∃ k : Nat, k < 12 ∧ r = nI k) ∧ N = N9 ∧ V = V9))) 0 [some (.int (nI s)), none] [] N V 0 0
  refine aw_iconst (v := 0) dX12_lowest_0 (by decide) ?_
  refine aw_istore_n (ls' := [some (.int (nI s)), some (.int 0)]) dX12_lowest_1 (Nat.le_of_ble_eq_true rfl) rfl ?_
  have loop_2_0 : ∀ (g_2 : Nat), ∀ (j2 : Nat), j2 + g_2 = k0 → AW l D b jX12_lowest (fx_rm 1 0 0) none (fx_MQ D b 0 0 (fx_qi (fun r N9 V9 => (∃ k : Nat, k < 12 ∧ r = nI k) ∧ N = N9 ∧ V = V9))) 2 [some (.int (nI s)), some (.int (nI j2))] [] N V 0 0 := by
    intro g_2
    induction g_2 with
    | zero =>
      intro j2  hj2
      obtain rfl : k0 = j2 := by omega
      refine aw_iload_n dX12_lowest_2 rfl ?_
      refine aw_iload_n dX12_lowest_3 rfl ?_
      refine aw_callSi (J' := jX12_has) (As := [.int (nI s), .int (nI k0)]) (st := []) dX12_lowest_4 tb_1315 ok_X12_has rfl (k_hasF l D b N V (nI s) (nI k0)) rfl (Nat.le_of_ble_eq_true rfl) ⟨Nat.le_of_ble_eq_true rfl, Nat.le_of_ble_eq_true rfl, Nat.le_of_ble_eq_true rfl, Nat.le_of_ble_eq_true rfl⟩ (fun r_3 N_4 V_5 q_6 => ?_)
      obtain ⟨hr_3, rfl, rfl⟩ := q_6
      refine aw_if_ne (tgt := 17) dX12_lowest_7 (by decide) (fun c_7 => ?_) (fun c_7 => ?_)
      rotate_left
      · exact absurd (fx_if0 hr_3 c_7) hb0
      refine aw_iload_n dX12_lowest_17 rfl ?_
      refine aw_ireti dX12_lowest_18 rfl (Nat.le_of_ble_eq_true rfl) (Nat.le_of_ble_eq_true rfl) ?_
      exact ⟨⟨k0, by omega, rfl⟩, rfl, rfl⟩
    | succ g_2 ih_2_1 =>
      intro j2  hj2
      have hlj2 : j2 < k0 := by omega
      refine aw_iload_n dX12_lowest_2 rfl ?_
      refine aw_iload_n dX12_lowest_3 rfl ?_
      refine aw_callSi (J' := jX12_has) (As := [.int (nI s), .int (nI j2)]) (st := []) dX12_lowest_4 tb_1315 ok_X12_has rfl (k_hasF l D b N V (nI s) (nI j2)) rfl (Nat.le_of_ble_eq_true rfl) ⟨Nat.le_of_ble_eq_true rfl, Nat.le_of_ble_eq_true rfl, Nat.le_of_ble_eq_true rfl, Nat.le_of_ble_eq_true rfl⟩ (fun r_8 N_9 V_10 q_11 => ?_)
      obtain ⟨hr_8, rfl, rfl⟩ := q_11
      refine aw_if_ne (tgt := 17) dX12_lowest_7 (by decide) (fun c_12 => ?_) (fun c_12 => ?_)
      · skip
        refine aw_iload_n dX12_lowest_17 rfl ?_
        refine aw_ireti dX12_lowest_18 rfl (Nat.le_of_ble_eq_true rfl) (Nat.le_of_ble_eq_true rfl) ?_
        exact ⟨⟨j2, by omega, rfl⟩, rfl, rfl⟩
      · skip
        refine aw_iload_n dX12_lowest_10 rfl ?_
        refine aw_iconst (v := 1) dX12_lowest_11 (by decide) ?_
        refine aw_iadd dX12_lowest_12 ?_
        refine aw_eqi (y := (nI (j2 + 1))) (nI_1 _) ?_
        refine aw_istore_n (ls' := [some (.int (nI s)), some (.int (nI (j2 + 1)))]) dX12_lowest_13 (Nat.le_of_ble_eq_true rfl) rfl ?_
        refine aw_goto (tgt := 2) dX12_lowest_14 (by decide) ?_
        refine aw_le ?_ (ih_2_1 (j2 + 1)   (by omega))
        exact ⟨rfl, ⟨rfl, trivial⟩⟩
  refine aw_le ?_ (loop_2_0 k0 0   (by omega))
  exact ⟨rfl, ⟨rfl, trivial⟩⟩

set_option maxHeartbeats 4000000 in
set_option maxRecDepth 100000 in
theorem r_couples (l : Launch) (D : va_G) (b : Nat) (N : Nat) (V : Wd) (hN : 133 ≤ N) (hM : M0 D b V) (m : Int32) : MI l D b 2 jX12_couples [.ref (b + 100), .int m] N V 0 0 (fun r N9 V9 => r = (if m < 1 then (-1) else if m ≤ 99 then 0 else (-1)) ∧ N = N9) := by
  obtain ⟨k100, k101, k102, k103, k104, k110, k124, k126, k127, k128, k130, k131⟩ := id hM
  refine mw_of (by decide) (by simp [Value.category]) (Nat.le_of_ble_eq_true rfl) ?_
  show AW l D b jX12_couples (fx_rm 2 0 0) none (fx_MQ D b 0 0 (fx_qi (fun r N9 V9 => r = (if m < 1 then (-1) else if m ≤ 99 then 0 else (-1)) ∧ N = N9))) 0 [some (.ref (b + 100)), some (.int m), none, none, none] [] N V 0 0
  refine aw_iload_n dX12_couples_0 rfl ?_
  refine aw_iconst (v := 1) dX12_couples_1 (by decide) ?_
  refine aw_bipush (v := 99) dX12_couples_2 (by decide) ?_
  refine aw_callSi (J' := jX12_in) (As := [.int m, .int 1, .int 99]) (st := []) dX12_couples_4 tb_1209 ok_X12_in rfl (k_in l D b N V m 1 99) rfl (Nat.le_of_ble_eq_true rfl) ⟨Nat.le_of_ble_eq_true rfl, Nat.le_of_ble_eq_true rfl, Nat.le_of_ble_eq_true rfl, Nat.le_of_ble_eq_true rfl⟩ (fun r_1 N_2 V_3 q_4 => ?_)
  obtain ⟨rfl, rfl, rfl⟩ := q_4
  rcases inr_cases m 1 99 with ⟨g_5, e_6⟩ | ⟨g_7, g_8, g_9, e_10⟩ | ⟨g_11, g_12, g_13, e_14⟩
  · skip
    refine aw_eqi (y := 0) e_6 ?_
    refine aw_if_ne (tgt := 12) dX12_couples_7 (by decide) (fun c_15 => ?_) (fun c_15 => ?_)
    · exact absurd rfl c_15
    refine aw_iconst (v := (-1)) dX12_couples_10 (by decide) ?_
    refine aw_ireti dX12_couples_11 rfl (Nat.le_of_ble_eq_true rfl) (Nat.le_of_ble_eq_true rfl) ?_
    exact ⟨by (first | (simp only [g_5, c_15, reduceIte]; done) | (simp only [g_5, reduceIte]; done)), rfl⟩
  · skip
    refine aw_eqi (y := 0) e_10 ?_
    refine aw_if_ne (tgt := 12) dX12_couples_7 (by decide) (fun c_16 => ?_) (fun c_16 => ?_)
    · exact absurd rfl c_16
    refine aw_iconst (v := (-1)) dX12_couples_10 (by decide) ?_
    refine aw_ireti dX12_couples_11 rfl (Nat.le_of_ble_eq_true rfl) (Nat.le_of_ble_eq_true rfl) ?_
    exact ⟨by (first | (simp only [g_7, g_8, g_9, c_16, reduceIte]; done) | (simp only [g_7, g_8, g_9, reduceIte]; done)), rfl⟩
  · skip
    refine aw_eqi (y := 1) e_14 ?_
    refine aw_if_ne (tgt := 12) dX12_couples_7 (by decide) (fun c_17 => ?_) (fun c_17 => ?_)
    rotate_left
    · exact absurd c_17 (by decide)
    refine aw_iconst (v := 0) dX12_couples_12 (by decide) ?_
    refine aw_istore_n (ls' := [some (.ref (b + 100)), some (.int m), some (.int 0), none, none]) dX12_couples_13 (Nat.le_of_ble_eq_true rfl) rfl ?_
    have loop_14_17 : ∀ (g_14 : Nat), ∀ (j14 : Nat)  (V14 : Wd), j14 + g_14 = 12 → (∃ g14 : Nat → Int32, V14 128 = cI D 16 g14 ∧ ∀ k, k < j14 → g14 k = 0) → (∀ i, i ≠ 128 → V14 i = V i) → AW l D b jX12_couples (fx_rm 2 0 0) none (fx_MQ D b 0 0 (fx_qi (fun r N9 V9 => r = (if m < 1 then (-1) else if m ≤ 99 then 0 else (-1)) ∧ N = N9))) 14 [some (.ref (b + 100)), some (.int m), some (.int (nI j14)), none, none] [] N V14 0 0 := by
      intro g_14
      induction g_14 with
      | zero =>
        intro j14  V14 hj14 i14_0 i14_1
        obtain rfl : j14 = 12 := by omega
        obtain ⟨g14, e14, z14⟩ := id i14_0
        refine aw_iload_n dX12_couples_14 rfl ?_
        refine aw_bipush (v := 12) dX12_couples_15 (by decide) ?_
        refine aw_icmp_ge (tgt := 94) dX12_couples_17 (by decide) (fun c_20 => ?_) (fun c_20 => ?_)
        rotate_left
        · exact absurd (nI_le (a := 12) (b := 12) (Nat.le_refl _) (by omega)) c_20
        refine aw_iconst (v := 0) dX12_couples_94 (by decide) ?_
        refine aw_istore_n (ls' := [some (.ref (b + 100)), some (.int m), some (.int 0), none, none]) dX12_couples_95 (Nat.le_of_ble_eq_true rfl) rfl ?_
        have loop_96_20 : ∀ (g_96 : Nat), ∀ (j96 : Nat)  (V96 : Wd), j96 + g_96 = 4096 → (∃ g96 : Nat → Int32, V96 127 = cI D 4096 g96 ∧ ∀ k, k < 4096 → g96 k = 0) → (∀ i, i ≠ 127 → V96 i = V14 i) → AW l D b jX12_couples (fx_rm 2 0 0) none (fx_MQ D b 0 0 (fx_qi (fun r N9 V9 => r = (if m < 1 then (-1) else if m ≤ 99 then 0 else (-1)) ∧ N = N9))) 96 [some (.ref (b + 100)), some (.int m), some (.int (nI j96)), none, none] [] N V96 0 0 := by
          intro g_96
          induction g_96 with
          | zero =>
            intro j96  V96 hj96 i96_0 i96_1
            obtain rfl : j96 = 4096 := by omega
            obtain ⟨g96, e96, z96⟩ := id i96_0
            refine aw_iload_n dX12_couples_96 rfl ?_
            refine aw_sipush (v := 4096) dX12_couples_97 (by decide) ?_
            refine aw_icmp_ge (tgt := 214) dX12_couples_100 (by decide) (fun c_23 => ?_) (fun c_23 => ?_)
            rotate_left
            · exact absurd (nI_le (a := 4096) (b := 4096) (Nat.le_refl _) (by omega)) c_23
            refine aw_aload_n dX12_couples_214 rfl ?_
            refine aw_get dX12_couples_215 fl_X12_90 ((i96_1 100 (by omega)).trans ((i14_1 100 (by omega)).trans k100)) (by omega) rfl ?_
            refine aw_sipush (v := 4095) dX12_couples_218 (by decide) ?_
            refine aw_iald (v := 0) dX12_couples_221 e96 (by omega) (vp_in_nI (n := 4095) (N := 4096) (by decide) (by decide)) (z96 4095 (by omega)) ?_
            refine aw_ireti dX12_couples_222 rfl (Nat.le_of_ble_eq_true rfl) (Nat.le_of_ble_eq_true rfl) ?_
            exact ⟨by (first | (simp only [g_11, g_12, g_13, c_17, c_20, c_23, reduceIte]; done) | (simp only [g_11, g_12, g_13, c_20, c_23, reduceIte]; done)), rfl⟩
          | succ g_96 ih_96_21 =>
            intro j96  V96 hj96 i96_0 i96_1
            have hlj96 : j96 < 4096 := by omega
            obtain ⟨g96, e96, z96⟩ := id i96_0
            refine aw_iload_n dX12_couples_96 rfl ?_
            refine aw_sipush (v := 4096) dX12_couples_97 (by decide) ?_
            refine aw_icmp_ge (tgt := 214) dX12_couples_100 (by decide) (fun c_24 => ?_) (fun c_24 => ?_)
            · exact absurd c_24 (nI_ge (a := j96) (b := 4096) (by omega) (by omega))
            refine aw_aload_n dX12_couples_103 rfl ?_
            refine aw_get dX12_couples_104 fl_X12_90 ((i96_1 100 (by omega)).trans ((i14_1 100 (by omega)).trans k100)) (by omega) rfl ?_
            refine aw_iload_n dX12_couples_107 rfl ?_
            refine aw_iconst (v := 0) dX12_couples_108 (by decide) ?_
            refine aw_iast dX12_couples_109 e96 (by omega) (vp_in_nI (n := j96) (by omega) (by omega)) ?_
            refine aw_iload_n dX12_couples_110 rfl ?_
            refine aw_if_ne (tgt := 117) dX12_couples_111 (by decide) (fun c_25 => ?_) (fun c_25 => ?_)
            · skip
              have nc_25 : ¬ (j96 = 0) := fun z => c_25 ((nI_eq (a := j96) (b := 0) (by omega) (by omega)).mpr z)
              refine aw_iload_n dX12_couples_117 rfl ?_
              refine aw_callSi (J' := jX12_lowest) (As := [.int (nI j96)]) (st := []) dX12_couples_118 tb_1501 ok_X12_lowest rfl (k_lowest l D b N (va_up V96 127 (cI D 4096 (upd g96 (Int32.toNatClampNeg (nI j96)) 0))) j96 (by omega) (by omega)) rfl (Nat.le_of_ble_eq_true rfl) ⟨Nat.le_of_ble_eq_true rfl, Nat.le_of_ble_eq_true rfl, Nat.le_of_ble_eq_true rfl, Nat.le_of_ble_eq_true rfl⟩ (fun r_27 N_28 V_29 q_30 => ?_)
              obtain ⟨⟨y_26, hy_26, rfl⟩, rfl, rfl⟩ := q_30
              refine aw_istore_n (ls' := [some (.ref (b + 100)), some (.int m), some (.int (nI j96)), some (.int (nI y_26)), none]) dX12_couples_121 (Nat.le_of_ble_eq_true rfl) rfl ?_
              refine aw_aload_n dX12_couples_122 rfl ?_
              refine aw_get dX12_couples_123 fl_X12_90 ((va_up_ne _ _ (by omega)).trans ((i96_1 100 (by omega)).trans ((i14_1 100 (by omega)).trans k100))) (by omega) rfl ?_
              refine aw_iload_n dX12_couples_126 rfl ?_
              refine aw_aload_n dX12_couples_127 rfl ?_
              refine aw_get dX12_couples_128 fl_X12_90 ((va_up_ne _ _ (by omega)).trans ((i96_1 100 (by omega)).trans ((i14_1 100 (by omega)).trans k100))) (by omega) rfl ?_
              refine aw_iload_n dX12_couples_131 rfl ?_
              refine aw_iconst (v := 1) dX12_couples_132 (by decide) ?_
              refine aw_iload_n dX12_couples_133 rfl ?_
              refine aw_ishl dX12_couples_134 ?_
              refine aw_iconst (v := (-1)) dX12_couples_135 (by decide) ?_
              refine aw_ixor dX12_couples_136 ?_
              refine aw_iand dX12_couples_137 ?_
              obtain ⟨x_31, hx_31, ex_31⟩ := fx_andle (s := j96) ((1 <<< ((nI y_26) &&& 31)) ^^^ (-1)) (by omega)
              refine aw_eqi (y := (nI x_31)) ex_31 ?_
              refine aw_iald (v := 0) dX12_couples_138 (va_up_self _ _ _) (by omega) (vp_in_nI (n := x_31) (by omega) (by omega)) (by rw [nI_clamp (n := x_31) (by omega)]; exact fx_upd0 z96 x_31 (by omega)) ?_
              refine aw_iast dX12_couples_139 (va_up_self _ _ _) (by omega) (vp_in_nI (n := j96) (by omega) (by omega)) ?_
              refine aw_iload_n dX12_couples_140 rfl ?_
              refine aw_iconst (v := 1) dX12_couples_141 (by decide) ?_
              refine aw_iadd dX12_couples_142 ?_
              refine aw_eqi (y := nI (y_26 + 1)) (nI_add _ _) ?_
              refine aw_istore (ls' := [some (.ref (b + 100)), some (.int m), some (.int (nI j96)), some (.int (nI y_26)), some (.int (nI (y_26 + 1)))]) dX12_couples_143 (Nat.le_of_ble_eq_true rfl) rfl ?_
              have loop_145_31 : ∀ (g_145 : Nat), ∀ (j145 : Nat), j145 + g_145 = 12 → AW l D b jX12_couples (fx_rm 2 0 0) none (fx_MQ D b 0 0 (fx_qi (fun r N9 V9 => r = (if m < 1 then (-1) else if m ≤ 99 then 0 else (-1)) ∧ N = N9))) 145 [some (.ref (b + 100)), some (.int m), some (.int (nI j96)), some (.int (nI y_26)), some (.int (nI j145))] [] N (va_up (va_up V96 127 (cI D 4096 (upd g96 (Int32.toNatClampNeg (nI j96)) 0))) 127 (cI D 4096 (upd (upd g96 (Int32.toNatClampNeg (nI j96)) 0) (Int32.toNatClampNeg (nI j96)) 0))) 0 0 := by
                intro g_145
                induction g_145 with
                | zero =>
                  intro j145  hj145
                  obtain rfl : j145 = 12 := by omega
                  refine aw_iload dX12_couples_145 rfl ?_
                  refine aw_bipush (v := 12) dX12_couples_147 (by decide) ?_
                  refine aw_icmp_ge (tgt := 208) dX12_couples_149 (by decide) (fun c_34 => ?_) (fun c_34 => ?_)
                  rotate_left
                  · exact absurd (nI_le (a := 12) (b := 12) (Nat.le_refl _) (by omega)) c_34
                  refine aw_iinc (v := (nI (j96 + 1))) (ls' := [some (.ref (b + 100)), some (.int m), some (.int (nI (j96 + 1))), some (.int (nI y_26)), some (.int (nI 12))]) dX12_couples_208 rfl (fx_up_1 _) (Nat.le_of_ble_eq_true rfl) rfl ?_
                  refine aw_goto (tgt := 96) dX12_couples_211 (by decide) ?_
                  refine aw_le ?_ (ih_96_21 (j96 + 1)  (va_up (va_up V96 127 (cI D 4096 (upd g96 (Int32.toNatClampNeg (nI j96)) 0))) 127 (cI D 4096 (upd (upd g96 (Int32.toNatClampNeg (nI j96)) 0) (Int32.toNatClampNeg (nI j96)) 0))) (by omega) (⟨_, (va_up_self _ _ _), (fx_upd0 (fx_upd0 z96))⟩) (fun i hi => (va_up_ne _ _ hi).trans ((va_up_ne _ _ hi).trans (i96_1 i hi))))
                  exact ⟨rfl, ⟨rfl, ⟨rfl, trivial⟩⟩⟩
                | succ g_145 ih_145_32 =>
                  intro j145  hj145
                  have hlj145 : j145 < 12 := by omega
                  refine aw_iload dX12_couples_145 rfl ?_
                  refine aw_bipush (v := 12) dX12_couples_147 (by decide) ?_
                  refine aw_icmp_ge (tgt := 208) dX12_couples_149 (by decide) (fun c_35 => ?_) (fun c_35 => ?_)
                  · exact absurd c_35 (nI_ge (a := j145) (b := 12) (by omega) (by omega))
                  refine aw_iload_n dX12_couples_152 rfl ?_
                  refine aw_aload_n dX12_couples_153 rfl ?_
                  refine aw_get dX12_couples_154 fl_X12_93 ((va_up_ne _ _ (by omega)).trans ((va_up_ne _ _ (by omega)).trans ((i96_1 100 (by omega)).trans ((i14_1 100 (by omega)).trans k100)))) (by omega) rfl ?_
                  refine aw_iload_n dX12_couples_157 rfl ?_
                  refine aw_iald (v := 0) dX12_couples_158 ((va_up_ne _ _ (by omega)).trans ((va_up_ne _ _ (by omega)).trans ((i96_1 128 (by omega)).trans e14))) (by omega) (vp_in_nI (n := y_26) (by omega) (by omega)) (by rw [nI_clamp (n := y_26) (by omega)]; exact z14 y_26 (by omega)) ?_
                  refine aw_iand dX12_couples_159 ?_
                  refine aw_eqi (y := 0) (Int32.and_zero) ?_
                  refine aw_iload dX12_couples_160 rfl ?_
                  refine aw_callSi (J' := jX12_has) (As := [.int 0, .int (nI j145)]) (st := []) dX12_couples_162 tb_1315 ok_X12_has rfl (k_has0 l D b N (va_up (va_up V96 127 (cI D 4096 (upd g96 (Int32.toNatClampNeg (nI j96)) 0))) 127 (cI D 4096 (upd (upd g96 (Int32.toNatClampNeg (nI j96)) 0) (Int32.toNatClampNeg (nI j96)) 0))) (nI j145)) rfl (Nat.le_of_ble_eq_true rfl) ⟨Nat.le_of_ble_eq_true rfl, Nat.le_of_ble_eq_true rfl, Nat.le_of_ble_eq_true rfl, Nat.le_of_ble_eq_true rfl⟩ (fun r_36 N_37 V_38 q_39 => ?_)
                  obtain ⟨rfl, rfl, rfl⟩ := q_39
                  refine aw_if_eq (tgt := 202) dX12_couples_165 (by decide) (fun c_40 => ?_) (fun c_40 => ?_)
                  rotate_left
                  · exact absurd (by decide) c_40
                  refine aw_iinc (v := (nI (j145 + 1))) (ls' := [some (.ref (b + 100)), some (.int m), some (.int (nI j96)), some (.int (nI y_26)), some (.int (nI (j145 + 1)))]) dX12_couples_202 rfl (fx_up_1 _) (Nat.le_of_ble_eq_true rfl) rfl ?_
                  refine aw_goto (tgt := 145) dX12_couples_205 (by decide) ?_
                  refine aw_le ?_ (ih_145_32 (j145 + 1)   (by omega))
                  exact ⟨rfl, ⟨rfl, ⟨rfl, ⟨rfl, ⟨rfl, trivial⟩⟩⟩⟩⟩
              refine aw_le ?_ (loop_145_31 (12 - (y_26 + 1)) (y_26 + 1)   (by omega))
              exact ⟨rfl, ⟨rfl, ⟨rfl, ⟨rfl, ⟨rfl, trivial⟩⟩⟩⟩⟩
            · skip
              have nc_25 : j96 = 0 := (nI_eq (a := j96) (b := 0) (by omega) (by omega)).mp c_25
              refine aw_goto (tgt := 208) dX12_couples_114 (by decide) ?_
              refine aw_iinc (v := (nI (j96 + 1))) (ls' := [some (.ref (b + 100)), some (.int m), some (.int (nI (j96 + 1))), none, none]) dX12_couples_208 rfl (fx_up_1 _) (Nat.le_of_ble_eq_true rfl) rfl ?_
              refine aw_goto (tgt := 96) dX12_couples_211 (by decide) ?_
              refine aw_le ?_ (ih_96_21 (j96 + 1)  (va_up V96 127 (cI D 4096 (upd g96 (Int32.toNatClampNeg (nI j96)) 0))) (by omega) (⟨_, (va_up_self _ _ _), (fx_upd0 z96)⟩) (fun i hi => (va_up_ne _ _ hi).trans (i96_1 i hi)))
              exact ⟨rfl, ⟨rfl, ⟨rfl, trivial⟩⟩⟩
        refine aw_le ?_ (loop_96_20 4096 0  V14 (by omega) (⟨_, ((i14_1 127 (by omega)).trans k127), fun _ _ => rfl⟩) (fun i _ => rfl))
        exact ⟨rfl, ⟨rfl, ⟨rfl, trivial⟩⟩⟩
      | succ g_14 ih_14_18 =>
        intro j14  V14 hj14 i14_0 i14_1
        have hlj14 : j14 < 12 := by omega
        obtain ⟨g14, e14, z14⟩ := id i14_0
        refine aw_iload_n dX12_couples_14 rfl ?_
        refine aw_bipush (v := 12) dX12_couples_15 (by decide) ?_
        refine aw_icmp_ge (tgt := 94) dX12_couples_17 (by decide) (fun c_41 => ?_) (fun c_41 => ?_)
        · exact absurd c_41 (nI_ge (a := j14) (b := 12) (by omega) (by omega))
        refine aw_aload_n dX12_couples_20 rfl ?_
        refine aw_get dX12_couples_21 fl_X12_93 ((i14_1 100 (by omega)).trans k100) (by omega) rfl ?_
        refine aw_iload_n dX12_couples_24 rfl ?_
        refine aw_iconst (v := 0) dX12_couples_25 (by decide) ?_
        refine aw_iast dX12_couples_26 e14 (by omega) (vp_in_nI (n := j14) (by omega) (by omega)) ?_
        refine aw_iconst (v := 0) dX12_couples_27 (by decide) ?_
        refine aw_istore_n (ls' := [some (.ref (b + 100)), some (.int m), some (.int (nI j14)), some (.int 0), none]) dX12_couples_28 (Nat.le_of_ble_eq_true rfl) rfl ?_
        have loop_29_41 : ∀ (g_29 : Nat), ∀ (j29 : Nat), j29 + g_29 = 12 → AW l D b jX12_couples (fx_rm 2 0 0) none (fx_MQ D b 0 0 (fx_qi (fun r N9 V9 => r = (if m < 1 then (-1) else if m ≤ 99 then 0 else (-1)) ∧ N = N9))) 29 [some (.ref (b + 100)), some (.int m), some (.int (nI j14)), some (.int (nI j29)), none] [] N (va_up V14 128 (cI D 16 (upd g14 (Int32.toNatClampNeg (nI j14)) 0))) 0 0 := by
          intro g_29
          induction g_29 with
          | zero =>
            intro j29  hj29
            obtain rfl : j29 = 12 := by omega
            refine aw_iload_n dX12_couples_29 rfl ?_
            refine aw_bipush (v := 12) dX12_couples_30 (by decide) ?_
            refine aw_icmp_ge (tgt := 88) dX12_couples_32 (by decide) (fun c_44 => ?_) (fun c_44 => ?_)
            rotate_left
            · exact absurd (nI_le (a := 12) (b := 12) (Nat.le_refl _) (by omega)) c_44
            refine aw_iinc (v := (nI (j14 + 1))) (ls' := [some (.ref (b + 100)), some (.int m), some (.int (nI (j14 + 1))), some (.int (nI 12)), none]) dX12_couples_88 rfl (fx_up_1 _) (Nat.le_of_ble_eq_true rfl) rfl ?_
            refine aw_goto (tgt := 14) dX12_couples_91 (by decide) ?_
            refine aw_le ?_ (ih_14_18 (j14 + 1)  (va_up V14 128 (cI D 16 (upd g14 (Int32.toNatClampNeg (nI j14)) 0))) (by omega) (⟨_, va_up_self _ _ _, fun k hk => by rw [nI_clamp (n := j14) (by omega)]; exact (if e : k = j14 then (by subst e; exact pk_us) else (by rw [pk_un e]; exact z14 k (by omega)))⟩) (fun i hi => (va_up_ne _ _ hi).trans (i14_1 i hi)))
            exact ⟨rfl, ⟨rfl, ⟨rfl, trivial⟩⟩⟩
          | succ g_29 ih_29_42 =>
            intro j29  hj29
            have hlj29 : j29 < 12 := by omega
            refine aw_iload_n dX12_couples_29 rfl ?_
            refine aw_bipush (v := 12) dX12_couples_30 (by decide) ?_
            refine aw_icmp_ge (tgt := 88) dX12_couples_32 (by decide) (fun c_45 => ?_) (fun c_45 => ?_)
            · exact absurd c_45 (nI_ge (a := j29) (b := 12) (by omega) (by omega))
            refine aw_iload_n dX12_couples_35 rfl ?_
            refine aw_iload_n dX12_couples_36 rfl ?_
            refine aw_icmp_eq (tgt := 82) dX12_couples_37 (by decide) (fun c_46 => ?_) (fun c_46 => ?_)
            · skip
              have nc_46 : j14 = j29 := (nI_eq (a := j14) (b := j29) (by omega) (by omega)).mp c_46
              refine aw_iinc (v := (nI (j29 + 1))) (ls' := [some (.ref (b + 100)), some (.int m), some (.int (nI j14)), some (.int (nI (j29 + 1))), none]) dX12_couples_82 rfl (fx_up_1 _) (Nat.le_of_ble_eq_true rfl) rfl ?_
              refine aw_goto (tgt := 29) dX12_couples_85 (by decide) ?_
              refine aw_le ?_ (ih_29_42 (j29 + 1)   (by omega))
              exact ⟨rfl, ⟨rfl, ⟨rfl, ⟨rfl, trivial⟩⟩⟩⟩
            · skip
              have nc_46 : ¬ (j14 = j29) := fun z => c_46 ((nI_eq (a := j14) (b := j29) (by omega) (by omega)).mpr z)
              refine aw_aload_n dX12_couples_40 rfl ?_
              refine aw_iload_n dX12_couples_41 rfl ?_
              refine aw_callVi (J' := jX12_isTold) (As := [.int (nI j14)]) (st := []) dX12_couples_42 tb_1351 ok_X12_isTold ⟨_, ((va_up_ne _ _ (by omega)).trans ((i14_1 100 (by omega)).trans k100))⟩ (by omega) rfl rfl (k_isTold l D b N (va_up V14 128 (cI D 16 (upd g14 (Int32.toNatClampNeg (nI j14)) 0))) hN ((va_up_ne _ _ (by omega)).trans ((i14_1 100 (by omega)).trans k100)) (nI j14)) rfl (Nat.le_of_ble_eq_true rfl) ⟨Nat.le_of_ble_eq_true rfl, Nat.le_of_ble_eq_true rfl, Nat.le_of_ble_eq_true rfl, Nat.le_of_ble_eq_true rfl⟩ (fun r_47 N_48 V_49 q_50 => ?_)
              obtain ⟨rfl, rfl, rfl⟩ := q_50
              refine aw_if_eq (tgt := 82) dX12_couples_45 (by decide) (fun c_51 => ?_) (fun c_51 => ?_)
              rotate_left
              · exact absurd (by decide) c_51
              refine aw_iinc (v := (nI (j29 + 1))) (ls' := [some (.ref (b + 100)), some (.int m), some (.int (nI j14)), some (.int (nI (j29 + 1))), none]) dX12_couples_82 rfl (fx_up_1 _) (Nat.le_of_ble_eq_true rfl) rfl ?_
              refine aw_goto (tgt := 29) dX12_couples_85 (by decide) ?_
              refine aw_le ?_ (ih_29_42 (j29 + 1)   (by omega))
              exact ⟨rfl, ⟨rfl, ⟨rfl, ⟨rfl, trivial⟩⟩⟩⟩
        refine aw_le ?_ (loop_29_41 12 0   (by omega))
        exact ⟨rfl, ⟨rfl, ⟨rfl, ⟨rfl, trivial⟩⟩⟩⟩
    refine aw_le ?_ (loop_14_17 12 0  V (by omega) (⟨_, k128, fun _ _ => rfl⟩) (fun i _ => rfl))
    exact ⟨rfl, ⟨rfl, ⟨rfl, trivial⟩⟩⟩

set_option maxHeartbeats 4000000 in
set_option maxRecDepth 100000 in
theorem k_firstWith (l : Launch) (D : va_G) (b : Nat) (N : Nat) (V : Wd) (hN : 133 ≤ N) (k100 : V 100 = cO 11 [.ref (b + 101), .ref (b + 102), .ref (b + 103), .ref (b + 104), .ref (b + 105), .ref (b + 106), .ref (b + 107), .ref (b + 108), .ref (b + 109), .int 0, .int 0, .int 0, .ref (b + 110), .int 0, .int 0, .int 0, .int 0, .int 0, .int 0, .int 0, .int 0, .int 0, .int 0, .ref (b + 111), .ref (b + 112), .ref (b + 113), .ref (b + 114), .ref (b + 115), .ref (b + 116), .ref (b + 117), .ref (b + 118), .ref (b + 119), .ref (b + 120), .ref (b + 121), .ref (b + 122), .ref (b + 123), .int 0, .int 0, .int 0, .int 0, .ref (b + 124), .ref (b + 125), .ref (b + 126), .ref (b + 127), .ref (b + 128), .int 0, .int 0, .ref (b + 129), .ref (b + 130), .ref (b + 131), .ref (b + 132), .int 0]) (f : Int32) : MI l D b 2 jX12_firstWith [.ref (b + 100), .int f] N V 0 0 (fun r N9 V9 => r = 0 ∧ N = N9 ∧ V = V9) := by
  refine mw_of (by decide) (by simp [Value.category]) (Nat.le_of_ble_eq_true rfl) ?_
  show AW l D b jX12_firstWith (fx_rm 2 0 0) none (fx_MQ D b 0 0 (fx_qi (fun r N9 V9 => r = 0 ∧ N = N9 ∧ V = V9))) 0 [some (.ref (b + 100)), some (.int f), none, none] [] N V 0 0
  refine aw_iconst (v := 0) dX12_firstWith_0 (by decide) ?_
  refine aw_istore_n (ls' := [some (.ref (b + 100)), some (.int f), some (.int 0), none]) dX12_firstWith_1 (Nat.le_of_ble_eq_true rfl) rfl ?_
  refine aw_iconst (v := 0) dX12_firstWith_2 (by decide) ?_
  refine aw_istore_n (ls' := [some (.ref (b + 100)), some (.int f), some (.int 0), some (.int 0)]) dX12_firstWith_3 (Nat.le_of_ble_eq_true rfl) rfl ?_
  have loop_4_0 : ∀ (g_4 : Nat), ∀ (j4 : Nat), j4 + g_4 = 12 → AW l D b jX12_firstWith (fx_rm 2 0 0) none (fx_MQ D b 0 0 (fx_qi (fun r N9 V9 => r = 0 ∧ N = N9 ∧ V = V9))) 4 [some (.ref (b + 100)), some (.int f), some (.int 0), some (.int (nI j4))] [] N V 0 0 := by
    intro g_4
    induction g_4 with
    | zero =>
      intro j4  hj4
      obtain rfl : j4 = 12 := by omega
      refine aw_iload_n dX12_firstWith_4 rfl ?_
      refine aw_bipush (v := 12) dX12_firstWith_5 (by decide) ?_
      refine aw_icmp_ge (tgt := 39) dX12_firstWith_7 (by decide) (fun c_3 => ?_) (fun c_3 => ?_)
      rotate_left
      · exact absurd (nI_le (a := 12) (b := 12) (Nat.le_refl _) (by omega)) c_3
      refine aw_iload_n dX12_firstWith_39 rfl ?_
      refine aw_ireti dX12_firstWith_40 rfl (Nat.le_of_ble_eq_true rfl) (Nat.le_of_ble_eq_true rfl) ?_
      exact ⟨rfl, rfl, rfl⟩
    | succ g_4 ih_4_1 =>
      intro j4  hj4
      have hlj4 : j4 < 12 := by omega
      refine aw_iload_n dX12_firstWith_4 rfl ?_
      refine aw_bipush (v := 12) dX12_firstWith_5 (by decide) ?_
      refine aw_icmp_ge (tgt := 39) dX12_firstWith_7 (by decide) (fun c_4 => ?_) (fun c_4 => ?_)
      · exact absurd c_4 (nI_ge (a := j4) (b := 12) (by omega) (by omega))
      refine aw_aload_n dX12_firstWith_10 rfl ?_
      refine aw_iload_n dX12_firstWith_11 rfl ?_
      refine aw_callVi (J' := jX12_isTold) (As := [.int (nI j4)]) (st := []) dX12_firstWith_12 tb_1351 ok_X12_isTold ⟨_, k100⟩ (by omega) rfl rfl (k_isTold l D b N V hN k100 (nI j4)) rfl (Nat.le_of_ble_eq_true rfl) ⟨Nat.le_of_ble_eq_true rfl, Nat.le_of_ble_eq_true rfl, Nat.le_of_ble_eq_true rfl, Nat.le_of_ble_eq_true rfl⟩ (fun r_5 N_6 V_7 q_8 => ?_)
      obtain ⟨rfl, rfl, rfl⟩ := q_8
      refine aw_if_eq (tgt := 33) dX12_firstWith_15 (by decide) (fun c_9 => ?_) (fun c_9 => ?_)
      rotate_left
      · exact absurd (by decide) c_9
      refine aw_iinc (v := (nI (j4 + 1))) (ls' := [some (.ref (b + 100)), some (.int f), some (.int 0), some (.int (nI (j4 + 1)))]) dX12_firstWith_33 rfl (fx_up_1 _) (Nat.le_of_ble_eq_true rfl) rfl ?_
      refine aw_goto (tgt := 4) dX12_firstWith_36 (by decide) ?_
      refine aw_le ?_ (ih_4_1 (j4 + 1)   (by omega))
      exact ⟨rfl, ⟨rfl, ⟨rfl, ⟨rfl, trivial⟩⟩⟩⟩
  refine aw_le ?_ (loop_4_0 12 0   (by omega))
  exact ⟨rfl, ⟨rfl, ⟨rfl, ⟨rfl, trivial⟩⟩⟩⟩

set_option maxHeartbeats 4000000 in
set_option maxRecDepth 100000 in
theorem r_fashion (l : Launch) (D : va_G) (b : Nat) (N : Nat) (V : Wd) (hN : 133 ≤ N) (hM : M0 D b V) (f : Int32) (m : Int32) (x : Int32) : MI l D b 3 jX12_fashion [.ref (b + 100), .int f, .int m, .int x] N V 0 0 (fun r N9 V9 => r = (if f < 0 then (-1) else if 16 ≤ f then (-1) else if m < 1 then (-1) else if 12 ≤ m then (-1) else if x < 0 then (-1) else if x ≤ 1 then 0 else (-1)) ∧ N = N9) := by
  obtain ⟨k100, k101, k102, k103, k104, k110, k124, k126, k127, k128, k130, k131⟩ := id hM
  refine mw_of (by decide) (by simp [Value.category]) (Nat.le_of_ble_eq_true rfl) ?_
  show AW l D b jX12_fashion (fx_rm 3 0 0) none (fx_MQ D b 0 0 (fx_qi (fun r N9 V9 => r = (if f < 0 then (-1) else if 16 ≤ f then (-1) else if m < 1 then (-1) else if 12 ≤ m then (-1) else if x < 0 then (-1) else if x ≤ 1 then 0 else (-1)) ∧ N = N9))) 0 [some (.ref (b + 100)), some (.int f), some (.int m), some (.int x), none, none, none, none] [] N V 0 0
  refine aw_iload_n dX12_fashion_0 rfl ?_
  refine aw_iconst (v := 0) dX12_fashion_1 (by decide) ?_
  refine aw_bipush (v := 15) dX12_fashion_2 (by decide) ?_
  refine aw_callSi (J' := jX12_in) (As := [.int f, .int 0, .int 15]) (st := []) dX12_fashion_4 tb_1209 ok_X12_in rfl (k_in l D b N V f 0 15) rfl (Nat.le_of_ble_eq_true rfl) ⟨Nat.le_of_ble_eq_true rfl, Nat.le_of_ble_eq_true rfl, Nat.le_of_ble_eq_true rfl, Nat.le_of_ble_eq_true rfl⟩ (fun r_1 N_2 V_3 q_4 => ?_)
  obtain ⟨rfl, rfl, rfl⟩ := q_4
  rcases inr_cases f 0 15 with ⟨g_5, e_6⟩ | ⟨g_7, g_8, g_9, e_10⟩ | ⟨g_11, g_12, g_13, e_14⟩
  · skip
    refine aw_eqi (y := 0) e_6 ?_
    refine aw_if_eq (tgt := 29) dX12_fashion_7 (by decide) (fun c_15 => ?_) (fun c_15 => ?_)
    rotate_left
    · exact absurd (by decide) c_15
    refine aw_iconst (v := (-1)) dX12_fashion_29 (by decide) ?_
    refine aw_ireti dX12_fashion_30 rfl (Nat.le_of_ble_eq_true rfl) (Nat.le_of_ble_eq_true rfl) ?_
    exact ⟨by (first | (simp only [g_5, c_15, reduceIte]; done) | (simp only [g_5, reduceIte]; done)), rfl⟩
  · skip
    refine aw_eqi (y := 0) e_10 ?_
    have gx_16 := fx_lt15.mp g_8
    refine aw_if_eq (tgt := 29) dX12_fashion_7 (by decide) (fun c_17 => ?_) (fun c_17 => ?_)
    rotate_left
    · exact absurd (by decide) c_17
    refine aw_iconst (v := (-1)) dX12_fashion_29 (by decide) ?_
    refine aw_ireti dX12_fashion_30 rfl (Nat.le_of_ble_eq_true rfl) (Nat.le_of_ble_eq_true rfl) ?_
    exact ⟨by (first | (simp only [g_7, g_8, g_9, gx_16, c_17, reduceIte]; done) | (simp only [g_7, g_8, g_9, gx_16, reduceIte]; done)), rfl⟩
  · skip
    refine aw_eqi (y := 1) e_14 ?_
    have gx_18 : ¬ 16 ≤ f := fun z => g_12 (fx_lt15.mpr z)
    refine aw_if_eq (tgt := 29) dX12_fashion_7 (by decide) (fun c_19 => ?_) (fun c_19 => ?_)
    · exact absurd c_19 (by decide)
    refine aw_iload_n dX12_fashion_10 rfl ?_
    refine aw_iconst (v := 1) dX12_fashion_11 (by decide) ?_
    refine aw_bipush (v := 11) dX12_fashion_12 (by decide) ?_
    refine aw_callSi (J' := jX12_in) (As := [.int m, .int 1, .int 11]) (st := []) dX12_fashion_14 tb_1209 ok_X12_in rfl (k_in l D b N V m 1 11) rfl (Nat.le_of_ble_eq_true rfl) ⟨Nat.le_of_ble_eq_true rfl, Nat.le_of_ble_eq_true rfl, Nat.le_of_ble_eq_true rfl, Nat.le_of_ble_eq_true rfl⟩ (fun r_20 N_21 V_22 q_23 => ?_)
    obtain ⟨rfl, rfl, rfl⟩ := q_23
    rcases inr_cases m 1 11 with ⟨g_24, e_25⟩ | ⟨g_26, g_27, g_28, e_29⟩ | ⟨g_30, g_31, g_32, e_33⟩
    · skip
      refine aw_eqi (y := 0) e_25 ?_
      refine aw_if_eq (tgt := 29) dX12_fashion_17 (by decide) (fun c_34 => ?_) (fun c_34 => ?_)
      rotate_left
      · exact absurd (by decide) c_34
      refine aw_iconst (v := (-1)) dX12_fashion_29 (by decide) ?_
      refine aw_ireti dX12_fashion_30 rfl (Nat.le_of_ble_eq_true rfl) (Nat.le_of_ble_eq_true rfl) ?_
      exact ⟨by (first | (simp only [g_11, g_12, g_13, gx_18, c_19, g_24, c_34, reduceIte]; done) | (simp only [g_11, g_12, g_13, gx_18, g_24, reduceIte]; done)), rfl⟩
    · skip
      refine aw_eqi (y := 0) e_29 ?_
      have gx_35 := fx_lt11.mp g_27
      refine aw_if_eq (tgt := 29) dX12_fashion_17 (by decide) (fun c_36 => ?_) (fun c_36 => ?_)
      rotate_left
      · exact absurd (by decide) c_36
      refine aw_iconst (v := (-1)) dX12_fashion_29 (by decide) ?_
      refine aw_ireti dX12_fashion_30 rfl (Nat.le_of_ble_eq_true rfl) (Nat.le_of_ble_eq_true rfl) ?_
      exact ⟨by (first | (simp only [g_11, g_12, g_13, gx_18, c_19, g_26, g_27, g_28, gx_35, c_36, reduceIte]; done) | (simp only [g_11, g_12, g_13, gx_18, g_26, g_27, g_28, gx_35, reduceIte]; done)), rfl⟩
    · skip
      refine aw_eqi (y := 1) e_33 ?_
      have gx_37 : ¬ 12 ≤ m := fun z => g_31 (fx_lt11.mpr z)
      refine aw_if_eq (tgt := 29) dX12_fashion_17 (by decide) (fun c_38 => ?_) (fun c_38 => ?_)
      · exact absurd c_38 (by decide)
      refine aw_iload_n dX12_fashion_20 rfl ?_
      refine aw_iconst (v := 0) dX12_fashion_21 (by decide) ?_
      refine aw_iconst (v := 1) dX12_fashion_22 (by decide) ?_
      refine aw_callSi (J' := jX12_in) (As := [.int x, .int 0, .int 1]) (st := []) dX12_fashion_23 tb_1209 ok_X12_in rfl (k_in l D b N V x 0 1) rfl (Nat.le_of_ble_eq_true rfl) ⟨Nat.le_of_ble_eq_true rfl, Nat.le_of_ble_eq_true rfl, Nat.le_of_ble_eq_true rfl, Nat.le_of_ble_eq_true rfl⟩ (fun r_39 N_40 V_41 q_42 => ?_)
      obtain ⟨rfl, rfl, rfl⟩ := q_42
      rcases inr_cases x 0 1 with ⟨g_43, e_44⟩ | ⟨g_45, g_46, g_47, e_48⟩ | ⟨g_49, g_50, g_51, e_52⟩
      · skip
        refine aw_eqi (y := 0) e_44 ?_
        refine aw_if_ne (tgt := 31) dX12_fashion_26 (by decide) (fun c_53 => ?_) (fun c_53 => ?_)
        · exact absurd rfl c_53
        refine aw_iconst (v := (-1)) dX12_fashion_29 (by decide) ?_
        refine aw_ireti dX12_fashion_30 rfl (Nat.le_of_ble_eq_true rfl) (Nat.le_of_ble_eq_true rfl) ?_
        exact ⟨by (first | (simp only [g_11, g_12, g_13, gx_18, c_19, g_30, g_31, g_32, gx_37, c_38, g_43, c_53, reduceIte]; done) | (simp only [g_11, g_12, g_13, gx_18, g_30, g_31, g_32, gx_37, g_43, reduceIte]; done)), rfl⟩
      · skip
        refine aw_eqi (y := 0) e_48 ?_
        refine aw_if_ne (tgt := 31) dX12_fashion_26 (by decide) (fun c_54 => ?_) (fun c_54 => ?_)
        · exact absurd rfl c_54
        refine aw_iconst (v := (-1)) dX12_fashion_29 (by decide) ?_
        refine aw_ireti dX12_fashion_30 rfl (Nat.le_of_ble_eq_true rfl) (Nat.le_of_ble_eq_true rfl) ?_
        exact ⟨by (first | (simp only [g_11, g_12, g_13, gx_18, c_19, g_30, g_31, g_32, gx_37, c_38, g_45, g_46, g_47, c_54, reduceIte]; done) | (simp only [g_11, g_12, g_13, gx_18, g_30, g_31, g_32, gx_37, g_45, g_46, g_47, reduceIte]; done)), rfl⟩
      · skip
        refine aw_eqi (y := 1) e_52 ?_
        refine aw_if_ne (tgt := 31) dX12_fashion_26 (by decide) (fun c_55 => ?_) (fun c_55 => ?_)
        rotate_left
        · exact absurd c_55 (by decide)
        refine aw_aload_n dX12_fashion_31 rfl ?_
        refine aw_iload_n dX12_fashion_32 rfl ?_
        refine aw_callVi (J' := jX12_firstWith) (As := [.int f]) (st := []) dX12_fashion_33 tb_1508 ok_X12_firstWith ⟨_, k100⟩ (by omega) rfl rfl (k_firstWith l D b N V hN k100 f) rfl (Nat.le_of_ble_eq_true rfl) ⟨Nat.le_of_ble_eq_true rfl, Nat.le_of_ble_eq_true rfl, Nat.le_of_ble_eq_true rfl, Nat.le_of_ble_eq_true rfl⟩ (fun r_56 N_57 V_58 q_59 => ?_)
        obtain ⟨rfl, rfl, rfl⟩ := q_59
        refine aw_istore (ls' := [some (.ref (b + 100)), some (.int f), some (.int m), some (.int x), some (.int 0), none, none, none]) dX12_fashion_36 (Nat.le_of_ble_eq_true rfl) rfl ?_
        refine aw_iconst (v := (-1)) dX12_fashion_38 (by decide) ?_
        refine aw_istore (ls' := [some (.ref (b + 100)), some (.int f), some (.int m), some (.int x), some (.int 0), some (.int (-1)), none, none]) dX12_fashion_39 (Nat.le_of_ble_eq_true rfl) rfl ?_
        refine aw_iconst (v := (-1)) dX12_fashion_41 (by decide) ?_
        refine aw_istore (ls' := [some (.ref (b + 100)), some (.int f), some (.int m), some (.int x), some (.int 0), some (.int (-1)), some (.int (-1)), none]) dX12_fashion_42 (Nat.le_of_ble_eq_true rfl) rfl ?_
        refine aw_iload dX12_fashion_44 rfl ?_
        refine aw_iload dX12_fashion_46 rfl ?_
        refine aw_icmp_eq (tgt := 115) dX12_fashion_48 (by decide) (fun c_60 => ?_) (fun c_60 => ?_)
        · exact absurd c_60 (by decide)
        refine aw_iload dX12_fashion_51 rfl ?_
        refine aw_istore (ls' := [some (.ref (b + 100)), some (.int f), some (.int m), some (.int x), some (.int 0), some (.int 0), some (.int (-1)), none]) dX12_fashion_53 (Nat.le_of_ble_eq_true rfl) rfl ?_
        refine aw_iload dX12_fashion_55 rfl ?_
        refine aw_iconst (v := 1) dX12_fashion_57 (by decide) ?_
        refine aw_iadd dX12_fashion_58 ?_
        refine aw_eqi (y := 0) (by decide) ?_
        refine aw_istore (ls' := [some (.ref (b + 100)), some (.int f), some (.int m), some (.int x), some (.int 0), some (.int 0), some (.int 0), none]) dX12_fashion_59 (Nat.le_of_ble_eq_true rfl) rfl ?_
        refine aw_iconst (v := 0) dX12_fashion_61 (by decide) ?_
        refine aw_istore (ls' := [some (.ref (b + 100)), some (.int f), some (.int m), some (.int x), some (.int 0), some (.int 0), some (.int 0), some (.int 0)]) dX12_fashion_62 (Nat.le_of_ble_eq_true rfl) rfl ?_
        have loop_64_60 : ∀ (g_64 : Nat), ∀ (j64 : Nat), j64 + g_64 = 12 → AW l D b jX12_fashion (fx_rm 3 0 0) none (fx_MQ D b 0 0 (fx_qi (fun r N9 V9 => r = (if f < 0 then (-1) else if 16 ≤ f then (-1) else if m < 1 then (-1) else if 12 ≤ m then (-1) else if x < 0 then (-1) else if x ≤ 1 then 0 else (-1)) ∧ N = N9))) 64 [some (.ref (b + 100)), some (.int f), some (.int m), some (.int x), some (.int 0), some (.int 0), some (.int 0), some (.int (nI j64))] [] N V 0 0 := by
          intro g_64
          induction g_64 with
          | zero =>
            intro j64  hj64
            obtain rfl : j64 = 12 := by omega
            refine aw_iload dX12_fashion_64 rfl ?_
            refine aw_bipush (v := 12) dX12_fashion_66 (by decide) ?_
            refine aw_icmp_ge (tgt := 112) dX12_fashion_68 (by decide) (fun c_63 => ?_) (fun c_63 => ?_)
            rotate_left
            · exact absurd (nI_le (a := 12) (b := 12) (Nat.le_refl _) (by omega)) c_63
            refine aw_goto (tgt := 44) dX12_fashion_112 (by decide) ?_
            refine aw_iload dX12_fashion_44 rfl ?_
            refine aw_iload dX12_fashion_46 rfl ?_
            refine aw_icmp_eq (tgt := 115) dX12_fashion_48 (by decide) (fun c_64 => ?_) (fun c_64 => ?_)
            rotate_left
            · exact absurd (by decide) c_64
            refine aw_iload_n dX12_fashion_115 rfl ?_
            refine aw_if_ne (tgt := 124) dX12_fashion_116 (by decide) (fun c_65 => ?_) (fun c_65 => ?_)
            · skip
              refine aw_iload dX12_fashion_124 rfl ?_
              refine aw_ireti dX12_fashion_126 rfl (Nat.le_of_ble_eq_true rfl) (Nat.le_of_ble_eq_true rfl) ?_
              exact ⟨by (first | (simp only [g_11, g_12, g_13, gx_18, c_19, g_30, g_31, g_32, gx_37, c_38, g_49, g_50, g_51, c_55, c_60, c_63, c_64, c_65, reduceIte]; done) | (simp only [g_11, g_12, g_13, gx_18, g_30, g_31, g_32, gx_37, g_49, g_50, g_51, c_63, reduceIte]; done)), rfl⟩
            · skip
              refine aw_iload dX12_fashion_119 rfl ?_
              refine aw_goto (tgt := 126) dX12_fashion_121 (by decide) ?_
              refine aw_ireti dX12_fashion_126 rfl (Nat.le_of_ble_eq_true rfl) (Nat.le_of_ble_eq_true rfl) ?_
              exact ⟨by (first | (simp only [g_11, g_12, g_13, gx_18, c_19, g_30, g_31, g_32, gx_37, c_38, g_49, g_50, g_51, c_55, c_60, c_63, c_64, c_65, reduceIte]; done) | (simp only [g_11, g_12, g_13, gx_18, g_30, g_31, g_32, gx_37, g_49, g_50, g_51, c_63, reduceIte]; done)), rfl⟩
          | succ g_64 ih_64_61 =>
            intro j64  hj64
            have hlj64 : j64 < 12 := by omega
            refine aw_iload dX12_fashion_64 rfl ?_
            refine aw_bipush (v := 12) dX12_fashion_66 (by decide) ?_
            refine aw_icmp_ge (tgt := 112) dX12_fashion_68 (by decide) (fun c_66 => ?_) (fun c_66 => ?_)
            · exact absurd c_66 (nI_ge (a := j64) (b := 12) (by omega) (by omega))
            refine aw_aload_n dX12_fashion_71 rfl ?_
            refine aw_iload dX12_fashion_72 rfl ?_
            refine aw_callVi (J' := jX12_isTold) (As := [.int (nI j64)]) (st := []) dX12_fashion_74 tb_1351 ok_X12_isTold ⟨_, k100⟩ (by omega) rfl rfl (k_isTold l D b N V hN k100 (nI j64)) rfl (Nat.le_of_ble_eq_true rfl) ⟨Nat.le_of_ble_eq_true rfl, Nat.le_of_ble_eq_true rfl, Nat.le_of_ble_eq_true rfl, Nat.le_of_ble_eq_true rfl⟩ (fun r_67 N_68 V_69 q_70 => ?_)
            obtain ⟨rfl, rfl, rfl⟩ := q_70
            refine aw_if_eq (tgt := 106) dX12_fashion_77 (by decide) (fun c_71 => ?_) (fun c_71 => ?_)
            rotate_left
            · exact absurd (by decide) c_71
            refine aw_iinc (v := (nI (j64 + 1))) (ls' := [some (.ref (b + 100)), some (.int f), some (.int m), some (.int x), some (.int 0), some (.int 0), some (.int 0), some (.int (nI (j64 + 1)))]) dX12_fashion_106 rfl (fx_up_1 _) (Nat.le_of_ble_eq_true rfl) rfl ?_
            refine aw_goto (tgt := 64) dX12_fashion_109 (by decide) ?_
            refine aw_le ?_ (ih_64_61 (j64 + 1)   (by omega))
            exact ⟨rfl, ⟨rfl, ⟨rfl, ⟨rfl, ⟨rfl, ⟨rfl, ⟨rfl, ⟨rfl, trivial⟩⟩⟩⟩⟩⟩⟩⟩
        refine aw_le ?_ (loop_64_60 12 0   (by omega))
        exact ⟨rfl, ⟨rfl, ⟨rfl, ⟨rfl, ⟨rfl, ⟨rfl, ⟨rfl, ⟨rfl, trivial⟩⟩⟩⟩⟩⟩⟩⟩

set_option maxHeartbeats 4000000 in
set_option maxRecDepth 100000 in
theorem r_fears (l : Launch) (D : va_G) (b : Nat) (N : Nat) (V : Wd) (hN : 133 ≤ N) (hM : M0 D b V) (x : Int32) : MI l D b 2 jX12_fears [.ref (b + 100), .int x] N V 0 0 (fun r N9 V9 => r = (if x < 0 then (-1) else if x ≤ 1 then 65535 else (-1)) ∧ N = N9) := by
  obtain ⟨k100, k101, k102, k103, k104, k110, k124, k126, k127, k128, k130, k131⟩ := id hM
  refine mw_of (by decide) (by simp [Value.category]) (Nat.le_of_ble_eq_true rfl) ?_
  show AW l D b jX12_fears (fx_rm 2 0 0) none (fx_MQ D b 0 0 (fx_qi (fun r N9 V9 => r = (if x < 0 then (-1) else if x ≤ 1 then 65535 else (-1)) ∧ N = N9))) 0 [some (.ref (b + 100)), some (.int x), none, none, none] [] N V 0 0
  refine aw_iload_n dX12_fears_0 rfl ?_
  refine aw_iconst (v := 0) dX12_fears_1 (by decide) ?_
  refine aw_iconst (v := 1) dX12_fears_2 (by decide) ?_
  refine aw_callSi (J' := jX12_in) (As := [.int x, .int 0, .int 1]) (st := []) dX12_fears_3 tb_1209 ok_X12_in rfl (k_in l D b N V x 0 1) rfl (Nat.le_of_ble_eq_true rfl) ⟨Nat.le_of_ble_eq_true rfl, Nat.le_of_ble_eq_true rfl, Nat.le_of_ble_eq_true rfl, Nat.le_of_ble_eq_true rfl⟩ (fun r_1 N_2 V_3 q_4 => ?_)
  obtain ⟨rfl, rfl, rfl⟩ := q_4
  rcases inr_cases x 0 1 with ⟨g_5, e_6⟩ | ⟨g_7, g_8, g_9, e_10⟩ | ⟨g_11, g_12, g_13, e_14⟩
  · skip
    refine aw_eqi (y := 0) e_6 ?_
    refine aw_if_ne (tgt := 11) dX12_fears_6 (by decide) (fun c_15 => ?_) (fun c_15 => ?_)
    · exact absurd rfl c_15
    refine aw_iconst (v := (-1)) dX12_fears_9 (by decide) ?_
    refine aw_ireti dX12_fears_10 rfl (Nat.le_of_ble_eq_true rfl) (Nat.le_of_ble_eq_true rfl) ?_
    exact ⟨by (first | (simp only [g_5, c_15, reduceIte]; done) | (simp only [g_5, reduceIte]; done)), rfl⟩
  · skip
    refine aw_eqi (y := 0) e_10 ?_
    refine aw_if_ne (tgt := 11) dX12_fears_6 (by decide) (fun c_16 => ?_) (fun c_16 => ?_)
    · exact absurd rfl c_16
    refine aw_iconst (v := (-1)) dX12_fears_9 (by decide) ?_
    refine aw_ireti dX12_fears_10 rfl (Nat.le_of_ble_eq_true rfl) (Nat.le_of_ble_eq_true rfl) ?_
    exact ⟨by (first | (simp only [g_7, g_8, g_9, c_16, reduceIte]; done) | (simp only [g_7, g_8, g_9, reduceIte]; done)), rfl⟩
  · skip
    refine aw_eqi (y := 1) e_14 ?_
    refine aw_if_ne (tgt := 11) dX12_fears_6 (by decide) (fun c_17 => ?_) (fun c_17 => ?_)
    rotate_left
    · exact absurd c_17 (by decide)
    refine aw_ldcw (v := 65535) dX12_fears_11 tb_1314 ?_
    refine aw_istore_n (ls' := [some (.ref (b + 100)), some (.int x), some (.int 65535), none, none]) dX12_fears_14 (Nat.le_of_ble_eq_true rfl) rfl ?_
    refine aw_iconst (v := 0) dX12_fears_15 (by decide) ?_
    refine aw_istore_n (ls' := [some (.ref (b + 100)), some (.int x), some (.int 65535), some (.int 0), none]) dX12_fears_16 (Nat.le_of_ble_eq_true rfl) rfl ?_
    have loop_17_17 : ∀ (g_17 : Nat), ∀ (j17 : Nat), j17 + g_17 = 12 → AW l D b jX12_fears (fx_rm 2 0 0) none (fx_MQ D b 0 0 (fx_qi (fun r N9 V9 => r = (if x < 0 then (-1) else if x ≤ 1 then 65535 else (-1)) ∧ N = N9))) 17 [some (.ref (b + 100)), some (.int x), some (.int 65535), some (.int (nI j17)), none] [] N V 0 0 := by
      intro g_17
      induction g_17 with
      | zero =>
        intro j17  hj17
        obtain rfl : j17 = 12 := by omega
        refine aw_iload_n dX12_fears_17 rfl ?_
        refine aw_bipush (v := 12) dX12_fears_18 (by decide) ?_
        refine aw_icmp_ge (tgt := 84) dX12_fears_20 (by decide) (fun c_20 => ?_) (fun c_20 => ?_)
        rotate_left
        · exact absurd (nI_le (a := 12) (b := 12) (Nat.le_refl _) (by omega)) c_20
        refine aw_iload_n dX12_fears_84 rfl ?_
        refine aw_ireti dX12_fears_85 rfl (Nat.le_of_ble_eq_true rfl) (Nat.le_of_ble_eq_true rfl) ?_
        exact ⟨by (first | (simp only [g_11, g_12, g_13, c_17, c_20, reduceIte]; done) | (simp only [g_11, g_12, g_13, c_20, reduceIte]; done)), rfl⟩
      | succ g_17 ih_17_18 =>
        intro j17  hj17
        have hlj17 : j17 < 12 := by omega
        refine aw_iload_n dX12_fears_17 rfl ?_
        refine aw_bipush (v := 12) dX12_fears_18 (by decide) ?_
        refine aw_icmp_ge (tgt := 84) dX12_fears_20 (by decide) (fun c_21 => ?_) (fun c_21 => ?_)
        · exact absurd c_21 (nI_ge (a := j17) (b := 12) (by omega) (by omega))
        refine aw_iconst (v := 0) dX12_fears_23 (by decide) ?_
        refine aw_istore (ls' := [some (.ref (b + 100)), some (.int x), some (.int 65535), some (.int (nI j17)), some (.int 0)]) dX12_fears_24 (Nat.le_of_ble_eq_true rfl) rfl ?_
        refine aw_iload dX12_fears_26 rfl ?_
        refine aw_bipush (v := 16) dX12_fears_28 (by decide) ?_
        refine aw_icmp_ge (tgt := 78) dX12_fears_30 (by decide) (fun c_22 => ?_) (fun c_22 => ?_)
        · exact absurd c_22 (by decide)
        refine aw_aload_n dX12_fears_33 rfl ?_
        refine aw_iload_n dX12_fears_34 rfl ?_
        refine aw_callVi (J' := jX12_isTold) (As := [.int (nI j17)]) (st := []) dX12_fears_35 tb_1351 ok_X12_isTold ⟨_, k100⟩ (by omega) rfl rfl (k_isTold l D b N V hN k100 (nI j17)) rfl (Nat.le_of_ble_eq_true rfl) ⟨Nat.le_of_ble_eq_true rfl, Nat.le_of_ble_eq_true rfl, Nat.le_of_ble_eq_true rfl, Nat.le_of_ble_eq_true rfl⟩ (fun r_23 N_24 V_25 q_26 => ?_)
        obtain ⟨rfl, rfl, rfl⟩ := q_26
        refine aw_if_eq (tgt := 78) dX12_fears_38 (by decide) (fun c_27 => ?_) (fun c_27 => ?_)
        rotate_left
        · exact absurd (by decide) c_27
        refine aw_iinc (v := (nI (j17 + 1))) (ls' := [some (.ref (b + 100)), some (.int x), some (.int 65535), some (.int (nI (j17 + 1))), some (.int 0)]) dX12_fears_78 rfl (fx_up_1 _) (Nat.le_of_ble_eq_true rfl) rfl ?_
        refine aw_goto (tgt := 17) dX12_fears_81 (by decide) ?_
        refine aw_le ?_ (ih_17_18 (j17 + 1)   (by omega))
        exact ⟨rfl, ⟨rfl, ⟨rfl, ⟨rfl, trivial⟩⟩⟩⟩
    refine aw_le ?_ (loop_17_17 12 0   (by omega))
    exact ⟨rfl, ⟨rfl, ⟨rfl, ⟨rfl, trivial⟩⟩⟩⟩

set_option maxHeartbeats 4000000 in
set_option maxRecDepth 100000 in
theorem r_unlike (l : Launch) (D : va_G) (b : Nat) (N : Nat) (V : Wd) (hN : 133 ≤ N) (hM : M0 D b V) (p : Int32) (q : Int32) : MI l D b 2 jX12_unlike [.ref (b + 100), .int p, .int q] N V 0 0 (fun r N9 V9 => r = (-1) ∧ N = N9) := by
  obtain ⟨k100, k101, k102, k103, k104, k110, k124, k126, k127, k128, k130, k131⟩ := id hM
  refine mw_of (by decide) (by simp [Value.category]) (Nat.le_of_ble_eq_true rfl) ?_
  show AW l D b jX12_unlike (fx_rm 2 0 0) none (fx_MQ D b 0 0 (fx_qi (fun r N9 V9 => r = (-1) ∧ N = N9))) 0 [some (.ref (b + 100)), some (.int p), some (.int q)] [] N V 0 0
  refine aw_aload_n dX12_unlike_0 rfl ?_
  refine aw_iload_n dX12_unlike_1 rfl ?_
  refine aw_callVi (J' := jX12_isTold) (As := [.int p]) (st := []) dX12_unlike_2 tb_1351 ok_X12_isTold ⟨_, k100⟩ (by omega) rfl rfl (k_isTold l D b N V hN k100 p) rfl (Nat.le_of_ble_eq_true rfl) ⟨Nat.le_of_ble_eq_true rfl, Nat.le_of_ble_eq_true rfl, Nat.le_of_ble_eq_true rfl, Nat.le_of_ble_eq_true rfl⟩ (fun r_1 N_2 V_3 q_4 => ?_)
  obtain ⟨rfl, rfl, rfl⟩ := q_4
  refine aw_if_eq (tgt := 25) dX12_unlike_5 (by decide) (fun c_5 => ?_) (fun c_5 => ?_)
  rotate_left
  · exact absurd (by decide) c_5
  refine aw_iconst (v := (-1)) dX12_unlike_25 (by decide) ?_
  refine aw_ireti dX12_unlike_26 rfl (Nat.le_of_ble_eq_true rfl) (Nat.le_of_ble_eq_true rfl) ?_
  exact ⟨rfl, rfl⟩

set_option maxHeartbeats 4000000 in
set_option maxRecDepth 100000 in
theorem r_mostLike (l : Launch) (D : va_G) (b : Nat) (N : Nat) (V : Wd) (hN : 133 ≤ N) (hM : M0 D b V) (p : Int32) : MI l D b 2 jX12_mostLike [.ref (b + 100), .int p] N V 0 0 (fun r N9 V9 => r = (-1) ∧ N = N9) := by
  obtain ⟨k100, k101, k102, k103, k104, k110, k124, k126, k127, k128, k130, k131⟩ := id hM
  refine mw_of (by decide) (by simp [Value.category]) (Nat.le_of_ble_eq_true rfl) ?_
  show AW l D b jX12_mostLike (fx_rm 2 0 0) none (fx_MQ D b 0 0 (fx_qi (fun r N9 V9 => r = (-1) ∧ N = N9))) 0 [some (.ref (b + 100)), some (.int p), none, none] [] N V 0 0
  refine aw_aload_n dX12_mostLike_0 rfl ?_
  refine aw_iload_n dX12_mostLike_1 rfl ?_
  refine aw_callVi (J' := jX12_isTold) (As := [.int p]) (st := []) dX12_mostLike_2 tb_1351 ok_X12_isTold ⟨_, k100⟩ (by omega) rfl rfl (k_isTold l D b N V hN k100 p) rfl (Nat.le_of_ble_eq_true rfl) ⟨Nat.le_of_ble_eq_true rfl, Nat.le_of_ble_eq_true rfl, Nat.le_of_ble_eq_true rfl, Nat.le_of_ble_eq_true rfl⟩ (fun r_1 N_2 V_3 q_4 => ?_)
  obtain ⟨rfl, rfl, rfl⟩ := q_4
  refine aw_if_ne (tgt := 10) dX12_mostLike_5 (by decide) (fun c_5 => ?_) (fun c_5 => ?_)
  · exact absurd rfl c_5
  refine aw_iconst (v := (-1)) dX12_mostLike_8 (by decide) ?_
  refine aw_ireti dX12_mostLike_9 rfl (Nat.le_of_ble_eq_true rfl) (Nat.le_of_ble_eq_true rfl) ?_
  exact ⟨rfl, rfl⟩

set_option maxHeartbeats 4000000 in
set_option maxRecDepth 100000 in
theorem r_circles (l : Launch) (D : va_G) (b : Nat) (N : Nat) (V : Wd) (hN : 133 ≤ N) (hM : M0 D b V) (m : Int32) (x : Int32) : MI l D b 2 jX12_circles [.ref (b + 100), .int m, .int x] N V 0 0 (fun r N9 V9 => r = (if m < 0 then (-1) else if 1584 < m then (-1) else if x = 100 then 0 else (-1)) ∧ N = N9) := by
  obtain ⟨k100, k101, k102, k103, k104, k110, k124, k126, k127, k128, k130, k131⟩ := id hM
  refine mw_of (by decide) (by simp [Value.category]) (Nat.le_of_ble_eq_true rfl) ?_
  show AW l D b jX12_circles (fx_rm 2 0 0) none (fx_MQ D b 0 0 (fx_qi (fun r N9 V9 => r = (if m < 0 then (-1) else if 1584 < m then (-1) else if x = 100 then 0 else (-1)) ∧ N = N9))) 0 [some (.ref (b + 100)), some (.int m), some (.int x), none, none, none] [] N V 0 0
  refine aw_iload_n dX12_circles_0 rfl ?_
  refine aw_iconst (v := 0) dX12_circles_1 (by decide) ?_
  refine aw_sipush (v := 1584) dX12_circles_2 (by decide) ?_
  refine aw_callSi (J' := jX12_in) (As := [.int m, .int 0, .int 1584]) (st := []) dX12_circles_5 tb_1209 ok_X12_in rfl (k_in l D b N V m 0 1584) rfl (Nat.le_of_ble_eq_true rfl) ⟨Nat.le_of_ble_eq_true rfl, Nat.le_of_ble_eq_true rfl, Nat.le_of_ble_eq_true rfl, Nat.le_of_ble_eq_true rfl⟩ (fun r_1 N_2 V_3 q_4 => ?_)
  obtain ⟨rfl, rfl, rfl⟩ := q_4
  rcases inr_cases m 0 1584 with ⟨g_5, e_6⟩ | ⟨g_7, g_8, g_9, e_10⟩ | ⟨g_11, g_12, g_13, e_14⟩
  · skip
    refine aw_eqi (y := 0) e_6 ?_
    refine aw_if_eq (tgt := 25) dX12_circles_8 (by decide) (fun c_15 => ?_) (fun c_15 => ?_)
    rotate_left
    · exact absurd (by decide) c_15
    refine aw_iconst (v := (-1)) dX12_circles_25 (by decide) ?_
    refine aw_ireti dX12_circles_26 rfl (Nat.le_of_ble_eq_true rfl) (Nat.le_of_ble_eq_true rfl) ?_
    exact ⟨by (first | (simp only [g_5, c_15, reduceIte]; done) | (simp only [g_5, reduceIte]; done)), rfl⟩
  · skip
    refine aw_eqi (y := 0) e_10 ?_
    refine aw_if_eq (tgt := 25) dX12_circles_8 (by decide) (fun c_16 => ?_) (fun c_16 => ?_)
    rotate_left
    · exact absurd (by decide) c_16
    refine aw_iconst (v := (-1)) dX12_circles_25 (by decide) ?_
    refine aw_ireti dX12_circles_26 rfl (Nat.le_of_ble_eq_true rfl) (Nat.le_of_ble_eq_true rfl) ?_
    exact ⟨by (first | (simp only [g_7, g_8, g_9, c_16, reduceIte]; done) | (simp only [g_7, g_8, g_9, reduceIte]; done)), rfl⟩
  · skip
    refine aw_eqi (y := 1) e_14 ?_
    refine aw_if_eq (tgt := 25) dX12_circles_8 (by decide) (fun c_17 => ?_) (fun c_17 => ?_)
    · exact absurd c_17 (by decide)
    refine aw_iload_n dX12_circles_11 rfl ?_
    refine aw_bipush (v := 100) dX12_circles_12 (by decide) ?_
    refine aw_icmp_eq (tgt := 27) dX12_circles_14 (by decide) (fun c_18 => ?_) (fun c_18 => ?_)
    · skip
      refine aw_iload_n dX12_circles_27 rfl ?_
      refine aw_bipush (v := 100) dX12_circles_28 (by decide) ?_
      refine aw_icmp_eq (tgt := 40) dX12_circles_30 (by decide) (fun c_19 => ?_) (fun c_19 => ?_)
      rotate_left
      · exact absurd c_18 c_19
      refine aw_iconst (v := 0) dX12_circles_40 (by decide) ?_
      refine aw_istore_n (ls' := [some (.ref (b + 100)), some (.int m), some (.int x), some (.int 0), none, none]) dX12_circles_41 (Nat.le_of_ble_eq_true rfl) rfl ?_
      refine aw_iconst (v := 0) dX12_circles_42 (by decide) ?_
      refine aw_istore (ls' := [some (.ref (b + 100)), some (.int m), some (.int x), some (.int 0), some (.int 0), none]) dX12_circles_43 (Nat.le_of_ble_eq_true rfl) rfl ?_
      refine aw_iconst (v := 0) dX12_circles_45 (by decide) ?_
      refine aw_istore (ls' := [some (.ref (b + 100)), some (.int m), some (.int x), some (.int 0), some (.int 0), some (.int 0)]) dX12_circles_46 (Nat.le_of_ble_eq_true rfl) rfl ?_
      have loop_48_19 : ∀ (g_48 : Nat), ∀ (j48 : Nat), j48 + g_48 = 12 → AW l D b jX12_circles (fx_rm 2 0 0) none (fx_MQ D b 0 0 (fx_qi (fun r N9 V9 => r = (if m < 0 then (-1) else if 1584 < m then (-1) else if x = 100 then 0 else (-1)) ∧ N = N9))) 48 [some (.ref (b + 100)), some (.int m), some (.int x), some (.int 0), some (.int 0), some (.int (nI j48))] [] N V 0 0 := by
        intro g_48
        induction g_48 with
        | zero =>
          intro j48  hj48
          obtain rfl : j48 = 12 := by omega
          refine aw_iload dX12_circles_48 rfl ?_
          refine aw_bipush (v := 12) dX12_circles_50 (by decide) ?_
          refine aw_icmp_ge (tgt := 99) dX12_circles_52 (by decide) (fun c_22 => ?_) (fun c_22 => ?_)
          rotate_left
          · exact absurd (nI_le (a := 12) (b := 12) (Nat.le_refl _) (by omega)) c_22
          refine aw_iload_n dX12_circles_99 rfl ?_
          refine aw_ireti dX12_circles_100 rfl (Nat.le_of_ble_eq_true rfl) (Nat.le_of_ble_eq_true rfl) ?_
          exact ⟨by (first | (simp only [g_11, g_12, g_13, c_17, c_18, c_19, c_22, reduceIte]; done) | (simp only [g_11, g_12, g_13, c_22, reduceIte]; done)), rfl⟩
        | succ g_48 ih_48_20 =>
          intro j48  hj48
          have hlj48 : j48 < 12 := by omega
          refine aw_iload dX12_circles_48 rfl ?_
          refine aw_bipush (v := 12) dX12_circles_50 (by decide) ?_
          refine aw_icmp_ge (tgt := 99) dX12_circles_52 (by decide) (fun c_23 => ?_) (fun c_23 => ?_)
          · exact absurd c_23 (nI_ge (a := j48) (b := 12) (by omega) (by omega))
          refine aw_aload_n dX12_circles_55 rfl ?_
          refine aw_iload dX12_circles_56 rfl ?_
          refine aw_callVi (J' := jX12_isTold) (As := [.int (nI j48)]) (st := []) dX12_circles_58 tb_1351 ok_X12_isTold ⟨_, k100⟩ (by omega) rfl rfl (k_isTold l D b N V hN k100 (nI j48)) rfl (Nat.le_of_ble_eq_true rfl) ⟨Nat.le_of_ble_eq_true rfl, Nat.le_of_ble_eq_true rfl, Nat.le_of_ble_eq_true rfl, Nat.le_of_ble_eq_true rfl⟩ (fun r_24 N_25 V_26 q_27 => ?_)
          obtain ⟨rfl, rfl, rfl⟩ := q_27
          refine aw_if_eq (tgt := 93) dX12_circles_61 (by decide) (fun c_28 => ?_) (fun c_28 => ?_)
          rotate_left
          · exact absurd (by decide) c_28
          refine aw_iinc (v := (nI (j48 + 1))) (ls' := [some (.ref (b + 100)), some (.int m), some (.int x), some (.int 0), some (.int 0), some (.int (nI (j48 + 1)))]) dX12_circles_93 rfl (fx_up_1 _) (Nat.le_of_ble_eq_true rfl) rfl ?_
          refine aw_goto (tgt := 48) dX12_circles_96 (by decide) ?_
          refine aw_le ?_ (ih_48_20 (j48 + 1)   (by omega))
          exact ⟨rfl, ⟨rfl, ⟨rfl, ⟨rfl, ⟨rfl, ⟨rfl, trivial⟩⟩⟩⟩⟩⟩
      refine aw_le ?_ (loop_48_19 12 0   (by omega))
      exact ⟨rfl, ⟨rfl, ⟨rfl, ⟨rfl, ⟨rfl, ⟨rfl, trivial⟩⟩⟩⟩⟩⟩
    · skip
      refine aw_aload_n dX12_circles_17 rfl ?_
      refine aw_iload_n dX12_circles_18 rfl ?_
      refine aw_callVi (J' := jX12_isTold) (As := [.int x]) (st := []) dX12_circles_19 tb_1351 ok_X12_isTold ⟨_, k100⟩ (by omega) rfl rfl (k_isTold l D b N V hN k100 x) rfl (Nat.le_of_ble_eq_true rfl) ⟨Nat.le_of_ble_eq_true rfl, Nat.le_of_ble_eq_true rfl, Nat.le_of_ble_eq_true rfl, Nat.le_of_ble_eq_true rfl⟩ (fun r_29 N_30 V_31 q_32 => ?_)
      obtain ⟨rfl, rfl, rfl⟩ := q_32
      refine aw_if_ne (tgt := 27) dX12_circles_22 (by decide) (fun c_33 => ?_) (fun c_33 => ?_)
      · exact absurd rfl c_33
      refine aw_iconst (v := (-1)) dX12_circles_25 (by decide) ?_
      refine aw_ireti dX12_circles_26 rfl (Nat.le_of_ble_eq_true rfl) (Nat.le_of_ble_eq_true rfl) ?_
      exact ⟨by (first | (simp only [g_11, g_12, g_13, c_17, c_18, c_33, reduceIte]; done) | (simp only [g_11, g_12, g_13, reduceIte]; done)), rfl⟩

set_option maxHeartbeats 4000000 in
set_option maxRecDepth 100000 in
theorem r_keystones (l : Launch) (D : va_G) (b : Nat) (N : Nat) (V : Wd) (hN : 133 ≤ N) (hM : M0 D b V)  : MI l D b 2 jX12_keystones [.ref (b + 100)] N V 0 0 (fun r N9 V9 => r = 0 ∧ N = N9) := by
  obtain ⟨k100, k101, k102, k103, k104, k110, k124, k126, k127, k128, k130, k131⟩ := id hM
  refine mw_of (by decide) (by simp [Value.category]) (Nat.le_of_ble_eq_true rfl) ?_
  show AW l D b jX12_keystones (fx_rm 2 0 0) none (fx_MQ D b 0 0 (fx_qi (fun r N9 V9 => r = 0 ∧ N = N9))) 0 [some (.ref (b + 100)), none, none] [] N V 0 0
  refine aw_iconst (v := 0) dX12_keystones_0 (by decide) ?_
  refine aw_istore_n (ls' := [some (.ref (b + 100)), some (.int 0), none]) dX12_keystones_1 (Nat.le_of_ble_eq_true rfl) rfl ?_
  refine aw_iconst (v := 0) dX12_keystones_2 (by decide) ?_
  refine aw_istore_n (ls' := [some (.ref (b + 100)), some (.int 0), some (.int 0)]) dX12_keystones_3 (Nat.le_of_ble_eq_true rfl) rfl ?_
  have loop_4_0 : ∀ (g_4 : Nat), ∀ (j4 : Nat), j4 + g_4 = 12 → AW l D b jX12_keystones (fx_rm 2 0 0) none (fx_MQ D b 0 0 (fx_qi (fun r N9 V9 => r = 0 ∧ N = N9))) 4 [some (.ref (b + 100)), some (.int 0), some (.int (nI j4))] [] N V 0 0 := by
    intro g_4
    induction g_4 with
    | zero =>
      intro j4  hj4
      obtain rfl : j4 = 12 := by omega
      refine aw_iload_n dX12_keystones_4 rfl ?_
      refine aw_bipush (v := 12) dX12_keystones_5 (by decide) ?_
      refine aw_icmp_ge (tgt := 38) dX12_keystones_7 (by decide) (fun c_3 => ?_) (fun c_3 => ?_)
      rotate_left
      · exact absurd (nI_le (a := 12) (b := 12) (Nat.le_refl _) (by omega)) c_3
      refine aw_iload_n dX12_keystones_38 rfl ?_
      refine aw_ireti dX12_keystones_39 rfl (Nat.le_of_ble_eq_true rfl) (Nat.le_of_ble_eq_true rfl) ?_
      exact ⟨rfl, rfl⟩
    | succ g_4 ih_4_1 =>
      intro j4  hj4
      have hlj4 : j4 < 12 := by omega
      refine aw_iload_n dX12_keystones_4 rfl ?_
      refine aw_bipush (v := 12) dX12_keystones_5 (by decide) ?_
      refine aw_icmp_ge (tgt := 38) dX12_keystones_7 (by decide) (fun c_4 => ?_) (fun c_4 => ?_)
      · exact absurd c_4 (nI_ge (a := j4) (b := 12) (by omega) (by omega))
      refine aw_aload_n dX12_keystones_10 rfl ?_
      refine aw_iload_n dX12_keystones_11 rfl ?_
      refine aw_callVi (J' := jX12_isTold) (As := [.int (nI j4)]) (st := []) dX12_keystones_12 tb_1351 ok_X12_isTold ⟨_, k100⟩ (by omega) rfl rfl (k_isTold l D b N V hN k100 (nI j4)) rfl (Nat.le_of_ble_eq_true rfl) ⟨Nat.le_of_ble_eq_true rfl, Nat.le_of_ble_eq_true rfl, Nat.le_of_ble_eq_true rfl, Nat.le_of_ble_eq_true rfl⟩ (fun r_5 N_6 V_7 q_8 => ?_)
      obtain ⟨rfl, rfl, rfl⟩ := q_8
      refine aw_if_eq (tgt := 32) dX12_keystones_15 (by decide) (fun c_9 => ?_) (fun c_9 => ?_)
      rotate_left
      · exact absurd (by decide) c_9
      refine aw_iinc (v := (nI (j4 + 1))) (ls' := [some (.ref (b + 100)), some (.int 0), some (.int (nI (j4 + 1)))]) dX12_keystones_32 rfl (fx_up_1 _) (Nat.le_of_ble_eq_true rfl) rfl ?_
      refine aw_goto (tgt := 4) dX12_keystones_35 (by decide) ?_
      refine aw_le ?_ (ih_4_1 (j4 + 1)   (by omega))
      exact ⟨rfl, ⟨rfl, ⟨rfl, trivial⟩⟩⟩
  refine aw_le ?_ (loop_4_0 12 0   (by omega))
  exact ⟨rfl, ⟨rfl, ⟨rfl, trivial⟩⟩⟩

set_option maxHeartbeats 4000000 in
set_option maxRecDepth 100000 in
theorem r_steps (l : Launch) (D : va_G) (b : Nat) (N : Nat) (V : Wd) (hN : 133 ≤ N) (hM : M0 D b V) (p : Int32) (q : Int32) : MI l D b 2 jX12_steps [.ref (b + 100), .int p, .int q] N V 0 0 (fun r N9 V9 => r = (-1) ∧ N = N9) := by
  obtain ⟨k100, k101, k102, k103, k104, k110, k124, k126, k127, k128, k130, k131⟩ := id hM
  refine mw_of (by decide) (by simp [Value.category]) (Nat.le_of_ble_eq_true rfl) ?_
  show AW l D b jX12_steps (fx_rm 2 0 0) none (fx_MQ D b 0 0 (fx_qi (fun r N9 V9 => r = (-1) ∧ N = N9))) 0 [some (.ref (b + 100)), some (.int p), some (.int q), none, none, none, none] [] N V 0 0
  refine aw_aload_n dX12_steps_0 rfl ?_
  refine aw_iload_n dX12_steps_1 rfl ?_
  refine aw_callVi (J' := jX12_isTold) (As := [.int p]) (st := []) dX12_steps_2 tb_1351 ok_X12_isTold ⟨_, k100⟩ (by omega) rfl rfl (k_isTold l D b N V hN k100 p) rfl (Nat.le_of_ble_eq_true rfl) ⟨Nat.le_of_ble_eq_true rfl, Nat.le_of_ble_eq_true rfl, Nat.le_of_ble_eq_true rfl, Nat.le_of_ble_eq_true rfl⟩ (fun r_1 N_2 V_3 q_4 => ?_)
  obtain ⟨rfl, rfl, rfl⟩ := q_4
  refine aw_if_eq (tgt := 16) dX12_steps_5 (by decide) (fun c_5 => ?_) (fun c_5 => ?_)
  rotate_left
  · exact absurd (by decide) c_5
  refine aw_iconst (v := (-1)) dX12_steps_16 (by decide) ?_
  refine aw_ireti dX12_steps_17 rfl (Nat.le_of_ble_eq_true rfl) (Nat.le_of_ble_eq_true rfl) ?_
  exact ⟨rfl, rfl⟩

set_option maxHeartbeats 4000000 in
set_option maxRecDepth 100000 in
theorem r_guess (l : Launch) (D : va_G) (b : Nat) (N : Nat) (V : Wd) (hN : 133 ≤ N) (hM : M0 D b V) (n : Int32) (x : Int32) : MI l D b 1 jX12_guess [.ref (b + 100), .int n, .int x] N V 0 0 (fun r N9 V9 => r = (-1) ∧ N = N9) := by
  obtain ⟨k100, k101, k102, k103, k104, k110, k124, k126, k127, k128, k130, k131⟩ := id hM
  refine mw_of (by decide) (by simp [Value.category]) (Nat.le_of_ble_eq_true rfl) ?_
  show AW l D b jX12_guess (fx_rm 1 0 0) none (fx_MQ D b 0 0 (fx_qi (fun r N9 V9 => r = (-1) ∧ N = N9))) 0 [some (.ref (b + 100)), some (.int n), some (.int x), none, none] [] N V 0 0
  refine aw_iload_n dX12_guess_0 rfl ?_
  refine aw_iconst (v := 1) dX12_guess_1 (by decide) ?_
  refine aw_bipush (v := 12) dX12_guess_2 (by decide) ?_
  refine aw_callSi (J' := jX12_in) (As := [.int n, .int 1, .int 12]) (st := []) dX12_guess_4 tb_1209 ok_X12_in rfl (k_in l D b N V n 1 12) rfl (Nat.le_of_ble_eq_true rfl) ⟨Nat.le_of_ble_eq_true rfl, Nat.le_of_ble_eq_true rfl, Nat.le_of_ble_eq_true rfl, Nat.le_of_ble_eq_true rfl⟩ (fun r_1 N_2 V_3 q_4 => ?_)
  obtain ⟨rfl, rfl, rfl⟩ := q_4
  rcases inr_cases n 1 12 with ⟨g_5, e_6⟩ | ⟨g_7, g_8, g_9, e_10⟩ | ⟨g_11, g_12, g_13, e_14⟩
  · skip
    refine aw_eqi (y := 0) e_6 ?_
    refine aw_if_eq (tgt := 47) dX12_guess_7 (by decide) (fun c_15 => ?_) (fun c_15 => ?_)
    rotate_left
    · exact absurd (by decide) c_15
    refine aw_iconst (v := (-1)) dX12_guess_47 (by decide) ?_
    refine aw_ireti dX12_guess_48 rfl (Nat.le_of_ble_eq_true rfl) (Nat.le_of_ble_eq_true rfl) ?_
    exact ⟨rfl, rfl⟩
  · skip
    refine aw_eqi (y := 0) e_10 ?_
    refine aw_if_eq (tgt := 47) dX12_guess_7 (by decide) (fun c_16 => ?_) (fun c_16 => ?_)
    rotate_left
    · exact absurd (by decide) c_16
    refine aw_iconst (v := (-1)) dX12_guess_47 (by decide) ?_
    refine aw_ireti dX12_guess_48 rfl (Nat.le_of_ble_eq_true rfl) (Nat.le_of_ble_eq_true rfl) ?_
    exact ⟨rfl, rfl⟩
  · skip
    refine aw_eqi (y := 1) e_14 ?_
    refine aw_if_eq (tgt := 47) dX12_guess_7 (by decide) (fun c_17 => ?_) (fun c_17 => ?_)
    · exact absurd c_17 (by decide)
    refine aw_iload_n dX12_guess_10 rfl ?_
    refine aw_iconst (v := 0) dX12_guess_11 (by decide) ?_
    refine aw_bipush (v := 15) dX12_guess_12 (by decide) ?_
    refine aw_callSi (J' := jX12_in) (As := [.int x, .int 0, .int 15]) (st := []) dX12_guess_14 tb_1209 ok_X12_in rfl (k_in l D b N V x 0 15) rfl (Nat.le_of_ble_eq_true rfl) ⟨Nat.le_of_ble_eq_true rfl, Nat.le_of_ble_eq_true rfl, Nat.le_of_ble_eq_true rfl, Nat.le_of_ble_eq_true rfl⟩ (fun r_18 N_19 V_20 q_21 => ?_)
    obtain ⟨rfl, rfl, rfl⟩ := q_21
    rcases inr_cases x 0 15 with ⟨g_22, e_23⟩ | ⟨g_24, g_25, g_26, e_27⟩ | ⟨g_28, g_29, g_30, e_31⟩
    · skip
      refine aw_eqi (y := 0) e_23 ?_
      refine aw_if_ne (tgt := 37) dX12_guess_17 (by decide) (fun c_32 => ?_) (fun c_32 => ?_)
      · exact absurd rfl c_32
      refine aw_iload_n dX12_guess_20 rfl ?_
      refine aw_bipush (v := 20) dX12_guess_21 (by decide) ?_
      refine aw_bipush (v := 35) dX12_guess_23 (by decide) ?_
      refine aw_callSi (J' := jX12_in) (As := [.int x, .int 20, .int 35]) (st := []) dX12_guess_25 tb_1209 ok_X12_in rfl (k_in l D b N V x 20 35) rfl (Nat.le_of_ble_eq_true rfl) ⟨Nat.le_of_ble_eq_true rfl, Nat.le_of_ble_eq_true rfl, Nat.le_of_ble_eq_true rfl, Nat.le_of_ble_eq_true rfl⟩ (fun r_33 N_34 V_35 q_36 => ?_)
      obtain ⟨rfl, rfl, rfl⟩ := q_36
      rcases inr_cases x 20 35 with ⟨g_37, e_38⟩ | ⟨g_39, g_40, g_41, e_42⟩ | ⟨g_43, g_44, g_45, e_46⟩
      · skip
        refine aw_eqi (y := 0) e_38 ?_
        refine aw_if_ne (tgt := 37) dX12_guess_28 (by decide) (fun c_47 => ?_) (fun c_47 => ?_)
        · exact absurd rfl c_47
        refine aw_iload_n dX12_guess_31 rfl ?_
        refine aw_bipush (v := 100) dX12_guess_32 (by decide) ?_
        refine aw_icmp_ne (tgt := 47) dX12_guess_34 (by decide) (fun c_48 => ?_) (fun c_48 => ?_)
        · skip
          refine aw_iconst (v := (-1)) dX12_guess_47 (by decide) ?_
          refine aw_ireti dX12_guess_48 rfl (Nat.le_of_ble_eq_true rfl) (Nat.le_of_ble_eq_true rfl) ?_
          exact ⟨rfl, rfl⟩
        · skip
          refine aw_iconst (v := 2) dX12_guess_37 (by decide) ?_
          refine aw_iload_n dX12_guess_38 rfl ?_
          refine aw_imul dX12_guess_39 ?_
          refine aw_aload_n dX12_guess_40 rfl ?_
          refine aw_get dX12_guess_41 fl_X12_152 k100 (by omega) rfl ?_
          refine aw_icmp_le (tgt := 49) dX12_guess_44 (by decide) (fun c_49 => ?_) (fun c_49 => ?_)
          · exact absurd c_49 (fx_2n g_11 g_13)
          refine aw_iconst (v := (-1)) dX12_guess_47 (by decide) ?_
          refine aw_ireti dX12_guess_48 rfl (Nat.le_of_ble_eq_true rfl) (Nat.le_of_ble_eq_true rfl) ?_
          exact ⟨rfl, rfl⟩
      · skip
        refine aw_eqi (y := 0) e_42 ?_
        refine aw_if_ne (tgt := 37) dX12_guess_28 (by decide) (fun c_50 => ?_) (fun c_50 => ?_)
        · exact absurd rfl c_50
        refine aw_iload_n dX12_guess_31 rfl ?_
        refine aw_bipush (v := 100) dX12_guess_32 (by decide) ?_
        refine aw_icmp_ne (tgt := 47) dX12_guess_34 (by decide) (fun c_51 => ?_) (fun c_51 => ?_)
        · skip
          refine aw_iconst (v := (-1)) dX12_guess_47 (by decide) ?_
          refine aw_ireti dX12_guess_48 rfl (Nat.le_of_ble_eq_true rfl) (Nat.le_of_ble_eq_true rfl) ?_
          exact ⟨rfl, rfl⟩
        · skip
          refine aw_iconst (v := 2) dX12_guess_37 (by decide) ?_
          refine aw_iload_n dX12_guess_38 rfl ?_
          refine aw_imul dX12_guess_39 ?_
          refine aw_aload_n dX12_guess_40 rfl ?_
          refine aw_get dX12_guess_41 fl_X12_152 k100 (by omega) rfl ?_
          refine aw_icmp_le (tgt := 49) dX12_guess_44 (by decide) (fun c_52 => ?_) (fun c_52 => ?_)
          · exact absurd c_52 (fx_2n g_11 g_13)
          refine aw_iconst (v := (-1)) dX12_guess_47 (by decide) ?_
          refine aw_ireti dX12_guess_48 rfl (Nat.le_of_ble_eq_true rfl) (Nat.le_of_ble_eq_true rfl) ?_
          exact ⟨rfl, rfl⟩
      · skip
        refine aw_eqi (y := 1) e_46 ?_
        refine aw_if_ne (tgt := 37) dX12_guess_28 (by decide) (fun c_53 => ?_) (fun c_53 => ?_)
        rotate_left
        · exact absurd c_53 (by decide)
        refine aw_iconst (v := 2) dX12_guess_37 (by decide) ?_
        refine aw_iload_n dX12_guess_38 rfl ?_
        refine aw_imul dX12_guess_39 ?_
        refine aw_aload_n dX12_guess_40 rfl ?_
        refine aw_get dX12_guess_41 fl_X12_152 k100 (by omega) rfl ?_
        refine aw_icmp_le (tgt := 49) dX12_guess_44 (by decide) (fun c_54 => ?_) (fun c_54 => ?_)
        · exact absurd c_54 (fx_2n g_11 g_13)
        refine aw_iconst (v := (-1)) dX12_guess_47 (by decide) ?_
        refine aw_ireti dX12_guess_48 rfl (Nat.le_of_ble_eq_true rfl) (Nat.le_of_ble_eq_true rfl) ?_
        exact ⟨rfl, rfl⟩
    · skip
      refine aw_eqi (y := 0) e_27 ?_
      have gx_55 := fx_lt15.mp g_25
      refine aw_if_ne (tgt := 37) dX12_guess_17 (by decide) (fun c_56 => ?_) (fun c_56 => ?_)
      · exact absurd rfl c_56
      refine aw_iload_n dX12_guess_20 rfl ?_
      refine aw_bipush (v := 20) dX12_guess_21 (by decide) ?_
      refine aw_bipush (v := 35) dX12_guess_23 (by decide) ?_
      refine aw_callSi (J' := jX12_in) (As := [.int x, .int 20, .int 35]) (st := []) dX12_guess_25 tb_1209 ok_X12_in rfl (k_in l D b N V x 20 35) rfl (Nat.le_of_ble_eq_true rfl) ⟨Nat.le_of_ble_eq_true rfl, Nat.le_of_ble_eq_true rfl, Nat.le_of_ble_eq_true rfl, Nat.le_of_ble_eq_true rfl⟩ (fun r_57 N_58 V_59 q_60 => ?_)
      obtain ⟨rfl, rfl, rfl⟩ := q_60
      rcases inr_cases x 20 35 with ⟨g_61, e_62⟩ | ⟨g_63, g_64, g_65, e_66⟩ | ⟨g_67, g_68, g_69, e_70⟩
      · skip
        refine aw_eqi (y := 0) e_62 ?_
        refine aw_if_ne (tgt := 37) dX12_guess_28 (by decide) (fun c_71 => ?_) (fun c_71 => ?_)
        · exact absurd rfl c_71
        refine aw_iload_n dX12_guess_31 rfl ?_
        refine aw_bipush (v := 100) dX12_guess_32 (by decide) ?_
        refine aw_icmp_ne (tgt := 47) dX12_guess_34 (by decide) (fun c_72 => ?_) (fun c_72 => ?_)
        · skip
          refine aw_iconst (v := (-1)) dX12_guess_47 (by decide) ?_
          refine aw_ireti dX12_guess_48 rfl (Nat.le_of_ble_eq_true rfl) (Nat.le_of_ble_eq_true rfl) ?_
          exact ⟨rfl, rfl⟩
        · skip
          refine aw_iconst (v := 2) dX12_guess_37 (by decide) ?_
          refine aw_iload_n dX12_guess_38 rfl ?_
          refine aw_imul dX12_guess_39 ?_
          refine aw_aload_n dX12_guess_40 rfl ?_
          refine aw_get dX12_guess_41 fl_X12_152 k100 (by omega) rfl ?_
          refine aw_icmp_le (tgt := 49) dX12_guess_44 (by decide) (fun c_73 => ?_) (fun c_73 => ?_)
          · exact absurd c_73 (fx_2n g_11 g_13)
          refine aw_iconst (v := (-1)) dX12_guess_47 (by decide) ?_
          refine aw_ireti dX12_guess_48 rfl (Nat.le_of_ble_eq_true rfl) (Nat.le_of_ble_eq_true rfl) ?_
          exact ⟨rfl, rfl⟩
      · skip
        refine aw_eqi (y := 0) e_66 ?_
        refine aw_if_ne (tgt := 37) dX12_guess_28 (by decide) (fun c_74 => ?_) (fun c_74 => ?_)
        · exact absurd rfl c_74
        refine aw_iload_n dX12_guess_31 rfl ?_
        refine aw_bipush (v := 100) dX12_guess_32 (by decide) ?_
        refine aw_icmp_ne (tgt := 47) dX12_guess_34 (by decide) (fun c_75 => ?_) (fun c_75 => ?_)
        · skip
          refine aw_iconst (v := (-1)) dX12_guess_47 (by decide) ?_
          refine aw_ireti dX12_guess_48 rfl (Nat.le_of_ble_eq_true rfl) (Nat.le_of_ble_eq_true rfl) ?_
          exact ⟨rfl, rfl⟩
        · skip
          refine aw_iconst (v := 2) dX12_guess_37 (by decide) ?_
          refine aw_iload_n dX12_guess_38 rfl ?_
          refine aw_imul dX12_guess_39 ?_
          refine aw_aload_n dX12_guess_40 rfl ?_
          refine aw_get dX12_guess_41 fl_X12_152 k100 (by omega) rfl ?_
          refine aw_icmp_le (tgt := 49) dX12_guess_44 (by decide) (fun c_76 => ?_) (fun c_76 => ?_)
          · exact absurd c_76 (fx_2n g_11 g_13)
          refine aw_iconst (v := (-1)) dX12_guess_47 (by decide) ?_
          refine aw_ireti dX12_guess_48 rfl (Nat.le_of_ble_eq_true rfl) (Nat.le_of_ble_eq_true rfl) ?_
          exact ⟨rfl, rfl⟩
      · skip
        refine aw_eqi (y := 1) e_70 ?_
        refine aw_if_ne (tgt := 37) dX12_guess_28 (by decide) (fun c_77 => ?_) (fun c_77 => ?_)
        rotate_left
        · exact absurd c_77 (by decide)
        refine aw_iconst (v := 2) dX12_guess_37 (by decide) ?_
        refine aw_iload_n dX12_guess_38 rfl ?_
        refine aw_imul dX12_guess_39 ?_
        refine aw_aload_n dX12_guess_40 rfl ?_
        refine aw_get dX12_guess_41 fl_X12_152 k100 (by omega) rfl ?_
        refine aw_icmp_le (tgt := 49) dX12_guess_44 (by decide) (fun c_78 => ?_) (fun c_78 => ?_)
        · exact absurd c_78 (fx_2n g_11 g_13)
        refine aw_iconst (v := (-1)) dX12_guess_47 (by decide) ?_
        refine aw_ireti dX12_guess_48 rfl (Nat.le_of_ble_eq_true rfl) (Nat.le_of_ble_eq_true rfl) ?_
        exact ⟨rfl, rfl⟩
    · skip
      refine aw_eqi (y := 1) e_31 ?_
      have gx_79 : ¬ 16 ≤ x := fun z => g_29 (fx_lt15.mpr z)
      refine aw_if_ne (tgt := 37) dX12_guess_17 (by decide) (fun c_80 => ?_) (fun c_80 => ?_)
      rotate_left
      · exact absurd c_80 (by decide)
      refine aw_iconst (v := 2) dX12_guess_37 (by decide) ?_
      refine aw_iload_n dX12_guess_38 rfl ?_
      refine aw_imul dX12_guess_39 ?_
      refine aw_aload_n dX12_guess_40 rfl ?_
      refine aw_get dX12_guess_41 fl_X12_152 k100 (by omega) rfl ?_
      refine aw_icmp_le (tgt := 49) dX12_guess_44 (by decide) (fun c_81 => ?_) (fun c_81 => ?_)
      · exact absurd c_81 (fx_2n g_11 g_13)
      refine aw_iconst (v := (-1)) dX12_guess_47 (by decide) ?_
      refine aw_ireti dX12_guess_48 rfl (Nat.le_of_ble_eq_true rfl) (Nat.le_of_ble_eq_true rfl) ?_
      exact ⟨rfl, rfl⟩

set_option maxHeartbeats 4000000 in
set_option maxRecDepth 100000 in
theorem r_sentNext (l : Launch) (D : va_G) (b : Nat) (N : Nat) (V : Wd) (hN : 133 ≤ N) (hM : M0 D b V) (f : Int32) (x : Int32) : MI l D b 2 jX12_sentNext [.ref (b + 100), .int f, .int x] N V 0 0 (fun r N9 V9 => r = (if f < 1 then (-1) else if 65535 < f then (-1) else if x < 0 then (-1) else if x ≤ 1 then (-2) else (-1)) ∧ N = N9) := by
  obtain ⟨k100, k101, k102, k103, k104, k110, k124, k126, k127, k128, k130, k131⟩ := id hM
  refine mw_of (by decide) (by simp [Value.category]) (Nat.le_of_ble_eq_true rfl) ?_
  show AW l D b jX12_sentNext (fx_rm 2 0 0) none (fx_MQ D b 0 0 (fx_qi (fun r N9 V9 => r = (if f < 1 then (-1) else if 65535 < f then (-1) else if x < 0 then (-1) else if x ≤ 1 then (-2) else (-1)) ∧ N = N9))) 0 [some (.ref (b + 100)), some (.int f), some (.int x), none, none] [] N V 0 0
  refine aw_iload_n dX12_sentNext_0 rfl ?_
  refine aw_iconst (v := 1) dX12_sentNext_1 (by decide) ?_
  refine aw_ldcw (v := 65535) dX12_sentNext_2 tb_1314 ?_
  refine aw_callSi (J' := jX12_in) (As := [.int f, .int 1, .int 65535]) (st := []) dX12_sentNext_5 tb_1209 ok_X12_in rfl (k_in l D b N V f 1 65535) rfl (Nat.le_of_ble_eq_true rfl) ⟨Nat.le_of_ble_eq_true rfl, Nat.le_of_ble_eq_true rfl, Nat.le_of_ble_eq_true rfl, Nat.le_of_ble_eq_true rfl⟩ (fun r_1 N_2 V_3 q_4 => ?_)
  obtain ⟨rfl, rfl, rfl⟩ := q_4
  rcases inr_cases f 1 65535 with ⟨g_5, e_6⟩ | ⟨g_7, g_8, g_9, e_10⟩ | ⟨g_11, g_12, g_13, e_14⟩
  · skip
    refine aw_eqi (y := 0) e_6 ?_
    refine aw_if_eq (tgt := 20) dX12_sentNext_8 (by decide) (fun c_15 => ?_) (fun c_15 => ?_)
    rotate_left
    · exact absurd (by decide) c_15
    refine aw_iconst (v := (-1)) dX12_sentNext_20 (by decide) ?_
    refine aw_ireti dX12_sentNext_21 rfl (Nat.le_of_ble_eq_true rfl) (Nat.le_of_ble_eq_true rfl) ?_
    exact ⟨by (first | (simp only [g_5, c_15, reduceIte]; done) | (simp only [g_5, reduceIte]; done)), rfl⟩
  · skip
    refine aw_eqi (y := 0) e_10 ?_
    refine aw_if_eq (tgt := 20) dX12_sentNext_8 (by decide) (fun c_16 => ?_) (fun c_16 => ?_)
    rotate_left
    · exact absurd (by decide) c_16
    refine aw_iconst (v := (-1)) dX12_sentNext_20 (by decide) ?_
    refine aw_ireti dX12_sentNext_21 rfl (Nat.le_of_ble_eq_true rfl) (Nat.le_of_ble_eq_true rfl) ?_
    exact ⟨by (first | (simp only [g_7, g_8, g_9, c_16, reduceIte]; done) | (simp only [g_7, g_8, g_9, reduceIte]; done)), rfl⟩
  · skip
    refine aw_eqi (y := 1) e_14 ?_
    refine aw_if_eq (tgt := 20) dX12_sentNext_8 (by decide) (fun c_17 => ?_) (fun c_17 => ?_)
    · exact absurd c_17 (by decide)
    refine aw_iload_n dX12_sentNext_11 rfl ?_
    refine aw_iconst (v := 0) dX12_sentNext_12 (by decide) ?_
    refine aw_iconst (v := 1) dX12_sentNext_13 (by decide) ?_
    refine aw_callSi (J' := jX12_in) (As := [.int x, .int 0, .int 1]) (st := []) dX12_sentNext_14 tb_1209 ok_X12_in rfl (k_in l D b N V x 0 1) rfl (Nat.le_of_ble_eq_true rfl) ⟨Nat.le_of_ble_eq_true rfl, Nat.le_of_ble_eq_true rfl, Nat.le_of_ble_eq_true rfl, Nat.le_of_ble_eq_true rfl⟩ (fun r_18 N_19 V_20 q_21 => ?_)
    obtain ⟨rfl, rfl, rfl⟩ := q_21
    rcases inr_cases x 0 1 with ⟨g_22, e_23⟩ | ⟨g_24, g_25, g_26, e_27⟩ | ⟨g_28, g_29, g_30, e_31⟩
    · skip
      refine aw_eqi (y := 0) e_23 ?_
      refine aw_if_ne (tgt := 22) dX12_sentNext_17 (by decide) (fun c_32 => ?_) (fun c_32 => ?_)
      · exact absurd rfl c_32
      refine aw_iconst (v := (-1)) dX12_sentNext_20 (by decide) ?_
      refine aw_ireti dX12_sentNext_21 rfl (Nat.le_of_ble_eq_true rfl) (Nat.le_of_ble_eq_true rfl) ?_
      exact ⟨by (first | (simp only [g_11, g_12, g_13, c_17, g_22, c_32, reduceIte]; done) | (simp only [g_11, g_12, g_13, g_22, reduceIte]; done)), rfl⟩
    · skip
      refine aw_eqi (y := 0) e_27 ?_
      refine aw_if_ne (tgt := 22) dX12_sentNext_17 (by decide) (fun c_33 => ?_) (fun c_33 => ?_)
      · exact absurd rfl c_33
      refine aw_iconst (v := (-1)) dX12_sentNext_20 (by decide) ?_
      refine aw_ireti dX12_sentNext_21 rfl (Nat.le_of_ble_eq_true rfl) (Nat.le_of_ble_eq_true rfl) ?_
      exact ⟨by (first | (simp only [g_11, g_12, g_13, c_17, g_24, g_25, g_26, c_33, reduceIte]; done) | (simp only [g_11, g_12, g_13, g_24, g_25, g_26, reduceIte]; done)), rfl⟩
    · skip
      refine aw_eqi (y := 1) e_31 ?_
      refine aw_if_ne (tgt := 22) dX12_sentNext_17 (by decide) (fun c_34 => ?_) (fun c_34 => ?_)
      rotate_left
      · exact absurd c_34 (by decide)
      refine aw_bipush (v := (-2)) dX12_sentNext_22 (by decide) ?_
      refine aw_istore_n (ls' := [some (.ref (b + 100)), some (.int f), some (.int x), some (.int (-2)), none]) dX12_sentNext_24 (Nat.le_of_ble_eq_true rfl) rfl ?_
      refine aw_iconst (v := 0) dX12_sentNext_25 (by decide) ?_
      refine aw_istore (ls' := [some (.ref (b + 100)), some (.int f), some (.int x), some (.int (-2)), some (.int 0)]) dX12_sentNext_26 (Nat.le_of_ble_eq_true rfl) rfl ?_
      have loop_28_34 : ∀ (g_28 : Nat), ∀ (j28 : Nat), j28 + g_28 = 12 → AW l D b jX12_sentNext (fx_rm 2 0 0) none (fx_MQ D b 0 0 (fx_qi (fun r N9 V9 => r = (if f < 1 then (-1) else if 65535 < f then (-1) else if x < 0 then (-1) else if x ≤ 1 then (-2) else (-1)) ∧ N = N9))) 28 [some (.ref (b + 100)), some (.int f), some (.int x), some (.int (-2)), some (.int (nI j28))] [] N V 0 0 := by
        intro g_28
        induction g_28 with
        | zero =>
          intro j28  hj28
          obtain rfl : j28 = 12 := by omega
          refine aw_iload dX12_sentNext_28 rfl ?_
          refine aw_bipush (v := 12) dX12_sentNext_30 (by decide) ?_
          refine aw_icmp_ge (tgt := 75) dX12_sentNext_32 (by decide) (fun c_37 => ?_) (fun c_37 => ?_)
          rotate_left
          · exact absurd (nI_le (a := 12) (b := 12) (Nat.le_refl _) (by omega)) c_37
          refine aw_iload_n dX12_sentNext_75 rfl ?_
          refine aw_if_eq (tgt := 85) dX12_sentNext_76 (by decide) (fun c_38 => ?_) (fun c_38 => ?_)
          · skip
            refine aw_iload_n dX12_sentNext_85 rfl ?_
            refine aw_goto (tgt := 95) dX12_sentNext_86 (by decide) ?_
            refine aw_ireti dX12_sentNext_95 rfl (Nat.le_of_ble_eq_true rfl) (Nat.le_of_ble_eq_true rfl) ?_
            exact ⟨by (first | (simp only [g_11, g_12, g_13, c_17, g_28, g_29, g_30, c_34, c_37, c_38, reduceIte]; done) | (simp only [g_11, g_12, g_13, g_28, g_29, g_30, c_37, reduceIte]; done)), rfl⟩
          · skip
            refine aw_iload_n dX12_sentNext_79 rfl ?_
            refine aw_bipush (v := (-2)) dX12_sentNext_80 (by decide) ?_
            refine aw_icmp_ne (tgt := 89) dX12_sentNext_82 (by decide) (fun c_39 => ?_) (fun c_39 => ?_)
            · exact absurd rfl c_39
            refine aw_iload_n dX12_sentNext_85 rfl ?_
            refine aw_goto (tgt := 95) dX12_sentNext_86 (by decide) ?_
            refine aw_ireti dX12_sentNext_95 rfl (Nat.le_of_ble_eq_true rfl) (Nat.le_of_ble_eq_true rfl) ?_
            exact ⟨by (first | (simp only [g_11, g_12, g_13, c_17, g_28, g_29, g_30, c_34, c_37, c_38, c_39, reduceIte]; done) | (simp only [g_11, g_12, g_13, g_28, g_29, g_30, c_37, reduceIte]; done)), rfl⟩
        | succ g_28 ih_28_35 =>
          intro j28  hj28
          have hlj28 : j28 < 12 := by omega
          refine aw_iload dX12_sentNext_28 rfl ?_
          refine aw_bipush (v := 12) dX12_sentNext_30 (by decide) ?_
          refine aw_icmp_ge (tgt := 75) dX12_sentNext_32 (by decide) (fun c_40 => ?_) (fun c_40 => ?_)
          · exact absurd c_40 (nI_ge (a := j28) (b := 12) (by omega) (by omega))
          refine aw_aload_n dX12_sentNext_35 rfl ?_
          refine aw_iload dX12_sentNext_36 rfl ?_
          refine aw_callVi (J' := jX12_isTold) (As := [.int (nI j28)]) (st := []) dX12_sentNext_38 tb_1351 ok_X12_isTold ⟨_, k100⟩ (by omega) rfl rfl (k_isTold l D b N V hN k100 (nI j28)) rfl (Nat.le_of_ble_eq_true rfl) ⟨Nat.le_of_ble_eq_true rfl, Nat.le_of_ble_eq_true rfl, Nat.le_of_ble_eq_true rfl, Nat.le_of_ble_eq_true rfl⟩ (fun r_41 N_42 V_43 q_44 => ?_)
          obtain ⟨rfl, rfl, rfl⟩ := q_44
          refine aw_if_eq (tgt := 69) dX12_sentNext_41 (by decide) (fun c_45 => ?_) (fun c_45 => ?_)
          rotate_left
          · exact absurd (by decide) c_45
          refine aw_iinc (v := (nI (j28 + 1))) (ls' := [some (.ref (b + 100)), some (.int f), some (.int x), some (.int (-2)), some (.int (nI (j28 + 1)))]) dX12_sentNext_69 rfl (fx_up_1 _) (Nat.le_of_ble_eq_true rfl) rfl ?_
          refine aw_goto (tgt := 28) dX12_sentNext_72 (by decide) ?_
          refine aw_le ?_ (ih_28_35 (j28 + 1)   (by omega))
          exact ⟨rfl, ⟨rfl, ⟨rfl, ⟨rfl, ⟨rfl, trivial⟩⟩⟩⟩⟩
      refine aw_le ?_ (loop_28_34 12 0   (by omega))
      exact ⟨rfl, ⟨rfl, ⟨rfl, ⟨rfl, ⟨rfl, trivial⟩⟩⟩⟩⟩

set_option maxHeartbeats 4000000 in
set_option maxRecDepth 100000 in
theorem r_guards (l : Launch) (D : va_G) (b : Nat) (N : Nat) (V : Wd) (hN : 133 ≤ N) (hM : M0 D b V) (n : Int32) : MI l D b 1 jX12_guards [.ref (b + 100), .int n] N V 0 0 (fun r N9 V9 => r = (-1) ∧ N = N9) := by
  obtain ⟨k100, k101, k102, k103, k104, k110, k124, k126, k127, k128, k130, k131⟩ := id hM
  refine mw_of (by decide) (by simp [Value.category]) (Nat.le_of_ble_eq_true rfl) ?_
  show AW l D b jX12_guards (fx_rm 1 0 0) none (fx_MQ D b 0 0 (fx_qi (fun r N9 V9 => r = (-1) ∧ N = N9))) 0 [some (.ref (b + 100)), some (.int n), none, none, none] [] N V 0 0
  refine aw_iload_n dX12_guards_0 rfl ?_
  refine aw_iconst (v := 3) dX12_guards_1 (by decide) ?_
  refine aw_bipush (v := 6) dX12_guards_2 (by decide) ?_
  refine aw_callSi (J' := jX12_in) (As := [.int n, .int 3, .int 6]) (st := []) dX12_guards_4 tb_1209 ok_X12_in rfl (k_in l D b N V n 3 6) rfl (Nat.le_of_ble_eq_true rfl) ⟨Nat.le_of_ble_eq_true rfl, Nat.le_of_ble_eq_true rfl, Nat.le_of_ble_eq_true rfl, Nat.le_of_ble_eq_true rfl⟩ (fun r_1 N_2 V_3 q_4 => ?_)
  obtain ⟨rfl, rfl, rfl⟩ := q_4
  rcases inr_cases n 3 6 with ⟨g_5, e_6⟩ | ⟨g_7, g_8, g_9, e_10⟩ | ⟨g_11, g_12, g_13, e_14⟩
  · skip
    refine aw_eqi (y := 0) e_6 ?_
    refine aw_if_eq (tgt := 18) dX12_guards_7 (by decide) (fun c_15 => ?_) (fun c_15 => ?_)
    rotate_left
    · exact absurd (by decide) c_15
    refine aw_iconst (v := (-1)) dX12_guards_18 (by decide) ?_
    refine aw_ireti dX12_guards_19 rfl (Nat.le_of_ble_eq_true rfl) (Nat.le_of_ble_eq_true rfl) ?_
    exact ⟨rfl, rfl⟩
  · skip
    refine aw_eqi (y := 0) e_10 ?_
    refine aw_if_eq (tgt := 18) dX12_guards_7 (by decide) (fun c_16 => ?_) (fun c_16 => ?_)
    rotate_left
    · exact absurd (by decide) c_16
    refine aw_iconst (v := (-1)) dX12_guards_18 (by decide) ?_
    refine aw_ireti dX12_guards_19 rfl (Nat.le_of_ble_eq_true rfl) (Nat.le_of_ble_eq_true rfl) ?_
    exact ⟨rfl, rfl⟩
  · skip
    refine aw_eqi (y := 1) e_14 ?_
    refine aw_if_eq (tgt := 18) dX12_guards_7 (by decide) (fun c_17 => ?_) (fun c_17 => ?_)
    · exact absurd c_17 (by decide)
    refine aw_iload_n dX12_guards_10 rfl ?_
    refine aw_aload_n dX12_guards_11 rfl ?_
    refine aw_get dX12_guards_12 fl_X12_152 k100 (by omega) rfl ?_
    refine aw_icmp_le (tgt := 20) dX12_guards_15 (by decide) (fun c_18 => ?_) (fun c_18 => ?_)
    · exact absurd c_18 (fx_n0g (lo := 3) (by decide) g_11)
    refine aw_iconst (v := (-1)) dX12_guards_18 (by decide) ?_
    refine aw_ireti dX12_guards_19 rfl (Nat.le_of_ble_eq_true rfl) (Nat.le_of_ble_eq_true rfl) ?_
    exact ⟨rfl, rfl⟩

set_option maxHeartbeats 4000000 in
set_option maxRecDepth 100000 in
theorem r_rooms (l : Launch) (D : va_G) (b : Nat) (N : Nat) (V : Wd) (hN : 133 ≤ N) (hM : M0 D b V) (n : Int32) (x : Int32) : MI l D b 1 jX12_rooms [.ref (b + 100), .int n, .int x] N V 0 0 (fun r N9 V9 => r = (-1) ∧ N = N9) := by
  obtain ⟨k100, k101, k102, k103, k104, k110, k124, k126, k127, k128, k130, k131⟩ := id hM
  refine mw_of (by decide) (by simp [Value.category]) (Nat.le_of_ble_eq_true rfl) ?_
  show AW l D b jX12_rooms (fx_rm 1 0 0) none (fx_MQ D b 0 0 (fx_qi (fun r N9 V9 => r = (-1) ∧ N = N9))) 0 [some (.ref (b + 100)), some (.int n), some (.int x), none, none] [] N V 0 0
  refine aw_iload_n dX12_rooms_0 rfl ?_
  refine aw_iconst (v := 1) dX12_rooms_1 (by decide) ?_
  refine aw_bipush (v := 12) dX12_rooms_2 (by decide) ?_
  refine aw_callSi (J' := jX12_in) (As := [.int n, .int 1, .int 12]) (st := []) dX12_rooms_4 tb_1209 ok_X12_in rfl (k_in l D b N V n 1 12) rfl (Nat.le_of_ble_eq_true rfl) ⟨Nat.le_of_ble_eq_true rfl, Nat.le_of_ble_eq_true rfl, Nat.le_of_ble_eq_true rfl, Nat.le_of_ble_eq_true rfl⟩ (fun r_1 N_2 V_3 q_4 => ?_)
  obtain ⟨rfl, rfl, rfl⟩ := q_4
  rcases inr_cases n 1 12 with ⟨g_5, e_6⟩ | ⟨g_7, g_8, g_9, e_10⟩ | ⟨g_11, g_12, g_13, e_14⟩
  · skip
    refine aw_eqi (y := 0) e_6 ?_
    refine aw_if_eq (tgt := 28) dX12_rooms_7 (by decide) (fun c_15 => ?_) (fun c_15 => ?_)
    rotate_left
    · exact absurd (by decide) c_15
    refine aw_iconst (v := (-1)) dX12_rooms_28 (by decide) ?_
    refine aw_ireti dX12_rooms_29 rfl (Nat.le_of_ble_eq_true rfl) (Nat.le_of_ble_eq_true rfl) ?_
    exact ⟨rfl, rfl⟩
  · skip
    refine aw_eqi (y := 0) e_10 ?_
    refine aw_if_eq (tgt := 28) dX12_rooms_7 (by decide) (fun c_16 => ?_) (fun c_16 => ?_)
    rotate_left
    · exact absurd (by decide) c_16
    refine aw_iconst (v := (-1)) dX12_rooms_28 (by decide) ?_
    refine aw_ireti dX12_rooms_29 rfl (Nat.le_of_ble_eq_true rfl) (Nat.le_of_ble_eq_true rfl) ?_
    exact ⟨rfl, rfl⟩
  · skip
    refine aw_eqi (y := 1) e_14 ?_
    refine aw_if_eq (tgt := 28) dX12_rooms_7 (by decide) (fun c_17 => ?_) (fun c_17 => ?_)
    · exact absurd c_17 (by decide)
    refine aw_iload_n dX12_rooms_10 rfl ?_
    refine aw_iconst (v := 0) dX12_rooms_11 (by decide) ?_
    refine aw_bipush (v := 99) dX12_rooms_12 (by decide) ?_
    refine aw_callSi (J' := jX12_in) (As := [.int x, .int 0, .int 99]) (st := []) dX12_rooms_14 tb_1209 ok_X12_in rfl (k_in l D b N V x 0 99) rfl (Nat.le_of_ble_eq_true rfl) ⟨Nat.le_of_ble_eq_true rfl, Nat.le_of_ble_eq_true rfl, Nat.le_of_ble_eq_true rfl, Nat.le_of_ble_eq_true rfl⟩ (fun r_18 N_19 V_20 q_21 => ?_)
    obtain ⟨rfl, rfl, rfl⟩ := q_21
    rcases inr_cases x 0 99 with ⟨g_22, e_23⟩ | ⟨g_24, g_25, g_26, e_27⟩ | ⟨g_28, g_29, g_30, e_31⟩
    · skip
      refine aw_eqi (y := 0) e_23 ?_
      refine aw_if_eq (tgt := 28) dX12_rooms_17 (by decide) (fun c_32 => ?_) (fun c_32 => ?_)
      rotate_left
      · exact absurd (by decide) c_32
      refine aw_iconst (v := (-1)) dX12_rooms_28 (by decide) ?_
      refine aw_ireti dX12_rooms_29 rfl (Nat.le_of_ble_eq_true rfl) (Nat.le_of_ble_eq_true rfl) ?_
      exact ⟨rfl, rfl⟩
    · skip
      refine aw_eqi (y := 0) e_27 ?_
      refine aw_if_eq (tgt := 28) dX12_rooms_17 (by decide) (fun c_33 => ?_) (fun c_33 => ?_)
      rotate_left
      · exact absurd (by decide) c_33
      refine aw_iconst (v := (-1)) dX12_rooms_28 (by decide) ?_
      refine aw_ireti dX12_rooms_29 rfl (Nat.le_of_ble_eq_true rfl) (Nat.le_of_ble_eq_true rfl) ?_
      exact ⟨rfl, rfl⟩
    · skip
      refine aw_eqi (y := 1) e_31 ?_
      refine aw_if_eq (tgt := 28) dX12_rooms_17 (by decide) (fun c_34 => ?_) (fun c_34 => ?_)
      · exact absurd c_34 (by decide)
      refine aw_iload_n dX12_rooms_20 rfl ?_
      refine aw_aload_n dX12_rooms_21 rfl ?_
      refine aw_get dX12_rooms_22 fl_X12_152 k100 (by omega) rfl ?_
      refine aw_icmp_le (tgt := 30) dX12_rooms_25 (by decide) (fun c_35 => ?_) (fun c_35 => ?_)
      · exact absurd c_35 (fx_n0g (lo := 1) (by decide) g_11)
      refine aw_iconst (v := (-1)) dX12_rooms_28 (by decide) ?_
      refine aw_ireti dX12_rooms_29 rfl (Nat.le_of_ble_eq_true rfl) (Nat.le_of_ble_eq_true rfl) ?_
      exact ⟨rfl, rfl⟩

set_option maxHeartbeats 4000000 in
set_option maxRecDepth 100000 in
theorem r_seed (l : Launch) (D : va_G) (b : Nat) (N : Nat) (V : Wd) (hN : 133 ≤ N) (hM : M0 D b V) (x : Int32) : MI l D b 1 jX12_seed [.ref (b + 100), .int x] N V 0 0 (fun r N9 V9 => r = (if x < 0 then 0 else if x ≤ 65535 then 1 else 0) ∧ N = N9) := by
  obtain ⟨k100, k101, k102, k103, k104, k110, k124, k126, k127, k128, k130, k131⟩ := id hM
  refine mw_of (by decide) (by simp [Value.category]) (Nat.le_of_ble_eq_true rfl) ?_
  show AW l D b jX12_seed (fx_rm 1 0 0) none (fx_MQ D b 0 0 (fx_qi (fun r N9 V9 => r = (if x < 0 then 0 else if x ≤ 65535 then 1 else 0) ∧ N = N9))) 0 [some (.ref (b + 100)), some (.int x)] [] N V 0 0
  refine aw_iload_n dX12_seed_0 rfl ?_
  refine aw_iconst (v := 0) dX12_seed_1 (by decide) ?_
  refine aw_ldcw (v := 65535) dX12_seed_2 tb_1314 ?_
  refine aw_callSi (J' := jX12_in) (As := [.int x, .int 0, .int 65535]) (st := []) dX12_seed_5 tb_1209 ok_X12_in rfl (k_in l D b N V x 0 65535) rfl (Nat.le_of_ble_eq_true rfl) ⟨Nat.le_of_ble_eq_true rfl, Nat.le_of_ble_eq_true rfl, Nat.le_of_ble_eq_true rfl, Nat.le_of_ble_eq_true rfl⟩ (fun r_1 N_2 V_3 q_4 => ?_)
  obtain ⟨rfl, rfl, rfl⟩ := q_4
  rcases inr_cases x 0 65535 with ⟨g_5, e_6⟩ | ⟨g_7, g_8, g_9, e_10⟩ | ⟨g_11, g_12, g_13, e_14⟩
  · skip
    refine aw_eqi (y := 0) e_6 ?_
    refine aw_if_ne (tgt := 13) dX12_seed_8 (by decide) (fun c_15 => ?_) (fun c_15 => ?_)
    · exact absurd rfl c_15
    refine aw_iconst (v := 0) dX12_seed_11 (by decide) ?_
    refine aw_zreti dX12_seed_12 rfl (Or.inl rfl) (Nat.le_of_ble_eq_true rfl) (Nat.le_of_ble_eq_true rfl) ?_
    exact ⟨by (first | (simp only [g_5, c_15, reduceIte]; done) | (simp only [g_5, reduceIte]; done)), rfl⟩
  · skip
    refine aw_eqi (y := 0) e_10 ?_
    refine aw_if_ne (tgt := 13) dX12_seed_8 (by decide) (fun c_16 => ?_) (fun c_16 => ?_)
    · exact absurd rfl c_16
    refine aw_iconst (v := 0) dX12_seed_11 (by decide) ?_
    refine aw_zreti dX12_seed_12 rfl (Or.inl rfl) (Nat.le_of_ble_eq_true rfl) (Nat.le_of_ble_eq_true rfl) ?_
    exact ⟨by (first | (simp only [g_7, g_8, g_9, c_16, reduceIte]; done) | (simp only [g_7, g_8, g_9, reduceIte]; done)), rfl⟩
  · skip
    refine aw_eqi (y := 1) e_14 ?_
    refine aw_if_ne (tgt := 13) dX12_seed_8 (by decide) (fun c_17 => ?_) (fun c_17 => ?_)
    rotate_left
    · exact absurd c_17 (by decide)
    refine aw_aload_n dX12_seed_13 rfl ?_
    refine aw_get dX12_seed_14 fl_X12_7 k100 (by omega) rfl ?_
    refine aw_sipush (v := 209) dX12_seed_17 (by decide) ?_
    refine aw_iload_n dX12_seed_20 rfl ?_
    refine aw_iast dX12_seed_21 k101 (by omega) (vp_in_nI (n := 209) (N := 210) (by decide) (by decide)) ?_
    refine aw_iconst (v := 1) dX12_seed_22 (by decide) ?_
    refine aw_zreti dX12_seed_23 rfl (Or.inr rfl) (Nat.le_of_ble_eq_true rfl) (Nat.le_of_ble_eq_true rfl) ?_
    exact ⟨by (first | (simp only [g_11, g_12, g_13, c_17, reduceIte]; done) | (simp only [g_11, g_12, g_13, reduceIte]; done)), rfl⟩

set_option maxHeartbeats 4000000 in
set_option maxRecDepth 100000 in
theorem r_keep (l : Launch) (D : va_G) (b : Nat) (N : Nat) (V : Wd) (hN : 133 ≤ N) (hM : M0 D b V)  : MI l D b 1 jX12_keep [.ref (b + 100)] N V 0 0 (fun r N9 V9 => r = 0 ∧ N = N9) := by
  obtain ⟨k100, k101, k102, k103, k104, k110, k124, k126, k127, k128, k130, k131⟩ := id hM
  refine mw_of (by decide) (by simp [Value.category]) (Nat.le_of_ble_eq_true rfl) ?_
  show AW l D b jX12_keep (fx_rm 1 0 0) none (fx_MQ D b 0 0 (fx_qi (fun r N9 V9 => r = 0 ∧ N = N9))) 0 [some (.ref (b + 100))] [] N V 0 0
  refine aw_aload_n dX12_keep_0 rfl ?_
  refine aw_iconst (v := 1) dX12_keep_1 (by decide) ?_
  refine aw_put dX12_keep_2 fp_X12_424 k100 (by omega) (by decide) rfl (Nat.le_of_ble_eq_true rfl) rfl ?_
  refine aw_aload_n dX12_keep_5 rfl ?_
  refine aw_get dX12_keep_6 fl_X12_7 (va_up_self _ _ _) (by omega) rfl ?_
  refine aw_aload_n dX12_keep_9 rfl ?_
  refine aw_get dX12_keep_10 fl_X12_16 (va_up_self _ _ _) (by omega) rfl ?_
  refine aw_callSv (J' := jX12_copies) (As := [.ref (b + 101), .ref (b + 103)]) (st := []) dX12_keep_13 tb_1299 ok_X12_copies rfl (k_copies l D b N (va_up V 100 (cO 11 [.ref (b + 101), .ref (b + 102), .ref (b + 103), .ref (b + 104), .ref (b + 105), .ref (b + 106), .ref (b + 107), .ref (b + 108), .ref (b + 109), .int 0, .int 0, .int 0, .ref (b + 110), .int 0, .int 0, .int 0, .int 0, .int 0, .int 0, .int 0, .int 0, .int 0, .int 0, .ref (b + 111), .ref (b + 112), .ref (b + 113), .ref (b + 114), .ref (b + 115), .ref (b + 116), .ref (b + 117), .ref (b + 118), .ref (b + 119), .ref (b + 120), .ref (b + 121), .ref (b + 122), .ref (b + 123), .int 0, .int 0, .int 0, .int 0, .ref (b + 124), .ref (b + 125), .ref (b + 126), .ref (b + 127), .ref (b + 128), .int 0, .int 0, .ref (b + 129), .ref (b + 130), .ref (b + 131), .ref (b + 132), .int 1])) 101 103 (by omega) (by omega) (by omega) _ _ ((va_up_ne _ _ (by omega)).trans k101) ((va_up_ne _ _ (by omega)).trans k103)) rfl (Nat.le_of_ble_eq_true rfl) ⟨Nat.le_of_ble_eq_true rfl, Nat.le_of_ble_eq_true rfl, Nat.le_of_ble_eq_true rfl, Nat.le_of_ble_eq_true rfl⟩ (fun  N_5 V_4 q_6 => ?_)
  obtain ⟨rfl, ⟨g_2, q_3⟩, fr_1⟩ := q_6
  refine aw_aload_n dX12_keep_16 rfl ?_
  refine aw_get dX12_keep_17 fl_X12_7 ((fr_1 _ (by omega)).trans (va_up_self _ _ _)) (by omega) rfl ?_
  refine aw_sipush (v := 208) dX12_keep_20 (by decide) ?_
  refine aw_iald (v := 0) dX12_keep_23 ((fr_1 _ (by omega)).trans ((va_up_ne _ _ (by omega)).trans k101)) (by omega) (vp_in_nI (n := 208) (N := 210) (by decide) (by decide)) (by decide) ?_
  refine aw_ireti dX12_keep_24 rfl (Nat.le_of_ble_eq_true rfl) (Nat.le_of_ble_eq_true rfl) ?_
  exact ⟨rfl, rfl⟩

set_option maxHeartbeats 4000000 in
set_option maxRecDepth 100000 in
theorem r_undo (l : Launch) (D : va_G) (b : Nat) (N : Nat) (V : Wd) (hN : 133 ≤ N) (hM : M0 D b V)  : MI l D b 0 jX12_undo [.ref (b + 100)] N V 0 0 (fun r N9 V9 => r = 0 ∧ N = N9) := by
  obtain ⟨k100, k101, k102, k103, k104, k110, k124, k126, k127, k128, k130, k131⟩ := id hM
  refine mw_of (by decide) (by simp [Value.category]) (Nat.le_of_ble_eq_true rfl) ?_
  show AW l D b jX12_undo (fx_rm 0 0 0) none (fx_MQ D b 0 0 (fx_qi (fun r N9 V9 => r = 0 ∧ N = N9))) 0 [some (.ref (b + 100))] [] N V 0 0
  refine aw_aload_n dX12_undo_0 rfl ?_
  refine aw_get dX12_undo_1 fl_X12_424 k100 (by omega) rfl ?_
  refine aw_if_ne (tgt := 9) dX12_undo_4 (by decide) (fun c_1 => ?_) (fun c_1 => ?_)
  · exact absurd rfl c_1
  refine aw_iconst (v := 0) dX12_undo_7 (by decide) ?_
  refine aw_zreti dX12_undo_8 rfl (Or.inl rfl) (Nat.le_of_ble_eq_true rfl) (Nat.le_of_ble_eq_true rfl) ?_
  exact ⟨rfl, rfl⟩

set_option maxHeartbeats 4000000 in
set_option maxRecDepth 100000 in
theorem r_check (l : Launch) (D : va_G) (b : Nat) (N : Nat) (V : Wd) (hN : 133 ≤ N) (hM : M0 D b V) (n : Int32) : MI l D b 1 jX12_check [.ref (b + 100), .int n] N V 0 0 (fun r N9 V9 => r = (if n = 0 then (-1) else (-2)) ∧ N = N9) := by
  obtain ⟨k100, k101, k102, k103, k104, k110, k124, k126, k127, k128, k130, k131⟩ := id hM
  refine mw_of (by decide) (by simp [Value.category]) (Nat.le_of_ble_eq_true rfl) ?_
  show AW l D b jX12_check (fx_rm 1 0 0) none (fx_MQ D b 0 0 (fx_qi (fun r N9 V9 => r = (if n = 0 then (-1) else (-2)) ∧ N = N9))) 0 [some (.ref (b + 100)), some (.int n), none] [] N V 0 0
  refine aw_iload_n dX12_check_0 rfl ?_
  refine aw_iconst (v := 0) dX12_check_1 (by decide) ?_
  refine aw_bipush (v := 12) dX12_check_2 (by decide) ?_
  refine aw_callSi (J' := jX12_in) (As := [.int n, .int 0, .int 12]) (st := []) dX12_check_4 tb_1209 ok_X12_in rfl (k_in l D b N V n 0 12) rfl (Nat.le_of_ble_eq_true rfl) ⟨Nat.le_of_ble_eq_true rfl, Nat.le_of_ble_eq_true rfl, Nat.le_of_ble_eq_true rfl, Nat.le_of_ble_eq_true rfl⟩ (fun r_1 N_2 V_3 q_4 => ?_)
  obtain ⟨rfl, rfl, rfl⟩ := q_4
  rcases inr_cases n 0 12 with ⟨g_5, e_6⟩ | ⟨g_7, g_8, g_9, e_10⟩ | ⟨g_11, g_12, g_13, e_14⟩
  · skip
    refine aw_eqi (y := 0) e_6 ?_
    refine aw_if_eq (tgt := 18) dX12_check_7 (by decide) (fun c_15 => ?_) (fun c_15 => ?_)
    rotate_left
    · exact absurd (by decide) c_15
    refine aw_bipush (v := (-2)) dX12_check_18 (by decide) ?_
    refine aw_ireti dX12_check_20 rfl (Nat.le_of_ble_eq_true rfl) (Nat.le_of_ble_eq_true rfl) ?_
    exact ⟨(if_neg (fun e => by subst e; revert g_5; decide)).symm, rfl⟩
  · skip
    refine aw_eqi (y := 0) e_10 ?_
    refine aw_if_eq (tgt := 18) dX12_check_7 (by decide) (fun c_16 => ?_) (fun c_16 => ?_)
    rotate_left
    · exact absurd (by decide) c_16
    refine aw_bipush (v := (-2)) dX12_check_18 (by decide) ?_
    refine aw_ireti dX12_check_20 rfl (Nat.le_of_ble_eq_true rfl) (Nat.le_of_ble_eq_true rfl) ?_
    exact ⟨(if_neg (fun e => by subst e; revert g_9; decide)).symm, rfl⟩
  · skip
    refine aw_eqi (y := 1) e_14 ?_
    refine aw_if_eq (tgt := 18) dX12_check_7 (by decide) (fun c_17 => ?_) (fun c_17 => ?_)
    · exact absurd c_17 (by decide)
    refine aw_iload_n dX12_check_10 rfl ?_
    refine aw_aload_n dX12_check_11 rfl ?_
    refine aw_get dX12_check_12 fl_X12_152 k100 (by omega) rfl ?_
    refine aw_icmp_le (tgt := 21) dX12_check_15 (by decide) (fun c_18 => ?_) (fun c_18 => ?_)
    · skip
      have hn : n = 0 := Int32.le_antisymm c_18 (Int32.not_lt.mp g_11)
      refine aw_aload_n dX12_check_21 rfl ?_
      refine aw_iconst (v := 0) dX12_check_22 (by decide) ?_
      refine aw_put dX12_check_23 fp_X12_152 k100 (by omega) rfl rfl (Nat.le_of_ble_eq_true rfl) rfl ?_
      refine aw_iconst (v := 0) dX12_check_26 (by decide) ?_
      refine aw_istore_n (ls' := [some (.ref (b + 100)), some (.int n), some (.int 0)]) dX12_check_27 (Nat.le_of_ble_eq_true rfl) rfl ?_
      refine aw_iload_n dX12_check_28 rfl ?_
      refine aw_iload_n dX12_check_29 rfl ?_
      refine aw_icmp_ge (tgt := 68) dX12_check_30 (by decide) (fun c_19 => ?_) (fun c_19 => ?_)
      rotate_left
      · exact absurd (by rw [hn]; exact Int32.le_refl _) c_19
      refine aw_iconst (v := (-1)) dX12_check_68 (by decide) ?_
      refine aw_ireti dX12_check_69 rfl (Nat.le_of_ble_eq_true rfl) (Nat.le_of_ble_eq_true rfl) ?_
      exact ⟨(if_pos hn).symm, rfl⟩
    · skip
      refine aw_bipush (v := (-2)) dX12_check_18 (by decide) ?_
      refine aw_ireti dX12_check_20 rfl (Nat.le_of_ble_eq_true rfl) (Nat.le_of_ble_eq_true rfl) ?_
      exact ⟨(if_neg (fun e => by subst e; revert c_18; decide)).symm, rfl⟩

set_option maxHeartbeats 4000000 in
set_option maxRecDepth 100000 in
theorem k_twos (l : Launch) (D : va_G) (b : Nat) (N : Nat) (V : Wd) (hN : 133 ≤ N) (k100 : V 100 = cO 11 [.ref (b + 101), .ref (b + 102), .ref (b + 103), .ref (b + 104), .ref (b + 105), .ref (b + 106), .ref (b + 107), .ref (b + 108), .ref (b + 109), .int 0, .int 0, .int 0, .ref (b + 110), .int 0, .int 0, .int 0, .int 0, .int 0, .int 0, .int 0, .int 0, .int 0, .int 0, .ref (b + 111), .ref (b + 112), .ref (b + 113), .ref (b + 114), .ref (b + 115), .ref (b + 116), .ref (b + 117), .ref (b + 118), .ref (b + 119), .ref (b + 120), .ref (b + 121), .ref (b + 122), .ref (b + 123), .int 0, .int 0, .int 0, .int 0, .ref (b + 124), .ref (b + 125), .ref (b + 126), .ref (b + 127), .ref (b + 128), .int 0, .int 0, .ref (b + 129), .ref (b + 130), .ref (b + 131), .ref (b + 132), .int 0]) (k104 : V 104 = cI D 12 (fun _ => 0)) : MI l D b 1 jX12_twos [.ref (b + 100)] N V 0 0 (fun r N9 V9 => r = 0 ∧ N = N9 ∧ V = V9) := by
  refine mw_of (by decide) (by simp [Value.category]) (Nat.le_of_ble_eq_true rfl) ?_
  show AW l D b jX12_twos (fx_rm 1 0 0) none (fx_MQ D b 0 0 (fx_qi (fun r N9 V9 => r = 0 ∧ N = N9 ∧ V = V9))) 0 [some (.ref (b + 100)), none, none] [] N V 0 0
  refine aw_iconst (v := 0) dX12_twos_0 (by decide) ?_
  refine aw_istore_n (ls' := [some (.ref (b + 100)), some (.int 0), none]) dX12_twos_1 (Nat.le_of_ble_eq_true rfl) rfl ?_
  refine aw_iconst (v := 0) dX12_twos_2 (by decide) ?_
  refine aw_istore_n (ls' := [some (.ref (b + 100)), some (.int 0), some (.int 0)]) dX12_twos_3 (Nat.le_of_ble_eq_true rfl) rfl ?_
  have loop_4_0 : ∀ (g_4 : Nat), ∀ (j4 : Nat), j4 + g_4 = 12 → AW l D b jX12_twos (fx_rm 1 0 0) none (fx_MQ D b 0 0 (fx_qi (fun r N9 V9 => r = 0 ∧ N = N9 ∧ V = V9))) 4 [some (.ref (b + 100)), some (.int 0), some (.int (nI j4))] [] N V 0 0 := by
    intro g_4
    induction g_4 with
    | zero =>
      intro j4  hj4
      obtain rfl : j4 = 12 := by omega
      refine aw_iload_n dX12_twos_4 rfl ?_
      refine aw_bipush (v := 12) dX12_twos_5 (by decide) ?_
      refine aw_icmp_ge (tgt := 28) dX12_twos_7 (by decide) (fun c_3 => ?_) (fun c_3 => ?_)
      rotate_left
      · exact absurd (nI_le (a := 12) (b := 12) (Nat.le_refl _) (by omega)) c_3
      refine aw_iload_n dX12_twos_28 rfl ?_
      refine aw_iconst (v := 2) dX12_twos_29 (by decide) ?_
      refine aw_idiv dX12_twos_30 (by decide) ?_
      refine aw_eqi (y := 0) (by decide) ?_
      refine aw_ireti dX12_twos_31 rfl (Nat.le_of_ble_eq_true rfl) (Nat.le_of_ble_eq_true rfl) ?_
      exact ⟨rfl, rfl, rfl⟩
    | succ g_4 ih_4_1 =>
      intro j4  hj4
      have hlj4 : j4 < 12 := by omega
      refine aw_iload_n dX12_twos_4 rfl ?_
      refine aw_bipush (v := 12) dX12_twos_5 (by decide) ?_
      refine aw_icmp_ge (tgt := 28) dX12_twos_7 (by decide) (fun c_4 => ?_) (fun c_4 => ?_)
      · exact absurd c_4 (nI_ge (a := j4) (b := 12) (by omega) (by omega))
      refine aw_iload_n dX12_twos_10 rfl ?_
      refine aw_aload_n dX12_twos_11 rfl ?_
      refine aw_get dX12_twos_12 fl_X12_19 k100 (by omega) rfl ?_
      refine aw_iload_n dX12_twos_15 rfl ?_
      refine aw_iald (v := 0) dX12_twos_16 k104 (by omega) (vp_in_nI (n := j4) (by omega) (by omega)) rfl ?_
      refine aw_callSi (J' := jX12_bits) (As := [.int 0]) (st := [.int 0]) dX12_twos_17 tb_1396 ok_X12_bits rfl (k_bits l D b N V 0) rfl (Nat.le_of_ble_eq_true rfl) ⟨Nat.le_of_ble_eq_true rfl, Nat.le_of_ble_eq_true rfl, Nat.le_of_ble_eq_true rfl, Nat.le_of_ble_eq_true rfl⟩ (fun r_5 N_6 V_7 q_8 => ?_)
      obtain ⟨⟨hr_5, -⟩, rfl, rfl⟩ := q_8
      obtain rfl := hr_5 rfl
      refine aw_iadd dX12_twos_20 ?_
      refine aw_eqi (y := 0) (by decide) ?_
      refine aw_istore_n (ls' := [some (.ref (b + 100)), some (.int 0), some (.int (nI j4))]) dX12_twos_21 (Nat.le_of_ble_eq_true rfl) rfl ?_
      refine aw_iinc (v := (nI (j4 + 1))) (ls' := [some (.ref (b + 100)), some (.int 0), some (.int (nI (j4 + 1)))]) dX12_twos_22 rfl (fx_up_1 _) (Nat.le_of_ble_eq_true rfl) rfl ?_
      refine aw_goto (tgt := 4) dX12_twos_25 (by decide) ?_
      refine aw_le ?_ (ih_4_1 (j4 + 1)   (by omega))
      exact ⟨rfl, ⟨rfl, ⟨rfl, trivial⟩⟩⟩
  refine aw_le ?_ (loop_4_0 12 0   (by omega))
  exact ⟨rfl, ⟨rfl, ⟨rfl, trivial⟩⟩⟩

set_option maxHeartbeats 4000000 in
set_option maxRecDepth 100000 in
theorem k_openedOfAll (l : Launch) (D : va_G) (b : Nat) (N : Nat) (V : Wd) (hN : 133 ≤ N) (k100 : V 100 = cO 11 [.ref (b + 101), .ref (b + 102), .ref (b + 103), .ref (b + 104), .ref (b + 105), .ref (b + 106), .ref (b + 107), .ref (b + 108), .ref (b + 109), .int 0, .int 0, .int 0, .ref (b + 110), .int 0, .int 0, .int 0, .int 0, .int 0, .int 0, .int 0, .int 0, .int 0, .int 0, .ref (b + 111), .ref (b + 112), .ref (b + 113), .ref (b + 114), .ref (b + 115), .ref (b + 116), .ref (b + 117), .ref (b + 118), .ref (b + 119), .ref (b + 120), .ref (b + 121), .ref (b + 122), .ref (b + 123), .int 0, .int 0, .int 0, .int 0, .ref (b + 124), .ref (b + 125), .ref (b + 126), .ref (b + 127), .ref (b + 128), .int 0, .int 0, .ref (b + 129), .ref (b + 130), .ref (b + 131), .ref (b + 132), .int 0]) : MI l D b 2 jX12_openedOfAll [.ref (b + 100)] N V 0 0 (fun r N9 V9 => r = 0 ∧ N = N9 ∧ V = V9) := by
  refine mw_of (by decide) (by simp [Value.category]) (Nat.le_of_ble_eq_true rfl) ?_
  show AW l D b jX12_openedOfAll (fx_rm 2 0 0) none (fx_MQ D b 0 0 (fx_qi (fun r N9 V9 => r = 0 ∧ N = N9 ∧ V = V9))) 0 [some (.ref (b + 100)), none, none] [] N V 0 0
  refine aw_iconst (v := 0) dX12_openedOfAll_0 (by decide) ?_
  refine aw_istore_n (ls' := [some (.ref (b + 100)), some (.int 0), none]) dX12_openedOfAll_1 (Nat.le_of_ble_eq_true rfl) rfl ?_
  refine aw_iconst (v := 0) dX12_openedOfAll_2 (by decide) ?_
  refine aw_istore_n (ls' := [some (.ref (b + 100)), some (.int 0), some (.int 0)]) dX12_openedOfAll_3 (Nat.le_of_ble_eq_true rfl) rfl ?_
  have loop_4_0 : ∀ (g_4 : Nat), ∀ (j4 : Nat), j4 + g_4 = 16 → AW l D b jX12_openedOfAll (fx_rm 2 0 0) none (fx_MQ D b 0 0 (fx_qi (fun r N9 V9 => r = 0 ∧ N = N9 ∧ V = V9))) 4 [some (.ref (b + 100)), some (.int 0), some (.int (nI j4))] [] N V 0 0 := by
    intro g_4
    induction g_4 with
    | zero =>
      intro j4  hj4
      obtain rfl : j4 = 16 := by omega
      refine aw_iload_n dX12_openedOfAll_4 rfl ?_
      refine aw_bipush (v := 16) dX12_openedOfAll_5 (by decide) ?_
      refine aw_icmp_ge (tgt := 37) dX12_openedOfAll_7 (by decide) (fun c_3 => ?_) (fun c_3 => ?_)
      rotate_left
      · exact absurd (nI_le (a := 16) (b := 16) (Nat.le_refl _) (by omega)) c_3
      refine aw_iload_n dX12_openedOfAll_37 rfl ?_
      refine aw_ireti dX12_openedOfAll_38 rfl (Nat.le_of_ble_eq_true rfl) (Nat.le_of_ble_eq_true rfl) ?_
      exact ⟨rfl, rfl, rfl⟩
    | succ g_4 ih_4_1 =>
      intro j4  hj4
      have hlj4 : j4 < 16 := by omega
      refine aw_iload_n dX12_openedOfAll_4 rfl ?_
      refine aw_bipush (v := 16) dX12_openedOfAll_5 (by decide) ?_
      refine aw_icmp_ge (tgt := 37) dX12_openedOfAll_7 (by decide) (fun c_4 => ?_) (fun c_4 => ?_)
      · exact absurd c_4 (nI_ge (a := j4) (b := 16) (by omega) (by omega))
      refine aw_aload_n dX12_openedOfAll_10 rfl ?_
      refine aw_iload_n dX12_openedOfAll_11 rfl ?_
      refine aw_callVi (J' := jX12_isDoor) (As := [.int (nI j4)]) (st := []) dX12_openedOfAll_12 tb_1359 ok_X12_isDoor ⟨_, k100⟩ (by omega) rfl rfl (k_isDoor l D b N V hN k100 (nI j4)) rfl (Nat.le_of_ble_eq_true rfl) ⟨Nat.le_of_ble_eq_true rfl, Nat.le_of_ble_eq_true rfl, Nat.le_of_ble_eq_true rfl, Nat.le_of_ble_eq_true rfl⟩ (fun r_5 N_6 V_7 q_8 => ?_)
      obtain ⟨rfl, rfl, rfl⟩ := q_8
      refine aw_if_eq (tgt := 31) dX12_openedOfAll_15 (by decide) (fun c_9 => ?_) (fun c_9 => ?_)
      rotate_left
      · exact absurd (by decide) c_9
      refine aw_iinc (v := (nI (j4 + 1))) (ls' := [some (.ref (b + 100)), some (.int 0), some (.int (nI (j4 + 1)))]) dX12_openedOfAll_31 rfl (fx_up_1 _) (Nat.le_of_ble_eq_true rfl) rfl ?_
      refine aw_goto (tgt := 4) dX12_openedOfAll_34 (by decide) ?_
      refine aw_le ?_ (ih_4_1 (j4 + 1)   (by omega))
      exact ⟨rfl, ⟨rfl, ⟨rfl, trivial⟩⟩⟩
  refine aw_le ?_ (loop_4_0 16 0   (by omega))
  exact ⟨rfl, ⟨rfl, ⟨rfl, trivial⟩⟩⟩

set_option maxHeartbeats 4000000 in
set_option maxRecDepth 100000 in
theorem r_count (l : Launch) (D : va_G) (b : Nat) (N : Nat) (V : Wd) (hN : 133 ≤ N) (hM : M0 D b V) (x : Int32) : MI l D b 3 jX12_count [.ref (b + 100), .int x] N V 0 0 (fun r N9 V9 => r = cnt x ∧ N = N9) := by
  obtain ⟨k100, k101, k102, k103, k104, k110, k124, k126, k127, k128, k130, k131⟩ := id hM
  refine mw_of (by decide) (by simp [Value.category]) (Nat.le_of_ble_eq_true rfl) ?_
  show AW l D b jX12_count (fx_rm 3 0 0) none (fx_MQ D b 0 0 (fx_qi (fun r N9 V9 => r = cnt x ∧ N = N9))) 0 [some (.ref (b + 100)), some (.int x)] [] N V 0 0
  refine aw_iload_n dX12_count_0 rfl ?_
  rcases pk_ix x (n := 8) (by decide) with h | h | ⟨j, hj, rfl⟩
  · skip
    refine aw_tableOut (tgt := 96) dX12_count_1 (Or.inl (fx_sw0 h)) (by decide) ?_
    refine aw_iconst (v := (-1)) dX12_count_96 (by decide) ?_
    refine aw_ireti dX12_count_97 rfl (Nat.le_of_ble_eq_true rfl) (Nat.le_of_ble_eq_true rfl) ?_
    exact ⟨(cnt_lo h).symm, rfl⟩
  · skip
    refine aw_tableOut (tgt := 96) dX12_count_1 (Or.inr (fx_sw8 h)) (by decide) ?_
    refine aw_iconst (v := (-1)) dX12_count_96 (by decide) ?_
    refine aw_ireti dX12_count_97 rfl (Nat.le_of_ble_eq_true rfl) (Nat.le_of_ble_eq_true rfl) ?_
    exact ⟨(cnt_hi h).symm, rfl⟩
  · have hj8 : j = 0 ∨ j = 1 ∨ j = 2 ∨ j = 3 ∨ j = 4 ∨ j = 5 ∨ j = 6 ∨ j = 7 := by omega
    rcases hj8 with rfl | rfl | rfl | rfl | rfl | rfl | rfl | rfl
    · skip
      refine aw_tableIn (off := 47) (tgt := 48) dX12_count_1 (by decide) (by decide) (by decide) (by decide) ?_
      refine aw_aload_n dX12_count_48 rfl ?_
      refine aw_get dX12_count_49 fl_X12_7 k100 (by omega) rfl ?_
      refine aw_sipush (v := 208) dX12_count_52 (by decide) ?_
      refine aw_iald (v := 0) dX12_count_55 k101 (by omega) (vp_in_nI (n := 208) (N := 210) (by decide) (by decide)) (by decide) ?_
      refine aw_ireti dX12_count_56 rfl (Nat.le_of_ble_eq_true rfl) (Nat.le_of_ble_eq_true rfl) ?_
      exact ⟨by decide, rfl⟩
    · skip
      refine aw_tableIn (off := 56) (tgt := 57) dX12_count_1 (by decide) (by decide) (by decide) (by decide) ?_
      refine aw_aload_n dX12_count_57 rfl ?_
      refine aw_get dX12_count_58 fl_X12_121 k100 (by omega) rfl ?_
      refine aw_ireti dX12_count_61 rfl (Nat.le_of_ble_eq_true rfl) (Nat.le_of_ble_eq_true rfl) ?_
      exact ⟨by decide, rfl⟩
    · skip
      refine aw_tableIn (off := 61) (tgt := 62) dX12_count_1 (by decide) (by decide) (by decide) (by decide) ?_
      refine aw_aload_n dX12_count_62 rfl ?_
      refine aw_get dX12_count_63 fl_X12_129 k100 (by omega) rfl ?_
      refine aw_ireti dX12_count_66 rfl (Nat.le_of_ble_eq_true rfl) (Nat.le_of_ble_eq_true rfl) ?_
      exact ⟨by decide, rfl⟩
    · skip
      refine aw_tableIn (off := 66) (tgt := 67) dX12_count_1 (by decide) (by decide) (by decide) (by decide) ?_
      refine aw_aload_n dX12_count_67 rfl ?_
      refine aw_callVi (J' := jX12_twos) (As := []) (st := []) dX12_count_68 tb_1621 ok_X12_twos ⟨_, k100⟩ (by omega) rfl rfl (k_twos l D b N V hN k100 k104) rfl (Nat.le_of_ble_eq_true rfl) ⟨Nat.le_of_ble_eq_true rfl, Nat.le_of_ble_eq_true rfl, Nat.le_of_ble_eq_true rfl, Nat.le_of_ble_eq_true rfl⟩ (fun r_1 N_2 V_3 q_4 => ?_)
      obtain ⟨rfl, rfl, rfl⟩ := q_4
      refine aw_ireti dX12_count_71 rfl (Nat.le_of_ble_eq_true rfl) (Nat.le_of_ble_eq_true rfl) ?_
      exact ⟨by decide, rfl⟩
    · skip
      refine aw_tableIn (off := 71) (tgt := 72) dX12_count_1 (by decide) (by decide) (by decide) (by decide) ?_
      refine aw_aload_n dX12_count_72 rfl ?_
      refine aw_callVi (J' := jX12_openedOfAll) (As := []) (st := []) dX12_count_73 tb_1625 ok_X12_openedOfAll ⟨_, k100⟩ (by omega) rfl rfl (k_openedOfAll l D b N V hN k100) rfl (Nat.le_of_ble_eq_true rfl) ⟨Nat.le_of_ble_eq_true rfl, Nat.le_of_ble_eq_true rfl, Nat.le_of_ble_eq_true rfl, Nat.le_of_ble_eq_true rfl⟩ (fun r_5 N_6 V_7 q_8 => ?_)
      obtain ⟨rfl, rfl, rfl⟩ := q_8
      refine aw_ireti dX12_count_76 rfl (Nat.le_of_ble_eq_true rfl) (Nat.le_of_ble_eq_true rfl) ?_
      exact ⟨by decide, rfl⟩
    · skip
      refine aw_tableIn (off := 76) (tgt := 77) dX12_count_1 (by decide) (by decide) (by decide) (by decide) ?_
      refine aw_aload_n dX12_count_77 rfl ?_
      refine aw_get dX12_count_78 fl_X12_251 k100 (by omega) rfl ?_
      refine aw_ireti dX12_count_81 rfl (Nat.le_of_ble_eq_true rfl) (Nat.le_of_ble_eq_true rfl) ?_
      exact ⟨by decide, rfl⟩
    · skip
      refine aw_tableIn (off := 81) (tgt := 82) dX12_count_1 (by decide) (by decide) (by decide) (by decide) ?_
      refine aw_aload_n dX12_count_82 rfl ?_
      refine aw_get dX12_count_83 fl_X12_152 k100 (by omega) rfl ?_
      refine aw_ireti dX12_count_86 rfl (Nat.le_of_ble_eq_true rfl) (Nat.le_of_ble_eq_true rfl) ?_
      exact ⟨by decide, rfl⟩
    · skip
      refine aw_tableIn (off := 86) (tgt := 87) dX12_count_1 (by decide) (by decide) (by decide) (by decide) ?_
      refine aw_aload_n dX12_count_87 rfl ?_
      refine aw_get dX12_count_88 fl_X12_7 k100 (by omega) rfl ?_
      refine aw_sipush (v := 209) dX12_count_91 (by decide) ?_
      refine aw_iald (v := 1) dX12_count_94 k101 (by omega) (vp_in_nI (n := 209) (N := 210) (by decide) (by decide)) (by decide) ?_
      refine aw_ireti dX12_count_95 rfl (Nat.le_of_ble_eq_true rfl) (Nat.le_of_ble_eq_true rfl) ?_
      exact ⟨by decide, rfl⟩
