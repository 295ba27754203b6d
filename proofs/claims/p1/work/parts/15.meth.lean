
theorem fx_le100 {n : Int32} (h1 : ¬ n < 1) (h2 : n ≤ 100) : ∃ m : Nat, m ≤ 100 ∧ n = nI m := by
  rcases pk_ix n (n := 101) (by decide) with h | h | ⟨j, h, e⟩
  · exact absurd (Int32.lt_trans h (show (0 : Int32) < 1 by decide)) h1
  · exact absurd (Int32.le_trans h h2) (by decide)
  · exact ⟨j, by omega, e⟩
theorem fx_le8 {n : Int32} (h1 : ¬ n < 1) (h2 : ¬ 8 < n) : ∃ m : Nat, m ≤ 8 ∧ n = nI m := by
  rcases pk_ix n (n := 9) (by decide) with h | h | ⟨j, h, e⟩
  · exact absurd (Int32.lt_trans h (show (0 : Int32) < 1 by decide)) h1
  · exact absurd (Int32.lt_of_lt_of_le (show (8 : Int32) < nI 9 by decide) h) h2
  · exact ⟨j, by omega, e⟩
theorem fx_le128 {n : Int32} (h1 : ¬ n < 0) (h2 : n ≤ 128) : ∃ m : Nat, m ≤ 128 ∧ n = nI m := by
  rcases pk_ix n (n := 129) (by decide) with h | h | ⟨j, h, e⟩
  · exact absurd h h1
  · exact absurd (Int32.le_trans h h2) (by decide)
  · exact ⟨j, by omega, e⟩
theorem fx_n0 {m : Int32} (h : ¬ m < 1) : ¬ m ≤ 0 := fun h2 => h (Int32.lt_of_le_of_lt h2 (by decide))
theorem fx_p0 {m : Int32} (h : ¬ m < 1) : 0 < m := Int32.lt_of_lt_of_le (show (0 : Int32) < 1 by decide) (Int32.not_lt.mp h)
theorem fx_not10 {x : Int32} (h : 10 ≤ x) : ¬ x ≤ 1 := fun h2 => absurd (Int32.le_trans h h2) (by decide)
theorem fx_not66 {x : Int32} (h : ¬ x ≤ 66) : ¬ x ≤ 1 := fun h2 => h (Int32.le_trans h2 (by decide))
theorem fx_01 {x : Int32} (h1 : ¬ x < 0) (h2 : x ≤ 1) (h3 : ¬ x = 0) (h4 : ¬ x = 1) : False := by
  rcases pk_ix x (n := 2) (by decide) with h | h | ⟨j, h, e⟩
  · exact h1 h
  · exact absurd (Int32.le_trans h h2) (by decide)
  · have : j = 0 ∨ j = 1 := by omega
    rcases this with rfl | rfl
    · exact h3 e
    · exact h4 e
def cbt (x : Int32) : Int32 := if x < 0 then 0 else if x ≤ 1 then 1 else 0
theorem cbt_ne {x : Int32} (h : ¬ cbt x = 0) : ¬ x < 0 ∧ x ≤ 1 := by
  unfold cbt at h
  split at h
  · exact absurd rfl h
  · split at h
    · exact ⟨by assumption, by assumption⟩
    · exact absurd rfl h
theorem fx_if3 {P : Prop} {_ : Decidable P} {r : Int32} (h : r = if P then 1 else 0) (c : ¬ r = 0) : P := by
  by_cases p : P
  · exact p
  · rw [if_neg p] at h; exact absurd h c
theorem fx_if4 {P : Prop} {_ : Decidable P} {r : Int32} (h : r = if P then 1 else 0) (c : r = 0) : ¬ P := fun p => by rw [if_pos p] at h; rw [h] at c; exact absurd c (by decide)
def cnt (x : Int32) : Int32 := if x = 7 then 1 else if x < 0 then -1 else if 7 < x then -1 else 0
theorem fx_sw0 {x : Int32} (h : x < 0) : x.toInt < 0 := by
  have h1 := Int32.lt_iff_toInt_lt.mp h
  have e : (0 : Int32).toInt = 0 := by decide
  rw [e] at h1; exact h1
theorem fx_sw8 {x : Int32} (h : nI 8 ≤ x) : 7 < x.toInt := by
  have h1 := Int32.le_iff_toInt_le.mp h
  have e : (nI 8).toInt = 8 := by decide
  rw [e] at h1; omega
theorem cnt_lo {x : Int32} (h : x < 0) : cnt x = -1 := by
  unfold cnt
  rw [if_neg (fun e => by rw [e] at h; exact absurd h (by decide)), if_pos h]
theorem c_wordsI (l : Launch) (D : va_G) (b : Nat) (N : Nat) (V : Wd) (hN : 100 ≤ N) (hp : V 97 = cO 8 [.ref (b + 98), .ref (b + 99)]) (g : Nat → Int64) (hg : V 99 = cJ D 129 g) (n f t : Int32) (h1 : ¬ n < 1) (h2 : ¬ 8 < n) (h3 : ¬ t < 0) (h4 : t ≤ 128) : ML l D b 2 jX9_wordsWeighing [.ref (b + 97), .int n, .int f, .int t] N V 0 0 (fun r N9 V9 => r = wds f n.toNatClampNeg t.toNatClampNeg ∧ N = N9 ∧ ∀ i, 100 ≤ i → V9 i = V i) := by
  obtain ⟨m, hm, rfl⟩ := fx_le8 h1 h2
  obtain ⟨k, hk, rfl⟩ := fx_le128 h3 h4
  rw [nI_clamp (n := m) (by omega), nI_clamp (n := k) (by omega)]
  exact c_wordsWeighing l D b N V hN hp g hg m hm f k hk
theorem cnt_hi {x : Int32} (h : nI 8 ≤ x) : cnt x = -1 := by
  unfold cnt
  rw [if_neg (fun e => by rw [e] at h; exact absurd h (by decide))]
  split
  · rfl
  · rw [if_pos (Int32.lt_of_lt_of_le (show (7 : Int32) < nI 8 by decide) h)]
set_option maxHeartbeats 4000000 in
set_option maxRecDepth 100000 in
theorem m_feed (l : Launch) (D : va_G) (b : Nat) (N : Nat) (V : Wd) (hN : 100 ≤ N) (hI : I0 D b V) (a : Int32) (e1 : Int32) (e2 : Int32) (e3 : Int32) (e4 : Int32) : MI l D b 1 jX11_feed [.ref (b + 0), .int a, .int e1, .int e2, .int e3, .int e4] N V 0 0 (fun r N9 V9 => r = 20 ∧ N = N9 ∧ ∀ i, 100 ≤ i → V9 i = V i) := by
  obtain ⟨m0, m1, m2, a3, a21, a39, m57, m63, m73, a74, m92, m93, m94, m95, m96, m97, m99⟩ := id hI
  have z3 : CZ D b 3 V := ⟨_, _, _, _, _, _, _, a3, fun _ _ _ _ => rfl, fun _ _ => rfl⟩
  have z21 : CZ D b 21 V := ⟨_, _, _, _, _, _, _, a21, fun _ _ _ _ => rfl, fun _ _ => rfl⟩
  have z39 : CZ D b 39 V := ⟨_, _, _, _, _, _, _, a39, fun _ _ _ _ => rfl, fun _ _ => rfl⟩
  have z74 : CZ D b 74 V := ⟨_, _, _, _, _, _, _, a74, fun _ _ _ _ => rfl, fun _ _ => rfl⟩
  refine mw_of (by decide) (by simp [Value.category]) (Nat.le_of_ble_eq_true rfl) ?_
  show AW l D b jX11_feed (fx_rm 1 0 0) none (fx_MQ D b 0 0 (fx_qi (fun r N9 V9 => r = 20 ∧ N = N9 ∧ ∀ i, 100 ≤ i → V9 i = V i))) 0 [some (.ref (b + 0)), some (.int a), some (.int e1), some (.int e2), some (.int e3), some (.int e4)] [] N V 0 0
  refine aw_aload_n dX11_feed_0 rfl ?_
  refine aw_get dX11_feed_1 fl_X11_12 m0 (by omega) rfl ?_
  refine aw_get dX11_feed_4 fl_X11_71 m1 (by omega) rfl ?_
  refine aw_sipush (v := 240) dX11_feed_7 (by decide) ?_
  refine aw_icmp_le (tgt := 15) dX11_feed_10 (by decide) (fun c_1 => ?_) (fun c_1 => ?_)
  rotate_left
  · exact absurd (by decide) c_1
  refine aw_aload_n dX11_feed_15 rfl ?_
  refine aw_get dX11_feed_16 fl_X11_12 m0 (by omega) rfl ?_
  refine aw_iload_n dX11_feed_19 rfl ?_
  refine aw_callVv (J' := jX10_append) (As := [.int a]) (st := []) dX11_feed_20 tb_259 ok_X10_append ⟨_, m1⟩ (by omega) rfl rfl (c_append l D b N V hN 0 (by omega) _ _ _ m1 _ m2 a) rfl (Nat.le_of_ble_eq_true rfl) ⟨Nat.le_of_ble_eq_true rfl, Nat.le_of_ble_eq_true rfl, Nat.le_of_ble_eq_true rfl, Nat.le_of_ble_eq_true rfl⟩ (fun  N_7 V_6 q_8 => ?_)
  obtain ⟨rfl, t_3, ⟨g_2, t_4⟩, t_5⟩ := q_8
  refine aw_aload_n dX11_feed_23 rfl ?_
  refine aw_get dX11_feed_24 fl_X11_12 ((t_5 _ (by omega)).trans m0) (by omega) rfl ?_
  refine aw_iload_n dX11_feed_27 rfl ?_
  refine aw_callVv (J' := jX10_append) (As := [.int e1]) (st := []) dX11_feed_28 tb_259 ok_X10_append ⟨_, t_3⟩ (by omega) rfl rfl (c_append l D b N V_6 hN 4 (by omega) _ _ _ t_3 _ t_4 e1) rfl (Nat.le_of_ble_eq_true rfl) ⟨Nat.le_of_ble_eq_true rfl, Nat.le_of_ble_eq_true rfl, Nat.le_of_ble_eq_true rfl, Nat.le_of_ble_eq_true rfl⟩ (fun  N_14 V_13 q_15 => ?_)
  obtain ⟨rfl, t_10, ⟨g_9, t_11⟩, t_12⟩ := q_15
  refine aw_aload_n dX11_feed_31 rfl ?_
  refine aw_get dX11_feed_32 fl_X11_12 ((t_12 _ (by omega)).trans ((t_5 _ (by omega)).trans m0)) (by omega) rfl ?_
  refine aw_iload_n dX11_feed_35 rfl ?_
  refine aw_callVv (J' := jX10_append) (As := [.int e2]) (st := []) dX11_feed_36 tb_259 ok_X10_append ⟨_, t_10⟩ (by omega) rfl rfl (c_append l D b N V_13 hN 8 (by omega) _ _ _ t_10 _ t_11 e2) rfl (Nat.le_of_ble_eq_true rfl) ⟨Nat.le_of_ble_eq_true rfl, Nat.le_of_ble_eq_true rfl, Nat.le_of_ble_eq_true rfl, Nat.le_of_ble_eq_true rfl⟩ (fun  N_21 V_20 q_22 => ?_)
  obtain ⟨rfl, t_17, ⟨g_16, t_18⟩, t_19⟩ := q_22
  refine aw_aload_n dX11_feed_39 rfl ?_
  refine aw_get dX11_feed_40 fl_X11_12 ((t_19 _ (by omega)).trans ((t_12 _ (by omega)).trans ((t_5 _ (by omega)).trans m0))) (by omega) rfl ?_
  refine aw_iload dX11_feed_43 rfl ?_
  refine aw_callVv (J' := jX10_append) (As := [.int e3]) (st := []) dX11_feed_45 tb_259 ok_X10_append ⟨_, t_17⟩ (by omega) rfl rfl (c_append l D b N V_20 hN 12 (by omega) _ _ _ t_17 _ t_18 e3) rfl (Nat.le_of_ble_eq_true rfl) ⟨Nat.le_of_ble_eq_true rfl, Nat.le_of_ble_eq_true rfl, Nat.le_of_ble_eq_true rfl, Nat.le_of_ble_eq_true rfl⟩ (fun  N_28 V_27 q_29 => ?_)
  obtain ⟨rfl, t_24, ⟨g_23, t_25⟩, t_26⟩ := q_29
  refine aw_aload_n dX11_feed_48 rfl ?_
  refine aw_get dX11_feed_49 fl_X11_12 ((t_26 _ (by omega)).trans ((t_19 _ (by omega)).trans ((t_12 _ (by omega)).trans ((t_5 _ (by omega)).trans m0)))) (by omega) rfl ?_
  refine aw_iload dX11_feed_52 rfl ?_
  refine aw_callVv (J' := jX10_append) (As := [.int e4]) (st := []) dX11_feed_54 tb_259 ok_X10_append ⟨_, t_24⟩ (by omega) rfl rfl (c_append l D b N V_27 hN 16 (by omega) _ _ _ t_24 _ t_25 e4) rfl (Nat.le_of_ble_eq_true rfl) ⟨Nat.le_of_ble_eq_true rfl, Nat.le_of_ble_eq_true rfl, Nat.le_of_ble_eq_true rfl, Nat.le_of_ble_eq_true rfl⟩ (fun  N_35 V_34 q_36 => ?_)
  obtain ⟨rfl, t_31, ⟨g_30, t_32⟩, t_33⟩ := q_36
  refine aw_aload_n dX11_feed_57 rfl ?_
  refine aw_get dX11_feed_58 fl_X11_12 ((t_33 _ (by omega)).trans ((t_26 _ (by omega)).trans ((t_19 _ (by omega)).trans ((t_12 _ (by omega)).trans ((t_5 _ (by omega)).trans m0))))) (by omega) rfl ?_
  refine aw_get dX11_feed_61 fl_X11_71 t_31 (by omega) rfl ?_
  refine aw_ireti dX11_feed_64 rfl (Nat.le_of_ble_eq_true rfl) (Nat.le_of_ble_eq_true rfl) ?_
  exact ⟨by decide, rfl, (fun i hi => (t_33 i (by omega)).trans ((fun i hi => (t_26 i (by omega)).trans ((fun i hi => (t_19 i (by omega)).trans ((fun i hi => (t_12 i (by omega)).trans ((fun i hi => (t_5 i (by omega)).trans ((fr_refl V) i hi)) i hi)) i hi)) i hi)) i hi))⟩

set_option maxHeartbeats 4000000 in
set_option maxRecDepth 100000 in
theorem m_law (l : Launch) (D : va_G) (b : Nat) (N : Nat) (V : Wd) (hN : 100 ≤ N) (hI : I0 D b V) (n : Int32) : MI l D b 1 jX11_law [.ref (b + 0), .int n] N V 0 0 (fun r N9 V9 => r = (-1) ∧ N = N9 ∧ ∀ i, 100 ≤ i → V9 i = V i) := by
  obtain ⟨m0, m1, m2, a3, a21, a39, m57, m63, m73, a74, m92, m93, m94, m95, m96, m97, m99⟩ := id hI
  have z3 : CZ D b 3 V := ⟨_, _, _, _, _, _, _, a3, fun _ _ _ _ => rfl, fun _ _ => rfl⟩
  have z21 : CZ D b 21 V := ⟨_, _, _, _, _, _, _, a21, fun _ _ _ _ => rfl, fun _ _ => rfl⟩
  have z39 : CZ D b 39 V := ⟨_, _, _, _, _, _, _, a39, fun _ _ _ _ => rfl, fun _ _ => rfl⟩
  have z74 : CZ D b 74 V := ⟨_, _, _, _, _, _, _, a74, fun _ _ _ _ => rfl, fun _ _ => rfl⟩
  refine mw_of (by decide) (by simp [Value.category]) (Nat.le_of_ble_eq_true rfl) ?_
  show AW l D b jX11_law (fx_rm 1 0 0) none (fx_MQ D b 0 0 (fx_qi (fun r N9 V9 => r = (-1) ∧ N = N9 ∧ ∀ i, 100 ≤ i → V9 i = V i))) 0 [some (.ref (b + 0)), some (.int n), none, none] [] N V 0 0
  refine aw_aload_n dX11_law_0 rfl ?_
  refine aw_get dX11_law_1 fl_X11_12 m0 (by omega) rfl ?_
  refine aw_iload_n dX11_law_4 rfl ?_
  refine aw_iconst (v := 1) dX11_law_5 (by decide) ?_
  refine aw_sipush (v := 240) dX11_law_6 (by decide) ?_
  refine aw_callVi (J' := jX10_holds) (As := [.int n, .int 1, .int 240]) (st := []) dX11_law_9 tb_267 ok_X10_holds ⟨_, m1⟩ (by omega) rfl rfl (c_holds0 l D b N V hN _ _ _ m1 n 1 240 (by decide)) rfl (Nat.le_of_ble_eq_true rfl) ⟨Nat.le_of_ble_eq_true rfl, Nat.le_of_ble_eq_true rfl, Nat.le_of_ble_eq_true rfl, Nat.le_of_ble_eq_true rfl⟩ (fun r_1 N_2 V_3 q_4 => ?_)
  obtain ⟨rfl, rfl, rfl⟩ := q_4
  refine aw_if_ne (tgt := 17) dX11_law_12 (by decide) (fun c_5 => ?_) (fun c_5 => ?_)
  · exact absurd rfl c_5
  refine aw_iconst (v := (-1)) dX11_law_15 (by decide) ?_
  refine aw_ireti dX11_law_16 rfl (Nat.le_of_ble_eq_true rfl) (Nat.le_of_ble_eq_true rfl) ?_
  exact ⟨rfl, rfl, (fr_refl V)⟩

set_option maxHeartbeats 4000000 in
set_option maxRecDepth 100000 in
theorem m_dreads (l : Launch) (D : va_G) (b : Nat) (N : Nat) (V : Wd) (hN : 100 ≤ N) (hI : I0 D b V) (p : Int32) (n : Int32) : MI l D b 1 jX11_dreads [.ref (b + 0), .int p, .int n] N V 0 0 (fun r N9 V9 => r = (-1) ∧ N = N9 ∧ ∀ i, 100 ≤ i → V9 i = V i) := by
  obtain ⟨m0, m1, m2, a3, a21, a39, m57, m63, m73, a74, m92, m93, m94, m95, m96, m97, m99⟩ := id hI
  have z3 : CZ D b 3 V := ⟨_, _, _, _, _, _, _, a3, fun _ _ _ _ => rfl, fun _ _ => rfl⟩
  have z21 : CZ D b 21 V := ⟨_, _, _, _, _, _, _, a21, fun _ _ _ _ => rfl, fun _ _ => rfl⟩
  have z39 : CZ D b 39 V := ⟨_, _, _, _, _, _, _, a39, fun _ _ _ _ => rfl, fun _ _ => rfl⟩
  have z74 : CZ D b 74 V := ⟨_, _, _, _, _, _, _, a74, fun _ _ _ _ => rfl, fun _ _ => rfl⟩
  refine mw_of (by decide) (by simp [Value.category]) (Nat.le_of_ble_eq_true rfl) ?_
  show AW l D b jX11_dreads (fx_rm 1 0 0) none (fx_MQ D b 0 0 (fx_qi (fun r N9 V9 => r = (-1) ∧ N = N9 ∧ ∀ i, 100 ≤ i → V9 i = V i))) 0 [some (.ref (b + 0)), some (.int p), some (.int n), none] [] N V 0 0
  refine aw_iload_n dX11_dreads_0 rfl ?_
  refine aw_if_lt (tgt := 24) dX11_dreads_1 (by decide) (fun c_1 => ?_) (fun c_1 => ?_)
  · skip
    refine aw_iconst (v := (-1)) dX11_dreads_24 (by decide) ?_
    refine aw_ireti dX11_dreads_25 rfl (Nat.le_of_ble_eq_true rfl) (Nat.le_of_ble_eq_true rfl) ?_
    exact ⟨rfl, rfl, (fr_refl V)⟩
  · skip
    refine aw_iload_n dX11_dreads_4 rfl ?_
    refine aw_bipush (v := 12) dX11_dreads_5 (by decide) ?_
    refine aw_icmp_ge (tgt := 24) dX11_dreads_7 (by decide) (fun c_2 => ?_) (fun c_2 => ?_)
    · skip
      refine aw_iconst (v := (-1)) dX11_dreads_24 (by decide) ?_
      refine aw_ireti dX11_dreads_25 rfl (Nat.le_of_ble_eq_true rfl) (Nat.le_of_ble_eq_true rfl) ?_
      exact ⟨rfl, rfl, (fr_refl V)⟩
    · skip
      refine aw_aload_n dX11_dreads_10 rfl ?_
      refine aw_get dX11_dreads_11 fl_X11_12 m0 (by omega) rfl ?_
      refine aw_iload_n dX11_dreads_14 rfl ?_
      refine aw_iconst (v := 1) dX11_dreads_15 (by decide) ?_
      refine aw_bipush (v := 120) dX11_dreads_16 (by decide) ?_
      refine aw_callVi (J' := jX10_holds) (As := [.int n, .int 1, .int 120]) (st := []) dX11_dreads_18 tb_267 ok_X10_holds ⟨_, m1⟩ (by omega) rfl rfl (c_holds0 l D b N V hN _ _ _ m1 n 1 120 (by decide)) rfl (Nat.le_of_ble_eq_true rfl) ⟨Nat.le_of_ble_eq_true rfl, Nat.le_of_ble_eq_true rfl, Nat.le_of_ble_eq_true rfl, Nat.le_of_ble_eq_true rfl⟩ (fun r_3 N_4 V_5 q_6 => ?_)
      obtain ⟨rfl, rfl, rfl⟩ := q_6
      refine aw_if_ne (tgt := 26) dX11_dreads_21 (by decide) (fun c_7 => ?_) (fun c_7 => ?_)
      · exact absurd rfl c_7
      refine aw_iconst (v := (-1)) dX11_dreads_24 (by decide) ?_
      refine aw_ireti dX11_dreads_25 rfl (Nat.le_of_ble_eq_true rfl) (Nat.le_of_ble_eq_true rfl) ?_
      exact ⟨rfl, rfl, (fr_refl V)⟩

set_option maxHeartbeats 4000000 in
set_option maxRecDepth 100000 in
theorem m_orders (l : Launch) (D : va_G) (b : Nat) (N : Nat) (V : Wd) (hN : 100 ≤ N) (hI : I0 D b V) (n : Int32) : MI l D b 1 jX11_orders [.ref (b + 0), .int n] N V 0 0 (fun r N9 V9 => r = (-1) ∧ N = N9 ∧ ∀ i, 100 ≤ i → V9 i = V i) := by
  obtain ⟨m0, m1, m2, a3, a21, a39, m57, m63, m73, a74, m92, m93, m94, m95, m96, m97, m99⟩ := id hI
  have z3 : CZ D b 3 V := ⟨_, _, _, _, _, _, _, a3, fun _ _ _ _ => rfl, fun _ _ => rfl⟩
  have z21 : CZ D b 21 V := ⟨_, _, _, _, _, _, _, a21, fun _ _ _ _ => rfl, fun _ _ => rfl⟩
  have z39 : CZ D b 39 V := ⟨_, _, _, _, _, _, _, a39, fun _ _ _ _ => rfl, fun _ _ => rfl⟩
  have z74 : CZ D b 74 V := ⟨_, _, _, _, _, _, _, a74, fun _ _ _ _ => rfl, fun _ _ => rfl⟩
  refine mw_of (by decide) (by simp [Value.category]) (Nat.le_of_ble_eq_true rfl) ?_
  show AW l D b jX11_orders (fx_rm 1 0 0) none (fx_MQ D b 0 0 (fx_qi (fun r N9 V9 => r = (-1) ∧ N = N9 ∧ ∀ i, 100 ≤ i → V9 i = V i))) 0 [some (.ref (b + 0)), some (.int n), none] [] N V 0 0
  refine aw_aload_n dX11_orders_0 rfl ?_
  refine aw_get dX11_orders_1 fl_X11_12 m0 (by omega) rfl ?_
  refine aw_iload_n dX11_orders_4 rfl ?_
  refine aw_iconst (v := 1) dX11_orders_5 (by decide) ?_
  refine aw_bipush (v := 120) dX11_orders_6 (by decide) ?_
  refine aw_callVi (J' := jX10_holds) (As := [.int n, .int 1, .int 120]) (st := []) dX11_orders_8 tb_267 ok_X10_holds ⟨_, m1⟩ (by omega) rfl rfl (c_holds0 l D b N V hN _ _ _ m1 n 1 120 (by decide)) rfl (Nat.le_of_ble_eq_true rfl) ⟨Nat.le_of_ble_eq_true rfl, Nat.le_of_ble_eq_true rfl, Nat.le_of_ble_eq_true rfl, Nat.le_of_ble_eq_true rfl⟩ (fun r_1 N_2 V_3 q_4 => ?_)
  obtain ⟨rfl, rfl, rfl⟩ := q_4
  refine aw_if_ne (tgt := 16) dX11_orders_11 (by decide) (fun c_5 => ?_) (fun c_5 => ?_)
  · exact absurd rfl c_5
  refine aw_iconst (v := (-1)) dX11_orders_14 (by decide) ?_
  refine aw_ireti dX11_orders_15 rfl (Nat.le_of_ble_eq_true rfl) (Nat.le_of_ble_eq_true rfl) ?_
  exact ⟨rfl, rfl, (fr_refl V)⟩

set_option maxHeartbeats 4000000 in
set_option maxRecDepth 100000 in
theorem m_nights (l : Launch) (D : va_G) (b : Nat) (N : Nat) (V : Wd) (hN : 100 ≤ N) (hI : I0 D b V) (n : Int32) : MI l D b 5 jX11_nights [.ref (b + 0), .int n] N V 0 0 (fun r N9 V9 => r = (if n < 1 then (-1) else if n ≤ 100 then 0 else (-1)) ∧ N = N9 ∧ ∀ i, 100 ≤ i → V9 i = V i) := by
  obtain ⟨m0, m1, m2, a3, a21, a39, m57, m63, m73, a74, m92, m93, m94, m95, m96, m97, m99⟩ := id hI
  have z3 : CZ D b 3 V := ⟨_, _, _, _, _, _, _, a3, fun _ _ _ _ => rfl, fun _ _ => rfl⟩
  have z21 : CZ D b 21 V := ⟨_, _, _, _, _, _, _, a21, fun _ _ _ _ => rfl, fun _ _ => rfl⟩
  have z39 : CZ D b 39 V := ⟨_, _, _, _, _, _, _, a39, fun _ _ _ _ => rfl, fun _ _ => rfl⟩
  have z74 : CZ D b 74 V := ⟨_, _, _, _, _, _, _, a74, fun _ _ _ _ => rfl, fun _ _ => rfl⟩
  refine mw_of (by decide) (by simp [Value.category]) (Nat.le_of_ble_eq_true rfl) ?_
  show AW l D b jX11_nights (fx_rm 5 0 0) none (fx_MQ D b 0 0 (fx_qi (fun r N9 V9 => r = (if n < 1 then (-1) else if n ≤ 100 then 0 else (-1)) ∧ N = N9 ∧ ∀ i, 100 ≤ i → V9 i = V i))) 0 [some (.ref (b + 0)), some (.int n)] [] N V 0 0
  refine aw_iload_n dX11_nights_0 rfl ?_
  refine aw_iconst (v := 1) dX11_nights_1 (by decide) ?_
  refine aw_icmp_lt (tgt := 11) dX11_nights_2 (by decide) (fun c_1 => ?_) (fun c_1 => ?_)
  · skip
    refine aw_iconst (v := (-1)) dX11_nights_11 (by decide) ?_
    refine aw_ireti dX11_nights_12 rfl (Nat.le_of_ble_eq_true rfl) (Nat.le_of_ble_eq_true rfl) ?_
    exact ⟨by (first | (simp only [c_1, reduceIte]; done) | (simp only [c_1, reduceIte]; done)), rfl, (fr_refl V)⟩
  · skip
    refine aw_iload_n dX11_nights_5 rfl ?_
    refine aw_bipush (v := 100) dX11_nights_6 (by decide) ?_
    refine aw_icmp_le (tgt := 13) dX11_nights_8 (by decide) (fun c_2 => ?_) (fun c_2 => ?_)
    · skip
      refine aw_aload_n dX11_nights_13 rfl ?_
      refine aw_get dX11_nights_14 fl_X11_46 m0 (by omega) rfl ?_
      refine aw_aload_n dX11_nights_17 rfl ?_
      refine aw_get dX11_nights_18 fl_X11_19 m0 (by omega) rfl ?_
      refine aw_aload_n dX11_nights_21 rfl ?_
      refine aw_get dX11_nights_22 fl_X11_36 m0 (by omega) rfl ?_
      refine aw_iload_n dX11_nights_25 rfl ?_
      refine aw_callVv (J' := jX7_pass) (As := [.ref (b + 3), .ref (b + 57), .int n]) (st := []) dX11_nights_26 tb_626 ok_X7_pass ⟨_, m73⟩ (by omega) rfl rfl (by obtain ⟨m, hm, e⟩ := fx_le100 c_1 c_2; rw [e]; exact c_pass l D b 3 N V hN (by omega) z3 z74 _ _ m73 ⟨_, _, _, m57⟩ ⟨_, m63⟩ m hm) rfl (Nat.le_of_ble_eq_true rfl) ⟨Nat.le_of_ble_eq_true rfl, Nat.le_of_ble_eq_true rfl, Nat.le_of_ble_eq_true rfl, Nat.le_of_ble_eq_true rfl⟩ (fun  N_8 V_7 q_9 => ?_)
      obtain ⟨rfl, p_3, p_4, p_5, p_6⟩ := q_9
      refine aw_aload_n dX11_nights_29 rfl ?_
      refine aw_get dX11_nights_30 fl_X11_46 (p_5.trans m0) (by omega) rfl ?_
      refine aw_get dX11_nights_33 fl_X11_118 p_4 (by omega) rfl ?_
      refine aw_ireti dX11_nights_36 rfl (Nat.le_of_ble_eq_true rfl) (Nat.le_of_ble_eq_true rfl) ?_
      exact ⟨by (first | (simp only [c_1, c_2, reduceIte]; done) | (simp only [c_1, c_2, reduceIte]; done)), rfl, (fun i hi => (p_6 i (by omega)).trans ((fr_refl V) i hi))⟩
    · skip
      refine aw_iconst (v := (-1)) dX11_nights_11 (by decide) ?_
      refine aw_ireti dX11_nights_12 rfl (Nat.le_of_ble_eq_true rfl) (Nat.le_of_ble_eq_true rfl) ?_
      exact ⟨by (first | (simp only [c_1, c_2, reduceIte]; done) | (simp only [c_1, c_2, reduceIte]; done)), rfl, (fr_refl V)⟩

set_option maxHeartbeats 4000000 in
set_option maxRecDepth 100000 in
theorem m_canBeTried (l : Launch) (D : va_G) (b : Nat) (N : Nat) (V : Wd) (hN : 100 ≤ N) (hI : I0 D b V) (x : Int32) : MI l D b 2 jX11_canBeTried [.ref (b + 0), .int x] N V 0 0 (fun r N9 V9 => r = cbt x ∧ N = N9 ∧ V = V9) := by
  obtain ⟨m0, m1, m2, a3, a21, a39, m57, m63, m73, a74, m92, m93, m94, m95, m96, m97, m99⟩ := id hI
  have z3 : CZ D b 3 V := ⟨_, _, _, _, _, _, _, a3, fun _ _ _ _ => rfl, fun _ _ => rfl⟩
  have z21 : CZ D b 21 V := ⟨_, _, _, _, _, _, _, a21, fun _ _ _ _ => rfl, fun _ _ => rfl⟩
  have z39 : CZ D b 39 V := ⟨_, _, _, _, _, _, _, a39, fun _ _ _ _ => rfl, fun _ _ => rfl⟩
  have z74 : CZ D b 74 V := ⟨_, _, _, _, _, _, _, a74, fun _ _ _ _ => rfl, fun _ _ => rfl⟩
  refine mw_of (by decide) (by simp [Value.category]) (Nat.le_of_ble_eq_true rfl) ?_
  show AW l D b jX11_canBeTried (fx_rm 2 0 0) none (fx_MQ D b 0 0 (fx_qi (fun r N9 V9 => r = cbt x ∧ N = N9 ∧ V = V9))) 0 [some (.ref (b + 0)), some (.int x)] [] N V 0 0
  refine aw_iload_n dX11_canBeTried_0 rfl ?_
  refine aw_if_lt (tgt := 10) dX11_canBeTried_1 (by decide) (fun c_1 => ?_) (fun c_1 => ?_)
  · skip
    refine aw_iconst (v := 0) dX11_canBeTried_10 (by decide) ?_
    refine aw_zreti dX11_canBeTried_11 rfl (Or.inl rfl) (Nat.le_of_ble_eq_true rfl) (Nat.le_of_ble_eq_true rfl) ?_
    exact ⟨by unfold cbt; rw [if_pos c_1], rfl, rfl⟩
  · skip
    refine aw_iload_n dX11_canBeTried_4 rfl ?_
    refine aw_bipush (v := 66) dX11_canBeTried_5 (by decide) ?_
    refine aw_icmp_le (tgt := 12) dX11_canBeTried_7 (by decide) (fun c_2 => ?_) (fun c_2 => ?_)
    · skip
      refine aw_iload_n dX11_canBeTried_12 rfl ?_
      refine aw_bipush (v := 10) dX11_canBeTried_13 (by decide) ?_
      refine aw_icmp_ge (tgt := 29) dX11_canBeTried_15 (by decide) (fun c_3 => ?_) (fun c_3 => ?_)
      · skip
        refine aw_iload_n dX11_canBeTried_29 rfl ?_
        refine aw_bipush (v := 50) dX11_canBeTried_30 (by decide) ?_
        refine aw_icmp_ge (tgt := 60) dX11_canBeTried_32 (by decide) (fun c_4 => ?_) (fun c_4 => ?_)
        · skip
          refine aw_aload_n dX11_canBeTried_60 rfl ?_
          refine aw_get dX11_canBeTried_61 fl_X11_19 m0 (by omega) rfl ?_
          refine aw_iload_n dX11_canBeTried_64 rfl ?_
          refine aw_bipush (v := 50) dX11_canBeTried_65 (by decide) ?_
          refine aw_isub dX11_canBeTried_67 ?_
          refine aw_callVi (J' := jX0_isDoor) (As := [.int (x - 50)]) (st := []) dX11_canBeTried_68 tb_746 ok_X0_isDoor ⟨_, a3.1⟩ (by omega) rfl rfl (c_isDoor l D b 3 N V (by omega) z3 (x - 50)) rfl (Nat.le_of_ble_eq_true rfl) ⟨Nat.le_of_ble_eq_true rfl, Nat.le_of_ble_eq_true rfl, Nat.le_of_ble_eq_true rfl, Nat.le_of_ble_eq_true rfl⟩ (fun r_5 N_6 V_7 q_8 => ?_)
          obtain ⟨rfl, rfl, rfl⟩ := q_8
          refine aw_zreti dX11_canBeTried_71 rfl (Or.inl rfl) (Nat.le_of_ble_eq_true rfl) (Nat.le_of_ble_eq_true rfl) ?_
          exact ⟨by unfold cbt; first | rw [if_neg c_1, if_neg (fx_not10 c_3)] | rw [if_neg c_1, if_neg (Int32.not_le.mpr c_4)] | rw [if_neg c_1, if_pos (Int32.not_lt.mp c_4)], rfl, rfl⟩
        · skip
          refine aw_aload_n dX11_canBeTried_35 rfl ?_
          refine aw_get dX11_canBeTried_36 fl_X11_19 m0 (by omega) rfl ?_
          refine aw_iload_n dX11_canBeTried_39 rfl ?_
          refine aw_bipush (v := 30) dX11_canBeTried_40 (by decide) ?_
          refine aw_icmp_ge (tgt := 52) dX11_canBeTried_42 (by decide) (fun c_9 => ?_) (fun c_9 => ?_)
          · skip
            refine aw_iload_n dX11_canBeTried_52 rfl ?_
            refine aw_bipush (v := 30) dX11_canBeTried_53 (by decide) ?_
            refine aw_isub dX11_canBeTried_55 ?_
            refine aw_callVi (J' := jX0_isPerson) (As := [.int (x - 30)]) (st := []) dX11_canBeTried_56 tb_745 ok_X0_isPerson ⟨_, a3.1⟩ (by omega) rfl rfl (c_isPerson l D b 3 N V (by omega) z3 (x - 30)) rfl (Nat.le_of_ble_eq_true rfl) ⟨Nat.le_of_ble_eq_true rfl, Nat.le_of_ble_eq_true rfl, Nat.le_of_ble_eq_true rfl, Nat.le_of_ble_eq_true rfl⟩ (fun r_10 N_11 V_12 q_13 => ?_)
            obtain ⟨rfl, rfl, rfl⟩ := q_13
            refine aw_zreti dX11_canBeTried_59 rfl (Or.inl rfl) (Nat.le_of_ble_eq_true rfl) (Nat.le_of_ble_eq_true rfl) ?_
            exact ⟨by unfold cbt; first | rw [if_neg c_1, if_neg (fx_not10 c_3)] | rw [if_neg c_1, if_neg (Int32.not_le.mpr c_9)] | rw [if_neg c_1, if_pos (Int32.not_lt.mp c_9)], rfl, rfl⟩
          · skip
            refine aw_iload_n dX11_canBeTried_45 rfl ?_
            refine aw_bipush (v := 10) dX11_canBeTried_46 (by decide) ?_
            refine aw_isub dX11_canBeTried_48 ?_
            refine aw_goto (tgt := 56) dX11_canBeTried_49 (by decide) ?_
            refine aw_callVi (J' := jX0_isPerson) (As := [.int (x - 10)]) (st := []) dX11_canBeTried_56 tb_745 ok_X0_isPerson ⟨_, a3.1⟩ (by omega) rfl rfl (c_isPerson l D b 3 N V (by omega) z3 (x - 10)) rfl (Nat.le_of_ble_eq_true rfl) ⟨Nat.le_of_ble_eq_true rfl, Nat.le_of_ble_eq_true rfl, Nat.le_of_ble_eq_true rfl, Nat.le_of_ble_eq_true rfl⟩ (fun r_14 N_15 V_16 q_17 => ?_)
            obtain ⟨rfl, rfl, rfl⟩ := q_17
            refine aw_zreti dX11_canBeTried_59 rfl (Or.inl rfl) (Nat.le_of_ble_eq_true rfl) (Nat.le_of_ble_eq_true rfl) ?_
            exact ⟨by unfold cbt; first | rw [if_neg c_1, if_neg (fx_not10 c_3)] | rw [if_neg c_1, if_neg (Int32.not_le.mpr c_9)] | rw [if_neg c_1, if_pos (Int32.not_lt.mp c_9)], rfl, rfl⟩
      · skip
        refine aw_iload_n dX11_canBeTried_18 rfl ?_
        refine aw_iconst (v := 1) dX11_canBeTried_19 (by decide) ?_
        refine aw_icmp_gt (tgt := 27) dX11_canBeTried_20 (by decide) (fun c_18 => ?_) (fun c_18 => ?_)
        · skip
          refine aw_iconst (v := 0) dX11_canBeTried_27 (by decide) ?_
          refine aw_zreti dX11_canBeTried_28 rfl (Or.inl rfl) (Nat.le_of_ble_eq_true rfl) (Nat.le_of_ble_eq_true rfl) ?_
          exact ⟨by unfold cbt; first | rw [if_neg c_1, if_neg (fx_not10 c_3)] | rw [if_neg c_1, if_neg (Int32.not_le.mpr c_18)] | rw [if_neg c_1, if_pos (Int32.not_lt.mp c_18)], rfl, rfl⟩
        · skip
          refine aw_iconst (v := 1) dX11_canBeTried_23 (by decide) ?_
          refine aw_goto (tgt := 28) dX11_canBeTried_24 (by decide) ?_
          refine aw_zreti dX11_canBeTried_28 rfl (Or.inr rfl) (Nat.le_of_ble_eq_true rfl) (Nat.le_of_ble_eq_true rfl) ?_
          exact ⟨by unfold cbt; first | rw [if_neg c_1, if_neg (fx_not10 c_3)] | rw [if_neg c_1, if_neg (Int32.not_le.mpr c_18)] | rw [if_neg c_1, if_pos (Int32.not_lt.mp c_18)], rfl, rfl⟩
    · skip
      refine aw_iconst (v := 0) dX11_canBeTried_10 (by decide) ?_
      refine aw_zreti dX11_canBeTried_11 rfl (Or.inl rfl) (Nat.le_of_ble_eq_true rfl) (Nat.le_of_ble_eq_true rfl) ?_
      exact ⟨by unfold cbt; rw [if_neg c_1, if_neg (fx_not66 c_2)], rfl, rfl⟩

set_option maxHeartbeats 4000000 in
set_option maxRecDepth 100000 in
theorem m_tried (l : Launch) (D : va_G) (b : Nat) (N : Nat) (V : Wd) (hN : 100 ≤ N) (hI : I0 D b V) (n : Int32) (x : Int32) : MI l D b 5 jX11_tried [.ref (b + 0), .int n, .int x] N V 0 0 (fun r N9 V9 => r = (if n < 1 then (-1) else if 100 < n then (-1) else if cbt x = 0 then (-1) else 0) ∧ N = N9 ∧ ∀ i, 100 ≤ i → V9 i = V i) := by
  obtain ⟨m0, m1, m2, a3, a21, a39, m57, m63, m73, a74, m92, m93, m94, m95, m96, m97, m99⟩ := id hI
  have z3 : CZ D b 3 V := ⟨_, _, _, _, _, _, _, a3, fun _ _ _ _ => rfl, fun _ _ => rfl⟩
  have z21 : CZ D b 21 V := ⟨_, _, _, _, _, _, _, a21, fun _ _ _ _ => rfl, fun _ _ => rfl⟩
  have z39 : CZ D b 39 V := ⟨_, _, _, _, _, _, _, a39, fun _ _ _ _ => rfl, fun _ _ => rfl⟩
  have z74 : CZ D b 74 V := ⟨_, _, _, _, _, _, _, a74, fun _ _ _ _ => rfl, fun _ _ => rfl⟩
  refine mw_of (by decide) (by simp [Value.category]) (Nat.le_of_ble_eq_true rfl) ?_
  show AW l D b jX11_tried (fx_rm 5 0 0) none (fx_MQ D b 0 0 (fx_qi (fun r N9 V9 => r = (if n < 1 then (-1) else if 100 < n then (-1) else if cbt x = 0 then (-1) else 0) ∧ N = N9 ∧ ∀ i, 100 ≤ i → V9 i = V i))) 0 [some (.ref (b + 0)), some (.int n), some (.int x)] [] N V 0 0
  refine aw_iload_n dX11_tried_0 rfl ?_
  refine aw_iconst (v := 1) dX11_tried_1 (by decide) ?_
  refine aw_icmp_lt (tgt := 19) dX11_tried_2 (by decide) (fun c_1 => ?_) (fun c_1 => ?_)
  · skip
    refine aw_iconst (v := (-1)) dX11_tried_19 (by decide) ?_
    refine aw_ireti dX11_tried_20 rfl (Nat.le_of_ble_eq_true rfl) (Nat.le_of_ble_eq_true rfl) ?_
    exact ⟨by simp only [c_1, reduceIte], rfl, (fr_refl V)⟩
  · skip
    refine aw_iload_n dX11_tried_5 rfl ?_
    refine aw_bipush (v := 100) dX11_tried_6 (by decide) ?_
    refine aw_icmp_gt (tgt := 19) dX11_tried_8 (by decide) (fun c_2 => ?_) (fun c_2 => ?_)
    · skip
      refine aw_iconst (v := (-1)) dX11_tried_19 (by decide) ?_
      refine aw_ireti dX11_tried_20 rfl (Nat.le_of_ble_eq_true rfl) (Nat.le_of_ble_eq_true rfl) ?_
      exact ⟨by simp only [c_1, c_2, reduceIte], rfl, (fr_refl V)⟩
    · skip
      refine aw_aload_n dX11_tried_11 rfl ?_
      refine aw_iload_n dX11_tried_12 rfl ?_
      refine aw_callVi (J' := jX11_canBeTried) (As := [.int x]) (st := []) dX11_tried_13 tb_741 ok_X11_canBeTried ⟨_, m0⟩ (by omega) rfl rfl (m_canBeTried l D b N V hN hI x) rfl (Nat.le_of_ble_eq_true rfl) ⟨Nat.le_of_ble_eq_true rfl, Nat.le_of_ble_eq_true rfl, Nat.le_of_ble_eq_true rfl, Nat.le_of_ble_eq_true rfl⟩ (fun r_3 N_4 V_5 q_6 => ?_)
      obtain ⟨rfl, rfl, rfl⟩ := q_6
      refine aw_if_ne (tgt := 21) dX11_tried_16 (by decide) (fun c_7 => ?_) (fun c_7 => ?_)
      · skip
        refine aw_aload_n dX11_tried_21 rfl ?_
        refine aw_get dX11_tried_22 fl_X11_23 m0 (by omega) rfl ?_
        refine aw_aload_n dX11_tried_25 rfl ?_
        refine aw_get dX11_tried_26 fl_X11_19 m0 (by omega) rfl ?_
        refine aw_callVv (J' := jX0_copyFrom) (As := [.ref (b + 3)]) (st := []) dX11_tried_29 tb_581 ok_X0_copyFrom (CZ.obj z21) (by omega) rfl rfl (c_copyFrom l D b 21 3 N V (by omega) (by omega) (by omega) z21 z3) rfl (Nat.le_of_ble_eq_true rfl) ⟨Nat.le_of_ble_eq_true rfl, Nat.le_of_ble_eq_true rfl, Nat.le_of_ble_eq_true rfl, Nat.le_of_ble_eq_true rfl⟩ (fun  N_11 V_10 q_12 => ?_)
        obtain ⟨rfl, hz_8, fr_9⟩ := q_12
        refine aw_aload_n dX11_tried_32 rfl ?_
        refine aw_get dX11_tried_33 fl_X11_46 ((fr_9 _ (by omega)).trans m0) (by omega) rfl ?_
        refine aw_aload_n dX11_tried_36 rfl ?_
        refine aw_get dX11_tried_37 fl_X11_23 ((fr_9 _ (by omega)).trans m0) (by omega) rfl ?_
        refine aw_aload_n dX11_tried_40 rfl ?_
        refine aw_get dX11_tried_41 fl_X11_36 ((fr_9 _ (by omega)).trans m0) (by omega) rfl ?_
        refine aw_iload_n dX11_tried_44 rfl ?_
        refine aw_callVv (J' := jX7_pass) (As := [.ref (b + 21), .ref (b + 57), .int n]) (st := []) dX11_tried_45 tb_626 ok_X7_pass ⟨_, ((fr_9 _ (by omega)).trans m73)⟩ (by omega) rfl rfl (by obtain ⟨m, hm, e⟩ := fx_le100 c_1 (Int32.not_lt.mp c_2); rw [e]; exact c_pass l D b 21 N V_10 hN (by omega) hz_8 (CZ.frame z74 (fun i q1 q2 => fr_9 i (by omega))) _ _ ((fr_9 _ (by omega)).trans m73) ⟨_, _, _, ((fr_9 _ (by omega)).trans m57)⟩ ⟨_, ((fr_9 _ (by omega)).trans m63)⟩ m hm) rfl (Nat.le_of_ble_eq_true rfl) ⟨Nat.le_of_ble_eq_true rfl, Nat.le_of_ble_eq_true rfl, Nat.le_of_ble_eq_true rfl, Nat.le_of_ble_eq_true rfl⟩ (fun  N_18 V_17 q_19 => ?_)
        obtain ⟨rfl, p_13, p_14, p_15, p_16⟩ := q_19
        refine aw_iload_n dX11_tried_48 rfl ?_
        refine aw_if_ne (tgt := 60) dX11_tried_49 (by decide) (fun c_20 => ?_) (fun c_20 => ?_)
        · skip
          refine aw_iload_n dX11_tried_60 rfl ?_
          refine aw_iconst (v := 1) dX11_tried_61 (by decide) ?_
          refine aw_icmp_ne (tgt := 73) dX11_tried_62 (by decide) (fun c_21 => ?_) (fun c_21 => ?_)
          · exact (fx_01 (cbt_ne c_7).1 (cbt_ne c_7).2 c_20 c_21).elim
          refine aw_aload_n dX11_tried_65 rfl ?_
          refine aw_get dX11_tried_66 fl_X11_46 (p_15.trans ((fr_9 _ (by omega)).trans m0)) (by omega) rfl ?_
          refine aw_get dX11_tried_69 fl_X11_125 p_14 (by omega) rfl ?_
          refine aw_ireti dX11_tried_72 rfl (Nat.le_of_ble_eq_true rfl) (Nat.le_of_ble_eq_true rfl) ?_
          exact ⟨by simp only [c_1, c_2, c_7, reduceIte], rfl, (fun i hi => (p_16 i (by omega)).trans ((fun i hi => (fr_9 i (by omega)).trans ((fr_refl V) i hi)) i hi))⟩
        · skip
          refine aw_aload_n dX11_tried_52 rfl ?_
          refine aw_get dX11_tried_53 fl_X11_46 (p_15.trans ((fr_9 _ (by omega)).trans m0)) (by omega) rfl ?_
          refine aw_get dX11_tried_56 fl_X11_118 p_14 (by omega) rfl ?_
          refine aw_ireti dX11_tried_59 rfl (Nat.le_of_ble_eq_true rfl) (Nat.le_of_ble_eq_true rfl) ?_
          exact ⟨by simp only [c_1, c_2, c_7, reduceIte], rfl, (fun i hi => (p_16 i (by omega)).trans ((fun i hi => (fr_9 i (by omega)).trans ((fr_refl V) i hi)) i hi))⟩
      · skip
        refine aw_iconst (v := (-1)) dX11_tried_19 (by decide) ?_
        refine aw_ireti dX11_tried_20 rfl (Nat.le_of_ble_eq_true rfl) (Nat.le_of_ble_eq_true rfl) ?_
        exact ⟨by simp only [c_1, c_2, c_7, reduceIte], rfl, (fr_refl V)⟩

set_option maxHeartbeats 4000000 in
set_option maxRecDepth 100000 in
theorem m_personIs (l : Launch) (D : va_G) (b : Nat) (N : Nat) (V : Wd) (hN : 100 ≤ N) (hI : I0 D b V) (p : Int32) (x : Int32) : MI l D b 2 jX11_personIs [.ref (b + 0), .int p, .int x] N V 0 0 (fun r N9 V9 => r = (-1) ∧ N = N9 ∧ ∀ i, 100 ≤ i → V9 i = V i) := by
  obtain ⟨m0, m1, m2, a3, a21, a39, m57, m63, m73, a74, m92, m93, m94, m95, m96, m97, m99⟩ := id hI
  have z3 : CZ D b 3 V := ⟨_, _, _, _, _, _, _, a3, fun _ _ _ _ => rfl, fun _ _ => rfl⟩
  have z21 : CZ D b 21 V := ⟨_, _, _, _, _, _, _, a21, fun _ _ _ _ => rfl, fun _ _ => rfl⟩
  have z39 : CZ D b 39 V := ⟨_, _, _, _, _, _, _, a39, fun _ _ _ _ => rfl, fun _ _ => rfl⟩
  have z74 : CZ D b 74 V := ⟨_, _, _, _, _, _, _, a74, fun _ _ _ _ => rfl, fun _ _ => rfl⟩
  refine mw_of (by decide) (by simp [Value.category]) (Nat.le_of_ble_eq_true rfl) ?_
  show AW l D b jX11_personIs (fx_rm 2 0 0) none (fx_MQ D b 0 0 (fx_qi (fun r N9 V9 => r = (-1) ∧ N = N9 ∧ ∀ i, 100 ≤ i → V9 i = V i))) 0 [some (.ref (b + 0)), some (.int p), some (.int x)] [] N V 0 0
  refine aw_aload_n dX11_personIs_0 rfl ?_
  refine aw_get dX11_personIs_1 fl_X11_19 m0 (by omega) rfl ?_
  refine aw_iload_n dX11_personIs_4 rfl ?_
  refine aw_callVi (J' := jX0_isPerson) (As := [.int p]) (st := []) dX11_personIs_5 tb_745 ok_X0_isPerson ⟨_, a3.1⟩ (by omega) rfl rfl (c_isPerson l D b 3 N V (by omega) z3 p) rfl (Nat.le_of_ble_eq_true rfl) ⟨Nat.le_of_ble_eq_true rfl, Nat.le_of_ble_eq_true rfl, Nat.le_of_ble_eq_true rfl, Nat.le_of_ble_eq_true rfl⟩ (fun r_1 N_2 V_3 q_4 => ?_)
  obtain ⟨rfl, rfl, rfl⟩ := q_4
  refine aw_if_ne (tgt := 13) dX11_personIs_8 (by decide) (fun c_5 => ?_) (fun c_5 => ?_)
  · exact absurd rfl c_5
  refine aw_iconst (v := (-1)) dX11_personIs_11 (by decide) ?_
  refine aw_ireti dX11_personIs_12 rfl (Nat.le_of_ble_eq_true rfl) (Nat.le_of_ble_eq_true rfl) ?_
  exact ⟨rfl, rfl, (fr_refl V)⟩

set_option maxHeartbeats 4000000 in
set_option maxRecDepth 100000 in
theorem m_doorIs (l : Launch) (D : va_G) (b : Nat) (N : Nat) (V : Wd) (hN : 100 ≤ N) (hI : I0 D b V) (d : Int32) (x : Int32) : MI l D b 2 jX11_doorIs [.ref (b + 0), .int d, .int x] N V 0 0 (fun r N9 V9 => r = (-1) ∧ N = N9 ∧ ∀ i, 100 ≤ i → V9 i = V i) := by
  obtain ⟨m0, m1, m2, a3, a21, a39, m57, m63, m73, a74, m92, m93, m94, m95, m96, m97, m99⟩ := id hI
  have z3 : CZ D b 3 V := ⟨_, _, _, _, _, _, _, a3, fun _ _ _ _ => rfl, fun _ _ => rfl⟩
  have z21 : CZ D b 21 V := ⟨_, _, _, _, _, _, _, a21, fun _ _ _ _ => rfl, fun _ _ => rfl⟩
  have z39 : CZ D b 39 V := ⟨_, _, _, _, _, _, _, a39, fun _ _ _ _ => rfl, fun _ _ => rfl⟩
  have z74 : CZ D b 74 V := ⟨_, _, _, _, _, _, _, a74, fun _ _ _ _ => rfl, fun _ _ => rfl⟩
  refine mw_of (by decide) (by simp [Value.category]) (Nat.le_of_ble_eq_true rfl) ?_
  show AW l D b jX11_doorIs (fx_rm 2 0 0) none (fx_MQ D b 0 0 (fx_qi (fun r N9 V9 => r = (-1) ∧ N = N9 ∧ ∀ i, 100 ≤ i → V9 i = V i))) 0 [some (.ref (b + 0)), some (.int d), some (.int x)] [] N V 0 0
  refine aw_aload_n dX11_doorIs_0 rfl ?_
  refine aw_get dX11_doorIs_1 fl_X11_19 m0 (by omega) rfl ?_
  refine aw_iload_n dX11_doorIs_4 rfl ?_
  refine aw_callVi (J' := jX0_isDoor) (As := [.int d]) (st := []) dX11_doorIs_5 tb_746 ok_X0_isDoor ⟨_, a3.1⟩ (by omega) rfl rfl (c_isDoor l D b 3 N V (by omega) z3 d) rfl (Nat.le_of_ble_eq_true rfl) ⟨Nat.le_of_ble_eq_true rfl, Nat.le_of_ble_eq_true rfl, Nat.le_of_ble_eq_true rfl, Nat.le_of_ble_eq_true rfl⟩ (fun r_1 N_2 V_3 q_4 => ?_)
  obtain ⟨rfl, rfl, rfl⟩ := q_4
  refine aw_if_ne (tgt := 13) dX11_doorIs_8 (by decide) (fun c_5 => ?_) (fun c_5 => ?_)
  · exact absurd rfl c_5
  refine aw_iconst (v := (-1)) dX11_doorIs_11 (by decide) ?_
  refine aw_ireti dX11_doorIs_12 rfl (Nat.le_of_ble_eq_true rfl) (Nat.le_of_ble_eq_true rfl) ?_
  exact ⟨rfl, rfl, (fr_refl V)⟩

set_option maxHeartbeats 4000000 in
set_option maxRecDepth 100000 in
theorem m_taught (l : Launch) (D : va_G) (b : Nat) (N : Nat) (V : Wd) (hN : 100 ≤ N) (hI : I0 D b V) (p : Int32) (d : Int32) : MI l D b 2 jX11_taught [.ref (b + 0), .int p, .int d] N V 0 0 (fun r N9 V9 => r = (-1) ∧ N = N9 ∧ ∀ i, 100 ≤ i → V9 i = V i) := by
  obtain ⟨m0, m1, m2, a3, a21, a39, m57, m63, m73, a74, m92, m93, m94, m95, m96, m97, m99⟩ := id hI
  have z3 : CZ D b 3 V := ⟨_, _, _, _, _, _, _, a3, fun _ _ _ _ => rfl, fun _ _ => rfl⟩
  have z21 : CZ D b 21 V := ⟨_, _, _, _, _, _, _, a21, fun _ _ _ _ => rfl, fun _ _ => rfl⟩
  have z39 : CZ D b 39 V := ⟨_, _, _, _, _, _, _, a39, fun _ _ _ _ => rfl, fun _ _ => rfl⟩
  have z74 : CZ D b 74 V := ⟨_, _, _, _, _, _, _, a74, fun _ _ _ _ => rfl, fun _ _ => rfl⟩
  refine mw_of (by decide) (by simp [Value.category]) (Nat.le_of_ble_eq_true rfl) ?_
  show AW l D b jX11_taught (fx_rm 2 0 0) none (fx_MQ D b 0 0 (fx_qi (fun r N9 V9 => r = (-1) ∧ N = N9 ∧ ∀ i, 100 ≤ i → V9 i = V i))) 0 [some (.ref (b + 0)), some (.int p), some (.int d)] [] N V 0 0
  refine aw_aload_n dX11_taught_0 rfl ?_
  refine aw_get dX11_taught_1 fl_X11_19 m0 (by omega) rfl ?_
  refine aw_iload_n dX11_taught_4 rfl ?_
  refine aw_callVi (J' := jX0_isPerson) (As := [.int p]) (st := []) dX11_taught_5 tb_745 ok_X0_isPerson ⟨_, a3.1⟩ (by omega) rfl rfl (c_isPerson l D b 3 N V (by omega) z3 p) rfl (Nat.le_of_ble_eq_true rfl) ⟨Nat.le_of_ble_eq_true rfl, Nat.le_of_ble_eq_true rfl, Nat.le_of_ble_eq_true rfl, Nat.le_of_ble_eq_true rfl⟩ (fun r_1 N_2 V_3 q_4 => ?_)
  obtain ⟨rfl, rfl, rfl⟩ := q_4
  refine aw_if_eq (tgt := 22) dX11_taught_8 (by decide) (fun c_5 => ?_) (fun c_5 => ?_)
  rotate_left
  · exact absurd (by decide) c_5
  refine aw_iconst (v := (-1)) dX11_taught_22 (by decide) ?_
  refine aw_ireti dX11_taught_23 rfl (Nat.le_of_ble_eq_true rfl) (Nat.le_of_ble_eq_true rfl) ?_
  exact ⟨rfl, rfl, (fr_refl V)⟩

set_option maxHeartbeats 4000000 in
set_option maxRecDepth 100000 in
theorem m_crew (l : Launch) (D : va_G) (b : Nat) (N : Nat) (V : Wd) (hN : 100 ≤ N) (hI : I0 D b V) (x : Int32) : MI l D b 5 jX11_crew [.ref (b + 0), .int x] N V 0 0 (fun r N9 V9 => r = (if x < 0 then (-1) else if x ≤ 1 then 0 else (-1)) ∧ N = N9 ∧ ∀ i, 100 ≤ i → V9 i = V i) := by
  obtain ⟨m0, m1, m2, a3, a21, a39, m57, m63, m73, a74, m92, m93, m94, m95, m96, m97, m99⟩ := id hI
  have z3 : CZ D b 3 V := ⟨_, _, _, _, _, _, _, a3, fun _ _ _ _ => rfl, fun _ _ => rfl⟩
  have z21 : CZ D b 21 V := ⟨_, _, _, _, _, _, _, a21, fun _ _ _ _ => rfl, fun _ _ => rfl⟩
  have z39 : CZ D b 39 V := ⟨_, _, _, _, _, _, _, a39, fun _ _ _ _ => rfl, fun _ _ => rfl⟩
  have z74 : CZ D b 74 V := ⟨_, _, _, _, _, _, _, a74, fun _ _ _ _ => rfl, fun _ _ => rfl⟩
  refine mw_of (by decide) (by simp [Value.category]) (Nat.le_of_ble_eq_true rfl) ?_
  show AW l D b jX11_crew (fx_rm 5 0 0) none (fx_MQ D b 0 0 (fx_qi (fun r N9 V9 => r = (if x < 0 then (-1) else if x ≤ 1 then 0 else (-1)) ∧ N = N9 ∧ ∀ i, 100 ≤ i → V9 i = V i))) 0 [some (.ref (b + 0)), some (.int x), none] [] N V 0 0
  refine aw_iload_n dX11_crew_0 rfl ?_
  refine aw_if_lt (tgt := 9) dX11_crew_1 (by decide) (fun c_1 => ?_) (fun c_1 => ?_)
  · skip
    refine aw_iconst (v := (-1)) dX11_crew_9 (by decide) ?_
    refine aw_ireti dX11_crew_10 rfl (Nat.le_of_ble_eq_true rfl) (Nat.le_of_ble_eq_true rfl) ?_
    exact ⟨by (first | (simp only [c_1, reduceIte]; done) | (simp only [c_1, reduceIte]; done)), rfl, (fr_refl V)⟩
  · skip
    refine aw_iload_n dX11_crew_4 rfl ?_
    refine aw_iconst (v := 1) dX11_crew_5 (by decide) ?_
    refine aw_icmp_le (tgt := 11) dX11_crew_6 (by decide) (fun c_2 => ?_) (fun c_2 => ?_)
    · skip
      refine aw_aload_n dX11_crew_11 rfl ?_
      refine aw_get dX11_crew_12 fl_X11_53 m0 (by omega) rfl ?_
      refine aw_aload_n dX11_crew_15 rfl ?_
      refine aw_get dX11_crew_16 fl_X11_19 m0 (by omega) rfl ?_
      refine aw_callVi (J' := jX3_fewestForAllDoors) (As := [.ref (b + 3)]) (st := []) dX11_crew_19 tb_794 ok_X3_fewestForAllDoors ⟨_, m92⟩ (by omega) rfl rfl (c_fewestForAllDoors l D b 3 N V hN (by omega) z3 m92 ⟨_, m93, fun _ _ => rfl⟩) rfl (Nat.le_of_ble_eq_true rfl) ⟨Nat.le_of_ble_eq_true rfl, Nat.le_of_ble_eq_true rfl, Nat.le_of_ble_eq_true rfl, Nat.le_of_ble_eq_true rfl⟩ (fun r_4 N_5 V_3 q_6 => ?_)
      obtain ⟨rfl, rfl, fr1⟩ := q_6
      refine aw_istore_n (ls' := [some (.ref (b + 0)), some (.int x), some (.int 0)]) dX11_crew_22 (Nat.le_of_ble_eq_true rfl) rfl ?_
      refine aw_iload_n dX11_crew_23 rfl ?_
      refine aw_if_ge (tgt := 30) dX11_crew_24 (by decide) (fun c_7 => ?_) (fun c_7 => ?_)
      rotate_left
      · exact absurd (by decide) c_7
      refine aw_iload_n dX11_crew_30 rfl ?_
      refine aw_if_ne (tgt := 41) dX11_crew_31 (by decide) (fun c_8 => ?_) (fun c_8 => ?_)
      · skip
        refine aw_iload_n dX11_crew_41 rfl ?_
        refine aw_ireti dX11_crew_42 rfl (Nat.le_of_ble_eq_true rfl) (Nat.le_of_ble_eq_true rfl) ?_
        exact ⟨by (first | (simp only [c_1, c_2, c_7, c_8, reduceIte]; done) | (simp only [c_1, c_2, c_7, reduceIte]; done)), rfl, (fun i hi => (fr1 i (by omega)).trans ((fr_refl V) i hi))⟩
      · skip
        refine aw_iload_n dX11_crew_34 rfl ?_
        refine aw_callSi (J' := jJ6_bitCount_0f7a4) (As := [.int 0]) (st := []) dX11_crew_35 tb_805 ok_J6_bitCount_0f7a4 rfl (c_bitCount l D b N V_3 0) rfl (Nat.le_of_ble_eq_true rfl) ⟨Nat.le_of_ble_eq_true rfl, Nat.le_of_ble_eq_true rfl, Nat.le_of_ble_eq_true rfl, Nat.le_of_ble_eq_true rfl⟩ (fun r_11 N_12 V_13 q_14 => ?_)
        obtain ⟨⟨hb_9, z_10⟩, rfl, rfl⟩ := q_14
        refine aw_goto (tgt := 42) dX11_crew_38 (by decide) ?_
        refine aw_ireti dX11_crew_42 rfl (Nat.le_of_ble_eq_true rfl) (Nat.le_of_ble_eq_true rfl) ?_
        exact ⟨by rw [hb_9 rfl]; simp only [c_1, c_2, reduceIte], rfl, (fun i hi => (fr1 i (by omega)).trans ((fr_refl V) i hi))⟩
    · skip
      refine aw_iconst (v := (-1)) dX11_crew_9 (by decide) ?_
      refine aw_ireti dX11_crew_10 rfl (Nat.le_of_ble_eq_true rfl) (Nat.le_of_ble_eq_true rfl) ?_
      exact ⟨by (first | (simp only [c_1, c_2, reduceIte]; done) | (simp only [c_1, c_2, reduceIte]; done)), rfl, (fr_refl V)⟩

set_option maxHeartbeats 4000000 in
set_option maxRecDepth 100000 in
theorem m_lodgings (l : Launch) (D : va_G) (b : Nat) (N : Nat) (V : Wd) (hN : 100 ≤ N) (hI : I0 D b V)  : MI l D b 3 jX11_lodgings [.ref (b + 0)] N V 0 0 (fun r N9 V9 => r = 0 ∧ N = N9 ∧ ∀ i, 100 ≤ i → V9 i = V i) := by
  obtain ⟨m0, m1, m2, a3, a21, a39, m57, m63, m73, a74, m92, m93, m94, m95, m96, m97, m99⟩ := id hI
  have z3 : CZ D b 3 V := ⟨_, _, _, _, _, _, _, a3, fun _ _ _ _ => rfl, fun _ _ => rfl⟩
  have z21 : CZ D b 21 V := ⟨_, _, _, _, _, _, _, a21, fun _ _ _ _ => rfl, fun _ _ => rfl⟩
  have z39 : CZ D b 39 V := ⟨_, _, _, _, _, _, _, a39, fun _ _ _ _ => rfl, fun _ _ => rfl⟩
  have z74 : CZ D b 74 V := ⟨_, _, _, _, _, _, _, a74, fun _ _ _ _ => rfl, fun _ _ => rfl⟩
  refine mw_of (by decide) (by simp [Value.category]) (Nat.le_of_ble_eq_true rfl) ?_
  show AW l D b jX11_lodgings (fx_rm 3 0 0) none (fx_MQ D b 0 0 (fx_qi (fun r N9 V9 => r = 0 ∧ N = N9 ∧ ∀ i, 100 ≤ i → V9 i = V i))) 0 [some (.ref (b + 0))] [] N V 0 0
  refine aw_aload_n dX11_lodgings_0 rfl ?_
  refine aw_get dX11_lodgings_1 fl_X11_19 m0 (by omega) rfl ?_
  refine aw_callSi (J' := jX3_mostLet) (As := [.ref (b + 3)]) (st := []) dX11_lodgings_4 tb_810 ok_X3_mostLet rfl (c_mostLet l D b 3 N V (by omega) z3) rfl (Nat.le_of_ble_eq_true rfl) ⟨Nat.le_of_ble_eq_true rfl, Nat.le_of_ble_eq_true rfl, Nat.le_of_ble_eq_true rfl, Nat.le_of_ble_eq_true rfl⟩ (fun r_1 N_2 V_3 q_4 => ?_)
  obtain ⟨rfl, rfl, rfl⟩ := q_4
  refine aw_ireti dX11_lodgings_7 rfl (Nat.le_of_ble_eq_true rfl) (Nat.le_of_ble_eq_true rfl) ?_
  exact ⟨rfl, rfl, (fr_refl V)⟩

set_option maxHeartbeats 4000000 in
set_option maxRecDepth 100000 in
theorem m_couples (l : Launch) (D : va_G) (b : Nat) (N : Nat) (V : Wd) (hN : 100 ≤ N) (hI : I0 D b V) (m : Int32) : MI l D b 4 jX11_couples [.ref (b + 0), .int m] N V 0 0 (fun r N9 V9 => r = (if m < 1 then (-1) else if m ≤ 99 then 0 else (-1)) ∧ N = N9 ∧ ∀ i, 100 ≤ i → V9 i = V i) := by
  obtain ⟨m0, m1, m2, a3, a21, a39, m57, m63, m73, a74, m92, m93, m94, m95, m96, m97, m99⟩ := id hI
  have z3 : CZ D b 3 V := ⟨_, _, _, _, _, _, _, a3, fun _ _ _ _ => rfl, fun _ _ => rfl⟩
  have z21 : CZ D b 21 V := ⟨_, _, _, _, _, _, _, a21, fun _ _ _ _ => rfl, fun _ _ => rfl⟩
  have z39 : CZ D b 39 V := ⟨_, _, _, _, _, _, _, a39, fun _ _ _ _ => rfl, fun _ _ => rfl⟩
  have z74 : CZ D b 74 V := ⟨_, _, _, _, _, _, _, a74, fun _ _ _ _ => rfl, fun _ _ => rfl⟩
  refine mw_of (by decide) (by simp [Value.category]) (Nat.le_of_ble_eq_true rfl) ?_
  show AW l D b jX11_couples (fx_rm 4 0 0) none (fx_MQ D b 0 0 (fx_qi (fun r N9 V9 => r = (if m < 1 then (-1) else if m ≤ 99 then 0 else (-1)) ∧ N = N9 ∧ ∀ i, 100 ≤ i → V9 i = V i))) 0 [some (.ref (b + 0)), some (.int m)] [] N V 0 0
  refine aw_iload_n dX11_couples_0 rfl ?_
  refine aw_iconst (v := 1) dX11_couples_1 (by decide) ?_
  refine aw_icmp_lt (tgt := 11) dX11_couples_2 (by decide) (fun c_1 => ?_) (fun c_1 => ?_)
  · skip
    refine aw_iconst (v := (-1)) dX11_couples_11 (by decide) ?_
    refine aw_ireti dX11_couples_12 rfl (Nat.le_of_ble_eq_true rfl) (Nat.le_of_ble_eq_true rfl) ?_
    exact ⟨by (first | (simp only [c_1, reduceIte]; done) | (simp only [c_1, reduceIte]; done)), rfl, (fr_refl V)⟩
  · skip
    refine aw_iload_n dX11_couples_5 rfl ?_
    refine aw_bipush (v := 99) dX11_couples_6 (by decide) ?_
    refine aw_icmp_le (tgt := 13) dX11_couples_8 (by decide) (fun c_2 => ?_) (fun c_2 => ?_)
    · skip
      refine aw_aload_n dX11_couples_13 rfl ?_
      refine aw_get dX11_couples_14 fl_X11_60 m0 (by omega) rfl ?_
      refine aw_aload_n dX11_couples_17 rfl ?_
      refine aw_get dX11_couples_18 fl_X11_19 m0 (by omega) rfl ?_
      refine aw_iload_n dX11_couples_21 rfl ?_
      refine aw_callVi (J' := jX1_mostCouples) (As := [.ref (b + 3), .int m]) (st := []) dX11_couples_22 tb_818 ok_X1_mostCouples ⟨_, m94⟩ (by omega) rfl rfl (c_mostCouples l D b 3 N V hN (by omega) z3 m94 ⟨_, m95, fun _ _ => rfl⟩ ⟨_, m96, fun _ _ => rfl⟩ m (fx_n0 c_1)) rfl (Nat.le_of_ble_eq_true rfl) ⟨Nat.le_of_ble_eq_true rfl, Nat.le_of_ble_eq_true rfl, Nat.le_of_ble_eq_true rfl, Nat.le_of_ble_eq_true rfl⟩ (fun r_4 N_5 V_3 q_6 => ?_)
      obtain ⟨rfl, rfl, fr1⟩ := q_6
      refine aw_ireti dX11_couples_25 rfl (Nat.le_of_ble_eq_true rfl) (Nat.le_of_ble_eq_true rfl) ?_
      exact ⟨by (first | (simp only [c_1, c_2, reduceIte]; done) | (simp only [c_1, c_2, reduceIte]; done)), rfl, (fun i hi => (fr1 i (by omega)).trans ((fr_refl V) i hi))⟩
    · skip
      refine aw_iconst (v := (-1)) dX11_couples_11 (by decide) ?_
      refine aw_ireti dX11_couples_12 rfl (Nat.le_of_ble_eq_true rfl) (Nat.le_of_ble_eq_true rfl) ?_
      exact ⟨by (first | (simp only [c_1, c_2, reduceIte]; done) | (simp only [c_1, c_2, reduceIte]; done)), rfl, (fr_refl V)⟩

set_option maxHeartbeats 4000000 in
set_option maxRecDepth 100000 in
theorem m_fashion (l : Launch) (D : va_G) (b : Nat) (N : Nat) (V : Wd) (hN : 100 ≤ N) (hI : I0 D b V) (f : Int32) (m : Int32) (x : Int32) : MI l D b 4 jX11_fashion [.ref (b + 0), .int f, .int m, .int x] N V 0 0 (fun r N9 V9 => r = (if f < 0 then (-1) else if 16 ≤ f then (-1) else if m < 1 then (-1) else if 12 ≤ m then (-1) else if x < 0 then (-1) else if x ≤ 1 then 0 else (-1)) ∧ N = N9 ∧ ∀ i, 100 ≤ i → V9 i = V i) := by
  obtain ⟨m0, m1, m2, a3, a21, a39, m57, m63, m73, a74, m92, m93, m94, m95, m96, m97, m99⟩ := id hI
  have z3 : CZ D b 3 V := ⟨_, _, _, _, _, _, _, a3, fun _ _ _ _ => rfl, fun _ _ => rfl⟩
  have z21 : CZ D b 21 V := ⟨_, _, _, _, _, _, _, a21, fun _ _ _ _ => rfl, fun _ _ => rfl⟩
  have z39 : CZ D b 39 V := ⟨_, _, _, _, _, _, _, a39, fun _ _ _ _ => rfl, fun _ _ => rfl⟩
  have z74 : CZ D b 74 V := ⟨_, _, _, _, _, _, _, a74, fun _ _ _ _ => rfl, fun _ _ => rfl⟩
  refine mw_of (by decide) (by simp [Value.category]) (Nat.le_of_ble_eq_true rfl) ?_
  show AW l D b jX11_fashion (fx_rm 4 0 0) none (fx_MQ D b 0 0 (fx_qi (fun r N9 V9 => r = (if f < 0 then (-1) else if 16 ≤ f then (-1) else if m < 1 then (-1) else if 12 ≤ m then (-1) else if x < 0 then (-1) else if x ≤ 1 then 0 else (-1)) ∧ N = N9 ∧ ∀ i, 100 ≤ i → V9 i = V i))) 0 [some (.ref (b + 0)), some (.int f), some (.int m), some (.int x), none, none, none] [] N V 0 0
  refine aw_iload_n dX11_fashion_0 rfl ?_
  refine aw_if_lt (tgt := 30) dX11_fashion_1 (by decide) (fun c_1 => ?_) (fun c_1 => ?_)
  · skip
    refine aw_iconst (v := (-1)) dX11_fashion_30 (by decide) ?_
    refine aw_ireti dX11_fashion_31 rfl (Nat.le_of_ble_eq_true rfl) (Nat.le_of_ble_eq_true rfl) ?_
    exact ⟨by (first | (simp only [c_1, reduceIte]; done) | (simp only [c_1, reduceIte]; done)), rfl, (fr_refl V)⟩
  · skip
    refine aw_iload_n dX11_fashion_4 rfl ?_
    refine aw_bipush (v := 16) dX11_fashion_5 (by decide) ?_
    refine aw_icmp_ge (tgt := 30) dX11_fashion_7 (by decide) (fun c_2 => ?_) (fun c_2 => ?_)
    · skip
      refine aw_iconst (v := (-1)) dX11_fashion_30 (by decide) ?_
      refine aw_ireti dX11_fashion_31 rfl (Nat.le_of_ble_eq_true rfl) (Nat.le_of_ble_eq_true rfl) ?_
      exact ⟨by (first | (simp only [c_1, c_2, reduceIte]; done) | (simp only [c_1, c_2, reduceIte]; done)), rfl, (fr_refl V)⟩
    · skip
      refine aw_iload_n dX11_fashion_10 rfl ?_
      refine aw_iconst (v := 1) dX11_fashion_11 (by decide) ?_
      refine aw_icmp_lt (tgt := 30) dX11_fashion_12 (by decide) (fun c_3 => ?_) (fun c_3 => ?_)
      · skip
        refine aw_iconst (v := (-1)) dX11_fashion_30 (by decide) ?_
        refine aw_ireti dX11_fashion_31 rfl (Nat.le_of_ble_eq_true rfl) (Nat.le_of_ble_eq_true rfl) ?_
        exact ⟨by (first | (simp only [c_1, c_2, c_3, reduceIte]; done) | (simp only [c_1, c_2, c_3, reduceIte]; done)), rfl, (fr_refl V)⟩
      · skip
        refine aw_iload_n dX11_fashion_15 rfl ?_
        refine aw_bipush (v := 12) dX11_fashion_16 (by decide) ?_
        refine aw_icmp_ge (tgt := 30) dX11_fashion_18 (by decide) (fun c_4 => ?_) (fun c_4 => ?_)
        · skip
          refine aw_iconst (v := (-1)) dX11_fashion_30 (by decide) ?_
          refine aw_ireti dX11_fashion_31 rfl (Nat.le_of_ble_eq_true rfl) (Nat.le_of_ble_eq_true rfl) ?_
          exact ⟨by (first | (simp only [c_1, c_2, c_3, c_4, reduceIte]; done) | (simp only [c_1, c_2, c_3, c_4, reduceIte]; done)), rfl, (fr_refl V)⟩
        · skip
          refine aw_iload_n dX11_fashion_21 rfl ?_
          refine aw_if_lt (tgt := 30) dX11_fashion_22 (by decide) (fun c_5 => ?_) (fun c_5 => ?_)
          · skip
            refine aw_iconst (v := (-1)) dX11_fashion_30 (by decide) ?_
            refine aw_ireti dX11_fashion_31 rfl (Nat.le_of_ble_eq_true rfl) (Nat.le_of_ble_eq_true rfl) ?_
            exact ⟨by (first | (simp only [c_1, c_2, c_3, c_4, c_5, reduceIte]; done) | (simp only [c_1, c_2, c_3, c_4, c_5, reduceIte]; done)), rfl, (fr_refl V)⟩
          · skip
            refine aw_iload_n dX11_fashion_25 rfl ?_
            refine aw_iconst (v := 1) dX11_fashion_26 (by decide) ?_
            refine aw_icmp_le (tgt := 32) dX11_fashion_27 (by decide) (fun c_6 => ?_) (fun c_6 => ?_)
            · skip
              refine aw_aload_n dX11_fashion_32 rfl ?_
              refine aw_get dX11_fashion_33 fl_X11_19 m0 (by omega) rfl ?_
              refine aw_iload_n dX11_fashion_36 rfl ?_
              refine aw_callVi (J' := jX0_havingFear) (As := [.int f]) (st := []) dX11_fashion_37 tb_840 ok_X0_havingFear ⟨_, a3.1⟩ (by omega) rfl rfl (c_havingFear l D b 3 N V (by omega) z3 f c_1) rfl (Nat.le_of_ble_eq_true rfl) ⟨Nat.le_of_ble_eq_true rfl, Nat.le_of_ble_eq_true rfl, Nat.le_of_ble_eq_true rfl, Nat.le_of_ble_eq_true rfl⟩ (fun r_7 N_8 V_9 q_10 => ?_)
              obtain ⟨rfl, rfl, rfl⟩ := q_10
              refine aw_istore (ls' := [some (.ref (b + 0)), some (.int f), some (.int m), some (.int x), some (.int 0), none, none]) dX11_fashion_40 (Nat.le_of_ble_eq_true rfl) rfl ?_
              refine aw_iconst (v := 0) dX11_fashion_42 (by decide) ?_
              refine aw_istore (ls' := [some (.ref (b + 0)), some (.int f), some (.int m), some (.int x), some (.int 0), some (.int 0), none]) dX11_fashion_43 (Nat.le_of_ble_eq_true rfl) rfl ?_
              refine aw_aload_n dX11_fashion_45 rfl ?_
              refine aw_get dX11_fashion_46 fl_X11_19 m0 (by omega) rfl ?_
              refine aw_iload dX11_fashion_49 rfl ?_
              refine aw_iload_n dX11_fashion_51 rfl ?_
              refine aw_callSi (J' := jX1_grownFashion) (As := [.ref (b + 3), .int 0, .int m]) (st := []) dX11_fashion_52 tb_844 ok_X1_grownFashion rfl (c_grownFashion0 l D b 3 N V (by omega) z3 m (fx_p0 c_3)) rfl (Nat.le_of_ble_eq_true rfl) ⟨Nat.le_of_ble_eq_true rfl, Nat.le_of_ble_eq_true rfl, Nat.le_of_ble_eq_true rfl, Nat.le_of_ble_eq_true rfl⟩ (fun r_11 N_12 V_13 q_14 => ?_)
              obtain ⟨rfl, rfl, rfl⟩ := q_14
              refine aw_istore (ls' := [some (.ref (b + 0)), some (.int f), some (.int m), some (.int x), some (.int 0), some (.int 0), some (.int 0)]) dX11_fashion_55 (Nat.le_of_ble_eq_true rfl) rfl ?_
              refine aw_iload dX11_fashion_57 rfl ?_
              refine aw_iload dX11_fashion_59 rfl ?_
              refine aw_icmp_eq (tgt := 93) dX11_fashion_61 (by decide) (fun c_15 => ?_) (fun c_15 => ?_)
              rotate_left
              · exact absurd (by decide) c_15
              refine aw_iload_n dX11_fashion_93 rfl ?_
              refine aw_if_ne (tgt := 102) dX11_fashion_94 (by decide) (fun c_16 => ?_) (fun c_16 => ?_)
              · skip
                refine aw_iload dX11_fashion_102 rfl ?_
                refine aw_ireti dX11_fashion_104 rfl (Nat.le_of_ble_eq_true rfl) (Nat.le_of_ble_eq_true rfl) ?_
                exact ⟨by (first | (simp only [c_1, c_2, c_3, c_4, c_5, c_6, c_15, c_16, reduceIte]; done) | (simp only [c_1, c_2, c_3, c_4, c_5, c_6, reduceIte]; done)), rfl, (fr_refl V)⟩
              · skip
                refine aw_iload dX11_fashion_97 rfl ?_
                refine aw_goto (tgt := 104) dX11_fashion_99 (by decide) ?_
                refine aw_ireti dX11_fashion_104 rfl (Nat.le_of_ble_eq_true rfl) (Nat.le_of_ble_eq_true rfl) ?_
                exact ⟨by (first | (simp only [c_1, c_2, c_3, c_4, c_5, c_6, c_15, c_16, reduceIte]; done) | (simp only [c_1, c_2, c_3, c_4, c_5, c_6, reduceIte]; done)), rfl, (fr_refl V)⟩
            · skip
              refine aw_iconst (v := (-1)) dX11_fashion_30 (by decide) ?_
              refine aw_ireti dX11_fashion_31 rfl (Nat.le_of_ble_eq_true rfl) (Nat.le_of_ble_eq_true rfl) ?_
              exact ⟨by (first | (simp only [c_1, c_2, c_3, c_4, c_5, c_6, reduceIte]; done) | (simp only [c_1, c_2, c_3, c_4, c_5, c_6, reduceIte]; done)), rfl, (fr_refl V)⟩

set_option maxHeartbeats 4000000 in
set_option maxRecDepth 100000 in
theorem m_fears (l : Launch) (D : va_G) (b : Nat) (N : Nat) (V : Wd) (hN : 100 ≤ N) (hI : I0 D b V) (x : Int32) : MI l D b 3 jX11_fears [.ref (b + 0), .int x] N V 0 0 (fun r N9 V9 => r = (if x < 0 then (-1) else if x ≤ 1 then 65535 else (-1)) ∧ N = N9 ∧ ∀ i, 100 ≤ i → V9 i = V i) := by
  obtain ⟨m0, m1, m2, a3, a21, a39, m57, m63, m73, a74, m92, m93, m94, m95, m96, m97, m99⟩ := id hI
  have z3 : CZ D b 3 V := ⟨_, _, _, _, _, _, _, a3, fun _ _ _ _ => rfl, fun _ _ => rfl⟩
  have z21 : CZ D b 21 V := ⟨_, _, _, _, _, _, _, a21, fun _ _ _ _ => rfl, fun _ _ => rfl⟩
  have z39 : CZ D b 39 V := ⟨_, _, _, _, _, _, _, a39, fun _ _ _ _ => rfl, fun _ _ => rfl⟩
  have z74 : CZ D b 74 V := ⟨_, _, _, _, _, _, _, a74, fun _ _ _ _ => rfl, fun _ _ => rfl⟩
  refine mw_of (by decide) (by simp [Value.category]) (Nat.le_of_ble_eq_true rfl) ?_
  show AW l D b jX11_fears (fx_rm 3 0 0) none (fx_MQ D b 0 0 (fx_qi (fun r N9 V9 => r = (if x < 0 then (-1) else if x ≤ 1 then 65535 else (-1)) ∧ N = N9 ∧ ∀ i, 100 ≤ i → V9 i = V i))) 0 [some (.ref (b + 0)), some (.int x)] [] N V 0 0
  refine aw_iload_n dX11_fears_0 rfl ?_
  refine aw_if_lt (tgt := 9) dX11_fears_1 (by decide) (fun c_1 => ?_) (fun c_1 => ?_)
  · skip
    refine aw_iconst (v := (-1)) dX11_fears_9 (by decide) ?_
    refine aw_ireti dX11_fears_10 rfl (Nat.le_of_ble_eq_true rfl) (Nat.le_of_ble_eq_true rfl) ?_
    exact ⟨by (first | (simp only [c_1, reduceIte]; done) | (simp only [c_1, reduceIte]; done)), rfl, (fr_refl V)⟩
  · skip
    refine aw_iload_n dX11_fears_4 rfl ?_
    refine aw_iconst (v := 1) dX11_fears_5 (by decide) ?_
    refine aw_icmp_le (tgt := 11) dX11_fears_6 (by decide) (fun c_2 => ?_) (fun c_2 => ?_)
    · skip
      refine aw_iload_n dX11_fears_11 rfl ?_
      refine aw_if_ne (tgt := 25) dX11_fears_12 (by decide) (fun c_3 => ?_) (fun c_3 => ?_)
      · skip
        refine aw_aload_n dX11_fears_25 rfl ?_
        refine aw_get dX11_fears_26 fl_X11_19 m0 (by omega) rfl ?_
        refine aw_callVi (J' := jX0_allsFears) (As := []) (st := []) dX11_fears_29 tb_859 ok_X0_allsFears ⟨_, a3.1⟩ (by omega) rfl rfl (c_allsFears l D b 3 N V (by omega) z3 ) rfl (Nat.le_of_ble_eq_true rfl) ⟨Nat.le_of_ble_eq_true rfl, Nat.le_of_ble_eq_true rfl, Nat.le_of_ble_eq_true rfl, Nat.le_of_ble_eq_true rfl⟩ (fun r_4 N_5 V_6 q_7 => ?_)
        obtain ⟨rfl, rfl, rfl⟩ := q_7
        refine aw_ireti dX11_fears_32 rfl (Nat.le_of_ble_eq_true rfl) (Nat.le_of_ble_eq_true rfl) ?_
        exact ⟨by (first | (simp only [c_1, c_2, c_3, reduceIte]; done) | (simp only [c_1, c_2, reduceIte]; done)), rfl, (fr_refl V)⟩
      · skip
        refine aw_aload_n dX11_fears_15 rfl ?_
        refine aw_get dX11_fears_16 fl_X11_19 m0 (by omega) rfl ?_
        refine aw_callVi (J' := jX0_nobodysFears) (As := []) (st := []) dX11_fears_19 tb_853 ok_X0_nobodysFears ⟨_, a3.1⟩ (by omega) rfl rfl (c_nobodysFears l D b 3 N V (by omega) z3 ) rfl (Nat.le_of_ble_eq_true rfl) ⟨Nat.le_of_ble_eq_true rfl, Nat.le_of_ble_eq_true rfl, Nat.le_of_ble_eq_true rfl, Nat.le_of_ble_eq_true rfl⟩ (fun r_8 N_9 V_10 q_11 => ?_)
        obtain ⟨rfl, rfl, rfl⟩ := q_11
        refine aw_goto (tgt := 32) dX11_fears_22 (by decide) ?_
        refine aw_ireti dX11_fears_32 rfl (Nat.le_of_ble_eq_true rfl) (Nat.le_of_ble_eq_true rfl) ?_
        exact ⟨by (first | (simp only [c_1, c_2, c_3, reduceIte]; done) | (simp only [c_1, c_2, reduceIte]; done)), rfl, (fr_refl V)⟩
    · skip
      refine aw_iconst (v := (-1)) dX11_fears_9 (by decide) ?_
      refine aw_ireti dX11_fears_10 rfl (Nat.le_of_ble_eq_true rfl) (Nat.le_of_ble_eq_true rfl) ?_
      exact ⟨by (first | (simp only [c_1, c_2, reduceIte]; done) | (simp only [c_1, c_2, reduceIte]; done)), rfl, (fr_refl V)⟩

set_option maxHeartbeats 4000000 in
set_option maxRecDepth 100000 in
theorem m_unlike (l : Launch) (D : va_G) (b : Nat) (N : Nat) (V : Wd) (hN : 100 ≤ N) (hI : I0 D b V) (p : Int32) (q : Int32) : MI l D b 2 jX11_unlike [.ref (b + 0), .int p, .int q] N V 0 0 (fun r N9 V9 => r = (-1) ∧ N = N9 ∧ ∀ i, 100 ≤ i → V9 i = V i) := by
  obtain ⟨m0, m1, m2, a3, a21, a39, m57, m63, m73, a74, m92, m93, m94, m95, m96, m97, m99⟩ := id hI
  have z3 : CZ D b 3 V := ⟨_, _, _, _, _, _, _, a3, fun _ _ _ _ => rfl, fun _ _ => rfl⟩
  have z21 : CZ D b 21 V := ⟨_, _, _, _, _, _, _, a21, fun _ _ _ _ => rfl, fun _ _ => rfl⟩
  have z39 : CZ D b 39 V := ⟨_, _, _, _, _, _, _, a39, fun _ _ _ _ => rfl, fun _ _ => rfl⟩
  have z74 : CZ D b 74 V := ⟨_, _, _, _, _, _, _, a74, fun _ _ _ _ => rfl, fun _ _ => rfl⟩
  refine mw_of (by decide) (by simp [Value.category]) (Nat.le_of_ble_eq_true rfl) ?_
  show AW l D b jX11_unlike (fx_rm 2 0 0) none (fx_MQ D b 0 0 (fx_qi (fun r N9 V9 => r = (-1) ∧ N = N9 ∧ ∀ i, 100 ≤ i → V9 i = V i))) 0 [some (.ref (b + 0)), some (.int p), some (.int q)] [] N V 0 0
  refine aw_aload_n dX11_unlike_0 rfl ?_
  refine aw_get dX11_unlike_1 fl_X11_19 m0 (by omega) rfl ?_
  refine aw_iload_n dX11_unlike_4 rfl ?_
  refine aw_callVi (J' := jX0_isPerson) (As := [.int p]) (st := []) dX11_unlike_5 tb_745 ok_X0_isPerson ⟨_, a3.1⟩ (by omega) rfl rfl (c_isPerson l D b 3 N V (by omega) z3 p) rfl (Nat.le_of_ble_eq_true rfl) ⟨Nat.le_of_ble_eq_true rfl, Nat.le_of_ble_eq_true rfl, Nat.le_of_ble_eq_true rfl, Nat.le_of_ble_eq_true rfl⟩ (fun r_1 N_2 V_3 q_4 => ?_)
  obtain ⟨rfl, rfl, rfl⟩ := q_4
  refine aw_if_eq (tgt := 22) dX11_unlike_8 (by decide) (fun c_5 => ?_) (fun c_5 => ?_)
  rotate_left
  · exact absurd (by decide) c_5
  refine aw_iconst (v := (-1)) dX11_unlike_22 (by decide) ?_
  refine aw_ireti dX11_unlike_23 rfl (Nat.le_of_ble_eq_true rfl) (Nat.le_of_ble_eq_true rfl) ?_
  exact ⟨rfl, rfl, (fr_refl V)⟩

set_option maxHeartbeats 4000000 in
set_option maxRecDepth 100000 in
theorem m_mostLike (l : Launch) (D : va_G) (b : Nat) (N : Nat) (V : Wd) (hN : 100 ≤ N) (hI : I0 D b V) (p : Int32) : MI l D b 2 jX11_mostLike [.ref (b + 0), .int p] N V 0 0 (fun r N9 V9 => r = (-1) ∧ N = N9 ∧ ∀ i, 100 ≤ i → V9 i = V i) := by
  obtain ⟨m0, m1, m2, a3, a21, a39, m57, m63, m73, a74, m92, m93, m94, m95, m96, m97, m99⟩ := id hI
  have z3 : CZ D b 3 V := ⟨_, _, _, _, _, _, _, a3, fun _ _ _ _ => rfl, fun _ _ => rfl⟩
  have z21 : CZ D b 21 V := ⟨_, _, _, _, _, _, _, a21, fun _ _ _ _ => rfl, fun _ _ => rfl⟩
  have z39 : CZ D b 39 V := ⟨_, _, _, _, _, _, _, a39, fun _ _ _ _ => rfl, fun _ _ => rfl⟩
  have z74 : CZ D b 74 V := ⟨_, _, _, _, _, _, _, a74, fun _ _ _ _ => rfl, fun _ _ => rfl⟩
  refine mw_of (by decide) (by simp [Value.category]) (Nat.le_of_ble_eq_true rfl) ?_
  show AW l D b jX11_mostLike (fx_rm 2 0 0) none (fx_MQ D b 0 0 (fx_qi (fun r N9 V9 => r = (-1) ∧ N = N9 ∧ ∀ i, 100 ≤ i → V9 i = V i))) 0 [some (.ref (b + 0)), some (.int p)] [] N V 0 0
  refine aw_aload_n dX11_mostLike_0 rfl ?_
  refine aw_get dX11_mostLike_1 fl_X11_19 m0 (by omega) rfl ?_
  refine aw_iload_n dX11_mostLike_4 rfl ?_
  refine aw_callVi (J' := jX0_isPerson) (As := [.int p]) (st := []) dX11_mostLike_5 tb_745 ok_X0_isPerson ⟨_, a3.1⟩ (by omega) rfl rfl (c_isPerson l D b 3 N V (by omega) z3 p) rfl (Nat.le_of_ble_eq_true rfl) ⟨Nat.le_of_ble_eq_true rfl, Nat.le_of_ble_eq_true rfl, Nat.le_of_ble_eq_true rfl, Nat.le_of_ble_eq_true rfl⟩ (fun r_1 N_2 V_3 q_4 => ?_)
  obtain ⟨rfl, rfl, rfl⟩ := q_4
  refine aw_if_ne (tgt := 13) dX11_mostLike_8 (by decide) (fun c_5 => ?_) (fun c_5 => ?_)
  · exact absurd rfl c_5
  refine aw_iconst (v := (-1)) dX11_mostLike_11 (by decide) ?_
  refine aw_ireti dX11_mostLike_12 rfl (Nat.le_of_ble_eq_true rfl) (Nat.le_of_ble_eq_true rfl) ?_
  exact ⟨rfl, rfl, (fr_refl V)⟩

set_option maxHeartbeats 4000000 in
set_option maxRecDepth 100000 in
theorem m_circles (l : Launch) (D : va_G) (b : Nat) (N : Nat) (V : Wd) (hN : 100 ≤ N) (hI : I0 D b V) (m : Int32) (x : Int32) : MI l D b 3 jX11_circles [.ref (b + 0), .int m, .int x] N V 0 0 (fun r N9 V9 => r = (if m < 0 then (-1) else if 1584 < m then (-1) else if x = 100 then 0 else (-1)) ∧ N = N9 ∧ ∀ i, 100 ≤ i → V9 i = V i) := by
  obtain ⟨m0, m1, m2, a3, a21, a39, m57, m63, m73, a74, m92, m93, m94, m95, m96, m97, m99⟩ := id hI
  have z3 : CZ D b 3 V := ⟨_, _, _, _, _, _, _, a3, fun _ _ _ _ => rfl, fun _ _ => rfl⟩
  have z21 : CZ D b 21 V := ⟨_, _, _, _, _, _, _, a21, fun _ _ _ _ => rfl, fun _ _ => rfl⟩
  have z39 : CZ D b 39 V := ⟨_, _, _, _, _, _, _, a39, fun _ _ _ _ => rfl, fun _ _ => rfl⟩
  have z74 : CZ D b 74 V := ⟨_, _, _, _, _, _, _, a74, fun _ _ _ _ => rfl, fun _ _ => rfl⟩
  refine mw_of (by decide) (by simp [Value.category]) (Nat.le_of_ble_eq_true rfl) ?_
  show AW l D b jX11_circles (fx_rm 3 0 0) none (fx_MQ D b 0 0 (fx_qi (fun r N9 V9 => r = (if m < 0 then (-1) else if 1584 < m then (-1) else if x = 100 then 0 else (-1)) ∧ N = N9 ∧ ∀ i, 100 ≤ i → V9 i = V i))) 0 [some (.ref (b + 0)), some (.int m), some (.int x)] [] N V 0 0
  refine aw_iload_n dX11_circles_0 rfl ?_
  refine aw_if_lt (tgt := 28) dX11_circles_1 (by decide) (fun c_1 => ?_) (fun c_1 => ?_)
  · skip
    refine aw_iconst (v := (-1)) dX11_circles_28 (by decide) ?_
    refine aw_ireti dX11_circles_29 rfl (Nat.le_of_ble_eq_true rfl) (Nat.le_of_ble_eq_true rfl) ?_
    exact ⟨by (first | (simp only [c_1, reduceIte]; done) | (simp only [c_1, reduceIte]; done)), rfl, (fr_refl V)⟩
  · skip
    refine aw_iload_n dX11_circles_4 rfl ?_
    refine aw_sipush (v := 1584) dX11_circles_5 (by decide) ?_
    refine aw_icmp_gt (tgt := 28) dX11_circles_8 (by decide) (fun c_2 => ?_) (fun c_2 => ?_)
    · skip
      refine aw_iconst (v := (-1)) dX11_circles_28 (by decide) ?_
      refine aw_ireti dX11_circles_29 rfl (Nat.le_of_ble_eq_true rfl) (Nat.le_of_ble_eq_true rfl) ?_
      exact ⟨by (first | (simp only [c_1, c_2, reduceIte]; done) | (simp only [c_1, c_2, reduceIte]; done)), rfl, (fr_refl V)⟩
    · skip
      refine aw_iload_n dX11_circles_11 rfl ?_
      refine aw_bipush (v := 100) dX11_circles_12 (by decide) ?_
      refine aw_icmp_eq (tgt := 30) dX11_circles_14 (by decide) (fun c_3 => ?_) (fun c_3 => ?_)
      · skip
        refine aw_aload_n dX11_circles_30 rfl ?_
        refine aw_get dX11_circles_31 fl_X11_60 m0 (by omega) rfl ?_
        refine aw_aload_n dX11_circles_34 rfl ?_
        refine aw_get dX11_circles_35 fl_X11_19 m0 (by omega) rfl ?_
        refine aw_iload_n dX11_circles_38 rfl ?_
        refine aw_callVv (J' := jX1_linkAlike) (As := [.ref (b + 3), .int m]) (st := []) dX11_circles_39 tb_885 ok_X1_linkAlike ⟨_, m94⟩ (by omega) rfl rfl (c_linkAlike l D b 3 N V hN (by omega) z3 m94 _ m95 m) rfl (Nat.le_of_ble_eq_true rfl) ⟨Nat.le_of_ble_eq_true rfl, Nat.le_of_ble_eq_true rfl, Nat.le_of_ble_eq_true rfl, Nat.le_of_ble_eq_true rfl⟩ (fun  N_6 V_5 q_7 => ?_)
        obtain ⟨rfl, fr_4⟩ := q_7
        refine aw_iload_n dX11_circles_42 rfl ?_
        refine aw_bipush (v := 100) dX11_circles_43 (by decide) ?_
        refine aw_icmp_ne (tgt := 65) dX11_circles_45 (by decide) (fun c_8 => ?_) (fun c_8 => ?_)
        · exact absurd c_3 c_8
        refine aw_aload_n dX11_circles_48 rfl ?_
        refine aw_get dX11_circles_49 fl_X11_60 ((fr_4 _ (by omega)).trans m0) (by omega) rfl ?_
        refine aw_aload_n dX11_circles_52 rfl ?_
        refine aw_get dX11_circles_53 fl_X11_19 ((fr_4 _ (by omega)).trans m0) (by omega) rfl ?_
        refine aw_get dX11_circles_56 fl_X11_212 ((fr_4 _ (by omega)).trans a3.1) (by omega) rfl ?_
        refine aw_callVi (J' := jX1_circlesOf) (As := [.int 0]) (st := []) dX11_circles_59 tb_889 ok_X1_circlesOf ⟨_, ((fr_4 _ (by omega)).trans m94)⟩ (by omega) rfl rfl (c_circlesOf0 l D b N V_5) rfl (Nat.le_of_ble_eq_true rfl) ⟨Nat.le_of_ble_eq_true rfl, Nat.le_of_ble_eq_true rfl, Nat.le_of_ble_eq_true rfl, Nat.le_of_ble_eq_true rfl⟩ (fun r_9 N_10 V_11 q_12 => ?_)
        obtain ⟨rfl, rfl, rfl⟩ := q_12
        refine aw_goto (tgt := 80) dX11_circles_62 (by decide) ?_
        refine aw_ireti dX11_circles_80 rfl (Nat.le_of_ble_eq_true rfl) (Nat.le_of_ble_eq_true rfl) ?_
        exact ⟨by (first | (simp only [c_1, c_2, c_3, c_8, reduceIte]; done) | (simp only [c_1, c_2, reduceIte]; done)), rfl, (fun i hi => (fr_4 i (by omega)).trans ((fr_refl V) i hi))⟩
      · skip
        refine aw_aload_n dX11_circles_17 rfl ?_
        refine aw_get dX11_circles_18 fl_X11_19 m0 (by omega) rfl ?_
        refine aw_iload_n dX11_circles_21 rfl ?_
        refine aw_callVi (J' := jX0_isPerson) (As := [.int x]) (st := []) dX11_circles_22 tb_745 ok_X0_isPerson ⟨_, a3.1⟩ (by omega) rfl rfl (c_isPerson l D b 3 N V (by omega) z3 x) rfl (Nat.le_of_ble_eq_true rfl) ⟨Nat.le_of_ble_eq_true rfl, Nat.le_of_ble_eq_true rfl, Nat.le_of_ble_eq_true rfl, Nat.le_of_ble_eq_true rfl⟩ (fun r_13 N_14 V_15 q_16 => ?_)
        obtain ⟨rfl, rfl, rfl⟩ := q_16
        refine aw_if_ne (tgt := 30) dX11_circles_25 (by decide) (fun c_17 => ?_) (fun c_17 => ?_)
        · exact absurd rfl c_17
        refine aw_iconst (v := (-1)) dX11_circles_28 (by decide) ?_
        refine aw_ireti dX11_circles_29 rfl (Nat.le_of_ble_eq_true rfl) (Nat.le_of_ble_eq_true rfl) ?_
        exact ⟨by (first | (simp only [c_1, c_2, c_3, c_17, reduceIte]; done) | (simp only [c_1, c_2, reduceIte]; done)), rfl, (fr_refl V)⟩

set_option maxHeartbeats 4000000 in
set_option maxRecDepth 100000 in
theorem m_keystones (l : Launch) (D : va_G) (b : Nat) (N : Nat) (V : Wd) (hN : 100 ≤ N) (hI : I0 D b V)  : MI l D b 4 jX11_keystones [.ref (b + 0)] N V 0 0 (fun r N9 V9 => r = 0 ∧ N = N9 ∧ ∀ i, 100 ≤ i → V9 i = V i) := by
  obtain ⟨m0, m1, m2, a3, a21, a39, m57, m63, m73, a74, m92, m93, m94, m95, m96, m97, m99⟩ := id hI
  have z3 : CZ D b 3 V := ⟨_, _, _, _, _, _, _, a3, fun _ _ _ _ => rfl, fun _ _ => rfl⟩
  have z21 : CZ D b 21 V := ⟨_, _, _, _, _, _, _, a21, fun _ _ _ _ => rfl, fun _ _ => rfl⟩
  have z39 : CZ D b 39 V := ⟨_, _, _, _, _, _, _, a39, fun _ _ _ _ => rfl, fun _ _ => rfl⟩
  have z74 : CZ D b 74 V := ⟨_, _, _, _, _, _, _, a74, fun _ _ _ _ => rfl, fun _ _ => rfl⟩
  refine mw_of (by decide) (by simp [Value.category]) (Nat.le_of_ble_eq_true rfl) ?_
  show AW l D b jX11_keystones (fx_rm 4 0 0) none (fx_MQ D b 0 0 (fx_qi (fun r N9 V9 => r = 0 ∧ N = N9 ∧ ∀ i, 100 ≤ i → V9 i = V i))) 0 [some (.ref (b + 0))] [] N V 0 0
  refine aw_aload_n dX11_keystones_0 rfl ?_
  refine aw_get dX11_keystones_1 fl_X11_19 m0 (by omega) rfl ?_
  refine aw_callSi (J' := jX1_holdersTogether) (As := [.ref (b + 3)]) (st := []) dX11_keystones_4 tb_908 ok_X1_holdersTogether rfl (c_holdersTogether l D b 3 N V (by omega) z3) rfl (Nat.le_of_ble_eq_true rfl) ⟨Nat.le_of_ble_eq_true rfl, Nat.le_of_ble_eq_true rfl, Nat.le_of_ble_eq_true rfl, Nat.le_of_ble_eq_true rfl⟩ (fun r_1 N_2 V_3 q_4 => ?_)
  obtain ⟨rfl, rfl, rfl⟩ := q_4
  refine aw_ireti dX11_keystones_7 rfl (Nat.le_of_ble_eq_true rfl) (Nat.le_of_ble_eq_true rfl) ?_
  exact ⟨rfl, rfl, (fr_refl V)⟩

set_option maxHeartbeats 4000000 in
set_option maxRecDepth 100000 in
theorem m_steps (l : Launch) (D : va_G) (b : Nat) (N : Nat) (V : Wd) (hN : 100 ≤ N) (hI : I0 D b V) (p : Int32) (q : Int32) : MI l D b 2 jX11_steps [.ref (b + 0), .int p, .int q] N V 0 0 (fun r N9 V9 => r = (-1) ∧ N = N9 ∧ ∀ i, 100 ≤ i → V9 i = V i) := by
  obtain ⟨m0, m1, m2, a3, a21, a39, m57, m63, m73, a74, m92, m93, m94, m95, m96, m97, m99⟩ := id hI
  have z3 : CZ D b 3 V := ⟨_, _, _, _, _, _, _, a3, fun _ _ _ _ => rfl, fun _ _ => rfl⟩
  have z21 : CZ D b 21 V := ⟨_, _, _, _, _, _, _, a21, fun _ _ _ _ => rfl, fun _ _ => rfl⟩
  have z39 : CZ D b 39 V := ⟨_, _, _, _, _, _, _, a39, fun _ _ _ _ => rfl, fun _ _ => rfl⟩
  have z74 : CZ D b 74 V := ⟨_, _, _, _, _, _, _, a74, fun _ _ _ _ => rfl, fun _ _ => rfl⟩
  refine mw_of (by decide) (by simp [Value.category]) (Nat.le_of_ble_eq_true rfl) ?_
  show AW l D b jX11_steps (fx_rm 2 0 0) none (fx_MQ D b 0 0 (fx_qi (fun r N9 V9 => r = (-1) ∧ N = N9 ∧ ∀ i, 100 ≤ i → V9 i = V i))) 0 [some (.ref (b + 0)), some (.int p), some (.int q)] [] N V 0 0
  refine aw_aload_n dX11_steps_0 rfl ?_
  refine aw_get dX11_steps_1 fl_X11_19 m0 (by omega) rfl ?_
  refine aw_iload_n dX11_steps_4 rfl ?_
  refine aw_callVi (J' := jX0_isPerson) (As := [.int p]) (st := []) dX11_steps_5 tb_745 ok_X0_isPerson ⟨_, a3.1⟩ (by omega) rfl rfl (c_isPerson l D b 3 N V (by omega) z3 p) rfl (Nat.le_of_ble_eq_true rfl) ⟨Nat.le_of_ble_eq_true rfl, Nat.le_of_ble_eq_true rfl, Nat.le_of_ble_eq_true rfl, Nat.le_of_ble_eq_true rfl⟩ (fun r_1 N_2 V_3 q_4 => ?_)
  obtain ⟨rfl, rfl, rfl⟩ := q_4
  refine aw_if_eq (tgt := 22) dX11_steps_8 (by decide) (fun c_5 => ?_) (fun c_5 => ?_)
  rotate_left
  · exact absurd (by decide) c_5
  refine aw_iconst (v := (-1)) dX11_steps_22 (by decide) ?_
  refine aw_ireti dX11_steps_23 rfl (Nat.le_of_ble_eq_true rfl) (Nat.le_of_ble_eq_true rfl) ?_
  exact ⟨rfl, rfl, (fr_refl V)⟩

set_option maxHeartbeats 4000000 in
set_option maxRecDepth 100000 in
theorem m_guess (l : Launch) (D : va_G) (b : Nat) (N : Nat) (V : Wd) (hN : 100 ≤ N) (hI : I0 D b V) (n : Int32) (x : Int32) : MI l D b 1 jX11_guess [.ref (b + 0), .int n, .int x] N V 0 0 (fun r N9 V9 => r = (-1) ∧ N = N9 ∧ ∀ i, 100 ≤ i → V9 i = V i) := by
  obtain ⟨m0, m1, m2, a3, a21, a39, m57, m63, m73, a74, m92, m93, m94, m95, m96, m97, m99⟩ := id hI
  have z3 : CZ D b 3 V := ⟨_, _, _, _, _, _, _, a3, fun _ _ _ _ => rfl, fun _ _ => rfl⟩
  have z21 : CZ D b 21 V := ⟨_, _, _, _, _, _, _, a21, fun _ _ _ _ => rfl, fun _ _ => rfl⟩
  have z39 : CZ D b 39 V := ⟨_, _, _, _, _, _, _, a39, fun _ _ _ _ => rfl, fun _ _ => rfl⟩
  have z74 : CZ D b 74 V := ⟨_, _, _, _, _, _, _, a74, fun _ _ _ _ => rfl, fun _ _ => rfl⟩
  refine mw_of (by decide) (by simp [Value.category]) (Nat.le_of_ble_eq_true rfl) ?_
  show AW l D b jX11_guess (fx_rm 1 0 0) none (fx_MQ D b 0 0 (fx_qi (fun r N9 V9 => r = (-1) ∧ N = N9 ∧ ∀ i, 100 ≤ i → V9 i = V i))) 0 [some (.ref (b + 0)), some (.int n), some (.int x), none, none, none, none, none] [] N V 0 0
  refine aw_iload_n dX11_guess_0 rfl ?_
  refine aw_if_lt (tgt := 14) dX11_guess_1 (by decide) (fun c_1 => ?_) (fun c_1 => ?_)
  · skip
    refine aw_iconst (v := 0) dX11_guess_14 (by decide) ?_
    refine aw_istore_n (ls' := [some (.ref (b + 0)), some (.int n), some (.int x), some (.int 0), none, none, none, none]) dX11_guess_15 (Nat.le_of_ble_eq_true rfl) rfl ?_
    refine aw_iload_n dX11_guess_16 rfl ?_
    refine aw_bipush (v := 20) dX11_guess_17 (by decide) ?_
    refine aw_icmp_lt (tgt := 32) dX11_guess_19 (by decide) (fun c_2 => ?_) (fun c_2 => ?_)
    · skip
      refine aw_iconst (v := 0) dX11_guess_32 (by decide) ?_
      refine aw_istore (ls' := [some (.ref (b + 0)), some (.int n), some (.int x), some (.int 0), some (.int 0), none, none, none]) dX11_guess_33 (Nat.le_of_ble_eq_true rfl) rfl ?_
      refine aw_iload_n dX11_guess_35 rfl ?_
      refine aw_if_ne (tgt := 52) dX11_guess_36 (by decide) (fun c_3 => ?_) (fun c_3 => ?_)
      · exact absurd rfl c_3
      refine aw_iload dX11_guess_39 rfl ?_
      refine aw_if_ne (tgt := 52) dX11_guess_41 (by decide) (fun c_4 => ?_) (fun c_4 => ?_)
      · exact absurd rfl c_4
      refine aw_iload_n dX11_guess_44 rfl ?_
      refine aw_bipush (v := 100) dX11_guess_45 (by decide) ?_
      refine aw_icmp_eq (tgt := 52) dX11_guess_47 (by decide) (fun c_5 => ?_) (fun c_5 => ?_)
      · skip
        refine aw_iload_n dX11_guess_52 rfl ?_
        refine aw_iconst (v := 1) dX11_guess_53 (by decide) ?_
        refine aw_icmp_lt (tgt := 79) dX11_guess_54 (by decide) (fun c_6 => ?_) (fun c_6 => ?_)
        · skip
          refine aw_iconst (v := (-1)) dX11_guess_79 (by decide) ?_
          refine aw_ireti dX11_guess_80 rfl (Nat.le_of_ble_eq_true rfl) (Nat.le_of_ble_eq_true rfl) ?_
          exact ⟨rfl, rfl, (fr_refl V)⟩
        · skip
          refine aw_iload_n dX11_guess_57 rfl ?_
          refine aw_bipush (v := 12) dX11_guess_58 (by decide) ?_
          refine aw_icmp_gt (tgt := 79) dX11_guess_60 (by decide) (fun c_7 => ?_) (fun c_7 => ?_)
          · skip
            refine aw_iconst (v := (-1)) dX11_guess_79 (by decide) ?_
            refine aw_ireti dX11_guess_80 rfl (Nat.le_of_ble_eq_true rfl) (Nat.le_of_ble_eq_true rfl) ?_
            exact ⟨rfl, rfl, (fr_refl V)⟩
          · skip
            refine aw_aload_n dX11_guess_63 rfl ?_
            refine aw_get dX11_guess_64 fl_X11_12 m0 (by omega) rfl ?_
            refine aw_iconst (v := 2) dX11_guess_67 (by decide) ?_
            refine aw_iload_n dX11_guess_68 rfl ?_
            refine aw_imul dX11_guess_69 ?_
            refine aw_iconst (v := 2) dX11_guess_70 (by decide) ?_
            refine aw_bipush (v := 24) dX11_guess_71 (by decide) ?_
            refine aw_callVi (J' := jX10_holds) (As := [.int (2 * n), .int 2, .int 24]) (st := []) dX11_guess_73 tb_267 ok_X10_holds ⟨_, m1⟩ (by omega) rfl rfl (c_holds0 l D b N V hN _ _ _ m1 (2 * n) 2 24 (by decide)) rfl (Nat.le_of_ble_eq_true rfl) ⟨Nat.le_of_ble_eq_true rfl, Nat.le_of_ble_eq_true rfl, Nat.le_of_ble_eq_true rfl, Nat.le_of_ble_eq_true rfl⟩ (fun r_8 N_9 V_10 q_11 => ?_)
            obtain ⟨rfl, rfl, rfl⟩ := q_11
            refine aw_if_ne (tgt := 81) dX11_guess_76 (by decide) (fun c_12 => ?_) (fun c_12 => ?_)
            · exact absurd rfl c_12
            refine aw_iconst (v := (-1)) dX11_guess_79 (by decide) ?_
            refine aw_ireti dX11_guess_80 rfl (Nat.le_of_ble_eq_true rfl) (Nat.le_of_ble_eq_true rfl) ?_
            exact ⟨rfl, rfl, (fr_refl V)⟩
      · skip
        refine aw_iconst (v := (-1)) dX11_guess_50 (by decide) ?_
        refine aw_ireti dX11_guess_51 rfl (Nat.le_of_ble_eq_true rfl) (Nat.le_of_ble_eq_true rfl) ?_
        exact ⟨rfl, rfl, (fr_refl V)⟩
    · skip
      refine aw_iload_n dX11_guess_22 rfl ?_
      refine aw_bipush (v := 36) dX11_guess_23 (by decide) ?_
      refine aw_icmp_ge (tgt := 32) dX11_guess_25 (by decide) (fun c_13 => ?_) (fun c_13 => ?_)
      · skip
        refine aw_iconst (v := 0) dX11_guess_32 (by decide) ?_
        refine aw_istore (ls' := [some (.ref (b + 0)), some (.int n), some (.int x), some (.int 0), some (.int 0), none, none, none]) dX11_guess_33 (Nat.le_of_ble_eq_true rfl) rfl ?_
        refine aw_iload_n dX11_guess_35 rfl ?_
        refine aw_if_ne (tgt := 52) dX11_guess_36 (by decide) (fun c_14 => ?_) (fun c_14 => ?_)
        · exact absurd rfl c_14
        refine aw_iload dX11_guess_39 rfl ?_
        refine aw_if_ne (tgt := 52) dX11_guess_41 (by decide) (fun c_15 => ?_) (fun c_15 => ?_)
        · exact absurd rfl c_15
        refine aw_iload_n dX11_guess_44 rfl ?_
        refine aw_bipush (v := 100) dX11_guess_45 (by decide) ?_
        refine aw_icmp_eq (tgt := 52) dX11_guess_47 (by decide) (fun c_16 => ?_) (fun c_16 => ?_)
        · skip
          refine aw_iload_n dX11_guess_52 rfl ?_
          refine aw_iconst (v := 1) dX11_guess_53 (by decide) ?_
          refine aw_icmp_lt (tgt := 79) dX11_guess_54 (by decide) (fun c_17 => ?_) (fun c_17 => ?_)
          · skip
            refine aw_iconst (v := (-1)) dX11_guess_79 (by decide) ?_
            refine aw_ireti dX11_guess_80 rfl (Nat.le_of_ble_eq_true rfl) (Nat.le_of_ble_eq_true rfl) ?_
            exact ⟨rfl, rfl, (fr_refl V)⟩
          · skip
            refine aw_iload_n dX11_guess_57 rfl ?_
            refine aw_bipush (v := 12) dX11_guess_58 (by decide) ?_
            refine aw_icmp_gt (tgt := 79) dX11_guess_60 (by decide) (fun c_18 => ?_) (fun c_18 => ?_)
            · skip
              refine aw_iconst (v := (-1)) dX11_guess_79 (by decide) ?_
              refine aw_ireti dX11_guess_80 rfl (Nat.le_of_ble_eq_true rfl) (Nat.le_of_ble_eq_true rfl) ?_
              exact ⟨rfl, rfl, (fr_refl V)⟩
            · skip
              refine aw_aload_n dX11_guess_63 rfl ?_
              refine aw_get dX11_guess_64 fl_X11_12 m0 (by omega) rfl ?_
              refine aw_iconst (v := 2) dX11_guess_67 (by decide) ?_
              refine aw_iload_n dX11_guess_68 rfl ?_
              refine aw_imul dX11_guess_69 ?_
              refine aw_iconst (v := 2) dX11_guess_70 (by decide) ?_
              refine aw_bipush (v := 24) dX11_guess_71 (by decide) ?_
              refine aw_callVi (J' := jX10_holds) (As := [.int (2 * n), .int 2, .int 24]) (st := []) dX11_guess_73 tb_267 ok_X10_holds ⟨_, m1⟩ (by omega) rfl rfl (c_holds0 l D b N V hN _ _ _ m1 (2 * n) 2 24 (by decide)) rfl (Nat.le_of_ble_eq_true rfl) ⟨Nat.le_of_ble_eq_true rfl, Nat.le_of_ble_eq_true rfl, Nat.le_of_ble_eq_true rfl, Nat.le_of_ble_eq_true rfl⟩ (fun r_19 N_20 V_21 q_22 => ?_)
              obtain ⟨rfl, rfl, rfl⟩ := q_22
              refine aw_if_ne (tgt := 81) dX11_guess_76 (by decide) (fun c_23 => ?_) (fun c_23 => ?_)
              · exact absurd rfl c_23
              refine aw_iconst (v := (-1)) dX11_guess_79 (by decide) ?_
              refine aw_ireti dX11_guess_80 rfl (Nat.le_of_ble_eq_true rfl) (Nat.le_of_ble_eq_true rfl) ?_
              exact ⟨rfl, rfl, (fr_refl V)⟩
        · skip
          refine aw_iconst (v := (-1)) dX11_guess_50 (by decide) ?_
          refine aw_ireti dX11_guess_51 rfl (Nat.le_of_ble_eq_true rfl) (Nat.le_of_ble_eq_true rfl) ?_
          exact ⟨rfl, rfl, (fr_refl V)⟩
      · skip
        refine aw_iconst (v := 1) dX11_guess_28 (by decide) ?_
        refine aw_goto (tgt := 33) dX11_guess_29 (by decide) ?_
        refine aw_istore (ls' := [some (.ref (b + 0)), some (.int n), some (.int x), some (.int 0), some (.int 1), none, none, none]) dX11_guess_33 (Nat.le_of_ble_eq_true rfl) rfl ?_
        refine aw_iload_n dX11_guess_35 rfl ?_
        refine aw_if_ne (tgt := 52) dX11_guess_36 (by decide) (fun c_24 => ?_) (fun c_24 => ?_)
        · exact absurd rfl c_24
        refine aw_iload dX11_guess_39 rfl ?_
        refine aw_if_ne (tgt := 52) dX11_guess_41 (by decide) (fun c_25 => ?_) (fun c_25 => ?_)
        rotate_left
        · exact absurd c_25 (by decide)
        refine aw_iload_n dX11_guess_52 rfl ?_
        refine aw_iconst (v := 1) dX11_guess_53 (by decide) ?_
        refine aw_icmp_lt (tgt := 79) dX11_guess_54 (by decide) (fun c_26 => ?_) (fun c_26 => ?_)
        · skip
          refine aw_iconst (v := (-1)) dX11_guess_79 (by decide) ?_
          refine aw_ireti dX11_guess_80 rfl (Nat.le_of_ble_eq_true rfl) (Nat.le_of_ble_eq_true rfl) ?_
          exact ⟨rfl, rfl, (fr_refl V)⟩
        · skip
          refine aw_iload_n dX11_guess_57 rfl ?_
          refine aw_bipush (v := 12) dX11_guess_58 (by decide) ?_
          refine aw_icmp_gt (tgt := 79) dX11_guess_60 (by decide) (fun c_27 => ?_) (fun c_27 => ?_)
          · skip
            refine aw_iconst (v := (-1)) dX11_guess_79 (by decide) ?_
            refine aw_ireti dX11_guess_80 rfl (Nat.le_of_ble_eq_true rfl) (Nat.le_of_ble_eq_true rfl) ?_
            exact ⟨rfl, rfl, (fr_refl V)⟩
          · skip
            refine aw_aload_n dX11_guess_63 rfl ?_
            refine aw_get dX11_guess_64 fl_X11_12 m0 (by omega) rfl ?_
            refine aw_iconst (v := 2) dX11_guess_67 (by decide) ?_
            refine aw_iload_n dX11_guess_68 rfl ?_
            refine aw_imul dX11_guess_69 ?_
            refine aw_iconst (v := 2) dX11_guess_70 (by decide) ?_
            refine aw_bipush (v := 24) dX11_guess_71 (by decide) ?_
            refine aw_callVi (J' := jX10_holds) (As := [.int (2 * n), .int 2, .int 24]) (st := []) dX11_guess_73 tb_267 ok_X10_holds ⟨_, m1⟩ (by omega) rfl rfl (c_holds0 l D b N V hN _ _ _ m1 (2 * n) 2 24 (by decide)) rfl (Nat.le_of_ble_eq_true rfl) ⟨Nat.le_of_ble_eq_true rfl, Nat.le_of_ble_eq_true rfl, Nat.le_of_ble_eq_true rfl, Nat.le_of_ble_eq_true rfl⟩ (fun r_28 N_29 V_30 q_31 => ?_)
            obtain ⟨rfl, rfl, rfl⟩ := q_31
            refine aw_if_ne (tgt := 81) dX11_guess_76 (by decide) (fun c_32 => ?_) (fun c_32 => ?_)
            · exact absurd rfl c_32
            refine aw_iconst (v := (-1)) dX11_guess_79 (by decide) ?_
            refine aw_ireti dX11_guess_80 rfl (Nat.le_of_ble_eq_true rfl) (Nat.le_of_ble_eq_true rfl) ?_
            exact ⟨rfl, rfl, (fr_refl V)⟩
  · skip
    refine aw_iload_n dX11_guess_4 rfl ?_
    refine aw_bipush (v := 16) dX11_guess_5 (by decide) ?_
    refine aw_icmp_ge (tgt := 14) dX11_guess_7 (by decide) (fun c_33 => ?_) (fun c_33 => ?_)
    · skip
      refine aw_iconst (v := 0) dX11_guess_14 (by decide) ?_
      refine aw_istore_n (ls' := [some (.ref (b + 0)), some (.int n), some (.int x), some (.int 0), none, none, none, none]) dX11_guess_15 (Nat.le_of_ble_eq_true rfl) rfl ?_
      refine aw_iload_n dX11_guess_16 rfl ?_
      refine aw_bipush (v := 20) dX11_guess_17 (by decide) ?_
      refine aw_icmp_lt (tgt := 32) dX11_guess_19 (by decide) (fun c_34 => ?_) (fun c_34 => ?_)
      · skip
        refine aw_iconst (v := 0) dX11_guess_32 (by decide) ?_
        refine aw_istore (ls' := [some (.ref (b + 0)), some (.int n), some (.int x), some (.int 0), some (.int 0), none, none, none]) dX11_guess_33 (Nat.le_of_ble_eq_true rfl) rfl ?_
        refine aw_iload_n dX11_guess_35 rfl ?_
        refine aw_if_ne (tgt := 52) dX11_guess_36 (by decide) (fun c_35 => ?_) (fun c_35 => ?_)
        · exact absurd rfl c_35
        refine aw_iload dX11_guess_39 rfl ?_
        refine aw_if_ne (tgt := 52) dX11_guess_41 (by decide) (fun c_36 => ?_) (fun c_36 => ?_)
        · exact absurd rfl c_36
        refine aw_iload_n dX11_guess_44 rfl ?_
        refine aw_bipush (v := 100) dX11_guess_45 (by decide) ?_
        refine aw_icmp_eq (tgt := 52) dX11_guess_47 (by decide) (fun c_37 => ?_) (fun c_37 => ?_)
        · skip
          refine aw_iload_n dX11_guess_52 rfl ?_
          refine aw_iconst (v := 1) dX11_guess_53 (by decide) ?_
          refine aw_icmp_lt (tgt := 79) dX11_guess_54 (by decide) (fun c_38 => ?_) (fun c_38 => ?_)
          · skip
            refine aw_iconst (v := (-1)) dX11_guess_79 (by decide) ?_
            refine aw_ireti dX11_guess_80 rfl (Nat.le_of_ble_eq_true rfl) (Nat.le_of_ble_eq_true rfl) ?_
            exact ⟨rfl, rfl, (fr_refl V)⟩
          · skip
            refine aw_iload_n dX11_guess_57 rfl ?_
            refine aw_bipush (v := 12) dX11_guess_58 (by decide) ?_
            refine aw_icmp_gt (tgt := 79) dX11_guess_60 (by decide) (fun c_39 => ?_) (fun c_39 => ?_)
            · skip
              refine aw_iconst (v := (-1)) dX11_guess_79 (by decide) ?_
              refine aw_ireti dX11_guess_80 rfl (Nat.le_of_ble_eq_true rfl) (Nat.le_of_ble_eq_true rfl) ?_
              exact ⟨rfl, rfl, (fr_refl V)⟩
            · skip
              refine aw_aload_n dX11_guess_63 rfl ?_
              refine aw_get dX11_guess_64 fl_X11_12 m0 (by omega) rfl ?_
              refine aw_iconst (v := 2) dX11_guess_67 (by decide) ?_
              refine aw_iload_n dX11_guess_68 rfl ?_
              refine aw_imul dX11_guess_69 ?_
              refine aw_iconst (v := 2) dX11_guess_70 (by decide) ?_
              refine aw_bipush (v := 24) dX11_guess_71 (by decide) ?_
              refine aw_callVi (J' := jX10_holds) (As := [.int (2 * n), .int 2, .int 24]) (st := []) dX11_guess_73 tb_267 ok_X10_holds ⟨_, m1⟩ (by omega) rfl rfl (c_holds0 l D b N V hN _ _ _ m1 (2 * n) 2 24 (by decide)) rfl (Nat.le_of_ble_eq_true rfl) ⟨Nat.le_of_ble_eq_true rfl, Nat.le_of_ble_eq_true rfl, Nat.le_of_ble_eq_true rfl, Nat.le_of_ble_eq_true rfl⟩ (fun r_40 N_41 V_42 q_43 => ?_)
              obtain ⟨rfl, rfl, rfl⟩ := q_43
              refine aw_if_ne (tgt := 81) dX11_guess_76 (by decide) (fun c_44 => ?_) (fun c_44 => ?_)
              · exact absurd rfl c_44
              refine aw_iconst (v := (-1)) dX11_guess_79 (by decide) ?_
              refine aw_ireti dX11_guess_80 rfl (Nat.le_of_ble_eq_true rfl) (Nat.le_of_ble_eq_true rfl) ?_
              exact ⟨rfl, rfl, (fr_refl V)⟩
        · skip
          refine aw_iconst (v := (-1)) dX11_guess_50 (by decide) ?_
          refine aw_ireti dX11_guess_51 rfl (Nat.le_of_ble_eq_true rfl) (Nat.le_of_ble_eq_true rfl) ?_
          exact ⟨rfl, rfl, (fr_refl V)⟩
      · skip
        refine aw_iload_n dX11_guess_22 rfl ?_
        refine aw_bipush (v := 36) dX11_guess_23 (by decide) ?_
        refine aw_icmp_ge (tgt := 32) dX11_guess_25 (by decide) (fun c_45 => ?_) (fun c_45 => ?_)
        · skip
          refine aw_iconst (v := 0) dX11_guess_32 (by decide) ?_
          refine aw_istore (ls' := [some (.ref (b + 0)), some (.int n), some (.int x), some (.int 0), some (.int 0), none, none, none]) dX11_guess_33 (Nat.le_of_ble_eq_true rfl) rfl ?_
          refine aw_iload_n dX11_guess_35 rfl ?_
          refine aw_if_ne (tgt := 52) dX11_guess_36 (by decide) (fun c_46 => ?_) (fun c_46 => ?_)
          · exact absurd rfl c_46
          refine aw_iload dX11_guess_39 rfl ?_
          refine aw_if_ne (tgt := 52) dX11_guess_41 (by decide) (fun c_47 => ?_) (fun c_47 => ?_)
          · exact absurd rfl c_47
          refine aw_iload_n dX11_guess_44 rfl ?_
          refine aw_bipush (v := 100) dX11_guess_45 (by decide) ?_
          refine aw_icmp_eq (tgt := 52) dX11_guess_47 (by decide) (fun c_48 => ?_) (fun c_48 => ?_)
          · skip
            refine aw_iload_n dX11_guess_52 rfl ?_
            refine aw_iconst (v := 1) dX11_guess_53 (by decide) ?_
            refine aw_icmp_lt (tgt := 79) dX11_guess_54 (by decide) (fun c_49 => ?_) (fun c_49 => ?_)
            · skip
              refine aw_iconst (v := (-1)) dX11_guess_79 (by decide) ?_
              refine aw_ireti dX11_guess_80 rfl (Nat.le_of_ble_eq_true rfl) (Nat.le_of_ble_eq_true rfl) ?_
              exact ⟨rfl, rfl, (fr_refl V)⟩
            · skip
              refine aw_iload_n dX11_guess_57 rfl ?_
              refine aw_bipush (v := 12) dX11_guess_58 (by decide) ?_
              refine aw_icmp_gt (tgt := 79) dX11_guess_60 (by decide) (fun c_50 => ?_) (fun c_50 => ?_)
              · skip
                refine aw_iconst (v := (-1)) dX11_guess_79 (by decide) ?_
                refine aw_ireti dX11_guess_80 rfl (Nat.le_of_ble_eq_true rfl) (Nat.le_of_ble_eq_true rfl) ?_
                exact ⟨rfl, rfl, (fr_refl V)⟩
              · skip
                refine aw_aload_n dX11_guess_63 rfl ?_
                refine aw_get dX11_guess_64 fl_X11_12 m0 (by omega) rfl ?_
                refine aw_iconst (v := 2) dX11_guess_67 (by decide) ?_
                refine aw_iload_n dX11_guess_68 rfl ?_
                refine aw_imul dX11_guess_69 ?_
                refine aw_iconst (v := 2) dX11_guess_70 (by decide) ?_
                refine aw_bipush (v := 24) dX11_guess_71 (by decide) ?_
                refine aw_callVi (J' := jX10_holds) (As := [.int (2 * n), .int 2, .int 24]) (st := []) dX11_guess_73 tb_267 ok_X10_holds ⟨_, m1⟩ (by omega) rfl rfl (c_holds0 l D b N V hN _ _ _ m1 (2 * n) 2 24 (by decide)) rfl (Nat.le_of_ble_eq_true rfl) ⟨Nat.le_of_ble_eq_true rfl, Nat.le_of_ble_eq_true rfl, Nat.le_of_ble_eq_true rfl, Nat.le_of_ble_eq_true rfl⟩ (fun r_51 N_52 V_53 q_54 => ?_)
                obtain ⟨rfl, rfl, rfl⟩ := q_54
                refine aw_if_ne (tgt := 81) dX11_guess_76 (by decide) (fun c_55 => ?_) (fun c_55 => ?_)
                · exact absurd rfl c_55
                refine aw_iconst (v := (-1)) dX11_guess_79 (by decide) ?_
                refine aw_ireti dX11_guess_80 rfl (Nat.le_of_ble_eq_true rfl) (Nat.le_of_ble_eq_true rfl) ?_
                exact ⟨rfl, rfl, (fr_refl V)⟩
          · skip
            refine aw_iconst (v := (-1)) dX11_guess_50 (by decide) ?_
            refine aw_ireti dX11_guess_51 rfl (Nat.le_of_ble_eq_true rfl) (Nat.le_of_ble_eq_true rfl) ?_
            exact ⟨rfl, rfl, (fr_refl V)⟩
        · skip
          refine aw_iconst (v := 1) dX11_guess_28 (by decide) ?_
          refine aw_goto (tgt := 33) dX11_guess_29 (by decide) ?_
          refine aw_istore (ls' := [some (.ref (b + 0)), some (.int n), some (.int x), some (.int 0), some (.int 1), none, none, none]) dX11_guess_33 (Nat.le_of_ble_eq_true rfl) rfl ?_
          refine aw_iload_n dX11_guess_35 rfl ?_
          refine aw_if_ne (tgt := 52) dX11_guess_36 (by decide) (fun c_56 => ?_) (fun c_56 => ?_)
          · exact absurd rfl c_56
          refine aw_iload dX11_guess_39 rfl ?_
          refine aw_if_ne (tgt := 52) dX11_guess_41 (by decide) (fun c_57 => ?_) (fun c_57 => ?_)
          rotate_left
          · exact absurd c_57 (by decide)
          refine aw_iload_n dX11_guess_52 rfl ?_
          refine aw_iconst (v := 1) dX11_guess_53 (by decide) ?_
          refine aw_icmp_lt (tgt := 79) dX11_guess_54 (by decide) (fun c_58 => ?_) (fun c_58 => ?_)
          · skip
            refine aw_iconst (v := (-1)) dX11_guess_79 (by decide) ?_
            refine aw_ireti dX11_guess_80 rfl (Nat.le_of_ble_eq_true rfl) (Nat.le_of_ble_eq_true rfl) ?_
            exact ⟨rfl, rfl, (fr_refl V)⟩
          · skip
            refine aw_iload_n dX11_guess_57 rfl ?_
            refine aw_bipush (v := 12) dX11_guess_58 (by decide) ?_
            refine aw_icmp_gt (tgt := 79) dX11_guess_60 (by decide) (fun c_59 => ?_) (fun c_59 => ?_)
            · skip
              refine aw_iconst (v := (-1)) dX11_guess_79 (by decide) ?_
              refine aw_ireti dX11_guess_80 rfl (Nat.le_of_ble_eq_true rfl) (Nat.le_of_ble_eq_true rfl) ?_
              exact ⟨rfl, rfl, (fr_refl V)⟩
            · skip
              refine aw_aload_n dX11_guess_63 rfl ?_
              refine aw_get dX11_guess_64 fl_X11_12 m0 (by omega) rfl ?_
              refine aw_iconst (v := 2) dX11_guess_67 (by decide) ?_
              refine aw_iload_n dX11_guess_68 rfl ?_
              refine aw_imul dX11_guess_69 ?_
              refine aw_iconst (v := 2) dX11_guess_70 (by decide) ?_
              refine aw_bipush (v := 24) dX11_guess_71 (by decide) ?_
              refine aw_callVi (J' := jX10_holds) (As := [.int (2 * n), .int 2, .int 24]) (st := []) dX11_guess_73 tb_267 ok_X10_holds ⟨_, m1⟩ (by omega) rfl rfl (c_holds0 l D b N V hN _ _ _ m1 (2 * n) 2 24 (by decide)) rfl (Nat.le_of_ble_eq_true rfl) ⟨Nat.le_of_ble_eq_true rfl, Nat.le_of_ble_eq_true rfl, Nat.le_of_ble_eq_true rfl, Nat.le_of_ble_eq_true rfl⟩ (fun r_60 N_61 V_62 q_63 => ?_)
              obtain ⟨rfl, rfl, rfl⟩ := q_63
              refine aw_if_ne (tgt := 81) dX11_guess_76 (by decide) (fun c_64 => ?_) (fun c_64 => ?_)
              · exact absurd rfl c_64
              refine aw_iconst (v := (-1)) dX11_guess_79 (by decide) ?_
              refine aw_ireti dX11_guess_80 rfl (Nat.le_of_ble_eq_true rfl) (Nat.le_of_ble_eq_true rfl) ?_
              exact ⟨rfl, rfl, (fr_refl V)⟩
    · skip
      refine aw_iconst (v := 1) dX11_guess_10 (by decide) ?_
      refine aw_goto (tgt := 15) dX11_guess_11 (by decide) ?_
      refine aw_istore_n (ls' := [some (.ref (b + 0)), some (.int n), some (.int x), some (.int 1), none, none, none, none]) dX11_guess_15 (Nat.le_of_ble_eq_true rfl) rfl ?_
      refine aw_iload_n dX11_guess_16 rfl ?_
      refine aw_bipush (v := 20) dX11_guess_17 (by decide) ?_
      refine aw_icmp_lt (tgt := 32) dX11_guess_19 (by decide) (fun c_65 => ?_) (fun c_65 => ?_)
      · skip
        refine aw_iconst (v := 0) dX11_guess_32 (by decide) ?_
        refine aw_istore (ls' := [some (.ref (b + 0)), some (.int n), some (.int x), some (.int 1), some (.int 0), none, none, none]) dX11_guess_33 (Nat.le_of_ble_eq_true rfl) rfl ?_
        refine aw_iload_n dX11_guess_35 rfl ?_
        refine aw_if_ne (tgt := 52) dX11_guess_36 (by decide) (fun c_66 => ?_) (fun c_66 => ?_)
        rotate_left
        · exact absurd c_66 (by decide)
        refine aw_iload_n dX11_guess_52 rfl ?_
        refine aw_iconst (v := 1) dX11_guess_53 (by decide) ?_
        refine aw_icmp_lt (tgt := 79) dX11_guess_54 (by decide) (fun c_67 => ?_) (fun c_67 => ?_)
        · skip
          refine aw_iconst (v := (-1)) dX11_guess_79 (by decide) ?_
          refine aw_ireti dX11_guess_80 rfl (Nat.le_of_ble_eq_true rfl) (Nat.le_of_ble_eq_true rfl) ?_
          exact ⟨rfl, rfl, (fr_refl V)⟩
        · skip
          refine aw_iload_n dX11_guess_57 rfl ?_
          refine aw_bipush (v := 12) dX11_guess_58 (by decide) ?_
          refine aw_icmp_gt (tgt := 79) dX11_guess_60 (by decide) (fun c_68 => ?_) (fun c_68 => ?_)
          · skip
            refine aw_iconst (v := (-1)) dX11_guess_79 (by decide) ?_
            refine aw_ireti dX11_guess_80 rfl (Nat.le_of_ble_eq_true rfl) (Nat.le_of_ble_eq_true rfl) ?_
            exact ⟨rfl, rfl, (fr_refl V)⟩
          · skip
            refine aw_aload_n dX11_guess_63 rfl ?_
            refine aw_get dX11_guess_64 fl_X11_12 m0 (by omega) rfl ?_
            refine aw_iconst (v := 2) dX11_guess_67 (by decide) ?_
            refine aw_iload_n dX11_guess_68 rfl ?_
            refine aw_imul dX11_guess_69 ?_
            refine aw_iconst (v := 2) dX11_guess_70 (by decide) ?_
            refine aw_bipush (v := 24) dX11_guess_71 (by decide) ?_
            refine aw_callVi (J' := jX10_holds) (As := [.int (2 * n), .int 2, .int 24]) (st := []) dX11_guess_73 tb_267 ok_X10_holds ⟨_, m1⟩ (by omega) rfl rfl (c_holds0 l D b N V hN _ _ _ m1 (2 * n) 2 24 (by decide)) rfl (Nat.le_of_ble_eq_true rfl) ⟨Nat.le_of_ble_eq_true rfl, Nat.le_of_ble_eq_true rfl, Nat.le_of_ble_eq_true rfl, Nat.le_of_ble_eq_true rfl⟩ (fun r_69 N_70 V_71 q_72 => ?_)
            obtain ⟨rfl, rfl, rfl⟩ := q_72
            refine aw_if_ne (tgt := 81) dX11_guess_76 (by decide) (fun c_73 => ?_) (fun c_73 => ?_)
            · exact absurd rfl c_73
            refine aw_iconst (v := (-1)) dX11_guess_79 (by decide) ?_
            refine aw_ireti dX11_guess_80 rfl (Nat.le_of_ble_eq_true rfl) (Nat.le_of_ble_eq_true rfl) ?_
            exact ⟨rfl, rfl, (fr_refl V)⟩
      · skip
        refine aw_iload_n dX11_guess_22 rfl ?_
        refine aw_bipush (v := 36) dX11_guess_23 (by decide) ?_
        refine aw_icmp_ge (tgt := 32) dX11_guess_25 (by decide) (fun c_74 => ?_) (fun c_74 => ?_)
        · skip
          refine aw_iconst (v := 0) dX11_guess_32 (by decide) ?_
          refine aw_istore (ls' := [some (.ref (b + 0)), some (.int n), some (.int x), some (.int 1), some (.int 0), none, none, none]) dX11_guess_33 (Nat.le_of_ble_eq_true rfl) rfl ?_
          refine aw_iload_n dX11_guess_35 rfl ?_
          refine aw_if_ne (tgt := 52) dX11_guess_36 (by decide) (fun c_75 => ?_) (fun c_75 => ?_)
          rotate_left
          · exact absurd c_75 (by decide)
          refine aw_iload_n dX11_guess_52 rfl ?_
          refine aw_iconst (v := 1) dX11_guess_53 (by decide) ?_
          refine aw_icmp_lt (tgt := 79) dX11_guess_54 (by decide) (fun c_76 => ?_) (fun c_76 => ?_)
          · skip
            refine aw_iconst (v := (-1)) dX11_guess_79 (by decide) ?_
            refine aw_ireti dX11_guess_80 rfl (Nat.le_of_ble_eq_true rfl) (Nat.le_of_ble_eq_true rfl) ?_
            exact ⟨rfl, rfl, (fr_refl V)⟩
          · skip
            refine aw_iload_n dX11_guess_57 rfl ?_
            refine aw_bipush (v := 12) dX11_guess_58 (by decide) ?_
            refine aw_icmp_gt (tgt := 79) dX11_guess_60 (by decide) (fun c_77 => ?_) (fun c_77 => ?_)
            · skip
              refine aw_iconst (v := (-1)) dX11_guess_79 (by decide) ?_
              refine aw_ireti dX11_guess_80 rfl (Nat.le_of_ble_eq_true rfl) (Nat.le_of_ble_eq_true rfl) ?_
              exact ⟨rfl, rfl, (fr_refl V)⟩
            · skip
              refine aw_aload_n dX11_guess_63 rfl ?_
              refine aw_get dX11_guess_64 fl_X11_12 m0 (by omega) rfl ?_
              refine aw_iconst (v := 2) dX11_guess_67 (by decide) ?_
              refine aw_iload_n dX11_guess_68 rfl ?_
              refine aw_imul dX11_guess_69 ?_
              refine aw_iconst (v := 2) dX11_guess_70 (by decide) ?_
              refine aw_bipush (v := 24) dX11_guess_71 (by decide) ?_
              refine aw_callVi (J' := jX10_holds) (As := [.int (2 * n), .int 2, .int 24]) (st := []) dX11_guess_73 tb_267 ok_X10_holds ⟨_, m1⟩ (by omega) rfl rfl (c_holds0 l D b N V hN _ _ _ m1 (2 * n) 2 24 (by decide)) rfl (Nat.le_of_ble_eq_true rfl) ⟨Nat.le_of_ble_eq_true rfl, Nat.le_of_ble_eq_true rfl, Nat.le_of_ble_eq_true rfl, Nat.le_of_ble_eq_true rfl⟩ (fun r_78 N_79 V_80 q_81 => ?_)
              obtain ⟨rfl, rfl, rfl⟩ := q_81
              refine aw_if_ne (tgt := 81) dX11_guess_76 (by decide) (fun c_82 => ?_) (fun c_82 => ?_)
              · exact absurd rfl c_82
              refine aw_iconst (v := (-1)) dX11_guess_79 (by decide) ?_
              refine aw_ireti dX11_guess_80 rfl (Nat.le_of_ble_eq_true rfl) (Nat.le_of_ble_eq_true rfl) ?_
              exact ⟨rfl, rfl, (fr_refl V)⟩
        · skip
          refine aw_iconst (v := 1) dX11_guess_28 (by decide) ?_
          refine aw_goto (tgt := 33) dX11_guess_29 (by decide) ?_
          refine aw_istore (ls' := [some (.ref (b + 0)), some (.int n), some (.int x), some (.int 1), some (.int 1), none, none, none]) dX11_guess_33 (Nat.le_of_ble_eq_true rfl) rfl ?_
          refine aw_iload_n dX11_guess_35 rfl ?_
          refine aw_if_ne (tgt := 52) dX11_guess_36 (by decide) (fun c_83 => ?_) (fun c_83 => ?_)
          rotate_left
          · exact absurd c_83 (by decide)
          refine aw_iload_n dX11_guess_52 rfl ?_
          refine aw_iconst (v := 1) dX11_guess_53 (by decide) ?_
          refine aw_icmp_lt (tgt := 79) dX11_guess_54 (by decide) (fun c_84 => ?_) (fun c_84 => ?_)
          · skip
            refine aw_iconst (v := (-1)) dX11_guess_79 (by decide) ?_
            refine aw_ireti dX11_guess_80 rfl (Nat.le_of_ble_eq_true rfl) (Nat.le_of_ble_eq_true rfl) ?_
            exact ⟨rfl, rfl, (fr_refl V)⟩
          · skip
            refine aw_iload_n dX11_guess_57 rfl ?_
            refine aw_bipush (v := 12) dX11_guess_58 (by decide) ?_
            refine aw_icmp_gt (tgt := 79) dX11_guess_60 (by decide) (fun c_85 => ?_) (fun c_85 => ?_)
            · skip
              refine aw_iconst (v := (-1)) dX11_guess_79 (by decide) ?_
              refine aw_ireti dX11_guess_80 rfl (Nat.le_of_ble_eq_true rfl) (Nat.le_of_ble_eq_true rfl) ?_
              exact ⟨rfl, rfl, (fr_refl V)⟩
            · skip
              refine aw_aload_n dX11_guess_63 rfl ?_
              refine aw_get dX11_guess_64 fl_X11_12 m0 (by omega) rfl ?_
              refine aw_iconst (v := 2) dX11_guess_67 (by decide) ?_
              refine aw_iload_n dX11_guess_68 rfl ?_
              refine aw_imul dX11_guess_69 ?_
              refine aw_iconst (v := 2) dX11_guess_70 (by decide) ?_
              refine aw_bipush (v := 24) dX11_guess_71 (by decide) ?_
              refine aw_callVi (J' := jX10_holds) (As := [.int (2 * n), .int 2, .int 24]) (st := []) dX11_guess_73 tb_267 ok_X10_holds ⟨_, m1⟩ (by omega) rfl rfl (c_holds0 l D b N V hN _ _ _ m1 (2 * n) 2 24 (by decide)) rfl (Nat.le_of_ble_eq_true rfl) ⟨Nat.le_of_ble_eq_true rfl, Nat.le_of_ble_eq_true rfl, Nat.le_of_ble_eq_true rfl, Nat.le_of_ble_eq_true rfl⟩ (fun r_86 N_87 V_88 q_89 => ?_)
              obtain ⟨rfl, rfl, rfl⟩ := q_89
              refine aw_if_ne (tgt := 81) dX11_guess_76 (by decide) (fun c_90 => ?_) (fun c_90 => ?_)
              · exact absurd rfl c_90
              refine aw_iconst (v := (-1)) dX11_guess_79 (by decide) ?_
              refine aw_ireti dX11_guess_80 rfl (Nat.le_of_ble_eq_true rfl) (Nat.le_of_ble_eq_true rfl) ?_
              exact ⟨rfl, rfl, (fr_refl V)⟩

set_option maxHeartbeats 4000000 in
set_option maxRecDepth 100000 in
theorem m_sentNext (l : Launch) (D : va_G) (b : Nat) (N : Nat) (V : Wd) (hN : 100 ≤ N) (hI : I0 D b V) (f : Int32) (x : Int32) : MI l D b 3 jX11_sentNext [.ref (b + 0), .int f, .int x] N V 0 0 (fun r N9 V9 => r = (if f < 1 then (-1) else if 65535 < f then (-1) else if x < 0 then (-1) else if x ≤ 1 then (-2) else (-1)) ∧ N = N9 ∧ ∀ i, 100 ≤ i → V9 i = V i) := by
  obtain ⟨m0, m1, m2, a3, a21, a39, m57, m63, m73, a74, m92, m93, m94, m95, m96, m97, m99⟩ := id hI
  have z3 : CZ D b 3 V := ⟨_, _, _, _, _, _, _, a3, fun _ _ _ _ => rfl, fun _ _ => rfl⟩
  have z21 : CZ D b 21 V := ⟨_, _, _, _, _, _, _, a21, fun _ _ _ _ => rfl, fun _ _ => rfl⟩
  have z39 : CZ D b 39 V := ⟨_, _, _, _, _, _, _, a39, fun _ _ _ _ => rfl, fun _ _ => rfl⟩
  have z74 : CZ D b 74 V := ⟨_, _, _, _, _, _, _, a74, fun _ _ _ _ => rfl, fun _ _ => rfl⟩
  refine mw_of (by decide) (by simp [Value.category]) (Nat.le_of_ble_eq_true rfl) ?_
  show AW l D b jX11_sentNext (fx_rm 3 0 0) none (fx_MQ D b 0 0 (fx_qi (fun r N9 V9 => r = (if f < 1 then (-1) else if 65535 < f then (-1) else if x < 0 then (-1) else if x ≤ 1 then (-2) else (-1)) ∧ N = N9 ∧ ∀ i, 100 ≤ i → V9 i = V i))) 0 [some (.ref (b + 0)), some (.int f), some (.int x), none] [] N V 0 0
  refine aw_iload_n dX11_sentNext_0 rfl ?_
  refine aw_iconst (v := 1) dX11_sentNext_1 (by decide) ?_
  refine aw_icmp_lt (tgt := 20) dX11_sentNext_2 (by decide) (fun c_1 => ?_) (fun c_1 => ?_)
  · skip
    refine aw_iconst (v := (-1)) dX11_sentNext_20 (by decide) ?_
    refine aw_ireti dX11_sentNext_21 rfl (Nat.le_of_ble_eq_true rfl) (Nat.le_of_ble_eq_true rfl) ?_
    exact ⟨by (first | (simp only [c_1, reduceIte]; done) | (simp only [c_1, reduceIte]; done)), rfl, (fr_refl V)⟩
  · skip
    refine aw_iload_n dX11_sentNext_5 rfl ?_
    refine aw_ldc (v := 65535) dX11_sentNext_6 tb_946 ?_
    refine aw_icmp_gt (tgt := 20) dX11_sentNext_8 (by decide) (fun c_2 => ?_) (fun c_2 => ?_)
    · skip
      refine aw_iconst (v := (-1)) dX11_sentNext_20 (by decide) ?_
      refine aw_ireti dX11_sentNext_21 rfl (Nat.le_of_ble_eq_true rfl) (Nat.le_of_ble_eq_true rfl) ?_
      exact ⟨by (first | (simp only [c_1, c_2, reduceIte]; done) | (simp only [c_1, c_2, reduceIte]; done)), rfl, (fr_refl V)⟩
    · skip
      refine aw_iload_n dX11_sentNext_11 rfl ?_
      refine aw_if_lt (tgt := 20) dX11_sentNext_12 (by decide) (fun c_3 => ?_) (fun c_3 => ?_)
      · skip
        refine aw_iconst (v := (-1)) dX11_sentNext_20 (by decide) ?_
        refine aw_ireti dX11_sentNext_21 rfl (Nat.le_of_ble_eq_true rfl) (Nat.le_of_ble_eq_true rfl) ?_
        exact ⟨by (first | (simp only [c_1, c_2, c_3, reduceIte]; done) | (simp only [c_1, c_2, c_3, reduceIte]; done)), rfl, (fr_refl V)⟩
      · skip
        refine aw_iload_n dX11_sentNext_15 rfl ?_
        refine aw_iconst (v := 1) dX11_sentNext_16 (by decide) ?_
        refine aw_icmp_le (tgt := 22) dX11_sentNext_17 (by decide) (fun c_4 => ?_) (fun c_4 => ?_)
        · skip
          refine aw_aload_n dX11_sentNext_22 rfl ?_
          refine aw_get dX11_sentNext_23 fl_X11_19 m0 (by omega) rfl ?_
          refine aw_iload_n dX11_sentNext_26 rfl ?_
          refine aw_callSi (J' := jX3_bestToSend) (As := [.ref (b + 3), .int f]) (st := []) dX11_sentNext_27 tb_947 ok_X3_bestToSend rfl (c_bestToSend l D b 3 N V (by omega) z3 f) rfl (Nat.le_of_ble_eq_true rfl) ⟨Nat.le_of_ble_eq_true rfl, Nat.le_of_ble_eq_true rfl, Nat.le_of_ble_eq_true rfl, Nat.le_of_ble_eq_true rfl⟩ (fun r_5 N_6 V_7 q_8 => ?_)
          obtain ⟨rfl, rfl, rfl⟩ := q_8
          refine aw_istore_n (ls' := [some (.ref (b + 0)), some (.int f), some (.int x), some (.int (-2))]) dX11_sentNext_30 (Nat.le_of_ble_eq_true rfl) rfl ?_
          refine aw_iload_n dX11_sentNext_31 rfl ?_
          refine aw_if_ge (tgt := 38) dX11_sentNext_32 (by decide) (fun c_9 => ?_) (fun c_9 => ?_)
          · exact absurd c_9 (by decide)
          refine aw_bipush (v := (-2)) dX11_sentNext_35 (by decide) ?_
          refine aw_ireti dX11_sentNext_37 rfl (Nat.le_of_ble_eq_true rfl) (Nat.le_of_ble_eq_true rfl) ?_
          exact ⟨by (first | (simp only [c_1, c_2, c_3, c_4, c_9, reduceIte]; done) | (simp only [c_1, c_2, c_3, c_4, c_9, reduceIte]; done)), rfl, (fr_refl V)⟩
        · skip
          refine aw_iconst (v := (-1)) dX11_sentNext_20 (by decide) ?_
          refine aw_ireti dX11_sentNext_21 rfl (Nat.le_of_ble_eq_true rfl) (Nat.le_of_ble_eq_true rfl) ?_
          exact ⟨by (first | (simp only [c_1, c_2, c_3, c_4, reduceIte]; done) | (simp only [c_1, c_2, c_3, c_4, reduceIte]; done)), rfl, (fr_refl V)⟩

set_option maxHeartbeats 4000000 in
set_option maxRecDepth 100000 in
theorem m_guards (l : Launch) (D : va_G) (b : Nat) (N : Nat) (V : Wd) (hN : 100 ≤ N) (hI : I0 D b V) (n : Int32) : MI l D b 1 jX11_guards [.ref (b + 0), .int n] N V 0 0 (fun r N9 V9 => r = (-1) ∧ N = N9 ∧ ∀ i, 100 ≤ i → V9 i = V i) := by
  obtain ⟨m0, m1, m2, a3, a21, a39, m57, m63, m73, a74, m92, m93, m94, m95, m96, m97, m99⟩ := id hI
  have z3 : CZ D b 3 V := ⟨_, _, _, _, _, _, _, a3, fun _ _ _ _ => rfl, fun _ _ => rfl⟩
  have z21 : CZ D b 21 V := ⟨_, _, _, _, _, _, _, a21, fun _ _ _ _ => rfl, fun _ _ => rfl⟩
  have z39 : CZ D b 39 V := ⟨_, _, _, _, _, _, _, a39, fun _ _ _ _ => rfl, fun _ _ => rfl⟩
  have z74 : CZ D b 74 V := ⟨_, _, _, _, _, _, _, a74, fun _ _ _ _ => rfl, fun _ _ => rfl⟩
  refine mw_of (by decide) (by simp [Value.category]) (Nat.le_of_ble_eq_true rfl) ?_
  show AW l D b jX11_guards (fx_rm 1 0 0) none (fx_MQ D b 0 0 (fx_qi (fun r N9 V9 => r = (-1) ∧ N = N9 ∧ ∀ i, 100 ≤ i → V9 i = V i))) 0 [some (.ref (b + 0)), some (.int n)] [] N V 0 0
  refine aw_aload_n dX11_guards_0 rfl ?_
  refine aw_get dX11_guards_1 fl_X11_12 m0 (by omega) rfl ?_
  refine aw_iload_n dX11_guards_4 rfl ?_
  refine aw_iconst (v := 3) dX11_guards_5 (by decide) ?_
  refine aw_bipush (v := 6) dX11_guards_6 (by decide) ?_
  refine aw_callVi (J' := jX10_holds) (As := [.int n, .int 3, .int 6]) (st := []) dX11_guards_8 tb_267 ok_X10_holds ⟨_, m1⟩ (by omega) rfl rfl (c_holds0 l D b N V hN _ _ _ m1 n 3 6 (by decide)) rfl (Nat.le_of_ble_eq_true rfl) ⟨Nat.le_of_ble_eq_true rfl, Nat.le_of_ble_eq_true rfl, Nat.le_of_ble_eq_true rfl, Nat.le_of_ble_eq_true rfl⟩ (fun r_1 N_2 V_3 q_4 => ?_)
  obtain ⟨rfl, rfl, rfl⟩ := q_4
  refine aw_if_ne (tgt := 16) dX11_guards_11 (by decide) (fun c_5 => ?_) (fun c_5 => ?_)
  · exact absurd rfl c_5
  refine aw_iconst (v := (-1)) dX11_guards_14 (by decide) ?_
  refine aw_ireti dX11_guards_15 rfl (Nat.le_of_ble_eq_true rfl) (Nat.le_of_ble_eq_true rfl) ?_
  exact ⟨rfl, rfl, (fr_refl V)⟩

set_option maxHeartbeats 4000000 in
set_option maxRecDepth 100000 in
theorem m_word (l : Launch) (D : va_G) (b : Nat) (N : Nat) (V : Wd) (hN : 100 ≤ N) (hI : I0 D b V) (n : Int32) (f : Int32) (t : Int32) : ML l D b 3 jX11_word [.ref (b + 0), .int n, .int f, .int t] N V 0 0 (fun r N9 V9 => r = (if n < 1 then (-1) else if 8 < n then (-1) else if f < 0 then (-1) else if f ≤ 65535 then (if t < 0 then (-1) else if t ≤ 128 then wds f n.toNatClampNeg t.toNatClampNeg else (-1)) else (-1)) ∧ N = N9 ∧ ∀ i, 100 ≤ i → V9 i = V i) := by
  obtain ⟨m0, m1, m2, a3, a21, a39, m57, m63, m73, a74, m92, m93, m94, m95, m96, m97, m99⟩ := id hI
  have z3 : CZ D b 3 V := ⟨_, _, _, _, _, _, _, a3, fun _ _ _ _ => rfl, fun _ _ => rfl⟩
  have z21 : CZ D b 21 V := ⟨_, _, _, _, _, _, _, a21, fun _ _ _ _ => rfl, fun _ _ => rfl⟩
  have z39 : CZ D b 39 V := ⟨_, _, _, _, _, _, _, a39, fun _ _ _ _ => rfl, fun _ _ => rfl⟩
  have z74 : CZ D b 74 V := ⟨_, _, _, _, _, _, _, a74, fun _ _ _ _ => rfl, fun _ _ => rfl⟩
  refine mw_of (by decide) (by simp [Value.category]) (Nat.le_of_ble_eq_true rfl) ?_
  show AW l D b jX11_word (fx_rm 3 0 0) none (fx_MQ D b 0 0 (fx_ql (fun r N9 V9 => r = (if n < 1 then (-1) else if 8 < n then (-1) else if f < 0 then (-1) else if f ≤ 65535 then (if t < 0 then (-1) else if t ≤ 128 then wds f n.toNatClampNeg t.toNatClampNeg else (-1)) else (-1)) ∧ N = N9 ∧ ∀ i, 100 ≤ i → V9 i = V i))) 0 [some (.ref (b + 0)), some (.int n), some (.int f), some (.int t)] [] N V 0 0
  refine aw_iload_n dX11_word_0 rfl ?_
  refine aw_iconst (v := 1) dX11_word_1 (by decide) ?_
  refine aw_icmp_lt (tgt := 21) dX11_word_2 (by decide) (fun c_1 => ?_) (fun c_1 => ?_)
  · skip
    refine aw_ldc2 (v := (-1)) dX11_word_21 tb_977 ?_
    refine aw_lreti dX11_word_24 rfl (Nat.le_of_ble_eq_true rfl) (Nat.le_of_ble_eq_true rfl) ?_
    exact ⟨by (first | (simp only [c_1, reduceIte]; done) | (simp only [c_1, reduceIte]; done)), rfl, (fr_refl V)⟩
  · skip
    refine aw_iload_n dX11_word_5 rfl ?_
    refine aw_bipush (v := 8) dX11_word_6 (by decide) ?_
    refine aw_icmp_gt (tgt := 21) dX11_word_8 (by decide) (fun c_2 => ?_) (fun c_2 => ?_)
    · skip
      refine aw_ldc2 (v := (-1)) dX11_word_21 tb_977 ?_
      refine aw_lreti dX11_word_24 rfl (Nat.le_of_ble_eq_true rfl) (Nat.le_of_ble_eq_true rfl) ?_
      exact ⟨by (first | (simp only [c_1, c_2, reduceIte]; done) | (simp only [c_1, c_2, reduceIte]; done)), rfl, (fr_refl V)⟩
    · skip
      refine aw_iload_n dX11_word_11 rfl ?_
      refine aw_if_lt (tgt := 21) dX11_word_12 (by decide) (fun c_3 => ?_) (fun c_3 => ?_)
      · skip
        refine aw_ldc2 (v := (-1)) dX11_word_21 tb_977 ?_
        refine aw_lreti dX11_word_24 rfl (Nat.le_of_ble_eq_true rfl) (Nat.le_of_ble_eq_true rfl) ?_
        exact ⟨by (first | (simp only [c_1, c_2, c_3, reduceIte]; done) | (simp only [c_1, c_2, c_3, reduceIte]; done)), rfl, (fr_refl V)⟩
      · skip
        refine aw_iload_n dX11_word_15 rfl ?_
        refine aw_ldc (v := 65535) dX11_word_16 tb_946 ?_
        refine aw_icmp_le (tgt := 25) dX11_word_18 (by decide) (fun c_4 => ?_) (fun c_4 => ?_)
        · skip
          refine aw_iload_n dX11_word_25 rfl ?_
          refine aw_if_lt (tgt := 36) dX11_word_26 (by decide) (fun c_5 => ?_) (fun c_5 => ?_)
          · skip
            refine aw_ldc2 (v := (-1)) dX11_word_36 tb_977 ?_
            refine aw_lreti dX11_word_39 rfl (Nat.le_of_ble_eq_true rfl) (Nat.le_of_ble_eq_true rfl) ?_
            exact ⟨by (first | (simp only [c_1, c_2, c_3, c_4, c_5, reduceIte]; done) | (simp only [c_1, c_2, c_3, c_4, c_5, reduceIte]; done)), rfl, (fr_refl V)⟩
          · skip
            refine aw_iload_n dX11_word_29 rfl ?_
            refine aw_sipush (v := 128) dX11_word_30 (by decide) ?_
            refine aw_icmp_le (tgt := 40) dX11_word_33 (by decide) (fun c_6 => ?_) (fun c_6 => ?_)
            · skip
              refine aw_aload_n dX11_word_40 rfl ?_
              refine aw_get dX11_word_41 fl_X11_67 m0 (by omega) rfl ?_
              refine aw_iload_n dX11_word_44 rfl ?_
              refine aw_iload_n dX11_word_45 rfl ?_
              refine aw_iload_n dX11_word_46 rfl ?_
              refine aw_callVl (J' := jX9_wordsWeighing) (As := [.int n, .int f, .int t]) (st := []) dX11_word_47 tb_978 ok_X9_wordsWeighing ⟨_, m97⟩ (by omega) rfl rfl (c_wordsI l D b N V hN m97 _ m99 n f t c_1 c_2 c_5 c_6) rfl (Nat.le_of_ble_eq_true rfl) ⟨Nat.le_of_ble_eq_true rfl, Nat.le_of_ble_eq_true rfl, Nat.le_of_ble_eq_true rfl, Nat.le_of_ble_eq_true rfl⟩ (fun r_9 N_10 V_8 q_11 => ?_)
              obtain ⟨hx_7, rfl, fr1⟩ := q_11
              refine aw_lreti dX11_word_50 rfl (Nat.le_of_ble_eq_true rfl) (Nat.le_of_ble_eq_true rfl) ?_
              exact ⟨by simp only [c_1, c_2, c_3, c_4, c_5, c_6, reduceIte]; exact hx_7, rfl, (fun i hi => (fr1 i (by omega)).trans ((fr_refl V) i hi))⟩
            · skip
              refine aw_ldc2 (v := (-1)) dX11_word_36 tb_977 ?_
              refine aw_lreti dX11_word_39 rfl (Nat.le_of_ble_eq_true rfl) (Nat.le_of_ble_eq_true rfl) ?_
              exact ⟨by (first | (simp only [c_1, c_2, c_3, c_4, c_5, c_6, reduceIte]; done) | (simp only [c_1, c_2, c_3, c_4, c_5, c_6, reduceIte]; done)), rfl, (fr_refl V)⟩
        · skip
          refine aw_ldc2 (v := (-1)) dX11_word_21 tb_977 ?_
          refine aw_lreti dX11_word_24 rfl (Nat.le_of_ble_eq_true rfl) (Nat.le_of_ble_eq_true rfl) ?_
          exact ⟨by (first | (simp only [c_1, c_2, c_3, c_4, reduceIte]; done) | (simp only [c_1, c_2, c_3, c_4, reduceIte]; done)), rfl, (fr_refl V)⟩

set_option maxHeartbeats 4000000 in
set_option maxRecDepth 100000 in
theorem m_rooms (l : Launch) (D : va_G) (b : Nat) (N : Nat) (V : Wd) (hN : 100 ≤ N) (hI : I0 D b V) (n : Int32) (x : Int32) : MI l D b 1 jX11_rooms [.ref (b + 0), .int n, .int x] N V 0 0 (fun r N9 V9 => r = (-1) ∧ N = N9 ∧ ∀ i, 100 ≤ i → V9 i = V i) := by
  obtain ⟨m0, m1, m2, a3, a21, a39, m57, m63, m73, a74, m92, m93, m94, m95, m96, m97, m99⟩ := id hI
  have z3 : CZ D b 3 V := ⟨_, _, _, _, _, _, _, a3, fun _ _ _ _ => rfl, fun _ _ => rfl⟩
  have z21 : CZ D b 21 V := ⟨_, _, _, _, _, _, _, a21, fun _ _ _ _ => rfl, fun _ _ => rfl⟩
  have z39 : CZ D b 39 V := ⟨_, _, _, _, _, _, _, a39, fun _ _ _ _ => rfl, fun _ _ => rfl⟩
  have z74 : CZ D b 74 V := ⟨_, _, _, _, _, _, _, a74, fun _ _ _ _ => rfl, fun _ _ => rfl⟩
  refine mw_of (by decide) (by simp [Value.category]) (Nat.le_of_ble_eq_true rfl) ?_
  show AW l D b jX11_rooms (fx_rm 1 0 0) none (fx_MQ D b 0 0 (fx_qi (fun r N9 V9 => r = (-1) ∧ N = N9 ∧ ∀ i, 100 ≤ i → V9 i = V i))) 0 [some (.ref (b + 0)), some (.int n), some (.int x), none] [] N V 0 0
  refine aw_iload_n dX11_rooms_0 rfl ?_
  refine aw_if_lt (tgt := 24) dX11_rooms_1 (by decide) (fun c_1 => ?_) (fun c_1 => ?_)
  · skip
    refine aw_iconst (v := (-1)) dX11_rooms_24 (by decide) ?_
    refine aw_ireti dX11_rooms_25 rfl (Nat.le_of_ble_eq_true rfl) (Nat.le_of_ble_eq_true rfl) ?_
    exact ⟨rfl, rfl, (fr_refl V)⟩
  · skip
    refine aw_iload_n dX11_rooms_4 rfl ?_
    refine aw_bipush (v := 99) dX11_rooms_5 (by decide) ?_
    refine aw_icmp_gt (tgt := 24) dX11_rooms_7 (by decide) (fun c_2 => ?_) (fun c_2 => ?_)
    · skip
      refine aw_iconst (v := (-1)) dX11_rooms_24 (by decide) ?_
      refine aw_ireti dX11_rooms_25 rfl (Nat.le_of_ble_eq_true rfl) (Nat.le_of_ble_eq_true rfl) ?_
      exact ⟨rfl, rfl, (fr_refl V)⟩
    · skip
      refine aw_aload_n dX11_rooms_10 rfl ?_
      refine aw_get dX11_rooms_11 fl_X11_12 m0 (by omega) rfl ?_
      refine aw_iload_n dX11_rooms_14 rfl ?_
      refine aw_iconst (v := 1) dX11_rooms_15 (by decide) ?_
      refine aw_bipush (v := 12) dX11_rooms_16 (by decide) ?_
      refine aw_callVi (J' := jX10_holds) (As := [.int n, .int 1, .int 12]) (st := []) dX11_rooms_18 tb_267 ok_X10_holds ⟨_, m1⟩ (by omega) rfl rfl (c_holds0 l D b N V hN _ _ _ m1 n 1 12 (by decide)) rfl (Nat.le_of_ble_eq_true rfl) ⟨Nat.le_of_ble_eq_true rfl, Nat.le_of_ble_eq_true rfl, Nat.le_of_ble_eq_true rfl, Nat.le_of_ble_eq_true rfl⟩ (fun r_3 N_4 V_5 q_6 => ?_)
      obtain ⟨rfl, rfl, rfl⟩ := q_6
      refine aw_if_ne (tgt := 26) dX11_rooms_21 (by decide) (fun c_7 => ?_) (fun c_7 => ?_)
      · exact absurd rfl c_7
      refine aw_iconst (v := (-1)) dX11_rooms_24 (by decide) ?_
      refine aw_ireti dX11_rooms_25 rfl (Nat.le_of_ble_eq_true rfl) (Nat.le_of_ble_eq_true rfl) ?_
      exact ⟨rfl, rfl, (fr_refl V)⟩

set_option maxHeartbeats 4000000 in
set_option maxRecDepth 100000 in
theorem m_seed (l : Launch) (D : va_G) (b : Nat) (N : Nat) (V : Wd) (hN : 100 ≤ N) (hI : I0 D b V) (x : Int32) : MI l D b 0 jX11_seed [.ref (b + 0), .int x] N V 0 0 (fun r N9 V9 => r = (if x < 0 then 0 else if x ≤ 65535 then 1 else 0) ∧ N = N9 ∧ ∀ i, 100 ≤ i → V9 i = V i) := by
  obtain ⟨m0, m1, m2, a3, a21, a39, m57, m63, m73, a74, m92, m93, m94, m95, m96, m97, m99⟩ := id hI
  have z3 : CZ D b 3 V := ⟨_, _, _, _, _, _, _, a3, fun _ _ _ _ => rfl, fun _ _ => rfl⟩
  have z21 : CZ D b 21 V := ⟨_, _, _, _, _, _, _, a21, fun _ _ _ _ => rfl, fun _ _ => rfl⟩
  have z39 : CZ D b 39 V := ⟨_, _, _, _, _, _, _, a39, fun _ _ _ _ => rfl, fun _ _ => rfl⟩
  have z74 : CZ D b 74 V := ⟨_, _, _, _, _, _, _, a74, fun _ _ _ _ => rfl, fun _ _ => rfl⟩
  refine mw_of (by decide) (by simp [Value.category]) (Nat.le_of_ble_eq_true rfl) ?_
  show AW l D b jX11_seed (fx_rm 0 0 0) none (fx_MQ D b 0 0 (fx_qi (fun r N9 V9 => r = (if x < 0 then 0 else if x ≤ 65535 then 1 else 0) ∧ N = N9 ∧ ∀ i, 100 ≤ i → V9 i = V i))) 0 [some (.ref (b + 0)), some (.int x)] [] N V 0 0
  refine aw_iload_n dX11_seed_0 rfl ?_
  refine aw_if_lt (tgt := 10) dX11_seed_1 (by decide) (fun c_1 => ?_) (fun c_1 => ?_)
  · skip
    refine aw_iconst (v := 0) dX11_seed_10 (by decide) ?_
    refine aw_zreti dX11_seed_11 rfl (Or.inl rfl) (Nat.le_of_ble_eq_true rfl) (Nat.le_of_ble_eq_true rfl) ?_
    exact ⟨by (first | (simp only [c_1, reduceIte]; done) | (simp only [c_1, reduceIte]; done)), rfl, (fr_refl V)⟩
  · skip
    refine aw_iload_n dX11_seed_4 rfl ?_
    refine aw_ldc (v := 65535) dX11_seed_5 tb_946 ?_
    refine aw_icmp_le (tgt := 12) dX11_seed_7 (by decide) (fun c_2 => ?_) (fun c_2 => ?_)
    · skip
      refine aw_aload_n dX11_seed_12 rfl ?_
      refine aw_get dX11_seed_13 fl_X11_19 m0 (by omega) rfl ?_
      refine aw_iload_n dX11_seed_16 rfl ?_
      refine aw_put dX11_seed_17 fp_X11_265 a3.1 (by omega) rfl rfl (Nat.le_of_ble_eq_true rfl) rfl ?_
      refine aw_iconst (v := 1) dX11_seed_20 (by decide) ?_
      refine aw_zreti dX11_seed_21 rfl (Or.inr rfl) (Nat.le_of_ble_eq_true rfl) (Nat.le_of_ble_eq_true rfl) ?_
      exact ⟨by (first | (simp only [c_1, c_2, reduceIte]; done) | (simp only [c_1, c_2, reduceIte]; done)), rfl, (fun i hi => (va_up_ne _ _ (by omega)).trans ((fr_refl V) i hi))⟩
    · skip
      refine aw_iconst (v := 0) dX11_seed_10 (by decide) ?_
      refine aw_zreti dX11_seed_11 rfl (Or.inl rfl) (Nat.le_of_ble_eq_true rfl) (Nat.le_of_ble_eq_true rfl) ?_
      exact ⟨by (first | (simp only [c_1, c_2, reduceIte]; done) | (simp only [c_1, c_2, reduceIte]; done)), rfl, (fr_refl V)⟩

set_option maxHeartbeats 4000000 in
set_option maxRecDepth 100000 in
theorem m_keep (l : Launch) (D : va_G) (b : Nat) (N : Nat) (V : Wd) (hN : 100 ≤ N) (hI : I0 D b V)  : MI l D b 2 jX11_keep [.ref (b + 0)] N V 0 0 (fun r N9 V9 => r = 0 ∧ N = N9 ∧ ∀ i, 100 ≤ i → V9 i = V i) := by
  obtain ⟨m0, m1, m2, a3, a21, a39, m57, m63, m73, a74, m92, m93, m94, m95, m96, m97, m99⟩ := id hI
  have z3 : CZ D b 3 V := ⟨_, _, _, _, _, _, _, a3, fun _ _ _ _ => rfl, fun _ _ => rfl⟩
  have z21 : CZ D b 21 V := ⟨_, _, _, _, _, _, _, a21, fun _ _ _ _ => rfl, fun _ _ => rfl⟩
  have z39 : CZ D b 39 V := ⟨_, _, _, _, _, _, _, a39, fun _ _ _ _ => rfl, fun _ _ => rfl⟩
  have z74 : CZ D b 74 V := ⟨_, _, _, _, _, _, _, a74, fun _ _ _ _ => rfl, fun _ _ => rfl⟩
  refine mw_of (by decide) (by simp [Value.category]) (Nat.le_of_ble_eq_true rfl) ?_
  show AW l D b jX11_keep (fx_rm 2 0 0) none (fx_MQ D b 0 0 (fx_qi (fun r N9 V9 => r = 0 ∧ N = N9 ∧ ∀ i, 100 ≤ i → V9 i = V i))) 0 [some (.ref (b + 0))] [] N V 0 0
  refine aw_aload_n dX11_keep_0 rfl ?_
  refine aw_get dX11_keep_1 fl_X11_26 m0 (by omega) rfl ?_
  refine aw_aload_n dX11_keep_4 rfl ?_
  refine aw_get dX11_keep_5 fl_X11_19 m0 (by omega) rfl ?_
  refine aw_callVv (J' := jX0_copyFrom) (As := [.ref (b + 3)]) (st := []) dX11_keep_8 tb_581 ok_X0_copyFrom (CZ.obj z39) (by omega) rfl rfl (c_copyFrom l D b 39 3 N V (by omega) (by omega) (by omega) z39 z3) rfl (Nat.le_of_ble_eq_true rfl) ⟨Nat.le_of_ble_eq_true rfl, Nat.le_of_ble_eq_true rfl, Nat.le_of_ble_eq_true rfl, Nat.le_of_ble_eq_true rfl⟩ (fun  N_4 V_3 q_5 => ?_)
  obtain ⟨rfl, hz_1, fr_2⟩ := q_5
  refine aw_aload_n dX11_keep_11 rfl ?_
  refine aw_iconst (v := 1) dX11_keep_12 (by decide) ?_
  refine aw_put dX11_keep_13 fp_X11_29 ((fr_2 _ (by omega)).trans m0) (by omega) (by decide) rfl (Nat.le_of_ble_eq_true rfl) rfl ?_
  refine aw_aload_n dX11_keep_16 rfl ?_
  refine aw_get dX11_keep_17 fl_X11_19 (va_up_self _ _ _) (by omega) rfl ?_
  refine aw_get dX11_keep_20 fl_X11_268 ((va_up_ne _ _ (by omega)).trans ((fr_2 _ (by omega)).trans a3.1)) (by omega) rfl ?_
  refine aw_ireti dX11_keep_23 rfl (Nat.le_of_ble_eq_true rfl) (Nat.le_of_ble_eq_true rfl) ?_
  exact ⟨rfl, rfl, (fun i hi => (va_up_ne _ _ (by omega)).trans ((fun i hi => (fr_2 i (by omega)).trans ((fr_refl V) i hi)) i hi))⟩

set_option maxHeartbeats 4000000 in
set_option maxRecDepth 100000 in
theorem m_undo (l : Launch) (D : va_G) (b : Nat) (N : Nat) (V : Wd) (hN : 100 ≤ N) (hI : I0 D b V)  : MI l D b 0 jX11_undo [.ref (b + 0)] N V 0 0 (fun r N9 V9 => r = 0 ∧ N = N9 ∧ ∀ i, 100 ≤ i → V9 i = V i) := by
  obtain ⟨m0, m1, m2, a3, a21, a39, m57, m63, m73, a74, m92, m93, m94, m95, m96, m97, m99⟩ := id hI
  have z3 : CZ D b 3 V := ⟨_, _, _, _, _, _, _, a3, fun _ _ _ _ => rfl, fun _ _ => rfl⟩
  have z21 : CZ D b 21 V := ⟨_, _, _, _, _, _, _, a21, fun _ _ _ _ => rfl, fun _ _ => rfl⟩
  have z39 : CZ D b 39 V := ⟨_, _, _, _, _, _, _, a39, fun _ _ _ _ => rfl, fun _ _ => rfl⟩
  have z74 : CZ D b 74 V := ⟨_, _, _, _, _, _, _, a74, fun _ _ _ _ => rfl, fun _ _ => rfl⟩
  refine mw_of (by decide) (by simp [Value.category]) (Nat.le_of_ble_eq_true rfl) ?_
  show AW l D b jX11_undo (fx_rm 0 0 0) none (fx_MQ D b 0 0 (fx_qi (fun r N9 V9 => r = 0 ∧ N = N9 ∧ ∀ i, 100 ≤ i → V9 i = V i))) 0 [some (.ref (b + 0))] [] N V 0 0
  refine aw_aload_n dX11_undo_0 rfl ?_
  refine aw_get dX11_undo_1 fl_X11_29 m0 (by omega) rfl ?_
  refine aw_if_ne (tgt := 9) dX11_undo_4 (by decide) (fun c_1 => ?_) (fun c_1 => ?_)
  · exact absurd rfl c_1
  refine aw_iconst (v := 0) dX11_undo_7 (by decide) ?_
  refine aw_zreti dX11_undo_8 rfl (Or.inl rfl) (Nat.le_of_ble_eq_true rfl) (Nat.le_of_ble_eq_true rfl) ?_
  exact ⟨rfl, rfl, (fr_refl V)⟩

set_option maxHeartbeats 4000000 in
set_option maxRecDepth 100000 in
theorem m_check (l : Launch) (D : va_G) (b : Nat) (N : Nat) (V : Wd) (hN : 100 ≤ N) (hI : I0 D b V) (n : Int32) : MI l D b 1 jX11_check [.ref (b + 0), .int n] N V 0 0 (fun r N9 V9 => r = (if n = 0 then (-1) else (-2)) ∧ N = N9 ∧ ∀ i, 100 ≤ i → V9 i = V i) := by
  obtain ⟨m0, m1, m2, a3, a21, a39, m57, m63, m73, a74, m92, m93, m94, m95, m96, m97, m99⟩ := id hI
  have z3 : CZ D b 3 V := ⟨_, _, _, _, _, _, _, a3, fun _ _ _ _ => rfl, fun _ _ => rfl⟩
  have z21 : CZ D b 21 V := ⟨_, _, _, _, _, _, _, a21, fun _ _ _ _ => rfl, fun _ _ => rfl⟩
  have z39 : CZ D b 39 V := ⟨_, _, _, _, _, _, _, a39, fun _ _ _ _ => rfl, fun _ _ => rfl⟩
  have z74 : CZ D b 74 V := ⟨_, _, _, _, _, _, _, a74, fun _ _ _ _ => rfl, fun _ _ => rfl⟩
  refine mw_of (by decide) (by simp [Value.category]) (Nat.le_of_ble_eq_true rfl) ?_
  show AW l D b jX11_check (fx_rm 1 0 0) none (fx_MQ D b 0 0 (fx_qi (fun r N9 V9 => r = (if n = 0 then (-1) else (-2)) ∧ N = N9 ∧ ∀ i, 100 ≤ i → V9 i = V i))) 0 [some (.ref (b + 0)), some (.int n), none, none] [] N V 0 0
  refine aw_aload_n dX11_check_0 rfl ?_
  refine aw_get dX11_check_1 fl_X11_12 m0 (by omega) rfl ?_
  refine aw_iload_n dX11_check_4 rfl ?_
  refine aw_iconst (v := 0) dX11_check_5 (by decide) ?_
  refine aw_bipush (v := 12) dX11_check_6 (by decide) ?_
  refine aw_callVi (J' := jX10_holds) (As := [.int n, .int 0, .int 12]) (st := []) dX11_check_8 tb_267 ok_X10_holds ⟨_, m1⟩ (by omega) rfl rfl (c_holdsC l D b N V hN _ _ _ m1 n) rfl (Nat.le_of_ble_eq_true rfl) ⟨Nat.le_of_ble_eq_true rfl, Nat.le_of_ble_eq_true rfl, Nat.le_of_ble_eq_true rfl, Nat.le_of_ble_eq_true rfl⟩ (fun r_2 N_3 V_4 q_5 => ?_)
  obtain ⟨hx_1, rfl, rfl⟩ := q_5
  refine aw_if_ne (tgt := 17) dX11_check_11 (by decide) (fun c_6 => ?_) (fun c_6 => ?_)
  · skip
    have hn := fx_if3 hx_1 c_6
    refine aw_aload_n dX11_check_17 rfl ?_
    refine aw_get dX11_check_18 fl_X11_12 m0 (by omega) rfl ?_
    refine aw_iload_n dX11_check_21 rfl ?_
    refine aw_callVv (J' := jX10_take) (As := [.int n]) (st := []) dX11_check_22 tb_271 ok_X10_take ⟨_, m1⟩ (by omega) rfl rfl (c_take l D b N V hN _ _ _ _ m1 n) rfl (Nat.le_of_ble_eq_true rfl) ⟨Nat.le_of_ble_eq_true rfl, Nat.le_of_ble_eq_true rfl, Nat.le_of_ble_eq_true rfl, Nat.le_of_ble_eq_true rfl⟩ (fun  N_9 V_8 q_10 => ?_)
    obtain ⟨rfl, fr_7⟩ := q_10
    refine aw_iconst (v := 0) dX11_check_25 (by decide) ?_
    refine aw_istore_n (ls' := [some (.ref (b + 0)), some (.int n), some (.int 0), none]) dX11_check_26 (Nat.le_of_ble_eq_true rfl) rfl ?_
    refine aw_iload_n dX11_check_27 rfl ?_
    refine aw_iload_n dX11_check_28 rfl ?_
    refine aw_icmp_ge (tgt := 78) dX11_check_29 (by decide) (fun c_11 => ?_) (fun c_11 => ?_)
    rotate_left
    · exact absurd (by rw [hn]; exact Int32.le_refl _) c_11
    refine aw_iconst (v := (-1)) dX11_check_78 (by decide) ?_
    refine aw_ireti dX11_check_79 rfl (Nat.le_of_ble_eq_true rfl) (Nat.le_of_ble_eq_true rfl) ?_
    exact ⟨(if_pos hn).symm, rfl, (fun i hi => (fr_7 i (by omega)).trans ((fr_refl V) i hi))⟩
  · skip
    have hn := fx_if4 hx_1 c_6
    refine aw_bipush (v := (-2)) dX11_check_14 (by decide) ?_
    refine aw_ireti dX11_check_16 rfl (Nat.le_of_ble_eq_true rfl) (Nat.le_of_ble_eq_true rfl) ?_
    exact ⟨(if_neg hn).symm, rfl, (fr_refl V)⟩

set_option maxHeartbeats 4000000 in
set_option maxRecDepth 100000 in
theorem m_count (l : Launch) (D : va_G) (b : Nat) (N : Nat) (V : Wd) (hN : 100 ≤ N) (hI : I0 D b V) (x : Int32) : MI l D b 2 jX11_count [.ref (b + 0), .int x] N V 0 0 (fun r N9 V9 => r = cnt x ∧ N = N9 ∧ ∀ i, 100 ≤ i → V9 i = V i) := by
  obtain ⟨m0, m1, m2, a3, a21, a39, m57, m63, m73, a74, m92, m93, m94, m95, m96, m97, m99⟩ := id hI
  have z3 : CZ D b 3 V := ⟨_, _, _, _, _, _, _, a3, fun _ _ _ _ => rfl, fun _ _ => rfl⟩
  have z21 : CZ D b 21 V := ⟨_, _, _, _, _, _, _, a21, fun _ _ _ _ => rfl, fun _ _ => rfl⟩
  have z39 : CZ D b 39 V := ⟨_, _, _, _, _, _, _, a39, fun _ _ _ _ => rfl, fun _ _ => rfl⟩
  have z74 : CZ D b 74 V := ⟨_, _, _, _, _, _, _, a74, fun _ _ _ _ => rfl, fun _ _ => rfl⟩
  refine mw_of (by decide) (by simp [Value.category]) (Nat.le_of_ble_eq_true rfl) ?_
  show AW l D b jX11_count (fx_rm 2 0 0) none (fx_MQ D b 0 0 (fx_qi (fun r N9 V9 => r = cnt x ∧ N = N9 ∧ ∀ i, 100 ≤ i → V9 i = V i))) 0 [some (.ref (b + 0)), some (.int x)] [] N V 0 0
  refine aw_iload_n dX11_count_0 rfl ?_
  rcases pk_ix x (n := 8) (by decide) with h | h | ⟨j, hj, rfl⟩
  · skip
    refine aw_tableOut (tgt := 112) dX11_count_1 (Or.inl (fx_sw0 h)) (by decide) ?_
    refine aw_iconst (v := (-1)) dX11_count_112 (by decide) ?_
    refine aw_ireti dX11_count_113 rfl (Nat.le_of_ble_eq_true rfl) (Nat.le_of_ble_eq_true rfl) ?_
    exact ⟨(cnt_lo h).symm, rfl, fun i _ => rfl⟩
  · skip
    refine aw_tableOut (tgt := 112) dX11_count_1 (Or.inr (fx_sw8 h)) (by decide) ?_
    refine aw_iconst (v := (-1)) dX11_count_112 (by decide) ?_
    refine aw_ireti dX11_count_113 rfl (Nat.le_of_ble_eq_true rfl) (Nat.le_of_ble_eq_true rfl) ?_
    exact ⟨(cnt_hi h).symm, rfl, fun i _ => rfl⟩
  · have hj8 : j = 0 ∨ j = 1 ∨ j = 2 ∨ j = 3 ∨ j = 4 ∨ j = 5 ∨ j = 6 ∨ j = 7 := by omega
    rcases hj8 with rfl | rfl | rfl | rfl | rfl | rfl | rfl | rfl
    · skip
      refine aw_tableIn (off := 47) (tgt := 48) dX11_count_1 (by decide) (by decide) (by decide) (by decide) ?_
      refine aw_aload_n dX11_count_48 rfl ?_
      refine aw_get dX11_count_49 fl_X11_19 m0 (by omega) rfl ?_
      refine aw_get dX11_count_52 fl_X11_268 a3.1 (by omega) rfl ?_
      refine aw_ireti dX11_count_55 rfl (Nat.le_of_ble_eq_true rfl) (Nat.le_of_ble_eq_true rfl) ?_
      exact ⟨by decide, rfl, fun i _ => rfl⟩
    · skip
      refine aw_tableIn (off := 55) (tgt := 56) dX11_count_1 (by decide) (by decide) (by decide) (by decide) ?_
      refine aw_aload_n dX11_count_56 rfl ?_
      refine aw_get dX11_count_57 fl_X11_19 m0 (by omega) rfl ?_
      refine aw_get dX11_count_60 fl_X11_212 a3.1 (by omega) rfl ?_
      refine aw_ireti dX11_count_63 rfl (Nat.le_of_ble_eq_true rfl) (Nat.le_of_ble_eq_true rfl) ?_
      exact ⟨by decide, rfl, fun i _ => rfl⟩
    · skip
      refine aw_tableIn (off := 63) (tgt := 64) dX11_count_1 (by decide) (by decide) (by decide) (by decide) ?_
      refine aw_aload_n dX11_count_64 rfl ?_
      refine aw_get dX11_count_65 fl_X11_19 m0 (by omega) rfl ?_
      refine aw_get dX11_count_68 fl_X11_274 a3.1 (by omega) rfl ?_
      refine aw_ireti dX11_count_71 rfl (Nat.le_of_ble_eq_true rfl) (Nat.le_of_ble_eq_true rfl) ?_
      exact ⟨by decide, rfl, fun i _ => rfl⟩
    · skip
      refine aw_tableIn (off := 71) (tgt := 72) dX11_count_1 (by decide) (by decide) (by decide) (by decide) ?_
      refine aw_aload_n dX11_count_72 rfl ?_
      refine aw_get dX11_count_73 fl_X11_19 m0 (by omega) rfl ?_
      refine aw_callVi (J' := jX0_acquaintances) (As := []) (st := []) dX11_count_76 tb_1023 ok_X0_acquaintances ⟨_, a3.1⟩ (by omega) rfl rfl (c_acquaintances l D b 3 N V (by omega) z3 ) rfl (Nat.le_of_ble_eq_true rfl) ⟨Nat.le_of_ble_eq_true rfl, Nat.le_of_ble_eq_true rfl, Nat.le_of_ble_eq_true rfl, Nat.le_of_ble_eq_true rfl⟩ (fun r_1 N_2 V_3 q_4 => ?_)
      obtain ⟨rfl, rfl, rfl⟩ := q_4
      refine aw_ireti dX11_count_79 rfl (Nat.le_of_ble_eq_true rfl) (Nat.le_of_ble_eq_true rfl) ?_
      exact ⟨by decide, rfl, fun i _ => rfl⟩
    · skip
      refine aw_tableIn (off := 79) (tgt := 80) dX11_count_1 (by decide) (by decide) (by decide) (by decide) ?_
      refine aw_aload_n dX11_count_80 rfl ?_
      refine aw_get dX11_count_81 fl_X11_19 m0 (by omega) rfl ?_
      refine aw_callVi (J' := jX0_openedInAll) (As := []) (st := []) dX11_count_84 tb_1028 ok_X0_openedInAll ⟨_, a3.1⟩ (by omega) rfl rfl (c_openedInAll l D b 3 N V (by omega) _ _ _ _ _ _ _ a3 (fun _ _ => rfl)) rfl (Nat.le_of_ble_eq_true rfl) ⟨Nat.le_of_ble_eq_true rfl, Nat.le_of_ble_eq_true rfl, Nat.le_of_ble_eq_true rfl, Nat.le_of_ble_eq_true rfl⟩ (fun r_5 N_6 V_7 q_8 => ?_)
      obtain ⟨rfl, rfl, rfl⟩ := q_8
      refine aw_ireti dX11_count_87 rfl (Nat.le_of_ble_eq_true rfl) (Nat.le_of_ble_eq_true rfl) ?_
      exact ⟨by decide, rfl, fun i _ => rfl⟩
    · skip
      refine aw_tableIn (off := 87) (tgt := 88) dX11_count_1 (by decide) (by decide) (by decide) (by decide) ?_
      refine aw_aload_n dX11_count_88 rfl ?_
      refine aw_get dX11_count_89 fl_X11_36 m0 (by omega) rfl ?_
      refine aw_get dX11_count_92 fl_X11_283 m57 (by omega) rfl ?_
      refine aw_ireti dX11_count_95 rfl (Nat.le_of_ble_eq_true rfl) (Nat.le_of_ble_eq_true rfl) ?_
      exact ⟨by decide, rfl, fun i _ => rfl⟩
    · skip
      refine aw_tableIn (off := 95) (tgt := 96) dX11_count_1 (by decide) (by decide) (by decide) (by decide) ?_
      refine aw_aload_n dX11_count_96 rfl ?_
      refine aw_get dX11_count_97 fl_X11_12 m0 (by omega) rfl ?_
      refine aw_get dX11_count_100 fl_X11_71 m1 (by omega) rfl ?_
      refine aw_ireti dX11_count_103 rfl (Nat.le_of_ble_eq_true rfl) (Nat.le_of_ble_eq_true rfl) ?_
      exact ⟨by decide, rfl, fun i _ => rfl⟩
    · skip
      refine aw_tableIn (off := 103) (tgt := 104) dX11_count_1 (by decide) (by decide) (by decide) (by decide) ?_
      refine aw_aload_n dX11_count_104 rfl ?_
      refine aw_get dX11_count_105 fl_X11_19 m0 (by omega) rfl ?_
      refine aw_get dX11_count_108 fl_X11_265 a3.1 (by omega) rfl ?_
      refine aw_ireti dX11_count_111 rfl (Nat.le_of_ble_eq_true rfl) (Nat.le_of_ble_eq_true rfl) ?_
      exact ⟨by decide, rfl, fun i _ => rfl⟩
