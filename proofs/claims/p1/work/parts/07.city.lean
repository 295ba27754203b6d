
theorem fx_ix {x : Int32} {n : Nat} (hn : n < 2 ^ 31) (h1 : ¬ x < 0) (h2 : ¬ nI n ≤ x) : ∃ j : Nat, j < n ∧ x = nI j := by
  rcases pk_ix x hn with h | h | h
  · exact absurd h h1
  · exact absurd h h2
  · exact h
theorem fx_ixl {x : Int32} {n : Nat} (hn : n < 2 ^ 31) (h1 : ¬ x < 0) (h2 : x < nI n) : ∃ j : Nat, j < n ∧ x = nI j := by
  rcases pk_ix x hn with h | h | h
  · exact absurd h h1
  · exact absurd h2 (by rw [Int32.not_lt]; exact h)
  · exact h
/-- a city at the cell c: nobody told, no door, all DREADS 0, nobody knows anybody -/
def CA (D : va_G) (b c : Nat) (V : Wd) (dr : Nat → Nat → Int32) (kn df sg op : Nat → Int32) (pe dd ni xx : Int32) : Prop :=
  V c = cO 0 [.ref (b + (c + 1)), .ref (b + (c + 14)), .ref (b + (c + 15)), .ref (b + (c + 16)), .ref (b + (c + 17)), .int pe, .int dd, .int ni, .int xx] ∧
  V (c + 1) = cR D 12 (fun j => if j < 12 then some (b + (c + 1 + 1 + j)) else none) ∧ (∀ i, i < 12 → V (c + 1 + 1 + i) = cI D 16 (dr i)) ∧
  V (c + 14) = cI D 12 kn ∧ V (c + 15) = cI D 16 df ∧ V (c + 16) = cI D 16 sg ∧ V (c + 17) = cI D 16 op
def CZ (D : va_G) (b c : Nat) (V : Wd) : Prop := ∃ (dr : Nat → Nat → Int32) (kn df sg op : Nat → Int32) (ni xx : Int32), CA D b c V dr kn df sg op 0 0 ni xx ∧ (∀ i j, i < 12 → j < 16 → dr i j = 0) ∧ (∀ i, i < 12 → kn i = 0)
theorem CA.frame {D : va_G} {b c : Nat} {V V' : Wd} {dr : Nat → Nat → Int32} {kn df sg op : Nat → Int32} {pe dd ni xx : Int32} (h : CA D b c V dr kn df sg op pe dd ni xx) (hf : ∀ i, c ≤ i → i < c + 18 → V' i = V i) : CA D b c V' dr kn df sg op pe dd ni xx := by
  obtain ⟨h0, h1, h2, h3, h4, h5, h6⟩ := h
  refine ⟨(hf _ (by omega) (by omega)).trans h0, (hf _ (by omega) (by omega)).trans h1, fun i hi => (hf _ (by omega) (by omega)).trans (h2 i hi), (hf _ (by omega) (by omega)).trans h3, (hf _ (by omega) (by omega)).trans h4, (hf _ (by omega) (by omega)).trans h5, (hf _ (by omega) (by omega)).trans h6⟩
theorem CZ.frame {D : va_G} {b c : Nat} {V V' : Wd} (h : CZ D b c V) (hf : ∀ i, c ≤ i → i < c + 18 → V' i = V i) : CZ D b c V' := by
  obtain ⟨dr, kn, df, sg, op, ni, xx, h, z⟩ := h
  exact ⟨dr, kn, df, sg, op, ni, xx, h.frame hf, z⟩
theorem CZ.up {D : va_G} {b c i : Nat} {V : Wd} {e : va_E} (h : CZ D b c V) (hi : i < c ∨ c + 18 ≤ i) : CZ D b c (va_up V i e) := h.frame (fun j h1 h2 => va_up_ne _ _ (by omega))
theorem CZ.obj {D : va_G} {b c : Nat} {V : Wd} (h : CZ D b c V) : ∃ fs, V c = cO 0 fs := by
  obtain ⟨dr, kn, df, sg, op, ni, xx, h, -⟩ := h
  exact ⟨_, h.1⟩
theorem fx_sh0 (x : Int32) : ((0 : Int32) >>> (x &&& 31)) &&& 1 = 0 := by
  have : (0 : Int32) >>> (x &&& 31) = 0 := by
    apply Int32.toBitVec_inj.mp
    simp [Int32.toBitVec_shiftRight]
  rw [this]; decide
set_option maxHeartbeats 4000000 in
set_option maxRecDepth 100000 in
theorem c_has0 (l : Launch) (D : va_G) (b : Nat) (N : Nat) (V : Wd) (p : Int32) : MI l D b 0 jX11_has [.int 0, .int p] N V 0 0 (fun r N9 V9 => r = 0 ∧ N = N9 ∧ V = V9) := by
  refine mw_of (by decide) (by simp [Value.category]) (Nat.le_of_ble_eq_true rfl) ?_
  show AW l D b jX11_has (fx_rm 0 0 0) none (fx_MQ D b 0 0 (fx_qi (fun r N9 V9 => r = 0 ∧ N = N9 ∧ V = V9))) 0 [some (.int 0), some (.int p)] [] N V 0 0
  refine aw_iload_n dX11_has_0 rfl ?_
  refine aw_if_lt (tgt := 22) dX11_has_1 (by decide) (fun c_1 => ?_) (fun c_1 => ?_)
  · skip
    refine aw_iconst (v := 0) dX11_has_22 (by decide) ?_
    refine aw_zreti dX11_has_23 rfl (Or.inl rfl) (Nat.le_of_ble_eq_true rfl) (Nat.le_of_ble_eq_true rfl) ?_
    exact ⟨rfl, rfl, rfl⟩
  · skip
    refine aw_iload_n dX11_has_4 rfl ?_
    refine aw_bipush (v := 32) dX11_has_5 (by decide) ?_
    refine aw_icmp_ge (tgt := 22) dX11_has_7 (by decide) (fun c_2 => ?_) (fun c_2 => ?_)
    · skip
      refine aw_iconst (v := 0) dX11_has_22 (by decide) ?_
      refine aw_zreti dX11_has_23 rfl (Or.inl rfl) (Nat.le_of_ble_eq_true rfl) (Nat.le_of_ble_eq_true rfl) ?_
      exact ⟨rfl, rfl, rfl⟩
    · skip
      refine aw_iload_n dX11_has_10 rfl ?_
      refine aw_iload_n dX11_has_11 rfl ?_
      refine aw_ishr dX11_has_12 ?_
      refine aw_iconst (v := 1) dX11_has_13 (by decide) ?_
      refine aw_iand dX11_has_14 ?_
      refine aw_if_eq (tgt := 22) dX11_has_15 (by decide) (fun c_3 => ?_) (fun c_3 => ?_)
      rotate_left
      · exact absurd (fx_sh0 p) c_3
      refine aw_iconst (v := 0) dX11_has_22 (by decide) ?_
      refine aw_zreti dX11_has_23 rfl (Or.inl rfl) (Nat.le_of_ble_eq_true rfl) (Nat.le_of_ble_eq_true rfl) ?_
      exact ⟨rfl, rfl, rfl⟩

set_option maxHeartbeats 4000000 in
set_option maxRecDepth 100000 in
theorem c_hasA (l : Launch) (D : va_G) (b : Nat) (N : Nat) (V : Wd) (x p : Int32) : MI l D b 0 jX11_has [.int x, .int p] N V 0 0 (fun r N9 V9 => (r = 0 ∨ r = 1) ∧ N = N9 ∧ V = V9) := by
  refine mw_of (by decide) (by simp [Value.category]) (Nat.le_of_ble_eq_true rfl) ?_
  show AW l D b jX11_has (fx_rm 0 0 0) none (fx_MQ D b 0 0 (fx_qi (fun r N9 V9 => (r = 0 ∨ r = 1) ∧ N = N9 ∧ V = V9))) 0 [some (.int x), some (.int p)] [] N V 0 0
  refine aw_iload_n dX11_has_0 rfl ?_
  refine aw_if_lt (tgt := 22) dX11_has_1 (by decide) (fun c_1 => ?_) (fun c_1 => ?_)
  · skip
    refine aw_iconst (v := 0) dX11_has_22 (by decide) ?_
    refine aw_zreti dX11_has_23 rfl (Or.inl rfl) (Nat.le_of_ble_eq_true rfl) (Nat.le_of_ble_eq_true rfl) ?_
    exact ⟨Or.inl rfl, rfl, rfl⟩
  · skip
    refine aw_iload_n dX11_has_4 rfl ?_
    refine aw_bipush (v := 32) dX11_has_5 (by decide) ?_
    refine aw_icmp_ge (tgt := 22) dX11_has_7 (by decide) (fun c_2 => ?_) (fun c_2 => ?_)
    · skip
      refine aw_iconst (v := 0) dX11_has_22 (by decide) ?_
      refine aw_zreti dX11_has_23 rfl (Or.inl rfl) (Nat.le_of_ble_eq_true rfl) (Nat.le_of_ble_eq_true rfl) ?_
      exact ⟨Or.inl rfl, rfl, rfl⟩
    · skip
      refine aw_iload_n dX11_has_10 rfl ?_
      refine aw_iload_n dX11_has_11 rfl ?_
      refine aw_ishr dX11_has_12 ?_
      refine aw_iconst (v := 1) dX11_has_13 (by decide) ?_
      refine aw_iand dX11_has_14 ?_
      refine aw_if_eq (tgt := 22) dX11_has_15 (by decide) (fun c_3 => ?_) (fun c_3 => ?_)
      · skip
        refine aw_iconst (v := 0) dX11_has_22 (by decide) ?_
        refine aw_zreti dX11_has_23 rfl (Or.inl rfl) (Nat.le_of_ble_eq_true rfl) (Nat.le_of_ble_eq_true rfl) ?_
        exact ⟨Or.inl rfl, rfl, rfl⟩
      · skip
        refine aw_iconst (v := 1) dX11_has_18 (by decide) ?_
        refine aw_goto (tgt := 23) dX11_has_19 (by decide) ?_
        refine aw_zreti dX11_has_23 rfl (Or.inr rfl) (Nat.le_of_ble_eq_true rfl) (Nat.le_of_ble_eq_true rfl) ?_
        exact ⟨Or.inr rfl, rfl, rfl⟩

set_option maxHeartbeats 4000000 in
set_option maxRecDepth 100000 in
theorem c_isPerson (l : Launch) (D : va_G) (b : Nat) (c N : Nat) (V : Wd) (hN : c + 18 ≤ N) (hC : CZ D b c V) (p : Int32) : MI l D b 1 jX0_isPerson [.ref (b + c), .int p] N V 0 0 (fun r N9 V9 => r = 0 ∧ N = N9 ∧ V = V9) := by
  obtain ⟨dr, kn, df, sg, op, ni, xx, ⟨h0, h1, h2, h3, h4, h5, h6⟩, z1, z2⟩ := id hC
  refine mw_of (by decide) (by simp [Value.category]) (Nat.le_of_ble_eq_true rfl) ?_
  show AW l D b jX0_isPerson (fx_rm 1 0 0) none (fx_MQ D b 0 0 (fx_qi (fun r N9 V9 => r = 0 ∧ N = N9 ∧ V = V9))) 0 [some (.ref (b + c)), some (.int p)] [] N V 0 0
  refine aw_iload_n dX0_isPerson_0 rfl ?_
  refine aw_if_lt (tgt := 25) dX0_isPerson_1 (by decide) (fun c_1 => ?_) (fun c_1 => ?_)
  · skip
    refine aw_iconst (v := 0) dX0_isPerson_25 (by decide) ?_
    refine aw_zreti dX0_isPerson_26 rfl (Or.inl rfl) (Nat.le_of_ble_eq_true rfl) (Nat.le_of_ble_eq_true rfl) ?_
    exact ⟨rfl, rfl, rfl⟩
  · skip
    refine aw_iload_n dX0_isPerson_4 rfl ?_
    refine aw_bipush (v := 12) dX0_isPerson_5 (by decide) ?_
    refine aw_icmp_ge (tgt := 25) dX0_isPerson_7 (by decide) (fun c_2 => ?_) (fun c_2 => ?_)
    · skip
      refine aw_iconst (v := 0) dX0_isPerson_25 (by decide) ?_
      refine aw_zreti dX0_isPerson_26 rfl (Or.inl rfl) (Nat.le_of_ble_eq_true rfl) (Nat.le_of_ble_eq_true rfl) ?_
      exact ⟨rfl, rfl, rfl⟩
    · skip
      refine aw_aload_n dX0_isPerson_10 rfl ?_
      refine aw_get dX0_isPerson_11 fl_X0_29 h0 (by omega) rfl ?_
      refine aw_iload_n dX0_isPerson_14 rfl ?_
      refine aw_callSNi (J' := jX11_has) (As := [.int 0, .int p]) (st := []) dX0_isPerson_15 tb_545 ok_X11_has rfl (c_has0 l D b N V p) rfl (Nat.le_of_ble_eq_true rfl) ⟨Nat.le_of_ble_eq_true rfl, Nat.le_of_ble_eq_true rfl, Nat.le_of_ble_eq_true rfl, Nat.le_of_ble_eq_true rfl⟩ (fun r_3 N_4 V_5 q_6 => ?_)
      obtain ⟨rfl, rfl, rfl⟩ := q_6
      refine aw_if_eq (tgt := 25) dX0_isPerson_18 (by decide) (fun c_7 => ?_) (fun c_7 => ?_)
      rotate_left
      · exact absurd (by decide) c_7
      refine aw_iconst (v := 0) dX0_isPerson_25 (by decide) ?_
      refine aw_zreti dX0_isPerson_26 rfl (Or.inl rfl) (Nat.le_of_ble_eq_true rfl) (Nat.le_of_ble_eq_true rfl) ?_
      exact ⟨rfl, rfl, rfl⟩

set_option maxHeartbeats 4000000 in
set_option maxRecDepth 100000 in
theorem c_isDoor (l : Launch) (D : va_G) (b : Nat) (c N : Nat) (V : Wd) (hN : c + 18 ≤ N) (hC : CZ D b c V) (p : Int32) : MI l D b 1 jX0_isDoor [.ref (b + c), .int p] N V 0 0 (fun r N9 V9 => r = 0 ∧ N = N9 ∧ V = V9) := by
  obtain ⟨dr, kn, df, sg, op, ni, xx, ⟨h0, h1, h2, h3, h4, h5, h6⟩, z1, z2⟩ := id hC
  refine mw_of (by decide) (by simp [Value.category]) (Nat.le_of_ble_eq_true rfl) ?_
  show AW l D b jX0_isDoor (fx_rm 1 0 0) none (fx_MQ D b 0 0 (fx_qi (fun r N9 V9 => r = 0 ∧ N = N9 ∧ V = V9))) 0 [some (.ref (b + c)), some (.int p)] [] N V 0 0
  refine aw_iload_n dX0_isDoor_0 rfl ?_
  refine aw_if_lt (tgt := 25) dX0_isDoor_1 (by decide) (fun c_1 => ?_) (fun c_1 => ?_)
  · skip
    refine aw_iconst (v := 0) dX0_isDoor_25 (by decide) ?_
    refine aw_zreti dX0_isDoor_26 rfl (Or.inl rfl) (Nat.le_of_ble_eq_true rfl) (Nat.le_of_ble_eq_true rfl) ?_
    exact ⟨rfl, rfl, rfl⟩
  · skip
    refine aw_iload_n dX0_isDoor_4 rfl ?_
    refine aw_bipush (v := 16) dX0_isDoor_5 (by decide) ?_
    refine aw_icmp_ge (tgt := 25) dX0_isDoor_7 (by decide) (fun c_2 => ?_) (fun c_2 => ?_)
    · skip
      refine aw_iconst (v := 0) dX0_isDoor_25 (by decide) ?_
      refine aw_zreti dX0_isDoor_26 rfl (Or.inl rfl) (Nat.le_of_ble_eq_true rfl) (Nat.le_of_ble_eq_true rfl) ?_
      exact ⟨rfl, rfl, rfl⟩
    · skip
      refine aw_aload_n dX0_isDoor_10 rfl ?_
      refine aw_get dX0_isDoor_11 fl_X0_33 h0 (by omega) rfl ?_
      refine aw_iload_n dX0_isDoor_14 rfl ?_
      refine aw_callSNi (J' := jX11_has) (As := [.int 0, .int p]) (st := []) dX0_isDoor_15 tb_545 ok_X11_has rfl (c_has0 l D b N V p) rfl (Nat.le_of_ble_eq_true rfl) ⟨Nat.le_of_ble_eq_true rfl, Nat.le_of_ble_eq_true rfl, Nat.le_of_ble_eq_true rfl, Nat.le_of_ble_eq_true rfl⟩ (fun r_3 N_4 V_5 q_6 => ?_)
      obtain ⟨rfl, rfl, rfl⟩ := q_6
      refine aw_if_eq (tgt := 25) dX0_isDoor_18 (by decide) (fun c_7 => ?_) (fun c_7 => ?_)
      rotate_left
      · exact absurd (by decide) c_7
      refine aw_iconst (v := 0) dX0_isDoor_25 (by decide) ?_
      refine aw_zreti dX0_isDoor_26 rfl (Or.inl rfl) (Nat.le_of_ble_eq_true rfl) (Nat.le_of_ble_eq_true rfl) ?_
      exact ⟨rfl, rfl, rfl⟩

set_option maxHeartbeats 4000000 in
set_option maxRecDepth 100000 in
theorem c_dreadOf (l : Launch) (D : va_G) (b : Nat) (c N : Nat) (V : Wd) (hN : c + 18 ≤ N) (hC : CZ D b c V) (p f : Int32) : MI l D b 0 jX0_dreadOf [.ref (b + c), .int p, .int f] N V 0 0 (fun r N9 V9 => r = 0 ∧ N = N9 ∧ V = V9) := by
  obtain ⟨dr, kn, df, sg, op, ni, xx, ⟨h0, h1, h2, h3, h4, h5, h6⟩, z1, z2⟩ := id hC
  refine mw_of (by decide) (by simp [Value.category]) (Nat.le_of_ble_eq_true rfl) ?_
  show AW l D b jX0_dreadOf (fx_rm 0 0 0) none (fx_MQ D b 0 0 (fx_qi (fun r N9 V9 => r = 0 ∧ N = N9 ∧ V = V9))) 0 [some (.ref (b + c)), some (.int p), some (.int f)] [] N V 0 0
  refine aw_iload_n dX0_dreadOf_0 rfl ?_
  refine aw_if_lt (tgt := 20) dX0_dreadOf_1 (by decide) (fun c_1 => ?_) (fun c_1 => ?_)
  · skip
    refine aw_iconst (v := 0) dX0_dreadOf_20 (by decide) ?_
    refine aw_ireti dX0_dreadOf_21 rfl (Nat.le_of_ble_eq_true rfl) (Nat.le_of_ble_eq_true rfl) ?_
    exact ⟨rfl, rfl, rfl⟩
  · skip
    refine aw_iload_n dX0_dreadOf_4 rfl ?_
    refine aw_bipush (v := 12) dX0_dreadOf_5 (by decide) ?_
    refine aw_icmp_ge (tgt := 20) dX0_dreadOf_7 (by decide) (fun c_2 => ?_) (fun c_2 => ?_)
    · skip
      refine aw_iconst (v := 0) dX0_dreadOf_20 (by decide) ?_
      refine aw_ireti dX0_dreadOf_21 rfl (Nat.le_of_ble_eq_true rfl) (Nat.le_of_ble_eq_true rfl) ?_
      exact ⟨rfl, rfl, rfl⟩
    · skip
      refine aw_iload_n dX0_dreadOf_10 rfl ?_
      refine aw_if_lt (tgt := 20) dX0_dreadOf_11 (by decide) (fun c_3 => ?_) (fun c_3 => ?_)
      · skip
        refine aw_iconst (v := 0) dX0_dreadOf_20 (by decide) ?_
        refine aw_ireti dX0_dreadOf_21 rfl (Nat.le_of_ble_eq_true rfl) (Nat.le_of_ble_eq_true rfl) ?_
        exact ⟨rfl, rfl, rfl⟩
      · skip
        refine aw_iload_n dX0_dreadOf_14 rfl ?_
        refine aw_bipush (v := 16) dX0_dreadOf_15 (by decide) ?_
        refine aw_icmp_lt (tgt := 22) dX0_dreadOf_17 (by decide) (fun c_4 => ?_) (fun c_4 => ?_)
        · skip
          obtain ⟨i1, hi1, rfl⟩ := (fx_ix (n := 12) (by decide) c_1 c_2)
          obtain ⟨i2, hi2, rfl⟩ := (fx_ixl (n := 16) (by decide) c_3 c_4)
          refine aw_aload_n dX0_dreadOf_22 rfl ?_
          refine aw_get dX0_dreadOf_23 fl_X0_11 h0 (by omega) rfl ?_
          refine aw_iload_n dX0_dreadOf_26 rfl ?_
          refine aw_aald dX0_dreadOf_27 h1 (by omega) (vp_in_nI (n := i1) (by omega) (by omega)) (by rw [nI_clamp (n := i1) (by omega)]; exact if_pos (by omega)) ?_
          refine aw_iload_n dX0_dreadOf_28 rfl ?_
          refine aw_iald (v := ((dr i1) i2)) dX0_dreadOf_29 (h2 i1 (by omega)) (by omega) (vp_in_nI (n := i2) (by omega) (by omega)) (congrArg (dr i1) (nI_clamp (n := i2) (by omega))) ?_
          refine aw_ireti dX0_dreadOf_30 rfl (Nat.le_of_ble_eq_true rfl) (Nat.le_of_ble_eq_true rfl) ?_
          exact ⟨by rw [z1 i1 i2 hi1 hi2], rfl, rfl⟩
        · skip
          refine aw_iconst (v := 0) dX0_dreadOf_20 (by decide) ?_
          refine aw_ireti dX0_dreadOf_21 rfl (Nat.le_of_ble_eq_true rfl) (Nat.le_of_ble_eq_true rfl) ?_
          exact ⟨rfl, rfl, rfl⟩

set_option maxHeartbeats 4000000 in
set_option maxRecDepth 100000 in
theorem c_greatestDread (l : Launch) (D : va_G) (b : Nat) (c N : Nat) (V : Wd) (hN : c + 18 ≤ N) (hC : CZ D b c V) (p : Int32) : MI l D b 1 jX0_greatestDread [.ref (b + c), .int p] N V 0 0 (fun r N9 V9 => r = 0 ∧ N = N9 ∧ V = V9) := by
  obtain ⟨dr, kn, df, sg, op, ni, xx, ⟨h0, h1, h2, h3, h4, h5, h6⟩, z1, z2⟩ := id hC
  refine mw_of (by decide) (by simp [Value.category]) (Nat.le_of_ble_eq_true rfl) ?_
  show AW l D b jX0_greatestDread (fx_rm 1 0 0) none (fx_MQ D b 0 0 (fx_qi (fun r N9 V9 => r = 0 ∧ N = N9 ∧ V = V9))) 0 [some (.ref (b + c)), some (.int p), none, none] [] N V 0 0
  refine aw_iconst (v := 0) dX0_greatestDread_0 (by decide) ?_
  refine aw_istore_n (ls' := [some (.ref (b + c)), some (.int p), some (.int 0), none]) dX0_greatestDread_1 (Nat.le_of_ble_eq_true rfl) rfl ?_
  refine aw_iconst (v := 0) dX0_greatestDread_2 (by decide) ?_
  refine aw_istore_n (ls' := [some (.ref (b + c)), some (.int p), some (.int 0), some (.int 0)]) dX0_greatestDread_3 (Nat.le_of_ble_eq_true rfl) rfl ?_
  have loop_4_0 : ∀ (g_4 : Nat), ∀ (j4 : Nat), j4 + g_4 = 16 → AW l D b jX0_greatestDread (fx_rm 1 0 0) none (fx_MQ D b 0 0 (fx_qi (fun r N9 V9 => r = 0 ∧ N = N9 ∧ V = V9))) 4 [some (.ref (b + c)), some (.int p), some (.int 0), some (.int (nI j4))] [] N V 0 0 := by
    intro g_4
    induction g_4 with
    | zero =>
      intro j4  hj4
      obtain rfl : j4 = 16 := by omega
      refine aw_iload_n dX0_greatestDread_4 rfl ?_
      refine aw_bipush (v := 16) dX0_greatestDread_5 (by decide) ?_
      refine aw_icmp_ge (tgt := 27) dX0_greatestDread_7 (by decide) (fun c_3 => ?_) (fun c_3 => ?_)
      rotate_left
      · exact absurd (nI_le (a := 16) (b := 16) (Nat.le_refl _) (by omega)) c_3
      refine aw_iload_n dX0_greatestDread_27 rfl ?_
      refine aw_ireti dX0_greatestDread_28 rfl (Nat.le_of_ble_eq_true rfl) (Nat.le_of_ble_eq_true rfl) ?_
      exact ⟨rfl, rfl, rfl⟩
    | succ g_4 ih_4_1 =>
      intro j4  hj4
      have hlj4 : j4 < 16 := by omega
      refine aw_iload_n dX0_greatestDread_4 rfl ?_
      refine aw_bipush (v := 16) dX0_greatestDread_5 (by decide) ?_
      refine aw_icmp_ge (tgt := 27) dX0_greatestDread_7 (by decide) (fun c_4 => ?_) (fun c_4 => ?_)
      · exact absurd c_4 (nI_ge (a := j4) (b := 16) (by omega) (by omega))
      refine aw_iload_n dX0_greatestDread_10 rfl ?_
      refine aw_aload_n dX0_greatestDread_11 rfl ?_
      refine aw_iload_n dX0_greatestDread_12 rfl ?_
      refine aw_iload_n dX0_greatestDread_13 rfl ?_
      refine aw_callVi (J' := jX0_dreadOf) (As := [.int p, .int (nI j4)]) (st := [.int 0]) dX0_greatestDread_14 tb_639 ok_X0_dreadOf ⟨_, h0⟩ (by omega) rfl rfl (c_dreadOf l D b c N V (by omega) hC p (nI j4)) rfl (Nat.le_of_ble_eq_true rfl) ⟨Nat.le_of_ble_eq_true rfl, Nat.le_of_ble_eq_true rfl, Nat.le_of_ble_eq_true rfl, Nat.le_of_ble_eq_true rfl⟩ (fun r_5 N_6 V_7 q_8 => ?_)
      obtain ⟨rfl, rfl, rfl⟩ := q_8
      refine aw_mmax dX0_greatestDread_17 tb_640 tb_385 tb_13 tb_386 ⟨Nat.le_of_ble_eq_true rfl, Nat.le_of_ble_eq_true rfl, Nat.le_of_ble_eq_true rfl, Nat.le_of_ble_eq_true rfl⟩ ?_
      refine aw_eqi (y := 0) (by decide) ?_
      refine aw_istore_n (ls' := [some (.ref (b + c)), some (.int p), some (.int 0), some (.int (nI j4))]) dX0_greatestDread_20 (Nat.le_of_ble_eq_true rfl) rfl ?_
      refine aw_iinc (v := (nI (j4 + 1))) (ls' := [some (.ref (b + c)), some (.int p), some (.int 0), some (.int (nI (j4 + 1)))]) dX0_greatestDread_21 rfl (fx_up_1 _) (Nat.le_of_ble_eq_true rfl) rfl ?_
      refine aw_goto (tgt := 4) dX0_greatestDread_24 (by decide) ?_
      refine aw_le ?_ (ih_4_1 (j4 + 1)   (by omega))
      exact ⟨rfl, ⟨rfl, ⟨rfl, ⟨rfl, trivial⟩⟩⟩⟩
  refine aw_le ?_ (loop_4_0 16 0   (by omega))
  exact ⟨rfl, ⟨rfl, ⟨rfl, ⟨rfl, trivial⟩⟩⟩⟩

set_option maxHeartbeats 4000000 in
set_option maxRecDepth 100000 in
theorem c_fearOf (l : Launch) (D : va_G) (b : Nat) (c N : Nat) (V : Wd) (hN : c + 18 ≤ N) (hC : CZ D b c V) (p : Int32) : MI l D b 2 jX0_fearOf [.ref (b + c), .int p] N V 0 0 (fun r N9 V9 => r = (-2) ∧ N = N9 ∧ V = V9) := by
  obtain ⟨dr, kn, df, sg, op, ni, xx, ⟨h0, h1, h2, h3, h4, h5, h6⟩, z1, z2⟩ := id hC
  refine mw_of (by decide) (by simp [Value.category]) (Nat.le_of_ble_eq_true rfl) ?_
  show AW l D b jX0_fearOf (fx_rm 2 0 0) none (fx_MQ D b 0 0 (fx_qi (fun r N9 V9 => r = (-2) ∧ N = N9 ∧ V = V9))) 0 [some (.ref (b + c)), some (.int p), none, none, none] [] N V 0 0
  refine aw_aload_n dX0_fearOf_0 rfl ?_
  refine aw_iload_n dX0_fearOf_1 rfl ?_
  refine aw_callVi (J' := jX0_greatestDread) (As := [.int p]) (st := []) dX0_fearOf_2 tb_723 ok_X0_greatestDread ⟨_, h0⟩ (by omega) rfl rfl (c_greatestDread l D b c N V (by omega) hC p) rfl (Nat.le_of_ble_eq_true rfl) ⟨Nat.le_of_ble_eq_true rfl, Nat.le_of_ble_eq_true rfl, Nat.le_of_ble_eq_true rfl, Nat.le_of_ble_eq_true rfl⟩ (fun r_1 N_2 V_3 q_4 => ?_)
  obtain ⟨rfl, rfl, rfl⟩ := q_4
  refine aw_istore_n (ls' := [some (.ref (b + c)), some (.int p), some (.int 0), none, none]) dX0_fearOf_5 (Nat.le_of_ble_eq_true rfl) rfl ?_
  refine aw_iload_n dX0_fearOf_6 rfl ?_
  refine aw_if_ne (tgt := 13) dX0_fearOf_7 (by decide) (fun c_5 => ?_) (fun c_5 => ?_)
  · exact absurd rfl c_5
  refine aw_bipush (v := (-2)) dX0_fearOf_10 (by decide) ?_
  refine aw_ireti dX0_fearOf_12 rfl (Nat.le_of_ble_eq_true rfl) (Nat.le_of_ble_eq_true rfl) ?_
  exact ⟨rfl, rfl, rfl⟩

set_option maxHeartbeats 4000000 in
set_option maxRecDepth 100000 in
theorem c_bitCount (l : Launch) (D : va_G) (b : Nat) (N : Nat) (V : Wd) (x : Int32) : MI l D b 0 jJ6_bitCount_0f7a4 [.int x] N V 0 0 (fun r N9 V9 => ((x = 0 → r = 0) ∧ 0 ≤ r) ∧ N = N9 ∧ V = V9) := by
  refine mw_of (by decide) (by simp [Value.category]) (Nat.le_of_ble_eq_true rfl) ?_
  show AW l D b jJ6_bitCount_0f7a4 (fx_rm 0 0 0) none (fx_MQ D b 0 0 (fx_qi (fun r N9 V9 => ((x = 0 → r = 0) ∧ 0 ≤ r) ∧ N = N9 ∧ V = V9))) 0 [some (.int x)] [] N V 0 0
  refine aw_iload_n dJ6_bitCount_0f7a4_0 rfl ?_
  refine aw_iload_n dJ6_bitCount_0f7a4_1 rfl ?_
  refine aw_iconst (v := 1) dJ6_bitCount_0f7a4_2 (by decide) ?_
  refine aw_iushr dJ6_bitCount_0f7a4_3 rfl ?_
  refine aw_ldcw (v := 1431655765) dJ6_bitCount_0f7a4_4 tb_648 ?_
  refine aw_iand dJ6_bitCount_0f7a4_7 ?_
  refine aw_isub dJ6_bitCount_0f7a4_8 ?_
  refine aw_topi (fun y1 ey1 => ?_)
  refine aw_istore_n (ls' := [some (.int y1)]) dJ6_bitCount_0f7a4_9 (Nat.le_of_ble_eq_true rfl) rfl ?_
  refine aw_iload_n dJ6_bitCount_0f7a4_10 rfl ?_
  refine aw_ldcw (v := 858993459) dJ6_bitCount_0f7a4_11 tb_649 ?_
  refine aw_iand dJ6_bitCount_0f7a4_14 ?_
  refine aw_iload_n dJ6_bitCount_0f7a4_15 rfl ?_
  refine aw_iconst (v := 2) dJ6_bitCount_0f7a4_16 (by decide) ?_
  refine aw_iushr dJ6_bitCount_0f7a4_17 rfl ?_
  refine aw_ldcw (v := 858993459) dJ6_bitCount_0f7a4_18 tb_649 ?_
  refine aw_iand dJ6_bitCount_0f7a4_21 ?_
  refine aw_iadd dJ6_bitCount_0f7a4_22 ?_
  refine aw_topi (fun y2 ey2 => ?_)
  refine aw_istore_n (ls' := [some (.int y2)]) dJ6_bitCount_0f7a4_23 (Nat.le_of_ble_eq_true rfl) rfl ?_
  refine aw_iload_n dJ6_bitCount_0f7a4_24 rfl ?_
  refine aw_iload_n dJ6_bitCount_0f7a4_25 rfl ?_
  refine aw_iconst (v := 4) dJ6_bitCount_0f7a4_26 (by decide) ?_
  refine aw_iushr dJ6_bitCount_0f7a4_27 rfl ?_
  refine aw_iadd dJ6_bitCount_0f7a4_28 ?_
  refine aw_ldcw (v := 252645135) dJ6_bitCount_0f7a4_29 tb_650 ?_
  refine aw_iand dJ6_bitCount_0f7a4_32 ?_
  refine aw_topi (fun y3 ey3 => ?_)
  refine aw_istore_n (ls' := [some (.int y3)]) dJ6_bitCount_0f7a4_33 (Nat.le_of_ble_eq_true rfl) rfl ?_
  refine aw_iload_n dJ6_bitCount_0f7a4_34 rfl ?_
  refine aw_iload_n dJ6_bitCount_0f7a4_35 rfl ?_
  refine aw_bipush (v := 8) dJ6_bitCount_0f7a4_36 (by decide) ?_
  refine aw_iushr dJ6_bitCount_0f7a4_38 rfl ?_
  refine aw_iadd dJ6_bitCount_0f7a4_39 ?_
  refine aw_topi (fun y4 ey4 => ?_)
  refine aw_istore_n (ls' := [some (.int y4)]) dJ6_bitCount_0f7a4_40 (Nat.le_of_ble_eq_true rfl) rfl ?_
  refine aw_iload_n dJ6_bitCount_0f7a4_41 rfl ?_
  refine aw_iload_n dJ6_bitCount_0f7a4_42 rfl ?_
  refine aw_bipush (v := 16) dJ6_bitCount_0f7a4_43 (by decide) ?_
  refine aw_iushr dJ6_bitCount_0f7a4_45 rfl ?_
  refine aw_iadd dJ6_bitCount_0f7a4_46 ?_
  refine aw_topi (fun y5 ey5 => ?_)
  refine aw_istore_n (ls' := [some (.int y5)]) dJ6_bitCount_0f7a4_47 (Nat.le_of_ble_eq_true rfl) rfl ?_
  refine aw_iload_n dJ6_bitCount_0f7a4_48 rfl ?_
  refine aw_bipush (v := 63) dJ6_bitCount_0f7a4_49 (by decide) ?_
  refine aw_iand dJ6_bitCount_0f7a4_51 ?_
  refine aw_ireti dJ6_bitCount_0f7a4_52 rfl (Nat.le_of_ble_eq_true rfl) (Nat.le_of_ble_eq_true rfl) ?_
  refine ⟨⟨fun hx => ?_, ?_⟩, rfl, rfl⟩
  · subst hx; subst ey1; subst ey2; subst ey3; subst ey4; subst ey5; decide
  · obtain ⟨j, hj, e⟩ := pk_andE y5 (m := 63) 6 (by decide)
    rw [e]; exact nI_pos' (by omega)
