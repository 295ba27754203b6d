def inr (v lo hi : Int32) : Int32 := if v < lo then 0 else if hi < v then 0 else 1
set_option maxHeartbeats 4000000 in
set_option maxRecDepth 100000 in
theorem inr_cases (v lo hi : Int32) : (v < lo ∧ inr v lo hi = 0) ∨ (¬ v < lo ∧ hi < v ∧ ¬ v ≤ hi ∧ inr v lo hi = 0) ∨ (¬ v < lo ∧ ¬ hi < v ∧ v ≤ hi ∧ inr v lo hi = 1) := by
  by_cases h1 : v < lo
  · exact Or.inl ⟨h1, by rw [inr, if_pos h1]⟩
  · by_cases h2 : hi < v
    · exact Or.inr (Or.inl ⟨h1, h2, Int32.not_le.mpr h2, by rw [inr, if_neg h1, if_pos h2]⟩)
    · exact Or.inr (Or.inr ⟨h1, h2, Int32.not_lt.mp h2, by rw [inr, if_neg h1, if_neg h2]⟩)
set_option maxHeartbeats 4000000 in
set_option maxRecDepth 100000 in
theorem fx_le8 {n : Int32} (h1 : ¬ n < 1) (h2 : ¬ 8 < n) : ∃ m : Nat, m ≤ 8 ∧ n = nI m := by
  rcases pk_ix n (n := 9) (by decide) with h | h | ⟨j, h, e⟩
  · exact absurd (Int32.lt_trans h (show (0 : Int32) < 1 by decide)) h1
  · exact absurd (Int32.lt_of_lt_of_le (show (8 : Int32) < nI 9 by decide) h) h2
  · exact ⟨j, by omega, e⟩
set_option maxHeartbeats 4000000 in
set_option maxRecDepth 100000 in
theorem fx_le128 {n : Int32} (h1 : ¬ n < 0) (h2 : n ≤ 128) : ∃ m : Nat, m ≤ 128 ∧ n = nI m := by
  rcases pk_ix n (n := 129) (by decide) with h | h | ⟨j, h, e⟩
  · exact absurd h h1
  · exact absurd (Int32.le_trans h h2) (by decide)
  · exact ⟨j, by omega, e⟩

def wsum (F : Int32) (g : Nat → Int64) (w : Nat) : Nat → Int64
  | 0 => 0
  | f + 1 => if ((F >>> (nI f &&& 31)) &&& 1) = 0 then wsum F g w f else if f < w then wsum F g w f + g (w - (f + 1)) else wsum F g w f
def wds (F : Int32) : Nat → Nat → Int64
  | 0, w => if w = 0 then 1 else 0
  | i + 1, w => wsum F (wds F i) w 16
theorem wsum_congr {F : Int32} {g g' : Nat → Int64} {w : Nat} (h : ∀ k, k < w → g k = g' k) : ∀ n, wsum F g w n = wsum F g' w n
  | 0 => rfl
  | n + 1 => by
    have ih := wsum_congr (F := F) h n
    simp only [wsum, ih]
    split
    · rfl
    · split
      · rw [h _ (by omega)]
      · rfl
theorem wsum_past {F : Int32} {g : Nat → Int64} {w : Nat} : ∀ n, w ≤ n → wsum F g w n = wsum F g w w
  | 0, h => by rw [show w = 0 by omega]
  | n + 1, h => by
    rcases Nat.lt_or_ge n w with q | q
    · rw [show w = n + 1 by omega]
    · simp only [wsum, if_neg (show ¬ n < w by omega), ite_self]
      exact wsum_past n q
theorem fx_if0 {P : Prop} {_ : Decidable P} {r : Int32} (h : r = if P then 0 else 1) (c : r = 0) : P := by
  by_cases p : P
  · exact p
  · rw [if_neg p] at h; rw [h] at c; exact absurd c (by decide)
theorem fx_if1 {P : Prop} {_ : Decidable P} {r : Int32} (h : r = if P then 0 else 1) (c : ¬ r = 0) : ¬ P := fun p => c (by rw [h, if_pos p])
set_option maxHeartbeats 4000000 in
set_option maxRecDepth 100000 in
theorem c_hasF (l : Launch) (D : va_G) (b : Nat) (N : Nat) (V : Wd) (x : Int32) (j : Nat) (hj : j < 32) : MI l D b 0 jX11_has [.int x, .int (nI j)] N V 0 0 (fun r N9 V9 => r = (if ((x >>> (nI j &&& 31)) &&& 1) = 0 then (0 : Int32) else 1) ∧ N = N9 ∧ V = V9) := by
  refine mw_of (by decide) (by simp [Value.category]) (Nat.le_of_ble_eq_true rfl) ?_
  show AW l D b jX11_has (fx_rm 0 0 0) none (fx_MQ D b 0 0 (fx_qi (fun r N9 V9 => r = (if ((x >>> (nI j &&& 31)) &&& 1) = 0 then (0 : Int32) else 1) ∧ N = N9 ∧ V = V9))) 0 [some (.int x), some (.int (nI j))] [] N V 0 0
  refine aw_iload_n dX11_has_0 rfl ?_
  refine aw_if_lt (tgt := 22) dX11_has_1 (by decide) (fun c_1 => ?_) (fun c_1 => ?_)
  · have nc_1 : j < 0 := (nI_ltI (a := j) (b := 0) (by omega) (by omega)).mp c_1
    omega
  have nc_1 : ¬ (j < 0) := fun z => c_1 ((nI_ltI (a := j) (b := 0) (by omega) (by omega)).mpr z)
  refine aw_iload_n dX11_has_4 rfl ?_
  refine aw_bipush (v := 32) dX11_has_5 (by decide) ?_
  refine aw_icmp_ge (tgt := 22) dX11_has_7 (by decide) (fun c_2 => ?_) (fun c_2 => ?_)
  · have nc_2 : 32 ≤ j := (nI_leI (a := 32) (b := j) (by omega) (by omega)).mp c_2
    omega
  have nc_2 : ¬ (32 ≤ j) := fun z => c_2 ((nI_leI (a := 32) (b := j) (by omega) (by omega)).mpr z)
  refine aw_iload_n dX11_has_10 rfl ?_
  refine aw_iload_n dX11_has_11 rfl ?_
  refine aw_ishr dX11_has_12 ?_
  refine aw_iconst (v := 1) dX11_has_13 (by decide) ?_
  refine aw_iand dX11_has_14 ?_
  refine aw_if_eq (tgt := 22) dX11_has_15 (by decide) (fun c_3 => ?_) (fun c_3 => ?_)
  · skip
    refine aw_iconst (v := 0) dX11_has_22 (by decide) ?_
    refine aw_zreti dX11_has_23 rfl (Or.inl rfl) (Nat.le_of_ble_eq_true rfl) (Nat.le_of_ble_eq_true rfl) ?_
    exact ⟨(if_pos c_3).symm, rfl, rfl⟩
  · skip
    refine aw_iconst (v := 1) dX11_has_18 (by decide) ?_
    refine aw_goto (tgt := 23) dX11_has_19 (by decide) ?_
    refine aw_zreti dX11_has_23 rfl (Or.inr rfl) (Nat.le_of_ble_eq_true rfl) (Nat.le_of_ble_eq_true rfl) ?_
    exact ⟨(if_neg c_3).symm, rfl, rfl⟩

set_option maxHeartbeats 4000000 in
set_option maxRecDepth 100000 in
theorem c_wordsWithOneMore (l : Launch) (D : va_G) (b : Nat) (N : Nat) (V : Wd) (hN : 100 ≤ N) (hp : V 97 = cO 8 [.ref (b + 98), .ref (b + 99)]) (g : Nat → Int64) (hg : V 99 = cJ D 129 g) (F : Int32) (w : Nat) (hw0 : w ≤ 128) : ML l D b 1 jX9_wordsWithOneMore [.ref (b + 97), .int F, .int (nI w)] N V 0 0 (fun r N9 V9 => r = wsum F g w 16 ∧ N = N9 ∧ V = V9) := by
  refine mw_of (by decide) (by simp [Value.category]) (Nat.le_of_ble_eq_true rfl) ?_
  show AW l D b jX9_wordsWithOneMore (fx_rm 1 0 0) none (fx_MQ D b 0 0 (fx_ql (fun r N9 V9 => r = wsum F g w 16 ∧ N = N9 ∧ V = V9))) 0 [some (.ref (b + 97)), some (.int F), some (.int (nI w)), none, none, none, none] [] N V 0 0
  refine aw_lconst (v := 0) dX9_wordsWithOneMore_0 (by decide) ?_
  refine aw_lstore_n (ls' := [some (.ref (b + 97)), some (.int F), some (.int (nI w)), some (.long 0), none, none, none]) dX9_wordsWithOneMore_1 (Nat.le_of_ble_eq_true rfl) rfl ?_
  refine aw_iconst (v := 0) dX9_wordsWithOneMore_2 (by decide) ?_
  refine aw_istore (ls' := [some (.ref (b + 97)), some (.int F), some (.int (nI w)), some (.long 0), none, some (.int 0), none]) dX9_wordsWithOneMore_3 (Nat.le_of_ble_eq_true rfl) rfl ?_
  have loop_5_0 : ∀ (g_5 : Nat), ∀ (j5 : Nat) (wy : Int64), j5 + g_5 = 16 → (wy = wsum F g w j5) → AW l D b jX9_wordsWithOneMore (fx_rm 1 0 0) none (fx_MQ D b 0 0 (fx_ql (fun r N9 V9 => r = wsum F g w 16 ∧ N = N9 ∧ V = V9))) 5 [some (.ref (b + 97)), some (.int F), some (.int (nI w)), some (.long wy), none, some (.int (nI j5)), none] [] N V 0 0 := by
    intro g_5
    induction g_5 with
    | zero =>
      intro j5 wy hj5 i5_0
      obtain rfl : j5 = 16 := by omega
      refine aw_iload dX9_wordsWithOneMore_5 rfl ?_
      refine aw_bipush (v := 16) dX9_wordsWithOneMore_7 (by decide) ?_
      refine aw_icmp_ge (tgt := 60) dX9_wordsWithOneMore_9 (by decide) (fun c_3 => ?_) (fun c_3 => ?_)
      rotate_left
      · exact absurd (nI_le (a := 16) (b := 16) (Nat.le_refl _) (by omega)) c_3
      refine aw_lload_n dX9_wordsWithOneMore_60 rfl ?_
      refine aw_lreti dX9_wordsWithOneMore_61 rfl (Nat.le_of_ble_eq_true rfl) (Nat.le_of_ble_eq_true rfl) ?_
      exact ⟨i5_0, rfl, rfl⟩
    | succ g_5 ih_5_1 =>
      intro j5 wy hj5 i5_0
      have hlj5 : j5 < 16 := by omega
      refine aw_iload dX9_wordsWithOneMore_5 rfl ?_
      refine aw_bipush (v := 16) dX9_wordsWithOneMore_7 (by decide) ?_
      refine aw_icmp_ge (tgt := 60) dX9_wordsWithOneMore_9 (by decide) (fun c_4 => ?_) (fun c_4 => ?_)
      · exact absurd c_4 (nI_ge (a := j5) (b := 16) (by omega) (by omega))
      rcases Nat.lt_or_ge j5 w with hw | hw
      · skip
        refine aw_iload_n dX9_wordsWithOneMore_12 rfl ?_
        refine aw_iload dX9_wordsWithOneMore_13 rfl ?_
        refine aw_iconst (v := 1) dX9_wordsWithOneMore_15 (by decide) ?_
        refine aw_iadd dX9_wordsWithOneMore_16 ?_
        refine aw_eqi (y := nI (j5 + 1)) (nI_add _ _) ?_
        refine aw_isub dX9_wordsWithOneMore_17 ?_
        refine aw_eqi (y := (nI (w - (j5 + 1)))) (pk_sub (by omega)) ?_
        refine aw_istore (ls' := [some (.ref (b + 97)), some (.int F), some (.int (nI w)), some (.long wy), none, some (.int (nI j5)), some (.int (nI (w - (j5 + 1))))]) dX9_wordsWithOneMore_18 (Nat.le_of_ble_eq_true rfl) rfl ?_
        refine aw_iload_n dX9_wordsWithOneMore_20 rfl ?_
        refine aw_iload dX9_wordsWithOneMore_21 rfl ?_
        refine aw_callSNi (J' := jX11_has) (As := [.int F, .int (nI j5)]) (st := []) dX9_wordsWithOneMore_23 tb_964 ok_X11_has rfl (c_hasF l D b N V F j5 (by omega)) rfl (Nat.le_of_ble_eq_true rfl) ⟨Nat.le_of_ble_eq_true rfl, Nat.le_of_ble_eq_true rfl, Nat.le_of_ble_eq_true rfl, Nat.le_of_ble_eq_true rfl⟩ (fun r_5 N_6 V_7 q_8 => ?_)
        obtain ⟨hr_5, rfl, rfl⟩ := q_8
        refine aw_if_eq (tgt := 54) dX9_wordsWithOneMore_26 (by decide) (fun c_9 => ?_) (fun c_9 => ?_)
        · skip
          have hb := fx_if0 hr_5 c_9
          refine aw_iinc (v := (nI (j5 + 1))) (ls' := [some (.ref (b + 97)), some (.int F), some (.int (nI w)), some (.long wy), none, some (.int (nI (j5 + 1))), some (.int (nI (w - (j5 + 1))))]) dX9_wordsWithOneMore_54 rfl (fx_up_1 _) (Nat.le_of_ble_eq_true rfl) rfl ?_
          refine aw_goto (tgt := 5) dX9_wordsWithOneMore_57 (by decide) ?_
          refine aw_le ?_ (ih_5_1 (j5 + 1) wy  (by omega) ((by rw [wsum, if_pos hb]; exact i5_0)))
          exact ⟨rfl, ⟨rfl, ⟨rfl, ⟨rfl, ⟨rfl, trivial⟩⟩⟩⟩⟩
        · skip
          have hb := fx_if1 hr_5 c_9
          refine aw_iload dX9_wordsWithOneMore_29 rfl ?_
          refine aw_if_lt (tgt := 54) dX9_wordsWithOneMore_31 (by decide) (fun c_10 => ?_) (fun c_10 => ?_)
          · have nc_10 : (w - (j5 + 1)) < 0 := (nI_ltI (a := (w - (j5 + 1))) (b := 0) (by omega) (by omega)).mp c_10
            omega
          have nc_10 : ¬ ((w - (j5 + 1)) < 0) := fun z => c_10 ((nI_ltI (a := (w - (j5 + 1))) (b := 0) (by omega) (by omega)).mpr z)
          refine aw_iload dX9_wordsWithOneMore_34 rfl ?_
          refine aw_aload_n dX9_wordsWithOneMore_36 rfl ?_
          refine aw_get dX9_wordsWithOneMore_37 fl_X9_15 hp (by omega) rfl ?_
          refine aw_alen (t0 := 1) (v := 129) dX9_wordsWithOneMore_40 hg (by omega) rfl rfl ?_
          refine aw_icmp_ge (tgt := 54) dX9_wordsWithOneMore_41 (by decide) (fun c_11 => ?_) (fun c_11 => ?_)
          · have nc_11 : 129 ≤ (w - (j5 + 1)) := (nI_leI (a := 129) (b := (w - (j5 + 1))) (by omega) (by omega)).mp c_11
            omega
          have nc_11 : ¬ (129 ≤ (w - (j5 + 1))) := fun z => c_11 ((nI_leI (a := 129) (b := (w - (j5 + 1))) (by omega) (by omega)).mpr z)
          refine aw_lload_n dX9_wordsWithOneMore_44 rfl ?_
          refine aw_aload_n dX9_wordsWithOneMore_45 rfl ?_
          refine aw_get dX9_wordsWithOneMore_46 fl_X9_15 hp (by omega) rfl ?_
          refine aw_iload dX9_wordsWithOneMore_49 rfl ?_
          refine aw_lald (v := (g (w - (j5 + 1)))) dX9_wordsWithOneMore_51 hg (by omega) (vp_in_nI (n := (w - (j5 + 1))) (by omega) (by omega)) (congrArg g (nI_clamp (n := (w - (j5 + 1))) (by omega))) ?_
          refine aw_ladd dX9_wordsWithOneMore_52 ?_
          refine aw_lstore_n (ls' := [some (.ref (b + 97)), some (.int F), some (.int (nI w)), some (.long (wy + (g (w - (j5 + 1))))), none, some (.int (nI j5)), some (.int (nI (w - (j5 + 1))))]) dX9_wordsWithOneMore_53 (Nat.le_of_ble_eq_true rfl) rfl ?_
          refine aw_iinc (v := (nI (j5 + 1))) (ls' := [some (.ref (b + 97)), some (.int F), some (.int (nI w)), some (.long (wy + (g (w - (j5 + 1))))), none, some (.int (nI (j5 + 1))), some (.int (nI (w - (j5 + 1))))]) dX9_wordsWithOneMore_54 rfl (fx_up_1 _) (Nat.le_of_ble_eq_true rfl) rfl ?_
          refine aw_goto (tgt := 5) dX9_wordsWithOneMore_57 (by decide) ?_
          refine aw_le ?_ (ih_5_1 (j5 + 1) (wy + (g (w - (j5 + 1))))  (by omega) ((by rw [wsum, if_neg hb, if_pos hw, i5_0])))
          exact ⟨rfl, ⟨rfl, ⟨rfl, ⟨rfl, ⟨rfl, trivial⟩⟩⟩⟩⟩
      · skip
        refine aw_iload_n dX9_wordsWithOneMore_12 rfl ?_
        refine aw_iload dX9_wordsWithOneMore_13 rfl ?_
        refine aw_iconst (v := 1) dX9_wordsWithOneMore_15 (by decide) ?_
        refine aw_iadd dX9_wordsWithOneMore_16 ?_
        refine aw_eqi (y := nI (j5 + 1)) (nI_add _ _) ?_
        refine aw_isub dX9_wordsWithOneMore_17 ?_
        refine aw_eqi (y := (nI w - nI (j5 + 1))) rfl ?_
        refine aw_istore (ls' := [some (.ref (b + 97)), some (.int F), some (.int (nI w)), some (.long wy), none, some (.int (nI j5)), some (.int (nI w - nI (j5 + 1)))]) dX9_wordsWithOneMore_18 (Nat.le_of_ble_eq_true rfl) rfl ?_
        refine aw_iload_n dX9_wordsWithOneMore_20 rfl ?_
        refine aw_iload dX9_wordsWithOneMore_21 rfl ?_
        refine aw_callSNi (J' := jX11_has) (As := [.int F, .int (nI j5)]) (st := []) dX9_wordsWithOneMore_23 tb_964 ok_X11_has rfl (c_hasF l D b N V F j5 (by omega)) rfl (Nat.le_of_ble_eq_true rfl) ⟨Nat.le_of_ble_eq_true rfl, Nat.le_of_ble_eq_true rfl, Nat.le_of_ble_eq_true rfl, Nat.le_of_ble_eq_true rfl⟩ (fun r_12 N_13 V_14 q_15 => ?_)
        obtain ⟨hr_12, rfl, rfl⟩ := q_15
        refine aw_if_eq (tgt := 54) dX9_wordsWithOneMore_26 (by decide) (fun c_16 => ?_) (fun c_16 => ?_)
        · skip
          have hb := fx_if0 hr_12 c_16
          refine aw_iinc (v := (nI (j5 + 1))) (ls' := [some (.ref (b + 97)), some (.int F), some (.int (nI w)), some (.long wy), none, some (.int (nI (j5 + 1))), some (.int (nI w - nI (j5 + 1)))]) dX9_wordsWithOneMore_54 rfl (fx_up_1 _) (Nat.le_of_ble_eq_true rfl) rfl ?_
          refine aw_goto (tgt := 5) dX9_wordsWithOneMore_57 (by decide) ?_
          refine aw_le ?_ (ih_5_1 (j5 + 1) wy  (by omega) ((by rw [wsum, if_pos hb]; exact i5_0)))
          exact ⟨rfl, ⟨rfl, ⟨rfl, ⟨rfl, ⟨rfl, trivial⟩⟩⟩⟩⟩
        · skip
          have hb := fx_if1 hr_12 c_16
          refine aw_iload dX9_wordsWithOneMore_29 rfl ?_
          refine aw_if_lt (tgt := 54) dX9_wordsWithOneMore_31 (by decide) (fun c_17 => ?_) (fun c_17 => ?_)
          rotate_left
          · exact absurd (pk_sneg (by omega) (by omega)) c_17
          refine aw_iinc (v := (nI (j5 + 1))) (ls' := [some (.ref (b + 97)), some (.int F), some (.int (nI w)), some (.long wy), none, some (.int (nI (j5 + 1))), some (.int (nI w - nI (j5 + 1)))]) dX9_wordsWithOneMore_54 rfl (fx_up_1 _) (Nat.le_of_ble_eq_true rfl) rfl ?_
          refine aw_goto (tgt := 5) dX9_wordsWithOneMore_57 (by decide) ?_
          refine aw_le ?_ (ih_5_1 (j5 + 1) wy  (by omega) ((by rw [wsum, if_neg hb, if_neg (by omega)]; exact i5_0)))
          exact ⟨rfl, ⟨rfl, ⟨rfl, ⟨rfl, ⟨rfl, trivial⟩⟩⟩⟩⟩
  refine aw_le ?_ (loop_5_0 16 0 0  (by omega) (rfl))
  exact ⟨rfl, ⟨rfl, ⟨rfl, ⟨rfl, ⟨rfl, trivial⟩⟩⟩⟩⟩

set_option maxHeartbeats 4000000 in
set_option maxRecDepth 100000 in
theorem c_wordsWeighing (l : Launch) (D : va_G) (b : Nat) (N : Nat) (V : Wd) (hN : 100 ≤ N) (hp : V 97 = cO 8 [.ref (b + 98), .ref (b + 99)]) (g : Nat → Int64) (hg : V 99 = cJ D 129 g) (n : Nat) (hn : n ≤ 8) (F : Int32) (wt : Nat) (hw0 : wt ≤ 128) : ML l D b 2 jX9_wordsWeighing [.ref (b + 97), .int (nI n), .int F, .int (nI wt)] N V 0 0 (fun r N9 V9 => r = wds F n wt ∧ N = N9 ∧ (∃ g9, V9 99 = cJ D 129 g9) ∧ ∀ i, i ≠ 99 → V9 i = V i) := by
  refine mw_of (by decide) (by simp [Value.category]) (Nat.le_of_ble_eq_true rfl) ?_
  show AW l D b jX9_wordsWeighing (fx_rm 2 0 0) none (fx_MQ D b 0 0 (fx_ql (fun r N9 V9 => r = wds F n wt ∧ N = N9 ∧ (∃ g9, V9 99 = cJ D 129 g9) ∧ ∀ i, i ≠ 99 → V9 i = V i))) 0 [some (.ref (b + 97)), some (.int (nI n)), some (.int F), some (.int (nI wt)), none, none] [] N V 0 0
  refine aw_iconst (v := 0) dX9_wordsWeighing_0 (by decide) ?_
  refine aw_istore (ls' := [some (.ref (b + 97)), some (.int (nI n)), some (.int F), some (.int (nI wt)), some (.int 0), none]) dX9_wordsWeighing_1 (Nat.le_of_ble_eq_true rfl) rfl ?_
  have loop_3_0 : ∀ (g_3 : Nat), ∀ (j3 : Nat)  (V3 : Wd), j3 + g_3 = 129 → (∃ g3 : Nat → Int64, V3 99 = cJ D 129 g3 ∧ ∀ k, k < j3 → g3 k = 0) → (∀ i, i ≠ 99 → V3 i = V i) → AW l D b jX9_wordsWeighing (fx_rm 2 0 0) none (fx_MQ D b 0 0 (fx_ql (fun r N9 V9 => r = wds F n wt ∧ N = N9 ∧ (∃ g9, V9 99 = cJ D 129 g9) ∧ ∀ i, i ≠ 99 → V9 i = V i))) 3 [some (.ref (b + 97)), some (.int (nI n)), some (.int F), some (.int (nI wt)), some (.int (nI j3)), none] [] N V3 0 0 := by
    intro g_3
    induction g_3 with
    | zero =>
      intro j3  V3 hj3 i3_0 i3_1
      obtain rfl : j3 = 129 := by omega
      obtain ⟨g3, e3, z3⟩ := id i3_0
      refine aw_iload dX9_wordsWeighing_3 rfl ?_
      refine aw_aload_n dX9_wordsWeighing_5 rfl ?_
      refine aw_get dX9_wordsWeighing_6 fl_X9_15 ((i3_1 97 (by omega)).trans hp) (by omega) rfl ?_
      refine aw_alen (t0 := 1) (v := 129) dX9_wordsWeighing_9 e3 (by omega) rfl rfl ?_
      refine aw_icmp_ge (tgt := 27) dX9_wordsWeighing_10 (by decide) (fun c_3 => ?_) (fun c_3 => ?_)
      rotate_left
      · exact absurd (nI_le (a := 129) (b := 129) (Nat.le_refl _) (by omega)) c_3
      refine aw_aload_n dX9_wordsWeighing_27 rfl ?_
      refine aw_get dX9_wordsWeighing_28 fl_X9_15 ((i3_1 97 (by omega)).trans hp) (by omega) rfl ?_
      refine aw_iconst (v := 0) dX9_wordsWeighing_31 (by decide) ?_
      refine aw_lconst (v := 1) dX9_wordsWeighing_32 (by decide) ?_
      refine aw_last dX9_wordsWeighing_33 e3 (by omega) (vp_in_nI (n := 0) (N := 129) (by decide) (by decide)) ?_
      refine aw_iconst (v := 0) dX9_wordsWeighing_34 (by decide) ?_
      refine aw_istore (ls' := [some (.ref (b + 97)), some (.int (nI n)), some (.int F), some (.int (nI wt)), some (.int 0), none]) dX9_wordsWeighing_35 (Nat.le_of_ble_eq_true rfl) rfl ?_
      have loop_37_3 : ∀ (g_37 : Nat), ∀ (j37 : Nat)  (V37 : Wd), j37 + g_37 = n → (∃ g37 : Nat → Int64, V37 99 = cJ D 129 g37 ∧ ∀ k, k < 129 → g37 k = wds F j37 k) → (∀ i, i ≠ 99 → V37 i = V i) → AW l D b jX9_wordsWeighing (fx_rm 2 0 0) none (fx_MQ D b 0 0 (fx_ql (fun r N9 V9 => r = wds F n wt ∧ N = N9 ∧ (∃ g9, V9 99 = cJ D 129 g9) ∧ ∀ i, i ≠ 99 → V9 i = V i))) 37 [some (.ref (b + 97)), some (.int (nI n)), some (.int F), some (.int (nI wt)), some (.int (nI j37)), none] [] N V37 0 0 := by
        intro g_37
        induction g_37 with
        | zero =>
          intro j37  V37 hj37 i37_0 i37_1
          obtain rfl : n = j37 := by omega
          obtain ⟨g37, e37, z37⟩ := id i37_0
          refine aw_iload dX9_wordsWeighing_37 rfl ?_
          refine aw_iload_n dX9_wordsWeighing_39 rfl ?_
          refine aw_icmp_ge (tgt := 83) dX9_wordsWeighing_40 (by decide) (fun c_6 => ?_) (fun c_6 => ?_)
          rotate_left
          · exact absurd (nI_le (a := n) (b := n) (Nat.le_refl _) (by omega)) c_6
          refine aw_iload_n dX9_wordsWeighing_83 rfl ?_
          refine aw_if_lt (tgt := 105) dX9_wordsWeighing_84 (by decide) (fun c_7 => ?_) (fun c_7 => ?_)
          · have nc_7 : wt < 0 := (nI_ltI (a := wt) (b := 0) (by omega) (by omega)).mp c_7
            omega
          have nc_7 : ¬ (wt < 0) := fun z => c_7 ((nI_ltI (a := wt) (b := 0) (by omega) (by omega)).mpr z)
          refine aw_iload_n dX9_wordsWeighing_87 rfl ?_
          refine aw_aload_n dX9_wordsWeighing_88 rfl ?_
          refine aw_get dX9_wordsWeighing_89 fl_X9_15 ((i37_1 97 (by omega)).trans hp) (by omega) rfl ?_
          refine aw_alen (t0 := 1) (v := 129) dX9_wordsWeighing_92 e37 (by omega) rfl rfl ?_
          refine aw_icmp_ge (tgt := 105) dX9_wordsWeighing_93 (by decide) (fun c_8 => ?_) (fun c_8 => ?_)
          · have nc_8 : 129 ≤ wt := (nI_leI (a := 129) (b := wt) (by omega) (by omega)).mp c_8
            omega
          have nc_8 : ¬ (129 ≤ wt) := fun z => c_8 ((nI_leI (a := 129) (b := wt) (by omega) (by omega)).mpr z)
          refine aw_aload_n dX9_wordsWeighing_96 rfl ?_
          refine aw_get dX9_wordsWeighing_97 fl_X9_15 ((i37_1 97 (by omega)).trans hp) (by omega) rfl ?_
          refine aw_iload_n dX9_wordsWeighing_100 rfl ?_
          refine aw_lald (v := (g37 wt)) dX9_wordsWeighing_101 e37 (by omega) (vp_in_nI (n := wt) (by omega) (by omega)) (congrArg g37 (nI_clamp (n := wt) (by omega))) ?_
          refine aw_goto (tgt := 106) dX9_wordsWeighing_102 (by decide) ?_
          refine aw_lreti dX9_wordsWeighing_106 rfl (Nat.le_of_ble_eq_true rfl) (Nat.le_of_ble_eq_true rfl) ?_
          exact ⟨z37 wt (by omega), rfl, ⟨_, e37⟩, i37_1⟩
        | succ g_37 ih_37_4 =>
          intro j37  V37 hj37 i37_0 i37_1
          have hlj37 : j37 < n := by omega
          obtain ⟨g37, e37, z37⟩ := id i37_0
          refine aw_iload dX9_wordsWeighing_37 rfl ?_
          refine aw_iload_n dX9_wordsWeighing_39 rfl ?_
          refine aw_icmp_ge (tgt := 83) dX9_wordsWeighing_40 (by decide) (fun c_9 => ?_) (fun c_9 => ?_)
          · exact absurd c_9 (nI_ge (a := j37) (b := n) (by omega) (by omega))
          refine aw_aload_n dX9_wordsWeighing_43 rfl ?_
          refine aw_get dX9_wordsWeighing_44 fl_X9_15 ((i37_1 97 (by omega)).trans hp) (by omega) rfl ?_
          refine aw_alen (t0 := 1) (v := 129) dX9_wordsWeighing_47 e37 (by omega) rfl rfl ?_
          refine aw_iconst (v := 1) dX9_wordsWeighing_48 (by decide) ?_
          refine aw_isub dX9_wordsWeighing_49 ?_
          refine aw_eqi (y := 128) (by decide) ?_
          refine aw_istore (ls' := [some (.ref (b + 97)), some (.int (nI n)), some (.int F), some (.int (nI wt)), some (.int (nI j37)), some (.int 128)]) dX9_wordsWeighing_50 (Nat.le_of_ble_eq_true rfl) rfl ?_
          have loop_52_9 : ∀ (j52 : Nat), ∀ (V52 : Wd), j52 ≤ 129 → (∃ g52 : Nat → Int64, V52 99 = cJ D 129 g52 ∧ (∀ k, k < j52 → g52 k = wds F j37 k) ∧ (∀ k, j52 ≤ k → k < 129 → g52 k = wds F (j37 + 1) k)) → (∀ i, i ≠ 99 → V52 i = V i) → AW l D b jX9_wordsWeighing (fx_rm 2 0 0) none (fx_MQ D b 0 0 (fx_ql (fun r N9 V9 => r = wds F n wt ∧ N = N9 ∧ (∃ g9, V9 99 = cJ D 129 g9) ∧ ∀ i, i ≠ 99 → V9 i = V i))) 52 [some (.ref (b + 97)), some (.int (nI n)), some (.int F), some (.int (nI wt)), some (.int (nI j37)), some (.int (fx_dn j52))] [] N V52 0 0 := by
            intro j52
            induction j52 with
            | zero =>
              intro V52 hj52 i52_0 i52_1
              show AW l D b jX9_wordsWeighing (fx_rm 2 0 0) none (fx_MQ D b 0 0 (fx_ql (fun r N9 V9 => r = wds F n wt ∧ N = N9 ∧ (∃ g9, V9 99 = cJ D 129 g9) ∧ ∀ i, i ≠ 99 → V9 i = V i))) 52 [some (.ref (b + 97)), some (.int (nI n)), some (.int F), some (.int (nI wt)), some (.int (nI j37)), some (.int (-1))] [] N V52 0 0
              obtain ⟨g52, e52, z52, y52⟩ := id i52_0
              refine aw_iload dX9_wordsWeighing_52 rfl ?_
              refine aw_if_lt (tgt := 77) dX9_wordsWeighing_54 (by decide) (fun c_12 => ?_) (fun c_12 => ?_)
              rotate_left
              · exact absurd (by decide) c_12
              refine aw_iinc (v := (nI (j37 + 1))) (ls' := [some (.ref (b + 97)), some (.int (nI n)), some (.int F), some (.int (nI wt)), some (.int (nI (j37 + 1))), some (.int (-1))]) dX9_wordsWeighing_77 rfl (fx_up_1 _) (Nat.le_of_ble_eq_true rfl) rfl ?_
              refine aw_goto (tgt := 37) dX9_wordsWeighing_80 (by decide) ?_
              refine aw_le ?_ (ih_37_4 (j37 + 1)  V52 (by omega) (⟨g52, e52, fun k hk => y52 k (by omega) hk⟩) (i52_1))
              exact ⟨rfl, ⟨rfl, ⟨rfl, ⟨rfl, ⟨rfl, trivial⟩⟩⟩⟩⟩
            | succ j52 ih_52_10 =>
              intro V52 hj52 i52_0 i52_1
              show AW l D b jX9_wordsWeighing (fx_rm 2 0 0) none (fx_MQ D b 0 0 (fx_ql (fun r N9 V9 => r = wds F n wt ∧ N = N9 ∧ (∃ g9, V9 99 = cJ D 129 g9) ∧ ∀ i, i ≠ 99 → V9 i = V i))) 52 [some (.ref (b + 97)), some (.int (nI n)), some (.int F), some (.int (nI wt)), some (.int (nI j37)), some (.int (nI j52))] [] N V52 0 0
              obtain ⟨g52, e52, z52, y52⟩ := id i52_0
              refine aw_iload dX9_wordsWeighing_52 rfl ?_
              refine aw_if_lt (tgt := 77) dX9_wordsWeighing_54 (by decide) (fun c_13 => ?_) (fun c_13 => ?_)
              · exact absurd c_13 (nI_pos (by omega))
              refine aw_aload_n dX9_wordsWeighing_57 rfl ?_
              refine aw_get dX9_wordsWeighing_58 fl_X9_15 ((i52_1 97 (by omega)).trans hp) (by omega) rfl ?_
              refine aw_iload dX9_wordsWeighing_61 rfl ?_
              refine aw_aload_n dX9_wordsWeighing_63 rfl ?_
              refine aw_iload_n dX9_wordsWeighing_64 rfl ?_
              refine aw_iload dX9_wordsWeighing_65 rfl ?_
              refine aw_callVl (J' := jX9_wordsWithOneMore) (As := [.int F, .int (nI j52)]) (st := [.int (nI j52), .ref (b + 99)]) dX9_wordsWeighing_67 tb_982 ok_X9_wordsWithOneMore ⟨_, ((i52_1 97 (by omega)).trans hp)⟩ (by omega) rfl rfl (c_wordsWithOneMore l D b N V52 hN ((i52_1 97 (by omega)).trans hp) _ e52 F j52 (by omega)) rfl (Nat.le_of_ble_eq_true rfl) ⟨Nat.le_of_ble_eq_true rfl, Nat.le_of_ble_eq_true rfl, Nat.le_of_ble_eq_true rfl, Nat.le_of_ble_eq_true rfl⟩ (fun r_14 N_15 V_16 q_17 => ?_)
              obtain ⟨hr_14, rfl, rfl⟩ := q_17
              refine aw_last dX9_wordsWeighing_70 e52 (by omega) (vp_in_nI (n := j52) (by omega) (by omega)) ?_
              refine aw_iinc (v := (fx_dn j52)) (ls' := [some (.ref (b + 97)), some (.int (nI n)), some (.int F), some (.int (nI wt)), some (.int (nI j37)), some (.int (fx_dn j52))]) dX9_wordsWeighing_71 rfl (fx_dn_1 _) (Nat.le_of_ble_eq_true rfl) rfl ?_
              refine aw_goto (tgt := 52) dX9_wordsWeighing_74 (by decide) ?_
              refine aw_le ?_ (ih_52_10  (va_up V52 99 (cJ D 129 (vp_updL g52 (Int32.toNatClampNeg (nI j52)) r_14))) (by omega) (⟨_, va_up_self _ _ _, fun k hk => by rw [nI_clamp (n := j52) (by omega), pk_uLn (by omega)]; exact z52 k (by omega), fun k h1 h2 => by rw [nI_clamp (n := j52) (by omega)]; exact (if e : k = j52 then (by subst e; rw [pk_uLs, hr_14]; exact wsum_congr (fun q hq => z52 q (by omega)) 16) else (by rw [pk_uLn e]; exact y52 k (by omega) h2))⟩) (fun i hi => (va_up_ne _ _ hi).trans (i52_1 i hi)))
              exact ⟨rfl, ⟨rfl, ⟨rfl, ⟨rfl, ⟨rfl, ⟨rfl, trivial⟩⟩⟩⟩⟩⟩
          refine aw_le ?_ (loop_52_9 129  V37 (by omega) (⟨g37, e37, fun k hk => z37 k (by omega), fun k h1 h2 => absurd h2 (by omega)⟩) (i37_1))
          exact ⟨rfl, ⟨rfl, ⟨rfl, ⟨rfl, ⟨rfl, ⟨rfl, trivial⟩⟩⟩⟩⟩⟩
      refine aw_le ?_ (loop_37_3 n 0  (va_up V3 99 (cJ D 129 (vp_updL g3 (Int32.toNatClampNeg 0) 1))) (by omega) (⟨_, va_up_self _ _ _, fun k hk => (if e : k = 0 then (by subst e; exact pk_uLs) else (by rw [show ((0 : Int32).toNatClampNeg) = 0 by decide, pk_uLn e, z3 k hk, wds, if_neg e]))⟩) (fun i hi => (va_up_ne _ _ hi).trans (i3_1 i hi)))
      exact ⟨rfl, ⟨rfl, ⟨rfl, ⟨rfl, ⟨rfl, trivial⟩⟩⟩⟩⟩
    | succ g_3 ih_3_1 =>
      intro j3  V3 hj3 i3_0 i3_1
      have hlj3 : j3 < 129 := by omega
      obtain ⟨g3, e3, z3⟩ := id i3_0
      refine aw_iload dX9_wordsWeighing_3 rfl ?_
      refine aw_aload_n dX9_wordsWeighing_5 rfl ?_
      refine aw_get dX9_wordsWeighing_6 fl_X9_15 ((i3_1 97 (by omega)).trans hp) (by omega) rfl ?_
      refine aw_alen (t0 := 1) (v := 129) dX9_wordsWeighing_9 e3 (by omega) rfl rfl ?_
      refine aw_icmp_ge (tgt := 27) dX9_wordsWeighing_10 (by decide) (fun c_18 => ?_) (fun c_18 => ?_)
      · exact absurd c_18 (nI_ge (a := j3) (b := 129) (by omega) (by omega))
      refine aw_aload_n dX9_wordsWeighing_13 rfl ?_
      refine aw_get dX9_wordsWeighing_14 fl_X9_15 ((i3_1 97 (by omega)).trans hp) (by omega) rfl ?_
      refine aw_iload dX9_wordsWeighing_17 rfl ?_
      refine aw_lconst (v := 0) dX9_wordsWeighing_19 (by decide) ?_
      refine aw_last dX9_wordsWeighing_20 e3 (by omega) (vp_in_nI (n := j3) (by omega) (by omega)) ?_
      refine aw_iinc (v := (nI (j3 + 1))) (ls' := [some (.ref (b + 97)), some (.int (nI n)), some (.int F), some (.int (nI wt)), some (.int (nI (j3 + 1))), none]) dX9_wordsWeighing_21 rfl (fx_up_1 _) (Nat.le_of_ble_eq_true rfl) rfl ?_
      refine aw_goto (tgt := 3) dX9_wordsWeighing_24 (by decide) ?_
      refine aw_le ?_ (ih_3_1 (j3 + 1)  (va_up V3 99 (cJ D 129 (vp_updL g3 (Int32.toNatClampNeg (nI j3)) 0))) (by omega) (⟨_, va_up_self _ _ _, fun k hk => by rw [nI_clamp (n := j3) (by omega)]; exact (if e : k = j3 then (by subst e; exact pk_uLs) else (by rw [pk_uLn e]; exact z3 k (by omega)))⟩) (fun i hi => (va_up_ne _ _ hi).trans (i3_1 i hi)))
      exact ⟨rfl, ⟨rfl, ⟨rfl, ⟨rfl, ⟨rfl, trivial⟩⟩⟩⟩⟩
  refine aw_le ?_ (loop_3_0 129 0  V (by omega) (⟨g, hg, fun k hk => absurd hk (Nat.not_lt_zero k)⟩) (fun i _ => rfl))
  exact ⟨rfl, ⟨rfl, ⟨rfl, ⟨rfl, ⟨rfl, trivial⟩⟩⟩⟩⟩

set_option maxHeartbeats 4000000 in
set_option maxRecDepth 100000 in
theorem c_wordsI (l : Launch) (D : va_G) (b : Nat) (N : Nat) (V : Wd) (hN : 100 ≤ N) (hp : V 97 = cO 8 [.ref (b + 98), .ref (b + 99)]) (g : Nat → Int64) (hg : V 99 = cJ D 129 g) (n f t : Int32) (h1 : ¬ n < 1) (h2 : ¬ 8 < n) (h3 : ¬ t < 0) (h4 : t ≤ 128) : ML l D b 2 jX9_wordsWeighing [.ref (b + 97), .int n, .int f, .int t] N V 0 0 (fun r N9 V9 => r = wds f n.toNatClampNeg t.toNatClampNeg ∧ N = N9 ∧ (∃ g9, V9 99 = cJ D 129 g9) ∧ ∀ i, i ≠ 99 → V9 i = V i) := by
  obtain ⟨m, hm, rfl⟩ := fx_le8 h1 h2
  obtain ⟨k, hk, rfl⟩ := fx_le128 h3 h4
  rw [nI_clamp (n := m) (by omega), nI_clamp (n := k) (by omega)]
  exact c_wordsWeighing l D b N V hN hp g hg m hm f k hk
def WD (n f t : Int32) : Int64 := (if n < 1 then (-1) else if 8 < n then (-1) else if f < 0 then (-1) else if f ≤ 65535 then (if t < 0 then (-1) else if t ≤ 128 then wds f n.toNatClampNeg t.toNatClampNeg else (-1)) else (-1))
theorem JW.x99 {D : va_G} {b N : Nat} {V V9 : Wd} (h : CW D b V) (e : ∃ g9, V9 99 = cJ D 129 g9) (f : ∀ i, i ≠ 99 → V9 i = V i) : JW D b N true V V9 := by
  refine ⟨fun i P hi => ?_, fun i h1 h2 => f i (by omega), fun _ => f 1 (by decide)⟩
  by_cases e9 : i = 99
  · subst e9; cases (show some (isJ D 129) = some P from hi); exact e
  · rw [f i e9]; exact h i P hi
theorem JR.x130 {D : va_G} {b N cl : Nat} {V V9 : Wd} (h : CR D b cl V) (e : ∃ g9, V9 130 = cJ D 129 g9) (e2 : ∃ g9, V9 131 = cJ D 129 g9) (f : ∀ i, i ≠ 130 ∧ i ≠ 131 → V9 i = V i) : JR D b N cl V V9 := by
  refine ⟨fun i P hi => ?_, fun i h1 h2 => f i (by omega), fun i h1 h2 => f i (by omega)⟩
  by_cases e9 : i = 30
  · subst e9; cases (show some (isJ D 129) = some P from hi); exact e
  · by_cases e8 : i = 31
    · subst e8; cases (show some (isJ D 129) = some P from hi); exact e2
    · rw [f (100 + i) (by omega)]; exact h i P hi
set_option maxHeartbeats 4000000 in
set_option maxRecDepth 100000 in
theorem g_X11_wordS (l : Launch) (D : va_G) (b : Nat) (N : Nat) (V : Wd) (hN : 100 ≤ N) (hW : CW D b V) (n0 : Int32) (n1 : Int32) (n2 : Int32)  : ML l D b 3 jX11_word [.ref (b + 0), .int n0, .int n1, .int n2] N V 0 0 (fun r N9 V9 => r = WD n0 n1 n2 ∧ N = N9 ∧ JW D b N true V V9) := by
  obtain ⟨g99, k99⟩ := hW 99 _ rfl
  have k97 := JW.get (JW.rf (N := N) (T := true) hW) ct_97
  have hJ0 : JW D b N true V V := JW.rf hW
  refine mw_of (by decide) (by simp [Value.category]) (Nat.le_of_ble_eq_true rfl) ?_
  show AW l D b jX11_word (fx_rm 3 0 0) none (fx_MQ D b 0 0 (fx_ql (fun r N9 V9 => r = WD n0 n1 n2 ∧ N = N9 ∧ JW D b N true V V9))) 0 [some (.ref (b + 0)), some (.int n0), some (.int n1), some (.int n2)] [] N V 0 0
  refine aw_iload_n dX11_word_0 rfl ?_
  refine aw_iconst (v := 1) dX11_word_1 (by decide) ?_
  refine aw_icmp_lt (tgt := 21) dX11_word_2 (by decide) (fun c_1 => ?_) (fun c_1 => ?_)
  · skip
    refine aw_ldc2 (v := (-1)) dX11_word_21 tb_977 ?_
    refine aw_lreti dX11_word_24 rfl (Nat.le_of_ble_eq_true rfl) (Nat.le_of_ble_eq_true rfl) ?_
    exact ⟨(by unfold WD; first | (simp only [c_1, reduceIte]; done) | (simp only [c_1, c_2, reduceIte]; done) | (simp only [c_1, c_2, c_3, reduceIte]; done) | (simp only [c_1, c_2, c_3, c_4, reduceIte]; done) | (simp only [c_1, c_2, c_3, c_4, c_5, reduceIte]; done) | (simp only [c_1, c_2, c_3, c_4, c_5, c_6, reduceIte]; done)), rfl, hJ0⟩
  · skip
    refine aw_iload_n dX11_word_5 rfl ?_
    refine aw_bipush (v := 8) dX11_word_6 (by decide) ?_
    refine aw_icmp_gt (tgt := 21) dX11_word_8 (by decide) (fun c_2 => ?_) (fun c_2 => ?_)
    · skip
      refine aw_ldc2 (v := (-1)) dX11_word_21 tb_977 ?_
      refine aw_lreti dX11_word_24 rfl (Nat.le_of_ble_eq_true rfl) (Nat.le_of_ble_eq_true rfl) ?_
      exact ⟨(by unfold WD; first | (simp only [c_1, reduceIte]; done) | (simp only [c_1, c_2, reduceIte]; done) | (simp only [c_1, c_2, c_3, reduceIte]; done) | (simp only [c_1, c_2, c_3, c_4, reduceIte]; done) | (simp only [c_1, c_2, c_3, c_4, c_5, reduceIte]; done) | (simp only [c_1, c_2, c_3, c_4, c_5, c_6, reduceIte]; done)), rfl, hJ0⟩
    · skip
      refine aw_iload_n dX11_word_11 rfl ?_
      refine aw_if_lt (tgt := 21) dX11_word_12 (by decide) (fun c_3 => ?_) (fun c_3 => ?_)
      · skip
        refine aw_ldc2 (v := (-1)) dX11_word_21 tb_977 ?_
        refine aw_lreti dX11_word_24 rfl (Nat.le_of_ble_eq_true rfl) (Nat.le_of_ble_eq_true rfl) ?_
        exact ⟨(by unfold WD; first | (simp only [c_1, reduceIte]; done) | (simp only [c_1, c_2, reduceIte]; done) | (simp only [c_1, c_2, c_3, reduceIte]; done) | (simp only [c_1, c_2, c_3, c_4, reduceIte]; done) | (simp only [c_1, c_2, c_3, c_4, c_5, reduceIte]; done) | (simp only [c_1, c_2, c_3, c_4, c_5, c_6, reduceIte]; done)), rfl, hJ0⟩
      · skip
        refine aw_iload_n dX11_word_15 rfl ?_
        refine aw_ldc (v := 65535) dX11_word_16 tb_946 ?_
        refine aw_icmp_le (tgt := 25) dX11_word_18 (by decide) (fun c_4 => ?_) (fun c_4 => ?_)
        · skip
          refine aw_iload_n dX11_word_25 rfl ?_
          refine aw_if_lt (tgt := 36) dX11_word_26 (by decide) (fun c_5 => ?_) (fun c_5 => ?_)
          · skip
            refine aw_ldc2 (v := (-1)) dX11_word_36 tb_977 ?_
            refine aw_lreti dX11_word_39 rfl (Nat.le_of_ble_eq_true rfl) (Nat.le_of_ble_eq_true rfl) ?_
            exact ⟨(by unfold WD; first | (simp only [c_1, reduceIte]; done) | (simp only [c_1, c_2, reduceIte]; done) | (simp only [c_1, c_2, c_3, reduceIte]; done) | (simp only [c_1, c_2, c_3, c_4, reduceIte]; done) | (simp only [c_1, c_2, c_3, c_4, c_5, reduceIte]; done) | (simp only [c_1, c_2, c_3, c_4, c_5, c_6, reduceIte]; done)), rfl, hJ0⟩
          · skip
            refine aw_iload_n dX11_word_29 rfl ?_
            refine aw_sipush (v := 128) dX11_word_30 (by decide) ?_
            refine aw_icmp_le (tgt := 40) dX11_word_33 (by decide) (fun c_6 => ?_) (fun c_6 => ?_)
            · skip
              refine aw_aload_n dX11_word_40 rfl ?_
              obtain ⟨ek_7, x_7, y_7, e_7, hx_7, hy_7⟩ := JW.get hJ0 ct_0
              refine aw_get dX11_word_41 fl_X11_67 e_7 (by omega) rfl ?_
              refine aw_iload_n dX11_word_44 rfl ?_
              refine aw_iload_n dX11_word_45 rfl ?_
              refine aw_iload_n dX11_word_46 rfl ?_
              have e_11 := JW.get hJ0 ct_97
              refine aw_callVl (J' := jX9_wordsWeighing) (As := [.int n0, .int n1, .int n2]) (st := []) dX11_word_47 tb_978 ok_X9_wordsWeighing ⟨_, e_11⟩ (by omega) rfl rfl (c_wordsI l D b N V hN k97 g99 k99 n0 n1 n2 c_1 c_2 c_5 c_6) rfl (Nat.le_of_ble_eq_true rfl) ⟨Nat.le_of_ble_eq_true rfl, Nat.le_of_ble_eq_true rfl, Nat.le_of_ble_eq_true rfl, Nat.le_of_ble_eq_true rfl⟩ (fun r_12 N_13 V_10 q_14 => ?_)
              obtain ⟨rw9, rfl, x99, f99⟩ := q_14
              have j_9 := JW.x99 (N := N) hW x99 f99
              refine aw_lreti dX11_word_50 rfl (Nat.le_of_ble_eq_true rfl) (Nat.le_of_ble_eq_true rfl) ?_
              exact ⟨by rw [rw9]; unfold WD; simp only [c_1, c_2, c_3, c_4, c_5, c_6, reduceIte], rfl, j_9⟩
            · skip
              refine aw_ldc2 (v := (-1)) dX11_word_36 tb_977 ?_
              refine aw_lreti dX11_word_39 rfl (Nat.le_of_ble_eq_true rfl) (Nat.le_of_ble_eq_true rfl) ?_
              exact ⟨(by unfold WD; first | (simp only [c_1, reduceIte]; done) | (simp only [c_1, c_2, reduceIte]; done) | (simp only [c_1, c_2, c_3, reduceIte]; done) | (simp only [c_1, c_2, c_3, c_4, reduceIte]; done) | (simp only [c_1, c_2, c_3, c_4, c_5, reduceIte]; done) | (simp only [c_1, c_2, c_3, c_4, c_5, c_6, reduceIte]; done)), rfl, hJ0⟩
        · skip
          refine aw_ldc2 (v := (-1)) dX11_word_21 tb_977 ?_
          refine aw_lreti dX11_word_24 rfl (Nat.le_of_ble_eq_true rfl) (Nat.le_of_ble_eq_true rfl) ?_
          exact ⟨(by unfold WD; first | (simp only [c_1, reduceIte]; done) | (simp only [c_1, c_2, reduceIte]; done) | (simp only [c_1, c_2, c_3, reduceIte]; done) | (simp only [c_1, c_2, c_3, c_4, reduceIte]; done) | (simp only [c_1, c_2, c_3, c_4, c_5, reduceIte]; done) | (simp only [c_1, c_2, c_3, c_4, c_5, c_6, reduceIte]; done)), rfl, hJ0⟩
set_option maxHeartbeats 4000000 in
set_option maxRecDepth 100000 in
theorem fx_bit01 (x : Int32) : x &&& 1 = 0 ∨ x &&& 1 = 1 := by
  have e : x = nI x.toBitVec.toNat := by
    apply Int32.toBitVec_inj.mp
    simp [nI]
  have h : x &&& 1 = nI (x.toBitVec.toNat &&& 1) := by
    rw [← fx_andI, ← e]; rfl
  rw [h, Nat.and_one_is_mod]
  rcases Nat.mod_two_eq_zero_or_one x.toBitVec.toNat with q | q
  · left; rw [q]; rfl
  · right; rw [q]; rfl
set_option maxHeartbeats 4000000 in
set_option maxRecDepth 100000 in
theorem wsum_end {F : Int32} {g : Nat → Int64} {w j : Nat} (h : j = 16 ∨ w ≤ j) (hj : j ≤ 16) : wsum F g w j = wsum F g w 16 := by
  rcases h with h | h
  · rw [h]
  · rw [wsum_past j h, wsum_past 16 (by omega)]
set_option maxHeartbeats 4000000 in
set_option maxRecDepth 100000 in
theorem k_in (l : Launch) (D : va_G) (b : Nat) (N : Nat) (V : Wd) (v lo hi : Int32) : MI l D b 0 jX12_in [.int v, .int lo, .int hi] N V 0 0 (fun r N9 V9 => r = inr v lo hi ∧ N = N9 ∧ V = V9) := by
  refine mw_of (by decide) (by simp [Value.category]) (Nat.le_of_ble_eq_true rfl) ?_
  show AW l D b jX12_in (fx_rm 0 0 0) none (fx_MQ D b 0 0 (fx_qi (fun r N9 V9 => r = inr v lo hi ∧ N = N9 ∧ V = V9))) 0 [some (.int v), some (.int lo), some (.int hi)] [] N V 0 0
  refine aw_iload_n dX12_in_0 rfl ?_
  refine aw_iload_n dX12_in_1 rfl ?_
  refine aw_icmp_lt (tgt := 14) dX12_in_2 (by decide) (fun c_1 => ?_) (fun c_1 => ?_)
  · skip
    refine aw_iconst (v := 0) dX12_in_14 (by decide) ?_
    refine aw_zreti dX12_in_15 rfl (Or.inl rfl) (Nat.le_of_ble_eq_true rfl) (Nat.le_of_ble_eq_true rfl) ?_
    exact ⟨by simp only [inr, c_1, reduceIte], rfl, rfl⟩
  · skip
    refine aw_iload_n dX12_in_5 rfl ?_
    refine aw_iload_n dX12_in_6 rfl ?_
    refine aw_icmp_gt (tgt := 14) dX12_in_7 (by decide) (fun c_2 => ?_) (fun c_2 => ?_)
    · skip
      refine aw_iconst (v := 0) dX12_in_14 (by decide) ?_
      refine aw_zreti dX12_in_15 rfl (Or.inl rfl) (Nat.le_of_ble_eq_true rfl) (Nat.le_of_ble_eq_true rfl) ?_
      exact ⟨by simp only [inr, c_1, c_2, reduceIte], rfl, rfl⟩
    · skip
      refine aw_iconst (v := 1) dX12_in_10 (by decide) ?_
      refine aw_goto (tgt := 15) dX12_in_11 (by decide) ?_
      refine aw_zreti dX12_in_15 rfl (Or.inr rfl) (Nat.le_of_ble_eq_true rfl) (Nat.le_of_ble_eq_true rfl) ?_
      exact ⟨by simp only [inr, c_1, c_2, reduceIte], rfl, rfl⟩
set_option maxHeartbeats 4000000 in
set_option maxRecDepth 100000 in
theorem k_hasF (l : Launch) (D : va_G) (b : Nat) (N : Nat) (V : Wd) (x p : Int32) : MI l D b 0 jX12_has [.int x, .int p] N V 0 0 (fun r N9 V9 => r = (if ((x >>> (p &&& 31)) &&& 1) = 0 then (0 : Int32) else 1) ∧ N = N9 ∧ V = V9) := by
  refine mw_of (by decide) (by simp [Value.category]) (Nat.le_of_ble_eq_true rfl) ?_
  show AW l D b jX12_has (fx_rm 0 0 0) none (fx_MQ D b 0 0 (fx_qi (fun r N9 V9 => r = (if ((x >>> (p &&& 31)) &&& 1) = 0 then (0 : Int32) else 1) ∧ N = N9 ∧ V = V9))) 0 [some (.int x), some (.int p)] [] N V 0 0
  refine aw_iload_n dX12_has_0 rfl ?_
  refine aw_iload_n dX12_has_1 rfl ?_
  refine aw_ishr dX12_has_2 ?_
  refine aw_iconst (v := 1) dX12_has_3 (by decide) ?_
  refine aw_iand dX12_has_4 ?_
  refine aw_iconst (v := 1) dX12_has_5 (by decide) ?_
  refine aw_icmp_ne (tgt := 13) dX12_has_6 (by decide) (fun c_1 => ?_) (fun c_1 => ?_)
  · skip
    refine aw_iconst (v := 0) dX12_has_13 (by decide) ?_
    refine aw_zreti dX12_has_14 rfl (Or.inl rfl) (Nat.le_of_ble_eq_true rfl) (Nat.le_of_ble_eq_true rfl) ?_
    exact ⟨(if_pos ((fx_bit01 _).resolve_right c_1)).symm, rfl, rfl⟩
  · skip
    refine aw_iconst (v := 1) dX12_has_9 (by decide) ?_
    refine aw_goto (tgt := 14) dX12_has_10 (by decide) ?_
    refine aw_zreti dX12_has_14 rfl (Or.inr rfl) (Nat.le_of_ble_eq_true rfl) (Nat.le_of_ble_eq_true rfl) ?_
    exact ⟨(if_neg (by rw [c_1]; decide)).symm, rfl, rfl⟩
set_option maxHeartbeats 4000000 in
set_option maxRecDepth 100000 in
theorem r_wordS (l : Launch) (D : va_G) (b : Nat) (N : Nat) (V : Wd) (hN : 133 ≤ N) (cl : Nat) (hW : CR D b cl V) (n : Int32) (f : Int32) (t : Int32) : ML l D b 1 jX12_word [.ref (b + 100), .int n, .int f, .int t] N V 0 0 (fun r N9 V9 => r = (if n < 1 then (-1) else if 8 < n then (-1) else if f < 0 then (-1) else if f ≤ 65535 then (if t < 0 then (-1) else if t ≤ 128 then wds f n.toNatClampNeg t.toNatClampNeg else (-1)) else (-1)) ∧ N = N9 ∧ (∃ g9, V9 130 = cJ D 129 g9) ∧ (∃ g9, V9 131 = cJ D 129 g9) ∧ ∀ i, i ≠ 130 ∧ i ≠ 131 → V9 i = V i) := by
  obtain ⟨_, _, _, _, _, _, _, _, _, _, _, _, _, _, _, _, _, _, _, k100, _⟩ := hW 0 _ rfl
  obtain ⟨_, k130⟩ := hW 30 _ rfl
  obtain ⟨_, k131⟩ := hW 31 _ rfl
  refine mw_of (by decide) (by simp [Value.category]) (Nat.le_of_ble_eq_true rfl) ?_
  show AW l D b jX12_word (fx_rm 1 0 0) none (fx_MQ D b 0 0 (fx_ql (fun r N9 V9 => r = (if n < 1 then (-1) else if 8 < n then (-1) else if f < 0 then (-1) else if f ≤ 65535 then (if t < 0 then (-1) else if t ≤ 128 then wds f n.toNatClampNeg t.toNatClampNeg else (-1)) else (-1)) ∧ N = N9 ∧ (∃ g9, V9 130 = cJ D 129 g9) ∧ (∃ g9, V9 131 = cJ D 129 g9) ∧ ∀ i, i ≠ 130 ∧ i ≠ 131 → V9 i = V i))) 0 [some (.ref (b + 100)), some (.int n), some (.int f), some (.int t), none, none, none] [] N V 0 0
  refine aw_iload_n dX12_word_0 rfl ?_
  refine aw_iconst (v := 1) dX12_word_1 (by decide) ?_
  refine aw_bipush (v := 8) dX12_word_2 (by decide) ?_
  refine aw_callSi (J' := jX12_in) (As := [.int n, .int 1, .int 8]) (st := []) dX12_word_4 tb_1209 ok_X12_in rfl (k_in l D b N V n 1 8) rfl (Nat.le_of_ble_eq_true rfl) ⟨Nat.le_of_ble_eq_true rfl, Nat.le_of_ble_eq_true rfl, Nat.le_of_ble_eq_true rfl, Nat.le_of_ble_eq_true rfl⟩ (fun r_1 N_2 V_3 q_4 => ?_)
  obtain ⟨rfl, rfl, rfl⟩ := q_4
  rcases inr_cases n 1 8 with ⟨g_5, e_6⟩ | ⟨g_7, g_8, g_9, e_10⟩ | ⟨g_11, g_12, g_13, e_14⟩
  · skip
    refine aw_eqi (y := 0) e_6 ?_
    refine aw_if_eq (tgt := 32) dX12_word_7 (by decide) (fun c_15 => ?_) (fun c_15 => ?_)
    rotate_left
    · exact absurd (by decide) c_15
    refine aw_ldc2 (v := (-1)) dX12_word_32 tb_1592 ?_
    refine aw_lreti dX12_word_35 rfl (Nat.le_of_ble_eq_true rfl) (Nat.le_of_ble_eq_true rfl) ?_
    exact ⟨by (first | (simp only [g_5, c_15, reduceIte]; done) | (simp only [g_5, reduceIte]; done)), rfl, ⟨_, k130⟩, ⟨_, k131⟩, fun _ _ => rfl⟩
  · skip
    refine aw_eqi (y := 0) e_10 ?_
    refine aw_if_eq (tgt := 32) dX12_word_7 (by decide) (fun c_16 => ?_) (fun c_16 => ?_)
    rotate_left
    · exact absurd (by decide) c_16
    refine aw_ldc2 (v := (-1)) dX12_word_32 tb_1592 ?_
    refine aw_lreti dX12_word_35 rfl (Nat.le_of_ble_eq_true rfl) (Nat.le_of_ble_eq_true rfl) ?_
    exact ⟨by (first | (simp only [g_7, g_8, g_9, c_16, reduceIte]; done) | (simp only [g_7, g_8, g_9, reduceIte]; done)), rfl, ⟨_, k130⟩, ⟨_, k131⟩, fun _ _ => rfl⟩
  · skip
    refine aw_eqi (y := 1) e_14 ?_
    refine aw_if_eq (tgt := 32) dX12_word_7 (by decide) (fun c_17 => ?_) (fun c_17 => ?_)
    · exact absurd c_17 (by decide)
    refine aw_iload_n dX12_word_10 rfl ?_
    refine aw_iconst (v := 0) dX12_word_11 (by decide) ?_
    refine aw_ldcw (v := 65535) dX12_word_12 tb_1314 ?_
    refine aw_callSi (J' := jX12_in) (As := [.int f, .int 0, .int 65535]) (st := []) dX12_word_15 tb_1209 ok_X12_in rfl (k_in l D b N V f 0 65535) rfl (Nat.le_of_ble_eq_true rfl) ⟨Nat.le_of_ble_eq_true rfl, Nat.le_of_ble_eq_true rfl, Nat.le_of_ble_eq_true rfl, Nat.le_of_ble_eq_true rfl⟩ (fun r_18 N_19 V_20 q_21 => ?_)
    obtain ⟨rfl, rfl, rfl⟩ := q_21
    rcases inr_cases f 0 65535 with ⟨g_22, e_23⟩ | ⟨g_24, g_25, g_26, e_27⟩ | ⟨g_28, g_29, g_30, e_31⟩
    · skip
      refine aw_eqi (y := 0) e_23 ?_
      refine aw_if_eq (tgt := 32) dX12_word_18 (by decide) (fun c_32 => ?_) (fun c_32 => ?_)
      rotate_left
      · exact absurd (by decide) c_32
      refine aw_ldc2 (v := (-1)) dX12_word_32 tb_1592 ?_
      refine aw_lreti dX12_word_35 rfl (Nat.le_of_ble_eq_true rfl) (Nat.le_of_ble_eq_true rfl) ?_
      exact ⟨by (first | (simp only [g_11, g_12, g_13, c_17, g_22, c_32, reduceIte]; done) | (simp only [g_11, g_12, g_13, g_22, reduceIte]; done)), rfl, ⟨_, k130⟩, ⟨_, k131⟩, fun _ _ => rfl⟩
    · skip
      refine aw_eqi (y := 0) e_27 ?_
      refine aw_if_eq (tgt := 32) dX12_word_18 (by decide) (fun c_33 => ?_) (fun c_33 => ?_)
      rotate_left
      · exact absurd (by decide) c_33
      refine aw_ldc2 (v := (-1)) dX12_word_32 tb_1592 ?_
      refine aw_lreti dX12_word_35 rfl (Nat.le_of_ble_eq_true rfl) (Nat.le_of_ble_eq_true rfl) ?_
      exact ⟨by (first | (simp only [g_11, g_12, g_13, c_17, g_24, g_25, g_26, c_33, reduceIte]; done) | (simp only [g_11, g_12, g_13, g_24, g_25, g_26, reduceIte]; done)), rfl, ⟨_, k130⟩, ⟨_, k131⟩, fun _ _ => rfl⟩
    · skip
      refine aw_eqi (y := 1) e_31 ?_
      refine aw_if_eq (tgt := 32) dX12_word_18 (by decide) (fun c_34 => ?_) (fun c_34 => ?_)
      · exact absurd c_34 (by decide)
      refine aw_iload_n dX12_word_21 rfl ?_
      refine aw_iconst (v := 0) dX12_word_22 (by decide) ?_
      refine aw_sipush (v := 128) dX12_word_23 (by decide) ?_
      refine aw_callSi (J' := jX12_in) (As := [.int t, .int 0, .int 128]) (st := []) dX12_word_26 tb_1209 ok_X12_in rfl (k_in l D b N V t 0 128) rfl (Nat.le_of_ble_eq_true rfl) ⟨Nat.le_of_ble_eq_true rfl, Nat.le_of_ble_eq_true rfl, Nat.le_of_ble_eq_true rfl, Nat.le_of_ble_eq_true rfl⟩ (fun r_35 N_36 V_37 q_38 => ?_)
      obtain ⟨rfl, rfl, rfl⟩ := q_38
      rcases inr_cases t 0 128 with ⟨g_39, e_40⟩ | ⟨g_41, g_42, g_43, e_44⟩ | ⟨g_45, g_46, g_47, e_48⟩
      · skip
        refine aw_eqi (y := 0) e_40 ?_
        refine aw_if_ne (tgt := 36) dX12_word_29 (by decide) (fun c_49 => ?_) (fun c_49 => ?_)
        · exact absurd rfl c_49
        refine aw_ldc2 (v := (-1)) dX12_word_32 tb_1592 ?_
        refine aw_lreti dX12_word_35 rfl (Nat.le_of_ble_eq_true rfl) (Nat.le_of_ble_eq_true rfl) ?_
        exact ⟨by (first | (simp only [g_11, g_12, g_13, c_17, g_28, g_29, g_30, c_34, g_39, c_49, reduceIte]; done) | (simp only [g_11, g_12, g_13, g_28, g_29, g_30, g_39, reduceIte]; done)), rfl, ⟨_, k130⟩, ⟨_, k131⟩, fun _ _ => rfl⟩
      · skip
        refine aw_eqi (y := 0) e_44 ?_
        refine aw_if_ne (tgt := 36) dX12_word_29 (by decide) (fun c_50 => ?_) (fun c_50 => ?_)
        · exact absurd rfl c_50
        refine aw_ldc2 (v := (-1)) dX12_word_32 tb_1592 ?_
        refine aw_lreti dX12_word_35 rfl (Nat.le_of_ble_eq_true rfl) (Nat.le_of_ble_eq_true rfl) ?_
        exact ⟨by (first | (simp only [g_11, g_12, g_13, c_17, g_28, g_29, g_30, c_34, g_41, g_42, g_43, c_50, reduceIte]; done) | (simp only [g_11, g_12, g_13, g_28, g_29, g_30, g_41, g_42, g_43, reduceIte]; done)), rfl, ⟨_, k130⟩, ⟨_, k131⟩, fun _ _ => rfl⟩
      · skip
        refine aw_eqi (y := 1) e_48 ?_
        refine aw_if_ne (tgt := 36) dX12_word_29 (by decide) (fun c_51 => ?_) (fun c_51 => ?_)
        rotate_left
        · exact absurd c_51 (by decide)
        obtain ⟨m, hm, rfl⟩ := fx_le8 g_11 g_12
        obtain ⟨wt, hwt, rfl⟩ := fx_le128 g_45 g_47
        refine aw_iconst (v := 0) dX12_word_36 (by decide) ?_
        refine aw_istore (ls' := [some (.ref (b + 100)), some (.int (nI m)), some (.int f), some (.int (nI wt)), some (.int 0), none, none]) dX12_word_37 (Nat.le_of_ble_eq_true rfl) rfl ?_
        have loop_39_51 : ∀ (g_39 : Nat), ∀ (j39 : Nat)  (V39 : Wd), j39 + g_39 = (wt + 1) → (∃ g39 : Nat → Int64, V39 130 = cJ D 129 g39 ∧ ∀ k, k < j39 → g39 k = (if k = 0 then 1 else 0)) → (∀ i, i ≠ 130 → V39 i = V i) → AW l D b jX12_word (fx_rm 1 0 0) none (fx_MQ D b 0 0 (fx_ql (fun r N9 V9 => r = (if (nI m) < 1 then (-1) else if 8 < (nI m) then (-1) else if f < 0 then (-1) else if f ≤ 65535 then (if (nI wt) < 0 then (-1) else if (nI wt) ≤ 128 then wds f (nI m).toNatClampNeg (nI wt).toNatClampNeg else (-1)) else (-1)) ∧ N = N9 ∧ (∃ g9, V9 130 = cJ D 129 g9) ∧ (∃ g9, V9 131 = cJ D 129 g9) ∧ ∀ i, i ≠ 130 ∧ i ≠ 131 → V9 i = V i))) 39 [some (.ref (b + 100)), some (.int (nI m)), some (.int f), some (.int (nI wt)), some (.int (nI j39)), none, none] [] N V39 0 0 := by
          intro g_39
          induction g_39 with
          | zero =>
            intro j39  V39 hj39 i39_0 i39_1
            obtain rfl : j39 = (wt + 1) := by omega
            obtain ⟨g39, e39, z39⟩ := id i39_0
            refine aw_iload dX12_word_39 rfl ?_
            refine aw_iload_n dX12_word_41 rfl ?_
            refine aw_icmp_gt (tgt := 68) dX12_word_42 (by decide) (fun c_54 => ?_) (fun c_54 => ?_)
            rotate_left
            · exact absurd (nI_lt (a := wt) (b := (wt + 1)) (by omega) (by omega)) c_54
            refine aw_iconst (v := 0) dX12_word_68 (by decide) ?_
            refine aw_istore (ls' := [some (.ref (b + 100)), some (.int (nI m)), some (.int f), some (.int (nI wt)), some (.int 0), none, none]) dX12_word_69 (Nat.le_of_ble_eq_true rfl) rfl ?_
            have loop_71_54 : ∀ (g_71 : Nat), ∀ (j71 : Nat)  (V71 : Wd), j71 + g_71 = m → (∃ g71 : Nat → Int64, V71 130 = cJ D 129 g71 ∧ ∀ k, k < wt + 1 → g71 k = wds f j71 k) → (∃ h71 : Nat → Int64, V71 131 = cJ D 129 h71) → (∀ i, i ≠ 130 ∧ i ≠ 131 → V71 i = V i) → AW l D b jX12_word (fx_rm 1 0 0) none (fx_MQ D b 0 0 (fx_ql (fun r N9 V9 => r = (if (nI m) < 1 then (-1) else if 8 < (nI m) then (-1) else if f < 0 then (-1) else if f ≤ 65535 then (if (nI wt) < 0 then (-1) else if (nI wt) ≤ 128 then wds f (nI m).toNatClampNeg (nI wt).toNatClampNeg else (-1)) else (-1)) ∧ N = N9 ∧ (∃ g9, V9 130 = cJ D 129 g9) ∧ (∃ g9, V9 131 = cJ D 129 g9) ∧ ∀ i, i ≠ 130 ∧ i ≠ 131 → V9 i = V i))) 71 [some (.ref (b + 100)), some (.int (nI m)), some (.int f), some (.int (nI wt)), some (.int (nI j71)), none, none] [] N V71 0 0 := by
              intro g_71
              induction g_71 with
              | zero =>
                intro j71  V71 hj71 i71_0 i71_1 i71_2
                obtain rfl : m = j71 := by omega
                obtain ⟨g71, e71, z71⟩ := id i71_0
                obtain ⟨h71, d71⟩ := id i71_1
                refine aw_iload dX12_word_71 rfl ?_
                refine aw_iload_n dX12_word_73 rfl ?_
                refine aw_icmp_ge (tgt := 194) dX12_word_74 (by decide) (fun c_57 => ?_) (fun c_57 => ?_)
                rotate_left
                · exact absurd (nI_le (a := m) (b := m) (Nat.le_refl _) (by omega)) c_57
                refine aw_aload_n dX12_word_194 rfl ?_
                refine aw_get dX12_word_195 fl_X12_99 ((i71_2 100 (by omega)).trans k100) (by omega) rfl ?_
                refine aw_iload_n dX12_word_198 rfl ?_
                refine aw_lald (v := (g71 wt)) dX12_word_199 e71 (by omega) (vp_in_nI (n := wt) (by omega) (by omega)) (congrArg g71 (nI_clamp (n := wt) (by omega))) ?_
                refine aw_lreti dX12_word_200 rfl (Nat.le_of_ble_eq_true rfl) (Nat.le_of_ble_eq_true rfl) ?_
                exact ⟨by simp only [g_11, g_12, g_13, g_28, g_29, g_30, g_45, g_46, g_47, c_54, c_57, reduceIte]; rw [nI_clamp (n := m) (by omega), nI_clamp (n := wt) (by omega)]; exact z71 wt (by omega), rfl, ⟨_, e71⟩, ⟨_, d71⟩, i71_2⟩
              | succ g_71 ih_71_55 =>
                intro j71  V71 hj71 i71_0 i71_1 i71_2
                have hlj71 : j71 < m := by omega
                obtain ⟨g71, e71, z71⟩ := id i71_0
                obtain ⟨h71, d71⟩ := id i71_1
                refine aw_iload dX12_word_71 rfl ?_
                refine aw_iload_n dX12_word_73 rfl ?_
                refine aw_icmp_ge (tgt := 194) dX12_word_74 (by decide) (fun c_58 => ?_) (fun c_58 => ?_)
                · exact absurd c_58 (nI_ge (a := j71) (b := m) (by omega) (by omega))
                refine aw_iconst (v := 0) dX12_word_77 (by decide) ?_
                refine aw_istore (ls' := [some (.ref (b + 100)), some (.int (nI m)), some (.int f), some (.int (nI wt)), some (.int (nI j71)), some (.int 0), none]) dX12_word_78 (Nat.le_of_ble_eq_true rfl) rfl ?_
                have loop_80_58 : ∀ (g_80 : Nat), ∀ (j80 : Nat)  (V80 : Wd), j80 + g_80 = (wt + 1) → (V80 130 = cJ D 129 g71) → (∃ h80 : Nat → Int64, V80 131 = cJ D 129 h80 ∧ ∀ k, k < j80 → h80 k = wds f (j71 + 1) k) → (∀ i, i ≠ 130 ∧ i ≠ 131 → V80 i = V i) → AW l D b jX12_word (fx_rm 1 0 0) none (fx_MQ D b 0 0 (fx_ql (fun r N9 V9 => r = (if (nI m) < 1 then (-1) else if 8 < (nI m) then (-1) else if f < 0 then (-1) else if f ≤ 65535 then (if (nI wt) < 0 then (-1) else if (nI wt) ≤ 128 then wds f (nI m).toNatClampNeg (nI wt).toNatClampNeg else (-1)) else (-1)) ∧ N = N9 ∧ (∃ g9, V9 130 = cJ D 129 g9) ∧ (∃ g9, V9 131 = cJ D 129 g9) ∧ ∀ i, i ≠ 130 ∧ i ≠ 131 → V9 i = V i))) 80 [some (.ref (b + 100)), some (.int (nI m)), some (.int f), some (.int (nI wt)), some (.int (nI j71)), some (.int (nI j80)), none] [] N V80 0 0 := by
                  intro g_80
                  induction g_80 with
                  | zero =>
                    intro j80  V80 hj80 i80_0 i80_1 i80_2
                    obtain rfl : j80 = (wt + 1) := by omega
                    obtain ⟨h80, e80, z80⟩ := id i80_1
                    refine aw_iload dX12_word_80 rfl ?_
                    refine aw_iload_n dX12_word_82 rfl ?_
                    refine aw_icmp_gt (tgt := 159) dX12_word_83 (by decide) (fun c_61 => ?_) (fun c_61 => ?_)
                    rotate_left
                    · exact absurd (nI_lt (a := wt) (b := (wt + 1)) (by omega) (by omega)) c_61
                    refine aw_iconst (v := 0) dX12_word_159 (by decide) ?_
                    refine aw_istore (ls' := [some (.ref (b + 100)), some (.int (nI m)), some (.int f), some (.int (nI wt)), some (.int (nI j71)), some (.int 0), none]) dX12_word_160 (Nat.le_of_ble_eq_true rfl) rfl ?_
                    have loop_162_61 : ∀ (g_162 : Nat), ∀ (j162 : Nat)  (V162 : Wd), j162 + g_162 = (wt + 1) → (V162 131 = cJ D 129 h80) → (∃ g162 : Nat → Int64, V162 130 = cJ D 129 g162 ∧ ∀ k, k < j162 → g162 k = wds f (j71 + 1) k) → (∀ i, i ≠ 130 ∧ i ≠ 131 → V162 i = V i) → AW l D b jX12_word (fx_rm 1 0 0) none (fx_MQ D b 0 0 (fx_ql (fun r N9 V9 => r = (if (nI m) < 1 then (-1) else if 8 < (nI m) then (-1) else if f < 0 then (-1) else if f ≤ 65535 then (if (nI wt) < 0 then (-1) else if (nI wt) ≤ 128 then wds f (nI m).toNatClampNeg (nI wt).toNatClampNeg else (-1)) else (-1)) ∧ N = N9 ∧ (∃ g9, V9 130 = cJ D 129 g9) ∧ (∃ g9, V9 131 = cJ D 129 g9) ∧ ∀ i, i ≠ 130 ∧ i ≠ 131 → V9 i = V i))) 162 [some (.ref (b + 100)), some (.int (nI m)), some (.int f), some (.int (nI wt)), some (.int (nI j71)), some (.int (nI j162)), none] [] N V162 0 0 := by
                      intro g_162
                      induction g_162 with
                      | zero =>
                        intro j162  V162 hj162 i162_0 i162_1 i162_2
                        obtain rfl : j162 = (wt + 1) := by omega
                        obtain ⟨g162, e162, z162⟩ := id i162_1
                        refine aw_iload dX12_word_162 rfl ?_
                        refine aw_iload_n dX12_word_164 rfl ?_
                        refine aw_icmp_gt (tgt := 188) dX12_word_165 (by decide) (fun c_64 => ?_) (fun c_64 => ?_)
                        rotate_left
                        · exact absurd (nI_lt (a := wt) (b := (wt + 1)) (by omega) (by omega)) c_64
                        refine aw_iinc (v := (nI (j71 + 1))) (ls' := [some (.ref (b + 100)), some (.int (nI m)), some (.int f), some (.int (nI wt)), some (.int (nI (j71 + 1))), some (.int (nI (wt + 1))), none]) dX12_word_188 rfl (fx_up_1 _) (Nat.le_of_ble_eq_true rfl) rfl ?_
                        refine aw_goto (tgt := 71) dX12_word_191 (by decide) ?_
                        refine aw_le ?_ (ih_71_55 (j71 + 1)  V162 (by omega) (⟨g162, e162, z162⟩) (⟨_, i162_0⟩) (i162_2))
                        exact ⟨rfl, ⟨rfl, ⟨rfl, ⟨rfl, ⟨rfl, trivial⟩⟩⟩⟩⟩
                      | succ g_162 ih_162_62 =>
                        intro j162  V162 hj162 i162_0 i162_1 i162_2
                        have hlj162 : j162 < (wt + 1) := by omega
                        obtain ⟨g162, e162, z162⟩ := id i162_1
                        refine aw_iload dX12_word_162 rfl ?_
                        refine aw_iload_n dX12_word_164 rfl ?_
                        refine aw_icmp_gt (tgt := 188) dX12_word_165 (by decide) (fun c_65 => ?_) (fun c_65 => ?_)
                        · exact absurd ((nI_ltI (a := wt) (b := j162) (by omega) (by omega)).mp c_65) (by omega)
                        refine aw_aload_n dX12_word_168 rfl ?_
                        refine aw_get dX12_word_169 fl_X12_99 ((i162_2 100 (by omega)).trans k100) (by omega) rfl ?_
                        refine aw_iload dX12_word_172 rfl ?_
                        refine aw_aload_n dX12_word_174 rfl ?_
                        refine aw_get dX12_word_175 fl_X12_103 ((i162_2 100 (by omega)).trans k100) (by omega) rfl ?_
                        refine aw_iload dX12_word_178 rfl ?_
                        refine aw_lald (v := (h80 j162)) dX12_word_180 i162_0 (by omega) (vp_in_nI (n := j162) (by omega) (by omega)) (congrArg h80 (nI_clamp (n := j162) (by omega))) ?_
                        refine aw_last dX12_word_181 e162 (by omega) (vp_in_nI (n := j162) (by omega) (by omega)) ?_
                        refine aw_iinc (v := (nI (j162 + 1))) (ls' := [some (.ref (b + 100)), some (.int (nI m)), some (.int f), some (.int (nI wt)), some (.int (nI j71)), some (.int (nI (j162 + 1))), none]) dX12_word_182 rfl (fx_up_1 _) (Nat.le_of_ble_eq_true rfl) rfl ?_
                        refine aw_goto (tgt := 162) dX12_word_185 (by decide) ?_
                        refine aw_le ?_ (ih_162_62 (j162 + 1)  (va_up V162 130 (cJ D 129 (vp_updL g162 (Int32.toNatClampNeg (nI j162)) (h80 j162)))) (by omega) ((va_up_ne _ _ (by omega)).trans i162_0) (⟨_, va_up_self _ _ _, fun k hk => by rw [nI_clamp (n := j162) (by omega)]; exact (if e : k = j162 then (by rw [e, pk_uLs]; exact z80 _ (by omega)) else (by rw [pk_uLn e]; exact z162 k (by omega)))⟩) (fun i hi => (va_up_ne _ _ hi.1).trans (i162_2 i hi)))
                        exact ⟨rfl, ⟨rfl, ⟨rfl, ⟨rfl, ⟨rfl, ⟨rfl, trivial⟩⟩⟩⟩⟩⟩
                    refine aw_le ?_ (loop_162_61 (wt + 1) 0  V80 (by omega) (e80) (⟨_, i80_0, fun k hk => absurd hk (Nat.not_lt_zero k)⟩) (i80_2))
                    exact ⟨rfl, ⟨rfl, ⟨rfl, ⟨rfl, ⟨rfl, ⟨rfl, trivial⟩⟩⟩⟩⟩⟩
                  | succ g_80 ih_80_59 =>
                    intro j80  V80 hj80 i80_0 i80_1 i80_2
                    have hlj80 : j80 < (wt + 1) := by omega
                    obtain ⟨h80, e80, z80⟩ := id i80_1
                    refine aw_iload dX12_word_80 rfl ?_
                    refine aw_iload_n dX12_word_82 rfl ?_
                    refine aw_icmp_gt (tgt := 159) dX12_word_83 (by decide) (fun c_66 => ?_) (fun c_66 => ?_)
                    · exact absurd ((nI_ltI (a := wt) (b := j80) (by omega) (by omega)).mp c_66) (by omega)
                    refine aw_aload_n dX12_word_86 rfl ?_
                    refine aw_get dX12_word_87 fl_X12_103 ((i80_2 100 (by omega)).trans k100) (by omega) rfl ?_
                    refine aw_iload dX12_word_90 rfl ?_
                    refine aw_lconst (v := 0) dX12_word_92 (by decide) ?_
                    refine aw_last dX12_word_93 e80 (by omega) (vp_in_nI (n := j80) (by omega) (by omega)) ?_
                    refine aw_iconst (v := 0) dX12_word_94 (by decide) ?_
                    refine aw_istore (ls' := [some (.ref (b + 100)), some (.int (nI m)), some (.int f), some (.int (nI wt)), some (.int (nI j71)), some (.int (nI j80)), some (.int 0)]) dX12_word_95 (Nat.le_of_ble_eq_true rfl) rfl ?_
                    have loop_97_66 : ∀ (g_97 : Nat), ∀ (j97 : Nat)  (V97 : Wd), j97 + g_97 = 16 → (V97 130 = cJ D 129 g71) → (∃ h97 : Nat → Int64, V97 131 = cJ D 129 h97 ∧ h97 j80 = wsum f g71 j80 j97 ∧ ∀ k, k < j80 → h97 k = wds f (j71 + 1) k) → (∀ i, i ≠ 130 ∧ i ≠ 131 → V97 i = V i) → AW l D b jX12_word (fx_rm 1 0 0) none (fx_MQ D b 0 0 (fx_ql (fun r N9 V9 => r = (if (nI m) < 1 then (-1) else if 8 < (nI m) then (-1) else if f < 0 then (-1) else if f ≤ 65535 then (if (nI wt) < 0 then (-1) else if (nI wt) ≤ 128 then wds f (nI m).toNatClampNeg (nI wt).toNatClampNeg else (-1)) else (-1)) ∧ N = N9 ∧ (∃ g9, V9 130 = cJ D 129 g9) ∧ (∃ g9, V9 131 = cJ D 129 g9) ∧ ∀ i, i ≠ 130 ∧ i ≠ 131 → V9 i = V i))) 97 [some (.ref (b + 100)), some (.int (nI m)), some (.int f), some (.int (nI wt)), some (.int (nI j71)), some (.int (nI j80)), some (.int (nI j97))] [] N V97 0 0 := by
                      intro g_97
                      induction g_97 with
                      | zero =>
                        intro j97  V97 hj97 i97_0 i97_1 i97_2
                        obtain rfl : j97 = 16 := by omega
                        obtain ⟨h97, e97, y97, z97⟩ := id i97_1
                        refine aw_iload dX12_word_97 rfl ?_
                        refine aw_bipush (v := 16) dX12_word_99 (by decide) ?_
                        refine aw_icmp_ge (tgt := 153) dX12_word_101 (by decide) (fun c_69 => ?_) (fun c_69 => ?_)
                        rotate_left
                        · exact absurd (nI_le (a := 16) (b := 16) (Nat.le_refl _) (by omega)) c_69
                        refine aw_iinc (v := (nI (j80 + 1))) (ls' := [some (.ref (b + 100)), some (.int (nI m)), some (.int f), some (.int (nI wt)), some (.int (nI j71)), some (.int (nI (j80 + 1))), some (.int (nI 16))]) dX12_word_153 rfl (fx_up_1 _) (Nat.le_of_ble_eq_true rfl) rfl ?_
                        refine aw_goto (tgt := 80) dX12_word_156 (by decide) ?_
                        refine aw_le ?_ (ih_80_59 (j80 + 1)  V97 (by omega) (i97_0) (⟨_, e97, fun k hk => (if e : k = j80 then (by rw [e]; exact y97.trans ((wsum_end (by omega) (by omega)).trans (wsum_congr (fun q hq => z71 q (by omega)) 16))) else z97 k (by omega))⟩) (i97_2))
                        exact ⟨rfl, ⟨rfl, ⟨rfl, ⟨rfl, ⟨rfl, ⟨rfl, trivial⟩⟩⟩⟩⟩⟩
                      | succ g_97 ih_97_67 =>
                        intro j97  V97 hj97 i97_0 i97_1 i97_2
                        have hlj97 : j97 < 16 := by omega
                        obtain ⟨h97, e97, y97, z97⟩ := id i97_1
                        refine aw_iload dX12_word_97 rfl ?_
                        refine aw_bipush (v := 16) dX12_word_99 (by decide) ?_
                        refine aw_icmp_ge (tgt := 153) dX12_word_101 (by decide) (fun c_70 => ?_) (fun c_70 => ?_)
                        · exact absurd c_70 (nI_ge (a := j97) (b := 16) (by omega) (by omega))
                        refine aw_iload dX12_word_104 rfl ?_
                        refine aw_iload dX12_word_106 rfl ?_
                        refine aw_icmp_ge (tgt := 153) dX12_word_108 (by decide) (fun c_71 => ?_) (fun c_71 => ?_)
                        · skip
                          have nc_71 : j80 ≤ j97 := (nI_leI (a := j80) (b := j97) (by omega) (by omega)).mp c_71
                          refine aw_iinc (v := (nI (j80 + 1))) (ls' := [some (.ref (b + 100)), some (.int (nI m)), some (.int f), some (.int (nI wt)), some (.int (nI j71)), some (.int (nI (j80 + 1))), some (.int (nI j97))]) dX12_word_153 rfl (fx_up_1 _) (Nat.le_of_ble_eq_true rfl) rfl ?_
                          refine aw_goto (tgt := 80) dX12_word_156 (by decide) ?_
                          refine aw_le ?_ (ih_80_59 (j80 + 1)  V97 (by omega) (i97_0) (⟨_, e97, fun k hk => (if e : k = j80 then (by rw [e]; exact y97.trans ((wsum_end (by omega) (by omega)).trans (wsum_congr (fun q hq => z71 q (by omega)) 16))) else z97 k (by omega))⟩) (i97_2))
                          exact ⟨rfl, ⟨rfl, ⟨rfl, ⟨rfl, ⟨rfl, ⟨rfl, trivial⟩⟩⟩⟩⟩⟩
                        · skip
                          have nc_71 : ¬ (j80 ≤ j97) := fun z => c_71 ((nI_leI (a := j80) (b := j97) (by omega) (by omega)).mpr z)
                          refine aw_iload_n dX12_word_111 rfl ?_
                          refine aw_iload dX12_word_112 rfl ?_
                          refine aw_callSi (J' := jX12_has) (As := [.int f, .int (nI j97)]) (st := []) dX12_word_114 tb_1315 ok_X12_has rfl (k_hasF l D b N V97 f (nI j97)) rfl (Nat.le_of_ble_eq_true rfl) ⟨Nat.le_of_ble_eq_true rfl, Nat.le_of_ble_eq_true rfl, Nat.le_of_ble_eq_true rfl, Nat.le_of_ble_eq_true rfl⟩ (fun r_72 N_73 V_74 q_75 => ?_)
                          obtain ⟨hr_72, rfl, rfl⟩ := q_75
                          refine aw_if_eq (tgt := 147) dX12_word_117 (by decide) (fun c_76 => ?_) (fun c_76 => ?_)
                          · skip
                            have hb := fx_if0 hr_72 c_76
                            refine aw_iinc (v := (nI (j97 + 1))) (ls' := [some (.ref (b + 100)), some (.int (nI m)), some (.int f), some (.int (nI wt)), some (.int (nI j71)), some (.int (nI j80)), some (.int (nI (j97 + 1)))]) dX12_word_147 rfl (fx_up_1 _) (Nat.le_of_ble_eq_true rfl) rfl ?_
                            refine aw_goto (tgt := 97) dX12_word_150 (by decide) ?_
                            refine aw_le ?_ (ih_97_67 (j97 + 1)  V97 (by omega) (i97_0) (⟨_, e97, by rw [wsum, if_pos hb]; exact y97, z97⟩) (i97_2))
                            exact ⟨rfl, ⟨rfl, ⟨rfl, ⟨rfl, ⟨rfl, ⟨rfl, ⟨rfl, trivial⟩⟩⟩⟩⟩⟩⟩
                          · skip
                            have hb := fx_if1 hr_72 c_76
                            refine aw_aload_n dX12_word_120 rfl ?_
                            refine aw_get dX12_word_121 fl_X12_103 ((i97_2 100 (by omega)).trans k100) (by omega) rfl ?_
                            refine aw_iload dX12_word_124 rfl ?_
                            refine aw_aload_n dX12_word_126 rfl ?_
                            refine aw_get dX12_word_127 fl_X12_103 ((i97_2 100 (by omega)).trans k100) (by omega) rfl ?_
                            refine aw_iload dX12_word_130 rfl ?_
                            refine aw_lald (v := (h97 j80)) dX12_word_132 e97 (by omega) (vp_in_nI (n := j80) (by omega) (by omega)) (congrArg h97 (nI_clamp (n := j80) (by omega))) ?_
                            refine aw_aload_n dX12_word_133 rfl ?_
                            refine aw_get dX12_word_134 fl_X12_99 ((i97_2 100 (by omega)).trans k100) (by omega) rfl ?_
                            refine aw_iload dX12_word_137 rfl ?_
                            refine aw_iload dX12_word_139 rfl ?_
                            refine aw_isub dX12_word_141 ?_
                            refine aw_eqi (y := (nI (j80 - j97))) (pk_sub (by omega)) ?_
                            refine aw_iconst (v := 1) dX12_word_142 (by decide) ?_
                            refine aw_isub dX12_word_143 ?_
                            refine aw_eqi (y := (nI (j80 - (j97 + 1)))) ((pk_sub (a := j80 - j97) (b := 1) (by omega)).trans (congrArg nI (Nat.sub_sub _ _ _))) ?_
                            refine aw_lald (v := (g71 (j80 - (j97 + 1)))) dX12_word_144 i97_0 (by omega) (vp_in_nI (n := (j80 - (j97 + 1))) (by omega) (by omega)) (congrArg g71 (nI_clamp (n := (j80 - (j97 + 1))) (by omega))) ?_
                            refine aw_ladd dX12_word_145 ?_
                            refine aw_last dX12_word_146 e97 (by omega) (vp_in_nI (n := j80) (by omega) (by omega)) ?_
                            refine aw_iinc (v := (nI (j97 + 1))) (ls' := [some (.ref (b + 100)), some (.int (nI m)), some (.int f), some (.int (nI wt)), some (.int (nI j71)), some (.int (nI j80)), some (.int (nI (j97 + 1)))]) dX12_word_147 rfl (fx_up_1 _) (Nat.le_of_ble_eq_true rfl) rfl ?_
                            refine aw_goto (tgt := 97) dX12_word_150 (by decide) ?_
                            refine aw_le ?_ (ih_97_67 (j97 + 1)  (va_up V97 131 (cJ D 129 (vp_updL h97 (Int32.toNatClampNeg (nI j80)) ((h97 j80) + (g71 (j80 - (j97 + 1))))))) (by omega) ((va_up_ne _ _ (by omega)).trans i97_0) (⟨_, va_up_self _ _ _, by rw [nI_clamp (n := j80) (by omega), pk_uLs, wsum, if_neg hb, if_pos (by omega), y97], fun k hk => by rw [nI_clamp (n := j80) (by omega), pk_uLn (by omega)]; exact z97 k hk⟩) (fun i hi => (va_up_ne _ _ hi.2).trans (i97_2 i hi)))
                            exact ⟨rfl, ⟨rfl, ⟨rfl, ⟨rfl, ⟨rfl, ⟨rfl, ⟨rfl, trivial⟩⟩⟩⟩⟩⟩⟩
                    refine aw_le ?_ (loop_97_66 16 0  (va_up V80 131 (cJ D 129 (vp_updL h80 (Int32.toNatClampNeg (nI j80)) 0))) (by omega) (((va_up_ne _ _ (by omega)).trans i80_0)) (⟨_, (va_up_self _ _ _), by rw [nI_clamp (n := j80) (by omega), pk_uLs]; rfl, fun k hk => by rw [nI_clamp (n := j80) (by omega), pk_uLn (by omega)]; exact z80 k hk⟩) (fun i hi => (va_up_ne _ _ hi.2).trans (i80_2 i hi)))
                    exact ⟨rfl, ⟨rfl, ⟨rfl, ⟨rfl, ⟨rfl, ⟨rfl, ⟨rfl, trivial⟩⟩⟩⟩⟩⟩⟩
                refine aw_le ?_ (loop_80_58 (wt + 1) 0  V71 (by omega) (e71) (⟨_, d71, fun k hk => absurd hk (Nat.not_lt_zero k)⟩) (i71_2))
                exact ⟨rfl, ⟨rfl, ⟨rfl, ⟨rfl, ⟨rfl, ⟨rfl, trivial⟩⟩⟩⟩⟩⟩
            refine aw_le ?_ (loop_71_54 m 0  V39 (by omega) (⟨_, e39, fun k hk => z39 k hk⟩) (⟨_, ((i39_1 131 (by omega)).trans k131)⟩) (fun i hi => i39_1 i hi.1))
            exact ⟨rfl, ⟨rfl, ⟨rfl, ⟨rfl, ⟨rfl, trivial⟩⟩⟩⟩⟩
          | succ g_39 ih_39_52 =>
            intro j39  V39 hj39 i39_0 i39_1
            have hlj39 : j39 < (wt + 1) := by omega
            obtain ⟨g39, e39, z39⟩ := id i39_0
            refine aw_iload dX12_word_39 rfl ?_
            refine aw_iload_n dX12_word_41 rfl ?_
            refine aw_icmp_gt (tgt := 68) dX12_word_42 (by decide) (fun c_77 => ?_) (fun c_77 => ?_)
            · exact absurd ((nI_ltI (a := wt) (b := j39) (by omega) (by omega)).mp c_77) (by omega)
            refine aw_aload_n dX12_word_45 rfl ?_
            refine aw_get dX12_word_46 fl_X12_99 ((i39_1 100 (by omega)).trans k100) (by omega) rfl ?_
            refine aw_iload dX12_word_49 rfl ?_
            refine aw_iload dX12_word_51 rfl ?_
            refine aw_if_ne (tgt := 60) dX12_word_53 (by decide) (fun c_78 => ?_) (fun c_78 => ?_)
            · skip
              have nc_78 : ¬ (j39 = 0) := fun z => c_78 ((nI_eq (a := j39) (b := 0) (by omega) (by omega)).mpr z)
              refine aw_lconst (v := 0) dX12_word_60 (by decide) ?_
              refine aw_last dX12_word_61 e39 (by omega) (vp_in_nI (n := j39) (by omega) (by omega)) ?_
              refine aw_iinc (v := (nI (j39 + 1))) (ls' := [some (.ref (b + 100)), some (.int (nI m)), some (.int f), some (.int (nI wt)), some (.int (nI (j39 + 1))), none, none]) dX12_word_62 rfl (fx_up_1 _) (Nat.le_of_ble_eq_true rfl) rfl ?_
              refine aw_goto (tgt := 39) dX12_word_65 (by decide) ?_
              refine aw_le ?_ (ih_39_52 (j39 + 1)  (va_up V39 130 (cJ D 129 (vp_updL g39 (Int32.toNatClampNeg (nI j39)) 0))) (by omega) (⟨_, va_up_self _ _ _, fun k hk => by rw [nI_clamp (n := j39) (by omega)]; exact (if e : k = j39 then (by rw [e, pk_uLs]; exact (if_neg nc_78).symm) else (by rw [pk_uLn e]; exact z39 k (by omega)))⟩) (fun i hi => (va_up_ne _ _ hi).trans (i39_1 i hi)))
              exact ⟨rfl, ⟨rfl, ⟨rfl, ⟨rfl, ⟨rfl, trivial⟩⟩⟩⟩⟩
            · skip
              have nc_78 : j39 = 0 := (nI_eq (a := j39) (b := 0) (by omega) (by omega)).mp c_78
              refine aw_lconst (v := 1) dX12_word_56 (by decide) ?_
              refine aw_goto (tgt := 61) dX12_word_57 (by decide) ?_
              refine aw_last dX12_word_61 e39 (by omega) (vp_in_nI (n := j39) (by omega) (by omega)) ?_
              refine aw_iinc (v := (nI (j39 + 1))) (ls' := [some (.ref (b + 100)), some (.int (nI m)), some (.int f), some (.int (nI wt)), some (.int (nI (j39 + 1))), none, none]) dX12_word_62 rfl (fx_up_1 _) (Nat.le_of_ble_eq_true rfl) rfl ?_
              refine aw_goto (tgt := 39) dX12_word_65 (by decide) ?_
              refine aw_le ?_ (ih_39_52 (j39 + 1)  (va_up V39 130 (cJ D 129 (vp_updL g39 (Int32.toNatClampNeg (nI j39)) 1))) (by omega) (⟨_, va_up_self _ _ _, fun k hk => by rw [nI_clamp (n := j39) (by omega)]; exact (if e : k = j39 then (by rw [e, pk_uLs]; exact (if_pos nc_78).symm) else (by rw [pk_uLn e]; exact z39 k (by omega)))⟩) (fun i hi => (va_up_ne _ _ hi).trans (i39_1 i hi)))
              exact ⟨rfl, ⟨rfl, ⟨rfl, ⟨rfl, ⟨rfl, trivial⟩⟩⟩⟩⟩
        refine aw_le ?_ (loop_39_51 (wt + 1) 0  V (by omega) (⟨_, k130, fun k hk => absurd hk (Nat.not_lt_zero k)⟩) (fun i _ => rfl))
        exact ⟨rfl, ⟨rfl, ⟨rfl, ⟨rfl, ⟨rfl, trivial⟩⟩⟩⟩⟩

