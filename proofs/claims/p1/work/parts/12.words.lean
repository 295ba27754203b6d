
def wsum (F : Int32) (g : Nat → Int64) (w : Nat) : Nat → Int64
  | 0 => 0
  | f + 1 => if ((F >>> (nI f &&& 31)) &&& 1) = 0 then wsum F g w f else if f < w then wsum F g w f + g (w - (f + 1)) else wsum F g w f
def wds (F : Int32) : Nat → Nat → Int64
  | 0, w => if w = 0 then 1 else 0
  | i + 1, w => wsum F (wds F i) w 16
theorem wsum_congr {F : Int32} {g g' : Nat → Int64} {w : Nat} (h : ∀ k, k < w → g k = g' k) : ∀ n, wsum F g w n = wsum F g' w n
  | 0 => rfl
  | n + 1 => by
    have ih := wsum_congr (F := F) h n
    simp only [wsum, ih]
    split
    · rfl
    · split
      · rw [h _ (by omega)]
      · rfl
theorem wsum_past {F : Int32} {g : Nat → Int64} {w : Nat} : ∀ n, w ≤ n → wsum F g w n = wsum F g w w
  | 0, h => by rw [show w = 0 by omega]
  | n + 1, h => by
    rcases Nat.lt_or_ge n w with q | q
    · rw [show w = n + 1 by omega]
    · simp only [wsum, if_neg (show ¬ n < w by omega), ite_self]
      exact wsum_past n q
theorem fx_if0 {P : Prop} {_ : Decidable P} {r : Int32} (h : r = if P then 0 else 1) (c : r = 0) : P := by
  by_cases p : P
  · exact p
  · rw [if_neg p] at h; rw [h] at c; exact absurd c (by decide)
theorem fx_if1 {P : Prop} {_ : Decidable P} {r : Int32} (h : r = if P then 0 else 1) (c : ¬ r = 0) : ¬ P := fun p => c (by rw [h, if_pos p])
set_option maxHeartbeats 4000000 in
set_option maxRecDepth 100000 in
theorem c_hasF (l : Launch) (D : va_G) (b : Nat) (N : Nat) (V : Wd) (x : Int32) (j : Nat) (hj : j < 32) : MI l D b 0 jX11_has [.int x, .int (nI j)] N V 0 0 (fun r N9 V9 => r = (if ((x >>> (nI j &&& 31)) &&& 1) = 0 then (0 : Int32) else 1) ∧ N = N9 ∧ V = V9) := by
  refine mw_of (by decide) (by simp [Value.category]) (Nat.le_of_ble_eq_true rfl) ?_
  show AW l D b jX11_has (fx_rm 0 0 0) none (fx_MQ D b 0 0 (fx_qi (fun r N9 V9 => r = (if ((x >>> (nI j &&& 31)) &&& 1) = 0 then (0 : Int32) else 1) ∧ N = N9 ∧ V = V9))) 0 [some (.int x), some (.int (nI j))] [] N V 0 0
  refine aw_iload_n dX11_has_0 rfl ?_
  refine aw_if_lt (tgt := 22) dX11_has_1 (by decide) (fun c_1 => ?_) (fun c_1 => ?_)
  · have nc_1 : j < 0 := (nI_ltI (a := j) (b := 0) (by omega) (by omega)).mp c_1
    omega
  have nc_1 : ¬ (j < 0) := fun z => c_1 ((nI_ltI (a := j) (b := 0) (by omega) (by omega)).mpr z)
  refine aw_iload_n dX11_has_4 rfl ?_
  refine aw_bipush (v := 32) dX11_has_5 (by decide) ?_
  refine aw_icmp_ge (tgt := 22) dX11_has_7 (by decide) (fun c_2 => ?_) (fun c_2 => ?_)
  · have nc_2 : 32 ≤ j := (nI_leI (a := 32) (b := j) (by omega) (by omega)).mp c_2
    omega
  have nc_2 : ¬ (32 ≤ j) := fun z => c_2 ((nI_leI (a := 32) (b := j) (by omega) (by omega)).mpr z)
  refine aw_iload_n dX11_has_10 rfl ?_
  refine aw_iload_n dX11_has_11 rfl ?_
  refine aw_ishr dX11_has_12 ?_
  refine aw_iconst (v := 1) dX11_has_13 (by decide) ?_
  refine aw_iand dX11_has_14 ?_
  refine aw_if_eq (tgt := 22) dX11_has_15 (by decide) (fun c_3 => ?_) (fun c_3 => ?_)
  · skip
    refine aw_iconst (v := 0) dX11_has_22 (by decide) ?_
    refine aw_zreti dX11_has_23 rfl (Or.inl rfl) (Nat.le_of_ble_eq_true rfl) (Nat.le_of_ble_eq_true rfl) ?_
    exact ⟨(if_pos c_3).symm, rfl, rfl⟩
  · skip
    refine aw_iconst (v := 1) dX11_has_18 (by decide) ?_
    refine aw_goto (tgt := 23) dX11_has_19 (by decide) ?_
    refine aw_zreti dX11_has_23 rfl (Or.inr rfl) (Nat.le_of_ble_eq_true rfl) (Nat.le_of_ble_eq_true rfl) ?_
    exact ⟨(if_neg c_3).symm, rfl, rfl⟩

set_option maxHeartbeats 4000000 in
set_option maxRecDepth 100000 in
theorem c_wordsWithOneMore (l : Launch) (D : va_G) (b : Nat) (N : Nat) (V : Wd) (hN : 100 ≤ N) (hp : V 97 = cO 8 [.ref (b + 98), .ref (b + 99)]) (g : Nat → Int64) (hg : V 99 = cJ D 129 g) (F : Int32) (w : Nat) (hw0 : w ≤ 128) : ML l D b 1 jX9_wordsWithOneMore [.ref (b + 97), .int F, .int (nI w)] N V 0 0 (fun r N9 V9 => r = wsum F g w 16 ∧ N = N9 ∧ V = V9) := by
  refine mw_of (by decide) (by simp [Value.category]) (Nat.le_of_ble_eq_true rfl) ?_
  show AW l D b jX9_wordsWithOneMore (fx_rm 1 0 0) none (fx_MQ D b 0 0 (fx_ql (fun r N9 V9 => r = wsum F g w 16 ∧ N = N9 ∧ V = V9))) 0 [some (.ref (b + 97)), some (.int F), some (.int (nI w)), none, none, none, none] [] N V 0 0
  refine aw_lconst (v := 0) dX9_wordsWithOneMore_0 (by decide) ?_
  refine aw_lstore_n (ls' := [some (.ref (b + 97)), some (.int F), some (.int (nI w)), some (.long 0), none, none, none]) dX9_wordsWithOneMore_1 (Nat.le_of_ble_eq_true rfl) rfl ?_
  refine aw_iconst (v := 0) dX9_wordsWithOneMore_2 (by decide) ?_
  refine aw_istore (ls' := [some (.ref (b + 97)), some (.int F), some (.int (nI w)), some (.long 0), none, some (.int 0), none]) dX9_wordsWithOneMore_3 (Nat.le_of_ble_eq_true rfl) rfl ?_
  have loop_5_0 : ∀ (g_5 : Nat), ∀ (j5 : Nat) (wy : Int64), j5 + g_5 = 16 → (wy = wsum F g w j5) → AW l D b jX9_wordsWithOneMore (fx_rm 1 0 0) none (fx_MQ D b 0 0 (fx_ql (fun r N9 V9 => r = wsum F g w 16 ∧ N = N9 ∧ V = V9))) 5 [some (.ref (b + 97)), some (.int F), some (.int (nI w)), some (.long wy), none, some (.int (nI j5)), none] [] N V 0 0 := by
    intro g_5
    induction g_5 with
    | zero =>
      intro j5 wy hj5 i5_0
      obtain rfl : j5 = 16 := by omega
      refine aw_iload dX9_wordsWithOneMore_5 rfl ?_
      refine aw_bipush (v := 16) dX9_wordsWithOneMore_7 (by decide) ?_
      refine aw_icmp_ge (tgt := 60) dX9_wordsWithOneMore_9 (by decide) (fun c_3 => ?_) (fun c_3 => ?_)
      rotate_left
      · exact absurd (nI_le (a := 16) (b := 16) (Nat.le_refl _) (by omega)) c_3
      refine aw_lload_n dX9_wordsWithOneMore_60 rfl ?_
      refine aw_lreti dX9_wordsWithOneMore_61 rfl (Nat.le_of_ble_eq_true rfl) (Nat.le_of_ble_eq_true rfl) ?_
      exact ⟨i5_0, rfl, rfl⟩
    | succ g_5 ih_5_1 =>
      intro j5 wy hj5 i5_0
      have hlj5 : j5 < 16 := by omega
      refine aw_iload dX9_wordsWithOneMore_5 rfl ?_
      refine aw_bipush (v := 16) dX9_wordsWithOneMore_7 (by decide) ?_
      refine aw_icmp_ge (tgt := 60) dX9_wordsWithOneMore_9 (by decide) (fun c_4 => ?_) (fun c_4 => ?_)
      · exact absurd c_4 (nI_ge (a := j5) (b := 16) (by omega) (by omega))
      rcases Nat.lt_or_ge j5 w with hw | hw
      · skip
        refine aw_iload_n dX9_wordsWithOneMore_12 rfl ?_
        refine aw_iload dX9_wordsWithOneMore_13 rfl ?_
        refine aw_iconst (v := 1) dX9_wordsWithOneMore_15 (by decide) ?_
        refine aw_iadd dX9_wordsWithOneMore_16 ?_
        refine aw_eqi (y := nI (j5 + 1)) (nI_add _ _) ?_
        refine aw_isub dX9_wordsWithOneMore_17 ?_
        refine aw_eqi (y := (nI (w - (j5 + 1)))) (pk_sub (by omega)) ?_
        refine aw_istore (ls' := [some (.ref (b + 97)), some (.int F), some (.int (nI w)), some (.long wy), none, some (.int (nI j5)), some (.int (nI (w - (j5 + 1))))]) dX9_wordsWithOneMore_18 (Nat.le_of_ble_eq_true rfl) rfl ?_
        refine aw_iload_n dX9_wordsWithOneMore_20 rfl ?_
        refine aw_iload dX9_wordsWithOneMore_21 rfl ?_
        refine aw_callSNi (J' := jX11_has) (As := [.int F, .int (nI j5)]) (st := []) dX9_wordsWithOneMore_23 tb_964 ok_X11_has rfl (c_hasF l D b N V F j5 (by omega)) rfl (Nat.le_of_ble_eq_true rfl) ⟨Nat.le_of_ble_eq_true rfl, Nat.le_of_ble_eq_true rfl, Nat.le_of_ble_eq_true rfl, Nat.le_of_ble_eq_true rfl⟩ (fun r_5 N_6 V_7 q_8 => ?_)
        obtain ⟨hr_5, rfl, rfl⟩ := q_8
        refine aw_if_eq (tgt := 54) dX9_wordsWithOneMore_26 (by decide) (fun c_9 => ?_) (fun c_9 => ?_)
        · skip
          have hb := fx_if0 hr_5 c_9
          refine aw_iinc (v := (nI (j5 + 1))) (ls' := [some (.ref (b + 97)), some (.int F), some (.int (nI w)), some (.long wy), none, some (.int (nI (j5 + 1))), some (.int (nI (w - (j5 + 1))))]) dX9_wordsWithOneMore_54 rfl (fx_up_1 _) (Nat.le_of_ble_eq_true rfl) rfl ?_
          refine aw_goto (tgt := 5) dX9_wordsWithOneMore_57 (by decide) ?_
          refine aw_le ?_ (ih_5_1 (j5 + 1) wy  (by omega) ((by rw [wsum, if_pos hb]; exact i5_0)))
          exact ⟨rfl, ⟨rfl, ⟨rfl, ⟨rfl, ⟨rfl, trivial⟩⟩⟩⟩⟩
        · skip
          have hb := fx_if1 hr_5 c_9
          refine aw_iload dX9_wordsWithOneMore_29 rfl ?_
          refine aw_if_lt (tgt := 54) dX9_wordsWithOneMore_31 (by decide) (fun c_10 => ?_) (fun c_10 => ?_)
          · have nc_10 : (w - (j5 + 1)) < 0 := (nI_ltI (a := (w - (j5 + 1))) (b := 0) (by omega) (by omega)).mp c_10
            omega
          have nc_10 : ¬ ((w - (j5 + 1)) < 0) := fun z => c_10 ((nI_ltI (a := (w - (j5 + 1))) (b := 0) (by omega) (by omega)).mpr z)
          refine aw_iload dX9_wordsWithOneMore_34 rfl ?_
          refine aw_aload_n dX9_wordsWithOneMore_36 rfl ?_
          refine aw_get dX9_wordsWithOneMore_37 fl_X9_15 hp (by omega) rfl ?_
          refine aw_alen (t0 := 1) (v := 129) dX9_wordsWithOneMore_40 hg (by omega) rfl rfl ?_
          refine aw_icmp_ge (tgt := 54) dX9_wordsWithOneMore_41 (by decide) (fun c_11 => ?_) (fun c_11 => ?_)
          · have nc_11 : 129 ≤ (w - (j5 + 1)) := (nI_leI (a := 129) (b := (w - (j5 + 1))) (by omega) (by omega)).mp c_11
            omega
          have nc_11 : ¬ (129 ≤ (w - (j5 + 1))) := fun z => c_11 ((nI_leI (a := 129) (b := (w - (j5 + 1))) (by omega) (by omega)).mpr z)
          refine aw_lload_n dX9_wordsWithOneMore_44 rfl ?_
          refine aw_aload_n dX9_wordsWithOneMore_45 rfl ?_
          refine aw_get dX9_wordsWithOneMore_46 fl_X9_15 hp (by omega) rfl ?_
          refine aw_iload dX9_wordsWithOneMore_49 rfl ?_
          refine aw_lald (v := (g (w - (j5 + 1)))) dX9_wordsWithOneMore_51 hg (by omega) (vp_in_nI (n := (w - (j5 + 1))) (by omega) (by omega)) (congrArg g (nI_clamp (n := (w - (j5 + 1))) (by omega))) ?_
          refine aw_ladd dX9_wordsWithOneMore_52 ?_
          refine aw_lstore_n (ls' := [some (.ref (b + 97)), some (.int F), some (.int (nI w)), some (.long (wy + (g (w - (j5 + 1))))), none, some (.int (nI j5)), some (.int (nI (w - (j5 + 1))))]) dX9_wordsWithOneMore_53 (Nat.le_of_ble_eq_true rfl) rfl ?_
          refine aw_iinc (v := (nI (j5 + 1))) (ls' := [some (.ref (b + 97)), some (.int F), some (.int (nI w)), some (.long (wy + (g (w - (j5 + 1))))), none, some (.int (nI (j5 + 1))), some (.int (nI (w - (j5 + 1))))]) dX9_wordsWithOneMore_54 rfl (fx_up_1 _) (Nat.le_of_ble_eq_true rfl) rfl ?_
          refine aw_goto (tgt := 5) dX9_wordsWithOneMore_57 (by decide) ?_
          refine aw_le ?_ (ih_5_1 (j5 + 1) (wy + (g (w - (j5 + 1))))  (by omega) ((by rw [wsum, if_neg hb, if_pos hw, i5_0])))
          exact ⟨rfl, ⟨rfl, ⟨rfl, ⟨rfl, ⟨rfl, trivial⟩⟩⟩⟩⟩
      · skip
        refine aw_iload_n dX9_wordsWithOneMore_12 rfl ?_
        refine aw_iload dX9_wordsWithOneMore_13 rfl ?_
        refine aw_iconst (v := 1) dX9_wordsWithOneMore_15 (by decide) ?_
        refine aw_iadd dX9_wordsWithOneMore_16 ?_
        refine aw_eqi (y := nI (j5 + 1)) (nI_add _ _) ?_
        refine aw_isub dX9_wordsWithOneMore_17 ?_
        refine aw_eqi (y := (nI w - nI (j5 + 1))) rfl ?_
        refine aw_istore (ls' := [some (.ref (b + 97)), some (.int F), some (.int (nI w)), some (.long wy), none, some (.int (nI j5)), some (.int (nI w - nI (j5 + 1)))]) dX9_wordsWithOneMore_18 (Nat.le_of_ble_eq_true rfl) rfl ?_
        refine aw_iload_n dX9_wordsWithOneMore_20 rfl ?_
        refine aw_iload dX9_wordsWithOneMore_21 rfl ?_
        refine aw_callSNi (J' := jX11_has) (As := [.int F, .int (nI j5)]) (st := []) dX9_wordsWithOneMore_23 tb_964 ok_X11_has rfl (c_hasF l D b N V F j5 (by omega)) rfl (Nat.le_of_ble_eq_true rfl) ⟨Nat.le_of_ble_eq_true rfl, Nat.le_of_ble_eq_true rfl, Nat.le_of_ble_eq_true rfl, Nat.le_of_ble_eq_true rfl⟩ (fun r_12 N_13 V_14 q_15 => ?_)
        obtain ⟨hr_12, rfl, rfl⟩ := q_15
        refine aw_if_eq (tgt := 54) dX9_wordsWithOneMore_26 (by decide) (fun c_16 => ?_) (fun c_16 => ?_)
        · skip
          have hb := fx_if0 hr_12 c_16
          refine aw_iinc (v := (nI (j5 + 1))) (ls' := [some (.ref (b + 97)), some (.int F), some (.int (nI w)), some (.long wy), none, some (.int (nI (j5 + 1))), some (.int (nI w - nI (j5 + 1)))]) dX9_wordsWithOneMore_54 rfl (fx_up_1 _) (Nat.le_of_ble_eq_true rfl) rfl ?_
          refine aw_goto (tgt := 5) dX9_wordsWithOneMore_57 (by decide) ?_
          refine aw_le ?_ (ih_5_1 (j5 + 1) wy  (by omega) ((by rw [wsum, if_pos hb]; exact i5_0)))
          exact ⟨rfl, ⟨rfl, ⟨rfl, ⟨rfl, ⟨rfl, trivial⟩⟩⟩⟩⟩
        · skip
          have hb := fx_if1 hr_12 c_16
          refine aw_iload dX9_wordsWithOneMore_29 rfl ?_
          refine aw_if_lt (tgt := 54) dX9_wordsWithOneMore_31 (by decide) (fun c_17 => ?_) (fun c_17 => ?_)
          rotate_left
          · exact absurd (pk_sneg (by omega) (by omega)) c_17
          refine aw_iinc (v := (nI (j5 + 1))) (ls' := [some (.ref (b + 97)), some (.int F), some (.int (nI w)), some (.long wy), none, some (.int (nI (j5 + 1))), some (.int (nI w - nI (j5 + 1)))]) dX9_wordsWithOneMore_54 rfl (fx_up_1 _) (Nat.le_of_ble_eq_true rfl) rfl ?_
          refine aw_goto (tgt := 5) dX9_wordsWithOneMore_57 (by decide) ?_
          refine aw_le ?_ (ih_5_1 (j5 + 1) wy  (by omega) ((by rw [wsum, if_neg hb, if_neg (by omega)]; exact i5_0)))
          exact ⟨rfl, ⟨rfl, ⟨rfl, ⟨rfl, ⟨rfl, trivial⟩⟩⟩⟩⟩
  refine aw_le ?_ (loop_5_0 16 0 0  (by omega) (rfl))
  exact ⟨rfl, ⟨rfl, ⟨rfl, ⟨rfl, ⟨rfl, trivial⟩⟩⟩⟩⟩

set_option maxHeartbeats 4000000 in
set_option maxRecDepth 100000 in
theorem c_wordsWeighing (l : Launch) (D : va_G) (b : Nat) (N : Nat) (V : Wd) (hN : 100 ≤ N) (hp : V 97 = cO 8 [.ref (b + 98), .ref (b + 99)]) (g : Nat → Int64) (hg : V 99 = cJ D 129 g) (n : Nat) (hn : n ≤ 8) (F : Int32) (wt : Nat) (hw0 : wt ≤ 128) : ML l D b 2 jX9_wordsWeighing [.ref (b + 97), .int (nI n), .int F, .int (nI wt)] N V 0 0 (fun r N9 V9 => r = wds F n wt ∧ N = N9 ∧ ∀ i, 100 ≤ i → V9 i = V i) := by
  refine mw_of (by decide) (by simp [Value.category]) (Nat.le_of_ble_eq_true rfl) ?_
  show AW l D b jX9_wordsWeighing (fx_rm 2 0 0) none (fx_MQ D b 0 0 (fx_ql (fun r N9 V9 => r = wds F n wt ∧ N = N9 ∧ ∀ i, 100 ≤ i → V9 i = V i))) 0 [some (.ref (b + 97)), some (.int (nI n)), some (.int F), some (.int (nI wt)), none, none] [] N V 0 0
  refine aw_iconst (v := 0) dX9_wordsWeighing_0 (by decide) ?_
  refine aw_istore (ls' := [some (.ref (b + 97)), some (.int (nI n)), some (.int F), some (.int (nI wt)), some (.int 0), none]) dX9_wordsWeighing_1 (Nat.le_of_ble_eq_true rfl) rfl ?_
  have loop_3_0 : ∀ (g_3 : Nat), ∀ (j3 : Nat)  (V3 : Wd), j3 + g_3 = 129 → (∃ g3 : Nat → Int64, V3 99 = cJ D 129 g3 ∧ ∀ k, k < j3 → g3 k = 0) → (∀ i, i ≠ 99 → V3 i = V i) → AW l D b jX9_wordsWeighing (fx_rm 2 0 0) none (fx_MQ D b 0 0 (fx_ql (fun r N9 V9 => r = wds F n wt ∧ N = N9 ∧ ∀ i, 100 ≤ i → V9 i = V i))) 3 [some (.ref (b + 97)), some (.int (nI n)), some (.int F), some (.int (nI wt)), some (.int (nI j3)), none] [] N V3 0 0 := by
    intro g_3
    induction g_3 with
    | zero =>
      intro j3  V3 hj3 i3_0 i3_1
      obtain rfl : j3 = 129 := by omega
      obtain ⟨g3, e3, z3⟩ := id i3_0
      refine aw_iload dX9_wordsWeighing_3 rfl ?_
      refine aw_aload_n dX9_wordsWeighing_5 rfl ?_
      refine aw_get dX9_wordsWeighing_6 fl_X9_15 ((i3_1 97 (by omega)).trans hp) (by omega) rfl ?_
      refine aw_alen (t0 := 1) (v := 129) dX9_wordsWeighing_9 e3 (by omega) rfl rfl ?_
      refine aw_icmp_ge (tgt := 27) dX9_wordsWeighing_10 (by decide) (fun c_3 => ?_) (fun c_3 => ?_)
      rotate_left
      · exact absurd (nI_le (a := 129) (b := 129) (Nat.le_refl _) (by omega)) c_3
      refine aw_aload_n dX9_wordsWeighing_27 rfl ?_
      refine aw_get dX9_wordsWeighing_28 fl_X9_15 ((i3_1 97 (by omega)).trans hp) (by omega) rfl ?_
      refine aw_iconst (v := 0) dX9_wordsWeighing_31 (by decide) ?_
      refine aw_lconst (v := 1) dX9_wordsWeighing_32 (by decide) ?_
      refine aw_last dX9_wordsWeighing_33 e3 (by omega) (vp_in_nI (n := 0) (N := 129) (by decide) (by decide)) ?_
      refine aw_iconst (v := 0) dX9_wordsWeighing_34 (by decide) ?_
      refine aw_istore (ls' := [some (.ref (b + 97)), some (.int (nI n)), some (.int F), some (.int (nI wt)), some (.int 0), none]) dX9_wordsWeighing_35 (Nat.le_of_ble_eq_true rfl) rfl ?_
      have loop_37_3 : ∀ (g_37 : Nat), ∀ (j37 : Nat)  (V37 : Wd), j37 + g_37 = n → (∃ g37 : Nat → Int64, V37 99 = cJ D 129 g37 ∧ ∀ k, k < 129 → g37 k = wds F j37 k) → (∀ i, i ≠ 99 → V37 i = V i) → AW l D b jX9_wordsWeighing (fx_rm 2 0 0) none (fx_MQ D b 0 0 (fx_ql (fun r N9 V9 => r = wds F n wt ∧ N = N9 ∧ ∀ i, 100 ≤ i → V9 i = V i))) 37 [some (.ref (b + 97)), some (.int (nI n)), some (.int F), some (.int (nI wt)), some (.int (nI j37)), none] [] N V37 0 0 := by
        intro g_37
        induction g_37 with
        | zero =>
          intro j37  V37 hj37 i37_0 i37_1
          obtain rfl : n = j37 := by omega
          obtain ⟨g37, e37, z37⟩ := id i37_0
          refine aw_iload dX9_wordsWeighing_37 rfl ?_
          refine aw_iload_n dX9_wordsWeighing_39 rfl ?_
          refine aw_icmp_ge (tgt := 83) dX9_wordsWeighing_40 (by decide) (fun c_6 => ?_) (fun c_6 => ?_)
          rotate_left
          · exact absurd (nI_le (a := n) (b := n) (Nat.le_refl _) (by omega)) c_6
          refine aw_iload_n dX9_wordsWeighing_83 rfl ?_
          refine aw_if_lt (tgt := 105) dX9_wordsWeighing_84 (by decide) (fun c_7 => ?_) (fun c_7 => ?_)
          · have nc_7 : wt < 0 := (nI_ltI (a := wt) (b := 0) (by omega) (by omega)).mp c_7
            omega
          have nc_7 : ¬ (wt < 0) := fun z => c_7 ((nI_ltI (a := wt) (b := 0) (by omega) (by omega)).mpr z)
          refine aw_iload_n dX9_wordsWeighing_87 rfl ?_
          refine aw_aload_n dX9_wordsWeighing_88 rfl ?_
          refine aw_get dX9_wordsWeighing_89 fl_X9_15 ((i37_1 97 (by omega)).trans hp) (by omega) rfl ?_
          refine aw_alen (t0 := 1) (v := 129) dX9_wordsWeighing_92 e37 (by omega) rfl rfl ?_
          refine aw_icmp_ge (tgt := 105) dX9_wordsWeighing_93 (by decide) (fun c_8 => ?_) (fun c_8 => ?_)
          · have nc_8 : 129 ≤ wt := (nI_leI (a := 129) (b := wt) (by omega) (by omega)).mp c_8
            omega
          have nc_8 : ¬ (129 ≤ wt) := fun z => c_8 ((nI_leI (a := 129) (b := wt) (by omega) (by omega)).mpr z)
          refine aw_aload_n dX9_wordsWeighing_96 rfl ?_
          refine aw_get dX9_wordsWeighing_97 fl_X9_15 ((i37_1 97 (by omega)).trans hp) (by omega) rfl ?_
          refine aw_iload_n dX9_wordsWeighing_100 rfl ?_
          refine aw_lald (v := (g37 wt)) dX9_wordsWeighing_101 e37 (by omega) (vp_in_nI (n := wt) (by omega) (by omega)) (congrArg g37 (nI_clamp (n := wt) (by omega))) ?_
          refine aw_goto (tgt := 106) dX9_wordsWeighing_102 (by decide) ?_
          refine aw_lreti dX9_wordsWeighing_106 rfl (Nat.le_of_ble_eq_true rfl) (Nat.le_of_ble_eq_true rfl) ?_
          exact ⟨z37 wt (by omega), rfl, fun i hi => i37_1 i (by omega)⟩
        | succ g_37 ih_37_4 =>
          intro j37  V37 hj37 i37_0 i37_1
          have hlj37 : j37 < n := by omega
          obtain ⟨g37, e37, z37⟩ := id i37_0
          refine aw_iload dX9_wordsWeighing_37 rfl ?_
          refine aw_iload_n dX9_wordsWeighing_39 rfl ?_
          refine aw_icmp_ge (tgt := 83) dX9_wordsWeighing_40 (by decide) (fun c_9 => ?_) (fun c_9 => ?_)
          · exact absurd c_9 (nI_ge (a := j37) (b := n) (by omega) (by omega))
          refine aw_aload_n dX9_wordsWeighing_43 rfl ?_
          refine aw_get dX9_wordsWeighing_44 fl_X9_15 ((i37_1 97 (by omega)).trans hp) (by omega) rfl ?_
          refine aw_alen (t0 := 1) (v := 129) dX9_wordsWeighing_47 e37 (by omega) rfl rfl ?_
          refine aw_iconst (v := 1) dX9_wordsWeighing_48 (by decide) ?_
          refine aw_isub dX9_wordsWeighing_49 ?_
          refine aw_eqi (y := 128) (by decide) ?_
          refine aw_istore (ls' := [some (.ref (b + 97)), some (.int (nI n)), some (.int F), some (.int (nI wt)), some (.int (nI j37)), some (.int 128)]) dX9_wordsWeighing_50 (Nat.le_of_ble_eq_true rfl) rfl ?_
          have loop_52_9 : ∀ (j52 : Nat), ∀ (V52 : Wd), j52 ≤ 129 → (∃ g52 : Nat → Int64, V52 99 = cJ D 129 g52 ∧ (∀ k, k < j52 → g52 k = wds F j37 k) ∧ (∀ k, j52 ≤ k → k < 129 → g52 k = wds F (j37 + 1) k)) → (∀ i, i ≠ 99 → V52 i = V i) → AW l D b jX9_wordsWeighing (fx_rm 2 0 0) none (fx_MQ D b 0 0 (fx_ql (fun r N9 V9 => r = wds F n wt ∧ N = N9 ∧ ∀ i, 100 ≤ i → V9 i = V i))) 52 [some (.ref (b + 97)), some (.int (nI n)), some (.int F), some (.int (nI wt)), some (.int (nI j37)), some (.int (fx_dn j52))] [] N V52 0 0 := by
            intro j52
            induction j52 with
            | zero =>
              intro V52 hj52 i52_0 i52_1
              show AW l D b jX9_wordsWeighing (fx_rm 2 0 0) none (fx_MQ D b 0 0 (fx_ql (fun r N9 V9 => r = wds F n wt ∧ N = N9 ∧ ∀ i, 100 ≤ i → V9 i = V i))) 52 [some (.ref (b + 97)), some (.int (nI n)), some (.int F), some (.int (nI wt)), some (.int (nI j37)), some (.int (-1))] [] N V52 0 0
              obtain ⟨g52, e52, z52, y52⟩ := id i52_0
              refine aw_iload dX9_wordsWeighing_52 rfl ?_
              refine aw_if_lt (tgt := 77) dX9_wordsWeighing_54 (by decide) (fun c_12 => ?_) (fun c_12 => ?_)
              rotate_left
              · exact absurd (by decide) c_12
              refine aw_iinc (v := (nI (j37 + 1))) (ls' := [some (.ref (b + 97)), some (.int (nI n)), some (.int F), some (.int (nI wt)), some (.int (nI (j37 + 1))), some (.int (-1))]) dX9_wordsWeighing_77 rfl (fx_up_1 _) (Nat.le_of_ble_eq_true rfl) rfl ?_
              refine aw_goto (tgt := 37) dX9_wordsWeighing_80 (by decide) ?_
              refine aw_le ?_ (ih_37_4 (j37 + 1)  V52 (by omega) (⟨g52, e52, fun k hk => y52 k (by omega) hk⟩) (i52_1))
              exact ⟨rfl, ⟨rfl, ⟨rfl, ⟨rfl, ⟨rfl, trivial⟩⟩⟩⟩⟩
            | succ j52 ih_52_10 =>
              intro V52 hj52 i52_0 i52_1
              show AW l D b jX9_wordsWeighing (fx_rm 2 0 0) none (fx_MQ D b 0 0 (fx_ql (fun r N9 V9 => r = wds F n wt ∧ N = N9 ∧ ∀ i, 100 ≤ i → V9 i = V i))) 52 [some (.ref (b + 97)), some (.int (nI n)), some (.int F), some (.int (nI wt)), some (.int (nI j37)), some (.int (nI j52))] [] N V52 0 0
              obtain ⟨g52, e52, z52, y52⟩ := id i52_0
              refine aw_iload dX9_wordsWeighing_52 rfl ?_
              refine aw_if_lt (tgt := 77) dX9_wordsWeighing_54 (by decide) (fun c_13 => ?_) (fun c_13 => ?_)
              · exact absurd c_13 (nI_pos (by omega))
              refine aw_aload_n dX9_wordsWeighing_57 rfl ?_
              refine aw_get dX9_wordsWeighing_58 fl_X9_15 ((i52_1 97 (by omega)).trans hp) (by omega) rfl ?_
              refine aw_iload dX9_wordsWeighing_61 rfl ?_
              refine aw_aload_n dX9_wordsWeighing_63 rfl ?_
              refine aw_iload_n dX9_wordsWeighing_64 rfl ?_
              refine aw_iload dX9_wordsWeighing_65 rfl ?_
              refine aw_callVl (J' := jX9_wordsWithOneMore) (As := [.int F, .int (nI j52)]) (st := [.int (nI j52), .ref (b + 99)]) dX9_wordsWeighing_67 tb_982 ok_X9_wordsWithOneMore ⟨_, ((i52_1 97 (by omega)).trans hp)⟩ (by omega) rfl rfl (c_wordsWithOneMore l D b N V52 hN ((i52_1 97 (by omega)).trans hp) _ e52 F j52 (by omega)) rfl (Nat.le_of_ble_eq_true rfl) ⟨Nat.le_of_ble_eq_true rfl, Nat.le_of_ble_eq_true rfl, Nat.le_of_ble_eq_true rfl, Nat.le_of_ble_eq_true rfl⟩ (fun r_14 N_15 V_16 q_17 => ?_)
              obtain ⟨hr_14, rfl, rfl⟩ := q_17
              refine aw_last dX9_wordsWeighing_70 e52 (by omega) (vp_in_nI (n := j52) (by omega) (by omega)) ?_
              refine aw_iinc (v := (fx_dn j52)) (ls' := [some (.ref (b + 97)), some (.int (nI n)), some (.int F), some (.int (nI wt)), some (.int (nI j37)), some (.int (fx_dn j52))]) dX9_wordsWeighing_71 rfl (fx_dn_1 _) (Nat.le_of_ble_eq_true rfl) rfl ?_
              refine aw_goto (tgt := 52) dX9_wordsWeighing_74 (by decide) ?_
              refine aw_le ?_ (ih_52_10  (va_up V52 99 (cJ D 129 (vp_updL g52 (Int32.toNatClampNeg (nI j52)) r_14))) (by omega) (⟨_, va_up_self _ _ _, fun k hk => by rw [nI_clamp (n := j52) (by omega), pk_uLn (by omega)]; exact z52 k (by omega), fun k h1 h2 => by rw [nI_clamp (n := j52) (by omega)]; exact (if e : k = j52 then (by subst e; rw [pk_uLs, hr_14]; exact wsum_congr (fun q hq => z52 q (by omega)) 16) else (by rw [pk_uLn e]; exact y52 k (by omega) h2))⟩) (fun i hi => (va_up_ne _ _ hi).trans (i52_1 i hi)))
              exact ⟨rfl, ⟨rfl, ⟨rfl, ⟨rfl, ⟨rfl, ⟨rfl, trivial⟩⟩⟩⟩⟩⟩
          refine aw_le ?_ (loop_52_9 129  V37 (by omega) (⟨g37, e37, fun k hk => z37 k (by omega), fun k h1 h2 => absurd h2 (by omega)⟩) (i37_1))
          exact ⟨rfl, ⟨rfl, ⟨rfl, ⟨rfl, ⟨rfl, ⟨rfl, trivial⟩⟩⟩⟩⟩⟩
      refine aw_le ?_ (loop_37_3 n 0  (va_up V3 99 (cJ D 129 (vp_updL g3 (Int32.toNatClampNeg 0) 1))) (by omega) (⟨_, va_up_self _ _ _, fun k hk => (if e : k = 0 then (by subst e; exact pk_uLs) else (by rw [show ((0 : Int32).toNatClampNeg) = 0 by decide, pk_uLn e, z3 k hk, wds, if_neg e]))⟩) (fun i hi => (va_up_ne _ _ hi).trans (i3_1 i hi)))
      exact ⟨rfl, ⟨rfl, ⟨rfl, ⟨rfl, ⟨rfl, trivial⟩⟩⟩⟩⟩
    | succ g_3 ih_3_1 =>
      intro j3  V3 hj3 i3_0 i3_1
      have hlj3 : j3 < 129 := by omega
      obtain ⟨g3, e3, z3⟩ := id i3_0
      refine aw_iload dX9_wordsWeighing_3 rfl ?_
      refine aw_aload_n dX9_wordsWeighing_5 rfl ?_
      refine aw_get dX9_wordsWeighing_6 fl_X9_15 ((i3_1 97 (by omega)).trans hp) (by omega) rfl ?_
      refine aw_alen (t0 := 1) (v := 129) dX9_wordsWeighing_9 e3 (by omega) rfl rfl ?_
      refine aw_icmp_ge (tgt := 27) dX9_wordsWeighing_10 (by decide) (fun c_18 => ?_) (fun c_18 => ?_)
      · exact absurd c_18 (nI_ge (a := j3) (b := 129) (by omega) (by omega))
      refine aw_aload_n dX9_wordsWeighing_13 rfl ?_
      refine aw_get dX9_wordsWeighing_14 fl_X9_15 ((i3_1 97 (by omega)).trans hp) (by omega) rfl ?_
      refine aw_iload dX9_wordsWeighing_17 rfl ?_
      refine aw_lconst (v := 0) dX9_wordsWeighing_19 (by decide) ?_
      refine aw_last dX9_wordsWeighing_20 e3 (by omega) (vp_in_nI (n := j3) (by omega) (by omega)) ?_
      refine aw_iinc (v := (nI (j3 + 1))) (ls' := [some (.ref (b + 97)), some (.int (nI n)), some (.int F), some (.int (nI wt)), some (.int (nI (j3 + 1))), none]) dX9_wordsWeighing_21 rfl (fx_up_1 _) (Nat.le_of_ble_eq_true rfl) rfl ?_
      refine aw_goto (tgt := 3) dX9_wordsWeighing_24 (by decide) ?_
      refine aw_le ?_ (ih_3_1 (j3 + 1)  (va_up V3 99 (cJ D 129 (vp_updL g3 (Int32.toNatClampNeg (nI j3)) 0))) (by omega) (⟨_, va_up_self _ _ _, fun k hk => by rw [nI_clamp (n := j3) (by omega)]; exact (if e : k = j3 then (by subst e; exact pk_uLs) else (by rw [pk_uLn e]; exact z3 k (by omega)))⟩) (fun i hi => (va_up_ne _ _ hi).trans (i3_1 i hi)))
      exact ⟨rfl, ⟨rfl, ⟨rfl, ⟨rfl, ⟨rfl, trivial⟩⟩⟩⟩⟩
  refine aw_le ?_ (loop_3_0 129 0  V (by omega) (⟨g, hg, fun k hk => absurd hk (Nat.not_lt_zero k)⟩) (fun i _ => rfl))
  exact ⟨rfl, ⟨rfl, ⟨rfl, ⟨rfl, ⟨rfl, trivial⟩⟩⟩⟩⟩
