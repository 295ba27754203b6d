
def AZ (D : va_G) (i n : Nat) (V : Wd) : Prop := ∃ g : Nat → Int32, V i = cI D n g ∧ ∀ j, j < n → g j = 0
theorem AZ.frame {D : va_G} {i n : Nat} {V V' : Wd} (h : AZ D i n V) (e : V' i = V i) : AZ D i n V' := by
  obtain ⟨g, h1, h2⟩ := h
  exact ⟨g, e.trans h1, h2⟩
theorem AZ.upd {D : va_G} {i n k : Nat} {V : Wd} {g : Nat → Int32} (h2 : ∀ j, j < n → g j = 0) : AZ D i n (va_up V i (cI D n (upd g k 0))) := ⟨_, va_up_self _ _ _, fx_upd0 h2⟩
theorem fx_or0 (x : Int32) : (0 : Int32) ||| x = x := Int32.zero_or
theorem fx_shl12 : ∀ k, k < 12 → (1 : Int32) <<< (nI k &&& 31) = nI (2 ^ k) := by decide +kernel
theorem fx_orI (a b : Nat) : nI a ||| nI b = nI (a ||| b) := by
  apply Int32.toBitVec_inj.mp
  simp [nI]
theorem fx_pow12 {k : Nat} (h : k < 12) : 2 ^ k ≤ 2048 := Nat.pow_le_pow_right (by decide) (show k ≤ 11 by omega)
set_option maxHeartbeats 4000000 in
set_option maxRecDepth 100000 in
theorem c_openedBy (l : Launch) (D : va_G) (b : Nat) (N : Nat) (V : Wd) (hN : 100 ≤ N) (hk : V 92 = cO 3 [.ref (b + 93)]) (g : Nat → Int32) (hg : V 93 = cI D 12 g) (z : ∀ j, j < 12 → g j = 0) (x : Int32) : MI l D b 1 jX3_openedBy [.ref (b + 92), .int x] N V 0 0 (fun r N9 V9 => r = 0 ∧ N = N9 ∧ V = V9) := by
  refine mw_of (by decide) (by simp [Value.category]) (Nat.le_of_ble_eq_true rfl) ?_
  show AW l D b jX3_openedBy (fx_rm 1 0 0) none (fx_MQ D b 0 0 (fx_qi (fun r N9 V9 => r = 0 ∧ N = N9 ∧ V = V9))) 0 [some (.ref (b + 92)), some (.int x), none, none] [] N V 0 0
  refine aw_iconst (v := 0) dX3_openedBy_0 (by decide) ?_
  refine aw_istore_n (ls' := [some (.ref (b + 92)), some (.int x), some (.int 0), none]) dX3_openedBy_1 (Nat.le_of_ble_eq_true rfl) rfl ?_
  refine aw_iconst (v := 0) dX3_openedBy_2 (by decide) ?_
  refine aw_istore_n (ls' := [some (.ref (b + 92)), some (.int x), some (.int 0), some (.int 0)]) dX3_openedBy_3 (Nat.le_of_ble_eq_true rfl) rfl ?_
  have loop_4_0 : ∀ (g_4 : Nat), ∀ (j4 : Nat), j4 + g_4 = 12 → AW l D b jX3_openedBy (fx_rm 1 0 0) none (fx_MQ D b 0 0 (fx_qi (fun r N9 V9 => r = 0 ∧ N = N9 ∧ V = V9))) 4 [some (.ref (b + 92)), some (.int x), some (.int 0), some (.int (nI j4))] [] N V 0 0 := by
    intro g_4
    induction g_4 with
    | zero =>
      intro j4  hj4
      obtain rfl : j4 = 12 := by omega
      refine aw_iload_n dX3_openedBy_4 rfl ?_
      refine aw_aload_n dX3_openedBy_5 rfl ?_
      refine aw_get dX3_openedBy_6 fl_X3_9 hk (by omega) rfl ?_
      refine aw_alen (t0 := 0) (v := 12) dX3_openedBy_9 hg (by omega) rfl rfl ?_
      refine aw_icmp_ge (tgt := 36) dX3_openedBy_10 (by decide) (fun c_3 => ?_) (fun c_3 => ?_)
      rotate_left
      · exact absurd (nI_le (a := 12) (b := 12) (Nat.le_refl _) (by omega)) c_3
      refine aw_iload_n dX3_openedBy_36 rfl ?_
      refine aw_ireti dX3_openedBy_37 rfl (Nat.le_of_ble_eq_true rfl) (Nat.le_of_ble_eq_true rfl) ?_
      exact ⟨rfl, rfl, rfl⟩
    | succ g_4 ih_4_1 =>
      intro j4  hj4
      have hlj4 : j4 < 12 := by omega
      refine aw_iload_n dX3_openedBy_4 rfl ?_
      refine aw_aload_n dX3_openedBy_5 rfl ?_
      refine aw_get dX3_openedBy_6 fl_X3_9 hk (by omega) rfl ?_
      refine aw_alen (t0 := 0) (v := 12) dX3_openedBy_9 hg (by omega) rfl rfl ?_
      refine aw_icmp_ge (tgt := 36) dX3_openedBy_10 (by decide) (fun c_4 => ?_) (fun c_4 => ?_)
      · exact absurd c_4 (nI_ge (a := j4) (b := 12) (by omega) (by omega))
      refine aw_iload_n dX3_openedBy_13 rfl ?_
      refine aw_iload_n dX3_openedBy_14 rfl ?_
      refine aw_callSNi (J' := jX11_has) (As := [.int x, .int (nI j4)]) (st := []) dX3_openedBy_15 tb_804 ok_X11_has rfl (c_hasA l D b N V x (nI j4)) rfl (Nat.le_of_ble_eq_true rfl) ⟨Nat.le_of_ble_eq_true rfl, Nat.le_of_ble_eq_true rfl, Nat.le_of_ble_eq_true rfl, Nat.le_of_ble_eq_true rfl⟩ (fun r_5 N_6 V_7 q_8 => ?_)
      obtain ⟨hr_5, rfl, rfl⟩ := q_8
      refine aw_if_eq (tgt := 30) dX3_openedBy_18 (by decide) (fun c_9 => ?_) (fun c_9 => ?_)
      · skip
        refine aw_iinc (v := (nI (j4 + 1))) (ls' := [some (.ref (b + 92)), some (.int x), some (.int 0), some (.int (nI (j4 + 1)))]) dX3_openedBy_30 rfl (fx_up_1 _) (Nat.le_of_ble_eq_true rfl) rfl ?_
        refine aw_goto (tgt := 4) dX3_openedBy_33 (by decide) ?_
        refine aw_le ?_ (ih_4_1 (j4 + 1)   (by omega))
        exact ⟨rfl, ⟨rfl, ⟨rfl, ⟨rfl, trivial⟩⟩⟩⟩
      · skip
        refine aw_iload_n dX3_openedBy_21 rfl ?_
        refine aw_aload_n dX3_openedBy_22 rfl ?_
        refine aw_get dX3_openedBy_23 fl_X3_9 hk (by omega) rfl ?_
        refine aw_iload_n dX3_openedBy_26 rfl ?_
        refine aw_iald (v := 0) dX3_openedBy_27 hg (by omega) (vp_in_nI (n := j4) (by omega) (by omega)) (by rw [nI_clamp (n := j4) (by omega)]; exact z j4 (by omega)) ?_
        refine aw_ior dX3_openedBy_28 ?_
        refine aw_eqi (y := 0) (by decide) ?_
        refine aw_istore_n (ls' := [some (.ref (b + 92)), some (.int x), some (.int 0), some (.int (nI j4))]) dX3_openedBy_29 (Nat.le_of_ble_eq_true rfl) rfl ?_
        refine aw_iinc (v := (nI (j4 + 1))) (ls' := [some (.ref (b + 92)), some (.int x), some (.int 0), some (.int (nI (j4 + 1)))]) dX3_openedBy_30 rfl (fx_up_1 _) (Nat.le_of_ble_eq_true rfl) rfl ?_
        refine aw_goto (tgt := 4) dX3_openedBy_33 (by decide) ?_
        refine aw_le ?_ (ih_4_1 (j4 + 1)   (by omega))
        exact ⟨rfl, ⟨rfl, ⟨rfl, ⟨rfl, trivial⟩⟩⟩⟩
  refine aw_le ?_ (loop_4_0 12 0   (by omega))
  exact ⟨rfl, ⟨rfl, ⟨rfl, ⟨rfl, trivial⟩⟩⟩⟩

set_option maxHeartbeats 4000000 in
set_option maxRecDepth 100000 in
theorem c_fewestForAllDoors (l : Launch) (D : va_G) (b : Nat) (c N : Nat) (V : Wd) (hN : 100 ≤ N) (hc : c + 18 ≤ 57) (hC : CZ D b c V) (hk : V 92 = cO 3 [.ref (b + 93)]) (hg0 : AZ D 93 12 V) : MI l D b 4 jX3_fewestForAllDoors [.ref (b + 92), .ref (b + c)] N V 0 0 (fun r N9 V9 => r = 0 ∧ N = N9 ∧ ∀ i, 100 ≤ i → V9 i = V i) := by
  obtain ⟨dr, kn, df, sg, op, ni, xx, hCA, z1, z2⟩ := id hC
  obtain ⟨h0, h1, h2, h3, h4, h5, h6⟩ := id hCA
  obtain ⟨g, hg, zg⟩ := id hg0
  refine mw_of (by decide) (by simp [Value.category]) (Nat.le_of_ble_eq_true rfl) ?_
  show AW l D b jX3_fewestForAllDoors (fx_rm 4 0 0) none (fx_MQ D b 0 0 (fx_qi (fun r N9 V9 => r = 0 ∧ N = N9 ∧ ∀ i, 100 ≤ i → V9 i = V i))) 0 [some (.ref (b + 92)), some (.ref (b + c)), none, none, none, none] [] N V 0 0
  refine aw_sipush (v := 4095) dX3_fewestForAllDoors_0 (by decide) ?_
  refine aw_istore_n (ls' := [some (.ref (b + 92)), some (.ref (b + c)), some (.int 4095), none, none, none]) dX3_fewestForAllDoors_3 (Nat.le_of_ble_eq_true rfl) rfl ?_
  refine aw_bipush (v := (-2)) dX3_fewestForAllDoors_4 (by decide) ?_
  refine aw_istore_n (ls' := [some (.ref (b + 92)), some (.ref (b + c)), some (.int 4095), some (.int (-2)), none, none]) dX3_fewestForAllDoors_6 (Nat.le_of_ble_eq_true rfl) rfl ?_
  refine aw_bipush (v := 13) dX3_fewestForAllDoors_7 (by decide) ?_
  refine aw_istore (ls' := [some (.ref (b + 92)), some (.ref (b + c)), some (.int 4095), some (.int (-2)), some (.int 13), none]) dX3_fewestForAllDoors_9 (Nat.le_of_ble_eq_true rfl) rfl ?_
  refine aw_iconst (v := 0) dX3_fewestForAllDoors_11 (by decide) ?_
  refine aw_istore (ls' := [some (.ref (b + 92)), some (.ref (b + c)), some (.int 4095), some (.int (-2)), some (.int 13), some (.int 0)]) dX3_fewestForAllDoors_12 (Nat.le_of_ble_eq_true rfl) rfl ?_
  have loop_14_0 : ∀ (g_14 : Nat), ∀ (j14 : Nat)  (V14 : Wd), j14 + g_14 = 12 → (CZ D b c V14) → (V14 92 = cO 3 [.ref (b + 93)]) → (AZ D 93 12 V14) → (∀ i, 100 ≤ i → V14 i = V i) → AW l D b jX3_fewestForAllDoors (fx_rm 4 0 0) none (fx_MQ D b 0 0 (fx_qi (fun r N9 V9 => r = 0 ∧ N = N9 ∧ ∀ i, 100 ≤ i → V9 i = V i))) 14 [some (.ref (b + 92)), some (.ref (b + c)), some (.int 4095), some (.int (-2)), some (.int 13), some (.int (nI j14))] [] N V14 0 0 := by
    intro g_14
    induction g_14 with
    | zero =>
      intro j14  V14 hj14 i14_0 i14_1 i14_2 i14_3
      obtain rfl : j14 = 12 := by omega
      obtain ⟨dra, kna, dfa, sga, opa, nia, xxa, hCAa, z1a, z2a⟩ := id i14_0
      obtain ⟨h0a, h1a, h2a, h3a, h4a, h5a, h6a⟩ := id hCAa
      obtain ⟨g14, e14, z14⟩ := id i14_2
      refine aw_iload dX3_fewestForAllDoors_14 rfl ?_
      refine aw_bipush (v := 12) dX3_fewestForAllDoors_16 (by decide) ?_
      refine aw_icmp_ge (tgt := 40) dX3_fewestForAllDoors_18 (by decide) (fun c_3 => ?_) (fun c_3 => ?_)
      rotate_left
      · exact absurd (nI_le (a := 12) (b := 12) (Nat.le_refl _) (by omega)) c_3
      refine aw_iconst (v := 0) dX3_fewestForAllDoors_40 (by decide) ?_
      refine aw_istore (ls' := [some (.ref (b + 92)), some (.ref (b + c)), some (.int 4095), some (.int (-2)), some (.int 13), some (.int 0)]) dX3_fewestForAllDoors_41 (Nat.le_of_ble_eq_true rfl) rfl ?_
      refine aw_iload dX3_fewestForAllDoors_43 rfl ?_
      refine aw_iload_n dX3_fewestForAllDoors_45 rfl ?_
      refine aw_icmp_gt (tgt := 88) dX3_fewestForAllDoors_46 (by decide) (fun c_4 => ?_) (fun c_4 => ?_)
      · exact absurd c_4 (by decide)
      refine aw_iload dX3_fewestForAllDoors_49 rfl ?_
      refine aw_callSi (J' := jJ6_bitCount_0f7a4) (As := [.int 0]) (st := []) dX3_fewestForAllDoors_51 tb_799 ok_J6_bitCount_0f7a4 rfl (c_bitCount l D b N V14 0) rfl (Nat.le_of_ble_eq_true rfl) ⟨Nat.le_of_ble_eq_true rfl, Nat.le_of_ble_eq_true rfl, Nat.le_of_ble_eq_true rfl, Nat.le_of_ble_eq_true rfl⟩ (fun r_5 N_6 V_7 q_8 => ?_)
      obtain ⟨⟨hr_5, -⟩, rfl, rfl⟩ := q_8
      obtain rfl := hr_5 rfl
      refine aw_iload dX3_fewestForAllDoors_54 rfl ?_
      refine aw_icmp_ge (tgt := 82) dX3_fewestForAllDoors_56 (by decide) (fun c_9 => ?_) (fun c_9 => ?_)
      · exact absurd c_9 (by decide)
      refine aw_aload_n dX3_fewestForAllDoors_59 rfl ?_
      refine aw_iload dX3_fewestForAllDoors_60 rfl ?_
      refine aw_callVi (J' := jX3_openedBy) (As := [.int 0]) (st := []) dX3_fewestForAllDoors_62 tb_800 ok_X3_openedBy ⟨_, i14_1⟩ (by omega) rfl rfl (c_openedBy l D b N V14 hN i14_1 g14 e14 z14 0) rfl (Nat.le_of_ble_eq_true rfl) ⟨Nat.le_of_ble_eq_true rfl, Nat.le_of_ble_eq_true rfl, Nat.le_of_ble_eq_true rfl, Nat.le_of_ble_eq_true rfl⟩ (fun r_10 N_11 V_12 q_13 => ?_)
      obtain ⟨rfl, rfl, rfl⟩ := q_13
      refine aw_aload_n dX3_fewestForAllDoors_65 rfl ?_
      refine aw_get dX3_fewestForAllDoors_66 fl_X3_54 h0a (by omega) rfl ?_
      refine aw_icmp_ne (tgt := 82) dX3_fewestForAllDoors_69 (by decide) (fun c_14 => ?_) (fun c_14 => ?_)
      · exact absurd rfl c_14
      refine aw_iload dX3_fewestForAllDoors_72 rfl ?_
      refine aw_istore_n (ls' := [some (.ref (b + 92)), some (.ref (b + c)), some (.int 4095), some (.int 0), some (.int 13), some (.int 0)]) dX3_fewestForAllDoors_74 (Nat.le_of_ble_eq_true rfl) rfl ?_
      refine aw_iload dX3_fewestForAllDoors_75 rfl ?_
      refine aw_callSi (J' := jJ6_bitCount_0f7a4) (As := [.int 0]) (st := []) dX3_fewestForAllDoors_77 tb_799 ok_J6_bitCount_0f7a4 rfl (c_bitCount l D b N V14 0) rfl (Nat.le_of_ble_eq_true rfl) ⟨Nat.le_of_ble_eq_true rfl, Nat.le_of_ble_eq_true rfl, Nat.le_of_ble_eq_true rfl, Nat.le_of_ble_eq_true rfl⟩ (fun r_15 N_16 V_17 q_18 => ?_)
      obtain ⟨⟨hr_15, -⟩, rfl, rfl⟩ := q_18
      obtain rfl := hr_15 rfl
      refine aw_istore (ls' := [some (.ref (b + 92)), some (.ref (b + c)), some (.int 4095), some (.int 0), some (.int 0), some (.int 0)]) dX3_fewestForAllDoors_80 (Nat.le_of_ble_eq_true rfl) rfl ?_
      refine aw_iinc (v := 1) (ls' := [some (.ref (b + 92)), some (.ref (b + c)), some (.int 4095), some (.int 0), some (.int 0), some (.int 1)]) dX3_fewestForAllDoors_82 rfl (by decide) (Nat.le_of_ble_eq_true rfl) rfl ?_
      refine aw_goto (tgt := 43) dX3_fewestForAllDoors_85 (by decide) ?_
      have loop_43_18 : ∀ (g_43 : Nat), ∀ (j43 : Nat), j43 + g_43 = 4096 → AW l D b jX3_fewestForAllDoors (fx_rm 4 0 0) none (fx_MQ D b 0 0 (fx_qi (fun r N9 V9 => r = 0 ∧ N = N9 ∧ ∀ i, 100 ≤ i → V9 i = V i))) 43 [some (.ref (b + 92)), some (.ref (b + c)), some (.int 4095), some (.int 0), some (.int 0), some (.int (nI j43))] [] N V14 0 0 := by
        intro g_43
        induction g_43 with
        | zero =>
          intro j43  hj43
          obtain rfl : j43 = 4096 := by omega
          refine aw_iload dX3_fewestForAllDoors_43 rfl ?_
          refine aw_iload_n dX3_fewestForAllDoors_45 rfl ?_
          refine aw_icmp_gt (tgt := 88) dX3_fewestForAllDoors_46 (by decide) (fun c_21 => ?_) (fun c_21 => ?_)
          rotate_left
          · exact absurd (by decide) c_21
          refine aw_iload_n dX3_fewestForAllDoors_88 rfl ?_
          refine aw_ireti dX3_fewestForAllDoors_89 rfl (Nat.le_of_ble_eq_true rfl) (Nat.le_of_ble_eq_true rfl) ?_
          exact ⟨rfl, rfl, i14_3⟩
        | succ g_43 ih_43_19 =>
          intro j43  hj43
          have hlj43 : j43 < 4096 := by omega
          refine aw_iload dX3_fewestForAllDoors_43 rfl ?_
          refine aw_iload_n dX3_fewestForAllDoors_45 rfl ?_
          refine aw_icmp_gt (tgt := 88) dX3_fewestForAllDoors_46 (by decide) (fun c_22 => ?_) (fun c_22 => ?_)
          · exact absurd ((nI_ltI (a := 4095) (b := j43) (by omega) (by omega)).mp c_22) (by omega)
          refine aw_iload dX3_fewestForAllDoors_49 rfl ?_
          refine aw_callSi (J' := jJ6_bitCount_0f7a4) (As := [.int (nI j43)]) (st := []) dX3_fewestForAllDoors_51 tb_799 ok_J6_bitCount_0f7a4 rfl (c_bitCount l D b N V14 (nI j43)) rfl (Nat.le_of_ble_eq_true rfl) ⟨Nat.le_of_ble_eq_true rfl, Nat.le_of_ble_eq_true rfl, Nat.le_of_ble_eq_true rfl, Nat.le_of_ble_eq_true rfl⟩ (fun r_23 N_24 V_25 q_26 => ?_)
          obtain ⟨⟨-, hr_23⟩, rfl, rfl⟩ := q_26
          refine aw_iload dX3_fewestForAllDoors_54 rfl ?_
          refine aw_icmp_ge (tgt := 82) dX3_fewestForAllDoors_56 (by decide) (fun c_27 => ?_) (fun c_27 => ?_)
          rotate_left
          · exact absurd hr_23 c_27
          refine aw_iinc (v := (nI (j43 + 1))) (ls' := [some (.ref (b + 92)), some (.ref (b + c)), some (.int 4095), some (.int 0), some (.int 0), some (.int (nI (j43 + 1)))]) dX3_fewestForAllDoors_82 rfl (fx_up_1 _) (Nat.le_of_ble_eq_true rfl) rfl ?_
          refine aw_goto (tgt := 43) dX3_fewestForAllDoors_85 (by decide) ?_
          refine aw_le ?_ (ih_43_19 (j43 + 1)   (by omega))
          exact ⟨rfl, ⟨rfl, ⟨rfl, ⟨rfl, ⟨rfl, ⟨rfl, trivial⟩⟩⟩⟩⟩⟩
      refine aw_le ?_ (loop_43_18 (4096 - 1) 1   (by omega))
      exact ⟨rfl, ⟨rfl, ⟨rfl, ⟨rfl, ⟨rfl, ⟨rfl, trivial⟩⟩⟩⟩⟩⟩
    | succ g_14 ih_14_1 =>
      intro j14  V14 hj14 i14_0 i14_1 i14_2 i14_3
      have hlj14 : j14 < 12 := by omega
      obtain ⟨dra, kna, dfa, sga, opa, nia, xxa, hCAa, z1a, z2a⟩ := id i14_0
      obtain ⟨h0a, h1a, h2a, h3a, h4a, h5a, h6a⟩ := id hCAa
      obtain ⟨g14, e14, z14⟩ := id i14_2
      refine aw_iload dX3_fewestForAllDoors_14 rfl ?_
      refine aw_bipush (v := 12) dX3_fewestForAllDoors_16 (by decide) ?_
      refine aw_icmp_ge (tgt := 40) dX3_fewestForAllDoors_18 (by decide) (fun c_28 => ?_) (fun c_28 => ?_)
      · exact absurd c_28 (nI_ge (a := j14) (b := 12) (by omega) (by omega))
      refine aw_aload_n dX3_fewestForAllDoors_21 rfl ?_
      refine aw_get dX3_fewestForAllDoors_22 fl_X3_9 i14_1 (by omega) rfl ?_
      refine aw_iload dX3_fewestForAllDoors_25 rfl ?_
      refine aw_aload_n dX3_fewestForAllDoors_27 rfl ?_
      refine aw_iload dX3_fewestForAllDoors_28 rfl ?_
      refine aw_callVi (J' := jX0_doorsOpenTo) (As := [.int (nI j14)]) (st := [.int (nI j14), .ref (b + 93)]) dX3_fewestForAllDoors_30 tb_798 ok_X0_doorsOpenTo ⟨_, h0a⟩ (by omega) rfl rfl (c_doorsOpenTo l D b c N V14 (by omega) i14_0 (nI j14)) rfl (Nat.le_of_ble_eq_true rfl) ⟨Nat.le_of_ble_eq_true rfl, Nat.le_of_ble_eq_true rfl, Nat.le_of_ble_eq_true rfl, Nat.le_of_ble_eq_true rfl⟩ (fun r_29 N_30 V_31 q_32 => ?_)
      obtain ⟨rfl, rfl, rfl⟩ := q_32
      refine aw_iast dX3_fewestForAllDoors_33 e14 (by omega) (vp_in_nI (n := j14) (by omega) (by omega)) ?_
      refine aw_iinc (v := (nI (j14 + 1))) (ls' := [some (.ref (b + 92)), some (.ref (b + c)), some (.int 4095), some (.int (-2)), some (.int 13), some (.int (nI (j14 + 1)))]) dX3_fewestForAllDoors_34 rfl (fx_up_1 _) (Nat.le_of_ble_eq_true rfl) rfl ?_
      refine aw_goto (tgt := 14) dX3_fewestForAllDoors_37 (by decide) ?_
      refine aw_le ?_ (ih_14_1 (j14 + 1)  (va_up V14 93 (cI D 12 (upd g14 (Int32.toNatClampNeg (nI j14)) 0))) (by omega) (CZ.up i14_0 (by omega)) ((va_up_ne _ _ (by omega)).trans i14_1) (AZ.upd z14) ((fun i hi => (va_up_ne _ _ (by omega)).trans (i14_3 i hi))))
      exact ⟨rfl, ⟨rfl, ⟨rfl, ⟨rfl, ⟨rfl, ⟨rfl, trivial⟩⟩⟩⟩⟩⟩
  refine aw_le ?_ (loop_14_0 12 0  V (by omega) (hC) (hk) (hg0) ((fr_refl V)))
  exact ⟨rfl, ⟨rfl, ⟨rfl, ⟨rfl, ⟨rfl, ⟨rfl, trivial⟩⟩⟩⟩⟩⟩

set_option maxHeartbeats 4000000 in
set_option maxRecDepth 100000 in
theorem c_linkAlike (l : Launch) (D : va_G) (b : Nat) (c N : Nat) (V : Wd) (hN : 100 ≤ N) (hc : c + 18 ≤ 57) (hC : CZ D b c V) (hk : V 94 = cO 1 [.ref (b + 95), .ref (b + 96)]) (g : Nat → Int32) (hg : V 95 = cI D 12 g) (mu : Int32) : MV l D b 2 jX1_linkAlike [.ref (b + 94), .ref (b + c), .int mu] N V 0 0 (fun N9 V9 => N = N9 ∧ ∀ i, i ≠ 95 → V9 i = V i) := by
  obtain ⟨dr, kn, df, sg, op, ni, xx, hCA, z1, z2⟩ := id hC
  obtain ⟨h0, h1, h2, h3, h4, h5, h6⟩ := id hCA
  refine mw_of (by decide) (by simp [Value.category]) (Nat.le_of_ble_eq_true rfl) ?_
  show AW l D b jX1_linkAlike (fx_rm 2 0 0) none (fx_MQ D b 0 0 (fx_qv (fun N9 V9 => N = N9 ∧ ∀ i, i ≠ 95 → V9 i = V i))) 0 [some (.ref (b + 94)), some (.ref (b + c)), some (.int mu), none, none] [] N V 0 0
  refine aw_iconst (v := 0) dX1_linkAlike_0 (by decide) ?_
  refine aw_istore_n (ls' := [some (.ref (b + 94)), some (.ref (b + c)), some (.int mu), some (.int 0), none]) dX1_linkAlike_1 (Nat.le_of_ble_eq_true rfl) rfl ?_
  have loop_2_0 : ∀ (g_2 : Nat), ∀ (j2 : Nat)  (V2 : Wd), j2 + g_2 = 12 → (∃ g2 : Nat → Int32, V2 95 = cI D 12 g2) → (∀ i, i ≠ 95 → V2 i = V i) → AW l D b jX1_linkAlike (fx_rm 2 0 0) none (fx_MQ D b 0 0 (fx_qv (fun N9 V9 => N = N9 ∧ ∀ i, i ≠ 95 → V9 i = V i))) 2 [some (.ref (b + 94)), some (.ref (b + c)), some (.int mu), some (.int (nI j2)), none] [] N V2 0 0 := by
    intro g_2
    induction g_2 with
    | zero =>
      intro j2  V2 hj2 i2_0 i2_1
      obtain rfl : j2 = 12 := by omega
      obtain ⟨g2, e2⟩ := id i2_0
      refine aw_iload_n dX1_linkAlike_2 rfl ?_
      refine aw_bipush (v := 12) dX1_linkAlike_3 (by decide) ?_
      refine aw_icmp_ge (tgt := 78) dX1_linkAlike_5 (by decide) (fun c_3 => ?_) (fun c_3 => ?_)
      rotate_left
      · exact absurd (nI_le (a := 12) (b := 12) (Nat.le_refl _) (by omega)) c_3
      refine aw_vreti dX1_linkAlike_78 rfl (Nat.le_of_ble_eq_true rfl) (Nat.le_of_ble_eq_true rfl) ?_
      exact ⟨rfl, i2_1⟩
    | succ g_2 ih_2_1 =>
      intro j2  V2 hj2 i2_0 i2_1
      have hlj2 : j2 < 12 := by omega
      obtain ⟨g2, e2⟩ := id i2_0
      have h94 : V2 94 = cO 1 [.ref (b + 95), .ref (b + 96)] := (i2_1 94 (by omega)).trans hk
      have hC2 : CZ D b c V2 := hC.frame (fun i q1 q2 => i2_1 i (by omega))
      obtain ⟨dra, kna, dfa, sga, opa, nia, xxa, hCAa, z1a, z2a⟩ := id hC2
      obtain ⟨h0a, h1a, h2a, h3a, h4a, h5a, h6a⟩ := id hCAa
      refine aw_iload_n dX1_linkAlike_2 rfl ?_
      refine aw_bipush (v := 12) dX1_linkAlike_3 (by decide) ?_
      refine aw_icmp_ge (tgt := 78) dX1_linkAlike_5 (by decide) (fun c_4 => ?_) (fun c_4 => ?_)
      · exact absurd c_4 (nI_ge (a := j2) (b := 12) (by omega) (by omega))
      refine aw_aload_n dX1_linkAlike_8 rfl ?_
      refine aw_get dX1_linkAlike_9 fl_X1_9 h94 (by omega) rfl ?_
      refine aw_iload_n dX1_linkAlike_12 rfl ?_
      refine aw_iconst (v := 0) dX1_linkAlike_13 (by decide) ?_
      refine aw_iast dX1_linkAlike_14 e2 (by omega) (vp_in_nI (n := j2) (by omega) (by omega)) ?_
      refine aw_iconst (v := 0) dX1_linkAlike_15 (by decide) ?_
      refine aw_istore (ls' := [some (.ref (b + 94)), some (.ref (b + c)), some (.int mu), some (.int (nI j2)), some (.int 0)]) dX1_linkAlike_16 (Nat.le_of_ble_eq_true rfl) rfl ?_
      have loop_18_4 : ∀ (g_18 : Nat), ∀ (j18 : Nat), j18 + g_18 = 12 → AW l D b jX1_linkAlike (fx_rm 2 0 0) none (fx_MQ D b 0 0 (fx_qv (fun N9 V9 => N = N9 ∧ ∀ i, i ≠ 95 → V9 i = V i))) 18 [some (.ref (b + 94)), some (.ref (b + c)), some (.int mu), some (.int (nI j2)), some (.int (nI j18))] [] N (va_up V2 95 (cI D 12 (upd g2 (Int32.toNatClampNeg (nI j2)) 0))) 0 0 := by
        intro g_18
        induction g_18 with
        | zero =>
          intro j18  hj18
          obtain rfl : j18 = 12 := by omega
          refine aw_iload dX1_linkAlike_18 rfl ?_
          refine aw_bipush (v := 12) dX1_linkAlike_20 (by decide) ?_
          refine aw_icmp_ge (tgt := 72) dX1_linkAlike_22 (by decide) (fun c_7 => ?_) (fun c_7 => ?_)
          rotate_left
          · exact absurd (nI_le (a := 12) (b := 12) (Nat.le_refl _) (by omega)) c_7
          refine aw_iinc (v := (nI (j2 + 1))) (ls' := [some (.ref (b + 94)), some (.ref (b + c)), some (.int mu), some (.int (nI (j2 + 1))), some (.int (nI 12))]) dX1_linkAlike_72 rfl (fx_up_1 _) (Nat.le_of_ble_eq_true rfl) rfl ?_
          refine aw_goto (tgt := 2) dX1_linkAlike_75 (by decide) ?_
          refine aw_le ?_ (ih_2_1 (j2 + 1)  (va_up V2 95 (cI D 12 (upd g2 (Int32.toNatClampNeg (nI j2)) 0))) (by omega) (⟨_, va_up_self _ _ _⟩) (fun i hi => (va_up_ne _ _ hi).trans (i2_1 i hi)))
          exact ⟨rfl, ⟨rfl, ⟨rfl, ⟨rfl, trivial⟩⟩⟩⟩
        | succ g_18 ih_18_5 =>
          intro j18  hj18
          have hlj18 : j18 < 12 := by omega
          refine aw_iload dX1_linkAlike_18 rfl ?_
          refine aw_bipush (v := 12) dX1_linkAlike_20 (by decide) ?_
          refine aw_icmp_ge (tgt := 72) dX1_linkAlike_22 (by decide) (fun c_8 => ?_) (fun c_8 => ?_)
          · exact absurd c_8 (nI_ge (a := j18) (b := 12) (by omega) (by omega))
          refine aw_aload_n dX1_linkAlike_25 rfl ?_
          refine aw_iload_n dX1_linkAlike_26 rfl ?_
          refine aw_callVi (J' := jX0_isPerson) (As := [.int (nI j2)]) (st := []) dX1_linkAlike_27 tb_879 ok_X0_isPerson ⟨_, ((va_up_ne _ _ (by omega)).trans h0a)⟩ (by omega) rfl rfl (c_isPerson l D b c N (va_up V2 95 (cI D 12 (upd g2 (Int32.toNatClampNeg (nI j2)) 0))) (by omega) (CZ.up hC2 (by omega)) (nI j2)) rfl (Nat.le_of_ble_eq_true rfl) ⟨Nat.le_of_ble_eq_true rfl, Nat.le_of_ble_eq_true rfl, Nat.le_of_ble_eq_true rfl, Nat.le_of_ble_eq_true rfl⟩ (fun r_9 N_10 V_11 q_12 => ?_)
          obtain ⟨rfl, rfl, rfl⟩ := q_12
          refine aw_if_eq (tgt := 66) dX1_linkAlike_30 (by decide) (fun c_13 => ?_) (fun c_13 => ?_)
          rotate_left
          · exact absurd (by decide) c_13
          refine aw_iinc (v := (nI (j18 + 1))) (ls' := [some (.ref (b + 94)), some (.ref (b + c)), some (.int mu), some (.int (nI j2)), some (.int (nI (j18 + 1)))]) dX1_linkAlike_66 rfl (fx_up_1 _) (Nat.le_of_ble_eq_true rfl) rfl ?_
          refine aw_goto (tgt := 18) dX1_linkAlike_69 (by decide) ?_
          refine aw_le ?_ (ih_18_5 (j18 + 1)   (by omega))
          exact ⟨rfl, ⟨rfl, ⟨rfl, ⟨rfl, ⟨rfl, trivial⟩⟩⟩⟩⟩
      refine aw_le ?_ (loop_18_4 12 0   (by omega))
      exact ⟨rfl, ⟨rfl, ⟨rfl, ⟨rfl, ⟨rfl, trivial⟩⟩⟩⟩⟩
  refine aw_le ?_ (loop_2_0 12 0  V (by omega) (⟨_, hg⟩) (fun i _ => rfl))
  exact ⟨rfl, ⟨rfl, ⟨rfl, ⟨rfl, trivial⟩⟩⟩⟩

set_option maxHeartbeats 4000000 in
set_option maxRecDepth 100000 in
theorem c_linkFellows (l : Launch) (D : va_G) (b : Nat) (c N : Nat) (V : Wd) (hN : 100 ≤ N) (hc : c + 18 ≤ 57) (hC : CZ D b c V) (hk : V 94 = cO 1 [.ref (b + 95), .ref (b + 96)]) (hg0 : AZ D 95 12 V) (mu : Int32) (hm : ¬ mu ≤ 0) : MV l D b 2 jX1_linkFellows [.ref (b + 94), .ref (b + c), .int mu] N V 0 0 (fun N9 V9 => N = N9 ∧ AZ D 95 12 V9 ∧ ∀ i, i ≠ 95 → V9 i = V i) := by
  obtain ⟨dr, kn, df, sg, op, ni, xx, hCA, z1, z2⟩ := id hC
  obtain ⟨h0, h1, h2, h3, h4, h5, h6⟩ := id hCA
  obtain ⟨g, hg, zg⟩ := id hg0
  refine mw_of (by decide) (by simp [Value.category]) (Nat.le_of_ble_eq_true rfl) ?_
  show AW l D b jX1_linkFellows (fx_rm 2 0 0) none (fx_MQ D b 0 0 (fx_qv (fun N9 V9 => N = N9 ∧ AZ D 95 12 V9 ∧ ∀ i, i ≠ 95 → V9 i = V i))) 0 [some (.ref (b + 94)), some (.ref (b + c)), some (.int mu), none, none] [] N V 0 0
  refine aw_iconst (v := 0) dX1_linkFellows_0 (by decide) ?_
  refine aw_istore_n (ls' := [some (.ref (b + 94)), some (.ref (b + c)), some (.int mu), some (.int 0), none]) dX1_linkFellows_1 (Nat.le_of_ble_eq_true rfl) rfl ?_
  have loop_2_0 : ∀ (g_2 : Nat), ∀ (j2 : Nat)  (V2 : Wd), j2 + g_2 = 12 → (AZ D 95 12 V2) → (∀ i, i ≠ 95 → V2 i = V i) → AW l D b jX1_linkFellows (fx_rm 2 0 0) none (fx_MQ D b 0 0 (fx_qv (fun N9 V9 => N = N9 ∧ AZ D 95 12 V9 ∧ ∀ i, i ≠ 95 → V9 i = V i))) 2 [some (.ref (b + 94)), some (.ref (b + c)), some (.int mu), some (.int (nI j2)), none] [] N V2 0 0 := by
    intro g_2
    induction g_2 with
    | zero =>
      intro j2  V2 hj2 i2_0 i2_1
      obtain rfl : j2 = 12 := by omega
      obtain ⟨g2, e2, z2g⟩ := id i2_0
      refine aw_iload_n dX1_linkFellows_2 rfl ?_
      refine aw_bipush (v := 12) dX1_linkFellows_3 (by decide) ?_
      refine aw_icmp_ge (tgt := 66) dX1_linkFellows_5 (by decide) (fun c_3 => ?_) (fun c_3 => ?_)
      rotate_left
      · exact absurd (nI_le (a := 12) (b := 12) (Nat.le_refl _) (by omega)) c_3
      refine aw_vreti dX1_linkFellows_66 rfl (Nat.le_of_ble_eq_true rfl) (Nat.le_of_ble_eq_true rfl) ?_
      exact ⟨rfl, i2_0, i2_1⟩
    | succ g_2 ih_2_1 =>
      intro j2  V2 hj2 i2_0 i2_1
      have hlj2 : j2 < 12 := by omega
      obtain ⟨g2, e2, z2g⟩ := id i2_0
      have h94 : V2 94 = cO 1 [.ref (b + 95), .ref (b + 96)] := (i2_1 94 (by omega)).trans hk
      have hC2 : CZ D b c V2 := hC.frame (fun i q1 q2 => i2_1 i (by omega))
      obtain ⟨dra, kna, dfa, sga, opa, nia, xxa, hCAa, z1a, z2a⟩ := id hC2
      obtain ⟨h0a, h1a, h2a, h3a, h4a, h5a, h6a⟩ := id hCAa
      refine aw_iload_n dX1_linkFellows_2 rfl ?_
      refine aw_bipush (v := 12) dX1_linkFellows_3 (by decide) ?_
      refine aw_icmp_ge (tgt := 66) dX1_linkFellows_5 (by decide) (fun c_4 => ?_) (fun c_4 => ?_)
      · exact absurd c_4 (nI_ge (a := j2) (b := 12) (by omega) (by omega))
      refine aw_aload_n dX1_linkFellows_8 rfl ?_
      refine aw_get dX1_linkFellows_9 fl_X1_9 h94 (by omega) rfl ?_
      refine aw_iload_n dX1_linkFellows_12 rfl ?_
      refine aw_iconst (v := 0) dX1_linkFellows_13 (by decide) ?_
      refine aw_iast dX1_linkFellows_14 e2 (by omega) (vp_in_nI (n := j2) (by omega) (by omega)) ?_
      refine aw_iconst (v := 0) dX1_linkFellows_15 (by decide) ?_
      refine aw_istore (ls' := [some (.ref (b + 94)), some (.ref (b + c)), some (.int mu), some (.int (nI j2)), some (.int 0)]) dX1_linkFellows_16 (Nat.le_of_ble_eq_true rfl) rfl ?_
      have loop_18_4 : ∀ (g_18 : Nat), ∀ (j18 : Nat), j18 + g_18 = j2 → AW l D b jX1_linkFellows (fx_rm 2 0 0) none (fx_MQ D b 0 0 (fx_qv (fun N9 V9 => N = N9 ∧ AZ D 95 12 V9 ∧ ∀ i, i ≠ 95 → V9 i = V i))) 18 [some (.ref (b + 94)), some (.ref (b + c)), some (.int mu), some (.int (nI j2)), some (.int (nI j18))] [] N (va_up V2 95 (cI D 12 (upd g2 (Int32.toNatClampNeg (nI j2)) 0))) 0 0 := by
        intro g_18
        induction g_18 with
        | zero =>
          intro j18  hj18
          obtain rfl : j2 = j18 := by omega
          refine aw_iload dX1_linkFellows_18 rfl ?_
          refine aw_iload_n dX1_linkFellows_20 rfl ?_
          refine aw_icmp_ge (tgt := 60) dX1_linkFellows_21 (by decide) (fun c_7 => ?_) (fun c_7 => ?_)
          rotate_left
          · exact absurd (nI_le (a := j2) (b := j2) (Nat.le_refl _) (by omega)) c_7
          refine aw_iinc (v := (nI (j2 + 1))) (ls' := [some (.ref (b + 94)), some (.ref (b + c)), some (.int mu), some (.int (nI (j2 + 1))), some (.int (nI j2))]) dX1_linkFellows_60 rfl (fx_up_1 _) (Nat.le_of_ble_eq_true rfl) rfl ?_
          refine aw_goto (tgt := 2) dX1_linkFellows_63 (by decide) ?_
          refine aw_le ?_ (ih_2_1 (j2 + 1)  (va_up V2 95 (cI D 12 (upd g2 (Int32.toNatClampNeg (nI j2)) 0))) (by omega) (AZ.upd z2g) (fun i hi => (va_up_ne _ _ hi).trans (i2_1 i hi)))
          exact ⟨rfl, ⟨rfl, ⟨rfl, ⟨rfl, trivial⟩⟩⟩⟩
        | succ g_18 ih_18_5 =>
          intro j18  hj18
          have hlj18 : j18 < j2 := by omega
          refine aw_iload dX1_linkFellows_18 rfl ?_
          refine aw_iload_n dX1_linkFellows_20 rfl ?_
          refine aw_icmp_ge (tgt := 60) dX1_linkFellows_21 (by decide) (fun c_8 => ?_) (fun c_8 => ?_)
          · exact absurd c_8 (nI_ge (a := j18) (b := j2) (by omega) (by omega))
          refine aw_aload_n dX1_linkFellows_24 rfl ?_
          refine aw_iload_n dX1_linkFellows_25 rfl ?_
          refine aw_iload_n dX1_linkFellows_26 rfl ?_
          refine aw_callVi (J' := jX0_fearsFrom) (As := [.int (nI j2), .int mu]) (st := []) dX1_linkFellows_27 tb_826 ok_X0_fearsFrom ⟨_, ((va_up_ne _ _ (by omega)).trans h0a)⟩ (by omega) rfl rfl (c_fearsFrom l D b c N (va_up V2 95 (cI D 12 (upd g2 (Int32.toNatClampNeg (nI j2)) 0))) (by omega) (CZ.up hC2 (by omega)) (nI j2) mu hm) rfl (Nat.le_of_ble_eq_true rfl) ⟨Nat.le_of_ble_eq_true rfl, Nat.le_of_ble_eq_true rfl, Nat.le_of_ble_eq_true rfl, Nat.le_of_ble_eq_true rfl⟩ (fun r_9 N_10 V_11 q_12 => ?_)
          obtain ⟨rfl, rfl, rfl⟩ := q_12
          refine aw_aload_n dX1_linkFellows_30 rfl ?_
          refine aw_iload dX1_linkFellows_31 rfl ?_
          refine aw_iload_n dX1_linkFellows_33 rfl ?_
          refine aw_callVi (J' := jX0_fearsFrom) (As := [.int (nI j18), .int mu]) (st := [.int 0]) dX1_linkFellows_34 tb_826 ok_X0_fearsFrom ⟨_, ((va_up_ne _ _ (by omega)).trans h0a)⟩ (by omega) rfl rfl (c_fearsFrom l D b c N (va_up V2 95 (cI D 12 (upd g2 (Int32.toNatClampNeg (nI j2)) 0))) (by omega) (CZ.up hC2 (by omega)) (nI j18) mu hm) rfl (Nat.le_of_ble_eq_true rfl) ⟨Nat.le_of_ble_eq_true rfl, Nat.le_of_ble_eq_true rfl, Nat.le_of_ble_eq_true rfl, Nat.le_of_ble_eq_true rfl⟩ (fun r_13 N_14 V_15 q_16 => ?_)
          obtain ⟨rfl, rfl, rfl⟩ := q_16
          refine aw_iand dX1_linkFellows_37 ?_
          refine aw_eqi (y := 0) (by decide) ?_
          refine aw_if_eq (tgt := 54) dX1_linkFellows_38 (by decide) (fun c_17 => ?_) (fun c_17 => ?_)
          rotate_left
          · exact absurd (by decide) c_17
          refine aw_iinc (v := (nI (j18 + 1))) (ls' := [some (.ref (b + 94)), some (.ref (b + c)), some (.int mu), some (.int (nI j2)), some (.int (nI (j18 + 1)))]) dX1_linkFellows_54 rfl (fx_up_1 _) (Nat.le_of_ble_eq_true rfl) rfl ?_
          refine aw_goto (tgt := 18) dX1_linkFellows_57 (by decide) ?_
          refine aw_le ?_ (ih_18_5 (j18 + 1)   (by omega))
          exact ⟨rfl, ⟨rfl, ⟨rfl, ⟨rfl, ⟨rfl, trivial⟩⟩⟩⟩⟩
      refine aw_le ?_ (loop_18_4 j2 0   (by omega))
      exact ⟨rfl, ⟨rfl, ⟨rfl, ⟨rfl, ⟨rfl, trivial⟩⟩⟩⟩⟩
  refine aw_le ?_ (loop_2_0 12 0  V (by omega) (hg0) (fun i _ => rfl))
  exact ⟨rfl, ⟨rfl, ⟨rfl, ⟨rfl, trivial⟩⟩⟩⟩

set_option maxHeartbeats 4000000 in
set_option maxRecDepth 100000 in
theorem c_mostWith (l : Launch) (D : va_G) (b : Nat) (N : Nat) (V : Wd) (hN : 100 ≤ N) (hk : V 94 = cO 1 [.ref (b + 95), .ref (b + 96)]) (hz5 : AZ D 95 12 V) (hz6 : AZ D 96 4096 V) (one rest : Nat) (h1 : one < 12) (h2 : rest < 4096) : MI l D b 1 jX1_mostWith [.ref (b + 94), .int (nI one), .int (nI rest)] N V 0 0 (fun r N9 V9 => r = 0 ∧ N = N9 ∧ V = V9) := by
  obtain ⟨g5, e5, z5⟩ := id hz5
  obtain ⟨g6, e6, z6⟩ := id hz6
  refine mw_of (by decide) (by simp [Value.category]) (Nat.le_of_ble_eq_true rfl) ?_
  show AW l D b jX1_mostWith (fx_rm 1 0 0) none (fx_MQ D b 0 0 (fx_qi (fun r N9 V9 => r = 0 ∧ N = N9 ∧ V = V9))) 0 [some (.ref (b + 94)), some (.int (nI one)), some (.int (nI rest)), none, none] [] N V 0 0
  refine aw_iload_n dX1_mostWith_0 rfl ?_
  refine aw_if_lt (tgt := 23) dX1_mostWith_1 (by decide) (fun c_1 => ?_) (fun c_1 => ?_)
  · have nc_1 : one < 0 := (nI_ltI (a := one) (b := 0) (by omega) (by omega)).mp c_1
    omega
  have nc_1 : ¬ (one < 0) := fun z => c_1 ((nI_ltI (a := one) (b := 0) (by omega) (by omega)).mpr z)
  refine aw_iload_n dX1_mostWith_4 rfl ?_
  refine aw_bipush (v := 12) dX1_mostWith_5 (by decide) ?_
  refine aw_icmp_ge (tgt := 23) dX1_mostWith_7 (by decide) (fun c_2 => ?_) (fun c_2 => ?_)
  · have nc_2 : 12 ≤ one := (nI_leI (a := 12) (b := one) (by omega) (by omega)).mp c_2
    omega
  have nc_2 : ¬ (12 ≤ one) := fun z => c_2 ((nI_leI (a := 12) (b := one) (by omega) (by omega)).mpr z)
  refine aw_iload_n dX1_mostWith_10 rfl ?_
  refine aw_if_lt (tgt := 23) dX1_mostWith_11 (by decide) (fun c_3 => ?_) (fun c_3 => ?_)
  · have nc_3 : rest < 0 := (nI_ltI (a := rest) (b := 0) (by omega) (by omega)).mp c_3
    omega
  have nc_3 : ¬ (rest < 0) := fun z => c_3 ((nI_ltI (a := rest) (b := 0) (by omega) (by omega)).mpr z)
  refine aw_iload_n dX1_mostWith_14 rfl ?_
  refine aw_aload_n dX1_mostWith_15 rfl ?_
  refine aw_get dX1_mostWith_16 fl_X1_15 hk (by omega) rfl ?_
  refine aw_alen (t0 := 0) (v := 4096) dX1_mostWith_19 e6 (by omega) rfl rfl ?_
  refine aw_icmp_lt (tgt := 25) dX1_mostWith_20 (by decide) (fun c_4 => ?_) (fun c_4 => ?_)
  rotate_left
  · have nc_4 : ¬ (rest < 4096) := fun z => c_4 ((nI_ltI (a := rest) (b := 4096) (by omega) (by omega)).mpr z)
    omega
  have nc_4 : rest < 4096 := (nI_ltI (a := rest) (b := 4096) (by omega) (by omega)).mp c_4
  refine aw_aload_n dX1_mostWith_25 rfl ?_
  refine aw_get dX1_mostWith_26 fl_X1_15 hk (by omega) rfl ?_
  refine aw_iload_n dX1_mostWith_29 rfl ?_
  refine aw_iald (v := 0) dX1_mostWith_30 e6 (by omega) (vp_in_nI (n := rest) (by omega) (by omega)) (by rw [nI_clamp (n := rest) (by omega)]; exact z6 rest (by omega)) ?_
  refine aw_istore_n (ls' := [some (.ref (b + 94)), some (.int (nI one)), some (.int (nI rest)), some (.int 0), none]) dX1_mostWith_31 (Nat.le_of_ble_eq_true rfl) rfl ?_
  refine aw_iconst (v := 0) dX1_mostWith_32 (by decide) ?_
  refine aw_istore (ls' := [some (.ref (b + 94)), some (.int (nI one)), some (.int (nI rest)), some (.int 0), some (.int 0)]) dX1_mostWith_33 (Nat.le_of_ble_eq_true rfl) rfl ?_
  have loop_35_4 : ∀ (g_35 : Nat), ∀ (j35 : Nat), j35 + g_35 = one → AW l D b jX1_mostWith (fx_rm 1 0 0) none (fx_MQ D b 0 0 (fx_qi (fun r N9 V9 => r = 0 ∧ N = N9 ∧ V = V9))) 35 [some (.ref (b + 94)), some (.int (nI one)), some (.int (nI rest)), some (.int 0), some (.int (nI j35))] [] N V 0 0 := by
    intro g_35
    induction g_35 with
    | zero =>
      intro j35  hj35
      obtain rfl : one = j35 := by omega
      refine aw_iload dX1_mostWith_35 rfl ?_
      refine aw_iload_n dX1_mostWith_37 rfl ?_
      refine aw_icmp_ge (tgt := 83) dX1_mostWith_38 (by decide) (fun c_7 => ?_) (fun c_7 => ?_)
      rotate_left
      · exact absurd (nI_le (a := one) (b := one) (Nat.le_refl _) (by omega)) c_7
      refine aw_iload_n dX1_mostWith_83 rfl ?_
      refine aw_ireti dX1_mostWith_84 rfl (Nat.le_of_ble_eq_true rfl) (Nat.le_of_ble_eq_true rfl) ?_
      exact ⟨rfl, rfl, rfl⟩
    | succ g_35 ih_35_5 =>
      intro j35  hj35
      have hlj35 : j35 < one := by omega
      refine aw_iload dX1_mostWith_35 rfl ?_
      refine aw_iload_n dX1_mostWith_37 rfl ?_
      refine aw_icmp_ge (tgt := 83) dX1_mostWith_38 (by decide) (fun c_8 => ?_) (fun c_8 => ?_)
      · exact absurd c_8 (nI_ge (a := j35) (b := one) (by omega) (by omega))
      refine aw_aload_n dX1_mostWith_41 rfl ?_
      refine aw_get dX1_mostWith_42 fl_X1_9 hk (by omega) rfl ?_
      refine aw_iload_n dX1_mostWith_45 rfl ?_
      refine aw_iald (v := 0) dX1_mostWith_46 e5 (by omega) (vp_in_nI (n := one) (by omega) (by omega)) (by rw [nI_clamp (n := one) (by omega)]; exact z5 one (by omega)) ?_
      refine aw_iload_n dX1_mostWith_47 rfl ?_
      refine aw_iand dX1_mostWith_48 ?_
      refine aw_eqi (y := 0) (Int32.zero_and) ?_
      refine aw_iload dX1_mostWith_49 rfl ?_
      refine aw_callSNi (J' := jX11_has) (As := [.int 0, .int (nI j35)]) (st := []) dX1_mostWith_51 tb_834 ok_X11_has rfl (c_has0 l D b N V (nI j35)) rfl (Nat.le_of_ble_eq_true rfl) ⟨Nat.le_of_ble_eq_true rfl, Nat.le_of_ble_eq_true rfl, Nat.le_of_ble_eq_true rfl, Nat.le_of_ble_eq_true rfl⟩ (fun r_9 N_10 V_11 q_12 => ?_)
      obtain ⟨rfl, rfl, rfl⟩ := q_12
      refine aw_if_eq (tgt := 77) dX1_mostWith_54 (by decide) (fun c_13 => ?_) (fun c_13 => ?_)
      rotate_left
      · exact absurd (by decide) c_13
      refine aw_iinc (v := (nI (j35 + 1))) (ls' := [some (.ref (b + 94)), some (.int (nI one)), some (.int (nI rest)), some (.int 0), some (.int (nI (j35 + 1)))]) dX1_mostWith_77 rfl (fx_up_1 _) (Nat.le_of_ble_eq_true rfl) rfl ?_
      refine aw_goto (tgt := 35) dX1_mostWith_80 (by decide) ?_
      refine aw_le ?_ (ih_35_5 (j35 + 1)   (by omega))
      exact ⟨rfl, ⟨rfl, ⟨rfl, ⟨rfl, ⟨rfl, trivial⟩⟩⟩⟩⟩
  refine aw_le ?_ (loop_35_4 one 0   (by omega))
  exact ⟨rfl, ⟨rfl, ⟨rfl, ⟨rfl, ⟨rfl, trivial⟩⟩⟩⟩⟩

set_option maxHeartbeats 4000000 in
set_option maxRecDepth 100000 in
theorem c_mostCouples (l : Launch) (D : va_G) (b : Nat) (c N : Nat) (V : Wd) (hN : 100 ≤ N) (hc : c + 18 ≤ 57) (hC : CZ D b c V) (hk : V 94 = cO 1 [.ref (b + 95), .ref (b + 96)]) (hz5 : AZ D 95 12 V) (hz6 : AZ D 96 4096 V) (mu : Int32) (hm : ¬ mu ≤ 0) : MI l D b 3 jX1_mostCouples [.ref (b + 94), .ref (b + c), .int mu] N V 0 0 (fun r N9 V9 => r = 0 ∧ N = N9 ∧ ∀ i, 100 ≤ i → V9 i = V i) := by
  obtain ⟨dr, kn, df, sg, op, ni, xx, hCA, z1, z2⟩ := id hC
  obtain ⟨h0, h1, h2, h3, h4, h5, h6⟩ := id hCA
  refine mw_of (by decide) (by simp [Value.category]) (Nat.le_of_ble_eq_true rfl) ?_
  show AW l D b jX1_mostCouples (fx_rm 3 0 0) none (fx_MQ D b 0 0 (fx_qi (fun r N9 V9 => r = 0 ∧ N = N9 ∧ ∀ i, 100 ≤ i → V9 i = V i))) 0 [some (.ref (b + 94)), some (.ref (b + c)), some (.int mu), none, none] [] N V 0 0
  refine aw_aload_n dX1_mostCouples_0 rfl ?_
  refine aw_aload_n dX1_mostCouples_1 rfl ?_
  refine aw_iload_n dX1_mostCouples_2 rfl ?_
  refine aw_callVv (J' := jX1_linkFellows) (As := [.ref (b + c), .int mu]) (st := []) dX1_mostCouples_3 tb_822 ok_X1_linkFellows ⟨_, hk⟩ (by omega) rfl rfl (c_linkFellows l D b c N V hN (by omega) hC hk hz5 mu hm) rfl (Nat.le_of_ble_eq_true rfl) ⟨Nat.le_of_ble_eq_true rfl, Nat.le_of_ble_eq_true rfl, Nat.le_of_ble_eq_true rfl, Nat.le_of_ble_eq_true rfl⟩ (fun  N_4 V_3 q_5 => ?_)
  obtain ⟨rfl, q_2, fr_1⟩ := q_5
  obtain ⟨g6, e6, z6⟩ := id (AZ.frame hz6 (fr_1 96 (by omega)))
  refine aw_aload_n dX1_mostCouples_6 rfl ?_
  refine aw_get dX1_mostCouples_7 fl_X1_15 ((fr_1 _ (by omega)).trans hk) (by omega) rfl ?_
  refine aw_iconst (v := 0) dX1_mostCouples_10 (by decide) ?_
  refine aw_iconst (v := 0) dX1_mostCouples_11 (by decide) ?_
  refine aw_iast dX1_mostCouples_12 e6 (by omega) (vp_in_nI (n := 0) (N := 4096) (by decide) (by decide)) ?_
  refine aw_iconst (v := 0) dX1_mostCouples_13 (by decide) ?_
  refine aw_istore_n (ls' := [some (.ref (b + 94)), some (.ref (b + c)), some (.int mu), some (.int 0), none]) dX1_mostCouples_14 (Nat.le_of_ble_eq_true rfl) rfl ?_
  have loop_15_5 : ∀ (g_15 : Nat), ∀ (j15 : Nat)  (V15 : Wd), j15 + g_15 = 12 → (V15 94 = cO 1 [.ref (b + 95), .ref (b + 96)]) → (AZ D 95 12 V15) → (AZ D 96 4096 V15) → (∀ i, 100 ≤ i → V15 i = V i) → AW l D b jX1_mostCouples (fx_rm 3 0 0) none (fx_MQ D b 0 0 (fx_qi (fun r N9 V9 => r = 0 ∧ N = N9 ∧ ∀ i, 100 ≤ i → V9 i = V i))) 15 [some (.ref (b + 94)), some (.ref (b + c)), some (.int mu), some (.int (nI j15)), none] [] N V15 0 0 := by
    intro g_15
    induction g_15 with
    | zero =>
      intro j15  V15 hj15 i15_0 i15_1 i15_2 i15_3
      obtain rfl : j15 = 12 := by omega
      obtain ⟨g15, e15, z15⟩ := id i15_2
      refine aw_iload_n dX1_mostCouples_15 rfl ?_
      refine aw_bipush (v := 12) dX1_mostCouples_16 (by decide) ?_
      refine aw_icmp_ge (tgt := 62) dX1_mostCouples_18 (by decide) (fun c_8 => ?_) (fun c_8 => ?_)
      rotate_left
      · exact absurd (nI_le (a := 12) (b := 12) (Nat.le_refl _) (by omega)) c_8
      refine aw_aload_n dX1_mostCouples_62 rfl ?_
      refine aw_get dX1_mostCouples_63 fl_X1_15 i15_0 (by omega) rfl ?_
      refine aw_aload_n dX1_mostCouples_66 rfl ?_
      refine aw_get dX1_mostCouples_67 fl_X1_15 i15_0 (by omega) rfl ?_
      refine aw_alen (t0 := 0) (v := 4096) dX1_mostCouples_70 e15 (by omega) rfl rfl ?_
      refine aw_iconst (v := 1) dX1_mostCouples_71 (by decide) ?_
      refine aw_isub dX1_mostCouples_72 ?_
      refine aw_eqi (y := 4095) (by decide) ?_
      refine aw_iald (v := 0) dX1_mostCouples_73 e15 (by omega) (vp_in_nI (n := 4095) (N := 4096) (by decide) (by decide)) (z15 4095 (by omega)) ?_
      refine aw_ireti dX1_mostCouples_74 rfl (Nat.le_of_ble_eq_true rfl) (Nat.le_of_ble_eq_true rfl) ?_
      exact ⟨rfl, rfl, i15_3⟩
    | succ g_15 ih_15_6 =>
      intro j15  V15 hj15 i15_0 i15_1 i15_2 i15_3
      have hlj15 : j15 < 12 := by omega
      obtain ⟨g15, e15, z15⟩ := id i15_2
      have hp15 := fx_pow12 hlj15
      refine aw_iload_n dX1_mostCouples_15 rfl ?_
      refine aw_bipush (v := 12) dX1_mostCouples_16 (by decide) ?_
      refine aw_icmp_ge (tgt := 62) dX1_mostCouples_18 (by decide) (fun c_9 => ?_) (fun c_9 => ?_)
      · exact absurd c_9 (nI_ge (a := j15) (b := 12) (by omega) (by omega))
      refine aw_iconst (v := 0) dX1_mostCouples_21 (by decide) ?_
      refine aw_istore (ls' := [some (.ref (b + 94)), some (.ref (b + c)), some (.int mu), some (.int (nI j15)), some (.int 0)]) dX1_mostCouples_22 (Nat.le_of_ble_eq_true rfl) rfl ?_
      have loop_24_9 : ∀ (g_24 : Nat), ∀ (j24 : Nat)  (V24 : Wd), j24 + g_24 = (2 ^ j15) → (V24 94 = cO 1 [.ref (b + 95), .ref (b + 96)]) → (AZ D 95 12 V24) → (AZ D 96 4096 V24) → (∀ i, 100 ≤ i → V24 i = V i) → AW l D b jX1_mostCouples (fx_rm 3 0 0) none (fx_MQ D b 0 0 (fx_qi (fun r N9 V9 => r = 0 ∧ N = N9 ∧ ∀ i, 100 ≤ i → V9 i = V i))) 24 [some (.ref (b + 94)), some (.ref (b + c)), some (.int mu), some (.int (nI j15)), some (.int (nI j24))] [] N V24 0 0 := by
        intro g_24
        induction g_24 with
        | zero =>
          intro j24  V24 hj24 i24_0 i24_1 i24_2 i24_3
          obtain rfl : j24 = (2 ^ j15) := by omega
          obtain ⟨g24, e24, z24⟩ := id i24_2
          refine aw_iload dX1_mostCouples_24 rfl ?_
          refine aw_iconst (v := 1) dX1_mostCouples_26 (by decide) ?_
          refine aw_iload_n dX1_mostCouples_27 rfl ?_
          refine aw_ishl dX1_mostCouples_28 ?_
          refine aw_eqi (y := (nI (2 ^ j15))) (fx_shl12 j15 hlj15) ?_
          refine aw_icmp_ge (tgt := 56) dX1_mostCouples_29 (by decide) (fun c_12 => ?_) (fun c_12 => ?_)
          rotate_left
          · exact absurd (nI_le (a := (2 ^ j15)) (b := (2 ^ j15)) (Nat.le_refl _) (by omega)) c_12
          refine aw_iinc (v := (nI (j15 + 1))) (ls' := [some (.ref (b + 94)), some (.ref (b + c)), some (.int mu), some (.int (nI (j15 + 1))), some (.int (nI (2 ^ j15)))]) dX1_mostCouples_56 rfl (fx_up_1 _) (Nat.le_of_ble_eq_true rfl) rfl ?_
          refine aw_goto (tgt := 15) dX1_mostCouples_59 (by decide) ?_
          refine aw_le ?_ (ih_15_6 (j15 + 1)  V24 (by omega) (i24_0) (i24_1) (i24_2) (i24_3))
          exact ⟨rfl, ⟨rfl, ⟨rfl, ⟨rfl, trivial⟩⟩⟩⟩
        | succ g_24 ih_24_10 =>
          intro j24  V24 hj24 i24_0 i24_1 i24_2 i24_3
          have hlj24 : j24 < (2 ^ j15) := by omega
          obtain ⟨g24, e24, z24⟩ := id i24_2
          refine aw_iload dX1_mostCouples_24 rfl ?_
          refine aw_iconst (v := 1) dX1_mostCouples_26 (by decide) ?_
          refine aw_iload_n dX1_mostCouples_27 rfl ?_
          refine aw_ishl dX1_mostCouples_28 ?_
          refine aw_eqi (y := (nI (2 ^ j15))) (fx_shl12 j15 hlj15) ?_
          refine aw_icmp_ge (tgt := 56) dX1_mostCouples_29 (by decide) (fun c_13 => ?_) (fun c_13 => ?_)
          · exact absurd c_13 (nI_ge (a := j24) (b := (2 ^ j15)) (by omega) (by omega))
          refine aw_aload_n dX1_mostCouples_32 rfl ?_
          refine aw_get dX1_mostCouples_33 fl_X1_15 i24_0 (by omega) rfl ?_
          refine aw_iload dX1_mostCouples_36 rfl ?_
          refine aw_iconst (v := 1) dX1_mostCouples_38 (by decide) ?_
          refine aw_iload_n dX1_mostCouples_39 rfl ?_
          refine aw_ishl dX1_mostCouples_40 ?_
          refine aw_eqi (y := (nI (2 ^ j15))) (fx_shl12 j15 hlj15) ?_
          refine aw_ior dX1_mostCouples_41 ?_
          refine aw_eqi (y := (nI (j24 ||| 2 ^ j15))) (fx_orI _ _) ?_
          refine aw_aload_n dX1_mostCouples_42 rfl ?_
          refine aw_iload_n dX1_mostCouples_43 rfl ?_
          refine aw_iload dX1_mostCouples_44 rfl ?_
          refine aw_callVi (J' := jX1_mostWith) (As := [.int (nI j15), .int (nI j24)]) (st := [.int (nI (j24 ||| 2 ^ j15)), .ref (b + 96)]) dX1_mostCouples_46 tb_830 ok_X1_mostWith ⟨_, i24_0⟩ (by omega) rfl rfl (c_mostWith l D b N V24 hN i24_0 i24_1 i24_2 j15 j24 (by omega) (by omega)) rfl (Nat.le_of_ble_eq_true rfl) ⟨Nat.le_of_ble_eq_true rfl, Nat.le_of_ble_eq_true rfl, Nat.le_of_ble_eq_true rfl, Nat.le_of_ble_eq_true rfl⟩ (fun r_14 N_15 V_16 q_17 => ?_)
          obtain ⟨rfl, rfl, rfl⟩ := q_17
          refine aw_iast dX1_mostCouples_49 e24 (by omega) (vp_in_nI (n := j24 ||| 2 ^ j15) (Nat.or_lt_two_pow (n := 12) (by omega) (by omega)) (by decide)) ?_
          refine aw_iinc (v := (nI (j24 + 1))) (ls' := [some (.ref (b + 94)), some (.ref (b + c)), some (.int mu), some (.int (nI j15)), some (.int (nI (j24 + 1)))]) dX1_mostCouples_50 rfl (fx_up_1 _) (Nat.le_of_ble_eq_true rfl) rfl ?_
          refine aw_goto (tgt := 24) dX1_mostCouples_53 (by decide) ?_
          refine aw_le ?_ (ih_24_10 (j24 + 1)  (va_up V24 96 (cI D 4096 (upd g24 (Int32.toNatClampNeg (nI (j24 ||| 2 ^ j15))) 0))) (by omega) ((va_up_ne _ _ (by omega)).trans i24_0) (AZ.frame i24_1 (va_up_ne _ _ (by omega))) (AZ.upd z24) ((fun i hi => (va_up_ne _ _ (by omega)).trans (i24_3 i hi))))
          exact ⟨rfl, ⟨rfl, ⟨rfl, ⟨rfl, ⟨rfl, trivial⟩⟩⟩⟩⟩
      refine aw_le ?_ (loop_24_9 (2 ^ j15) 0  V15 (by omega) (i15_0) (i15_1) (i15_2) (i15_3))
      exact ⟨rfl, ⟨rfl, ⟨rfl, ⟨rfl, ⟨rfl, trivial⟩⟩⟩⟩⟩
  refine aw_le ?_ (loop_15_5 12 0  (va_up V_3 96 (cI D 4096 (upd g6 (Int32.toNatClampNeg 0) 0))) (by omega) (((va_up_ne _ _ (by omega)).trans ((fr_1 _ (by omega)).trans hk))) ((AZ.frame q_2 (va_up_ne _ _ (by omega)))) (AZ.upd z6) ((fun i hi => (va_up_ne _ _ (by omega)).trans ((fun i hi => (fr_1 i (by omega)).trans ((fr_refl V) i hi)) i hi))))
  exact ⟨rfl, ⟨rfl, ⟨rfl, ⟨rfl, trivial⟩⟩⟩⟩
