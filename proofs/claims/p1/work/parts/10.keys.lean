
def AZ (D : va_G) (i n : Nat) (V : Wd) : Prop := ∃ g : Nat → Int32, V i = cI D n g ∧ ∀ j, j < n → g j = 0
theorem AZ.frame {D : va_G} {i n : Nat} {V V' : Wd} (h : AZ D i n V) (e : V' i = V i) : AZ D i n V' := by
  obtain ⟨g, h1, h2⟩ := h
  exact ⟨g, e.trans h1, h2⟩
theorem AZ.upd {D : va_G} {i n k : Nat} {V : Wd} {g : Nat → Int32} (h2 : ∀ j, j < n → g j = 0) : AZ D i n (va_up V i (cI D n (upd g k 0))) := ⟨_, va_up_self _ _ _, fx_upd0 h2⟩
theorem fx_or0 (x : Int32) : (0 : Int32) ||| x = x := Int32.zero_or
theorem fx_shl12 : ∀ k, k < 12 → (1 : Int32) <<< (nI k &&& 31) = nI (2 ^ k) := by decide +kernel
theorem fx_orI (a b : Nat) : nI a ||| nI b = nI (a ||| b) := by
  apply Int32.toBitVec_inj.mp
  simp [nI]
theorem fx_pow12 {k : Nat} (h : k < 12) : 2 ^ k ≤ 2048 := Nat.pow_le_pow_right (by decide) (show k ≤ 11 by omega)
set_option maxHeartbeats 4000000 in
set_option maxRecDepth 100000 in
theorem c_openedBy (l : Launch) (D : va_G) (b : Nat) (N : Nat) (V : Wd) (hN : 100 ≤ N) (hk : V 92 = cO 3 [.ref (b + 93)]) (g : Nat → Int32) (hg : V 93 = cI D 12 g) (z : ∀ j, j < 12 → g j = 0) (x : Int32) : MI l D b 1 jX3_openedBy [.ref (b + 92), .int x] N V 0 0 (fun r N9 V9 => r = 0 ∧ N = N9 ∧ V = V9) := by
  refine mw_of (by decide) (by simp [Value.category]) (Nat.le_of_ble_eq_true rfl) ?_
  show AW l D b jX3_openedBy (fx_rm 1 0 0) none (fx_MQ D b 0 0 (fx_qi (fun r N9 V9 => r = 0 ∧ N = N9 ∧ V = V9))) 0 [some (.ref (b + 92)), some (.int x), none, none] [] N V 0 0
  refine aw_iconst (v := 0) dX3_openedBy_0 (by decide) ?_
  refine aw_istore_n (ls' := [some (.ref (b + 92)), some (.int x), some (.int 0), none]) dX3_openedBy_1 (Nat.le_of_ble_eq_true rfl) rfl ?_
  refine aw_iconst (v := 0) dX3_openedBy_2 (by decide) ?_
  refine aw_istore_n (ls' := [some (.ref (b + 92)), some (.int x), some (.int 0), some (.int 0)]) dX3_openedBy_3 (Nat.le_of_ble_eq_true rfl) rfl ?_
  have loop_4_0 : ∀ (g_4 : Nat), ∀ (j4 : Nat), j4 + g_4 = 12 → AW l D b jX3_openedBy (fx_rm 1 0 0) none (fx_MQ D b 0 0 (fx_qi (fun r N9 V9 => r = 0 ∧ N = N9 ∧ V = V9))) 4 [some (.ref (b + 92)), some (.int x), some (.int 0), some (.int (nI j4))] [] N V 0 0 := by
    intro g_4
    induction g_4 with
    | zero =>
      intro j4  hj4
      obtain rfl : j4 = 12 := by omega
      refine aw_iload_n dX3_openedBy_4 rfl ?_
      refine aw_aload_n dX3_openedBy_5 rfl ?_
      refine aw_get dX3_openedBy_6 fl_X3_9 hk (by omega) rfl ?_
      refine aw_alen (t0 := 0) (v := 12) dX3_openedBy_9 hg (by omega) rfl rfl ?_
      refine aw_icmp_ge (tgt := 36) dX3_openedBy_10 (by decide) (fun c_3 => ?_) (fun c_3 => ?_)
      rotate_left
      · exact absurd (nI_le (a := 12) (b := 12) (Nat.le_refl _) (by omega)) c_3
      refine aw_iload_n dX3_openedBy_36 rfl ?_
      refine aw_ireti dX3_openedBy_37 rfl (Nat.le_of_ble_eq_true rfl) (Nat.le_of_ble_eq_true rfl) ?_
      exact ⟨rfl, rfl, rfl⟩
    | succ g_4 ih_4_1 =>
      intro j4  hj4
      have hlj4 : j4 < 12 := by omega
      refine aw_iload_n dX3_openedBy_4 rfl ?_
      refine aw_aload_n dX3_openedBy_5 rfl ?_
      refine aw_get dX3_openedBy_6 fl_X3_9 hk (by omega) rfl ?_
      refine aw_alen (t0 := 0) (v := 12) dX3_openedBy_9 hg (by omega) rfl rfl ?_
      refine aw_icmp_ge (tgt := 36) dX3_openedBy_10 (by decide) (fun c_4 => ?_) (fun c_4 => ?_)
      · exact absurd c_4 (nI_ge (a := j4) (b := 12) (by omega) (by omega))
      refine aw_iload_n dX3_openedBy_13 rfl ?_
      refine aw_iload_n dX3_openedBy_14 rfl ?_
      refine aw_callSNi (J' := jX11_has) (As := [.int x, .int (nI j4)]) (st := []) dX3_openedBy_15 tb_804 ok_X11_has rfl (c_hasA l D b N V x (nI j4)) rfl (Nat.le_of_ble_eq_true rfl) ⟨Nat.le_of_ble_eq_true rfl, Nat.le_of_ble_eq_true rfl, Nat.le_of_ble_eq_true rfl, Nat.le_of_ble_eq_true rfl⟩ (fun r_5 N_6 V_7 q_8 => ?_)
      obtain ⟨hr_5, rfl, rfl⟩ := q_8
      refine aw_if_eq (tgt := 30) dX3_openedBy_18 (by decide) (fun c_9 => ?_) (fun c_9 => ?_)
      · skip
        refine aw_iinc (v := (nI (j4 + 1))) (ls' := [some (.ref (b + 92)), some (.int x), some (.int 0), some (.int (nI (j4 + 1)))]) dX3_openedBy_30 rfl (fx_up_1 _) (Nat.le_of_ble_eq_true rfl) rfl ?_
        refine aw_goto (tgt := 4) dX3_openedBy_33 (by decide) ?_
        refine aw_le ?_ (ih_4_1 (j4 + 1)   (by omega))
        exact ⟨rfl, ⟨rfl, ⟨rfl, ⟨rfl, trivial⟩⟩⟩⟩
      · skip
        refine aw_iload_n dX3_openedBy_21 rfl ?_
        refine aw_aload_n dX3_openedBy_22 rfl ?_
        refine aw_get dX3_openedBy_23 fl_X3_9 hk (by omega) rfl ?_
        refine aw_iload_n dX3_openedBy_26 rfl ?_
        refine aw_iald (v := 0) dX3_openedBy_27 hg (by omega) (vp_in_nI (n := j4) (by omega) (by omega)) (by rw [nI_clamp (n := j4) (by omega)]; exact z j4 (by omega)) ?_
        refine aw_ior dX3_openedBy_28 ?_
        refine aw_eqi (y := 0) (by decide) ?_
        refine aw_istore_n (ls' := [some (.ref (b + 92)), some (.int x), some (.int 0), some (.int (nI j4))]) dX3_openedBy_29 (Nat.le_of_ble_eq_true rfl) rfl ?_
        refine aw_iinc (v := (nI (j4 + 1))) (ls' := [some (.ref (b + 92)), some (.int x), some (.int 0), some (.int (nI (j4 + 1)))]) dX3_openedBy_30 rfl (fx_up_1 _) (Nat.le_of_ble_eq_true rfl) rfl ?_
        refine aw_goto (tgt := 4) dX3_openedBy_33 (by decide) ?_
        refine aw_le ?_ (ih_4_1 (j4 + 1)   (by omega))
        exact ⟨rfl, ⟨rfl, ⟨rfl, ⟨rfl, trivial⟩⟩⟩⟩
  refine aw_le ?_ (loop_4_0 12 0   (by omega))
  exact ⟨rfl, ⟨rfl, ⟨rfl, ⟨rfl, trivial⟩⟩⟩⟩

set_option maxHeartbeats 4000000 in
set_option maxRecDepth 100000 in
theorem c_fewestForAllDoors (l : Launch) (D : va_G) (b : Nat) (c N : Nat) (V : Wd) (hN : 100 ≤ N) (hc : c + 18 ≤ 57) (hC : CZ D b c V) (hk : V 92 = cO 3 [.ref (b + 93)]) (hg0 : AZ D 93 12 V) : MI l D b 4 jX3_fewestForAllDoors [.ref (b + 92), .ref (b + c)] N V 0 0 (fun r N9 V9 => r = 0 ∧ N = N9) := by
  obtain ⟨dr, kn, df, sg, op, ni, xx, hCA, z1, z2⟩ := id hC
  obtain ⟨h0, h1, h2, h3, h4, h5, h6⟩ := id hCA
  obtain ⟨g, hg, zg⟩ := id hg0
  refine mw_of (by decide) (by simp [Value.category]) (Nat.le_of_ble_eq_true rfl) ?_
  show AW l D b jX3_fewestForAllDoors (fx_rm 4 0 0) none (fx_MQ D b 0 0 (fx_qi (fun r N9 V9 => r = 0 ∧ N = N9))) 0 [some (.ref (b + 92)), some (.ref (b + c)), none, none, none, none] [] N V 0 0
  refine aw_sipush (v := 4095) dX3_fewestForAllDoors_0 (by decide) ?_
  refine aw_istore_n (ls' := [some (.ref (b + 92)), some (.ref (b + c)), some (.int 4095), none, none, none]) dX3_fewestForAllDoors_3 (Nat.le_of_ble_eq_true rfl) rfl ?_
  refine aw_bipush (v := (-2)) dX3_fewestForAllDoors_4 (by decide) ?_
  refine aw_istore_n (ls' := [some (.ref (b + 92)), some (.ref (b + c)), some (.int 4095), some (.int (-2)), none, none]) dX3_fewestForAllDoors_6 (Nat.le_of_ble_eq_true rfl) rfl ?_
  refine aw_bipush (v := 13) dX3_fewestForAllDoors_7 (by decide) ?_
  refine aw_istore (ls' := [some (.ref (b + 92)), some (.ref (b + c)), some (.int 4095), some (.int (-2)), some (.int 13), none]) dX3_fewestForAllDoors_9 (Nat.le_of_ble_eq_true rfl) rfl ?_
  refine aw_iconst (v := 0) dX3_fewestForAllDoors_11 (by decide) ?_
  refine aw_istore (ls' := [some (.ref (b + 92)), some (.ref (b + c)), some (.int 4095), some (.int (-2)), some (.int 13), some (.int 0)]) dX3_fewestForAllDoors_12 (Nat.le_of_ble_eq_true rfl) rfl ?_
  have loop_14_0 : ∀ (g_14 : Nat), ∀ (j14 : Nat)  (V14 : Wd), j14 + g_14 = 12 → (CZ D b c V14) → (V14 92 = cO 3 [.ref (b + 93)]) → (AZ D 93 12 V14) → AW l D b jX3_fewestForAllDoors (fx_rm 4 0 0) none (fx_MQ D b 0 0 (fx_qi (fun r N9 V9 => r = 0 ∧ N = N9))) 14 [some (.ref (b + 92)), some (.ref (b + c)), some (.int 4095), some (.int (-2)), some (.int 13), some (.int (nI j14))] [] N V14 0 0 := by
    intro g_14
    induction g_14 with
    | zero =>
      intro j14  V14 hj14 i14_0 i14_1 i14_2
      obtain rfl : j14 = 12 := by omega
      obtain ⟨dra, kna, dfa, sga, opa, nia, xxa, hCAa, z1a, z2a⟩ := id i14_0
      obtain ⟨h0a, h1a, h2a, h3a, h4a, h5a, h6a⟩ := id hCAa
      obtain ⟨g14, e14, z14⟩ := id i14_2
      refine aw_iload dX3_fewestForAllDoors_14 rfl ?_
      refine aw_bipush (v := 12) dX3_fewestForAllDoors_16 (by decide) ?_
      refine aw_icmp_ge (tgt := 40) dX3_fewestForAllDoors_18 (by decide) (fun c_3 => ?_) (fun c_3 => ?_)
      rotate_left
      · exact absurd (nI_le (a := 12) (b := 12) (Nat.le_refl _) (by omega)) c_3
      refine aw_iconst (v := 0) dX3_fewestForAllDoors_40 (by decide) ?_
      refine aw_istore (ls' := [some (.ref (b + 92)), some (.ref (b + c)), some (.int 4095), some (.int (-2)), some (.int 13), some (.int 0)]) dX3_fewestForAllDoors_41 (Nat.le_of_ble_eq_true rfl) rfl ?_
      refine aw_iload dX3_fewestForAllDoors_43 rfl ?_
      refine aw_iload_n dX3_fewestForAllDoors_45 rfl ?_
      refine aw_icmp_gt (tgt := 88) dX3_fewestForAllDoors_46 (by decide) (fun c_4 => ?_) (fun c_4 => ?_)
      · exact absurd c_4 (by decide)
      refine aw_iload dX3_fewestForAllDoors_49 rfl ?_
      refine aw_callSi (J' := jJ6_bitCount_0f7a4) (As := [.int 0]) (st := []) dX3_fewestForAllDoors_51 tb_799 ok_J6_bitCount_0f7a4 rfl (c_bitCount l D b N V14 0) rfl (Nat.le_of_ble_eq_true rfl) ⟨Nat.le_of_ble_eq_true rfl, Nat.le_of_ble_eq_true rfl, Nat.le_of_ble_eq_true rfl, Nat.le_of_ble_eq_true rfl⟩ (fun r_5 N_6 V_7 q_8 => ?_)
      obtain ⟨⟨hr_5, -⟩, rfl, rfl⟩ := q_8
      obtain rfl := hr_5 rfl
      refine aw_iload dX3_fewestForAllDoors_54 rfl ?_
      refine aw_icmp_ge (tgt := 82) dX3_fewestForAllDoors_56 (by decide) (fun c_9 => ?_) (fun c_9 => ?_)
      · exact absurd c_9 (by decide)
      refine aw_aload_n dX3_fewestForAllDoors_59 rfl ?_
      refine aw_iload dX3_fewestForAllDoors_60 rfl ?_
      refine aw_callVi (J' := jX3_openedBy) (As := [.int 0]) (st := []) dX3_fewestForAllDoors_62 tb_800 ok_X3_openedBy ⟨_, i14_1⟩ (by omega) rfl rfl (c_openedBy l D b N V14 hN i14_1 g14 e14 z14 0) rfl (Nat.le_of_ble_eq_true rfl) ⟨Nat.le_of_ble_eq_true rfl, Nat.le_of_ble_eq_true rfl, Nat.le_of_ble_eq_true rfl, Nat.le_of_ble_eq_true rfl⟩ (fun r_10 N_11 V_12 q_13 => ?_)
      obtain ⟨rfl, rfl, rfl⟩ := q_13
      refine aw_aload_n dX3_fewestForAllDoors_65 rfl ?_
      refine aw_get dX3_fewestForAllDoors_66 fl_X3_54 h0a (by omega) rfl ?_
      refine aw_icmp_ne (tgt := 82) dX3_fewestForAllDoors_69 (by decide) (fun c_14 => ?_) (fun c_14 => ?_)
      · exact absurd rfl c_14
      refine aw_iload dX3_fewestForAllDoors_72 rfl ?_
      refine aw_istore_n (ls' := [some (.ref (b + 92)), some (.ref (b + c)), some (.int 4095), some (.int 0), some (.int 13), some (.int 0)]) dX3_fewestForAllDoors_74 (Nat.le_of_ble_eq_true rfl) rfl ?_
      refine aw_iload dX3_fewestForAllDoors_75 rfl ?_
      refine aw_callSi (J' := jJ6_bitCount_0f7a4) (As := [.int 0]) (st := []) dX3_fewestForAllDoors_77 tb_799 ok_J6_bitCount_0f7a4 rfl (c_bitCount l D b N V14 0) rfl (Nat.le_of_ble_eq_true rfl) ⟨Nat.le_of_ble_eq_true rfl, Nat.le_of_ble_eq_true rfl, Nat.le_of_ble_eq_true rfl, Nat.le_of_ble_eq_true rfl⟩ (fun r_15 N_16 V_17 q_18 => ?_)
      obtain ⟨⟨hr_15, -⟩, rfl, rfl⟩ := q_18
      obtain rfl := hr_15 rfl
      refine aw_istore (ls' := [some (.ref (b + 92)), some (.ref (b + c)), some (.int 4095), some (.int 0), some (.int 0), some (.int 0)]) dX3_fewestForAllDoors_80 (Nat.le_of_ble_eq_true rfl) rfl ?_
      refine aw_iinc (v := 1) (ls' := [some (.ref (b + 92)), some (.ref (b + c)), some (.int 4095), some (.int 0), some (.int 0), some (.int 1)]) dX3_fewestForAllDoors_82 rfl (by decide) (Nat.le_of_ble_eq_true rfl) rfl ?_
      refine aw_goto (tgt := 43) dX3_fewestForAllDoors_85 (by decide) ?_
      have loop_43_18 : ∀ (g_43 : Nat), ∀ (j43 : Nat), j43 + g_43 = 4096 → AW l D b jX3_fewestForAllDoors (fx_rm 4 0 0) none (fx_MQ D b 0 0 (fx_qi (fun r N9 V9 => r = 0 ∧ N = N9))) 43 [some (.ref (b + 92)), some (.ref (b + c)), some (.int 4095), some (.int 0), some (.int 0), some (.int (nI j43))] [] N V14 0 0 := by
        intro g_43
        induction g_43 with
        | zero =>
          intro j43  hj43
          obtain rfl : j43 = 4096 := by omega
          refine aw_iload dX3_fewestForAllDoors_43 rfl ?_
          refine aw_iload_n dX3_fewestForAllDoors_45 rfl ?_
          refine aw_icmp_gt (tgt := 88) dX3_fewestForAllDoors_46 (by decide) (fun c_21 => ?_) (fun c_21 => ?_)
          rotate_left
          · exact absurd (by decide) c_21
          refine aw_iload_n dX3_fewestForAllDoors_88 rfl ?_
          refine aw_ireti dX3_fewestForAllDoors_89 rfl (Nat.le_of_ble_eq_true rfl) (Nat.le_of_ble_eq_true rfl) ?_
          exact ⟨rfl, rfl⟩
        | succ g_43 ih_43_19 =>
          intro j43  hj43
          have hlj43 : j43 < 4096 := by omega
          refine aw_iload dX3_fewestForAllDoors_43 rfl ?_
          refine aw_iload_n dX3_fewestForAllDoors_45 rfl ?_
          refine aw_icmp_gt (tgt := 88) dX3_fewestForAllDoors_46 (by decide) (fun c_22 => ?_) (fun c_22 => ?_)
          · exact absurd ((nI_ltI (a := 4095) (b := j43) (by omega) (by omega)).mp c_22) (by omega)
          refine aw_iload dX3_fewestForAllDoors_49 rfl ?_
          refine aw_callSi (J' := jJ6_bitCount_0f7a4) (As := [.int (nI j43)]) (st := []) dX3_fewestForAllDoors_51 tb_799 ok_J6_bitCount_0f7a4 rfl (c_bitCount l D b N V14 (nI j43)) rfl (Nat.le_of_ble_eq_true rfl) ⟨Nat.le_of_ble_eq_true rfl, Nat.le_of_ble_eq_true rfl, Nat.le_of_ble_eq_true rfl, Nat.le_of_ble_eq_true rfl⟩ (fun r_23 N_24 V_25 q_26 => ?_)
          obtain ⟨⟨-, hr_23⟩, rfl, rfl⟩ := q_26
          refine aw_iload dX3_fewestForAllDoors_54 rfl ?_
          refine aw_icmp_ge (tgt := 82) dX3_fewestForAllDoors_56 (by decide) (fun c_27 => ?_) (fun c_27 => ?_)
          rotate_left
          · exact absurd hr_23 c_27
          refine aw_iinc (v := (nI (j43 + 1))) (ls' := [some (.ref (b + 92)), some (.ref (b + c)), some (.int 4095), some (.int 0), some (.int 0), some (.int (nI (j43 + 1)))]) dX3_fewestForAllDoors_82 rfl (fx_up_1 _) (Nat.le_of_ble_eq_true rfl) rfl ?_
          refine aw_goto (tgt := 43) dX3_fewestForAllDoors_85 (by decide) ?_
          refine aw_le ?_ (ih_43_19 (j43 + 1)   (by omega))
          exact ⟨rfl, ⟨rfl, ⟨rfl, ⟨rfl, ⟨rfl, ⟨rfl, trivial⟩⟩⟩⟩⟩⟩
      refine aw_le ?_ (loop_43_18 (4096 - 1) 1   (by omega))
      exact ⟨rfl, ⟨rfl, ⟨rfl, ⟨rfl, ⟨rfl, ⟨rfl, trivial⟩⟩⟩⟩⟩⟩
    | succ g_14 ih_14_1 =>
      intro j14  V14 hj14 i14_0 i14_1 i14_2
      have hlj14 : j14 < 12 := by omega
      obtain ⟨dra, kna, dfa, sga, opa, nia, xxa, hCAa, z1a, z2a⟩ := id i14_0
      obtain ⟨h0a, h1a, h2a, h3a, h4a, h5a, h6a⟩ := id hCAa
      obtain ⟨g14, e14, z14⟩ := id i14_2
      refine aw_iload dX3_fewestForAllDoors_14 rfl ?_
      refine aw_bipush (v := 12) dX3_fewestForAllDoors_16 (by decide) ?_
      refine aw_icmp_ge (tgt := 40) dX3_fewestForAllDoors_18 (by decide) (fun c_28 => ?_) (fun c_28 => ?_)
      · exact absurd c_28 (nI_ge (a := j14) (b := 12) (by omega) (by omega))
      refine aw_aload_n dX3_fewestForAllDoors_21 rfl ?_
      refine aw_get dX3_fewestForAllDoors_22 fl_X3_9 i14_1 (by omega) rfl ?_
      refine aw_iload dX3_fewestForAllDoors_25 rfl ?_
      refine aw_aload_n dX3_fewestForAllDoors_27 rfl ?_
      refine aw_iload dX3_fewestForAllDoors_28 rfl ?_
      refine aw_callVi (J' := jX0_doorsOpenTo) (As := [.int (nI j14)]) (st := [.int (nI j14), .ref (b + 93)]) dX3_fewestForAllDoors_30 tb_798 ok_X0_doorsOpenTo ⟨_, h0a⟩ (by omega) rfl rfl (c_doorsOpenTo l D b c N V14 (by omega) i14_0 (nI j14)) rfl (Nat.le_of_ble_eq_true rfl) ⟨Nat.le_of_ble_eq_true rfl, Nat.le_of_ble_eq_true rfl, Nat.le_of_ble_eq_true rfl, Nat.le_of_ble_eq_true rfl⟩ (fun r_29 N_30 V_31 q_32 => ?_)
      obtain ⟨rfl, rfl, rfl⟩ := q_32
      refine aw_iast dX3_fewestForAllDoors_33 e14 (by omega) (vp_in_nI (n := j14) (by omega) (by omega)) ?_
      refine aw_iinc (v := (nI (j14 + 1))) (ls' := [some (.ref (b + 92)), some (.ref (b + c)), some (.int 4095), some (.int (-2)), some (.int 13), some (.int (nI (j14 + 1)))]) dX3_fewestForAllDoors_34 rfl (fx_up_1 _) (Nat.le_of_ble_eq_true rfl) rfl ?_
      refine aw_goto (tgt := 14) dX3_fewestForAllDoors_37 (by decide) ?_
      refine aw_le ?_ (ih_14_1 (j14 + 1)  (va_up V14 93 (cI D 12 (upd g14 ((nI j14)).toNatClampNeg 0))) (by omega) (CZ.up i14_0 (by omega)) ((va_up_ne _ _ (by omega)).trans i14_1) (AZ.upd z14))
      exact ⟨rfl, ⟨rfl, ⟨rfl, ⟨rfl, ⟨rfl, ⟨rfl, trivial⟩⟩⟩⟩⟩⟩
  refine aw_le ?_ (loop_14_0 12 0  V (by omega) (hC) (hk) (hg0))
  exact ⟨rfl, ⟨rfl, ⟨rfl, ⟨rfl, ⟨rfl, ⟨rfl, trivial⟩⟩⟩⟩⟩⟩
