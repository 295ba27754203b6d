set_option maxHeartbeats 4000000 in
set_option maxRecDepth 100000 in
theorem r_groupOfS (l : Launch) (D : va_G) (b : Nat) (N : Nat) (V : Wd) (hN : 133 ≤ N) (cl : Nat) (hW : CR D b cl V) (n0 : Int32) (n1 : Int32) (kn : Nat → Nat) (hk : ∀ i, i < 12 → kn i < 4096 ∧ fI (V 104) i = nI (kn i)) (p9 m9 : Nat) (hp9 : p9 < 12) (e09 : n0 = nI p9) (hm9 : ∀ x : Nat, x < 4096 → nI x &&& (n1 ^^^ (-1)) = nI (x &&& m9)) : MI l D b 1 jX12_groupOf [.ref (b + 100), .int n0, .int n1] N V 0 0 (fun r N9 V9 => (r = nI (clo kn m9 (2 ^ p9))) ∧ N = N9 ∧ V = V9) := by
  have hJ0 : JR D b N cl [] V V := JR.rf hW
  subst e09
  have hJ0 : JR D b N cl [] V V := JR.rf hW
  refine mw_of (by decide) (by simp [Value.category]) (Nat.le_of_ble_eq_true rfl) ?_
  show AW l D b jX12_groupOf (fx_rm 1 0 0) none (fx_MQ D b 0 0 (fx_qi (fun r N9 V9 => (r = nI (clo kn m9 (2 ^ p9))) ∧ N = N9 ∧ V = V9))) 0 [some (.ref (b + 100)), some (.int (nI p9)), some (.int n1), none, none, none] [] N V 0 0
  refine aw_iconst (v := 1) dX12_groupOf_0 (by decide) ?_
  refine aw_iload_n dX12_groupOf_1 rfl ?_
  refine aw_ishl dX12_groupOf_2 ?_
  refine aw_eqi (y := (nI (2 ^ p9))) (fx_shl12 p9 (by omega)) ?_
  refine aw_istore_n (ls' := [some (.ref (b + 100)), some (.int (nI p9)), some (.int n1), some (.int (nI (2 ^ p9))), none, none]) dX12_groupOf_3 (Nat.le_of_ble_eq_true rfl) rfl ?_
  refine aw_iconst (v := 0) dX12_groupOf_4 (by decide) ?_
  refine aw_istore (ls' := [some (.ref (b + 100)), some (.int (nI p9)), some (.int n1), some (.int (nI (2 ^ p9))), some (.int 0), none]) dX12_groupOf_5 (Nat.le_of_ble_eq_true rfl) rfl ?_
  have ml_7_1 : ∀ (m : Nat) (s7 : Nat) (y7 : Nat) (v7_4 : Int32), m = 2 * (4096 - s7) + (if v7_4 = nI s7 then 0 else 1) → (s7 < 4096) → (s7 = itm kn m9 y7 (2 ^ p9)) → (v7_4 = 0 ∨ ∃ y9, y7 = y9 + 1 ∧ v7_4 = nI (itm kn m9 y9 (2 ^ p9))) → AW l D b jX12_groupOf (fx_rm 1 0 0) none (fx_MQ D b 0 0 (fx_qi (fun r N9 V9 => (r = nI (clo kn m9 (2 ^ p9))) ∧ N = N9 ∧ V = V9))) 7 [some (.ref (b + 100)), some (.int (nI p9)), some (.int n1), some (.int (nI s7)), some (.int v7_4), none] [] N V 0 0 := by
    intro m; refine Nat.strongRecOn m ?_
    intro m mih_7_1 s7 y7 v7_4 hm7 i7_0 i7_1 i7_2
    refine aw_iload_n dX12_groupOf_7 rfl ?_
    refine aw_iload dX12_groupOf_8 rfl ?_
    refine aw_icmp_eq (tgt := 59) dX12_groupOf_10 (by decide) (fun c_2 => ?_) (fun c_2 => ?_)
    · skip
      refine aw_iload_n dX12_groupOf_59 rfl ?_
      refine aw_ireti dX12_groupOf_60 rfl (Nat.le_of_ble_eq_true rfl) (Nat.le_of_ble_eq_true rfl) ?_
      exact ⟨(grp_fix (fun i hi => (hk i hi).1) hp9 i7_0 i7_1 i7_2 c_2), rfl, rfl⟩
    · skip
      refine aw_iload_n dX12_groupOf_13 rfl ?_
      refine aw_istore (ls' := [some (.ref (b + 100)), some (.int (nI p9)), some (.int n1), some (.int (nI s7)), some (.int (nI s7)), none]) dX12_groupOf_14 (Nat.le_of_ble_eq_true rfl) rfl ?_
      refine aw_iconst (v := 0) dX12_groupOf_16 (by decide) ?_
      refine aw_istore (ls' := [some (.ref (b + 100)), some (.int (nI p9)), some (.int n1), some (.int (nI s7)), some (.int (nI s7)), some (.int 0)]) dX12_groupOf_17 (Nat.le_of_ble_eq_true rfl) rfl ?_
      have ml_19_3 : ∀ (m : Nat) (p19 : Nat) (s19 : Nat), m = 12 - p19 → (p19 ≤ 12) → (s19 < 4096) → (s7 ≤ s19) → (s19 = s7 ||| (bs kn s7 p19 &&& m9)) → AW l D b jX12_groupOf (fx_rm 1 0 0) none (fx_MQ D b 0 0 (fx_qi (fun r N9 V9 => (r = nI (clo kn m9 (2 ^ p9))) ∧ N = N9 ∧ V = V9))) 19 [some (.ref (b + 100)), some (.int (nI p9)), some (.int n1), some (.int (nI s19)), some (.int (nI s7)), some (.int (nI p19))] [] N V 0 0 := by
        intro m; refine Nat.strongRecOn m ?_
        intro m mih_19_3 p19 s19 hm19 i19_0 i19_1 i19_2 i19_3
        refine aw_iload dX12_groupOf_19 rfl ?_
        refine aw_bipush (v := 12) dX12_groupOf_21 (by decide) ?_
        refine aw_icmp_ge (tgt := 56) dX12_groupOf_23 (by decide) (fun c_4 => ?_) (fun c_4 => ?_)
        · skip
          have nc_4 : 12 ≤ p19 := (nI_leI (a := 12) (b := p19) (by omega) (by omega)).mp c_4
          refine aw_goto (tgt := 7) dX12_groupOf_56 (by decide) ?_
          refine aw_le ?_ (mih_7_1 _ (by rw [hm7]; exact fx_fix (by first | omega | exact Nat.le_trans (by omega) Nat.left_le_or) (by first | omega | exact fx_pow12 (by omega) | exact or_lt (by omega) (by first | omega | exact fx_pow12 (by omega))) c_2) s19 (y7 + 1) (nI s7) rfl ((by first | omega | exact fx_pow12 (by omega) | exact or_lt (by omega) (by first | omega | exact fx_pow12 (by omega)))) (mb_fin i19_3 (by omega) i7_1) (Or.inr ⟨y7, rfl, congrArg nI i7_1⟩))
          exact ⟨rfl, ⟨rfl, ⟨rfl, ⟨rfl, ⟨rfl, trivial⟩⟩⟩⟩⟩
        · skip
          have nc_4 : ¬ (12 ≤ p19) := fun z => c_4 ((nI_leI (a := 12) (b := p19) (by omega) (by omega)).mpr z)
          refine aw_iload dX12_groupOf_26 rfl ?_
          refine aw_iload dX12_groupOf_28 rfl ?_
          refine aw_callSi (J' := jX12_has) (As := [.int (nI s7), .int (nI p19)]) (st := []) dX12_groupOf_30 tb_1315 ok_X12_has rfl (r_hasS l D b N V hN cl hJ0.1 (nI s7) (nI p19)) rfl (Nat.le_of_ble_eq_true rfl) ⟨Nat.le_of_ble_eq_true rfl, Nat.le_of_ble_eq_true rfl, Nat.le_of_ble_eq_true rfl, Nat.le_of_ble_eq_true rfl⟩ (fun r_8 N_9 V_10 q_11 => ?_)
          obtain ⟨⟨z_7, h_6⟩, rfl, rfl⟩ := q_11
          rcases h_6 with ⟨hy_12, e_13⟩ | ⟨hn_14, e_15⟩
          · skip
            refine aw_eqi (y := 1) e_13 ?_
            refine aw_if_eq (tgt := 50) dX12_groupOf_33 (by decide) (fun c_16 => ?_) (fun c_16 => ?_)
            · exact absurd c_16 (by decide)
            refine aw_iload_n dX12_groupOf_36 rfl ?_
            refine aw_aload_n dX12_groupOf_37 rfl ?_
            obtain ⟨ftoldPeople_17, ftoldDoors_17, fwasDoors_17, ffault_17, fopen_17, flines_17, fmeantSet_17, fopenedNow_17, fvainNow_17, flowNow_17, fhighNow_17, fisKept_17, tad_17, pl0_17, le0_17, nu0_17, coy_17, wag_17, say_17, e_17, hntad_17, hnpl0_17, hnle0_17, hnnu0_17, hncoy_17, hnwag_17, hnsay_17⟩ := JR.get hJ0 cm_100
            refine aw_get dX12_groupOf_38 fl_X12_19 e_17 (by omega) rfl ?_
            refine aw_iload dX12_groupOf_41 rfl ?_
            obtain ⟨g_18, e_18, p_18⟩ := JR.get hJ0 cm_104
            refine aw_iald (v := (g_18 p19)) dX12_groupOf_43 e_18 (by omega) (vp_in_nI (n := p19) (by omega) (by omega)) (congrArg g_18 (nI_clamp (n := p19) (by omega))) ?_
            have hkp19 := (hk p19 (by omega)).1
            refine aw_eqi (y := nI (kn p19)) (((congrArg (fun z => fI z p19) e_18).symm.trans (hk p19 (by omega)).2)) ?_
            refine aw_iload_n dX12_groupOf_44 rfl ?_
            refine aw_iconst (v := (-1)) dX12_groupOf_45 (by decide) ?_
            refine aw_ixor dX12_groupOf_46 ?_
            refine aw_iand dX12_groupOf_47 ?_
            refine aw_eqi (y := (nI (kn p19 &&& m9))) (hm9 _ hkp19) ?_
            have hkm19 : kn p19 &&& m9 < 4096 := Nat.lt_of_le_of_lt Nat.and_le_left hkp19
            refine aw_ior dX12_groupOf_48 ?_
            refine aw_eqi (y := (nI (s19 ||| (kn p19 &&& m9)))) (fx_orI _ _) ?_
            refine aw_istore_n (ls' := [some (.ref (b + 100)), some (.int (nI p9)), some (.int n1), some (.int (nI (s19 ||| (kn p19 &&& m9)))), some (.int (nI s7)), some (.int (nI p19))]) dX12_groupOf_49 (Nat.le_of_ble_eq_true rfl) rfl ?_
            refine aw_iinc (v := (nI (p19 + 1))) (ls' := [some (.ref (b + 100)), some (.int (nI p9)), some (.int n1), some (.int (nI (s19 ||| (kn p19 &&& m9)))), some (.int (nI s7)), some (.int (nI (p19 + 1)))]) dX12_groupOf_50 rfl (fx_up_1 _) (Nat.le_of_ble_eq_true rfl) rfl ?_
            refine aw_goto (tgt := 19) dX12_groupOf_53 (by decide) ?_
            refine aw_le ?_ (mih_19_3 _ (by omega) (p19 + 1) (s19 ||| (kn p19 &&& m9)) rfl (by omega) ((by first | omega | exact fx_pow12 (by omega) | exact or_lt (by omega) (by first | omega | exact fx_pow12 (by omega)))) ((by first | omega | exact Nat.le_trans (by omega) Nat.left_le_or)) (mb_yes i19_3 (bt_it rfl (by omega) (by omega) hy_12)))
            exact ⟨rfl, ⟨rfl, ⟨rfl, ⟨rfl, ⟨rfl, ⟨rfl, trivial⟩⟩⟩⟩⟩⟩
          · skip
            refine aw_eqi (y := 0) e_15 ?_
            refine aw_if_eq (tgt := 50) dX12_groupOf_33 (by decide) (fun c_19 => ?_) (fun c_19 => ?_)
            rotate_left
            · exact absurd (by decide) c_19
            refine aw_iinc (v := (nI (p19 + 1))) (ls' := [some (.ref (b + 100)), some (.int (nI p9)), some (.int n1), some (.int (nI s19)), some (.int (nI s7)), some (.int (nI (p19 + 1)))]) dX12_groupOf_50 rfl (fx_up_1 _) (Nat.le_of_ble_eq_true rfl) rfl ?_
            refine aw_goto (tgt := 19) dX12_groupOf_53 (by decide) ?_
            refine aw_le ?_ (mih_19_3 _ (by omega) (p19 + 1) s19 rfl (by omega) ((by first | omega | exact fx_pow12 (by omega) | exact or_lt (by omega) (by first | omega | exact fx_pow12 (by omega)))) ((by first | omega | exact Nat.le_trans (by omega) Nat.left_le_or)) (mb_no i19_3 (bt_it rfl (by omega) (by omega) hn_14)))
            exact ⟨rfl, ⟨rfl, ⟨rfl, ⟨rfl, ⟨rfl, ⟨rfl, trivial⟩⟩⟩⟩⟩⟩
      refine aw_le ?_ (ml_19_3 _ 0 s7 rfl (by omega) ((by first | omega | exact fx_pow12 (by omega) | exact or_lt (by omega) (by first | omega | exact fx_pow12 (by omega)))) ((by first | omega | exact Nat.le_trans (by omega) Nat.left_le_or)) (by rw [bs, Nat.zero_and, Nat.or_zero]))
      exact ⟨rfl, ⟨rfl, ⟨rfl, ⟨rfl, ⟨rfl, ⟨rfl, trivial⟩⟩⟩⟩⟩⟩
  refine aw_le ?_ (ml_7_1 _ (2 ^ p9) 0 0 rfl ((by first | omega | exact fx_pow12 (by omega) | exact or_lt (by omega) (by first | omega | exact fx_pow12 (by omega)))) (rfl) (Or.inl rfl))
  exact ⟨rfl, ⟨rfl, ⟨rfl, ⟨rfl, ⟨rfl, trivial⟩⟩⟩⟩⟩

set_option maxHeartbeats 4000000 in
set_option maxRecDepth 100000 in
theorem r_isKeystoneS (l : Launch) (D : va_G) (b : Nat) (N : Nat) (V : Wd) (hN : 133 ≤ N) (cl : Nat) (hW : CR D b cl V) (n0 : Int32) (kn : Nat → Nat) (hk : ∀ i, i < 12 → kn i < 4096 ∧ fI (V 104) i = nI (kn i)) (p9 : Nat) (hp9 : p9 < 12) (e09 : n0 = nI p9) : MI l D b 2 jX12_isKeystone [.ref (b + 100), .int n0] N V 0 0 (fun r N9 V9 => ((r = 0 ∨ r = 1) ∧ ((KST kn p9 ∧ r = 1) ∨ (¬ KST kn p9 ∧ r = 0))) ∧ N = N9 ∧ V = V9) := by
  have hJ0 : JR D b N cl [] V V := JR.rf hW
  subst e09
  have hJ0 : JR D b N cl [] V V := JR.rf hW
  refine mw_of (by decide) (by simp [Value.category]) (Nat.le_of_ble_eq_true rfl) ?_
  show AW l D b jX12_isKeystone (fx_rm 2 0 0) none (fx_MQ D b 0 0 (fx_qi (fun r N9 V9 => ((r = 0 ∨ r = 1) ∧ ((KST kn p9 ∧ r = 1) ∨ (¬ KST kn p9 ∧ r = 0))) ∧ N = N9 ∧ V = V9))) 0 [some (.ref (b + 100)), some (.int (nI p9)), none] [] N V 0 0
  refine aw_iconst (v := 0) dX12_isKeystone_0 (by decide) ?_
  refine aw_istore_n (ls' := [some (.ref (b + 100)), some (.int (nI p9)), some (.int 0)]) dX12_isKeystone_1 (Nat.le_of_ble_eq_true rfl) rfl ?_
  have loop_2_0 : ∀ (g_2 : Nat), ∀ (j2 : Nat), j2 + g_2 = 12 → (∀ a, a < j2 → ¬ (a ≠ p9 ∧ (kn p9).testBit a = true ∧ (clo kn 4095 (2 ^ p9) &&& no p9) ≠ clo kn (no p9) (2 ^ a))) → AW l D b jX12_isKeystone (fx_rm 2 0 0) none (fx_MQ D b 0 0 (fx_qi (fun r N9 V9 => ((r = 0 ∨ r = 1) ∧ ((KST kn p9 ∧ r = 1) ∨ (¬ KST kn p9 ∧ r = 0))) ∧ N = N9 ∧ V = V9))) 2 [some (.ref (b + 100)), some (.int (nI p9)), some (.int (nI j2))] [] N V 0 0 := by
    intro g_2
    induction g_2 with
    | zero =>
      intro j2  hj2 i2_0
      obtain rfl : j2 = 12 := by omega
      refine aw_iload_n dX12_isKeystone_2 rfl ?_
      refine aw_bipush (v := 12) dX12_isKeystone_3 (by decide) ?_
      refine aw_icmp_ge (tgt := 57) dX12_isKeystone_5 (by decide) (fun c_3 => ?_) (fun c_3 => ?_)
      rotate_left
      · exact absurd (nI_le (a := 12) (b := 12) (Nat.le_refl _) (by omega)) c_3
      refine aw_iconst (v := 0) dX12_isKeystone_57 (by decide) ?_
      refine aw_zreti dX12_isKeystone_58 rfl (by first | exact Or.inl rfl | exact Or.inr rfl | assumption) (Nat.le_of_ble_eq_true rfl) (Nat.le_of_ble_eq_true rfl) ?_
      exact ⟨⟨(by first | exact Or.inl rfl | exact Or.inr rfl | assumption), Or.inr ⟨fun z => (by obtain ⟨a, h1, h2⟩ := z; exact i2_0 a h1 h2), rfl⟩⟩, rfl, rfl⟩
    | succ g_2 ih_2_1 =>
      intro j2  hj2 i2_0
      have hlj2 : j2 < 12 := by omega
      refine aw_iload_n dX12_isKeystone_2 rfl ?_
      refine aw_bipush (v := 12) dX12_isKeystone_3 (by decide) ?_
      refine aw_icmp_ge (tgt := 57) dX12_isKeystone_5 (by decide) (fun c_4 => ?_) (fun c_4 => ?_)
      · exact absurd c_4 (nI_ge (a := j2) (b := 12) (by omega) (by omega))
      refine aw_iload_n dX12_isKeystone_8 rfl ?_
      refine aw_iload_n dX12_isKeystone_9 rfl ?_
      refine aw_icmp_eq (tgt := 51) dX12_isKeystone_10 (by decide) (fun c_5 => ?_) (fun c_5 => ?_)
      · skip
        have nc_5 : j2 = p9 := (nI_eq (a := j2) (b := p9) (by omega) (by omega)).mp c_5
        refine aw_iinc (v := (nI (j2 + 1))) (ls' := [some (.ref (b + 100)), some (.int (nI p9)), some (.int (nI (j2 + 1)))]) dX12_isKeystone_51 rfl (fx_up_1 _) (Nat.le_of_ble_eq_true rfl) rfl ?_
        refine aw_goto (tgt := 2) dX12_isKeystone_54 (by decide) ?_
        have hq9 : j2 = p9 := by first | omega | exact (nI_eq (by omega) (by omega)).mp c_5
        refine aw_le ?_ (ih_2_1 (j2 + 1)   (by omega) (it_lt i2_0 (fun z => z.1 hq9)))
        exact ⟨rfl, ⟨rfl, ⟨rfl, trivial⟩⟩⟩
      · skip
        have nc_5 : ¬ (j2 = p9) := fun z => c_5 ((nI_eq (a := j2) (b := p9) (by omega) (by omega)).mpr z)
        refine aw_aload_n dX12_isKeystone_13 rfl ?_
        obtain ⟨ftoldPeople_6, ftoldDoors_6, fwasDoors_6, ffault_6, fopen_6, flines_6, fmeantSet_6, fopenedNow_6, fvainNow_6, flowNow_6, fhighNow_6, fisKept_6, tad_6, pl0_6, le0_6, nu0_6, coy_6, wag_6, say_6, e_6, hntad_6, hnpl0_6, hnle0_6, hnnu0_6, hncoy_6, hnwag_6, hnsay_6⟩ := JR.get hJ0 cm_100
        refine aw_get dX12_isKeystone_14 fl_X12_19 e_6 (by omega) rfl ?_
        refine aw_iload_n dX12_isKeystone_17 rfl ?_
        obtain ⟨g_7, e_7, p_7⟩ := JR.get hJ0 cm_104
        refine aw_iald (v := (g_7 p9)) dX12_isKeystone_18 e_7 (by omega) (vp_in_nI (n := p9) (by omega) (by omega)) (congrArg g_7 (nI_clamp (n := p9) (by omega))) ?_
        have hkp9 := (hk p9 hp9).1
        refine aw_eqi (y := nI (kn p9)) (((congrArg (fun z => fI z p9) e_7).symm.trans (hk p9 hp9).2)) ?_
        refine aw_iload_n dX12_isKeystone_19 rfl ?_
        refine aw_callSi (J' := jX12_has) (As := [.int (nI (kn p9)), .int (nI j2)]) (st := []) dX12_isKeystone_20 tb_1315 ok_X12_has rfl (r_hasS l D b N V hN cl hJ0.1 (nI (kn p9)) (nI j2)) rfl (Nat.le_of_ble_eq_true rfl) ⟨Nat.le_of_ble_eq_true rfl, Nat.le_of_ble_eq_true rfl, Nat.le_of_ble_eq_true rfl, Nat.le_of_ble_eq_true rfl⟩ (fun r_11 N_12 V_13 q_14 => ?_)
        obtain ⟨⟨z_10, h_9⟩, rfl, rfl⟩ := q_14
        rcases h_9 with ⟨hy_15, e_16⟩ | ⟨hn_17, e_18⟩
        · skip
          refine aw_eqi (y := 1) e_16 ?_
          refine aw_if_eq (tgt := 51) dX12_isKeystone_23 (by decide) (fun c_19 => ?_) (fun c_19 => ?_)
          · exact absurd c_19 (by decide)
          refine aw_aload_n dX12_isKeystone_26 rfl ?_
          refine aw_iload_n dX12_isKeystone_27 rfl ?_
          refine aw_iconst (v := 0) dX12_isKeystone_28 (by decide) ?_
          refine aw_callVi (J' := jX12_groupOf) (As := [.int (nI p9), .int 0]) (st := []) dX12_isKeystone_29 tb_1544 ok_X12_groupOf ⟨_, e_6⟩ (by omega) rfl rfl (r_groupOfS l D b N V hN cl hJ0.1 (nI p9) 0 kn hk p9 4095 (by omega) rfl (fun x hx => fx_cm (x := x) (y := 0) hx)) rfl (Nat.le_of_ble_eq_true rfl) ⟨Nat.le_of_ble_eq_true rfl, Nat.le_of_ble_eq_true rfl, Nat.le_of_ble_eq_true rfl, Nat.le_of_ble_eq_true rfl⟩ (fun r_22 N_23 V_24 q_25 => ?_)
          obtain ⟨h_21, rfl, rfl⟩ := q_25
          refine aw_eqi (y := nI (clo kn 4095 (2 ^ p9))) h_21 ?_
          refine aw_iconst (v := 1) dX12_isKeystone_32 (by decide) ?_
          refine aw_iload_n dX12_isKeystone_33 rfl ?_
          refine aw_ishl dX12_isKeystone_34 ?_
          refine aw_eqi (y := (nI (2 ^ p9))) (fx_shl12 p9 (by omega)) ?_
          refine aw_iconst (v := (-1)) dX12_isKeystone_35 (by decide) ?_
          refine aw_ixor dX12_isKeystone_36 ?_
          refine aw_iand dX12_isKeystone_37 ?_
          refine aw_eqi (y := (nI (clo kn 4095 (2 ^ p9) &&& no p9))) (fx_cm (clo_lt (fun i hi => (hk i hi).1) (fx_pow12 hp9))) ?_
          refine aw_aload_n dX12_isKeystone_38 rfl ?_
          refine aw_iload_n dX12_isKeystone_39 rfl ?_
          refine aw_iconst (v := 1) dX12_isKeystone_40 (by decide) ?_
          refine aw_iload_n dX12_isKeystone_41 rfl ?_
          refine aw_ishl dX12_isKeystone_42 ?_
          refine aw_eqi (y := (nI (2 ^ p9))) (fx_shl12 p9 (by omega)) ?_
          refine aw_callVi (J' := jX12_groupOf) (As := [.int (nI j2), .int (nI (2 ^ p9))]) (st := [.int (nI (clo kn 4095 (2 ^ p9) &&& no p9))]) dX12_isKeystone_43 tb_1544 ok_X12_groupOf ⟨_, e_6⟩ (by omega) rfl rfl (r_groupOfS l D b N V hN cl hJ0.1 (nI j2) (nI (2 ^ p9)) kn hk j2 (no p9) (by omega) rfl (fun x hx => fx_cm hx)) rfl (Nat.le_of_ble_eq_true rfl) ⟨Nat.le_of_ble_eq_true rfl, Nat.le_of_ble_eq_true rfl, Nat.le_of_ble_eq_true rfl, Nat.le_of_ble_eq_true rfl⟩ (fun r_28 N_29 V_30 q_31 => ?_)
          obtain ⟨h_27, rfl, rfl⟩ := q_31
          refine aw_eqi (y := nI (clo kn (no p9) (2 ^ j2))) h_27 ?_
          have hxa : (clo kn 4095 (2 ^ p9) &&& no p9) < 4096 := Nat.lt_of_le_of_lt Nat.and_le_left (clo_lt (fun i hi => (hk i hi).1) (fx_pow12 hp9))
          have hxb : (clo kn (no p9) (2 ^ j2)) < 4096 := clo_lt (fun i hi => (hk i hi).1) (fx_pow12 (by omega))
          refine aw_icmp_eq (tgt := 51) dX12_isKeystone_46 (by decide) (fun c_32 => ?_) (fun c_32 => ?_)
          · skip
            have nc_32 : (clo kn 4095 (2 ^ p9) &&& no p9) = (clo kn (no p9) (2 ^ j2)) := (nI_eq (a := (clo kn 4095 (2 ^ p9) &&& no p9)) (b := (clo kn (no p9) (2 ^ j2))) (by omega) (by omega)).mp c_32
            refine aw_iinc (v := (nI (j2 + 1))) (ls' := [some (.ref (b + 100)), some (.int (nI p9)), some (.int (nI (j2 + 1)))]) dX12_isKeystone_51 rfl (fx_up_1 _) (Nat.le_of_ble_eq_true rfl) rfl ?_
            refine aw_goto (tgt := 2) dX12_isKeystone_54 (by decide) ?_
            refine aw_le ?_ (ih_2_1 (j2 + 1)   (by omega) (it_lt i2_0 (fun z => z.2.2 ((nI_eq (by omega) (by omega)).mp c_32))))
            exact ⟨rfl, ⟨rfl, ⟨rfl, trivial⟩⟩⟩
          · skip
            have nc_32 : ¬ ((clo kn 4095 (2 ^ p9) &&& no p9) = (clo kn (no p9) (2 ^ j2))) := fun z => c_32 ((nI_eq (a := (clo kn 4095 (2 ^ p9) &&& no p9)) (b := (clo kn (no p9) (2 ^ j2))) (by omega) (by omega)).mpr z)
            refine aw_iconst (v := 1) dX12_isKeystone_49 (by decide) ?_
            refine aw_zreti dX12_isKeystone_50 rfl (by first | exact Or.inl rfl | exact Or.inr rfl | assumption) (Nat.le_of_ble_eq_true rfl) (Nat.le_of_ble_eq_true rfl) ?_
            exact ⟨⟨(by first | exact Or.inl rfl | exact Or.inr rfl | assumption), Or.inl ⟨⟨j2, by omega, by first | omega | exact fun e => c_5 (congrArg nI e), bt_it rfl hkp9 (by omega) hy_15, fun e => c_32 (congrArg nI e)⟩, rfl⟩⟩, rfl, rfl⟩
        · skip
          refine aw_eqi (y := 0) e_18 ?_
          refine aw_if_eq (tgt := 51) dX12_isKeystone_23 (by decide) (fun c_33 => ?_) (fun c_33 => ?_)
          rotate_left
          · exact absurd (by decide) c_33
          refine aw_iinc (v := (nI (j2 + 1))) (ls' := [some (.ref (b + 100)), some (.int (nI p9)), some (.int (nI (j2 + 1)))]) dX12_isKeystone_51 rfl (fx_up_1 _) (Nat.le_of_ble_eq_true rfl) rfl ?_
          refine aw_goto (tgt := 2) dX12_isKeystone_54 (by decide) ?_
          refine aw_le ?_ (ih_2_1 (j2 + 1)   (by omega) (it_lt i2_0 (fun z => bool_tf z.2.1 (bt_it rfl hkp9 (by omega) hn_17))))
          exact ⟨rfl, ⟨rfl, ⟨rfl, trivial⟩⟩⟩
  refine aw_le ?_ (loop_2_0 12 0   (by omega) (fun i h => absurd h (Nat.not_lt_zero i)))
  exact ⟨rfl, ⟨rfl, ⟨rfl, trivial⟩⟩⟩

set_option maxHeartbeats 4000000 in
set_option maxRecDepth 100000 in
theorem r_keystonesS (l : Launch) (D : va_G) (b : Nat) (N : Nat) (V : Wd) (hN : 133 ≤ N) (cl : Nat) (hW : CR D b cl V)  (kn : Nat → Nat) (hk : ∀ i, i < 12 → kn i < 4096 ∧ fI (V 104) i = nI (kn i)) (Pn : Nat) (hPn : Pn < 4096 ∧ fI (V 100) 9 = nI Pn) : MI l D b 3 jX12_keystones [.ref (b + 100)] N V 0 0 (fun r N9 V9 => (HLD kn Pn 12 r) ∧ N = N9 ∧ V = V9) := by
  have hJ0 : JR D b N cl [] V V := JR.rf hW
  refine mw_of (by decide) (by simp [Value.category]) (Nat.le_of_ble_eq_true rfl) ?_
  show AW l D b jX12_keystones (fx_rm 3 0 0) none (fx_MQ D b 0 0 (fx_qi (fun r N9 V9 => (HLD kn Pn 12 r) ∧ N = N9 ∧ V = V9))) 0 [some (.ref (b + 100)), none, none] [] N V 0 0
  refine aw_iconst (v := 0) dX12_keystones_0 (by decide) ?_
  refine aw_istore_n (ls' := [some (.ref (b + 100)), some (.int 0), none]) dX12_keystones_1 (Nat.le_of_ble_eq_true rfl) rfl ?_
  refine aw_iconst (v := 0) dX12_keystones_2 (by decide) ?_
  refine aw_istore_n (ls' := [some (.ref (b + 100)), some (.int 0), some (.int 0)]) dX12_keystones_3 (Nat.le_of_ble_eq_true rfl) rfl ?_
  have loop_4_0 : ∀ (g_4 : Nat), ∀ (j4 : Nat) (v4_1 : Int32), j4 + g_4 = 12 → (HLD kn Pn j4 v4_1) → AW l D b jX12_keystones (fx_rm 3 0 0) none (fx_MQ D b 0 0 (fx_qi (fun r N9 V9 => (HLD kn Pn 12 r) ∧ N = N9 ∧ V = V9))) 4 [some (.ref (b + 100)), some (.int v4_1), some (.int (nI j4))] [] N V 0 0 := by
    intro g_4
    induction g_4 with
    | zero =>
      intro j4 v4_1 hj4 i4_0
      obtain rfl : j4 = 12 := by omega
      refine aw_iload_n dX12_keystones_4 rfl ?_
      refine aw_bipush (v := 12) dX12_keystones_5 (by decide) ?_
      refine aw_icmp_ge (tgt := 38) dX12_keystones_7 (by decide) (fun c_3 => ?_) (fun c_3 => ?_)
      rotate_left
      · exact absurd (nI_le (a := 12) (b := 12) (Nat.le_refl _) (by omega)) c_3
      refine aw_iload_n dX12_keystones_38 rfl ?_
      refine aw_ireti dX12_keystones_39 rfl (Nat.le_of_ble_eq_true rfl) (Nat.le_of_ble_eq_true rfl) ?_
      exact ⟨i4_0, rfl, rfl⟩
    | succ g_4 ih_4_1 =>
      intro j4 v4_1 hj4 i4_0
      have hlj4 : j4 < 12 := by omega
      refine aw_iload_n dX12_keystones_4 rfl ?_
      refine aw_bipush (v := 12) dX12_keystones_5 (by decide) ?_
      refine aw_icmp_ge (tgt := 38) dX12_keystones_7 (by decide) (fun c_4 => ?_) (fun c_4 => ?_)
      · exact absurd c_4 (nI_ge (a := j4) (b := 12) (by omega) (by omega))
      refine aw_aload_n dX12_keystones_10 rfl ?_
      refine aw_iload_n dX12_keystones_11 rfl ?_
      obtain ⟨ftoldPeople_8, ftoldDoors_8, fwasDoors_8, ffault_8, fopen_8, flines_8, fmeantSet_8, fopenedNow_8, fvainNow_8, flowNow_8, fhighNow_8, fisKept_8, tad_8, pl0_8, le0_8, nu0_8, coy_8, wag_8, say_8, e_8, hntad_8, hnpl0_8, hnle0_8, hnnu0_8, hncoy_8, hnwag_8, hnsay_8⟩ := JR.get hJ0 cm_100
      refine aw_callVi (J' := jX12_isTold) (As := [.int (nI j4)]) (st := []) dX12_keystones_12 tb_1351 ok_X12_isTold ⟨_, e_8⟩ (by omega) rfl rfl (r_isToldS l D b N V hN cl hJ0.1 (nI j4) (nI Pn) hPn.2) rfl (Nat.le_of_ble_eq_true rfl) ⟨Nat.le_of_ble_eq_true rfl, Nat.le_of_ble_eq_true rfl, Nat.le_of_ble_eq_true rfl, Nat.le_of_ble_eq_true rfl⟩ (fun r_9 N_10 V_11 q_12 => ?_)
      obtain ⟨⟨z_7, h_6⟩, rfl, rfl⟩ := q_12
      rcases h_6 with ⟨hy_13, e_14⟩ | ⟨hn_15, e_16⟩
      · skip
        refine aw_eqi (y := 1) e_14 ?_
        have hlhy_13 := told_lt (by omega) hy_13
        refine aw_if_eq (tgt := 32) dX12_keystones_15 (by decide) (fun c_17 => ?_) (fun c_17 => ?_)
        · exact absurd c_17 (by decide)
        refine aw_aload_n dX12_keystones_18 rfl ?_
        refine aw_iload_n dX12_keystones_19 rfl ?_
        refine aw_callVi (J' := jX12_isKeystone) (As := [.int (nI j4)]) (st := []) dX12_keystones_20 tb_1540 ok_X12_isKeystone ⟨_, e_8⟩ (by omega) rfl rfl (r_isKeystoneS l D b N V hN cl hJ0.1 (nI j4) kn hk j4 (by omega) rfl) rfl (Nat.le_of_ble_eq_true rfl) ⟨Nat.le_of_ble_eq_true rfl, Nat.le_of_ble_eq_true rfl, Nat.le_of_ble_eq_true rfl, Nat.le_of_ble_eq_true rfl⟩ (fun r_21 N_22 V_23 q_24 => ?_)
        obtain ⟨⟨z_20, h_19⟩, rfl, rfl⟩ := q_24
        rcases h_19 with ⟨hy_25, e_26⟩ | ⟨hn_27, e_28⟩
        · skip
          refine aw_eqi (y := 1) e_26 ?_
          refine aw_if_eq (tgt := 32) dX12_keystones_23 (by decide) (fun c_29 => ?_) (fun c_29 => ?_)
          · exact absurd c_29 (by decide)
          refine aw_iload_n dX12_keystones_26 rfl ?_
          refine aw_iconst (v := 1) dX12_keystones_27 (by decide) ?_
          refine aw_iload_n dX12_keystones_28 rfl ?_
          refine aw_ishl dX12_keystones_29 ?_
          refine aw_eqi (y := (nI (2 ^ j4))) (fx_shl12 j4 (by omega)) ?_
          refine aw_ior dX12_keystones_30 ?_
          refine aw_istore_n (ls' := [some (.ref (b + 100)), some (.int (v4_1 ||| (nI (2 ^ j4)))), some (.int (nI j4))]) dX12_keystones_31 (Nat.le_of_ble_eq_true rfl) rfl ?_
          refine aw_iinc (v := (nI (j4 + 1))) (ls' := [some (.ref (b + 100)), some (.int (v4_1 ||| (nI (2 ^ j4)))), some (.int (nI (j4 + 1)))]) dX12_keystones_32 rfl (fx_up_1 _) (Nat.le_of_ble_eq_true rfl) rfl ?_
          refine aw_goto (tgt := 4) dX12_keystones_35 (by decide) ?_
          refine aw_le ?_ (ih_4_1 (j4 + 1) (v4_1 ||| (nI (2 ^ j4)))  (by omega) (i4_0.yes (by omega) ((told_bit hPn.1 (by omega)).symm.trans hy_13) hy_25))
          exact ⟨rfl, ⟨rfl, ⟨rfl, trivial⟩⟩⟩
        · skip
          refine aw_eqi (y := 0) e_28 ?_
          refine aw_if_eq (tgt := 32) dX12_keystones_23 (by decide) (fun c_30 => ?_) (fun c_30 => ?_)
          rotate_left
          · exact absurd (by decide) c_30
          refine aw_iinc (v := (nI (j4 + 1))) (ls' := [some (.ref (b + 100)), some (.int v4_1), some (.int (nI (j4 + 1)))]) dX12_keystones_32 rfl (fx_up_1 _) (Nat.le_of_ble_eq_true rfl) rfl ?_
          refine aw_goto (tgt := 4) dX12_keystones_35 (by decide) ?_
          refine aw_le ?_ (ih_4_1 (j4 + 1) v4_1  (by omega) (i4_0.no (fun z => hn_27 z.2)))
          exact ⟨rfl, ⟨rfl, ⟨rfl, trivial⟩⟩⟩
      · skip
        refine aw_eqi (y := 0) e_16 ?_
        refine aw_if_eq (tgt := 32) dX12_keystones_15 (by decide) (fun c_31 => ?_) (fun c_31 => ?_)
        rotate_left
        · exact absurd (by decide) c_31
        refine aw_iinc (v := (nI (j4 + 1))) (ls' := [some (.ref (b + 100)), some (.int v4_1), some (.int (nI (j4 + 1)))]) dX12_keystones_32 rfl (fx_up_1 _) (Nat.le_of_ble_eq_true rfl) rfl ?_
        refine aw_goto (tgt := 4) dX12_keystones_35 (by decide) ?_
        refine aw_le ?_ (ih_4_1 (j4 + 1) v4_1  (by omega) (i4_0.no (fun z => bool_tf z.1 ((told_bit hPn.1 (by omega)).symm.trans hn_15))))
        exact ⟨rfl, ⟨rfl, ⟨rfl, trivial⟩⟩⟩
  refine aw_le ?_ (loop_4_0 12 0 0  (by omega) (HLD.zero))
  exact ⟨rfl, ⟨rfl, ⟨rfl, trivial⟩⟩⟩

