set_option maxHeartbeats 4000000 in
set_option maxRecDepth 100000 in
theorem r_changesOrder (l : Launch) (D : va_G) (b : Nat) (N : Nat) (V : Wd) (hN : 133 ≤ N) (cl : Nat) (hW : CR D b cl V) (n0 : Int32) (n1 : Int32) (a c : Nat) (ha : a < 6) (hc : c < 6) (o : Nat → Int32) (ho : V 129 = cI D 6 o) (hk : ∀ i, i < 6 → ∃ k : Nat, k < 6 ∧ o i = nI k) : MV l D b 0 jX12_changesOrder [.ref (b + 100), .int (nI a), .int (nI c)] N V 0 0 (fun N9 V9 => (V9 129 = cI D 6 (upd (upd o a (o c)) c (o a)) ∧ ∀ i, i ≠ 129 → V9 i = V i) ∧ N = N9 ∧ JR D b N cl [(129, 129, 0, 1000000)] V V9) := by
  have hJ0 : JR D b N cl [(129, 129, 0, 1000000)] V V := JR.rf hW
  refine mw_of (by decide) (by simp [Value.category]) (Nat.le_of_ble_eq_true rfl) ?_
  show AW l D b jX12_changesOrder (fx_rm 0 0 0) none (fx_MQ D b 0 0 (fx_qv (fun N9 V9 => (V9 129 = cI D 6 (upd (upd o a (o c)) c (o a)) ∧ ∀ i, i ≠ 129 → V9 i = V i) ∧ N = N9 ∧ JR D b N cl [(129, 129, 0, 1000000)] V V9))) 0 [some (.ref (b + 100)), some (.int (nI a)), some (.int (nI c)), none] [] N V 0 0
  refine aw_aload_n dX12_changesOrder_0 rfl ?_
  obtain ⟨ftoldPeople_1, ftoldDoors_1, fwasDoors_1, ffault_1, fopen_1, flines_1, fmeantSet_1, fopenedNow_1, fvainNow_1, flowNow_1, fhighNow_1, fisKept_1, tad_1, pl0_1, le0_1, nu0_1, coy_1, wag_1, say_1, e_1, hntad_1, hnpl0_1, hnle0_1, hnnu0_1, hncoy_1, hnwag_1, hnsay_1⟩ := JR.get hJ0 cm_100
  refine aw_get dX12_changesOrder_1 fl_X12_96 e_1 (by omega) rfl ?_
  refine aw_iload_n dX12_changesOrder_4 rfl ?_
  refine aw_iald (v := (o a)) dX12_changesOrder_5 ho (by omega) (vp_in_nI (n := a) (by omega) (by omega)) (congrArg o (nI_clamp (n := a) (by omega))) ?_
  refine aw_istore_n (ls' := [some (.ref (b + 100)), some (.int (nI a)), some (.int (nI c)), some (.int (o a))]) dX12_changesOrder_6 (Nat.le_of_ble_eq_true rfl) rfl ?_
  refine aw_aload_n dX12_changesOrder_7 rfl ?_
  refine aw_get dX12_changesOrder_8 fl_X12_96 e_1 (by omega) rfl ?_
  refine aw_iload_n dX12_changesOrder_11 rfl ?_
  refine aw_aload_n dX12_changesOrder_12 rfl ?_
  refine aw_get dX12_changesOrder_13 fl_X12_96 e_1 (by omega) rfl ?_
  refine aw_iload_n dX12_changesOrder_16 rfl ?_
  refine aw_iald (v := (o c)) dX12_changesOrder_17 ho (by omega) (vp_in_nI (n := c) (by omega) (by omega)) (congrArg o (nI_clamp (n := c) (by omega))) ?_
  refine aw_iast dX12_changesOrder_18 ho (by omega) (vp_in_nI (n := a) (by omega) (by omega)) ?_
  have np_3 : ∀ j, j < 6 → (fun v => ∃ k : Nat, k < 6 ∧ v = nI k) ((upd o a (o c)) j) := isP_upd (P := (fun v => ∃ k : Nat, k < 6 ∧ v = nI k)) hk (hk _ (by omega))
  refine aw_upR hJ0 cm_129 ⟨_, rfl, by rw [nI_clamp (n := a) (by omega)]; exact np_3⟩ (by decide) (WA LM0 (by decide) (by decide)) (fun V_2 j_2 k_2 e_2 => ?_)
  have e_4 : V_2 129 = cI D 6 (upd o a (o c)) := by rw [e_2, nI_clamp (n := a) (by omega)]
  refine aw_aload_n dX12_changesOrder_19 rfl ?_
  refine aw_get dX12_changesOrder_20 fl_X12_96 ((k_2 _ (by decide)).trans e_1) (by omega) rfl ?_
  refine aw_iload_n dX12_changesOrder_23 rfl ?_
  refine aw_iload_n dX12_changesOrder_24 rfl ?_
  refine aw_iast dX12_changesOrder_25 e_4 (by omega) (vp_in_nI (n := c) (by omega) (by omega)) ?_
  have np_6 : ∀ j, j < 6 → (fun v => ∃ k : Nat, k < 6 ∧ v = nI k) ((upd (upd o a (o c)) c (o a)) j) := isP_upd (P := (fun v => ∃ k : Nat, k < 6 ∧ v = nI k)) np_3 (hk _ (by omega))
  refine aw_upR j_2 cm_129 ⟨_, rfl, by rw [nI_clamp (n := c) (by omega)]; exact np_6⟩ (by decide) (WA LM0 (by decide) (by decide)) (fun V_5 j_5 k_5 e_5 => ?_)
  have e_7 : V_5 129 = cI D 6 (upd (upd o a (o c)) c (o a)) := by rw [e_5, nI_clamp (n := c) (by omega)]
  refine aw_vreti dX12_changesOrder_26 rfl (Nat.le_of_ble_eq_true rfl) (Nat.le_of_ble_eq_true rfl) ?_
  exact ⟨⟨e_7, fun i h129 => (k_5 i h129).trans (k_2 i h129)⟩, rfl, j_5⟩

set_option maxHeartbeats 20000000 in
set_option maxRecDepth 100000 in
theorem r_nextOrder (l : Launch) (D : va_G) (b : Nat) (N : Nat) (V : Wd) (hN : 133 ≤ N) (cl : Nat) (hW : CR D b cl V) (n0 : Int32) (n : Nat) (h3 : 3 ≤ n) (h6 : n ≤ 6) (o : Nat → Int32) (q : Nat → Nat) (ho : V 129 = cI D 6 o) (hOP : OP n o q) : MI l D b 1 jX12_nextOrder [.ref (b + 100), .int (nI n)] N V 0 0 (fun r N9 V9 => ((r = 0 ∨ r = 1) ∧ ((∀ i, i ≠ 129 → V9 i = V i) ∧ (r = 0 ∨ ∃ (o9 : Nat → Int32) (q9 : Nat → Nat), V9 129 = cI D 6 o9 ∧ OP n o9 q9 ∧ (oval q n < oval q9 n ∧ oval q9 n ≤ 262144)))) ∧ N = N9 ∧ JR D b N cl [(129, 129, 0, 1000000)] V V9) := by
  have hJ0 : JR D b N cl [(129, 129, 0, 1000000)] V V := JR.rf hW
  refine mw_of (by decide) (by simp [Value.category]) (Nat.le_of_ble_eq_true rfl) ?_
  show AW l D b jX12_nextOrder (fx_rm 1 0 0) none (fx_MQ D b 0 0 (fx_qi (fun r N9 V9 => ((r = 0 ∨ r = 1) ∧ ((∀ i, i ≠ 129 → V9 i = V i) ∧ (r = 0 ∨ ∃ (o9 : Nat → Int32) (q9 : Nat → Nat), V9 129 = cI D 6 o9 ∧ OP n o9 q9 ∧ (oval q n < oval q9 n ∧ oval q9 n ≤ 262144)))) ∧ N = N9 ∧ JR D b N cl [(129, 129, 0, 1000000)] V V9))) 0 [some (.ref (b + 100)), some (.int (nI n)), none, none, none, none] [] N V 0 0
  refine aw_iload_n dX12_nextOrder_0 rfl ?_
  refine aw_iconst (v := 2) dX12_nextOrder_1 (by decide) ?_
  refine aw_isub dX12_nextOrder_2 ?_
  refine aw_eqi (y := (fx_dn (n - 1))) (fx_dn_st (by omega)) ?_
  refine aw_istore_n (ls' := [some (.ref (b + 100)), some (.int (nI n)), some (.int (fx_dn (n - 1))), none, none, none]) dX12_nextOrder_3 (Nat.le_of_ble_eq_true rfl) rfl ?_
  have ml_4_1 : ∀ (m : Nat) (i4 : Nat), m = i4 → (i4 ≤ n - 1) → AW l D b jX12_nextOrder (fx_rm 1 0 0) none (fx_MQ D b 0 0 (fx_qi (fun r N9 V9 => ((r = 0 ∨ r = 1) ∧ ((∀ i, i ≠ 129 → V9 i = V i) ∧ (r = 0 ∨ ∃ (o9 : Nat → Int32) (q9 : Nat → Nat), V9 129 = cI D 6 o9 ∧ OP n o9 q9 ∧ (oval q n < oval q9 n ∧ oval q9 n ≤ 262144)))) ∧ N = N9 ∧ JR D b N cl [(129, 129, 0, 1000000)] V V9))) 4 [some (.ref (b + 100)), some (.int (nI n)), some (.int (fx_dn i4)), none, none, none] [] N V 0 0 := by
    intro m; refine Nat.strongRecOn m ?_
    intro m mih_4_1 i4 hm4 i4_0
    refine aw_iload_n dX12_nextOrder_4 rfl ?_
    refine aw_if_lt (tgt := 32) dX12_nextOrder_5 (by decide) (fun c_2 => ?_) (fun c_2 => ?_)
    · skip
      refine aw_iload_n dX12_nextOrder_32 rfl ?_
      refine aw_if_ge (tgt := 38) dX12_nextOrder_33 (by decide) (fun c_3 => ?_) (fun c_3 => ?_)
      · first | exact absurd c_3 c_2 | exact absurd c_2 c_3 | exact absurd c_3 (Int32.not_lt.mpr c_2) | exact absurd c_2 (Int32.not_lt.mpr c_3) | exact c_2 (Int32.not_lt.mp c_3) | exact c_2 (Int32.not_le.mp c_3)
      refine aw_iconst (v := 0) dX12_nextOrder_36 (by decide) ?_
      refine aw_zreti dX12_nextOrder_37 rfl (by first | exact Or.inl rfl | exact Or.inr rfl | assumption) (Nat.le_of_ble_eq_true rfl) (Nat.le_of_ble_eq_true rfl) ?_
      exact ⟨⟨(by first | exact Or.inl rfl | exact Or.inr rfl | assumption), ⟨fun i h129 => rfl, Or.inl rfl⟩⟩, rfl, hJ0⟩
    · skip
      obtain ⟨mo, rfl⟩ := fx_dn_pos c_2
      show AW l D b jX12_nextOrder (fx_rm 1 0 0) none (fx_MQ D b 0 0 (fx_qi (fun r N9 V9 => ((r = 0 ∨ r = 1) ∧ ((∀ i, i ≠ 129 → V9 i = V i) ∧ (r = 0 ∨ ∃ (o9 : Nat → Int32) (q9 : Nat → Nat), V9 129 = cI D 6 o9 ∧ OP n o9 q9 ∧ (oval q n < oval q9 n ∧ oval q9 n ≤ 262144)))) ∧ N = N9 ∧ JR D b N cl [(129, 129, 0, 1000000)] V V9))) 8 [some (.ref (b + 100)), some (.int (nI n)), some (.int (nI mo)), none, none, none] [] N V 0 0
      refine aw_aload_n dX12_nextOrder_8 rfl ?_
      obtain ⟨ftoldPeople_4, ftoldDoors_4, fwasDoors_4, ffault_4, fopen_4, flines_4, fmeantSet_4, fopenedNow_4, fvainNow_4, flowNow_4, fhighNow_4, fisKept_4, tad_4, pl0_4, le0_4, nu0_4, coy_4, wag_4, say_4, e_4, hntad_4, hnpl0_4, hnle0_4, hnnu0_4, hncoy_4, hnwag_4, hnsay_4⟩ := JR.get hJ0 cm_100
      refine aw_get dX12_nextOrder_9 fl_X12_96 e_4 (by omega) rfl ?_
      refine aw_iload_n dX12_nextOrder_12 rfl ?_
      refine aw_iald (v := (o mo)) dX12_nextOrder_13 ho (by omega) (vp_in_nI (n := mo) (by omega) (by omega)) (congrArg o (nI_clamp (n := mo) (by omega))) ?_
      have hlq_4 := (hOP.1 mo (by omega)).2
      refine aw_eqi ((hOP.1 mo (by omega)).1) ?_
      refine aw_aload_n dX12_nextOrder_14 rfl ?_
      refine aw_get dX12_nextOrder_15 fl_X12_96 e_4 (by omega) rfl ?_
      refine aw_iload_n dX12_nextOrder_18 rfl ?_
      refine aw_iconst (v := 1) dX12_nextOrder_19 (by decide) ?_
      refine aw_iadd dX12_nextOrder_20 ?_
      refine aw_eqi (y := nI (mo + 1)) (nI_add _ _) ?_
      refine aw_iald (v := (o (mo + 1))) dX12_nextOrder_21 ho (by omega) (vp_in_nI (n := (mo + 1)) (by omega) (by omega)) (congrArg o (nI_clamp (n := (mo + 1)) (by omega))) ?_
      have hlq_5 := (hOP.1 (mo + 1) (by omega)).2
      refine aw_eqi ((hOP.1 (mo + 1) (by omega)).1) ?_
      refine aw_icmp_le (tgt := 32) dX12_nextOrder_22 (by decide) (fun c_7 => ?_) (fun c_7 => ?_)
      · skip
        have nc_7 : (q mo) ≤ (q (mo + 1)) := (nI_leI (a := (q mo)) (b := (q (mo + 1))) (by omega) (by omega)).mp c_7
        refine aw_iload_n dX12_nextOrder_32 rfl ?_
        refine aw_if_ge (tgt := 38) dX12_nextOrder_33 (by decide) (fun c_8 => ?_) (fun c_8 => ?_)
        · skip
          have nc_8 : 0 ≤ mo := (nI_leI (a := 0) (b := mo) (by omega) (by omega)).mp c_8
          refine aw_iload_n dX12_nextOrder_38 rfl ?_
          refine aw_iconst (v := 1) dX12_nextOrder_39 (by decide) ?_
          refine aw_isub dX12_nextOrder_40 ?_
          refine aw_eqi (y := (nI (n - 1))) (pk_sub (a := n) (b := 1) (by omega)) ?_
          refine aw_istore_n (ls' := [some (.ref (b + 100)), some (.int (nI n)), some (.int (nI mo)), some (.int (nI (n - 1))), none, none]) dX12_nextOrder_41 (Nat.le_of_ble_eq_true rfl) rfl ?_
          have ml_42_9 : ∀ (m : Nat) (j42 : Nat), m = j42 → (mo + 1 ≤ j42 ∧ j42 ≤ n - 1) → AW l D b jX12_nextOrder (fx_rm 1 0 0) none (fx_MQ D b 0 0 (fx_qi (fun r N9 V9 => ((r = 0 ∨ r = 1) ∧ ((∀ i, i ≠ 129 → V9 i = V i) ∧ (r = 0 ∨ ∃ (o9 : Nat → Int32) (q9 : Nat → Nat), V9 129 = cI D 6 o9 ∧ OP n o9 q9 ∧ (oval q n < oval q9 n ∧ oval q9 n ≤ 262144)))) ∧ N = N9 ∧ JR D b N cl [(129, 129, 0, 1000000)] V V9))) 42 [some (.ref (b + 100)), some (.int (nI n)), some (.int (nI mo)), some (.int (nI j42)), none, none] [] N V 0 0 := by
            intro m; refine Nat.strongRecOn m ?_
            intro m mih_42_9 j42 hm42 i42_0
            refine aw_aload_n dX12_nextOrder_42 rfl ?_
            refine aw_get dX12_nextOrder_43 fl_X12_96 e_4 (by omega) rfl ?_
            refine aw_iload_n dX12_nextOrder_46 rfl ?_
            refine aw_iald (v := (o j42)) dX12_nextOrder_47 ho (by omega) (vp_in_nI (n := j42) (by omega) (by omega)) (congrArg o (nI_clamp (n := j42) (by omega))) ?_
            have hlq_9 := (hOP.1 j42 (by omega)).2
            refine aw_eqi ((hOP.1 j42 (by omega)).1) ?_
            refine aw_aload_n dX12_nextOrder_48 rfl ?_
            refine aw_get dX12_nextOrder_49 fl_X12_96 e_4 (by omega) rfl ?_
            refine aw_iload_n dX12_nextOrder_52 rfl ?_
            refine aw_iald (v := (o mo)) dX12_nextOrder_53 ho (by omega) (vp_in_nI (n := mo) (by omega) (by omega)) (congrArg o (nI_clamp (n := mo) (by omega))) ?_
            have hlq_10 := (hOP.1 mo (by omega)).2
            refine aw_eqi ((hOP.1 mo (by omega)).1) ?_
            refine aw_icmp_ge (tgt := 64) dX12_nextOrder_54 (by decide) (fun c_12 => ?_) (fun c_12 => ?_)
            · skip
              have nc_12 : (q mo) ≤ (q j42) := (nI_leI (a := (q mo)) (b := (q j42)) (by omega) (by omega)).mp c_12
              have hne : q mo ≠ q j42 := fun e => by have := hOP.2 mo j42 (by omega) (by omega) e; omega
              refine aw_aload_n dX12_nextOrder_64 rfl ?_
              refine aw_iload_n dX12_nextOrder_65 rfl ?_
              refine aw_iload_n dX12_nextOrder_66 rfl ?_
              refine aw_callVv (J' := jX12_changesOrder) (As := [.int (nI mo), .int (nI j42)]) (st := []) dX12_nextOrder_67 tb_1584 ok_X12_changesOrder ⟨_, e_4⟩ (by omega) rfl rfl (r_changesOrder l D b N V hN cl hJ0.1 (nI mo) (nI j42) mo j42 (by omega) (by omega) o ho (by obtain ⟨g9, e9, p9⟩ := JR.get hJ0 cm_129; have e8 := (ho).symm.trans e9; have e7 := cI_inj e8; intro i hi; rw [e7 i]; exact p9 i hi)) rfl (Nat.le_of_ble_eq_true rfl) ⟨Nat.le_of_ble_eq_true rfl, Nat.le_of_ble_eq_true rfl, Nat.le_of_ble_eq_true rfl, Nat.le_of_ble_eq_true rfl⟩ (fun  N_19 V_16 q_20 => ?_)
              obtain ⟨h_14, rfl, q_13⟩ := q_20
              have j_15 := JR.trans hJ0 (JR.weak q_13 (Sub.cons LM0 (by decide) (by decide) (by decide) (Or.inl rfl) Sub.nil))
              obtain ⟨hC_17, hF_18⟩ := h_14
              have hO1 := hOP.swap (a := mo) (c := j42) (by omega) (by omega)
              have hs1 : ∀ k, k < mo → sw q mo j42 k = q k := fun k hk => sw_lt (by omega) (by omega)
              have hs2 : q mo < sw q mo j42 mo := by unfold sw; rw [if_neg (by omega), if_pos rfl]; omega
              refine aw_iload_n dX12_nextOrder_70 rfl ?_
              refine aw_iconst (v := 1) dX12_nextOrder_71 (by decide) ?_
              refine aw_iadd dX12_nextOrder_72 ?_
              refine aw_eqi (y := nI (mo + 1)) (nI_add _ _) ?_
              refine aw_istore (ls' := [some (.ref (b + 100)), some (.int (nI n)), some (.int (nI mo)), some (.int (nI j42)), some (.int (nI (mo + 1))), none]) dX12_nextOrder_73 (Nat.le_of_ble_eq_true rfl) rfl ?_
              refine aw_iload_n dX12_nextOrder_75 rfl ?_
              refine aw_iconst (v := 1) dX12_nextOrder_76 (by decide) ?_
              refine aw_isub dX12_nextOrder_77 ?_
              refine aw_eqi (y := (nI (n - 1))) (pk_sub (a := n) (b := 1) (by omega)) ?_
              refine aw_istore (ls' := [some (.ref (b + 100)), some (.int (nI n)), some (.int (nI mo)), some (.int (nI j42)), some (.int (nI (mo + 1))), some (.int (nI (n - 1)))]) dX12_nextOrder_78 (Nat.le_of_ble_eq_true rfl) rfl ?_
              have ml_80_21 : ∀ (m : Nat) (a80 : Nat) (b80 : Nat) (o80 : Nat → Int32) (q80 : Nat → Nat) (V80 : Wd), m = b80 - a80 → (JR D b N cl [(129, 129, 0, 1000000)] V V80) → (V80 129 = cI D 6 o80) → (OP n o80 q80) → (a80 ≤ n ∧ mo + 1 ≤ a80 ∧ b80 ≤ n - 1) → (∀ k, k < mo → q80 k = q k) → (q mo < q80 mo) → (∀ i, i ≠ 129 → V80 i = V i) → AW l D b jX12_nextOrder (fx_rm 1 0 0) none (fx_MQ D b 0 0 (fx_qi (fun r N9 V9 => ((r = 0 ∨ r = 1) ∧ ((∀ i, i ≠ 129 → V9 i = V i) ∧ (r = 0 ∨ ∃ (o9 : Nat → Int32) (q9 : Nat → Nat), V9 129 = cI D 6 o9 ∧ OP n o9 q9 ∧ (oval q n < oval q9 n ∧ oval q9 n ≤ 262144)))) ∧ N = N9 ∧ JR D b N cl [(129, 129, 0, 1000000)] V V9))) 80 [some (.ref (b + 100)), some (.int (nI n)), some (.int (nI mo)), some (.int (nI j42)), some (.int (nI a80)), some (.int (nI b80))] [] N V80 0 0 := by
                intro m; refine Nat.strongRecOn m ?_
                intro m mih_80_21 a80 b80 o80 q80 V80 hm80 i80_0 i80_1 i80_2 i80_3 i80_4 i80_5 i80_6
                refine aw_iload dX12_nextOrder_80 rfl ?_
                refine aw_iload dX12_nextOrder_82 rfl ?_
                refine aw_icmp_ge (tgt := 104) dX12_nextOrder_84 (by decide) (fun c_22 => ?_) (fun c_22 => ?_)
                · skip
                  have nc_22 : b80 ≤ a80 := (nI_leI (a := b80) (b := a80) (by omega) (by omega)).mp c_22
                  refine aw_iconst (v := 1) dX12_nextOrder_104 (by decide) ?_
                  refine aw_zreti dX12_nextOrder_105 rfl (by first | exact Or.inl rfl | exact Or.inr rfl | assumption) (Nat.le_of_ble_eq_true rfl) (Nat.le_of_ble_eq_true rfl) ?_
                  exact ⟨⟨(by first | exact Or.inl rfl | exact Or.inr rfl | assumption), ⟨fun i h129 => i80_6 i h129, Or.inr ⟨_, q80, i80_1, i80_2, oval_inc h3 h6 (i := mo) (fun k hk => (hOP.1 k hk).2) (fun k hk => (i80_2.1 k hk).2) (by omega) i80_4 i80_5⟩⟩⟩, rfl, i80_0⟩
                · skip
                  have nc_22 : ¬ (b80 ≤ a80) := fun z => c_22 ((nI_leI (a := b80) (b := a80) (by omega) (by omega)).mpr z)
                  refine aw_aload_n dX12_nextOrder_87 rfl ?_
                  refine aw_iload dX12_nextOrder_88 rfl ?_
                  refine aw_iload dX12_nextOrder_90 rfl ?_
                  obtain ⟨ftoldPeople_29, ftoldDoors_29, fwasDoors_29, ffault_29, fopen_29, flines_29, fmeantSet_29, fopenedNow_29, fvainNow_29, flowNow_29, fhighNow_29, fisKept_29, tad_29, pl0_29, le0_29, nu0_29, coy_29, wag_29, say_29, e_29, hntad_29, hnpl0_29, hnle0_29, hnnu0_29, hncoy_29, hnwag_29, hnsay_29⟩ := JR.get i80_0 cm_100
                  refine aw_callVv (J' := jX12_changesOrder) (As := [.int (nI a80), .int (nI b80)]) (st := []) dX12_nextOrder_92 tb_1584 ok_X12_changesOrder ⟨_, e_29⟩ (by omega) rfl rfl (r_changesOrder l D b N V80 hN cl i80_0.1 (nI a80) (nI b80) a80 b80 (by omega) (by omega) o80 i80_1 (by obtain ⟨g9, e9, p9⟩ := JR.get i80_0 cm_129; have e8 := (i80_1).symm.trans e9; have e7 := cI_inj e8; intro i hi; rw [e7 i]; exact p9 i hi)) rfl (Nat.le_of_ble_eq_true rfl) ⟨Nat.le_of_ble_eq_true rfl, Nat.le_of_ble_eq_true rfl, Nat.le_of_ble_eq_true rfl, Nat.le_of_ble_eq_true rfl⟩ (fun  N_30 V_26 q_31 => ?_)
                  obtain ⟨h_24, rfl, q_23⟩ := q_31
                  have j_25 := JR.trans i80_0 (JR.weak q_23 (Sub.cons LM0 (by decide) (by decide) (by decide) (Or.inl rfl) Sub.nil))
                  obtain ⟨hC_27, hF_28⟩ := h_24
                  have hO2 := i80_2.swap (a := a80) (c := b80) (by omega) (by omega)
                  have hs3 : ∀ k, k < mo → sw q80 a80 b80 k = q k := fun k hk => (sw_lt (by omega) (by omega)).trans (i80_4 k hk)
                  have hs4 : q mo < sw q80 a80 b80 mo := by rw [sw_lt (by omega) (by omega)]; exact i80_5
                  refine aw_iinc (v := (nI (a80 + 1))) (ls' := [some (.ref (b + 100)), some (.int (nI n)), some (.int (nI mo)), some (.int (nI j42)), some (.int (nI (a80 + 1))), some (.int (nI b80))]) dX12_nextOrder_95 rfl (fx_up_1 _) (Nat.le_of_ble_eq_true rfl) rfl ?_
                  refine aw_iinc (v := (nI (b80 - 1))) (ls' := [some (.ref (b + 100)), some (.int (nI n)), some (.int (nI mo)), some (.int (nI j42)), some (.int (nI (a80 + 1))), some (.int (nI (b80 - 1)))]) dX12_nextOrder_98 rfl (fx_i1 (by omega)) (Nat.le_of_ble_eq_true rfl) rfl ?_
                  refine aw_goto (tgt := 80) dX12_nextOrder_101 (by decide) ?_
                  refine aw_le ?_ (mih_80_21 _ (by omega) (a80 + 1) (b80 - 1) (upd (upd o80 a80 (o80 b80)) b80 (o80 a80)) (sw q80 a80 b80) V_26 rfl (j_25) (hC_27) (hO2) (⟨by omega, by omega, by omega⟩) (hs3) (hs4) ((fun i h129 => (hF_28 i h129).trans (i80_6 i h129))))
                  exact ⟨rfl, ⟨rfl, ⟨rfl, ⟨rfl, ⟨rfl, ⟨rfl, trivial⟩⟩⟩⟩⟩⟩
              refine aw_le ?_ (ml_80_21 _ (mo + 1) (n - 1) (upd (upd o mo (o j42)) j42 (o mo)) (sw q mo j42) V_16 rfl (j_15) (hC_17) (hO1) (⟨by omega, by omega, by omega⟩) (hs1) (hs2) ((fun i h129 => hF_18 i h129)))
              exact ⟨rfl, ⟨rfl, ⟨rfl, ⟨rfl, ⟨rfl, ⟨rfl, trivial⟩⟩⟩⟩⟩⟩
            · skip
              have nc_12 : ¬ ((q mo) ≤ (q j42)) := fun z => c_12 ((nI_leI (a := (q mo)) (b := (q j42)) (by omega) (by omega)).mpr z)
              have hjm : j42 ≠ mo + 1 := fun e => by rw [e] at nc_12; omega
              refine aw_iload_n dX12_nextOrder_57 rfl ?_
              refine aw_iconst (v := 1) dX12_nextOrder_58 (by decide) ?_
              refine aw_isub dX12_nextOrder_59 ?_
              refine aw_eqi (y := (nI (j42 - 1))) (pk_sub (a := j42) (b := 1) (by omega)) ?_
              refine aw_istore_n (ls' := [some (.ref (b + 100)), some (.int (nI n)), some (.int (nI mo)), some (.int (nI (j42 - 1))), none, none]) dX12_nextOrder_60 (Nat.le_of_ble_eq_true rfl) rfl ?_
              refine aw_goto (tgt := 42) dX12_nextOrder_61 (by decide) ?_
              refine aw_le ?_ (mih_42_9 _ (by omega) (j42 - 1) rfl (⟨by omega, by omega⟩))
              exact ⟨rfl, ⟨rfl, ⟨rfl, ⟨rfl, trivial⟩⟩⟩⟩
          refine aw_le ?_ (ml_42_9 _ (n - 1) rfl (⟨by omega, by omega⟩))
          exact ⟨rfl, ⟨rfl, ⟨rfl, ⟨rfl, trivial⟩⟩⟩⟩
        · skip
          have nc_8 : ¬ (0 ≤ mo) := fun z => c_8 ((nI_leI (a := 0) (b := mo) (by omega) (by omega)).mpr z)
          refine aw_iconst (v := 0) dX12_nextOrder_36 (by decide) ?_
          refine aw_zreti dX12_nextOrder_37 rfl (by first | exact Or.inl rfl | exact Or.inr rfl | assumption) (Nat.le_of_ble_eq_true rfl) (Nat.le_of_ble_eq_true rfl) ?_
          exact ⟨⟨(by first | exact Or.inl rfl | exact Or.inr rfl | assumption), ⟨fun i h129 => rfl, Or.inl rfl⟩⟩, rfl, hJ0⟩
      · skip
        have nc_7 : ¬ ((q mo) ≤ (q (mo + 1))) := fun z => c_7 ((nI_leI (a := (q mo)) (b := (q (mo + 1))) (by omega) (by omega)).mpr z)
        refine aw_iload_n dX12_nextOrder_25 rfl ?_
        refine aw_iconst (v := 1) dX12_nextOrder_26 (by decide) ?_
        refine aw_isub dX12_nextOrder_27 ?_
        refine aw_eqi (y := (fx_dn mo)) (fx_dn_sub mo) ?_
        refine aw_istore_n (ls' := [some (.ref (b + 100)), some (.int (nI n)), some (.int (fx_dn mo)), none, none, none]) dX12_nextOrder_28 (Nat.le_of_ble_eq_true rfl) rfl ?_
        refine aw_goto (tgt := 4) dX12_nextOrder_29 (by decide) ?_
        refine aw_le ?_ (mih_4_1 _ (by omega) mo rfl (by omega))
        exact ⟨rfl, ⟨rfl, ⟨rfl, trivial⟩⟩⟩
  refine aw_le ?_ (ml_4_1 _ (n - 1) rfl (by omega))
  exact ⟨rfl, ⟨rfl, ⟨rfl, trivial⟩⟩⟩

set_option maxHeartbeats 4000000 in
set_option maxRecDepth 100000 in
theorem r_canStand (l : Launch) (D : va_G) (b : Nat) (N : Nat) (V : Wd) (hN : 133 ≤ N) (cl : Nat) (hW : CR D b cl V) (n0 : Int32) (n : Nat) (h3 : 3 ≤ n) (h6 : n ≤ 6) (o : Nat → Int32) (q : Nat → Nat) (ho : V 129 = cI D 6 o) (hOP : OP n o q) (g : Nat → Int32) (hg : V 110 = cB D 260 g) (hT : TQ g n) : MI l D b 3 jX12_canStand [.ref (b + 100), .int (nI n)] N V 0 0 (fun r N9 V9 => (r = 0 ∨ r = 1) ∧ N = N9 ∧ V = V9) := by
  have hJ0 : JR D b N cl [] V V := JR.rf hW
  refine mw_of (by decide) (by simp [Value.category]) (Nat.le_of_ble_eq_true rfl) ?_
  show AW l D b jX12_canStand (fx_rm 3 0 0) none (fx_MQ D b 0 0 (fx_qi (fun r N9 V9 => (r = 0 ∨ r = 1) ∧ N = N9 ∧ V = V9))) 0 [some (.ref (b + 100)), some (.int (nI n)), none, none] [] N V 0 0
  refine aw_iconst (v := 0) dX12_canStand_0 (by decide) ?_
  refine aw_istore_n (ls' := [some (.ref (b + 100)), some (.int (nI n)), some (.int 0), none]) dX12_canStand_1 (Nat.le_of_ble_eq_true rfl) rfl ?_
  have loop_2_0 : ∀ (g_2 : Nat), ∀ (j2 : Nat), j2 + g_2 = n → AW l D b jX12_canStand (fx_rm 3 0 0) none (fx_MQ D b 0 0 (fx_qi (fun r N9 V9 => (r = 0 ∨ r = 1) ∧ N = N9 ∧ V = V9))) 2 [some (.ref (b + 100)), some (.int (nI n)), some (.int (nI j2)), none] [] N V 0 0 := by
    intro g_2
    induction g_2 with
    | zero =>
      intro j2  hj2
      obtain rfl : n = j2 := by omega
      refine aw_iload_n dX12_canStand_2 rfl ?_
      refine aw_iload_n dX12_canStand_3 rfl ?_
      refine aw_icmp_ge (tgt := 57) dX12_canStand_4 (by decide) (fun c_3 => ?_) (fun c_3 => ?_)
      rotate_left
      · exact absurd (nI_le (a := n) (b := n) (Nat.le_refl _) (by omega)) c_3
      refine aw_iconst (v := 1) dX12_canStand_57 (by decide) ?_
      refine aw_zreti dX12_canStand_58 rfl (by first | exact Or.inl rfl | exact Or.inr rfl | assumption) (Nat.le_of_ble_eq_true rfl) (Nat.le_of_ble_eq_true rfl) ?_
      exact ⟨(by first | exact Or.inl rfl | exact Or.inr rfl | assumption), rfl, rfl⟩
    | succ g_2 ih_2_1 =>
      intro j2  hj2
      have hlj2 : j2 < n := by omega
      refine aw_iload_n dX12_canStand_2 rfl ?_
      refine aw_iload_n dX12_canStand_3 rfl ?_
      refine aw_icmp_ge (tgt := 57) dX12_canStand_4 (by decide) (fun c_4 => ?_) (fun c_4 => ?_)
      · exact absurd c_4 (nI_ge (a := j2) (b := n) (by omega) (by omega))
      refine aw_aload_n dX12_canStand_7 rfl ?_
      refine aw_aload_n dX12_canStand_8 rfl ?_
      refine aw_aload_n dX12_canStand_9 rfl ?_
      obtain ⟨ftoldPeople_5, ftoldDoors_5, fwasDoors_5, ffault_5, fopen_5, flines_5, fmeantSet_5, fopenedNow_5, fvainNow_5, flowNow_5, fhighNow_5, fisKept_5, tad_5, pl0_5, le0_5, nu0_5, coy_5, wag_5, say_5, e_5, hntad_5, hnpl0_5, hnle0_5, hnnu0_5, hncoy_5, hnwag_5, hnsay_5⟩ := JR.get hJ0 cm_100
      refine aw_get dX12_canStand_10 fl_X12_96 e_5 (by omega) rfl ?_
      refine aw_iload_n dX12_canStand_13 rfl ?_
      refine aw_iald (v := (o j2)) dX12_canStand_14 ho (by omega) (vp_in_nI (n := j2) (by omega) (by omega)) (congrArg o (nI_clamp (n := j2) (by omega))) ?_
      have hlq_5 := (hOP.1 j2 (by omega)).2
      refine aw_eqi ((hOP.1 j2 (by omega)).1) ?_
      refine aw_callVi (J' := jX12_octet) (As := [.int (nI (q j2))]) (st := [.ref (b + 100)]) dX12_canStand_15 tb_1556 ok_X12_octet ⟨_, e_5⟩ (by omega) rfl rfl (r_octetG l D b N V hN cl hJ0.1 (nI (q j2)) ⟨(q j2), by omega, rfl⟩ g hg) rfl (Nat.le_of_ble_eq_true rfl) ⟨Nat.le_of_ble_eq_true rfl, Nat.le_of_ble_eq_true rfl, Nat.le_of_ble_eq_true rfl, Nat.le_of_ble_eq_true rfl⟩ (fun r_10 N_11 V_12 q_13 => ?_)
      obtain ⟨h_8, rfl, rfl⟩ := q_13
      obtain ⟨z_9, hz_9, ez_9⟩ := hT (q j2) (by omega)
      refine aw_eqi (y := nI z_9) (h_8.trans (by rw [nI_clamp (n := (q j2)) (by omega)]; exact ez_9)) ?_
      refine aw_callVi (J' := jX12_fearOf) (As := [.int (nI z_9)]) (st := []) dX12_canStand_18 tb_1430 ok_X12_fearOf ⟨_, e_5⟩ (by omega) rfl rfl (r_fearOf l D b N V hN cl hJ0.1 (nI z_9) ⟨z_9, by omega, rfl⟩) rfl (Nat.le_of_ble_eq_true rfl) ⟨Nat.le_of_ble_eq_true rfl, Nat.le_of_ble_eq_true rfl, Nat.le_of_ble_eq_true rfl, Nat.le_of_ble_eq_true rfl⟩ (fun r_16 N_17 V_18 q_19 => ?_)
      obtain ⟨h_15, rfl, rfl⟩ := q_19
      refine aw_istore_n (ls' := [some (.ref (b + 100)), some (.int (nI n)), some (.int (nI j2)), some (.int r_16)]) dX12_canStand_21 (Nat.le_of_ble_eq_true rfl) rfl ?_
      refine aw_iload_n dX12_canStand_22 rfl ?_
      refine aw_iconst (v := (-1)) dX12_canStand_23 (by decide) ?_
      refine aw_icmp_eq (tgt := 51) dX12_canStand_24 (by decide) (fun c_20 => ?_) (fun c_20 => ?_)
      · skip
        refine aw_iinc (v := (nI (j2 + 1))) (ls' := [some (.ref (b + 100)), some (.int (nI n)), some (.int (nI (j2 + 1))), some (.int r_16)]) dX12_canStand_51 rfl (fx_up_1 _) (Nat.le_of_ble_eq_true rfl) rfl ?_
        refine aw_goto (tgt := 2) dX12_canStand_54 (by decide) ?_
        refine aw_le ?_ (ih_2_1 (j2 + 1)   (by omega))
        exact ⟨rfl, ⟨rfl, ⟨rfl, trivial⟩⟩⟩
      · skip
        refine aw_iload_n dX12_canStand_27 rfl ?_
        refine aw_aload_n dX12_canStand_28 rfl ?_
        refine aw_aload_n dX12_canStand_29 rfl ?_
        refine aw_aload_n dX12_canStand_30 rfl ?_
        refine aw_get dX12_canStand_31 fl_X12_96 e_5 (by omega) rfl ?_
        have hmod := Nat.mod_lt (j2 + 1) (show 0 < n by omega)
        refine aw_iload_n dX12_canStand_34 rfl ?_
        refine aw_iconst (v := 1) dX12_canStand_35 (by decide) ?_
        refine aw_iadd dX12_canStand_36 ?_
        refine aw_eqi (y := nI (j2 + 1)) (nI_add _ _) ?_
        refine aw_iload_n dX12_canStand_37 rfl ?_
        refine aw_irem dX12_canStand_38 (fun e => by have := (nI_eq (a := n) (b := 0) (by omega) (by decide)).mp e; omega) ?_
        refine aw_eqi (y := (nI ((j2 + 1) % n))) (pk_rem (by omega) (by omega) (by omega)) ?_
        refine aw_iald (v := (o ((j2 + 1) % n))) dX12_canStand_39 ho (by omega) (vp_in_nI (n := ((j2 + 1) % n)) (by omega) (by omega)) (congrArg o (nI_clamp (n := ((j2 + 1) % n)) (by omega))) ?_
        have hlq_20 := (hOP.1 ((j2 + 1) % n) (by omega)).2
        refine aw_eqi ((hOP.1 ((j2 + 1) % n) (by omega)).1) ?_
        refine aw_callVi (J' := jX12_octet) (As := [.int (nI (q ((j2 + 1) % n)))]) (st := [.ref (b + 100), .int r_16]) dX12_canStand_40 tb_1556 ok_X12_octet ⟨_, e_5⟩ (by omega) rfl rfl (r_octetG l D b N V hN cl hJ0.1 (nI (q ((j2 + 1) % n))) ⟨(q ((j2 + 1) % n)), by omega, rfl⟩ g hg) rfl (Nat.le_of_ble_eq_true rfl) ⟨Nat.le_of_ble_eq_true rfl, Nat.le_of_ble_eq_true rfl, Nat.le_of_ble_eq_true rfl, Nat.le_of_ble_eq_true rfl⟩ (fun r_25 N_26 V_27 q_28 => ?_)
        obtain ⟨h_23, rfl, rfl⟩ := q_28
        obtain ⟨z_24, hz_24, ez_24⟩ := hT (q ((j2 + 1) % n)) (by omega)
        refine aw_eqi (y := nI z_24) (h_23.trans (by rw [nI_clamp (n := (q ((j2 + 1) % n))) (by omega)]; exact ez_24)) ?_
        refine aw_callVi (J' := jX12_fearOf) (As := [.int (nI z_24)]) (st := [.int r_16]) dX12_canStand_43 tb_1430 ok_X12_fearOf ⟨_, e_5⟩ (by omega) rfl rfl (r_fearOf l D b N V hN cl hJ0.1 (nI z_24) ⟨z_24, by omega, rfl⟩) rfl (Nat.le_of_ble_eq_true rfl) ⟨Nat.le_of_ble_eq_true rfl, Nat.le_of_ble_eq_true rfl, Nat.le_of_ble_eq_true rfl, Nat.le_of_ble_eq_true rfl⟩ (fun r_31 N_32 V_33 q_34 => ?_)
        obtain ⟨h_30, rfl, rfl⟩ := q_34
        refine aw_icmp_ne (tgt := 51) dX12_canStand_46 (by decide) (fun c_35 => ?_) (fun c_35 => ?_)
        · skip
          refine aw_iinc (v := (nI (j2 + 1))) (ls' := [some (.ref (b + 100)), some (.int (nI n)), some (.int (nI (j2 + 1))), some (.int r_16)]) dX12_canStand_51 rfl (fx_up_1 _) (Nat.le_of_ble_eq_true rfl) rfl ?_
          refine aw_goto (tgt := 2) dX12_canStand_54 (by decide) ?_
          refine aw_le ?_ (ih_2_1 (j2 + 1)   (by omega))
          exact ⟨rfl, ⟨rfl, ⟨rfl, trivial⟩⟩⟩
        · skip
          refine aw_iconst (v := 0) dX12_canStand_49 (by decide) ?_
          refine aw_zreti dX12_canStand_50 rfl (by first | exact Or.inl rfl | exact Or.inr rfl | assumption) (Nat.le_of_ble_eq_true rfl) (Nat.le_of_ble_eq_true rfl) ?_
          exact ⟨(by first | exact Or.inl rfl | exact Or.inr rfl | assumption), rfl, rfl⟩
  refine aw_le ?_ (loop_2_0 n 0   (by omega))
  exact ⟨rfl, ⟨rfl, ⟨rfl, trivial⟩⟩⟩

set_option maxHeartbeats 20000000 in
set_option maxRecDepth 100000 in
theorem r_guards (l : Launch) (D : va_G) (b : Nat) (N : Nat) (V : Wd) (hN : 133 ≤ N) (cl : Nat) (hW : CR D b cl V) (n0 : Int32)  : MI l D b 4 jX12_guards [.ref (b + 100), .int n0] N V 0 0 (fun r N9 V9 => N = N9 ∧ JR D b N cl [(129, 129, 0, 1000000), (100, 100, 13, 13)] V V9) := by
  have hJ0 : JR D b N cl [(129, 129, 0, 1000000), (100, 100, 13, 13)] V V := JR.rf hW
  refine mw_of (by decide) (by simp [Value.category]) (Nat.le_of_ble_eq_true rfl) ?_
  show AW l D b jX12_guards (fx_rm 4 0 0) none (fx_MQ D b 0 0 (fx_qi (fun r N9 V9 => N = N9 ∧ JR D b N cl [(129, 129, 0, 1000000), (100, 100, 13, 13)] V V9))) 0 [some (.ref (b + 100)), some (.int n0), none, none, none] [] N V 0 0
  refine aw_iload_n dX12_guards_0 rfl ?_
  refine aw_iconst (v := 3) dX12_guards_1 (by decide) ?_
  refine aw_bipush (v := 6) dX12_guards_2 (by decide) ?_
  refine aw_callSi (J' := jX12_in) (As := [.int n0, .int 3, .int 6]) (st := []) dX12_guards_4 tb_1209 ok_X12_in rfl (r_in l D b N V hN cl hJ0.1 n0 3 6) rfl (Nat.le_of_ble_eq_true rfl) ⟨Nat.le_of_ble_eq_true rfl, Nat.le_of_ble_eq_true rfl, Nat.le_of_ble_eq_true rfl, Nat.le_of_ble_eq_true rfl⟩ (fun r_4 N_5 V_6 q_7 => ?_)
  obtain ⟨⟨z_3, h_2⟩, rfl, rfl⟩ := q_7
  refine aw_if_eq (tgt := 18) dX12_guards_7 (by decide) (fun c_8 => ?_) (fun c_8 => ?_)
  · skip
    refine aw_iconst (v := (-1)) dX12_guards_18 (by decide) ?_
    refine aw_ireti dX12_guards_19 rfl (Nat.le_of_ble_eq_true rfl) (Nat.le_of_ble_eq_true rfl) ?_
    exact ⟨rfl, hJ0⟩
  · skip
    obtain ⟨zn0, h0zn0, hzn0, rfl⟩ := in_nat (a := 3) (b := 6) (by decide) (h_2.resolve_left c_8)
    refine aw_iload_n dX12_guards_10 rfl ?_
    refine aw_aload_n dX12_guards_11 rfl ?_
    obtain ⟨ftoldPeople_9, ftoldDoors_9, fwasDoors_9, ffault_9, fopen_9, flines_9, fmeantSet_9, fopenedNow_9, fvainNow_9, flowNow_9, fhighNow_9, fisKept_9, tad_9, pl0_9, le0_9, nu0_9, coy_9, wag_9, say_9, e_9, hntad_9, hnpl0_9, hnle0_9, hnnu0_9, hncoy_9, hnwag_9, hnsay_9⟩ := JR.get hJ0 cm_100
    refine aw_get dX12_guards_12 fl_X12_152 e_9 (by omega) rfl ?_
    refine aw_icmp_le (tgt := 20) dX12_guards_15 (by decide) (fun c_10 => ?_) (fun c_10 => ?_)
    · skip
      have nc_10 : zn0 ≤ tad_9 := (nI_leI (a := zn0) (b := tad_9) (by omega) (by omega)).mp c_10
      refine aw_aload_n dX12_guards_20 rfl ?_
      refine aw_iconst (v := 0) dX12_guards_21 (by decide) ?_
      refine aw_put dX12_guards_22 fp_X12_152 e_9 (by omega) rfl rfl (Nat.le_of_ble_eq_true rfl) rfl ?_
      refine aw_upR hJ0 cm_100 ⟨_, _, _, _, _, _, _, _, _, _, _, _, 0, pl0_9, le0_9, nu0_9, coy_9, wag_9, say_9, rfl, by omega, by omega, by omega, by omega, by omega, by omega, by omega⟩ (by decide) (WO (s := 13) (x := .int 0) e_9 rfl (LMs LM0) (by decide) (by decide) (by decide) (Or.inl (by decide))) (fun V_11 j_11 k_11 e_11 => ?_)
      obtain ⟨g_12, e_12⟩ := JR.get j_11 cm_110
      refine aw_iconst (v := 0) dX12_guards_25 (by decide) ?_
      refine aw_istore_n (ls' := [some (.ref (b + 100)), some (.int (nI zn0)), some (.int 0), none, none]) dX12_guards_26 (Nat.le_of_ble_eq_true rfl) rfl ?_
      refine aw_iconst (v := 0) dX12_guards_27 (by decide) ?_
      refine aw_istore_n (ls' := [some (.ref (b + 100)), some (.int (nI zn0)), some (.int 0), some (.int 0), none]) dX12_guards_28 (Nat.le_of_ble_eq_true rfl) rfl ?_
      have loop_29_12 : ∀ (g_29 : Nat), ∀ (j29 : Nat) (v29_2 : Int32) (V29 : Wd), j29 + g_29 = zn0 → (∃ o, V29 129 = cI D 6 o ∧ ∀ i, i < j29 → o i = nI i) → (TQ g_12 j29) → (JR D b N cl [(129, 129, 0, 1000000), (100, 100, 13, 13)] V V29) → (V29 110 = cB D 260 g_12) → AW l D b jX12_guards (fx_rm 4 0 0) none (fx_MQ D b 0 0 (fx_qi (fun r N9 V9 => N = N9 ∧ JR D b N cl [(129, 129, 0, 1000000), (100, 100, 13, 13)] V V9))) 29 [some (.ref (b + 100)), some (.int (nI zn0)), some (.int v29_2), some (.int (nI j29)), none] [] N V29 0 0 := by
        intro g_29
        induction g_29 with
        | zero =>
          intro j29 v29_2 V29 hj29 i29_0 i29_1 i29_2 i29_3
          obtain rfl : zn0 = j29 := by omega
          refine aw_iload_n dX12_guards_29 rfl ?_
          refine aw_iload_n dX12_guards_30 rfl ?_
          refine aw_icmp_ge (tgt := 82) dX12_guards_31 (by decide) (fun c_15 => ?_) (fun c_15 => ?_)
          rotate_left
          · exact absurd (nI_le (a := zn0) (b := zn0) (Nat.le_refl _) (by omega)) c_15
          refine aw_iconst (v := 0) dX12_guards_82 (by decide) ?_
          refine aw_istore_n (ls' := [some (.ref (b + 100)), some (.int (nI zn0)), some (.int v29_2), some (.int 0), none]) dX12_guards_83 (Nat.le_of_ble_eq_true rfl) rfl ?_
          obtain ⟨o0, e0, ho0⟩ := i29_0
          have hO0 : OP zn0 o0 (fun i => i) := ⟨fun i hi => ⟨ho0 i hi, hi⟩, fun i j _ _ e => e⟩
          refine aw_iconst (v := 1) dX12_guards_84 (by decide) ?_
          refine aw_istore (ls' := [some (.ref (b + 100)), some (.int (nI zn0)), some (.int v29_2), some (.int 0), some (.int 1)]) dX12_guards_85 (Nat.le_of_ble_eq_true rfl) rfl ?_
          have ml_87_16 : ∀ (m : Nat) (mv87 : Nat) (v87_3 : Int32) (v87_4 : Int32) (V87 : Wd), m = (if v87_4 = 0 then 0 else 1 + (262144 - mv87)) → (JR D b N cl [(129, 129, 0, 1000000), (100, 100, 13, 13)] V V87) → (v87_4 = 0 ∨ ∃ (o : Nat → Int32) (q : Nat → Nat), V87 129 = cI D 6 o ∧ OP zn0 o q ∧ oval q zn0 = mv87) → (V87 110 = cB D 260 g_12) → AW l D b jX12_guards (fx_rm 4 0 0) none (fx_MQ D b 0 0 (fx_qi (fun r N9 V9 => N = N9 ∧ JR D b N cl [(129, 129, 0, 1000000), (100, 100, 13, 13)] V V9))) 87 [some (.ref (b + 100)), some (.int (nI zn0)), some (.int v29_2), some (.int v87_3), some (.int v87_4)] [] N V87 0 0 := by
            intro m; refine Nat.strongRecOn m ?_
            intro m mih_87_16 mv87 v87_3 v87_4 V87 hm87 i87_0 i87_1 i87_2
            refine aw_iload dX12_guards_87 rfl ?_
            refine aw_if_eq (tgt := 114) dX12_guards_89 (by decide) (fun c_17 => ?_) (fun c_17 => ?_)
            · skip
              refine aw_iload_n dX12_guards_114 rfl ?_
              refine aw_ireti dX12_guards_115 rfl (Nat.le_of_ble_eq_true rfl) (Nat.le_of_ble_eq_true rfl) ?_
              exact ⟨rfl, i87_0⟩
            · skip
              obtain ⟨o87, q87, e87, hO87, hv87⟩ := i87_1.resolve_left c_17
              refine aw_aload_n dX12_guards_92 rfl ?_
              refine aw_iload_n dX12_guards_93 rfl ?_
              obtain ⟨ftoldPeople_20, ftoldDoors_20, fwasDoors_20, ffault_20, fopen_20, flines_20, fmeantSet_20, fopenedNow_20, fvainNow_20, flowNow_20, fhighNow_20, fisKept_20, tad_20, pl0_20, le0_20, nu0_20, coy_20, wag_20, say_20, e_20, hntad_20, hnpl0_20, hnle0_20, hnnu0_20, hncoy_20, hnwag_20, hnsay_20⟩ := JR.get i87_0 cm_100
              refine aw_callVi (J' := jX12_canStand) (As := [.int (nI zn0)]) (st := []) dX12_guards_94 tb_1576 ok_X12_canStand ⟨_, e_20⟩ (by omega) rfl rfl (r_canStand l D b N V87 hN cl i87_0.1 (nI zn0) zn0 (by omega) (by omega) o87 q87 e87 hO87 g_12 i87_2 i29_1) rfl (Nat.le_of_ble_eq_true rfl) ⟨Nat.le_of_ble_eq_true rfl, Nat.le_of_ble_eq_true rfl, Nat.le_of_ble_eq_true rfl, Nat.le_of_ble_eq_true rfl⟩ (fun r_21 N_22 V_23 q_24 => ?_)
              obtain ⟨h_19, rfl, rfl⟩ := q_24
              refine aw_if_eq (tgt := 104) dX12_guards_97 (by decide) (fun c_25 => ?_) (fun c_25 => ?_)
              · skip
                refine aw_aload_n dX12_guards_104 rfl ?_
                refine aw_iload_n dX12_guards_105 rfl ?_
                refine aw_callVi (J' := jX12_nextOrder) (As := [.int (nI zn0)]) (st := []) dX12_guards_106 tb_1580 ok_X12_nextOrder ⟨_, e_20⟩ (by omega) rfl rfl (r_nextOrder l D b N V87 hN cl i87_0.1 (nI zn0) zn0 (by omega) (by omega) o87 q87 e87 hO87) rfl (Nat.le_of_ble_eq_true rfl) ⟨Nat.le_of_ble_eq_true rfl, Nat.le_of_ble_eq_true rfl, Nat.le_of_ble_eq_true rfl, Nat.le_of_ble_eq_true rfl⟩ (fun r_31 N_32 V_30 q_33 => ?_)
                obtain ⟨⟨z_28, h_27⟩, rfl, q_26⟩ := q_33
                have j_29 := JR.trans i87_0 (JR.weak q_26 (Sub.cons LM0 (by decide) (by decide) (by decide) (Or.inl rfl) Sub.nil))
                rcases h_27.2 with hz | hz
                · skip
                  refine aw_eqi (y := 0) hz ?_
                  refine aw_istore (ls' := [some (.ref (b + 100)), some (.int (nI zn0)), some (.int v29_2), some (.int v87_3), some (.int 0)]) dX12_guards_109 (Nat.le_of_ble_eq_true rfl) rfl ?_
                  refine aw_goto (tgt := 87) dX12_guards_111 (by decide) ?_
                  refine aw_le ?_ (mih_87_16 _ (by rw [hm87]; exact gl_dec c_17 (Or.inl rfl) (by decide)) 0 v87_3 0 V_30 rfl (j_29) (Or.inl rfl) (((h_27.1 _ (by decide)).trans i87_2)))
                  exact ⟨rfl, ⟨rfl, ⟨rfl, ⟨rfl, ⟨rfl, trivial⟩⟩⟩⟩⟩
                · skip
                  obtain ⟨o9_n_34, q9_n_34, e9_n_34, hO_n_34, hI_n_34⟩ := hz
                  refine aw_istore (ls' := [some (.ref (b + 100)), some (.int (nI zn0)), some (.int v29_2), some (.int v87_3), some (.int r_31)]) dX12_guards_109 (Nat.le_of_ble_eq_true rfl) rfl ?_
                  refine aw_goto (tgt := 87) dX12_guards_111 (by decide) ?_
                  refine aw_le ?_ (mih_87_16 _ (by rw [hm87]; exact gl_dec c_17 (Or.inr (by rw [← hv87]; exact hI_n_34.1)) hI_n_34.2) (oval q9_n_34 zn0) v87_3 r_31 V_30 rfl (j_29) (Or.inr ⟨_, q9_n_34, e9_n_34, hO_n_34, rfl⟩) (((h_27.1 _ (by decide)).trans i87_2)))
                  exact ⟨rfl, ⟨rfl, ⟨rfl, ⟨rfl, ⟨rfl, trivial⟩⟩⟩⟩⟩
              · skip
                refine aw_iload_n dX12_guards_100 rfl ?_
                refine aw_iconst (v := 1) dX12_guards_101 (by decide) ?_
                refine aw_iadd dX12_guards_102 ?_
                refine aw_istore_n (ls' := [some (.ref (b + 100)), some (.int (nI zn0)), some (.int v29_2), some (.int (v87_3 + 1)), some (.int v87_4)]) dX12_guards_103 (Nat.le_of_ble_eq_true rfl) rfl ?_
                refine aw_aload_n dX12_guards_104 rfl ?_
                refine aw_iload_n dX12_guards_105 rfl ?_
                refine aw_callVi (J' := jX12_nextOrder) (As := [.int (nI zn0)]) (st := []) dX12_guards_106 tb_1580 ok_X12_nextOrder ⟨_, e_20⟩ (by omega) rfl rfl (r_nextOrder l D b N V87 hN cl i87_0.1 (nI zn0) zn0 (by omega) (by omega) o87 q87 e87 hO87) rfl (Nat.le_of_ble_eq_true rfl) ⟨Nat.le_of_ble_eq_true rfl, Nat.le_of_ble_eq_true rfl, Nat.le_of_ble_eq_true rfl, Nat.le_of_ble_eq_true rfl⟩ (fun r_40 N_41 V_39 q_42 => ?_)
                obtain ⟨⟨z_37, h_36⟩, rfl, q_35⟩ := q_42
                have j_38 := JR.trans i87_0 (JR.weak q_35 (Sub.cons LM0 (by decide) (by decide) (by decide) (Or.inl rfl) Sub.nil))
                rcases h_36.2 with hz | hz
                · skip
                  refine aw_eqi (y := 0) hz ?_
                  refine aw_istore (ls' := [some (.ref (b + 100)), some (.int (nI zn0)), some (.int v29_2), some (.int (v87_3 + 1)), some (.int 0)]) dX12_guards_109 (Nat.le_of_ble_eq_true rfl) rfl ?_
                  refine aw_goto (tgt := 87) dX12_guards_111 (by decide) ?_
                  refine aw_le ?_ (mih_87_16 _ (by rw [hm87]; exact gl_dec c_17 (Or.inl rfl) (by decide)) 0 (v87_3 + 1) 0 V_39 rfl (j_38) (Or.inl rfl) (((h_36.1 _ (by decide)).trans i87_2)))
                  exact ⟨rfl, ⟨rfl, ⟨rfl, ⟨rfl, ⟨rfl, trivial⟩⟩⟩⟩⟩
                · skip
                  obtain ⟨o9_n_43, q9_n_43, e9_n_43, hO_n_43, hI_n_43⟩ := hz
                  refine aw_istore (ls' := [some (.ref (b + 100)), some (.int (nI zn0)), some (.int v29_2), some (.int (v87_3 + 1)), some (.int r_40)]) dX12_guards_109 (Nat.le_of_ble_eq_true rfl) rfl ?_
                  refine aw_goto (tgt := 87) dX12_guards_111 (by decide) ?_
                  refine aw_le ?_ (mih_87_16 _ (by rw [hm87]; exact gl_dec c_17 (Or.inr (by rw [← hv87]; exact hI_n_43.1)) hI_n_43.2) (oval q9_n_43 zn0) (v87_3 + 1) r_40 V_39 rfl (j_38) (Or.inr ⟨_, q9_n_43, e9_n_43, hO_n_43, rfl⟩) (((h_36.1 _ (by decide)).trans i87_2)))
                  exact ⟨rfl, ⟨rfl, ⟨rfl, ⟨rfl, ⟨rfl, trivial⟩⟩⟩⟩⟩
          refine aw_le ?_ (ml_87_16 _ (oval (fun i => i) zn0) 0 1 V29 rfl (i29_2) (Or.inr ⟨_, (fun i => i), e0, hO0, rfl⟩) (i29_3))
          exact ⟨rfl, ⟨rfl, ⟨rfl, ⟨rfl, ⟨rfl, trivial⟩⟩⟩⟩⟩
        | succ g_29 ih_29_13 =>
          intro j29 v29_2 V29 hj29 i29_0 i29_1 i29_2 i29_3
          have hlj29 : j29 < zn0 := by omega
          refine aw_iload_n dX12_guards_29 rfl ?_
          refine aw_iload_n dX12_guards_30 rfl ?_
          refine aw_icmp_ge (tgt := 82) dX12_guards_31 (by decide) (fun c_44 => ?_) (fun c_44 => ?_)
          · exact absurd c_44 (nI_ge (a := j29) (b := zn0) (by omega) (by omega))
          obtain ⟨o29, e129, ho29⟩ := i29_0
          obtain ⟨g9, e9, p9⟩ := JR.get i29_2 cm_129
          have hk29 : ∀ i, i < 6 → ∃ k : Nat, k < 6 ∧ o29 i = nI k := fun i hi => by rw [cI_inj (e129.symm.trans e9) i]; exact p9 i hi
          refine aw_aload_n dX12_guards_34 rfl ?_
          refine aw_iload_n dX12_guards_35 rfl ?_
          obtain ⟨ftoldPeople_47, ftoldDoors_47, fwasDoors_47, ffault_47, fopen_47, flines_47, fmeantSet_47, fopenedNow_47, fvainNow_47, flowNow_47, fhighNow_47, fisKept_47, tad_47, pl0_47, le0_47, nu0_47, coy_47, wag_47, say_47, e_47, hntad_47, hnpl0_47, hnle0_47, hnnu0_47, hncoy_47, hnwag_47, hnsay_47⟩ := JR.get i29_2 cm_100
          refine aw_callVi (J' := jX12_octet) (As := [.int (nI j29)]) (st := []) dX12_guards_36 tb_1556 ok_X12_octet ⟨_, e_47⟩ (by omega) rfl rfl (r_octetG l D b N V29 hN cl i29_2.1 (nI j29) ⟨j29, by omega, rfl⟩ g_12 i29_3) rfl (Nat.le_of_ble_eq_true rfl) ⟨Nat.le_of_ble_eq_true rfl, Nat.le_of_ble_eq_true rfl, Nat.le_of_ble_eq_true rfl, Nat.le_of_ble_eq_true rfl⟩ (fun r_48 N_49 V_50 q_51 => ?_)
          obtain ⟨h_46, rfl, rfl⟩ := q_51
          refine aw_istore (ls' := [some (.ref (b + 100)), some (.int (nI zn0)), some (.int v29_2), some (.int (nI j29)), some (.int r_48)]) dX12_guards_39 (Nat.le_of_ble_eq_true rfl) rfl ?_
          refine aw_aload_n dX12_guards_41 rfl ?_
          refine aw_iload dX12_guards_42 rfl ?_
          refine aw_callVi (J' := jX12_isTold) (As := [.int r_48]) (st := []) dX12_guards_44 tb_1351 ok_X12_isTold ⟨_, e_47⟩ (by omega) rfl rfl (r_isTold l D b N V29 hN cl i29_2.1 r_48) rfl (Nat.le_of_ble_eq_true rfl) ⟨Nat.le_of_ble_eq_true rfl, Nat.le_of_ble_eq_true rfl, Nat.le_of_ble_eq_true rfl, Nat.le_of_ble_eq_true rfl⟩ (fun r_55 N_56 V_57 q_58 => ?_)
          obtain ⟨⟨z_54, h_53⟩, rfl, rfl⟩ := q_58
          refine aw_if_eq (tgt := 59) dX12_guards_47 (by decide) (fun c_59 => ?_) (fun c_59 => ?_)
          · skip
            refine aw_bipush (v := (-3)) dX12_guards_59 (by decide) ?_
            refine aw_ireti dX12_guards_61 rfl (Nat.le_of_ble_eq_true rfl) (Nat.le_of_ble_eq_true rfl) ?_
            exact ⟨rfl, i29_2⟩
          · skip
            obtain ⟨zr_48, hzr_48, rfl⟩ := h_53.resolve_left c_59
            refine aw_iload_n dX12_guards_50 rfl ?_
            refine aw_iload dX12_guards_51 rfl ?_
            refine aw_callSi (J' := jX12_has) (As := [.int v29_2, .int (nI zr_48)]) (st := []) dX12_guards_53 tb_1315 ok_X12_has rfl (r_has l D b N V29 hN cl i29_2.1 v29_2 (nI zr_48)) rfl (Nat.le_of_ble_eq_true rfl) ⟨Nat.le_of_ble_eq_true rfl, Nat.le_of_ble_eq_true rfl, Nat.le_of_ble_eq_true rfl, Nat.le_of_ble_eq_true rfl⟩ (fun r_62 N_63 V_64 q_65 => ?_)
            obtain ⟨h_61, rfl, rfl⟩ := q_65
            refine aw_if_eq (tgt := 62) dX12_guards_56 (by decide) (fun c_66 => ?_) (fun c_66 => ?_)
            · skip
              refine aw_iload_n dX12_guards_62 rfl ?_
              refine aw_iconst (v := 1) dX12_guards_63 (by decide) ?_
              refine aw_iload dX12_guards_64 rfl ?_
              refine aw_ishl dX12_guards_66 ?_
              refine aw_ior dX12_guards_67 ?_
              refine aw_istore_n (ls' := [some (.ref (b + 100)), some (.int (nI zn0)), some (.int (v29_2 ||| ((1 : Int32) <<< ((nI zr_48) &&& 31)))), some (.int (nI j29)), some (.int (nI zr_48))]) dX12_guards_68 (Nat.le_of_ble_eq_true rfl) rfl ?_
              refine aw_aload_n dX12_guards_69 rfl ?_
              refine aw_get dX12_guards_70 fl_X12_96 e_47 (by omega) rfl ?_
              refine aw_iload_n dX12_guards_73 rfl ?_
              refine aw_iload_n dX12_guards_74 rfl ?_
              refine aw_iast dX12_guards_75 e129 (by omega) (vp_in_nI (n := j29) (by omega) (by omega)) ?_
              have np_68 : ∀ j, j < 6 → (fun v => ∃ k : Nat, k < 6 ∧ v = nI k) ((upd o29 j29 (nI j29)) j) := isP_upd (P := (fun v => ∃ k : Nat, k < 6 ∧ v = nI k)) hk29 ⟨j29, by omega, rfl⟩
              refine aw_upR i29_2 cm_129 ⟨_, rfl, by rw [nI_clamp (n := j29) (by omega)]; exact np_68⟩ (by decide) (WA LM0 (by decide) (by decide)) (fun V_67 j_67 k_67 e_67 => ?_)
              have e_69 : V_67 129 = cI D 6 (upd o29 j29 (nI j29)) := by rw [e_67, nI_clamp (n := j29) (by omega)]
              refine aw_iinc (v := (nI (j29 + 1))) (ls' := [some (.ref (b + 100)), some (.int (nI zn0)), some (.int (v29_2 ||| ((1 : Int32) <<< ((nI zr_48) &&& 31)))), some (.int (nI (j29 + 1))), some (.int (nI zr_48))]) dX12_guards_76 rfl (fx_up_1 _) (Nat.le_of_ble_eq_true rfl) rfl ?_
              refine aw_goto (tgt := 29) dX12_guards_79 (by decide) ?_
              refine aw_le ?_ (ih_29_13 (j29 + 1) (v29_2 ||| ((1 : Int32) <<< ((nI zr_48) &&& 31))) V_67 (by omega) (⟨_, e_69, fun i hi => if e : i = j29 then (by rw [e, pk_us]) else (pk_un e).trans (ho29 i (by omega))⟩) ((TQ.step i29_1 hzr_48 (h_46.trans (by rw [nI_clamp (n := j29) (by omega)])))) (j_67) (((k_67 _ (by decide)).trans i29_3)))
              exact ⟨rfl, ⟨rfl, ⟨rfl, ⟨rfl, trivial⟩⟩⟩⟩
            · skip
              refine aw_bipush (v := (-3)) dX12_guards_59 (by decide) ?_
              refine aw_ireti dX12_guards_61 rfl (Nat.le_of_ble_eq_true rfl) (Nat.le_of_ble_eq_true rfl) ?_
              exact ⟨rfl, i29_2⟩
      obtain ⟨g_70, e_70, p_70⟩ := JR.get j_11 cm_129
      refine aw_le ?_ (loop_29_12 zn0 0 0 V_11 (by omega) (⟨_, e_70, fun i h => absurd h (Nat.not_lt_zero i)⟩) (fun i h => absurd h (Nat.not_lt_zero i)) (j_11) (e_12))
      exact ⟨rfl, ⟨rfl, ⟨rfl, ⟨rfl, trivial⟩⟩⟩⟩
    · skip
      have nc_10 : ¬ (zn0 ≤ tad_9) := fun z => c_10 ((nI_leI (a := zn0) (b := tad_9) (by omega) (by omega)).mpr z)
      refine aw_iconst (v := (-1)) dX12_guards_18 (by decide) ?_
      refine aw_ireti dX12_guards_19 rfl (Nat.le_of_ble_eq_true rfl) (Nat.le_of_ble_eq_true rfl) ?_
      exact ⟨rfl, hJ0⟩
