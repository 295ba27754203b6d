
theorem rb_yes {kn : Nat → Nat} {s k r : Nat} (h : r = s ||| bs kn s k) (hb : s.testBit k = true) : r ||| kn k = s ||| bs kn s (k + 1) := by
  rw [h, bs, if_pos hb, Nat.or_assoc]
theorem rb_not {kn : Nat → Nat} {s k r : Nat} (h : r = s ||| bs kn s k) (hb : s.testBit k = false) : r = s ||| bs kn s (k + 1) := by
  rw [h, bs, if_neg (by rw [hb]; decide)]
theorem rb_fin {kn : Nat → Nat} {s k r y z : Nat} (h : K4 kn) (hs : s < 4096) (e : r = s ||| bs kn s k) (hk : k = 12) (es : s = itm kn 4095 y z) : r = itm kn 4095 (y + 1) z := by
  subst hk
  rw [e, ← ns_all h hs, es]; rfl
theorem itm_ne {kn : Nat → Nat} {m y p : Nat} : itm kn m y (2 ^ p) ≠ 0 := fun e => by
  have := itm_sub (kn := kn) (m := m) (s := 2 ^ p) (i := p) bit_one y
  rw [e, Nat.zero_testBit] at this; cases this
theorem sta_fix {kn : Nat → Nat} {p q y s : Nat} {v : Int32} (h : K4 kn) (hp : p < 12) (hi : s < 4096) (e : s = itm kn 4095 y (2 ^ p)) (hn : ∀ j, j < y → (itm kn 4095 j (2 ^ p)).testBit q = false) (hv : v = 0 ∨ ∃ y', y = y' + 1 ∧ v = nI (itm kn 4095 y' (2 ^ p))) (ev : nI s = v) : ∀ j, (itm kn 4095 j (2 ^ p)).testBit q = false := by
  rcases hv with hv | ⟨y', ey, hv⟩
  · have h0 : s = 0 := (nI_eq (by omega) (by omega)).mp (ev.trans hv)
    exact absurd (e.symm.trans h0) itm_ne
  · have hl := itm_lt (m := 4095) h (fx_pow12 hp) y'
    have h1 : s = itm kn 4095 y' (2 ^ p) := (nI_eq (by omega) (by omega)).mp (ev.trans hv)
    have h2 : ns kn 4095 (itm kn 4095 y' (2 ^ p)) = itm kn 4095 y' (2 ^ p) := by
      rw [ey] at e; exact e.symm.trans h1
    intro j
    by_cases l : j < y
    · exact hn j l
    · have h3 := itm_fix h2 (j - y')
      rw [show y' + (j - y') = j by omega] at h3
      rw [h3]; exact hn y' (by omega)
theorem sta_hit {kn : Nat → Nat} {p q y s : Nat} (h : K4 kn) (hp : p < 12) (hq : q < 12) (e : s = itm kn 4095 y (2 ^ p)) (hn : ∀ j, j < y → (itm kn 4095 j (2 ^ p)).testBit q = false) (hb : s.testBit q = true) : STA kn p q (nI y) := by
  refine Or.inl ⟨y, Decidable.byContradiction fun c => ?_, rfl, e ▸ hb, hn⟩
  have := it12 (m := 4095) h hp hq (fun j hj => hn j (by omega)) y
  rw [← e, hb] at this; cases this

set_option maxHeartbeats 4000000 in
set_option maxRecDepth 100000 in
theorem r_stepsS (l : Launch) (D : va_G) (b : Nat) (N : Nat) (V : Wd) (hN : 133 ≤ N) (cl : Nat) (hW : CR D b cl V) (n0 : Int32) (n1 : Int32) (kn : Nat → Nat) (hk : ∀ i, i < 12 → kn i < 4096 ∧ fI (V 104) i = nI (kn i)) : MI l D b 2 jX12_steps [.ref (b + 100), .int n0, .int n1] N V 0 0 (fun r N9 V9 => (STP kn (fI (V 100) 9) n0 n1 r) ∧ N = N9 ∧ V = V9) := by
  have hJ0 : JR D b N cl [] V V := JR.rf hW
  refine mw_of (by decide) (by simp [Value.category]) (Nat.le_of_ble_eq_true rfl) ?_
  show AW l D b jX12_steps (fx_rm 2 0 0) none (fx_MQ D b 0 0 (fx_qi (fun r N9 V9 => (STP kn (fI (V 100) 9) n0 n1 r) ∧ N = N9 ∧ V = V9))) 0 [some (.ref (b + 100)), some (.int n0), some (.int n1), none, none, none, none] [] N V 0 0
  refine aw_aload_n dX12_steps_0 rfl ?_
  refine aw_iload_n dX12_steps_1 rfl ?_
  obtain ⟨ftoldPeople_4, ftoldDoors_4, fwasDoors_4, ffault_4, fopen_4, flines_4, fmeantSet_4, fopenedNow_4, fvainNow_4, flowNow_4, fhighNow_4, fisKept_4, tad_4, pl0_4, le0_4, nu0_4, coy_4, wag_4, say_4, e_4, hntad_4, hnpl0_4, hnle0_4, hnnu0_4, hncoy_4, hnwag_4, hnsay_4⟩ := JR.get hJ0 cm_100
  refine aw_callVi (J' := jX12_isTold) (As := [.int n0]) (st := []) dX12_steps_2 tb_1351 ok_X12_isTold ⟨_, e_4⟩ (by omega) rfl rfl (r_isToldS l D b N V hN cl hJ0.1 n0 (fI (V 100) 9) (Eq.refl (fI (V 100) 9))) rfl (Nat.le_of_ble_eq_true rfl) ⟨Nat.le_of_ble_eq_true rfl, Nat.le_of_ble_eq_true rfl, Nat.le_of_ble_eq_true rfl, Nat.le_of_ble_eq_true rfl⟩ (fun r_5 N_6 V_7 q_8 => ?_)
  obtain ⟨⟨z_3, h_2⟩, rfl, rfl⟩ := q_8
  rcases h_2 with ⟨hy_9, e_10⟩ | ⟨hn_11, e_12⟩
  · skip
    refine aw_eqi (y := 1) e_10 ?_
    obtain ⟨zn0, hzn0, rfl⟩ := told_nat hy_9
    refine aw_if_eq (tgt := 16) dX12_steps_5 (by decide) (fun c_13 => ?_) (fun c_13 => ?_)
    · exact absurd c_13 (by decide)
    refine aw_aload_n dX12_steps_8 rfl ?_
    refine aw_iload_n dX12_steps_9 rfl ?_
    refine aw_callVi (J' := jX12_isTold) (As := [.int n1]) (st := []) dX12_steps_10 tb_1351 ok_X12_isTold ⟨_, e_4⟩ (by omega) rfl rfl (r_isToldS l D b N V hN cl hJ0.1 n1 (fI (V 100) 9) (Eq.refl (fI (V 100) 9))) rfl (Nat.le_of_ble_eq_true rfl) ⟨Nat.le_of_ble_eq_true rfl, Nat.le_of_ble_eq_true rfl, Nat.le_of_ble_eq_true rfl, Nat.le_of_ble_eq_true rfl⟩ (fun r_17 N_18 V_19 q_20 => ?_)
    obtain ⟨⟨z_16, h_15⟩, rfl, rfl⟩ := q_20
    rcases h_15 with ⟨hy_21, e_22⟩ | ⟨hn_23, e_24⟩
    · skip
      refine aw_eqi (y := 1) e_22 ?_
      obtain ⟨zn1, hzn1, rfl⟩ := told_nat hy_21
      refine aw_if_ne (tgt := 18) dX12_steps_13 (by decide) (fun c_25 => ?_) (fun c_25 => ?_)
      rotate_left
      · exact absurd c_25 (by decide)
      refine aw_iconst (v := 1) dX12_steps_18 (by decide) ?_
      refine aw_iload_n dX12_steps_19 rfl ?_
      refine aw_ishl dX12_steps_20 ?_
      refine aw_eqi (y := (nI (2 ^ zn0))) (fx_shl12 zn0 (by omega)) ?_
      refine aw_istore_n (ls' := [some (.ref (b + 100)), some (.int (nI zn0)), some (.int (nI zn1)), some (.int (nI (2 ^ zn0))), none, none, none]) dX12_steps_21 (Nat.le_of_ble_eq_true rfl) rfl ?_
      refine aw_iconst (v := 0) dX12_steps_22 (by decide) ?_
      refine aw_istore (ls' := [some (.ref (b + 100)), some (.int (nI zn0)), some (.int (nI zn1)), some (.int (nI (2 ^ zn0))), some (.int 0), none, none]) dX12_steps_23 (Nat.le_of_ble_eq_true rfl) rfl ?_
      refine aw_iconst (v := 0) dX12_steps_25 (by decide) ?_
      refine aw_istore (ls' := [some (.ref (b + 100)), some (.int (nI zn0)), some (.int (nI zn1)), some (.int (nI (2 ^ zn0))), some (.int 0), some (.int 0), none]) dX12_steps_26 (Nat.le_of_ble_eq_true rfl) rfl ?_
      have ml_28_26 : ∀ (m : Nat) (s28 : Nat) (y28 : Nat) (v28_5 : Int32), m = 2 * (4096 - s28) + (if v28_5 = nI s28 then 0 else 1) → (s28 < 4096) → (s28 = itm kn 4095 y28 (2 ^ zn0)) → (∀ j, j < y28 → (itm kn 4095 j (2 ^ zn0)).testBit zn1 = false) → (v28_5 = 0 ∨ ∃ y9, y28 = y9 + 1 ∧ v28_5 = nI (itm kn 4095 y9 (2 ^ zn0))) → AW l D b jX12_steps (fx_rm 2 0 0) none (fx_MQ D b 0 0 (fx_qi (fun r N9 V9 => (STP kn (fI (V 100) 9) (nI zn0) (nI zn1) r) ∧ N = N9 ∧ V = V9))) 28 [some (.ref (b + 100)), some (.int (nI zn0)), some (.int (nI zn1)), some (.int (nI s28)), some (.int (nI y28)), some (.int v28_5), none] [] N V 0 0 := by
        intro m; refine Nat.strongRecOn m ?_
        intro m mih_28_26 s28 y28 v28_5 hm28 i28_0 i28_1 i28_2 i28_3
        refine aw_iload_n dX12_steps_28 rfl ?_
        refine aw_iload_n dX12_steps_29 rfl ?_
        refine aw_callSi (J' := jX12_has) (As := [.int (nI s28), .int (nI zn1)]) (st := []) dX12_steps_30 tb_1315 ok_X12_has rfl (r_hasS l D b N V hN cl hJ0.1 (nI s28) (nI zn1)) rfl (Nat.le_of_ble_eq_true rfl) ⟨Nat.le_of_ble_eq_true rfl, Nat.le_of_ble_eq_true rfl, Nat.le_of_ble_eq_true rfl, Nat.le_of_ble_eq_true rfl⟩ (fun r_30 N_31 V_32 q_33 => ?_)
        obtain ⟨⟨z_29, h_28⟩, rfl, rfl⟩ := q_33
        rcases h_28 with ⟨hy_34, e_35⟩ | ⟨hn_36, e_37⟩
        · skip
          refine aw_eqi (y := 1) e_35 ?_
          refine aw_if_ne (tgt := 93) dX12_steps_33 (by decide) (fun c_38 => ?_) (fun c_38 => ?_)
          rotate_left
          · exact absurd c_38 (by decide)
          refine aw_iload dX12_steps_93 rfl ?_
          refine aw_ireti dX12_steps_95 rfl (Nat.le_of_ble_eq_true rfl) (Nat.le_of_ble_eq_true rfl) ?_
          exact ⟨Or.inl ⟨hy_9, hy_21, zn0, zn1, by omega, by omega, rfl, rfl, sta_hit (fun i hi => (hk i hi).1) (by omega) (by omega) i28_1 i28_2 (bt_it rfl (by omega) (by omega) hy_34)⟩, rfl, rfl⟩
        · skip
          refine aw_eqi (y := 0) e_37 ?_
          refine aw_if_ne (tgt := 93) dX12_steps_33 (by decide) (fun c_39 => ?_) (fun c_39 => ?_)
          · exact absurd rfl c_39
          refine aw_iload_n dX12_steps_36 rfl ?_
          refine aw_iload dX12_steps_37 rfl ?_
          refine aw_icmp_ne (tgt := 45) dX12_steps_39 (by decide) (fun c_40 => ?_) (fun c_40 => ?_)
          · skip
            refine aw_iload_n dX12_steps_45 rfl ?_
            refine aw_istore (ls' := [some (.ref (b + 100)), some (.int (nI zn0)), some (.int (nI zn1)), some (.int (nI s28)), some (.int (nI y28)), some (.int (nI s28)), none]) dX12_steps_46 (Nat.le_of_ble_eq_true rfl) rfl ?_
            refine aw_iload dX12_steps_48 rfl ?_
            refine aw_iconst (v := 1) dX12_steps_50 (by decide) ?_
            refine aw_iadd dX12_steps_51 ?_
            refine aw_eqi (y := (nI (y28 + 1))) (nI_1 y28) ?_
            refine aw_istore (ls' := [some (.ref (b + 100)), some (.int (nI zn0)), some (.int (nI zn1)), some (.int (nI s28)), some (.int (nI (y28 + 1))), some (.int (nI s28)), none]) dX12_steps_52 (Nat.le_of_ble_eq_true rfl) rfl ?_
            refine aw_iconst (v := 0) dX12_steps_54 (by decide) ?_
            refine aw_istore (ls' := [some (.ref (b + 100)), some (.int (nI zn0)), some (.int (nI zn1)), some (.int (nI s28)), some (.int (nI (y28 + 1))), some (.int (nI s28)), some (.int 0)]) dX12_steps_55 (Nat.le_of_ble_eq_true rfl) rfl ?_
            have ml_57_41 : ∀ (m : Nat) (p57 : Nat) (s57 : Nat), m = 12 - p57 → (p57 ≤ 12) → (s57 < 4096) → (s28 ≤ s57) → (s57 = s28 ||| bs kn s28 p57) → AW l D b jX12_steps (fx_rm 2 0 0) none (fx_MQ D b 0 0 (fx_qi (fun r N9 V9 => (STP kn (fI (V 100) 9) (nI zn0) (nI zn1) r) ∧ N = N9 ∧ V = V9))) 57 [some (.ref (b + 100)), some (.int (nI zn0)), some (.int (nI zn1)), some (.int (nI s57)), some (.int (nI (y28 + 1))), some (.int (nI s28)), some (.int (nI p57))] [] N V 0 0 := by
              intro m; refine Nat.strongRecOn m ?_
              intro m mih_57_41 p57 s57 hm57 i57_0 i57_1 i57_2 i57_3
              refine aw_iload dX12_steps_57 rfl ?_
              refine aw_bipush (v := 12) dX12_steps_59 (by decide) ?_
              refine aw_icmp_ge (tgt := 90) dX12_steps_61 (by decide) (fun c_42 => ?_) (fun c_42 => ?_)
              · skip
                have nc_42 : 12 ≤ p57 := (nI_leI (a := 12) (b := p57) (by omega) (by omega)).mp c_42
                refine aw_goto (tgt := 28) dX12_steps_90 (by decide) ?_
                refine aw_le ?_ (mih_28_26 _ (by rw [hm28]; exact fx_fix (by first | omega | exact Nat.le_trans (by omega) Nat.left_le_or) (by first | omega | exact fx_pow12 (by omega) | exact or_lt (by omega) (by first | omega | exact fx_pow12 (by omega))) c_40) s57 (y28 + 1) (nI s28) rfl ((by first | omega | exact fx_pow12 (by omega) | exact or_lt (by omega) (by first | omega | exact fx_pow12 (by omega)))) (rb_fin (fun i hi => (hk i hi).1) (by omega) i57_3 (by omega) i28_1) (it_lt i28_2 ((congrArg (fun q => q.testBit zn1) i28_1).symm.trans (bt_it rfl (by omega) (by omega) hn_36))) (Or.inr ⟨y28, rfl, congrArg nI i28_1⟩))
                exact ⟨rfl, ⟨rfl, ⟨rfl, ⟨rfl, ⟨rfl, ⟨rfl, trivial⟩⟩⟩⟩⟩⟩
              · skip
                have nc_42 : ¬ (12 ≤ p57) := fun z => c_42 ((nI_leI (a := 12) (b := p57) (by omega) (by omega)).mpr z)
                refine aw_iload dX12_steps_64 rfl ?_
                refine aw_iload dX12_steps_66 rfl ?_
                refine aw_callSi (J' := jX12_has) (As := [.int (nI s28), .int (nI p57)]) (st := []) dX12_steps_68 tb_1315 ok_X12_has rfl (r_hasS l D b N V hN cl hJ0.1 (nI s28) (nI p57)) rfl (Nat.le_of_ble_eq_true rfl) ⟨Nat.le_of_ble_eq_true rfl, Nat.le_of_ble_eq_true rfl, Nat.le_of_ble_eq_true rfl, Nat.le_of_ble_eq_true rfl⟩ (fun r_46 N_47 V_48 q_49 => ?_)
                obtain ⟨⟨z_45, h_44⟩, rfl, rfl⟩ := q_49
                rcases h_44 with ⟨hy_50, e_51⟩ | ⟨hn_52, e_53⟩
                · skip
                  refine aw_eqi (y := 1) e_51 ?_
                  refine aw_if_eq (tgt := 84) dX12_steps_71 (by decide) (fun c_54 => ?_) (fun c_54 => ?_)
                  · exact absurd c_54 (by decide)
                  refine aw_iload_n dX12_steps_74 rfl ?_
                  refine aw_aload_n dX12_steps_75 rfl ?_
                  refine aw_get dX12_steps_76 fl_X12_19 e_4 (by omega) rfl ?_
                  refine aw_iload dX12_steps_79 rfl ?_
                  obtain ⟨g_55, e_55, p_55⟩ := JR.get hJ0 cm_104
                  refine aw_iald (v := (g_55 p57)) dX12_steps_81 e_55 (by omega) (vp_in_nI (n := p57) (by omega) (by omega)) (congrArg g_55 (nI_clamp (n := p57) (by omega))) ?_
                  have hkp57 := (hk p57 (by omega)).1
                  refine aw_eqi (y := nI (kn p57)) (((congrArg (fun z => fI z p57) e_55).symm.trans (hk p57 (by omega)).2)) ?_
                  refine aw_ior dX12_steps_82 ?_
                  refine aw_eqi (y := (nI (s57 ||| (kn p57)))) (fx_orI _ _) ?_
                  refine aw_istore_n (ls' := [some (.ref (b + 100)), some (.int (nI zn0)), some (.int (nI zn1)), some (.int (nI (s57 ||| (kn p57)))), some (.int (nI (y28 + 1))), some (.int (nI s28)), some (.int (nI p57))]) dX12_steps_83 (Nat.le_of_ble_eq_true rfl) rfl ?_
                  refine aw_iinc (v := (nI (p57 + 1))) (ls' := [some (.ref (b + 100)), some (.int (nI zn0)), some (.int (nI zn1)), some (.int (nI (s57 ||| (kn p57)))), some (.int (nI (y28 + 1))), some (.int (nI s28)), some (.int (nI (p57 + 1)))]) dX12_steps_84 rfl (fx_up_1 _) (Nat.le_of_ble_eq_true rfl) rfl ?_
                  refine aw_goto (tgt := 57) dX12_steps_87 (by decide) ?_
                  refine aw_le ?_ (mih_57_41 _ (by omega) (p57 + 1) (s57 ||| (kn p57)) rfl (by omega) ((by first | omega | exact fx_pow12 (by omega) | exact or_lt (by omega) (by first | omega | exact fx_pow12 (by omega)))) ((by first | omega | exact Nat.le_trans (by omega) Nat.left_le_or)) (rb_yes i57_3 (bt_it rfl (by omega) (by omega) hy_50)))
                  exact ⟨rfl, ⟨rfl, ⟨rfl, ⟨rfl, ⟨rfl, ⟨rfl, ⟨rfl, trivial⟩⟩⟩⟩⟩⟩⟩
                · skip
                  refine aw_eqi (y := 0) e_53 ?_
                  refine aw_if_eq (tgt := 84) dX12_steps_71 (by decide) (fun c_56 => ?_) (fun c_56 => ?_)
                  rotate_left
                  · exact absurd (by decide) c_56
                  refine aw_iinc (v := (nI (p57 + 1))) (ls' := [some (.ref (b + 100)), some (.int (nI zn0)), some (.int (nI zn1)), some (.int (nI s57)), some (.int (nI (y28 + 1))), some (.int (nI s28)), some (.int (nI (p57 + 1)))]) dX12_steps_84 rfl (fx_up_1 _) (Nat.le_of_ble_eq_true rfl) rfl ?_
                  refine aw_goto (tgt := 57) dX12_steps_87 (by decide) ?_
                  refine aw_le ?_ (mih_57_41 _ (by omega) (p57 + 1) s57 rfl (by omega) ((by first | omega | exact fx_pow12 (by omega) | exact or_lt (by omega) (by first | omega | exact fx_pow12 (by omega)))) ((by first | omega | exact Nat.le_trans (by omega) Nat.left_le_or)) (rb_not i57_3 (bt_it rfl (by omega) (by omega) hn_52)))
                  exact ⟨rfl, ⟨rfl, ⟨rfl, ⟨rfl, ⟨rfl, ⟨rfl, ⟨rfl, trivial⟩⟩⟩⟩⟩⟩⟩
            refine aw_le ?_ (ml_57_41 _ 0 s28 rfl (by omega) ((by first | omega | exact fx_pow12 (by omega) | exact or_lt (by omega) (by first | omega | exact fx_pow12 (by omega)))) ((by first | omega | exact Nat.le_trans (by omega) Nat.left_le_or)) ((Nat.or_zero _).symm))
            exact ⟨rfl, ⟨rfl, ⟨rfl, ⟨rfl, ⟨rfl, ⟨rfl, ⟨rfl, trivial⟩⟩⟩⟩⟩⟩⟩
          · skip
            refine aw_bipush (v := (-2)) dX12_steps_42 (by decide) ?_
            refine aw_ireti dX12_steps_44 rfl (Nat.le_of_ble_eq_true rfl) (Nat.le_of_ble_eq_true rfl) ?_
            exact ⟨Or.inl ⟨hy_9, hy_21, zn0, zn1, by omega, by omega, rfl, rfl, Or.inr ⟨rfl, sta_fix (fun i hi => (hk i hi).1) (by omega) (by omega) i28_1 i28_2 i28_3 c_40⟩⟩, rfl, rfl⟩
      refine aw_le ?_ (ml_28_26 _ (2 ^ zn0) 0 0 rfl ((by first | omega | exact fx_pow12 (by omega) | exact or_lt (by omega) (by first | omega | exact fx_pow12 (by omega)))) (rfl) (fun j h => absurd h (Nat.not_lt_zero j)) (Or.inl rfl))
      exact ⟨rfl, ⟨rfl, ⟨rfl, ⟨rfl, ⟨rfl, ⟨rfl, trivial⟩⟩⟩⟩⟩⟩
    · skip
      refine aw_eqi (y := 0) e_24 ?_
      refine aw_if_ne (tgt := 18) dX12_steps_13 (by decide) (fun c_57 => ?_) (fun c_57 => ?_)
      · exact absurd rfl c_57
      refine aw_iconst (v := (-1)) dX12_steps_16 (by decide) ?_
      refine aw_ireti dX12_steps_17 rfl (Nat.le_of_ble_eq_true rfl) (Nat.le_of_ble_eq_true rfl) ?_
      exact ⟨Or.inr ⟨fun z => bool_tf z.2 hn_23, rfl⟩, rfl, rfl⟩
  · skip
    refine aw_eqi (y := 0) e_12 ?_
    refine aw_if_eq (tgt := 16) dX12_steps_5 (by decide) (fun c_58 => ?_) (fun c_58 => ?_)
    rotate_left
    · exact absurd (by decide) c_58
    refine aw_iconst (v := (-1)) dX12_steps_16 (by decide) ?_
    refine aw_ireti dX12_steps_17 rfl (Nat.le_of_ble_eq_true rfl) (Nat.le_of_ble_eq_true rfl) ?_
    exact ⟨Or.inr ⟨fun z => bool_tf z.1 hn_11, rfl⟩, rfl, rfl⟩

