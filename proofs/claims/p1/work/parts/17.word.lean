set_option maxHeartbeats 4000000 in
set_option maxRecDepth 100000 in
theorem r_word (l : Launch) (D : va_G) (b : Nat) (N : Nat) (V : Wd) (hN : 133 ≤ N) (hM : M0 D b V) (n : Int32) (f : Int32) (t : Int32) : ML l D b 1 jX12_word [.ref (b + 100), .int n, .int f, .int t] N V 0 0 (fun r N9 V9 => r = (if n < 1 then (-1) else if 8 < n then (-1) else if f < 0 then (-1) else if f ≤ 65535 then (if t < 0 then (-1) else if t ≤ 128 then wds f n.toNatClampNeg t.toNatClampNeg else (-1)) else (-1)) ∧ N = N9) := by
  obtain ⟨k100, k101, k102, k103, k104, k110, k124, k126, k127, k128, k130, k131⟩ := id hM
  refine mw_of (by decide) (by simp [Value.category]) (Nat.le_of_ble_eq_true rfl) ?_
  show AW l D b jX12_word (fx_rm 1 0 0) none (fx_MQ D b 0 0 (fx_ql (fun r N9 V9 => r = (if n < 1 then (-1) else if 8 < n then (-1) else if f < 0 then (-1) else if f ≤ 65535 then (if t < 0 then (-1) else if t ≤ 128 then wds f n.toNatClampNeg t.toNatClampNeg else (-1)) else (-1)) ∧ N = N9))) 0 [some (.ref (b + 100)), some (.int n), some (.int f), some (.int t), none, none, none] [] N V 0 0
  refine aw_iload_n dX12_word_0 rfl ?_
  refine aw_iconst (v := 1) dX12_word_1 (by decide) ?_
  refine aw_bipush (v := 8) dX12_word_2 (by decide) ?_
  refine aw_callSi (J' := jX12_in) (As := [.int n, .int 1, .int 8]) (st := []) dX12_word_4 tb_1209 ok_X12_in rfl (k_in l D b N V n 1 8) rfl (Nat.le_of_ble_eq_true rfl) ⟨Nat.le_of_ble_eq_true rfl, Nat.le_of_ble_eq_true rfl, Nat.le_of_ble_eq_true rfl, Nat.le_of_ble_eq_true rfl⟩ (fun r_1 N_2 V_3 q_4 => ?_)
  obtain ⟨rfl, rfl, rfl⟩ := q_4
  rcases inr_cases n 1 8 with ⟨g_5, e_6⟩ | ⟨g_7, g_8, g_9, e_10⟩ | ⟨g_11, g_12, g_13, e_14⟩
  · skip
    refine aw_eqi (y := 0) e_6 ?_
    refine aw_if_eq (tgt := 32) dX12_word_7 (by decide) (fun c_15 => ?_) (fun c_15 => ?_)
    rotate_left
    · exact absurd (by decide) c_15
    refine aw_ldc2 (v := (-1)) dX12_word_32 tb_1592 ?_
    refine aw_lreti dX12_word_35 rfl (Nat.le_of_ble_eq_true rfl) (Nat.le_of_ble_eq_true rfl) ?_
    exact ⟨by (first | (simp only [g_5, c_15, reduceIte]; done) | (simp only [g_5, reduceIte]; done)), rfl⟩
  · skip
    refine aw_eqi (y := 0) e_10 ?_
    refine aw_if_eq (tgt := 32) dX12_word_7 (by decide) (fun c_16 => ?_) (fun c_16 => ?_)
    rotate_left
    · exact absurd (by decide) c_16
    refine aw_ldc2 (v := (-1)) dX12_word_32 tb_1592 ?_
    refine aw_lreti dX12_word_35 rfl (Nat.le_of_ble_eq_true rfl) (Nat.le_of_ble_eq_true rfl) ?_
    exact ⟨by (first | (simp only [g_7, g_8, g_9, c_16, reduceIte]; done) | (simp only [g_7, g_8, g_9, reduceIte]; done)), rfl⟩
  · skip
    refine aw_eqi (y := 1) e_14 ?_
    refine aw_if_eq (tgt := 32) dX12_word_7 (by decide) (fun c_17 => ?_) (fun c_17 => ?_)
    · exact absurd c_17 (by decide)
    refine aw_iload_n dX12_word_10 rfl ?_
    refine aw_iconst (v := 0) dX12_word_11 (by decide) ?_
    refine aw_ldcw (v := 65535) dX12_word_12 tb_1314 ?_
    refine aw_callSi (J' := jX12_in) (As := [.int f, .int 0, .int 65535]) (st := []) dX12_word_15 tb_1209 ok_X12_in rfl (k_in l D b N V f 0 65535) rfl (Nat.le_of_ble_eq_true rfl) ⟨Nat.le_of_ble_eq_true rfl, Nat.le_of_ble_eq_true rfl, Nat.le_of_ble_eq_true rfl, Nat.le_of_ble_eq_true rfl⟩ (fun r_18 N_19 V_20 q_21 => ?_)
    obtain ⟨rfl, rfl, rfl⟩ := q_21
    rcases inr_cases f 0 65535 with ⟨g_22, e_23⟩ | ⟨g_24, g_25, g_26, e_27⟩ | ⟨g_28, g_29, g_30, e_31⟩
    · skip
      refine aw_eqi (y := 0) e_23 ?_
      refine aw_if_eq (tgt := 32) dX12_word_18 (by decide) (fun c_32 => ?_) (fun c_32 => ?_)
      rotate_left
      · exact absurd (by decide) c_32
      refine aw_ldc2 (v := (-1)) dX12_word_32 tb_1592 ?_
      refine aw_lreti dX12_word_35 rfl (Nat.le_of_ble_eq_true rfl) (Nat.le_of_ble_eq_true rfl) ?_
      exact ⟨by (first | (simp only [g_11, g_12, g_13, c_17, g_22, c_32, reduceIte]; done) | (simp only [g_11, g_12, g_13, g_22, reduceIte]; done)), rfl⟩
    · skip
      refine aw_eqi (y := 0) e_27 ?_
      refine aw_if_eq (tgt := 32) dX12_word_18 (by decide) (fun c_33 => ?_) (fun c_33 => ?_)
      rotate_left
      · exact absurd (by decide) c_33
      refine aw_ldc2 (v := (-1)) dX12_word_32 tb_1592 ?_
      refine aw_lreti dX12_word_35 rfl (Nat.le_of_ble_eq_true rfl) (Nat.le_of_ble_eq_true rfl) ?_
      exact ⟨by (first | (simp only [g_11, g_12, g_13, c_17, g_24, g_25, g_26, c_33, reduceIte]; done) | (simp only [g_11, g_12, g_13, g_24, g_25, g_26, reduceIte]; done)), rfl⟩
    · skip
      refine aw_eqi (y := 1) e_31 ?_
      refine aw_if_eq (tgt := 32) dX12_word_18 (by decide) (fun c_34 => ?_) (fun c_34 => ?_)
      · exact absurd c_34 (by decide)
      refine aw_iload_n dX12_word_21 rfl ?_
      refine aw_iconst (v := 0) dX12_word_22 (by decide) ?_
      refine aw_sipush (v := 128) dX12_word_23 (by decide) ?_
      refine aw_callSi (J' := jX12_in) (As := [.int t, .int 0, .int 128]) (st := []) dX12_word_26 tb_1209 ok_X12_in rfl (k_in l D b N V t 0 128) rfl (Nat.le_of_ble_eq_true rfl) ⟨Nat.le_of_ble_eq_true rfl, Nat.le_of_ble_eq_true rfl, Nat.le_of_ble_eq_true rfl, Nat.le_of_ble_eq_true rfl⟩ (fun r_35 N_36 V_37 q_38 => ?_)
      obtain ⟨rfl, rfl, rfl⟩ := q_38
      rcases inr_cases t 0 128 with ⟨g_39, e_40⟩ | ⟨g_41, g_42, g_43, e_44⟩ | ⟨g_45, g_46, g_47, e_48⟩
      · skip
        refine aw_eqi (y := 0) e_40 ?_
        refine aw_if_ne (tgt := 36) dX12_word_29 (by decide) (fun c_49 => ?_) (fun c_49 => ?_)
        · exact absurd rfl c_49
        refine aw_ldc2 (v := (-1)) dX12_word_32 tb_1592 ?_
        refine aw_lreti dX12_word_35 rfl (Nat.le_of_ble_eq_true rfl) (Nat.le_of_ble_eq_true rfl) ?_
        exact ⟨by (first | (simp only [g_11, g_12, g_13, c_17, g_28, g_29, g_30, c_34, g_39, c_49, reduceIte]; done) | (simp only [g_11, g_12, g_13, g_28, g_29, g_30, g_39, reduceIte]; done)), rfl⟩
      · skip
        refine aw_eqi (y := 0) e_44 ?_
        refine aw_if_ne (tgt := 36) dX12_word_29 (by decide) (fun c_50 => ?_) (fun c_50 => ?_)
        · exact absurd rfl c_50
        refine aw_ldc2 (v := (-1)) dX12_word_32 tb_1592 ?_
        refine aw_lreti dX12_word_35 rfl (Nat.le_of_ble_eq_true rfl) (Nat.le_of_ble_eq_true rfl) ?_
        exact ⟨by (first | (simp only [g_11, g_12, g_13, c_17, g_28, g_29, g_30, c_34, g_41, g_42, g_43, c_50, reduceIte]; done) | (simp only [g_11, g_12, g_13, g_28, g_29, g_30, g_41, g_42, g_43, reduceIte]; done)), rfl⟩
      · skip
        refine aw_eqi (y := 1) e_48 ?_
        refine aw_if_ne (tgt := 36) dX12_word_29 (by decide) (fun c_51 => ?_) (fun c_51 => ?_)
        rotate_left
        · exact absurd c_51 (by decide)
        obtain ⟨m, hm, rfl⟩ := fx_le8 g_11 g_12
        obtain ⟨wt, hwt, rfl⟩ := fx_le128 g_45 g_47
        refine aw_iconst (v := 0) dX12_word_36 (by decide) ?_
        refine aw_istore (ls' := [some (.ref (b + 100)), some (.int (nI m)), some (.int f), some (.int (nI wt)), some (.int 0), none, none]) dX12_word_37 (Nat.le_of_ble_eq_true rfl) rfl ?_
        have loop_39_51 : ∀ (g_39 : Nat), ∀ (j39 : Nat)  (V39 : Wd), j39 + g_39 = (wt + 1) → (∃ g39 : Nat → Int64, V39 130 = cJ D 129 g39 ∧ ∀ k, k < j39 → g39 k = (if k = 0 then 1 else 0)) → (∀ i, i ≠ 130 → V39 i = V i) → AW l D b jX12_word (fx_rm 1 0 0) none (fx_MQ D b 0 0 (fx_ql (fun r N9 V9 => r = (if (nI m) < 1 then (-1) else if 8 < (nI m) then (-1) else if f < 0 then (-1) else if f ≤ 65535 then (if (nI wt) < 0 then (-1) else if (nI wt) ≤ 128 then wds f (nI m).toNatClampNeg (nI wt).toNatClampNeg else (-1)) else (-1)) ∧ N = N9))) 39 [some (.ref (b + 100)), some (.int (nI m)), some (.int f), some (.int (nI wt)), some (.int (nI j39)), none, none] [] N V39 0 0 := by
          intro g_39
          induction g_39 with
          | zero =>
            intro j39  V39 hj39 i39_0 i39_1
            obtain rfl : j39 = (wt + 1) := by omega
            obtain ⟨g39, e39, z39⟩ := id i39_0
            refine aw_iload dX12_word_39 rfl ?_
            refine aw_iload_n dX12_word_41 rfl ?_
            refine aw_icmp_gt (tgt := 68) dX12_word_42 (by decide) (fun c_54 => ?_) (fun c_54 => ?_)
            rotate_left
            · exact absurd (nI_lt (a := wt) (b := (wt + 1)) (by omega) (by omega)) c_54
            refine aw_iconst (v := 0) dX12_word_68 (by decide) ?_
            refine aw_istore (ls' := [some (.ref (b + 100)), some (.int (nI m)), some (.int f), some (.int (nI wt)), some (.int 0), none, none]) dX12_word_69 (Nat.le_of_ble_eq_true rfl) rfl ?_
            have loop_71_54 : ∀ (g_71 : Nat), ∀ (j71 : Nat)  (V71 : Wd), j71 + g_71 = m → (∃ g71 : Nat → Int64, V71 130 = cJ D 129 g71 ∧ ∀ k, k < wt + 1 → g71 k = wds f j71 k) → (∃ h71 : Nat → Int64, V71 131 = cJ D 129 h71) → (∀ i, i ≠ 130 ∧ i ≠ 131 → V71 i = V i) → AW l D b jX12_word (fx_rm 1 0 0) none (fx_MQ D b 0 0 (fx_ql (fun r N9 V9 => r = (if (nI m) < 1 then (-1) else if 8 < (nI m) then (-1) else if f < 0 then (-1) else if f ≤ 65535 then (if (nI wt) < 0 then (-1) else if (nI wt) ≤ 128 then wds f (nI m).toNatClampNeg (nI wt).toNatClampNeg else (-1)) else (-1)) ∧ N = N9))) 71 [some (.ref (b + 100)), some (.int (nI m)), some (.int f), some (.int (nI wt)), some (.int (nI j71)), none, none] [] N V71 0 0 := by
              intro g_71
              induction g_71 with
              | zero =>
                intro j71  V71 hj71 i71_0 i71_1 i71_2
                obtain rfl : m = j71 := by omega
                obtain ⟨g71, e71, z71⟩ := id i71_0
                obtain ⟨h71, d71⟩ := id i71_1
                refine aw_iload dX12_word_71 rfl ?_
                refine aw_iload_n dX12_word_73 rfl ?_
                refine aw_icmp_ge (tgt := 194) dX12_word_74 (by decide) (fun c_57 => ?_) (fun c_57 => ?_)
                rotate_left
                · exact absurd (nI_le (a := m) (b := m) (Nat.le_refl _) (by omega)) c_57
                refine aw_aload_n dX12_word_194 rfl ?_
                refine aw_get dX12_word_195 fl_X12_99 ((i71_2 100 (by omega)).trans k100) (by omega) rfl ?_
                refine aw_iload_n dX12_word_198 rfl ?_
                refine aw_lald (v := (g71 wt)) dX12_word_199 e71 (by omega) (vp_in_nI (n := wt) (by omega) (by omega)) (congrArg g71 (nI_clamp (n := wt) (by omega))) ?_
                refine aw_lreti dX12_word_200 rfl (Nat.le_of_ble_eq_true rfl) (Nat.le_of_ble_eq_true rfl) ?_
                exact ⟨by simp only [g_11, g_12, g_13, g_28, g_29, g_30, g_45, g_46, g_47, c_54, c_57, reduceIte]; rw [nI_clamp (n := m) (by omega), nI_clamp (n := wt) (by omega)]; exact z71 wt (by omega), rfl⟩
              | succ g_71 ih_71_55 =>
                intro j71  V71 hj71 i71_0 i71_1 i71_2
                have hlj71 : j71 < m := by omega
                obtain ⟨g71, e71, z71⟩ := id i71_0
                obtain ⟨h71, d71⟩ := id i71_1
                refine aw_iload dX12_word_71 rfl ?_
                refine aw_iload_n dX12_word_73 rfl ?_
                refine aw_icmp_ge (tgt := 194) dX12_word_74 (by decide) (fun c_58 => ?_) (fun c_58 => ?_)
                · exact absurd c_58 (nI_ge (a := j71) (b := m) (by omega) (by omega))
                refine aw_iconst (v := 0) dX12_word_77 (by decide) ?_
                refine aw_istore (ls' := [some (.ref (b + 100)), some (.int (nI m)), some (.int f), some (.int (nI wt)), some (.int (nI j71)), some (.int 0), none]) dX12_word_78 (Nat.le_of_ble_eq_true rfl) rfl ?_
                have loop_80_58 : ∀ (g_80 : Nat), ∀ (j80 : Nat)  (V80 : Wd), j80 + g_80 = (wt + 1) → (V80 130 = cJ D 129 g71) → (∃ h80 : Nat → Int64, V80 131 = cJ D 129 h80 ∧ ∀ k, k < j80 → h80 k = wds f (j71 + 1) k) → (∀ i, i ≠ 130 ∧ i ≠ 131 → V80 i = V i) → AW l D b jX12_word (fx_rm 1 0 0) none (fx_MQ D b 0 0 (fx_ql (fun r N9 V9 => r = (if (nI m) < 1 then (-1) else if 8 < (nI m) then (-1) else if f < 0 then (-1) else if f ≤ 65535 then (if (nI wt) < 0 then (-1) else if (nI wt) ≤ 128 then wds f (nI m).toNatClampNeg (nI wt).toNatClampNeg else (-1)) else (-1)) ∧ N = N9))) 80 [some (.ref (b + 100)), some (.int (nI m)), some (.int f), some (.int (nI wt)), some (.int (nI j71)), some (.int (nI j80)), none] [] N V80 0 0 := by
                  intro g_80
                  induction g_80 with
                  | zero =>
                    intro j80  V80 hj80 i80_0 i80_1 i80_2
                    obtain rfl : j80 = (wt + 1) := by omega
                    obtain ⟨h80, e80, z80⟩ := id i80_1
                    refine aw_iload dX12_word_80 rfl ?_
                    refine aw_iload_n dX12_word_82 rfl ?_
                    refine aw_icmp_gt (tgt := 159) dX12_word_83 (by decide) (fun c_61 => ?_) (fun c_61 => ?_)
                    rotate_left
                    · exact absurd (nI_lt (a := wt) (b := (wt + 1)) (by omega) (by omega)) c_61
                    refine aw_iconst (v := 0) dX12_word_159 (by decide) ?_
                    refine aw_istore (ls' := [some (.ref (b + 100)), some (.int (nI m)), some (.int f), some (.int (nI wt)), some (.int (nI j71)), some (.int 0), none]) dX12_word_160 (Nat.le_of_ble_eq_true rfl) rfl ?_
                    have loop_162_61 : ∀ (g_162 : Nat), ∀ (j162 : Nat)  (V162 : Wd), j162 + g_162 = (wt + 1) → (V162 131 = cJ D 129 h80) → (∃ g162 : Nat → Int64, V162 130 = cJ D 129 g162 ∧ ∀ k, k < j162 → g162 k = wds f (j71 + 1) k) → (∀ i, i ≠ 130 ∧ i ≠ 131 → V162 i = V i) → AW l D b jX12_word (fx_rm 1 0 0) none (fx_MQ D b 0 0 (fx_ql (fun r N9 V9 => r = (if (nI m) < 1 then (-1) else if 8 < (nI m) then (-1) else if f < 0 then (-1) else if f ≤ 65535 then (if (nI wt) < 0 then (-1) else if (nI wt) ≤ 128 then wds f (nI m).toNatClampNeg (nI wt).toNatClampNeg else (-1)) else (-1)) ∧ N = N9))) 162 [some (.ref (b + 100)), some (.int (nI m)), some (.int f), some (.int (nI wt)), some (.int (nI j71)), some (.int (nI j162)), none] [] N V162 0 0 := by
                      intro g_162
                      induction g_162 with
                      | zero =>
                        intro j162  V162 hj162 i162_0 i162_1 i162_2
                        obtain rfl : j162 = (wt + 1) := by omega
                        obtain ⟨g162, e162, z162⟩ := id i162_1
                        refine aw_iload dX12_word_162 rfl ?_
                        refine aw_iload_n dX12_word_164 rfl ?_
                        refine aw_icmp_gt (tgt := 188) dX12_word_165 (by decide) (fun c_64 => ?_) (fun c_64 => ?_)
                        rotate_left
                        · exact absurd (nI_lt (a := wt) (b := (wt + 1)) (by omega) (by omega)) c_64
                        refine aw_iinc (v := (nI (j71 + 1))) (ls' := [some (.ref (b + 100)), some (.int (nI m)), some (.int f), some (.int (nI wt)), some (.int (nI (j71 + 1))), some (.int (nI (wt + 1))), none]) dX12_word_188 rfl (fx_up_1 _) (Nat.le_of_ble_eq_true rfl) rfl ?_
                        refine aw_goto (tgt := 71) dX12_word_191 (by decide) ?_
                        refine aw_le ?_ (ih_71_55 (j71 + 1)  V162 (by omega) (⟨g162, e162, z162⟩) (⟨_, i162_0⟩) (i162_2))
                        exact ⟨rfl, ⟨rfl, ⟨rfl, ⟨rfl, ⟨rfl, trivial⟩⟩⟩⟩⟩
                      | succ g_162 ih_162_62 =>
                        intro j162  V162 hj162 i162_0 i162_1 i162_2
                        have hlj162 : j162 < (wt + 1) := by omega
                        obtain ⟨g162, e162, z162⟩ := id i162_1
                        refine aw_iload dX12_word_162 rfl ?_
                        refine aw_iload_n dX12_word_164 rfl ?_
                        refine aw_icmp_gt (tgt := 188) dX12_word_165 (by decide) (fun c_65 => ?_) (fun c_65 => ?_)
                        · exact absurd ((nI_ltI (a := wt) (b := j162) (by omega) (by omega)).mp c_65) (by omega)
                        refine aw_aload_n dX12_word_168 rfl ?_
                        refine aw_get dX12_word_169 fl_X12_99 ((i162_2 100 (by omega)).trans k100) (by omega) rfl ?_
                        refine aw_iload dX12_word_172 rfl ?_
                        refine aw_aload_n dX12_word_174 rfl ?_
                        refine aw_get dX12_word_175 fl_X12_103 ((i162_2 100 (by omega)).trans k100) (by omega) rfl ?_
                        refine aw_iload dX12_word_178 rfl ?_
                        refine aw_lald (v := (h80 j162)) dX12_word_180 i162_0 (by omega) (vp_in_nI (n := j162) (by omega) (by omega)) (congrArg h80 (nI_clamp (n := j162) (by omega))) ?_
                        refine aw_last dX12_word_181 e162 (by omega) (vp_in_nI (n := j162) (by omega) (by omega)) ?_
                        refine aw_iinc (v := (nI (j162 + 1))) (ls' := [some (.ref (b + 100)), some (.int (nI m)), some (.int f), some (.int (nI wt)), some (.int (nI j71)), some (.int (nI (j162 + 1))), none]) dX12_word_182 rfl (fx_up_1 _) (Nat.le_of_ble_eq_true rfl) rfl ?_
                        refine aw_goto (tgt := 162) dX12_word_185 (by decide) ?_
                        refine aw_le ?_ (ih_162_62 (j162 + 1)  (va_up V162 130 (cJ D 129 (vp_updL g162 (Int32.toNatClampNeg (nI j162)) (h80 j162)))) (by omega) ((va_up_ne _ _ (by omega)).trans i162_0) (⟨_, va_up_self _ _ _, fun k hk => by rw [nI_clamp (n := j162) (by omega)]; exact (if e : k = j162 then (by rw [e, pk_uLs]; exact z80 _ (by omega)) else (by rw [pk_uLn e]; exact z162 k (by omega)))⟩) (fun i hi => (va_up_ne _ _ hi.1).trans (i162_2 i hi)))
                        exact ⟨rfl, ⟨rfl, ⟨rfl, ⟨rfl, ⟨rfl, ⟨rfl, trivial⟩⟩⟩⟩⟩⟩
                    refine aw_le ?_ (loop_162_61 (wt + 1) 0  V80 (by omega) (e80) (⟨_, i80_0, fun k hk => absurd hk (Nat.not_lt_zero k)⟩) (i80_2))
                    exact ⟨rfl, ⟨rfl, ⟨rfl, ⟨rfl, ⟨rfl, ⟨rfl, trivial⟩⟩⟩⟩⟩⟩
                  | succ g_80 ih_80_59 =>
                    intro j80  V80 hj80 i80_0 i80_1 i80_2
                    have hlj80 : j80 < (wt + 1) := by omega
                    obtain ⟨h80, e80, z80⟩ := id i80_1
                    refine aw_iload dX12_word_80 rfl ?_
                    refine aw_iload_n dX12_word_82 rfl ?_
                    refine aw_icmp_gt (tgt := 159) dX12_word_83 (by decide) (fun c_66 => ?_) (fun c_66 => ?_)
                    · exact absurd ((nI_ltI (a := wt) (b := j80) (by omega) (by omega)).mp c_66) (by omega)
                    refine aw_aload_n dX12_word_86 rfl ?_
                    refine aw_get dX12_word_87 fl_X12_103 ((i80_2 100 (by omega)).trans k100) (by omega) rfl ?_
                    refine aw_iload dX12_word_90 rfl ?_
                    refine aw_lconst (v := 0) dX12_word_92 (by decide) ?_
                    refine aw_last dX12_word_93 e80 (by omega) (vp_in_nI (n := j80) (by omega) (by omega)) ?_
                    refine aw_iconst (v := 0) dX12_word_94 (by decide) ?_
                    refine aw_istore (ls' := [some (.ref (b + 100)), some (.int (nI m)), some (.int f), some (.int (nI wt)), some (.int (nI j71)), some (.int (nI j80)), some (.int 0)]) dX12_word_95 (Nat.le_of_ble_eq_true rfl) rfl ?_
                    have loop_97_66 : ∀ (g_97 : Nat), ∀ (j97 : Nat)  (V97 : Wd), j97 + g_97 = 16 → (V97 130 = cJ D 129 g71) → (∃ h97 : Nat → Int64, V97 131 = cJ D 129 h97 ∧ h97 j80 = wsum f g71 j80 j97 ∧ ∀ k, k < j80 → h97 k = wds f (j71 + 1) k) → (∀ i, i ≠ 130 ∧ i ≠ 131 → V97 i = V i) → AW l D b jX12_word (fx_rm 1 0 0) none (fx_MQ D b 0 0 (fx_ql (fun r N9 V9 => r = (if (nI m) < 1 then (-1) else if 8 < (nI m) then (-1) else if f < 0 then (-1) else if f ≤ 65535 then (if (nI wt) < 0 then (-1) else if (nI wt) ≤ 128 then wds f (nI m).toNatClampNeg (nI wt).toNatClampNeg else (-1)) else (-1)) ∧ N = N9))) 97 [some (.ref (b + 100)), some (.int (nI m)), some (.int f), some (.int (nI wt)), some (.int (nI j71)), some (.int (nI j80)), some (.int (nI j97))] [] N V97 0 0 := by
                      intro g_97
                      induction g_97 with
                      | zero =>
                        intro j97  V97 hj97 i97_0 i97_1 i97_2
                        obtain rfl : j97 = 16 := by omega
                        obtain ⟨h97, e97, y97, z97⟩ := id i97_1
                        refine aw_iload dX12_word_97 rfl ?_
                        refine aw_bipush (v := 16) dX12_word_99 (by decide) ?_
                        refine aw_icmp_ge (tgt := 153) dX12_word_101 (by decide) (fun c_69 => ?_) (fun c_69 => ?_)
                        rotate_left
                        · exact absurd (nI_le (a := 16) (b := 16) (Nat.le_refl _) (by omega)) c_69
                        refine aw_iinc (v := (nI (j80 + 1))) (ls' := [some (.ref (b + 100)), some (.int (nI m)), some (.int f), some (.int (nI wt)), some (.int (nI j71)), some (.int (nI (j80 + 1))), some (.int (nI 16))]) dX12_word_153 rfl (fx_up_1 _) (Nat.le_of_ble_eq_true rfl) rfl ?_
                        refine aw_goto (tgt := 80) dX12_word_156 (by decide) ?_
                        refine aw_le ?_ (ih_80_59 (j80 + 1)  V97 (by omega) (i97_0) (⟨_, e97, fun k hk => (if e : k = j80 then (by rw [e]; exact y97.trans ((wsum_end (by omega) (by omega)).trans (wsum_congr (fun q hq => z71 q (by omega)) 16))) else z97 k (by omega))⟩) (i97_2))
                        exact ⟨rfl, ⟨rfl, ⟨rfl, ⟨rfl, ⟨rfl, ⟨rfl, trivial⟩⟩⟩⟩⟩⟩
                      | succ g_97 ih_97_67 =>
                        intro j97  V97 hj97 i97_0 i97_1 i97_2
                        have hlj97 : j97 < 16 := by omega
                        obtain ⟨h97, e97, y97, z97⟩ := id i97_1
                        refine aw_iload dX12_word_97 rfl ?_
                        refine aw_bipush (v := 16) dX12_word_99 (by decide) ?_
                        refine aw_icmp_ge (tgt := 153) dX12_word_101 (by decide) (fun c_70 => ?_) (fun c_70 => ?_)
                        · exact absurd c_70 (nI_ge (a := j97) (b := 16) (by omega) (by omega))
                        refine aw_iload dX12_word_104 rfl ?_
                        refine aw_iload dX12_word_106 rfl ?_
                        refine aw_icmp_ge (tgt := 153) dX12_word_108 (by decide) (fun c_71 => ?_) (fun c_71 => ?_)
                        · skip
                          have nc_71 : j80 ≤ j97 := (nI_leI (a := j80) (b := j97) (by omega) (by omega)).mp c_71
                          refine aw_iinc (v := (nI (j80 + 1))) (ls' := [some (.ref (b + 100)), some (.int (nI m)), some (.int f), some (.int (nI wt)), some (.int (nI j71)), some (.int (nI (j80 + 1))), some (.int (nI j97))]) dX12_word_153 rfl (fx_up_1 _) (Nat.le_of_ble_eq_true rfl) rfl ?_
                          refine aw_goto (tgt := 80) dX12_word_156 (by decide) ?_
                          refine aw_le ?_ (ih_80_59 (j80 + 1)  V97 (by omega) (i97_0) (⟨_, e97, fun k hk => (if e : k = j80 then (by rw [e]; exact y97.trans ((wsum_end (by omega) (by omega)).trans (wsum_congr (fun q hq => z71 q (by omega)) 16))) else z97 k (by omega))⟩) (i97_2))
                          exact ⟨rfl, ⟨rfl, ⟨rfl, ⟨rfl, ⟨rfl, ⟨rfl, trivial⟩⟩⟩⟩⟩⟩
                        · skip
                          have nc_71 : ¬ (j80 ≤ j97) := fun z => c_71 ((nI_leI (a := j80) (b := j97) (by omega) (by omega)).mpr z)
                          refine aw_iload_n dX12_word_111 rfl ?_
                          refine aw_iload dX12_word_112 rfl ?_
                          refine aw_callSi (J' := jX12_has) (As := [.int f, .int (nI j97)]) (st := []) dX12_word_114 tb_1315 ok_X12_has rfl (k_hasF l D b N V97 f (nI j97)) rfl (Nat.le_of_ble_eq_true rfl) ⟨Nat.le_of_ble_eq_true rfl, Nat.le_of_ble_eq_true rfl, Nat.le_of_ble_eq_true rfl, Nat.le_of_ble_eq_true rfl⟩ (fun r_72 N_73 V_74 q_75 => ?_)
                          obtain ⟨hr_72, rfl, rfl⟩ := q_75
                          refine aw_if_eq (tgt := 147) dX12_word_117 (by decide) (fun c_76 => ?_) (fun c_76 => ?_)
                          · skip
                            have hb := fx_if0 hr_72 c_76
                            refine aw_iinc (v := (nI (j97 + 1))) (ls' := [some (.ref (b + 100)), some (.int (nI m)), some (.int f), some (.int (nI wt)), some (.int (nI j71)), some (.int (nI j80)), some (.int (nI (j97 + 1)))]) dX12_word_147 rfl (fx_up_1 _) (Nat.le_of_ble_eq_true rfl) rfl ?_
                            refine aw_goto (tgt := 97) dX12_word_150 (by decide) ?_
                            refine aw_le ?_ (ih_97_67 (j97 + 1)  V97 (by omega) (i97_0) (⟨_, e97, by rw [wsum, if_pos hb]; exact y97, z97⟩) (i97_2))
                            exact ⟨rfl, ⟨rfl, ⟨rfl, ⟨rfl, ⟨rfl, ⟨rfl, ⟨rfl, trivial⟩⟩⟩⟩⟩⟩⟩
                          · skip
                            have hb := fx_if1 hr_72 c_76
                            refine aw_aload_n dX12_word_120 rfl ?_
                            refine aw_get dX12_word_121 fl_X12_103 ((i97_2 100 (by omega)).trans k100) (by omega) rfl ?_
                            refine aw_iload dX12_word_124 rfl ?_
                            refine aw_aload_n dX12_word_126 rfl ?_
                            refine aw_get dX12_word_127 fl_X12_103 ((i97_2 100 (by omega)).trans k100) (by omega) rfl ?_
                            refine aw_iload dX12_word_130 rfl ?_
                            refine aw_lald (v := (h97 j80)) dX12_word_132 e97 (by omega) (vp_in_nI (n := j80) (by omega) (by omega)) (congrArg h97 (nI_clamp (n := j80) (by omega))) ?_
                            refine aw_aload_n dX12_word_133 rfl ?_
                            refine aw_get dX12_word_134 fl_X12_99 ((i97_2 100 (by omega)).trans k100) (by omega) rfl ?_
                            refine aw_iload dX12_word_137 rfl ?_
                            refine aw_iload dX12_word_139 rfl ?_
                            refine aw_isub dX12_word_141 ?_
                            refine aw_eqi (y := (nI (j80 - j97))) (pk_sub (by omega)) ?_
                            refine aw_iconst (v := 1) dX12_word_142 (by decide) ?_
                            refine aw_isub dX12_word_143 ?_
                            refine aw_eqi (y := (nI (j80 - (j97 + 1)))) ((pk_sub (a := j80 - j97) (b := 1) (by omega)).trans (congrArg nI (Nat.sub_sub _ _ _))) ?_
                            refine aw_lald (v := (g71 (j80 - (j97 + 1)))) dX12_word_144 i97_0 (by omega) (vp_in_nI (n := (j80 - (j97 + 1))) (by omega) (by omega)) (congrArg g71 (nI_clamp (n := (j80 - (j97 + 1))) (by omega))) ?_
                            refine aw_ladd dX12_word_145 ?_
                            refine aw_last dX12_word_146 e97 (by omega) (vp_in_nI (n := j80) (by omega) (by omega)) ?_
                            refine aw_iinc (v := (nI (j97 + 1))) (ls' := [some (.ref (b + 100)), some (.int (nI m)), some (.int f), some (.int (nI wt)), some (.int (nI j71)), some (.int (nI j80)), some (.int (nI (j97 + 1)))]) dX12_word_147 rfl (fx_up_1 _) (Nat.le_of_ble_eq_true rfl) rfl ?_
                            refine aw_goto (tgt := 97) dX12_word_150 (by decide) ?_
                            refine aw_le ?_ (ih_97_67 (j97 + 1)  (va_up V97 131 (cJ D 129 (vp_updL h97 (Int32.toNatClampNeg (nI j80)) ((h97 j80) + (g71 (j80 - (j97 + 1))))))) (by omega) ((va_up_ne _ _ (by omega)).trans i97_0) (⟨_, va_up_self _ _ _, by rw [nI_clamp (n := j80) (by omega), pk_uLs, wsum, if_neg hb, if_pos (by omega), y97], fun k hk => by rw [nI_clamp (n := j80) (by omega), pk_uLn (by omega)]; exact z97 k hk⟩) (fun i hi => (va_up_ne _ _ hi.2).trans (i97_2 i hi)))
                            exact ⟨rfl, ⟨rfl, ⟨rfl, ⟨rfl, ⟨rfl, ⟨rfl, ⟨rfl, trivial⟩⟩⟩⟩⟩⟩⟩
                    refine aw_le ?_ (loop_97_66 16 0  (va_up V80 131 (cJ D 129 (vp_updL h80 (Int32.toNatClampNeg (nI j80)) 0))) (by omega) (((va_up_ne _ _ (by omega)).trans i80_0)) (⟨_, (va_up_self _ _ _), by rw [nI_clamp (n := j80) (by omega), pk_uLs]; rfl, fun k hk => by rw [nI_clamp (n := j80) (by omega), pk_uLn (by omega)]; exact z80 k hk⟩) (fun i hi => (va_up_ne _ _ hi.2).trans (i80_2 i hi)))
                    exact ⟨rfl, ⟨rfl, ⟨rfl, ⟨rfl, ⟨rfl, ⟨rfl, ⟨rfl, trivial⟩⟩⟩⟩⟩⟩⟩
                refine aw_le ?_ (loop_80_58 (wt + 1) 0  V71 (by omega) (e71) (⟨_, d71, fun k hk => absurd hk (Nat.not_lt_zero k)⟩) (i71_2))
                exact ⟨rfl, ⟨rfl, ⟨rfl, ⟨rfl, ⟨rfl, ⟨rfl, trivial⟩⟩⟩⟩⟩⟩
            refine aw_le ?_ (loop_71_54 m 0  V39 (by omega) (⟨_, e39, fun k hk => z39 k hk⟩) (⟨_, ((i39_1 131 (by omega)).trans k131)⟩) (fun i hi => i39_1 i hi.1))
            exact ⟨rfl, ⟨rfl, ⟨rfl, ⟨rfl, ⟨rfl, trivial⟩⟩⟩⟩⟩
          | succ g_39 ih_39_52 =>
            intro j39  V39 hj39 i39_0 i39_1
            have hlj39 : j39 < (wt + 1) := by omega
            obtain ⟨g39, e39, z39⟩ := id i39_0
            refine aw_iload dX12_word_39 rfl ?_
            refine aw_iload_n dX12_word_41 rfl ?_
            refine aw_icmp_gt (tgt := 68) dX12_word_42 (by decide) (fun c_77 => ?_) (fun c_77 => ?_)
            · exact absurd ((nI_ltI (a := wt) (b := j39) (by omega) (by omega)).mp c_77) (by omega)
            refine aw_aload_n dX12_word_45 rfl ?_
            refine aw_get dX12_word_46 fl_X12_99 ((i39_1 100 (by omega)).trans k100) (by omega) rfl ?_
            refine aw_iload dX12_word_49 rfl ?_
            refine aw_iload dX12_word_51 rfl ?_
            refine aw_if_ne (tgt := 60) dX12_word_53 (by decide) (fun c_78 => ?_) (fun c_78 => ?_)
            · skip
              have nc_78 : ¬ (j39 = 0) := fun z => c_78 ((nI_eq (a := j39) (b := 0) (by omega) (by omega)).mpr z)
              refine aw_lconst (v := 0) dX12_word_60 (by decide) ?_
              refine aw_last dX12_word_61 e39 (by omega) (vp_in_nI (n := j39) (by omega) (by omega)) ?_
              refine aw_iinc (v := (nI (j39 + 1))) (ls' := [some (.ref (b + 100)), some (.int (nI m)), some (.int f), some (.int (nI wt)), some (.int (nI (j39 + 1))), none, none]) dX12_word_62 rfl (fx_up_1 _) (Nat.le_of_ble_eq_true rfl) rfl ?_
              refine aw_goto (tgt := 39) dX12_word_65 (by decide) ?_
              refine aw_le ?_ (ih_39_52 (j39 + 1)  (va_up V39 130 (cJ D 129 (vp_updL g39 (Int32.toNatClampNeg (nI j39)) 0))) (by omega) (⟨_, va_up_self _ _ _, fun k hk => by rw [nI_clamp (n := j39) (by omega)]; exact (if e : k = j39 then (by rw [e, pk_uLs]; exact (if_neg nc_78).symm) else (by rw [pk_uLn e]; exact z39 k (by omega)))⟩) (fun i hi => (va_up_ne _ _ hi).trans (i39_1 i hi)))
              exact ⟨rfl, ⟨rfl, ⟨rfl, ⟨rfl, ⟨rfl, trivial⟩⟩⟩⟩⟩
            · skip
              have nc_78 : j39 = 0 := (nI_eq (a := j39) (b := 0) (by omega) (by omega)).mp c_78
              refine aw_lconst (v := 1) dX12_word_56 (by decide) ?_
              refine aw_goto (tgt := 61) dX12_word_57 (by decide) ?_
              refine aw_last dX12_word_61 e39 (by omega) (vp_in_nI (n := j39) (by omega) (by omega)) ?_
              refine aw_iinc (v := (nI (j39 + 1))) (ls' := [some (.ref (b + 100)), some (.int (nI m)), some (.int f), some (.int (nI wt)), some (.int (nI (j39 + 1))), none, none]) dX12_word_62 rfl (fx_up_1 _) (Nat.le_of_ble_eq_true rfl) rfl ?_
              refine aw_goto (tgt := 39) dX12_word_65 (by decide) ?_
              refine aw_le ?_ (ih_39_52 (j39 + 1)  (va_up V39 130 (cJ D 129 (vp_updL g39 (Int32.toNatClampNeg (nI j39)) 1))) (by omega) (⟨_, va_up_self _ _ _, fun k hk => by rw [nI_clamp (n := j39) (by omega)]; exact (if e : k = j39 then (by rw [e, pk_uLs]; exact (if_pos nc_78).symm) else (by rw [pk_uLn e]; exact z39 k (by omega)))⟩) (fun i hi => (va_up_ne _ _ hi).trans (i39_1 i hi)))
              exact ⟨rfl, ⟨rfl, ⟨rfl, ⟨rfl, ⟨rfl, trivial⟩⟩⟩⟩⟩
        refine aw_le ?_ (loop_39_51 (wt + 1) 0  V (by omega) (⟨_, k130, fun k hk => absurd hk (Nat.not_lt_zero k)⟩) (fun i _ => rfl))
        exact ⟨rfl, ⟨rfl, ⟨rfl, ⟨rfl, ⟨rfl, trivial⟩⟩⟩⟩⟩
