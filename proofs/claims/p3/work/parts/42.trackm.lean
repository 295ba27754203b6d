
theorem cp_step {D : va_G} {V0 V V' : Wd} {a0 a1 n j x : Nat} {gr gw : Nat → Int32} (e0 : V a0 = cI D n gr) (h0 : V a0 = V0 a0) (e1 : V a1 = cI D n gw) (e' : V' a1 = cI D n (upd gw x (gr j))) (hx : x = j) (h : ∀ k, k < j → fI (V a1) k = fI (V0 a0) k) : ∀ k, k < j + 1 → fI (V' a1) k = fI (V0 a0) k := by
  subst hx
  intro k hk
  have q : fI (V' a1) k = upd gw x (gr x) k := by rw [e']; rfl
  rw [q]
  by_cases e : k = x
  · subst e
    rw [pk_us, ← h0, e0]; rfl
  · rw [pk_un e]
    have := h k (by omega)
    rw [e1] at this
    exact this
theorem fx_min16' : True := trivial

set_option maxHeartbeats 4000000 in
set_option maxRecDepth 100000 in
theorem r_copiesK (l : Launch) (D : va_G) (b : Nat) (N : Nat) (V : Wd) (hN : 133 ≤ N) (cl : Nat) (hW : CR D b cl V) (a0 ia0 : Nat) (ha0 : (ctR D b cl)[ia0]? = some (isI D 210) ∧ a0 = 100 + ia0) (a1 ia1 : Nat) (ha1 : (ctR D b cl)[ia1]? = some (isI D 210) ∧ a1 = 100 + ia1) (hk1 : ¬ (117 ≤ a1 ∧ a1 ≤ 121)) (hne : a0 ≠ a1) : MV l D b 0 jX12_copies [.ref (b + a0), .ref (b + a1)] N V 0 0 (fun N9 V9 => (∀ k, k < 210 → fI (V9 a1) k = fI (V a0) k) ∧ N = N9 ∧ JR D b N cl [(a1, a1, 0, 1000000)] V V9) := by
  have hJ0 : JR D b N cl [(a1, a1, 0, 1000000)] V V := JR.rf hW
  have hlt_a0 := cm_lt ha0
  have hlt_a1 := cm_lt ha1
  refine mw_of (by decide) (by simp [Value.category]) (Nat.le_of_ble_eq_true rfl) ?_
  show AW l D b jX12_copies (fx_rm 0 0 0) none (fx_MQ D b 0 0 (fx_qv (fun N9 V9 => (∀ k, k < 210 → fI (V9 a1) k = fI (V a0) k) ∧ N = N9 ∧ JR D b N cl [(a1, a1, 0, 1000000)] V V9))) 0 [some (.ref (b + a0)), some (.ref (b + a1)), none] [] N V 0 0
  refine aw_iconst (v := 0) dX12_copies_0 (by decide) ?_
  refine aw_istore_n (ls' := [some (.ref (b + a0)), some (.ref (b + a1)), some (.int 0)]) dX12_copies_1 (Nat.le_of_ble_eq_true rfl) rfl ?_
  have loop_2_0 : ∀ (g_2 : Nat), ∀ (j2 : Nat)  (V2 : Wd), j2 + g_2 = 210 → (V2 a0 = V a0) → (∀ k, k < j2 → fI (V2 a1) k = fI (V a0) k) → (JR D b N cl [(a1, a1, 0, 1000000)] V V2) → AW l D b jX12_copies (fx_rm 0 0 0) none (fx_MQ D b 0 0 (fx_qv (fun N9 V9 => (∀ k, k < 210 → fI (V9 a1) k = fI (V a0) k) ∧ N = N9 ∧ JR D b N cl [(a1, a1, 0, 1000000)] V V9))) 2 [some (.ref (b + a0)), some (.ref (b + a1)), some (.int (nI j2))] [] N V2 0 0 := by
    intro g_2
    induction g_2 with
    | zero =>
      intro j2  V2 hj2 i2_0 i2_1 i2_2
      obtain rfl : j2 = 210 := by omega
      refine aw_iload_n dX12_copies_2 rfl ?_
      refine aw_sipush (v := 210) dX12_copies_3 (by decide) ?_
      refine aw_icmp_ge (tgt := 21) dX12_copies_6 (by decide) (fun c_3 => ?_) (fun c_3 => ?_)
      rotate_left
      · exact absurd (nI_le (a := 210) (b := 210) (Nat.le_refl _) (by omega)) c_3
      refine aw_vreti dX12_copies_21 rfl (Nat.le_of_ble_eq_true rfl) (Nat.le_of_ble_eq_true rfl) ?_
      exact ⟨i2_1, rfl, i2_2⟩
    | succ g_2 ih_2_1 =>
      intro j2  V2 hj2 i2_0 i2_1 i2_2
      have hlj2 : j2 < 210 := by omega
      refine aw_iload_n dX12_copies_2 rfl ?_
      refine aw_sipush (v := 210) dX12_copies_3 (by decide) ?_
      refine aw_icmp_ge (tgt := 21) dX12_copies_6 (by decide) (fun c_4 => ?_) (fun c_4 => ?_)
      · exact absurd c_4 (nI_ge (a := j2) (b := 210) (by omega) (by omega))
      refine aw_aload_n dX12_copies_9 rfl ?_
      refine aw_iload_n dX12_copies_10 rfl ?_
      refine aw_aload_n dX12_copies_11 rfl ?_
      refine aw_iload_n dX12_copies_12 rfl ?_
      obtain ⟨g_5, e_5⟩ := JR.get i2_2 ha0
      refine aw_iald (v := (g_5 j2)) dX12_copies_13 e_5 (by omega) (vp_in_nI (n := j2) (by omega) (by omega)) (congrArg g_5 (nI_clamp (n := j2) (by omega))) ?_
      obtain ⟨g_6, e_6⟩ := JR.get i2_2 ha1
      refine aw_iast dX12_copies_14 e_6 (by omega) (vp_in_nI (n := j2) (by omega) (by omega)) ?_
      refine aw_upR i2_2 ha1 ⟨_, rfl⟩ (by omega) (WA LM0 (by omega) (by omega)) (fun V_7 j_7 k_7 e_7 => ?_)
      refine aw_iinc (v := (nI (j2 + 1))) (ls' := [some (.ref (b + a0)), some (.ref (b + a1)), some (.int (nI (j2 + 1)))]) dX12_copies_15 rfl (fx_up_1 _) (Nat.le_of_ble_eq_true rfl) rfl ?_
      refine aw_goto (tgt := 2) dX12_copies_18 (by decide) ?_
      refine aw_le ?_ (ih_2_1 (j2 + 1)  V_7 (by omega) (((k_7 _ hne).trans i2_0)) ((cp_step e_5 i2_0 e_6 e_7 (nI_clamp (n := j2) (by omega)) i2_1)) (j_7))
      exact ⟨rfl, ⟨rfl, ⟨rfl, trivial⟩⟩⟩
  refine aw_le ?_ (loop_2_0 210 0  V (by omega) (rfl) (fun k h => absurd h (Nat.not_lt_zero k)) (hJ0))
  exact ⟨rfl, ⟨rfl, ⟨rfl, trivial⟩⟩⟩

set_option maxHeartbeats 4000000 in
set_option maxRecDepth 100000 in
theorem r_nightGoesK (l : Launch) (D : va_G) (b : Nat) (N : Nat) (V : Wd) (hN : 133 ≤ N) (cl : Nat) (hW : CR D b cl V)  (hwf : WF D cl V) : MV l D b 6 jX12_nightGoes [.ref (b + 100)] N V 0 0 (fun N9 V9 => (fI (V9 101) 208 = fI (V 101) 208 + 1) ∧ N = N9 ∧ JR D b N cl [(122, 125, 0, 1000000), (101, 101, 0, 191), (101, 101, 208, 208), (101, 101, 209, 209), (100, 100, 39, 39), (101, 101, 192, 207), (100, 100, 38, 38)] V V9) := by
  have hJ0 : JR D b N cl [(122, 125, 0, 1000000), (101, 101, 0, 191), (101, 101, 208, 208), (101, 101, 209, 209), (100, 100, 39, 39), (101, 101, 192, 207), (100, 100, 38, 38)] V V := JR.rf hW
  refine mw_of (by decide) (by simp [Value.category]) (Nat.le_of_ble_eq_true rfl) ?_
  show AW l D b jX12_nightGoes (fx_rm 6 0 0) none (fx_MQ D b 0 0 (fx_qv (fun N9 V9 => (fI (V9 101) 208 = fI (V 101) 208 + 1) ∧ N = N9 ∧ JR D b N cl [(122, 125, 0, 1000000), (101, 101, 0, 191), (101, 101, 208, 208), (101, 101, 209, 209), (100, 100, 39, 39), (101, 101, 192, 207), (100, 100, 38, 38)] V V9))) 0 [some (.ref (b + 100)), none] [] N V 0 0
  refine aw_iconst (v := 0) dX12_nightGoes_0 (by decide) ?_
  refine aw_istore_n (ls' := [some (.ref (b + 100)), some (.int 0)]) dX12_nightGoes_1 (Nat.le_of_ble_eq_true rfl) rfl ?_
  have loop_2_0 : ∀ (g_2 : Nat), ∀ (j2 : Nat)  (V2 : Wd), j2 + g_2 = 12 → (JR D b N cl [(122, 125, 0, 1000000), (101, 101, 0, 191), (101, 101, 208, 208), (101, 101, 209, 209), (100, 100, 39, 39), (101, 101, 192, 207), (100, 100, 38, 38)] V V2) → (fI (V2 101) 208 = (fI (V 101) 208)) → AW l D b jX12_nightGoes (fx_rm 6 0 0) none (fx_MQ D b 0 0 (fx_qv (fun N9 V9 => (fI (V9 101) 208 = fI (V 101) 208 + 1) ∧ N = N9 ∧ JR D b N cl [(122, 125, 0, 1000000), (101, 101, 0, 191), (101, 101, 208, 208), (101, 101, 209, 209), (100, 100, 39, 39), (101, 101, 192, 207), (100, 100, 38, 38)] V V9))) 2 [some (.ref (b + 100)), some (.int (nI j2))] [] N V2 0 0 := by
    intro g_2
    induction g_2 with
    | zero =>
      intro j2  V2 hj2 i2_0 i2_1
      obtain rfl : j2 = 12 := by omega
      refine aw_iload_n dX12_nightGoes_2 rfl ?_
      refine aw_bipush (v := 12) dX12_nightGoes_3 (by decide) ?_
      refine aw_icmp_ge (tgt := 27) dX12_nightGoes_5 (by decide) (fun c_3 => ?_) (fun c_3 => ?_)
      rotate_left
      · exact absurd (nI_le (a := 12) (b := 12) (Nat.le_refl _) (by omega)) c_3
      refine aw_aload_n dX12_nightGoes_27 rfl ?_
      obtain ⟨ftoldPeople_7, ftoldDoors_7, fwasDoors_7, ffault_7, fopen_7, flines_7, fmeantSet_7, fopenedNow_7, fvainNow_7, flowNow_7, fhighNow_7, fisKept_7, tad_7, pl0_7, le0_7, nu0_7, coy_7, wag_7, say_7, e_7, hntad_7, hnpl0_7, hnle0_7, hnnu0_7, hncoy_7, hnwag_7, hnsay_7⟩ := JR.get i2_0 cm_100
      refine aw_callVv (J' := jX12_catches) (As := []) (st := []) dX12_nightGoes_28 tb_1434 ok_X12_catches ⟨_, e_7⟩ (by omega) rfl rfl (r_catches l D b N V2 hN cl i2_0.1 (WF.fr hwf i2_0.2.2.1)) rfl (Nat.le_of_ble_eq_true rfl) ⟨Nat.le_of_ble_eq_true rfl, Nat.le_of_ble_eq_true rfl, Nat.le_of_ble_eq_true rfl, Nat.le_of_ble_eq_true rfl⟩ (fun  N_8 V_6 q_9 => ?_)
      obtain ⟨rfl, q_4⟩ := q_9
      have j_5 := JR.trans i2_0 (JR.weak q_4 (Sub.cons LM0 (by decide) (by decide) (by decide) (Or.inl rfl) (Sub.cons (LMs LM0) (by decide) (by decide) (by decide) (Or.inr ⟨by decide, by decide⟩) Sub.nil)))
      refine aw_aload_n dX12_nightGoes_31 rfl ?_
      obtain ⟨ftoldPeople_10, ftoldDoors_10, fwasDoors_10, ffault_10, fopen_10, flines_10, fmeantSet_10, fopenedNow_10, fvainNow_10, flowNow_10, fhighNow_10, fisKept_10, tad_10, pl0_10, le0_10, nu0_10, coy_10, wag_10, say_10, e_10, hntad_10, hnpl0_10, hnle0_10, hnnu0_10, hncoy_10, hnwag_10, hnsay_10⟩ := JR.get j_5 cm_100
      refine aw_get dX12_nightGoes_32 fl_X12_7 e_10 (by omega) rfl ?_
      refine aw_sipush (v := 208) dX12_nightGoes_35 (by decide) ?_
      refine aw_aload_n dX12_nightGoes_38 rfl ?_
      refine aw_get dX12_nightGoes_39 fl_X12_7 e_10 (by omega) rfl ?_
      refine aw_sipush (v := 208) dX12_nightGoes_42 (by decide) ?_
      obtain ⟨g_11, e_11⟩ := JR.get j_5 cm_101
      refine aw_iald (v := (g_11 208)) dX12_nightGoes_45 e_11 (by omega) (vp_in_nI (n := 208) (N := 210) (by decide) (by decide)) (congrArg g_11 (nI_clamp (n := 208) (by omega))) ?_
      refine aw_eqi (y := (fI (V 101) 208)) ((Eq.symm (congrArg (fun z => fI z 208) e_11)).trans ((JR.fI q_4 (by decide) (by decide) (nfc (by omega) (nfc (by omega) nf0))).trans i2_1)) ?_
      refine aw_iconst (v := 1) dX12_nightGoes_46 (by decide) ?_
      refine aw_iadd dX12_nightGoes_47 ?_
      refine aw_iast dX12_nightGoes_48 e_11 (by omega) (vp_in_nI (n := 208) (N := 210) (by decide) (by decide)) ?_
      refine aw_upR j_5 cm_101 ⟨_, rfl⟩ (by decide) (WE e_11 (LMs (LMs LM0)) (by decide) (by decide) (by decide) (by decide)) (fun V_12 j_12 k_12 e_12 => ?_)
      refine aw_vreti dX12_nightGoes_49 rfl (Nat.le_of_ble_eq_true rfl) (Nat.le_of_ble_eq_true rfl) ?_
      exact ⟨((congrArg (fun z => fI z 208) e_12).trans (Eq.trans (congrArg (fun q => upd _ q _ 208) (show Int32.toNatClampNeg 208 = 208 by decide)) pk_us)), rfl, j_12⟩
    | succ g_2 ih_2_1 =>
      intro j2  V2 hj2 i2_0 i2_1
      have hlj2 : j2 < 12 := by omega
      refine aw_iload_n dX12_nightGoes_2 rfl ?_
      refine aw_bipush (v := 12) dX12_nightGoes_3 (by decide) ?_
      refine aw_icmp_ge (tgt := 27) dX12_nightGoes_5 (by decide) (fun c_13 => ?_) (fun c_13 => ?_)
      · exact absurd c_13 (nI_ge (a := j2) (b := 12) (by omega) (by omega))
      refine aw_aload_n dX12_nightGoes_8 rfl ?_
      refine aw_iload_n dX12_nightGoes_9 rfl ?_
      obtain ⟨ftoldPeople_17, ftoldDoors_17, fwasDoors_17, ffault_17, fopen_17, flines_17, fmeantSet_17, fopenedNow_17, fvainNow_17, flowNow_17, fhighNow_17, fisKept_17, tad_17, pl0_17, le0_17, nu0_17, coy_17, wag_17, say_17, e_17, hntad_17, hnpl0_17, hnle0_17, hnnu0_17, hncoy_17, hnwag_17, hnsay_17⟩ := JR.get i2_0 cm_100
      refine aw_callVi (J' := jX12_isTold) (As := [.int (nI j2)]) (st := []) dX12_nightGoes_10 tb_1351 ok_X12_isTold ⟨_, e_17⟩ (by omega) rfl rfl (r_isTold l D b N V2 hN cl i2_0.1 (nI j2)) rfl (Nat.le_of_ble_eq_true rfl) ⟨Nat.le_of_ble_eq_true rfl, Nat.le_of_ble_eq_true rfl, Nat.le_of_ble_eq_true rfl, Nat.le_of_ble_eq_true rfl⟩ (fun r_18 N_19 V_20 q_21 => ?_)
      obtain ⟨⟨z_16, h_15⟩, rfl, rfl⟩ := q_21
      refine aw_if_eq (tgt := 21) dX12_nightGoes_13 (by decide) (fun c_22 => ?_) (fun c_22 => ?_)
      · skip
        refine aw_iinc (v := (nI (j2 + 1))) (ls' := [some (.ref (b + 100)), some (.int (nI (j2 + 1)))]) dX12_nightGoes_21 rfl (fx_up_1 _) (Nat.le_of_ble_eq_true rfl) rfl ?_
        refine aw_goto (tgt := 2) dX12_nightGoes_24 (by decide) ?_
        refine aw_le ?_ (ih_2_1 (j2 + 1)  V2 (by omega) (i2_0) (i2_1))
        exact ⟨rfl, ⟨rfl, trivial⟩⟩
      · skip
        refine aw_aload_n dX12_nightGoes_16 rfl ?_
        refine aw_iload_n dX12_nightGoes_17 rfl ?_
        refine aw_callVv (J' := jX12_goesOut) (As := [.int (nI j2)]) (st := []) dX12_nightGoes_18 tb_1379 ok_X12_goesOut ⟨_, e_17⟩ (by omega) rfl rfl (r_goesOut l D b N V2 hN cl i2_0.1 (nI j2) ⟨j2, by omega, rfl⟩ (WF.fr hwf i2_0.2.2.1)) rfl (Nat.le_of_ble_eq_true rfl) ⟨Nat.le_of_ble_eq_true rfl, Nat.le_of_ble_eq_true rfl, Nat.le_of_ble_eq_true rfl, Nat.le_of_ble_eq_true rfl⟩ (fun  N_26 V_25 q_27 => ?_)
        obtain ⟨rfl, q_23⟩ := q_27
        have j_24 := JR.trans i2_0 (JR.weak q_23 (Sub.cons LM0 (by decide) (by decide) (by decide) (Or.inl rfl) (Sub.cons (LMs (LMs (LMs LM0))) (by decide) (by decide) (by decide) (Or.inr ⟨by decide, by decide⟩) (Sub.cons (LMs LM0) (by decide) (by decide) (by decide) (Or.inr ⟨by decide, by decide⟩) (Sub.cons (LMs (LMs (LMs (LMs LM0)))) (by decide) (by decide) (by decide) (Or.inr ⟨by decide, by decide⟩) (Sub.cons (LMs (LMs (LMs (LMs (LMs LM0))))) (by decide) (by decide) (by decide) (Or.inr ⟨by decide, by decide⟩) (Sub.cons (LMs (LMs (LMs (LMs (LMs (LMs LM0)))))) (by decide) (by decide) (by decide) (Or.inr ⟨by decide, by decide⟩) Sub.nil)))))))
        refine aw_iinc (v := (nI (j2 + 1))) (ls' := [some (.ref (b + 100)), some (.int (nI (j2 + 1)))]) dX12_nightGoes_21 rfl (fx_up_1 _) (Nat.le_of_ble_eq_true rfl) rfl ?_
        refine aw_goto (tgt := 2) dX12_nightGoes_24 (by decide) ?_
        refine aw_le ?_ (ih_2_1 (j2 + 1)  V_25 (by omega) (j_24) (((JR.fI q_23 (by decide) (by decide) (nfc (by omega) (nfc (by omega) (nfc (by omega) (nfc (by omega) (nfc (by omega) (nfc (by omega) nf0))))))).trans i2_1)))
        exact ⟨rfl, ⟨rfl, trivial⟩⟩
  refine aw_le ?_ (loop_2_0 12 0  V (by omega) (hJ0) ((Eq.refl (fI (V 101) 208))))
  exact ⟨rfl, ⟨rfl, trivial⟩⟩

set_option maxHeartbeats 4000000 in
set_option maxRecDepth 100000 in
theorem r_nightsGoK (l : Launch) (D : va_G) (b : Nat) (N : Nat) (V : Wd) (hN : 133 ≤ N) (cl : Nat) (hW : CR D b cl V) (n0 : Int32) (hwf : WF D cl V) : MV l D b 7 jX12_nightsGo [.ref (b + 100), .int n0] N V 0 0 (fun N9 V9 => (fI (V9 101) 208 = ntF (Int32.toNatClampNeg n0) (fI (V 101) 208)) ∧ N = N9 ∧ JR D b N cl [(122, 125, 0, 1000000), (100, 100, 38, 38), (100, 100, 39, 39), (101, 101, 0, 191), (101, 101, 208, 208), (101, 101, 209, 209), (101, 101, 192, 207)] V V9) := by
  have hJ0 : JR D b N cl [(122, 125, 0, 1000000), (100, 100, 38, 38), (100, 100, 39, 39), (101, 101, 0, 191), (101, 101, 208, 208), (101, 101, 209, 209), (101, 101, 192, 207)] V V := JR.rf hW
  refine mw_of (by decide) (by simp [Value.category]) (Nat.le_of_ble_eq_true rfl) ?_
  show AW l D b jX12_nightsGo (fx_rm 7 0 0) none (fx_MQ D b 0 0 (fx_qv (fun N9 V9 => (fI (V9 101) 208 = ntF (Int32.toNatClampNeg n0) (fI (V 101) 208)) ∧ N = N9 ∧ JR D b N cl [(122, 125, 0, 1000000), (100, 100, 38, 38), (100, 100, 39, 39), (101, 101, 0, 191), (101, 101, 208, 208), (101, 101, 209, 209), (101, 101, 192, 207)] V V9))) 0 [some (.ref (b + 100)), some (.int n0), none] [] N V 0 0
  refine aw_aload_n dX12_nightsGo_0 rfl ?_
  refine aw_iconst (v := 0) dX12_nightsGo_1 (by decide) ?_
  obtain ⟨ftoldPeople_1, ftoldDoors_1, fwasDoors_1, ffault_1, fopen_1, flines_1, fmeantSet_1, fopenedNow_1, fvainNow_1, flowNow_1, fhighNow_1, fisKept_1, tad_1, pl0_1, le0_1, nu0_1, coy_1, wag_1, say_1, e_1, hntad_1, hnpl0_1, hnle0_1, hnnu0_1, hncoy_1, hnwag_1, hnsay_1⟩ := JR.get hJ0 cm_100
  refine aw_put dX12_nightsGo_2 fp_X12_321 e_1 (by omega) rfl rfl (Nat.le_of_ble_eq_true rfl) rfl ?_
  refine aw_upR hJ0 cm_100 ⟨_, _, _, _, _, _, _, _, _, _, _, _, tad_1, pl0_1, le0_1, nu0_1, coy_1, wag_1, say_1, rfl, by omega, by omega, by omega, by omega, by omega, by omega, by omega⟩ (by decide) (WO (s := 38) (x := .int 0) e_1 rfl (LMs LM0) (by decide) (by decide) (by decide) (Or.inl (by decide))) (fun V_2 j_2 k_2 e_2 => ?_)
  refine aw_aload_n dX12_nightsGo_5 rfl ?_
  refine aw_iconst (v := 0) dX12_nightsGo_6 (by decide) ?_
  refine aw_put dX12_nightsGo_7 fp_X12_324 e_2 (by omega) rfl rfl (Nat.le_of_ble_eq_true rfl) rfl ?_
  refine aw_upR j_2 cm_100 ⟨_, _, _, _, _, _, _, _, _, _, _, _, tad_1, pl0_1, le0_1, nu0_1, coy_1, wag_1, say_1, rfl, by omega, by omega, by omega, by omega, by omega, by omega, by omega⟩ (by decide) (WO (s := 39) (x := .int 0) e_2 rfl (LMs (LMs LM0)) (by decide) (by decide) (by decide) (Or.inl (by decide))) (fun V_3 j_3 k_3 e_3 => ?_)
  refine aw_iconst (v := 0) dX12_nightsGo_10 (by decide) ?_
  refine aw_istore_n (ls' := [some (.ref (b + 100)), some (.int n0), some (.int 0)]) dX12_nightsGo_11 (Nat.le_of_ble_eq_true rfl) rfl ?_
  have hb_4 := fx_clt n0
  have loop_12_4 : ∀ (g_12 : Nat), ∀ (j12 : Nat)  (V12 : Wd), j12 + g_12 = (Int32.toNatClampNeg n0) → (ntF ((Int32.toNatClampNeg n0) - j12) (fI (V12 101) 208) = ntF (Int32.toNatClampNeg n0) (fI (V 101) 208)) → (JR D b N cl [(122, 125, 0, 1000000), (100, 100, 38, 38), (100, 100, 39, 39), (101, 101, 0, 191), (101, 101, 208, 208), (101, 101, 209, 209), (101, 101, 192, 207)] V V12) → AW l D b jX12_nightsGo (fx_rm 7 0 0) none (fx_MQ D b 0 0 (fx_qv (fun N9 V9 => (fI (V9 101) 208 = ntF (Int32.toNatClampNeg n0) (fI (V 101) 208)) ∧ N = N9 ∧ JR D b N cl [(122, 125, 0, 1000000), (100, 100, 38, 38), (100, 100, 39, 39), (101, 101, 0, 191), (101, 101, 208, 208), (101, 101, 209, 209), (101, 101, 192, 207)] V V9))) 12 [some (.ref (b + 100)), some (.int n0), some (.int (nI j12))] [] N V12 0 0 := by
    intro g_12
    induction g_12 with
    | zero =>
      intro j12  V12 hj12 i12_0 i12_1
      obtain rfl : j12 = (Int32.toNatClampNeg n0) := by omega
      refine aw_iload_n dX12_nightsGo_12 rfl ?_
      refine aw_iload_n dX12_nightsGo_13 rfl ?_
      refine aw_icmp_ge (tgt := 41) dX12_nightsGo_14 (by decide) (fun c_7 => ?_) (fun c_7 => ?_)
      rotate_left
      · exact absurd (fx_gec n0) c_7
      refine aw_vreti dX12_nightsGo_41 rfl (Nat.le_of_ble_eq_true rfl) (Nat.le_of_ble_eq_true rfl) ?_
      exact ⟨(ntF_end i12_0), rfl, i12_1⟩
    | succ g_12 ih_12_5 =>
      intro j12  V12 hj12 i12_0 i12_1
      have hlj12 : j12 < (Int32.toNatClampNeg n0) := by omega
      refine aw_iload_n dX12_nightsGo_12 rfl ?_
      refine aw_iload_n dX12_nightsGo_13 rfl ?_
      refine aw_icmp_ge (tgt := 41) dX12_nightsGo_14 (by decide) (fun c_8 => ?_) (fun c_8 => ?_)
      · exact absurd c_8 (fx_gej (by omega))
      refine aw_aload_n dX12_nightsGo_17 rfl ?_
      obtain ⟨ftoldPeople_9, ftoldDoors_9, fwasDoors_9, ffault_9, fopen_9, flines_9, fmeantSet_9, fopenedNow_9, fvainNow_9, flowNow_9, fhighNow_9, fisKept_9, tad_9, pl0_9, le0_9, nu0_9, coy_9, wag_9, say_9, e_9, hntad_9, hnpl0_9, hnle0_9, hnnu0_9, hncoy_9, hnwag_9, hnsay_9⟩ := JR.get i12_1 cm_100
      refine aw_get dX12_nightsGo_18 fl_X12_7 e_9 (by omega) rfl ?_
      refine aw_sipush (v := 208) dX12_nightsGo_21 (by decide) ?_
      obtain ⟨g_10, e_10⟩ := JR.get i12_1 cm_101
      refine aw_iald (v := (g_10 208)) dX12_nightsGo_24 e_10 (by omega) (vp_in_nI (n := 208) (N := 210) (by decide) (by decide)) (congrArg g_10 (nI_clamp (n := 208) (by omega))) ?_
      refine aw_eqi (y := (fI (V12 101) 208)) ((Eq.symm (congrArg (fun z => fI z 208) e_10)).trans (Eq.refl (fI (V12 101) 208))) ?_
      refine aw_sipush (v := 9999) dX12_nightsGo_25 (by decide) ?_
      refine aw_icmp_ge (tgt := 41) dX12_nightsGo_28 (by decide) (fun c_11 => ?_) (fun c_11 => ?_)
      · skip
        refine aw_vreti dX12_nightsGo_41 rfl (Nat.le_of_ble_eq_true rfl) (Nat.le_of_ble_eq_true rfl) ?_
        exact ⟨(ntF_stop (Int32.not_lt.mpr c_11) i12_0), rfl, i12_1⟩
      · skip
        refine aw_aload_n dX12_nightsGo_31 rfl ?_
        refine aw_callVv (J' := jX12_nightGoes) (As := []) (st := []) dX12_nightsGo_32 tb_1375 ok_X12_nightGoes ⟨_, e_9⟩ (by omega) rfl rfl (r_nightGoesK l D b N V12 hN cl i12_1.1 (WF.fr hwf i12_1.2.2.1)) rfl (Nat.le_of_ble_eq_true rfl) ⟨Nat.le_of_ble_eq_true rfl, Nat.le_of_ble_eq_true rfl, Nat.le_of_ble_eq_true rfl, Nat.le_of_ble_eq_true rfl⟩ (fun  N_16 V_15 q_17 => ?_)
        obtain ⟨h_13, rfl, q_12⟩ := q_17
        have j_14 := JR.trans i12_1 (JR.weak q_12 (Sub.cons LM0 (by decide) (by decide) (by decide) (Or.inl rfl) (Sub.cons (LMs (LMs (LMs LM0))) (by decide) (by decide) (by decide) (Or.inr ⟨by decide, by decide⟩) (Sub.cons (LMs (LMs (LMs (LMs LM0)))) (by decide) (by decide) (by decide) (Or.inr ⟨by decide, by decide⟩) (Sub.cons (LMs (LMs (LMs (LMs (LMs LM0))))) (by decide) (by decide) (by decide) (Or.inr ⟨by decide, by decide⟩) (Sub.cons (LMs (LMs LM0)) (by decide) (by decide) (by decide) (Or.inr ⟨by decide, by decide⟩) (Sub.cons (LMs (LMs (LMs (LMs (LMs (LMs LM0)))))) (by decide) (by decide) (by decide) (Or.inr ⟨by decide, by decide⟩) (Sub.cons (LMs LM0) (by decide) (by decide) (by decide) (Or.inr ⟨by decide, by decide⟩) Sub.nil))))))))
        refine aw_iinc (v := (nI (j12 + 1))) (ls' := [some (.ref (b + 100)), some (.int n0), some (.int (nI (j12 + 1)))]) dX12_nightsGo_35 rfl (fx_up_1 _) (Nat.le_of_ble_eq_true rfl) rfl ?_
        refine aw_goto (tgt := 12) dX12_nightsGo_38 (by decide) ?_
        refine aw_le ?_ (ih_12_5 (j12 + 1)  V_15 (by omega) (ntF_step (by omega) (Int32.not_le.mp c_11) (h_13.trans (congrArg (fun q => q + 1) (Eq.refl (fI (V12 101) 208)))) i12_0) (j_14))
        exact ⟨rfl, ⟨rfl, ⟨rfl, trivial⟩⟩⟩
  refine aw_le ?_ (loop_12_4 (Int32.toNatClampNeg n0) 0  V_3 (by omega) (congrArg (ntF (Int32.toNatClampNeg n0)) (KA (s := 39) (x := .int 0) e_2 rfl (by decide) e_3 k_3 (KA (s := 38) (x := .int 0) e_1 rfl (by decide) e_2 k_2 (Eq.refl (fI (V 101) 208))))) (j_3))
  exact ⟨rfl, ⟨rfl, ⟨rfl, trivial⟩⟩⟩

set_option maxHeartbeats 4000000 in
set_option maxRecDepth 100000 in
theorem r_inK (l : Launch) (D : va_G) (b : Nat) (N : Nat) (V : Wd) (hN : 133 ≤ N) (cl : Nat) (hW : CR D b cl V) (n0 : Int32) (n1 : Int32) (n2 : Int32)  : MI l D b 0 jX12_in [.int n0, .int n1, .int n2] N V 0 0 (fun r N9 V9 => ((r = 0 ∨ r = 1) ∧ ((r = 0 ∨ (n1 ≤ n0 ∧ n0 ≤ n2)) ∧ (r = 0 → ¬ (n1 ≤ n0 ∧ n0 ≤ n2)))) ∧ N = N9 ∧ V = V9) := by
  have hJ0 : JR D b N cl [] V V := JR.rf hW
  refine mw_of (by decide) (by simp [Value.category]) (Nat.le_of_ble_eq_true rfl) ?_
  show AW l D b jX12_in (fx_rm 0 0 0) none (fx_MQ D b 0 0 (fx_qi (fun r N9 V9 => ((r = 0 ∨ r = 1) ∧ ((r = 0 ∨ (n1 ≤ n0 ∧ n0 ≤ n2)) ∧ (r = 0 → ¬ (n1 ≤ n0 ∧ n0 ≤ n2)))) ∧ N = N9 ∧ V = V9))) 0 [some (.int n0), some (.int n1), some (.int n2)] [] N V 0 0
  refine aw_iload_n dX12_in_0 rfl ?_
  refine aw_iload_n dX12_in_1 rfl ?_
  refine aw_icmp_lt (tgt := 14) dX12_in_2 (by decide) (fun c_1 => ?_) (fun c_1 => ?_)
  · skip
    refine aw_iconst (v := 0) dX12_in_14 (by decide) ?_
    refine aw_zreti dX12_in_15 rfl (by first | exact Or.inl rfl | exact Or.inr rfl | assumption) (Nat.le_of_ble_eq_true rfl) (Nat.le_of_ble_eq_true rfl) ?_
    exact ⟨⟨(by first | exact Or.inl rfl | exact Or.inr rfl | assumption), ⟨Or.inl rfl, fun _ z => by first | exact absurd c_1 (Int32.not_lt.mpr z.1) | exact absurd c_1 (Int32.not_lt.mpr z.2)⟩⟩, rfl, rfl⟩
  · skip
    refine aw_iload_n dX12_in_5 rfl ?_
    refine aw_iload_n dX12_in_6 rfl ?_
    refine aw_icmp_gt (tgt := 14) dX12_in_7 (by decide) (fun c_2 => ?_) (fun c_2 => ?_)
    · skip
      refine aw_iconst (v := 0) dX12_in_14 (by decide) ?_
      refine aw_zreti dX12_in_15 rfl (by first | exact Or.inl rfl | exact Or.inr rfl | assumption) (Nat.le_of_ble_eq_true rfl) (Nat.le_of_ble_eq_true rfl) ?_
      exact ⟨⟨(by first | exact Or.inl rfl | exact Or.inr rfl | assumption), ⟨Or.inl rfl, fun _ z => by first | exact absurd c_2 (Int32.not_lt.mpr z.1) | exact absurd c_2 (Int32.not_lt.mpr z.2)⟩⟩, rfl, rfl⟩
    · skip
      refine aw_iconst (v := 1) dX12_in_10 (by decide) ?_
      refine aw_goto (tgt := 15) dX12_in_11 (by decide) ?_
      refine aw_zreti dX12_in_15 rfl (by first | exact Or.inl rfl | exact Or.inr rfl | assumption) (Nat.le_of_ble_eq_true rfl) (Nat.le_of_ble_eq_true rfl) ?_
      exact ⟨⟨(by first | exact Or.inl rfl | exact Or.inr rfl | assumption), ⟨Or.inr ⟨Int32.not_lt.mp c_1, Int32.not_lt.mp c_2⟩, fun z => absurd z (by decide)⟩⟩, rfl, rfl⟩

set_option maxHeartbeats 20000000 in
set_option maxRecDepth 100000 in
theorem r_guardsK (l : Launch) (D : va_G) (b : Nat) (N : Nat) (V : Wd) (hN : 133 ≤ N) (cl : Nat) (hW : CR D b cl V) (n0 : Int32) (m0 : Int32) (hm : m0 = n0) : MI l D b 4 jX12_guards [.ref (b + 100), .int n0] N V 0 0 (fun r N9 V9 => (TKS (cIn m0 3 6 (fI (V 100) 13)) (fI (V 100) 13) (fI (V9 100) 13)) ∧ N = N9 ∧ JR D b N cl [(129, 129, 0, 1000000), (100, 100, 13, 13)] V V9) := by
  have hJ0 : JR D b N cl [(129, 129, 0, 1000000), (100, 100, 13, 13)] V V := JR.rf hW
  refine mw_of (by decide) (by simp [Value.category]) (Nat.le_of_ble_eq_true rfl) ?_
  show AW l D b jX12_guards (fx_rm 4 0 0) none (fx_MQ D b 0 0 (fx_qi (fun r N9 V9 => (TKS (cIn m0 3 6 (fI (V 100) 13)) (fI (V 100) 13) (fI (V9 100) 13)) ∧ N = N9 ∧ JR D b N cl [(129, 129, 0, 1000000), (100, 100, 13, 13)] V V9))) 0 [some (.ref (b + 100)), some (.int n0), none, none, none] [] N V 0 0
  obtain ⟨ftoldPeople_1, ftoldDoors_1, fwasDoors_1, ffault_1, fopen_1, flines_1, fmeantSet_1, fopenedNow_1, fvainNow_1, flowNow_1, fhighNow_1, fisKept_1, tad_1, pl0_1, le0_1, nu0_1, coy_1, wag_1, say_1, e_1, hntad_1, hnpl0_1, hnle0_1, hnnu0_1, hncoy_1, hnwag_1, hnsay_1⟩ := JR.get hJ0 cm_100
  have hta0 : fI (V 100) 13 = nI tad_1 := ((congrArg (fun z => fI z 13) e_1).trans rfl)
  refine aw_iload_n dX12_guards_0 rfl ?_
  refine aw_iconst (v := 3) dX12_guards_1 (by decide) ?_
  refine aw_bipush (v := 6) dX12_guards_2 (by decide) ?_
  refine aw_callSi (J' := jX12_in) (As := [.int n0, .int 3, .int 6]) (st := []) dX12_guards_4 tb_1209 ok_X12_in rfl (r_inK l D b N V hN cl hJ0.1 n0 3 6) rfl (Nat.le_of_ble_eq_true rfl) ⟨Nat.le_of_ble_eq_true rfl, Nat.le_of_ble_eq_true rfl, Nat.le_of_ble_eq_true rfl, Nat.le_of_ble_eq_true rfl⟩ (fun r_7 N_8 V_9 q_10 => ?_)
  obtain ⟨⟨z_4, h_3⟩, rfl, rfl⟩ := q_10
  obtain ⟨hi_5, hi_6⟩ := h_3
  refine aw_if_eq (tgt := 18) dX12_guards_7 (by decide) (fun c_11 => ?_) (fun c_11 => ?_)
  · skip
    refine aw_iconst (v := (-1)) dX12_guards_18 (by decide) ?_
    refine aw_ireti dX12_guards_19 rfl (Nat.le_of_ble_eq_true rfl) (Nat.le_of_ble_eq_true rfl) ?_
    exact ⟨Or.inr ⟨(by have zhi_6 := hi_6 c_11; have zt := fx_nIt (n := tad_1) (by omega); have e0 : (0 : Int32).toInt = 0 := (by decide); have e3 : (3 : Int32).toInt = 3 := (by decide); have e6 : (6 : Int32).toInt = 6 := (by decide); have q0 := zhi_6; have q1 := hm; have q2 := hta0; simp only [cIn, ← Int32.toInt_inj, Int32.le_iff_toInt_le, Int32.lt_iff_toInt_lt] at q0 q1 q2 ⊢; omega), (Eq.refl (fI (V 100) 13))⟩, rfl, hJ0⟩
  · skip
    obtain ⟨zn0, h0zn0, hzn0, rfl⟩ := in_nat (a := 3) (b := 6) (by decide) (hi_5.resolve_left c_11)
    refine aw_iload_n dX12_guards_10 rfl ?_
    refine aw_aload_n dX12_guards_11 rfl ?_
    refine aw_get dX12_guards_12 fl_X12_152 e_1 (by omega) rfl ?_
    refine aw_icmp_le (tgt := 20) dX12_guards_15 (by decide) (fun c_12 => ?_) (fun c_12 => ?_)
    · skip
      have nc_12 : zn0 ≤ tad_1 := (nI_leI (a := zn0) (b := tad_1) (by omega) (by omega)).mp c_12
      refine aw_aload_n dX12_guards_20 rfl ?_
      refine aw_iconst (v := 0) dX12_guards_21 (by decide) ?_
      refine aw_put dX12_guards_22 fp_X12_152 e_1 (by omega) rfl rfl (Nat.le_of_ble_eq_true rfl) rfl ?_
      refine aw_upR hJ0 cm_100 ⟨_, _, _, _, _, _, _, _, _, _, _, _, 0, pl0_1, le0_1, nu0_1, coy_1, wag_1, say_1, rfl, by omega, by omega, by omega, by omega, by omega, by omega, by omega⟩ (by decide) (WO (s := 13) (x := .int 0) e_1 rfl (LMs LM0) (by decide) (by decide) (by decide) (Or.inl (by decide))) (fun V_13 j_13 k_13 e_13 => ?_)
      obtain ⟨g_14, e_14⟩ := JR.get j_13 cm_110
      refine aw_iconst (v := 0) dX12_guards_25 (by decide) ?_
      refine aw_istore_n (ls' := [some (.ref (b + 100)), some (.int (nI zn0)), some (.int 0), none, none]) dX12_guards_26 (Nat.le_of_ble_eq_true rfl) rfl ?_
      refine aw_iconst (v := 0) dX12_guards_27 (by decide) ?_
      refine aw_istore_n (ls' := [some (.ref (b + 100)), some (.int (nI zn0)), some (.int 0), some (.int 0), none]) dX12_guards_28 (Nat.le_of_ble_eq_true rfl) rfl ?_
      have loop_29_14 : ∀ (g_29 : Nat), ∀ (j29 : Nat) (v29_2 : Int32) (V29 : Wd), j29 + g_29 = zn0 → (∃ o, V29 129 = cI D 6 o ∧ ∀ i, i < j29 → o i = nI i) → (TQ g_14 j29) → (JR D b N cl [(129, 129, 0, 1000000), (100, 100, 13, 13)] V V29) → (V29 110 = cB D 260 g_14) → (fI (V29 100) 13 = 0) → AW l D b jX12_guards (fx_rm 4 0 0) none (fx_MQ D b 0 0 (fx_qi (fun r N9 V9 => (TKS (cIn m0 3 6 (fI (V 100) 13)) (fI (V 100) 13) (fI (V9 100) 13)) ∧ N = N9 ∧ JR D b N cl [(129, 129, 0, 1000000), (100, 100, 13, 13)] V V9))) 29 [some (.ref (b + 100)), some (.int (nI zn0)), some (.int v29_2), some (.int (nI j29)), none] [] N V29 0 0 := by
        intro g_29
        induction g_29 with
        | zero =>
          intro j29 v29_2 V29 hj29 i29_0 i29_1 i29_2 i29_3 i29_4
          obtain rfl : zn0 = j29 := by omega
          refine aw_iload_n dX12_guards_29 rfl ?_
          refine aw_iload_n dX12_guards_30 rfl ?_
          refine aw_icmp_ge (tgt := 82) dX12_guards_31 (by decide) (fun c_17 => ?_) (fun c_17 => ?_)
          rotate_left
          · exact absurd (nI_le (a := zn0) (b := zn0) (Nat.le_refl _) (by omega)) c_17
          refine aw_iconst (v := 0) dX12_guards_82 (by decide) ?_
          refine aw_istore_n (ls' := [some (.ref (b + 100)), some (.int (nI zn0)), some (.int v29_2), some (.int 0), none]) dX12_guards_83 (Nat.le_of_ble_eq_true rfl) rfl ?_
          obtain ⟨o0, e0, ho0⟩ := i29_0
          have hO0 : OP zn0 o0 (fun i => i) := ⟨fun i hi => ⟨ho0 i hi, hi⟩, fun i j _ _ e => e⟩
          refine aw_iconst (v := 1) dX12_guards_84 (by decide) ?_
          refine aw_istore (ls' := [some (.ref (b + 100)), some (.int (nI zn0)), some (.int v29_2), some (.int 0), some (.int 1)]) dX12_guards_85 (Nat.le_of_ble_eq_true rfl) rfl ?_
          have ml_87_18 : ∀ (m : Nat) (mv87 : Nat) (v87_3 : Int32) (v87_4 : Int32) (V87 : Wd), m = (if v87_4 = 0 then 0 else 1 + (262144 - mv87)) → (JR D b N cl [(129, 129, 0, 1000000), (100, 100, 13, 13)] V V87) → (v87_4 = 0 ∨ ∃ (o : Nat → Int32) (q : Nat → Nat), V87 129 = cI D 6 o ∧ OP zn0 o q ∧ oval q zn0 = mv87) → (V87 110 = cB D 260 g_14) → (fI (V87 100) 13 = 0) → AW l D b jX12_guards (fx_rm 4 0 0) none (fx_MQ D b 0 0 (fx_qi (fun r N9 V9 => (TKS (cIn m0 3 6 (fI (V 100) 13)) (fI (V 100) 13) (fI (V9 100) 13)) ∧ N = N9 ∧ JR D b N cl [(129, 129, 0, 1000000), (100, 100, 13, 13)] V V9))) 87 [some (.ref (b + 100)), some (.int (nI zn0)), some (.int v29_2), some (.int v87_3), some (.int v87_4)] [] N V87 0 0 := by
            intro m; refine Nat.strongRecOn m ?_
            intro m mih_87_18 mv87 v87_3 v87_4 V87 hm87 i87_0 i87_1 i87_2 i87_3
            refine aw_iload dX12_guards_87 rfl ?_
            refine aw_if_eq (tgt := 114) dX12_guards_89 (by decide) (fun c_19 => ?_) (fun c_19 => ?_)
            · skip
              refine aw_iload_n dX12_guards_114 rfl ?_
              refine aw_ireti dX12_guards_115 rfl (Nat.le_of_ble_eq_true rfl) (Nat.le_of_ble_eq_true rfl) ?_
              exact ⟨Or.inl ⟨(by have zhi_5 := hi_5.resolve_left c_11; have zzzn0 := fx_nIt (n := zn0) (by omega); have zt := fx_nIt (n := tad_1) (by omega); have e0 : (0 : Int32).toInt = 0 := (by decide); have e3 : (3 : Int32).toInt = 3 := (by decide); have e6 : (6 : Int32).toInt = 6 := (by decide); have q0 := zhi_5; have q1 := hm; have q2 := hta0; simp only [cIn, ← Int32.toInt_inj, Int32.le_iff_toInt_le, Int32.lt_iff_toInt_lt] at q0 q1 q2 ⊢; omega), i87_3⟩, rfl, i87_0⟩
            · skip
              obtain ⟨o87, q87, e87, hO87, hv87⟩ := i87_1.resolve_left c_19
              refine aw_aload_n dX12_guards_92 rfl ?_
              refine aw_iload_n dX12_guards_93 rfl ?_
              obtain ⟨ftoldPeople_22, ftoldDoors_22, fwasDoors_22, ffault_22, fopen_22, flines_22, fmeantSet_22, fopenedNow_22, fvainNow_22, flowNow_22, fhighNow_22, fisKept_22, tad_22, pl0_22, le0_22, nu0_22, coy_22, wag_22, say_22, e_22, hntad_22, hnpl0_22, hnle0_22, hnnu0_22, hncoy_22, hnwag_22, hnsay_22⟩ := JR.get i87_0 cm_100
              refine aw_callVi (J' := jX12_canStand) (As := [.int (nI zn0)]) (st := []) dX12_guards_94 tb_1576 ok_X12_canStand ⟨_, e_22⟩ (by omega) rfl rfl (r_canStand l D b N V87 hN cl i87_0.1 (nI zn0) zn0 (by omega) (by omega) o87 q87 e87 hO87 g_14 i87_2 i29_1) rfl (Nat.le_of_ble_eq_true rfl) ⟨Nat.le_of_ble_eq_true rfl, Nat.le_of_ble_eq_true rfl, Nat.le_of_ble_eq_true rfl, Nat.le_of_ble_eq_true rfl⟩ (fun r_23 N_24 V_25 q_26 => ?_)
              obtain ⟨h_21, rfl, rfl⟩ := q_26
              refine aw_if_eq (tgt := 104) dX12_guards_97 (by decide) (fun c_27 => ?_) (fun c_27 => ?_)
              · skip
                refine aw_aload_n dX12_guards_104 rfl ?_
                refine aw_iload_n dX12_guards_105 rfl ?_
                refine aw_callVi (J' := jX12_nextOrder) (As := [.int (nI zn0)]) (st := []) dX12_guards_106 tb_1580 ok_X12_nextOrder ⟨_, e_22⟩ (by omega) rfl rfl (r_nextOrder l D b N V87 hN cl i87_0.1 (nI zn0) zn0 (by omega) (by omega) o87 q87 e87 hO87) rfl (Nat.le_of_ble_eq_true rfl) ⟨Nat.le_of_ble_eq_true rfl, Nat.le_of_ble_eq_true rfl, Nat.le_of_ble_eq_true rfl, Nat.le_of_ble_eq_true rfl⟩ (fun r_33 N_34 V_32 q_35 => ?_)
                obtain ⟨⟨z_30, h_29⟩, rfl, q_28⟩ := q_35
                have j_31 := JR.trans i87_0 (JR.weak q_28 (Sub.cons LM0 (by decide) (by decide) (by decide) (Or.inl rfl) Sub.nil))
                rcases h_29.2 with hz | hz
                · skip
                  refine aw_eqi (y := 0) hz ?_
                  refine aw_istore (ls' := [some (.ref (b + 100)), some (.int (nI zn0)), some (.int v29_2), some (.int v87_3), some (.int 0)]) dX12_guards_109 (Nat.le_of_ble_eq_true rfl) rfl ?_
                  refine aw_goto (tgt := 87) dX12_guards_111 (by decide) ?_
                  refine aw_le ?_ (mih_87_18 _ (by rw [hm87]; exact gl_dec c_19 (Or.inl rfl) (by decide)) 0 v87_3 0 V_32 rfl (j_31) (Or.inl rfl) (((h_29.1 _ (by decide)).trans i87_2)) (((JR.fI q_28 (by decide) (by decide) (nfc (by omega) nf0)).trans i87_3)))
                  exact ⟨rfl, ⟨rfl, ⟨rfl, ⟨rfl, ⟨rfl, trivial⟩⟩⟩⟩⟩
                · skip
                  obtain ⟨o9_n_36, q9_n_36, e9_n_36, hO_n_36, hI_n_36⟩ := hz
                  refine aw_istore (ls' := [some (.ref (b + 100)), some (.int (nI zn0)), some (.int v29_2), some (.int v87_3), some (.int r_33)]) dX12_guards_109 (Nat.le_of_ble_eq_true rfl) rfl ?_
                  refine aw_goto (tgt := 87) dX12_guards_111 (by decide) ?_
                  refine aw_le ?_ (mih_87_18 _ (by rw [hm87]; exact gl_dec c_19 (Or.inr (by rw [← hv87]; exact hI_n_36.1)) hI_n_36.2) (oval q9_n_36 zn0) v87_3 r_33 V_32 rfl (j_31) (Or.inr ⟨_, q9_n_36, e9_n_36, hO_n_36, rfl⟩) (((h_29.1 _ (by decide)).trans i87_2)) (((JR.fI q_28 (by decide) (by decide) (nfc (by omega) nf0)).trans i87_3)))
                  exact ⟨rfl, ⟨rfl, ⟨rfl, ⟨rfl, ⟨rfl, trivial⟩⟩⟩⟩⟩
              · skip
                refine aw_iload_n dX12_guards_100 rfl ?_
                refine aw_iconst (v := 1) dX12_guards_101 (by decide) ?_
                refine aw_iadd dX12_guards_102 ?_
                refine aw_istore_n (ls' := [some (.ref (b + 100)), some (.int (nI zn0)), some (.int v29_2), some (.int (v87_3 + 1)), some (.int v87_4)]) dX12_guards_103 (Nat.le_of_ble_eq_true rfl) rfl ?_
                refine aw_aload_n dX12_guards_104 rfl ?_
                refine aw_iload_n dX12_guards_105 rfl ?_
                refine aw_callVi (J' := jX12_nextOrder) (As := [.int (nI zn0)]) (st := []) dX12_guards_106 tb_1580 ok_X12_nextOrder ⟨_, e_22⟩ (by omega) rfl rfl (r_nextOrder l D b N V87 hN cl i87_0.1 (nI zn0) zn0 (by omega) (by omega) o87 q87 e87 hO87) rfl (Nat.le_of_ble_eq_true rfl) ⟨Nat.le_of_ble_eq_true rfl, Nat.le_of_ble_eq_true rfl, Nat.le_of_ble_eq_true rfl, Nat.le_of_ble_eq_true rfl⟩ (fun r_42 N_43 V_41 q_44 => ?_)
                obtain ⟨⟨z_39, h_38⟩, rfl, q_37⟩ := q_44
                have j_40 := JR.trans i87_0 (JR.weak q_37 (Sub.cons LM0 (by decide) (by decide) (by decide) (Or.inl rfl) Sub.nil))
                rcases h_38.2 with hz | hz
                · skip
                  refine aw_eqi (y := 0) hz ?_
                  refine aw_istore (ls' := [some (.ref (b + 100)), some (.int (nI zn0)), some (.int v29_2), some (.int (v87_3 + 1)), some (.int 0)]) dX12_guards_109 (Nat.le_of_ble_eq_true rfl) rfl ?_
                  refine aw_goto (tgt := 87) dX12_guards_111 (by decide) ?_
                  refine aw_le ?_ (mih_87_18 _ (by rw [hm87]; exact gl_dec c_19 (Or.inl rfl) (by decide)) 0 (v87_3 + 1) 0 V_41 rfl (j_40) (Or.inl rfl) (((h_38.1 _ (by decide)).trans i87_2)) (((JR.fI q_37 (by decide) (by decide) (nfc (by omega) nf0)).trans i87_3)))
                  exact ⟨rfl, ⟨rfl, ⟨rfl, ⟨rfl, ⟨rfl, trivial⟩⟩⟩⟩⟩
                · skip
                  obtain ⟨o9_n_45, q9_n_45, e9_n_45, hO_n_45, hI_n_45⟩ := hz
                  refine aw_istore (ls' := [some (.ref (b + 100)), some (.int (nI zn0)), some (.int v29_2), some (.int (v87_3 + 1)), some (.int r_42)]) dX12_guards_109 (Nat.le_of_ble_eq_true rfl) rfl ?_
                  refine aw_goto (tgt := 87) dX12_guards_111 (by decide) ?_
                  refine aw_le ?_ (mih_87_18 _ (by rw [hm87]; exact gl_dec c_19 (Or.inr (by rw [← hv87]; exact hI_n_45.1)) hI_n_45.2) (oval q9_n_45 zn0) (v87_3 + 1) r_42 V_41 rfl (j_40) (Or.inr ⟨_, q9_n_45, e9_n_45, hO_n_45, rfl⟩) (((h_38.1 _ (by decide)).trans i87_2)) (((JR.fI q_37 (by decide) (by decide) (nfc (by omega) nf0)).trans i87_3)))
                  exact ⟨rfl, ⟨rfl, ⟨rfl, ⟨rfl, ⟨rfl, trivial⟩⟩⟩⟩⟩
          refine aw_le ?_ (ml_87_18 _ (oval (fun i => i) zn0) 0 1 V29 rfl (i29_2) (Or.inr ⟨_, (fun i => i), e0, hO0, rfl⟩) (i29_3) (i29_4))
          exact ⟨rfl, ⟨rfl, ⟨rfl, ⟨rfl, ⟨rfl, trivial⟩⟩⟩⟩⟩
        | succ g_29 ih_29_15 =>
          intro j29 v29_2 V29 hj29 i29_0 i29_1 i29_2 i29_3 i29_4
          have hlj29 : j29 < zn0 := by omega
          refine aw_iload_n dX12_guards_29 rfl ?_
          refine aw_iload_n dX12_guards_30 rfl ?_
          refine aw_icmp_ge (tgt := 82) dX12_guards_31 (by decide) (fun c_46 => ?_) (fun c_46 => ?_)
          · exact absurd c_46 (nI_ge (a := j29) (b := zn0) (by omega) (by omega))
          obtain ⟨o29, e129, ho29⟩ := i29_0
          obtain ⟨g9, e9, p9⟩ := JR.get i29_2 cm_129
          have hk29 : ∀ i, i < 6 → ∃ k : Nat, k < 6 ∧ o29 i = nI k := fun i hi => by rw [cI_inj (e129.symm.trans e9) i]; exact p9 i hi
          refine aw_aload_n dX12_guards_34 rfl ?_
          refine aw_iload_n dX12_guards_35 rfl ?_
          obtain ⟨ftoldPeople_49, ftoldDoors_49, fwasDoors_49, ffault_49, fopen_49, flines_49, fmeantSet_49, fopenedNow_49, fvainNow_49, flowNow_49, fhighNow_49, fisKept_49, tad_49, pl0_49, le0_49, nu0_49, coy_49, wag_49, say_49, e_49, hntad_49, hnpl0_49, hnle0_49, hnnu0_49, hncoy_49, hnwag_49, hnsay_49⟩ := JR.get i29_2 cm_100
          refine aw_callVi (J' := jX12_octet) (As := [.int (nI j29)]) (st := []) dX12_guards_36 tb_1556 ok_X12_octet ⟨_, e_49⟩ (by omega) rfl rfl (r_octetG l D b N V29 hN cl i29_2.1 (nI j29) ⟨j29, by omega, rfl⟩ g_14 i29_3) rfl (Nat.le_of_ble_eq_true rfl) ⟨Nat.le_of_ble_eq_true rfl, Nat.le_of_ble_eq_true rfl, Nat.le_of_ble_eq_true rfl, Nat.le_of_ble_eq_true rfl⟩ (fun r_50 N_51 V_52 q_53 => ?_)
          obtain ⟨h_48, rfl, rfl⟩ := q_53
          refine aw_istore (ls' := [some (.ref (b + 100)), some (.int (nI zn0)), some (.int v29_2), some (.int (nI j29)), some (.int r_50)]) dX12_guards_39 (Nat.le_of_ble_eq_true rfl) rfl ?_
          refine aw_aload_n dX12_guards_41 rfl ?_
          refine aw_iload dX12_guards_42 rfl ?_
          refine aw_callVi (J' := jX12_isTold) (As := [.int r_50]) (st := []) dX12_guards_44 tb_1351 ok_X12_isTold ⟨_, e_49⟩ (by omega) rfl rfl (r_isTold l D b N V29 hN cl i29_2.1 r_50) rfl (Nat.le_of_ble_eq_true rfl) ⟨Nat.le_of_ble_eq_true rfl, Nat.le_of_ble_eq_true rfl, Nat.le_of_ble_eq_true rfl, Nat.le_of_ble_eq_true rfl⟩ (fun r_57 N_58 V_59 q_60 => ?_)
          obtain ⟨⟨z_56, h_55⟩, rfl, rfl⟩ := q_60
          refine aw_if_eq (tgt := 59) dX12_guards_47 (by decide) (fun c_61 => ?_) (fun c_61 => ?_)
          · skip
            refine aw_bipush (v := (-3)) dX12_guards_59 (by decide) ?_
            refine aw_ireti dX12_guards_61 rfl (Nat.le_of_ble_eq_true rfl) (Nat.le_of_ble_eq_true rfl) ?_
            exact ⟨Or.inl ⟨(by have zhi_5 := hi_5.resolve_left c_11; have zzzn0 := fx_nIt (n := zn0) (by omega); have zt := fx_nIt (n := tad_1) (by omega); have e0 : (0 : Int32).toInt = 0 := (by decide); have e3 : (3 : Int32).toInt = 3 := (by decide); have e6 : (6 : Int32).toInt = 6 := (by decide); have q0 := zhi_5; have q1 := hm; have q2 := hta0; simp only [cIn, ← Int32.toInt_inj, Int32.le_iff_toInt_le, Int32.lt_iff_toInt_lt] at q0 q1 q2 ⊢; omega), i29_4⟩, rfl, i29_2⟩
          · skip
            obtain ⟨zr_50, hzr_50, rfl⟩ := h_55.resolve_left c_61
            refine aw_iload_n dX12_guards_50 rfl ?_
            refine aw_iload dX12_guards_51 rfl ?_
            refine aw_callSi (J' := jX12_has) (As := [.int v29_2, .int (nI zr_50)]) (st := []) dX12_guards_53 tb_1315 ok_X12_has rfl (r_has l D b N V29 hN cl i29_2.1 v29_2 (nI zr_50)) rfl (Nat.le_of_ble_eq_true rfl) ⟨Nat.le_of_ble_eq_true rfl, Nat.le_of_ble_eq_true rfl, Nat.le_of_ble_eq_true rfl, Nat.le_of_ble_eq_true rfl⟩ (fun r_64 N_65 V_66 q_67 => ?_)
            obtain ⟨h_63, rfl, rfl⟩ := q_67
            refine aw_if_eq (tgt := 62) dX12_guards_56 (by decide) (fun c_68 => ?_) (fun c_68 => ?_)
            · skip
              refine aw_iload_n dX12_guards_62 rfl ?_
              refine aw_iconst (v := 1) dX12_guards_63 (by decide) ?_
              refine aw_iload dX12_guards_64 rfl ?_
              refine aw_ishl dX12_guards_66 ?_
              refine aw_ior dX12_guards_67 ?_
              refine aw_istore_n (ls' := [some (.ref (b + 100)), some (.int (nI zn0)), some (.int (v29_2 ||| ((1 : Int32) <<< ((nI zr_50) &&& 31)))), some (.int (nI j29)), some (.int (nI zr_50))]) dX12_guards_68 (Nat.le_of_ble_eq_true rfl) rfl ?_
              refine aw_aload_n dX12_guards_69 rfl ?_
              refine aw_get dX12_guards_70 fl_X12_96 e_49 (by omega) rfl ?_
              refine aw_iload_n dX12_guards_73 rfl ?_
              refine aw_iload_n dX12_guards_74 rfl ?_
              refine aw_iast dX12_guards_75 e129 (by omega) (vp_in_nI (n := j29) (by omega) (by omega)) ?_
              have np_70 : ∀ j, j < 6 → (fun v => ∃ k : Nat, k < 6 ∧ v = nI k) ((upd o29 j29 (nI j29)) j) := isP_upd (P := (fun v => ∃ k : Nat, k < 6 ∧ v = nI k)) hk29 ⟨j29, by omega, rfl⟩
              refine aw_upR i29_2 cm_129 ⟨_, rfl, by rw [nI_clamp (n := j29) (by omega)]; exact np_70⟩ (by decide) (WA LM0 (by decide) (by decide)) (fun V_69 j_69 k_69 e_69 => ?_)
              have e_71 : V_69 129 = cI D 6 (upd o29 j29 (nI j29)) := by rw [e_69, nI_clamp (n := j29) (by omega)]
              refine aw_iinc (v := (nI (j29 + 1))) (ls' := [some (.ref (b + 100)), some (.int (nI zn0)), some (.int (v29_2 ||| ((1 : Int32) <<< ((nI zr_50) &&& 31)))), some (.int (nI (j29 + 1))), some (.int (nI zr_50))]) dX12_guards_76 rfl (fx_up_1 _) (Nat.le_of_ble_eq_true rfl) rfl ?_
              refine aw_goto (tgt := 29) dX12_guards_79 (by decide) ?_
              refine aw_le ?_ (ih_29_15 (j29 + 1) (v29_2 ||| ((1 : Int32) <<< ((nI zr_50) &&& 31))) V_69 (by omega) (⟨_, e_71, fun i hi => if e : i = j29 then (by rw [e, pk_us]) else (pk_un e).trans (ho29 i (by omega))⟩) ((TQ.step i29_1 hzr_50 (h_48.trans (by rw [nI_clamp (n := j29) (by omega)])))) (j_69) (((k_69 _ (by decide)).trans i29_3)) (((congrArg (fun z => fI z 13) (k_69 _ (by omega))).trans i29_4)))
              exact ⟨rfl, ⟨rfl, ⟨rfl, ⟨rfl, trivial⟩⟩⟩⟩
            · skip
              refine aw_bipush (v := (-3)) dX12_guards_59 (by decide) ?_
              refine aw_ireti dX12_guards_61 rfl (Nat.le_of_ble_eq_true rfl) (Nat.le_of_ble_eq_true rfl) ?_
              exact ⟨Or.inl ⟨(by have zhi_5 := hi_5.resolve_left c_11; have zzzn0 := fx_nIt (n := zn0) (by omega); have zt := fx_nIt (n := tad_1) (by omega); have e0 : (0 : Int32).toInt = 0 := (by decide); have e3 : (3 : Int32).toInt = 3 := (by decide); have e6 : (6 : Int32).toInt = 6 := (by decide); have q0 := zhi_5; have q1 := hm; have q2 := hta0; simp only [cIn, ← Int32.toInt_inj, Int32.le_iff_toInt_le, Int32.lt_iff_toInt_lt] at q0 q1 q2 ⊢; omega), i29_4⟩, rfl, i29_2⟩
      obtain ⟨g_72, e_72, p_72⟩ := JR.get j_13 cm_129
      refine aw_le ?_ (loop_29_14 zn0 0 0 V_13 (by omega) (⟨_, e_72, fun i h => absurd h (Nat.not_lt_zero i)⟩) (fun i h => absurd h (Nat.not_lt_zero i)) (j_13) (e_14) (((congrArg (fun z => fI z 13) e_13).trans rfl)))
      exact ⟨rfl, ⟨rfl, ⟨rfl, ⟨rfl, trivial⟩⟩⟩⟩
    · skip
      have nc_12 : ¬ (zn0 ≤ tad_1) := fun z => c_12 ((nI_leI (a := zn0) (b := tad_1) (by omega) (by omega)).mpr z)
      refine aw_iconst (v := (-1)) dX12_guards_18 (by decide) ?_
      refine aw_ireti dX12_guards_19 rfl (Nat.le_of_ble_eq_true rfl) (Nat.le_of_ble_eq_true rfl) ?_
      exact ⟨Or.inr ⟨(by have zhi_5 := hi_5.resolve_left c_11; have zzzn0 := fx_nIt (n := zn0) (by omega); have zt := fx_nIt (n := tad_1) (by omega); have e0 : (0 : Int32).toInt = 0 := (by decide); have e3 : (3 : Int32).toInt = 3 := (by decide); have e6 : (6 : Int32).toInt = 6 := (by decide); have q0 := zhi_5; have q1 := hm; have q2 := hta0; simp only [cIn, ← Int32.toInt_inj, Int32.le_iff_toInt_le, Int32.lt_iff_toInt_lt] at q0 q1 q2 ⊢; omega), (Eq.refl (fI (V 100) 13))⟩, rfl, hJ0⟩

set_option maxHeartbeats 4000000 in
set_option maxRecDepth 100000 in
theorem r_checkK (l : Launch) (D : va_G) (b : Nat) (N : Nat) (V : Wd) (hN : 133 ≤ N) (cl : Nat) (hW : CR D b cl V) (n0 : Int32) (m0 : Int32) (hm : m0 = n0) : MI l D b 2 jX12_check [.ref (b + 100), .int n0] N V 0 0 (fun r N9 V9 => (TKS (cIn m0 0 12 (fI (V 100) 13)) (fI (V 100) 13) (fI (V9 100) 13)) ∧ N = N9 ∧ JR D b N cl [(100, 100, 13, 13)] V V9) := by
  have hJ0 : JR D b N cl [(100, 100, 13, 13)] V V := JR.rf hW
  refine mw_of (by decide) (by simp [Value.category]) (Nat.le_of_ble_eq_true rfl) ?_
  show AW l D b jX12_check (fx_rm 2 0 0) none (fx_MQ D b 0 0 (fx_qi (fun r N9 V9 => (TKS (cIn m0 0 12 (fI (V 100) 13)) (fI (V 100) 13) (fI (V9 100) 13)) ∧ N = N9 ∧ JR D b N cl [(100, 100, 13, 13)] V V9))) 0 [some (.ref (b + 100)), some (.int n0), none] [] N V 0 0
  obtain ⟨ftoldPeople_1, ftoldDoors_1, fwasDoors_1, ffault_1, fopen_1, flines_1, fmeantSet_1, fopenedNow_1, fvainNow_1, flowNow_1, fhighNow_1, fisKept_1, tad_1, pl0_1, le0_1, nu0_1, coy_1, wag_1, say_1, e_1, hntad_1, hnpl0_1, hnle0_1, hnnu0_1, hncoy_1, hnwag_1, hnsay_1⟩ := JR.get hJ0 cm_100
  have hta0 : fI (V 100) 13 = nI tad_1 := ((congrArg (fun z => fI z 13) e_1).trans rfl)
  refine aw_iload_n dX12_check_0 rfl ?_
  refine aw_iconst (v := 0) dX12_check_1 (by decide) ?_
  refine aw_bipush (v := 12) dX12_check_2 (by decide) ?_
  refine aw_callSi (J' := jX12_in) (As := [.int n0, .int 0, .int 12]) (st := []) dX12_check_4 tb_1209 ok_X12_in rfl (r_inK l D b N V hN cl hJ0.1 n0 0 12) rfl (Nat.le_of_ble_eq_true rfl) ⟨Nat.le_of_ble_eq_true rfl, Nat.le_of_ble_eq_true rfl, Nat.le_of_ble_eq_true rfl, Nat.le_of_ble_eq_true rfl⟩ (fun r_7 N_8 V_9 q_10 => ?_)
  obtain ⟨⟨z_4, h_3⟩, rfl, rfl⟩ := q_10
  obtain ⟨hi_5, hi_6⟩ := h_3
  refine aw_if_eq (tgt := 18) dX12_check_7 (by decide) (fun c_11 => ?_) (fun c_11 => ?_)
  · skip
    refine aw_bipush (v := (-2)) dX12_check_18 (by decide) ?_
    refine aw_ireti dX12_check_20 rfl (Nat.le_of_ble_eq_true rfl) (Nat.le_of_ble_eq_true rfl) ?_
    exact ⟨Or.inr ⟨(by have zhi_6 := hi_6 c_11; have zt := fx_nIt (n := tad_1) (by omega); have e0 : (0 : Int32).toInt = 0 := (by decide); have e12 : (12 : Int32).toInt = 12 := (by decide); have q0 := zhi_6; have q1 := hm; have q2 := hta0; simp only [cIn, ← Int32.toInt_inj, Int32.le_iff_toInt_le, Int32.lt_iff_toInt_lt] at q0 q1 q2 ⊢; omega), (Eq.refl (fI (V 100) 13))⟩, rfl, hJ0⟩
  · skip
    obtain ⟨zn0, h0zn0, hzn0, rfl⟩ := in_nat (a := 0) (b := 12) (by decide) (hi_5.resolve_left c_11)
    refine aw_iload_n dX12_check_10 rfl ?_
    refine aw_aload_n dX12_check_11 rfl ?_
    refine aw_get dX12_check_12 fl_X12_152 e_1 (by omega) rfl ?_
    refine aw_icmp_le (tgt := 21) dX12_check_15 (by decide) (fun c_12 => ?_) (fun c_12 => ?_)
    · skip
      have nc_12 : zn0 ≤ tad_1 := (nI_leI (a := zn0) (b := tad_1) (by omega) (by omega)).mp c_12
      refine aw_aload_n dX12_check_21 rfl ?_
      refine aw_iconst (v := 0) dX12_check_22 (by decide) ?_
      refine aw_put dX12_check_23 fp_X12_152 e_1 (by omega) rfl rfl (Nat.le_of_ble_eq_true rfl) rfl ?_
      refine aw_upR hJ0 cm_100 ⟨_, _, _, _, _, _, _, _, _, _, _, _, 0, pl0_1, le0_1, nu0_1, coy_1, wag_1, say_1, rfl, by omega, by omega, by omega, by omega, by omega, by omega, by omega⟩ (by decide) (WO (s := 13) (x := .int 0) e_1 rfl LM0 (by decide) (by decide) (by decide) (Or.inl (by decide))) (fun V_13 j_13 k_13 e_13 => ?_)
      refine aw_iconst (v := 0) dX12_check_26 (by decide) ?_
      refine aw_istore_n (ls' := [some (.ref (b + 100)), some (.int (nI zn0)), some (.int 0)]) dX12_check_27 (Nat.le_of_ble_eq_true rfl) rfl ?_
      have loop_28_13 : ∀ (g_28 : Nat), ∀ (j28 : Nat), j28 + g_28 = zn0 → AW l D b jX12_check (fx_rm 2 0 0) none (fx_MQ D b 0 0 (fx_qi (fun r N9 V9 => (TKS (cIn m0 0 12 (fI (V 100) 13)) (fI (V 100) 13) (fI (V9 100) 13)) ∧ N = N9 ∧ JR D b N cl [(100, 100, 13, 13)] V V9))) 28 [some (.ref (b + 100)), some (.int (nI zn0)), some (.int (nI j28))] [] N V_13 0 0 := by
        intro g_28
        induction g_28 with
        | zero =>
          intro j28  hj28
          obtain rfl : zn0 = j28 := by omega
          refine aw_iload_n dX12_check_28 rfl ?_
          refine aw_iload_n dX12_check_29 rfl ?_
          refine aw_icmp_ge (tgt := 68) dX12_check_30 (by decide) (fun c_16 => ?_) (fun c_16 => ?_)
          rotate_left
          · exact absurd (nI_le (a := zn0) (b := zn0) (Nat.le_refl _) (by omega)) c_16
          refine aw_iconst (v := (-1)) dX12_check_68 (by decide) ?_
          refine aw_ireti dX12_check_69 rfl (Nat.le_of_ble_eq_true rfl) (Nat.le_of_ble_eq_true rfl) ?_
          exact ⟨Or.inl ⟨(by have zhi_5 := hi_5.resolve_left c_11; have zzzn0 := fx_nIt (n := zn0) (by omega); have zt := fx_nIt (n := tad_1) (by omega); have e0 : (0 : Int32).toInt = 0 := (by decide); have e12 : (12 : Int32).toInt = 12 := (by decide); have q0 := zhi_5; have q1 := hm; have q2 := hta0; simp only [cIn, ← Int32.toInt_inj, Int32.le_iff_toInt_le, Int32.lt_iff_toInt_lt] at q0 q1 q2 ⊢; omega), ((congrArg (fun z => fI z 13) e_13).trans rfl)⟩, rfl, j_13⟩
        | succ g_28 ih_28_14 =>
          intro j28  hj28
          have hlj28 : j28 < zn0 := by omega
          refine aw_iload_n dX12_check_28 rfl ?_
          refine aw_iload_n dX12_check_29 rfl ?_
          refine aw_icmp_ge (tgt := 68) dX12_check_30 (by decide) (fun c_17 => ?_) (fun c_17 => ?_)
          · exact absurd c_17 (nI_ge (a := j28) (b := zn0) (by omega) (by omega))
          refine aw_aload_n dX12_check_33 rfl ?_
          refine aw_iload_n dX12_check_34 rfl ?_
          refine aw_callVi (J' := jX12_octet) (As := [.int (nI j28)]) (st := []) dX12_check_35 tb_1556 ok_X12_octet ⟨_, e_13⟩ (by omega) rfl rfl (r_octet l D b N V_13 hN cl j_13.1 (nI j28) ⟨j28, by omega, rfl⟩) rfl (Nat.le_of_ble_eq_true rfl) ⟨Nat.le_of_ble_eq_true rfl, Nat.le_of_ble_eq_true rfl, Nat.le_of_ble_eq_true rfl, Nat.le_of_ble_eq_true rfl⟩ (fun r_19 N_20 V_21 q_22 => ?_)
          obtain ⟨rfl, rfl⟩ := q_22
          refine aw_aload_n dX12_check_38 rfl ?_
          refine aw_iload_n dX12_check_39 rfl ?_
          refine aw_callVi (J' := jX12_isTold) (As := [.int (nI j28)]) (st := [.int r_19]) dX12_check_40 tb_1351 ok_X12_isTold ⟨_, e_13⟩ (by omega) rfl rfl (r_isTold l D b N V_13 hN cl j_13.1 (nI j28)) rfl (Nat.le_of_ble_eq_true rfl) ⟨Nat.le_of_ble_eq_true rfl, Nat.le_of_ble_eq_true rfl, Nat.le_of_ble_eq_true rfl, Nat.le_of_ble_eq_true rfl⟩ (fun r_26 N_27 V_28 q_29 => ?_)
          obtain ⟨⟨z_25, h_24⟩, rfl, rfl⟩ := q_29
          refine aw_if_eq (tgt := 54) dX12_check_43 (by decide) (fun c_30 => ?_) (fun c_30 => ?_)
          · skip
            refine aw_sipush (v := 255) dX12_check_54 (by decide) ?_
            refine aw_icmp_eq (tgt := 62) dX12_check_57 (by decide) (fun c_31 => ?_) (fun c_31 => ?_)
            · skip
              refine aw_iinc (v := (nI (j28 + 1))) (ls' := [some (.ref (b + 100)), some (.int (nI zn0)), some (.int (nI (j28 + 1)))]) dX12_check_62 rfl (fx_up_1 _) (Nat.le_of_ble_eq_true rfl) rfl ?_
              refine aw_goto (tgt := 28) dX12_check_65 (by decide) ?_
              refine aw_le ?_ (ih_28_14 (j28 + 1)   (by omega))
              exact ⟨rfl, ⟨rfl, ⟨rfl, trivial⟩⟩⟩
            · skip
              refine aw_iload_n dX12_check_60 rfl ?_
              refine aw_ireti dX12_check_61 rfl (Nat.le_of_ble_eq_true rfl) (Nat.le_of_ble_eq_true rfl) ?_
              exact ⟨Or.inl ⟨(by have zhi_5 := hi_5.resolve_left c_11; have zzzn0 := fx_nIt (n := zn0) (by omega); have zt := fx_nIt (n := tad_1) (by omega); have e0 : (0 : Int32).toInt = 0 := (by decide); have e12 : (12 : Int32).toInt = 12 := (by decide); have q0 := zhi_5; have q1 := hm; have q2 := hta0; simp only [cIn, ← Int32.toInt_inj, Int32.le_iff_toInt_le, Int32.lt_iff_toInt_lt] at q0 q1 q2 ⊢; omega), ((congrArg (fun z => fI z 13) e_13).trans rfl)⟩, rfl, j_13⟩
          · skip
            refine aw_aload_n dX12_check_46 rfl ?_
            refine aw_iload_n dX12_check_47 rfl ?_
            refine aw_callVi (J' := jX12_greatest) (As := [.int (nI j28)]) (st := [.int r_19]) dX12_check_48 tb_1388 ok_X12_greatest ⟨_, e_13⟩ (by omega) rfl rfl (r_greatest l D b N V_13 hN cl j_13.1 (nI j28) ⟨j28, by omega, rfl⟩) rfl (Nat.le_of_ble_eq_true rfl) ⟨Nat.le_of_ble_eq_true rfl, Nat.le_of_ble_eq_true rfl, Nat.le_of_ble_eq_true rfl, Nat.le_of_ble_eq_true rfl⟩ (fun r_33 N_34 V_35 q_36 => ?_)
            obtain ⟨rfl, rfl⟩ := q_36
            refine aw_goto (tgt := 57) dX12_check_51 (by decide) ?_
            refine aw_icmp_eq (tgt := 62) dX12_check_57 (by decide) (fun c_37 => ?_) (fun c_37 => ?_)
            · skip
              refine aw_iinc (v := (nI (j28 + 1))) (ls' := [some (.ref (b + 100)), some (.int (nI zn0)), some (.int (nI (j28 + 1)))]) dX12_check_62 rfl (fx_up_1 _) (Nat.le_of_ble_eq_true rfl) rfl ?_
              refine aw_goto (tgt := 28) dX12_check_65 (by decide) ?_
              refine aw_le ?_ (ih_28_14 (j28 + 1)   (by omega))
              exact ⟨rfl, ⟨rfl, ⟨rfl, trivial⟩⟩⟩
            · skip
              refine aw_iload_n dX12_check_60 rfl ?_
              refine aw_ireti dX12_check_61 rfl (Nat.le_of_ble_eq_true rfl) (Nat.le_of_ble_eq_true rfl) ?_
              exact ⟨Or.inl ⟨(by have zhi_5 := hi_5.resolve_left c_11; have zzzn0 := fx_nIt (n := zn0) (by omega); have zt := fx_nIt (n := tad_1) (by omega); have e0 : (0 : Int32).toInt = 0 := (by decide); have e12 : (12 : Int32).toInt = 12 := (by decide); have q0 := zhi_5; have q1 := hm; have q2 := hta0; simp only [cIn, ← Int32.toInt_inj, Int32.le_iff_toInt_le, Int32.lt_iff_toInt_lt] at q0 q1 q2 ⊢; omega), ((congrArg (fun z => fI z 13) e_13).trans rfl)⟩, rfl, j_13⟩
      refine aw_le ?_ (loop_28_13 zn0 0   (by omega))
      exact ⟨rfl, ⟨rfl, ⟨rfl, trivial⟩⟩⟩
    · skip
      have nc_12 : ¬ (zn0 ≤ tad_1) := fun z => c_12 ((nI_leI (a := zn0) (b := tad_1) (by omega) (by omega)).mpr z)
      refine aw_bipush (v := (-2)) dX12_check_18 (by decide) ?_
      refine aw_ireti dX12_check_20 rfl (Nat.le_of_ble_eq_true rfl) (Nat.le_of_ble_eq_true rfl) ?_
      exact ⟨Or.inr ⟨(by have zhi_5 := hi_5.resolve_left c_11; have zzzn0 := fx_nIt (n := zn0) (by omega); have zt := fx_nIt (n := tad_1) (by omega); have e0 : (0 : Int32).toInt = 0 := (by decide); have e12 : (12 : Int32).toInt = 12 := (by decide); have q0 := zhi_5; have q1 := hm; have q2 := hta0; simp only [cIn, ← Int32.toInt_inj, Int32.le_iff_toInt_le, Int32.lt_iff_toInt_lt] at q0 q1 q2 ⊢; omega), (Eq.refl (fI (V 100) 13))⟩, rfl, hJ0⟩

set_option maxHeartbeats 4000000 in
set_option maxRecDepth 100000 in
theorem r_roomsK (l : Launch) (D : va_G) (b : Nat) (N : Nat) (V : Wd) (hN : 133 ≤ N) (cl : Nat) (hW : CR D b cl V) (n0 : Int32) (n1 : Int32) (m0 : Int32) (m1 : Int32) (hm : m0 = n0 ∧ m1 = n1) : MI l D b 3 jX12_rooms [.ref (b + 100), .int n0, .int n1] N V 0 0 (fun r N9 V9 => (TKS (cRo m0 m1 (fI (V 100) 13)) (fI (V 100) 13) (fI (V9 100) 13)) ∧ N = N9 ∧ JR D b N cl [(132, 132, 0, 1000000), (100, 100, 13, 13)] V V9) := by
  have hJ0 : JR D b N cl [(132, 132, 0, 1000000), (100, 100, 13, 13)] V V := JR.rf hW
  refine mw_of (by decide) (by simp [Value.category]) (Nat.le_of_ble_eq_true rfl) ?_
  show AW l D b jX12_rooms (fx_rm 3 0 0) none (fx_MQ D b 0 0 (fx_qi (fun r N9 V9 => (TKS (cRo m0 m1 (fI (V 100) 13)) (fI (V 100) 13) (fI (V9 100) 13)) ∧ N = N9 ∧ JR D b N cl [(132, 132, 0, 1000000), (100, 100, 13, 13)] V V9))) 0 [some (.ref (b + 100)), some (.int n0), some (.int n1), none, none] [] N V 0 0
  obtain ⟨ftoldPeople_1, ftoldDoors_1, fwasDoors_1, ffault_1, fopen_1, flines_1, fmeantSet_1, fopenedNow_1, fvainNow_1, flowNow_1, fhighNow_1, fisKept_1, tad_1, pl0_1, le0_1, nu0_1, coy_1, wag_1, say_1, e_1, hntad_1, hnpl0_1, hnle0_1, hnnu0_1, hncoy_1, hnwag_1, hnsay_1⟩ := JR.get hJ0 cm_100
  have hta0 : fI (V 100) 13 = nI tad_1 := ((congrArg (fun z => fI z 13) e_1).trans rfl)
  refine aw_iload_n dX12_rooms_0 rfl ?_
  refine aw_iconst (v := 1) dX12_rooms_1 (by decide) ?_
  refine aw_bipush (v := 12) dX12_rooms_2 (by decide) ?_
  refine aw_callSi (J' := jX12_in) (As := [.int n0, .int 1, .int 12]) (st := []) dX12_rooms_4 tb_1209 ok_X12_in rfl (r_inK l D b N V hN cl hJ0.1 n0 1 12) rfl (Nat.le_of_ble_eq_true rfl) ⟨Nat.le_of_ble_eq_true rfl, Nat.le_of_ble_eq_true rfl, Nat.le_of_ble_eq_true rfl, Nat.le_of_ble_eq_true rfl⟩ (fun r_7 N_8 V_9 q_10 => ?_)
  obtain ⟨⟨z_4, h_3⟩, rfl, rfl⟩ := q_10
  obtain ⟨hi_5, hi_6⟩ := h_3
  refine aw_if_eq (tgt := 28) dX12_rooms_7 (by decide) (fun c_11 => ?_) (fun c_11 => ?_)
  · skip
    refine aw_iconst (v := (-1)) dX12_rooms_28 (by decide) ?_
    refine aw_ireti dX12_rooms_29 rfl (Nat.le_of_ble_eq_true rfl) (Nat.le_of_ble_eq_true rfl) ?_
    exact ⟨Or.inr ⟨(by have zhi_6 := hi_6 c_11; have zt := fx_nIt (n := tad_1) (by omega); have e0 : (0 : Int32).toInt = 0 := (by decide); have e1 : (1 : Int32).toInt = 1 := (by decide); have e12 : (12 : Int32).toInt = 12 := (by decide); have e99 : (99 : Int32).toInt = 99 := (by decide); have q0 := zhi_6; have q1 := hm.1; have q2 := hm.2; have q3 := hta0; simp only [cRo, ← Int32.toInt_inj, Int32.le_iff_toInt_le, Int32.lt_iff_toInt_lt] at q0 q1 q2 q3 ⊢; omega), (Eq.refl (fI (V 100) 13))⟩, rfl, hJ0⟩
  · skip
    obtain ⟨zn0, h0zn0, hzn0, rfl⟩ := in_nat (a := 1) (b := 12) (by decide) (hi_5.resolve_left c_11)
    refine aw_iload_n dX12_rooms_10 rfl ?_
    refine aw_iconst (v := 0) dX12_rooms_11 (by decide) ?_
    refine aw_bipush (v := 99) dX12_rooms_12 (by decide) ?_
    refine aw_callSi (J' := jX12_in) (As := [.int n1, .int 0, .int 99]) (st := []) dX12_rooms_14 tb_1209 ok_X12_in rfl (r_inK l D b N V hN cl hJ0.1 n1 0 99) rfl (Nat.le_of_ble_eq_true rfl) ⟨Nat.le_of_ble_eq_true rfl, Nat.le_of_ble_eq_true rfl, Nat.le_of_ble_eq_true rfl, Nat.le_of_ble_eq_true rfl⟩ (fun r_17 N_18 V_19 q_20 => ?_)
    obtain ⟨⟨z_14, h_13⟩, rfl, rfl⟩ := q_20
    obtain ⟨hi_15, hi_16⟩ := h_13
    refine aw_if_eq (tgt := 28) dX12_rooms_17 (by decide) (fun c_21 => ?_) (fun c_21 => ?_)
    · skip
      refine aw_iconst (v := (-1)) dX12_rooms_28 (by decide) ?_
      refine aw_ireti dX12_rooms_29 rfl (Nat.le_of_ble_eq_true rfl) (Nat.le_of_ble_eq_true rfl) ?_
      exact ⟨Or.inr ⟨(by have zhi_16 := hi_16 c_21; have zhi_5 := hi_5.resolve_left c_11; have zzzn0 := fx_nIt (n := zn0) (by omega); have zt := fx_nIt (n := tad_1) (by omega); have e0 : (0 : Int32).toInt = 0 := (by decide); have e1 : (1 : Int32).toInt = 1 := (by decide); have e12 : (12 : Int32).toInt = 12 := (by decide); have e99 : (99 : Int32).toInt = 99 := (by decide); have q0 := zhi_16; have q1 := zhi_5; have q2 := hm.1; have q3 := hm.2; have q4 := hta0; simp only [cRo, ← Int32.toInt_inj, Int32.le_iff_toInt_le, Int32.lt_iff_toInt_lt] at q0 q1 q2 q3 q4 ⊢; omega), (Eq.refl (fI (V 100) 13))⟩, rfl, hJ0⟩
    · skip
      obtain ⟨zn1, h0zn1, hzn1, rfl⟩ := in_nat (a := 0) (b := 99) (by decide) (hi_15.resolve_left c_21)
      refine aw_iload_n dX12_rooms_20 rfl ?_
      refine aw_aload_n dX12_rooms_21 rfl ?_
      refine aw_get dX12_rooms_22 fl_X12_152 e_1 (by omega) rfl ?_
      refine aw_icmp_le (tgt := 30) dX12_rooms_25 (by decide) (fun c_22 => ?_) (fun c_22 => ?_)
      · skip
        have nc_22 : zn0 ≤ tad_1 := (nI_leI (a := zn0) (b := tad_1) (by omega) (by omega)).mp c_22
        refine aw_aload_n dX12_rooms_30 rfl ?_
        refine aw_iconst (v := 0) dX12_rooms_31 (by decide) ?_
        refine aw_put dX12_rooms_32 fp_X12_152 e_1 (by omega) rfl rfl (Nat.le_of_ble_eq_true rfl) rfl ?_
        refine aw_upR hJ0 cm_100 ⟨_, _, _, _, _, _, _, _, _, _, _, _, 0, pl0_1, le0_1, nu0_1, coy_1, wag_1, say_1, rfl, by omega, by omega, by omega, by omega, by omega, by omega, by omega⟩ (by decide) (WO (s := 13) (x := .int 0) e_1 rfl (LMs LM0) (by decide) (by decide) (by decide) (Or.inl (by decide))) (fun V_23 j_23 k_23 e_23 => ?_)
        refine aw_iconst (v := 0) dX12_rooms_35 (by decide) ?_
        refine aw_istore_n (ls' := [some (.ref (b + 100)), some (.int (nI zn0)), some (.int (nI zn1)), some (.int 0), none]) dX12_rooms_36 (Nat.le_of_ble_eq_true rfl) rfl ?_
        have loop_37_23 : ∀ (g_37 : Nat), ∀ (j37 : Nat), j37 + g_37 = zn0 → AW l D b jX12_rooms (fx_rm 3 0 0) none (fx_MQ D b 0 0 (fx_qi (fun r N9 V9 => (TKS (cRo m0 m1 (fI (V 100) 13)) (fI (V 100) 13) (fI (V9 100) 13)) ∧ N = N9 ∧ JR D b N cl [(132, 132, 0, 1000000), (100, 100, 13, 13)] V V9))) 37 [some (.ref (b + 100)), some (.int (nI zn0)), some (.int (nI zn1)), some (.int (nI j37)), none] [] N V_23 0 0 := by
          intro g_37
          induction g_37 with
          | zero =>
            intro j37  hj37
            obtain rfl : zn0 = j37 := by omega
            refine aw_iload_n dX12_rooms_37 rfl ?_
            refine aw_iload_n dX12_rooms_38 rfl ?_
            refine aw_icmp_ge (tgt := 61) dX12_rooms_39 (by decide) (fun c_26 => ?_) (fun c_26 => ?_)
            rotate_left
            · exact absurd (nI_le (a := zn0) (b := zn0) (Nat.le_refl _) (by omega)) c_26
            have hp63 := fx_pow13 (k := zn0) (by omega)
            refine aw_iconst (v := 1) dX12_rooms_61 (by decide) ?_
            refine aw_istore_n (ls' := [some (.ref (b + 100)), some (.int (nI zn0)), some (.int (nI zn1)), some (.int 1), none]) dX12_rooms_62 (Nat.le_of_ble_eq_true rfl) rfl ?_
            have loop_63_26 : ∀ (g_63 : Nat), ∀ (j63 : Nat)  (V63 : Wd), j63 + g_63 = (2 ^ zn0) → (JR D b N cl [(132, 132, 0, 1000000), (100, 100, 13, 13)] V V63) → (fI (V63 100) 13 = 0) → AW l D b jX12_rooms (fx_rm 3 0 0) none (fx_MQ D b 0 0 (fx_qi (fun r N9 V9 => (TKS (cRo m0 m1 (fI (V 100) 13)) (fI (V 100) 13) (fI (V9 100) 13)) ∧ N = N9 ∧ JR D b N cl [(132, 132, 0, 1000000), (100, 100, 13, 13)] V V9))) 63 [some (.ref (b + 100)), some (.int (nI zn0)), some (.int (nI zn1)), some (.int (nI j63)), none] [] N V63 0 0 := by
              intro g_63
              induction g_63 with
              | zero =>
                intro j63  V63 hj63 i63_0 i63_1
                obtain rfl : j63 = (2 ^ zn0) := by omega
                refine aw_iload_n dX12_rooms_63 rfl ?_
                refine aw_iconst (v := 1) dX12_rooms_64 (by decide) ?_
                refine aw_iload_n dX12_rooms_65 rfl ?_
                refine aw_ishl dX12_rooms_66 ?_
                refine aw_eqi (y := (nI (2 ^ zn0))) (fx_shl13 zn0 (by omega)) ?_
                refine aw_icmp_ge (tgt := 123) dX12_rooms_67 (by decide) (fun c_29 => ?_) (fun c_29 => ?_)
                rotate_left
                · exact absurd (nI_le (a := (2 ^ zn0)) (b := (2 ^ zn0)) (Nat.le_refl _) (by omega)) c_29
                refine aw_bipush (v := 99) dX12_rooms_123 (by decide) ?_
                refine aw_istore_n (ls' := [some (.ref (b + 100)), some (.int (nI zn0)), some (.int (nI zn1)), some (.int 99), none]) dX12_rooms_125 (Nat.le_of_ble_eq_true rfl) rfl ?_
                refine aw_iconst (v := 0) dX12_rooms_126 (by decide) ?_
                refine aw_istore (ls' := [some (.ref (b + 100)), some (.int (nI zn0)), some (.int (nI zn1)), some (.int 99), some (.int 0)]) dX12_rooms_127 (Nat.le_of_ble_eq_true rfl) rfl ?_
                have loop_129_29 : ∀ (g_129 : Nat), ∀ (j129 : Nat) (v129_3 : Int32), j129 + g_129 = zn0 → AW l D b jX12_rooms (fx_rm 3 0 0) none (fx_MQ D b 0 0 (fx_qi (fun r N9 V9 => (TKS (cRo m0 m1 (fI (V 100) 13)) (fI (V 100) 13) (fI (V9 100) 13)) ∧ N = N9 ∧ JR D b N cl [(132, 132, 0, 1000000), (100, 100, 13, 13)] V V9))) 129 [some (.ref (b + 100)), some (.int (nI zn0)), some (.int (nI zn1)), some (.int v129_3), some (.int (nI j129))] [] N V63 0 0 := by
                  intro g_129
                  induction g_129 with
                  | zero =>
                    intro j129 v129_3 hj129
                    obtain rfl : zn0 = j129 := by omega
                    refine aw_iload dX12_rooms_129 rfl ?_
                    refine aw_iload_n dX12_rooms_131 rfl ?_
                    refine aw_icmp_ge (tgt := 162) dX12_rooms_132 (by decide) (fun c_32 => ?_) (fun c_32 => ?_)
                    rotate_left
                    · exact absurd (nI_le (a := zn0) (b := zn0) (Nat.le_refl _) (by omega)) c_32
                    refine aw_iload_n dX12_rooms_162 rfl ?_
                    refine aw_ireti dX12_rooms_163 rfl (Nat.le_of_ble_eq_true rfl) (Nat.le_of_ble_eq_true rfl) ?_
                    exact ⟨Or.inl ⟨(by have zhi_5 := hi_5.resolve_left c_11; have zhi_15 := hi_15.resolve_left c_21; have zzzn0 := fx_nIt (n := zn0) (by omega); have zzzn1 := fx_nIt (n := zn1) (by omega); have zt := fx_nIt (n := tad_1) (by omega); have e0 : (0 : Int32).toInt = 0 := (by decide); have e1 : (1 : Int32).toInt = 1 := (by decide); have e12 : (12 : Int32).toInt = 12 := (by decide); have e99 : (99 : Int32).toInt = 99 := (by decide); have q0 := zhi_5; have q1 := zhi_15; have q2 := hm.1; have q3 := hm.2; have q4 := hta0; simp only [cRo, ← Int32.toInt_inj, Int32.le_iff_toInt_le, Int32.lt_iff_toInt_lt] at q0 q1 q2 q3 q4 ⊢; omega), i63_1⟩, rfl, i63_0⟩
                  | succ g_129 ih_129_30 =>
                    intro j129 v129_3 hj129
                    have hlj129 : j129 < zn0 := by omega
                    refine aw_iload dX12_rooms_129 rfl ?_
                    refine aw_iload_n dX12_rooms_131 rfl ?_
                    refine aw_icmp_ge (tgt := 162) dX12_rooms_132 (by decide) (fun c_33 => ?_) (fun c_33 => ?_)
                    · exact absurd c_33 (nI_ge (a := j129) (b := zn0) (by omega) (by omega))
                    refine aw_iload_n dX12_rooms_135 rfl ?_
                    refine aw_aload_n dX12_rooms_136 rfl ?_
                    obtain ⟨ftoldPeople_34, ftoldDoors_34, fwasDoors_34, ffault_34, fopen_34, flines_34, fmeantSet_34, fopenedNow_34, fvainNow_34, flowNow_34, fhighNow_34, fisKept_34, tad_34, pl0_34, le0_34, nu0_34, coy_34, wag_34, say_34, e_34, hntad_34, hnpl0_34, hnle0_34, hnnu0_34, hncoy_34, hnwag_34, hnsay_34⟩ := JR.get i63_0 cm_100
                    refine aw_get dX12_rooms_137 fl_X12_107 e_34 (by omega) rfl ?_
                    refine aw_bipush (v := 12) dX12_rooms_140 (by decide) ?_
                    refine aw_iconst (v := 1) dX12_rooms_142 (by decide) ?_
                    refine aw_iload_n dX12_rooms_143 rfl ?_
                    refine aw_ishl dX12_rooms_144 ?_
                    refine aw_eqi (y := (nI (2 ^ zn0))) (fx_shl13 zn0 (by omega)) ?_
                    refine aw_iconst (v := 1) dX12_rooms_145 (by decide) ?_
                    refine aw_isub dX12_rooms_146 ?_
                    refine aw_eqi (y := (nI ((2 ^ zn0) - 1))) (pk_sub (a := (2 ^ zn0)) (b := 1) (by omega)) ?_
                    refine aw_imul dX12_rooms_147 ?_
                    refine aw_eqi (y := nI (12 * ((2 ^ zn0) - 1))) (pk_mul _ _) ?_
                    refine aw_iload dX12_rooms_148 rfl ?_
                    refine aw_iadd dX12_rooms_150 ?_
                    refine aw_eqi (y := nI ((12 * ((2 ^ zn0) - 1)) + j129)) (nI_add _ _) ?_
                    obtain ⟨g_35, e_35⟩ := JR.get i63_0 cm_132
                    refine aw_iald (v := (g_35 ((12 * ((2 ^ zn0) - 1)) + j129))) dX12_rooms_151 e_35 (by omega) (vp_in_nI (n := ((12 * ((2 ^ zn0) - 1)) + j129)) (by omega) (by omega)) (congrArg g_35 (nI_clamp (n := ((12 * ((2 ^ zn0) - 1)) + j129)) (by omega))) ?_
                    refine aw_callSi (J' := jX12_min) (As := [.int v129_3, .int (g_35 ((12 * ((2 ^ zn0) - 1)) + j129))]) (st := []) dX12_rooms_152 tb_1325 ok_X12_min rfl (r_min l D b N V63 hN cl i63_0.1 v129_3 (g_35 ((12 * ((2 ^ zn0) - 1)) + j129))) rfl (Nat.le_of_ble_eq_true rfl) ⟨Nat.le_of_ble_eq_true rfl, Nat.le_of_ble_eq_true rfl, Nat.le_of_ble_eq_true rfl, Nat.le_of_ble_eq_true rfl⟩ (fun r_37 N_38 V_39 q_40 => ?_)
                    obtain ⟨rfl, rfl⟩ := q_40
                    refine aw_istore_n (ls' := [some (.ref (b + 100)), some (.int (nI zn0)), some (.int (nI zn1)), some (.int r_37), some (.int (nI j129))]) dX12_rooms_155 (Nat.le_of_ble_eq_true rfl) rfl ?_
                    refine aw_iinc (v := (nI (j129 + 1))) (ls' := [some (.ref (b + 100)), some (.int (nI zn0)), some (.int (nI zn1)), some (.int r_37), some (.int (nI (j129 + 1)))]) dX12_rooms_156 rfl (fx_up_1 _) (Nat.le_of_ble_eq_true rfl) rfl ?_
                    refine aw_goto (tgt := 129) dX12_rooms_159 (by decide) ?_
                    refine aw_le ?_ (ih_129_30 (j129 + 1) r_37  (by omega))
                    exact ⟨rfl, ⟨rfl, ⟨rfl, ⟨rfl, ⟨rfl, trivial⟩⟩⟩⟩⟩
                refine aw_le ?_ (loop_129_29 zn0 0 99  (by omega))
                exact ⟨rfl, ⟨rfl, ⟨rfl, ⟨rfl, ⟨rfl, trivial⟩⟩⟩⟩⟩
              | succ g_63 ih_63_27 =>
                intro j63  V63 hj63 i63_0 i63_1
                have hlj63 : j63 < (2 ^ zn0) := by omega
                refine aw_iload_n dX12_rooms_63 rfl ?_
                refine aw_iconst (v := 1) dX12_rooms_64 (by decide) ?_
                refine aw_iload_n dX12_rooms_65 rfl ?_
                refine aw_ishl dX12_rooms_66 ?_
                refine aw_eqi (y := (nI (2 ^ zn0))) (fx_shl13 zn0 (by omega)) ?_
                refine aw_icmp_ge (tgt := 123) dX12_rooms_67 (by decide) (fun c_41 => ?_) (fun c_41 => ?_)
                · exact absurd c_41 (nI_ge (a := j63) (b := (2 ^ zn0)) (by omega) (by omega))
                refine aw_iconst (v := 0) dX12_rooms_70 (by decide) ?_
                refine aw_istore (ls' := [some (.ref (b + 100)), some (.int (nI zn0)), some (.int (nI zn1)), some (.int (nI j63)), some (.int 0)]) dX12_rooms_71 (Nat.le_of_ble_eq_true rfl) rfl ?_
                have loop_73_41 : ∀ (g_73 : Nat), ∀ (j73 : Nat)  (V73 : Wd), j73 + g_73 = zn0 → (JR D b N cl [(132, 132, 0, 1000000), (100, 100, 13, 13)] V V73) → (fI (V73 100) 13 = 0) → AW l D b jX12_rooms (fx_rm 3 0 0) none (fx_MQ D b 0 0 (fx_qi (fun r N9 V9 => (TKS (cRo m0 m1 (fI (V 100) 13)) (fI (V 100) 13) (fI (V9 100) 13)) ∧ N = N9 ∧ JR D b N cl [(132, 132, 0, 1000000), (100, 100, 13, 13)] V V9))) 73 [some (.ref (b + 100)), some (.int (nI zn0)), some (.int (nI zn1)), some (.int (nI j63)), some (.int (nI j73))] [] N V73 0 0 := by
                  intro g_73
                  induction g_73 with
                  | zero =>
                    intro j73  V73 hj73 i73_0 i73_1
                    obtain rfl : zn0 = j73 := by omega
                    refine aw_iload dX12_rooms_73 rfl ?_
                    refine aw_iload_n dX12_rooms_75 rfl ?_
                    refine aw_icmp_ge (tgt := 117) dX12_rooms_76 (by decide) (fun c_44 => ?_) (fun c_44 => ?_)
                    rotate_left
                    · exact absurd (nI_le (a := zn0) (b := zn0) (Nat.le_refl _) (by omega)) c_44
                    refine aw_iinc (v := (nI (j63 + 1))) (ls' := [some (.ref (b + 100)), some (.int (nI zn0)), some (.int (nI zn1)), some (.int (nI (j63 + 1))), some (.int (nI zn0))]) dX12_rooms_117 rfl (fx_up_1 _) (Nat.le_of_ble_eq_true rfl) rfl ?_
                    refine aw_goto (tgt := 63) dX12_rooms_120 (by decide) ?_
                    refine aw_le ?_ (ih_63_27 (j63 + 1)  V73 (by omega) (i73_0) (i73_1))
                    exact ⟨rfl, ⟨rfl, ⟨rfl, ⟨rfl, trivial⟩⟩⟩⟩
                  | succ g_73 ih_73_42 =>
                    intro j73  V73 hj73 i73_0 i73_1
                    have hlj73 : j73 < zn0 := by omega
                    refine aw_iload dX12_rooms_73 rfl ?_
                    refine aw_iload_n dX12_rooms_75 rfl ?_
                    refine aw_icmp_ge (tgt := 117) dX12_rooms_76 (by decide) (fun c_45 => ?_) (fun c_45 => ?_)
                    · exact absurd c_45 (nI_ge (a := j73) (b := zn0) (by omega) (by omega))
                    refine aw_aload_n dX12_rooms_79 rfl ?_
                    obtain ⟨ftoldPeople_46, ftoldDoors_46, fwasDoors_46, ffault_46, fopen_46, flines_46, fmeantSet_46, fopenedNow_46, fvainNow_46, flowNow_46, fhighNow_46, fisKept_46, tad_46, pl0_46, le0_46, nu0_46, coy_46, wag_46, say_46, e_46, hntad_46, hnpl0_46, hnle0_46, hnnu0_46, hncoy_46, hnwag_46, hnsay_46⟩ := JR.get i73_0 cm_100
                    refine aw_get dX12_rooms_80 fl_X12_107 e_46 (by omega) rfl ?_
                    refine aw_bipush (v := 12) dX12_rooms_83 (by decide) ?_
                    refine aw_iload_n dX12_rooms_85 rfl ?_
                    refine aw_imul dX12_rooms_86 ?_
                    refine aw_eqi (y := nI (12 * j63)) (pk_mul _ _) ?_
                    refine aw_iload dX12_rooms_87 rfl ?_
                    refine aw_iadd dX12_rooms_89 ?_
                    refine aw_eqi (y := nI ((12 * j63) + j73)) (nI_add _ _) ?_
                    have hq73 := fx_pow12 (k := j73) (by omega)
                    refine aw_iload_n dX12_rooms_90 rfl ?_
                    refine aw_iconst (v := 1) dX12_rooms_91 (by decide) ?_
                    refine aw_iload dX12_rooms_92 rfl ?_
                    refine aw_ishl dX12_rooms_94 ?_
                    refine aw_eqi (y := (nI (2 ^ j73))) (fx_shl12 j73 (by omega)) ?_
                    refine aw_icmp_ne (tgt := 102) dX12_rooms_95 (by decide) (fun c_47 => ?_) (fun c_47 => ?_)
                    · skip
                      have nc_47 : ¬ (j63 = (2 ^ j73)) := fun z => c_47 ((nI_eq (a := j63) (b := (2 ^ j73)) (by omega) (by omega)).mpr z)
                      refine aw_aload_n dX12_rooms_102 rfl ?_
                      refine aw_iload_n dX12_rooms_103 rfl ?_
                      refine aw_iload_n dX12_rooms_104 rfl ?_
                      refine aw_iload dX12_rooms_105 rfl ?_
                      refine aw_callVi (J' := jX12_sleeps) (As := [.int (nI zn0), .int (nI j63), .int (nI j73)]) (st := [.int (nI ((12 * j63) + j73)), .ref (b + 132)]) dX12_rooms_107 tb_1597 ok_X12_sleeps ⟨_, e_46⟩ (by omega) rfl rfl (r_sleeps l D b N V73 hN cl i73_0.1 (nI zn0) ⟨zn0, by omega, rfl⟩ (nI j63) ⟨j63, by omega, rfl⟩ (nI j73) ⟨j73, by omega, rfl⟩) rfl (Nat.le_of_ble_eq_true rfl) ⟨Nat.le_of_ble_eq_true rfl, Nat.le_of_ble_eq_true rfl, Nat.le_of_ble_eq_true rfl, Nat.le_of_ble_eq_true rfl⟩ (fun r_49 N_50 V_51 q_52 => ?_)
                      obtain ⟨rfl, rfl⟩ := q_52
                      obtain ⟨g_53, e_53⟩ := JR.get i73_0 cm_132
                      refine aw_iast dX12_rooms_110 e_53 (by omega) (vp_in_nI (n := ((12 * j63) + j73)) (by omega) (by omega)) ?_
                      refine aw_upR i73_0 cm_132 ⟨_, rfl⟩ (by decide) (WA LM0 (by decide) (by decide)) (fun V_54 j_54 k_54 e_54 => ?_)
                      refine aw_iinc (v := (nI (j73 + 1))) (ls' := [some (.ref (b + 100)), some (.int (nI zn0)), some (.int (nI zn1)), some (.int (nI j63)), some (.int (nI (j73 + 1)))]) dX12_rooms_111 rfl (fx_up_1 _) (Nat.le_of_ble_eq_true rfl) rfl ?_
                      refine aw_goto (tgt := 73) dX12_rooms_114 (by decide) ?_
                      refine aw_le ?_ (ih_73_42 (j73 + 1)  V_54 (by omega) (j_54) (((congrArg (fun z => fI z 13) (k_54 _ (by omega))).trans i73_1)))
                      exact ⟨rfl, ⟨rfl, ⟨rfl, ⟨rfl, ⟨rfl, trivial⟩⟩⟩⟩⟩
                    · skip
                      have nc_47 : j63 = (2 ^ j73) := (nI_eq (a := j63) (b := (2 ^ j73)) (by omega) (by omega)).mp c_47
                      refine aw_iload_n dX12_rooms_98 rfl ?_
                      refine aw_goto (tgt := 110) dX12_rooms_99 (by decide) ?_
                      obtain ⟨g_55, e_55⟩ := JR.get i73_0 cm_132
                      refine aw_iast dX12_rooms_110 e_55 (by omega) (vp_in_nI (n := ((12 * j63) + j73)) (by omega) (by omega)) ?_
                      refine aw_upR i73_0 cm_132 ⟨_, rfl⟩ (by decide) (WA LM0 (by decide) (by decide)) (fun V_56 j_56 k_56 e_56 => ?_)
                      refine aw_iinc (v := (nI (j73 + 1))) (ls' := [some (.ref (b + 100)), some (.int (nI zn0)), some (.int (nI zn1)), some (.int (nI j63)), some (.int (nI (j73 + 1)))]) dX12_rooms_111 rfl (fx_up_1 _) (Nat.le_of_ble_eq_true rfl) rfl ?_
                      refine aw_goto (tgt := 73) dX12_rooms_114 (by decide) ?_
                      refine aw_le ?_ (ih_73_42 (j73 + 1)  V_56 (by omega) (j_56) (((congrArg (fun z => fI z 13) (k_56 _ (by omega))).trans i73_1)))
                      exact ⟨rfl, ⟨rfl, ⟨rfl, ⟨rfl, ⟨rfl, trivial⟩⟩⟩⟩⟩
                refine aw_le ?_ (loop_73_41 zn0 0  V63 (by omega) (i63_0) (i63_1))
                exact ⟨rfl, ⟨rfl, ⟨rfl, ⟨rfl, ⟨rfl, trivial⟩⟩⟩⟩⟩
            refine aw_le ?_ (loop_63_26 ((2 ^ zn0) - 1) 1  V_23 (by omega) (j_23) (((congrArg (fun z => fI z 13) e_23).trans rfl)))
            exact ⟨rfl, ⟨rfl, ⟨rfl, ⟨rfl, trivial⟩⟩⟩⟩
          | succ g_37 ih_37_24 =>
            intro j37  hj37
            have hlj37 : j37 < zn0 := by omega
            refine aw_iload_n dX12_rooms_37 rfl ?_
            refine aw_iload_n dX12_rooms_38 rfl ?_
            refine aw_icmp_ge (tgt := 61) dX12_rooms_39 (by decide) (fun c_57 => ?_) (fun c_57 => ?_)
            · exact absurd c_57 (nI_ge (a := j37) (b := zn0) (by omega) (by omega))
            refine aw_aload_n dX12_rooms_42 rfl ?_
            refine aw_iload_n dX12_rooms_43 rfl ?_
            refine aw_callVi (J' := jX12_octet) (As := [.int (nI j37)]) (st := []) dX12_rooms_44 tb_1556 ok_X12_octet ⟨_, e_23⟩ (by omega) rfl rfl (r_octet l D b N V_23 hN cl j_23.1 (nI j37) ⟨j37, by omega, rfl⟩) rfl (Nat.le_of_ble_eq_true rfl) ⟨Nat.le_of_ble_eq_true rfl, Nat.le_of_ble_eq_true rfl, Nat.le_of_ble_eq_true rfl, Nat.le_of_ble_eq_true rfl⟩ (fun r_59 N_60 V_61 q_62 => ?_)
            obtain ⟨rfl, rfl⟩ := q_62
            refine aw_bipush (v := 16) dX12_rooms_47 (by decide) ?_
            refine aw_icmp_lt (tgt := 55) dX12_rooms_49 (by decide) (fun c_63 => ?_) (fun c_63 => ?_)
            · skip
              refine aw_iinc (v := (nI (j37 + 1))) (ls' := [some (.ref (b + 100)), some (.int (nI zn0)), some (.int (nI zn1)), some (.int (nI (j37 + 1))), none]) dX12_rooms_55 rfl (fx_up_1 _) (Nat.le_of_ble_eq_true rfl) rfl ?_
              refine aw_goto (tgt := 37) dX12_rooms_58 (by decide) ?_
              refine aw_le ?_ (ih_37_24 (j37 + 1)   (by omega))
              exact ⟨rfl, ⟨rfl, ⟨rfl, ⟨rfl, trivial⟩⟩⟩⟩
            · skip
              refine aw_bipush (v := (-3)) dX12_rooms_52 (by decide) ?_
              refine aw_ireti dX12_rooms_54 rfl (Nat.le_of_ble_eq_true rfl) (Nat.le_of_ble_eq_true rfl) ?_
              exact ⟨Or.inl ⟨(by have zhi_5 := hi_5.resolve_left c_11; have zhi_15 := hi_15.resolve_left c_21; have zzzn0 := fx_nIt (n := zn0) (by omega); have zzzn1 := fx_nIt (n := zn1) (by omega); have zt := fx_nIt (n := tad_1) (by omega); have e0 : (0 : Int32).toInt = 0 := (by decide); have e1 : (1 : Int32).toInt = 1 := (by decide); have e12 : (12 : Int32).toInt = 12 := (by decide); have e99 : (99 : Int32).toInt = 99 := (by decide); have q0 := zhi_5; have q1 := zhi_15; have q2 := hm.1; have q3 := hm.2; have q4 := hta0; simp only [cRo, ← Int32.toInt_inj, Int32.le_iff_toInt_le, Int32.lt_iff_toInt_lt] at q0 q1 q2 q3 q4 ⊢; omega), ((congrArg (fun z => fI z 13) e_23).trans rfl)⟩, rfl, j_23⟩
        refine aw_le ?_ (loop_37_23 zn0 0   (by omega))
        exact ⟨rfl, ⟨rfl, ⟨rfl, ⟨rfl, trivial⟩⟩⟩⟩
      · skip
        have nc_22 : ¬ (zn0 ≤ tad_1) := fun z => c_22 ((nI_leI (a := zn0) (b := tad_1) (by omega) (by omega)).mpr z)
        refine aw_iconst (v := (-1)) dX12_rooms_28 (by decide) ?_
        refine aw_ireti dX12_rooms_29 rfl (Nat.le_of_ble_eq_true rfl) (Nat.le_of_ble_eq_true rfl) ?_
        exact ⟨Or.inr ⟨(by have zhi_5 := hi_5.resolve_left c_11; have zhi_15 := hi_15.resolve_left c_21; have zzzn0 := fx_nIt (n := zn0) (by omega); have zzzn1 := fx_nIt (n := zn1) (by omega); have zt := fx_nIt (n := tad_1) (by omega); have e0 : (0 : Int32).toInt = 0 := (by decide); have e1 : (1 : Int32).toInt = 1 := (by decide); have e12 : (12 : Int32).toInt = 12 := (by decide); have e99 : (99 : Int32).toInt = 99 := (by decide); have q0 := zhi_5; have q1 := zhi_15; have q2 := hm.1; have q3 := hm.2; have q4 := hta0; simp only [cRo, ← Int32.toInt_inj, Int32.le_iff_toInt_le, Int32.lt_iff_toInt_lt] at q0 q1 q2 q3 q4 ⊢; omega), (Eq.refl (fI (V 100) 13))⟩, rfl, hJ0⟩

set_option maxHeartbeats 4000000 in
set_option maxRecDepth 100000 in
theorem r_guessK (l : Launch) (D : va_G) (b : Nat) (N : Nat) (V : Wd) (hN : 133 ≤ N) (cl : Nat) (hW : CR D b cl V) (n0 : Int32) (n1 : Int32) (m0 : Int32) (m1 : Int32) (hm : m0 = n0 ∧ m1 = n1) : MI l D b 4 jX12_guess [.ref (b + 100), .int n0, .int n1] N V 0 0 (fun r N9 V9 => (TKS (cGu m0 m1 (fI (V 100) 13)) (fI (V 100) 13) (fI (V9 100) 13)) ∧ N = N9 ∧ JR D b N cl [(100, 100, 13, 13), (100, 100, 45, 45), (100, 100, 46, 46)] V V9) := by
  have hJ0 : JR D b N cl [(100, 100, 13, 13), (100, 100, 45, 45), (100, 100, 46, 46)] V V := JR.rf hW
  refine mw_of (by decide) (by simp [Value.category]) (Nat.le_of_ble_eq_true rfl) ?_
  show AW l D b jX12_guess (fx_rm 4 0 0) none (fx_MQ D b 0 0 (fx_qi (fun r N9 V9 => (TKS (cGu m0 m1 (fI (V 100) 13)) (fI (V 100) 13) (fI (V9 100) 13)) ∧ N = N9 ∧ JR D b N cl [(100, 100, 13, 13), (100, 100, 45, 45), (100, 100, 46, 46)] V V9))) 0 [some (.ref (b + 100)), some (.int n0), some (.int n1), none, none] [] N V 0 0
  obtain ⟨ftoldPeople_1, ftoldDoors_1, fwasDoors_1, ffault_1, fopen_1, flines_1, fmeantSet_1, fopenedNow_1, fvainNow_1, flowNow_1, fhighNow_1, fisKept_1, tad_1, pl0_1, le0_1, nu0_1, coy_1, wag_1, say_1, e_1, hntad_1, hnpl0_1, hnle0_1, hnnu0_1, hncoy_1, hnwag_1, hnsay_1⟩ := JR.get hJ0 cm_100
  have hta0 : fI (V 100) 13 = nI tad_1 := ((congrArg (fun z => fI z 13) e_1).trans rfl)
  refine aw_iload_n dX12_guess_0 rfl ?_
  refine aw_iconst (v := 1) dX12_guess_1 (by decide) ?_
  refine aw_bipush (v := 12) dX12_guess_2 (by decide) ?_
  refine aw_callSi (J' := jX12_in) (As := [.int n0, .int 1, .int 12]) (st := []) dX12_guess_4 tb_1209 ok_X12_in rfl (r_inK l D b N V hN cl hJ0.1 n0 1 12) rfl (Nat.le_of_ble_eq_true rfl) ⟨Nat.le_of_ble_eq_true rfl, Nat.le_of_ble_eq_true rfl, Nat.le_of_ble_eq_true rfl, Nat.le_of_ble_eq_true rfl⟩ (fun r_7 N_8 V_9 q_10 => ?_)
  obtain ⟨⟨z_4, h_3⟩, rfl, rfl⟩ := q_10
  obtain ⟨hi_5, hi_6⟩ := h_3
  refine aw_if_eq (tgt := 47) dX12_guess_7 (by decide) (fun c_11 => ?_) (fun c_11 => ?_)
  · skip
    refine aw_iconst (v := (-1)) dX12_guess_47 (by decide) ?_
    refine aw_ireti dX12_guess_48 rfl (Nat.le_of_ble_eq_true rfl) (Nat.le_of_ble_eq_true rfl) ?_
    exact ⟨Or.inr ⟨(by have zhi_6 := hi_6 c_11; have zt := fx_nIt (n := tad_1) (by omega); have e0 : (0 : Int32).toInt = 0 := (by decide); have e1 : (1 : Int32).toInt = 1 := (by decide); have e12 : (12 : Int32).toInt = 12 := (by decide); have e15 : (15 : Int32).toInt = 15 := (by decide); have e20 : (20 : Int32).toInt = 20 := (by decide); have e35 : (35 : Int32).toInt = 35 := (by decide); have e100 : (100 : Int32).toInt = 100 := (by decide); have q0 := zhi_6; have q1 := hm.1; have q2 := hm.2; have q3 := hta0; simp only [cGu, ← Int32.toInt_inj, Int32.le_iff_toInt_le, Int32.lt_iff_toInt_lt] at q0 q1 q2 q3 ⊢; omega), (Eq.refl (fI (V 100) 13))⟩, rfl, hJ0⟩
  · skip
    obtain ⟨zn0, h0zn0, hzn0, rfl⟩ := in_nat (a := 1) (b := 12) (by decide) (hi_5.resolve_left c_11)
    refine aw_iload_n dX12_guess_10 rfl ?_
    refine aw_iconst (v := 0) dX12_guess_11 (by decide) ?_
    refine aw_bipush (v := 15) dX12_guess_12 (by decide) ?_
    refine aw_callSi (J' := jX12_in) (As := [.int n1, .int 0, .int 15]) (st := []) dX12_guess_14 tb_1209 ok_X12_in rfl (r_inK l D b N V hN cl hJ0.1 n1 0 15) rfl (Nat.le_of_ble_eq_true rfl) ⟨Nat.le_of_ble_eq_true rfl, Nat.le_of_ble_eq_true rfl, Nat.le_of_ble_eq_true rfl, Nat.le_of_ble_eq_true rfl⟩ (fun r_17 N_18 V_19 q_20 => ?_)
    obtain ⟨⟨z_14, h_13⟩, rfl, rfl⟩ := q_20
    obtain ⟨hi_15, hi_16⟩ := h_13
    refine aw_if_ne (tgt := 37) dX12_guess_17 (by decide) (fun c_21 => ?_) (fun c_21 => ?_)
    · skip
      obtain ⟨zn1, h0zn1, hzn1, rfl⟩ := in_nat (a := 0) (b := 15) (by decide) (hi_15.resolve_left c_21)
      refine aw_iconst (v := 2) dX12_guess_37 (by decide) ?_
      refine aw_iload_n dX12_guess_38 rfl ?_
      refine aw_imul dX12_guess_39 ?_
      refine aw_eqi (y := nI (2 * zn0)) (pk_mul _ _) ?_
      refine aw_aload_n dX12_guess_40 rfl ?_
      refine aw_get dX12_guess_41 fl_X12_152 e_1 (by omega) rfl ?_
      refine aw_icmp_le (tgt := 49) dX12_guess_44 (by decide) (fun c_22 => ?_) (fun c_22 => ?_)
      · skip
        have nc_22 : (2 * zn0) ≤ tad_1 := (nI_leI (a := (2 * zn0)) (b := tad_1) (by omega) (by omega)).mp c_22
        refine aw_aload_n dX12_guess_49 rfl ?_
        refine aw_iconst (v := 0) dX12_guess_50 (by decide) ?_
        refine aw_put dX12_guess_51 fp_X12_152 e_1 (by omega) rfl rfl (Nat.le_of_ble_eq_true rfl) rfl ?_
        refine aw_upR hJ0 cm_100 ⟨_, _, _, _, _, _, _, _, _, _, _, _, 0, pl0_1, le0_1, nu0_1, coy_1, wag_1, say_1, rfl, by omega, by omega, by omega, by omega, by omega, by omega, by omega⟩ (by decide) (WO (s := 13) (x := .int 0) e_1 rfl LM0 (by decide) (by decide) (by decide) (Or.inl (by decide))) (fun V_23 j_23 k_23 e_23 => ?_)
        obtain ⟨g_24, e_24⟩ := JR.get j_23 cm_110
        refine aw_iconst (v := 0) dX12_guess_54 (by decide) ?_
        refine aw_istore_n (ls' := [some (.ref (b + 100)), some (.int (nI zn0)), some (.int (nI zn1)), some (.int 0), none]) dX12_guess_55 (Nat.le_of_ble_eq_true rfl) rfl ?_
        have loop_56_24 : ∀ (g_56 : Nat), ∀ (j56 : Nat), j56 + g_56 = zn0 → (TP g_24 j56) → AW l D b jX12_guess (fx_rm 4 0 0) none (fx_MQ D b 0 0 (fx_qi (fun r N9 V9 => (TKS (cGu m0 m1 (fI (V 100) 13)) (fI (V 100) 13) (fI (V9 100) 13)) ∧ N = N9 ∧ JR D b N cl [(100, 100, 13, 13), (100, 100, 45, 45), (100, 100, 46, 46)] V V9))) 56 [some (.ref (b + 100)), some (.int (nI zn0)), some (.int (nI zn1)), some (.int (nI j56)), none] [] N V_23 0 0 := by
          intro g_56
          induction g_56 with
          | zero =>
            intro j56  hj56 i56_0
            obtain rfl : zn0 = j56 := by omega
            refine aw_iload_n dX12_guess_56 rfl ?_
            refine aw_iload_n dX12_guess_57 rfl ?_
            refine aw_icmp_ge (tgt := 97) dX12_guess_58 (by decide) (fun c_27 => ?_) (fun c_27 => ?_)
            rotate_left
            · exact absurd (nI_le (a := zn0) (b := zn0) (Nat.le_refl _) (by omega)) c_27
            refine aw_iload_n dX12_guess_97 rfl ?_
            refine aw_bipush (v := 100) dX12_guess_98 (by decide) ?_
            refine aw_icmp_eq (tgt := 146) dX12_guess_100 (by decide) (fun c_28 => ?_) (fun c_28 => ?_)
            · skip
              have nc_28 : zn1 = 100 := (nI_eq (a := zn1) (b := 100) (by omega) (by omega)).mp c_28
              refine aw_iconst (v := 0) dX12_guess_146 (by decide) ?_
              refine aw_istore_n (ls' := [some (.ref (b + 100)), some (.int (nI zn0)), some (.int (nI zn1)), some (.int 0), none]) dX12_guess_147 (Nat.le_of_ble_eq_true rfl) rfl ?_
              refine aw_iconst (v := 0) dX12_guess_148 (by decide) ?_
              refine aw_istore (ls' := [some (.ref (b + 100)), some (.int (nI zn0)), some (.int (nI zn1)), some (.int 0), some (.int 0)]) dX12_guess_149 (Nat.le_of_ble_eq_true rfl) rfl ?_
              have loop_151_28 : ∀ (g_151 : Nat), ∀ (j151 : Nat) (v151_3 : Int32) (V151 : Wd), j151 + g_151 = 16 → (JR D b N cl [(100, 100, 13, 13), (100, 100, 45, 45), (100, 100, 46, 46)] V V151) → (V151 110 = cB D 260 g_24) → (fI (V151 100) 13 = 0) → AW l D b jX12_guess (fx_rm 4 0 0) none (fx_MQ D b 0 0 (fx_qi (fun r N9 V9 => (TKS (cGu m0 m1 (fI (V 100) 13)) (fI (V 100) 13) (fI (V9 100) 13)) ∧ N = N9 ∧ JR D b N cl [(100, 100, 13, 13), (100, 100, 45, 45), (100, 100, 46, 46)] V V9))) 151 [some (.ref (b + 100)), some (.int (nI zn0)), some (.int (nI zn1)), some (.int v151_3), some (.int (nI j151))] [] N V151 0 0 := by
                intro g_151
                induction g_151 with
                | zero =>
                  intro j151 v151_3 V151 hj151 i151_0 i151_1 i151_2
                  obtain rfl : j151 = 16 := by omega
                  refine aw_iload dX12_guess_151 rfl ?_
                  refine aw_bipush (v := 16) dX12_guess_153 (by decide) ?_
                  refine aw_icmp_ge (tgt := 181) dX12_guess_155 (by decide) (fun c_31 => ?_) (fun c_31 => ?_)
                  rotate_left
                  · exact absurd (nI_le (a := 16) (b := 16) (Nat.le_refl _) (by omega)) c_31
                  refine aw_iload_n dX12_guess_181 rfl ?_
                  refine aw_ireti dX12_guess_182 rfl (Nat.le_of_ble_eq_true rfl) (Nat.le_of_ble_eq_true rfl) ?_
                  exact ⟨Or.inl ⟨(by have zhi_5 := hi_5.resolve_left c_11; have zhi_15 := hi_15.resolve_left c_21; have zzzn0 := fx_nIt (n := zn0) (by omega); have zzzn1 := fx_nIt (n := zn1) (by omega); have zt := fx_nIt (n := tad_1) (by omega); have t2 : (2 * m0).toInt = 2 * m0.toInt := two_n (by rw [hm.1]; exact zhi_5.1) (by rw [hm.1]; exact zhi_5.2); have e0 : (0 : Int32).toInt = 0 := (by decide); have e1 : (1 : Int32).toInt = 1 := (by decide); have e12 : (12 : Int32).toInt = 12 := (by decide); have e15 : (15 : Int32).toInt = 15 := (by decide); have e20 : (20 : Int32).toInt = 20 := (by decide); have e35 : (35 : Int32).toInt = 35 := (by decide); have e100 : (100 : Int32).toInt = 100 := (by decide); have q0 := zhi_5; have q1 := zhi_15; have q2 := c_28; have q3 := hm.1; have q4 := hm.2; have q5 := hta0; simp only [cGu, ← Int32.toInt_inj, Int32.le_iff_toInt_le, Int32.lt_iff_toInt_lt] at q0 q1 q2 q3 q4 q5 ⊢; omega), i151_2⟩, rfl, i151_0⟩
                | succ g_151 ih_151_29 =>
                  intro j151 v151_3 V151 hj151 i151_0 i151_1 i151_2
                  have hlj151 : j151 < 16 := by omega
                  refine aw_iload dX12_guess_151 rfl ?_
                  refine aw_bipush (v := 16) dX12_guess_153 (by decide) ?_
                  refine aw_icmp_ge (tgt := 181) dX12_guess_155 (by decide) (fun c_32 => ?_) (fun c_32 => ?_)
                  · exact absurd c_32 (nI_ge (a := j151) (b := 16) (by omega) (by omega))
                  refine aw_aload_n dX12_guess_158 rfl ?_
                  refine aw_iload_n dX12_guess_159 rfl ?_
                  refine aw_iload dX12_guess_160 rfl ?_
                  obtain ⟨ftoldPeople_38, ftoldDoors_38, fwasDoors_38, ffault_38, fopen_38, flines_38, fmeantSet_38, fopenedNow_38, fvainNow_38, flowNow_38, fhighNow_38, fisKept_38, tad_38, pl0_38, le0_38, nu0_38, coy_38, wag_38, say_38, e_38, hntad_38, hnpl0_38, hnle0_38, hnnu0_38, hncoy_38, hnwag_38, hnsay_38⟩ := JR.get i151_0 cm_100
                  refine aw_callVi (J' := jX12_bounds) (As := [.int (nI zn0), .int (nI j151)]) (st := []) dX12_guess_162 tb_1560 ok_X12_bounds ⟨_, e_38⟩ (by omega) rfl rfl (r_bounds l D b N V151 hN cl i151_0.1 (nI zn0) ⟨zn0, by omega, rfl⟩ (nI j151) ⟨j151, by omega, rfl⟩ g_24 i151_1 (by rw [nI_clamp (n := zn0) (by omega)]; exact i56_0)) rfl (Nat.le_of_ble_eq_true rfl) ⟨Nat.le_of_ble_eq_true rfl, Nat.le_of_ble_eq_true rfl, Nat.le_of_ble_eq_true rfl, Nat.le_of_ble_eq_true rfl⟩ (fun r_39 N_40 V_37 q_41 => ?_)
                  obtain ⟨⟨z_35, h_34⟩, rfl, q_33⟩ := q_41
                  have j_36 := JR.trans i151_0 (JR.weak q_33 (Sub.cons (LMs LM0) (by decide) (by decide) (by decide) (Or.inr ⟨by decide, by decide⟩) (Sub.cons (LMs (LMs LM0)) (by decide) (by decide) (by decide) (Or.inr ⟨by decide, by decide⟩) Sub.nil)))
                  refine aw_if_eq (tgt := 175) dX12_guess_165 (by decide) (fun c_42 => ?_) (fun c_42 => ?_)
                  · skip
                    refine aw_iinc (v := (nI (j151 + 1))) (ls' := [some (.ref (b + 100)), some (.int (nI zn0)), some (.int (nI zn1)), some (.int v151_3), some (.int (nI (j151 + 1)))]) dX12_guess_175 rfl (fx_up_1 _) (Nat.le_of_ble_eq_true rfl) rfl ?_
                    refine aw_goto (tgt := 151) dX12_guess_178 (by decide) ?_
                    refine aw_le ?_ (ih_151_29 (j151 + 1) v151_3 V_37 (by omega) (j_36) ((h_34.trans i151_1)) (((JR.fI q_33 (by decide) (by decide) (nfc (by omega) (nfc (by omega) nf0))).trans i151_2)))
                    exact ⟨rfl, ⟨rfl, ⟨rfl, ⟨rfl, ⟨rfl, trivial⟩⟩⟩⟩⟩
                  · skip
                    refine aw_iload_n dX12_guess_168 rfl ?_
                    refine aw_iconst (v := 1) dX12_guess_169 (by decide) ?_
                    refine aw_iload dX12_guess_170 rfl ?_
                    refine aw_ishl dX12_guess_172 ?_
                    refine aw_ior dX12_guess_173 ?_
                    refine aw_istore_n (ls' := [some (.ref (b + 100)), some (.int (nI zn0)), some (.int (nI zn1)), some (.int (v151_3 ||| ((1 : Int32) <<< ((nI j151) &&& 31)))), some (.int (nI j151))]) dX12_guess_174 (Nat.le_of_ble_eq_true rfl) rfl ?_
                    refine aw_iinc (v := (nI (j151 + 1))) (ls' := [some (.ref (b + 100)), some (.int (nI zn0)), some (.int (nI zn1)), some (.int (v151_3 ||| ((1 : Int32) <<< ((nI j151) &&& 31)))), some (.int (nI (j151 + 1)))]) dX12_guess_175 rfl (fx_up_1 _) (Nat.le_of_ble_eq_true rfl) rfl ?_
                    refine aw_goto (tgt := 151) dX12_guess_178 (by decide) ?_
                    refine aw_le ?_ (ih_151_29 (j151 + 1) (v151_3 ||| ((1 : Int32) <<< ((nI j151) &&& 31))) V_37 (by omega) (j_36) ((h_34.trans i151_1)) (((JR.fI q_33 (by decide) (by decide) (nfc (by omega) (nfc (by omega) nf0))).trans i151_2)))
                    exact ⟨rfl, ⟨rfl, ⟨rfl, ⟨rfl, ⟨rfl, trivial⟩⟩⟩⟩⟩
              refine aw_le ?_ (loop_151_28 16 0 0 V_23 (by omega) (j_23) (e_24) (((congrArg (fun z => fI z 13) e_23).trans rfl)))
              exact ⟨rfl, ⟨rfl, ⟨rfl, ⟨rfl, ⟨rfl, trivial⟩⟩⟩⟩⟩
            · skip
              have nc_28 : ¬ (zn1 = 100) := fun z => c_28 ((nI_eq (a := zn1) (b := 100) (by omega) (by omega)).mpr z)
              refine aw_aload_n dX12_guess_103 rfl ?_
              refine aw_iload_n dX12_guess_104 rfl ?_
              refine aw_iload_n dX12_guess_105 rfl ?_
              refine aw_bipush (v := 20) dX12_guess_106 (by decide) ?_
              refine aw_icmp_ge (tgt := 115) dX12_guess_108 (by decide) (fun c_43 => ?_) (fun c_43 => ?_)
              · skip
                have nc_43 : 20 ≤ zn1 := (nI_leI (a := 20) (b := zn1) (by omega) (by omega)).mp c_43
                refine aw_iload_n dX12_guess_115 rfl ?_
                refine aw_bipush (v := 20) dX12_guess_116 (by decide) ?_
                refine aw_isub dX12_guess_118 ?_
                refine aw_eqi (y := (nI (zn1 - 20))) (pk_sub (a := zn1) (b := 20) (by omega)) ?_
                refine aw_callVi (J' := jX12_bounds) (As := [.int (nI zn0), .int (nI (zn1 - 20))]) (st := []) dX12_guess_119 tb_1560 ok_X12_bounds ⟨_, e_23⟩ (by omega) rfl rfl (r_bounds l D b N V_23 hN cl j_23.1 (nI zn0) ⟨zn0, by omega, rfl⟩ (nI (zn1 - 20)) ⟨(zn1 - 20), by omega, rfl⟩ g_24 e_24 (by rw [nI_clamp (n := zn0) (by omega)]; exact i56_0)) rfl (Nat.le_of_ble_eq_true rfl) ⟨Nat.le_of_ble_eq_true rfl, Nat.le_of_ble_eq_true rfl, Nat.le_of_ble_eq_true rfl, Nat.le_of_ble_eq_true rfl⟩ (fun r_49 N_50 V_48 q_51 => ?_)
                obtain ⟨⟨z_46, h_45⟩, rfl, q_44⟩ := q_51
                have j_47 := JR.trans j_23 (JR.weak q_44 (Sub.cons (LMs LM0) (by decide) (by decide) (by decide) (Or.inr ⟨by decide, by decide⟩) (Sub.cons (LMs (LMs LM0)) (by decide) (by decide) (by decide) (Or.inr ⟨by decide, by decide⟩) Sub.nil)))
                refine aw_if_ne (tgt := 128) dX12_guess_122 (by decide) (fun c_52 => ?_) (fun c_52 => ?_)
                · skip
                  refine aw_iload_n dX12_guess_128 rfl ?_
                  refine aw_bipush (v := 20) dX12_guess_129 (by decide) ?_
                  refine aw_icmp_ge (tgt := 141) dX12_guess_131 (by decide) (fun c_53 => ?_) (fun c_53 => ?_)
                  rotate_left
                  · exact absurd c_43 c_53
                  have nc_53 : 20 ≤ zn1 := (nI_leI (a := 20) (b := zn1) (by omega) (by omega)).mp c_53
                  refine aw_aload_n dX12_guess_141 rfl ?_
                  obtain ⟨ftoldPeople_54, ftoldDoors_54, fwasDoors_54, ffault_54, fopen_54, flines_54, fmeantSet_54, fopenedNow_54, fvainNow_54, flowNow_54, fhighNow_54, fisKept_54, tad_54, pl0_54, le0_54, nu0_54, coy_54, wag_54, say_54, e_54, hntad_54, hnpl0_54, hnle0_54, hnnu0_54, hncoy_54, hnwag_54, hnsay_54⟩ := JR.get j_47 cm_100
                  refine aw_get dX12_guess_142 fl_X12_398 e_54 (by omega) rfl ?_
                  refine aw_ireti dX12_guess_145 rfl (Nat.le_of_ble_eq_true rfl) (Nat.le_of_ble_eq_true rfl) ?_
                  exact ⟨Or.inl ⟨(by have zhi_5 := hi_5.resolve_left c_11; have zhi_15 := hi_15.resolve_left c_21; have zzzn0 := fx_nIt (n := zn0) (by omega); have zzzn1 := fx_nIt (n := zn1) (by omega); have zt := fx_nIt (n := tad_1) (by omega); have t2 : (2 * m0).toInt = 2 * m0.toInt := two_n (by rw [hm.1]; exact zhi_5.1) (by rw [hm.1]; exact zhi_5.2); have e0 : (0 : Int32).toInt = 0 := (by decide); have e1 : (1 : Int32).toInt = 1 := (by decide); have e12 : (12 : Int32).toInt = 12 := (by decide); have e15 : (15 : Int32).toInt = 15 := (by decide); have e20 : (20 : Int32).toInt = 20 := (by decide); have e35 : (35 : Int32).toInt = 35 := (by decide); have e100 : (100 : Int32).toInt = 100 := (by decide); have q0 := zhi_5; have q1 := zhi_15; have q2 := c_28; have q3 := c_43; have q4 := c_53; have q5 := hm.1; have q6 := hm.2; have q7 := hta0; simp only [cGu, ← Int32.toInt_inj, Int32.le_iff_toInt_le, Int32.lt_iff_toInt_lt] at q0 q1 q2 q3 q4 q5 q6 q7 ⊢; omega), ((JR.fI q_44 (by decide) (by decide) (nfc (by omega) (nfc (by omega) nf0))).trans ((congrArg (fun z => fI z 13) e_23).trans rfl))⟩, rfl, j_47⟩
                · skip
                  refine aw_bipush (v := (-2)) dX12_guess_125 (by decide) ?_
                  refine aw_ireti dX12_guess_127 rfl (Nat.le_of_ble_eq_true rfl) (Nat.le_of_ble_eq_true rfl) ?_
                  exact ⟨Or.inl ⟨(by have zhi_5 := hi_5.resolve_left c_11; have zhi_15 := hi_15.resolve_left c_21; have zzzn0 := fx_nIt (n := zn0) (by omega); have zzzn1 := fx_nIt (n := zn1) (by omega); have zt := fx_nIt (n := tad_1) (by omega); have t2 : (2 * m0).toInt = 2 * m0.toInt := two_n (by rw [hm.1]; exact zhi_5.1) (by rw [hm.1]; exact zhi_5.2); have e0 : (0 : Int32).toInt = 0 := (by decide); have e1 : (1 : Int32).toInt = 1 := (by decide); have e12 : (12 : Int32).toInt = 12 := (by decide); have e15 : (15 : Int32).toInt = 15 := (by decide); have e20 : (20 : Int32).toInt = 20 := (by decide); have e35 : (35 : Int32).toInt = 35 := (by decide); have e100 : (100 : Int32).toInt = 100 := (by decide); have q0 := zhi_5; have q1 := zhi_15; have q2 := c_28; have q3 := c_43; have q4 := hm.1; have q5 := hm.2; have q6 := hta0; simp only [cGu, ← Int32.toInt_inj, Int32.le_iff_toInt_le, Int32.lt_iff_toInt_lt] at q0 q1 q2 q3 q4 q5 q6 ⊢; omega), ((JR.fI q_44 (by decide) (by decide) (nfc (by omega) (nfc (by omega) nf0))).trans ((congrArg (fun z => fI z 13) e_23).trans rfl))⟩, rfl, j_47⟩
              · skip
                have nc_43 : ¬ (20 ≤ zn1) := fun z => c_43 ((nI_leI (a := 20) (b := zn1) (by omega) (by omega)).mpr z)
                refine aw_iload_n dX12_guess_111 rfl ?_
                refine aw_goto (tgt := 119) dX12_guess_112 (by decide) ?_
                refine aw_callVi (J' := jX12_bounds) (As := [.int (nI zn0), .int (nI zn1)]) (st := []) dX12_guess_119 tb_1560 ok_X12_bounds ⟨_, e_23⟩ (by omega) rfl rfl (r_bounds l D b N V_23 hN cl j_23.1 (nI zn0) ⟨zn0, by omega, rfl⟩ (nI zn1) ⟨zn1, by omega, rfl⟩ g_24 e_24 (by rw [nI_clamp (n := zn0) (by omega)]; exact i56_0)) rfl (Nat.le_of_ble_eq_true rfl) ⟨Nat.le_of_ble_eq_true rfl, Nat.le_of_ble_eq_true rfl, Nat.le_of_ble_eq_true rfl, Nat.le_of_ble_eq_true rfl⟩ (fun r_60 N_61 V_59 q_62 => ?_)
                obtain ⟨⟨z_57, h_56⟩, rfl, q_55⟩ := q_62
                have j_58 := JR.trans j_23 (JR.weak q_55 (Sub.cons (LMs LM0) (by decide) (by decide) (by decide) (Or.inr ⟨by decide, by decide⟩) (Sub.cons (LMs (LMs LM0)) (by decide) (by decide) (by decide) (Or.inr ⟨by decide, by decide⟩) Sub.nil)))
                refine aw_if_ne (tgt := 128) dX12_guess_122 (by decide) (fun c_63 => ?_) (fun c_63 => ?_)
                · skip
                  refine aw_iload_n dX12_guess_128 rfl ?_
                  refine aw_bipush (v := 20) dX12_guess_129 (by decide) ?_
                  refine aw_icmp_ge (tgt := 141) dX12_guess_131 (by decide) (fun c_64 => ?_) (fun c_64 => ?_)
                  · first | exact absurd c_64 c_43 | exact absurd c_43 c_64 | exact absurd c_64 (Int32.not_lt.mpr c_43) | exact absurd c_43 (Int32.not_lt.mpr c_64) | exact c_43 (Int32.not_lt.mp c_64) | exact c_43 (Int32.not_le.mp c_64)
                  have nc_64 : ¬ (20 ≤ zn1) := fun z => c_64 ((nI_leI (a := 20) (b := zn1) (by omega) (by omega)).mpr z)
                  refine aw_aload_n dX12_guess_134 rfl ?_
                  obtain ⟨ftoldPeople_65, ftoldDoors_65, fwasDoors_65, ffault_65, fopen_65, flines_65, fmeantSet_65, fopenedNow_65, fvainNow_65, flowNow_65, fhighNow_65, fisKept_65, tad_65, pl0_65, le0_65, nu0_65, coy_65, wag_65, say_65, e_65, hntad_65, hnpl0_65, hnle0_65, hnnu0_65, hncoy_65, hnwag_65, hnsay_65⟩ := JR.get j_58 cm_100
                  refine aw_get dX12_guess_135 fl_X12_395 e_65 (by omega) rfl ?_
                  refine aw_goto (tgt := 145) dX12_guess_138 (by decide) ?_
                  refine aw_ireti dX12_guess_145 rfl (Nat.le_of_ble_eq_true rfl) (Nat.le_of_ble_eq_true rfl) ?_
                  exact ⟨Or.inl ⟨(by have zhi_5 := hi_5.resolve_left c_11; have zhi_15 := hi_15.resolve_left c_21; have zzzn0 := fx_nIt (n := zn0) (by omega); have zzzn1 := fx_nIt (n := zn1) (by omega); have zt := fx_nIt (n := tad_1) (by omega); have t2 : (2 * m0).toInt = 2 * m0.toInt := two_n (by rw [hm.1]; exact zhi_5.1) (by rw [hm.1]; exact zhi_5.2); have e0 : (0 : Int32).toInt = 0 := (by decide); have e1 : (1 : Int32).toInt = 1 := (by decide); have e12 : (12 : Int32).toInt = 12 := (by decide); have e15 : (15 : Int32).toInt = 15 := (by decide); have e20 : (20 : Int32).toInt = 20 := (by decide); have e35 : (35 : Int32).toInt = 35 := (by decide); have e100 : (100 : Int32).toInt = 100 := (by decide); have q0 := zhi_5; have q1 := zhi_15; have q2 := c_28; have q3 := c_43; have q4 := c_64; have q5 := hm.1; have q6 := hm.2; have q7 := hta0; simp only [cGu, ← Int32.toInt_inj, Int32.le_iff_toInt_le, Int32.lt_iff_toInt_lt] at q0 q1 q2 q3 q4 q5 q6 q7 ⊢; omega), ((JR.fI q_55 (by decide) (by decide) (nfc (by omega) (nfc (by omega) nf0))).trans ((congrArg (fun z => fI z 13) e_23).trans rfl))⟩, rfl, j_58⟩
                · skip
                  refine aw_bipush (v := (-2)) dX12_guess_125 (by decide) ?_
                  refine aw_ireti dX12_guess_127 rfl (Nat.le_of_ble_eq_true rfl) (Nat.le_of_ble_eq_true rfl) ?_
                  exact ⟨Or.inl ⟨(by have zhi_5 := hi_5.resolve_left c_11; have zhi_15 := hi_15.resolve_left c_21; have zzzn0 := fx_nIt (n := zn0) (by omega); have zzzn1 := fx_nIt (n := zn1) (by omega); have zt := fx_nIt (n := tad_1) (by omega); have t2 : (2 * m0).toInt = 2 * m0.toInt := two_n (by rw [hm.1]; exact zhi_5.1) (by rw [hm.1]; exact zhi_5.2); have e0 : (0 : Int32).toInt = 0 := (by decide); have e1 : (1 : Int32).toInt = 1 := (by decide); have e12 : (12 : Int32).toInt = 12 := (by decide); have e15 : (15 : Int32).toInt = 15 := (by decide); have e20 : (20 : Int32).toInt = 20 := (by decide); have e35 : (35 : Int32).toInt = 35 := (by decide); have e100 : (100 : Int32).toInt = 100 := (by decide); have q0 := zhi_5; have q1 := zhi_15; have q2 := c_28; have q3 := c_43; have q4 := hm.1; have q5 := hm.2; have q6 := hta0; simp only [cGu, ← Int32.toInt_inj, Int32.le_iff_toInt_le, Int32.lt_iff_toInt_lt] at q0 q1 q2 q3 q4 q5 q6 ⊢; omega), ((JR.fI q_55 (by decide) (by decide) (nfc (by omega) (nfc (by omega) nf0))).trans ((congrArg (fun z => fI z 13) e_23).trans rfl))⟩, rfl, j_58⟩
          | succ g_56 ih_56_25 =>
            intro j56  hj56 i56_0
            have hlj56 : j56 < zn0 := by omega
            refine aw_iload_n dX12_guess_56 rfl ?_
            refine aw_iload_n dX12_guess_57 rfl ?_
            refine aw_icmp_ge (tgt := 97) dX12_guess_58 (by decide) (fun c_66 => ?_) (fun c_66 => ?_)
            · exact absurd c_66 (nI_ge (a := j56) (b := zn0) (by omega) (by omega))
            refine aw_aload_n dX12_guess_61 rfl ?_
            refine aw_aload_n dX12_guess_62 rfl ?_
            refine aw_iconst (v := 2) dX12_guess_63 (by decide) ?_
            refine aw_iload_n dX12_guess_64 rfl ?_
            refine aw_imul dX12_guess_65 ?_
            refine aw_eqi (y := nI (2 * j56)) (pk_mul _ _) ?_
            refine aw_callVi (J' := jX12_octet) (As := [.int (nI (2 * j56))]) (st := [.ref (b + 100)]) dX12_guess_66 tb_1556 ok_X12_octet ⟨_, e_23⟩ (by omega) rfl rfl (r_octetG l D b N V_23 hN cl j_23.1 (nI (2 * j56)) ⟨(2 * j56), by omega, rfl⟩ g_24 e_24) rfl (Nat.le_of_ble_eq_true rfl) ⟨Nat.le_of_ble_eq_true rfl, Nat.le_of_ble_eq_true rfl, Nat.le_of_ble_eq_true rfl, Nat.le_of_ble_eq_true rfl⟩ (fun r_69 N_70 V_71 q_72 => ?_)
            obtain ⟨h_68, rfl, rfl⟩ := q_72
            refine aw_callVi (J' := jX12_isTold) (As := [.int r_69]) (st := []) dX12_guess_69 tb_1351 ok_X12_isTold ⟨_, e_23⟩ (by omega) rfl rfl (r_isTold l D b N V_23 hN cl j_23.1 r_69) rfl (Nat.le_of_ble_eq_true rfl) ⟨Nat.le_of_ble_eq_true rfl, Nat.le_of_ble_eq_true rfl, Nat.le_of_ble_eq_true rfl, Nat.le_of_ble_eq_true rfl⟩ (fun r_76 N_77 V_78 q_79 => ?_)
            obtain ⟨⟨z_75, h_74⟩, rfl, rfl⟩ := q_79
            refine aw_if_eq (tgt := 88) dX12_guess_72 (by decide) (fun c_80 => ?_) (fun c_80 => ?_)
            · skip
              refine aw_bipush (v := (-3)) dX12_guess_88 (by decide) ?_
              refine aw_ireti dX12_guess_90 rfl (Nat.le_of_ble_eq_true rfl) (Nat.le_of_ble_eq_true rfl) ?_
              exact ⟨Or.inl ⟨(by have zhi_5 := hi_5.resolve_left c_11; have zhi_15 := hi_15.resolve_left c_21; have zzzn0 := fx_nIt (n := zn0) (by omega); have zzzn1 := fx_nIt (n := zn1) (by omega); have zt := fx_nIt (n := tad_1) (by omega); have t2 : (2 * m0).toInt = 2 * m0.toInt := two_n (by rw [hm.1]; exact zhi_5.1) (by rw [hm.1]; exact zhi_5.2); have e0 : (0 : Int32).toInt = 0 := (by decide); have e1 : (1 : Int32).toInt = 1 := (by decide); have e12 : (12 : Int32).toInt = 12 := (by decide); have e15 : (15 : Int32).toInt = 15 := (by decide); have e20 : (20 : Int32).toInt = 20 := (by decide); have e35 : (35 : Int32).toInt = 35 := (by decide); have e100 : (100 : Int32).toInt = 100 := (by decide); have q0 := zhi_5; have q1 := zhi_15; have q2 := hm.1; have q3 := hm.2; have q4 := hta0; simp only [cGu, ← Int32.toInt_inj, Int32.le_iff_toInt_le, Int32.lt_iff_toInt_lt] at q0 q1 q2 q3 q4 ⊢; omega), ((congrArg (fun z => fI z 13) e_23).trans rfl)⟩, rfl, j_23⟩
            · skip
              obtain ⟨zr_69, hzr_69, rfl⟩ := h_74.resolve_left c_80
              refine aw_aload_n dX12_guess_75 rfl ?_
              refine aw_iconst (v := 2) dX12_guess_76 (by decide) ?_
              refine aw_iload_n dX12_guess_77 rfl ?_
              refine aw_imul dX12_guess_78 ?_
              refine aw_eqi (y := nI (2 * j56)) (pk_mul _ _) ?_
              refine aw_iconst (v := 1) dX12_guess_79 (by decide) ?_
              refine aw_iadd dX12_guess_80 ?_
              refine aw_eqi (y := nI ((2 * j56) + 1)) (nI_add _ _) ?_
              refine aw_callVi (J' := jX12_octet) (As := [.int (nI ((2 * j56) + 1))]) (st := []) dX12_guess_81 tb_1556 ok_X12_octet ⟨_, e_23⟩ (by omega) rfl rfl (r_octetG l D b N V_23 hN cl j_23.1 (nI ((2 * j56) + 1)) ⟨((2 * j56) + 1), by omega, rfl⟩ g_24 e_24) rfl (Nat.le_of_ble_eq_true rfl) ⟨Nat.le_of_ble_eq_true rfl, Nat.le_of_ble_eq_true rfl, Nat.le_of_ble_eq_true rfl, Nat.le_of_ble_eq_true rfl⟩ (fun r_83 N_84 V_85 q_86 => ?_)
              obtain ⟨h_82, rfl, rfl⟩ := q_86
              refine aw_iconst (v := 1) dX12_guess_84 (by decide) ?_
              refine aw_icmp_le (tgt := 91) dX12_guess_85 (by decide) (fun c_87 => ?_) (fun c_87 => ?_)
              · skip
                refine aw_iinc (v := (nI (j56 + 1))) (ls' := [some (.ref (b + 100)), some (.int (nI zn0)), some (.int (nI zn1)), some (.int (nI (j56 + 1))), none]) dX12_guess_91 rfl (fx_up_1 _) (Nat.le_of_ble_eq_true rfl) rfl ?_
                refine aw_goto (tgt := 56) dX12_guess_94 (by decide) ?_
                refine aw_le ?_ (ih_56_25 (j56 + 1)   (by omega) ((TP.step i56_0 hzr_69 (h_68.trans (by rw [nI_clamp (n := 2 * j56) (by omega)])))))
                exact ⟨rfl, ⟨rfl, ⟨rfl, ⟨rfl, trivial⟩⟩⟩⟩
              · skip
                refine aw_bipush (v := (-3)) dX12_guess_88 (by decide) ?_
                refine aw_ireti dX12_guess_90 rfl (Nat.le_of_ble_eq_true rfl) (Nat.le_of_ble_eq_true rfl) ?_
                exact ⟨Or.inl ⟨(by have zhi_5 := hi_5.resolve_left c_11; have zhi_15 := hi_15.resolve_left c_21; have zzzn0 := fx_nIt (n := zn0) (by omega); have zzzn1 := fx_nIt (n := zn1) (by omega); have zt := fx_nIt (n := tad_1) (by omega); have t2 : (2 * m0).toInt = 2 * m0.toInt := two_n (by rw [hm.1]; exact zhi_5.1) (by rw [hm.1]; exact zhi_5.2); have e0 : (0 : Int32).toInt = 0 := (by decide); have e1 : (1 : Int32).toInt = 1 := (by decide); have e12 : (12 : Int32).toInt = 12 := (by decide); have e15 : (15 : Int32).toInt = 15 := (by decide); have e20 : (20 : Int32).toInt = 20 := (by decide); have e35 : (35 : Int32).toInt = 35 := (by decide); have e100 : (100 : Int32).toInt = 100 := (by decide); have q0 := zhi_5; have q1 := zhi_15; have q2 := hm.1; have q3 := hm.2; have q4 := hta0; simp only [cGu, ← Int32.toInt_inj, Int32.le_iff_toInt_le, Int32.lt_iff_toInt_lt] at q0 q1 q2 q3 q4 ⊢; omega), ((congrArg (fun z => fI z 13) e_23).trans rfl)⟩, rfl, j_23⟩
        refine aw_le ?_ (loop_56_24 zn0 0   (by omega) (fun i h => absurd h (Nat.not_lt_zero i)))
        exact ⟨rfl, ⟨rfl, ⟨rfl, ⟨rfl, trivial⟩⟩⟩⟩
      · skip
        have nc_22 : ¬ ((2 * zn0) ≤ tad_1) := fun z => c_22 ((nI_leI (a := (2 * zn0)) (b := tad_1) (by omega) (by omega)).mpr z)
        refine aw_iconst (v := (-1)) dX12_guess_47 (by decide) ?_
        refine aw_ireti dX12_guess_48 rfl (Nat.le_of_ble_eq_true rfl) (Nat.le_of_ble_eq_true rfl) ?_
        exact ⟨Or.inr ⟨(by have zhi_5 := hi_5.resolve_left c_11; have zhi_15 := hi_15.resolve_left c_21; have zzzn0 := fx_nIt (n := zn0) (by omega); have zzzn1 := fx_nIt (n := zn1) (by omega); have zt := fx_nIt (n := tad_1) (by omega); have t2 : (2 * m0).toInt = 2 * m0.toInt := two_n (by rw [hm.1]; exact zhi_5.1) (by rw [hm.1]; exact zhi_5.2); have e0 : (0 : Int32).toInt = 0 := (by decide); have e1 : (1 : Int32).toInt = 1 := (by decide); have e12 : (12 : Int32).toInt = 12 := (by decide); have e15 : (15 : Int32).toInt = 15 := (by decide); have e20 : (20 : Int32).toInt = 20 := (by decide); have e35 : (35 : Int32).toInt = 35 := (by decide); have e100 : (100 : Int32).toInt = 100 := (by decide); have q0 := zhi_5; have q1 := zhi_15; have q2 := hm.1; have q3 := hm.2; have q4 := hta0; simp only [cGu, ← Int32.toInt_inj, Int32.le_iff_toInt_le, Int32.lt_iff_toInt_lt] at q0 q1 q2 q3 q4 ⊢; omega), (Eq.refl (fI (V 100) 13))⟩, rfl, hJ0⟩
    · skip
      refine aw_iload_n dX12_guess_20 rfl ?_
      refine aw_bipush (v := 20) dX12_guess_21 (by decide) ?_
      refine aw_bipush (v := 35) dX12_guess_23 (by decide) ?_
      refine aw_callSi (J' := jX12_in) (As := [.int n1, .int 20, .int 35]) (st := []) dX12_guess_25 tb_1209 ok_X12_in rfl (r_inK l D b N V hN cl hJ0.1 n1 20 35) rfl (Nat.le_of_ble_eq_true rfl) ⟨Nat.le_of_ble_eq_true rfl, Nat.le_of_ble_eq_true rfl, Nat.le_of_ble_eq_true rfl, Nat.le_of_ble_eq_true rfl⟩ (fun r_93 N_94 V_95 q_96 => ?_)
      obtain ⟨⟨z_90, h_89⟩, rfl, rfl⟩ := q_96
      obtain ⟨hi_91, hi_92⟩ := h_89
      refine aw_if_ne (tgt := 37) dX12_guess_28 (by decide) (fun c_97 => ?_) (fun c_97 => ?_)
      · skip
        obtain ⟨zn1, h0zn1, hzn1, rfl⟩ := in_nat (a := 20) (b := 35) (by decide) (hi_91.resolve_left c_97)
        refine aw_iconst (v := 2) dX12_guess_37 (by decide) ?_
        refine aw_iload_n dX12_guess_38 rfl ?_
        refine aw_imul dX12_guess_39 ?_
        refine aw_eqi (y := nI (2 * zn0)) (pk_mul _ _) ?_
        refine aw_aload_n dX12_guess_40 rfl ?_
        refine aw_get dX12_guess_41 fl_X12_152 e_1 (by omega) rfl ?_
        refine aw_icmp_le (tgt := 49) dX12_guess_44 (by decide) (fun c_98 => ?_) (fun c_98 => ?_)
        · skip
          have nc_98 : (2 * zn0) ≤ tad_1 := (nI_leI (a := (2 * zn0)) (b := tad_1) (by omega) (by omega)).mp c_98
          refine aw_aload_n dX12_guess_49 rfl ?_
          refine aw_iconst (v := 0) dX12_guess_50 (by decide) ?_
          refine aw_put dX12_guess_51 fp_X12_152 e_1 (by omega) rfl rfl (Nat.le_of_ble_eq_true rfl) rfl ?_
          refine aw_upR hJ0 cm_100 ⟨_, _, _, _, _, _, _, _, _, _, _, _, 0, pl0_1, le0_1, nu0_1, coy_1, wag_1, say_1, rfl, by omega, by omega, by omega, by omega, by omega, by omega, by omega⟩ (by decide) (WO (s := 13) (x := .int 0) e_1 rfl LM0 (by decide) (by decide) (by decide) (Or.inl (by decide))) (fun V_99 j_99 k_99 e_99 => ?_)
          obtain ⟨g_100, e_100⟩ := JR.get j_99 cm_110
          refine aw_iconst (v := 0) dX12_guess_54 (by decide) ?_
          refine aw_istore_n (ls' := [some (.ref (b + 100)), some (.int (nI zn0)), some (.int (nI zn1)), some (.int 0), none]) dX12_guess_55 (Nat.le_of_ble_eq_true rfl) rfl ?_
          have loop_56_100 : ∀ (g_56 : Nat), ∀ (j56 : Nat), j56 + g_56 = zn0 → (TP g_100 j56) → AW l D b jX12_guess (fx_rm 4 0 0) none (fx_MQ D b 0 0 (fx_qi (fun r N9 V9 => (TKS (cGu m0 m1 (fI (V 100) 13)) (fI (V 100) 13) (fI (V9 100) 13)) ∧ N = N9 ∧ JR D b N cl [(100, 100, 13, 13), (100, 100, 45, 45), (100, 100, 46, 46)] V V9))) 56 [some (.ref (b + 100)), some (.int (nI zn0)), some (.int (nI zn1)), some (.int (nI j56)), none] [] N V_99 0 0 := by
            intro g_56
            induction g_56 with
            | zero =>
              intro j56  hj56 i56_0
              obtain rfl : zn0 = j56 := by omega
              refine aw_iload_n dX12_guess_56 rfl ?_
              refine aw_iload_n dX12_guess_57 rfl ?_
              refine aw_icmp_ge (tgt := 97) dX12_guess_58 (by decide) (fun c_103 => ?_) (fun c_103 => ?_)
              rotate_left
              · exact absurd (nI_le (a := zn0) (b := zn0) (Nat.le_refl _) (by omega)) c_103
              refine aw_iload_n dX12_guess_97 rfl ?_
              refine aw_bipush (v := 100) dX12_guess_98 (by decide) ?_
              refine aw_icmp_eq (tgt := 146) dX12_guess_100 (by decide) (fun c_104 => ?_) (fun c_104 => ?_)
              · skip
                have nc_104 : zn1 = 100 := (nI_eq (a := zn1) (b := 100) (by omega) (by omega)).mp c_104
                refine aw_iconst (v := 0) dX12_guess_146 (by decide) ?_
                refine aw_istore_n (ls' := [some (.ref (b + 100)), some (.int (nI zn0)), some (.int (nI zn1)), some (.int 0), none]) dX12_guess_147 (Nat.le_of_ble_eq_true rfl) rfl ?_
                refine aw_iconst (v := 0) dX12_guess_148 (by decide) ?_
                refine aw_istore (ls' := [some (.ref (b + 100)), some (.int (nI zn0)), some (.int (nI zn1)), some (.int 0), some (.int 0)]) dX12_guess_149 (Nat.le_of_ble_eq_true rfl) rfl ?_
                have loop_151_104 : ∀ (g_151 : Nat), ∀ (j151 : Nat) (v151_3 : Int32) (V151 : Wd), j151 + g_151 = 16 → (JR D b N cl [(100, 100, 13, 13), (100, 100, 45, 45), (100, 100, 46, 46)] V V151) → (V151 110 = cB D 260 g_100) → (fI (V151 100) 13 = 0) → AW l D b jX12_guess (fx_rm 4 0 0) none (fx_MQ D b 0 0 (fx_qi (fun r N9 V9 => (TKS (cGu m0 m1 (fI (V 100) 13)) (fI (V 100) 13) (fI (V9 100) 13)) ∧ N = N9 ∧ JR D b N cl [(100, 100, 13, 13), (100, 100, 45, 45), (100, 100, 46, 46)] V V9))) 151 [some (.ref (b + 100)), some (.int (nI zn0)), some (.int (nI zn1)), some (.int v151_3), some (.int (nI j151))] [] N V151 0 0 := by
                  intro g_151
                  induction g_151 with
                  | zero =>
                    intro j151 v151_3 V151 hj151 i151_0 i151_1 i151_2
                    obtain rfl : j151 = 16 := by omega
                    refine aw_iload dX12_guess_151 rfl ?_
                    refine aw_bipush (v := 16) dX12_guess_153 (by decide) ?_
                    refine aw_icmp_ge (tgt := 181) dX12_guess_155 (by decide) (fun c_107 => ?_) (fun c_107 => ?_)
                    rotate_left
                    · exact absurd (nI_le (a := 16) (b := 16) (Nat.le_refl _) (by omega)) c_107
                    refine aw_iload_n dX12_guess_181 rfl ?_
                    refine aw_ireti dX12_guess_182 rfl (Nat.le_of_ble_eq_true rfl) (Nat.le_of_ble_eq_true rfl) ?_
                    exact ⟨Or.inl ⟨(by have zhi_16 := hi_16 c_21; have zhi_5 := hi_5.resolve_left c_11; have zhi_91 := hi_91.resolve_left c_97; have zzzn0 := fx_nIt (n := zn0) (by omega); have zzzn1 := fx_nIt (n := zn1) (by omega); have zt := fx_nIt (n := tad_1) (by omega); have t2 : (2 * m0).toInt = 2 * m0.toInt := two_n (by rw [hm.1]; exact zhi_5.1) (by rw [hm.1]; exact zhi_5.2); have e0 : (0 : Int32).toInt = 0 := (by decide); have e1 : (1 : Int32).toInt = 1 := (by decide); have e12 : (12 : Int32).toInt = 12 := (by decide); have e15 : (15 : Int32).toInt = 15 := (by decide); have e20 : (20 : Int32).toInt = 20 := (by decide); have e35 : (35 : Int32).toInt = 35 := (by decide); have e100 : (100 : Int32).toInt = 100 := (by decide); have q0 := zhi_16; have q1 := zhi_5; have q2 := zhi_91; have q3 := c_104; have q4 := hm.1; have q5 := hm.2; have q6 := hta0; simp only [cGu, ← Int32.toInt_inj, Int32.le_iff_toInt_le, Int32.lt_iff_toInt_lt] at q0 q1 q2 q3 q4 q5 q6 ⊢; omega), i151_2⟩, rfl, i151_0⟩
                  | succ g_151 ih_151_105 =>
                    intro j151 v151_3 V151 hj151 i151_0 i151_1 i151_2
                    have hlj151 : j151 < 16 := by omega
                    refine aw_iload dX12_guess_151 rfl ?_
                    refine aw_bipush (v := 16) dX12_guess_153 (by decide) ?_
                    refine aw_icmp_ge (tgt := 181) dX12_guess_155 (by decide) (fun c_108 => ?_) (fun c_108 => ?_)
                    · exact absurd c_108 (nI_ge (a := j151) (b := 16) (by omega) (by omega))
                    refine aw_aload_n dX12_guess_158 rfl ?_
                    refine aw_iload_n dX12_guess_159 rfl ?_
                    refine aw_iload dX12_guess_160 rfl ?_
                    obtain ⟨ftoldPeople_114, ftoldDoors_114, fwasDoors_114, ffault_114, fopen_114, flines_114, fmeantSet_114, fopenedNow_114, fvainNow_114, flowNow_114, fhighNow_114, fisKept_114, tad_114, pl0_114, le0_114, nu0_114, coy_114, wag_114, say_114, e_114, hntad_114, hnpl0_114, hnle0_114, hnnu0_114, hncoy_114, hnwag_114, hnsay_114⟩ := JR.get i151_0 cm_100
                    refine aw_callVi (J' := jX12_bounds) (As := [.int (nI zn0), .int (nI j151)]) (st := []) dX12_guess_162 tb_1560 ok_X12_bounds ⟨_, e_114⟩ (by omega) rfl rfl (r_bounds l D b N V151 hN cl i151_0.1 (nI zn0) ⟨zn0, by omega, rfl⟩ (nI j151) ⟨j151, by omega, rfl⟩ g_100 i151_1 (by rw [nI_clamp (n := zn0) (by omega)]; exact i56_0)) rfl (Nat.le_of_ble_eq_true rfl) ⟨Nat.le_of_ble_eq_true rfl, Nat.le_of_ble_eq_true rfl, Nat.le_of_ble_eq_true rfl, Nat.le_of_ble_eq_true rfl⟩ (fun r_115 N_116 V_113 q_117 => ?_)
                    obtain ⟨⟨z_111, h_110⟩, rfl, q_109⟩ := q_117
                    have j_112 := JR.trans i151_0 (JR.weak q_109 (Sub.cons (LMs LM0) (by decide) (by decide) (by decide) (Or.inr ⟨by decide, by decide⟩) (Sub.cons (LMs (LMs LM0)) (by decide) (by decide) (by decide) (Or.inr ⟨by decide, by decide⟩) Sub.nil)))
                    refine aw_if_eq (tgt := 175) dX12_guess_165 (by decide) (fun c_118 => ?_) (fun c_118 => ?_)
                    · skip
                      refine aw_iinc (v := (nI (j151 + 1))) (ls' := [some (.ref (b + 100)), some (.int (nI zn0)), some (.int (nI zn1)), some (.int v151_3), some (.int (nI (j151 + 1)))]) dX12_guess_175 rfl (fx_up_1 _) (Nat.le_of_ble_eq_true rfl) rfl ?_
                      refine aw_goto (tgt := 151) dX12_guess_178 (by decide) ?_
                      refine aw_le ?_ (ih_151_105 (j151 + 1) v151_3 V_113 (by omega) (j_112) ((h_110.trans i151_1)) (((JR.fI q_109 (by decide) (by decide) (nfc (by omega) (nfc (by omega) nf0))).trans i151_2)))
                      exact ⟨rfl, ⟨rfl, ⟨rfl, ⟨rfl, ⟨rfl, trivial⟩⟩⟩⟩⟩
                    · skip
                      refine aw_iload_n dX12_guess_168 rfl ?_
                      refine aw_iconst (v := 1) dX12_guess_169 (by decide) ?_
                      refine aw_iload dX12_guess_170 rfl ?_
                      refine aw_ishl dX12_guess_172 ?_
                      refine aw_ior dX12_guess_173 ?_
                      refine aw_istore_n (ls' := [some (.ref (b + 100)), some (.int (nI zn0)), some (.int (nI zn1)), some (.int (v151_3 ||| ((1 : Int32) <<< ((nI j151) &&& 31)))), some (.int (nI j151))]) dX12_guess_174 (Nat.le_of_ble_eq_true rfl) rfl ?_
                      refine aw_iinc (v := (nI (j151 + 1))) (ls' := [some (.ref (b + 100)), some (.int (nI zn0)), some (.int (nI zn1)), some (.int (v151_3 ||| ((1 : Int32) <<< ((nI j151) &&& 31)))), some (.int (nI (j151 + 1)))]) dX12_guess_175 rfl (fx_up_1 _) (Nat.le_of_ble_eq_true rfl) rfl ?_
                      refine aw_goto (tgt := 151) dX12_guess_178 (by decide) ?_
                      refine aw_le ?_ (ih_151_105 (j151 + 1) (v151_3 ||| ((1 : Int32) <<< ((nI j151) &&& 31))) V_113 (by omega) (j_112) ((h_110.trans i151_1)) (((JR.fI q_109 (by decide) (by decide) (nfc (by omega) (nfc (by omega) nf0))).trans i151_2)))
                      exact ⟨rfl, ⟨rfl, ⟨rfl, ⟨rfl, ⟨rfl, trivial⟩⟩⟩⟩⟩
                refine aw_le ?_ (loop_151_104 16 0 0 V_99 (by omega) (j_99) (e_100) (((congrArg (fun z => fI z 13) e_99).trans rfl)))
                exact ⟨rfl, ⟨rfl, ⟨rfl, ⟨rfl, ⟨rfl, trivial⟩⟩⟩⟩⟩
              · skip
                have nc_104 : ¬ (zn1 = 100) := fun z => c_104 ((nI_eq (a := zn1) (b := 100) (by omega) (by omega)).mpr z)
                refine aw_aload_n dX12_guess_103 rfl ?_
                refine aw_iload_n dX12_guess_104 rfl ?_
                refine aw_iload_n dX12_guess_105 rfl ?_
                refine aw_bipush (v := 20) dX12_guess_106 (by decide) ?_
                refine aw_icmp_ge (tgt := 115) dX12_guess_108 (by decide) (fun c_119 => ?_) (fun c_119 => ?_)
                · skip
                  have nc_119 : 20 ≤ zn1 := (nI_leI (a := 20) (b := zn1) (by omega) (by omega)).mp c_119
                  refine aw_iload_n dX12_guess_115 rfl ?_
                  refine aw_bipush (v := 20) dX12_guess_116 (by decide) ?_
                  refine aw_isub dX12_guess_118 ?_
                  refine aw_eqi (y := (nI (zn1 - 20))) (pk_sub (a := zn1) (b := 20) (by omega)) ?_
                  refine aw_callVi (J' := jX12_bounds) (As := [.int (nI zn0), .int (nI (zn1 - 20))]) (st := []) dX12_guess_119 tb_1560 ok_X12_bounds ⟨_, e_99⟩ (by omega) rfl rfl (r_bounds l D b N V_99 hN cl j_99.1 (nI zn0) ⟨zn0, by omega, rfl⟩ (nI (zn1 - 20)) ⟨(zn1 - 20), by omega, rfl⟩ g_100 e_100 (by rw [nI_clamp (n := zn0) (by omega)]; exact i56_0)) rfl (Nat.le_of_ble_eq_true rfl) ⟨Nat.le_of_ble_eq_true rfl, Nat.le_of_ble_eq_true rfl, Nat.le_of_ble_eq_true rfl, Nat.le_of_ble_eq_true rfl⟩ (fun r_125 N_126 V_124 q_127 => ?_)
                  obtain ⟨⟨z_122, h_121⟩, rfl, q_120⟩ := q_127
                  have j_123 := JR.trans j_99 (JR.weak q_120 (Sub.cons (LMs LM0) (by decide) (by decide) (by decide) (Or.inr ⟨by decide, by decide⟩) (Sub.cons (LMs (LMs LM0)) (by decide) (by decide) (by decide) (Or.inr ⟨by decide, by decide⟩) Sub.nil)))
                  refine aw_if_ne (tgt := 128) dX12_guess_122 (by decide) (fun c_128 => ?_) (fun c_128 => ?_)
                  · skip
                    refine aw_iload_n dX12_guess_128 rfl ?_
                    refine aw_bipush (v := 20) dX12_guess_129 (by decide) ?_
                    refine aw_icmp_ge (tgt := 141) dX12_guess_131 (by decide) (fun c_129 => ?_) (fun c_129 => ?_)
                    rotate_left
                    · exact absurd c_119 c_129
                    have nc_129 : 20 ≤ zn1 := (nI_leI (a := 20) (b := zn1) (by omega) (by omega)).mp c_129
                    refine aw_aload_n dX12_guess_141 rfl ?_
                    obtain ⟨ftoldPeople_130, ftoldDoors_130, fwasDoors_130, ffault_130, fopen_130, flines_130, fmeantSet_130, fopenedNow_130, fvainNow_130, flowNow_130, fhighNow_130, fisKept_130, tad_130, pl0_130, le0_130, nu0_130, coy_130, wag_130, say_130, e_130, hntad_130, hnpl0_130, hnle0_130, hnnu0_130, hncoy_130, hnwag_130, hnsay_130⟩ := JR.get j_123 cm_100
                    refine aw_get dX12_guess_142 fl_X12_398 e_130 (by omega) rfl ?_
                    refine aw_ireti dX12_guess_145 rfl (Nat.le_of_ble_eq_true rfl) (Nat.le_of_ble_eq_true rfl) ?_
                    exact ⟨Or.inl ⟨(by have zhi_16 := hi_16 c_21; have zhi_5 := hi_5.resolve_left c_11; have zhi_91 := hi_91.resolve_left c_97; have zzzn0 := fx_nIt (n := zn0) (by omega); have zzzn1 := fx_nIt (n := zn1) (by omega); have zt := fx_nIt (n := tad_1) (by omega); have t2 : (2 * m0).toInt = 2 * m0.toInt := two_n (by rw [hm.1]; exact zhi_5.1) (by rw [hm.1]; exact zhi_5.2); have e0 : (0 : Int32).toInt = 0 := (by decide); have e1 : (1 : Int32).toInt = 1 := (by decide); have e12 : (12 : Int32).toInt = 12 := (by decide); have e15 : (15 : Int32).toInt = 15 := (by decide); have e20 : (20 : Int32).toInt = 20 := (by decide); have e35 : (35 : Int32).toInt = 35 := (by decide); have e100 : (100 : Int32).toInt = 100 := (by decide); have q0 := zhi_16; have q1 := zhi_5; have q2 := zhi_91; have q3 := c_104; have q4 := c_119; have q5 := c_129; have q6 := hm.1; have q7 := hm.2; have q8 := hta0; simp only [cGu, ← Int32.toInt_inj, Int32.le_iff_toInt_le, Int32.lt_iff_toInt_lt] at q0 q1 q2 q3 q4 q5 q6 q7 q8 ⊢; omega), ((JR.fI q_120 (by decide) (by decide) (nfc (by omega) (nfc (by omega) nf0))).trans ((congrArg (fun z => fI z 13) e_99).trans rfl))⟩, rfl, j_123⟩
                  · skip
                    refine aw_bipush (v := (-2)) dX12_guess_125 (by decide) ?_
                    refine aw_ireti dX12_guess_127 rfl (Nat.le_of_ble_eq_true rfl) (Nat.le_of_ble_eq_true rfl) ?_
                    exact ⟨Or.inl ⟨(by have zhi_16 := hi_16 c_21; have zhi_5 := hi_5.resolve_left c_11; have zhi_91 := hi_91.resolve_left c_97; have zzzn0 := fx_nIt (n := zn0) (by omega); have zzzn1 := fx_nIt (n := zn1) (by omega); have zt := fx_nIt (n := tad_1) (by omega); have t2 : (2 * m0).toInt = 2 * m0.toInt := two_n (by rw [hm.1]; exact zhi_5.1) (by rw [hm.1]; exact zhi_5.2); have e0 : (0 : Int32).toInt = 0 := (by decide); have e1 : (1 : Int32).toInt = 1 := (by decide); have e12 : (12 : Int32).toInt = 12 := (by decide); have e15 : (15 : Int32).toInt = 15 := (by decide); have e20 : (20 : Int32).toInt = 20 := (by decide); have e35 : (35 : Int32).toInt = 35 := (by decide); have e100 : (100 : Int32).toInt = 100 := (by decide); have q0 := zhi_16; have q1 := zhi_5; have q2 := zhi_91; have q3 := c_104; have q4 := c_119; have q5 := hm.1; have q6 := hm.2; have q7 := hta0; simp only [cGu, ← Int32.toInt_inj, Int32.le_iff_toInt_le, Int32.lt_iff_toInt_lt] at q0 q1 q2 q3 q4 q5 q6 q7 ⊢; omega), ((JR.fI q_120 (by decide) (by decide) (nfc (by omega) (nfc (by omega) nf0))).trans ((congrArg (fun z => fI z 13) e_99).trans rfl))⟩, rfl, j_123⟩
                · skip
                  have nc_119 : ¬ (20 ≤ zn1) := fun z => c_119 ((nI_leI (a := 20) (b := zn1) (by omega) (by omega)).mpr z)
                  refine aw_iload_n dX12_guess_111 rfl ?_
                  refine aw_goto (tgt := 119) dX12_guess_112 (by decide) ?_
                  refine aw_callVi (J' := jX12_bounds) (As := [.int (nI zn0), .int (nI zn1)]) (st := []) dX12_guess_119 tb_1560 ok_X12_bounds ⟨_, e_99⟩ (by omega) rfl rfl (r_bounds l D b N V_99 hN cl j_99.1 (nI zn0) ⟨zn0, by omega, rfl⟩ (nI zn1) ⟨zn1, by omega, rfl⟩ g_100 e_100 (by rw [nI_clamp (n := zn0) (by omega)]; exact i56_0)) rfl (Nat.le_of_ble_eq_true rfl) ⟨Nat.le_of_ble_eq_true rfl, Nat.le_of_ble_eq_true rfl, Nat.le_of_ble_eq_true rfl, Nat.le_of_ble_eq_true rfl⟩ (fun r_136 N_137 V_135 q_138 => ?_)
                  obtain ⟨⟨z_133, h_132⟩, rfl, q_131⟩ := q_138
                  have j_134 := JR.trans j_99 (JR.weak q_131 (Sub.cons (LMs LM0) (by decide) (by decide) (by decide) (Or.inr ⟨by decide, by decide⟩) (Sub.cons (LMs (LMs LM0)) (by decide) (by decide) (by decide) (Or.inr ⟨by decide, by decide⟩) Sub.nil)))
                  refine aw_if_ne (tgt := 128) dX12_guess_122 (by decide) (fun c_139 => ?_) (fun c_139 => ?_)
                  · skip
                    refine aw_iload_n dX12_guess_128 rfl ?_
                    refine aw_bipush (v := 20) dX12_guess_129 (by decide) ?_
                    refine aw_icmp_ge (tgt := 141) dX12_guess_131 (by decide) (fun c_140 => ?_) (fun c_140 => ?_)
                    · first | exact absurd c_140 c_119 | exact absurd c_119 c_140 | exact absurd c_140 (Int32.not_lt.mpr c_119) | exact absurd c_119 (Int32.not_lt.mpr c_140) | exact c_119 (Int32.not_lt.mp c_140) | exact c_119 (Int32.not_le.mp c_140)
                    have nc_140 : ¬ (20 ≤ zn1) := fun z => c_140 ((nI_leI (a := 20) (b := zn1) (by omega) (by omega)).mpr z)
                    refine aw_aload_n dX12_guess_134 rfl ?_
                    obtain ⟨ftoldPeople_141, ftoldDoors_141, fwasDoors_141, ffault_141, fopen_141, flines_141, fmeantSet_141, fopenedNow_141, fvainNow_141, flowNow_141, fhighNow_141, fisKept_141, tad_141, pl0_141, le0_141, nu0_141, coy_141, wag_141, say_141, e_141, hntad_141, hnpl0_141, hnle0_141, hnnu0_141, hncoy_141, hnwag_141, hnsay_141⟩ := JR.get j_134 cm_100
                    refine aw_get dX12_guess_135 fl_X12_395 e_141 (by omega) rfl ?_
                    refine aw_goto (tgt := 145) dX12_guess_138 (by decide) ?_
                    refine aw_ireti dX12_guess_145 rfl (Nat.le_of_ble_eq_true rfl) (Nat.le_of_ble_eq_true rfl) ?_
                    exact ⟨Or.inl ⟨(by have zhi_16 := hi_16 c_21; have zhi_5 := hi_5.resolve_left c_11; have zhi_91 := hi_91.resolve_left c_97; have zzzn0 := fx_nIt (n := zn0) (by omega); have zzzn1 := fx_nIt (n := zn1) (by omega); have zt := fx_nIt (n := tad_1) (by omega); have t2 : (2 * m0).toInt = 2 * m0.toInt := two_n (by rw [hm.1]; exact zhi_5.1) (by rw [hm.1]; exact zhi_5.2); have e0 : (0 : Int32).toInt = 0 := (by decide); have e1 : (1 : Int32).toInt = 1 := (by decide); have e12 : (12 : Int32).toInt = 12 := (by decide); have e15 : (15 : Int32).toInt = 15 := (by decide); have e20 : (20 : Int32).toInt = 20 := (by decide); have e35 : (35 : Int32).toInt = 35 := (by decide); have e100 : (100 : Int32).toInt = 100 := (by decide); have q0 := zhi_16; have q1 := zhi_5; have q2 := zhi_91; have q3 := c_104; have q4 := c_119; have q5 := c_140; have q6 := hm.1; have q7 := hm.2; have q8 := hta0; simp only [cGu, ← Int32.toInt_inj, Int32.le_iff_toInt_le, Int32.lt_iff_toInt_lt] at q0 q1 q2 q3 q4 q5 q6 q7 q8 ⊢; omega), ((JR.fI q_131 (by decide) (by decide) (nfc (by omega) (nfc (by omega) nf0))).trans ((congrArg (fun z => fI z 13) e_99).trans rfl))⟩, rfl, j_134⟩
                  · skip
                    refine aw_bipush (v := (-2)) dX12_guess_125 (by decide) ?_
                    refine aw_ireti dX12_guess_127 rfl (Nat.le_of_ble_eq_true rfl) (Nat.le_of_ble_eq_true rfl) ?_
                    exact ⟨Or.inl ⟨(by have zhi_16 := hi_16 c_21; have zhi_5 := hi_5.resolve_left c_11; have zhi_91 := hi_91.resolve_left c_97; have zzzn0 := fx_nIt (n := zn0) (by omega); have zzzn1 := fx_nIt (n := zn1) (by omega); have zt := fx_nIt (n := tad_1) (by omega); have t2 : (2 * m0).toInt = 2 * m0.toInt := two_n (by rw [hm.1]; exact zhi_5.1) (by rw [hm.1]; exact zhi_5.2); have e0 : (0 : Int32).toInt = 0 := (by decide); have e1 : (1 : Int32).toInt = 1 := (by decide); have e12 : (12 : Int32).toInt = 12 := (by decide); have e15 : (15 : Int32).toInt = 15 := (by decide); have e20 : (20 : Int32).toInt = 20 := (by decide); have e35 : (35 : Int32).toInt = 35 := (by decide); have e100 : (100 : Int32).toInt = 100 := (by decide); have q0 := zhi_16; have q1 := zhi_5; have q2 := zhi_91; have q3 := c_104; have q4 := c_119; have q5 := hm.1; have q6 := hm.2; have q7 := hta0; simp only [cGu, ← Int32.toInt_inj, Int32.le_iff_toInt_le, Int32.lt_iff_toInt_lt] at q0 q1 q2 q3 q4 q5 q6 q7 ⊢; omega), ((JR.fI q_131 (by decide) (by decide) (nfc (by omega) (nfc (by omega) nf0))).trans ((congrArg (fun z => fI z 13) e_99).trans rfl))⟩, rfl, j_134⟩
            | succ g_56 ih_56_101 =>
              intro j56  hj56 i56_0
              have hlj56 : j56 < zn0 := by omega
              refine aw_iload_n dX12_guess_56 rfl ?_
              refine aw_iload_n dX12_guess_57 rfl ?_
              refine aw_icmp_ge (tgt := 97) dX12_guess_58 (by decide) (fun c_142 => ?_) (fun c_142 => ?_)
              · exact absurd c_142 (nI_ge (a := j56) (b := zn0) (by omega) (by omega))
              refine aw_aload_n dX12_guess_61 rfl ?_
              refine aw_aload_n dX12_guess_62 rfl ?_
              refine aw_iconst (v := 2) dX12_guess_63 (by decide) ?_
              refine aw_iload_n dX12_guess_64 rfl ?_
              refine aw_imul dX12_guess_65 ?_
              refine aw_eqi (y := nI (2 * j56)) (pk_mul _ _) ?_
              refine aw_callVi (J' := jX12_octet) (As := [.int (nI (2 * j56))]) (st := [.ref (b + 100)]) dX12_guess_66 tb_1556 ok_X12_octet ⟨_, e_99⟩ (by omega) rfl rfl (r_octetG l D b N V_99 hN cl j_99.1 (nI (2 * j56)) ⟨(2 * j56), by omega, rfl⟩ g_100 e_100) rfl (Nat.le_of_ble_eq_true rfl) ⟨Nat.le_of_ble_eq_true rfl, Nat.le_of_ble_eq_true rfl, Nat.le_of_ble_eq_true rfl, Nat.le_of_ble_eq_true rfl⟩ (fun r_145 N_146 V_147 q_148 => ?_)
              obtain ⟨h_144, rfl, rfl⟩ := q_148
              refine aw_callVi (J' := jX12_isTold) (As := [.int r_145]) (st := []) dX12_guess_69 tb_1351 ok_X12_isTold ⟨_, e_99⟩ (by omega) rfl rfl (r_isTold l D b N V_99 hN cl j_99.1 r_145) rfl (Nat.le_of_ble_eq_true rfl) ⟨Nat.le_of_ble_eq_true rfl, Nat.le_of_ble_eq_true rfl, Nat.le_of_ble_eq_true rfl, Nat.le_of_ble_eq_true rfl⟩ (fun r_152 N_153 V_154 q_155 => ?_)
              obtain ⟨⟨z_151, h_150⟩, rfl, rfl⟩ := q_155
              refine aw_if_eq (tgt := 88) dX12_guess_72 (by decide) (fun c_156 => ?_) (fun c_156 => ?_)
              · skip
                refine aw_bipush (v := (-3)) dX12_guess_88 (by decide) ?_
                refine aw_ireti dX12_guess_90 rfl (Nat.le_of_ble_eq_true rfl) (Nat.le_of_ble_eq_true rfl) ?_
                exact ⟨Or.inl ⟨(by have zhi_16 := hi_16 c_21; have zhi_5 := hi_5.resolve_left c_11; have zhi_91 := hi_91.resolve_left c_97; have zzzn0 := fx_nIt (n := zn0) (by omega); have zzzn1 := fx_nIt (n := zn1) (by omega); have zt := fx_nIt (n := tad_1) (by omega); have t2 : (2 * m0).toInt = 2 * m0.toInt := two_n (by rw [hm.1]; exact zhi_5.1) (by rw [hm.1]; exact zhi_5.2); have e0 : (0 : Int32).toInt = 0 := (by decide); have e1 : (1 : Int32).toInt = 1 := (by decide); have e12 : (12 : Int32).toInt = 12 := (by decide); have e15 : (15 : Int32).toInt = 15 := (by decide); have e20 : (20 : Int32).toInt = 20 := (by decide); have e35 : (35 : Int32).toInt = 35 := (by decide); have e100 : (100 : Int32).toInt = 100 := (by decide); have q0 := zhi_16; have q1 := zhi_5; have q2 := zhi_91; have q3 := hm.1; have q4 := hm.2; have q5 := hta0; simp only [cGu, ← Int32.toInt_inj, Int32.le_iff_toInt_le, Int32.lt_iff_toInt_lt] at q0 q1 q2 q3 q4 q5 ⊢; omega), ((congrArg (fun z => fI z 13) e_99).trans rfl)⟩, rfl, j_99⟩
              · skip
                obtain ⟨zr_145, hzr_145, rfl⟩ := h_150.resolve_left c_156
                refine aw_aload_n dX12_guess_75 rfl ?_
                refine aw_iconst (v := 2) dX12_guess_76 (by decide) ?_
                refine aw_iload_n dX12_guess_77 rfl ?_
                refine aw_imul dX12_guess_78 ?_
                refine aw_eqi (y := nI (2 * j56)) (pk_mul _ _) ?_
                refine aw_iconst (v := 1) dX12_guess_79 (by decide) ?_
                refine aw_iadd dX12_guess_80 ?_
                refine aw_eqi (y := nI ((2 * j56) + 1)) (nI_add _ _) ?_
                refine aw_callVi (J' := jX12_octet) (As := [.int (nI ((2 * j56) + 1))]) (st := []) dX12_guess_81 tb_1556 ok_X12_octet ⟨_, e_99⟩ (by omega) rfl rfl (r_octetG l D b N V_99 hN cl j_99.1 (nI ((2 * j56) + 1)) ⟨((2 * j56) + 1), by omega, rfl⟩ g_100 e_100) rfl (Nat.le_of_ble_eq_true rfl) ⟨Nat.le_of_ble_eq_true rfl, Nat.le_of_ble_eq_true rfl, Nat.le_of_ble_eq_true rfl, Nat.le_of_ble_eq_true rfl⟩ (fun r_159 N_160 V_161 q_162 => ?_)
                obtain ⟨h_158, rfl, rfl⟩ := q_162
                refine aw_iconst (v := 1) dX12_guess_84 (by decide) ?_
                refine aw_icmp_le (tgt := 91) dX12_guess_85 (by decide) (fun c_163 => ?_) (fun c_163 => ?_)
                · skip
                  refine aw_iinc (v := (nI (j56 + 1))) (ls' := [some (.ref (b + 100)), some (.int (nI zn0)), some (.int (nI zn1)), some (.int (nI (j56 + 1))), none]) dX12_guess_91 rfl (fx_up_1 _) (Nat.le_of_ble_eq_true rfl) rfl ?_
                  refine aw_goto (tgt := 56) dX12_guess_94 (by decide) ?_
                  refine aw_le ?_ (ih_56_101 (j56 + 1)   (by omega) ((TP.step i56_0 hzr_145 (h_144.trans (by rw [nI_clamp (n := 2 * j56) (by omega)])))))
                  exact ⟨rfl, ⟨rfl, ⟨rfl, ⟨rfl, trivial⟩⟩⟩⟩
                · skip
                  refine aw_bipush (v := (-3)) dX12_guess_88 (by decide) ?_
                  refine aw_ireti dX12_guess_90 rfl (Nat.le_of_ble_eq_true rfl) (Nat.le_of_ble_eq_true rfl) ?_
                  exact ⟨Or.inl ⟨(by have zhi_16 := hi_16 c_21; have zhi_5 := hi_5.resolve_left c_11; have zhi_91 := hi_91.resolve_left c_97; have zzzn0 := fx_nIt (n := zn0) (by omega); have zzzn1 := fx_nIt (n := zn1) (by omega); have zt := fx_nIt (n := tad_1) (by omega); have t2 : (2 * m0).toInt = 2 * m0.toInt := two_n (by rw [hm.1]; exact zhi_5.1) (by rw [hm.1]; exact zhi_5.2); have e0 : (0 : Int32).toInt = 0 := (by decide); have e1 : (1 : Int32).toInt = 1 := (by decide); have e12 : (12 : Int32).toInt = 12 := (by decide); have e15 : (15 : Int32).toInt = 15 := (by decide); have e20 : (20 : Int32).toInt = 20 := (by decide); have e35 : (35 : Int32).toInt = 35 := (by decide); have e100 : (100 : Int32).toInt = 100 := (by decide); have q0 := zhi_16; have q1 := zhi_5; have q2 := zhi_91; have q3 := hm.1; have q4 := hm.2; have q5 := hta0; simp only [cGu, ← Int32.toInt_inj, Int32.le_iff_toInt_le, Int32.lt_iff_toInt_lt] at q0 q1 q2 q3 q4 q5 ⊢; omega), ((congrArg (fun z => fI z 13) e_99).trans rfl)⟩, rfl, j_99⟩
          refine aw_le ?_ (loop_56_100 zn0 0   (by omega) (fun i h => absurd h (Nat.not_lt_zero i)))
          exact ⟨rfl, ⟨rfl, ⟨rfl, ⟨rfl, trivial⟩⟩⟩⟩
        · skip
          have nc_98 : ¬ ((2 * zn0) ≤ tad_1) := fun z => c_98 ((nI_leI (a := (2 * zn0)) (b := tad_1) (by omega) (by omega)).mpr z)
          refine aw_iconst (v := (-1)) dX12_guess_47 (by decide) ?_
          refine aw_ireti dX12_guess_48 rfl (Nat.le_of_ble_eq_true rfl) (Nat.le_of_ble_eq_true rfl) ?_
          exact ⟨Or.inr ⟨(by have zhi_16 := hi_16 c_21; have zhi_5 := hi_5.resolve_left c_11; have zhi_91 := hi_91.resolve_left c_97; have zzzn0 := fx_nIt (n := zn0) (by omega); have zzzn1 := fx_nIt (n := zn1) (by omega); have zt := fx_nIt (n := tad_1) (by omega); have t2 : (2 * m0).toInt = 2 * m0.toInt := two_n (by rw [hm.1]; exact zhi_5.1) (by rw [hm.1]; exact zhi_5.2); have e0 : (0 : Int32).toInt = 0 := (by decide); have e1 : (1 : Int32).toInt = 1 := (by decide); have e12 : (12 : Int32).toInt = 12 := (by decide); have e15 : (15 : Int32).toInt = 15 := (by decide); have e20 : (20 : Int32).toInt = 20 := (by decide); have e35 : (35 : Int32).toInt = 35 := (by decide); have e100 : (100 : Int32).toInt = 100 := (by decide); have q0 := zhi_16; have q1 := zhi_5; have q2 := zhi_91; have q3 := hm.1; have q4 := hm.2; have q5 := hta0; simp only [cGu, ← Int32.toInt_inj, Int32.le_iff_toInt_le, Int32.lt_iff_toInt_lt] at q0 q1 q2 q3 q4 q5 ⊢; omega), (Eq.refl (fI (V 100) 13))⟩, rfl, hJ0⟩
      · skip
        refine aw_iload_n dX12_guess_31 rfl ?_
        refine aw_bipush (v := 100) dX12_guess_32 (by decide) ?_
        refine aw_icmp_ne (tgt := 47) dX12_guess_34 (by decide) (fun c_164 => ?_) (fun c_164 => ?_)
        · skip
          refine aw_iconst (v := (-1)) dX12_guess_47 (by decide) ?_
          refine aw_ireti dX12_guess_48 rfl (Nat.le_of_ble_eq_true rfl) (Nat.le_of_ble_eq_true rfl) ?_
          exact ⟨Or.inr ⟨(by have zhi_16 := hi_16 c_21; have zhi_92 := hi_92 c_97; have zhi_5 := hi_5.resolve_left c_11; have zzzn0 := fx_nIt (n := zn0) (by omega); have zt := fx_nIt (n := tad_1) (by omega); have t2 : (2 * m0).toInt = 2 * m0.toInt := two_n (by rw [hm.1]; exact zhi_5.1) (by rw [hm.1]; exact zhi_5.2); have e0 : (0 : Int32).toInt = 0 := (by decide); have e1 : (1 : Int32).toInt = 1 := (by decide); have e12 : (12 : Int32).toInt = 12 := (by decide); have e15 : (15 : Int32).toInt = 15 := (by decide); have e20 : (20 : Int32).toInt = 20 := (by decide); have e35 : (35 : Int32).toInt = 35 := (by decide); have e100 : (100 : Int32).toInt = 100 := (by decide); have q0 := zhi_16; have q1 := zhi_92; have q2 := zhi_5; have q3 := c_164; have q4 := hm.1; have q5 := hm.2; have q6 := hta0; simp only [cGu, ← Int32.toInt_inj, Int32.le_iff_toInt_le, Int32.lt_iff_toInt_lt] at q0 q1 q2 q3 q4 q5 q6 ⊢; omega), (Eq.refl (fI (V 100) 13))⟩, rfl, hJ0⟩
        · skip
          refine aw_iconst (v := 2) dX12_guess_37 (by decide) ?_
          refine aw_iload_n dX12_guess_38 rfl ?_
          refine aw_imul dX12_guess_39 ?_
          refine aw_eqi (y := nI (2 * zn0)) (pk_mul _ _) ?_
          refine aw_aload_n dX12_guess_40 rfl ?_
          refine aw_get dX12_guess_41 fl_X12_152 e_1 (by omega) rfl ?_
          refine aw_icmp_le (tgt := 49) dX12_guess_44 (by decide) (fun c_165 => ?_) (fun c_165 => ?_)
          · skip
            have nc_165 : (2 * zn0) ≤ tad_1 := (nI_leI (a := (2 * zn0)) (b := tad_1) (by omega) (by omega)).mp c_165
            refine aw_aload_n dX12_guess_49 rfl ?_
            refine aw_iconst (v := 0) dX12_guess_50 (by decide) ?_
            refine aw_put dX12_guess_51 fp_X12_152 e_1 (by omega) rfl rfl (Nat.le_of_ble_eq_true rfl) rfl ?_
            refine aw_upR hJ0 cm_100 ⟨_, _, _, _, _, _, _, _, _, _, _, _, 0, pl0_1, le0_1, nu0_1, coy_1, wag_1, say_1, rfl, by omega, by omega, by omega, by omega, by omega, by omega, by omega⟩ (by decide) (WO (s := 13) (x := .int 0) e_1 rfl LM0 (by decide) (by decide) (by decide) (Or.inl (by decide))) (fun V_166 j_166 k_166 e_166 => ?_)
            obtain ⟨g_167, e_167⟩ := JR.get j_166 cm_110
            refine aw_iconst (v := 0) dX12_guess_54 (by decide) ?_
            refine aw_istore_n (ls' := [some (.ref (b + 100)), some (.int (nI zn0)), some (.int n1), some (.int 0), none]) dX12_guess_55 (Nat.le_of_ble_eq_true rfl) rfl ?_
            have loop_56_167 : ∀ (g_56 : Nat), ∀ (j56 : Nat), j56 + g_56 = zn0 → (TP g_167 j56) → AW l D b jX12_guess (fx_rm 4 0 0) none (fx_MQ D b 0 0 (fx_qi (fun r N9 V9 => (TKS (cGu m0 m1 (fI (V 100) 13)) (fI (V 100) 13) (fI (V9 100) 13)) ∧ N = N9 ∧ JR D b N cl [(100, 100, 13, 13), (100, 100, 45, 45), (100, 100, 46, 46)] V V9))) 56 [some (.ref (b + 100)), some (.int (nI zn0)), some (.int n1), some (.int (nI j56)), none] [] N V_166 0 0 := by
              intro g_56
              induction g_56 with
              | zero =>
                intro j56  hj56 i56_0
                obtain rfl : zn0 = j56 := by omega
                refine aw_iload_n dX12_guess_56 rfl ?_
                refine aw_iload_n dX12_guess_57 rfl ?_
                refine aw_icmp_ge (tgt := 97) dX12_guess_58 (by decide) (fun c_170 => ?_) (fun c_170 => ?_)
                rotate_left
                · exact absurd (nI_le (a := zn0) (b := zn0) (Nat.le_refl _) (by omega)) c_170
                refine aw_iload_n dX12_guess_97 rfl ?_
                refine aw_bipush (v := 100) dX12_guess_98 (by decide) ?_
                refine aw_icmp_eq (tgt := 146) dX12_guess_100 (by decide) (fun c_171 => ?_) (fun c_171 => ?_)
                rotate_left
                · first | exact absurd c_164 c_171 | exact absurd c_171 c_164
                refine aw_iconst (v := 0) dX12_guess_146 (by decide) ?_
                refine aw_istore_n (ls' := [some (.ref (b + 100)), some (.int (nI zn0)), some (.int n1), some (.int 0), none]) dX12_guess_147 (Nat.le_of_ble_eq_true rfl) rfl ?_
                refine aw_iconst (v := 0) dX12_guess_148 (by decide) ?_
                refine aw_istore (ls' := [some (.ref (b + 100)), some (.int (nI zn0)), some (.int n1), some (.int 0), some (.int 0)]) dX12_guess_149 (Nat.le_of_ble_eq_true rfl) rfl ?_
                have loop_151_171 : ∀ (g_151 : Nat), ∀ (j151 : Nat) (v151_3 : Int32) (V151 : Wd), j151 + g_151 = 16 → (JR D b N cl [(100, 100, 13, 13), (100, 100, 45, 45), (100, 100, 46, 46)] V V151) → (V151 110 = cB D 260 g_167) → (fI (V151 100) 13 = 0) → AW l D b jX12_guess (fx_rm 4 0 0) none (fx_MQ D b 0 0 (fx_qi (fun r N9 V9 => (TKS (cGu m0 m1 (fI (V 100) 13)) (fI (V 100) 13) (fI (V9 100) 13)) ∧ N = N9 ∧ JR D b N cl [(100, 100, 13, 13), (100, 100, 45, 45), (100, 100, 46, 46)] V V9))) 151 [some (.ref (b + 100)), some (.int (nI zn0)), some (.int n1), some (.int v151_3), some (.int (nI j151))] [] N V151 0 0 := by
                  intro g_151
                  induction g_151 with
                  | zero =>
                    intro j151 v151_3 V151 hj151 i151_0 i151_1 i151_2
                    obtain rfl : j151 = 16 := by omega
                    refine aw_iload dX12_guess_151 rfl ?_
                    refine aw_bipush (v := 16) dX12_guess_153 (by decide) ?_
                    refine aw_icmp_ge (tgt := 181) dX12_guess_155 (by decide) (fun c_174 => ?_) (fun c_174 => ?_)
                    rotate_left
                    · exact absurd (nI_le (a := 16) (b := 16) (Nat.le_refl _) (by omega)) c_174
                    refine aw_iload_n dX12_guess_181 rfl ?_
                    refine aw_ireti dX12_guess_182 rfl (Nat.le_of_ble_eq_true rfl) (Nat.le_of_ble_eq_true rfl) ?_
                    exact ⟨Or.inl ⟨(by have zhi_16 := hi_16 c_21; have zhi_92 := hi_92 c_97; have zhi_5 := hi_5.resolve_left c_11; have zzzn0 := fx_nIt (n := zn0) (by omega); have zt := fx_nIt (n := tad_1) (by omega); have t2 : (2 * m0).toInt = 2 * m0.toInt := two_n (by rw [hm.1]; exact zhi_5.1) (by rw [hm.1]; exact zhi_5.2); have e0 : (0 : Int32).toInt = 0 := (by decide); have e1 : (1 : Int32).toInt = 1 := (by decide); have e12 : (12 : Int32).toInt = 12 := (by decide); have e15 : (15 : Int32).toInt = 15 := (by decide); have e20 : (20 : Int32).toInt = 20 := (by decide); have e35 : (35 : Int32).toInt = 35 := (by decide); have e100 : (100 : Int32).toInt = 100 := (by decide); have q0 := zhi_16; have q1 := zhi_92; have q2 := zhi_5; have q3 := c_164; have q4 := c_171; have q5 := hm.1; have q6 := hm.2; have q7 := hta0; simp only [cGu, ← Int32.toInt_inj, Int32.le_iff_toInt_le, Int32.lt_iff_toInt_lt] at q0 q1 q2 q3 q4 q5 q6 q7 ⊢; omega), i151_2⟩, rfl, i151_0⟩
                  | succ g_151 ih_151_172 =>
                    intro j151 v151_3 V151 hj151 i151_0 i151_1 i151_2
                    have hlj151 : j151 < 16 := by omega
                    refine aw_iload dX12_guess_151 rfl ?_
                    refine aw_bipush (v := 16) dX12_guess_153 (by decide) ?_
                    refine aw_icmp_ge (tgt := 181) dX12_guess_155 (by decide) (fun c_175 => ?_) (fun c_175 => ?_)
                    · exact absurd c_175 (nI_ge (a := j151) (b := 16) (by omega) (by omega))
                    refine aw_aload_n dX12_guess_158 rfl ?_
                    refine aw_iload_n dX12_guess_159 rfl ?_
                    refine aw_iload dX12_guess_160 rfl ?_
                    obtain ⟨ftoldPeople_181, ftoldDoors_181, fwasDoors_181, ffault_181, fopen_181, flines_181, fmeantSet_181, fopenedNow_181, fvainNow_181, flowNow_181, fhighNow_181, fisKept_181, tad_181, pl0_181, le0_181, nu0_181, coy_181, wag_181, say_181, e_181, hntad_181, hnpl0_181, hnle0_181, hnnu0_181, hncoy_181, hnwag_181, hnsay_181⟩ := JR.get i151_0 cm_100
                    refine aw_callVi (J' := jX12_bounds) (As := [.int (nI zn0), .int (nI j151)]) (st := []) dX12_guess_162 tb_1560 ok_X12_bounds ⟨_, e_181⟩ (by omega) rfl rfl (r_bounds l D b N V151 hN cl i151_0.1 (nI zn0) ⟨zn0, by omega, rfl⟩ (nI j151) ⟨j151, by omega, rfl⟩ g_167 i151_1 (by rw [nI_clamp (n := zn0) (by omega)]; exact i56_0)) rfl (Nat.le_of_ble_eq_true rfl) ⟨Nat.le_of_ble_eq_true rfl, Nat.le_of_ble_eq_true rfl, Nat.le_of_ble_eq_true rfl, Nat.le_of_ble_eq_true rfl⟩ (fun r_182 N_183 V_180 q_184 => ?_)
                    obtain ⟨⟨z_178, h_177⟩, rfl, q_176⟩ := q_184
                    have j_179 := JR.trans i151_0 (JR.weak q_176 (Sub.cons (LMs LM0) (by decide) (by decide) (by decide) (Or.inr ⟨by decide, by decide⟩) (Sub.cons (LMs (LMs LM0)) (by decide) (by decide) (by decide) (Or.inr ⟨by decide, by decide⟩) Sub.nil)))
                    refine aw_if_eq (tgt := 175) dX12_guess_165 (by decide) (fun c_185 => ?_) (fun c_185 => ?_)
                    · skip
                      refine aw_iinc (v := (nI (j151 + 1))) (ls' := [some (.ref (b + 100)), some (.int (nI zn0)), some (.int n1), some (.int v151_3), some (.int (nI (j151 + 1)))]) dX12_guess_175 rfl (fx_up_1 _) (Nat.le_of_ble_eq_true rfl) rfl ?_
                      refine aw_goto (tgt := 151) dX12_guess_178 (by decide) ?_
                      refine aw_le ?_ (ih_151_172 (j151 + 1) v151_3 V_180 (by omega) (j_179) ((h_177.trans i151_1)) (((JR.fI q_176 (by decide) (by decide) (nfc (by omega) (nfc (by omega) nf0))).trans i151_2)))
                      exact ⟨rfl, ⟨rfl, ⟨rfl, ⟨rfl, ⟨rfl, trivial⟩⟩⟩⟩⟩
                    · skip
                      refine aw_iload_n dX12_guess_168 rfl ?_
                      refine aw_iconst (v := 1) dX12_guess_169 (by decide) ?_
                      refine aw_iload dX12_guess_170 rfl ?_
                      refine aw_ishl dX12_guess_172 ?_
                      refine aw_ior dX12_guess_173 ?_
                      refine aw_istore_n (ls' := [some (.ref (b + 100)), some (.int (nI zn0)), some (.int n1), some (.int (v151_3 ||| ((1 : Int32) <<< ((nI j151) &&& 31)))), some (.int (nI j151))]) dX12_guess_174 (Nat.le_of_ble_eq_true rfl) rfl ?_
                      refine aw_iinc (v := (nI (j151 + 1))) (ls' := [some (.ref (b + 100)), some (.int (nI zn0)), some (.int n1), some (.int (v151_3 ||| ((1 : Int32) <<< ((nI j151) &&& 31)))), some (.int (nI (j151 + 1)))]) dX12_guess_175 rfl (fx_up_1 _) (Nat.le_of_ble_eq_true rfl) rfl ?_
                      refine aw_goto (tgt := 151) dX12_guess_178 (by decide) ?_
                      refine aw_le ?_ (ih_151_172 (j151 + 1) (v151_3 ||| ((1 : Int32) <<< ((nI j151) &&& 31))) V_180 (by omega) (j_179) ((h_177.trans i151_1)) (((JR.fI q_176 (by decide) (by decide) (nfc (by omega) (nfc (by omega) nf0))).trans i151_2)))
                      exact ⟨rfl, ⟨rfl, ⟨rfl, ⟨rfl, ⟨rfl, trivial⟩⟩⟩⟩⟩
                refine aw_le ?_ (loop_151_171 16 0 0 V_166 (by omega) (j_166) (e_167) (((congrArg (fun z => fI z 13) e_166).trans rfl)))
                exact ⟨rfl, ⟨rfl, ⟨rfl, ⟨rfl, ⟨rfl, trivial⟩⟩⟩⟩⟩
              | succ g_56 ih_56_168 =>
                intro j56  hj56 i56_0
                have hlj56 : j56 < zn0 := by omega
                refine aw_iload_n dX12_guess_56 rfl ?_
                refine aw_iload_n dX12_guess_57 rfl ?_
                refine aw_icmp_ge (tgt := 97) dX12_guess_58 (by decide) (fun c_186 => ?_) (fun c_186 => ?_)
                · exact absurd c_186 (nI_ge (a := j56) (b := zn0) (by omega) (by omega))
                refine aw_aload_n dX12_guess_61 rfl ?_
                refine aw_aload_n dX12_guess_62 rfl ?_
                refine aw_iconst (v := 2) dX12_guess_63 (by decide) ?_
                refine aw_iload_n dX12_guess_64 rfl ?_
                refine aw_imul dX12_guess_65 ?_
                refine aw_eqi (y := nI (2 * j56)) (pk_mul _ _) ?_
                refine aw_callVi (J' := jX12_octet) (As := [.int (nI (2 * j56))]) (st := [.ref (b + 100)]) dX12_guess_66 tb_1556 ok_X12_octet ⟨_, e_166⟩ (by omega) rfl rfl (r_octetG l D b N V_166 hN cl j_166.1 (nI (2 * j56)) ⟨(2 * j56), by omega, rfl⟩ g_167 e_167) rfl (Nat.le_of_ble_eq_true rfl) ⟨Nat.le_of_ble_eq_true rfl, Nat.le_of_ble_eq_true rfl, Nat.le_of_ble_eq_true rfl, Nat.le_of_ble_eq_true rfl⟩ (fun r_189 N_190 V_191 q_192 => ?_)
                obtain ⟨h_188, rfl, rfl⟩ := q_192
                refine aw_callVi (J' := jX12_isTold) (As := [.int r_189]) (st := []) dX12_guess_69 tb_1351 ok_X12_isTold ⟨_, e_166⟩ (by omega) rfl rfl (r_isTold l D b N V_166 hN cl j_166.1 r_189) rfl (Nat.le_of_ble_eq_true rfl) ⟨Nat.le_of_ble_eq_true rfl, Nat.le_of_ble_eq_true rfl, Nat.le_of_ble_eq_true rfl, Nat.le_of_ble_eq_true rfl⟩ (fun r_196 N_197 V_198 q_199 => ?_)
                obtain ⟨⟨z_195, h_194⟩, rfl, rfl⟩ := q_199
                refine aw_if_eq (tgt := 88) dX12_guess_72 (by decide) (fun c_200 => ?_) (fun c_200 => ?_)
                · skip
                  refine aw_bipush (v := (-3)) dX12_guess_88 (by decide) ?_
                  refine aw_ireti dX12_guess_90 rfl (Nat.le_of_ble_eq_true rfl) (Nat.le_of_ble_eq_true rfl) ?_
                  exact ⟨Or.inl ⟨(by have zhi_16 := hi_16 c_21; have zhi_92 := hi_92 c_97; have zhi_5 := hi_5.resolve_left c_11; have zzzn0 := fx_nIt (n := zn0) (by omega); have zt := fx_nIt (n := tad_1) (by omega); have t2 : (2 * m0).toInt = 2 * m0.toInt := two_n (by rw [hm.1]; exact zhi_5.1) (by rw [hm.1]; exact zhi_5.2); have e0 : (0 : Int32).toInt = 0 := (by decide); have e1 : (1 : Int32).toInt = 1 := (by decide); have e12 : (12 : Int32).toInt = 12 := (by decide); have e15 : (15 : Int32).toInt = 15 := (by decide); have e20 : (20 : Int32).toInt = 20 := (by decide); have e35 : (35 : Int32).toInt = 35 := (by decide); have e100 : (100 : Int32).toInt = 100 := (by decide); have q0 := zhi_16; have q1 := zhi_92; have q2 := zhi_5; have q3 := c_164; have q4 := hm.1; have q5 := hm.2; have q6 := hta0; simp only [cGu, ← Int32.toInt_inj, Int32.le_iff_toInt_le, Int32.lt_iff_toInt_lt] at q0 q1 q2 q3 q4 q5 q6 ⊢; omega), ((congrArg (fun z => fI z 13) e_166).trans rfl)⟩, rfl, j_166⟩
                · skip
                  obtain ⟨zr_189, hzr_189, rfl⟩ := h_194.resolve_left c_200
                  refine aw_aload_n dX12_guess_75 rfl ?_
                  refine aw_iconst (v := 2) dX12_guess_76 (by decide) ?_
                  refine aw_iload_n dX12_guess_77 rfl ?_
                  refine aw_imul dX12_guess_78 ?_
                  refine aw_eqi (y := nI (2 * j56)) (pk_mul _ _) ?_
                  refine aw_iconst (v := 1) dX12_guess_79 (by decide) ?_
                  refine aw_iadd dX12_guess_80 ?_
                  refine aw_eqi (y := nI ((2 * j56) + 1)) (nI_add _ _) ?_
                  refine aw_callVi (J' := jX12_octet) (As := [.int (nI ((2 * j56) + 1))]) (st := []) dX12_guess_81 tb_1556 ok_X12_octet ⟨_, e_166⟩ (by omega) rfl rfl (r_octetG l D b N V_166 hN cl j_166.1 (nI ((2 * j56) + 1)) ⟨((2 * j56) + 1), by omega, rfl⟩ g_167 e_167) rfl (Nat.le_of_ble_eq_true rfl) ⟨Nat.le_of_ble_eq_true rfl, Nat.le_of_ble_eq_true rfl, Nat.le_of_ble_eq_true rfl, Nat.le_of_ble_eq_true rfl⟩ (fun r_203 N_204 V_205 q_206 => ?_)
                  obtain ⟨h_202, rfl, rfl⟩ := q_206
                  refine aw_iconst (v := 1) dX12_guess_84 (by decide) ?_
                  refine aw_icmp_le (tgt := 91) dX12_guess_85 (by decide) (fun c_207 => ?_) (fun c_207 => ?_)
                  · skip
                    refine aw_iinc (v := (nI (j56 + 1))) (ls' := [some (.ref (b + 100)), some (.int (nI zn0)), some (.int n1), some (.int (nI (j56 + 1))), none]) dX12_guess_91 rfl (fx_up_1 _) (Nat.le_of_ble_eq_true rfl) rfl ?_
                    refine aw_goto (tgt := 56) dX12_guess_94 (by decide) ?_
                    refine aw_le ?_ (ih_56_168 (j56 + 1)   (by omega) ((TP.step i56_0 hzr_189 (h_188.trans (by rw [nI_clamp (n := 2 * j56) (by omega)])))))
                    exact ⟨rfl, ⟨rfl, ⟨rfl, ⟨rfl, trivial⟩⟩⟩⟩
                  · skip
                    refine aw_bipush (v := (-3)) dX12_guess_88 (by decide) ?_
                    refine aw_ireti dX12_guess_90 rfl (Nat.le_of_ble_eq_true rfl) (Nat.le_of_ble_eq_true rfl) ?_
                    exact ⟨Or.inl ⟨(by have zhi_16 := hi_16 c_21; have zhi_92 := hi_92 c_97; have zhi_5 := hi_5.resolve_left c_11; have zzzn0 := fx_nIt (n := zn0) (by omega); have zt := fx_nIt (n := tad_1) (by omega); have t2 : (2 * m0).toInt = 2 * m0.toInt := two_n (by rw [hm.1]; exact zhi_5.1) (by rw [hm.1]; exact zhi_5.2); have e0 : (0 : Int32).toInt = 0 := (by decide); have e1 : (1 : Int32).toInt = 1 := (by decide); have e12 : (12 : Int32).toInt = 12 := (by decide); have e15 : (15 : Int32).toInt = 15 := (by decide); have e20 : (20 : Int32).toInt = 20 := (by decide); have e35 : (35 : Int32).toInt = 35 := (by decide); have e100 : (100 : Int32).toInt = 100 := (by decide); have q0 := zhi_16; have q1 := zhi_92; have q2 := zhi_5; have q3 := c_164; have q4 := hm.1; have q5 := hm.2; have q6 := hta0; simp only [cGu, ← Int32.toInt_inj, Int32.le_iff_toInt_le, Int32.lt_iff_toInt_lt] at q0 q1 q2 q3 q4 q5 q6 ⊢; omega), ((congrArg (fun z => fI z 13) e_166).trans rfl)⟩, rfl, j_166⟩
            refine aw_le ?_ (loop_56_167 zn0 0   (by omega) (fun i h => absurd h (Nat.not_lt_zero i)))
            exact ⟨rfl, ⟨rfl, ⟨rfl, ⟨rfl, trivial⟩⟩⟩⟩
          · skip
            have nc_165 : ¬ ((2 * zn0) ≤ tad_1) := fun z => c_165 ((nI_leI (a := (2 * zn0)) (b := tad_1) (by omega) (by omega)).mpr z)
            refine aw_iconst (v := (-1)) dX12_guess_47 (by decide) ?_
            refine aw_ireti dX12_guess_48 rfl (Nat.le_of_ble_eq_true rfl) (Nat.le_of_ble_eq_true rfl) ?_
            exact ⟨Or.inr ⟨(by have zhi_16 := hi_16 c_21; have zhi_92 := hi_92 c_97; have zhi_5 := hi_5.resolve_left c_11; have zzzn0 := fx_nIt (n := zn0) (by omega); have zt := fx_nIt (n := tad_1) (by omega); have t2 : (2 * m0).toInt = 2 * m0.toInt := two_n (by rw [hm.1]; exact zhi_5.1) (by rw [hm.1]; exact zhi_5.2); have e0 : (0 : Int32).toInt = 0 := (by decide); have e1 : (1 : Int32).toInt = 1 := (by decide); have e12 : (12 : Int32).toInt = 12 := (by decide); have e15 : (15 : Int32).toInt = 15 := (by decide); have e20 : (20 : Int32).toInt = 20 := (by decide); have e35 : (35 : Int32).toInt = 35 := (by decide); have e100 : (100 : Int32).toInt = 100 := (by decide); have q0 := zhi_16; have q1 := zhi_92; have q2 := zhi_5; have q3 := c_164; have q4 := hm.1; have q5 := hm.2; have q6 := hta0; simp only [cGu, ← Int32.toInt_inj, Int32.le_iff_toInt_le, Int32.lt_iff_toInt_lt] at q0 q1 q2 q3 q4 q5 q6 ⊢; omega), (Eq.refl (fI (V 100) 13))⟩, rfl, hJ0⟩

set_option maxHeartbeats 4000000 in
set_option maxRecDepth 100000 in
theorem r_nightsK (l : Launch) (D : va_G) (b : Nat) (N : Nat) (V : Wd) (hN : 133 ≤ N) (cl : Nat) (hW : CR D b cl V) (n0 : Int32) (hwf : WF D cl V) (m0 : Int32) (hm : m0 = n0) : MI l D b 8 jX12_nights [.ref (b + 100), .int n0] N V 0 0 (fun r N9 V9 => (NTS m0 (fI (V 101) 208) (fI (V9 101) 208)) ∧ N = N9 ∧ JR D b N cl [(122, 125, 0, 1000000), (100, 100, 38, 38), (100, 100, 39, 39), (101, 101, 0, 191), (101, 101, 208, 208), (101, 101, 209, 209), (101, 101, 192, 207)] V V9) := by
  have hJ0 : JR D b N cl [(122, 125, 0, 1000000), (100, 100, 38, 38), (100, 100, 39, 39), (101, 101, 0, 191), (101, 101, 208, 208), (101, 101, 209, 209), (101, 101, 192, 207)] V V := JR.rf hW
  refine mw_of (by decide) (by simp [Value.category]) (Nat.le_of_ble_eq_true rfl) ?_
  show AW l D b jX12_nights (fx_rm 8 0 0) none (fx_MQ D b 0 0 (fx_qi (fun r N9 V9 => (NTS m0 (fI (V 101) 208) (fI (V9 101) 208)) ∧ N = N9 ∧ JR D b N cl [(122, 125, 0, 1000000), (100, 100, 38, 38), (100, 100, 39, 39), (101, 101, 0, 191), (101, 101, 208, 208), (101, 101, 209, 209), (101, 101, 192, 207)] V V9))) 0 [some (.ref (b + 100)), some (.int n0)] [] N V 0 0
  refine aw_iload_n dX12_nights_0 rfl ?_
  refine aw_iconst (v := 1) dX12_nights_1 (by decide) ?_
  refine aw_bipush (v := 100) dX12_nights_2 (by decide) ?_
  refine aw_callSi (J' := jX12_in) (As := [.int n0, .int 1, .int 100]) (st := []) dX12_nights_4 tb_1209 ok_X12_in rfl (r_inK l D b N V hN cl hJ0.1 n0 1 100) rfl (Nat.le_of_ble_eq_true rfl) ⟨Nat.le_of_ble_eq_true rfl, Nat.le_of_ble_eq_true rfl, Nat.le_of_ble_eq_true rfl, Nat.le_of_ble_eq_true rfl⟩ (fun r_6 N_7 V_8 q_9 => ?_)
  obtain ⟨⟨z_3, h_2⟩, rfl, rfl⟩ := q_9
  obtain ⟨hi_4, hi_5⟩ := h_2
  refine aw_if_ne (tgt := 12) dX12_nights_7 (by decide) (fun c_10 => ?_) (fun c_10 => ?_)
  · skip
    obtain ⟨zn0, h0zn0, hzn0, rfl⟩ := in_nat (a := 1) (b := 100) (by decide) (hi_4.resolve_left c_10)
    refine aw_aload_n dX12_nights_12 rfl ?_
    refine aw_iload_n dX12_nights_13 rfl ?_
    obtain ⟨ftoldPeople_15, ftoldDoors_15, fwasDoors_15, ffault_15, fopen_15, flines_15, fmeantSet_15, fopenedNow_15, fvainNow_15, flowNow_15, fhighNow_15, fisKept_15, tad_15, pl0_15, le0_15, nu0_15, coy_15, wag_15, say_15, e_15, hntad_15, hnpl0_15, hnle0_15, hnnu0_15, hncoy_15, hnwag_15, hnsay_15⟩ := JR.get hJ0 cm_100
    refine aw_callVv (J' := jX12_nightsGo) (As := [.int (nI zn0)]) (st := []) dX12_nights_14 tb_1371 ok_X12_nightsGo ⟨_, e_15⟩ (by omega) rfl rfl (r_nightsGoK l D b N V hN cl hJ0.1 (nI zn0) (WF.fr hwf hJ0.2.2.1)) rfl (Nat.le_of_ble_eq_true rfl) ⟨Nat.le_of_ble_eq_true rfl, Nat.le_of_ble_eq_true rfl, Nat.le_of_ble_eq_true rfl, Nat.le_of_ble_eq_true rfl⟩ (fun  N_16 V_14 q_17 => ?_)
    obtain ⟨h_12, rfl, q_11⟩ := q_17
    have j_13 := JR.trans hJ0 (JR.weak q_11 (Sub.cons LM0 (by decide) (by decide) (by decide) (Or.inl rfl) (Sub.cons (LMs LM0) (by decide) (by decide) (by decide) (Or.inr ⟨by decide, by decide⟩) (Sub.cons (LMs (LMs LM0)) (by decide) (by decide) (by decide) (Or.inr ⟨by decide, by decide⟩) (Sub.cons (LMs (LMs (LMs LM0))) (by decide) (by decide) (by decide) (Or.inr ⟨by decide, by decide⟩) (Sub.cons (LMs (LMs (LMs (LMs LM0)))) (by decide) (by decide) (by decide) (Or.inr ⟨by decide, by decide⟩) (Sub.cons (LMs (LMs (LMs (LMs (LMs LM0))))) (by decide) (by decide) (by decide) (Or.inr ⟨by decide, by decide⟩) (Sub.cons (LMs (LMs (LMs (LMs (LMs (LMs LM0)))))) (by decide) (by decide) (by decide) (Or.inr ⟨by decide, by decide⟩) Sub.nil))))))))
    refine aw_aload_n dX12_nights_17 rfl ?_
    obtain ⟨ftoldPeople_18, ftoldDoors_18, fwasDoors_18, ffault_18, fopen_18, flines_18, fmeantSet_18, fopenedNow_18, fvainNow_18, flowNow_18, fhighNow_18, fisKept_18, tad_18, pl0_18, le0_18, nu0_18, coy_18, wag_18, say_18, e_18, hntad_18, hnpl0_18, hnle0_18, hnnu0_18, hncoy_18, hnwag_18, hnsay_18⟩ := JR.get j_13 cm_100
    refine aw_get dX12_nights_18 fl_X12_321 e_18 (by omega) rfl ?_
    refine aw_ireti dX12_nights_21 rfl (Nat.le_of_ble_eq_true rfl) (Nat.le_of_ble_eq_true rfl) ?_
    exact ⟨Or.inl ⟨(by have zhi_4 := hi_4.resolve_left c_10; have zzzn0 := fx_nIt (n := zn0) (by omega); have e1 : (1 : Int32).toInt = 1 := (by decide); have e100 : (100 : Int32).toInt = 100 := (by decide); have q0 := zhi_4; have q1 := hm; simp only [← Int32.toInt_inj, Int32.le_iff_toInt_le, Int32.lt_iff_toInt_lt] at q0 q1 ⊢; omega), (by have zhi_4 := hi_4.resolve_left c_10; have zzzn0 := fx_nIt (n := zn0) (by omega); have e1 : (1 : Int32).toInt = 1 := (by decide); have e100 : (100 : Int32).toInt = 100 := (by decide); have q0 := zhi_4; have q1 := hm; simp only [← Int32.toInt_inj, Int32.le_iff_toInt_le, Int32.lt_iff_toInt_lt] at q0 q1 ⊢; omega), (h_12.trans (congrArg (ntF (Int32.toNatClampNeg (nI zn0))) (Eq.refl (fI (V 101) 208)))).trans (by rw [hm])⟩, rfl, j_13⟩
  · skip
    refine aw_iconst (v := (-1)) dX12_nights_10 (by decide) ?_
    refine aw_ireti dX12_nights_11 rfl (Nat.le_of_ble_eq_true rfl) (Nat.le_of_ble_eq_true rfl) ?_
    exact ⟨Or.inr ⟨(by have zhi_5 := hi_5 c_10; have e1 : (1 : Int32).toInt = 1 := (by decide); have e100 : (100 : Int32).toInt = 100 := (by decide); have q0 := zhi_5; have q1 := hm; simp only [← Int32.toInt_inj, Int32.le_iff_toInt_le, Int32.lt_iff_toInt_lt] at q0 q1 ⊢; omega), (Eq.refl (fI (V 101) 208))⟩, rfl, hJ0⟩

set_option maxHeartbeats 4000000 in
set_option maxRecDepth 100000 in
theorem r_triedK (l : Launch) (D : va_G) (b : Nat) (N : Nat) (V : Wd) (hN : 133 ≤ N) (cl : Nat) (hW : CR D b cl V) (n0 : Int32) (n1 : Int32) (hwf : WF D cl V) : MI l D b 8 jX12_tried [.ref (b + 100), .int n0, .int n1] N V 0 0 (fun r N9 V9 => (fI (V9 101) 208 = fI (V 101) 208) ∧ N = N9 ∧ JR D b N cl [(101, 102, 0, 1000000), (122, 125, 0, 1000000), (100, 100, 38, 38), (100, 100, 39, 39)] V V9) := by
  have hJ0 : JR D b N cl [(101, 102, 0, 1000000), (122, 125, 0, 1000000), (100, 100, 38, 38), (100, 100, 39, 39)] V V := JR.rf hW
  refine mw_of (by decide) (by simp [Value.category]) (Nat.le_of_ble_eq_true rfl) ?_
  show AW l D b jX12_tried (fx_rm 8 0 0) none (fx_MQ D b 0 0 (fx_qi (fun r N9 V9 => (fI (V9 101) 208 = fI (V 101) 208) ∧ N = N9 ∧ JR D b N cl [(101, 102, 0, 1000000), (122, 125, 0, 1000000), (100, 100, 38, 38), (100, 100, 39, 39)] V V9))) 0 [some (.ref (b + 100)), some (.int n0), some (.int n1), none] [] N V 0 0
  refine aw_iload_n dX12_tried_0 rfl ?_
  refine aw_iconst (v := 1) dX12_tried_1 (by decide) ?_
  refine aw_bipush (v := 100) dX12_tried_2 (by decide) ?_
  refine aw_callSi (J' := jX12_in) (As := [.int n0, .int 1, .int 100]) (st := []) dX12_tried_4 tb_1209 ok_X12_in rfl (r_inK l D b N V hN cl hJ0.1 n0 1 100) rfl (Nat.le_of_ble_eq_true rfl) ⟨Nat.le_of_ble_eq_true rfl, Nat.le_of_ble_eq_true rfl, Nat.le_of_ble_eq_true rfl, Nat.le_of_ble_eq_true rfl⟩ (fun r_6 N_7 V_8 q_9 => ?_)
  obtain ⟨⟨z_3, h_2⟩, rfl, rfl⟩ := q_9
  obtain ⟨hi_4, hi_5⟩ := h_2
  refine aw_if_eq (tgt := 52) dX12_tried_7 (by decide) (fun c_10 => ?_) (fun c_10 => ?_)
  · skip
    refine aw_iconst (v := (-1)) dX12_tried_52 (by decide) ?_
    refine aw_ireti dX12_tried_53 rfl (Nat.le_of_ble_eq_true rfl) (Nat.le_of_ble_eq_true rfl) ?_
    exact ⟨(Eq.refl (fI (V 101) 208)), rfl, hJ0⟩
  · skip
    obtain ⟨zn0, h0zn0, hzn0, rfl⟩ := in_nat (a := 1) (b := 100) (by decide) (hi_4.resolve_left c_10)
    refine aw_iload_n dX12_tried_10 rfl ?_
    refine aw_iconst (v := 0) dX12_tried_11 (by decide) ?_
    refine aw_iconst (v := 1) dX12_tried_12 (by decide) ?_
    refine aw_callSi (J' := jX12_in) (As := [.int n1, .int 0, .int 1]) (st := []) dX12_tried_13 tb_1209 ok_X12_in rfl (r_inK l D b N V hN cl hJ0.1 n1 0 1) rfl (Nat.le_of_ble_eq_true rfl) ⟨Nat.le_of_ble_eq_true rfl, Nat.le_of_ble_eq_true rfl, Nat.le_of_ble_eq_true rfl, Nat.le_of_ble_eq_true rfl⟩ (fun r_16 N_17 V_18 q_19 => ?_)
    obtain ⟨⟨z_13, h_12⟩, rfl, rfl⟩ := q_19
    obtain ⟨hi_14, hi_15⟩ := h_12
    refine aw_if_ne (tgt := 54) dX12_tried_16 (by decide) (fun c_20 => ?_) (fun c_20 => ?_)
    · skip
      obtain ⟨zn1, h0zn1, hzn1, rfl⟩ := in_nat (a := 0) (b := 1) (by decide) (hi_14.resolve_left c_20)
      refine aw_aload_n dX12_tried_54 rfl ?_
      obtain ⟨ftoldPeople_21, ftoldDoors_21, fwasDoors_21, ffault_21, fopen_21, flines_21, fmeantSet_21, fopenedNow_21, fvainNow_21, flowNow_21, fhighNow_21, fisKept_21, tad_21, pl0_21, le0_21, nu0_21, coy_21, wag_21, say_21, e_21, hntad_21, hnpl0_21, hnle0_21, hnnu0_21, hncoy_21, hnwag_21, hnsay_21⟩ := JR.get hJ0 cm_100
      refine aw_get dX12_tried_55 fl_X12_7 e_21 (by omega) rfl ?_
      refine aw_aload_n dX12_tried_58 rfl ?_
      refine aw_get dX12_tried_59 fl_X12_13 e_21 (by omega) rfl ?_
      refine aw_callSv (J' := jX12_copies) (As := [.ref (b + 101), .ref (b + 102)]) (st := []) dX12_tried_62 tb_1299 ok_X12_copies rfl (r_copiesK l D b N V hN cl hJ0.1 101 1 cm_101 102 2 cm_102 (by decide) (by decide)) rfl (Nat.le_of_ble_eq_true rfl) ⟨Nat.le_of_ble_eq_true rfl, Nat.le_of_ble_eq_true rfl, Nat.le_of_ble_eq_true rfl, Nat.le_of_ble_eq_true rfl⟩ (fun  N_26 V_25 q_27 => ?_)
      obtain ⟨h_23, rfl, q_22⟩ := q_27
      have j_24 := JR.trans hJ0 (JR.weak q_22 (Sub.cons LM0 (by decide) (by decide) (by decide) (Or.inl rfl) Sub.nil))
      refine aw_aload_n dX12_tried_65 rfl ?_
      refine aw_iload_n dX12_tried_66 rfl ?_
      obtain ⟨ftoldPeople_32, ftoldDoors_32, fwasDoors_32, ffault_32, fopen_32, flines_32, fmeantSet_32, fopenedNow_32, fvainNow_32, flowNow_32, fhighNow_32, fisKept_32, tad_32, pl0_32, le0_32, nu0_32, coy_32, wag_32, say_32, e_32, hntad_32, hnpl0_32, hnle0_32, hnnu0_32, hncoy_32, hnwag_32, hnsay_32⟩ := JR.get j_24 cm_100
      refine aw_callVv (J' := jX12_nightsGo) (As := [.int (nI zn0)]) (st := []) dX12_tried_67 tb_1371 ok_X12_nightsGo ⟨_, e_32⟩ (by omega) rfl rfl (r_nightsGoK l D b N V_25 hN cl j_24.1 (nI zn0) (WF.fr hwf j_24.2.2.1)) rfl (Nat.le_of_ble_eq_true rfl) ⟨Nat.le_of_ble_eq_true rfl, Nat.le_of_ble_eq_true rfl, Nat.le_of_ble_eq_true rfl, Nat.le_of_ble_eq_true rfl⟩ (fun  N_33 V_31 q_34 => ?_)
      obtain ⟨h_29, rfl, q_28⟩ := q_34
      have j_30 := JR.trans j_24 (JR.weak q_28 (Sub.cons (LMs LM0) (by decide) (by decide) (by decide) (Or.inl rfl) (Sub.cons (LMs (LMs LM0)) (by decide) (by decide) (by decide) (Or.inr ⟨by decide, by decide⟩) (Sub.cons (LMs (LMs (LMs LM0))) (by decide) (by decide) (by decide) (Or.inr ⟨by decide, by decide⟩) (Sub.cons LM0 (by decide) (by decide) (by decide) (Or.inl rfl) (Sub.cons LM0 (by decide) (by decide) (by decide) (Or.inl rfl) (Sub.cons LM0 (by decide) (by decide) (by decide) (Or.inl rfl) (Sub.cons LM0 (by decide) (by decide) (by decide) (Or.inl rfl) Sub.nil))))))))
      refine aw_iload_n dX12_tried_70 rfl ?_
      by_cases sw_35 : (nI zn1) = 0
      · skip
        refine aw_eqi sw_35 ?_
        refine aw_lookup (off := 25) (tgt := 96) dX12_tried_71 (by decide) (by decide) (by decide) ?_
        refine aw_aload_n dX12_tried_96 rfl ?_
        obtain ⟨ftoldPeople_36, ftoldDoors_36, fwasDoors_36, ffault_36, fopen_36, flines_36, fmeantSet_36, fopenedNow_36, fvainNow_36, flowNow_36, fhighNow_36, fisKept_36, tad_36, pl0_36, le0_36, nu0_36, coy_36, wag_36, say_36, e_36, hntad_36, hnpl0_36, hnle0_36, hnnu0_36, hncoy_36, hnwag_36, hnsay_36⟩ := JR.get j_30 cm_100
        refine aw_get dX12_tried_97 fl_X12_321 e_36 (by omega) rfl ?_
        refine aw_istore_n (ls' := [some (.ref (b + 100)), some (.int (nI zn0)), some (.int (nI zn1)), some (.int fopenedNow_36)]) dX12_tried_100 (Nat.le_of_ble_eq_true rfl) rfl ?_
        refine aw_goto (tgt := 163) dX12_tried_101 (by decide) ?_
        refine aw_aload_n dX12_tried_163 rfl ?_
        refine aw_get dX12_tried_164 fl_X12_13 e_36 (by omega) rfl ?_
        refine aw_aload_n dX12_tried_167 rfl ?_
        refine aw_get dX12_tried_168 fl_X12_7 e_36 (by omega) rfl ?_
        refine aw_callSv (J' := jX12_copies) (As := [.ref (b + 102), .ref (b + 101)]) (st := []) dX12_tried_171 tb_1299 ok_X12_copies rfl (r_copiesK l D b N V_31 hN cl j_30.1 102 2 cm_102 101 1 cm_101 (by decide) (by decide)) rfl (Nat.le_of_ble_eq_true rfl) ⟨Nat.le_of_ble_eq_true rfl, Nat.le_of_ble_eq_true rfl, Nat.le_of_ble_eq_true rfl, Nat.le_of_ble_eq_true rfl⟩ (fun  N_41 V_40 q_42 => ?_)
        obtain ⟨h_38, rfl, q_37⟩ := q_42
        have j_39 := JR.trans j_30 (JR.weak q_37 (Sub.cons LM0 (by decide) (by decide) (by decide) (Or.inl rfl) Sub.nil))
        refine aw_iload_n dX12_tried_174 rfl ?_
        refine aw_ireti dX12_tried_175 rfl (Nat.le_of_ble_eq_true rfl) (Nat.le_of_ble_eq_true rfl) ?_
        exact ⟨((h_38 208 (by decide)).trans ((JR.fI q_28 (by decide) (by decide) (nfc (by omega) (nfc (by omega) (nfc (by omega) (nfc (by omega) (nfc (by omega) (nfc (by omega) (nfc (by omega) nf0)))))))).trans ((h_23 208 (by decide)).trans (Eq.refl (fI (V 101) 208))))), rfl, j_39⟩
      have nsw_35 : ¬ zn1 = 0 := fun e => sw_35 (congrArg nI e)
      by_cases sw_43 : (nI zn1) = 1
      · skip
        refine aw_eqi sw_43 ?_
        refine aw_lookup (off := 33) (tgt := 104) dX12_tried_71 (by decide) (by decide) (by decide) ?_
        refine aw_aload_n dX12_tried_104 rfl ?_
        obtain ⟨ftoldPeople_44, ftoldDoors_44, fwasDoors_44, ffault_44, fopen_44, flines_44, fmeantSet_44, fopenedNow_44, fvainNow_44, flowNow_44, fhighNow_44, fisKept_44, tad_44, pl0_44, le0_44, nu0_44, coy_44, wag_44, say_44, e_44, hntad_44, hnpl0_44, hnle0_44, hnnu0_44, hncoy_44, hnwag_44, hnsay_44⟩ := JR.get j_30 cm_100
        refine aw_get dX12_tried_105 fl_X12_324 e_44 (by omega) rfl ?_
        refine aw_istore_n (ls' := [some (.ref (b + 100)), some (.int (nI zn0)), some (.int (nI zn1)), some (.int fvainNow_44)]) dX12_tried_108 (Nat.le_of_ble_eq_true rfl) rfl ?_
        refine aw_goto (tgt := 163) dX12_tried_109 (by decide) ?_
        refine aw_aload_n dX12_tried_163 rfl ?_
        refine aw_get dX12_tried_164 fl_X12_13 e_44 (by omega) rfl ?_
        refine aw_aload_n dX12_tried_167 rfl ?_
        refine aw_get dX12_tried_168 fl_X12_7 e_44 (by omega) rfl ?_
        refine aw_callSv (J' := jX12_copies) (As := [.ref (b + 102), .ref (b + 101)]) (st := []) dX12_tried_171 tb_1299 ok_X12_copies rfl (r_copiesK l D b N V_31 hN cl j_30.1 102 2 cm_102 101 1 cm_101 (by decide) (by decide)) rfl (Nat.le_of_ble_eq_true rfl) ⟨Nat.le_of_ble_eq_true rfl, Nat.le_of_ble_eq_true rfl, Nat.le_of_ble_eq_true rfl, Nat.le_of_ble_eq_true rfl⟩ (fun  N_49 V_48 q_50 => ?_)
        obtain ⟨h_46, rfl, q_45⟩ := q_50
        have j_47 := JR.trans j_30 (JR.weak q_45 (Sub.cons LM0 (by decide) (by decide) (by decide) (Or.inl rfl) Sub.nil))
        refine aw_iload_n dX12_tried_174 rfl ?_
        refine aw_ireti dX12_tried_175 rfl (Nat.le_of_ble_eq_true rfl) (Nat.le_of_ble_eq_true rfl) ?_
        exact ⟨((h_46 208 (by decide)).trans ((JR.fI q_28 (by decide) (by decide) (nfc (by omega) (nfc (by omega) (nfc (by omega) (nfc (by omega) (nfc (by omega) (nfc (by omega) (nfc (by omega) nf0)))))))).trans ((h_23 208 (by decide)).trans (Eq.refl (fI (V 101) 208))))), rfl, j_47⟩
      have nsw_43 : ¬ zn1 = 1 := fun e => sw_43 (congrArg nI e)
      have tsw_35 : (nI zn1).toInt ≠ 0 := fx_tne sw_35
      have tsw_43 : (nI zn1).toInt ≠ 1 := fx_tne sw_43
      refine aw_lookup (off := 41) (tgt := 112) dX12_tried_71 (by decide) (by show Op.lookupswitch.offset [(0, 25), (1, 33)] 41 (nI zn1).toInt = 41; simp only [Op.lookupswitch.offset_cons, Op.lookupswitch.offset_nil]; rw [if_neg (Ne.symm tsw_35), if_neg (Ne.symm tsw_43)]) (by decide) ?_
      refine aw_iload_n dX12_tried_112 rfl ?_
      refine aw_bipush (v := 30) dX12_tried_113 (by decide) ?_
      refine aw_icmp_ge (tgt := 132) dX12_tried_115 (by decide) (fun c_51 => ?_) (fun c_51 => ?_)
      · skip
        have nc_51 : 30 ≤ zn1 := (nI_leI (a := 30) (b := zn1) (by omega) (by omega)).mp c_51
        refine aw_iload_n dX12_tried_132 rfl ?_
        refine aw_bipush (v := 50) dX12_tried_133 (by decide) ?_
        refine aw_icmp_ge (tgt := 149) dX12_tried_135 (by decide) (fun c_52 => ?_) (fun c_52 => ?_)
        · skip
          have nc_52 : 50 ≤ zn1 := (nI_leI (a := 50) (b := zn1) (by omega) (by omega)).mp c_52
          refine aw_aload_n dX12_tried_149 rfl ?_
          obtain ⟨ftoldPeople_53, ftoldDoors_53, fwasDoors_53, ffault_53, fopen_53, flines_53, fmeantSet_53, fopenedNow_53, fvainNow_53, flowNow_53, fhighNow_53, fisKept_53, tad_53, pl0_53, le0_53, nu0_53, coy_53, wag_53, say_53, e_53, hntad_53, hnpl0_53, hnle0_53, hnnu0_53, hncoy_53, hnwag_53, hnsay_53⟩ := JR.get j_30 cm_100
          refine aw_get dX12_tried_150 fl_X12_7 e_53 (by omega) rfl ?_
          refine aw_sipush (v := 192) dX12_tried_153 (by decide) ?_
          refine aw_iload_n dX12_tried_156 rfl ?_
          refine aw_iadd dX12_tried_157 ?_
          refine aw_eqi (y := nI (192 + zn1)) (nI_add _ _) ?_
          refine aw_bipush (v := 50) dX12_tried_158 (by decide) ?_
          refine aw_isub dX12_tried_160 ?_
          refine aw_eqi (y := (nI ((192 + zn1) - 50))) (pk_sub (a := (192 + zn1)) (b := 50) (by omega)) ?_
          obtain ⟨g_54, e_54⟩ := JR.get j_30 cm_101
          refine aw_iald (v := (g_54 ((192 + zn1) - 50))) dX12_tried_161 e_54 (by omega) (vp_in_nI (n := ((192 + zn1) - 50)) (by omega) (by omega)) (congrArg g_54 (nI_clamp (n := ((192 + zn1) - 50)) (by omega))) ?_
          refine aw_istore_n (ls' := [some (.ref (b + 100)), some (.int (nI zn0)), some (.int (nI zn1)), some (.int (g_54 ((192 + zn1) - 50)))]) dX12_tried_162 (Nat.le_of_ble_eq_true rfl) rfl ?_
          refine aw_aload_n dX12_tried_163 rfl ?_
          refine aw_get dX12_tried_164 fl_X12_13 e_53 (by omega) rfl ?_
          refine aw_aload_n dX12_tried_167 rfl ?_
          refine aw_get dX12_tried_168 fl_X12_7 e_53 (by omega) rfl ?_
          refine aw_callSv (J' := jX12_copies) (As := [.ref (b + 102), .ref (b + 101)]) (st := []) dX12_tried_171 tb_1299 ok_X12_copies rfl (r_copiesK l D b N V_31 hN cl j_30.1 102 2 cm_102 101 1 cm_101 (by decide) (by decide)) rfl (Nat.le_of_ble_eq_true rfl) ⟨Nat.le_of_ble_eq_true rfl, Nat.le_of_ble_eq_true rfl, Nat.le_of_ble_eq_true rfl, Nat.le_of_ble_eq_true rfl⟩ (fun  N_59 V_58 q_60 => ?_)
          obtain ⟨h_56, rfl, q_55⟩ := q_60
          have j_57 := JR.trans j_30 (JR.weak q_55 (Sub.cons LM0 (by decide) (by decide) (by decide) (Or.inl rfl) Sub.nil))
          refine aw_iload_n dX12_tried_174 rfl ?_
          refine aw_ireti dX12_tried_175 rfl (Nat.le_of_ble_eq_true rfl) (Nat.le_of_ble_eq_true rfl) ?_
          exact ⟨((h_56 208 (by decide)).trans ((JR.fI q_28 (by decide) (by decide) (nfc (by omega) (nfc (by omega) (nfc (by omega) (nfc (by omega) (nfc (by omega) (nfc (by omega) (nfc (by omega) nf0)))))))).trans ((h_23 208 (by decide)).trans (Eq.refl (fI (V 101) 208))))), rfl, j_57⟩
        · skip
          have nc_52 : ¬ (50 ≤ zn1) := fun z => c_52 ((nI_leI (a := 50) (b := zn1) (by omega) (by omega)).mpr z)
          refine aw_aload_n dX12_tried_138 rfl ?_
          refine aw_iload_n dX12_tried_139 rfl ?_
          refine aw_bipush (v := 30) dX12_tried_140 (by decide) ?_
          refine aw_isub dX12_tried_142 ?_
          refine aw_eqi (y := (nI (zn1 - 30))) (pk_sub (a := zn1) (b := 30) (by omega)) ?_
          obtain ⟨ftoldPeople_62, ftoldDoors_62, fwasDoors_62, ffault_62, fopen_62, flines_62, fmeantSet_62, fopenedNow_62, fvainNow_62, flowNow_62, fhighNow_62, fisKept_62, tad_62, pl0_62, le0_62, nu0_62, coy_62, wag_62, say_62, e_62, hntad_62, hnpl0_62, hnle0_62, hnnu0_62, hncoy_62, hnwag_62, hnsay_62⟩ := JR.get j_30 cm_100
          refine aw_callVi (J' := jX12_greatest) (As := [.int (nI (zn1 - 30))]) (st := []) dX12_tried_143 tb_1388 ok_X12_greatest ⟨_, e_62⟩ (by omega) rfl rfl (r_greatest l D b N V_31 hN cl j_30.1 (nI (zn1 - 30)) ⟨(zn1 - 30), by omega, rfl⟩) rfl (Nat.le_of_ble_eq_true rfl) ⟨Nat.le_of_ble_eq_true rfl, Nat.le_of_ble_eq_true rfl, Nat.le_of_ble_eq_true rfl, Nat.le_of_ble_eq_true rfl⟩ (fun r_63 N_64 V_65 q_66 => ?_)
          obtain ⟨rfl, rfl⟩ := q_66
          refine aw_goto (tgt := 162) dX12_tried_146 (by decide) ?_
          refine aw_istore_n (ls' := [some (.ref (b + 100)), some (.int (nI zn0)), some (.int (nI zn1)), some (.int r_63)]) dX12_tried_162 (Nat.le_of_ble_eq_true rfl) rfl ?_
          refine aw_aload_n dX12_tried_163 rfl ?_
          refine aw_get dX12_tried_164 fl_X12_13 e_62 (by omega) rfl ?_
          refine aw_aload_n dX12_tried_167 rfl ?_
          refine aw_get dX12_tried_168 fl_X12_7 e_62 (by omega) rfl ?_
          refine aw_callSv (J' := jX12_copies) (As := [.ref (b + 102), .ref (b + 101)]) (st := []) dX12_tried_171 tb_1299 ok_X12_copies rfl (r_copiesK l D b N V_31 hN cl j_30.1 102 2 cm_102 101 1 cm_101 (by decide) (by decide)) rfl (Nat.le_of_ble_eq_true rfl) ⟨Nat.le_of_ble_eq_true rfl, Nat.le_of_ble_eq_true rfl, Nat.le_of_ble_eq_true rfl, Nat.le_of_ble_eq_true rfl⟩ (fun  N_71 V_70 q_72 => ?_)
          obtain ⟨h_68, rfl, q_67⟩ := q_72
          have j_69 := JR.trans j_30 (JR.weak q_67 (Sub.cons LM0 (by decide) (by decide) (by decide) (Or.inl rfl) Sub.nil))
          refine aw_iload_n dX12_tried_174 rfl ?_
          refine aw_ireti dX12_tried_175 rfl (Nat.le_of_ble_eq_true rfl) (Nat.le_of_ble_eq_true rfl) ?_
          exact ⟨((h_68 208 (by decide)).trans ((JR.fI q_28 (by decide) (by decide) (nfc (by omega) (nfc (by omega) (nfc (by omega) (nfc (by omega) (nfc (by omega) (nfc (by omega) (nfc (by omega) nf0)))))))).trans ((h_23 208 (by decide)).trans (Eq.refl (fI (V 101) 208))))), rfl, j_69⟩
      · skip
        have nc_51 : ¬ (30 ≤ zn1) := fun z => c_51 ((nI_leI (a := 30) (b := zn1) (by omega) (by omega)).mpr z)
        refine aw_aload_n dX12_tried_118 rfl ?_
        refine aw_iload_n dX12_tried_119 rfl ?_
        refine aw_bipush (v := 10) dX12_tried_120 (by decide) ?_
        refine aw_isub dX12_tried_122 ?_
        refine aw_eqi (y := (nI (zn1 - 10))) (pk_sub (a := zn1) (b := 10) (by omega)) ?_
        obtain ⟨ftoldPeople_75, ftoldDoors_75, fwasDoors_75, ffault_75, fopen_75, flines_75, fmeantSet_75, fopenedNow_75, fvainNow_75, flowNow_75, fhighNow_75, fisKept_75, tad_75, pl0_75, le0_75, nu0_75, coy_75, wag_75, say_75, e_75, hntad_75, hnpl0_75, hnle0_75, hnnu0_75, hncoy_75, hnwag_75, hnsay_75⟩ := JR.get j_30 cm_100
        refine aw_callVi (J' := jX12_fearOf) (As := [.int (nI (zn1 - 10))]) (st := []) dX12_tried_123 tb_1430 ok_X12_fearOf ⟨_, e_75⟩ (by omega) rfl rfl (r_fearOf l D b N V_31 hN cl j_30.1 (nI (zn1 - 10)) ⟨(zn1 - 10), by omega, rfl⟩) rfl (Nat.le_of_ble_eq_true rfl) ⟨Nat.le_of_ble_eq_true rfl, Nat.le_of_ble_eq_true rfl, Nat.le_of_ble_eq_true rfl, Nat.le_of_ble_eq_true rfl⟩ (fun r_76 N_77 V_78 q_79 => ?_)
        obtain ⟨h_74, rfl, rfl⟩ := q_79
        refine aw_callSi (J' := jX12_orNone) (As := [.int r_76]) (st := []) dX12_tried_126 tb_1446 ok_X12_orNone rfl (r_orNone l D b N V_31 hN cl j_30.1 r_76) rfl (Nat.le_of_ble_eq_true rfl) ⟨Nat.le_of_ble_eq_true rfl, Nat.le_of_ble_eq_true rfl, Nat.le_of_ble_eq_true rfl, Nat.le_of_ble_eq_true rfl⟩ (fun r_81 N_82 V_83 q_84 => ?_)
        obtain ⟨rfl, rfl⟩ := q_84
        refine aw_goto (tgt := 162) dX12_tried_129 (by decide) ?_
        refine aw_istore_n (ls' := [some (.ref (b + 100)), some (.int (nI zn0)), some (.int (nI zn1)), some (.int r_81)]) dX12_tried_162 (Nat.le_of_ble_eq_true rfl) rfl ?_
        refine aw_aload_n dX12_tried_163 rfl ?_
        refine aw_get dX12_tried_164 fl_X12_13 e_75 (by omega) rfl ?_
        refine aw_aload_n dX12_tried_167 rfl ?_
        refine aw_get dX12_tried_168 fl_X12_7 e_75 (by omega) rfl ?_
        refine aw_callSv (J' := jX12_copies) (As := [.ref (b + 102), .ref (b + 101)]) (st := []) dX12_tried_171 tb_1299 ok_X12_copies rfl (r_copiesK l D b N V_31 hN cl j_30.1 102 2 cm_102 101 1 cm_101 (by decide) (by decide)) rfl (Nat.le_of_ble_eq_true rfl) ⟨Nat.le_of_ble_eq_true rfl, Nat.le_of_ble_eq_true rfl, Nat.le_of_ble_eq_true rfl, Nat.le_of_ble_eq_true rfl⟩ (fun  N_89 V_88 q_90 => ?_)
        obtain ⟨h_86, rfl, q_85⟩ := q_90
        have j_87 := JR.trans j_30 (JR.weak q_85 (Sub.cons LM0 (by decide) (by decide) (by decide) (Or.inl rfl) Sub.nil))
        refine aw_iload_n dX12_tried_174 rfl ?_
        refine aw_ireti dX12_tried_175 rfl (Nat.le_of_ble_eq_true rfl) (Nat.le_of_ble_eq_true rfl) ?_
        exact ⟨((h_86 208 (by decide)).trans ((JR.fI q_28 (by decide) (by decide) (nfc (by omega) (nfc (by omega) (nfc (by omega) (nfc (by omega) (nfc (by omega) (nfc (by omega) (nfc (by omega) nf0)))))))).trans ((h_23 208 (by decide)).trans (Eq.refl (fI (V 101) 208))))), rfl, j_87⟩
    · skip
      refine aw_aload_n dX12_tried_19 rfl ?_
      refine aw_iload_n dX12_tried_20 rfl ?_
      refine aw_bipush (v := 10) dX12_tried_21 (by decide) ?_
      refine aw_isub dX12_tried_23 ?_
      obtain ⟨ftoldPeople_94, ftoldDoors_94, fwasDoors_94, ffault_94, fopen_94, flines_94, fmeantSet_94, fopenedNow_94, fvainNow_94, flowNow_94, fhighNow_94, fisKept_94, tad_94, pl0_94, le0_94, nu0_94, coy_94, wag_94, say_94, e_94, hntad_94, hnpl0_94, hnle0_94, hnnu0_94, hncoy_94, hnwag_94, hnsay_94⟩ := JR.get hJ0 cm_100
      refine aw_callVi (J' := jX12_isTold) (As := [.int (n1 - 10)]) (st := []) dX12_tried_24 tb_1351 ok_X12_isTold ⟨_, e_94⟩ (by omega) rfl rfl (r_isTold l D b N V hN cl hJ0.1 (n1 - 10)) rfl (Nat.le_of_ble_eq_true rfl) ⟨Nat.le_of_ble_eq_true rfl, Nat.le_of_ble_eq_true rfl, Nat.le_of_ble_eq_true rfl, Nat.le_of_ble_eq_true rfl⟩ (fun r_95 N_96 V_97 q_98 => ?_)
      obtain ⟨⟨z_93, h_92⟩, rfl, rfl⟩ := q_98
      refine aw_if_ne (tgt := 54) dX12_tried_27 (by decide) (fun c_99 => ?_) (fun c_99 => ?_)
      · skip
        obtain ⟨z_100, hz_100, ez_100⟩ := h_92.resolve_left c_99
        obtain rfl : n1 = nI (z_100 + 10) := sub_eq ez_100
        refine aw_aload_n dX12_tried_54 rfl ?_
        refine aw_get dX12_tried_55 fl_X12_7 e_94 (by omega) rfl ?_
        refine aw_aload_n dX12_tried_58 rfl ?_
        refine aw_get dX12_tried_59 fl_X12_13 e_94 (by omega) rfl ?_
        refine aw_callSv (J' := jX12_copies) (As := [.ref (b + 101), .ref (b + 102)]) (st := []) dX12_tried_62 tb_1299 ok_X12_copies rfl (r_copiesK l D b N V hN cl hJ0.1 101 1 cm_101 102 2 cm_102 (by decide) (by decide)) rfl (Nat.le_of_ble_eq_true rfl) ⟨Nat.le_of_ble_eq_true rfl, Nat.le_of_ble_eq_true rfl, Nat.le_of_ble_eq_true rfl, Nat.le_of_ble_eq_true rfl⟩ (fun  N_105 V_104 q_106 => ?_)
        obtain ⟨h_102, rfl, q_101⟩ := q_106
        have j_103 := JR.trans hJ0 (JR.weak q_101 (Sub.cons LM0 (by decide) (by decide) (by decide) (Or.inl rfl) Sub.nil))
        refine aw_aload_n dX12_tried_65 rfl ?_
        refine aw_iload_n dX12_tried_66 rfl ?_
        obtain ⟨ftoldPeople_111, ftoldDoors_111, fwasDoors_111, ffault_111, fopen_111, flines_111, fmeantSet_111, fopenedNow_111, fvainNow_111, flowNow_111, fhighNow_111, fisKept_111, tad_111, pl0_111, le0_111, nu0_111, coy_111, wag_111, say_111, e_111, hntad_111, hnpl0_111, hnle0_111, hnnu0_111, hncoy_111, hnwag_111, hnsay_111⟩ := JR.get j_103 cm_100
        refine aw_callVv (J' := jX12_nightsGo) (As := [.int (nI zn0)]) (st := []) dX12_tried_67 tb_1371 ok_X12_nightsGo ⟨_, e_111⟩ (by omega) rfl rfl (r_nightsGoK l D b N V_104 hN cl j_103.1 (nI zn0) (WF.fr hwf j_103.2.2.1)) rfl (Nat.le_of_ble_eq_true rfl) ⟨Nat.le_of_ble_eq_true rfl, Nat.le_of_ble_eq_true rfl, Nat.le_of_ble_eq_true rfl, Nat.le_of_ble_eq_true rfl⟩ (fun  N_112 V_110 q_113 => ?_)
        obtain ⟨h_108, rfl, q_107⟩ := q_113
        have j_109 := JR.trans j_103 (JR.weak q_107 (Sub.cons (LMs LM0) (by decide) (by decide) (by decide) (Or.inl rfl) (Sub.cons (LMs (LMs LM0)) (by decide) (by decide) (by decide) (Or.inr ⟨by decide, by decide⟩) (Sub.cons (LMs (LMs (LMs LM0))) (by decide) (by decide) (by decide) (Or.inr ⟨by decide, by decide⟩) (Sub.cons LM0 (by decide) (by decide) (by decide) (Or.inl rfl) (Sub.cons LM0 (by decide) (by decide) (by decide) (Or.inl rfl) (Sub.cons LM0 (by decide) (by decide) (by decide) (Or.inl rfl) (Sub.cons LM0 (by decide) (by decide) (by decide) (Or.inl rfl) Sub.nil))))))))
        refine aw_iload_n dX12_tried_70 rfl ?_
        by_cases sw_114 : (nI (z_100 + 10)) = 0
        · skip
          refine aw_eqi sw_114 ?_
          refine aw_lookup (off := 25) (tgt := 96) dX12_tried_71 (by decide) (by decide) (by decide) ?_
          refine aw_aload_n dX12_tried_96 rfl ?_
          obtain ⟨ftoldPeople_115, ftoldDoors_115, fwasDoors_115, ffault_115, fopen_115, flines_115, fmeantSet_115, fopenedNow_115, fvainNow_115, flowNow_115, fhighNow_115, fisKept_115, tad_115, pl0_115, le0_115, nu0_115, coy_115, wag_115, say_115, e_115, hntad_115, hnpl0_115, hnle0_115, hnnu0_115, hncoy_115, hnwag_115, hnsay_115⟩ := JR.get j_109 cm_100
          refine aw_get dX12_tried_97 fl_X12_321 e_115 (by omega) rfl ?_
          refine aw_istore_n (ls' := [some (.ref (b + 100)), some (.int (nI zn0)), some (.int (nI (z_100 + 10))), some (.int fopenedNow_115)]) dX12_tried_100 (Nat.le_of_ble_eq_true rfl) rfl ?_
          refine aw_goto (tgt := 163) dX12_tried_101 (by decide) ?_
          refine aw_aload_n dX12_tried_163 rfl ?_
          refine aw_get dX12_tried_164 fl_X12_13 e_115 (by omega) rfl ?_
          refine aw_aload_n dX12_tried_167 rfl ?_
          refine aw_get dX12_tried_168 fl_X12_7 e_115 (by omega) rfl ?_
          refine aw_callSv (J' := jX12_copies) (As := [.ref (b + 102), .ref (b + 101)]) (st := []) dX12_tried_171 tb_1299 ok_X12_copies rfl (r_copiesK l D b N V_110 hN cl j_109.1 102 2 cm_102 101 1 cm_101 (by decide) (by decide)) rfl (Nat.le_of_ble_eq_true rfl) ⟨Nat.le_of_ble_eq_true rfl, Nat.le_of_ble_eq_true rfl, Nat.le_of_ble_eq_true rfl, Nat.le_of_ble_eq_true rfl⟩ (fun  N_120 V_119 q_121 => ?_)
          obtain ⟨h_117, rfl, q_116⟩ := q_121
          have j_118 := JR.trans j_109 (JR.weak q_116 (Sub.cons LM0 (by decide) (by decide) (by decide) (Or.inl rfl) Sub.nil))
          refine aw_iload_n dX12_tried_174 rfl ?_
          refine aw_ireti dX12_tried_175 rfl (Nat.le_of_ble_eq_true rfl) (Nat.le_of_ble_eq_true rfl) ?_
          exact ⟨((h_117 208 (by decide)).trans ((JR.fI q_107 (by decide) (by decide) (nfc (by omega) (nfc (by omega) (nfc (by omega) (nfc (by omega) (nfc (by omega) (nfc (by omega) (nfc (by omega) nf0)))))))).trans ((h_102 208 (by decide)).trans (Eq.refl (fI (V 101) 208))))), rfl, j_118⟩
        have nsw_114 : ¬ (z_100 + 10) = 0 := fun e => sw_114 (congrArg nI e)
        by_cases sw_122 : (nI (z_100 + 10)) = 1
        · skip
          refine aw_eqi sw_122 ?_
          refine aw_lookup (off := 33) (tgt := 104) dX12_tried_71 (by decide) (by decide) (by decide) ?_
          refine aw_aload_n dX12_tried_104 rfl ?_
          obtain ⟨ftoldPeople_123, ftoldDoors_123, fwasDoors_123, ffault_123, fopen_123, flines_123, fmeantSet_123, fopenedNow_123, fvainNow_123, flowNow_123, fhighNow_123, fisKept_123, tad_123, pl0_123, le0_123, nu0_123, coy_123, wag_123, say_123, e_123, hntad_123, hnpl0_123, hnle0_123, hnnu0_123, hncoy_123, hnwag_123, hnsay_123⟩ := JR.get j_109 cm_100
          refine aw_get dX12_tried_105 fl_X12_324 e_123 (by omega) rfl ?_
          refine aw_istore_n (ls' := [some (.ref (b + 100)), some (.int (nI zn0)), some (.int (nI (z_100 + 10))), some (.int fvainNow_123)]) dX12_tried_108 (Nat.le_of_ble_eq_true rfl) rfl ?_
          refine aw_goto (tgt := 163) dX12_tried_109 (by decide) ?_
          refine aw_aload_n dX12_tried_163 rfl ?_
          refine aw_get dX12_tried_164 fl_X12_13 e_123 (by omega) rfl ?_
          refine aw_aload_n dX12_tried_167 rfl ?_
          refine aw_get dX12_tried_168 fl_X12_7 e_123 (by omega) rfl ?_
          refine aw_callSv (J' := jX12_copies) (As := [.ref (b + 102), .ref (b + 101)]) (st := []) dX12_tried_171 tb_1299 ok_X12_copies rfl (r_copiesK l D b N V_110 hN cl j_109.1 102 2 cm_102 101 1 cm_101 (by decide) (by decide)) rfl (Nat.le_of_ble_eq_true rfl) ⟨Nat.le_of_ble_eq_true rfl, Nat.le_of_ble_eq_true rfl, Nat.le_of_ble_eq_true rfl, Nat.le_of_ble_eq_true rfl⟩ (fun  N_128 V_127 q_129 => ?_)
          obtain ⟨h_125, rfl, q_124⟩ := q_129
          have j_126 := JR.trans j_109 (JR.weak q_124 (Sub.cons LM0 (by decide) (by decide) (by decide) (Or.inl rfl) Sub.nil))
          refine aw_iload_n dX12_tried_174 rfl ?_
          refine aw_ireti dX12_tried_175 rfl (Nat.le_of_ble_eq_true rfl) (Nat.le_of_ble_eq_true rfl) ?_
          exact ⟨((h_125 208 (by decide)).trans ((JR.fI q_107 (by decide) (by decide) (nfc (by omega) (nfc (by omega) (nfc (by omega) (nfc (by omega) (nfc (by omega) (nfc (by omega) (nfc (by omega) nf0)))))))).trans ((h_102 208 (by decide)).trans (Eq.refl (fI (V 101) 208))))), rfl, j_126⟩
        have nsw_122 : ¬ (z_100 + 10) = 1 := fun e => sw_122 (congrArg nI e)
        have tsw_114 : (nI (z_100 + 10)).toInt ≠ 0 := fx_tne sw_114
        have tsw_122 : (nI (z_100 + 10)).toInt ≠ 1 := fx_tne sw_122
        refine aw_lookup (off := 41) (tgt := 112) dX12_tried_71 (by decide) (by show Op.lookupswitch.offset [(0, 25), (1, 33)] 41 (nI (z_100 + 10)).toInt = 41; simp only [Op.lookupswitch.offset_cons, Op.lookupswitch.offset_nil]; rw [if_neg (Ne.symm tsw_114), if_neg (Ne.symm tsw_122)]) (by decide) ?_
        refine aw_iload_n dX12_tried_112 rfl ?_
        refine aw_bipush (v := 30) dX12_tried_113 (by decide) ?_
        refine aw_icmp_ge (tgt := 132) dX12_tried_115 (by decide) (fun c_130 => ?_) (fun c_130 => ?_)
        · skip
          have nc_130 : 30 ≤ (z_100 + 10) := (nI_leI (a := 30) (b := (z_100 + 10)) (by omega) (by omega)).mp c_130
          refine aw_iload_n dX12_tried_132 rfl ?_
          refine aw_bipush (v := 50) dX12_tried_133 (by decide) ?_
          refine aw_icmp_ge (tgt := 149) dX12_tried_135 (by decide) (fun c_131 => ?_) (fun c_131 => ?_)
          · skip
            have nc_131 : 50 ≤ (z_100 + 10) := (nI_leI (a := 50) (b := (z_100 + 10)) (by omega) (by omega)).mp c_131
            refine aw_aload_n dX12_tried_149 rfl ?_
            obtain ⟨ftoldPeople_132, ftoldDoors_132, fwasDoors_132, ffault_132, fopen_132, flines_132, fmeantSet_132, fopenedNow_132, fvainNow_132, flowNow_132, fhighNow_132, fisKept_132, tad_132, pl0_132, le0_132, nu0_132, coy_132, wag_132, say_132, e_132, hntad_132, hnpl0_132, hnle0_132, hnnu0_132, hncoy_132, hnwag_132, hnsay_132⟩ := JR.get j_109 cm_100
            refine aw_get dX12_tried_150 fl_X12_7 e_132 (by omega) rfl ?_
            refine aw_sipush (v := 192) dX12_tried_153 (by decide) ?_
            refine aw_iload_n dX12_tried_156 rfl ?_
            refine aw_iadd dX12_tried_157 ?_
            refine aw_eqi (y := nI (192 + (z_100 + 10))) (nI_add _ _) ?_
            refine aw_bipush (v := 50) dX12_tried_158 (by decide) ?_
            refine aw_isub dX12_tried_160 ?_
            refine aw_eqi (y := (nI ((192 + (z_100 + 10)) - 50))) (pk_sub (a := (192 + (z_100 + 10))) (b := 50) (by omega)) ?_
            obtain ⟨g_133, e_133⟩ := JR.get j_109 cm_101
            refine aw_iald (v := (g_133 ((192 + (z_100 + 10)) - 50))) dX12_tried_161 e_133 (by omega) (vp_in_nI (n := ((192 + (z_100 + 10)) - 50)) (by omega) (by omega)) (congrArg g_133 (nI_clamp (n := ((192 + (z_100 + 10)) - 50)) (by omega))) ?_
            refine aw_istore_n (ls' := [some (.ref (b + 100)), some (.int (nI zn0)), some (.int (nI (z_100 + 10))), some (.int (g_133 ((192 + (z_100 + 10)) - 50)))]) dX12_tried_162 (Nat.le_of_ble_eq_true rfl) rfl ?_
            refine aw_aload_n dX12_tried_163 rfl ?_
            refine aw_get dX12_tried_164 fl_X12_13 e_132 (by omega) rfl ?_
            refine aw_aload_n dX12_tried_167 rfl ?_
            refine aw_get dX12_tried_168 fl_X12_7 e_132 (by omega) rfl ?_
            refine aw_callSv (J' := jX12_copies) (As := [.ref (b + 102), .ref (b + 101)]) (st := []) dX12_tried_171 tb_1299 ok_X12_copies rfl (r_copiesK l D b N V_110 hN cl j_109.1 102 2 cm_102 101 1 cm_101 (by decide) (by decide)) rfl (Nat.le_of_ble_eq_true rfl) ⟨Nat.le_of_ble_eq_true rfl, Nat.le_of_ble_eq_true rfl, Nat.le_of_ble_eq_true rfl, Nat.le_of_ble_eq_true rfl⟩ (fun  N_138 V_137 q_139 => ?_)
            obtain ⟨h_135, rfl, q_134⟩ := q_139
            have j_136 := JR.trans j_109 (JR.weak q_134 (Sub.cons LM0 (by decide) (by decide) (by decide) (Or.inl rfl) Sub.nil))
            refine aw_iload_n dX12_tried_174 rfl ?_
            refine aw_ireti dX12_tried_175 rfl (Nat.le_of_ble_eq_true rfl) (Nat.le_of_ble_eq_true rfl) ?_
            exact ⟨((h_135 208 (by decide)).trans ((JR.fI q_107 (by decide) (by decide) (nfc (by omega) (nfc (by omega) (nfc (by omega) (nfc (by omega) (nfc (by omega) (nfc (by omega) (nfc (by omega) nf0)))))))).trans ((h_102 208 (by decide)).trans (Eq.refl (fI (V 101) 208))))), rfl, j_136⟩
          · skip
            have nc_131 : ¬ (50 ≤ (z_100 + 10)) := fun z => c_131 ((nI_leI (a := 50) (b := (z_100 + 10)) (by omega) (by omega)).mpr z)
            refine aw_aload_n dX12_tried_138 rfl ?_
            refine aw_iload_n dX12_tried_139 rfl ?_
            refine aw_bipush (v := 30) dX12_tried_140 (by decide) ?_
            refine aw_isub dX12_tried_142 ?_
            refine aw_eqi (y := (nI ((z_100 + 10) - 30))) (pk_sub (a := (z_100 + 10)) (b := 30) (by omega)) ?_
            obtain ⟨ftoldPeople_141, ftoldDoors_141, fwasDoors_141, ffault_141, fopen_141, flines_141, fmeantSet_141, fopenedNow_141, fvainNow_141, flowNow_141, fhighNow_141, fisKept_141, tad_141, pl0_141, le0_141, nu0_141, coy_141, wag_141, say_141, e_141, hntad_141, hnpl0_141, hnle0_141, hnnu0_141, hncoy_141, hnwag_141, hnsay_141⟩ := JR.get j_109 cm_100
            refine aw_callVi (J' := jX12_greatest) (As := [.int (nI ((z_100 + 10) - 30))]) (st := []) dX12_tried_143 tb_1388 ok_X12_greatest ⟨_, e_141⟩ (by omega) rfl rfl (r_greatest l D b N V_110 hN cl j_109.1 (nI ((z_100 + 10) - 30)) ⟨((z_100 + 10) - 30), by omega, rfl⟩) rfl (Nat.le_of_ble_eq_true rfl) ⟨Nat.le_of_ble_eq_true rfl, Nat.le_of_ble_eq_true rfl, Nat.le_of_ble_eq_true rfl, Nat.le_of_ble_eq_true rfl⟩ (fun r_142 N_143 V_144 q_145 => ?_)
            obtain ⟨rfl, rfl⟩ := q_145
            refine aw_goto (tgt := 162) dX12_tried_146 (by decide) ?_
            refine aw_istore_n (ls' := [some (.ref (b + 100)), some (.int (nI zn0)), some (.int (nI (z_100 + 10))), some (.int r_142)]) dX12_tried_162 (Nat.le_of_ble_eq_true rfl) rfl ?_
            refine aw_aload_n dX12_tried_163 rfl ?_
            refine aw_get dX12_tried_164 fl_X12_13 e_141 (by omega) rfl ?_
            refine aw_aload_n dX12_tried_167 rfl ?_
            refine aw_get dX12_tried_168 fl_X12_7 e_141 (by omega) rfl ?_
            refine aw_callSv (J' := jX12_copies) (As := [.ref (b + 102), .ref (b + 101)]) (st := []) dX12_tried_171 tb_1299 ok_X12_copies rfl (r_copiesK l D b N V_110 hN cl j_109.1 102 2 cm_102 101 1 cm_101 (by decide) (by decide)) rfl (Nat.le_of_ble_eq_true rfl) ⟨Nat.le_of_ble_eq_true rfl, Nat.le_of_ble_eq_true rfl, Nat.le_of_ble_eq_true rfl, Nat.le_of_ble_eq_true rfl⟩ (fun  N_150 V_149 q_151 => ?_)
            obtain ⟨h_147, rfl, q_146⟩ := q_151
            have j_148 := JR.trans j_109 (JR.weak q_146 (Sub.cons LM0 (by decide) (by decide) (by decide) (Or.inl rfl) Sub.nil))
            refine aw_iload_n dX12_tried_174 rfl ?_
            refine aw_ireti dX12_tried_175 rfl (Nat.le_of_ble_eq_true rfl) (Nat.le_of_ble_eq_true rfl) ?_
            exact ⟨((h_147 208 (by decide)).trans ((JR.fI q_107 (by decide) (by decide) (nfc (by omega) (nfc (by omega) (nfc (by omega) (nfc (by omega) (nfc (by omega) (nfc (by omega) (nfc (by omega) nf0)))))))).trans ((h_102 208 (by decide)).trans (Eq.refl (fI (V 101) 208))))), rfl, j_148⟩
        · skip
          have nc_130 : ¬ (30 ≤ (z_100 + 10)) := fun z => c_130 ((nI_leI (a := 30) (b := (z_100 + 10)) (by omega) (by omega)).mpr z)
          refine aw_aload_n dX12_tried_118 rfl ?_
          refine aw_iload_n dX12_tried_119 rfl ?_
          refine aw_bipush (v := 10) dX12_tried_120 (by decide) ?_
          refine aw_isub dX12_tried_122 ?_
          refine aw_eqi (y := (nI ((z_100 + 10) - 10))) (pk_sub (a := (z_100 + 10)) (b := 10) (by omega)) ?_
          obtain ⟨ftoldPeople_154, ftoldDoors_154, fwasDoors_154, ffault_154, fopen_154, flines_154, fmeantSet_154, fopenedNow_154, fvainNow_154, flowNow_154, fhighNow_154, fisKept_154, tad_154, pl0_154, le0_154, nu0_154, coy_154, wag_154, say_154, e_154, hntad_154, hnpl0_154, hnle0_154, hnnu0_154, hncoy_154, hnwag_154, hnsay_154⟩ := JR.get j_109 cm_100
          refine aw_callVi (J' := jX12_fearOf) (As := [.int (nI ((z_100 + 10) - 10))]) (st := []) dX12_tried_123 tb_1430 ok_X12_fearOf ⟨_, e_154⟩ (by omega) rfl rfl (r_fearOf l D b N V_110 hN cl j_109.1 (nI ((z_100 + 10) - 10)) ⟨((z_100 + 10) - 10), by omega, rfl⟩) rfl (Nat.le_of_ble_eq_true rfl) ⟨Nat.le_of_ble_eq_true rfl, Nat.le_of_ble_eq_true rfl, Nat.le_of_ble_eq_true rfl, Nat.le_of_ble_eq_true rfl⟩ (fun r_155 N_156 V_157 q_158 => ?_)
          obtain ⟨h_153, rfl, rfl⟩ := q_158
          refine aw_callSi (J' := jX12_orNone) (As := [.int r_155]) (st := []) dX12_tried_126 tb_1446 ok_X12_orNone rfl (r_orNone l D b N V_110 hN cl j_109.1 r_155) rfl (Nat.le_of_ble_eq_true rfl) ⟨Nat.le_of_ble_eq_true rfl, Nat.le_of_ble_eq_true rfl, Nat.le_of_ble_eq_true rfl, Nat.le_of_ble_eq_true rfl⟩ (fun r_160 N_161 V_162 q_163 => ?_)
          obtain ⟨rfl, rfl⟩ := q_163
          refine aw_goto (tgt := 162) dX12_tried_129 (by decide) ?_
          refine aw_istore_n (ls' := [some (.ref (b + 100)), some (.int (nI zn0)), some (.int (nI (z_100 + 10))), some (.int r_160)]) dX12_tried_162 (Nat.le_of_ble_eq_true rfl) rfl ?_
          refine aw_aload_n dX12_tried_163 rfl ?_
          refine aw_get dX12_tried_164 fl_X12_13 e_154 (by omega) rfl ?_
          refine aw_aload_n dX12_tried_167 rfl ?_
          refine aw_get dX12_tried_168 fl_X12_7 e_154 (by omega) rfl ?_
          refine aw_callSv (J' := jX12_copies) (As := [.ref (b + 102), .ref (b + 101)]) (st := []) dX12_tried_171 tb_1299 ok_X12_copies rfl (r_copiesK l D b N V_110 hN cl j_109.1 102 2 cm_102 101 1 cm_101 (by decide) (by decide)) rfl (Nat.le_of_ble_eq_true rfl) ⟨Nat.le_of_ble_eq_true rfl, Nat.le_of_ble_eq_true rfl, Nat.le_of_ble_eq_true rfl, Nat.le_of_ble_eq_true rfl⟩ (fun  N_168 V_167 q_169 => ?_)
          obtain ⟨h_165, rfl, q_164⟩ := q_169
          have j_166 := JR.trans j_109 (JR.weak q_164 (Sub.cons LM0 (by decide) (by decide) (by decide) (Or.inl rfl) Sub.nil))
          refine aw_iload_n dX12_tried_174 rfl ?_
          refine aw_ireti dX12_tried_175 rfl (Nat.le_of_ble_eq_true rfl) (Nat.le_of_ble_eq_true rfl) ?_
          exact ⟨((h_165 208 (by decide)).trans ((JR.fI q_107 (by decide) (by decide) (nfc (by omega) (nfc (by omega) (nfc (by omega) (nfc (by omega) (nfc (by omega) (nfc (by omega) (nfc (by omega) nf0)))))))).trans ((h_102 208 (by decide)).trans (Eq.refl (fI (V 101) 208))))), rfl, j_166⟩
      · skip
        refine aw_aload_n dX12_tried_30 rfl ?_
        refine aw_iload_n dX12_tried_31 rfl ?_
        refine aw_bipush (v := 30) dX12_tried_32 (by decide) ?_
        refine aw_isub dX12_tried_34 ?_
        refine aw_callVi (J' := jX12_isTold) (As := [.int (n1 - 30)]) (st := []) dX12_tried_35 tb_1351 ok_X12_isTold ⟨_, e_94⟩ (by omega) rfl rfl (r_isTold l D b N V hN cl hJ0.1 (n1 - 30)) rfl (Nat.le_of_ble_eq_true rfl) ⟨Nat.le_of_ble_eq_true rfl, Nat.le_of_ble_eq_true rfl, Nat.le_of_ble_eq_true rfl, Nat.le_of_ble_eq_true rfl⟩ (fun r_173 N_174 V_175 q_176 => ?_)
        obtain ⟨⟨z_172, h_171⟩, rfl, rfl⟩ := q_176
        refine aw_if_ne (tgt := 54) dX12_tried_38 (by decide) (fun c_177 => ?_) (fun c_177 => ?_)
        · skip
          obtain ⟨z_178, hz_178, ez_178⟩ := h_171.resolve_left c_177
          obtain rfl : n1 = nI (z_178 + 30) := sub_eq ez_178
          refine aw_aload_n dX12_tried_54 rfl ?_
          refine aw_get dX12_tried_55 fl_X12_7 e_94 (by omega) rfl ?_
          refine aw_aload_n dX12_tried_58 rfl ?_
          refine aw_get dX12_tried_59 fl_X12_13 e_94 (by omega) rfl ?_
          refine aw_callSv (J' := jX12_copies) (As := [.ref (b + 101), .ref (b + 102)]) (st := []) dX12_tried_62 tb_1299 ok_X12_copies rfl (r_copiesK l D b N V hN cl hJ0.1 101 1 cm_101 102 2 cm_102 (by decide) (by decide)) rfl (Nat.le_of_ble_eq_true rfl) ⟨Nat.le_of_ble_eq_true rfl, Nat.le_of_ble_eq_true rfl, Nat.le_of_ble_eq_true rfl, Nat.le_of_ble_eq_true rfl⟩ (fun  N_183 V_182 q_184 => ?_)
          obtain ⟨h_180, rfl, q_179⟩ := q_184
          have j_181 := JR.trans hJ0 (JR.weak q_179 (Sub.cons LM0 (by decide) (by decide) (by decide) (Or.inl rfl) Sub.nil))
          refine aw_aload_n dX12_tried_65 rfl ?_
          refine aw_iload_n dX12_tried_66 rfl ?_
          obtain ⟨ftoldPeople_189, ftoldDoors_189, fwasDoors_189, ffault_189, fopen_189, flines_189, fmeantSet_189, fopenedNow_189, fvainNow_189, flowNow_189, fhighNow_189, fisKept_189, tad_189, pl0_189, le0_189, nu0_189, coy_189, wag_189, say_189, e_189, hntad_189, hnpl0_189, hnle0_189, hnnu0_189, hncoy_189, hnwag_189, hnsay_189⟩ := JR.get j_181 cm_100
          refine aw_callVv (J' := jX12_nightsGo) (As := [.int (nI zn0)]) (st := []) dX12_tried_67 tb_1371 ok_X12_nightsGo ⟨_, e_189⟩ (by omega) rfl rfl (r_nightsGoK l D b N V_182 hN cl j_181.1 (nI zn0) (WF.fr hwf j_181.2.2.1)) rfl (Nat.le_of_ble_eq_true rfl) ⟨Nat.le_of_ble_eq_true rfl, Nat.le_of_ble_eq_true rfl, Nat.le_of_ble_eq_true rfl, Nat.le_of_ble_eq_true rfl⟩ (fun  N_190 V_188 q_191 => ?_)
          obtain ⟨h_186, rfl, q_185⟩ := q_191
          have j_187 := JR.trans j_181 (JR.weak q_185 (Sub.cons (LMs LM0) (by decide) (by decide) (by decide) (Or.inl rfl) (Sub.cons (LMs (LMs LM0)) (by decide) (by decide) (by decide) (Or.inr ⟨by decide, by decide⟩) (Sub.cons (LMs (LMs (LMs LM0))) (by decide) (by decide) (by decide) (Or.inr ⟨by decide, by decide⟩) (Sub.cons LM0 (by decide) (by decide) (by decide) (Or.inl rfl) (Sub.cons LM0 (by decide) (by decide) (by decide) (Or.inl rfl) (Sub.cons LM0 (by decide) (by decide) (by decide) (Or.inl rfl) (Sub.cons LM0 (by decide) (by decide) (by decide) (Or.inl rfl) Sub.nil))))))))
          refine aw_iload_n dX12_tried_70 rfl ?_
          by_cases sw_192 : (nI (z_178 + 30)) = 0
          · skip
            refine aw_eqi sw_192 ?_
            refine aw_lookup (off := 25) (tgt := 96) dX12_tried_71 (by decide) (by decide) (by decide) ?_
            refine aw_aload_n dX12_tried_96 rfl ?_
            obtain ⟨ftoldPeople_193, ftoldDoors_193, fwasDoors_193, ffault_193, fopen_193, flines_193, fmeantSet_193, fopenedNow_193, fvainNow_193, flowNow_193, fhighNow_193, fisKept_193, tad_193, pl0_193, le0_193, nu0_193, coy_193, wag_193, say_193, e_193, hntad_193, hnpl0_193, hnle0_193, hnnu0_193, hncoy_193, hnwag_193, hnsay_193⟩ := JR.get j_187 cm_100
            refine aw_get dX12_tried_97 fl_X12_321 e_193 (by omega) rfl ?_
            refine aw_istore_n (ls' := [some (.ref (b + 100)), some (.int (nI zn0)), some (.int (nI (z_178 + 30))), some (.int fopenedNow_193)]) dX12_tried_100 (Nat.le_of_ble_eq_true rfl) rfl ?_
            refine aw_goto (tgt := 163) dX12_tried_101 (by decide) ?_
            refine aw_aload_n dX12_tried_163 rfl ?_
            refine aw_get dX12_tried_164 fl_X12_13 e_193 (by omega) rfl ?_
            refine aw_aload_n dX12_tried_167 rfl ?_
            refine aw_get dX12_tried_168 fl_X12_7 e_193 (by omega) rfl ?_
            refine aw_callSv (J' := jX12_copies) (As := [.ref (b + 102), .ref (b + 101)]) (st := []) dX12_tried_171 tb_1299 ok_X12_copies rfl (r_copiesK l D b N V_188 hN cl j_187.1 102 2 cm_102 101 1 cm_101 (by decide) (by decide)) rfl (Nat.le_of_ble_eq_true rfl) ⟨Nat.le_of_ble_eq_true rfl, Nat.le_of_ble_eq_true rfl, Nat.le_of_ble_eq_true rfl, Nat.le_of_ble_eq_true rfl⟩ (fun  N_198 V_197 q_199 => ?_)
            obtain ⟨h_195, rfl, q_194⟩ := q_199
            have j_196 := JR.trans j_187 (JR.weak q_194 (Sub.cons LM0 (by decide) (by decide) (by decide) (Or.inl rfl) Sub.nil))
            refine aw_iload_n dX12_tried_174 rfl ?_
            refine aw_ireti dX12_tried_175 rfl (Nat.le_of_ble_eq_true rfl) (Nat.le_of_ble_eq_true rfl) ?_
            exact ⟨((h_195 208 (by decide)).trans ((JR.fI q_185 (by decide) (by decide) (nfc (by omega) (nfc (by omega) (nfc (by omega) (nfc (by omega) (nfc (by omega) (nfc (by omega) (nfc (by omega) nf0)))))))).trans ((h_180 208 (by decide)).trans (Eq.refl (fI (V 101) 208))))), rfl, j_196⟩
          have nsw_192 : ¬ (z_178 + 30) = 0 := fun e => sw_192 (congrArg nI e)
          by_cases sw_200 : (nI (z_178 + 30)) = 1
          · skip
            refine aw_eqi sw_200 ?_
            refine aw_lookup (off := 33) (tgt := 104) dX12_tried_71 (by decide) (by decide) (by decide) ?_
            refine aw_aload_n dX12_tried_104 rfl ?_
            obtain ⟨ftoldPeople_201, ftoldDoors_201, fwasDoors_201, ffault_201, fopen_201, flines_201, fmeantSet_201, fopenedNow_201, fvainNow_201, flowNow_201, fhighNow_201, fisKept_201, tad_201, pl0_201, le0_201, nu0_201, coy_201, wag_201, say_201, e_201, hntad_201, hnpl0_201, hnle0_201, hnnu0_201, hncoy_201, hnwag_201, hnsay_201⟩ := JR.get j_187 cm_100
            refine aw_get dX12_tried_105 fl_X12_324 e_201 (by omega) rfl ?_
            refine aw_istore_n (ls' := [some (.ref (b + 100)), some (.int (nI zn0)), some (.int (nI (z_178 + 30))), some (.int fvainNow_201)]) dX12_tried_108 (Nat.le_of_ble_eq_true rfl) rfl ?_
            refine aw_goto (tgt := 163) dX12_tried_109 (by decide) ?_
            refine aw_aload_n dX12_tried_163 rfl ?_
            refine aw_get dX12_tried_164 fl_X12_13 e_201 (by omega) rfl ?_
            refine aw_aload_n dX12_tried_167 rfl ?_
            refine aw_get dX12_tried_168 fl_X12_7 e_201 (by omega) rfl ?_
            refine aw_callSv (J' := jX12_copies) (As := [.ref (b + 102), .ref (b + 101)]) (st := []) dX12_tried_171 tb_1299 ok_X12_copies rfl (r_copiesK l D b N V_188 hN cl j_187.1 102 2 cm_102 101 1 cm_101 (by decide) (by decide)) rfl (Nat.le_of_ble_eq_true rfl) ⟨Nat.le_of_ble_eq_true rfl, Nat.le_of_ble_eq_true rfl, Nat.le_of_ble_eq_true rfl, Nat.le_of_ble_eq_true rfl⟩ (fun  N_206 V_205 q_207 => ?_)
            obtain ⟨h_203, rfl, q_202⟩ := q_207
            have j_204 := JR.trans j_187 (JR.weak q_202 (Sub.cons LM0 (by decide) (by decide) (by decide) (Or.inl rfl) Sub.nil))
            refine aw_iload_n dX12_tried_174 rfl ?_
            refine aw_ireti dX12_tried_175 rfl (Nat.le_of_ble_eq_true rfl) (Nat.le_of_ble_eq_true rfl) ?_
            exact ⟨((h_203 208 (by decide)).trans ((JR.fI q_185 (by decide) (by decide) (nfc (by omega) (nfc (by omega) (nfc (by omega) (nfc (by omega) (nfc (by omega) (nfc (by omega) (nfc (by omega) nf0)))))))).trans ((h_180 208 (by decide)).trans (Eq.refl (fI (V 101) 208))))), rfl, j_204⟩
          have nsw_200 : ¬ (z_178 + 30) = 1 := fun e => sw_200 (congrArg nI e)
          have tsw_192 : (nI (z_178 + 30)).toInt ≠ 0 := fx_tne sw_192
          have tsw_200 : (nI (z_178 + 30)).toInt ≠ 1 := fx_tne sw_200
          refine aw_lookup (off := 41) (tgt := 112) dX12_tried_71 (by decide) (by show Op.lookupswitch.offset [(0, 25), (1, 33)] 41 (nI (z_178 + 30)).toInt = 41; simp only [Op.lookupswitch.offset_cons, Op.lookupswitch.offset_nil]; rw [if_neg (Ne.symm tsw_192), if_neg (Ne.symm tsw_200)]) (by decide) ?_
          refine aw_iload_n dX12_tried_112 rfl ?_
          refine aw_bipush (v := 30) dX12_tried_113 (by decide) ?_
          refine aw_icmp_ge (tgt := 132) dX12_tried_115 (by decide) (fun c_208 => ?_) (fun c_208 => ?_)
          · skip
            have nc_208 : 30 ≤ (z_178 + 30) := (nI_leI (a := 30) (b := (z_178 + 30)) (by omega) (by omega)).mp c_208
            refine aw_iload_n dX12_tried_132 rfl ?_
            refine aw_bipush (v := 50) dX12_tried_133 (by decide) ?_
            refine aw_icmp_ge (tgt := 149) dX12_tried_135 (by decide) (fun c_209 => ?_) (fun c_209 => ?_)
            · skip
              have nc_209 : 50 ≤ (z_178 + 30) := (nI_leI (a := 50) (b := (z_178 + 30)) (by omega) (by omega)).mp c_209
              refine aw_aload_n dX12_tried_149 rfl ?_
              obtain ⟨ftoldPeople_210, ftoldDoors_210, fwasDoors_210, ffault_210, fopen_210, flines_210, fmeantSet_210, fopenedNow_210, fvainNow_210, flowNow_210, fhighNow_210, fisKept_210, tad_210, pl0_210, le0_210, nu0_210, coy_210, wag_210, say_210, e_210, hntad_210, hnpl0_210, hnle0_210, hnnu0_210, hncoy_210, hnwag_210, hnsay_210⟩ := JR.get j_187 cm_100
              refine aw_get dX12_tried_150 fl_X12_7 e_210 (by omega) rfl ?_
              refine aw_sipush (v := 192) dX12_tried_153 (by decide) ?_
              refine aw_iload_n dX12_tried_156 rfl ?_
              refine aw_iadd dX12_tried_157 ?_
              refine aw_eqi (y := nI (192 + (z_178 + 30))) (nI_add _ _) ?_
              refine aw_bipush (v := 50) dX12_tried_158 (by decide) ?_
              refine aw_isub dX12_tried_160 ?_
              refine aw_eqi (y := (nI ((192 + (z_178 + 30)) - 50))) (pk_sub (a := (192 + (z_178 + 30))) (b := 50) (by omega)) ?_
              obtain ⟨g_211, e_211⟩ := JR.get j_187 cm_101
              refine aw_iald (v := (g_211 ((192 + (z_178 + 30)) - 50))) dX12_tried_161 e_211 (by omega) (vp_in_nI (n := ((192 + (z_178 + 30)) - 50)) (by omega) (by omega)) (congrArg g_211 (nI_clamp (n := ((192 + (z_178 + 30)) - 50)) (by omega))) ?_
              refine aw_istore_n (ls' := [some (.ref (b + 100)), some (.int (nI zn0)), some (.int (nI (z_178 + 30))), some (.int (g_211 ((192 + (z_178 + 30)) - 50)))]) dX12_tried_162 (Nat.le_of_ble_eq_true rfl) rfl ?_
              refine aw_aload_n dX12_tried_163 rfl ?_
              refine aw_get dX12_tried_164 fl_X12_13 e_210 (by omega) rfl ?_
              refine aw_aload_n dX12_tried_167 rfl ?_
              refine aw_get dX12_tried_168 fl_X12_7 e_210 (by omega) rfl ?_
              refine aw_callSv (J' := jX12_copies) (As := [.ref (b + 102), .ref (b + 101)]) (st := []) dX12_tried_171 tb_1299 ok_X12_copies rfl (r_copiesK l D b N V_188 hN cl j_187.1 102 2 cm_102 101 1 cm_101 (by decide) (by decide)) rfl (Nat.le_of_ble_eq_true rfl) ⟨Nat.le_of_ble_eq_true rfl, Nat.le_of_ble_eq_true rfl, Nat.le_of_ble_eq_true rfl, Nat.le_of_ble_eq_true rfl⟩ (fun  N_216 V_215 q_217 => ?_)
              obtain ⟨h_213, rfl, q_212⟩ := q_217
              have j_214 := JR.trans j_187 (JR.weak q_212 (Sub.cons LM0 (by decide) (by decide) (by decide) (Or.inl rfl) Sub.nil))
              refine aw_iload_n dX12_tried_174 rfl ?_
              refine aw_ireti dX12_tried_175 rfl (Nat.le_of_ble_eq_true rfl) (Nat.le_of_ble_eq_true rfl) ?_
              exact ⟨((h_213 208 (by decide)).trans ((JR.fI q_185 (by decide) (by decide) (nfc (by omega) (nfc (by omega) (nfc (by omega) (nfc (by omega) (nfc (by omega) (nfc (by omega) (nfc (by omega) nf0)))))))).trans ((h_180 208 (by decide)).trans (Eq.refl (fI (V 101) 208))))), rfl, j_214⟩
            · skip
              have nc_209 : ¬ (50 ≤ (z_178 + 30)) := fun z => c_209 ((nI_leI (a := 50) (b := (z_178 + 30)) (by omega) (by omega)).mpr z)
              refine aw_aload_n dX12_tried_138 rfl ?_
              refine aw_iload_n dX12_tried_139 rfl ?_
              refine aw_bipush (v := 30) dX12_tried_140 (by decide) ?_
              refine aw_isub dX12_tried_142 ?_
              refine aw_eqi (y := (nI ((z_178 + 30) - 30))) (pk_sub (a := (z_178 + 30)) (b := 30) (by omega)) ?_
              obtain ⟨ftoldPeople_219, ftoldDoors_219, fwasDoors_219, ffault_219, fopen_219, flines_219, fmeantSet_219, fopenedNow_219, fvainNow_219, flowNow_219, fhighNow_219, fisKept_219, tad_219, pl0_219, le0_219, nu0_219, coy_219, wag_219, say_219, e_219, hntad_219, hnpl0_219, hnle0_219, hnnu0_219, hncoy_219, hnwag_219, hnsay_219⟩ := JR.get j_187 cm_100
              refine aw_callVi (J' := jX12_greatest) (As := [.int (nI ((z_178 + 30) - 30))]) (st := []) dX12_tried_143 tb_1388 ok_X12_greatest ⟨_, e_219⟩ (by omega) rfl rfl (r_greatest l D b N V_188 hN cl j_187.1 (nI ((z_178 + 30) - 30)) ⟨((z_178 + 30) - 30), by omega, rfl⟩) rfl (Nat.le_of_ble_eq_true rfl) ⟨Nat.le_of_ble_eq_true rfl, Nat.le_of_ble_eq_true rfl, Nat.le_of_ble_eq_true rfl, Nat.le_of_ble_eq_true rfl⟩ (fun r_220 N_221 V_222 q_223 => ?_)
              obtain ⟨rfl, rfl⟩ := q_223
              refine aw_goto (tgt := 162) dX12_tried_146 (by decide) ?_
              refine aw_istore_n (ls' := [some (.ref (b + 100)), some (.int (nI zn0)), some (.int (nI (z_178 + 30))), some (.int r_220)]) dX12_tried_162 (Nat.le_of_ble_eq_true rfl) rfl ?_
              refine aw_aload_n dX12_tried_163 rfl ?_
              refine aw_get dX12_tried_164 fl_X12_13 e_219 (by omega) rfl ?_
              refine aw_aload_n dX12_tried_167 rfl ?_
              refine aw_get dX12_tried_168 fl_X12_7 e_219 (by omega) rfl ?_
              refine aw_callSv (J' := jX12_copies) (As := [.ref (b + 102), .ref (b + 101)]) (st := []) dX12_tried_171 tb_1299 ok_X12_copies rfl (r_copiesK l D b N V_188 hN cl j_187.1 102 2 cm_102 101 1 cm_101 (by decide) (by decide)) rfl (Nat.le_of_ble_eq_true rfl) ⟨Nat.le_of_ble_eq_true rfl, Nat.le_of_ble_eq_true rfl, Nat.le_of_ble_eq_true rfl, Nat.le_of_ble_eq_true rfl⟩ (fun  N_228 V_227 q_229 => ?_)
              obtain ⟨h_225, rfl, q_224⟩ := q_229
              have j_226 := JR.trans j_187 (JR.weak q_224 (Sub.cons LM0 (by decide) (by decide) (by decide) (Or.inl rfl) Sub.nil))
              refine aw_iload_n dX12_tried_174 rfl ?_
              refine aw_ireti dX12_tried_175 rfl (Nat.le_of_ble_eq_true rfl) (Nat.le_of_ble_eq_true rfl) ?_
              exact ⟨((h_225 208 (by decide)).trans ((JR.fI q_185 (by decide) (by decide) (nfc (by omega) (nfc (by omega) (nfc (by omega) (nfc (by omega) (nfc (by omega) (nfc (by omega) (nfc (by omega) nf0)))))))).trans ((h_180 208 (by decide)).trans (Eq.refl (fI (V 101) 208))))), rfl, j_226⟩
          · skip
            have nc_208 : ¬ (30 ≤ (z_178 + 30)) := fun z => c_208 ((nI_leI (a := 30) (b := (z_178 + 30)) (by omega) (by omega)).mpr z)
            refine aw_aload_n dX12_tried_118 rfl ?_
            refine aw_iload_n dX12_tried_119 rfl ?_
            refine aw_bipush (v := 10) dX12_tried_120 (by decide) ?_
            refine aw_isub dX12_tried_122 ?_
            refine aw_eqi (y := (nI ((z_178 + 30) - 10))) (pk_sub (a := (z_178 + 30)) (b := 10) (by omega)) ?_
            obtain ⟨ftoldPeople_232, ftoldDoors_232, fwasDoors_232, ffault_232, fopen_232, flines_232, fmeantSet_232, fopenedNow_232, fvainNow_232, flowNow_232, fhighNow_232, fisKept_232, tad_232, pl0_232, le0_232, nu0_232, coy_232, wag_232, say_232, e_232, hntad_232, hnpl0_232, hnle0_232, hnnu0_232, hncoy_232, hnwag_232, hnsay_232⟩ := JR.get j_187 cm_100
            refine aw_callVi (J' := jX12_fearOf) (As := [.int (nI ((z_178 + 30) - 10))]) (st := []) dX12_tried_123 tb_1430 ok_X12_fearOf ⟨_, e_232⟩ (by omega) rfl rfl (r_fearOf l D b N V_188 hN cl j_187.1 (nI ((z_178 + 30) - 10)) ⟨((z_178 + 30) - 10), by omega, rfl⟩) rfl (Nat.le_of_ble_eq_true rfl) ⟨Nat.le_of_ble_eq_true rfl, Nat.le_of_ble_eq_true rfl, Nat.le_of_ble_eq_true rfl, Nat.le_of_ble_eq_true rfl⟩ (fun r_233 N_234 V_235 q_236 => ?_)
            obtain ⟨h_231, rfl, rfl⟩ := q_236
            refine aw_callSi (J' := jX12_orNone) (As := [.int r_233]) (st := []) dX12_tried_126 tb_1446 ok_X12_orNone rfl (r_orNone l D b N V_188 hN cl j_187.1 r_233) rfl (Nat.le_of_ble_eq_true rfl) ⟨Nat.le_of_ble_eq_true rfl, Nat.le_of_ble_eq_true rfl, Nat.le_of_ble_eq_true rfl, Nat.le_of_ble_eq_true rfl⟩ (fun r_238 N_239 V_240 q_241 => ?_)
            obtain ⟨rfl, rfl⟩ := q_241
            refine aw_goto (tgt := 162) dX12_tried_129 (by decide) ?_
            refine aw_istore_n (ls' := [some (.ref (b + 100)), some (.int (nI zn0)), some (.int (nI (z_178 + 30))), some (.int r_238)]) dX12_tried_162 (Nat.le_of_ble_eq_true rfl) rfl ?_
            refine aw_aload_n dX12_tried_163 rfl ?_
            refine aw_get dX12_tried_164 fl_X12_13 e_232 (by omega) rfl ?_
            refine aw_aload_n dX12_tried_167 rfl ?_
            refine aw_get dX12_tried_168 fl_X12_7 e_232 (by omega) rfl ?_
            refine aw_callSv (J' := jX12_copies) (As := [.ref (b + 102), .ref (b + 101)]) (st := []) dX12_tried_171 tb_1299 ok_X12_copies rfl (r_copiesK l D b N V_188 hN cl j_187.1 102 2 cm_102 101 1 cm_101 (by decide) (by decide)) rfl (Nat.le_of_ble_eq_true rfl) ⟨Nat.le_of_ble_eq_true rfl, Nat.le_of_ble_eq_true rfl, Nat.le_of_ble_eq_true rfl, Nat.le_of_ble_eq_true rfl⟩ (fun  N_246 V_245 q_247 => ?_)
            obtain ⟨h_243, rfl, q_242⟩ := q_247
            have j_244 := JR.trans j_187 (JR.weak q_242 (Sub.cons LM0 (by decide) (by decide) (by decide) (Or.inl rfl) Sub.nil))
            refine aw_iload_n dX12_tried_174 rfl ?_
            refine aw_ireti dX12_tried_175 rfl (Nat.le_of_ble_eq_true rfl) (Nat.le_of_ble_eq_true rfl) ?_
            exact ⟨((h_243 208 (by decide)).trans ((JR.fI q_185 (by decide) (by decide) (nfc (by omega) (nfc (by omega) (nfc (by omega) (nfc (by omega) (nfc (by omega) (nfc (by omega) (nfc (by omega) nf0)))))))).trans ((h_180 208 (by decide)).trans (Eq.refl (fI (V 101) 208))))), rfl, j_244⟩
        · skip
          refine aw_aload_n dX12_tried_41 rfl ?_
          refine aw_iload_n dX12_tried_42 rfl ?_
          refine aw_bipush (v := 50) dX12_tried_43 (by decide) ?_
          refine aw_isub dX12_tried_45 ?_
          refine aw_callVi (J' := jX12_isDoor) (As := [.int (n1 - 50)]) (st := []) dX12_tried_46 tb_1359 ok_X12_isDoor ⟨_, e_94⟩ (by omega) rfl rfl (r_isDoor l D b N V hN cl hJ0.1 (n1 - 50)) rfl (Nat.le_of_ble_eq_true rfl) ⟨Nat.le_of_ble_eq_true rfl, Nat.le_of_ble_eq_true rfl, Nat.le_of_ble_eq_true rfl, Nat.le_of_ble_eq_true rfl⟩ (fun r_251 N_252 V_253 q_254 => ?_)
          obtain ⟨⟨z_250, h_249⟩, rfl, rfl⟩ := q_254
          refine aw_if_ne (tgt := 54) dX12_tried_49 (by decide) (fun c_255 => ?_) (fun c_255 => ?_)
          · skip
            obtain ⟨z_256, hz_256, ez_256⟩ := h_249.resolve_left c_255
            obtain rfl : n1 = nI (z_256 + 50) := sub_eq ez_256
            refine aw_aload_n dX12_tried_54 rfl ?_
            refine aw_get dX12_tried_55 fl_X12_7 e_94 (by omega) rfl ?_
            refine aw_aload_n dX12_tried_58 rfl ?_
            refine aw_get dX12_tried_59 fl_X12_13 e_94 (by omega) rfl ?_
            refine aw_callSv (J' := jX12_copies) (As := [.ref (b + 101), .ref (b + 102)]) (st := []) dX12_tried_62 tb_1299 ok_X12_copies rfl (r_copiesK l D b N V hN cl hJ0.1 101 1 cm_101 102 2 cm_102 (by decide) (by decide)) rfl (Nat.le_of_ble_eq_true rfl) ⟨Nat.le_of_ble_eq_true rfl, Nat.le_of_ble_eq_true rfl, Nat.le_of_ble_eq_true rfl, Nat.le_of_ble_eq_true rfl⟩ (fun  N_261 V_260 q_262 => ?_)
            obtain ⟨h_258, rfl, q_257⟩ := q_262
            have j_259 := JR.trans hJ0 (JR.weak q_257 (Sub.cons LM0 (by decide) (by decide) (by decide) (Or.inl rfl) Sub.nil))
            refine aw_aload_n dX12_tried_65 rfl ?_
            refine aw_iload_n dX12_tried_66 rfl ?_
            obtain ⟨ftoldPeople_267, ftoldDoors_267, fwasDoors_267, ffault_267, fopen_267, flines_267, fmeantSet_267, fopenedNow_267, fvainNow_267, flowNow_267, fhighNow_267, fisKept_267, tad_267, pl0_267, le0_267, nu0_267, coy_267, wag_267, say_267, e_267, hntad_267, hnpl0_267, hnle0_267, hnnu0_267, hncoy_267, hnwag_267, hnsay_267⟩ := JR.get j_259 cm_100
            refine aw_callVv (J' := jX12_nightsGo) (As := [.int (nI zn0)]) (st := []) dX12_tried_67 tb_1371 ok_X12_nightsGo ⟨_, e_267⟩ (by omega) rfl rfl (r_nightsGoK l D b N V_260 hN cl j_259.1 (nI zn0) (WF.fr hwf j_259.2.2.1)) rfl (Nat.le_of_ble_eq_true rfl) ⟨Nat.le_of_ble_eq_true rfl, Nat.le_of_ble_eq_true rfl, Nat.le_of_ble_eq_true rfl, Nat.le_of_ble_eq_true rfl⟩ (fun  N_268 V_266 q_269 => ?_)
            obtain ⟨h_264, rfl, q_263⟩ := q_269
            have j_265 := JR.trans j_259 (JR.weak q_263 (Sub.cons (LMs LM0) (by decide) (by decide) (by decide) (Or.inl rfl) (Sub.cons (LMs (LMs LM0)) (by decide) (by decide) (by decide) (Or.inr ⟨by decide, by decide⟩) (Sub.cons (LMs (LMs (LMs LM0))) (by decide) (by decide) (by decide) (Or.inr ⟨by decide, by decide⟩) (Sub.cons LM0 (by decide) (by decide) (by decide) (Or.inl rfl) (Sub.cons LM0 (by decide) (by decide) (by decide) (Or.inl rfl) (Sub.cons LM0 (by decide) (by decide) (by decide) (Or.inl rfl) (Sub.cons LM0 (by decide) (by decide) (by decide) (Or.inl rfl) Sub.nil))))))))
            refine aw_iload_n dX12_tried_70 rfl ?_
            by_cases sw_270 : (nI (z_256 + 50)) = 0
            · skip
              refine aw_eqi sw_270 ?_
              refine aw_lookup (off := 25) (tgt := 96) dX12_tried_71 (by decide) (by decide) (by decide) ?_
              refine aw_aload_n dX12_tried_96 rfl ?_
              obtain ⟨ftoldPeople_271, ftoldDoors_271, fwasDoors_271, ffault_271, fopen_271, flines_271, fmeantSet_271, fopenedNow_271, fvainNow_271, flowNow_271, fhighNow_271, fisKept_271, tad_271, pl0_271, le0_271, nu0_271, coy_271, wag_271, say_271, e_271, hntad_271, hnpl0_271, hnle0_271, hnnu0_271, hncoy_271, hnwag_271, hnsay_271⟩ := JR.get j_265 cm_100
              refine aw_get dX12_tried_97 fl_X12_321 e_271 (by omega) rfl ?_
              refine aw_istore_n (ls' := [some (.ref (b + 100)), some (.int (nI zn0)), some (.int (nI (z_256 + 50))), some (.int fopenedNow_271)]) dX12_tried_100 (Nat.le_of_ble_eq_true rfl) rfl ?_
              refine aw_goto (tgt := 163) dX12_tried_101 (by decide) ?_
              refine aw_aload_n dX12_tried_163 rfl ?_
              refine aw_get dX12_tried_164 fl_X12_13 e_271 (by omega) rfl ?_
              refine aw_aload_n dX12_tried_167 rfl ?_
              refine aw_get dX12_tried_168 fl_X12_7 e_271 (by omega) rfl ?_
              refine aw_callSv (J' := jX12_copies) (As := [.ref (b + 102), .ref (b + 101)]) (st := []) dX12_tried_171 tb_1299 ok_X12_copies rfl (r_copiesK l D b N V_266 hN cl j_265.1 102 2 cm_102 101 1 cm_101 (by decide) (by decide)) rfl (Nat.le_of_ble_eq_true rfl) ⟨Nat.le_of_ble_eq_true rfl, Nat.le_of_ble_eq_true rfl, Nat.le_of_ble_eq_true rfl, Nat.le_of_ble_eq_true rfl⟩ (fun  N_276 V_275 q_277 => ?_)
              obtain ⟨h_273, rfl, q_272⟩ := q_277
              have j_274 := JR.trans j_265 (JR.weak q_272 (Sub.cons LM0 (by decide) (by decide) (by decide) (Or.inl rfl) Sub.nil))
              refine aw_iload_n dX12_tried_174 rfl ?_
              refine aw_ireti dX12_tried_175 rfl (Nat.le_of_ble_eq_true rfl) (Nat.le_of_ble_eq_true rfl) ?_
              exact ⟨((h_273 208 (by decide)).trans ((JR.fI q_263 (by decide) (by decide) (nfc (by omega) (nfc (by omega) (nfc (by omega) (nfc (by omega) (nfc (by omega) (nfc (by omega) (nfc (by omega) nf0)))))))).trans ((h_258 208 (by decide)).trans (Eq.refl (fI (V 101) 208))))), rfl, j_274⟩
            have nsw_270 : ¬ (z_256 + 50) = 0 := fun e => sw_270 (congrArg nI e)
            by_cases sw_278 : (nI (z_256 + 50)) = 1
            · skip
              refine aw_eqi sw_278 ?_
              refine aw_lookup (off := 33) (tgt := 104) dX12_tried_71 (by decide) (by decide) (by decide) ?_
              refine aw_aload_n dX12_tried_104 rfl ?_
              obtain ⟨ftoldPeople_279, ftoldDoors_279, fwasDoors_279, ffault_279, fopen_279, flines_279, fmeantSet_279, fopenedNow_279, fvainNow_279, flowNow_279, fhighNow_279, fisKept_279, tad_279, pl0_279, le0_279, nu0_279, coy_279, wag_279, say_279, e_279, hntad_279, hnpl0_279, hnle0_279, hnnu0_279, hncoy_279, hnwag_279, hnsay_279⟩ := JR.get j_265 cm_100
              refine aw_get dX12_tried_105 fl_X12_324 e_279 (by omega) rfl ?_
              refine aw_istore_n (ls' := [some (.ref (b + 100)), some (.int (nI zn0)), some (.int (nI (z_256 + 50))), some (.int fvainNow_279)]) dX12_tried_108 (Nat.le_of_ble_eq_true rfl) rfl ?_
              refine aw_goto (tgt := 163) dX12_tried_109 (by decide) ?_
              refine aw_aload_n dX12_tried_163 rfl ?_
              refine aw_get dX12_tried_164 fl_X12_13 e_279 (by omega) rfl ?_
              refine aw_aload_n dX12_tried_167 rfl ?_
              refine aw_get dX12_tried_168 fl_X12_7 e_279 (by omega) rfl ?_
              refine aw_callSv (J' := jX12_copies) (As := [.ref (b + 102), .ref (b + 101)]) (st := []) dX12_tried_171 tb_1299 ok_X12_copies rfl (r_copiesK l D b N V_266 hN cl j_265.1 102 2 cm_102 101 1 cm_101 (by decide) (by decide)) rfl (Nat.le_of_ble_eq_true rfl) ⟨Nat.le_of_ble_eq_true rfl, Nat.le_of_ble_eq_true rfl, Nat.le_of_ble_eq_true rfl, Nat.le_of_ble_eq_true rfl⟩ (fun  N_284 V_283 q_285 => ?_)
              obtain ⟨h_281, rfl, q_280⟩ := q_285
              have j_282 := JR.trans j_265 (JR.weak q_280 (Sub.cons LM0 (by decide) (by decide) (by decide) (Or.inl rfl) Sub.nil))
              refine aw_iload_n dX12_tried_174 rfl ?_
              refine aw_ireti dX12_tried_175 rfl (Nat.le_of_ble_eq_true rfl) (Nat.le_of_ble_eq_true rfl) ?_
              exact ⟨((h_281 208 (by decide)).trans ((JR.fI q_263 (by decide) (by decide) (nfc (by omega) (nfc (by omega) (nfc (by omega) (nfc (by omega) (nfc (by omega) (nfc (by omega) (nfc (by omega) nf0)))))))).trans ((h_258 208 (by decide)).trans (Eq.refl (fI (V 101) 208))))), rfl, j_282⟩
            have nsw_278 : ¬ (z_256 + 50) = 1 := fun e => sw_278 (congrArg nI e)
            have tsw_270 : (nI (z_256 + 50)).toInt ≠ 0 := fx_tne sw_270
            have tsw_278 : (nI (z_256 + 50)).toInt ≠ 1 := fx_tne sw_278
            refine aw_lookup (off := 41) (tgt := 112) dX12_tried_71 (by decide) (by show Op.lookupswitch.offset [(0, 25), (1, 33)] 41 (nI (z_256 + 50)).toInt = 41; simp only [Op.lookupswitch.offset_cons, Op.lookupswitch.offset_nil]; rw [if_neg (Ne.symm tsw_270), if_neg (Ne.symm tsw_278)]) (by decide) ?_
            refine aw_iload_n dX12_tried_112 rfl ?_
            refine aw_bipush (v := 30) dX12_tried_113 (by decide) ?_
            refine aw_icmp_ge (tgt := 132) dX12_tried_115 (by decide) (fun c_286 => ?_) (fun c_286 => ?_)
            · skip
              have nc_286 : 30 ≤ (z_256 + 50) := (nI_leI (a := 30) (b := (z_256 + 50)) (by omega) (by omega)).mp c_286
              refine aw_iload_n dX12_tried_132 rfl ?_
              refine aw_bipush (v := 50) dX12_tried_133 (by decide) ?_
              refine aw_icmp_ge (tgt := 149) dX12_tried_135 (by decide) (fun c_287 => ?_) (fun c_287 => ?_)
              · skip
                have nc_287 : 50 ≤ (z_256 + 50) := (nI_leI (a := 50) (b := (z_256 + 50)) (by omega) (by omega)).mp c_287
                refine aw_aload_n dX12_tried_149 rfl ?_
                obtain ⟨ftoldPeople_288, ftoldDoors_288, fwasDoors_288, ffault_288, fopen_288, flines_288, fmeantSet_288, fopenedNow_288, fvainNow_288, flowNow_288, fhighNow_288, fisKept_288, tad_288, pl0_288, le0_288, nu0_288, coy_288, wag_288, say_288, e_288, hntad_288, hnpl0_288, hnle0_288, hnnu0_288, hncoy_288, hnwag_288, hnsay_288⟩ := JR.get j_265 cm_100
                refine aw_get dX12_tried_150 fl_X12_7 e_288 (by omega) rfl ?_
                refine aw_sipush (v := 192) dX12_tried_153 (by decide) ?_
                refine aw_iload_n dX12_tried_156 rfl ?_
                refine aw_iadd dX12_tried_157 ?_
                refine aw_eqi (y := nI (192 + (z_256 + 50))) (nI_add _ _) ?_
                refine aw_bipush (v := 50) dX12_tried_158 (by decide) ?_
                refine aw_isub dX12_tried_160 ?_
                refine aw_eqi (y := (nI ((192 + (z_256 + 50)) - 50))) (pk_sub (a := (192 + (z_256 + 50))) (b := 50) (by omega)) ?_
                obtain ⟨g_289, e_289⟩ := JR.get j_265 cm_101
                refine aw_iald (v := (g_289 ((192 + (z_256 + 50)) - 50))) dX12_tried_161 e_289 (by omega) (vp_in_nI (n := ((192 + (z_256 + 50)) - 50)) (by omega) (by omega)) (congrArg g_289 (nI_clamp (n := ((192 + (z_256 + 50)) - 50)) (by omega))) ?_
                refine aw_istore_n (ls' := [some (.ref (b + 100)), some (.int (nI zn0)), some (.int (nI (z_256 + 50))), some (.int (g_289 ((192 + (z_256 + 50)) - 50)))]) dX12_tried_162 (Nat.le_of_ble_eq_true rfl) rfl ?_
                refine aw_aload_n dX12_tried_163 rfl ?_
                refine aw_get dX12_tried_164 fl_X12_13 e_288 (by omega) rfl ?_
                refine aw_aload_n dX12_tried_167 rfl ?_
                refine aw_get dX12_tried_168 fl_X12_7 e_288 (by omega) rfl ?_
                refine aw_callSv (J' := jX12_copies) (As := [.ref (b + 102), .ref (b + 101)]) (st := []) dX12_tried_171 tb_1299 ok_X12_copies rfl (r_copiesK l D b N V_266 hN cl j_265.1 102 2 cm_102 101 1 cm_101 (by decide) (by decide)) rfl (Nat.le_of_ble_eq_true rfl) ⟨Nat.le_of_ble_eq_true rfl, Nat.le_of_ble_eq_true rfl, Nat.le_of_ble_eq_true rfl, Nat.le_of_ble_eq_true rfl⟩ (fun  N_294 V_293 q_295 => ?_)
                obtain ⟨h_291, rfl, q_290⟩ := q_295
                have j_292 := JR.trans j_265 (JR.weak q_290 (Sub.cons LM0 (by decide) (by decide) (by decide) (Or.inl rfl) Sub.nil))
                refine aw_iload_n dX12_tried_174 rfl ?_
                refine aw_ireti dX12_tried_175 rfl (Nat.le_of_ble_eq_true rfl) (Nat.le_of_ble_eq_true rfl) ?_
                exact ⟨((h_291 208 (by decide)).trans ((JR.fI q_263 (by decide) (by decide) (nfc (by omega) (nfc (by omega) (nfc (by omega) (nfc (by omega) (nfc (by omega) (nfc (by omega) (nfc (by omega) nf0)))))))).trans ((h_258 208 (by decide)).trans (Eq.refl (fI (V 101) 208))))), rfl, j_292⟩
              · skip
                have nc_287 : ¬ (50 ≤ (z_256 + 50)) := fun z => c_287 ((nI_leI (a := 50) (b := (z_256 + 50)) (by omega) (by omega)).mpr z)
                refine aw_aload_n dX12_tried_138 rfl ?_
                refine aw_iload_n dX12_tried_139 rfl ?_
                refine aw_bipush (v := 30) dX12_tried_140 (by decide) ?_
                refine aw_isub dX12_tried_142 ?_
                refine aw_eqi (y := (nI ((z_256 + 50) - 30))) (pk_sub (a := (z_256 + 50)) (b := 30) (by omega)) ?_
                obtain ⟨ftoldPeople_297, ftoldDoors_297, fwasDoors_297, ffault_297, fopen_297, flines_297, fmeantSet_297, fopenedNow_297, fvainNow_297, flowNow_297, fhighNow_297, fisKept_297, tad_297, pl0_297, le0_297, nu0_297, coy_297, wag_297, say_297, e_297, hntad_297, hnpl0_297, hnle0_297, hnnu0_297, hncoy_297, hnwag_297, hnsay_297⟩ := JR.get j_265 cm_100
                refine aw_callVi (J' := jX12_greatest) (As := [.int (nI ((z_256 + 50) - 30))]) (st := []) dX12_tried_143 tb_1388 ok_X12_greatest ⟨_, e_297⟩ (by omega) rfl rfl (r_greatest l D b N V_266 hN cl j_265.1 (nI ((z_256 + 50) - 30)) ⟨((z_256 + 50) - 30), by omega, rfl⟩) rfl (Nat.le_of_ble_eq_true rfl) ⟨Nat.le_of_ble_eq_true rfl, Nat.le_of_ble_eq_true rfl, Nat.le_of_ble_eq_true rfl, Nat.le_of_ble_eq_true rfl⟩ (fun r_298 N_299 V_300 q_301 => ?_)
                obtain ⟨rfl, rfl⟩ := q_301
                refine aw_goto (tgt := 162) dX12_tried_146 (by decide) ?_
                refine aw_istore_n (ls' := [some (.ref (b + 100)), some (.int (nI zn0)), some (.int (nI (z_256 + 50))), some (.int r_298)]) dX12_tried_162 (Nat.le_of_ble_eq_true rfl) rfl ?_
                refine aw_aload_n dX12_tried_163 rfl ?_
                refine aw_get dX12_tried_164 fl_X12_13 e_297 (by omega) rfl ?_
                refine aw_aload_n dX12_tried_167 rfl ?_
                refine aw_get dX12_tried_168 fl_X12_7 e_297 (by omega) rfl ?_
                refine aw_callSv (J' := jX12_copies) (As := [.ref (b + 102), .ref (b + 101)]) (st := []) dX12_tried_171 tb_1299 ok_X12_copies rfl (r_copiesK l D b N V_266 hN cl j_265.1 102 2 cm_102 101 1 cm_101 (by decide) (by decide)) rfl (Nat.le_of_ble_eq_true rfl) ⟨Nat.le_of_ble_eq_true rfl, Nat.le_of_ble_eq_true rfl, Nat.le_of_ble_eq_true rfl, Nat.le_of_ble_eq_true rfl⟩ (fun  N_306 V_305 q_307 => ?_)
                obtain ⟨h_303, rfl, q_302⟩ := q_307
                have j_304 := JR.trans j_265 (JR.weak q_302 (Sub.cons LM0 (by decide) (by decide) (by decide) (Or.inl rfl) Sub.nil))
                refine aw_iload_n dX12_tried_174 rfl ?_
                refine aw_ireti dX12_tried_175 rfl (Nat.le_of_ble_eq_true rfl) (Nat.le_of_ble_eq_true rfl) ?_
                exact ⟨((h_303 208 (by decide)).trans ((JR.fI q_263 (by decide) (by decide) (nfc (by omega) (nfc (by omega) (nfc (by omega) (nfc (by omega) (nfc (by omega) (nfc (by omega) (nfc (by omega) nf0)))))))).trans ((h_258 208 (by decide)).trans (Eq.refl (fI (V 101) 208))))), rfl, j_304⟩
            · skip
              have nc_286 : ¬ (30 ≤ (z_256 + 50)) := fun z => c_286 ((nI_leI (a := 30) (b := (z_256 + 50)) (by omega) (by omega)).mpr z)
              refine aw_aload_n dX12_tried_118 rfl ?_
              refine aw_iload_n dX12_tried_119 rfl ?_
              refine aw_bipush (v := 10) dX12_tried_120 (by decide) ?_
              refine aw_isub dX12_tried_122 ?_
              refine aw_eqi (y := (nI ((z_256 + 50) - 10))) (pk_sub (a := (z_256 + 50)) (b := 10) (by omega)) ?_
              obtain ⟨ftoldPeople_310, ftoldDoors_310, fwasDoors_310, ffault_310, fopen_310, flines_310, fmeantSet_310, fopenedNow_310, fvainNow_310, flowNow_310, fhighNow_310, fisKept_310, tad_310, pl0_310, le0_310, nu0_310, coy_310, wag_310, say_310, e_310, hntad_310, hnpl0_310, hnle0_310, hnnu0_310, hncoy_310, hnwag_310, hnsay_310⟩ := JR.get j_265 cm_100
              refine aw_callVi (J' := jX12_fearOf) (As := [.int (nI ((z_256 + 50) - 10))]) (st := []) dX12_tried_123 tb_1430 ok_X12_fearOf ⟨_, e_310⟩ (by omega) rfl rfl (r_fearOf l D b N V_266 hN cl j_265.1 (nI ((z_256 + 50) - 10)) ⟨((z_256 + 50) - 10), by omega, rfl⟩) rfl (Nat.le_of_ble_eq_true rfl) ⟨Nat.le_of_ble_eq_true rfl, Nat.le_of_ble_eq_true rfl, Nat.le_of_ble_eq_true rfl, Nat.le_of_ble_eq_true rfl⟩ (fun r_311 N_312 V_313 q_314 => ?_)
              obtain ⟨h_309, rfl, rfl⟩ := q_314
              refine aw_callSi (J' := jX12_orNone) (As := [.int r_311]) (st := []) dX12_tried_126 tb_1446 ok_X12_orNone rfl (r_orNone l D b N V_266 hN cl j_265.1 r_311) rfl (Nat.le_of_ble_eq_true rfl) ⟨Nat.le_of_ble_eq_true rfl, Nat.le_of_ble_eq_true rfl, Nat.le_of_ble_eq_true rfl, Nat.le_of_ble_eq_true rfl⟩ (fun r_316 N_317 V_318 q_319 => ?_)
              obtain ⟨rfl, rfl⟩ := q_319
              refine aw_goto (tgt := 162) dX12_tried_129 (by decide) ?_
              refine aw_istore_n (ls' := [some (.ref (b + 100)), some (.int (nI zn0)), some (.int (nI (z_256 + 50))), some (.int r_316)]) dX12_tried_162 (Nat.le_of_ble_eq_true rfl) rfl ?_
              refine aw_aload_n dX12_tried_163 rfl ?_
              refine aw_get dX12_tried_164 fl_X12_13 e_310 (by omega) rfl ?_
              refine aw_aload_n dX12_tried_167 rfl ?_
              refine aw_get dX12_tried_168 fl_X12_7 e_310 (by omega) rfl ?_
              refine aw_callSv (J' := jX12_copies) (As := [.ref (b + 102), .ref (b + 101)]) (st := []) dX12_tried_171 tb_1299 ok_X12_copies rfl (r_copiesK l D b N V_266 hN cl j_265.1 102 2 cm_102 101 1 cm_101 (by decide) (by decide)) rfl (Nat.le_of_ble_eq_true rfl) ⟨Nat.le_of_ble_eq_true rfl, Nat.le_of_ble_eq_true rfl, Nat.le_of_ble_eq_true rfl, Nat.le_of_ble_eq_true rfl⟩ (fun  N_324 V_323 q_325 => ?_)
              obtain ⟨h_321, rfl, q_320⟩ := q_325
              have j_322 := JR.trans j_265 (JR.weak q_320 (Sub.cons LM0 (by decide) (by decide) (by decide) (Or.inl rfl) Sub.nil))
              refine aw_iload_n dX12_tried_174 rfl ?_
              refine aw_ireti dX12_tried_175 rfl (Nat.le_of_ble_eq_true rfl) (Nat.le_of_ble_eq_true rfl) ?_
              exact ⟨((h_321 208 (by decide)).trans ((JR.fI q_263 (by decide) (by decide) (nfc (by omega) (nfc (by omega) (nfc (by omega) (nfc (by omega) (nfc (by omega) (nfc (by omega) (nfc (by omega) nf0)))))))).trans ((h_258 208 (by decide)).trans (Eq.refl (fI (V 101) 208))))), rfl, j_322⟩
          · skip
            refine aw_iconst (v := (-1)) dX12_tried_52 (by decide) ?_
            refine aw_ireti dX12_tried_53 rfl (Nat.le_of_ble_eq_true rfl) (Nat.le_of_ble_eq_true rfl) ?_
            exact ⟨(Eq.refl (fI (V 101) 208)), rfl, hJ0⟩

set_option maxHeartbeats 4000000 in
set_option maxRecDepth 100000 in
theorem r_keepK (l : Launch) (D : va_G) (b : Nat) (N : Nat) (V : Wd) (hN : 133 ≤ N) (cl : Nat) (hW : CR D b cl V)   : MI l D b 1 jX12_keep [.ref (b + 100)] N V 0 0 (fun r N9 V9 => (r = fI (V 101) 208 ∧ fI (V9 103) 208 = fI (V 101) 208 ∧ fI (V9 100) 51 = 1) ∧ N = N9 ∧ JR D b N cl [(103, 103, 0, 1000000), (100, 100, 51, 51)] V V9) := by
  have hJ0 : JR D b N cl [(103, 103, 0, 1000000), (100, 100, 51, 51)] V V := JR.rf hW
  refine mw_of (by decide) (by simp [Value.category]) (Nat.le_of_ble_eq_true rfl) ?_
  show AW l D b jX12_keep (fx_rm 1 0 0) none (fx_MQ D b 0 0 (fx_qi (fun r N9 V9 => (r = fI (V 101) 208 ∧ fI (V9 103) 208 = fI (V 101) 208 ∧ fI (V9 100) 51 = 1) ∧ N = N9 ∧ JR D b N cl [(103, 103, 0, 1000000), (100, 100, 51, 51)] V V9))) 0 [some (.ref (b + 100))] [] N V 0 0
  refine aw_aload_n dX12_keep_0 rfl ?_
  refine aw_iconst (v := 1) dX12_keep_1 (by decide) ?_
  obtain ⟨ftoldPeople_1, ftoldDoors_1, fwasDoors_1, ffault_1, fopen_1, flines_1, fmeantSet_1, fopenedNow_1, fvainNow_1, flowNow_1, fhighNow_1, fisKept_1, tad_1, pl0_1, le0_1, nu0_1, coy_1, wag_1, say_1, e_1, hntad_1, hnpl0_1, hnle0_1, hnnu0_1, hncoy_1, hnwag_1, hnsay_1⟩ := JR.get hJ0 cm_100
  refine aw_put dX12_keep_2 fp_X12_424 e_1 (by omega) (by decide) rfl (Nat.le_of_ble_eq_true rfl) rfl ?_
  refine aw_upR hJ0 cm_100 ⟨_, _, _, _, _, _, _, _, _, _, _, _, tad_1, pl0_1, le0_1, nu0_1, coy_1, wag_1, say_1, rfl, by omega, by omega, by omega, by omega, by omega, by omega, by omega⟩ (by decide) (WO (s := 51) (x := .int 1) e_1 rfl (LMs LM0) (by decide) (by decide) (by decide) (Or.inl (by decide))) (fun V_2 j_2 k_2 e_2 => ?_)
  refine aw_aload_n dX12_keep_5 rfl ?_
  refine aw_get dX12_keep_6 fl_X12_7 e_2 (by omega) rfl ?_
  refine aw_aload_n dX12_keep_9 rfl ?_
  refine aw_get dX12_keep_10 fl_X12_16 e_2 (by omega) rfl ?_
  refine aw_callSv (J' := jX12_copies) (As := [.ref (b + 101), .ref (b + 103)]) (st := []) dX12_keep_13 tb_1299 ok_X12_copies rfl (r_copiesK l D b N V_2 hN cl j_2.1 101 1 cm_101 103 3 cm_103 (by decide) (by decide)) rfl (Nat.le_of_ble_eq_true rfl) ⟨Nat.le_of_ble_eq_true rfl, Nat.le_of_ble_eq_true rfl, Nat.le_of_ble_eq_true rfl, Nat.le_of_ble_eq_true rfl⟩ (fun  N_7 V_6 q_8 => ?_)
  obtain ⟨h_4, rfl, q_3⟩ := q_8
  have j_5 := JR.trans j_2 (JR.weak q_3 (Sub.cons LM0 (by decide) (by decide) (by decide) (Or.inl rfl) Sub.nil))
  refine aw_aload_n dX12_keep_16 rfl ?_
  obtain ⟨ftoldPeople_9, ftoldDoors_9, fwasDoors_9, ffault_9, fopen_9, flines_9, fmeantSet_9, fopenedNow_9, fvainNow_9, flowNow_9, fhighNow_9, fisKept_9, tad_9, pl0_9, le0_9, nu0_9, coy_9, wag_9, say_9, e_9, hntad_9, hnpl0_9, hnle0_9, hnnu0_9, hncoy_9, hnwag_9, hnsay_9⟩ := JR.get j_5 cm_100
  refine aw_get dX12_keep_17 fl_X12_7 e_9 (by omega) rfl ?_
  refine aw_sipush (v := 208) dX12_keep_20 (by decide) ?_
  obtain ⟨g_10, e_10⟩ := JR.get j_5 cm_101
  refine aw_iald (v := (g_10 208)) dX12_keep_23 e_10 (by omega) (vp_in_nI (n := 208) (N := 210) (by decide) (by decide)) (congrArg g_10 (nI_clamp (n := 208) (by omega))) ?_
  refine aw_eqi (y := (fI (V 101) 208)) ((Eq.symm (congrArg (fun z => fI z 208) e_10)).trans ((JR.fI q_3 (by decide) (by decide) (nfc (by omega) nf0)).trans (KA (s := 51) (x := .int 1) e_1 rfl (by decide) e_2 k_2 (Eq.refl (fI (V 101) 208))))) ?_
  refine aw_ireti dX12_keep_24 rfl (Nat.le_of_ble_eq_true rfl) (Nat.le_of_ble_eq_true rfl) ?_
  exact ⟨⟨rfl, ((h_4 208 (by decide)).trans (KA (s := 51) (x := .int 1) e_1 rfl (by decide) e_2 k_2 (Eq.refl (fI (V 101) 208)))), ((JR.fI q_3 (by decide) (by decide) (nfc (by omega) nf0)).trans ((congrArg (fun z => fI z 51) e_2).trans rfl))⟩, rfl, j_5⟩

set_option maxHeartbeats 4000000 in
set_option maxRecDepth 100000 in
theorem r_undoK (l : Launch) (D : va_G) (b : Nat) (N : Nat) (V : Wd) (hN : 133 ≤ N) (cl : Nat) (hW : CR D b cl V)   : MI l D b 1 jX12_undo [.ref (b + 100)] N V 0 0 (fun r N9 V9 => ((r = 0 ∨ r = 1) ∧ (UND (fI (V 100) 51) (fI (V 101) 208) (fI (V 103) 208) r (fI (V9 101) 208))) ∧ N = N9 ∧ JR D b N cl [(101, 101, 0, 1000000)] V V9) := by
  have hJ0 : JR D b N cl [(101, 101, 0, 1000000)] V V := JR.rf hW
  refine mw_of (by decide) (by simp [Value.category]) (Nat.le_of_ble_eq_true rfl) ?_
  show AW l D b jX12_undo (fx_rm 1 0 0) none (fx_MQ D b 0 0 (fx_qi (fun r N9 V9 => ((r = 0 ∨ r = 1) ∧ (UND (fI (V 100) 51) (fI (V 101) 208) (fI (V 103) 208) r (fI (V9 101) 208))) ∧ N = N9 ∧ JR D b N cl [(101, 101, 0, 1000000)] V V9))) 0 [some (.ref (b + 100))] [] N V 0 0
  refine aw_aload_n dX12_undo_0 rfl ?_
  obtain ⟨ftoldPeople_1, ftoldDoors_1, fwasDoors_1, ffault_1, fopen_1, flines_1, fmeantSet_1, fopenedNow_1, fvainNow_1, flowNow_1, fhighNow_1, fisKept_1, tad_1, pl0_1, le0_1, nu0_1, coy_1, wag_1, say_1, e_1, hntad_1, hnpl0_1, hnle0_1, hnnu0_1, hncoy_1, hnwag_1, hnsay_1⟩ := JR.get hJ0 cm_100
  refine aw_get dX12_undo_1 fl_X12_424 e_1 (by omega) rfl ?_
  refine aw_eqi (y := (fI (V 100) 51)) ((Eq.symm (congrArg (fun z => fI z 51) e_1)).trans (Eq.refl (fI (V 100) 51))) ?_
  refine aw_if_ne (tgt := 9) dX12_undo_4 (by decide) (fun c_2 => ?_) (fun c_2 => ?_)
  · skip
    refine aw_aload_n dX12_undo_9 rfl ?_
    refine aw_get dX12_undo_10 fl_X12_16 e_1 (by omega) rfl ?_
    refine aw_aload_n dX12_undo_13 rfl ?_
    refine aw_get dX12_undo_14 fl_X12_7 e_1 (by omega) rfl ?_
    refine aw_callSv (J' := jX12_copies) (As := [.ref (b + 103), .ref (b + 101)]) (st := []) dX12_undo_17 tb_1299 ok_X12_copies rfl (r_copiesK l D b N V hN cl hJ0.1 103 3 cm_103 101 1 cm_101 (by decide) (by decide)) rfl (Nat.le_of_ble_eq_true rfl) ⟨Nat.le_of_ble_eq_true rfl, Nat.le_of_ble_eq_true rfl, Nat.le_of_ble_eq_true rfl, Nat.le_of_ble_eq_true rfl⟩ (fun  N_7 V_6 q_8 => ?_)
    obtain ⟨h_4, rfl, q_3⟩ := q_8
    have j_5 := JR.trans hJ0 (JR.weak q_3 (Sub.cons LM0 (by decide) (by decide) (by decide) (Or.inl rfl) Sub.nil))
    refine aw_iconst (v := 1) dX12_undo_20 (by decide) ?_
    refine aw_zreti dX12_undo_21 rfl (by first | exact Or.inl rfl | exact Or.inr rfl | assumption) (Nat.le_of_ble_eq_true rfl) (Nat.le_of_ble_eq_true rfl) ?_
    exact ⟨⟨(by first | exact Or.inl rfl | exact Or.inr rfl | assumption), Or.inr ⟨rfl, c_2, ((h_4 208 (by decide)).trans (Eq.refl (fI (V 103) 208)))⟩⟩, rfl, j_5⟩
  · skip
    refine aw_iconst (v := 0) dX12_undo_7 (by decide) ?_
    refine aw_zreti dX12_undo_8 rfl (by first | exact Or.inl rfl | exact Or.inr rfl | assumption) (Nat.le_of_ble_eq_true rfl) (Nat.le_of_ble_eq_true rfl) ?_
    exact ⟨⟨(by first | exact Or.inl rfl | exact Or.inr rfl | assumption), Or.inl ⟨rfl, by first | exact c_2 | exact Decidable.not_not.mp c_2, (Eq.refl (fI (V 101) 208))⟩⟩, rfl, hJ0⟩

set_option maxHeartbeats 4000000 in
set_option maxRecDepth 100000 in
theorem r_dreadsK (l : Launch) (D : va_G) (b : Nat) (N : Nat) (V : Wd) (hN : 133 ≤ N) (cl : Nat) (hW : CR D b cl V) (n0 : Int32) (n1 : Int32) (m0 : Int32) (m1 : Int32) (hm : m0 = n0 ∧ m1 = n1) : MI l D b 4 jX12_dreads [.ref (b + 100), .int n0, .int n1] N V 0 0 (fun r N9 V9 => (TKS (cDr m0 m1 (fI (V 100) 13)) (fI (V 100) 13) (fI (V9 100) 13) ∧ fI (V9 101) 208 = fI (V 101) 208) ∧ N = N9 ∧ JR D b N cl [(101, 102, 0, 1000000), (100, 100, 14, 14), (100, 100, 15, 15), (100, 100, 19, 19), (100, 100, 21, 21), (100, 100, 36, 36), (100, 100, 37, 37), (100, 100, 16, 16), (100, 100, 17, 17), (100, 100, 13, 13), (100, 100, 9, 9)] V V9) := by
  have hJ0 : JR D b N cl [(101, 102, 0, 1000000), (100, 100, 14, 14), (100, 100, 15, 15), (100, 100, 19, 19), (100, 100, 21, 21), (100, 100, 36, 36), (100, 100, 37, 37), (100, 100, 16, 16), (100, 100, 17, 17), (100, 100, 13, 13), (100, 100, 9, 9)] V V := JR.rf hW
  refine mw_of (by decide) (by simp [Value.category]) (Nat.le_of_ble_eq_true rfl) ?_
  show AW l D b jX12_dreads (fx_rm 4 0 0) none (fx_MQ D b 0 0 (fx_qi (fun r N9 V9 => (TKS (cDr m0 m1 (fI (V 100) 13)) (fI (V 100) 13) (fI (V9 100) 13) ∧ fI (V9 101) 208 = fI (V 101) 208) ∧ N = N9 ∧ JR D b N cl [(101, 102, 0, 1000000), (100, 100, 14, 14), (100, 100, 15, 15), (100, 100, 19, 19), (100, 100, 21, 21), (100, 100, 36, 36), (100, 100, 37, 37), (100, 100, 16, 16), (100, 100, 17, 17), (100, 100, 13, 13), (100, 100, 9, 9)] V V9))) 0 [some (.ref (b + 100)), some (.int n0), some (.int n1), none] [] N V 0 0
  obtain ⟨ftoldPeople_1, ftoldDoors_1, fwasDoors_1, ffault_1, fopen_1, flines_1, fmeantSet_1, fopenedNow_1, fvainNow_1, flowNow_1, fhighNow_1, fisKept_1, tad_1, pl0_1, le0_1, nu0_1, coy_1, wag_1, say_1, e_1, hntad_1, hnpl0_1, hnle0_1, hnnu0_1, hncoy_1, hnwag_1, hnsay_1⟩ := JR.get hJ0 cm_100
  have hta0 : fI (V 100) 13 = nI tad_1 := ((congrArg (fun z => fI z 13) e_1).trans rfl)
  refine aw_iload_n dX12_dreads_0 rfl ?_
  refine aw_iconst (v := 0) dX12_dreads_1 (by decide) ?_
  refine aw_bipush (v := 11) dX12_dreads_2 (by decide) ?_
  refine aw_callSi (J' := jX12_in) (As := [.int n0, .int 0, .int 11]) (st := []) dX12_dreads_4 tb_1209 ok_X12_in rfl (r_inK l D b N V hN cl hJ0.1 n0 0 11) rfl (Nat.le_of_ble_eq_true rfl) ⟨Nat.le_of_ble_eq_true rfl, Nat.le_of_ble_eq_true rfl, Nat.le_of_ble_eq_true rfl, Nat.le_of_ble_eq_true rfl⟩ (fun r_7 N_8 V_9 q_10 => ?_)
  obtain ⟨⟨z_4, h_3⟩, rfl, rfl⟩ := q_10
  obtain ⟨hi_5, hi_6⟩ := h_3
  refine aw_if_eq (tgt := 28) dX12_dreads_7 (by decide) (fun c_11 => ?_) (fun c_11 => ?_)
  · skip
    refine aw_iconst (v := (-1)) dX12_dreads_28 (by decide) ?_
    refine aw_ireti dX12_dreads_29 rfl (Nat.le_of_ble_eq_true rfl) (Nat.le_of_ble_eq_true rfl) ?_
    exact ⟨⟨Or.inr ⟨(by have zhi_6 := hi_6 c_11; have zt := fx_nIt (n := tad_1) (by omega); have e0 : (0 : Int32).toInt = 0 := (by decide); have e1 : (1 : Int32).toInt = 1 := (by decide); have e11 : (11 : Int32).toInt = 11 := (by decide); have e120 : (120 : Int32).toInt = 120 := (by decide); have q0 := zhi_6; have q1 := hm.1; have q2 := hm.2; have q3 := hta0; simp only [cDr, ← Int32.toInt_inj, Int32.le_iff_toInt_le, Int32.lt_iff_toInt_lt] at q0 q1 q2 q3 ⊢; omega), (Eq.refl (fI (V 100) 13))⟩, (Eq.refl (fI (V 101) 208))⟩, rfl, hJ0⟩
  · skip
    obtain ⟨zn0, h0zn0, hzn0, rfl⟩ := in_nat (a := 0) (b := 11) (by decide) (hi_5.resolve_left c_11)
    refine aw_iload_n dX12_dreads_10 rfl ?_
    refine aw_iconst (v := 1) dX12_dreads_11 (by decide) ?_
    refine aw_bipush (v := 120) dX12_dreads_12 (by decide) ?_
    refine aw_callSi (J' := jX12_in) (As := [.int n1, .int 1, .int 120]) (st := []) dX12_dreads_14 tb_1209 ok_X12_in rfl (r_inK l D b N V hN cl hJ0.1 n1 1 120) rfl (Nat.le_of_ble_eq_true rfl) ⟨Nat.le_of_ble_eq_true rfl, Nat.le_of_ble_eq_true rfl, Nat.le_of_ble_eq_true rfl, Nat.le_of_ble_eq_true rfl⟩ (fun r_17 N_18 V_19 q_20 => ?_)
    obtain ⟨⟨z_14, h_13⟩, rfl, rfl⟩ := q_20
    obtain ⟨hi_15, hi_16⟩ := h_13
    refine aw_if_eq (tgt := 28) dX12_dreads_17 (by decide) (fun c_21 => ?_) (fun c_21 => ?_)
    · skip
      refine aw_iconst (v := (-1)) dX12_dreads_28 (by decide) ?_
      refine aw_ireti dX12_dreads_29 rfl (Nat.le_of_ble_eq_true rfl) (Nat.le_of_ble_eq_true rfl) ?_
      exact ⟨⟨Or.inr ⟨(by have zhi_16 := hi_16 c_21; have zhi_5 := hi_5.resolve_left c_11; have zzzn0 := fx_nIt (n := zn0) (by omega); have zt := fx_nIt (n := tad_1) (by omega); have e0 : (0 : Int32).toInt = 0 := (by decide); have e1 : (1 : Int32).toInt = 1 := (by decide); have e11 : (11 : Int32).toInt = 11 := (by decide); have e120 : (120 : Int32).toInt = 120 := (by decide); have q0 := zhi_16; have q1 := zhi_5; have q2 := hm.1; have q3 := hm.2; have q4 := hta0; simp only [cDr, ← Int32.toInt_inj, Int32.le_iff_toInt_le, Int32.lt_iff_toInt_lt] at q0 q1 q2 q3 q4 ⊢; omega), (Eq.refl (fI (V 100) 13))⟩, (Eq.refl (fI (V 101) 208))⟩, rfl, hJ0⟩
    · skip
      obtain ⟨zn1, h0zn1, hzn1, rfl⟩ := in_nat (a := 1) (b := 120) (by decide) (hi_15.resolve_left c_21)
      refine aw_iload_n dX12_dreads_20 rfl ?_
      refine aw_aload_n dX12_dreads_21 rfl ?_
      refine aw_get dX12_dreads_22 fl_X12_152 e_1 (by omega) rfl ?_
      refine aw_icmp_le (tgt := 30) dX12_dreads_25 (by decide) (fun c_22 => ?_) (fun c_22 => ?_)
      · skip
        have nc_22 : zn1 ≤ tad_1 := (nI_leI (a := zn1) (b := tad_1) (by omega) (by omega)).mp c_22
        refine aw_aload_n dX12_dreads_30 rfl ?_
        refine aw_iload_n dX12_dreads_31 rfl ?_
        refine aw_callVv (J' := jX12_beginsText) (As := [.int (nI zn1)]) (st := []) dX12_dreads_32 tb_1212 ok_X12_beginsText ⟨_, e_1⟩ (by omega) rfl rfl (r_beginsText l D b N V hN cl hJ0.1 (nI zn1) ⟨zn1, by omega, rfl⟩) rfl (Nat.le_of_ble_eq_true rfl) ⟨Nat.le_of_ble_eq_true rfl, Nat.le_of_ble_eq_true rfl, Nat.le_of_ble_eq_true rfl, Nat.le_of_ble_eq_true rfl⟩ (fun  N_34 V_26 q_35 => ?_)
        obtain ⟨h_24, rfl, q_23⟩ := q_35
        have j_25 := JR.trans hJ0 (JR.weak q_23 (Sub.cons (LMs LM0) (by decide) (by decide) (by decide) (Or.inr ⟨by decide, by decide⟩) (Sub.cons (LMs (LMs LM0)) (by decide) (by decide) (by decide) (Or.inr ⟨by decide, by decide⟩) (Sub.cons (LMs (LMs (LMs LM0))) (by decide) (by decide) (by decide) (Or.inr ⟨by decide, by decide⟩) (Sub.cons (LMs (LMs (LMs (LMs LM0)))) (by decide) (by decide) (by decide) (Or.inr ⟨by decide, by decide⟩) Sub.nil)))))
        obtain ⟨hB_27, hB_29, hB_30, hB_31, hB_32, hB_28⟩ := h_24
        have hk_k33 : zn1 = hB_31 := (nI_eq (by omega) (by omega)).mp hB_32.1
        obtain ⟨ftoldPeople_k33, ftoldDoors_k33, fwasDoors_k33, ffault_k33, fopen_k33, flines_k33, fmeantSet_k33, fopenedNow_k33, fvainNow_k33, flowNow_k33, fhighNow_k33, fisKept_k33, tad_k33, pl0_k33, le0_k33, nu0_k33, coy_k33, wag_k33, say_k33, e_k33, hntad_k33, hnpl0_k33, hnle0_k33, hnnu0_k33, hncoy_k33, hnwag_k33, hnsay_k33⟩ := JR.get j_25 cm_100
        have hq0_k33 := FG.eq hB_27 e_k33 rfl (by omega) (by omega)
        have hq1_k33 := FG.eq hB_28 e_k33 rfl (by omega) (by omega)
        have hq2_k33 := FG.eq hB_29 e_k33 rfl (by omega) (by omega)
        have hq3_k33 := FG.eq hB_30 e_k33 rfl (by omega) (by omega)
        refine aw_aload_n dX12_dreads_35 rfl ?_
        refine aw_iconst (v := 0) dX12_dreads_36 (by decide) ?_
        refine aw_put dX12_dreads_37 fp_X12_268 e_k33 (by omega) rfl rfl (Nat.le_of_ble_eq_true rfl) rfl ?_
        refine aw_upR j_25 cm_100 ⟨_, _, _, _, _, _, _, _, _, _, _, _, tad_k33, pl0_k33, le0_k33, nu0_k33, coy_k33, wag_k33, say_k33, rfl, by omega, by omega, by omega, by omega, by omega, by omega, by omega⟩ (by decide) (WO (s := 36) (x := .int 0) e_k33 rfl (LMs (LMs (LMs (LMs (LMs LM0))))) (by decide) (by decide) (by decide) (Or.inl (by decide))) (fun V_36 j_36 k_36 e_36 => ?_)
        refine aw_aload_n dX12_dreads_40 rfl ?_
        refine aw_get dX12_dreads_41 fl_X12_7 e_36 (by omega) rfl ?_
        refine aw_aload_n dX12_dreads_44 rfl ?_
        refine aw_get dX12_dreads_45 fl_X12_13 e_36 (by omega) rfl ?_
        refine aw_callSv (J' := jX12_copies) (As := [.ref (b + 101), .ref (b + 102)]) (st := []) dX12_dreads_48 tb_1299 ok_X12_copies rfl (r_copiesK l D b N V_36 hN cl j_36.1 101 1 cm_101 102 2 cm_102 (by decide) (by decide)) rfl (Nat.le_of_ble_eq_true rfl) ⟨Nat.le_of_ble_eq_true rfl, Nat.le_of_ble_eq_true rfl, Nat.le_of_ble_eq_true rfl, Nat.le_of_ble_eq_true rfl⟩ (fun  N_41 V_40 q_42 => ?_)
        obtain ⟨h_38, rfl, q_37⟩ := q_42
        have j_39 := JR.trans j_36 (JR.weak q_37 (Sub.cons LM0 (by decide) (by decide) (by decide) (Or.inl rfl) Sub.nil))
        refine aw_aload_n dX12_dreads_51 rfl ?_
        refine aw_iload_n dX12_dreads_52 rfl ?_
        obtain ⟨ftoldPeople_43, ftoldDoors_43, fwasDoors_43, ffault_43, fopen_43, flines_43, fmeantSet_43, fopenedNow_43, fvainNow_43, flowNow_43, fhighNow_43, fisKept_43, tad_43, pl0_43, le0_43, nu0_43, coy_43, wag_43, say_43, e_43, hntad_43, hnpl0_43, hnle0_43, hnnu0_43, hncoy_43, hnwag_43, hnsay_43⟩ := JR.get j_39 cm_100
        obtain ⟨g_56, e_56⟩ := JR.get j_39 cm_110
        refine aw_callVi (J' := jX12_readsDread) (As := [.int (nI zn0)]) (st := []) dX12_dreads_53 tb_1302 ok_X12_readsDread ⟨_, e_43⟩ (by omega) rfl rfl (r_readsDread l D b N V_40 hN cl j_39.1 (nI zn0) ⟨zn0, by omega, rfl⟩ pl0_43 le0_43 (FG.of e_43 rfl rfl) (FG.of e_43 rfl rfl) ⟨by omega, by omega⟩) rfl (Nat.le_of_ble_eq_true rfl) ⟨Nat.le_of_ble_eq_true rfl, Nat.le_of_ble_eq_true rfl, Nat.le_of_ble_eq_true rfl, Nat.le_of_ble_eq_true rfl⟩ (fun r_58 N_59 V_48 q_60 => ?_)
        obtain ⟨⟨z_46, h_45⟩, rfl, q_44⟩ := q_60
        have j_47 := JR.trans j_39 (JR.weak q_44 (Sub.cons (LMs (LMs (LMs (LMs (LMs LM0))))) (by decide) (by decide) (by decide) (Or.inr ⟨by decide, by decide⟩) (Sub.cons (LMs (LMs (LMs (LMs (LMs (LMs LM0)))))) (by decide) (by decide) (by decide) (Or.inr ⟨by decide, by decide⟩) (Sub.cons (LMs LM0) (by decide) (by decide) (by decide) (Or.inr ⟨by decide, by decide⟩) (Sub.cons (LMs (LMs (LMs (LMs (LMs (LMs (LMs LM0))))))) (by decide) (by decide) (by decide) (Or.inr ⟨by decide, by decide⟩) (Sub.cons (LMs (LMs (LMs (LMs (LMs (LMs (LMs (LMs LM0)))))))) (by decide) (by decide) (by decide) (Or.inr ⟨by decide, by decide⟩) (Sub.cons LM0 (by decide) (by decide) (by decide) (Or.inl rfl) Sub.nil)))))))
        obtain ⟨a_49, ha_50, hA_51, hF_52, hL_53, hz_54⟩ := h_45
        obtain ⟨ftoldPeople_k57, ftoldDoors_k57, fwasDoors_k57, ffault_k57, fopen_k57, flines_k57, fmeantSet_k57, fopenedNow_k57, fvainNow_k57, flowNow_k57, fhighNow_k57, fisKept_k57, tad_k57, pl0_k57, le0_k57, nu0_k57, coy_k57, wag_k57, say_k57, e_k57, hntad_k57, hnpl0_k57, hnle0_k57, hnnu0_k57, hncoy_k57, hnwag_k57, hnsay_k57⟩ := JR.get j_47 cm_100
        have hqp_k57 := FG.eq hF_52 e_k57 rfl (by omega) (by omega)
        have hql_k57 := FG.eq hL_53 e_k57 rfl (by omega) (by omega)
        refine aw_istore_n (ls' := [some (.ref (b + 100)), some (.int (nI zn0)), some (.int (nI zn1)), some (.int r_58)]) dX12_dreads_56 (Nat.le_of_ble_eq_true rfl) rfl ?_
        have ml_57_61 : ∀ (m : Nat) (a57 : Nat) (v57_3 : Int32) (V57 : Wd), m = 2 * (240 - a57) + (if v57_3 = 0 then 0 else 1) → (JR D b N cl [(101, 102, 0, 1000000), (100, 100, 14, 14), (100, 100, 15, 15), (100, 100, 19, 19), (100, 100, 21, 21), (100, 100, 36, 36), (100, 100, 37, 37), (100, 100, 16, 16), (100, 100, 17, 17), (100, 100, 13, 13), (100, 100, 9, 9)] V V57) → (FG b 14 a57 V57) → (FG b 15 le0_k57 V57) → (a57 ≤ 240 ∧ le0_k57 ≤ 240) → (fI (V57 101) 208 = (fI (V 101) 208)) → (fI (V57 102) 208 = (fI (V 101) 208)) → (fI (V57 100) 13 = (fI (V 100) 13)) → AW l D b jX12_dreads (fx_rm 4 0 0) none (fx_MQ D b 0 0 (fx_qi (fun r N9 V9 => (TKS (cDr m0 m1 (fI (V 100) 13)) (fI (V 100) 13) (fI (V9 100) 13) ∧ fI (V9 101) 208 = fI (V 101) 208) ∧ N = N9 ∧ JR D b N cl [(101, 102, 0, 1000000), (100, 100, 14, 14), (100, 100, 15, 15), (100, 100, 19, 19), (100, 100, 21, 21), (100, 100, 36, 36), (100, 100, 37, 37), (100, 100, 16, 16), (100, 100, 17, 17), (100, 100, 13, 13), (100, 100, 9, 9)] V V9))) 57 [some (.ref (b + 100)), some (.int (nI zn0)), some (.int (nI zn1)), some (.int v57_3)] [] N V57 0 0 := by
          intro m; refine Nat.strongRecOn m ?_
          intro m mih_57_61 a57 v57_3 V57 hm57 i57_0 i57_1 i57_2 i57_3 i57_4 i57_5 i57_6
          obtain ⟨ftoldPeople_62, ftoldDoors_62, fwasDoors_62, ffault_62, fopen_62, flines_62, fmeantSet_62, fopenedNow_62, fvainNow_62, flowNow_62, fhighNow_62, fisKept_62, tad_62, pl0_62, le0_62, nu0_62, coy_62, wag_62, say_62, e_62, hntad_62, hnpl0_62, hnle0_62, hnnu0_62, hncoy_62, hnwag_62, hnsay_62⟩ := JR.get i57_0 cm_100
          have hqp_57 := FG.eq i57_1 e_62 rfl (by omega) (by omega)
          have hql_57 := FG.eq i57_2 e_62 rfl (by omega) (by omega)
          refine aw_iload_n dX12_dreads_57 rfl ?_
          refine aw_if_eq (tgt := 98) dX12_dreads_58 (by decide) (fun c_63 => ?_) (fun c_63 => ?_)
          · skip
            refine aw_aload_n dX12_dreads_98 rfl ?_
            refine aw_iconst (v := 0) dX12_dreads_99 (by decide) ?_
            refine aw_put dX12_dreads_100 fp_X12_152 e_62 (by omega) rfl rfl (Nat.le_of_ble_eq_true rfl) rfl ?_
            refine aw_upR i57_0 cm_100 ⟨_, _, _, _, _, _, _, _, _, _, _, _, 0, pl0_62, le0_62, nu0_62, coy_62, wag_62, say_62, rfl, by omega, by omega, by omega, by omega, by omega, by omega, by omega⟩ (by decide) (WO (s := 13) (x := .int 0) e_62 rfl (LMs (LMs (LMs (LMs (LMs (LMs (LMs (LMs (LMs LM0))))))))) (by decide) (by decide) (by decide) (Or.inl (by decide))) (fun V_64 j_64 k_64 e_64 => ?_)
            refine aw_iload_n dX12_dreads_103 rfl ?_
            refine aw_if_ne (tgt := 123) dX12_dreads_104 (by decide) (fun c_65 => ?_) (fun c_65 => ?_)
            · first | exact absurd c_65 c_63 | exact absurd c_63 c_65 | exact absurd c_65 (Int32.not_lt.mpr c_63) | exact absurd c_63 (Int32.not_lt.mpr c_65) | exact c_63 (Int32.not_lt.mp c_65) | exact c_63 (Int32.not_le.mp c_65)
            refine aw_aload_n dX12_dreads_107 rfl ?_
            refine aw_get dX12_dreads_108 fl_X12_13 e_64 (by omega) rfl ?_
            refine aw_aload_n dX12_dreads_111 rfl ?_
            refine aw_get dX12_dreads_112 fl_X12_7 e_64 (by omega) rfl ?_
            refine aw_callSv (J' := jX12_copies) (As := [.ref (b + 102), .ref (b + 101)]) (st := []) dX12_dreads_115 tb_1299 ok_X12_copies rfl (r_copiesK l D b N V_64 hN cl j_64.1 102 2 cm_102 101 1 cm_101 (by decide) (by decide)) rfl (Nat.le_of_ble_eq_true rfl) ⟨Nat.le_of_ble_eq_true rfl, Nat.le_of_ble_eq_true rfl, Nat.le_of_ble_eq_true rfl, Nat.le_of_ble_eq_true rfl⟩ (fun  N_70 V_69 q_71 => ?_)
            obtain ⟨h_67, rfl, q_66⟩ := q_71
            have j_68 := JR.trans j_64 (JR.weak q_66 (Sub.cons LM0 (by decide) (by decide) (by decide) (Or.inl rfl) Sub.nil))
            refine aw_aload_n dX12_dreads_118 rfl ?_
            obtain ⟨ftoldPeople_72, ftoldDoors_72, fwasDoors_72, ffault_72, fopen_72, flines_72, fmeantSet_72, fopenedNow_72, fvainNow_72, flowNow_72, fhighNow_72, fisKept_72, tad_72, pl0_72, le0_72, nu0_72, coy_72, wag_72, say_72, e_72, hntad_72, hnpl0_72, hnle0_72, hnnu0_72, hncoy_72, hnwag_72, hnsay_72⟩ := JR.get j_68 cm_100
            refine aw_get dX12_dreads_119 fl_X12_169 e_72 (by omega) rfl ?_
            refine aw_ireti dX12_dreads_122 rfl (Nat.le_of_ble_eq_true rfl) (Nat.le_of_ble_eq_true rfl) ?_
            exact ⟨⟨Or.inl ⟨(by have zhi_5 := hi_5.resolve_left c_11; have zhi_15 := hi_15.resolve_left c_21; have zzzn0 := fx_nIt (n := zn0) (by omega); have zzzn1 := fx_nIt (n := zn1) (by omega); have zt := fx_nIt (n := tad_1) (by omega); have e0 : (0 : Int32).toInt = 0 := (by decide); have e1 : (1 : Int32).toInt = 1 := (by decide); have e11 : (11 : Int32).toInt = 11 := (by decide); have e120 : (120 : Int32).toInt = 120 := (by decide); have q0 := zhi_5; have q1 := zhi_15; have q2 := hm.1; have q3 := hm.2; have q4 := hta0; simp only [cDr, ← Int32.toInt_inj, Int32.le_iff_toInt_le, Int32.lt_iff_toInt_lt] at q0 q1 q2 q3 q4 ⊢; omega), ((JR.fI q_66 (by decide) (by decide) (nfc (by omega) nf0)).trans ((congrArg (fun z => fI z 13) e_64).trans rfl))⟩, ((h_67 208 (by decide)).trans (KA (s := 13) (x := .int 0) e_62 rfl (by decide) e_64 k_64 i57_5))⟩, rfl, j_68⟩
          · skip
            refine aw_aload_n dX12_dreads_61 rfl ?_
            refine aw_get dX12_dreads_62 fl_X12_159 e_62 (by omega) rfl ?_
            refine aw_aload_n dX12_dreads_65 rfl ?_
            refine aw_get dX12_dreads_66 fl_X12_162 e_62 (by omega) rfl ?_
            refine aw_icmp_ge (tgt := 98) dX12_dreads_69 (by decide) (fun c_73 => ?_) (fun c_73 => ?_)
            · skip
              have nc_73 : le0_62 ≤ pl0_62 := (nI_leI (a := le0_62) (b := pl0_62) (by omega) (by omega)).mp c_73
              refine aw_aload_n dX12_dreads_98 rfl ?_
              refine aw_iconst (v := 0) dX12_dreads_99 (by decide) ?_
              refine aw_put dX12_dreads_100 fp_X12_152 e_62 (by omega) rfl rfl (Nat.le_of_ble_eq_true rfl) rfl ?_
              refine aw_upR i57_0 cm_100 ⟨_, _, _, _, _, _, _, _, _, _, _, _, 0, pl0_62, le0_62, nu0_62, coy_62, wag_62, say_62, rfl, by omega, by omega, by omega, by omega, by omega, by omega, by omega⟩ (by decide) (WO (s := 13) (x := .int 0) e_62 rfl (LMs (LMs (LMs (LMs (LMs (LMs (LMs (LMs (LMs LM0))))))))) (by decide) (by decide) (by decide) (Or.inl (by decide))) (fun V_74 j_74 k_74 e_74 => ?_)
              refine aw_iload_n dX12_dreads_103 rfl ?_
              refine aw_if_ne (tgt := 123) dX12_dreads_104 (by decide) (fun c_75 => ?_) (fun c_75 => ?_)
              rotate_left
              · first | exact absurd c_63 c_75 | exact absurd c_75 c_63
              refine aw_aload_n dX12_dreads_123 rfl ?_
              refine aw_aload_n dX12_dreads_124 rfl ?_
              refine aw_get dX12_dreads_125 fl_X12_121 e_74 (by omega) rfl ?_
              refine aw_iconst (v := 1) dX12_dreads_128 (by decide) ?_
              refine aw_iload_n dX12_dreads_129 rfl ?_
              refine aw_ishl dX12_dreads_130 ?_
              refine aw_ior dX12_dreads_131 ?_
              refine aw_put dX12_dreads_132 fp_X12_121 e_74 (by omega) rfl rfl (Nat.le_of_ble_eq_true rfl) rfl ?_
              refine aw_upR j_74 cm_100 ⟨_, _, _, _, _, _, _, _, _, _, _, _, 0, pl0_62, le0_62, nu0_62, coy_62, wag_62, say_62, rfl, by omega, by omega, by omega, by omega, by omega, by omega, by omega⟩ (by decide) (WO (s := 9) (x := .int (ftoldPeople_62 ||| ((1 : Int32) <<< ((nI zn0) &&& 31)))) e_74 rfl (LMs (LMs (LMs (LMs (LMs (LMs (LMs (LMs (LMs (LMs LM0)))))))))) (by decide) (by decide) (by decide) (Or.inl (by decide))) (fun V_76 j_76 k_76 e_76 => ?_)
              refine aw_aload_n dX12_dreads_135 rfl ?_
              refine aw_get dX12_dreads_136 fl_X12_268 e_76 (by omega) rfl ?_
              refine aw_ireti dX12_dreads_139 rfl (Nat.le_of_ble_eq_true rfl) (Nat.le_of_ble_eq_true rfl) ?_
              exact ⟨⟨Or.inl ⟨(by have zhi_5 := hi_5.resolve_left c_11; have zhi_15 := hi_15.resolve_left c_21; have zzzn0 := fx_nIt (n := zn0) (by omega); have zzzn1 := fx_nIt (n := zn1) (by omega); have zt := fx_nIt (n := tad_1) (by omega); have e0 : (0 : Int32).toInt = 0 := (by decide); have e1 : (1 : Int32).toInt = 1 := (by decide); have e11 : (11 : Int32).toInt = 11 := (by decide); have e120 : (120 : Int32).toInt = 120 := (by decide); have q0 := zhi_5; have q1 := zhi_15; have q2 := hm.1; have q3 := hm.2; have q4 := hta0; simp only [cDr, ← Int32.toInt_inj, Int32.le_iff_toInt_le, Int32.lt_iff_toInt_lt] at q0 q1 q2 q3 q4 ⊢; omega), (KA (s := 9) (x := .int (ftoldPeople_62 ||| ((1 : Int32) <<< ((nI zn0) &&& 31)))) e_74 rfl (by decide) e_76 k_76 ((congrArg (fun z => fI z 13) e_74).trans rfl))⟩, (KA (s := 9) (x := .int (ftoldPeople_62 ||| ((1 : Int32) <<< ((nI zn0) &&& 31)))) e_74 rfl (by decide) e_76 k_76 (KA (s := 13) (x := .int 0) e_62 rfl (by decide) e_74 k_74 i57_4))⟩, rfl, j_76⟩
            · skip
              have nc_73 : ¬ (le0_62 ≤ pl0_62) := fun z => c_73 ((nI_leI (a := le0_62) (b := pl0_62) (by omega) (by omega)).mpr z)
              refine aw_aload_n dX12_dreads_72 rfl ?_
              refine aw_bipush (v := 59) dX12_dreads_73 (by decide) ?_
              obtain ⟨g_89, e_89⟩ := JR.get i57_0 cm_110
              refine aw_callVi (J' := jX12_takes) (As := [.int 59]) (st := []) dX12_dreads_75 tb_1291 ok_X12_takes ⟨_, e_62⟩ (by omega) rfl rfl (r_takes l D b N V57 hN cl i57_0.1 59 pl0_62 le0_62 (FG.of e_62 rfl rfl) (FG.of e_62 rfl rfl) ⟨by omega, by omega⟩ (by decide)) rfl (Nat.le_of_ble_eq_true rfl) ⟨Nat.le_of_ble_eq_true rfl, Nat.le_of_ble_eq_true rfl, Nat.le_of_ble_eq_true rfl, Nat.le_of_ble_eq_true rfl⟩ (fun r_91 N_92 V_81 q_93 => ?_)
              obtain ⟨⟨z_79, h_78⟩, rfl, q_77⟩ := q_93
              have j_80 := JR.trans i57_0 (JR.weak q_77 (Sub.cons (LMs LM0) (by decide) (by decide) (by decide) (Or.inr ⟨by decide, by decide⟩) (Sub.cons (LMs (LMs (LMs (LMs (LMs (LMs (LMs LM0))))))) (by decide) (by decide) (by decide) (Or.inr ⟨by decide, by decide⟩) Sub.nil)))
              obtain ⟨a_82, ha_83, hA_84, hF_85, hL_86, hz_87, hX_88⟩ := h_78
              obtain ⟨ftoldPeople_k90, ftoldDoors_k90, fwasDoors_k90, ffault_k90, fopen_k90, flines_k90, fmeantSet_k90, fopenedNow_k90, fvainNow_k90, flowNow_k90, fhighNow_k90, fisKept_k90, tad_k90, pl0_k90, le0_k90, nu0_k90, coy_k90, wag_k90, say_k90, e_k90, hntad_k90, hnpl0_k90, hnle0_k90, hnnu0_k90, hncoy_k90, hnwag_k90, hnsay_k90⟩ := JR.get j_80 cm_100
              have hqp_k90 := FG.eq hF_85 e_k90 rfl (by omega) (by omega)
              have hql_k90 := FG.eq hL_86 e_k90 rfl (by omega) (by omega)
              refine aw_if_eq (tgt := 93) dX12_dreads_78 (by decide) (fun c_94 => ?_) (fun c_94 => ?_)
              · skip
                refine aw_iconst (v := 0) dX12_dreads_93 (by decide) ?_
                refine aw_istore_n (ls' := [some (.ref (b + 100)), some (.int (nI zn0)), some (.int (nI zn1)), some (.int 0)]) dX12_dreads_94 (Nat.le_of_ble_eq_true rfl) rfl ?_
                refine aw_goto (tgt := 57) dX12_dreads_95 (by decide) ?_
                refine aw_le ?_ (mih_57_61 _ (by rw [hm57]; exact tl_dec c_63 (by omega) (Or.inl rfl) (by omega)) pl0_k90 0 V_81 rfl (j_80) ((FG.of e_k90 rfl rfl)) ((FG.of e_k90 rfl (by omega : le0_k90 = le0_k57))) (by omega) (((JR.fI q_77 (by decide) (by decide) (nfc (by omega) (nfc (by omega) nf0))).trans i57_4)) (((JR.fI q_77 (by decide) (by decide) (nfc (by omega) (nfc (by omega) nf0))).trans i57_5)) (((JR.fI q_77 (by decide) (by decide) (nfc (by omega) (nfc (by omega) nf0))).trans i57_6)))
                exact ⟨rfl, ⟨rfl, ⟨rfl, ⟨rfl, trivial⟩⟩⟩⟩
              · skip
                refine aw_aload_n dX12_dreads_81 rfl ?_
                refine aw_iload_n dX12_dreads_82 rfl ?_
                refine aw_callVi (J' := jX12_readsDread) (As := [.int (nI zn0)]) (st := []) dX12_dreads_83 tb_1302 ok_X12_readsDread ⟨_, e_k90⟩ (by omega) rfl rfl (r_readsDread l D b N V_81 hN cl j_80.1 (nI zn0) ⟨zn0, by omega, rfl⟩ pl0_k90 le0_k90 (FG.of e_k90 rfl rfl) (FG.of e_k90 rfl rfl) ⟨by omega, by omega⟩) rfl (Nat.le_of_ble_eq_true rfl) ⟨Nat.le_of_ble_eq_true rfl, Nat.le_of_ble_eq_true rfl, Nat.le_of_ble_eq_true rfl, Nat.le_of_ble_eq_true rfl⟩ (fun r_108 N_109 V_99 q_110 => ?_)
                obtain ⟨⟨z_97, h_96⟩, rfl, q_95⟩ := q_110
                have j_98 := JR.trans j_80 (JR.weak q_95 (Sub.cons (LMs (LMs (LMs (LMs (LMs LM0))))) (by decide) (by decide) (by decide) (Or.inr ⟨by decide, by decide⟩) (Sub.cons (LMs (LMs (LMs (LMs (LMs (LMs LM0)))))) (by decide) (by decide) (by decide) (Or.inr ⟨by decide, by decide⟩) (Sub.cons (LMs LM0) (by decide) (by decide) (by decide) (Or.inr ⟨by decide, by decide⟩) (Sub.cons (LMs (LMs (LMs (LMs (LMs (LMs (LMs LM0))))))) (by decide) (by decide) (by decide) (Or.inr ⟨by decide, by decide⟩) (Sub.cons (LMs (LMs (LMs (LMs (LMs (LMs (LMs (LMs LM0)))))))) (by decide) (by decide) (by decide) (Or.inr ⟨by decide, by decide⟩) (Sub.cons LM0 (by decide) (by decide) (by decide) (Or.inl rfl) Sub.nil)))))))
                obtain ⟨a_100, ha_101, hA_102, hF_103, hL_104, hz_105⟩ := h_96
                obtain ⟨ftoldPeople_k107, ftoldDoors_k107, fwasDoors_k107, ffault_k107, fopen_k107, flines_k107, fmeantSet_k107, fopenedNow_k107, fvainNow_k107, flowNow_k107, fhighNow_k107, fisKept_k107, tad_k107, pl0_k107, le0_k107, nu0_k107, coy_k107, wag_k107, say_k107, e_k107, hntad_k107, hnpl0_k107, hnle0_k107, hnnu0_k107, hncoy_k107, hnwag_k107, hnsay_k107⟩ := JR.get j_98 cm_100
                have hqp_k107 := FG.eq hF_103 e_k107 rfl (by omega) (by omega)
                have hql_k107 := FG.eq hL_104 e_k107 rfl (by omega) (by omega)
                refine aw_if_eq (tgt := 93) dX12_dreads_86 (by decide) (fun c_111 => ?_) (fun c_111 => ?_)
                · skip
                  refine aw_iconst (v := 0) dX12_dreads_93 (by decide) ?_
                  refine aw_istore_n (ls' := [some (.ref (b + 100)), some (.int (nI zn0)), some (.int (nI zn1)), some (.int 0)]) dX12_dreads_94 (Nat.le_of_ble_eq_true rfl) rfl ?_
                  refine aw_goto (tgt := 57) dX12_dreads_95 (by decide) ?_
                  refine aw_le ?_ (mih_57_61 _ (by rw [hm57]; exact tl_dec c_63 (by omega) (Or.inl rfl) (by omega)) pl0_k107 0 V_99 rfl (j_98) ((FG.of e_k107 rfl rfl)) ((FG.of e_k107 rfl (by omega : le0_k107 = le0_k57))) (by omega) (((JR.fI q_95 (by decide) (by decide) (nfc (by omega) (nfc (by omega) (nfc (by omega) (nfc (by omega) (nfc (by omega) (nfc (by omega) nf0))))))).trans ((JR.fI q_77 (by decide) (by decide) (nfc (by omega) (nfc (by omega) nf0))).trans i57_4))) (((JR.fI q_95 (by decide) (by decide) (nfc (by omega) (nfc (by omega) (nfc (by omega) (nfc (by omega) (nfc (by omega) (nfc (by omega) nf0))))))).trans ((JR.fI q_77 (by decide) (by decide) (nfc (by omega) (nfc (by omega) nf0))).trans i57_5))) (((JR.fI q_95 (by decide) (by decide) (nfc (by omega) (nfc (by omega) (nfc (by omega) (nfc (by omega) (nfc (by omega) (nfc (by omega) nf0))))))).trans ((JR.fI q_77 (by decide) (by decide) (nfc (by omega) (nfc (by omega) nf0))).trans i57_6))))
                  exact ⟨rfl, ⟨rfl, ⟨rfl, ⟨rfl, trivial⟩⟩⟩⟩
                · skip
                  refine aw_iconst (v := 1) dX12_dreads_89 (by decide) ?_
                  refine aw_goto (tgt := 94) dX12_dreads_90 (by decide) ?_
                  refine aw_istore_n (ls' := [some (.ref (b + 100)), some (.int (nI zn0)), some (.int (nI zn1)), some (.int 1)]) dX12_dreads_94 (Nat.le_of_ble_eq_true rfl) rfl ?_
                  refine aw_goto (tgt := 57) dX12_dreads_95 (by decide) ?_
                  refine aw_le ?_ (mih_57_61 _ (by rw [hm57]; exact tl_dec c_63 (by omega) (Or.inr (by have := hX_88.resolve_left c_94; omega)) (by omega)) pl0_k107 1 V_99 rfl (j_98) ((FG.of e_k107 rfl rfl)) ((FG.of e_k107 rfl (by omega : le0_k107 = le0_k57))) (by omega) (((JR.fI q_95 (by decide) (by decide) (nfc (by omega) (nfc (by omega) (nfc (by omega) (nfc (by omega) (nfc (by omega) (nfc (by omega) nf0))))))).trans ((JR.fI q_77 (by decide) (by decide) (nfc (by omega) (nfc (by omega) nf0))).trans i57_4))) (((JR.fI q_95 (by decide) (by decide) (nfc (by omega) (nfc (by omega) (nfc (by omega) (nfc (by omega) (nfc (by omega) (nfc (by omega) nf0))))))).trans ((JR.fI q_77 (by decide) (by decide) (nfc (by omega) (nfc (by omega) nf0))).trans i57_5))) (((JR.fI q_95 (by decide) (by decide) (nfc (by omega) (nfc (by omega) (nfc (by omega) (nfc (by omega) (nfc (by omega) (nfc (by omega) nf0))))))).trans ((JR.fI q_77 (by decide) (by decide) (nfc (by omega) (nfc (by omega) nf0))).trans i57_6))))
                  exact ⟨rfl, ⟨rfl, ⟨rfl, ⟨rfl, trivial⟩⟩⟩⟩
        refine aw_le ?_ (ml_57_61 _ pl0_k57 r_58 V_48 rfl (j_47) ((FG.of e_k57 rfl rfl)) ((FG.of e_k57 rfl (by omega : le0_k57 = le0_k57))) (by omega) (((JR.fI q_44 (by decide) (by decide) (nfc (by omega) (nfc (by omega) (nfc (by omega) (nfc (by omega) (nfc (by omega) (nfc (by omega) nf0))))))).trans ((JR.fI q_37 (by decide) (by decide) (nfc (by omega) nf0)).trans (KA (s := 36) (x := .int 0) e_k33 rfl (by decide) e_36 k_36 ((JR.fI q_23 (by decide) (by decide) (nfc (by omega) (nfc (by omega) (nfc (by omega) (nfc (by omega) nf0))))).trans (Eq.refl (fI (V 101) 208))))))) (((JR.fI q_44 (by decide) (by decide) (nfc (by omega) (nfc (by omega) (nfc (by omega) (nfc (by omega) (nfc (by omega) (nfc (by omega) nf0))))))).trans ((h_38 208 (by decide)).trans (KA (s := 36) (x := .int 0) e_k33 rfl (by decide) e_36 k_36 ((JR.fI q_23 (by decide) (by decide) (nfc (by omega) (nfc (by omega) (nfc (by omega) (nfc (by omega) nf0))))).trans (Eq.refl (fI (V 101) 208))))))) (((JR.fI q_44 (by decide) (by decide) (nfc (by omega) (nfc (by omega) (nfc (by omega) (nfc (by omega) (nfc (by omega) (nfc (by omega) nf0))))))).trans ((JR.fI q_37 (by decide) (by decide) (nfc (by omega) nf0)).trans (KA (s := 36) (x := .int 0) e_k33 rfl (by decide) e_36 k_36 ((JR.fI q_23 (by decide) (by decide) (nfc (by omega) (nfc (by omega) (nfc (by omega) (nfc (by omega) nf0))))).trans (Eq.refl (fI (V 100) 13))))))))
        exact ⟨rfl, ⟨rfl, ⟨rfl, ⟨rfl, trivial⟩⟩⟩⟩
      · skip
        have nc_22 : ¬ (zn1 ≤ tad_1) := fun z => c_22 ((nI_leI (a := zn1) (b := tad_1) (by omega) (by omega)).mpr z)
        refine aw_iconst (v := (-1)) dX12_dreads_28 (by decide) ?_
        refine aw_ireti dX12_dreads_29 rfl (Nat.le_of_ble_eq_true rfl) (Nat.le_of_ble_eq_true rfl) ?_
        exact ⟨⟨Or.inr ⟨(by have zhi_5 := hi_5.resolve_left c_11; have zhi_15 := hi_15.resolve_left c_21; have zzzn0 := fx_nIt (n := zn0) (by omega); have zzzn1 := fx_nIt (n := zn1) (by omega); have zt := fx_nIt (n := tad_1) (by omega); have e0 : (0 : Int32).toInt = 0 := (by decide); have e1 : (1 : Int32).toInt = 1 := (by decide); have e11 : (11 : Int32).toInt = 11 := (by decide); have e120 : (120 : Int32).toInt = 120 := (by decide); have q0 := zhi_5; have q1 := zhi_15; have q2 := hm.1; have q3 := hm.2; have q4 := hta0; simp only [cDr, ← Int32.toInt_inj, Int32.le_iff_toInt_le, Int32.lt_iff_toInt_lt] at q0 q1 q2 q3 q4 ⊢; omega), (Eq.refl (fI (V 100) 13))⟩, (Eq.refl (fI (V 101) 208))⟩, rfl, hJ0⟩

set_option maxHeartbeats 4000000 in
set_option maxRecDepth 100000 in
theorem r_laysAsideK (l : Launch) (D : va_G) (b : Nat) (N : Nat) (V : Wd) (hN : 133 ≤ N) (cl : Nat) (hW : CR D b cl V)   : MV l D b 1 jX12_laysAside [.ref (b + 100)] N V 0 0 (fun N9 V9 => (fI (V9 102) 208 = fI (V 101) 208) ∧ N = N9 ∧ JR D b N cl [(102, 102, 0, 1000000), (105, 105, 0, 1000000), (108, 109, 0, 1000000), (100, 100, 11, 11)] V V9) := by
  have hJ0 : JR D b N cl [(102, 102, 0, 1000000), (105, 105, 0, 1000000), (108, 109, 0, 1000000), (100, 100, 11, 11)] V V := JR.rf hW
  refine mw_of (by decide) (by simp [Value.category]) (Nat.le_of_ble_eq_true rfl) ?_
  show AW l D b jX12_laysAside (fx_rm 1 0 0) none (fx_MQ D b 0 0 (fx_qv (fun N9 V9 => (fI (V9 102) 208 = fI (V 101) 208) ∧ N = N9 ∧ JR D b N cl [(102, 102, 0, 1000000), (105, 105, 0, 1000000), (108, 109, 0, 1000000), (100, 100, 11, 11)] V V9))) 0 [some (.ref (b + 100)), none] [] N V 0 0
  refine aw_aload_n dX12_laysAside_0 rfl ?_
  obtain ⟨ftoldPeople_1, ftoldDoors_1, fwasDoors_1, ffault_1, fopen_1, flines_1, fmeantSet_1, fopenedNow_1, fvainNow_1, flowNow_1, fhighNow_1, fisKept_1, tad_1, pl0_1, le0_1, nu0_1, coy_1, wag_1, say_1, e_1, hntad_1, hnpl0_1, hnle0_1, hnnu0_1, hncoy_1, hnwag_1, hnsay_1⟩ := JR.get hJ0 cm_100
  refine aw_get dX12_laysAside_1 fl_X12_7 e_1 (by omega) rfl ?_
  refine aw_aload_n dX12_laysAside_4 rfl ?_
  refine aw_get dX12_laysAside_5 fl_X12_13 e_1 (by omega) rfl ?_
  refine aw_callSv (J' := jX12_copies) (As := [.ref (b + 101), .ref (b + 102)]) (st := []) dX12_laysAside_8 tb_1299 ok_X12_copies rfl (r_copiesK l D b N V hN cl hJ0.1 101 1 cm_101 102 2 cm_102 (by decide) (by decide)) rfl (Nat.le_of_ble_eq_true rfl) ⟨Nat.le_of_ble_eq_true rfl, Nat.le_of_ble_eq_true rfl, Nat.le_of_ble_eq_true rfl, Nat.le_of_ble_eq_true rfl⟩ (fun  N_6 V_5 q_7 => ?_)
  obtain ⟨h_3, rfl, q_2⟩ := q_7
  have j_4 := JR.trans hJ0 (JR.weak q_2 (Sub.cons LM0 (by decide) (by decide) (by decide) (Or.inl rfl) Sub.nil))
  refine aw_aload_n dX12_laysAside_11 rfl ?_
  refine aw_aload_n dX12_laysAside_12 rfl ?_
  obtain ⟨ftoldPeople_8, ftoldDoors_8, fwasDoors_8, ffault_8, fopen_8, flines_8, fmeantSet_8, fopenedNow_8, fvainNow_8, flowNow_8, fhighNow_8, fisKept_8, tad_8, pl0_8, le0_8, nu0_8, coy_8, wag_8, say_8, e_8, hntad_8, hnpl0_8, hnle0_8, hnnu0_8, hncoy_8, hnwag_8, hnsay_8⟩ := JR.get j_4 cm_100
  refine aw_get dX12_laysAside_13 fl_X12_129 e_8 (by omega) rfl ?_
  refine aw_put dX12_laysAside_16 fp_X12_296 e_8 (by omega) rfl rfl (Nat.le_of_ble_eq_true rfl) rfl ?_
  refine aw_upR j_4 cm_100 ⟨_, _, _, _, _, _, _, _, _, _, _, _, tad_8, pl0_8, le0_8, nu0_8, coy_8, wag_8, say_8, rfl, by omega, by omega, by omega, by omega, by omega, by omega, by omega⟩ (by decide) (WO (s := 11) (x := .int ftoldDoors_8) e_8 rfl (LMs (LMs (LMs LM0))) (by decide) (by decide) (by decide) (Or.inl (by decide))) (fun V_9 j_9 k_9 e_9 => ?_)
  refine aw_iconst (v := 0) dX12_laysAside_19 (by decide) ?_
  refine aw_istore_n (ls' := [some (.ref (b + 100)), some (.int 0)]) dX12_laysAside_20 (Nat.le_of_ble_eq_true rfl) rfl ?_
  have loop_21_9 : ∀ (g_21 : Nat), ∀ (j21 : Nat)  (V21 : Wd), j21 + g_21 = 12 → (JR D b N cl [(102, 102, 0, 1000000), (105, 105, 0, 1000000), (108, 109, 0, 1000000), (100, 100, 11, 11)] V V21) → (fI (V21 101) 208 = (fI (V 101) 208)) → (fI (V21 102) 208 = (fI (V 101) 208)) → AW l D b jX12_laysAside (fx_rm 1 0 0) none (fx_MQ D b 0 0 (fx_qv (fun N9 V9 => (fI (V9 102) 208 = fI (V 101) 208) ∧ N = N9 ∧ JR D b N cl [(102, 102, 0, 1000000), (105, 105, 0, 1000000), (108, 109, 0, 1000000), (100, 100, 11, 11)] V V9))) 21 [some (.ref (b + 100)), some (.int (nI j21))] [] N V21 0 0 := by
    intro g_21
    induction g_21 with
    | zero =>
      intro j21  V21 hj21 i21_0 i21_1 i21_2
      obtain rfl : j21 = 12 := by omega
      refine aw_iload_n dX12_laysAside_21 rfl ?_
      refine aw_bipush (v := 12) dX12_laysAside_22 (by decide) ?_
      refine aw_icmp_ge (tgt := 45) dX12_laysAside_24 (by decide) (fun c_12 => ?_) (fun c_12 => ?_)
      rotate_left
      · exact absurd (nI_le (a := 12) (b := 12) (Nat.le_refl _) (by omega)) c_12
      refine aw_iconst (v := 0) dX12_laysAside_45 (by decide) ?_
      refine aw_istore_n (ls' := [some (.ref (b + 100)), some (.int 0)]) dX12_laysAside_46 (Nat.le_of_ble_eq_true rfl) rfl ?_
      have loop_47_12 : ∀ (g_47 : Nat), ∀ (j47 : Nat)  (V47 : Wd), j47 + g_47 = 16 → (JR D b N cl [(102, 102, 0, 1000000), (105, 105, 0, 1000000), (108, 109, 0, 1000000), (100, 100, 11, 11)] V V47) → (fI (V47 101) 208 = (fI (V 101) 208)) → (fI (V47 102) 208 = (fI (V 101) 208)) → AW l D b jX12_laysAside (fx_rm 1 0 0) none (fx_MQ D b 0 0 (fx_qv (fun N9 V9 => (fI (V9 102) 208 = fI (V 101) 208) ∧ N = N9 ∧ JR D b N cl [(102, 102, 0, 1000000), (105, 105, 0, 1000000), (108, 109, 0, 1000000), (100, 100, 11, 11)] V V9))) 47 [some (.ref (b + 100)), some (.int (nI j47))] [] N V47 0 0 := by
        intro g_47
        induction g_47 with
        | zero =>
          intro j47  V47 hj47 i47_0 i47_1 i47_2
          obtain rfl : j47 = 16 := by omega
          refine aw_iload_n dX12_laysAside_47 rfl ?_
          refine aw_bipush (v := 16) dX12_laysAside_48 (by decide) ?_
          refine aw_icmp_ge (tgt := 83) dX12_laysAside_50 (by decide) (fun c_15 => ?_) (fun c_15 => ?_)
          rotate_left
          · exact absurd (nI_le (a := 16) (b := 16) (Nat.le_refl _) (by omega)) c_15
          refine aw_vreti dX12_laysAside_83 rfl (Nat.le_of_ble_eq_true rfl) (Nat.le_of_ble_eq_true rfl) ?_
          exact ⟨i47_2, rfl, i47_0⟩
        | succ g_47 ih_47_13 =>
          intro j47  V47 hj47 i47_0 i47_1 i47_2
          have hlj47 : j47 < 16 := by omega
          refine aw_iload_n dX12_laysAside_47 rfl ?_
          refine aw_bipush (v := 16) dX12_laysAside_48 (by decide) ?_
          refine aw_icmp_ge (tgt := 83) dX12_laysAside_50 (by decide) (fun c_16 => ?_) (fun c_16 => ?_)
          · exact absurd c_16 (nI_ge (a := j47) (b := 16) (by omega) (by omega))
          refine aw_aload_n dX12_laysAside_53 rfl ?_
          obtain ⟨ftoldPeople_17, ftoldDoors_17, fwasDoors_17, ffault_17, fopen_17, flines_17, fmeantSet_17, fopenedNow_17, fvainNow_17, flowNow_17, fhighNow_17, fisKept_17, tad_17, pl0_17, le0_17, nu0_17, coy_17, wag_17, say_17, e_17, hntad_17, hnpl0_17, hnle0_17, hnnu0_17, hncoy_17, hnwag_17, hnsay_17⟩ := JR.get i47_0 cm_100
          refine aw_get dX12_laysAside_54 fl_X12_31 e_17 (by omega) rfl ?_
          refine aw_iload_n dX12_laysAside_57 rfl ?_
          refine aw_aload_n dX12_laysAside_58 rfl ?_
          refine aw_get dX12_laysAside_59 fl_X12_25 e_17 (by omega) rfl ?_
          refine aw_iload_n dX12_laysAside_62 rfl ?_
          obtain ⟨g_18, e_18, p_18⟩ := JR.get i47_0 cm_106
          refine aw_iald (v := (g_18 j47)) dX12_laysAside_63 e_18 (by omega) (vp_in_nI (n := j47) (by omega) (by omega)) (congrArg g_18 (nI_clamp (n := j47) (by omega))) ?_
          obtain ⟨g_19, e_19, p_19⟩ := JR.get i47_0 cm_108
          refine aw_iast dX12_laysAside_64 e_19 (by omega) (vp_in_nI (n := j47) (by omega) (by omega)) ?_
          refine aw_upR i47_0 cm_108 ⟨_, rfl, isP_upd (P := (fun v => ∃ k : Nat, k < 16 ∧ v = nI k)) p_19 (p_18 _ (by omega))⟩ (by decide) (WA (LMs (LMs LM0)) (by decide) (by decide)) (fun V_20 j_20 k_20 e_20 => ?_)
          refine aw_aload_n dX12_laysAside_65 rfl ?_
          refine aw_get dX12_laysAside_66 fl_X12_34 ((k_20 _ (by decide)).trans e_17) (by omega) rfl ?_
          refine aw_iload_n dX12_laysAside_69 rfl ?_
          refine aw_aload_n dX12_laysAside_70 rfl ?_
          refine aw_get dX12_laysAside_71 fl_X12_28 ((k_20 _ (by decide)).trans e_17) (by omega) rfl ?_
          refine aw_iload_n dX12_laysAside_74 rfl ?_
          obtain ⟨g_22, e_22⟩ := JR.get j_20 cm_107
          refine aw_iald (v := (g_22 j47)) dX12_laysAside_75 e_22 (by omega) (vp_in_nI (n := j47) (by omega) (by omega)) (congrArg g_22 (nI_clamp (n := j47) (by omega))) ?_
          obtain ⟨g_23, e_23⟩ := JR.get j_20 cm_109
          refine aw_iast dX12_laysAside_76 e_23 (by omega) (vp_in_nI (n := j47) (by omega) (by omega)) ?_
          refine aw_upR j_20 cm_109 ⟨_, rfl⟩ (by decide) (WA (LMs (LMs LM0)) (by decide) (by decide)) (fun V_24 j_24 k_24 e_24 => ?_)
          refine aw_iinc (v := (nI (j47 + 1))) (ls' := [some (.ref (b + 100)), some (.int (nI (j47 + 1)))]) dX12_laysAside_77 rfl (fx_up_1 _) (Nat.le_of_ble_eq_true rfl) rfl ?_
          refine aw_goto (tgt := 47) dX12_laysAside_80 (by decide) ?_
          refine aw_le ?_ (ih_47_13 (j47 + 1)  V_24 (by omega) (j_24) (((congrArg (fun z => fI z 208) (k_24 _ (by omega))).trans ((congrArg (fun z => fI z 208) (k_20 _ (by omega))).trans i47_1))) (((congrArg (fun z => fI z 208) (k_24 _ (by omega))).trans ((congrArg (fun z => fI z 208) (k_20 _ (by omega))).trans i47_2))))
          exact ⟨rfl, ⟨rfl, trivial⟩⟩
      refine aw_le ?_ (loop_47_12 16 0  V21 (by omega) (i21_0) (i21_1) (i21_2))
      exact ⟨rfl, ⟨rfl, trivial⟩⟩
    | succ g_21 ih_21_10 =>
      intro j21  V21 hj21 i21_0 i21_1 i21_2
      have hlj21 : j21 < 12 := by omega
      refine aw_iload_n dX12_laysAside_21 rfl ?_
      refine aw_bipush (v := 12) dX12_laysAside_22 (by decide) ?_
      refine aw_icmp_ge (tgt := 45) dX12_laysAside_24 (by decide) (fun c_25 => ?_) (fun c_25 => ?_)
      · exact absurd c_25 (nI_ge (a := j21) (b := 12) (by omega) (by omega))
      refine aw_aload_n dX12_laysAside_27 rfl ?_
      obtain ⟨ftoldPeople_26, ftoldDoors_26, fwasDoors_26, ffault_26, fopen_26, flines_26, fmeantSet_26, fopenedNow_26, fvainNow_26, flowNow_26, fhighNow_26, fisKept_26, tad_26, pl0_26, le0_26, nu0_26, coy_26, wag_26, say_26, e_26, hntad_26, hnpl0_26, hnle0_26, hnnu0_26, hncoy_26, hnwag_26, hnsay_26⟩ := JR.get i21_0 cm_100
      refine aw_get dX12_laysAside_28 fl_X12_22 e_26 (by omega) rfl ?_
      refine aw_iload_n dX12_laysAside_31 rfl ?_
      refine aw_aload_n dX12_laysAside_32 rfl ?_
      refine aw_get dX12_laysAside_33 fl_X12_19 e_26 (by omega) rfl ?_
      refine aw_iload_n dX12_laysAside_36 rfl ?_
      obtain ⟨g_27, e_27, p_27⟩ := JR.get i21_0 cm_104
      refine aw_iald (v := (g_27 j21)) dX12_laysAside_37 e_27 (by omega) (vp_in_nI (n := j21) (by omega) (by omega)) (congrArg g_27 (nI_clamp (n := j21) (by omega))) ?_
      obtain ⟨g_28, e_28, p_28⟩ := JR.get i21_0 cm_105
      refine aw_iast dX12_laysAside_38 e_28 (by omega) (vp_in_nI (n := j21) (by omega) (by omega)) ?_
      refine aw_upR i21_0 cm_105 ⟨_, rfl, isP_upd (P := (fun v => ∃ k : Nat, k < 4096 ∧ v = nI k)) p_28 (p_27 _ (by omega))⟩ (by decide) (WA (LMs LM0) (by decide) (by decide)) (fun V_29 j_29 k_29 e_29 => ?_)
      refine aw_iinc (v := (nI (j21 + 1))) (ls' := [some (.ref (b + 100)), some (.int (nI (j21 + 1)))]) dX12_laysAside_39 rfl (fx_up_1 _) (Nat.le_of_ble_eq_true rfl) rfl ?_
      refine aw_goto (tgt := 21) dX12_laysAside_42 (by decide) ?_
      refine aw_le ?_ (ih_21_10 (j21 + 1)  V_29 (by omega) (j_29) (((congrArg (fun z => fI z 208) (k_29 _ (by omega))).trans i21_1)) (((congrArg (fun z => fI z 208) (k_29 _ (by omega))).trans i21_2)))
      exact ⟨rfl, ⟨rfl, trivial⟩⟩
  refine aw_le ?_ (loop_21_9 12 0  V_9 (by omega) (j_9) ((KA (s := 11) (x := .int ftoldDoors_8) e_8 rfl (by decide) e_9 k_9 ((JR.fI q_2 (by decide) (by decide) (nfc (by omega) nf0)).trans (Eq.refl (fI (V 101) 208))))) ((KA (s := 11) (x := .int ftoldDoors_8) e_8 rfl (by decide) e_9 k_9 ((h_3 208 (by decide)).trans (Eq.refl (fI (V 101) 208))))))
  exact ⟨rfl, ⟨rfl, trivial⟩⟩

set_option maxHeartbeats 4000000 in
set_option maxRecDepth 100000 in
theorem r_putsBackK (l : Launch) (D : va_G) (b : Nat) (N : Nat) (V : Wd) (hN : 133 ≤ N) (cl : Nat) (hW : CR D b cl V)   : MV l D b 1 jX12_putsBack [.ref (b + 100)] N V 0 0 (fun N9 V9 => (fI (V9 101) 208 = fI (V 102) 208) ∧ N = N9 ∧ JR D b N cl [(101, 101, 0, 1000000), (104, 104, 0, 1000000), (106, 107, 0, 1000000), (100, 100, 10, 10)] V V9) := by
  have hJ0 : JR D b N cl [(101, 101, 0, 1000000), (104, 104, 0, 1000000), (106, 107, 0, 1000000), (100, 100, 10, 10)] V V := JR.rf hW
  refine mw_of (by decide) (by simp [Value.category]) (Nat.le_of_ble_eq_true rfl) ?_
  show AW l D b jX12_putsBack (fx_rm 1 0 0) none (fx_MQ D b 0 0 (fx_qv (fun N9 V9 => (fI (V9 101) 208 = fI (V 102) 208) ∧ N = N9 ∧ JR D b N cl [(101, 101, 0, 1000000), (104, 104, 0, 1000000), (106, 107, 0, 1000000), (100, 100, 10, 10)] V V9))) 0 [some (.ref (b + 100)), none] [] N V 0 0
  refine aw_aload_n dX12_putsBack_0 rfl ?_
  obtain ⟨ftoldPeople_1, ftoldDoors_1, fwasDoors_1, ffault_1, fopen_1, flines_1, fmeantSet_1, fopenedNow_1, fvainNow_1, flowNow_1, fhighNow_1, fisKept_1, tad_1, pl0_1, le0_1, nu0_1, coy_1, wag_1, say_1, e_1, hntad_1, hnpl0_1, hnle0_1, hnnu0_1, hncoy_1, hnwag_1, hnsay_1⟩ := JR.get hJ0 cm_100
  refine aw_get dX12_putsBack_1 fl_X12_13 e_1 (by omega) rfl ?_
  refine aw_aload_n dX12_putsBack_4 rfl ?_
  refine aw_get dX12_putsBack_5 fl_X12_7 e_1 (by omega) rfl ?_
  refine aw_callSv (J' := jX12_copies) (As := [.ref (b + 102), .ref (b + 101)]) (st := []) dX12_putsBack_8 tb_1299 ok_X12_copies rfl (r_copiesK l D b N V hN cl hJ0.1 102 2 cm_102 101 1 cm_101 (by decide) (by decide)) rfl (Nat.le_of_ble_eq_true rfl) ⟨Nat.le_of_ble_eq_true rfl, Nat.le_of_ble_eq_true rfl, Nat.le_of_ble_eq_true rfl, Nat.le_of_ble_eq_true rfl⟩ (fun  N_6 V_5 q_7 => ?_)
  obtain ⟨h_3, rfl, q_2⟩ := q_7
  have j_4 := JR.trans hJ0 (JR.weak q_2 (Sub.cons LM0 (by decide) (by decide) (by decide) (Or.inl rfl) Sub.nil))
  refine aw_aload_n dX12_putsBack_11 rfl ?_
  refine aw_aload_n dX12_putsBack_12 rfl ?_
  obtain ⟨ftoldPeople_8, ftoldDoors_8, fwasDoors_8, ffault_8, fopen_8, flines_8, fmeantSet_8, fopenedNow_8, fvainNow_8, flowNow_8, fhighNow_8, fisKept_8, tad_8, pl0_8, le0_8, nu0_8, coy_8, wag_8, say_8, e_8, hntad_8, hnpl0_8, hnle0_8, hnnu0_8, hncoy_8, hnwag_8, hnsay_8⟩ := JR.get j_4 cm_100
  refine aw_get dX12_putsBack_13 fl_X12_296 e_8 (by omega) rfl ?_
  refine aw_put dX12_putsBack_16 fp_X12_129 e_8 (by omega) rfl rfl (Nat.le_of_ble_eq_true rfl) rfl ?_
  refine aw_upR j_4 cm_100 ⟨_, _, _, _, _, _, _, _, _, _, _, _, tad_8, pl0_8, le0_8, nu0_8, coy_8, wag_8, say_8, rfl, by omega, by omega, by omega, by omega, by omega, by omega, by omega⟩ (by decide) (WO (s := 10) (x := .int fwasDoors_8) e_8 rfl (LMs (LMs (LMs LM0))) (by decide) (by decide) (by decide) (Or.inl (by decide))) (fun V_9 j_9 k_9 e_9 => ?_)
  refine aw_iconst (v := 0) dX12_putsBack_19 (by decide) ?_
  refine aw_istore_n (ls' := [some (.ref (b + 100)), some (.int 0)]) dX12_putsBack_20 (Nat.le_of_ble_eq_true rfl) rfl ?_
  have loop_21_9 : ∀ (g_21 : Nat), ∀ (j21 : Nat)  (V21 : Wd), j21 + g_21 = 12 → (JR D b N cl [(101, 101, 0, 1000000), (104, 104, 0, 1000000), (106, 107, 0, 1000000), (100, 100, 10, 10)] V V21) → (fI (V21 101) 208 = (fI (V 102) 208)) → (fI (V21 102) 208 = (fI (V 102) 208)) → AW l D b jX12_putsBack (fx_rm 1 0 0) none (fx_MQ D b 0 0 (fx_qv (fun N9 V9 => (fI (V9 101) 208 = fI (V 102) 208) ∧ N = N9 ∧ JR D b N cl [(101, 101, 0, 1000000), (104, 104, 0, 1000000), (106, 107, 0, 1000000), (100, 100, 10, 10)] V V9))) 21 [some (.ref (b + 100)), some (.int (nI j21))] [] N V21 0 0 := by
    intro g_21
    induction g_21 with
    | zero =>
      intro j21  V21 hj21 i21_0 i21_1 i21_2
      obtain rfl : j21 = 12 := by omega
      refine aw_iload_n dX12_putsBack_21 rfl ?_
      refine aw_bipush (v := 12) dX12_putsBack_22 (by decide) ?_
      refine aw_icmp_ge (tgt := 45) dX12_putsBack_24 (by decide) (fun c_12 => ?_) (fun c_12 => ?_)
      rotate_left
      · exact absurd (nI_le (a := 12) (b := 12) (Nat.le_refl _) (by omega)) c_12
      refine aw_iconst (v := 0) dX12_putsBack_45 (by decide) ?_
      refine aw_istore_n (ls' := [some (.ref (b + 100)), some (.int 0)]) dX12_putsBack_46 (Nat.le_of_ble_eq_true rfl) rfl ?_
      have loop_47_12 : ∀ (g_47 : Nat), ∀ (j47 : Nat)  (V47 : Wd), j47 + g_47 = 16 → (JR D b N cl [(101, 101, 0, 1000000), (104, 104, 0, 1000000), (106, 107, 0, 1000000), (100, 100, 10, 10)] V V47) → (fI (V47 101) 208 = (fI (V 102) 208)) → (fI (V47 102) 208 = (fI (V 102) 208)) → AW l D b jX12_putsBack (fx_rm 1 0 0) none (fx_MQ D b 0 0 (fx_qv (fun N9 V9 => (fI (V9 101) 208 = fI (V 102) 208) ∧ N = N9 ∧ JR D b N cl [(101, 101, 0, 1000000), (104, 104, 0, 1000000), (106, 107, 0, 1000000), (100, 100, 10, 10)] V V9))) 47 [some (.ref (b + 100)), some (.int (nI j47))] [] N V47 0 0 := by
        intro g_47
        induction g_47 with
        | zero =>
          intro j47  V47 hj47 i47_0 i47_1 i47_2
          obtain rfl : j47 = 16 := by omega
          refine aw_iload_n dX12_putsBack_47 rfl ?_
          refine aw_bipush (v := 16) dX12_putsBack_48 (by decide) ?_
          refine aw_icmp_ge (tgt := 83) dX12_putsBack_50 (by decide) (fun c_15 => ?_) (fun c_15 => ?_)
          rotate_left
          · exact absurd (nI_le (a := 16) (b := 16) (Nat.le_refl _) (by omega)) c_15
          refine aw_vreti dX12_putsBack_83 rfl (Nat.le_of_ble_eq_true rfl) (Nat.le_of_ble_eq_true rfl) ?_
          exact ⟨i47_1, rfl, i47_0⟩
        | succ g_47 ih_47_13 =>
          intro j47  V47 hj47 i47_0 i47_1 i47_2
          have hlj47 : j47 < 16 := by omega
          refine aw_iload_n dX12_putsBack_47 rfl ?_
          refine aw_bipush (v := 16) dX12_putsBack_48 (by decide) ?_
          refine aw_icmp_ge (tgt := 83) dX12_putsBack_50 (by decide) (fun c_16 => ?_) (fun c_16 => ?_)
          · exact absurd c_16 (nI_ge (a := j47) (b := 16) (by omega) (by omega))
          refine aw_aload_n dX12_putsBack_53 rfl ?_
          obtain ⟨ftoldPeople_17, ftoldDoors_17, fwasDoors_17, ffault_17, fopen_17, flines_17, fmeantSet_17, fopenedNow_17, fvainNow_17, flowNow_17, fhighNow_17, fisKept_17, tad_17, pl0_17, le0_17, nu0_17, coy_17, wag_17, say_17, e_17, hntad_17, hnpl0_17, hnle0_17, hnnu0_17, hncoy_17, hnwag_17, hnsay_17⟩ := JR.get i47_0 cm_100
          refine aw_get dX12_putsBack_54 fl_X12_25 e_17 (by omega) rfl ?_
          refine aw_iload_n dX12_putsBack_57 rfl ?_
          refine aw_aload_n dX12_putsBack_58 rfl ?_
          refine aw_get dX12_putsBack_59 fl_X12_31 e_17 (by omega) rfl ?_
          refine aw_iload_n dX12_putsBack_62 rfl ?_
          obtain ⟨g_18, e_18, p_18⟩ := JR.get i47_0 cm_108
          refine aw_iald (v := (g_18 j47)) dX12_putsBack_63 e_18 (by omega) (vp_in_nI (n := j47) (by omega) (by omega)) (congrArg g_18 (nI_clamp (n := j47) (by omega))) ?_
          obtain ⟨g_19, e_19, p_19⟩ := JR.get i47_0 cm_106
          refine aw_iast dX12_putsBack_64 e_19 (by omega) (vp_in_nI (n := j47) (by omega) (by omega)) ?_
          refine aw_upR i47_0 cm_106 ⟨_, rfl, isP_upd (P := (fun v => ∃ k : Nat, k < 16 ∧ v = nI k)) p_19 (p_18 _ (by omega))⟩ (by decide) (WA (LMs (LMs LM0)) (by decide) (by decide)) (fun V_20 j_20 k_20 e_20 => ?_)
          refine aw_aload_n dX12_putsBack_65 rfl ?_
          refine aw_get dX12_putsBack_66 fl_X12_28 ((k_20 _ (by decide)).trans e_17) (by omega) rfl ?_
          refine aw_iload_n dX12_putsBack_69 rfl ?_
          refine aw_aload_n dX12_putsBack_70 rfl ?_
          refine aw_get dX12_putsBack_71 fl_X12_34 ((k_20 _ (by decide)).trans e_17) (by omega) rfl ?_
          refine aw_iload_n dX12_putsBack_74 rfl ?_
          obtain ⟨g_22, e_22⟩ := JR.get j_20 cm_109
          refine aw_iald (v := (g_22 j47)) dX12_putsBack_75 e_22 (by omega) (vp_in_nI (n := j47) (by omega) (by omega)) (congrArg g_22 (nI_clamp (n := j47) (by omega))) ?_
          obtain ⟨g_23, e_23⟩ := JR.get j_20 cm_107
          refine aw_iast dX12_putsBack_76 e_23 (by omega) (vp_in_nI (n := j47) (by omega) (by omega)) ?_
          refine aw_upR j_20 cm_107 ⟨_, rfl⟩ (by decide) (WA (LMs (LMs LM0)) (by decide) (by decide)) (fun V_24 j_24 k_24 e_24 => ?_)
          refine aw_iinc (v := (nI (j47 + 1))) (ls' := [some (.ref (b + 100)), some (.int (nI (j47 + 1)))]) dX12_putsBack_77 rfl (fx_up_1 _) (Nat.le_of_ble_eq_true rfl) rfl ?_
          refine aw_goto (tgt := 47) dX12_putsBack_80 (by decide) ?_
          refine aw_le ?_ (ih_47_13 (j47 + 1)  V_24 (by omega) (j_24) (((congrArg (fun z => fI z 208) (k_24 _ (by omega))).trans ((congrArg (fun z => fI z 208) (k_20 _ (by omega))).trans i47_1))) (((congrArg (fun z => fI z 208) (k_24 _ (by omega))).trans ((congrArg (fun z => fI z 208) (k_20 _ (by omega))).trans i47_2))))
          exact ⟨rfl, ⟨rfl, trivial⟩⟩
      refine aw_le ?_ (loop_47_12 16 0  V21 (by omega) (i21_0) (i21_1) (i21_2))
      exact ⟨rfl, ⟨rfl, trivial⟩⟩
    | succ g_21 ih_21_10 =>
      intro j21  V21 hj21 i21_0 i21_1 i21_2
      have hlj21 : j21 < 12 := by omega
      refine aw_iload_n dX12_putsBack_21 rfl ?_
      refine aw_bipush (v := 12) dX12_putsBack_22 (by decide) ?_
      refine aw_icmp_ge (tgt := 45) dX12_putsBack_24 (by decide) (fun c_25 => ?_) (fun c_25 => ?_)
      · exact absurd c_25 (nI_ge (a := j21) (b := 12) (by omega) (by omega))
      refine aw_aload_n dX12_putsBack_27 rfl ?_
      obtain ⟨ftoldPeople_26, ftoldDoors_26, fwasDoors_26, ffault_26, fopen_26, flines_26, fmeantSet_26, fopenedNow_26, fvainNow_26, flowNow_26, fhighNow_26, fisKept_26, tad_26, pl0_26, le0_26, nu0_26, coy_26, wag_26, say_26, e_26, hntad_26, hnpl0_26, hnle0_26, hnnu0_26, hncoy_26, hnwag_26, hnsay_26⟩ := JR.get i21_0 cm_100
      refine aw_get dX12_putsBack_28 fl_X12_19 e_26 (by omega) rfl ?_
      refine aw_iload_n dX12_putsBack_31 rfl ?_
      refine aw_aload_n dX12_putsBack_32 rfl ?_
      refine aw_get dX12_putsBack_33 fl_X12_22 e_26 (by omega) rfl ?_
      refine aw_iload_n dX12_putsBack_36 rfl ?_
      obtain ⟨g_27, e_27, p_27⟩ := JR.get i21_0 cm_105
      refine aw_iald (v := (g_27 j21)) dX12_putsBack_37 e_27 (by omega) (vp_in_nI (n := j21) (by omega) (by omega)) (congrArg g_27 (nI_clamp (n := j21) (by omega))) ?_
      obtain ⟨g_28, e_28, p_28⟩ := JR.get i21_0 cm_104
      refine aw_iast dX12_putsBack_38 e_28 (by omega) (vp_in_nI (n := j21) (by omega) (by omega)) ?_
      refine aw_upR i21_0 cm_104 ⟨_, rfl, isP_upd (P := (fun v => ∃ k : Nat, k < 4096 ∧ v = nI k)) p_28 (p_27 _ (by omega))⟩ (by decide) (WA (LMs LM0) (by decide) (by decide)) (fun V_29 j_29 k_29 e_29 => ?_)
      refine aw_iinc (v := (nI (j21 + 1))) (ls' := [some (.ref (b + 100)), some (.int (nI (j21 + 1)))]) dX12_putsBack_39 rfl (fx_up_1 _) (Nat.le_of_ble_eq_true rfl) rfl ?_
      refine aw_goto (tgt := 21) dX12_putsBack_42 (by decide) ?_
      refine aw_le ?_ (ih_21_10 (j21 + 1)  V_29 (by omega) (j_29) (((congrArg (fun z => fI z 208) (k_29 _ (by omega))).trans i21_1)) (((congrArg (fun z => fI z 208) (k_29 _ (by omega))).trans i21_2)))
      exact ⟨rfl, ⟨rfl, trivial⟩⟩
  refine aw_le ?_ (loop_21_9 12 0  V_9 (by omega) (j_9) ((KA (s := 10) (x := .int fwasDoors_8) e_8 rfl (by decide) e_9 k_9 ((h_3 208 (by decide)).trans (Eq.refl (fI (V 102) 208))))) ((KA (s := 10) (x := .int fwasDoors_8) e_8 rfl (by decide) e_9 k_9 ((JR.fI q_2 (by decide) (by decide) (nfc (by omega) nf0)).trans (Eq.refl (fI (V 102) 208))))))
  exact ⟨rfl, ⟨rfl, trivial⟩⟩

set_option maxHeartbeats 4000000 in
set_option maxRecDepth 100000 in
theorem r_ordersK (l : Launch) (D : va_G) (b : Nat) (N : Nat) (V : Wd) (hN : 133 ≤ N) (cl : Nat) (hW : CR D b cl V) (n0 : Int32) (m0 : Int32) (hm : m0 = n0) : MI l D b 6 jX12_orders [.ref (b + 100), .int n0] N V 0 0 (fun r N9 V9 => (TKS (cIn m0 1 120 (fI (V 100) 13)) (fI (V 100) 13) (fI (V9 100) 13) ∧ fI (V9 101) 208 = fI (V 101) 208) ∧ N = N9 ∧ JR D b N cl [(101, 102, 0, 1000000), (104, 109, 0, 1000000), (100, 100, 14, 14), (100, 100, 15, 15), (100, 100, 19, 19), (100, 100, 21, 21), (100, 100, 36, 36), (100, 100, 11, 11), (100, 100, 17, 17), (100, 100, 16, 16), (100, 100, 10, 10), (100, 100, 13, 13)] V V9) := by
  have hJ0 : JR D b N cl [(101, 102, 0, 1000000), (104, 109, 0, 1000000), (100, 100, 14, 14), (100, 100, 15, 15), (100, 100, 19, 19), (100, 100, 21, 21), (100, 100, 36, 36), (100, 100, 11, 11), (100, 100, 17, 17), (100, 100, 16, 16), (100, 100, 10, 10), (100, 100, 13, 13)] V V := JR.rf hW
  refine mw_of (by decide) (by simp [Value.category]) (Nat.le_of_ble_eq_true rfl) ?_
  show AW l D b jX12_orders (fx_rm 6 0 0) none (fx_MQ D b 0 0 (fx_qi (fun r N9 V9 => (TKS (cIn m0 1 120 (fI (V 100) 13)) (fI (V 100) 13) (fI (V9 100) 13) ∧ fI (V9 101) 208 = fI (V 101) 208) ∧ N = N9 ∧ JR D b N cl [(101, 102, 0, 1000000), (104, 109, 0, 1000000), (100, 100, 14, 14), (100, 100, 15, 15), (100, 100, 19, 19), (100, 100, 21, 21), (100, 100, 36, 36), (100, 100, 11, 11), (100, 100, 17, 17), (100, 100, 16, 16), (100, 100, 10, 10), (100, 100, 13, 13)] V V9))) 0 [some (.ref (b + 100)), some (.int n0), none] [] N V 0 0
  obtain ⟨ftoldPeople_1, ftoldDoors_1, fwasDoors_1, ffault_1, fopen_1, flines_1, fmeantSet_1, fopenedNow_1, fvainNow_1, flowNow_1, fhighNow_1, fisKept_1, tad_1, pl0_1, le0_1, nu0_1, coy_1, wag_1, say_1, e_1, hntad_1, hnpl0_1, hnle0_1, hnnu0_1, hncoy_1, hnwag_1, hnsay_1⟩ := JR.get hJ0 cm_100
  have hta0 : fI (V 100) 13 = nI tad_1 := ((congrArg (fun z => fI z 13) e_1).trans rfl)
  refine aw_iload_n dX12_orders_0 rfl ?_
  refine aw_iconst (v := 1) dX12_orders_1 (by decide) ?_
  refine aw_bipush (v := 120) dX12_orders_2 (by decide) ?_
  refine aw_callSi (J' := jX12_in) (As := [.int n0, .int 1, .int 120]) (st := []) dX12_orders_4 tb_1209 ok_X12_in rfl (r_inK l D b N V hN cl hJ0.1 n0 1 120) rfl (Nat.le_of_ble_eq_true rfl) ⟨Nat.le_of_ble_eq_true rfl, Nat.le_of_ble_eq_true rfl, Nat.le_of_ble_eq_true rfl, Nat.le_of_ble_eq_true rfl⟩ (fun r_7 N_8 V_9 q_10 => ?_)
  obtain ⟨⟨z_4, h_3⟩, rfl, rfl⟩ := q_10
  obtain ⟨hi_5, hi_6⟩ := h_3
  refine aw_if_eq (tgt := 18) dX12_orders_7 (by decide) (fun c_11 => ?_) (fun c_11 => ?_)
  · skip
    refine aw_iconst (v := (-1)) dX12_orders_18 (by decide) ?_
    refine aw_ireti dX12_orders_19 rfl (Nat.le_of_ble_eq_true rfl) (Nat.le_of_ble_eq_true rfl) ?_
    exact ⟨⟨Or.inr ⟨(by have zhi_6 := hi_6 c_11; have zt := fx_nIt (n := tad_1) (by omega); have e0 : (0 : Int32).toInt = 0 := (by decide); have e1 : (1 : Int32).toInt = 1 := (by decide); have e120 : (120 : Int32).toInt = 120 := (by decide); have q0 := zhi_6; have q1 := hm; have q2 := hta0; simp only [cIn, ← Int32.toInt_inj, Int32.le_iff_toInt_le, Int32.lt_iff_toInt_lt] at q0 q1 q2 ⊢; omega), (Eq.refl (fI (V 100) 13))⟩, (Eq.refl (fI (V 101) 208))⟩, rfl, hJ0⟩
  · skip
    obtain ⟨zn0, h0zn0, hzn0, rfl⟩ := in_nat (a := 1) (b := 120) (by decide) (hi_5.resolve_left c_11)
    refine aw_iload_n dX12_orders_10 rfl ?_
    refine aw_aload_n dX12_orders_11 rfl ?_
    refine aw_get dX12_orders_12 fl_X12_152 e_1 (by omega) rfl ?_
    refine aw_icmp_le (tgt := 20) dX12_orders_15 (by decide) (fun c_12 => ?_) (fun c_12 => ?_)
    · skip
      have nc_12 : zn0 ≤ tad_1 := (nI_leI (a := zn0) (b := tad_1) (by omega) (by omega)).mp c_12
      refine aw_aload_n dX12_orders_20 rfl ?_
      refine aw_iload_n dX12_orders_21 rfl ?_
      refine aw_callVv (J' := jX12_beginsText) (As := [.int (nI zn0)]) (st := []) dX12_orders_22 tb_1212 ok_X12_beginsText ⟨_, e_1⟩ (by omega) rfl rfl (r_beginsText l D b N V hN cl hJ0.1 (nI zn0) ⟨zn0, by omega, rfl⟩) rfl (Nat.le_of_ble_eq_true rfl) ⟨Nat.le_of_ble_eq_true rfl, Nat.le_of_ble_eq_true rfl, Nat.le_of_ble_eq_true rfl, Nat.le_of_ble_eq_true rfl⟩ (fun  N_24 V_16 q_25 => ?_)
      obtain ⟨h_14, rfl, q_13⟩ := q_25
      have j_15 := JR.trans hJ0 (JR.weak q_13 (Sub.cons (LMs (LMs LM0)) (by decide) (by decide) (by decide) (Or.inr ⟨by decide, by decide⟩) (Sub.cons (LMs (LMs (LMs LM0))) (by decide) (by decide) (by decide) (Or.inr ⟨by decide, by decide⟩) (Sub.cons (LMs (LMs (LMs (LMs LM0)))) (by decide) (by decide) (by decide) (Or.inr ⟨by decide, by decide⟩) (Sub.cons (LMs (LMs (LMs (LMs (LMs LM0))))) (by decide) (by decide) (by decide) (Or.inr ⟨by decide, by decide⟩) Sub.nil)))))
      obtain ⟨hB_17, hB_19, hB_20, hB_21, hB_22, hB_18⟩ := h_14
      have hk_k23 : zn0 = hB_21 := (nI_eq (by omega) (by omega)).mp hB_22.1
      obtain ⟨ftoldPeople_k23, ftoldDoors_k23, fwasDoors_k23, ffault_k23, fopen_k23, flines_k23, fmeantSet_k23, fopenedNow_k23, fvainNow_k23, flowNow_k23, fhighNow_k23, fisKept_k23, tad_k23, pl0_k23, le0_k23, nu0_k23, coy_k23, wag_k23, say_k23, e_k23, hntad_k23, hnpl0_k23, hnle0_k23, hnnu0_k23, hncoy_k23, hnwag_k23, hnsay_k23⟩ := JR.get j_15 cm_100
      have hq0_k23 := FG.eq hB_17 e_k23 rfl (by omega) (by omega)
      have hq1_k23 := FG.eq hB_18 e_k23 rfl (by omega) (by omega)
      have hq2_k23 := FG.eq hB_19 e_k23 rfl (by omega) (by omega)
      have hq3_k23 := FG.eq hB_20 e_k23 rfl (by omega) (by omega)
      refine aw_aload_n dX12_orders_25 rfl ?_
      refine aw_iconst (v := 0) dX12_orders_26 (by decide) ?_
      refine aw_put dX12_orders_27 fp_X12_268 e_k23 (by omega) rfl rfl (Nat.le_of_ble_eq_true rfl) rfl ?_
      refine aw_upR j_15 cm_100 ⟨_, _, _, _, _, _, _, _, _, _, _, _, tad_k23, pl0_k23, le0_k23, nu0_k23, coy_k23, wag_k23, say_k23, rfl, by omega, by omega, by omega, by omega, by omega, by omega, by omega⟩ (by decide) (WO (s := 36) (x := .int 0) e_k23 rfl (LMs (LMs (LMs (LMs (LMs (LMs LM0)))))) (by decide) (by decide) (by decide) (Or.inl (by decide))) (fun V_26 j_26 k_26 e_26 => ?_)
      refine aw_aload_n dX12_orders_30 rfl ?_
      refine aw_callVv (J' := jX12_laysAside) (As := []) (st := []) dX12_orders_31 tb_1335 ok_X12_laysAside ⟨_, e_26⟩ (by omega) rfl rfl (r_laysAsideK l D b N V_26 hN cl j_26.1) rfl (Nat.le_of_ble_eq_true rfl) ⟨Nat.le_of_ble_eq_true rfl, Nat.le_of_ble_eq_true rfl, Nat.le_of_ble_eq_true rfl, Nat.le_of_ble_eq_true rfl⟩ (fun  N_31 V_30 q_32 => ?_)
      obtain ⟨h_28, rfl, q_27⟩ := q_32
      have j_29 := JR.trans j_26 (JR.weak q_27 (Sub.cons LM0 (by decide) (by decide) (by decide) (Or.inl rfl) (Sub.cons (LMs LM0) (by decide) (by decide) (by decide) (Or.inl rfl) (Sub.cons (LMs LM0) (by decide) (by decide) (by decide) (Or.inl rfl) (Sub.cons (LMs (LMs (LMs (LMs (LMs (LMs (LMs LM0))))))) (by decide) (by decide) (by decide) (Or.inr ⟨by decide, by decide⟩) Sub.nil)))))
      refine aw_aload_n dX12_orders_34 rfl ?_
      obtain ⟨ftoldPeople_33, ftoldDoors_33, fwasDoors_33, ffault_33, fopen_33, flines_33, fmeantSet_33, fopenedNow_33, fvainNow_33, flowNow_33, fhighNow_33, fisKept_33, tad_33, pl0_33, le0_33, nu0_33, coy_33, wag_33, say_33, e_33, hntad_33, hnpl0_33, hnle0_33, hnnu0_33, hncoy_33, hnwag_33, hnsay_33⟩ := JR.get j_29 cm_100
      obtain ⟨g_46, e_46⟩ := JR.get j_29 cm_110
      refine aw_callVi (J' := jX12_readsOrder) (As := []) (st := []) dX12_orders_35 tb_1339 ok_X12_readsOrder ⟨_, e_33⟩ (by omega) rfl rfl (r_readsOrder l D b N V_30 hN cl j_29.1 pl0_33 le0_33 (FG.of e_33 rfl rfl) (FG.of e_33 rfl rfl) ⟨by omega, by omega⟩) rfl (Nat.le_of_ble_eq_true rfl) ⟨Nat.le_of_ble_eq_true rfl, Nat.le_of_ble_eq_true rfl, Nat.le_of_ble_eq_true rfl, Nat.le_of_ble_eq_true rfl⟩ (fun r_48 N_49 V_38 q_50 => ?_)
      obtain ⟨⟨z_36, h_35⟩, rfl, q_34⟩ := q_50
      have j_37 := JR.trans j_29 (JR.weak q_34 (Sub.cons (LMs LM0) (by decide) (by decide) (by decide) (Or.inl rfl) (Sub.cons (LMs LM0) (by decide) (by decide) (by decide) (Or.inl rfl) (Sub.cons (LMs (LMs (LMs (LMs (LMs (LMs LM0)))))) (by decide) (by decide) (by decide) (Or.inr ⟨by decide, by decide⟩) (Sub.cons (LMs (LMs LM0)) (by decide) (by decide) (by decide) (Or.inr ⟨by decide, by decide⟩) (Sub.cons (LMs (LMs (LMs (LMs (LMs (LMs (LMs (LMs LM0)))))))) (by decide) (by decide) (by decide) (Or.inr ⟨by decide, by decide⟩) (Sub.cons (LMs (LMs (LMs (LMs (LMs (LMs (LMs (LMs (LMs LM0))))))))) (by decide) (by decide) (by decide) (Or.inr ⟨by decide, by decide⟩) (Sub.cons (LMs (LMs (LMs (LMs (LMs (LMs (LMs (LMs (LMs (LMs LM0)))))))))) (by decide) (by decide) (by decide) (Or.inr ⟨by decide, by decide⟩) (Sub.cons LM0 (by decide) (by decide) (by decide) (Or.inl rfl) Sub.nil)))))))))
      obtain ⟨a_39, ha_40, hA_41, hF_42, hL_43, hz_44⟩ := h_35
      obtain ⟨ftoldPeople_k47, ftoldDoors_k47, fwasDoors_k47, ffault_k47, fopen_k47, flines_k47, fmeantSet_k47, fopenedNow_k47, fvainNow_k47, flowNow_k47, fhighNow_k47, fisKept_k47, tad_k47, pl0_k47, le0_k47, nu0_k47, coy_k47, wag_k47, say_k47, e_k47, hntad_k47, hnpl0_k47, hnle0_k47, hnnu0_k47, hncoy_k47, hnwag_k47, hnsay_k47⟩ := JR.get j_37 cm_100
      have hqp_k47 := FG.eq hF_42 e_k47 rfl (by omega) (by omega)
      have hql_k47 := FG.eq hL_43 e_k47 rfl (by omega) (by omega)
      refine aw_istore_n (ls' := [some (.ref (b + 100)), some (.int (nI zn0)), some (.int r_48)]) dX12_orders_38 (Nat.le_of_ble_eq_true rfl) rfl ?_
      have ml_39_51 : ∀ (m : Nat) (a39 : Nat) (v39_2 : Int32) (V39 : Wd), m = 2 * (240 - a39) + (if v39_2 = 0 then 0 else 1) → (JR D b N cl [(101, 102, 0, 1000000), (104, 109, 0, 1000000), (100, 100, 14, 14), (100, 100, 15, 15), (100, 100, 19, 19), (100, 100, 21, 21), (100, 100, 36, 36), (100, 100, 11, 11), (100, 100, 17, 17), (100, 100, 16, 16), (100, 100, 10, 10), (100, 100, 13, 13)] V V39) → (FG b 14 a39 V39) → (FG b 15 le0_k47 V39) → (a39 ≤ 240 ∧ le0_k47 ≤ 240) → (fI (V39 101) 208 = (fI (V 101) 208)) → (fI (V39 102) 208 = (fI (V 101) 208)) → (fI (V39 100) 13 = (fI (V 100) 13)) → AW l D b jX12_orders (fx_rm 6 0 0) none (fx_MQ D b 0 0 (fx_qi (fun r N9 V9 => (TKS (cIn m0 1 120 (fI (V 100) 13)) (fI (V 100) 13) (fI (V9 100) 13) ∧ fI (V9 101) 208 = fI (V 101) 208) ∧ N = N9 ∧ JR D b N cl [(101, 102, 0, 1000000), (104, 109, 0, 1000000), (100, 100, 14, 14), (100, 100, 15, 15), (100, 100, 19, 19), (100, 100, 21, 21), (100, 100, 36, 36), (100, 100, 11, 11), (100, 100, 17, 17), (100, 100, 16, 16), (100, 100, 10, 10), (100, 100, 13, 13)] V V9))) 39 [some (.ref (b + 100)), some (.int (nI zn0)), some (.int v39_2)] [] N V39 0 0 := by
        intro m; refine Nat.strongRecOn m ?_
        intro m mih_39_51 a39 v39_2 V39 hm39 i39_0 i39_1 i39_2 i39_3 i39_4 i39_5 i39_6
        obtain ⟨ftoldPeople_52, ftoldDoors_52, fwasDoors_52, ffault_52, fopen_52, flines_52, fmeantSet_52, fopenedNow_52, fvainNow_52, flowNow_52, fhighNow_52, fisKept_52, tad_52, pl0_52, le0_52, nu0_52, coy_52, wag_52, say_52, e_52, hntad_52, hnpl0_52, hnle0_52, hnnu0_52, hncoy_52, hnwag_52, hnsay_52⟩ := JR.get i39_0 cm_100
        have hqp_39 := FG.eq i39_1 e_52 rfl (by omega) (by omega)
        have hql_39 := FG.eq i39_2 e_52 rfl (by omega) (by omega)
        refine aw_iload_n dX12_orders_39 rfl ?_
        refine aw_if_eq (tgt := 79) dX12_orders_40 (by decide) (fun c_53 => ?_) (fun c_53 => ?_)
        · skip
          refine aw_aload_n dX12_orders_79 rfl ?_
          refine aw_iconst (v := 0) dX12_orders_80 (by decide) ?_
          refine aw_put dX12_orders_81 fp_X12_152 e_52 (by omega) rfl rfl (Nat.le_of_ble_eq_true rfl) rfl ?_
          refine aw_upR i39_0 cm_100 ⟨_, _, _, _, _, _, _, _, _, _, _, _, 0, pl0_52, le0_52, nu0_52, coy_52, wag_52, say_52, rfl, by omega, by omega, by omega, by omega, by omega, by omega, by omega⟩ (by decide) (WO (s := 13) (x := .int 0) e_52 rfl (LMs (LMs (LMs (LMs (LMs (LMs (LMs (LMs (LMs (LMs (LMs LM0))))))))))) (by decide) (by decide) (by decide) (Or.inl (by decide))) (fun V_54 j_54 k_54 e_54 => ?_)
          refine aw_iload_n dX12_orders_84 rfl ?_
          refine aw_if_eq (tgt := 93) dX12_orders_85 (by decide) (fun c_55 => ?_) (fun c_55 => ?_)
          rotate_left
          · exact absurd c_53 c_55
          refine aw_aload_n dX12_orders_93 rfl ?_
          refine aw_callVv (J' := jX12_putsBack) (As := []) (st := []) dX12_orders_94 tb_1363 ok_X12_putsBack ⟨_, e_54⟩ (by omega) rfl rfl (r_putsBackK l D b N V_54 hN cl j_54.1) rfl (Nat.le_of_ble_eq_true rfl) ⟨Nat.le_of_ble_eq_true rfl, Nat.le_of_ble_eq_true rfl, Nat.le_of_ble_eq_true rfl, Nat.le_of_ble_eq_true rfl⟩ (fun  N_60 V_59 q_61 => ?_)
          obtain ⟨h_57, rfl, q_56⟩ := q_61
          have j_58 := JR.trans j_54 (JR.weak q_56 (Sub.cons LM0 (by decide) (by decide) (by decide) (Or.inl rfl) (Sub.cons (LMs LM0) (by decide) (by decide) (by decide) (Or.inl rfl) (Sub.cons (LMs LM0) (by decide) (by decide) (by decide) (Or.inl rfl) (Sub.cons (LMs (LMs (LMs (LMs (LMs (LMs (LMs (LMs (LMs (LMs LM0)))))))))) (by decide) (by decide) (by decide) (Or.inr ⟨by decide, by decide⟩) Sub.nil)))))
          refine aw_aload_n dX12_orders_97 rfl ?_
          obtain ⟨ftoldPeople_62, ftoldDoors_62, fwasDoors_62, ffault_62, fopen_62, flines_62, fmeantSet_62, fopenedNow_62, fvainNow_62, flowNow_62, fhighNow_62, fisKept_62, tad_62, pl0_62, le0_62, nu0_62, coy_62, wag_62, say_62, e_62, hntad_62, hnpl0_62, hnle0_62, hnnu0_62, hncoy_62, hnwag_62, hnsay_62⟩ := JR.get j_58 cm_100
          refine aw_get dX12_orders_98 fl_X12_169 e_62 (by omega) rfl ?_
          refine aw_ireti dX12_orders_101 rfl (Nat.le_of_ble_eq_true rfl) (Nat.le_of_ble_eq_true rfl) ?_
          exact ⟨⟨Or.inl ⟨(by have zhi_5 := hi_5.resolve_left c_11; have zzzn0 := fx_nIt (n := zn0) (by omega); have zt := fx_nIt (n := tad_1) (by omega); have e0 : (0 : Int32).toInt = 0 := (by decide); have e1 : (1 : Int32).toInt = 1 := (by decide); have e120 : (120 : Int32).toInt = 120 := (by decide); have q0 := zhi_5; have q1 := hm; have q2 := hta0; simp only [cIn, ← Int32.toInt_inj, Int32.le_iff_toInt_le, Int32.lt_iff_toInt_lt] at q0 q1 q2 ⊢; omega), ((JR.fI q_56 (by decide) (by decide) (nfc (by omega) (nfc (by omega) (nfc (by omega) (nfc (by omega) nf0))))).trans ((congrArg (fun z => fI z 13) e_54).trans rfl))⟩, (h_57.trans (KA (s := 13) (x := .int 0) e_52 rfl (by decide) e_54 k_54 i39_5))⟩, rfl, j_58⟩
        · skip
          refine aw_aload_n dX12_orders_43 rfl ?_
          refine aw_get dX12_orders_44 fl_X12_159 e_52 (by omega) rfl ?_
          refine aw_aload_n dX12_orders_47 rfl ?_
          refine aw_get dX12_orders_48 fl_X12_162 e_52 (by omega) rfl ?_
          refine aw_icmp_ge (tgt := 79) dX12_orders_51 (by decide) (fun c_63 => ?_) (fun c_63 => ?_)
          · skip
            have nc_63 : le0_52 ≤ pl0_52 := (nI_leI (a := le0_52) (b := pl0_52) (by omega) (by omega)).mp c_63
            refine aw_aload_n dX12_orders_79 rfl ?_
            refine aw_iconst (v := 0) dX12_orders_80 (by decide) ?_
            refine aw_put dX12_orders_81 fp_X12_152 e_52 (by omega) rfl rfl (Nat.le_of_ble_eq_true rfl) rfl ?_
            refine aw_upR i39_0 cm_100 ⟨_, _, _, _, _, _, _, _, _, _, _, _, 0, pl0_52, le0_52, nu0_52, coy_52, wag_52, say_52, rfl, by omega, by omega, by omega, by omega, by omega, by omega, by omega⟩ (by decide) (WO (s := 13) (x := .int 0) e_52 rfl (LMs (LMs (LMs (LMs (LMs (LMs (LMs (LMs (LMs (LMs (LMs LM0))))))))))) (by decide) (by decide) (by decide) (Or.inl (by decide))) (fun V_64 j_64 k_64 e_64 => ?_)
            refine aw_iload_n dX12_orders_84 rfl ?_
            refine aw_if_eq (tgt := 93) dX12_orders_85 (by decide) (fun c_65 => ?_) (fun c_65 => ?_)
            · first | exact absurd c_65 c_53 | exact absurd c_53 c_65 | exact absurd c_65 (Int32.not_lt.mpr c_53) | exact absurd c_53 (Int32.not_lt.mpr c_65) | exact c_53 (Int32.not_lt.mp c_65) | exact c_53 (Int32.not_le.mp c_65)
            refine aw_aload_n dX12_orders_88 rfl ?_
            refine aw_get dX12_orders_89 fl_X12_268 e_64 (by omega) rfl ?_
            refine aw_ireti dX12_orders_92 rfl (Nat.le_of_ble_eq_true rfl) (Nat.le_of_ble_eq_true rfl) ?_
            exact ⟨⟨Or.inl ⟨(by have zhi_5 := hi_5.resolve_left c_11; have zzzn0 := fx_nIt (n := zn0) (by omega); have zt := fx_nIt (n := tad_1) (by omega); have e0 : (0 : Int32).toInt = 0 := (by decide); have e1 : (1 : Int32).toInt = 1 := (by decide); have e120 : (120 : Int32).toInt = 120 := (by decide); have q0 := zhi_5; have q1 := hm; have q2 := hta0; simp only [cIn, ← Int32.toInt_inj, Int32.le_iff_toInt_le, Int32.lt_iff_toInt_lt] at q0 q1 q2 ⊢; omega), ((congrArg (fun z => fI z 13) e_64).trans rfl)⟩, (KA (s := 13) (x := .int 0) e_52 rfl (by decide) e_64 k_64 i39_4)⟩, rfl, j_64⟩
          · skip
            have nc_63 : ¬ (le0_52 ≤ pl0_52) := fun z => c_63 ((nI_leI (a := le0_52) (b := pl0_52) (by omega) (by omega)).mpr z)
            refine aw_aload_n dX12_orders_54 rfl ?_
            refine aw_bipush (v := 59) dX12_orders_55 (by decide) ?_
            obtain ⟨g_78, e_78⟩ := JR.get i39_0 cm_110
            refine aw_callVi (J' := jX12_takes) (As := [.int 59]) (st := []) dX12_orders_57 tb_1291 ok_X12_takes ⟨_, e_52⟩ (by omega) rfl rfl (r_takes l D b N V39 hN cl i39_0.1 59 pl0_52 le0_52 (FG.of e_52 rfl rfl) (FG.of e_52 rfl rfl) ⟨by omega, by omega⟩ (by decide)) rfl (Nat.le_of_ble_eq_true rfl) ⟨Nat.le_of_ble_eq_true rfl, Nat.le_of_ble_eq_true rfl, Nat.le_of_ble_eq_true rfl, Nat.le_of_ble_eq_true rfl⟩ (fun r_80 N_81 V_70 q_82 => ?_)
            obtain ⟨⟨z_68, h_67⟩, rfl, q_66⟩ := q_82
            have j_69 := JR.trans i39_0 (JR.weak q_66 (Sub.cons (LMs (LMs LM0)) (by decide) (by decide) (by decide) (Or.inr ⟨by decide, by decide⟩) (Sub.cons (LMs (LMs (LMs (LMs (LMs (LMs (LMs (LMs (LMs LM0))))))))) (by decide) (by decide) (by decide) (Or.inr ⟨by decide, by decide⟩) Sub.nil)))
            obtain ⟨a_71, ha_72, hA_73, hF_74, hL_75, hz_76, hX_77⟩ := h_67
            obtain ⟨ftoldPeople_k79, ftoldDoors_k79, fwasDoors_k79, ffault_k79, fopen_k79, flines_k79, fmeantSet_k79, fopenedNow_k79, fvainNow_k79, flowNow_k79, fhighNow_k79, fisKept_k79, tad_k79, pl0_k79, le0_k79, nu0_k79, coy_k79, wag_k79, say_k79, e_k79, hntad_k79, hnpl0_k79, hnle0_k79, hnnu0_k79, hncoy_k79, hnwag_k79, hnsay_k79⟩ := JR.get j_69 cm_100
            have hqp_k79 := FG.eq hF_74 e_k79 rfl (by omega) (by omega)
            have hql_k79 := FG.eq hL_75 e_k79 rfl (by omega) (by omega)
            refine aw_if_eq (tgt := 74) dX12_orders_60 (by decide) (fun c_83 => ?_) (fun c_83 => ?_)
            · skip
              refine aw_iconst (v := 0) dX12_orders_74 (by decide) ?_
              refine aw_istore_n (ls' := [some (.ref (b + 100)), some (.int (nI zn0)), some (.int 0)]) dX12_orders_75 (Nat.le_of_ble_eq_true rfl) rfl ?_
              refine aw_goto (tgt := 39) dX12_orders_76 (by decide) ?_
              refine aw_le ?_ (mih_39_51 _ (by rw [hm39]; exact tl_dec c_53 (by omega) (Or.inl rfl) (by omega)) pl0_k79 0 V_70 rfl (j_69) ((FG.of e_k79 rfl rfl)) ((FG.of e_k79 rfl (by omega : le0_k79 = le0_k47))) (by omega) (((JR.fI q_66 (by decide) (by decide) (nfc (by omega) (nfc (by omega) nf0))).trans i39_4)) (((JR.fI q_66 (by decide) (by decide) (nfc (by omega) (nfc (by omega) nf0))).trans i39_5)) (((JR.fI q_66 (by decide) (by decide) (nfc (by omega) (nfc (by omega) nf0))).trans i39_6)))
              exact ⟨rfl, ⟨rfl, ⟨rfl, trivial⟩⟩⟩
            · skip
              refine aw_aload_n dX12_orders_63 rfl ?_
              refine aw_callVi (J' := jX12_readsOrder) (As := []) (st := []) dX12_orders_64 tb_1339 ok_X12_readsOrder ⟨_, e_k79⟩ (by omega) rfl rfl (r_readsOrder l D b N V_70 hN cl j_69.1 pl0_k79 le0_k79 (FG.of e_k79 rfl rfl) (FG.of e_k79 rfl rfl) ⟨by omega, by omega⟩) rfl (Nat.le_of_ble_eq_true rfl) ⟨Nat.le_of_ble_eq_true rfl, Nat.le_of_ble_eq_true rfl, Nat.le_of_ble_eq_true rfl, Nat.le_of_ble_eq_true rfl⟩ (fun r_97 N_98 V_88 q_99 => ?_)
              obtain ⟨⟨z_86, h_85⟩, rfl, q_84⟩ := q_99
              have j_87 := JR.trans j_69 (JR.weak q_84 (Sub.cons (LMs LM0) (by decide) (by decide) (by decide) (Or.inl rfl) (Sub.cons (LMs LM0) (by decide) (by decide) (by decide) (Or.inl rfl) (Sub.cons (LMs (LMs (LMs (LMs (LMs (LMs LM0)))))) (by decide) (by decide) (by decide) (Or.inr ⟨by decide, by decide⟩) (Sub.cons (LMs (LMs LM0)) (by decide) (by decide) (by decide) (Or.inr ⟨by decide, by decide⟩) (Sub.cons (LMs (LMs (LMs (LMs (LMs (LMs (LMs (LMs LM0)))))))) (by decide) (by decide) (by decide) (Or.inr ⟨by decide, by decide⟩) (Sub.cons (LMs (LMs (LMs (LMs (LMs (LMs (LMs (LMs (LMs LM0))))))))) (by decide) (by decide) (by decide) (Or.inr ⟨by decide, by decide⟩) (Sub.cons (LMs (LMs (LMs (LMs (LMs (LMs (LMs (LMs (LMs (LMs LM0)))))))))) (by decide) (by decide) (by decide) (Or.inr ⟨by decide, by decide⟩) (Sub.cons LM0 (by decide) (by decide) (by decide) (Or.inl rfl) Sub.nil)))))))))
              obtain ⟨a_89, ha_90, hA_91, hF_92, hL_93, hz_94⟩ := h_85
              obtain ⟨ftoldPeople_k96, ftoldDoors_k96, fwasDoors_k96, ffault_k96, fopen_k96, flines_k96, fmeantSet_k96, fopenedNow_k96, fvainNow_k96, flowNow_k96, fhighNow_k96, fisKept_k96, tad_k96, pl0_k96, le0_k96, nu0_k96, coy_k96, wag_k96, say_k96, e_k96, hntad_k96, hnpl0_k96, hnle0_k96, hnnu0_k96, hncoy_k96, hnwag_k96, hnsay_k96⟩ := JR.get j_87 cm_100
              have hqp_k96 := FG.eq hF_92 e_k96 rfl (by omega) (by omega)
              have hql_k96 := FG.eq hL_93 e_k96 rfl (by omega) (by omega)
              refine aw_if_eq (tgt := 74) dX12_orders_67 (by decide) (fun c_100 => ?_) (fun c_100 => ?_)
              · skip
                refine aw_iconst (v := 0) dX12_orders_74 (by decide) ?_
                refine aw_istore_n (ls' := [some (.ref (b + 100)), some (.int (nI zn0)), some (.int 0)]) dX12_orders_75 (Nat.le_of_ble_eq_true rfl) rfl ?_
                refine aw_goto (tgt := 39) dX12_orders_76 (by decide) ?_
                refine aw_le ?_ (mih_39_51 _ (by rw [hm39]; exact tl_dec c_53 (by omega) (Or.inl rfl) (by omega)) pl0_k96 0 V_88 rfl (j_87) ((FG.of e_k96 rfl rfl)) ((FG.of e_k96 rfl (by omega : le0_k96 = le0_k47))) (by omega) (((JR.fI q_84 (by decide) (by decide) (nfc (by omega) (nfc (by omega) (nfc (by omega) (nfc (by omega) (nfc (by omega) (nfc (by omega) (nfc (by omega) (nfc (by omega) nf0))))))))).trans ((JR.fI q_66 (by decide) (by decide) (nfc (by omega) (nfc (by omega) nf0))).trans i39_4))) (((JR.fI q_84 (by decide) (by decide) (nfc (by omega) (nfc (by omega) (nfc (by omega) (nfc (by omega) (nfc (by omega) (nfc (by omega) (nfc (by omega) (nfc (by omega) nf0))))))))).trans ((JR.fI q_66 (by decide) (by decide) (nfc (by omega) (nfc (by omega) nf0))).trans i39_5))) (((JR.fI q_84 (by decide) (by decide) (nfc (by omega) (nfc (by omega) (nfc (by omega) (nfc (by omega) (nfc (by omega) (nfc (by omega) (nfc (by omega) (nfc (by omega) nf0))))))))).trans ((JR.fI q_66 (by decide) (by decide) (nfc (by omega) (nfc (by omega) nf0))).trans i39_6))))
                exact ⟨rfl, ⟨rfl, ⟨rfl, trivial⟩⟩⟩
              · skip
                refine aw_iconst (v := 1) dX12_orders_70 (by decide) ?_
                refine aw_goto (tgt := 75) dX12_orders_71 (by decide) ?_
                refine aw_istore_n (ls' := [some (.ref (b + 100)), some (.int (nI zn0)), some (.int 1)]) dX12_orders_75 (Nat.le_of_ble_eq_true rfl) rfl ?_
                refine aw_goto (tgt := 39) dX12_orders_76 (by decide) ?_
                refine aw_le ?_ (mih_39_51 _ (by rw [hm39]; exact tl_dec c_53 (by omega) (Or.inr (by have := hX_77.resolve_left c_83; omega)) (by omega)) pl0_k96 1 V_88 rfl (j_87) ((FG.of e_k96 rfl rfl)) ((FG.of e_k96 rfl (by omega : le0_k96 = le0_k47))) (by omega) (((JR.fI q_84 (by decide) (by decide) (nfc (by omega) (nfc (by omega) (nfc (by omega) (nfc (by omega) (nfc (by omega) (nfc (by omega) (nfc (by omega) (nfc (by omega) nf0))))))))).trans ((JR.fI q_66 (by decide) (by decide) (nfc (by omega) (nfc (by omega) nf0))).trans i39_4))) (((JR.fI q_84 (by decide) (by decide) (nfc (by omega) (nfc (by omega) (nfc (by omega) (nfc (by omega) (nfc (by omega) (nfc (by omega) (nfc (by omega) (nfc (by omega) nf0))))))))).trans ((JR.fI q_66 (by decide) (by decide) (nfc (by omega) (nfc (by omega) nf0))).trans i39_5))) (((JR.fI q_84 (by decide) (by decide) (nfc (by omega) (nfc (by omega) (nfc (by omega) (nfc (by omega) (nfc (by omega) (nfc (by omega) (nfc (by omega) (nfc (by omega) nf0))))))))).trans ((JR.fI q_66 (by decide) (by decide) (nfc (by omega) (nfc (by omega) nf0))).trans i39_6))))
                exact ⟨rfl, ⟨rfl, ⟨rfl, trivial⟩⟩⟩
      refine aw_le ?_ (ml_39_51 _ pl0_k47 r_48 V_38 rfl (j_37) ((FG.of e_k47 rfl rfl)) ((FG.of e_k47 rfl (by omega : le0_k47 = le0_k47))) (by omega) (((JR.fI q_34 (by decide) (by decide) (nfc (by omega) (nfc (by omega) (nfc (by omega) (nfc (by omega) (nfc (by omega) (nfc (by omega) (nfc (by omega) (nfc (by omega) nf0))))))))).trans ((JR.fI q_27 (by decide) (by decide) (nfc (by omega) (nfc (by omega) (nfc (by omega) (nfc (by omega) nf0))))).trans (KA (s := 36) (x := .int 0) e_k23 rfl (by decide) e_26 k_26 ((JR.fI q_13 (by decide) (by decide) (nfc (by omega) (nfc (by omega) (nfc (by omega) (nfc (by omega) nf0))))).trans (Eq.refl (fI (V 101) 208))))))) (((JR.fI q_34 (by decide) (by decide) (nfc (by omega) (nfc (by omega) (nfc (by omega) (nfc (by omega) (nfc (by omega) (nfc (by omega) (nfc (by omega) (nfc (by omega) nf0))))))))).trans (h_28.trans (KA (s := 36) (x := .int 0) e_k23 rfl (by decide) e_26 k_26 ((JR.fI q_13 (by decide) (by decide) (nfc (by omega) (nfc (by omega) (nfc (by omega) (nfc (by omega) nf0))))).trans (Eq.refl (fI (V 101) 208))))))) (((JR.fI q_34 (by decide) (by decide) (nfc (by omega) (nfc (by omega) (nfc (by omega) (nfc (by omega) (nfc (by omega) (nfc (by omega) (nfc (by omega) (nfc (by omega) nf0))))))))).trans ((JR.fI q_27 (by decide) (by decide) (nfc (by omega) (nfc (by omega) (nfc (by omega) (nfc (by omega) nf0))))).trans (KA (s := 36) (x := .int 0) e_k23 rfl (by decide) e_26 k_26 ((JR.fI q_13 (by decide) (by decide) (nfc (by omega) (nfc (by omega) (nfc (by omega) (nfc (by omega) nf0))))).trans (Eq.refl (fI (V 100) 13))))))))
      exact ⟨rfl, ⟨rfl, ⟨rfl, trivial⟩⟩⟩
    · skip
      have nc_12 : ¬ (zn0 ≤ tad_1) := fun z => c_12 ((nI_leI (a := zn0) (b := tad_1) (by omega) (by omega)).mpr z)
      refine aw_iconst (v := (-1)) dX12_orders_18 (by decide) ?_
      refine aw_ireti dX12_orders_19 rfl (Nat.le_of_ble_eq_true rfl) (Nat.le_of_ble_eq_true rfl) ?_
      exact ⟨⟨Or.inr ⟨(by have zhi_5 := hi_5.resolve_left c_11; have zzzn0 := fx_nIt (n := zn0) (by omega); have zt := fx_nIt (n := tad_1) (by omega); have e0 : (0 : Int32).toInt = 0 := (by decide); have e1 : (1 : Int32).toInt = 1 := (by decide); have e120 : (120 : Int32).toInt = 120 := (by decide); have q0 := zhi_5; have q1 := hm; have q2 := hta0; simp only [cIn, ← Int32.toInt_inj, Int32.le_iff_toInt_le, Int32.lt_iff_toInt_lt] at q0 q1 q2 ⊢; omega), (Eq.refl (fI (V 100) 13))⟩, (Eq.refl (fI (V 101) 208))⟩, rfl, hJ0⟩
