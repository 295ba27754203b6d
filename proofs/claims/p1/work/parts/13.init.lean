
theorem aw_mna2 {l : Launch} {D : va_G} {b : Nat} {J : Md} {R : Room} {X : Sc} {FQ : Array Value → List Frame → State → State → Prop} {pc : Nat} {ls : List (Option Value)} {st : List Value} {N : Nat} {V : Wd} {k n : Nat} {idx : Nat} {rn ck : Int32} {N9 K9 : Nat} (hd : decode J.2.1 pc = .ok (.multianewarray idx 2, 4)) (hw : Cond.arrayClass .int ∈ fx_TB) (hv : Cond.arrayOver (.array .int) ∈ fx_NW) (hcl : Cond.classLink J.1.cls idx "[[I" ∈ fx_TB) (h0 : ¬ rn < 0) (h1 : ¬ ck < 0) (hN : rn.toNatClampNeg = N9) (hM : ck.toNatClampNeg = K9) (hb1 : N9 * 4 ≤ 536870912) (hb2 : K9 * 4 ≤ 536870912) (hk1 : k + (1 + N9) ≤ R.cells) (hs1 : n + (N9 + N9 * K9) ≤ R.slots)
    (h : ∀ V1 : Wd, V1 N = cR D N9 (fun j => if j < N9 then some (b + (N + 1 + j)) else none) → (∀ i, i < N9 → V1 (N + 1 + i) = cI D K9 (fun _ => 0)) → (∀ i, i < N → V1 i = V i) → AW l D b J R X FQ (pc + 4) ls (.ref (b + N) :: st) (N + (1 + N9)) V1 (k + 1 + N9) (n + N9 + N9 * K9)) : AW l D b J R X FQ pc ls (.int ck :: .int rn :: st) N V k n :=
  aw_mna hd hw hv hcl h0 h1 hN hM hb1 hb2 hk1 hs1 (h _ (if_pos rfl) (fun i hi => (if_neg (by omega)).trans (if_pos (by omega))) (fun i hi => (if_neg (by omega)).trans (if_neg (by omega))))
set_option maxHeartbeats 4000000 in
set_option maxRecDepth 100000 in
theorem c_initTape (l : Launch) (D : va_G) (b : Nat) (c : Nat) (V : Wd) (h0 : V c = cO 9 [.null, .int 0, .int 0, .int 0, .int 0]) : MV l D b 0 jX10_init [.ref (b + c)] (c + 1) V 1 260 (fun N9 V9 => N9 = c + 2 ∧ V9 c = cO 9 [.ref (b + (c + 1)), .int 0, .int 0, .int 0, .int 0] ∧ V9 (c + 1) = cI D 260 (fun _ => 0) ∧ (∀ i, i < c → V9 i = V i)) := by
  refine mw_of (by decide) (by simp [Value.category]) (Nat.le_of_ble_eq_true rfl) ?_
  show AW l D b jX10_init (fx_rm 0 1 260) none (fx_MQ D b 1 260 (fx_qv (fun N9 V9 => N9 = c + 2 ∧ V9 c = cO 9 [.ref (b + (c + 1)), .int 0, .int 0, .int 0, .int 0] ∧ V9 (c + 1) = cI D 260 (fun _ => 0) ∧ (∀ i, i < c → V9 i = V i)))) 0 [some (.ref (b + c))] [] (c + 1) V 0 0
  refine aw_aload_n dX10_init_0 rfl ?_
  refine aw_objInit dX10_init_1 tb_34 tb_27 tb_28 ⟨Nat.le_of_ble_eq_true rfl, Nat.le_of_ble_eq_true rfl⟩ ?_
  refine aw_aload_n dX10_init_4 rfl ?_
  refine aw_sipush (v := 260) dX10_init_5 (by decide) ?_
  refine aw_newaI (n9 := 260) dX10_init_8 tb_60 (by decide) (by decide) (by decide) (Nat.le_of_ble_eq_true rfl) (Nat.le_of_ble_eq_true rfl) ?_
  refine aw_putF dX10_init_10 fp_X10_9 rfl ((va_up_ne _ _ (by omega)).trans h0) (by omega) rfl rfl (Nat.le_of_ble_eq_true rfl) rfl ?_
  refine aw_aload_n dX10_init_13 rfl ?_
  refine aw_iconst (v := 0) dX10_init_14 (by decide) ?_
  refine aw_put dX10_init_15 fp_X10_15 (va_up_self _ _ _) (by omega) rfl rfl (Nat.le_of_ble_eq_true rfl) rfl ?_
  refine aw_aload_n dX10_init_18 rfl ?_
  refine aw_iconst (v := 0) dX10_init_19 (by decide) ?_
  refine aw_put dX10_init_20 fp_X10_19 (va_up_self _ _ _) (by omega) rfl rfl (Nat.le_of_ble_eq_true rfl) rfl ?_
  refine aw_aload_n dX10_init_23 rfl ?_
  refine aw_iconst (v := 0) dX10_init_24 (by decide) ?_
  refine aw_put dX10_init_25 fp_X10_22 (va_up_self _ _ _) (by omega) rfl rfl (Nat.le_of_ble_eq_true rfl) rfl ?_
  refine aw_aload_n dX10_init_28 rfl ?_
  refine aw_iconst (v := 0) dX10_init_29 (by decide) ?_
  refine aw_put dX10_init_30 fp_X10_25 (va_up_self _ _ _) (by omega) rfl rfl (Nat.le_of_ble_eq_true rfl) rfl ?_
  refine aw_vreti dX10_init_33 rfl (Nat.le_of_ble_eq_true rfl) (Nat.le_of_ble_eq_true rfl) ?_
  exact ⟨rfl, (va_up_self _ _ _), ((va_up_ne _ _ (by omega)).trans ((va_up_ne _ _ (by omega)).trans ((va_up_ne _ _ (by omega)).trans ((va_up_ne _ _ (by omega)).trans ((va_up_ne _ _ (by omega)).trans (va_up_self _ _ _)))))), fun i hi => (va_up_ne _ _ (by omega)).trans ((va_up_ne _ _ (by omega)).trans ((va_up_ne _ _ (by omega)).trans ((va_up_ne _ _ (by omega)).trans ((va_up_ne _ _ (by omega)).trans ((va_up_ne _ _ (by omega)).trans (rfl))))))⟩

set_option maxHeartbeats 4000000 in
set_option maxRecDepth 100000 in
theorem c_initCity (l : Launch) (D : va_G) (b : Nat) (c : Nat) (V : Wd) (h0 : V c = cO 0 [.null, .null, .null, .null, .null, .int 0, .int 0, .int 0, .int 0]) : MV l D b 0 jX0_init [.ref (b + c)] (c + 1) V 17 264 (fun N9 V9 => N9 = c + 18 ∧ CA D b c V9 (fun _ _ => 0) (fun _ => 0) (fun _ => 0) (fun _ => 0) (fun _ => 0) 0 0 0 1 ∧ (∀ i, i < c → V9 i = V i)) := by
  refine mw_of (by decide) (by simp [Value.category]) (Nat.le_of_ble_eq_true rfl) ?_
  show AW l D b jX0_init (fx_rm 0 17 264) none (fx_MQ D b 17 264 (fx_qv (fun N9 V9 => N9 = c + 18 ∧ CA D b c V9 (fun _ _ => 0) (fun _ => 0) (fun _ => 0) (fun _ => 0) (fun _ => 0) 0 0 0 1 ∧ (∀ i, i < c → V9 i = V i)))) 0 [some (.ref (b + c))] [] (c + 1) V 0 0
  refine aw_aload_n dX0_init_0 rfl ?_
  refine aw_objInit dX0_init_1 tb_66 tb_27 tb_28 ⟨Nat.le_of_ble_eq_true rfl, Nat.le_of_ble_eq_true rfl⟩ ?_
  refine aw_aload_n dX0_init_4 rfl ?_
  refine aw_bipush (v := 12) dX0_init_5 (by decide) ?_
  refine aw_bipush (v := 16) dX0_init_7 (by decide) ?_
  refine aw_mna2 (N9 := 12) (K9 := 16) dX0_init_9 tb_60 tb_68 tb_67 (by decide) (by decide) (by decide) (by decide) (by decide) (by decide) (Nat.le_of_ble_eq_true rfl) (Nat.le_of_ble_eq_true rfl) (fun V_1 ho_2 hr_3 hf_4 => ?_)
  refine aw_putF dX0_init_13 fp_X0_11 rfl ((hf_4 _ (by omega)).trans h0) (by omega) rfl rfl (Nat.le_of_ble_eq_true rfl) rfl ?_
  refine aw_aload_n dX0_init_16 rfl ?_
  refine aw_bipush (v := 12) dX0_init_17 (by decide) ?_
  refine aw_newaI (n9 := 12) dX0_init_19 tb_60 (by decide) (by decide) (by decide) (Nat.le_of_ble_eq_true rfl) (Nat.le_of_ble_eq_true rfl) ?_
  refine aw_putF dX0_init_21 fp_X0_16 rfl ((va_up_ne _ _ (by omega)).trans (va_up_self _ _ _)) (by omega) rfl rfl (Nat.le_of_ble_eq_true rfl) rfl ?_
  refine aw_aload_n dX0_init_24 rfl ?_
  refine aw_bipush (v := 16) dX0_init_25 (by decide) ?_
  refine aw_newaI (n9 := 16) dX0_init_27 tb_60 (by decide) (by decide) (by decide) (Nat.le_of_ble_eq_true rfl) (Nat.le_of_ble_eq_true rfl) ?_
  refine aw_putF dX0_init_29 fp_X0_20 rfl ((va_up_ne _ _ (by omega)).trans (va_up_self _ _ _)) (by omega) rfl rfl (Nat.le_of_ble_eq_true rfl) rfl ?_
  refine aw_aload_n dX0_init_32 rfl ?_
  refine aw_bipush (v := 16) dX0_init_33 (by decide) ?_
  refine aw_newaI (n9 := 16) dX0_init_35 tb_60 (by decide) (by decide) (by decide) (Nat.le_of_ble_eq_true rfl) (Nat.le_of_ble_eq_true rfl) ?_
  refine aw_putF dX0_init_37 fp_X0_23 rfl ((va_up_ne _ _ (by omega)).trans (va_up_self _ _ _)) (by omega) rfl rfl (Nat.le_of_ble_eq_true rfl) rfl ?_
  refine aw_aload_n dX0_init_40 rfl ?_
  refine aw_bipush (v := 16) dX0_init_41 (by decide) ?_
  refine aw_newaI (n9 := 16) dX0_init_43 tb_60 (by decide) (by decide) (by decide) (Nat.le_of_ble_eq_true rfl) (Nat.le_of_ble_eq_true rfl) ?_
  refine aw_putF dX0_init_45 fp_X0_26 rfl ((va_up_ne _ _ (by omega)).trans (va_up_self _ _ _)) (by omega) rfl rfl (Nat.le_of_ble_eq_true rfl) rfl ?_
  refine aw_aload_n dX0_init_48 rfl ?_
  refine aw_iconst (v := 0) dX0_init_49 (by decide) ?_
  refine aw_put dX0_init_50 fp_X0_29 (va_up_self _ _ _) (by omega) rfl rfl (Nat.le_of_ble_eq_true rfl) rfl ?_
  refine aw_aload_n dX0_init_53 rfl ?_
  refine aw_iconst (v := 0) dX0_init_54 (by decide) ?_
  refine aw_put dX0_init_55 fp_X0_33 (va_up_self _ _ _) (by omega) rfl rfl (Nat.le_of_ble_eq_true rfl) rfl ?_
  refine aw_aload_n dX0_init_58 rfl ?_
  refine aw_iconst (v := 0) dX0_init_59 (by decide) ?_
  refine aw_put dX0_init_60 fp_X0_36 (va_up_self _ _ _) (by omega) rfl rfl (Nat.le_of_ble_eq_true rfl) rfl ?_
  refine aw_aload_n dX0_init_63 rfl ?_
  refine aw_iconst (v := 1) dX0_init_64 (by decide) ?_
  refine aw_put dX0_init_65 fp_X0_39 (va_up_self _ _ _) (by omega) rfl rfl (Nat.le_of_ble_eq_true rfl) rfl ?_
  refine aw_vreti dX0_init_68 rfl (Nat.le_of_ble_eq_true rfl) (Nat.le_of_ble_eq_true rfl) ?_
  exact ⟨rfl, ⟨(va_up_self _ _ _), ((va_up_ne _ _ (by omega)).trans ((va_up_ne _ _ (by omega)).trans ((va_up_ne _ _ (by omega)).trans ((va_up_ne _ _ (by omega)).trans ((va_up_ne _ _ (by omega)).trans ((va_up_ne _ _ (by omega)).trans ((va_up_ne _ _ (by omega)).trans ((va_up_ne _ _ (by omega)).trans ((va_up_ne _ _ (by omega)).trans ((va_up_ne _ _ (by omega)).trans ((va_up_ne _ _ (by omega)).trans ((va_up_ne _ _ (by omega)).trans ((va_up_ne _ _ (by omega)).trans ho_2))))))))))))), fun i hi => (va_up_ne _ _ (by omega)).trans ((va_up_ne _ _ (by omega)).trans ((va_up_ne _ _ (by omega)).trans ((va_up_ne _ _ (by omega)).trans ((va_up_ne _ _ (by omega)).trans ((va_up_ne _ _ (by omega)).trans ((va_up_ne _ _ (by omega)).trans ((va_up_ne _ _ (by omega)).trans ((va_up_ne _ _ (by omega)).trans ((va_up_ne _ _ (by omega)).trans ((va_up_ne _ _ (by omega)).trans ((va_up_ne _ _ (by omega)).trans ((va_up_ne _ _ (by omega)).trans (hr_3 i hi))))))))))))), ((va_up_ne _ _ (by omega)).trans ((va_up_ne _ _ (by omega)).trans ((va_up_ne _ _ (by omega)).trans ((va_up_ne _ _ (by omega)).trans ((va_up_ne _ _ (by omega)).trans ((va_up_ne _ _ (by omega)).trans ((va_up_ne _ _ (by omega)).trans ((va_up_ne _ _ (by omega)).trans ((va_up_ne _ _ (by omega)).trans ((va_up_ne _ _ (by omega)).trans ((va_up_ne _ _ (by omega)).trans (va_up_self _ _ _)))))))))))), ((va_up_ne _ _ (by omega)).trans ((va_up_ne _ _ (by omega)).trans ((va_up_ne _ _ (by omega)).trans ((va_up_ne _ _ (by omega)).trans ((va_up_ne _ _ (by omega)).trans ((va_up_ne _ _ (by omega)).trans ((va_up_ne _ _ (by omega)).trans ((va_up_ne _ _ (by omega)).trans ((va_up_ne _ _ (by omega)).trans (va_up_self _ _ _)))))))))), ((va_up_ne _ _ (by omega)).trans ((va_up_ne _ _ (by omega)).trans ((va_up_ne _ _ (by omega)).trans ((va_up_ne _ _ (by omega)).trans ((va_up_ne _ _ (by omega)).trans ((va_up_ne _ _ (by omega)).trans ((va_up_ne _ _ (by omega)).trans (va_up_self _ _ _)))))))), ((va_up_ne _ _ (by omega)).trans ((va_up_ne _ _ (by omega)).trans ((va_up_ne _ _ (by omega)).trans ((va_up_ne _ _ (by omega)).trans ((va_up_ne _ _ (by omega)).trans (va_up_self _ _ _))))))⟩, fun i hi => (va_up_ne _ _ (by omega)).trans ((va_up_ne _ _ (by omega)).trans ((va_up_ne _ _ (by omega)).trans ((va_up_ne _ _ (by omega)).trans ((va_up_ne _ _ (by omega)).trans ((va_up_ne _ _ (by omega)).trans ((va_up_ne _ _ (by omega)).trans ((va_up_ne _ _ (by omega)).trans ((va_up_ne _ _ (by omega)).trans ((va_up_ne _ _ (by omega)).trans ((va_up_ne _ _ (by omega)).trans ((va_up_ne _ _ (by omega)).trans ((va_up_ne _ _ (by omega)).trans (hf_4 i (by omega))))))))))))))⟩

set_option maxHeartbeats 4000000 in
set_option maxRecDepth 100000 in
theorem c_initLaw (l : Launch) (D : va_G) (b : Nat) (c : Nat) (V : Wd) (h0 : V c = cO 4 [.null, .null, .int 0, .null, .null, .null, .int 0, .null, .null, .int 0]) : MV l D b 2 jX4_init [.ref (b + c)] (c + 1) V 7 602 (fun N9 V9 => N9 = c + 8 ∧ V9 c = cO 4 [.ref (b + (c + 1)), .ref (b + (c + 2)), .int 0, .ref (b + (c + 3)), .ref (b + (c + 4)), .ref (b + (c + 5)), .int 0, .ref (b + (c + 6)), .ref (b + (c + 7)), .int 0] ∧ V9 (c + 1) = cI D 256 (fun _ => 0) ∧ V9 (c + 2) = cI D 256 (fun _ => 0) ∧ V9 (c + 3) = cI D 16 (fun _ => 0) ∧ V9 (c + 4) = cI D 16 (fun _ => 0) ∧ V9 (c + 5) = cI D 16 (fun _ => 0) ∧ V9 (c + 6) = cI D 10 (fun _ => 0) ∧ V9 (c + 7) = cI D 32 (fun _ => 0) ∧ (∀ i, i < c → V9 i = V i)) := by
  refine mw_of (by decide) (by simp [Value.category]) (Nat.le_of_ble_eq_true rfl) ?_
  show AW l D b jX4_init (fx_rm 2 7 602) none (fx_MQ D b 7 602 (fx_qv (fun N9 V9 => N9 = c + 8 ∧ V9 c = cO 4 [.ref (b + (c + 1)), .ref (b + (c + 2)), .int 0, .ref (b + (c + 3)), .ref (b + (c + 4)), .ref (b + (c + 5)), .int 0, .ref (b + (c + 6)), .ref (b + (c + 7)), .int 0] ∧ V9 (c + 1) = cI D 256 (fun _ => 0) ∧ V9 (c + 2) = cI D 256 (fun _ => 0) ∧ V9 (c + 3) = cI D 16 (fun _ => 0) ∧ V9 (c + 4) = cI D 16 (fun _ => 0) ∧ V9 (c + 5) = cI D 16 (fun _ => 0) ∧ V9 (c + 6) = cI D 10 (fun _ => 0) ∧ V9 (c + 7) = cI D 32 (fun _ => 0) ∧ (∀ i, i < c → V9 i = V i)))) 0 [some (.ref (b + c))] [] (c + 1) V 0 0
  refine aw_aload_n dX4_init_0 rfl ?_
  refine aw_objInit dX4_init_1 tb_119 tb_27 tb_28 ⟨Nat.le_of_ble_eq_true rfl, Nat.le_of_ble_eq_true rfl⟩ ?_
  refine aw_aload_n dX4_init_4 rfl ?_
  refine aw_sipush (v := 256) dX4_init_5 (by decide) ?_
  refine aw_newaI (n9 := 256) dX4_init_8 tb_60 (by decide) (by decide) (by decide) (Nat.le_of_ble_eq_true rfl) (Nat.le_of_ble_eq_true rfl) ?_
  refine aw_putF dX4_init_10 fp_X4_11 rfl ((va_up_ne _ _ (by omega)).trans h0) (by omega) rfl rfl (Nat.le_of_ble_eq_true rfl) rfl ?_
  refine aw_aload_n dX4_init_13 rfl ?_
  refine aw_sipush (v := 256) dX4_init_14 (by decide) ?_
  refine aw_newaI (n9 := 256) dX4_init_17 tb_60 (by decide) (by decide) (by decide) (Nat.le_of_ble_eq_true rfl) (Nat.le_of_ble_eq_true rfl) ?_
  refine aw_putF dX4_init_19 fp_X4_15 rfl ((va_up_ne _ _ (by omega)).trans (va_up_self _ _ _)) (by omega) rfl rfl (Nat.le_of_ble_eq_true rfl) rfl ?_
  refine aw_aload_n dX4_init_22 rfl ?_
  refine aw_iconst (v := 0) dX4_init_23 (by decide) ?_
  refine aw_put dX4_init_24 fp_X4_18 (va_up_self _ _ _) (by omega) rfl rfl (Nat.le_of_ble_eq_true rfl) rfl ?_
  refine aw_aload_n dX4_init_27 rfl ?_
  refine aw_bipush (v := 16) dX4_init_28 (by decide) ?_
  refine aw_newaI (n9 := 16) dX4_init_30 tb_60 (by decide) (by decide) (by decide) (Nat.le_of_ble_eq_true rfl) (Nat.le_of_ble_eq_true rfl) ?_
  refine aw_putF dX4_init_32 fp_X4_22 rfl ((va_up_ne _ _ (by omega)).trans (va_up_self _ _ _)) (by omega) rfl rfl (Nat.le_of_ble_eq_true rfl) rfl ?_
  refine aw_aload_n dX4_init_35 rfl ?_
  refine aw_bipush (v := 16) dX4_init_36 (by decide) ?_
  refine aw_newaI (n9 := 16) dX4_init_38 tb_60 (by decide) (by decide) (by decide) (Nat.le_of_ble_eq_true rfl) (Nat.le_of_ble_eq_true rfl) ?_
  refine aw_putF dX4_init_40 fp_X4_25 rfl ((va_up_ne _ _ (by omega)).trans (va_up_self _ _ _)) (by omega) rfl rfl (Nat.le_of_ble_eq_true rfl) rfl ?_
  refine aw_aload_n dX4_init_43 rfl ?_
  refine aw_bipush (v := 16) dX4_init_44 (by decide) ?_
  refine aw_newaI (n9 := 16) dX4_init_46 tb_60 (by decide) (by decide) (by decide) (Nat.le_of_ble_eq_true rfl) (Nat.le_of_ble_eq_true rfl) ?_
  refine aw_putF dX4_init_48 fp_X4_28 rfl ((va_up_ne _ _ (by omega)).trans (va_up_self _ _ _)) (by omega) rfl rfl (Nat.le_of_ble_eq_true rfl) rfl ?_
  refine aw_aload_n dX4_init_51 rfl ?_
  refine aw_iconst (v := 0) dX4_init_52 (by decide) ?_
  refine aw_put dX4_init_53 fp_X4_31 (va_up_self _ _ _) (by omega) rfl rfl (Nat.le_of_ble_eq_true rfl) rfl ?_
  refine aw_aload_n dX4_init_56 rfl ?_
  refine aw_strlen rfl dX4_init_57 dX4_init_59 (Nat.le_of_ble_eq_true rfl) ⟨Nat.le_of_ble_eq_true rfl, Nat.le_of_ble_eq_true rfl, Nat.le_of_ble_eq_true rfl, Nat.le_of_ble_eq_true rfl⟩ ?_
  refine aw_newaI (n9 := 10) dX4_init_62 tb_60 (by decide) (by decide) (by decide) (Nat.le_of_ble_eq_true rfl) (Nat.le_of_ble_eq_true rfl) ?_
  refine aw_putF dX4_init_64 fp_X4_42 rfl ((va_up_ne _ _ (by omega)).trans (va_up_self _ _ _)) (by omega) rfl rfl (Nat.le_of_ble_eq_true rfl) rfl ?_
  refine aw_aload_n dX4_init_67 rfl ?_
  refine aw_bipush (v := 32) dX4_init_68 (by decide) ?_
  refine aw_newaI (n9 := 32) dX4_init_70 tb_60 (by decide) (by decide) (by decide) (Nat.le_of_ble_eq_true rfl) (Nat.le_of_ble_eq_true rfl) ?_
  refine aw_putF dX4_init_72 fp_X4_45 rfl ((va_up_ne _ _ (by omega)).trans (va_up_self _ _ _)) (by omega) rfl rfl (Nat.le_of_ble_eq_true rfl) rfl ?_
  refine aw_aload_n dX4_init_75 rfl ?_
  refine aw_iconst (v := 0) dX4_init_76 (by decide) ?_
  refine aw_put dX4_init_77 fp_X4_48 (va_up_self _ _ _) (by omega) rfl rfl (Nat.le_of_ble_eq_true rfl) rfl ?_
  refine aw_vreti dX4_init_80 rfl (Nat.le_of_ble_eq_true rfl) (Nat.le_of_ble_eq_true rfl) ?_
  exact ⟨rfl, (va_up_self _ _ _), ((va_up_ne _ _ (by omega)).trans ((va_up_ne _ _ (by omega)).trans ((va_up_ne _ _ (by omega)).trans ((va_up_ne _ _ (by omega)).trans ((va_up_ne _ _ (by omega)).trans ((va_up_ne _ _ (by omega)).trans ((va_up_ne _ _ (by omega)).trans ((va_up_ne _ _ (by omega)).trans ((va_up_ne _ _ (by omega)).trans ((va_up_ne _ _ (by omega)).trans ((va_up_ne _ _ (by omega)).trans ((va_up_ne _ _ (by omega)).trans ((va_up_ne _ _ (by omega)).trans ((va_up_ne _ _ (by omega)).trans ((va_up_ne _ _ (by omega)).trans ((va_up_ne _ _ (by omega)).trans (va_up_self _ _ _))))))))))))))))), ((va_up_ne _ _ (by omega)).trans ((va_up_ne _ _ (by omega)).trans ((va_up_ne _ _ (by omega)).trans ((va_up_ne _ _ (by omega)).trans ((va_up_ne _ _ (by omega)).trans ((va_up_ne _ _ (by omega)).trans ((va_up_ne _ _ (by omega)).trans ((va_up_ne _ _ (by omega)).trans ((va_up_ne _ _ (by omega)).trans ((va_up_ne _ _ (by omega)).trans ((va_up_ne _ _ (by omega)).trans ((va_up_ne _ _ (by omega)).trans ((va_up_ne _ _ (by omega)).trans ((va_up_ne _ _ (by omega)).trans (va_up_self _ _ _))))))))))))))), ((va_up_ne _ _ (by omega)).trans ((va_up_ne _ _ (by omega)).trans ((va_up_ne _ _ (by omega)).trans ((va_up_ne _ _ (by omega)).trans ((va_up_ne _ _ (by omega)).trans ((va_up_ne _ _ (by omega)).trans ((va_up_ne _ _ (by omega)).trans ((va_up_ne _ _ (by omega)).trans ((va_up_ne _ _ (by omega)).trans ((va_up_ne _ _ (by omega)).trans ((va_up_ne _ _ (by omega)).trans (va_up_self _ _ _)))))))))))), ((va_up_ne _ _ (by omega)).trans ((va_up_ne _ _ (by omega)).trans ((va_up_ne _ _ (by omega)).trans ((va_up_ne _ _ (by omega)).trans ((va_up_ne _ _ (by omega)).trans ((va_up_ne _ _ (by omega)).trans ((va_up_ne _ _ (by omega)).trans ((va_up_ne _ _ (by omega)).trans ((va_up_ne _ _ (by omega)).trans (va_up_self _ _ _)))))))))), ((va_up_ne _ _ (by omega)).trans ((va_up_ne _ _ (by omega)).trans ((va_up_ne _ _ (by omega)).trans ((va_up_ne _ _ (by omega)).trans ((va_up_ne _ _ (by omega)).trans ((va_up_ne _ _ (by omega)).trans ((va_up_ne _ _ (by omega)).trans (va_up_self _ _ _)))))))), ((va_up_ne _ _ (by omega)).trans ((va_up_ne _ _ (by omega)).trans ((va_up_ne _ _ (by omega)).trans ((va_up_ne _ _ (by omega)).trans (va_up_self _ _ _))))), ((va_up_ne _ _ (by omega)).trans ((va_up_ne _ _ (by omega)).trans (va_up_self _ _ _))), fun i hi => (va_up_ne _ _ (by omega)).trans ((va_up_ne _ _ (by omega)).trans ((va_up_ne _ _ (by omega)).trans ((va_up_ne _ _ (by omega)).trans ((va_up_ne _ _ (by omega)).trans ((va_up_ne _ _ (by omega)).trans ((va_up_ne _ _ (by omega)).trans ((va_up_ne _ _ (by omega)).trans ((va_up_ne _ _ (by omega)).trans ((va_up_ne _ _ (by omega)).trans ((va_up_ne _ _ (by omega)).trans ((va_up_ne _ _ (by omega)).trans ((va_up_ne _ _ (by omega)).trans ((va_up_ne _ _ (by omega)).trans ((va_up_ne _ _ (by omega)).trans ((va_up_ne _ _ (by omega)).trans ((va_up_ne _ _ (by omega)).trans (rfl)))))))))))))))))⟩

set_option maxHeartbeats 4000000 in
set_option maxRecDepth 100000 in
theorem c_initKeys (l : Launch) (D : va_G) (b : Nat) (c : Nat) (V : Wd) (h0 : V c = cO 3 [.null]) : MV l D b 0 jX3_init [.ref (b + c)] (c + 1) V 1 12 (fun N9 V9 => N9 = c + 2 ∧ V9 c = cO 3 [.ref (b + (c + 1))] ∧ V9 (c + 1) = cI D 12 (fun _ => 0) ∧ (∀ i, i < c → V9 i = V i)) := by
  refine mw_of (by decide) (by simp [Value.category]) (Nat.le_of_ble_eq_true rfl) ?_
  show AW l D b jX3_init (fx_rm 0 1 12) none (fx_MQ D b 1 12 (fx_qv (fun N9 V9 => N9 = c + 2 ∧ V9 c = cO 3 [.ref (b + (c + 1))] ∧ V9 (c + 1) = cI D 12 (fun _ => 0) ∧ (∀ i, i < c → V9 i = V i)))) 0 [some (.ref (b + c))] [] (c + 1) V 0 0
  refine aw_aload_n dX3_init_0 rfl ?_
  refine aw_objInit dX3_init_1 tb_189 tb_27 tb_28 ⟨Nat.le_of_ble_eq_true rfl, Nat.le_of_ble_eq_true rfl⟩ ?_
  refine aw_aload_n dX3_init_4 rfl ?_
  refine aw_bipush (v := 12) dX3_init_5 (by decide) ?_
  refine aw_newaI (n9 := 12) dX3_init_7 tb_60 (by decide) (by decide) (by decide) (Nat.le_of_ble_eq_true rfl) (Nat.le_of_ble_eq_true rfl) ?_
  refine aw_putF dX3_init_9 fp_X3_9 rfl ((va_up_ne _ _ (by omega)).trans h0) (by omega) rfl rfl (Nat.le_of_ble_eq_true rfl) rfl ?_
  refine aw_vreti dX3_init_12 rfl (Nat.le_of_ble_eq_true rfl) (Nat.le_of_ble_eq_true rfl) ?_
  exact ⟨rfl, (va_up_self _ _ _), ((va_up_ne _ _ (by omega)).trans (va_up_self _ _ _)), fun i hi => (va_up_ne _ _ (by omega)).trans ((va_up_ne _ _ (by omega)).trans (rfl))⟩

set_option maxHeartbeats 4000000 in
set_option maxRecDepth 100000 in
theorem c_initCompany (l : Launch) (D : va_G) (b : Nat) (c : Nat) (V : Wd) (h0 : V c = cO 1 [.null, .null]) : MV l D b 0 jX1_init [.ref (b + c)] (c + 1) V 2 4108 (fun N9 V9 => N9 = c + 3 ∧ V9 c = cO 1 [.ref (b + (c + 1)), .ref (b + (c + 2))] ∧ V9 (c + 1) = cI D 12 (fun _ => 0) ∧ V9 (c + 2) = cI D 4096 (fun _ => 0) ∧ (∀ i, i < c → V9 i = V i)) := by
  refine mw_of (by decide) (by simp [Value.category]) (Nat.le_of_ble_eq_true rfl) ?_
  show AW l D b jX1_init (fx_rm 0 2 4108) none (fx_MQ D b 2 4108 (fx_qv (fun N9 V9 => N9 = c + 3 ∧ V9 c = cO 1 [.ref (b + (c + 1)), .ref (b + (c + 2))] ∧ V9 (c + 1) = cI D 12 (fun _ => 0) ∧ V9 (c + 2) = cI D 4096 (fun _ => 0) ∧ (∀ i, i < c → V9 i = V i)))) 0 [some (.ref (b + c))] [] (c + 1) V 0 0
  refine aw_aload_n dX1_init_0 rfl ?_
  refine aw_objInit dX1_init_1 tb_199 tb_27 tb_28 ⟨Nat.le_of_ble_eq_true rfl, Nat.le_of_ble_eq_true rfl⟩ ?_
  refine aw_aload_n dX1_init_4 rfl ?_
  refine aw_bipush (v := 12) dX1_init_5 (by decide) ?_
  refine aw_newaI (n9 := 12) dX1_init_7 tb_60 (by decide) (by decide) (by decide) (Nat.le_of_ble_eq_true rfl) (Nat.le_of_ble_eq_true rfl) ?_
  refine aw_putF dX1_init_9 fp_X1_9 rfl ((va_up_ne _ _ (by omega)).trans h0) (by omega) rfl rfl (Nat.le_of_ble_eq_true rfl) rfl ?_
  refine aw_aload_n dX1_init_12 rfl ?_
  refine aw_sipush (v := 4096) dX1_init_13 (by decide) ?_
  refine aw_newaI (n9 := 4096) dX1_init_16 tb_60 (by decide) (by decide) (by decide) (Nat.le_of_ble_eq_true rfl) (Nat.le_of_ble_eq_true rfl) ?_
  refine aw_putF dX1_init_18 fp_X1_15 rfl ((va_up_ne _ _ (by omega)).trans (va_up_self _ _ _)) (by omega) rfl rfl (Nat.le_of_ble_eq_true rfl) rfl ?_
  refine aw_vreti dX1_init_21 rfl (Nat.le_of_ble_eq_true rfl) (Nat.le_of_ble_eq_true rfl) ?_
  exact ⟨rfl, (va_up_self _ _ _), ((va_up_ne _ _ (by omega)).trans ((va_up_ne _ _ (by omega)).trans ((va_up_ne _ _ (by omega)).trans (va_up_self _ _ _)))), ((va_up_ne _ _ (by omega)).trans (va_up_self _ _ _)), fun i hi => (va_up_ne _ _ (by omega)).trans ((va_up_ne _ _ (by omega)).trans ((va_up_ne _ _ (by omega)).trans ((va_up_ne _ _ (by omega)).trans (rfl))))⟩

set_option maxHeartbeats 4000000 in
set_option maxRecDepth 100000 in
theorem c_initPastimes (l : Launch) (D : va_G) (b : Nat) (c : Nat) (V : Wd) (h0 : V c = cO 8 [.null, .null]) : MV l D b 0 jX9_init [.ref (b + c)] (c + 1) V 2 135 (fun N9 V9 => N9 = c + 3 ∧ V9 c = cO 8 [.ref (b + (c + 1)), .ref (b + (c + 2))] ∧ V9 (c + 1) = cI D 6 (fun _ => 0) ∧ V9 (c + 2) = cJ D 129 (fun _ => 0) ∧ (∀ i, i < c → V9 i = V i)) := by
  refine mw_of (by decide) (by simp [Value.category]) (Nat.le_of_ble_eq_true rfl) ?_
  show AW l D b jX9_init (fx_rm 0 2 135) none (fx_MQ D b 2 135 (fx_qv (fun N9 V9 => N9 = c + 3 ∧ V9 c = cO 8 [.ref (b + (c + 1)), .ref (b + (c + 2))] ∧ V9 (c + 1) = cI D 6 (fun _ => 0) ∧ V9 (c + 2) = cJ D 129 (fun _ => 0) ∧ (∀ i, i < c → V9 i = V i)))) 0 [some (.ref (b + c))] [] (c + 1) V 0 0
  refine aw_aload_n dX9_init_0 rfl ?_
  refine aw_objInit dX9_init_1 tb_212 tb_27 tb_28 ⟨Nat.le_of_ble_eq_true rfl, Nat.le_of_ble_eq_true rfl⟩ ?_
  refine aw_aload_n dX9_init_4 rfl ?_
  refine aw_bipush (v := 6) dX9_init_5 (by decide) ?_
  refine aw_newaI (n9 := 6) dX9_init_7 tb_60 (by decide) (by decide) (by decide) (Nat.le_of_ble_eq_true rfl) (Nat.le_of_ble_eq_true rfl) ?_
  refine aw_putF dX9_init_9 fp_X9_9 rfl ((va_up_ne _ _ (by omega)).trans h0) (by omega) rfl rfl (Nat.le_of_ble_eq_true rfl) rfl ?_
  refine aw_aload_n dX9_init_12 rfl ?_
  refine aw_sipush (v := 129) dX9_init_13 (by decide) ?_
  refine aw_newaJ (n9 := 129) dX9_init_16 tb_220 (by decide) (by decide) (by decide) (Nat.le_of_ble_eq_true rfl) (Nat.le_of_ble_eq_true rfl) ?_
  refine aw_putF dX9_init_18 fp_X9_15 rfl ((va_up_ne _ _ (by omega)).trans (va_up_self _ _ _)) (by omega) rfl rfl (Nat.le_of_ble_eq_true rfl) rfl ?_
  refine aw_vreti dX9_init_21 rfl (Nat.le_of_ble_eq_true rfl) (Nat.le_of_ble_eq_true rfl) ?_
  exact ⟨rfl, (va_up_self _ _ _), ((va_up_ne _ _ (by omega)).trans ((va_up_ne _ _ (by omega)).trans ((va_up_ne _ _ (by omega)).trans (va_up_self _ _ _)))), ((va_up_ne _ _ (by omega)).trans (va_up_self _ _ _)), fun i hi => (va_up_ne _ _ (by omega)).trans ((va_up_ne _ _ (by omega)).trans ((va_up_ne _ _ (by omega)).trans ((va_up_ne _ _ (by omega)).trans (rfl))))⟩
