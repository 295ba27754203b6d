theorem fx_uw {C : String} {T : u_T} {N : Nat} (is : List Nat) (h : (List.range N).map (u_lay C T) = is.filterMap (fun i => lw_tbl[i]?)) (g : ((List.range N).map (u_lay C T)).all goodWord = true) : ∀ w ∈ u_ws C T N, w ∈ fx_TB := by
  intro w hw
  have h1 : w ∈ (List.range N).map (u_lay C T) := hw
  have h2 := List.all_eq_true.mp g w h1
  rw [h] at h1
  obtain ⟨i, -, hi⟩ := List.mem_filterMap.mp h1
  exact List.mem_filter.mpr ⟨List.mem_of_getElem? hi, h2⟩
set_option maxRecDepth 20000 in
theorem uw_X0 : ∀ w ∈ u_ws RX0 TX0 9, w ∈ fx_TB := fx_uw [191, 193, 195, 197, 199, 201, 203, 205, 207] (by decide +kernel) (by decide +kernel)
set_option maxRecDepth 20000 in
theorem uw_X1 : ∀ w ∈ u_ws RX1 TX1 2, w ∈ fx_TB := fx_uw [298, 300] (by decide +kernel) (by decide +kernel)
set_option maxRecDepth 20000 in
theorem uw_X2 : ∀ w ∈ u_ws RX2 TX2 3, w ∈ fx_TB := fx_uw [696, 692, 694] (by decide +kernel) (by decide +kernel)
set_option maxRecDepth 20000 in
theorem uw_X3 : ∀ w ∈ u_ws RX3 TX3 1, w ∈ fx_TB := fx_uw [287] (by decide +kernel) (by decide +kernel)
set_option maxRecDepth 20000 in
theorem uw_X4 : ∀ w ∈ u_ws RX4 TX4 10, w ∈ fx_TB := fx_uw [238, 240, 242, 244, 246, 248, 250, 252, 254, 256] (by decide +kernel) (by decide +kernel)
set_option maxRecDepth 20000 in
theorem uw_X5 : ∀ w ∈ u_ws RX5 TX5 2, w ∈ fx_TB := fx_uw [394, 392] (by decide +kernel) (by decide +kernel)
set_option maxRecDepth 20000 in
theorem uw_X7 : ∀ w ∈ u_ws RX7 TX7 3, w ∈ fx_TB := fx_uw [273, 275, 277] (by decide +kernel) (by decide +kernel)
set_option maxRecDepth 20000 in
theorem uw_X8 : ∀ w ∈ u_ws RX8 TX8 2, w ∈ fx_TB := fx_uw [713, 711] (by decide +kernel) (by decide +kernel)
set_option maxRecDepth 20000 in
theorem uw_X9 : ∀ w ∈ u_ws RX9 TX9 2, w ∈ fx_TB := fx_uw [311, 313] (by decide +kernel) (by decide +kernel)
set_option maxRecDepth 20000 in
theorem uw_X10 : ∀ w ∈ u_ws RX10 TX10 5, w ∈ fx_TB := fx_uw [145, 147, 149, 151, 153] (by decide +kernel) (by decide +kernel)
set_option maxRecDepth 20000 in
theorem uw_X11 : ∀ w ∈ u_ws RX11 TX11 11, w ∈ fx_TB := fx_uw [328, 330, 332, 334, 336, 338, 340, 342, 344, 346, 348] (by decide +kernel) (by decide +kernel)
set_option maxRecDepth 20000 in
theorem uw_X12 : ∀ w ∈ u_ws RX12 TX12 52, w ∈ fx_TB := fx_uw [1187, 1189, 1191, 1193, 1195, 1197, 1199, 1201, 1203, 1205, 1207, 1209, 1211, 1213, 1215, 1217, 1219, 1221, 1223, 1225, 1227, 1229, 1231, 1233, 1235, 1237, 1239, 1241, 1243, 1245, 1247, 1249, 1251, 1253, 1255, 1257, 1259, 1261, 1263, 1265, 1267, 1269, 1271, 1273, 1275, 1277, 1279, 1281, 1283, 1285, 1287, 1289] (by decide +kernel) (by decide +kernel)
theorem fl_X0_11 : fx_fl RX0 11 0 0 := ⟨RX0, TX0, 9, rfl, by decide, uw_X0, Or.inl tb_69⟩
theorem fp_X0_11 : fx_fp RX0 11 0 0 (.array (.array .int)) true := ⟨RX0, TX0, 9, tyX0, rfl, by decide, uw_X0, tyX0_ok, nmX0, rfl, by decide +kernel, fun _ => rfl, Or.inl tb_69⟩
theorem fl_X0_16 : fx_fl RX0 16 0 1 := ⟨RX0, TX0, 9, rfl, by decide, uw_X0, Or.inl tb_70⟩
theorem fp_X0_16 : fx_fp RX0 16 0 1 (.array .int) true := ⟨RX0, TX0, 9, tyX0, rfl, by decide, uw_X0, tyX0_ok, nmX0, rfl, by decide +kernel, fun _ => rfl, Or.inl tb_70⟩
theorem fl_X0_20 : fx_fl RX0 20 0 2 := ⟨RX0, TX0, 9, rfl, by decide, uw_X0, Or.inl tb_72⟩
theorem fp_X0_20 : fx_fp RX0 20 0 2 (.array .int) true := ⟨RX0, TX0, 9, tyX0, rfl, by decide, uw_X0, tyX0_ok, nmX0, rfl, by decide +kernel, fun _ => rfl, Or.inl tb_72⟩
theorem fl_X0_23 : fx_fl RX0 23 0 3 := ⟨RX0, TX0, 9, rfl, by decide, uw_X0, Or.inl tb_76⟩
theorem fp_X0_23 : fx_fp RX0 23 0 3 (.array .int) true := ⟨RX0, TX0, 9, tyX0, rfl, by decide, uw_X0, tyX0_ok, nmX0, rfl, by decide +kernel, fun _ => rfl, Or.inl tb_76⟩
theorem fl_X0_26 : fx_fl RX0 26 0 4 := ⟨RX0, TX0, 9, rfl, by decide, uw_X0, Or.inl tb_80⟩
theorem fp_X0_26 : fx_fp RX0 26 0 4 (.array .int) true := ⟨RX0, TX0, 9, tyX0, rfl, by decide, uw_X0, tyX0_ok, nmX0, rfl, by decide +kernel, fun _ => rfl, Or.inl tb_80⟩
theorem fl_X0_29 : fx_fl RX0 29 0 5 := ⟨RX0, TX0, 9, rfl, by decide, uw_X0, Or.inl tb_83⟩
theorem fp_X0_29 : fx_fp RX0 29 0 5 (.int) false := ⟨RX0, TX0, 9, tyX0, rfl, by decide, uw_X0, tyX0_ok, nmX0, rfl, by decide +kernel, fun h => (by cases h), Or.inl tb_83⟩
theorem fl_X0_33 : fx_fl RX0 33 0 6 := ⟨RX0, TX0, 9, rfl, by decide, uw_X0, Or.inl tb_87⟩
theorem fp_X0_33 : fx_fp RX0 33 0 6 (.int) false := ⟨RX0, TX0, 9, tyX0, rfl, by decide, uw_X0, tyX0_ok, nmX0, rfl, by decide +kernel, fun h => (by cases h), Or.inl tb_87⟩
theorem fl_X0_36 : fx_fl RX0 36 0 7 := ⟨RX0, TX0, 9, rfl, by decide, uw_X0, Or.inl tb_90⟩
theorem fp_X0_36 : fx_fp RX0 36 0 7 (.int) false := ⟨RX0, TX0, 9, tyX0, rfl, by decide, uw_X0, tyX0_ok, nmX0, rfl, by decide +kernel, fun h => (by cases h), Or.inl tb_90⟩
theorem fl_X0_39 : fx_fl RX0 39 0 8 := ⟨RX0, TX0, 9, rfl, by decide, uw_X0, Or.inl tb_93⟩
theorem fp_X0_39 : fx_fp RX0 39 0 8 (.int) false := ⟨RX0, TX0, 9, tyX0, rfl, by decide, uw_X0, tyX0_ok, nmX0, rfl, by decide +kernel, fun h => (by cases h), Or.inl tb_93⟩
theorem fl_X1_15 : fx_fl RX1 15 1 1 := ⟨RX1, TX1, 2, rfl, by decide, uw_X1, Or.inl tb_201⟩
theorem fp_X1_15 : fx_fp RX1 15 1 1 (.array .int) true := ⟨RX1, TX1, 2, tyX1, rfl, by decide, uw_X1, tyX1_ok, nmX1, rfl, by decide +kernel, fun _ => rfl, Or.inl tb_201⟩
theorem fl_X1_26 : fx_fl RX1 26 0 5 := ⟨RX0, TX0, 9, rfl, by decide, uw_X0, Or.inr (Or.inl ⟨_, tb_85⟩)⟩
theorem fp_X1_26 : fx_fp RX1 26 0 5 (.int) false := ⟨RX0, TX0, 9, tyX0, rfl, by decide, uw_X0, tyX0_ok, nmX0, rfl, by decide +kernel, fun h => (by cases h), Or.inr ⟨rfl, _, tb_85⟩⟩
theorem fl_X1_36 : fx_fl RX1 36 0 1 := ⟨RX0, TX0, 9, rfl, by decide, uw_X0, Or.inr (Or.inl ⟨_, tb_71⟩)⟩
theorem fl_X1_9 : fx_fl RX1 9 1 0 := ⟨RX1, TX1, 2, rfl, by decide, uw_X1, Or.inl tb_200⟩
theorem fp_X1_9 : fx_fp RX1 9 1 0 (.array .int) true := ⟨RX1, TX1, 2, tyX1, rfl, by decide, uw_X1, tyX1_ok, nmX1, rfl, by decide +kernel, fun _ => rfl, Or.inl tb_200⟩
theorem fl_X2_15 : fx_fl RX2 15 2 2 := ⟨RX2, TX2, 3, rfl, by decide, uw_X2, Or.inl tb_595⟩
theorem fp_X2_15 : fx_fp RX2 15 2 2 (.int) true := ⟨RX2, TX2, 3, tyX2, rfl, by decide, uw_X2, tyX2_ok, nmX2, rfl, by decide +kernel, fun _ => rfl, Or.inl tb_595⟩
theorem fl_X2_29 : fx_fl RX2 29 2 0 := ⟨RX2, TX2, 3, rfl, by decide, uw_X2, Or.inr (Or.inr ⟨_, tb_294, tb_295⟩)⟩
theorem fl_X2_40 : fx_fl RX2 40 9 3 := ⟨RX10, TX10, 5, rfl, by decide, uw_X10, Or.inr (Or.inl ⟨_, tb_44⟩)⟩
theorem fp_X2_40 : fx_fp RX2 40 9 3 (.int) false := ⟨RX10, TX10, 5, tyX10, rfl, by decide, uw_X10, tyX10_ok, nmX10, rfl, by decide +kernel, fun h => (by cases h), Or.inr ⟨rfl, _, tb_44⟩⟩
theorem fl_X2_47 : fx_fl RX2 47 0 5 := ⟨RX0, TX0, 9, rfl, by decide, uw_X0, Or.inr (Or.inl ⟨_, tb_84⟩)⟩
theorem fp_X2_47 : fx_fp RX2 47 0 5 (.int) false := ⟨RX0, TX0, 9, tyX0, rfl, by decide, uw_X0, tyX0_ok, nmX0, rfl, by decide +kernel, fun h => (by cases h), Or.inr ⟨rfl, _, tb_84⟩⟩
theorem fl_X2_57 : fx_fl RX2 57 9 2 := ⟨RX10, TX10, 5, rfl, by decide, uw_X10, Or.inr (Or.inl ⟨_, tb_41⟩)⟩
theorem fp_X2_57 : fx_fp RX2 57 9 2 (.int) false := ⟨RX10, TX10, 5, tyX10, rfl, by decide, uw_X10, tyX10_ok, nmX10, rfl, by decide +kernel, fun h => (by cases h), Or.inr ⟨rfl, _, tb_41⟩⟩
theorem fl_X2_9 : fx_fl RX2 9 2 1 := ⟨RX2, TX2, 3, rfl, by decide, uw_X2, Or.inl tb_594⟩
theorem fp_X2_9 : fx_fp RX2 9 2 1 (.object "FearLocks$City") true := ⟨RX2, TX2, 3, tyX2, rfl, by decide, uw_X2, tyX2_ok, nmX2, rfl, by decide +kernel, fun _ => rfl, Or.inl tb_594⟩
theorem fl_X3_21 : fx_fl RX3 21 0 2 := ⟨RX0, TX0, 9, rfl, by decide, uw_X0, Or.inr (Or.inl ⟨_, tb_73⟩)⟩
theorem fl_X3_24 : fx_fl RX3 24 0 3 := ⟨RX0, TX0, 9, rfl, by decide, uw_X0, Or.inr (Or.inl ⟨_, tb_77⟩)⟩
theorem fl_X3_54 : fx_fl RX3 54 0 6 := ⟨RX0, TX0, 9, rfl, by decide, uw_X0, Or.inr (Or.inl ⟨_, tb_88⟩)⟩
theorem fp_X3_54 : fx_fp RX3 54 0 6 (.int) false := ⟨RX0, TX0, 9, tyX0, rfl, by decide, uw_X0, tyX0_ok, nmX0, rfl, by decide +kernel, fun h => (by cases h), Or.inr ⟨rfl, _, tb_88⟩⟩
theorem fl_X3_9 : fx_fl RX3 9 3 0 := ⟨RX3, TX3, 1, rfl, by decide, uw_X3, Or.inl tb_190⟩
theorem fp_X3_9 : fx_fp RX3 9 3 0 (.array .int) true := ⟨RX3, TX3, 1, tyX3, rfl, by decide, uw_X3, tyX3_ok, nmX3, rfl, by decide +kernel, fun _ => rfl, Or.inl tb_190⟩
theorem fl_X4_11 : fx_fl RX4 11 4 0 := ⟨RX4, TX4, 10, rfl, by decide, uw_X4, Or.inl tb_131⟩
theorem fp_X4_11 : fx_fp RX4 11 4 0 (.array .int) true := ⟨RX4, TX4, 10, tyX4, rfl, by decide, uw_X4, tyX4_ok, nmX4, rfl, by decide +kernel, fun _ => rfl, Or.inl tb_131⟩
theorem fl_X4_15 : fx_fl RX4 15 4 1 := ⟨RX4, TX4, 10, rfl, by decide, uw_X4, Or.inl tb_132⟩
theorem fp_X4_15 : fx_fp RX4 15 4 1 (.array .int) true := ⟨RX4, TX4, 10, tyX4, rfl, by decide, uw_X4, tyX4_ok, nmX4, rfl, by decide +kernel, fun _ => rfl, Or.inl tb_132⟩
theorem fl_X4_18 : fx_fl RX4 18 4 2 := ⟨RX4, TX4, 10, rfl, by decide, uw_X4, Or.inl tb_133⟩
theorem fp_X4_18 : fx_fp RX4 18 4 2 (.int) false := ⟨RX4, TX4, 10, tyX4, rfl, by decide, uw_X4, tyX4_ok, nmX4, rfl, by decide +kernel, fun h => (by cases h), Or.inl tb_133⟩
theorem fl_X4_22 : fx_fl RX4 22 4 3 := ⟨RX4, TX4, 10, rfl, by decide, uw_X4, Or.inl tb_134⟩
theorem fp_X4_22 : fx_fp RX4 22 4 3 (.array .int) true := ⟨RX4, TX4, 10, tyX4, rfl, by decide, uw_X4, tyX4_ok, nmX4, rfl, by decide +kernel, fun _ => rfl, Or.inl tb_134⟩
theorem fl_X4_25 : fx_fl RX4 25 4 4 := ⟨RX4, TX4, 10, rfl, by decide, uw_X4, Or.inl tb_135⟩
theorem fp_X4_25 : fx_fp RX4 25 4 4 (.array .int) true := ⟨RX4, TX4, 10, tyX4, rfl, by decide, uw_X4, tyX4_ok, nmX4, rfl, by decide +kernel, fun _ => rfl, Or.inl tb_135⟩
theorem fl_X4_28 : fx_fl RX4 28 4 5 := ⟨RX4, TX4, 10, rfl, by decide, uw_X4, Or.inl tb_136⟩
theorem fp_X4_28 : fx_fp RX4 28 4 5 (.array .int) true := ⟨RX4, TX4, 10, tyX4, rfl, by decide, uw_X4, tyX4_ok, nmX4, rfl, by decide +kernel, fun _ => rfl, Or.inl tb_136⟩
theorem fl_X4_31 : fx_fl RX4 31 4 6 := ⟨RX4, TX4, 10, rfl, by decide, uw_X4, Or.inl tb_137⟩
theorem fp_X4_31 : fx_fp RX4 31 4 6 (.int) false := ⟨RX4, TX4, 10, tyX4, rfl, by decide, uw_X4, tyX4_ok, nmX4, rfl, by decide +kernel, fun h => (by cases h), Or.inl tb_137⟩
theorem fl_X4_42 : fx_fl RX4 42 4 7 := ⟨RX4, TX4, 10, rfl, by decide, uw_X4, Or.inl tb_139⟩
theorem fp_X4_42 : fx_fp RX4 42 4 7 (.array .int) true := ⟨RX4, TX4, 10, tyX4, rfl, by decide, uw_X4, tyX4_ok, nmX4, rfl, by decide +kernel, fun _ => rfl, Or.inl tb_139⟩
theorem fl_X4_45 : fx_fl RX4 45 4 8 := ⟨RX4, TX4, 10, rfl, by decide, uw_X4, Or.inl tb_140⟩
theorem fp_X4_45 : fx_fp RX4 45 4 8 (.array .int) true := ⟨RX4, TX4, 10, tyX4, rfl, by decide, uw_X4, tyX4_ok, nmX4, rfl, by decide +kernel, fun _ => rfl, Or.inl tb_140⟩
theorem fl_X4_48 : fx_fl RX4 48 4 9 := ⟨RX4, TX4, 10, rfl, by decide, uw_X4, Or.inl tb_141⟩
theorem fp_X4_48 : fx_fp RX4 48 4 9 (.int) false := ⟨RX4, TX4, 10, tyX4, rfl, by decide, uw_X4, tyX4_ok, nmX4, rfl, by decide +kernel, fun h => (by cases h), Or.inl tb_141⟩
theorem fl_X5_15 : fx_fl RX5 15 5 0 := ⟨RX5, TX5, 2, rfl, by decide, uw_X5, Or.inr (Or.inr ⟨_, tb_290, tb_291⟩)⟩
theorem fl_X5_25 : fx_fl RX5 25 9 3 := ⟨RX10, TX10, 5, rfl, by decide, uw_X10, Or.inr (Or.inl ⟨_, tb_43⟩)⟩
theorem fp_X5_25 : fx_fp RX5 25 9 3 (.int) false := ⟨RX10, TX10, 5, tyX10, rfl, by decide, uw_X10, tyX10_ok, nmX10, rfl, by decide +kernel, fun h => (by cases h), Or.inr ⟨rfl, _, tb_43⟩⟩
theorem fl_X5_59 : fx_fl RX5 59 9 2 := ⟨RX10, TX10, 5, rfl, by decide, uw_X10, Or.inr (Or.inl ⟨_, tb_39⟩)⟩
theorem fp_X5_59 : fx_fp RX5 59 9 2 (.int) false := ⟨RX10, TX10, 5, tyX10, rfl, by decide, uw_X10, tyX10_ok, nmX10, rfl, by decide +kernel, fun h => (by cases h), Or.inr ⟨rfl, _, tb_39⟩⟩
theorem fl_X5_9 : fx_fl RX5 9 5 1 := ⟨RX5, TX5, 2, rfl, by decide, uw_X5, Or.inl tb_288⟩
theorem fp_X5_9 : fx_fp RX5 9 5 1 (.object "FearLocks$Law") true := ⟨RX5, TX5, 2, tyX5, rfl, by decide, uw_X5, tyX5_ok, nmX5, rfl, by decide +kernel, fun _ => rfl, Or.inl tb_288⟩
theorem fl_X6_15 : fx_fl RX6 15 9 3 := ⟨RX10, TX10, 5, rfl, by decide, uw_X10, Or.inr (Or.inl ⟨_, tb_45⟩)⟩
theorem fp_X6_15 : fx_fp RX6 15 9 3 (.int) false := ⟨RX10, TX10, 5, tyX10, rfl, by decide, uw_X10, tyX10_ok, nmX10, rfl, by decide +kernel, fun h => (by cases h), Or.inr ⟨rfl, _, tb_45⟩⟩
theorem fl_X6_21 : fx_fl RX6 21 9 2 := ⟨RX10, TX10, 5, rfl, by decide, uw_X10, Or.inr (Or.inl ⟨_, tb_40⟩)⟩
theorem fp_X6_21 : fx_fp RX6 21 9 2 (.int) false := ⟨RX10, TX10, 5, tyX10, rfl, by decide, uw_X10, tyX10_ok, nmX10, rfl, by decide +kernel, fun h => (by cases h), Or.inr ⟨rfl, _, tb_40⟩⟩
theorem fl_X6_28 : fx_fl RX6 28 9 4 := ⟨RX10, TX10, 5, rfl, by decide, uw_X10, Or.inr (Or.inl ⟨_, tb_48⟩)⟩
theorem fp_X6_28 : fx_fp RX6 28 9 4 (.int) false := ⟨RX10, TX10, 5, tyX10, rfl, by decide, uw_X10, tyX10_ok, nmX10, rfl, by decide +kernel, fun h => (by cases h), Or.inr ⟨rfl, _, tb_48⟩⟩
theorem fl_X7_100 : fx_fl RX7 100 0 3 := ⟨RX0, TX0, 9, rfl, by decide, uw_X0, Or.inr (Or.inl ⟨_, tb_78⟩)⟩
theorem fl_X7_103 : fx_fl RX7 103 0 4 := ⟨RX0, TX0, 9, rfl, by decide, uw_X0, Or.inr (Or.inl ⟨_, tb_81⟩)⟩
theorem fl_X7_12 : fx_fl RX7 12 6 0 := ⟨RX7, TX7, 3, rfl, by decide, uw_X7, Or.inl tb_172⟩
theorem fp_X7_12 : fx_fp RX7 12 6 0 (.object "FearLocks$City") true := ⟨RX7, TX7, 3, tyX7, rfl, by decide, uw_X7, tyX7_ok, nmX7, rfl, by decide +kernel, fun _ => rfl, Or.inl tb_172⟩
theorem fl_X7_18 : fx_fl RX7 18 6 1 := ⟨RX7, TX7, 3, rfl, by decide, uw_X7, Or.inl tb_173⟩
theorem fp_X7_18 : fx_fp RX7 18 6 1 (.int) false := ⟨RX7, TX7, 3, tyX7, rfl, by decide, uw_X7, tyX7_ok, nmX7, rfl, by decide +kernel, fun h => (by cases h), Or.inl tb_173⟩
theorem fl_X7_22 : fx_fl RX7 22 6 2 := ⟨RX7, TX7, 3, rfl, by decide, uw_X7, Or.inl tb_175⟩
theorem fp_X7_22 : fx_fp RX7 22 6 2 (.int) false := ⟨RX7, TX7, 3, tyX7, rfl, by decide, uw_X7, tyX7_ok, nmX7, rfl, by decide +kernel, fun h => (by cases h), Or.inl tb_175⟩
theorem fl_X7_25 : fx_fl RX7 25 0 7 := ⟨RX0, TX0, 9, rfl, by decide, uw_X0, Or.inr (Or.inl ⟨_, tb_91⟩)⟩
theorem fp_X7_25 : fx_fp RX7 25 0 7 (.int) false := ⟨RX0, TX0, 9, tyX0, rfl, by decide, uw_X0, tyX0_ok, nmX0, rfl, by decide +kernel, fun h => (by cases h), Or.inr ⟨rfl, _, tb_91⟩⟩
theorem fl_X7_93 : fx_fl RX7 93 0 2 := ⟨RX0, TX0, 9, rfl, by decide, uw_X0, Or.inr (Or.inl ⟨_, tb_74⟩)⟩
theorem fl_X8_21 : fx_fl RX8 21 7 0 := ⟨RX8, TX8, 2, rfl, by decide, uw_X8, Or.inr (Or.inr ⟨_, tb_292, tb_293⟩)⟩
theorem fl_X8_42 : fx_fl RX8 42 9 3 := ⟨RX10, TX10, 5, rfl, by decide, uw_X10, Or.inr (Or.inl ⟨_, tb_46⟩)⟩
theorem fp_X8_42 : fx_fp RX8 42 9 3 (.int) false := ⟨RX10, TX10, 5, tyX10, rfl, by decide, uw_X10, tyX10_ok, nmX10, rfl, by decide +kernel, fun h => (by cases h), Or.inr ⟨rfl, _, tb_46⟩⟩
theorem fl_X8_9 : fx_fl RX8 9 7 1 := ⟨RX8, TX8, 2, rfl, by decide, uw_X8, Or.inl tb_614⟩
theorem fp_X8_9 : fx_fp RX8 9 7 1 (.object "FearLocks$City") true := ⟨RX8, TX8, 2, tyX8, rfl, by decide, uw_X8, tyX8_ok, nmX8, rfl, by decide +kernel, fun _ => rfl, Or.inl tb_614⟩
theorem fl_X9_15 : fx_fl RX9 15 8 1 := ⟨RX9, TX9, 2, rfl, by decide, uw_X9, Or.inl tb_214⟩
theorem fp_X9_15 : fx_fp RX9 15 8 1 (.array .long) true := ⟨RX9, TX9, 2, tyX9, rfl, by decide, uw_X9, tyX9_ok, nmX9, rfl, by decide +kernel, fun _ => rfl, Or.inl tb_214⟩
theorem fl_X9_9 : fx_fl RX9 9 8 0 := ⟨RX9, TX9, 2, rfl, by decide, uw_X9, Or.inl tb_213⟩
theorem fp_X9_9 : fx_fp RX9 9 8 0 (.array .int) true := ⟨RX9, TX9, 2, tyX9, rfl, by decide, uw_X9, tyX9_ok, nmX9, rfl, by decide +kernel, fun _ => rfl, Or.inl tb_213⟩
theorem fl_X10_15 : fx_fl RX10 15 9 1 := ⟨RX10, TX10, 5, rfl, by decide, uw_X10, Or.inl tb_36⟩
theorem fp_X10_15 : fx_fp RX10 15 9 1 (.int) false := ⟨RX10, TX10, 5, tyX10, rfl, by decide, uw_X10, tyX10_ok, nmX10, rfl, by decide +kernel, fun h => (by cases h), Or.inl tb_36⟩
theorem fl_X10_19 : fx_fl RX10 19 9 2 := ⟨RX10, TX10, 5, rfl, by decide, uw_X10, Or.inl tb_38⟩
theorem fp_X10_19 : fx_fp RX10 19 9 2 (.int) false := ⟨RX10, TX10, 5, tyX10, rfl, by decide, uw_X10, tyX10_ok, nmX10, rfl, by decide +kernel, fun h => (by cases h), Or.inl tb_38⟩
theorem fl_X10_22 : fx_fl RX10 22 9 3 := ⟨RX10, TX10, 5, rfl, by decide, uw_X10, Or.inl tb_42⟩
theorem fp_X10_22 : fx_fp RX10 22 9 3 (.int) false := ⟨RX10, TX10, 5, tyX10, rfl, by decide, uw_X10, tyX10_ok, nmX10, rfl, by decide +kernel, fun h => (by cases h), Or.inl tb_42⟩
theorem fl_X10_25 : fx_fl RX10 25 9 4 := ⟨RX10, TX10, 5, rfl, by decide, uw_X10, Or.inl tb_47⟩
theorem fp_X10_25 : fx_fp RX10 25 9 4 (.int) false := ⟨RX10, TX10, 5, tyX10, rfl, by decide, uw_X10, tyX10_ok, nmX10, rfl, by decide +kernel, fun h => (by cases h), Or.inl tb_47⟩
theorem fl_X10_9 : fx_fl RX10 9 9 0 := ⟨RX10, TX10, 5, rfl, by decide, uw_X10, Or.inl tb_35⟩
theorem fp_X10_9 : fx_fp RX10 9 9 0 (.array .int) true := ⟨RX10, TX10, 5, tyX10, rfl, by decide, uw_X10, tyX10_ok, nmX10, rfl, by decide +kernel, fun _ => rfl, Or.inl tb_35⟩
theorem fl_X11_118 : fx_fl RX11 118 6 1 := ⟨RX7, TX7, 3, rfl, by decide, uw_X7, Or.inr (Or.inl ⟨_, tb_174⟩)⟩
theorem fp_X11_118 : fx_fp RX11 118 6 1 (.int) false := ⟨RX7, TX7, 3, tyX7, rfl, by decide, uw_X7, tyX7_ok, nmX7, rfl, by decide +kernel, fun h => (by cases h), Or.inr ⟨rfl, _, tb_174⟩⟩
theorem fl_X11_12 : fx_fl RX11 12 10 0 := ⟨RX11, TX11, 11, rfl, by decide, uw_X11, Or.inl tb_221⟩
theorem fp_X11_12 : fx_fp RX11 12 10 0 (.object "FearLocks$Tape") true := ⟨RX11, TX11, 11, tyX11, rfl, by decide, uw_X11, tyX11_ok, nmX11, rfl, by decide +kernel, fun _ => rfl, Or.inl tb_221⟩
theorem fl_X11_125 : fx_fl RX11 125 6 2 := ⟨RX7, TX7, 3, rfl, by decide, uw_X7, Or.inr (Or.inl ⟨_, tb_176⟩)⟩
theorem fp_X11_125 : fx_fp RX11 125 6 2 (.int) false := ⟨RX7, TX7, 3, tyX7, rfl, by decide, uw_X7, tyX7_ok, nmX7, rfl, by decide +kernel, fun h => (by cases h), Or.inr ⟨rfl, _, tb_176⟩⟩
theorem fl_X11_156 : fx_fl RX11 156 0 2 := ⟨RX0, TX0, 9, rfl, by decide, uw_X0, Or.inr (Or.inl ⟨_, tb_75⟩)⟩
theorem fl_X11_160 : fx_fl RX11 160 0 3 := ⟨RX0, TX0, 9, rfl, by decide, uw_X0, Or.inr (Or.inl ⟨_, tb_79⟩)⟩
theorem fl_X11_163 : fx_fl RX11 163 0 4 := ⟨RX0, TX0, 9, rfl, by decide, uw_X0, Or.inr (Or.inl ⟨_, tb_82⟩)⟩
theorem fl_X11_19 : fx_fl RX11 19 10 1 := ⟨RX11, TX11, 11, rfl, by decide, uw_X11, Or.inl tb_222⟩
theorem fp_X11_19 : fx_fp RX11 19 10 1 (.object "FearLocks$City") true := ⟨RX11, TX11, 11, tyX11, rfl, by decide, uw_X11, tyX11_ok, nmX11, rfl, by decide +kernel, fun _ => rfl, Or.inl tb_222⟩
theorem fl_X11_212 : fx_fl RX11 212 0 5 := ⟨RX0, TX0, 9, rfl, by decide, uw_X0, Or.inr (Or.inl ⟨_, tb_86⟩)⟩
theorem fp_X11_212 : fx_fp RX11 212 0 5 (.int) false := ⟨RX0, TX0, 9, tyX0, rfl, by decide, uw_X0, tyX0_ok, nmX0, rfl, by decide +kernel, fun h => (by cases h), Or.inr ⟨rfl, _, tb_86⟩⟩
theorem fl_X11_23 : fx_fl RX11 23 10 2 := ⟨RX11, TX11, 11, rfl, by decide, uw_X11, Or.inl tb_223⟩
theorem fp_X11_23 : fx_fp RX11 23 10 2 (.object "FearLocks$City") true := ⟨RX11, TX11, 11, tyX11, rfl, by decide, uw_X11, tyX11_ok, nmX11, rfl, by decide +kernel, fun _ => rfl, Or.inl tb_223⟩
theorem fl_X11_26 : fx_fl RX11 26 10 3 := ⟨RX11, TX11, 11, rfl, by decide, uw_X11, Or.inl tb_224⟩
theorem fp_X11_26 : fx_fp RX11 26 10 3 (.object "FearLocks$City") true := ⟨RX11, TX11, 11, tyX11, rfl, by decide, uw_X11, tyX11_ok, nmX11, rfl, by decide +kernel, fun _ => rfl, Or.inl tb_224⟩
theorem fl_X11_265 : fx_fl RX11 265 0 8 := ⟨RX0, TX0, 9, rfl, by decide, uw_X0, Or.inr (Or.inl ⟨_, tb_94⟩)⟩
theorem fp_X11_265 : fx_fp RX11 265 0 8 (.int) false := ⟨RX0, TX0, 9, tyX0, rfl, by decide, uw_X0, tyX0_ok, nmX0, rfl, by decide +kernel, fun h => (by cases h), Or.inr ⟨rfl, _, tb_94⟩⟩
theorem fl_X11_268 : fx_fl RX11 268 0 7 := ⟨RX0, TX0, 9, rfl, by decide, uw_X0, Or.inr (Or.inl ⟨_, tb_92⟩)⟩
theorem fp_X11_268 : fx_fp RX11 268 0 7 (.int) false := ⟨RX0, TX0, 9, tyX0, rfl, by decide, uw_X0, tyX0_ok, nmX0, rfl, by decide +kernel, fun h => (by cases h), Or.inr ⟨rfl, _, tb_92⟩⟩
theorem fl_X11_274 : fx_fl RX11 274 0 6 := ⟨RX0, TX0, 9, rfl, by decide, uw_X0, Or.inr (Or.inl ⟨_, tb_89⟩)⟩
theorem fp_X11_274 : fx_fp RX11 274 0 6 (.int) false := ⟨RX0, TX0, 9, tyX0, rfl, by decide, uw_X0, tyX0_ok, nmX0, rfl, by decide +kernel, fun h => (by cases h), Or.inr ⟨rfl, _, tb_89⟩⟩
theorem fl_X11_283 : fx_fl RX11 283 4 6 := ⟨RX4, TX4, 10, rfl, by decide, uw_X4, Or.inr (Or.inl ⟨_, tb_138⟩)⟩
theorem fp_X11_283 : fx_fp RX11 283 4 6 (.int) false := ⟨RX4, TX4, 10, tyX4, rfl, by decide, uw_X4, tyX4_ok, nmX4, rfl, by decide +kernel, fun h => (by cases h), Or.inr ⟨rfl, _, tb_138⟩⟩
theorem fl_X11_29 : fx_fl RX11 29 10 4 := ⟨RX11, TX11, 11, rfl, by decide, uw_X11, Or.inl tb_225⟩
theorem fp_X11_29 : fx_fp RX11 29 10 4 (.boolean) false := ⟨RX11, TX11, 11, tyX11, rfl, by decide, uw_X11, tyX11_ok, nmX11, rfl, by decide +kernel, fun h => (by cases h), Or.inl tb_225⟩
theorem fl_X11_36 : fx_fl RX11 36 10 5 := ⟨RX11, TX11, 11, rfl, by decide, uw_X11, Or.inl tb_226⟩
theorem fp_X11_36 : fx_fp RX11 36 10 5 (.object "FearLocks$Law") false := ⟨RX11, TX11, 11, tyX11, rfl, by decide, uw_X11, tyX11_ok, nmX11, rfl, by decide +kernel, fun h => (by cases h), Or.inl tb_226⟩
theorem fl_X11_40 : fx_fl RX11 40 10 6 := ⟨RX11, TX11, 11, rfl, by decide, uw_X11, Or.inl tb_227⟩
theorem fp_X11_40 : fx_fp RX11 40 10 6 (.object "FearLocks$Law") false := ⟨RX11, TX11, 11, tyX11, rfl, by decide, uw_X11, tyX11_ok, nmX11, rfl, by decide +kernel, fun h => (by cases h), Or.inl tb_227⟩
theorem fl_X11_46 : fx_fl RX11 46 10 7 := ⟨RX11, TX11, 11, rfl, by decide, uw_X11, Or.inl tb_228⟩
theorem fp_X11_46 : fx_fp RX11 46 10 7 (.object "FearLocks$Nightfall") true := ⟨RX11, TX11, 11, tyX11, rfl, by decide, uw_X11, tyX11_ok, nmX11, rfl, by decide +kernel, fun _ => rfl, Or.inl tb_228⟩
theorem fl_X11_53 : fx_fl RX11 53 10 8 := ⟨RX11, TX11, 11, rfl, by decide, uw_X11, Or.inl tb_229⟩
theorem fp_X11_53 : fx_fp RX11 53 10 8 (.object "FearLocks$Keys") true := ⟨RX11, TX11, 11, tyX11, rfl, by decide, uw_X11, tyX11_ok, nmX11, rfl, by decide +kernel, fun _ => rfl, Or.inl tb_229⟩
theorem fl_X11_60 : fx_fl RX11 60 10 9 := ⟨RX11, TX11, 11, rfl, by decide, uw_X11, Or.inl tb_230⟩
theorem fp_X11_60 : fx_fp RX11 60 10 9 (.object "FearLocks$Company") true := ⟨RX11, TX11, 11, tyX11, rfl, by decide, uw_X11, tyX11_ok, nmX11, rfl, by decide +kernel, fun _ => rfl, Or.inl tb_230⟩
theorem fl_X11_67 : fx_fl RX11 67 10 10 := ⟨RX11, TX11, 11, rfl, by decide, uw_X11, Or.inl tb_231⟩
theorem fp_X11_67 : fx_fp RX11 67 10 10 (.object "FearLocks$Pastimes") true := ⟨RX11, TX11, 11, tyX11, rfl, by decide, uw_X11, tyX11_ok, nmX11, rfl, by decide +kernel, fun _ => rfl, Or.inl tb_231⟩
theorem fl_X11_71 : fx_fl RX11 71 9 1 := ⟨RX10, TX10, 5, rfl, by decide, uw_X10, Or.inr (Or.inl ⟨_, tb_37⟩)⟩
theorem fp_X11_71 : fx_fp RX11 71 9 1 (.int) false := ⟨RX10, TX10, 5, tyX10, rfl, by decide, uw_X10, tyX10_ok, nmX10, rfl, by decide +kernel, fun h => (by cases h), Or.inr ⟨rfl, _, tb_37⟩⟩
theorem fl_X12_103 : fx_fl RX12 103 11 49 := ⟨RX12, TX12, 52, rfl, by decide, uw_X12, Or.inl tb_1088⟩
theorem fp_X12_103 : fx_fp RX12 103 11 49 (.array .long) true := ⟨RX12, TX12, 52, tyX12, rfl, by decide, uw_X12, tyX12_ok, nmX12, rfl, by decide +kernel, fun _ => rfl, Or.inl tb_1088⟩
theorem fl_X12_107 : fx_fl RX12 107 11 50 := ⟨RX12, TX12, 52, rfl, by decide, uw_X12, Or.inl tb_1089⟩
theorem fp_X12_107 : fx_fp RX12 107 11 50 (.array .int) true := ⟨RX12, TX12, 52, tyX12, rfl, by decide, uw_X12, tyX12_ok, nmX12, rfl, by decide +kernel, fun _ => rfl, Or.inl tb_1089⟩
theorem fl_X12_121 : fx_fl RX12 121 11 9 := ⟨RX12, TX12, 52, rfl, by decide, uw_X12, Or.inl tb_1048⟩
theorem fp_X12_121 : fx_fp RX12 121 11 9 (.int) false := ⟨RX12, TX12, 52, tyX12, rfl, by decide, uw_X12, tyX12_ok, nmX12, rfl, by decide +kernel, fun h => (by cases h), Or.inl tb_1048⟩
theorem fl_X12_129 : fx_fl RX12 129 11 10 := ⟨RX12, TX12, 52, rfl, by decide, uw_X12, Or.inl tb_1049⟩
theorem fp_X12_129 : fx_fp RX12 129 11 10 (.int) false := ⟨RX12, TX12, 52, tyX12, rfl, by decide, uw_X12, tyX12_ok, nmX12, rfl, by decide +kernel, fun h => (by cases h), Or.inl tb_1049⟩
theorem fl_X12_13 : fx_fl RX12 13 11 1 := ⟨RX12, TX12, 52, rfl, by decide, uw_X12, Or.inl tb_1040⟩
theorem fp_X12_13 : fx_fp RX12 13 11 1 (.array .int) true := ⟨RX12, TX12, 52, tyX12, rfl, by decide, uw_X12, tyX12_ok, nmX12, rfl, by decide +kernel, fun _ => rfl, Or.inl tb_1040⟩
theorem fl_X12_152 : fx_fl RX12 152 11 13 := ⟨RX12, TX12, 52, rfl, by decide, uw_X12, Or.inl tb_1052⟩
theorem fp_X12_152 : fx_fp RX12 152 11 13 (.int) false := ⟨RX12, TX12, 52, tyX12, rfl, by decide, uw_X12, tyX12_ok, nmX12, rfl, by decide +kernel, fun h => (by cases h), Or.inl tb_1052⟩
theorem fl_X12_159 : fx_fl RX12 159 11 14 := ⟨RX12, TX12, 52, rfl, by decide, uw_X12, Or.inl tb_1053⟩
theorem fp_X12_159 : fx_fp RX12 159 11 14 (.int) false := ⟨RX12, TX12, 52, tyX12, rfl, by decide, uw_X12, tyX12_ok, nmX12, rfl, by decide +kernel, fun h => (by cases h), Or.inl tb_1053⟩
theorem fl_X12_16 : fx_fl RX12 16 11 2 := ⟨RX12, TX12, 52, rfl, by decide, uw_X12, Or.inl tb_1041⟩
theorem fp_X12_16 : fx_fp RX12 16 11 2 (.array .int) true := ⟨RX12, TX12, 52, tyX12, rfl, by decide, uw_X12, tyX12_ok, nmX12, rfl, by decide +kernel, fun _ => rfl, Or.inl tb_1041⟩
theorem fl_X12_162 : fx_fl RX12 162 11 15 := ⟨RX12, TX12, 52, rfl, by decide, uw_X12, Or.inl tb_1054⟩
theorem fp_X12_162 : fx_fp RX12 162 11 15 (.int) false := ⟨RX12, TX12, 52, tyX12, rfl, by decide, uw_X12, tyX12_ok, nmX12, rfl, by decide +kernel, fun h => (by cases h), Or.inl tb_1054⟩
theorem fl_X12_169 : fx_fl RX12 169 11 16 := ⟨RX12, TX12, 52, rfl, by decide, uw_X12, Or.inl tb_1055⟩
theorem fp_X12_169 : fx_fp RX12 169 11 16 (.int) false := ⟨RX12, TX12, 52, tyX12, rfl, by decide, uw_X12, tyX12_ok, nmX12, rfl, by decide +kernel, fun h => (by cases h), Or.inl tb_1055⟩
theorem fl_X12_175 : fx_fl RX12 175 11 17 := ⟨RX12, TX12, 52, rfl, by decide, uw_X12, Or.inl tb_1056⟩
theorem fp_X12_175 : fx_fp RX12 175 11 17 (.int) false := ⟨RX12, TX12, 52, tyX12, rfl, by decide, uw_X12, tyX12_ok, nmX12, rfl, by decide +kernel, fun h => (by cases h), Or.inl tb_1056⟩
theorem fl_X12_182 : fx_fl RX12 182 11 19 := ⟨RX12, TX12, 52, rfl, by decide, uw_X12, Or.inl tb_1058⟩
theorem fp_X12_182 : fx_fp RX12 182 11 19 (.int) false := ⟨RX12, TX12, 52, tyX12, rfl, by decide, uw_X12, tyX12_ok, nmX12, rfl, by decide +kernel, fun h => (by cases h), Or.inl tb_1058⟩
theorem fl_X12_186 : fx_fl RX12 186 11 18 := ⟨RX12, TX12, 52, rfl, by decide, uw_X12, Or.inl tb_1057⟩
theorem fp_X12_186 : fx_fp RX12 186 11 18 (.int) false := ⟨RX12, TX12, 52, tyX12, rfl, by decide, uw_X12, tyX12_ok, nmX12, rfl, by decide +kernel, fun h => (by cases h), Or.inl tb_1057⟩
theorem fl_X12_189 : fx_fl RX12 189 11 20 := ⟨RX12, TX12, 52, rfl, by decide, uw_X12, Or.inl tb_1059⟩
theorem fp_X12_189 : fx_fp RX12 189 11 20 (.int) false := ⟨RX12, TX12, 52, tyX12, rfl, by decide, uw_X12, tyX12_ok, nmX12, rfl, by decide +kernel, fun h => (by cases h), Or.inl tb_1059⟩
theorem fl_X12_19 : fx_fl RX12 19 11 3 := ⟨RX12, TX12, 52, rfl, by decide, uw_X12, Or.inl tb_1042⟩
theorem fp_X12_19 : fx_fp RX12 19 11 3 (.array .int) true := ⟨RX12, TX12, 52, tyX12, rfl, by decide, uw_X12, tyX12_ok, nmX12, rfl, by decide +kernel, fun _ => rfl, Or.inl tb_1042⟩
theorem fl_X12_22 : fx_fl RX12 22 11 4 := ⟨RX12, TX12, 52, rfl, by decide, uw_X12, Or.inl tb_1043⟩
theorem fp_X12_22 : fx_fp RX12 22 11 4 (.array .int) true := ⟨RX12, TX12, 52, tyX12, rfl, by decide, uw_X12, tyX12_ok, nmX12, rfl, by decide +kernel, fun _ => rfl, Or.inl tb_1043⟩
theorem fl_X12_236 : fx_fl RX12 236 11 21 := ⟨RX12, TX12, 52, rfl, by decide, uw_X12, Or.inl tb_1060⟩
theorem fp_X12_236 : fx_fp RX12 236 11 21 (.int) false := ⟨RX12, TX12, 52, tyX12, rfl, by decide, uw_X12, tyX12_ok, nmX12, rfl, by decide +kernel, fun h => (by cases h), Or.inl tb_1060⟩
theorem fl_X12_25 : fx_fl RX12 25 11 5 := ⟨RX12, TX12, 52, rfl, by decide, uw_X12, Or.inl tb_1044⟩
theorem fp_X12_25 : fx_fp RX12 25 11 5 (.array .int) true := ⟨RX12, TX12, 52, tyX12, rfl, by decide, uw_X12, tyX12_ok, nmX12, rfl, by decide +kernel, fun _ => rfl, Or.inl tb_1044⟩
theorem fl_X12_251 : fx_fl RX12 251 11 22 := ⟨RX12, TX12, 52, rfl, by decide, uw_X12, Or.inl tb_1061⟩
theorem fp_X12_251 : fx_fp RX12 251 11 22 (.int) false := ⟨RX12, TX12, 52, tyX12, rfl, by decide, uw_X12, tyX12_ok, nmX12, rfl, by decide +kernel, fun h => (by cases h), Or.inl tb_1061⟩
theorem fl_X12_262 : fx_fl RX12 262 11 37 := ⟨RX12, TX12, 52, rfl, by decide, uw_X12, Or.inl tb_1076⟩
theorem fp_X12_262 : fx_fp RX12 262 11 37 (.int) false := ⟨RX12, TX12, 52, tyX12, rfl, by decide, uw_X12, tyX12_ok, nmX12, rfl, by decide +kernel, fun h => (by cases h), Or.inl tb_1076⟩
theorem fl_X12_268 : fx_fl RX12 268 11 36 := ⟨RX12, TX12, 52, rfl, by decide, uw_X12, Or.inl tb_1075⟩
theorem fp_X12_268 : fx_fp RX12 268 11 36 (.int) false := ⟨RX12, TX12, 52, tyX12, rfl, by decide, uw_X12, tyX12_ok, nmX12, rfl, by decide +kernel, fun h => (by cases h), Or.inl tb_1075⟩
theorem fl_X12_28 : fx_fl RX12 28 11 6 := ⟨RX12, TX12, 52, rfl, by decide, uw_X12, Or.inl tb_1045⟩
theorem fp_X12_28 : fx_fp RX12 28 11 6 (.array .int) true := ⟨RX12, TX12, 52, tyX12, rfl, by decide, uw_X12, tyX12_ok, nmX12, rfl, by decide +kernel, fun _ => rfl, Or.inl tb_1045⟩
theorem fl_X12_296 : fx_fl RX12 296 11 11 := ⟨RX12, TX12, 52, rfl, by decide, uw_X12, Or.inl tb_1050⟩
theorem fp_X12_296 : fx_fp RX12 296 11 11 (.int) false := ⟨RX12, TX12, 52, tyX12, rfl, by decide, uw_X12, tyX12_ok, nmX12, rfl, by decide +kernel, fun h => (by cases h), Or.inl tb_1050⟩
theorem fl_X12_31 : fx_fl RX12 31 11 7 := ⟨RX12, TX12, 52, rfl, by decide, uw_X12, Or.inl tb_1046⟩
theorem fp_X12_31 : fx_fp RX12 31 11 7 (.array .int) true := ⟨RX12, TX12, 52, tyX12, rfl, by decide, uw_X12, tyX12_ok, nmX12, rfl, by decide +kernel, fun _ => rfl, Or.inl tb_1046⟩
theorem fl_X12_321 : fx_fl RX12 321 11 38 := ⟨RX12, TX12, 52, rfl, by decide, uw_X12, Or.inl tb_1077⟩
theorem fp_X12_321 : fx_fp RX12 321 11 38 (.int) false := ⟨RX12, TX12, 52, tyX12, rfl, by decide, uw_X12, tyX12_ok, nmX12, rfl, by decide +kernel, fun h => (by cases h), Or.inl tb_1077⟩
theorem fl_X12_324 : fx_fl RX12 324 11 39 := ⟨RX12, TX12, 52, rfl, by decide, uw_X12, Or.inl tb_1078⟩
theorem fp_X12_324 : fx_fp RX12 324 11 39 (.int) false := ⟨RX12, TX12, 52, tyX12, rfl, by decide, uw_X12, tyX12_ok, nmX12, rfl, by decide +kernel, fun h => (by cases h), Or.inl tb_1078⟩
theorem fl_X12_34 : fx_fl RX12 34 11 8 := ⟨RX12, TX12, 52, rfl, by decide, uw_X12, Or.inl tb_1047⟩
theorem fp_X12_34 : fx_fp RX12 34 11 8 (.array .int) true := ⟨RX12, TX12, 52, tyX12, rfl, by decide, uw_X12, tyX12_ok, nmX12, rfl, by decide +kernel, fun _ => rfl, Or.inl tb_1047⟩
theorem fl_X12_37 : fx_fl RX12 37 11 12 := ⟨RX12, TX12, 52, rfl, by decide, uw_X12, Or.inl tb_1051⟩
theorem fp_X12_37 : fx_fp RX12 37 11 12 (.array .byte) true := ⟨RX12, TX12, 52, tyX12, rfl, by decide, uw_X12, tyX12_ok, nmX12, rfl, by decide +kernel, fun _ => rfl, Or.inl tb_1051⟩
theorem fl_X12_395 : fx_fl RX12 395 11 45 := ⟨RX12, TX12, 52, rfl, by decide, uw_X12, Or.inl tb_1084⟩
theorem fp_X12_395 : fx_fp RX12 395 11 45 (.int) false := ⟨RX12, TX12, 52, tyX12, rfl, by decide, uw_X12, tyX12_ok, nmX12, rfl, by decide +kernel, fun h => (by cases h), Or.inl tb_1084⟩
theorem fl_X12_398 : fx_fl RX12 398 11 46 := ⟨RX12, TX12, 52, rfl, by decide, uw_X12, Or.inl tb_1085⟩
theorem fp_X12_398 : fx_fp RX12 398 11 46 (.int) false := ⟨RX12, TX12, 52, tyX12, rfl, by decide, uw_X12, tyX12_ok, nmX12, rfl, by decide +kernel, fun h => (by cases h), Or.inl tb_1085⟩
theorem fl_X12_41 : fx_fl RX12 41 11 23 := ⟨RX12, TX12, 52, rfl, by decide, uw_X12, Or.inl tb_1062⟩
theorem fp_X12_41 : fx_fp RX12 41 11 23 (.array .int) true := ⟨RX12, TX12, 52, tyX12, rfl, by decide, uw_X12, tyX12_ok, nmX12, rfl, by decide +kernel, fun _ => rfl, Or.inl tb_1062⟩
theorem fl_X12_424 : fx_fl RX12 424 11 51 := ⟨RX12, TX12, 52, rfl, by decide, uw_X12, Or.inl tb_1090⟩
theorem fp_X12_424 : fx_fp RX12 424 11 51 (.boolean) false := ⟨RX12, TX12, 52, tyX12, rfl, by decide, uw_X12, tyX12_ok, nmX12, rfl, by decide +kernel, fun h => (by cases h), Or.inl tb_1090⟩
theorem fl_X12_44 : fx_fl RX12 44 11 24 := ⟨RX12, TX12, 52, rfl, by decide, uw_X12, Or.inl tb_1063⟩
theorem fp_X12_44 : fx_fp RX12 44 11 24 (.array .int) true := ⟨RX12, TX12, 52, tyX12, rfl, by decide, uw_X12, tyX12_ok, nmX12, rfl, by decide +kernel, fun _ => rfl, Or.inl tb_1063⟩
theorem fl_X12_47 : fx_fl RX12 47 11 25 := ⟨RX12, TX12, 52, rfl, by decide, uw_X12, Or.inl tb_1064⟩
theorem fp_X12_47 : fx_fp RX12 47 11 25 (.array .int) true := ⟨RX12, TX12, 52, tyX12, rfl, by decide, uw_X12, tyX12_ok, nmX12, rfl, by decide +kernel, fun _ => rfl, Or.inl tb_1064⟩
theorem fl_X12_50 : fx_fl RX12 50 11 26 := ⟨RX12, TX12, 52, rfl, by decide, uw_X12, Or.inl tb_1065⟩
theorem fp_X12_50 : fx_fp RX12 50 11 26 (.array .int) true := ⟨RX12, TX12, 52, tyX12, rfl, by decide, uw_X12, tyX12_ok, nmX12, rfl, by decide +kernel, fun _ => rfl, Or.inl tb_1065⟩
theorem fl_X12_53 : fx_fl RX12 53 11 27 := ⟨RX12, TX12, 52, rfl, by decide, uw_X12, Or.inl tb_1066⟩
theorem fp_X12_53 : fx_fp RX12 53 11 27 (.array .int) true := ⟨RX12, TX12, 52, tyX12, rfl, by decide, uw_X12, tyX12_ok, nmX12, rfl, by decide +kernel, fun _ => rfl, Or.inl tb_1066⟩
theorem fl_X12_56 : fx_fl RX12 56 11 28 := ⟨RX12, TX12, 52, rfl, by decide, uw_X12, Or.inl tb_1067⟩
theorem fp_X12_56 : fx_fp RX12 56 11 28 (.array .int) true := ⟨RX12, TX12, 52, tyX12, rfl, by decide, uw_X12, tyX12_ok, nmX12, rfl, by decide +kernel, fun _ => rfl, Or.inl tb_1067⟩
theorem fl_X12_59 : fx_fl RX12 59 11 29 := ⟨RX12, TX12, 52, rfl, by decide, uw_X12, Or.inl tb_1068⟩
theorem fp_X12_59 : fx_fp RX12 59 11 29 (.array .int) true := ⟨RX12, TX12, 52, tyX12, rfl, by decide, uw_X12, tyX12_ok, nmX12, rfl, by decide +kernel, fun _ => rfl, Or.inl tb_1068⟩
theorem fl_X12_62 : fx_fl RX12 62 11 30 := ⟨RX12, TX12, 52, rfl, by decide, uw_X12, Or.inl tb_1069⟩
theorem fp_X12_62 : fx_fp RX12 62 11 30 (.array .int) true := ⟨RX12, TX12, 52, tyX12, rfl, by decide, uw_X12, tyX12_ok, nmX12, rfl, by decide +kernel, fun _ => rfl, Or.inl tb_1069⟩
theorem fl_X12_65 : fx_fl RX12 65 11 31 := ⟨RX12, TX12, 52, rfl, by decide, uw_X12, Or.inl tb_1070⟩
theorem fp_X12_65 : fx_fp RX12 65 11 31 (.array .int) true := ⟨RX12, TX12, 52, tyX12, rfl, by decide, uw_X12, tyX12_ok, nmX12, rfl, by decide +kernel, fun _ => rfl, Or.inl tb_1070⟩
theorem fl_X12_68 : fx_fl RX12 68 11 32 := ⟨RX12, TX12, 52, rfl, by decide, uw_X12, Or.inl tb_1071⟩
theorem fp_X12_68 : fx_fp RX12 68 11 32 (.array .int) true := ⟨RX12, TX12, 52, tyX12, rfl, by decide, uw_X12, tyX12_ok, nmX12, rfl, by decide +kernel, fun _ => rfl, Or.inl tb_1071⟩
theorem fl_X12_7 : fx_fl RX12 7 11 0 := ⟨RX12, TX12, 52, rfl, by decide, uw_X12, Or.inl tb_1039⟩
theorem fp_X12_7 : fx_fp RX12 7 11 0 (.array .int) true := ⟨RX12, TX12, 52, tyX12, rfl, by decide, uw_X12, tyX12_ok, nmX12, rfl, by decide +kernel, fun _ => rfl, Or.inl tb_1039⟩
theorem fl_X12_71 : fx_fl RX12 71 11 33 := ⟨RX12, TX12, 52, rfl, by decide, uw_X12, Or.inl tb_1072⟩
theorem fp_X12_71 : fx_fp RX12 71 11 33 (.array .int) true := ⟨RX12, TX12, 52, tyX12, rfl, by decide, uw_X12, tyX12_ok, nmX12, rfl, by decide +kernel, fun _ => rfl, Or.inl tb_1072⟩
theorem fl_X12_74 : fx_fl RX12 74 11 34 := ⟨RX12, TX12, 52, rfl, by decide, uw_X12, Or.inl tb_1073⟩
theorem fp_X12_74 : fx_fp RX12 74 11 34 (.array .int) true := ⟨RX12, TX12, 52, tyX12, rfl, by decide, uw_X12, tyX12_ok, nmX12, rfl, by decide +kernel, fun _ => rfl, Or.inl tb_1073⟩
theorem fl_X12_77 : fx_fl RX12 77 11 35 := ⟨RX12, TX12, 52, rfl, by decide, uw_X12, Or.inl tb_1074⟩
theorem fp_X12_77 : fx_fp RX12 77 11 35 (.array .int) true := ⟨RX12, TX12, 52, tyX12, rfl, by decide, uw_X12, tyX12_ok, nmX12, rfl, by decide +kernel, fun _ => rfl, Or.inl tb_1074⟩
theorem fl_X12_80 : fx_fl RX12 80 11 40 := ⟨RX12, TX12, 52, rfl, by decide, uw_X12, Or.inl tb_1079⟩
theorem fp_X12_80 : fx_fp RX12 80 11 40 (.array .int) true := ⟨RX12, TX12, 52, tyX12, rfl, by decide, uw_X12, tyX12_ok, nmX12, rfl, by decide +kernel, fun _ => rfl, Or.inl tb_1079⟩
theorem fl_X12_83 : fx_fl RX12 83 11 41 := ⟨RX12, TX12, 52, rfl, by decide, uw_X12, Or.inl tb_1080⟩
theorem fp_X12_83 : fx_fp RX12 83 11 41 (.array .int) true := ⟨RX12, TX12, 52, tyX12, rfl, by decide, uw_X12, tyX12_ok, nmX12, rfl, by decide +kernel, fun _ => rfl, Or.inl tb_1080⟩
theorem fl_X12_86 : fx_fl RX12 86 11 42 := ⟨RX12, TX12, 52, rfl, by decide, uw_X12, Or.inl tb_1081⟩
theorem fp_X12_86 : fx_fp RX12 86 11 42 (.array .boolean) true := ⟨RX12, TX12, 52, tyX12, rfl, by decide, uw_X12, tyX12_ok, nmX12, rfl, by decide +kernel, fun _ => rfl, Or.inl tb_1081⟩
theorem fl_X12_90 : fx_fl RX12 90 11 43 := ⟨RX12, TX12, 52, rfl, by decide, uw_X12, Or.inl tb_1082⟩
theorem fp_X12_90 : fx_fp RX12 90 11 43 (.array .int) true := ⟨RX12, TX12, 52, tyX12, rfl, by decide, uw_X12, tyX12_ok, nmX12, rfl, by decide +kernel, fun _ => rfl, Or.inl tb_1082⟩
theorem fl_X12_93 : fx_fl RX12 93 11 44 := ⟨RX12, TX12, 52, rfl, by decide, uw_X12, Or.inl tb_1083⟩
theorem fp_X12_93 : fx_fp RX12 93 11 44 (.array .int) true := ⟨RX12, TX12, 52, tyX12, rfl, by decide, uw_X12, tyX12_ok, nmX12, rfl, by decide +kernel, fun _ => rfl, Or.inl tb_1083⟩
theorem fl_X12_96 : fx_fl RX12 96 11 47 := ⟨RX12, TX12, 52, rfl, by decide, uw_X12, Or.inl tb_1086⟩
theorem fp_X12_96 : fx_fp RX12 96 11 47 (.array .int) true := ⟨RX12, TX12, 52, tyX12, rfl, by decide, uw_X12, tyX12_ok, nmX12, rfl, by decide +kernel, fun _ => rfl, Or.inl tb_1086⟩
theorem fl_X12_99 : fx_fl RX12 99 11 48 := ⟨RX12, TX12, 52, rfl, by decide, uw_X12, Or.inl tb_1087⟩
theorem fp_X12_99 : fx_fp RX12 99 11 48 (.array .long) true := ⟨RX12, TX12, 52, tyX12, rfl, by decide, uw_X12, tyX12_ok, nmX12, rfl, by decide +kernel, fun _ => rfl, Or.inl tb_1087⟩
theorem fl_X6_9_2 : fx_fl RX6 9 2 0 := ⟨RX2, TX2, 3, rfl, by decide, uw_X2, Or.inl tb_289⟩
theorem fp_X6_9_2 : fx_fp RX6 9 2 0 (.object "FearLocks$Tape") true := ⟨RX2, TX2, 3, tyX2, rfl, by decide, uw_X2, tyX2_ok, nmX2, rfl, by decide +kernel, fun _ => rfl, Or.inl tb_289⟩
theorem fl_X6_9_5 : fx_fl RX6 9 5 0 := ⟨RX5, TX5, 2, rfl, by decide, uw_X5, Or.inl tb_289⟩
theorem fp_X6_9_5 : fx_fp RX6 9 5 0 (.object "FearLocks$Tape") true := ⟨RX5, TX5, 2, tyX5, rfl, by decide, uw_X5, tyX5_ok, nmX5, rfl, by decide +kernel, fun _ => rfl, Or.inl tb_289⟩
theorem fl_X6_9_7 : fx_fl RX6 9 7 0 := ⟨RX8, TX8, 2, rfl, by decide, uw_X8, Or.inl tb_289⟩
theorem fp_X6_9_7 : fx_fp RX6 9 7 0 (.object "FearLocks$Tape") true := ⟨RX8, TX8, 2, tyX8, rfl, by decide, uw_X8, tyX8_ok, nmX8, rfl, by decide +kernel, fun _ => rfl, Or.inl tb_289⟩
theorem nw_X7_9 : fx_nw RX7 9 0 [.null, .null, .null, .null, .null, .int 0, .int 0, .int 0, .int 0] := ⟨RX0, TX0, 9, tyX0, rfl, uw_X0, tyX0_ok, tb_170, tb_62, tb_3, by decide +kernel, rfl⟩
theorem nw_X11_102 : fx_nw RX11 102 2 [.null, .null, .int 0] := ⟨RX2, TX2, 3, tyX2, rfl, uw_X2, tyX2_ok, tb_589, tb_352, tb_18, by decide +kernel, rfl⟩
theorem nw_X11_108 : fx_nw RX11 108 7 [.null, .null] := ⟨RX8, TX8, 2, tyX8, rfl, uw_X8, tyX8_ok, tb_609, tb_537, tb_19, by decide +kernel, rfl⟩
theorem nw_X11_16 : fx_nw RX11 16 0 [.null, .null, .null, .null, .null, .int 0, .int 0, .int 0, .int 0] := ⟨RX0, TX0, 9, tyX0, rfl, uw_X0, tyX0_ok, tb_61, tb_62, tb_3, by decide +kernel, rfl⟩
theorem nw_X11_33 : fx_nw RX11 33 4 [.null, .null, .int 0, .null, .null, .null, .int 0, .null, .null, .int 0] := ⟨RX4, TX4, 10, tyX4, rfl, uw_X4, tyX4_ok, tb_114, tb_115, tb_4, by decide +kernel, rfl⟩
theorem nw_X11_43 : fx_nw RX11 43 6 [.null, .int 0, .int 0] := ⟨RX7, TX7, 3, tyX7, rfl, uw_X7, tyX7_ok, tb_164, tb_165, tb_6, by decide +kernel, rfl⟩
theorem nw_X11_50 : fx_nw RX11 50 3 [.null] := ⟨RX3, TX3, 1, tyX3, rfl, uw_X3, tyX3_ok, tb_184, tb_185, tb_7, by decide +kernel, rfl⟩
theorem nw_X11_57 : fx_nw RX11 57 1 [.null, .null] := ⟨RX1, TX1, 2, tyX1, rfl, uw_X1, tyX1_ok, tb_194, tb_195, tb_8, by decide +kernel, rfl⟩
theorem nw_X11_64 : fx_nw RX11 64 8 [.null, .null] := ⟨RX9, TX9, 2, tyX9, rfl, uw_X9, tyX9_ok, tb_207, tb_208, tb_9, by decide +kernel, rfl⟩
theorem nw_X11_89 : fx_nw RX11 89 5 [.null, .null] := ⟨RX5, TX5, 2, tyX5, rfl, uw_X5, tyX5_ok, tb_279, tb_280, tb_12, by decide +kernel, rfl⟩
theorem nw_X11_9 : fx_nw RX11 9 9 [.null, .int 0, .int 0, .int 0, .int 0] := ⟨RX10, TX10, 5, tyX10, rfl, uw_X10, tyX10_ok, tb_29, tb_30, tb_2, by decide +kernel, rfl⟩
theorem ok_X0_init : fx_okI jX0_init 0 := ⟨⟨tb_65, tb_3, by decide +kernel, by decide +kernel, by decide +kernel⟩, rfl, tb_64, rfl⟩
theorem ok_X0_isPerson : fx_okV jX0_isPerson 1 := ⟨⟨tb_572, tb_3, by decide +kernel, by decide +kernel, by decide +kernel⟩, tb_570, tb_571⟩
theorem ok_X0_isDoor : fx_okV jX0_isDoor 1 := ⟨⟨tb_544, tb_3, by decide +kernel, by decide +kernel, by decide +kernel⟩, tb_542, tb_543⟩
theorem ok_X0_dreadOf : fx_okV jX0_dreadOf 2 := ⟨⟨tb_373, tb_3, by decide +kernel, by decide +kernel, by decide +kernel⟩, tb_371, tb_372⟩
theorem ok_X0_setDread : fx_okV jX0_setDread 3 := ⟨⟨tb_377, tb_3, by decide +kernel, by decide +kernel, by decide +kernel⟩, tb_375, tb_376⟩
theorem ok_X0_greatestDread : fx_okV jX0_greatestDread 1 := ⟨⟨tb_638, tb_3, by decide +kernel, by decide +kernel, by decide +kernel⟩, tb_636, tb_637⟩
theorem ok_X0_dreadInAll : fx_okV jX0_dreadInAll 1 := ⟨⟨tb_767, tb_3, by decide +kernel, by decide +kernel, by decide +kernel⟩, tb_765, tb_766⟩
theorem ok_X0_fearOf : fx_okV jX0_fearOf 1 := ⟨⟨tb_722, tb_3, by decide +kernel, by decide +kernel, by decide +kernel⟩, tb_720, tb_721⟩
theorem ok_X0_havingFear : fx_okV jX0_havingFear 1 := ⟨⟨tb_843, tb_3, by decide +kernel, by decide +kernel, by decide +kernel⟩, tb_841, tb_842⟩
theorem ok_X0_nobodysFears : fx_okV jX0_nobodysFears 0 := ⟨⟨tb_856, tb_3, by decide +kernel, by decide +kernel, by decide +kernel⟩, tb_854, tb_855⟩
theorem ok_X0_allsFears : fx_okV jX0_allsFears 0 := ⟨⟨tb_862, tb_3, by decide +kernel, by decide +kernel, by decide +kernel⟩, tb_860, tb_861⟩
theorem ok_X0_fearsFrom : fx_okV jX0_fearsFrom 2 := ⟨⟨tb_829, tb_3, by decide +kernel, by decide +kernel, by decide +kernel⟩, tb_827, tb_828⟩
theorem ok_X0_knownTo : fx_okV jX0_knownTo 1 := ⟨⟨tb_644, tb_3, by decide +kernel, by decide +kernel, by decide +kernel⟩, tb_642, tb_643⟩
theorem ok_X0_acquaint : fx_okV jX0_acquaint 3 := ⟨⟨tb_576, tb_3, by decide +kernel, by decide +kernel, by decide +kernel⟩, tb_574, tb_575⟩
theorem ok_X0_acquaintances : fx_okV jX0_acquaintances 0 := ⟨⟨tb_1026, tb_3, by decide +kernel, by decide +kernel, by decide +kernel⟩, tb_1024, tb_1025⟩
theorem ok_X0_tellDoor : fx_okV jX0_tellDoor 3 := ⟨⟨tb_560, tb_3, by decide +kernel, by decide +kernel, by decide +kernel⟩, tb_558, tb_559⟩
theorem ok_X0_dropDoor : fx_okV jX0_dropDoor 1 := ⟨⟨tb_549, tb_3, by decide +kernel, by decide +kernel, by decide +kernel⟩, tb_547, tb_548⟩
theorem ok_X0_opens : fx_okV jX0_opens 2 := ⟨⟨tb_716, tb_3, by decide +kernel, by decide +kernel, by decide +kernel⟩, tb_714, tb_715⟩
theorem ok_X0_doorsOpenTo : fx_okV jX0_doorsOpenTo 1 := ⟨⟨tb_762, tb_3, by decide +kernel, by decide +kernel, by decide +kernel⟩, tb_760, tb_761⟩
theorem ok_X0_openersOf : fx_okV jX0_openersOf 1 := ⟨⟨tb_775, tb_3, by decide +kernel, by decide +kernel, by decide +kernel⟩, tb_773, tb_774⟩
theorem ok_X0_openedOf : fx_okV jX0_openedOf 1 := ⟨⟨tb_752, tb_3, by decide +kernel, by decide +kernel, by decide +kernel⟩, tb_750, tb_751⟩
theorem ok_X0_openedInAll : fx_okV jX0_openedInAll 0 := ⟨⟨tb_1031, tb_3, by decide +kernel, by decide +kernel, by decide +kernel⟩, tb_1029, tb_1030⟩
theorem ok_X0_draw : fx_okV jX0_draw 0 := ⟨⟨tb_666, tb_3, by decide +kernel, by decide +kernel, by decide +kernel⟩, tb_664, tb_665⟩
theorem ok_X0_copyFrom : fx_okV jX0_copyFrom 1 := ⟨⟨tb_584, tb_3, by decide +kernel, by decide +kernel, by decide +kernel⟩, tb_582, tb_583⟩
theorem ok_X0_copyDreads : fx_okV jX0_copyDreads 1 := ⟨⟨tb_588, tb_3, by decide +kernel, by decide +kernel, by decide +kernel⟩, tb_586, tb_587⟩
theorem ok_X0_goBackTo : fx_okV jX0_goBackTo 1 := ⟨⟨tb_1014, tb_3, by decide +kernel, by decide +kernel, by decide +kernel⟩, tb_1012, tb_1013⟩
theorem ok_X1_init : fx_okI jX1_init 0 := ⟨⟨tb_198, tb_8, by decide +kernel, by decide +kernel, by decide +kernel⟩, rfl, tb_197, rfl⟩
theorem ok_X1_beside : fx_okS jX1_beside 2 := ⟨⟨tb_902, tb_8, by decide +kernel, by decide +kernel, by decide +kernel⟩, tb_901⟩
theorem ok_X1_reached : fx_okS jX1_reached 3 := ⟨⟨tb_899, tb_8, by decide +kernel, by decide +kernel, by decide +kernel⟩, tb_898⟩
theorem ok_X1_holdersTogether : fx_okS jX1_holdersTogether 1 := ⟨⟨tb_910, tb_8, by decide +kernel, by decide +kernel, by decide +kernel⟩, tb_909⟩
theorem ok_X1_stepsBetween : fx_okS jX1_stepsBetween 3 := ⟨⟨tb_917, tb_8, by decide +kernel, by decide +kernel, by decide +kernel⟩, tb_916⟩
theorem ok_X1_grownFashion : fx_okS jX1_grownFashion 3 := ⟨⟨tb_846, tb_8, by decide +kernel, by decide +kernel, by decide +kernel⟩, tb_845⟩
theorem ok_X1_difference : fx_okS jX1_difference 3 := ⟨⟨tb_869, tb_8, by decide +kernel, by decide +kernel, by decide +kernel⟩, tb_868⟩
theorem ok_X1_nearestTo : fx_okS jX1_nearestTo 2 := ⟨⟨tb_878, tb_8, by decide +kernel, by decide +kernel, by decide +kernel⟩, tb_877⟩
theorem ok_X1_linkAlike : fx_okV jX1_linkAlike 2 := ⟨⟨tb_888, tb_8, by decide +kernel, by decide +kernel, by decide +kernel⟩, tb_886, tb_887⟩
theorem ok_X1_circleOf : fx_okV jX1_circleOf 2 := ⟨⟨tb_896, tb_8, by decide +kernel, by decide +kernel, by decide +kernel⟩, tb_894, tb_895⟩
theorem ok_X1_circlesOf : fx_okV jX1_circlesOf 1 := ⟨⟨tb_892, tb_8, by decide +kernel, by decide +kernel, by decide +kernel⟩, tb_890, tb_891⟩
theorem ok_X1_mostCouples : fx_okV jX1_mostCouples 2 := ⟨⟨tb_821, tb_8, by decide +kernel, by decide +kernel, by decide +kernel⟩, tb_819, tb_820⟩
theorem ok_X1_linkFellows : fx_okV jX1_linkFellows 2 := ⟨⟨tb_825, tb_8, by decide +kernel, by decide +kernel, by decide +kernel⟩, tb_824, tp_25⟩
theorem ok_X1_mostWith : fx_okV jX1_mostWith 2 := ⟨⟨tb_833, tb_8, by decide +kernel, by decide +kernel, by decide +kernel⟩, tb_832, tp_26⟩
theorem ok_X2_init : fx_okI jX2_init 3 := ⟨⟨tb_592, tb_18, by decide +kernel, by decide +kernel, by decide +kernel⟩, rfl, tb_591, rfl⟩
theorem ok_X2_readFears : fx_okV jX2_readFears 0 := ⟨⟨tb_353, tb_18, by decide +kernel, by decide +kernel, by decide +kernel⟩, tb_351, tp_0⟩
theorem ok_X2_change : fx_okV jX2_change 3 := ⟨⟨tb_369, tb_18, by decide +kernel, by decide +kernel, by decide +kernel⟩, tb_368, tp_1⟩
theorem ok_X3_init : fx_okI jX3_init 0 := ⟨⟨tb_188, tb_7, by decide +kernel, by decide +kernel, by decide +kernel⟩, rfl, tb_187, rfl⟩
theorem ok_X3_lessons : fx_okS jX3_lessons 3 := ⟨⟨tb_782, tb_7, by decide +kernel, by decide +kernel, by decide +kernel⟩, tb_781⟩
theorem ok_X3_fewestForAllDoors : fx_okV jX3_fewestForAllDoors 1 := ⟨⟨tb_797, tb_7, by decide +kernel, by decide +kernel, by decide +kernel⟩, tb_795, tb_796⟩
theorem ok_X3_openedBy : fx_okV jX3_openedBy 1 := ⟨⟨tb_803, tb_7, by decide +kernel, by decide +kernel, by decide +kernel⟩, tb_802, tp_24⟩
theorem ok_X3_mostLet : fx_okS jX3_mostLet 1 := ⟨⟨tb_812, tb_7, by decide +kernel, by decide +kernel, by decide +kernel⟩, tb_811⟩
theorem ok_X3_triesFit : fx_okS jX3_triesFit 3 := ⟨⟨tb_924, tb_7, by decide +kernel, by decide +kernel, by decide +kernel⟩, tb_923⟩
theorem ok_X3_possibleFears : fx_okS jX3_possibleFears 3 := ⟨⟨tb_932, tb_7, by decide +kernel, by decide +kernel, by decide +kernel⟩, tb_931⟩
theorem ok_X3_leastStrength : fx_okS jX3_leastStrength 4 := ⟨⟨tb_935, tb_7, by decide +kernel, by decide +kernel, by decide +kernel⟩, tb_934⟩
theorem ok_X3_greatestStrength : fx_okS jX3_greatestStrength 4 := ⟨⟨tb_939, tb_7, by decide +kernel, by decide +kernel, by decide +kernel⟩, tb_938⟩
theorem ok_X3_bestToSend : fx_okS jX3_bestToSend 2 := ⟨⟨tb_949, tb_7, by decide +kernel, by decide +kernel, by decide +kernel⟩, tb_948⟩
theorem ok_X3_leftAtWorst : fx_okS jX3_leftAtWorst 3 := ⟨⟨tb_952, tb_7, by decide +kernel, by decide +kernel, by decide +kernel⟩, tb_951⟩
theorem ok_X4_init : fx_okI jX4_init 0 := ⟨⟨tb_118, tb_4, by decide +kernel, by decide +kernel, by decide +kernel⟩, rfl, tb_117, rfl⟩
theorem ok_X4_clear : fx_okV jX4_clear 0 := ⟨⟨tb_278, tb_4, by decide +kernel, by decide +kernel, by decide +kernel⟩, tb_276, tb_277⟩
theorem ok_X4_startRule : fx_okV jX4_startRule 1 := ⟨⟨tb_394, tb_4, by decide +kernel, by decide +kernel, by decide +kernel⟩, tb_392, tb_393⟩
theorem ok_X4_startCondition : fx_okV jX4_startCondition 0 := ⟨⟨tb_500, tb_4, by decide +kernel, by decide +kernel, by decide +kernel⟩, tb_498, tb_499⟩
theorem ok_X4_endRule : fx_okV jX4_endRule 0 := ⟨⟨tb_528, tb_4, by decide +kernel, by decide +kernel, by decide +kernel⟩, tb_526, tb_527⟩
theorem ok_X4_add : fx_okV jX4_add 2 := ⟨⟨tb_418, tb_4, by decide +kernel, by decide +kernel, by decide +kernel⟩, tb_416, tb_417⟩
theorem ok_X4_leadHere : fx_okV jX4_leadHere 1 := ⟨⟨tb_524, tb_4, by decide +kernel, by decide +kernel, by decide +kernel⟩, tb_522, tb_523⟩
theorem ok_X4_meanPerson : fx_okV jX4_meanPerson 3 := ⟨⟨tb_654, tb_4, by decide +kernel, by decide +kernel, by decide +kernel⟩, tb_652, tb_653⟩
theorem ok_X4_meanOther : fx_okV jX4_meanOther 3 := ⟨⟨tb_658, tb_4, by decide +kernel, by decide +kernel, by decide +kernel⟩, tb_656, tb_657⟩
theorem ok_X4_meanDoor : fx_okV jX4_meanDoor 2 := ⟨⟨tb_662, tb_4, by decide +kernel, by decide +kernel, by decide +kernel⟩, tb_660, tb_661⟩
theorem ok_X4_meanTime : fx_okV jX4_meanTime 2 := ⟨⟨tb_671, tb_4, by decide +kernel, by decide +kernel, by decide +kernel⟩, tb_669, tb_670⟩
theorem ok_X4_anyHolds : fx_okV jX4_anyHolds 1 := ⟨⟨tb_675, tb_4, by decide +kernel, by decide +kernel, by decide +kernel⟩, tb_673, tb_674⟩
theorem ok_X4_worth : fx_okV jX4_worth 2 := ⟨⟨tb_707, tb_4, by decide +kernel, by decide +kernel, by decide +kernel⟩, tb_705, tb_706⟩
theorem ok_X4_reckon : fx_okV jX4_reckon 1 := ⟨⟨tb_679, tb_4, by decide +kernel, by decide +kernel, by decide +kernel⟩, tb_678, tp_16⟩
theorem ok_X4_joined : fx_okS jX4_joined 3 := ⟨⟨tb_695, tb_4, by decide +kernel, by decide +kernel, by decide +kernel⟩, tb_694⟩
theorem ok_X4_meaningOf : fx_okV jX4_meaningOf 1 := ⟨⟨tb_688, tb_4, by decide +kernel, by decide +kernel, by decide +kernel⟩, tb_687, tp_18⟩
theorem ok_X4_push : fx_okV jX4_push 1 := ⟨⟨tb_684, tb_4, by decide +kernel, by decide +kernel, by decide +kernel⟩, tb_683, tp_17⟩
theorem ok_X4_pop : fx_okV jX4_pop 0 := ⟨⟨tb_692, tb_4, by decide +kernel, by decide +kernel, by decide +kernel⟩, tb_691, tp_19⟩
theorem ok_X5_init : fx_okI jX5_init 2 := ⟨⟨tb_283, tb_12, by decide +kernel, by decide +kernel, by decide +kernel⟩, rfl, tb_282, rfl⟩
theorem ok_X5_readAnyOf : fx_okV jX5_readAnyOf 1 := ⟨⟨tb_504, tb_12, by decide +kernel, by decide +kernel, by decide +kernel⟩, tb_503, tp_6⟩
theorem ok_X5_readAllOf : fx_okV jX5_readAllOf 1 := ⟨⟨tb_508, tb_12, by decide +kernel, by decide +kernel, by decide +kernel⟩, tb_507, tp_7⟩
theorem ok_X5_readTest : fx_okV jX5_readTest 1 := ⟨⟨tb_512, tb_12, by decide +kernel, by decide +kernel, by decide +kernel⟩, tb_511, tp_8⟩
theorem ok_X5_readNegation : fx_okV jX5_readNegation 1 := ⟨⟨tb_516, tb_12, by decide +kernel, by decide +kernel, by decide +kernel⟩, tb_515, tp_9⟩
theorem ok_X5_open : fx_okV jX5_open 1 := ⟨⟨tb_410, tb_12, by decide +kernel, by decide +kernel, by decide +kernel⟩, tb_409, tp_5⟩
theorem ok_X5_readComparison : fx_okV jX5_readComparison 1 := ⟨⟨tb_520, tb_12, by decide +kernel, by decide +kernel, by decide +kernel⟩, tb_519, tp_10⟩
theorem ok_X5_readSum : fx_okV jX5_readSum 1 := ⟨⟨tb_398, tb_12, by decide +kernel, by decide +kernel, by decide +kernel⟩, tb_397, tp_2⟩
theorem ok_X5_readProduct : fx_okV jX5_readProduct 1 := ⟨⟨tb_402, tb_12, by decide +kernel, by decide +kernel, by decide +kernel⟩, tb_401, tp_3⟩
theorem ok_X5_joinsFactors : fx_okS jX5_joinsFactors 1 := ⟨⟨tb_496, tb_12, by decide +kernel, by decide +kernel, by decide +kernel⟩, tb_495⟩
theorem ok_X5_readFactor : fx_okV jX5_readFactor 1 := ⟨⟨tb_406, tb_12, by decide +kernel, by decide +kernel, by decide +kernel⟩, tb_405, tp_4⟩
theorem ok_X6_init : fx_okI jX6_init 1 := ⟨⟨tb_286, tb_11, by decide +kernel, by decide +kernel, by decide +kernel⟩, rfl, tb_285, rfl⟩
theorem ok_X7_init : fx_okI jX7_init 0 := ⟨⟨tb_168, tb_6, by decide +kernel, by decide +kernel, by decide +kernel⟩, rfl, tb_167, rfl⟩
theorem ok_X7_pass : fx_okV jX7_pass 3 := ⟨⟨tb_629, tb_6, by decide +kernel, by decide +kernel, by decide +kernel⟩, tb_627, tb_628⟩
theorem ok_X7_goOut : fx_okV jX7_goOut 3 := ⟨⟨tb_634, tb_6, by decide +kernel, by decide +kernel, by decide +kernel⟩, tb_633, tp_15⟩
theorem ok_X7_doorTried : fx_okS jX7_doorTried 3 := ⟨⟨tb_698, tb_6, by decide +kernel, by decide +kernel, by decide +kernel⟩, tb_697⟩
theorem ok_X7_meanDoorFor : fx_okS jX7_meanDoorFor 4 := ⟨⟨tb_702, tb_6, by decide +kernel, by decide +kernel, by decide +kernel⟩, tb_701⟩
theorem ok_X7_tryDoor : fx_okV jX7_tryDoor 4 := ⟨⟨tb_712, tb_6, by decide +kernel, by decide +kernel, by decide +kernel⟩, tb_711, tp_20⟩
theorem ok_X7_spreadDread : fx_okV jX7_spreadDread 2 := ⟨⟨tb_729, tb_6, by decide +kernel, by decide +kernel, by decide +kernel⟩, tb_728, tp_21⟩
theorem ok_X7_catchDread : fx_okV jX7_catchDread 4 := ⟨⟨tb_735, tb_6, by decide +kernel, by decide +kernel, by decide +kernel⟩, tb_734, tp_22⟩
theorem ok_X8_init : fx_okI jX8_init 2 := ⟨⟨tb_612, tb_19, by decide +kernel, by decide +kernel, by decide +kernel⟩, rfl, tb_611, rfl⟩
theorem ok_X8_readAcquaintance : fx_okV jX8_readAcquaintance 0 := ⟨⟨tb_564, tb_19, by decide +kernel, by decide +kernel, by decide +kernel⟩, tb_563, tp_13⟩
theorem ok_X8_readPerson : fx_okV jX8_readPerson 0 := ⟨⟨tb_568, tb_19, by decide +kernel, by decide +kernel, by decide +kernel⟩, tb_567, tp_14⟩
theorem ok_X8_readDoor : fx_okV jX8_readDoor 0 := ⟨⟨tb_538, tb_19, by decide +kernel, by decide +kernel, by decide +kernel⟩, tb_536, tp_11⟩
theorem ok_X8_readLock : fx_okV jX8_readLock 1 := ⟨⟨tb_554, tb_19, by decide +kernel, by decide +kernel, by decide +kernel⟩, tb_553, tp_12⟩
theorem ok_X9_init : fx_okI jX9_init 0 := ⟨⟨tb_211, tb_9, by decide +kernel, by decide +kernel, by decide +kernel⟩, rfl, tb_210, rfl⟩
theorem ok_X9_waysToStand : fx_okV jX9_waysToStand 3 := ⟨⟨tb_961, tb_9, by decide +kernel, by decide +kernel, by decide +kernel⟩, tb_959, tb_960⟩
theorem ok_X9_waysOn : fx_okS jX9_waysOn 5 := ⟨⟨tb_968, tb_9, by decide +kernel, by decide +kernel, by decide +kernel⟩, tb_967⟩
theorem ok_X9_canStandTogether : fx_okS jX9_canStandTogether 3 := ⟨⟨tb_972, tb_9, by decide +kernel, by decide +kernel, by decide +kernel⟩, tb_971⟩
theorem ok_X9_wordsWeighing : fx_okV jX9_wordsWeighing 3 := ⟨⟨tb_981, tb_9, by decide +kernel, by decide +kernel, by decide +kernel⟩, tb_979, tb_980⟩
theorem ok_X9_wordsWithOneMore : fx_okV jX9_wordsWithOneMore 2 := ⟨⟨tb_985, tb_9, by decide +kernel, by decide +kernel, by decide +kernel⟩, tb_984, tp_27⟩
theorem ok_X9_leastDreadBehindRooms : fx_okS jX9_leastDreadBehindRooms 3 := ⟨⟨tb_993, tb_9, by decide +kernel, by decide +kernel, by decide +kernel⟩, tb_992⟩
theorem ok_X9_roomsOfCommonest : fx_okS jX9_roomsOfCommonest 2 := ⟨⟨tb_996, tb_9, by decide +kernel, by decide +kernel, by decide +kernel⟩, tb_995⟩
theorem ok_X10_init : fx_okI jX10_init 0 := ⟨⟨tb_33, tb_2, by decide +kernel, by decide +kernel, by decide +kernel⟩, rfl, tb_32, rfl⟩
theorem ok_X10_append : fx_okV jX10_append 1 := ⟨⟨tb_262, tb_2, by decide +kernel, by decide +kernel, by decide +kernel⟩, tb_260, tb_261⟩
theorem ok_X10_holds : fx_okV jX10_holds 3 := ⟨⟨tb_270, tb_2, by decide +kernel, by decide +kernel, by decide +kernel⟩, tb_268, tb_269⟩
theorem ok_X10_take : fx_okV jX10_take 1 := ⟨⟨tb_274, tb_2, by decide +kernel, by decide +kernel, by decide +kernel⟩, tb_272, tb_273⟩
theorem ok_X10_byteAt : fx_okV jX10_byteAt 1 := ⟨⟨tb_928, tb_2, by decide +kernel, by decide +kernel, by decide +kernel⟩, tb_926, tb_927⟩
theorem ok_X10_now : fx_okV jX10_now 0 := ⟨⟨tb_314, tb_2, by decide +kernel, by decide +kernel, by decide +kernel⟩, tb_312, tb_313⟩
theorem ok_X10_fail : fx_okV jX10_fail 2 := ⟨⟨tb_318, tb_2, by decide +kernel, by decide +kernel, by decide +kernel⟩, tb_316, tb_317⟩
theorem ok_X10_cannotStand : fx_okV jX10_cannotStand 0 := ⟨⟨tb_341, tb_2, by decide +kernel, by decide +kernel, by decide +kernel⟩, tb_339, tb_340⟩
theorem ok_X10_expect : fx_okV jX10_expect 1 := ⟨⟨tb_310, tb_2, by decide +kernel, by decide +kernel, by decide +kernel⟩, tb_308, tb_309⟩
theorem ok_X10_readNumber : fx_okV jX10_readNumber 1 := ⟨⟨tb_364, tb_2, by decide +kernel, by decide +kernel, by decide +kernel⟩, tb_362, tb_363⟩
theorem ok_X10_isDigit : fx_okS jX10_isDigit 1 := ⟨⟨tb_337, tb_2, by decide +kernel, by decide +kernel, by decide +kernel⟩, tb_336⟩
theorem ok_X10_isFear : fx_okS jX10_isFear 1 := ⟨⟨tb_328, tb_2, by decide +kernel, by decide +kernel, by decide +kernel⟩, tb_327⟩
theorem ok_X11_init : fx_okI jX11_init 0 := ⟨⟨tb_25, tb_1, by decide +kernel, by decide +kernel, by decide +kernel⟩, rfl, tb_24, rfl⟩
theorem ok_X11_feed : fx_okV jX11_feed 5 := ⟨⟨tb_258, tb_1, by decide +kernel, by decide +kernel, by decide +kernel⟩, tb_256, tb_257⟩
theorem ok_X11_law : fx_okV jX11_law 1 := ⟨⟨tb_266, tb_1, by decide +kernel, by decide +kernel, by decide +kernel⟩, tb_264, tb_265⟩
theorem ok_X11_dreads : fx_okV jX11_dreads 2 := ⟨⟨tb_580, tb_1, by decide +kernel, by decide +kernel, by decide +kernel⟩, tb_578, tb_579⟩
theorem ok_X11_orders : fx_okV jX11_orders 1 := ⟨⟨tb_608, tb_1, by decide +kernel, by decide +kernel, by decide +kernel⟩, tb_606, tb_607⟩
theorem ok_X11_nights : fx_okV jX11_nights 1 := ⟨⟨tb_625, tb_1, by decide +kernel, by decide +kernel, by decide +kernel⟩, tb_623, tb_624⟩
theorem ok_X11_tried : fx_okV jX11_tried 2 := ⟨⟨tb_740, tb_1, by decide +kernel, by decide +kernel, by decide +kernel⟩, tb_738, tb_739⟩
theorem ok_X11_canBeTried : fx_okV jX11_canBeTried 1 := ⟨⟨tb_744, tb_1, by decide +kernel, by decide +kernel, by decide +kernel⟩, tb_743, tp_23⟩
theorem ok_X11_personIs : fx_okV jX11_personIs 2 := ⟨⟨tb_756, tb_1, by decide +kernel, by decide +kernel, by decide +kernel⟩, tb_754, tb_755⟩
theorem ok_X11_doorIs : fx_okV jX11_doorIs 2 := ⟨⟨tb_771, tb_1, by decide +kernel, by decide +kernel, by decide +kernel⟩, tb_769, tb_770⟩
theorem ok_X11_taught : fx_okV jX11_taught 2 := ⟨⟨tb_779, tb_1, by decide +kernel, by decide +kernel, by decide +kernel⟩, tb_777, tb_778⟩
theorem ok_X11_crew : fx_okV jX11_crew 1 := ⟨⟨tb_793, tb_1, by decide +kernel, by decide +kernel, by decide +kernel⟩, tb_791, tb_792⟩
theorem ok_X11_lodgings : fx_okV jX11_lodgings 0 := ⟨⟨tb_809, tb_1, by decide +kernel, by decide +kernel, by decide +kernel⟩, tb_807, tb_808⟩
theorem ok_X11_couples : fx_okV jX11_couples 1 := ⟨⟨tb_817, tb_1, by decide +kernel, by decide +kernel, by decide +kernel⟩, tb_815, tb_816⟩
theorem ok_X11_fashion : fx_okV jX11_fashion 3 := ⟨⟨tb_839, tb_1, by decide +kernel, by decide +kernel, by decide +kernel⟩, tb_837, tb_838⟩
theorem ok_X11_fears : fx_okV jX11_fears 1 := ⟨⟨tb_852, tb_1, by decide +kernel, by decide +kernel, by decide +kernel⟩, tb_850, tb_851⟩
theorem ok_X11_unlike : fx_okV jX11_unlike 2 := ⟨⟨tb_866, tb_1, by decide +kernel, by decide +kernel, by decide +kernel⟩, tb_864, tb_865⟩
theorem ok_X11_mostLike : fx_okV jX11_mostLike 1 := ⟨⟨tb_875, tb_1, by decide +kernel, by decide +kernel, by decide +kernel⟩, tb_873, tb_874⟩
theorem ok_X11_circles : fx_okV jX11_circles 2 := ⟨⟨tb_884, tb_1, by decide +kernel, by decide +kernel, by decide +kernel⟩, tb_882, tb_883⟩
theorem ok_X11_keystones : fx_okV jX11_keystones 0 := ⟨⟨tb_907, tb_1, by decide +kernel, by decide +kernel, by decide +kernel⟩, tb_905, tb_906⟩
theorem ok_X11_steps : fx_okV jX11_steps 2 := ⟨⟨tb_914, tb_1, by decide +kernel, by decide +kernel, by decide +kernel⟩, tb_912, tb_913⟩
theorem ok_X11_guess : fx_okV jX11_guess 2 := ⟨⟨tb_921, tb_1, by decide +kernel, by decide +kernel, by decide +kernel⟩, tb_919, tb_920⟩
theorem ok_X11_sentNext : fx_okV jX11_sentNext 2 := ⟨⟨tb_945, tb_1, by decide +kernel, by decide +kernel, by decide +kernel⟩, tb_943, tb_944⟩
theorem ok_X11_guards : fx_okV jX11_guards 1 := ⟨⟨tb_957, tb_1, by decide +kernel, by decide +kernel, by decide +kernel⟩, tb_955, tb_956⟩
theorem ok_X11_word : fx_okV jX11_word 3 := ⟨⟨tb_976, tb_1, by decide +kernel, by decide +kernel, by decide +kernel⟩, tb_974, tb_975⟩
theorem ok_X11_rooms : fx_okV jX11_rooms 2 := ⟨⟨tb_989, tb_1, by decide +kernel, by decide +kernel, by decide +kernel⟩, tb_987, tb_988⟩
theorem ok_X11_seed : fx_okV jX11_seed 1 := ⟨⟨tb_1002, tb_1, by decide +kernel, by decide +kernel, by decide +kernel⟩, tb_1000, tb_1001⟩
theorem ok_X11_keep : fx_okV jX11_keep 0 := ⟨⟨tb_1006, tb_1, by decide +kernel, by decide +kernel, by decide +kernel⟩, tb_1004, tb_1005⟩
theorem ok_X11_undo : fx_okV jX11_undo 0 := ⟨⟨tb_1010, tb_1, by decide +kernel, by decide +kernel, by decide +kernel⟩, tb_1008, tb_1009⟩
theorem ok_X11_check : fx_okV jX11_check 1 := ⟨⟨tb_1018, tb_1, by decide +kernel, by decide +kernel, by decide +kernel⟩, tb_1016, tb_1017⟩
theorem ok_X11_count : fx_okV jX11_count 1 := ⟨⟨tb_1022, tb_1, by decide +kernel, by decide +kernel, by decide +kernel⟩, tb_1020, tb_1021⟩
theorem ok_X11_bounded : fx_okS jX11_bounded 3 := ⟨⟨tb_380, tb_1, by decide +kernel, by decide +kernel, by decide +kernel⟩, tb_379⟩
theorem ok_X11_has : fx_okS jX11_has 2 := ⟨⟨tb_358, tb_1, by decide +kernel, by decide +kernel, by decide +kernel⟩, tb_357⟩
theorem ok_X12_init : fx_okI jX12_init 0 := ⟨⟨tb_1036, tb_10, by decide +kernel, by decide +kernel, by decide +kernel⟩, rfl, tb_1035, rfl⟩
theorem ok_X12_in : fx_okS jX12_in 3 := ⟨⟨tb_1211, tb_10, by decide +kernel, by decide +kernel, by decide +kernel⟩, tb_1210⟩
theorem ok_X12_min : fx_okS jX12_min 2 := ⟨⟨tb_1327, tb_10, by decide +kernel, by decide +kernel, by decide +kernel⟩, tb_1326⟩
theorem ok_X12_max : fx_okS jX12_max 2 := ⟨⟨tb_1330, tb_10, by decide +kernel, by decide +kernel, by decide +kernel⟩, tb_1329⟩
theorem ok_X12_size : fx_okS jX12_size 1 := ⟨⟨tb_1476, tb_10, by decide +kernel, by decide +kernel, by decide +kernel⟩, tb_1475⟩
theorem ok_X12_limit : fx_okS jX12_limit 1 := ⟨⟨tb_1324, tb_10, by decide +kernel, by decide +kernel, by decide +kernel⟩, tb_1323⟩
theorem ok_X12_has : fx_okS jX12_has 2 := ⟨⟨tb_1317, tb_10, by decide +kernel, by decide +kernel, by decide +kernel⟩, tb_1316⟩
theorem ok_X12_bits : fx_okS jX12_bits 1 := ⟨⟨tb_1398, tb_10, by decide +kernel, by decide +kernel, by decide +kernel⟩, tb_1397⟩
theorem ok_X12_copies : fx_okS jX12_copies 2 := ⟨⟨tb_1301, tb_10, by decide +kernel, by decide +kernel, by decide +kernel⟩, tb_1300⟩
theorem ok_X12_isTold : fx_okV jX12_isTold 1 := ⟨⟨tb_1354, tb_10, by decide +kernel, by decide +kernel, by decide +kernel⟩, tb_1353, tp_56⟩
theorem ok_X12_isDoor : fx_okV jX12_isDoor 1 := ⟨⟨tb_1362, tb_10, by decide +kernel, by decide +kernel, by decide +kernel⟩, tb_1361, tp_58⟩
theorem ok_X12_dread : fx_okV jX12_dread 2 := ⟨⟨tb_1395, tb_10, by decide +kernel, by decide +kernel, by decide +kernel⟩, tb_1394, tp_65⟩
theorem ok_X12_greatest : fx_okV jX12_greatest 1 := ⟨⟨tb_1391, tb_10, by decide +kernel, by decide +kernel, by decide +kernel⟩, tb_1390, tp_64⟩
theorem ok_X12_fearOf : fx_okV jX12_fearOf 1 := ⟨⟨tb_1433, tb_10, by decide +kernel, by decide +kernel, by decide +kernel⟩, tb_1432, tp_73⟩
theorem ok_X12_unlocks : fx_okV jX12_unlocks 2 := ⟨⟨tb_1429, tb_10, by decide +kernel, by decide +kernel, by decide +kernel⟩, tb_1428, tp_72⟩
theorem ok_X12_doorsOf : fx_okV jX12_doorsOf 1 := ⟨⟨tb_1456, tb_10, by decide +kernel, by decide +kernel, by decide +kernel⟩, tb_1455, tp_76⟩
theorem ok_X12_whoUnlocks : fx_okV jX12_whoUnlocks 1 := ⟨⟨tb_1468, tb_10, by decide +kernel, by decide +kernel, by decide +kernel⟩, tb_1467, tp_78⟩
theorem ok_X12_types : fx_okV jX12_types 1 := ⟨⟨tb_1204, tb_10, by decide +kernel, by decide +kernel, by decide +kernel⟩, tb_1203, tp_28⟩
theorem ok_X12_feed : fx_okV jX12_feed 5 := ⟨⟨tb_1200, tb_10, by decide +kernel, by decide +kernel, by decide +kernel⟩, tb_1198, tb_1199⟩
theorem ok_X12_octet : fx_okV jX12_octet 1 := ⟨⟨tb_1559, tb_10, by decide +kernel, by decide +kernel, by decide +kernel⟩, tb_1558, tp_87⟩
theorem ok_X12_here : fx_okV jX12_here 0 := ⟨⟨tb_1223, tb_10, by decide +kernel, by decide +kernel, by decide +kernel⟩, tb_1222, tp_31⟩
theorem ok_X12_isDigit : fx_okV jX12_isDigit 0 := ⟨⟨tb_1244, tb_10, by decide +kernel, by decide +kernel, by decide +kernel⟩, tb_1243, tp_36⟩
theorem ok_X12_wrongAt : fx_okV jX12_wrongAt 2 := ⟨⟨tb_1227, tb_10, by decide +kernel, by decide +kernel, by decide +kernel⟩, tb_1226, tp_32⟩
theorem ok_X12_takes : fx_okV jX12_takes 1 := ⟨⟨tb_1294, tb_10, by decide +kernel, by decide +kernel, by decide +kernel⟩, tb_1293, tp_47⟩
theorem ok_X12_readsNumber : fx_okV jX12_readsNumber 0 := ⟨⟨tb_1248, tb_10, by decide +kernel, by decide +kernel, by decide +kernel⟩, tb_1247, tp_37⟩
theorem ok_X12_notes : fx_okV jX12_notes 2 := ⟨⟨tb_1252, tb_10, by decide +kernel, by decide +kernel, by decide +kernel⟩, tb_1251, tp_38⟩
theorem ok_X12_opens : fx_okV jX12_opens 1 := ⟨⟨tb_1239, tb_10, by decide +kernel, by decide +kernel, by decide +kernel⟩, tb_1238, tp_35⟩
theorem ok_X12_waitTop : fx_okV jX12_waitTop 0 := ⟨⟨tb_1266, tb_10, by decide +kernel, by decide +kernel, by decide +kernel⟩, tb_1265, tp_40⟩
theorem ok_X12_factOf : fx_okS jX12_factOf 1 := ⟨⟨tb_1255, tb_10, by decide +kernel, by decide +kernel, by decide +kernel⟩, tb_1254⟩
theorem ok_X12_sumSign : fx_okS jX12_sumSign 1 := ⟨⟨tb_1258, tb_10, by decide +kernel, by decide +kernel, by decide +kernel⟩, tb_1257⟩
theorem ok_X12_closesSums : fx_okV jX12_closesSums 1 := ⟨⟨tb_1262, tb_10, by decide +kernel, by decide +kernel, by decide +kernel⟩, tb_1261, tp_39⟩
theorem ok_X12_readsFactor : fx_okV jX12_readsFactor 0 := ⟨⟨tb_1235, tb_10, by decide +kernel, by decide +kernel, by decide +kernel⟩, tb_1234, tp_34⟩
theorem ok_X12_hasOpenSum : fx_okV jX12_hasOpenSum 1 := ⟨⟨tb_1270, tb_10, by decide +kernel, by decide +kernel, by decide +kernel⟩, tb_1269, tp_41⟩
theorem ok_X12_readsSum : fx_okV jX12_readsSum 0 := ⟨⟨tb_1231, tb_10, by decide +kernel, by decide +kernel, by decide +kernel⟩, tb_1230, tp_33⟩
theorem ok_X12_endsPiece : fx_okV jX12_endsPiece 0 := ⟨⟨tb_1282, tb_10, by decide +kernel, by decide +kernel, by decide +kernel⟩, tb_1281, tp_44⟩
theorem ok_X12_lands : fx_okV jX12_lands 1 := ⟨⟨tb_1286, tb_10, by decide +kernel, by decide +kernel, by decide +kernel⟩, tb_1285, tp_45⟩
theorem ok_X12_jumps : fx_okV jX12_jumps 1 := ⟨⟨tb_1290, tb_10, by decide +kernel, by decide +kernel, by decide +kernel⟩, tb_1289, tp_46⟩
theorem ok_X12_readsCompared : fx_okV jX12_readsCompared 0 := ⟨⟨tb_1278, tb_10, by decide +kernel, by decide +kernel, by decide +kernel⟩, tb_1277, tp_43⟩
theorem ok_X12_readsCondition : fx_okV jX12_readsCondition 0 := ⟨⟨tb_1274, tb_10, by decide +kernel, by decide +kernel, by decide +kernel⟩, tb_1273, tp_42⟩
theorem ok_X12_readsRule : fx_okV jX12_readsRule 0 := ⟨⟨tb_1219, tb_10, by decide +kernel, by decide +kernel, by decide +kernel⟩, tb_1218, tp_30⟩
theorem ok_X12_beginsText : fx_okV jX12_beginsText 1 := ⟨⟨tb_1215, tb_10, by decide +kernel, by decide +kernel, by decide +kernel⟩, tb_1214, tp_29⟩
theorem ok_X12_law : fx_okV jX12_law 1 := ⟨⟨tb_1208, tb_10, by decide +kernel, by decide +kernel, by decide +kernel⟩, tb_1206, tb_1207⟩
theorem ok_X12_reckon : fx_okS jX12_reckon 3 := ⟨⟨tb_1409, tb_10, by decide +kernel, by decide +kernel, by decide +kernel⟩, tb_1408⟩
theorem ok_X12_reckonsTo : fx_okV jX12_reckonsTo 2 := ⟨⟨tb_1406, tb_10, by decide +kernel, by decide +kernel, by decide +kernel⟩, tb_1405, tp_67⟩
theorem ok_X12_byLaw : fx_okV jX12_byLaw 2 := ⟨⟨tb_1421, tb_10, by decide +kernel, by decide +kernel, by decide +kernel⟩, tb_1420, tp_70⟩
theorem ok_X12_holdsAny : fx_okV jX12_holdsAny 1 := ⟨⟨tb_1402, tb_10, by decide +kernel, by decide +kernel, by decide +kernel⟩, tb_1401, tp_66⟩
theorem ok_X12_isLetter : fx_okV jX12_isLetter 0 := ⟨⟨tb_1309, tb_10, by decide +kernel, by decide +kernel, by decide +kernel⟩, tb_1308, tp_49⟩
theorem ok_X12_readsAmount : fx_okV jX12_readsAmount 0 := ⟨⟨tb_1321, tb_10, by decide +kernel, by decide +kernel, by decide +kernel⟩, tb_1320, tp_51⟩
theorem ok_X12_readsMeant : fx_okV jX12_readsMeant 0 := ⟨⟨tb_1313, tb_10, by decide +kernel, by decide +kernel, by decide +kernel⟩, tb_1312, tp_50⟩
theorem ok_X12_readsDread : fx_okV jX12_readsDread 1 := ⟨⟨tb_1305, tb_10, by decide +kernel, by decide +kernel, by decide +kernel⟩, tb_1304, tp_48⟩
theorem ok_X12_dreads : fx_okV jX12_dreads 2 := ⟨⟨tb_1298, tb_10, by decide +kernel, by decide +kernel, by decide +kernel⟩, tb_1296, tb_1297⟩
theorem ok_X12_readsOne : fx_okV jX12_readsOne 0 := ⟨⟨tb_1350, tb_10, by decide +kernel, by decide +kernel, by decide +kernel⟩, tb_1349, tp_55⟩
theorem ok_X12_readsTwo : fx_okV jX12_readsTwo 0 := ⟨⟨tb_1346, tb_10, by decide +kernel, by decide +kernel, by decide +kernel⟩, tb_1345, tp_54⟩
theorem ok_X12_readsDoor : fx_okV jX12_readsDoor 0 := ⟨⟨tb_1358, tb_10, by decide +kernel, by decide +kernel, by decide +kernel⟩, tb_1357, tp_57⟩
theorem ok_X12_readsOrder : fx_okV jX12_readsOrder 0 := ⟨⟨tb_1342, tb_10, by decide +kernel, by decide +kernel, by decide +kernel⟩, tb_1341, tp_53⟩
theorem ok_X12_laysAside : fx_okV jX12_laysAside 0 := ⟨⟨tb_1338, tb_10, by decide +kernel, by decide +kernel, by decide +kernel⟩, tb_1337, tp_52⟩
theorem ok_X12_putsBack : fx_okV jX12_putsBack 0 := ⟨⟨tb_1366, tb_10, by decide +kernel, by decide +kernel, by decide +kernel⟩, tb_1365, tp_59⟩
theorem ok_X12_orders : fx_okV jX12_orders 1 := ⟨⟨tb_1334, tb_10, by decide +kernel, by decide +kernel, by decide +kernel⟩, tb_1332, tb_1333⟩
theorem ok_X12_feels : fx_okV jX12_feels 2 := ⟨⟨tb_1387, tb_10, by decide +kernel, by decide +kernel, by decide +kernel⟩, tb_1386, tp_63⟩
theorem ok_X12_feelsDoor : fx_okV jX12_feelsDoor 3 := ⟨⟨tb_1417, tb_10, by decide +kernel, by decide +kernel, by decide +kernel⟩, tb_1416, tp_69⟩
theorem ok_X12_likedMost : fx_okV jX12_likedMost 2 := ⟨⟨tb_1413, tb_10, by decide +kernel, by decide +kernel, by decide +kernel⟩, tb_1412, tp_68⟩
theorem ok_X12_triesDoor : fx_okV jX12_triesDoor 3 := ⟨⟨tb_1425, tb_10, by decide +kernel, by decide +kernel, by decide +kernel⟩, tb_1424, tp_71⟩
theorem ok_X12_goesOut : fx_okV jX12_goesOut 1 := ⟨⟨tb_1382, tb_10, by decide +kernel, by decide +kernel, by decide +kernel⟩, tb_1381, tp_62⟩
theorem ok_X12_caughtBy : fx_okV jX12_caughtBy 2 := ⟨⟨tb_1441, tb_10, by decide +kernel, by decide +kernel, by decide +kernel⟩, tb_1440, tp_75⟩
theorem ok_X12_catches : fx_okV jX12_catches 0 := ⟨⟨tb_1437, tb_10, by decide +kernel, by decide +kernel, by decide +kernel⟩, tb_1436, tp_74⟩
theorem ok_X12_nightGoes : fx_okV jX12_nightGoes 0 := ⟨⟨tb_1378, tb_10, by decide +kernel, by decide +kernel, by decide +kernel⟩, tb_1377, tp_61⟩
theorem ok_X12_nightsGo : fx_okV jX12_nightsGo 1 := ⟨⟨tb_1374, tb_10, by decide +kernel, by decide +kernel, by decide +kernel⟩, tb_1373, tp_60⟩
theorem ok_X12_nights : fx_okV jX12_nights 1 := ⟨⟨tb_1370, tb_10, by decide +kernel, by decide +kernel, by decide +kernel⟩, tb_1368, tb_1369⟩
theorem ok_X12_orNone : fx_okS jX12_orNone 1 := ⟨⟨tb_1448, tb_10, by decide +kernel, by decide +kernel, by decide +kernel⟩, tb_1447⟩
theorem ok_X12_tried : fx_okV jX12_tried 2 := ⟨⟨tb_1445, tb_10, by decide +kernel, by decide +kernel, by decide +kernel⟩, tb_1443, tb_1444⟩
theorem ok_X12_dreadSum : fx_okV jX12_dreadSum 1 := ⟨⟨tb_1460, tb_10, by decide +kernel, by decide +kernel, by decide +kernel⟩, tb_1459, tp_77⟩
theorem ok_X12_personIs : fx_okV jX12_personIs 2 := ⟨⟨tb_1452, tb_10, by decide +kernel, by decide +kernel, by decide +kernel⟩, tb_1450, tb_1451⟩
theorem ok_X12_doorIs : fx_okV jX12_doorIs 2 := ⟨⟨tb_1464, tb_10, by decide +kernel, by decide +kernel, by decide +kernel⟩, tb_1462, tb_1463⟩
theorem ok_X12_taught : fx_okV jX12_taught 2 := ⟨⟨tb_1472, tb_10, by decide +kernel, by decide +kernel, by decide +kernel⟩, tb_1470, tb_1471⟩
theorem ok_X12_laysWho : fx_okV jX12_laysWho 0 := ⟨⟨tb_1484, tb_10, by decide +kernel, by decide +kernel, by decide +kernel⟩, tb_1483, tp_79⟩
theorem ok_X12_isCrew : fx_okV jX12_isCrew 1 := ⟨⟨tb_1488, tb_10, by decide +kernel, by decide +kernel, by decide +kernel⟩, tb_1487, tp_80⟩
theorem ok_X12_crew : fx_okV jX12_crew 1 := ⟨⟨tb_1480, tb_10, by decide +kernel, by decide +kernel, by decide +kernel⟩, tb_1478, tb_1479⟩
theorem ok_X12_lodgings : fx_okV jX12_lodgings 0 := ⟨⟨tb_1492, tb_10, by decide +kernel, by decide +kernel, by decide +kernel⟩, tb_1490, tb_1491⟩
theorem ok_X12_areCouple : fx_okV jX12_areCouple 3 := ⟨⟨tb_1500, tb_10, by decide +kernel, by decide +kernel, by decide +kernel⟩, tb_1499, tp_81⟩
theorem ok_X12_couples : fx_okV jX12_couples 1 := ⟨⟨tb_1496, tb_10, by decide +kernel, by decide +kernel, by decide +kernel⟩, tb_1494, tb_1495⟩
theorem ok_X12_lowest : fx_okS jX12_lowest 1 := ⟨⟨tb_1503, tb_10, by decide +kernel, by decide +kernel, by decide +kernel⟩, tb_1502⟩
theorem ok_X12_firstWith : fx_okV jX12_firstWith 1 := ⟨⟨tb_1511, tb_10, by decide +kernel, by decide +kernel, by decide +kernel⟩, tb_1510, tp_82⟩
theorem ok_X12_fashion : fx_okV jX12_fashion 3 := ⟨⟨tb_1507, tb_10, by decide +kernel, by decide +kernel, by decide +kernel⟩, tb_1505, tb_1506⟩
theorem ok_X12_fears : fx_okV jX12_fears 1 := ⟨⟨tb_1515, tb_10, by decide +kernel, by decide +kernel, by decide +kernel⟩, tb_1513, tb_1514⟩
theorem ok_X12_unlikeBy : fx_okV jX12_unlikeBy 2 := ⟨⟨tb_1523, tb_10, by decide +kernel, by decide +kernel, by decide +kernel⟩, tb_1522, tp_83⟩
theorem ok_X12_unlike : fx_okV jX12_unlike 2 := ⟨⟨tb_1519, tb_10, by decide +kernel, by decide +kernel, by decide +kernel⟩, tb_1517, tb_1518⟩
theorem ok_X12_mostLike : fx_okV jX12_mostLike 1 := ⟨⟨tb_1527, tb_10, by decide +kernel, by decide +kernel, by decide +kernel⟩, tb_1525, tb_1526⟩
theorem ok_X12_circleOf : fx_okV jX12_circleOf 2 := ⟨⟨tb_1535, tb_10, by decide +kernel, by decide +kernel, by decide +kernel⟩, tb_1534, tp_84⟩
theorem ok_X12_circles : fx_okV jX12_circles 2 := ⟨⟨tb_1531, tb_10, by decide +kernel, by decide +kernel, by decide +kernel⟩, tb_1529, tb_1530⟩
theorem ok_X12_groupOf : fx_okV jX12_groupOf 2 := ⟨⟨tb_1547, tb_10, by decide +kernel, by decide +kernel, by decide +kernel⟩, tb_1546, tp_86⟩
theorem ok_X12_isKeystone : fx_okV jX12_isKeystone 1 := ⟨⟨tb_1543, tb_10, by decide +kernel, by decide +kernel, by decide +kernel⟩, tb_1542, tp_85⟩
theorem ok_X12_keystones : fx_okV jX12_keystones 0 := ⟨⟨tb_1539, tb_10, by decide +kernel, by decide +kernel, by decide +kernel⟩, tb_1537, tb_1538⟩
theorem ok_X12_steps : fx_okV jX12_steps 2 := ⟨⟨tb_1551, tb_10, by decide +kernel, by decide +kernel, by decide +kernel⟩, tb_1549, tb_1550⟩
theorem ok_X12_bounds : fx_okV jX12_bounds 2 := ⟨⟨tb_1563, tb_10, by decide +kernel, by decide +kernel, by decide +kernel⟩, tb_1562, tp_88⟩
theorem ok_X12_guess : fx_okV jX12_guess 2 := ⟨⟨tb_1555, tb_10, by decide +kernel, by decide +kernel, by decide +kernel⟩, tb_1553, tb_1554⟩
theorem ok_X12_leaves : fx_okV jX12_leaves 2 := ⟨⟨tb_1571, tb_10, by decide +kernel, by decide +kernel, by decide +kernel⟩, tb_1570, tp_89⟩
theorem ok_X12_sentNext : fx_okV jX12_sentNext 2 := ⟨⟨tb_1567, tb_10, by decide +kernel, by decide +kernel, by decide +kernel⟩, tb_1565, tb_1566⟩
theorem ok_X12_changesOrder : fx_okV jX12_changesOrder 2 := ⟨⟨tb_1587, tb_10, by decide +kernel, by decide +kernel, by decide +kernel⟩, tb_1586, tp_92⟩
theorem ok_X12_nextOrder : fx_okV jX12_nextOrder 1 := ⟨⟨tb_1583, tb_10, by decide +kernel, by decide +kernel, by decide +kernel⟩, tb_1582, tp_91⟩
theorem ok_X12_canStand : fx_okV jX12_canStand 1 := ⟨⟨tb_1579, tb_10, by decide +kernel, by decide +kernel, by decide +kernel⟩, tb_1578, tp_90⟩
theorem ok_X12_guards : fx_okV jX12_guards 1 := ⟨⟨tb_1575, tb_10, by decide +kernel, by decide +kernel, by decide +kernel⟩, tb_1573, tb_1574⟩
theorem ok_X12_word : fx_okV jX12_word 3 := ⟨⟨tb_1591, tb_10, by decide +kernel, by decide +kernel, by decide +kernel⟩, tb_1589, tb_1590⟩
theorem ok_X12_rooms : fx_okV jX12_rooms 2 := ⟨⟨tb_1596, tb_10, by decide +kernel, by decide +kernel, by decide +kernel⟩, tb_1594, tb_1595⟩
theorem ok_X12_sleeps : fx_okV jX12_sleeps 3 := ⟨⟨tb_1600, tb_10, by decide +kernel, by decide +kernel, by decide +kernel⟩, tb_1599, tp_93⟩
theorem ok_X12_seed : fx_okV jX12_seed 1 := ⟨⟨tb_1604, tb_10, by decide +kernel, by decide +kernel, by decide +kernel⟩, tb_1602, tb_1603⟩
theorem ok_X12_keep : fx_okV jX12_keep 0 := ⟨⟨tb_1608, tb_10, by decide +kernel, by decide +kernel, by decide +kernel⟩, tb_1606, tb_1607⟩
theorem ok_X12_undo : fx_okV jX12_undo 0 := ⟨⟨tb_1612, tb_10, by decide +kernel, by decide +kernel, by decide +kernel⟩, tb_1610, tb_1611⟩
theorem ok_X12_check : fx_okV jX12_check 1 := ⟨⟨tb_1616, tb_10, by decide +kernel, by decide +kernel, by decide +kernel⟩, tb_1614, tb_1615⟩
theorem ok_X12_twos : fx_okV jX12_twos 0 := ⟨⟨tb_1624, tb_10, by decide +kernel, by decide +kernel, by decide +kernel⟩, tb_1623, tp_94⟩
theorem ok_X12_openedOfAll : fx_okV jX12_openedOfAll 0 := ⟨⟨tb_1628, tb_10, by decide +kernel, by decide +kernel, by decide +kernel⟩, tb_1627, tp_95⟩
theorem ok_X12_count : fx_okV jX12_count 1 := ⟨⟨tb_1620, tb_10, by decide +kernel, by decide +kernel, by decide +kernel⟩, tb_1618, tb_1619⟩
theorem ok_J6_bitCount_0f7a4 : fx_okS jJ6_bitCount_0f7a4 1 := ⟨⟨tb_647, tb_20, by decide +kernel, by decide +kernel, by decide +kernel⟩, tb_646⟩
