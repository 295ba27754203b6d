set_option maxHeartbeats 4000000 in
set_option maxRecDepth 100000 in
theorem r_reckon (l : Launch) (D : va_G) (b : Nat) (N : Nat) (V : Wd) (hN : 133 ≤ N) (cl : Nat) (hW : CR D b cl V) (n0 : Int32) (n1 : Int32) (n2 : Int32) (hz : n0 = 5 ∨ n0 = 6 → ¬ n2 = 0) : MI l D b 0 jX12_reckon [.int n0, .int n1, .int n2] N V 0 0 (fun r N9 V9 => N = N9 ∧ V = V9) := by
  have hJ0 : JR D b N cl [] V V := JR.rf hW
  refine mw_of (by decide) (by simp [Value.category]) (Nat.le_of_ble_eq_true rfl) ?_
  show AW l D b jX12_reckon (fx_rm 0 0 0) none (fx_MQ D b 0 0 (fx_qi (fun r N9 V9 => N = N9 ∧ V = V9))) 0 [some (.int n0), some (.int n1), some (.int n2)] [] N V 0 0
  refine aw_iload_n dX12_reckon_0 rfl ?_
  by_cases sw_1 : n0 = 2
  · skip
    refine aw_eqi sw_1 ?_
    refine aw_tableIn (off := 43) (tgt := 44) dX12_reckon_1 (by decide) (by decide) (by decide) (by decide) ?_
    refine aw_iload_n dX12_reckon_44 rfl ?_
    refine aw_iload_n dX12_reckon_45 rfl ?_
    refine aw_iadd dX12_reckon_46 ?_
    refine aw_ireti dX12_reckon_47 rfl (Nat.le_of_ble_eq_true rfl) (Nat.le_of_ble_eq_true rfl) ?_
    exact ⟨rfl, rfl⟩
  by_cases sw_2 : n0 = 3
  · skip
    refine aw_eqi sw_2 ?_
    refine aw_tableIn (off := 47) (tgt := 48) dX12_reckon_1 (by decide) (by decide) (by decide) (by decide) ?_
    refine aw_iload_n dX12_reckon_48 rfl ?_
    refine aw_iload_n dX12_reckon_49 rfl ?_
    refine aw_isub dX12_reckon_50 ?_
    refine aw_ireti dX12_reckon_51 rfl (Nat.le_of_ble_eq_true rfl) (Nat.le_of_ble_eq_true rfl) ?_
    exact ⟨rfl, rfl⟩
  by_cases sw_3 : n0 = 4
  · skip
    refine aw_eqi sw_3 ?_
    refine aw_tableIn (off := 51) (tgt := 52) dX12_reckon_1 (by decide) (by decide) (by decide) (by decide) ?_
    refine aw_iload_n dX12_reckon_52 rfl ?_
    refine aw_iload_n dX12_reckon_53 rfl ?_
    refine aw_imul dX12_reckon_54 ?_
    refine aw_ireti dX12_reckon_55 rfl (Nat.le_of_ble_eq_true rfl) (Nat.le_of_ble_eq_true rfl) ?_
    exact ⟨rfl, rfl⟩
  by_cases sw_4 : n0 = 5
  · skip
    refine aw_eqi sw_4 ?_
    refine aw_tableIn (off := 55) (tgt := 56) dX12_reckon_1 (by decide) (by decide) (by decide) (by decide) ?_
    refine aw_iload_n dX12_reckon_56 rfl ?_
    refine aw_iload_n dX12_reckon_57 rfl ?_
    refine aw_idiv dX12_reckon_58 (hz (Or.inl sw_4)) ?_
    refine aw_ireti dX12_reckon_59 rfl (Nat.le_of_ble_eq_true rfl) (Nat.le_of_ble_eq_true rfl) ?_
    exact ⟨rfl, rfl⟩
  by_cases sw_5 : n0 = 6
  · skip
    refine aw_eqi sw_5 ?_
    refine aw_tableIn (off := 59) (tgt := 60) dX12_reckon_1 (by decide) (by decide) (by decide) (by decide) ?_
    refine aw_iload_n dX12_reckon_60 rfl ?_
    refine aw_iload_n dX12_reckon_61 rfl ?_
    refine aw_irem dX12_reckon_62 (hz (Or.inr sw_5)) ?_
    refine aw_ireti dX12_reckon_63 rfl (Nat.le_of_ble_eq_true rfl) (Nat.le_of_ble_eq_true rfl) ?_
    exact ⟨rfl, rfl⟩
  by_cases sw_6 : n0 = 7
  · skip
    refine aw_eqi sw_6 ?_
    refine aw_tableIn (off := 63) (tgt := 64) dX12_reckon_1 (by decide) (by decide) (by decide) (by decide) ?_
    refine aw_iload_n dX12_reckon_64 rfl ?_
    refine aw_iload_n dX12_reckon_65 rfl ?_
    refine aw_icmp_ge (tgt := 73) dX12_reckon_66 (by decide) (fun c_7 => ?_) (fun c_7 => ?_)
    · skip
      refine aw_iconst (v := 0) dX12_reckon_73 (by decide) ?_
      refine aw_ireti dX12_reckon_74 rfl (Nat.le_of_ble_eq_true rfl) (Nat.le_of_ble_eq_true rfl) ?_
      exact ⟨rfl, rfl⟩
    · skip
      refine aw_iconst (v := 1) dX12_reckon_69 (by decide) ?_
      refine aw_goto (tgt := 74) dX12_reckon_70 (by decide) ?_
      refine aw_ireti dX12_reckon_74 rfl (Nat.le_of_ble_eq_true rfl) (Nat.le_of_ble_eq_true rfl) ?_
      exact ⟨rfl, rfl⟩
  by_cases sw_8 : n0 = 8
  · skip
    refine aw_eqi sw_8 ?_
    refine aw_tableIn (off := 74) (tgt := 75) dX12_reckon_1 (by decide) (by decide) (by decide) (by decide) ?_
    refine aw_iload_n dX12_reckon_75 rfl ?_
    refine aw_iload_n dX12_reckon_76 rfl ?_
    refine aw_icmp_le (tgt := 84) dX12_reckon_77 (by decide) (fun c_9 => ?_) (fun c_9 => ?_)
    · skip
      refine aw_iconst (v := 0) dX12_reckon_84 (by decide) ?_
      refine aw_ireti dX12_reckon_85 rfl (Nat.le_of_ble_eq_true rfl) (Nat.le_of_ble_eq_true rfl) ?_
      exact ⟨rfl, rfl⟩
    · skip
      refine aw_iconst (v := 1) dX12_reckon_80 (by decide) ?_
      refine aw_goto (tgt := 85) dX12_reckon_81 (by decide) ?_
      refine aw_ireti dX12_reckon_85 rfl (Nat.le_of_ble_eq_true rfl) (Nat.le_of_ble_eq_true rfl) ?_
      exact ⟨rfl, rfl⟩
  have tsw_1 : n0.toInt ≠ 2 := fx_tne sw_1
  have tsw_2 : n0.toInt ≠ 3 := fx_tne sw_2
  have tsw_3 : n0.toInt ≠ 4 := fx_tne sw_3
  have tsw_4 : n0.toInt ≠ 5 := fx_tne sw_4
  have tsw_5 : n0.toInt ≠ 6 := fx_tne sw_5
  have tsw_6 : n0.toInt ≠ 7 := fx_tne sw_6
  have tsw_8 : n0.toInt ≠ 8 := fx_tne sw_8
  refine aw_tableOut (tgt := 86) dX12_reckon_1 (by omega) (by decide) ?_
  refine aw_iload_n dX12_reckon_86 rfl ?_
  refine aw_iload_n dX12_reckon_87 rfl ?_
  refine aw_icmp_ne (tgt := 95) dX12_reckon_88 (by decide) (fun c_10 => ?_) (fun c_10 => ?_)
  · skip
    refine aw_iconst (v := 0) dX12_reckon_95 (by decide) ?_
    refine aw_ireti dX12_reckon_96 rfl (Nat.le_of_ble_eq_true rfl) (Nat.le_of_ble_eq_true rfl) ?_
    exact ⟨rfl, rfl⟩
  · skip
    refine aw_iconst (v := 1) dX12_reckon_91 (by decide) ?_
    refine aw_goto (tgt := 96) dX12_reckon_92 (by decide) ?_
    refine aw_ireti dX12_reckon_96 rfl (Nat.le_of_ble_eq_true rfl) (Nat.le_of_ble_eq_true rfl) ?_
    exact ⟨rfl, rfl⟩

set_option maxHeartbeats 4000000 in
set_option maxRecDepth 100000 in
theorem r_reckonsTo (l : Launch) (D : va_G) (b : Nat) (N : Nat) (V : Wd) (hN : 133 ≤ N) (cl : Nat) (hW : CR D b cl V) (n0 : Int32) (n1 : Int32) (f t : Nat) (hf : f ≤ 240) (ht : t ≤ 240) (hft : f ≤ t) (cd : Nat → Int32) (hcd : V 117 = cI D 260 cd) (hS : SegOK cd f t) : MI l D b 1 jX12_reckonsTo [.ref (b + 100), .int (nI f), .int (nI t)] N V 0 0 (fun r N9 V9 => N = N9 ∧ JR D b N cl [(122, 122, 0, 1000000)] V V9) := by
  have hJ0 : JR D b N cl [(122, 122, 0, 1000000)] V V := JR.rf hW
  obtain ⟨dep, hd0, hok, hdb⟩ := hS
  refine mw_of (by decide) (by simp [Value.category]) (Nat.le_of_ble_eq_true rfl) ?_
  show AW l D b jX12_reckonsTo (fx_rm 1 0 0) none (fx_MQ D b 0 0 (fx_qi (fun r N9 V9 => N = N9 ∧ JR D b N cl [(122, 122, 0, 1000000)] V V9))) 0 [some (.ref (b + 100)), some (.int (nI f)), some (.int (nI t)), none, none, none, none, none] [] N V 0 0
  refine aw_iconst (v := 0) dX12_reckonsTo_0 (by decide) ?_
  refine aw_istore_n (ls' := [some (.ref (b + 100)), some (.int (nI f)), some (.int (nI t)), some (.int 0), none, none, none, none]) dX12_reckonsTo_1 (Nat.le_of_ble_eq_true rfl) rfl ?_
  refine aw_sipush (v := 260) dX12_reckonsTo_2 (by decide) ?_
  refine aw_iload_n dX12_reckonsTo_5 rfl ?_
  refine aw_sipush (v := 260) dX12_reckonsTo_6 (by decide) ?_
  refine aw_idiv dX12_reckonsTo_9 (by decide) ?_
  refine aw_eqi (y := 0) (r_base (by omega)) ?_
  refine aw_imul dX12_reckonsTo_10 ?_
  refine aw_eqi (y := 0) (by decide) ?_
  refine aw_istore (ls' := [some (.ref (b + 100)), some (.int (nI f)), some (.int (nI t)), some (.int 0), some (.int 0), none, none, none]) dX12_reckonsTo_11 (Nat.le_of_ble_eq_true rfl) rfl ?_
  refine aw_iload_n dX12_reckonsTo_13 rfl ?_
  refine aw_istore (ls' := [some (.ref (b + 100)), some (.int (nI f)), some (.int (nI t)), some (.int 0), some (.int 0), some (.int (nI f)), none, none]) dX12_reckonsTo_14 (Nat.le_of_ble_eq_true rfl) rfl ?_
  have ml_16_1 : ∀ (m : Nat) (k16 : Nat) (n16 : Nat) (V16 : Wd), m = t - k16 → (JR D b N cl [(122, 122, 0, 1000000)] V V16) → (V16 117 = cI D 260 cd) → (f ≤ k16 ∧ k16 ≤ t) → (n16 = dep k16) → AW l D b jX12_reckonsTo (fx_rm 1 0 0) none (fx_MQ D b 0 0 (fx_qi (fun r N9 V9 => N = N9 ∧ JR D b N cl [(122, 122, 0, 1000000)] V V9))) 16 [some (.ref (b + 100)), some (.int (nI f)), some (.int (nI t)), some (.int (nI n16)), some (.int 0), some (.int (nI k16)), none, none] [] N V16 0 0 := by
    intro m; refine Nat.strongRecOn m ?_
    intro m mih_16_1 k16 n16 V16 hm16 i16_0 i16_1 i16_2 i16_3
    refine aw_iload dX12_reckonsTo_16 rfl ?_
    refine aw_iload_n dX12_reckonsTo_18 rfl ?_
    refine aw_icmp_ge (tgt := 233) dX12_reckonsTo_19 (by decide) (fun c_2 => ?_) (fun c_2 => ?_)
    · skip
      have nc_2 : t ≤ k16 := (nI_leI (a := t) (b := k16) (by omega) (by omega)).mp c_2
      refine aw_aload_n dX12_reckonsTo_233 rfl ?_
      obtain ⟨ftoldPeople_3, ftoldDoors_3, fwasDoors_3, ffault_3, fopen_3, flines_3, fmeantSet_3, fopenedNow_3, fvainNow_3, flowNow_3, fhighNow_3, fisKept_3, tad_3, pl0_3, le0_3, nu0_3, coy_3, wag_3, say_3, e_3, hntad_3, hnpl0_3, hnle0_3, hnnu0_3, hncoy_3, hnwag_3, hnsay_3⟩ := JR.get i16_0 cm_100
      refine aw_get dX12_reckonsTo_234 fl_X12_74 e_3 (by omega) rfl ?_
      refine aw_iconst (v := 0) dX12_reckonsTo_237 (by decide) ?_
      obtain ⟨g_4, e_4⟩ := JR.get i16_0 cm_122
      refine aw_iald (v := (g_4 0)) dX12_reckonsTo_238 e_4 (by omega) (vp_in_nI (n := 0) (N := 260) (by decide) (by decide)) (congrArg g_4 (nI_clamp (n := 0) (by omega))) ?_
      refine aw_ireti dX12_reckonsTo_239 rfl (Nat.le_of_ble_eq_true rfl) (Nat.le_of_ble_eq_true rfl) ?_
      exact ⟨rfl, i16_0⟩
    · skip
      have nc_2 : ¬ (t ≤ k16) := fun z => c_2 ((nI_leI (a := t) (b := k16) (by omega) (by omega)).mpr z)
      obtain ⟨op, v, hcv, hv, ho, q0, q1, q2, q3, q4⟩ := hok k16 (by omega) (by omega)
      have hdk := hdb k16 (by omega) (by omega)
      refine aw_aload_n dX12_reckonsTo_22 rfl ?_
      obtain ⟨ftoldPeople_5, ftoldDoors_5, fwasDoors_5, ffault_5, fopen_5, flines_5, fmeantSet_5, fopenedNow_5, fvainNow_5, flowNow_5, fhighNow_5, fisKept_5, tad_5, pl0_5, le0_5, nu0_5, coy_5, wag_5, say_5, e_5, hntad_5, hnpl0_5, hnle0_5, hnnu0_5, hncoy_5, hnwag_5, hnsay_5⟩ := JR.get i16_0 cm_100
      refine aw_get dX12_reckonsTo_23 fl_X12_59 e_5 (by omega) rfl ?_
      refine aw_iload dX12_reckonsTo_26 rfl ?_
      refine aw_iald (v := (cd k16)) dX12_reckonsTo_28 i16_1 (by omega) (vp_in_nI (n := k16) (by omega) (by omega)) (congrArg cd (nI_clamp (n := k16) (by omega))) ?_
      refine aw_eqi hcv ?_
      refine aw_ldc (v := 1048576) dX12_reckonsTo_29 tb_1240 ?_
      refine aw_idiv dX12_reckonsTo_31 (by decide) ?_
      refine aw_eqi (y := (nI op)) (un_div hv (by omega)) ?_
      refine aw_istore (ls' := [some (.ref (b + 100)), some (.int (nI f)), some (.int (nI t)), some (.int (nI n16)), some (.int 0), some (.int (nI k16)), some (.int (nI op)), none]) dX12_reckonsTo_32 (Nat.le_of_ble_eq_true rfl) rfl ?_
      refine aw_aload_n dX12_reckonsTo_34 rfl ?_
      refine aw_get dX12_reckonsTo_35 fl_X12_59 e_5 (by omega) rfl ?_
      refine aw_iload dX12_reckonsTo_38 rfl ?_
      refine aw_iald (v := (cd k16)) dX12_reckonsTo_40 i16_1 (by omega) (vp_in_nI (n := k16) (by omega) (by omega)) (congrArg cd (nI_clamp (n := k16) (by omega))) ?_
      refine aw_eqi hcv ?_
      refine aw_ldc (v := 1048576) dX12_reckonsTo_41 tb_1240 ?_
      refine aw_irem dX12_reckonsTo_43 (by decide) ?_
      refine aw_eqi (y := (nI v)) (un_rem hv (by omega)) ?_
      refine aw_istore (ls' := [some (.ref (b + 100)), some (.int (nI f)), some (.int (nI t)), some (.int (nI n16)), some (.int 0), some (.int (nI k16)), some (.int (nI op)), some (.int (nI v))]) dX12_reckonsTo_44 (Nat.le_of_ble_eq_true rfl) rfl ?_
      refine aw_iload dX12_reckonsTo_46 rfl ?_
      refine aw_iconst (v := 1) dX12_reckonsTo_48 (by decide) ?_
      refine aw_iadd dX12_reckonsTo_49 ?_
      refine aw_eqi (y := nI (k16 + 1)) (nI_add _ _) ?_
      refine aw_istore (ls' := [some (.ref (b + 100)), some (.int (nI f)), some (.int (nI t)), some (.int (nI n16)), some (.int 0), some (.int (nI (k16 + 1))), some (.int (nI op)), some (.int (nI v))]) dX12_reckonsTo_50 (Nat.le_of_ble_eq_true rfl) rfl ?_
      refine aw_iload dX12_reckonsTo_52 rfl ?_
      refine aw_if_eq (tgt := 63) dX12_reckonsTo_54 (by decide) (fun c_6 => ?_) (fun c_6 => ?_)
      · skip
        have nc_6 : op = 0 := (nI_eq (a := op) (b := 0) (by omega) (by omega)).mp c_6
        refine aw_aload_n dX12_reckonsTo_63 rfl ?_
        refine aw_get dX12_reckonsTo_64 fl_X12_74 e_5 (by omega) rfl ?_
        refine aw_iload_n dX12_reckonsTo_67 rfl ?_
        refine aw_iload dX12_reckonsTo_68 rfl ?_
        refine aw_if_ne (tgt := 78) dX12_reckonsTo_70 (by decide) (fun c_7 => ?_) (fun c_7 => ?_)
        · first | exact absurd c_7 c_6 | exact absurd c_6 c_7 | exact absurd c_7 (Int32.not_lt.mpr c_6) | exact absurd c_6 (Int32.not_lt.mpr c_7) | exact c_6 (Int32.not_lt.mp c_7) | exact c_6 (Int32.not_le.mp c_7)
        have nc_7 : op = 0 := (nI_eq (a := op) (b := 0) (by omega) (by omega)).mp c_7
        refine aw_iload dX12_reckonsTo_73 rfl ?_
        refine aw_goto (tgt := 85) dX12_reckonsTo_75 (by decide) ?_
        obtain ⟨g_8, e_8⟩ := JR.get i16_0 cm_122
        refine aw_iast dX12_reckonsTo_85 e_8 (by omega) (vp_in_nI (n := n16) (by omega) (by omega)) ?_
        refine aw_upR i16_0 cm_122 ⟨_, rfl⟩ (by decide) (WA LM0 (by decide) (by decide)) (fun V_9 j_9 k_9 e_9 => ?_)
        refine aw_iload_n dX12_reckonsTo_86 rfl ?_
        refine aw_iconst (v := 1) dX12_reckonsTo_87 (by decide) ?_
        refine aw_iadd dX12_reckonsTo_88 ?_
        refine aw_eqi (y := nI (n16 + 1)) (nI_add _ _) ?_
        refine aw_istore_n (ls' := [some (.ref (b + 100)), some (.int (nI f)), some (.int (nI t)), some (.int (nI (n16 + 1))), some (.int 0), some (.int (nI (k16 + 1))), some (.int (nI op)), some (.int (nI v))]) dX12_reckonsTo_89 (Nat.le_of_ble_eq_true rfl) rfl ?_
        refine aw_goto (tgt := 230) dX12_reckonsTo_90 (by decide) ?_
        refine aw_goto (tgt := 16) dX12_reckonsTo_230 (by decide) ?_
        refine aw_le ?_ (mih_16_1 _ (by omega) (k16 + 1) (n16 + 1) V_9 rfl (j_9) (((k_9 _ (by decide)).trans i16_1)) (⟨by omega, by omega⟩) (by omega))
        exact ⟨rfl, ⟨rfl, ⟨rfl, ⟨rfl, ⟨rfl, ⟨rfl, trivial⟩⟩⟩⟩⟩⟩
      · skip
        have nc_6 : ¬ (op = 0) := fun z => c_6 ((nI_eq (a := op) (b := 0) (by omega) (by omega)).mpr z)
        refine aw_iload dX12_reckonsTo_57 rfl ?_
        refine aw_iconst (v := 1) dX12_reckonsTo_59 (by decide) ?_
        refine aw_icmp_ne (tgt := 93) dX12_reckonsTo_60 (by decide) (fun c_10 => ?_) (fun c_10 => ?_)
        · skip
          have nc_10 : ¬ (op = 1) := fun z => c_10 ((nI_eq (a := op) (b := 1) (by omega) (by omega)).mpr z)
          refine aw_iload dX12_reckonsTo_93 rfl ?_
          refine aw_bipush (v := 10) dX12_reckonsTo_95 (by decide) ?_
          refine aw_icmp_ne (tgt := 121) dX12_reckonsTo_97 (by decide) (fun c_11 => ?_) (fun c_11 => ?_)
          · skip
            have nc_11 : ¬ (op = 10) := fun z => c_11 ((nI_eq (a := op) (b := 10) (by omega) (by omega)).mpr z)
            refine aw_iload dX12_reckonsTo_121 rfl ?_
            refine aw_bipush (v := 11) dX12_reckonsTo_123 (by decide) ?_
            refine aw_icmp_eq (tgt := 135) dX12_reckonsTo_125 (by decide) (fun c_12 => ?_) (fun c_12 => ?_)
            · skip
              have nc_12 : op = 11 := (nI_eq (a := op) (b := 11) (by omega) (by omega)).mp c_12
              refine aw_aload_n dX12_reckonsTo_135 rfl ?_
              refine aw_get dX12_reckonsTo_136 fl_X12_74 e_5 (by omega) rfl ?_
              refine aw_iload_n dX12_reckonsTo_139 rfl ?_
              refine aw_iconst (v := 1) dX12_reckonsTo_140 (by decide) ?_
              refine aw_isub dX12_reckonsTo_141 ?_
              refine aw_eqi (y := (nI (n16 - 1))) (pk_sub (a := n16) (b := 1) (by omega)) ?_
              obtain ⟨g_13, e_13⟩ := JR.get i16_0 cm_122
              refine aw_iald (v := (g_13 (n16 - 1))) dX12_reckonsTo_142 e_13 (by omega) (vp_in_nI (n := (n16 - 1)) (by omega) (by omega)) (congrArg g_13 (nI_clamp (n := (n16 - 1)) (by omega))) ?_
              refine aw_iload dX12_reckonsTo_143 rfl ?_
              refine aw_bipush (v := 12) dX12_reckonsTo_145 (by decide) ?_
              refine aw_icmp_ne (tgt := 154) dX12_reckonsTo_147 (by decide) (fun c_14 => ?_) (fun c_14 => ?_)
              · skip
                have nc_14 : ¬ (op = 12) := fun z => c_14 ((nI_eq (a := op) (b := 12) (by omega) (by omega)).mpr z)
                refine aw_iconst (v := 0) dX12_reckonsTo_154 (by decide) ?_
                refine aw_icmp_ne (tgt := 168) dX12_reckonsTo_155 (by decide) (fun c_15 => ?_) (fun c_15 => ?_)
                · skip
                  refine aw_iload_n dX12_reckonsTo_168 rfl ?_
                  refine aw_iconst (v := 1) dX12_reckonsTo_169 (by decide) ?_
                  refine aw_isub dX12_reckonsTo_170 ?_
                  refine aw_eqi (y := (nI (n16 - 1))) (pk_sub (a := n16) (b := 1) (by omega)) ?_
                  refine aw_istore_n (ls' := [some (.ref (b + 100)), some (.int (nI f)), some (.int (nI t)), some (.int (nI (n16 - 1))), some (.int 0), some (.int (nI (k16 + 1))), some (.int (nI op)), some (.int (nI v))]) dX12_reckonsTo_171 (Nat.le_of_ble_eq_true rfl) rfl ?_
                  refine aw_goto (tgt := 230) dX12_reckonsTo_172 (by decide) ?_
                  refine aw_goto (tgt := 16) dX12_reckonsTo_230 (by decide) ?_
                  refine aw_le ?_ (mih_16_1 _ (by omega) (k16 + 1) (n16 - 1) V16 rfl (i16_0) (i16_1) (⟨by omega, by omega⟩) (by omega))
                  exact ⟨rfl, ⟨rfl, ⟨rfl, ⟨rfl, ⟨rfl, ⟨rfl, trivial⟩⟩⟩⟩⟩⟩
                · skip
                  refine aw_iload dX12_reckonsTo_158 rfl ?_
                  refine aw_iload dX12_reckonsTo_160 rfl ?_
                  refine aw_iadd dX12_reckonsTo_162 ?_
                  refine aw_eqi (y := (nI v)) (Int32.zero_add _) ?_
                  refine aw_istore (ls' := [some (.ref (b + 100)), some (.int (nI f)), some (.int (nI t)), some (.int (nI n16)), some (.int 0), some (.int (nI v)), some (.int (nI op)), some (.int (nI v))]) dX12_reckonsTo_163 (Nat.le_of_ble_eq_true rfl) rfl ?_
                  refine aw_goto (tgt := 230) dX12_reckonsTo_165 (by decide) ?_
                  refine aw_goto (tgt := 16) dX12_reckonsTo_230 (by decide) ?_
                  refine aw_le ?_ (mih_16_1 _ (by omega) v n16 V16 rfl (i16_0) (i16_1) (⟨by omega, by omega⟩) (by omega))
                  exact ⟨rfl, ⟨rfl, ⟨rfl, ⟨rfl, ⟨rfl, ⟨rfl, trivial⟩⟩⟩⟩⟩⟩
              · skip
                have nc_14 : op = 12 := (nI_eq (a := op) (b := 12) (by omega) (by omega)).mp c_14
                refine aw_iconst (v := 1) dX12_reckonsTo_150 (by decide) ?_
                refine aw_goto (tgt := 155) dX12_reckonsTo_151 (by decide) ?_
                refine aw_icmp_ne (tgt := 168) dX12_reckonsTo_155 (by decide) (fun c_16 => ?_) (fun c_16 => ?_)
                · skip
                  refine aw_iload_n dX12_reckonsTo_168 rfl ?_
                  refine aw_iconst (v := 1) dX12_reckonsTo_169 (by decide) ?_
                  refine aw_isub dX12_reckonsTo_170 ?_
                  refine aw_eqi (y := (nI (n16 - 1))) (pk_sub (a := n16) (b := 1) (by omega)) ?_
                  refine aw_istore_n (ls' := [some (.ref (b + 100)), some (.int (nI f)), some (.int (nI t)), some (.int (nI (n16 - 1))), some (.int 0), some (.int (nI (k16 + 1))), some (.int (nI op)), some (.int (nI v))]) dX12_reckonsTo_171 (Nat.le_of_ble_eq_true rfl) rfl ?_
                  refine aw_goto (tgt := 230) dX12_reckonsTo_172 (by decide) ?_
                  refine aw_goto (tgt := 16) dX12_reckonsTo_230 (by decide) ?_
                  refine aw_le ?_ (mih_16_1 _ (by omega) (k16 + 1) (n16 - 1) V16 rfl (i16_0) (i16_1) (⟨by omega, by omega⟩) (by omega))
                  exact ⟨rfl, ⟨rfl, ⟨rfl, ⟨rfl, ⟨rfl, ⟨rfl, trivial⟩⟩⟩⟩⟩⟩
                · skip
                  refine aw_iload dX12_reckonsTo_158 rfl ?_
                  refine aw_iload dX12_reckonsTo_160 rfl ?_
                  refine aw_iadd dX12_reckonsTo_162 ?_
                  refine aw_eqi (y := (nI v)) (Int32.zero_add _) ?_
                  refine aw_istore (ls' := [some (.ref (b + 100)), some (.int (nI f)), some (.int (nI t)), some (.int (nI n16)), some (.int 0), some (.int (nI v)), some (.int (nI op)), some (.int (nI v))]) dX12_reckonsTo_163 (Nat.le_of_ble_eq_true rfl) rfl ?_
                  refine aw_goto (tgt := 230) dX12_reckonsTo_165 (by decide) ?_
                  refine aw_goto (tgt := 16) dX12_reckonsTo_230 (by decide) ?_
                  refine aw_le ?_ (mih_16_1 _ (by omega) v n16 V16 rfl (i16_0) (i16_1) (⟨by omega, by omega⟩) (by omega))
                  exact ⟨rfl, ⟨rfl, ⟨rfl, ⟨rfl, ⟨rfl, ⟨rfl, trivial⟩⟩⟩⟩⟩⟩
            · skip
              have nc_12 : ¬ (op = 11) := fun z => c_12 ((nI_eq (a := op) (b := 11) (by omega) (by omega)).mpr z)
              refine aw_iload dX12_reckonsTo_128 rfl ?_
              refine aw_bipush (v := 12) dX12_reckonsTo_130 (by decide) ?_
              refine aw_icmp_ne (tgt := 175) dX12_reckonsTo_132 (by decide) (fun c_17 => ?_) (fun c_17 => ?_)
              · skip
                have nc_17 : ¬ (op = 12) := fun z => c_17 ((nI_eq (a := op) (b := 12) (by omega) (by omega)).mpr z)
                refine aw_iload_n dX12_reckonsTo_175 rfl ?_
                refine aw_iconst (v := 1) dX12_reckonsTo_176 (by decide) ?_
                refine aw_isub dX12_reckonsTo_177 ?_
                refine aw_eqi (y := (nI (n16 - 1))) (pk_sub (a := n16) (b := 1) (by omega)) ?_
                refine aw_istore_n (ls' := [some (.ref (b + 100)), some (.int (nI f)), some (.int (nI t)), some (.int (nI (n16 - 1))), some (.int 0), some (.int (nI (k16 + 1))), some (.int (nI op)), some (.int (nI v))]) dX12_reckonsTo_178 (Nat.le_of_ble_eq_true rfl) rfl ?_
                refine aw_iload dX12_reckonsTo_179 rfl ?_
                refine aw_iconst (v := 5) dX12_reckonsTo_181 (by decide) ?_
                refine aw_icmp_eq (tgt := 192) dX12_reckonsTo_182 (by decide) (fun c_18 => ?_) (fun c_18 => ?_)
                · skip
                  have nc_18 : op = 5 := (nI_eq (a := op) (b := 5) (by omega) (by omega)).mp c_18
                  refine aw_aload_n dX12_reckonsTo_192 rfl ?_
                  refine aw_get dX12_reckonsTo_193 fl_X12_74 e_5 (by omega) rfl ?_
                  refine aw_iload_n dX12_reckonsTo_196 rfl ?_
                  obtain ⟨g_19, e_19⟩ := JR.get i16_0 cm_122
                  refine aw_iald (v := (g_19 (n16 - 1))) dX12_reckonsTo_197 e_19 (by omega) (vp_in_nI (n := (n16 - 1)) (by omega) (by omega)) (congrArg g_19 (nI_clamp (n := (n16 - 1)) (by omega))) ?_
                  refine aw_if_ne (tgt := 203) dX12_reckonsTo_198 (by decide) (fun c_20 => ?_) (fun c_20 => ?_)
                  · skip
                    refine aw_aload_n dX12_reckonsTo_203 rfl ?_
                    refine aw_get dX12_reckonsTo_204 fl_X12_74 e_5 (by omega) rfl ?_
                    refine aw_iload_n dX12_reckonsTo_207 rfl ?_
                    refine aw_iconst (v := 1) dX12_reckonsTo_208 (by decide) ?_
                    refine aw_isub dX12_reckonsTo_209 ?_
                    refine aw_eqi (y := (nI ((n16 - 1) - 1))) (pk_sub (a := (n16 - 1)) (b := 1) (by omega)) ?_
                    refine aw_iload dX12_reckonsTo_210 rfl ?_
                    refine aw_aload_n dX12_reckonsTo_212 rfl ?_
                    refine aw_get dX12_reckonsTo_213 fl_X12_74 e_5 (by omega) rfl ?_
                    refine aw_iload_n dX12_reckonsTo_216 rfl ?_
                    refine aw_iconst (v := 1) dX12_reckonsTo_217 (by decide) ?_
                    refine aw_isub dX12_reckonsTo_218 ?_
                    refine aw_eqi (y := (nI ((n16 - 1) - 1))) (pk_sub (a := (n16 - 1)) (b := 1) (by omega)) ?_
                    refine aw_iald (v := (g_19 ((n16 - 1) - 1))) dX12_reckonsTo_219 e_19 (by omega) (vp_in_nI (n := ((n16 - 1) - 1)) (by omega) (by omega)) (congrArg g_19 (nI_clamp (n := ((n16 - 1) - 1)) (by omega))) ?_
                    refine aw_aload_n dX12_reckonsTo_220 rfl ?_
                    refine aw_get dX12_reckonsTo_221 fl_X12_74 e_5 (by omega) rfl ?_
                    refine aw_iload_n dX12_reckonsTo_224 rfl ?_
                    refine aw_iald (v := (g_19 (n16 - 1))) dX12_reckonsTo_225 e_19 (by omega) (vp_in_nI (n := (n16 - 1)) (by omega) (by omega)) (congrArg g_19 (nI_clamp (n := (n16 - 1)) (by omega))) ?_
                    refine aw_callSi (J' := jX12_reckon) (As := [.int (nI op), .int (g_19 ((n16 - 1) - 1)), .int (g_19 (n16 - 1))]) (st := [.int (nI ((n16 - 1) - 1)), .ref (b + 122)]) dX12_reckonsTo_226 tb_1407 ok_X12_reckon rfl (r_reckon l D b N V16 hN cl i16_0.1 (nI op) (g_19 ((n16 - 1) - 1)) (g_19 (n16 - 1)) (fun h => by rcases h with h | h <;> first | exact c_20 | (have := (nI_eq (a := op) (b := 5) (by omega) (by decide)).mp h; omega) | (have := (nI_eq (a := op) (b := 6) (by omega) (by decide)).mp h; omega))) rfl (Nat.le_of_ble_eq_true rfl) ⟨Nat.le_of_ble_eq_true rfl, Nat.le_of_ble_eq_true rfl, Nat.le_of_ble_eq_true rfl, Nat.le_of_ble_eq_true rfl⟩ (fun r_22 N_23 V_24 q_25 => ?_)
                    obtain ⟨rfl, rfl⟩ := q_25
                    refine aw_iast dX12_reckonsTo_229 e_19 (by omega) (vp_in_nI (n := ((n16 - 1) - 1)) (by omega) (by omega)) ?_
                    refine aw_upR i16_0 cm_122 ⟨_, rfl⟩ (by decide) (WA LM0 (by decide) (by decide)) (fun V_26 j_26 k_26 e_26 => ?_)
                    refine aw_goto (tgt := 16) dX12_reckonsTo_230 (by decide) ?_
                    refine aw_le ?_ (mih_16_1 _ (by omega) (k16 + 1) (n16 - 1) V_26 rfl (j_26) (((k_26 _ (by decide)).trans i16_1)) (⟨by omega, by omega⟩) (by omega))
                    exact ⟨rfl, ⟨rfl, ⟨rfl, ⟨rfl, ⟨rfl, ⟨rfl, trivial⟩⟩⟩⟩⟩⟩
                  · skip
                    refine aw_iconst (v := 0) dX12_reckonsTo_201 (by decide) ?_
                    refine aw_ireti dX12_reckonsTo_202 rfl (Nat.le_of_ble_eq_true rfl) (Nat.le_of_ble_eq_true rfl) ?_
                    exact ⟨rfl, i16_0⟩
                · skip
                  have nc_18 : ¬ (op = 5) := fun z => c_18 ((nI_eq (a := op) (b := 5) (by omega) (by omega)).mpr z)
                  refine aw_iload dX12_reckonsTo_185 rfl ?_
                  refine aw_bipush (v := 6) dX12_reckonsTo_187 (by decide) ?_
                  refine aw_icmp_ne (tgt := 203) dX12_reckonsTo_189 (by decide) (fun c_27 => ?_) (fun c_27 => ?_)
                  · skip
                    have nc_27 : ¬ (op = 6) := fun z => c_27 ((nI_eq (a := op) (b := 6) (by omega) (by omega)).mpr z)
                    refine aw_aload_n dX12_reckonsTo_203 rfl ?_
                    refine aw_get dX12_reckonsTo_204 fl_X12_74 e_5 (by omega) rfl ?_
                    refine aw_iload_n dX12_reckonsTo_207 rfl ?_
                    refine aw_iconst (v := 1) dX12_reckonsTo_208 (by decide) ?_
                    refine aw_isub dX12_reckonsTo_209 ?_
                    refine aw_eqi (y := (nI ((n16 - 1) - 1))) (pk_sub (a := (n16 - 1)) (b := 1) (by omega)) ?_
                    refine aw_iload dX12_reckonsTo_210 rfl ?_
                    refine aw_aload_n dX12_reckonsTo_212 rfl ?_
                    refine aw_get dX12_reckonsTo_213 fl_X12_74 e_5 (by omega) rfl ?_
                    refine aw_iload_n dX12_reckonsTo_216 rfl ?_
                    refine aw_iconst (v := 1) dX12_reckonsTo_217 (by decide) ?_
                    refine aw_isub dX12_reckonsTo_218 ?_
                    refine aw_eqi (y := (nI ((n16 - 1) - 1))) (pk_sub (a := (n16 - 1)) (b := 1) (by omega)) ?_
                    obtain ⟨g_28, e_28⟩ := JR.get i16_0 cm_122
                    refine aw_iald (v := (g_28 ((n16 - 1) - 1))) dX12_reckonsTo_219 e_28 (by omega) (vp_in_nI (n := ((n16 - 1) - 1)) (by omega) (by omega)) (congrArg g_28 (nI_clamp (n := ((n16 - 1) - 1)) (by omega))) ?_
                    refine aw_aload_n dX12_reckonsTo_220 rfl ?_
                    refine aw_get dX12_reckonsTo_221 fl_X12_74 e_5 (by omega) rfl ?_
                    refine aw_iload_n dX12_reckonsTo_224 rfl ?_
                    refine aw_iald (v := (g_28 (n16 - 1))) dX12_reckonsTo_225 e_28 (by omega) (vp_in_nI (n := (n16 - 1)) (by omega) (by omega)) (congrArg g_28 (nI_clamp (n := (n16 - 1)) (by omega))) ?_
                    refine aw_callSi (J' := jX12_reckon) (As := [.int (nI op), .int (g_28 ((n16 - 1) - 1)), .int (g_28 (n16 - 1))]) (st := [.int (nI ((n16 - 1) - 1)), .ref (b + 122)]) dX12_reckonsTo_226 tb_1407 ok_X12_reckon rfl (r_reckon l D b N V16 hN cl i16_0.1 (nI op) (g_28 ((n16 - 1) - 1)) (g_28 (n16 - 1)) (fun h => by rcases h with h | h <;> first | (have := (nI_eq (a := op) (b := 5) (by omega) (by decide)).mp h; omega) | (have := (nI_eq (a := op) (b := 6) (by omega) (by decide)).mp h; omega))) rfl (Nat.le_of_ble_eq_true rfl) ⟨Nat.le_of_ble_eq_true rfl, Nat.le_of_ble_eq_true rfl, Nat.le_of_ble_eq_true rfl, Nat.le_of_ble_eq_true rfl⟩ (fun r_30 N_31 V_32 q_33 => ?_)
                    obtain ⟨rfl, rfl⟩ := q_33
                    refine aw_iast dX12_reckonsTo_229 e_28 (by omega) (vp_in_nI (n := ((n16 - 1) - 1)) (by omega) (by omega)) ?_
                    refine aw_upR i16_0 cm_122 ⟨_, rfl⟩ (by decide) (WA LM0 (by decide) (by decide)) (fun V_34 j_34 k_34 e_34 => ?_)
                    refine aw_goto (tgt := 16) dX12_reckonsTo_230 (by decide) ?_
                    refine aw_le ?_ (mih_16_1 _ (by omega) (k16 + 1) (n16 - 1) V_34 rfl (j_34) (((k_34 _ (by decide)).trans i16_1)) (⟨by omega, by omega⟩) (by omega))
                    exact ⟨rfl, ⟨rfl, ⟨rfl, ⟨rfl, ⟨rfl, ⟨rfl, trivial⟩⟩⟩⟩⟩⟩
                  · skip
                    have nc_27 : op = 6 := (nI_eq (a := op) (b := 6) (by omega) (by omega)).mp c_27
                    refine aw_aload_n dX12_reckonsTo_192 rfl ?_
                    refine aw_get dX12_reckonsTo_193 fl_X12_74 e_5 (by omega) rfl ?_
                    refine aw_iload_n dX12_reckonsTo_196 rfl ?_
                    obtain ⟨g_35, e_35⟩ := JR.get i16_0 cm_122
                    refine aw_iald (v := (g_35 (n16 - 1))) dX12_reckonsTo_197 e_35 (by omega) (vp_in_nI (n := (n16 - 1)) (by omega) (by omega)) (congrArg g_35 (nI_clamp (n := (n16 - 1)) (by omega))) ?_
                    refine aw_if_ne (tgt := 203) dX12_reckonsTo_198 (by decide) (fun c_36 => ?_) (fun c_36 => ?_)
                    · skip
                      refine aw_aload_n dX12_reckonsTo_203 rfl ?_
                      refine aw_get dX12_reckonsTo_204 fl_X12_74 e_5 (by omega) rfl ?_
                      refine aw_iload_n dX12_reckonsTo_207 rfl ?_
                      refine aw_iconst (v := 1) dX12_reckonsTo_208 (by decide) ?_
                      refine aw_isub dX12_reckonsTo_209 ?_
                      refine aw_eqi (y := (nI ((n16 - 1) - 1))) (pk_sub (a := (n16 - 1)) (b := 1) (by omega)) ?_
                      refine aw_iload dX12_reckonsTo_210 rfl ?_
                      refine aw_aload_n dX12_reckonsTo_212 rfl ?_
                      refine aw_get dX12_reckonsTo_213 fl_X12_74 e_5 (by omega) rfl ?_
                      refine aw_iload_n dX12_reckonsTo_216 rfl ?_
                      refine aw_iconst (v := 1) dX12_reckonsTo_217 (by decide) ?_
                      refine aw_isub dX12_reckonsTo_218 ?_
                      refine aw_eqi (y := (nI ((n16 - 1) - 1))) (pk_sub (a := (n16 - 1)) (b := 1) (by omega)) ?_
                      refine aw_iald (v := (g_35 ((n16 - 1) - 1))) dX12_reckonsTo_219 e_35 (by omega) (vp_in_nI (n := ((n16 - 1) - 1)) (by omega) (by omega)) (congrArg g_35 (nI_clamp (n := ((n16 - 1) - 1)) (by omega))) ?_
                      refine aw_aload_n dX12_reckonsTo_220 rfl ?_
                      refine aw_get dX12_reckonsTo_221 fl_X12_74 e_5 (by omega) rfl ?_
                      refine aw_iload_n dX12_reckonsTo_224 rfl ?_
                      refine aw_iald (v := (g_35 (n16 - 1))) dX12_reckonsTo_225 e_35 (by omega) (vp_in_nI (n := (n16 - 1)) (by omega) (by omega)) (congrArg g_35 (nI_clamp (n := (n16 - 1)) (by omega))) ?_
                      refine aw_callSi (J' := jX12_reckon) (As := [.int (nI op), .int (g_35 ((n16 - 1) - 1)), .int (g_35 (n16 - 1))]) (st := [.int (nI ((n16 - 1) - 1)), .ref (b + 122)]) dX12_reckonsTo_226 tb_1407 ok_X12_reckon rfl (r_reckon l D b N V16 hN cl i16_0.1 (nI op) (g_35 ((n16 - 1) - 1)) (g_35 (n16 - 1)) (fun h => by rcases h with h | h <;> first | exact c_36 | (have := (nI_eq (a := op) (b := 5) (by omega) (by decide)).mp h; omega) | (have := (nI_eq (a := op) (b := 6) (by omega) (by decide)).mp h; omega))) rfl (Nat.le_of_ble_eq_true rfl) ⟨Nat.le_of_ble_eq_true rfl, Nat.le_of_ble_eq_true rfl, Nat.le_of_ble_eq_true rfl, Nat.le_of_ble_eq_true rfl⟩ (fun r_38 N_39 V_40 q_41 => ?_)
                      obtain ⟨rfl, rfl⟩ := q_41
                      refine aw_iast dX12_reckonsTo_229 e_35 (by omega) (vp_in_nI (n := ((n16 - 1) - 1)) (by omega) (by omega)) ?_
                      refine aw_upR i16_0 cm_122 ⟨_, rfl⟩ (by decide) (WA LM0 (by decide) (by decide)) (fun V_42 j_42 k_42 e_42 => ?_)
                      refine aw_goto (tgt := 16) dX12_reckonsTo_230 (by decide) ?_
                      refine aw_le ?_ (mih_16_1 _ (by omega) (k16 + 1) (n16 - 1) V_42 rfl (j_42) (((k_42 _ (by decide)).trans i16_1)) (⟨by omega, by omega⟩) (by omega))
                      exact ⟨rfl, ⟨rfl, ⟨rfl, ⟨rfl, ⟨rfl, ⟨rfl, trivial⟩⟩⟩⟩⟩⟩
                    · skip
                      refine aw_iconst (v := 0) dX12_reckonsTo_201 (by decide) ?_
                      refine aw_ireti dX12_reckonsTo_202 rfl (Nat.le_of_ble_eq_true rfl) (Nat.le_of_ble_eq_true rfl) ?_
                      exact ⟨rfl, i16_0⟩
              · skip
                have nc_17 : op = 12 := (nI_eq (a := op) (b := 12) (by omega) (by omega)).mp c_17
                refine aw_aload_n dX12_reckonsTo_135 rfl ?_
                refine aw_get dX12_reckonsTo_136 fl_X12_74 e_5 (by omega) rfl ?_
                refine aw_iload_n dX12_reckonsTo_139 rfl ?_
                refine aw_iconst (v := 1) dX12_reckonsTo_140 (by decide) ?_
                refine aw_isub dX12_reckonsTo_141 ?_
                refine aw_eqi (y := (nI (n16 - 1))) (pk_sub (a := n16) (b := 1) (by omega)) ?_
                obtain ⟨g_43, e_43⟩ := JR.get i16_0 cm_122
                refine aw_iald (v := (g_43 (n16 - 1))) dX12_reckonsTo_142 e_43 (by omega) (vp_in_nI (n := (n16 - 1)) (by omega) (by omega)) (congrArg g_43 (nI_clamp (n := (n16 - 1)) (by omega))) ?_
                refine aw_iload dX12_reckonsTo_143 rfl ?_
                refine aw_bipush (v := 12) dX12_reckonsTo_145 (by decide) ?_
                refine aw_icmp_ne (tgt := 154) dX12_reckonsTo_147 (by decide) (fun c_44 => ?_) (fun c_44 => ?_)
                · first | exact absurd c_44 c_17 | exact absurd c_17 c_44 | exact absurd c_44 (Int32.not_lt.mpr c_17) | exact absurd c_17 (Int32.not_lt.mpr c_44) | exact c_17 (Int32.not_lt.mp c_44) | exact c_17 (Int32.not_le.mp c_44)
                have nc_44 : op = 12 := (nI_eq (a := op) (b := 12) (by omega) (by omega)).mp c_44
                refine aw_iconst (v := 1) dX12_reckonsTo_150 (by decide) ?_
                refine aw_goto (tgt := 155) dX12_reckonsTo_151 (by decide) ?_
                refine aw_icmp_ne (tgt := 168) dX12_reckonsTo_155 (by decide) (fun c_45 => ?_) (fun c_45 => ?_)
                · skip
                  refine aw_iload_n dX12_reckonsTo_168 rfl ?_
                  refine aw_iconst (v := 1) dX12_reckonsTo_169 (by decide) ?_
                  refine aw_isub dX12_reckonsTo_170 ?_
                  refine aw_eqi (y := (nI (n16 - 1))) (pk_sub (a := n16) (b := 1) (by omega)) ?_
                  refine aw_istore_n (ls' := [some (.ref (b + 100)), some (.int (nI f)), some (.int (nI t)), some (.int (nI (n16 - 1))), some (.int 0), some (.int (nI (k16 + 1))), some (.int (nI op)), some (.int (nI v))]) dX12_reckonsTo_171 (Nat.le_of_ble_eq_true rfl) rfl ?_
                  refine aw_goto (tgt := 230) dX12_reckonsTo_172 (by decide) ?_
                  refine aw_goto (tgt := 16) dX12_reckonsTo_230 (by decide) ?_
                  refine aw_le ?_ (mih_16_1 _ (by omega) (k16 + 1) (n16 - 1) V16 rfl (i16_0) (i16_1) (⟨by omega, by omega⟩) (by omega))
                  exact ⟨rfl, ⟨rfl, ⟨rfl, ⟨rfl, ⟨rfl, ⟨rfl, trivial⟩⟩⟩⟩⟩⟩
                · skip
                  refine aw_iload dX12_reckonsTo_158 rfl ?_
                  refine aw_iload dX12_reckonsTo_160 rfl ?_
                  refine aw_iadd dX12_reckonsTo_162 ?_
                  refine aw_eqi (y := (nI v)) (Int32.zero_add _) ?_
                  refine aw_istore (ls' := [some (.ref (b + 100)), some (.int (nI f)), some (.int (nI t)), some (.int (nI n16)), some (.int 0), some (.int (nI v)), some (.int (nI op)), some (.int (nI v))]) dX12_reckonsTo_163 (Nat.le_of_ble_eq_true rfl) rfl ?_
                  refine aw_goto (tgt := 230) dX12_reckonsTo_165 (by decide) ?_
                  refine aw_goto (tgt := 16) dX12_reckonsTo_230 (by decide) ?_
                  refine aw_le ?_ (mih_16_1 _ (by omega) v n16 V16 rfl (i16_0) (i16_1) (⟨by omega, by omega⟩) (by omega))
                  exact ⟨rfl, ⟨rfl, ⟨rfl, ⟨rfl, ⟨rfl, ⟨rfl, trivial⟩⟩⟩⟩⟩⟩
          · skip
            have nc_11 : op = 10 := (nI_eq (a := op) (b := 10) (by omega) (by omega)).mp c_11
            refine aw_aload_n dX12_reckonsTo_100 rfl ?_
            refine aw_get dX12_reckonsTo_101 fl_X12_74 e_5 (by omega) rfl ?_
            refine aw_iload_n dX12_reckonsTo_104 rfl ?_
            refine aw_iconst (v := 1) dX12_reckonsTo_105 (by decide) ?_
            refine aw_isub dX12_reckonsTo_106 ?_
            refine aw_eqi (y := (nI (n16 - 1))) (pk_sub (a := n16) (b := 1) (by omega)) ?_
            refine aw_iconst (v := 1) dX12_reckonsTo_107 (by decide) ?_
            refine aw_aload_n dX12_reckonsTo_108 rfl ?_
            refine aw_get dX12_reckonsTo_109 fl_X12_74 e_5 (by omega) rfl ?_
            refine aw_iload_n dX12_reckonsTo_112 rfl ?_
            refine aw_iconst (v := 1) dX12_reckonsTo_113 (by decide) ?_
            refine aw_isub dX12_reckonsTo_114 ?_
            refine aw_eqi (y := (nI (n16 - 1))) (pk_sub (a := n16) (b := 1) (by omega)) ?_
            obtain ⟨g_46, e_46⟩ := JR.get i16_0 cm_122
            refine aw_iald (v := (g_46 (n16 - 1))) dX12_reckonsTo_115 e_46 (by omega) (vp_in_nI (n := (n16 - 1)) (by omega) (by omega)) (congrArg g_46 (nI_clamp (n := (n16 - 1)) (by omega))) ?_
            refine aw_isub dX12_reckonsTo_116 ?_
            refine aw_iast dX12_reckonsTo_117 e_46 (by omega) (vp_in_nI (n := (n16 - 1)) (by omega) (by omega)) ?_
            refine aw_upR i16_0 cm_122 ⟨_, rfl⟩ (by decide) (WA LM0 (by decide) (by decide)) (fun V_47 j_47 k_47 e_47 => ?_)
            refine aw_goto (tgt := 230) dX12_reckonsTo_118 (by decide) ?_
            refine aw_goto (tgt := 16) dX12_reckonsTo_230 (by decide) ?_
            refine aw_le ?_ (mih_16_1 _ (by omega) (k16 + 1) n16 V_47 rfl (j_47) (((k_47 _ (by decide)).trans i16_1)) (⟨by omega, by omega⟩) (by omega))
            exact ⟨rfl, ⟨rfl, ⟨rfl, ⟨rfl, ⟨rfl, ⟨rfl, trivial⟩⟩⟩⟩⟩⟩
        · skip
          have nc_10 : op = 1 := (nI_eq (a := op) (b := 1) (by omega) (by omega)).mp c_10
          refine aw_aload_n dX12_reckonsTo_63 rfl ?_
          refine aw_get dX12_reckonsTo_64 fl_X12_74 e_5 (by omega) rfl ?_
          refine aw_iload_n dX12_reckonsTo_67 rfl ?_
          refine aw_iload dX12_reckonsTo_68 rfl ?_
          refine aw_if_ne (tgt := 78) dX12_reckonsTo_70 (by decide) (fun c_48 => ?_) (fun c_48 => ?_)
          rotate_left
          · first | exact absurd c_6 c_48 | exact absurd c_48 c_6
          have nc_48 : ¬ (op = 0) := fun z => c_48 ((nI_eq (a := op) (b := 0) (by omega) (by omega)).mpr z)
          refine aw_aload_n dX12_reckonsTo_78 rfl ?_
          refine aw_get dX12_reckonsTo_79 fl_X12_77 e_5 (by omega) rfl ?_
          refine aw_iload dX12_reckonsTo_82 rfl ?_
          obtain ⟨g_49, e_49⟩ := JR.get i16_0 cm_123
          refine aw_iald (v := (g_49 v)) dX12_reckonsTo_84 e_49 (by omega) (vp_in_nI (n := v) (by omega) (by omega)) (congrArg g_49 (nI_clamp (n := v) (by omega))) ?_
          obtain ⟨g_50, e_50⟩ := JR.get i16_0 cm_122
          refine aw_iast dX12_reckonsTo_85 e_50 (by omega) (vp_in_nI (n := n16) (by omega) (by omega)) ?_
          refine aw_upR i16_0 cm_122 ⟨_, rfl⟩ (by decide) (WA LM0 (by decide) (by decide)) (fun V_51 j_51 k_51 e_51 => ?_)
          refine aw_iload_n dX12_reckonsTo_86 rfl ?_
          refine aw_iconst (v := 1) dX12_reckonsTo_87 (by decide) ?_
          refine aw_iadd dX12_reckonsTo_88 ?_
          refine aw_eqi (y := nI (n16 + 1)) (nI_add _ _) ?_
          refine aw_istore_n (ls' := [some (.ref (b + 100)), some (.int (nI f)), some (.int (nI t)), some (.int (nI (n16 + 1))), some (.int 0), some (.int (nI (k16 + 1))), some (.int (nI op)), some (.int (nI v))]) dX12_reckonsTo_89 (Nat.le_of_ble_eq_true rfl) rfl ?_
          refine aw_goto (tgt := 230) dX12_reckonsTo_90 (by decide) ?_
          refine aw_goto (tgt := 16) dX12_reckonsTo_230 (by decide) ?_
          refine aw_le ?_ (mih_16_1 _ (by omega) (k16 + 1) (n16 + 1) V_51 rfl (j_51) (((k_51 _ (by decide)).trans i16_1)) (⟨by omega, by omega⟩) (by omega))
          exact ⟨rfl, ⟨rfl, ⟨rfl, ⟨rfl, ⟨rfl, ⟨rfl, trivial⟩⟩⟩⟩⟩⟩
  refine aw_le ?_ (ml_16_1 _ f 0 V rfl (hJ0) (hcd) (⟨by omega, by omega⟩) (hd0.symm))
  exact ⟨rfl, ⟨rfl, ⟨rfl, ⟨rfl, ⟨rfl, ⟨rfl, trivial⟩⟩⟩⟩⟩⟩

set_option maxHeartbeats 4000000 in
set_option maxRecDepth 100000 in
theorem r_byLaw (l : Launch) (D : va_G) (b : Nat) (N : Nat) (V : Wd) (hN : 133 ≤ N) (cl : Nat) (hW : CR D b cl V) (n0 : Int32) (n1 : Int32) (hwf : WF D cl V) : MI l D b 2 jX12_byLaw [.ref (b + 100), .int n0, .int n1] N V 0 0 (fun r N9 V9 => N = N9 ∧ JR D b N cl [(122, 122, 0, 1000000)] V V9) := by
  have hJ0 : JR D b N cl [(122, 122, 0, 1000000)] V V := JR.rf hW
  have hcl16 : cl ≤ 16 := by obtain ⟨_, _, _, _, _, _, _, _, h, _⟩ := hwf; exact h
  refine mw_of (by decide) (by simp [Value.category]) (Nat.le_of_ble_eq_true rfl) ?_
  show AW l D b jX12_byLaw (fx_rm 2 0 0) none (fx_MQ D b 0 0 (fx_qi (fun r N9 V9 => N = N9 ∧ JR D b N cl [(122, 122, 0, 1000000)] V V9))) 0 [some (.ref (b + 100)), some (.int n0), some (.int n1), none, none] [] N V 0 0
  refine aw_iconst (v := 0) dX12_byLaw_0 (by decide) ?_
  refine aw_istore_n (ls' := [some (.ref (b + 100)), some (.int n0), some (.int n1), some (.int 0), none]) dX12_byLaw_1 (Nat.le_of_ble_eq_true rfl) rfl ?_
  obtain ⟨ftoldPeople_1, ftoldDoors_1, fwasDoors_1, ffault_1, fopen_1, flines_1, fmeantSet_1, fopenedNow_1, fvainNow_1, flowNow_1, fhighNow_1, fisKept_1, tad_1, pl0_1, le0_1, nu0_1, coy_1, wag_1, say_1, e_1, hntad_1, hnpl0_1, hnle0_1, hnnu0_1, hncoy_1, hnwag_1, hnsay_1⟩ := JR.get hJ0 cm_100
  have loop_2_1 : ∀ (g_2 : Nat), ∀ (j2 : Nat)  (V2 : Wd), j2 + g_2 = cl → (JR D b N cl [(122, 122, 0, 1000000)] V V2) → AW l D b jX12_byLaw (fx_rm 2 0 0) none (fx_MQ D b 0 0 (fx_qi (fun r N9 V9 => N = N9 ∧ JR D b N cl [(122, 122, 0, 1000000)] V V9))) 2 [some (.ref (b + 100)), some (.int n0), some (.int n1), some (.int (nI j2)), none] [] N V2 0 0 := by
    intro g_2
    induction g_2 with
    | zero =>
      intro j2  V2 hj2 i2_0
      obtain rfl : cl = j2 := by omega
      refine aw_iload_n dX12_byLaw_2 rfl ?_
      refine aw_aload_n dX12_byLaw_3 rfl ?_
      obtain ⟨ftoldPeople_4, ftoldDoors_4, fwasDoors_4, ffault_4, fopen_4, flines_4, fmeantSet_4, fopenedNow_4, fvainNow_4, flowNow_4, fhighNow_4, fisKept_4, tad_4, pl0_4, le0_4, nu0_4, coy_4, wag_4, say_4, e_4, hntad_4, hnpl0_4, hnle0_4, hnnu0_4, hncoy_4, hnwag_4, hnsay_4⟩ := JR.get i2_0 cm_100
      refine aw_get dX12_byLaw_4 fl_X12_251 e_4 (by omega) rfl ?_
      refine aw_icmp_ge (tgt := 89) dX12_byLaw_7 (by decide) (fun c_5 => ?_) (fun c_5 => ?_)
      rotate_left
      · exact absurd (nI_le (a := cl) (b := cl) (Nat.le_refl _) (by omega)) c_5
      refine aw_iconst (v := 0) dX12_byLaw_89 (by decide) ?_
      refine aw_ireti dX12_byLaw_90 rfl (Nat.le_of_ble_eq_true rfl) (Nat.le_of_ble_eq_true rfl) ?_
      exact ⟨rfl, i2_0⟩
    | succ g_2 ih_2_2 =>
      intro j2  V2 hj2 i2_0
      have hlj2 : j2 < cl := by omega
      refine aw_iload_n dX12_byLaw_2 rfl ?_
      refine aw_aload_n dX12_byLaw_3 rfl ?_
      obtain ⟨ftoldPeople_6, ftoldDoors_6, fwasDoors_6, ffault_6, fopen_6, flines_6, fmeantSet_6, fopenedNow_6, fvainNow_6, flowNow_6, fhighNow_6, fisKept_6, tad_6, pl0_6, le0_6, nu0_6, coy_6, wag_6, say_6, e_6, hntad_6, hnpl0_6, hnle0_6, hnnu0_6, hncoy_6, hnwag_6, hnsay_6⟩ := JR.get i2_0 cm_100
      refine aw_get dX12_byLaw_4 fl_X12_251 e_6 (by omega) rfl ?_
      refine aw_icmp_ge (tgt := 89) dX12_byLaw_7 (by decide) (fun c_7 => ?_) (fun c_7 => ?_)
      · exact absurd c_7 (nI_ge (a := j2) (b := cl) (by omega) (by omega))
      refine aw_aload_n dX12_byLaw_10 rfl ?_
      refine aw_get dX12_byLaw_11 fl_X12_62 e_6 (by omega) rfl ?_
      refine aw_iload_n dX12_byLaw_14 rfl ?_
      obtain ⟨g_8, e_8⟩ := JR.get i2_0 cm_118
      refine aw_iald (v := (g_8 j2)) dX12_byLaw_15 e_8 (by omega) (vp_in_nI (n := j2) (by omega) (by omega)) (congrArg g_8 (nI_clamp (n := j2) (by omega))) ?_
      refine aw_iload_n dX12_byLaw_16 rfl ?_
      refine aw_icmp_ne (tgt := 83) dX12_byLaw_17 (by decide) (fun c_9 => ?_) (fun c_9 => ?_)
      · skip
        refine aw_iinc (v := (nI (j2 + 1))) (ls' := [some (.ref (b + 100)), some (.int n0), some (.int n1), some (.int (nI (j2 + 1))), none]) dX12_byLaw_83 rfl (fx_up_1 _) (Nat.le_of_ble_eq_true rfl) rfl ?_
        refine aw_goto (tgt := 2) dX12_byLaw_86 (by decide) ?_
        refine aw_le ?_ (ih_2_2 (j2 + 1)  V2 (by omega) (i2_0))
        exact ⟨rfl, ⟨rfl, ⟨rfl, ⟨rfl, trivial⟩⟩⟩⟩
      · skip
        obtain ⟨cd_10, fr_10, hf_10, to_10, ea_10, eb_10, ec_10, ed_10, hcl_10, hq_10⟩ := WF.fr hwf i2_0.2.2.1
        obtain ⟨f_10, h_10, t_10, xf_10, xh_10, xt_10, l1_10, l2_10, l3_10, sa_10, sb_10⟩ := hq_10 j2 (by omega)
        refine aw_aload_n dX12_byLaw_20 rfl ?_
        refine aw_aload_n dX12_byLaw_21 rfl ?_
        refine aw_get dX12_byLaw_22 fl_X12_68 e_6 (by omega) rfl ?_
        refine aw_iload_n dX12_byLaw_25 rfl ?_
        refine aw_iald (v := (hf_10 j2)) dX12_byLaw_26 ec_10 (by omega) (vp_in_nI (n := j2) (by omega) (by omega)) (congrArg hf_10 (nI_clamp (n := j2) (by omega))) ?_
        refine aw_eqi xh_10 ?_
        refine aw_aload_n dX12_byLaw_27 rfl ?_
        refine aw_get dX12_byLaw_28 fl_X12_71 e_6 (by omega) rfl ?_
        refine aw_iload_n dX12_byLaw_31 rfl ?_
        refine aw_iald (v := (to_10 j2)) dX12_byLaw_32 ed_10 (by omega) (vp_in_nI (n := j2) (by omega) (by omega)) (congrArg to_10 (nI_clamp (n := j2) (by omega))) ?_
        refine aw_eqi xt_10 ?_
        refine aw_callVi (J' := jX12_reckonsTo) (As := [.int (nI h_10), .int (nI t_10)]) (st := []) dX12_byLaw_33 tb_1403 ok_X12_reckonsTo ⟨_, e_6⟩ (by omega) rfl rfl (r_reckonsTo l D b N V2 hN cl i2_0.1 (nI h_10) (nI t_10) h_10 t_10 (by omega) (by omega) (by omega) cd_10 ea_10 sb_10) rfl (Nat.le_of_ble_eq_true rfl) ⟨Nat.le_of_ble_eq_true rfl, Nat.le_of_ble_eq_true rfl, Nat.le_of_ble_eq_true rfl, Nat.le_of_ble_eq_true rfl⟩ (fun r_14 N_15 V_13 q_16 => ?_)
        obtain ⟨rfl, q_11⟩ := q_16
        have j_12 := JR.trans i2_0 (JR.weak q_11 (Sub.cons LM0 (by decide) (by decide) (by decide) (Or.inl rfl) Sub.nil))
        refine aw_iconst (v := 1) dX12_byLaw_36 (by decide) ?_
        refine aw_icmp_eq (tgt := 43) dX12_byLaw_37 (by decide) (fun c_17 => ?_) (fun c_17 => ?_)
        · skip
          obtain ⟨cd_18, fr_18, hf_18, to_18, ea_18, eb_18, ec_18, ed_18, hcl_18, hq_18⟩ := WF.fr hwf j_12.2.2.1
          obtain ⟨f_18, h_18, t_18, xf_18, xh_18, xt_18, l1_18, l2_18, l3_18, sa_18, sb_18⟩ := hq_18 j2 (by omega)
          refine aw_aload_n dX12_byLaw_43 rfl ?_
          refine aw_aload_n dX12_byLaw_44 rfl ?_
          obtain ⟨ftoldPeople_19, ftoldDoors_19, fwasDoors_19, ffault_19, fopen_19, flines_19, fmeantSet_19, fopenedNow_19, fvainNow_19, flowNow_19, fhighNow_19, fisKept_19, tad_19, pl0_19, le0_19, nu0_19, coy_19, wag_19, say_19, e_19, hntad_19, hnpl0_19, hnle0_19, hnnu0_19, hncoy_19, hnwag_19, hnsay_19⟩ := JR.get j_12 cm_100
          refine aw_get dX12_byLaw_45 fl_X12_65 e_19 (by omega) rfl ?_
          refine aw_iload_n dX12_byLaw_48 rfl ?_
          refine aw_iald (v := (fr_18 j2)) dX12_byLaw_49 eb_18 (by omega) (vp_in_nI (n := j2) (by omega) (by omega)) (congrArg fr_18 (nI_clamp (n := j2) (by omega))) ?_
          refine aw_eqi xf_18 ?_
          refine aw_aload_n dX12_byLaw_50 rfl ?_
          refine aw_get dX12_byLaw_51 fl_X12_68 e_19 (by omega) rfl ?_
          refine aw_iload_n dX12_byLaw_54 rfl ?_
          refine aw_iald (v := (hf_18 j2)) dX12_byLaw_55 ec_18 (by omega) (vp_in_nI (n := j2) (by omega) (by omega)) (congrArg hf_18 (nI_clamp (n := j2) (by omega))) ?_
          refine aw_eqi xh_18 ?_
          refine aw_callVi (J' := jX12_reckonsTo) (As := [.int (nI f_18), .int (nI h_18)]) (st := []) dX12_byLaw_56 tb_1403 ok_X12_reckonsTo ⟨_, e_19⟩ (by omega) rfl rfl (r_reckonsTo l D b N V_13 hN cl j_12.1 (nI f_18) (nI h_18) f_18 h_18 (by omega) (by omega) (by omega) cd_18 ea_18 sa_18) rfl (Nat.le_of_ble_eq_true rfl) ⟨Nat.le_of_ble_eq_true rfl, Nat.le_of_ble_eq_true rfl, Nat.le_of_ble_eq_true rfl, Nat.le_of_ble_eq_true rfl⟩ (fun r_23 N_24 V_22 q_25 => ?_)
          obtain ⟨rfl, q_20⟩ := q_25
          have j_21 := JR.trans j_12 (JR.weak q_20 (Sub.cons LM0 (by decide) (by decide) (by decide) (Or.inl rfl) Sub.nil))
          refine aw_istore (ls' := [some (.ref (b + 100)), some (.int n0), some (.int n1), some (.int (nI j2)), some (.int r_23)]) dX12_byLaw_59 (Nat.le_of_ble_eq_true rfl) rfl ?_
          refine aw_iload dX12_byLaw_61 rfl ?_
          refine aw_if_ge (tgt := 70) dX12_byLaw_63 (by decide) (fun c_26 => ?_) (fun c_26 => ?_)
          · skip
            refine aw_iload dX12_byLaw_70 rfl ?_
            refine aw_iload_n dX12_byLaw_72 rfl ?_
            refine aw_icmp_le (tgt := 80) dX12_byLaw_73 (by decide) (fun c_27 => ?_) (fun c_27 => ?_)
            · skip
              refine aw_iload dX12_byLaw_80 rfl ?_
              refine aw_ireti dX12_byLaw_82 rfl (Nat.le_of_ble_eq_true rfl) (Nat.le_of_ble_eq_true rfl) ?_
              exact ⟨rfl, j_21⟩
            · skip
              refine aw_iload_n dX12_byLaw_76 rfl ?_
              refine aw_goto (tgt := 82) dX12_byLaw_77 (by decide) ?_
              refine aw_ireti dX12_byLaw_82 rfl (Nat.le_of_ble_eq_true rfl) (Nat.le_of_ble_eq_true rfl) ?_
              exact ⟨rfl, j_21⟩
          · skip
            refine aw_iconst (v := 0) dX12_byLaw_66 (by decide) ?_
            refine aw_goto (tgt := 82) dX12_byLaw_67 (by decide) ?_
            refine aw_ireti dX12_byLaw_82 rfl (Nat.le_of_ble_eq_true rfl) (Nat.le_of_ble_eq_true rfl) ?_
            exact ⟨rfl, j_21⟩
        · skip
          refine aw_goto (tgt := 83) dX12_byLaw_40 (by decide) ?_
          refine aw_iinc (v := (nI (j2 + 1))) (ls' := [some (.ref (b + 100)), some (.int n0), some (.int n1), some (.int (nI (j2 + 1))), none]) dX12_byLaw_83 rfl (fx_up_1 _) (Nat.le_of_ble_eq_true rfl) rfl ?_
          refine aw_goto (tgt := 2) dX12_byLaw_86 (by decide) ?_
          refine aw_le ?_ (ih_2_2 (j2 + 1)  V_13 (by omega) (j_12))
          exact ⟨rfl, ⟨rfl, ⟨rfl, ⟨rfl, trivial⟩⟩⟩⟩
  refine aw_le ?_ (loop_2_1 cl 0  V (by omega) (hJ0))
  exact ⟨rfl, ⟨rfl, ⟨rfl, ⟨rfl, trivial⟩⟩⟩⟩

set_option maxHeartbeats 4000000 in
set_option maxRecDepth 100000 in
theorem r_holdsAny (l : Launch) (D : va_G) (b : Nat) (N : Nat) (V : Wd) (hN : 133 ≤ N) (cl : Nat) (hW : CR D b cl V) (n0 : Int32) (hwf : WF D cl V) : MI l D b 2 jX12_holdsAny [.ref (b + 100), .int n0] N V 0 0 (fun r N9 V9 => (r = 0 ∨ r = 1) ∧ N = N9 ∧ JR D b N cl [(122, 122, 0, 1000000)] V V9) := by
  have hJ0 : JR D b N cl [(122, 122, 0, 1000000)] V V := JR.rf hW
  have hcl16 : cl ≤ 16 := by obtain ⟨_, _, _, _, _, _, _, _, h, _⟩ := hwf; exact h
  refine mw_of (by decide) (by simp [Value.category]) (Nat.le_of_ble_eq_true rfl) ?_
  show AW l D b jX12_holdsAny (fx_rm 2 0 0) none (fx_MQ D b 0 0 (fx_qi (fun r N9 V9 => (r = 0 ∨ r = 1) ∧ N = N9 ∧ JR D b N cl [(122, 122, 0, 1000000)] V V9))) 0 [some (.ref (b + 100)), some (.int n0), none] [] N V 0 0
  refine aw_iconst (v := 0) dX12_holdsAny_0 (by decide) ?_
  refine aw_istore_n (ls' := [some (.ref (b + 100)), some (.int n0), some (.int 0)]) dX12_holdsAny_1 (Nat.le_of_ble_eq_true rfl) rfl ?_
  obtain ⟨ftoldPeople_1, ftoldDoors_1, fwasDoors_1, ffault_1, fopen_1, flines_1, fmeantSet_1, fopenedNow_1, fvainNow_1, flowNow_1, fhighNow_1, fisKept_1, tad_1, pl0_1, le0_1, nu0_1, coy_1, wag_1, say_1, e_1, hntad_1, hnpl0_1, hnle0_1, hnnu0_1, hncoy_1, hnwag_1, hnsay_1⟩ := JR.get hJ0 cm_100
  have loop_2_1 : ∀ (g_2 : Nat), ∀ (j2 : Nat)  (V2 : Wd), j2 + g_2 = cl → (JR D b N cl [(122, 122, 0, 1000000)] V V2) → AW l D b jX12_holdsAny (fx_rm 2 0 0) none (fx_MQ D b 0 0 (fx_qi (fun r N9 V9 => (r = 0 ∨ r = 1) ∧ N = N9 ∧ JR D b N cl [(122, 122, 0, 1000000)] V V9))) 2 [some (.ref (b + 100)), some (.int n0), some (.int (nI j2))] [] N V2 0 0 := by
    intro g_2
    induction g_2 with
    | zero =>
      intro j2  V2 hj2 i2_0
      obtain rfl : cl = j2 := by omega
      refine aw_iload_n dX12_holdsAny_2 rfl ?_
      refine aw_aload_n dX12_holdsAny_3 rfl ?_
      obtain ⟨ftoldPeople_4, ftoldDoors_4, fwasDoors_4, ffault_4, fopen_4, flines_4, fmeantSet_4, fopenedNow_4, fvainNow_4, flowNow_4, fhighNow_4, fisKept_4, tad_4, pl0_4, le0_4, nu0_4, coy_4, wag_4, say_4, e_4, hntad_4, hnpl0_4, hnle0_4, hnnu0_4, hncoy_4, hnwag_4, hnsay_4⟩ := JR.get i2_0 cm_100
      refine aw_get dX12_holdsAny_4 fl_X12_251 e_4 (by omega) rfl ?_
      refine aw_icmp_ge (tgt := 48) dX12_holdsAny_7 (by decide) (fun c_5 => ?_) (fun c_5 => ?_)
      rotate_left
      · exact absurd (nI_le (a := cl) (b := cl) (Nat.le_refl _) (by omega)) c_5
      refine aw_iconst (v := 0) dX12_holdsAny_48 (by decide) ?_
      refine aw_zreti dX12_holdsAny_49 rfl (by first | exact Or.inl rfl | exact Or.inr rfl | assumption) (Nat.le_of_ble_eq_true rfl) (Nat.le_of_ble_eq_true rfl) ?_
      exact ⟨(by first | exact Or.inl rfl | exact Or.inr rfl | assumption), rfl, i2_0⟩
    | succ g_2 ih_2_2 =>
      intro j2  V2 hj2 i2_0
      have hlj2 : j2 < cl := by omega
      refine aw_iload_n dX12_holdsAny_2 rfl ?_
      refine aw_aload_n dX12_holdsAny_3 rfl ?_
      obtain ⟨ftoldPeople_6, ftoldDoors_6, fwasDoors_6, ffault_6, fopen_6, flines_6, fmeantSet_6, fopenedNow_6, fvainNow_6, flowNow_6, fhighNow_6, fisKept_6, tad_6, pl0_6, le0_6, nu0_6, coy_6, wag_6, say_6, e_6, hntad_6, hnpl0_6, hnle0_6, hnnu0_6, hncoy_6, hnwag_6, hnsay_6⟩ := JR.get i2_0 cm_100
      refine aw_get dX12_holdsAny_4 fl_X12_251 e_6 (by omega) rfl ?_
      refine aw_icmp_ge (tgt := 48) dX12_holdsAny_7 (by decide) (fun c_7 => ?_) (fun c_7 => ?_)
      · exact absurd c_7 (nI_ge (a := j2) (b := cl) (by omega) (by omega))
      refine aw_aload_n dX12_holdsAny_10 rfl ?_
      refine aw_get dX12_holdsAny_11 fl_X12_62 e_6 (by omega) rfl ?_
      refine aw_iload_n dX12_holdsAny_14 rfl ?_
      obtain ⟨g_8, e_8⟩ := JR.get i2_0 cm_118
      refine aw_iald (v := (g_8 j2)) dX12_holdsAny_15 e_8 (by omega) (vp_in_nI (n := j2) (by omega) (by omega)) (congrArg g_8 (nI_clamp (n := j2) (by omega))) ?_
      refine aw_iload_n dX12_holdsAny_16 rfl ?_
      refine aw_icmp_ne (tgt := 42) dX12_holdsAny_17 (by decide) (fun c_9 => ?_) (fun c_9 => ?_)
      · skip
        refine aw_iinc (v := (nI (j2 + 1))) (ls' := [some (.ref (b + 100)), some (.int n0), some (.int (nI (j2 + 1)))]) dX12_holdsAny_42 rfl (fx_up_1 _) (Nat.le_of_ble_eq_true rfl) rfl ?_
        refine aw_goto (tgt := 2) dX12_holdsAny_45 (by decide) ?_
        refine aw_le ?_ (ih_2_2 (j2 + 1)  V2 (by omega) (i2_0))
        exact ⟨rfl, ⟨rfl, ⟨rfl, trivial⟩⟩⟩
      · skip
        obtain ⟨cd_10, fr_10, hf_10, to_10, ea_10, eb_10, ec_10, ed_10, hcl_10, hq_10⟩ := WF.fr hwf i2_0.2.2.1
        obtain ⟨f_10, h_10, t_10, xf_10, xh_10, xt_10, l1_10, l2_10, l3_10, sa_10, sb_10⟩ := hq_10 j2 (by omega)
        refine aw_aload_n dX12_holdsAny_20 rfl ?_
        refine aw_aload_n dX12_holdsAny_21 rfl ?_
        refine aw_get dX12_holdsAny_22 fl_X12_68 e_6 (by omega) rfl ?_
        refine aw_iload_n dX12_holdsAny_25 rfl ?_
        refine aw_iald (v := (hf_10 j2)) dX12_holdsAny_26 ec_10 (by omega) (vp_in_nI (n := j2) (by omega) (by omega)) (congrArg hf_10 (nI_clamp (n := j2) (by omega))) ?_
        refine aw_eqi xh_10 ?_
        refine aw_aload_n dX12_holdsAny_27 rfl ?_
        refine aw_get dX12_holdsAny_28 fl_X12_71 e_6 (by omega) rfl ?_
        refine aw_iload_n dX12_holdsAny_31 rfl ?_
        refine aw_iald (v := (to_10 j2)) dX12_holdsAny_32 ed_10 (by omega) (vp_in_nI (n := j2) (by omega) (by omega)) (congrArg to_10 (nI_clamp (n := j2) (by omega))) ?_
        refine aw_eqi xt_10 ?_
        refine aw_callVi (J' := jX12_reckonsTo) (As := [.int (nI h_10), .int (nI t_10)]) (st := []) dX12_holdsAny_33 tb_1403 ok_X12_reckonsTo ⟨_, e_6⟩ (by omega) rfl rfl (r_reckonsTo l D b N V2 hN cl i2_0.1 (nI h_10) (nI t_10) h_10 t_10 (by omega) (by omega) (by omega) cd_10 ea_10 sb_10) rfl (Nat.le_of_ble_eq_true rfl) ⟨Nat.le_of_ble_eq_true rfl, Nat.le_of_ble_eq_true rfl, Nat.le_of_ble_eq_true rfl, Nat.le_of_ble_eq_true rfl⟩ (fun r_14 N_15 V_13 q_16 => ?_)
        obtain ⟨rfl, q_11⟩ := q_16
        have j_12 := JR.trans i2_0 (JR.weak q_11 (Sub.cons LM0 (by decide) (by decide) (by decide) (Or.inl rfl) Sub.nil))
        refine aw_iconst (v := 1) dX12_holdsAny_36 (by decide) ?_
        refine aw_icmp_ne (tgt := 42) dX12_holdsAny_37 (by decide) (fun c_17 => ?_) (fun c_17 => ?_)
        · skip
          refine aw_iinc (v := (nI (j2 + 1))) (ls' := [some (.ref (b + 100)), some (.int n0), some (.int (nI (j2 + 1)))]) dX12_holdsAny_42 rfl (fx_up_1 _) (Nat.le_of_ble_eq_true rfl) rfl ?_
          refine aw_goto (tgt := 2) dX12_holdsAny_45 (by decide) ?_
          refine aw_le ?_ (ih_2_2 (j2 + 1)  V_13 (by omega) (j_12))
          exact ⟨rfl, ⟨rfl, ⟨rfl, trivial⟩⟩⟩
        · skip
          refine aw_iconst (v := 1) dX12_holdsAny_40 (by decide) ?_
          refine aw_zreti dX12_holdsAny_41 rfl (by first | exact Or.inl rfl | exact Or.inr rfl | assumption) (Nat.le_of_ble_eq_true rfl) (Nat.le_of_ble_eq_true rfl) ?_
          exact ⟨(by first | exact Or.inl rfl | exact Or.inr rfl | assumption), rfl, j_12⟩
  refine aw_le ?_ (loop_2_1 cl 0  V (by omega) (hJ0))
  exact ⟨rfl, ⟨rfl, ⟨rfl, trivial⟩⟩⟩

set_option maxHeartbeats 4000000 in
set_option maxRecDepth 100000 in
theorem r_feels (l : Launch) (D : va_G) (b : Nat) (N : Nat) (V : Wd) (hN : 133 ≤ N) (cl : Nat) (hW : CR D b cl V) (n0 : Int32) (hn0 : ∃ j : Nat, j < 12 ∧ n0 = nI j) (n1 : Int32)  : MV l D b 2 jX12_feels [.ref (b + 100), .int n0, .int n1] N V 0 0 (fun N9 V9 => (V9 124 = V 124) ∧ N = N9 ∧ JR D b N cl [(123, 123, 0, 1000000)] V V9) := by
  have hJ0 : JR D b N cl [(123, 123, 0, 1000000)] V V := JR.rf hW
  obtain ⟨i0, hi0, rfl⟩ := hn0
  refine mw_of (by decide) (by simp [Value.category]) (Nat.le_of_ble_eq_true rfl) ?_
  show AW l D b jX12_feels (fx_rm 2 0 0) none (fx_MQ D b 0 0 (fx_qv (fun N9 V9 => (V9 124 = V 124) ∧ N = N9 ∧ JR D b N cl [(123, 123, 0, 1000000)] V V9))) 0 [some (.ref (b + 100)), some (.int (nI i0)), some (.int n1), none] [] N V 0 0
  obtain ⟨g_1, e_1, p_1⟩ := JR.get hJ0 cm_124
  refine aw_iconst (v := 1) dX12_feels_0 (by decide) ?_
  refine aw_istore_n (ls' := [some (.ref (b + 100)), some (.int (nI i0)), some (.int n1), some (.int 1)]) dX12_feels_1 (Nat.le_of_ble_eq_true rfl) rfl ?_
  have loop_2_1 : ∀ (g_2 : Nat), ∀ (j2 : Nat)  (V2 : Wd), j2 + g_2 = 9 → (JR D b N cl [(123, 123, 0, 1000000)] V V2) → (V2 124 = cI D 12 g_1) → AW l D b jX12_feels (fx_rm 2 0 0) none (fx_MQ D b 0 0 (fx_qv (fun N9 V9 => (V9 124 = V 124) ∧ N = N9 ∧ JR D b N cl [(123, 123, 0, 1000000)] V V9))) 2 [some (.ref (b + 100)), some (.int (nI i0)), some (.int n1), some (.int (nI j2))] [] N V2 0 0 := by
    intro g_2
    induction g_2 with
    | zero =>
      intro j2  V2 hj2 i2_0 i2_1
      obtain rfl : j2 = 9 := by omega
      refine aw_iload_n dX12_feels_2 rfl ?_
      refine aw_bipush (v := 9) dX12_feels_3 (by decide) ?_
      refine aw_icmp_ge (tgt := 21) dX12_feels_5 (by decide) (fun c_4 => ?_) (fun c_4 => ?_)
      rotate_left
      · exact absurd (nI_le (a := 9) (b := 9) (Nat.le_refl _) (by omega)) c_4
      refine aw_aload_n dX12_feels_21 rfl ?_
      obtain ⟨ftoldPeople_5, ftoldDoors_5, fwasDoors_5, ffault_5, fopen_5, flines_5, fmeantSet_5, fopenedNow_5, fvainNow_5, flowNow_5, fhighNow_5, fisKept_5, tad_5, pl0_5, le0_5, nu0_5, coy_5, wag_5, say_5, e_5, hntad_5, hnpl0_5, hnle0_5, hnnu0_5, hncoy_5, hnwag_5, hnsay_5⟩ := JR.get i2_0 cm_100
      refine aw_get dX12_feels_22 fl_X12_77 e_5 (by omega) rfl ?_
      refine aw_iconst (v := 0) dX12_feels_25 (by decide) ?_
      refine aw_iload_n dX12_feels_26 rfl ?_
      obtain ⟨g_6, e_6⟩ := JR.get i2_0 cm_123
      refine aw_iast dX12_feels_27 e_6 (by omega) (vp_in_nI (n := 0) (N := 10) (by decide) (by decide)) ?_
      refine aw_upR i2_0 cm_123 ⟨_, rfl⟩ (by decide) (WA LM0 (by decide) (by decide)) (fun V_7 j_7 k_7 e_7 => ?_)
      refine aw_aload_n dX12_feels_28 rfl ?_
      refine aw_get dX12_feels_29 fl_X12_77 ((k_7 _ (by decide)).trans e_5) (by omega) rfl ?_
      refine aw_iconst (v := 4) dX12_feels_32 (by decide) ?_
      refine aw_aload_n dX12_feels_33 rfl ?_
      refine aw_iload_n dX12_feels_34 rfl ?_
      refine aw_callVi (J' := jX12_greatest) (As := [.int (nI i0)]) (st := [.int 4, .ref (b + 123)]) dX12_feels_35 tb_1388 ok_X12_greatest ⟨_, ((k_7 _ (by decide)).trans e_5)⟩ (by omega) rfl rfl (r_greatest l D b N V_7 hN cl j_7.1 (nI i0) ⟨i0, by omega, rfl⟩) rfl (Nat.le_of_ble_eq_true rfl) ⟨Nat.le_of_ble_eq_true rfl, Nat.le_of_ble_eq_true rfl, Nat.le_of_ble_eq_true rfl, Nat.le_of_ble_eq_true rfl⟩ (fun r_9 N_10 V_11 q_12 => ?_)
      obtain ⟨rfl, rfl⟩ := q_12
      refine aw_iast dX12_feels_38 e_7 (by omega) (vp_in_nI (n := 4) (N := 10) (by decide) (by decide)) ?_
      refine aw_upR j_7 cm_123 ⟨_, rfl⟩ (by decide) (WA LM0 (by decide) (by decide)) (fun V_13 j_13 k_13 e_13 => ?_)
      refine aw_aload_n dX12_feels_39 rfl ?_
      refine aw_get dX12_feels_40 fl_X12_77 ((k_13 _ (by decide)).trans ((k_7 _ (by decide)).trans e_5)) (by omega) rfl ?_
      refine aw_bipush (v := 6) dX12_feels_43 (by decide) ?_
      refine aw_aload_n dX12_feels_45 rfl ?_
      refine aw_get dX12_feels_46 fl_X12_19 ((k_13 _ (by decide)).trans ((k_7 _ (by decide)).trans e_5)) (by omega) rfl ?_
      refine aw_iload_n dX12_feels_49 rfl ?_
      obtain ⟨g_14, e_14, p_14⟩ := JR.get j_13 cm_104
      refine aw_iald (v := (g_14 i0)) dX12_feels_50 e_14 (by omega) (vp_in_nI (n := i0) (by omega) (by omega)) (congrArg g_14 (nI_clamp (n := i0) (by omega))) ?_
      refine aw_callSi (J' := jX12_bits) (As := [.int (g_14 i0)]) (st := [.int 6, .ref (b + 123)]) dX12_feels_51 tb_1396 ok_X12_bits rfl (r_bits l D b N V_13 hN cl j_13.1 (g_14 i0)) rfl (Nat.le_of_ble_eq_true rfl) ⟨Nat.le_of_ble_eq_true rfl, Nat.le_of_ble_eq_true rfl, Nat.le_of_ble_eq_true rfl, Nat.le_of_ble_eq_true rfl⟩ (fun r_16 N_17 V_18 q_19 => ?_)
      obtain ⟨rfl, rfl⟩ := q_19
      refine aw_iast dX12_feels_54 e_13 (by omega) (vp_in_nI (n := 6) (N := 10) (by decide) (by decide)) ?_
      refine aw_upR j_13 cm_123 ⟨_, rfl⟩ (by decide) (WA LM0 (by decide) (by decide)) (fun V_20 j_20 k_20 e_20 => ?_)
      refine aw_aload_n dX12_feels_55 rfl ?_
      refine aw_get dX12_feels_56 fl_X12_77 ((k_20 _ (by decide)).trans ((k_13 _ (by decide)).trans ((k_7 _ (by decide)).trans e_5))) (by omega) rfl ?_
      refine aw_bipush (v := 8) dX12_feels_59 (by decide) ?_
      refine aw_aload_n dX12_feels_61 rfl ?_
      refine aw_get dX12_feels_62 fl_X12_7 ((k_20 _ (by decide)).trans ((k_13 _ (by decide)).trans ((k_7 _ (by decide)).trans e_5))) (by omega) rfl ?_
      refine aw_sipush (v := 208) dX12_feels_65 (by decide) ?_
      obtain ⟨g_21, e_21⟩ := JR.get j_20 cm_101
      refine aw_iald (v := (g_21 208)) dX12_feels_68 e_21 (by omega) (vp_in_nI (n := 208) (N := 210) (by decide) (by decide)) (congrArg g_21 (nI_clamp (n := 208) (by omega))) ?_
      refine aw_bipush (v := 100) dX12_feels_69 (by decide) ?_
      refine aw_irem dX12_feels_71 (by decide) ?_
      refine aw_iast dX12_feels_72 e_20 (by omega) (vp_in_nI (n := 8) (N := 10) (by decide) (by decide)) ?_
      refine aw_upR j_20 cm_123 ⟨_, rfl⟩ (by decide) (WA LM0 (by decide) (by decide)) (fun V_22 j_22 k_22 e_22 => ?_)
      refine aw_aload_n dX12_feels_73 rfl ?_
      refine aw_get dX12_feels_74 fl_X12_77 ((k_22 _ (by decide)).trans ((k_20 _ (by decide)).trans ((k_13 _ (by decide)).trans ((k_7 _ (by decide)).trans e_5)))) (by omega) rfl ?_
      refine aw_bipush (v := 9) dX12_feels_77 (by decide) ?_
      refine aw_iload_n dX12_feels_79 rfl ?_
      refine aw_iast dX12_feels_80 e_22 (by omega) (vp_in_nI (n := 9) (N := 10) (by decide) (by decide)) ?_
      refine aw_upR j_22 cm_123 ⟨_, rfl⟩ (by decide) (WA LM0 (by decide) (by decide)) (fun V_23 j_23 k_23 e_23 => ?_)
      refine aw_vreti dX12_feels_81 rfl (Nat.le_of_ble_eq_true rfl) (Nat.le_of_ble_eq_true rfl) ?_
      exact ⟨((((k_23 _ (by decide)).trans ((k_22 _ (by decide)).trans ((k_20 _ (by decide)).trans ((k_13 _ (by decide)).trans ((k_7 _ (by decide)).trans i2_1)))))).trans e_1.symm), rfl, j_23⟩
    | succ g_2 ih_2_2 =>
      intro j2  V2 hj2 i2_0 i2_1
      have hlj2 : j2 < 9 := by omega
      refine aw_iload_n dX12_feels_2 rfl ?_
      refine aw_bipush (v := 9) dX12_feels_3 (by decide) ?_
      refine aw_icmp_ge (tgt := 21) dX12_feels_5 (by decide) (fun c_24 => ?_) (fun c_24 => ?_)
      · exact absurd c_24 (nI_ge (a := j2) (b := 9) (by omega) (by omega))
      refine aw_aload_n dX12_feels_8 rfl ?_
      obtain ⟨ftoldPeople_25, ftoldDoors_25, fwasDoors_25, ffault_25, fopen_25, flines_25, fmeantSet_25, fopenedNow_25, fvainNow_25, flowNow_25, fhighNow_25, fisKept_25, tad_25, pl0_25, le0_25, nu0_25, coy_25, wag_25, say_25, e_25, hntad_25, hnpl0_25, hnle0_25, hnnu0_25, hncoy_25, hnwag_25, hnsay_25⟩ := JR.get i2_0 cm_100
      refine aw_get dX12_feels_9 fl_X12_77 e_25 (by omega) rfl ?_
      refine aw_iload_n dX12_feels_12 rfl ?_
      refine aw_iconst (v := 0) dX12_feels_13 (by decide) ?_
      obtain ⟨g_26, e_26⟩ := JR.get i2_0 cm_123
      refine aw_iast dX12_feels_14 e_26 (by omega) (vp_in_nI (n := j2) (by omega) (by omega)) ?_
      refine aw_upR i2_0 cm_123 ⟨_, rfl⟩ (by decide) (WA LM0 (by decide) (by decide)) (fun V_27 j_27 k_27 e_27 => ?_)
      refine aw_iinc (v := (nI (j2 + 1))) (ls' := [some (.ref (b + 100)), some (.int (nI i0)), some (.int n1), some (.int (nI (j2 + 1)))]) dX12_feels_15 rfl (fx_up_1 _) (Nat.le_of_ble_eq_true rfl) rfl ?_
      refine aw_goto (tgt := 2) dX12_feels_18 (by decide) ?_
      refine aw_le ?_ (ih_2_2 (j2 + 1)  V_27 (by omega) (j_27) (((k_27 _ (by decide)).trans i2_1)))
      exact ⟨rfl, ⟨rfl, ⟨rfl, ⟨rfl, trivial⟩⟩⟩⟩
  refine aw_le ?_ (loop_2_1 (9 - 1) 1  V (by omega) (hJ0) (e_1))
  exact ⟨rfl, ⟨rfl, ⟨rfl, ⟨rfl, trivial⟩⟩⟩⟩

set_option maxHeartbeats 4000000 in
set_option maxRecDepth 100000 in
theorem r_feelsDoor (l : Launch) (D : va_G) (b : Nat) (N : Nat) (V : Wd) (hN : 133 ≤ N) (cl : Nat) (hW : CR D b cl V) (n0 : Int32) (hn0 : ∃ j : Nat, j < 12 ∧ n0 = nI j) (n1 : Int32) (hn1 : ∃ j : Nat, j < 16 ∧ n1 = nI j) (n2 : Int32)  : MV l D b 3 jX12_feelsDoor [.ref (b + 100), .int n0, .int n1, .int n2] N V 0 0 (fun N9 V9 => N = N9 ∧ JR D b N cl [(123, 123, 0, 1000000)] V V9) := by
  have hJ0 : JR D b N cl [(123, 123, 0, 1000000)] V V := JR.rf hW
  obtain ⟨i0, hi0, rfl⟩ := hn0
  obtain ⟨i1, hi1, rfl⟩ := hn1
  refine mw_of (by decide) (by simp [Value.category]) (Nat.le_of_ble_eq_true rfl) ?_
  show AW l D b jX12_feelsDoor (fx_rm 3 0 0) none (fx_MQ D b 0 0 (fx_qv (fun N9 V9 => N = N9 ∧ JR D b N cl [(123, 123, 0, 1000000)] V V9))) 0 [some (.ref (b + 100)), some (.int (nI i0)), some (.int (nI i1)), some (.int n2)] [] N V 0 0
  refine aw_aload_n dX12_feelsDoor_0 rfl ?_
  refine aw_iload_n dX12_feelsDoor_1 rfl ?_
  refine aw_iload_n dX12_feelsDoor_2 rfl ?_
  obtain ⟨ftoldPeople_5, ftoldDoors_5, fwasDoors_5, ffault_5, fopen_5, flines_5, fmeantSet_5, fopenedNow_5, fvainNow_5, flowNow_5, fhighNow_5, fisKept_5, tad_5, pl0_5, le0_5, nu0_5, coy_5, wag_5, say_5, e_5, hntad_5, hnpl0_5, hnle0_5, hnnu0_5, hncoy_5, hnwag_5, hnsay_5⟩ := JR.get hJ0 cm_100
  refine aw_callVv (J' := jX12_feels) (As := [.int (nI i0), .int n2]) (st := []) dX12_feelsDoor_3 tb_1384 ok_X12_feels ⟨_, e_5⟩ (by omega) rfl rfl (r_feels l D b N V hN cl hJ0.1 (nI i0) ⟨i0, by omega, rfl⟩ n2) rfl (Nat.le_of_ble_eq_true rfl) ⟨Nat.le_of_ble_eq_true rfl, Nat.le_of_ble_eq_true rfl, Nat.le_of_ble_eq_true rfl, Nat.le_of_ble_eq_true rfl⟩ (fun  N_6 V_4 q_7 => ?_)
  obtain ⟨h_2, rfl, q_1⟩ := q_7
  have j_3 := JR.trans hJ0 (JR.weak q_1 (Sub.cons LM0 (by decide) (by decide) (by decide) (Or.inl rfl) Sub.nil))
  refine aw_aload_n dX12_feelsDoor_6 rfl ?_
  obtain ⟨ftoldPeople_8, ftoldDoors_8, fwasDoors_8, ffault_8, fopen_8, flines_8, fmeantSet_8, fopenedNow_8, fvainNow_8, flowNow_8, fhighNow_8, fisKept_8, tad_8, pl0_8, le0_8, nu0_8, coy_8, wag_8, say_8, e_8, hntad_8, hnpl0_8, hnle0_8, hnnu0_8, hncoy_8, hnwag_8, hnsay_8⟩ := JR.get j_3 cm_100
  refine aw_get dX12_feelsDoor_7 fl_X12_77 e_8 (by omega) rfl ?_
  refine aw_iconst (v := 1) dX12_feelsDoor_10 (by decide) ?_
  refine aw_iload_n dX12_feelsDoor_11 rfl ?_
  obtain ⟨g_9, e_9⟩ := JR.get j_3 cm_123
  refine aw_iast dX12_feelsDoor_12 e_9 (by omega) (vp_in_nI (n := 1) (N := 10) (by decide) (by decide)) ?_
  refine aw_upR j_3 cm_123 ⟨_, rfl⟩ (by decide) (WA LM0 (by decide) (by decide)) (fun V_10 j_10 k_10 e_10 => ?_)
  refine aw_aload_n dX12_feelsDoor_13 rfl ?_
  refine aw_get dX12_feelsDoor_14 fl_X12_77 ((k_10 _ (by decide)).trans e_8) (by omega) rfl ?_
  refine aw_iconst (v := 2) dX12_feelsDoor_17 (by decide) ?_
  refine aw_aload_n dX12_feelsDoor_18 rfl ?_
  refine aw_get dX12_feelsDoor_19 fl_X12_25 ((k_10 _ (by decide)).trans e_8) (by omega) rfl ?_
  refine aw_iload_n dX12_feelsDoor_22 rfl ?_
  obtain ⟨g_11, e_11, p_11⟩ := JR.get j_10 cm_106
  refine aw_iald (v := (g_11 i1)) dX12_feelsDoor_23 e_11 (by omega) (vp_in_nI (n := i1) (by omega) (by omega)) (congrArg g_11 (nI_clamp (n := i1) (by omega))) ?_
  refine aw_iast dX12_feelsDoor_24 e_10 (by omega) (vp_in_nI (n := 2) (N := 10) (by decide) (by decide)) ?_
  refine aw_upR j_10 cm_123 ⟨_, rfl⟩ (by decide) (WA LM0 (by decide) (by decide)) (fun V_12 j_12 k_12 e_12 => ?_)
  refine aw_aload_n dX12_feelsDoor_25 rfl ?_
  refine aw_get dX12_feelsDoor_26 fl_X12_77 ((k_12 _ (by decide)).trans ((k_10 _ (by decide)).trans e_8)) (by omega) rfl ?_
  refine aw_iconst (v := 3) dX12_feelsDoor_29 (by decide) ?_
  refine aw_aload_n dX12_feelsDoor_30 rfl ?_
  refine aw_iload_n dX12_feelsDoor_31 rfl ?_
  refine aw_aload_n dX12_feelsDoor_32 rfl ?_
  refine aw_get dX12_feelsDoor_33 fl_X12_25 ((k_12 _ (by decide)).trans ((k_10 _ (by decide)).trans e_8)) (by omega) rfl ?_
  refine aw_iload_n dX12_feelsDoor_36 rfl ?_
  refine aw_iald (v := (g_11 i1)) dX12_feelsDoor_37 ((k_12 _ (by decide)).trans e_11) (by omega) (vp_in_nI (n := i1) (by omega) (by omega)) (congrArg g_11 (nI_clamp (n := i1) (by omega))) ?_
  refine aw_callVi (J' := jX12_dread) (As := [.int (nI i0), .int (g_11 i1)]) (st := [.int 3, .ref (b + 123)]) dX12_feelsDoor_38 tb_1392 ok_X12_dread ⟨_, ((k_12 _ (by decide)).trans ((k_10 _ (by decide)).trans e_8))⟩ (by omega) rfl rfl (r_dread l D b N V_12 hN cl j_12.1 (nI i0) ⟨i0, by omega, rfl⟩ (g_11 i1) (p_11 _ (by omega))) rfl (Nat.le_of_ble_eq_true rfl) ⟨Nat.le_of_ble_eq_true rfl, Nat.le_of_ble_eq_true rfl, Nat.le_of_ble_eq_true rfl, Nat.le_of_ble_eq_true rfl⟩ (fun r_14 N_15 V_16 q_17 => ?_)
  obtain ⟨rfl, rfl⟩ := q_17
  refine aw_iast dX12_feelsDoor_41 e_12 (by omega) (vp_in_nI (n := 3) (N := 10) (by decide) (by decide)) ?_
  refine aw_upR j_12 cm_123 ⟨_, rfl⟩ (by decide) (WA LM0 (by decide) (by decide)) (fun V_18 j_18 k_18 e_18 => ?_)
  refine aw_aload_n dX12_feelsDoor_42 rfl ?_
  refine aw_get dX12_feelsDoor_43 fl_X12_77 ((k_18 _ (by decide)).trans ((k_12 _ (by decide)).trans ((k_10 _ (by decide)).trans e_8))) (by omega) rfl ?_
  refine aw_iconst (v := 5) dX12_feelsDoor_46 (by decide) ?_
  refine aw_aload_n dX12_feelsDoor_47 rfl ?_
  refine aw_get dX12_feelsDoor_48 fl_X12_28 ((k_18 _ (by decide)).trans ((k_12 _ (by decide)).trans ((k_10 _ (by decide)).trans e_8))) (by omega) rfl ?_
  refine aw_iload_n dX12_feelsDoor_51 rfl ?_
  obtain ⟨g_19, e_19⟩ := JR.get j_18 cm_107
  refine aw_iald (v := (g_19 i1)) dX12_feelsDoor_52 e_19 (by omega) (vp_in_nI (n := i1) (by omega) (by omega)) (congrArg g_19 (nI_clamp (n := i1) (by omega))) ?_
  refine aw_iast dX12_feelsDoor_53 e_18 (by omega) (vp_in_nI (n := 5) (N := 10) (by decide) (by decide)) ?_
  refine aw_upR j_18 cm_123 ⟨_, rfl⟩ (by decide) (WA LM0 (by decide) (by decide)) (fun V_20 j_20 k_20 e_20 => ?_)
  refine aw_aload_n dX12_feelsDoor_54 rfl ?_
  refine aw_get dX12_feelsDoor_55 fl_X12_77 ((k_20 _ (by decide)).trans ((k_18 _ (by decide)).trans ((k_12 _ (by decide)).trans ((k_10 _ (by decide)).trans e_8)))) (by omega) rfl ?_
  refine aw_bipush (v := 7) dX12_feelsDoor_58 (by decide) ?_
  refine aw_aload_n dX12_feelsDoor_60 rfl ?_
  refine aw_get dX12_feelsDoor_61 fl_X12_7 ((k_20 _ (by decide)).trans ((k_18 _ (by decide)).trans ((k_12 _ (by decide)).trans ((k_10 _ (by decide)).trans e_8)))) (by omega) rfl ?_
  refine aw_sipush (v := 192) dX12_feelsDoor_64 (by decide) ?_
  refine aw_iload_n dX12_feelsDoor_67 rfl ?_
  refine aw_iadd dX12_feelsDoor_68 ?_
  refine aw_eqi (y := nI (192 + i1)) (nI_add _ _) ?_
  obtain ⟨g_21, e_21⟩ := JR.get j_20 cm_101
  refine aw_iald (v := (g_21 (192 + i1))) dX12_feelsDoor_69 e_21 (by omega) (vp_in_nI (n := (192 + i1)) (by omega) (by omega)) (congrArg g_21 (nI_clamp (n := (192 + i1)) (by omega))) ?_
  refine aw_iast dX12_feelsDoor_70 e_20 (by omega) (vp_in_nI (n := 7) (N := 10) (by decide) (by decide)) ?_
  refine aw_upR j_20 cm_123 ⟨_, rfl⟩ (by decide) (WA LM0 (by decide) (by decide)) (fun V_22 j_22 k_22 e_22 => ?_)
  refine aw_vreti dX12_feelsDoor_71 rfl (Nat.le_of_ble_eq_true rfl) (Nat.le_of_ble_eq_true rfl) ?_
  exact ⟨rfl, j_22⟩

set_option maxHeartbeats 4000000 in
set_option maxRecDepth 100000 in
theorem r_likedMost (l : Launch) (D : va_G) (b : Nat) (N : Nat) (V : Wd) (hN : 133 ≤ N) (cl : Nat) (hW : CR D b cl V) (n0 : Int32) (hn0 : ∃ j : Nat, j < 12 ∧ n0 = nI j) (n1 : Int32) (hwf : WF D cl V) : MI l D b 4 jX12_likedMost [.ref (b + 100), .int n0, .int n1] N V 0 0 (fun r N9 V9 => (r = -1 ∨ ∃ k : Nat, k < 16 ∧ r = nI k) ∧ N = N9 ∧ JR D b N cl [(122, 123, 0, 1000000)] V V9) := by
  have hJ0 : JR D b N cl [(122, 123, 0, 1000000)] V V := JR.rf hW
  obtain ⟨i0, hi0, rfl⟩ := hn0
  refine mw_of (by decide) (by simp [Value.category]) (Nat.le_of_ble_eq_true rfl) ?_
  show AW l D b jX12_likedMost (fx_rm 4 0 0) none (fx_MQ D b 0 0 (fx_qi (fun r N9 V9 => (r = -1 ∨ ∃ k : Nat, k < 16 ∧ r = nI k) ∧ N = N9 ∧ JR D b N cl [(122, 123, 0, 1000000)] V V9))) 0 [some (.ref (b + 100)), some (.int (nI i0)), some (.int n1), none, none, none, none] [] N V 0 0
  refine aw_iconst (v := (-1)) dX12_likedMost_0 (by decide) ?_
  refine aw_istore_n (ls' := [some (.ref (b + 100)), some (.int (nI i0)), some (.int n1), some (.int (-1)), none, none, none]) dX12_likedMost_1 (Nat.le_of_ble_eq_true rfl) rfl ?_
  refine aw_iconst (v := 0) dX12_likedMost_2 (by decide) ?_
  refine aw_istore (ls' := [some (.ref (b + 100)), some (.int (nI i0)), some (.int n1), some (.int (-1)), some (.int 0), none, none]) dX12_likedMost_3 (Nat.le_of_ble_eq_true rfl) rfl ?_
  refine aw_iconst (v := 0) dX12_likedMost_5 (by decide) ?_
  refine aw_istore (ls' := [some (.ref (b + 100)), some (.int (nI i0)), some (.int n1), some (.int (-1)), some (.int 0), some (.int 0), none]) dX12_likedMost_6 (Nat.le_of_ble_eq_true rfl) rfl ?_
  have loop_8_0 : ∀ (g_8 : Nat), ∀ (j8 : Nat) (v8_3 : Int32) (v8_4 : Int32) (V8 : Wd), j8 + g_8 = 16 → (v8_3 = -1 ∨ ∃ k : Nat, k < 16 ∧ v8_3 = nI k) → (JR D b N cl [(122, 123, 0, 1000000)] V V8) → AW l D b jX12_likedMost (fx_rm 4 0 0) none (fx_MQ D b 0 0 (fx_qi (fun r N9 V9 => (r = -1 ∨ ∃ k : Nat, k < 16 ∧ r = nI k) ∧ N = N9 ∧ JR D b N cl [(122, 123, 0, 1000000)] V V9))) 8 [some (.ref (b + 100)), some (.int (nI i0)), some (.int n1), some (.int v8_3), some (.int v8_4), some (.int (nI j8)), none] [] N V8 0 0 := by
    intro g_8
    induction g_8 with
    | zero =>
      intro j8 v8_3 v8_4 V8 hj8 i8_0 i8_1
      obtain rfl : j8 = 16 := by omega
      refine aw_iload dX12_likedMost_8 rfl ?_
      refine aw_bipush (v := 16) dX12_likedMost_10 (by decide) ?_
      refine aw_icmp_ge (tgt := 69) dX12_likedMost_12 (by decide) (fun c_3 => ?_) (fun c_3 => ?_)
      rotate_left
      · exact absurd (nI_le (a := 16) (b := 16) (Nat.le_refl _) (by omega)) c_3
      refine aw_iload_n dX12_likedMost_69 rfl ?_
      refine aw_ireti dX12_likedMost_70 rfl (Nat.le_of_ble_eq_true rfl) (Nat.le_of_ble_eq_true rfl) ?_
      exact ⟨i8_0, rfl, i8_1⟩
    | succ g_8 ih_8_1 =>
      intro j8 v8_3 v8_4 V8 hj8 i8_0 i8_1
      have hlj8 : j8 < 16 := by omega
      refine aw_iload dX12_likedMost_8 rfl ?_
      refine aw_bipush (v := 16) dX12_likedMost_10 (by decide) ?_
      refine aw_icmp_ge (tgt := 69) dX12_likedMost_12 (by decide) (fun c_4 => ?_) (fun c_4 => ?_)
      · exact absurd c_4 (nI_ge (a := j8) (b := 16) (by omega) (by omega))
      refine aw_aload_n dX12_likedMost_15 rfl ?_
      refine aw_iload dX12_likedMost_16 rfl ?_
      obtain ⟨ftoldPeople_8, ftoldDoors_8, fwasDoors_8, ffault_8, fopen_8, flines_8, fmeantSet_8, fopenedNow_8, fvainNow_8, flowNow_8, fhighNow_8, fisKept_8, tad_8, pl0_8, le0_8, nu0_8, coy_8, wag_8, say_8, e_8, hntad_8, hnpl0_8, hnle0_8, hnnu0_8, hncoy_8, hnwag_8, hnsay_8⟩ := JR.get i8_1 cm_100
      refine aw_callVi (J' := jX12_isDoor) (As := [.int (nI j8)]) (st := []) dX12_likedMost_18 tb_1359 ok_X12_isDoor ⟨_, e_8⟩ (by omega) rfl rfl (r_isDoor l D b N V8 hN cl i8_1.1 (nI j8)) rfl (Nat.le_of_ble_eq_true rfl) ⟨Nat.le_of_ble_eq_true rfl, Nat.le_of_ble_eq_true rfl, Nat.le_of_ble_eq_true rfl, Nat.le_of_ble_eq_true rfl⟩ (fun r_9 N_10 V_11 q_12 => ?_)
      obtain ⟨⟨z_7, h_6⟩, rfl, rfl⟩ := q_12
      refine aw_if_ne (tgt := 27) dX12_likedMost_21 (by decide) (fun c_13 => ?_) (fun c_13 => ?_)
      · skip
        refine aw_aload_n dX12_likedMost_27 rfl ?_
        refine aw_iload_n dX12_likedMost_28 rfl ?_
        refine aw_iload dX12_likedMost_29 rfl ?_
        refine aw_iload_n dX12_likedMost_31 rfl ?_
        refine aw_callVv (J' := jX12_feelsDoor) (As := [.int (nI i0), .int (nI j8), .int n1]) (st := []) dX12_likedMost_32 tb_1414 ok_X12_feelsDoor ⟨_, e_8⟩ (by omega) rfl rfl (r_feelsDoor l D b N V8 hN cl i8_1.1 (nI i0) ⟨i0, by omega, rfl⟩ (nI j8) ⟨j8, by omega, rfl⟩ n1) rfl (Nat.le_of_ble_eq_true rfl) ⟨Nat.le_of_ble_eq_true rfl, Nat.le_of_ble_eq_true rfl, Nat.le_of_ble_eq_true rfl, Nat.le_of_ble_eq_true rfl⟩ (fun  N_17 V_16 q_18 => ?_)
        obtain ⟨rfl, q_14⟩ := q_18
        have j_15 := JR.trans i8_1 (JR.weak q_14 (Sub.cons LM0 (by decide) (by decide) (by decide) (Or.inl rfl) Sub.nil))
        refine aw_aload_n dX12_likedMost_35 rfl ?_
        refine aw_bipush (v := 101) dX12_likedMost_36 (by decide) ?_
        refine aw_sipush (v := 9999) dX12_likedMost_38 (by decide) ?_
        obtain ⟨ftoldPeople_22, ftoldDoors_22, fwasDoors_22, ffault_22, fopen_22, flines_22, fmeantSet_22, fopenedNow_22, fvainNow_22, flowNow_22, fhighNow_22, fisKept_22, tad_22, pl0_22, le0_22, nu0_22, coy_22, wag_22, say_22, e_22, hntad_22, hnpl0_22, hnle0_22, hnnu0_22, hncoy_22, hnwag_22, hnsay_22⟩ := JR.get j_15 cm_100
        refine aw_callVi (J' := jX12_byLaw) (As := [.int 101, .int 9999]) (st := []) dX12_likedMost_41 tb_1418 ok_X12_byLaw ⟨_, e_22⟩ (by omega) rfl rfl (r_byLaw l D b N V_16 hN cl j_15.1 101 9999 (WF.fr hwf j_15.2.2.1)) rfl (Nat.le_of_ble_eq_true rfl) ⟨Nat.le_of_ble_eq_true rfl, Nat.le_of_ble_eq_true rfl, Nat.le_of_ble_eq_true rfl, Nat.le_of_ble_eq_true rfl⟩ (fun r_23 N_24 V_21 q_25 => ?_)
        obtain ⟨rfl, q_19⟩ := q_25
        have j_20 := JR.trans j_15 (JR.weak q_19 (Sub.cons LM0 (by decide) (by decide) (by decide) (Or.inl rfl) Sub.nil))
        refine aw_istore (ls' := [some (.ref (b + 100)), some (.int (nI i0)), some (.int n1), some (.int v8_3), some (.int v8_4), some (.int (nI j8)), some (.int r_23)]) dX12_likedMost_44 (Nat.le_of_ble_eq_true rfl) rfl ?_
        refine aw_iload dX12_likedMost_46 rfl ?_
        refine aw_iload dX12_likedMost_48 rfl ?_
        refine aw_icmp_gt (tgt := 56) dX12_likedMost_50 (by decide) (fun c_26 => ?_) (fun c_26 => ?_)
        · skip
          refine aw_iload dX12_likedMost_56 rfl ?_
          refine aw_istore (ls' := [some (.ref (b + 100)), some (.int (nI i0)), some (.int n1), some (.int v8_3), some (.int r_23), some (.int (nI j8)), some (.int r_23)]) dX12_likedMost_58 (Nat.le_of_ble_eq_true rfl) rfl ?_
          refine aw_iload dX12_likedMost_60 rfl ?_
          refine aw_istore_n (ls' := [some (.ref (b + 100)), some (.int (nI i0)), some (.int n1), some (.int (nI j8)), some (.int r_23), some (.int (nI j8)), some (.int r_23)]) dX12_likedMost_62 (Nat.le_of_ble_eq_true rfl) rfl ?_
          refine aw_iinc (v := (nI (j8 + 1))) (ls' := [some (.ref (b + 100)), some (.int (nI i0)), some (.int n1), some (.int (nI j8)), some (.int r_23), some (.int (nI (j8 + 1))), some (.int r_23)]) dX12_likedMost_63 rfl (fx_up_1 _) (Nat.le_of_ble_eq_true rfl) rfl ?_
          refine aw_goto (tgt := 8) dX12_likedMost_66 (by decide) ?_
          refine aw_le ?_ (ih_8_1 (j8 + 1) (nI j8) r_23 V_21 (by omega) (Or.inr ⟨j8, by omega, rfl⟩) (j_20))
          exact ⟨rfl, ⟨rfl, ⟨rfl, ⟨rfl, ⟨rfl, ⟨rfl, trivial⟩⟩⟩⟩⟩⟩
        · skip
          refine aw_goto (tgt := 63) dX12_likedMost_53 (by decide) ?_
          refine aw_iinc (v := (nI (j8 + 1))) (ls' := [some (.ref (b + 100)), some (.int (nI i0)), some (.int n1), some (.int v8_3), some (.int v8_4), some (.int (nI (j8 + 1))), some (.int r_23)]) dX12_likedMost_63 rfl (fx_up_1 _) (Nat.le_of_ble_eq_true rfl) rfl ?_
          refine aw_goto (tgt := 8) dX12_likedMost_66 (by decide) ?_
          refine aw_le ?_ (ih_8_1 (j8 + 1) v8_3 v8_4 V_21 (by omega) (i8_0) (j_20))
          exact ⟨rfl, ⟨rfl, ⟨rfl, ⟨rfl, ⟨rfl, ⟨rfl, trivial⟩⟩⟩⟩⟩⟩
      · skip
        refine aw_goto (tgt := 63) dX12_likedMost_24 (by decide) ?_
        refine aw_iinc (v := (nI (j8 + 1))) (ls' := [some (.ref (b + 100)), some (.int (nI i0)), some (.int n1), some (.int v8_3), some (.int v8_4), some (.int (nI (j8 + 1))), none]) dX12_likedMost_63 rfl (fx_up_1 _) (Nat.le_of_ble_eq_true rfl) rfl ?_
        refine aw_goto (tgt := 8) dX12_likedMost_66 (by decide) ?_
        refine aw_le ?_ (ih_8_1 (j8 + 1) v8_3 v8_4 V8 (by omega) (i8_0) (i8_1))
        exact ⟨rfl, ⟨rfl, ⟨rfl, ⟨rfl, ⟨rfl, ⟨rfl, trivial⟩⟩⟩⟩⟩⟩
  refine aw_le ?_ (loop_8_0 16 0 (-1) 0 V (by omega) (Or.inl rfl) (hJ0))
  exact ⟨rfl, ⟨rfl, ⟨rfl, ⟨rfl, ⟨rfl, ⟨rfl, trivial⟩⟩⟩⟩⟩⟩

set_option maxHeartbeats 4000000 in
set_option maxRecDepth 100000 in
theorem r_triesDoor (l : Launch) (D : va_G) (b : Nat) (N : Nat) (V : Wd) (hN : 133 ≤ N) (cl : Nat) (hW : CR D b cl V) (n0 : Int32) (hn0 : ∃ j : Nat, j < 12 ∧ n0 = nI j) (n1 : Int32) (hn1 : ∃ j : Nat, j < 16 ∧ n1 = nI j) (n2 : Int32) (hwf : WF D cl V) : MV l D b 4 jX12_triesDoor [.ref (b + 100), .int n0, .int n1, .int n2] N V 0 0 (fun N9 V9 => N = N9 ∧ JR D b N cl [(122, 123, 0, 1000000), (101, 101, 0, 191), (100, 100, 39, 39), (101, 101, 192, 207), (100, 100, 38, 38)] V V9) := by
  have hJ0 : JR D b N cl [(122, 123, 0, 1000000), (101, 101, 0, 191), (100, 100, 39, 39), (101, 101, 192, 207), (100, 100, 38, 38)] V V := JR.rf hW
  obtain ⟨i0, hi0, rfl⟩ := hn0
  obtain ⟨i1, hi1, rfl⟩ := hn1
  refine mw_of (by decide) (by simp [Value.category]) (Nat.le_of_ble_eq_true rfl) ?_
  show AW l D b jX12_triesDoor (fx_rm 4 0 0) none (fx_MQ D b 0 0 (fx_qv (fun N9 V9 => N = N9 ∧ JR D b N cl [(122, 123, 0, 1000000), (101, 101, 0, 191), (100, 100, 39, 39), (101, 101, 192, 207), (100, 100, 38, 38)] V V9))) 0 [some (.ref (b + 100)), some (.int (nI i0)), some (.int (nI i1)), some (.int n2), none, none] [] N V 0 0
  refine aw_aload_n dX12_triesDoor_0 rfl ?_
  refine aw_iload_n dX12_triesDoor_1 rfl ?_
  refine aw_iload_n dX12_triesDoor_2 rfl ?_
  refine aw_iload_n dX12_triesDoor_3 rfl ?_
  obtain ⟨ftoldPeople_4, ftoldDoors_4, fwasDoors_4, ffault_4, fopen_4, flines_4, fmeantSet_4, fopenedNow_4, fvainNow_4, flowNow_4, fhighNow_4, fisKept_4, tad_4, pl0_4, le0_4, nu0_4, coy_4, wag_4, say_4, e_4, hntad_4, hnpl0_4, hnle0_4, hnnu0_4, hncoy_4, hnwag_4, hnsay_4⟩ := JR.get hJ0 cm_100
  refine aw_callVv (J' := jX12_feelsDoor) (As := [.int (nI i0), .int (nI i1), .int n2]) (st := []) dX12_triesDoor_4 tb_1414 ok_X12_feelsDoor ⟨_, e_4⟩ (by omega) rfl rfl (r_feelsDoor l D b N V hN cl hJ0.1 (nI i0) ⟨i0, by omega, rfl⟩ (nI i1) ⟨i1, by omega, rfl⟩ n2) rfl (Nat.le_of_ble_eq_true rfl) ⟨Nat.le_of_ble_eq_true rfl, Nat.le_of_ble_eq_true rfl, Nat.le_of_ble_eq_true rfl, Nat.le_of_ble_eq_true rfl⟩ (fun  N_5 V_3 q_6 => ?_)
  obtain ⟨rfl, q_1⟩ := q_6
  have j_2 := JR.trans hJ0 (JR.weak q_1 (Sub.cons LM0 (by decide) (by decide) (by decide) (Or.inl rfl) Sub.nil))
  refine aw_aload_n dX12_triesDoor_7 rfl ?_
  refine aw_bipush (v := 99) dX12_triesDoor_8 (by decide) ?_
  refine aw_bipush (v := 99) dX12_triesDoor_10 (by decide) ?_
  obtain ⟨ftoldPeople_10, ftoldDoors_10, fwasDoors_10, ffault_10, fopen_10, flines_10, fmeantSet_10, fopenedNow_10, fvainNow_10, flowNow_10, fhighNow_10, fisKept_10, tad_10, pl0_10, le0_10, nu0_10, coy_10, wag_10, say_10, e_10, hntad_10, hnpl0_10, hnle0_10, hnnu0_10, hncoy_10, hnwag_10, hnsay_10⟩ := JR.get j_2 cm_100
  refine aw_callVi (J' := jX12_byLaw) (As := [.int 99, .int 99]) (st := []) dX12_triesDoor_12 tb_1418 ok_X12_byLaw ⟨_, e_10⟩ (by omega) rfl rfl (r_byLaw l D b N V_3 hN cl j_2.1 99 99 (WF.fr hwf j_2.2.2.1)) rfl (Nat.le_of_ble_eq_true rfl) ⟨Nat.le_of_ble_eq_true rfl, Nat.le_of_ble_eq_true rfl, Nat.le_of_ble_eq_true rfl, Nat.le_of_ble_eq_true rfl⟩ (fun r_11 N_12 V_9 q_13 => ?_)
  obtain ⟨rfl, q_7⟩ := q_13
  have j_8 := JR.trans j_2 (JR.weak q_7 (Sub.cons LM0 (by decide) (by decide) (by decide) (Or.inl rfl) Sub.nil))
  refine aw_istore (ls' := [some (.ref (b + 100)), some (.int (nI i0)), some (.int (nI i1)), some (.int n2), some (.int r_11), none]) dX12_triesDoor_15 (Nat.le_of_ble_eq_true rfl) rfl ?_
  refine aw_iconst (v := 0) dX12_triesDoor_17 (by decide) ?_
  refine aw_bipush (v := 16) dX12_triesDoor_18 (by decide) ?_
  refine aw_iload_n dX12_triesDoor_20 rfl ?_
  refine aw_imul dX12_triesDoor_21 ?_
  refine aw_eqi (y := nI (16 * i0)) (pk_mul _ _) ?_
  refine aw_iadd dX12_triesDoor_22 ?_
  refine aw_eqi (y := nI (0 + (16 * i0))) (nI_add _ _) ?_
  refine aw_aload_n dX12_triesDoor_23 rfl ?_
  obtain ⟨ftoldPeople_14, ftoldDoors_14, fwasDoors_14, ffault_14, fopen_14, flines_14, fmeantSet_14, fopenedNow_14, fvainNow_14, flowNow_14, fhighNow_14, fisKept_14, tad_14, pl0_14, le0_14, nu0_14, coy_14, wag_14, say_14, e_14, hntad_14, hnpl0_14, hnle0_14, hnnu0_14, hncoy_14, hnwag_14, hnsay_14⟩ := JR.get j_8 cm_100
  refine aw_get dX12_triesDoor_24 fl_X12_25 e_14 (by omega) rfl ?_
  refine aw_iload_n dX12_triesDoor_27 rfl ?_
  obtain ⟨g_15, e_15, p_15⟩ := JR.get j_8 cm_106
  refine aw_iald (v := (g_15 i1)) dX12_triesDoor_28 e_15 (by omega) (vp_in_nI (n := i1) (by omega) (by omega)) (congrArg g_15 (nI_clamp (n := i1) (by omega))) ?_
  obtain ⟨z_16, hz_16, ez_16⟩ := (p_15 _ (by omega))
  refine aw_eqi ez_16 ?_
  refine aw_iadd dX12_triesDoor_29 ?_
  refine aw_eqi (y := nI ((0 + (16 * i0)) + z_16)) (nI_add _ _) ?_
  refine aw_istore (ls' := [some (.ref (b + 100)), some (.int (nI i0)), some (.int (nI i1)), some (.int n2), some (.int r_11), some (.int (nI ((0 + (16 * i0)) + z_16)))]) dX12_triesDoor_30 (Nat.le_of_ble_eq_true rfl) rfl ?_
  refine aw_aload_n dX12_triesDoor_32 rfl ?_
  refine aw_iload_n dX12_triesDoor_33 rfl ?_
  refine aw_iload_n dX12_triesDoor_34 rfl ?_
  refine aw_callVi (J' := jX12_unlocks) (As := [.int (nI i0), .int (nI i1)]) (st := []) dX12_triesDoor_35 tb_1426 ok_X12_unlocks ⟨_, e_14⟩ (by omega) rfl rfl (r_unlocks l D b N V_9 hN cl j_8.1 (nI i0) ⟨i0, by omega, rfl⟩ (nI i1) ⟨i1, by omega, rfl⟩) rfl (Nat.le_of_ble_eq_true rfl) ⟨Nat.le_of_ble_eq_true rfl, Nat.le_of_ble_eq_true rfl, Nat.le_of_ble_eq_true rfl, Nat.le_of_ble_eq_true rfl⟩ (fun r_19 N_20 V_21 q_22 => ?_)
  obtain ⟨h_18, rfl, rfl⟩ := q_22
  refine aw_if_eq (tgt := 103) dX12_triesDoor_38 (by decide) (fun c_23 => ?_) (fun c_23 => ?_)
  · skip
    refine aw_aload_n dX12_triesDoor_103 rfl ?_
    refine aw_get dX12_triesDoor_104 fl_X12_7 e_14 (by omega) rfl ?_
    refine aw_iload dX12_triesDoor_107 rfl ?_
    refine aw_bipush (v := 99) dX12_triesDoor_109 (by decide) ?_
    refine aw_aload_n dX12_triesDoor_111 rfl ?_
    refine aw_get dX12_triesDoor_112 fl_X12_7 e_14 (by omega) rfl ?_
    refine aw_iload dX12_triesDoor_115 rfl ?_
    obtain ⟨g_24, e_24⟩ := JR.get j_8 cm_101
    refine aw_iald (v := (g_24 ((0 + (16 * i0)) + z_16))) dX12_triesDoor_117 e_24 (by omega) (vp_in_nI (n := ((0 + (16 * i0)) + z_16)) (by omega) (by omega)) (congrArg g_24 (nI_clamp (n := ((0 + (16 * i0)) + z_16)) (by omega))) ?_
    refine aw_iconst (v := 1) dX12_triesDoor_118 (by decide) ?_
    refine aw_iadd dX12_triesDoor_119 ?_
    refine aw_callSi (J' := jX12_min) (As := [.int 99, .int ((g_24 ((0 + (16 * i0)) + z_16)) + 1)]) (st := [.int (nI ((0 + (16 * i0)) + z_16)), .ref (b + 101)]) dX12_triesDoor_120 tb_1325 ok_X12_min rfl (r_min l D b N V_9 hN cl j_8.1 99 ((g_24 ((0 + (16 * i0)) + z_16)) + 1)) rfl (Nat.le_of_ble_eq_true rfl) ⟨Nat.le_of_ble_eq_true rfl, Nat.le_of_ble_eq_true rfl, Nat.le_of_ble_eq_true rfl, Nat.le_of_ble_eq_true rfl⟩ (fun r_26 N_27 V_28 q_29 => ?_)
    obtain ⟨rfl, rfl⟩ := q_29
    refine aw_iast dX12_triesDoor_123 e_24 (by omega) (vp_in_nI (n := ((0 + (16 * i0)) + z_16)) (by omega) (by omega)) ?_
    refine aw_upR j_8 cm_101 ⟨_, rfl⟩ (by decide) (WE e_24 (LMs LM0) (by decide) (by decide) (by rw [nI_clamp (n := ((0 + (16 * i0)) + z_16)) (by omega)]; omega) (by rw [nI_clamp (n := ((0 + (16 * i0)) + z_16)) (by omega)]; omega)) (fun V_30 j_30 k_30 e_30 => ?_)
    refine aw_aload_n dX12_triesDoor_124 rfl ?_
    refine aw_aload_n dX12_triesDoor_125 rfl ?_
    refine aw_get dX12_triesDoor_126 fl_X12_324 ((k_30 _ (by decide)).trans e_14) (by omega) rfl ?_
    refine aw_iconst (v := 1) dX12_triesDoor_129 (by decide) ?_
    refine aw_iadd dX12_triesDoor_130 ?_
    refine aw_put dX12_triesDoor_131 fp_X12_324 ((k_30 _ (by decide)).trans e_14) (by omega) rfl rfl (Nat.le_of_ble_eq_true rfl) rfl ?_
    refine aw_upR j_30 cm_100 ⟨_, _, _, _, _, _, _, _, _, _, _, _, tad_14, pl0_14, le0_14, nu0_14, coy_14, wag_14, say_14, rfl, by omega, by omega, by omega, by omega, by omega, by omega, by omega⟩ (by decide) (WO (s := 39) (x := .int (fvainNow_14 + 1)) ((k_30 _ (by decide)).trans e_14) rfl (LMs (LMs LM0)) (by decide) (by decide) (by decide) (Or.inl (by decide))) (fun V_31 j_31 k_31 e_31 => ?_)
    refine aw_vreti dX12_triesDoor_134 rfl (Nat.le_of_ble_eq_true rfl) (Nat.le_of_ble_eq_true rfl) ?_
    exact ⟨rfl, j_31⟩
  · skip
    refine aw_aload_n dX12_triesDoor_41 rfl ?_
    refine aw_get dX12_triesDoor_42 fl_X12_7 e_14 (by omega) rfl ?_
    refine aw_sipush (v := 192) dX12_triesDoor_45 (by decide) ?_
    refine aw_iload_n dX12_triesDoor_48 rfl ?_
    refine aw_iadd dX12_triesDoor_49 ?_
    refine aw_eqi (y := nI (192 + i1)) (nI_add _ _) ?_
    refine aw_sipush (v := 9999) dX12_triesDoor_50 (by decide) ?_
    refine aw_aload_n dX12_triesDoor_53 rfl ?_
    refine aw_get dX12_triesDoor_54 fl_X12_7 e_14 (by omega) rfl ?_
    refine aw_sipush (v := 192) dX12_triesDoor_57 (by decide) ?_
    refine aw_iload_n dX12_triesDoor_60 rfl ?_
    refine aw_iadd dX12_triesDoor_61 ?_
    refine aw_eqi (y := nI (192 + i1)) (nI_add _ _) ?_
    obtain ⟨g_32, e_32⟩ := JR.get j_8 cm_101
    refine aw_iald (v := (g_32 (192 + i1))) dX12_triesDoor_62 e_32 (by omega) (vp_in_nI (n := (192 + i1)) (by omega) (by omega)) (congrArg g_32 (nI_clamp (n := (192 + i1)) (by omega))) ?_
    refine aw_iconst (v := 1) dX12_triesDoor_63 (by decide) ?_
    refine aw_iadd dX12_triesDoor_64 ?_
    refine aw_callSi (J' := jX12_min) (As := [.int 9999, .int ((g_32 (192 + i1)) + 1)]) (st := [.int (nI (192 + i1)), .ref (b + 101)]) dX12_triesDoor_65 tb_1325 ok_X12_min rfl (r_min l D b N V_9 hN cl j_8.1 9999 ((g_32 (192 + i1)) + 1)) rfl (Nat.le_of_ble_eq_true rfl) ⟨Nat.le_of_ble_eq_true rfl, Nat.le_of_ble_eq_true rfl, Nat.le_of_ble_eq_true rfl, Nat.le_of_ble_eq_true rfl⟩ (fun r_34 N_35 V_36 q_37 => ?_)
    obtain ⟨rfl, rfl⟩ := q_37
    refine aw_iast dX12_triesDoor_68 e_32 (by omega) (vp_in_nI (n := (192 + i1)) (by omega) (by omega)) ?_
    refine aw_upR j_8 cm_101 ⟨_, rfl⟩ (by decide) (WE e_32 (LMs (LMs (LMs LM0))) (by decide) (by decide) (by rw [nI_clamp (n := (192 + i1)) (by omega)]; omega) (by rw [nI_clamp (n := (192 + i1)) (by omega)]; omega)) (fun V_38 j_38 k_38 e_38 => ?_)
    refine aw_aload_n dX12_triesDoor_69 rfl ?_
    refine aw_get dX12_triesDoor_70 fl_X12_7 ((k_38 _ (by decide)).trans e_14) (by omega) rfl ?_
    refine aw_iload dX12_triesDoor_73 rfl ?_
    refine aw_iconst (v := 0) dX12_triesDoor_75 (by decide) ?_
    refine aw_aload_n dX12_triesDoor_76 rfl ?_
    refine aw_get dX12_triesDoor_77 fl_X12_7 ((k_38 _ (by decide)).trans e_14) (by omega) rfl ?_
    refine aw_iload dX12_triesDoor_80 rfl ?_
    refine aw_iald (v := ((upd g_32 (Int32.toNatClampNeg (nI (192 + i1))) r_34) ((0 + (16 * i0)) + z_16))) dX12_triesDoor_82 e_38 (by omega) (vp_in_nI (n := ((0 + (16 * i0)) + z_16)) (by omega) (by omega)) (congrArg (upd g_32 (Int32.toNatClampNeg (nI (192 + i1))) r_34) (nI_clamp (n := ((0 + (16 * i0)) + z_16)) (by omega))) ?_
    refine aw_iload dX12_triesDoor_83 rfl ?_
    refine aw_isub dX12_triesDoor_85 ?_
    refine aw_callSi (J' := jX12_max) (As := [.int 0, .int (((upd g_32 (Int32.toNatClampNeg (nI (192 + i1))) r_34) ((0 + (16 * i0)) + z_16)) - r_11)]) (st := [.int (nI ((0 + (16 * i0)) + z_16)), .ref (b + 101)]) dX12_triesDoor_86 tb_1328 ok_X12_max rfl (r_max l D b N V_38 hN cl j_38.1 0 (((upd g_32 (Int32.toNatClampNeg (nI (192 + i1))) r_34) ((0 + (16 * i0)) + z_16)) - r_11)) rfl (Nat.le_of_ble_eq_true rfl) ⟨Nat.le_of_ble_eq_true rfl, Nat.le_of_ble_eq_true rfl, Nat.le_of_ble_eq_true rfl, Nat.le_of_ble_eq_true rfl⟩ (fun r_40 N_41 V_42 q_43 => ?_)
    obtain ⟨rfl, rfl⟩ := q_43
    refine aw_iast dX12_triesDoor_89 e_38 (by omega) (vp_in_nI (n := ((0 + (16 * i0)) + z_16)) (by omega) (by omega)) ?_
    refine aw_upR j_38 cm_101 ⟨_, rfl⟩ (by decide) (WE e_38 (LMs LM0) (by decide) (by decide) (by rw [nI_clamp (n := ((0 + (16 * i0)) + z_16)) (by omega)]; omega) (by rw [nI_clamp (n := ((0 + (16 * i0)) + z_16)) (by omega)]; omega)) (fun V_44 j_44 k_44 e_44 => ?_)
    refine aw_aload_n dX12_triesDoor_90 rfl ?_
    refine aw_aload_n dX12_triesDoor_91 rfl ?_
    refine aw_get dX12_triesDoor_92 fl_X12_321 ((k_44 _ (by decide)).trans ((k_38 _ (by decide)).trans e_14)) (by omega) rfl ?_
    refine aw_iconst (v := 1) dX12_triesDoor_95 (by decide) ?_
    refine aw_iadd dX12_triesDoor_96 ?_
    refine aw_put dX12_triesDoor_97 fp_X12_321 ((k_44 _ (by decide)).trans ((k_38 _ (by decide)).trans e_14)) (by omega) rfl rfl (Nat.le_of_ble_eq_true rfl) rfl ?_
    refine aw_upR j_44 cm_100 ⟨_, _, _, _, _, _, _, _, _, _, _, _, tad_14, pl0_14, le0_14, nu0_14, coy_14, wag_14, say_14, rfl, by omega, by omega, by omega, by omega, by omega, by omega, by omega⟩ (by decide) (WO (s := 38) (x := .int (fopenedNow_14 + 1)) ((k_44 _ (by decide)).trans ((k_38 _ (by decide)).trans e_14)) rfl (LMs (LMs (LMs (LMs LM0)))) (by decide) (by decide) (by decide) (Or.inl (by decide))) (fun V_45 j_45 k_45 e_45 => ?_)
    refine aw_goto (tgt := 134) dX12_triesDoor_100 (by decide) ?_
    refine aw_vreti dX12_triesDoor_134 rfl (Nat.le_of_ble_eq_true rfl) (Nat.le_of_ble_eq_true rfl) ?_
    exact ⟨rfl, j_45⟩

set_option maxHeartbeats 4000000 in
set_option maxRecDepth 100000 in
theorem r_goesOut (l : Launch) (D : va_G) (b : Nat) (N : Nat) (V : Wd) (hN : 133 ≤ N) (cl : Nat) (hW : CR D b cl V) (n0 : Int32) (hn0 : ∃ j : Nat, j < 12 ∧ n0 = nI j) (hwf : WF D cl V) : MV l D b 5 jX12_goesOut [.ref (b + 100), .int n0] N V 0 0 (fun N9 V9 => N = N9 ∧ JR D b N cl [(122, 123, 0, 1000000), (101, 101, 209, 209), (101, 101, 0, 191), (100, 100, 39, 39), (101, 101, 192, 207), (100, 100, 38, 38)] V V9) := by
  have hJ0 : JR D b N cl [(122, 123, 0, 1000000), (101, 101, 209, 209), (101, 101, 0, 191), (100, 100, 39, 39), (101, 101, 192, 207), (100, 100, 38, 38)] V V := JR.rf hW
  obtain ⟨i0, hi0, rfl⟩ := hn0
  refine mw_of (by decide) (by simp [Value.category]) (Nat.le_of_ble_eq_true rfl) ?_
  show AW l D b jX12_goesOut (fx_rm 5 0 0) none (fx_MQ D b 0 0 (fx_qv (fun N9 V9 => N = N9 ∧ JR D b N cl [(122, 123, 0, 1000000), (101, 101, 209, 209), (101, 101, 0, 191), (100, 100, 39, 39), (101, 101, 192, 207), (100, 100, 38, 38)] V V9))) 0 [some (.ref (b + 100)), some (.int (nI i0)), none, none] [] N V 0 0
  refine aw_aload_n dX12_goesOut_0 rfl ?_
  obtain ⟨ftoldPeople_1, ftoldDoors_1, fwasDoors_1, ffault_1, fopen_1, flines_1, fmeantSet_1, fopenedNow_1, fvainNow_1, flowNow_1, fhighNow_1, fisKept_1, tad_1, pl0_1, le0_1, nu0_1, coy_1, wag_1, say_1, e_1, hntad_1, hnpl0_1, hnle0_1, hnnu0_1, hncoy_1, hnwag_1, hnsay_1⟩ := JR.get hJ0 cm_100
  refine aw_get dX12_goesOut_1 fl_X12_7 e_1 (by omega) rfl ?_
  refine aw_sipush (v := 209) dX12_goesOut_4 (by decide) ?_
  refine aw_sipush (v := 25173) dX12_goesOut_7 (by decide) ?_
  refine aw_aload_n dX12_goesOut_10 rfl ?_
  refine aw_get dX12_goesOut_11 fl_X12_7 e_1 (by omega) rfl ?_
  refine aw_sipush (v := 209) dX12_goesOut_14 (by decide) ?_
  obtain ⟨g_2, e_2⟩ := JR.get hJ0 cm_101
  refine aw_iald (v := (g_2 209)) dX12_goesOut_17 e_2 (by omega) (vp_in_nI (n := 209) (N := 210) (by decide) (by decide)) (congrArg g_2 (nI_clamp (n := 209) (by omega))) ?_
  refine aw_imul dX12_goesOut_18 ?_
  refine aw_sipush (v := 13849) dX12_goesOut_19 (by decide) ?_
  refine aw_iadd dX12_goesOut_22 ?_
  refine aw_ldcw (v := 65536) dX12_goesOut_23 tb_1383 ?_
  refine aw_irem dX12_goesOut_26 (by decide) ?_
  refine aw_iast dX12_goesOut_27 e_2 (by omega) (vp_in_nI (n := 209) (N := 210) (by decide) (by decide)) ?_
  refine aw_upR hJ0 cm_101 ⟨_, rfl⟩ (by decide) (WE e_2 (LMs LM0) (by decide) (by decide) (by decide) (by decide)) (fun V_3 j_3 k_3 e_3 => ?_)
  refine aw_aload_n dX12_goesOut_28 rfl ?_
  refine aw_get dX12_goesOut_29 fl_X12_7 ((k_3 _ (by decide)).trans e_1) (by omega) rfl ?_
  refine aw_sipush (v := 209) dX12_goesOut_32 (by decide) ?_
  refine aw_iald (v := ((upd g_2 (Int32.toNatClampNeg 209) (((25173 * (g_2 209)) + 13849) - ((25173 * (g_2 209)) + 13849) / 65536 * 65536)) 209)) dX12_goesOut_35 e_3 (by omega) (vp_in_nI (n := 209) (N := 210) (by decide) (by decide)) (congrArg (upd g_2 (Int32.toNatClampNeg 209) (((25173 * (g_2 209)) + 13849) - ((25173 * (g_2 209)) + 13849) / 65536 * 65536)) (nI_clamp (n := 209) (by omega))) ?_
  refine aw_bipush (v := 10) dX12_goesOut_36 (by decide) ?_
  refine aw_irem dX12_goesOut_38 (by decide) ?_
  refine aw_istore_n (ls' := [some (.ref (b + 100)), some (.int (nI i0)), some (.int (((upd g_2 (Int32.toNatClampNeg 209) (((25173 * (g_2 209)) + 13849) - ((25173 * (g_2 209)) + 13849) / 65536 * 65536)) 209) - ((upd g_2 (Int32.toNatClampNeg 209) (((25173 * (g_2 209)) + 13849) - ((25173 * (g_2 209)) + 13849) / 65536 * 65536)) 209) / 10 * 10)), none]) dX12_goesOut_39 (Nat.le_of_ble_eq_true rfl) rfl ?_
  refine aw_aload_n dX12_goesOut_40 rfl ?_
  refine aw_iload_n dX12_goesOut_41 rfl ?_
  refine aw_iload_n dX12_goesOut_42 rfl ?_
  refine aw_callVv (J' := jX12_feels) (As := [.int (nI i0), .int (((upd g_2 (Int32.toNatClampNeg 209) (((25173 * (g_2 209)) + 13849) - ((25173 * (g_2 209)) + 13849) / 65536 * 65536)) 209) - ((upd g_2 (Int32.toNatClampNeg 209) (((25173 * (g_2 209)) + 13849) - ((25173 * (g_2 209)) + 13849) / 65536 * 65536)) 209) / 10 * 10)]) (st := []) dX12_goesOut_43 tb_1384 ok_X12_feels ⟨_, ((k_3 _ (by decide)).trans e_1)⟩ (by omega) rfl rfl (r_feels l D b N V_3 hN cl j_3.1 (nI i0) ⟨i0, by omega, rfl⟩ (((upd g_2 (Int32.toNatClampNeg 209) (((25173 * (g_2 209)) + 13849) - ((25173 * (g_2 209)) + 13849) / 65536 * 65536)) 209) - ((upd g_2 (Int32.toNatClampNeg 209) (((25173 * (g_2 209)) + 13849) - ((25173 * (g_2 209)) + 13849) / 65536 * 65536)) 209) / 10 * 10)) rfl (Nat.le_of_ble_eq_true rfl) ⟨Nat.le_of_ble_eq_true rfl, Nat.le_of_ble_eq_true rfl, Nat.le_of_ble_eq_true rfl, Nat.le_of_ble_eq_true rfl⟩ (fun  N_8 V_7 q_9 => ?_)
  obtain ⟨h_5, rfl, q_4⟩ := q_9
  have j_6 := JR.trans j_3 (JR.weak q_4 (Sub.cons LM0 (by decide) (by decide) (by decide) (Or.inl rfl) Sub.nil))
  refine aw_aload_n dX12_goesOut_46 rfl ?_
  refine aw_bipush (v := 120) dX12_goesOut_47 (by decide) ?_
  obtain ⟨ftoldPeople_14, ftoldDoors_14, fwasDoors_14, ffault_14, fopen_14, flines_14, fmeantSet_14, fopenedNow_14, fvainNow_14, flowNow_14, fhighNow_14, fisKept_14, tad_14, pl0_14, le0_14, nu0_14, coy_14, wag_14, say_14, e_14, hntad_14, hnpl0_14, hnle0_14, hnnu0_14, hncoy_14, hnwag_14, hnsay_14⟩ := JR.get j_6 cm_100
  refine aw_callVi (J' := jX12_holdsAny) (As := [.int 120]) (st := []) dX12_goesOut_49 tb_1399 ok_X12_holdsAny ⟨_, e_14⟩ (by omega) rfl rfl (r_holdsAny l D b N V_7 hN cl j_6.1 120 (WF.fr hwf j_6.2.2.1)) rfl (Nat.le_of_ble_eq_true rfl) ⟨Nat.le_of_ble_eq_true rfl, Nat.le_of_ble_eq_true rfl, Nat.le_of_ble_eq_true rfl, Nat.le_of_ble_eq_true rfl⟩ (fun r_15 N_16 V_13 q_17 => ?_)
  obtain ⟨h_11, rfl, q_10⟩ := q_17
  have j_12 := JR.trans j_6 (JR.weak q_10 (Sub.cons LM0 (by decide) (by decide) (by decide) (Or.inl rfl) Sub.nil))
  refine aw_if_eq (tgt := 56) dX12_goesOut_52 (by decide) (fun c_18 => ?_) (fun c_18 => ?_)
  · skip
    refine aw_aload_n dX12_goesOut_56 rfl ?_
    refine aw_iload_n dX12_goesOut_57 rfl ?_
    refine aw_iload_n dX12_goesOut_58 rfl ?_
    obtain ⟨ftoldPeople_23, ftoldDoors_23, fwasDoors_23, ffault_23, fopen_23, flines_23, fmeantSet_23, fopenedNow_23, fvainNow_23, flowNow_23, fhighNow_23, fisKept_23, tad_23, pl0_23, le0_23, nu0_23, coy_23, wag_23, say_23, e_23, hntad_23, hnpl0_23, hnle0_23, hnnu0_23, hncoy_23, hnwag_23, hnsay_23⟩ := JR.get j_12 cm_100
    refine aw_callVi (J' := jX12_likedMost) (As := [.int (nI i0), .int (((upd g_2 (Int32.toNatClampNeg 209) (((25173 * (g_2 209)) + 13849) - ((25173 * (g_2 209)) + 13849) / 65536 * 65536)) 209) - ((upd g_2 (Int32.toNatClampNeg 209) (((25173 * (g_2 209)) + 13849) - ((25173 * (g_2 209)) + 13849) / 65536 * 65536)) 209) / 10 * 10)]) (st := []) dX12_goesOut_59 tb_1410 ok_X12_likedMost ⟨_, e_23⟩ (by omega) rfl rfl (r_likedMost l D b N V_13 hN cl j_12.1 (nI i0) ⟨i0, by omega, rfl⟩ (((upd g_2 (Int32.toNatClampNeg 209) (((25173 * (g_2 209)) + 13849) - ((25173 * (g_2 209)) + 13849) / 65536 * 65536)) 209) - ((upd g_2 (Int32.toNatClampNeg 209) (((25173 * (g_2 209)) + 13849) - ((25173 * (g_2 209)) + 13849) / 65536 * 65536)) 209) / 10 * 10) (WF.fr hwf j_12.2.2.1)) rfl (Nat.le_of_ble_eq_true rfl) ⟨Nat.le_of_ble_eq_true rfl, Nat.le_of_ble_eq_true rfl, Nat.le_of_ble_eq_true rfl, Nat.le_of_ble_eq_true rfl⟩ (fun r_24 N_25 V_22 q_26 => ?_)
    obtain ⟨h_20, rfl, q_19⟩ := q_26
    have j_21 := JR.trans j_12 (JR.weak q_19 (Sub.cons LM0 (by decide) (by decide) (by decide) (Or.inl rfl) Sub.nil))
    refine aw_istore_n (ls' := [some (.ref (b + 100)), some (.int (nI i0)), some (.int (((upd g_2 (Int32.toNatClampNeg 209) (((25173 * (g_2 209)) + 13849) - ((25173 * (g_2 209)) + 13849) / 65536 * 65536)) 209) - ((upd g_2 (Int32.toNatClampNeg 209) (((25173 * (g_2 209)) + 13849) - ((25173 * (g_2 209)) + 13849) / 65536 * 65536)) 209) / 10 * 10)), some (.int r_24)]) dX12_goesOut_62 (Nat.le_of_ble_eq_true rfl) rfl ?_
    refine aw_iload_n dX12_goesOut_63 rfl ?_
    refine aw_iconst (v := (-1)) dX12_goesOut_64 (by decide) ?_
    refine aw_icmp_eq (tgt := 75) dX12_goesOut_65 (by decide) (fun c_27 => ?_) (fun c_27 => ?_)
    · skip
      refine aw_vreti dX12_goesOut_75 rfl (Nat.le_of_ble_eq_true rfl) (Nat.le_of_ble_eq_true rfl) ?_
      exact ⟨rfl, j_21⟩
    · skip
      refine aw_aload_n dX12_goesOut_68 rfl ?_
      refine aw_iload_n dX12_goesOut_69 rfl ?_
      refine aw_iload_n dX12_goesOut_70 rfl ?_
      refine aw_iload_n dX12_goesOut_71 rfl ?_
      obtain ⟨ftoldPeople_31, ftoldDoors_31, fwasDoors_31, ffault_31, fopen_31, flines_31, fmeantSet_31, fopenedNow_31, fvainNow_31, flowNow_31, fhighNow_31, fisKept_31, tad_31, pl0_31, le0_31, nu0_31, coy_31, wag_31, say_31, e_31, hntad_31, hnpl0_31, hnle0_31, hnnu0_31, hncoy_31, hnwag_31, hnsay_31⟩ := JR.get j_21 cm_100
      refine aw_callVv (J' := jX12_triesDoor) (As := [.int (nI i0), .int r_24, .int (((upd g_2 (Int32.toNatClampNeg 209) (((25173 * (g_2 209)) + 13849) - ((25173 * (g_2 209)) + 13849) / 65536 * 65536)) 209) - ((upd g_2 (Int32.toNatClampNeg 209) (((25173 * (g_2 209)) + 13849) - ((25173 * (g_2 209)) + 13849) / 65536 * 65536)) 209) / 10 * 10)]) (st := []) dX12_goesOut_72 tb_1422 ok_X12_triesDoor ⟨_, e_31⟩ (by omega) rfl rfl (r_triesDoor l D b N V_22 hN cl j_21.1 (nI i0) ⟨i0, by omega, rfl⟩ r_24 (h_20.resolve_left c_27) (((upd g_2 (Int32.toNatClampNeg 209) (((25173 * (g_2 209)) + 13849) - ((25173 * (g_2 209)) + 13849) / 65536 * 65536)) 209) - ((upd g_2 (Int32.toNatClampNeg 209) (((25173 * (g_2 209)) + 13849) - ((25173 * (g_2 209)) + 13849) / 65536 * 65536)) 209) / 10 * 10) (WF.fr hwf j_21.2.2.1)) rfl (Nat.le_of_ble_eq_true rfl) ⟨Nat.le_of_ble_eq_true rfl, Nat.le_of_ble_eq_true rfl, Nat.le_of_ble_eq_true rfl, Nat.le_of_ble_eq_true rfl⟩ (fun  N_32 V_30 q_33 => ?_)
      obtain ⟨rfl, q_28⟩ := q_33
      have j_29 := JR.trans j_21 (JR.weak q_28 (Sub.cons LM0 (by decide) (by decide) (by decide) (Or.inl rfl) (Sub.cons (LMs (LMs LM0)) (by decide) (by decide) (by decide) (Or.inr ⟨by decide, by decide⟩) (Sub.cons (LMs (LMs (LMs LM0))) (by decide) (by decide) (by decide) (Or.inr ⟨by decide, by decide⟩) (Sub.cons (LMs (LMs (LMs (LMs LM0)))) (by decide) (by decide) (by decide) (Or.inr ⟨by decide, by decide⟩) (Sub.cons (LMs (LMs (LMs (LMs (LMs LM0))))) (by decide) (by decide) (by decide) (Or.inr ⟨by decide, by decide⟩) Sub.nil))))))
      refine aw_vreti dX12_goesOut_75 rfl (Nat.le_of_ble_eq_true rfl) (Nat.le_of_ble_eq_true rfl) ?_
      exact ⟨rfl, j_29⟩
  · skip
    refine aw_vreti dX12_goesOut_55 rfl (Nat.le_of_ble_eq_true rfl) (Nat.le_of_ble_eq_true rfl) ?_
    exact ⟨rfl, j_12⟩

set_option maxHeartbeats 4000000 in
set_option maxRecDepth 100000 in
theorem r_caughtBy (l : Launch) (D : va_G) (b : Nat) (N : Nat) (V : Wd) (hN : 133 ≤ N) (cl : Nat) (hW : CR D b cl V) (n0 : Int32) (hn0 : ∃ j : Nat, j < 12 ∧ n0 = nI j) (n1 : Int32) (hn1 : ∃ j : Nat, j < 12 ∧ n1 = nI j) (hwf : WF D cl V) : MI l D b 3 jX12_caughtBy [.ref (b + 100), .int n0, .int n1] N V 0 0 (fun r N9 V9 => N = N9 ∧ JR D b N cl [(122, 123, 0, 1000000)] V V9) := by
  have hJ0 : JR D b N cl [(122, 123, 0, 1000000)] V V := JR.rf hW
  obtain ⟨i0, hi0, rfl⟩ := hn0
  obtain ⟨i1, hi1, rfl⟩ := hn1
  refine mw_of (by decide) (by simp [Value.category]) (Nat.le_of_ble_eq_true rfl) ?_
  show AW l D b jX12_caughtBy (fx_rm 3 0 0) none (fx_MQ D b 0 0 (fx_qi (fun r N9 V9 => N = N9 ∧ JR D b N cl [(122, 123, 0, 1000000)] V V9))) 0 [some (.ref (b + 100)), some (.int (nI i0)), some (.int (nI i1))] [] N V 0 0
  refine aw_aload_n dX12_caughtBy_0 rfl ?_
  obtain ⟨ftoldPeople_1, ftoldDoors_1, fwasDoors_1, ffault_1, fopen_1, flines_1, fmeantSet_1, fopenedNow_1, fvainNow_1, flowNow_1, fhighNow_1, fisKept_1, tad_1, pl0_1, le0_1, nu0_1, coy_1, wag_1, say_1, e_1, hntad_1, hnpl0_1, hnle0_1, hnnu0_1, hncoy_1, hnwag_1, hnsay_1⟩ := JR.get hJ0 cm_100
  refine aw_get dX12_caughtBy_1 fl_X12_80 e_1 (by omega) rfl ?_
  refine aw_iload_n dX12_caughtBy_4 rfl ?_
  obtain ⟨g_2, e_2, p_2⟩ := JR.get hJ0 cm_124
  refine aw_iald (v := (g_2 i1)) dX12_caughtBy_5 e_2 (by omega) (vp_in_nI (n := i1) (by omega) (by omega)) (congrArg g_2 (nI_clamp (n := i1) (by omega))) ?_
  refine aw_iconst (v := (-1)) dX12_caughtBy_6 (by decide) ?_
  refine aw_icmp_ne (tgt := 12) dX12_caughtBy_7 (by decide) (fun c_3 => ?_) (fun c_3 => ?_)
  · skip
    refine aw_aload_n dX12_caughtBy_12 rfl ?_
    refine aw_iload_n dX12_caughtBy_13 rfl ?_
    refine aw_iconst (v := 0) dX12_caughtBy_14 (by decide) ?_
    refine aw_callVv (J' := jX12_feels) (As := [.int (nI i0), .int 0]) (st := []) dX12_caughtBy_15 tb_1384 ok_X12_feels ⟨_, e_1⟩ (by omega) rfl rfl (r_feels l D b N V hN cl hJ0.1 (nI i0) ⟨i0, by omega, rfl⟩ 0) rfl (Nat.le_of_ble_eq_true rfl) ⟨Nat.le_of_ble_eq_true rfl, Nat.le_of_ble_eq_true rfl, Nat.le_of_ble_eq_true rfl, Nat.le_of_ble_eq_true rfl⟩ (fun  N_8 V_7 q_9 => ?_)
    obtain ⟨h_5, rfl, q_4⟩ := q_9
    have j_6 := JR.trans hJ0 (JR.weak q_4 (Sub.cons LM0 (by decide) (by decide) (by decide) (Or.inl rfl) Sub.nil))
    refine aw_aload_n dX12_caughtBy_18 rfl ?_
    obtain ⟨ftoldPeople_10, ftoldDoors_10, fwasDoors_10, ffault_10, fopen_10, flines_10, fmeantSet_10, fopenedNow_10, fvainNow_10, flowNow_10, fhighNow_10, fisKept_10, tad_10, pl0_10, le0_10, nu0_10, coy_10, wag_10, say_10, e_10, hntad_10, hnpl0_10, hnle0_10, hnnu0_10, hncoy_10, hnwag_10, hnsay_10⟩ := JR.get j_6 cm_100
    refine aw_get dX12_caughtBy_19 fl_X12_77 e_10 (by omega) rfl ?_
    refine aw_iconst (v := 1) dX12_caughtBy_22 (by decide) ?_
    refine aw_iload_n dX12_caughtBy_23 rfl ?_
    obtain ⟨g_11, e_11⟩ := JR.get j_6 cm_123
    refine aw_iast dX12_caughtBy_24 e_11 (by omega) (vp_in_nI (n := 1) (N := 10) (by decide) (by decide)) ?_
    refine aw_upR j_6 cm_123 ⟨_, rfl⟩ (by decide) (WA LM0 (by decide) (by decide)) (fun V_12 j_12 k_12 e_12 => ?_)
    refine aw_aload_n dX12_caughtBy_25 rfl ?_
    refine aw_get dX12_caughtBy_26 fl_X12_77 ((k_12 _ (by decide)).trans e_10) (by omega) rfl ?_
    refine aw_iconst (v := 2) dX12_caughtBy_29 (by decide) ?_
    refine aw_aload_n dX12_caughtBy_30 rfl ?_
    refine aw_get dX12_caughtBy_31 fl_X12_80 ((k_12 _ (by decide)).trans e_10) (by omega) rfl ?_
    refine aw_iload_n dX12_caughtBy_34 rfl ?_
    refine aw_iald (v := (g_2 i1)) dX12_caughtBy_35 ((k_12 _ (by decide)).trans (h_5.trans e_2)) (by omega) (vp_in_nI (n := i1) (by omega) (by omega)) (congrArg g_2 (nI_clamp (n := i1) (by omega))) ?_
    refine aw_iast dX12_caughtBy_36 e_12 (by omega) (vp_in_nI (n := 2) (N := 10) (by decide) (by decide)) ?_
    refine aw_upR j_12 cm_123 ⟨_, rfl⟩ (by decide) (WA LM0 (by decide) (by decide)) (fun V_13 j_13 k_13 e_13 => ?_)
    refine aw_aload_n dX12_caughtBy_37 rfl ?_
    refine aw_get dX12_caughtBy_38 fl_X12_77 ((k_13 _ (by decide)).trans ((k_12 _ (by decide)).trans e_10)) (by omega) rfl ?_
    refine aw_iconst (v := 3) dX12_caughtBy_41 (by decide) ?_
    refine aw_aload_n dX12_caughtBy_42 rfl ?_
    refine aw_iload_n dX12_caughtBy_43 rfl ?_
    refine aw_aload_n dX12_caughtBy_44 rfl ?_
    refine aw_get dX12_caughtBy_45 fl_X12_80 ((k_13 _ (by decide)).trans ((k_12 _ (by decide)).trans e_10)) (by omega) rfl ?_
    refine aw_iload_n dX12_caughtBy_48 rfl ?_
    refine aw_iald (v := (g_2 i1)) dX12_caughtBy_49 ((k_13 _ (by decide)).trans ((k_12 _ (by decide)).trans (h_5.trans e_2))) (by omega) (vp_in_nI (n := i1) (by omega) (by omega)) (congrArg g_2 (nI_clamp (n := i1) (by omega))) ?_
    refine aw_callVi (J' := jX12_dread) (As := [.int (nI i0), .int (g_2 i1)]) (st := [.int 3, .ref (b + 123)]) dX12_caughtBy_50 tb_1392 ok_X12_dread ⟨_, ((k_13 _ (by decide)).trans ((k_12 _ (by decide)).trans e_10))⟩ (by omega) rfl rfl (r_dread l D b N V_13 hN cl j_13.1 (nI i0) ⟨i0, by omega, rfl⟩ (g_2 i1) ((p_2 _ (by omega)).resolve_left c_3)) rfl (Nat.le_of_ble_eq_true rfl) ⟨Nat.le_of_ble_eq_true rfl, Nat.le_of_ble_eq_true rfl, Nat.le_of_ble_eq_true rfl, Nat.le_of_ble_eq_true rfl⟩ (fun r_15 N_16 V_17 q_18 => ?_)
    obtain ⟨rfl, rfl⟩ := q_18
    refine aw_iast dX12_caughtBy_53 e_13 (by omega) (vp_in_nI (n := 3) (N := 10) (by decide) (by decide)) ?_
    refine aw_upR j_13 cm_123 ⟨_, rfl⟩ (by decide) (WA LM0 (by decide) (by decide)) (fun V_19 j_19 k_19 e_19 => ?_)
    refine aw_aload_n dX12_caughtBy_54 rfl ?_
    refine aw_bipush (v := 115) dX12_caughtBy_55 (by decide) ?_
    refine aw_bipush (v := 99) dX12_caughtBy_57 (by decide) ?_
    refine aw_callVi (J' := jX12_byLaw) (As := [.int 115, .int 99]) (st := []) dX12_caughtBy_59 tb_1418 ok_X12_byLaw ⟨_, ((k_19 _ (by decide)).trans ((k_13 _ (by decide)).trans ((k_12 _ (by decide)).trans e_10)))⟩ (by omega) rfl rfl (r_byLaw l D b N V_19 hN cl j_19.1 115 99 (WF.fr hwf j_19.2.2.1)) rfl (Nat.le_of_ble_eq_true rfl) ⟨Nat.le_of_ble_eq_true rfl, Nat.le_of_ble_eq_true rfl, Nat.le_of_ble_eq_true rfl, Nat.le_of_ble_eq_true rfl⟩ (fun r_23 N_24 V_22 q_25 => ?_)
    obtain ⟨rfl, q_20⟩ := q_25
    have j_21 := JR.trans j_19 (JR.weak q_20 (Sub.cons LM0 (by decide) (by decide) (by decide) (Or.inl rfl) Sub.nil))
    refine aw_ireti dX12_caughtBy_62 rfl (Nat.le_of_ble_eq_true rfl) (Nat.le_of_ble_eq_true rfl) ?_
    exact ⟨rfl, j_21⟩
  · skip
    refine aw_iconst (v := 0) dX12_caughtBy_10 (by decide) ?_
    refine aw_ireti dX12_caughtBy_11 rfl (Nat.le_of_ble_eq_true rfl) (Nat.le_of_ble_eq_true rfl) ?_
    exact ⟨rfl, hJ0⟩

set_option maxHeartbeats 4000000 in
set_option maxRecDepth 100000 in
theorem r_catches (l : Launch) (D : va_G) (b : Nat) (N : Nat) (V : Wd) (hN : 133 ≤ N) (cl : Nat) (hW : CR D b cl V)  (hwf : WF D cl V) : MV l D b 4 jX12_catches [.ref (b + 100)] N V 0 0 (fun N9 V9 => N = N9 ∧ JR D b N cl [(122, 125, 0, 1000000), (101, 101, 0, 191)] V V9) := by
  have hJ0 : JR D b N cl [(122, 125, 0, 1000000), (101, 101, 0, 191)] V V := JR.rf hW
  refine mw_of (by decide) (by simp [Value.category]) (Nat.le_of_ble_eq_true rfl) ?_
  show AW l D b jX12_catches (fx_rm 4 0 0) none (fx_MQ D b 0 0 (fx_qv (fun N9 V9 => N = N9 ∧ JR D b N cl [(122, 125, 0, 1000000), (101, 101, 0, 191)] V V9))) 0 [some (.ref (b + 100)), none, none, none, none] [] N V 0 0
  refine aw_iconst (v := 0) dX12_catches_0 (by decide) ?_
  refine aw_istore_n (ls' := [some (.ref (b + 100)), some (.int 0), none, none, none]) dX12_catches_1 (Nat.le_of_ble_eq_true rfl) rfl ?_
  have loop_2_0 : ∀ (g_2 : Nat), ∀ (j2 : Nat)  (V2 : Wd), j2 + g_2 = 12 → (JR D b N cl [(122, 125, 0, 1000000), (101, 101, 0, 191)] V V2) → AW l D b jX12_catches (fx_rm 4 0 0) none (fx_MQ D b 0 0 (fx_qv (fun N9 V9 => N = N9 ∧ JR D b N cl [(122, 125, 0, 1000000), (101, 101, 0, 191)] V V9))) 2 [some (.ref (b + 100)), some (.int (nI j2)), none, none, none] [] N V2 0 0 := by
    intro g_2
    induction g_2 with
    | zero =>
      intro j2  V2 hj2 i2_0
      obtain rfl : j2 = 12 := by omega
      refine aw_iload_n dX12_catches_2 rfl ?_
      refine aw_bipush (v := 12) dX12_catches_3 (by decide) ?_
      refine aw_icmp_ge (tgt := 37) dX12_catches_5 (by decide) (fun c_3 => ?_) (fun c_3 => ?_)
      rotate_left
      · exact absurd (nI_le (a := 12) (b := 12) (Nat.le_refl _) (by omega)) c_3
      refine aw_iconst (v := 0) dX12_catches_37 (by decide) ?_
      refine aw_istore_n (ls' := [some (.ref (b + 100)), some (.int 0), none, none, none]) dX12_catches_38 (Nat.le_of_ble_eq_true rfl) rfl ?_
      have loop_39_3 : ∀ (g_39 : Nat), ∀ (j39 : Nat)  (V39 : Wd), j39 + g_39 = 144 → (JR D b N cl [(122, 125, 0, 1000000), (101, 101, 0, 191)] V V39) → AW l D b jX12_catches (fx_rm 4 0 0) none (fx_MQ D b 0 0 (fx_qv (fun N9 V9 => N = N9 ∧ JR D b N cl [(122, 125, 0, 1000000), (101, 101, 0, 191)] V V9))) 39 [some (.ref (b + 100)), some (.int (nI j39)), none, none, none] [] N V39 0 0 := by
        intro g_39
        induction g_39 with
        | zero =>
          intro j39  V39 hj39 i39_0
          obtain rfl : j39 = 144 := by omega
          refine aw_iload_n dX12_catches_39 rfl ?_
          refine aw_sipush (v := 144) dX12_catches_40 (by decide) ?_
          refine aw_icmp_ge (tgt := 89) dX12_catches_43 (by decide) (fun c_6 => ?_) (fun c_6 => ?_)
          rotate_left
          · exact absurd (nI_le (a := 144) (b := 144) (Nat.le_refl _) (by omega)) c_6
          refine aw_iconst (v := 0) dX12_catches_89 (by decide) ?_
          refine aw_istore_n (ls' := [some (.ref (b + 100)), some (.int 0), none, none, none]) dX12_catches_90 (Nat.le_of_ble_eq_true rfl) rfl ?_
          have loop_91_6 : ∀ (g_91 : Nat), ∀ (j91 : Nat)  (V91 : Wd), j91 + g_91 = 144 → (JR D b N cl [(122, 125, 0, 1000000), (101, 101, 0, 191)] V V91) → AW l D b jX12_catches (fx_rm 4 0 0) none (fx_MQ D b 0 0 (fx_qv (fun N9 V9 => N = N9 ∧ JR D b N cl [(122, 125, 0, 1000000), (101, 101, 0, 191)] V V9))) 91 [some (.ref (b + 100)), some (.int (nI j91)), none, none, none] [] N V91 0 0 := by
            intro g_91
            induction g_91 with
            | zero =>
              intro j91  V91 hj91 i91_0
              obtain rfl : j91 = 144 := by omega
              refine aw_iload_n dX12_catches_91 rfl ?_
              refine aw_sipush (v := 144) dX12_catches_92 (by decide) ?_
              refine aw_icmp_ge (tgt := 181) dX12_catches_95 (by decide) (fun c_9 => ?_) (fun c_9 => ?_)
              rotate_left
              · exact absurd (nI_le (a := 144) (b := 144) (Nat.le_refl _) (by omega)) c_9
              refine aw_vreti dX12_catches_181 rfl (Nat.le_of_ble_eq_true rfl) (Nat.le_of_ble_eq_true rfl) ?_
              exact ⟨rfl, i91_0⟩
            | succ g_91 ih_91_7 =>
              intro j91  V91 hj91 i91_0
              have hlj91 : j91 < 144 := by omega
              refine aw_iload_n dX12_catches_91 rfl ?_
              refine aw_sipush (v := 144) dX12_catches_92 (by decide) ?_
              refine aw_icmp_ge (tgt := 181) dX12_catches_95 (by decide) (fun c_10 => ?_) (fun c_10 => ?_)
              · exact absurd c_10 (nI_ge (a := j91) (b := 144) (by omega) (by omega))
              refine aw_iload_n dX12_catches_98 rfl ?_
              refine aw_bipush (v := 12) dX12_catches_99 (by decide) ?_
              refine aw_idiv dX12_catches_101 (by decide) ?_
              refine aw_eqi (y := (nI (j91 / 12))) (pk_div (by omega) (by decide) (by decide)) ?_
              refine aw_istore_n (ls' := [some (.ref (b + 100)), some (.int (nI j91)), some (.int (nI (j91 / 12))), none, none]) dX12_catches_102 (Nat.le_of_ble_eq_true rfl) rfl ?_
              refine aw_iload_n dX12_catches_103 rfl ?_
              refine aw_bipush (v := 12) dX12_catches_104 (by decide) ?_
              refine aw_irem dX12_catches_106 (by decide) ?_
              refine aw_eqi (y := (nI (j91 % 12))) (pk_rem (by omega) (by decide) (by decide)) ?_
              refine aw_istore_n (ls' := [some (.ref (b + 100)), some (.int (nI j91)), some (.int (nI (j91 / 12))), some (.int (nI (j91 % 12))), none]) dX12_catches_107 (Nat.le_of_ble_eq_true rfl) rfl ?_
              refine aw_aload_n dX12_catches_108 rfl ?_
              obtain ⟨ftoldPeople_11, ftoldDoors_11, fwasDoors_11, ffault_11, fopen_11, flines_11, fmeantSet_11, fopenedNow_11, fvainNow_11, flowNow_11, fhighNow_11, fisKept_11, tad_11, pl0_11, le0_11, nu0_11, coy_11, wag_11, say_11, e_11, hntad_11, hnpl0_11, hnle0_11, hnnu0_11, hncoy_11, hnwag_11, hnsay_11⟩ := JR.get i91_0 cm_100
              refine aw_get dX12_catches_109 fl_X12_19 e_11 (by omega) rfl ?_
              refine aw_iload_n dX12_catches_112 rfl ?_
              obtain ⟨g_12, e_12, p_12⟩ := JR.get i91_0 cm_104
              refine aw_iald (v := (g_12 (j91 / 12))) dX12_catches_113 e_12 (by omega) (vp_in_nI (n := (j91 / 12)) (by omega) (by omega)) (congrArg g_12 (nI_clamp (n := (j91 / 12)) (by omega))) ?_
              refine aw_iload_n dX12_catches_114 rfl ?_
              refine aw_callSi (J' := jX12_has) (As := [.int (g_12 (j91 / 12)), .int (nI (j91 % 12))]) (st := []) dX12_catches_115 tb_1315 ok_X12_has rfl (r_has l D b N V91 hN cl i91_0.1 (g_12 (j91 / 12)) (nI (j91 % 12))) rfl (Nat.le_of_ble_eq_true rfl) ⟨Nat.le_of_ble_eq_true rfl, Nat.le_of_ble_eq_true rfl, Nat.le_of_ble_eq_true rfl, Nat.le_of_ble_eq_true rfl⟩ (fun r_15 N_16 V_17 q_18 => ?_)
              obtain ⟨h_14, rfl, rfl⟩ := q_18
              refine aw_if_eq (tgt := 175) dX12_catches_118 (by decide) (fun c_19 => ?_) (fun c_19 => ?_)
              · skip
                refine aw_iinc (v := (nI (j91 + 1))) (ls' := [some (.ref (b + 100)), some (.int (nI (j91 + 1))), some (.int (nI (j91 / 12))), some (.int (nI (j91 % 12))), none]) dX12_catches_175 rfl (fx_up_1 _) (Nat.le_of_ble_eq_true rfl) rfl ?_
                refine aw_goto (tgt := 91) dX12_catches_178 (by decide) ?_
                refine aw_le ?_ (ih_91_7 (j91 + 1)  V91 (by omega) (i91_0))
                exact ⟨rfl, ⟨rfl, trivial⟩⟩
              · skip
                refine aw_aload_n dX12_catches_121 rfl ?_
                refine aw_get dX12_catches_122 fl_X12_80 e_11 (by omega) rfl ?_
                refine aw_iload_n dX12_catches_125 rfl ?_
                obtain ⟨g_20, e_20, p_20⟩ := JR.get i91_0 cm_124
                refine aw_iald (v := (g_20 (j91 % 12))) dX12_catches_126 e_20 (by omega) (vp_in_nI (n := (j91 % 12)) (by omega) (by omega)) (congrArg g_20 (nI_clamp (n := (j91 % 12)) (by omega))) ?_
                refine aw_iconst (v := (-1)) dX12_catches_127 (by decide) ?_
                refine aw_icmp_ne (tgt := 134) dX12_catches_128 (by decide) (fun c_21 => ?_) (fun c_21 => ?_)
                · skip
                  refine aw_iconst (v := 0) dX12_catches_134 (by decide) ?_
                  refine aw_bipush (v := 16) dX12_catches_135 (by decide) ?_
                  refine aw_iload_n dX12_catches_137 rfl ?_
                  refine aw_imul dX12_catches_138 ?_
                  refine aw_eqi (y := nI (16 * (j91 / 12))) (pk_mul _ _) ?_
                  refine aw_iadd dX12_catches_139 ?_
                  refine aw_eqi (y := nI (0 + (16 * (j91 / 12)))) (nI_add _ _) ?_
                  refine aw_aload_n dX12_catches_140 rfl ?_
                  refine aw_get dX12_catches_141 fl_X12_80 e_11 (by omega) rfl ?_
                  refine aw_iload_n dX12_catches_144 rfl ?_
                  refine aw_iald (v := (g_20 (j91 % 12))) dX12_catches_145 e_20 (by omega) (vp_in_nI (n := (j91 % 12)) (by omega) (by omega)) (congrArg g_20 (nI_clamp (n := (j91 % 12)) (by omega))) ?_
                  obtain ⟨z_22, hz_22, ez_22⟩ := ((p_20 _ (by omega)).resolve_left c_21)
                  refine aw_eqi ez_22 ?_
                  refine aw_iadd dX12_catches_146 ?_
                  refine aw_eqi (y := nI ((0 + (16 * (j91 / 12))) + z_22)) (nI_add _ _) ?_
                  refine aw_istore (ls' := [some (.ref (b + 100)), some (.int (nI j91)), some (.int (nI (j91 / 12))), some (.int (nI (j91 % 12))), some (.int (nI ((0 + (16 * (j91 / 12))) + z_22)))]) dX12_catches_147 (Nat.le_of_ble_eq_true rfl) rfl ?_
                  refine aw_aload_n dX12_catches_149 rfl ?_
                  refine aw_get dX12_catches_150 fl_X12_7 e_11 (by omega) rfl ?_
                  refine aw_iload dX12_catches_153 rfl ?_
                  refine aw_bipush (v := 99) dX12_catches_155 (by decide) ?_
                  refine aw_aload_n dX12_catches_157 rfl ?_
                  refine aw_get dX12_catches_158 fl_X12_7 e_11 (by omega) rfl ?_
                  refine aw_iload dX12_catches_161 rfl ?_
                  obtain ⟨g_23, e_23⟩ := JR.get i91_0 cm_101
                  refine aw_iald (v := (g_23 ((0 + (16 * (j91 / 12))) + z_22))) dX12_catches_163 e_23 (by omega) (vp_in_nI (n := ((0 + (16 * (j91 / 12))) + z_22)) (by omega) (by omega)) (congrArg g_23 (nI_clamp (n := ((0 + (16 * (j91 / 12))) + z_22)) (by omega))) ?_
                  refine aw_aload_n dX12_catches_164 rfl ?_
                  refine aw_get dX12_catches_165 fl_X12_83 e_11 (by omega) rfl ?_
                  refine aw_iload_n dX12_catches_168 rfl ?_
                  obtain ⟨g_24, e_24⟩ := JR.get i91_0 cm_125
                  refine aw_iald (v := (g_24 j91)) dX12_catches_169 e_24 (by omega) (vp_in_nI (n := j91) (by omega) (by omega)) (congrArg g_24 (nI_clamp (n := j91) (by omega))) ?_
                  refine aw_iadd dX12_catches_170 ?_
                  refine aw_callSi (J' := jX12_min) (As := [.int 99, .int ((g_23 ((0 + (16 * (j91 / 12))) + z_22)) + (g_24 j91))]) (st := [.int (nI ((0 + (16 * (j91 / 12))) + z_22)), .ref (b + 101)]) dX12_catches_171 tb_1325 ok_X12_min rfl (r_min l D b N V91 hN cl i91_0.1 99 ((g_23 ((0 + (16 * (j91 / 12))) + z_22)) + (g_24 j91))) rfl (Nat.le_of_ble_eq_true rfl) ⟨Nat.le_of_ble_eq_true rfl, Nat.le_of_ble_eq_true rfl, Nat.le_of_ble_eq_true rfl, Nat.le_of_ble_eq_true rfl⟩ (fun r_26 N_27 V_28 q_29 => ?_)
                  obtain ⟨rfl, rfl⟩ := q_29
                  refine aw_iast dX12_catches_174 e_23 (by omega) (vp_in_nI (n := ((0 + (16 * (j91 / 12))) + z_22)) (by omega) (by omega)) ?_
                  refine aw_upR i91_0 cm_101 ⟨_, rfl⟩ (by decide) (WE e_23 (LMs LM0) (by decide) (by decide) (by rw [nI_clamp (n := ((0 + (16 * (j91 / 12))) + z_22)) (by omega)]; omega) (by rw [nI_clamp (n := ((0 + (16 * (j91 / 12))) + z_22)) (by omega)]; omega)) (fun V_30 j_30 k_30 e_30 => ?_)
                  refine aw_iinc (v := (nI (j91 + 1))) (ls' := [some (.ref (b + 100)), some (.int (nI (j91 + 1))), some (.int (nI (j91 / 12))), some (.int (nI (j91 % 12))), some (.int (nI ((0 + (16 * (j91 / 12))) + z_22)))]) dX12_catches_175 rfl (fx_up_1 _) (Nat.le_of_ble_eq_true rfl) rfl ?_
                  refine aw_goto (tgt := 91) dX12_catches_178 (by decide) ?_
                  refine aw_le ?_ (ih_91_7 (j91 + 1)  V_30 (by omega) (j_30))
                  exact ⟨rfl, ⟨rfl, trivial⟩⟩
                · skip
                  refine aw_goto (tgt := 175) dX12_catches_131 (by decide) ?_
                  refine aw_iinc (v := (nI (j91 + 1))) (ls' := [some (.ref (b + 100)), some (.int (nI (j91 + 1))), some (.int (nI (j91 / 12))), some (.int (nI (j91 % 12))), none]) dX12_catches_175 rfl (fx_up_1 _) (Nat.le_of_ble_eq_true rfl) rfl ?_
                  refine aw_goto (tgt := 91) dX12_catches_178 (by decide) ?_
                  refine aw_le ?_ (ih_91_7 (j91 + 1)  V91 (by omega) (i91_0))
                  exact ⟨rfl, ⟨rfl, trivial⟩⟩
          refine aw_le ?_ (loop_91_6 144 0  V39 (by omega) (i39_0))
          exact ⟨rfl, ⟨rfl, trivial⟩⟩
        | succ g_39 ih_39_4 =>
          intro j39  V39 hj39 i39_0
          have hlj39 : j39 < 144 := by omega
          refine aw_iload_n dX12_catches_39 rfl ?_
          refine aw_sipush (v := 144) dX12_catches_40 (by decide) ?_
          refine aw_icmp_ge (tgt := 89) dX12_catches_43 (by decide) (fun c_31 => ?_) (fun c_31 => ?_)
          · exact absurd c_31 (nI_ge (a := j39) (b := 144) (by omega) (by omega))
          refine aw_aload_n dX12_catches_46 rfl ?_
          obtain ⟨ftoldPeople_32, ftoldDoors_32, fwasDoors_32, ffault_32, fopen_32, flines_32, fmeantSet_32, fopenedNow_32, fvainNow_32, flowNow_32, fhighNow_32, fisKept_32, tad_32, pl0_32, le0_32, nu0_32, coy_32, wag_32, say_32, e_32, hntad_32, hnpl0_32, hnle0_32, hnnu0_32, hncoy_32, hnwag_32, hnsay_32⟩ := JR.get i39_0 cm_100
          refine aw_get dX12_catches_47 fl_X12_19 e_32 (by omega) rfl ?_
          refine aw_iload_n dX12_catches_50 rfl ?_
          refine aw_bipush (v := 12) dX12_catches_51 (by decide) ?_
          refine aw_idiv dX12_catches_53 (by decide) ?_
          refine aw_eqi (y := (nI (j39 / 12))) (pk_div (by omega) (by decide) (by decide)) ?_
          obtain ⟨g_33, e_33, p_33⟩ := JR.get i39_0 cm_104
          refine aw_iald (v := (g_33 (j39 / 12))) dX12_catches_54 e_33 (by omega) (vp_in_nI (n := (j39 / 12)) (by omega) (by omega)) (congrArg g_33 (nI_clamp (n := (j39 / 12)) (by omega))) ?_
          refine aw_iload_n dX12_catches_55 rfl ?_
          refine aw_bipush (v := 12) dX12_catches_56 (by decide) ?_
          refine aw_irem dX12_catches_58 (by decide) ?_
          refine aw_eqi (y := (nI (j39 % 12))) (pk_rem (by omega) (by decide) (by decide)) ?_
          refine aw_callSi (J' := jX12_has) (As := [.int (g_33 (j39 / 12)), .int (nI (j39 % 12))]) (st := []) dX12_catches_59 tb_1315 ok_X12_has rfl (r_has l D b N V39 hN cl i39_0.1 (g_33 (j39 / 12)) (nI (j39 % 12))) rfl (Nat.le_of_ble_eq_true rfl) ⟨Nat.le_of_ble_eq_true rfl, Nat.le_of_ble_eq_true rfl, Nat.le_of_ble_eq_true rfl, Nat.le_of_ble_eq_true rfl⟩ (fun r_36 N_37 V_38 q_39 => ?_)
          obtain ⟨h_35, rfl, rfl⟩ := q_39
          refine aw_if_eq (tgt := 83) dX12_catches_62 (by decide) (fun c_40 => ?_) (fun c_40 => ?_)
          · skip
            refine aw_iinc (v := (nI (j39 + 1))) (ls' := [some (.ref (b + 100)), some (.int (nI (j39 + 1))), none, none, none]) dX12_catches_83 rfl (fx_up_1 _) (Nat.le_of_ble_eq_true rfl) rfl ?_
            refine aw_goto (tgt := 39) dX12_catches_86 (by decide) ?_
            refine aw_le ?_ (ih_39_4 (j39 + 1)  V39 (by omega) (i39_0))
            exact ⟨rfl, ⟨rfl, trivial⟩⟩
          · skip
            refine aw_aload_n dX12_catches_65 rfl ?_
            refine aw_get dX12_catches_66 fl_X12_83 e_32 (by omega) rfl ?_
            refine aw_iload_n dX12_catches_69 rfl ?_
            refine aw_aload_n dX12_catches_70 rfl ?_
            refine aw_iload_n dX12_catches_71 rfl ?_
            refine aw_bipush (v := 12) dX12_catches_72 (by decide) ?_
            refine aw_idiv dX12_catches_74 (by decide) ?_
            refine aw_eqi (y := (nI (j39 / 12))) (pk_div (by omega) (by decide) (by decide)) ?_
            refine aw_iload_n dX12_catches_75 rfl ?_
            refine aw_bipush (v := 12) dX12_catches_76 (by decide) ?_
            refine aw_irem dX12_catches_78 (by decide) ?_
            refine aw_eqi (y := (nI (j39 % 12))) (pk_rem (by omega) (by decide) (by decide)) ?_
            refine aw_callVi (J' := jX12_caughtBy) (As := [.int (nI (j39 / 12)), .int (nI (j39 % 12))]) (st := [.int (nI j39), .ref (b + 125)]) dX12_catches_79 tb_1438 ok_X12_caughtBy ⟨_, e_32⟩ (by omega) rfl rfl (r_caughtBy l D b N V39 hN cl i39_0.1 (nI (j39 / 12)) ⟨(j39 / 12), by omega, rfl⟩ (nI (j39 % 12)) ⟨(j39 % 12), by omega, rfl⟩ (WF.fr hwf i39_0.2.2.1)) rfl (Nat.le_of_ble_eq_true rfl) ⟨Nat.le_of_ble_eq_true rfl, Nat.le_of_ble_eq_true rfl, Nat.le_of_ble_eq_true rfl, Nat.le_of_ble_eq_true rfl⟩ (fun r_44 N_45 V_43 q_46 => ?_)
            obtain ⟨rfl, q_41⟩ := q_46
            have j_42 := JR.trans i39_0 (JR.weak q_41 (Sub.cons LM0 (by decide) (by decide) (by decide) (Or.inl rfl) Sub.nil))
            obtain ⟨g_47, e_47⟩ := JR.get j_42 cm_125
            refine aw_iast dX12_catches_82 e_47 (by omega) (vp_in_nI (n := j39) (by omega) (by omega)) ?_
            refine aw_upR j_42 cm_125 ⟨_, rfl⟩ (by decide) (WA LM0 (by decide) (by decide)) (fun V_48 j_48 k_48 e_48 => ?_)
            refine aw_iinc (v := (nI (j39 + 1))) (ls' := [some (.ref (b + 100)), some (.int (nI (j39 + 1))), none, none, none]) dX12_catches_83 rfl (fx_up_1 _) (Nat.le_of_ble_eq_true rfl) rfl ?_
            refine aw_goto (tgt := 39) dX12_catches_86 (by decide) ?_
            refine aw_le ?_ (ih_39_4 (j39 + 1)  V_48 (by omega) (j_48))
            exact ⟨rfl, ⟨rfl, trivial⟩⟩
      refine aw_le ?_ (loop_39_3 144 0  V2 (by omega) (i2_0))
      exact ⟨rfl, ⟨rfl, trivial⟩⟩
    | succ g_2 ih_2_1 =>
      intro j2  V2 hj2 i2_0
      have hlj2 : j2 < 12 := by omega
      refine aw_iload_n dX12_catches_2 rfl ?_
      refine aw_bipush (v := 12) dX12_catches_3 (by decide) ?_
      refine aw_icmp_ge (tgt := 37) dX12_catches_5 (by decide) (fun c_49 => ?_) (fun c_49 => ?_)
      · exact absurd c_49 (nI_ge (a := j2) (b := 12) (by omega) (by omega))
      refine aw_aload_n dX12_catches_8 rfl ?_
      obtain ⟨ftoldPeople_50, ftoldDoors_50, fwasDoors_50, ffault_50, fopen_50, flines_50, fmeantSet_50, fopenedNow_50, fvainNow_50, flowNow_50, fhighNow_50, fisKept_50, tad_50, pl0_50, le0_50, nu0_50, coy_50, wag_50, say_50, e_50, hntad_50, hnpl0_50, hnle0_50, hnnu0_50, hncoy_50, hnwag_50, hnsay_50⟩ := JR.get i2_0 cm_100
      refine aw_get dX12_catches_9 fl_X12_80 e_50 (by omega) rfl ?_
      refine aw_iload_n dX12_catches_12 rfl ?_
      refine aw_aload_n dX12_catches_13 rfl ?_
      refine aw_iload_n dX12_catches_14 rfl ?_
      refine aw_callVi (J' := jX12_isTold) (As := [.int (nI j2)]) (st := [.int (nI j2), .ref (b + 124)]) dX12_catches_15 tb_1351 ok_X12_isTold ⟨_, e_50⟩ (by omega) rfl rfl (r_isTold l D b N V2 hN cl i2_0.1 (nI j2)) rfl (Nat.le_of_ble_eq_true rfl) ⟨Nat.le_of_ble_eq_true rfl, Nat.le_of_ble_eq_true rfl, Nat.le_of_ble_eq_true rfl, Nat.le_of_ble_eq_true rfl⟩ (fun r_54 N_55 V_56 q_57 => ?_)
      obtain ⟨⟨z_53, h_52⟩, rfl, rfl⟩ := q_57
      refine aw_if_eq (tgt := 29) dX12_catches_18 (by decide) (fun c_58 => ?_) (fun c_58 => ?_)
      · skip
        refine aw_iconst (v := (-1)) dX12_catches_29 (by decide) ?_
        obtain ⟨g_59, e_59, p_59⟩ := JR.get i2_0 cm_124
        refine aw_iast dX12_catches_30 e_59 (by omega) (vp_in_nI (n := j2) (by omega) (by omega)) ?_
        refine aw_upR i2_0 cm_124 ⟨_, rfl, isP_upd (P := (fun v => v = -1 ∨ ∃ k : Nat, k < 16 ∧ v = nI k)) p_59 (Or.inl rfl)⟩ (by decide) (WA LM0 (by decide) (by decide)) (fun V_60 j_60 k_60 e_60 => ?_)
        refine aw_iinc (v := (nI (j2 + 1))) (ls' := [some (.ref (b + 100)), some (.int (nI (j2 + 1))), none, none, none]) dX12_catches_31 rfl (fx_up_1 _) (Nat.le_of_ble_eq_true rfl) rfl ?_
        refine aw_goto (tgt := 2) dX12_catches_34 (by decide) ?_
        refine aw_le ?_ (ih_2_1 (j2 + 1)  V_60 (by omega) (j_60))
        exact ⟨rfl, ⟨rfl, trivial⟩⟩
      · skip
        refine aw_aload_n dX12_catches_21 rfl ?_
        refine aw_iload_n dX12_catches_22 rfl ?_
        refine aw_callVi (J' := jX12_fearOf) (As := [.int (nI j2)]) (st := [.int (nI j2), .ref (b + 124)]) dX12_catches_23 tb_1430 ok_X12_fearOf ⟨_, e_50⟩ (by omega) rfl rfl (r_fearOf l D b N V2 hN cl i2_0.1 (nI j2) ⟨j2, by omega, rfl⟩) rfl (Nat.le_of_ble_eq_true rfl) ⟨Nat.le_of_ble_eq_true rfl, Nat.le_of_ble_eq_true rfl, Nat.le_of_ble_eq_true rfl, Nat.le_of_ble_eq_true rfl⟩ (fun r_64 N_65 V_66 q_67 => ?_)
        obtain ⟨h_63, rfl, rfl⟩ := q_67
        refine aw_goto (tgt := 30) dX12_catches_26 (by decide) ?_
        obtain ⟨g_68, e_68, p_68⟩ := JR.get i2_0 cm_124
        refine aw_iast dX12_catches_30 e_68 (by omega) (vp_in_nI (n := j2) (by omega) (by omega)) ?_
        refine aw_upR i2_0 cm_124 ⟨_, rfl, isP_upd (P := (fun v => v = -1 ∨ ∃ k : Nat, k < 16 ∧ v = nI k)) p_68 h_63⟩ (by decide) (WA LM0 (by decide) (by decide)) (fun V_69 j_69 k_69 e_69 => ?_)
        refine aw_iinc (v := (nI (j2 + 1))) (ls' := [some (.ref (b + 100)), some (.int (nI (j2 + 1))), none, none, none]) dX12_catches_31 rfl (fx_up_1 _) (Nat.le_of_ble_eq_true rfl) rfl ?_
        refine aw_goto (tgt := 2) dX12_catches_34 (by decide) ?_
        refine aw_le ?_ (ih_2_1 (j2 + 1)  V_69 (by omega) (j_69))
        exact ⟨rfl, ⟨rfl, trivial⟩⟩
  refine aw_le ?_ (loop_2_0 12 0  V (by omega) (hJ0))
  exact ⟨rfl, ⟨rfl, trivial⟩⟩

set_option maxHeartbeats 4000000 in
set_option maxRecDepth 100000 in
theorem r_nightGoes (l : Launch) (D : va_G) (b : Nat) (N : Nat) (V : Wd) (hN : 133 ≤ N) (cl : Nat) (hW : CR D b cl V)  (hwf : WF D cl V) : MV l D b 6 jX12_nightGoes [.ref (b + 100)] N V 0 0 (fun N9 V9 => N = N9 ∧ JR D b N cl [(122, 125, 0, 1000000), (101, 101, 0, 191), (101, 101, 208, 208), (101, 101, 209, 209), (100, 100, 39, 39), (101, 101, 192, 207), (100, 100, 38, 38)] V V9) := by
  have hJ0 : JR D b N cl [(122, 125, 0, 1000000), (101, 101, 0, 191), (101, 101, 208, 208), (101, 101, 209, 209), (100, 100, 39, 39), (101, 101, 192, 207), (100, 100, 38, 38)] V V := JR.rf hW
  refine mw_of (by decide) (by simp [Value.category]) (Nat.le_of_ble_eq_true rfl) ?_
  show AW l D b jX12_nightGoes (fx_rm 6 0 0) none (fx_MQ D b 0 0 (fx_qv (fun N9 V9 => N = N9 ∧ JR D b N cl [(122, 125, 0, 1000000), (101, 101, 0, 191), (101, 101, 208, 208), (101, 101, 209, 209), (100, 100, 39, 39), (101, 101, 192, 207), (100, 100, 38, 38)] V V9))) 0 [some (.ref (b + 100)), none] [] N V 0 0
  refine aw_iconst (v := 0) dX12_nightGoes_0 (by decide) ?_
  refine aw_istore_n (ls' := [some (.ref (b + 100)), some (.int 0)]) dX12_nightGoes_1 (Nat.le_of_ble_eq_true rfl) rfl ?_
  have loop_2_0 : ∀ (g_2 : Nat), ∀ (j2 : Nat)  (V2 : Wd), j2 + g_2 = 12 → (JR D b N cl [(122, 125, 0, 1000000), (101, 101, 0, 191), (101, 101, 208, 208), (101, 101, 209, 209), (100, 100, 39, 39), (101, 101, 192, 207), (100, 100, 38, 38)] V V2) → AW l D b jX12_nightGoes (fx_rm 6 0 0) none (fx_MQ D b 0 0 (fx_qv (fun N9 V9 => N = N9 ∧ JR D b N cl [(122, 125, 0, 1000000), (101, 101, 0, 191), (101, 101, 208, 208), (101, 101, 209, 209), (100, 100, 39, 39), (101, 101, 192, 207), (100, 100, 38, 38)] V V9))) 2 [some (.ref (b + 100)), some (.int (nI j2))] [] N V2 0 0 := by
    intro g_2
    induction g_2 with
    | zero =>
      intro j2  V2 hj2 i2_0
      obtain rfl : j2 = 12 := by omega
      refine aw_iload_n dX12_nightGoes_2 rfl ?_
      refine aw_bipush (v := 12) dX12_nightGoes_3 (by decide) ?_
      refine aw_icmp_ge (tgt := 27) dX12_nightGoes_5 (by decide) (fun c_3 => ?_) (fun c_3 => ?_)
      rotate_left
      · exact absurd (nI_le (a := 12) (b := 12) (Nat.le_refl _) (by omega)) c_3
      refine aw_aload_n dX12_nightGoes_27 rfl ?_
      obtain ⟨ftoldPeople_7, ftoldDoors_7, fwasDoors_7, ffault_7, fopen_7, flines_7, fmeantSet_7, fopenedNow_7, fvainNow_7, flowNow_7, fhighNow_7, fisKept_7, tad_7, pl0_7, le0_7, nu0_7, coy_7, wag_7, say_7, e_7, hntad_7, hnpl0_7, hnle0_7, hnnu0_7, hncoy_7, hnwag_7, hnsay_7⟩ := JR.get i2_0 cm_100
      refine aw_callVv (J' := jX12_catches) (As := []) (st := []) dX12_nightGoes_28 tb_1434 ok_X12_catches ⟨_, e_7⟩ (by omega) rfl rfl (r_catches l D b N V2 hN cl i2_0.1 (WF.fr hwf i2_0.2.2.1)) rfl (Nat.le_of_ble_eq_true rfl) ⟨Nat.le_of_ble_eq_true rfl, Nat.le_of_ble_eq_true rfl, Nat.le_of_ble_eq_true rfl, Nat.le_of_ble_eq_true rfl⟩ (fun  N_8 V_6 q_9 => ?_)
      obtain ⟨rfl, q_4⟩ := q_9
      have j_5 := JR.trans i2_0 (JR.weak q_4 (Sub.cons LM0 (by decide) (by decide) (by decide) (Or.inl rfl) (Sub.cons (LMs LM0) (by decide) (by decide) (by decide) (Or.inr ⟨by decide, by decide⟩) Sub.nil)))
      refine aw_aload_n dX12_nightGoes_31 rfl ?_
      obtain ⟨ftoldPeople_10, ftoldDoors_10, fwasDoors_10, ffault_10, fopen_10, flines_10, fmeantSet_10, fopenedNow_10, fvainNow_10, flowNow_10, fhighNow_10, fisKept_10, tad_10, pl0_10, le0_10, nu0_10, coy_10, wag_10, say_10, e_10, hntad_10, hnpl0_10, hnle0_10, hnnu0_10, hncoy_10, hnwag_10, hnsay_10⟩ := JR.get j_5 cm_100
      refine aw_get dX12_nightGoes_32 fl_X12_7 e_10 (by omega) rfl ?_
      refine aw_sipush (v := 208) dX12_nightGoes_35 (by decide) ?_
      refine aw_aload_n dX12_nightGoes_38 rfl ?_
      refine aw_get dX12_nightGoes_39 fl_X12_7 e_10 (by omega) rfl ?_
      refine aw_sipush (v := 208) dX12_nightGoes_42 (by decide) ?_
      obtain ⟨g_11, e_11⟩ := JR.get j_5 cm_101
      refine aw_iald (v := (g_11 208)) dX12_nightGoes_45 e_11 (by omega) (vp_in_nI (n := 208) (N := 210) (by decide) (by decide)) (congrArg g_11 (nI_clamp (n := 208) (by omega))) ?_
      refine aw_iconst (v := 1) dX12_nightGoes_46 (by decide) ?_
      refine aw_iadd dX12_nightGoes_47 ?_
      refine aw_iast dX12_nightGoes_48 e_11 (by omega) (vp_in_nI (n := 208) (N := 210) (by decide) (by decide)) ?_
      refine aw_upR j_5 cm_101 ⟨_, rfl⟩ (by decide) (WE e_11 (LMs (LMs LM0)) (by decide) (by decide) (by decide) (by decide)) (fun V_12 j_12 k_12 e_12 => ?_)
      refine aw_vreti dX12_nightGoes_49 rfl (Nat.le_of_ble_eq_true rfl) (Nat.le_of_ble_eq_true rfl) ?_
      exact ⟨rfl, j_12⟩
    | succ g_2 ih_2_1 =>
      intro j2  V2 hj2 i2_0
      have hlj2 : j2 < 12 := by omega
      refine aw_iload_n dX12_nightGoes_2 rfl ?_
      refine aw_bipush (v := 12) dX12_nightGoes_3 (by decide) ?_
      refine aw_icmp_ge (tgt := 27) dX12_nightGoes_5 (by decide) (fun c_13 => ?_) (fun c_13 => ?_)
      · exact absurd c_13 (nI_ge (a := j2) (b := 12) (by omega) (by omega))
      refine aw_aload_n dX12_nightGoes_8 rfl ?_
      refine aw_iload_n dX12_nightGoes_9 rfl ?_
      obtain ⟨ftoldPeople_17, ftoldDoors_17, fwasDoors_17, ffault_17, fopen_17, flines_17, fmeantSet_17, fopenedNow_17, fvainNow_17, flowNow_17, fhighNow_17, fisKept_17, tad_17, pl0_17, le0_17, nu0_17, coy_17, wag_17, say_17, e_17, hntad_17, hnpl0_17, hnle0_17, hnnu0_17, hncoy_17, hnwag_17, hnsay_17⟩ := JR.get i2_0 cm_100
      refine aw_callVi (J' := jX12_isTold) (As := [.int (nI j2)]) (st := []) dX12_nightGoes_10 tb_1351 ok_X12_isTold ⟨_, e_17⟩ (by omega) rfl rfl (r_isTold l D b N V2 hN cl i2_0.1 (nI j2)) rfl (Nat.le_of_ble_eq_true rfl) ⟨Nat.le_of_ble_eq_true rfl, Nat.le_of_ble_eq_true rfl, Nat.le_of_ble_eq_true rfl, Nat.le_of_ble_eq_true rfl⟩ (fun r_18 N_19 V_20 q_21 => ?_)
      obtain ⟨⟨z_16, h_15⟩, rfl, rfl⟩ := q_21
      refine aw_if_eq (tgt := 21) dX12_nightGoes_13 (by decide) (fun c_22 => ?_) (fun c_22 => ?_)
      · skip
        refine aw_iinc (v := (nI (j2 + 1))) (ls' := [some (.ref (b + 100)), some (.int (nI (j2 + 1)))]) dX12_nightGoes_21 rfl (fx_up_1 _) (Nat.le_of_ble_eq_true rfl) rfl ?_
        refine aw_goto (tgt := 2) dX12_nightGoes_24 (by decide) ?_
        refine aw_le ?_ (ih_2_1 (j2 + 1)  V2 (by omega) (i2_0))
        exact ⟨rfl, ⟨rfl, trivial⟩⟩
      · skip
        refine aw_aload_n dX12_nightGoes_16 rfl ?_
        refine aw_iload_n dX12_nightGoes_17 rfl ?_
        refine aw_callVv (J' := jX12_goesOut) (As := [.int (nI j2)]) (st := []) dX12_nightGoes_18 tb_1379 ok_X12_goesOut ⟨_, e_17⟩ (by omega) rfl rfl (r_goesOut l D b N V2 hN cl i2_0.1 (nI j2) ⟨j2, by omega, rfl⟩ (WF.fr hwf i2_0.2.2.1)) rfl (Nat.le_of_ble_eq_true rfl) ⟨Nat.le_of_ble_eq_true rfl, Nat.le_of_ble_eq_true rfl, Nat.le_of_ble_eq_true rfl, Nat.le_of_ble_eq_true rfl⟩ (fun  N_26 V_25 q_27 => ?_)
        obtain ⟨rfl, q_23⟩ := q_27
        have j_24 := JR.trans i2_0 (JR.weak q_23 (Sub.cons LM0 (by decide) (by decide) (by decide) (Or.inl rfl) (Sub.cons (LMs (LMs (LMs LM0))) (by decide) (by decide) (by decide) (Or.inr ⟨by decide, by decide⟩) (Sub.cons (LMs LM0) (by decide) (by decide) (by decide) (Or.inr ⟨by decide, by decide⟩) (Sub.cons (LMs (LMs (LMs (LMs LM0)))) (by decide) (by decide) (by decide) (Or.inr ⟨by decide, by decide⟩) (Sub.cons (LMs (LMs (LMs (LMs (LMs LM0))))) (by decide) (by decide) (by decide) (Or.inr ⟨by decide, by decide⟩) (Sub.cons (LMs (LMs (LMs (LMs (LMs (LMs LM0)))))) (by decide) (by decide) (by decide) (Or.inr ⟨by decide, by decide⟩) Sub.nil)))))))
        refine aw_iinc (v := (nI (j2 + 1))) (ls' := [some (.ref (b + 100)), some (.int (nI (j2 + 1)))]) dX12_nightGoes_21 rfl (fx_up_1 _) (Nat.le_of_ble_eq_true rfl) rfl ?_
        refine aw_goto (tgt := 2) dX12_nightGoes_24 (by decide) ?_
        refine aw_le ?_ (ih_2_1 (j2 + 1)  V_25 (by omega) (j_24))
        exact ⟨rfl, ⟨rfl, trivial⟩⟩
  refine aw_le ?_ (loop_2_0 12 0  V (by omega) (hJ0))
  exact ⟨rfl, ⟨rfl, trivial⟩⟩

set_option maxHeartbeats 4000000 in
set_option maxRecDepth 100000 in
theorem r_nightsGo (l : Launch) (D : va_G) (b : Nat) (N : Nat) (V : Wd) (hN : 133 ≤ N) (cl : Nat) (hW : CR D b cl V) (n0 : Int32) (hwf : WF D cl V) : MV l D b 7 jX12_nightsGo [.ref (b + 100), .int n0] N V 0 0 (fun N9 V9 => N = N9 ∧ JR D b N cl [(122, 125, 0, 1000000), (100, 100, 38, 38), (100, 100, 39, 39), (101, 101, 0, 191), (101, 101, 208, 208), (101, 101, 209, 209), (101, 101, 192, 207)] V V9) := by
  have hJ0 : JR D b N cl [(122, 125, 0, 1000000), (100, 100, 38, 38), (100, 100, 39, 39), (101, 101, 0, 191), (101, 101, 208, 208), (101, 101, 209, 209), (101, 101, 192, 207)] V V := JR.rf hW
  refine mw_of (by decide) (by simp [Value.category]) (Nat.le_of_ble_eq_true rfl) ?_
  show AW l D b jX12_nightsGo (fx_rm 7 0 0) none (fx_MQ D b 0 0 (fx_qv (fun N9 V9 => N = N9 ∧ JR D b N cl [(122, 125, 0, 1000000), (100, 100, 38, 38), (100, 100, 39, 39), (101, 101, 0, 191), (101, 101, 208, 208), (101, 101, 209, 209), (101, 101, 192, 207)] V V9))) 0 [some (.ref (b + 100)), some (.int n0), none] [] N V 0 0
  refine aw_aload_n dX12_nightsGo_0 rfl ?_
  refine aw_iconst (v := 0) dX12_nightsGo_1 (by decide) ?_
  obtain ⟨ftoldPeople_1, ftoldDoors_1, fwasDoors_1, ffault_1, fopen_1, flines_1, fmeantSet_1, fopenedNow_1, fvainNow_1, flowNow_1, fhighNow_1, fisKept_1, tad_1, pl0_1, le0_1, nu0_1, coy_1, wag_1, say_1, e_1, hntad_1, hnpl0_1, hnle0_1, hnnu0_1, hncoy_1, hnwag_1, hnsay_1⟩ := JR.get hJ0 cm_100
  refine aw_put dX12_nightsGo_2 fp_X12_321 e_1 (by omega) rfl rfl (Nat.le_of_ble_eq_true rfl) rfl ?_
  refine aw_upR hJ0 cm_100 ⟨_, _, _, _, _, _, _, _, _, _, _, _, tad_1, pl0_1, le0_1, nu0_1, coy_1, wag_1, say_1, rfl, by omega, by omega, by omega, by omega, by omega, by omega, by omega⟩ (by decide) (WO (s := 38) (x := .int 0) e_1 rfl (LMs LM0) (by decide) (by decide) (by decide) (Or.inl (by decide))) (fun V_2 j_2 k_2 e_2 => ?_)
  refine aw_aload_n dX12_nightsGo_5 rfl ?_
  refine aw_iconst (v := 0) dX12_nightsGo_6 (by decide) ?_
  refine aw_put dX12_nightsGo_7 fp_X12_324 e_2 (by omega) rfl rfl (Nat.le_of_ble_eq_true rfl) rfl ?_
  refine aw_upR j_2 cm_100 ⟨_, _, _, _, _, _, _, _, _, _, _, _, tad_1, pl0_1, le0_1, nu0_1, coy_1, wag_1, say_1, rfl, by omega, by omega, by omega, by omega, by omega, by omega, by omega⟩ (by decide) (WO (s := 39) (x := .int 0) e_2 rfl (LMs (LMs LM0)) (by decide) (by decide) (by decide) (Or.inl (by decide))) (fun V_3 j_3 k_3 e_3 => ?_)
  refine aw_iconst (v := 0) dX12_nightsGo_10 (by decide) ?_
  refine aw_istore_n (ls' := [some (.ref (b + 100)), some (.int n0), some (.int 0)]) dX12_nightsGo_11 (Nat.le_of_ble_eq_true rfl) rfl ?_
  have hb_4 := fx_clt n0
  have loop_12_4 : ∀ (g_12 : Nat), ∀ (j12 : Nat)  (V12 : Wd), j12 + g_12 = (Int32.toNatClampNeg n0) → (JR D b N cl [(122, 125, 0, 1000000), (100, 100, 38, 38), (100, 100, 39, 39), (101, 101, 0, 191), (101, 101, 208, 208), (101, 101, 209, 209), (101, 101, 192, 207)] V V12) → AW l D b jX12_nightsGo (fx_rm 7 0 0) none (fx_MQ D b 0 0 (fx_qv (fun N9 V9 => N = N9 ∧ JR D b N cl [(122, 125, 0, 1000000), (100, 100, 38, 38), (100, 100, 39, 39), (101, 101, 0, 191), (101, 101, 208, 208), (101, 101, 209, 209), (101, 101, 192, 207)] V V9))) 12 [some (.ref (b + 100)), some (.int n0), some (.int (nI j12))] [] N V12 0 0 := by
    intro g_12
    induction g_12 with
    | zero =>
      intro j12  V12 hj12 i12_0
      obtain rfl : j12 = (Int32.toNatClampNeg n0) := by omega
      refine aw_iload_n dX12_nightsGo_12 rfl ?_
      refine aw_iload_n dX12_nightsGo_13 rfl ?_
      refine aw_icmp_ge (tgt := 41) dX12_nightsGo_14 (by decide) (fun c_7 => ?_) (fun c_7 => ?_)
      rotate_left
      · exact absurd (fx_gec n0) c_7
      refine aw_vreti dX12_nightsGo_41 rfl (Nat.le_of_ble_eq_true rfl) (Nat.le_of_ble_eq_true rfl) ?_
      exact ⟨rfl, i12_0⟩
    | succ g_12 ih_12_5 =>
      intro j12  V12 hj12 i12_0
      have hlj12 : j12 < (Int32.toNatClampNeg n0) := by omega
      refine aw_iload_n dX12_nightsGo_12 rfl ?_
      refine aw_iload_n dX12_nightsGo_13 rfl ?_
      refine aw_icmp_ge (tgt := 41) dX12_nightsGo_14 (by decide) (fun c_8 => ?_) (fun c_8 => ?_)
      · exact absurd c_8 (fx_gej (by omega))
      refine aw_aload_n dX12_nightsGo_17 rfl ?_
      obtain ⟨ftoldPeople_9, ftoldDoors_9, fwasDoors_9, ffault_9, fopen_9, flines_9, fmeantSet_9, fopenedNow_9, fvainNow_9, flowNow_9, fhighNow_9, fisKept_9, tad_9, pl0_9, le0_9, nu0_9, coy_9, wag_9, say_9, e_9, hntad_9, hnpl0_9, hnle0_9, hnnu0_9, hncoy_9, hnwag_9, hnsay_9⟩ := JR.get i12_0 cm_100
      refine aw_get dX12_nightsGo_18 fl_X12_7 e_9 (by omega) rfl ?_
      refine aw_sipush (v := 208) dX12_nightsGo_21 (by decide) ?_
      obtain ⟨g_10, e_10⟩ := JR.get i12_0 cm_101
      refine aw_iald (v := (g_10 208)) dX12_nightsGo_24 e_10 (by omega) (vp_in_nI (n := 208) (N := 210) (by decide) (by decide)) (congrArg g_10 (nI_clamp (n := 208) (by omega))) ?_
      refine aw_sipush (v := 9999) dX12_nightsGo_25 (by decide) ?_
      refine aw_icmp_ge (tgt := 41) dX12_nightsGo_28 (by decide) (fun c_11 => ?_) (fun c_11 => ?_)
      · skip
        refine aw_vreti dX12_nightsGo_41 rfl (Nat.le_of_ble_eq_true rfl) (Nat.le_of_ble_eq_true rfl) ?_
        exact ⟨rfl, i12_0⟩
      · skip
        refine aw_aload_n dX12_nightsGo_31 rfl ?_
        refine aw_callVv (J' := jX12_nightGoes) (As := []) (st := []) dX12_nightsGo_32 tb_1375 ok_X12_nightGoes ⟨_, e_9⟩ (by omega) rfl rfl (r_nightGoes l D b N V12 hN cl i12_0.1 (WF.fr hwf i12_0.2.2.1)) rfl (Nat.le_of_ble_eq_true rfl) ⟨Nat.le_of_ble_eq_true rfl, Nat.le_of_ble_eq_true rfl, Nat.le_of_ble_eq_true rfl, Nat.le_of_ble_eq_true rfl⟩ (fun  N_15 V_14 q_16 => ?_)
        obtain ⟨rfl, q_12⟩ := q_16
        have j_13 := JR.trans i12_0 (JR.weak q_12 (Sub.cons LM0 (by decide) (by decide) (by decide) (Or.inl rfl) (Sub.cons (LMs (LMs (LMs LM0))) (by decide) (by decide) (by decide) (Or.inr ⟨by decide, by decide⟩) (Sub.cons (LMs (LMs (LMs (LMs LM0)))) (by decide) (by decide) (by decide) (Or.inr ⟨by decide, by decide⟩) (Sub.cons (LMs (LMs (LMs (LMs (LMs LM0))))) (by decide) (by decide) (by decide) (Or.inr ⟨by decide, by decide⟩) (Sub.cons (LMs (LMs LM0)) (by decide) (by decide) (by decide) (Or.inr ⟨by decide, by decide⟩) (Sub.cons (LMs (LMs (LMs (LMs (LMs (LMs LM0)))))) (by decide) (by decide) (by decide) (Or.inr ⟨by decide, by decide⟩) (Sub.cons (LMs LM0) (by decide) (by decide) (by decide) (Or.inr ⟨by decide, by decide⟩) Sub.nil))))))))
        refine aw_iinc (v := (nI (j12 + 1))) (ls' := [some (.ref (b + 100)), some (.int n0), some (.int (nI (j12 + 1)))]) dX12_nightsGo_35 rfl (fx_up_1 _) (Nat.le_of_ble_eq_true rfl) rfl ?_
        refine aw_goto (tgt := 12) dX12_nightsGo_38 (by decide) ?_
        refine aw_le ?_ (ih_12_5 (j12 + 1)  V_14 (by omega) (j_13))
        exact ⟨rfl, ⟨rfl, ⟨rfl, trivial⟩⟩⟩
  refine aw_le ?_ (loop_12_4 (Int32.toNatClampNeg n0) 0  V_3 (by omega) (j_3))
  exact ⟨rfl, ⟨rfl, ⟨rfl, trivial⟩⟩⟩

set_option maxHeartbeats 4000000 in
set_option maxRecDepth 100000 in
theorem r_nights (l : Launch) (D : va_G) (b : Nat) (N : Nat) (V : Wd) (hN : 133 ≤ N) (cl : Nat) (hW : CR D b cl V) (n0 : Int32) (hwf : WF D cl V) : MI l D b 8 jX12_nights [.ref (b + 100), .int n0] N V 0 0 (fun r N9 V9 => N = N9 ∧ JR D b N cl [(122, 125, 0, 1000000), (100, 100, 38, 38), (100, 100, 39, 39), (101, 101, 0, 191), (101, 101, 208, 208), (101, 101, 209, 209), (101, 101, 192, 207)] V V9) := by
  have hJ0 : JR D b N cl [(122, 125, 0, 1000000), (100, 100, 38, 38), (100, 100, 39, 39), (101, 101, 0, 191), (101, 101, 208, 208), (101, 101, 209, 209), (101, 101, 192, 207)] V V := JR.rf hW
  refine mw_of (by decide) (by simp [Value.category]) (Nat.le_of_ble_eq_true rfl) ?_
  show AW l D b jX12_nights (fx_rm 8 0 0) none (fx_MQ D b 0 0 (fx_qi (fun r N9 V9 => N = N9 ∧ JR D b N cl [(122, 125, 0, 1000000), (100, 100, 38, 38), (100, 100, 39, 39), (101, 101, 0, 191), (101, 101, 208, 208), (101, 101, 209, 209), (101, 101, 192, 207)] V V9))) 0 [some (.ref (b + 100)), some (.int n0)] [] N V 0 0
  refine aw_iload_n dX12_nights_0 rfl ?_
  refine aw_iconst (v := 1) dX12_nights_1 (by decide) ?_
  refine aw_bipush (v := 100) dX12_nights_2 (by decide) ?_
  refine aw_callSi (J' := jX12_in) (As := [.int n0, .int 1, .int 100]) (st := []) dX12_nights_4 tb_1209 ok_X12_in rfl (r_in l D b N V hN cl hJ0.1 n0 1 100) rfl (Nat.le_of_ble_eq_true rfl) ⟨Nat.le_of_ble_eq_true rfl, Nat.le_of_ble_eq_true rfl, Nat.le_of_ble_eq_true rfl, Nat.le_of_ble_eq_true rfl⟩ (fun r_4 N_5 V_6 q_7 => ?_)
  obtain ⟨⟨z_3, h_2⟩, rfl, rfl⟩ := q_7
  refine aw_if_ne (tgt := 12) dX12_nights_7 (by decide) (fun c_8 => ?_) (fun c_8 => ?_)
  · skip
    obtain ⟨zn0, h0zn0, hzn0, rfl⟩ := in_nat (a := 1) (b := 100) (by decide) (h_2.resolve_left c_8)
    refine aw_aload_n dX12_nights_12 rfl ?_
    refine aw_iload_n dX12_nights_13 rfl ?_
    obtain ⟨ftoldPeople_12, ftoldDoors_12, fwasDoors_12, ffault_12, fopen_12, flines_12, fmeantSet_12, fopenedNow_12, fvainNow_12, flowNow_12, fhighNow_12, fisKept_12, tad_12, pl0_12, le0_12, nu0_12, coy_12, wag_12, say_12, e_12, hntad_12, hnpl0_12, hnle0_12, hnnu0_12, hncoy_12, hnwag_12, hnsay_12⟩ := JR.get hJ0 cm_100
    refine aw_callVv (J' := jX12_nightsGo) (As := [.int (nI zn0)]) (st := []) dX12_nights_14 tb_1371 ok_X12_nightsGo ⟨_, e_12⟩ (by omega) rfl rfl (r_nightsGo l D b N V hN cl hJ0.1 (nI zn0) (WF.fr hwf hJ0.2.2.1)) rfl (Nat.le_of_ble_eq_true rfl) ⟨Nat.le_of_ble_eq_true rfl, Nat.le_of_ble_eq_true rfl, Nat.le_of_ble_eq_true rfl, Nat.le_of_ble_eq_true rfl⟩ (fun  N_13 V_11 q_14 => ?_)
    obtain ⟨rfl, q_9⟩ := q_14
    have j_10 := JR.trans hJ0 (JR.weak q_9 (Sub.cons LM0 (by decide) (by decide) (by decide) (Or.inl rfl) (Sub.cons (LMs LM0) (by decide) (by decide) (by decide) (Or.inr ⟨by decide, by decide⟩) (Sub.cons (LMs (LMs LM0)) (by decide) (by decide) (by decide) (Or.inr ⟨by decide, by decide⟩) (Sub.cons (LMs (LMs (LMs LM0))) (by decide) (by decide) (by decide) (Or.inr ⟨by decide, by decide⟩) (Sub.cons (LMs (LMs (LMs (LMs LM0)))) (by decide) (by decide) (by decide) (Or.inr ⟨by decide, by decide⟩) (Sub.cons (LMs (LMs (LMs (LMs (LMs LM0))))) (by decide) (by decide) (by decide) (Or.inr ⟨by decide, by decide⟩) (Sub.cons (LMs (LMs (LMs (LMs (LMs (LMs LM0)))))) (by decide) (by decide) (by decide) (Or.inr ⟨by decide, by decide⟩) Sub.nil))))))))
    refine aw_aload_n dX12_nights_17 rfl ?_
    obtain ⟨ftoldPeople_15, ftoldDoors_15, fwasDoors_15, ffault_15, fopen_15, flines_15, fmeantSet_15, fopenedNow_15, fvainNow_15, flowNow_15, fhighNow_15, fisKept_15, tad_15, pl0_15, le0_15, nu0_15, coy_15, wag_15, say_15, e_15, hntad_15, hnpl0_15, hnle0_15, hnnu0_15, hncoy_15, hnwag_15, hnsay_15⟩ := JR.get j_10 cm_100
    refine aw_get dX12_nights_18 fl_X12_321 e_15 (by omega) rfl ?_
    refine aw_ireti dX12_nights_21 rfl (Nat.le_of_ble_eq_true rfl) (Nat.le_of_ble_eq_true rfl) ?_
    exact ⟨rfl, j_10⟩
  · skip
    refine aw_iconst (v := (-1)) dX12_nights_10 (by decide) ?_
    refine aw_ireti dX12_nights_11 rfl (Nat.le_of_ble_eq_true rfl) (Nat.le_of_ble_eq_true rfl) ?_
    exact ⟨rfl, hJ0⟩

set_option maxHeartbeats 4000000 in
set_option maxRecDepth 100000 in
theorem r_tried (l : Launch) (D : va_G) (b : Nat) (N : Nat) (V : Wd) (hN : 133 ≤ N) (cl : Nat) (hW : CR D b cl V) (n0 : Int32) (n1 : Int32) (hwf : WF D cl V) : MI l D b 8 jX12_tried [.ref (b + 100), .int n0, .int n1] N V 0 0 (fun r N9 V9 => N = N9 ∧ JR D b N cl [(101, 102, 0, 1000000), (122, 125, 0, 1000000), (100, 100, 38, 38), (100, 100, 39, 39)] V V9) := by
  have hJ0 : JR D b N cl [(101, 102, 0, 1000000), (122, 125, 0, 1000000), (100, 100, 38, 38), (100, 100, 39, 39)] V V := JR.rf hW
  refine mw_of (by decide) (by simp [Value.category]) (Nat.le_of_ble_eq_true rfl) ?_
  show AW l D b jX12_tried (fx_rm 8 0 0) none (fx_MQ D b 0 0 (fx_qi (fun r N9 V9 => N = N9 ∧ JR D b N cl [(101, 102, 0, 1000000), (122, 125, 0, 1000000), (100, 100, 38, 38), (100, 100, 39, 39)] V V9))) 0 [some (.ref (b + 100)), some (.int n0), some (.int n1), none] [] N V 0 0
  refine aw_iload_n dX12_tried_0 rfl ?_
  refine aw_iconst (v := 1) dX12_tried_1 (by decide) ?_
  refine aw_bipush (v := 100) dX12_tried_2 (by decide) ?_
  refine aw_callSi (J' := jX12_in) (As := [.int n0, .int 1, .int 100]) (st := []) dX12_tried_4 tb_1209 ok_X12_in rfl (r_in l D b N V hN cl hJ0.1 n0 1 100) rfl (Nat.le_of_ble_eq_true rfl) ⟨Nat.le_of_ble_eq_true rfl, Nat.le_of_ble_eq_true rfl, Nat.le_of_ble_eq_true rfl, Nat.le_of_ble_eq_true rfl⟩ (fun r_4 N_5 V_6 q_7 => ?_)
  obtain ⟨⟨z_3, h_2⟩, rfl, rfl⟩ := q_7
  refine aw_if_eq (tgt := 52) dX12_tried_7 (by decide) (fun c_8 => ?_) (fun c_8 => ?_)
  · skip
    refine aw_iconst (v := (-1)) dX12_tried_52 (by decide) ?_
    refine aw_ireti dX12_tried_53 rfl (Nat.le_of_ble_eq_true rfl) (Nat.le_of_ble_eq_true rfl) ?_
    exact ⟨rfl, hJ0⟩
  · skip
    obtain ⟨zn0, h0zn0, hzn0, rfl⟩ := in_nat (a := 1) (b := 100) (by decide) (h_2.resolve_left c_8)
    refine aw_iload_n dX12_tried_10 rfl ?_
    refine aw_iconst (v := 0) dX12_tried_11 (by decide) ?_
    refine aw_iconst (v := 1) dX12_tried_12 (by decide) ?_
    refine aw_callSi (J' := jX12_in) (As := [.int n1, .int 0, .int 1]) (st := []) dX12_tried_13 tb_1209 ok_X12_in rfl (r_in l D b N V hN cl hJ0.1 n1 0 1) rfl (Nat.le_of_ble_eq_true rfl) ⟨Nat.le_of_ble_eq_true rfl, Nat.le_of_ble_eq_true rfl, Nat.le_of_ble_eq_true rfl, Nat.le_of_ble_eq_true rfl⟩ (fun r_12 N_13 V_14 q_15 => ?_)
    obtain ⟨⟨z_11, h_10⟩, rfl, rfl⟩ := q_15
    refine aw_if_ne (tgt := 54) dX12_tried_16 (by decide) (fun c_16 => ?_) (fun c_16 => ?_)
    · skip
      obtain ⟨zn1, h0zn1, hzn1, rfl⟩ := in_nat (a := 0) (b := 1) (by decide) (h_10.resolve_left c_16)
      refine aw_aload_n dX12_tried_54 rfl ?_
      obtain ⟨ftoldPeople_17, ftoldDoors_17, fwasDoors_17, ffault_17, fopen_17, flines_17, fmeantSet_17, fopenedNow_17, fvainNow_17, flowNow_17, fhighNow_17, fisKept_17, tad_17, pl0_17, le0_17, nu0_17, coy_17, wag_17, say_17, e_17, hntad_17, hnpl0_17, hnle0_17, hnnu0_17, hncoy_17, hnwag_17, hnsay_17⟩ := JR.get hJ0 cm_100
      refine aw_get dX12_tried_55 fl_X12_7 e_17 (by omega) rfl ?_
      refine aw_aload_n dX12_tried_58 rfl ?_
      refine aw_get dX12_tried_59 fl_X12_13 e_17 (by omega) rfl ?_
      refine aw_callSv (J' := jX12_copies) (As := [.ref (b + 101), .ref (b + 102)]) (st := []) dX12_tried_62 tb_1299 ok_X12_copies rfl (r_copies l D b N V hN cl hJ0.1 101 1 cm_101 102 2 cm_102 (by decide)) rfl (Nat.le_of_ble_eq_true rfl) ⟨Nat.le_of_ble_eq_true rfl, Nat.le_of_ble_eq_true rfl, Nat.le_of_ble_eq_true rfl, Nat.le_of_ble_eq_true rfl⟩ (fun  N_21 V_20 q_22 => ?_)
      obtain ⟨rfl, q_18⟩ := q_22
      have j_19 := JR.trans hJ0 (JR.weak q_18 (Sub.cons LM0 (by decide) (by decide) (by decide) (Or.inl rfl) Sub.nil))
      refine aw_aload_n dX12_tried_65 rfl ?_
      refine aw_iload_n dX12_tried_66 rfl ?_
      obtain ⟨ftoldPeople_26, ftoldDoors_26, fwasDoors_26, ffault_26, fopen_26, flines_26, fmeantSet_26, fopenedNow_26, fvainNow_26, flowNow_26, fhighNow_26, fisKept_26, tad_26, pl0_26, le0_26, nu0_26, coy_26, wag_26, say_26, e_26, hntad_26, hnpl0_26, hnle0_26, hnnu0_26, hncoy_26, hnwag_26, hnsay_26⟩ := JR.get j_19 cm_100
      refine aw_callVv (J' := jX12_nightsGo) (As := [.int (nI zn0)]) (st := []) dX12_tried_67 tb_1371 ok_X12_nightsGo ⟨_, e_26⟩ (by omega) rfl rfl (r_nightsGo l D b N V_20 hN cl j_19.1 (nI zn0) (WF.fr hwf j_19.2.2.1)) rfl (Nat.le_of_ble_eq_true rfl) ⟨Nat.le_of_ble_eq_true rfl, Nat.le_of_ble_eq_true rfl, Nat.le_of_ble_eq_true rfl, Nat.le_of_ble_eq_true rfl⟩ (fun  N_27 V_25 q_28 => ?_)
      obtain ⟨rfl, q_23⟩ := q_28
      have j_24 := JR.trans j_19 (JR.weak q_23 (Sub.cons (LMs LM0) (by decide) (by decide) (by decide) (Or.inl rfl) (Sub.cons (LMs (LMs LM0)) (by decide) (by decide) (by decide) (Or.inr ⟨by decide, by decide⟩) (Sub.cons (LMs (LMs (LMs LM0))) (by decide) (by decide) (by decide) (Or.inr ⟨by decide, by decide⟩) (Sub.cons LM0 (by decide) (by decide) (by decide) (Or.inl rfl) (Sub.cons LM0 (by decide) (by decide) (by decide) (Or.inl rfl) (Sub.cons LM0 (by decide) (by decide) (by decide) (Or.inl rfl) (Sub.cons LM0 (by decide) (by decide) (by decide) (Or.inl rfl) Sub.nil))))))))
      refine aw_iload_n dX12_tried_70 rfl ?_
      by_cases sw_29 : (nI zn1) = 0
      · skip
        refine aw_eqi sw_29 ?_
        refine aw_lookup (off := 25) (tgt := 96) dX12_tried_71 (by decide) (by decide) (by decide) ?_
        refine aw_aload_n dX12_tried_96 rfl ?_
        obtain ⟨ftoldPeople_30, ftoldDoors_30, fwasDoors_30, ffault_30, fopen_30, flines_30, fmeantSet_30, fopenedNow_30, fvainNow_30, flowNow_30, fhighNow_30, fisKept_30, tad_30, pl0_30, le0_30, nu0_30, coy_30, wag_30, say_30, e_30, hntad_30, hnpl0_30, hnle0_30, hnnu0_30, hncoy_30, hnwag_30, hnsay_30⟩ := JR.get j_24 cm_100
        refine aw_get dX12_tried_97 fl_X12_321 e_30 (by omega) rfl ?_
        refine aw_istore_n (ls' := [some (.ref (b + 100)), some (.int (nI zn0)), some (.int (nI zn1)), some (.int fopenedNow_30)]) dX12_tried_100 (Nat.le_of_ble_eq_true rfl) rfl ?_
        refine aw_goto (tgt := 163) dX12_tried_101 (by decide) ?_
        refine aw_aload_n dX12_tried_163 rfl ?_
        refine aw_get dX12_tried_164 fl_X12_13 e_30 (by omega) rfl ?_
        refine aw_aload_n dX12_tried_167 rfl ?_
        refine aw_get dX12_tried_168 fl_X12_7 e_30 (by omega) rfl ?_
        refine aw_callSv (J' := jX12_copies) (As := [.ref (b + 102), .ref (b + 101)]) (st := []) dX12_tried_171 tb_1299 ok_X12_copies rfl (r_copies l D b N V_25 hN cl j_24.1 102 2 cm_102 101 1 cm_101 (by decide)) rfl (Nat.le_of_ble_eq_true rfl) ⟨Nat.le_of_ble_eq_true rfl, Nat.le_of_ble_eq_true rfl, Nat.le_of_ble_eq_true rfl, Nat.le_of_ble_eq_true rfl⟩ (fun  N_34 V_33 q_35 => ?_)
        obtain ⟨rfl, q_31⟩ := q_35
        have j_32 := JR.trans j_24 (JR.weak q_31 (Sub.cons LM0 (by decide) (by decide) (by decide) (Or.inl rfl) Sub.nil))
        refine aw_iload_n dX12_tried_174 rfl ?_
        refine aw_ireti dX12_tried_175 rfl (Nat.le_of_ble_eq_true rfl) (Nat.le_of_ble_eq_true rfl) ?_
        exact ⟨rfl, j_32⟩
      have nsw_29 : ¬ zn1 = 0 := fun e => sw_29 (congrArg nI e)
      by_cases sw_36 : (nI zn1) = 1
      · skip
        refine aw_eqi sw_36 ?_
        refine aw_lookup (off := 33) (tgt := 104) dX12_tried_71 (by decide) (by decide) (by decide) ?_
        refine aw_aload_n dX12_tried_104 rfl ?_
        obtain ⟨ftoldPeople_37, ftoldDoors_37, fwasDoors_37, ffault_37, fopen_37, flines_37, fmeantSet_37, fopenedNow_37, fvainNow_37, flowNow_37, fhighNow_37, fisKept_37, tad_37, pl0_37, le0_37, nu0_37, coy_37, wag_37, say_37, e_37, hntad_37, hnpl0_37, hnle0_37, hnnu0_37, hncoy_37, hnwag_37, hnsay_37⟩ := JR.get j_24 cm_100
        refine aw_get dX12_tried_105 fl_X12_324 e_37 (by omega) rfl ?_
        refine aw_istore_n (ls' := [some (.ref (b + 100)), some (.int (nI zn0)), some (.int (nI zn1)), some (.int fvainNow_37)]) dX12_tried_108 (Nat.le_of_ble_eq_true rfl) rfl ?_
        refine aw_goto (tgt := 163) dX12_tried_109 (by decide) ?_
        refine aw_aload_n dX12_tried_163 rfl ?_
        refine aw_get dX12_tried_164 fl_X12_13 e_37 (by omega) rfl ?_
        refine aw_aload_n dX12_tried_167 rfl ?_
        refine aw_get dX12_tried_168 fl_X12_7 e_37 (by omega) rfl ?_
        refine aw_callSv (J' := jX12_copies) (As := [.ref (b + 102), .ref (b + 101)]) (st := []) dX12_tried_171 tb_1299 ok_X12_copies rfl (r_copies l D b N V_25 hN cl j_24.1 102 2 cm_102 101 1 cm_101 (by decide)) rfl (Nat.le_of_ble_eq_true rfl) ⟨Nat.le_of_ble_eq_true rfl, Nat.le_of_ble_eq_true rfl, Nat.le_of_ble_eq_true rfl, Nat.le_of_ble_eq_true rfl⟩ (fun  N_41 V_40 q_42 => ?_)
        obtain ⟨rfl, q_38⟩ := q_42
        have j_39 := JR.trans j_24 (JR.weak q_38 (Sub.cons LM0 (by decide) (by decide) (by decide) (Or.inl rfl) Sub.nil))
        refine aw_iload_n dX12_tried_174 rfl ?_
        refine aw_ireti dX12_tried_175 rfl (Nat.le_of_ble_eq_true rfl) (Nat.le_of_ble_eq_true rfl) ?_
        exact ⟨rfl, j_39⟩
      have nsw_36 : ¬ zn1 = 1 := fun e => sw_36 (congrArg nI e)
      have tsw_29 : (nI zn1).toInt ≠ 0 := fx_tne sw_29
      have tsw_36 : (nI zn1).toInt ≠ 1 := fx_tne sw_36
      refine aw_lookup (off := 41) (tgt := 112) dX12_tried_71 (by decide) (by show Op.lookupswitch.offset [(0, 25), (1, 33)] 41 (nI zn1).toInt = 41; simp only [Op.lookupswitch.offset_cons, Op.lookupswitch.offset_nil]; rw [if_neg (Ne.symm tsw_29), if_neg (Ne.symm tsw_36)]) (by decide) ?_
      refine aw_iload_n dX12_tried_112 rfl ?_
      refine aw_bipush (v := 30) dX12_tried_113 (by decide) ?_
      refine aw_icmp_ge (tgt := 132) dX12_tried_115 (by decide) (fun c_43 => ?_) (fun c_43 => ?_)
      · skip
        have nc_43 : 30 ≤ zn1 := (nI_leI (a := 30) (b := zn1) (by omega) (by omega)).mp c_43
        refine aw_iload_n dX12_tried_132 rfl ?_
        refine aw_bipush (v := 50) dX12_tried_133 (by decide) ?_
        refine aw_icmp_ge (tgt := 149) dX12_tried_135 (by decide) (fun c_44 => ?_) (fun c_44 => ?_)
        · skip
          have nc_44 : 50 ≤ zn1 := (nI_leI (a := 50) (b := zn1) (by omega) (by omega)).mp c_44
          refine aw_aload_n dX12_tried_149 rfl ?_
          obtain ⟨ftoldPeople_45, ftoldDoors_45, fwasDoors_45, ffault_45, fopen_45, flines_45, fmeantSet_45, fopenedNow_45, fvainNow_45, flowNow_45, fhighNow_45, fisKept_45, tad_45, pl0_45, le0_45, nu0_45, coy_45, wag_45, say_45, e_45, hntad_45, hnpl0_45, hnle0_45, hnnu0_45, hncoy_45, hnwag_45, hnsay_45⟩ := JR.get j_24 cm_100
          refine aw_get dX12_tried_150 fl_X12_7 e_45 (by omega) rfl ?_
          refine aw_sipush (v := 192) dX12_tried_153 (by decide) ?_
          refine aw_iload_n dX12_tried_156 rfl ?_
          refine aw_iadd dX12_tried_157 ?_
          refine aw_eqi (y := nI (192 + zn1)) (nI_add _ _) ?_
          refine aw_bipush (v := 50) dX12_tried_158 (by decide) ?_
          refine aw_isub dX12_tried_160 ?_
          refine aw_eqi (y := (nI ((192 + zn1) - 50))) (pk_sub (a := (192 + zn1)) (b := 50) (by omega)) ?_
          obtain ⟨g_46, e_46⟩ := JR.get j_24 cm_101
          refine aw_iald (v := (g_46 ((192 + zn1) - 50))) dX12_tried_161 e_46 (by omega) (vp_in_nI (n := ((192 + zn1) - 50)) (by omega) (by omega)) (congrArg g_46 (nI_clamp (n := ((192 + zn1) - 50)) (by omega))) ?_
          refine aw_istore_n (ls' := [some (.ref (b + 100)), some (.int (nI zn0)), some (.int (nI zn1)), some (.int (g_46 ((192 + zn1) - 50)))]) dX12_tried_162 (Nat.le_of_ble_eq_true rfl) rfl ?_
          refine aw_aload_n dX12_tried_163 rfl ?_
          refine aw_get dX12_tried_164 fl_X12_13 e_45 (by omega) rfl ?_
          refine aw_aload_n dX12_tried_167 rfl ?_
          refine aw_get dX12_tried_168 fl_X12_7 e_45 (by omega) rfl ?_
          refine aw_callSv (J' := jX12_copies) (As := [.ref (b + 102), .ref (b + 101)]) (st := []) dX12_tried_171 tb_1299 ok_X12_copies rfl (r_copies l D b N V_25 hN cl j_24.1 102 2 cm_102 101 1 cm_101 (by decide)) rfl (Nat.le_of_ble_eq_true rfl) ⟨Nat.le_of_ble_eq_true rfl, Nat.le_of_ble_eq_true rfl, Nat.le_of_ble_eq_true rfl, Nat.le_of_ble_eq_true rfl⟩ (fun  N_50 V_49 q_51 => ?_)
          obtain ⟨rfl, q_47⟩ := q_51
          have j_48 := JR.trans j_24 (JR.weak q_47 (Sub.cons LM0 (by decide) (by decide) (by decide) (Or.inl rfl) Sub.nil))
          refine aw_iload_n dX12_tried_174 rfl ?_
          refine aw_ireti dX12_tried_175 rfl (Nat.le_of_ble_eq_true rfl) (Nat.le_of_ble_eq_true rfl) ?_
          exact ⟨rfl, j_48⟩
        · skip
          have nc_44 : ¬ (50 ≤ zn1) := fun z => c_44 ((nI_leI (a := 50) (b := zn1) (by omega) (by omega)).mpr z)
          refine aw_aload_n dX12_tried_138 rfl ?_
          refine aw_iload_n dX12_tried_139 rfl ?_
          refine aw_bipush (v := 30) dX12_tried_140 (by decide) ?_
          refine aw_isub dX12_tried_142 ?_
          refine aw_eqi (y := (nI (zn1 - 30))) (pk_sub (a := zn1) (b := 30) (by omega)) ?_
          obtain ⟨ftoldPeople_53, ftoldDoors_53, fwasDoors_53, ffault_53, fopen_53, flines_53, fmeantSet_53, fopenedNow_53, fvainNow_53, flowNow_53, fhighNow_53, fisKept_53, tad_53, pl0_53, le0_53, nu0_53, coy_53, wag_53, say_53, e_53, hntad_53, hnpl0_53, hnle0_53, hnnu0_53, hncoy_53, hnwag_53, hnsay_53⟩ := JR.get j_24 cm_100
          refine aw_callVi (J' := jX12_greatest) (As := [.int (nI (zn1 - 30))]) (st := []) dX12_tried_143 tb_1388 ok_X12_greatest ⟨_, e_53⟩ (by omega) rfl rfl (r_greatest l D b N V_25 hN cl j_24.1 (nI (zn1 - 30)) ⟨(zn1 - 30), by omega, rfl⟩) rfl (Nat.le_of_ble_eq_true rfl) ⟨Nat.le_of_ble_eq_true rfl, Nat.le_of_ble_eq_true rfl, Nat.le_of_ble_eq_true rfl, Nat.le_of_ble_eq_true rfl⟩ (fun r_54 N_55 V_56 q_57 => ?_)
          obtain ⟨rfl, rfl⟩ := q_57
          refine aw_goto (tgt := 162) dX12_tried_146 (by decide) ?_
          refine aw_istore_n (ls' := [some (.ref (b + 100)), some (.int (nI zn0)), some (.int (nI zn1)), some (.int r_54)]) dX12_tried_162 (Nat.le_of_ble_eq_true rfl) rfl ?_
          refine aw_aload_n dX12_tried_163 rfl ?_
          refine aw_get dX12_tried_164 fl_X12_13 e_53 (by omega) rfl ?_
          refine aw_aload_n dX12_tried_167 rfl ?_
          refine aw_get dX12_tried_168 fl_X12_7 e_53 (by omega) rfl ?_
          refine aw_callSv (J' := jX12_copies) (As := [.ref (b + 102), .ref (b + 101)]) (st := []) dX12_tried_171 tb_1299 ok_X12_copies rfl (r_copies l D b N V_25 hN cl j_24.1 102 2 cm_102 101 1 cm_101 (by decide)) rfl (Nat.le_of_ble_eq_true rfl) ⟨Nat.le_of_ble_eq_true rfl, Nat.le_of_ble_eq_true rfl, Nat.le_of_ble_eq_true rfl, Nat.le_of_ble_eq_true rfl⟩ (fun  N_61 V_60 q_62 => ?_)
          obtain ⟨rfl, q_58⟩ := q_62
          have j_59 := JR.trans j_24 (JR.weak q_58 (Sub.cons LM0 (by decide) (by decide) (by decide) (Or.inl rfl) Sub.nil))
          refine aw_iload_n dX12_tried_174 rfl ?_
          refine aw_ireti dX12_tried_175 rfl (Nat.le_of_ble_eq_true rfl) (Nat.le_of_ble_eq_true rfl) ?_
          exact ⟨rfl, j_59⟩
      · skip
        have nc_43 : ¬ (30 ≤ zn1) := fun z => c_43 ((nI_leI (a := 30) (b := zn1) (by omega) (by omega)).mpr z)
        refine aw_aload_n dX12_tried_118 rfl ?_
        refine aw_iload_n dX12_tried_119 rfl ?_
        refine aw_bipush (v := 10) dX12_tried_120 (by decide) ?_
        refine aw_isub dX12_tried_122 ?_
        refine aw_eqi (y := (nI (zn1 - 10))) (pk_sub (a := zn1) (b := 10) (by omega)) ?_
        obtain ⟨ftoldPeople_65, ftoldDoors_65, fwasDoors_65, ffault_65, fopen_65, flines_65, fmeantSet_65, fopenedNow_65, fvainNow_65, flowNow_65, fhighNow_65, fisKept_65, tad_65, pl0_65, le0_65, nu0_65, coy_65, wag_65, say_65, e_65, hntad_65, hnpl0_65, hnle0_65, hnnu0_65, hncoy_65, hnwag_65, hnsay_65⟩ := JR.get j_24 cm_100
        refine aw_callVi (J' := jX12_fearOf) (As := [.int (nI (zn1 - 10))]) (st := []) dX12_tried_123 tb_1430 ok_X12_fearOf ⟨_, e_65⟩ (by omega) rfl rfl (r_fearOf l D b N V_25 hN cl j_24.1 (nI (zn1 - 10)) ⟨(zn1 - 10), by omega, rfl⟩) rfl (Nat.le_of_ble_eq_true rfl) ⟨Nat.le_of_ble_eq_true rfl, Nat.le_of_ble_eq_true rfl, Nat.le_of_ble_eq_true rfl, Nat.le_of_ble_eq_true rfl⟩ (fun r_66 N_67 V_68 q_69 => ?_)
        obtain ⟨h_64, rfl, rfl⟩ := q_69
        refine aw_callSi (J' := jX12_orNone) (As := [.int r_66]) (st := []) dX12_tried_126 tb_1446 ok_X12_orNone rfl (r_orNone l D b N V_25 hN cl j_24.1 r_66) rfl (Nat.le_of_ble_eq_true rfl) ⟨Nat.le_of_ble_eq_true rfl, Nat.le_of_ble_eq_true rfl, Nat.le_of_ble_eq_true rfl, Nat.le_of_ble_eq_true rfl⟩ (fun r_71 N_72 V_73 q_74 => ?_)
        obtain ⟨rfl, rfl⟩ := q_74
        refine aw_goto (tgt := 162) dX12_tried_129 (by decide) ?_
        refine aw_istore_n (ls' := [some (.ref (b + 100)), some (.int (nI zn0)), some (.int (nI zn1)), some (.int r_71)]) dX12_tried_162 (Nat.le_of_ble_eq_true rfl) rfl ?_
        refine aw_aload_n dX12_tried_163 rfl ?_
        refine aw_get dX12_tried_164 fl_X12_13 e_65 (by omega) rfl ?_
        refine aw_aload_n dX12_tried_167 rfl ?_
        refine aw_get dX12_tried_168 fl_X12_7 e_65 (by omega) rfl ?_
        refine aw_callSv (J' := jX12_copies) (As := [.ref (b + 102), .ref (b + 101)]) (st := []) dX12_tried_171 tb_1299 ok_X12_copies rfl (r_copies l D b N V_25 hN cl j_24.1 102 2 cm_102 101 1 cm_101 (by decide)) rfl (Nat.le_of_ble_eq_true rfl) ⟨Nat.le_of_ble_eq_true rfl, Nat.le_of_ble_eq_true rfl, Nat.le_of_ble_eq_true rfl, Nat.le_of_ble_eq_true rfl⟩ (fun  N_78 V_77 q_79 => ?_)
        obtain ⟨rfl, q_75⟩ := q_79
        have j_76 := JR.trans j_24 (JR.weak q_75 (Sub.cons LM0 (by decide) (by decide) (by decide) (Or.inl rfl) Sub.nil))
        refine aw_iload_n dX12_tried_174 rfl ?_
        refine aw_ireti dX12_tried_175 rfl (Nat.le_of_ble_eq_true rfl) (Nat.le_of_ble_eq_true rfl) ?_
        exact ⟨rfl, j_76⟩
    · skip
      refine aw_aload_n dX12_tried_19 rfl ?_
      refine aw_iload_n dX12_tried_20 rfl ?_
      refine aw_bipush (v := 10) dX12_tried_21 (by decide) ?_
      refine aw_isub dX12_tried_23 ?_
      obtain ⟨ftoldPeople_83, ftoldDoors_83, fwasDoors_83, ffault_83, fopen_83, flines_83, fmeantSet_83, fopenedNow_83, fvainNow_83, flowNow_83, fhighNow_83, fisKept_83, tad_83, pl0_83, le0_83, nu0_83, coy_83, wag_83, say_83, e_83, hntad_83, hnpl0_83, hnle0_83, hnnu0_83, hncoy_83, hnwag_83, hnsay_83⟩ := JR.get hJ0 cm_100
      refine aw_callVi (J' := jX12_isTold) (As := [.int (n1 - 10)]) (st := []) dX12_tried_24 tb_1351 ok_X12_isTold ⟨_, e_83⟩ (by omega) rfl rfl (r_isTold l D b N V hN cl hJ0.1 (n1 - 10)) rfl (Nat.le_of_ble_eq_true rfl) ⟨Nat.le_of_ble_eq_true rfl, Nat.le_of_ble_eq_true rfl, Nat.le_of_ble_eq_true rfl, Nat.le_of_ble_eq_true rfl⟩ (fun r_84 N_85 V_86 q_87 => ?_)
      obtain ⟨⟨z_82, h_81⟩, rfl, rfl⟩ := q_87
      refine aw_if_ne (tgt := 54) dX12_tried_27 (by decide) (fun c_88 => ?_) (fun c_88 => ?_)
      · skip
        obtain ⟨z_89, hz_89, ez_89⟩ := h_81.resolve_left c_88
        obtain rfl : n1 = nI (z_89 + 10) := sub_eq ez_89
        refine aw_aload_n dX12_tried_54 rfl ?_
        refine aw_get dX12_tried_55 fl_X12_7 e_83 (by omega) rfl ?_
        refine aw_aload_n dX12_tried_58 rfl ?_
        refine aw_get dX12_tried_59 fl_X12_13 e_83 (by omega) rfl ?_
        refine aw_callSv (J' := jX12_copies) (As := [.ref (b + 101), .ref (b + 102)]) (st := []) dX12_tried_62 tb_1299 ok_X12_copies rfl (r_copies l D b N V hN cl hJ0.1 101 1 cm_101 102 2 cm_102 (by decide)) rfl (Nat.le_of_ble_eq_true rfl) ⟨Nat.le_of_ble_eq_true rfl, Nat.le_of_ble_eq_true rfl, Nat.le_of_ble_eq_true rfl, Nat.le_of_ble_eq_true rfl⟩ (fun  N_93 V_92 q_94 => ?_)
        obtain ⟨rfl, q_90⟩ := q_94
        have j_91 := JR.trans hJ0 (JR.weak q_90 (Sub.cons LM0 (by decide) (by decide) (by decide) (Or.inl rfl) Sub.nil))
        refine aw_aload_n dX12_tried_65 rfl ?_
        refine aw_iload_n dX12_tried_66 rfl ?_
        obtain ⟨ftoldPeople_98, ftoldDoors_98, fwasDoors_98, ffault_98, fopen_98, flines_98, fmeantSet_98, fopenedNow_98, fvainNow_98, flowNow_98, fhighNow_98, fisKept_98, tad_98, pl0_98, le0_98, nu0_98, coy_98, wag_98, say_98, e_98, hntad_98, hnpl0_98, hnle0_98, hnnu0_98, hncoy_98, hnwag_98, hnsay_98⟩ := JR.get j_91 cm_100
        refine aw_callVv (J' := jX12_nightsGo) (As := [.int (nI zn0)]) (st := []) dX12_tried_67 tb_1371 ok_X12_nightsGo ⟨_, e_98⟩ (by omega) rfl rfl (r_nightsGo l D b N V_92 hN cl j_91.1 (nI zn0) (WF.fr hwf j_91.2.2.1)) rfl (Nat.le_of_ble_eq_true rfl) ⟨Nat.le_of_ble_eq_true rfl, Nat.le_of_ble_eq_true rfl, Nat.le_of_ble_eq_true rfl, Nat.le_of_ble_eq_true rfl⟩ (fun  N_99 V_97 q_100 => ?_)
        obtain ⟨rfl, q_95⟩ := q_100
        have j_96 := JR.trans j_91 (JR.weak q_95 (Sub.cons (LMs LM0) (by decide) (by decide) (by decide) (Or.inl rfl) (Sub.cons (LMs (LMs LM0)) (by decide) (by decide) (by decide) (Or.inr ⟨by decide, by decide⟩) (Sub.cons (LMs (LMs (LMs LM0))) (by decide) (by decide) (by decide) (Or.inr ⟨by decide, by decide⟩) (Sub.cons LM0 (by decide) (by decide) (by decide) (Or.inl rfl) (Sub.cons LM0 (by decide) (by decide) (by decide) (Or.inl rfl) (Sub.cons LM0 (by decide) (by decide) (by decide) (Or.inl rfl) (Sub.cons LM0 (by decide) (by decide) (by decide) (Or.inl rfl) Sub.nil))))))))
        refine aw_iload_n dX12_tried_70 rfl ?_
        by_cases sw_101 : (nI (z_89 + 10)) = 0
        · skip
          refine aw_eqi sw_101 ?_
          refine aw_lookup (off := 25) (tgt := 96) dX12_tried_71 (by decide) (by decide) (by decide) ?_
          refine aw_aload_n dX12_tried_96 rfl ?_
          obtain ⟨ftoldPeople_102, ftoldDoors_102, fwasDoors_102, ffault_102, fopen_102, flines_102, fmeantSet_102, fopenedNow_102, fvainNow_102, flowNow_102, fhighNow_102, fisKept_102, tad_102, pl0_102, le0_102, nu0_102, coy_102, wag_102, say_102, e_102, hntad_102, hnpl0_102, hnle0_102, hnnu0_102, hncoy_102, hnwag_102, hnsay_102⟩ := JR.get j_96 cm_100
          refine aw_get dX12_tried_97 fl_X12_321 e_102 (by omega) rfl ?_
          refine aw_istore_n (ls' := [some (.ref (b + 100)), some (.int (nI zn0)), some (.int (nI (z_89 + 10))), some (.int fopenedNow_102)]) dX12_tried_100 (Nat.le_of_ble_eq_true rfl) rfl ?_
          refine aw_goto (tgt := 163) dX12_tried_101 (by decide) ?_
          refine aw_aload_n dX12_tried_163 rfl ?_
          refine aw_get dX12_tried_164 fl_X12_13 e_102 (by omega) rfl ?_
          refine aw_aload_n dX12_tried_167 rfl ?_
          refine aw_get dX12_tried_168 fl_X12_7 e_102 (by omega) rfl ?_
          refine aw_callSv (J' := jX12_copies) (As := [.ref (b + 102), .ref (b + 101)]) (st := []) dX12_tried_171 tb_1299 ok_X12_copies rfl (r_copies l D b N V_97 hN cl j_96.1 102 2 cm_102 101 1 cm_101 (by decide)) rfl (Nat.le_of_ble_eq_true rfl) ⟨Nat.le_of_ble_eq_true rfl, Nat.le_of_ble_eq_true rfl, Nat.le_of_ble_eq_true rfl, Nat.le_of_ble_eq_true rfl⟩ (fun  N_106 V_105 q_107 => ?_)
          obtain ⟨rfl, q_103⟩ := q_107
          have j_104 := JR.trans j_96 (JR.weak q_103 (Sub.cons LM0 (by decide) (by decide) (by decide) (Or.inl rfl) Sub.nil))
          refine aw_iload_n dX12_tried_174 rfl ?_
          refine aw_ireti dX12_tried_175 rfl (Nat.le_of_ble_eq_true rfl) (Nat.le_of_ble_eq_true rfl) ?_
          exact ⟨rfl, j_104⟩
        have nsw_101 : ¬ (z_89 + 10) = 0 := fun e => sw_101 (congrArg nI e)
        by_cases sw_108 : (nI (z_89 + 10)) = 1
        · skip
          refine aw_eqi sw_108 ?_
          refine aw_lookup (off := 33) (tgt := 104) dX12_tried_71 (by decide) (by decide) (by decide) ?_
          refine aw_aload_n dX12_tried_104 rfl ?_
          obtain ⟨ftoldPeople_109, ftoldDoors_109, fwasDoors_109, ffault_109, fopen_109, flines_109, fmeantSet_109, fopenedNow_109, fvainNow_109, flowNow_109, fhighNow_109, fisKept_109, tad_109, pl0_109, le0_109, nu0_109, coy_109, wag_109, say_109, e_109, hntad_109, hnpl0_109, hnle0_109, hnnu0_109, hncoy_109, hnwag_109, hnsay_109⟩ := JR.get j_96 cm_100
          refine aw_get dX12_tried_105 fl_X12_324 e_109 (by omega) rfl ?_
          refine aw_istore_n (ls' := [some (.ref (b + 100)), some (.int (nI zn0)), some (.int (nI (z_89 + 10))), some (.int fvainNow_109)]) dX12_tried_108 (Nat.le_of_ble_eq_true rfl) rfl ?_
          refine aw_goto (tgt := 163) dX12_tried_109 (by decide) ?_
          refine aw_aload_n dX12_tried_163 rfl ?_
          refine aw_get dX12_tried_164 fl_X12_13 e_109 (by omega) rfl ?_
          refine aw_aload_n dX12_tried_167 rfl ?_
          refine aw_get dX12_tried_168 fl_X12_7 e_109 (by omega) rfl ?_
          refine aw_callSv (J' := jX12_copies) (As := [.ref (b + 102), .ref (b + 101)]) (st := []) dX12_tried_171 tb_1299 ok_X12_copies rfl (r_copies l D b N V_97 hN cl j_96.1 102 2 cm_102 101 1 cm_101 (by decide)) rfl (Nat.le_of_ble_eq_true rfl) ⟨Nat.le_of_ble_eq_true rfl, Nat.le_of_ble_eq_true rfl, Nat.le_of_ble_eq_true rfl, Nat.le_of_ble_eq_true rfl⟩ (fun  N_113 V_112 q_114 => ?_)
          obtain ⟨rfl, q_110⟩ := q_114
          have j_111 := JR.trans j_96 (JR.weak q_110 (Sub.cons LM0 (by decide) (by decide) (by decide) (Or.inl rfl) Sub.nil))
          refine aw_iload_n dX12_tried_174 rfl ?_
          refine aw_ireti dX12_tried_175 rfl (Nat.le_of_ble_eq_true rfl) (Nat.le_of_ble_eq_true rfl) ?_
          exact ⟨rfl, j_111⟩
        have nsw_108 : ¬ (z_89 + 10) = 1 := fun e => sw_108 (congrArg nI e)
        have tsw_101 : (nI (z_89 + 10)).toInt ≠ 0 := fx_tne sw_101
        have tsw_108 : (nI (z_89 + 10)).toInt ≠ 1 := fx_tne sw_108
        refine aw_lookup (off := 41) (tgt := 112) dX12_tried_71 (by decide) (by show Op.lookupswitch.offset [(0, 25), (1, 33)] 41 (nI (z_89 + 10)).toInt = 41; simp only [Op.lookupswitch.offset_cons, Op.lookupswitch.offset_nil]; rw [if_neg (Ne.symm tsw_101), if_neg (Ne.symm tsw_108)]) (by decide) ?_
        refine aw_iload_n dX12_tried_112 rfl ?_
        refine aw_bipush (v := 30) dX12_tried_113 (by decide) ?_
        refine aw_icmp_ge (tgt := 132) dX12_tried_115 (by decide) (fun c_115 => ?_) (fun c_115 => ?_)
        · skip
          have nc_115 : 30 ≤ (z_89 + 10) := (nI_leI (a := 30) (b := (z_89 + 10)) (by omega) (by omega)).mp c_115
          refine aw_iload_n dX12_tried_132 rfl ?_
          refine aw_bipush (v := 50) dX12_tried_133 (by decide) ?_
          refine aw_icmp_ge (tgt := 149) dX12_tried_135 (by decide) (fun c_116 => ?_) (fun c_116 => ?_)
          · skip
            have nc_116 : 50 ≤ (z_89 + 10) := (nI_leI (a := 50) (b := (z_89 + 10)) (by omega) (by omega)).mp c_116
            refine aw_aload_n dX12_tried_149 rfl ?_
            obtain ⟨ftoldPeople_117, ftoldDoors_117, fwasDoors_117, ffault_117, fopen_117, flines_117, fmeantSet_117, fopenedNow_117, fvainNow_117, flowNow_117, fhighNow_117, fisKept_117, tad_117, pl0_117, le0_117, nu0_117, coy_117, wag_117, say_117, e_117, hntad_117, hnpl0_117, hnle0_117, hnnu0_117, hncoy_117, hnwag_117, hnsay_117⟩ := JR.get j_96 cm_100
            refine aw_get dX12_tried_150 fl_X12_7 e_117 (by omega) rfl ?_
            refine aw_sipush (v := 192) dX12_tried_153 (by decide) ?_
            refine aw_iload_n dX12_tried_156 rfl ?_
            refine aw_iadd dX12_tried_157 ?_
            refine aw_eqi (y := nI (192 + (z_89 + 10))) (nI_add _ _) ?_
            refine aw_bipush (v := 50) dX12_tried_158 (by decide) ?_
            refine aw_isub dX12_tried_160 ?_
            refine aw_eqi (y := (nI ((192 + (z_89 + 10)) - 50))) (pk_sub (a := (192 + (z_89 + 10))) (b := 50) (by omega)) ?_
            obtain ⟨g_118, e_118⟩ := JR.get j_96 cm_101
            refine aw_iald (v := (g_118 ((192 + (z_89 + 10)) - 50))) dX12_tried_161 e_118 (by omega) (vp_in_nI (n := ((192 + (z_89 + 10)) - 50)) (by omega) (by omega)) (congrArg g_118 (nI_clamp (n := ((192 + (z_89 + 10)) - 50)) (by omega))) ?_
            refine aw_istore_n (ls' := [some (.ref (b + 100)), some (.int (nI zn0)), some (.int (nI (z_89 + 10))), some (.int (g_118 ((192 + (z_89 + 10)) - 50)))]) dX12_tried_162 (Nat.le_of_ble_eq_true rfl) rfl ?_
            refine aw_aload_n dX12_tried_163 rfl ?_
            refine aw_get dX12_tried_164 fl_X12_13 e_117 (by omega) rfl ?_
            refine aw_aload_n dX12_tried_167 rfl ?_
            refine aw_get dX12_tried_168 fl_X12_7 e_117 (by omega) rfl ?_
            refine aw_callSv (J' := jX12_copies) (As := [.ref (b + 102), .ref (b + 101)]) (st := []) dX12_tried_171 tb_1299 ok_X12_copies rfl (r_copies l D b N V_97 hN cl j_96.1 102 2 cm_102 101 1 cm_101 (by decide)) rfl (Nat.le_of_ble_eq_true rfl) ⟨Nat.le_of_ble_eq_true rfl, Nat.le_of_ble_eq_true rfl, Nat.le_of_ble_eq_true rfl, Nat.le_of_ble_eq_true rfl⟩ (fun  N_122 V_121 q_123 => ?_)
            obtain ⟨rfl, q_119⟩ := q_123
            have j_120 := JR.trans j_96 (JR.weak q_119 (Sub.cons LM0 (by decide) (by decide) (by decide) (Or.inl rfl) Sub.nil))
            refine aw_iload_n dX12_tried_174 rfl ?_
            refine aw_ireti dX12_tried_175 rfl (Nat.le_of_ble_eq_true rfl) (Nat.le_of_ble_eq_true rfl) ?_
            exact ⟨rfl, j_120⟩
          · skip
            have nc_116 : ¬ (50 ≤ (z_89 + 10)) := fun z => c_116 ((nI_leI (a := 50) (b := (z_89 + 10)) (by omega) (by omega)).mpr z)
            refine aw_aload_n dX12_tried_138 rfl ?_
            refine aw_iload_n dX12_tried_139 rfl ?_
            refine aw_bipush (v := 30) dX12_tried_140 (by decide) ?_
            refine aw_isub dX12_tried_142 ?_
            refine aw_eqi (y := (nI ((z_89 + 10) - 30))) (pk_sub (a := (z_89 + 10)) (b := 30) (by omega)) ?_
            obtain ⟨ftoldPeople_125, ftoldDoors_125, fwasDoors_125, ffault_125, fopen_125, flines_125, fmeantSet_125, fopenedNow_125, fvainNow_125, flowNow_125, fhighNow_125, fisKept_125, tad_125, pl0_125, le0_125, nu0_125, coy_125, wag_125, say_125, e_125, hntad_125, hnpl0_125, hnle0_125, hnnu0_125, hncoy_125, hnwag_125, hnsay_125⟩ := JR.get j_96 cm_100
            refine aw_callVi (J' := jX12_greatest) (As := [.int (nI ((z_89 + 10) - 30))]) (st := []) dX12_tried_143 tb_1388 ok_X12_greatest ⟨_, e_125⟩ (by omega) rfl rfl (r_greatest l D b N V_97 hN cl j_96.1 (nI ((z_89 + 10) - 30)) ⟨((z_89 + 10) - 30), by omega, rfl⟩) rfl (Nat.le_of_ble_eq_true rfl) ⟨Nat.le_of_ble_eq_true rfl, Nat.le_of_ble_eq_true rfl, Nat.le_of_ble_eq_true rfl, Nat.le_of_ble_eq_true rfl⟩ (fun r_126 N_127 V_128 q_129 => ?_)
            obtain ⟨rfl, rfl⟩ := q_129
            refine aw_goto (tgt := 162) dX12_tried_146 (by decide) ?_
            refine aw_istore_n (ls' := [some (.ref (b + 100)), some (.int (nI zn0)), some (.int (nI (z_89 + 10))), some (.int r_126)]) dX12_tried_162 (Nat.le_of_ble_eq_true rfl) rfl ?_
            refine aw_aload_n dX12_tried_163 rfl ?_
            refine aw_get dX12_tried_164 fl_X12_13 e_125 (by omega) rfl ?_
            refine aw_aload_n dX12_tried_167 rfl ?_
            refine aw_get dX12_tried_168 fl_X12_7 e_125 (by omega) rfl ?_
            refine aw_callSv (J' := jX12_copies) (As := [.ref (b + 102), .ref (b + 101)]) (st := []) dX12_tried_171 tb_1299 ok_X12_copies rfl (r_copies l D b N V_97 hN cl j_96.1 102 2 cm_102 101 1 cm_101 (by decide)) rfl (Nat.le_of_ble_eq_true rfl) ⟨Nat.le_of_ble_eq_true rfl, Nat.le_of_ble_eq_true rfl, Nat.le_of_ble_eq_true rfl, Nat.le_of_ble_eq_true rfl⟩ (fun  N_133 V_132 q_134 => ?_)
            obtain ⟨rfl, q_130⟩ := q_134
            have j_131 := JR.trans j_96 (JR.weak q_130 (Sub.cons LM0 (by decide) (by decide) (by decide) (Or.inl rfl) Sub.nil))
            refine aw_iload_n dX12_tried_174 rfl ?_
            refine aw_ireti dX12_tried_175 rfl (Nat.le_of_ble_eq_true rfl) (Nat.le_of_ble_eq_true rfl) ?_
            exact ⟨rfl, j_131⟩
        · skip
          have nc_115 : ¬ (30 ≤ (z_89 + 10)) := fun z => c_115 ((nI_leI (a := 30) (b := (z_89 + 10)) (by omega) (by omega)).mpr z)
          refine aw_aload_n dX12_tried_118 rfl ?_
          refine aw_iload_n dX12_tried_119 rfl ?_
          refine aw_bipush (v := 10) dX12_tried_120 (by decide) ?_
          refine aw_isub dX12_tried_122 ?_
          refine aw_eqi (y := (nI ((z_89 + 10) - 10))) (pk_sub (a := (z_89 + 10)) (b := 10) (by omega)) ?_
          obtain ⟨ftoldPeople_137, ftoldDoors_137, fwasDoors_137, ffault_137, fopen_137, flines_137, fmeantSet_137, fopenedNow_137, fvainNow_137, flowNow_137, fhighNow_137, fisKept_137, tad_137, pl0_137, le0_137, nu0_137, coy_137, wag_137, say_137, e_137, hntad_137, hnpl0_137, hnle0_137, hnnu0_137, hncoy_137, hnwag_137, hnsay_137⟩ := JR.get j_96 cm_100
          refine aw_callVi (J' := jX12_fearOf) (As := [.int (nI ((z_89 + 10) - 10))]) (st := []) dX12_tried_123 tb_1430 ok_X12_fearOf ⟨_, e_137⟩ (by omega) rfl rfl (r_fearOf l D b N V_97 hN cl j_96.1 (nI ((z_89 + 10) - 10)) ⟨((z_89 + 10) - 10), by omega, rfl⟩) rfl (Nat.le_of_ble_eq_true rfl) ⟨Nat.le_of_ble_eq_true rfl, Nat.le_of_ble_eq_true rfl, Nat.le_of_ble_eq_true rfl, Nat.le_of_ble_eq_true rfl⟩ (fun r_138 N_139 V_140 q_141 => ?_)
          obtain ⟨h_136, rfl, rfl⟩ := q_141
          refine aw_callSi (J' := jX12_orNone) (As := [.int r_138]) (st := []) dX12_tried_126 tb_1446 ok_X12_orNone rfl (r_orNone l D b N V_97 hN cl j_96.1 r_138) rfl (Nat.le_of_ble_eq_true rfl) ⟨Nat.le_of_ble_eq_true rfl, Nat.le_of_ble_eq_true rfl, Nat.le_of_ble_eq_true rfl, Nat.le_of_ble_eq_true rfl⟩ (fun r_143 N_144 V_145 q_146 => ?_)
          obtain ⟨rfl, rfl⟩ := q_146
          refine aw_goto (tgt := 162) dX12_tried_129 (by decide) ?_
          refine aw_istore_n (ls' := [some (.ref (b + 100)), some (.int (nI zn0)), some (.int (nI (z_89 + 10))), some (.int r_143)]) dX12_tried_162 (Nat.le_of_ble_eq_true rfl) rfl ?_
          refine aw_aload_n dX12_tried_163 rfl ?_
          refine aw_get dX12_tried_164 fl_X12_13 e_137 (by omega) rfl ?_
          refine aw_aload_n dX12_tried_167 rfl ?_
          refine aw_get dX12_tried_168 fl_X12_7 e_137 (by omega) rfl ?_
          refine aw_callSv (J' := jX12_copies) (As := [.ref (b + 102), .ref (b + 101)]) (st := []) dX12_tried_171 tb_1299 ok_X12_copies rfl (r_copies l D b N V_97 hN cl j_96.1 102 2 cm_102 101 1 cm_101 (by decide)) rfl (Nat.le_of_ble_eq_true rfl) ⟨Nat.le_of_ble_eq_true rfl, Nat.le_of_ble_eq_true rfl, Nat.le_of_ble_eq_true rfl, Nat.le_of_ble_eq_true rfl⟩ (fun  N_150 V_149 q_151 => ?_)
          obtain ⟨rfl, q_147⟩ := q_151
          have j_148 := JR.trans j_96 (JR.weak q_147 (Sub.cons LM0 (by decide) (by decide) (by decide) (Or.inl rfl) Sub.nil))
          refine aw_iload_n dX12_tried_174 rfl ?_
          refine aw_ireti dX12_tried_175 rfl (Nat.le_of_ble_eq_true rfl) (Nat.le_of_ble_eq_true rfl) ?_
          exact ⟨rfl, j_148⟩
      · skip
        refine aw_aload_n dX12_tried_30 rfl ?_
        refine aw_iload_n dX12_tried_31 rfl ?_
        refine aw_bipush (v := 30) dX12_tried_32 (by decide) ?_
        refine aw_isub dX12_tried_34 ?_
        refine aw_callVi (J' := jX12_isTold) (As := [.int (n1 - 30)]) (st := []) dX12_tried_35 tb_1351 ok_X12_isTold ⟨_, e_83⟩ (by omega) rfl rfl (r_isTold l D b N V hN cl hJ0.1 (n1 - 30)) rfl (Nat.le_of_ble_eq_true rfl) ⟨Nat.le_of_ble_eq_true rfl, Nat.le_of_ble_eq_true rfl, Nat.le_of_ble_eq_true rfl, Nat.le_of_ble_eq_true rfl⟩ (fun r_155 N_156 V_157 q_158 => ?_)
        obtain ⟨⟨z_154, h_153⟩, rfl, rfl⟩ := q_158
        refine aw_if_ne (tgt := 54) dX12_tried_38 (by decide) (fun c_159 => ?_) (fun c_159 => ?_)
        · skip
          obtain ⟨z_160, hz_160, ez_160⟩ := h_153.resolve_left c_159
          obtain rfl : n1 = nI (z_160 + 30) := sub_eq ez_160
          refine aw_aload_n dX12_tried_54 rfl ?_
          refine aw_get dX12_tried_55 fl_X12_7 e_83 (by omega) rfl ?_
          refine aw_aload_n dX12_tried_58 rfl ?_
          refine aw_get dX12_tried_59 fl_X12_13 e_83 (by omega) rfl ?_
          refine aw_callSv (J' := jX12_copies) (As := [.ref (b + 101), .ref (b + 102)]) (st := []) dX12_tried_62 tb_1299 ok_X12_copies rfl (r_copies l D b N V hN cl hJ0.1 101 1 cm_101 102 2 cm_102 (by decide)) rfl (Nat.le_of_ble_eq_true rfl) ⟨Nat.le_of_ble_eq_true rfl, Nat.le_of_ble_eq_true rfl, Nat.le_of_ble_eq_true rfl, Nat.le_of_ble_eq_true rfl⟩ (fun  N_164 V_163 q_165 => ?_)
          obtain ⟨rfl, q_161⟩ := q_165
          have j_162 := JR.trans hJ0 (JR.weak q_161 (Sub.cons LM0 (by decide) (by decide) (by decide) (Or.inl rfl) Sub.nil))
          refine aw_aload_n dX12_tried_65 rfl ?_
          refine aw_iload_n dX12_tried_66 rfl ?_
          obtain ⟨ftoldPeople_169, ftoldDoors_169, fwasDoors_169, ffault_169, fopen_169, flines_169, fmeantSet_169, fopenedNow_169, fvainNow_169, flowNow_169, fhighNow_169, fisKept_169, tad_169, pl0_169, le0_169, nu0_169, coy_169, wag_169, say_169, e_169, hntad_169, hnpl0_169, hnle0_169, hnnu0_169, hncoy_169, hnwag_169, hnsay_169⟩ := JR.get j_162 cm_100
          refine aw_callVv (J' := jX12_nightsGo) (As := [.int (nI zn0)]) (st := []) dX12_tried_67 tb_1371 ok_X12_nightsGo ⟨_, e_169⟩ (by omega) rfl rfl (r_nightsGo l D b N V_163 hN cl j_162.1 (nI zn0) (WF.fr hwf j_162.2.2.1)) rfl (Nat.le_of_ble_eq_true rfl) ⟨Nat.le_of_ble_eq_true rfl, Nat.le_of_ble_eq_true rfl, Nat.le_of_ble_eq_true rfl, Nat.le_of_ble_eq_true rfl⟩ (fun  N_170 V_168 q_171 => ?_)
          obtain ⟨rfl, q_166⟩ := q_171
          have j_167 := JR.trans j_162 (JR.weak q_166 (Sub.cons (LMs LM0) (by decide) (by decide) (by decide) (Or.inl rfl) (Sub.cons (LMs (LMs LM0)) (by decide) (by decide) (by decide) (Or.inr ⟨by decide, by decide⟩) (Sub.cons (LMs (LMs (LMs LM0))) (by decide) (by decide) (by decide) (Or.inr ⟨by decide, by decide⟩) (Sub.cons LM0 (by decide) (by decide) (by decide) (Or.inl rfl) (Sub.cons LM0 (by decide) (by decide) (by decide) (Or.inl rfl) (Sub.cons LM0 (by decide) (by decide) (by decide) (Or.inl rfl) (Sub.cons LM0 (by decide) (by decide) (by decide) (Or.inl rfl) Sub.nil))))))))
          refine aw_iload_n dX12_tried_70 rfl ?_
          by_cases sw_172 : (nI (z_160 + 30)) = 0
          · skip
            refine aw_eqi sw_172 ?_
            refine aw_lookup (off := 25) (tgt := 96) dX12_tried_71 (by decide) (by decide) (by decide) ?_
            refine aw_aload_n dX12_tried_96 rfl ?_
            obtain ⟨ftoldPeople_173, ftoldDoors_173, fwasDoors_173, ffault_173, fopen_173, flines_173, fmeantSet_173, fopenedNow_173, fvainNow_173, flowNow_173, fhighNow_173, fisKept_173, tad_173, pl0_173, le0_173, nu0_173, coy_173, wag_173, say_173, e_173, hntad_173, hnpl0_173, hnle0_173, hnnu0_173, hncoy_173, hnwag_173, hnsay_173⟩ := JR.get j_167 cm_100
            refine aw_get dX12_tried_97 fl_X12_321 e_173 (by omega) rfl ?_
            refine aw_istore_n (ls' := [some (.ref (b + 100)), some (.int (nI zn0)), some (.int (nI (z_160 + 30))), some (.int fopenedNow_173)]) dX12_tried_100 (Nat.le_of_ble_eq_true rfl) rfl ?_
            refine aw_goto (tgt := 163) dX12_tried_101 (by decide) ?_
            refine aw_aload_n dX12_tried_163 rfl ?_
            refine aw_get dX12_tried_164 fl_X12_13 e_173 (by omega) rfl ?_
            refine aw_aload_n dX12_tried_167 rfl ?_
            refine aw_get dX12_tried_168 fl_X12_7 e_173 (by omega) rfl ?_
            refine aw_callSv (J' := jX12_copies) (As := [.ref (b + 102), .ref (b + 101)]) (st := []) dX12_tried_171 tb_1299 ok_X12_copies rfl (r_copies l D b N V_168 hN cl j_167.1 102 2 cm_102 101 1 cm_101 (by decide)) rfl (Nat.le_of_ble_eq_true rfl) ⟨Nat.le_of_ble_eq_true rfl, Nat.le_of_ble_eq_true rfl, Nat.le_of_ble_eq_true rfl, Nat.le_of_ble_eq_true rfl⟩ (fun  N_177 V_176 q_178 => ?_)
            obtain ⟨rfl, q_174⟩ := q_178
            have j_175 := JR.trans j_167 (JR.weak q_174 (Sub.cons LM0 (by decide) (by decide) (by decide) (Or.inl rfl) Sub.nil))
            refine aw_iload_n dX12_tried_174 rfl ?_
            refine aw_ireti dX12_tried_175 rfl (Nat.le_of_ble_eq_true rfl) (Nat.le_of_ble_eq_true rfl) ?_
            exact ⟨rfl, j_175⟩
          have nsw_172 : ¬ (z_160 + 30) = 0 := fun e => sw_172 (congrArg nI e)
          by_cases sw_179 : (nI (z_160 + 30)) = 1
          · skip
            refine aw_eqi sw_179 ?_
            refine aw_lookup (off := 33) (tgt := 104) dX12_tried_71 (by decide) (by decide) (by decide) ?_
            refine aw_aload_n dX12_tried_104 rfl ?_
            obtain ⟨ftoldPeople_180, ftoldDoors_180, fwasDoors_180, ffault_180, fopen_180, flines_180, fmeantSet_180, fopenedNow_180, fvainNow_180, flowNow_180, fhighNow_180, fisKept_180, tad_180, pl0_180, le0_180, nu0_180, coy_180, wag_180, say_180, e_180, hntad_180, hnpl0_180, hnle0_180, hnnu0_180, hncoy_180, hnwag_180, hnsay_180⟩ := JR.get j_167 cm_100
            refine aw_get dX12_tried_105 fl_X12_324 e_180 (by omega) rfl ?_
            refine aw_istore_n (ls' := [some (.ref (b + 100)), some (.int (nI zn0)), some (.int (nI (z_160 + 30))), some (.int fvainNow_180)]) dX12_tried_108 (Nat.le_of_ble_eq_true rfl) rfl ?_
            refine aw_goto (tgt := 163) dX12_tried_109 (by decide) ?_
            refine aw_aload_n dX12_tried_163 rfl ?_
            refine aw_get dX12_tried_164 fl_X12_13 e_180 (by omega) rfl ?_
            refine aw_aload_n dX12_tried_167 rfl ?_
            refine aw_get dX12_tried_168 fl_X12_7 e_180 (by omega) rfl ?_
            refine aw_callSv (J' := jX12_copies) (As := [.ref (b + 102), .ref (b + 101)]) (st := []) dX12_tried_171 tb_1299 ok_X12_copies rfl (r_copies l D b N V_168 hN cl j_167.1 102 2 cm_102 101 1 cm_101 (by decide)) rfl (Nat.le_of_ble_eq_true rfl) ⟨Nat.le_of_ble_eq_true rfl, Nat.le_of_ble_eq_true rfl, Nat.le_of_ble_eq_true rfl, Nat.le_of_ble_eq_true rfl⟩ (fun  N_184 V_183 q_185 => ?_)
            obtain ⟨rfl, q_181⟩ := q_185
            have j_182 := JR.trans j_167 (JR.weak q_181 (Sub.cons LM0 (by decide) (by decide) (by decide) (Or.inl rfl) Sub.nil))
            refine aw_iload_n dX12_tried_174 rfl ?_
            refine aw_ireti dX12_tried_175 rfl (Nat.le_of_ble_eq_true rfl) (Nat.le_of_ble_eq_true rfl) ?_
            exact ⟨rfl, j_182⟩
          have nsw_179 : ¬ (z_160 + 30) = 1 := fun e => sw_179 (congrArg nI e)
          have tsw_172 : (nI (z_160 + 30)).toInt ≠ 0 := fx_tne sw_172
          have tsw_179 : (nI (z_160 + 30)).toInt ≠ 1 := fx_tne sw_179
          refine aw_lookup (off := 41) (tgt := 112) dX12_tried_71 (by decide) (by show Op.lookupswitch.offset [(0, 25), (1, 33)] 41 (nI (z_160 + 30)).toInt = 41; simp only [Op.lookupswitch.offset_cons, Op.lookupswitch.offset_nil]; rw [if_neg (Ne.symm tsw_172), if_neg (Ne.symm tsw_179)]) (by decide) ?_
          refine aw_iload_n dX12_tried_112 rfl ?_
          refine aw_bipush (v := 30) dX12_tried_113 (by decide) ?_
          refine aw_icmp_ge (tgt := 132) dX12_tried_115 (by decide) (fun c_186 => ?_) (fun c_186 => ?_)
          · skip
            have nc_186 : 30 ≤ (z_160 + 30) := (nI_leI (a := 30) (b := (z_160 + 30)) (by omega) (by omega)).mp c_186
            refine aw_iload_n dX12_tried_132 rfl ?_
            refine aw_bipush (v := 50) dX12_tried_133 (by decide) ?_
            refine aw_icmp_ge (tgt := 149) dX12_tried_135 (by decide) (fun c_187 => ?_) (fun c_187 => ?_)
            · skip
              have nc_187 : 50 ≤ (z_160 + 30) := (nI_leI (a := 50) (b := (z_160 + 30)) (by omega) (by omega)).mp c_187
              refine aw_aload_n dX12_tried_149 rfl ?_
              obtain ⟨ftoldPeople_188, ftoldDoors_188, fwasDoors_188, ffault_188, fopen_188, flines_188, fmeantSet_188, fopenedNow_188, fvainNow_188, flowNow_188, fhighNow_188, fisKept_188, tad_188, pl0_188, le0_188, nu0_188, coy_188, wag_188, say_188, e_188, hntad_188, hnpl0_188, hnle0_188, hnnu0_188, hncoy_188, hnwag_188, hnsay_188⟩ := JR.get j_167 cm_100
              refine aw_get dX12_tried_150 fl_X12_7 e_188 (by omega) rfl ?_
              refine aw_sipush (v := 192) dX12_tried_153 (by decide) ?_
              refine aw_iload_n dX12_tried_156 rfl ?_
              refine aw_iadd dX12_tried_157 ?_
              refine aw_eqi (y := nI (192 + (z_160 + 30))) (nI_add _ _) ?_
              refine aw_bipush (v := 50) dX12_tried_158 (by decide) ?_
              refine aw_isub dX12_tried_160 ?_
              refine aw_eqi (y := (nI ((192 + (z_160 + 30)) - 50))) (pk_sub (a := (192 + (z_160 + 30))) (b := 50) (by omega)) ?_
              obtain ⟨g_189, e_189⟩ := JR.get j_167 cm_101
              refine aw_iald (v := (g_189 ((192 + (z_160 + 30)) - 50))) dX12_tried_161 e_189 (by omega) (vp_in_nI (n := ((192 + (z_160 + 30)) - 50)) (by omega) (by omega)) (congrArg g_189 (nI_clamp (n := ((192 + (z_160 + 30)) - 50)) (by omega))) ?_
              refine aw_istore_n (ls' := [some (.ref (b + 100)), some (.int (nI zn0)), some (.int (nI (z_160 + 30))), some (.int (g_189 ((192 + (z_160 + 30)) - 50)))]) dX12_tried_162 (Nat.le_of_ble_eq_true rfl) rfl ?_
              refine aw_aload_n dX12_tried_163 rfl ?_
              refine aw_get dX12_tried_164 fl_X12_13 e_188 (by omega) rfl ?_
              refine aw_aload_n dX12_tried_167 rfl ?_
              refine aw_get dX12_tried_168 fl_X12_7 e_188 (by omega) rfl ?_
              refine aw_callSv (J' := jX12_copies) (As := [.ref (b + 102), .ref (b + 101)]) (st := []) dX12_tried_171 tb_1299 ok_X12_copies rfl (r_copies l D b N V_168 hN cl j_167.1 102 2 cm_102 101 1 cm_101 (by decide)) rfl (Nat.le_of_ble_eq_true rfl) ⟨Nat.le_of_ble_eq_true rfl, Nat.le_of_ble_eq_true rfl, Nat.le_of_ble_eq_true rfl, Nat.le_of_ble_eq_true rfl⟩ (fun  N_193 V_192 q_194 => ?_)
              obtain ⟨rfl, q_190⟩ := q_194
              have j_191 := JR.trans j_167 (JR.weak q_190 (Sub.cons LM0 (by decide) (by decide) (by decide) (Or.inl rfl) Sub.nil))
              refine aw_iload_n dX12_tried_174 rfl ?_
              refine aw_ireti dX12_tried_175 rfl (Nat.le_of_ble_eq_true rfl) (Nat.le_of_ble_eq_true rfl) ?_
              exact ⟨rfl, j_191⟩
            · skip
              have nc_187 : ¬ (50 ≤ (z_160 + 30)) := fun z => c_187 ((nI_leI (a := 50) (b := (z_160 + 30)) (by omega) (by omega)).mpr z)
              refine aw_aload_n dX12_tried_138 rfl ?_
              refine aw_iload_n dX12_tried_139 rfl ?_
              refine aw_bipush (v := 30) dX12_tried_140 (by decide) ?_
              refine aw_isub dX12_tried_142 ?_
              refine aw_eqi (y := (nI ((z_160 + 30) - 30))) (pk_sub (a := (z_160 + 30)) (b := 30) (by omega)) ?_
              obtain ⟨ftoldPeople_196, ftoldDoors_196, fwasDoors_196, ffault_196, fopen_196, flines_196, fmeantSet_196, fopenedNow_196, fvainNow_196, flowNow_196, fhighNow_196, fisKept_196, tad_196, pl0_196, le0_196, nu0_196, coy_196, wag_196, say_196, e_196, hntad_196, hnpl0_196, hnle0_196, hnnu0_196, hncoy_196, hnwag_196, hnsay_196⟩ := JR.get j_167 cm_100
              refine aw_callVi (J' := jX12_greatest) (As := [.int (nI ((z_160 + 30) - 30))]) (st := []) dX12_tried_143 tb_1388 ok_X12_greatest ⟨_, e_196⟩ (by omega) rfl rfl (r_greatest l D b N V_168 hN cl j_167.1 (nI ((z_160 + 30) - 30)) ⟨((z_160 + 30) - 30), by omega, rfl⟩) rfl (Nat.le_of_ble_eq_true rfl) ⟨Nat.le_of_ble_eq_true rfl, Nat.le_of_ble_eq_true rfl, Nat.le_of_ble_eq_true rfl, Nat.le_of_ble_eq_true rfl⟩ (fun r_197 N_198 V_199 q_200 => ?_)
              obtain ⟨rfl, rfl⟩ := q_200
              refine aw_goto (tgt := 162) dX12_tried_146 (by decide) ?_
              refine aw_istore_n (ls' := [some (.ref (b + 100)), some (.int (nI zn0)), some (.int (nI (z_160 + 30))), some (.int r_197)]) dX12_tried_162 (Nat.le_of_ble_eq_true rfl) rfl ?_
              refine aw_aload_n dX12_tried_163 rfl ?_
              refine aw_get dX12_tried_164 fl_X12_13 e_196 (by omega) rfl ?_
              refine aw_aload_n dX12_tried_167 rfl ?_
              refine aw_get dX12_tried_168 fl_X12_7 e_196 (by omega) rfl ?_
              refine aw_callSv (J' := jX12_copies) (As := [.ref (b + 102), .ref (b + 101)]) (st := []) dX12_tried_171 tb_1299 ok_X12_copies rfl (r_copies l D b N V_168 hN cl j_167.1 102 2 cm_102 101 1 cm_101 (by decide)) rfl (Nat.le_of_ble_eq_true rfl) ⟨Nat.le_of_ble_eq_true rfl, Nat.le_of_ble_eq_true rfl, Nat.le_of_ble_eq_true rfl, Nat.le_of_ble_eq_true rfl⟩ (fun  N_204 V_203 q_205 => ?_)
              obtain ⟨rfl, q_201⟩ := q_205
              have j_202 := JR.trans j_167 (JR.weak q_201 (Sub.cons LM0 (by decide) (by decide) (by decide) (Or.inl rfl) Sub.nil))
              refine aw_iload_n dX12_tried_174 rfl ?_
              refine aw_ireti dX12_tried_175 rfl (Nat.le_of_ble_eq_true rfl) (Nat.le_of_ble_eq_true rfl) ?_
              exact ⟨rfl, j_202⟩
          · skip
            have nc_186 : ¬ (30 ≤ (z_160 + 30)) := fun z => c_186 ((nI_leI (a := 30) (b := (z_160 + 30)) (by omega) (by omega)).mpr z)
            refine aw_aload_n dX12_tried_118 rfl ?_
            refine aw_iload_n dX12_tried_119 rfl ?_
            refine aw_bipush (v := 10) dX12_tried_120 (by decide) ?_
            refine aw_isub dX12_tried_122 ?_
            refine aw_eqi (y := (nI ((z_160 + 30) - 10))) (pk_sub (a := (z_160 + 30)) (b := 10) (by omega)) ?_
            obtain ⟨ftoldPeople_208, ftoldDoors_208, fwasDoors_208, ffault_208, fopen_208, flines_208, fmeantSet_208, fopenedNow_208, fvainNow_208, flowNow_208, fhighNow_208, fisKept_208, tad_208, pl0_208, le0_208, nu0_208, coy_208, wag_208, say_208, e_208, hntad_208, hnpl0_208, hnle0_208, hnnu0_208, hncoy_208, hnwag_208, hnsay_208⟩ := JR.get j_167 cm_100
            refine aw_callVi (J' := jX12_fearOf) (As := [.int (nI ((z_160 + 30) - 10))]) (st := []) dX12_tried_123 tb_1430 ok_X12_fearOf ⟨_, e_208⟩ (by omega) rfl rfl (r_fearOf l D b N V_168 hN cl j_167.1 (nI ((z_160 + 30) - 10)) ⟨((z_160 + 30) - 10), by omega, rfl⟩) rfl (Nat.le_of_ble_eq_true rfl) ⟨Nat.le_of_ble_eq_true rfl, Nat.le_of_ble_eq_true rfl, Nat.le_of_ble_eq_true rfl, Nat.le_of_ble_eq_true rfl⟩ (fun r_209 N_210 V_211 q_212 => ?_)
            obtain ⟨h_207, rfl, rfl⟩ := q_212
            refine aw_callSi (J' := jX12_orNone) (As := [.int r_209]) (st := []) dX12_tried_126 tb_1446 ok_X12_orNone rfl (r_orNone l D b N V_168 hN cl j_167.1 r_209) rfl (Nat.le_of_ble_eq_true rfl) ⟨Nat.le_of_ble_eq_true rfl, Nat.le_of_ble_eq_true rfl, Nat.le_of_ble_eq_true rfl, Nat.le_of_ble_eq_true rfl⟩ (fun r_214 N_215 V_216 q_217 => ?_)
            obtain ⟨rfl, rfl⟩ := q_217
            refine aw_goto (tgt := 162) dX12_tried_129 (by decide) ?_
            refine aw_istore_n (ls' := [some (.ref (b + 100)), some (.int (nI zn0)), some (.int (nI (z_160 + 30))), some (.int r_214)]) dX12_tried_162 (Nat.le_of_ble_eq_true rfl) rfl ?_
            refine aw_aload_n dX12_tried_163 rfl ?_
            refine aw_get dX12_tried_164 fl_X12_13 e_208 (by omega) rfl ?_
            refine aw_aload_n dX12_tried_167 rfl ?_
            refine aw_get dX12_tried_168 fl_X12_7 e_208 (by omega) rfl ?_
            refine aw_callSv (J' := jX12_copies) (As := [.ref (b + 102), .ref (b + 101)]) (st := []) dX12_tried_171 tb_1299 ok_X12_copies rfl (r_copies l D b N V_168 hN cl j_167.1 102 2 cm_102 101 1 cm_101 (by decide)) rfl (Nat.le_of_ble_eq_true rfl) ⟨Nat.le_of_ble_eq_true rfl, Nat.le_of_ble_eq_true rfl, Nat.le_of_ble_eq_true rfl, Nat.le_of_ble_eq_true rfl⟩ (fun  N_221 V_220 q_222 => ?_)
            obtain ⟨rfl, q_218⟩ := q_222
            have j_219 := JR.trans j_167 (JR.weak q_218 (Sub.cons LM0 (by decide) (by decide) (by decide) (Or.inl rfl) Sub.nil))
            refine aw_iload_n dX12_tried_174 rfl ?_
            refine aw_ireti dX12_tried_175 rfl (Nat.le_of_ble_eq_true rfl) (Nat.le_of_ble_eq_true rfl) ?_
            exact ⟨rfl, j_219⟩
        · skip
          refine aw_aload_n dX12_tried_41 rfl ?_
          refine aw_iload_n dX12_tried_42 rfl ?_
          refine aw_bipush (v := 50) dX12_tried_43 (by decide) ?_
          refine aw_isub dX12_tried_45 ?_
          refine aw_callVi (J' := jX12_isDoor) (As := [.int (n1 - 50)]) (st := []) dX12_tried_46 tb_1359 ok_X12_isDoor ⟨_, e_83⟩ (by omega) rfl rfl (r_isDoor l D b N V hN cl hJ0.1 (n1 - 50)) rfl (Nat.le_of_ble_eq_true rfl) ⟨Nat.le_of_ble_eq_true rfl, Nat.le_of_ble_eq_true rfl, Nat.le_of_ble_eq_true rfl, Nat.le_of_ble_eq_true rfl⟩ (fun r_226 N_227 V_228 q_229 => ?_)
          obtain ⟨⟨z_225, h_224⟩, rfl, rfl⟩ := q_229
          refine aw_if_ne (tgt := 54) dX12_tried_49 (by decide) (fun c_230 => ?_) (fun c_230 => ?_)
          · skip
            obtain ⟨z_231, hz_231, ez_231⟩ := h_224.resolve_left c_230
            obtain rfl : n1 = nI (z_231 + 50) := sub_eq ez_231
            refine aw_aload_n dX12_tried_54 rfl ?_
            refine aw_get dX12_tried_55 fl_X12_7 e_83 (by omega) rfl ?_
            refine aw_aload_n dX12_tried_58 rfl ?_
            refine aw_get dX12_tried_59 fl_X12_13 e_83 (by omega) rfl ?_
            refine aw_callSv (J' := jX12_copies) (As := [.ref (b + 101), .ref (b + 102)]) (st := []) dX12_tried_62 tb_1299 ok_X12_copies rfl (r_copies l D b N V hN cl hJ0.1 101 1 cm_101 102 2 cm_102 (by decide)) rfl (Nat.le_of_ble_eq_true rfl) ⟨Nat.le_of_ble_eq_true rfl, Nat.le_of_ble_eq_true rfl, Nat.le_of_ble_eq_true rfl, Nat.le_of_ble_eq_true rfl⟩ (fun  N_235 V_234 q_236 => ?_)
            obtain ⟨rfl, q_232⟩ := q_236
            have j_233 := JR.trans hJ0 (JR.weak q_232 (Sub.cons LM0 (by decide) (by decide) (by decide) (Or.inl rfl) Sub.nil))
            refine aw_aload_n dX12_tried_65 rfl ?_
            refine aw_iload_n dX12_tried_66 rfl ?_
            obtain ⟨ftoldPeople_240, ftoldDoors_240, fwasDoors_240, ffault_240, fopen_240, flines_240, fmeantSet_240, fopenedNow_240, fvainNow_240, flowNow_240, fhighNow_240, fisKept_240, tad_240, pl0_240, le0_240, nu0_240, coy_240, wag_240, say_240, e_240, hntad_240, hnpl0_240, hnle0_240, hnnu0_240, hncoy_240, hnwag_240, hnsay_240⟩ := JR.get j_233 cm_100
            refine aw_callVv (J' := jX12_nightsGo) (As := [.int (nI zn0)]) (st := []) dX12_tried_67 tb_1371 ok_X12_nightsGo ⟨_, e_240⟩ (by omega) rfl rfl (r_nightsGo l D b N V_234 hN cl j_233.1 (nI zn0) (WF.fr hwf j_233.2.2.1)) rfl (Nat.le_of_ble_eq_true rfl) ⟨Nat.le_of_ble_eq_true rfl, Nat.le_of_ble_eq_true rfl, Nat.le_of_ble_eq_true rfl, Nat.le_of_ble_eq_true rfl⟩ (fun  N_241 V_239 q_242 => ?_)
            obtain ⟨rfl, q_237⟩ := q_242
            have j_238 := JR.trans j_233 (JR.weak q_237 (Sub.cons (LMs LM0) (by decide) (by decide) (by decide) (Or.inl rfl) (Sub.cons (LMs (LMs LM0)) (by decide) (by decide) (by decide) (Or.inr ⟨by decide, by decide⟩) (Sub.cons (LMs (LMs (LMs LM0))) (by decide) (by decide) (by decide) (Or.inr ⟨by decide, by decide⟩) (Sub.cons LM0 (by decide) (by decide) (by decide) (Or.inl rfl) (Sub.cons LM0 (by decide) (by decide) (by decide) (Or.inl rfl) (Sub.cons LM0 (by decide) (by decide) (by decide) (Or.inl rfl) (Sub.cons LM0 (by decide) (by decide) (by decide) (Or.inl rfl) Sub.nil))))))))
            refine aw_iload_n dX12_tried_70 rfl ?_
            by_cases sw_243 : (nI (z_231 + 50)) = 0
            · skip
              refine aw_eqi sw_243 ?_
              refine aw_lookup (off := 25) (tgt := 96) dX12_tried_71 (by decide) (by decide) (by decide) ?_
              refine aw_aload_n dX12_tried_96 rfl ?_
              obtain ⟨ftoldPeople_244, ftoldDoors_244, fwasDoors_244, ffault_244, fopen_244, flines_244, fmeantSet_244, fopenedNow_244, fvainNow_244, flowNow_244, fhighNow_244, fisKept_244, tad_244, pl0_244, le0_244, nu0_244, coy_244, wag_244, say_244, e_244, hntad_244, hnpl0_244, hnle0_244, hnnu0_244, hncoy_244, hnwag_244, hnsay_244⟩ := JR.get j_238 cm_100
              refine aw_get dX12_tried_97 fl_X12_321 e_244 (by omega) rfl ?_
              refine aw_istore_n (ls' := [some (.ref (b + 100)), some (.int (nI zn0)), some (.int (nI (z_231 + 50))), some (.int fopenedNow_244)]) dX12_tried_100 (Nat.le_of_ble_eq_true rfl) rfl ?_
              refine aw_goto (tgt := 163) dX12_tried_101 (by decide) ?_
              refine aw_aload_n dX12_tried_163 rfl ?_
              refine aw_get dX12_tried_164 fl_X12_13 e_244 (by omega) rfl ?_
              refine aw_aload_n dX12_tried_167 rfl ?_
              refine aw_get dX12_tried_168 fl_X12_7 e_244 (by omega) rfl ?_
              refine aw_callSv (J' := jX12_copies) (As := [.ref (b + 102), .ref (b + 101)]) (st := []) dX12_tried_171 tb_1299 ok_X12_copies rfl (r_copies l D b N V_239 hN cl j_238.1 102 2 cm_102 101 1 cm_101 (by decide)) rfl (Nat.le_of_ble_eq_true rfl) ⟨Nat.le_of_ble_eq_true rfl, Nat.le_of_ble_eq_true rfl, Nat.le_of_ble_eq_true rfl, Nat.le_of_ble_eq_true rfl⟩ (fun  N_248 V_247 q_249 => ?_)
              obtain ⟨rfl, q_245⟩ := q_249
              have j_246 := JR.trans j_238 (JR.weak q_245 (Sub.cons LM0 (by decide) (by decide) (by decide) (Or.inl rfl) Sub.nil))
              refine aw_iload_n dX12_tried_174 rfl ?_
              refine aw_ireti dX12_tried_175 rfl (Nat.le_of_ble_eq_true rfl) (Nat.le_of_ble_eq_true rfl) ?_
              exact ⟨rfl, j_246⟩
            have nsw_243 : ¬ (z_231 + 50) = 0 := fun e => sw_243 (congrArg nI e)
            by_cases sw_250 : (nI (z_231 + 50)) = 1
            · skip
              refine aw_eqi sw_250 ?_
              refine aw_lookup (off := 33) (tgt := 104) dX12_tried_71 (by decide) (by decide) (by decide) ?_
              refine aw_aload_n dX12_tried_104 rfl ?_
              obtain ⟨ftoldPeople_251, ftoldDoors_251, fwasDoors_251, ffault_251, fopen_251, flines_251, fmeantSet_251, fopenedNow_251, fvainNow_251, flowNow_251, fhighNow_251, fisKept_251, tad_251, pl0_251, le0_251, nu0_251, coy_251, wag_251, say_251, e_251, hntad_251, hnpl0_251, hnle0_251, hnnu0_251, hncoy_251, hnwag_251, hnsay_251⟩ := JR.get j_238 cm_100
              refine aw_get dX12_tried_105 fl_X12_324 e_251 (by omega) rfl ?_
              refine aw_istore_n (ls' := [some (.ref (b + 100)), some (.int (nI zn0)), some (.int (nI (z_231 + 50))), some (.int fvainNow_251)]) dX12_tried_108 (Nat.le_of_ble_eq_true rfl) rfl ?_
              refine aw_goto (tgt := 163) dX12_tried_109 (by decide) ?_
              refine aw_aload_n dX12_tried_163 rfl ?_
              refine aw_get dX12_tried_164 fl_X12_13 e_251 (by omega) rfl ?_
              refine aw_aload_n dX12_tried_167 rfl ?_
              refine aw_get dX12_tried_168 fl_X12_7 e_251 (by omega) rfl ?_
              refine aw_callSv (J' := jX12_copies) (As := [.ref (b + 102), .ref (b + 101)]) (st := []) dX12_tried_171 tb_1299 ok_X12_copies rfl (r_copies l D b N V_239 hN cl j_238.1 102 2 cm_102 101 1 cm_101 (by decide)) rfl (Nat.le_of_ble_eq_true rfl) ⟨Nat.le_of_ble_eq_true rfl, Nat.le_of_ble_eq_true rfl, Nat.le_of_ble_eq_true rfl, Nat.le_of_ble_eq_true rfl⟩ (fun  N_255 V_254 q_256 => ?_)
              obtain ⟨rfl, q_252⟩ := q_256
              have j_253 := JR.trans j_238 (JR.weak q_252 (Sub.cons LM0 (by decide) (by decide) (by decide) (Or.inl rfl) Sub.nil))
              refine aw_iload_n dX12_tried_174 rfl ?_
              refine aw_ireti dX12_tried_175 rfl (Nat.le_of_ble_eq_true rfl) (Nat.le_of_ble_eq_true rfl) ?_
              exact ⟨rfl, j_253⟩
            have nsw_250 : ¬ (z_231 + 50) = 1 := fun e => sw_250 (congrArg nI e)
            have tsw_243 : (nI (z_231 + 50)).toInt ≠ 0 := fx_tne sw_243
            have tsw_250 : (nI (z_231 + 50)).toInt ≠ 1 := fx_tne sw_250
            refine aw_lookup (off := 41) (tgt := 112) dX12_tried_71 (by decide) (by show Op.lookupswitch.offset [(0, 25), (1, 33)] 41 (nI (z_231 + 50)).toInt = 41; simp only [Op.lookupswitch.offset_cons, Op.lookupswitch.offset_nil]; rw [if_neg (Ne.symm tsw_243), if_neg (Ne.symm tsw_250)]) (by decide) ?_
            refine aw_iload_n dX12_tried_112 rfl ?_
            refine aw_bipush (v := 30) dX12_tried_113 (by decide) ?_
            refine aw_icmp_ge (tgt := 132) dX12_tried_115 (by decide) (fun c_257 => ?_) (fun c_257 => ?_)
            · skip
              have nc_257 : 30 ≤ (z_231 + 50) := (nI_leI (a := 30) (b := (z_231 + 50)) (by omega) (by omega)).mp c_257
              refine aw_iload_n dX12_tried_132 rfl ?_
              refine aw_bipush (v := 50) dX12_tried_133 (by decide) ?_
              refine aw_icmp_ge (tgt := 149) dX12_tried_135 (by decide) (fun c_258 => ?_) (fun c_258 => ?_)
              · skip
                have nc_258 : 50 ≤ (z_231 + 50) := (nI_leI (a := 50) (b := (z_231 + 50)) (by omega) (by omega)).mp c_258
                refine aw_aload_n dX12_tried_149 rfl ?_
                obtain ⟨ftoldPeople_259, ftoldDoors_259, fwasDoors_259, ffault_259, fopen_259, flines_259, fmeantSet_259, fopenedNow_259, fvainNow_259, flowNow_259, fhighNow_259, fisKept_259, tad_259, pl0_259, le0_259, nu0_259, coy_259, wag_259, say_259, e_259, hntad_259, hnpl0_259, hnle0_259, hnnu0_259, hncoy_259, hnwag_259, hnsay_259⟩ := JR.get j_238 cm_100
                refine aw_get dX12_tried_150 fl_X12_7 e_259 (by omega) rfl ?_
                refine aw_sipush (v := 192) dX12_tried_153 (by decide) ?_
                refine aw_iload_n dX12_tried_156 rfl ?_
                refine aw_iadd dX12_tried_157 ?_
                refine aw_eqi (y := nI (192 + (z_231 + 50))) (nI_add _ _) ?_
                refine aw_bipush (v := 50) dX12_tried_158 (by decide) ?_
                refine aw_isub dX12_tried_160 ?_
                refine aw_eqi (y := (nI ((192 + (z_231 + 50)) - 50))) (pk_sub (a := (192 + (z_231 + 50))) (b := 50) (by omega)) ?_
                obtain ⟨g_260, e_260⟩ := JR.get j_238 cm_101
                refine aw_iald (v := (g_260 ((192 + (z_231 + 50)) - 50))) dX12_tried_161 e_260 (by omega) (vp_in_nI (n := ((192 + (z_231 + 50)) - 50)) (by omega) (by omega)) (congrArg g_260 (nI_clamp (n := ((192 + (z_231 + 50)) - 50)) (by omega))) ?_
                refine aw_istore_n (ls' := [some (.ref (b + 100)), some (.int (nI zn0)), some (.int (nI (z_231 + 50))), some (.int (g_260 ((192 + (z_231 + 50)) - 50)))]) dX12_tried_162 (Nat.le_of_ble_eq_true rfl) rfl ?_
                refine aw_aload_n dX12_tried_163 rfl ?_
                refine aw_get dX12_tried_164 fl_X12_13 e_259 (by omega) rfl ?_
                refine aw_aload_n dX12_tried_167 rfl ?_
                refine aw_get dX12_tried_168 fl_X12_7 e_259 (by omega) rfl ?_
                refine aw_callSv (J' := jX12_copies) (As := [.ref (b + 102), .ref (b + 101)]) (st := []) dX12_tried_171 tb_1299 ok_X12_copies rfl (r_copies l D b N V_239 hN cl j_238.1 102 2 cm_102 101 1 cm_101 (by decide)) rfl (Nat.le_of_ble_eq_true rfl) ⟨Nat.le_of_ble_eq_true rfl, Nat.le_of_ble_eq_true rfl, Nat.le_of_ble_eq_true rfl, Nat.le_of_ble_eq_true rfl⟩ (fun  N_264 V_263 q_265 => ?_)
                obtain ⟨rfl, q_261⟩ := q_265
                have j_262 := JR.trans j_238 (JR.weak q_261 (Sub.cons LM0 (by decide) (by decide) (by decide) (Or.inl rfl) Sub.nil))
                refine aw_iload_n dX12_tried_174 rfl ?_
                refine aw_ireti dX12_tried_175 rfl (Nat.le_of_ble_eq_true rfl) (Nat.le_of_ble_eq_true rfl) ?_
                exact ⟨rfl, j_262⟩
              · skip
                have nc_258 : ¬ (50 ≤ (z_231 + 50)) := fun z => c_258 ((nI_leI (a := 50) (b := (z_231 + 50)) (by omega) (by omega)).mpr z)
                refine aw_aload_n dX12_tried_138 rfl ?_
                refine aw_iload_n dX12_tried_139 rfl ?_
                refine aw_bipush (v := 30) dX12_tried_140 (by decide) ?_
                refine aw_isub dX12_tried_142 ?_
                refine aw_eqi (y := (nI ((z_231 + 50) - 30))) (pk_sub (a := (z_231 + 50)) (b := 30) (by omega)) ?_
                obtain ⟨ftoldPeople_267, ftoldDoors_267, fwasDoors_267, ffault_267, fopen_267, flines_267, fmeantSet_267, fopenedNow_267, fvainNow_267, flowNow_267, fhighNow_267, fisKept_267, tad_267, pl0_267, le0_267, nu0_267, coy_267, wag_267, say_267, e_267, hntad_267, hnpl0_267, hnle0_267, hnnu0_267, hncoy_267, hnwag_267, hnsay_267⟩ := JR.get j_238 cm_100
                refine aw_callVi (J' := jX12_greatest) (As := [.int (nI ((z_231 + 50) - 30))]) (st := []) dX12_tried_143 tb_1388 ok_X12_greatest ⟨_, e_267⟩ (by omega) rfl rfl (r_greatest l D b N V_239 hN cl j_238.1 (nI ((z_231 + 50) - 30)) ⟨((z_231 + 50) - 30), by omega, rfl⟩) rfl (Nat.le_of_ble_eq_true rfl) ⟨Nat.le_of_ble_eq_true rfl, Nat.le_of_ble_eq_true rfl, Nat.le_of_ble_eq_true rfl, Nat.le_of_ble_eq_true rfl⟩ (fun r_268 N_269 V_270 q_271 => ?_)
                obtain ⟨rfl, rfl⟩ := q_271
                refine aw_goto (tgt := 162) dX12_tried_146 (by decide) ?_
                refine aw_istore_n (ls' := [some (.ref (b + 100)), some (.int (nI zn0)), some (.int (nI (z_231 + 50))), some (.int r_268)]) dX12_tried_162 (Nat.le_of_ble_eq_true rfl) rfl ?_
                refine aw_aload_n dX12_tried_163 rfl ?_
                refine aw_get dX12_tried_164 fl_X12_13 e_267 (by omega) rfl ?_
                refine aw_aload_n dX12_tried_167 rfl ?_
                refine aw_get dX12_tried_168 fl_X12_7 e_267 (by omega) rfl ?_
                refine aw_callSv (J' := jX12_copies) (As := [.ref (b + 102), .ref (b + 101)]) (st := []) dX12_tried_171 tb_1299 ok_X12_copies rfl (r_copies l D b N V_239 hN cl j_238.1 102 2 cm_102 101 1 cm_101 (by decide)) rfl (Nat.le_of_ble_eq_true rfl) ⟨Nat.le_of_ble_eq_true rfl, Nat.le_of_ble_eq_true rfl, Nat.le_of_ble_eq_true rfl, Nat.le_of_ble_eq_true rfl⟩ (fun  N_275 V_274 q_276 => ?_)
                obtain ⟨rfl, q_272⟩ := q_276
                have j_273 := JR.trans j_238 (JR.weak q_272 (Sub.cons LM0 (by decide) (by decide) (by decide) (Or.inl rfl) Sub.nil))
                refine aw_iload_n dX12_tried_174 rfl ?_
                refine aw_ireti dX12_tried_175 rfl (Nat.le_of_ble_eq_true rfl) (Nat.le_of_ble_eq_true rfl) ?_
                exact ⟨rfl, j_273⟩
            · skip
              have nc_257 : ¬ (30 ≤ (z_231 + 50)) := fun z => c_257 ((nI_leI (a := 30) (b := (z_231 + 50)) (by omega) (by omega)).mpr z)
              refine aw_aload_n dX12_tried_118 rfl ?_
              refine aw_iload_n dX12_tried_119 rfl ?_
              refine aw_bipush (v := 10) dX12_tried_120 (by decide) ?_
              refine aw_isub dX12_tried_122 ?_
              refine aw_eqi (y := (nI ((z_231 + 50) - 10))) (pk_sub (a := (z_231 + 50)) (b := 10) (by omega)) ?_
              obtain ⟨ftoldPeople_279, ftoldDoors_279, fwasDoors_279, ffault_279, fopen_279, flines_279, fmeantSet_279, fopenedNow_279, fvainNow_279, flowNow_279, fhighNow_279, fisKept_279, tad_279, pl0_279, le0_279, nu0_279, coy_279, wag_279, say_279, e_279, hntad_279, hnpl0_279, hnle0_279, hnnu0_279, hncoy_279, hnwag_279, hnsay_279⟩ := JR.get j_238 cm_100
              refine aw_callVi (J' := jX12_fearOf) (As := [.int (nI ((z_231 + 50) - 10))]) (st := []) dX12_tried_123 tb_1430 ok_X12_fearOf ⟨_, e_279⟩ (by omega) rfl rfl (r_fearOf l D b N V_239 hN cl j_238.1 (nI ((z_231 + 50) - 10)) ⟨((z_231 + 50) - 10), by omega, rfl⟩) rfl (Nat.le_of_ble_eq_true rfl) ⟨Nat.le_of_ble_eq_true rfl, Nat.le_of_ble_eq_true rfl, Nat.le_of_ble_eq_true rfl, Nat.le_of_ble_eq_true rfl⟩ (fun r_280 N_281 V_282 q_283 => ?_)
              obtain ⟨h_278, rfl, rfl⟩ := q_283
              refine aw_callSi (J' := jX12_orNone) (As := [.int r_280]) (st := []) dX12_tried_126 tb_1446 ok_X12_orNone rfl (r_orNone l D b N V_239 hN cl j_238.1 r_280) rfl (Nat.le_of_ble_eq_true rfl) ⟨Nat.le_of_ble_eq_true rfl, Nat.le_of_ble_eq_true rfl, Nat.le_of_ble_eq_true rfl, Nat.le_of_ble_eq_true rfl⟩ (fun r_285 N_286 V_287 q_288 => ?_)
              obtain ⟨rfl, rfl⟩ := q_288
              refine aw_goto (tgt := 162) dX12_tried_129 (by decide) ?_
              refine aw_istore_n (ls' := [some (.ref (b + 100)), some (.int (nI zn0)), some (.int (nI (z_231 + 50))), some (.int r_285)]) dX12_tried_162 (Nat.le_of_ble_eq_true rfl) rfl ?_
              refine aw_aload_n dX12_tried_163 rfl ?_
              refine aw_get dX12_tried_164 fl_X12_13 e_279 (by omega) rfl ?_
              refine aw_aload_n dX12_tried_167 rfl ?_
              refine aw_get dX12_tried_168 fl_X12_7 e_279 (by omega) rfl ?_
              refine aw_callSv (J' := jX12_copies) (As := [.ref (b + 102), .ref (b + 101)]) (st := []) dX12_tried_171 tb_1299 ok_X12_copies rfl (r_copies l D b N V_239 hN cl j_238.1 102 2 cm_102 101 1 cm_101 (by decide)) rfl (Nat.le_of_ble_eq_true rfl) ⟨Nat.le_of_ble_eq_true rfl, Nat.le_of_ble_eq_true rfl, Nat.le_of_ble_eq_true rfl, Nat.le_of_ble_eq_true rfl⟩ (fun  N_292 V_291 q_293 => ?_)
              obtain ⟨rfl, q_289⟩ := q_293
              have j_290 := JR.trans j_238 (JR.weak q_289 (Sub.cons LM0 (by decide) (by decide) (by decide) (Or.inl rfl) Sub.nil))
              refine aw_iload_n dX12_tried_174 rfl ?_
              refine aw_ireti dX12_tried_175 rfl (Nat.le_of_ble_eq_true rfl) (Nat.le_of_ble_eq_true rfl) ?_
              exact ⟨rfl, j_290⟩
          · skip
            refine aw_iconst (v := (-1)) dX12_tried_52 (by decide) ?_
            refine aw_ireti dX12_tried_53 rfl (Nat.le_of_ble_eq_true rfl) (Nat.le_of_ble_eq_true rfl) ?_
            exact ⟨rfl, hJ0⟩
