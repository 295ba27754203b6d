theorem tb_321 : (Jvm.Cond.declares ({ cls := "FearLocks$LinesReader", name := "startsLine", desc := "(I)Z" } : Jvm.MethodName)) ∈ fx_NW := fx_n2 81 (by decide +kernel) rfl
theorem tb_322 : (Jvm.Cond.sameMethod "FearLocks$LinesReader" "FearLocks$LinesReader" "startsLine" "(I)Z") ∈ fx_TB := fx_m2 82 (by decide +kernel) rfl
theorem tb_344 : (Jvm.Cond.declares ({ cls := "FearLocks$LinesReader", name := "readLine", desc := "()Z" } : Jvm.MethodName)) ∈ fx_NW := fx_n2 104 (by decide +kernel) rfl
theorem tb_345 : (Jvm.Cond.sameMethod "FearLocks$LinesReader" "FearLocks$LinesReader" "readLine" "()Z") ∈ fx_TB := fx_m2 105 (by decide +kernel) rfl
theorem tb_302 : (Jvm.Cond.sameMethod "FearLocks$LawReader" "FearLocks$LinesReader" "readLines" "(I)I") ∈ fx_TB := fx_m2 62 (by decide +kernel) rfl
theorem tb_603 : (Jvm.Cond.sameMethod "FearLocks$DreadsReader" "FearLocks$LinesReader" "readLines" "(I)I") ∈ fx_TB := fx_m3 123 (by decide +kernel) rfl
theorem tb_620 : (Jvm.Cond.sameMethod "FearLocks$OrdersReader" "FearLocks$LinesReader" "readLines" "(I)I") ∈ fx_TB := fx_m3 140 (by decide +kernel) rfl

/-- the receiver's class RC chooses J' where the link names y, which stands in owner -/
def fx_okW (J' : Md) (y : MethodName) (RC owner : String) (n : Nat) : Prop := fx_ok J' n ∧ Cond.instanceMethod J'.1 ∈ fx_TB ∧ Cond.selects RC y J'.1 ∈ fx_TB ∧ Cond.sameMethod y.cls owner y.name y.desc ∈ fx_TB ∧ (Cond.declares ⟨owner, y.name, y.desc⟩ ∈ fx_NW ∨ J'.1 = ⟨owner, y.name, y.desc⟩) ∧ (owner ≠ "java/lang/invoke/MethodHandle" ∧ owner ≠ "java/lang/invoke/VarHandle") ∧ (parseMethodDescriptor y.desc).map (fun d => d.parameters.length) = some n
section AWW
variable {l : Launch} {D : va_G} {b : Nat} {J : Md} {R : Room} {X : Sc} {FQ : Array Value → List Frame → State → State → Prop} {pc : Nat} {ls ls' : List (Option Value)} {st : List Value} {N : Nat} {V : Wd} {k n : Nat}
theorem aw_callW {J' : Md} {y : MethodName} {RC owner : String} {idx nn d mc ms : Nat} {As st0 : List Value} {Q : Option Value → Nat → Wd → Prop} {i ci : Nat} (hd : decode J.2.1 pc = .ok (.invokevirtual idx, 3)) (hl : Cond.methodLink J.1.cls idx y ∈ fx_TB) (hv : fx_okW J' y RC owner nn) (he : ∃ fs, V i = cO ci fs) (hi : i < N) (hc : (vwCl[ci]?).map (·.1) = some RC) (hst : st0 = As.reverse ++ .ref (b + i) :: st) (hcall : MW l D b d J' (.ref (b + i) :: As) N V mc ms Q) (hn : As.length = nn) (hW : (st.map fun v => v.category).sum ≤ 8) (hrc : fx_rc R J' d k n mc ms) (h : ∀ (v : Option Value) (N' : Nat) (V' : Wd), Q v N' V' → AW l D b J R X FQ (pc + 3) ls (v.toList ++ st) N' V' (k + mc) (n + ms)) : AW l D b J R X FQ pc ls st0 N V k n := by
  intro p e s m args below meth c H locs arr hC hL hA hS
  obtain ⟨hx, hb, hr, hml, hown, hts, hlk, hnm, hK, hsz, hX, hNS, hEn⟩ := id hC
  obtain ⟨⟨g1, g2, g3⟩, g4, g5, g6, g7, g8, g9⟩ := hv
  obtain ⟨fs, he⟩ := he
  subst hst
  have up : ∀ {w : Cond}, w ∈ fx_TB → w.before args s = true := fun hw => hts _ (List.mem_cons_of_mem _ hw)
  have hG : GoodIn (fx_ws J) (fx_ws J') := fx_goodIn (xs := []) g1 (fun w hw => by cases hw)
  have hdecl : va_Decl s ⟨owner, y.name, y.desc⟩ := by
    rcases g7 with g7 | g7
    · exact Cond.declares_spec (hNS.use (A := args) g7)
    · rw [← g7]; exact va_Decl.of (up g4) (up g1)
  have cu : va_CU R s args J.1.cls RC owner idx y J'.1 J'.2.1 J'.2.2.1 J'.2.2.2 (fx_ws J') (fx_rm d mc ms) mc ms nn := ⟨⟨rfl, rfl, hrc.1, by have := hrc.2.1; show 8 + (J'.2.2.1 + 11) + 64 * (d + 1) ≤ _; omega, pay_in hts hG, List.mem_cons_self⟩, up g1, up g2, g8, fun sig hsig => by rw [hsig] at g9; exact (Option.some.inj g9).symm, up hl, up g6, hdecl, up g5, up g4⟩
  obtain ⟨q9, hq9, hq8⟩ : ∃ q9, vwCl[ci]? = some q9 ∧ q9.1 = RC := by
    cases hx9 : vwCl[ci]? with
    | none => rw [hx9] at hc; cases hc
    | some q9 => rw [hx9] at hc; exact ⟨q9, rfl, Option.some.inj hc⟩
  have hrecv := va_recv (q0 := 0) hK (va_one hA hi he) hq9 rfl
  rw [hq8] at hrecv
  exact fx_call (va_runU (As := As) (rest := st) ⟨hx, hb, hml, hown, hts⟩ hcall cu ⟨fx_blind, hrecv, fx_pre hK hA hNS hEn hS⟩ rfl hn hL.1 rfl (lv_room hW) hd hrc.2.2) hS (fun v N' V' hq H1 locs1 hA1 hS1 => h v N' V' hq p e s m args below meth c H1 locs1 arr hC hL hA1 hS1)
theorem aw_callWi {J' : Md} {y : MethodName} {RC owner : String} {idx nn d mc ms : Nat} {As st0 : List Value} {i ci : Nat} {Q : Int32 → Nat → Wd → Prop} (hd : decode J.2.1 pc = .ok (.invokevirtual idx, 3)) (hl : Cond.methodLink J.1.cls idx y ∈ fx_TB) (hv : fx_okW J' y RC owner nn) (he : ∃ fs, V i = cO ci fs) (hi : i < N) (hc : (vwCl[ci]?).map (·.1) = some RC) (hst : st0 = As.reverse ++ .ref (b + i) :: st) (hcall : MW l D b d J' (.ref (b + i) :: As) N V mc ms (fx_qi Q)) (hn : As.length = nn) (hW : (st.map fun v => v.category).sum ≤ 8) (hrc : fx_rc R J' d k n mc ms) (h : ∀ (x : Int32) (N' : Nat) (V' : Wd), Q x N' V' → AW l D b J R X FQ (pc + 3) ls (.int x :: st) N' V' (k + mc) (n + ms)) : AW l D b J R X FQ pc ls st0 N V k n := aw_callW hd hl hv he hi hc hst hcall hn hW hrc (fun v N' V' hq => by obtain ⟨x, rfl, hq⟩ := hq; exact h x N' V' hq)
end AWW

theorem okW_X5_startsLine_X5 : fx_okW jX5_startsLine ({ cls := "FearLocks$LinesReader", name := "startsLine", desc := "(I)Z" } : Jvm.MethodName) "FearLocks$LawReader" "FearLocks$LinesReader" 1 := ⟨⟨tb_331, tb_12, by decide +kernel, by decide +kernel, by decide +kernel⟩, tb_330, tb_329, tb_322, Or.inl tb_321, by decide +kernel, by decide +kernel⟩
theorem okW_X5_readLine_X5 : fx_okW jX5_readLine ({ cls := "FearLocks$LinesReader", name := "readLine", desc := "()Z" } : Jvm.MethodName) "FearLocks$LawReader" "FearLocks$LinesReader" 0 := ⟨⟨tb_389, tb_12, by decide +kernel, by decide +kernel, by decide +kernel⟩, tb_388, tb_387, tb_345, Or.inl tb_344, by decide +kernel, by decide +kernel⟩
theorem okW_X6_readLines_X5 : fx_okW jX6_readLines ({ cls := "FearLocks$LawReader", name := "readLines", desc := "(I)I" } : Jvm.MethodName) "FearLocks$LawReader" "FearLocks$LinesReader" 1 := ⟨⟨tb_306, tb_11, by decide +kernel, by decide +kernel, by decide +kernel⟩, tb_305, tb_304, tb_302, Or.inr rfl, by decide +kernel, by decide +kernel⟩
theorem okW_X2_startsLine_X2 : fx_okW jX2_startsLine ({ cls := "FearLocks$LinesReader", name := "startsLine", desc := "(I)Z" } : Jvm.MethodName) "FearLocks$DreadsReader" "FearLocks$LinesReader" 1 := ⟨⟨tb_325, tb_18, by decide +kernel, by decide +kernel, by decide +kernel⟩, tb_324, tb_323, tb_322, Or.inl tb_321, by decide +kernel, by decide +kernel⟩
theorem okW_X2_readLine_X2 : fx_okW jX2_readLine ({ cls := "FearLocks$LinesReader", name := "readLine", desc := "()Z" } : Jvm.MethodName) "FearLocks$DreadsReader" "FearLocks$LinesReader" 0 := ⟨⟨tb_348, tb_18, by decide +kernel, by decide +kernel, by decide +kernel⟩, tb_347, tb_346, tb_345, Or.inl tb_344, by decide +kernel, by decide +kernel⟩
theorem okW_X6_readLines_X2 : fx_okW jX6_readLines ({ cls := "FearLocks$DreadsReader", name := "readLines", desc := "(I)I" } : Jvm.MethodName) "FearLocks$DreadsReader" "FearLocks$LinesReader" 1 := ⟨⟨tb_306, tb_11, by decide +kernel, by decide +kernel, by decide +kernel⟩, tb_305, tb_604, tb_603, Or.inr rfl, by decide +kernel, by decide +kernel⟩
theorem okW_X8_startsLine_X8 : fx_okW jX8_startsLine ({ cls := "FearLocks$LinesReader", name := "startsLine", desc := "(I)Z" } : Jvm.MethodName) "FearLocks$OrdersReader" "FearLocks$LinesReader" 1 := ⟨⟨tb_334, tb_19, by decide +kernel, by decide +kernel, by decide +kernel⟩, tb_333, tb_332, tb_322, Or.inl tb_321, by decide +kernel, by decide +kernel⟩
theorem okW_X8_readLine_X8 : fx_okW jX8_readLine ({ cls := "FearLocks$LinesReader", name := "readLine", desc := "()Z" } : Jvm.MethodName) "FearLocks$OrdersReader" "FearLocks$LinesReader" 0 := ⟨⟨tb_532, tb_19, by decide +kernel, by decide +kernel, by decide +kernel⟩, tb_531, tb_530, tb_345, Or.inl tb_344, by decide +kernel, by decide +kernel⟩
theorem okW_X6_readLines_X8 : fx_okW jX6_readLines ({ cls := "FearLocks$OrdersReader", name := "readLines", desc := "(I)I" } : Jvm.MethodName) "FearLocks$OrdersReader" "FearLocks$LinesReader" 1 := ⟨⟨tb_306, tb_11, by decide +kernel, by decide +kernel, by decide +kernel⟩, tb_305, tb_621, tb_620, Or.inr rfl, by decide +kernel, by decide +kernel⟩
set_option maxHeartbeats 4000000 in
set_option maxRecDepth 100000 in
theorem g_X6_init_L (l : Launch) (D : va_G) (b : Nat) (N : Nat) (V : Wd) (p : Nat) (hpN : p < N) (h0 : V p = cO 5 [.null, .null]) : MV l D b 0 jX6_init [.ref (b + p), .ref (b + 1)] N V 0 0 (fun N9 V9 => N = N9 ∧ V9 p = cO 5 [.ref (b + 1), .null] ∧ ∀ i, i ≠ p → V9 i = V i) := by
  refine mw_of (by decide) (by simp [Value.category]) (Nat.le_of_ble_eq_true rfl) ?_
  show AW l D b jX6_init (fx_rm 0 0 0) none (fx_MQ D b 0 0 (fx_qv (fun N9 V9 => N = N9 ∧ V9 p = cO 5 [.ref (b + 1), .null] ∧ ∀ i, i ≠ p → V9 i = V i))) 0 [some (.ref (b + p)), some (.ref (b + 1))] [] N V 0 0
  refine aw_aload_n dX6_init_0 rfl ?_
  refine aw_objInit dX6_init_1 tb_287 tb_27 tb_28 ⟨Nat.le_of_ble_eq_true rfl, Nat.le_of_ble_eq_true rfl⟩ ?_
  refine aw_aload_n dX6_init_4 rfl ?_
  refine aw_aload_n dX6_init_5 rfl ?_
  refine aw_putF dX6_init_6 fp_X6_9_5 rfl h0 (by omega) rfl rfl (Nat.le_of_ble_eq_true rfl) rfl ?_
  refine aw_vreti dX6_init_9 rfl (Nat.le_of_ble_eq_true rfl) (Nat.le_of_ble_eq_true rfl) ?_
  exact ⟨rfl, (va_up_self _ _ _), fun i hi => (va_up_ne _ _ hi).trans (rfl)⟩

set_option maxHeartbeats 4000000 in
set_option maxRecDepth 100000 in
theorem g_X5_init (l : Launch) (D : va_G) (b : Nat) (N : Nat) (V : Wd) (p : Nat) (hpN : p < N) (x : Nat) (h0 : V p = cO 5 [.null, .null]) : MV l D b 1 jX5_init [.ref (b + p), .ref (b + 1), .ref (b + x)] N V 0 0 (fun N9 V9 => N = N9 ∧ V9 p = cO 5 [.ref (b + 1), .ref (b + x)] ∧ ∀ i, i ≠ p → V9 i = V i) := by
  refine mw_of (by decide) (by simp [Value.category]) (Nat.le_of_ble_eq_true rfl) ?_
  show AW l D b jX5_init (fx_rm 1 0 0) none (fx_MQ D b 0 0 (fx_qv (fun N9 V9 => N = N9 ∧ V9 p = cO 5 [.ref (b + 1), .ref (b + x)] ∧ ∀ i, i ≠ p → V9 i = V i))) 0 [some (.ref (b + p)), some (.ref (b + 1)), some (.ref (b + x))] [] N V 0 0
  refine aw_aload_n dX5_init_0 rfl ?_
  refine aw_aload_n dX5_init_1 rfl ?_
  refine aw_callIv (As := [.ref (b + 1)]) (st := []) dX5_init_2 tb_284 ok_X6_init rfl (g_X6_init_L l D b N V p hpN h0) rfl (Nat.le_of_ble_eq_true rfl) ⟨Nat.le_of_ble_eq_true rfl, Nat.le_of_ble_eq_true rfl, Nat.le_of_ble_eq_true rfl, Nat.le_of_ble_eq_true rfl⟩ (fun  N_3 V_2 q_4 => ?_)
  obtain ⟨rfl, h_1, fr_2⟩ := q_4
  refine aw_aload_n dX5_init_5 rfl ?_
  refine aw_aload_n dX5_init_6 rfl ?_
  refine aw_putF dX5_init_7 fp_X5_9 rfl h_1 (by omega) rfl rfl (Nat.le_of_ble_eq_true rfl) rfl ?_
  refine aw_vreti dX5_init_10 rfl (Nat.le_of_ble_eq_true rfl) (Nat.le_of_ble_eq_true rfl) ?_
  exact ⟨rfl, (va_up_self _ _ _), fun i hi => (va_up_ne _ _ hi).trans (fr_2 i hi)⟩

set_option maxHeartbeats 4000000 in
set_option maxRecDepth 100000 in
theorem g_X6_init_D (l : Launch) (D : va_G) (b : Nat) (N : Nat) (V : Wd) (p : Nat) (hpN : p < N) (h0 : V p = cO 2 [.null, .null, .int 0]) : MV l D b 0 jX6_init [.ref (b + p), .ref (b + 1)] N V 0 0 (fun N9 V9 => N = N9 ∧ V9 p = cO 2 [.ref (b + 1), .null, .int 0] ∧ ∀ i, i ≠ p → V9 i = V i) := by
  refine mw_of (by decide) (by simp [Value.category]) (Nat.le_of_ble_eq_true rfl) ?_
  show AW l D b jX6_init (fx_rm 0 0 0) none (fx_MQ D b 0 0 (fx_qv (fun N9 V9 => N = N9 ∧ V9 p = cO 2 [.ref (b + 1), .null, .int 0] ∧ ∀ i, i ≠ p → V9 i = V i))) 0 [some (.ref (b + p)), some (.ref (b + 1))] [] N V 0 0
  refine aw_aload_n dX6_init_0 rfl ?_
  refine aw_objInit dX6_init_1 tb_287 tb_27 tb_28 ⟨Nat.le_of_ble_eq_true rfl, Nat.le_of_ble_eq_true rfl⟩ ?_
  refine aw_aload_n dX6_init_4 rfl ?_
  refine aw_aload_n dX6_init_5 rfl ?_
  refine aw_putF dX6_init_6 fp_X6_9_2 rfl h0 (by omega) rfl rfl (Nat.le_of_ble_eq_true rfl) rfl ?_
  refine aw_vreti dX6_init_9 rfl (Nat.le_of_ble_eq_true rfl) (Nat.le_of_ble_eq_true rfl) ?_
  exact ⟨rfl, (va_up_self _ _ _), fun i hi => (va_up_ne _ _ hi).trans (rfl)⟩

set_option maxHeartbeats 4000000 in
set_option maxRecDepth 100000 in
theorem g_X2_init (l : Launch) (D : va_G) (b : Nat) (N : Nat) (V : Wd) (p : Nat) (hpN : p < N) (c : Nat) (pn : Int32) (h0 : V p = cO 2 [.null, .null, .int 0]) : MV l D b 1 jX2_init [.ref (b + p), .ref (b + 1), .ref (b + c), .int pn] N V 0 0 (fun N9 V9 => N = N9 ∧ V9 p = cO 2 [.ref (b + 1), .ref (b + c), .int pn] ∧ ∀ i, i ≠ p → V9 i = V i) := by
  refine mw_of (by decide) (by simp [Value.category]) (Nat.le_of_ble_eq_true rfl) ?_
  show AW l D b jX2_init (fx_rm 1 0 0) none (fx_MQ D b 0 0 (fx_qv (fun N9 V9 => N = N9 ∧ V9 p = cO 2 [.ref (b + 1), .ref (b + c), .int pn] ∧ ∀ i, i ≠ p → V9 i = V i))) 0 [some (.ref (b + p)), some (.ref (b + 1)), some (.ref (b + c)), some (.int pn)] [] N V 0 0
  refine aw_aload_n dX2_init_0 rfl ?_
  refine aw_aload_n dX2_init_1 rfl ?_
  refine aw_callIv (As := [.ref (b + 1)]) (st := []) dX2_init_2 tb_593 ok_X6_init rfl (g_X6_init_D l D b N V p hpN h0) rfl (Nat.le_of_ble_eq_true rfl) ⟨Nat.le_of_ble_eq_true rfl, Nat.le_of_ble_eq_true rfl, Nat.le_of_ble_eq_true rfl, Nat.le_of_ble_eq_true rfl⟩ (fun  N_3 V_2 q_4 => ?_)
  obtain ⟨rfl, h_1, fr_2⟩ := q_4
  refine aw_aload_n dX2_init_5 rfl ?_
  refine aw_aload_n dX2_init_6 rfl ?_
  refine aw_putF dX2_init_7 fp_X2_9 rfl h_1 (by omega) rfl rfl (Nat.le_of_ble_eq_true rfl) rfl ?_
  refine aw_aload_n dX2_init_10 rfl ?_
  refine aw_iload_n dX2_init_11 rfl ?_
  refine aw_putF dX2_init_12 fp_X2_15 rfl (va_up_self _ _ _) (by omega) rfl rfl (Nat.le_of_ble_eq_true rfl) rfl ?_
  refine aw_vreti dX2_init_15 rfl (Nat.le_of_ble_eq_true rfl) (Nat.le_of_ble_eq_true rfl) ?_
  exact ⟨rfl, (va_up_self _ _ _), fun i hi => (va_up_ne _ _ hi).trans ((va_up_ne _ _ hi).trans (fr_2 i hi))⟩

set_option maxHeartbeats 4000000 in
set_option maxRecDepth 100000 in
theorem g_X6_init_O (l : Launch) (D : va_G) (b : Nat) (N : Nat) (V : Wd) (p : Nat) (hpN : p < N) (h0 : V p = cO 7 [.null, .null]) : MV l D b 0 jX6_init [.ref (b + p), .ref (b + 1)] N V 0 0 (fun N9 V9 => N = N9 ∧ V9 p = cO 7 [.ref (b + 1), .null] ∧ ∀ i, i ≠ p → V9 i = V i) := by
  refine mw_of (by decide) (by simp [Value.category]) (Nat.le_of_ble_eq_true rfl) ?_
  show AW l D b jX6_init (fx_rm 0 0 0) none (fx_MQ D b 0 0 (fx_qv (fun N9 V9 => N = N9 ∧ V9 p = cO 7 [.ref (b + 1), .null] ∧ ∀ i, i ≠ p → V9 i = V i))) 0 [some (.ref (b + p)), some (.ref (b + 1))] [] N V 0 0
  refine aw_aload_n dX6_init_0 rfl ?_
  refine aw_objInit dX6_init_1 tb_287 tb_27 tb_28 ⟨Nat.le_of_ble_eq_true rfl, Nat.le_of_ble_eq_true rfl⟩ ?_
  refine aw_aload_n dX6_init_4 rfl ?_
  refine aw_aload_n dX6_init_5 rfl ?_
  refine aw_putF dX6_init_6 fp_X6_9_7 rfl h0 (by omega) rfl rfl (Nat.le_of_ble_eq_true rfl) rfl ?_
  refine aw_vreti dX6_init_9 rfl (Nat.le_of_ble_eq_true rfl) (Nat.le_of_ble_eq_true rfl) ?_
  exact ⟨rfl, (va_up_self _ _ _), fun i hi => (va_up_ne _ _ hi).trans (rfl)⟩

set_option maxHeartbeats 4000000 in
set_option maxRecDepth 100000 in
theorem g_X8_init (l : Launch) (D : va_G) (b : Nat) (N : Nat) (V : Wd) (p : Nat) (hpN : p < N) (c : Nat) (h0 : V p = cO 7 [.null, .null]) : MV l D b 1 jX8_init [.ref (b + p), .ref (b + 1), .ref (b + c)] N V 0 0 (fun N9 V9 => N = N9 ∧ V9 p = cO 7 [.ref (b + 1), .ref (b + c)] ∧ ∀ i, i ≠ p → V9 i = V i) := by
  refine mw_of (by decide) (by simp [Value.category]) (Nat.le_of_ble_eq_true rfl) ?_
  show AW l D b jX8_init (fx_rm 1 0 0) none (fx_MQ D b 0 0 (fx_qv (fun N9 V9 => N = N9 ∧ V9 p = cO 7 [.ref (b + 1), .ref (b + c)] ∧ ∀ i, i ≠ p → V9 i = V i))) 0 [some (.ref (b + p)), some (.ref (b + 1)), some (.ref (b + c))] [] N V 0 0
  refine aw_aload_n dX8_init_0 rfl ?_
  refine aw_aload_n dX8_init_1 rfl ?_
  refine aw_callIv (As := [.ref (b + 1)]) (st := []) dX8_init_2 tb_613 ok_X6_init rfl (g_X6_init_O l D b N V p hpN h0) rfl (Nat.le_of_ble_eq_true rfl) ⟨Nat.le_of_ble_eq_true rfl, Nat.le_of_ble_eq_true rfl, Nat.le_of_ble_eq_true rfl, Nat.le_of_ble_eq_true rfl⟩ (fun  N_3 V_2 q_4 => ?_)
  obtain ⟨rfl, h_1, fr_2⟩ := q_4
  refine aw_aload_n dX8_init_5 rfl ?_
  refine aw_aload_n dX8_init_6 rfl ?_
  refine aw_putF dX8_init_7 fp_X8_9 rfl h_1 (by omega) rfl rfl (Nat.le_of_ble_eq_true rfl) rfl ?_
  refine aw_vreti dX8_init_10 rfl (Nat.le_of_ble_eq_true rfl) (Nat.le_of_ble_eq_true rfl) ?_
  exact ⟨rfl, (va_up_self _ _ _), fun i hi => (va_up_ne _ _ hi).trans (fr_2 i hi)⟩
