/-! THE CLAIM OUT OF ONE WALK OF THE LAW'S BODY. Your part is whole_start (and what it stands on); all else here is the same for every law, but numbers. -/
def R_law : String := "FearLocksLaw"
def lw_P (b : Addr) (xs : List Int32) (args : Array Value) (s : State) : Prop := args = #[.ref b] ∧ s.IntsAt b xs ∧ xs.length ≤ 6 ∧ (Jvm.Cond.and given_1 narrow_1).before args s = true
def lw_Q (_ : Array Value) (s : State) (o : Outcome) (t : State) : Prop := o = .returned (some (.int 1)) ∧ Framed s o t [] 600000 7302249
def lw_Z (below : List Frame) (a : Array Value) (s : State) : State → Prop := fun t => ∃ o, t.status = .running ∧ Ended t below o ∧ lw_Q a s o t
/-- the law's own end, with 1 on the stack, nothing written that was there before, its room as the claim has it -/
theorem lw_ret {p : Program} {l : Launch} {e : Env} {s : State} {m : MethodId} {below : List Frame} {meth : Method} {c : Code} {args : Array Value} (hx : p.tables.exec = Jvm.exec) (hb : c.code = code) (hr : meth.sig.returnType = ret) (hlocks : meth.locks = false) {pc : Nat} {H : Heap} {ls : Array Slot} (hdg : decode code pc = .ok (.ireturn, 1)) : W p l e room_1 s m args below meth c H [] 600000 7302249 (lw_Z below args s) (F0 m pc ls [.int 1]) := by
  intro T hT X
  obtain ⟨fs, hret, hrun, hended, hW, hframe⟩ := X.leave (v := some (.int 1)) (hlocks := hlocks) (fun h => by rw [hr] at h; cases h)
  have hmeth' : T.vm.method? m = some meth := X.method'
  refine ⟨T.setFrames fs, ?_, .returned (some (.int 1)), hrun, hended, rfl, ⟨_, rfl⟩, hW, hframe⟩
  jvm_step X.here [X.here.top, hx, hb, hdg, hmeth', hr, ret, narrow_b1]
  (try refine ⟨rfl, ?_⟩); (try refine ⟨rfl, ?_⟩)
  first | (intro acts; rw [hret _ acts rfl rfl rfl]) | rw [hret _ _ rfl rfl rfl]
  exact Steps.refl _

def jL_law : Md := (yL_law, cL_law, 4, some .boolean)
def lawQ (b : Nat) : Array Value → List Frame → State → State → Prop := fun args below s t => s.heap.size ≤ b → lw_Z below args s t
theorem aw_lawret {l : Launch} {D : va_G} {b : Nat} {X : Sc} {pc : Nat} {ls : List (Option Value)} {N : Nat} {V : Wd} {k n : Nat} (hd : decode code pc = .ok (.ireturn, 1)) (hk : k ≤ 600000) (hn : n ≤ 7302249) : AW l D b jL_law room_1 X (lawQ b) pc ls [.int 1] N V k n := by
  intro p e s m args below meth c H locs arr hC hL hA hS T hT X9
  by_cases hsz : s.heap.size ≤ b
  · obtain ⟨t, a1, q⟩ := va_forget (fun q hq => Nat.le_trans hsz (hS.2.2 q hq)) (W.widen hk hn (lw_ret (args := args) hC.1 hC.2.1 hC.2.2.1 hC.2.2.2.2.2.2.1 (H := H) (ls := arr) hd)) T hT X9
    exact ⟨t, a1, fun _ => q⟩
  · exact ⟨_, Steps.refl _, fun h => absurd h hsz⟩
theorem I0.frame {D : va_G} {b : Nat} {V V9 : Wd} (h : I0 D b V) (f : ∀ i, i < 100 → V9 i = V i) : I0 D b V9 := by
  obtain ⟨m0, m1, m2, a3, a21, a39, m57, m63, m73, a74, m92, m93, m94, m95, m96, m97, m99⟩ := h
  exact ⟨(f _ (by omega)).trans m0, (f _ (by omega)).trans m1, (f _ (by omega)).trans m2, CA.frame a3 (fun i q1 q2 => f i (by omega)), CA.frame a21 (fun i q1 q2 => f i (by omega)), CA.frame a39 (fun i q1 q2 => f i (by omega)), (f _ (by omega)).trans m57, (f _ (by omega)).trans m63, (f _ (by omega)).trans m73, CA.frame a74 (fun i q1 q2 => f i (by omega)), (f _ (by omega)).trans m92, (f _ (by omega)).trans m93, (f _ (by omega)).trans m94, (f _ (by omega)).trans m95, (f _ (by omega)).trans m96, (f _ (by omega)).trans m97, (f _ (by omega)).trans m99⟩
theorem fx_and31 (x : Int32) : ∃ j : Nat, j < 32 ∧ x &&& 31 = nI j := by
  have e : x = nI x.toBitVec.toNat := by
    apply Int32.toBitVec_inj.mp
    simp [nI]
  refine ⟨x.toBitVec.toNat &&& 31, Nat.lt_of_le_of_lt Nat.and_le_right (by decide), ?_⟩
  rw [← fx_andI, ← e]; rfl
theorem fx_lcmp (x : Int64) : lg_cmp x x = 0 := by
  unfold lg_cmp; simp
theorem fx_L6 : ∀ L : Nat, L < 6 → nI L - 6 < 0 := by decide

theorem nw_L_10 : fx_nw RL 10 11 [.null, .null, .null, .null, .null, .null, .null, .null, .null, .int 0, .int 0, .int 0, .null, .int 0, .int 0, .int 0, .int 0, .int 0, .int 0, .int 0, .int 0, .int 0, .int 0, .null, .null, .null, .null, .null, .null, .null, .null, .null, .null, .null, .null, .null, .int 0, .int 0, .int 0, .int 0, .null, .null, .null, .null, .null, .int 0, .int 0, .null, .null, .null, .null, .int 0] := ⟨RX12, TX12, 52, tyX12, rfl, uw_X12, tyX12_ok, tb_1032, tb_1033, tb_10, by decide +kernel, rfl⟩

theorem nw_L_7 : fx_nw RL 7 10 [.null, .null, .null, .null, .int 0, .null, .null, .null, .null, .null, .null] := ⟨RX11, TX11, 11, tyX11, rfl, uw_X11, tyX11_ok, tb_21, tb_22, tb_1, by decide +kernel, rfl⟩

set_option maxHeartbeats 4000000 in
set_option maxRecDepth 100000 in
theorem law_short (l : Launch) (D : va_G) (b b9 : Nat) (xs : Nat → Int32) (L : Nat) (hL : L < 6) (V : Wd) : AW l D b jL_law room_1 (some (b9, L, xs)) (lawQ b) 0 [some (.ref b9), none, none, none] [] 0 V 0 0 := by
  refine aw_new dL_law_0 nw_L_7 (Nat.le_of_ble_eq_true rfl) (Nat.le_of_ble_eq_true rfl) ?_
  refine aw_dup dL_law_3 rfl ?_
  refine aw_callIv (As := []) (st := [.ref (b + 0)]) dL_law_4 tb_23 ok_X11_init rfl (c_initFearLocks l D b (va_up V 0 (cO 10 [.null, .null, .null, .null, .int 0, .null, .null, .null, .null, .null, .null])) (va_up_self _ _ _)) rfl (Nat.le_of_ble_eq_true rfl) ⟨Nat.le_of_ble_eq_true rfl, Nat.le_of_ble_eq_true rfl, Nat.le_of_ble_eq_true rfl, Nat.le_of_ble_eq_true rfl⟩ (fun  N_3 V_2 q_4 => ?_)
  obtain ⟨rfl, hI_1⟩ := q_4
  refine aw_astore_n (ls' := [some (.ref b9), some (.ref (b + 0)), none, none]) dL_law_7 (Nat.le_of_ble_eq_true rfl) rfl ?_
  refine aw_new dL_law_8 nw_L_10 (Nat.le_of_ble_eq_true rfl) (Nat.le_of_ble_eq_true rfl) ?_
  refine aw_dup dL_law_11 rfl ?_
  refine aw_callIv (As := []) (st := [.ref (b + 100)]) dL_law_12 tb_1034 ok_X12_init rfl (k_init l D b (va_up V_2 100 (cO 11 [.null, .null, .null, .null, .null, .null, .null, .null, .null, .int 0, .int 0, .int 0, .null, .int 0, .int 0, .int 0, .int 0, .int 0, .int 0, .int 0, .int 0, .int 0, .int 0, .null, .null, .null, .null, .null, .null, .null, .null, .null, .null, .null, .null, .null, .int 0, .int 0, .int 0, .int 0, .null, .null, .null, .null, .null, .int 0, .int 0, .null, .null, .null, .null, .int 0])) (va_up_self _ _ _)) rfl (Nat.le_of_ble_eq_true rfl) ⟨Nat.le_of_ble_eq_true rfl, Nat.le_of_ble_eq_true rfl, Nat.le_of_ble_eq_true rfl, Nat.le_of_ble_eq_true rfl⟩ (fun  N_8 V_7 q_9 => ?_)
  obtain ⟨rfl, hM_5, fr_6⟩ := q_9
  refine aw_astore_n (ls' := [some (.ref b9), some (.ref (b + 0)), some (.ref (b + 100)), none]) dL_law_15 (Nat.le_of_ble_eq_true rfl) rfl ?_
  refine aw_iconst (v := 0) dL_law_16 (by decide) ?_
  refine aw_istore_n (ls' := [some (.ref b9), some (.ref (b + 0)), some (.ref (b + 100)), some (.int 0)]) dL_law_17 (Nat.le_of_ble_eq_true rfl) rfl ?_
  refine aw_iload_n dL_law_18 rfl ?_
  refine aw_aload_n dL_law_19 rfl ?_
  refine aw_slen dL_law_20 rfl ?_
  refine aw_eqi (y := (nI L)) rfl ?_
  refine aw_bipush (v := 6) dL_law_21 (by decide) ?_
  refine aw_isub dL_law_23 ?_
  refine aw_icmp_gt (tgt := 988) dL_law_24 (by decide) (fun c_10 => ?_) (fun c_10 => ?_)
  rotate_left
  · exact absurd (fx_L6 L hL) c_10
  refine aw_iconst (v := 1) dL_law_988 (by decide) ?_
  exact aw_lawret dL_law_989 (Nat.le_of_ble_eq_true rfl) (Nat.le_of_ble_eq_true rfl)

set_option maxHeartbeats 4000000 in
set_option maxRecDepth 100000 in
theorem law_six (l : Launch) (D : va_G) (b b9 : Nat) (xs : Nat → Int32) (V : Wd) : AW l D b jL_law room_1 (some (b9, 6, xs)) (lawQ b) 0 [some (.ref b9), none, none, none] [] 0 V 0 0 := by
  refine aw_new dL_law_0 nw_L_7 (Nat.le_of_ble_eq_true rfl) (Nat.le_of_ble_eq_true rfl) ?_
  refine aw_dup dL_law_3 rfl ?_
  refine aw_callIv (As := []) (st := [.ref (b + 0)]) dL_law_4 tb_23 ok_X11_init rfl (c_initFearLocks l D b (va_up V 0 (cO 10 [.null, .null, .null, .null, .int 0, .null, .null, .null, .null, .null, .null])) (va_up_self _ _ _)) rfl (Nat.le_of_ble_eq_true rfl) ⟨Nat.le_of_ble_eq_true rfl, Nat.le_of_ble_eq_true rfl, Nat.le_of_ble_eq_true rfl, Nat.le_of_ble_eq_true rfl⟩ (fun  N_3 V_2 q_4 => ?_)
  obtain ⟨rfl, hI_1⟩ := q_4
  refine aw_astore_n (ls' := [some (.ref b9), some (.ref (b + 0)), none, none]) dL_law_7 (Nat.le_of_ble_eq_true rfl) rfl ?_
  refine aw_new dL_law_8 nw_L_10 (Nat.le_of_ble_eq_true rfl) (Nat.le_of_ble_eq_true rfl) ?_
  refine aw_dup dL_law_11 rfl ?_
  refine aw_callIv (As := []) (st := [.ref (b + 100)]) dL_law_12 tb_1034 ok_X12_init rfl (k_init l D b (va_up V_2 100 (cO 11 [.null, .null, .null, .null, .null, .null, .null, .null, .null, .int 0, .int 0, .int 0, .null, .int 0, .int 0, .int 0, .int 0, .int 0, .int 0, .int 0, .int 0, .int 0, .int 0, .null, .null, .null, .null, .null, .null, .null, .null, .null, .null, .null, .null, .null, .int 0, .int 0, .int 0, .int 0, .null, .null, .null, .null, .null, .int 0, .int 0, .null, .null, .null, .null, .int 0])) (va_up_self _ _ _)) rfl (Nat.le_of_ble_eq_true rfl) ⟨Nat.le_of_ble_eq_true rfl, Nat.le_of_ble_eq_true rfl, Nat.le_of_ble_eq_true rfl, Nat.le_of_ble_eq_true rfl⟩ (fun  N_8 V_7 q_9 => ?_)
  obtain ⟨rfl, hM_5, fr_6⟩ := q_9
  refine aw_astore_n (ls' := [some (.ref b9), some (.ref (b + 0)), some (.ref (b + 100)), none]) dL_law_15 (Nat.le_of_ble_eq_true rfl) rfl ?_
  refine aw_iconst (v := 0) dL_law_16 (by decide) ?_
  refine aw_istore_n (ls' := [some (.ref b9), some (.ref (b + 0)), some (.ref (b + 100)), some (.int 0)]) dL_law_17 (Nat.le_of_ble_eq_true rfl) rfl ?_
  refine aw_iload_n dL_law_18 rfl ?_
  refine aw_aload_n dL_law_19 rfl ?_
  refine aw_slen dL_law_20 rfl ?_
  refine aw_eqi (y := 6) rfl ?_
  refine aw_bipush (v := 6) dL_law_21 (by decide) ?_
  refine aw_isub dL_law_23 ?_
  refine aw_eqi (y := 0) (by decide) ?_
  refine aw_icmp_gt (tgt := 988) dL_law_24 (by decide) (fun c_10 => ?_) (fun c_10 => ?_)
  · exact absurd c_10 (by decide)
  refine aw_aload_n dL_law_27 rfl ?_
  refine aw_iload_n dL_law_28 rfl ?_
  refine aw_sld dL_law_29 rfl (vp_in_nI (n := 0) (N := 6) (by decide) (by decide)) ?_
  refine aw_eqi (y := xs 0) rfl ?_
  refine aw_bipush (v := 31) dL_law_30 (by decide) ?_
  refine aw_iand dL_law_32 ?_
  obtain ⟨j, hj, ej⟩ := fx_and31 (xs 0)
  refine aw_eqi ej ?_
  have hj32 : j = 0 ∨ j = 1 ∨ j = 2 ∨ j = 3 ∨ j = 4 ∨ j = 5 ∨ j = 6 ∨ j = 7 ∨ j = 8 ∨ j = 9 ∨ j = 10 ∨ j = 11 ∨ j = 12 ∨ j = 13 ∨ j = 14 ∨ j = 15 ∨ j = 16 ∨ j = 17 ∨ j = 18 ∨ j = 19 ∨ j = 20 ∨ j = 21 ∨ j = 22 ∨ j = 23 ∨ j = 24 ∨ j = 25 ∨ j = 26 ∨ j = 27 ∨ j = 28 ∨ j = 29 ∨ j = 30 ∨ j = 31 := by omega
  rcases hj32 with rfl | rfl | rfl | rfl | rfl | rfl | rfl | rfl | rfl | rfl | rfl | rfl | rfl | rfl | rfl | rfl | rfl | rfl | rfl | rfl | rfl | rfl | rfl | rfl | rfl | rfl | rfl | rfl | rfl | rfl | rfl | rfl
  · skip
    refine aw_tableIn (off := 131) (tgt := 164) dL_law_33 (by decide) (by decide) (by decide) (by decide) ?_
    refine aw_aload_n dL_law_164 rfl ?_
    refine aw_aload_n dL_law_165 rfl ?_
    refine aw_iload_n dL_law_166 rfl ?_
    refine aw_iconst (v := 1) dL_law_167 (by decide) ?_
    refine aw_iadd dL_law_168 ?_
    refine aw_eqi (y := 1) (by decide) ?_
    refine aw_sld dL_law_169 rfl (vp_in_nI (n := 1) (N := 6) (by decide) (by decide)) ?_
    refine aw_eqi (y := xs 1) rfl ?_
    refine aw_aload_n dL_law_170 rfl ?_
    refine aw_iload_n dL_law_171 rfl ?_
    refine aw_iconst (v := 2) dL_law_172 (by decide) ?_
    refine aw_iadd dL_law_173 ?_
    refine aw_eqi (y := 2) (by decide) ?_
    refine aw_sld dL_law_174 rfl (vp_in_nI (n := 2) (N := 6) (by decide) (by decide)) ?_
    refine aw_eqi (y := xs 2) rfl ?_
    refine aw_aload_n dL_law_175 rfl ?_
    refine aw_iload_n dL_law_176 rfl ?_
    refine aw_iconst (v := 3) dL_law_177 (by decide) ?_
    refine aw_iadd dL_law_178 ?_
    refine aw_eqi (y := 3) (by decide) ?_
    refine aw_sld dL_law_179 rfl (vp_in_nI (n := 3) (N := 6) (by decide) (by decide)) ?_
    refine aw_eqi (y := xs 3) rfl ?_
    refine aw_aload_n dL_law_180 rfl ?_
    refine aw_iload_n dL_law_181 rfl ?_
    refine aw_iconst (v := 4) dL_law_182 (by decide) ?_
    refine aw_iadd dL_law_183 ?_
    refine aw_eqi (y := 4) (by decide) ?_
    refine aw_sld dL_law_184 rfl (vp_in_nI (n := 4) (N := 6) (by decide) (by decide)) ?_
    refine aw_eqi (y := xs 4) rfl ?_
    refine aw_aload_n dL_law_185 rfl ?_
    refine aw_iload_n dL_law_186 rfl ?_
    refine aw_iconst (v := 5) dL_law_187 (by decide) ?_
    refine aw_iadd dL_law_188 ?_
    refine aw_eqi (y := 5) (by decide) ?_
    refine aw_sld dL_law_189 rfl (vp_in_nI (n := 5) (N := 6) (by decide) (by decide)) ?_
    refine aw_eqi (y := xs 5) rfl ?_
    refine aw_callVi (J' := jX11_feed) (As := [.int (xs 1), .int (xs 2), .int (xs 3), .int (xs 4), .int (xs 5)]) (st := []) dL_law_190 tb_255 ok_X11_feed ⟨_, (I0.frame hI_1 (fun i hi => (fr_6 i hi).trans (va_up_ne _ _ (by omega)))).1⟩ (by omega) rfl rfl (m_feed l D b 133 V_7 (by decide) (I0.frame hI_1 (fun i hi => (fr_6 i hi).trans (va_up_ne _ _ (by omega)))) (xs 1) (xs 2) (xs 3) (xs 4) (xs 5)) rfl (Nat.le_of_ble_eq_true rfl) ⟨Nat.le_of_ble_eq_true rfl, Nat.le_of_ble_eq_true rfl, Nat.le_of_ble_eq_true rfl, Nat.le_of_ble_eq_true rfl⟩ (fun r_14 N_15 V_13 q_16 => ?_)
    obtain ⟨e_11, rfl, fr_12⟩ := q_16
    refine aw_aload_n dL_law_193 rfl ?_
    refine aw_aload_n dL_law_194 rfl ?_
    refine aw_iload_n dL_law_195 rfl ?_
    refine aw_iconst (v := 1) dL_law_196 (by decide) ?_
    refine aw_iadd dL_law_197 ?_
    refine aw_eqi (y := 1) (by decide) ?_
    refine aw_sld dL_law_198 rfl (vp_in_nI (n := 1) (N := 6) (by decide) (by decide)) ?_
    refine aw_eqi (y := xs 1) rfl ?_
    refine aw_aload_n dL_law_199 rfl ?_
    refine aw_iload_n dL_law_200 rfl ?_
    refine aw_iconst (v := 2) dL_law_201 (by decide) ?_
    refine aw_iadd dL_law_202 ?_
    refine aw_eqi (y := 2) (by decide) ?_
    refine aw_sld dL_law_203 rfl (vp_in_nI (n := 2) (N := 6) (by decide) (by decide)) ?_
    refine aw_eqi (y := xs 2) rfl ?_
    refine aw_aload_n dL_law_204 rfl ?_
    refine aw_iload_n dL_law_205 rfl ?_
    refine aw_iconst (v := 3) dL_law_206 (by decide) ?_
    refine aw_iadd dL_law_207 ?_
    refine aw_eqi (y := 3) (by decide) ?_
    refine aw_sld dL_law_208 rfl (vp_in_nI (n := 3) (N := 6) (by decide) (by decide)) ?_
    refine aw_eqi (y := xs 3) rfl ?_
    refine aw_aload_n dL_law_209 rfl ?_
    refine aw_iload_n dL_law_210 rfl ?_
    refine aw_iconst (v := 4) dL_law_211 (by decide) ?_
    refine aw_iadd dL_law_212 ?_
    refine aw_eqi (y := 4) (by decide) ?_
    refine aw_sld dL_law_213 rfl (vp_in_nI (n := 4) (N := 6) (by decide) (by decide)) ?_
    refine aw_eqi (y := xs 4) rfl ?_
    refine aw_aload_n dL_law_214 rfl ?_
    refine aw_iload_n dL_law_215 rfl ?_
    refine aw_iconst (v := 5) dL_law_216 (by decide) ?_
    refine aw_iadd dL_law_217 ?_
    refine aw_eqi (y := 5) (by decide) ?_
    refine aw_sld dL_law_218 rfl (vp_in_nI (n := 5) (N := 6) (by decide) (by decide)) ?_
    refine aw_eqi (y := xs 5) rfl ?_
    refine aw_callVi (J' := jX12_feed) (As := [.int (xs 1), .int (xs 2), .int (xs 3), .int (xs 4), .int (xs 5)]) (st := [.int r_14]) dL_law_219 tb_1197 ok_X12_feed ⟨_, (M0.frame hM_5 fr_12).1⟩ (by omega) rfl rfl (r_feed l D b 133 V_13 (by decide) (M0.frame hM_5 fr_12) (xs 1) (xs 2) (xs 3) (xs 4) (xs 5)) rfl (Nat.le_of_ble_eq_true rfl) ⟨Nat.le_of_ble_eq_true rfl, Nat.le_of_ble_eq_true rfl, Nat.le_of_ble_eq_true rfl, Nat.le_of_ble_eq_true rfl⟩ (fun r_19 N_20 V_18 q_21 => ?_)
    obtain ⟨e_17, rfl⟩ := q_21
    refine aw_icmp_eq (tgt := 982) dL_law_222 (by decide) (fun c_22 => ?_) (fun c_22 => ?_)
    rotate_left
    · exact absurd (e_11.trans e_17.symm) c_22
    refine aw_iinc (v := 6) (ls' := [some (.ref b9), some (.ref (b + 0)), some (.ref (b + 100)), some (.int 6)]) dL_law_982 rfl (by decide) (Nat.le_of_ble_eq_true rfl) rfl ?_
    refine aw_goto (tgt := 18) dL_law_985 (by decide) ?_
    refine aw_iload_n dL_law_18 rfl ?_
    refine aw_aload_n dL_law_19 rfl ?_
    refine aw_slen dL_law_20 rfl ?_
    refine aw_eqi (y := 6) rfl ?_
    refine aw_bipush (v := 6) dL_law_21 (by decide) ?_
    refine aw_isub dL_law_23 ?_
    refine aw_eqi (y := 0) (by decide) ?_
    refine aw_icmp_gt (tgt := 988) dL_law_24 (by decide) (fun c_23 => ?_) (fun c_23 => ?_)
    rotate_left
    · exact absurd (by decide) c_23
    refine aw_iconst (v := 1) dL_law_988 (by decide) ?_
    exact aw_lawret dL_law_989 (Nat.le_of_ble_eq_true rfl) (Nat.le_of_ble_eq_true rfl)
  · skip
    refine aw_tableIn (off := 194) (tgt := 227) dL_law_33 (by decide) (by decide) (by decide) (by decide) ?_
    refine aw_aload_n dL_law_227 rfl ?_
    refine aw_aload_n dL_law_228 rfl ?_
    refine aw_iload_n dL_law_229 rfl ?_
    refine aw_iconst (v := 1) dL_law_230 (by decide) ?_
    refine aw_iadd dL_law_231 ?_
    refine aw_eqi (y := 1) (by decide) ?_
    refine aw_sld dL_law_232 rfl (vp_in_nI (n := 1) (N := 6) (by decide) (by decide)) ?_
    refine aw_eqi (y := xs 1) rfl ?_
    refine aw_callVi (J' := jX11_law) (As := [.int (xs 1)]) (st := []) dL_law_233 tb_263 ok_X11_law ⟨_, (I0.frame hI_1 (fun i hi => (fr_6 i hi).trans (va_up_ne _ _ (by omega)))).1⟩ (by omega) rfl rfl (m_law l D b 133 V_7 (by decide) (I0.frame hI_1 (fun i hi => (fr_6 i hi).trans (va_up_ne _ _ (by omega)))) (xs 1)) rfl (Nat.le_of_ble_eq_true rfl) ⟨Nat.le_of_ble_eq_true rfl, Nat.le_of_ble_eq_true rfl, Nat.le_of_ble_eq_true rfl, Nat.le_of_ble_eq_true rfl⟩ (fun r_27 N_28 V_26 q_29 => ?_)
    obtain ⟨e_24, rfl, fr_25⟩ := q_29
    refine aw_aload_n dL_law_236 rfl ?_
    refine aw_aload_n dL_law_237 rfl ?_
    refine aw_iload_n dL_law_238 rfl ?_
    refine aw_iconst (v := 1) dL_law_239 (by decide) ?_
    refine aw_iadd dL_law_240 ?_
    refine aw_eqi (y := 1) (by decide) ?_
    refine aw_sld dL_law_241 rfl (vp_in_nI (n := 1) (N := 6) (by decide) (by decide)) ?_
    refine aw_eqi (y := xs 1) rfl ?_
    refine aw_callVi (J' := jX12_law) (As := [.int (xs 1)]) (st := [.int r_27]) dL_law_242 tb_1205 ok_X12_law ⟨_, (M0.frame hM_5 fr_25).1⟩ (by omega) rfl rfl (r_law l D b 133 V_26 (by decide) (M0.frame hM_5 fr_25) (xs 1)) rfl (Nat.le_of_ble_eq_true rfl) ⟨Nat.le_of_ble_eq_true rfl, Nat.le_of_ble_eq_true rfl, Nat.le_of_ble_eq_true rfl, Nat.le_of_ble_eq_true rfl⟩ (fun r_32 N_33 V_31 q_34 => ?_)
    obtain ⟨e_30, rfl⟩ := q_34
    refine aw_icmp_eq (tgt := 982) dL_law_245 (by decide) (fun c_35 => ?_) (fun c_35 => ?_)
    rotate_left
    · exact absurd (e_24.trans e_30.symm) c_35
    refine aw_iinc (v := 6) (ls' := [some (.ref b9), some (.ref (b + 0)), some (.ref (b + 100)), some (.int 6)]) dL_law_982 rfl (by decide) (Nat.le_of_ble_eq_true rfl) rfl ?_
    refine aw_goto (tgt := 18) dL_law_985 (by decide) ?_
    refine aw_iload_n dL_law_18 rfl ?_
    refine aw_aload_n dL_law_19 rfl ?_
    refine aw_slen dL_law_20 rfl ?_
    refine aw_eqi (y := 6) rfl ?_
    refine aw_bipush (v := 6) dL_law_21 (by decide) ?_
    refine aw_isub dL_law_23 ?_
    refine aw_eqi (y := 0) (by decide) ?_
    refine aw_icmp_gt (tgt := 988) dL_law_24 (by decide) (fun c_36 => ?_) (fun c_36 => ?_)
    rotate_left
    · exact absurd (by decide) c_36
    refine aw_iconst (v := 1) dL_law_988 (by decide) ?_
    exact aw_lawret dL_law_989 (Nat.le_of_ble_eq_true rfl) (Nat.le_of_ble_eq_true rfl)
  · skip
    refine aw_tableIn (off := 217) (tgt := 250) dL_law_33 (by decide) (by decide) (by decide) (by decide) ?_
    refine aw_aload_n dL_law_250 rfl ?_
    refine aw_aload_n dL_law_251 rfl ?_
    refine aw_iload_n dL_law_252 rfl ?_
    refine aw_iconst (v := 1) dL_law_253 (by decide) ?_
    refine aw_iadd dL_law_254 ?_
    refine aw_eqi (y := 1) (by decide) ?_
    refine aw_sld dL_law_255 rfl (vp_in_nI (n := 1) (N := 6) (by decide) (by decide)) ?_
    refine aw_eqi (y := xs 1) rfl ?_
    refine aw_aload_n dL_law_256 rfl ?_
    refine aw_iload_n dL_law_257 rfl ?_
    refine aw_iconst (v := 2) dL_law_258 (by decide) ?_
    refine aw_iadd dL_law_259 ?_
    refine aw_eqi (y := 2) (by decide) ?_
    refine aw_sld dL_law_260 rfl (vp_in_nI (n := 2) (N := 6) (by decide) (by decide)) ?_
    refine aw_eqi (y := xs 2) rfl ?_
    refine aw_callVi (J' := jX11_dreads) (As := [.int (xs 1), .int (xs 2)]) (st := []) dL_law_261 tb_577 ok_X11_dreads ⟨_, (I0.frame hI_1 (fun i hi => (fr_6 i hi).trans (va_up_ne _ _ (by omega)))).1⟩ (by omega) rfl rfl (m_dreads l D b 133 V_7 (by decide) (I0.frame hI_1 (fun i hi => (fr_6 i hi).trans (va_up_ne _ _ (by omega)))) (xs 1) (xs 2)) rfl (Nat.le_of_ble_eq_true rfl) ⟨Nat.le_of_ble_eq_true rfl, Nat.le_of_ble_eq_true rfl, Nat.le_of_ble_eq_true rfl, Nat.le_of_ble_eq_true rfl⟩ (fun r_40 N_41 V_39 q_42 => ?_)
    obtain ⟨e_37, rfl, fr_38⟩ := q_42
    refine aw_aload_n dL_law_264 rfl ?_
    refine aw_aload_n dL_law_265 rfl ?_
    refine aw_iload_n dL_law_266 rfl ?_
    refine aw_iconst (v := 1) dL_law_267 (by decide) ?_
    refine aw_iadd dL_law_268 ?_
    refine aw_eqi (y := 1) (by decide) ?_
    refine aw_sld dL_law_269 rfl (vp_in_nI (n := 1) (N := 6) (by decide) (by decide)) ?_
    refine aw_eqi (y := xs 1) rfl ?_
    refine aw_aload_n dL_law_270 rfl ?_
    refine aw_iload_n dL_law_271 rfl ?_
    refine aw_iconst (v := 2) dL_law_272 (by decide) ?_
    refine aw_iadd dL_law_273 ?_
    refine aw_eqi (y := 2) (by decide) ?_
    refine aw_sld dL_law_274 rfl (vp_in_nI (n := 2) (N := 6) (by decide) (by decide)) ?_
    refine aw_eqi (y := xs 2) rfl ?_
    refine aw_callVi (J' := jX12_dreads) (As := [.int (xs 1), .int (xs 2)]) (st := [.int r_40]) dL_law_275 tb_1295 ok_X12_dreads ⟨_, (M0.frame hM_5 fr_38).1⟩ (by omega) rfl rfl (r_dreads l D b 133 V_39 (by decide) (M0.frame hM_5 fr_38) (xs 1) (xs 2)) rfl (Nat.le_of_ble_eq_true rfl) ⟨Nat.le_of_ble_eq_true rfl, Nat.le_of_ble_eq_true rfl, Nat.le_of_ble_eq_true rfl, Nat.le_of_ble_eq_true rfl⟩ (fun r_45 N_46 V_44 q_47 => ?_)
    obtain ⟨e_43, rfl⟩ := q_47
    refine aw_icmp_eq (tgt := 982) dL_law_278 (by decide) (fun c_48 => ?_) (fun c_48 => ?_)
    rotate_left
    · exact absurd (e_37.trans e_43.symm) c_48
    refine aw_iinc (v := 6) (ls' := [some (.ref b9), some (.ref (b + 0)), some (.ref (b + 100)), some (.int 6)]) dL_law_982 rfl (by decide) (Nat.le_of_ble_eq_true rfl) rfl ?_
    refine aw_goto (tgt := 18) dL_law_985 (by decide) ?_
    refine aw_iload_n dL_law_18 rfl ?_
    refine aw_aload_n dL_law_19 rfl ?_
    refine aw_slen dL_law_20 rfl ?_
    refine aw_eqi (y := 6) rfl ?_
    refine aw_bipush (v := 6) dL_law_21 (by decide) ?_
    refine aw_isub dL_law_23 ?_
    refine aw_eqi (y := 0) (by decide) ?_
    refine aw_icmp_gt (tgt := 988) dL_law_24 (by decide) (fun c_49 => ?_) (fun c_49 => ?_)
    rotate_left
    · exact absurd (by decide) c_49
    refine aw_iconst (v := 1) dL_law_988 (by decide) ?_
    exact aw_lawret dL_law_989 (Nat.le_of_ble_eq_true rfl) (Nat.le_of_ble_eq_true rfl)
  · skip
    refine aw_tableIn (off := 250) (tgt := 283) dL_law_33 (by decide) (by decide) (by decide) (by decide) ?_
    refine aw_aload_n dL_law_283 rfl ?_
    refine aw_aload_n dL_law_284 rfl ?_
    refine aw_iload_n dL_law_285 rfl ?_
    refine aw_iconst (v := 1) dL_law_286 (by decide) ?_
    refine aw_iadd dL_law_287 ?_
    refine aw_eqi (y := 1) (by decide) ?_
    refine aw_sld dL_law_288 rfl (vp_in_nI (n := 1) (N := 6) (by decide) (by decide)) ?_
    refine aw_eqi (y := xs 1) rfl ?_
    refine aw_callVi (J' := jX11_orders) (As := [.int (xs 1)]) (st := []) dL_law_289 tb_605 ok_X11_orders ⟨_, (I0.frame hI_1 (fun i hi => (fr_6 i hi).trans (va_up_ne _ _ (by omega)))).1⟩ (by omega) rfl rfl (m_orders l D b 133 V_7 (by decide) (I0.frame hI_1 (fun i hi => (fr_6 i hi).trans (va_up_ne _ _ (by omega)))) (xs 1)) rfl (Nat.le_of_ble_eq_true rfl) ⟨Nat.le_of_ble_eq_true rfl, Nat.le_of_ble_eq_true rfl, Nat.le_of_ble_eq_true rfl, Nat.le_of_ble_eq_true rfl⟩ (fun r_53 N_54 V_52 q_55 => ?_)
    obtain ⟨e_50, rfl, fr_51⟩ := q_55
    refine aw_aload_n dL_law_292 rfl ?_
    refine aw_aload_n dL_law_293 rfl ?_
    refine aw_iload_n dL_law_294 rfl ?_
    refine aw_iconst (v := 1) dL_law_295 (by decide) ?_
    refine aw_iadd dL_law_296 ?_
    refine aw_eqi (y := 1) (by decide) ?_
    refine aw_sld dL_law_297 rfl (vp_in_nI (n := 1) (N := 6) (by decide) (by decide)) ?_
    refine aw_eqi (y := xs 1) rfl ?_
    refine aw_callVi (J' := jX12_orders) (As := [.int (xs 1)]) (st := [.int r_53]) dL_law_298 tb_1331 ok_X12_orders ⟨_, (M0.frame hM_5 fr_51).1⟩ (by omega) rfl rfl (r_orders l D b 133 V_52 (by decide) (M0.frame hM_5 fr_51) (xs 1)) rfl (Nat.le_of_ble_eq_true rfl) ⟨Nat.le_of_ble_eq_true rfl, Nat.le_of_ble_eq_true rfl, Nat.le_of_ble_eq_true rfl, Nat.le_of_ble_eq_true rfl⟩ (fun r_58 N_59 V_57 q_60 => ?_)
    obtain ⟨e_56, rfl⟩ := q_60
    refine aw_icmp_eq (tgt := 982) dL_law_301 (by decide) (fun c_61 => ?_) (fun c_61 => ?_)
    rotate_left
    · exact absurd (e_50.trans e_56.symm) c_61
    refine aw_iinc (v := 6) (ls' := [some (.ref b9), some (.ref (b + 0)), some (.ref (b + 100)), some (.int 6)]) dL_law_982 rfl (by decide) (Nat.le_of_ble_eq_true rfl) rfl ?_
    refine aw_goto (tgt := 18) dL_law_985 (by decide) ?_
    refine aw_iload_n dL_law_18 rfl ?_
    refine aw_aload_n dL_law_19 rfl ?_
    refine aw_slen dL_law_20 rfl ?_
    refine aw_eqi (y := 6) rfl ?_
    refine aw_bipush (v := 6) dL_law_21 (by decide) ?_
    refine aw_isub dL_law_23 ?_
    refine aw_eqi (y := 0) (by decide) ?_
    refine aw_icmp_gt (tgt := 988) dL_law_24 (by decide) (fun c_62 => ?_) (fun c_62 => ?_)
    rotate_left
    · exact absurd (by decide) c_62
    refine aw_iconst (v := 1) dL_law_988 (by decide) ?_
    exact aw_lawret dL_law_989 (Nat.le_of_ble_eq_true rfl) (Nat.le_of_ble_eq_true rfl)
  · skip
    refine aw_tableIn (off := 273) (tgt := 306) dL_law_33 (by decide) (by decide) (by decide) (by decide) ?_
    refine aw_aload_n dL_law_306 rfl ?_
    refine aw_aload_n dL_law_307 rfl ?_
    refine aw_iload_n dL_law_308 rfl ?_
    refine aw_iconst (v := 1) dL_law_309 (by decide) ?_
    refine aw_iadd dL_law_310 ?_
    refine aw_eqi (y := 1) (by decide) ?_
    refine aw_sld dL_law_311 rfl (vp_in_nI (n := 1) (N := 6) (by decide) (by decide)) ?_
    refine aw_eqi (y := xs 1) rfl ?_
    refine aw_callVi (J' := jX11_nights) (As := [.int (xs 1)]) (st := []) dL_law_312 tb_622 ok_X11_nights ⟨_, (I0.frame hI_1 (fun i hi => (fr_6 i hi).trans (va_up_ne _ _ (by omega)))).1⟩ (by omega) rfl rfl (m_nights l D b 133 V_7 (by decide) (I0.frame hI_1 (fun i hi => (fr_6 i hi).trans (va_up_ne _ _ (by omega)))) (xs 1)) rfl (Nat.le_of_ble_eq_true rfl) ⟨Nat.le_of_ble_eq_true rfl, Nat.le_of_ble_eq_true rfl, Nat.le_of_ble_eq_true rfl, Nat.le_of_ble_eq_true rfl⟩ (fun r_66 N_67 V_65 q_68 => ?_)
    obtain ⟨e_63, rfl, fr_64⟩ := q_68
    refine aw_aload_n dL_law_315 rfl ?_
    refine aw_aload_n dL_law_316 rfl ?_
    refine aw_iload_n dL_law_317 rfl ?_
    refine aw_iconst (v := 1) dL_law_318 (by decide) ?_
    refine aw_iadd dL_law_319 ?_
    refine aw_eqi (y := 1) (by decide) ?_
    refine aw_sld dL_law_320 rfl (vp_in_nI (n := 1) (N := 6) (by decide) (by decide)) ?_
    refine aw_eqi (y := xs 1) rfl ?_
    refine aw_callVi (J' := jX12_nights) (As := [.int (xs 1)]) (st := [.int r_66]) dL_law_321 tb_1367 ok_X12_nights ⟨_, (M0.frame hM_5 fr_64).1⟩ (by omega) rfl rfl (r_nights l D b 133 V_65 (by decide) (M0.frame hM_5 fr_64) (xs 1)) rfl (Nat.le_of_ble_eq_true rfl) ⟨Nat.le_of_ble_eq_true rfl, Nat.le_of_ble_eq_true rfl, Nat.le_of_ble_eq_true rfl, Nat.le_of_ble_eq_true rfl⟩ (fun r_71 N_72 V_70 q_73 => ?_)
    obtain ⟨e_69, rfl⟩ := q_73
    refine aw_icmp_eq (tgt := 982) dL_law_324 (by decide) (fun c_74 => ?_) (fun c_74 => ?_)
    rotate_left
    · exact absurd (e_63.trans e_69.symm) c_74
    refine aw_iinc (v := 6) (ls' := [some (.ref b9), some (.ref (b + 0)), some (.ref (b + 100)), some (.int 6)]) dL_law_982 rfl (by decide) (Nat.le_of_ble_eq_true rfl) rfl ?_
    refine aw_goto (tgt := 18) dL_law_985 (by decide) ?_
    refine aw_iload_n dL_law_18 rfl ?_
    refine aw_aload_n dL_law_19 rfl ?_
    refine aw_slen dL_law_20 rfl ?_
    refine aw_eqi (y := 6) rfl ?_
    refine aw_bipush (v := 6) dL_law_21 (by decide) ?_
    refine aw_isub dL_law_23 ?_
    refine aw_eqi (y := 0) (by decide) ?_
    refine aw_icmp_gt (tgt := 988) dL_law_24 (by decide) (fun c_75 => ?_) (fun c_75 => ?_)
    rotate_left
    · exact absurd (by decide) c_75
    refine aw_iconst (v := 1) dL_law_988 (by decide) ?_
    exact aw_lawret dL_law_989 (Nat.le_of_ble_eq_true rfl) (Nat.le_of_ble_eq_true rfl)
  · skip
    refine aw_tableIn (off := 296) (tgt := 329) dL_law_33 (by decide) (by decide) (by decide) (by decide) ?_
    refine aw_aload_n dL_law_329 rfl ?_
    refine aw_aload_n dL_law_330 rfl ?_
    refine aw_iload_n dL_law_331 rfl ?_
    refine aw_iconst (v := 1) dL_law_332 (by decide) ?_
    refine aw_iadd dL_law_333 ?_
    refine aw_eqi (y := 1) (by decide) ?_
    refine aw_sld dL_law_334 rfl (vp_in_nI (n := 1) (N := 6) (by decide) (by decide)) ?_
    refine aw_eqi (y := xs 1) rfl ?_
    refine aw_aload_n dL_law_335 rfl ?_
    refine aw_iload_n dL_law_336 rfl ?_
    refine aw_iconst (v := 2) dL_law_337 (by decide) ?_
    refine aw_iadd dL_law_338 ?_
    refine aw_eqi (y := 2) (by decide) ?_
    refine aw_sld dL_law_339 rfl (vp_in_nI (n := 2) (N := 6) (by decide) (by decide)) ?_
    refine aw_eqi (y := xs 2) rfl ?_
    refine aw_callVi (J' := jX11_tried) (As := [.int (xs 1), .int (xs 2)]) (st := []) dL_law_340 tb_737 ok_X11_tried ⟨_, (I0.frame hI_1 (fun i hi => (fr_6 i hi).trans (va_up_ne _ _ (by omega)))).1⟩ (by omega) rfl rfl (m_tried l D b 133 V_7 (by decide) (I0.frame hI_1 (fun i hi => (fr_6 i hi).trans (va_up_ne _ _ (by omega)))) (xs 1) (xs 2)) rfl (Nat.le_of_ble_eq_true rfl) ⟨Nat.le_of_ble_eq_true rfl, Nat.le_of_ble_eq_true rfl, Nat.le_of_ble_eq_true rfl, Nat.le_of_ble_eq_true rfl⟩ (fun r_79 N_80 V_78 q_81 => ?_)
    obtain ⟨e_76, rfl, fr_77⟩ := q_81
    refine aw_aload_n dL_law_343 rfl ?_
    refine aw_aload_n dL_law_344 rfl ?_
    refine aw_iload_n dL_law_345 rfl ?_
    refine aw_iconst (v := 1) dL_law_346 (by decide) ?_
    refine aw_iadd dL_law_347 ?_
    refine aw_eqi (y := 1) (by decide) ?_
    refine aw_sld dL_law_348 rfl (vp_in_nI (n := 1) (N := 6) (by decide) (by decide)) ?_
    refine aw_eqi (y := xs 1) rfl ?_
    refine aw_aload_n dL_law_349 rfl ?_
    refine aw_iload_n dL_law_350 rfl ?_
    refine aw_iconst (v := 2) dL_law_351 (by decide) ?_
    refine aw_iadd dL_law_352 ?_
    refine aw_eqi (y := 2) (by decide) ?_
    refine aw_sld dL_law_353 rfl (vp_in_nI (n := 2) (N := 6) (by decide) (by decide)) ?_
    refine aw_eqi (y := xs 2) rfl ?_
    refine aw_callVi (J' := jX12_tried) (As := [.int (xs 1), .int (xs 2)]) (st := [.int r_79]) dL_law_354 tb_1442 ok_X12_tried ⟨_, (M0.frame hM_5 fr_77).1⟩ (by omega) rfl rfl (r_tried l D b 133 V_78 (by decide) (M0.frame hM_5 fr_77) (xs 1) (xs 2)) rfl (Nat.le_of_ble_eq_true rfl) ⟨Nat.le_of_ble_eq_true rfl, Nat.le_of_ble_eq_true rfl, Nat.le_of_ble_eq_true rfl, Nat.le_of_ble_eq_true rfl⟩ (fun r_84 N_85 V_83 q_86 => ?_)
    obtain ⟨e_82, rfl⟩ := q_86
    refine aw_icmp_eq (tgt := 982) dL_law_357 (by decide) (fun c_87 => ?_) (fun c_87 => ?_)
    rotate_left
    · exact absurd (e_76.trans e_82.symm) c_87
    refine aw_iinc (v := 6) (ls' := [some (.ref b9), some (.ref (b + 0)), some (.ref (b + 100)), some (.int 6)]) dL_law_982 rfl (by decide) (Nat.le_of_ble_eq_true rfl) rfl ?_
    refine aw_goto (tgt := 18) dL_law_985 (by decide) ?_
    refine aw_iload_n dL_law_18 rfl ?_
    refine aw_aload_n dL_law_19 rfl ?_
    refine aw_slen dL_law_20 rfl ?_
    refine aw_eqi (y := 6) rfl ?_
    refine aw_bipush (v := 6) dL_law_21 (by decide) ?_
    refine aw_isub dL_law_23 ?_
    refine aw_eqi (y := 0) (by decide) ?_
    refine aw_icmp_gt (tgt := 988) dL_law_24 (by decide) (fun c_88 => ?_) (fun c_88 => ?_)
    rotate_left
    · exact absurd (by decide) c_88
    refine aw_iconst (v := 1) dL_law_988 (by decide) ?_
    exact aw_lawret dL_law_989 (Nat.le_of_ble_eq_true rfl) (Nat.le_of_ble_eq_true rfl)
  · skip
    refine aw_tableIn (off := 329) (tgt := 362) dL_law_33 (by decide) (by decide) (by decide) (by decide) ?_
    refine aw_aload_n dL_law_362 rfl ?_
    refine aw_aload_n dL_law_363 rfl ?_
    refine aw_iload_n dL_law_364 rfl ?_
    refine aw_iconst (v := 1) dL_law_365 (by decide) ?_
    refine aw_iadd dL_law_366 ?_
    refine aw_eqi (y := 1) (by decide) ?_
    refine aw_sld dL_law_367 rfl (vp_in_nI (n := 1) (N := 6) (by decide) (by decide)) ?_
    refine aw_eqi (y := xs 1) rfl ?_
    refine aw_aload_n dL_law_368 rfl ?_
    refine aw_iload_n dL_law_369 rfl ?_
    refine aw_iconst (v := 2) dL_law_370 (by decide) ?_
    refine aw_iadd dL_law_371 ?_
    refine aw_eqi (y := 2) (by decide) ?_
    refine aw_sld dL_law_372 rfl (vp_in_nI (n := 2) (N := 6) (by decide) (by decide)) ?_
    refine aw_eqi (y := xs 2) rfl ?_
    refine aw_callVi (J' := jX11_personIs) (As := [.int (xs 1), .int (xs 2)]) (st := []) dL_law_373 tb_753 ok_X11_personIs ⟨_, (I0.frame hI_1 (fun i hi => (fr_6 i hi).trans (va_up_ne _ _ (by omega)))).1⟩ (by omega) rfl rfl (m_personIs l D b 133 V_7 (by decide) (I0.frame hI_1 (fun i hi => (fr_6 i hi).trans (va_up_ne _ _ (by omega)))) (xs 1) (xs 2)) rfl (Nat.le_of_ble_eq_true rfl) ⟨Nat.le_of_ble_eq_true rfl, Nat.le_of_ble_eq_true rfl, Nat.le_of_ble_eq_true rfl, Nat.le_of_ble_eq_true rfl⟩ (fun r_92 N_93 V_91 q_94 => ?_)
    obtain ⟨e_89, rfl, fr_90⟩ := q_94
    refine aw_aload_n dL_law_376 rfl ?_
    refine aw_aload_n dL_law_377 rfl ?_
    refine aw_iload_n dL_law_378 rfl ?_
    refine aw_iconst (v := 1) dL_law_379 (by decide) ?_
    refine aw_iadd dL_law_380 ?_
    refine aw_eqi (y := 1) (by decide) ?_
    refine aw_sld dL_law_381 rfl (vp_in_nI (n := 1) (N := 6) (by decide) (by decide)) ?_
    refine aw_eqi (y := xs 1) rfl ?_
    refine aw_aload_n dL_law_382 rfl ?_
    refine aw_iload_n dL_law_383 rfl ?_
    refine aw_iconst (v := 2) dL_law_384 (by decide) ?_
    refine aw_iadd dL_law_385 ?_
    refine aw_eqi (y := 2) (by decide) ?_
    refine aw_sld dL_law_386 rfl (vp_in_nI (n := 2) (N := 6) (by decide) (by decide)) ?_
    refine aw_eqi (y := xs 2) rfl ?_
    refine aw_callVi (J' := jX12_personIs) (As := [.int (xs 1), .int (xs 2)]) (st := [.int r_92]) dL_law_387 tb_1449 ok_X12_personIs ⟨_, (M0.frame hM_5 fr_90).1⟩ (by omega) rfl rfl (r_personIs l D b 133 V_91 (by decide) (M0.frame hM_5 fr_90) (xs 1) (xs 2)) rfl (Nat.le_of_ble_eq_true rfl) ⟨Nat.le_of_ble_eq_true rfl, Nat.le_of_ble_eq_true rfl, Nat.le_of_ble_eq_true rfl, Nat.le_of_ble_eq_true rfl⟩ (fun r_97 N_98 V_96 q_99 => ?_)
    obtain ⟨e_95, rfl⟩ := q_99
    refine aw_icmp_eq (tgt := 982) dL_law_390 (by decide) (fun c_100 => ?_) (fun c_100 => ?_)
    rotate_left
    · exact absurd (e_89.trans e_95.symm) c_100
    refine aw_iinc (v := 6) (ls' := [some (.ref b9), some (.ref (b + 0)), some (.ref (b + 100)), some (.int 6)]) dL_law_982 rfl (by decide) (Nat.le_of_ble_eq_true rfl) rfl ?_
    refine aw_goto (tgt := 18) dL_law_985 (by decide) ?_
    refine aw_iload_n dL_law_18 rfl ?_
    refine aw_aload_n dL_law_19 rfl ?_
    refine aw_slen dL_law_20 rfl ?_
    refine aw_eqi (y := 6) rfl ?_
    refine aw_bipush (v := 6) dL_law_21 (by decide) ?_
    refine aw_isub dL_law_23 ?_
    refine aw_eqi (y := 0) (by decide) ?_
    refine aw_icmp_gt (tgt := 988) dL_law_24 (by decide) (fun c_101 => ?_) (fun c_101 => ?_)
    rotate_left
    · exact absurd (by decide) c_101
    refine aw_iconst (v := 1) dL_law_988 (by decide) ?_
    exact aw_lawret dL_law_989 (Nat.le_of_ble_eq_true rfl) (Nat.le_of_ble_eq_true rfl)
  · skip
    refine aw_tableIn (off := 362) (tgt := 395) dL_law_33 (by decide) (by decide) (by decide) (by decide) ?_
    refine aw_aload_n dL_law_395 rfl ?_
    refine aw_aload_n dL_law_396 rfl ?_
    refine aw_iload_n dL_law_397 rfl ?_
    refine aw_iconst (v := 1) dL_law_398 (by decide) ?_
    refine aw_iadd dL_law_399 ?_
    refine aw_eqi (y := 1) (by decide) ?_
    refine aw_sld dL_law_400 rfl (vp_in_nI (n := 1) (N := 6) (by decide) (by decide)) ?_
    refine aw_eqi (y := xs 1) rfl ?_
    refine aw_aload_n dL_law_401 rfl ?_
    refine aw_iload_n dL_law_402 rfl ?_
    refine aw_iconst (v := 2) dL_law_403 (by decide) ?_
    refine aw_iadd dL_law_404 ?_
    refine aw_eqi (y := 2) (by decide) ?_
    refine aw_sld dL_law_405 rfl (vp_in_nI (n := 2) (N := 6) (by decide) (by decide)) ?_
    refine aw_eqi (y := xs 2) rfl ?_
    refine aw_callVi (J' := jX11_doorIs) (As := [.int (xs 1), .int (xs 2)]) (st := []) dL_law_406 tb_768 ok_X11_doorIs ⟨_, (I0.frame hI_1 (fun i hi => (fr_6 i hi).trans (va_up_ne _ _ (by omega)))).1⟩ (by omega) rfl rfl (m_doorIs l D b 133 V_7 (by decide) (I0.frame hI_1 (fun i hi => (fr_6 i hi).trans (va_up_ne _ _ (by omega)))) (xs 1) (xs 2)) rfl (Nat.le_of_ble_eq_true rfl) ⟨Nat.le_of_ble_eq_true rfl, Nat.le_of_ble_eq_true rfl, Nat.le_of_ble_eq_true rfl, Nat.le_of_ble_eq_true rfl⟩ (fun r_105 N_106 V_104 q_107 => ?_)
    obtain ⟨e_102, rfl, fr_103⟩ := q_107
    refine aw_aload_n dL_law_409 rfl ?_
    refine aw_aload_n dL_law_410 rfl ?_
    refine aw_iload_n dL_law_411 rfl ?_
    refine aw_iconst (v := 1) dL_law_412 (by decide) ?_
    refine aw_iadd dL_law_413 ?_
    refine aw_eqi (y := 1) (by decide) ?_
    refine aw_sld dL_law_414 rfl (vp_in_nI (n := 1) (N := 6) (by decide) (by decide)) ?_
    refine aw_eqi (y := xs 1) rfl ?_
    refine aw_aload_n dL_law_415 rfl ?_
    refine aw_iload_n dL_law_416 rfl ?_
    refine aw_iconst (v := 2) dL_law_417 (by decide) ?_
    refine aw_iadd dL_law_418 ?_
    refine aw_eqi (y := 2) (by decide) ?_
    refine aw_sld dL_law_419 rfl (vp_in_nI (n := 2) (N := 6) (by decide) (by decide)) ?_
    refine aw_eqi (y := xs 2) rfl ?_
    refine aw_callVi (J' := jX12_doorIs) (As := [.int (xs 1), .int (xs 2)]) (st := [.int r_105]) dL_law_420 tb_1461 ok_X12_doorIs ⟨_, (M0.frame hM_5 fr_103).1⟩ (by omega) rfl rfl (r_doorIs l D b 133 V_104 (by decide) (M0.frame hM_5 fr_103) (xs 1) (xs 2)) rfl (Nat.le_of_ble_eq_true rfl) ⟨Nat.le_of_ble_eq_true rfl, Nat.le_of_ble_eq_true rfl, Nat.le_of_ble_eq_true rfl, Nat.le_of_ble_eq_true rfl⟩ (fun r_110 N_111 V_109 q_112 => ?_)
    obtain ⟨e_108, rfl⟩ := q_112
    refine aw_icmp_eq (tgt := 982) dL_law_423 (by decide) (fun c_113 => ?_) (fun c_113 => ?_)
    rotate_left
    · exact absurd (e_102.trans e_108.symm) c_113
    refine aw_iinc (v := 6) (ls' := [some (.ref b9), some (.ref (b + 0)), some (.ref (b + 100)), some (.int 6)]) dL_law_982 rfl (by decide) (Nat.le_of_ble_eq_true rfl) rfl ?_
    refine aw_goto (tgt := 18) dL_law_985 (by decide) ?_
    refine aw_iload_n dL_law_18 rfl ?_
    refine aw_aload_n dL_law_19 rfl ?_
    refine aw_slen dL_law_20 rfl ?_
    refine aw_eqi (y := 6) rfl ?_
    refine aw_bipush (v := 6) dL_law_21 (by decide) ?_
    refine aw_isub dL_law_23 ?_
    refine aw_eqi (y := 0) (by decide) ?_
    refine aw_icmp_gt (tgt := 988) dL_law_24 (by decide) (fun c_114 => ?_) (fun c_114 => ?_)
    rotate_left
    · exact absurd (by decide) c_114
    refine aw_iconst (v := 1) dL_law_988 (by decide) ?_
    exact aw_lawret dL_law_989 (Nat.le_of_ble_eq_true rfl) (Nat.le_of_ble_eq_true rfl)
  · skip
    refine aw_tableIn (off := 395) (tgt := 428) dL_law_33 (by decide) (by decide) (by decide) (by decide) ?_
    refine aw_aload_n dL_law_428 rfl ?_
    refine aw_aload_n dL_law_429 rfl ?_
    refine aw_iload_n dL_law_430 rfl ?_
    refine aw_iconst (v := 1) dL_law_431 (by decide) ?_
    refine aw_iadd dL_law_432 ?_
    refine aw_eqi (y := 1) (by decide) ?_
    refine aw_sld dL_law_433 rfl (vp_in_nI (n := 1) (N := 6) (by decide) (by decide)) ?_
    refine aw_eqi (y := xs 1) rfl ?_
    refine aw_aload_n dL_law_434 rfl ?_
    refine aw_iload_n dL_law_435 rfl ?_
    refine aw_iconst (v := 2) dL_law_436 (by decide) ?_
    refine aw_iadd dL_law_437 ?_
    refine aw_eqi (y := 2) (by decide) ?_
    refine aw_sld dL_law_438 rfl (vp_in_nI (n := 2) (N := 6) (by decide) (by decide)) ?_
    refine aw_eqi (y := xs 2) rfl ?_
    refine aw_callVi (J' := jX11_taught) (As := [.int (xs 1), .int (xs 2)]) (st := []) dL_law_439 tb_776 ok_X11_taught ⟨_, (I0.frame hI_1 (fun i hi => (fr_6 i hi).trans (va_up_ne _ _ (by omega)))).1⟩ (by omega) rfl rfl (m_taught l D b 133 V_7 (by decide) (I0.frame hI_1 (fun i hi => (fr_6 i hi).trans (va_up_ne _ _ (by omega)))) (xs 1) (xs 2)) rfl (Nat.le_of_ble_eq_true rfl) ⟨Nat.le_of_ble_eq_true rfl, Nat.le_of_ble_eq_true rfl, Nat.le_of_ble_eq_true rfl, Nat.le_of_ble_eq_true rfl⟩ (fun r_118 N_119 V_117 q_120 => ?_)
    obtain ⟨e_115, rfl, fr_116⟩ := q_120
    refine aw_aload_n dL_law_442 rfl ?_
    refine aw_aload_n dL_law_443 rfl ?_
    refine aw_iload_n dL_law_444 rfl ?_
    refine aw_iconst (v := 1) dL_law_445 (by decide) ?_
    refine aw_iadd dL_law_446 ?_
    refine aw_eqi (y := 1) (by decide) ?_
    refine aw_sld dL_law_447 rfl (vp_in_nI (n := 1) (N := 6) (by decide) (by decide)) ?_
    refine aw_eqi (y := xs 1) rfl ?_
    refine aw_aload_n dL_law_448 rfl ?_
    refine aw_iload_n dL_law_449 rfl ?_
    refine aw_iconst (v := 2) dL_law_450 (by decide) ?_
    refine aw_iadd dL_law_451 ?_
    refine aw_eqi (y := 2) (by decide) ?_
    refine aw_sld dL_law_452 rfl (vp_in_nI (n := 2) (N := 6) (by decide) (by decide)) ?_
    refine aw_eqi (y := xs 2) rfl ?_
    refine aw_callVi (J' := jX12_taught) (As := [.int (xs 1), .int (xs 2)]) (st := [.int r_118]) dL_law_453 tb_1469 ok_X12_taught ⟨_, (M0.frame hM_5 fr_116).1⟩ (by omega) rfl rfl (r_taught l D b 133 V_117 (by decide) (M0.frame hM_5 fr_116) (xs 1) (xs 2)) rfl (Nat.le_of_ble_eq_true rfl) ⟨Nat.le_of_ble_eq_true rfl, Nat.le_of_ble_eq_true rfl, Nat.le_of_ble_eq_true rfl, Nat.le_of_ble_eq_true rfl⟩ (fun r_123 N_124 V_122 q_125 => ?_)
    obtain ⟨e_121, rfl⟩ := q_125
    refine aw_icmp_eq (tgt := 982) dL_law_456 (by decide) (fun c_126 => ?_) (fun c_126 => ?_)
    rotate_left
    · exact absurd (e_115.trans e_121.symm) c_126
    refine aw_iinc (v := 6) (ls' := [some (.ref b9), some (.ref (b + 0)), some (.ref (b + 100)), some (.int 6)]) dL_law_982 rfl (by decide) (Nat.le_of_ble_eq_true rfl) rfl ?_
    refine aw_goto (tgt := 18) dL_law_985 (by decide) ?_
    refine aw_iload_n dL_law_18 rfl ?_
    refine aw_aload_n dL_law_19 rfl ?_
    refine aw_slen dL_law_20 rfl ?_
    refine aw_eqi (y := 6) rfl ?_
    refine aw_bipush (v := 6) dL_law_21 (by decide) ?_
    refine aw_isub dL_law_23 ?_
    refine aw_eqi (y := 0) (by decide) ?_
    refine aw_icmp_gt (tgt := 988) dL_law_24 (by decide) (fun c_127 => ?_) (fun c_127 => ?_)
    rotate_left
    · exact absurd (by decide) c_127
    refine aw_iconst (v := 1) dL_law_988 (by decide) ?_
    exact aw_lawret dL_law_989 (Nat.le_of_ble_eq_true rfl) (Nat.le_of_ble_eq_true rfl)
  · skip
    refine aw_tableIn (off := 428) (tgt := 461) dL_law_33 (by decide) (by decide) (by decide) (by decide) ?_
    refine aw_aload_n dL_law_461 rfl ?_
    refine aw_aload_n dL_law_462 rfl ?_
    refine aw_iload_n dL_law_463 rfl ?_
    refine aw_iconst (v := 1) dL_law_464 (by decide) ?_
    refine aw_iadd dL_law_465 ?_
    refine aw_eqi (y := 1) (by decide) ?_
    refine aw_sld dL_law_466 rfl (vp_in_nI (n := 1) (N := 6) (by decide) (by decide)) ?_
    refine aw_eqi (y := xs 1) rfl ?_
    refine aw_callVi (J' := jX11_crew) (As := [.int (xs 1)]) (st := []) dL_law_467 tb_790 ok_X11_crew ⟨_, (I0.frame hI_1 (fun i hi => (fr_6 i hi).trans (va_up_ne _ _ (by omega)))).1⟩ (by omega) rfl rfl (m_crew l D b 133 V_7 (by decide) (I0.frame hI_1 (fun i hi => (fr_6 i hi).trans (va_up_ne _ _ (by omega)))) (xs 1)) rfl (Nat.le_of_ble_eq_true rfl) ⟨Nat.le_of_ble_eq_true rfl, Nat.le_of_ble_eq_true rfl, Nat.le_of_ble_eq_true rfl, Nat.le_of_ble_eq_true rfl⟩ (fun r_131 N_132 V_130 q_133 => ?_)
    obtain ⟨e_128, rfl, fr_129⟩ := q_133
    refine aw_aload_n dL_law_470 rfl ?_
    refine aw_aload_n dL_law_471 rfl ?_
    refine aw_iload_n dL_law_472 rfl ?_
    refine aw_iconst (v := 1) dL_law_473 (by decide) ?_
    refine aw_iadd dL_law_474 ?_
    refine aw_eqi (y := 1) (by decide) ?_
    refine aw_sld dL_law_475 rfl (vp_in_nI (n := 1) (N := 6) (by decide) (by decide)) ?_
    refine aw_eqi (y := xs 1) rfl ?_
    refine aw_callVi (J' := jX12_crew) (As := [.int (xs 1)]) (st := [.int r_131]) dL_law_476 tb_1477 ok_X12_crew ⟨_, (M0.frame hM_5 fr_129).1⟩ (by omega) rfl rfl (r_crew l D b 133 V_130 (by decide) (M0.frame hM_5 fr_129) (xs 1)) rfl (Nat.le_of_ble_eq_true rfl) ⟨Nat.le_of_ble_eq_true rfl, Nat.le_of_ble_eq_true rfl, Nat.le_of_ble_eq_true rfl, Nat.le_of_ble_eq_true rfl⟩ (fun r_136 N_137 V_135 q_138 => ?_)
    obtain ⟨e_134, rfl⟩ := q_138
    refine aw_icmp_eq (tgt := 982) dL_law_479 (by decide) (fun c_139 => ?_) (fun c_139 => ?_)
    rotate_left
    · exact absurd (e_128.trans e_134.symm) c_139
    refine aw_iinc (v := 6) (ls' := [some (.ref b9), some (.ref (b + 0)), some (.ref (b + 100)), some (.int 6)]) dL_law_982 rfl (by decide) (Nat.le_of_ble_eq_true rfl) rfl ?_
    refine aw_goto (tgt := 18) dL_law_985 (by decide) ?_
    refine aw_iload_n dL_law_18 rfl ?_
    refine aw_aload_n dL_law_19 rfl ?_
    refine aw_slen dL_law_20 rfl ?_
    refine aw_eqi (y := 6) rfl ?_
    refine aw_bipush (v := 6) dL_law_21 (by decide) ?_
    refine aw_isub dL_law_23 ?_
    refine aw_eqi (y := 0) (by decide) ?_
    refine aw_icmp_gt (tgt := 988) dL_law_24 (by decide) (fun c_140 => ?_) (fun c_140 => ?_)
    rotate_left
    · exact absurd (by decide) c_140
    refine aw_iconst (v := 1) dL_law_988 (by decide) ?_
    exact aw_lawret dL_law_989 (Nat.le_of_ble_eq_true rfl) (Nat.le_of_ble_eq_true rfl)
  · skip
    refine aw_tableIn (off := 451) (tgt := 484) dL_law_33 (by decide) (by decide) (by decide) (by decide) ?_
    refine aw_aload_n dL_law_484 rfl ?_
    refine aw_callVi (J' := jX11_lodgings) (As := []) (st := []) dL_law_485 tb_806 ok_X11_lodgings ⟨_, (I0.frame hI_1 (fun i hi => (fr_6 i hi).trans (va_up_ne _ _ (by omega)))).1⟩ (by omega) rfl rfl (m_lodgings l D b 133 V_7 (by decide) (I0.frame hI_1 (fun i hi => (fr_6 i hi).trans (va_up_ne _ _ (by omega))))) rfl (Nat.le_of_ble_eq_true rfl) ⟨Nat.le_of_ble_eq_true rfl, Nat.le_of_ble_eq_true rfl, Nat.le_of_ble_eq_true rfl, Nat.le_of_ble_eq_true rfl⟩ (fun r_144 N_145 V_143 q_146 => ?_)
    obtain ⟨e_141, rfl, fr_142⟩ := q_146
    refine aw_aload_n dL_law_488 rfl ?_
    refine aw_callVi (J' := jX12_lodgings) (As := []) (st := [.int r_144]) dL_law_489 tb_1489 ok_X12_lodgings ⟨_, (M0.frame hM_5 fr_142).1⟩ (by omega) rfl rfl (r_lodgings l D b 133 V_143 (by decide) (M0.frame hM_5 fr_142)) rfl (Nat.le_of_ble_eq_true rfl) ⟨Nat.le_of_ble_eq_true rfl, Nat.le_of_ble_eq_true rfl, Nat.le_of_ble_eq_true rfl, Nat.le_of_ble_eq_true rfl⟩ (fun r_149 N_150 V_148 q_151 => ?_)
    obtain ⟨e_147, rfl⟩ := q_151
    refine aw_icmp_eq (tgt := 982) dL_law_492 (by decide) (fun c_152 => ?_) (fun c_152 => ?_)
    rotate_left
    · exact absurd (e_141.trans e_147.symm) c_152
    refine aw_iinc (v := 6) (ls' := [some (.ref b9), some (.ref (b + 0)), some (.ref (b + 100)), some (.int 6)]) dL_law_982 rfl (by decide) (Nat.le_of_ble_eq_true rfl) rfl ?_
    refine aw_goto (tgt := 18) dL_law_985 (by decide) ?_
    refine aw_iload_n dL_law_18 rfl ?_
    refine aw_aload_n dL_law_19 rfl ?_
    refine aw_slen dL_law_20 rfl ?_
    refine aw_eqi (y := 6) rfl ?_
    refine aw_bipush (v := 6) dL_law_21 (by decide) ?_
    refine aw_isub dL_law_23 ?_
    refine aw_eqi (y := 0) (by decide) ?_
    refine aw_icmp_gt (tgt := 988) dL_law_24 (by decide) (fun c_153 => ?_) (fun c_153 => ?_)
    rotate_left
    · exact absurd (by decide) c_153
    refine aw_iconst (v := 1) dL_law_988 (by decide) ?_
    exact aw_lawret dL_law_989 (Nat.le_of_ble_eq_true rfl) (Nat.le_of_ble_eq_true rfl)
  · skip
    refine aw_tableIn (off := 464) (tgt := 497) dL_law_33 (by decide) (by decide) (by decide) (by decide) ?_
    refine aw_aload_n dL_law_497 rfl ?_
    refine aw_aload_n dL_law_498 rfl ?_
    refine aw_iload_n dL_law_499 rfl ?_
    refine aw_iconst (v := 1) dL_law_500 (by decide) ?_
    refine aw_iadd dL_law_501 ?_
    refine aw_eqi (y := 1) (by decide) ?_
    refine aw_sld dL_law_502 rfl (vp_in_nI (n := 1) (N := 6) (by decide) (by decide)) ?_
    refine aw_eqi (y := xs 1) rfl ?_
    refine aw_callVi (J' := jX11_couples) (As := [.int (xs 1)]) (st := []) dL_law_503 tb_814 ok_X11_couples ⟨_, (I0.frame hI_1 (fun i hi => (fr_6 i hi).trans (va_up_ne _ _ (by omega)))).1⟩ (by omega) rfl rfl (m_couples l D b 133 V_7 (by decide) (I0.frame hI_1 (fun i hi => (fr_6 i hi).trans (va_up_ne _ _ (by omega)))) (xs 1)) rfl (Nat.le_of_ble_eq_true rfl) ⟨Nat.le_of_ble_eq_true rfl, Nat.le_of_ble_eq_true rfl, Nat.le_of_ble_eq_true rfl, Nat.le_of_ble_eq_true rfl⟩ (fun r_157 N_158 V_156 q_159 => ?_)
    obtain ⟨e_154, rfl, fr_155⟩ := q_159
    refine aw_aload_n dL_law_506 rfl ?_
    refine aw_aload_n dL_law_507 rfl ?_
    refine aw_iload_n dL_law_508 rfl ?_
    refine aw_iconst (v := 1) dL_law_509 (by decide) ?_
    refine aw_iadd dL_law_510 ?_
    refine aw_eqi (y := 1) (by decide) ?_
    refine aw_sld dL_law_511 rfl (vp_in_nI (n := 1) (N := 6) (by decide) (by decide)) ?_
    refine aw_eqi (y := xs 1) rfl ?_
    refine aw_callVi (J' := jX12_couples) (As := [.int (xs 1)]) (st := [.int r_157]) dL_law_512 tb_1493 ok_X12_couples ⟨_, (M0.frame hM_5 fr_155).1⟩ (by omega) rfl rfl (r_couples l D b 133 V_156 (by decide) (M0.frame hM_5 fr_155) (xs 1)) rfl (Nat.le_of_ble_eq_true rfl) ⟨Nat.le_of_ble_eq_true rfl, Nat.le_of_ble_eq_true rfl, Nat.le_of_ble_eq_true rfl, Nat.le_of_ble_eq_true rfl⟩ (fun r_162 N_163 V_161 q_164 => ?_)
    obtain ⟨e_160, rfl⟩ := q_164
    refine aw_icmp_eq (tgt := 982) dL_law_515 (by decide) (fun c_165 => ?_) (fun c_165 => ?_)
    rotate_left
    · exact absurd (e_154.trans e_160.symm) c_165
    refine aw_iinc (v := 6) (ls' := [some (.ref b9), some (.ref (b + 0)), some (.ref (b + 100)), some (.int 6)]) dL_law_982 rfl (by decide) (Nat.le_of_ble_eq_true rfl) rfl ?_
    refine aw_goto (tgt := 18) dL_law_985 (by decide) ?_
    refine aw_iload_n dL_law_18 rfl ?_
    refine aw_aload_n dL_law_19 rfl ?_
    refine aw_slen dL_law_20 rfl ?_
    refine aw_eqi (y := 6) rfl ?_
    refine aw_bipush (v := 6) dL_law_21 (by decide) ?_
    refine aw_isub dL_law_23 ?_
    refine aw_eqi (y := 0) (by decide) ?_
    refine aw_icmp_gt (tgt := 988) dL_law_24 (by decide) (fun c_166 => ?_) (fun c_166 => ?_)
    rotate_left
    · exact absurd (by decide) c_166
    refine aw_iconst (v := 1) dL_law_988 (by decide) ?_
    exact aw_lawret dL_law_989 (Nat.le_of_ble_eq_true rfl) (Nat.le_of_ble_eq_true rfl)
  · skip
    refine aw_tableIn (off := 487) (tgt := 520) dL_law_33 (by decide) (by decide) (by decide) (by decide) ?_
    refine aw_aload_n dL_law_520 rfl ?_
    refine aw_aload_n dL_law_521 rfl ?_
    refine aw_iload_n dL_law_522 rfl ?_
    refine aw_iconst (v := 1) dL_law_523 (by decide) ?_
    refine aw_iadd dL_law_524 ?_
    refine aw_eqi (y := 1) (by decide) ?_
    refine aw_sld dL_law_525 rfl (vp_in_nI (n := 1) (N := 6) (by decide) (by decide)) ?_
    refine aw_eqi (y := xs 1) rfl ?_
    refine aw_aload_n dL_law_526 rfl ?_
    refine aw_iload_n dL_law_527 rfl ?_
    refine aw_iconst (v := 2) dL_law_528 (by decide) ?_
    refine aw_iadd dL_law_529 ?_
    refine aw_eqi (y := 2) (by decide) ?_
    refine aw_sld dL_law_530 rfl (vp_in_nI (n := 2) (N := 6) (by decide) (by decide)) ?_
    refine aw_eqi (y := xs 2) rfl ?_
    refine aw_aload_n dL_law_531 rfl ?_
    refine aw_iload_n dL_law_532 rfl ?_
    refine aw_iconst (v := 3) dL_law_533 (by decide) ?_
    refine aw_iadd dL_law_534 ?_
    refine aw_eqi (y := 3) (by decide) ?_
    refine aw_sld dL_law_535 rfl (vp_in_nI (n := 3) (N := 6) (by decide) (by decide)) ?_
    refine aw_eqi (y := xs 3) rfl ?_
    refine aw_callVi (J' := jX11_fashion) (As := [.int (xs 1), .int (xs 2), .int (xs 3)]) (st := []) dL_law_536 tb_836 ok_X11_fashion ⟨_, (I0.frame hI_1 (fun i hi => (fr_6 i hi).trans (va_up_ne _ _ (by omega)))).1⟩ (by omega) rfl rfl (m_fashion l D b 133 V_7 (by decide) (I0.frame hI_1 (fun i hi => (fr_6 i hi).trans (va_up_ne _ _ (by omega)))) (xs 1) (xs 2) (xs 3)) rfl (Nat.le_of_ble_eq_true rfl) ⟨Nat.le_of_ble_eq_true rfl, Nat.le_of_ble_eq_true rfl, Nat.le_of_ble_eq_true rfl, Nat.le_of_ble_eq_true rfl⟩ (fun r_170 N_171 V_169 q_172 => ?_)
    obtain ⟨e_167, rfl, fr_168⟩ := q_172
    refine aw_aload_n dL_law_539 rfl ?_
    refine aw_aload_n dL_law_540 rfl ?_
    refine aw_iload_n dL_law_541 rfl ?_
    refine aw_iconst (v := 1) dL_law_542 (by decide) ?_
    refine aw_iadd dL_law_543 ?_
    refine aw_eqi (y := 1) (by decide) ?_
    refine aw_sld dL_law_544 rfl (vp_in_nI (n := 1) (N := 6) (by decide) (by decide)) ?_
    refine aw_eqi (y := xs 1) rfl ?_
    refine aw_aload_n dL_law_545 rfl ?_
    refine aw_iload_n dL_law_546 rfl ?_
    refine aw_iconst (v := 2) dL_law_547 (by decide) ?_
    refine aw_iadd dL_law_548 ?_
    refine aw_eqi (y := 2) (by decide) ?_
    refine aw_sld dL_law_549 rfl (vp_in_nI (n := 2) (N := 6) (by decide) (by decide)) ?_
    refine aw_eqi (y := xs 2) rfl ?_
    refine aw_aload_n dL_law_550 rfl ?_
    refine aw_iload_n dL_law_551 rfl ?_
    refine aw_iconst (v := 3) dL_law_552 (by decide) ?_
    refine aw_iadd dL_law_553 ?_
    refine aw_eqi (y := 3) (by decide) ?_
    refine aw_sld dL_law_554 rfl (vp_in_nI (n := 3) (N := 6) (by decide) (by decide)) ?_
    refine aw_eqi (y := xs 3) rfl ?_
    refine aw_callVi (J' := jX12_fashion) (As := [.int (xs 1), .int (xs 2), .int (xs 3)]) (st := [.int r_170]) dL_law_555 tb_1504 ok_X12_fashion ⟨_, (M0.frame hM_5 fr_168).1⟩ (by omega) rfl rfl (r_fashion l D b 133 V_169 (by decide) (M0.frame hM_5 fr_168) (xs 1) (xs 2) (xs 3)) rfl (Nat.le_of_ble_eq_true rfl) ⟨Nat.le_of_ble_eq_true rfl, Nat.le_of_ble_eq_true rfl, Nat.le_of_ble_eq_true rfl, Nat.le_of_ble_eq_true rfl⟩ (fun r_175 N_176 V_174 q_177 => ?_)
    obtain ⟨e_173, rfl⟩ := q_177
    refine aw_icmp_eq (tgt := 982) dL_law_558 (by decide) (fun c_178 => ?_) (fun c_178 => ?_)
    rotate_left
    · exact absurd (e_167.trans e_173.symm) c_178
    refine aw_iinc (v := 6) (ls' := [some (.ref b9), some (.ref (b + 0)), some (.ref (b + 100)), some (.int 6)]) dL_law_982 rfl (by decide) (Nat.le_of_ble_eq_true rfl) rfl ?_
    refine aw_goto (tgt := 18) dL_law_985 (by decide) ?_
    refine aw_iload_n dL_law_18 rfl ?_
    refine aw_aload_n dL_law_19 rfl ?_
    refine aw_slen dL_law_20 rfl ?_
    refine aw_eqi (y := 6) rfl ?_
    refine aw_bipush (v := 6) dL_law_21 (by decide) ?_
    refine aw_isub dL_law_23 ?_
    refine aw_eqi (y := 0) (by decide) ?_
    refine aw_icmp_gt (tgt := 988) dL_law_24 (by decide) (fun c_179 => ?_) (fun c_179 => ?_)
    rotate_left
    · exact absurd (by decide) c_179
    refine aw_iconst (v := 1) dL_law_988 (by decide) ?_
    exact aw_lawret dL_law_989 (Nat.le_of_ble_eq_true rfl) (Nat.le_of_ble_eq_true rfl)
  · skip
    refine aw_tableIn (off := 530) (tgt := 563) dL_law_33 (by decide) (by decide) (by decide) (by decide) ?_
    refine aw_aload_n dL_law_563 rfl ?_
    refine aw_aload_n dL_law_564 rfl ?_
    refine aw_iload_n dL_law_565 rfl ?_
    refine aw_iconst (v := 1) dL_law_566 (by decide) ?_
    refine aw_iadd dL_law_567 ?_
    refine aw_eqi (y := 1) (by decide) ?_
    refine aw_sld dL_law_568 rfl (vp_in_nI (n := 1) (N := 6) (by decide) (by decide)) ?_
    refine aw_eqi (y := xs 1) rfl ?_
    refine aw_callVi (J' := jX11_fears) (As := [.int (xs 1)]) (st := []) dL_law_569 tb_849 ok_X11_fears ⟨_, (I0.frame hI_1 (fun i hi => (fr_6 i hi).trans (va_up_ne _ _ (by omega)))).1⟩ (by omega) rfl rfl (m_fears l D b 133 V_7 (by decide) (I0.frame hI_1 (fun i hi => (fr_6 i hi).trans (va_up_ne _ _ (by omega)))) (xs 1)) rfl (Nat.le_of_ble_eq_true rfl) ⟨Nat.le_of_ble_eq_true rfl, Nat.le_of_ble_eq_true rfl, Nat.le_of_ble_eq_true rfl, Nat.le_of_ble_eq_true rfl⟩ (fun r_183 N_184 V_182 q_185 => ?_)
    obtain ⟨e_180, rfl, fr_181⟩ := q_185
    refine aw_aload_n dL_law_572 rfl ?_
    refine aw_aload_n dL_law_573 rfl ?_
    refine aw_iload_n dL_law_574 rfl ?_
    refine aw_iconst (v := 1) dL_law_575 (by decide) ?_
    refine aw_iadd dL_law_576 ?_
    refine aw_eqi (y := 1) (by decide) ?_
    refine aw_sld dL_law_577 rfl (vp_in_nI (n := 1) (N := 6) (by decide) (by decide)) ?_
    refine aw_eqi (y := xs 1) rfl ?_
    refine aw_callVi (J' := jX12_fears) (As := [.int (xs 1)]) (st := [.int r_183]) dL_law_578 tb_1512 ok_X12_fears ⟨_, (M0.frame hM_5 fr_181).1⟩ (by omega) rfl rfl (r_fears l D b 133 V_182 (by decide) (M0.frame hM_5 fr_181) (xs 1)) rfl (Nat.le_of_ble_eq_true rfl) ⟨Nat.le_of_ble_eq_true rfl, Nat.le_of_ble_eq_true rfl, Nat.le_of_ble_eq_true rfl, Nat.le_of_ble_eq_true rfl⟩ (fun r_188 N_189 V_187 q_190 => ?_)
    obtain ⟨e_186, rfl⟩ := q_190
    refine aw_icmp_eq (tgt := 982) dL_law_581 (by decide) (fun c_191 => ?_) (fun c_191 => ?_)
    rotate_left
    · exact absurd (e_180.trans e_186.symm) c_191
    refine aw_iinc (v := 6) (ls' := [some (.ref b9), some (.ref (b + 0)), some (.ref (b + 100)), some (.int 6)]) dL_law_982 rfl (by decide) (Nat.le_of_ble_eq_true rfl) rfl ?_
    refine aw_goto (tgt := 18) dL_law_985 (by decide) ?_
    refine aw_iload_n dL_law_18 rfl ?_
    refine aw_aload_n dL_law_19 rfl ?_
    refine aw_slen dL_law_20 rfl ?_
    refine aw_eqi (y := 6) rfl ?_
    refine aw_bipush (v := 6) dL_law_21 (by decide) ?_
    refine aw_isub dL_law_23 ?_
    refine aw_eqi (y := 0) (by decide) ?_
    refine aw_icmp_gt (tgt := 988) dL_law_24 (by decide) (fun c_192 => ?_) (fun c_192 => ?_)
    rotate_left
    · exact absurd (by decide) c_192
    refine aw_iconst (v := 1) dL_law_988 (by decide) ?_
    exact aw_lawret dL_law_989 (Nat.le_of_ble_eq_true rfl) (Nat.le_of_ble_eq_true rfl)
  · skip
    refine aw_tableIn (off := 553) (tgt := 586) dL_law_33 (by decide) (by decide) (by decide) (by decide) ?_
    refine aw_aload_n dL_law_586 rfl ?_
    refine aw_aload_n dL_law_587 rfl ?_
    refine aw_iload_n dL_law_588 rfl ?_
    refine aw_iconst (v := 1) dL_law_589 (by decide) ?_
    refine aw_iadd dL_law_590 ?_
    refine aw_eqi (y := 1) (by decide) ?_
    refine aw_sld dL_law_591 rfl (vp_in_nI (n := 1) (N := 6) (by decide) (by decide)) ?_
    refine aw_eqi (y := xs 1) rfl ?_
    refine aw_aload_n dL_law_592 rfl ?_
    refine aw_iload_n dL_law_593 rfl ?_
    refine aw_iconst (v := 2) dL_law_594 (by decide) ?_
    refine aw_iadd dL_law_595 ?_
    refine aw_eqi (y := 2) (by decide) ?_
    refine aw_sld dL_law_596 rfl (vp_in_nI (n := 2) (N := 6) (by decide) (by decide)) ?_
    refine aw_eqi (y := xs 2) rfl ?_
    refine aw_callVi (J' := jX11_unlike) (As := [.int (xs 1), .int (xs 2)]) (st := []) dL_law_597 tb_863 ok_X11_unlike ⟨_, (I0.frame hI_1 (fun i hi => (fr_6 i hi).trans (va_up_ne _ _ (by omega)))).1⟩ (by omega) rfl rfl (m_unlike l D b 133 V_7 (by decide) (I0.frame hI_1 (fun i hi => (fr_6 i hi).trans (va_up_ne _ _ (by omega)))) (xs 1) (xs 2)) rfl (Nat.le_of_ble_eq_true rfl) ⟨Nat.le_of_ble_eq_true rfl, Nat.le_of_ble_eq_true rfl, Nat.le_of_ble_eq_true rfl, Nat.le_of_ble_eq_true rfl⟩ (fun r_196 N_197 V_195 q_198 => ?_)
    obtain ⟨e_193, rfl, fr_194⟩ := q_198
    refine aw_aload_n dL_law_600 rfl ?_
    refine aw_aload_n dL_law_601 rfl ?_
    refine aw_iload_n dL_law_602 rfl ?_
    refine aw_iconst (v := 1) dL_law_603 (by decide) ?_
    refine aw_iadd dL_law_604 ?_
    refine aw_eqi (y := 1) (by decide) ?_
    refine aw_sld dL_law_605 rfl (vp_in_nI (n := 1) (N := 6) (by decide) (by decide)) ?_
    refine aw_eqi (y := xs 1) rfl ?_
    refine aw_aload_n dL_law_606 rfl ?_
    refine aw_iload_n dL_law_607 rfl ?_
    refine aw_iconst (v := 2) dL_law_608 (by decide) ?_
    refine aw_iadd dL_law_609 ?_
    refine aw_eqi (y := 2) (by decide) ?_
    refine aw_sld dL_law_610 rfl (vp_in_nI (n := 2) (N := 6) (by decide) (by decide)) ?_
    refine aw_eqi (y := xs 2) rfl ?_
    refine aw_callVi (J' := jX12_unlike) (As := [.int (xs 1), .int (xs 2)]) (st := [.int r_196]) dL_law_611 tb_1516 ok_X12_unlike ⟨_, (M0.frame hM_5 fr_194).1⟩ (by omega) rfl rfl (r_unlike l D b 133 V_195 (by decide) (M0.frame hM_5 fr_194) (xs 1) (xs 2)) rfl (Nat.le_of_ble_eq_true rfl) ⟨Nat.le_of_ble_eq_true rfl, Nat.le_of_ble_eq_true rfl, Nat.le_of_ble_eq_true rfl, Nat.le_of_ble_eq_true rfl⟩ (fun r_201 N_202 V_200 q_203 => ?_)
    obtain ⟨e_199, rfl⟩ := q_203
    refine aw_icmp_eq (tgt := 982) dL_law_614 (by decide) (fun c_204 => ?_) (fun c_204 => ?_)
    rotate_left
    · exact absurd (e_193.trans e_199.symm) c_204
    refine aw_iinc (v := 6) (ls' := [some (.ref b9), some (.ref (b + 0)), some (.ref (b + 100)), some (.int 6)]) dL_law_982 rfl (by decide) (Nat.le_of_ble_eq_true rfl) rfl ?_
    refine aw_goto (tgt := 18) dL_law_985 (by decide) ?_
    refine aw_iload_n dL_law_18 rfl ?_
    refine aw_aload_n dL_law_19 rfl ?_
    refine aw_slen dL_law_20 rfl ?_
    refine aw_eqi (y := 6) rfl ?_
    refine aw_bipush (v := 6) dL_law_21 (by decide) ?_
    refine aw_isub dL_law_23 ?_
    refine aw_eqi (y := 0) (by decide) ?_
    refine aw_icmp_gt (tgt := 988) dL_law_24 (by decide) (fun c_205 => ?_) (fun c_205 => ?_)
    rotate_left
    · exact absurd (by decide) c_205
    refine aw_iconst (v := 1) dL_law_988 (by decide) ?_
    exact aw_lawret dL_law_989 (Nat.le_of_ble_eq_true rfl) (Nat.le_of_ble_eq_true rfl)
  · skip
    refine aw_tableIn (off := 586) (tgt := 619) dL_law_33 (by decide) (by decide) (by decide) (by decide) ?_
    refine aw_aload_n dL_law_619 rfl ?_
    refine aw_aload_n dL_law_620 rfl ?_
    refine aw_iload_n dL_law_621 rfl ?_
    refine aw_iconst (v := 1) dL_law_622 (by decide) ?_
    refine aw_iadd dL_law_623 ?_
    refine aw_eqi (y := 1) (by decide) ?_
    refine aw_sld dL_law_624 rfl (vp_in_nI (n := 1) (N := 6) (by decide) (by decide)) ?_
    refine aw_eqi (y := xs 1) rfl ?_
    refine aw_callVi (J' := jX11_mostLike) (As := [.int (xs 1)]) (st := []) dL_law_625 tb_872 ok_X11_mostLike ⟨_, (I0.frame hI_1 (fun i hi => (fr_6 i hi).trans (va_up_ne _ _ (by omega)))).1⟩ (by omega) rfl rfl (m_mostLike l D b 133 V_7 (by decide) (I0.frame hI_1 (fun i hi => (fr_6 i hi).trans (va_up_ne _ _ (by omega)))) (xs 1)) rfl (Nat.le_of_ble_eq_true rfl) ⟨Nat.le_of_ble_eq_true rfl, Nat.le_of_ble_eq_true rfl, Nat.le_of_ble_eq_true rfl, Nat.le_of_ble_eq_true rfl⟩ (fun r_209 N_210 V_208 q_211 => ?_)
    obtain ⟨e_206, rfl, fr_207⟩ := q_211
    refine aw_aload_n dL_law_628 rfl ?_
    refine aw_aload_n dL_law_629 rfl ?_
    refine aw_iload_n dL_law_630 rfl ?_
    refine aw_iconst (v := 1) dL_law_631 (by decide) ?_
    refine aw_iadd dL_law_632 ?_
    refine aw_eqi (y := 1) (by decide) ?_
    refine aw_sld dL_law_633 rfl (vp_in_nI (n := 1) (N := 6) (by decide) (by decide)) ?_
    refine aw_eqi (y := xs 1) rfl ?_
    refine aw_callVi (J' := jX12_mostLike) (As := [.int (xs 1)]) (st := [.int r_209]) dL_law_634 tb_1524 ok_X12_mostLike ⟨_, (M0.frame hM_5 fr_207).1⟩ (by omega) rfl rfl (r_mostLike l D b 133 V_208 (by decide) (M0.frame hM_5 fr_207) (xs 1)) rfl (Nat.le_of_ble_eq_true rfl) ⟨Nat.le_of_ble_eq_true rfl, Nat.le_of_ble_eq_true rfl, Nat.le_of_ble_eq_true rfl, Nat.le_of_ble_eq_true rfl⟩ (fun r_214 N_215 V_213 q_216 => ?_)
    obtain ⟨e_212, rfl⟩ := q_216
    refine aw_icmp_eq (tgt := 982) dL_law_637 (by decide) (fun c_217 => ?_) (fun c_217 => ?_)
    rotate_left
    · exact absurd (e_206.trans e_212.symm) c_217
    refine aw_iinc (v := 6) (ls' := [some (.ref b9), some (.ref (b + 0)), some (.ref (b + 100)), some (.int 6)]) dL_law_982 rfl (by decide) (Nat.le_of_ble_eq_true rfl) rfl ?_
    refine aw_goto (tgt := 18) dL_law_985 (by decide) ?_
    refine aw_iload_n dL_law_18 rfl ?_
    refine aw_aload_n dL_law_19 rfl ?_
    refine aw_slen dL_law_20 rfl ?_
    refine aw_eqi (y := 6) rfl ?_
    refine aw_bipush (v := 6) dL_law_21 (by decide) ?_
    refine aw_isub dL_law_23 ?_
    refine aw_eqi (y := 0) (by decide) ?_
    refine aw_icmp_gt (tgt := 988) dL_law_24 (by decide) (fun c_218 => ?_) (fun c_218 => ?_)
    rotate_left
    · exact absurd (by decide) c_218
    refine aw_iconst (v := 1) dL_law_988 (by decide) ?_
    exact aw_lawret dL_law_989 (Nat.le_of_ble_eq_true rfl) (Nat.le_of_ble_eq_true rfl)
  · skip
    refine aw_tableIn (off := 609) (tgt := 642) dL_law_33 (by decide) (by decide) (by decide) (by decide) ?_
    refine aw_aload_n dL_law_642 rfl ?_
    refine aw_aload_n dL_law_643 rfl ?_
    refine aw_iload_n dL_law_644 rfl ?_
    refine aw_iconst (v := 1) dL_law_645 (by decide) ?_
    refine aw_iadd dL_law_646 ?_
    refine aw_eqi (y := 1) (by decide) ?_
    refine aw_sld dL_law_647 rfl (vp_in_nI (n := 1) (N := 6) (by decide) (by decide)) ?_
    refine aw_eqi (y := xs 1) rfl ?_
    refine aw_aload_n dL_law_648 rfl ?_
    refine aw_iload_n dL_law_649 rfl ?_
    refine aw_iconst (v := 2) dL_law_650 (by decide) ?_
    refine aw_iadd dL_law_651 ?_
    refine aw_eqi (y := 2) (by decide) ?_
    refine aw_sld dL_law_652 rfl (vp_in_nI (n := 2) (N := 6) (by decide) (by decide)) ?_
    refine aw_eqi (y := xs 2) rfl ?_
    refine aw_callVi (J' := jX11_circles) (As := [.int (xs 1), .int (xs 2)]) (st := []) dL_law_653 tb_881 ok_X11_circles ⟨_, (I0.frame hI_1 (fun i hi => (fr_6 i hi).trans (va_up_ne _ _ (by omega)))).1⟩ (by omega) rfl rfl (m_circles l D b 133 V_7 (by decide) (I0.frame hI_1 (fun i hi => (fr_6 i hi).trans (va_up_ne _ _ (by omega)))) (xs 1) (xs 2)) rfl (Nat.le_of_ble_eq_true rfl) ⟨Nat.le_of_ble_eq_true rfl, Nat.le_of_ble_eq_true rfl, Nat.le_of_ble_eq_true rfl, Nat.le_of_ble_eq_true rfl⟩ (fun r_222 N_223 V_221 q_224 => ?_)
    obtain ⟨e_219, rfl, fr_220⟩ := q_224
    refine aw_aload_n dL_law_656 rfl ?_
    refine aw_aload_n dL_law_657 rfl ?_
    refine aw_iload_n dL_law_658 rfl ?_
    refine aw_iconst (v := 1) dL_law_659 (by decide) ?_
    refine aw_iadd dL_law_660 ?_
    refine aw_eqi (y := 1) (by decide) ?_
    refine aw_sld dL_law_661 rfl (vp_in_nI (n := 1) (N := 6) (by decide) (by decide)) ?_
    refine aw_eqi (y := xs 1) rfl ?_
    refine aw_aload_n dL_law_662 rfl ?_
    refine aw_iload_n dL_law_663 rfl ?_
    refine aw_iconst (v := 2) dL_law_664 (by decide) ?_
    refine aw_iadd dL_law_665 ?_
    refine aw_eqi (y := 2) (by decide) ?_
    refine aw_sld dL_law_666 rfl (vp_in_nI (n := 2) (N := 6) (by decide) (by decide)) ?_
    refine aw_eqi (y := xs 2) rfl ?_
    refine aw_callVi (J' := jX12_circles) (As := [.int (xs 1), .int (xs 2)]) (st := [.int r_222]) dL_law_667 tb_1528 ok_X12_circles ⟨_, (M0.frame hM_5 fr_220).1⟩ (by omega) rfl rfl (r_circles l D b 133 V_221 (by decide) (M0.frame hM_5 fr_220) (xs 1) (xs 2)) rfl (Nat.le_of_ble_eq_true rfl) ⟨Nat.le_of_ble_eq_true rfl, Nat.le_of_ble_eq_true rfl, Nat.le_of_ble_eq_true rfl, Nat.le_of_ble_eq_true rfl⟩ (fun r_227 N_228 V_226 q_229 => ?_)
    obtain ⟨e_225, rfl⟩ := q_229
    refine aw_icmp_eq (tgt := 982) dL_law_670 (by decide) (fun c_230 => ?_) (fun c_230 => ?_)
    rotate_left
    · exact absurd (e_219.trans e_225.symm) c_230
    refine aw_iinc (v := 6) (ls' := [some (.ref b9), some (.ref (b + 0)), some (.ref (b + 100)), some (.int 6)]) dL_law_982 rfl (by decide) (Nat.le_of_ble_eq_true rfl) rfl ?_
    refine aw_goto (tgt := 18) dL_law_985 (by decide) ?_
    refine aw_iload_n dL_law_18 rfl ?_
    refine aw_aload_n dL_law_19 rfl ?_
    refine aw_slen dL_law_20 rfl ?_
    refine aw_eqi (y := 6) rfl ?_
    refine aw_bipush (v := 6) dL_law_21 (by decide) ?_
    refine aw_isub dL_law_23 ?_
    refine aw_eqi (y := 0) (by decide) ?_
    refine aw_icmp_gt (tgt := 988) dL_law_24 (by decide) (fun c_231 => ?_) (fun c_231 => ?_)
    rotate_left
    · exact absurd (by decide) c_231
    refine aw_iconst (v := 1) dL_law_988 (by decide) ?_
    exact aw_lawret dL_law_989 (Nat.le_of_ble_eq_true rfl) (Nat.le_of_ble_eq_true rfl)
  · skip
    refine aw_tableIn (off := 642) (tgt := 675) dL_law_33 (by decide) (by decide) (by decide) (by decide) ?_
    refine aw_aload_n dL_law_675 rfl ?_
    refine aw_callVi (J' := jX11_keystones) (As := []) (st := []) dL_law_676 tb_904 ok_X11_keystones ⟨_, (I0.frame hI_1 (fun i hi => (fr_6 i hi).trans (va_up_ne _ _ (by omega)))).1⟩ (by omega) rfl rfl (m_keystones l D b 133 V_7 (by decide) (I0.frame hI_1 (fun i hi => (fr_6 i hi).trans (va_up_ne _ _ (by omega))))) rfl (Nat.le_of_ble_eq_true rfl) ⟨Nat.le_of_ble_eq_true rfl, Nat.le_of_ble_eq_true rfl, Nat.le_of_ble_eq_true rfl, Nat.le_of_ble_eq_true rfl⟩ (fun r_235 N_236 V_234 q_237 => ?_)
    obtain ⟨e_232, rfl, fr_233⟩ := q_237
    refine aw_aload_n dL_law_679 rfl ?_
    refine aw_callVi (J' := jX12_keystones) (As := []) (st := [.int r_235]) dL_law_680 tb_1536 ok_X12_keystones ⟨_, (M0.frame hM_5 fr_233).1⟩ (by omega) rfl rfl (r_keystones l D b 133 V_234 (by decide) (M0.frame hM_5 fr_233)) rfl (Nat.le_of_ble_eq_true rfl) ⟨Nat.le_of_ble_eq_true rfl, Nat.le_of_ble_eq_true rfl, Nat.le_of_ble_eq_true rfl, Nat.le_of_ble_eq_true rfl⟩ (fun r_240 N_241 V_239 q_242 => ?_)
    obtain ⟨e_238, rfl⟩ := q_242
    refine aw_icmp_eq (tgt := 982) dL_law_683 (by decide) (fun c_243 => ?_) (fun c_243 => ?_)
    rotate_left
    · exact absurd (e_232.trans e_238.symm) c_243
    refine aw_iinc (v := 6) (ls' := [some (.ref b9), some (.ref (b + 0)), some (.ref (b + 100)), some (.int 6)]) dL_law_982 rfl (by decide) (Nat.le_of_ble_eq_true rfl) rfl ?_
    refine aw_goto (tgt := 18) dL_law_985 (by decide) ?_
    refine aw_iload_n dL_law_18 rfl ?_
    refine aw_aload_n dL_law_19 rfl ?_
    refine aw_slen dL_law_20 rfl ?_
    refine aw_eqi (y := 6) rfl ?_
    refine aw_bipush (v := 6) dL_law_21 (by decide) ?_
    refine aw_isub dL_law_23 ?_
    refine aw_eqi (y := 0) (by decide) ?_
    refine aw_icmp_gt (tgt := 988) dL_law_24 (by decide) (fun c_244 => ?_) (fun c_244 => ?_)
    rotate_left
    · exact absurd (by decide) c_244
    refine aw_iconst (v := 1) dL_law_988 (by decide) ?_
    exact aw_lawret dL_law_989 (Nat.le_of_ble_eq_true rfl) (Nat.le_of_ble_eq_true rfl)
  · skip
    refine aw_tableIn (off := 655) (tgt := 688) dL_law_33 (by decide) (by decide) (by decide) (by decide) ?_
    refine aw_aload_n dL_law_688 rfl ?_
    refine aw_aload_n dL_law_689 rfl ?_
    refine aw_iload_n dL_law_690 rfl ?_
    refine aw_iconst (v := 1) dL_law_691 (by decide) ?_
    refine aw_iadd dL_law_692 ?_
    refine aw_eqi (y := 1) (by decide) ?_
    refine aw_sld dL_law_693 rfl (vp_in_nI (n := 1) (N := 6) (by decide) (by decide)) ?_
    refine aw_eqi (y := xs 1) rfl ?_
    refine aw_aload_n dL_law_694 rfl ?_
    refine aw_iload_n dL_law_695 rfl ?_
    refine aw_iconst (v := 2) dL_law_696 (by decide) ?_
    refine aw_iadd dL_law_697 ?_
    refine aw_eqi (y := 2) (by decide) ?_
    refine aw_sld dL_law_698 rfl (vp_in_nI (n := 2) (N := 6) (by decide) (by decide)) ?_
    refine aw_eqi (y := xs 2) rfl ?_
    refine aw_callVi (J' := jX11_steps) (As := [.int (xs 1), .int (xs 2)]) (st := []) dL_law_699 tb_911 ok_X11_steps ⟨_, (I0.frame hI_1 (fun i hi => (fr_6 i hi).trans (va_up_ne _ _ (by omega)))).1⟩ (by omega) rfl rfl (m_steps l D b 133 V_7 (by decide) (I0.frame hI_1 (fun i hi => (fr_6 i hi).trans (va_up_ne _ _ (by omega)))) (xs 1) (xs 2)) rfl (Nat.le_of_ble_eq_true rfl) ⟨Nat.le_of_ble_eq_true rfl, Nat.le_of_ble_eq_true rfl, Nat.le_of_ble_eq_true rfl, Nat.le_of_ble_eq_true rfl⟩ (fun r_248 N_249 V_247 q_250 => ?_)
    obtain ⟨e_245, rfl, fr_246⟩ := q_250
    refine aw_aload_n dL_law_702 rfl ?_
    refine aw_aload_n dL_law_703 rfl ?_
    refine aw_iload_n dL_law_704 rfl ?_
    refine aw_iconst (v := 1) dL_law_705 (by decide) ?_
    refine aw_iadd dL_law_706 ?_
    refine aw_eqi (y := 1) (by decide) ?_
    refine aw_sld dL_law_707 rfl (vp_in_nI (n := 1) (N := 6) (by decide) (by decide)) ?_
    refine aw_eqi (y := xs 1) rfl ?_
    refine aw_aload_n dL_law_708 rfl ?_
    refine aw_iload_n dL_law_709 rfl ?_
    refine aw_iconst (v := 2) dL_law_710 (by decide) ?_
    refine aw_iadd dL_law_711 ?_
    refine aw_eqi (y := 2) (by decide) ?_
    refine aw_sld dL_law_712 rfl (vp_in_nI (n := 2) (N := 6) (by decide) (by decide)) ?_
    refine aw_eqi (y := xs 2) rfl ?_
    refine aw_callVi (J' := jX12_steps) (As := [.int (xs 1), .int (xs 2)]) (st := [.int r_248]) dL_law_713 tb_1548 ok_X12_steps ⟨_, (M0.frame hM_5 fr_246).1⟩ (by omega) rfl rfl (r_steps l D b 133 V_247 (by decide) (M0.frame hM_5 fr_246) (xs 1) (xs 2)) rfl (Nat.le_of_ble_eq_true rfl) ⟨Nat.le_of_ble_eq_true rfl, Nat.le_of_ble_eq_true rfl, Nat.le_of_ble_eq_true rfl, Nat.le_of_ble_eq_true rfl⟩ (fun r_253 N_254 V_252 q_255 => ?_)
    obtain ⟨e_251, rfl⟩ := q_255
    refine aw_icmp_eq (tgt := 982) dL_law_716 (by decide) (fun c_256 => ?_) (fun c_256 => ?_)
    rotate_left
    · exact absurd (e_245.trans e_251.symm) c_256
    refine aw_iinc (v := 6) (ls' := [some (.ref b9), some (.ref (b + 0)), some (.ref (b + 100)), some (.int 6)]) dL_law_982 rfl (by decide) (Nat.le_of_ble_eq_true rfl) rfl ?_
    refine aw_goto (tgt := 18) dL_law_985 (by decide) ?_
    refine aw_iload_n dL_law_18 rfl ?_
    refine aw_aload_n dL_law_19 rfl ?_
    refine aw_slen dL_law_20 rfl ?_
    refine aw_eqi (y := 6) rfl ?_
    refine aw_bipush (v := 6) dL_law_21 (by decide) ?_
    refine aw_isub dL_law_23 ?_
    refine aw_eqi (y := 0) (by decide) ?_
    refine aw_icmp_gt (tgt := 988) dL_law_24 (by decide) (fun c_257 => ?_) (fun c_257 => ?_)
    rotate_left
    · exact absurd (by decide) c_257
    refine aw_iconst (v := 1) dL_law_988 (by decide) ?_
    exact aw_lawret dL_law_989 (Nat.le_of_ble_eq_true rfl) (Nat.le_of_ble_eq_true rfl)
  · skip
    refine aw_tableIn (off := 688) (tgt := 721) dL_law_33 (by decide) (by decide) (by decide) (by decide) ?_
    refine aw_aload_n dL_law_721 rfl ?_
    refine aw_aload_n dL_law_722 rfl ?_
    refine aw_iload_n dL_law_723 rfl ?_
    refine aw_iconst (v := 1) dL_law_724 (by decide) ?_
    refine aw_iadd dL_law_725 ?_
    refine aw_eqi (y := 1) (by decide) ?_
    refine aw_sld dL_law_726 rfl (vp_in_nI (n := 1) (N := 6) (by decide) (by decide)) ?_
    refine aw_eqi (y := xs 1) rfl ?_
    refine aw_aload_n dL_law_727 rfl ?_
    refine aw_iload_n dL_law_728 rfl ?_
    refine aw_iconst (v := 2) dL_law_729 (by decide) ?_
    refine aw_iadd dL_law_730 ?_
    refine aw_eqi (y := 2) (by decide) ?_
    refine aw_sld dL_law_731 rfl (vp_in_nI (n := 2) (N := 6) (by decide) (by decide)) ?_
    refine aw_eqi (y := xs 2) rfl ?_
    refine aw_callVi (J' := jX11_guess) (As := [.int (xs 1), .int (xs 2)]) (st := []) dL_law_732 tb_918 ok_X11_guess ⟨_, (I0.frame hI_1 (fun i hi => (fr_6 i hi).trans (va_up_ne _ _ (by omega)))).1⟩ (by omega) rfl rfl (m_guess l D b 133 V_7 (by decide) (I0.frame hI_1 (fun i hi => (fr_6 i hi).trans (va_up_ne _ _ (by omega)))) (xs 1) (xs 2)) rfl (Nat.le_of_ble_eq_true rfl) ⟨Nat.le_of_ble_eq_true rfl, Nat.le_of_ble_eq_true rfl, Nat.le_of_ble_eq_true rfl, Nat.le_of_ble_eq_true rfl⟩ (fun r_261 N_262 V_260 q_263 => ?_)
    obtain ⟨e_258, rfl, fr_259⟩ := q_263
    refine aw_aload_n dL_law_735 rfl ?_
    refine aw_aload_n dL_law_736 rfl ?_
    refine aw_iload_n dL_law_737 rfl ?_
    refine aw_iconst (v := 1) dL_law_738 (by decide) ?_
    refine aw_iadd dL_law_739 ?_
    refine aw_eqi (y := 1) (by decide) ?_
    refine aw_sld dL_law_740 rfl (vp_in_nI (n := 1) (N := 6) (by decide) (by decide)) ?_
    refine aw_eqi (y := xs 1) rfl ?_
    refine aw_aload_n dL_law_741 rfl ?_
    refine aw_iload_n dL_law_742 rfl ?_
    refine aw_iconst (v := 2) dL_law_743 (by decide) ?_
    refine aw_iadd dL_law_744 ?_
    refine aw_eqi (y := 2) (by decide) ?_
    refine aw_sld dL_law_745 rfl (vp_in_nI (n := 2) (N := 6) (by decide) (by decide)) ?_
    refine aw_eqi (y := xs 2) rfl ?_
    refine aw_callVi (J' := jX12_guess) (As := [.int (xs 1), .int (xs 2)]) (st := [.int r_261]) dL_law_746 tb_1552 ok_X12_guess ⟨_, (M0.frame hM_5 fr_259).1⟩ (by omega) rfl rfl (r_guess l D b 133 V_260 (by decide) (M0.frame hM_5 fr_259) (xs 1) (xs 2)) rfl (Nat.le_of_ble_eq_true rfl) ⟨Nat.le_of_ble_eq_true rfl, Nat.le_of_ble_eq_true rfl, Nat.le_of_ble_eq_true rfl, Nat.le_of_ble_eq_true rfl⟩ (fun r_266 N_267 V_265 q_268 => ?_)
    obtain ⟨e_264, rfl⟩ := q_268
    refine aw_icmp_eq (tgt := 982) dL_law_749 (by decide) (fun c_269 => ?_) (fun c_269 => ?_)
    rotate_left
    · exact absurd (e_258.trans e_264.symm) c_269
    refine aw_iinc (v := 6) (ls' := [some (.ref b9), some (.ref (b + 0)), some (.ref (b + 100)), some (.int 6)]) dL_law_982 rfl (by decide) (Nat.le_of_ble_eq_true rfl) rfl ?_
    refine aw_goto (tgt := 18) dL_law_985 (by decide) ?_
    refine aw_iload_n dL_law_18 rfl ?_
    refine aw_aload_n dL_law_19 rfl ?_
    refine aw_slen dL_law_20 rfl ?_
    refine aw_eqi (y := 6) rfl ?_
    refine aw_bipush (v := 6) dL_law_21 (by decide) ?_
    refine aw_isub dL_law_23 ?_
    refine aw_eqi (y := 0) (by decide) ?_
    refine aw_icmp_gt (tgt := 988) dL_law_24 (by decide) (fun c_270 => ?_) (fun c_270 => ?_)
    rotate_left
    · exact absurd (by decide) c_270
    refine aw_iconst (v := 1) dL_law_988 (by decide) ?_
    exact aw_lawret dL_law_989 (Nat.le_of_ble_eq_true rfl) (Nat.le_of_ble_eq_true rfl)
  · skip
    refine aw_tableIn (off := 721) (tgt := 754) dL_law_33 (by decide) (by decide) (by decide) (by decide) ?_
    refine aw_aload_n dL_law_754 rfl ?_
    refine aw_aload_n dL_law_755 rfl ?_
    refine aw_iload_n dL_law_756 rfl ?_
    refine aw_iconst (v := 1) dL_law_757 (by decide) ?_
    refine aw_iadd dL_law_758 ?_
    refine aw_eqi (y := 1) (by decide) ?_
    refine aw_sld dL_law_759 rfl (vp_in_nI (n := 1) (N := 6) (by decide) (by decide)) ?_
    refine aw_eqi (y := xs 1) rfl ?_
    refine aw_aload_n dL_law_760 rfl ?_
    refine aw_iload_n dL_law_761 rfl ?_
    refine aw_iconst (v := 2) dL_law_762 (by decide) ?_
    refine aw_iadd dL_law_763 ?_
    refine aw_eqi (y := 2) (by decide) ?_
    refine aw_sld dL_law_764 rfl (vp_in_nI (n := 2) (N := 6) (by decide) (by decide)) ?_
    refine aw_eqi (y := xs 2) rfl ?_
    refine aw_callVi (J' := jX11_sentNext) (As := [.int (xs 1), .int (xs 2)]) (st := []) dL_law_765 tb_942 ok_X11_sentNext ⟨_, (I0.frame hI_1 (fun i hi => (fr_6 i hi).trans (va_up_ne _ _ (by omega)))).1⟩ (by omega) rfl rfl (m_sentNext l D b 133 V_7 (by decide) (I0.frame hI_1 (fun i hi => (fr_6 i hi).trans (va_up_ne _ _ (by omega)))) (xs 1) (xs 2)) rfl (Nat.le_of_ble_eq_true rfl) ⟨Nat.le_of_ble_eq_true rfl, Nat.le_of_ble_eq_true rfl, Nat.le_of_ble_eq_true rfl, Nat.le_of_ble_eq_true rfl⟩ (fun r_274 N_275 V_273 q_276 => ?_)
    obtain ⟨e_271, rfl, fr_272⟩ := q_276
    refine aw_aload_n dL_law_768 rfl ?_
    refine aw_aload_n dL_law_769 rfl ?_
    refine aw_iload_n dL_law_770 rfl ?_
    refine aw_iconst (v := 1) dL_law_771 (by decide) ?_
    refine aw_iadd dL_law_772 ?_
    refine aw_eqi (y := 1) (by decide) ?_
    refine aw_sld dL_law_773 rfl (vp_in_nI (n := 1) (N := 6) (by decide) (by decide)) ?_
    refine aw_eqi (y := xs 1) rfl ?_
    refine aw_aload_n dL_law_774 rfl ?_
    refine aw_iload_n dL_law_775 rfl ?_
    refine aw_iconst (v := 2) dL_law_776 (by decide) ?_
    refine aw_iadd dL_law_777 ?_
    refine aw_eqi (y := 2) (by decide) ?_
    refine aw_sld dL_law_778 rfl (vp_in_nI (n := 2) (N := 6) (by decide) (by decide)) ?_
    refine aw_eqi (y := xs 2) rfl ?_
    refine aw_callVi (J' := jX12_sentNext) (As := [.int (xs 1), .int (xs 2)]) (st := [.int r_274]) dL_law_779 tb_1564 ok_X12_sentNext ⟨_, (M0.frame hM_5 fr_272).1⟩ (by omega) rfl rfl (r_sentNext l D b 133 V_273 (by decide) (M0.frame hM_5 fr_272) (xs 1) (xs 2)) rfl (Nat.le_of_ble_eq_true rfl) ⟨Nat.le_of_ble_eq_true rfl, Nat.le_of_ble_eq_true rfl, Nat.le_of_ble_eq_true rfl, Nat.le_of_ble_eq_true rfl⟩ (fun r_279 N_280 V_278 q_281 => ?_)
    obtain ⟨e_277, rfl⟩ := q_281
    refine aw_icmp_eq (tgt := 982) dL_law_782 (by decide) (fun c_282 => ?_) (fun c_282 => ?_)
    rotate_left
    · exact absurd (e_271.trans e_277.symm) c_282
    refine aw_iinc (v := 6) (ls' := [some (.ref b9), some (.ref (b + 0)), some (.ref (b + 100)), some (.int 6)]) dL_law_982 rfl (by decide) (Nat.le_of_ble_eq_true rfl) rfl ?_
    refine aw_goto (tgt := 18) dL_law_985 (by decide) ?_
    refine aw_iload_n dL_law_18 rfl ?_
    refine aw_aload_n dL_law_19 rfl ?_
    refine aw_slen dL_law_20 rfl ?_
    refine aw_eqi (y := 6) rfl ?_
    refine aw_bipush (v := 6) dL_law_21 (by decide) ?_
    refine aw_isub dL_law_23 ?_
    refine aw_eqi (y := 0) (by decide) ?_
    refine aw_icmp_gt (tgt := 988) dL_law_24 (by decide) (fun c_283 => ?_) (fun c_283 => ?_)
    rotate_left
    · exact absurd (by decide) c_283
    refine aw_iconst (v := 1) dL_law_988 (by decide) ?_
    exact aw_lawret dL_law_989 (Nat.le_of_ble_eq_true rfl) (Nat.le_of_ble_eq_true rfl)
  · skip
    refine aw_tableIn (off := 754) (tgt := 787) dL_law_33 (by decide) (by decide) (by decide) (by decide) ?_
    refine aw_aload_n dL_law_787 rfl ?_
    refine aw_aload_n dL_law_788 rfl ?_
    refine aw_iload_n dL_law_789 rfl ?_
    refine aw_iconst (v := 1) dL_law_790 (by decide) ?_
    refine aw_iadd dL_law_791 ?_
    refine aw_eqi (y := 1) (by decide) ?_
    refine aw_sld dL_law_792 rfl (vp_in_nI (n := 1) (N := 6) (by decide) (by decide)) ?_
    refine aw_eqi (y := xs 1) rfl ?_
    refine aw_callVi (J' := jX11_guards) (As := [.int (xs 1)]) (st := []) dL_law_793 tb_954 ok_X11_guards ⟨_, (I0.frame hI_1 (fun i hi => (fr_6 i hi).trans (va_up_ne _ _ (by omega)))).1⟩ (by omega) rfl rfl (m_guards l D b 133 V_7 (by decide) (I0.frame hI_1 (fun i hi => (fr_6 i hi).trans (va_up_ne _ _ (by omega)))) (xs 1)) rfl (Nat.le_of_ble_eq_true rfl) ⟨Nat.le_of_ble_eq_true rfl, Nat.le_of_ble_eq_true rfl, Nat.le_of_ble_eq_true rfl, Nat.le_of_ble_eq_true rfl⟩ (fun r_287 N_288 V_286 q_289 => ?_)
    obtain ⟨e_284, rfl, fr_285⟩ := q_289
    refine aw_aload_n dL_law_796 rfl ?_
    refine aw_aload_n dL_law_797 rfl ?_
    refine aw_iload_n dL_law_798 rfl ?_
    refine aw_iconst (v := 1) dL_law_799 (by decide) ?_
    refine aw_iadd dL_law_800 ?_
    refine aw_eqi (y := 1) (by decide) ?_
    refine aw_sld dL_law_801 rfl (vp_in_nI (n := 1) (N := 6) (by decide) (by decide)) ?_
    refine aw_eqi (y := xs 1) rfl ?_
    refine aw_callVi (J' := jX12_guards) (As := [.int (xs 1)]) (st := [.int r_287]) dL_law_802 tb_1572 ok_X12_guards ⟨_, (M0.frame hM_5 fr_285).1⟩ (by omega) rfl rfl (r_guards l D b 133 V_286 (by decide) (M0.frame hM_5 fr_285) (xs 1)) rfl (Nat.le_of_ble_eq_true rfl) ⟨Nat.le_of_ble_eq_true rfl, Nat.le_of_ble_eq_true rfl, Nat.le_of_ble_eq_true rfl, Nat.le_of_ble_eq_true rfl⟩ (fun r_292 N_293 V_291 q_294 => ?_)
    obtain ⟨e_290, rfl⟩ := q_294
    refine aw_icmp_eq (tgt := 982) dL_law_805 (by decide) (fun c_295 => ?_) (fun c_295 => ?_)
    rotate_left
    · exact absurd (e_284.trans e_290.symm) c_295
    refine aw_iinc (v := 6) (ls' := [some (.ref b9), some (.ref (b + 0)), some (.ref (b + 100)), some (.int 6)]) dL_law_982 rfl (by decide) (Nat.le_of_ble_eq_true rfl) rfl ?_
    refine aw_goto (tgt := 18) dL_law_985 (by decide) ?_
    refine aw_iload_n dL_law_18 rfl ?_
    refine aw_aload_n dL_law_19 rfl ?_
    refine aw_slen dL_law_20 rfl ?_
    refine aw_eqi (y := 6) rfl ?_
    refine aw_bipush (v := 6) dL_law_21 (by decide) ?_
    refine aw_isub dL_law_23 ?_
    refine aw_eqi (y := 0) (by decide) ?_
    refine aw_icmp_gt (tgt := 988) dL_law_24 (by decide) (fun c_296 => ?_) (fun c_296 => ?_)
    rotate_left
    · exact absurd (by decide) c_296
    refine aw_iconst (v := 1) dL_law_988 (by decide) ?_
    exact aw_lawret dL_law_989 (Nat.le_of_ble_eq_true rfl) (Nat.le_of_ble_eq_true rfl)
  · skip
    refine aw_tableIn (off := 777) (tgt := 810) dL_law_33 (by decide) (by decide) (by decide) (by decide) ?_
    refine aw_aload_n dL_law_810 rfl ?_
    refine aw_aload_n dL_law_811 rfl ?_
    refine aw_iload_n dL_law_812 rfl ?_
    refine aw_iconst (v := 1) dL_law_813 (by decide) ?_
    refine aw_iadd dL_law_814 ?_
    refine aw_eqi (y := 1) (by decide) ?_
    refine aw_sld dL_law_815 rfl (vp_in_nI (n := 1) (N := 6) (by decide) (by decide)) ?_
    refine aw_eqi (y := xs 1) rfl ?_
    refine aw_aload_n dL_law_816 rfl ?_
    refine aw_iload_n dL_law_817 rfl ?_
    refine aw_iconst (v := 2) dL_law_818 (by decide) ?_
    refine aw_iadd dL_law_819 ?_
    refine aw_eqi (y := 2) (by decide) ?_
    refine aw_sld dL_law_820 rfl (vp_in_nI (n := 2) (N := 6) (by decide) (by decide)) ?_
    refine aw_eqi (y := xs 2) rfl ?_
    refine aw_aload_n dL_law_821 rfl ?_
    refine aw_iload_n dL_law_822 rfl ?_
    refine aw_iconst (v := 3) dL_law_823 (by decide) ?_
    refine aw_iadd dL_law_824 ?_
    refine aw_eqi (y := 3) (by decide) ?_
    refine aw_sld dL_law_825 rfl (vp_in_nI (n := 3) (N := 6) (by decide) (by decide)) ?_
    refine aw_eqi (y := xs 3) rfl ?_
    refine aw_callVl (J' := jX11_word) (As := [.int (xs 1), .int (xs 2), .int (xs 3)]) (st := []) dL_law_826 tb_973 ok_X11_word ⟨_, (I0.frame hI_1 (fun i hi => (fr_6 i hi).trans (va_up_ne _ _ (by omega)))).1⟩ (by omega) rfl rfl (m_word l D b 133 V_7 (by decide) (I0.frame hI_1 (fun i hi => (fr_6 i hi).trans (va_up_ne _ _ (by omega)))) (xs 1) (xs 2) (xs 3)) rfl (Nat.le_of_ble_eq_true rfl) ⟨Nat.le_of_ble_eq_true rfl, Nat.le_of_ble_eq_true rfl, Nat.le_of_ble_eq_true rfl, Nat.le_of_ble_eq_true rfl⟩ (fun r_300 N_301 V_299 q_302 => ?_)
    obtain ⟨e_297, rfl, fr_298⟩ := q_302
    refine aw_aload_n dL_law_829 rfl ?_
    refine aw_aload_n dL_law_830 rfl ?_
    refine aw_iload_n dL_law_831 rfl ?_
    refine aw_iconst (v := 1) dL_law_832 (by decide) ?_
    refine aw_iadd dL_law_833 ?_
    refine aw_eqi (y := 1) (by decide) ?_
    refine aw_sld dL_law_834 rfl (vp_in_nI (n := 1) (N := 6) (by decide) (by decide)) ?_
    refine aw_eqi (y := xs 1) rfl ?_
    refine aw_aload_n dL_law_835 rfl ?_
    refine aw_iload_n dL_law_836 rfl ?_
    refine aw_iconst (v := 2) dL_law_837 (by decide) ?_
    refine aw_iadd dL_law_838 ?_
    refine aw_eqi (y := 2) (by decide) ?_
    refine aw_sld dL_law_839 rfl (vp_in_nI (n := 2) (N := 6) (by decide) (by decide)) ?_
    refine aw_eqi (y := xs 2) rfl ?_
    refine aw_aload_n dL_law_840 rfl ?_
    refine aw_iload_n dL_law_841 rfl ?_
    refine aw_iconst (v := 3) dL_law_842 (by decide) ?_
    refine aw_iadd dL_law_843 ?_
    refine aw_eqi (y := 3) (by decide) ?_
    refine aw_sld dL_law_844 rfl (vp_in_nI (n := 3) (N := 6) (by decide) (by decide)) ?_
    refine aw_eqi (y := xs 3) rfl ?_
    refine aw_callVl (J' := jX12_word) (As := [.int (xs 1), .int (xs 2), .int (xs 3)]) (st := [.long r_300]) dL_law_845 tb_1588 ok_X12_word ⟨_, (M0.frame hM_5 fr_298).1⟩ (by omega) rfl rfl (r_word l D b 133 V_299 (by decide) (M0.frame hM_5 fr_298) (xs 1) (xs 2) (xs 3)) rfl (Nat.le_of_ble_eq_true rfl) ⟨Nat.le_of_ble_eq_true rfl, Nat.le_of_ble_eq_true rfl, Nat.le_of_ble_eq_true rfl, Nat.le_of_ble_eq_true rfl⟩ (fun r_305 N_306 V_304 q_307 => ?_)
    obtain ⟨e_303, rfl⟩ := q_307
    refine aw_lcmp dL_law_848 ?_
    refine aw_if_eq (tgt := 982) dL_law_849 (by decide) (fun c_308 => ?_) (fun c_308 => ?_)
    rotate_left
    · exact absurd (by rw [e_297, e_303]; exact fx_lcmp _) c_308
    refine aw_iinc (v := 6) (ls' := [some (.ref b9), some (.ref (b + 0)), some (.ref (b + 100)), some (.int 6)]) dL_law_982 rfl (by decide) (Nat.le_of_ble_eq_true rfl) rfl ?_
    refine aw_goto (tgt := 18) dL_law_985 (by decide) ?_
    refine aw_iload_n dL_law_18 rfl ?_
    refine aw_aload_n dL_law_19 rfl ?_
    refine aw_slen dL_law_20 rfl ?_
    refine aw_eqi (y := 6) rfl ?_
    refine aw_bipush (v := 6) dL_law_21 (by decide) ?_
    refine aw_isub dL_law_23 ?_
    refine aw_eqi (y := 0) (by decide) ?_
    refine aw_icmp_gt (tgt := 988) dL_law_24 (by decide) (fun c_309 => ?_) (fun c_309 => ?_)
    rotate_left
    · exact absurd (by decide) c_309
    refine aw_iconst (v := 1) dL_law_988 (by decide) ?_
    exact aw_lawret dL_law_989 (Nat.le_of_ble_eq_true rfl) (Nat.le_of_ble_eq_true rfl)
  · skip
    refine aw_tableIn (off := 821) (tgt := 854) dL_law_33 (by decide) (by decide) (by decide) (by decide) ?_
    refine aw_aload_n dL_law_854 rfl ?_
    refine aw_aload_n dL_law_855 rfl ?_
    refine aw_iload_n dL_law_856 rfl ?_
    refine aw_iconst (v := 1) dL_law_857 (by decide) ?_
    refine aw_iadd dL_law_858 ?_
    refine aw_eqi (y := 1) (by decide) ?_
    refine aw_sld dL_law_859 rfl (vp_in_nI (n := 1) (N := 6) (by decide) (by decide)) ?_
    refine aw_eqi (y := xs 1) rfl ?_
    refine aw_aload_n dL_law_860 rfl ?_
    refine aw_iload_n dL_law_861 rfl ?_
    refine aw_iconst (v := 2) dL_law_862 (by decide) ?_
    refine aw_iadd dL_law_863 ?_
    refine aw_eqi (y := 2) (by decide) ?_
    refine aw_sld dL_law_864 rfl (vp_in_nI (n := 2) (N := 6) (by decide) (by decide)) ?_
    refine aw_eqi (y := xs 2) rfl ?_
    refine aw_callVi (J' := jX11_rooms) (As := [.int (xs 1), .int (xs 2)]) (st := []) dL_law_865 tb_986 ok_X11_rooms ⟨_, (I0.frame hI_1 (fun i hi => (fr_6 i hi).trans (va_up_ne _ _ (by omega)))).1⟩ (by omega) rfl rfl (m_rooms l D b 133 V_7 (by decide) (I0.frame hI_1 (fun i hi => (fr_6 i hi).trans (va_up_ne _ _ (by omega)))) (xs 1) (xs 2)) rfl (Nat.le_of_ble_eq_true rfl) ⟨Nat.le_of_ble_eq_true rfl, Nat.le_of_ble_eq_true rfl, Nat.le_of_ble_eq_true rfl, Nat.le_of_ble_eq_true rfl⟩ (fun r_313 N_314 V_312 q_315 => ?_)
    obtain ⟨e_310, rfl, fr_311⟩ := q_315
    refine aw_aload_n dL_law_868 rfl ?_
    refine aw_aload_n dL_law_869 rfl ?_
    refine aw_iload_n dL_law_870 rfl ?_
    refine aw_iconst (v := 1) dL_law_871 (by decide) ?_
    refine aw_iadd dL_law_872 ?_
    refine aw_eqi (y := 1) (by decide) ?_
    refine aw_sld dL_law_873 rfl (vp_in_nI (n := 1) (N := 6) (by decide) (by decide)) ?_
    refine aw_eqi (y := xs 1) rfl ?_
    refine aw_aload_n dL_law_874 rfl ?_
    refine aw_iload_n dL_law_875 rfl ?_
    refine aw_iconst (v := 2) dL_law_876 (by decide) ?_
    refine aw_iadd dL_law_877 ?_
    refine aw_eqi (y := 2) (by decide) ?_
    refine aw_sld dL_law_878 rfl (vp_in_nI (n := 2) (N := 6) (by decide) (by decide)) ?_
    refine aw_eqi (y := xs 2) rfl ?_
    refine aw_callVi (J' := jX12_rooms) (As := [.int (xs 1), .int (xs 2)]) (st := [.int r_313]) dL_law_879 tb_1593 ok_X12_rooms ⟨_, (M0.frame hM_5 fr_311).1⟩ (by omega) rfl rfl (r_rooms l D b 133 V_312 (by decide) (M0.frame hM_5 fr_311) (xs 1) (xs 2)) rfl (Nat.le_of_ble_eq_true rfl) ⟨Nat.le_of_ble_eq_true rfl, Nat.le_of_ble_eq_true rfl, Nat.le_of_ble_eq_true rfl, Nat.le_of_ble_eq_true rfl⟩ (fun r_318 N_319 V_317 q_320 => ?_)
    obtain ⟨e_316, rfl⟩ := q_320
    refine aw_icmp_eq (tgt := 982) dL_law_882 (by decide) (fun c_321 => ?_) (fun c_321 => ?_)
    rotate_left
    · exact absurd (e_310.trans e_316.symm) c_321
    refine aw_iinc (v := 6) (ls' := [some (.ref b9), some (.ref (b + 0)), some (.ref (b + 100)), some (.int 6)]) dL_law_982 rfl (by decide) (Nat.le_of_ble_eq_true rfl) rfl ?_
    refine aw_goto (tgt := 18) dL_law_985 (by decide) ?_
    refine aw_iload_n dL_law_18 rfl ?_
    refine aw_aload_n dL_law_19 rfl ?_
    refine aw_slen dL_law_20 rfl ?_
    refine aw_eqi (y := 6) rfl ?_
    refine aw_bipush (v := 6) dL_law_21 (by decide) ?_
    refine aw_isub dL_law_23 ?_
    refine aw_eqi (y := 0) (by decide) ?_
    refine aw_icmp_gt (tgt := 988) dL_law_24 (by decide) (fun c_322 => ?_) (fun c_322 => ?_)
    rotate_left
    · exact absurd (by decide) c_322
    refine aw_iconst (v := 1) dL_law_988 (by decide) ?_
    exact aw_lawret dL_law_989 (Nat.le_of_ble_eq_true rfl) (Nat.le_of_ble_eq_true rfl)
  · skip
    refine aw_tableIn (off := 854) (tgt := 887) dL_law_33 (by decide) (by decide) (by decide) (by decide) ?_
    refine aw_aload_n dL_law_887 rfl ?_
    refine aw_aload_n dL_law_888 rfl ?_
    refine aw_iload_n dL_law_889 rfl ?_
    refine aw_iconst (v := 1) dL_law_890 (by decide) ?_
    refine aw_iadd dL_law_891 ?_
    refine aw_eqi (y := 1) (by decide) ?_
    refine aw_sld dL_law_892 rfl (vp_in_nI (n := 1) (N := 6) (by decide) (by decide)) ?_
    refine aw_eqi (y := xs 1) rfl ?_
    refine aw_callVi (J' := jX11_seed) (As := [.int (xs 1)]) (st := []) dL_law_893 tb_999 ok_X11_seed ⟨_, (I0.frame hI_1 (fun i hi => (fr_6 i hi).trans (va_up_ne _ _ (by omega)))).1⟩ (by omega) rfl rfl (m_seed l D b 133 V_7 (by decide) (I0.frame hI_1 (fun i hi => (fr_6 i hi).trans (va_up_ne _ _ (by omega)))) (xs 1)) rfl (Nat.le_of_ble_eq_true rfl) ⟨Nat.le_of_ble_eq_true rfl, Nat.le_of_ble_eq_true rfl, Nat.le_of_ble_eq_true rfl, Nat.le_of_ble_eq_true rfl⟩ (fun r_326 N_327 V_325 q_328 => ?_)
    obtain ⟨e_323, rfl, fr_324⟩ := q_328
    refine aw_aload_n dL_law_896 rfl ?_
    refine aw_aload_n dL_law_897 rfl ?_
    refine aw_iload_n dL_law_898 rfl ?_
    refine aw_iconst (v := 1) dL_law_899 (by decide) ?_
    refine aw_iadd dL_law_900 ?_
    refine aw_eqi (y := 1) (by decide) ?_
    refine aw_sld dL_law_901 rfl (vp_in_nI (n := 1) (N := 6) (by decide) (by decide)) ?_
    refine aw_eqi (y := xs 1) rfl ?_
    refine aw_callVi (J' := jX12_seed) (As := [.int (xs 1)]) (st := [.int r_326]) dL_law_902 tb_1601 ok_X12_seed ⟨_, (M0.frame hM_5 fr_324).1⟩ (by omega) rfl rfl (r_seed l D b 133 V_325 (by decide) (M0.frame hM_5 fr_324) (xs 1)) rfl (Nat.le_of_ble_eq_true rfl) ⟨Nat.le_of_ble_eq_true rfl, Nat.le_of_ble_eq_true rfl, Nat.le_of_ble_eq_true rfl, Nat.le_of_ble_eq_true rfl⟩ (fun r_331 N_332 V_330 q_333 => ?_)
    obtain ⟨e_329, rfl⟩ := q_333
    refine aw_icmp_eq (tgt := 982) dL_law_905 (by decide) (fun c_334 => ?_) (fun c_334 => ?_)
    rotate_left
    · exact absurd (e_323.trans e_329.symm) c_334
    refine aw_iinc (v := 6) (ls' := [some (.ref b9), some (.ref (b + 0)), some (.ref (b + 100)), some (.int 6)]) dL_law_982 rfl (by decide) (Nat.le_of_ble_eq_true rfl) rfl ?_
    refine aw_goto (tgt := 18) dL_law_985 (by decide) ?_
    refine aw_iload_n dL_law_18 rfl ?_
    refine aw_aload_n dL_law_19 rfl ?_
    refine aw_slen dL_law_20 rfl ?_
    refine aw_eqi (y := 6) rfl ?_
    refine aw_bipush (v := 6) dL_law_21 (by decide) ?_
    refine aw_isub dL_law_23 ?_
    refine aw_eqi (y := 0) (by decide) ?_
    refine aw_icmp_gt (tgt := 988) dL_law_24 (by decide) (fun c_335 => ?_) (fun c_335 => ?_)
    rotate_left
    · exact absurd (by decide) c_335
    refine aw_iconst (v := 1) dL_law_988 (by decide) ?_
    exact aw_lawret dL_law_989 (Nat.le_of_ble_eq_true rfl) (Nat.le_of_ble_eq_true rfl)
  · skip
    refine aw_tableIn (off := 877) (tgt := 910) dL_law_33 (by decide) (by decide) (by decide) (by decide) ?_
    refine aw_aload_n dL_law_910 rfl ?_
    refine aw_callVi (J' := jX11_keep) (As := []) (st := []) dL_law_911 tb_1003 ok_X11_keep ⟨_, (I0.frame hI_1 (fun i hi => (fr_6 i hi).trans (va_up_ne _ _ (by omega)))).1⟩ (by omega) rfl rfl (m_keep l D b 133 V_7 (by decide) (I0.frame hI_1 (fun i hi => (fr_6 i hi).trans (va_up_ne _ _ (by omega))))) rfl (Nat.le_of_ble_eq_true rfl) ⟨Nat.le_of_ble_eq_true rfl, Nat.le_of_ble_eq_true rfl, Nat.le_of_ble_eq_true rfl, Nat.le_of_ble_eq_true rfl⟩ (fun r_339 N_340 V_338 q_341 => ?_)
    obtain ⟨e_336, rfl, fr_337⟩ := q_341
    refine aw_aload_n dL_law_914 rfl ?_
    refine aw_callVi (J' := jX12_keep) (As := []) (st := [.int r_339]) dL_law_915 tb_1605 ok_X12_keep ⟨_, (M0.frame hM_5 fr_337).1⟩ (by omega) rfl rfl (r_keep l D b 133 V_338 (by decide) (M0.frame hM_5 fr_337)) rfl (Nat.le_of_ble_eq_true rfl) ⟨Nat.le_of_ble_eq_true rfl, Nat.le_of_ble_eq_true rfl, Nat.le_of_ble_eq_true rfl, Nat.le_of_ble_eq_true rfl⟩ (fun r_344 N_345 V_343 q_346 => ?_)
    obtain ⟨e_342, rfl⟩ := q_346
    refine aw_icmp_eq (tgt := 982) dL_law_918 (by decide) (fun c_347 => ?_) (fun c_347 => ?_)
    rotate_left
    · exact absurd (e_336.trans e_342.symm) c_347
    refine aw_iinc (v := 6) (ls' := [some (.ref b9), some (.ref (b + 0)), some (.ref (b + 100)), some (.int 6)]) dL_law_982 rfl (by decide) (Nat.le_of_ble_eq_true rfl) rfl ?_
    refine aw_goto (tgt := 18) dL_law_985 (by decide) ?_
    refine aw_iload_n dL_law_18 rfl ?_
    refine aw_aload_n dL_law_19 rfl ?_
    refine aw_slen dL_law_20 rfl ?_
    refine aw_eqi (y := 6) rfl ?_
    refine aw_bipush (v := 6) dL_law_21 (by decide) ?_
    refine aw_isub dL_law_23 ?_
    refine aw_eqi (y := 0) (by decide) ?_
    refine aw_icmp_gt (tgt := 988) dL_law_24 (by decide) (fun c_348 => ?_) (fun c_348 => ?_)
    rotate_left
    · exact absurd (by decide) c_348
    refine aw_iconst (v := 1) dL_law_988 (by decide) ?_
    exact aw_lawret dL_law_989 (Nat.le_of_ble_eq_true rfl) (Nat.le_of_ble_eq_true rfl)
  · skip
    refine aw_tableIn (off := 890) (tgt := 923) dL_law_33 (by decide) (by decide) (by decide) (by decide) ?_
    refine aw_aload_n dL_law_923 rfl ?_
    refine aw_callVi (J' := jX11_undo) (As := []) (st := []) dL_law_924 tb_1007 ok_X11_undo ⟨_, (I0.frame hI_1 (fun i hi => (fr_6 i hi).trans (va_up_ne _ _ (by omega)))).1⟩ (by omega) rfl rfl (m_undo l D b 133 V_7 (by decide) (I0.frame hI_1 (fun i hi => (fr_6 i hi).trans (va_up_ne _ _ (by omega))))) rfl (Nat.le_of_ble_eq_true rfl) ⟨Nat.le_of_ble_eq_true rfl, Nat.le_of_ble_eq_true rfl, Nat.le_of_ble_eq_true rfl, Nat.le_of_ble_eq_true rfl⟩ (fun r_352 N_353 V_351 q_354 => ?_)
    obtain ⟨e_349, rfl, fr_350⟩ := q_354
    refine aw_aload_n dL_law_927 rfl ?_
    refine aw_callVi (J' := jX12_undo) (As := []) (st := [.int r_352]) dL_law_928 tb_1609 ok_X12_undo ⟨_, (M0.frame hM_5 fr_350).1⟩ (by omega) rfl rfl (r_undo l D b 133 V_351 (by decide) (M0.frame hM_5 fr_350)) rfl (Nat.le_of_ble_eq_true rfl) ⟨Nat.le_of_ble_eq_true rfl, Nat.le_of_ble_eq_true rfl, Nat.le_of_ble_eq_true rfl, Nat.le_of_ble_eq_true rfl⟩ (fun r_357 N_358 V_356 q_359 => ?_)
    obtain ⟨e_355, rfl⟩ := q_359
    refine aw_icmp_eq (tgt := 982) dL_law_931 (by decide) (fun c_360 => ?_) (fun c_360 => ?_)
    rotate_left
    · exact absurd (e_349.trans e_355.symm) c_360
    refine aw_iinc (v := 6) (ls' := [some (.ref b9), some (.ref (b + 0)), some (.ref (b + 100)), some (.int 6)]) dL_law_982 rfl (by decide) (Nat.le_of_ble_eq_true rfl) rfl ?_
    refine aw_goto (tgt := 18) dL_law_985 (by decide) ?_
    refine aw_iload_n dL_law_18 rfl ?_
    refine aw_aload_n dL_law_19 rfl ?_
    refine aw_slen dL_law_20 rfl ?_
    refine aw_eqi (y := 6) rfl ?_
    refine aw_bipush (v := 6) dL_law_21 (by decide) ?_
    refine aw_isub dL_law_23 ?_
    refine aw_eqi (y := 0) (by decide) ?_
    refine aw_icmp_gt (tgt := 988) dL_law_24 (by decide) (fun c_361 => ?_) (fun c_361 => ?_)
    rotate_left
    · exact absurd (by decide) c_361
    refine aw_iconst (v := 1) dL_law_988 (by decide) ?_
    exact aw_lawret dL_law_989 (Nat.le_of_ble_eq_true rfl) (Nat.le_of_ble_eq_true rfl)
  · skip
    refine aw_tableIn (off := 903) (tgt := 936) dL_law_33 (by decide) (by decide) (by decide) (by decide) ?_
    refine aw_aload_n dL_law_936 rfl ?_
    refine aw_aload_n dL_law_937 rfl ?_
    refine aw_iload_n dL_law_938 rfl ?_
    refine aw_iconst (v := 1) dL_law_939 (by decide) ?_
    refine aw_iadd dL_law_940 ?_
    refine aw_eqi (y := 1) (by decide) ?_
    refine aw_sld dL_law_941 rfl (vp_in_nI (n := 1) (N := 6) (by decide) (by decide)) ?_
    refine aw_eqi (y := xs 1) rfl ?_
    refine aw_callVi (J' := jX11_check) (As := [.int (xs 1)]) (st := []) dL_law_942 tb_1015 ok_X11_check ⟨_, (I0.frame hI_1 (fun i hi => (fr_6 i hi).trans (va_up_ne _ _ (by omega)))).1⟩ (by omega) rfl rfl (m_check l D b 133 V_7 (by decide) (I0.frame hI_1 (fun i hi => (fr_6 i hi).trans (va_up_ne _ _ (by omega)))) (xs 1)) rfl (Nat.le_of_ble_eq_true rfl) ⟨Nat.le_of_ble_eq_true rfl, Nat.le_of_ble_eq_true rfl, Nat.le_of_ble_eq_true rfl, Nat.le_of_ble_eq_true rfl⟩ (fun r_365 N_366 V_364 q_367 => ?_)
    obtain ⟨e_362, rfl, fr_363⟩ := q_367
    refine aw_aload_n dL_law_945 rfl ?_
    refine aw_aload_n dL_law_946 rfl ?_
    refine aw_iload_n dL_law_947 rfl ?_
    refine aw_iconst (v := 1) dL_law_948 (by decide) ?_
    refine aw_iadd dL_law_949 ?_
    refine aw_eqi (y := 1) (by decide) ?_
    refine aw_sld dL_law_950 rfl (vp_in_nI (n := 1) (N := 6) (by decide) (by decide)) ?_
    refine aw_eqi (y := xs 1) rfl ?_
    refine aw_callVi (J' := jX12_check) (As := [.int (xs 1)]) (st := [.int r_365]) dL_law_951 tb_1613 ok_X12_check ⟨_, (M0.frame hM_5 fr_363).1⟩ (by omega) rfl rfl (r_check l D b 133 V_364 (by decide) (M0.frame hM_5 fr_363) (xs 1)) rfl (Nat.le_of_ble_eq_true rfl) ⟨Nat.le_of_ble_eq_true rfl, Nat.le_of_ble_eq_true rfl, Nat.le_of_ble_eq_true rfl, Nat.le_of_ble_eq_true rfl⟩ (fun r_370 N_371 V_369 q_372 => ?_)
    obtain ⟨e_368, rfl⟩ := q_372
    refine aw_icmp_eq (tgt := 982) dL_law_954 (by decide) (fun c_373 => ?_) (fun c_373 => ?_)
    rotate_left
    · exact absurd (e_362.trans e_368.symm) c_373
    refine aw_iinc (v := 6) (ls' := [some (.ref b9), some (.ref (b + 0)), some (.ref (b + 100)), some (.int 6)]) dL_law_982 rfl (by decide) (Nat.le_of_ble_eq_true rfl) rfl ?_
    refine aw_goto (tgt := 18) dL_law_985 (by decide) ?_
    refine aw_iload_n dL_law_18 rfl ?_
    refine aw_aload_n dL_law_19 rfl ?_
    refine aw_slen dL_law_20 rfl ?_
    refine aw_eqi (y := 6) rfl ?_
    refine aw_bipush (v := 6) dL_law_21 (by decide) ?_
    refine aw_isub dL_law_23 ?_
    refine aw_eqi (y := 0) (by decide) ?_
    refine aw_icmp_gt (tgt := 988) dL_law_24 (by decide) (fun c_374 => ?_) (fun c_374 => ?_)
    rotate_left
    · exact absurd (by decide) c_374
    refine aw_iconst (v := 1) dL_law_988 (by decide) ?_
    exact aw_lawret dL_law_989 (Nat.le_of_ble_eq_true rfl) (Nat.le_of_ble_eq_true rfl)
  · skip
    refine aw_tableIn (off := 926) (tgt := 959) dL_law_33 (by decide) (by decide) (by decide) (by decide) ?_
    refine aw_aload_n dL_law_959 rfl ?_
    refine aw_aload_n dL_law_960 rfl ?_
    refine aw_iload_n dL_law_961 rfl ?_
    refine aw_iconst (v := 1) dL_law_962 (by decide) ?_
    refine aw_iadd dL_law_963 ?_
    refine aw_eqi (y := 1) (by decide) ?_
    refine aw_sld dL_law_964 rfl (vp_in_nI (n := 1) (N := 6) (by decide) (by decide)) ?_
    refine aw_eqi (y := xs 1) rfl ?_
    refine aw_callVi (J' := jX11_count) (As := [.int (xs 1)]) (st := []) dL_law_965 tb_1019 ok_X11_count ⟨_, (I0.frame hI_1 (fun i hi => (fr_6 i hi).trans (va_up_ne _ _ (by omega)))).1⟩ (by omega) rfl rfl (m_count l D b 133 V_7 (by decide) (I0.frame hI_1 (fun i hi => (fr_6 i hi).trans (va_up_ne _ _ (by omega)))) (xs 1)) rfl (Nat.le_of_ble_eq_true rfl) ⟨Nat.le_of_ble_eq_true rfl, Nat.le_of_ble_eq_true rfl, Nat.le_of_ble_eq_true rfl, Nat.le_of_ble_eq_true rfl⟩ (fun r_378 N_379 V_377 q_380 => ?_)
    obtain ⟨e_375, rfl, fr_376⟩ := q_380
    refine aw_aload_n dL_law_968 rfl ?_
    refine aw_aload_n dL_law_969 rfl ?_
    refine aw_iload_n dL_law_970 rfl ?_
    refine aw_iconst (v := 1) dL_law_971 (by decide) ?_
    refine aw_iadd dL_law_972 ?_
    refine aw_eqi (y := 1) (by decide) ?_
    refine aw_sld dL_law_973 rfl (vp_in_nI (n := 1) (N := 6) (by decide) (by decide)) ?_
    refine aw_eqi (y := xs 1) rfl ?_
    refine aw_callVi (J' := jX12_count) (As := [.int (xs 1)]) (st := [.int r_378]) dL_law_974 tb_1617 ok_X12_count ⟨_, (M0.frame hM_5 fr_376).1⟩ (by omega) rfl rfl (r_count l D b 133 V_377 (by decide) (M0.frame hM_5 fr_376) (xs 1)) rfl (Nat.le_of_ble_eq_true rfl) ⟨Nat.le_of_ble_eq_true rfl, Nat.le_of_ble_eq_true rfl, Nat.le_of_ble_eq_true rfl, Nat.le_of_ble_eq_true rfl⟩ (fun r_383 N_384 V_382 q_385 => ?_)
    obtain ⟨e_381, rfl⟩ := q_385
    refine aw_icmp_eq (tgt := 982) dL_law_977 (by decide) (fun c_386 => ?_) (fun c_386 => ?_)
    rotate_left
    · exact absurd (e_375.trans e_381.symm) c_386
    refine aw_iinc (v := 6) (ls' := [some (.ref b9), some (.ref (b + 0)), some (.ref (b + 100)), some (.int 6)]) dL_law_982 rfl (by decide) (Nat.le_of_ble_eq_true rfl) rfl ?_
    refine aw_goto (tgt := 18) dL_law_985 (by decide) ?_
    refine aw_iload_n dL_law_18 rfl ?_
    refine aw_aload_n dL_law_19 rfl ?_
    refine aw_slen dL_law_20 rfl ?_
    refine aw_eqi (y := 6) rfl ?_
    refine aw_bipush (v := 6) dL_law_21 (by decide) ?_
    refine aw_isub dL_law_23 ?_
    refine aw_eqi (y := 0) (by decide) ?_
    refine aw_icmp_gt (tgt := 988) dL_law_24 (by decide) (fun c_387 => ?_) (fun c_387 => ?_)
    rotate_left
    · exact absurd (by decide) c_387
    refine aw_iconst (v := 1) dL_law_988 (by decide) ?_
    exact aw_lawret dL_law_989 (Nat.le_of_ble_eq_true rfl) (Nat.le_of_ble_eq_true rfl)
  · skip
    refine aw_tableOut (tgt := 982) dL_law_33 (Or.inr (by decide)) (by decide) ?_
    refine aw_iinc (v := 6) (ls' := [some (.ref b9), some (.ref (b + 0)), some (.ref (b + 100)), some (.int 6)]) dL_law_982 rfl (by decide) (Nat.le_of_ble_eq_true rfl) rfl ?_
    refine aw_goto (tgt := 18) dL_law_985 (by decide) ?_
    refine aw_iload_n dL_law_18 rfl ?_
    refine aw_aload_n dL_law_19 rfl ?_
    refine aw_slen dL_law_20 rfl ?_
    refine aw_eqi (y := 6) rfl ?_
    refine aw_bipush (v := 6) dL_law_21 (by decide) ?_
    refine aw_isub dL_law_23 ?_
    refine aw_eqi (y := 0) (by decide) ?_
    refine aw_icmp_gt (tgt := 988) dL_law_24 (by decide) (fun c_388 => ?_) (fun c_388 => ?_)
    rotate_left
    · exact absurd (by decide) c_388
    refine aw_iconst (v := 1) dL_law_988 (by decide) ?_
    exact aw_lawret dL_law_989 (Nat.le_of_ble_eq_true rfl) (Nat.le_of_ble_eq_true rfl)
  · skip
    refine aw_tableOut (tgt := 982) dL_law_33 (Or.inr (by decide)) (by decide) ?_
    refine aw_iinc (v := 6) (ls' := [some (.ref b9), some (.ref (b + 0)), some (.ref (b + 100)), some (.int 6)]) dL_law_982 rfl (by decide) (Nat.le_of_ble_eq_true rfl) rfl ?_
    refine aw_goto (tgt := 18) dL_law_985 (by decide) ?_
    refine aw_iload_n dL_law_18 rfl ?_
    refine aw_aload_n dL_law_19 rfl ?_
    refine aw_slen dL_law_20 rfl ?_
    refine aw_eqi (y := 6) rfl ?_
    refine aw_bipush (v := 6) dL_law_21 (by decide) ?_
    refine aw_isub dL_law_23 ?_
    refine aw_eqi (y := 0) (by decide) ?_
    refine aw_icmp_gt (tgt := 988) dL_law_24 (by decide) (fun c_389 => ?_) (fun c_389 => ?_)
    rotate_left
    · exact absurd (by decide) c_389
    refine aw_iconst (v := 1) dL_law_988 (by decide) ?_
    exact aw_lawret dL_law_989 (Nat.le_of_ble_eq_true rfl) (Nat.le_of_ble_eq_true rfl)
  · skip
    refine aw_tableOut (tgt := 982) dL_law_33 (Or.inr (by decide)) (by decide) ?_
    refine aw_iinc (v := 6) (ls' := [some (.ref b9), some (.ref (b + 0)), some (.ref (b + 100)), some (.int 6)]) dL_law_982 rfl (by decide) (Nat.le_of_ble_eq_true rfl) rfl ?_
    refine aw_goto (tgt := 18) dL_law_985 (by decide) ?_
    refine aw_iload_n dL_law_18 rfl ?_
    refine aw_aload_n dL_law_19 rfl ?_
    refine aw_slen dL_law_20 rfl ?_
    refine aw_eqi (y := 6) rfl ?_
    refine aw_bipush (v := 6) dL_law_21 (by decide) ?_
    refine aw_isub dL_law_23 ?_
    refine aw_eqi (y := 0) (by decide) ?_
    refine aw_icmp_gt (tgt := 988) dL_law_24 (by decide) (fun c_390 => ?_) (fun c_390 => ?_)
    rotate_left
    · exact absurd (by decide) c_390
    refine aw_iconst (v := 1) dL_law_988 (by decide) ?_
    exact aw_lawret dL_law_989 (Nat.le_of_ble_eq_true rfl) (Nat.le_of_ble_eq_true rfl)
