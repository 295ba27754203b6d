/-! THE CLAIM OUT OF ONE WALK OF THE LAW'S BODY. Your part is whole_start (and what it stands on); all else here is the same for every law, but numbers. -/
def R_law : String := "FearLocksLaw"
def lw_P (b : Addr) (xs : List Int32) (args : Array Value) (s : State) : Prop := args = #[.ref b] ∧ s.IntsAt b xs ∧ xs.length ≤ 3072 ∧ (Jvm.Cond.and given_1 narrow_1).before args s = true
def lw_Q (_ : Array Value) (s : State) (o : Outcome) (t : State) : Prop := o = .returned (some (.int 1)) ∧ Framed s o t [] 600000 7302250
def lw_Z (below : List Frame) (a : Array Value) (s : State) : State → Prop := fun t => ∃ o, t.status = .running ∧ Ended t below o ∧ lw_Q a s o t
/-- the law's own end, with 1 on the stack, nothing written that was there before, its room as the claim has it -/
theorem lw_ret {p : Program} {l : Launch} {e : Env} {s : State} {m : MethodId} {below : List Frame} {meth : Method} {c : Code} {args : Array Value} (hx : p.tables.exec = Jvm.exec) (hb : c.code = code) (hr : meth.sig.returnType = ret) (hlocks : meth.locks = false) {pc : Nat} {H : Heap} {ls : Array Slot} (hdg : decode code pc = .ok (.ireturn, 1)) : W p l e room_1 s m args below meth c H [] 600000 7302250 (lw_Z below args s) (F0 m pc ls [.int 1]) := by
  intro T hT X
  obtain ⟨fs, hret, hrun, hended, hW, hframe⟩ := X.leave (v := some (.int 1)) (hlocks := hlocks) (fun h => by rw [hr] at h; cases h)
  have hmeth' : T.vm.method? m = some meth := X.method'
  refine ⟨T.setFrames fs, ?_, .returned (some (.int 1)), hrun, hended, rfl, ⟨_, rfl⟩, hW, hframe⟩
  jvm_step X.here [X.here.top, hx, hb, hdg, hmeth', hr, ret, narrow_b1]
  (try refine ⟨rfl, ?_⟩); (try refine ⟨rfl, ?_⟩)
  first | (intro acts; rw [hret _ acts rfl rfl rfl]) | rw [hret _ _ rfl rfl rfl]
  exact Steps.refl _

def jL_law : Md := (yL_law, cL_law, 4, some .boolean)
def lawQ (b : Nat) : Array Value → List Frame → State → State → Prop := fun args below s t => s.heap.size ≤ b → lw_Z below args s t
theorem aw_lawret {l : Launch} {D : va_G} {b : Nat} {X : Sc} {pc : Nat} {ls : List (Option Value)} {N : Nat} {V : Wd} {k n : Nat} (hd : decode code pc = .ok (.ireturn, 1)) (hk : k ≤ 600000) (hn : n ≤ 7302250) : AW l D b jL_law room_1 X (lawQ b) pc ls [.int 1] N V k n := by
  intro p e s m args below meth c H locs arr hC hL hA hS T hT X9
  by_cases hsz : s.heap.size ≤ b
  · obtain ⟨t, a1, q⟩ := va_forget (fun q hq => Nat.le_trans hsz (hS.2.2 q hq)) (W.widen hk hn (lw_ret (args := args) hC.1 hC.2.1 hC.2.2.1 hC.2.2.2.2.2.2.1 (H := H) (ls := arr) hd)) T hT X9
    exact ⟨t, a1, fun _ => q⟩
  · exact ⟨_, Steps.refl _, fun h => absurd h hsz⟩

theorem fx_and31 (x : Int32) : ∃ j : Nat, j < 32 ∧ x &&& 31 = nI j := by
  have e : x = nI x.toBitVec.toNat := by
    apply Int32.toBitVec_inj.mp
    simp [nI]
  refine ⟨x.toBitVec.toNat &&& 31, Nat.lt_of_le_of_lt Nat.and_le_right (by decide), ?_⟩
  rw [← fx_andI, ← e]; rfl
theorem fx_lcmp (x : Int64) : lg_cmp x x = 0 := by
  unfold lg_cmp; simp

theorem fx_L6 : ∀ L : Nat, L < 6 → nI L - 6 < 0 := by decide
theorem fx_law6 {M : Nat} : nI (M + 6) - 6 = nI M := by
  rw [← nI_add]; show nI M + 6 - 6 = nI M
  exact Int32.add_sub_cancel _ _
theorem aw_pop2 {l : Launch} {D : va_G} {b : Nat} {J : Md} {R : Room} {X : Sc} {FQ : Array Value → List Frame → State → State → Prop} {pc : Nat} {ls : List (Option Value)} {st : List Value} {N : Nat} {V : Wd} {k n : Nat} {va : Value} (hd : decode J.2.1 pc = .ok (.pop2, 1)) (hv : va.category = 2) (h : AW l D b J R X FQ (pc + 1) ls (st) N V k n) : AW l D b J R X FQ pc ls (va :: st) N V k n := fun p e s m args below meth c H locs arr hC hL hA hS => lv_pop2_2 hC.1 hC.2.1 hd hv (h p e s m args below meth c H locs arr hC hL hA hS)
theorem CW.o0 {D : va_G} {b : Nat} {V : Wd} (h : CW D b V) : ∃ fs, V 0 = cO 10 fs := by
  obtain ⟨_, _, _, e, _⟩ := h 0 _ rfl; exact ⟨_, e⟩
theorem CR.o100 {D : va_G} {b cl : Nat} {V : Wd} (h : CR D b cl V) : ∃ fs, V 100 = cO 11 fs := by
  obtain ⟨_, _, _, _, _, _, _, _, _, _, _, _, _, _, _, _, _, _, _, e, _⟩ := h 0 _ rfl; exact ⟨_, e⟩
theorem CR.fr {D : va_G} {b cl : Nat} {V V' : Wd} (h : CR D b cl V) (f : ∀ i, 100 ≤ i → i < 133 → V' i = V i) : CR D b cl V' := by
  intro i P hi
  have := (List.getElem?_eq_some_iff.mp hi).1
  rw [ctR_len] at this
  rw [f (100 + i) (by omega) (by omega)]; exact h i P hi

theorem nw_L_10 : fx_nw RL 10 11 [.null, .null, .null, .null, .null, .null, .null, .null, .null, .int 0, .int 0, .int 0, .null, .int 0, .int 0, .int 0, .int 0, .int 0, .int 0, .int 0, .int 0, .int 0, .int 0, .null, .null, .null, .null, .null, .null, .null, .null, .null, .null, .null, .null, .null, .int 0, .int 0, .int 0, .int 0, .null, .null, .null, .null, .null, .int 0, .int 0, .null, .null, .null, .null, .int 0] := ⟨RX12, TX12, 52, tyX12, rfl, uw_X12, tyX12_ok, tb_1032, tb_1033, tb_10, by decide +kernel, rfl⟩

theorem nw_L_7 : fx_nw RL 7 10 [.null, .null, .null, .null, .int 0, .null, .null, .null, .null, .null, .null] := ⟨RX11, TX11, 11, tyX11, rfl, uw_X11, tyX11_ok, tb_21, tb_22, tb_1, by decide +kernel, rfl⟩

set_option maxHeartbeats 20000000 in
set_option maxRecDepth 100000 in
theorem law_loop (l : Launch) (D : va_G) (b b9 : Nat) (xs : Nat → Int32) (M : Nat) (hM : M + 6 ≤ 3072) : ∀ (m i N cl : Nat) (V : Wd) (k n : Nat), m = M + 6 - i → i ≤ M + 6 → k ≤ 200 + i → n ≤ 70000 + 3 * i → 133 ≤ N → CW D b V → CR D b cl V → WF D cl V → AW l D b jL_law room_1 (some (b9, (M + 6), xs)) (lawQ b) 18 [some (.ref b9), some (.ref (b + 0)), some (.ref (b + 100)), some (.int (nI i))] [] N V k n := by
  intro m; refine Nat.strongRecOn m ?_
  intro m mih i N cl V k n hm hi hk hn hN hcw hcr hwf
  refine aw_iload_n dL_law_18 rfl ?_
  refine aw_aload_n dL_law_19 rfl ?_
  refine aw_slen dL_law_20 rfl ?_
  refine aw_eqi (y := (nI (M + 6))) rfl ?_
  refine aw_bipush (v := 6) dL_law_21 (by decide) ?_
  refine aw_isub dL_law_23 ?_
  refine aw_eqi (y := (nI M)) fx_law6 ?_
  refine aw_icmp_gt (tgt := 988) dL_law_24 (by decide) (fun c_1 => ?_) (fun c_1 => ?_)
  · skip
    have nc_1 : M < i := (nI_ltI (a := M) (b := i) (by omega) (by omega)).mp c_1
    refine aw_iconst (v := 1) dL_law_988 (by decide) ?_
    exact aw_lawret dL_law_989 (by omega) (by omega)
  · skip
    have nc_1 : ¬ (M < i) := fun z => c_1 ((nI_ltI (a := M) (b := i) (by omega) (by omega)).mpr z)
    refine aw_aload_n dL_law_27 rfl ?_
    refine aw_iload_n dL_law_28 rfl ?_
    refine aw_sld dL_law_29 rfl (vp_in_nI (n := i) (by omega) (by omega)) ?_
    refine aw_bipush (v := 31) dL_law_30 (by decide) ?_
    refine aw_iand dL_law_32 ?_
    obtain ⟨j, hj, ej⟩ := fx_and31 (xs ((nI i)).toNatClampNeg)
    refine aw_eqi ej ?_
    have hj32 : j = 0 ∨ j = 1 ∨ j = 2 ∨ j = 3 ∨ j = 4 ∨ j = 5 ∨ j = 6 ∨ j = 7 ∨ j = 8 ∨ j = 9 ∨ j = 10 ∨ j = 11 ∨ j = 12 ∨ j = 13 ∨ j = 14 ∨ j = 15 ∨ j = 16 ∨ j = 17 ∨ j = 18 ∨ j = 19 ∨ j = 20 ∨ j = 21 ∨ j = 22 ∨ j = 23 ∨ j = 24 ∨ j = 25 ∨ j = 26 ∨ j = 27 ∨ j = 28 ∨ j = 29 ∨ j = 30 ∨ j = 31 := by omega
    rcases hj32 with rfl | rfl | rfl | rfl | rfl | rfl | rfl | rfl | rfl | rfl | rfl | rfl | rfl | rfl | rfl | rfl | rfl | rfl | rfl | rfl | rfl | rfl | rfl | rfl | rfl | rfl | rfl | rfl | rfl | rfl | rfl | rfl
    · skip
      refine aw_tableIn (off := 131) (tgt := 164) dL_law_33 (by decide) (by decide) (by decide) (by decide) ?_
      refine aw_aload_n dL_law_164 rfl ?_
      refine aw_aload_n dL_law_165 rfl ?_
      refine aw_iload_n dL_law_166 rfl ?_
      refine aw_iconst (v := 1) dL_law_167 (by decide) ?_
      refine aw_iadd dL_law_168 ?_
      refine aw_eqi (y := nI (i + 1)) (nI_add _ _) ?_
      refine aw_sld dL_law_169 rfl (vp_in_nI (n := (i + 1)) (by omega) (by omega)) ?_
      refine aw_aload_n dL_law_170 rfl ?_
      refine aw_iload_n dL_law_171 rfl ?_
      refine aw_iconst (v := 2) dL_law_172 (by decide) ?_
      refine aw_iadd dL_law_173 ?_
      refine aw_eqi (y := nI (i + 2)) (nI_add _ _) ?_
      refine aw_sld dL_law_174 rfl (vp_in_nI (n := (i + 2)) (by omega) (by omega)) ?_
      refine aw_aload_n dL_law_175 rfl ?_
      refine aw_iload_n dL_law_176 rfl ?_
      refine aw_iconst (v := 3) dL_law_177 (by decide) ?_
      refine aw_iadd dL_law_178 ?_
      refine aw_eqi (y := nI (i + 3)) (nI_add _ _) ?_
      refine aw_sld dL_law_179 rfl (vp_in_nI (n := (i + 3)) (by omega) (by omega)) ?_
      refine aw_aload_n dL_law_180 rfl ?_
      refine aw_iload_n dL_law_181 rfl ?_
      refine aw_iconst (v := 4) dL_law_182 (by decide) ?_
      refine aw_iadd dL_law_183 ?_
      refine aw_eqi (y := nI (i + 4)) (nI_add _ _) ?_
      refine aw_sld dL_law_184 rfl (vp_in_nI (n := (i + 4)) (by omega) (by omega)) ?_
      refine aw_aload_n dL_law_185 rfl ?_
      refine aw_iload_n dL_law_186 rfl ?_
      refine aw_iconst (v := 5) dL_law_187 (by decide) ?_
      refine aw_iadd dL_law_188 ?_
      refine aw_eqi (y := nI (i + 5)) (nI_add _ _) ?_
      refine aw_sld dL_law_189 rfl (vp_in_nI (n := (i + 5)) (by omega) (by omega)) ?_
      refine aw_callVi (J' := jX11_feed) (As := [.int (xs ((nI (i + 1))).toNatClampNeg), .int (xs ((nI (i + 2))).toNatClampNeg), .int (xs ((nI (i + 3))).toNatClampNeg), .int (xs ((nI (i + 4))).toNatClampNeg), .int (xs ((nI (i + 5))).toNatClampNeg)]) (st := []) dL_law_190 tb_255 ok_X11_feed ⟨_, (CW.o0 hcw).choose_spec⟩ (by omega) rfl rfl (g_X11_feed l D b N V (by omega) hcw (xs ((nI (i + 1))).toNatClampNeg) (xs ((nI (i + 2))).toNatClampNeg) (xs ((nI (i + 3))).toNatClampNeg) (xs ((nI (i + 4))).toNatClampNeg) (xs ((nI (i + 5))).toNatClampNeg)) rfl (Nat.le_of_ble_eq_true rfl) ⟨Nat.le_of_ble_eq_true rfl, Nat.le_of_ble_eq_true rfl, (show _ ≤ 600000 from by omega), (show _ ≤ 7302250 from by omega)⟩ (fun r_10 N_11 V_2 q_12 => ?_)
      obtain ⟨rfl, j_3⟩ := q_12
      have cw_7 := j_3.1
      have cr_8 := CR.fr hcr (fun i h1 h2 => j_3.2.1 i h1 (by omega))
      have wf_9 := WF.fr hwf (fun i h1 h2 => j_3.2.1 i (by omega) (by omega))
      refine aw_pop dL_law_193 rfl ?_
      refine aw_aload_n dL_law_194 rfl ?_
      refine aw_aload_n dL_law_195 rfl ?_
      refine aw_iload_n dL_law_196 rfl ?_
      refine aw_iconst (v := 1) dL_law_197 (by decide) ?_
      refine aw_iadd dL_law_198 ?_
      refine aw_eqi (y := nI (i + 1)) (nI_add _ _) ?_
      refine aw_sld dL_law_199 rfl (vp_in_nI (n := (i + 1)) (by omega) (by omega)) ?_
      refine aw_aload_n dL_law_200 rfl ?_
      refine aw_iload_n dL_law_201 rfl ?_
      refine aw_iconst (v := 2) dL_law_202 (by decide) ?_
      refine aw_iadd dL_law_203 ?_
      refine aw_eqi (y := nI (i + 2)) (nI_add _ _) ?_
      refine aw_sld dL_law_204 rfl (vp_in_nI (n := (i + 2)) (by omega) (by omega)) ?_
      refine aw_aload_n dL_law_205 rfl ?_
      refine aw_iload_n dL_law_206 rfl ?_
      refine aw_iconst (v := 3) dL_law_207 (by decide) ?_
      refine aw_iadd dL_law_208 ?_
      refine aw_eqi (y := nI (i + 3)) (nI_add _ _) ?_
      refine aw_sld dL_law_209 rfl (vp_in_nI (n := (i + 3)) (by omega) (by omega)) ?_
      refine aw_aload_n dL_law_210 rfl ?_
      refine aw_iload_n dL_law_211 rfl ?_
      refine aw_iconst (v := 4) dL_law_212 (by decide) ?_
      refine aw_iadd dL_law_213 ?_
      refine aw_eqi (y := nI (i + 4)) (nI_add _ _) ?_
      refine aw_sld dL_law_214 rfl (vp_in_nI (n := (i + 4)) (by omega) (by omega)) ?_
      refine aw_aload_n dL_law_215 rfl ?_
      refine aw_iload_n dL_law_216 rfl ?_
      refine aw_iconst (v := 5) dL_law_217 (by decide) ?_
      refine aw_iadd dL_law_218 ?_
      refine aw_eqi (y := nI (i + 5)) (nI_add _ _) ?_
      refine aw_sld dL_law_219 rfl (vp_in_nI (n := (i + 5)) (by omega) (by omega)) ?_
      refine aw_callVi (J' := jX12_feed) (As := [.int (xs ((nI (i + 1))).toNatClampNeg), .int (xs ((nI (i + 2))).toNatClampNeg), .int (xs ((nI (i + 3))).toNatClampNeg), .int (xs ((nI (i + 4))).toNatClampNeg), .int (xs ((nI (i + 5))).toNatClampNeg)]) (st := []) dL_law_220 tb_1197 ok_X12_feed ⟨_, (CR.o100 cr_8).choose_spec⟩ (by omega) rfl rfl (r_feed l D b N V_2 (by omega) cl cr_8 (xs ((nI (i + 1))).toNatClampNeg) (xs ((nI (i + 2))).toNatClampNeg) (xs ((nI (i + 3))).toNatClampNeg) (xs ((nI (i + 4))).toNatClampNeg) (xs ((nI (i + 5))).toNatClampNeg)) rfl (Nat.le_of_ble_eq_true rfl) ⟨Nat.le_of_ble_eq_true rfl, Nat.le_of_ble_eq_true rfl, (show _ ≤ 600000 from by omega), (show _ ≤ 7302250 from by omega)⟩ (fun r_19 N_20 V_13 q_21 => ?_)
      obtain ⟨rfl, j_17⟩ := q_21
      have cr_15 := j_17.1
      have cw_14 := CW.out cw_7 (fun i hi => j_17.2.1 i (Or.inl hi) (by omega))
      have wf_16 := WF.fr wf_9 j_17.2.2
      refine aw_pop dL_law_223 rfl ?_
      refine aw_goto (tgt := 982) dL_law_224 (by decide) ?_
      refine aw_iinc (v := (nI (i + 6))) (ls' := [some (.ref b9), some (.ref (b + 0)), some (.ref (b + 100)), some (.int (nI (i + 6)))]) dL_law_982 rfl (nI_add i 6) (Nat.le_of_ble_eq_true rfl) rfl ?_
      refine aw_goto (tgt := 18) dL_law_985 (by decide) ?_
      refine mih (M + 6 - (i + 6)) (by omega) (i + 6) N cl V_13 _ _ rfl (by omega) ?_ ?_ (by omega) cw_14 cr_15 wf_16 <;> omega
    · skip
      refine aw_tableIn (off := 194) (tgt := 227) dL_law_33 (by decide) (by decide) (by decide) (by decide) ?_
      refine aw_aload_n dL_law_227 rfl ?_
      refine aw_aload_n dL_law_228 rfl ?_
      refine aw_iload_n dL_law_229 rfl ?_
      refine aw_iconst (v := 1) dL_law_230 (by decide) ?_
      refine aw_iadd dL_law_231 ?_
      refine aw_eqi (y := nI (i + 1)) (nI_add _ _) ?_
      refine aw_sld dL_law_232 rfl (vp_in_nI (n := (i + 1)) (by omega) (by omega)) ?_
      refine aw_callVi (J' := jX11_law) (As := [.int (xs ((nI (i + 1))).toNatClampNeg)]) (st := []) dL_law_233 tb_263 ok_X11_law ⟨_, (CW.o0 hcw).choose_spec⟩ (by omega) rfl rfl (g_X11_law l D b N V (by omega) hcw (xs ((nI (i + 1))).toNatClampNeg)) rfl (Nat.le_of_ble_eq_true rfl) ⟨Nat.le_of_ble_eq_true rfl, Nat.le_of_ble_eq_true rfl, (show _ ≤ 600000 from by omega), (show _ ≤ 7302250 from by omega)⟩ (fun r_30 N_31 V_22 q_32 => ?_)
      obtain ⟨hn_25, hm_26, j_23⟩ := q_32
      have cw_27 := j_23.1
      have cr_28 := CR.fr hcr (fun i h1 h2 => j_23.2.1 i h1 (by omega))
      have wf_29 := WF.fr hwf (fun i h1 h2 => j_23.2.1 i (by omega) (by omega))
      refine aw_pop dL_law_236 rfl ?_
      refine aw_aload_n dL_law_237 rfl ?_
      refine aw_aload_n dL_law_238 rfl ?_
      refine aw_iload_n dL_law_239 rfl ?_
      refine aw_iconst (v := 1) dL_law_240 (by decide) ?_
      refine aw_iadd dL_law_241 ?_
      refine aw_eqi (y := nI (i + 1)) (nI_add _ _) ?_
      refine aw_sld dL_law_242 rfl (vp_in_nI (n := (i + 1)) (by omega) (by omega)) ?_
      refine aw_callVi (J' := jX12_law) (As := [.int (xs ((nI (i + 1))).toNatClampNeg)]) (st := []) dL_law_243 tb_1205 ok_X12_law ⟨_, (CR.o100 cr_28).choose_spec⟩ (by omega) rfl rfl (r_law l D b N_31 V_22 (by omega) cl cr_28 (xs ((nI (i + 1))).toNatClampNeg) wf_29) rfl (Nat.le_of_ble_eq_true rfl) ⟨Nat.le_of_ble_eq_true rfl, Nat.le_of_ble_eq_true rfl, (show _ ≤ 600000 from by omega), (show _ ≤ 7302250 from by omega)⟩ (fun r_40 N_41 V_33 q_42 => ?_)
      obtain ⟨rfl, cl_38, cr_35, fr_39, wf_36⟩ := q_42
      have cw_34 := CW.out cw_27 (fun i hi => fr_39 i (Or.inl hi) (by omega))
      refine aw_pop dL_law_246 rfl ?_
      refine aw_goto (tgt := 982) dL_law_247 (by decide) ?_
      refine aw_iinc (v := (nI (i + 6))) (ls' := [some (.ref b9), some (.ref (b + 0)), some (.ref (b + 100)), some (.int (nI (i + 6)))]) dL_law_982 rfl (nI_add i 6) (Nat.le_of_ble_eq_true rfl) rfl ?_
      refine aw_goto (tgt := 18) dL_law_985 (by decide) ?_
      refine mih (M + 6 - (i + 6)) (by omega) (i + 6) N_31 cl_38 V_33 _ _ rfl (by omega) ?_ ?_ (by omega) cw_34 cr_35 wf_36 <;> omega
    · skip
      refine aw_tableIn (off := 217) (tgt := 250) dL_law_33 (by decide) (by decide) (by decide) (by decide) ?_
      refine aw_aload_n dL_law_250 rfl ?_
      refine aw_aload_n dL_law_251 rfl ?_
      refine aw_iload_n dL_law_252 rfl ?_
      refine aw_iconst (v := 1) dL_law_253 (by decide) ?_
      refine aw_iadd dL_law_254 ?_
      refine aw_eqi (y := nI (i + 1)) (nI_add _ _) ?_
      refine aw_sld dL_law_255 rfl (vp_in_nI (n := (i + 1)) (by omega) (by omega)) ?_
      refine aw_aload_n dL_law_256 rfl ?_
      refine aw_iload_n dL_law_257 rfl ?_
      refine aw_iconst (v := 2) dL_law_258 (by decide) ?_
      refine aw_iadd dL_law_259 ?_
      refine aw_eqi (y := nI (i + 2)) (nI_add _ _) ?_
      refine aw_sld dL_law_260 rfl (vp_in_nI (n := (i + 2)) (by omega) (by omega)) ?_
      refine aw_callVi (J' := jX11_dreads) (As := [.int (xs ((nI (i + 1))).toNatClampNeg), .int (xs ((nI (i + 2))).toNatClampNeg)]) (st := []) dL_law_261 tb_577 ok_X11_dreads ⟨_, (CW.o0 hcw).choose_spec⟩ (by omega) rfl rfl (g_X11_dreads l D b N V (by omega) hcw (xs ((nI (i + 1))).toNatClampNeg) (xs ((nI (i + 2))).toNatClampNeg)) rfl (Nat.le_of_ble_eq_true rfl) ⟨Nat.le_of_ble_eq_true rfl, Nat.le_of_ble_eq_true rfl, (show _ ≤ 600000 from by omega), (show _ ≤ 7302250 from by omega)⟩ (fun r_51 N_52 V_43 q_53 => ?_)
      obtain ⟨hn_46, hm_47, j_44⟩ := q_53
      have cw_48 := j_44.1
      have cr_49 := CR.fr hcr (fun i h1 h2 => j_44.2.1 i h1 (by omega))
      have wf_50 := WF.fr hwf (fun i h1 h2 => j_44.2.1 i (by omega) (by omega))
      refine aw_pop dL_law_264 rfl ?_
      refine aw_aload_n dL_law_265 rfl ?_
      refine aw_aload_n dL_law_266 rfl ?_
      refine aw_iload_n dL_law_267 rfl ?_
      refine aw_iconst (v := 1) dL_law_268 (by decide) ?_
      refine aw_iadd dL_law_269 ?_
      refine aw_eqi (y := nI (i + 1)) (nI_add _ _) ?_
      refine aw_sld dL_law_270 rfl (vp_in_nI (n := (i + 1)) (by omega) (by omega)) ?_
      refine aw_aload_n dL_law_271 rfl ?_
      refine aw_iload_n dL_law_272 rfl ?_
      refine aw_iconst (v := 2) dL_law_273 (by decide) ?_
      refine aw_iadd dL_law_274 ?_
      refine aw_eqi (y := nI (i + 2)) (nI_add _ _) ?_
      refine aw_sld dL_law_275 rfl (vp_in_nI (n := (i + 2)) (by omega) (by omega)) ?_
      refine aw_callVi (J' := jX12_dreads) (As := [.int (xs ((nI (i + 1))).toNatClampNeg), .int (xs ((nI (i + 2))).toNatClampNeg)]) (st := []) dL_law_276 tb_1295 ok_X12_dreads ⟨_, (CR.o100 cr_49).choose_spec⟩ (by omega) rfl rfl (r_dreads l D b N_52 V_43 (by omega) cl cr_49 (xs ((nI (i + 1))).toNatClampNeg) (xs ((nI (i + 2))).toNatClampNeg)) rfl (Nat.le_of_ble_eq_true rfl) ⟨Nat.le_of_ble_eq_true rfl, Nat.le_of_ble_eq_true rfl, (show _ ≤ 600000 from by omega), (show _ ≤ 7302250 from by omega)⟩ (fun r_60 N_61 V_54 q_62 => ?_)
      obtain ⟨rfl, j_58⟩ := q_62
      have cr_56 := j_58.1
      have cw_55 := CW.out cw_48 (fun i hi => j_58.2.1 i (Or.inl hi) (by omega))
      have wf_57 := WF.fr wf_50 j_58.2.2
      refine aw_pop dL_law_279 rfl ?_
      refine aw_goto (tgt := 982) dL_law_280 (by decide) ?_
      refine aw_iinc (v := (nI (i + 6))) (ls' := [some (.ref b9), some (.ref (b + 0)), some (.ref (b + 100)), some (.int (nI (i + 6)))]) dL_law_982 rfl (nI_add i 6) (Nat.le_of_ble_eq_true rfl) rfl ?_
      refine aw_goto (tgt := 18) dL_law_985 (by decide) ?_
      refine mih (M + 6 - (i + 6)) (by omega) (i + 6) N_52 cl V_54 _ _ rfl (by omega) ?_ ?_ (by omega) cw_55 cr_56 wf_57 <;> omega
    · skip
      refine aw_tableIn (off := 250) (tgt := 283) dL_law_33 (by decide) (by decide) (by decide) (by decide) ?_
      refine aw_aload_n dL_law_283 rfl ?_
      refine aw_aload_n dL_law_284 rfl ?_
      refine aw_iload_n dL_law_285 rfl ?_
      refine aw_iconst (v := 1) dL_law_286 (by decide) ?_
      refine aw_iadd dL_law_287 ?_
      refine aw_eqi (y := nI (i + 1)) (nI_add _ _) ?_
      refine aw_sld dL_law_288 rfl (vp_in_nI (n := (i + 1)) (by omega) (by omega)) ?_
      refine aw_callVi (J' := jX11_orders) (As := [.int (xs ((nI (i + 1))).toNatClampNeg)]) (st := []) dL_law_289 tb_605 ok_X11_orders ⟨_, (CW.o0 hcw).choose_spec⟩ (by omega) rfl rfl (g_X11_orders l D b N V (by omega) hcw (xs ((nI (i + 1))).toNatClampNeg)) rfl (Nat.le_of_ble_eq_true rfl) ⟨Nat.le_of_ble_eq_true rfl, Nat.le_of_ble_eq_true rfl, (show _ ≤ 600000 from by omega), (show _ ≤ 7302250 from by omega)⟩ (fun r_71 N_72 V_63 q_73 => ?_)
      obtain ⟨hn_66, hm_67, j_64⟩ := q_73
      have cw_68 := j_64.1
      have cr_69 := CR.fr hcr (fun i h1 h2 => j_64.2.1 i h1 (by omega))
      have wf_70 := WF.fr hwf (fun i h1 h2 => j_64.2.1 i (by omega) (by omega))
      refine aw_pop dL_law_292 rfl ?_
      refine aw_aload_n dL_law_293 rfl ?_
      refine aw_aload_n dL_law_294 rfl ?_
      refine aw_iload_n dL_law_295 rfl ?_
      refine aw_iconst (v := 1) dL_law_296 (by decide) ?_
      refine aw_iadd dL_law_297 ?_
      refine aw_eqi (y := nI (i + 1)) (nI_add _ _) ?_
      refine aw_sld dL_law_298 rfl (vp_in_nI (n := (i + 1)) (by omega) (by omega)) ?_
      refine aw_callVi (J' := jX12_orders) (As := [.int (xs ((nI (i + 1))).toNatClampNeg)]) (st := []) dL_law_299 tb_1331 ok_X12_orders ⟨_, (CR.o100 cr_69).choose_spec⟩ (by omega) rfl rfl (r_orders l D b N_72 V_63 (by omega) cl cr_69 (xs ((nI (i + 1))).toNatClampNeg)) rfl (Nat.le_of_ble_eq_true rfl) ⟨Nat.le_of_ble_eq_true rfl, Nat.le_of_ble_eq_true rfl, (show _ ≤ 600000 from by omega), (show _ ≤ 7302250 from by omega)⟩ (fun r_80 N_81 V_74 q_82 => ?_)
      obtain ⟨rfl, j_78⟩ := q_82
      have cr_76 := j_78.1
      have cw_75 := CW.out cw_68 (fun i hi => j_78.2.1 i (Or.inl hi) (by omega))
      have wf_77 := WF.fr wf_70 j_78.2.2
      refine aw_pop dL_law_302 rfl ?_
      refine aw_goto (tgt := 982) dL_law_303 (by decide) ?_
      refine aw_iinc (v := (nI (i + 6))) (ls' := [some (.ref b9), some (.ref (b + 0)), some (.ref (b + 100)), some (.int (nI (i + 6)))]) dL_law_982 rfl (nI_add i 6) (Nat.le_of_ble_eq_true rfl) rfl ?_
      refine aw_goto (tgt := 18) dL_law_985 (by decide) ?_
      refine mih (M + 6 - (i + 6)) (by omega) (i + 6) N_72 cl V_74 _ _ rfl (by omega) ?_ ?_ (by omega) cw_75 cr_76 wf_77 <;> omega
    · skip
      refine aw_tableIn (off := 273) (tgt := 306) dL_law_33 (by decide) (by decide) (by decide) (by decide) ?_
      refine aw_aload_n dL_law_306 rfl ?_
      refine aw_aload_n dL_law_307 rfl ?_
      refine aw_iload_n dL_law_308 rfl ?_
      refine aw_iconst (v := 1) dL_law_309 (by decide) ?_
      refine aw_iadd dL_law_310 ?_
      refine aw_eqi (y := nI (i + 1)) (nI_add _ _) ?_
      refine aw_sld dL_law_311 rfl (vp_in_nI (n := (i + 1)) (by omega) (by omega)) ?_
      refine aw_callVi (J' := jX11_nights) (As := [.int (xs ((nI (i + 1))).toNatClampNeg)]) (st := []) dL_law_312 tb_622 ok_X11_nights ⟨_, (CW.o0 hcw).choose_spec⟩ (by omega) rfl rfl (g_X11_nights l D b N V (by omega) hcw (xs ((nI (i + 1))).toNatClampNeg)) rfl (Nat.le_of_ble_eq_true rfl) ⟨Nat.le_of_ble_eq_true rfl, Nat.le_of_ble_eq_true rfl, (show _ ≤ 600000 from by omega), (show _ ≤ 7302250 from by omega)⟩ (fun r_91 N_92 V_83 q_93 => ?_)
      obtain ⟨rfl, j_84⟩ := q_93
      have cw_88 := j_84.1
      have cr_89 := CR.fr hcr (fun i h1 h2 => j_84.2.1 i h1 (by omega))
      have wf_90 := WF.fr hwf (fun i h1 h2 => j_84.2.1 i (by omega) (by omega))
      refine aw_pop dL_law_315 rfl ?_
      refine aw_aload_n dL_law_316 rfl ?_
      refine aw_aload_n dL_law_317 rfl ?_
      refine aw_iload_n dL_law_318 rfl ?_
      refine aw_iconst (v := 1) dL_law_319 (by decide) ?_
      refine aw_iadd dL_law_320 ?_
      refine aw_eqi (y := nI (i + 1)) (nI_add _ _) ?_
      refine aw_sld dL_law_321 rfl (vp_in_nI (n := (i + 1)) (by omega) (by omega)) ?_
      refine aw_callVi (J' := jX12_nights) (As := [.int (xs ((nI (i + 1))).toNatClampNeg)]) (st := []) dL_law_322 tb_1367 ok_X12_nights ⟨_, (CR.o100 cr_89).choose_spec⟩ (by omega) rfl rfl (r_nights l D b N V_83 (by omega) cl cr_89 (xs ((nI (i + 1))).toNatClampNeg) wf_90) rfl (Nat.le_of_ble_eq_true rfl) ⟨Nat.le_of_ble_eq_true rfl, Nat.le_of_ble_eq_true rfl, (show _ ≤ 600000 from by omega), (show _ ≤ 7302250 from by omega)⟩ (fun r_100 N_101 V_94 q_102 => ?_)
      obtain ⟨rfl, j_98⟩ := q_102
      have cr_96 := j_98.1
      have cw_95 := CW.out cw_88 (fun i hi => j_98.2.1 i (Or.inl hi) (by omega))
      have wf_97 := WF.fr wf_90 j_98.2.2
      refine aw_pop dL_law_325 rfl ?_
      refine aw_goto (tgt := 982) dL_law_326 (by decide) ?_
      refine aw_iinc (v := (nI (i + 6))) (ls' := [some (.ref b9), some (.ref (b + 0)), some (.ref (b + 100)), some (.int (nI (i + 6)))]) dL_law_982 rfl (nI_add i 6) (Nat.le_of_ble_eq_true rfl) rfl ?_
      refine aw_goto (tgt := 18) dL_law_985 (by decide) ?_
      refine mih (M + 6 - (i + 6)) (by omega) (i + 6) N cl V_94 _ _ rfl (by omega) ?_ ?_ (by omega) cw_95 cr_96 wf_97 <;> omega
    · skip
      refine aw_tableIn (off := 296) (tgt := 329) dL_law_33 (by decide) (by decide) (by decide) (by decide) ?_
      refine aw_aload_n dL_law_329 rfl ?_
      refine aw_aload_n dL_law_330 rfl ?_
      refine aw_iload_n dL_law_331 rfl ?_
      refine aw_iconst (v := 1) dL_law_332 (by decide) ?_
      refine aw_iadd dL_law_333 ?_
      refine aw_eqi (y := nI (i + 1)) (nI_add _ _) ?_
      refine aw_sld dL_law_334 rfl (vp_in_nI (n := (i + 1)) (by omega) (by omega)) ?_
      refine aw_aload_n dL_law_335 rfl ?_
      refine aw_iload_n dL_law_336 rfl ?_
      refine aw_iconst (v := 2) dL_law_337 (by decide) ?_
      refine aw_iadd dL_law_338 ?_
      refine aw_eqi (y := nI (i + 2)) (nI_add _ _) ?_
      refine aw_sld dL_law_339 rfl (vp_in_nI (n := (i + 2)) (by omega) (by omega)) ?_
      refine aw_callVi (J' := jX11_tried) (As := [.int (xs ((nI (i + 1))).toNatClampNeg), .int (xs ((nI (i + 2))).toNatClampNeg)]) (st := []) dL_law_340 tb_737 ok_X11_tried ⟨_, (CW.o0 hcw).choose_spec⟩ (by omega) rfl rfl (g_X11_tried l D b N V (by omega) hcw (xs ((nI (i + 1))).toNatClampNeg) (xs ((nI (i + 2))).toNatClampNeg)) rfl (Nat.le_of_ble_eq_true rfl) ⟨Nat.le_of_ble_eq_true rfl, Nat.le_of_ble_eq_true rfl, (show _ ≤ 600000 from by omega), (show _ ≤ 7302250 from by omega)⟩ (fun r_111 N_112 V_103 q_113 => ?_)
      obtain ⟨rfl, j_104⟩ := q_113
      have cw_108 := j_104.1
      have cr_109 := CR.fr hcr (fun i h1 h2 => j_104.2.1 i h1 (by omega))
      have wf_110 := WF.fr hwf (fun i h1 h2 => j_104.2.1 i (by omega) (by omega))
      refine aw_pop dL_law_343 rfl ?_
      refine aw_aload_n dL_law_344 rfl ?_
      refine aw_aload_n dL_law_345 rfl ?_
      refine aw_iload_n dL_law_346 rfl ?_
      refine aw_iconst (v := 1) dL_law_347 (by decide) ?_
      refine aw_iadd dL_law_348 ?_
      refine aw_eqi (y := nI (i + 1)) (nI_add _ _) ?_
      refine aw_sld dL_law_349 rfl (vp_in_nI (n := (i + 1)) (by omega) (by omega)) ?_
      refine aw_aload_n dL_law_350 rfl ?_
      refine aw_iload_n dL_law_351 rfl ?_
      refine aw_iconst (v := 2) dL_law_352 (by decide) ?_
      refine aw_iadd dL_law_353 ?_
      refine aw_eqi (y := nI (i + 2)) (nI_add _ _) ?_
      refine aw_sld dL_law_354 rfl (vp_in_nI (n := (i + 2)) (by omega) (by omega)) ?_
      refine aw_callVi (J' := jX12_tried) (As := [.int (xs ((nI (i + 1))).toNatClampNeg), .int (xs ((nI (i + 2))).toNatClampNeg)]) (st := []) dL_law_355 tb_1442 ok_X12_tried ⟨_, (CR.o100 cr_109).choose_spec⟩ (by omega) rfl rfl (r_tried l D b N V_103 (by omega) cl cr_109 (xs ((nI (i + 1))).toNatClampNeg) (xs ((nI (i + 2))).toNatClampNeg) wf_110) rfl (Nat.le_of_ble_eq_true rfl) ⟨Nat.le_of_ble_eq_true rfl, Nat.le_of_ble_eq_true rfl, (show _ ≤ 600000 from by omega), (show _ ≤ 7302250 from by omega)⟩ (fun r_120 N_121 V_114 q_122 => ?_)
      obtain ⟨rfl, j_118⟩ := q_122
      have cr_116 := j_118.1
      have cw_115 := CW.out cw_108 (fun i hi => j_118.2.1 i (Or.inl hi) (by omega))
      have wf_117 := WF.fr wf_110 j_118.2.2
      refine aw_pop dL_law_358 rfl ?_
      refine aw_goto (tgt := 982) dL_law_359 (by decide) ?_
      refine aw_iinc (v := (nI (i + 6))) (ls' := [some (.ref b9), some (.ref (b + 0)), some (.ref (b + 100)), some (.int (nI (i + 6)))]) dL_law_982 rfl (nI_add i 6) (Nat.le_of_ble_eq_true rfl) rfl ?_
      refine aw_goto (tgt := 18) dL_law_985 (by decide) ?_
      refine mih (M + 6 - (i + 6)) (by omega) (i + 6) N cl V_114 _ _ rfl (by omega) ?_ ?_ (by omega) cw_115 cr_116 wf_117 <;> omega
    · skip
      refine aw_tableIn (off := 329) (tgt := 362) dL_law_33 (by decide) (by decide) (by decide) (by decide) ?_
      refine aw_aload_n dL_law_362 rfl ?_
      refine aw_aload_n dL_law_363 rfl ?_
      refine aw_iload_n dL_law_364 rfl ?_
      refine aw_iconst (v := 1) dL_law_365 (by decide) ?_
      refine aw_iadd dL_law_366 ?_
      refine aw_eqi (y := nI (i + 1)) (nI_add _ _) ?_
      refine aw_sld dL_law_367 rfl (vp_in_nI (n := (i + 1)) (by omega) (by omega)) ?_
      refine aw_aload_n dL_law_368 rfl ?_
      refine aw_iload_n dL_law_369 rfl ?_
      refine aw_iconst (v := 2) dL_law_370 (by decide) ?_
      refine aw_iadd dL_law_371 ?_
      refine aw_eqi (y := nI (i + 2)) (nI_add _ _) ?_
      refine aw_sld dL_law_372 rfl (vp_in_nI (n := (i + 2)) (by omega) (by omega)) ?_
      refine aw_callVi (J' := jX11_personIs) (As := [.int (xs ((nI (i + 1))).toNatClampNeg), .int (xs ((nI (i + 2))).toNatClampNeg)]) (st := []) dL_law_373 tb_753 ok_X11_personIs ⟨_, (CW.o0 hcw).choose_spec⟩ (by omega) rfl rfl (g_X11_personIs l D b N V (by omega) hcw (xs ((nI (i + 1))).toNatClampNeg) (xs ((nI (i + 2))).toNatClampNeg)) rfl (Nat.le_of_ble_eq_true rfl) ⟨Nat.le_of_ble_eq_true rfl, Nat.le_of_ble_eq_true rfl, (show _ ≤ 600000 from by omega), (show _ ≤ 7302250 from by omega)⟩ (fun r_124 N_125 V_126 q_127 => ?_)
      obtain ⟨rfl, rfl⟩ := q_127
      refine aw_pop dL_law_376 rfl ?_
      refine aw_aload_n dL_law_377 rfl ?_
      refine aw_aload_n dL_law_378 rfl ?_
      refine aw_iload_n dL_law_379 rfl ?_
      refine aw_iconst (v := 1) dL_law_380 (by decide) ?_
      refine aw_iadd dL_law_381 ?_
      refine aw_eqi (y := nI (i + 1)) (nI_add _ _) ?_
      refine aw_sld dL_law_382 rfl (vp_in_nI (n := (i + 1)) (by omega) (by omega)) ?_
      refine aw_aload_n dL_law_383 rfl ?_
      refine aw_iload_n dL_law_384 rfl ?_
      refine aw_iconst (v := 2) dL_law_385 (by decide) ?_
      refine aw_iadd dL_law_386 ?_
      refine aw_eqi (y := nI (i + 2)) (nI_add _ _) ?_
      refine aw_sld dL_law_387 rfl (vp_in_nI (n := (i + 2)) (by omega) (by omega)) ?_
      refine aw_callVi (J' := jX12_personIs) (As := [.int (xs ((nI (i + 1))).toNatClampNeg), .int (xs ((nI (i + 2))).toNatClampNeg)]) (st := []) dL_law_388 tb_1449 ok_X12_personIs ⟨_, (CR.o100 hcr).choose_spec⟩ (by omega) rfl rfl (r_personIs l D b N V (by omega) cl hcr (xs ((nI (i + 1))).toNatClampNeg) (xs ((nI (i + 2))).toNatClampNeg)) rfl (Nat.le_of_ble_eq_true rfl) ⟨Nat.le_of_ble_eq_true rfl, Nat.le_of_ble_eq_true rfl, (show _ ≤ 600000 from by omega), (show _ ≤ 7302250 from by omega)⟩ (fun r_133 N_134 V_135 q_136 => ?_)
      obtain ⟨rfl, rfl⟩ := q_136
      refine aw_pop dL_law_391 rfl ?_
      refine aw_goto (tgt := 982) dL_law_392 (by decide) ?_
      refine aw_iinc (v := (nI (i + 6))) (ls' := [some (.ref b9), some (.ref (b + 0)), some (.ref (b + 100)), some (.int (nI (i + 6)))]) dL_law_982 rfl (nI_add i 6) (Nat.le_of_ble_eq_true rfl) rfl ?_
      refine aw_goto (tgt := 18) dL_law_985 (by decide) ?_
      refine mih (M + 6 - (i + 6)) (by omega) (i + 6) N cl V _ _ rfl (by omega) ?_ ?_ (by omega) hcw hcr hwf <;> omega
    · skip
      refine aw_tableIn (off := 362) (tgt := 395) dL_law_33 (by decide) (by decide) (by decide) (by decide) ?_
      refine aw_aload_n dL_law_395 rfl ?_
      refine aw_aload_n dL_law_396 rfl ?_
      refine aw_iload_n dL_law_397 rfl ?_
      refine aw_iconst (v := 1) dL_law_398 (by decide) ?_
      refine aw_iadd dL_law_399 ?_
      refine aw_eqi (y := nI (i + 1)) (nI_add _ _) ?_
      refine aw_sld dL_law_400 rfl (vp_in_nI (n := (i + 1)) (by omega) (by omega)) ?_
      refine aw_aload_n dL_law_401 rfl ?_
      refine aw_iload_n dL_law_402 rfl ?_
      refine aw_iconst (v := 2) dL_law_403 (by decide) ?_
      refine aw_iadd dL_law_404 ?_
      refine aw_eqi (y := nI (i + 2)) (nI_add _ _) ?_
      refine aw_sld dL_law_405 rfl (vp_in_nI (n := (i + 2)) (by omega) (by omega)) ?_
      refine aw_callVi (J' := jX11_doorIs) (As := [.int (xs ((nI (i + 1))).toNatClampNeg), .int (xs ((nI (i + 2))).toNatClampNeg)]) (st := []) dL_law_406 tb_768 ok_X11_doorIs ⟨_, (CW.o0 hcw).choose_spec⟩ (by omega) rfl rfl (g_X11_doorIs l D b N V (by omega) hcw (xs ((nI (i + 1))).toNatClampNeg) (xs ((nI (i + 2))).toNatClampNeg)) rfl (Nat.le_of_ble_eq_true rfl) ⟨Nat.le_of_ble_eq_true rfl, Nat.le_of_ble_eq_true rfl, (show _ ≤ 600000 from by omega), (show _ ≤ 7302250 from by omega)⟩ (fun r_138 N_139 V_140 q_141 => ?_)
      obtain ⟨rfl, rfl⟩ := q_141
      refine aw_pop dL_law_409 rfl ?_
      refine aw_aload_n dL_law_410 rfl ?_
      refine aw_aload_n dL_law_411 rfl ?_
      refine aw_iload_n dL_law_412 rfl ?_
      refine aw_iconst (v := 1) dL_law_413 (by decide) ?_
      refine aw_iadd dL_law_414 ?_
      refine aw_eqi (y := nI (i + 1)) (nI_add _ _) ?_
      refine aw_sld dL_law_415 rfl (vp_in_nI (n := (i + 1)) (by omega) (by omega)) ?_
      refine aw_aload_n dL_law_416 rfl ?_
      refine aw_iload_n dL_law_417 rfl ?_
      refine aw_iconst (v := 2) dL_law_418 (by decide) ?_
      refine aw_iadd dL_law_419 ?_
      refine aw_eqi (y := nI (i + 2)) (nI_add _ _) ?_
      refine aw_sld dL_law_420 rfl (vp_in_nI (n := (i + 2)) (by omega) (by omega)) ?_
      refine aw_callVi (J' := jX12_doorIs) (As := [.int (xs ((nI (i + 1))).toNatClampNeg), .int (xs ((nI (i + 2))).toNatClampNeg)]) (st := []) dL_law_421 tb_1461 ok_X12_doorIs ⟨_, (CR.o100 hcr).choose_spec⟩ (by omega) rfl rfl (r_doorIs l D b N V (by omega) cl hcr (xs ((nI (i + 1))).toNatClampNeg) (xs ((nI (i + 2))).toNatClampNeg)) rfl (Nat.le_of_ble_eq_true rfl) ⟨Nat.le_of_ble_eq_true rfl, Nat.le_of_ble_eq_true rfl, (show _ ≤ 600000 from by omega), (show _ ≤ 7302250 from by omega)⟩ (fun r_147 N_148 V_149 q_150 => ?_)
      obtain ⟨rfl, rfl⟩ := q_150
      refine aw_pop dL_law_424 rfl ?_
      refine aw_goto (tgt := 982) dL_law_425 (by decide) ?_
      refine aw_iinc (v := (nI (i + 6))) (ls' := [some (.ref b9), some (.ref (b + 0)), some (.ref (b + 100)), some (.int (nI (i + 6)))]) dL_law_982 rfl (nI_add i 6) (Nat.le_of_ble_eq_true rfl) rfl ?_
      refine aw_goto (tgt := 18) dL_law_985 (by decide) ?_
      refine mih (M + 6 - (i + 6)) (by omega) (i + 6) N cl V _ _ rfl (by omega) ?_ ?_ (by omega) hcw hcr hwf <;> omega
    · skip
      refine aw_tableIn (off := 395) (tgt := 428) dL_law_33 (by decide) (by decide) (by decide) (by decide) ?_
      refine aw_aload_n dL_law_428 rfl ?_
      refine aw_aload_n dL_law_429 rfl ?_
      refine aw_iload_n dL_law_430 rfl ?_
      refine aw_iconst (v := 1) dL_law_431 (by decide) ?_
      refine aw_iadd dL_law_432 ?_
      refine aw_eqi (y := nI (i + 1)) (nI_add _ _) ?_
      refine aw_sld dL_law_433 rfl (vp_in_nI (n := (i + 1)) (by omega) (by omega)) ?_
      refine aw_aload_n dL_law_434 rfl ?_
      refine aw_iload_n dL_law_435 rfl ?_
      refine aw_iconst (v := 2) dL_law_436 (by decide) ?_
      refine aw_iadd dL_law_437 ?_
      refine aw_eqi (y := nI (i + 2)) (nI_add _ _) ?_
      refine aw_sld dL_law_438 rfl (vp_in_nI (n := (i + 2)) (by omega) (by omega)) ?_
      refine aw_callVi (J' := jX11_taught) (As := [.int (xs ((nI (i + 1))).toNatClampNeg), .int (xs ((nI (i + 2))).toNatClampNeg)]) (st := []) dL_law_439 tb_776 ok_X11_taught ⟨_, (CW.o0 hcw).choose_spec⟩ (by omega) rfl rfl (g_X11_taught l D b N V (by omega) hcw (xs ((nI (i + 1))).toNatClampNeg) (xs ((nI (i + 2))).toNatClampNeg)) rfl (Nat.le_of_ble_eq_true rfl) ⟨Nat.le_of_ble_eq_true rfl, Nat.le_of_ble_eq_true rfl, (show _ ≤ 600000 from by omega), (show _ ≤ 7302250 from by omega)⟩ (fun r_152 N_153 V_154 q_155 => ?_)
      obtain ⟨rfl, rfl⟩ := q_155
      refine aw_pop dL_law_442 rfl ?_
      refine aw_aload_n dL_law_443 rfl ?_
      refine aw_aload_n dL_law_444 rfl ?_
      refine aw_iload_n dL_law_445 rfl ?_
      refine aw_iconst (v := 1) dL_law_446 (by decide) ?_
      refine aw_iadd dL_law_447 ?_
      refine aw_eqi (y := nI (i + 1)) (nI_add _ _) ?_
      refine aw_sld dL_law_448 rfl (vp_in_nI (n := (i + 1)) (by omega) (by omega)) ?_
      refine aw_aload_n dL_law_449 rfl ?_
      refine aw_iload_n dL_law_450 rfl ?_
      refine aw_iconst (v := 2) dL_law_451 (by decide) ?_
      refine aw_iadd dL_law_452 ?_
      refine aw_eqi (y := nI (i + 2)) (nI_add _ _) ?_
      refine aw_sld dL_law_453 rfl (vp_in_nI (n := (i + 2)) (by omega) (by omega)) ?_
      refine aw_callVi (J' := jX12_taught) (As := [.int (xs ((nI (i + 1))).toNatClampNeg), .int (xs ((nI (i + 2))).toNatClampNeg)]) (st := []) dL_law_454 tb_1469 ok_X12_taught ⟨_, (CR.o100 hcr).choose_spec⟩ (by omega) rfl rfl (r_taught l D b N V (by omega) cl hcr (xs ((nI (i + 1))).toNatClampNeg) (xs ((nI (i + 2))).toNatClampNeg)) rfl (Nat.le_of_ble_eq_true rfl) ⟨Nat.le_of_ble_eq_true rfl, Nat.le_of_ble_eq_true rfl, (show _ ≤ 600000 from by omega), (show _ ≤ 7302250 from by omega)⟩ (fun r_161 N_162 V_163 q_164 => ?_)
      obtain ⟨rfl, rfl⟩ := q_164
      refine aw_pop dL_law_457 rfl ?_
      refine aw_goto (tgt := 982) dL_law_458 (by decide) ?_
      refine aw_iinc (v := (nI (i + 6))) (ls' := [some (.ref b9), some (.ref (b + 0)), some (.ref (b + 100)), some (.int (nI (i + 6)))]) dL_law_982 rfl (nI_add i 6) (Nat.le_of_ble_eq_true rfl) rfl ?_
      refine aw_goto (tgt := 18) dL_law_985 (by decide) ?_
      refine mih (M + 6 - (i + 6)) (by omega) (i + 6) N cl V _ _ rfl (by omega) ?_ ?_ (by omega) hcw hcr hwf <;> omega
    · skip
      refine aw_tableIn (off := 428) (tgt := 461) dL_law_33 (by decide) (by decide) (by decide) (by decide) ?_
      refine aw_aload_n dL_law_461 rfl ?_
      refine aw_aload_n dL_law_462 rfl ?_
      refine aw_iload_n dL_law_463 rfl ?_
      refine aw_iconst (v := 1) dL_law_464 (by decide) ?_
      refine aw_iadd dL_law_465 ?_
      refine aw_eqi (y := nI (i + 1)) (nI_add _ _) ?_
      refine aw_sld dL_law_466 rfl (vp_in_nI (n := (i + 1)) (by omega) (by omega)) ?_
      refine aw_callVi (J' := jX11_crew) (As := [.int (xs ((nI (i + 1))).toNatClampNeg)]) (st := []) dL_law_467 tb_790 ok_X11_crew ⟨_, (CW.o0 hcw).choose_spec⟩ (by omega) rfl rfl (g_X11_crew l D b N V (by omega) hcw (xs ((nI (i + 1))).toNatClampNeg)) rfl (Nat.le_of_ble_eq_true rfl) ⟨Nat.le_of_ble_eq_true rfl, Nat.le_of_ble_eq_true rfl, (show _ ≤ 600000 from by omega), (show _ ≤ 7302250 from by omega)⟩ (fun r_173 N_174 V_165 q_175 => ?_)
      obtain ⟨rfl, j_166⟩ := q_175
      have cw_170 := j_166.1
      have cr_171 := CR.fr hcr (fun i h1 h2 => j_166.2.1 i h1 (by omega))
      have wf_172 := WF.fr hwf (fun i h1 h2 => j_166.2.1 i (by omega) (by omega))
      refine aw_pop dL_law_470 rfl ?_
      refine aw_aload_n dL_law_471 rfl ?_
      refine aw_aload_n dL_law_472 rfl ?_
      refine aw_iload_n dL_law_473 rfl ?_
      refine aw_iconst (v := 1) dL_law_474 (by decide) ?_
      refine aw_iadd dL_law_475 ?_
      refine aw_eqi (y := nI (i + 1)) (nI_add _ _) ?_
      refine aw_sld dL_law_476 rfl (vp_in_nI (n := (i + 1)) (by omega) (by omega)) ?_
      refine aw_callVi (J' := jX12_crew) (As := [.int (xs ((nI (i + 1))).toNatClampNeg)]) (st := []) dL_law_477 tb_1477 ok_X12_crew ⟨_, (CR.o100 cr_171).choose_spec⟩ (by omega) rfl rfl (r_crew l D b N V_165 (by omega) cl cr_171 (xs ((nI (i + 1))).toNatClampNeg)) rfl (Nat.le_of_ble_eq_true rfl) ⟨Nat.le_of_ble_eq_true rfl, Nat.le_of_ble_eq_true rfl, (show _ ≤ 600000 from by omega), (show _ ≤ 7302250 from by omega)⟩ (fun r_182 N_183 V_176 q_184 => ?_)
      obtain ⟨rfl, j_180⟩ := q_184
      have cr_178 := j_180.1
      have cw_177 := CW.out cw_170 (fun i hi => j_180.2.1 i (Or.inl hi) (by omega))
      have wf_179 := WF.fr wf_172 j_180.2.2
      refine aw_pop dL_law_480 rfl ?_
      refine aw_goto (tgt := 982) dL_law_481 (by decide) ?_
      refine aw_iinc (v := (nI (i + 6))) (ls' := [some (.ref b9), some (.ref (b + 0)), some (.ref (b + 100)), some (.int (nI (i + 6)))]) dL_law_982 rfl (nI_add i 6) (Nat.le_of_ble_eq_true rfl) rfl ?_
      refine aw_goto (tgt := 18) dL_law_985 (by decide) ?_
      refine mih (M + 6 - (i + 6)) (by omega) (i + 6) N cl V_176 _ _ rfl (by omega) ?_ ?_ (by omega) cw_177 cr_178 wf_179 <;> omega
    · skip
      refine aw_tableIn (off := 451) (tgt := 484) dL_law_33 (by decide) (by decide) (by decide) (by decide) ?_
      refine aw_aload_n dL_law_484 rfl ?_
      refine aw_callVi (J' := jX11_lodgings) (As := []) (st := []) dL_law_485 tb_806 ok_X11_lodgings ⟨_, (CW.o0 hcw).choose_spec⟩ (by omega) rfl rfl (g_X11_lodgings l D b N V (by omega) hcw) rfl (Nat.le_of_ble_eq_true rfl) ⟨Nat.le_of_ble_eq_true rfl, Nat.le_of_ble_eq_true rfl, (show _ ≤ 600000 from by omega), (show _ ≤ 7302250 from by omega)⟩ (fun r_186 N_187 V_188 q_189 => ?_)
      obtain ⟨rfl, rfl⟩ := q_189
      refine aw_pop dL_law_488 rfl ?_
      refine aw_aload_n dL_law_489 rfl ?_
      refine aw_callVi (J' := jX12_lodgings) (As := []) (st := []) dL_law_490 tb_1489 ok_X12_lodgings ⟨_, (CR.o100 hcr).choose_spec⟩ (by omega) rfl rfl (r_lodgings l D b N V (by omega) cl hcr) rfl (Nat.le_of_ble_eq_true rfl) ⟨Nat.le_of_ble_eq_true rfl, Nat.le_of_ble_eq_true rfl, (show _ ≤ 600000 from by omega), (show _ ≤ 7302250 from by omega)⟩ (fun r_196 N_197 V_190 q_198 => ?_)
      obtain ⟨rfl, j_194⟩ := q_198
      have cr_192 := j_194.1
      have cw_191 := CW.out hcw (fun i hi => j_194.2.1 i (Or.inl hi) (by omega))
      have wf_193 := WF.fr hwf j_194.2.2
      refine aw_pop dL_law_493 rfl ?_
      refine aw_goto (tgt := 982) dL_law_494 (by decide) ?_
      refine aw_iinc (v := (nI (i + 6))) (ls' := [some (.ref b9), some (.ref (b + 0)), some (.ref (b + 100)), some (.int (nI (i + 6)))]) dL_law_982 rfl (nI_add i 6) (Nat.le_of_ble_eq_true rfl) rfl ?_
      refine aw_goto (tgt := 18) dL_law_985 (by decide) ?_
      refine mih (M + 6 - (i + 6)) (by omega) (i + 6) N cl V_190 _ _ rfl (by omega) ?_ ?_ (by omega) cw_191 cr_192 wf_193 <;> omega
    · skip
      refine aw_tableIn (off := 464) (tgt := 497) dL_law_33 (by decide) (by decide) (by decide) (by decide) ?_
      refine aw_aload_n dL_law_497 rfl ?_
      refine aw_aload_n dL_law_498 rfl ?_
      refine aw_iload_n dL_law_499 rfl ?_
      refine aw_iconst (v := 1) dL_law_500 (by decide) ?_
      refine aw_iadd dL_law_501 ?_
      refine aw_eqi (y := nI (i + 1)) (nI_add _ _) ?_
      refine aw_sld dL_law_502 rfl (vp_in_nI (n := (i + 1)) (by omega) (by omega)) ?_
      refine aw_callVi (J' := jX11_couples) (As := [.int (xs ((nI (i + 1))).toNatClampNeg)]) (st := []) dL_law_503 tb_814 ok_X11_couples ⟨_, (CW.o0 hcw).choose_spec⟩ (by omega) rfl rfl (g_X11_couples l D b N V (by omega) hcw (xs ((nI (i + 1))).toNatClampNeg)) rfl (Nat.le_of_ble_eq_true rfl) ⟨Nat.le_of_ble_eq_true rfl, Nat.le_of_ble_eq_true rfl, (show _ ≤ 600000 from by omega), (show _ ≤ 7302250 from by omega)⟩ (fun r_207 N_208 V_199 q_209 => ?_)
      obtain ⟨rfl, j_200⟩ := q_209
      have cw_204 := j_200.1
      have cr_205 := CR.fr hcr (fun i h1 h2 => j_200.2.1 i h1 (by omega))
      have wf_206 := WF.fr hwf (fun i h1 h2 => j_200.2.1 i (by omega) (by omega))
      refine aw_pop dL_law_506 rfl ?_
      refine aw_aload_n dL_law_507 rfl ?_
      refine aw_aload_n dL_law_508 rfl ?_
      refine aw_iload_n dL_law_509 rfl ?_
      refine aw_iconst (v := 1) dL_law_510 (by decide) ?_
      refine aw_iadd dL_law_511 ?_
      refine aw_eqi (y := nI (i + 1)) (nI_add _ _) ?_
      refine aw_sld dL_law_512 rfl (vp_in_nI (n := (i + 1)) (by omega) (by omega)) ?_
      refine aw_callVi (J' := jX12_couples) (As := [.int (xs ((nI (i + 1))).toNatClampNeg)]) (st := []) dL_law_513 tb_1493 ok_X12_couples ⟨_, (CR.o100 cr_205).choose_spec⟩ (by omega) rfl rfl (r_couples l D b N V_199 (by omega) cl cr_205 (xs ((nI (i + 1))).toNatClampNeg)) rfl (Nat.le_of_ble_eq_true rfl) ⟨Nat.le_of_ble_eq_true rfl, Nat.le_of_ble_eq_true rfl, (show _ ≤ 600000 from by omega), (show _ ≤ 7302250 from by omega)⟩ (fun r_216 N_217 V_210 q_218 => ?_)
      obtain ⟨rfl, j_214⟩ := q_218
      have cr_212 := j_214.1
      have cw_211 := CW.out cw_204 (fun i hi => j_214.2.1 i (Or.inl hi) (by omega))
      have wf_213 := WF.fr wf_206 j_214.2.2
      refine aw_pop dL_law_516 rfl ?_
      refine aw_goto (tgt := 982) dL_law_517 (by decide) ?_
      refine aw_iinc (v := (nI (i + 6))) (ls' := [some (.ref b9), some (.ref (b + 0)), some (.ref (b + 100)), some (.int (nI (i + 6)))]) dL_law_982 rfl (nI_add i 6) (Nat.le_of_ble_eq_true rfl) rfl ?_
      refine aw_goto (tgt := 18) dL_law_985 (by decide) ?_
      refine mih (M + 6 - (i + 6)) (by omega) (i + 6) N cl V_210 _ _ rfl (by omega) ?_ ?_ (by omega) cw_211 cr_212 wf_213 <;> omega
    · skip
      refine aw_tableIn (off := 487) (tgt := 520) dL_law_33 (by decide) (by decide) (by decide) (by decide) ?_
      refine aw_aload_n dL_law_520 rfl ?_
      refine aw_aload_n dL_law_521 rfl ?_
      refine aw_iload_n dL_law_522 rfl ?_
      refine aw_iconst (v := 1) dL_law_523 (by decide) ?_
      refine aw_iadd dL_law_524 ?_
      refine aw_eqi (y := nI (i + 1)) (nI_add _ _) ?_
      refine aw_sld dL_law_525 rfl (vp_in_nI (n := (i + 1)) (by omega) (by omega)) ?_
      refine aw_aload_n dL_law_526 rfl ?_
      refine aw_iload_n dL_law_527 rfl ?_
      refine aw_iconst (v := 2) dL_law_528 (by decide) ?_
      refine aw_iadd dL_law_529 ?_
      refine aw_eqi (y := nI (i + 2)) (nI_add _ _) ?_
      refine aw_sld dL_law_530 rfl (vp_in_nI (n := (i + 2)) (by omega) (by omega)) ?_
      refine aw_aload_n dL_law_531 rfl ?_
      refine aw_iload_n dL_law_532 rfl ?_
      refine aw_iconst (v := 3) dL_law_533 (by decide) ?_
      refine aw_iadd dL_law_534 ?_
      refine aw_eqi (y := nI (i + 3)) (nI_add _ _) ?_
      refine aw_sld dL_law_535 rfl (vp_in_nI (n := (i + 3)) (by omega) (by omega)) ?_
      refine aw_callVi (J' := jX11_fashion) (As := [.int (xs ((nI (i + 1))).toNatClampNeg), .int (xs ((nI (i + 2))).toNatClampNeg), .int (xs ((nI (i + 3))).toNatClampNeg)]) (st := []) dL_law_536 tb_836 ok_X11_fashion ⟨_, (CW.o0 hcw).choose_spec⟩ (by omega) rfl rfl (g_X11_fashion l D b N V (by omega) hcw (xs ((nI (i + 1))).toNatClampNeg) (xs ((nI (i + 2))).toNatClampNeg) (xs ((nI (i + 3))).toNatClampNeg)) rfl (Nat.le_of_ble_eq_true rfl) ⟨Nat.le_of_ble_eq_true rfl, Nat.le_of_ble_eq_true rfl, (show _ ≤ 600000 from by omega), (show _ ≤ 7302250 from by omega)⟩ (fun r_220 N_221 V_222 q_223 => ?_)
      obtain ⟨rfl, rfl⟩ := q_223
      refine aw_pop dL_law_539 rfl ?_
      refine aw_aload_n dL_law_540 rfl ?_
      refine aw_aload_n dL_law_541 rfl ?_
      refine aw_iload_n dL_law_542 rfl ?_
      refine aw_iconst (v := 1) dL_law_543 (by decide) ?_
      refine aw_iadd dL_law_544 ?_
      refine aw_eqi (y := nI (i + 1)) (nI_add _ _) ?_
      refine aw_sld dL_law_545 rfl (vp_in_nI (n := (i + 1)) (by omega) (by omega)) ?_
      refine aw_aload_n dL_law_546 rfl ?_
      refine aw_iload_n dL_law_547 rfl ?_
      refine aw_iconst (v := 2) dL_law_548 (by decide) ?_
      refine aw_iadd dL_law_549 ?_
      refine aw_eqi (y := nI (i + 2)) (nI_add _ _) ?_
      refine aw_sld dL_law_550 rfl (vp_in_nI (n := (i + 2)) (by omega) (by omega)) ?_
      refine aw_aload_n dL_law_551 rfl ?_
      refine aw_iload_n dL_law_552 rfl ?_
      refine aw_iconst (v := 3) dL_law_553 (by decide) ?_
      refine aw_iadd dL_law_554 ?_
      refine aw_eqi (y := nI (i + 3)) (nI_add _ _) ?_
      refine aw_sld dL_law_555 rfl (vp_in_nI (n := (i + 3)) (by omega) (by omega)) ?_
      refine aw_callVi (J' := jX12_fashion) (As := [.int (xs ((nI (i + 1))).toNatClampNeg), .int (xs ((nI (i + 2))).toNatClampNeg), .int (xs ((nI (i + 3))).toNatClampNeg)]) (st := []) dL_law_556 tb_1504 ok_X12_fashion ⟨_, (CR.o100 hcr).choose_spec⟩ (by omega) rfl rfl (r_fashion l D b N V (by omega) cl hcr (xs ((nI (i + 1))).toNatClampNeg) (xs ((nI (i + 2))).toNatClampNeg) (xs ((nI (i + 3))).toNatClampNeg)) rfl (Nat.le_of_ble_eq_true rfl) ⟨Nat.le_of_ble_eq_true rfl, Nat.le_of_ble_eq_true rfl, (show _ ≤ 600000 from by omega), (show _ ≤ 7302250 from by omega)⟩ (fun r_229 N_230 V_231 q_232 => ?_)
      obtain ⟨rfl, rfl⟩ := q_232
      refine aw_pop dL_law_559 rfl ?_
      refine aw_goto (tgt := 982) dL_law_560 (by decide) ?_
      refine aw_iinc (v := (nI (i + 6))) (ls' := [some (.ref b9), some (.ref (b + 0)), some (.ref (b + 100)), some (.int (nI (i + 6)))]) dL_law_982 rfl (nI_add i 6) (Nat.le_of_ble_eq_true rfl) rfl ?_
      refine aw_goto (tgt := 18) dL_law_985 (by decide) ?_
      refine mih (M + 6 - (i + 6)) (by omega) (i + 6) N cl V _ _ rfl (by omega) ?_ ?_ (by omega) hcw hcr hwf <;> omega
    · skip
      refine aw_tableIn (off := 530) (tgt := 563) dL_law_33 (by decide) (by decide) (by decide) (by decide) ?_
      refine aw_aload_n dL_law_563 rfl ?_
      refine aw_aload_n dL_law_564 rfl ?_
      refine aw_iload_n dL_law_565 rfl ?_
      refine aw_iconst (v := 1) dL_law_566 (by decide) ?_
      refine aw_iadd dL_law_567 ?_
      refine aw_eqi (y := nI (i + 1)) (nI_add _ _) ?_
      refine aw_sld dL_law_568 rfl (vp_in_nI (n := (i + 1)) (by omega) (by omega)) ?_
      refine aw_callVi (J' := jX11_fears) (As := [.int (xs ((nI (i + 1))).toNatClampNeg)]) (st := []) dL_law_569 tb_849 ok_X11_fears ⟨_, (CW.o0 hcw).choose_spec⟩ (by omega) rfl rfl (g_X11_fears l D b N V (by omega) hcw (xs ((nI (i + 1))).toNatClampNeg)) rfl (Nat.le_of_ble_eq_true rfl) ⟨Nat.le_of_ble_eq_true rfl, Nat.le_of_ble_eq_true rfl, (show _ ≤ 600000 from by omega), (show _ ≤ 7302250 from by omega)⟩ (fun r_234 N_235 V_236 q_237 => ?_)
      obtain ⟨rfl, rfl⟩ := q_237
      refine aw_pop dL_law_572 rfl ?_
      refine aw_aload_n dL_law_573 rfl ?_
      refine aw_aload_n dL_law_574 rfl ?_
      refine aw_iload_n dL_law_575 rfl ?_
      refine aw_iconst (v := 1) dL_law_576 (by decide) ?_
      refine aw_iadd dL_law_577 ?_
      refine aw_eqi (y := nI (i + 1)) (nI_add _ _) ?_
      refine aw_sld dL_law_578 rfl (vp_in_nI (n := (i + 1)) (by omega) (by omega)) ?_
      refine aw_callVi (J' := jX12_fears) (As := [.int (xs ((nI (i + 1))).toNatClampNeg)]) (st := []) dL_law_579 tb_1512 ok_X12_fears ⟨_, (CR.o100 hcr).choose_spec⟩ (by omega) rfl rfl (r_fears l D b N V (by omega) cl hcr (xs ((nI (i + 1))).toNatClampNeg)) rfl (Nat.le_of_ble_eq_true rfl) ⟨Nat.le_of_ble_eq_true rfl, Nat.le_of_ble_eq_true rfl, (show _ ≤ 600000 from by omega), (show _ ≤ 7302250 from by omega)⟩ (fun r_243 N_244 V_245 q_246 => ?_)
      obtain ⟨rfl, rfl⟩ := q_246
      refine aw_pop dL_law_582 rfl ?_
      refine aw_goto (tgt := 982) dL_law_583 (by decide) ?_
      refine aw_iinc (v := (nI (i + 6))) (ls' := [some (.ref b9), some (.ref (b + 0)), some (.ref (b + 100)), some (.int (nI (i + 6)))]) dL_law_982 rfl (nI_add i 6) (Nat.le_of_ble_eq_true rfl) rfl ?_
      refine aw_goto (tgt := 18) dL_law_985 (by decide) ?_
      refine mih (M + 6 - (i + 6)) (by omega) (i + 6) N cl V _ _ rfl (by omega) ?_ ?_ (by omega) hcw hcr hwf <;> omega
    · skip
      refine aw_tableIn (off := 553) (tgt := 586) dL_law_33 (by decide) (by decide) (by decide) (by decide) ?_
      refine aw_aload_n dL_law_586 rfl ?_
      refine aw_aload_n dL_law_587 rfl ?_
      refine aw_iload_n dL_law_588 rfl ?_
      refine aw_iconst (v := 1) dL_law_589 (by decide) ?_
      refine aw_iadd dL_law_590 ?_
      refine aw_eqi (y := nI (i + 1)) (nI_add _ _) ?_
      refine aw_sld dL_law_591 rfl (vp_in_nI (n := (i + 1)) (by omega) (by omega)) ?_
      refine aw_aload_n dL_law_592 rfl ?_
      refine aw_iload_n dL_law_593 rfl ?_
      refine aw_iconst (v := 2) dL_law_594 (by decide) ?_
      refine aw_iadd dL_law_595 ?_
      refine aw_eqi (y := nI (i + 2)) (nI_add _ _) ?_
      refine aw_sld dL_law_596 rfl (vp_in_nI (n := (i + 2)) (by omega) (by omega)) ?_
      refine aw_callVi (J' := jX11_unlike) (As := [.int (xs ((nI (i + 1))).toNatClampNeg), .int (xs ((nI (i + 2))).toNatClampNeg)]) (st := []) dL_law_597 tb_863 ok_X11_unlike ⟨_, (CW.o0 hcw).choose_spec⟩ (by omega) rfl rfl (g_X11_unlike l D b N V (by omega) hcw (xs ((nI (i + 1))).toNatClampNeg) (xs ((nI (i + 2))).toNatClampNeg)) rfl (Nat.le_of_ble_eq_true rfl) ⟨Nat.le_of_ble_eq_true rfl, Nat.le_of_ble_eq_true rfl, (show _ ≤ 600000 from by omega), (show _ ≤ 7302250 from by omega)⟩ (fun r_248 N_249 V_250 q_251 => ?_)
      obtain ⟨rfl, rfl⟩ := q_251
      refine aw_pop dL_law_600 rfl ?_
      refine aw_aload_n dL_law_601 rfl ?_
      refine aw_aload_n dL_law_602 rfl ?_
      refine aw_iload_n dL_law_603 rfl ?_
      refine aw_iconst (v := 1) dL_law_604 (by decide) ?_
      refine aw_iadd dL_law_605 ?_
      refine aw_eqi (y := nI (i + 1)) (nI_add _ _) ?_
      refine aw_sld dL_law_606 rfl (vp_in_nI (n := (i + 1)) (by omega) (by omega)) ?_
      refine aw_aload_n dL_law_607 rfl ?_
      refine aw_iload_n dL_law_608 rfl ?_
      refine aw_iconst (v := 2) dL_law_609 (by decide) ?_
      refine aw_iadd dL_law_610 ?_
      refine aw_eqi (y := nI (i + 2)) (nI_add _ _) ?_
      refine aw_sld dL_law_611 rfl (vp_in_nI (n := (i + 2)) (by omega) (by omega)) ?_
      refine aw_callVi (J' := jX12_unlike) (As := [.int (xs ((nI (i + 1))).toNatClampNeg), .int (xs ((nI (i + 2))).toNatClampNeg)]) (st := []) dL_law_612 tb_1516 ok_X12_unlike ⟨_, (CR.o100 hcr).choose_spec⟩ (by omega) rfl rfl (r_unlike l D b N V (by omega) cl hcr (xs ((nI (i + 1))).toNatClampNeg) (xs ((nI (i + 2))).toNatClampNeg)) rfl (Nat.le_of_ble_eq_true rfl) ⟨Nat.le_of_ble_eq_true rfl, Nat.le_of_ble_eq_true rfl, (show _ ≤ 600000 from by omega), (show _ ≤ 7302250 from by omega)⟩ (fun r_257 N_258 V_259 q_260 => ?_)
      obtain ⟨rfl, rfl⟩ := q_260
      refine aw_pop dL_law_615 rfl ?_
      refine aw_goto (tgt := 982) dL_law_616 (by decide) ?_
      refine aw_iinc (v := (nI (i + 6))) (ls' := [some (.ref b9), some (.ref (b + 0)), some (.ref (b + 100)), some (.int (nI (i + 6)))]) dL_law_982 rfl (nI_add i 6) (Nat.le_of_ble_eq_true rfl) rfl ?_
      refine aw_goto (tgt := 18) dL_law_985 (by decide) ?_
      refine mih (M + 6 - (i + 6)) (by omega) (i + 6) N cl V _ _ rfl (by omega) ?_ ?_ (by omega) hcw hcr hwf <;> omega
    · skip
      refine aw_tableIn (off := 586) (tgt := 619) dL_law_33 (by decide) (by decide) (by decide) (by decide) ?_
      refine aw_aload_n dL_law_619 rfl ?_
      refine aw_aload_n dL_law_620 rfl ?_
      refine aw_iload_n dL_law_621 rfl ?_
      refine aw_iconst (v := 1) dL_law_622 (by decide) ?_
      refine aw_iadd dL_law_623 ?_
      refine aw_eqi (y := nI (i + 1)) (nI_add _ _) ?_
      refine aw_sld dL_law_624 rfl (vp_in_nI (n := (i + 1)) (by omega) (by omega)) ?_
      refine aw_callVi (J' := jX11_mostLike) (As := [.int (xs ((nI (i + 1))).toNatClampNeg)]) (st := []) dL_law_625 tb_872 ok_X11_mostLike ⟨_, (CW.o0 hcw).choose_spec⟩ (by omega) rfl rfl (g_X11_mostLike l D b N V (by omega) hcw (xs ((nI (i + 1))).toNatClampNeg)) rfl (Nat.le_of_ble_eq_true rfl) ⟨Nat.le_of_ble_eq_true rfl, Nat.le_of_ble_eq_true rfl, (show _ ≤ 600000 from by omega), (show _ ≤ 7302250 from by omega)⟩ (fun r_262 N_263 V_264 q_265 => ?_)
      obtain ⟨rfl, rfl⟩ := q_265
      refine aw_pop dL_law_628 rfl ?_
      refine aw_aload_n dL_law_629 rfl ?_
      refine aw_aload_n dL_law_630 rfl ?_
      refine aw_iload_n dL_law_631 rfl ?_
      refine aw_iconst (v := 1) dL_law_632 (by decide) ?_
      refine aw_iadd dL_law_633 ?_
      refine aw_eqi (y := nI (i + 1)) (nI_add _ _) ?_
      refine aw_sld dL_law_634 rfl (vp_in_nI (n := (i + 1)) (by omega) (by omega)) ?_
      refine aw_callVi (J' := jX12_mostLike) (As := [.int (xs ((nI (i + 1))).toNatClampNeg)]) (st := []) dL_law_635 tb_1524 ok_X12_mostLike ⟨_, (CR.o100 hcr).choose_spec⟩ (by omega) rfl rfl (r_mostLike l D b N V (by omega) cl hcr (xs ((nI (i + 1))).toNatClampNeg)) rfl (Nat.le_of_ble_eq_true rfl) ⟨Nat.le_of_ble_eq_true rfl, Nat.le_of_ble_eq_true rfl, (show _ ≤ 600000 from by omega), (show _ ≤ 7302250 from by omega)⟩ (fun r_271 N_272 V_273 q_274 => ?_)
      obtain ⟨rfl, rfl⟩ := q_274
      refine aw_pop dL_law_638 rfl ?_
      refine aw_goto (tgt := 982) dL_law_639 (by decide) ?_
      refine aw_iinc (v := (nI (i + 6))) (ls' := [some (.ref b9), some (.ref (b + 0)), some (.ref (b + 100)), some (.int (nI (i + 6)))]) dL_law_982 rfl (nI_add i 6) (Nat.le_of_ble_eq_true rfl) rfl ?_
      refine aw_goto (tgt := 18) dL_law_985 (by decide) ?_
      refine mih (M + 6 - (i + 6)) (by omega) (i + 6) N cl V _ _ rfl (by omega) ?_ ?_ (by omega) hcw hcr hwf <;> omega
    · skip
      refine aw_tableIn (off := 609) (tgt := 642) dL_law_33 (by decide) (by decide) (by decide) (by decide) ?_
      refine aw_aload_n dL_law_642 rfl ?_
      refine aw_aload_n dL_law_643 rfl ?_
      refine aw_iload_n dL_law_644 rfl ?_
      refine aw_iconst (v := 1) dL_law_645 (by decide) ?_
      refine aw_iadd dL_law_646 ?_
      refine aw_eqi (y := nI (i + 1)) (nI_add _ _) ?_
      refine aw_sld dL_law_647 rfl (vp_in_nI (n := (i + 1)) (by omega) (by omega)) ?_
      refine aw_aload_n dL_law_648 rfl ?_
      refine aw_iload_n dL_law_649 rfl ?_
      refine aw_iconst (v := 2) dL_law_650 (by decide) ?_
      refine aw_iadd dL_law_651 ?_
      refine aw_eqi (y := nI (i + 2)) (nI_add _ _) ?_
      refine aw_sld dL_law_652 rfl (vp_in_nI (n := (i + 2)) (by omega) (by omega)) ?_
      refine aw_callVi (J' := jX11_circles) (As := [.int (xs ((nI (i + 1))).toNatClampNeg), .int (xs ((nI (i + 2))).toNatClampNeg)]) (st := []) dL_law_653 tb_881 ok_X11_circles ⟨_, (CW.o0 hcw).choose_spec⟩ (by omega) rfl rfl (g_X11_circles l D b N V (by omega) hcw (xs ((nI (i + 1))).toNatClampNeg) (xs ((nI (i + 2))).toNatClampNeg)) rfl (Nat.le_of_ble_eq_true rfl) ⟨Nat.le_of_ble_eq_true rfl, Nat.le_of_ble_eq_true rfl, (show _ ≤ 600000 from by omega), (show _ ≤ 7302250 from by omega)⟩ (fun r_283 N_284 V_275 q_285 => ?_)
      obtain ⟨rfl, j_276⟩ := q_285
      have cw_280 := j_276.1
      have cr_281 := CR.fr hcr (fun i h1 h2 => j_276.2.1 i h1 (by omega))
      have wf_282 := WF.fr hwf (fun i h1 h2 => j_276.2.1 i (by omega) (by omega))
      refine aw_pop dL_law_656 rfl ?_
      refine aw_aload_n dL_law_657 rfl ?_
      refine aw_aload_n dL_law_658 rfl ?_
      refine aw_iload_n dL_law_659 rfl ?_
      refine aw_iconst (v := 1) dL_law_660 (by decide) ?_
      refine aw_iadd dL_law_661 ?_
      refine aw_eqi (y := nI (i + 1)) (nI_add _ _) ?_
      refine aw_sld dL_law_662 rfl (vp_in_nI (n := (i + 1)) (by omega) (by omega)) ?_
      refine aw_aload_n dL_law_663 rfl ?_
      refine aw_iload_n dL_law_664 rfl ?_
      refine aw_iconst (v := 2) dL_law_665 (by decide) ?_
      refine aw_iadd dL_law_666 ?_
      refine aw_eqi (y := nI (i + 2)) (nI_add _ _) ?_
      refine aw_sld dL_law_667 rfl (vp_in_nI (n := (i + 2)) (by omega) (by omega)) ?_
      refine aw_callVi (J' := jX12_circles) (As := [.int (xs ((nI (i + 1))).toNatClampNeg), .int (xs ((nI (i + 2))).toNatClampNeg)]) (st := []) dL_law_668 tb_1528 ok_X12_circles ⟨_, (CR.o100 cr_281).choose_spec⟩ (by omega) rfl rfl (r_circles l D b N V_275 (by omega) cl cr_281 (xs ((nI (i + 1))).toNatClampNeg) (xs ((nI (i + 2))).toNatClampNeg)) rfl (Nat.le_of_ble_eq_true rfl) ⟨Nat.le_of_ble_eq_true rfl, Nat.le_of_ble_eq_true rfl, (show _ ≤ 600000 from by omega), (show _ ≤ 7302250 from by omega)⟩ (fun r_291 N_292 V_293 q_294 => ?_)
      obtain ⟨rfl, rfl⟩ := q_294
      refine aw_pop dL_law_671 rfl ?_
      refine aw_goto (tgt := 982) dL_law_672 (by decide) ?_
      refine aw_iinc (v := (nI (i + 6))) (ls' := [some (.ref b9), some (.ref (b + 0)), some (.ref (b + 100)), some (.int (nI (i + 6)))]) dL_law_982 rfl (nI_add i 6) (Nat.le_of_ble_eq_true rfl) rfl ?_
      refine aw_goto (tgt := 18) dL_law_985 (by decide) ?_
      refine mih (M + 6 - (i + 6)) (by omega) (i + 6) N cl V_275 _ _ rfl (by omega) ?_ ?_ (by omega) cw_280 cr_281 wf_282 <;> omega
    · skip
      refine aw_tableIn (off := 642) (tgt := 675) dL_law_33 (by decide) (by decide) (by decide) (by decide) ?_
      refine aw_aload_n dL_law_675 rfl ?_
      refine aw_callVi (J' := jX11_keystones) (As := []) (st := []) dL_law_676 tb_904 ok_X11_keystones ⟨_, (CW.o0 hcw).choose_spec⟩ (by omega) rfl rfl (g_X11_keystones l D b N V (by omega) hcw) rfl (Nat.le_of_ble_eq_true rfl) ⟨Nat.le_of_ble_eq_true rfl, Nat.le_of_ble_eq_true rfl, (show _ ≤ 600000 from by omega), (show _ ≤ 7302250 from by omega)⟩ (fun r_296 N_297 V_298 q_299 => ?_)
      obtain ⟨rfl, rfl⟩ := q_299
      refine aw_pop dL_law_679 rfl ?_
      refine aw_aload_n dL_law_680 rfl ?_
      refine aw_callVi (J' := jX12_keystones) (As := []) (st := []) dL_law_681 tb_1536 ok_X12_keystones ⟨_, (CR.o100 hcr).choose_spec⟩ (by omega) rfl rfl (r_keystones l D b N V (by omega) cl hcr) rfl (Nat.le_of_ble_eq_true rfl) ⟨Nat.le_of_ble_eq_true rfl, Nat.le_of_ble_eq_true rfl, (show _ ≤ 600000 from by omega), (show _ ≤ 7302250 from by omega)⟩ (fun r_305 N_306 V_307 q_308 => ?_)
      obtain ⟨rfl, rfl⟩ := q_308
      refine aw_pop dL_law_684 rfl ?_
      refine aw_goto (tgt := 982) dL_law_685 (by decide) ?_
      refine aw_iinc (v := (nI (i + 6))) (ls' := [some (.ref b9), some (.ref (b + 0)), some (.ref (b + 100)), some (.int (nI (i + 6)))]) dL_law_982 rfl (nI_add i 6) (Nat.le_of_ble_eq_true rfl) rfl ?_
      refine aw_goto (tgt := 18) dL_law_985 (by decide) ?_
      refine mih (M + 6 - (i + 6)) (by omega) (i + 6) N cl V _ _ rfl (by omega) ?_ ?_ (by omega) hcw hcr hwf <;> omega
    · skip
      refine aw_tableIn (off := 655) (tgt := 688) dL_law_33 (by decide) (by decide) (by decide) (by decide) ?_
      refine aw_aload_n dL_law_688 rfl ?_
      refine aw_aload_n dL_law_689 rfl ?_
      refine aw_iload_n dL_law_690 rfl ?_
      refine aw_iconst (v := 1) dL_law_691 (by decide) ?_
      refine aw_iadd dL_law_692 ?_
      refine aw_eqi (y := nI (i + 1)) (nI_add _ _) ?_
      refine aw_sld dL_law_693 rfl (vp_in_nI (n := (i + 1)) (by omega) (by omega)) ?_
      refine aw_aload_n dL_law_694 rfl ?_
      refine aw_iload_n dL_law_695 rfl ?_
      refine aw_iconst (v := 2) dL_law_696 (by decide) ?_
      refine aw_iadd dL_law_697 ?_
      refine aw_eqi (y := nI (i + 2)) (nI_add _ _) ?_
      refine aw_sld dL_law_698 rfl (vp_in_nI (n := (i + 2)) (by omega) (by omega)) ?_
      refine aw_callVi (J' := jX11_steps) (As := [.int (xs ((nI (i + 1))).toNatClampNeg), .int (xs ((nI (i + 2))).toNatClampNeg)]) (st := []) dL_law_699 tb_911 ok_X11_steps ⟨_, (CW.o0 hcw).choose_spec⟩ (by omega) rfl rfl (g_X11_steps l D b N V (by omega) hcw (xs ((nI (i + 1))).toNatClampNeg) (xs ((nI (i + 2))).toNatClampNeg)) rfl (Nat.le_of_ble_eq_true rfl) ⟨Nat.le_of_ble_eq_true rfl, Nat.le_of_ble_eq_true rfl, (show _ ≤ 600000 from by omega), (show _ ≤ 7302250 from by omega)⟩ (fun r_310 N_311 V_312 q_313 => ?_)
      obtain ⟨rfl, rfl⟩ := q_313
      refine aw_pop dL_law_702 rfl ?_
      refine aw_aload_n dL_law_703 rfl ?_
      refine aw_aload_n dL_law_704 rfl ?_
      refine aw_iload_n dL_law_705 rfl ?_
      refine aw_iconst (v := 1) dL_law_706 (by decide) ?_
      refine aw_iadd dL_law_707 ?_
      refine aw_eqi (y := nI (i + 1)) (nI_add _ _) ?_
      refine aw_sld dL_law_708 rfl (vp_in_nI (n := (i + 1)) (by omega) (by omega)) ?_
      refine aw_aload_n dL_law_709 rfl ?_
      refine aw_iload_n dL_law_710 rfl ?_
      refine aw_iconst (v := 2) dL_law_711 (by decide) ?_
      refine aw_iadd dL_law_712 ?_
      refine aw_eqi (y := nI (i + 2)) (nI_add _ _) ?_
      refine aw_sld dL_law_713 rfl (vp_in_nI (n := (i + 2)) (by omega) (by omega)) ?_
      refine aw_callVi (J' := jX12_steps) (As := [.int (xs ((nI (i + 1))).toNatClampNeg), .int (xs ((nI (i + 2))).toNatClampNeg)]) (st := []) dL_law_714 tb_1548 ok_X12_steps ⟨_, (CR.o100 hcr).choose_spec⟩ (by omega) rfl rfl (r_steps l D b N V (by omega) cl hcr (xs ((nI (i + 1))).toNatClampNeg) (xs ((nI (i + 2))).toNatClampNeg)) rfl (Nat.le_of_ble_eq_true rfl) ⟨Nat.le_of_ble_eq_true rfl, Nat.le_of_ble_eq_true rfl, (show _ ≤ 600000 from by omega), (show _ ≤ 7302250 from by omega)⟩ (fun r_319 N_320 V_321 q_322 => ?_)
      obtain ⟨rfl, rfl⟩ := q_322
      refine aw_pop dL_law_717 rfl ?_
      refine aw_goto (tgt := 982) dL_law_718 (by decide) ?_
      refine aw_iinc (v := (nI (i + 6))) (ls' := [some (.ref b9), some (.ref (b + 0)), some (.ref (b + 100)), some (.int (nI (i + 6)))]) dL_law_982 rfl (nI_add i 6) (Nat.le_of_ble_eq_true rfl) rfl ?_
      refine aw_goto (tgt := 18) dL_law_985 (by decide) ?_
      refine mih (M + 6 - (i + 6)) (by omega) (i + 6) N cl V _ _ rfl (by omega) ?_ ?_ (by omega) hcw hcr hwf <;> omega
    · skip
      refine aw_tableIn (off := 688) (tgt := 721) dL_law_33 (by decide) (by decide) (by decide) (by decide) ?_
      refine aw_aload_n dL_law_721 rfl ?_
      refine aw_aload_n dL_law_722 rfl ?_
      refine aw_iload_n dL_law_723 rfl ?_
      refine aw_iconst (v := 1) dL_law_724 (by decide) ?_
      refine aw_iadd dL_law_725 ?_
      refine aw_eqi (y := nI (i + 1)) (nI_add _ _) ?_
      refine aw_sld dL_law_726 rfl (vp_in_nI (n := (i + 1)) (by omega) (by omega)) ?_
      refine aw_aload_n dL_law_727 rfl ?_
      refine aw_iload_n dL_law_728 rfl ?_
      refine aw_iconst (v := 2) dL_law_729 (by decide) ?_
      refine aw_iadd dL_law_730 ?_
      refine aw_eqi (y := nI (i + 2)) (nI_add _ _) ?_
      refine aw_sld dL_law_731 rfl (vp_in_nI (n := (i + 2)) (by omega) (by omega)) ?_
      refine aw_callVi (J' := jX11_guess) (As := [.int (xs ((nI (i + 1))).toNatClampNeg), .int (xs ((nI (i + 2))).toNatClampNeg)]) (st := []) dL_law_732 tb_918 ok_X11_guess ⟨_, (CW.o0 hcw).choose_spec⟩ (by omega) rfl rfl (g_X11_guess l D b N V (by omega) hcw (xs ((nI (i + 1))).toNatClampNeg) (xs ((nI (i + 2))).toNatClampNeg)) rfl (Nat.le_of_ble_eq_true rfl) ⟨Nat.le_of_ble_eq_true rfl, Nat.le_of_ble_eq_true rfl, (show _ ≤ 600000 from by omega), (show _ ≤ 7302250 from by omega)⟩ (fun r_331 N_332 V_323 q_333 => ?_)
      obtain ⟨rfl, j_324⟩ := q_333
      have cw_328 := j_324.1
      have cr_329 := CR.fr hcr (fun i h1 h2 => j_324.2.1 i h1 (by omega))
      have wf_330 := WF.fr hwf (fun i h1 h2 => j_324.2.1 i (by omega) (by omega))
      refine aw_pop dL_law_735 rfl ?_
      refine aw_aload_n dL_law_736 rfl ?_
      refine aw_aload_n dL_law_737 rfl ?_
      refine aw_iload_n dL_law_738 rfl ?_
      refine aw_iconst (v := 1) dL_law_739 (by decide) ?_
      refine aw_iadd dL_law_740 ?_
      refine aw_eqi (y := nI (i + 1)) (nI_add _ _) ?_
      refine aw_sld dL_law_741 rfl (vp_in_nI (n := (i + 1)) (by omega) (by omega)) ?_
      refine aw_aload_n dL_law_742 rfl ?_
      refine aw_iload_n dL_law_743 rfl ?_
      refine aw_iconst (v := 2) dL_law_744 (by decide) ?_
      refine aw_iadd dL_law_745 ?_
      refine aw_eqi (y := nI (i + 2)) (nI_add _ _) ?_
      refine aw_sld dL_law_746 rfl (vp_in_nI (n := (i + 2)) (by omega) (by omega)) ?_
      refine aw_callVi (J' := jX12_guess) (As := [.int (xs ((nI (i + 1))).toNatClampNeg), .int (xs ((nI (i + 2))).toNatClampNeg)]) (st := []) dL_law_747 tb_1552 ok_X12_guess ⟨_, (CR.o100 cr_329).choose_spec⟩ (by omega) rfl rfl (r_guess l D b N V_323 (by omega) cl cr_329 (xs ((nI (i + 1))).toNatClampNeg) (xs ((nI (i + 2))).toNatClampNeg)) rfl (Nat.le_of_ble_eq_true rfl) ⟨Nat.le_of_ble_eq_true rfl, Nat.le_of_ble_eq_true rfl, (show _ ≤ 600000 from by omega), (show _ ≤ 7302250 from by omega)⟩ (fun r_340 N_341 V_334 q_342 => ?_)
      obtain ⟨rfl, j_338⟩ := q_342
      have cr_336 := j_338.1
      have cw_335 := CW.out cw_328 (fun i hi => j_338.2.1 i (Or.inl hi) (by omega))
      have wf_337 := WF.fr wf_330 j_338.2.2
      refine aw_pop dL_law_750 rfl ?_
      refine aw_goto (tgt := 982) dL_law_751 (by decide) ?_
      refine aw_iinc (v := (nI (i + 6))) (ls' := [some (.ref b9), some (.ref (b + 0)), some (.ref (b + 100)), some (.int (nI (i + 6)))]) dL_law_982 rfl (nI_add i 6) (Nat.le_of_ble_eq_true rfl) rfl ?_
      refine aw_goto (tgt := 18) dL_law_985 (by decide) ?_
      refine mih (M + 6 - (i + 6)) (by omega) (i + 6) N cl V_334 _ _ rfl (by omega) ?_ ?_ (by omega) cw_335 cr_336 wf_337 <;> omega
    · skip
      refine aw_tableIn (off := 721) (tgt := 754) dL_law_33 (by decide) (by decide) (by decide) (by decide) ?_
      refine aw_aload_n dL_law_754 rfl ?_
      refine aw_aload_n dL_law_755 rfl ?_
      refine aw_iload_n dL_law_756 rfl ?_
      refine aw_iconst (v := 1) dL_law_757 (by decide) ?_
      refine aw_iadd dL_law_758 ?_
      refine aw_eqi (y := nI (i + 1)) (nI_add _ _) ?_
      refine aw_sld dL_law_759 rfl (vp_in_nI (n := (i + 1)) (by omega) (by omega)) ?_
      refine aw_aload_n dL_law_760 rfl ?_
      refine aw_iload_n dL_law_761 rfl ?_
      refine aw_iconst (v := 2) dL_law_762 (by decide) ?_
      refine aw_iadd dL_law_763 ?_
      refine aw_eqi (y := nI (i + 2)) (nI_add _ _) ?_
      refine aw_sld dL_law_764 rfl (vp_in_nI (n := (i + 2)) (by omega) (by omega)) ?_
      refine aw_callVi (J' := jX11_sentNext) (As := [.int (xs ((nI (i + 1))).toNatClampNeg), .int (xs ((nI (i + 2))).toNatClampNeg)]) (st := []) dL_law_765 tb_942 ok_X11_sentNext ⟨_, (CW.o0 hcw).choose_spec⟩ (by omega) rfl rfl (g_X11_sentNext l D b N V (by omega) hcw (xs ((nI (i + 1))).toNatClampNeg) (xs ((nI (i + 2))).toNatClampNeg)) rfl (Nat.le_of_ble_eq_true rfl) ⟨Nat.le_of_ble_eq_true rfl, Nat.le_of_ble_eq_true rfl, (show _ ≤ 600000 from by omega), (show _ ≤ 7302250 from by omega)⟩ (fun r_344 N_345 V_346 q_347 => ?_)
      obtain ⟨rfl, rfl⟩ := q_347
      refine aw_pop dL_law_768 rfl ?_
      refine aw_aload_n dL_law_769 rfl ?_
      refine aw_aload_n dL_law_770 rfl ?_
      refine aw_iload_n dL_law_771 rfl ?_
      refine aw_iconst (v := 1) dL_law_772 (by decide) ?_
      refine aw_iadd dL_law_773 ?_
      refine aw_eqi (y := nI (i + 1)) (nI_add _ _) ?_
      refine aw_sld dL_law_774 rfl (vp_in_nI (n := (i + 1)) (by omega) (by omega)) ?_
      refine aw_aload_n dL_law_775 rfl ?_
      refine aw_iload_n dL_law_776 rfl ?_
      refine aw_iconst (v := 2) dL_law_777 (by decide) ?_
      refine aw_iadd dL_law_778 ?_
      refine aw_eqi (y := nI (i + 2)) (nI_add _ _) ?_
      refine aw_sld dL_law_779 rfl (vp_in_nI (n := (i + 2)) (by omega) (by omega)) ?_
      refine aw_callVi (J' := jX12_sentNext) (As := [.int (xs ((nI (i + 1))).toNatClampNeg), .int (xs ((nI (i + 2))).toNatClampNeg)]) (st := []) dL_law_780 tb_1564 ok_X12_sentNext ⟨_, (CR.o100 hcr).choose_spec⟩ (by omega) rfl rfl (r_sentNext l D b N V (by omega) cl hcr (xs ((nI (i + 1))).toNatClampNeg) (xs ((nI (i + 2))).toNatClampNeg)) rfl (Nat.le_of_ble_eq_true rfl) ⟨Nat.le_of_ble_eq_true rfl, Nat.le_of_ble_eq_true rfl, (show _ ≤ 600000 from by omega), (show _ ≤ 7302250 from by omega)⟩ (fun r_353 N_354 V_355 q_356 => ?_)
      obtain ⟨rfl, rfl⟩ := q_356
      refine aw_pop dL_law_783 rfl ?_
      refine aw_goto (tgt := 982) dL_law_784 (by decide) ?_
      refine aw_iinc (v := (nI (i + 6))) (ls' := [some (.ref b9), some (.ref (b + 0)), some (.ref (b + 100)), some (.int (nI (i + 6)))]) dL_law_982 rfl (nI_add i 6) (Nat.le_of_ble_eq_true rfl) rfl ?_
      refine aw_goto (tgt := 18) dL_law_985 (by decide) ?_
      refine mih (M + 6 - (i + 6)) (by omega) (i + 6) N cl V _ _ rfl (by omega) ?_ ?_ (by omega) hcw hcr hwf <;> omega
    · skip
      refine aw_tableIn (off := 754) (tgt := 787) dL_law_33 (by decide) (by decide) (by decide) (by decide) ?_
      refine aw_aload_n dL_law_787 rfl ?_
      refine aw_aload_n dL_law_788 rfl ?_
      refine aw_iload_n dL_law_789 rfl ?_
      refine aw_iconst (v := 1) dL_law_790 (by decide) ?_
      refine aw_iadd dL_law_791 ?_
      refine aw_eqi (y := nI (i + 1)) (nI_add _ _) ?_
      refine aw_sld dL_law_792 rfl (vp_in_nI (n := (i + 1)) (by omega) (by omega)) ?_
      refine aw_callVi (J' := jX11_guards) (As := [.int (xs ((nI (i + 1))).toNatClampNeg)]) (st := []) dL_law_793 tb_954 ok_X11_guards ⟨_, (CW.o0 hcw).choose_spec⟩ (by omega) rfl rfl (g_X11_guards l D b N V (by omega) hcw (xs ((nI (i + 1))).toNatClampNeg)) rfl (Nat.le_of_ble_eq_true rfl) ⟨Nat.le_of_ble_eq_true rfl, Nat.le_of_ble_eq_true rfl, (show _ ≤ 600000 from by omega), (show _ ≤ 7302250 from by omega)⟩ (fun r_365 N_366 V_357 q_367 => ?_)
      obtain ⟨rfl, j_358⟩ := q_367
      have cw_362 := j_358.1
      have cr_363 := CR.fr hcr (fun i h1 h2 => j_358.2.1 i h1 (by omega))
      have wf_364 := WF.fr hwf (fun i h1 h2 => j_358.2.1 i (by omega) (by omega))
      refine aw_pop dL_law_796 rfl ?_
      refine aw_aload_n dL_law_797 rfl ?_
      refine aw_aload_n dL_law_798 rfl ?_
      refine aw_iload_n dL_law_799 rfl ?_
      refine aw_iconst (v := 1) dL_law_800 (by decide) ?_
      refine aw_iadd dL_law_801 ?_
      refine aw_eqi (y := nI (i + 1)) (nI_add _ _) ?_
      refine aw_sld dL_law_802 rfl (vp_in_nI (n := (i + 1)) (by omega) (by omega)) ?_
      refine aw_callVi (J' := jX12_guards) (As := [.int (xs ((nI (i + 1))).toNatClampNeg)]) (st := []) dL_law_803 tb_1572 ok_X12_guards ⟨_, (CR.o100 cr_363).choose_spec⟩ (by omega) rfl rfl (r_guards l D b N V_357 (by omega) cl cr_363 (xs ((nI (i + 1))).toNatClampNeg)) rfl (Nat.le_of_ble_eq_true rfl) ⟨Nat.le_of_ble_eq_true rfl, Nat.le_of_ble_eq_true rfl, (show _ ≤ 600000 from by omega), (show _ ≤ 7302250 from by omega)⟩ (fun r_374 N_375 V_368 q_376 => ?_)
      obtain ⟨rfl, j_372⟩ := q_376
      have cr_370 := j_372.1
      have cw_369 := CW.out cw_362 (fun i hi => j_372.2.1 i (Or.inl hi) (by omega))
      have wf_371 := WF.fr wf_364 j_372.2.2
      refine aw_pop dL_law_806 rfl ?_
      refine aw_goto (tgt := 982) dL_law_807 (by decide) ?_
      refine aw_iinc (v := (nI (i + 6))) (ls' := [some (.ref b9), some (.ref (b + 0)), some (.ref (b + 100)), some (.int (nI (i + 6)))]) dL_law_982 rfl (nI_add i 6) (Nat.le_of_ble_eq_true rfl) rfl ?_
      refine aw_goto (tgt := 18) dL_law_985 (by decide) ?_
      refine mih (M + 6 - (i + 6)) (by omega) (i + 6) N cl V_368 _ _ rfl (by omega) ?_ ?_ (by omega) cw_369 cr_370 wf_371 <;> omega
    · skip
      refine aw_tableIn (off := 777) (tgt := 810) dL_law_33 (by decide) (by decide) (by decide) (by decide) ?_
      refine aw_aload_n dL_law_810 rfl ?_
      refine aw_aload_n dL_law_811 rfl ?_
      refine aw_iload_n dL_law_812 rfl ?_
      refine aw_iconst (v := 1) dL_law_813 (by decide) ?_
      refine aw_iadd dL_law_814 ?_
      refine aw_eqi (y := nI (i + 1)) (nI_add _ _) ?_
      refine aw_sld dL_law_815 rfl (vp_in_nI (n := (i + 1)) (by omega) (by omega)) ?_
      refine aw_aload_n dL_law_816 rfl ?_
      refine aw_iload_n dL_law_817 rfl ?_
      refine aw_iconst (v := 2) dL_law_818 (by decide) ?_
      refine aw_iadd dL_law_819 ?_
      refine aw_eqi (y := nI (i + 2)) (nI_add _ _) ?_
      refine aw_sld dL_law_820 rfl (vp_in_nI (n := (i + 2)) (by omega) (by omega)) ?_
      refine aw_aload_n dL_law_821 rfl ?_
      refine aw_iload_n dL_law_822 rfl ?_
      refine aw_iconst (v := 3) dL_law_823 (by decide) ?_
      refine aw_iadd dL_law_824 ?_
      refine aw_eqi (y := nI (i + 3)) (nI_add _ _) ?_
      refine aw_sld dL_law_825 rfl (vp_in_nI (n := (i + 3)) (by omega) (by omega)) ?_
      refine aw_callVl (J' := jX11_word) (As := [.int (xs ((nI (i + 1))).toNatClampNeg), .int (xs ((nI (i + 2))).toNatClampNeg), .int (xs ((nI (i + 3))).toNatClampNeg)]) (st := []) dL_law_826 tb_973 ok_X11_word ⟨_, (CW.o0 hcw).choose_spec⟩ (by omega) rfl rfl (g_X11_wordS l D b N V (by omega) hcw (xs ((nI (i + 1))).toNatClampNeg) (xs ((nI (i + 2))).toNatClampNeg) (xs ((nI (i + 3))).toNatClampNeg)) rfl (Nat.le_of_ble_eq_true rfl) ⟨Nat.le_of_ble_eq_true rfl, Nat.le_of_ble_eq_true rfl, (show _ ≤ 600000 from by omega), (show _ ≤ 7302250 from by omega)⟩ (fun r_385 N_386 V_377 q_387 => ?_)
      obtain ⟨hs_379, rfl, j_378⟩ := q_387
      have cw_382 := j_378.1
      have cr_383 := CR.fr hcr (fun i h1 h2 => j_378.2.1 i h1 (by omega))
      have wf_384 := WF.fr hwf (fun i h1 h2 => j_378.2.1 i (by omega) (by omega))
      refine aw_aload_n dL_law_829 rfl ?_
      refine aw_aload_n dL_law_830 rfl ?_
      refine aw_iload_n dL_law_831 rfl ?_
      refine aw_iconst (v := 1) dL_law_832 (by decide) ?_
      refine aw_iadd dL_law_833 ?_
      refine aw_eqi (y := nI (i + 1)) (nI_add _ _) ?_
      refine aw_sld dL_law_834 rfl (vp_in_nI (n := (i + 1)) (by omega) (by omega)) ?_
      refine aw_aload_n dL_law_835 rfl ?_
      refine aw_iload_n dL_law_836 rfl ?_
      refine aw_iconst (v := 2) dL_law_837 (by decide) ?_
      refine aw_iadd dL_law_838 ?_
      refine aw_eqi (y := nI (i + 2)) (nI_add _ _) ?_
      refine aw_sld dL_law_839 rfl (vp_in_nI (n := (i + 2)) (by omega) (by omega)) ?_
      refine aw_aload_n dL_law_840 rfl ?_
      refine aw_iload_n dL_law_841 rfl ?_
      refine aw_iconst (v := 3) dL_law_842 (by decide) ?_
      refine aw_iadd dL_law_843 ?_
      refine aw_eqi (y := nI (i + 3)) (nI_add _ _) ?_
      refine aw_sld dL_law_844 rfl (vp_in_nI (n := (i + 3)) (by omega) (by omega)) ?_
      refine aw_callVl (J' := jX12_word) (As := [.int (xs ((nI (i + 1))).toNatClampNeg), .int (xs ((nI (i + 2))).toNatClampNeg), .int (xs ((nI (i + 3))).toNatClampNeg)]) (st := [.long r_385]) dL_law_845 tb_1588 ok_X12_word ⟨_, (CR.o100 cr_383).choose_spec⟩ (by omega) rfl rfl (r_wordS l D b N V_377 (by omega) cl cr_383 (xs ((nI (i + 1))).toNatClampNeg) (xs ((nI (i + 2))).toNatClampNeg) (xs ((nI (i + 3))).toNatClampNeg)) rfl (Nat.le_of_ble_eq_true rfl) ⟨Nat.le_of_ble_eq_true rfl, Nat.le_of_ble_eq_true rfl, (show _ ≤ 600000 from by omega), (show _ ≤ 7302250 from by omega)⟩ (fun r_397 N_398 V_388 q_399 => ?_)
      obtain ⟨hs_393, rfl, x_394, x_395, x_396⟩ := q_399
      have j_392 := JR.x130 (N := N) cr_383 x_394 x_395 x_396
      have cr_390 := j_392.1
      have cw_389 := CW.out cw_382 (fun i hi => j_392.2.1 i (Or.inl hi) (by omega))
      have wf_391 := WF.fr wf_384 j_392.2.2
      refine aw_lcmp dL_law_848 ?_
      refine aw_if_eq (tgt := 982) dL_law_849 (by decide) (fun c_400 => ?_) (fun c_400 => ?_)
      rotate_left
      · exact absurd (by rw [hs_379, hs_393]; exact fx_lcmp _) c_400
      refine aw_iinc (v := (nI (i + 6))) (ls' := [some (.ref b9), some (.ref (b + 0)), some (.ref (b + 100)), some (.int (nI (i + 6)))]) dL_law_982 rfl (nI_add i 6) (Nat.le_of_ble_eq_true rfl) rfl ?_
      refine aw_goto (tgt := 18) dL_law_985 (by decide) ?_
      refine mih (M + 6 - (i + 6)) (by omega) (i + 6) N cl V_388 _ _ rfl (by omega) ?_ ?_ (by omega) cw_389 cr_390 wf_391 <;> omega
    · skip
      refine aw_tableIn (off := 821) (tgt := 854) dL_law_33 (by decide) (by decide) (by decide) (by decide) ?_
      refine aw_aload_n dL_law_854 rfl ?_
      refine aw_aload_n dL_law_855 rfl ?_
      refine aw_iload_n dL_law_856 rfl ?_
      refine aw_iconst (v := 1) dL_law_857 (by decide) ?_
      refine aw_iadd dL_law_858 ?_
      refine aw_eqi (y := nI (i + 1)) (nI_add _ _) ?_
      refine aw_sld dL_law_859 rfl (vp_in_nI (n := (i + 1)) (by omega) (by omega)) ?_
      refine aw_aload_n dL_law_860 rfl ?_
      refine aw_iload_n dL_law_861 rfl ?_
      refine aw_iconst (v := 2) dL_law_862 (by decide) ?_
      refine aw_iadd dL_law_863 ?_
      refine aw_eqi (y := nI (i + 2)) (nI_add _ _) ?_
      refine aw_sld dL_law_864 rfl (vp_in_nI (n := (i + 2)) (by omega) (by omega)) ?_
      refine aw_callVi (J' := jX11_rooms) (As := [.int (xs ((nI (i + 1))).toNatClampNeg), .int (xs ((nI (i + 2))).toNatClampNeg)]) (st := []) dL_law_865 tb_986 ok_X11_rooms ⟨_, (CW.o0 hcw).choose_spec⟩ (by omega) rfl rfl (g_X11_rooms l D b N V (by omega) hcw (xs ((nI (i + 1))).toNatClampNeg) (xs ((nI (i + 2))).toNatClampNeg)) rfl (Nat.le_of_ble_eq_true rfl) ⟨Nat.le_of_ble_eq_true rfl, Nat.le_of_ble_eq_true rfl, (show _ ≤ 600000 from by omega), (show _ ≤ 7302250 from by omega)⟩ (fun r_409 N_410 V_401 q_411 => ?_)
      obtain ⟨rfl, j_402⟩ := q_411
      have cw_406 := j_402.1
      have cr_407 := CR.fr hcr (fun i h1 h2 => j_402.2.1 i h1 (by omega))
      have wf_408 := WF.fr hwf (fun i h1 h2 => j_402.2.1 i (by omega) (by omega))
      refine aw_pop dL_law_868 rfl ?_
      refine aw_aload_n dL_law_869 rfl ?_
      refine aw_aload_n dL_law_870 rfl ?_
      refine aw_iload_n dL_law_871 rfl ?_
      refine aw_iconst (v := 1) dL_law_872 (by decide) ?_
      refine aw_iadd dL_law_873 ?_
      refine aw_eqi (y := nI (i + 1)) (nI_add _ _) ?_
      refine aw_sld dL_law_874 rfl (vp_in_nI (n := (i + 1)) (by omega) (by omega)) ?_
      refine aw_aload_n dL_law_875 rfl ?_
      refine aw_iload_n dL_law_876 rfl ?_
      refine aw_iconst (v := 2) dL_law_877 (by decide) ?_
      refine aw_iadd dL_law_878 ?_
      refine aw_eqi (y := nI (i + 2)) (nI_add _ _) ?_
      refine aw_sld dL_law_879 rfl (vp_in_nI (n := (i + 2)) (by omega) (by omega)) ?_
      refine aw_callVi (J' := jX12_rooms) (As := [.int (xs ((nI (i + 1))).toNatClampNeg), .int (xs ((nI (i + 2))).toNatClampNeg)]) (st := []) dL_law_880 tb_1593 ok_X12_rooms ⟨_, (CR.o100 cr_407).choose_spec⟩ (by omega) rfl rfl (r_rooms l D b N V_401 (by omega) cl cr_407 (xs ((nI (i + 1))).toNatClampNeg) (xs ((nI (i + 2))).toNatClampNeg)) rfl (Nat.le_of_ble_eq_true rfl) ⟨Nat.le_of_ble_eq_true rfl, Nat.le_of_ble_eq_true rfl, (show _ ≤ 600000 from by omega), (show _ ≤ 7302250 from by omega)⟩ (fun r_418 N_419 V_412 q_420 => ?_)
      obtain ⟨rfl, j_416⟩ := q_420
      have cr_414 := j_416.1
      have cw_413 := CW.out cw_406 (fun i hi => j_416.2.1 i (Or.inl hi) (by omega))
      have wf_415 := WF.fr wf_408 j_416.2.2
      refine aw_pop dL_law_883 rfl ?_
      refine aw_goto (tgt := 982) dL_law_884 (by decide) ?_
      refine aw_iinc (v := (nI (i + 6))) (ls' := [some (.ref b9), some (.ref (b + 0)), some (.ref (b + 100)), some (.int (nI (i + 6)))]) dL_law_982 rfl (nI_add i 6) (Nat.le_of_ble_eq_true rfl) rfl ?_
      refine aw_goto (tgt := 18) dL_law_985 (by decide) ?_
      refine mih (M + 6 - (i + 6)) (by omega) (i + 6) N cl V_412 _ _ rfl (by omega) ?_ ?_ (by omega) cw_413 cr_414 wf_415 <;> omega
    · skip
      refine aw_tableIn (off := 854) (tgt := 887) dL_law_33 (by decide) (by decide) (by decide) (by decide) ?_
      refine aw_aload_n dL_law_887 rfl ?_
      refine aw_aload_n dL_law_888 rfl ?_
      refine aw_iload_n dL_law_889 rfl ?_
      refine aw_iconst (v := 1) dL_law_890 (by decide) ?_
      refine aw_iadd dL_law_891 ?_
      refine aw_eqi (y := nI (i + 1)) (nI_add _ _) ?_
      refine aw_sld dL_law_892 rfl (vp_in_nI (n := (i + 1)) (by omega) (by omega)) ?_
      refine aw_callVi (J' := jX11_seed) (As := [.int (xs ((nI (i + 1))).toNatClampNeg)]) (st := []) dL_law_893 tb_999 ok_X11_seed ⟨_, (CW.o0 hcw).choose_spec⟩ (by omega) rfl rfl (g_X11_seedS l D b N V (by omega) hcw (xs ((nI (i + 1))).toNatClampNeg)) rfl (Nat.le_of_ble_eq_true rfl) ⟨Nat.le_of_ble_eq_true rfl, Nat.le_of_ble_eq_true rfl, (show _ ≤ 600000 from by omega), (show _ ≤ 7302250 from by omega)⟩ (fun r_429 N_430 V_421 q_431 => ?_)
      obtain ⟨hs_423, rfl, j_422⟩ := q_431
      have cw_426 := j_422.1
      have cr_427 := CR.fr hcr (fun i h1 h2 => j_422.2.1 i h1 (by omega))
      have wf_428 := WF.fr hwf (fun i h1 h2 => j_422.2.1 i (by omega) (by omega))
      refine aw_pop dL_law_896 rfl ?_
      refine aw_aload_n dL_law_897 rfl ?_
      refine aw_aload_n dL_law_898 rfl ?_
      refine aw_iload_n dL_law_899 rfl ?_
      refine aw_iconst (v := 1) dL_law_900 (by decide) ?_
      refine aw_iadd dL_law_901 ?_
      refine aw_eqi (y := nI (i + 1)) (nI_add _ _) ?_
      refine aw_sld dL_law_902 rfl (vp_in_nI (n := (i + 1)) (by omega) (by omega)) ?_
      refine aw_callVi (J' := jX12_seed) (As := [.int (xs ((nI (i + 1))).toNatClampNeg)]) (st := []) dL_law_903 tb_1601 ok_X12_seed ⟨_, (CR.o100 cr_427).choose_spec⟩ (by omega) rfl rfl (r_seedS l D b N V_421 (by omega) cl cr_427 (xs ((nI (i + 1))).toNatClampNeg)) rfl (Nat.le_of_ble_eq_true rfl) ⟨Nat.le_of_ble_eq_true rfl, Nat.le_of_ble_eq_true rfl, (show _ ≤ 600000 from by omega), (show _ ≤ 7302250 from by omega)⟩ (fun r_438 N_439 V_432 q_440 => ?_)
      obtain ⟨hs_437, rfl, j_436⟩ := q_440
      have cr_434 := j_436.1
      have cw_433 := CW.out cw_426 (fun i hi => j_436.2.1 i (Or.inl hi) (by omega))
      have wf_435 := WF.fr wf_428 j_436.2.2
      refine aw_pop dL_law_906 rfl ?_
      refine aw_goto (tgt := 982) dL_law_907 (by decide) ?_
      refine aw_iinc (v := (nI (i + 6))) (ls' := [some (.ref b9), some (.ref (b + 0)), some (.ref (b + 100)), some (.int (nI (i + 6)))]) dL_law_982 rfl (nI_add i 6) (Nat.le_of_ble_eq_true rfl) rfl ?_
      refine aw_goto (tgt := 18) dL_law_985 (by decide) ?_
      refine mih (M + 6 - (i + 6)) (by omega) (i + 6) N cl V_432 _ _ rfl (by omega) ?_ ?_ (by omega) cw_433 cr_434 wf_435 <;> omega
    · skip
      refine aw_tableIn (off := 877) (tgt := 910) dL_law_33 (by decide) (by decide) (by decide) (by decide) ?_
      refine aw_aload_n dL_law_910 rfl ?_
      refine aw_callVi (J' := jX11_keep) (As := []) (st := []) dL_law_911 tb_1003 ok_X11_keep ⟨_, (CW.o0 hcw).choose_spec⟩ (by omega) rfl rfl (g_X11_keep l D b N V (by omega) hcw) rfl (Nat.le_of_ble_eq_true rfl) ⟨Nat.le_of_ble_eq_true rfl, Nat.le_of_ble_eq_true rfl, (show _ ≤ 600000 from by omega), (show _ ≤ 7302250 from by omega)⟩ (fun r_449 N_450 V_441 q_451 => ?_)
      obtain ⟨rfl, j_442⟩ := q_451
      have cw_446 := j_442.1
      have cr_447 := CR.fr hcr (fun i h1 h2 => j_442.2.1 i h1 (by omega))
      have wf_448 := WF.fr hwf (fun i h1 h2 => j_442.2.1 i (by omega) (by omega))
      refine aw_pop dL_law_914 rfl ?_
      refine aw_aload_n dL_law_915 rfl ?_
      refine aw_callVi (J' := jX12_keep) (As := []) (st := []) dL_law_916 tb_1605 ok_X12_keep ⟨_, (CR.o100 cr_447).choose_spec⟩ (by omega) rfl rfl (r_keep l D b N V_441 (by omega) cl cr_447) rfl (Nat.le_of_ble_eq_true rfl) ⟨Nat.le_of_ble_eq_true rfl, Nat.le_of_ble_eq_true rfl, (show _ ≤ 600000 from by omega), (show _ ≤ 7302250 from by omega)⟩ (fun r_458 N_459 V_452 q_460 => ?_)
      obtain ⟨rfl, j_456⟩ := q_460
      have cr_454 := j_456.1
      have cw_453 := CW.out cw_446 (fun i hi => j_456.2.1 i (Or.inl hi) (by omega))
      have wf_455 := WF.fr wf_448 j_456.2.2
      refine aw_pop dL_law_919 rfl ?_
      refine aw_goto (tgt := 982) dL_law_920 (by decide) ?_
      refine aw_iinc (v := (nI (i + 6))) (ls' := [some (.ref b9), some (.ref (b + 0)), some (.ref (b + 100)), some (.int (nI (i + 6)))]) dL_law_982 rfl (nI_add i 6) (Nat.le_of_ble_eq_true rfl) rfl ?_
      refine aw_goto (tgt := 18) dL_law_985 (by decide) ?_
      refine mih (M + 6 - (i + 6)) (by omega) (i + 6) N cl V_452 _ _ rfl (by omega) ?_ ?_ (by omega) cw_453 cr_454 wf_455 <;> omega
    · skip
      refine aw_tableIn (off := 890) (tgt := 923) dL_law_33 (by decide) (by decide) (by decide) (by decide) ?_
      refine aw_aload_n dL_law_923 rfl ?_
      refine aw_callVi (J' := jX11_undo) (As := []) (st := []) dL_law_924 tb_1007 ok_X11_undo ⟨_, (CW.o0 hcw).choose_spec⟩ (by omega) rfl rfl (g_X11_undo l D b N V (by omega) hcw) rfl (Nat.le_of_ble_eq_true rfl) ⟨Nat.le_of_ble_eq_true rfl, Nat.le_of_ble_eq_true rfl, (show _ ≤ 600000 from by omega), (show _ ≤ 7302250 from by omega)⟩ (fun r_469 N_470 V_461 q_471 => ?_)
      obtain ⟨_, rfl, j_462⟩ := q_471
      have cw_466 := j_462.1
      have cr_467 := CR.fr hcr (fun i h1 h2 => j_462.2.1 i h1 (by omega))
      have wf_468 := WF.fr hwf (fun i h1 h2 => j_462.2.1 i (by omega) (by omega))
      refine aw_pop dL_law_927 rfl ?_
      refine aw_aload_n dL_law_928 rfl ?_
      refine aw_callVi (J' := jX12_undo) (As := []) (st := []) dL_law_929 tb_1609 ok_X12_undo ⟨_, (CR.o100 cr_467).choose_spec⟩ (by omega) rfl rfl (r_undo l D b N V_461 (by omega) cl cr_467) rfl (Nat.le_of_ble_eq_true rfl) ⟨Nat.le_of_ble_eq_true rfl, Nat.le_of_ble_eq_true rfl, (show _ ≤ 600000 from by omega), (show _ ≤ 7302250 from by omega)⟩ (fun r_478 N_479 V_472 q_480 => ?_)
      obtain ⟨_, rfl, j_476⟩ := q_480
      have cr_474 := j_476.1
      have cw_473 := CW.out cw_466 (fun i hi => j_476.2.1 i (Or.inl hi) (by omega))
      have wf_475 := WF.fr wf_468 j_476.2.2
      refine aw_pop dL_law_932 rfl ?_
      refine aw_goto (tgt := 982) dL_law_933 (by decide) ?_
      refine aw_iinc (v := (nI (i + 6))) (ls' := [some (.ref b9), some (.ref (b + 0)), some (.ref (b + 100)), some (.int (nI (i + 6)))]) dL_law_982 rfl (nI_add i 6) (Nat.le_of_ble_eq_true rfl) rfl ?_
      refine aw_goto (tgt := 18) dL_law_985 (by decide) ?_
      refine mih (M + 6 - (i + 6)) (by omega) (i + 6) N cl V_472 _ _ rfl (by omega) ?_ ?_ (by omega) cw_473 cr_474 wf_475 <;> omega
    · skip
      refine aw_tableIn (off := 903) (tgt := 936) dL_law_33 (by decide) (by decide) (by decide) (by decide) ?_
      refine aw_aload_n dL_law_936 rfl ?_
      refine aw_aload_n dL_law_937 rfl ?_
      refine aw_iload_n dL_law_938 rfl ?_
      refine aw_iconst (v := 1) dL_law_939 (by decide) ?_
      refine aw_iadd dL_law_940 ?_
      refine aw_eqi (y := nI (i + 1)) (nI_add _ _) ?_
      refine aw_sld dL_law_941 rfl (vp_in_nI (n := (i + 1)) (by omega) (by omega)) ?_
      refine aw_callVi (J' := jX11_check) (As := [.int (xs ((nI (i + 1))).toNatClampNeg)]) (st := []) dL_law_942 tb_1015 ok_X11_check ⟨_, (CW.o0 hcw).choose_spec⟩ (by omega) rfl rfl (g_X11_check l D b N V (by omega) hcw (xs ((nI (i + 1))).toNatClampNeg)) rfl (Nat.le_of_ble_eq_true rfl) ⟨Nat.le_of_ble_eq_true rfl, Nat.le_of_ble_eq_true rfl, (show _ ≤ 600000 from by omega), (show _ ≤ 7302250 from by omega)⟩ (fun r_489 N_490 V_481 q_491 => ?_)
      obtain ⟨rfl, j_482⟩ := q_491
      have cw_486 := j_482.1
      have cr_487 := CR.fr hcr (fun i h1 h2 => j_482.2.1 i h1 (by omega))
      have wf_488 := WF.fr hwf (fun i h1 h2 => j_482.2.1 i (by omega) (by omega))
      refine aw_pop dL_law_945 rfl ?_
      refine aw_aload_n dL_law_946 rfl ?_
      refine aw_aload_n dL_law_947 rfl ?_
      refine aw_iload_n dL_law_948 rfl ?_
      refine aw_iconst (v := 1) dL_law_949 (by decide) ?_
      refine aw_iadd dL_law_950 ?_
      refine aw_eqi (y := nI (i + 1)) (nI_add _ _) ?_
      refine aw_sld dL_law_951 rfl (vp_in_nI (n := (i + 1)) (by omega) (by omega)) ?_
      refine aw_callVi (J' := jX12_check) (As := [.int (xs ((nI (i + 1))).toNatClampNeg)]) (st := []) dL_law_952 tb_1613 ok_X12_check ⟨_, (CR.o100 cr_487).choose_spec⟩ (by omega) rfl rfl (r_check l D b N V_481 (by omega) cl cr_487 (xs ((nI (i + 1))).toNatClampNeg)) rfl (Nat.le_of_ble_eq_true rfl) ⟨Nat.le_of_ble_eq_true rfl, Nat.le_of_ble_eq_true rfl, (show _ ≤ 600000 from by omega), (show _ ≤ 7302250 from by omega)⟩ (fun r_498 N_499 V_492 q_500 => ?_)
      obtain ⟨rfl, j_496⟩ := q_500
      have cr_494 := j_496.1
      have cw_493 := CW.out cw_486 (fun i hi => j_496.2.1 i (Or.inl hi) (by omega))
      have wf_495 := WF.fr wf_488 j_496.2.2
      refine aw_pop dL_law_955 rfl ?_
      refine aw_goto (tgt := 982) dL_law_956 (by decide) ?_
      refine aw_iinc (v := (nI (i + 6))) (ls' := [some (.ref b9), some (.ref (b + 0)), some (.ref (b + 100)), some (.int (nI (i + 6)))]) dL_law_982 rfl (nI_add i 6) (Nat.le_of_ble_eq_true rfl) rfl ?_
      refine aw_goto (tgt := 18) dL_law_985 (by decide) ?_
      refine mih (M + 6 - (i + 6)) (by omega) (i + 6) N cl V_492 _ _ rfl (by omega) ?_ ?_ (by omega) cw_493 cr_494 wf_495 <;> omega
    · skip
      refine aw_tableIn (off := 926) (tgt := 959) dL_law_33 (by decide) (by decide) (by decide) (by decide) ?_
      refine aw_aload_n dL_law_959 rfl ?_
      refine aw_aload_n dL_law_960 rfl ?_
      refine aw_iload_n dL_law_961 rfl ?_
      refine aw_iconst (v := 1) dL_law_962 (by decide) ?_
      refine aw_iadd dL_law_963 ?_
      refine aw_eqi (y := nI (i + 1)) (nI_add _ _) ?_
      refine aw_sld dL_law_964 rfl (vp_in_nI (n := (i + 1)) (by omega) (by omega)) ?_
      refine aw_callVi (J' := jX11_count) (As := [.int (xs ((nI (i + 1))).toNatClampNeg)]) (st := []) dL_law_965 tb_1019 ok_X11_count ⟨_, (CW.o0 hcw).choose_spec⟩ (by omega) rfl rfl (g_X11_count l D b N V (by omega) hcw (xs ((nI (i + 1))).toNatClampNeg)) rfl (Nat.le_of_ble_eq_true rfl) ⟨Nat.le_of_ble_eq_true rfl, Nat.le_of_ble_eq_true rfl, (show _ ≤ 600000 from by omega), (show _ ≤ 7302250 from by omega)⟩ (fun r_502 N_503 V_504 q_505 => ?_)
      obtain ⟨rfl, rfl⟩ := q_505
      refine aw_pop dL_law_968 rfl ?_
      refine aw_aload_n dL_law_969 rfl ?_
      refine aw_aload_n dL_law_970 rfl ?_
      refine aw_iload_n dL_law_971 rfl ?_
      refine aw_iconst (v := 1) dL_law_972 (by decide) ?_
      refine aw_iadd dL_law_973 ?_
      refine aw_eqi (y := nI (i + 1)) (nI_add _ _) ?_
      refine aw_sld dL_law_974 rfl (vp_in_nI (n := (i + 1)) (by omega) (by omega)) ?_
      refine aw_callVi (J' := jX12_count) (As := [.int (xs ((nI (i + 1))).toNatClampNeg)]) (st := []) dL_law_975 tb_1617 ok_X12_count ⟨_, (CR.o100 hcr).choose_spec⟩ (by omega) rfl rfl (r_count l D b N V (by omega) cl hcr (xs ((nI (i + 1))).toNatClampNeg)) rfl (Nat.le_of_ble_eq_true rfl) ⟨Nat.le_of_ble_eq_true rfl, Nat.le_of_ble_eq_true rfl, (show _ ≤ 600000 from by omega), (show _ ≤ 7302250 from by omega)⟩ (fun r_511 N_512 V_513 q_514 => ?_)
      obtain ⟨rfl, rfl⟩ := q_514
      refine aw_pop dL_law_978 rfl ?_
      refine aw_goto (tgt := 982) dL_law_979 (by decide) ?_
      refine aw_iinc (v := (nI (i + 6))) (ls' := [some (.ref b9), some (.ref (b + 0)), some (.ref (b + 100)), some (.int (nI (i + 6)))]) dL_law_982 rfl (nI_add i 6) (Nat.le_of_ble_eq_true rfl) rfl ?_
      refine aw_goto (tgt := 18) dL_law_985 (by decide) ?_
      refine mih (M + 6 - (i + 6)) (by omega) (i + 6) N cl V _ _ rfl (by omega) ?_ ?_ (by omega) hcw hcr hwf <;> omega
    · skip
      refine aw_tableOut (tgt := 982) dL_law_33 (Or.inr (by decide)) (by decide) ?_
      refine aw_iinc (v := (nI (i + 6))) (ls' := [some (.ref b9), some (.ref (b + 0)), some (.ref (b + 100)), some (.int (nI (i + 6)))]) dL_law_982 rfl (nI_add i 6) (Nat.le_of_ble_eq_true rfl) rfl ?_
      refine aw_goto (tgt := 18) dL_law_985 (by decide) ?_
      refine mih (M + 6 - (i + 6)) (by omega) (i + 6) N cl V _ _ rfl (by omega) ?_ ?_ (by omega) hcw hcr hwf <;> omega
    · skip
      refine aw_tableOut (tgt := 982) dL_law_33 (Or.inr (by decide)) (by decide) ?_
      refine aw_iinc (v := (nI (i + 6))) (ls' := [some (.ref b9), some (.ref (b + 0)), some (.ref (b + 100)), some (.int (nI (i + 6)))]) dL_law_982 rfl (nI_add i 6) (Nat.le_of_ble_eq_true rfl) rfl ?_
      refine aw_goto (tgt := 18) dL_law_985 (by decide) ?_
      refine mih (M + 6 - (i + 6)) (by omega) (i + 6) N cl V _ _ rfl (by omega) ?_ ?_ (by omega) hcw hcr hwf <;> omega
    · skip
      refine aw_tableOut (tgt := 982) dL_law_33 (Or.inr (by decide)) (by decide) ?_
      refine aw_iinc (v := (nI (i + 6))) (ls' := [some (.ref b9), some (.ref (b + 0)), some (.ref (b + 100)), some (.int (nI (i + 6)))]) dL_law_982 rfl (nI_add i 6) (Nat.le_of_ble_eq_true rfl) rfl ?_
      refine aw_goto (tgt := 18) dL_law_985 (by decide) ?_
      refine mih (M + 6 - (i + 6)) (by omega) (i + 6) N cl V _ _ rfl (by omega) ?_ ?_ (by omega) hcw hcr hwf <;> omega

set_option maxHeartbeats 4000000 in
set_option maxRecDepth 100000 in
theorem law_short (l : Launch) (D : va_G) (b b9 : Nat) (xs : Nat → Int32) (L : Nat) (hL : L < 6) (V : Wd) : AW l D b jL_law room_1 (some (b9, L, xs)) (lawQ b) 0 [some (.ref b9), none, none, none] [] 0 V 0 0 := by
  refine aw_new dL_law_0 nw_L_7 (Nat.le_of_ble_eq_true rfl) (Nat.le_of_ble_eq_true rfl) ?_
  refine aw_dup dL_law_3 rfl ?_
  refine aw_callIv (As := []) (st := [.ref (b + 0)]) dL_law_4 tb_23 ok_X11_init rfl (c_initFearLocks l D b (va_up V 0 (cO 10 [.null, .null, .null, .null, .int 0, .null, .null, .null, .null, .null, .null])) (va_up_self _ _ _)) rfl (Nat.le_of_ble_eq_true rfl) ⟨Nat.le_of_ble_eq_true rfl, Nat.le_of_ble_eq_true rfl, Nat.le_of_ble_eq_true rfl, Nat.le_of_ble_eq_true rfl⟩ (fun  N_3 V_2 q_4 => ?_)
  obtain ⟨rfl, hI_1⟩ := q_4
  refine aw_astore_n (ls' := [some (.ref b9), some (.ref (b + 0)), none, none]) dL_law_7 (Nat.le_of_ble_eq_true rfl) rfl ?_
  refine aw_new dL_law_8 nw_L_10 (Nat.le_of_ble_eq_true rfl) (Nat.le_of_ble_eq_true rfl) ?_
  refine aw_dup dL_law_11 rfl ?_
  refine aw_callIv (As := []) (st := [.ref (b + 100)]) dL_law_12 tb_1034 ok_X12_init rfl (k_init l D b (va_up V_2 100 (cO 11 [.null, .null, .null, .null, .null, .null, .null, .null, .null, .int 0, .int 0, .int 0, .null, .int 0, .int 0, .int 0, .int 0, .int 0, .int 0, .int 0, .int 0, .int 0, .int 0, .null, .null, .null, .null, .null, .null, .null, .null, .null, .null, .null, .null, .null, .int 0, .int 0, .int 0, .int 0, .null, .null, .null, .null, .null, .int 0, .int 0, .null, .null, .null, .null, .int 0])) (va_up_self _ _ _)) rfl (Nat.le_of_ble_eq_true rfl) ⟨Nat.le_of_ble_eq_true rfl, Nat.le_of_ble_eq_true rfl, Nat.le_of_ble_eq_true rfl, Nat.le_of_ble_eq_true rfl⟩ (fun  N_8 V_7 q_9 => ?_)
  obtain ⟨rfl, hM_5, fr_6⟩ := q_9
  refine aw_astore_n (ls' := [some (.ref b9), some (.ref (b + 0)), some (.ref (b + 100)), none]) dL_law_15 (Nat.le_of_ble_eq_true rfl) rfl ?_
  refine aw_iconst (v := 0) dL_law_16 (by decide) ?_
  refine aw_istore_n (ls' := [some (.ref b9), some (.ref (b + 0)), some (.ref (b + 100)), some (.int 0)]) dL_law_17 (Nat.le_of_ble_eq_true rfl) rfl ?_
  refine aw_iload_n dL_law_18 rfl ?_
  refine aw_aload_n dL_law_19 rfl ?_
  refine aw_slen dL_law_20 rfl ?_
  refine aw_eqi (y := (nI L)) rfl ?_
  refine aw_bipush (v := 6) dL_law_21 (by decide) ?_
  refine aw_isub dL_law_23 ?_
  refine aw_icmp_gt (tgt := 988) dL_law_24 (by decide) (fun c_10 => ?_) (fun c_10 => ?_)
  rotate_left
  · exact absurd (fx_L6 L hL) c_10
  refine aw_iconst (v := 1) dL_law_988 (by decide) ?_
  exact aw_lawret dL_law_989 (Nat.le_of_ble_eq_true rfl) (Nat.le_of_ble_eq_true rfl)

set_option maxHeartbeats 4000000 in
set_option maxRecDepth 100000 in
theorem law_six (l : Launch) (D : va_G) (b b9 : Nat) (xs : Nat → Int32) (M : Nat) (hM : M + 6 ≤ 3072) (V : Wd) : AW l D b jL_law room_1 (some (b9, (M + 6), xs)) (lawQ b) 0 [some (.ref b9), none, none, none] [] 0 V 0 0 := by
  refine aw_new dL_law_0 nw_L_7 (Nat.le_of_ble_eq_true rfl) (Nat.le_of_ble_eq_true rfl) ?_
  refine aw_dup dL_law_3 rfl ?_
  refine aw_callIv (As := []) (st := [.ref (b + 0)]) dL_law_4 tb_23 ok_X11_init rfl (c_initFearLocks l D b (va_up V 0 (cO 10 [.null, .null, .null, .null, .int 0, .null, .null, .null, .null, .null, .null])) (va_up_self _ _ _)) rfl (Nat.le_of_ble_eq_true rfl) ⟨Nat.le_of_ble_eq_true rfl, Nat.le_of_ble_eq_true rfl, Nat.le_of_ble_eq_true rfl, Nat.le_of_ble_eq_true rfl⟩ (fun  N_3 V_2 q_4 => ?_)
  obtain ⟨rfl, hI_1⟩ := q_4
  refine aw_astore_n (ls' := [some (.ref b9), some (.ref (b + 0)), none, none]) dL_law_7 (Nat.le_of_ble_eq_true rfl) rfl ?_
  refine aw_new dL_law_8 nw_L_10 (Nat.le_of_ble_eq_true rfl) (Nat.le_of_ble_eq_true rfl) ?_
  refine aw_dup dL_law_11 rfl ?_
  refine aw_callIv (As := []) (st := [.ref (b + 100)]) dL_law_12 tb_1034 ok_X12_init rfl (k_init l D b (va_up V_2 100 (cO 11 [.null, .null, .null, .null, .null, .null, .null, .null, .null, .int 0, .int 0, .int 0, .null, .int 0, .int 0, .int 0, .int 0, .int 0, .int 0, .int 0, .int 0, .int 0, .int 0, .null, .null, .null, .null, .null, .null, .null, .null, .null, .null, .null, .null, .null, .int 0, .int 0, .int 0, .int 0, .null, .null, .null, .null, .null, .int 0, .int 0, .null, .null, .null, .null, .int 0])) (va_up_self _ _ _)) rfl (Nat.le_of_ble_eq_true rfl) ⟨Nat.le_of_ble_eq_true rfl, Nat.le_of_ble_eq_true rfl, Nat.le_of_ble_eq_true rfl, Nat.le_of_ble_eq_true rfl⟩ (fun  N_8 V_7 q_9 => ?_)
  obtain ⟨rfl, hM_5, fr_6⟩ := q_9
  refine aw_astore_n (ls' := [some (.ref b9), some (.ref (b + 0)), some (.ref (b + 100)), none]) dL_law_15 (Nat.le_of_ble_eq_true rfl) rfl ?_
  refine aw_iconst (v := 0) dL_law_16 (by decide) ?_
  refine aw_istore_n (ls' := [some (.ref b9), some (.ref (b + 0)), some (.ref (b + 100)), some (.int 0)]) dL_law_17 (Nat.le_of_ble_eq_true rfl) rfl ?_
  have hcw := CW.out (I0.cw hI_1) (fun i hi => (fr_6 i hi).trans (va_up_ne _ _ (by omega)))
  exact law_loop l D b b9 xs M hM _ 0 133 0 V_7 _ _ rfl (by omega) (Nat.le_of_ble_eq_true rfl) (Nat.le_of_ble_eq_true rfl) (by omega) hcw (M0.cr hM_5).1 (M0.cr hM_5).2
