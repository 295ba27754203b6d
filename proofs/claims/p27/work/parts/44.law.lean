/-! THE CLAIM OUT OF ONE WALK OF THE LAW'S BODY. Your part is whole_start (and what it stands on); all else here is the same for every law, but numbers. -/
def R_law : String := "FearLocksLaw"
def lw_P (b : Addr) (xs : List Int32) (args : Array Value) (s : State) : Prop := args = #[.ref b] ∧ s.IntsAt b xs ∧ xs.length ≤ 3072 ∧ (Jvm.Cond.and given_1 narrow_1).before args s = true
def lw_Q (_ : Array Value) (s : State) (o : Outcome) (t : State) : Prop := o = .returned (some (.int 1)) ∧ Framed s o t [] 600000 7302250
def lw_Z (below : List Frame) (a : Array Value) (s : State) : State → Prop := fun t => ∃ o, t.status = .running ∧ Ended t below o ∧ lw_Q a s o t
/-- the law's own end, with 1 on the stack, nothing written that was there before, its room as the claim has it -/
theorem lw_ret {p : Program} {l : Launch} {e : Env} {s : State} {m : MethodId} {below : List Frame} {meth : Method} {c : Code} {args : Array Value} (hx : p.tables.exec = Jvm.exec) (hb : c.code = code) (hr : meth.sig.returnType = ret) (hlocks : meth.locks = false) {pc : Nat} {H : Heap} {ls : Array Slot} (hdg : decode code pc = .ok (.ireturn, 1)) : W p l e room_1 s m args below meth c H [] 600000 7302250 (lw_Z below args s) (F0 m pc ls [.int 1]) := by
  intro T hT X
  obtain ⟨fs, hret, hrun, hended, hW, hframe⟩ := X.leave (v := some (.int 1)) (hlocks := hlocks) (fun h => by rw [hr] at h; cases h)
  have hmeth' : T.vm.method? m = some meth := X.method'
  refine ⟨T.setFrames fs, ?_, .returned (some (.int 1)), hrun, hended, rfl, ⟨_, rfl⟩, hW, hframe⟩
  jvm_step X.here [X.here.top, hx, hb, hdg, hmeth', hr, ret, narrow_b1]
  (try refine ⟨rfl, ?_⟩); (try refine ⟨rfl, ?_⟩)
  first | (intro acts; rw [hret _ acts rfl rfl rfl]) | rw [hret _ _ rfl rfl rfl]
  exact Steps.refl _

def jL_law : Md := (yL_law, cL_law, 4, some .boolean)
def lawQ (b : Nat) : Array Value → List Frame → State → State → Prop := fun args below s t => s.heap.size ≤ b → lw_Z below args s t
theorem aw_lawret {l : Launch} {D : va_G} {b : Nat} {X : Sc} {pc : Nat} {ls : List (Option Value)} {N : Nat} {V : Wd} {k n : Nat} (hd : decode code pc = .ok (.ireturn, 1)) (hk : k ≤ 600000) (hn : n ≤ 7302250) : AW l D b jL_law room_1 X (lawQ b) pc ls [.int 1] N V k n := by
  intro p e s m args below meth c H locs arr hC hL hA hS T hT X9
  by_cases hsz : s.heap.size ≤ b
  · obtain ⟨t, a1, q⟩ := va_forget (fun q hq => Nat.le_trans hsz (hS.2.2 q hq)) (W.widen hk hn (lw_ret (args := args) hC.1 hC.2.1 hC.2.2.1 hC.2.2.2.2.2.2.1 (H := H) (ls := arr) hd)) T hT X9
    exact ⟨t, a1, fun _ => q⟩
  · exact ⟨_, Steps.refl _, fun h => absurd h hsz⟩

theorem fx_and31 (x : Int32) : ∃ j : Nat, j < 32 ∧ x &&& 31 = nI j := by
  have e : x = nI x.toBitVec.toNat := by
    apply Int32.toBitVec_inj.mp
    simp [nI]
  refine ⟨x.toBitVec.toNat &&& 31, Nat.lt_of_le_of_lt Nat.and_le_right (by decide), ?_⟩
  rw [← fx_andI, ← e]; rfl
theorem fx_lcmp (x : Int64) : lg_cmp x x = 0 := by
  unfold lg_cmp; simp

theorem fx_L6 : ∀ L : Nat, L < 6 → nI L - 6 < 0 := by decide
theorem fx_law6 {M : Nat} : nI (M + 6) - 6 = nI M := by
  rw [← nI_add]; show nI M + 6 - 6 = nI M
  exact Int32.add_sub_cancel _ _
theorem aw_pop2 {l : Launch} {D : va_G} {b : Nat} {J : Md} {R : Room} {X : Sc} {FQ : Array Value → List Frame → State → State → Prop} {pc : Nat} {ls : List (Option Value)} {st : List Value} {N : Nat} {V : Wd} {k n : Nat} {va : Value} (hd : decode J.2.1 pc = .ok (.pop2, 1)) (hv : va.category = 2) (h : AW l D b J R X FQ (pc + 1) ls (st) N V k n) : AW l D b J R X FQ pc ls (va :: st) N V k n := fun p e s m args below meth c H locs arr hC hL hA hS => lv_pop2_2 hC.1 hC.2.1 hd hv (h p e s m args below meth c H locs arr hC hL hA hS)
theorem CW.o0 {D : va_G} {b : Nat} {V : Wd} (h : CW D b V) : ∃ fs, V 0 = cO 10 fs := by
  obtain ⟨_, _, _, e, _⟩ := h 0 _ rfl; exact ⟨_, e⟩
theorem CR.o100 {D : va_G} {b cl : Nat} {V : Wd} (h : CR D b cl V) : ∃ fs, V 100 = cO 11 fs := by
  obtain ⟨_, _, _, _, _, _, _, _, _, _, _, _, _, _, _, _, _, _, _, e, _⟩ := h 0 _ rfl; exact ⟨_, e⟩
theorem CR.fr {D : va_G} {b cl : Nat} {V V' : Wd} (h : CR D b cl V) (f : ∀ i, 100 ≤ i → i < 133 → V' i = V i) : CR D b cl V' := by
  intro i P hi
  have := (List.getElem?_eq_some_iff.mp hi).1
  rw [ctR_len] at this
  rw [f (100 + i) (by omega) (by omega)]; exact h i P hi

theorem nw_L_10 : fx_nw RL 10 11 [.null, .null, .null, .null, .null, .null, .null, .null, .null, .int 0, .int 0, .int 0, .null, .int 0, .int 0, .int 0, .int 0, .int 0, .int 0, .int 0, .int 0, .int 0, .int 0, .null, .null, .null, .null, .null, .null, .null, .null, .null, .null, .null, .null, .null, .int 0, .int 0, .int 0, .int 0, .null, .null, .null, .null, .null, .int 0, .int 0, .null, .null, .null, .null, .int 0] := ⟨RX12, TX12, 52, tyX12, rfl, uw_X12, tyX12_ok, tb_1032, tb_1033, tb_10, by decide +kernel, rfl⟩

theorem nw_L_7 : fx_nw RL 7 10 [.null, .null, .null, .null, .int 0, .null, .null, .null, .null, .null, .null] := ⟨RX11, TX11, 11, tyX11, rfl, uw_X11, tyX11_ok, tb_21, tb_22, tb_1, by decide +kernel, rfl⟩

set_option maxHeartbeats 20000000 in
set_option maxRecDepth 100000 in
theorem law_loop (l : Launch) (D : va_G) (b b9 : Nat) (xs : Nat → Int32) (M : Nat) (hM : M + 6 ≤ 3072) : ∀ (m i N cl : Nat) (V : Wd) (k n : Nat), m = M + 6 - i → i ≤ M + 6 → k ≤ 200 + i → n ≤ 70000 + 3 * i → 133 ≤ N → CW D b V → CR D b cl V → WF D cl V → RLs V → AW l D b jL_law room_1 (some (b9, (M + 6), xs)) (lawQ b) 18 [some (.ref b9), some (.ref (b + 0)), some (.ref (b + 100)), some (.int (nI i))] [] N V k n := by
  intro m; refine Nat.strongRecOn m ?_
  intro m mih i N cl V k n hm hi hk hn hN hcw hcr hwf hrl
  refine aw_iload_n dL_law_18 rfl ?_
  refine aw_aload_n dL_law_19 rfl ?_
  refine aw_slen dL_law_20 rfl ?_
  refine aw_eqi (y := (nI (M + 6))) rfl ?_
  refine aw_bipush (v := 6) dL_law_21 (by decide) ?_
  refine aw_isub dL_law_23 ?_
  refine aw_eqi (y := (nI M)) fx_law6 ?_
  refine aw_icmp_gt (tgt := 987) dL_law_24 (by decide) (fun c_1 => ?_) (fun c_1 => ?_)
  · skip
    have nc_1 : M < i := (nI_ltI (a := M) (b := i) (by omega) (by omega)).mp c_1
    refine aw_iconst (v := 1) dL_law_987 (by decide) ?_
    exact aw_lawret dL_law_988 (by omega) (by omega)
  · skip
    have nc_1 : ¬ (M < i) := fun z => c_1 ((nI_ltI (a := M) (b := i) (by omega) (by omega)).mpr z)
    refine aw_aload_n dL_law_27 rfl ?_
    refine aw_iload_n dL_law_28 rfl ?_
    refine aw_sld dL_law_29 rfl (vp_in_nI (n := i) (by omega) (by omega)) ?_
    refine aw_bipush (v := 31) dL_law_30 (by decide) ?_
    refine aw_iand dL_law_32 ?_
    obtain ⟨j, hj, ej⟩ := fx_and31 (xs ((nI i)).toNatClampNeg)
    refine aw_eqi ej ?_
    have hj32 : j = 0 ∨ j = 1 ∨ j = 2 ∨ j = 3 ∨ j = 4 ∨ j = 5 ∨ j = 6 ∨ j = 7 ∨ j = 8 ∨ j = 9 ∨ j = 10 ∨ j = 11 ∨ j = 12 ∨ j = 13 ∨ j = 14 ∨ j = 15 ∨ j = 16 ∨ j = 17 ∨ j = 18 ∨ j = 19 ∨ j = 20 ∨ j = 21 ∨ j = 22 ∨ j = 23 ∨ j = 24 ∨ j = 25 ∨ j = 26 ∨ j = 27 ∨ j = 28 ∨ j = 29 ∨ j = 30 ∨ j = 31 := by omega
    rcases hj32 with rfl | rfl | rfl | rfl | rfl | rfl | rfl | rfl | rfl | rfl | rfl | rfl | rfl | rfl | rfl | rfl | rfl | rfl | rfl | rfl | rfl | rfl | rfl | rfl | rfl | rfl | rfl | rfl | rfl | rfl | rfl | rfl
    · skip
      refine aw_tableIn (off := 131) (tgt := 164) dL_law_33 (by decide) (by decide) (by decide) (by decide) ?_
      refine aw_aload_n dL_law_164 rfl ?_
      refine aw_aload_n dL_law_165 rfl ?_
      refine aw_iload_n dL_law_166 rfl ?_
      refine aw_iconst (v := 1) dL_law_167 (by decide) ?_
      refine aw_iadd dL_law_168 ?_
      refine aw_eqi (y := nI (i + 1)) (nI_add _ _) ?_
      refine aw_sld dL_law_169 rfl (vp_in_nI (n := (i + 1)) (by omega) (by omega)) ?_
      refine aw_aload_n dL_law_170 rfl ?_
      refine aw_iload_n dL_law_171 rfl ?_
      refine aw_iconst (v := 2) dL_law_172 (by decide) ?_
      refine aw_iadd dL_law_173 ?_
      refine aw_eqi (y := nI (i + 2)) (nI_add _ _) ?_
      refine aw_sld dL_law_174 rfl (vp_in_nI (n := (i + 2)) (by omega) (by omega)) ?_
      refine aw_aload_n dL_law_175 rfl ?_
      refine aw_iload_n dL_law_176 rfl ?_
      refine aw_iconst (v := 3) dL_law_177 (by decide) ?_
      refine aw_iadd dL_law_178 ?_
      refine aw_eqi (y := nI (i + 3)) (nI_add _ _) ?_
      refine aw_sld dL_law_179 rfl (vp_in_nI (n := (i + 3)) (by omega) (by omega)) ?_
      refine aw_aload_n dL_law_180 rfl ?_
      refine aw_iload_n dL_law_181 rfl ?_
      refine aw_iconst (v := 4) dL_law_182 (by decide) ?_
      refine aw_iadd dL_law_183 ?_
      refine aw_eqi (y := nI (i + 4)) (nI_add _ _) ?_
      refine aw_sld dL_law_184 rfl (vp_in_nI (n := (i + 4)) (by omega) (by omega)) ?_
      refine aw_aload_n dL_law_185 rfl ?_
      refine aw_iload_n dL_law_186 rfl ?_
      refine aw_iconst (v := 5) dL_law_187 (by decide) ?_
      refine aw_iadd dL_law_188 ?_
      refine aw_eqi (y := nI (i + 5)) (nI_add _ _) ?_
      refine aw_sld dL_law_189 rfl (vp_in_nI (n := (i + 5)) (by omega) (by omega)) ?_
      refine aw_callVi (J' := jX11_feed) (As := [.int (xs ((nI (i + 1))).toNatClampNeg), .int (xs ((nI (i + 2))).toNatClampNeg), .int (xs ((nI (i + 3))).toNatClampNeg), .int (xs ((nI (i + 4))).toNatClampNeg), .int (xs ((nI (i + 5))).toNatClampNeg)]) (st := []) dL_law_190 tb_255 ok_X11_feed ⟨_, (CW.o0 hcw).choose_spec⟩ (by omega) rfl rfl (g_X11_feedK l D b N V (by omega) hcw (xs ((nI (i + 1))).toNatClampNeg) (xs ((nI (i + 2))).toNatClampNeg) (xs ((nI (i + 3))).toNatClampNeg) (xs ((nI (i + 4))).toNatClampNeg) (xs ((nI (i + 5))).toNatClampNeg) (RLs.tape hrl hcr)) rfl (Nat.le_of_ble_eq_true rfl) ⟨Nat.le_of_ble_eq_true rfl, Nat.le_of_ble_eq_true rfl, (show _ ≤ 600000 from by omega), (show _ ≤ 7302250 from by omega)⟩ (fun r_11 N_12 V_2 q_13 => ?_)
      obtain ⟨hs_4, rfl, j_3⟩ := q_13
      have cw_8 := j_3.1
      have cr_9 := CR.fr hcr (fun i h1 h2 => j_3.2.1 i h1 (by omega))
      have wf_10 := WF.fr hwf (fun i h1 h2 => j_3.2.1 i (by omega) (by omega))
      refine aw_pop dL_law_193 rfl ?_
      refine aw_aload_n dL_law_194 rfl ?_
      refine aw_aload_n dL_law_195 rfl ?_
      refine aw_iload_n dL_law_196 rfl ?_
      refine aw_iconst (v := 1) dL_law_197 (by decide) ?_
      refine aw_iadd dL_law_198 ?_
      refine aw_eqi (y := nI (i + 1)) (nI_add _ _) ?_
      refine aw_sld dL_law_199 rfl (vp_in_nI (n := (i + 1)) (by omega) (by omega)) ?_
      refine aw_aload_n dL_law_200 rfl ?_
      refine aw_iload_n dL_law_201 rfl ?_
      refine aw_iconst (v := 2) dL_law_202 (by decide) ?_
      refine aw_iadd dL_law_203 ?_
      refine aw_eqi (y := nI (i + 2)) (nI_add _ _) ?_
      refine aw_sld dL_law_204 rfl (vp_in_nI (n := (i + 2)) (by omega) (by omega)) ?_
      refine aw_aload_n dL_law_205 rfl ?_
      refine aw_iload_n dL_law_206 rfl ?_
      refine aw_iconst (v := 3) dL_law_207 (by decide) ?_
      refine aw_iadd dL_law_208 ?_
      refine aw_eqi (y := nI (i + 3)) (nI_add _ _) ?_
      refine aw_sld dL_law_209 rfl (vp_in_nI (n := (i + 3)) (by omega) (by omega)) ?_
      refine aw_aload_n dL_law_210 rfl ?_
      refine aw_iload_n dL_law_211 rfl ?_
      refine aw_iconst (v := 4) dL_law_212 (by decide) ?_
      refine aw_iadd dL_law_213 ?_
      refine aw_eqi (y := nI (i + 4)) (nI_add _ _) ?_
      refine aw_sld dL_law_214 rfl (vp_in_nI (n := (i + 4)) (by omega) (by omega)) ?_
      refine aw_aload_n dL_law_215 rfl ?_
      refine aw_iload_n dL_law_216 rfl ?_
      refine aw_iconst (v := 5) dL_law_217 (by decide) ?_
      refine aw_iadd dL_law_218 ?_
      refine aw_eqi (y := nI (i + 5)) (nI_add _ _) ?_
      refine aw_sld dL_law_219 rfl (vp_in_nI (n := (i + 5)) (by omega) (by omega)) ?_
      refine aw_callVi (J' := jX12_feed) (As := [.int (xs ((nI (i + 1))).toNatClampNeg), .int (xs ((nI (i + 2))).toNatClampNeg), .int (xs ((nI (i + 3))).toNatClampNeg), .int (xs ((nI (i + 4))).toNatClampNeg), .int (xs ((nI (i + 5))).toNatClampNeg)]) (st := []) dL_law_220 tb_1197 ok_X12_feed ⟨_, (CR.o100 cr_9).choose_spec⟩ (by omega) rfl rfl (r_feedK l D b N V_2 (by omega) cl cr_9 (xs ((nI (i + 1))).toNatClampNeg) (xs ((nI (i + 2))).toNatClampNeg) (xs ((nI (i + 3))).toNatClampNeg) (xs ((nI (i + 4))).toNatClampNeg) (xs ((nI (i + 5))).toNatClampNeg)) rfl (Nat.le_of_ble_eq_true rfl) ⟨Nat.le_of_ble_eq_true rfl, Nat.le_of_ble_eq_true rfl, (show _ ≤ 600000 from by omega), (show _ ≤ 7302250 from by omega)⟩ (fun r_24 N_25 V_14 q_26 => ?_)
      obtain ⟨hs_19, rfl, jr_18⟩ := q_26
      have cr_16 := jr_18.1
      have cw_15 := CW.out cw_8 (fun i hi => jr_18.2.1 i (Or.inl hi) (by omega))
      have wf_17 := WF.fr wf_10 jr_18.2.2.1
      have e_22 : fI (V_2 100) 13 = fI (V 1) 1 := (congrArg (fun z => fI z 13) (j_3.2.1 100 (by decide) (by omega))).trans (hrl.2.2.2).symm
      rw [e_22] at hs_19
      have o_23 := FDS.one hs_4 hs_19
      have rl_21 : RLs V_14 := ⟨(congrArg (fun z => fI z 4) (jr_18.2.1 0 (Or.inl (by decide)) (by omega))).trans ((JW.fI j_3 (by decide) (by decide) : fI (V_2 0) 4 = fI (V 0) 4).trans ((hrl.1).trans ((congrArg (fun z => fI z 51) (j_3.2.1 100 (by decide) (by omega))).symm.trans ((JR.fI jr_18 (by decide) (by decide) (by decide)) : fI (V_14 100) 51 = fI (V_2 100) 51).symm))), (congrArg (fun z => fI z 7) (jr_18.2.1 3 (Or.inl (by decide)) (by omega))).trans ((JW.fI j_3 (by decide) (by decide) : fI (V_2 3) 7 = fI (V 3) 7).trans ((hrl.2.1).trans ((congrArg (fun z => fI z 208) (j_3.2.1 101 (by decide) (by omega))).symm.trans ((JR.fI jr_18 (by decide) (by decide) (by decide)) : fI (V_14 101) 208 = fI (V_2 101) 208).symm))), (congrArg (fun z => fI z 7) (jr_18.2.1 39 (Or.inl (by decide)) (by omega))).trans ((JW.fI j_3 (by decide) (by decide) : fI (V_2 39) 7 = fI (V 39) 7).trans ((hrl.2.2.1).trans ((congrArg (fun z => fI z 208) (j_3.2.1 103 (by decide) (by omega))).symm.trans ((JR.fI jr_18 (by decide) (by decide) (by decide)) : fI (V_14 103) 208 = fI (V_2 103) 208).symm))), (congrArg (fun z => fI z 1) (jr_18.2.1 1 (Or.inl (by decide)) (by omega))).trans o_23.2⟩
      refine aw_pop dL_law_223 rfl ?_
      refine aw_goto (tgt := 981) dL_law_224 (by decide) ?_
      refine aw_iinc (v := (nI (i + 6))) (ls' := [some (.ref b9), some (.ref (b + 0)), some (.ref (b + 100)), some (.int (nI (i + 6)))]) dL_law_981 rfl (nI_add i 6) (Nat.le_of_ble_eq_true rfl) rfl ?_
      refine aw_goto (tgt := 18) dL_law_984 (by decide) ?_
      refine mih (M + 6 - (i + 6)) (by omega) (i + 6) N cl V_14 _ _ rfl (by omega) ?_ ?_ (by omega) cw_15 cr_16 wf_17 rl_21 <;> omega
    · skip
      refine aw_tableIn (off := 194) (tgt := 227) dL_law_33 (by decide) (by decide) (by decide) (by decide) ?_
      refine aw_aload_n dL_law_227 rfl ?_
      refine aw_aload_n dL_law_228 rfl ?_
      refine aw_iload_n dL_law_229 rfl ?_
      refine aw_iconst (v := 1) dL_law_230 (by decide) ?_
      refine aw_iadd dL_law_231 ?_
      refine aw_eqi (y := nI (i + 1)) (nI_add _ _) ?_
      refine aw_sld dL_law_232 rfl (vp_in_nI (n := (i + 1)) (by omega) (by omega)) ?_
      refine aw_callVi (J' := jX11_law) (As := [.int (xs ((nI (i + 1))).toNatClampNeg)]) (st := []) dL_law_233 tb_263 ok_X11_law ⟨_, (CW.o0 hcw).choose_spec⟩ (by omega) rfl rfl (g_X11_lawK l D b N V (by omega) hcw (xs ((nI (i + 1))).toNatClampNeg)) rfl (Nat.le_of_ble_eq_true rfl) ⟨Nat.le_of_ble_eq_true rfl, Nat.le_of_ble_eq_true rfl, (show _ ≤ 600000 from by omega), (show _ ≤ 7302250 from by omega)⟩ (fun r_36 N_37 V_27 q_38 => ?_)
      obtain ⟨hm_31, hm_32, hs_29, j_28⟩ := q_38
      have cw_33 := j_28.1
      have cr_34 := CR.fr hcr (fun i h1 h2 => j_28.2.1 i h1 (by omega))
      have wf_35 := WF.fr hwf (fun i h1 h2 => j_28.2.1 i (by omega) (by omega))
      refine aw_pop dL_law_236 rfl ?_
      refine aw_aload_n dL_law_237 rfl ?_
      refine aw_aload_n dL_law_238 rfl ?_
      refine aw_iload_n dL_law_239 rfl ?_
      refine aw_iconst (v := 1) dL_law_240 (by decide) ?_
      refine aw_iadd dL_law_241 ?_
      refine aw_eqi (y := nI (i + 1)) (nI_add _ _) ?_
      refine aw_sld dL_law_242 rfl (vp_in_nI (n := (i + 1)) (by omega) (by omega)) ?_
      refine aw_callVi (J' := jX12_law) (As := [.int (xs ((nI (i + 1))).toNatClampNeg)]) (st := []) dL_law_243 tb_1205 ok_X12_law ⟨_, (CR.o100 cr_34).choose_spec⟩ (by omega) rfl rfl (r_lawK l D b N_37 V_27 (by omega) cl cr_34 (xs ((nI (i + 1))).toNatClampNeg) wf_35 (xs ((nI (i + 1))).toNatClampNeg) rfl) rfl (Nat.le_of_ble_eq_true rfl) ⟨Nat.le_of_ble_eq_true rfl, Nat.le_of_ble_eq_true rfl, (show _ ≤ 600000 from by omega), (show _ ≤ 7302250 from by omega)⟩ (fun r_50 N_51 V_39 q_52 => ?_)
      obtain ⟨rfl, cl_47, cr_41, fr_48, wf_42, jr_43, hs_44⟩ := q_52
      have cw_40 := CW.out cw_33 (fun i hi => fr_48 i (Or.inl hi) (by omega))
      have e_49 : fI (V_27 100) 13 = fI (V 1) 1 := (congrArg (fun z => fI z 13) (j_28.2.1 100 (by decide) (by omega))).trans (hrl.2.2.2).symm
      rw [e_49] at hs_44
      have rl_46 : RLs V_39 := ⟨(congrArg (fun z => fI z 4) (fr_48 0 (Or.inl (by decide)) (by omega))).trans ((JW.fI j_28 (by decide) (by decide) : fI (V_27 0) 4 = fI (V 0) 4).trans ((hrl.1).trans ((congrArg (fun z => fI z 51) (j_28.2.1 100 (by decide) (by omega))).symm.trans ((fI_pj (jr_43 100 51 (by decide) (by decide) (by decide))) : fI (V_39 100) 51 = fI (V_27 100) 51).symm))), (congrArg (fun z => fI z 7) (fr_48 3 (Or.inl (by decide)) (by omega))).trans ((JW.fI j_28 (by decide) (by decide) : fI (V_27 3) 7 = fI (V 3) 7).trans ((hrl.2.1).trans ((congrArg (fun z => fI z 208) (j_28.2.1 101 (by decide) (by omega))).symm.trans ((fI_pj (jr_43 101 208 (by decide) (by decide) (by decide))) : fI (V_39 101) 208 = fI (V_27 101) 208).symm))), (congrArg (fun z => fI z 7) (fr_48 39 (Or.inl (by decide)) (by omega))).trans ((JW.fI j_28 (by decide) (by decide) : fI (V_27 39) 7 = fI (V 39) 7).trans ((hrl.2.2.1).trans ((congrArg (fun z => fI z 208) (j_28.2.1 103 (by decide) (by omega))).symm.trans ((fI_pj (jr_43 103 208 (by decide) (by decide) (by decide))) : fI (V_39 103) 208 = fI (V_27 103) 208).symm))), (congrArg (fun z => fI z 1) (fr_48 1 (Or.inl (by decide)) (by omega))).trans (TKS.one hs_29 hs_44)⟩
      refine aw_pop dL_law_246 rfl ?_
      refine aw_goto (tgt := 981) dL_law_247 (by decide) ?_
      refine aw_iinc (v := (nI (i + 6))) (ls' := [some (.ref b9), some (.ref (b + 0)), some (.ref (b + 100)), some (.int (nI (i + 6)))]) dL_law_981 rfl (nI_add i 6) (Nat.le_of_ble_eq_true rfl) rfl ?_
      refine aw_goto (tgt := 18) dL_law_984 (by decide) ?_
      refine mih (M + 6 - (i + 6)) (by omega) (i + 6) N_37 cl_47 V_39 _ _ rfl (by omega) ?_ ?_ (by omega) cw_40 cr_41 wf_42 rl_46 <;> omega
    · skip
      refine aw_tableIn (off := 217) (tgt := 250) dL_law_33 (by decide) (by decide) (by decide) (by decide) ?_
      refine aw_aload_n dL_law_250 rfl ?_
      refine aw_aload_n dL_law_251 rfl ?_
      refine aw_iload_n dL_law_252 rfl ?_
      refine aw_iconst (v := 1) dL_law_253 (by decide) ?_
      refine aw_iadd dL_law_254 ?_
      refine aw_eqi (y := nI (i + 1)) (nI_add _ _) ?_
      refine aw_sld dL_law_255 rfl (vp_in_nI (n := (i + 1)) (by omega) (by omega)) ?_
      refine aw_aload_n dL_law_256 rfl ?_
      refine aw_iload_n dL_law_257 rfl ?_
      refine aw_iconst (v := 2) dL_law_258 (by decide) ?_
      refine aw_iadd dL_law_259 ?_
      refine aw_eqi (y := nI (i + 2)) (nI_add _ _) ?_
      refine aw_sld dL_law_260 rfl (vp_in_nI (n := (i + 2)) (by omega) (by omega)) ?_
      refine aw_callVi (J' := jX11_dreads) (As := [.int (xs ((nI (i + 1))).toNatClampNeg), .int (xs ((nI (i + 2))).toNatClampNeg)]) (st := []) dL_law_261 tb_577 ok_X11_dreads ⟨_, (CW.o0 hcw).choose_spec⟩ (by omega) rfl rfl (g_X11_dreadsK l D b N V (by omega) hcw (xs ((nI (i + 1))).toNatClampNeg) (xs ((nI (i + 2))).toNatClampNeg)) rfl (Nat.le_of_ble_eq_true rfl) ⟨Nat.le_of_ble_eq_true rfl, Nat.le_of_ble_eq_true rfl, (show _ ≤ 600000 from by omega), (show _ ≤ 7302250 from by omega)⟩ (fun r_62 N_63 V_53 q_64 => ?_)
      obtain ⟨hm_57, hm_58, hs_55, hn_56, j_54⟩ := q_64
      have cw_59 := j_54.1
      have cr_60 := CR.fr hcr (fun i h1 h2 => j_54.2.1 i h1 (by omega))
      have wf_61 := WF.fr hwf (fun i h1 h2 => j_54.2.1 i (by omega) (by omega))
      refine aw_pop dL_law_264 rfl ?_
      refine aw_aload_n dL_law_265 rfl ?_
      refine aw_aload_n dL_law_266 rfl ?_
      refine aw_iload_n dL_law_267 rfl ?_
      refine aw_iconst (v := 1) dL_law_268 (by decide) ?_
      refine aw_iadd dL_law_269 ?_
      refine aw_eqi (y := nI (i + 1)) (nI_add _ _) ?_
      refine aw_sld dL_law_270 rfl (vp_in_nI (n := (i + 1)) (by omega) (by omega)) ?_
      refine aw_aload_n dL_law_271 rfl ?_
      refine aw_iload_n dL_law_272 rfl ?_
      refine aw_iconst (v := 2) dL_law_273 (by decide) ?_
      refine aw_iadd dL_law_274 ?_
      refine aw_eqi (y := nI (i + 2)) (nI_add _ _) ?_
      refine aw_sld dL_law_275 rfl (vp_in_nI (n := (i + 2)) (by omega) (by omega)) ?_
      refine aw_callVi (J' := jX12_dreads) (As := [.int (xs ((nI (i + 1))).toNatClampNeg), .int (xs ((nI (i + 2))).toNatClampNeg)]) (st := []) dL_law_276 tb_1295 ok_X12_dreads ⟨_, (CR.o100 cr_60).choose_spec⟩ (by omega) rfl rfl (r_dreadsK l D b N_63 V_53 (by omega) cl cr_60 (xs ((nI (i + 1))).toNatClampNeg) (xs ((nI (i + 2))).toNatClampNeg) (xs ((nI (i + 1))).toNatClampNeg) (xs ((nI (i + 2))).toNatClampNeg) ⟨rfl, rfl⟩) rfl (Nat.le_of_ble_eq_true rfl) ⟨Nat.le_of_ble_eq_true rfl, Nat.le_of_ble_eq_true rfl, (show _ ≤ 600000 from by omega), (show _ ≤ 7302250 from by omega)⟩ (fun r_74 N_75 V_65 q_76 => ?_)
      obtain ⟨⟨hs_70, hn_71⟩, rfl, jr_69⟩ := q_76
      have cr_67 := jr_69.1
      have cw_66 := CW.out cw_59 (fun i hi => jr_69.2.1 i (Or.inl hi) (by omega))
      have wf_68 := WF.fr wf_61 jr_69.2.2.1
      have e_73 : fI (V_53 100) 13 = fI (V 1) 1 := (congrArg (fun z => fI z 13) (j_54.2.1 100 (by decide) (by omega))).trans (hrl.2.2.2).symm
      rw [e_73] at hs_70
      have rl_72 : RLs V_65 := ⟨(congrArg (fun z => fI z 4) (jr_69.2.1 0 (Or.inl (by decide)) (by omega))).trans ((JW.fI j_54 (by decide) (by decide) : fI (V_53 0) 4 = fI (V 0) 4).trans ((hrl.1).trans ((congrArg (fun z => fI z 51) (j_54.2.1 100 (by decide) (by omega))).symm.trans ((JR.fI jr_69 (by decide) (by decide) (by decide)) : fI (V_65 100) 51 = fI (V_53 100) 51).symm))), (congrArg (fun z => fI z 7) (jr_69.2.1 3 (Or.inl (by decide)) (by omega))).trans (hn_56.trans ((hrl.2.1).trans ((congrArg (fun z => fI z 208) (j_54.2.1 101 (by decide) (by omega))).symm.trans hn_71.symm))), (congrArg (fun z => fI z 7) (jr_69.2.1 39 (Or.inl (by decide)) (by omega))).trans ((JW.fI j_54 (by decide) (by decide) : fI (V_53 39) 7 = fI (V 39) 7).trans ((hrl.2.2.1).trans ((congrArg (fun z => fI z 208) (j_54.2.1 103 (by decide) (by omega))).symm.trans ((JR.fI jr_69 (by decide) (by decide) (by decide)) : fI (V_65 103) 208 = fI (V_53 103) 208).symm))), (congrArg (fun z => fI z 1) (jr_69.2.1 1 (Or.inl (by decide)) (by omega))).trans (TKS.one hs_55 hs_70)⟩
      refine aw_pop dL_law_279 rfl ?_
      refine aw_goto (tgt := 981) dL_law_280 (by decide) ?_
      refine aw_iinc (v := (nI (i + 6))) (ls' := [some (.ref b9), some (.ref (b + 0)), some (.ref (b + 100)), some (.int (nI (i + 6)))]) dL_law_981 rfl (nI_add i 6) (Nat.le_of_ble_eq_true rfl) rfl ?_
      refine aw_goto (tgt := 18) dL_law_984 (by decide) ?_
      refine mih (M + 6 - (i + 6)) (by omega) (i + 6) N_63 cl V_65 _ _ rfl (by omega) ?_ ?_ (by omega) cw_66 cr_67 wf_68 rl_72 <;> omega
    · skip
      refine aw_tableIn (off := 250) (tgt := 283) dL_law_33 (by decide) (by decide) (by decide) (by decide) ?_
      refine aw_aload_n dL_law_283 rfl ?_
      refine aw_aload_n dL_law_284 rfl ?_
      refine aw_iload_n dL_law_285 rfl ?_
      refine aw_iconst (v := 1) dL_law_286 (by decide) ?_
      refine aw_iadd dL_law_287 ?_
      refine aw_eqi (y := nI (i + 1)) (nI_add _ _) ?_
      refine aw_sld dL_law_288 rfl (vp_in_nI (n := (i + 1)) (by omega) (by omega)) ?_
      refine aw_callVi (J' := jX11_orders) (As := [.int (xs ((nI (i + 1))).toNatClampNeg)]) (st := []) dL_law_289 tb_605 ok_X11_orders ⟨_, (CW.o0 hcw).choose_spec⟩ (by omega) rfl rfl (g_X11_ordersK l D b N V (by omega) hcw (xs ((nI (i + 1))).toNatClampNeg)) rfl (Nat.le_of_ble_eq_true rfl) ⟨Nat.le_of_ble_eq_true rfl, Nat.le_of_ble_eq_true rfl, (show _ ≤ 600000 from by omega), (show _ ≤ 7302250 from by omega)⟩ (fun r_86 N_87 V_77 q_88 => ?_)
      obtain ⟨hm_81, hm_82, hs_79, hn_80, j_78⟩ := q_88
      have cw_83 := j_78.1
      have cr_84 := CR.fr hcr (fun i h1 h2 => j_78.2.1 i h1 (by omega))
      have wf_85 := WF.fr hwf (fun i h1 h2 => j_78.2.1 i (by omega) (by omega))
      refine aw_pop dL_law_292 rfl ?_
      refine aw_aload_n dL_law_293 rfl ?_
      refine aw_aload_n dL_law_294 rfl ?_
      refine aw_iload_n dL_law_295 rfl ?_
      refine aw_iconst (v := 1) dL_law_296 (by decide) ?_
      refine aw_iadd dL_law_297 ?_
      refine aw_eqi (y := nI (i + 1)) (nI_add _ _) ?_
      refine aw_sld dL_law_298 rfl (vp_in_nI (n := (i + 1)) (by omega) (by omega)) ?_
      refine aw_callVi (J' := jX12_orders) (As := [.int (xs ((nI (i + 1))).toNatClampNeg)]) (st := []) dL_law_299 tb_1331 ok_X12_orders ⟨_, (CR.o100 cr_84).choose_spec⟩ (by omega) rfl rfl (r_ordersK l D b N_87 V_77 (by omega) cl cr_84 (xs ((nI (i + 1))).toNatClampNeg) (xs ((nI (i + 1))).toNatClampNeg) rfl) rfl (Nat.le_of_ble_eq_true rfl) ⟨Nat.le_of_ble_eq_true rfl, Nat.le_of_ble_eq_true rfl, (show _ ≤ 600000 from by omega), (show _ ≤ 7302250 from by omega)⟩ (fun r_98 N_99 V_89 q_100 => ?_)
      obtain ⟨⟨hs_94, hn_95⟩, rfl, jr_93⟩ := q_100
      have cr_91 := jr_93.1
      have cw_90 := CW.out cw_83 (fun i hi => jr_93.2.1 i (Or.inl hi) (by omega))
      have wf_92 := WF.fr wf_85 jr_93.2.2.1
      have e_97 : fI (V_77 100) 13 = fI (V 1) 1 := (congrArg (fun z => fI z 13) (j_78.2.1 100 (by decide) (by omega))).trans (hrl.2.2.2).symm
      rw [e_97] at hs_94
      have rl_96 : RLs V_89 := ⟨(congrArg (fun z => fI z 4) (jr_93.2.1 0 (Or.inl (by decide)) (by omega))).trans ((JW.fI j_78 (by decide) (by decide) : fI (V_77 0) 4 = fI (V 0) 4).trans ((hrl.1).trans ((congrArg (fun z => fI z 51) (j_78.2.1 100 (by decide) (by omega))).symm.trans ((JR.fI jr_93 (by decide) (by decide) (by decide)) : fI (V_89 100) 51 = fI (V_77 100) 51).symm))), (congrArg (fun z => fI z 7) (jr_93.2.1 3 (Or.inl (by decide)) (by omega))).trans (hn_80.trans ((hrl.2.1).trans ((congrArg (fun z => fI z 208) (j_78.2.1 101 (by decide) (by omega))).symm.trans hn_95.symm))), (congrArg (fun z => fI z 7) (jr_93.2.1 39 (Or.inl (by decide)) (by omega))).trans ((JW.fI j_78 (by decide) (by decide) : fI (V_77 39) 7 = fI (V 39) 7).trans ((hrl.2.2.1).trans ((congrArg (fun z => fI z 208) (j_78.2.1 103 (by decide) (by omega))).symm.trans ((JR.fI jr_93 (by decide) (by decide) (by decide)) : fI (V_89 103) 208 = fI (V_77 103) 208).symm))), (congrArg (fun z => fI z 1) (jr_93.2.1 1 (Or.inl (by decide)) (by omega))).trans (TKS.one hs_79 hs_94)⟩
      refine aw_pop dL_law_302 rfl ?_
      refine aw_goto (tgt := 981) dL_law_303 (by decide) ?_
      refine aw_iinc (v := (nI (i + 6))) (ls' := [some (.ref b9), some (.ref (b + 0)), some (.ref (b + 100)), some (.int (nI (i + 6)))]) dL_law_981 rfl (nI_add i 6) (Nat.le_of_ble_eq_true rfl) rfl ?_
      refine aw_goto (tgt := 18) dL_law_984 (by decide) ?_
      refine mih (M + 6 - (i + 6)) (by omega) (i + 6) N_87 cl V_89 _ _ rfl (by omega) ?_ ?_ (by omega) cw_90 cr_91 wf_92 rl_96 <;> omega
    · skip
      refine aw_tableIn (off := 273) (tgt := 306) dL_law_33 (by decide) (by decide) (by decide) (by decide) ?_
      refine aw_aload_n dL_law_306 rfl ?_
      refine aw_aload_n dL_law_307 rfl ?_
      refine aw_iload_n dL_law_308 rfl ?_
      refine aw_iconst (v := 1) dL_law_309 (by decide) ?_
      refine aw_iadd dL_law_310 ?_
      refine aw_eqi (y := nI (i + 1)) (nI_add _ _) ?_
      refine aw_sld dL_law_311 rfl (vp_in_nI (n := (i + 1)) (by omega) (by omega)) ?_
      refine aw_callVi (J' := jX11_nights) (As := [.int (xs ((nI (i + 1))).toNatClampNeg)]) (st := []) dL_law_312 tb_622 ok_X11_nights ⟨_, (CW.o0 hcw).choose_spec⟩ (by omega) rfl rfl (g_X11_nightsK l D b N V (by omega) hcw (xs ((nI (i + 1))).toNatClampNeg)) rfl (Nat.le_of_ble_eq_true rfl) ⟨Nat.le_of_ble_eq_true rfl, Nat.le_of_ble_eq_true rfl, (show _ ≤ 600000 from by omega), (show _ ≤ 7302250 from by omega)⟩ (fun r_110 N_111 V_101 q_112 => ?_)
      obtain ⟨hs_103, rfl, j_102⟩ := q_112
      have cw_107 := j_102.1
      have cr_108 := CR.fr hcr (fun i h1 h2 => j_102.2.1 i h1 (by omega))
      have wf_109 := WF.fr hwf (fun i h1 h2 => j_102.2.1 i (by omega) (by omega))
      refine aw_pop dL_law_315 rfl ?_
      refine aw_aload_n dL_law_316 rfl ?_
      refine aw_aload_n dL_law_317 rfl ?_
      refine aw_iload_n dL_law_318 rfl ?_
      refine aw_iconst (v := 1) dL_law_319 (by decide) ?_
      refine aw_iadd dL_law_320 ?_
      refine aw_eqi (y := nI (i + 1)) (nI_add _ _) ?_
      refine aw_sld dL_law_321 rfl (vp_in_nI (n := (i + 1)) (by omega) (by omega)) ?_
      refine aw_callVi (J' := jX12_nights) (As := [.int (xs ((nI (i + 1))).toNatClampNeg)]) (st := []) dL_law_322 tb_1367 ok_X12_nights ⟨_, (CR.o100 cr_108).choose_spec⟩ (by omega) rfl rfl (r_nightsK l D b N V_101 (by omega) cl cr_108 (xs ((nI (i + 1))).toNatClampNeg) wf_109 (xs ((nI (i + 1))).toNatClampNeg) rfl) rfl (Nat.le_of_ble_eq_true rfl) ⟨Nat.le_of_ble_eq_true rfl, Nat.le_of_ble_eq_true rfl, (show _ ≤ 600000 from by omega), (show _ ≤ 7302250 from by omega)⟩ (fun r_122 N_123 V_113 q_124 => ?_)
      obtain ⟨hs_118, rfl, jr_117⟩ := q_124
      have cr_115 := jr_117.1
      have cw_114 := CW.out cw_107 (fun i hi => jr_117.2.1 i (Or.inl hi) (by omega))
      have wf_116 := WF.fr wf_109 jr_117.2.2.1
      have e_121 : fI (V_101 101) 208 = fI (V 3) 7 := (congrArg (fun z => fI z 208) (j_102.2.1 101 (by decide) (by omega))).trans (hrl.2.1).symm
      rw [e_121] at hs_118
      have rl_120 : RLs V_113 := ⟨(congrArg (fun z => fI z 4) (jr_117.2.1 0 (Or.inl (by decide)) (by omega))).trans ((JW.fI j_102 (by decide) (by decide) : fI (V_101 0) 4 = fI (V 0) 4).trans ((hrl.1).trans ((congrArg (fun z => fI z 51) (j_102.2.1 100 (by decide) (by omega))).symm.trans ((JR.fI jr_117 (by decide) (by decide) (by decide)) : fI (V_113 100) 51 = fI (V_101 100) 51).symm))), (congrArg (fun z => fI z 7) (jr_117.2.1 3 (Or.inl (by decide)) (by omega))).trans (NTS.one hs_103 hs_118), (congrArg (fun z => fI z 7) (jr_117.2.1 39 (Or.inl (by decide)) (by omega))).trans ((JW.fI j_102 (by decide) (by decide) : fI (V_101 39) 7 = fI (V 39) 7).trans ((hrl.2.2.1).trans ((congrArg (fun z => fI z 208) (j_102.2.1 103 (by decide) (by omega))).symm.trans ((JR.fI jr_117 (by decide) (by decide) (by decide)) : fI (V_113 103) 208 = fI (V_101 103) 208).symm))), (congrArg (fun z => fI z 1) (jr_117.2.1 1 (Or.inl (by decide)) (by omega))).trans ((JW.fI j_102 (by decide) (by decide) : fI (V_101 1) 1 = fI (V 1) 1).trans ((hrl.2.2.2).trans ((congrArg (fun z => fI z 13) (j_102.2.1 100 (by decide) (by omega))).symm.trans ((JR.fI jr_117 (by decide) (by decide) (by decide)) : fI (V_113 100) 13 = fI (V_101 100) 13).symm)))⟩
      refine aw_pop dL_law_325 rfl ?_
      refine aw_goto (tgt := 981) dL_law_326 (by decide) ?_
      refine aw_iinc (v := (nI (i + 6))) (ls' := [some (.ref b9), some (.ref (b + 0)), some (.ref (b + 100)), some (.int (nI (i + 6)))]) dL_law_981 rfl (nI_add i 6) (Nat.le_of_ble_eq_true rfl) rfl ?_
      refine aw_goto (tgt := 18) dL_law_984 (by decide) ?_
      refine mih (M + 6 - (i + 6)) (by omega) (i + 6) N cl V_113 _ _ rfl (by omega) ?_ ?_ (by omega) cw_114 cr_115 wf_116 rl_120 <;> omega
    · skip
      refine aw_tableIn (off := 296) (tgt := 329) dL_law_33 (by decide) (by decide) (by decide) (by decide) ?_
      refine aw_aload_n dL_law_329 rfl ?_
      refine aw_aload_n dL_law_330 rfl ?_
      refine aw_iload_n dL_law_331 rfl ?_
      refine aw_iconst (v := 1) dL_law_332 (by decide) ?_
      refine aw_iadd dL_law_333 ?_
      refine aw_eqi (y := nI (i + 1)) (nI_add _ _) ?_
      refine aw_sld dL_law_334 rfl (vp_in_nI (n := (i + 1)) (by omega) (by omega)) ?_
      refine aw_aload_n dL_law_335 rfl ?_
      refine aw_iload_n dL_law_336 rfl ?_
      refine aw_iconst (v := 2) dL_law_337 (by decide) ?_
      refine aw_iadd dL_law_338 ?_
      refine aw_eqi (y := nI (i + 2)) (nI_add _ _) ?_
      refine aw_sld dL_law_339 rfl (vp_in_nI (n := (i + 2)) (by omega) (by omega)) ?_
      refine aw_callVi (J' := jX11_tried) (As := [.int (xs ((nI (i + 1))).toNatClampNeg), .int (xs ((nI (i + 2))).toNatClampNeg)]) (st := []) dL_law_340 tb_737 ok_X11_tried ⟨_, (CW.o0 hcw).choose_spec⟩ (by omega) rfl rfl (g_X11_tried l D b N V (by omega) hcw (xs ((nI (i + 1))).toNatClampNeg) (xs ((nI (i + 2))).toNatClampNeg)) rfl (Nat.le_of_ble_eq_true rfl) ⟨Nat.le_of_ble_eq_true rfl, Nat.le_of_ble_eq_true rfl, (show _ ≤ 600000 from by omega), (show _ ≤ 7302250 from by omega)⟩ (fun r_134 N_135 V_125 q_136 => ?_)
      obtain ⟨rfl, j_126⟩ := q_136
      have cw_131 := j_126.1
      have cr_132 := CR.fr hcr (fun i h1 h2 => j_126.2.1 i h1 (by omega))
      have wf_133 := WF.fr hwf (fun i h1 h2 => j_126.2.1 i (by omega) (by omega))
      refine aw_pop dL_law_343 rfl ?_
      refine aw_aload_n dL_law_344 rfl ?_
      refine aw_aload_n dL_law_345 rfl ?_
      refine aw_iload_n dL_law_346 rfl ?_
      refine aw_iconst (v := 1) dL_law_347 (by decide) ?_
      refine aw_iadd dL_law_348 ?_
      refine aw_eqi (y := nI (i + 1)) (nI_add _ _) ?_
      refine aw_sld dL_law_349 rfl (vp_in_nI (n := (i + 1)) (by omega) (by omega)) ?_
      refine aw_aload_n dL_law_350 rfl ?_
      refine aw_iload_n dL_law_351 rfl ?_
      refine aw_iconst (v := 2) dL_law_352 (by decide) ?_
      refine aw_iadd dL_law_353 ?_
      refine aw_eqi (y := nI (i + 2)) (nI_add _ _) ?_
      refine aw_sld dL_law_354 rfl (vp_in_nI (n := (i + 2)) (by omega) (by omega)) ?_
      refine aw_callVi (J' := jX12_tried) (As := [.int (xs ((nI (i + 1))).toNatClampNeg), .int (xs ((nI (i + 2))).toNatClampNeg)]) (st := []) dL_law_355 tb_1442 ok_X12_tried ⟨_, (CR.o100 cr_132).choose_spec⟩ (by omega) rfl rfl (r_triedK l D b N V_125 (by omega) cl cr_132 (xs ((nI (i + 1))).toNatClampNeg) (xs ((nI (i + 2))).toNatClampNeg) wf_133) rfl (Nat.le_of_ble_eq_true rfl) ⟨Nat.le_of_ble_eq_true rfl, Nat.le_of_ble_eq_true rfl, (show _ ≤ 600000 from by omega), (show _ ≤ 7302250 from by omega)⟩ (fun r_145 N_146 V_137 q_147 => ?_)
      obtain ⟨hs_142, rfl, jr_141⟩ := q_147
      have cr_139 := jr_141.1
      have cw_138 := CW.out cw_131 (fun i hi => jr_141.2.1 i (Or.inl hi) (by omega))
      have wf_140 := WF.fr wf_133 jr_141.2.2.1
      have rl_144 : RLs V_137 := ⟨(congrArg (fun z => fI z 4) (jr_141.2.1 0 (Or.inl (by decide)) (by omega))).trans ((JW.fI j_126 (by decide) (by decide) : fI (V_125 0) 4 = fI (V 0) 4).trans ((hrl.1).trans ((congrArg (fun z => fI z 51) (j_126.2.1 100 (by decide) (by omega))).symm.trans ((JR.fI jr_141 (by decide) (by decide) (by decide)) : fI (V_137 100) 51 = fI (V_125 100) 51).symm))), (congrArg (fun z => fI z 7) (jr_141.2.1 3 (Or.inl (by decide)) (by omega))).trans ((JW.fI j_126 (by decide) (by decide) : fI (V_125 3) 7 = fI (V 3) 7).trans ((hrl.2.1).trans ((congrArg (fun z => fI z 208) (j_126.2.1 101 (by decide) (by omega))).symm.trans hs_142.symm))), (congrArg (fun z => fI z 7) (jr_141.2.1 39 (Or.inl (by decide)) (by omega))).trans ((JW.fI j_126 (by decide) (by decide) : fI (V_125 39) 7 = fI (V 39) 7).trans ((hrl.2.2.1).trans ((congrArg (fun z => fI z 208) (j_126.2.1 103 (by decide) (by omega))).symm.trans ((JR.fI jr_141 (by decide) (by decide) (by decide)) : fI (V_137 103) 208 = fI (V_125 103) 208).symm))), (congrArg (fun z => fI z 1) (jr_141.2.1 1 (Or.inl (by decide)) (by omega))).trans ((JW.fI j_126 (by decide) (by decide) : fI (V_125 1) 1 = fI (V 1) 1).trans ((hrl.2.2.2).trans ((congrArg (fun z => fI z 13) (j_126.2.1 100 (by decide) (by omega))).symm.trans ((JR.fI jr_141 (by decide) (by decide) (by decide)) : fI (V_137 100) 13 = fI (V_125 100) 13).symm)))⟩
      refine aw_pop dL_law_358 rfl ?_
      refine aw_goto (tgt := 981) dL_law_359 (by decide) ?_
      refine aw_iinc (v := (nI (i + 6))) (ls' := [some (.ref b9), some (.ref (b + 0)), some (.ref (b + 100)), some (.int (nI (i + 6)))]) dL_law_981 rfl (nI_add i 6) (Nat.le_of_ble_eq_true rfl) rfl ?_
      refine aw_goto (tgt := 18) dL_law_984 (by decide) ?_
      refine mih (M + 6 - (i + 6)) (by omega) (i + 6) N cl V_137 _ _ rfl (by omega) ?_ ?_ (by omega) cw_138 cr_139 wf_140 rl_144 <;> omega
    · skip
      refine aw_tableIn (off := 329) (tgt := 362) dL_law_33 (by decide) (by decide) (by decide) (by decide) ?_
      refine aw_aload_n dL_law_362 rfl ?_
      refine aw_aload_n dL_law_363 rfl ?_
      refine aw_iload_n dL_law_364 rfl ?_
      refine aw_iconst (v := 1) dL_law_365 (by decide) ?_
      refine aw_iadd dL_law_366 ?_
      refine aw_eqi (y := nI (i + 1)) (nI_add _ _) ?_
      refine aw_sld dL_law_367 rfl (vp_in_nI (n := (i + 1)) (by omega) (by omega)) ?_
      refine aw_aload_n dL_law_368 rfl ?_
      refine aw_iload_n dL_law_369 rfl ?_
      refine aw_iconst (v := 2) dL_law_370 (by decide) ?_
      refine aw_iadd dL_law_371 ?_
      refine aw_eqi (y := nI (i + 2)) (nI_add _ _) ?_
      refine aw_sld dL_law_372 rfl (vp_in_nI (n := (i + 2)) (by omega) (by omega)) ?_
      refine aw_callVi (J' := jX11_personIs) (As := [.int (xs ((nI (i + 1))).toNatClampNeg), .int (xs ((nI (i + 2))).toNatClampNeg)]) (st := []) dL_law_373 tb_753 ok_X11_personIs ⟨_, (CW.o0 hcw).choose_spec⟩ (by omega) rfl rfl (g_X11_personIs l D b N V (by omega) hcw (xs ((nI (i + 1))).toNatClampNeg) (xs ((nI (i + 2))).toNatClampNeg)) rfl (Nat.le_of_ble_eq_true rfl) ⟨Nat.le_of_ble_eq_true rfl, Nat.le_of_ble_eq_true rfl, (show _ ≤ 600000 from by omega), (show _ ≤ 7302250 from by omega)⟩ (fun r_149 N_150 V_151 q_152 => ?_)
      obtain ⟨rfl, rfl⟩ := q_152
      refine aw_pop dL_law_376 rfl ?_
      refine aw_aload_n dL_law_377 rfl ?_
      refine aw_aload_n dL_law_378 rfl ?_
      refine aw_iload_n dL_law_379 rfl ?_
      refine aw_iconst (v := 1) dL_law_380 (by decide) ?_
      refine aw_iadd dL_law_381 ?_
      refine aw_eqi (y := nI (i + 1)) (nI_add _ _) ?_
      refine aw_sld dL_law_382 rfl (vp_in_nI (n := (i + 1)) (by omega) (by omega)) ?_
      refine aw_aload_n dL_law_383 rfl ?_
      refine aw_iload_n dL_law_384 rfl ?_
      refine aw_iconst (v := 2) dL_law_385 (by decide) ?_
      refine aw_iadd dL_law_386 ?_
      refine aw_eqi (y := nI (i + 2)) (nI_add _ _) ?_
      refine aw_sld dL_law_387 rfl (vp_in_nI (n := (i + 2)) (by omega) (by omega)) ?_
      refine aw_callVi (J' := jX12_personIs) (As := [.int (xs ((nI (i + 1))).toNatClampNeg), .int (xs ((nI (i + 2))).toNatClampNeg)]) (st := []) dL_law_388 tb_1449 ok_X12_personIs ⟨_, (CR.o100 hcr).choose_spec⟩ (by omega) rfl rfl (r_personIs l D b N V (by omega) cl hcr (xs ((nI (i + 1))).toNatClampNeg) (xs ((nI (i + 2))).toNatClampNeg)) rfl (Nat.le_of_ble_eq_true rfl) ⟨Nat.le_of_ble_eq_true rfl, Nat.le_of_ble_eq_true rfl, (show _ ≤ 600000 from by omega), (show _ ≤ 7302250 from by omega)⟩ (fun r_161 N_162 V_163 q_164 => ?_)
      obtain ⟨rfl, rfl⟩ := q_164
      refine aw_pop dL_law_391 rfl ?_
      refine aw_goto (tgt := 981) dL_law_392 (by decide) ?_
      refine aw_iinc (v := (nI (i + 6))) (ls' := [some (.ref b9), some (.ref (b + 0)), some (.ref (b + 100)), some (.int (nI (i + 6)))]) dL_law_981 rfl (nI_add i 6) (Nat.le_of_ble_eq_true rfl) rfl ?_
      refine aw_goto (tgt := 18) dL_law_984 (by decide) ?_
      refine mih (M + 6 - (i + 6)) (by omega) (i + 6) N cl V _ _ rfl (by omega) ?_ ?_ (by omega) hcw hcr hwf hrl <;> omega
    · skip
      refine aw_tableIn (off := 362) (tgt := 395) dL_law_33 (by decide) (by decide) (by decide) (by decide) ?_
      refine aw_aload_n dL_law_395 rfl ?_
      refine aw_aload_n dL_law_396 rfl ?_
      refine aw_iload_n dL_law_397 rfl ?_
      refine aw_iconst (v := 1) dL_law_398 (by decide) ?_
      refine aw_iadd dL_law_399 ?_
      refine aw_eqi (y := nI (i + 1)) (nI_add _ _) ?_
      refine aw_sld dL_law_400 rfl (vp_in_nI (n := (i + 1)) (by omega) (by omega)) ?_
      refine aw_aload_n dL_law_401 rfl ?_
      refine aw_iload_n dL_law_402 rfl ?_
      refine aw_iconst (v := 2) dL_law_403 (by decide) ?_
      refine aw_iadd dL_law_404 ?_
      refine aw_eqi (y := nI (i + 2)) (nI_add _ _) ?_
      refine aw_sld dL_law_405 rfl (vp_in_nI (n := (i + 2)) (by omega) (by omega)) ?_
      refine aw_callVi (J' := jX11_doorIs) (As := [.int (xs ((nI (i + 1))).toNatClampNeg), .int (xs ((nI (i + 2))).toNatClampNeg)]) (st := []) dL_law_406 tb_768 ok_X11_doorIs ⟨_, (CW.o0 hcw).choose_spec⟩ (by omega) rfl rfl (g_X11_doorIs l D b N V (by omega) hcw (xs ((nI (i + 1))).toNatClampNeg) (xs ((nI (i + 2))).toNatClampNeg)) rfl (Nat.le_of_ble_eq_true rfl) ⟨Nat.le_of_ble_eq_true rfl, Nat.le_of_ble_eq_true rfl, (show _ ≤ 600000 from by omega), (show _ ≤ 7302250 from by omega)⟩ (fun r_166 N_167 V_168 q_169 => ?_)
      obtain ⟨rfl, rfl⟩ := q_169
      refine aw_pop dL_law_409 rfl ?_
      refine aw_aload_n dL_law_410 rfl ?_
      refine aw_aload_n dL_law_411 rfl ?_
      refine aw_iload_n dL_law_412 rfl ?_
      refine aw_iconst (v := 1) dL_law_413 (by decide) ?_
      refine aw_iadd dL_law_414 ?_
      refine aw_eqi (y := nI (i + 1)) (nI_add _ _) ?_
      refine aw_sld dL_law_415 rfl (vp_in_nI (n := (i + 1)) (by omega) (by omega)) ?_
      refine aw_aload_n dL_law_416 rfl ?_
      refine aw_iload_n dL_law_417 rfl ?_
      refine aw_iconst (v := 2) dL_law_418 (by decide) ?_
      refine aw_iadd dL_law_419 ?_
      refine aw_eqi (y := nI (i + 2)) (nI_add _ _) ?_
      refine aw_sld dL_law_420 rfl (vp_in_nI (n := (i + 2)) (by omega) (by omega)) ?_
      refine aw_callVi (J' := jX12_doorIs) (As := [.int (xs ((nI (i + 1))).toNatClampNeg), .int (xs ((nI (i + 2))).toNatClampNeg)]) (st := []) dL_law_421 tb_1461 ok_X12_doorIs ⟨_, (CR.o100 hcr).choose_spec⟩ (by omega) rfl rfl (r_doorIs l D b N V (by omega) cl hcr (xs ((nI (i + 1))).toNatClampNeg) (xs ((nI (i + 2))).toNatClampNeg)) rfl (Nat.le_of_ble_eq_true rfl) ⟨Nat.le_of_ble_eq_true rfl, Nat.le_of_ble_eq_true rfl, (show _ ≤ 600000 from by omega), (show _ ≤ 7302250 from by omega)⟩ (fun r_178 N_179 V_180 q_181 => ?_)
      obtain ⟨rfl, rfl⟩ := q_181
      refine aw_pop dL_law_424 rfl ?_
      refine aw_goto (tgt := 981) dL_law_425 (by decide) ?_
      refine aw_iinc (v := (nI (i + 6))) (ls' := [some (.ref b9), some (.ref (b + 0)), some (.ref (b + 100)), some (.int (nI (i + 6)))]) dL_law_981 rfl (nI_add i 6) (Nat.le_of_ble_eq_true rfl) rfl ?_
      refine aw_goto (tgt := 18) dL_law_984 (by decide) ?_
      refine mih (M + 6 - (i + 6)) (by omega) (i + 6) N cl V _ _ rfl (by omega) ?_ ?_ (by omega) hcw hcr hwf hrl <;> omega
    · skip
      refine aw_tableIn (off := 395) (tgt := 428) dL_law_33 (by decide) (by decide) (by decide) (by decide) ?_
      refine aw_aload_n dL_law_428 rfl ?_
      refine aw_aload_n dL_law_429 rfl ?_
      refine aw_iload_n dL_law_430 rfl ?_
      refine aw_iconst (v := 1) dL_law_431 (by decide) ?_
      refine aw_iadd dL_law_432 ?_
      refine aw_eqi (y := nI (i + 1)) (nI_add _ _) ?_
      refine aw_sld dL_law_433 rfl (vp_in_nI (n := (i + 1)) (by omega) (by omega)) ?_
      refine aw_aload_n dL_law_434 rfl ?_
      refine aw_iload_n dL_law_435 rfl ?_
      refine aw_iconst (v := 2) dL_law_436 (by decide) ?_
      refine aw_iadd dL_law_437 ?_
      refine aw_eqi (y := nI (i + 2)) (nI_add _ _) ?_
      refine aw_sld dL_law_438 rfl (vp_in_nI (n := (i + 2)) (by omega) (by omega)) ?_
      refine aw_callVi (J' := jX11_taught) (As := [.int (xs ((nI (i + 1))).toNatClampNeg), .int (xs ((nI (i + 2))).toNatClampNeg)]) (st := []) dL_law_439 tb_776 ok_X11_taught ⟨_, (CW.o0 hcw).choose_spec⟩ (by omega) rfl rfl (g_X11_taught l D b N V (by omega) hcw (xs ((nI (i + 1))).toNatClampNeg) (xs ((nI (i + 2))).toNatClampNeg)) rfl (Nat.le_of_ble_eq_true rfl) ⟨Nat.le_of_ble_eq_true rfl, Nat.le_of_ble_eq_true rfl, (show _ ≤ 600000 from by omega), (show _ ≤ 7302250 from by omega)⟩ (fun r_183 N_184 V_185 q_186 => ?_)
      obtain ⟨rfl, rfl⟩ := q_186
      refine aw_pop dL_law_442 rfl ?_
      refine aw_aload_n dL_law_443 rfl ?_
      refine aw_aload_n dL_law_444 rfl ?_
      refine aw_iload_n dL_law_445 rfl ?_
      refine aw_iconst (v := 1) dL_law_446 (by decide) ?_
      refine aw_iadd dL_law_447 ?_
      refine aw_eqi (y := nI (i + 1)) (nI_add _ _) ?_
      refine aw_sld dL_law_448 rfl (vp_in_nI (n := (i + 1)) (by omega) (by omega)) ?_
      refine aw_aload_n dL_law_449 rfl ?_
      refine aw_iload_n dL_law_450 rfl ?_
      refine aw_iconst (v := 2) dL_law_451 (by decide) ?_
      refine aw_iadd dL_law_452 ?_
      refine aw_eqi (y := nI (i + 2)) (nI_add _ _) ?_
      refine aw_sld dL_law_453 rfl (vp_in_nI (n := (i + 2)) (by omega) (by omega)) ?_
      refine aw_callVi (J' := jX12_taught) (As := [.int (xs ((nI (i + 1))).toNatClampNeg), .int (xs ((nI (i + 2))).toNatClampNeg)]) (st := []) dL_law_454 tb_1469 ok_X12_taught ⟨_, (CR.o100 hcr).choose_spec⟩ (by omega) rfl rfl (r_taught l D b N V (by omega) cl hcr (xs ((nI (i + 1))).toNatClampNeg) (xs ((nI (i + 2))).toNatClampNeg)) rfl (Nat.le_of_ble_eq_true rfl) ⟨Nat.le_of_ble_eq_true rfl, Nat.le_of_ble_eq_true rfl, (show _ ≤ 600000 from by omega), (show _ ≤ 7302250 from by omega)⟩ (fun r_195 N_196 V_197 q_198 => ?_)
      obtain ⟨rfl, rfl⟩ := q_198
      refine aw_pop dL_law_457 rfl ?_
      refine aw_goto (tgt := 981) dL_law_458 (by decide) ?_
      refine aw_iinc (v := (nI (i + 6))) (ls' := [some (.ref b9), some (.ref (b + 0)), some (.ref (b + 100)), some (.int (nI (i + 6)))]) dL_law_981 rfl (nI_add i 6) (Nat.le_of_ble_eq_true rfl) rfl ?_
      refine aw_goto (tgt := 18) dL_law_984 (by decide) ?_
      refine mih (M + 6 - (i + 6)) (by omega) (i + 6) N cl V _ _ rfl (by omega) ?_ ?_ (by omega) hcw hcr hwf hrl <;> omega
    · skip
      refine aw_tableIn (off := 428) (tgt := 461) dL_law_33 (by decide) (by decide) (by decide) (by decide) ?_
      refine aw_aload_n dL_law_461 rfl ?_
      refine aw_aload_n dL_law_462 rfl ?_
      refine aw_iload_n dL_law_463 rfl ?_
      refine aw_iconst (v := 1) dL_law_464 (by decide) ?_
      refine aw_iadd dL_law_465 ?_
      refine aw_eqi (y := nI (i + 1)) (nI_add _ _) ?_
      refine aw_sld dL_law_466 rfl (vp_in_nI (n := (i + 1)) (by omega) (by omega)) ?_
      refine aw_callVi (J' := jX11_crew) (As := [.int (xs ((nI (i + 1))).toNatClampNeg)]) (st := []) dL_law_467 tb_790 ok_X11_crew ⟨_, (CW.o0 hcw).choose_spec⟩ (by omega) rfl rfl (g_X11_crew l D b N V (by omega) hcw (xs ((nI (i + 1))).toNatClampNeg)) rfl (Nat.le_of_ble_eq_true rfl) ⟨Nat.le_of_ble_eq_true rfl, Nat.le_of_ble_eq_true rfl, (show _ ≤ 600000 from by omega), (show _ ≤ 7302250 from by omega)⟩ (fun r_208 N_209 V_199 q_210 => ?_)
      obtain ⟨rfl, j_200⟩ := q_210
      have cw_205 := j_200.1
      have cr_206 := CR.fr hcr (fun i h1 h2 => j_200.2.1 i h1 (by omega))
      have wf_207 := WF.fr hwf (fun i h1 h2 => j_200.2.1 i (by omega) (by omega))
      refine aw_pop dL_law_470 rfl ?_
      refine aw_aload_n dL_law_471 rfl ?_
      refine aw_aload_n dL_law_472 rfl ?_
      refine aw_iload_n dL_law_473 rfl ?_
      refine aw_iconst (v := 1) dL_law_474 (by decide) ?_
      refine aw_iadd dL_law_475 ?_
      refine aw_eqi (y := nI (i + 1)) (nI_add _ _) ?_
      refine aw_sld dL_law_476 rfl (vp_in_nI (n := (i + 1)) (by omega) (by omega)) ?_
      refine aw_callVi (J' := jX12_crew) (As := [.int (xs ((nI (i + 1))).toNatClampNeg)]) (st := []) dL_law_477 tb_1477 ok_X12_crew ⟨_, (CR.o100 cr_206).choose_spec⟩ (by omega) rfl rfl (r_crew l D b N V_199 (by omega) cl cr_206 (xs ((nI (i + 1))).toNatClampNeg)) rfl (Nat.le_of_ble_eq_true rfl) ⟨Nat.le_of_ble_eq_true rfl, Nat.le_of_ble_eq_true rfl, (show _ ≤ 600000 from by omega), (show _ ≤ 7302250 from by omega)⟩ (fun r_219 N_220 V_211 q_221 => ?_)
      obtain ⟨rfl, jr_215⟩ := q_221
      have cr_213 := jr_215.1
      have cw_212 := CW.out cw_205 (fun i hi => jr_215.2.1 i (Or.inl hi) (by omega))
      have wf_214 := WF.fr wf_207 jr_215.2.2.1
      have rl_218 : RLs V_211 := ⟨(congrArg (fun z => fI z 4) (jr_215.2.1 0 (Or.inl (by decide)) (by omega))).trans ((JW.fI j_200 (by decide) (by decide) : fI (V_199 0) 4 = fI (V 0) 4).trans ((hrl.1).trans ((congrArg (fun z => fI z 51) (j_200.2.1 100 (by decide) (by omega))).symm.trans ((JR.fI jr_215 (by decide) (by decide) (by decide)) : fI (V_211 100) 51 = fI (V_199 100) 51).symm))), (congrArg (fun z => fI z 7) (jr_215.2.1 3 (Or.inl (by decide)) (by omega))).trans ((JW.fI j_200 (by decide) (by decide) : fI (V_199 3) 7 = fI (V 3) 7).trans ((hrl.2.1).trans ((congrArg (fun z => fI z 208) (j_200.2.1 101 (by decide) (by omega))).symm.trans ((JR.fI jr_215 (by decide) (by decide) (by decide)) : fI (V_211 101) 208 = fI (V_199 101) 208).symm))), (congrArg (fun z => fI z 7) (jr_215.2.1 39 (Or.inl (by decide)) (by omega))).trans ((JW.fI j_200 (by decide) (by decide) : fI (V_199 39) 7 = fI (V 39) 7).trans ((hrl.2.2.1).trans ((congrArg (fun z => fI z 208) (j_200.2.1 103 (by decide) (by omega))).symm.trans ((JR.fI jr_215 (by decide) (by decide) (by decide)) : fI (V_211 103) 208 = fI (V_199 103) 208).symm))), (congrArg (fun z => fI z 1) (jr_215.2.1 1 (Or.inl (by decide)) (by omega))).trans ((JW.fI j_200 (by decide) (by decide) : fI (V_199 1) 1 = fI (V 1) 1).trans ((hrl.2.2.2).trans ((congrArg (fun z => fI z 13) (j_200.2.1 100 (by decide) (by omega))).symm.trans ((JR.fI jr_215 (by decide) (by decide) (by decide)) : fI (V_211 100) 13 = fI (V_199 100) 13).symm)))⟩
      refine aw_pop dL_law_480 rfl ?_
      refine aw_goto (tgt := 981) dL_law_481 (by decide) ?_
      refine aw_iinc (v := (nI (i + 6))) (ls' := [some (.ref b9), some (.ref (b + 0)), some (.ref (b + 100)), some (.int (nI (i + 6)))]) dL_law_981 rfl (nI_add i 6) (Nat.le_of_ble_eq_true rfl) rfl ?_
      refine aw_goto (tgt := 18) dL_law_984 (by decide) ?_
      refine mih (M + 6 - (i + 6)) (by omega) (i + 6) N cl V_211 _ _ rfl (by omega) ?_ ?_ (by omega) cw_212 cr_213 wf_214 rl_218 <;> omega
    · skip
      refine aw_tableIn (off := 451) (tgt := 484) dL_law_33 (by decide) (by decide) (by decide) (by decide) ?_
      refine aw_aload_n dL_law_484 rfl ?_
      refine aw_callVi (J' := jX11_lodgings) (As := []) (st := []) dL_law_485 tb_806 ok_X11_lodgings ⟨_, (CW.o0 hcw).choose_spec⟩ (by omega) rfl rfl (g_X11_lodgings l D b N V (by omega) hcw) rfl (Nat.le_of_ble_eq_true rfl) ⟨Nat.le_of_ble_eq_true rfl, Nat.le_of_ble_eq_true rfl, (show _ ≤ 600000 from by omega), (show _ ≤ 7302250 from by omega)⟩ (fun r_223 N_224 V_225 q_226 => ?_)
      obtain ⟨rfl, rfl⟩ := q_226
      refine aw_pop dL_law_488 rfl ?_
      refine aw_aload_n dL_law_489 rfl ?_
      refine aw_callVi (J' := jX12_lodgings) (As := []) (st := []) dL_law_490 tb_1489 ok_X12_lodgings ⟨_, (CR.o100 hcr).choose_spec⟩ (by omega) rfl rfl (r_lodgings l D b N V (by omega) cl hcr) rfl (Nat.le_of_ble_eq_true rfl) ⟨Nat.le_of_ble_eq_true rfl, Nat.le_of_ble_eq_true rfl, (show _ ≤ 600000 from by omega), (show _ ≤ 7302250 from by omega)⟩ (fun r_235 N_236 V_227 q_237 => ?_)
      obtain ⟨rfl, jr_231⟩ := q_237
      have cr_229 := jr_231.1
      have cw_228 := CW.out hcw (fun i hi => jr_231.2.1 i (Or.inl hi) (by omega))
      have wf_230 := WF.fr hwf jr_231.2.2.1
      have rl_234 : RLs V_227 := ⟨(congrArg (fun z => fI z 4) (jr_231.2.1 0 (Or.inl (by decide)) (by omega))).trans ((Eq.refl (fI (V 0) 4)).trans ((hrl.1).trans ((Eq.refl (fI (V 100) 51)).symm.trans ((JR.fI jr_231 (by decide) (by decide) (by decide)) : fI (V_227 100) 51 = fI (V 100) 51).symm))), (congrArg (fun z => fI z 7) (jr_231.2.1 3 (Or.inl (by decide)) (by omega))).trans ((Eq.refl (fI (V 3) 7)).trans ((hrl.2.1).trans ((Eq.refl (fI (V 101) 208)).symm.trans ((JR.fI jr_231 (by decide) (by decide) (by decide)) : fI (V_227 101) 208 = fI (V 101) 208).symm))), (congrArg (fun z => fI z 7) (jr_231.2.1 39 (Or.inl (by decide)) (by omega))).trans ((Eq.refl (fI (V 39) 7)).trans ((hrl.2.2.1).trans ((Eq.refl (fI (V 103) 208)).symm.trans ((JR.fI jr_231 (by decide) (by decide) (by decide)) : fI (V_227 103) 208 = fI (V 103) 208).symm))), (congrArg (fun z => fI z 1) (jr_231.2.1 1 (Or.inl (by decide)) (by omega))).trans ((Eq.refl (fI (V 1) 1)).trans ((hrl.2.2.2).trans ((Eq.refl (fI (V 100) 13)).symm.trans ((JR.fI jr_231 (by decide) (by decide) (by decide)) : fI (V_227 100) 13 = fI (V 100) 13).symm)))⟩
      refine aw_pop dL_law_493 rfl ?_
      refine aw_goto (tgt := 981) dL_law_494 (by decide) ?_
      refine aw_iinc (v := (nI (i + 6))) (ls' := [some (.ref b9), some (.ref (b + 0)), some (.ref (b + 100)), some (.int (nI (i + 6)))]) dL_law_981 rfl (nI_add i 6) (Nat.le_of_ble_eq_true rfl) rfl ?_
      refine aw_goto (tgt := 18) dL_law_984 (by decide) ?_
      refine mih (M + 6 - (i + 6)) (by omega) (i + 6) N cl V_227 _ _ rfl (by omega) ?_ ?_ (by omega) cw_228 cr_229 wf_230 rl_234 <;> omega
    · skip
      refine aw_tableIn (off := 464) (tgt := 497) dL_law_33 (by decide) (by decide) (by decide) (by decide) ?_
      refine aw_aload_n dL_law_497 rfl ?_
      refine aw_aload_n dL_law_498 rfl ?_
      refine aw_iload_n dL_law_499 rfl ?_
      refine aw_iconst (v := 1) dL_law_500 (by decide) ?_
      refine aw_iadd dL_law_501 ?_
      refine aw_eqi (y := nI (i + 1)) (nI_add _ _) ?_
      refine aw_sld dL_law_502 rfl (vp_in_nI (n := (i + 1)) (by omega) (by omega)) ?_
      refine aw_callVi (J' := jX11_couples) (As := [.int (xs ((nI (i + 1))).toNatClampNeg)]) (st := []) dL_law_503 tb_814 ok_X11_couples ⟨_, (CW.o0 hcw).choose_spec⟩ (by omega) rfl rfl (g_X11_couples l D b N V (by omega) hcw (xs ((nI (i + 1))).toNatClampNeg)) rfl (Nat.le_of_ble_eq_true rfl) ⟨Nat.le_of_ble_eq_true rfl, Nat.le_of_ble_eq_true rfl, (show _ ≤ 600000 from by omega), (show _ ≤ 7302250 from by omega)⟩ (fun r_247 N_248 V_238 q_249 => ?_)
      obtain ⟨rfl, j_239⟩ := q_249
      have cw_244 := j_239.1
      have cr_245 := CR.fr hcr (fun i h1 h2 => j_239.2.1 i h1 (by omega))
      have wf_246 := WF.fr hwf (fun i h1 h2 => j_239.2.1 i (by omega) (by omega))
      refine aw_pop dL_law_506 rfl ?_
      refine aw_aload_n dL_law_507 rfl ?_
      refine aw_aload_n dL_law_508 rfl ?_
      refine aw_iload_n dL_law_509 rfl ?_
      refine aw_iconst (v := 1) dL_law_510 (by decide) ?_
      refine aw_iadd dL_law_511 ?_
      refine aw_eqi (y := nI (i + 1)) (nI_add _ _) ?_
      refine aw_sld dL_law_512 rfl (vp_in_nI (n := (i + 1)) (by omega) (by omega)) ?_
      refine aw_callVi (J' := jX12_couples) (As := [.int (xs ((nI (i + 1))).toNatClampNeg)]) (st := []) dL_law_513 tb_1493 ok_X12_couples ⟨_, (CR.o100 cr_245).choose_spec⟩ (by omega) rfl rfl (r_couples l D b N V_238 (by omega) cl cr_245 (xs ((nI (i + 1))).toNatClampNeg)) rfl (Nat.le_of_ble_eq_true rfl) ⟨Nat.le_of_ble_eq_true rfl, Nat.le_of_ble_eq_true rfl, (show _ ≤ 600000 from by omega), (show _ ≤ 7302250 from by omega)⟩ (fun r_258 N_259 V_250 q_260 => ?_)
      obtain ⟨rfl, jr_254⟩ := q_260
      have cr_252 := jr_254.1
      have cw_251 := CW.out cw_244 (fun i hi => jr_254.2.1 i (Or.inl hi) (by omega))
      have wf_253 := WF.fr wf_246 jr_254.2.2.1
      have rl_257 : RLs V_250 := ⟨(congrArg (fun z => fI z 4) (jr_254.2.1 0 (Or.inl (by decide)) (by omega))).trans ((JW.fI j_239 (by decide) (by decide) : fI (V_238 0) 4 = fI (V 0) 4).trans ((hrl.1).trans ((congrArg (fun z => fI z 51) (j_239.2.1 100 (by decide) (by omega))).symm.trans ((JR.fI jr_254 (by decide) (by decide) (by decide)) : fI (V_250 100) 51 = fI (V_238 100) 51).symm))), (congrArg (fun z => fI z 7) (jr_254.2.1 3 (Or.inl (by decide)) (by omega))).trans ((JW.fI j_239 (by decide) (by decide) : fI (V_238 3) 7 = fI (V 3) 7).trans ((hrl.2.1).trans ((congrArg (fun z => fI z 208) (j_239.2.1 101 (by decide) (by omega))).symm.trans ((JR.fI jr_254 (by decide) (by decide) (by decide)) : fI (V_250 101) 208 = fI (V_238 101) 208).symm))), (congrArg (fun z => fI z 7) (jr_254.2.1 39 (Or.inl (by decide)) (by omega))).trans ((JW.fI j_239 (by decide) (by decide) : fI (V_238 39) 7 = fI (V 39) 7).trans ((hrl.2.2.1).trans ((congrArg (fun z => fI z 208) (j_239.2.1 103 (by decide) (by omega))).symm.trans ((JR.fI jr_254 (by decide) (by decide) (by decide)) : fI (V_250 103) 208 = fI (V_238 103) 208).symm))), (congrArg (fun z => fI z 1) (jr_254.2.1 1 (Or.inl (by decide)) (by omega))).trans ((JW.fI j_239 (by decide) (by decide) : fI (V_238 1) 1 = fI (V 1) 1).trans ((hrl.2.2.2).trans ((congrArg (fun z => fI z 13) (j_239.2.1 100 (by decide) (by omega))).symm.trans ((JR.fI jr_254 (by decide) (by decide) (by decide)) : fI (V_250 100) 13 = fI (V_238 100) 13).symm)))⟩
      refine aw_pop dL_law_516 rfl ?_
      refine aw_goto (tgt := 981) dL_law_517 (by decide) ?_
      refine aw_iinc (v := (nI (i + 6))) (ls' := [some (.ref b9), some (.ref (b + 0)), some (.ref (b + 100)), some (.int (nI (i + 6)))]) dL_law_981 rfl (nI_add i 6) (Nat.le_of_ble_eq_true rfl) rfl ?_
      refine aw_goto (tgt := 18) dL_law_984 (by decide) ?_
      refine mih (M + 6 - (i + 6)) (by omega) (i + 6) N cl V_250 _ _ rfl (by omega) ?_ ?_ (by omega) cw_251 cr_252 wf_253 rl_257 <;> omega
    · skip
      refine aw_tableIn (off := 487) (tgt := 520) dL_law_33 (by decide) (by decide) (by decide) (by decide) ?_
      refine aw_aload_n dL_law_520 rfl ?_
      refine aw_aload_n dL_law_521 rfl ?_
      refine aw_iload_n dL_law_522 rfl ?_
      refine aw_iconst (v := 1) dL_law_523 (by decide) ?_
      refine aw_iadd dL_law_524 ?_
      refine aw_eqi (y := nI (i + 1)) (nI_add _ _) ?_
      refine aw_sld dL_law_525 rfl (vp_in_nI (n := (i + 1)) (by omega) (by omega)) ?_
      refine aw_aload_n dL_law_526 rfl ?_
      refine aw_iload_n dL_law_527 rfl ?_
      refine aw_iconst (v := 2) dL_law_528 (by decide) ?_
      refine aw_iadd dL_law_529 ?_
      refine aw_eqi (y := nI (i + 2)) (nI_add _ _) ?_
      refine aw_sld dL_law_530 rfl (vp_in_nI (n := (i + 2)) (by omega) (by omega)) ?_
      refine aw_aload_n dL_law_531 rfl ?_
      refine aw_iload_n dL_law_532 rfl ?_
      refine aw_iconst (v := 3) dL_law_533 (by decide) ?_
      refine aw_iadd dL_law_534 ?_
      refine aw_eqi (y := nI (i + 3)) (nI_add _ _) ?_
      refine aw_sld dL_law_535 rfl (vp_in_nI (n := (i + 3)) (by omega) (by omega)) ?_
      refine aw_callVi (J' := jX11_fashion) (As := [.int (xs ((nI (i + 1))).toNatClampNeg), .int (xs ((nI (i + 2))).toNatClampNeg), .int (xs ((nI (i + 3))).toNatClampNeg)]) (st := []) dL_law_536 tb_836 ok_X11_fashion ⟨_, (CW.o0 hcw).choose_spec⟩ (by omega) rfl rfl (g_X11_fashion l D b N V (by omega) hcw (xs ((nI (i + 1))).toNatClampNeg) (xs ((nI (i + 2))).toNatClampNeg) (xs ((nI (i + 3))).toNatClampNeg)) rfl (Nat.le_of_ble_eq_true rfl) ⟨Nat.le_of_ble_eq_true rfl, Nat.le_of_ble_eq_true rfl, (show _ ≤ 600000 from by omega), (show _ ≤ 7302250 from by omega)⟩ (fun r_262 N_263 V_264 q_265 => ?_)
      obtain ⟨rfl, rfl⟩ := q_265
      refine aw_pop dL_law_539 rfl ?_
      refine aw_aload_n dL_law_540 rfl ?_
      refine aw_aload_n dL_law_541 rfl ?_
      refine aw_iload_n dL_law_542 rfl ?_
      refine aw_iconst (v := 1) dL_law_543 (by decide) ?_
      refine aw_iadd dL_law_544 ?_
      refine aw_eqi (y := nI (i + 1)) (nI_add _ _) ?_
      refine aw_sld dL_law_545 rfl (vp_in_nI (n := (i + 1)) (by omega) (by omega)) ?_
      refine aw_aload_n dL_law_546 rfl ?_
      refine aw_iload_n dL_law_547 rfl ?_
      refine aw_iconst (v := 2) dL_law_548 (by decide) ?_
      refine aw_iadd dL_law_549 ?_
      refine aw_eqi (y := nI (i + 2)) (nI_add _ _) ?_
      refine aw_sld dL_law_550 rfl (vp_in_nI (n := (i + 2)) (by omega) (by omega)) ?_
      refine aw_aload_n dL_law_551 rfl ?_
      refine aw_iload_n dL_law_552 rfl ?_
      refine aw_iconst (v := 3) dL_law_553 (by decide) ?_
      refine aw_iadd dL_law_554 ?_
      refine aw_eqi (y := nI (i + 3)) (nI_add _ _) ?_
      refine aw_sld dL_law_555 rfl (vp_in_nI (n := (i + 3)) (by omega) (by omega)) ?_
      refine aw_callVi (J' := jX12_fashion) (As := [.int (xs ((nI (i + 1))).toNatClampNeg), .int (xs ((nI (i + 2))).toNatClampNeg), .int (xs ((nI (i + 3))).toNatClampNeg)]) (st := []) dL_law_556 tb_1504 ok_X12_fashion ⟨_, (CR.o100 hcr).choose_spec⟩ (by omega) rfl rfl (r_fashion l D b N V (by omega) cl hcr (xs ((nI (i + 1))).toNatClampNeg) (xs ((nI (i + 2))).toNatClampNeg) (xs ((nI (i + 3))).toNatClampNeg)) rfl (Nat.le_of_ble_eq_true rfl) ⟨Nat.le_of_ble_eq_true rfl, Nat.le_of_ble_eq_true rfl, (show _ ≤ 600000 from by omega), (show _ ≤ 7302250 from by omega)⟩ (fun r_274 N_275 V_276 q_277 => ?_)
      obtain ⟨rfl, rfl⟩ := q_277
      refine aw_pop dL_law_559 rfl ?_
      refine aw_goto (tgt := 981) dL_law_560 (by decide) ?_
      refine aw_iinc (v := (nI (i + 6))) (ls' := [some (.ref b9), some (.ref (b + 0)), some (.ref (b + 100)), some (.int (nI (i + 6)))]) dL_law_981 rfl (nI_add i 6) (Nat.le_of_ble_eq_true rfl) rfl ?_
      refine aw_goto (tgt := 18) dL_law_984 (by decide) ?_
      refine mih (M + 6 - (i + 6)) (by omega) (i + 6) N cl V _ _ rfl (by omega) ?_ ?_ (by omega) hcw hcr hwf hrl <;> omega
    · skip
      refine aw_tableIn (off := 530) (tgt := 563) dL_law_33 (by decide) (by decide) (by decide) (by decide) ?_
      refine aw_aload_n dL_law_563 rfl ?_
      refine aw_aload_n dL_law_564 rfl ?_
      refine aw_iload_n dL_law_565 rfl ?_
      refine aw_iconst (v := 1) dL_law_566 (by decide) ?_
      refine aw_iadd dL_law_567 ?_
      refine aw_eqi (y := nI (i + 1)) (nI_add _ _) ?_
      refine aw_sld dL_law_568 rfl (vp_in_nI (n := (i + 1)) (by omega) (by omega)) ?_
      refine aw_callVi (J' := jX11_fears) (As := [.int (xs ((nI (i + 1))).toNatClampNeg)]) (st := []) dL_law_569 tb_849 ok_X11_fears ⟨_, (CW.o0 hcw).choose_spec⟩ (by omega) rfl rfl (g_X11_fears l D b N V (by omega) hcw (xs ((nI (i + 1))).toNatClampNeg)) rfl (Nat.le_of_ble_eq_true rfl) ⟨Nat.le_of_ble_eq_true rfl, Nat.le_of_ble_eq_true rfl, (show _ ≤ 600000 from by omega), (show _ ≤ 7302250 from by omega)⟩ (fun r_279 N_280 V_281 q_282 => ?_)
      obtain ⟨rfl, rfl⟩ := q_282
      refine aw_pop dL_law_572 rfl ?_
      refine aw_aload_n dL_law_573 rfl ?_
      refine aw_aload_n dL_law_574 rfl ?_
      refine aw_iload_n dL_law_575 rfl ?_
      refine aw_iconst (v := 1) dL_law_576 (by decide) ?_
      refine aw_iadd dL_law_577 ?_
      refine aw_eqi (y := nI (i + 1)) (nI_add _ _) ?_
      refine aw_sld dL_law_578 rfl (vp_in_nI (n := (i + 1)) (by omega) (by omega)) ?_
      refine aw_callVi (J' := jX12_fears) (As := [.int (xs ((nI (i + 1))).toNatClampNeg)]) (st := []) dL_law_579 tb_1512 ok_X12_fears ⟨_, (CR.o100 hcr).choose_spec⟩ (by omega) rfl rfl (r_fears l D b N V (by omega) cl hcr (xs ((nI (i + 1))).toNatClampNeg)) rfl (Nat.le_of_ble_eq_true rfl) ⟨Nat.le_of_ble_eq_true rfl, Nat.le_of_ble_eq_true rfl, (show _ ≤ 600000 from by omega), (show _ ≤ 7302250 from by omega)⟩ (fun r_291 N_292 V_293 q_294 => ?_)
      obtain ⟨rfl, rfl⟩ := q_294
      refine aw_pop dL_law_582 rfl ?_
      refine aw_goto (tgt := 981) dL_law_583 (by decide) ?_
      refine aw_iinc (v := (nI (i + 6))) (ls' := [some (.ref b9), some (.ref (b + 0)), some (.ref (b + 100)), some (.int (nI (i + 6)))]) dL_law_981 rfl (nI_add i 6) (Nat.le_of_ble_eq_true rfl) rfl ?_
      refine aw_goto (tgt := 18) dL_law_984 (by decide) ?_
      refine mih (M + 6 - (i + 6)) (by omega) (i + 6) N cl V _ _ rfl (by omega) ?_ ?_ (by omega) hcw hcr hwf hrl <;> omega
    · skip
      refine aw_tableIn (off := 553) (tgt := 586) dL_law_33 (by decide) (by decide) (by decide) (by decide) ?_
      refine aw_aload_n dL_law_586 rfl ?_
      refine aw_aload_n dL_law_587 rfl ?_
      refine aw_iload_n dL_law_588 rfl ?_
      refine aw_iconst (v := 1) dL_law_589 (by decide) ?_
      refine aw_iadd dL_law_590 ?_
      refine aw_eqi (y := nI (i + 1)) (nI_add _ _) ?_
      refine aw_sld dL_law_591 rfl (vp_in_nI (n := (i + 1)) (by omega) (by omega)) ?_
      refine aw_aload_n dL_law_592 rfl ?_
      refine aw_iload_n dL_law_593 rfl ?_
      refine aw_iconst (v := 2) dL_law_594 (by decide) ?_
      refine aw_iadd dL_law_595 ?_
      refine aw_eqi (y := nI (i + 2)) (nI_add _ _) ?_
      refine aw_sld dL_law_596 rfl (vp_in_nI (n := (i + 2)) (by omega) (by omega)) ?_
      refine aw_callVi (J' := jX11_unlike) (As := [.int (xs ((nI (i + 1))).toNatClampNeg), .int (xs ((nI (i + 2))).toNatClampNeg)]) (st := []) dL_law_597 tb_863 ok_X11_unlike ⟨_, (CW.o0 hcw).choose_spec⟩ (by omega) rfl rfl (g_X11_unlike l D b N V (by omega) hcw (xs ((nI (i + 1))).toNatClampNeg) (xs ((nI (i + 2))).toNatClampNeg)) rfl (Nat.le_of_ble_eq_true rfl) ⟨Nat.le_of_ble_eq_true rfl, Nat.le_of_ble_eq_true rfl, (show _ ≤ 600000 from by omega), (show _ ≤ 7302250 from by omega)⟩ (fun r_296 N_297 V_298 q_299 => ?_)
      obtain ⟨rfl, rfl⟩ := q_299
      refine aw_pop dL_law_600 rfl ?_
      refine aw_aload_n dL_law_601 rfl ?_
      refine aw_aload_n dL_law_602 rfl ?_
      refine aw_iload_n dL_law_603 rfl ?_
      refine aw_iconst (v := 1) dL_law_604 (by decide) ?_
      refine aw_iadd dL_law_605 ?_
      refine aw_eqi (y := nI (i + 1)) (nI_add _ _) ?_
      refine aw_sld dL_law_606 rfl (vp_in_nI (n := (i + 1)) (by omega) (by omega)) ?_
      refine aw_aload_n dL_law_607 rfl ?_
      refine aw_iload_n dL_law_608 rfl ?_
      refine aw_iconst (v := 2) dL_law_609 (by decide) ?_
      refine aw_iadd dL_law_610 ?_
      refine aw_eqi (y := nI (i + 2)) (nI_add _ _) ?_
      refine aw_sld dL_law_611 rfl (vp_in_nI (n := (i + 2)) (by omega) (by omega)) ?_
      refine aw_callVi (J' := jX12_unlike) (As := [.int (xs ((nI (i + 1))).toNatClampNeg), .int (xs ((nI (i + 2))).toNatClampNeg)]) (st := []) dL_law_612 tb_1516 ok_X12_unlike ⟨_, (CR.o100 hcr).choose_spec⟩ (by omega) rfl rfl (r_unlike l D b N V (by omega) cl hcr (xs ((nI (i + 1))).toNatClampNeg) (xs ((nI (i + 2))).toNatClampNeg)) rfl (Nat.le_of_ble_eq_true rfl) ⟨Nat.le_of_ble_eq_true rfl, Nat.le_of_ble_eq_true rfl, (show _ ≤ 600000 from by omega), (show _ ≤ 7302250 from by omega)⟩ (fun r_308 N_309 V_310 q_311 => ?_)
      obtain ⟨rfl, rfl⟩ := q_311
      refine aw_pop dL_law_615 rfl ?_
      refine aw_goto (tgt := 981) dL_law_616 (by decide) ?_
      refine aw_iinc (v := (nI (i + 6))) (ls' := [some (.ref b9), some (.ref (b + 0)), some (.ref (b + 100)), some (.int (nI (i + 6)))]) dL_law_981 rfl (nI_add i 6) (Nat.le_of_ble_eq_true rfl) rfl ?_
      refine aw_goto (tgt := 18) dL_law_984 (by decide) ?_
      refine mih (M + 6 - (i + 6)) (by omega) (i + 6) N cl V _ _ rfl (by omega) ?_ ?_ (by omega) hcw hcr hwf hrl <;> omega
    · skip
      refine aw_tableIn (off := 586) (tgt := 619) dL_law_33 (by decide) (by decide) (by decide) (by decide) ?_
      refine aw_aload_n dL_law_619 rfl ?_
      refine aw_aload_n dL_law_620 rfl ?_
      refine aw_iload_n dL_law_621 rfl ?_
      refine aw_iconst (v := 1) dL_law_622 (by decide) ?_
      refine aw_iadd dL_law_623 ?_
      refine aw_eqi (y := nI (i + 1)) (nI_add _ _) ?_
      refine aw_sld dL_law_624 rfl (vp_in_nI (n := (i + 1)) (by omega) (by omega)) ?_
      refine aw_callVi (J' := jX11_mostLike) (As := [.int (xs ((nI (i + 1))).toNatClampNeg)]) (st := []) dL_law_625 tb_872 ok_X11_mostLike ⟨_, (CW.o0 hcw).choose_spec⟩ (by omega) rfl rfl (g_X11_mostLike l D b N V (by omega) hcw (xs ((nI (i + 1))).toNatClampNeg)) rfl (Nat.le_of_ble_eq_true rfl) ⟨Nat.le_of_ble_eq_true rfl, Nat.le_of_ble_eq_true rfl, (show _ ≤ 600000 from by omega), (show _ ≤ 7302250 from by omega)⟩ (fun r_313 N_314 V_315 q_316 => ?_)
      obtain ⟨rfl, rfl⟩ := q_316
      refine aw_pop dL_law_628 rfl ?_
      refine aw_aload_n dL_law_629 rfl ?_
      refine aw_aload_n dL_law_630 rfl ?_
      refine aw_iload_n dL_law_631 rfl ?_
      refine aw_iconst (v := 1) dL_law_632 (by decide) ?_
      refine aw_iadd dL_law_633 ?_
      refine aw_eqi (y := nI (i + 1)) (nI_add _ _) ?_
      refine aw_sld dL_law_634 rfl (vp_in_nI (n := (i + 1)) (by omega) (by omega)) ?_
      refine aw_callVi (J' := jX12_mostLike) (As := [.int (xs ((nI (i + 1))).toNatClampNeg)]) (st := []) dL_law_635 tb_1524 ok_X12_mostLike ⟨_, (CR.o100 hcr).choose_spec⟩ (by omega) rfl rfl (r_mostLike l D b N V (by omega) cl hcr (xs ((nI (i + 1))).toNatClampNeg)) rfl (Nat.le_of_ble_eq_true rfl) ⟨Nat.le_of_ble_eq_true rfl, Nat.le_of_ble_eq_true rfl, (show _ ≤ 600000 from by omega), (show _ ≤ 7302250 from by omega)⟩ (fun r_325 N_326 V_327 q_328 => ?_)
      obtain ⟨rfl, rfl⟩ := q_328
      refine aw_pop dL_law_638 rfl ?_
      refine aw_goto (tgt := 981) dL_law_639 (by decide) ?_
      refine aw_iinc (v := (nI (i + 6))) (ls' := [some (.ref b9), some (.ref (b + 0)), some (.ref (b + 100)), some (.int (nI (i + 6)))]) dL_law_981 rfl (nI_add i 6) (Nat.le_of_ble_eq_true rfl) rfl ?_
      refine aw_goto (tgt := 18) dL_law_984 (by decide) ?_
      refine mih (M + 6 - (i + 6)) (by omega) (i + 6) N cl V _ _ rfl (by omega) ?_ ?_ (by omega) hcw hcr hwf hrl <;> omega
    · skip
      refine aw_tableIn (off := 609) (tgt := 642) dL_law_33 (by decide) (by decide) (by decide) (by decide) ?_
      refine aw_aload_n dL_law_642 rfl ?_
      refine aw_aload_n dL_law_643 rfl ?_
      refine aw_iload_n dL_law_644 rfl ?_
      refine aw_iconst (v := 1) dL_law_645 (by decide) ?_
      refine aw_iadd dL_law_646 ?_
      refine aw_eqi (y := nI (i + 1)) (nI_add _ _) ?_
      refine aw_sld dL_law_647 rfl (vp_in_nI (n := (i + 1)) (by omega) (by omega)) ?_
      refine aw_aload_n dL_law_648 rfl ?_
      refine aw_iload_n dL_law_649 rfl ?_
      refine aw_iconst (v := 2) dL_law_650 (by decide) ?_
      refine aw_iadd dL_law_651 ?_
      refine aw_eqi (y := nI (i + 2)) (nI_add _ _) ?_
      refine aw_sld dL_law_652 rfl (vp_in_nI (n := (i + 2)) (by omega) (by omega)) ?_
      refine aw_callVi (J' := jX11_circles) (As := [.int (xs ((nI (i + 1))).toNatClampNeg), .int (xs ((nI (i + 2))).toNatClampNeg)]) (st := []) dL_law_653 tb_881 ok_X11_circles ⟨_, (CW.o0 hcw).choose_spec⟩ (by omega) rfl rfl (g_X11_circles l D b N V (by omega) hcw (xs ((nI (i + 1))).toNatClampNeg) (xs ((nI (i + 2))).toNatClampNeg)) rfl (Nat.le_of_ble_eq_true rfl) ⟨Nat.le_of_ble_eq_true rfl, Nat.le_of_ble_eq_true rfl, (show _ ≤ 600000 from by omega), (show _ ≤ 7302250 from by omega)⟩ (fun r_338 N_339 V_329 q_340 => ?_)
      obtain ⟨rfl, j_330⟩ := q_340
      have cw_335 := j_330.1
      have cr_336 := CR.fr hcr (fun i h1 h2 => j_330.2.1 i h1 (by omega))
      have wf_337 := WF.fr hwf (fun i h1 h2 => j_330.2.1 i (by omega) (by omega))
      refine aw_pop dL_law_656 rfl ?_
      refine aw_aload_n dL_law_657 rfl ?_
      refine aw_aload_n dL_law_658 rfl ?_
      refine aw_iload_n dL_law_659 rfl ?_
      refine aw_iconst (v := 1) dL_law_660 (by decide) ?_
      refine aw_iadd dL_law_661 ?_
      refine aw_eqi (y := nI (i + 1)) (nI_add _ _) ?_
      refine aw_sld dL_law_662 rfl (vp_in_nI (n := (i + 1)) (by omega) (by omega)) ?_
      refine aw_aload_n dL_law_663 rfl ?_
      refine aw_iload_n dL_law_664 rfl ?_
      refine aw_iconst (v := 2) dL_law_665 (by decide) ?_
      refine aw_iadd dL_law_666 ?_
      refine aw_eqi (y := nI (i + 2)) (nI_add _ _) ?_
      refine aw_sld dL_law_667 rfl (vp_in_nI (n := (i + 2)) (by omega) (by omega)) ?_
      refine aw_callVi (J' := jX12_circles) (As := [.int (xs ((nI (i + 1))).toNatClampNeg), .int (xs ((nI (i + 2))).toNatClampNeg)]) (st := []) dL_law_668 tb_1528 ok_X12_circles ⟨_, (CR.o100 cr_336).choose_spec⟩ (by omega) rfl rfl (r_circles l D b N V_329 (by omega) cl cr_336 (xs ((nI (i + 1))).toNatClampNeg) (xs ((nI (i + 2))).toNatClampNeg)) rfl (Nat.le_of_ble_eq_true rfl) ⟨Nat.le_of_ble_eq_true rfl, Nat.le_of_ble_eq_true rfl, (show _ ≤ 600000 from by omega), (show _ ≤ 7302250 from by omega)⟩ (fun r_349 N_350 V_351 q_352 => ?_)
      obtain ⟨rfl, rfl⟩ := q_352
      have rl_348 : RLs V_329 := ⟨(Eq.refl (fI (V_329 0) 4)).trans ((JW.fI j_330 (by decide) (by decide) : fI (V_329 0) 4 = fI (V 0) 4).trans ((hrl.1).trans ((congrArg (fun z => fI z 51) (j_330.2.1 100 (by decide) (by omega))).symm.trans (Eq.refl (fI (V_329 100) 51)).symm))), (Eq.refl (fI (V_329 3) 7)).trans ((JW.fI j_330 (by decide) (by decide) : fI (V_329 3) 7 = fI (V 3) 7).trans ((hrl.2.1).trans ((congrArg (fun z => fI z 208) (j_330.2.1 101 (by decide) (by omega))).symm.trans (Eq.refl (fI (V_329 101) 208)).symm))), (Eq.refl (fI (V_329 39) 7)).trans ((JW.fI j_330 (by decide) (by decide) : fI (V_329 39) 7 = fI (V 39) 7).trans ((hrl.2.2.1).trans ((congrArg (fun z => fI z 208) (j_330.2.1 103 (by decide) (by omega))).symm.trans (Eq.refl (fI (V_329 103) 208)).symm))), (Eq.refl (fI (V_329 1) 1)).trans ((JW.fI j_330 (by decide) (by decide) : fI (V_329 1) 1 = fI (V 1) 1).trans ((hrl.2.2.2).trans ((congrArg (fun z => fI z 13) (j_330.2.1 100 (by decide) (by omega))).symm.trans (Eq.refl (fI (V_329 100) 13)).symm)))⟩
      refine aw_pop dL_law_671 rfl ?_
      refine aw_goto (tgt := 981) dL_law_672 (by decide) ?_
      refine aw_iinc (v := (nI (i + 6))) (ls' := [some (.ref b9), some (.ref (b + 0)), some (.ref (b + 100)), some (.int (nI (i + 6)))]) dL_law_981 rfl (nI_add i 6) (Nat.le_of_ble_eq_true rfl) rfl ?_
      refine aw_goto (tgt := 18) dL_law_984 (by decide) ?_
      refine mih (M + 6 - (i + 6)) (by omega) (i + 6) N cl V_329 _ _ rfl (by omega) ?_ ?_ (by omega) cw_335 cr_336 wf_337 rl_348 <;> omega
    · skip
      refine aw_tableIn (off := 642) (tgt := 675) dL_law_33 (by decide) (by decide) (by decide) (by decide) ?_
      refine aw_aload_n dL_law_675 rfl ?_
      refine aw_callVi (J' := jX11_keystones) (As := []) (st := []) dL_law_676 tb_904 ok_X11_keystones ⟨_, (CW.o0 hcw).choose_spec⟩ (by omega) rfl rfl (g_X11_keystones l D b N V (by omega) hcw) rfl (Nat.le_of_ble_eq_true rfl) ⟨Nat.le_of_ble_eq_true rfl, Nat.le_of_ble_eq_true rfl, (show _ ≤ 600000 from by omega), (show _ ≤ 7302250 from by omega)⟩ (fun r_354 N_355 V_356 q_357 => ?_)
      obtain ⟨rfl, rfl⟩ := q_357
      refine aw_pop dL_law_679 rfl ?_
      refine aw_aload_n dL_law_680 rfl ?_
      refine aw_callVi (J' := jX12_keystones) (As := []) (st := []) dL_law_681 tb_1536 ok_X12_keystones ⟨_, (CR.o100 hcr).choose_spec⟩ (by omega) rfl rfl (r_keystones l D b N V (by omega) cl hcr) rfl (Nat.le_of_ble_eq_true rfl) ⟨Nat.le_of_ble_eq_true rfl, Nat.le_of_ble_eq_true rfl, (show _ ≤ 600000 from by omega), (show _ ≤ 7302250 from by omega)⟩ (fun r_366 N_367 V_368 q_369 => ?_)
      obtain ⟨rfl, rfl⟩ := q_369
      refine aw_pop dL_law_684 rfl ?_
      refine aw_goto (tgt := 981) dL_law_685 (by decide) ?_
      refine aw_iinc (v := (nI (i + 6))) (ls' := [some (.ref b9), some (.ref (b + 0)), some (.ref (b + 100)), some (.int (nI (i + 6)))]) dL_law_981 rfl (nI_add i 6) (Nat.le_of_ble_eq_true rfl) rfl ?_
      refine aw_goto (tgt := 18) dL_law_984 (by decide) ?_
      refine mih (M + 6 - (i + 6)) (by omega) (i + 6) N cl V _ _ rfl (by omega) ?_ ?_ (by omega) hcw hcr hwf hrl <;> omega
    · skip
      refine aw_tableIn (off := 655) (tgt := 688) dL_law_33 (by decide) (by decide) (by decide) (by decide) ?_
      refine aw_aload_n dL_law_688 rfl ?_
      refine aw_aload_n dL_law_689 rfl ?_
      refine aw_iload_n dL_law_690 rfl ?_
      refine aw_iconst (v := 1) dL_law_691 (by decide) ?_
      refine aw_iadd dL_law_692 ?_
      refine aw_eqi (y := nI (i + 1)) (nI_add _ _) ?_
      refine aw_sld dL_law_693 rfl (vp_in_nI (n := (i + 1)) (by omega) (by omega)) ?_
      refine aw_aload_n dL_law_694 rfl ?_
      refine aw_iload_n dL_law_695 rfl ?_
      refine aw_iconst (v := 2) dL_law_696 (by decide) ?_
      refine aw_iadd dL_law_697 ?_
      refine aw_eqi (y := nI (i + 2)) (nI_add _ _) ?_
      refine aw_sld dL_law_698 rfl (vp_in_nI (n := (i + 2)) (by omega) (by omega)) ?_
      refine aw_callVi (J' := jX11_steps) (As := [.int (xs ((nI (i + 1))).toNatClampNeg), .int (xs ((nI (i + 2))).toNatClampNeg)]) (st := []) dL_law_699 tb_911 ok_X11_steps ⟨_, (CW.o0 hcw).choose_spec⟩ (by omega) rfl rfl (g_X11_steps l D b N V (by omega) hcw (xs ((nI (i + 1))).toNatClampNeg) (xs ((nI (i + 2))).toNatClampNeg)) rfl (Nat.le_of_ble_eq_true rfl) ⟨Nat.le_of_ble_eq_true rfl, Nat.le_of_ble_eq_true rfl, (show _ ≤ 600000 from by omega), (show _ ≤ 7302250 from by omega)⟩ (fun r_371 N_372 V_373 q_374 => ?_)
      obtain ⟨rfl, rfl⟩ := q_374
      refine aw_pop dL_law_702 rfl ?_
      refine aw_aload_n dL_law_703 rfl ?_
      refine aw_aload_n dL_law_704 rfl ?_
      refine aw_iload_n dL_law_705 rfl ?_
      refine aw_iconst (v := 1) dL_law_706 (by decide) ?_
      refine aw_iadd dL_law_707 ?_
      refine aw_eqi (y := nI (i + 1)) (nI_add _ _) ?_
      refine aw_sld dL_law_708 rfl (vp_in_nI (n := (i + 1)) (by omega) (by omega)) ?_
      refine aw_aload_n dL_law_709 rfl ?_
      refine aw_iload_n dL_law_710 rfl ?_
      refine aw_iconst (v := 2) dL_law_711 (by decide) ?_
      refine aw_iadd dL_law_712 ?_
      refine aw_eqi (y := nI (i + 2)) (nI_add _ _) ?_
      refine aw_sld dL_law_713 rfl (vp_in_nI (n := (i + 2)) (by omega) (by omega)) ?_
      refine aw_callVi (J' := jX12_steps) (As := [.int (xs ((nI (i + 1))).toNatClampNeg), .int (xs ((nI (i + 2))).toNatClampNeg)]) (st := []) dL_law_714 tb_1548 ok_X12_steps ⟨_, (CR.o100 hcr).choose_spec⟩ (by omega) rfl rfl (r_steps l D b N V (by omega) cl hcr (xs ((nI (i + 1))).toNatClampNeg) (xs ((nI (i + 2))).toNatClampNeg)) rfl (Nat.le_of_ble_eq_true rfl) ⟨Nat.le_of_ble_eq_true rfl, Nat.le_of_ble_eq_true rfl, (show _ ≤ 600000 from by omega), (show _ ≤ 7302250 from by omega)⟩ (fun r_383 N_384 V_385 q_386 => ?_)
      obtain ⟨rfl, rfl⟩ := q_386
      refine aw_pop dL_law_717 rfl ?_
      refine aw_goto (tgt := 981) dL_law_718 (by decide) ?_
      refine aw_iinc (v := (nI (i + 6))) (ls' := [some (.ref b9), some (.ref (b + 0)), some (.ref (b + 100)), some (.int (nI (i + 6)))]) dL_law_981 rfl (nI_add i 6) (Nat.le_of_ble_eq_true rfl) rfl ?_
      refine aw_goto (tgt := 18) dL_law_984 (by decide) ?_
      refine mih (M + 6 - (i + 6)) (by omega) (i + 6) N cl V _ _ rfl (by omega) ?_ ?_ (by omega) hcw hcr hwf hrl <;> omega
    · skip
      refine aw_tableIn (off := 688) (tgt := 721) dL_law_33 (by decide) (by decide) (by decide) (by decide) ?_
      refine aw_aload_n dL_law_721 rfl ?_
      refine aw_aload_n dL_law_722 rfl ?_
      refine aw_iload_n dL_law_723 rfl ?_
      refine aw_iconst (v := 1) dL_law_724 (by decide) ?_
      refine aw_iadd dL_law_725 ?_
      refine aw_eqi (y := nI (i + 1)) (nI_add _ _) ?_
      refine aw_sld dL_law_726 rfl (vp_in_nI (n := (i + 1)) (by omega) (by omega)) ?_
      refine aw_aload_n dL_law_727 rfl ?_
      refine aw_iload_n dL_law_728 rfl ?_
      refine aw_iconst (v := 2) dL_law_729 (by decide) ?_
      refine aw_iadd dL_law_730 ?_
      refine aw_eqi (y := nI (i + 2)) (nI_add _ _) ?_
      refine aw_sld dL_law_731 rfl (vp_in_nI (n := (i + 2)) (by omega) (by omega)) ?_
      refine aw_callVi (J' := jX11_guess) (As := [.int (xs ((nI (i + 1))).toNatClampNeg), .int (xs ((nI (i + 2))).toNatClampNeg)]) (st := []) dL_law_732 tb_918 ok_X11_guess ⟨_, (CW.o0 hcw).choose_spec⟩ (by omega) rfl rfl (g_X11_guessK l D b N V (by omega) hcw (xs ((nI (i + 1))).toNatClampNeg) (xs ((nI (i + 2))).toNatClampNeg)) rfl (Nat.le_of_ble_eq_true rfl) ⟨Nat.le_of_ble_eq_true rfl, Nat.le_of_ble_eq_true rfl, (show _ ≤ 600000 from by omega), (show _ ≤ 7302250 from by omega)⟩ (fun r_396 N_397 V_387 q_398 => ?_)
      obtain ⟨hs_389, rfl, j_388⟩ := q_398
      have cw_393 := j_388.1
      have cr_394 := CR.fr hcr (fun i h1 h2 => j_388.2.1 i h1 (by omega))
      have wf_395 := WF.fr hwf (fun i h1 h2 => j_388.2.1 i (by omega) (by omega))
      refine aw_pop dL_law_735 rfl ?_
      refine aw_aload_n dL_law_736 rfl ?_
      refine aw_aload_n dL_law_737 rfl ?_
      refine aw_iload_n dL_law_738 rfl ?_
      refine aw_iconst (v := 1) dL_law_739 (by decide) ?_
      refine aw_iadd dL_law_740 ?_
      refine aw_eqi (y := nI (i + 1)) (nI_add _ _) ?_
      refine aw_sld dL_law_741 rfl (vp_in_nI (n := (i + 1)) (by omega) (by omega)) ?_
      refine aw_aload_n dL_law_742 rfl ?_
      refine aw_iload_n dL_law_743 rfl ?_
      refine aw_iconst (v := 2) dL_law_744 (by decide) ?_
      refine aw_iadd dL_law_745 ?_
      refine aw_eqi (y := nI (i + 2)) (nI_add _ _) ?_
      refine aw_sld dL_law_746 rfl (vp_in_nI (n := (i + 2)) (by omega) (by omega)) ?_
      refine aw_callVi (J' := jX12_guess) (As := [.int (xs ((nI (i + 1))).toNatClampNeg), .int (xs ((nI (i + 2))).toNatClampNeg)]) (st := []) dL_law_747 tb_1552 ok_X12_guess ⟨_, (CR.o100 cr_394).choose_spec⟩ (by omega) rfl rfl (r_guessK l D b N V_387 (by omega) cl cr_394 (xs ((nI (i + 1))).toNatClampNeg) (xs ((nI (i + 2))).toNatClampNeg) (xs ((nI (i + 1))).toNatClampNeg) (xs ((nI (i + 2))).toNatClampNeg) ⟨rfl, rfl⟩) rfl (Nat.le_of_ble_eq_true rfl) ⟨Nat.le_of_ble_eq_true rfl, Nat.le_of_ble_eq_true rfl, (show _ ≤ 600000 from by omega), (show _ ≤ 7302250 from by omega)⟩ (fun r_408 N_409 V_399 q_410 => ?_)
      obtain ⟨hs_404, rfl, jr_403⟩ := q_410
      have cr_401 := jr_403.1
      have cw_400 := CW.out cw_393 (fun i hi => jr_403.2.1 i (Or.inl hi) (by omega))
      have wf_402 := WF.fr wf_395 jr_403.2.2.1
      have e_407 : fI (V_387 100) 13 = fI (V 1) 1 := (congrArg (fun z => fI z 13) (j_388.2.1 100 (by decide) (by omega))).trans (hrl.2.2.2).symm
      rw [e_407] at hs_404
      have rl_406 : RLs V_399 := ⟨(congrArg (fun z => fI z 4) (jr_403.2.1 0 (Or.inl (by decide)) (by omega))).trans ((JW.fI j_388 (by decide) (by decide) : fI (V_387 0) 4 = fI (V 0) 4).trans ((hrl.1).trans ((congrArg (fun z => fI z 51) (j_388.2.1 100 (by decide) (by omega))).symm.trans ((JR.fI jr_403 (by decide) (by decide) (by decide)) : fI (V_399 100) 51 = fI (V_387 100) 51).symm))), (congrArg (fun z => fI z 7) (jr_403.2.1 3 (Or.inl (by decide)) (by omega))).trans ((JW.fI j_388 (by decide) (by decide) : fI (V_387 3) 7 = fI (V 3) 7).trans ((hrl.2.1).trans ((congrArg (fun z => fI z 208) (j_388.2.1 101 (by decide) (by omega))).symm.trans ((JR.fI jr_403 (by decide) (by decide) (by decide)) : fI (V_399 101) 208 = fI (V_387 101) 208).symm))), (congrArg (fun z => fI z 7) (jr_403.2.1 39 (Or.inl (by decide)) (by omega))).trans ((JW.fI j_388 (by decide) (by decide) : fI (V_387 39) 7 = fI (V 39) 7).trans ((hrl.2.2.1).trans ((congrArg (fun z => fI z 208) (j_388.2.1 103 (by decide) (by omega))).symm.trans ((JR.fI jr_403 (by decide) (by decide) (by decide)) : fI (V_399 103) 208 = fI (V_387 103) 208).symm))), (congrArg (fun z => fI z 1) (jr_403.2.1 1 (Or.inl (by decide)) (by omega))).trans (TKS.one hs_389 hs_404)⟩
      refine aw_pop dL_law_750 rfl ?_
      refine aw_goto (tgt := 981) dL_law_751 (by decide) ?_
      refine aw_iinc (v := (nI (i + 6))) (ls' := [some (.ref b9), some (.ref (b + 0)), some (.ref (b + 100)), some (.int (nI (i + 6)))]) dL_law_981 rfl (nI_add i 6) (Nat.le_of_ble_eq_true rfl) rfl ?_
      refine aw_goto (tgt := 18) dL_law_984 (by decide) ?_
      refine mih (M + 6 - (i + 6)) (by omega) (i + 6) N cl V_399 _ _ rfl (by omega) ?_ ?_ (by omega) cw_400 cr_401 wf_402 rl_406 <;> omega
    · skip
      refine aw_tableIn (off := 721) (tgt := 754) dL_law_33 (by decide) (by decide) (by decide) (by decide) ?_
      refine aw_aload_n dL_law_754 rfl ?_
      refine aw_aload_n dL_law_755 rfl ?_
      refine aw_iload_n dL_law_756 rfl ?_
      refine aw_iconst (v := 1) dL_law_757 (by decide) ?_
      refine aw_iadd dL_law_758 ?_
      refine aw_eqi (y := nI (i + 1)) (nI_add _ _) ?_
      refine aw_sld dL_law_759 rfl (vp_in_nI (n := (i + 1)) (by omega) (by omega)) ?_
      refine aw_aload_n dL_law_760 rfl ?_
      refine aw_iload_n dL_law_761 rfl ?_
      refine aw_iconst (v := 2) dL_law_762 (by decide) ?_
      refine aw_iadd dL_law_763 ?_
      refine aw_eqi (y := nI (i + 2)) (nI_add _ _) ?_
      refine aw_sld dL_law_764 rfl (vp_in_nI (n := (i + 2)) (by omega) (by omega)) ?_
      refine aw_callVi (J' := jX11_sentNext) (As := [.int (xs ((nI (i + 1))).toNatClampNeg), .int (xs ((nI (i + 2))).toNatClampNeg)]) (st := []) dL_law_765 tb_942 ok_X11_sentNext ⟨_, (CW.o0 hcw).choose_spec⟩ (by omega) rfl rfl (g_X11_sentNext l D b N V (by omega) hcw (xs ((nI (i + 1))).toNatClampNeg) (xs ((nI (i + 2))).toNatClampNeg)) rfl (Nat.le_of_ble_eq_true rfl) ⟨Nat.le_of_ble_eq_true rfl, Nat.le_of_ble_eq_true rfl, (show _ ≤ 600000 from by omega), (show _ ≤ 7302250 from by omega)⟩ (fun r_412 N_413 V_414 q_415 => ?_)
      obtain ⟨rfl, rfl⟩ := q_415
      refine aw_pop dL_law_768 rfl ?_
      refine aw_aload_n dL_law_769 rfl ?_
      refine aw_aload_n dL_law_770 rfl ?_
      refine aw_iload_n dL_law_771 rfl ?_
      refine aw_iconst (v := 1) dL_law_772 (by decide) ?_
      refine aw_iadd dL_law_773 ?_
      refine aw_eqi (y := nI (i + 1)) (nI_add _ _) ?_
      refine aw_sld dL_law_774 rfl (vp_in_nI (n := (i + 1)) (by omega) (by omega)) ?_
      refine aw_aload_n dL_law_775 rfl ?_
      refine aw_iload_n dL_law_776 rfl ?_
      refine aw_iconst (v := 2) dL_law_777 (by decide) ?_
      refine aw_iadd dL_law_778 ?_
      refine aw_eqi (y := nI (i + 2)) (nI_add _ _) ?_
      refine aw_sld dL_law_779 rfl (vp_in_nI (n := (i + 2)) (by omega) (by omega)) ?_
      refine aw_callVi (J' := jX12_sentNext) (As := [.int (xs ((nI (i + 1))).toNatClampNeg), .int (xs ((nI (i + 2))).toNatClampNeg)]) (st := []) dL_law_780 tb_1564 ok_X12_sentNext ⟨_, (CR.o100 hcr).choose_spec⟩ (by omega) rfl rfl (r_sentNext l D b N V (by omega) cl hcr (xs ((nI (i + 1))).toNatClampNeg) (xs ((nI (i + 2))).toNatClampNeg)) rfl (Nat.le_of_ble_eq_true rfl) ⟨Nat.le_of_ble_eq_true rfl, Nat.le_of_ble_eq_true rfl, (show _ ≤ 600000 from by omega), (show _ ≤ 7302250 from by omega)⟩ (fun r_424 N_425 V_426 q_427 => ?_)
      obtain ⟨rfl, rfl⟩ := q_427
      refine aw_pop dL_law_783 rfl ?_
      refine aw_goto (tgt := 981) dL_law_784 (by decide) ?_
      refine aw_iinc (v := (nI (i + 6))) (ls' := [some (.ref b9), some (.ref (b + 0)), some (.ref (b + 100)), some (.int (nI (i + 6)))]) dL_law_981 rfl (nI_add i 6) (Nat.le_of_ble_eq_true rfl) rfl ?_
      refine aw_goto (tgt := 18) dL_law_984 (by decide) ?_
      refine mih (M + 6 - (i + 6)) (by omega) (i + 6) N cl V _ _ rfl (by omega) ?_ ?_ (by omega) hcw hcr hwf hrl <;> omega
    · skip
      refine aw_tableIn (off := 754) (tgt := 787) dL_law_33 (by decide) (by decide) (by decide) (by decide) ?_
      refine aw_aload_n dL_law_787 rfl ?_
      refine aw_aload_n dL_law_788 rfl ?_
      refine aw_iload_n dL_law_789 rfl ?_
      refine aw_iconst (v := 1) dL_law_790 (by decide) ?_
      refine aw_iadd dL_law_791 ?_
      refine aw_eqi (y := nI (i + 1)) (nI_add _ _) ?_
      refine aw_sld dL_law_792 rfl (vp_in_nI (n := (i + 1)) (by omega) (by omega)) ?_
      refine aw_callVi (J' := jX11_guards) (As := [.int (xs ((nI (i + 1))).toNatClampNeg)]) (st := []) dL_law_793 tb_954 ok_X11_guards ⟨_, (CW.o0 hcw).choose_spec⟩ (by omega) rfl rfl (g_X11_guardsK l D b N V (by omega) hcw (xs ((nI (i + 1))).toNatClampNeg)) rfl (Nat.le_of_ble_eq_true rfl) ⟨Nat.le_of_ble_eq_true rfl, Nat.le_of_ble_eq_true rfl, (show _ ≤ 600000 from by omega), (show _ ≤ 7302250 from by omega)⟩ (fun r_437 N_438 V_428 q_439 => ?_)
      obtain ⟨hs_430, rfl, j_429⟩ := q_439
      have cw_434 := j_429.1
      have cr_435 := CR.fr hcr (fun i h1 h2 => j_429.2.1 i h1 (by omega))
      have wf_436 := WF.fr hwf (fun i h1 h2 => j_429.2.1 i (by omega) (by omega))
      refine aw_pop dL_law_796 rfl ?_
      refine aw_aload_n dL_law_797 rfl ?_
      refine aw_aload_n dL_law_798 rfl ?_
      refine aw_iload_n dL_law_799 rfl ?_
      refine aw_iconst (v := 1) dL_law_800 (by decide) ?_
      refine aw_iadd dL_law_801 ?_
      refine aw_eqi (y := nI (i + 1)) (nI_add _ _) ?_
      refine aw_sld dL_law_802 rfl (vp_in_nI (n := (i + 1)) (by omega) (by omega)) ?_
      refine aw_callVi (J' := jX12_guards) (As := [.int (xs ((nI (i + 1))).toNatClampNeg)]) (st := []) dL_law_803 tb_1572 ok_X12_guards ⟨_, (CR.o100 cr_435).choose_spec⟩ (by omega) rfl rfl (r_guardsK l D b N V_428 (by omega) cl cr_435 (xs ((nI (i + 1))).toNatClampNeg) (xs ((nI (i + 1))).toNatClampNeg) rfl) rfl (Nat.le_of_ble_eq_true rfl) ⟨Nat.le_of_ble_eq_true rfl, Nat.le_of_ble_eq_true rfl, (show _ ≤ 600000 from by omega), (show _ ≤ 7302250 from by omega)⟩ (fun r_449 N_450 V_440 q_451 => ?_)
      obtain ⟨hs_445, rfl, jr_444⟩ := q_451
      have cr_442 := jr_444.1
      have cw_441 := CW.out cw_434 (fun i hi => jr_444.2.1 i (Or.inl hi) (by omega))
      have wf_443 := WF.fr wf_436 jr_444.2.2.1
      have e_448 : fI (V_428 100) 13 = fI (V 1) 1 := (congrArg (fun z => fI z 13) (j_429.2.1 100 (by decide) (by omega))).trans (hrl.2.2.2).symm
      rw [e_448] at hs_445
      have rl_447 : RLs V_440 := ⟨(congrArg (fun z => fI z 4) (jr_444.2.1 0 (Or.inl (by decide)) (by omega))).trans ((JW.fI j_429 (by decide) (by decide) : fI (V_428 0) 4 = fI (V 0) 4).trans ((hrl.1).trans ((congrArg (fun z => fI z 51) (j_429.2.1 100 (by decide) (by omega))).symm.trans ((JR.fI jr_444 (by decide) (by decide) (by decide)) : fI (V_440 100) 51 = fI (V_428 100) 51).symm))), (congrArg (fun z => fI z 7) (jr_444.2.1 3 (Or.inl (by decide)) (by omega))).trans ((JW.fI j_429 (by decide) (by decide) : fI (V_428 3) 7 = fI (V 3) 7).trans ((hrl.2.1).trans ((congrArg (fun z => fI z 208) (j_429.2.1 101 (by decide) (by omega))).symm.trans ((JR.fI jr_444 (by decide) (by decide) (by decide)) : fI (V_440 101) 208 = fI (V_428 101) 208).symm))), (congrArg (fun z => fI z 7) (jr_444.2.1 39 (Or.inl (by decide)) (by omega))).trans ((JW.fI j_429 (by decide) (by decide) : fI (V_428 39) 7 = fI (V 39) 7).trans ((hrl.2.2.1).trans ((congrArg (fun z => fI z 208) (j_429.2.1 103 (by decide) (by omega))).symm.trans ((JR.fI jr_444 (by decide) (by decide) (by decide)) : fI (V_440 103) 208 = fI (V_428 103) 208).symm))), (congrArg (fun z => fI z 1) (jr_444.2.1 1 (Or.inl (by decide)) (by omega))).trans (TKS.one hs_430 hs_445)⟩
      refine aw_pop dL_law_806 rfl ?_
      refine aw_goto (tgt := 981) dL_law_807 (by decide) ?_
      refine aw_iinc (v := (nI (i + 6))) (ls' := [some (.ref b9), some (.ref (b + 0)), some (.ref (b + 100)), some (.int (nI (i + 6)))]) dL_law_981 rfl (nI_add i 6) (Nat.le_of_ble_eq_true rfl) rfl ?_
      refine aw_goto (tgt := 18) dL_law_984 (by decide) ?_
      refine mih (M + 6 - (i + 6)) (by omega) (i + 6) N cl V_440 _ _ rfl (by omega) ?_ ?_ (by omega) cw_441 cr_442 wf_443 rl_447 <;> omega
    · skip
      refine aw_tableIn (off := 777) (tgt := 810) dL_law_33 (by decide) (by decide) (by decide) (by decide) ?_
      refine aw_aload_n dL_law_810 rfl ?_
      refine aw_aload_n dL_law_811 rfl ?_
      refine aw_iload_n dL_law_812 rfl ?_
      refine aw_iconst (v := 1) dL_law_813 (by decide) ?_
      refine aw_iadd dL_law_814 ?_
      refine aw_eqi (y := nI (i + 1)) (nI_add _ _) ?_
      refine aw_sld dL_law_815 rfl (vp_in_nI (n := (i + 1)) (by omega) (by omega)) ?_
      refine aw_aload_n dL_law_816 rfl ?_
      refine aw_iload_n dL_law_817 rfl ?_
      refine aw_iconst (v := 2) dL_law_818 (by decide) ?_
      refine aw_iadd dL_law_819 ?_
      refine aw_eqi (y := nI (i + 2)) (nI_add _ _) ?_
      refine aw_sld dL_law_820 rfl (vp_in_nI (n := (i + 2)) (by omega) (by omega)) ?_
      refine aw_aload_n dL_law_821 rfl ?_
      refine aw_iload_n dL_law_822 rfl ?_
      refine aw_iconst (v := 3) dL_law_823 (by decide) ?_
      refine aw_iadd dL_law_824 ?_
      refine aw_eqi (y := nI (i + 3)) (nI_add _ _) ?_
      refine aw_sld dL_law_825 rfl (vp_in_nI (n := (i + 3)) (by omega) (by omega)) ?_
      refine aw_callVl (J' := jX11_word) (As := [.int (xs ((nI (i + 1))).toNatClampNeg), .int (xs ((nI (i + 2))).toNatClampNeg), .int (xs ((nI (i + 3))).toNatClampNeg)]) (st := []) dL_law_826 tb_973 ok_X11_word ⟨_, (CW.o0 hcw).choose_spec⟩ (by omega) rfl rfl (g_X11_word l D b N V (by omega) hcw (xs ((nI (i + 1))).toNatClampNeg) (xs ((nI (i + 2))).toNatClampNeg) (xs ((nI (i + 3))).toNatClampNeg)) rfl (Nat.le_of_ble_eq_true rfl) ⟨Nat.le_of_ble_eq_true rfl, Nat.le_of_ble_eq_true rfl, (show _ ≤ 600000 from by omega), (show _ ≤ 7302250 from by omega)⟩ (fun r_461 N_462 V_452 q_463 => ?_)
      obtain ⟨rfl, j_453⟩ := q_463
      have cw_458 := j_453.1
      have cr_459 := CR.fr hcr (fun i h1 h2 => j_453.2.1 i h1 (by omega))
      have wf_460 := WF.fr hwf (fun i h1 h2 => j_453.2.1 i (by omega) (by omega))
      refine aw_pop2 dL_law_829 rfl ?_
      refine aw_aload_n dL_law_830 rfl ?_
      refine aw_aload_n dL_law_831 rfl ?_
      refine aw_iload_n dL_law_832 rfl ?_
      refine aw_iconst (v := 1) dL_law_833 (by decide) ?_
      refine aw_iadd dL_law_834 ?_
      refine aw_eqi (y := nI (i + 1)) (nI_add _ _) ?_
      refine aw_sld dL_law_835 rfl (vp_in_nI (n := (i + 1)) (by omega) (by omega)) ?_
      refine aw_aload_n dL_law_836 rfl ?_
      refine aw_iload_n dL_law_837 rfl ?_
      refine aw_iconst (v := 2) dL_law_838 (by decide) ?_
      refine aw_iadd dL_law_839 ?_
      refine aw_eqi (y := nI (i + 2)) (nI_add _ _) ?_
      refine aw_sld dL_law_840 rfl (vp_in_nI (n := (i + 2)) (by omega) (by omega)) ?_
      refine aw_aload_n dL_law_841 rfl ?_
      refine aw_iload_n dL_law_842 rfl ?_
      refine aw_iconst (v := 3) dL_law_843 (by decide) ?_
      refine aw_iadd dL_law_844 ?_
      refine aw_eqi (y := nI (i + 3)) (nI_add _ _) ?_
      refine aw_sld dL_law_845 rfl (vp_in_nI (n := (i + 3)) (by omega) (by omega)) ?_
      refine aw_callVl (J' := jX12_word) (As := [.int (xs ((nI (i + 1))).toNatClampNeg), .int (xs ((nI (i + 2))).toNatClampNeg), .int (xs ((nI (i + 3))).toNatClampNeg)]) (st := []) dL_law_846 tb_1588 ok_X12_word ⟨_, (CR.o100 cr_459).choose_spec⟩ (by omega) rfl rfl (r_word l D b N V_452 (by omega) cl cr_459 (xs ((nI (i + 1))).toNatClampNeg) (xs ((nI (i + 2))).toNatClampNeg) (xs ((nI (i + 3))).toNatClampNeg)) rfl (Nat.le_of_ble_eq_true rfl) ⟨Nat.le_of_ble_eq_true rfl, Nat.le_of_ble_eq_true rfl, (show _ ≤ 600000 from by omega), (show _ ≤ 7302250 from by omega)⟩ (fun r_472 N_473 V_464 q_474 => ?_)
      obtain ⟨rfl, jr_468⟩ := q_474
      have cr_466 := jr_468.1
      have cw_465 := CW.out cw_458 (fun i hi => jr_468.2.1 i (Or.inl hi) (by omega))
      have wf_467 := WF.fr wf_460 jr_468.2.2.1
      have rl_471 : RLs V_464 := ⟨(congrArg (fun z => fI z 4) (jr_468.2.1 0 (Or.inl (by decide)) (by omega))).trans ((JW.fI j_453 (by decide) (by decide) : fI (V_452 0) 4 = fI (V 0) 4).trans ((hrl.1).trans ((congrArg (fun z => fI z 51) (j_453.2.1 100 (by decide) (by omega))).symm.trans ((JR.fI jr_468 (by decide) (by decide) (by decide)) : fI (V_464 100) 51 = fI (V_452 100) 51).symm))), (congrArg (fun z => fI z 7) (jr_468.2.1 3 (Or.inl (by decide)) (by omega))).trans ((JW.fI j_453 (by decide) (by decide) : fI (V_452 3) 7 = fI (V 3) 7).trans ((hrl.2.1).trans ((congrArg (fun z => fI z 208) (j_453.2.1 101 (by decide) (by omega))).symm.trans ((JR.fI jr_468 (by decide) (by decide) (by decide)) : fI (V_464 101) 208 = fI (V_452 101) 208).symm))), (congrArg (fun z => fI z 7) (jr_468.2.1 39 (Or.inl (by decide)) (by omega))).trans ((JW.fI j_453 (by decide) (by decide) : fI (V_452 39) 7 = fI (V 39) 7).trans ((hrl.2.2.1).trans ((congrArg (fun z => fI z 208) (j_453.2.1 103 (by decide) (by omega))).symm.trans ((JR.fI jr_468 (by decide) (by decide) (by decide)) : fI (V_464 103) 208 = fI (V_452 103) 208).symm))), (congrArg (fun z => fI z 1) (jr_468.2.1 1 (Or.inl (by decide)) (by omega))).trans ((JW.fI j_453 (by decide) (by decide) : fI (V_452 1) 1 = fI (V 1) 1).trans ((hrl.2.2.2).trans ((congrArg (fun z => fI z 13) (j_453.2.1 100 (by decide) (by omega))).symm.trans ((JR.fI jr_468 (by decide) (by decide) (by decide)) : fI (V_464 100) 13 = fI (V_452 100) 13).symm)))⟩
      refine aw_pop2 dL_law_849 rfl ?_
      refine aw_goto (tgt := 981) dL_law_850 (by decide) ?_
      refine aw_iinc (v := (nI (i + 6))) (ls' := [some (.ref b9), some (.ref (b + 0)), some (.ref (b + 100)), some (.int (nI (i + 6)))]) dL_law_981 rfl (nI_add i 6) (Nat.le_of_ble_eq_true rfl) rfl ?_
      refine aw_goto (tgt := 18) dL_law_984 (by decide) ?_
      refine mih (M + 6 - (i + 6)) (by omega) (i + 6) N cl V_464 _ _ rfl (by omega) ?_ ?_ (by omega) cw_465 cr_466 wf_467 rl_471 <;> omega
    · skip
      refine aw_tableIn (off := 820) (tgt := 853) dL_law_33 (by decide) (by decide) (by decide) (by decide) ?_
      refine aw_aload_n dL_law_853 rfl ?_
      refine aw_aload_n dL_law_854 rfl ?_
      refine aw_iload_n dL_law_855 rfl ?_
      refine aw_iconst (v := 1) dL_law_856 (by decide) ?_
      refine aw_iadd dL_law_857 ?_
      refine aw_eqi (y := nI (i + 1)) (nI_add _ _) ?_
      refine aw_sld dL_law_858 rfl (vp_in_nI (n := (i + 1)) (by omega) (by omega)) ?_
      refine aw_aload_n dL_law_859 rfl ?_
      refine aw_iload_n dL_law_860 rfl ?_
      refine aw_iconst (v := 2) dL_law_861 (by decide) ?_
      refine aw_iadd dL_law_862 ?_
      refine aw_eqi (y := nI (i + 2)) (nI_add _ _) ?_
      refine aw_sld dL_law_863 rfl (vp_in_nI (n := (i + 2)) (by omega) (by omega)) ?_
      refine aw_callVi (J' := jX11_rooms) (As := [.int (xs ((nI (i + 1))).toNatClampNeg), .int (xs ((nI (i + 2))).toNatClampNeg)]) (st := []) dL_law_864 tb_986 ok_X11_rooms ⟨_, (CW.o0 hcw).choose_spec⟩ (by omega) rfl rfl (g_X11_roomsK l D b N V (by omega) hcw (xs ((nI (i + 1))).toNatClampNeg) (xs ((nI (i + 2))).toNatClampNeg)) rfl (Nat.le_of_ble_eq_true rfl) ⟨Nat.le_of_ble_eq_true rfl, Nat.le_of_ble_eq_true rfl, (show _ ≤ 600000 from by omega), (show _ ≤ 7302250 from by omega)⟩ (fun r_484 N_485 V_475 q_486 => ?_)
      obtain ⟨hs_477, rfl, j_476⟩ := q_486
      have cw_481 := j_476.1
      have cr_482 := CR.fr hcr (fun i h1 h2 => j_476.2.1 i h1 (by omega))
      have wf_483 := WF.fr hwf (fun i h1 h2 => j_476.2.1 i (by omega) (by omega))
      refine aw_pop dL_law_867 rfl ?_
      refine aw_aload_n dL_law_868 rfl ?_
      refine aw_aload_n dL_law_869 rfl ?_
      refine aw_iload_n dL_law_870 rfl ?_
      refine aw_iconst (v := 1) dL_law_871 (by decide) ?_
      refine aw_iadd dL_law_872 ?_
      refine aw_eqi (y := nI (i + 1)) (nI_add _ _) ?_
      refine aw_sld dL_law_873 rfl (vp_in_nI (n := (i + 1)) (by omega) (by omega)) ?_
      refine aw_aload_n dL_law_874 rfl ?_
      refine aw_iload_n dL_law_875 rfl ?_
      refine aw_iconst (v := 2) dL_law_876 (by decide) ?_
      refine aw_iadd dL_law_877 ?_
      refine aw_eqi (y := nI (i + 2)) (nI_add _ _) ?_
      refine aw_sld dL_law_878 rfl (vp_in_nI (n := (i + 2)) (by omega) (by omega)) ?_
      refine aw_callVi (J' := jX12_rooms) (As := [.int (xs ((nI (i + 1))).toNatClampNeg), .int (xs ((nI (i + 2))).toNatClampNeg)]) (st := []) dL_law_879 tb_1593 ok_X12_rooms ⟨_, (CR.o100 cr_482).choose_spec⟩ (by omega) rfl rfl (r_roomsK l D b N V_475 (by omega) cl cr_482 (xs ((nI (i + 1))).toNatClampNeg) (xs ((nI (i + 2))).toNatClampNeg) (xs ((nI (i + 1))).toNatClampNeg) (xs ((nI (i + 2))).toNatClampNeg) ⟨rfl, rfl⟩) rfl (Nat.le_of_ble_eq_true rfl) ⟨Nat.le_of_ble_eq_true rfl, Nat.le_of_ble_eq_true rfl, (show _ ≤ 600000 from by omega), (show _ ≤ 7302250 from by omega)⟩ (fun r_496 N_497 V_487 q_498 => ?_)
      obtain ⟨hs_492, rfl, jr_491⟩ := q_498
      have cr_489 := jr_491.1
      have cw_488 := CW.out cw_481 (fun i hi => jr_491.2.1 i (Or.inl hi) (by omega))
      have wf_490 := WF.fr wf_483 jr_491.2.2.1
      have e_495 : fI (V_475 100) 13 = fI (V 1) 1 := (congrArg (fun z => fI z 13) (j_476.2.1 100 (by decide) (by omega))).trans (hrl.2.2.2).symm
      rw [e_495] at hs_492
      have rl_494 : RLs V_487 := ⟨(congrArg (fun z => fI z 4) (jr_491.2.1 0 (Or.inl (by decide)) (by omega))).trans ((JW.fI j_476 (by decide) (by decide) : fI (V_475 0) 4 = fI (V 0) 4).trans ((hrl.1).trans ((congrArg (fun z => fI z 51) (j_476.2.1 100 (by decide) (by omega))).symm.trans ((JR.fI jr_491 (by decide) (by decide) (by decide)) : fI (V_487 100) 51 = fI (V_475 100) 51).symm))), (congrArg (fun z => fI z 7) (jr_491.2.1 3 (Or.inl (by decide)) (by omega))).trans ((JW.fI j_476 (by decide) (by decide) : fI (V_475 3) 7 = fI (V 3) 7).trans ((hrl.2.1).trans ((congrArg (fun z => fI z 208) (j_476.2.1 101 (by decide) (by omega))).symm.trans ((JR.fI jr_491 (by decide) (by decide) (by decide)) : fI (V_487 101) 208 = fI (V_475 101) 208).symm))), (congrArg (fun z => fI z 7) (jr_491.2.1 39 (Or.inl (by decide)) (by omega))).trans ((JW.fI j_476 (by decide) (by decide) : fI (V_475 39) 7 = fI (V 39) 7).trans ((hrl.2.2.1).trans ((congrArg (fun z => fI z 208) (j_476.2.1 103 (by decide) (by omega))).symm.trans ((JR.fI jr_491 (by decide) (by decide) (by decide)) : fI (V_487 103) 208 = fI (V_475 103) 208).symm))), (congrArg (fun z => fI z 1) (jr_491.2.1 1 (Or.inl (by decide)) (by omega))).trans (TKS.one hs_477 hs_492)⟩
      refine aw_pop dL_law_882 rfl ?_
      refine aw_goto (tgt := 981) dL_law_883 (by decide) ?_
      refine aw_iinc (v := (nI (i + 6))) (ls' := [some (.ref b9), some (.ref (b + 0)), some (.ref (b + 100)), some (.int (nI (i + 6)))]) dL_law_981 rfl (nI_add i 6) (Nat.le_of_ble_eq_true rfl) rfl ?_
      refine aw_goto (tgt := 18) dL_law_984 (by decide) ?_
      refine mih (M + 6 - (i + 6)) (by omega) (i + 6) N cl V_487 _ _ rfl (by omega) ?_ ?_ (by omega) cw_488 cr_489 wf_490 rl_494 <;> omega
    · skip
      refine aw_tableIn (off := 853) (tgt := 886) dL_law_33 (by decide) (by decide) (by decide) (by decide) ?_
      refine aw_aload_n dL_law_886 rfl ?_
      refine aw_aload_n dL_law_887 rfl ?_
      refine aw_iload_n dL_law_888 rfl ?_
      refine aw_iconst (v := 1) dL_law_889 (by decide) ?_
      refine aw_iadd dL_law_890 ?_
      refine aw_eqi (y := nI (i + 1)) (nI_add _ _) ?_
      refine aw_sld dL_law_891 rfl (vp_in_nI (n := (i + 1)) (by omega) (by omega)) ?_
      refine aw_callVi (J' := jX11_seed) (As := [.int (xs ((nI (i + 1))).toNatClampNeg)]) (st := []) dL_law_892 tb_999 ok_X11_seed ⟨_, (CW.o0 hcw).choose_spec⟩ (by omega) rfl rfl (g_X11_seed l D b N V (by omega) hcw (xs ((nI (i + 1))).toNatClampNeg)) rfl (Nat.le_of_ble_eq_true rfl) ⟨Nat.le_of_ble_eq_true rfl, Nat.le_of_ble_eq_true rfl, (show _ ≤ 600000 from by omega), (show _ ≤ 7302250 from by omega)⟩ (fun r_508 N_509 V_499 q_510 => ?_)
      obtain ⟨_, rfl, j_500⟩ := q_510
      have cw_505 := j_500.1
      have cr_506 := CR.fr hcr (fun i h1 h2 => j_500.2.1 i h1 (by omega))
      have wf_507 := WF.fr hwf (fun i h1 h2 => j_500.2.1 i (by omega) (by omega))
      refine aw_pop dL_law_895 rfl ?_
      refine aw_aload_n dL_law_896 rfl ?_
      refine aw_aload_n dL_law_897 rfl ?_
      refine aw_iload_n dL_law_898 rfl ?_
      refine aw_iconst (v := 1) dL_law_899 (by decide) ?_
      refine aw_iadd dL_law_900 ?_
      refine aw_eqi (y := nI (i + 1)) (nI_add _ _) ?_
      refine aw_sld dL_law_901 rfl (vp_in_nI (n := (i + 1)) (by omega) (by omega)) ?_
      refine aw_callVi (J' := jX12_seed) (As := [.int (xs ((nI (i + 1))).toNatClampNeg)]) (st := []) dL_law_902 tb_1601 ok_X12_seed ⟨_, (CR.o100 cr_506).choose_spec⟩ (by omega) rfl rfl (r_seed l D b N V_499 (by omega) cl cr_506 (xs ((nI (i + 1))).toNatClampNeg)) rfl (Nat.le_of_ble_eq_true rfl) ⟨Nat.le_of_ble_eq_true rfl, Nat.le_of_ble_eq_true rfl, (show _ ≤ 600000 from by omega), (show _ ≤ 7302250 from by omega)⟩ (fun r_519 N_520 V_511 q_521 => ?_)
      obtain ⟨_, rfl, jr_515⟩ := q_521
      have cr_513 := jr_515.1
      have cw_512 := CW.out cw_505 (fun i hi => jr_515.2.1 i (Or.inl hi) (by omega))
      have wf_514 := WF.fr wf_507 jr_515.2.2.1
      have rl_518 : RLs V_511 := ⟨(congrArg (fun z => fI z 4) (jr_515.2.1 0 (Or.inl (by decide)) (by omega))).trans ((JW.fI j_500 (by decide) (by decide) : fI (V_499 0) 4 = fI (V 0) 4).trans ((hrl.1).trans ((congrArg (fun z => fI z 51) (j_500.2.1 100 (by decide) (by omega))).symm.trans ((JR.fI jr_515 (by decide) (by decide) (by decide)) : fI (V_511 100) 51 = fI (V_499 100) 51).symm))), (congrArg (fun z => fI z 7) (jr_515.2.1 3 (Or.inl (by decide)) (by omega))).trans ((JW.fI j_500 (by decide) (by decide) : fI (V_499 3) 7 = fI (V 3) 7).trans ((hrl.2.1).trans ((congrArg (fun z => fI z 208) (j_500.2.1 101 (by decide) (by omega))).symm.trans ((JR.fI jr_515 (by decide) (by decide) (by decide)) : fI (V_511 101) 208 = fI (V_499 101) 208).symm))), (congrArg (fun z => fI z 7) (jr_515.2.1 39 (Or.inl (by decide)) (by omega))).trans ((JW.fI j_500 (by decide) (by decide) : fI (V_499 39) 7 = fI (V 39) 7).trans ((hrl.2.2.1).trans ((congrArg (fun z => fI z 208) (j_500.2.1 103 (by decide) (by omega))).symm.trans ((JR.fI jr_515 (by decide) (by decide) (by decide)) : fI (V_511 103) 208 = fI (V_499 103) 208).symm))), (congrArg (fun z => fI z 1) (jr_515.2.1 1 (Or.inl (by decide)) (by omega))).trans ((JW.fI j_500 (by decide) (by decide) : fI (V_499 1) 1 = fI (V 1) 1).trans ((hrl.2.2.2).trans ((congrArg (fun z => fI z 13) (j_500.2.1 100 (by decide) (by omega))).symm.trans ((JR.fI jr_515 (by decide) (by decide) (by decide)) : fI (V_511 100) 13 = fI (V_499 100) 13).symm)))⟩
      refine aw_pop dL_law_905 rfl ?_
      refine aw_goto (tgt := 981) dL_law_906 (by decide) ?_
      refine aw_iinc (v := (nI (i + 6))) (ls' := [some (.ref b9), some (.ref (b + 0)), some (.ref (b + 100)), some (.int (nI (i + 6)))]) dL_law_981 rfl (nI_add i 6) (Nat.le_of_ble_eq_true rfl) rfl ?_
      refine aw_goto (tgt := 18) dL_law_984 (by decide) ?_
      refine mih (M + 6 - (i + 6)) (by omega) (i + 6) N cl V_511 _ _ rfl (by omega) ?_ ?_ (by omega) cw_512 cr_513 wf_514 rl_518 <;> omega
    · skip
      refine aw_tableIn (off := 876) (tgt := 909) dL_law_33 (by decide) (by decide) (by decide) (by decide) ?_
      refine aw_aload_n dL_law_909 rfl ?_
      refine aw_callVi (J' := jX11_keep) (As := []) (st := []) dL_law_910 tb_1003 ok_X11_keep ⟨_, (CW.o0 hcw).choose_spec⟩ (by omega) rfl rfl (g_X11_keepK l D b N V (by omega) hcw) rfl (Nat.le_of_ble_eq_true rfl) ⟨Nat.le_of_ble_eq_true rfl, Nat.le_of_ble_eq_true rfl, (show _ ≤ 600000 from by omega), (show _ ≤ 7302250 from by omega)⟩ (fun r_531 N_532 V_522 q_533 => ?_)
      obtain ⟨hs_524, rfl, j_523⟩ := q_533
      have cw_528 := j_523.1
      have cr_529 := CR.fr hcr (fun i h1 h2 => j_523.2.1 i h1 (by omega))
      have wf_530 := WF.fr hwf (fun i h1 h2 => j_523.2.1 i (by omega) (by omega))
      refine aw_aload_n dL_law_913 rfl ?_
      refine aw_callVi (J' := jX12_keep) (As := []) (st := [.int r_531]) dL_law_914 tb_1605 ok_X12_keep ⟨_, (CR.o100 cr_529).choose_spec⟩ (by omega) rfl rfl (r_keepK l D b N V_522 (by omega) cl cr_529) rfl (Nat.le_of_ble_eq_true rfl) ⟨Nat.le_of_ble_eq_true rfl, Nat.le_of_ble_eq_true rfl, (show _ ≤ 600000 from by omega), (show _ ≤ 7302250 from by omega)⟩ (fun r_543 N_544 V_534 q_545 => ?_)
      obtain ⟨hs_539, rfl, jr_538⟩ := q_545
      have cr_536 := jr_538.1
      have cw_535 := CW.out cw_528 (fun i hi => jr_538.2.1 i (Or.inl hi) (by omega))
      have wf_537 := WF.fr wf_530 jr_538.2.2.1
      have e_542 : fI (V_522 101) 208 = fI (V 3) 7 := (congrArg (fun z => fI z 208) (j_523.2.1 101 (by decide) (by omega))).trans (hrl.2.1).symm
      have rl_541 : RLs V_534 := ⟨(congrArg (fun z => fI z 4) (jr_538.2.1 0 (Or.inl (by decide)) (by omega))).trans (hs_524.2.2.trans hs_539.2.2.symm), (congrArg (fun z => fI z 7) (jr_538.2.1 3 (Or.inl (by decide)) (by omega))).trans ((JW.fI j_523 (by decide) (by decide) : fI (V_522 3) 7 = fI (V 3) 7).trans ((hrl.2.1).trans ((congrArg (fun z => fI z 208) (j_523.2.1 101 (by decide) (by omega))).symm.trans ((JR.fI jr_538 (by decide) (by decide) (by decide)) : fI (V_534 101) 208 = fI (V_522 101) 208).symm))), (congrArg (fun z => fI z 7) (jr_538.2.1 39 (Or.inl (by decide)) (by omega))).trans (hs_524.2.1.trans (e_542.symm.trans hs_539.2.1.symm)), (congrArg (fun z => fI z 1) (jr_538.2.1 1 (Or.inl (by decide)) (by omega))).trans ((JW.fI j_523 (by decide) (by decide) : fI (V_522 1) 1 = fI (V 1) 1).trans ((hrl.2.2.2).trans ((congrArg (fun z => fI z 13) (j_523.2.1 100 (by decide) (by omega))).symm.trans ((JR.fI jr_538 (by decide) (by decide) (by decide)) : fI (V_534 100) 13 = fI (V_522 100) 13).symm)))⟩
      refine aw_icmp_eq (tgt := 981) dL_law_917 (by decide) (fun c_546 => ?_) (fun c_546 => ?_)
      rotate_left
      · exact absurd (hs_524.1.trans (e_542.symm.trans hs_539.1.symm)) c_546
      refine aw_iinc (v := (nI (i + 6))) (ls' := [some (.ref b9), some (.ref (b + 0)), some (.ref (b + 100)), some (.int (nI (i + 6)))]) dL_law_981 rfl (nI_add i 6) (Nat.le_of_ble_eq_true rfl) rfl ?_
      refine aw_goto (tgt := 18) dL_law_984 (by decide) ?_
      refine mih (M + 6 - (i + 6)) (by omega) (i + 6) N cl V_534 _ _ rfl (by omega) ?_ ?_ (by omega) cw_535 cr_536 wf_537 rl_541 <;> omega
    · skip
      refine aw_tableIn (off := 889) (tgt := 922) dL_law_33 (by decide) (by decide) (by decide) (by decide) ?_
      refine aw_aload_n dL_law_922 rfl ?_
      refine aw_callVi (J' := jX11_undo) (As := []) (st := []) dL_law_923 tb_1007 ok_X11_undo ⟨_, (CW.o0 hcw).choose_spec⟩ (by omega) rfl rfl (g_X11_undoK l D b N V (by omega) hcw) rfl (Nat.le_of_ble_eq_true rfl) ⟨Nat.le_of_ble_eq_true rfl, Nat.le_of_ble_eq_true rfl, (show _ ≤ 600000 from by omega), (show _ ≤ 7302250 from by omega)⟩ (fun r_556 N_557 V_547 q_558 => ?_)
      obtain ⟨⟨_, hs_549⟩, rfl, j_548⟩ := q_558
      have cw_553 := j_548.1
      have cr_554 := CR.fr hcr (fun i h1 h2 => j_548.2.1 i h1 (by omega))
      have wf_555 := WF.fr hwf (fun i h1 h2 => j_548.2.1 i (by omega) (by omega))
      refine aw_pop dL_law_926 rfl ?_
      refine aw_aload_n dL_law_927 rfl ?_
      refine aw_callVi (J' := jX12_undo) (As := []) (st := []) dL_law_928 tb_1609 ok_X12_undo ⟨_, (CR.o100 cr_554).choose_spec⟩ (by omega) rfl rfl (r_undoK l D b N V_547 (by omega) cl cr_554) rfl (Nat.le_of_ble_eq_true rfl) ⟨Nat.le_of_ble_eq_true rfl, Nat.le_of_ble_eq_true rfl, (show _ ≤ 600000 from by omega), (show _ ≤ 7302250 from by omega)⟩ (fun r_571 N_572 V_559 q_573 => ?_)
      obtain ⟨⟨_, hs_564⟩, rfl, jr_563⟩ := q_573
      have cr_561 := jr_563.1
      have cw_560 := CW.out cw_553 (fun i hi => jr_563.2.1 i (Or.inl hi) (by omega))
      have wf_562 := WF.fr wf_555 jr_563.2.2.1
      have e_567 : fI (V_547 100) 51 = fI (V 0) 4 := (congrArg (fun z => fI z 51) (j_548.2.1 100 (by decide) (by omega))).trans (hrl.1).symm
      have e_568 : fI (V_547 101) 208 = fI (V 3) 7 := (congrArg (fun z => fI z 208) (j_548.2.1 101 (by decide) (by omega))).trans (hrl.2.1).symm
      have e_569 : fI (V_547 103) 208 = fI (V 39) 7 := (congrArg (fun z => fI z 208) (j_548.2.1 103 (by decide) (by omega))).trans (hrl.2.2.1).symm
      rw [e_567, e_568, e_569] at hs_564
      have o_570 := UND.one hs_549 hs_564
      have rl_566 : RLs V_559 := ⟨(congrArg (fun z => fI z 4) (jr_563.2.1 0 (Or.inl (by decide)) (by omega))).trans ((JW.fI j_548 (by decide) (by decide) : fI (V_547 0) 4 = fI (V 0) 4).trans ((hrl.1).trans ((congrArg (fun z => fI z 51) (j_548.2.1 100 (by decide) (by omega))).symm.trans ((JR.fI jr_563 (by decide) (by decide) (by decide)) : fI (V_559 100) 51 = fI (V_547 100) 51).symm))), (congrArg (fun z => fI z 7) (jr_563.2.1 3 (Or.inl (by decide)) (by omega))).trans o_570.2, (congrArg (fun z => fI z 7) (jr_563.2.1 39 (Or.inl (by decide)) (by omega))).trans ((JW.fI j_548 (by decide) (by decide) : fI (V_547 39) 7 = fI (V 39) 7).trans ((hrl.2.2.1).trans ((congrArg (fun z => fI z 208) (j_548.2.1 103 (by decide) (by omega))).symm.trans ((JR.fI jr_563 (by decide) (by decide) (by decide)) : fI (V_559 103) 208 = fI (V_547 103) 208).symm))), (congrArg (fun z => fI z 1) (jr_563.2.1 1 (Or.inl (by decide)) (by omega))).trans ((JW.fI j_548 (by decide) (by decide) : fI (V_547 1) 1 = fI (V 1) 1).trans ((hrl.2.2.2).trans ((congrArg (fun z => fI z 13) (j_548.2.1 100 (by decide) (by omega))).symm.trans ((JR.fI jr_563 (by decide) (by decide) (by decide)) : fI (V_559 100) 13 = fI (V_547 100) 13).symm)))⟩
      refine aw_pop dL_law_931 rfl ?_
      refine aw_goto (tgt := 981) dL_law_932 (by decide) ?_
      refine aw_iinc (v := (nI (i + 6))) (ls' := [some (.ref b9), some (.ref (b + 0)), some (.ref (b + 100)), some (.int (nI (i + 6)))]) dL_law_981 rfl (nI_add i 6) (Nat.le_of_ble_eq_true rfl) rfl ?_
      refine aw_goto (tgt := 18) dL_law_984 (by decide) ?_
      refine mih (M + 6 - (i + 6)) (by omega) (i + 6) N cl V_559 _ _ rfl (by omega) ?_ ?_ (by omega) cw_560 cr_561 wf_562 rl_566 <;> omega
    · skip
      refine aw_tableIn (off := 902) (tgt := 935) dL_law_33 (by decide) (by decide) (by decide) (by decide) ?_
      refine aw_aload_n dL_law_935 rfl ?_
      refine aw_aload_n dL_law_936 rfl ?_
      refine aw_iload_n dL_law_937 rfl ?_
      refine aw_iconst (v := 1) dL_law_938 (by decide) ?_
      refine aw_iadd dL_law_939 ?_
      refine aw_eqi (y := nI (i + 1)) (nI_add _ _) ?_
      refine aw_sld dL_law_940 rfl (vp_in_nI (n := (i + 1)) (by omega) (by omega)) ?_
      refine aw_callVi (J' := jX11_check) (As := [.int (xs ((nI (i + 1))).toNatClampNeg)]) (st := []) dL_law_941 tb_1015 ok_X11_check ⟨_, (CW.o0 hcw).choose_spec⟩ (by omega) rfl rfl (g_X11_checkK l D b N V (by omega) hcw (xs ((nI (i + 1))).toNatClampNeg)) rfl (Nat.le_of_ble_eq_true rfl) ⟨Nat.le_of_ble_eq_true rfl, Nat.le_of_ble_eq_true rfl, (show _ ≤ 600000 from by omega), (show _ ≤ 7302250 from by omega)⟩ (fun r_583 N_584 V_574 q_585 => ?_)
      obtain ⟨hs_576, rfl, j_575⟩ := q_585
      have cw_580 := j_575.1
      have cr_581 := CR.fr hcr (fun i h1 h2 => j_575.2.1 i h1 (by omega))
      have wf_582 := WF.fr hwf (fun i h1 h2 => j_575.2.1 i (by omega) (by omega))
      refine aw_pop dL_law_944 rfl ?_
      refine aw_aload_n dL_law_945 rfl ?_
      refine aw_aload_n dL_law_946 rfl ?_
      refine aw_iload_n dL_law_947 rfl ?_
      refine aw_iconst (v := 1) dL_law_948 (by decide) ?_
      refine aw_iadd dL_law_949 ?_
      refine aw_eqi (y := nI (i + 1)) (nI_add _ _) ?_
      refine aw_sld dL_law_950 rfl (vp_in_nI (n := (i + 1)) (by omega) (by omega)) ?_
      refine aw_callVi (J' := jX12_check) (As := [.int (xs ((nI (i + 1))).toNatClampNeg)]) (st := []) dL_law_951 tb_1613 ok_X12_check ⟨_, (CR.o100 cr_581).choose_spec⟩ (by omega) rfl rfl (r_checkK l D b N V_574 (by omega) cl cr_581 (xs ((nI (i + 1))).toNatClampNeg) (xs ((nI (i + 1))).toNatClampNeg) rfl) rfl (Nat.le_of_ble_eq_true rfl) ⟨Nat.le_of_ble_eq_true rfl, Nat.le_of_ble_eq_true rfl, (show _ ≤ 600000 from by omega), (show _ ≤ 7302250 from by omega)⟩ (fun r_595 N_596 V_586 q_597 => ?_)
      obtain ⟨hs_591, rfl, jr_590⟩ := q_597
      have cr_588 := jr_590.1
      have cw_587 := CW.out cw_580 (fun i hi => jr_590.2.1 i (Or.inl hi) (by omega))
      have wf_589 := WF.fr wf_582 jr_590.2.2.1
      have e_594 : fI (V_574 100) 13 = fI (V 1) 1 := (congrArg (fun z => fI z 13) (j_575.2.1 100 (by decide) (by omega))).trans (hrl.2.2.2).symm
      rw [e_594] at hs_591
      have rl_593 : RLs V_586 := ⟨(congrArg (fun z => fI z 4) (jr_590.2.1 0 (Or.inl (by decide)) (by omega))).trans ((JW.fI j_575 (by decide) (by decide) : fI (V_574 0) 4 = fI (V 0) 4).trans ((hrl.1).trans ((congrArg (fun z => fI z 51) (j_575.2.1 100 (by decide) (by omega))).symm.trans ((JR.fI jr_590 (by decide) (by decide) (by decide)) : fI (V_586 100) 51 = fI (V_574 100) 51).symm))), (congrArg (fun z => fI z 7) (jr_590.2.1 3 (Or.inl (by decide)) (by omega))).trans ((JW.fI j_575 (by decide) (by decide) : fI (V_574 3) 7 = fI (V 3) 7).trans ((hrl.2.1).trans ((congrArg (fun z => fI z 208) (j_575.2.1 101 (by decide) (by omega))).symm.trans ((JR.fI jr_590 (by decide) (by decide) (by decide)) : fI (V_586 101) 208 = fI (V_574 101) 208).symm))), (congrArg (fun z => fI z 7) (jr_590.2.1 39 (Or.inl (by decide)) (by omega))).trans ((JW.fI j_575 (by decide) (by decide) : fI (V_574 39) 7 = fI (V 39) 7).trans ((hrl.2.2.1).trans ((congrArg (fun z => fI z 208) (j_575.2.1 103 (by decide) (by omega))).symm.trans ((JR.fI jr_590 (by decide) (by decide) (by decide)) : fI (V_586 103) 208 = fI (V_574 103) 208).symm))), (congrArg (fun z => fI z 1) (jr_590.2.1 1 (Or.inl (by decide)) (by omega))).trans (TKS.one hs_576 hs_591)⟩
      refine aw_pop dL_law_954 rfl ?_
      refine aw_goto (tgt := 981) dL_law_955 (by decide) ?_
      refine aw_iinc (v := (nI (i + 6))) (ls' := [some (.ref b9), some (.ref (b + 0)), some (.ref (b + 100)), some (.int (nI (i + 6)))]) dL_law_981 rfl (nI_add i 6) (Nat.le_of_ble_eq_true rfl) rfl ?_
      refine aw_goto (tgt := 18) dL_law_984 (by decide) ?_
      refine mih (M + 6 - (i + 6)) (by omega) (i + 6) N cl V_586 _ _ rfl (by omega) ?_ ?_ (by omega) cw_587 cr_588 wf_589 rl_593 <;> omega
    · skip
      refine aw_tableIn (off := 925) (tgt := 958) dL_law_33 (by decide) (by decide) (by decide) (by decide) ?_
      refine aw_aload_n dL_law_958 rfl ?_
      refine aw_aload_n dL_law_959 rfl ?_
      refine aw_iload_n dL_law_960 rfl ?_
      refine aw_iconst (v := 1) dL_law_961 (by decide) ?_
      refine aw_iadd dL_law_962 ?_
      refine aw_eqi (y := nI (i + 1)) (nI_add _ _) ?_
      refine aw_sld dL_law_963 rfl (vp_in_nI (n := (i + 1)) (by omega) (by omega)) ?_
      refine aw_callVi (J' := jX11_count) (As := [.int (xs ((nI (i + 1))).toNatClampNeg)]) (st := []) dL_law_964 tb_1019 ok_X11_count ⟨_, (CW.o0 hcw).choose_spec⟩ (by omega) rfl rfl (g_X11_count l D b N V (by omega) hcw (xs ((nI (i + 1))).toNatClampNeg)) rfl (Nat.le_of_ble_eq_true rfl) ⟨Nat.le_of_ble_eq_true rfl, Nat.le_of_ble_eq_true rfl, (show _ ≤ 600000 from by omega), (show _ ≤ 7302250 from by omega)⟩ (fun r_599 N_600 V_601 q_602 => ?_)
      obtain ⟨rfl, rfl⟩ := q_602
      refine aw_pop dL_law_967 rfl ?_
      refine aw_aload_n dL_law_968 rfl ?_
      refine aw_aload_n dL_law_969 rfl ?_
      refine aw_iload_n dL_law_970 rfl ?_
      refine aw_iconst (v := 1) dL_law_971 (by decide) ?_
      refine aw_iadd dL_law_972 ?_
      refine aw_eqi (y := nI (i + 1)) (nI_add _ _) ?_
      refine aw_sld dL_law_973 rfl (vp_in_nI (n := (i + 1)) (by omega) (by omega)) ?_
      refine aw_callVi (J' := jX12_count) (As := [.int (xs ((nI (i + 1))).toNatClampNeg)]) (st := []) dL_law_974 tb_1617 ok_X12_count ⟨_, (CR.o100 hcr).choose_spec⟩ (by omega) rfl rfl (r_count l D b N V (by omega) cl hcr (xs ((nI (i + 1))).toNatClampNeg)) rfl (Nat.le_of_ble_eq_true rfl) ⟨Nat.le_of_ble_eq_true rfl, Nat.le_of_ble_eq_true rfl, (show _ ≤ 600000 from by omega), (show _ ≤ 7302250 from by omega)⟩ (fun r_611 N_612 V_613 q_614 => ?_)
      obtain ⟨rfl, rfl⟩ := q_614
      refine aw_pop dL_law_977 rfl ?_
      refine aw_goto (tgt := 981) dL_law_978 (by decide) ?_
      refine aw_iinc (v := (nI (i + 6))) (ls' := [some (.ref b9), some (.ref (b + 0)), some (.ref (b + 100)), some (.int (nI (i + 6)))]) dL_law_981 rfl (nI_add i 6) (Nat.le_of_ble_eq_true rfl) rfl ?_
      refine aw_goto (tgt := 18) dL_law_984 (by decide) ?_
      refine mih (M + 6 - (i + 6)) (by omega) (i + 6) N cl V _ _ rfl (by omega) ?_ ?_ (by omega) hcw hcr hwf hrl <;> omega
    · skip
      refine aw_tableOut (tgt := 981) dL_law_33 (Or.inr (by decide)) (by decide) ?_
      refine aw_iinc (v := (nI (i + 6))) (ls' := [some (.ref b9), some (.ref (b + 0)), some (.ref (b + 100)), some (.int (nI (i + 6)))]) dL_law_981 rfl (nI_add i 6) (Nat.le_of_ble_eq_true rfl) rfl ?_
      refine aw_goto (tgt := 18) dL_law_984 (by decide) ?_
      refine mih (M + 6 - (i + 6)) (by omega) (i + 6) N cl V _ _ rfl (by omega) ?_ ?_ (by omega) hcw hcr hwf hrl <;> omega
    · skip
      refine aw_tableOut (tgt := 981) dL_law_33 (Or.inr (by decide)) (by decide) ?_
      refine aw_iinc (v := (nI (i + 6))) (ls' := [some (.ref b9), some (.ref (b + 0)), some (.ref (b + 100)), some (.int (nI (i + 6)))]) dL_law_981 rfl (nI_add i 6) (Nat.le_of_ble_eq_true rfl) rfl ?_
      refine aw_goto (tgt := 18) dL_law_984 (by decide) ?_
      refine mih (M + 6 - (i + 6)) (by omega) (i + 6) N cl V _ _ rfl (by omega) ?_ ?_ (by omega) hcw hcr hwf hrl <;> omega
    · skip
      refine aw_tableOut (tgt := 981) dL_law_33 (Or.inr (by decide)) (by decide) ?_
      refine aw_iinc (v := (nI (i + 6))) (ls' := [some (.ref b9), some (.ref (b + 0)), some (.ref (b + 100)), some (.int (nI (i + 6)))]) dL_law_981 rfl (nI_add i 6) (Nat.le_of_ble_eq_true rfl) rfl ?_
      refine aw_goto (tgt := 18) dL_law_984 (by decide) ?_
      refine mih (M + 6 - (i + 6)) (by omega) (i + 6) N cl V _ _ rfl (by omega) ?_ ?_ (by omega) hcw hcr hwf hrl <;> omega

set_option maxHeartbeats 4000000 in
set_option maxRecDepth 100000 in
theorem law_short (l : Launch) (D : va_G) (b b9 : Nat) (xs : Nat → Int32) (L : Nat) (hL : L < 6) (V : Wd) : AW l D b jL_law room_1 (some (b9, L, xs)) (lawQ b) 0 [some (.ref b9), none, none, none] [] 0 V 0 0 := by
  refine aw_new dL_law_0 nw_L_7 (Nat.le_of_ble_eq_true rfl) (Nat.le_of_ble_eq_true rfl) ?_
  refine aw_dup dL_law_3 rfl ?_
  refine aw_callIv (As := []) (st := [.ref (b + 0)]) dL_law_4 tb_23 ok_X11_init rfl (c_initFearLocks l D b (va_up V 0 (cO 10 [.null, .null, .null, .null, .int 0, .null, .null, .null, .null, .null, .null])) (va_up_self _ _ _)) rfl (Nat.le_of_ble_eq_true rfl) ⟨Nat.le_of_ble_eq_true rfl, Nat.le_of_ble_eq_true rfl, Nat.le_of_ble_eq_true rfl, Nat.le_of_ble_eq_true rfl⟩ (fun  N_3 V_2 q_4 => ?_)
  obtain ⟨rfl, hI_1⟩ := q_4
  refine aw_astore_n (ls' := [some (.ref b9), some (.ref (b + 0)), none, none]) dL_law_7 (Nat.le_of_ble_eq_true rfl) rfl ?_
  refine aw_new dL_law_8 nw_L_10 (Nat.le_of_ble_eq_true rfl) (Nat.le_of_ble_eq_true rfl) ?_
  refine aw_dup dL_law_11 rfl ?_
  refine aw_callIv (As := []) (st := [.ref (b + 100)]) dL_law_12 tb_1034 ok_X12_init rfl (k_init l D b (va_up V_2 100 (cO 11 [.null, .null, .null, .null, .null, .null, .null, .null, .null, .int 0, .int 0, .int 0, .null, .int 0, .int 0, .int 0, .int 0, .int 0, .int 0, .int 0, .int 0, .int 0, .int 0, .null, .null, .null, .null, .null, .null, .null, .null, .null, .null, .null, .null, .null, .int 0, .int 0, .int 0, .int 0, .null, .null, .null, .null, .null, .int 0, .int 0, .null, .null, .null, .null, .int 0])) (va_up_self _ _ _)) rfl (Nat.le_of_ble_eq_true rfl) ⟨Nat.le_of_ble_eq_true rfl, Nat.le_of_ble_eq_true rfl, Nat.le_of_ble_eq_true rfl, Nat.le_of_ble_eq_true rfl⟩ (fun  N_8 V_7 q_9 => ?_)
  obtain ⟨rfl, hM_5, fr_6⟩ := q_9
  refine aw_astore_n (ls' := [some (.ref b9), some (.ref (b + 0)), some (.ref (b + 100)), none]) dL_law_15 (Nat.le_of_ble_eq_true rfl) rfl ?_
  refine aw_iconst (v := 0) dL_law_16 (by decide) ?_
  refine aw_istore_n (ls' := [some (.ref b9), some (.ref (b + 0)), some (.ref (b + 100)), some (.int 0)]) dL_law_17 (Nat.le_of_ble_eq_true rfl) rfl ?_
  refine aw_iload_n dL_law_18 rfl ?_
  refine aw_aload_n dL_law_19 rfl ?_
  refine aw_slen dL_law_20 rfl ?_
  refine aw_eqi (y := (nI L)) rfl ?_
  refine aw_bipush (v := 6) dL_law_21 (by decide) ?_
  refine aw_isub dL_law_23 ?_
  refine aw_icmp_gt (tgt := 987) dL_law_24 (by decide) (fun c_10 => ?_) (fun c_10 => ?_)
  rotate_left
  · exact absurd (fx_L6 L hL) c_10
  refine aw_iconst (v := 1) dL_law_987 (by decide) ?_
  exact aw_lawret dL_law_988 (Nat.le_of_ble_eq_true rfl) (Nat.le_of_ble_eq_true rfl)

set_option maxHeartbeats 4000000 in
set_option maxRecDepth 100000 in
theorem law_six (l : Launch) (D : va_G) (b b9 : Nat) (xs : Nat → Int32) (M : Nat) (hM : M + 6 ≤ 3072) (V : Wd) : AW l D b jL_law room_1 (some (b9, (M + 6), xs)) (lawQ b) 0 [some (.ref b9), none, none, none] [] 0 V 0 0 := by
  refine aw_new dL_law_0 nw_L_7 (Nat.le_of_ble_eq_true rfl) (Nat.le_of_ble_eq_true rfl) ?_
  refine aw_dup dL_law_3 rfl ?_
  refine aw_callIv (As := []) (st := [.ref (b + 0)]) dL_law_4 tb_23 ok_X11_init rfl (c_initFearLocks l D b (va_up V 0 (cO 10 [.null, .null, .null, .null, .int 0, .null, .null, .null, .null, .null, .null])) (va_up_self _ _ _)) rfl (Nat.le_of_ble_eq_true rfl) ⟨Nat.le_of_ble_eq_true rfl, Nat.le_of_ble_eq_true rfl, Nat.le_of_ble_eq_true rfl, Nat.le_of_ble_eq_true rfl⟩ (fun  N_3 V_2 q_4 => ?_)
  obtain ⟨rfl, hI_1⟩ := q_4
  refine aw_astore_n (ls' := [some (.ref b9), some (.ref (b + 0)), none, none]) dL_law_7 (Nat.le_of_ble_eq_true rfl) rfl ?_
  refine aw_new dL_law_8 nw_L_10 (Nat.le_of_ble_eq_true rfl) (Nat.le_of_ble_eq_true rfl) ?_
  refine aw_dup dL_law_11 rfl ?_
  refine aw_callIv (As := []) (st := [.ref (b + 100)]) dL_law_12 tb_1034 ok_X12_init rfl (k_init l D b (va_up V_2 100 (cO 11 [.null, .null, .null, .null, .null, .null, .null, .null, .null, .int 0, .int 0, .int 0, .null, .int 0, .int 0, .int 0, .int 0, .int 0, .int 0, .int 0, .int 0, .int 0, .int 0, .null, .null, .null, .null, .null, .null, .null, .null, .null, .null, .null, .null, .null, .int 0, .int 0, .int 0, .int 0, .null, .null, .null, .null, .null, .int 0, .int 0, .null, .null, .null, .null, .int 0])) (va_up_self _ _ _)) rfl (Nat.le_of_ble_eq_true rfl) ⟨Nat.le_of_ble_eq_true rfl, Nat.le_of_ble_eq_true rfl, Nat.le_of_ble_eq_true rfl, Nat.le_of_ble_eq_true rfl⟩ (fun  N_8 V_7 q_9 => ?_)
  obtain ⟨rfl, hM_5, fr_6⟩ := q_9
  refine aw_astore_n (ls' := [some (.ref b9), some (.ref (b + 0)), some (.ref (b + 100)), none]) dL_law_15 (Nat.le_of_ble_eq_true rfl) rfl ?_
  refine aw_iconst (v := 0) dL_law_16 (by decide) ?_
  refine aw_istore_n (ls' := [some (.ref b9), some (.ref (b + 0)), some (.ref (b + 100)), some (.int 0)]) dL_law_17 (Nat.le_of_ble_eq_true rfl) rfl ?_
  have hfr := fun i (hi : i < 100) => (fr_6 i hi).trans (va_up_ne _ _ (by omega))
  have hcw := CW.out (I0.cw hI_1) hfr
  exact law_loop l D b b9 xs M hM _ 0 133 0 V_7 _ _ rfl (by omega) (Nat.le_of_ble_eq_true rfl) (Nat.le_of_ble_eq_true rfl) (by omega) hcw (M0.cr hM_5).1 (M0.cr hM_5).2 (RLs.init hI_1 hM_5 hfr)
