/-! THE CLAIM OUT OF ONE WALK OF THE LAW'S BODY. Your part is whole_start (and what it stands on); all else here is the same for every law, but numbers. -/
def R_law : String := "FearLocksLaw"
def lw_P (b : Addr) (xs : List Int32) (args : Array Value) (s : State) : Prop := args = #[.ref b] ∧ s.IntsAt b xs ∧ xs.length ≤ 3072 ∧ (Jvm.Cond.and given_1 narrow_1).before args s = true
def lw_Q (_ : Array Value) (s : State) (o : Outcome) (t : State) : Prop := o = .returned (some (.int 1)) ∧ Framed s o t [] 600000 7302250
def lw_Z (below : List Frame) (a : Array Value) (s : State) : State → Prop := fun t => ∃ o, t.status = .running ∧ Ended t below o ∧ lw_Q a s o t
/-- the law's own end, with 1 on the stack, nothing written that was there before, its room as the claim has it -/
theorem lw_ret {p : Program} {l : Launch} {e : Env} {s : State} {m : MethodId} {below : List Frame} {meth : Method} {c : Code} {args : Array Value} (hx : p.tables.exec = Jvm.exec) (hb : c.code = code) (hr : meth.sig.returnType = ret) (hlocks : meth.locks = false) {pc : Nat} {H : Heap} {ls : Array Slot} (hdg : decode code pc = .ok (.ireturn, 1)) : W p l e room_1 s m args below meth c H [] 600000 7302250 (lw_Z below args s) (F0 m pc ls [.int 1]) := by
  intro T hT X
  obtain ⟨fs, hret, hrun, hended, hW, hframe⟩ := X.leave (v := some (.int 1)) (hlocks := hlocks) (fun h => by rw [hr] at h; cases h)
  have hmeth' : T.vm.method? m = some meth := X.method'
  refine ⟨T.setFrames fs, ?_, .returned (some (.int 1)), hrun, hended, rfl, ⟨_, rfl⟩, hW, hframe⟩
  jvm_step X.here [X.here.top, hx, hb, hdg, hmeth', hr, ret, narrow_b1]
  (try refine ⟨rfl, ?_⟩); (try refine ⟨rfl, ?_⟩)
  first | (intro acts; rw [hret _ acts rfl rfl rfl]) | rw [hret _ _ rfl rfl rfl]
  exact Steps.refl _

def jL_law : Md := (yL_law, cL_law, 4, some .boolean)
def lawQ (b : Nat) : Array Value → List Frame → State → State → Prop := fun args below s t => s.heap.size ≤ b → lw_Z below args s t
theorem aw_lawret {l : Launch} {D : va_G} {b : Nat} {X : Sc} {pc : Nat} {ls : List (Option Value)} {N : Nat} {V : Wd} {k n : Nat} (hd : decode code pc = .ok (.ireturn, 1)) (hk : k ≤ 600000) (hn : n ≤ 7302250) : AW l D b jL_law room_1 X (lawQ b) pc ls [.int 1] N V k n := by
  intro p e s m args below meth c H locs arr hC hL hA hS T hT X9
  by_cases hsz : s.heap.size ≤ b
  · obtain ⟨t, a1, q⟩ := va_forget (fun q hq => Nat.le_trans hsz (hS.2.2 q hq)) (W.widen hk hn (lw_ret (args := args) hC.1 hC.2.1 hC.2.2.1 hC.2.2.2.2.2.2.1 (H := H) (ls := arr) hd)) T hT X9
    exact ⟨t, a1, fun _ => q⟩
  · exact ⟨_, Steps.refl _, fun h => absurd h hsz⟩

theorem fx_and31 (x : Int32) : ∃ j : Nat, j < 32 ∧ x &&& 31 = nI j := by
  have e : x = nI x.toBitVec.toNat := by
    apply Int32.toBitVec_inj.mp
    simp [nI]
  refine ⟨x.toBitVec.toNat &&& 31, Nat.lt_of_le_of_lt Nat.and_le_right (by decide), ?_⟩
  rw [← fx_andI, ← e]; rfl
theorem fx_lcmp (x : Int64) : lg_cmp x x = 0 := by
  unfold lg_cmp; simp

theorem fx_L6 : ∀ L : Nat, L < 6 → nI L - 6 < 0 := by decide
theorem fx_law6 {M : Nat} : nI (M + 6) - 6 = nI M := by
  rw [← nI_add]; show nI M + 6 - 6 = nI M
  exact Int32.add_sub_cancel _ _
theorem aw_pop2 {l : Launch} {D : va_G} {b : Nat} {J : Md} {R : Room} {X : Sc} {FQ : Array Value → List Frame → State → State → Prop} {pc : Nat} {ls : List (Option Value)} {st : List Value} {N : Nat} {V : Wd} {k n : Nat} {va : Value} (hd : decode J.2.1 pc = .ok (.pop2, 1)) (hv : va.category = 2) (h : AW l D b J R X FQ (pc + 1) ls (st) N V k n) : AW l D b J R X FQ pc ls (va :: st) N V k n := fun p e s m args below meth c H locs arr hC hL hA hS => lv_pop2_2 hC.1 hC.2.1 hd hv (h p e s m args below meth c H locs arr hC hL hA hS)
theorem CW.o0 {D : va_G} {b : Nat} {V : Wd} (h : CW D b V) : ∃ fs, V 0 = cO 10 fs := by
  obtain ⟨_, _, _, e, _⟩ := h 0 _ rfl; exact ⟨_, e⟩
theorem CR.o100 {D : va_G} {b cl : Nat} {V : Wd} (h : CR D b cl V) : ∃ fs, V 100 = cO 11 fs := by
  obtain ⟨_, _, _, _, _, _, _, _, _, _, _, _, _, _, _, _, _, _, _, e, _⟩ := h 0 _ rfl; exact ⟨_, e⟩
theorem CR.fr {D : va_G} {b cl : Nat} {V V' : Wd} (h : CR D b cl V) (f : ∀ i, 100 ≤ i → i < 133 → V' i = V i) : CR D b cl V' := by
  intro i P hi
  have := (List.getElem?_eq_some_iff.mp hi).1
  rw [ctR_len] at this
  rw [f (100 + i) (by omega) (by omega)]; exact h i P hi

theorem nw_L_10 : fx_nw RL 10 11 [.null, .null, .null, .null, .null, .null, .null, .null, .null, .int 0, .int 0, .int 0, .null, .int 0, .int 0, .int 0, .int 0, .int 0, .int 0, .int 0, .int 0, .int 0, .int 0, .null, .null, .null, .null, .null, .null, .null, .null, .null, .null, .null, .null, .null, .int 0, .int 0, .int 0, .int 0, .null, .null, .null, .null, .null, .int 0, .int 0, .null, .null, .null, .null, .int 0] := ⟨RX12, TX12, 52, tyX12, rfl, uw_X12, tyX12_ok, tb_1032, tb_1033, tb_10, by decide +kernel, rfl⟩

theorem nw_L_7 : fx_nw RL 7 10 [.null, .null, .null, .null, .int 0, .null, .null, .null, .null, .null, .null] := ⟨RX11, TX11, 11, tyX11, rfl, uw_X11, tyX11_ok, tb_21, tb_22, tb_1, by decide +kernel, rfl⟩

set_option maxHeartbeats 20000000 in
set_option maxRecDepth 100000 in
theorem law_loop (l : Launch) (D : va_G) (b b9 : Nat) (xs : Nat → Int32) (M : Nat) (hM : M + 6 ≤ 3072) : ∀ (m i N cl : Nat) (V : Wd) (k n : Nat), m = M + 6 - i → i ≤ M + 6 → k ≤ 200 + i → n ≤ 70000 + 3 * i → 133 ≤ N → CW D b V → CR D b cl V → WF D cl V → RLs V → AW l D b jL_law room_1 (some (b9, (M + 6), xs)) (lawQ b) 18 [some (.ref b9), some (.ref (b + 0)), some (.ref (b + 100)), some (.int (nI i))] [] N V k n := by
  intro m; refine Nat.strongRecOn m ?_
  intro m mih i N cl V k n hm hi hk hn hN hcw hcr hwf hrl
  refine aw_iload_n dL_law_18 rfl ?_
  refine aw_aload_n dL_law_19 rfl ?_
  refine aw_slen dL_law_20 rfl ?_
  refine aw_eqi (y := (nI (M + 6))) rfl ?_
  refine aw_bipush (v := 6) dL_law_21 (by decide) ?_
  refine aw_isub dL_law_23 ?_
  refine aw_eqi (y := (nI M)) fx_law6 ?_
  refine aw_icmp_gt (tgt := 987) dL_law_24 (by decide) (fun c_1 => ?_) (fun c_1 => ?_)
  · skip
    have nc_1 : M < i := (nI_ltI (a := M) (b := i) (by omega) (by omega)).mp c_1
    refine aw_iconst (v := 1) dL_law_987 (by decide) ?_
    exact aw_lawret dL_law_988 (by omega) (by omega)
  · skip
    have nc_1 : ¬ (M < i) := fun z => c_1 ((nI_ltI (a := M) (b := i) (by omega) (by omega)).mpr z)
    refine aw_aload_n dL_law_27 rfl ?_
    refine aw_iload_n dL_law_28 rfl ?_
    refine aw_sld dL_law_29 rfl (vp_in_nI (n := i) (by omega) (by omega)) ?_
    refine aw_bipush (v := 31) dL_law_30 (by decide) ?_
    refine aw_iand dL_law_32 ?_
    obtain ⟨j, hj, ej⟩ := fx_and31 (xs ((nI i)).toNatClampNeg)
    refine aw_eqi ej ?_
    have hj32 : j = 0 ∨ j = 1 ∨ j = 2 ∨ j = 3 ∨ j = 4 ∨ j = 5 ∨ j = 6 ∨ j = 7 ∨ j = 8 ∨ j = 9 ∨ j = 10 ∨ j = 11 ∨ j = 12 ∨ j = 13 ∨ j = 14 ∨ j = 15 ∨ j = 16 ∨ j = 17 ∨ j = 18 ∨ j = 19 ∨ j = 20 ∨ j = 21 ∨ j = 22 ∨ j = 23 ∨ j = 24 ∨ j = 25 ∨ j = 26 ∨ j = 27 ∨ j = 28 ∨ j = 29 ∨ j = 30 ∨ j = 31 := by omega
    rcases hj32 with rfl | rfl | rfl | rfl | rfl | rfl | rfl | rfl | rfl | rfl | rfl | rfl | rfl | rfl | rfl | rfl | rfl | rfl | rfl | rfl | rfl | rfl | rfl | rfl | rfl | rfl | rfl | rfl | rfl | rfl | rfl | rfl
    · skip
      refine aw_tableIn (off := 131) (tgt := 164) dL_law_33 (by decide) (by decide) (by decide) (by decide) ?_
      refine aw_aload_n dL_law_164 rfl ?_
      refine aw_aload_n dL_law_165 rfl ?_
      refine aw_iload_n dL_law_166 rfl ?_
      refine aw_iconst (v := 1) dL_law_167 (by decide) ?_
      refine aw_iadd dL_law_168 ?_
      refine aw_eqi (y := nI (i + 1)) (nI_add _ _) ?_
      refine aw_sld dL_law_169 rfl (vp_in_nI (n := (i + 1)) (by omega) (by omega)) ?_
      refine aw_aload_n dL_law_170 rfl ?_
      refine aw_iload_n dL_law_171 rfl ?_
      refine aw_iconst (v := 2) dL_law_172 (by decide) ?_
      refine aw_iadd dL_law_173 ?_
      refine aw_eqi (y := nI (i + 2)) (nI_add _ _) ?_
      refine aw_sld dL_law_174 rfl (vp_in_nI (n := (i + 2)) (by omega) (by omega)) ?_
      refine aw_aload_n dL_law_175 rfl ?_
      refine aw_iload_n dL_law_176 rfl ?_
      refine aw_iconst (v := 3) dL_law_177 (by decide) ?_
      refine aw_iadd dL_law_178 ?_
      refine aw_eqi (y := nI (i + 3)) (nI_add _ _) ?_
      refine aw_sld dL_law_179 rfl (vp_in_nI (n := (i + 3)) (by omega) (by omega)) ?_
      refine aw_aload_n dL_law_180 rfl ?_
      refine aw_iload_n dL_law_181 rfl ?_
      refine aw_iconst (v := 4) dL_law_182 (by decide) ?_
      refine aw_iadd dL_law_183 ?_
      refine aw_eqi (y := nI (i + 4)) (nI_add _ _) ?_
      refine aw_sld dL_law_184 rfl (vp_in_nI (n := (i + 4)) (by omega) (by omega)) ?_
      refine aw_aload_n dL_law_185 rfl ?_
      refine aw_iload_n dL_law_186 rfl ?_
      refine aw_iconst (v := 5) dL_law_187 (by decide) ?_
      refine aw_iadd dL_law_188 ?_
      refine aw_eqi (y := nI (i + 5)) (nI_add _ _) ?_
      refine aw_sld dL_law_189 rfl (vp_in_nI (n := (i + 5)) (by omega) (by omega)) ?_
      refine aw_callVi (J' := jX11_feed) (As := [.int (xs ((nI (i + 1))).toNatClampNeg), .int (xs ((nI (i + 2))).toNatClampNeg), .int (xs ((nI (i + 3))).toNatClampNeg), .int (xs ((nI (i + 4))).toNatClampNeg), .int (xs ((nI (i + 5))).toNatClampNeg)]) (st := []) dL_law_190 tb_255 ok_X11_feed ⟨_, (CW.o0 hcw).choose_spec⟩ (by omega) rfl rfl (g_X11_feedS l D b N V (by omega) hcw (xs ((nI (i + 1))).toNatClampNeg) (xs ((nI (i + 2))).toNatClampNeg) (xs ((nI (i + 3))).toNatClampNeg) (xs ((nI (i + 4))).toNatClampNeg) (xs ((nI (i + 5))).toNatClampNeg) (RLs.tape hrl hcr)) rfl (Nat.le_of_ble_eq_true rfl) ⟨Nat.le_of_ble_eq_true rfl, Nat.le_of_ble_eq_true rfl, (show _ ≤ 600000 from by omega), (show _ ≤ 7302250 from by omega)⟩ (fun r_13 N_14 V_2 q_15 => ?_)
      obtain ⟨⟨hs_4, hb_9⟩, rfl, j_3⟩ := q_15
      have cw_10 := j_3.1
      have cr_11 := CR.fr hcr (fun i h1 h2 => j_3.2.1 i h1 (by omega))
      have wf_12 := WF.fr hwf (fun i h1 h2 => j_3.2.1 i (by omega) (by omega))
      refine aw_pop dL_law_193 rfl ?_
      refine aw_aload_n dL_law_194 rfl ?_
      refine aw_aload_n dL_law_195 rfl ?_
      refine aw_iload_n dL_law_196 rfl ?_
      refine aw_iconst (v := 1) dL_law_197 (by decide) ?_
      refine aw_iadd dL_law_198 ?_
      refine aw_eqi (y := nI (i + 1)) (nI_add _ _) ?_
      refine aw_sld dL_law_199 rfl (vp_in_nI (n := (i + 1)) (by omega) (by omega)) ?_
      refine aw_aload_n dL_law_200 rfl ?_
      refine aw_iload_n dL_law_201 rfl ?_
      refine aw_iconst (v := 2) dL_law_202 (by decide) ?_
      refine aw_iadd dL_law_203 ?_
      refine aw_eqi (y := nI (i + 2)) (nI_add _ _) ?_
      refine aw_sld dL_law_204 rfl (vp_in_nI (n := (i + 2)) (by omega) (by omega)) ?_
      refine aw_aload_n dL_law_205 rfl ?_
      refine aw_iload_n dL_law_206 rfl ?_
      refine aw_iconst (v := 3) dL_law_207 (by decide) ?_
      refine aw_iadd dL_law_208 ?_
      refine aw_eqi (y := nI (i + 3)) (nI_add _ _) ?_
      refine aw_sld dL_law_209 rfl (vp_in_nI (n := (i + 3)) (by omega) (by omega)) ?_
      refine aw_aload_n dL_law_210 rfl ?_
      refine aw_iload_n dL_law_211 rfl ?_
      refine aw_iconst (v := 4) dL_law_212 (by decide) ?_
      refine aw_iadd dL_law_213 ?_
      refine aw_eqi (y := nI (i + 4)) (nI_add _ _) ?_
      refine aw_sld dL_law_214 rfl (vp_in_nI (n := (i + 4)) (by omega) (by omega)) ?_
      refine aw_aload_n dL_law_215 rfl ?_
      refine aw_iload_n dL_law_216 rfl ?_
      refine aw_iconst (v := 5) dL_law_217 (by decide) ?_
      refine aw_iadd dL_law_218 ?_
      refine aw_eqi (y := nI (i + 5)) (nI_add _ _) ?_
      refine aw_sld dL_law_219 rfl (vp_in_nI (n := (i + 5)) (by omega) (by omega)) ?_
      refine aw_callVi (J' := jX12_feed) (As := [.int (xs ((nI (i + 1))).toNatClampNeg), .int (xs ((nI (i + 2))).toNatClampNeg), .int (xs ((nI (i + 3))).toNatClampNeg), .int (xs ((nI (i + 4))).toNatClampNeg), .int (xs ((nI (i + 5))).toNatClampNeg)]) (st := []) dL_law_220 tb_1197 ok_X12_feed ⟨_, (CR.o100 cr_11).choose_spec⟩ (by omega) rfl rfl (r_feedS l D b N V_2 (by omega) cl cr_11 (xs ((nI (i + 1))).toNatClampNeg) (xs ((nI (i + 2))).toNatClampNeg) (xs ((nI (i + 3))).toNatClampNeg) (xs ((nI (i + 4))).toNatClampNeg) (xs ((nI (i + 5))).toNatClampNeg)) rfl (Nat.le_of_ble_eq_true rfl) ⟨Nat.le_of_ble_eq_true rfl, Nat.le_of_ble_eq_true rfl, (show _ ≤ 600000 from by omega), (show _ ≤ 7302250 from by omega)⟩ (fun r_29 N_30 V_16 q_31 => ?_)
      obtain ⟨⟨hs_21, hb_25⟩, rfl, jr_20⟩ := q_31
      have cr_18 := jr_20.1
      have cw_17 := CW.out cw_10 (fun i hi => jr_20.2.1 i (Or.inl hi) (by omega))
      have wf_19 := WF.fr wf_12 jr_20.2.2.1
      have e_26 : fI (V_2 100) 13 = fI (V 1) 1 := (congrArg (fun z => fI z 13) (j_3.2.1 100 (by decide) (by omega))).trans (hrl.2.2.2.1).symm
      rw [e_26] at hs_21
      have o_27 := FDS.one hs_4 hs_21
      have e_28 : gb (fI (V_2 110)) = fI (V 2) := (congrArg (fun z => gb (fI z)) (j_3.2.1 110 (by decide) (by omega))).trans (hrl.2.2.2.2).symm
      rw [e_26, e_28] at hb_25
      have rl_23 : RLs V_16 := ⟨(congrArg (fun z => fI z 4) (jr_20.2.1 0 (Or.inl (by decide)) (by omega))).trans ((JW.fI j_3 (by decide) (by decide) : fI (V_2 0) 4 = fI (V 0) 4).trans ((hrl.1).trans ((congrArg (fun z => fI z 51) (j_3.2.1 100 (by decide) (by omega))).symm.trans ((JR.fI jr_20 (by decide) (by decide) (by decide)) : fI (V_16 100) 51 = fI (V_2 100) 51).symm))), (congrArg (fun z => fI z 7) (jr_20.2.1 3 (Or.inl (by decide)) (by omega))).trans ((JW.fI j_3 (by decide) (by decide) : fI (V_2 3) 7 = fI (V 3) 7).trans ((hrl.2.1).trans ((congrArg (fun z => fI z 208) (j_3.2.1 101 (by decide) (by omega))).symm.trans ((JR.fI jr_20 (by decide) (by decide) (by decide)) : fI (V_16 101) 208 = fI (V_2 101) 208).symm))), (congrArg (fun z => fI z 7) (jr_20.2.1 39 (Or.inl (by decide)) (by omega))).trans ((JW.fI j_3 (by decide) (by decide) : fI (V_2 39) 7 = fI (V 39) 7).trans ((hrl.2.2.1).trans ((congrArg (fun z => fI z 208) (j_3.2.1 103 (by decide) (by omega))).symm.trans ((JR.fI jr_20 (by decide) (by decide) (by decide)) : fI (V_16 103) 208 = fI (V_2 103) 208).symm))), (congrArg (fun z => fI z 1) (jr_20.2.1 1 (Or.inl (by decide)) (by omega))).trans o_27.2, (congrArg fI (jr_20.2.1 2 (Or.inl (by decide)) (by omega))).trans (FDB.one hb_9 hb_25)⟩
      refine aw_pop dL_law_223 rfl ?_
      refine aw_goto (tgt := 981) dL_law_224 (by decide) ?_
      refine aw_iinc (v := (nI (i + 6))) (ls' := [some (.ref b9), some (.ref (b + 0)), some (.ref (b + 100)), some (.int (nI (i + 6)))]) dL_law_981 rfl (nI_add i 6) (Nat.le_of_ble_eq_true rfl) rfl ?_
      refine aw_goto (tgt := 18) dL_law_984 (by decide) ?_
      refine mih (M + 6 - (i + 6)) (by omega) (i + 6) N cl V_16 _ _ rfl (by omega) ?_ ?_ (by omega) cw_17 cr_18 wf_19 rl_23 <;> omega
    · skip
      refine aw_tableIn (off := 194) (tgt := 227) dL_law_33 (by decide) (by decide) (by decide) (by decide) ?_
      refine aw_aload_n dL_law_227 rfl ?_
      refine aw_aload_n dL_law_228 rfl ?_
      refine aw_iload_n dL_law_229 rfl ?_
      refine aw_iconst (v := 1) dL_law_230 (by decide) ?_
      refine aw_iadd dL_law_231 ?_
      refine aw_eqi (y := nI (i + 1)) (nI_add _ _) ?_
      refine aw_sld dL_law_232 rfl (vp_in_nI (n := (i + 1)) (by omega) (by omega)) ?_
      refine aw_callVi (J' := jX11_law) (As := [.int (xs ((nI (i + 1))).toNatClampNeg)]) (st := []) dL_law_233 tb_263 ok_X11_law ⟨_, (CW.o0 hcw).choose_spec⟩ (by omega) rfl rfl (g_X11_lawK l D b N V (by omega) hcw (xs ((nI (i + 1))).toNatClampNeg)) rfl (Nat.le_of_ble_eq_true rfl) ⟨Nat.le_of_ble_eq_true rfl, Nat.le_of_ble_eq_true rfl, (show _ ≤ 600000 from by omega), (show _ ≤ 7302250 from by omega)⟩ (fun r_43 N_44 V_32 q_45 => ?_)
      obtain ⟨hm_36, hm_37, hs_34, j_33⟩ := q_45
      have cw_40 := j_33.1
      have cr_41 := CR.fr hcr (fun i h1 h2 => j_33.2.1 i h1 (by omega))
      have wf_42 := WF.fr hwf (fun i h1 h2 => j_33.2.1 i (by omega) (by omega))
      refine aw_pop dL_law_236 rfl ?_
      refine aw_aload_n dL_law_237 rfl ?_
      refine aw_aload_n dL_law_238 rfl ?_
      refine aw_iload_n dL_law_239 rfl ?_
      refine aw_iconst (v := 1) dL_law_240 (by decide) ?_
      refine aw_iadd dL_law_241 ?_
      refine aw_eqi (y := nI (i + 1)) (nI_add _ _) ?_
      refine aw_sld dL_law_242 rfl (vp_in_nI (n := (i + 1)) (by omega) (by omega)) ?_
      refine aw_callVi (J' := jX12_law) (As := [.int (xs ((nI (i + 1))).toNatClampNeg)]) (st := []) dL_law_243 tb_1205 ok_X12_law ⟨_, (CR.o100 cr_41).choose_spec⟩ (by omega) rfl rfl (r_lawK l D b N_44 V_32 (by omega) cl cr_41 (xs ((nI (i + 1))).toNatClampNeg) wf_42 (xs ((nI (i + 1))).toNatClampNeg) rfl) rfl (Nat.le_of_ble_eq_true rfl) ⟨Nat.le_of_ble_eq_true rfl, Nat.le_of_ble_eq_true rfl, (show _ ≤ 600000 from by omega), (show _ ≤ 7302250 from by omega)⟩ (fun r_59 N_60 V_46 q_61 => ?_)
      obtain ⟨rfl, cl_56, cr_48, fr_57, wf_49, jr_50, hs_51⟩ := q_61
      have cw_47 := CW.out cw_40 (fun i hi => fr_57 i (Or.inl hi) (by omega))
      have e_58 : fI (V_32 100) 13 = fI (V 1) 1 := (congrArg (fun z => fI z 13) (j_33.2.1 100 (by decide) (by omega))).trans (hrl.2.2.2.1).symm
      rw [e_58] at hs_51
      have rl_53 : RLs V_46 := ⟨(congrArg (fun z => fI z 4) (fr_57 0 (Or.inl (by decide)) (by omega))).trans ((JW.fI j_33 (by decide) (by decide) : fI (V_32 0) 4 = fI (V 0) 4).trans ((hrl.1).trans ((congrArg (fun z => fI z 51) (j_33.2.1 100 (by decide) (by omega))).symm.trans ((fI_pj (jr_50 100 51 (by decide) (by decide) (by decide))) : fI (V_46 100) 51 = fI (V_32 100) 51).symm))), (congrArg (fun z => fI z 7) (fr_57 3 (Or.inl (by decide)) (by omega))).trans ((JW.fI j_33 (by decide) (by decide) : fI (V_32 3) 7 = fI (V 3) 7).trans ((hrl.2.1).trans ((congrArg (fun z => fI z 208) (j_33.2.1 101 (by decide) (by omega))).symm.trans ((fI_pj (jr_50 101 208 (by decide) (by decide) (by decide))) : fI (V_46 101) 208 = fI (V_32 101) 208).symm))), (congrArg (fun z => fI z 7) (fr_57 39 (Or.inl (by decide)) (by omega))).trans ((JW.fI j_33 (by decide) (by decide) : fI (V_32 39) 7 = fI (V 39) 7).trans ((hrl.2.2.1).trans ((congrArg (fun z => fI z 208) (j_33.2.1 103 (by decide) (by omega))).symm.trans ((fI_pj (jr_50 103 208 (by decide) (by decide) (by decide))) : fI (V_46 103) 208 = fI (V_32 103) 208).symm))), (congrArg (fun z => fI z 1) (fr_57 1 (Or.inl (by decide)) (by omega))).trans (TKS.one hs_34 hs_51), (congrArg fI (fr_57 2 (Or.inl (by decide)) (by omega))).trans ((congrArg fI (JW.same j_33 (by decide) (fun k => (nfc (by omega) (nfc (by omega) (nfc (by omega) (nfc (by omega) (nfc (by omega) (nfc (by omega) (nfc (by omega) nf0)))))))))).trans ((hrl.2.2.2.2).trans ((congrArg (fun z => gb (fI z)) (j_33.2.1 110 (by decide) (by omega))).symm.trans (congrArg (fun z => gb (fI z)) (pj_ext (fun k => jr_50 110 k (by decide) (by decide) (nfc (by omega) (nfc (by omega) (nfc (by omega) (nfc (by omega) (nfc (by omega) (nfc (by omega) (nfc (by omega) (nfc (by omega) (nfc (by omega) (nfc (by omega) (nfc (by omega) nf0)))))))))))))).symm)))⟩
      refine aw_pop dL_law_246 rfl ?_
      refine aw_goto (tgt := 981) dL_law_247 (by decide) ?_
      refine aw_iinc (v := (nI (i + 6))) (ls' := [some (.ref b9), some (.ref (b + 0)), some (.ref (b + 100)), some (.int (nI (i + 6)))]) dL_law_981 rfl (nI_add i 6) (Nat.le_of_ble_eq_true rfl) rfl ?_
      refine aw_goto (tgt := 18) dL_law_984 (by decide) ?_
      refine mih (M + 6 - (i + 6)) (by omega) (i + 6) N_44 cl_56 V_46 _ _ rfl (by omega) ?_ ?_ (by omega) cw_47 cr_48 wf_49 rl_53 <;> omega
    · skip
      refine aw_tableIn (off := 217) (tgt := 250) dL_law_33 (by decide) (by decide) (by decide) (by decide) ?_
      refine aw_aload_n dL_law_250 rfl ?_
      refine aw_aload_n dL_law_251 rfl ?_
      refine aw_iload_n dL_law_252 rfl ?_
      refine aw_iconst (v := 1) dL_law_253 (by decide) ?_
      refine aw_iadd dL_law_254 ?_
      refine aw_eqi (y := nI (i + 1)) (nI_add _ _) ?_
      refine aw_sld dL_law_255 rfl (vp_in_nI (n := (i + 1)) (by omega) (by omega)) ?_
      refine aw_aload_n dL_law_256 rfl ?_
      refine aw_iload_n dL_law_257 rfl ?_
      refine aw_iconst (v := 2) dL_law_258 (by decide) ?_
      refine aw_iadd dL_law_259 ?_
      refine aw_eqi (y := nI (i + 2)) (nI_add _ _) ?_
      refine aw_sld dL_law_260 rfl (vp_in_nI (n := (i + 2)) (by omega) (by omega)) ?_
      refine aw_callVi (J' := jX11_dreads) (As := [.int (xs ((nI (i + 1))).toNatClampNeg), .int (xs ((nI (i + 2))).toNatClampNeg)]) (st := []) dL_law_261 tb_577 ok_X11_dreads ⟨_, (CW.o0 hcw).choose_spec⟩ (by omega) rfl rfl (g_X11_dreadsS l D b N V (by omega) hcw (xs ((nI (i + 1))).toNatClampNeg) (xs ((nI (i + 2))).toNatClampNeg)) rfl (Nat.le_of_ble_eq_true rfl) ⟨Nat.le_of_ble_eq_true rfl, Nat.le_of_ble_eq_true rfl, (show _ ≤ 600000 from by omega), (show _ ≤ 7302250 from by omega)⟩ (fun r_73 N_74 V_62 q_75 => ?_)
      obtain ⟨hm_66, hm_67, ha_68, hs_64, hn_65, j_63⟩ := q_75
      have cw_70 := j_63.1
      have cr_71 := CR.fr hcr (fun i h1 h2 => j_63.2.1 i h1 (by omega))
      have wf_72 := WF.fr hwf (fun i h1 h2 => j_63.2.1 i (by omega) (by omega))
      refine aw_aload_n dL_law_264 rfl ?_
      refine aw_aload_n dL_law_265 rfl ?_
      refine aw_iload_n dL_law_266 rfl ?_
      refine aw_iconst (v := 1) dL_law_267 (by decide) ?_
      refine aw_iadd dL_law_268 ?_
      refine aw_eqi (y := nI (i + 1)) (nI_add _ _) ?_
      refine aw_sld dL_law_269 rfl (vp_in_nI (n := (i + 1)) (by omega) (by omega)) ?_
      refine aw_aload_n dL_law_270 rfl ?_
      refine aw_iload_n dL_law_271 rfl ?_
      refine aw_iconst (v := 2) dL_law_272 (by decide) ?_
      refine aw_iadd dL_law_273 ?_
      refine aw_eqi (y := nI (i + 2)) (nI_add _ _) ?_
      refine aw_sld dL_law_274 rfl (vp_in_nI (n := (i + 2)) (by omega) (by omega)) ?_
      refine aw_callVi (J' := jX12_dreads) (As := [.int (xs ((nI (i + 1))).toNatClampNeg), .int (xs ((nI (i + 2))).toNatClampNeg)]) (st := [.int r_73]) dL_law_275 tb_1295 ok_X12_dreads ⟨_, (CR.o100 cr_71).choose_spec⟩ (by omega) rfl rfl (r_dreadsS l D b N_74 V_62 (by omega) cl cr_71 (xs ((nI (i + 1))).toNatClampNeg) (xs ((nI (i + 2))).toNatClampNeg) (xs ((nI (i + 1))).toNatClampNeg) (xs ((nI (i + 2))).toNatClampNeg) ⟨rfl, rfl⟩) rfl (Nat.le_of_ble_eq_true rfl) ⟨Nat.le_of_ble_eq_true rfl, Nat.le_of_ble_eq_true rfl, (show _ ≤ 600000 from by omega), (show _ ≤ 7302250 from by omega)⟩ (fun r_88 N_89 V_76 q_90 => ?_)
      obtain ⟨⟨ha_84, hs_81, hn_82⟩, rfl, jr_80⟩ := q_90
      have cr_78 := jr_80.1
      have cw_77 := CW.out cw_70 (fun i hi => jr_80.2.1 i (Or.inl hi) (by omega))
      have wf_79 := WF.fr wf_72 jr_80.2.2.1
      have e_86 : fI (V_62 100) 13 = fI (V 1) 1 := (congrArg (fun z => fI z 13) (j_63.2.1 100 (by decide) (by omega))).trans (hrl.2.2.2.1).symm
      rw [e_86] at hs_81
      have e_87 : gb (fI (V_62 110)) = fI (V 2) := (congrArg (fun z => gb (fI z)) (j_63.2.1 110 (by decide) (by omega))).trans (hrl.2.2.2.2).symm
      rw [e_86, e_87] at ha_84
      have rl_83 : RLs V_76 := ⟨(congrArg (fun z => fI z 4) (jr_80.2.1 0 (Or.inl (by decide)) (by omega))).trans ((JW.fI j_63 (by decide) (by decide) : fI (V_62 0) 4 = fI (V 0) 4).trans ((hrl.1).trans ((congrArg (fun z => fI z 51) (j_63.2.1 100 (by decide) (by omega))).symm.trans ((JR.fI jr_80 (by decide) (by decide) (by decide)) : fI (V_76 100) 51 = fI (V_62 100) 51).symm))), (congrArg (fun z => fI z 7) (jr_80.2.1 3 (Or.inl (by decide)) (by omega))).trans (hn_65.trans ((hrl.2.1).trans ((congrArg (fun z => fI z 208) (j_63.2.1 101 (by decide) (by omega))).symm.trans hn_82.symm))), (congrArg (fun z => fI z 7) (jr_80.2.1 39 (Or.inl (by decide)) (by omega))).trans ((JW.fI j_63 (by decide) (by decide) : fI (V_62 39) 7 = fI (V 39) 7).trans ((hrl.2.2.1).trans ((congrArg (fun z => fI z 208) (j_63.2.1 103 (by decide) (by omega))).symm.trans ((JR.fI jr_80 (by decide) (by decide) (by decide)) : fI (V_76 103) 208 = fI (V_62 103) 208).symm))), (congrArg (fun z => fI z 1) (jr_80.2.1 1 (Or.inl (by decide)) (by omega))).trans (TKS.one hs_64 hs_81), (congrArg fI (jr_80.2.1 2 (Or.inl (by decide)) (by omega))).trans ((congrArg fI (JW.same j_63 (by decide) (fun k => (nfc (by omega) (nfc (by omega) (nfc (by omega) (nfc (by omega) (nfc (by omega) (nfc (by omega) (nfc (by omega) (nfc (by omega) (nfc (by omega) (nfc (by omega) (nfc (by omega) (nfc (by omega) (nfc (by omega) (nfc (by omega) nf0))))))))))))))))).trans ((hrl.2.2.2.2).trans ((congrArg (fun z => gb (fI z)) (j_63.2.1 110 (by decide) (by omega))).symm.trans (congrArg (fun z => gb (fI z)) (JR.same jr_80 (by decide) (by decide) (fun k => (nfc (by omega) (nfc (by omega) (nfc (by omega) (nfc (by omega) (nfc (by omega) (nfc (by omega) (nfc (by omega) (nfc (by omega) (nfc (by omega) (nfc (by omega) (nfc (by omega) nf0)))))))))))))).symm)))⟩
      refine aw_icmp_eq (tgt := 981) dL_law_278 (by decide) (fun c_91 => ?_) (fun c_91 => ?_)
      rotate_left
      · exact absurd (ANS.one ha_68 ha_84) c_91
      refine aw_iinc (v := (nI (i + 6))) (ls' := [some (.ref b9), some (.ref (b + 0)), some (.ref (b + 100)), some (.int (nI (i + 6)))]) dL_law_981 rfl (nI_add i 6) (Nat.le_of_ble_eq_true rfl) rfl ?_
      refine aw_goto (tgt := 18) dL_law_984 (by decide) ?_
      refine mih (M + 6 - (i + 6)) (by omega) (i + 6) N_74 cl V_76 _ _ rfl (by omega) ?_ ?_ (by omega) cw_77 cr_78 wf_79 rl_83 <;> omega
    · skip
      refine aw_tableIn (off := 250) (tgt := 283) dL_law_33 (by decide) (by decide) (by decide) (by decide) ?_
      refine aw_aload_n dL_law_283 rfl ?_
      refine aw_aload_n dL_law_284 rfl ?_
      refine aw_iload_n dL_law_285 rfl ?_
      refine aw_iconst (v := 1) dL_law_286 (by decide) ?_
      refine aw_iadd dL_law_287 ?_
      refine aw_eqi (y := nI (i + 1)) (nI_add _ _) ?_
      refine aw_sld dL_law_288 rfl (vp_in_nI (n := (i + 1)) (by omega) (by omega)) ?_
      refine aw_callVi (J' := jX11_orders) (As := [.int (xs ((nI (i + 1))).toNatClampNeg)]) (st := []) dL_law_289 tb_605 ok_X11_orders ⟨_, (CW.o0 hcw).choose_spec⟩ (by omega) rfl rfl (g_X11_ordersK l D b N V (by omega) hcw (xs ((nI (i + 1))).toNatClampNeg)) rfl (Nat.le_of_ble_eq_true rfl) ⟨Nat.le_of_ble_eq_true rfl, Nat.le_of_ble_eq_true rfl, (show _ ≤ 600000 from by omega), (show _ ≤ 7302250 from by omega)⟩ (fun r_103 N_104 V_92 q_105 => ?_)
      obtain ⟨hm_96, hm_97, hs_94, hn_95, j_93⟩ := q_105
      have cw_100 := j_93.1
      have cr_101 := CR.fr hcr (fun i h1 h2 => j_93.2.1 i h1 (by omega))
      have wf_102 := WF.fr hwf (fun i h1 h2 => j_93.2.1 i (by omega) (by omega))
      refine aw_pop dL_law_292 rfl ?_
      refine aw_aload_n dL_law_293 rfl ?_
      refine aw_aload_n dL_law_294 rfl ?_
      refine aw_iload_n dL_law_295 rfl ?_
      refine aw_iconst (v := 1) dL_law_296 (by decide) ?_
      refine aw_iadd dL_law_297 ?_
      refine aw_eqi (y := nI (i + 1)) (nI_add _ _) ?_
      refine aw_sld dL_law_298 rfl (vp_in_nI (n := (i + 1)) (by omega) (by omega)) ?_
      refine aw_callVi (J' := jX12_orders) (As := [.int (xs ((nI (i + 1))).toNatClampNeg)]) (st := []) dL_law_299 tb_1331 ok_X12_orders ⟨_, (CR.o100 cr_101).choose_spec⟩ (by omega) rfl rfl (r_ordersK l D b N_104 V_92 (by omega) cl cr_101 (xs ((nI (i + 1))).toNatClampNeg) (xs ((nI (i + 1))).toNatClampNeg) rfl) rfl (Nat.le_of_ble_eq_true rfl) ⟨Nat.le_of_ble_eq_true rfl, Nat.le_of_ble_eq_true rfl, (show _ ≤ 600000 from by omega), (show _ ≤ 7302250 from by omega)⟩ (fun r_117 N_118 V_106 q_119 => ?_)
      obtain ⟨⟨hs_111, hn_112⟩, rfl, jr_110⟩ := q_119
      have cr_108 := jr_110.1
      have cw_107 := CW.out cw_100 (fun i hi => jr_110.2.1 i (Or.inl hi) (by omega))
      have wf_109 := WF.fr wf_102 jr_110.2.2.1
      have e_116 : fI (V_92 100) 13 = fI (V 1) 1 := (congrArg (fun z => fI z 13) (j_93.2.1 100 (by decide) (by omega))).trans (hrl.2.2.2.1).symm
      rw [e_116] at hs_111
      have rl_113 : RLs V_106 := ⟨(congrArg (fun z => fI z 4) (jr_110.2.1 0 (Or.inl (by decide)) (by omega))).trans ((JW.fI j_93 (by decide) (by decide) : fI (V_92 0) 4 = fI (V 0) 4).trans ((hrl.1).trans ((congrArg (fun z => fI z 51) (j_93.2.1 100 (by decide) (by omega))).symm.trans ((JR.fI jr_110 (by decide) (by decide) (by decide)) : fI (V_106 100) 51 = fI (V_92 100) 51).symm))), (congrArg (fun z => fI z 7) (jr_110.2.1 3 (Or.inl (by decide)) (by omega))).trans (hn_95.trans ((hrl.2.1).trans ((congrArg (fun z => fI z 208) (j_93.2.1 101 (by decide) (by omega))).symm.trans hn_112.symm))), (congrArg (fun z => fI z 7) (jr_110.2.1 39 (Or.inl (by decide)) (by omega))).trans ((JW.fI j_93 (by decide) (by decide) : fI (V_92 39) 7 = fI (V 39) 7).trans ((hrl.2.2.1).trans ((congrArg (fun z => fI z 208) (j_93.2.1 103 (by decide) (by omega))).symm.trans ((JR.fI jr_110 (by decide) (by decide) (by decide)) : fI (V_106 103) 208 = fI (V_92 103) 208).symm))), (congrArg (fun z => fI z 1) (jr_110.2.1 1 (Or.inl (by decide)) (by omega))).trans (TKS.one hs_94 hs_111), (congrArg fI (jr_110.2.1 2 (Or.inl (by decide)) (by omega))).trans ((congrArg fI (JW.same j_93 (by decide) (fun k => (nfc (by omega) (nfc (by omega) (nfc (by omega) (nfc (by omega) (nfc (by omega) (nfc (by omega) (nfc (by omega) (nfc (by omega) (nfc (by omega) (nfc (by omega) (nfc (by omega) (nfc (by omega) (nfc (by omega) (nfc (by omega) nf0))))))))))))))))).trans ((hrl.2.2.2.2).trans ((congrArg (fun z => gb (fI z)) (j_93.2.1 110 (by decide) (by omega))).symm.trans (congrArg (fun z => gb (fI z)) (JR.same jr_110 (by decide) (by decide) (fun k => (nfc (by omega) (nfc (by omega) (nfc (by omega) (nfc (by omega) (nfc (by omega) (nfc (by omega) (nfc (by omega) (nfc (by omega) (nfc (by omega) (nfc (by omega) (nfc (by omega) (nfc (by omega) nf0))))))))))))))).symm)))⟩
      refine aw_pop dL_law_302 rfl ?_
      refine aw_goto (tgt := 981) dL_law_303 (by decide) ?_
      refine aw_iinc (v := (nI (i + 6))) (ls' := [some (.ref b9), some (.ref (b + 0)), some (.ref (b + 100)), some (.int (nI (i + 6)))]) dL_law_981 rfl (nI_add i 6) (Nat.le_of_ble_eq_true rfl) rfl ?_
      refine aw_goto (tgt := 18) dL_law_984 (by decide) ?_
      refine mih (M + 6 - (i + 6)) (by omega) (i + 6) N_104 cl V_106 _ _ rfl (by omega) ?_ ?_ (by omega) cw_107 cr_108 wf_109 rl_113 <;> omega
    · skip
      refine aw_tableIn (off := 273) (tgt := 306) dL_law_33 (by decide) (by decide) (by decide) (by decide) ?_
      refine aw_aload_n dL_law_306 rfl ?_
      refine aw_aload_n dL_law_307 rfl ?_
      refine aw_iload_n dL_law_308 rfl ?_
      refine aw_iconst (v := 1) dL_law_309 (by decide) ?_
      refine aw_iadd dL_law_310 ?_
      refine aw_eqi (y := nI (i + 1)) (nI_add _ _) ?_
      refine aw_sld dL_law_311 rfl (vp_in_nI (n := (i + 1)) (by omega) (by omega)) ?_
      refine aw_callVi (J' := jX11_nights) (As := [.int (xs ((nI (i + 1))).toNatClampNeg)]) (st := []) dL_law_312 tb_622 ok_X11_nights ⟨_, (CW.o0 hcw).choose_spec⟩ (by omega) rfl rfl (g_X11_nightsK l D b N V (by omega) hcw (xs ((nI (i + 1))).toNatClampNeg)) rfl (Nat.le_of_ble_eq_true rfl) ⟨Nat.le_of_ble_eq_true rfl, Nat.le_of_ble_eq_true rfl, (show _ ≤ 600000 from by omega), (show _ ≤ 7302250 from by omega)⟩ (fun r_131 N_132 V_120 q_133 => ?_)
      obtain ⟨hs_122, rfl, j_121⟩ := q_133
      have cw_128 := j_121.1
      have cr_129 := CR.fr hcr (fun i h1 h2 => j_121.2.1 i h1 (by omega))
      have wf_130 := WF.fr hwf (fun i h1 h2 => j_121.2.1 i (by omega) (by omega))
      refine aw_pop dL_law_315 rfl ?_
      refine aw_aload_n dL_law_316 rfl ?_
      refine aw_aload_n dL_law_317 rfl ?_
      refine aw_iload_n dL_law_318 rfl ?_
      refine aw_iconst (v := 1) dL_law_319 (by decide) ?_
      refine aw_iadd dL_law_320 ?_
      refine aw_eqi (y := nI (i + 1)) (nI_add _ _) ?_
      refine aw_sld dL_law_321 rfl (vp_in_nI (n := (i + 1)) (by omega) (by omega)) ?_
      refine aw_callVi (J' := jX12_nights) (As := [.int (xs ((nI (i + 1))).toNatClampNeg)]) (st := []) dL_law_322 tb_1367 ok_X12_nights ⟨_, (CR.o100 cr_129).choose_spec⟩ (by omega) rfl rfl (r_nightsK l D b N V_120 (by omega) cl cr_129 (xs ((nI (i + 1))).toNatClampNeg) wf_130 (xs ((nI (i + 1))).toNatClampNeg) rfl) rfl (Nat.le_of_ble_eq_true rfl) ⟨Nat.le_of_ble_eq_true rfl, Nat.le_of_ble_eq_true rfl, (show _ ≤ 600000 from by omega), (show _ ≤ 7302250 from by omega)⟩ (fun r_145 N_146 V_134 q_147 => ?_)
      obtain ⟨hs_139, rfl, jr_138⟩ := q_147
      have cr_136 := jr_138.1
      have cw_135 := CW.out cw_128 (fun i hi => jr_138.2.1 i (Or.inl hi) (by omega))
      have wf_137 := WF.fr wf_130 jr_138.2.2.1
      have e_144 : fI (V_120 101) 208 = fI (V 3) 7 := (congrArg (fun z => fI z 208) (j_121.2.1 101 (by decide) (by omega))).trans (hrl.2.1).symm
      rw [e_144] at hs_139
      have rl_141 : RLs V_134 := ⟨(congrArg (fun z => fI z 4) (jr_138.2.1 0 (Or.inl (by decide)) (by omega))).trans ((JW.fI j_121 (by decide) (by decide) : fI (V_120 0) 4 = fI (V 0) 4).trans ((hrl.1).trans ((congrArg (fun z => fI z 51) (j_121.2.1 100 (by decide) (by omega))).symm.trans ((JR.fI jr_138 (by decide) (by decide) (by decide)) : fI (V_134 100) 51 = fI (V_120 100) 51).symm))), (congrArg (fun z => fI z 7) (jr_138.2.1 3 (Or.inl (by decide)) (by omega))).trans (NTS.one hs_122 hs_139), (congrArg (fun z => fI z 7) (jr_138.2.1 39 (Or.inl (by decide)) (by omega))).trans ((JW.fI j_121 (by decide) (by decide) : fI (V_120 39) 7 = fI (V 39) 7).trans ((hrl.2.2.1).trans ((congrArg (fun z => fI z 208) (j_121.2.1 103 (by decide) (by omega))).symm.trans ((JR.fI jr_138 (by decide) (by decide) (by decide)) : fI (V_134 103) 208 = fI (V_120 103) 208).symm))), (congrArg (fun z => fI z 1) (jr_138.2.1 1 (Or.inl (by decide)) (by omega))).trans ((JW.fI j_121 (by decide) (by decide) : fI (V_120 1) 1 = fI (V 1) 1).trans ((hrl.2.2.2.1).trans ((congrArg (fun z => fI z 13) (j_121.2.1 100 (by decide) (by omega))).symm.trans ((JR.fI jr_138 (by decide) (by decide) (by decide)) : fI (V_134 100) 13 = fI (V_120 100) 13).symm))), (congrArg fI (jr_138.2.1 2 (Or.inl (by decide)) (by omega))).trans ((congrArg fI (JW.same j_121 (by decide) (fun k => (nfc (by omega) (nfc (by omega) (nfc (by omega) (nfc (by omega) (nfc (by omega) (nfc (by omega) (nfc (by omega) (nfc (by omega) (nfc (by omega) (nfc (by omega) (nfc (by omega) (nfc (by omega) nf0))))))))))))))).trans ((hrl.2.2.2.2).trans ((congrArg (fun z => gb (fI z)) (j_121.2.1 110 (by decide) (by omega))).symm.trans (congrArg (fun z => gb (fI z)) (JR.same jr_138 (by decide) (by decide) (fun k => (nfc (by omega) (nfc (by omega) (nfc (by omega) (nfc (by omega) (nfc (by omega) (nfc (by omega) (nfc (by omega) nf0)))))))))).symm)))⟩
      refine aw_pop dL_law_325 rfl ?_
      refine aw_goto (tgt := 981) dL_law_326 (by decide) ?_
      refine aw_iinc (v := (nI (i + 6))) (ls' := [some (.ref b9), some (.ref (b + 0)), some (.ref (b + 100)), some (.int (nI (i + 6)))]) dL_law_981 rfl (nI_add i 6) (Nat.le_of_ble_eq_true rfl) rfl ?_
      refine aw_goto (tgt := 18) dL_law_984 (by decide) ?_
      refine mih (M + 6 - (i + 6)) (by omega) (i + 6) N cl V_134 _ _ rfl (by omega) ?_ ?_ (by omega) cw_135 cr_136 wf_137 rl_141 <;> omega
    · skip
      refine aw_tableIn (off := 296) (tgt := 329) dL_law_33 (by decide) (by decide) (by decide) (by decide) ?_
      refine aw_aload_n dL_law_329 rfl ?_
      refine aw_aload_n dL_law_330 rfl ?_
      refine aw_iload_n dL_law_331 rfl ?_
      refine aw_iconst (v := 1) dL_law_332 (by decide) ?_
      refine aw_iadd dL_law_333 ?_
      refine aw_eqi (y := nI (i + 1)) (nI_add _ _) ?_
      refine aw_sld dL_law_334 rfl (vp_in_nI (n := (i + 1)) (by omega) (by omega)) ?_
      refine aw_aload_n dL_law_335 rfl ?_
      refine aw_iload_n dL_law_336 rfl ?_
      refine aw_iconst (v := 2) dL_law_337 (by decide) ?_
      refine aw_iadd dL_law_338 ?_
      refine aw_eqi (y := nI (i + 2)) (nI_add _ _) ?_
      refine aw_sld dL_law_339 rfl (vp_in_nI (n := (i + 2)) (by omega) (by omega)) ?_
      refine aw_callVi (J' := jX11_tried) (As := [.int (xs ((nI (i + 1))).toNatClampNeg), .int (xs ((nI (i + 2))).toNatClampNeg)]) (st := []) dL_law_340 tb_737 ok_X11_tried ⟨_, (CW.o0 hcw).choose_spec⟩ (by omega) rfl rfl (g_X11_tried l D b N V (by omega) hcw (xs ((nI (i + 1))).toNatClampNeg) (xs ((nI (i + 2))).toNatClampNeg)) rfl (Nat.le_of_ble_eq_true rfl) ⟨Nat.le_of_ble_eq_true rfl, Nat.le_of_ble_eq_true rfl, (show _ ≤ 600000 from by omega), (show _ ≤ 7302250 from by omega)⟩ (fun r_159 N_160 V_148 q_161 => ?_)
      obtain ⟨rfl, j_149⟩ := q_161
      have cw_156 := j_149.1
      have cr_157 := CR.fr hcr (fun i h1 h2 => j_149.2.1 i h1 (by omega))
      have wf_158 := WF.fr hwf (fun i h1 h2 => j_149.2.1 i (by omega) (by omega))
      refine aw_pop dL_law_343 rfl ?_
      refine aw_aload_n dL_law_344 rfl ?_
      refine aw_aload_n dL_law_345 rfl ?_
      refine aw_iload_n dL_law_346 rfl ?_
      refine aw_iconst (v := 1) dL_law_347 (by decide) ?_
      refine aw_iadd dL_law_348 ?_
      refine aw_eqi (y := nI (i + 1)) (nI_add _ _) ?_
      refine aw_sld dL_law_349 rfl (vp_in_nI (n := (i + 1)) (by omega) (by omega)) ?_
      refine aw_aload_n dL_law_350 rfl ?_
      refine aw_iload_n dL_law_351 rfl ?_
      refine aw_iconst (v := 2) dL_law_352 (by decide) ?_
      refine aw_iadd dL_law_353 ?_
      refine aw_eqi (y := nI (i + 2)) (nI_add _ _) ?_
      refine aw_sld dL_law_354 rfl (vp_in_nI (n := (i + 2)) (by omega) (by omega)) ?_
      refine aw_callVi (J' := jX12_tried) (As := [.int (xs ((nI (i + 1))).toNatClampNeg), .int (xs ((nI (i + 2))).toNatClampNeg)]) (st := []) dL_law_355 tb_1442 ok_X12_tried ⟨_, (CR.o100 cr_157).choose_spec⟩ (by omega) rfl rfl (r_triedK l D b N V_148 (by omega) cl cr_157 (xs ((nI (i + 1))).toNatClampNeg) (xs ((nI (i + 2))).toNatClampNeg) wf_158) rfl (Nat.le_of_ble_eq_true rfl) ⟨Nat.le_of_ble_eq_true rfl, Nat.le_of_ble_eq_true rfl, (show _ ≤ 600000 from by omega), (show _ ≤ 7302250 from by omega)⟩ (fun r_172 N_173 V_162 q_174 => ?_)
      obtain ⟨hs_167, rfl, jr_166⟩ := q_174
      have cr_164 := jr_166.1
      have cw_163 := CW.out cw_156 (fun i hi => jr_166.2.1 i (Or.inl hi) (by omega))
      have wf_165 := WF.fr wf_158 jr_166.2.2.1
      have rl_169 : RLs V_162 := ⟨(congrArg (fun z => fI z 4) (jr_166.2.1 0 (Or.inl (by decide)) (by omega))).trans ((JW.fI j_149 (by decide) (by decide) : fI (V_148 0) 4 = fI (V 0) 4).trans ((hrl.1).trans ((congrArg (fun z => fI z 51) (j_149.2.1 100 (by decide) (by omega))).symm.trans ((JR.fI jr_166 (by decide) (by decide) (by decide)) : fI (V_162 100) 51 = fI (V_148 100) 51).symm))), (congrArg (fun z => fI z 7) (jr_166.2.1 3 (Or.inl (by decide)) (by omega))).trans ((JW.fI j_149 (by decide) (by decide) : fI (V_148 3) 7 = fI (V 3) 7).trans ((hrl.2.1).trans ((congrArg (fun z => fI z 208) (j_149.2.1 101 (by decide) (by omega))).symm.trans hs_167.symm))), (congrArg (fun z => fI z 7) (jr_166.2.1 39 (Or.inl (by decide)) (by omega))).trans ((JW.fI j_149 (by decide) (by decide) : fI (V_148 39) 7 = fI (V 39) 7).trans ((hrl.2.2.1).trans ((congrArg (fun z => fI z 208) (j_149.2.1 103 (by decide) (by omega))).symm.trans ((JR.fI jr_166 (by decide) (by decide) (by decide)) : fI (V_162 103) 208 = fI (V_148 103) 208).symm))), (congrArg (fun z => fI z 1) (jr_166.2.1 1 (Or.inl (by decide)) (by omega))).trans ((JW.fI j_149 (by decide) (by decide) : fI (V_148 1) 1 = fI (V 1) 1).trans ((hrl.2.2.2.1).trans ((congrArg (fun z => fI z 13) (j_149.2.1 100 (by decide) (by omega))).symm.trans ((JR.fI jr_166 (by decide) (by decide) (by decide)) : fI (V_162 100) 13 = fI (V_148 100) 13).symm))), (congrArg fI (jr_166.2.1 2 (Or.inl (by decide)) (by omega))).trans ((congrArg fI (JW.same j_149 (by decide) (fun k => (nfc (by omega) (nfc (by omega) (nfc (by omega) (nfc (by omega) (nfc (by omega) (nfc (by omega) (nfc (by omega) (nfc (by omega) (nfc (by omega) (nfc (by omega) (nfc (by omega) (nfc (by omega) (nfc (by omega) nf0)))))))))))))))).trans ((hrl.2.2.2.2).trans ((congrArg (fun z => gb (fI z)) (j_149.2.1 110 (by decide) (by omega))).symm.trans (congrArg (fun z => gb (fI z)) (JR.same jr_166 (by decide) (by decide) (fun k => (nfc (by omega) (nfc (by omega) (nfc (by omega) (nfc (by omega) nf0))))))).symm)))⟩
      refine aw_pop dL_law_358 rfl ?_
      refine aw_goto (tgt := 981) dL_law_359 (by decide) ?_
      refine aw_iinc (v := (nI (i + 6))) (ls' := [some (.ref b9), some (.ref (b + 0)), some (.ref (b + 100)), some (.int (nI (i + 6)))]) dL_law_981 rfl (nI_add i 6) (Nat.le_of_ble_eq_true rfl) rfl ?_
      refine aw_goto (tgt := 18) dL_law_984 (by decide) ?_
      refine mih (M + 6 - (i + 6)) (by omega) (i + 6) N cl V_162 _ _ rfl (by omega) ?_ ?_ (by omega) cw_163 cr_164 wf_165 rl_169 <;> omega
    · skip
      refine aw_tableIn (off := 329) (tgt := 362) dL_law_33 (by decide) (by decide) (by decide) (by decide) ?_
      refine aw_aload_n dL_law_362 rfl ?_
      refine aw_aload_n dL_law_363 rfl ?_
      refine aw_iload_n dL_law_364 rfl ?_
      refine aw_iconst (v := 1) dL_law_365 (by decide) ?_
      refine aw_iadd dL_law_366 ?_
      refine aw_eqi (y := nI (i + 1)) (nI_add _ _) ?_
      refine aw_sld dL_law_367 rfl (vp_in_nI (n := (i + 1)) (by omega) (by omega)) ?_
      refine aw_aload_n dL_law_368 rfl ?_
      refine aw_iload_n dL_law_369 rfl ?_
      refine aw_iconst (v := 2) dL_law_370 (by decide) ?_
      refine aw_iadd dL_law_371 ?_
      refine aw_eqi (y := nI (i + 2)) (nI_add _ _) ?_
      refine aw_sld dL_law_372 rfl (vp_in_nI (n := (i + 2)) (by omega) (by omega)) ?_
      refine aw_callVi (J' := jX11_personIs) (As := [.int (xs ((nI (i + 1))).toNatClampNeg), .int (xs ((nI (i + 2))).toNatClampNeg)]) (st := []) dL_law_373 tb_753 ok_X11_personIs ⟨_, (CW.o0 hcw).choose_spec⟩ (by omega) rfl rfl (g_X11_personIs l D b N V (by omega) hcw (xs ((nI (i + 1))).toNatClampNeg) (xs ((nI (i + 2))).toNatClampNeg)) rfl (Nat.le_of_ble_eq_true rfl) ⟨Nat.le_of_ble_eq_true rfl, Nat.le_of_ble_eq_true rfl, (show _ ≤ 600000 from by omega), (show _ ≤ 7302250 from by omega)⟩ (fun r_176 N_177 V_178 q_179 => ?_)
      obtain ⟨rfl, rfl⟩ := q_179
      refine aw_pop dL_law_376 rfl ?_
      refine aw_aload_n dL_law_377 rfl ?_
      refine aw_aload_n dL_law_378 rfl ?_
      refine aw_iload_n dL_law_379 rfl ?_
      refine aw_iconst (v := 1) dL_law_380 (by decide) ?_
      refine aw_iadd dL_law_381 ?_
      refine aw_eqi (y := nI (i + 1)) (nI_add _ _) ?_
      refine aw_sld dL_law_382 rfl (vp_in_nI (n := (i + 1)) (by omega) (by omega)) ?_
      refine aw_aload_n dL_law_383 rfl ?_
      refine aw_iload_n dL_law_384 rfl ?_
      refine aw_iconst (v := 2) dL_law_385 (by decide) ?_
      refine aw_iadd dL_law_386 ?_
      refine aw_eqi (y := nI (i + 2)) (nI_add _ _) ?_
      refine aw_sld dL_law_387 rfl (vp_in_nI (n := (i + 2)) (by omega) (by omega)) ?_
      refine aw_callVi (J' := jX12_personIs) (As := [.int (xs ((nI (i + 1))).toNatClampNeg), .int (xs ((nI (i + 2))).toNatClampNeg)]) (st := []) dL_law_388 tb_1449 ok_X12_personIs ⟨_, (CR.o100 hcr).choose_spec⟩ (by omega) rfl rfl (r_personIs l D b N V (by omega) cl hcr (xs ((nI (i + 1))).toNatClampNeg) (xs ((nI (i + 2))).toNatClampNeg)) rfl (Nat.le_of_ble_eq_true rfl) ⟨Nat.le_of_ble_eq_true rfl, Nat.le_of_ble_eq_true rfl, (show _ ≤ 600000 from by omega), (show _ ≤ 7302250 from by omega)⟩ (fun r_190 N_191 V_192 q_193 => ?_)
      obtain ⟨rfl, rfl⟩ := q_193
      refine aw_pop dL_law_391 rfl ?_
      refine aw_goto (tgt := 981) dL_law_392 (by decide) ?_
      refine aw_iinc (v := (nI (i + 6))) (ls' := [some (.ref b9), some (.ref (b + 0)), some (.ref (b + 100)), some (.int (nI (i + 6)))]) dL_law_981 rfl (nI_add i 6) (Nat.le_of_ble_eq_true rfl) rfl ?_
      refine aw_goto (tgt := 18) dL_law_984 (by decide) ?_
      refine mih (M + 6 - (i + 6)) (by omega) (i + 6) N cl V _ _ rfl (by omega) ?_ ?_ (by omega) hcw hcr hwf hrl <;> omega
    · skip
      refine aw_tableIn (off := 362) (tgt := 395) dL_law_33 (by decide) (by decide) (by decide) (by decide) ?_
      refine aw_aload_n dL_law_395 rfl ?_
      refine aw_aload_n dL_law_396 rfl ?_
      refine aw_iload_n dL_law_397 rfl ?_
      refine aw_iconst (v := 1) dL_law_398 (by decide) ?_
      refine aw_iadd dL_law_399 ?_
      refine aw_eqi (y := nI (i + 1)) (nI_add _ _) ?_
      refine aw_sld dL_law_400 rfl (vp_in_nI (n := (i + 1)) (by omega) (by omega)) ?_
      refine aw_aload_n dL_law_401 rfl ?_
      refine aw_iload_n dL_law_402 rfl ?_
      refine aw_iconst (v := 2) dL_law_403 (by decide) ?_
      refine aw_iadd dL_law_404 ?_
      refine aw_eqi (y := nI (i + 2)) (nI_add _ _) ?_
      refine aw_sld dL_law_405 rfl (vp_in_nI (n := (i + 2)) (by omega) (by omega)) ?_
      refine aw_callVi (J' := jX11_doorIs) (As := [.int (xs ((nI (i + 1))).toNatClampNeg), .int (xs ((nI (i + 2))).toNatClampNeg)]) (st := []) dL_law_406 tb_768 ok_X11_doorIs ⟨_, (CW.o0 hcw).choose_spec⟩ (by omega) rfl rfl (g_X11_doorIs l D b N V (by omega) hcw (xs ((nI (i + 1))).toNatClampNeg) (xs ((nI (i + 2))).toNatClampNeg)) rfl (Nat.le_of_ble_eq_true rfl) ⟨Nat.le_of_ble_eq_true rfl, Nat.le_of_ble_eq_true rfl, (show _ ≤ 600000 from by omega), (show _ ≤ 7302250 from by omega)⟩ (fun r_195 N_196 V_197 q_198 => ?_)
      obtain ⟨rfl, rfl⟩ := q_198
      refine aw_pop dL_law_409 rfl ?_
      refine aw_aload_n dL_law_410 rfl ?_
      refine aw_aload_n dL_law_411 rfl ?_
      refine aw_iload_n dL_law_412 rfl ?_
      refine aw_iconst (v := 1) dL_law_413 (by decide) ?_
      refine aw_iadd dL_law_414 ?_
      refine aw_eqi (y := nI (i + 1)) (nI_add _ _) ?_
      refine aw_sld dL_law_415 rfl (vp_in_nI (n := (i + 1)) (by omega) (by omega)) ?_
      refine aw_aload_n dL_law_416 rfl ?_
      refine aw_iload_n dL_law_417 rfl ?_
      refine aw_iconst (v := 2) dL_law_418 (by decide) ?_
      refine aw_iadd dL_law_419 ?_
      refine aw_eqi (y := nI (i + 2)) (nI_add _ _) ?_
      refine aw_sld dL_law_420 rfl (vp_in_nI (n := (i + 2)) (by omega) (by omega)) ?_
      refine aw_callVi (J' := jX12_doorIs) (As := [.int (xs ((nI (i + 1))).toNatClampNeg), .int (xs ((nI (i + 2))).toNatClampNeg)]) (st := []) dL_law_421 tb_1461 ok_X12_doorIs ⟨_, (CR.o100 hcr).choose_spec⟩ (by omega) rfl rfl (r_doorIs l D b N V (by omega) cl hcr (xs ((nI (i + 1))).toNatClampNeg) (xs ((nI (i + 2))).toNatClampNeg)) rfl (Nat.le_of_ble_eq_true rfl) ⟨Nat.le_of_ble_eq_true rfl, Nat.le_of_ble_eq_true rfl, (show _ ≤ 600000 from by omega), (show _ ≤ 7302250 from by omega)⟩ (fun r_209 N_210 V_211 q_212 => ?_)
      obtain ⟨rfl, rfl⟩ := q_212
      refine aw_pop dL_law_424 rfl ?_
      refine aw_goto (tgt := 981) dL_law_425 (by decide) ?_
      refine aw_iinc (v := (nI (i + 6))) (ls' := [some (.ref b9), some (.ref (b + 0)), some (.ref (b + 100)), some (.int (nI (i + 6)))]) dL_law_981 rfl (nI_add i 6) (Nat.le_of_ble_eq_true rfl) rfl ?_
      refine aw_goto (tgt := 18) dL_law_984 (by decide) ?_
      refine mih (M + 6 - (i + 6)) (by omega) (i + 6) N cl V _ _ rfl (by omega) ?_ ?_ (by omega) hcw hcr hwf hrl <;> omega
    · skip
      refine aw_tableIn (off := 395) (tgt := 428) dL_law_33 (by decide) (by decide) (by decide) (by decide) ?_
      refine aw_aload_n dL_law_428 rfl ?_
      refine aw_aload_n dL_law_429 rfl ?_
      refine aw_iload_n dL_law_430 rfl ?_
      refine aw_iconst (v := 1) dL_law_431 (by decide) ?_
      refine aw_iadd dL_law_432 ?_
      refine aw_eqi (y := nI (i + 1)) (nI_add _ _) ?_
      refine aw_sld dL_law_433 rfl (vp_in_nI (n := (i + 1)) (by omega) (by omega)) ?_
      refine aw_aload_n dL_law_434 rfl ?_
      refine aw_iload_n dL_law_435 rfl ?_
      refine aw_iconst (v := 2) dL_law_436 (by decide) ?_
      refine aw_iadd dL_law_437 ?_
      refine aw_eqi (y := nI (i + 2)) (nI_add _ _) ?_
      refine aw_sld dL_law_438 rfl (vp_in_nI (n := (i + 2)) (by omega) (by omega)) ?_
      refine aw_callVi (J' := jX11_taught) (As := [.int (xs ((nI (i + 1))).toNatClampNeg), .int (xs ((nI (i + 2))).toNatClampNeg)]) (st := []) dL_law_439 tb_776 ok_X11_taught ⟨_, (CW.o0 hcw).choose_spec⟩ (by omega) rfl rfl (g_X11_taught l D b N V (by omega) hcw (xs ((nI (i + 1))).toNatClampNeg) (xs ((nI (i + 2))).toNatClampNeg)) rfl (Nat.le_of_ble_eq_true rfl) ⟨Nat.le_of_ble_eq_true rfl, Nat.le_of_ble_eq_true rfl, (show _ ≤ 600000 from by omega), (show _ ≤ 7302250 from by omega)⟩ (fun r_214 N_215 V_216 q_217 => ?_)
      obtain ⟨rfl, rfl⟩ := q_217
      refine aw_pop dL_law_442 rfl ?_
      refine aw_aload_n dL_law_443 rfl ?_
      refine aw_aload_n dL_law_444 rfl ?_
      refine aw_iload_n dL_law_445 rfl ?_
      refine aw_iconst (v := 1) dL_law_446 (by decide) ?_
      refine aw_iadd dL_law_447 ?_
      refine aw_eqi (y := nI (i + 1)) (nI_add _ _) ?_
      refine aw_sld dL_law_448 rfl (vp_in_nI (n := (i + 1)) (by omega) (by omega)) ?_
      refine aw_aload_n dL_law_449 rfl ?_
      refine aw_iload_n dL_law_450 rfl ?_
      refine aw_iconst (v := 2) dL_law_451 (by decide) ?_
      refine aw_iadd dL_law_452 ?_
      refine aw_eqi (y := nI (i + 2)) (nI_add _ _) ?_
      refine aw_sld dL_law_453 rfl (vp_in_nI (n := (i + 2)) (by omega) (by omega)) ?_
      refine aw_callVi (J' := jX12_taught) (As := [.int (xs ((nI (i + 1))).toNatClampNeg), .int (xs ((nI (i + 2))).toNatClampNeg)]) (st := []) dL_law_454 tb_1469 ok_X12_taught ⟨_, (CR.o100 hcr).choose_spec⟩ (by omega) rfl rfl (r_taught l D b N V (by omega) cl hcr (xs ((nI (i + 1))).toNatClampNeg) (xs ((nI (i + 2))).toNatClampNeg)) rfl (Nat.le_of_ble_eq_true rfl) ⟨Nat.le_of_ble_eq_true rfl, Nat.le_of_ble_eq_true rfl, (show _ ≤ 600000 from by omega), (show _ ≤ 7302250 from by omega)⟩ (fun r_228 N_229 V_230 q_231 => ?_)
      obtain ⟨rfl, rfl⟩ := q_231
      refine aw_pop dL_law_457 rfl ?_
      refine aw_goto (tgt := 981) dL_law_458 (by decide) ?_
      refine aw_iinc (v := (nI (i + 6))) (ls' := [some (.ref b9), some (.ref (b + 0)), some (.ref (b + 100)), some (.int (nI (i + 6)))]) dL_law_981 rfl (nI_add i 6) (Nat.le_of_ble_eq_true rfl) rfl ?_
      refine aw_goto (tgt := 18) dL_law_984 (by decide) ?_
      refine mih (M + 6 - (i + 6)) (by omega) (i + 6) N cl V _ _ rfl (by omega) ?_ ?_ (by omega) hcw hcr hwf hrl <;> omega
    · skip
      refine aw_tableIn (off := 428) (tgt := 461) dL_law_33 (by decide) (by decide) (by decide) (by decide) ?_
      refine aw_aload_n dL_law_461 rfl ?_
      refine aw_aload_n dL_law_462 rfl ?_
      refine aw_iload_n dL_law_463 rfl ?_
      refine aw_iconst (v := 1) dL_law_464 (by decide) ?_
      refine aw_iadd dL_law_465 ?_
      refine aw_eqi (y := nI (i + 1)) (nI_add _ _) ?_
      refine aw_sld dL_law_466 rfl (vp_in_nI (n := (i + 1)) (by omega) (by omega)) ?_
      refine aw_callVi (J' := jX11_crew) (As := [.int (xs ((nI (i + 1))).toNatClampNeg)]) (st := []) dL_law_467 tb_790 ok_X11_crew ⟨_, (CW.o0 hcw).choose_spec⟩ (by omega) rfl rfl (g_X11_crew l D b N V (by omega) hcw (xs ((nI (i + 1))).toNatClampNeg)) rfl (Nat.le_of_ble_eq_true rfl) ⟨Nat.le_of_ble_eq_true rfl, Nat.le_of_ble_eq_true rfl, (show _ ≤ 600000 from by omega), (show _ ≤ 7302250 from by omega)⟩ (fun r_243 N_244 V_232 q_245 => ?_)
      obtain ⟨rfl, j_233⟩ := q_245
      have cw_240 := j_233.1
      have cr_241 := CR.fr hcr (fun i h1 h2 => j_233.2.1 i h1 (by omega))
      have wf_242 := WF.fr hwf (fun i h1 h2 => j_233.2.1 i (by omega) (by omega))
      refine aw_pop dL_law_470 rfl ?_
      refine aw_aload_n dL_law_471 rfl ?_
      refine aw_aload_n dL_law_472 rfl ?_
      refine aw_iload_n dL_law_473 rfl ?_
      refine aw_iconst (v := 1) dL_law_474 (by decide) ?_
      refine aw_iadd dL_law_475 ?_
      refine aw_eqi (y := nI (i + 1)) (nI_add _ _) ?_
      refine aw_sld dL_law_476 rfl (vp_in_nI (n := (i + 1)) (by omega) (by omega)) ?_
      refine aw_callVi (J' := jX12_crew) (As := [.int (xs ((nI (i + 1))).toNatClampNeg)]) (st := []) dL_law_477 tb_1477 ok_X12_crew ⟨_, (CR.o100 cr_241).choose_spec⟩ (by omega) rfl rfl (r_crew l D b N V_232 (by omega) cl cr_241 (xs ((nI (i + 1))).toNatClampNeg)) rfl (Nat.le_of_ble_eq_true rfl) ⟨Nat.le_of_ble_eq_true rfl, Nat.le_of_ble_eq_true rfl, (show _ ≤ 600000 from by omega), (show _ ≤ 7302250 from by omega)⟩ (fun r_256 N_257 V_246 q_258 => ?_)
      obtain ⟨rfl, jr_250⟩ := q_258
      have cr_248 := jr_250.1
      have cw_247 := CW.out cw_240 (fun i hi => jr_250.2.1 i (Or.inl hi) (by omega))
      have wf_249 := WF.fr wf_242 jr_250.2.2.1
      have rl_253 : RLs V_246 := ⟨(congrArg (fun z => fI z 4) (jr_250.2.1 0 (Or.inl (by decide)) (by omega))).trans ((JW.fI j_233 (by decide) (by decide) : fI (V_232 0) 4 = fI (V 0) 4).trans ((hrl.1).trans ((congrArg (fun z => fI z 51) (j_233.2.1 100 (by decide) (by omega))).symm.trans ((JR.fI jr_250 (by decide) (by decide) (by decide)) : fI (V_246 100) 51 = fI (V_232 100) 51).symm))), (congrArg (fun z => fI z 7) (jr_250.2.1 3 (Or.inl (by decide)) (by omega))).trans ((JW.fI j_233 (by decide) (by decide) : fI (V_232 3) 7 = fI (V 3) 7).trans ((hrl.2.1).trans ((congrArg (fun z => fI z 208) (j_233.2.1 101 (by decide) (by omega))).symm.trans ((JR.fI jr_250 (by decide) (by decide) (by decide)) : fI (V_246 101) 208 = fI (V_232 101) 208).symm))), (congrArg (fun z => fI z 7) (jr_250.2.1 39 (Or.inl (by decide)) (by omega))).trans ((JW.fI j_233 (by decide) (by decide) : fI (V_232 39) 7 = fI (V 39) 7).trans ((hrl.2.2.1).trans ((congrArg (fun z => fI z 208) (j_233.2.1 103 (by decide) (by omega))).symm.trans ((JR.fI jr_250 (by decide) (by decide) (by decide)) : fI (V_246 103) 208 = fI (V_232 103) 208).symm))), (congrArg (fun z => fI z 1) (jr_250.2.1 1 (Or.inl (by decide)) (by omega))).trans ((JW.fI j_233 (by decide) (by decide) : fI (V_232 1) 1 = fI (V 1) 1).trans ((hrl.2.2.2.1).trans ((congrArg (fun z => fI z 13) (j_233.2.1 100 (by decide) (by omega))).symm.trans ((JR.fI jr_250 (by decide) (by decide) (by decide)) : fI (V_246 100) 13 = fI (V_232 100) 13).symm))), (congrArg fI (jr_250.2.1 2 (Or.inl (by decide)) (by omega))).trans ((congrArg fI (JW.same j_233 (by decide) (fun k => (nfc (by omega) nf0)))).trans ((hrl.2.2.2.2).trans ((congrArg (fun z => gb (fI z)) (j_233.2.1 110 (by decide) (by omega))).symm.trans (congrArg (fun z => gb (fI z)) (JR.same jr_250 (by decide) (by decide) (fun k => (nfc (by omega) nf0)))).symm)))⟩
      refine aw_pop dL_law_480 rfl ?_
      refine aw_goto (tgt := 981) dL_law_481 (by decide) ?_
      refine aw_iinc (v := (nI (i + 6))) (ls' := [some (.ref b9), some (.ref (b + 0)), some (.ref (b + 100)), some (.int (nI (i + 6)))]) dL_law_981 rfl (nI_add i 6) (Nat.le_of_ble_eq_true rfl) rfl ?_
      refine aw_goto (tgt := 18) dL_law_984 (by decide) ?_
      refine mih (M + 6 - (i + 6)) (by omega) (i + 6) N cl V_246 _ _ rfl (by omega) ?_ ?_ (by omega) cw_247 cr_248 wf_249 rl_253 <;> omega
    · skip
      refine aw_tableIn (off := 451) (tgt := 484) dL_law_33 (by decide) (by decide) (by decide) (by decide) ?_
      refine aw_aload_n dL_law_484 rfl ?_
      refine aw_callVi (J' := jX11_lodgings) (As := []) (st := []) dL_law_485 tb_806 ok_X11_lodgings ⟨_, (CW.o0 hcw).choose_spec⟩ (by omega) rfl rfl (g_X11_lodgings l D b N V (by omega) hcw) rfl (Nat.le_of_ble_eq_true rfl) ⟨Nat.le_of_ble_eq_true rfl, Nat.le_of_ble_eq_true rfl, (show _ ≤ 600000 from by omega), (show _ ≤ 7302250 from by omega)⟩ (fun r_260 N_261 V_262 q_263 => ?_)
      obtain ⟨rfl, rfl⟩ := q_263
      refine aw_pop dL_law_488 rfl ?_
      refine aw_aload_n dL_law_489 rfl ?_
      refine aw_callVi (J' := jX12_lodgings) (As := []) (st := []) dL_law_490 tb_1489 ok_X12_lodgings ⟨_, (CR.o100 hcr).choose_spec⟩ (by omega) rfl rfl (r_lodgings l D b N V (by omega) cl hcr) rfl (Nat.le_of_ble_eq_true rfl) ⟨Nat.le_of_ble_eq_true rfl, Nat.le_of_ble_eq_true rfl, (show _ ≤ 600000 from by omega), (show _ ≤ 7302250 from by omega)⟩ (fun r_274 N_275 V_264 q_276 => ?_)
      obtain ⟨rfl, jr_268⟩ := q_276
      have cr_266 := jr_268.1
      have cw_265 := CW.out hcw (fun i hi => jr_268.2.1 i (Or.inl hi) (by omega))
      have wf_267 := WF.fr hwf jr_268.2.2.1
      have rl_271 : RLs V_264 := ⟨(congrArg (fun z => fI z 4) (jr_268.2.1 0 (Or.inl (by decide)) (by omega))).trans ((Eq.refl (fI (V 0) 4)).trans ((hrl.1).trans ((Eq.refl (fI (V 100) 51)).symm.trans ((JR.fI jr_268 (by decide) (by decide) (by decide)) : fI (V_264 100) 51 = fI (V 100) 51).symm))), (congrArg (fun z => fI z 7) (jr_268.2.1 3 (Or.inl (by decide)) (by omega))).trans ((Eq.refl (fI (V 3) 7)).trans ((hrl.2.1).trans ((Eq.refl (fI (V 101) 208)).symm.trans ((JR.fI jr_268 (by decide) (by decide) (by decide)) : fI (V_264 101) 208 = fI (V 101) 208).symm))), (congrArg (fun z => fI z 7) (jr_268.2.1 39 (Or.inl (by decide)) (by omega))).trans ((Eq.refl (fI (V 39) 7)).trans ((hrl.2.2.1).trans ((Eq.refl (fI (V 103) 208)).symm.trans ((JR.fI jr_268 (by decide) (by decide) (by decide)) : fI (V_264 103) 208 = fI (V 103) 208).symm))), (congrArg (fun z => fI z 1) (jr_268.2.1 1 (Or.inl (by decide)) (by omega))).trans ((Eq.refl (fI (V 1) 1)).trans ((hrl.2.2.2.1).trans ((Eq.refl (fI (V 100) 13)).symm.trans ((JR.fI jr_268 (by decide) (by decide) (by decide)) : fI (V_264 100) 13 = fI (V 100) 13).symm))), (congrArg fI (jr_268.2.1 2 (Or.inl (by decide)) (by omega))).trans ((Eq.refl (fI (V 2))).trans ((hrl.2.2.2.2).trans ((Eq.refl (gb (fI (V 110)))).symm.trans (congrArg (fun z => gb (fI z)) (JR.same jr_268 (by decide) (by decide) (fun k => (nfc (by omega) (nfc (by omega) nf0))))).symm)))⟩
      refine aw_pop dL_law_493 rfl ?_
      refine aw_goto (tgt := 981) dL_law_494 (by decide) ?_
      refine aw_iinc (v := (nI (i + 6))) (ls' := [some (.ref b9), some (.ref (b + 0)), some (.ref (b + 100)), some (.int (nI (i + 6)))]) dL_law_981 rfl (nI_add i 6) (Nat.le_of_ble_eq_true rfl) rfl ?_
      refine aw_goto (tgt := 18) dL_law_984 (by decide) ?_
      refine mih (M + 6 - (i + 6)) (by omega) (i + 6) N cl V_264 _ _ rfl (by omega) ?_ ?_ (by omega) cw_265 cr_266 wf_267 rl_271 <;> omega
    · skip
      refine aw_tableIn (off := 464) (tgt := 497) dL_law_33 (by decide) (by decide) (by decide) (by decide) ?_
      refine aw_aload_n dL_law_497 rfl ?_
      refine aw_aload_n dL_law_498 rfl ?_
      refine aw_iload_n dL_law_499 rfl ?_
      refine aw_iconst (v := 1) dL_law_500 (by decide) ?_
      refine aw_iadd dL_law_501 ?_
      refine aw_eqi (y := nI (i + 1)) (nI_add _ _) ?_
      refine aw_sld dL_law_502 rfl (vp_in_nI (n := (i + 1)) (by omega) (by omega)) ?_
      refine aw_callVi (J' := jX11_couples) (As := [.int (xs ((nI (i + 1))).toNatClampNeg)]) (st := []) dL_law_503 tb_814 ok_X11_couples ⟨_, (CW.o0 hcw).choose_spec⟩ (by omega) rfl rfl (g_X11_couples l D b N V (by omega) hcw (xs ((nI (i + 1))).toNatClampNeg)) rfl (Nat.le_of_ble_eq_true rfl) ⟨Nat.le_of_ble_eq_true rfl, Nat.le_of_ble_eq_true rfl, (show _ ≤ 600000 from by omega), (show _ ≤ 7302250 from by omega)⟩ (fun r_288 N_289 V_277 q_290 => ?_)
      obtain ⟨rfl, j_278⟩ := q_290
      have cw_285 := j_278.1
      have cr_286 := CR.fr hcr (fun i h1 h2 => j_278.2.1 i h1 (by omega))
      have wf_287 := WF.fr hwf (fun i h1 h2 => j_278.2.1 i (by omega) (by omega))
      refine aw_pop dL_law_506 rfl ?_
      refine aw_aload_n dL_law_507 rfl ?_
      refine aw_aload_n dL_law_508 rfl ?_
      refine aw_iload_n dL_law_509 rfl ?_
      refine aw_iconst (v := 1) dL_law_510 (by decide) ?_
      refine aw_iadd dL_law_511 ?_
      refine aw_eqi (y := nI (i + 1)) (nI_add _ _) ?_
      refine aw_sld dL_law_512 rfl (vp_in_nI (n := (i + 1)) (by omega) (by omega)) ?_
      refine aw_callVi (J' := jX12_couples) (As := [.int (xs ((nI (i + 1))).toNatClampNeg)]) (st := []) dL_law_513 tb_1493 ok_X12_couples ⟨_, (CR.o100 cr_286).choose_spec⟩ (by omega) rfl rfl (r_couples l D b N V_277 (by omega) cl cr_286 (xs ((nI (i + 1))).toNatClampNeg)) rfl (Nat.le_of_ble_eq_true rfl) ⟨Nat.le_of_ble_eq_true rfl, Nat.le_of_ble_eq_true rfl, (show _ ≤ 600000 from by omega), (show _ ≤ 7302250 from by omega)⟩ (fun r_301 N_302 V_291 q_303 => ?_)
      obtain ⟨rfl, jr_295⟩ := q_303
      have cr_293 := jr_295.1
      have cw_292 := CW.out cw_285 (fun i hi => jr_295.2.1 i (Or.inl hi) (by omega))
      have wf_294 := WF.fr wf_287 jr_295.2.2.1
      have rl_298 : RLs V_291 := ⟨(congrArg (fun z => fI z 4) (jr_295.2.1 0 (Or.inl (by decide)) (by omega))).trans ((JW.fI j_278 (by decide) (by decide) : fI (V_277 0) 4 = fI (V 0) 4).trans ((hrl.1).trans ((congrArg (fun z => fI z 51) (j_278.2.1 100 (by decide) (by omega))).symm.trans ((JR.fI jr_295 (by decide) (by decide) (by decide)) : fI (V_291 100) 51 = fI (V_277 100) 51).symm))), (congrArg (fun z => fI z 7) (jr_295.2.1 3 (Or.inl (by decide)) (by omega))).trans ((JW.fI j_278 (by decide) (by decide) : fI (V_277 3) 7 = fI (V 3) 7).trans ((hrl.2.1).trans ((congrArg (fun z => fI z 208) (j_278.2.1 101 (by decide) (by omega))).symm.trans ((JR.fI jr_295 (by decide) (by decide) (by decide)) : fI (V_291 101) 208 = fI (V_277 101) 208).symm))), (congrArg (fun z => fI z 7) (jr_295.2.1 39 (Or.inl (by decide)) (by omega))).trans ((JW.fI j_278 (by decide) (by decide) : fI (V_277 39) 7 = fI (V 39) 7).trans ((hrl.2.2.1).trans ((congrArg (fun z => fI z 208) (j_278.2.1 103 (by decide) (by omega))).symm.trans ((JR.fI jr_295 (by decide) (by decide) (by decide)) : fI (V_291 103) 208 = fI (V_277 103) 208).symm))), (congrArg (fun z => fI z 1) (jr_295.2.1 1 (Or.inl (by decide)) (by omega))).trans ((JW.fI j_278 (by decide) (by decide) : fI (V_277 1) 1 = fI (V 1) 1).trans ((hrl.2.2.2.1).trans ((congrArg (fun z => fI z 13) (j_278.2.1 100 (by decide) (by omega))).symm.trans ((JR.fI jr_295 (by decide) (by decide) (by decide)) : fI (V_291 100) 13 = fI (V_277 100) 13).symm))), (congrArg fI (jr_295.2.1 2 (Or.inl (by decide)) (by omega))).trans ((congrArg fI (JW.same j_278 (by decide) (fun k => (nfc (by omega) nf0)))).trans ((hrl.2.2.2.2).trans ((congrArg (fun z => gb (fI z)) (j_278.2.1 110 (by decide) (by omega))).symm.trans (congrArg (fun z => gb (fI z)) (JR.same jr_295 (by decide) (by decide) (fun k => (nfc (by omega) nf0)))).symm)))⟩
      refine aw_pop dL_law_516 rfl ?_
      refine aw_goto (tgt := 981) dL_law_517 (by decide) ?_
      refine aw_iinc (v := (nI (i + 6))) (ls' := [some (.ref b9), some (.ref (b + 0)), some (.ref (b + 100)), some (.int (nI (i + 6)))]) dL_law_981 rfl (nI_add i 6) (Nat.le_of_ble_eq_true rfl) rfl ?_
      refine aw_goto (tgt := 18) dL_law_984 (by decide) ?_
      refine mih (M + 6 - (i + 6)) (by omega) (i + 6) N cl V_291 _ _ rfl (by omega) ?_ ?_ (by omega) cw_292 cr_293 wf_294 rl_298 <;> omega
    · skip
      refine aw_tableIn (off := 487) (tgt := 520) dL_law_33 (by decide) (by decide) (by decide) (by decide) ?_
      refine aw_aload_n dL_law_520 rfl ?_
      refine aw_aload_n dL_law_521 rfl ?_
      refine aw_iload_n dL_law_522 rfl ?_
      refine aw_iconst (v := 1) dL_law_523 (by decide) ?_
      refine aw_iadd dL_law_524 ?_
      refine aw_eqi (y := nI (i + 1)) (nI_add _ _) ?_
      refine aw_sld dL_law_525 rfl (vp_in_nI (n := (i + 1)) (by omega) (by omega)) ?_
      refine aw_aload_n dL_law_526 rfl ?_
      refine aw_iload_n dL_law_527 rfl ?_
      refine aw_iconst (v := 2) dL_law_528 (by decide) ?_
      refine aw_iadd dL_law_529 ?_
      refine aw_eqi (y := nI (i + 2)) (nI_add _ _) ?_
      refine aw_sld dL_law_530 rfl (vp_in_nI (n := (i + 2)) (by omega) (by omega)) ?_
      refine aw_aload_n dL_law_531 rfl ?_
      refine aw_iload_n dL_law_532 rfl ?_
      refine aw_iconst (v := 3) dL_law_533 (by decide) ?_
      refine aw_iadd dL_law_534 ?_
      refine aw_eqi (y := nI (i + 3)) (nI_add _ _) ?_
      refine aw_sld dL_law_535 rfl (vp_in_nI (n := (i + 3)) (by omega) (by omega)) ?_
      refine aw_callVi (J' := jX11_fashion) (As := [.int (xs ((nI (i + 1))).toNatClampNeg), .int (xs ((nI (i + 2))).toNatClampNeg), .int (xs ((nI (i + 3))).toNatClampNeg)]) (st := []) dL_law_536 tb_836 ok_X11_fashion ⟨_, (CW.o0 hcw).choose_spec⟩ (by omega) rfl rfl (g_X11_fashion l D b N V (by omega) hcw (xs ((nI (i + 1))).toNatClampNeg) (xs ((nI (i + 2))).toNatClampNeg) (xs ((nI (i + 3))).toNatClampNeg)) rfl (Nat.le_of_ble_eq_true rfl) ⟨Nat.le_of_ble_eq_true rfl, Nat.le_of_ble_eq_true rfl, (show _ ≤ 600000 from by omega), (show _ ≤ 7302250 from by omega)⟩ (fun r_305 N_306 V_307 q_308 => ?_)
      obtain ⟨rfl, rfl⟩ := q_308
      refine aw_pop dL_law_539 rfl ?_
      refine aw_aload_n dL_law_540 rfl ?_
      refine aw_aload_n dL_law_541 rfl ?_
      refine aw_iload_n dL_law_542 rfl ?_
      refine aw_iconst (v := 1) dL_law_543 (by decide) ?_
      refine aw_iadd dL_law_544 ?_
      refine aw_eqi (y := nI (i + 1)) (nI_add _ _) ?_
      refine aw_sld dL_law_545 rfl (vp_in_nI (n := (i + 1)) (by omega) (by omega)) ?_
      refine aw_aload_n dL_law_546 rfl ?_
      refine aw_iload_n dL_law_547 rfl ?_
      refine aw_iconst (v := 2) dL_law_548 (by decide) ?_
      refine aw_iadd dL_law_549 ?_
      refine aw_eqi (y := nI (i + 2)) (nI_add _ _) ?_
      refine aw_sld dL_law_550 rfl (vp_in_nI (n := (i + 2)) (by omega) (by omega)) ?_
      refine aw_aload_n dL_law_551 rfl ?_
      refine aw_iload_n dL_law_552 rfl ?_
      refine aw_iconst (v := 3) dL_law_553 (by decide) ?_
      refine aw_iadd dL_law_554 ?_
      refine aw_eqi (y := nI (i + 3)) (nI_add _ _) ?_
      refine aw_sld dL_law_555 rfl (vp_in_nI (n := (i + 3)) (by omega) (by omega)) ?_
      refine aw_callVi (J' := jX12_fashion) (As := [.int (xs ((nI (i + 1))).toNatClampNeg), .int (xs ((nI (i + 2))).toNatClampNeg), .int (xs ((nI (i + 3))).toNatClampNeg)]) (st := []) dL_law_556 tb_1504 ok_X12_fashion ⟨_, (CR.o100 hcr).choose_spec⟩ (by omega) rfl rfl (r_fashion l D b N V (by omega) cl hcr (xs ((nI (i + 1))).toNatClampNeg) (xs ((nI (i + 2))).toNatClampNeg) (xs ((nI (i + 3))).toNatClampNeg)) rfl (Nat.le_of_ble_eq_true rfl) ⟨Nat.le_of_ble_eq_true rfl, Nat.le_of_ble_eq_true rfl, (show _ ≤ 600000 from by omega), (show _ ≤ 7302250 from by omega)⟩ (fun r_319 N_320 V_321 q_322 => ?_)
      obtain ⟨rfl, rfl⟩ := q_322
      refine aw_pop dL_law_559 rfl ?_
      refine aw_goto (tgt := 981) dL_law_560 (by decide) ?_
      refine aw_iinc (v := (nI (i + 6))) (ls' := [some (.ref b9), some (.ref (b + 0)), some (.ref (b + 100)), some (.int (nI (i + 6)))]) dL_law_981 rfl (nI_add i 6) (Nat.le_of_ble_eq_true rfl) rfl ?_
      refine aw_goto (tgt := 18) dL_law_984 (by decide) ?_
      refine mih (M + 6 - (i + 6)) (by omega) (i + 6) N cl V _ _ rfl (by omega) ?_ ?_ (by omega) hcw hcr hwf hrl <;> omega
    · skip
      refine aw_tableIn (off := 530) (tgt := 563) dL_law_33 (by decide) (by decide) (by decide) (by decide) ?_
      refine aw_aload_n dL_law_563 rfl ?_
      refine aw_aload_n dL_law_564 rfl ?_
      refine aw_iload_n dL_law_565 rfl ?_
      refine aw_iconst (v := 1) dL_law_566 (by decide) ?_
      refine aw_iadd dL_law_567 ?_
      refine aw_eqi (y := nI (i + 1)) (nI_add _ _) ?_
      refine aw_sld dL_law_568 rfl (vp_in_nI (n := (i + 1)) (by omega) (by omega)) ?_
      refine aw_callVi (J' := jX11_fears) (As := [.int (xs ((nI (i + 1))).toNatClampNeg)]) (st := []) dL_law_569 tb_849 ok_X11_fears ⟨_, (CW.o0 hcw).choose_spec⟩ (by omega) rfl rfl (g_X11_fears l D b N V (by omega) hcw (xs ((nI (i + 1))).toNatClampNeg)) rfl (Nat.le_of_ble_eq_true rfl) ⟨Nat.le_of_ble_eq_true rfl, Nat.le_of_ble_eq_true rfl, (show _ ≤ 600000 from by omega), (show _ ≤ 7302250 from by omega)⟩ (fun r_324 N_325 V_326 q_327 => ?_)
      obtain ⟨rfl, rfl⟩ := q_327
      refine aw_pop dL_law_572 rfl ?_
      refine aw_aload_n dL_law_573 rfl ?_
      refine aw_aload_n dL_law_574 rfl ?_
      refine aw_iload_n dL_law_575 rfl ?_
      refine aw_iconst (v := 1) dL_law_576 (by decide) ?_
      refine aw_iadd dL_law_577 ?_
      refine aw_eqi (y := nI (i + 1)) (nI_add _ _) ?_
      refine aw_sld dL_law_578 rfl (vp_in_nI (n := (i + 1)) (by omega) (by omega)) ?_
      refine aw_callVi (J' := jX12_fears) (As := [.int (xs ((nI (i + 1))).toNatClampNeg)]) (st := []) dL_law_579 tb_1512 ok_X12_fears ⟨_, (CR.o100 hcr).choose_spec⟩ (by omega) rfl rfl (r_fears l D b N V (by omega) cl hcr (xs ((nI (i + 1))).toNatClampNeg)) rfl (Nat.le_of_ble_eq_true rfl) ⟨Nat.le_of_ble_eq_true rfl, Nat.le_of_ble_eq_true rfl, (show _ ≤ 600000 from by omega), (show _ ≤ 7302250 from by omega)⟩ (fun r_338 N_339 V_340 q_341 => ?_)
      obtain ⟨rfl, rfl⟩ := q_341
      refine aw_pop dL_law_582 rfl ?_
      refine aw_goto (tgt := 981) dL_law_583 (by decide) ?_
      refine aw_iinc (v := (nI (i + 6))) (ls' := [some (.ref b9), some (.ref (b + 0)), some (.ref (b + 100)), some (.int (nI (i + 6)))]) dL_law_981 rfl (nI_add i 6) (Nat.le_of_ble_eq_true rfl) rfl ?_
      refine aw_goto (tgt := 18) dL_law_984 (by decide) ?_
      refine mih (M + 6 - (i + 6)) (by omega) (i + 6) N cl V _ _ rfl (by omega) ?_ ?_ (by omega) hcw hcr hwf hrl <;> omega
    · skip
      refine aw_tableIn (off := 553) (tgt := 586) dL_law_33 (by decide) (by decide) (by decide) (by decide) ?_
      refine aw_aload_n dL_law_586 rfl ?_
      refine aw_aload_n dL_law_587 rfl ?_
      refine aw_iload_n dL_law_588 rfl ?_
      refine aw_iconst (v := 1) dL_law_589 (by decide) ?_
      refine aw_iadd dL_law_590 ?_
      refine aw_eqi (y := nI (i + 1)) (nI_add _ _) ?_
      refine aw_sld dL_law_591 rfl (vp_in_nI (n := (i + 1)) (by omega) (by omega)) ?_
      refine aw_aload_n dL_law_592 rfl ?_
      refine aw_iload_n dL_law_593 rfl ?_
      refine aw_iconst (v := 2) dL_law_594 (by decide) ?_
      refine aw_iadd dL_law_595 ?_
      refine aw_eqi (y := nI (i + 2)) (nI_add _ _) ?_
      refine aw_sld dL_law_596 rfl (vp_in_nI (n := (i + 2)) (by omega) (by omega)) ?_
      refine aw_callVi (J' := jX11_unlike) (As := [.int (xs ((nI (i + 1))).toNatClampNeg), .int (xs ((nI (i + 2))).toNatClampNeg)]) (st := []) dL_law_597 tb_863 ok_X11_unlike ⟨_, (CW.o0 hcw).choose_spec⟩ (by omega) rfl rfl (g_X11_unlike l D b N V (by omega) hcw (xs ((nI (i + 1))).toNatClampNeg) (xs ((nI (i + 2))).toNatClampNeg)) rfl (Nat.le_of_ble_eq_true rfl) ⟨Nat.le_of_ble_eq_true rfl, Nat.le_of_ble_eq_true rfl, (show _ ≤ 600000 from by omega), (show _ ≤ 7302250 from by omega)⟩ (fun r_343 N_344 V_345 q_346 => ?_)
      obtain ⟨rfl, rfl⟩ := q_346
      refine aw_pop dL_law_600 rfl ?_
      refine aw_aload_n dL_law_601 rfl ?_
      refine aw_aload_n dL_law_602 rfl ?_
      refine aw_iload_n dL_law_603 rfl ?_
      refine aw_iconst (v := 1) dL_law_604 (by decide) ?_
      refine aw_iadd dL_law_605 ?_
      refine aw_eqi (y := nI (i + 1)) (nI_add _ _) ?_
      refine aw_sld dL_law_606 rfl (vp_in_nI (n := (i + 1)) (by omega) (by omega)) ?_
      refine aw_aload_n dL_law_607 rfl ?_
      refine aw_iload_n dL_law_608 rfl ?_
      refine aw_iconst (v := 2) dL_law_609 (by decide) ?_
      refine aw_iadd dL_law_610 ?_
      refine aw_eqi (y := nI (i + 2)) (nI_add _ _) ?_
      refine aw_sld dL_law_611 rfl (vp_in_nI (n := (i + 2)) (by omega) (by omega)) ?_
      refine aw_callVi (J' := jX12_unlike) (As := [.int (xs ((nI (i + 1))).toNatClampNeg), .int (xs ((nI (i + 2))).toNatClampNeg)]) (st := []) dL_law_612 tb_1516 ok_X12_unlike ⟨_, (CR.o100 hcr).choose_spec⟩ (by omega) rfl rfl (r_unlike l D b N V (by omega) cl hcr (xs ((nI (i + 1))).toNatClampNeg) (xs ((nI (i + 2))).toNatClampNeg)) rfl (Nat.le_of_ble_eq_true rfl) ⟨Nat.le_of_ble_eq_true rfl, Nat.le_of_ble_eq_true rfl, (show _ ≤ 600000 from by omega), (show _ ≤ 7302250 from by omega)⟩ (fun r_357 N_358 V_359 q_360 => ?_)
      obtain ⟨rfl, rfl⟩ := q_360
      refine aw_pop dL_law_615 rfl ?_
      refine aw_goto (tgt := 981) dL_law_616 (by decide) ?_
      refine aw_iinc (v := (nI (i + 6))) (ls' := [some (.ref b9), some (.ref (b + 0)), some (.ref (b + 100)), some (.int (nI (i + 6)))]) dL_law_981 rfl (nI_add i 6) (Nat.le_of_ble_eq_true rfl) rfl ?_
      refine aw_goto (tgt := 18) dL_law_984 (by decide) ?_
      refine mih (M + 6 - (i + 6)) (by omega) (i + 6) N cl V _ _ rfl (by omega) ?_ ?_ (by omega) hcw hcr hwf hrl <;> omega
    · skip
      refine aw_tableIn (off := 586) (tgt := 619) dL_law_33 (by decide) (by decide) (by decide) (by decide) ?_
      refine aw_aload_n dL_law_619 rfl ?_
      refine aw_aload_n dL_law_620 rfl ?_
      refine aw_iload_n dL_law_621 rfl ?_
      refine aw_iconst (v := 1) dL_law_622 (by decide) ?_
      refine aw_iadd dL_law_623 ?_
      refine aw_eqi (y := nI (i + 1)) (nI_add _ _) ?_
      refine aw_sld dL_law_624 rfl (vp_in_nI (n := (i + 1)) (by omega) (by omega)) ?_
      refine aw_callVi (J' := jX11_mostLike) (As := [.int (xs ((nI (i + 1))).toNatClampNeg)]) (st := []) dL_law_625 tb_872 ok_X11_mostLike ⟨_, (CW.o0 hcw).choose_spec⟩ (by omega) rfl rfl (g_X11_mostLike l D b N V (by omega) hcw (xs ((nI (i + 1))).toNatClampNeg)) rfl (Nat.le_of_ble_eq_true rfl) ⟨Nat.le_of_ble_eq_true rfl, Nat.le_of_ble_eq_true rfl, (show _ ≤ 600000 from by omega), (show _ ≤ 7302250 from by omega)⟩ (fun r_362 N_363 V_364 q_365 => ?_)
      obtain ⟨rfl, rfl⟩ := q_365
      refine aw_pop dL_law_628 rfl ?_
      refine aw_aload_n dL_law_629 rfl ?_
      refine aw_aload_n dL_law_630 rfl ?_
      refine aw_iload_n dL_law_631 rfl ?_
      refine aw_iconst (v := 1) dL_law_632 (by decide) ?_
      refine aw_iadd dL_law_633 ?_
      refine aw_eqi (y := nI (i + 1)) (nI_add _ _) ?_
      refine aw_sld dL_law_634 rfl (vp_in_nI (n := (i + 1)) (by omega) (by omega)) ?_
      refine aw_callVi (J' := jX12_mostLike) (As := [.int (xs ((nI (i + 1))).toNatClampNeg)]) (st := []) dL_law_635 tb_1524 ok_X12_mostLike ⟨_, (CR.o100 hcr).choose_spec⟩ (by omega) rfl rfl (r_mostLike l D b N V (by omega) cl hcr (xs ((nI (i + 1))).toNatClampNeg)) rfl (Nat.le_of_ble_eq_true rfl) ⟨Nat.le_of_ble_eq_true rfl, Nat.le_of_ble_eq_true rfl, (show _ ≤ 600000 from by omega), (show _ ≤ 7302250 from by omega)⟩ (fun r_376 N_377 V_378 q_379 => ?_)
      obtain ⟨rfl, rfl⟩ := q_379
      refine aw_pop dL_law_638 rfl ?_
      refine aw_goto (tgt := 981) dL_law_639 (by decide) ?_
      refine aw_iinc (v := (nI (i + 6))) (ls' := [some (.ref b9), some (.ref (b + 0)), some (.ref (b + 100)), some (.int (nI (i + 6)))]) dL_law_981 rfl (nI_add i 6) (Nat.le_of_ble_eq_true rfl) rfl ?_
      refine aw_goto (tgt := 18) dL_law_984 (by decide) ?_
      refine mih (M + 6 - (i + 6)) (by omega) (i + 6) N cl V _ _ rfl (by omega) ?_ ?_ (by omega) hcw hcr hwf hrl <;> omega
    · skip
      refine aw_tableIn (off := 609) (tgt := 642) dL_law_33 (by decide) (by decide) (by decide) (by decide) ?_
      refine aw_aload_n dL_law_642 rfl ?_
      refine aw_aload_n dL_law_643 rfl ?_
      refine aw_iload_n dL_law_644 rfl ?_
      refine aw_iconst (v := 1) dL_law_645 (by decide) ?_
      refine aw_iadd dL_law_646 ?_
      refine aw_eqi (y := nI (i + 1)) (nI_add _ _) ?_
      refine aw_sld dL_law_647 rfl (vp_in_nI (n := (i + 1)) (by omega) (by omega)) ?_
      refine aw_aload_n dL_law_648 rfl ?_
      refine aw_iload_n dL_law_649 rfl ?_
      refine aw_iconst (v := 2) dL_law_650 (by decide) ?_
      refine aw_iadd dL_law_651 ?_
      refine aw_eqi (y := nI (i + 2)) (nI_add _ _) ?_
      refine aw_sld dL_law_652 rfl (vp_in_nI (n := (i + 2)) (by omega) (by omega)) ?_
      refine aw_callVi (J' := jX11_circles) (As := [.int (xs ((nI (i + 1))).toNatClampNeg), .int (xs ((nI (i + 2))).toNatClampNeg)]) (st := []) dL_law_653 tb_881 ok_X11_circles ⟨_, (CW.o0 hcw).choose_spec⟩ (by omega) rfl rfl (g_X11_circles l D b N V (by omega) hcw (xs ((nI (i + 1))).toNatClampNeg) (xs ((nI (i + 2))).toNatClampNeg)) rfl (Nat.le_of_ble_eq_true rfl) ⟨Nat.le_of_ble_eq_true rfl, Nat.le_of_ble_eq_true rfl, (show _ ≤ 600000 from by omega), (show _ ≤ 7302250 from by omega)⟩ (fun r_391 N_392 V_380 q_393 => ?_)
      obtain ⟨rfl, j_381⟩ := q_393
      have cw_388 := j_381.1
      have cr_389 := CR.fr hcr (fun i h1 h2 => j_381.2.1 i h1 (by omega))
      have wf_390 := WF.fr hwf (fun i h1 h2 => j_381.2.1 i (by omega) (by omega))
      refine aw_pop dL_law_656 rfl ?_
      refine aw_aload_n dL_law_657 rfl ?_
      refine aw_aload_n dL_law_658 rfl ?_
      refine aw_iload_n dL_law_659 rfl ?_
      refine aw_iconst (v := 1) dL_law_660 (by decide) ?_
      refine aw_iadd dL_law_661 ?_
      refine aw_eqi (y := nI (i + 1)) (nI_add _ _) ?_
      refine aw_sld dL_law_662 rfl (vp_in_nI (n := (i + 1)) (by omega) (by omega)) ?_
      refine aw_aload_n dL_law_663 rfl ?_
      refine aw_iload_n dL_law_664 rfl ?_
      refine aw_iconst (v := 2) dL_law_665 (by decide) ?_
      refine aw_iadd dL_law_666 ?_
      refine aw_eqi (y := nI (i + 2)) (nI_add _ _) ?_
      refine aw_sld dL_law_667 rfl (vp_in_nI (n := (i + 2)) (by omega) (by omega)) ?_
      refine aw_callVi (J' := jX12_circles) (As := [.int (xs ((nI (i + 1))).toNatClampNeg), .int (xs ((nI (i + 2))).toNatClampNeg)]) (st := []) dL_law_668 tb_1528 ok_X12_circles ⟨_, (CR.o100 cr_389).choose_spec⟩ (by omega) rfl rfl (r_circles l D b N V_380 (by omega) cl cr_389 (xs ((nI (i + 1))).toNatClampNeg) (xs ((nI (i + 2))).toNatClampNeg)) rfl (Nat.le_of_ble_eq_true rfl) ⟨Nat.le_of_ble_eq_true rfl, Nat.le_of_ble_eq_true rfl, (show _ ≤ 600000 from by omega), (show _ ≤ 7302250 from by omega)⟩ (fun r_404 N_405 V_406 q_407 => ?_)
      obtain ⟨rfl, rfl⟩ := q_407
      have rl_401 : RLs V_380 := ⟨(Eq.refl (fI (V_380 0) 4)).trans ((JW.fI j_381 (by decide) (by decide) : fI (V_380 0) 4 = fI (V 0) 4).trans ((hrl.1).trans ((congrArg (fun z => fI z 51) (j_381.2.1 100 (by decide) (by omega))).symm.trans (Eq.refl (fI (V_380 100) 51)).symm))), (Eq.refl (fI (V_380 3) 7)).trans ((JW.fI j_381 (by decide) (by decide) : fI (V_380 3) 7 = fI (V 3) 7).trans ((hrl.2.1).trans ((congrArg (fun z => fI z 208) (j_381.2.1 101 (by decide) (by omega))).symm.trans (Eq.refl (fI (V_380 101) 208)).symm))), (Eq.refl (fI (V_380 39) 7)).trans ((JW.fI j_381 (by decide) (by decide) : fI (V_380 39) 7 = fI (V 39) 7).trans ((hrl.2.2.1).trans ((congrArg (fun z => fI z 208) (j_381.2.1 103 (by decide) (by omega))).symm.trans (Eq.refl (fI (V_380 103) 208)).symm))), (Eq.refl (fI (V_380 1) 1)).trans ((JW.fI j_381 (by decide) (by decide) : fI (V_380 1) 1 = fI (V 1) 1).trans ((hrl.2.2.2.1).trans ((congrArg (fun z => fI z 13) (j_381.2.1 100 (by decide) (by omega))).symm.trans (Eq.refl (fI (V_380 100) 13)).symm))), (Eq.refl (fI (V_380 2))).trans ((congrArg fI (JW.same j_381 (by decide) (fun k => (nfc (by omega) nf0)))).trans ((hrl.2.2.2.2).trans ((congrArg (fun z => gb (fI z)) (j_381.2.1 110 (by decide) (by omega))).symm.trans (Eq.refl (gb (fI (V_380 110)))).symm)))⟩
      refine aw_pop dL_law_671 rfl ?_
      refine aw_goto (tgt := 981) dL_law_672 (by decide) ?_
      refine aw_iinc (v := (nI (i + 6))) (ls' := [some (.ref b9), some (.ref (b + 0)), some (.ref (b + 100)), some (.int (nI (i + 6)))]) dL_law_981 rfl (nI_add i 6) (Nat.le_of_ble_eq_true rfl) rfl ?_
      refine aw_goto (tgt := 18) dL_law_984 (by decide) ?_
      refine mih (M + 6 - (i + 6)) (by omega) (i + 6) N cl V_380 _ _ rfl (by omega) ?_ ?_ (by omega) cw_388 cr_389 wf_390 rl_401 <;> omega
    · skip
      refine aw_tableIn (off := 642) (tgt := 675) dL_law_33 (by decide) (by decide) (by decide) (by decide) ?_
      refine aw_aload_n dL_law_675 rfl ?_
      refine aw_callVi (J' := jX11_keystones) (As := []) (st := []) dL_law_676 tb_904 ok_X11_keystones ⟨_, (CW.o0 hcw).choose_spec⟩ (by omega) rfl rfl (g_X11_keystones l D b N V (by omega) hcw) rfl (Nat.le_of_ble_eq_true rfl) ⟨Nat.le_of_ble_eq_true rfl, Nat.le_of_ble_eq_true rfl, (show _ ≤ 600000 from by omega), (show _ ≤ 7302250 from by omega)⟩ (fun r_409 N_410 V_411 q_412 => ?_)
      obtain ⟨rfl, rfl⟩ := q_412
      refine aw_pop dL_law_679 rfl ?_
      refine aw_aload_n dL_law_680 rfl ?_
      refine aw_callVi (J' := jX12_keystones) (As := []) (st := []) dL_law_681 tb_1536 ok_X12_keystones ⟨_, (CR.o100 hcr).choose_spec⟩ (by omega) rfl rfl (r_keystones l D b N V (by omega) cl hcr) rfl (Nat.le_of_ble_eq_true rfl) ⟨Nat.le_of_ble_eq_true rfl, Nat.le_of_ble_eq_true rfl, (show _ ≤ 600000 from by omega), (show _ ≤ 7302250 from by omega)⟩ (fun r_423 N_424 V_425 q_426 => ?_)
      obtain ⟨rfl, rfl⟩ := q_426
      refine aw_pop dL_law_684 rfl ?_
      refine aw_goto (tgt := 981) dL_law_685 (by decide) ?_
      refine aw_iinc (v := (nI (i + 6))) (ls' := [some (.ref b9), some (.ref (b + 0)), some (.ref (b + 100)), some (.int (nI (i + 6)))]) dL_law_981 rfl (nI_add i 6) (Nat.le_of_ble_eq_true rfl) rfl ?_
      refine aw_goto (tgt := 18) dL_law_984 (by decide) ?_
      refine mih (M + 6 - (i + 6)) (by omega) (i + 6) N cl V _ _ rfl (by omega) ?_ ?_ (by omega) hcw hcr hwf hrl <;> omega
    · skip
      refine aw_tableIn (off := 655) (tgt := 688) dL_law_33 (by decide) (by decide) (by decide) (by decide) ?_
      refine aw_aload_n dL_law_688 rfl ?_
      refine aw_aload_n dL_law_689 rfl ?_
      refine aw_iload_n dL_law_690 rfl ?_
      refine aw_iconst (v := 1) dL_law_691 (by decide) ?_
      refine aw_iadd dL_law_692 ?_
      refine aw_eqi (y := nI (i + 1)) (nI_add _ _) ?_
      refine aw_sld dL_law_693 rfl (vp_in_nI (n := (i + 1)) (by omega) (by omega)) ?_
      refine aw_aload_n dL_law_694 rfl ?_
      refine aw_iload_n dL_law_695 rfl ?_
      refine aw_iconst (v := 2) dL_law_696 (by decide) ?_
      refine aw_iadd dL_law_697 ?_
      refine aw_eqi (y := nI (i + 2)) (nI_add _ _) ?_
      refine aw_sld dL_law_698 rfl (vp_in_nI (n := (i + 2)) (by omega) (by omega)) ?_
      refine aw_callVi (J' := jX11_steps) (As := [.int (xs ((nI (i + 1))).toNatClampNeg), .int (xs ((nI (i + 2))).toNatClampNeg)]) (st := []) dL_law_699 tb_911 ok_X11_steps ⟨_, (CW.o0 hcw).choose_spec⟩ (by omega) rfl rfl (g_X11_steps l D b N V (by omega) hcw (xs ((nI (i + 1))).toNatClampNeg) (xs ((nI (i + 2))).toNatClampNeg)) rfl (Nat.le_of_ble_eq_true rfl) ⟨Nat.le_of_ble_eq_true rfl, Nat.le_of_ble_eq_true rfl, (show _ ≤ 600000 from by omega), (show _ ≤ 7302250 from by omega)⟩ (fun r_428 N_429 V_430 q_431 => ?_)
      obtain ⟨rfl, rfl⟩ := q_431
      refine aw_pop dL_law_702 rfl ?_
      refine aw_aload_n dL_law_703 rfl ?_
      refine aw_aload_n dL_law_704 rfl ?_
      refine aw_iload_n dL_law_705 rfl ?_
      refine aw_iconst (v := 1) dL_law_706 (by decide) ?_
      refine aw_iadd dL_law_707 ?_
      refine aw_eqi (y := nI (i + 1)) (nI_add _ _) ?_
      refine aw_sld dL_law_708 rfl (vp_in_nI (n := (i + 1)) (by omega) (by omega)) ?_
      refine aw_aload_n dL_law_709 rfl ?_
      refine aw_iload_n dL_law_710 rfl ?_
      refine aw_iconst (v := 2) dL_law_711 (by decide) ?_
      refine aw_iadd dL_law_712 ?_
      refine aw_eqi (y := nI (i + 2)) (nI_add _ _) ?_
      refine aw_sld dL_law_713 rfl (vp_in_nI (n := (i + 2)) (by omega) (by omega)) ?_
      refine aw_callVi (J' := jX12_steps) (As := [.int (xs ((nI (i + 1))).toNatClampNeg), .int (xs ((nI (i + 2))).toNatClampNeg)]) (st := []) dL_law_714 tb_1548 ok_X12_steps ⟨_, (CR.o100 hcr).choose_spec⟩ (by omega) rfl rfl (r_steps l D b N V (by omega) cl hcr (xs ((nI (i + 1))).toNatClampNeg) (xs ((nI (i + 2))).toNatClampNeg)) rfl (Nat.le_of_ble_eq_true rfl) ⟨Nat.le_of_ble_eq_true rfl, Nat.le_of_ble_eq_true rfl, (show _ ≤ 600000 from by omega), (show _ ≤ 7302250 from by omega)⟩ (fun r_442 N_443 V_444 q_445 => ?_)
      obtain ⟨rfl, rfl⟩ := q_445
      refine aw_pop dL_law_717 rfl ?_
      refine aw_goto (tgt := 981) dL_law_718 (by decide) ?_
      refine aw_iinc (v := (nI (i + 6))) (ls' := [some (.ref b9), some (.ref (b + 0)), some (.ref (b + 100)), some (.int (nI (i + 6)))]) dL_law_981 rfl (nI_add i 6) (Nat.le_of_ble_eq_true rfl) rfl ?_
      refine aw_goto (tgt := 18) dL_law_984 (by decide) ?_
      refine mih (M + 6 - (i + 6)) (by omega) (i + 6) N cl V _ _ rfl (by omega) ?_ ?_ (by omega) hcw hcr hwf hrl <;> omega
    · skip
      refine aw_tableIn (off := 688) (tgt := 721) dL_law_33 (by decide) (by decide) (by decide) (by decide) ?_
      refine aw_aload_n dL_law_721 rfl ?_
      refine aw_aload_n dL_law_722 rfl ?_
      refine aw_iload_n dL_law_723 rfl ?_
      refine aw_iconst (v := 1) dL_law_724 (by decide) ?_
      refine aw_iadd dL_law_725 ?_
      refine aw_eqi (y := nI (i + 1)) (nI_add _ _) ?_
      refine aw_sld dL_law_726 rfl (vp_in_nI (n := (i + 1)) (by omega) (by omega)) ?_
      refine aw_aload_n dL_law_727 rfl ?_
      refine aw_iload_n dL_law_728 rfl ?_
      refine aw_iconst (v := 2) dL_law_729 (by decide) ?_
      refine aw_iadd dL_law_730 ?_
      refine aw_eqi (y := nI (i + 2)) (nI_add _ _) ?_
      refine aw_sld dL_law_731 rfl (vp_in_nI (n := (i + 2)) (by omega) (by omega)) ?_
      refine aw_callVi (J' := jX11_guess) (As := [.int (xs ((nI (i + 1))).toNatClampNeg), .int (xs ((nI (i + 2))).toNatClampNeg)]) (st := []) dL_law_732 tb_918 ok_X11_guess ⟨_, (CW.o0 hcw).choose_spec⟩ (by omega) rfl rfl (g_X11_guessK l D b N V (by omega) hcw (xs ((nI (i + 1))).toNatClampNeg) (xs ((nI (i + 2))).toNatClampNeg)) rfl (Nat.le_of_ble_eq_true rfl) ⟨Nat.le_of_ble_eq_true rfl, Nat.le_of_ble_eq_true rfl, (show _ ≤ 600000 from by omega), (show _ ≤ 7302250 from by omega)⟩ (fun r_457 N_458 V_446 q_459 => ?_)
      obtain ⟨hs_448, rfl, j_447⟩ := q_459
      have cw_454 := j_447.1
      have cr_455 := CR.fr hcr (fun i h1 h2 => j_447.2.1 i h1 (by omega))
      have wf_456 := WF.fr hwf (fun i h1 h2 => j_447.2.1 i (by omega) (by omega))
      refine aw_pop dL_law_735 rfl ?_
      refine aw_aload_n dL_law_736 rfl ?_
      refine aw_aload_n dL_law_737 rfl ?_
      refine aw_iload_n dL_law_738 rfl ?_
      refine aw_iconst (v := 1) dL_law_739 (by decide) ?_
      refine aw_iadd dL_law_740 ?_
      refine aw_eqi (y := nI (i + 1)) (nI_add _ _) ?_
      refine aw_sld dL_law_741 rfl (vp_in_nI (n := (i + 1)) (by omega) (by omega)) ?_
      refine aw_aload_n dL_law_742 rfl ?_
      refine aw_iload_n dL_law_743 rfl ?_
      refine aw_iconst (v := 2) dL_law_744 (by decide) ?_
      refine aw_iadd dL_law_745 ?_
      refine aw_eqi (y := nI (i + 2)) (nI_add _ _) ?_
      refine aw_sld dL_law_746 rfl (vp_in_nI (n := (i + 2)) (by omega) (by omega)) ?_
      refine aw_callVi (J' := jX12_guess) (As := [.int (xs ((nI (i + 1))).toNatClampNeg), .int (xs ((nI (i + 2))).toNatClampNeg)]) (st := []) dL_law_747 tb_1552 ok_X12_guess ⟨_, (CR.o100 cr_455).choose_spec⟩ (by omega) rfl rfl (r_guessK l D b N V_446 (by omega) cl cr_455 (xs ((nI (i + 1))).toNatClampNeg) (xs ((nI (i + 2))).toNatClampNeg) (xs ((nI (i + 1))).toNatClampNeg) (xs ((nI (i + 2))).toNatClampNeg) ⟨rfl, rfl⟩) rfl (Nat.le_of_ble_eq_true rfl) ⟨Nat.le_of_ble_eq_true rfl, Nat.le_of_ble_eq_true rfl, (show _ ≤ 600000 from by omega), (show _ ≤ 7302250 from by omega)⟩ (fun r_471 N_472 V_460 q_473 => ?_)
      obtain ⟨hs_465, rfl, jr_464⟩ := q_473
      have cr_462 := jr_464.1
      have cw_461 := CW.out cw_454 (fun i hi => jr_464.2.1 i (Or.inl hi) (by omega))
      have wf_463 := WF.fr wf_456 jr_464.2.2.1
      have e_470 : fI (V_446 100) 13 = fI (V 1) 1 := (congrArg (fun z => fI z 13) (j_447.2.1 100 (by decide) (by omega))).trans (hrl.2.2.2.1).symm
      rw [e_470] at hs_465
      have rl_467 : RLs V_460 := ⟨(congrArg (fun z => fI z 4) (jr_464.2.1 0 (Or.inl (by decide)) (by omega))).trans ((JW.fI j_447 (by decide) (by decide) : fI (V_446 0) 4 = fI (V 0) 4).trans ((hrl.1).trans ((congrArg (fun z => fI z 51) (j_447.2.1 100 (by decide) (by omega))).symm.trans ((JR.fI jr_464 (by decide) (by decide) (by decide)) : fI (V_460 100) 51 = fI (V_446 100) 51).symm))), (congrArg (fun z => fI z 7) (jr_464.2.1 3 (Or.inl (by decide)) (by omega))).trans ((JW.fI j_447 (by decide) (by decide) : fI (V_446 3) 7 = fI (V 3) 7).trans ((hrl.2.1).trans ((congrArg (fun z => fI z 208) (j_447.2.1 101 (by decide) (by omega))).symm.trans ((JR.fI jr_464 (by decide) (by decide) (by decide)) : fI (V_460 101) 208 = fI (V_446 101) 208).symm))), (congrArg (fun z => fI z 7) (jr_464.2.1 39 (Or.inl (by decide)) (by omega))).trans ((JW.fI j_447 (by decide) (by decide) : fI (V_446 39) 7 = fI (V 39) 7).trans ((hrl.2.2.1).trans ((congrArg (fun z => fI z 208) (j_447.2.1 103 (by decide) (by omega))).symm.trans ((JR.fI jr_464 (by decide) (by decide) (by decide)) : fI (V_460 103) 208 = fI (V_446 103) 208).symm))), (congrArg (fun z => fI z 1) (jr_464.2.1 1 (Or.inl (by decide)) (by omega))).trans (TKS.one hs_448 hs_465), (congrArg fI (jr_464.2.1 2 (Or.inl (by decide)) (by omega))).trans ((congrArg fI (JW.same j_447 (by decide) (fun k => (nfc (by omega) (nfc (by omega) (nfc (by omega) (nfc (by omega) nf0))))))).trans ((hrl.2.2.2.2).trans ((congrArg (fun z => gb (fI z)) (j_447.2.1 110 (by decide) (by omega))).symm.trans (congrArg (fun z => gb (fI z)) (JR.same jr_464 (by decide) (by decide) (fun k => (nfc (by omega) (nfc (by omega) (nfc (by omega) nf0)))))).symm)))⟩
      refine aw_pop dL_law_750 rfl ?_
      refine aw_goto (tgt := 981) dL_law_751 (by decide) ?_
      refine aw_iinc (v := (nI (i + 6))) (ls' := [some (.ref b9), some (.ref (b + 0)), some (.ref (b + 100)), some (.int (nI (i + 6)))]) dL_law_981 rfl (nI_add i 6) (Nat.le_of_ble_eq_true rfl) rfl ?_
      refine aw_goto (tgt := 18) dL_law_984 (by decide) ?_
      refine mih (M + 6 - (i + 6)) (by omega) (i + 6) N cl V_460 _ _ rfl (by omega) ?_ ?_ (by omega) cw_461 cr_462 wf_463 rl_467 <;> omega
    · skip
      refine aw_tableIn (off := 721) (tgt := 754) dL_law_33 (by decide) (by decide) (by decide) (by decide) ?_
      refine aw_aload_n dL_law_754 rfl ?_
      refine aw_aload_n dL_law_755 rfl ?_
      refine aw_iload_n dL_law_756 rfl ?_
      refine aw_iconst (v := 1) dL_law_757 (by decide) ?_
      refine aw_iadd dL_law_758 ?_
      refine aw_eqi (y := nI (i + 1)) (nI_add _ _) ?_
      refine aw_sld dL_law_759 rfl (vp_in_nI (n := (i + 1)) (by omega) (by omega)) ?_
      refine aw_aload_n dL_law_760 rfl ?_
      refine aw_iload_n dL_law_761 rfl ?_
      refine aw_iconst (v := 2) dL_law_762 (by decide) ?_
      refine aw_iadd dL_law_763 ?_
      refine aw_eqi (y := nI (i + 2)) (nI_add _ _) ?_
      refine aw_sld dL_law_764 rfl (vp_in_nI (n := (i + 2)) (by omega) (by omega)) ?_
      refine aw_callVi (J' := jX11_sentNext) (As := [.int (xs ((nI (i + 1))).toNatClampNeg), .int (xs ((nI (i + 2))).toNatClampNeg)]) (st := []) dL_law_765 tb_942 ok_X11_sentNext ⟨_, (CW.o0 hcw).choose_spec⟩ (by omega) rfl rfl (g_X11_sentNext l D b N V (by omega) hcw (xs ((nI (i + 1))).toNatClampNeg) (xs ((nI (i + 2))).toNatClampNeg)) rfl (Nat.le_of_ble_eq_true rfl) ⟨Nat.le_of_ble_eq_true rfl, Nat.le_of_ble_eq_true rfl, (show _ ≤ 600000 from by omega), (show _ ≤ 7302250 from by omega)⟩ (fun r_475 N_476 V_477 q_478 => ?_)
      obtain ⟨rfl, rfl⟩ := q_478
      refine aw_pop dL_law_768 rfl ?_
      refine aw_aload_n dL_law_769 rfl ?_
      refine aw_aload_n dL_law_770 rfl ?_
      refine aw_iload_n dL_law_771 rfl ?_
      refine aw_iconst (v := 1) dL_law_772 (by decide) ?_
      refine aw_iadd dL_law_773 ?_
      refine aw_eqi (y := nI (i + 1)) (nI_add _ _) ?_
      refine aw_sld dL_law_774 rfl (vp_in_nI (n := (i + 1)) (by omega) (by omega)) ?_
      refine aw_aload_n dL_law_775 rfl ?_
      refine aw_iload_n dL_law_776 rfl ?_
      refine aw_iconst (v := 2) dL_law_777 (by decide) ?_
      refine aw_iadd dL_law_778 ?_
      refine aw_eqi (y := nI (i + 2)) (nI_add _ _) ?_
      refine aw_sld dL_law_779 rfl (vp_in_nI (n := (i + 2)) (by omega) (by omega)) ?_
      refine aw_callVi (J' := jX12_sentNext) (As := [.int (xs ((nI (i + 1))).toNatClampNeg), .int (xs ((nI (i + 2))).toNatClampNeg)]) (st := []) dL_law_780 tb_1564 ok_X12_sentNext ⟨_, (CR.o100 hcr).choose_spec⟩ (by omega) rfl rfl (r_sentNext l D b N V (by omega) cl hcr (xs ((nI (i + 1))).toNatClampNeg) (xs ((nI (i + 2))).toNatClampNeg)) rfl (Nat.le_of_ble_eq_true rfl) ⟨Nat.le_of_ble_eq_true rfl, Nat.le_of_ble_eq_true rfl, (show _ ≤ 600000 from by omega), (show _ ≤ 7302250 from by omega)⟩ (fun r_489 N_490 V_491 q_492 => ?_)
      obtain ⟨rfl, rfl⟩ := q_492
      refine aw_pop dL_law_783 rfl ?_
      refine aw_goto (tgt := 981) dL_law_784 (by decide) ?_
      refine aw_iinc (v := (nI (i + 6))) (ls' := [some (.ref b9), some (.ref (b + 0)), some (.ref (b + 100)), some (.int (nI (i + 6)))]) dL_law_981 rfl (nI_add i 6) (Nat.le_of_ble_eq_true rfl) rfl ?_
      refine aw_goto (tgt := 18) dL_law_984 (by decide) ?_
      refine mih (M + 6 - (i + 6)) (by omega) (i + 6) N cl V _ _ rfl (by omega) ?_ ?_ (by omega) hcw hcr hwf hrl <;> omega
    · skip
      refine aw_tableIn (off := 754) (tgt := 787) dL_law_33 (by decide) (by decide) (by decide) (by decide) ?_
      refine aw_aload_n dL_law_787 rfl ?_
      refine aw_aload_n dL_law_788 rfl ?_
      refine aw_iload_n dL_law_789 rfl ?_
      refine aw_iconst (v := 1) dL_law_790 (by decide) ?_
      refine aw_iadd dL_law_791 ?_
      refine aw_eqi (y := nI (i + 1)) (nI_add _ _) ?_
      refine aw_sld dL_law_792 rfl (vp_in_nI (n := (i + 1)) (by omega) (by omega)) ?_
      refine aw_callVi (J' := jX11_guards) (As := [.int (xs ((nI (i + 1))).toNatClampNeg)]) (st := []) dL_law_793 tb_954 ok_X11_guards ⟨_, (CW.o0 hcw).choose_spec⟩ (by omega) rfl rfl (g_X11_guardsK l D b N V (by omega) hcw (xs ((nI (i + 1))).toNatClampNeg)) rfl (Nat.le_of_ble_eq_true rfl) ⟨Nat.le_of_ble_eq_true rfl, Nat.le_of_ble_eq_true rfl, (show _ ≤ 600000 from by omega), (show _ ≤ 7302250 from by omega)⟩ (fun r_504 N_505 V_493 q_506 => ?_)
      obtain ⟨hs_495, rfl, j_494⟩ := q_506
      have cw_501 := j_494.1
      have cr_502 := CR.fr hcr (fun i h1 h2 => j_494.2.1 i h1 (by omega))
      have wf_503 := WF.fr hwf (fun i h1 h2 => j_494.2.1 i (by omega) (by omega))
      refine aw_pop dL_law_796 rfl ?_
      refine aw_aload_n dL_law_797 rfl ?_
      refine aw_aload_n dL_law_798 rfl ?_
      refine aw_iload_n dL_law_799 rfl ?_
      refine aw_iconst (v := 1) dL_law_800 (by decide) ?_
      refine aw_iadd dL_law_801 ?_
      refine aw_eqi (y := nI (i + 1)) (nI_add _ _) ?_
      refine aw_sld dL_law_802 rfl (vp_in_nI (n := (i + 1)) (by omega) (by omega)) ?_
      refine aw_callVi (J' := jX12_guards) (As := [.int (xs ((nI (i + 1))).toNatClampNeg)]) (st := []) dL_law_803 tb_1572 ok_X12_guards ⟨_, (CR.o100 cr_502).choose_spec⟩ (by omega) rfl rfl (r_guardsK l D b N V_493 (by omega) cl cr_502 (xs ((nI (i + 1))).toNatClampNeg) (xs ((nI (i + 1))).toNatClampNeg) rfl) rfl (Nat.le_of_ble_eq_true rfl) ⟨Nat.le_of_ble_eq_true rfl, Nat.le_of_ble_eq_true rfl, (show _ ≤ 600000 from by omega), (show _ ≤ 7302250 from by omega)⟩ (fun r_518 N_519 V_507 q_520 => ?_)
      obtain ⟨hs_512, rfl, jr_511⟩ := q_520
      have cr_509 := jr_511.1
      have cw_508 := CW.out cw_501 (fun i hi => jr_511.2.1 i (Or.inl hi) (by omega))
      have wf_510 := WF.fr wf_503 jr_511.2.2.1
      have e_517 : fI (V_493 100) 13 = fI (V 1) 1 := (congrArg (fun z => fI z 13) (j_494.2.1 100 (by decide) (by omega))).trans (hrl.2.2.2.1).symm
      rw [e_517] at hs_512
      have rl_514 : RLs V_507 := ⟨(congrArg (fun z => fI z 4) (jr_511.2.1 0 (Or.inl (by decide)) (by omega))).trans ((JW.fI j_494 (by decide) (by decide) : fI (V_493 0) 4 = fI (V 0) 4).trans ((hrl.1).trans ((congrArg (fun z => fI z 51) (j_494.2.1 100 (by decide) (by omega))).symm.trans ((JR.fI jr_511 (by decide) (by decide) (by decide)) : fI (V_507 100) 51 = fI (V_493 100) 51).symm))), (congrArg (fun z => fI z 7) (jr_511.2.1 3 (Or.inl (by decide)) (by omega))).trans ((JW.fI j_494 (by decide) (by decide) : fI (V_493 3) 7 = fI (V 3) 7).trans ((hrl.2.1).trans ((congrArg (fun z => fI z 208) (j_494.2.1 101 (by decide) (by omega))).symm.trans ((JR.fI jr_511 (by decide) (by decide) (by decide)) : fI (V_507 101) 208 = fI (V_493 101) 208).symm))), (congrArg (fun z => fI z 7) (jr_511.2.1 39 (Or.inl (by decide)) (by omega))).trans ((JW.fI j_494 (by decide) (by decide) : fI (V_493 39) 7 = fI (V 39) 7).trans ((hrl.2.2.1).trans ((congrArg (fun z => fI z 208) (j_494.2.1 103 (by decide) (by omega))).symm.trans ((JR.fI jr_511 (by decide) (by decide) (by decide)) : fI (V_507 103) 208 = fI (V_493 103) 208).symm))), (congrArg (fun z => fI z 1) (jr_511.2.1 1 (Or.inl (by decide)) (by omega))).trans (TKS.one hs_495 hs_512), (congrArg fI (jr_511.2.1 2 (Or.inl (by decide)) (by omega))).trans ((congrArg fI (JW.same j_494 (by decide) (fun k => (nfc (by omega) (nfc (by omega) (nfc (by omega) (nfc (by omega) (nfc (by omega) nf0)))))))).trans ((hrl.2.2.2.2).trans ((congrArg (fun z => gb (fI z)) (j_494.2.1 110 (by decide) (by omega))).symm.trans (congrArg (fun z => gb (fI z)) (JR.same jr_511 (by decide) (by decide) (fun k => (nfc (by omega) (nfc (by omega) nf0))))).symm)))⟩
      refine aw_pop dL_law_806 rfl ?_
      refine aw_goto (tgt := 981) dL_law_807 (by decide) ?_
      refine aw_iinc (v := (nI (i + 6))) (ls' := [some (.ref b9), some (.ref (b + 0)), some (.ref (b + 100)), some (.int (nI (i + 6)))]) dL_law_981 rfl (nI_add i 6) (Nat.le_of_ble_eq_true rfl) rfl ?_
      refine aw_goto (tgt := 18) dL_law_984 (by decide) ?_
      refine mih (M + 6 - (i + 6)) (by omega) (i + 6) N cl V_507 _ _ rfl (by omega) ?_ ?_ (by omega) cw_508 cr_509 wf_510 rl_514 <;> omega
    · skip
      refine aw_tableIn (off := 777) (tgt := 810) dL_law_33 (by decide) (by decide) (by decide) (by decide) ?_
      refine aw_aload_n dL_law_810 rfl ?_
      refine aw_aload_n dL_law_811 rfl ?_
      refine aw_iload_n dL_law_812 rfl ?_
      refine aw_iconst (v := 1) dL_law_813 (by decide) ?_
      refine aw_iadd dL_law_814 ?_
      refine aw_eqi (y := nI (i + 1)) (nI_add _ _) ?_
      refine aw_sld dL_law_815 rfl (vp_in_nI (n := (i + 1)) (by omega) (by omega)) ?_
      refine aw_aload_n dL_law_816 rfl ?_
      refine aw_iload_n dL_law_817 rfl ?_
      refine aw_iconst (v := 2) dL_law_818 (by decide) ?_
      refine aw_iadd dL_law_819 ?_
      refine aw_eqi (y := nI (i + 2)) (nI_add _ _) ?_
      refine aw_sld dL_law_820 rfl (vp_in_nI (n := (i + 2)) (by omega) (by omega)) ?_
      refine aw_aload_n dL_law_821 rfl ?_
      refine aw_iload_n dL_law_822 rfl ?_
      refine aw_iconst (v := 3) dL_law_823 (by decide) ?_
      refine aw_iadd dL_law_824 ?_
      refine aw_eqi (y := nI (i + 3)) (nI_add _ _) ?_
      refine aw_sld dL_law_825 rfl (vp_in_nI (n := (i + 3)) (by omega) (by omega)) ?_
      refine aw_callVl (J' := jX11_word) (As := [.int (xs ((nI (i + 1))).toNatClampNeg), .int (xs ((nI (i + 2))).toNatClampNeg), .int (xs ((nI (i + 3))).toNatClampNeg)]) (st := []) dL_law_826 tb_973 ok_X11_word ⟨_, (CW.o0 hcw).choose_spec⟩ (by omega) rfl rfl (g_X11_word l D b N V (by omega) hcw (xs ((nI (i + 1))).toNatClampNeg) (xs ((nI (i + 2))).toNatClampNeg) (xs ((nI (i + 3))).toNatClampNeg)) rfl (Nat.le_of_ble_eq_true rfl) ⟨Nat.le_of_ble_eq_true rfl, Nat.le_of_ble_eq_true rfl, (show _ ≤ 600000 from by omega), (show _ ≤ 7302250 from by omega)⟩ (fun r_532 N_533 V_521 q_534 => ?_)
      obtain ⟨rfl, j_522⟩ := q_534
      have cw_529 := j_522.1
      have cr_530 := CR.fr hcr (fun i h1 h2 => j_522.2.1 i h1 (by omega))
      have wf_531 := WF.fr hwf (fun i h1 h2 => j_522.2.1 i (by omega) (by omega))
      refine aw_pop2 dL_law_829 rfl ?_
      refine aw_aload_n dL_law_830 rfl ?_
      refine aw_aload_n dL_law_831 rfl ?_
      refine aw_iload_n dL_law_832 rfl ?_
      refine aw_iconst (v := 1) dL_law_833 (by decide) ?_
      refine aw_iadd dL_law_834 ?_
      refine aw_eqi (y := nI (i + 1)) (nI_add _ _) ?_
      refine aw_sld dL_law_835 rfl (vp_in_nI (n := (i + 1)) (by omega) (by omega)) ?_
      refine aw_aload_n dL_law_836 rfl ?_
      refine aw_iload_n dL_law_837 rfl ?_
      refine aw_iconst (v := 2) dL_law_838 (by decide) ?_
      refine aw_iadd dL_law_839 ?_
      refine aw_eqi (y := nI (i + 2)) (nI_add _ _) ?_
      refine aw_sld dL_law_840 rfl (vp_in_nI (n := (i + 2)) (by omega) (by omega)) ?_
      refine aw_aload_n dL_law_841 rfl ?_
      refine aw_iload_n dL_law_842 rfl ?_
      refine aw_iconst (v := 3) dL_law_843 (by decide) ?_
      refine aw_iadd dL_law_844 ?_
      refine aw_eqi (y := nI (i + 3)) (nI_add _ _) ?_
      refine aw_sld dL_law_845 rfl (vp_in_nI (n := (i + 3)) (by omega) (by omega)) ?_
      refine aw_callVl (J' := jX12_word) (As := [.int (xs ((nI (i + 1))).toNatClampNeg), .int (xs ((nI (i + 2))).toNatClampNeg), .int (xs ((nI (i + 3))).toNatClampNeg)]) (st := []) dL_law_846 tb_1588 ok_X12_word ⟨_, (CR.o100 cr_530).choose_spec⟩ (by omega) rfl rfl (r_word l D b N V_521 (by omega) cl cr_530 (xs ((nI (i + 1))).toNatClampNeg) (xs ((nI (i + 2))).toNatClampNeg) (xs ((nI (i + 3))).toNatClampNeg)) rfl (Nat.le_of_ble_eq_true rfl) ⟨Nat.le_of_ble_eq_true rfl, Nat.le_of_ble_eq_true rfl, (show _ ≤ 600000 from by omega), (show _ ≤ 7302250 from by omega)⟩ (fun r_545 N_546 V_535 q_547 => ?_)
      obtain ⟨rfl, jr_539⟩ := q_547
      have cr_537 := jr_539.1
      have cw_536 := CW.out cw_529 (fun i hi => jr_539.2.1 i (Or.inl hi) (by omega))
      have wf_538 := WF.fr wf_531 jr_539.2.2.1
      have rl_542 : RLs V_535 := ⟨(congrArg (fun z => fI z 4) (jr_539.2.1 0 (Or.inl (by decide)) (by omega))).trans ((JW.fI j_522 (by decide) (by decide) : fI (V_521 0) 4 = fI (V 0) 4).trans ((hrl.1).trans ((congrArg (fun z => fI z 51) (j_522.2.1 100 (by decide) (by omega))).symm.trans ((JR.fI jr_539 (by decide) (by decide) (by decide)) : fI (V_535 100) 51 = fI (V_521 100) 51).symm))), (congrArg (fun z => fI z 7) (jr_539.2.1 3 (Or.inl (by decide)) (by omega))).trans ((JW.fI j_522 (by decide) (by decide) : fI (V_521 3) 7 = fI (V 3) 7).trans ((hrl.2.1).trans ((congrArg (fun z => fI z 208) (j_522.2.1 101 (by decide) (by omega))).symm.trans ((JR.fI jr_539 (by decide) (by decide) (by decide)) : fI (V_535 101) 208 = fI (V_521 101) 208).symm))), (congrArg (fun z => fI z 7) (jr_539.2.1 39 (Or.inl (by decide)) (by omega))).trans ((JW.fI j_522 (by decide) (by decide) : fI (V_521 39) 7 = fI (V 39) 7).trans ((hrl.2.2.1).trans ((congrArg (fun z => fI z 208) (j_522.2.1 103 (by decide) (by omega))).symm.trans ((JR.fI jr_539 (by decide) (by decide) (by decide)) : fI (V_535 103) 208 = fI (V_521 103) 208).symm))), (congrArg (fun z => fI z 1) (jr_539.2.1 1 (Or.inl (by decide)) (by omega))).trans ((JW.fI j_522 (by decide) (by decide) : fI (V_521 1) 1 = fI (V 1) 1).trans ((hrl.2.2.2.1).trans ((congrArg (fun z => fI z 13) (j_522.2.1 100 (by decide) (by omega))).symm.trans ((JR.fI jr_539 (by decide) (by decide) (by decide)) : fI (V_535 100) 13 = fI (V_521 100) 13).symm))), (congrArg fI (jr_539.2.1 2 (Or.inl (by decide)) (by omega))).trans ((congrArg fI (JW.same j_522 (by decide) (fun k => (nfc (by omega) nf0)))).trans ((hrl.2.2.2.2).trans ((congrArg (fun z => gb (fI z)) (j_522.2.1 110 (by decide) (by omega))).symm.trans (congrArg (fun z => gb (fI z)) (JR.same jr_539 (by decide) (by decide) (fun k => (nfc (by omega) nf0)))).symm)))⟩
      refine aw_pop2 dL_law_849 rfl ?_
      refine aw_goto (tgt := 981) dL_law_850 (by decide) ?_
      refine aw_iinc (v := (nI (i + 6))) (ls' := [some (.ref b9), some (.ref (b + 0)), some (.ref (b + 100)), some (.int (nI (i + 6)))]) dL_law_981 rfl (nI_add i 6) (Nat.le_of_ble_eq_true rfl) rfl ?_
      refine aw_goto (tgt := 18) dL_law_984 (by decide) ?_
      refine mih (M + 6 - (i + 6)) (by omega) (i + 6) N cl V_535 _ _ rfl (by omega) ?_ ?_ (by omega) cw_536 cr_537 wf_538 rl_542 <;> omega
    · skip
      refine aw_tableIn (off := 820) (tgt := 853) dL_law_33 (by decide) (by decide) (by decide) (by decide) ?_
      refine aw_aload_n dL_law_853 rfl ?_
      refine aw_aload_n dL_law_854 rfl ?_
      refine aw_iload_n dL_law_855 rfl ?_
      refine aw_iconst (v := 1) dL_law_856 (by decide) ?_
      refine aw_iadd dL_law_857 ?_
      refine aw_eqi (y := nI (i + 1)) (nI_add _ _) ?_
      refine aw_sld dL_law_858 rfl (vp_in_nI (n := (i + 1)) (by omega) (by omega)) ?_
      refine aw_aload_n dL_law_859 rfl ?_
      refine aw_iload_n dL_law_860 rfl ?_
      refine aw_iconst (v := 2) dL_law_861 (by decide) ?_
      refine aw_iadd dL_law_862 ?_
      refine aw_eqi (y := nI (i + 2)) (nI_add _ _) ?_
      refine aw_sld dL_law_863 rfl (vp_in_nI (n := (i + 2)) (by omega) (by omega)) ?_
      refine aw_callVi (J' := jX11_rooms) (As := [.int (xs ((nI (i + 1))).toNatClampNeg), .int (xs ((nI (i + 2))).toNatClampNeg)]) (st := []) dL_law_864 tb_986 ok_X11_rooms ⟨_, (CW.o0 hcw).choose_spec⟩ (by omega) rfl rfl (g_X11_roomsK l D b N V (by omega) hcw (xs ((nI (i + 1))).toNatClampNeg) (xs ((nI (i + 2))).toNatClampNeg)) rfl (Nat.le_of_ble_eq_true rfl) ⟨Nat.le_of_ble_eq_true rfl, Nat.le_of_ble_eq_true rfl, (show _ ≤ 600000 from by omega), (show _ ≤ 7302250 from by omega)⟩ (fun r_559 N_560 V_548 q_561 => ?_)
      obtain ⟨hs_550, rfl, j_549⟩ := q_561
      have cw_556 := j_549.1
      have cr_557 := CR.fr hcr (fun i h1 h2 => j_549.2.1 i h1 (by omega))
      have wf_558 := WF.fr hwf (fun i h1 h2 => j_549.2.1 i (by omega) (by omega))
      refine aw_pop dL_law_867 rfl ?_
      refine aw_aload_n dL_law_868 rfl ?_
      refine aw_aload_n dL_law_869 rfl ?_
      refine aw_iload_n dL_law_870 rfl ?_
      refine aw_iconst (v := 1) dL_law_871 (by decide) ?_
      refine aw_iadd dL_law_872 ?_
      refine aw_eqi (y := nI (i + 1)) (nI_add _ _) ?_
      refine aw_sld dL_law_873 rfl (vp_in_nI (n := (i + 1)) (by omega) (by omega)) ?_
      refine aw_aload_n dL_law_874 rfl ?_
      refine aw_iload_n dL_law_875 rfl ?_
      refine aw_iconst (v := 2) dL_law_876 (by decide) ?_
      refine aw_iadd dL_law_877 ?_
      refine aw_eqi (y := nI (i + 2)) (nI_add _ _) ?_
      refine aw_sld dL_law_878 rfl (vp_in_nI (n := (i + 2)) (by omega) (by omega)) ?_
      refine aw_callVi (J' := jX12_rooms) (As := [.int (xs ((nI (i + 1))).toNatClampNeg), .int (xs ((nI (i + 2))).toNatClampNeg)]) (st := []) dL_law_879 tb_1593 ok_X12_rooms ⟨_, (CR.o100 cr_557).choose_spec⟩ (by omega) rfl rfl (r_roomsK l D b N V_548 (by omega) cl cr_557 (xs ((nI (i + 1))).toNatClampNeg) (xs ((nI (i + 2))).toNatClampNeg) (xs ((nI (i + 1))).toNatClampNeg) (xs ((nI (i + 2))).toNatClampNeg) ⟨rfl, rfl⟩) rfl (Nat.le_of_ble_eq_true rfl) ⟨Nat.le_of_ble_eq_true rfl, Nat.le_of_ble_eq_true rfl, (show _ ≤ 600000 from by omega), (show _ ≤ 7302250 from by omega)⟩ (fun r_573 N_574 V_562 q_575 => ?_)
      obtain ⟨hs_567, rfl, jr_566⟩ := q_575
      have cr_564 := jr_566.1
      have cw_563 := CW.out cw_556 (fun i hi => jr_566.2.1 i (Or.inl hi) (by omega))
      have wf_565 := WF.fr wf_558 jr_566.2.2.1
      have e_572 : fI (V_548 100) 13 = fI (V 1) 1 := (congrArg (fun z => fI z 13) (j_549.2.1 100 (by decide) (by omega))).trans (hrl.2.2.2.1).symm
      rw [e_572] at hs_567
      have rl_569 : RLs V_562 := ⟨(congrArg (fun z => fI z 4) (jr_566.2.1 0 (Or.inl (by decide)) (by omega))).trans ((JW.fI j_549 (by decide) (by decide) : fI (V_548 0) 4 = fI (V 0) 4).trans ((hrl.1).trans ((congrArg (fun z => fI z 51) (j_549.2.1 100 (by decide) (by omega))).symm.trans ((JR.fI jr_566 (by decide) (by decide) (by decide)) : fI (V_562 100) 51 = fI (V_548 100) 51).symm))), (congrArg (fun z => fI z 7) (jr_566.2.1 3 (Or.inl (by decide)) (by omega))).trans ((JW.fI j_549 (by decide) (by decide) : fI (V_548 3) 7 = fI (V 3) 7).trans ((hrl.2.1).trans ((congrArg (fun z => fI z 208) (j_549.2.1 101 (by decide) (by omega))).symm.trans ((JR.fI jr_566 (by decide) (by decide) (by decide)) : fI (V_562 101) 208 = fI (V_548 101) 208).symm))), (congrArg (fun z => fI z 7) (jr_566.2.1 39 (Or.inl (by decide)) (by omega))).trans ((JW.fI j_549 (by decide) (by decide) : fI (V_548 39) 7 = fI (V 39) 7).trans ((hrl.2.2.1).trans ((congrArg (fun z => fI z 208) (j_549.2.1 103 (by decide) (by omega))).symm.trans ((JR.fI jr_566 (by decide) (by decide) (by decide)) : fI (V_562 103) 208 = fI (V_548 103) 208).symm))), (congrArg (fun z => fI z 1) (jr_566.2.1 1 (Or.inl (by decide)) (by omega))).trans (TKS.one hs_550 hs_567), (congrArg fI (jr_566.2.1 2 (Or.inl (by decide)) (by omega))).trans ((congrArg fI (JW.same j_549 (by decide) (fun k => (nfc (by omega) (nfc (by omega) (nfc (by omega) (nfc (by omega) nf0))))))).trans ((hrl.2.2.2.2).trans ((congrArg (fun z => gb (fI z)) (j_549.2.1 110 (by decide) (by omega))).symm.trans (congrArg (fun z => gb (fI z)) (JR.same jr_566 (by decide) (by decide) (fun k => (nfc (by omega) (nfc (by omega) nf0))))).symm)))⟩
      refine aw_pop dL_law_882 rfl ?_
      refine aw_goto (tgt := 981) dL_law_883 (by decide) ?_
      refine aw_iinc (v := (nI (i + 6))) (ls' := [some (.ref b9), some (.ref (b + 0)), some (.ref (b + 100)), some (.int (nI (i + 6)))]) dL_law_981 rfl (nI_add i 6) (Nat.le_of_ble_eq_true rfl) rfl ?_
      refine aw_goto (tgt := 18) dL_law_984 (by decide) ?_
      refine mih (M + 6 - (i + 6)) (by omega) (i + 6) N cl V_562 _ _ rfl (by omega) ?_ ?_ (by omega) cw_563 cr_564 wf_565 rl_569 <;> omega
    · skip
      refine aw_tableIn (off := 853) (tgt := 886) dL_law_33 (by decide) (by decide) (by decide) (by decide) ?_
      refine aw_aload_n dL_law_886 rfl ?_
      refine aw_aload_n dL_law_887 rfl ?_
      refine aw_iload_n dL_law_888 rfl ?_
      refine aw_iconst (v := 1) dL_law_889 (by decide) ?_
      refine aw_iadd dL_law_890 ?_
      refine aw_eqi (y := nI (i + 1)) (nI_add _ _) ?_
      refine aw_sld dL_law_891 rfl (vp_in_nI (n := (i + 1)) (by omega) (by omega)) ?_
      refine aw_callVi (J' := jX11_seed) (As := [.int (xs ((nI (i + 1))).toNatClampNeg)]) (st := []) dL_law_892 tb_999 ok_X11_seed ⟨_, (CW.o0 hcw).choose_spec⟩ (by omega) rfl rfl (g_X11_seed l D b N V (by omega) hcw (xs ((nI (i + 1))).toNatClampNeg)) rfl (Nat.le_of_ble_eq_true rfl) ⟨Nat.le_of_ble_eq_true rfl, Nat.le_of_ble_eq_true rfl, (show _ ≤ 600000 from by omega), (show _ ≤ 7302250 from by omega)⟩ (fun r_587 N_588 V_576 q_589 => ?_)
      obtain ⟨_, rfl, j_577⟩ := q_589
      have cw_584 := j_577.1
      have cr_585 := CR.fr hcr (fun i h1 h2 => j_577.2.1 i h1 (by omega))
      have wf_586 := WF.fr hwf (fun i h1 h2 => j_577.2.1 i (by omega) (by omega))
      refine aw_pop dL_law_895 rfl ?_
      refine aw_aload_n dL_law_896 rfl ?_
      refine aw_aload_n dL_law_897 rfl ?_
      refine aw_iload_n dL_law_898 rfl ?_
      refine aw_iconst (v := 1) dL_law_899 (by decide) ?_
      refine aw_iadd dL_law_900 ?_
      refine aw_eqi (y := nI (i + 1)) (nI_add _ _) ?_
      refine aw_sld dL_law_901 rfl (vp_in_nI (n := (i + 1)) (by omega) (by omega)) ?_
      refine aw_callVi (J' := jX12_seed) (As := [.int (xs ((nI (i + 1))).toNatClampNeg)]) (st := []) dL_law_902 tb_1601 ok_X12_seed ⟨_, (CR.o100 cr_585).choose_spec⟩ (by omega) rfl rfl (r_seed l D b N V_576 (by omega) cl cr_585 (xs ((nI (i + 1))).toNatClampNeg)) rfl (Nat.le_of_ble_eq_true rfl) ⟨Nat.le_of_ble_eq_true rfl, Nat.le_of_ble_eq_true rfl, (show _ ≤ 600000 from by omega), (show _ ≤ 7302250 from by omega)⟩ (fun r_600 N_601 V_590 q_602 => ?_)
      obtain ⟨_, rfl, jr_594⟩ := q_602
      have cr_592 := jr_594.1
      have cw_591 := CW.out cw_584 (fun i hi => jr_594.2.1 i (Or.inl hi) (by omega))
      have wf_593 := WF.fr wf_586 jr_594.2.2.1
      have rl_597 : RLs V_590 := ⟨(congrArg (fun z => fI z 4) (jr_594.2.1 0 (Or.inl (by decide)) (by omega))).trans ((JW.fI j_577 (by decide) (by decide) : fI (V_576 0) 4 = fI (V 0) 4).trans ((hrl.1).trans ((congrArg (fun z => fI z 51) (j_577.2.1 100 (by decide) (by omega))).symm.trans ((JR.fI jr_594 (by decide) (by decide) (by decide)) : fI (V_590 100) 51 = fI (V_576 100) 51).symm))), (congrArg (fun z => fI z 7) (jr_594.2.1 3 (Or.inl (by decide)) (by omega))).trans ((JW.fI j_577 (by decide) (by decide) : fI (V_576 3) 7 = fI (V 3) 7).trans ((hrl.2.1).trans ((congrArg (fun z => fI z 208) (j_577.2.1 101 (by decide) (by omega))).symm.trans ((JR.fI jr_594 (by decide) (by decide) (by decide)) : fI (V_590 101) 208 = fI (V_576 101) 208).symm))), (congrArg (fun z => fI z 7) (jr_594.2.1 39 (Or.inl (by decide)) (by omega))).trans ((JW.fI j_577 (by decide) (by decide) : fI (V_576 39) 7 = fI (V 39) 7).trans ((hrl.2.2.1).trans ((congrArg (fun z => fI z 208) (j_577.2.1 103 (by decide) (by omega))).symm.trans ((JR.fI jr_594 (by decide) (by decide) (by decide)) : fI (V_590 103) 208 = fI (V_576 103) 208).symm))), (congrArg (fun z => fI z 1) (jr_594.2.1 1 (Or.inl (by decide)) (by omega))).trans ((JW.fI j_577 (by decide) (by decide) : fI (V_576 1) 1 = fI (V 1) 1).trans ((hrl.2.2.2.1).trans ((congrArg (fun z => fI z 13) (j_577.2.1 100 (by decide) (by omega))).symm.trans ((JR.fI jr_594 (by decide) (by decide) (by decide)) : fI (V_590 100) 13 = fI (V_576 100) 13).symm))), (congrArg fI (jr_594.2.1 2 (Or.inl (by decide)) (by omega))).trans ((congrArg fI (JW.same j_577 (by decide) (fun k => (nfc (by omega) nf0)))).trans ((hrl.2.2.2.2).trans ((congrArg (fun z => gb (fI z)) (j_577.2.1 110 (by decide) (by omega))).symm.trans (congrArg (fun z => gb (fI z)) (JR.same jr_594 (by decide) (by decide) (fun k => (nfc (by omega) nf0)))).symm)))⟩
      refine aw_pop dL_law_905 rfl ?_
      refine aw_goto (tgt := 981) dL_law_906 (by decide) ?_
      refine aw_iinc (v := (nI (i + 6))) (ls' := [some (.ref b9), some (.ref (b + 0)), some (.ref (b + 100)), some (.int (nI (i + 6)))]) dL_law_981 rfl (nI_add i 6) (Nat.le_of_ble_eq_true rfl) rfl ?_
      refine aw_goto (tgt := 18) dL_law_984 (by decide) ?_
      refine mih (M + 6 - (i + 6)) (by omega) (i + 6) N cl V_590 _ _ rfl (by omega) ?_ ?_ (by omega) cw_591 cr_592 wf_593 rl_597 <;> omega
    · skip
      refine aw_tableIn (off := 876) (tgt := 909) dL_law_33 (by decide) (by decide) (by decide) (by decide) ?_
      refine aw_aload_n dL_law_909 rfl ?_
      refine aw_callVi (J' := jX11_keep) (As := []) (st := []) dL_law_910 tb_1003 ok_X11_keep ⟨_, (CW.o0 hcw).choose_spec⟩ (by omega) rfl rfl (g_X11_keepK l D b N V (by omega) hcw) rfl (Nat.le_of_ble_eq_true rfl) ⟨Nat.le_of_ble_eq_true rfl, Nat.le_of_ble_eq_true rfl, (show _ ≤ 600000 from by omega), (show _ ≤ 7302250 from by omega)⟩ (fun r_614 N_615 V_603 q_616 => ?_)
      obtain ⟨hs_605, rfl, j_604⟩ := q_616
      have cw_611 := j_604.1
      have cr_612 := CR.fr hcr (fun i h1 h2 => j_604.2.1 i h1 (by omega))
      have wf_613 := WF.fr hwf (fun i h1 h2 => j_604.2.1 i (by omega) (by omega))
      refine aw_pop dL_law_913 rfl ?_
      refine aw_aload_n dL_law_914 rfl ?_
      refine aw_callVi (J' := jX12_keep) (As := []) (st := []) dL_law_915 tb_1605 ok_X12_keep ⟨_, (CR.o100 cr_612).choose_spec⟩ (by omega) rfl rfl (r_keepK l D b N V_603 (by omega) cl cr_612) rfl (Nat.le_of_ble_eq_true rfl) ⟨Nat.le_of_ble_eq_true rfl, Nat.le_of_ble_eq_true rfl, (show _ ≤ 600000 from by omega), (show _ ≤ 7302250 from by omega)⟩ (fun r_628 N_629 V_617 q_630 => ?_)
      obtain ⟨hs_622, rfl, jr_621⟩ := q_630
      have cr_619 := jr_621.1
      have cw_618 := CW.out cw_611 (fun i hi => jr_621.2.1 i (Or.inl hi) (by omega))
      have wf_620 := WF.fr wf_613 jr_621.2.2.1
      have e_627 : fI (V_603 101) 208 = fI (V 3) 7 := (congrArg (fun z => fI z 208) (j_604.2.1 101 (by decide) (by omega))).trans (hrl.2.1).symm
      have rl_624 : RLs V_617 := ⟨(congrArg (fun z => fI z 4) (jr_621.2.1 0 (Or.inl (by decide)) (by omega))).trans (hs_605.2.2.trans hs_622.2.2.symm), (congrArg (fun z => fI z 7) (jr_621.2.1 3 (Or.inl (by decide)) (by omega))).trans ((JW.fI j_604 (by decide) (by decide) : fI (V_603 3) 7 = fI (V 3) 7).trans ((hrl.2.1).trans ((congrArg (fun z => fI z 208) (j_604.2.1 101 (by decide) (by omega))).symm.trans ((JR.fI jr_621 (by decide) (by decide) (by decide)) : fI (V_617 101) 208 = fI (V_603 101) 208).symm))), (congrArg (fun z => fI z 7) (jr_621.2.1 39 (Or.inl (by decide)) (by omega))).trans (hs_605.2.1.trans (e_627.symm.trans hs_622.2.1.symm)), (congrArg (fun z => fI z 1) (jr_621.2.1 1 (Or.inl (by decide)) (by omega))).trans ((JW.fI j_604 (by decide) (by decide) : fI (V_603 1) 1 = fI (V 1) 1).trans ((hrl.2.2.2.1).trans ((congrArg (fun z => fI z 13) (j_604.2.1 100 (by decide) (by omega))).symm.trans ((JR.fI jr_621 (by decide) (by decide) (by decide)) : fI (V_617 100) 13 = fI (V_603 100) 13).symm))), (congrArg fI (jr_621.2.1 2 (Or.inl (by decide)) (by omega))).trans ((congrArg fI (JW.same j_604 (by decide) (fun k => (nfc (by omega) (nfc (by omega) (nfc (by omega) (nfc (by omega) (nfc (by omega) (nfc (by omega) nf0))))))))).trans ((hrl.2.2.2.2).trans ((congrArg (fun z => gb (fI z)) (j_604.2.1 110 (by decide) (by omega))).symm.trans (congrArg (fun z => gb (fI z)) (JR.same jr_621 (by decide) (by decide) (fun k => (nfc (by omega) (nfc (by omega) nf0))))).symm)))⟩
      refine aw_pop dL_law_918 rfl ?_
      refine aw_goto (tgt := 981) dL_law_919 (by decide) ?_
      refine aw_iinc (v := (nI (i + 6))) (ls' := [some (.ref b9), some (.ref (b + 0)), some (.ref (b + 100)), some (.int (nI (i + 6)))]) dL_law_981 rfl (nI_add i 6) (Nat.le_of_ble_eq_true rfl) rfl ?_
      refine aw_goto (tgt := 18) dL_law_984 (by decide) ?_
      refine mih (M + 6 - (i + 6)) (by omega) (i + 6) N cl V_617 _ _ rfl (by omega) ?_ ?_ (by omega) cw_618 cr_619 wf_620 rl_624 <;> omega
    · skip
      refine aw_tableIn (off := 889) (tgt := 922) dL_law_33 (by decide) (by decide) (by decide) (by decide) ?_
      refine aw_aload_n dL_law_922 rfl ?_
      refine aw_callVi (J' := jX11_undo) (As := []) (st := []) dL_law_923 tb_1007 ok_X11_undo ⟨_, (CW.o0 hcw).choose_spec⟩ (by omega) rfl rfl (g_X11_undoK l D b N V (by omega) hcw) rfl (Nat.le_of_ble_eq_true rfl) ⟨Nat.le_of_ble_eq_true rfl, Nat.le_of_ble_eq_true rfl, (show _ ≤ 600000 from by omega), (show _ ≤ 7302250 from by omega)⟩ (fun r_642 N_643 V_631 q_644 => ?_)
      obtain ⟨⟨_, hs_633⟩, rfl, j_632⟩ := q_644
      have cw_639 := j_632.1
      have cr_640 := CR.fr hcr (fun i h1 h2 => j_632.2.1 i h1 (by omega))
      have wf_641 := WF.fr hwf (fun i h1 h2 => j_632.2.1 i (by omega) (by omega))
      refine aw_pop dL_law_926 rfl ?_
      refine aw_aload_n dL_law_927 rfl ?_
      refine aw_callVi (J' := jX12_undo) (As := []) (st := []) dL_law_928 tb_1609 ok_X12_undo ⟨_, (CR.o100 cr_640).choose_spec⟩ (by omega) rfl rfl (r_undoK l D b N V_631 (by omega) cl cr_640) rfl (Nat.le_of_ble_eq_true rfl) ⟨Nat.le_of_ble_eq_true rfl, Nat.le_of_ble_eq_true rfl, (show _ ≤ 600000 from by omega), (show _ ≤ 7302250 from by omega)⟩ (fun r_659 N_660 V_645 q_661 => ?_)
      obtain ⟨⟨_, hs_650⟩, rfl, jr_649⟩ := q_661
      have cr_647 := jr_649.1
      have cw_646 := CW.out cw_639 (fun i hi => jr_649.2.1 i (Or.inl hi) (by omega))
      have wf_648 := WF.fr wf_641 jr_649.2.2.1
      have e_655 : fI (V_631 100) 51 = fI (V 0) 4 := (congrArg (fun z => fI z 51) (j_632.2.1 100 (by decide) (by omega))).trans (hrl.1).symm
      have e_656 : fI (V_631 101) 208 = fI (V 3) 7 := (congrArg (fun z => fI z 208) (j_632.2.1 101 (by decide) (by omega))).trans (hrl.2.1).symm
      have e_657 : fI (V_631 103) 208 = fI (V 39) 7 := (congrArg (fun z => fI z 208) (j_632.2.1 103 (by decide) (by omega))).trans (hrl.2.2.1).symm
      rw [e_655, e_656, e_657] at hs_650
      have o_658 := UND.one hs_633 hs_650
      have rl_652 : RLs V_645 := ⟨(congrArg (fun z => fI z 4) (jr_649.2.1 0 (Or.inl (by decide)) (by omega))).trans ((JW.fI j_632 (by decide) (by decide) : fI (V_631 0) 4 = fI (V 0) 4).trans ((hrl.1).trans ((congrArg (fun z => fI z 51) (j_632.2.1 100 (by decide) (by omega))).symm.trans ((JR.fI jr_649 (by decide) (by decide) (by decide)) : fI (V_645 100) 51 = fI (V_631 100) 51).symm))), (congrArg (fun z => fI z 7) (jr_649.2.1 3 (Or.inl (by decide)) (by omega))).trans o_658.2, (congrArg (fun z => fI z 7) (jr_649.2.1 39 (Or.inl (by decide)) (by omega))).trans ((JW.fI j_632 (by decide) (by decide) : fI (V_631 39) 7 = fI (V 39) 7).trans ((hrl.2.2.1).trans ((congrArg (fun z => fI z 208) (j_632.2.1 103 (by decide) (by omega))).symm.trans ((JR.fI jr_649 (by decide) (by decide) (by decide)) : fI (V_645 103) 208 = fI (V_631 103) 208).symm))), (congrArg (fun z => fI z 1) (jr_649.2.1 1 (Or.inl (by decide)) (by omega))).trans ((JW.fI j_632 (by decide) (by decide) : fI (V_631 1) 1 = fI (V 1) 1).trans ((hrl.2.2.2.1).trans ((congrArg (fun z => fI z 13) (j_632.2.1 100 (by decide) (by omega))).symm.trans ((JR.fI jr_649 (by decide) (by decide) (by decide)) : fI (V_645 100) 13 = fI (V_631 100) 13).symm))), (congrArg fI (jr_649.2.1 2 (Or.inl (by decide)) (by omega))).trans ((congrArg fI (JW.same j_632 (by decide) (fun k => (nfc (by omega) (nfc (by omega) (nfc (by omega) (nfc (by omega) nf0))))))).trans ((hrl.2.2.2.2).trans ((congrArg (fun z => gb (fI z)) (j_632.2.1 110 (by decide) (by omega))).symm.trans (congrArg (fun z => gb (fI z)) (JR.same jr_649 (by decide) (by decide) (fun k => (nfc (by omega) nf0)))).symm)))⟩
      refine aw_pop dL_law_931 rfl ?_
      refine aw_goto (tgt := 981) dL_law_932 (by decide) ?_
      refine aw_iinc (v := (nI (i + 6))) (ls' := [some (.ref b9), some (.ref (b + 0)), some (.ref (b + 100)), some (.int (nI (i + 6)))]) dL_law_981 rfl (nI_add i 6) (Nat.le_of_ble_eq_true rfl) rfl ?_
      refine aw_goto (tgt := 18) dL_law_984 (by decide) ?_
      refine mih (M + 6 - (i + 6)) (by omega) (i + 6) N cl V_645 _ _ rfl (by omega) ?_ ?_ (by omega) cw_646 cr_647 wf_648 rl_652 <;> omega
    · skip
      refine aw_tableIn (off := 902) (tgt := 935) dL_law_33 (by decide) (by decide) (by decide) (by decide) ?_
      refine aw_aload_n dL_law_935 rfl ?_
      refine aw_aload_n dL_law_936 rfl ?_
      refine aw_iload_n dL_law_937 rfl ?_
      refine aw_iconst (v := 1) dL_law_938 (by decide) ?_
      refine aw_iadd dL_law_939 ?_
      refine aw_eqi (y := nI (i + 1)) (nI_add _ _) ?_
      refine aw_sld dL_law_940 rfl (vp_in_nI (n := (i + 1)) (by omega) (by omega)) ?_
      refine aw_callVi (J' := jX11_check) (As := [.int (xs ((nI (i + 1))).toNatClampNeg)]) (st := []) dL_law_941 tb_1015 ok_X11_check ⟨_, (CW.o0 hcw).choose_spec⟩ (by omega) rfl rfl (g_X11_checkK l D b N V (by omega) hcw (xs ((nI (i + 1))).toNatClampNeg)) rfl (Nat.le_of_ble_eq_true rfl) ⟨Nat.le_of_ble_eq_true rfl, Nat.le_of_ble_eq_true rfl, (show _ ≤ 600000 from by omega), (show _ ≤ 7302250 from by omega)⟩ (fun r_673 N_674 V_662 q_675 => ?_)
      obtain ⟨hs_664, rfl, j_663⟩ := q_675
      have cw_670 := j_663.1
      have cr_671 := CR.fr hcr (fun i h1 h2 => j_663.2.1 i h1 (by omega))
      have wf_672 := WF.fr hwf (fun i h1 h2 => j_663.2.1 i (by omega) (by omega))
      refine aw_pop dL_law_944 rfl ?_
      refine aw_aload_n dL_law_945 rfl ?_
      refine aw_aload_n dL_law_946 rfl ?_
      refine aw_iload_n dL_law_947 rfl ?_
      refine aw_iconst (v := 1) dL_law_948 (by decide) ?_
      refine aw_iadd dL_law_949 ?_
      refine aw_eqi (y := nI (i + 1)) (nI_add _ _) ?_
      refine aw_sld dL_law_950 rfl (vp_in_nI (n := (i + 1)) (by omega) (by omega)) ?_
      refine aw_callVi (J' := jX12_check) (As := [.int (xs ((nI (i + 1))).toNatClampNeg)]) (st := []) dL_law_951 tb_1613 ok_X12_check ⟨_, (CR.o100 cr_671).choose_spec⟩ (by omega) rfl rfl (r_checkK l D b N V_662 (by omega) cl cr_671 (xs ((nI (i + 1))).toNatClampNeg) (xs ((nI (i + 1))).toNatClampNeg) rfl) rfl (Nat.le_of_ble_eq_true rfl) ⟨Nat.le_of_ble_eq_true rfl, Nat.le_of_ble_eq_true rfl, (show _ ≤ 600000 from by omega), (show _ ≤ 7302250 from by omega)⟩ (fun r_687 N_688 V_676 q_689 => ?_)
      obtain ⟨hs_681, rfl, jr_680⟩ := q_689
      have cr_678 := jr_680.1
      have cw_677 := CW.out cw_670 (fun i hi => jr_680.2.1 i (Or.inl hi) (by omega))
      have wf_679 := WF.fr wf_672 jr_680.2.2.1
      have e_686 : fI (V_662 100) 13 = fI (V 1) 1 := (congrArg (fun z => fI z 13) (j_663.2.1 100 (by decide) (by omega))).trans (hrl.2.2.2.1).symm
      rw [e_686] at hs_681
      have rl_683 : RLs V_676 := ⟨(congrArg (fun z => fI z 4) (jr_680.2.1 0 (Or.inl (by decide)) (by omega))).trans ((JW.fI j_663 (by decide) (by decide) : fI (V_662 0) 4 = fI (V 0) 4).trans ((hrl.1).trans ((congrArg (fun z => fI z 51) (j_663.2.1 100 (by decide) (by omega))).symm.trans ((JR.fI jr_680 (by decide) (by decide) (by decide)) : fI (V_676 100) 51 = fI (V_662 100) 51).symm))), (congrArg (fun z => fI z 7) (jr_680.2.1 3 (Or.inl (by decide)) (by omega))).trans ((JW.fI j_663 (by decide) (by decide) : fI (V_662 3) 7 = fI (V 3) 7).trans ((hrl.2.1).trans ((congrArg (fun z => fI z 208) (j_663.2.1 101 (by decide) (by omega))).symm.trans ((JR.fI jr_680 (by decide) (by decide) (by decide)) : fI (V_676 101) 208 = fI (V_662 101) 208).symm))), (congrArg (fun z => fI z 7) (jr_680.2.1 39 (Or.inl (by decide)) (by omega))).trans ((JW.fI j_663 (by decide) (by decide) : fI (V_662 39) 7 = fI (V 39) 7).trans ((hrl.2.2.1).trans ((congrArg (fun z => fI z 208) (j_663.2.1 103 (by decide) (by omega))).symm.trans ((JR.fI jr_680 (by decide) (by decide) (by decide)) : fI (V_676 103) 208 = fI (V_662 103) 208).symm))), (congrArg (fun z => fI z 1) (jr_680.2.1 1 (Or.inl (by decide)) (by omega))).trans (TKS.one hs_664 hs_681), (congrArg fI (jr_680.2.1 2 (Or.inl (by decide)) (by omega))).trans ((congrArg fI (JW.same j_663 (by decide) (fun k => (nfc (by omega) (nfc (by omega) (nfc (by omega) (nfc (by omega) nf0))))))).trans ((hrl.2.2.2.2).trans ((congrArg (fun z => gb (fI z)) (j_663.2.1 110 (by decide) (by omega))).symm.trans (congrArg (fun z => gb (fI z)) (JR.same jr_680 (by decide) (by decide) (fun k => (nfc (by omega) nf0)))).symm)))⟩
      refine aw_pop dL_law_954 rfl ?_
      refine aw_goto (tgt := 981) dL_law_955 (by decide) ?_
      refine aw_iinc (v := (nI (i + 6))) (ls' := [some (.ref b9), some (.ref (b + 0)), some (.ref (b + 100)), some (.int (nI (i + 6)))]) dL_law_981 rfl (nI_add i 6) (Nat.le_of_ble_eq_true rfl) rfl ?_
      refine aw_goto (tgt := 18) dL_law_984 (by decide) ?_
      refine mih (M + 6 - (i + 6)) (by omega) (i + 6) N cl V_676 _ _ rfl (by omega) ?_ ?_ (by omega) cw_677 cr_678 wf_679 rl_683 <;> omega
    · skip
      refine aw_tableIn (off := 925) (tgt := 958) dL_law_33 (by decide) (by decide) (by decide) (by decide) ?_
      refine aw_aload_n dL_law_958 rfl ?_
      refine aw_aload_n dL_law_959 rfl ?_
      refine aw_iload_n dL_law_960 rfl ?_
      refine aw_iconst (v := 1) dL_law_961 (by decide) ?_
      refine aw_iadd dL_law_962 ?_
      refine aw_eqi (y := nI (i + 1)) (nI_add _ _) ?_
      refine aw_sld dL_law_963 rfl (vp_in_nI (n := (i + 1)) (by omega) (by omega)) ?_
      refine aw_callVi (J' := jX11_count) (As := [.int (xs ((nI (i + 1))).toNatClampNeg)]) (st := []) dL_law_964 tb_1019 ok_X11_count ⟨_, (CW.o0 hcw).choose_spec⟩ (by omega) rfl rfl (g_X11_count l D b N V (by omega) hcw (xs ((nI (i + 1))).toNatClampNeg)) rfl (Nat.le_of_ble_eq_true rfl) ⟨Nat.le_of_ble_eq_true rfl, Nat.le_of_ble_eq_true rfl, (show _ ≤ 600000 from by omega), (show _ ≤ 7302250 from by omega)⟩ (fun r_691 N_692 V_693 q_694 => ?_)
      obtain ⟨rfl, rfl⟩ := q_694
      refine aw_pop dL_law_967 rfl ?_
      refine aw_aload_n dL_law_968 rfl ?_
      refine aw_aload_n dL_law_969 rfl ?_
      refine aw_iload_n dL_law_970 rfl ?_
      refine aw_iconst (v := 1) dL_law_971 (by decide) ?_
      refine aw_iadd dL_law_972 ?_
      refine aw_eqi (y := nI (i + 1)) (nI_add _ _) ?_
      refine aw_sld dL_law_973 rfl (vp_in_nI (n := (i + 1)) (by omega) (by omega)) ?_
      refine aw_callVi (J' := jX12_count) (As := [.int (xs ((nI (i + 1))).toNatClampNeg)]) (st := []) dL_law_974 tb_1617 ok_X12_count ⟨_, (CR.o100 hcr).choose_spec⟩ (by omega) rfl rfl (r_count l D b N V (by omega) cl hcr (xs ((nI (i + 1))).toNatClampNeg)) rfl (Nat.le_of_ble_eq_true rfl) ⟨Nat.le_of_ble_eq_true rfl, Nat.le_of_ble_eq_true rfl, (show _ ≤ 600000 from by omega), (show _ ≤ 7302250 from by omega)⟩ (fun r_705 N_706 V_707 q_708 => ?_)
      obtain ⟨rfl, rfl⟩ := q_708
      refine aw_pop dL_law_977 rfl ?_
      refine aw_goto (tgt := 981) dL_law_978 (by decide) ?_
      refine aw_iinc (v := (nI (i + 6))) (ls' := [some (.ref b9), some (.ref (b + 0)), some (.ref (b + 100)), some (.int (nI (i + 6)))]) dL_law_981 rfl (nI_add i 6) (Nat.le_of_ble_eq_true rfl) rfl ?_
      refine aw_goto (tgt := 18) dL_law_984 (by decide) ?_
      refine mih (M + 6 - (i + 6)) (by omega) (i + 6) N cl V _ _ rfl (by omega) ?_ ?_ (by omega) hcw hcr hwf hrl <;> omega
    · skip
      refine aw_tableOut (tgt := 981) dL_law_33 (Or.inr (by decide)) (by decide) ?_
      refine aw_iinc (v := (nI (i + 6))) (ls' := [some (.ref b9), some (.ref (b + 0)), some (.ref (b + 100)), some (.int (nI (i + 6)))]) dL_law_981 rfl (nI_add i 6) (Nat.le_of_ble_eq_true rfl) rfl ?_
      refine aw_goto (tgt := 18) dL_law_984 (by decide) ?_
      refine mih (M + 6 - (i + 6)) (by omega) (i + 6) N cl V _ _ rfl (by omega) ?_ ?_ (by omega) hcw hcr hwf hrl <;> omega
    · skip
      refine aw_tableOut (tgt := 981) dL_law_33 (Or.inr (by decide)) (by decide) ?_
      refine aw_iinc (v := (nI (i + 6))) (ls' := [some (.ref b9), some (.ref (b + 0)), some (.ref (b + 100)), some (.int (nI (i + 6)))]) dL_law_981 rfl (nI_add i 6) (Nat.le_of_ble_eq_true rfl) rfl ?_
      refine aw_goto (tgt := 18) dL_law_984 (by decide) ?_
      refine mih (M + 6 - (i + 6)) (by omega) (i + 6) N cl V _ _ rfl (by omega) ?_ ?_ (by omega) hcw hcr hwf hrl <;> omega
    · skip
      refine aw_tableOut (tgt := 981) dL_law_33 (Or.inr (by decide)) (by decide) ?_
      refine aw_iinc (v := (nI (i + 6))) (ls' := [some (.ref b9), some (.ref (b + 0)), some (.ref (b + 100)), some (.int (nI (i + 6)))]) dL_law_981 rfl (nI_add i 6) (Nat.le_of_ble_eq_true rfl) rfl ?_
      refine aw_goto (tgt := 18) dL_law_984 (by decide) ?_
      refine mih (M + 6 - (i + 6)) (by omega) (i + 6) N cl V _ _ rfl (by omega) ?_ ?_ (by omega) hcw hcr hwf hrl <;> omega

set_option maxHeartbeats 4000000 in
set_option maxRecDepth 100000 in
theorem law_short (l : Launch) (D : va_G) (b b9 : Nat) (xs : Nat → Int32) (L : Nat) (hL : L < 6) (V : Wd) : AW l D b jL_law room_1 (some (b9, L, xs)) (lawQ b) 0 [some (.ref b9), none, none, none] [] 0 V 0 0 := by
  refine aw_new dL_law_0 nw_L_7 (Nat.le_of_ble_eq_true rfl) (Nat.le_of_ble_eq_true rfl) ?_
  refine aw_dup dL_law_3 rfl ?_
  refine aw_callIv (As := []) (st := [.ref (b + 0)]) dL_law_4 tb_23 ok_X11_init rfl (c_initFearLocks l D b (va_up V 0 (cO 10 [.null, .null, .null, .null, .int 0, .null, .null, .null, .null, .null, .null])) (va_up_self _ _ _)) rfl (Nat.le_of_ble_eq_true rfl) ⟨Nat.le_of_ble_eq_true rfl, Nat.le_of_ble_eq_true rfl, Nat.le_of_ble_eq_true rfl, Nat.le_of_ble_eq_true rfl⟩ (fun  N_3 V_2 q_4 => ?_)
  obtain ⟨rfl, hI_1⟩ := q_4
  refine aw_astore_n (ls' := [some (.ref b9), some (.ref (b + 0)), none, none]) dL_law_7 (Nat.le_of_ble_eq_true rfl) rfl ?_
  refine aw_new dL_law_8 nw_L_10 (Nat.le_of_ble_eq_true rfl) (Nat.le_of_ble_eq_true rfl) ?_
  refine aw_dup dL_law_11 rfl ?_
  refine aw_callIv (As := []) (st := [.ref (b + 100)]) dL_law_12 tb_1034 ok_X12_init rfl (k_init l D b (va_up V_2 100 (cO 11 [.null, .null, .null, .null, .null, .null, .null, .null, .null, .int 0, .int 0, .int 0, .null, .int 0, .int 0, .int 0, .int 0, .int 0, .int 0, .int 0, .int 0, .int 0, .int 0, .null, .null, .null, .null, .null, .null, .null, .null, .null, .null, .null, .null, .null, .int 0, .int 0, .int 0, .int 0, .null, .null, .null, .null, .null, .int 0, .int 0, .null, .null, .null, .null, .int 0])) (va_up_self _ _ _)) rfl (Nat.le_of_ble_eq_true rfl) ⟨Nat.le_of_ble_eq_true rfl, Nat.le_of_ble_eq_true rfl, Nat.le_of_ble_eq_true rfl, Nat.le_of_ble_eq_true rfl⟩ (fun  N_8 V_7 q_9 => ?_)
  obtain ⟨rfl, hM_5, fr_6⟩ := q_9
  refine aw_astore_n (ls' := [some (.ref b9), some (.ref (b + 0)), some (.ref (b + 100)), none]) dL_law_15 (Nat.le_of_ble_eq_true rfl) rfl ?_
  refine aw_iconst (v := 0) dL_law_16 (by decide) ?_
  refine aw_istore_n (ls' := [some (.ref b9), some (.ref (b + 0)), some (.ref (b + 100)), some (.int 0)]) dL_law_17 (Nat.le_of_ble_eq_true rfl) rfl ?_
  refine aw_iload_n dL_law_18 rfl ?_
  refine aw_aload_n dL_law_19 rfl ?_
  refine aw_slen dL_law_20 rfl ?_
  refine aw_eqi (y := (nI L)) rfl ?_
  refine aw_bipush (v := 6) dL_law_21 (by decide) ?_
  refine aw_isub dL_law_23 ?_
  refine aw_icmp_gt (tgt := 987) dL_law_24 (by decide) (fun c_10 => ?_) (fun c_10 => ?_)
  rotate_left
  · exact absurd (fx_L6 L hL) c_10
  refine aw_iconst (v := 1) dL_law_987 (by decide) ?_
  exact aw_lawret dL_law_988 (Nat.le_of_ble_eq_true rfl) (Nat.le_of_ble_eq_true rfl)

set_option maxHeartbeats 4000000 in
set_option maxRecDepth 100000 in
theorem law_six (l : Launch) (D : va_G) (b b9 : Nat) (xs : Nat → Int32) (M : Nat) (hM : M + 6 ≤ 3072) (V : Wd) : AW l D b jL_law room_1 (some (b9, (M + 6), xs)) (lawQ b) 0 [some (.ref b9), none, none, none] [] 0 V 0 0 := by
  refine aw_new dL_law_0 nw_L_7 (Nat.le_of_ble_eq_true rfl) (Nat.le_of_ble_eq_true rfl) ?_
  refine aw_dup dL_law_3 rfl ?_
  refine aw_callIv (As := []) (st := [.ref (b + 0)]) dL_law_4 tb_23 ok_X11_init rfl (c_initFearLocks l D b (va_up V 0 (cO 10 [.null, .null, .null, .null, .int 0, .null, .null, .null, .null, .null, .null])) (va_up_self _ _ _)) rfl (Nat.le_of_ble_eq_true rfl) ⟨Nat.le_of_ble_eq_true rfl, Nat.le_of_ble_eq_true rfl, Nat.le_of_ble_eq_true rfl, Nat.le_of_ble_eq_true rfl⟩ (fun  N_3 V_2 q_4 => ?_)
  obtain ⟨rfl, hI_1⟩ := q_4
  refine aw_astore_n (ls' := [some (.ref b9), some (.ref (b + 0)), none, none]) dL_law_7 (Nat.le_of_ble_eq_true rfl) rfl ?_
  refine aw_new dL_law_8 nw_L_10 (Nat.le_of_ble_eq_true rfl) (Nat.le_of_ble_eq_true rfl) ?_
  refine aw_dup dL_law_11 rfl ?_
  refine aw_callIv (As := []) (st := [.ref (b + 100)]) dL_law_12 tb_1034 ok_X12_init rfl (k_init l D b (va_up V_2 100 (cO 11 [.null, .null, .null, .null, .null, .null, .null, .null, .null, .int 0, .int 0, .int 0, .null, .int 0, .int 0, .int 0, .int 0, .int 0, .int 0, .int 0, .int 0, .int 0, .int 0, .null, .null, .null, .null, .null, .null, .null, .null, .null, .null, .null, .null, .null, .int 0, .int 0, .int 0, .int 0, .null, .null, .null, .null, .null, .int 0, .int 0, .null, .null, .null, .null, .int 0])) (va_up_self _ _ _)) rfl (Nat.le_of_ble_eq_true rfl) ⟨Nat.le_of_ble_eq_true rfl, Nat.le_of_ble_eq_true rfl, Nat.le_of_ble_eq_true rfl, Nat.le_of_ble_eq_true rfl⟩ (fun  N_8 V_7 q_9 => ?_)
  obtain ⟨rfl, hM_5, fr_6⟩ := q_9
  refine aw_astore_n (ls' := [some (.ref b9), some (.ref (b + 0)), some (.ref (b + 100)), none]) dL_law_15 (Nat.le_of_ble_eq_true rfl) rfl ?_
  refine aw_iconst (v := 0) dL_law_16 (by decide) ?_
  refine aw_istore_n (ls' := [some (.ref b9), some (.ref (b + 0)), some (.ref (b + 100)), some (.int 0)]) dL_law_17 (Nat.le_of_ble_eq_true rfl) rfl ?_
  have hfr := fun i (hi : i < 100) => (fr_6 i hi).trans (va_up_ne _ _ (by omega))
  have hcw := CW.out (I0.cw hI_1) hfr
  exact law_loop l D b b9 xs M hM _ 0 133 0 V_7 _ _ rfl (by omega) (Nat.le_of_ble_eq_true rfl) (Nat.le_of_ble_eq_true rfl) (by omega) hcw (M0.cr hM_5).1 (M0.cr hM_5).2 (RLs.init hI_1 hM_5 hfr)
