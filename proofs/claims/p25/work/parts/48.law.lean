/-! THE CLAIM OUT OF ONE WALK OF THE LAW'S BODY. Your part is whole_start (and what it stands on); all else here is the same for every law, but numbers. -/
def R_law : String := "FearLocksLaw"
def lw_P (b : Addr) (xs : List Int32) (args : Array Value) (s : State) : Prop := args = #[.ref b] ∧ s.IntsAt b xs ∧ xs.length ≤ 3072 ∧ (Jvm.Cond.and given_1 narrow_1).before args s = true
def lw_Q (_ : Array Value) (s : State) (o : Outcome) (t : State) : Prop := o = .returned (some (.int 1)) ∧ Framed s o t [] 600000 7302250
def lw_Z (below : List Frame) (a : Array Value) (s : State) : State → Prop := fun t => ∃ o, t.status = .running ∧ Ended t below o ∧ lw_Q a s o t
/-- the law's own end, with 1 on the stack, nothing written that was there before, its room as the claim has it -/
theorem lw_ret {p : Program} {l : Launch} {e : Env} {s : State} {m : MethodId} {below : List Frame} {meth : Method} {c : Code} {args : Array Value} (hx : p.tables.exec = Jvm.exec) (hb : c.code = code) (hr : meth.sig.returnType = ret) (hlocks : meth.locks = false) {pc : Nat} {H : Heap} {ls : Array Slot} (hdg : decode code pc = .ok (.ireturn, 1)) : W p l e room_1 s m args below meth c H [] 600000 7302250 (lw_Z below args s) (F0 m pc ls [.int 1]) := by
  intro T hT X
  obtain ⟨fs, hret, hrun, hended, hW, hframe⟩ := X.leave (v := some (.int 1)) (hlocks := hlocks) (fun h => by rw [hr] at h; cases h)
  have hmeth' : T.vm.method? m = some meth := X.method'
  refine ⟨T.setFrames fs, ?_, .returned (some (.int 1)), hrun, hended, rfl, ⟨_, rfl⟩, hW, hframe⟩
  jvm_step X.here [X.here.top, hx, hb, hdg, hmeth', hr, ret, narrow_b1]
  (try refine ⟨rfl, ?_⟩); (try refine ⟨rfl, ?_⟩)
  first | (intro acts; rw [hret _ acts rfl rfl rfl]) | rw [hret _ _ rfl rfl rfl]
  exact Steps.refl _

def jL_law : Md := (yL_law, cL_law, 4, some .boolean)
def lawQ (b : Nat) : Array Value → List Frame → State → State → Prop := fun args below s t => s.heap.size ≤ b → lw_Z below args s t
theorem aw_lawret {l : Launch} {D : va_G} {b : Nat} {X : Sc} {pc : Nat} {ls : List (Option Value)} {N : Nat} {V : Wd} {k n : Nat} (hd : decode code pc = .ok (.ireturn, 1)) (hk : k ≤ 600000) (hn : n ≤ 7302250) : AW l D b jL_law room_1 X (lawQ b) pc ls [.int 1] N V k n := by
  intro p e s m args below meth c H locs arr hC hL hA hS T hT X9
  by_cases hsz : s.heap.size ≤ b
  · obtain ⟨t, a1, q⟩ := va_forget (fun q hq => Nat.le_trans hsz (hS.2.2 q hq)) (W.widen hk hn (lw_ret (args := args) hC.1 hC.2.1 hC.2.2.1 hC.2.2.2.2.2.2.1 (H := H) (ls := arr) hd)) T hT X9
    exact ⟨t, a1, fun _ => q⟩
  · exact ⟨_, Steps.refl _, fun h => absurd h hsz⟩

theorem fx_and31 (x : Int32) : ∃ j : Nat, j < 32 ∧ x &&& 31 = nI j := by
  have e : x = nI x.toBitVec.toNat := by
    apply Int32.toBitVec_inj.mp
    simp [nI]
  refine ⟨x.toBitVec.toNat &&& 31, Nat.lt_of_le_of_lt Nat.and_le_right (by decide), ?_⟩
  rw [← fx_andI, ← e]; rfl
theorem fx_lcmp (x : Int64) : lg_cmp x x = 0 := by
  unfold lg_cmp; simp

theorem fx_L6 : ∀ L : Nat, L < 6 → nI L - 6 < 0 := by decide
theorem fx_law6 {M : Nat} : nI (M + 6) - 6 = nI M := by
  rw [← nI_add]; show nI M + 6 - 6 = nI M
  exact Int32.add_sub_cancel _ _
theorem aw_pop2 {l : Launch} {D : va_G} {b : Nat} {J : Md} {R : Room} {X : Sc} {FQ : Array Value → List Frame → State → State → Prop} {pc : Nat} {ls : List (Option Value)} {st : List Value} {N : Nat} {V : Wd} {k n : Nat} {va : Value} (hd : decode J.2.1 pc = .ok (.pop2, 1)) (hv : va.category = 2) (h : AW l D b J R X FQ (pc + 1) ls (st) N V k n) : AW l D b J R X FQ pc ls (va :: st) N V k n := fun p e s m args below meth c H locs arr hC hL hA hS => lv_pop2_2 hC.1 hC.2.1 hd hv (h p e s m args below meth c H locs arr hC hL hA hS)
theorem CW.o0 {D : va_G} {b : Nat} {V : Wd} (h : CW D b V) : ∃ fs, V 0 = cO 10 fs := by
  obtain ⟨_, _, _, e, _⟩ := h 0 _ rfl; exact ⟨_, e⟩
theorem CR.o100 {D : va_G} {b cl : Nat} {V : Wd} (h : CR D b cl V) : ∃ fs, V 100 = cO 11 fs := by
  obtain ⟨_, _, _, _, _, _, _, _, _, _, _, _, _, _, _, _, _, _, _, e, _⟩ := h 0 _ rfl; exact ⟨_, e⟩
theorem CR.fr {D : va_G} {b cl : Nat} {V V' : Wd} (h : CR D b cl V) (f : ∀ i, 100 ≤ i → i < 133 → V' i = V i) : CR D b cl V' := by
  intro i P hi
  have := (List.getElem?_eq_some_iff.mp hi).1
  rw [ctR_len] at this
  rw [f (100 + i) (by omega) (by omega)]; exact h i P hi

theorem nw_L_10 : fx_nw RL 10 11 [.null, .null, .null, .null, .null, .null, .null, .null, .null, .int 0, .int 0, .int 0, .null, .int 0, .int 0, .int 0, .int 0, .int 0, .int 0, .int 0, .int 0, .int 0, .int 0, .null, .null, .null, .null, .null, .null, .null, .null, .null, .null, .null, .null, .null, .int 0, .int 0, .int 0, .int 0, .null, .null, .null, .null, .null, .int 0, .int 0, .null, .null, .null, .null, .int 0] := ⟨RX12, TX12, 52, tyX12, rfl, uw_X12, tyX12_ok, tb_1032, tb_1033, tb_10, by decide +kernel, rfl⟩

theorem nw_L_7 : fx_nw RL 7 10 [.null, .null, .null, .null, .int 0, .null, .null, .null, .null, .null, .null] := ⟨RX11, TX11, 11, tyX11, rfl, uw_X11, tyX11_ok, tb_21, tb_22, tb_1, by decide +kernel, rfl⟩

set_option maxHeartbeats 20000000 in
set_option maxRecDepth 100000 in
theorem law_loop (l : Launch) (D : va_G) (b b9 : Nat) (xs : Nat → Int32) (M : Nat) (hM : M + 6 ≤ 3072) : ∀ (m i N cl : Nat) (V : Wd) (k n : Nat), m = M + 6 - i → i ≤ M + 6 → k ≤ 200 + i → n ≤ 70000 + 3 * i → 133 ≤ N → CW D b V → CR D b cl V → WF D cl V → RLs V → AW l D b jL_law room_1 (some (b9, (M + 6), xs)) (lawQ b) 18 [some (.ref b9), some (.ref (b + 0)), some (.ref (b + 100)), some (.int (nI i))] [] N V k n := by
  intro m; refine Nat.strongRecOn m ?_
  intro m mih i N cl V k n hm hi hk hn hN hcw hcr hwf hrl
  refine aw_iload_n dL_law_18 rfl ?_
  refine aw_aload_n dL_law_19 rfl ?_
  refine aw_slen dL_law_20 rfl ?_
  refine aw_eqi (y := (nI (M + 6))) rfl ?_
  refine aw_bipush (v := 6) dL_law_21 (by decide) ?_
  refine aw_isub dL_law_23 ?_
  refine aw_eqi (y := (nI M)) fx_law6 ?_
  refine aw_icmp_gt (tgt := 987) dL_law_24 (by decide) (fun c_1 => ?_) (fun c_1 => ?_)
  · skip
    have nc_1 : M < i := (nI_ltI (a := M) (b := i) (by omega) (by omega)).mp c_1
    refine aw_iconst (v := 1) dL_law_987 (by decide) ?_
    exact aw_lawret dL_law_988 (by omega) (by omega)
  · skip
    have nc_1 : ¬ (M < i) := fun z => c_1 ((nI_ltI (a := M) (b := i) (by omega) (by omega)).mpr z)
    refine aw_aload_n dL_law_27 rfl ?_
    refine aw_iload_n dL_law_28 rfl ?_
    refine aw_sld dL_law_29 rfl (vp_in_nI (n := i) (by omega) (by omega)) ?_
    refine aw_bipush (v := 31) dL_law_30 (by decide) ?_
    refine aw_iand dL_law_32 ?_
    obtain ⟨j, hj, ej⟩ := fx_and31 (xs ((nI i)).toNatClampNeg)
    refine aw_eqi ej ?_
    have hj32 : j = 0 ∨ j = 1 ∨ j = 2 ∨ j = 3 ∨ j = 4 ∨ j = 5 ∨ j = 6 ∨ j = 7 ∨ j = 8 ∨ j = 9 ∨ j = 10 ∨ j = 11 ∨ j = 12 ∨ j = 13 ∨ j = 14 ∨ j = 15 ∨ j = 16 ∨ j = 17 ∨ j = 18 ∨ j = 19 ∨ j = 20 ∨ j = 21 ∨ j = 22 ∨ j = 23 ∨ j = 24 ∨ j = 25 ∨ j = 26 ∨ j = 27 ∨ j = 28 ∨ j = 29 ∨ j = 30 ∨ j = 31 := by omega
    rcases hj32 with rfl | rfl | rfl | rfl | rfl | rfl | rfl | rfl | rfl | rfl | rfl | rfl | rfl | rfl | rfl | rfl | rfl | rfl | rfl | rfl | rfl | rfl | rfl | rfl | rfl | rfl | rfl | rfl | rfl | rfl | rfl | rfl
    · skip
      refine aw_tableIn (off := 131) (tgt := 164) dL_law_33 (by decide) (by decide) (by decide) (by decide) ?_
      refine aw_aload_n dL_law_164 rfl ?_
      refine aw_aload_n dL_law_165 rfl ?_
      refine aw_iload_n dL_law_166 rfl ?_
      refine aw_iconst (v := 1) dL_law_167 (by decide) ?_
      refine aw_iadd dL_law_168 ?_
      refine aw_eqi (y := nI (i + 1)) (nI_add _ _) ?_
      refine aw_sld dL_law_169 rfl (vp_in_nI (n := (i + 1)) (by omega) (by omega)) ?_
      refine aw_aload_n dL_law_170 rfl ?_
      refine aw_iload_n dL_law_171 rfl ?_
      refine aw_iconst (v := 2) dL_law_172 (by decide) ?_
      refine aw_iadd dL_law_173 ?_
      refine aw_eqi (y := nI (i + 2)) (nI_add _ _) ?_
      refine aw_sld dL_law_174 rfl (vp_in_nI (n := (i + 2)) (by omega) (by omega)) ?_
      refine aw_aload_n dL_law_175 rfl ?_
      refine aw_iload_n dL_law_176 rfl ?_
      refine aw_iconst (v := 3) dL_law_177 (by decide) ?_
      refine aw_iadd dL_law_178 ?_
      refine aw_eqi (y := nI (i + 3)) (nI_add _ _) ?_
      refine aw_sld dL_law_179 rfl (vp_in_nI (n := (i + 3)) (by omega) (by omega)) ?_
      refine aw_aload_n dL_law_180 rfl ?_
      refine aw_iload_n dL_law_181 rfl ?_
      refine aw_iconst (v := 4) dL_law_182 (by decide) ?_
      refine aw_iadd dL_law_183 ?_
      refine aw_eqi (y := nI (i + 4)) (nI_add _ _) ?_
      refine aw_sld dL_law_184 rfl (vp_in_nI (n := (i + 4)) (by omega) (by omega)) ?_
      refine aw_aload_n dL_law_185 rfl ?_
      refine aw_iload_n dL_law_186 rfl ?_
      refine aw_iconst (v := 5) dL_law_187 (by decide) ?_
      refine aw_iadd dL_law_188 ?_
      refine aw_eqi (y := nI (i + 5)) (nI_add _ _) ?_
      refine aw_sld dL_law_189 rfl (vp_in_nI (n := (i + 5)) (by omega) (by omega)) ?_
      refine aw_callVi (J' := jX11_feed) (As := [.int (xs ((nI (i + 1))).toNatClampNeg), .int (xs ((nI (i + 2))).toNatClampNeg), .int (xs ((nI (i + 3))).toNatClampNeg), .int (xs ((nI (i + 4))).toNatClampNeg), .int (xs ((nI (i + 5))).toNatClampNeg)]) (st := []) dL_law_190 tb_255 ok_X11_feed ⟨_, (CW.o0 hcw).choose_spec⟩ (by omega) rfl rfl (g_X11_feedS l D b N V (by omega) hcw (xs ((nI (i + 1))).toNatClampNeg) (xs ((nI (i + 2))).toNatClampNeg) (xs ((nI (i + 3))).toNatClampNeg) (xs ((nI (i + 4))).toNatClampNeg) (xs ((nI (i + 5))).toNatClampNeg) (RLs.tape hrl hcr)) rfl (Nat.le_of_ble_eq_true rfl) ⟨Nat.le_of_ble_eq_true rfl, Nat.le_of_ble_eq_true rfl, (show _ ≤ 600000 from by omega), (show _ ≤ 7302250 from by omega)⟩ (fun r_11 N_12 V_2 q_13 => ?_)
      obtain ⟨⟨hs_3, hb_4⟩, rfl, j_5⟩ := q_13
      have cw_8 := j_5.1
      have cr_9 := CR.fr hcr (fun i h1 h2 => j_5.2.1 i h1 (by omega))
      have wf_10 := WF.fr hwf (fun i h1 h2 => j_5.2.1 i (by omega) (by omega))
      refine aw_pop dL_law_193 rfl ?_
      refine aw_aload_n dL_law_194 rfl ?_
      refine aw_aload_n dL_law_195 rfl ?_
      refine aw_iload_n dL_law_196 rfl ?_
      refine aw_iconst (v := 1) dL_law_197 (by decide) ?_
      refine aw_iadd dL_law_198 ?_
      refine aw_eqi (y := nI (i + 1)) (nI_add _ _) ?_
      refine aw_sld dL_law_199 rfl (vp_in_nI (n := (i + 1)) (by omega) (by omega)) ?_
      refine aw_aload_n dL_law_200 rfl ?_
      refine aw_iload_n dL_law_201 rfl ?_
      refine aw_iconst (v := 2) dL_law_202 (by decide) ?_
      refine aw_iadd dL_law_203 ?_
      refine aw_eqi (y := nI (i + 2)) (nI_add _ _) ?_
      refine aw_sld dL_law_204 rfl (vp_in_nI (n := (i + 2)) (by omega) (by omega)) ?_
      refine aw_aload_n dL_law_205 rfl ?_
      refine aw_iload_n dL_law_206 rfl ?_
      refine aw_iconst (v := 3) dL_law_207 (by decide) ?_
      refine aw_iadd dL_law_208 ?_
      refine aw_eqi (y := nI (i + 3)) (nI_add _ _) ?_
      refine aw_sld dL_law_209 rfl (vp_in_nI (n := (i + 3)) (by omega) (by omega)) ?_
      refine aw_aload_n dL_law_210 rfl ?_
      refine aw_iload_n dL_law_211 rfl ?_
      refine aw_iconst (v := 4) dL_law_212 (by decide) ?_
      refine aw_iadd dL_law_213 ?_
      refine aw_eqi (y := nI (i + 4)) (nI_add _ _) ?_
      refine aw_sld dL_law_214 rfl (vp_in_nI (n := (i + 4)) (by omega) (by omega)) ?_
      refine aw_aload_n dL_law_215 rfl ?_
      refine aw_iload_n dL_law_216 rfl ?_
      refine aw_iconst (v := 5) dL_law_217 (by decide) ?_
      refine aw_iadd dL_law_218 ?_
      refine aw_eqi (y := nI (i + 5)) (nI_add _ _) ?_
      refine aw_sld dL_law_219 rfl (vp_in_nI (n := (i + 5)) (by omega) (by omega)) ?_
      refine aw_callVi (J' := jX12_feed) (As := [.int (xs ((nI (i + 1))).toNatClampNeg), .int (xs ((nI (i + 2))).toNatClampNeg), .int (xs ((nI (i + 3))).toNatClampNeg), .int (xs ((nI (i + 4))).toNatClampNeg), .int (xs ((nI (i + 5))).toNatClampNeg)]) (st := []) dL_law_220 tb_1197 ok_X12_feed ⟨_, (CR.o100 cr_9).choose_spec⟩ (by omega) rfl rfl (r_feedS l D b N V_2 (by omega) cl cr_9 (xs ((nI (i + 1))).toNatClampNeg) (xs ((nI (i + 2))).toNatClampNeg) (xs ((nI (i + 3))).toNatClampNeg) (xs ((nI (i + 4))).toNatClampNeg) (xs ((nI (i + 5))).toNatClampNeg)) rfl (Nat.le_of_ble_eq_true rfl) ⟨Nat.le_of_ble_eq_true rfl, Nat.le_of_ble_eq_true rfl, (show _ ≤ 600000 from by omega), (show _ ≤ 7302250 from by omega)⟩ (fun r_25 N_26 V_14 q_27 => ?_)
      obtain ⟨⟨gs_20, gb_21⟩, rfl, jr_18⟩ := q_27
      have cr_16 := jr_18.1
      have cw_15 := CW.out cw_8 (fun i hi => jr_18.2.1 i (Or.inl hi) (by omega))
      have wf_17 := WF.fr wf_10 jr_18.2.2.1
      have e_22 : fI (V_2 100) 13 = fI (V 1) 1 := (congrArg (fun z => fI z 13) (j_5.2.1 100 (by decide) (by omega))).trans (hrl.2.2.2.1).symm
      rw [e_22] at gs_20
      have o_23 := FDS.one hs_3 gs_20
      have e_24 : gb (fI (V_2 110)) = fI (V 2) := (congrArg (fun z => gb (fI z)) (j_5.2.1 110 (by decide) (by omega))).trans (hrl.2.2.2.2.2.2.1).symm
      rw [e_22, e_24] at gb_21
      have rl_19 : RLs V_14 := ⟨(congrArg (fun z => fI z 4) (jr_18.2.1 0 (Or.inl (by decide)) (by omega))).trans ((JW.fI j_5 (by decide) (by decide) : fI (V_2 0) 4 = fI (V 0) 4).trans ((hrl.1).trans ((congrArg (fun z => fI z 51) (j_5.2.1 100 (by decide) (by omega))).symm.trans (JR.fI jr_18 (by decide) (by decide) (by decide) : fI (V_14 100) 51 = fI (V_2 100) 51).symm))), (congrArg (fun z => fI z 7) (jr_18.2.1 3 (Or.inl (by decide)) (by omega))).trans ((JW.fI j_5 (by decide) (by decide) : fI (V_2 3) 7 = fI (V 3) 7).trans ((hrl.2.1).trans ((congrArg (fun z => fI z 208) (j_5.2.1 101 (by decide) (by omega))).symm.trans (JR.fI jr_18 (by decide) (by decide) (by decide) : fI (V_14 101) 208 = fI (V_2 101) 208).symm))), (congrArg (fun z => fI z 7) (jr_18.2.1 39 (Or.inl (by decide)) (by omega))).trans ((JW.fI j_5 (by decide) (by decide) : fI (V_2 39) 7 = fI (V 39) 7).trans ((hrl.2.2.1).trans ((congrArg (fun z => fI z 208) (j_5.2.1 103 (by decide) (by omega))).symm.trans (JR.fI jr_18 (by decide) (by decide) (by decide) : fI (V_14 103) 208 = fI (V_2 103) 208).symm))), (congrArg (fun z => fI z 1) (jr_18.2.1 1 (Or.inl (by decide)) (by omega))).trans o_23.2, (congrArg (fun z => fI z 5) (jr_18.2.1 3 (Or.inl (by decide)) (by omega))).trans ((JW.fI j_5 (by decide) (by decide) : fI (V_2 3) 5 = fI (V 3) 5).trans ((hrl.2.2.2.2.1).trans ((congrArg (fun z => fI z 9) (j_5.2.1 100 (by decide) (by omega))).symm.trans (JR.fI jr_18 (by decide) (by decide) (by decide) : fI (V_14 100) 9 = fI (V_2 100) 9).symm))), (congrArg (fun z => fI z 6) (jr_18.2.1 3 (Or.inl (by decide)) (by omega))).trans ((JW.fI j_5 (by decide) (by decide) : fI (V_2 3) 6 = fI (V 3) 6).trans ((hrl.2.2.2.2.2.1).trans ((congrArg (fun z => fI z 10) (j_5.2.1 100 (by decide) (by omega))).symm.trans (JR.fI jr_18 (by decide) (by decide) (by decide) : fI (V_14 100) 10 = fI (V_2 100) 10).symm))), (congrArg fI (jr_18.2.1 2 (Or.inl (by decide)) (by omega))).trans (FDB.one hb_4 gb_21), (congrArg (fun z => rs (fI z)) (jr_18.2.1 17 (Or.inl (by decide)) (by omega))).trans ((congrArg (fun z => rs (fI z)) (JW.same j_5 (by decide) (fun k => (nfc (by omega) (nfc (by omega) nf0))))).trans ((hrl.2.2.2.2.2.2.2).trans ((congrArg (fun z => rs (fI z)) (j_5.2.1 104 (by decide) (by omega))).symm.trans (congrArg (fun z => rs (fI z)) (JR.same jr_18 (by decide) (by decide) (fun k => (nfc (by omega) (nfc (by omega) nf0))))).symm)))⟩
      refine aw_pop dL_law_223 rfl ?_
      refine aw_goto (tgt := 981) dL_law_224 (by decide) ?_
      refine aw_iinc (v := (nI (i + 6))) (ls' := [some (.ref b9), some (.ref (b + 0)), some (.ref (b + 100)), some (.int (nI (i + 6)))]) dL_law_981 rfl (nI_add i 6) (Nat.le_of_ble_eq_true rfl) rfl ?_
      refine aw_goto (tgt := 18) dL_law_984 (by decide) ?_
      refine mih (M + 6 - (i + 6)) (by omega) (i + 6) N cl V_14 _ _ rfl (by omega) ?_ ?_ (by omega) cw_15 cr_16 wf_17 rl_19 <;> omega
    · skip
      refine aw_tableIn (off := 194) (tgt := 227) dL_law_33 (by decide) (by decide) (by decide) (by decide) ?_
      refine aw_aload_n dL_law_227 rfl ?_
      refine aw_aload_n dL_law_228 rfl ?_
      refine aw_iload_n dL_law_229 rfl ?_
      refine aw_iconst (v := 1) dL_law_230 (by decide) ?_
      refine aw_iadd dL_law_231 ?_
      refine aw_eqi (y := nI (i + 1)) (nI_add _ _) ?_
      refine aw_sld dL_law_232 rfl (vp_in_nI (n := (i + 1)) (by omega) (by omega)) ?_
      refine aw_callVi (J' := jX11_law) (As := [.int (xs ((nI (i + 1))).toNatClampNeg)]) (st := []) dL_law_233 tb_263 ok_X11_law ⟨_, (CW.o0 hcw).choose_spec⟩ (by omega) rfl rfl (g_X11_lawK l D b N V (by omega) hcw (xs ((nI (i + 1))).toNatClampNeg)) rfl (Nat.le_of_ble_eq_true rfl) ⟨Nat.le_of_ble_eq_true rfl, Nat.le_of_ble_eq_true rfl, (show _ ≤ 600000 from by omega), (show _ ≤ 7302250 from by omega)⟩ (fun r_36 N_37 V_28 q_38 => ?_)
      obtain ⟨hm_31, hm_32, hs_29, j_30⟩ := q_38
      have cw_33 := j_30.1
      have cr_34 := CR.fr hcr (fun i h1 h2 => j_30.2.1 i h1 (by omega))
      have wf_35 := WF.fr hwf (fun i h1 h2 => j_30.2.1 i (by omega) (by omega))
      refine aw_pop dL_law_236 rfl ?_
      refine aw_aload_n dL_law_237 rfl ?_
      refine aw_aload_n dL_law_238 rfl ?_
      refine aw_iload_n dL_law_239 rfl ?_
      refine aw_iconst (v := 1) dL_law_240 (by decide) ?_
      refine aw_iadd dL_law_241 ?_
      refine aw_eqi (y := nI (i + 1)) (nI_add _ _) ?_
      refine aw_sld dL_law_242 rfl (vp_in_nI (n := (i + 1)) (by omega) (by omega)) ?_
      refine aw_callVi (J' := jX12_law) (As := [.int (xs ((nI (i + 1))).toNatClampNeg)]) (st := []) dL_law_243 tb_1205 ok_X12_law ⟨_, (CR.o100 cr_34).choose_spec⟩ (by omega) rfl rfl (r_lawK l D b N_37 V_28 (by omega) cl cr_34 (xs ((nI (i + 1))).toNatClampNeg) wf_35 (xs ((nI (i + 1))).toNatClampNeg) rfl) rfl (Nat.le_of_ble_eq_true rfl) ⟨Nat.le_of_ble_eq_true rfl, Nat.le_of_ble_eq_true rfl, (show _ ≤ 600000 from by omega), (show _ ≤ 7302250 from by omega)⟩ (fun r_49 N_50 V_39 q_51 => ?_)
      obtain ⟨rfl, cl_46, cr_41, fr_47, wf_42, jr_43, gs_45⟩ := q_51
      have cw_40 := CW.out cw_33 (fun i hi => fr_47 i (Or.inl hi) (by omega))
      have e_48 : fI (V_28 100) 13 = fI (V 1) 1 := (congrArg (fun z => fI z 13) (j_30.2.1 100 (by decide) (by omega))).trans (hrl.2.2.2.1).symm
      rw [e_48] at gs_45
      have rl_44 : RLs V_39 := ⟨(congrArg (fun z => fI z 4) (fr_47 0 (Or.inl (by decide)) (by omega))).trans ((JW.fI j_30 (by decide) (by decide) : fI (V_28 0) 4 = fI (V 0) 4).trans ((hrl.1).trans ((congrArg (fun z => fI z 51) (j_30.2.1 100 (by decide) (by omega))).symm.trans (fI_pj (jr_43 100 51 (by decide) (by decide) (by decide))).symm))), (congrArg (fun z => fI z 7) (fr_47 3 (Or.inl (by decide)) (by omega))).trans ((JW.fI j_30 (by decide) (by decide) : fI (V_28 3) 7 = fI (V 3) 7).trans ((hrl.2.1).trans ((congrArg (fun z => fI z 208) (j_30.2.1 101 (by decide) (by omega))).symm.trans (fI_pj (jr_43 101 208 (by decide) (by decide) (by decide))).symm))), (congrArg (fun z => fI z 7) (fr_47 39 (Or.inl (by decide)) (by omega))).trans ((JW.fI j_30 (by decide) (by decide) : fI (V_28 39) 7 = fI (V 39) 7).trans ((hrl.2.2.1).trans ((congrArg (fun z => fI z 208) (j_30.2.1 103 (by decide) (by omega))).symm.trans (fI_pj (jr_43 103 208 (by decide) (by decide) (by decide))).symm))), (congrArg (fun z => fI z 1) (fr_47 1 (Or.inl (by decide)) (by omega))).trans (TKS.one hs_29 gs_45), (congrArg (fun z => fI z 5) (fr_47 3 (Or.inl (by decide)) (by omega))).trans ((JW.fI j_30 (by decide) (by decide) : fI (V_28 3) 5 = fI (V 3) 5).trans ((hrl.2.2.2.2.1).trans ((congrArg (fun z => fI z 9) (j_30.2.1 100 (by decide) (by omega))).symm.trans (fI_pj (jr_43 100 9 (by decide) (by decide) (by decide))).symm))), (congrArg (fun z => fI z 6) (fr_47 3 (Or.inl (by decide)) (by omega))).trans ((JW.fI j_30 (by decide) (by decide) : fI (V_28 3) 6 = fI (V 3) 6).trans ((hrl.2.2.2.2.2.1).trans ((congrArg (fun z => fI z 10) (j_30.2.1 100 (by decide) (by omega))).symm.trans (fI_pj (jr_43 100 10 (by decide) (by decide) (by decide))).symm))), (congrArg fI (fr_47 2 (Or.inl (by decide)) (by omega))).trans ((congrArg fI (JW.same j_30 (by decide) (fun k => (nfc (by omega) (nfc (by omega) (nfc (by omega) (nfc (by omega) (nfc (by omega) (nfc (by omega) (nfc (by omega) nf0)))))))))).trans ((hrl.2.2.2.2.2.2.1).trans ((congrArg (fun z => gb (fI z)) (j_30.2.1 110 (by decide) (by omega))).symm.trans (congrArg (fun z => gb (fI z)) (pj_ext (fun k => jr_43 110 k (by decide) (by decide) (nfc (by omega) (nfc (by omega) (nfc (by omega) (nfc (by omega) (nfc (by omega) (nfc (by omega) (nfc (by omega) (nfc (by omega) (nfc (by omega) (nfc (by omega) (nfc (by omega) nf0)))))))))))))).symm))), (congrArg (fun z => rs (fI z)) (fr_47 17 (Or.inl (by decide)) (by omega))).trans ((congrArg (fun z => rs (fI z)) (JW.same j_30 (by decide) (fun k => (nfc (by omega) (nfc (by omega) (nfc (by omega) (nfc (by omega) (nfc (by omega) (nfc (by omega) (nfc (by omega) nf0)))))))))).trans ((hrl.2.2.2.2.2.2.2).trans ((congrArg (fun z => rs (fI z)) (j_30.2.1 104 (by decide) (by omega))).symm.trans (congrArg (fun z => rs (fI z)) (pj_ext (fun k => jr_43 104 k (by decide) (by decide) (nfc (by omega) (nfc (by omega) (nfc (by omega) (nfc (by omega) (nfc (by omega) (nfc (by omega) (nfc (by omega) (nfc (by omega) (nfc (by omega) (nfc (by omega) (nfc (by omega) nf0)))))))))))))).symm)))⟩
      refine aw_pop dL_law_246 rfl ?_
      refine aw_goto (tgt := 981) dL_law_247 (by decide) ?_
      refine aw_iinc (v := (nI (i + 6))) (ls' := [some (.ref b9), some (.ref (b + 0)), some (.ref (b + 100)), some (.int (nI (i + 6)))]) dL_law_981 rfl (nI_add i 6) (Nat.le_of_ble_eq_true rfl) rfl ?_
      refine aw_goto (tgt := 18) dL_law_984 (by decide) ?_
      refine mih (M + 6 - (i + 6)) (by omega) (i + 6) N_37 cl_46 V_39 _ _ rfl (by omega) ?_ ?_ (by omega) cw_40 cr_41 wf_42 rl_44 <;> omega
    · skip
      refine aw_tableIn (off := 217) (tgt := 250) dL_law_33 (by decide) (by decide) (by decide) (by decide) ?_
      refine aw_aload_n dL_law_250 rfl ?_
      refine aw_aload_n dL_law_251 rfl ?_
      refine aw_iload_n dL_law_252 rfl ?_
      refine aw_iconst (v := 1) dL_law_253 (by decide) ?_
      refine aw_iadd dL_law_254 ?_
      refine aw_eqi (y := nI (i + 1)) (nI_add _ _) ?_
      refine aw_sld dL_law_255 rfl (vp_in_nI (n := (i + 1)) (by omega) (by omega)) ?_
      refine aw_aload_n dL_law_256 rfl ?_
      refine aw_iload_n dL_law_257 rfl ?_
      refine aw_iconst (v := 2) dL_law_258 (by decide) ?_
      refine aw_iadd dL_law_259 ?_
      refine aw_eqi (y := nI (i + 2)) (nI_add _ _) ?_
      refine aw_sld dL_law_260 rfl (vp_in_nI (n := (i + 2)) (by omega) (by omega)) ?_
      refine aw_callVi (J' := jX11_dreads) (As := [.int (xs ((nI (i + 1))).toNatClampNeg), .int (xs ((nI (i + 2))).toNatClampNeg)]) (st := []) dL_law_261 tb_577 ok_X11_dreads ⟨_, (CW.o0 hcw).choose_spec⟩ (by omega) rfl rfl (g_X11_dreadsS2 l D b N V (by omega) hcw (xs ((nI (i + 1))).toNatClampNeg) (xs ((nI (i + 2))).toNatClampNeg)) rfl (Nat.le_of_ble_eq_true rfl) ⟨Nat.le_of_ble_eq_true rfl, Nat.le_of_ble_eq_true rfl, (show _ ≤ 600000 from by omega), (show _ ≤ 7302250 from by omega)⟩ (fun r_65 N_66 V_52 q_67 => ?_)
      obtain ⟨hm_60, hm_61, ha_53, hs_54, ht_55, hp_56, hd_57, hn_58, j_59⟩ := q_67
      have cw_62 := j_59.1
      have cr_63 := CR.fr hcr (fun i h1 h2 => j_59.2.1 i h1 (by omega))
      have wf_64 := WF.fr hwf (fun i h1 h2 => j_59.2.1 i (by omega) (by omega))
      refine aw_pop dL_law_264 rfl ?_
      refine aw_aload_n dL_law_265 rfl ?_
      refine aw_aload_n dL_law_266 rfl ?_
      refine aw_iload_n dL_law_267 rfl ?_
      refine aw_iconst (v := 1) dL_law_268 (by decide) ?_
      refine aw_iadd dL_law_269 ?_
      refine aw_eqi (y := nI (i + 1)) (nI_add _ _) ?_
      refine aw_sld dL_law_270 rfl (vp_in_nI (n := (i + 1)) (by omega) (by omega)) ?_
      refine aw_aload_n dL_law_271 rfl ?_
      refine aw_iload_n dL_law_272 rfl ?_
      refine aw_iconst (v := 2) dL_law_273 (by decide) ?_
      refine aw_iadd dL_law_274 ?_
      refine aw_eqi (y := nI (i + 2)) (nI_add _ _) ?_
      refine aw_sld dL_law_275 rfl (vp_in_nI (n := (i + 2)) (by omega) (by omega)) ?_
      refine aw_callVi (J' := jX12_dreads) (As := [.int (xs ((nI (i + 1))).toNatClampNeg), .int (xs ((nI (i + 2))).toNatClampNeg)]) (st := []) dL_law_276 tb_1295 ok_X12_dreads ⟨_, (CR.o100 cr_63).choose_spec⟩ (by omega) rfl rfl (r_dreadsS2 l D b N_66 V_52 (by omega) cl cr_63 (xs ((nI (i + 1))).toNatClampNeg) (xs ((nI (i + 2))).toNatClampNeg) (xs ((nI (i + 1))).toNatClampNeg) (xs ((nI (i + 2))).toNatClampNeg) ⟨rfl, rfl⟩) rfl (Nat.le_of_ble_eq_true rfl) ⟨Nat.le_of_ble_eq_true rfl, Nat.le_of_ble_eq_true rfl, (show _ ≤ 600000 from by omega), (show _ ≤ 7302250 from by omega)⟩ (fun r_83 N_84 V_68 q_85 => ?_)
      obtain ⟨⟨ga_74, gs_75, gt_76, gp_77, gd_78, gn_79⟩, rfl, jr_72⟩ := q_85
      have cr_70 := jr_72.1
      have cw_69 := CW.out cw_62 (fun i hi => jr_72.2.1 i (Or.inl hi) (by omega))
      have wf_71 := WF.fr wf_64 jr_72.2.2.1
      have e_80 : fI (V_52 100) 13 = fI (V 1) 1 := (congrArg (fun z => fI z 13) (j_59.2.1 100 (by decide) (by omega))).trans (hrl.2.2.2.1).symm
      rw [e_80] at gs_75
      have e_81 : gb (fI (V_52 110)) = fI (V 2) := (congrArg (fun z => gb (fI z)) (j_59.2.1 110 (by decide) (by omega))).trans (hrl.2.2.2.2.2.2.1).symm
      rw [e_80, e_81] at ga_74
      have e_82 : fI (V_52 100) 9 = fI (V 3) 5 := (congrArg (fun z => fI z 9) (j_59.2.1 100 (by decide) (by omega))).trans (hrl.2.2.2.2.1).symm
      rw [e_80, e_82, e_81] at gp_77
      have rl_73 : RLs V_68 := ⟨(congrArg (fun z => fI z 4) (jr_72.2.1 0 (Or.inl (by decide)) (by omega))).trans ((JW.fI j_59 (by decide) (by decide) : fI (V_52 0) 4 = fI (V 0) 4).trans ((hrl.1).trans ((congrArg (fun z => fI z 51) (j_59.2.1 100 (by decide) (by omega))).symm.trans (JR.fI jr_72 (by decide) (by decide) (by decide) : fI (V_68 100) 51 = fI (V_52 100) 51).symm))), (congrArg (fun z => fI z 7) (jr_72.2.1 3 (Or.inl (by decide)) (by omega))).trans (ht_55.trans ((hrl.2.1).trans ((congrArg (fun z => fI z 208) (j_59.2.1 101 (by decide) (by omega))).symm.trans gt_76.symm))), (congrArg (fun z => fI z 7) (jr_72.2.1 39 (Or.inl (by decide)) (by omega))).trans ((JW.fI j_59 (by decide) (by decide) : fI (V_52 39) 7 = fI (V 39) 7).trans ((hrl.2.2.1).trans ((congrArg (fun z => fI z 208) (j_59.2.1 103 (by decide) (by omega))).symm.trans (JR.fI jr_72 (by decide) (by decide) (by decide) : fI (V_68 103) 208 = fI (V_52 103) 208).symm))), (congrArg (fun z => fI z 1) (jr_72.2.1 1 (Or.inl (by decide)) (by omega))).trans (TKS.one hs_54 gs_75), (congrArg (fun z => fI z 5) (jr_72.2.1 3 (Or.inl (by decide)) (by omega))).trans (UPD.one hp_56 gp_77), (congrArg (fun z => fI z 6) (jr_72.2.1 3 (Or.inl (by decide)) (by omega))).trans (hd_57.trans ((hrl.2.2.2.2.2.1).trans ((congrArg (fun z => fI z 10) (j_59.2.1 100 (by decide) (by omega))).symm.trans gd_78.symm))), (congrArg fI (jr_72.2.1 2 (Or.inl (by decide)) (by omega))).trans ((congrArg fI (JW.same j_59 (by decide) (fun k => (nfc (by omega) (nfc (by omega) (nfc (by omega) (nfc (by omega) (nfc (by omega) (nfc (by omega) (nfc (by omega) (nfc (by omega) (nfc (by omega) (nfc (by omega) (nfc (by omega) (nfc (by omega) (nfc (by omega) (nfc (by omega) nf0))))))))))))))))).trans ((hrl.2.2.2.2.2.2.1).trans ((congrArg (fun z => gb (fI z)) (j_59.2.1 110 (by decide) (by omega))).symm.trans (congrArg (fun z => gb (fI z)) (JR.same jr_72 (by decide) (by decide) (fun k => (nfc (by omega) (nfc (by omega) (nfc (by omega) (nfc (by omega) (nfc (by omega) (nfc (by omega) (nfc (by omega) (nfc (by omega) (nfc (by omega) (nfc (by omega) (nfc (by omega) nf0)))))))))))))).symm))), (congrArg (fun z => rs (fI z)) (jr_72.2.1 17 (Or.inl (by decide)) (by omega))).trans (hn_58.trans ((hrl.2.2.2.2.2.2.2).trans ((congrArg (fun z => rs (fI z)) (j_59.2.1 104 (by decide) (by omega))).symm.trans gn_79.symm)))⟩
      refine aw_pop dL_law_279 rfl ?_
      refine aw_goto (tgt := 981) dL_law_280 (by decide) ?_
      refine aw_iinc (v := (nI (i + 6))) (ls' := [some (.ref b9), some (.ref (b + 0)), some (.ref (b + 100)), some (.int (nI (i + 6)))]) dL_law_981 rfl (nI_add i 6) (Nat.le_of_ble_eq_true rfl) rfl ?_
      refine aw_goto (tgt := 18) dL_law_984 (by decide) ?_
      refine mih (M + 6 - (i + 6)) (by omega) (i + 6) N_66 cl V_68 _ _ rfl (by omega) ?_ ?_ (by omega) cw_69 cr_70 wf_71 rl_73 <;> omega
    · skip
      refine aw_tableIn (off := 250) (tgt := 283) dL_law_33 (by decide) (by decide) (by decide) (by decide) ?_
      refine aw_aload_n dL_law_283 rfl ?_
      refine aw_aload_n dL_law_284 rfl ?_
      refine aw_iload_n dL_law_285 rfl ?_
      refine aw_iconst (v := 1) dL_law_286 (by decide) ?_
      refine aw_iadd dL_law_287 ?_
      refine aw_eqi (y := nI (i + 1)) (nI_add _ _) ?_
      refine aw_sld dL_law_288 rfl (vp_in_nI (n := (i + 1)) (by omega) (by omega)) ?_
      refine aw_callVi (J' := jX11_orders) (As := [.int (xs ((nI (i + 1))).toNatClampNeg)]) (st := []) dL_law_289 tb_605 ok_X11_orders ⟨_, (CW.o0 hcw).choose_spec⟩ (by omega) rfl rfl (g_X11_ordersS2 l D b N V (by omega) hcw (xs ((nI (i + 1))).toNatClampNeg)) rfl (Nat.le_of_ble_eq_true rfl) ⟨Nat.le_of_ble_eq_true rfl, Nat.le_of_ble_eq_true rfl, (show _ ≤ 600000 from by omega), (show _ ≤ 7302250 from by omega)⟩ (fun r_99 N_100 V_86 q_101 => ?_)
      obtain ⟨hm_94, hm_95, ha_87, hs_88, ht_89, hp_90, hd_91, hn_92, j_93⟩ := q_101
      have cw_96 := j_93.1
      have cr_97 := CR.fr hcr (fun i h1 h2 => j_93.2.1 i h1 (by omega))
      have wf_98 := WF.fr hwf (fun i h1 h2 => j_93.2.1 i (by omega) (by omega))
      refine aw_pop dL_law_292 rfl ?_
      refine aw_aload_n dL_law_293 rfl ?_
      refine aw_aload_n dL_law_294 rfl ?_
      refine aw_iload_n dL_law_295 rfl ?_
      refine aw_iconst (v := 1) dL_law_296 (by decide) ?_
      refine aw_iadd dL_law_297 ?_
      refine aw_eqi (y := nI (i + 1)) (nI_add _ _) ?_
      refine aw_sld dL_law_298 rfl (vp_in_nI (n := (i + 1)) (by omega) (by omega)) ?_
      refine aw_callVi (J' := jX12_orders) (As := [.int (xs ((nI (i + 1))).toNatClampNeg)]) (st := []) dL_law_299 tb_1331 ok_X12_orders ⟨_, (CR.o100 cr_97).choose_spec⟩ (by omega) rfl rfl (r_ordersS2 l D b N_100 V_86 (by omega) cl cr_97 (xs ((nI (i + 1))).toNatClampNeg) (xs ((nI (i + 1))).toNatClampNeg) rfl) rfl (Nat.le_of_ble_eq_true rfl) ⟨Nat.le_of_ble_eq_true rfl, Nat.le_of_ble_eq_true rfl, (show _ ≤ 600000 from by omega), (show _ ≤ 7302250 from by omega)⟩ (fun r_119 N_120 V_102 q_121 => ?_)
      obtain ⟨⟨ga_108, gs_109, gt_110, gp_111, gd_112, gn_113⟩, rfl, jr_106⟩ := q_121
      have cr_104 := jr_106.1
      have cw_103 := CW.out cw_96 (fun i hi => jr_106.2.1 i (Or.inl hi) (by omega))
      have wf_105 := WF.fr wf_98 jr_106.2.2.1
      have e_114 : fI (V_86 100) 13 = fI (V 1) 1 := (congrArg (fun z => fI z 13) (j_93.2.1 100 (by decide) (by omega))).trans (hrl.2.2.2.1).symm
      rw [e_114] at gs_109
      have e_115 : fI (V_86 100) 9 = fI (V 3) 5 := (congrArg (fun z => fI z 9) (j_93.2.1 100 (by decide) (by omega))).trans (hrl.2.2.2.2.1).symm
      have e_116 : fI (V_86 100) 10 = fI (V 3) 6 := (congrArg (fun z => fI z 10) (j_93.2.1 100 (by decide) (by omega))).trans (hrl.2.2.2.2.2.1).symm
      have e_117 : gb (fI (V_86 110)) = fI (V 2) := (congrArg (fun z => gb (fI z)) (j_93.2.1 110 (by decide) (by omega))).trans (hrl.2.2.2.2.2.2.1).symm
      have e_118 : rs (fI (V_86 104)) = rs (fI (V 17)) := (congrArg (fun z => rs (fI z)) (j_93.2.1 104 (by decide) (by omega))).trans (hrl.2.2.2.2.2.2.2).symm
      rw [e_114, e_115, e_116, e_117, e_118] at ga_108
      rw [e_114, e_115, e_116, e_117, e_118] at gd_112
      rw [e_114, e_115, e_116, e_117, e_118] at gn_113
      have rl_107 : RLs V_102 := ⟨(congrArg (fun z => fI z 4) (jr_106.2.1 0 (Or.inl (by decide)) (by omega))).trans ((JW.fI j_93 (by decide) (by decide) : fI (V_86 0) 4 = fI (V 0) 4).trans ((hrl.1).trans ((congrArg (fun z => fI z 51) (j_93.2.1 100 (by decide) (by omega))).symm.trans (JR.fI jr_106 (by decide) (by decide) (by decide) : fI (V_102 100) 51 = fI (V_86 100) 51).symm))), (congrArg (fun z => fI z 7) (jr_106.2.1 3 (Or.inl (by decide)) (by omega))).trans (ht_89.trans ((hrl.2.1).trans ((congrArg (fun z => fI z 208) (j_93.2.1 101 (by decide) (by omega))).symm.trans gt_110.symm))), (congrArg (fun z => fI z 7) (jr_106.2.1 39 (Or.inl (by decide)) (by omega))).trans ((JW.fI j_93 (by decide) (by decide) : fI (V_86 39) 7 = fI (V 39) 7).trans ((hrl.2.2.1).trans ((congrArg (fun z => fI z 208) (j_93.2.1 103 (by decide) (by omega))).symm.trans (JR.fI jr_106 (by decide) (by decide) (by decide) : fI (V_102 103) 208 = fI (V_86 103) 208).symm))), (congrArg (fun z => fI z 1) (jr_106.2.1 1 (Or.inl (by decide)) (by omega))).trans (TKS.one hs_88 gs_109), (congrArg (fun z => fI z 5) (jr_106.2.1 3 (Or.inl (by decide)) (by omega))).trans (hp_90.trans ((hrl.2.2.2.2.1).trans ((congrArg (fun z => fI z 9) (j_93.2.1 100 (by decide) (by omega))).symm.trans gp_111.symm))), (congrArg (fun z => fI z 6) (jr_106.2.1 3 (Or.inl (by decide)) (by omega))).trans (UPD.one hd_91 gd_112), (congrArg fI (jr_106.2.1 2 (Or.inl (by decide)) (by omega))).trans ((congrArg fI (JW.same j_93 (by decide) (fun k => (nfc (by omega) (nfc (by omega) (nfc (by omega) (nfc (by omega) (nfc (by omega) (nfc (by omega) (nfc (by omega) (nfc (by omega) (nfc (by omega) (nfc (by omega) (nfc (by omega) (nfc (by omega) (nfc (by omega) (nfc (by omega) nf0))))))))))))))))).trans ((hrl.2.2.2.2.2.2.1).trans ((congrArg (fun z => gb (fI z)) (j_93.2.1 110 (by decide) (by omega))).symm.trans (congrArg (fun z => gb (fI z)) (JR.same jr_106 (by decide) (by decide) (fun k => (nfc (by omega) (nfc (by omega) (nfc (by omega) (nfc (by omega) (nfc (by omega) (nfc (by omega) (nfc (by omega) (nfc (by omega) (nfc (by omega) (nfc (by omega) (nfc (by omega) (nfc (by omega) nf0))))))))))))))).symm))), (congrArg (fun z => rs (fI z)) (jr_106.2.1 17 (Or.inl (by decide)) (by omega))).trans (UPD.one hn_92 gn_113)⟩
      refine aw_pop dL_law_302 rfl ?_
      refine aw_goto (tgt := 981) dL_law_303 (by decide) ?_
      refine aw_iinc (v := (nI (i + 6))) (ls' := [some (.ref b9), some (.ref (b + 0)), some (.ref (b + 100)), some (.int (nI (i + 6)))]) dL_law_981 rfl (nI_add i 6) (Nat.le_of_ble_eq_true rfl) rfl ?_
      refine aw_goto (tgt := 18) dL_law_984 (by decide) ?_
      refine mih (M + 6 - (i + 6)) (by omega) (i + 6) N_100 cl V_102 _ _ rfl (by omega) ?_ ?_ (by omega) cw_103 cr_104 wf_105 rl_107 <;> omega
    · skip
      refine aw_tableIn (off := 273) (tgt := 306) dL_law_33 (by decide) (by decide) (by decide) (by decide) ?_
      refine aw_aload_n dL_law_306 rfl ?_
      refine aw_aload_n dL_law_307 rfl ?_
      refine aw_iload_n dL_law_308 rfl ?_
      refine aw_iconst (v := 1) dL_law_309 (by decide) ?_
      refine aw_iadd dL_law_310 ?_
      refine aw_eqi (y := nI (i + 1)) (nI_add _ _) ?_
      refine aw_sld dL_law_311 rfl (vp_in_nI (n := (i + 1)) (by omega) (by omega)) ?_
      refine aw_callVi (J' := jX11_nights) (As := [.int (xs ((nI (i + 1))).toNatClampNeg)]) (st := []) dL_law_312 tb_622 ok_X11_nights ⟨_, (CW.o0 hcw).choose_spec⟩ (by omega) rfl rfl (g_X11_nightsK l D b N V (by omega) hcw (xs ((nI (i + 1))).toNatClampNeg)) rfl (Nat.le_of_ble_eq_true rfl) ⟨Nat.le_of_ble_eq_true rfl, Nat.le_of_ble_eq_true rfl, (show _ ≤ 600000 from by omega), (show _ ≤ 7302250 from by omega)⟩ (fun r_130 N_131 V_122 q_132 => ?_)
      obtain ⟨ht_123, rfl, j_124⟩ := q_132
      have cw_127 := j_124.1
      have cr_128 := CR.fr hcr (fun i h1 h2 => j_124.2.1 i h1 (by omega))
      have wf_129 := WF.fr hwf (fun i h1 h2 => j_124.2.1 i (by omega) (by omega))
      refine aw_pop dL_law_315 rfl ?_
      refine aw_aload_n dL_law_316 rfl ?_
      refine aw_aload_n dL_law_317 rfl ?_
      refine aw_iload_n dL_law_318 rfl ?_
      refine aw_iconst (v := 1) dL_law_319 (by decide) ?_
      refine aw_iadd dL_law_320 ?_
      refine aw_eqi (y := nI (i + 1)) (nI_add _ _) ?_
      refine aw_sld dL_law_321 rfl (vp_in_nI (n := (i + 1)) (by omega) (by omega)) ?_
      refine aw_callVi (J' := jX12_nights) (As := [.int (xs ((nI (i + 1))).toNatClampNeg)]) (st := []) dL_law_322 tb_1367 ok_X12_nights ⟨_, (CR.o100 cr_128).choose_spec⟩ (by omega) rfl rfl (r_nightsK l D b N V_122 (by omega) cl cr_128 (xs ((nI (i + 1))).toNatClampNeg) wf_129 (xs ((nI (i + 1))).toNatClampNeg) rfl) rfl (Nat.le_of_ble_eq_true rfl) ⟨Nat.le_of_ble_eq_true rfl, Nat.le_of_ble_eq_true rfl, (show _ ≤ 600000 from by omega), (show _ ≤ 7302250 from by omega)⟩ (fun r_141 N_142 V_133 q_143 => ?_)
      obtain ⟨gt_139, rfl, jr_137⟩ := q_143
      have cr_135 := jr_137.1
      have cw_134 := CW.out cw_127 (fun i hi => jr_137.2.1 i (Or.inl hi) (by omega))
      have wf_136 := WF.fr wf_129 jr_137.2.2.1
      have e_140 : fI (V_122 101) 208 = fI (V 3) 7 := (congrArg (fun z => fI z 208) (j_124.2.1 101 (by decide) (by omega))).trans (hrl.2.1).symm
      rw [e_140] at gt_139
      have rl_138 : RLs V_133 := ⟨(congrArg (fun z => fI z 4) (jr_137.2.1 0 (Or.inl (by decide)) (by omega))).trans ((JW.fI j_124 (by decide) (by decide) : fI (V_122 0) 4 = fI (V 0) 4).trans ((hrl.1).trans ((congrArg (fun z => fI z 51) (j_124.2.1 100 (by decide) (by omega))).symm.trans (JR.fI jr_137 (by decide) (by decide) (by decide) : fI (V_133 100) 51 = fI (V_122 100) 51).symm))), (congrArg (fun z => fI z 7) (jr_137.2.1 3 (Or.inl (by decide)) (by omega))).trans (NTS.one ht_123 gt_139), (congrArg (fun z => fI z 7) (jr_137.2.1 39 (Or.inl (by decide)) (by omega))).trans ((JW.fI j_124 (by decide) (by decide) : fI (V_122 39) 7 = fI (V 39) 7).trans ((hrl.2.2.1).trans ((congrArg (fun z => fI z 208) (j_124.2.1 103 (by decide) (by omega))).symm.trans (JR.fI jr_137 (by decide) (by decide) (by decide) : fI (V_133 103) 208 = fI (V_122 103) 208).symm))), (congrArg (fun z => fI z 1) (jr_137.2.1 1 (Or.inl (by decide)) (by omega))).trans ((JW.fI j_124 (by decide) (by decide) : fI (V_122 1) 1 = fI (V 1) 1).trans ((hrl.2.2.2.1).trans ((congrArg (fun z => fI z 13) (j_124.2.1 100 (by decide) (by omega))).symm.trans (JR.fI jr_137 (by decide) (by decide) (by decide) : fI (V_133 100) 13 = fI (V_122 100) 13).symm))), (congrArg (fun z => fI z 5) (jr_137.2.1 3 (Or.inl (by decide)) (by omega))).trans ((JW.fI j_124 (by decide) (by decide) : fI (V_122 3) 5 = fI (V 3) 5).trans ((hrl.2.2.2.2.1).trans ((congrArg (fun z => fI z 9) (j_124.2.1 100 (by decide) (by omega))).symm.trans (JR.fI jr_137 (by decide) (by decide) (by decide) : fI (V_133 100) 9 = fI (V_122 100) 9).symm))), (congrArg (fun z => fI z 6) (jr_137.2.1 3 (Or.inl (by decide)) (by omega))).trans ((JW.fI j_124 (by decide) (by decide) : fI (V_122 3) 6 = fI (V 3) 6).trans ((hrl.2.2.2.2.2.1).trans ((congrArg (fun z => fI z 10) (j_124.2.1 100 (by decide) (by omega))).symm.trans (JR.fI jr_137 (by decide) (by decide) (by decide) : fI (V_133 100) 10 = fI (V_122 100) 10).symm))), (congrArg fI (jr_137.2.1 2 (Or.inl (by decide)) (by omega))).trans ((congrArg fI (JW.same j_124 (by decide) (fun k => (nfc (by omega) (nfc (by omega) (nfc (by omega) (nfc (by omega) (nfc (by omega) (nfc (by omega) (nfc (by omega) (nfc (by omega) (nfc (by omega) (nfc (by omega) (nfc (by omega) (nfc (by omega) nf0))))))))))))))).trans ((hrl.2.2.2.2.2.2.1).trans ((congrArg (fun z => gb (fI z)) (j_124.2.1 110 (by decide) (by omega))).symm.trans (congrArg (fun z => gb (fI z)) (JR.same jr_137 (by decide) (by decide) (fun k => (nfc (by omega) (nfc (by omega) (nfc (by omega) (nfc (by omega) (nfc (by omega) (nfc (by omega) (nfc (by omega) nf0)))))))))).symm))), (congrArg (fun z => rs (fI z)) (jr_137.2.1 17 (Or.inl (by decide)) (by omega))).trans ((congrArg (fun z => rs (fI z)) (JW.same j_124 (by decide) (fun k => (nfc (by omega) (nfc (by omega) (nfc (by omega) (nfc (by omega) (nfc (by omega) (nfc (by omega) (nfc (by omega) (nfc (by omega) (nfc (by omega) (nfc (by omega) (nfc (by omega) (nfc (by omega) nf0))))))))))))))).trans ((hrl.2.2.2.2.2.2.2).trans ((congrArg (fun z => rs (fI z)) (j_124.2.1 104 (by decide) (by omega))).symm.trans (congrArg (fun z => rs (fI z)) (JR.same jr_137 (by decide) (by decide) (fun k => (nfc (by omega) (nfc (by omega) (nfc (by omega) (nfc (by omega) (nfc (by omega) (nfc (by omega) (nfc (by omega) nf0)))))))))).symm)))⟩
      refine aw_pop dL_law_325 rfl ?_
      refine aw_goto (tgt := 981) dL_law_326 (by decide) ?_
      refine aw_iinc (v := (nI (i + 6))) (ls' := [some (.ref b9), some (.ref (b + 0)), some (.ref (b + 100)), some (.int (nI (i + 6)))]) dL_law_981 rfl (nI_add i 6) (Nat.le_of_ble_eq_true rfl) rfl ?_
      refine aw_goto (tgt := 18) dL_law_984 (by decide) ?_
      refine mih (M + 6 - (i + 6)) (by omega) (i + 6) N cl V_133 _ _ rfl (by omega) ?_ ?_ (by omega) cw_134 cr_135 wf_136 rl_138 <;> omega
    · skip
      refine aw_tableIn (off := 296) (tgt := 329) dL_law_33 (by decide) (by decide) (by decide) (by decide) ?_
      refine aw_aload_n dL_law_329 rfl ?_
      refine aw_aload_n dL_law_330 rfl ?_
      refine aw_iload_n dL_law_331 rfl ?_
      refine aw_iconst (v := 1) dL_law_332 (by decide) ?_
      refine aw_iadd dL_law_333 ?_
      refine aw_eqi (y := nI (i + 1)) (nI_add _ _) ?_
      refine aw_sld dL_law_334 rfl (vp_in_nI (n := (i + 1)) (by omega) (by omega)) ?_
      refine aw_aload_n dL_law_335 rfl ?_
      refine aw_iload_n dL_law_336 rfl ?_
      refine aw_iconst (v := 2) dL_law_337 (by decide) ?_
      refine aw_iadd dL_law_338 ?_
      refine aw_eqi (y := nI (i + 2)) (nI_add _ _) ?_
      refine aw_sld dL_law_339 rfl (vp_in_nI (n := (i + 2)) (by omega) (by omega)) ?_
      refine aw_callVi (J' := jX11_tried) (As := [.int (xs ((nI (i + 1))).toNatClampNeg), .int (xs ((nI (i + 2))).toNatClampNeg)]) (st := []) dL_law_340 tb_737 ok_X11_tried ⟨_, (CW.o0 hcw).choose_spec⟩ (by omega) rfl rfl (g_X11_tried l D b N V (by omega) hcw (xs ((nI (i + 1))).toNatClampNeg) (xs ((nI (i + 2))).toNatClampNeg)) rfl (Nat.le_of_ble_eq_true rfl) ⟨Nat.le_of_ble_eq_true rfl, Nat.le_of_ble_eq_true rfl, (show _ ≤ 600000 from by omega), (show _ ≤ 7302250 from by omega)⟩ (fun r_151 N_152 V_144 q_153 => ?_)
      obtain ⟨rfl, j_145⟩ := q_153
      have cw_148 := j_145.1
      have cr_149 := CR.fr hcr (fun i h1 h2 => j_145.2.1 i h1 (by omega))
      have wf_150 := WF.fr hwf (fun i h1 h2 => j_145.2.1 i (by omega) (by omega))
      refine aw_pop dL_law_343 rfl ?_
      refine aw_aload_n dL_law_344 rfl ?_
      refine aw_aload_n dL_law_345 rfl ?_
      refine aw_iload_n dL_law_346 rfl ?_
      refine aw_iconst (v := 1) dL_law_347 (by decide) ?_
      refine aw_iadd dL_law_348 ?_
      refine aw_eqi (y := nI (i + 1)) (nI_add _ _) ?_
      refine aw_sld dL_law_349 rfl (vp_in_nI (n := (i + 1)) (by omega) (by omega)) ?_
      refine aw_aload_n dL_law_350 rfl ?_
      refine aw_iload_n dL_law_351 rfl ?_
      refine aw_iconst (v := 2) dL_law_352 (by decide) ?_
      refine aw_iadd dL_law_353 ?_
      refine aw_eqi (y := nI (i + 2)) (nI_add _ _) ?_
      refine aw_sld dL_law_354 rfl (vp_in_nI (n := (i + 2)) (by omega) (by omega)) ?_
      refine aw_callVi (J' := jX12_tried) (As := [.int (xs ((nI (i + 1))).toNatClampNeg), .int (xs ((nI (i + 2))).toNatClampNeg)]) (st := []) dL_law_355 tb_1442 ok_X12_tried ⟨_, (CR.o100 cr_149).choose_spec⟩ (by omega) rfl rfl (r_triedK l D b N V_144 (by omega) cl cr_149 (xs ((nI (i + 1))).toNatClampNeg) (xs ((nI (i + 2))).toNatClampNeg) wf_150) rfl (Nat.le_of_ble_eq_true rfl) ⟨Nat.le_of_ble_eq_true rfl, Nat.le_of_ble_eq_true rfl, (show _ ≤ 600000 from by omega), (show _ ≤ 7302250 from by omega)⟩ (fun r_161 N_162 V_154 q_163 => ?_)
      obtain ⟨gt_160, rfl, jr_158⟩ := q_163
      have cr_156 := jr_158.1
      have cw_155 := CW.out cw_148 (fun i hi => jr_158.2.1 i (Or.inl hi) (by omega))
      have wf_157 := WF.fr wf_150 jr_158.2.2.1
      have rl_159 : RLs V_154 := ⟨(congrArg (fun z => fI z 4) (jr_158.2.1 0 (Or.inl (by decide)) (by omega))).trans ((JW.fI j_145 (by decide) (by decide) : fI (V_144 0) 4 = fI (V 0) 4).trans ((hrl.1).trans ((congrArg (fun z => fI z 51) (j_145.2.1 100 (by decide) (by omega))).symm.trans (JR.fI jr_158 (by decide) (by decide) (by decide) : fI (V_154 100) 51 = fI (V_144 100) 51).symm))), (congrArg (fun z => fI z 7) (jr_158.2.1 3 (Or.inl (by decide)) (by omega))).trans ((JW.fI j_145 (by decide) (by decide) : fI (V_144 3) 7 = fI (V 3) 7).trans ((hrl.2.1).trans ((congrArg (fun z => fI z 208) (j_145.2.1 101 (by decide) (by omega))).symm.trans gt_160.symm))), (congrArg (fun z => fI z 7) (jr_158.2.1 39 (Or.inl (by decide)) (by omega))).trans ((JW.fI j_145 (by decide) (by decide) : fI (V_144 39) 7 = fI (V 39) 7).trans ((hrl.2.2.1).trans ((congrArg (fun z => fI z 208) (j_145.2.1 103 (by decide) (by omega))).symm.trans (JR.fI jr_158 (by decide) (by decide) (by decide) : fI (V_154 103) 208 = fI (V_144 103) 208).symm))), (congrArg (fun z => fI z 1) (jr_158.2.1 1 (Or.inl (by decide)) (by omega))).trans ((JW.fI j_145 (by decide) (by decide) : fI (V_144 1) 1 = fI (V 1) 1).trans ((hrl.2.2.2.1).trans ((congrArg (fun z => fI z 13) (j_145.2.1 100 (by decide) (by omega))).symm.trans (JR.fI jr_158 (by decide) (by decide) (by decide) : fI (V_154 100) 13 = fI (V_144 100) 13).symm))), (congrArg (fun z => fI z 5) (jr_158.2.1 3 (Or.inl (by decide)) (by omega))).trans ((JW.fI j_145 (by decide) (by decide) : fI (V_144 3) 5 = fI (V 3) 5).trans ((hrl.2.2.2.2.1).trans ((congrArg (fun z => fI z 9) (j_145.2.1 100 (by decide) (by omega))).symm.trans (JR.fI jr_158 (by decide) (by decide) (by decide) : fI (V_154 100) 9 = fI (V_144 100) 9).symm))), (congrArg (fun z => fI z 6) (jr_158.2.1 3 (Or.inl (by decide)) (by omega))).trans ((JW.fI j_145 (by decide) (by decide) : fI (V_144 3) 6 = fI (V 3) 6).trans ((hrl.2.2.2.2.2.1).trans ((congrArg (fun z => fI z 10) (j_145.2.1 100 (by decide) (by omega))).symm.trans (JR.fI jr_158 (by decide) (by decide) (by decide) : fI (V_154 100) 10 = fI (V_144 100) 10).symm))), (congrArg fI (jr_158.2.1 2 (Or.inl (by decide)) (by omega))).trans ((congrArg fI (JW.same j_145 (by decide) (fun k => (nfc (by omega) (nfc (by omega) (nfc (by omega) (nfc (by omega) (nfc (by omega) (nfc (by omega) (nfc (by omega) (nfc (by omega) (nfc (by omega) (nfc (by omega) (nfc (by omega) (nfc (by omega) (nfc (by omega) nf0)))))))))))))))).trans ((hrl.2.2.2.2.2.2.1).trans ((congrArg (fun z => gb (fI z)) (j_145.2.1 110 (by decide) (by omega))).symm.trans (congrArg (fun z => gb (fI z)) (JR.same jr_158 (by decide) (by decide) (fun k => (nfc (by omega) (nfc (by omega) (nfc (by omega) (nfc (by omega) nf0))))))).symm))), (congrArg (fun z => rs (fI z)) (jr_158.2.1 17 (Or.inl (by decide)) (by omega))).trans ((congrArg (fun z => rs (fI z)) (JW.same j_145 (by decide) (fun k => (nfc (by omega) (nfc (by omega) (nfc (by omega) (nfc (by omega) (nfc (by omega) (nfc (by omega) (nfc (by omega) (nfc (by omega) (nfc (by omega) (nfc (by omega) (nfc (by omega) (nfc (by omega) (nfc (by omega) nf0)))))))))))))))).trans ((hrl.2.2.2.2.2.2.2).trans ((congrArg (fun z => rs (fI z)) (j_145.2.1 104 (by decide) (by omega))).symm.trans (congrArg (fun z => rs (fI z)) (JR.same jr_158 (by decide) (by decide) (fun k => (nfc (by omega) (nfc (by omega) (nfc (by omega) (nfc (by omega) nf0))))))).symm)))⟩
      refine aw_pop dL_law_358 rfl ?_
      refine aw_goto (tgt := 981) dL_law_359 (by decide) ?_
      refine aw_iinc (v := (nI (i + 6))) (ls' := [some (.ref b9), some (.ref (b + 0)), some (.ref (b + 100)), some (.int (nI (i + 6)))]) dL_law_981 rfl (nI_add i 6) (Nat.le_of_ble_eq_true rfl) rfl ?_
      refine aw_goto (tgt := 18) dL_law_984 (by decide) ?_
      refine mih (M + 6 - (i + 6)) (by omega) (i + 6) N cl V_154 _ _ rfl (by omega) ?_ ?_ (by omega) cw_155 cr_156 wf_157 rl_159 <;> omega
    · skip
      refine aw_tableIn (off := 329) (tgt := 362) dL_law_33 (by decide) (by decide) (by decide) (by decide) ?_
      refine aw_aload_n dL_law_362 rfl ?_
      refine aw_aload_n dL_law_363 rfl ?_
      refine aw_iload_n dL_law_364 rfl ?_
      refine aw_iconst (v := 1) dL_law_365 (by decide) ?_
      refine aw_iadd dL_law_366 ?_
      refine aw_eqi (y := nI (i + 1)) (nI_add _ _) ?_
      refine aw_sld dL_law_367 rfl (vp_in_nI (n := (i + 1)) (by omega) (by omega)) ?_
      refine aw_aload_n dL_law_368 rfl ?_
      refine aw_iload_n dL_law_369 rfl ?_
      refine aw_iconst (v := 2) dL_law_370 (by decide) ?_
      refine aw_iadd dL_law_371 ?_
      refine aw_eqi (y := nI (i + 2)) (nI_add _ _) ?_
      refine aw_sld dL_law_372 rfl (vp_in_nI (n := (i + 2)) (by omega) (by omega)) ?_
      refine aw_callVi (J' := jX11_personIs) (As := [.int (xs ((nI (i + 1))).toNatClampNeg), .int (xs ((nI (i + 2))).toNatClampNeg)]) (st := []) dL_law_373 tb_753 ok_X11_personIs ⟨_, (CW.o0 hcw).choose_spec⟩ (by omega) rfl rfl (g_X11_personIs l D b N V (by omega) hcw (xs ((nI (i + 1))).toNatClampNeg) (xs ((nI (i + 2))).toNatClampNeg)) rfl (Nat.le_of_ble_eq_true rfl) ⟨Nat.le_of_ble_eq_true rfl, Nat.le_of_ble_eq_true rfl, (show _ ≤ 600000 from by omega), (show _ ≤ 7302250 from by omega)⟩ (fun r_165 N_166 V_167 q_168 => ?_)
      obtain ⟨rfl, rfl⟩ := q_168
      refine aw_pop dL_law_376 rfl ?_
      refine aw_aload_n dL_law_377 rfl ?_
      refine aw_aload_n dL_law_378 rfl ?_
      refine aw_iload_n dL_law_379 rfl ?_
      refine aw_iconst (v := 1) dL_law_380 (by decide) ?_
      refine aw_iadd dL_law_381 ?_
      refine aw_eqi (y := nI (i + 1)) (nI_add _ _) ?_
      refine aw_sld dL_law_382 rfl (vp_in_nI (n := (i + 1)) (by omega) (by omega)) ?_
      refine aw_aload_n dL_law_383 rfl ?_
      refine aw_iload_n dL_law_384 rfl ?_
      refine aw_iconst (v := 2) dL_law_385 (by decide) ?_
      refine aw_iadd dL_law_386 ?_
      refine aw_eqi (y := nI (i + 2)) (nI_add _ _) ?_
      refine aw_sld dL_law_387 rfl (vp_in_nI (n := (i + 2)) (by omega) (by omega)) ?_
      refine aw_callVi (J' := jX12_personIs) (As := [.int (xs ((nI (i + 1))).toNatClampNeg), .int (xs ((nI (i + 2))).toNatClampNeg)]) (st := []) dL_law_388 tb_1449 ok_X12_personIs ⟨_, (CR.o100 hcr).choose_spec⟩ (by omega) rfl rfl (r_personIs l D b N V (by omega) cl hcr (xs ((nI (i + 1))).toNatClampNeg) (xs ((nI (i + 2))).toNatClampNeg)) rfl (Nat.le_of_ble_eq_true rfl) ⟨Nat.le_of_ble_eq_true rfl, Nat.le_of_ble_eq_true rfl, (show _ ≤ 600000 from by omega), (show _ ≤ 7302250 from by omega)⟩ (fun r_175 N_176 V_177 q_178 => ?_)
      obtain ⟨rfl, rfl⟩ := q_178
      refine aw_pop dL_law_391 rfl ?_
      refine aw_goto (tgt := 981) dL_law_392 (by decide) ?_
      refine aw_iinc (v := (nI (i + 6))) (ls' := [some (.ref b9), some (.ref (b + 0)), some (.ref (b + 100)), some (.int (nI (i + 6)))]) dL_law_981 rfl (nI_add i 6) (Nat.le_of_ble_eq_true rfl) rfl ?_
      refine aw_goto (tgt := 18) dL_law_984 (by decide) ?_
      refine mih (M + 6 - (i + 6)) (by omega) (i + 6) N cl V _ _ rfl (by omega) ?_ ?_ (by omega) hcw hcr hwf hrl <;> omega
    · skip
      refine aw_tableIn (off := 362) (tgt := 395) dL_law_33 (by decide) (by decide) (by decide) (by decide) ?_
      refine aw_aload_n dL_law_395 rfl ?_
      refine aw_aload_n dL_law_396 rfl ?_
      refine aw_iload_n dL_law_397 rfl ?_
      refine aw_iconst (v := 1) dL_law_398 (by decide) ?_
      refine aw_iadd dL_law_399 ?_
      refine aw_eqi (y := nI (i + 1)) (nI_add _ _) ?_
      refine aw_sld dL_law_400 rfl (vp_in_nI (n := (i + 1)) (by omega) (by omega)) ?_
      refine aw_aload_n dL_law_401 rfl ?_
      refine aw_iload_n dL_law_402 rfl ?_
      refine aw_iconst (v := 2) dL_law_403 (by decide) ?_
      refine aw_iadd dL_law_404 ?_
      refine aw_eqi (y := nI (i + 2)) (nI_add _ _) ?_
      refine aw_sld dL_law_405 rfl (vp_in_nI (n := (i + 2)) (by omega) (by omega)) ?_
      refine aw_callVi (J' := jX11_doorIs) (As := [.int (xs ((nI (i + 1))).toNatClampNeg), .int (xs ((nI (i + 2))).toNatClampNeg)]) (st := []) dL_law_406 tb_768 ok_X11_doorIs ⟨_, (CW.o0 hcw).choose_spec⟩ (by omega) rfl rfl (g_X11_doorIs l D b N V (by omega) hcw (xs ((nI (i + 1))).toNatClampNeg) (xs ((nI (i + 2))).toNatClampNeg)) rfl (Nat.le_of_ble_eq_true rfl) ⟨Nat.le_of_ble_eq_true rfl, Nat.le_of_ble_eq_true rfl, (show _ ≤ 600000 from by omega), (show _ ≤ 7302250 from by omega)⟩ (fun r_180 N_181 V_182 q_183 => ?_)
      obtain ⟨rfl, rfl⟩ := q_183
      refine aw_pop dL_law_409 rfl ?_
      refine aw_aload_n dL_law_410 rfl ?_
      refine aw_aload_n dL_law_411 rfl ?_
      refine aw_iload_n dL_law_412 rfl ?_
      refine aw_iconst (v := 1) dL_law_413 (by decide) ?_
      refine aw_iadd dL_law_414 ?_
      refine aw_eqi (y := nI (i + 1)) (nI_add _ _) ?_
      refine aw_sld dL_law_415 rfl (vp_in_nI (n := (i + 1)) (by omega) (by omega)) ?_
      refine aw_aload_n dL_law_416 rfl ?_
      refine aw_iload_n dL_law_417 rfl ?_
      refine aw_iconst (v := 2) dL_law_418 (by decide) ?_
      refine aw_iadd dL_law_419 ?_
      refine aw_eqi (y := nI (i + 2)) (nI_add _ _) ?_
      refine aw_sld dL_law_420 rfl (vp_in_nI (n := (i + 2)) (by omega) (by omega)) ?_
      refine aw_callVi (J' := jX12_doorIs) (As := [.int (xs ((nI (i + 1))).toNatClampNeg), .int (xs ((nI (i + 2))).toNatClampNeg)]) (st := []) dL_law_421 tb_1461 ok_X12_doorIs ⟨_, (CR.o100 hcr).choose_spec⟩ (by omega) rfl rfl (r_doorIs l D b N V (by omega) cl hcr (xs ((nI (i + 1))).toNatClampNeg) (xs ((nI (i + 2))).toNatClampNeg)) rfl (Nat.le_of_ble_eq_true rfl) ⟨Nat.le_of_ble_eq_true rfl, Nat.le_of_ble_eq_true rfl, (show _ ≤ 600000 from by omega), (show _ ≤ 7302250 from by omega)⟩ (fun r_190 N_191 V_192 q_193 => ?_)
      obtain ⟨rfl, rfl⟩ := q_193
      refine aw_pop dL_law_424 rfl ?_
      refine aw_goto (tgt := 981) dL_law_425 (by decide) ?_
      refine aw_iinc (v := (nI (i + 6))) (ls' := [some (.ref b9), some (.ref (b + 0)), some (.ref (b + 100)), some (.int (nI (i + 6)))]) dL_law_981 rfl (nI_add i 6) (Nat.le_of_ble_eq_true rfl) rfl ?_
      refine aw_goto (tgt := 18) dL_law_984 (by decide) ?_
      refine mih (M + 6 - (i + 6)) (by omega) (i + 6) N cl V _ _ rfl (by omega) ?_ ?_ (by omega) hcw hcr hwf hrl <;> omega
    · skip
      refine aw_tableIn (off := 395) (tgt := 428) dL_law_33 (by decide) (by decide) (by decide) (by decide) ?_
      refine aw_aload_n dL_law_428 rfl ?_
      refine aw_aload_n dL_law_429 rfl ?_
      refine aw_iload_n dL_law_430 rfl ?_
      refine aw_iconst (v := 1) dL_law_431 (by decide) ?_
      refine aw_iadd dL_law_432 ?_
      refine aw_eqi (y := nI (i + 1)) (nI_add _ _) ?_
      refine aw_sld dL_law_433 rfl (vp_in_nI (n := (i + 1)) (by omega) (by omega)) ?_
      refine aw_aload_n dL_law_434 rfl ?_
      refine aw_iload_n dL_law_435 rfl ?_
      refine aw_iconst (v := 2) dL_law_436 (by decide) ?_
      refine aw_iadd dL_law_437 ?_
      refine aw_eqi (y := nI (i + 2)) (nI_add _ _) ?_
      refine aw_sld dL_law_438 rfl (vp_in_nI (n := (i + 2)) (by omega) (by omega)) ?_
      refine aw_callVi (J' := jX11_taught) (As := [.int (xs ((nI (i + 1))).toNatClampNeg), .int (xs ((nI (i + 2))).toNatClampNeg)]) (st := []) dL_law_439 tb_776 ok_X11_taught ⟨_, (CW.o0 hcw).choose_spec⟩ (by omega) rfl rfl (g_X11_taught l D b N V (by omega) hcw (xs ((nI (i + 1))).toNatClampNeg) (xs ((nI (i + 2))).toNatClampNeg)) rfl (Nat.le_of_ble_eq_true rfl) ⟨Nat.le_of_ble_eq_true rfl, Nat.le_of_ble_eq_true rfl, (show _ ≤ 600000 from by omega), (show _ ≤ 7302250 from by omega)⟩ (fun r_195 N_196 V_197 q_198 => ?_)
      obtain ⟨rfl, rfl⟩ := q_198
      refine aw_pop dL_law_442 rfl ?_
      refine aw_aload_n dL_law_443 rfl ?_
      refine aw_aload_n dL_law_444 rfl ?_
      refine aw_iload_n dL_law_445 rfl ?_
      refine aw_iconst (v := 1) dL_law_446 (by decide) ?_
      refine aw_iadd dL_law_447 ?_
      refine aw_eqi (y := nI (i + 1)) (nI_add _ _) ?_
      refine aw_sld dL_law_448 rfl (vp_in_nI (n := (i + 1)) (by omega) (by omega)) ?_
      refine aw_aload_n dL_law_449 rfl ?_
      refine aw_iload_n dL_law_450 rfl ?_
      refine aw_iconst (v := 2) dL_law_451 (by decide) ?_
      refine aw_iadd dL_law_452 ?_
      refine aw_eqi (y := nI (i + 2)) (nI_add _ _) ?_
      refine aw_sld dL_law_453 rfl (vp_in_nI (n := (i + 2)) (by omega) (by omega)) ?_
      refine aw_callVi (J' := jX12_taught) (As := [.int (xs ((nI (i + 1))).toNatClampNeg), .int (xs ((nI (i + 2))).toNatClampNeg)]) (st := []) dL_law_454 tb_1469 ok_X12_taught ⟨_, (CR.o100 hcr).choose_spec⟩ (by omega) rfl rfl (r_taught l D b N V (by omega) cl hcr (xs ((nI (i + 1))).toNatClampNeg) (xs ((nI (i + 2))).toNatClampNeg)) rfl (Nat.le_of_ble_eq_true rfl) ⟨Nat.le_of_ble_eq_true rfl, Nat.le_of_ble_eq_true rfl, (show _ ≤ 600000 from by omega), (show _ ≤ 7302250 from by omega)⟩ (fun r_205 N_206 V_207 q_208 => ?_)
      obtain ⟨rfl, rfl⟩ := q_208
      refine aw_pop dL_law_457 rfl ?_
      refine aw_goto (tgt := 981) dL_law_458 (by decide) ?_
      refine aw_iinc (v := (nI (i + 6))) (ls' := [some (.ref b9), some (.ref (b + 0)), some (.ref (b + 100)), some (.int (nI (i + 6)))]) dL_law_981 rfl (nI_add i 6) (Nat.le_of_ble_eq_true rfl) rfl ?_
      refine aw_goto (tgt := 18) dL_law_984 (by decide) ?_
      refine mih (M + 6 - (i + 6)) (by omega) (i + 6) N cl V _ _ rfl (by omega) ?_ ?_ (by omega) hcw hcr hwf hrl <;> omega
    · skip
      refine aw_tableIn (off := 428) (tgt := 461) dL_law_33 (by decide) (by decide) (by decide) (by decide) ?_
      refine aw_aload_n dL_law_461 rfl ?_
      refine aw_aload_n dL_law_462 rfl ?_
      refine aw_iload_n dL_law_463 rfl ?_
      refine aw_iconst (v := 1) dL_law_464 (by decide) ?_
      refine aw_iadd dL_law_465 ?_
      refine aw_eqi (y := nI (i + 1)) (nI_add _ _) ?_
      refine aw_sld dL_law_466 rfl (vp_in_nI (n := (i + 1)) (by omega) (by omega)) ?_
      refine aw_callVi (J' := jX11_crew) (As := [.int (xs ((nI (i + 1))).toNatClampNeg)]) (st := []) dL_law_467 tb_790 ok_X11_crew ⟨_, (CW.o0 hcw).choose_spec⟩ (by omega) rfl rfl (g_X11_crew l D b N V (by omega) hcw (xs ((nI (i + 1))).toNatClampNeg)) rfl (Nat.le_of_ble_eq_true rfl) ⟨Nat.le_of_ble_eq_true rfl, Nat.le_of_ble_eq_true rfl, (show _ ≤ 600000 from by omega), (show _ ≤ 7302250 from by omega)⟩ (fun r_216 N_217 V_209 q_218 => ?_)
      obtain ⟨rfl, j_210⟩ := q_218
      have cw_213 := j_210.1
      have cr_214 := CR.fr hcr (fun i h1 h2 => j_210.2.1 i h1 (by omega))
      have wf_215 := WF.fr hwf (fun i h1 h2 => j_210.2.1 i (by omega) (by omega))
      refine aw_pop dL_law_470 rfl ?_
      refine aw_aload_n dL_law_471 rfl ?_
      refine aw_aload_n dL_law_472 rfl ?_
      refine aw_iload_n dL_law_473 rfl ?_
      refine aw_iconst (v := 1) dL_law_474 (by decide) ?_
      refine aw_iadd dL_law_475 ?_
      refine aw_eqi (y := nI (i + 1)) (nI_add _ _) ?_
      refine aw_sld dL_law_476 rfl (vp_in_nI (n := (i + 1)) (by omega) (by omega)) ?_
      refine aw_callVi (J' := jX12_crew) (As := [.int (xs ((nI (i + 1))).toNatClampNeg)]) (st := []) dL_law_477 tb_1477 ok_X12_crew ⟨_, (CR.o100 cr_214).choose_spec⟩ (by omega) rfl rfl (r_crew l D b N V_209 (by omega) cl cr_214 (xs ((nI (i + 1))).toNatClampNeg)) rfl (Nat.le_of_ble_eq_true rfl) ⟨Nat.le_of_ble_eq_true rfl, Nat.le_of_ble_eq_true rfl, (show _ ≤ 600000 from by omega), (show _ ≤ 7302250 from by omega)⟩ (fun r_225 N_226 V_219 q_227 => ?_)
      obtain ⟨rfl, jr_223⟩ := q_227
      have cr_221 := jr_223.1
      have cw_220 := CW.out cw_213 (fun i hi => jr_223.2.1 i (Or.inl hi) (by omega))
      have wf_222 := WF.fr wf_215 jr_223.2.2.1
      have rl_224 : RLs V_219 := ⟨(congrArg (fun z => fI z 4) (jr_223.2.1 0 (Or.inl (by decide)) (by omega))).trans ((JW.fI j_210 (by decide) (by decide) : fI (V_209 0) 4 = fI (V 0) 4).trans ((hrl.1).trans ((congrArg (fun z => fI z 51) (j_210.2.1 100 (by decide) (by omega))).symm.trans (JR.fI jr_223 (by decide) (by decide) (by decide) : fI (V_219 100) 51 = fI (V_209 100) 51).symm))), (congrArg (fun z => fI z 7) (jr_223.2.1 3 (Or.inl (by decide)) (by omega))).trans ((JW.fI j_210 (by decide) (by decide) : fI (V_209 3) 7 = fI (V 3) 7).trans ((hrl.2.1).trans ((congrArg (fun z => fI z 208) (j_210.2.1 101 (by decide) (by omega))).symm.trans (JR.fI jr_223 (by decide) (by decide) (by decide) : fI (V_219 101) 208 = fI (V_209 101) 208).symm))), (congrArg (fun z => fI z 7) (jr_223.2.1 39 (Or.inl (by decide)) (by omega))).trans ((JW.fI j_210 (by decide) (by decide) : fI (V_209 39) 7 = fI (V 39) 7).trans ((hrl.2.2.1).trans ((congrArg (fun z => fI z 208) (j_210.2.1 103 (by decide) (by omega))).symm.trans (JR.fI jr_223 (by decide) (by decide) (by decide) : fI (V_219 103) 208 = fI (V_209 103) 208).symm))), (congrArg (fun z => fI z 1) (jr_223.2.1 1 (Or.inl (by decide)) (by omega))).trans ((JW.fI j_210 (by decide) (by decide) : fI (V_209 1) 1 = fI (V 1) 1).trans ((hrl.2.2.2.1).trans ((congrArg (fun z => fI z 13) (j_210.2.1 100 (by decide) (by omega))).symm.trans (JR.fI jr_223 (by decide) (by decide) (by decide) : fI (V_219 100) 13 = fI (V_209 100) 13).symm))), (congrArg (fun z => fI z 5) (jr_223.2.1 3 (Or.inl (by decide)) (by omega))).trans ((JW.fI j_210 (by decide) (by decide) : fI (V_209 3) 5 = fI (V 3) 5).trans ((hrl.2.2.2.2.1).trans ((congrArg (fun z => fI z 9) (j_210.2.1 100 (by decide) (by omega))).symm.trans (JR.fI jr_223 (by decide) (by decide) (by decide) : fI (V_219 100) 9 = fI (V_209 100) 9).symm))), (congrArg (fun z => fI z 6) (jr_223.2.1 3 (Or.inl (by decide)) (by omega))).trans ((JW.fI j_210 (by decide) (by decide) : fI (V_209 3) 6 = fI (V 3) 6).trans ((hrl.2.2.2.2.2.1).trans ((congrArg (fun z => fI z 10) (j_210.2.1 100 (by decide) (by omega))).symm.trans (JR.fI jr_223 (by decide) (by decide) (by decide) : fI (V_219 100) 10 = fI (V_209 100) 10).symm))), (congrArg fI (jr_223.2.1 2 (Or.inl (by decide)) (by omega))).trans ((congrArg fI (JW.same j_210 (by decide) (fun k => (nfc (by omega) nf0)))).trans ((hrl.2.2.2.2.2.2.1).trans ((congrArg (fun z => gb (fI z)) (j_210.2.1 110 (by decide) (by omega))).symm.trans (congrArg (fun z => gb (fI z)) (JR.same jr_223 (by decide) (by decide) (fun k => (nfc (by omega) nf0)))).symm))), (congrArg (fun z => rs (fI z)) (jr_223.2.1 17 (Or.inl (by decide)) (by omega))).trans ((congrArg (fun z => rs (fI z)) (JW.same j_210 (by decide) (fun k => (nfc (by omega) nf0)))).trans ((hrl.2.2.2.2.2.2.2).trans ((congrArg (fun z => rs (fI z)) (j_210.2.1 104 (by decide) (by omega))).symm.trans (congrArg (fun z => rs (fI z)) (JR.same jr_223 (by decide) (by decide) (fun k => (nfc (by omega) nf0)))).symm)))⟩
      refine aw_pop dL_law_480 rfl ?_
      refine aw_goto (tgt := 981) dL_law_481 (by decide) ?_
      refine aw_iinc (v := (nI (i + 6))) (ls' := [some (.ref b9), some (.ref (b + 0)), some (.ref (b + 100)), some (.int (nI (i + 6)))]) dL_law_981 rfl (nI_add i 6) (Nat.le_of_ble_eq_true rfl) rfl ?_
      refine aw_goto (tgt := 18) dL_law_984 (by decide) ?_
      refine mih (M + 6 - (i + 6)) (by omega) (i + 6) N cl V_219 _ _ rfl (by omega) ?_ ?_ (by omega) cw_220 cr_221 wf_222 rl_224 <;> omega
    · skip
      refine aw_tableIn (off := 451) (tgt := 484) dL_law_33 (by decide) (by decide) (by decide) (by decide) ?_
      refine aw_aload_n dL_law_484 rfl ?_
      refine aw_callVi (J' := jX11_lodgings) (As := []) (st := []) dL_law_485 tb_806 ok_X11_lodgings ⟨_, (CW.o0 hcw).choose_spec⟩ (by omega) rfl rfl (g_X11_lodgings l D b N V (by omega) hcw) rfl (Nat.le_of_ble_eq_true rfl) ⟨Nat.le_of_ble_eq_true rfl, Nat.le_of_ble_eq_true rfl, (show _ ≤ 600000 from by omega), (show _ ≤ 7302250 from by omega)⟩ (fun r_229 N_230 V_231 q_232 => ?_)
      obtain ⟨rfl, rfl⟩ := q_232
      refine aw_pop dL_law_488 rfl ?_
      refine aw_aload_n dL_law_489 rfl ?_
      refine aw_callVi (J' := jX12_lodgings) (As := []) (st := []) dL_law_490 tb_1489 ok_X12_lodgings ⟨_, (CR.o100 hcr).choose_spec⟩ (by omega) rfl rfl (r_lodgings l D b N V (by omega) cl hcr) rfl (Nat.le_of_ble_eq_true rfl) ⟨Nat.le_of_ble_eq_true rfl, Nat.le_of_ble_eq_true rfl, (show _ ≤ 600000 from by omega), (show _ ≤ 7302250 from by omega)⟩ (fun r_239 N_240 V_233 q_241 => ?_)
      obtain ⟨rfl, jr_237⟩ := q_241
      have cr_235 := jr_237.1
      have cw_234 := CW.out hcw (fun i hi => jr_237.2.1 i (Or.inl hi) (by omega))
      have wf_236 := WF.fr hwf jr_237.2.2.1
      have rl_238 : RLs V_233 := ⟨(congrArg (fun z => fI z 4) (jr_237.2.1 0 (Or.inl (by decide)) (by omega))).trans ((Eq.refl (fI (V 0) 4)).trans ((hrl.1).trans ((Eq.refl (fI (V 100) 51)).symm.trans (JR.fI jr_237 (by decide) (by decide) (by decide) : fI (V_233 100) 51 = fI (V 100) 51).symm))), (congrArg (fun z => fI z 7) (jr_237.2.1 3 (Or.inl (by decide)) (by omega))).trans ((Eq.refl (fI (V 3) 7)).trans ((hrl.2.1).trans ((Eq.refl (fI (V 101) 208)).symm.trans (JR.fI jr_237 (by decide) (by decide) (by decide) : fI (V_233 101) 208 = fI (V 101) 208).symm))), (congrArg (fun z => fI z 7) (jr_237.2.1 39 (Or.inl (by decide)) (by omega))).trans ((Eq.refl (fI (V 39) 7)).trans ((hrl.2.2.1).trans ((Eq.refl (fI (V 103) 208)).symm.trans (JR.fI jr_237 (by decide) (by decide) (by decide) : fI (V_233 103) 208 = fI (V 103) 208).symm))), (congrArg (fun z => fI z 1) (jr_237.2.1 1 (Or.inl (by decide)) (by omega))).trans ((Eq.refl (fI (V 1) 1)).trans ((hrl.2.2.2.1).trans ((Eq.refl (fI (V 100) 13)).symm.trans (JR.fI jr_237 (by decide) (by decide) (by decide) : fI (V_233 100) 13 = fI (V 100) 13).symm))), (congrArg (fun z => fI z 5) (jr_237.2.1 3 (Or.inl (by decide)) (by omega))).trans ((Eq.refl (fI (V 3) 5)).trans ((hrl.2.2.2.2.1).trans ((Eq.refl (fI (V 100) 9)).symm.trans (JR.fI jr_237 (by decide) (by decide) (by decide) : fI (V_233 100) 9 = fI (V 100) 9).symm))), (congrArg (fun z => fI z 6) (jr_237.2.1 3 (Or.inl (by decide)) (by omega))).trans ((Eq.refl (fI (V 3) 6)).trans ((hrl.2.2.2.2.2.1).trans ((Eq.refl (fI (V 100) 10)).symm.trans (JR.fI jr_237 (by decide) (by decide) (by decide) : fI (V_233 100) 10 = fI (V 100) 10).symm))), (congrArg fI (jr_237.2.1 2 (Or.inl (by decide)) (by omega))).trans ((Eq.refl (fI (V 2))).trans ((hrl.2.2.2.2.2.2.1).trans ((Eq.refl (gb (fI (V 110)))).symm.trans (congrArg (fun z => gb (fI z)) (JR.same jr_237 (by decide) (by decide) (fun k => (nfc (by omega) (nfc (by omega) nf0))))).symm))), (congrArg (fun z => rs (fI z)) (jr_237.2.1 17 (Or.inl (by decide)) (by omega))).trans ((Eq.refl (rs (fI (V 17)))).trans ((hrl.2.2.2.2.2.2.2).trans ((Eq.refl (rs (fI (V 104)))).symm.trans (congrArg (fun z => rs (fI z)) (JR.same jr_237 (by decide) (by decide) (fun k => (nfc (by omega) (nfc (by omega) nf0))))).symm)))⟩
      refine aw_pop dL_law_493 rfl ?_
      refine aw_goto (tgt := 981) dL_law_494 (by decide) ?_
      refine aw_iinc (v := (nI (i + 6))) (ls' := [some (.ref b9), some (.ref (b + 0)), some (.ref (b + 100)), some (.int (nI (i + 6)))]) dL_law_981 rfl (nI_add i 6) (Nat.le_of_ble_eq_true rfl) rfl ?_
      refine aw_goto (tgt := 18) dL_law_984 (by decide) ?_
      refine mih (M + 6 - (i + 6)) (by omega) (i + 6) N cl V_233 _ _ rfl (by omega) ?_ ?_ (by omega) cw_234 cr_235 wf_236 rl_238 <;> omega
    · skip
      refine aw_tableIn (off := 464) (tgt := 497) dL_law_33 (by decide) (by decide) (by decide) (by decide) ?_
      refine aw_aload_n dL_law_497 rfl ?_
      refine aw_aload_n dL_law_498 rfl ?_
      refine aw_iload_n dL_law_499 rfl ?_
      refine aw_iconst (v := 1) dL_law_500 (by decide) ?_
      refine aw_iadd dL_law_501 ?_
      refine aw_eqi (y := nI (i + 1)) (nI_add _ _) ?_
      refine aw_sld dL_law_502 rfl (vp_in_nI (n := (i + 1)) (by omega) (by omega)) ?_
      refine aw_callVi (J' := jX11_couples) (As := [.int (xs ((nI (i + 1))).toNatClampNeg)]) (st := []) dL_law_503 tb_814 ok_X11_couples ⟨_, (CW.o0 hcw).choose_spec⟩ (by omega) rfl rfl (g_X11_couples l D b N V (by omega) hcw (xs ((nI (i + 1))).toNatClampNeg)) rfl (Nat.le_of_ble_eq_true rfl) ⟨Nat.le_of_ble_eq_true rfl, Nat.le_of_ble_eq_true rfl, (show _ ≤ 600000 from by omega), (show _ ≤ 7302250 from by omega)⟩ (fun r_249 N_250 V_242 q_251 => ?_)
      obtain ⟨rfl, j_243⟩ := q_251
      have cw_246 := j_243.1
      have cr_247 := CR.fr hcr (fun i h1 h2 => j_243.2.1 i h1 (by omega))
      have wf_248 := WF.fr hwf (fun i h1 h2 => j_243.2.1 i (by omega) (by omega))
      refine aw_pop dL_law_506 rfl ?_
      refine aw_aload_n dL_law_507 rfl ?_
      refine aw_aload_n dL_law_508 rfl ?_
      refine aw_iload_n dL_law_509 rfl ?_
      refine aw_iconst (v := 1) dL_law_510 (by decide) ?_
      refine aw_iadd dL_law_511 ?_
      refine aw_eqi (y := nI (i + 1)) (nI_add _ _) ?_
      refine aw_sld dL_law_512 rfl (vp_in_nI (n := (i + 1)) (by omega) (by omega)) ?_
      refine aw_callVi (J' := jX12_couples) (As := [.int (xs ((nI (i + 1))).toNatClampNeg)]) (st := []) dL_law_513 tb_1493 ok_X12_couples ⟨_, (CR.o100 cr_247).choose_spec⟩ (by omega) rfl rfl (r_couples l D b N V_242 (by omega) cl cr_247 (xs ((nI (i + 1))).toNatClampNeg)) rfl (Nat.le_of_ble_eq_true rfl) ⟨Nat.le_of_ble_eq_true rfl, Nat.le_of_ble_eq_true rfl, (show _ ≤ 600000 from by omega), (show _ ≤ 7302250 from by omega)⟩ (fun r_258 N_259 V_252 q_260 => ?_)
      obtain ⟨rfl, jr_256⟩ := q_260
      have cr_254 := jr_256.1
      have cw_253 := CW.out cw_246 (fun i hi => jr_256.2.1 i (Or.inl hi) (by omega))
      have wf_255 := WF.fr wf_248 jr_256.2.2.1
      have rl_257 : RLs V_252 := ⟨(congrArg (fun z => fI z 4) (jr_256.2.1 0 (Or.inl (by decide)) (by omega))).trans ((JW.fI j_243 (by decide) (by decide) : fI (V_242 0) 4 = fI (V 0) 4).trans ((hrl.1).trans ((congrArg (fun z => fI z 51) (j_243.2.1 100 (by decide) (by omega))).symm.trans (JR.fI jr_256 (by decide) (by decide) (by decide) : fI (V_252 100) 51 = fI (V_242 100) 51).symm))), (congrArg (fun z => fI z 7) (jr_256.2.1 3 (Or.inl (by decide)) (by omega))).trans ((JW.fI j_243 (by decide) (by decide) : fI (V_242 3) 7 = fI (V 3) 7).trans ((hrl.2.1).trans ((congrArg (fun z => fI z 208) (j_243.2.1 101 (by decide) (by omega))).symm.trans (JR.fI jr_256 (by decide) (by decide) (by decide) : fI (V_252 101) 208 = fI (V_242 101) 208).symm))), (congrArg (fun z => fI z 7) (jr_256.2.1 39 (Or.inl (by decide)) (by omega))).trans ((JW.fI j_243 (by decide) (by decide) : fI (V_242 39) 7 = fI (V 39) 7).trans ((hrl.2.2.1).trans ((congrArg (fun z => fI z 208) (j_243.2.1 103 (by decide) (by omega))).symm.trans (JR.fI jr_256 (by decide) (by decide) (by decide) : fI (V_252 103) 208 = fI (V_242 103) 208).symm))), (congrArg (fun z => fI z 1) (jr_256.2.1 1 (Or.inl (by decide)) (by omega))).trans ((JW.fI j_243 (by decide) (by decide) : fI (V_242 1) 1 = fI (V 1) 1).trans ((hrl.2.2.2.1).trans ((congrArg (fun z => fI z 13) (j_243.2.1 100 (by decide) (by omega))).symm.trans (JR.fI jr_256 (by decide) (by decide) (by decide) : fI (V_252 100) 13 = fI (V_242 100) 13).symm))), (congrArg (fun z => fI z 5) (jr_256.2.1 3 (Or.inl (by decide)) (by omega))).trans ((JW.fI j_243 (by decide) (by decide) : fI (V_242 3) 5 = fI (V 3) 5).trans ((hrl.2.2.2.2.1).trans ((congrArg (fun z => fI z 9) (j_243.2.1 100 (by decide) (by omega))).symm.trans (JR.fI jr_256 (by decide) (by decide) (by decide) : fI (V_252 100) 9 = fI (V_242 100) 9).symm))), (congrArg (fun z => fI z 6) (jr_256.2.1 3 (Or.inl (by decide)) (by omega))).trans ((JW.fI j_243 (by decide) (by decide) : fI (V_242 3) 6 = fI (V 3) 6).trans ((hrl.2.2.2.2.2.1).trans ((congrArg (fun z => fI z 10) (j_243.2.1 100 (by decide) (by omega))).symm.trans (JR.fI jr_256 (by decide) (by decide) (by decide) : fI (V_252 100) 10 = fI (V_242 100) 10).symm))), (congrArg fI (jr_256.2.1 2 (Or.inl (by decide)) (by omega))).trans ((congrArg fI (JW.same j_243 (by decide) (fun k => (nfc (by omega) nf0)))).trans ((hrl.2.2.2.2.2.2.1).trans ((congrArg (fun z => gb (fI z)) (j_243.2.1 110 (by decide) (by omega))).symm.trans (congrArg (fun z => gb (fI z)) (JR.same jr_256 (by decide) (by decide) (fun k => (nfc (by omega) nf0)))).symm))), (congrArg (fun z => rs (fI z)) (jr_256.2.1 17 (Or.inl (by decide)) (by omega))).trans ((congrArg (fun z => rs (fI z)) (JW.same j_243 (by decide) (fun k => (nfc (by omega) nf0)))).trans ((hrl.2.2.2.2.2.2.2).trans ((congrArg (fun z => rs (fI z)) (j_243.2.1 104 (by decide) (by omega))).symm.trans (congrArg (fun z => rs (fI z)) (JR.same jr_256 (by decide) (by decide) (fun k => (nfc (by omega) nf0)))).symm)))⟩
      refine aw_pop dL_law_516 rfl ?_
      refine aw_goto (tgt := 981) dL_law_517 (by decide) ?_
      refine aw_iinc (v := (nI (i + 6))) (ls' := [some (.ref b9), some (.ref (b + 0)), some (.ref (b + 100)), some (.int (nI (i + 6)))]) dL_law_981 rfl (nI_add i 6) (Nat.le_of_ble_eq_true rfl) rfl ?_
      refine aw_goto (tgt := 18) dL_law_984 (by decide) ?_
      refine mih (M + 6 - (i + 6)) (by omega) (i + 6) N cl V_252 _ _ rfl (by omega) ?_ ?_ (by omega) cw_253 cr_254 wf_255 rl_257 <;> omega
    · skip
      refine aw_tableIn (off := 487) (tgt := 520) dL_law_33 (by decide) (by decide) (by decide) (by decide) ?_
      refine aw_aload_n dL_law_520 rfl ?_
      refine aw_aload_n dL_law_521 rfl ?_
      refine aw_iload_n dL_law_522 rfl ?_
      refine aw_iconst (v := 1) dL_law_523 (by decide) ?_
      refine aw_iadd dL_law_524 ?_
      refine aw_eqi (y := nI (i + 1)) (nI_add _ _) ?_
      refine aw_sld dL_law_525 rfl (vp_in_nI (n := (i + 1)) (by omega) (by omega)) ?_
      refine aw_aload_n dL_law_526 rfl ?_
      refine aw_iload_n dL_law_527 rfl ?_
      refine aw_iconst (v := 2) dL_law_528 (by decide) ?_
      refine aw_iadd dL_law_529 ?_
      refine aw_eqi (y := nI (i + 2)) (nI_add _ _) ?_
      refine aw_sld dL_law_530 rfl (vp_in_nI (n := (i + 2)) (by omega) (by omega)) ?_
      refine aw_aload_n dL_law_531 rfl ?_
      refine aw_iload_n dL_law_532 rfl ?_
      refine aw_iconst (v := 3) dL_law_533 (by decide) ?_
      refine aw_iadd dL_law_534 ?_
      refine aw_eqi (y := nI (i + 3)) (nI_add _ _) ?_
      refine aw_sld dL_law_535 rfl (vp_in_nI (n := (i + 3)) (by omega) (by omega)) ?_
      refine aw_callVi (J' := jX11_fashion) (As := [.int (xs ((nI (i + 1))).toNatClampNeg), .int (xs ((nI (i + 2))).toNatClampNeg), .int (xs ((nI (i + 3))).toNatClampNeg)]) (st := []) dL_law_536 tb_836 ok_X11_fashion ⟨_, (CW.o0 hcw).choose_spec⟩ (by omega) rfl rfl (g_X11_fashion l D b N V (by omega) hcw (xs ((nI (i + 1))).toNatClampNeg) (xs ((nI (i + 2))).toNatClampNeg) (xs ((nI (i + 3))).toNatClampNeg)) rfl (Nat.le_of_ble_eq_true rfl) ⟨Nat.le_of_ble_eq_true rfl, Nat.le_of_ble_eq_true rfl, (show _ ≤ 600000 from by omega), (show _ ≤ 7302250 from by omega)⟩ (fun r_262 N_263 V_264 q_265 => ?_)
      obtain ⟨rfl, rfl⟩ := q_265
      refine aw_pop dL_law_539 rfl ?_
      refine aw_aload_n dL_law_540 rfl ?_
      refine aw_aload_n dL_law_541 rfl ?_
      refine aw_iload_n dL_law_542 rfl ?_
      refine aw_iconst (v := 1) dL_law_543 (by decide) ?_
      refine aw_iadd dL_law_544 ?_
      refine aw_eqi (y := nI (i + 1)) (nI_add _ _) ?_
      refine aw_sld dL_law_545 rfl (vp_in_nI (n := (i + 1)) (by omega) (by omega)) ?_
      refine aw_aload_n dL_law_546 rfl ?_
      refine aw_iload_n dL_law_547 rfl ?_
      refine aw_iconst (v := 2) dL_law_548 (by decide) ?_
      refine aw_iadd dL_law_549 ?_
      refine aw_eqi (y := nI (i + 2)) (nI_add _ _) ?_
      refine aw_sld dL_law_550 rfl (vp_in_nI (n := (i + 2)) (by omega) (by omega)) ?_
      refine aw_aload_n dL_law_551 rfl ?_
      refine aw_iload_n dL_law_552 rfl ?_
      refine aw_iconst (v := 3) dL_law_553 (by decide) ?_
      refine aw_iadd dL_law_554 ?_
      refine aw_eqi (y := nI (i + 3)) (nI_add _ _) ?_
      refine aw_sld dL_law_555 rfl (vp_in_nI (n := (i + 3)) (by omega) (by omega)) ?_
      refine aw_callVi (J' := jX12_fashion) (As := [.int (xs ((nI (i + 1))).toNatClampNeg), .int (xs ((nI (i + 2))).toNatClampNeg), .int (xs ((nI (i + 3))).toNatClampNeg)]) (st := []) dL_law_556 tb_1504 ok_X12_fashion ⟨_, (CR.o100 hcr).choose_spec⟩ (by omega) rfl rfl (r_fashion l D b N V (by omega) cl hcr (xs ((nI (i + 1))).toNatClampNeg) (xs ((nI (i + 2))).toNatClampNeg) (xs ((nI (i + 3))).toNatClampNeg)) rfl (Nat.le_of_ble_eq_true rfl) ⟨Nat.le_of_ble_eq_true rfl, Nat.le_of_ble_eq_true rfl, (show _ ≤ 600000 from by omega), (show _ ≤ 7302250 from by omega)⟩ (fun r_272 N_273 V_274 q_275 => ?_)
      obtain ⟨rfl, rfl⟩ := q_275
      refine aw_pop dL_law_559 rfl ?_
      refine aw_goto (tgt := 981) dL_law_560 (by decide) ?_
      refine aw_iinc (v := (nI (i + 6))) (ls' := [some (.ref b9), some (.ref (b + 0)), some (.ref (b + 100)), some (.int (nI (i + 6)))]) dL_law_981 rfl (nI_add i 6) (Nat.le_of_ble_eq_true rfl) rfl ?_
      refine aw_goto (tgt := 18) dL_law_984 (by decide) ?_
      refine mih (M + 6 - (i + 6)) (by omega) (i + 6) N cl V _ _ rfl (by omega) ?_ ?_ (by omega) hcw hcr hwf hrl <;> omega
    · skip
      refine aw_tableIn (off := 530) (tgt := 563) dL_law_33 (by decide) (by decide) (by decide) (by decide) ?_
      refine aw_aload_n dL_law_563 rfl ?_
      refine aw_aload_n dL_law_564 rfl ?_
      refine aw_iload_n dL_law_565 rfl ?_
      refine aw_iconst (v := 1) dL_law_566 (by decide) ?_
      refine aw_iadd dL_law_567 ?_
      refine aw_eqi (y := nI (i + 1)) (nI_add _ _) ?_
      refine aw_sld dL_law_568 rfl (vp_in_nI (n := (i + 1)) (by omega) (by omega)) ?_
      refine aw_callVi (J' := jX11_fears) (As := [.int (xs ((nI (i + 1))).toNatClampNeg)]) (st := []) dL_law_569 tb_849 ok_X11_fears ⟨_, (CW.o0 hcw).choose_spec⟩ (by omega) rfl rfl (g_X11_fears l D b N V (by omega) hcw (xs ((nI (i + 1))).toNatClampNeg)) rfl (Nat.le_of_ble_eq_true rfl) ⟨Nat.le_of_ble_eq_true rfl, Nat.le_of_ble_eq_true rfl, (show _ ≤ 600000 from by omega), (show _ ≤ 7302250 from by omega)⟩ (fun r_277 N_278 V_279 q_280 => ?_)
      obtain ⟨rfl, rfl⟩ := q_280
      refine aw_pop dL_law_572 rfl ?_
      refine aw_aload_n dL_law_573 rfl ?_
      refine aw_aload_n dL_law_574 rfl ?_
      refine aw_iload_n dL_law_575 rfl ?_
      refine aw_iconst (v := 1) dL_law_576 (by decide) ?_
      refine aw_iadd dL_law_577 ?_
      refine aw_eqi (y := nI (i + 1)) (nI_add _ _) ?_
      refine aw_sld dL_law_578 rfl (vp_in_nI (n := (i + 1)) (by omega) (by omega)) ?_
      refine aw_callVi (J' := jX12_fears) (As := [.int (xs ((nI (i + 1))).toNatClampNeg)]) (st := []) dL_law_579 tb_1512 ok_X12_fears ⟨_, (CR.o100 hcr).choose_spec⟩ (by omega) rfl rfl (r_fears l D b N V (by omega) cl hcr (xs ((nI (i + 1))).toNatClampNeg)) rfl (Nat.le_of_ble_eq_true rfl) ⟨Nat.le_of_ble_eq_true rfl, Nat.le_of_ble_eq_true rfl, (show _ ≤ 600000 from by omega), (show _ ≤ 7302250 from by omega)⟩ (fun r_287 N_288 V_289 q_290 => ?_)
      obtain ⟨rfl, rfl⟩ := q_290
      refine aw_pop dL_law_582 rfl ?_
      refine aw_goto (tgt := 981) dL_law_583 (by decide) ?_
      refine aw_iinc (v := (nI (i + 6))) (ls' := [some (.ref b9), some (.ref (b + 0)), some (.ref (b + 100)), some (.int (nI (i + 6)))]) dL_law_981 rfl (nI_add i 6) (Nat.le_of_ble_eq_true rfl) rfl ?_
      refine aw_goto (tgt := 18) dL_law_984 (by decide) ?_
      refine mih (M + 6 - (i + 6)) (by omega) (i + 6) N cl V _ _ rfl (by omega) ?_ ?_ (by omega) hcw hcr hwf hrl <;> omega
    · skip
      refine aw_tableIn (off := 553) (tgt := 586) dL_law_33 (by decide) (by decide) (by decide) (by decide) ?_
      refine aw_aload_n dL_law_586 rfl ?_
      refine aw_aload_n dL_law_587 rfl ?_
      refine aw_iload_n dL_law_588 rfl ?_
      refine aw_iconst (v := 1) dL_law_589 (by decide) ?_
      refine aw_iadd dL_law_590 ?_
      refine aw_eqi (y := nI (i + 1)) (nI_add _ _) ?_
      refine aw_sld dL_law_591 rfl (vp_in_nI (n := (i + 1)) (by omega) (by omega)) ?_
      refine aw_aload_n dL_law_592 rfl ?_
      refine aw_iload_n dL_law_593 rfl ?_
      refine aw_iconst (v := 2) dL_law_594 (by decide) ?_
      refine aw_iadd dL_law_595 ?_
      refine aw_eqi (y := nI (i + 2)) (nI_add _ _) ?_
      refine aw_sld dL_law_596 rfl (vp_in_nI (n := (i + 2)) (by omega) (by omega)) ?_
      refine aw_callVi (J' := jX11_unlike) (As := [.int (xs ((nI (i + 1))).toNatClampNeg), .int (xs ((nI (i + 2))).toNatClampNeg)]) (st := []) dL_law_597 tb_863 ok_X11_unlike ⟨_, (CW.o0 hcw).choose_spec⟩ (by omega) rfl rfl (g_X11_unlike l D b N V (by omega) hcw (xs ((nI (i + 1))).toNatClampNeg) (xs ((nI (i + 2))).toNatClampNeg)) rfl (Nat.le_of_ble_eq_true rfl) ⟨Nat.le_of_ble_eq_true rfl, Nat.le_of_ble_eq_true rfl, (show _ ≤ 600000 from by omega), (show _ ≤ 7302250 from by omega)⟩ (fun r_292 N_293 V_294 q_295 => ?_)
      obtain ⟨rfl, rfl⟩ := q_295
      refine aw_pop dL_law_600 rfl ?_
      refine aw_aload_n dL_law_601 rfl ?_
      refine aw_aload_n dL_law_602 rfl ?_
      refine aw_iload_n dL_law_603 rfl ?_
      refine aw_iconst (v := 1) dL_law_604 (by decide) ?_
      refine aw_iadd dL_law_605 ?_
      refine aw_eqi (y := nI (i + 1)) (nI_add _ _) ?_
      refine aw_sld dL_law_606 rfl (vp_in_nI (n := (i + 1)) (by omega) (by omega)) ?_
      refine aw_aload_n dL_law_607 rfl ?_
      refine aw_iload_n dL_law_608 rfl ?_
      refine aw_iconst (v := 2) dL_law_609 (by decide) ?_
      refine aw_iadd dL_law_610 ?_
      refine aw_eqi (y := nI (i + 2)) (nI_add _ _) ?_
      refine aw_sld dL_law_611 rfl (vp_in_nI (n := (i + 2)) (by omega) (by omega)) ?_
      refine aw_callVi (J' := jX12_unlike) (As := [.int (xs ((nI (i + 1))).toNatClampNeg), .int (xs ((nI (i + 2))).toNatClampNeg)]) (st := []) dL_law_612 tb_1516 ok_X12_unlike ⟨_, (CR.o100 hcr).choose_spec⟩ (by omega) rfl rfl (r_unlike l D b N V (by omega) cl hcr (xs ((nI (i + 1))).toNatClampNeg) (xs ((nI (i + 2))).toNatClampNeg)) rfl (Nat.le_of_ble_eq_true rfl) ⟨Nat.le_of_ble_eq_true rfl, Nat.le_of_ble_eq_true rfl, (show _ ≤ 600000 from by omega), (show _ ≤ 7302250 from by omega)⟩ (fun r_302 N_303 V_304 q_305 => ?_)
      obtain ⟨rfl, rfl⟩ := q_305
      refine aw_pop dL_law_615 rfl ?_
      refine aw_goto (tgt := 981) dL_law_616 (by decide) ?_
      refine aw_iinc (v := (nI (i + 6))) (ls' := [some (.ref b9), some (.ref (b + 0)), some (.ref (b + 100)), some (.int (nI (i + 6)))]) dL_law_981 rfl (nI_add i 6) (Nat.le_of_ble_eq_true rfl) rfl ?_
      refine aw_goto (tgt := 18) dL_law_984 (by decide) ?_
      refine mih (M + 6 - (i + 6)) (by omega) (i + 6) N cl V _ _ rfl (by omega) ?_ ?_ (by omega) hcw hcr hwf hrl <;> omega
    · skip
      refine aw_tableIn (off := 586) (tgt := 619) dL_law_33 (by decide) (by decide) (by decide) (by decide) ?_
      refine aw_aload_n dL_law_619 rfl ?_
      refine aw_aload_n dL_law_620 rfl ?_
      refine aw_iload_n dL_law_621 rfl ?_
      refine aw_iconst (v := 1) dL_law_622 (by decide) ?_
      refine aw_iadd dL_law_623 ?_
      refine aw_eqi (y := nI (i + 1)) (nI_add _ _) ?_
      refine aw_sld dL_law_624 rfl (vp_in_nI (n := (i + 1)) (by omega) (by omega)) ?_
      refine aw_callVi (J' := jX11_mostLike) (As := [.int (xs ((nI (i + 1))).toNatClampNeg)]) (st := []) dL_law_625 tb_872 ok_X11_mostLike ⟨_, (CW.o0 hcw).choose_spec⟩ (by omega) rfl rfl (g_X11_mostLike l D b N V (by omega) hcw (xs ((nI (i + 1))).toNatClampNeg)) rfl (Nat.le_of_ble_eq_true rfl) ⟨Nat.le_of_ble_eq_true rfl, Nat.le_of_ble_eq_true rfl, (show _ ≤ 600000 from by omega), (show _ ≤ 7302250 from by omega)⟩ (fun r_307 N_308 V_309 q_310 => ?_)
      obtain ⟨rfl, rfl⟩ := q_310
      refine aw_pop dL_law_628 rfl ?_
      refine aw_aload_n dL_law_629 rfl ?_
      refine aw_aload_n dL_law_630 rfl ?_
      refine aw_iload_n dL_law_631 rfl ?_
      refine aw_iconst (v := 1) dL_law_632 (by decide) ?_
      refine aw_iadd dL_law_633 ?_
      refine aw_eqi (y := nI (i + 1)) (nI_add _ _) ?_
      refine aw_sld dL_law_634 rfl (vp_in_nI (n := (i + 1)) (by omega) (by omega)) ?_
      refine aw_callVi (J' := jX12_mostLike) (As := [.int (xs ((nI (i + 1))).toNatClampNeg)]) (st := []) dL_law_635 tb_1524 ok_X12_mostLike ⟨_, (CR.o100 hcr).choose_spec⟩ (by omega) rfl rfl (r_mostLike l D b N V (by omega) cl hcr (xs ((nI (i + 1))).toNatClampNeg)) rfl (Nat.le_of_ble_eq_true rfl) ⟨Nat.le_of_ble_eq_true rfl, Nat.le_of_ble_eq_true rfl, (show _ ≤ 600000 from by omega), (show _ ≤ 7302250 from by omega)⟩ (fun r_317 N_318 V_319 q_320 => ?_)
      obtain ⟨rfl, rfl⟩ := q_320
      refine aw_pop dL_law_638 rfl ?_
      refine aw_goto (tgt := 981) dL_law_639 (by decide) ?_
      refine aw_iinc (v := (nI (i + 6))) (ls' := [some (.ref b9), some (.ref (b + 0)), some (.ref (b + 100)), some (.int (nI (i + 6)))]) dL_law_981 rfl (nI_add i 6) (Nat.le_of_ble_eq_true rfl) rfl ?_
      refine aw_goto (tgt := 18) dL_law_984 (by decide) ?_
      refine mih (M + 6 - (i + 6)) (by omega) (i + 6) N cl V _ _ rfl (by omega) ?_ ?_ (by omega) hcw hcr hwf hrl <;> omega
    · skip
      refine aw_tableIn (off := 609) (tgt := 642) dL_law_33 (by decide) (by decide) (by decide) (by decide) ?_
      refine aw_aload_n dL_law_642 rfl ?_
      refine aw_aload_n dL_law_643 rfl ?_
      refine aw_iload_n dL_law_644 rfl ?_
      refine aw_iconst (v := 1) dL_law_645 (by decide) ?_
      refine aw_iadd dL_law_646 ?_
      refine aw_eqi (y := nI (i + 1)) (nI_add _ _) ?_
      refine aw_sld dL_law_647 rfl (vp_in_nI (n := (i + 1)) (by omega) (by omega)) ?_
      refine aw_aload_n dL_law_648 rfl ?_
      refine aw_iload_n dL_law_649 rfl ?_
      refine aw_iconst (v := 2) dL_law_650 (by decide) ?_
      refine aw_iadd dL_law_651 ?_
      refine aw_eqi (y := nI (i + 2)) (nI_add _ _) ?_
      refine aw_sld dL_law_652 rfl (vp_in_nI (n := (i + 2)) (by omega) (by omega)) ?_
      refine aw_callVi (J' := jX11_circles) (As := [.int (xs ((nI (i + 1))).toNatClampNeg), .int (xs ((nI (i + 2))).toNatClampNeg)]) (st := []) dL_law_653 tb_881 ok_X11_circles ⟨_, (CW.o0 hcw).choose_spec⟩ (by omega) rfl rfl (g_X11_circles l D b N V (by omega) hcw (xs ((nI (i + 1))).toNatClampNeg) (xs ((nI (i + 2))).toNatClampNeg)) rfl (Nat.le_of_ble_eq_true rfl) ⟨Nat.le_of_ble_eq_true rfl, Nat.le_of_ble_eq_true rfl, (show _ ≤ 600000 from by omega), (show _ ≤ 7302250 from by omega)⟩ (fun r_328 N_329 V_321 q_330 => ?_)
      obtain ⟨rfl, j_322⟩ := q_330
      have cw_325 := j_322.1
      have cr_326 := CR.fr hcr (fun i h1 h2 => j_322.2.1 i h1 (by omega))
      have wf_327 := WF.fr hwf (fun i h1 h2 => j_322.2.1 i (by omega) (by omega))
      refine aw_pop dL_law_656 rfl ?_
      refine aw_aload_n dL_law_657 rfl ?_
      refine aw_aload_n dL_law_658 rfl ?_
      refine aw_iload_n dL_law_659 rfl ?_
      refine aw_iconst (v := 1) dL_law_660 (by decide) ?_
      refine aw_iadd dL_law_661 ?_
      refine aw_eqi (y := nI (i + 1)) (nI_add _ _) ?_
      refine aw_sld dL_law_662 rfl (vp_in_nI (n := (i + 1)) (by omega) (by omega)) ?_
      refine aw_aload_n dL_law_663 rfl ?_
      refine aw_iload_n dL_law_664 rfl ?_
      refine aw_iconst (v := 2) dL_law_665 (by decide) ?_
      refine aw_iadd dL_law_666 ?_
      refine aw_eqi (y := nI (i + 2)) (nI_add _ _) ?_
      refine aw_sld dL_law_667 rfl (vp_in_nI (n := (i + 2)) (by omega) (by omega)) ?_
      refine aw_callVi (J' := jX12_circles) (As := [.int (xs ((nI (i + 1))).toNatClampNeg), .int (xs ((nI (i + 2))).toNatClampNeg)]) (st := []) dL_law_668 tb_1528 ok_X12_circles ⟨_, (CR.o100 cr_326).choose_spec⟩ (by omega) rfl rfl (r_circles l D b N V_321 (by omega) cl cr_326 (xs ((nI (i + 1))).toNatClampNeg) (xs ((nI (i + 2))).toNatClampNeg)) rfl (Nat.le_of_ble_eq_true rfl) ⟨Nat.le_of_ble_eq_true rfl, Nat.le_of_ble_eq_true rfl, (show _ ≤ 600000 from by omega), (show _ ≤ 7302250 from by omega)⟩ (fun r_337 N_338 V_339 q_340 => ?_)
      obtain ⟨rfl, rfl⟩ := q_340
      have rl_336 : RLs V_321 := ⟨(Eq.refl (fI (V_321 0) 4)).trans ((JW.fI j_322 (by decide) (by decide) : fI (V_321 0) 4 = fI (V 0) 4).trans ((hrl.1).trans ((congrArg (fun z => fI z 51) (j_322.2.1 100 (by decide) (by omega))).symm.trans (Eq.refl (fI (V_321 100) 51)).symm))), (Eq.refl (fI (V_321 3) 7)).trans ((JW.fI j_322 (by decide) (by decide) : fI (V_321 3) 7 = fI (V 3) 7).trans ((hrl.2.1).trans ((congrArg (fun z => fI z 208) (j_322.2.1 101 (by decide) (by omega))).symm.trans (Eq.refl (fI (V_321 101) 208)).symm))), (Eq.refl (fI (V_321 39) 7)).trans ((JW.fI j_322 (by decide) (by decide) : fI (V_321 39) 7 = fI (V 39) 7).trans ((hrl.2.2.1).trans ((congrArg (fun z => fI z 208) (j_322.2.1 103 (by decide) (by omega))).symm.trans (Eq.refl (fI (V_321 103) 208)).symm))), (Eq.refl (fI (V_321 1) 1)).trans ((JW.fI j_322 (by decide) (by decide) : fI (V_321 1) 1 = fI (V 1) 1).trans ((hrl.2.2.2.1).trans ((congrArg (fun z => fI z 13) (j_322.2.1 100 (by decide) (by omega))).symm.trans (Eq.refl (fI (V_321 100) 13)).symm))), (Eq.refl (fI (V_321 3) 5)).trans ((JW.fI j_322 (by decide) (by decide) : fI (V_321 3) 5 = fI (V 3) 5).trans ((hrl.2.2.2.2.1).trans ((congrArg (fun z => fI z 9) (j_322.2.1 100 (by decide) (by omega))).symm.trans (Eq.refl (fI (V_321 100) 9)).symm))), (Eq.refl (fI (V_321 3) 6)).trans ((JW.fI j_322 (by decide) (by decide) : fI (V_321 3) 6 = fI (V 3) 6).trans ((hrl.2.2.2.2.2.1).trans ((congrArg (fun z => fI z 10) (j_322.2.1 100 (by decide) (by omega))).symm.trans (Eq.refl (fI (V_321 100) 10)).symm))), (Eq.refl (fI (V_321 2))).trans ((congrArg fI (JW.same j_322 (by decide) (fun k => (nfc (by omega) nf0)))).trans ((hrl.2.2.2.2.2.2.1).trans ((congrArg (fun z => gb (fI z)) (j_322.2.1 110 (by decide) (by omega))).symm.trans (Eq.refl (gb (fI (V_321 110)))).symm))), (Eq.refl (rs (fI (V_321 17)))).trans ((congrArg (fun z => rs (fI z)) (JW.same j_322 (by decide) (fun k => (nfc (by omega) nf0)))).trans ((hrl.2.2.2.2.2.2.2).trans ((congrArg (fun z => rs (fI z)) (j_322.2.1 104 (by decide) (by omega))).symm.trans (Eq.refl (rs (fI (V_321 104)))).symm)))⟩
      refine aw_pop dL_law_671 rfl ?_
      refine aw_goto (tgt := 981) dL_law_672 (by decide) ?_
      refine aw_iinc (v := (nI (i + 6))) (ls' := [some (.ref b9), some (.ref (b + 0)), some (.ref (b + 100)), some (.int (nI (i + 6)))]) dL_law_981 rfl (nI_add i 6) (Nat.le_of_ble_eq_true rfl) rfl ?_
      refine aw_goto (tgt := 18) dL_law_984 (by decide) ?_
      refine mih (M + 6 - (i + 6)) (by omega) (i + 6) N cl V_321 _ _ rfl (by omega) ?_ ?_ (by omega) cw_325 cr_326 wf_327 rl_336 <;> omega
    · skip
      refine aw_tableIn (off := 642) (tgt := 675) dL_law_33 (by decide) (by decide) (by decide) (by decide) ?_
      refine aw_aload_n dL_law_675 rfl ?_
      refine aw_callVi (J' := jX11_keystones) (As := []) (st := []) dL_law_676 tb_904 ok_X11_keystones ⟨_, (CW.o0 hcw).choose_spec⟩ (by omega) rfl rfl (g_X11_keystones l D b N V (by omega) hcw) rfl (Nat.le_of_ble_eq_true rfl) ⟨Nat.le_of_ble_eq_true rfl, Nat.le_of_ble_eq_true rfl, (show _ ≤ 600000 from by omega), (show _ ≤ 7302250 from by omega)⟩ (fun r_342 N_343 V_344 q_345 => ?_)
      obtain ⟨rfl, rfl⟩ := q_345
      refine aw_pop dL_law_679 rfl ?_
      refine aw_aload_n dL_law_680 rfl ?_
      refine aw_callVi (J' := jX12_keystones) (As := []) (st := []) dL_law_681 tb_1536 ok_X12_keystones ⟨_, (CR.o100 hcr).choose_spec⟩ (by omega) rfl rfl (r_keystones l D b N V (by omega) cl hcr) rfl (Nat.le_of_ble_eq_true rfl) ⟨Nat.le_of_ble_eq_true rfl, Nat.le_of_ble_eq_true rfl, (show _ ≤ 600000 from by omega), (show _ ≤ 7302250 from by omega)⟩ (fun r_352 N_353 V_354 q_355 => ?_)
      obtain ⟨rfl, rfl⟩ := q_355
      refine aw_pop dL_law_684 rfl ?_
      refine aw_goto (tgt := 981) dL_law_685 (by decide) ?_
      refine aw_iinc (v := (nI (i + 6))) (ls' := [some (.ref b9), some (.ref (b + 0)), some (.ref (b + 100)), some (.int (nI (i + 6)))]) dL_law_981 rfl (nI_add i 6) (Nat.le_of_ble_eq_true rfl) rfl ?_
      refine aw_goto (tgt := 18) dL_law_984 (by decide) ?_
      refine mih (M + 6 - (i + 6)) (by omega) (i + 6) N cl V _ _ rfl (by omega) ?_ ?_ (by omega) hcw hcr hwf hrl <;> omega
    · skip
      refine aw_tableIn (off := 655) (tgt := 688) dL_law_33 (by decide) (by decide) (by decide) (by decide) ?_
      refine aw_aload_n dL_law_688 rfl ?_
      refine aw_aload_n dL_law_689 rfl ?_
      refine aw_iload_n dL_law_690 rfl ?_
      refine aw_iconst (v := 1) dL_law_691 (by decide) ?_
      refine aw_iadd dL_law_692 ?_
      refine aw_eqi (y := nI (i + 1)) (nI_add _ _) ?_
      refine aw_sld dL_law_693 rfl (vp_in_nI (n := (i + 1)) (by omega) (by omega)) ?_
      refine aw_aload_n dL_law_694 rfl ?_
      refine aw_iload_n dL_law_695 rfl ?_
      refine aw_iconst (v := 2) dL_law_696 (by decide) ?_
      refine aw_iadd dL_law_697 ?_
      refine aw_eqi (y := nI (i + 2)) (nI_add _ _) ?_
      refine aw_sld dL_law_698 rfl (vp_in_nI (n := (i + 2)) (by omega) (by omega)) ?_
      refine aw_callVi (J' := jX11_steps) (As := [.int (xs ((nI (i + 1))).toNatClampNeg), .int (xs ((nI (i + 2))).toNatClampNeg)]) (st := []) dL_law_699 tb_911 ok_X11_steps ⟨_, (CW.o0 hcw).choose_spec⟩ (by omega) rfl rfl (g_X11_steps l D b N V (by omega) hcw (xs ((nI (i + 1))).toNatClampNeg) (xs ((nI (i + 2))).toNatClampNeg)) rfl (Nat.le_of_ble_eq_true rfl) ⟨Nat.le_of_ble_eq_true rfl, Nat.le_of_ble_eq_true rfl, (show _ ≤ 600000 from by omega), (show _ ≤ 7302250 from by omega)⟩ (fun r_357 N_358 V_359 q_360 => ?_)
      obtain ⟨rfl, rfl⟩ := q_360
      refine aw_pop dL_law_702 rfl ?_
      refine aw_aload_n dL_law_703 rfl ?_
      refine aw_aload_n dL_law_704 rfl ?_
      refine aw_iload_n dL_law_705 rfl ?_
      refine aw_iconst (v := 1) dL_law_706 (by decide) ?_
      refine aw_iadd dL_law_707 ?_
      refine aw_eqi (y := nI (i + 1)) (nI_add _ _) ?_
      refine aw_sld dL_law_708 rfl (vp_in_nI (n := (i + 1)) (by omega) (by omega)) ?_
      refine aw_aload_n dL_law_709 rfl ?_
      refine aw_iload_n dL_law_710 rfl ?_
      refine aw_iconst (v := 2) dL_law_711 (by decide) ?_
      refine aw_iadd dL_law_712 ?_
      refine aw_eqi (y := nI (i + 2)) (nI_add _ _) ?_
      refine aw_sld dL_law_713 rfl (vp_in_nI (n := (i + 2)) (by omega) (by omega)) ?_
      refine aw_callVi (J' := jX12_steps) (As := [.int (xs ((nI (i + 1))).toNatClampNeg), .int (xs ((nI (i + 2))).toNatClampNeg)]) (st := []) dL_law_714 tb_1548 ok_X12_steps ⟨_, (CR.o100 hcr).choose_spec⟩ (by omega) rfl rfl (r_steps l D b N V (by omega) cl hcr (xs ((nI (i + 1))).toNatClampNeg) (xs ((nI (i + 2))).toNatClampNeg)) rfl (Nat.le_of_ble_eq_true rfl) ⟨Nat.le_of_ble_eq_true rfl, Nat.le_of_ble_eq_true rfl, (show _ ≤ 600000 from by omega), (show _ ≤ 7302250 from by omega)⟩ (fun r_367 N_368 V_369 q_370 => ?_)
      obtain ⟨rfl, rfl⟩ := q_370
      refine aw_pop dL_law_717 rfl ?_
      refine aw_goto (tgt := 981) dL_law_718 (by decide) ?_
      refine aw_iinc (v := (nI (i + 6))) (ls' := [some (.ref b9), some (.ref (b + 0)), some (.ref (b + 100)), some (.int (nI (i + 6)))]) dL_law_981 rfl (nI_add i 6) (Nat.le_of_ble_eq_true rfl) rfl ?_
      refine aw_goto (tgt := 18) dL_law_984 (by decide) ?_
      refine mih (M + 6 - (i + 6)) (by omega) (i + 6) N cl V _ _ rfl (by omega) ?_ ?_ (by omega) hcw hcr hwf hrl <;> omega
    · skip
      refine aw_tableIn (off := 688) (tgt := 721) dL_law_33 (by decide) (by decide) (by decide) (by decide) ?_
      refine aw_aload_n dL_law_721 rfl ?_
      refine aw_aload_n dL_law_722 rfl ?_
      refine aw_iload_n dL_law_723 rfl ?_
      refine aw_iconst (v := 1) dL_law_724 (by decide) ?_
      refine aw_iadd dL_law_725 ?_
      refine aw_eqi (y := nI (i + 1)) (nI_add _ _) ?_
      refine aw_sld dL_law_726 rfl (vp_in_nI (n := (i + 1)) (by omega) (by omega)) ?_
      refine aw_aload_n dL_law_727 rfl ?_
      refine aw_iload_n dL_law_728 rfl ?_
      refine aw_iconst (v := 2) dL_law_729 (by decide) ?_
      refine aw_iadd dL_law_730 ?_
      refine aw_eqi (y := nI (i + 2)) (nI_add _ _) ?_
      refine aw_sld dL_law_731 rfl (vp_in_nI (n := (i + 2)) (by omega) (by omega)) ?_
      refine aw_callVi (J' := jX11_guess) (As := [.int (xs ((nI (i + 1))).toNatClampNeg), .int (xs ((nI (i + 2))).toNatClampNeg)]) (st := []) dL_law_732 tb_918 ok_X11_guess ⟨_, (CW.o0 hcw).choose_spec⟩ (by omega) rfl rfl (g_X11_guessK l D b N V (by omega) hcw (xs ((nI (i + 1))).toNatClampNeg) (xs ((nI (i + 2))).toNatClampNeg)) rfl (Nat.le_of_ble_eq_true rfl) ⟨Nat.le_of_ble_eq_true rfl, Nat.le_of_ble_eq_true rfl, (show _ ≤ 600000 from by omega), (show _ ≤ 7302250 from by omega)⟩ (fun r_379 N_380 V_371 q_381 => ?_)
      obtain ⟨hs_372, rfl, j_373⟩ := q_381
      have cw_376 := j_373.1
      have cr_377 := CR.fr hcr (fun i h1 h2 => j_373.2.1 i h1 (by omega))
      have wf_378 := WF.fr hwf (fun i h1 h2 => j_373.2.1 i (by omega) (by omega))
      refine aw_pop dL_law_735 rfl ?_
      refine aw_aload_n dL_law_736 rfl ?_
      refine aw_aload_n dL_law_737 rfl ?_
      refine aw_iload_n dL_law_738 rfl ?_
      refine aw_iconst (v := 1) dL_law_739 (by decide) ?_
      refine aw_iadd dL_law_740 ?_
      refine aw_eqi (y := nI (i + 1)) (nI_add _ _) ?_
      refine aw_sld dL_law_741 rfl (vp_in_nI (n := (i + 1)) (by omega) (by omega)) ?_
      refine aw_aload_n dL_law_742 rfl ?_
      refine aw_iload_n dL_law_743 rfl ?_
      refine aw_iconst (v := 2) dL_law_744 (by decide) ?_
      refine aw_iadd dL_law_745 ?_
      refine aw_eqi (y := nI (i + 2)) (nI_add _ _) ?_
      refine aw_sld dL_law_746 rfl (vp_in_nI (n := (i + 2)) (by omega) (by omega)) ?_
      refine aw_callVi (J' := jX12_guess) (As := [.int (xs ((nI (i + 1))).toNatClampNeg), .int (xs ((nI (i + 2))).toNatClampNeg)]) (st := []) dL_law_747 tb_1552 ok_X12_guess ⟨_, (CR.o100 cr_377).choose_spec⟩ (by omega) rfl rfl (r_guessK l D b N V_371 (by omega) cl cr_377 (xs ((nI (i + 1))).toNatClampNeg) (xs ((nI (i + 2))).toNatClampNeg) (xs ((nI (i + 1))).toNatClampNeg) (xs ((nI (i + 2))).toNatClampNeg) ⟨rfl, rfl⟩) rfl (Nat.le_of_ble_eq_true rfl) ⟨Nat.le_of_ble_eq_true rfl, Nat.le_of_ble_eq_true rfl, (show _ ≤ 600000 from by omega), (show _ ≤ 7302250 from by omega)⟩ (fun r_390 N_391 V_382 q_392 => ?_)
      obtain ⟨gs_388, rfl, jr_386⟩ := q_392
      have cr_384 := jr_386.1
      have cw_383 := CW.out cw_376 (fun i hi => jr_386.2.1 i (Or.inl hi) (by omega))
      have wf_385 := WF.fr wf_378 jr_386.2.2.1
      have e_389 : fI (V_371 100) 13 = fI (V 1) 1 := (congrArg (fun z => fI z 13) (j_373.2.1 100 (by decide) (by omega))).trans (hrl.2.2.2.1).symm
      rw [e_389] at gs_388
      have rl_387 : RLs V_382 := ⟨(congrArg (fun z => fI z 4) (jr_386.2.1 0 (Or.inl (by decide)) (by omega))).trans ((JW.fI j_373 (by decide) (by decide) : fI (V_371 0) 4 = fI (V 0) 4).trans ((hrl.1).trans ((congrArg (fun z => fI z 51) (j_373.2.1 100 (by decide) (by omega))).symm.trans (JR.fI jr_386 (by decide) (by decide) (by decide) : fI (V_382 100) 51 = fI (V_371 100) 51).symm))), (congrArg (fun z => fI z 7) (jr_386.2.1 3 (Or.inl (by decide)) (by omega))).trans ((JW.fI j_373 (by decide) (by decide) : fI (V_371 3) 7 = fI (V 3) 7).trans ((hrl.2.1).trans ((congrArg (fun z => fI z 208) (j_373.2.1 101 (by decide) (by omega))).symm.trans (JR.fI jr_386 (by decide) (by decide) (by decide) : fI (V_382 101) 208 = fI (V_371 101) 208).symm))), (congrArg (fun z => fI z 7) (jr_386.2.1 39 (Or.inl (by decide)) (by omega))).trans ((JW.fI j_373 (by decide) (by decide) : fI (V_371 39) 7 = fI (V 39) 7).trans ((hrl.2.2.1).trans ((congrArg (fun z => fI z 208) (j_373.2.1 103 (by decide) (by omega))).symm.trans (JR.fI jr_386 (by decide) (by decide) (by decide) : fI (V_382 103) 208 = fI (V_371 103) 208).symm))), (congrArg (fun z => fI z 1) (jr_386.2.1 1 (Or.inl (by decide)) (by omega))).trans (TKS.one hs_372 gs_388), (congrArg (fun z => fI z 5) (jr_386.2.1 3 (Or.inl (by decide)) (by omega))).trans ((JW.fI j_373 (by decide) (by decide) : fI (V_371 3) 5 = fI (V 3) 5).trans ((hrl.2.2.2.2.1).trans ((congrArg (fun z => fI z 9) (j_373.2.1 100 (by decide) (by omega))).symm.trans (JR.fI jr_386 (by decide) (by decide) (by decide) : fI (V_382 100) 9 = fI (V_371 100) 9).symm))), (congrArg (fun z => fI z 6) (jr_386.2.1 3 (Or.inl (by decide)) (by omega))).trans ((JW.fI j_373 (by decide) (by decide) : fI (V_371 3) 6 = fI (V 3) 6).trans ((hrl.2.2.2.2.2.1).trans ((congrArg (fun z => fI z 10) (j_373.2.1 100 (by decide) (by omega))).symm.trans (JR.fI jr_386 (by decide) (by decide) (by decide) : fI (V_382 100) 10 = fI (V_371 100) 10).symm))), (congrArg fI (jr_386.2.1 2 (Or.inl (by decide)) (by omega))).trans ((congrArg fI (JW.same j_373 (by decide) (fun k => (nfc (by omega) (nfc (by omega) (nfc (by omega) (nfc (by omega) nf0))))))).trans ((hrl.2.2.2.2.2.2.1).trans ((congrArg (fun z => gb (fI z)) (j_373.2.1 110 (by decide) (by omega))).symm.trans (congrArg (fun z => gb (fI z)) (JR.same jr_386 (by decide) (by decide) (fun k => (nfc (by omega) (nfc (by omega) (nfc (by omega) nf0)))))).symm))), (congrArg (fun z => rs (fI z)) (jr_386.2.1 17 (Or.inl (by decide)) (by omega))).trans ((congrArg (fun z => rs (fI z)) (JW.same j_373 (by decide) (fun k => (nfc (by omega) (nfc (by omega) (nfc (by omega) (nfc (by omega) nf0))))))).trans ((hrl.2.2.2.2.2.2.2).trans ((congrArg (fun z => rs (fI z)) (j_373.2.1 104 (by decide) (by omega))).symm.trans (congrArg (fun z => rs (fI z)) (JR.same jr_386 (by decide) (by decide) (fun k => (nfc (by omega) (nfc (by omega) (nfc (by omega) nf0)))))).symm)))⟩
      refine aw_pop dL_law_750 rfl ?_
      refine aw_goto (tgt := 981) dL_law_751 (by decide) ?_
      refine aw_iinc (v := (nI (i + 6))) (ls' := [some (.ref b9), some (.ref (b + 0)), some (.ref (b + 100)), some (.int (nI (i + 6)))]) dL_law_981 rfl (nI_add i 6) (Nat.le_of_ble_eq_true rfl) rfl ?_
      refine aw_goto (tgt := 18) dL_law_984 (by decide) ?_
      refine mih (M + 6 - (i + 6)) (by omega) (i + 6) N cl V_382 _ _ rfl (by omega) ?_ ?_ (by omega) cw_383 cr_384 wf_385 rl_387 <;> omega
    · skip
      refine aw_tableIn (off := 721) (tgt := 754) dL_law_33 (by decide) (by decide) (by decide) (by decide) ?_
      refine aw_aload_n dL_law_754 rfl ?_
      refine aw_aload_n dL_law_755 rfl ?_
      refine aw_iload_n dL_law_756 rfl ?_
      refine aw_iconst (v := 1) dL_law_757 (by decide) ?_
      refine aw_iadd dL_law_758 ?_
      refine aw_eqi (y := nI (i + 1)) (nI_add _ _) ?_
      refine aw_sld dL_law_759 rfl (vp_in_nI (n := (i + 1)) (by omega) (by omega)) ?_
      refine aw_aload_n dL_law_760 rfl ?_
      refine aw_iload_n dL_law_761 rfl ?_
      refine aw_iconst (v := 2) dL_law_762 (by decide) ?_
      refine aw_iadd dL_law_763 ?_
      refine aw_eqi (y := nI (i + 2)) (nI_add _ _) ?_
      refine aw_sld dL_law_764 rfl (vp_in_nI (n := (i + 2)) (by omega) (by omega)) ?_
      refine aw_callVi (J' := jX11_sentNext) (As := [.int (xs ((nI (i + 1))).toNatClampNeg), .int (xs ((nI (i + 2))).toNatClampNeg)]) (st := []) dL_law_765 tb_942 ok_X11_sentNext ⟨_, (CW.o0 hcw).choose_spec⟩ (by omega) rfl rfl (g_X11_sentNext l D b N V (by omega) hcw (xs ((nI (i + 1))).toNatClampNeg) (xs ((nI (i + 2))).toNatClampNeg)) rfl (Nat.le_of_ble_eq_true rfl) ⟨Nat.le_of_ble_eq_true rfl, Nat.le_of_ble_eq_true rfl, (show _ ≤ 600000 from by omega), (show _ ≤ 7302250 from by omega)⟩ (fun r_394 N_395 V_396 q_397 => ?_)
      obtain ⟨rfl, rfl⟩ := q_397
      refine aw_pop dL_law_768 rfl ?_
      refine aw_aload_n dL_law_769 rfl ?_
      refine aw_aload_n dL_law_770 rfl ?_
      refine aw_iload_n dL_law_771 rfl ?_
      refine aw_iconst (v := 1) dL_law_772 (by decide) ?_
      refine aw_iadd dL_law_773 ?_
      refine aw_eqi (y := nI (i + 1)) (nI_add _ _) ?_
      refine aw_sld dL_law_774 rfl (vp_in_nI (n := (i + 1)) (by omega) (by omega)) ?_
      refine aw_aload_n dL_law_775 rfl ?_
      refine aw_iload_n dL_law_776 rfl ?_
      refine aw_iconst (v := 2) dL_law_777 (by decide) ?_
      refine aw_iadd dL_law_778 ?_
      refine aw_eqi (y := nI (i + 2)) (nI_add _ _) ?_
      refine aw_sld dL_law_779 rfl (vp_in_nI (n := (i + 2)) (by omega) (by omega)) ?_
      refine aw_callVi (J' := jX12_sentNext) (As := [.int (xs ((nI (i + 1))).toNatClampNeg), .int (xs ((nI (i + 2))).toNatClampNeg)]) (st := []) dL_law_780 tb_1564 ok_X12_sentNext ⟨_, (CR.o100 hcr).choose_spec⟩ (by omega) rfl rfl (r_sentNext l D b N V (by omega) cl hcr (xs ((nI (i + 1))).toNatClampNeg) (xs ((nI (i + 2))).toNatClampNeg)) rfl (Nat.le_of_ble_eq_true rfl) ⟨Nat.le_of_ble_eq_true rfl, Nat.le_of_ble_eq_true rfl, (show _ ≤ 600000 from by omega), (show _ ≤ 7302250 from by omega)⟩ (fun r_404 N_405 V_406 q_407 => ?_)
      obtain ⟨rfl, rfl⟩ := q_407
      refine aw_pop dL_law_783 rfl ?_
      refine aw_goto (tgt := 981) dL_law_784 (by decide) ?_
      refine aw_iinc (v := (nI (i + 6))) (ls' := [some (.ref b9), some (.ref (b + 0)), some (.ref (b + 100)), some (.int (nI (i + 6)))]) dL_law_981 rfl (nI_add i 6) (Nat.le_of_ble_eq_true rfl) rfl ?_
      refine aw_goto (tgt := 18) dL_law_984 (by decide) ?_
      refine mih (M + 6 - (i + 6)) (by omega) (i + 6) N cl V _ _ rfl (by omega) ?_ ?_ (by omega) hcw hcr hwf hrl <;> omega
    · skip
      refine aw_tableIn (off := 754) (tgt := 787) dL_law_33 (by decide) (by decide) (by decide) (by decide) ?_
      refine aw_aload_n dL_law_787 rfl ?_
      refine aw_aload_n dL_law_788 rfl ?_
      refine aw_iload_n dL_law_789 rfl ?_
      refine aw_iconst (v := 1) dL_law_790 (by decide) ?_
      refine aw_iadd dL_law_791 ?_
      refine aw_eqi (y := nI (i + 1)) (nI_add _ _) ?_
      refine aw_sld dL_law_792 rfl (vp_in_nI (n := (i + 1)) (by omega) (by omega)) ?_
      refine aw_callVi (J' := jX11_guards) (As := [.int (xs ((nI (i + 1))).toNatClampNeg)]) (st := []) dL_law_793 tb_954 ok_X11_guards ⟨_, (CW.o0 hcw).choose_spec⟩ (by omega) rfl rfl (g_X11_guardsK l D b N V (by omega) hcw (xs ((nI (i + 1))).toNatClampNeg)) rfl (Nat.le_of_ble_eq_true rfl) ⟨Nat.le_of_ble_eq_true rfl, Nat.le_of_ble_eq_true rfl, (show _ ≤ 600000 from by omega), (show _ ≤ 7302250 from by omega)⟩ (fun r_416 N_417 V_408 q_418 => ?_)
      obtain ⟨hs_409, rfl, j_410⟩ := q_418
      have cw_413 := j_410.1
      have cr_414 := CR.fr hcr (fun i h1 h2 => j_410.2.1 i h1 (by omega))
      have wf_415 := WF.fr hwf (fun i h1 h2 => j_410.2.1 i (by omega) (by omega))
      refine aw_pop dL_law_796 rfl ?_
      refine aw_aload_n dL_law_797 rfl ?_
      refine aw_aload_n dL_law_798 rfl ?_
      refine aw_iload_n dL_law_799 rfl ?_
      refine aw_iconst (v := 1) dL_law_800 (by decide) ?_
      refine aw_iadd dL_law_801 ?_
      refine aw_eqi (y := nI (i + 1)) (nI_add _ _) ?_
      refine aw_sld dL_law_802 rfl (vp_in_nI (n := (i + 1)) (by omega) (by omega)) ?_
      refine aw_callVi (J' := jX12_guards) (As := [.int (xs ((nI (i + 1))).toNatClampNeg)]) (st := []) dL_law_803 tb_1572 ok_X12_guards ⟨_, (CR.o100 cr_414).choose_spec⟩ (by omega) rfl rfl (r_guardsK l D b N V_408 (by omega) cl cr_414 (xs ((nI (i + 1))).toNatClampNeg) (xs ((nI (i + 1))).toNatClampNeg) rfl) rfl (Nat.le_of_ble_eq_true rfl) ⟨Nat.le_of_ble_eq_true rfl, Nat.le_of_ble_eq_true rfl, (show _ ≤ 600000 from by omega), (show _ ≤ 7302250 from by omega)⟩ (fun r_427 N_428 V_419 q_429 => ?_)
      obtain ⟨gs_425, rfl, jr_423⟩ := q_429
      have cr_421 := jr_423.1
      have cw_420 := CW.out cw_413 (fun i hi => jr_423.2.1 i (Or.inl hi) (by omega))
      have wf_422 := WF.fr wf_415 jr_423.2.2.1
      have e_426 : fI (V_408 100) 13 = fI (V 1) 1 := (congrArg (fun z => fI z 13) (j_410.2.1 100 (by decide) (by omega))).trans (hrl.2.2.2.1).symm
      rw [e_426] at gs_425
      have rl_424 : RLs V_419 := ⟨(congrArg (fun z => fI z 4) (jr_423.2.1 0 (Or.inl (by decide)) (by omega))).trans ((JW.fI j_410 (by decide) (by decide) : fI (V_408 0) 4 = fI (V 0) 4).trans ((hrl.1).trans ((congrArg (fun z => fI z 51) (j_410.2.1 100 (by decide) (by omega))).symm.trans (JR.fI jr_423 (by decide) (by decide) (by decide) : fI (V_419 100) 51 = fI (V_408 100) 51).symm))), (congrArg (fun z => fI z 7) (jr_423.2.1 3 (Or.inl (by decide)) (by omega))).trans ((JW.fI j_410 (by decide) (by decide) : fI (V_408 3) 7 = fI (V 3) 7).trans ((hrl.2.1).trans ((congrArg (fun z => fI z 208) (j_410.2.1 101 (by decide) (by omega))).symm.trans (JR.fI jr_423 (by decide) (by decide) (by decide) : fI (V_419 101) 208 = fI (V_408 101) 208).symm))), (congrArg (fun z => fI z 7) (jr_423.2.1 39 (Or.inl (by decide)) (by omega))).trans ((JW.fI j_410 (by decide) (by decide) : fI (V_408 39) 7 = fI (V 39) 7).trans ((hrl.2.2.1).trans ((congrArg (fun z => fI z 208) (j_410.2.1 103 (by decide) (by omega))).symm.trans (JR.fI jr_423 (by decide) (by decide) (by decide) : fI (V_419 103) 208 = fI (V_408 103) 208).symm))), (congrArg (fun z => fI z 1) (jr_423.2.1 1 (Or.inl (by decide)) (by omega))).trans (TKS.one hs_409 gs_425), (congrArg (fun z => fI z 5) (jr_423.2.1 3 (Or.inl (by decide)) (by omega))).trans ((JW.fI j_410 (by decide) (by decide) : fI (V_408 3) 5 = fI (V 3) 5).trans ((hrl.2.2.2.2.1).trans ((congrArg (fun z => fI z 9) (j_410.2.1 100 (by decide) (by omega))).symm.trans (JR.fI jr_423 (by decide) (by decide) (by decide) : fI (V_419 100) 9 = fI (V_408 100) 9).symm))), (congrArg (fun z => fI z 6) (jr_423.2.1 3 (Or.inl (by decide)) (by omega))).trans ((JW.fI j_410 (by decide) (by decide) : fI (V_408 3) 6 = fI (V 3) 6).trans ((hrl.2.2.2.2.2.1).trans ((congrArg (fun z => fI z 10) (j_410.2.1 100 (by decide) (by omega))).symm.trans (JR.fI jr_423 (by decide) (by decide) (by decide) : fI (V_419 100) 10 = fI (V_408 100) 10).symm))), (congrArg fI (jr_423.2.1 2 (Or.inl (by decide)) (by omega))).trans ((congrArg fI (JW.same j_410 (by decide) (fun k => (nfc (by omega) (nfc (by omega) (nfc (by omega) (nfc (by omega) (nfc (by omega) nf0)))))))).trans ((hrl.2.2.2.2.2.2.1).trans ((congrArg (fun z => gb (fI z)) (j_410.2.1 110 (by decide) (by omega))).symm.trans (congrArg (fun z => gb (fI z)) (JR.same jr_423 (by decide) (by decide) (fun k => (nfc (by omega) (nfc (by omega) nf0))))).symm))), (congrArg (fun z => rs (fI z)) (jr_423.2.1 17 (Or.inl (by decide)) (by omega))).trans ((congrArg (fun z => rs (fI z)) (JW.same j_410 (by decide) (fun k => (nfc (by omega) (nfc (by omega) (nfc (by omega) (nfc (by omega) (nfc (by omega) nf0)))))))).trans ((hrl.2.2.2.2.2.2.2).trans ((congrArg (fun z => rs (fI z)) (j_410.2.1 104 (by decide) (by omega))).symm.trans (congrArg (fun z => rs (fI z)) (JR.same jr_423 (by decide) (by decide) (fun k => (nfc (by omega) (nfc (by omega) nf0))))).symm)))⟩
      refine aw_pop dL_law_806 rfl ?_
      refine aw_goto (tgt := 981) dL_law_807 (by decide) ?_
      refine aw_iinc (v := (nI (i + 6))) (ls' := [some (.ref b9), some (.ref (b + 0)), some (.ref (b + 100)), some (.int (nI (i + 6)))]) dL_law_981 rfl (nI_add i 6) (Nat.le_of_ble_eq_true rfl) rfl ?_
      refine aw_goto (tgt := 18) dL_law_984 (by decide) ?_
      refine mih (M + 6 - (i + 6)) (by omega) (i + 6) N cl V_419 _ _ rfl (by omega) ?_ ?_ (by omega) cw_420 cr_421 wf_422 rl_424 <;> omega
    · skip
      refine aw_tableIn (off := 777) (tgt := 810) dL_law_33 (by decide) (by decide) (by decide) (by decide) ?_
      refine aw_aload_n dL_law_810 rfl ?_
      refine aw_aload_n dL_law_811 rfl ?_
      refine aw_iload_n dL_law_812 rfl ?_
      refine aw_iconst (v := 1) dL_law_813 (by decide) ?_
      refine aw_iadd dL_law_814 ?_
      refine aw_eqi (y := nI (i + 1)) (nI_add _ _) ?_
      refine aw_sld dL_law_815 rfl (vp_in_nI (n := (i + 1)) (by omega) (by omega)) ?_
      refine aw_aload_n dL_law_816 rfl ?_
      refine aw_iload_n dL_law_817 rfl ?_
      refine aw_iconst (v := 2) dL_law_818 (by decide) ?_
      refine aw_iadd dL_law_819 ?_
      refine aw_eqi (y := nI (i + 2)) (nI_add _ _) ?_
      refine aw_sld dL_law_820 rfl (vp_in_nI (n := (i + 2)) (by omega) (by omega)) ?_
      refine aw_aload_n dL_law_821 rfl ?_
      refine aw_iload_n dL_law_822 rfl ?_
      refine aw_iconst (v := 3) dL_law_823 (by decide) ?_
      refine aw_iadd dL_law_824 ?_
      refine aw_eqi (y := nI (i + 3)) (nI_add _ _) ?_
      refine aw_sld dL_law_825 rfl (vp_in_nI (n := (i + 3)) (by omega) (by omega)) ?_
      refine aw_callVl (J' := jX11_word) (As := [.int (xs ((nI (i + 1))).toNatClampNeg), .int (xs ((nI (i + 2))).toNatClampNeg), .int (xs ((nI (i + 3))).toNatClampNeg)]) (st := []) dL_law_826 tb_973 ok_X11_word ⟨_, (CW.o0 hcw).choose_spec⟩ (by omega) rfl rfl (g_X11_word l D b N V (by omega) hcw (xs ((nI (i + 1))).toNatClampNeg) (xs ((nI (i + 2))).toNatClampNeg) (xs ((nI (i + 3))).toNatClampNeg)) rfl (Nat.le_of_ble_eq_true rfl) ⟨Nat.le_of_ble_eq_true rfl, Nat.le_of_ble_eq_true rfl, (show _ ≤ 600000 from by omega), (show _ ≤ 7302250 from by omega)⟩ (fun r_437 N_438 V_430 q_439 => ?_)
      obtain ⟨rfl, j_431⟩ := q_439
      have cw_434 := j_431.1
      have cr_435 := CR.fr hcr (fun i h1 h2 => j_431.2.1 i h1 (by omega))
      have wf_436 := WF.fr hwf (fun i h1 h2 => j_431.2.1 i (by omega) (by omega))
      refine aw_pop2 dL_law_829 rfl ?_
      refine aw_aload_n dL_law_830 rfl ?_
      refine aw_aload_n dL_law_831 rfl ?_
      refine aw_iload_n dL_law_832 rfl ?_
      refine aw_iconst (v := 1) dL_law_833 (by decide) ?_
      refine aw_iadd dL_law_834 ?_
      refine aw_eqi (y := nI (i + 1)) (nI_add _ _) ?_
      refine aw_sld dL_law_835 rfl (vp_in_nI (n := (i + 1)) (by omega) (by omega)) ?_
      refine aw_aload_n dL_law_836 rfl ?_
      refine aw_iload_n dL_law_837 rfl ?_
      refine aw_iconst (v := 2) dL_law_838 (by decide) ?_
      refine aw_iadd dL_law_839 ?_
      refine aw_eqi (y := nI (i + 2)) (nI_add _ _) ?_
      refine aw_sld dL_law_840 rfl (vp_in_nI (n := (i + 2)) (by omega) (by omega)) ?_
      refine aw_aload_n dL_law_841 rfl ?_
      refine aw_iload_n dL_law_842 rfl ?_
      refine aw_iconst (v := 3) dL_law_843 (by decide) ?_
      refine aw_iadd dL_law_844 ?_
      refine aw_eqi (y := nI (i + 3)) (nI_add _ _) ?_
      refine aw_sld dL_law_845 rfl (vp_in_nI (n := (i + 3)) (by omega) (by omega)) ?_
      refine aw_callVl (J' := jX12_word) (As := [.int (xs ((nI (i + 1))).toNatClampNeg), .int (xs ((nI (i + 2))).toNatClampNeg), .int (xs ((nI (i + 3))).toNatClampNeg)]) (st := []) dL_law_846 tb_1588 ok_X12_word ⟨_, (CR.o100 cr_435).choose_spec⟩ (by omega) rfl rfl (r_word l D b N V_430 (by omega) cl cr_435 (xs ((nI (i + 1))).toNatClampNeg) (xs ((nI (i + 2))).toNatClampNeg) (xs ((nI (i + 3))).toNatClampNeg)) rfl (Nat.le_of_ble_eq_true rfl) ⟨Nat.le_of_ble_eq_true rfl, Nat.le_of_ble_eq_true rfl, (show _ ≤ 600000 from by omega), (show _ ≤ 7302250 from by omega)⟩ (fun r_446 N_447 V_440 q_448 => ?_)
      obtain ⟨rfl, jr_444⟩ := q_448
      have cr_442 := jr_444.1
      have cw_441 := CW.out cw_434 (fun i hi => jr_444.2.1 i (Or.inl hi) (by omega))
      have wf_443 := WF.fr wf_436 jr_444.2.2.1
      have rl_445 : RLs V_440 := ⟨(congrArg (fun z => fI z 4) (jr_444.2.1 0 (Or.inl (by decide)) (by omega))).trans ((JW.fI j_431 (by decide) (by decide) : fI (V_430 0) 4 = fI (V 0) 4).trans ((hrl.1).trans ((congrArg (fun z => fI z 51) (j_431.2.1 100 (by decide) (by omega))).symm.trans (JR.fI jr_444 (by decide) (by decide) (by decide) : fI (V_440 100) 51 = fI (V_430 100) 51).symm))), (congrArg (fun z => fI z 7) (jr_444.2.1 3 (Or.inl (by decide)) (by omega))).trans ((JW.fI j_431 (by decide) (by decide) : fI (V_430 3) 7 = fI (V 3) 7).trans ((hrl.2.1).trans ((congrArg (fun z => fI z 208) (j_431.2.1 101 (by decide) (by omega))).symm.trans (JR.fI jr_444 (by decide) (by decide) (by decide) : fI (V_440 101) 208 = fI (V_430 101) 208).symm))), (congrArg (fun z => fI z 7) (jr_444.2.1 39 (Or.inl (by decide)) (by omega))).trans ((JW.fI j_431 (by decide) (by decide) : fI (V_430 39) 7 = fI (V 39) 7).trans ((hrl.2.2.1).trans ((congrArg (fun z => fI z 208) (j_431.2.1 103 (by decide) (by omega))).symm.trans (JR.fI jr_444 (by decide) (by decide) (by decide) : fI (V_440 103) 208 = fI (V_430 103) 208).symm))), (congrArg (fun z => fI z 1) (jr_444.2.1 1 (Or.inl (by decide)) (by omega))).trans ((JW.fI j_431 (by decide) (by decide) : fI (V_430 1) 1 = fI (V 1) 1).trans ((hrl.2.2.2.1).trans ((congrArg (fun z => fI z 13) (j_431.2.1 100 (by decide) (by omega))).symm.trans (JR.fI jr_444 (by decide) (by decide) (by decide) : fI (V_440 100) 13 = fI (V_430 100) 13).symm))), (congrArg (fun z => fI z 5) (jr_444.2.1 3 (Or.inl (by decide)) (by omega))).trans ((JW.fI j_431 (by decide) (by decide) : fI (V_430 3) 5 = fI (V 3) 5).trans ((hrl.2.2.2.2.1).trans ((congrArg (fun z => fI z 9) (j_431.2.1 100 (by decide) (by omega))).symm.trans (JR.fI jr_444 (by decide) (by decide) (by decide) : fI (V_440 100) 9 = fI (V_430 100) 9).symm))), (congrArg (fun z => fI z 6) (jr_444.2.1 3 (Or.inl (by decide)) (by omega))).trans ((JW.fI j_431 (by decide) (by decide) : fI (V_430 3) 6 = fI (V 3) 6).trans ((hrl.2.2.2.2.2.1).trans ((congrArg (fun z => fI z 10) (j_431.2.1 100 (by decide) (by omega))).symm.trans (JR.fI jr_444 (by decide) (by decide) (by decide) : fI (V_440 100) 10 = fI (V_430 100) 10).symm))), (congrArg fI (jr_444.2.1 2 (Or.inl (by decide)) (by omega))).trans ((congrArg fI (JW.same j_431 (by decide) (fun k => (nfc (by omega) nf0)))).trans ((hrl.2.2.2.2.2.2.1).trans ((congrArg (fun z => gb (fI z)) (j_431.2.1 110 (by decide) (by omega))).symm.trans (congrArg (fun z => gb (fI z)) (JR.same jr_444 (by decide) (by decide) (fun k => (nfc (by omega) nf0)))).symm))), (congrArg (fun z => rs (fI z)) (jr_444.2.1 17 (Or.inl (by decide)) (by omega))).trans ((congrArg (fun z => rs (fI z)) (JW.same j_431 (by decide) (fun k => (nfc (by omega) nf0)))).trans ((hrl.2.2.2.2.2.2.2).trans ((congrArg (fun z => rs (fI z)) (j_431.2.1 104 (by decide) (by omega))).symm.trans (congrArg (fun z => rs (fI z)) (JR.same jr_444 (by decide) (by decide) (fun k => (nfc (by omega) nf0)))).symm)))⟩
      refine aw_pop2 dL_law_849 rfl ?_
      refine aw_goto (tgt := 981) dL_law_850 (by decide) ?_
      refine aw_iinc (v := (nI (i + 6))) (ls' := [some (.ref b9), some (.ref (b + 0)), some (.ref (b + 100)), some (.int (nI (i + 6)))]) dL_law_981 rfl (nI_add i 6) (Nat.le_of_ble_eq_true rfl) rfl ?_
      refine aw_goto (tgt := 18) dL_law_984 (by decide) ?_
      refine mih (M + 6 - (i + 6)) (by omega) (i + 6) N cl V_440 _ _ rfl (by omega) ?_ ?_ (by omega) cw_441 cr_442 wf_443 rl_445 <;> omega
    · skip
      refine aw_tableIn (off := 820) (tgt := 853) dL_law_33 (by decide) (by decide) (by decide) (by decide) ?_
      refine aw_aload_n dL_law_853 rfl ?_
      refine aw_aload_n dL_law_854 rfl ?_
      refine aw_iload_n dL_law_855 rfl ?_
      refine aw_iconst (v := 1) dL_law_856 (by decide) ?_
      refine aw_iadd dL_law_857 ?_
      refine aw_eqi (y := nI (i + 1)) (nI_add _ _) ?_
      refine aw_sld dL_law_858 rfl (vp_in_nI (n := (i + 1)) (by omega) (by omega)) ?_
      refine aw_aload_n dL_law_859 rfl ?_
      refine aw_iload_n dL_law_860 rfl ?_
      refine aw_iconst (v := 2) dL_law_861 (by decide) ?_
      refine aw_iadd dL_law_862 ?_
      refine aw_eqi (y := nI (i + 2)) (nI_add _ _) ?_
      refine aw_sld dL_law_863 rfl (vp_in_nI (n := (i + 2)) (by omega) (by omega)) ?_
      refine aw_callVi (J' := jX11_rooms) (As := [.int (xs ((nI (i + 1))).toNatClampNeg), .int (xs ((nI (i + 2))).toNatClampNeg)]) (st := []) dL_law_864 tb_986 ok_X11_rooms ⟨_, (CW.o0 hcw).choose_spec⟩ (by omega) rfl rfl (g_X11_roomsS l D b N V (by omega) hcw (xs ((nI (i + 1))).toNatClampNeg) (xs ((nI (i + 2))).toNatClampNeg) (BYof hrl)) rfl (Nat.le_of_ble_eq_true rfl) ⟨Nat.le_of_ble_eq_true rfl, Nat.le_of_ble_eq_true rfl, (show _ ≤ 600000 from by omega), (show _ ≤ 7302250 from by omega)⟩ (fun r_458 N_459 V_449 q_460 => ?_)
      obtain ⟨⟨ha_450, hs_451⟩, rfl, j_452⟩ := q_460
      have cw_455 := j_452.1
      have cr_456 := CR.fr hcr (fun i h1 h2 => j_452.2.1 i h1 (by omega))
      have wf_457 := WF.fr hwf (fun i h1 h2 => j_452.2.1 i (by omega) (by omega))
      refine aw_aload_n dL_law_867 rfl ?_
      refine aw_aload_n dL_law_868 rfl ?_
      refine aw_iload_n dL_law_869 rfl ?_
      refine aw_iconst (v := 1) dL_law_870 (by decide) ?_
      refine aw_iadd dL_law_871 ?_
      refine aw_eqi (y := nI (i + 1)) (nI_add _ _) ?_
      refine aw_sld dL_law_872 rfl (vp_in_nI (n := (i + 1)) (by omega) (by omega)) ?_
      refine aw_aload_n dL_law_873 rfl ?_
      refine aw_iload_n dL_law_874 rfl ?_
      refine aw_iconst (v := 2) dL_law_875 (by decide) ?_
      refine aw_iadd dL_law_876 ?_
      refine aw_eqi (y := nI (i + 2)) (nI_add _ _) ?_
      refine aw_sld dL_law_877 rfl (vp_in_nI (n := (i + 2)) (by omega) (by omega)) ?_
      refine aw_callVi (J' := jX12_rooms) (As := [.int (xs ((nI (i + 1))).toNatClampNeg), .int (xs ((nI (i + 2))).toNatClampNeg)]) (st := [.int r_458]) dL_law_878 tb_1593 ok_X12_rooms ⟨_, (CR.o100 cr_456).choose_spec⟩ (by omega) rfl rfl (r_roomsS l D b N V_449 (by omega) cl cr_456 (xs ((nI (i + 1))).toNatClampNeg) (xs ((nI (i + 2))).toNatClampNeg) (xs ((nI (i + 1))).toNatClampNeg) (xs ((nI (i + 2))).toNatClampNeg) ⟨rfl, rfl⟩) rfl (Nat.le_of_ble_eq_true rfl) ⟨Nat.le_of_ble_eq_true rfl, Nat.le_of_ble_eq_true rfl, (show _ ≤ 600000 from by omega), (show _ ≤ 7302250 from by omega)⟩ (fun r_471 N_472 V_461 q_473 => ?_)
      obtain ⟨⟨ga_467, gs_468⟩, rfl, jr_465⟩ := q_473
      have cr_463 := jr_465.1
      have cw_462 := CW.out cw_455 (fun i hi => jr_465.2.1 i (Or.inl hi) (by omega))
      have wf_464 := WF.fr wf_457 jr_465.2.2.1
      have e_469 : fI (V_449 100) 13 = fI (V 1) 1 := (congrArg (fun z => fI z 13) (j_452.2.1 100 (by decide) (by omega))).trans (hrl.2.2.2.1).symm
      rw [e_469] at gs_468
      have e_470 : gb (fI (V_449 110)) = fI (V 2) := (congrArg (fun z => gb (fI z)) (j_452.2.1 110 (by decide) (by omega))).trans (hrl.2.2.2.2.2.2.1).symm
      rw [e_469, e_470] at ga_467
      have rl_466 : RLs V_461 := ⟨(congrArg (fun z => fI z 4) (jr_465.2.1 0 (Or.inl (by decide)) (by omega))).trans ((JW.fI j_452 (by decide) (by decide) : fI (V_449 0) 4 = fI (V 0) 4).trans ((hrl.1).trans ((congrArg (fun z => fI z 51) (j_452.2.1 100 (by decide) (by omega))).symm.trans (JR.fI jr_465 (by decide) (by decide) (by decide) : fI (V_461 100) 51 = fI (V_449 100) 51).symm))), (congrArg (fun z => fI z 7) (jr_465.2.1 3 (Or.inl (by decide)) (by omega))).trans ((JW.fI j_452 (by decide) (by decide) : fI (V_449 3) 7 = fI (V 3) 7).trans ((hrl.2.1).trans ((congrArg (fun z => fI z 208) (j_452.2.1 101 (by decide) (by omega))).symm.trans (JR.fI jr_465 (by decide) (by decide) (by decide) : fI (V_461 101) 208 = fI (V_449 101) 208).symm))), (congrArg (fun z => fI z 7) (jr_465.2.1 39 (Or.inl (by decide)) (by omega))).trans ((JW.fI j_452 (by decide) (by decide) : fI (V_449 39) 7 = fI (V 39) 7).trans ((hrl.2.2.1).trans ((congrArg (fun z => fI z 208) (j_452.2.1 103 (by decide) (by omega))).symm.trans (JR.fI jr_465 (by decide) (by decide) (by decide) : fI (V_461 103) 208 = fI (V_449 103) 208).symm))), (congrArg (fun z => fI z 1) (jr_465.2.1 1 (Or.inl (by decide)) (by omega))).trans (TKS.one hs_451 gs_468), (congrArg (fun z => fI z 5) (jr_465.2.1 3 (Or.inl (by decide)) (by omega))).trans ((JW.fI j_452 (by decide) (by decide) : fI (V_449 3) 5 = fI (V 3) 5).trans ((hrl.2.2.2.2.1).trans ((congrArg (fun z => fI z 9) (j_452.2.1 100 (by decide) (by omega))).symm.trans (JR.fI jr_465 (by decide) (by decide) (by decide) : fI (V_461 100) 9 = fI (V_449 100) 9).symm))), (congrArg (fun z => fI z 6) (jr_465.2.1 3 (Or.inl (by decide)) (by omega))).trans ((JW.fI j_452 (by decide) (by decide) : fI (V_449 3) 6 = fI (V 3) 6).trans ((hrl.2.2.2.2.2.1).trans ((congrArg (fun z => fI z 10) (j_452.2.1 100 (by decide) (by omega))).symm.trans (JR.fI jr_465 (by decide) (by decide) (by decide) : fI (V_461 100) 10 = fI (V_449 100) 10).symm))), (congrArg fI (jr_465.2.1 2 (Or.inl (by decide)) (by omega))).trans ((congrArg fI (JW.same j_452 (by decide) (fun k => (nfc (by omega) (nfc (by omega) (nfc (by omega) (nfc (by omega) nf0))))))).trans ((hrl.2.2.2.2.2.2.1).trans ((congrArg (fun z => gb (fI z)) (j_452.2.1 110 (by decide) (by omega))).symm.trans (congrArg (fun z => gb (fI z)) (JR.same jr_465 (by decide) (by decide) (fun k => (nfc (by omega) (nfc (by omega) nf0))))).symm))), (congrArg (fun z => rs (fI z)) (jr_465.2.1 17 (Or.inl (by decide)) (by omega))).trans ((congrArg (fun z => rs (fI z)) (JW.same j_452 (by decide) (fun k => (nfc (by omega) (nfc (by omega) (nfc (by omega) (nfc (by omega) nf0))))))).trans ((hrl.2.2.2.2.2.2.2).trans ((congrArg (fun z => rs (fI z)) (j_452.2.1 104 (by decide) (by omega))).symm.trans (congrArg (fun z => rs (fI z)) (JR.same jr_465 (by decide) (by decide) (fun k => (nfc (by omega) (nfc (by omega) nf0))))).symm)))⟩
      refine aw_icmp_eq (tgt := 981) dL_law_881 (by decide) (fun c_474 => ?_) (fun c_474 => ?_)
      rotate_left
      · exact absurd (ANS.one ha_450 ga_467) c_474
      refine aw_iinc (v := (nI (i + 6))) (ls' := [some (.ref b9), some (.ref (b + 0)), some (.ref (b + 100)), some (.int (nI (i + 6)))]) dL_law_981 rfl (nI_add i 6) (Nat.le_of_ble_eq_true rfl) rfl ?_
      refine aw_goto (tgt := 18) dL_law_984 (by decide) ?_
      refine mih (M + 6 - (i + 6)) (by omega) (i + 6) N cl V_461 _ _ rfl (by omega) ?_ ?_ (by omega) cw_462 cr_463 wf_464 rl_466 <;> omega
    · skip
      refine aw_tableIn (off := 853) (tgt := 886) dL_law_33 (by decide) (by decide) (by decide) (by decide) ?_
      refine aw_aload_n dL_law_886 rfl ?_
      refine aw_aload_n dL_law_887 rfl ?_
      refine aw_iload_n dL_law_888 rfl ?_
      refine aw_iconst (v := 1) dL_law_889 (by decide) ?_
      refine aw_iadd dL_law_890 ?_
      refine aw_eqi (y := nI (i + 1)) (nI_add _ _) ?_
      refine aw_sld dL_law_891 rfl (vp_in_nI (n := (i + 1)) (by omega) (by omega)) ?_
      refine aw_callVi (J' := jX11_seed) (As := [.int (xs ((nI (i + 1))).toNatClampNeg)]) (st := []) dL_law_892 tb_999 ok_X11_seed ⟨_, (CW.o0 hcw).choose_spec⟩ (by omega) rfl rfl (g_X11_seed l D b N V (by omega) hcw (xs ((nI (i + 1))).toNatClampNeg)) rfl (Nat.le_of_ble_eq_true rfl) ⟨Nat.le_of_ble_eq_true rfl, Nat.le_of_ble_eq_true rfl, (show _ ≤ 600000 from by omega), (show _ ≤ 7302250 from by omega)⟩ (fun r_482 N_483 V_475 q_484 => ?_)
      obtain ⟨_, rfl, j_476⟩ := q_484
      have cw_479 := j_476.1
      have cr_480 := CR.fr hcr (fun i h1 h2 => j_476.2.1 i h1 (by omega))
      have wf_481 := WF.fr hwf (fun i h1 h2 => j_476.2.1 i (by omega) (by omega))
      refine aw_pop dL_law_895 rfl ?_
      refine aw_aload_n dL_law_896 rfl ?_
      refine aw_aload_n dL_law_897 rfl ?_
      refine aw_iload_n dL_law_898 rfl ?_
      refine aw_iconst (v := 1) dL_law_899 (by decide) ?_
      refine aw_iadd dL_law_900 ?_
      refine aw_eqi (y := nI (i + 1)) (nI_add _ _) ?_
      refine aw_sld dL_law_901 rfl (vp_in_nI (n := (i + 1)) (by omega) (by omega)) ?_
      refine aw_callVi (J' := jX12_seed) (As := [.int (xs ((nI (i + 1))).toNatClampNeg)]) (st := []) dL_law_902 tb_1601 ok_X12_seed ⟨_, (CR.o100 cr_480).choose_spec⟩ (by omega) rfl rfl (r_seed l D b N V_475 (by omega) cl cr_480 (xs ((nI (i + 1))).toNatClampNeg)) rfl (Nat.le_of_ble_eq_true rfl) ⟨Nat.le_of_ble_eq_true rfl, Nat.le_of_ble_eq_true rfl, (show _ ≤ 600000 from by omega), (show _ ≤ 7302250 from by omega)⟩ (fun r_491 N_492 V_485 q_493 => ?_)
      obtain ⟨_, rfl, jr_489⟩ := q_493
      have cr_487 := jr_489.1
      have cw_486 := CW.out cw_479 (fun i hi => jr_489.2.1 i (Or.inl hi) (by omega))
      have wf_488 := WF.fr wf_481 jr_489.2.2.1
      have rl_490 : RLs V_485 := ⟨(congrArg (fun z => fI z 4) (jr_489.2.1 0 (Or.inl (by decide)) (by omega))).trans ((JW.fI j_476 (by decide) (by decide) : fI (V_475 0) 4 = fI (V 0) 4).trans ((hrl.1).trans ((congrArg (fun z => fI z 51) (j_476.2.1 100 (by decide) (by omega))).symm.trans (JR.fI jr_489 (by decide) (by decide) (by decide) : fI (V_485 100) 51 = fI (V_475 100) 51).symm))), (congrArg (fun z => fI z 7) (jr_489.2.1 3 (Or.inl (by decide)) (by omega))).trans ((JW.fI j_476 (by decide) (by decide) : fI (V_475 3) 7 = fI (V 3) 7).trans ((hrl.2.1).trans ((congrArg (fun z => fI z 208) (j_476.2.1 101 (by decide) (by omega))).symm.trans (JR.fI jr_489 (by decide) (by decide) (by decide) : fI (V_485 101) 208 = fI (V_475 101) 208).symm))), (congrArg (fun z => fI z 7) (jr_489.2.1 39 (Or.inl (by decide)) (by omega))).trans ((JW.fI j_476 (by decide) (by decide) : fI (V_475 39) 7 = fI (V 39) 7).trans ((hrl.2.2.1).trans ((congrArg (fun z => fI z 208) (j_476.2.1 103 (by decide) (by omega))).symm.trans (JR.fI jr_489 (by decide) (by decide) (by decide) : fI (V_485 103) 208 = fI (V_475 103) 208).symm))), (congrArg (fun z => fI z 1) (jr_489.2.1 1 (Or.inl (by decide)) (by omega))).trans ((JW.fI j_476 (by decide) (by decide) : fI (V_475 1) 1 = fI (V 1) 1).trans ((hrl.2.2.2.1).trans ((congrArg (fun z => fI z 13) (j_476.2.1 100 (by decide) (by omega))).symm.trans (JR.fI jr_489 (by decide) (by decide) (by decide) : fI (V_485 100) 13 = fI (V_475 100) 13).symm))), (congrArg (fun z => fI z 5) (jr_489.2.1 3 (Or.inl (by decide)) (by omega))).trans ((JW.fI j_476 (by decide) (by decide) : fI (V_475 3) 5 = fI (V 3) 5).trans ((hrl.2.2.2.2.1).trans ((congrArg (fun z => fI z 9) (j_476.2.1 100 (by decide) (by omega))).symm.trans (JR.fI jr_489 (by decide) (by decide) (by decide) : fI (V_485 100) 9 = fI (V_475 100) 9).symm))), (congrArg (fun z => fI z 6) (jr_489.2.1 3 (Or.inl (by decide)) (by omega))).trans ((JW.fI j_476 (by decide) (by decide) : fI (V_475 3) 6 = fI (V 3) 6).trans ((hrl.2.2.2.2.2.1).trans ((congrArg (fun z => fI z 10) (j_476.2.1 100 (by decide) (by omega))).symm.trans (JR.fI jr_489 (by decide) (by decide) (by decide) : fI (V_485 100) 10 = fI (V_475 100) 10).symm))), (congrArg fI (jr_489.2.1 2 (Or.inl (by decide)) (by omega))).trans ((congrArg fI (JW.same j_476 (by decide) (fun k => (nfc (by omega) nf0)))).trans ((hrl.2.2.2.2.2.2.1).trans ((congrArg (fun z => gb (fI z)) (j_476.2.1 110 (by decide) (by omega))).symm.trans (congrArg (fun z => gb (fI z)) (JR.same jr_489 (by decide) (by decide) (fun k => (nfc (by omega) nf0)))).symm))), (congrArg (fun z => rs (fI z)) (jr_489.2.1 17 (Or.inl (by decide)) (by omega))).trans ((congrArg (fun z => rs (fI z)) (JW.same j_476 (by decide) (fun k => (nfc (by omega) nf0)))).trans ((hrl.2.2.2.2.2.2.2).trans ((congrArg (fun z => rs (fI z)) (j_476.2.1 104 (by decide) (by omega))).symm.trans (congrArg (fun z => rs (fI z)) (JR.same jr_489 (by decide) (by decide) (fun k => (nfc (by omega) nf0)))).symm)))⟩
      refine aw_pop dL_law_905 rfl ?_
      refine aw_goto (tgt := 981) dL_law_906 (by decide) ?_
      refine aw_iinc (v := (nI (i + 6))) (ls' := [some (.ref b9), some (.ref (b + 0)), some (.ref (b + 100)), some (.int (nI (i + 6)))]) dL_law_981 rfl (nI_add i 6) (Nat.le_of_ble_eq_true rfl) rfl ?_
      refine aw_goto (tgt := 18) dL_law_984 (by decide) ?_
      refine mih (M + 6 - (i + 6)) (by omega) (i + 6) N cl V_485 _ _ rfl (by omega) ?_ ?_ (by omega) cw_486 cr_487 wf_488 rl_490 <;> omega
    · skip
      refine aw_tableIn (off := 876) (tgt := 909) dL_law_33 (by decide) (by decide) (by decide) (by decide) ?_
      refine aw_aload_n dL_law_909 rfl ?_
      refine aw_callVi (J' := jX11_keep) (As := []) (st := []) dL_law_910 tb_1003 ok_X11_keep ⟨_, (CW.o0 hcw).choose_spec⟩ (by omega) rfl rfl (g_X11_keepK l D b N V (by omega) hcw) rfl (Nat.le_of_ble_eq_true rfl) ⟨Nat.le_of_ble_eq_true rfl, Nat.le_of_ble_eq_true rfl, (show _ ≤ 600000 from by omega), (show _ ≤ 7302250 from by omega)⟩ (fun r_502 N_503 V_494 q_504 => ?_)
      obtain ⟨hk_495, rfl, j_496⟩ := q_504
      have cw_499 := j_496.1
      have cr_500 := CR.fr hcr (fun i h1 h2 => j_496.2.1 i h1 (by omega))
      have wf_501 := WF.fr hwf (fun i h1 h2 => j_496.2.1 i (by omega) (by omega))
      refine aw_pop dL_law_913 rfl ?_
      refine aw_aload_n dL_law_914 rfl ?_
      refine aw_callVi (J' := jX12_keep) (As := []) (st := []) dL_law_915 tb_1605 ok_X12_keep ⟨_, (CR.o100 cr_500).choose_spec⟩ (by omega) rfl rfl (r_keepK l D b N V_494 (by omega) cl cr_500) rfl (Nat.le_of_ble_eq_true rfl) ⟨Nat.le_of_ble_eq_true rfl, Nat.le_of_ble_eq_true rfl, (show _ ≤ 600000 from by omega), (show _ ≤ 7302250 from by omega)⟩ (fun r_513 N_514 V_505 q_515 => ?_)
      obtain ⟨gk_511, rfl, jr_509⟩ := q_515
      have cr_507 := jr_509.1
      have cw_506 := CW.out cw_499 (fun i hi => jr_509.2.1 i (Or.inl hi) (by omega))
      have wf_508 := WF.fr wf_501 jr_509.2.2.1
      have e_512 : fI (V_494 101) 208 = fI (V 3) 7 := (congrArg (fun z => fI z 208) (j_496.2.1 101 (by decide) (by omega))).trans (hrl.2.1).symm
      have rl_510 : RLs V_505 := ⟨(congrArg (fun z => fI z 4) (jr_509.2.1 0 (Or.inl (by decide)) (by omega))).trans (hk_495.2.2.trans gk_511.2.2.symm), (congrArg (fun z => fI z 7) (jr_509.2.1 3 (Or.inl (by decide)) (by omega))).trans ((JW.fI j_496 (by decide) (by decide) : fI (V_494 3) 7 = fI (V 3) 7).trans ((hrl.2.1).trans ((congrArg (fun z => fI z 208) (j_496.2.1 101 (by decide) (by omega))).symm.trans (JR.fI jr_509 (by decide) (by decide) (by decide) : fI (V_505 101) 208 = fI (V_494 101) 208).symm))), (congrArg (fun z => fI z 7) (jr_509.2.1 39 (Or.inl (by decide)) (by omega))).trans (hk_495.2.1.trans (e_512.symm.trans gk_511.2.1.symm)), (congrArg (fun z => fI z 1) (jr_509.2.1 1 (Or.inl (by decide)) (by omega))).trans ((JW.fI j_496 (by decide) (by decide) : fI (V_494 1) 1 = fI (V 1) 1).trans ((hrl.2.2.2.1).trans ((congrArg (fun z => fI z 13) (j_496.2.1 100 (by decide) (by omega))).symm.trans (JR.fI jr_509 (by decide) (by decide) (by decide) : fI (V_505 100) 13 = fI (V_494 100) 13).symm))), (congrArg (fun z => fI z 5) (jr_509.2.1 3 (Or.inl (by decide)) (by omega))).trans ((JW.fI j_496 (by decide) (by decide) : fI (V_494 3) 5 = fI (V 3) 5).trans ((hrl.2.2.2.2.1).trans ((congrArg (fun z => fI z 9) (j_496.2.1 100 (by decide) (by omega))).symm.trans (JR.fI jr_509 (by decide) (by decide) (by decide) : fI (V_505 100) 9 = fI (V_494 100) 9).symm))), (congrArg (fun z => fI z 6) (jr_509.2.1 3 (Or.inl (by decide)) (by omega))).trans ((JW.fI j_496 (by decide) (by decide) : fI (V_494 3) 6 = fI (V 3) 6).trans ((hrl.2.2.2.2.2.1).trans ((congrArg (fun z => fI z 10) (j_496.2.1 100 (by decide) (by omega))).symm.trans (JR.fI jr_509 (by decide) (by decide) (by decide) : fI (V_505 100) 10 = fI (V_494 100) 10).symm))), (congrArg fI (jr_509.2.1 2 (Or.inl (by decide)) (by omega))).trans ((congrArg fI (JW.same j_496 (by decide) (fun k => (nfc (by omega) (nfc (by omega) (nfc (by omega) (nfc (by omega) (nfc (by omega) (nfc (by omega) nf0))))))))).trans ((hrl.2.2.2.2.2.2.1).trans ((congrArg (fun z => gb (fI z)) (j_496.2.1 110 (by decide) (by omega))).symm.trans (congrArg (fun z => gb (fI z)) (JR.same jr_509 (by decide) (by decide) (fun k => (nfc (by omega) (nfc (by omega) nf0))))).symm))), (congrArg (fun z => rs (fI z)) (jr_509.2.1 17 (Or.inl (by decide)) (by omega))).trans ((congrArg (fun z => rs (fI z)) (JW.same j_496 (by decide) (fun k => (nfc (by omega) (nfc (by omega) (nfc (by omega) (nfc (by omega) (nfc (by omega) (nfc (by omega) nf0))))))))).trans ((hrl.2.2.2.2.2.2.2).trans ((congrArg (fun z => rs (fI z)) (j_496.2.1 104 (by decide) (by omega))).symm.trans (congrArg (fun z => rs (fI z)) (JR.same jr_509 (by decide) (by decide) (fun k => (nfc (by omega) (nfc (by omega) nf0))))).symm)))⟩
      refine aw_pop dL_law_918 rfl ?_
      refine aw_goto (tgt := 981) dL_law_919 (by decide) ?_
      refine aw_iinc (v := (nI (i + 6))) (ls' := [some (.ref b9), some (.ref (b + 0)), some (.ref (b + 100)), some (.int (nI (i + 6)))]) dL_law_981 rfl (nI_add i 6) (Nat.le_of_ble_eq_true rfl) rfl ?_
      refine aw_goto (tgt := 18) dL_law_984 (by decide) ?_
      refine mih (M + 6 - (i + 6)) (by omega) (i + 6) N cl V_505 _ _ rfl (by omega) ?_ ?_ (by omega) cw_506 cr_507 wf_508 rl_510 <;> omega
    · skip
      refine aw_tableIn (off := 889) (tgt := 922) dL_law_33 (by decide) (by decide) (by decide) (by decide) ?_
      refine aw_aload_n dL_law_922 rfl ?_
      refine aw_callVi (J' := jX11_undo) (As := []) (st := []) dL_law_923 tb_1007 ok_X11_undo ⟨_, (CW.o0 hcw).choose_spec⟩ (by omega) rfl rfl (g_X11_undoK l D b N V (by omega) hcw) rfl (Nat.le_of_ble_eq_true rfl) ⟨Nat.le_of_ble_eq_true rfl, Nat.le_of_ble_eq_true rfl, (show _ ≤ 600000 from by omega), (show _ ≤ 7302250 from by omega)⟩ (fun r_524 N_525 V_516 q_526 => ?_)
      obtain ⟨⟨_, hu_517⟩, rfl, j_518⟩ := q_526
      have cw_521 := j_518.1
      have cr_522 := CR.fr hcr (fun i h1 h2 => j_518.2.1 i h1 (by omega))
      have wf_523 := WF.fr hwf (fun i h1 h2 => j_518.2.1 i (by omega) (by omega))
      refine aw_pop dL_law_926 rfl ?_
      refine aw_aload_n dL_law_927 rfl ?_
      refine aw_callVi (J' := jX12_undo) (As := []) (st := []) dL_law_928 tb_1609 ok_X12_undo ⟨_, (CR.o100 cr_522).choose_spec⟩ (by omega) rfl rfl (r_undoK l D b N V_516 (by omega) cl cr_522) rfl (Nat.le_of_ble_eq_true rfl) ⟨Nat.le_of_ble_eq_true rfl, Nat.le_of_ble_eq_true rfl, (show _ ≤ 600000 from by omega), (show _ ≤ 7302250 from by omega)⟩ (fun r_538 N_539 V_527 q_540 => ?_)
      obtain ⟨⟨_, gu_533⟩, rfl, jr_531⟩ := q_540
      have cr_529 := jr_531.1
      have cw_528 := CW.out cw_521 (fun i hi => jr_531.2.1 i (Or.inl hi) (by omega))
      have wf_530 := WF.fr wf_523 jr_531.2.2.1
      have e_534 : fI (V_516 100) 51 = fI (V 0) 4 := (congrArg (fun z => fI z 51) (j_518.2.1 100 (by decide) (by omega))).trans (hrl.1).symm
      have e_535 : fI (V_516 101) 208 = fI (V 3) 7 := (congrArg (fun z => fI z 208) (j_518.2.1 101 (by decide) (by omega))).trans (hrl.2.1).symm
      have e_536 : fI (V_516 103) 208 = fI (V 39) 7 := (congrArg (fun z => fI z 208) (j_518.2.1 103 (by decide) (by omega))).trans (hrl.2.2.1).symm
      rw [e_534, e_535, e_536] at gu_533
      have o_537 := UND.one hu_517 gu_533
      have rl_532 : RLs V_527 := ⟨(congrArg (fun z => fI z 4) (jr_531.2.1 0 (Or.inl (by decide)) (by omega))).trans ((JW.fI j_518 (by decide) (by decide) : fI (V_516 0) 4 = fI (V 0) 4).trans ((hrl.1).trans ((congrArg (fun z => fI z 51) (j_518.2.1 100 (by decide) (by omega))).symm.trans (JR.fI jr_531 (by decide) (by decide) (by decide) : fI (V_527 100) 51 = fI (V_516 100) 51).symm))), (congrArg (fun z => fI z 7) (jr_531.2.1 3 (Or.inl (by decide)) (by omega))).trans o_537.2, (congrArg (fun z => fI z 7) (jr_531.2.1 39 (Or.inl (by decide)) (by omega))).trans ((JW.fI j_518 (by decide) (by decide) : fI (V_516 39) 7 = fI (V 39) 7).trans ((hrl.2.2.1).trans ((congrArg (fun z => fI z 208) (j_518.2.1 103 (by decide) (by omega))).symm.trans (JR.fI jr_531 (by decide) (by decide) (by decide) : fI (V_527 103) 208 = fI (V_516 103) 208).symm))), (congrArg (fun z => fI z 1) (jr_531.2.1 1 (Or.inl (by decide)) (by omega))).trans ((JW.fI j_518 (by decide) (by decide) : fI (V_516 1) 1 = fI (V 1) 1).trans ((hrl.2.2.2.1).trans ((congrArg (fun z => fI z 13) (j_518.2.1 100 (by decide) (by omega))).symm.trans (JR.fI jr_531 (by decide) (by decide) (by decide) : fI (V_527 100) 13 = fI (V_516 100) 13).symm))), (congrArg (fun z => fI z 5) (jr_531.2.1 3 (Or.inl (by decide)) (by omega))).trans ((JW.fI j_518 (by decide) (by decide) : fI (V_516 3) 5 = fI (V 3) 5).trans ((hrl.2.2.2.2.1).trans ((congrArg (fun z => fI z 9) (j_518.2.1 100 (by decide) (by omega))).symm.trans (JR.fI jr_531 (by decide) (by decide) (by decide) : fI (V_527 100) 9 = fI (V_516 100) 9).symm))), (congrArg (fun z => fI z 6) (jr_531.2.1 3 (Or.inl (by decide)) (by omega))).trans ((JW.fI j_518 (by decide) (by decide) : fI (V_516 3) 6 = fI (V 3) 6).trans ((hrl.2.2.2.2.2.1).trans ((congrArg (fun z => fI z 10) (j_518.2.1 100 (by decide) (by omega))).symm.trans (JR.fI jr_531 (by decide) (by decide) (by decide) : fI (V_527 100) 10 = fI (V_516 100) 10).symm))), (congrArg fI (jr_531.2.1 2 (Or.inl (by decide)) (by omega))).trans ((congrArg fI (JW.same j_518 (by decide) (fun k => (nfc (by omega) (nfc (by omega) (nfc (by omega) (nfc (by omega) nf0))))))).trans ((hrl.2.2.2.2.2.2.1).trans ((congrArg (fun z => gb (fI z)) (j_518.2.1 110 (by decide) (by omega))).symm.trans (congrArg (fun z => gb (fI z)) (JR.same jr_531 (by decide) (by decide) (fun k => (nfc (by omega) nf0)))).symm))), (congrArg (fun z => rs (fI z)) (jr_531.2.1 17 (Or.inl (by decide)) (by omega))).trans ((congrArg (fun z => rs (fI z)) (JW.same j_518 (by decide) (fun k => (nfc (by omega) (nfc (by omega) (nfc (by omega) (nfc (by omega) nf0))))))).trans ((hrl.2.2.2.2.2.2.2).trans ((congrArg (fun z => rs (fI z)) (j_518.2.1 104 (by decide) (by omega))).symm.trans (congrArg (fun z => rs (fI z)) (JR.same jr_531 (by decide) (by decide) (fun k => (nfc (by omega) nf0)))).symm)))⟩
      refine aw_pop dL_law_931 rfl ?_
      refine aw_goto (tgt := 981) dL_law_932 (by decide) ?_
      refine aw_iinc (v := (nI (i + 6))) (ls' := [some (.ref b9), some (.ref (b + 0)), some (.ref (b + 100)), some (.int (nI (i + 6)))]) dL_law_981 rfl (nI_add i 6) (Nat.le_of_ble_eq_true rfl) rfl ?_
      refine aw_goto (tgt := 18) dL_law_984 (by decide) ?_
      refine mih (M + 6 - (i + 6)) (by omega) (i + 6) N cl V_527 _ _ rfl (by omega) ?_ ?_ (by omega) cw_528 cr_529 wf_530 rl_532 <;> omega
    · skip
      refine aw_tableIn (off := 902) (tgt := 935) dL_law_33 (by decide) (by decide) (by decide) (by decide) ?_
      refine aw_aload_n dL_law_935 rfl ?_
      refine aw_aload_n dL_law_936 rfl ?_
      refine aw_iload_n dL_law_937 rfl ?_
      refine aw_iconst (v := 1) dL_law_938 (by decide) ?_
      refine aw_iadd dL_law_939 ?_
      refine aw_eqi (y := nI (i + 1)) (nI_add _ _) ?_
      refine aw_sld dL_law_940 rfl (vp_in_nI (n := (i + 1)) (by omega) (by omega)) ?_
      refine aw_callVi (J' := jX11_check) (As := [.int (xs ((nI (i + 1))).toNatClampNeg)]) (st := []) dL_law_941 tb_1015 ok_X11_check ⟨_, (CW.o0 hcw).choose_spec⟩ (by omega) rfl rfl (g_X11_checkK l D b N V (by omega) hcw (xs ((nI (i + 1))).toNatClampNeg)) rfl (Nat.le_of_ble_eq_true rfl) ⟨Nat.le_of_ble_eq_true rfl, Nat.le_of_ble_eq_true rfl, (show _ ≤ 600000 from by omega), (show _ ≤ 7302250 from by omega)⟩ (fun r_549 N_550 V_541 q_551 => ?_)
      obtain ⟨hs_542, rfl, j_543⟩ := q_551
      have cw_546 := j_543.1
      have cr_547 := CR.fr hcr (fun i h1 h2 => j_543.2.1 i h1 (by omega))
      have wf_548 := WF.fr hwf (fun i h1 h2 => j_543.2.1 i (by omega) (by omega))
      refine aw_pop dL_law_944 rfl ?_
      refine aw_aload_n dL_law_945 rfl ?_
      refine aw_aload_n dL_law_946 rfl ?_
      refine aw_iload_n dL_law_947 rfl ?_
      refine aw_iconst (v := 1) dL_law_948 (by decide) ?_
      refine aw_iadd dL_law_949 ?_
      refine aw_eqi (y := nI (i + 1)) (nI_add _ _) ?_
      refine aw_sld dL_law_950 rfl (vp_in_nI (n := (i + 1)) (by omega) (by omega)) ?_
      refine aw_callVi (J' := jX12_check) (As := [.int (xs ((nI (i + 1))).toNatClampNeg)]) (st := []) dL_law_951 tb_1613 ok_X12_check ⟨_, (CR.o100 cr_547).choose_spec⟩ (by omega) rfl rfl (r_checkK l D b N V_541 (by omega) cl cr_547 (xs ((nI (i + 1))).toNatClampNeg) (xs ((nI (i + 1))).toNatClampNeg) rfl) rfl (Nat.le_of_ble_eq_true rfl) ⟨Nat.le_of_ble_eq_true rfl, Nat.le_of_ble_eq_true rfl, (show _ ≤ 600000 from by omega), (show _ ≤ 7302250 from by omega)⟩ (fun r_560 N_561 V_552 q_562 => ?_)
      obtain ⟨gs_558, rfl, jr_556⟩ := q_562
      have cr_554 := jr_556.1
      have cw_553 := CW.out cw_546 (fun i hi => jr_556.2.1 i (Or.inl hi) (by omega))
      have wf_555 := WF.fr wf_548 jr_556.2.2.1
      have e_559 : fI (V_541 100) 13 = fI (V 1) 1 := (congrArg (fun z => fI z 13) (j_543.2.1 100 (by decide) (by omega))).trans (hrl.2.2.2.1).symm
      rw [e_559] at gs_558
      have rl_557 : RLs V_552 := ⟨(congrArg (fun z => fI z 4) (jr_556.2.1 0 (Or.inl (by decide)) (by omega))).trans ((JW.fI j_543 (by decide) (by decide) : fI (V_541 0) 4 = fI (V 0) 4).trans ((hrl.1).trans ((congrArg (fun z => fI z 51) (j_543.2.1 100 (by decide) (by omega))).symm.trans (JR.fI jr_556 (by decide) (by decide) (by decide) : fI (V_552 100) 51 = fI (V_541 100) 51).symm))), (congrArg (fun z => fI z 7) (jr_556.2.1 3 (Or.inl (by decide)) (by omega))).trans ((JW.fI j_543 (by decide) (by decide) : fI (V_541 3) 7 = fI (V 3) 7).trans ((hrl.2.1).trans ((congrArg (fun z => fI z 208) (j_543.2.1 101 (by decide) (by omega))).symm.trans (JR.fI jr_556 (by decide) (by decide) (by decide) : fI (V_552 101) 208 = fI (V_541 101) 208).symm))), (congrArg (fun z => fI z 7) (jr_556.2.1 39 (Or.inl (by decide)) (by omega))).trans ((JW.fI j_543 (by decide) (by decide) : fI (V_541 39) 7 = fI (V 39) 7).trans ((hrl.2.2.1).trans ((congrArg (fun z => fI z 208) (j_543.2.1 103 (by decide) (by omega))).symm.trans (JR.fI jr_556 (by decide) (by decide) (by decide) : fI (V_552 103) 208 = fI (V_541 103) 208).symm))), (congrArg (fun z => fI z 1) (jr_556.2.1 1 (Or.inl (by decide)) (by omega))).trans (TKS.one hs_542 gs_558), (congrArg (fun z => fI z 5) (jr_556.2.1 3 (Or.inl (by decide)) (by omega))).trans ((JW.fI j_543 (by decide) (by decide) : fI (V_541 3) 5 = fI (V 3) 5).trans ((hrl.2.2.2.2.1).trans ((congrArg (fun z => fI z 9) (j_543.2.1 100 (by decide) (by omega))).symm.trans (JR.fI jr_556 (by decide) (by decide) (by decide) : fI (V_552 100) 9 = fI (V_541 100) 9).symm))), (congrArg (fun z => fI z 6) (jr_556.2.1 3 (Or.inl (by decide)) (by omega))).trans ((JW.fI j_543 (by decide) (by decide) : fI (V_541 3) 6 = fI (V 3) 6).trans ((hrl.2.2.2.2.2.1).trans ((congrArg (fun z => fI z 10) (j_543.2.1 100 (by decide) (by omega))).symm.trans (JR.fI jr_556 (by decide) (by decide) (by decide) : fI (V_552 100) 10 = fI (V_541 100) 10).symm))), (congrArg fI (jr_556.2.1 2 (Or.inl (by decide)) (by omega))).trans ((congrArg fI (JW.same j_543 (by decide) (fun k => (nfc (by omega) (nfc (by omega) (nfc (by omega) (nfc (by omega) nf0))))))).trans ((hrl.2.2.2.2.2.2.1).trans ((congrArg (fun z => gb (fI z)) (j_543.2.1 110 (by decide) (by omega))).symm.trans (congrArg (fun z => gb (fI z)) (JR.same jr_556 (by decide) (by decide) (fun k => (nfc (by omega) nf0)))).symm))), (congrArg (fun z => rs (fI z)) (jr_556.2.1 17 (Or.inl (by decide)) (by omega))).trans ((congrArg (fun z => rs (fI z)) (JW.same j_543 (by decide) (fun k => (nfc (by omega) (nfc (by omega) (nfc (by omega) (nfc (by omega) nf0))))))).trans ((hrl.2.2.2.2.2.2.2).trans ((congrArg (fun z => rs (fI z)) (j_543.2.1 104 (by decide) (by omega))).symm.trans (congrArg (fun z => rs (fI z)) (JR.same jr_556 (by decide) (by decide) (fun k => (nfc (by omega) nf0)))).symm)))⟩
      refine aw_pop dL_law_954 rfl ?_
      refine aw_goto (tgt := 981) dL_law_955 (by decide) ?_
      refine aw_iinc (v := (nI (i + 6))) (ls' := [some (.ref b9), some (.ref (b + 0)), some (.ref (b + 100)), some (.int (nI (i + 6)))]) dL_law_981 rfl (nI_add i 6) (Nat.le_of_ble_eq_true rfl) rfl ?_
      refine aw_goto (tgt := 18) dL_law_984 (by decide) ?_
      refine mih (M + 6 - (i + 6)) (by omega) (i + 6) N cl V_552 _ _ rfl (by omega) ?_ ?_ (by omega) cw_553 cr_554 wf_555 rl_557 <;> omega
    · skip
      refine aw_tableIn (off := 925) (tgt := 958) dL_law_33 (by decide) (by decide) (by decide) (by decide) ?_
      refine aw_aload_n dL_law_958 rfl ?_
      refine aw_aload_n dL_law_959 rfl ?_
      refine aw_iload_n dL_law_960 rfl ?_
      refine aw_iconst (v := 1) dL_law_961 (by decide) ?_
      refine aw_iadd dL_law_962 ?_
      refine aw_eqi (y := nI (i + 1)) (nI_add _ _) ?_
      refine aw_sld dL_law_963 rfl (vp_in_nI (n := (i + 1)) (by omega) (by omega)) ?_
      refine aw_callVi (J' := jX11_count) (As := [.int (xs ((nI (i + 1))).toNatClampNeg)]) (st := []) dL_law_964 tb_1019 ok_X11_count ⟨_, (CW.o0 hcw).choose_spec⟩ (by omega) rfl rfl (g_X11_count l D b N V (by omega) hcw (xs ((nI (i + 1))).toNatClampNeg)) rfl (Nat.le_of_ble_eq_true rfl) ⟨Nat.le_of_ble_eq_true rfl, Nat.le_of_ble_eq_true rfl, (show _ ≤ 600000 from by omega), (show _ ≤ 7302250 from by omega)⟩ (fun r_564 N_565 V_566 q_567 => ?_)
      obtain ⟨rfl, rfl⟩ := q_567
      refine aw_pop dL_law_967 rfl ?_
      refine aw_aload_n dL_law_968 rfl ?_
      refine aw_aload_n dL_law_969 rfl ?_
      refine aw_iload_n dL_law_970 rfl ?_
      refine aw_iconst (v := 1) dL_law_971 (by decide) ?_
      refine aw_iadd dL_law_972 ?_
      refine aw_eqi (y := nI (i + 1)) (nI_add _ _) ?_
      refine aw_sld dL_law_973 rfl (vp_in_nI (n := (i + 1)) (by omega) (by omega)) ?_
      refine aw_callVi (J' := jX12_count) (As := [.int (xs ((nI (i + 1))).toNatClampNeg)]) (st := []) dL_law_974 tb_1617 ok_X12_count ⟨_, (CR.o100 hcr).choose_spec⟩ (by omega) rfl rfl (r_count l D b N V (by omega) cl hcr (xs ((nI (i + 1))).toNatClampNeg)) rfl (Nat.le_of_ble_eq_true rfl) ⟨Nat.le_of_ble_eq_true rfl, Nat.le_of_ble_eq_true rfl, (show _ ≤ 600000 from by omega), (show _ ≤ 7302250 from by omega)⟩ (fun r_574 N_575 V_576 q_577 => ?_)
      obtain ⟨rfl, rfl⟩ := q_577
      refine aw_pop dL_law_977 rfl ?_
      refine aw_goto (tgt := 981) dL_law_978 (by decide) ?_
      refine aw_iinc (v := (nI (i + 6))) (ls' := [some (.ref b9), some (.ref (b + 0)), some (.ref (b + 100)), some (.int (nI (i + 6)))]) dL_law_981 rfl (nI_add i 6) (Nat.le_of_ble_eq_true rfl) rfl ?_
      refine aw_goto (tgt := 18) dL_law_984 (by decide) ?_
      refine mih (M + 6 - (i + 6)) (by omega) (i + 6) N cl V _ _ rfl (by omega) ?_ ?_ (by omega) hcw hcr hwf hrl <;> omega
    · skip
      refine aw_tableOut (tgt := 981) dL_law_33 (Or.inr (by decide)) (by decide) ?_
      refine aw_iinc (v := (nI (i + 6))) (ls' := [some (.ref b9), some (.ref (b + 0)), some (.ref (b + 100)), some (.int (nI (i + 6)))]) dL_law_981 rfl (nI_add i 6) (Nat.le_of_ble_eq_true rfl) rfl ?_
      refine aw_goto (tgt := 18) dL_law_984 (by decide) ?_
      refine mih (M + 6 - (i + 6)) (by omega) (i + 6) N cl V _ _ rfl (by omega) ?_ ?_ (by omega) hcw hcr hwf hrl <;> omega
    · skip
      refine aw_tableOut (tgt := 981) dL_law_33 (Or.inr (by decide)) (by decide) ?_
      refine aw_iinc (v := (nI (i + 6))) (ls' := [some (.ref b9), some (.ref (b + 0)), some (.ref (b + 100)), some (.int (nI (i + 6)))]) dL_law_981 rfl (nI_add i 6) (Nat.le_of_ble_eq_true rfl) rfl ?_
      refine aw_goto (tgt := 18) dL_law_984 (by decide) ?_
      refine mih (M + 6 - (i + 6)) (by omega) (i + 6) N cl V _ _ rfl (by omega) ?_ ?_ (by omega) hcw hcr hwf hrl <;> omega
    · skip
      refine aw_tableOut (tgt := 981) dL_law_33 (Or.inr (by decide)) (by decide) ?_
      refine aw_iinc (v := (nI (i + 6))) (ls' := [some (.ref b9), some (.ref (b + 0)), some (.ref (b + 100)), some (.int (nI (i + 6)))]) dL_law_981 rfl (nI_add i 6) (Nat.le_of_ble_eq_true rfl) rfl ?_
      refine aw_goto (tgt := 18) dL_law_984 (by decide) ?_
      refine mih (M + 6 - (i + 6)) (by omega) (i + 6) N cl V _ _ rfl (by omega) ?_ ?_ (by omega) hcw hcr hwf hrl <;> omega

set_option maxHeartbeats 4000000 in
set_option maxRecDepth 100000 in
theorem law_short (l : Launch) (D : va_G) (b b9 : Nat) (xs : Nat → Int32) (L : Nat) (hL : L < 6) (V : Wd) : AW l D b jL_law room_1 (some (b9, L, xs)) (lawQ b) 0 [some (.ref b9), none, none, none] [] 0 V 0 0 := by
  refine aw_new dL_law_0 nw_L_7 (Nat.le_of_ble_eq_true rfl) (Nat.le_of_ble_eq_true rfl) ?_
  refine aw_dup dL_law_3 rfl ?_
  refine aw_callIv (As := []) (st := [.ref (b + 0)]) dL_law_4 tb_23 ok_X11_init rfl (c_initFearLocks l D b (va_up V 0 (cO 10 [.null, .null, .null, .null, .int 0, .null, .null, .null, .null, .null, .null])) (va_up_self _ _ _)) rfl (Nat.le_of_ble_eq_true rfl) ⟨Nat.le_of_ble_eq_true rfl, Nat.le_of_ble_eq_true rfl, Nat.le_of_ble_eq_true rfl, Nat.le_of_ble_eq_true rfl⟩ (fun  N_3 V_2 q_4 => ?_)
  obtain ⟨rfl, hI_1⟩ := q_4
  refine aw_astore_n (ls' := [some (.ref b9), some (.ref (b + 0)), none, none]) dL_law_7 (Nat.le_of_ble_eq_true rfl) rfl ?_
  refine aw_new dL_law_8 nw_L_10 (Nat.le_of_ble_eq_true rfl) (Nat.le_of_ble_eq_true rfl) ?_
  refine aw_dup dL_law_11 rfl ?_
  refine aw_callIv (As := []) (st := [.ref (b + 100)]) dL_law_12 tb_1034 ok_X12_init rfl (k_init l D b (va_up V_2 100 (cO 11 [.null, .null, .null, .null, .null, .null, .null, .null, .null, .int 0, .int 0, .int 0, .null, .int 0, .int 0, .int 0, .int 0, .int 0, .int 0, .int 0, .int 0, .int 0, .int 0, .null, .null, .null, .null, .null, .null, .null, .null, .null, .null, .null, .null, .null, .int 0, .int 0, .int 0, .int 0, .null, .null, .null, .null, .null, .int 0, .int 0, .null, .null, .null, .null, .int 0])) (va_up_self _ _ _)) rfl (Nat.le_of_ble_eq_true rfl) ⟨Nat.le_of_ble_eq_true rfl, Nat.le_of_ble_eq_true rfl, Nat.le_of_ble_eq_true rfl, Nat.le_of_ble_eq_true rfl⟩ (fun  N_8 V_7 q_9 => ?_)
  obtain ⟨rfl, hM_5, fr_6⟩ := q_9
  refine aw_astore_n (ls' := [some (.ref b9), some (.ref (b + 0)), some (.ref (b + 100)), none]) dL_law_15 (Nat.le_of_ble_eq_true rfl) rfl ?_
  refine aw_iconst (v := 0) dL_law_16 (by decide) ?_
  refine aw_istore_n (ls' := [some (.ref b9), some (.ref (b + 0)), some (.ref (b + 100)), some (.int 0)]) dL_law_17 (Nat.le_of_ble_eq_true rfl) rfl ?_
  refine aw_iload_n dL_law_18 rfl ?_
  refine aw_aload_n dL_law_19 rfl ?_
  refine aw_slen dL_law_20 rfl ?_
  refine aw_eqi (y := (nI L)) rfl ?_
  refine aw_bipush (v := 6) dL_law_21 (by decide) ?_
  refine aw_isub dL_law_23 ?_
  refine aw_icmp_gt (tgt := 987) dL_law_24 (by decide) (fun c_10 => ?_) (fun c_10 => ?_)
  rotate_left
  · exact absurd (fx_L6 L hL) c_10
  refine aw_iconst (v := 1) dL_law_987 (by decide) ?_
  exact aw_lawret dL_law_988 (Nat.le_of_ble_eq_true rfl) (Nat.le_of_ble_eq_true rfl)

set_option maxHeartbeats 4000000 in
set_option maxRecDepth 100000 in
theorem law_six (l : Launch) (D : va_G) (b b9 : Nat) (xs : Nat → Int32) (M : Nat) (hM : M + 6 ≤ 3072) (V : Wd) : AW l D b jL_law room_1 (some (b9, (M + 6), xs)) (lawQ b) 0 [some (.ref b9), none, none, none] [] 0 V 0 0 := by
  refine aw_new dL_law_0 nw_L_7 (Nat.le_of_ble_eq_true rfl) (Nat.le_of_ble_eq_true rfl) ?_
  refine aw_dup dL_law_3 rfl ?_
  refine aw_callIv (As := []) (st := [.ref (b + 0)]) dL_law_4 tb_23 ok_X11_init rfl (c_initFearLocks l D b (va_up V 0 (cO 10 [.null, .null, .null, .null, .int 0, .null, .null, .null, .null, .null, .null])) (va_up_self _ _ _)) rfl (Nat.le_of_ble_eq_true rfl) ⟨Nat.le_of_ble_eq_true rfl, Nat.le_of_ble_eq_true rfl, Nat.le_of_ble_eq_true rfl, Nat.le_of_ble_eq_true rfl⟩ (fun  N_3 V_2 q_4 => ?_)
  obtain ⟨rfl, hI_1⟩ := q_4
  refine aw_astore_n (ls' := [some (.ref b9), some (.ref (b + 0)), none, none]) dL_law_7 (Nat.le_of_ble_eq_true rfl) rfl ?_
  refine aw_new dL_law_8 nw_L_10 (Nat.le_of_ble_eq_true rfl) (Nat.le_of_ble_eq_true rfl) ?_
  refine aw_dup dL_law_11 rfl ?_
  refine aw_callIv (As := []) (st := [.ref (b + 100)]) dL_law_12 tb_1034 ok_X12_init rfl (k_init l D b (va_up V_2 100 (cO 11 [.null, .null, .null, .null, .null, .null, .null, .null, .null, .int 0, .int 0, .int 0, .null, .int 0, .int 0, .int 0, .int 0, .int 0, .int 0, .int 0, .int 0, .int 0, .int 0, .null, .null, .null, .null, .null, .null, .null, .null, .null, .null, .null, .null, .null, .int 0, .int 0, .int 0, .int 0, .null, .null, .null, .null, .null, .int 0, .int 0, .null, .null, .null, .null, .int 0])) (va_up_self _ _ _)) rfl (Nat.le_of_ble_eq_true rfl) ⟨Nat.le_of_ble_eq_true rfl, Nat.le_of_ble_eq_true rfl, Nat.le_of_ble_eq_true rfl, Nat.le_of_ble_eq_true rfl⟩ (fun  N_8 V_7 q_9 => ?_)
  obtain ⟨rfl, hM_5, fr_6⟩ := q_9
  refine aw_astore_n (ls' := [some (.ref b9), some (.ref (b + 0)), some (.ref (b + 100)), none]) dL_law_15 (Nat.le_of_ble_eq_true rfl) rfl ?_
  refine aw_iconst (v := 0) dL_law_16 (by decide) ?_
  refine aw_istore_n (ls' := [some (.ref b9), some (.ref (b + 0)), some (.ref (b + 100)), some (.int 0)]) dL_law_17 (Nat.le_of_ble_eq_true rfl) rfl ?_
  have hfr := fun i (hi : i < 100) => (fr_6 i hi).trans (va_up_ne _ _ (by omega))
  have hcw := CW.out (I0.cw hI_1) hfr
  exact law_loop l D b b9 xs M hM _ 0 133 0 V_7 _ _ rfl (by omega) (Nat.le_of_ble_eq_true rfl) (Nat.le_of_ble_eq_true rfl) (by omega) hcw (M0.cr hM_5).1 (M0.cr hM_5).2 (RLs.init hI_1 hM_5 hfr)
