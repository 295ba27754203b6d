/-! THE CLAIM OUT OF ONE WALK OF THE LAW'S BODY. Your part is whole_start (and what it stands on); all else here is the same for every law, but numbers. -/
def R_law : String := "FearLocksLaw"
def lw_P (b : Addr) (xs : List Int32) (args : Array Value) (s : State) : Prop := args = #[.ref b] ∧ s.IntsAt b xs ∧ xs.length ≤ 3072 ∧ (Jvm.Cond.and given_1 narrow_1).before args s = true
def lw_Q (_ : Array Value) (s : State) (o : Outcome) (t : State) : Prop := o = .returned (some (.int 1)) ∧ Framed s o t [] 600000 7302250
def lw_Z (below : List Frame) (a : Array Value) (s : State) : State → Prop := fun t => ∃ o, t.status = .running ∧ Ended t below o ∧ lw_Q a s o t
/-- the law's own end, with 1 on the stack, nothing written that was there before, its room as the claim has it -/
theorem lw_ret {p : Program} {l : Launch} {e : Env} {s : State} {m : MethodId} {below : List Frame} {meth : Method} {c : Code} {args : Array Value} (hx : p.tables.exec = Jvm.exec) (hb : c.code = code) (hr : meth.sig.returnType = ret) (hlocks : meth.locks = false) {pc : Nat} {H : Heap} {ls : Array Slot} (hdg : decode code pc = .ok (.ireturn, 1)) : W p l e room_1 s m args below meth c H [] 600000 7302250 (lw_Z below args s) (F0 m pc ls [.int 1]) := by
  intro T hT X
  obtain ⟨fs, hret, hrun, hended, hW, hframe⟩ := X.leave (v := some (.int 1)) (hlocks := hlocks) (fun h => by rw [hr] at h; cases h)
  have hmeth' : T.vm.method? m = some meth := X.method'
  refine ⟨T.setFrames fs, ?_, .returned (some (.int 1)), hrun, hended, rfl, ⟨_, rfl⟩, hW, hframe⟩
  jvm_step X.here [X.here.top, hx, hb, hdg, hmeth', hr, ret, narrow_b1]
  (try refine ⟨rfl, ?_⟩); (try refine ⟨rfl, ?_⟩)
  first | (intro acts; rw [hret _ acts rfl rfl rfl]) | rw [hret _ _ rfl rfl rfl]
  exact Steps.refl _

def jL_law : Md := (yL_law, cL_law, 4, some .boolean)
def lawQ (b : Nat) : Array Value → List Frame → State → State → Prop := fun args below s t => s.heap.size ≤ b → lw_Z below args s t
theorem aw_lawret {l : Launch} {D : va_G} {b : Nat} {X : Sc} {pc : Nat} {ls : List (Option Value)} {N : Nat} {V : Wd} {k n : Nat} (hd : decode code pc = .ok (.ireturn, 1)) (hk : k ≤ 600000) (hn : n ≤ 7302250) : AW l D b jL_law room_1 X (lawQ b) pc ls [.int 1] N V k n := by
  intro p e s m args below meth c H locs arr hC hL hA hS T hT X9
  by_cases hsz : s.heap.size ≤ b
  · obtain ⟨t, a1, q⟩ := va_forget (fun q hq => Nat.le_trans hsz (hS.2.2 q hq)) (W.widen hk hn (lw_ret (args := args) hC.1 hC.2.1 hC.2.2.1 hC.2.2.2.2.2.2.1 (H := H) (ls := arr) hd)) T hT X9
    exact ⟨t, a1, fun _ => q⟩
  · exact ⟨_, Steps.refl _, fun h => absurd h hsz⟩

theorem fx_and31 (x : Int32) : ∃ j : Nat, j < 32 ∧ x &&& 31 = nI j := by
  have e : x = nI x.toBitVec.toNat := by
    apply Int32.toBitVec_inj.mp
    simp [nI]
  refine ⟨x.toBitVec.toNat &&& 31, Nat.lt_of_le_of_lt Nat.and_le_right (by decide), ?_⟩
  rw [← fx_andI, ← e]; rfl
theorem fx_lcmp (x : Int64) : lg_cmp x x = 0 := by
  unfold lg_cmp; simp

theorem fx_L6 : ∀ L : Nat, L < 6 → nI L - 6 < 0 := by decide
theorem fx_law6 {M : Nat} : nI (M + 6) - 6 = nI M := by
  rw [← nI_add]; show nI M + 6 - 6 = nI M
  exact Int32.add_sub_cancel _ _
theorem aw_pop2 {l : Launch} {D : va_G} {b : Nat} {J : Md} {R : Room} {X : Sc} {FQ : Array Value → List Frame → State → State → Prop} {pc : Nat} {ls : List (Option Value)} {st : List Value} {N : Nat} {V : Wd} {k n : Nat} {va : Value} (hd : decode J.2.1 pc = .ok (.pop2, 1)) (hv : va.category = 2) (h : AW l D b J R X FQ (pc + 1) ls (st) N V k n) : AW l D b J R X FQ pc ls (va :: st) N V k n := fun p e s m args below meth c H locs arr hC hL hA hS => lv_pop2_2 hC.1 hC.2.1 hd hv (h p e s m args below meth c H locs arr hC hL hA hS)
theorem CW.o0 {D : va_G} {b : Nat} {V : Wd} (h : CW D b V) : ∃ fs, V 0 = cO 10 fs := by
  obtain ⟨_, _, _, e, _⟩ := h 0 _ rfl; exact ⟨_, e⟩
theorem CR.o100 {D : va_G} {b cl : Nat} {V : Wd} (h : CR D b cl V) : ∃ fs, V 100 = cO 11 fs := by
  obtain ⟨_, _, _, _, _, _, _, _, _, _, _, _, _, _, _, _, _, _, _, e, _⟩ := h 0 _ rfl; exact ⟨_, e⟩
theorem CR.fr {D : va_G} {b cl : Nat} {V V' : Wd} (h : CR D b cl V) (f : ∀ i, 100 ≤ i → i < 133 → V' i = V i) : CR D b cl V' := by
  intro i P hi
  have := (List.getElem?_eq_some_iff.mp hi).1
  rw [ctR_len] at this
  rw [f (100 + i) (by omega) (by omega)]; exact h i P hi

theorem nw_L_10 : fx_nw RL 10 11 [.null, .null, .null, .null, .null, .null, .null, .null, .null, .int 0, .int 0, .int 0, .null, .int 0, .int 0, .int 0, .int 0, .int 0, .int 0, .int 0, .int 0, .int 0, .int 0, .null, .null, .null, .null, .null, .null, .null, .null, .null, .null, .null, .null, .null, .int 0, .int 0, .int 0, .int 0, .null, .null, .null, .null, .null, .int 0, .int 0, .null, .null, .null, .null, .int 0] := ⟨RX12, TX12, 52, tyX12, rfl, uw_X12, tyX12_ok, tb_1032, tb_1033, tb_10, by decide +kernel, rfl⟩

theorem nw_L_7 : fx_nw RL 7 10 [.null, .null, .null, .null, .int 0, .null, .null, .null, .null, .null, .null] := ⟨RX11, TX11, 11, tyX11, rfl, uw_X11, tyX11_ok, tb_21, tb_22, tb_1, by decide +kernel, rfl⟩

set_option maxHeartbeats 20000000 in
set_option maxRecDepth 100000 in
theorem law_loop (l : Launch) (D : va_G) (b b9 : Nat) (xs : Nat → Int32) (M : Nat) (hM : M + 6 ≤ 3072) : ∀ (m i N cl : Nat) (V : Wd) (k n : Nat), m = M + 6 - i → i ≤ M + 6 → k ≤ 200 + i → n ≤ 70000 + 3 * i → 133 ≤ N → CW D b V → CR D b cl V → WF D cl V → RLs V → AW l D b jL_law room_1 (some (b9, (M + 6), xs)) (lawQ b) 18 [some (.ref b9), some (.ref (b + 0)), some (.ref (b + 100)), some (.int (nI i))] [] N V k n := by
  intro m; refine Nat.strongRecOn m ?_
  intro m mih i N cl V k n hm hi hk hn hN hcw hcr hwf hrl
  refine aw_iload_n dL_law_18 rfl ?_
  refine aw_aload_n dL_law_19 rfl ?_
  refine aw_slen dL_law_20 rfl ?_
  refine aw_eqi (y := (nI (M + 6))) rfl ?_
  refine aw_bipush (v := 6) dL_law_21 (by decide) ?_
  refine aw_isub dL_law_23 ?_
  refine aw_eqi (y := (nI M)) fx_law6 ?_
  refine aw_icmp_gt (tgt := 987) dL_law_24 (by decide) (fun c_1 => ?_) (fun c_1 => ?_)
  · skip
    have nc_1 : M < i := (nI_ltI (a := M) (b := i) (by omega) (by omega)).mp c_1
    refine aw_iconst (v := 1) dL_law_987 (by decide) ?_
    exact aw_lawret dL_law_988 (by omega) (by omega)
  · skip
    have nc_1 : ¬ (M < i) := fun z => c_1 ((nI_ltI (a := M) (b := i) (by omega) (by omega)).mpr z)
    refine aw_aload_n dL_law_27 rfl ?_
    refine aw_iload_n dL_law_28 rfl ?_
    refine aw_sld dL_law_29 rfl (vp_in_nI (n := i) (by omega) (by omega)) ?_
    refine aw_bipush (v := 31) dL_law_30 (by decide) ?_
    refine aw_iand dL_law_32 ?_
    obtain ⟨j, hj, ej⟩ := fx_and31 (xs ((nI i)).toNatClampNeg)
    refine aw_eqi ej ?_
    have hj32 : j = 0 ∨ j = 1 ∨ j = 2 ∨ j = 3 ∨ j = 4 ∨ j = 5 ∨ j = 6 ∨ j = 7 ∨ j = 8 ∨ j = 9 ∨ j = 10 ∨ j = 11 ∨ j = 12 ∨ j = 13 ∨ j = 14 ∨ j = 15 ∨ j = 16 ∨ j = 17 ∨ j = 18 ∨ j = 19 ∨ j = 20 ∨ j = 21 ∨ j = 22 ∨ j = 23 ∨ j = 24 ∨ j = 25 ∨ j = 26 ∨ j = 27 ∨ j = 28 ∨ j = 29 ∨ j = 30 ∨ j = 31 := by omega
    rcases hj32 with rfl | rfl | rfl | rfl | rfl | rfl | rfl | rfl | rfl | rfl | rfl | rfl | rfl | rfl | rfl | rfl | rfl | rfl | rfl | rfl | rfl | rfl | rfl | rfl | rfl | rfl | rfl | rfl | rfl | rfl | rfl | rfl
    · skip
      refine aw_tableIn (off := 131) (tgt := 164) dL_law_33 (by decide) (by decide) (by decide) (by decide) ?_
      refine aw_aload_n dL_law_164 rfl ?_
      refine aw_aload_n dL_law_165 rfl ?_
      refine aw_iload_n dL_law_166 rfl ?_
      refine aw_iconst (v := 1) dL_law_167 (by decide) ?_
      refine aw_iadd dL_law_168 ?_
      refine aw_eqi (y := nI (i + 1)) (nI_add _ _) ?_
      refine aw_sld dL_law_169 rfl (vp_in_nI (n := (i + 1)) (by omega) (by omega)) ?_
      refine aw_aload_n dL_law_170 rfl ?_
      refine aw_iload_n dL_law_171 rfl ?_
      refine aw_iconst (v := 2) dL_law_172 (by decide) ?_
      refine aw_iadd dL_law_173 ?_
      refine aw_eqi (y := nI (i + 2)) (nI_add _ _) ?_
      refine aw_sld dL_law_174 rfl (vp_in_nI (n := (i + 2)) (by omega) (by omega)) ?_
      refine aw_aload_n dL_law_175 rfl ?_
      refine aw_iload_n dL_law_176 rfl ?_
      refine aw_iconst (v := 3) dL_law_177 (by decide) ?_
      refine aw_iadd dL_law_178 ?_
      refine aw_eqi (y := nI (i + 3)) (nI_add _ _) ?_
      refine aw_sld dL_law_179 rfl (vp_in_nI (n := (i + 3)) (by omega) (by omega)) ?_
      refine aw_aload_n dL_law_180 rfl ?_
      refine aw_iload_n dL_law_181 rfl ?_
      refine aw_iconst (v := 4) dL_law_182 (by decide) ?_
      refine aw_iadd dL_law_183 ?_
      refine aw_eqi (y := nI (i + 4)) (nI_add _ _) ?_
      refine aw_sld dL_law_184 rfl (vp_in_nI (n := (i + 4)) (by omega) (by omega)) ?_
      refine aw_aload_n dL_law_185 rfl ?_
      refine aw_iload_n dL_law_186 rfl ?_
      refine aw_iconst (v := 5) dL_law_187 (by decide) ?_
      refine aw_iadd dL_law_188 ?_
      refine aw_eqi (y := nI (i + 5)) (nI_add _ _) ?_
      refine aw_sld dL_law_189 rfl (vp_in_nI (n := (i + 5)) (by omega) (by omega)) ?_
      refine aw_callVi (J' := jX11_feed) (As := [.int (xs ((nI (i + 1))).toNatClampNeg), .int (xs ((nI (i + 2))).toNatClampNeg), .int (xs ((nI (i + 3))).toNatClampNeg), .int (xs ((nI (i + 4))).toNatClampNeg), .int (xs ((nI (i + 5))).toNatClampNeg)]) (st := []) dL_law_190 tb_255 ok_X11_feed ⟨_, (CW.o0 hcw).choose_spec⟩ (by omega) rfl rfl (g_X11_feedS l D b N V (by omega) hcw (xs ((nI (i + 1))).toNatClampNeg) (xs ((nI (i + 2))).toNatClampNeg) (xs ((nI (i + 3))).toNatClampNeg) (xs ((nI (i + 4))).toNatClampNeg) (xs ((nI (i + 5))).toNatClampNeg) (RLs.tape hrl hcr)) rfl (Nat.le_of_ble_eq_true rfl) ⟨Nat.le_of_ble_eq_true rfl, Nat.le_of_ble_eq_true rfl, (show _ ≤ 600000 from by omega), (show _ ≤ 7302250 from by omega)⟩ (fun r_11 N_12 V_2 q_13 => ?_)
      obtain ⟨⟨hs_3, hb_4⟩, rfl, j_5⟩ := q_13
      have cw_8 := j_5.1
      have cr_9 := CR.fr hcr (fun i h1 h2 => j_5.2.1 i h1 (by omega))
      have wf_10 := WF.fr hwf (fun i h1 h2 => j_5.2.1 i (by omega) (by omega))
      refine aw_pop dL_law_193 rfl ?_
      refine aw_aload_n dL_law_194 rfl ?_
      refine aw_aload_n dL_law_195 rfl ?_
      refine aw_iload_n dL_law_196 rfl ?_
      refine aw_iconst (v := 1) dL_law_197 (by decide) ?_
      refine aw_iadd dL_law_198 ?_
      refine aw_eqi (y := nI (i + 1)) (nI_add _ _) ?_
      refine aw_sld dL_law_199 rfl (vp_in_nI (n := (i + 1)) (by omega) (by omega)) ?_
      refine aw_aload_n dL_law_200 rfl ?_
      refine aw_iload_n dL_law_201 rfl ?_
      refine aw_iconst (v := 2) dL_law_202 (by decide) ?_
      refine aw_iadd dL_law_203 ?_
      refine aw_eqi (y := nI (i + 2)) (nI_add _ _) ?_
      refine aw_sld dL_law_204 rfl (vp_in_nI (n := (i + 2)) (by omega) (by omega)) ?_
      refine aw_aload_n dL_law_205 rfl ?_
      refine aw_iload_n dL_law_206 rfl ?_
      refine aw_iconst (v := 3) dL_law_207 (by decide) ?_
      refine aw_iadd dL_law_208 ?_
      refine aw_eqi (y := nI (i + 3)) (nI_add _ _) ?_
      refine aw_sld dL_law_209 rfl (vp_in_nI (n := (i + 3)) (by omega) (by omega)) ?_
      refine aw_aload_n dL_law_210 rfl ?_
      refine aw_iload_n dL_law_211 rfl ?_
      refine aw_iconst (v := 4) dL_law_212 (by decide) ?_
      refine aw_iadd dL_law_213 ?_
      refine aw_eqi (y := nI (i + 4)) (nI_add _ _) ?_
      refine aw_sld dL_law_214 rfl (vp_in_nI (n := (i + 4)) (by omega) (by omega)) ?_
      refine aw_aload_n dL_law_215 rfl ?_
      refine aw_iload_n dL_law_216 rfl ?_
      refine aw_iconst (v := 5) dL_law_217 (by decide) ?_
      refine aw_iadd dL_law_218 ?_
      refine aw_eqi (y := nI (i + 5)) (nI_add _ _) ?_
      refine aw_sld dL_law_219 rfl (vp_in_nI (n := (i + 5)) (by omega) (by omega)) ?_
      refine aw_callVi (J' := jX12_feed) (As := [.int (xs ((nI (i + 1))).toNatClampNeg), .int (xs ((nI (i + 2))).toNatClampNeg), .int (xs ((nI (i + 3))).toNatClampNeg), .int (xs ((nI (i + 4))).toNatClampNeg), .int (xs ((nI (i + 5))).toNatClampNeg)]) (st := []) dL_law_220 tb_1197 ok_X12_feed ⟨_, (CR.o100 cr_9).choose_spec⟩ (by omega) rfl rfl (r_feedS l D b N V_2 (by omega) cl cr_9 (xs ((nI (i + 1))).toNatClampNeg) (xs ((nI (i + 2))).toNatClampNeg) (xs ((nI (i + 3))).toNatClampNeg) (xs ((nI (i + 4))).toNatClampNeg) (xs ((nI (i + 5))).toNatClampNeg)) rfl (Nat.le_of_ble_eq_true rfl) ⟨Nat.le_of_ble_eq_true rfl, Nat.le_of_ble_eq_true rfl, (show _ ≤ 600000 from by omega), (show _ ≤ 7302250 from by omega)⟩ (fun r_25 N_26 V_14 q_27 => ?_)
      obtain ⟨⟨gs_20, gb_21⟩, rfl, jr_18⟩ := q_27
      have cr_16 := jr_18.1
      have cw_15 := CW.out cw_8 (fun i hi => jr_18.2.1 i (Or.inl hi) (by omega))
      have wf_17 := WF.fr wf_10 jr_18.2.2.1
      have e_22 : fI (V_2 100) 13 = fI (V 1) 1 := (congrArg (fun z => fI z 13) (j_5.2.1 100 (by decide) (by omega))).trans (hrl.2.2.2.1).symm
      rw [e_22] at gs_20
      have o_23 := FDS.one hs_3 gs_20
      have e_24 : gb (fI (V_2 110)) = fI (V 2) := (congrArg (fun z => gb (fI z)) (j_5.2.1 110 (by decide) (by omega))).trans (hrl.2.2.2.2.2.2.1).symm
      rw [e_22, e_24] at gb_21
      have rl_19 : RLs V_14 := ⟨(congrArg (fun z => fI z 4) (jr_18.2.1 0 (Or.inl (by decide)) (by omega))).trans ((JW.fI j_5 (by decide) (by decide) : fI (V_2 0) 4 = fI (V 0) 4).trans ((hrl.1).trans ((congrArg (fun z => fI z 51) (j_5.2.1 100 (by decide) (by omega))).symm.trans (JR.fI jr_18 (by decide) (by decide) (by decide) : fI (V_14 100) 51 = fI (V_2 100) 51).symm))), (congrArg (fun z => fI z 7) (jr_18.2.1 3 (Or.inl (by decide)) (by omega))).trans ((JW.fI j_5 (by decide) (by decide) : fI (V_2 3) 7 = fI (V 3) 7).trans ((hrl.2.1).trans ((congrArg (fun z => fI z 208) (j_5.2.1 101 (by decide) (by omega))).symm.trans (JR.fI jr_18 (by decide) (by decide) (by decide) : fI (V_14 101) 208 = fI (V_2 101) 208).symm))), (congrArg (fun z => fI z 7) (jr_18.2.1 39 (Or.inl (by decide)) (by omega))).trans ((JW.fI j_5 (by decide) (by decide) : fI (V_2 39) 7 = fI (V 39) 7).trans ((hrl.2.2.1).trans ((congrArg (fun z => fI z 208) (j_5.2.1 103 (by decide) (by omega))).symm.trans (JR.fI jr_18 (by decide) (by decide) (by decide) : fI (V_14 103) 208 = fI (V_2 103) 208).symm))), (congrArg (fun z => fI z 1) (jr_18.2.1 1 (Or.inl (by decide)) (by omega))).trans o_23.2, (congrArg (fun z => fI z 5) (jr_18.2.1 3 (Or.inl (by decide)) (by omega))).trans ((JW.fI j_5 (by decide) (by decide) : fI (V_2 3) 5 = fI (V 3) 5).trans ((hrl.2.2.2.2.1).trans ((congrArg (fun z => fI z 9) (j_5.2.1 100 (by decide) (by omega))).symm.trans (JR.fI jr_18 (by decide) (by decide) (by decide) : fI (V_14 100) 9 = fI (V_2 100) 9).symm))), (congrArg (fun z => fI z 6) (jr_18.2.1 3 (Or.inl (by decide)) (by omega))).trans ((JW.fI j_5 (by decide) (by decide) : fI (V_2 3) 6 = fI (V 3) 6).trans ((hrl.2.2.2.2.2.1).trans ((congrArg (fun z => fI z 10) (j_5.2.1 100 (by decide) (by omega))).symm.trans (JR.fI jr_18 (by decide) (by decide) (by decide) : fI (V_14 100) 10 = fI (V_2 100) 10).symm))), (congrArg fI (jr_18.2.1 2 (Or.inl (by decide)) (by omega))).trans (FDB.one hb_4 gb_21), (congrArg (fun z => rs (fI z)) (jr_18.2.1 17 (Or.inl (by decide)) (by omega))).trans ((congrArg (fun z => rs (fI z)) (JW.same j_5 (by decide) (fun k => (nfc (by omega) (nfc (by omega) nf0))))).trans ((hrl.2.2.2.2.2.2.2).trans ((congrArg (fun z => rs (fI z)) (j_5.2.1 104 (by decide) (by omega))).symm.trans (congrArg (fun z => rs (fI z)) (JR.same jr_18 (by decide) (by decide) (fun k => (nfc (by omega) (nfc (by omega) nf0))))).symm)))⟩
      refine aw_pop dL_law_223 rfl ?_
      refine aw_goto (tgt := 981) dL_law_224 (by decide) ?_
      refine aw_iinc (v := (nI (i + 6))) (ls' := [some (.ref b9), some (.ref (b + 0)), some (.ref (b + 100)), some (.int (nI (i + 6)))]) dL_law_981 rfl (nI_add i 6) (Nat.le_of_ble_eq_true rfl) rfl ?_
      refine aw_goto (tgt := 18) dL_law_984 (by decide) ?_
      refine mih (M + 6 - (i + 6)) (by omega) (i + 6) N cl V_14 _ _ rfl (by omega) ?_ ?_ (by omega) cw_15 cr_16 wf_17 rl_19 <;> omega
    · skip
      refine aw_tableIn (off := 194) (tgt := 227) dL_law_33 (by decide) (by decide) (by decide) (by decide) ?_
      refine aw_aload_n dL_law_227 rfl ?_
      refine aw_aload_n dL_law_228 rfl ?_
      refine aw_iload_n dL_law_229 rfl ?_
      refine aw_iconst (v := 1) dL_law_230 (by decide) ?_
      refine aw_iadd dL_law_231 ?_
      refine aw_eqi (y := nI (i + 1)) (nI_add _ _) ?_
      refine aw_sld dL_law_232 rfl (vp_in_nI (n := (i + 1)) (by omega) (by omega)) ?_
      refine aw_callVi (J' := jX11_law) (As := [.int (xs ((nI (i + 1))).toNatClampNeg)]) (st := []) dL_law_233 tb_263 ok_X11_law ⟨_, (CW.o0 hcw).choose_spec⟩ (by omega) rfl rfl (g_X11_lawS l D b N V (by omega) hcw (xs ((nI (i + 1))).toNatClampNeg) (BYof hrl)) rfl (Nat.le_of_ble_eq_true rfl) ⟨Nat.le_of_ble_eq_true rfl, Nat.le_of_ble_eq_true rfl, (show _ ≤ 600000 from by omega), (show _ ≤ 7302250 from by omega)⟩ (fun r_37 N_38 V_28 q_39 => ?_)
      obtain ⟨hm_32, hm_33, ha_29, hs_30, j_31⟩ := q_39
      have cw_34 := j_31.1
      have cr_35 := CR.fr hcr (fun i h1 h2 => j_31.2.1 i h1 (by omega))
      have wf_36 := WF.fr hwf (fun i h1 h2 => j_31.2.1 i (by omega) (by omega))
      refine aw_aload_n dL_law_236 rfl ?_
      refine aw_aload_n dL_law_237 rfl ?_
      refine aw_iload_n dL_law_238 rfl ?_
      refine aw_iconst (v := 1) dL_law_239 (by decide) ?_
      refine aw_iadd dL_law_240 ?_
      refine aw_eqi (y := nI (i + 1)) (nI_add _ _) ?_
      refine aw_sld dL_law_241 rfl (vp_in_nI (n := (i + 1)) (by omega) (by omega)) ?_
      refine aw_callVi (J' := jX12_law) (As := [.int (xs ((nI (i + 1))).toNatClampNeg)]) (st := [.int r_37]) dL_law_242 tb_1205 ok_X12_law ⟨_, (CR.o100 cr_35).choose_spec⟩ (by omega) rfl rfl (r_law3 l D b N_38 V_28 (by omega) cl cr_35 (xs ((nI (i + 1))).toNatClampNeg) wf_36 (xs ((nI (i + 1))).toNatClampNeg) rfl) rfl (Nat.le_of_ble_eq_true rfl) ⟨Nat.le_of_ble_eq_true rfl, Nat.le_of_ble_eq_true rfl, (show _ ≤ 600000 from by omega), (show _ ≤ 7302250 from by omega)⟩ (fun r_52 N_53 V_40 q_54 => ?_)
      obtain ⟨rfl, cl_48, cr_42, fr_49, wf_43, jr_44, ga_46, gs_47⟩ := q_54
      have cw_41 := CW.out cw_34 (fun i hi => fr_49 i (Or.inl hi) (by omega))
      have e_50 : fI (V_28 100) 13 = fI (V 1) 1 := (congrArg (fun z => fI z 13) (j_31.2.1 100 (by decide) (by omega))).trans (hrl.2.2.2.1).symm
      rw [e_50] at gs_47
      have e_51 : gb (fI (V_28 110)) = fI (V 2) := (congrArg (fun z => gb (fI z)) (j_31.2.1 110 (by decide) (by omega))).trans (hrl.2.2.2.2.2.2.1).symm
      rw [e_50, e_51] at ga_46
      have rl_45 : RLs V_40 := ⟨(congrArg (fun z => fI z 4) (fr_49 0 (Or.inl (by decide)) (by omega))).trans ((JW.fI j_31 (by decide) (by decide) : fI (V_28 0) 4 = fI (V 0) 4).trans ((hrl.1).trans ((congrArg (fun z => fI z 51) (j_31.2.1 100 (by decide) (by omega))).symm.trans (fI_pj (jr_44 100 51 (by decide) (by decide) (by decide))).symm))), (congrArg (fun z => fI z 7) (fr_49 3 (Or.inl (by decide)) (by omega))).trans ((JW.fI j_31 (by decide) (by decide) : fI (V_28 3) 7 = fI (V 3) 7).trans ((hrl.2.1).trans ((congrArg (fun z => fI z 208) (j_31.2.1 101 (by decide) (by omega))).symm.trans (fI_pj (jr_44 101 208 (by decide) (by decide) (by decide))).symm))), (congrArg (fun z => fI z 7) (fr_49 39 (Or.inl (by decide)) (by omega))).trans ((JW.fI j_31 (by decide) (by decide) : fI (V_28 39) 7 = fI (V 39) 7).trans ((hrl.2.2.1).trans ((congrArg (fun z => fI z 208) (j_31.2.1 103 (by decide) (by omega))).symm.trans (fI_pj (jr_44 103 208 (by decide) (by decide) (by decide))).symm))), (congrArg (fun z => fI z 1) (fr_49 1 (Or.inl (by decide)) (by omega))).trans (TKS.one hs_30 gs_47), (congrArg (fun z => fI z 5) (fr_49 3 (Or.inl (by decide)) (by omega))).trans ((JW.fI j_31 (by decide) (by decide) : fI (V_28 3) 5 = fI (V 3) 5).trans ((hrl.2.2.2.2.1).trans ((congrArg (fun z => fI z 9) (j_31.2.1 100 (by decide) (by omega))).symm.trans (fI_pj (jr_44 100 9 (by decide) (by decide) (by decide))).symm))), (congrArg (fun z => fI z 6) (fr_49 3 (Or.inl (by decide)) (by omega))).trans ((JW.fI j_31 (by decide) (by decide) : fI (V_28 3) 6 = fI (V 3) 6).trans ((hrl.2.2.2.2.2.1).trans ((congrArg (fun z => fI z 10) (j_31.2.1 100 (by decide) (by omega))).symm.trans (fI_pj (jr_44 100 10 (by decide) (by decide) (by decide))).symm))), (congrArg fI (fr_49 2 (Or.inl (by decide)) (by omega))).trans ((congrArg fI (JW.same j_31 (by decide) (fun k => (nfc (by omega) (nfc (by omega) (nfc (by omega) (nfc (by omega) (nfc (by omega) (nfc (by omega) (nfc (by omega) nf0)))))))))).trans ((hrl.2.2.2.2.2.2.1).trans ((congrArg (fun z => gb (fI z)) (j_31.2.1 110 (by decide) (by omega))).symm.trans (congrArg (fun z => gb (fI z)) (pj_ext (fun k => jr_44 110 k (by decide) (by decide) (nfc (by omega) (nfc (by omega) (nfc (by omega) (nfc (by omega) (nfc (by omega) (nfc (by omega) (nfc (by omega) (nfc (by omega) (nfc (by omega) (nfc (by omega) (nfc (by omega) nf0)))))))))))))).symm))), (congrArg (fun z => rs (fI z)) (fr_49 17 (Or.inl (by decide)) (by omega))).trans ((congrArg (fun z => rs (fI z)) (JW.same j_31 (by decide) (fun k => (nfc (by omega) (nfc (by omega) (nfc (by omega) (nfc (by omega) (nfc (by omega) (nfc (by omega) (nfc (by omega) nf0)))))))))).trans ((hrl.2.2.2.2.2.2.2).trans ((congrArg (fun z => rs (fI z)) (j_31.2.1 104 (by decide) (by omega))).symm.trans (congrArg (fun z => rs (fI z)) (pj_ext (fun k => jr_44 104 k (by decide) (by decide) (nfc (by omega) (nfc (by omega) (nfc (by omega) (nfc (by omega) (nfc (by omega) (nfc (by omega) (nfc (by omega) (nfc (by omega) (nfc (by omega) (nfc (by omega) (nfc (by omega) nf0)))))))))))))).symm)))⟩
      refine aw_icmp_eq (tgt := 981) dL_law_245 (by decide) (fun c_55 => ?_) (fun c_55 => ?_)
      rotate_left
      · exact absurd (ANS.one ha_29 ga_46) c_55
      refine aw_iinc (v := (nI (i + 6))) (ls' := [some (.ref b9), some (.ref (b + 0)), some (.ref (b + 100)), some (.int (nI (i + 6)))]) dL_law_981 rfl (nI_add i 6) (Nat.le_of_ble_eq_true rfl) rfl ?_
      refine aw_goto (tgt := 18) dL_law_984 (by decide) ?_
      refine mih (M + 6 - (i + 6)) (by omega) (i + 6) N_38 cl_48 V_40 _ _ rfl (by omega) ?_ ?_ (by omega) cw_41 cr_42 wf_43 rl_45 <;> omega
    · skip
      refine aw_tableIn (off := 217) (tgt := 250) dL_law_33 (by decide) (by decide) (by decide) (by decide) ?_
      refine aw_aload_n dL_law_250 rfl ?_
      refine aw_aload_n dL_law_251 rfl ?_
      refine aw_iload_n dL_law_252 rfl ?_
      refine aw_iconst (v := 1) dL_law_253 (by decide) ?_
      refine aw_iadd dL_law_254 ?_
      refine aw_eqi (y := nI (i + 1)) (nI_add _ _) ?_
      refine aw_sld dL_law_255 rfl (vp_in_nI (n := (i + 1)) (by omega) (by omega)) ?_
      refine aw_aload_n dL_law_256 rfl ?_
      refine aw_iload_n dL_law_257 rfl ?_
      refine aw_iconst (v := 2) dL_law_258 (by decide) ?_
      refine aw_iadd dL_law_259 ?_
      refine aw_eqi (y := nI (i + 2)) (nI_add _ _) ?_
      refine aw_sld dL_law_260 rfl (vp_in_nI (n := (i + 2)) (by omega) (by omega)) ?_
      refine aw_callVi (J' := jX11_dreads) (As := [.int (xs ((nI (i + 1))).toNatClampNeg), .int (xs ((nI (i + 2))).toNatClampNeg)]) (st := []) dL_law_261 tb_577 ok_X11_dreads ⟨_, (CW.o0 hcw).choose_spec⟩ (by omega) rfl rfl (g_X11_dreadsS2 l D b N V (by omega) hcw (xs ((nI (i + 1))).toNatClampNeg) (xs ((nI (i + 2))).toNatClampNeg)) rfl (Nat.le_of_ble_eq_true rfl) ⟨Nat.le_of_ble_eq_true rfl, Nat.le_of_ble_eq_true rfl, (show _ ≤ 600000 from by omega), (show _ ≤ 7302250 from by omega)⟩ (fun r_69 N_70 V_56 q_71 => ?_)
      obtain ⟨hm_64, hm_65, ha_57, hs_58, ht_59, hp_60, hd_61, hn_62, j_63⟩ := q_71
      have cw_66 := j_63.1
      have cr_67 := CR.fr hcr (fun i h1 h2 => j_63.2.1 i h1 (by omega))
      have wf_68 := WF.fr hwf (fun i h1 h2 => j_63.2.1 i (by omega) (by omega))
      refine aw_pop dL_law_264 rfl ?_
      refine aw_aload_n dL_law_265 rfl ?_
      refine aw_aload_n dL_law_266 rfl ?_
      refine aw_iload_n dL_law_267 rfl ?_
      refine aw_iconst (v := 1) dL_law_268 (by decide) ?_
      refine aw_iadd dL_law_269 ?_
      refine aw_eqi (y := nI (i + 1)) (nI_add _ _) ?_
      refine aw_sld dL_law_270 rfl (vp_in_nI (n := (i + 1)) (by omega) (by omega)) ?_
      refine aw_aload_n dL_law_271 rfl ?_
      refine aw_iload_n dL_law_272 rfl ?_
      refine aw_iconst (v := 2) dL_law_273 (by decide) ?_
      refine aw_iadd dL_law_274 ?_
      refine aw_eqi (y := nI (i + 2)) (nI_add _ _) ?_
      refine aw_sld dL_law_275 rfl (vp_in_nI (n := (i + 2)) (by omega) (by omega)) ?_
      refine aw_callVi (J' := jX12_dreads) (As := [.int (xs ((nI (i + 1))).toNatClampNeg), .int (xs ((nI (i + 2))).toNatClampNeg)]) (st := []) dL_law_276 tb_1295 ok_X12_dreads ⟨_, (CR.o100 cr_67).choose_spec⟩ (by omega) rfl rfl (r_dreadsS2 l D b N_70 V_56 (by omega) cl cr_67 (xs ((nI (i + 1))).toNatClampNeg) (xs ((nI (i + 2))).toNatClampNeg) (xs ((nI (i + 1))).toNatClampNeg) (xs ((nI (i + 2))).toNatClampNeg) ⟨rfl, rfl⟩) rfl (Nat.le_of_ble_eq_true rfl) ⟨Nat.le_of_ble_eq_true rfl, Nat.le_of_ble_eq_true rfl, (show _ ≤ 600000 from by omega), (show _ ≤ 7302250 from by omega)⟩ (fun r_87 N_88 V_72 q_89 => ?_)
      obtain ⟨⟨ga_78, gs_79, gt_80, gp_81, gd_82, gn_83⟩, rfl, jr_76⟩ := q_89
      have cr_74 := jr_76.1
      have cw_73 := CW.out cw_66 (fun i hi => jr_76.2.1 i (Or.inl hi) (by omega))
      have wf_75 := WF.fr wf_68 jr_76.2.2.1
      have e_84 : fI (V_56 100) 13 = fI (V 1) 1 := (congrArg (fun z => fI z 13) (j_63.2.1 100 (by decide) (by omega))).trans (hrl.2.2.2.1).symm
      rw [e_84] at gs_79
      have e_85 : gb (fI (V_56 110)) = fI (V 2) := (congrArg (fun z => gb (fI z)) (j_63.2.1 110 (by decide) (by omega))).trans (hrl.2.2.2.2.2.2.1).symm
      rw [e_84, e_85] at ga_78
      have e_86 : fI (V_56 100) 9 = fI (V 3) 5 := (congrArg (fun z => fI z 9) (j_63.2.1 100 (by decide) (by omega))).trans (hrl.2.2.2.2.1).symm
      rw [e_84, e_86, e_85] at gp_81
      have rl_77 : RLs V_72 := ⟨(congrArg (fun z => fI z 4) (jr_76.2.1 0 (Or.inl (by decide)) (by omega))).trans ((JW.fI j_63 (by decide) (by decide) : fI (V_56 0) 4 = fI (V 0) 4).trans ((hrl.1).trans ((congrArg (fun z => fI z 51) (j_63.2.1 100 (by decide) (by omega))).symm.trans (JR.fI jr_76 (by decide) (by decide) (by decide) : fI (V_72 100) 51 = fI (V_56 100) 51).symm))), (congrArg (fun z => fI z 7) (jr_76.2.1 3 (Or.inl (by decide)) (by omega))).trans (ht_59.trans ((hrl.2.1).trans ((congrArg (fun z => fI z 208) (j_63.2.1 101 (by decide) (by omega))).symm.trans gt_80.symm))), (congrArg (fun z => fI z 7) (jr_76.2.1 39 (Or.inl (by decide)) (by omega))).trans ((JW.fI j_63 (by decide) (by decide) : fI (V_56 39) 7 = fI (V 39) 7).trans ((hrl.2.2.1).trans ((congrArg (fun z => fI z 208) (j_63.2.1 103 (by decide) (by omega))).symm.trans (JR.fI jr_76 (by decide) (by decide) (by decide) : fI (V_72 103) 208 = fI (V_56 103) 208).symm))), (congrArg (fun z => fI z 1) (jr_76.2.1 1 (Or.inl (by decide)) (by omega))).trans (TKS.one hs_58 gs_79), (congrArg (fun z => fI z 5) (jr_76.2.1 3 (Or.inl (by decide)) (by omega))).trans (UPD.one hp_60 gp_81), (congrArg (fun z => fI z 6) (jr_76.2.1 3 (Or.inl (by decide)) (by omega))).trans (hd_61.trans ((hrl.2.2.2.2.2.1).trans ((congrArg (fun z => fI z 10) (j_63.2.1 100 (by decide) (by omega))).symm.trans gd_82.symm))), (congrArg fI (jr_76.2.1 2 (Or.inl (by decide)) (by omega))).trans ((congrArg fI (JW.same j_63 (by decide) (fun k => (nfc (by omega) (nfc (by omega) (nfc (by omega) (nfc (by omega) (nfc (by omega) (nfc (by omega) (nfc (by omega) (nfc (by omega) (nfc (by omega) (nfc (by omega) (nfc (by omega) (nfc (by omega) (nfc (by omega) (nfc (by omega) nf0))))))))))))))))).trans ((hrl.2.2.2.2.2.2.1).trans ((congrArg (fun z => gb (fI z)) (j_63.2.1 110 (by decide) (by omega))).symm.trans (congrArg (fun z => gb (fI z)) (JR.same jr_76 (by decide) (by decide) (fun k => (nfc (by omega) (nfc (by omega) (nfc (by omega) (nfc (by omega) (nfc (by omega) (nfc (by omega) (nfc (by omega) (nfc (by omega) (nfc (by omega) (nfc (by omega) (nfc (by omega) nf0)))))))))))))).symm))), (congrArg (fun z => rs (fI z)) (jr_76.2.1 17 (Or.inl (by decide)) (by omega))).trans (hn_62.trans ((hrl.2.2.2.2.2.2.2).trans ((congrArg (fun z => rs (fI z)) (j_63.2.1 104 (by decide) (by omega))).symm.trans gn_83.symm)))⟩
      refine aw_pop dL_law_279 rfl ?_
      refine aw_goto (tgt := 981) dL_law_280 (by decide) ?_
      refine aw_iinc (v := (nI (i + 6))) (ls' := [some (.ref b9), some (.ref (b + 0)), some (.ref (b + 100)), some (.int (nI (i + 6)))]) dL_law_981 rfl (nI_add i 6) (Nat.le_of_ble_eq_true rfl) rfl ?_
      refine aw_goto (tgt := 18) dL_law_984 (by decide) ?_
      refine mih (M + 6 - (i + 6)) (by omega) (i + 6) N_70 cl V_72 _ _ rfl (by omega) ?_ ?_ (by omega) cw_73 cr_74 wf_75 rl_77 <;> omega
    · skip
      refine aw_tableIn (off := 250) (tgt := 283) dL_law_33 (by decide) (by decide) (by decide) (by decide) ?_
      refine aw_aload_n dL_law_283 rfl ?_
      refine aw_aload_n dL_law_284 rfl ?_
      refine aw_iload_n dL_law_285 rfl ?_
      refine aw_iconst (v := 1) dL_law_286 (by decide) ?_
      refine aw_iadd dL_law_287 ?_
      refine aw_eqi (y := nI (i + 1)) (nI_add _ _) ?_
      refine aw_sld dL_law_288 rfl (vp_in_nI (n := (i + 1)) (by omega) (by omega)) ?_
      refine aw_callVi (J' := jX11_orders) (As := [.int (xs ((nI (i + 1))).toNatClampNeg)]) (st := []) dL_law_289 tb_605 ok_X11_orders ⟨_, (CW.o0 hcw).choose_spec⟩ (by omega) rfl rfl (g_X11_ordersS2 l D b N V (by omega) hcw (xs ((nI (i + 1))).toNatClampNeg)) rfl (Nat.le_of_ble_eq_true rfl) ⟨Nat.le_of_ble_eq_true rfl, Nat.le_of_ble_eq_true rfl, (show _ ≤ 600000 from by omega), (show _ ≤ 7302250 from by omega)⟩ (fun r_103 N_104 V_90 q_105 => ?_)
      obtain ⟨hm_98, hm_99, ha_91, hs_92, ht_93, hp_94, hd_95, hn_96, j_97⟩ := q_105
      have cw_100 := j_97.1
      have cr_101 := CR.fr hcr (fun i h1 h2 => j_97.2.1 i h1 (by omega))
      have wf_102 := WF.fr hwf (fun i h1 h2 => j_97.2.1 i (by omega) (by omega))
      refine aw_pop dL_law_292 rfl ?_
      refine aw_aload_n dL_law_293 rfl ?_
      refine aw_aload_n dL_law_294 rfl ?_
      refine aw_iload_n dL_law_295 rfl ?_
      refine aw_iconst (v := 1) dL_law_296 (by decide) ?_
      refine aw_iadd dL_law_297 ?_
      refine aw_eqi (y := nI (i + 1)) (nI_add _ _) ?_
      refine aw_sld dL_law_298 rfl (vp_in_nI (n := (i + 1)) (by omega) (by omega)) ?_
      refine aw_callVi (J' := jX12_orders) (As := [.int (xs ((nI (i + 1))).toNatClampNeg)]) (st := []) dL_law_299 tb_1331 ok_X12_orders ⟨_, (CR.o100 cr_101).choose_spec⟩ (by omega) rfl rfl (r_ordersS2 l D b N_104 V_90 (by omega) cl cr_101 (xs ((nI (i + 1))).toNatClampNeg) (xs ((nI (i + 1))).toNatClampNeg) rfl) rfl (Nat.le_of_ble_eq_true rfl) ⟨Nat.le_of_ble_eq_true rfl, Nat.le_of_ble_eq_true rfl, (show _ ≤ 600000 from by omega), (show _ ≤ 7302250 from by omega)⟩ (fun r_123 N_124 V_106 q_125 => ?_)
      obtain ⟨⟨ga_112, gs_113, gt_114, gp_115, gd_116, gn_117⟩, rfl, jr_110⟩ := q_125
      have cr_108 := jr_110.1
      have cw_107 := CW.out cw_100 (fun i hi => jr_110.2.1 i (Or.inl hi) (by omega))
      have wf_109 := WF.fr wf_102 jr_110.2.2.1
      have e_118 : fI (V_90 100) 13 = fI (V 1) 1 := (congrArg (fun z => fI z 13) (j_97.2.1 100 (by decide) (by omega))).trans (hrl.2.2.2.1).symm
      rw [e_118] at gs_113
      have e_119 : fI (V_90 100) 9 = fI (V 3) 5 := (congrArg (fun z => fI z 9) (j_97.2.1 100 (by decide) (by omega))).trans (hrl.2.2.2.2.1).symm
      have e_120 : fI (V_90 100) 10 = fI (V 3) 6 := (congrArg (fun z => fI z 10) (j_97.2.1 100 (by decide) (by omega))).trans (hrl.2.2.2.2.2.1).symm
      have e_121 : gb (fI (V_90 110)) = fI (V 2) := (congrArg (fun z => gb (fI z)) (j_97.2.1 110 (by decide) (by omega))).trans (hrl.2.2.2.2.2.2.1).symm
      have e_122 : rs (fI (V_90 104)) = rs (fI (V 17)) := (congrArg (fun z => rs (fI z)) (j_97.2.1 104 (by decide) (by omega))).trans (hrl.2.2.2.2.2.2.2).symm
      rw [e_118, e_119, e_120, e_121, e_122] at ga_112
      rw [e_118, e_119, e_120, e_121, e_122] at gd_116
      rw [e_118, e_119, e_120, e_121, e_122] at gn_117
      have rl_111 : RLs V_106 := ⟨(congrArg (fun z => fI z 4) (jr_110.2.1 0 (Or.inl (by decide)) (by omega))).trans ((JW.fI j_97 (by decide) (by decide) : fI (V_90 0) 4 = fI (V 0) 4).trans ((hrl.1).trans ((congrArg (fun z => fI z 51) (j_97.2.1 100 (by decide) (by omega))).symm.trans (JR.fI jr_110 (by decide) (by decide) (by decide) : fI (V_106 100) 51 = fI (V_90 100) 51).symm))), (congrArg (fun z => fI z 7) (jr_110.2.1 3 (Or.inl (by decide)) (by omega))).trans (ht_93.trans ((hrl.2.1).trans ((congrArg (fun z => fI z 208) (j_97.2.1 101 (by decide) (by omega))).symm.trans gt_114.symm))), (congrArg (fun z => fI z 7) (jr_110.2.1 39 (Or.inl (by decide)) (by omega))).trans ((JW.fI j_97 (by decide) (by decide) : fI (V_90 39) 7 = fI (V 39) 7).trans ((hrl.2.2.1).trans ((congrArg (fun z => fI z 208) (j_97.2.1 103 (by decide) (by omega))).symm.trans (JR.fI jr_110 (by decide) (by decide) (by decide) : fI (V_106 103) 208 = fI (V_90 103) 208).symm))), (congrArg (fun z => fI z 1) (jr_110.2.1 1 (Or.inl (by decide)) (by omega))).trans (TKS.one hs_92 gs_113), (congrArg (fun z => fI z 5) (jr_110.2.1 3 (Or.inl (by decide)) (by omega))).trans (hp_94.trans ((hrl.2.2.2.2.1).trans ((congrArg (fun z => fI z 9) (j_97.2.1 100 (by decide) (by omega))).symm.trans gp_115.symm))), (congrArg (fun z => fI z 6) (jr_110.2.1 3 (Or.inl (by decide)) (by omega))).trans (UPD.one hd_95 gd_116), (congrArg fI (jr_110.2.1 2 (Or.inl (by decide)) (by omega))).trans ((congrArg fI (JW.same j_97 (by decide) (fun k => (nfc (by omega) (nfc (by omega) (nfc (by omega) (nfc (by omega) (nfc (by omega) (nfc (by omega) (nfc (by omega) (nfc (by omega) (nfc (by omega) (nfc (by omega) (nfc (by omega) (nfc (by omega) (nfc (by omega) (nfc (by omega) nf0))))))))))))))))).trans ((hrl.2.2.2.2.2.2.1).trans ((congrArg (fun z => gb (fI z)) (j_97.2.1 110 (by decide) (by omega))).symm.trans (congrArg (fun z => gb (fI z)) (JR.same jr_110 (by decide) (by decide) (fun k => (nfc (by omega) (nfc (by omega) (nfc (by omega) (nfc (by omega) (nfc (by omega) (nfc (by omega) (nfc (by omega) (nfc (by omega) (nfc (by omega) (nfc (by omega) (nfc (by omega) (nfc (by omega) nf0))))))))))))))).symm))), (congrArg (fun z => rs (fI z)) (jr_110.2.1 17 (Or.inl (by decide)) (by omega))).trans (UPD.one hn_96 gn_117)⟩
      refine aw_pop dL_law_302 rfl ?_
      refine aw_goto (tgt := 981) dL_law_303 (by decide) ?_
      refine aw_iinc (v := (nI (i + 6))) (ls' := [some (.ref b9), some (.ref (b + 0)), some (.ref (b + 100)), some (.int (nI (i + 6)))]) dL_law_981 rfl (nI_add i 6) (Nat.le_of_ble_eq_true rfl) rfl ?_
      refine aw_goto (tgt := 18) dL_law_984 (by decide) ?_
      refine mih (M + 6 - (i + 6)) (by omega) (i + 6) N_104 cl V_106 _ _ rfl (by omega) ?_ ?_ (by omega) cw_107 cr_108 wf_109 rl_111 <;> omega
    · skip
      refine aw_tableIn (off := 273) (tgt := 306) dL_law_33 (by decide) (by decide) (by decide) (by decide) ?_
      refine aw_aload_n dL_law_306 rfl ?_
      refine aw_aload_n dL_law_307 rfl ?_
      refine aw_iload_n dL_law_308 rfl ?_
      refine aw_iconst (v := 1) dL_law_309 (by decide) ?_
      refine aw_iadd dL_law_310 ?_
      refine aw_eqi (y := nI (i + 1)) (nI_add _ _) ?_
      refine aw_sld dL_law_311 rfl (vp_in_nI (n := (i + 1)) (by omega) (by omega)) ?_
      refine aw_callVi (J' := jX11_nights) (As := [.int (xs ((nI (i + 1))).toNatClampNeg)]) (st := []) dL_law_312 tb_622 ok_X11_nights ⟨_, (CW.o0 hcw).choose_spec⟩ (by omega) rfl rfl (g_X11_nightsK l D b N V (by omega) hcw (xs ((nI (i + 1))).toNatClampNeg)) rfl (Nat.le_of_ble_eq_true rfl) ⟨Nat.le_of_ble_eq_true rfl, Nat.le_of_ble_eq_true rfl, (show _ ≤ 600000 from by omega), (show _ ≤ 7302250 from by omega)⟩ (fun r_134 N_135 V_126 q_136 => ?_)
      obtain ⟨ht_127, rfl, j_128⟩ := q_136
      have cw_131 := j_128.1
      have cr_132 := CR.fr hcr (fun i h1 h2 => j_128.2.1 i h1 (by omega))
      have wf_133 := WF.fr hwf (fun i h1 h2 => j_128.2.1 i (by omega) (by omega))
      refine aw_pop dL_law_315 rfl ?_
      refine aw_aload_n dL_law_316 rfl ?_
      refine aw_aload_n dL_law_317 rfl ?_
      refine aw_iload_n dL_law_318 rfl ?_
      refine aw_iconst (v := 1) dL_law_319 (by decide) ?_
      refine aw_iadd dL_law_320 ?_
      refine aw_eqi (y := nI (i + 1)) (nI_add _ _) ?_
      refine aw_sld dL_law_321 rfl (vp_in_nI (n := (i + 1)) (by omega) (by omega)) ?_
      refine aw_callVi (J' := jX12_nights) (As := [.int (xs ((nI (i + 1))).toNatClampNeg)]) (st := []) dL_law_322 tb_1367 ok_X12_nights ⟨_, (CR.o100 cr_132).choose_spec⟩ (by omega) rfl rfl (r_nightsK l D b N V_126 (by omega) cl cr_132 (xs ((nI (i + 1))).toNatClampNeg) wf_133 (xs ((nI (i + 1))).toNatClampNeg) rfl) rfl (Nat.le_of_ble_eq_true rfl) ⟨Nat.le_of_ble_eq_true rfl, Nat.le_of_ble_eq_true rfl, (show _ ≤ 600000 from by omega), (show _ ≤ 7302250 from by omega)⟩ (fun r_145 N_146 V_137 q_147 => ?_)
      obtain ⟨gt_143, rfl, jr_141⟩ := q_147
      have cr_139 := jr_141.1
      have cw_138 := CW.out cw_131 (fun i hi => jr_141.2.1 i (Or.inl hi) (by omega))
      have wf_140 := WF.fr wf_133 jr_141.2.2.1
      have e_144 : fI (V_126 101) 208 = fI (V 3) 7 := (congrArg (fun z => fI z 208) (j_128.2.1 101 (by decide) (by omega))).trans (hrl.2.1).symm
      rw [e_144] at gt_143
      have rl_142 : RLs V_137 := ⟨(congrArg (fun z => fI z 4) (jr_141.2.1 0 (Or.inl (by decide)) (by omega))).trans ((JW.fI j_128 (by decide) (by decide) : fI (V_126 0) 4 = fI (V 0) 4).trans ((hrl.1).trans ((congrArg (fun z => fI z 51) (j_128.2.1 100 (by decide) (by omega))).symm.trans (JR.fI jr_141 (by decide) (by decide) (by decide) : fI (V_137 100) 51 = fI (V_126 100) 51).symm))), (congrArg (fun z => fI z 7) (jr_141.2.1 3 (Or.inl (by decide)) (by omega))).trans (NTS.one ht_127 gt_143), (congrArg (fun z => fI z 7) (jr_141.2.1 39 (Or.inl (by decide)) (by omega))).trans ((JW.fI j_128 (by decide) (by decide) : fI (V_126 39) 7 = fI (V 39) 7).trans ((hrl.2.2.1).trans ((congrArg (fun z => fI z 208) (j_128.2.1 103 (by decide) (by omega))).symm.trans (JR.fI jr_141 (by decide) (by decide) (by decide) : fI (V_137 103) 208 = fI (V_126 103) 208).symm))), (congrArg (fun z => fI z 1) (jr_141.2.1 1 (Or.inl (by decide)) (by omega))).trans ((JW.fI j_128 (by decide) (by decide) : fI (V_126 1) 1 = fI (V 1) 1).trans ((hrl.2.2.2.1).trans ((congrArg (fun z => fI z 13) (j_128.2.1 100 (by decide) (by omega))).symm.trans (JR.fI jr_141 (by decide) (by decide) (by decide) : fI (V_137 100) 13 = fI (V_126 100) 13).symm))), (congrArg (fun z => fI z 5) (jr_141.2.1 3 (Or.inl (by decide)) (by omega))).trans ((JW.fI j_128 (by decide) (by decide) : fI (V_126 3) 5 = fI (V 3) 5).trans ((hrl.2.2.2.2.1).trans ((congrArg (fun z => fI z 9) (j_128.2.1 100 (by decide) (by omega))).symm.trans (JR.fI jr_141 (by decide) (by decide) (by decide) : fI (V_137 100) 9 = fI (V_126 100) 9).symm))), (congrArg (fun z => fI z 6) (jr_141.2.1 3 (Or.inl (by decide)) (by omega))).trans ((JW.fI j_128 (by decide) (by decide) : fI (V_126 3) 6 = fI (V 3) 6).trans ((hrl.2.2.2.2.2.1).trans ((congrArg (fun z => fI z 10) (j_128.2.1 100 (by decide) (by omega))).symm.trans (JR.fI jr_141 (by decide) (by decide) (by decide) : fI (V_137 100) 10 = fI (V_126 100) 10).symm))), (congrArg fI (jr_141.2.1 2 (Or.inl (by decide)) (by omega))).trans ((congrArg fI (JW.same j_128 (by decide) (fun k => (nfc (by omega) (nfc (by omega) (nfc (by omega) (nfc (by omega) (nfc (by omega) (nfc (by omega) (nfc (by omega) (nfc (by omega) (nfc (by omega) (nfc (by omega) (nfc (by omega) (nfc (by omega) nf0))))))))))))))).trans ((hrl.2.2.2.2.2.2.1).trans ((congrArg (fun z => gb (fI z)) (j_128.2.1 110 (by decide) (by omega))).symm.trans (congrArg (fun z => gb (fI z)) (JR.same jr_141 (by decide) (by decide) (fun k => (nfc (by omega) (nfc (by omega) (nfc (by omega) (nfc (by omega) (nfc (by omega) (nfc (by omega) (nfc (by omega) nf0)))))))))).symm))), (congrArg (fun z => rs (fI z)) (jr_141.2.1 17 (Or.inl (by decide)) (by omega))).trans ((congrArg (fun z => rs (fI z)) (JW.same j_128 (by decide) (fun k => (nfc (by omega) (nfc (by omega) (nfc (by omega) (nfc (by omega) (nfc (by omega) (nfc (by omega) (nfc (by omega) (nfc (by omega) (nfc (by omega) (nfc (by omega) (nfc (by omega) (nfc (by omega) nf0))))))))))))))).trans ((hrl.2.2.2.2.2.2.2).trans ((congrArg (fun z => rs (fI z)) (j_128.2.1 104 (by decide) (by omega))).symm.trans (congrArg (fun z => rs (fI z)) (JR.same jr_141 (by decide) (by decide) (fun k => (nfc (by omega) (nfc (by omega) (nfc (by omega) (nfc (by omega) (nfc (by omega) (nfc (by omega) (nfc (by omega) nf0)))))))))).symm)))⟩
      refine aw_pop dL_law_325 rfl ?_
      refine aw_goto (tgt := 981) dL_law_326 (by decide) ?_
      refine aw_iinc (v := (nI (i + 6))) (ls' := [some (.ref b9), some (.ref (b + 0)), some (.ref (b + 100)), some (.int (nI (i + 6)))]) dL_law_981 rfl (nI_add i 6) (Nat.le_of_ble_eq_true rfl) rfl ?_
      refine aw_goto (tgt := 18) dL_law_984 (by decide) ?_
      refine mih (M + 6 - (i + 6)) (by omega) (i + 6) N cl V_137 _ _ rfl (by omega) ?_ ?_ (by omega) cw_138 cr_139 wf_140 rl_142 <;> omega
    · skip
      refine aw_tableIn (off := 296) (tgt := 329) dL_law_33 (by decide) (by decide) (by decide) (by decide) ?_
      refine aw_aload_n dL_law_329 rfl ?_
      refine aw_aload_n dL_law_330 rfl ?_
      refine aw_iload_n dL_law_331 rfl ?_
      refine aw_iconst (v := 1) dL_law_332 (by decide) ?_
      refine aw_iadd dL_law_333 ?_
      refine aw_eqi (y := nI (i + 1)) (nI_add _ _) ?_
      refine aw_sld dL_law_334 rfl (vp_in_nI (n := (i + 1)) (by omega) (by omega)) ?_
      refine aw_aload_n dL_law_335 rfl ?_
      refine aw_iload_n dL_law_336 rfl ?_
      refine aw_iconst (v := 2) dL_law_337 (by decide) ?_
      refine aw_iadd dL_law_338 ?_
      refine aw_eqi (y := nI (i + 2)) (nI_add _ _) ?_
      refine aw_sld dL_law_339 rfl (vp_in_nI (n := (i + 2)) (by omega) (by omega)) ?_
      refine aw_callVi (J' := jX11_tried) (As := [.int (xs ((nI (i + 1))).toNatClampNeg), .int (xs ((nI (i + 2))).toNatClampNeg)]) (st := []) dL_law_340 tb_737 ok_X11_tried ⟨_, (CW.o0 hcw).choose_spec⟩ (by omega) rfl rfl (g_X11_tried l D b N V (by omega) hcw (xs ((nI (i + 1))).toNatClampNeg) (xs ((nI (i + 2))).toNatClampNeg)) rfl (Nat.le_of_ble_eq_true rfl) ⟨Nat.le_of_ble_eq_true rfl, Nat.le_of_ble_eq_true rfl, (show _ ≤ 600000 from by omega), (show _ ≤ 7302250 from by omega)⟩ (fun r_155 N_156 V_148 q_157 => ?_)
      obtain ⟨rfl, j_149⟩ := q_157
      have cw_152 := j_149.1
      have cr_153 := CR.fr hcr (fun i h1 h2 => j_149.2.1 i h1 (by omega))
      have wf_154 := WF.fr hwf (fun i h1 h2 => j_149.2.1 i (by omega) (by omega))
      refine aw_pop dL_law_343 rfl ?_
      refine aw_aload_n dL_law_344 rfl ?_
      refine aw_aload_n dL_law_345 rfl ?_
      refine aw_iload_n dL_law_346 rfl ?_
      refine aw_iconst (v := 1) dL_law_347 (by decide) ?_
      refine aw_iadd dL_law_348 ?_
      refine aw_eqi (y := nI (i + 1)) (nI_add _ _) ?_
      refine aw_sld dL_law_349 rfl (vp_in_nI (n := (i + 1)) (by omega) (by omega)) ?_
      refine aw_aload_n dL_law_350 rfl ?_
      refine aw_iload_n dL_law_351 rfl ?_
      refine aw_iconst (v := 2) dL_law_352 (by decide) ?_
      refine aw_iadd dL_law_353 ?_
      refine aw_eqi (y := nI (i + 2)) (nI_add _ _) ?_
      refine aw_sld dL_law_354 rfl (vp_in_nI (n := (i + 2)) (by omega) (by omega)) ?_
      refine aw_callVi (J' := jX12_tried) (As := [.int (xs ((nI (i + 1))).toNatClampNeg), .int (xs ((nI (i + 2))).toNatClampNeg)]) (st := []) dL_law_355 tb_1442 ok_X12_tried ⟨_, (CR.o100 cr_153).choose_spec⟩ (by omega) rfl rfl (r_triedK l D b N V_148 (by omega) cl cr_153 (xs ((nI (i + 1))).toNatClampNeg) (xs ((nI (i + 2))).toNatClampNeg) wf_154) rfl (Nat.le_of_ble_eq_true rfl) ⟨Nat.le_of_ble_eq_true rfl, Nat.le_of_ble_eq_true rfl, (show _ ≤ 600000 from by omega), (show _ ≤ 7302250 from by omega)⟩ (fun r_165 N_166 V_158 q_167 => ?_)
      obtain ⟨gt_164, rfl, jr_162⟩ := q_167
      have cr_160 := jr_162.1
      have cw_159 := CW.out cw_152 (fun i hi => jr_162.2.1 i (Or.inl hi) (by omega))
      have wf_161 := WF.fr wf_154 jr_162.2.2.1
      have rl_163 : RLs V_158 := ⟨(congrArg (fun z => fI z 4) (jr_162.2.1 0 (Or.inl (by decide)) (by omega))).trans ((JW.fI j_149 (by decide) (by decide) : fI (V_148 0) 4 = fI (V 0) 4).trans ((hrl.1).trans ((congrArg (fun z => fI z 51) (j_149.2.1 100 (by decide) (by omega))).symm.trans (JR.fI jr_162 (by decide) (by decide) (by decide) : fI (V_158 100) 51 = fI (V_148 100) 51).symm))), (congrArg (fun z => fI z 7) (jr_162.2.1 3 (Or.inl (by decide)) (by omega))).trans ((JW.fI j_149 (by decide) (by decide) : fI (V_148 3) 7 = fI (V 3) 7).trans ((hrl.2.1).trans ((congrArg (fun z => fI z 208) (j_149.2.1 101 (by decide) (by omega))).symm.trans gt_164.symm))), (congrArg (fun z => fI z 7) (jr_162.2.1 39 (Or.inl (by decide)) (by omega))).trans ((JW.fI j_149 (by decide) (by decide) : fI (V_148 39) 7 = fI (V 39) 7).trans ((hrl.2.2.1).trans ((congrArg (fun z => fI z 208) (j_149.2.1 103 (by decide) (by omega))).symm.trans (JR.fI jr_162 (by decide) (by decide) (by decide) : fI (V_158 103) 208 = fI (V_148 103) 208).symm))), (congrArg (fun z => fI z 1) (jr_162.2.1 1 (Or.inl (by decide)) (by omega))).trans ((JW.fI j_149 (by decide) (by decide) : fI (V_148 1) 1 = fI (V 1) 1).trans ((hrl.2.2.2.1).trans ((congrArg (fun z => fI z 13) (j_149.2.1 100 (by decide) (by omega))).symm.trans (JR.fI jr_162 (by decide) (by decide) (by decide) : fI (V_158 100) 13 = fI (V_148 100) 13).symm))), (congrArg (fun z => fI z 5) (jr_162.2.1 3 (Or.inl (by decide)) (by omega))).trans ((JW.fI j_149 (by decide) (by decide) : fI (V_148 3) 5 = fI (V 3) 5).trans ((hrl.2.2.2.2.1).trans ((congrArg (fun z => fI z 9) (j_149.2.1 100 (by decide) (by omega))).symm.trans (JR.fI jr_162 (by decide) (by decide) (by decide) : fI (V_158 100) 9 = fI (V_148 100) 9).symm))), (congrArg (fun z => fI z 6) (jr_162.2.1 3 (Or.inl (by decide)) (by omega))).trans ((JW.fI j_149 (by decide) (by decide) : fI (V_148 3) 6 = fI (V 3) 6).trans ((hrl.2.2.2.2.2.1).trans ((congrArg (fun z => fI z 10) (j_149.2.1 100 (by decide) (by omega))).symm.trans (JR.fI jr_162 (by decide) (by decide) (by decide) : fI (V_158 100) 10 = fI (V_148 100) 10).symm))), (congrArg fI (jr_162.2.1 2 (Or.inl (by decide)) (by omega))).trans ((congrArg fI (JW.same j_149 (by decide) (fun k => (nfc (by omega) (nfc (by omega) (nfc (by omega) (nfc (by omega) (nfc (by omega) (nfc (by omega) (nfc (by omega) (nfc (by omega) (nfc (by omega) (nfc (by omega) (nfc (by omega) (nfc (by omega) (nfc (by omega) nf0)))))))))))))))).trans ((hrl.2.2.2.2.2.2.1).trans ((congrArg (fun z => gb (fI z)) (j_149.2.1 110 (by decide) (by omega))).symm.trans (congrArg (fun z => gb (fI z)) (JR.same jr_162 (by decide) (by decide) (fun k => (nfc (by omega) (nfc (by omega) (nfc (by omega) (nfc (by omega) nf0))))))).symm))), (congrArg (fun z => rs (fI z)) (jr_162.2.1 17 (Or.inl (by decide)) (by omega))).trans ((congrArg (fun z => rs (fI z)) (JW.same j_149 (by decide) (fun k => (nfc (by omega) (nfc (by omega) (nfc (by omega) (nfc (by omega) (nfc (by omega) (nfc (by omega) (nfc (by omega) (nfc (by omega) (nfc (by omega) (nfc (by omega) (nfc (by omega) (nfc (by omega) (nfc (by omega) nf0)))))))))))))))).trans ((hrl.2.2.2.2.2.2.2).trans ((congrArg (fun z => rs (fI z)) (j_149.2.1 104 (by decide) (by omega))).symm.trans (congrArg (fun z => rs (fI z)) (JR.same jr_162 (by decide) (by decide) (fun k => (nfc (by omega) (nfc (by omega) (nfc (by omega) (nfc (by omega) nf0))))))).symm)))⟩
      refine aw_pop dL_law_358 rfl ?_
      refine aw_goto (tgt := 981) dL_law_359 (by decide) ?_
      refine aw_iinc (v := (nI (i + 6))) (ls' := [some (.ref b9), some (.ref (b + 0)), some (.ref (b + 100)), some (.int (nI (i + 6)))]) dL_law_981 rfl (nI_add i 6) (Nat.le_of_ble_eq_true rfl) rfl ?_
      refine aw_goto (tgt := 18) dL_law_984 (by decide) ?_
      refine mih (M + 6 - (i + 6)) (by omega) (i + 6) N cl V_158 _ _ rfl (by omega) ?_ ?_ (by omega) cw_159 cr_160 wf_161 rl_163 <;> omega
    · skip
      refine aw_tableIn (off := 329) (tgt := 362) dL_law_33 (by decide) (by decide) (by decide) (by decide) ?_
      refine aw_aload_n dL_law_362 rfl ?_
      refine aw_aload_n dL_law_363 rfl ?_
      refine aw_iload_n dL_law_364 rfl ?_
      refine aw_iconst (v := 1) dL_law_365 (by decide) ?_
      refine aw_iadd dL_law_366 ?_
      refine aw_eqi (y := nI (i + 1)) (nI_add _ _) ?_
      refine aw_sld dL_law_367 rfl (vp_in_nI (n := (i + 1)) (by omega) (by omega)) ?_
      refine aw_aload_n dL_law_368 rfl ?_
      refine aw_iload_n dL_law_369 rfl ?_
      refine aw_iconst (v := 2) dL_law_370 (by decide) ?_
      refine aw_iadd dL_law_371 ?_
      refine aw_eqi (y := nI (i + 2)) (nI_add _ _) ?_
      refine aw_sld dL_law_372 rfl (vp_in_nI (n := (i + 2)) (by omega) (by omega)) ?_
      refine aw_callVi (J' := jX11_personIs) (As := [.int (xs ((nI (i + 1))).toNatClampNeg), .int (xs ((nI (i + 2))).toNatClampNeg)]) (st := []) dL_law_373 tb_753 ok_X11_personIs ⟨_, (CW.o0 hcw).choose_spec⟩ (by omega) rfl rfl (g_X11_personIs l D b N V (by omega) hcw (xs ((nI (i + 1))).toNatClampNeg) (xs ((nI (i + 2))).toNatClampNeg)) rfl (Nat.le_of_ble_eq_true rfl) ⟨Nat.le_of_ble_eq_true rfl, Nat.le_of_ble_eq_true rfl, (show _ ≤ 600000 from by omega), (show _ ≤ 7302250 from by omega)⟩ (fun r_169 N_170 V_171 q_172 => ?_)
      obtain ⟨rfl, rfl⟩ := q_172
      refine aw_pop dL_law_376 rfl ?_
      refine aw_aload_n dL_law_377 rfl ?_
      refine aw_aload_n dL_law_378 rfl ?_
      refine aw_iload_n dL_law_379 rfl ?_
      refine aw_iconst (v := 1) dL_law_380 (by decide) ?_
      refine aw_iadd dL_law_381 ?_
      refine aw_eqi (y := nI (i + 1)) (nI_add _ _) ?_
      refine aw_sld dL_law_382 rfl (vp_in_nI (n := (i + 1)) (by omega) (by omega)) ?_
      refine aw_aload_n dL_law_383 rfl ?_
      refine aw_iload_n dL_law_384 rfl ?_
      refine aw_iconst (v := 2) dL_law_385 (by decide) ?_
      refine aw_iadd dL_law_386 ?_
      refine aw_eqi (y := nI (i + 2)) (nI_add _ _) ?_
      refine aw_sld dL_law_387 rfl (vp_in_nI (n := (i + 2)) (by omega) (by omega)) ?_
      refine aw_callVi (J' := jX12_personIs) (As := [.int (xs ((nI (i + 1))).toNatClampNeg), .int (xs ((nI (i + 2))).toNatClampNeg)]) (st := []) dL_law_388 tb_1449 ok_X12_personIs ⟨_, (CR.o100 hcr).choose_spec⟩ (by omega) rfl rfl (r_personIs l D b N V (by omega) cl hcr (xs ((nI (i + 1))).toNatClampNeg) (xs ((nI (i + 2))).toNatClampNeg)) rfl (Nat.le_of_ble_eq_true rfl) ⟨Nat.le_of_ble_eq_true rfl, Nat.le_of_ble_eq_true rfl, (show _ ≤ 600000 from by omega), (show _ ≤ 7302250 from by omega)⟩ (fun r_179 N_180 V_181 q_182 => ?_)
      obtain ⟨rfl, rfl⟩ := q_182
      refine aw_pop dL_law_391 rfl ?_
      refine aw_goto (tgt := 981) dL_law_392 (by decide) ?_
      refine aw_iinc (v := (nI (i + 6))) (ls' := [some (.ref b9), some (.ref (b + 0)), some (.ref (b + 100)), some (.int (nI (i + 6)))]) dL_law_981 rfl (nI_add i 6) (Nat.le_of_ble_eq_true rfl) rfl ?_
      refine aw_goto (tgt := 18) dL_law_984 (by decide) ?_
      refine mih (M + 6 - (i + 6)) (by omega) (i + 6) N cl V _ _ rfl (by omega) ?_ ?_ (by omega) hcw hcr hwf hrl <;> omega
    · skip
      refine aw_tableIn (off := 362) (tgt := 395) dL_law_33 (by decide) (by decide) (by decide) (by decide) ?_
      refine aw_aload_n dL_law_395 rfl ?_
      refine aw_aload_n dL_law_396 rfl ?_
      refine aw_iload_n dL_law_397 rfl ?_
      refine aw_iconst (v := 1) dL_law_398 (by decide) ?_
      refine aw_iadd dL_law_399 ?_
      refine aw_eqi (y := nI (i + 1)) (nI_add _ _) ?_
      refine aw_sld dL_law_400 rfl (vp_in_nI (n := (i + 1)) (by omega) (by omega)) ?_
      refine aw_aload_n dL_law_401 rfl ?_
      refine aw_iload_n dL_law_402 rfl ?_
      refine aw_iconst (v := 2) dL_law_403 (by decide) ?_
      refine aw_iadd dL_law_404 ?_
      refine aw_eqi (y := nI (i + 2)) (nI_add _ _) ?_
      refine aw_sld dL_law_405 rfl (vp_in_nI (n := (i + 2)) (by omega) (by omega)) ?_
      refine aw_callVi (J' := jX11_doorIs) (As := [.int (xs ((nI (i + 1))).toNatClampNeg), .int (xs ((nI (i + 2))).toNatClampNeg)]) (st := []) dL_law_406 tb_768 ok_X11_doorIs ⟨_, (CW.o0 hcw).choose_spec⟩ (by omega) rfl rfl (g_X11_doorIs l D b N V (by omega) hcw (xs ((nI (i + 1))).toNatClampNeg) (xs ((nI (i + 2))).toNatClampNeg)) rfl (Nat.le_of_ble_eq_true rfl) ⟨Nat.le_of_ble_eq_true rfl, Nat.le_of_ble_eq_true rfl, (show _ ≤ 600000 from by omega), (show _ ≤ 7302250 from by omega)⟩ (fun r_184 N_185 V_186 q_187 => ?_)
      obtain ⟨rfl, rfl⟩ := q_187
      refine aw_pop dL_law_409 rfl ?_
      refine aw_aload_n dL_law_410 rfl ?_
      refine aw_aload_n dL_law_411 rfl ?_
      refine aw_iload_n dL_law_412 rfl ?_
      refine aw_iconst (v := 1) dL_law_413 (by decide) ?_
      refine aw_iadd dL_law_414 ?_
      refine aw_eqi (y := nI (i + 1)) (nI_add _ _) ?_
      refine aw_sld dL_law_415 rfl (vp_in_nI (n := (i + 1)) (by omega) (by omega)) ?_
      refine aw_aload_n dL_law_416 rfl ?_
      refine aw_iload_n dL_law_417 rfl ?_
      refine aw_iconst (v := 2) dL_law_418 (by decide) ?_
      refine aw_iadd dL_law_419 ?_
      refine aw_eqi (y := nI (i + 2)) (nI_add _ _) ?_
      refine aw_sld dL_law_420 rfl (vp_in_nI (n := (i + 2)) (by omega) (by omega)) ?_
      refine aw_callVi (J' := jX12_doorIs) (As := [.int (xs ((nI (i + 1))).toNatClampNeg), .int (xs ((nI (i + 2))).toNatClampNeg)]) (st := []) dL_law_421 tb_1461 ok_X12_doorIs ⟨_, (CR.o100 hcr).choose_spec⟩ (by omega) rfl rfl (r_doorIs l D b N V (by omega) cl hcr (xs ((nI (i + 1))).toNatClampNeg) (xs ((nI (i + 2))).toNatClampNeg)) rfl (Nat.le_of_ble_eq_true rfl) ⟨Nat.le_of_ble_eq_true rfl, Nat.le_of_ble_eq_true rfl, (show _ ≤ 600000 from by omega), (show _ ≤ 7302250 from by omega)⟩ (fun r_194 N_195 V_196 q_197 => ?_)
      obtain ⟨rfl, rfl⟩ := q_197
      refine aw_pop dL_law_424 rfl ?_
      refine aw_goto (tgt := 981) dL_law_425 (by decide) ?_
      refine aw_iinc (v := (nI (i + 6))) (ls' := [some (.ref b9), some (.ref (b + 0)), some (.ref (b + 100)), some (.int (nI (i + 6)))]) dL_law_981 rfl (nI_add i 6) (Nat.le_of_ble_eq_true rfl) rfl ?_
      refine aw_goto (tgt := 18) dL_law_984 (by decide) ?_
      refine mih (M + 6 - (i + 6)) (by omega) (i + 6) N cl V _ _ rfl (by omega) ?_ ?_ (by omega) hcw hcr hwf hrl <;> omega
    · skip
      refine aw_tableIn (off := 395) (tgt := 428) dL_law_33 (by decide) (by decide) (by decide) (by decide) ?_
      refine aw_aload_n dL_law_428 rfl ?_
      refine aw_aload_n dL_law_429 rfl ?_
      refine aw_iload_n dL_law_430 rfl ?_
      refine aw_iconst (v := 1) dL_law_431 (by decide) ?_
      refine aw_iadd dL_law_432 ?_
      refine aw_eqi (y := nI (i + 1)) (nI_add _ _) ?_
      refine aw_sld dL_law_433 rfl (vp_in_nI (n := (i + 1)) (by omega) (by omega)) ?_
      refine aw_aload_n dL_law_434 rfl ?_
      refine aw_iload_n dL_law_435 rfl ?_
      refine aw_iconst (v := 2) dL_law_436 (by decide) ?_
      refine aw_iadd dL_law_437 ?_
      refine aw_eqi (y := nI (i + 2)) (nI_add _ _) ?_
      refine aw_sld dL_law_438 rfl (vp_in_nI (n := (i + 2)) (by omega) (by omega)) ?_
      refine aw_callVi (J' := jX11_taught) (As := [.int (xs ((nI (i + 1))).toNatClampNeg), .int (xs ((nI (i + 2))).toNatClampNeg)]) (st := []) dL_law_439 tb_776 ok_X11_taught ⟨_, (CW.o0 hcw).choose_spec⟩ (by omega) rfl rfl (g_X11_taught l D b N V (by omega) hcw (xs ((nI (i + 1))).toNatClampNeg) (xs ((nI (i + 2))).toNatClampNeg)) rfl (Nat.le_of_ble_eq_true rfl) ⟨Nat.le_of_ble_eq_true rfl, Nat.le_of_ble_eq_true rfl, (show _ ≤ 600000 from by omega), (show _ ≤ 7302250 from by omega)⟩ (fun r_199 N_200 V_201 q_202 => ?_)
      obtain ⟨rfl, rfl⟩ := q_202
      refine aw_pop dL_law_442 rfl ?_
      refine aw_aload_n dL_law_443 rfl ?_
      refine aw_aload_n dL_law_444 rfl ?_
      refine aw_iload_n dL_law_445 rfl ?_
      refine aw_iconst (v := 1) dL_law_446 (by decide) ?_
      refine aw_iadd dL_law_447 ?_
      refine aw_eqi (y := nI (i + 1)) (nI_add _ _) ?_
      refine aw_sld dL_law_448 rfl (vp_in_nI (n := (i + 1)) (by omega) (by omega)) ?_
      refine aw_aload_n dL_law_449 rfl ?_
      refine aw_iload_n dL_law_450 rfl ?_
      refine aw_iconst (v := 2) dL_law_451 (by decide) ?_
      refine aw_iadd dL_law_452 ?_
      refine aw_eqi (y := nI (i + 2)) (nI_add _ _) ?_
      refine aw_sld dL_law_453 rfl (vp_in_nI (n := (i + 2)) (by omega) (by omega)) ?_
      refine aw_callVi (J' := jX12_taught) (As := [.int (xs ((nI (i + 1))).toNatClampNeg), .int (xs ((nI (i + 2))).toNatClampNeg)]) (st := []) dL_law_454 tb_1469 ok_X12_taught ⟨_, (CR.o100 hcr).choose_spec⟩ (by omega) rfl rfl (r_taught l D b N V (by omega) cl hcr (xs ((nI (i + 1))).toNatClampNeg) (xs ((nI (i + 2))).toNatClampNeg)) rfl (Nat.le_of_ble_eq_true rfl) ⟨Nat.le_of_ble_eq_true rfl, Nat.le_of_ble_eq_true rfl, (show _ ≤ 600000 from by omega), (show _ ≤ 7302250 from by omega)⟩ (fun r_209 N_210 V_211 q_212 => ?_)
      obtain ⟨rfl, rfl⟩ := q_212
      refine aw_pop dL_law_457 rfl ?_
      refine aw_goto (tgt := 981) dL_law_458 (by decide) ?_
      refine aw_iinc (v := (nI (i + 6))) (ls' := [some (.ref b9), some (.ref (b + 0)), some (.ref (b + 100)), some (.int (nI (i + 6)))]) dL_law_981 rfl (nI_add i 6) (Nat.le_of_ble_eq_true rfl) rfl ?_
      refine aw_goto (tgt := 18) dL_law_984 (by decide) ?_
      refine mih (M + 6 - (i + 6)) (by omega) (i + 6) N cl V _ _ rfl (by omega) ?_ ?_ (by omega) hcw hcr hwf hrl <;> omega
    · skip
      refine aw_tableIn (off := 428) (tgt := 461) dL_law_33 (by decide) (by decide) (by decide) (by decide) ?_
      refine aw_aload_n dL_law_461 rfl ?_
      refine aw_aload_n dL_law_462 rfl ?_
      refine aw_iload_n dL_law_463 rfl ?_
      refine aw_iconst (v := 1) dL_law_464 (by decide) ?_
      refine aw_iadd dL_law_465 ?_
      refine aw_eqi (y := nI (i + 1)) (nI_add _ _) ?_
      refine aw_sld dL_law_466 rfl (vp_in_nI (n := (i + 1)) (by omega) (by omega)) ?_
      refine aw_callVi (J' := jX11_crew) (As := [.int (xs ((nI (i + 1))).toNatClampNeg)]) (st := []) dL_law_467 tb_790 ok_X11_crew ⟨_, (CW.o0 hcw).choose_spec⟩ (by omega) rfl rfl (g_X11_crew l D b N V (by omega) hcw (xs ((nI (i + 1))).toNatClampNeg)) rfl (Nat.le_of_ble_eq_true rfl) ⟨Nat.le_of_ble_eq_true rfl, Nat.le_of_ble_eq_true rfl, (show _ ≤ 600000 from by omega), (show _ ≤ 7302250 from by omega)⟩ (fun r_220 N_221 V_213 q_222 => ?_)
      obtain ⟨rfl, j_214⟩ := q_222
      have cw_217 := j_214.1
      have cr_218 := CR.fr hcr (fun i h1 h2 => j_214.2.1 i h1 (by omega))
      have wf_219 := WF.fr hwf (fun i h1 h2 => j_214.2.1 i (by omega) (by omega))
      refine aw_pop dL_law_470 rfl ?_
      refine aw_aload_n dL_law_471 rfl ?_
      refine aw_aload_n dL_law_472 rfl ?_
      refine aw_iload_n dL_law_473 rfl ?_
      refine aw_iconst (v := 1) dL_law_474 (by decide) ?_
      refine aw_iadd dL_law_475 ?_
      refine aw_eqi (y := nI (i + 1)) (nI_add _ _) ?_
      refine aw_sld dL_law_476 rfl (vp_in_nI (n := (i + 1)) (by omega) (by omega)) ?_
      refine aw_callVi (J' := jX12_crew) (As := [.int (xs ((nI (i + 1))).toNatClampNeg)]) (st := []) dL_law_477 tb_1477 ok_X12_crew ⟨_, (CR.o100 cr_218).choose_spec⟩ (by omega) rfl rfl (r_crew l D b N V_213 (by omega) cl cr_218 (xs ((nI (i + 1))).toNatClampNeg)) rfl (Nat.le_of_ble_eq_true rfl) ⟨Nat.le_of_ble_eq_true rfl, Nat.le_of_ble_eq_true rfl, (show _ ≤ 600000 from by omega), (show _ ≤ 7302250 from by omega)⟩ (fun r_229 N_230 V_223 q_231 => ?_)
      obtain ⟨rfl, jr_227⟩ := q_231
      have cr_225 := jr_227.1
      have cw_224 := CW.out cw_217 (fun i hi => jr_227.2.1 i (Or.inl hi) (by omega))
      have wf_226 := WF.fr wf_219 jr_227.2.2.1
      have rl_228 : RLs V_223 := ⟨(congrArg (fun z => fI z 4) (jr_227.2.1 0 (Or.inl (by decide)) (by omega))).trans ((JW.fI j_214 (by decide) (by decide) : fI (V_213 0) 4 = fI (V 0) 4).trans ((hrl.1).trans ((congrArg (fun z => fI z 51) (j_214.2.1 100 (by decide) (by omega))).symm.trans (JR.fI jr_227 (by decide) (by decide) (by decide) : fI (V_223 100) 51 = fI (V_213 100) 51).symm))), (congrArg (fun z => fI z 7) (jr_227.2.1 3 (Or.inl (by decide)) (by omega))).trans ((JW.fI j_214 (by decide) (by decide) : fI (V_213 3) 7 = fI (V 3) 7).trans ((hrl.2.1).trans ((congrArg (fun z => fI z 208) (j_214.2.1 101 (by decide) (by omega))).symm.trans (JR.fI jr_227 (by decide) (by decide) (by decide) : fI (V_223 101) 208 = fI (V_213 101) 208).symm))), (congrArg (fun z => fI z 7) (jr_227.2.1 39 (Or.inl (by decide)) (by omega))).trans ((JW.fI j_214 (by decide) (by decide) : fI (V_213 39) 7 = fI (V 39) 7).trans ((hrl.2.2.1).trans ((congrArg (fun z => fI z 208) (j_214.2.1 103 (by decide) (by omega))).symm.trans (JR.fI jr_227 (by decide) (by decide) (by decide) : fI (V_223 103) 208 = fI (V_213 103) 208).symm))), (congrArg (fun z => fI z 1) (jr_227.2.1 1 (Or.inl (by decide)) (by omega))).trans ((JW.fI j_214 (by decide) (by decide) : fI (V_213 1) 1 = fI (V 1) 1).trans ((hrl.2.2.2.1).trans ((congrArg (fun z => fI z 13) (j_214.2.1 100 (by decide) (by omega))).symm.trans (JR.fI jr_227 (by decide) (by decide) (by decide) : fI (V_223 100) 13 = fI (V_213 100) 13).symm))), (congrArg (fun z => fI z 5) (jr_227.2.1 3 (Or.inl (by decide)) (by omega))).trans ((JW.fI j_214 (by decide) (by decide) : fI (V_213 3) 5 = fI (V 3) 5).trans ((hrl.2.2.2.2.1).trans ((congrArg (fun z => fI z 9) (j_214.2.1 100 (by decide) (by omega))).symm.trans (JR.fI jr_227 (by decide) (by decide) (by decide) : fI (V_223 100) 9 = fI (V_213 100) 9).symm))), (congrArg (fun z => fI z 6) (jr_227.2.1 3 (Or.inl (by decide)) (by omega))).trans ((JW.fI j_214 (by decide) (by decide) : fI (V_213 3) 6 = fI (V 3) 6).trans ((hrl.2.2.2.2.2.1).trans ((congrArg (fun z => fI z 10) (j_214.2.1 100 (by decide) (by omega))).symm.trans (JR.fI jr_227 (by decide) (by decide) (by decide) : fI (V_223 100) 10 = fI (V_213 100) 10).symm))), (congrArg fI (jr_227.2.1 2 (Or.inl (by decide)) (by omega))).trans ((congrArg fI (JW.same j_214 (by decide) (fun k => (nfc (by omega) nf0)))).trans ((hrl.2.2.2.2.2.2.1).trans ((congrArg (fun z => gb (fI z)) (j_214.2.1 110 (by decide) (by omega))).symm.trans (congrArg (fun z => gb (fI z)) (JR.same jr_227 (by decide) (by decide) (fun k => (nfc (by omega) nf0)))).symm))), (congrArg (fun z => rs (fI z)) (jr_227.2.1 17 (Or.inl (by decide)) (by omega))).trans ((congrArg (fun z => rs (fI z)) (JW.same j_214 (by decide) (fun k => (nfc (by omega) nf0)))).trans ((hrl.2.2.2.2.2.2.2).trans ((congrArg (fun z => rs (fI z)) (j_214.2.1 104 (by decide) (by omega))).symm.trans (congrArg (fun z => rs (fI z)) (JR.same jr_227 (by decide) (by decide) (fun k => (nfc (by omega) nf0)))).symm)))⟩
      refine aw_pop dL_law_480 rfl ?_
      refine aw_goto (tgt := 981) dL_law_481 (by decide) ?_
      refine aw_iinc (v := (nI (i + 6))) (ls' := [some (.ref b9), some (.ref (b + 0)), some (.ref (b + 100)), some (.int (nI (i + 6)))]) dL_law_981 rfl (nI_add i 6) (Nat.le_of_ble_eq_true rfl) rfl ?_
      refine aw_goto (tgt := 18) dL_law_984 (by decide) ?_
      refine mih (M + 6 - (i + 6)) (by omega) (i + 6) N cl V_223 _ _ rfl (by omega) ?_ ?_ (by omega) cw_224 cr_225 wf_226 rl_228 <;> omega
    · skip
      refine aw_tableIn (off := 451) (tgt := 484) dL_law_33 (by decide) (by decide) (by decide) (by decide) ?_
      refine aw_aload_n dL_law_484 rfl ?_
      refine aw_callVi (J' := jX11_lodgings) (As := []) (st := []) dL_law_485 tb_806 ok_X11_lodgings ⟨_, (CW.o0 hcw).choose_spec⟩ (by omega) rfl rfl (g_X11_lodgings l D b N V (by omega) hcw) rfl (Nat.le_of_ble_eq_true rfl) ⟨Nat.le_of_ble_eq_true rfl, Nat.le_of_ble_eq_true rfl, (show _ ≤ 600000 from by omega), (show _ ≤ 7302250 from by omega)⟩ (fun r_233 N_234 V_235 q_236 => ?_)
      obtain ⟨rfl, rfl⟩ := q_236
      refine aw_pop dL_law_488 rfl ?_
      refine aw_aload_n dL_law_489 rfl ?_
      refine aw_callVi (J' := jX12_lodgings) (As := []) (st := []) dL_law_490 tb_1489 ok_X12_lodgings ⟨_, (CR.o100 hcr).choose_spec⟩ (by omega) rfl rfl (r_lodgings l D b N V (by omega) cl hcr) rfl (Nat.le_of_ble_eq_true rfl) ⟨Nat.le_of_ble_eq_true rfl, Nat.le_of_ble_eq_true rfl, (show _ ≤ 600000 from by omega), (show _ ≤ 7302250 from by omega)⟩ (fun r_243 N_244 V_237 q_245 => ?_)
      obtain ⟨rfl, jr_241⟩ := q_245
      have cr_239 := jr_241.1
      have cw_238 := CW.out hcw (fun i hi => jr_241.2.1 i (Or.inl hi) (by omega))
      have wf_240 := WF.fr hwf jr_241.2.2.1
      have rl_242 : RLs V_237 := ⟨(congrArg (fun z => fI z 4) (jr_241.2.1 0 (Or.inl (by decide)) (by omega))).trans ((Eq.refl (fI (V 0) 4)).trans ((hrl.1).trans ((Eq.refl (fI (V 100) 51)).symm.trans (JR.fI jr_241 (by decide) (by decide) (by decide) : fI (V_237 100) 51 = fI (V 100) 51).symm))), (congrArg (fun z => fI z 7) (jr_241.2.1 3 (Or.inl (by decide)) (by omega))).trans ((Eq.refl (fI (V 3) 7)).trans ((hrl.2.1).trans ((Eq.refl (fI (V 101) 208)).symm.trans (JR.fI jr_241 (by decide) (by decide) (by decide) : fI (V_237 101) 208 = fI (V 101) 208).symm))), (congrArg (fun z => fI z 7) (jr_241.2.1 39 (Or.inl (by decide)) (by omega))).trans ((Eq.refl (fI (V 39) 7)).trans ((hrl.2.2.1).trans ((Eq.refl (fI (V 103) 208)).symm.trans (JR.fI jr_241 (by decide) (by decide) (by decide) : fI (V_237 103) 208 = fI (V 103) 208).symm))), (congrArg (fun z => fI z 1) (jr_241.2.1 1 (Or.inl (by decide)) (by omega))).trans ((Eq.refl (fI (V 1) 1)).trans ((hrl.2.2.2.1).trans ((Eq.refl (fI (V 100) 13)).symm.trans (JR.fI jr_241 (by decide) (by decide) (by decide) : fI (V_237 100) 13 = fI (V 100) 13).symm))), (congrArg (fun z => fI z 5) (jr_241.2.1 3 (Or.inl (by decide)) (by omega))).trans ((Eq.refl (fI (V 3) 5)).trans ((hrl.2.2.2.2.1).trans ((Eq.refl (fI (V 100) 9)).symm.trans (JR.fI jr_241 (by decide) (by decide) (by decide) : fI (V_237 100) 9 = fI (V 100) 9).symm))), (congrArg (fun z => fI z 6) (jr_241.2.1 3 (Or.inl (by decide)) (by omega))).trans ((Eq.refl (fI (V 3) 6)).trans ((hrl.2.2.2.2.2.1).trans ((Eq.refl (fI (V 100) 10)).symm.trans (JR.fI jr_241 (by decide) (by decide) (by decide) : fI (V_237 100) 10 = fI (V 100) 10).symm))), (congrArg fI (jr_241.2.1 2 (Or.inl (by decide)) (by omega))).trans ((Eq.refl (fI (V 2))).trans ((hrl.2.2.2.2.2.2.1).trans ((Eq.refl (gb (fI (V 110)))).symm.trans (congrArg (fun z => gb (fI z)) (JR.same jr_241 (by decide) (by decide) (fun k => (nfc (by omega) (nfc (by omega) nf0))))).symm))), (congrArg (fun z => rs (fI z)) (jr_241.2.1 17 (Or.inl (by decide)) (by omega))).trans ((Eq.refl (rs (fI (V 17)))).trans ((hrl.2.2.2.2.2.2.2).trans ((Eq.refl (rs (fI (V 104)))).symm.trans (congrArg (fun z => rs (fI z)) (JR.same jr_241 (by decide) (by decide) (fun k => (nfc (by omega) (nfc (by omega) nf0))))).symm)))⟩
      refine aw_pop dL_law_493 rfl ?_
      refine aw_goto (tgt := 981) dL_law_494 (by decide) ?_
      refine aw_iinc (v := (nI (i + 6))) (ls' := [some (.ref b9), some (.ref (b + 0)), some (.ref (b + 100)), some (.int (nI (i + 6)))]) dL_law_981 rfl (nI_add i 6) (Nat.le_of_ble_eq_true rfl) rfl ?_
      refine aw_goto (tgt := 18) dL_law_984 (by decide) ?_
      refine mih (M + 6 - (i + 6)) (by omega) (i + 6) N cl V_237 _ _ rfl (by omega) ?_ ?_ (by omega) cw_238 cr_239 wf_240 rl_242 <;> omega
    · skip
      refine aw_tableIn (off := 464) (tgt := 497) dL_law_33 (by decide) (by decide) (by decide) (by decide) ?_
      refine aw_aload_n dL_law_497 rfl ?_
      refine aw_aload_n dL_law_498 rfl ?_
      refine aw_iload_n dL_law_499 rfl ?_
      refine aw_iconst (v := 1) dL_law_500 (by decide) ?_
      refine aw_iadd dL_law_501 ?_
      refine aw_eqi (y := nI (i + 1)) (nI_add _ _) ?_
      refine aw_sld dL_law_502 rfl (vp_in_nI (n := (i + 1)) (by omega) (by omega)) ?_
      refine aw_callVi (J' := jX11_couples) (As := [.int (xs ((nI (i + 1))).toNatClampNeg)]) (st := []) dL_law_503 tb_814 ok_X11_couples ⟨_, (CW.o0 hcw).choose_spec⟩ (by omega) rfl rfl (g_X11_couples l D b N V (by omega) hcw (xs ((nI (i + 1))).toNatClampNeg)) rfl (Nat.le_of_ble_eq_true rfl) ⟨Nat.le_of_ble_eq_true rfl, Nat.le_of_ble_eq_true rfl, (show _ ≤ 600000 from by omega), (show _ ≤ 7302250 from by omega)⟩ (fun r_253 N_254 V_246 q_255 => ?_)
      obtain ⟨rfl, j_247⟩ := q_255
      have cw_250 := j_247.1
      have cr_251 := CR.fr hcr (fun i h1 h2 => j_247.2.1 i h1 (by omega))
      have wf_252 := WF.fr hwf (fun i h1 h2 => j_247.2.1 i (by omega) (by omega))
      refine aw_pop dL_law_506 rfl ?_
      refine aw_aload_n dL_law_507 rfl ?_
      refine aw_aload_n dL_law_508 rfl ?_
      refine aw_iload_n dL_law_509 rfl ?_
      refine aw_iconst (v := 1) dL_law_510 (by decide) ?_
      refine aw_iadd dL_law_511 ?_
      refine aw_eqi (y := nI (i + 1)) (nI_add _ _) ?_
      refine aw_sld dL_law_512 rfl (vp_in_nI (n := (i + 1)) (by omega) (by omega)) ?_
      refine aw_callVi (J' := jX12_couples) (As := [.int (xs ((nI (i + 1))).toNatClampNeg)]) (st := []) dL_law_513 tb_1493 ok_X12_couples ⟨_, (CR.o100 cr_251).choose_spec⟩ (by omega) rfl rfl (r_couples l D b N V_246 (by omega) cl cr_251 (xs ((nI (i + 1))).toNatClampNeg)) rfl (Nat.le_of_ble_eq_true rfl) ⟨Nat.le_of_ble_eq_true rfl, Nat.le_of_ble_eq_true rfl, (show _ ≤ 600000 from by omega), (show _ ≤ 7302250 from by omega)⟩ (fun r_262 N_263 V_256 q_264 => ?_)
      obtain ⟨rfl, jr_260⟩ := q_264
      have cr_258 := jr_260.1
      have cw_257 := CW.out cw_250 (fun i hi => jr_260.2.1 i (Or.inl hi) (by omega))
      have wf_259 := WF.fr wf_252 jr_260.2.2.1
      have rl_261 : RLs V_256 := ⟨(congrArg (fun z => fI z 4) (jr_260.2.1 0 (Or.inl (by decide)) (by omega))).trans ((JW.fI j_247 (by decide) (by decide) : fI (V_246 0) 4 = fI (V 0) 4).trans ((hrl.1).trans ((congrArg (fun z => fI z 51) (j_247.2.1 100 (by decide) (by omega))).symm.trans (JR.fI jr_260 (by decide) (by decide) (by decide) : fI (V_256 100) 51 = fI (V_246 100) 51).symm))), (congrArg (fun z => fI z 7) (jr_260.2.1 3 (Or.inl (by decide)) (by omega))).trans ((JW.fI j_247 (by decide) (by decide) : fI (V_246 3) 7 = fI (V 3) 7).trans ((hrl.2.1).trans ((congrArg (fun z => fI z 208) (j_247.2.1 101 (by decide) (by omega))).symm.trans (JR.fI jr_260 (by decide) (by decide) (by decide) : fI (V_256 101) 208 = fI (V_246 101) 208).symm))), (congrArg (fun z => fI z 7) (jr_260.2.1 39 (Or.inl (by decide)) (by omega))).trans ((JW.fI j_247 (by decide) (by decide) : fI (V_246 39) 7 = fI (V 39) 7).trans ((hrl.2.2.1).trans ((congrArg (fun z => fI z 208) (j_247.2.1 103 (by decide) (by omega))).symm.trans (JR.fI jr_260 (by decide) (by decide) (by decide) : fI (V_256 103) 208 = fI (V_246 103) 208).symm))), (congrArg (fun z => fI z 1) (jr_260.2.1 1 (Or.inl (by decide)) (by omega))).trans ((JW.fI j_247 (by decide) (by decide) : fI (V_246 1) 1 = fI (V 1) 1).trans ((hrl.2.2.2.1).trans ((congrArg (fun z => fI z 13) (j_247.2.1 100 (by decide) (by omega))).symm.trans (JR.fI jr_260 (by decide) (by decide) (by decide) : fI (V_256 100) 13 = fI (V_246 100) 13).symm))), (congrArg (fun z => fI z 5) (jr_260.2.1 3 (Or.inl (by decide)) (by omega))).trans ((JW.fI j_247 (by decide) (by decide) : fI (V_246 3) 5 = fI (V 3) 5).trans ((hrl.2.2.2.2.1).trans ((congrArg (fun z => fI z 9) (j_247.2.1 100 (by decide) (by omega))).symm.trans (JR.fI jr_260 (by decide) (by decide) (by decide) : fI (V_256 100) 9 = fI (V_246 100) 9).symm))), (congrArg (fun z => fI z 6) (jr_260.2.1 3 (Or.inl (by decide)) (by omega))).trans ((JW.fI j_247 (by decide) (by decide) : fI (V_246 3) 6 = fI (V 3) 6).trans ((hrl.2.2.2.2.2.1).trans ((congrArg (fun z => fI z 10) (j_247.2.1 100 (by decide) (by omega))).symm.trans (JR.fI jr_260 (by decide) (by decide) (by decide) : fI (V_256 100) 10 = fI (V_246 100) 10).symm))), (congrArg fI (jr_260.2.1 2 (Or.inl (by decide)) (by omega))).trans ((congrArg fI (JW.same j_247 (by decide) (fun k => (nfc (by omega) nf0)))).trans ((hrl.2.2.2.2.2.2.1).trans ((congrArg (fun z => gb (fI z)) (j_247.2.1 110 (by decide) (by omega))).symm.trans (congrArg (fun z => gb (fI z)) (JR.same jr_260 (by decide) (by decide) (fun k => (nfc (by omega) nf0)))).symm))), (congrArg (fun z => rs (fI z)) (jr_260.2.1 17 (Or.inl (by decide)) (by omega))).trans ((congrArg (fun z => rs (fI z)) (JW.same j_247 (by decide) (fun k => (nfc (by omega) nf0)))).trans ((hrl.2.2.2.2.2.2.2).trans ((congrArg (fun z => rs (fI z)) (j_247.2.1 104 (by decide) (by omega))).symm.trans (congrArg (fun z => rs (fI z)) (JR.same jr_260 (by decide) (by decide) (fun k => (nfc (by omega) nf0)))).symm)))⟩
      refine aw_pop dL_law_516 rfl ?_
      refine aw_goto (tgt := 981) dL_law_517 (by decide) ?_
      refine aw_iinc (v := (nI (i + 6))) (ls' := [some (.ref b9), some (.ref (b + 0)), some (.ref (b + 100)), some (.int (nI (i + 6)))]) dL_law_981 rfl (nI_add i 6) (Nat.le_of_ble_eq_true rfl) rfl ?_
      refine aw_goto (tgt := 18) dL_law_984 (by decide) ?_
      refine mih (M + 6 - (i + 6)) (by omega) (i + 6) N cl V_256 _ _ rfl (by omega) ?_ ?_ (by omega) cw_257 cr_258 wf_259 rl_261 <;> omega
    · skip
      refine aw_tableIn (off := 487) (tgt := 520) dL_law_33 (by decide) (by decide) (by decide) (by decide) ?_
      refine aw_aload_n dL_law_520 rfl ?_
      refine aw_aload_n dL_law_521 rfl ?_
      refine aw_iload_n dL_law_522 rfl ?_
      refine aw_iconst (v := 1) dL_law_523 (by decide) ?_
      refine aw_iadd dL_law_524 ?_
      refine aw_eqi (y := nI (i + 1)) (nI_add _ _) ?_
      refine aw_sld dL_law_525 rfl (vp_in_nI (n := (i + 1)) (by omega) (by omega)) ?_
      refine aw_aload_n dL_law_526 rfl ?_
      refine aw_iload_n dL_law_527 rfl ?_
      refine aw_iconst (v := 2) dL_law_528 (by decide) ?_
      refine aw_iadd dL_law_529 ?_
      refine aw_eqi (y := nI (i + 2)) (nI_add _ _) ?_
      refine aw_sld dL_law_530 rfl (vp_in_nI (n := (i + 2)) (by omega) (by omega)) ?_
      refine aw_aload_n dL_law_531 rfl ?_
      refine aw_iload_n dL_law_532 rfl ?_
      refine aw_iconst (v := 3) dL_law_533 (by decide) ?_
      refine aw_iadd dL_law_534 ?_
      refine aw_eqi (y := nI (i + 3)) (nI_add _ _) ?_
      refine aw_sld dL_law_535 rfl (vp_in_nI (n := (i + 3)) (by omega) (by omega)) ?_
      refine aw_callVi (J' := jX11_fashion) (As := [.int (xs ((nI (i + 1))).toNatClampNeg), .int (xs ((nI (i + 2))).toNatClampNeg), .int (xs ((nI (i + 3))).toNatClampNeg)]) (st := []) dL_law_536 tb_836 ok_X11_fashion ⟨_, (CW.o0 hcw).choose_spec⟩ (by omega) rfl rfl (g_X11_fashion l D b N V (by omega) hcw (xs ((nI (i + 1))).toNatClampNeg) (xs ((nI (i + 2))).toNatClampNeg) (xs ((nI (i + 3))).toNatClampNeg)) rfl (Nat.le_of_ble_eq_true rfl) ⟨Nat.le_of_ble_eq_true rfl, Nat.le_of_ble_eq_true rfl, (show _ ≤ 600000 from by omega), (show _ ≤ 7302250 from by omega)⟩ (fun r_266 N_267 V_268 q_269 => ?_)
      obtain ⟨rfl, rfl⟩ := q_269
      refine aw_pop dL_law_539 rfl ?_
      refine aw_aload_n dL_law_540 rfl ?_
      refine aw_aload_n dL_law_541 rfl ?_
      refine aw_iload_n dL_law_542 rfl ?_
      refine aw_iconst (v := 1) dL_law_543 (by decide) ?_
      refine aw_iadd dL_law_544 ?_
      refine aw_eqi (y := nI (i + 1)) (nI_add _ _) ?_
      refine aw_sld dL_law_545 rfl (vp_in_nI (n := (i + 1)) (by omega) (by omega)) ?_
      refine aw_aload_n dL_law_546 rfl ?_
      refine aw_iload_n dL_law_547 rfl ?_
      refine aw_iconst (v := 2) dL_law_548 (by decide) ?_
      refine aw_iadd dL_law_549 ?_
      refine aw_eqi (y := nI (i + 2)) (nI_add _ _) ?_
      refine aw_sld dL_law_550 rfl (vp_in_nI (n := (i + 2)) (by omega) (by omega)) ?_
      refine aw_aload_n dL_law_551 rfl ?_
      refine aw_iload_n dL_law_552 rfl ?_
      refine aw_iconst (v := 3) dL_law_553 (by decide) ?_
      refine aw_iadd dL_law_554 ?_
      refine aw_eqi (y := nI (i + 3)) (nI_add _ _) ?_
      refine aw_sld dL_law_555 rfl (vp_in_nI (n := (i + 3)) (by omega) (by omega)) ?_
      refine aw_callVi (J' := jX12_fashion) (As := [.int (xs ((nI (i + 1))).toNatClampNeg), .int (xs ((nI (i + 2))).toNatClampNeg), .int (xs ((nI (i + 3))).toNatClampNeg)]) (st := []) dL_law_556 tb_1504 ok_X12_fashion ⟨_, (CR.o100 hcr).choose_spec⟩ (by omega) rfl rfl (r_fashion l D b N V (by omega) cl hcr (xs ((nI (i + 1))).toNatClampNeg) (xs ((nI (i + 2))).toNatClampNeg) (xs ((nI (i + 3))).toNatClampNeg)) rfl (Nat.le_of_ble_eq_true rfl) ⟨Nat.le_of_ble_eq_true rfl, Nat.le_of_ble_eq_true rfl, (show _ ≤ 600000 from by omega), (show _ ≤ 7302250 from by omega)⟩ (fun r_276 N_277 V_278 q_279 => ?_)
      obtain ⟨rfl, rfl⟩ := q_279
      refine aw_pop dL_law_559 rfl ?_
      refine aw_goto (tgt := 981) dL_law_560 (by decide) ?_
      refine aw_iinc (v := (nI (i + 6))) (ls' := [some (.ref b9), some (.ref (b + 0)), some (.ref (b + 100)), some (.int (nI (i + 6)))]) dL_law_981 rfl (nI_add i 6) (Nat.le_of_ble_eq_true rfl) rfl ?_
      refine aw_goto (tgt := 18) dL_law_984 (by decide) ?_
      refine mih (M + 6 - (i + 6)) (by omega) (i + 6) N cl V _ _ rfl (by omega) ?_ ?_ (by omega) hcw hcr hwf hrl <;> omega
    · skip
      refine aw_tableIn (off := 530) (tgt := 563) dL_law_33 (by decide) (by decide) (by decide) (by decide) ?_
      refine aw_aload_n dL_law_563 rfl ?_
      refine aw_aload_n dL_law_564 rfl ?_
      refine aw_iload_n dL_law_565 rfl ?_
      refine aw_iconst (v := 1) dL_law_566 (by decide) ?_
      refine aw_iadd dL_law_567 ?_
      refine aw_eqi (y := nI (i + 1)) (nI_add _ _) ?_
      refine aw_sld dL_law_568 rfl (vp_in_nI (n := (i + 1)) (by omega) (by omega)) ?_
      refine aw_callVi (J' := jX11_fears) (As := [.int (xs ((nI (i + 1))).toNatClampNeg)]) (st := []) dL_law_569 tb_849 ok_X11_fears ⟨_, (CW.o0 hcw).choose_spec⟩ (by omega) rfl rfl (g_X11_fears l D b N V (by omega) hcw (xs ((nI (i + 1))).toNatClampNeg)) rfl (Nat.le_of_ble_eq_true rfl) ⟨Nat.le_of_ble_eq_true rfl, Nat.le_of_ble_eq_true rfl, (show _ ≤ 600000 from by omega), (show _ ≤ 7302250 from by omega)⟩ (fun r_281 N_282 V_283 q_284 => ?_)
      obtain ⟨rfl, rfl⟩ := q_284
      refine aw_pop dL_law_572 rfl ?_
      refine aw_aload_n dL_law_573 rfl ?_
      refine aw_aload_n dL_law_574 rfl ?_
      refine aw_iload_n dL_law_575 rfl ?_
      refine aw_iconst (v := 1) dL_law_576 (by decide) ?_
      refine aw_iadd dL_law_577 ?_
      refine aw_eqi (y := nI (i + 1)) (nI_add _ _) ?_
      refine aw_sld dL_law_578 rfl (vp_in_nI (n := (i + 1)) (by omega) (by omega)) ?_
      refine aw_callVi (J' := jX12_fears) (As := [.int (xs ((nI (i + 1))).toNatClampNeg)]) (st := []) dL_law_579 tb_1512 ok_X12_fears ⟨_, (CR.o100 hcr).choose_spec⟩ (by omega) rfl rfl (r_fears l D b N V (by omega) cl hcr (xs ((nI (i + 1))).toNatClampNeg)) rfl (Nat.le_of_ble_eq_true rfl) ⟨Nat.le_of_ble_eq_true rfl, Nat.le_of_ble_eq_true rfl, (show _ ≤ 600000 from by omega), (show _ ≤ 7302250 from by omega)⟩ (fun r_291 N_292 V_293 q_294 => ?_)
      obtain ⟨rfl, rfl⟩ := q_294
      refine aw_pop dL_law_582 rfl ?_
      refine aw_goto (tgt := 981) dL_law_583 (by decide) ?_
      refine aw_iinc (v := (nI (i + 6))) (ls' := [some (.ref b9), some (.ref (b + 0)), some (.ref (b + 100)), some (.int (nI (i + 6)))]) dL_law_981 rfl (nI_add i 6) (Nat.le_of_ble_eq_true rfl) rfl ?_
      refine aw_goto (tgt := 18) dL_law_984 (by decide) ?_
      refine mih (M + 6 - (i + 6)) (by omega) (i + 6) N cl V _ _ rfl (by omega) ?_ ?_ (by omega) hcw hcr hwf hrl <;> omega
    · skip
      refine aw_tableIn (off := 553) (tgt := 586) dL_law_33 (by decide) (by decide) (by decide) (by decide) ?_
      refine aw_aload_n dL_law_586 rfl ?_
      refine aw_aload_n dL_law_587 rfl ?_
      refine aw_iload_n dL_law_588 rfl ?_
      refine aw_iconst (v := 1) dL_law_589 (by decide) ?_
      refine aw_iadd dL_law_590 ?_
      refine aw_eqi (y := nI (i + 1)) (nI_add _ _) ?_
      refine aw_sld dL_law_591 rfl (vp_in_nI (n := (i + 1)) (by omega) (by omega)) ?_
      refine aw_aload_n dL_law_592 rfl ?_
      refine aw_iload_n dL_law_593 rfl ?_
      refine aw_iconst (v := 2) dL_law_594 (by decide) ?_
      refine aw_iadd dL_law_595 ?_
      refine aw_eqi (y := nI (i + 2)) (nI_add _ _) ?_
      refine aw_sld dL_law_596 rfl (vp_in_nI (n := (i + 2)) (by omega) (by omega)) ?_
      refine aw_callVi (J' := jX11_unlike) (As := [.int (xs ((nI (i + 1))).toNatClampNeg), .int (xs ((nI (i + 2))).toNatClampNeg)]) (st := []) dL_law_597 tb_863 ok_X11_unlike ⟨_, (CW.o0 hcw).choose_spec⟩ (by omega) rfl rfl (g_X11_unlike l D b N V (by omega) hcw (xs ((nI (i + 1))).toNatClampNeg) (xs ((nI (i + 2))).toNatClampNeg)) rfl (Nat.le_of_ble_eq_true rfl) ⟨Nat.le_of_ble_eq_true rfl, Nat.le_of_ble_eq_true rfl, (show _ ≤ 600000 from by omega), (show _ ≤ 7302250 from by omega)⟩ (fun r_296 N_297 V_298 q_299 => ?_)
      obtain ⟨rfl, rfl⟩ := q_299
      refine aw_pop dL_law_600 rfl ?_
      refine aw_aload_n dL_law_601 rfl ?_
      refine aw_aload_n dL_law_602 rfl ?_
      refine aw_iload_n dL_law_603 rfl ?_
      refine aw_iconst (v := 1) dL_law_604 (by decide) ?_
      refine aw_iadd dL_law_605 ?_
      refine aw_eqi (y := nI (i + 1)) (nI_add _ _) ?_
      refine aw_sld dL_law_606 rfl (vp_in_nI (n := (i + 1)) (by omega) (by omega)) ?_
      refine aw_aload_n dL_law_607 rfl ?_
      refine aw_iload_n dL_law_608 rfl ?_
      refine aw_iconst (v := 2) dL_law_609 (by decide) ?_
      refine aw_iadd dL_law_610 ?_
      refine aw_eqi (y := nI (i + 2)) (nI_add _ _) ?_
      refine aw_sld dL_law_611 rfl (vp_in_nI (n := (i + 2)) (by omega) (by omega)) ?_
      refine aw_callVi (J' := jX12_unlike) (As := [.int (xs ((nI (i + 1))).toNatClampNeg), .int (xs ((nI (i + 2))).toNatClampNeg)]) (st := []) dL_law_612 tb_1516 ok_X12_unlike ⟨_, (CR.o100 hcr).choose_spec⟩ (by omega) rfl rfl (r_unlike l D b N V (by omega) cl hcr (xs ((nI (i + 1))).toNatClampNeg) (xs ((nI (i + 2))).toNatClampNeg)) rfl (Nat.le_of_ble_eq_true rfl) ⟨Nat.le_of_ble_eq_true rfl, Nat.le_of_ble_eq_true rfl, (show _ ≤ 600000 from by omega), (show _ ≤ 7302250 from by omega)⟩ (fun r_306 N_307 V_308 q_309 => ?_)
      obtain ⟨rfl, rfl⟩ := q_309
      refine aw_pop dL_law_615 rfl ?_
      refine aw_goto (tgt := 981) dL_law_616 (by decide) ?_
      refine aw_iinc (v := (nI (i + 6))) (ls' := [some (.ref b9), some (.ref (b + 0)), some (.ref (b + 100)), some (.int (nI (i + 6)))]) dL_law_981 rfl (nI_add i 6) (Nat.le_of_ble_eq_true rfl) rfl ?_
      refine aw_goto (tgt := 18) dL_law_984 (by decide) ?_
      refine mih (M + 6 - (i + 6)) (by omega) (i + 6) N cl V _ _ rfl (by omega) ?_ ?_ (by omega) hcw hcr hwf hrl <;> omega
    · skip
      refine aw_tableIn (off := 586) (tgt := 619) dL_law_33 (by decide) (by decide) (by decide) (by decide) ?_
      refine aw_aload_n dL_law_619 rfl ?_
      refine aw_aload_n dL_law_620 rfl ?_
      refine aw_iload_n dL_law_621 rfl ?_
      refine aw_iconst (v := 1) dL_law_622 (by decide) ?_
      refine aw_iadd dL_law_623 ?_
      refine aw_eqi (y := nI (i + 1)) (nI_add _ _) ?_
      refine aw_sld dL_law_624 rfl (vp_in_nI (n := (i + 1)) (by omega) (by omega)) ?_
      refine aw_callVi (J' := jX11_mostLike) (As := [.int (xs ((nI (i + 1))).toNatClampNeg)]) (st := []) dL_law_625 tb_872 ok_X11_mostLike ⟨_, (CW.o0 hcw).choose_spec⟩ (by omega) rfl rfl (g_X11_mostLike l D b N V (by omega) hcw (xs ((nI (i + 1))).toNatClampNeg)) rfl (Nat.le_of_ble_eq_true rfl) ⟨Nat.le_of_ble_eq_true rfl, Nat.le_of_ble_eq_true rfl, (show _ ≤ 600000 from by omega), (show _ ≤ 7302250 from by omega)⟩ (fun r_311 N_312 V_313 q_314 => ?_)
      obtain ⟨rfl, rfl⟩ := q_314
      refine aw_pop dL_law_628 rfl ?_
      refine aw_aload_n dL_law_629 rfl ?_
      refine aw_aload_n dL_law_630 rfl ?_
      refine aw_iload_n dL_law_631 rfl ?_
      refine aw_iconst (v := 1) dL_law_632 (by decide) ?_
      refine aw_iadd dL_law_633 ?_
      refine aw_eqi (y := nI (i + 1)) (nI_add _ _) ?_
      refine aw_sld dL_law_634 rfl (vp_in_nI (n := (i + 1)) (by omega) (by omega)) ?_
      refine aw_callVi (J' := jX12_mostLike) (As := [.int (xs ((nI (i + 1))).toNatClampNeg)]) (st := []) dL_law_635 tb_1524 ok_X12_mostLike ⟨_, (CR.o100 hcr).choose_spec⟩ (by omega) rfl rfl (r_mostLike l D b N V (by omega) cl hcr (xs ((nI (i + 1))).toNatClampNeg)) rfl (Nat.le_of_ble_eq_true rfl) ⟨Nat.le_of_ble_eq_true rfl, Nat.le_of_ble_eq_true rfl, (show _ ≤ 600000 from by omega), (show _ ≤ 7302250 from by omega)⟩ (fun r_321 N_322 V_323 q_324 => ?_)
      obtain ⟨rfl, rfl⟩ := q_324
      refine aw_pop dL_law_638 rfl ?_
      refine aw_goto (tgt := 981) dL_law_639 (by decide) ?_
      refine aw_iinc (v := (nI (i + 6))) (ls' := [some (.ref b9), some (.ref (b + 0)), some (.ref (b + 100)), some (.int (nI (i + 6)))]) dL_law_981 rfl (nI_add i 6) (Nat.le_of_ble_eq_true rfl) rfl ?_
      refine aw_goto (tgt := 18) dL_law_984 (by decide) ?_
      refine mih (M + 6 - (i + 6)) (by omega) (i + 6) N cl V _ _ rfl (by omega) ?_ ?_ (by omega) hcw hcr hwf hrl <;> omega
    · skip
      refine aw_tableIn (off := 609) (tgt := 642) dL_law_33 (by decide) (by decide) (by decide) (by decide) ?_
      refine aw_aload_n dL_law_642 rfl ?_
      refine aw_aload_n dL_law_643 rfl ?_
      refine aw_iload_n dL_law_644 rfl ?_
      refine aw_iconst (v := 1) dL_law_645 (by decide) ?_
      refine aw_iadd dL_law_646 ?_
      refine aw_eqi (y := nI (i + 1)) (nI_add _ _) ?_
      refine aw_sld dL_law_647 rfl (vp_in_nI (n := (i + 1)) (by omega) (by omega)) ?_
      refine aw_aload_n dL_law_648 rfl ?_
      refine aw_iload_n dL_law_649 rfl ?_
      refine aw_iconst (v := 2) dL_law_650 (by decide) ?_
      refine aw_iadd dL_law_651 ?_
      refine aw_eqi (y := nI (i + 2)) (nI_add _ _) ?_
      refine aw_sld dL_law_652 rfl (vp_in_nI (n := (i + 2)) (by omega) (by omega)) ?_
      refine aw_callVi (J' := jX11_circles) (As := [.int (xs ((nI (i + 1))).toNatClampNeg), .int (xs ((nI (i + 2))).toNatClampNeg)]) (st := []) dL_law_653 tb_881 ok_X11_circles ⟨_, (CW.o0 hcw).choose_spec⟩ (by omega) rfl rfl (g_X11_circles l D b N V (by omega) hcw (xs ((nI (i + 1))).toNatClampNeg) (xs ((nI (i + 2))).toNatClampNeg)) rfl (Nat.le_of_ble_eq_true rfl) ⟨Nat.le_of_ble_eq_true rfl, Nat.le_of_ble_eq_true rfl, (show _ ≤ 600000 from by omega), (show _ ≤ 7302250 from by omega)⟩ (fun r_332 N_333 V_325 q_334 => ?_)
      obtain ⟨rfl, j_326⟩ := q_334
      have cw_329 := j_326.1
      have cr_330 := CR.fr hcr (fun i h1 h2 => j_326.2.1 i h1 (by omega))
      have wf_331 := WF.fr hwf (fun i h1 h2 => j_326.2.1 i (by omega) (by omega))
      refine aw_pop dL_law_656 rfl ?_
      refine aw_aload_n dL_law_657 rfl ?_
      refine aw_aload_n dL_law_658 rfl ?_
      refine aw_iload_n dL_law_659 rfl ?_
      refine aw_iconst (v := 1) dL_law_660 (by decide) ?_
      refine aw_iadd dL_law_661 ?_
      refine aw_eqi (y := nI (i + 1)) (nI_add _ _) ?_
      refine aw_sld dL_law_662 rfl (vp_in_nI (n := (i + 1)) (by omega) (by omega)) ?_
      refine aw_aload_n dL_law_663 rfl ?_
      refine aw_iload_n dL_law_664 rfl ?_
      refine aw_iconst (v := 2) dL_law_665 (by decide) ?_
      refine aw_iadd dL_law_666 ?_
      refine aw_eqi (y := nI (i + 2)) (nI_add _ _) ?_
      refine aw_sld dL_law_667 rfl (vp_in_nI (n := (i + 2)) (by omega) (by omega)) ?_
      refine aw_callVi (J' := jX12_circles) (As := [.int (xs ((nI (i + 1))).toNatClampNeg), .int (xs ((nI (i + 2))).toNatClampNeg)]) (st := []) dL_law_668 tb_1528 ok_X12_circles ⟨_, (CR.o100 cr_330).choose_spec⟩ (by omega) rfl rfl (r_circles l D b N V_325 (by omega) cl cr_330 (xs ((nI (i + 1))).toNatClampNeg) (xs ((nI (i + 2))).toNatClampNeg)) rfl (Nat.le_of_ble_eq_true rfl) ⟨Nat.le_of_ble_eq_true rfl, Nat.le_of_ble_eq_true rfl, (show _ ≤ 600000 from by omega), (show _ ≤ 7302250 from by omega)⟩ (fun r_341 N_342 V_343 q_344 => ?_)
      obtain ⟨rfl, rfl⟩ := q_344
      have rl_340 : RLs V_325 := ⟨(Eq.refl (fI (V_325 0) 4)).trans ((JW.fI j_326 (by decide) (by decide) : fI (V_325 0) 4 = fI (V 0) 4).trans ((hrl.1).trans ((congrArg (fun z => fI z 51) (j_326.2.1 100 (by decide) (by omega))).symm.trans (Eq.refl (fI (V_325 100) 51)).symm))), (Eq.refl (fI (V_325 3) 7)).trans ((JW.fI j_326 (by decide) (by decide) : fI (V_325 3) 7 = fI (V 3) 7).trans ((hrl.2.1).trans ((congrArg (fun z => fI z 208) (j_326.2.1 101 (by decide) (by omega))).symm.trans (Eq.refl (fI (V_325 101) 208)).symm))), (Eq.refl (fI (V_325 39) 7)).trans ((JW.fI j_326 (by decide) (by decide) : fI (V_325 39) 7 = fI (V 39) 7).trans ((hrl.2.2.1).trans ((congrArg (fun z => fI z 208) (j_326.2.1 103 (by decide) (by omega))).symm.trans (Eq.refl (fI (V_325 103) 208)).symm))), (Eq.refl (fI (V_325 1) 1)).trans ((JW.fI j_326 (by decide) (by decide) : fI (V_325 1) 1 = fI (V 1) 1).trans ((hrl.2.2.2.1).trans ((congrArg (fun z => fI z 13) (j_326.2.1 100 (by decide) (by omega))).symm.trans (Eq.refl (fI (V_325 100) 13)).symm))), (Eq.refl (fI (V_325 3) 5)).trans ((JW.fI j_326 (by decide) (by decide) : fI (V_325 3) 5 = fI (V 3) 5).trans ((hrl.2.2.2.2.1).trans ((congrArg (fun z => fI z 9) (j_326.2.1 100 (by decide) (by omega))).symm.trans (Eq.refl (fI (V_325 100) 9)).symm))), (Eq.refl (fI (V_325 3) 6)).trans ((JW.fI j_326 (by decide) (by decide) : fI (V_325 3) 6 = fI (V 3) 6).trans ((hrl.2.2.2.2.2.1).trans ((congrArg (fun z => fI z 10) (j_326.2.1 100 (by decide) (by omega))).symm.trans (Eq.refl (fI (V_325 100) 10)).symm))), (Eq.refl (fI (V_325 2))).trans ((congrArg fI (JW.same j_326 (by decide) (fun k => (nfc (by omega) nf0)))).trans ((hrl.2.2.2.2.2.2.1).trans ((congrArg (fun z => gb (fI z)) (j_326.2.1 110 (by decide) (by omega))).symm.trans (Eq.refl (gb (fI (V_325 110)))).symm))), (Eq.refl (rs (fI (V_325 17)))).trans ((congrArg (fun z => rs (fI z)) (JW.same j_326 (by decide) (fun k => (nfc (by omega) nf0)))).trans ((hrl.2.2.2.2.2.2.2).trans ((congrArg (fun z => rs (fI z)) (j_326.2.1 104 (by decide) (by omega))).symm.trans (Eq.refl (rs (fI (V_325 104)))).symm)))⟩
      refine aw_pop dL_law_671 rfl ?_
      refine aw_goto (tgt := 981) dL_law_672 (by decide) ?_
      refine aw_iinc (v := (nI (i + 6))) (ls' := [some (.ref b9), some (.ref (b + 0)), some (.ref (b + 100)), some (.int (nI (i + 6)))]) dL_law_981 rfl (nI_add i 6) (Nat.le_of_ble_eq_true rfl) rfl ?_
      refine aw_goto (tgt := 18) dL_law_984 (by decide) ?_
      refine mih (M + 6 - (i + 6)) (by omega) (i + 6) N cl V_325 _ _ rfl (by omega) ?_ ?_ (by omega) cw_329 cr_330 wf_331 rl_340 <;> omega
    · skip
      refine aw_tableIn (off := 642) (tgt := 675) dL_law_33 (by decide) (by decide) (by decide) (by decide) ?_
      refine aw_aload_n dL_law_675 rfl ?_
      refine aw_callVi (J' := jX11_keystones) (As := []) (st := []) dL_law_676 tb_904 ok_X11_keystones ⟨_, (CW.o0 hcw).choose_spec⟩ (by omega) rfl rfl (g_X11_keystones l D b N V (by omega) hcw) rfl (Nat.le_of_ble_eq_true rfl) ⟨Nat.le_of_ble_eq_true rfl, Nat.le_of_ble_eq_true rfl, (show _ ≤ 600000 from by omega), (show _ ≤ 7302250 from by omega)⟩ (fun r_346 N_347 V_348 q_349 => ?_)
      obtain ⟨rfl, rfl⟩ := q_349
      refine aw_pop dL_law_679 rfl ?_
      refine aw_aload_n dL_law_680 rfl ?_
      refine aw_callVi (J' := jX12_keystones) (As := []) (st := []) dL_law_681 tb_1536 ok_X12_keystones ⟨_, (CR.o100 hcr).choose_spec⟩ (by omega) rfl rfl (r_keystones l D b N V (by omega) cl hcr) rfl (Nat.le_of_ble_eq_true rfl) ⟨Nat.le_of_ble_eq_true rfl, Nat.le_of_ble_eq_true rfl, (show _ ≤ 600000 from by omega), (show _ ≤ 7302250 from by omega)⟩ (fun r_356 N_357 V_358 q_359 => ?_)
      obtain ⟨rfl, rfl⟩ := q_359
      refine aw_pop dL_law_684 rfl ?_
      refine aw_goto (tgt := 981) dL_law_685 (by decide) ?_
      refine aw_iinc (v := (nI (i + 6))) (ls' := [some (.ref b9), some (.ref (b + 0)), some (.ref (b + 100)), some (.int (nI (i + 6)))]) dL_law_981 rfl (nI_add i 6) (Nat.le_of_ble_eq_true rfl) rfl ?_
      refine aw_goto (tgt := 18) dL_law_984 (by decide) ?_
      refine mih (M + 6 - (i + 6)) (by omega) (i + 6) N cl V _ _ rfl (by omega) ?_ ?_ (by omega) hcw hcr hwf hrl <;> omega
    · skip
      refine aw_tableIn (off := 655) (tgt := 688) dL_law_33 (by decide) (by decide) (by decide) (by decide) ?_
      refine aw_aload_n dL_law_688 rfl ?_
      refine aw_aload_n dL_law_689 rfl ?_
      refine aw_iload_n dL_law_690 rfl ?_
      refine aw_iconst (v := 1) dL_law_691 (by decide) ?_
      refine aw_iadd dL_law_692 ?_
      refine aw_eqi (y := nI (i + 1)) (nI_add _ _) ?_
      refine aw_sld dL_law_693 rfl (vp_in_nI (n := (i + 1)) (by omega) (by omega)) ?_
      refine aw_aload_n dL_law_694 rfl ?_
      refine aw_iload_n dL_law_695 rfl ?_
      refine aw_iconst (v := 2) dL_law_696 (by decide) ?_
      refine aw_iadd dL_law_697 ?_
      refine aw_eqi (y := nI (i + 2)) (nI_add _ _) ?_
      refine aw_sld dL_law_698 rfl (vp_in_nI (n := (i + 2)) (by omega) (by omega)) ?_
      refine aw_callVi (J' := jX11_steps) (As := [.int (xs ((nI (i + 1))).toNatClampNeg), .int (xs ((nI (i + 2))).toNatClampNeg)]) (st := []) dL_law_699 tb_911 ok_X11_steps ⟨_, (CW.o0 hcw).choose_spec⟩ (by omega) rfl rfl (g_X11_steps l D b N V (by omega) hcw (xs ((nI (i + 1))).toNatClampNeg) (xs ((nI (i + 2))).toNatClampNeg)) rfl (Nat.le_of_ble_eq_true rfl) ⟨Nat.le_of_ble_eq_true rfl, Nat.le_of_ble_eq_true rfl, (show _ ≤ 600000 from by omega), (show _ ≤ 7302250 from by omega)⟩ (fun r_361 N_362 V_363 q_364 => ?_)
      obtain ⟨rfl, rfl⟩ := q_364
      refine aw_pop dL_law_702 rfl ?_
      refine aw_aload_n dL_law_703 rfl ?_
      refine aw_aload_n dL_law_704 rfl ?_
      refine aw_iload_n dL_law_705 rfl ?_
      refine aw_iconst (v := 1) dL_law_706 (by decide) ?_
      refine aw_iadd dL_law_707 ?_
      refine aw_eqi (y := nI (i + 1)) (nI_add _ _) ?_
      refine aw_sld dL_law_708 rfl (vp_in_nI (n := (i + 1)) (by omega) (by omega)) ?_
      refine aw_aload_n dL_law_709 rfl ?_
      refine aw_iload_n dL_law_710 rfl ?_
      refine aw_iconst (v := 2) dL_law_711 (by decide) ?_
      refine aw_iadd dL_law_712 ?_
      refine aw_eqi (y := nI (i + 2)) (nI_add _ _) ?_
      refine aw_sld dL_law_713 rfl (vp_in_nI (n := (i + 2)) (by omega) (by omega)) ?_
      refine aw_callVi (J' := jX12_steps) (As := [.int (xs ((nI (i + 1))).toNatClampNeg), .int (xs ((nI (i + 2))).toNatClampNeg)]) (st := []) dL_law_714 tb_1548 ok_X12_steps ⟨_, (CR.o100 hcr).choose_spec⟩ (by omega) rfl rfl (r_steps l D b N V (by omega) cl hcr (xs ((nI (i + 1))).toNatClampNeg) (xs ((nI (i + 2))).toNatClampNeg)) rfl (Nat.le_of_ble_eq_true rfl) ⟨Nat.le_of_ble_eq_true rfl, Nat.le_of_ble_eq_true rfl, (show _ ≤ 600000 from by omega), (show _ ≤ 7302250 from by omega)⟩ (fun r_371 N_372 V_373 q_374 => ?_)
      obtain ⟨rfl, rfl⟩ := q_374
      refine aw_pop dL_law_717 rfl ?_
      refine aw_goto (tgt := 981) dL_law_718 (by decide) ?_
      refine aw_iinc (v := (nI (i + 6))) (ls' := [some (.ref b9), some (.ref (b + 0)), some (.ref (b + 100)), some (.int (nI (i + 6)))]) dL_law_981 rfl (nI_add i 6) (Nat.le_of_ble_eq_true rfl) rfl ?_
      refine aw_goto (tgt := 18) dL_law_984 (by decide) ?_
      refine mih (M + 6 - (i + 6)) (by omega) (i + 6) N cl V _ _ rfl (by omega) ?_ ?_ (by omega) hcw hcr hwf hrl <;> omega
    · skip
      refine aw_tableIn (off := 688) (tgt := 721) dL_law_33 (by decide) (by decide) (by decide) (by decide) ?_
      refine aw_aload_n dL_law_721 rfl ?_
      refine aw_aload_n dL_law_722 rfl ?_
      refine aw_iload_n dL_law_723 rfl ?_
      refine aw_iconst (v := 1) dL_law_724 (by decide) ?_
      refine aw_iadd dL_law_725 ?_
      refine aw_eqi (y := nI (i + 1)) (nI_add _ _) ?_
      refine aw_sld dL_law_726 rfl (vp_in_nI (n := (i + 1)) (by omega) (by omega)) ?_
      refine aw_aload_n dL_law_727 rfl ?_
      refine aw_iload_n dL_law_728 rfl ?_
      refine aw_iconst (v := 2) dL_law_729 (by decide) ?_
      refine aw_iadd dL_law_730 ?_
      refine aw_eqi (y := nI (i + 2)) (nI_add _ _) ?_
      refine aw_sld dL_law_731 rfl (vp_in_nI (n := (i + 2)) (by omega) (by omega)) ?_
      refine aw_callVi (J' := jX11_guess) (As := [.int (xs ((nI (i + 1))).toNatClampNeg), .int (xs ((nI (i + 2))).toNatClampNeg)]) (st := []) dL_law_732 tb_918 ok_X11_guess ⟨_, (CW.o0 hcw).choose_spec⟩ (by omega) rfl rfl (g_X11_guessK l D b N V (by omega) hcw (xs ((nI (i + 1))).toNatClampNeg) (xs ((nI (i + 2))).toNatClampNeg)) rfl (Nat.le_of_ble_eq_true rfl) ⟨Nat.le_of_ble_eq_true rfl, Nat.le_of_ble_eq_true rfl, (show _ ≤ 600000 from by omega), (show _ ≤ 7302250 from by omega)⟩ (fun r_383 N_384 V_375 q_385 => ?_)
      obtain ⟨hs_376, rfl, j_377⟩ := q_385
      have cw_380 := j_377.1
      have cr_381 := CR.fr hcr (fun i h1 h2 => j_377.2.1 i h1 (by omega))
      have wf_382 := WF.fr hwf (fun i h1 h2 => j_377.2.1 i (by omega) (by omega))
      refine aw_pop dL_law_735 rfl ?_
      refine aw_aload_n dL_law_736 rfl ?_
      refine aw_aload_n dL_law_737 rfl ?_
      refine aw_iload_n dL_law_738 rfl ?_
      refine aw_iconst (v := 1) dL_law_739 (by decide) ?_
      refine aw_iadd dL_law_740 ?_
      refine aw_eqi (y := nI (i + 1)) (nI_add _ _) ?_
      refine aw_sld dL_law_741 rfl (vp_in_nI (n := (i + 1)) (by omega) (by omega)) ?_
      refine aw_aload_n dL_law_742 rfl ?_
      refine aw_iload_n dL_law_743 rfl ?_
      refine aw_iconst (v := 2) dL_law_744 (by decide) ?_
      refine aw_iadd dL_law_745 ?_
      refine aw_eqi (y := nI (i + 2)) (nI_add _ _) ?_
      refine aw_sld dL_law_746 rfl (vp_in_nI (n := (i + 2)) (by omega) (by omega)) ?_
      refine aw_callVi (J' := jX12_guess) (As := [.int (xs ((nI (i + 1))).toNatClampNeg), .int (xs ((nI (i + 2))).toNatClampNeg)]) (st := []) dL_law_747 tb_1552 ok_X12_guess ⟨_, (CR.o100 cr_381).choose_spec⟩ (by omega) rfl rfl (r_guessK l D b N V_375 (by omega) cl cr_381 (xs ((nI (i + 1))).toNatClampNeg) (xs ((nI (i + 2))).toNatClampNeg) (xs ((nI (i + 1))).toNatClampNeg) (xs ((nI (i + 2))).toNatClampNeg) ⟨rfl, rfl⟩) rfl (Nat.le_of_ble_eq_true rfl) ⟨Nat.le_of_ble_eq_true rfl, Nat.le_of_ble_eq_true rfl, (show _ ≤ 600000 from by omega), (show _ ≤ 7302250 from by omega)⟩ (fun r_394 N_395 V_386 q_396 => ?_)
      obtain ⟨gs_392, rfl, jr_390⟩ := q_396
      have cr_388 := jr_390.1
      have cw_387 := CW.out cw_380 (fun i hi => jr_390.2.1 i (Or.inl hi) (by omega))
      have wf_389 := WF.fr wf_382 jr_390.2.2.1
      have e_393 : fI (V_375 100) 13 = fI (V 1) 1 := (congrArg (fun z => fI z 13) (j_377.2.1 100 (by decide) (by omega))).trans (hrl.2.2.2.1).symm
      rw [e_393] at gs_392
      have rl_391 : RLs V_386 := ⟨(congrArg (fun z => fI z 4) (jr_390.2.1 0 (Or.inl (by decide)) (by omega))).trans ((JW.fI j_377 (by decide) (by decide) : fI (V_375 0) 4 = fI (V 0) 4).trans ((hrl.1).trans ((congrArg (fun z => fI z 51) (j_377.2.1 100 (by decide) (by omega))).symm.trans (JR.fI jr_390 (by decide) (by decide) (by decide) : fI (V_386 100) 51 = fI (V_375 100) 51).symm))), (congrArg (fun z => fI z 7) (jr_390.2.1 3 (Or.inl (by decide)) (by omega))).trans ((JW.fI j_377 (by decide) (by decide) : fI (V_375 3) 7 = fI (V 3) 7).trans ((hrl.2.1).trans ((congrArg (fun z => fI z 208) (j_377.2.1 101 (by decide) (by omega))).symm.trans (JR.fI jr_390 (by decide) (by decide) (by decide) : fI (V_386 101) 208 = fI (V_375 101) 208).symm))), (congrArg (fun z => fI z 7) (jr_390.2.1 39 (Or.inl (by decide)) (by omega))).trans ((JW.fI j_377 (by decide) (by decide) : fI (V_375 39) 7 = fI (V 39) 7).trans ((hrl.2.2.1).trans ((congrArg (fun z => fI z 208) (j_377.2.1 103 (by decide) (by omega))).symm.trans (JR.fI jr_390 (by decide) (by decide) (by decide) : fI (V_386 103) 208 = fI (V_375 103) 208).symm))), (congrArg (fun z => fI z 1) (jr_390.2.1 1 (Or.inl (by decide)) (by omega))).trans (TKS.one hs_376 gs_392), (congrArg (fun z => fI z 5) (jr_390.2.1 3 (Or.inl (by decide)) (by omega))).trans ((JW.fI j_377 (by decide) (by decide) : fI (V_375 3) 5 = fI (V 3) 5).trans ((hrl.2.2.2.2.1).trans ((congrArg (fun z => fI z 9) (j_377.2.1 100 (by decide) (by omega))).symm.trans (JR.fI jr_390 (by decide) (by decide) (by decide) : fI (V_386 100) 9 = fI (V_375 100) 9).symm))), (congrArg (fun z => fI z 6) (jr_390.2.1 3 (Or.inl (by decide)) (by omega))).trans ((JW.fI j_377 (by decide) (by decide) : fI (V_375 3) 6 = fI (V 3) 6).trans ((hrl.2.2.2.2.2.1).trans ((congrArg (fun z => fI z 10) (j_377.2.1 100 (by decide) (by omega))).symm.trans (JR.fI jr_390 (by decide) (by decide) (by decide) : fI (V_386 100) 10 = fI (V_375 100) 10).symm))), (congrArg fI (jr_390.2.1 2 (Or.inl (by decide)) (by omega))).trans ((congrArg fI (JW.same j_377 (by decide) (fun k => (nfc (by omega) (nfc (by omega) (nfc (by omega) (nfc (by omega) nf0))))))).trans ((hrl.2.2.2.2.2.2.1).trans ((congrArg (fun z => gb (fI z)) (j_377.2.1 110 (by decide) (by omega))).symm.trans (congrArg (fun z => gb (fI z)) (JR.same jr_390 (by decide) (by decide) (fun k => (nfc (by omega) (nfc (by omega) (nfc (by omega) nf0)))))).symm))), (congrArg (fun z => rs (fI z)) (jr_390.2.1 17 (Or.inl (by decide)) (by omega))).trans ((congrArg (fun z => rs (fI z)) (JW.same j_377 (by decide) (fun k => (nfc (by omega) (nfc (by omega) (nfc (by omega) (nfc (by omega) nf0))))))).trans ((hrl.2.2.2.2.2.2.2).trans ((congrArg (fun z => rs (fI z)) (j_377.2.1 104 (by decide) (by omega))).symm.trans (congrArg (fun z => rs (fI z)) (JR.same jr_390 (by decide) (by decide) (fun k => (nfc (by omega) (nfc (by omega) (nfc (by omega) nf0)))))).symm)))⟩
      refine aw_pop dL_law_750 rfl ?_
      refine aw_goto (tgt := 981) dL_law_751 (by decide) ?_
      refine aw_iinc (v := (nI (i + 6))) (ls' := [some (.ref b9), some (.ref (b + 0)), some (.ref (b + 100)), some (.int (nI (i + 6)))]) dL_law_981 rfl (nI_add i 6) (Nat.le_of_ble_eq_true rfl) rfl ?_
      refine aw_goto (tgt := 18) dL_law_984 (by decide) ?_
      refine mih (M + 6 - (i + 6)) (by omega) (i + 6) N cl V_386 _ _ rfl (by omega) ?_ ?_ (by omega) cw_387 cr_388 wf_389 rl_391 <;> omega
    · skip
      refine aw_tableIn (off := 721) (tgt := 754) dL_law_33 (by decide) (by decide) (by decide) (by decide) ?_
      refine aw_aload_n dL_law_754 rfl ?_
      refine aw_aload_n dL_law_755 rfl ?_
      refine aw_iload_n dL_law_756 rfl ?_
      refine aw_iconst (v := 1) dL_law_757 (by decide) ?_
      refine aw_iadd dL_law_758 ?_
      refine aw_eqi (y := nI (i + 1)) (nI_add _ _) ?_
      refine aw_sld dL_law_759 rfl (vp_in_nI (n := (i + 1)) (by omega) (by omega)) ?_
      refine aw_aload_n dL_law_760 rfl ?_
      refine aw_iload_n dL_law_761 rfl ?_
      refine aw_iconst (v := 2) dL_law_762 (by decide) ?_
      refine aw_iadd dL_law_763 ?_
      refine aw_eqi (y := nI (i + 2)) (nI_add _ _) ?_
      refine aw_sld dL_law_764 rfl (vp_in_nI (n := (i + 2)) (by omega) (by omega)) ?_
      refine aw_callVi (J' := jX11_sentNext) (As := [.int (xs ((nI (i + 1))).toNatClampNeg), .int (xs ((nI (i + 2))).toNatClampNeg)]) (st := []) dL_law_765 tb_942 ok_X11_sentNext ⟨_, (CW.o0 hcw).choose_spec⟩ (by omega) rfl rfl (g_X11_sentNext l D b N V (by omega) hcw (xs ((nI (i + 1))).toNatClampNeg) (xs ((nI (i + 2))).toNatClampNeg)) rfl (Nat.le_of_ble_eq_true rfl) ⟨Nat.le_of_ble_eq_true rfl, Nat.le_of_ble_eq_true rfl, (show _ ≤ 600000 from by omega), (show _ ≤ 7302250 from by omega)⟩ (fun r_398 N_399 V_400 q_401 => ?_)
      obtain ⟨rfl, rfl⟩ := q_401
      refine aw_pop dL_law_768 rfl ?_
      refine aw_aload_n dL_law_769 rfl ?_
      refine aw_aload_n dL_law_770 rfl ?_
      refine aw_iload_n dL_law_771 rfl ?_
      refine aw_iconst (v := 1) dL_law_772 (by decide) ?_
      refine aw_iadd dL_law_773 ?_
      refine aw_eqi (y := nI (i + 1)) (nI_add _ _) ?_
      refine aw_sld dL_law_774 rfl (vp_in_nI (n := (i + 1)) (by omega) (by omega)) ?_
      refine aw_aload_n dL_law_775 rfl ?_
      refine aw_iload_n dL_law_776 rfl ?_
      refine aw_iconst (v := 2) dL_law_777 (by decide) ?_
      refine aw_iadd dL_law_778 ?_
      refine aw_eqi (y := nI (i + 2)) (nI_add _ _) ?_
      refine aw_sld dL_law_779 rfl (vp_in_nI (n := (i + 2)) (by omega) (by omega)) ?_
      refine aw_callVi (J' := jX12_sentNext) (As := [.int (xs ((nI (i + 1))).toNatClampNeg), .int (xs ((nI (i + 2))).toNatClampNeg)]) (st := []) dL_law_780 tb_1564 ok_X12_sentNext ⟨_, (CR.o100 hcr).choose_spec⟩ (by omega) rfl rfl (r_sentNext l D b N V (by omega) cl hcr (xs ((nI (i + 1))).toNatClampNeg) (xs ((nI (i + 2))).toNatClampNeg)) rfl (Nat.le_of_ble_eq_true rfl) ⟨Nat.le_of_ble_eq_true rfl, Nat.le_of_ble_eq_true rfl, (show _ ≤ 600000 from by omega), (show _ ≤ 7302250 from by omega)⟩ (fun r_408 N_409 V_410 q_411 => ?_)
      obtain ⟨rfl, rfl⟩ := q_411
      refine aw_pop dL_law_783 rfl ?_
      refine aw_goto (tgt := 981) dL_law_784 (by decide) ?_
      refine aw_iinc (v := (nI (i + 6))) (ls' := [some (.ref b9), some (.ref (b + 0)), some (.ref (b + 100)), some (.int (nI (i + 6)))]) dL_law_981 rfl (nI_add i 6) (Nat.le_of_ble_eq_true rfl) rfl ?_
      refine aw_goto (tgt := 18) dL_law_984 (by decide) ?_
      refine mih (M + 6 - (i + 6)) (by omega) (i + 6) N cl V _ _ rfl (by omega) ?_ ?_ (by omega) hcw hcr hwf hrl <;> omega
    · skip
      refine aw_tableIn (off := 754) (tgt := 787) dL_law_33 (by decide) (by decide) (by decide) (by decide) ?_
      refine aw_aload_n dL_law_787 rfl ?_
      refine aw_aload_n dL_law_788 rfl ?_
      refine aw_iload_n dL_law_789 rfl ?_
      refine aw_iconst (v := 1) dL_law_790 (by decide) ?_
      refine aw_iadd dL_law_791 ?_
      refine aw_eqi (y := nI (i + 1)) (nI_add _ _) ?_
      refine aw_sld dL_law_792 rfl (vp_in_nI (n := (i + 1)) (by omega) (by omega)) ?_
      refine aw_callVi (J' := jX11_guards) (As := [.int (xs ((nI (i + 1))).toNatClampNeg)]) (st := []) dL_law_793 tb_954 ok_X11_guards ⟨_, (CW.o0 hcw).choose_spec⟩ (by omega) rfl rfl (g_X11_guardsK l D b N V (by omega) hcw (xs ((nI (i + 1))).toNatClampNeg)) rfl (Nat.le_of_ble_eq_true rfl) ⟨Nat.le_of_ble_eq_true rfl, Nat.le_of_ble_eq_true rfl, (show _ ≤ 600000 from by omega), (show _ ≤ 7302250 from by omega)⟩ (fun r_420 N_421 V_412 q_422 => ?_)
      obtain ⟨hs_413, rfl, j_414⟩ := q_422
      have cw_417 := j_414.1
      have cr_418 := CR.fr hcr (fun i h1 h2 => j_414.2.1 i h1 (by omega))
      have wf_419 := WF.fr hwf (fun i h1 h2 => j_414.2.1 i (by omega) (by omega))
      refine aw_pop dL_law_796 rfl ?_
      refine aw_aload_n dL_law_797 rfl ?_
      refine aw_aload_n dL_law_798 rfl ?_
      refine aw_iload_n dL_law_799 rfl ?_
      refine aw_iconst (v := 1) dL_law_800 (by decide) ?_
      refine aw_iadd dL_law_801 ?_
      refine aw_eqi (y := nI (i + 1)) (nI_add _ _) ?_
      refine aw_sld dL_law_802 rfl (vp_in_nI (n := (i + 1)) (by omega) (by omega)) ?_
      refine aw_callVi (J' := jX12_guards) (As := [.int (xs ((nI (i + 1))).toNatClampNeg)]) (st := []) dL_law_803 tb_1572 ok_X12_guards ⟨_, (CR.o100 cr_418).choose_spec⟩ (by omega) rfl rfl (r_guardsK l D b N V_412 (by omega) cl cr_418 (xs ((nI (i + 1))).toNatClampNeg) (xs ((nI (i + 1))).toNatClampNeg) rfl) rfl (Nat.le_of_ble_eq_true rfl) ⟨Nat.le_of_ble_eq_true rfl, Nat.le_of_ble_eq_true rfl, (show _ ≤ 600000 from by omega), (show _ ≤ 7302250 from by omega)⟩ (fun r_431 N_432 V_423 q_433 => ?_)
      obtain ⟨gs_429, rfl, jr_427⟩ := q_433
      have cr_425 := jr_427.1
      have cw_424 := CW.out cw_417 (fun i hi => jr_427.2.1 i (Or.inl hi) (by omega))
      have wf_426 := WF.fr wf_419 jr_427.2.2.1
      have e_430 : fI (V_412 100) 13 = fI (V 1) 1 := (congrArg (fun z => fI z 13) (j_414.2.1 100 (by decide) (by omega))).trans (hrl.2.2.2.1).symm
      rw [e_430] at gs_429
      have rl_428 : RLs V_423 := ⟨(congrArg (fun z => fI z 4) (jr_427.2.1 0 (Or.inl (by decide)) (by omega))).trans ((JW.fI j_414 (by decide) (by decide) : fI (V_412 0) 4 = fI (V 0) 4).trans ((hrl.1).trans ((congrArg (fun z => fI z 51) (j_414.2.1 100 (by decide) (by omega))).symm.trans (JR.fI jr_427 (by decide) (by decide) (by decide) : fI (V_423 100) 51 = fI (V_412 100) 51).symm))), (congrArg (fun z => fI z 7) (jr_427.2.1 3 (Or.inl (by decide)) (by omega))).trans ((JW.fI j_414 (by decide) (by decide) : fI (V_412 3) 7 = fI (V 3) 7).trans ((hrl.2.1).trans ((congrArg (fun z => fI z 208) (j_414.2.1 101 (by decide) (by omega))).symm.trans (JR.fI jr_427 (by decide) (by decide) (by decide) : fI (V_423 101) 208 = fI (V_412 101) 208).symm))), (congrArg (fun z => fI z 7) (jr_427.2.1 39 (Or.inl (by decide)) (by omega))).trans ((JW.fI j_414 (by decide) (by decide) : fI (V_412 39) 7 = fI (V 39) 7).trans ((hrl.2.2.1).trans ((congrArg (fun z => fI z 208) (j_414.2.1 103 (by decide) (by omega))).symm.trans (JR.fI jr_427 (by decide) (by decide) (by decide) : fI (V_423 103) 208 = fI (V_412 103) 208).symm))), (congrArg (fun z => fI z 1) (jr_427.2.1 1 (Or.inl (by decide)) (by omega))).trans (TKS.one hs_413 gs_429), (congrArg (fun z => fI z 5) (jr_427.2.1 3 (Or.inl (by decide)) (by omega))).trans ((JW.fI j_414 (by decide) (by decide) : fI (V_412 3) 5 = fI (V 3) 5).trans ((hrl.2.2.2.2.1).trans ((congrArg (fun z => fI z 9) (j_414.2.1 100 (by decide) (by omega))).symm.trans (JR.fI jr_427 (by decide) (by decide) (by decide) : fI (V_423 100) 9 = fI (V_412 100) 9).symm))), (congrArg (fun z => fI z 6) (jr_427.2.1 3 (Or.inl (by decide)) (by omega))).trans ((JW.fI j_414 (by decide) (by decide) : fI (V_412 3) 6 = fI (V 3) 6).trans ((hrl.2.2.2.2.2.1).trans ((congrArg (fun z => fI z 10) (j_414.2.1 100 (by decide) (by omega))).symm.trans (JR.fI jr_427 (by decide) (by decide) (by decide) : fI (V_423 100) 10 = fI (V_412 100) 10).symm))), (congrArg fI (jr_427.2.1 2 (Or.inl (by decide)) (by omega))).trans ((congrArg fI (JW.same j_414 (by decide) (fun k => (nfc (by omega) (nfc (by omega) (nfc (by omega) (nfc (by omega) (nfc (by omega) nf0)))))))).trans ((hrl.2.2.2.2.2.2.1).trans ((congrArg (fun z => gb (fI z)) (j_414.2.1 110 (by decide) (by omega))).symm.trans (congrArg (fun z => gb (fI z)) (JR.same jr_427 (by decide) (by decide) (fun k => (nfc (by omega) (nfc (by omega) nf0))))).symm))), (congrArg (fun z => rs (fI z)) (jr_427.2.1 17 (Or.inl (by decide)) (by omega))).trans ((congrArg (fun z => rs (fI z)) (JW.same j_414 (by decide) (fun k => (nfc (by omega) (nfc (by omega) (nfc (by omega) (nfc (by omega) (nfc (by omega) nf0)))))))).trans ((hrl.2.2.2.2.2.2.2).trans ((congrArg (fun z => rs (fI z)) (j_414.2.1 104 (by decide) (by omega))).symm.trans (congrArg (fun z => rs (fI z)) (JR.same jr_427 (by decide) (by decide) (fun k => (nfc (by omega) (nfc (by omega) nf0))))).symm)))⟩
      refine aw_pop dL_law_806 rfl ?_
      refine aw_goto (tgt := 981) dL_law_807 (by decide) ?_
      refine aw_iinc (v := (nI (i + 6))) (ls' := [some (.ref b9), some (.ref (b + 0)), some (.ref (b + 100)), some (.int (nI (i + 6)))]) dL_law_981 rfl (nI_add i 6) (Nat.le_of_ble_eq_true rfl) rfl ?_
      refine aw_goto (tgt := 18) dL_law_984 (by decide) ?_
      refine mih (M + 6 - (i + 6)) (by omega) (i + 6) N cl V_423 _ _ rfl (by omega) ?_ ?_ (by omega) cw_424 cr_425 wf_426 rl_428 <;> omega
    · skip
      refine aw_tableIn (off := 777) (tgt := 810) dL_law_33 (by decide) (by decide) (by decide) (by decide) ?_
      refine aw_aload_n dL_law_810 rfl ?_
      refine aw_aload_n dL_law_811 rfl ?_
      refine aw_iload_n dL_law_812 rfl ?_
      refine aw_iconst (v := 1) dL_law_813 (by decide) ?_
      refine aw_iadd dL_law_814 ?_
      refine aw_eqi (y := nI (i + 1)) (nI_add _ _) ?_
      refine aw_sld dL_law_815 rfl (vp_in_nI (n := (i + 1)) (by omega) (by omega)) ?_
      refine aw_aload_n dL_law_816 rfl ?_
      refine aw_iload_n dL_law_817 rfl ?_
      refine aw_iconst (v := 2) dL_law_818 (by decide) ?_
      refine aw_iadd dL_law_819 ?_
      refine aw_eqi (y := nI (i + 2)) (nI_add _ _) ?_
      refine aw_sld dL_law_820 rfl (vp_in_nI (n := (i + 2)) (by omega) (by omega)) ?_
      refine aw_aload_n dL_law_821 rfl ?_
      refine aw_iload_n dL_law_822 rfl ?_
      refine aw_iconst (v := 3) dL_law_823 (by decide) ?_
      refine aw_iadd dL_law_824 ?_
      refine aw_eqi (y := nI (i + 3)) (nI_add _ _) ?_
      refine aw_sld dL_law_825 rfl (vp_in_nI (n := (i + 3)) (by omega) (by omega)) ?_
      refine aw_callVl (J' := jX11_word) (As := [.int (xs ((nI (i + 1))).toNatClampNeg), .int (xs ((nI (i + 2))).toNatClampNeg), .int (xs ((nI (i + 3))).toNatClampNeg)]) (st := []) dL_law_826 tb_973 ok_X11_word ⟨_, (CW.o0 hcw).choose_spec⟩ (by omega) rfl rfl (g_X11_word l D b N V (by omega) hcw (xs ((nI (i + 1))).toNatClampNeg) (xs ((nI (i + 2))).toNatClampNeg) (xs ((nI (i + 3))).toNatClampNeg)) rfl (Nat.le_of_ble_eq_true rfl) ⟨Nat.le_of_ble_eq_true rfl, Nat.le_of_ble_eq_true rfl, (show _ ≤ 600000 from by omega), (show _ ≤ 7302250 from by omega)⟩ (fun r_441 N_442 V_434 q_443 => ?_)
      obtain ⟨rfl, j_435⟩ := q_443
      have cw_438 := j_435.1
      have cr_439 := CR.fr hcr (fun i h1 h2 => j_435.2.1 i h1 (by omega))
      have wf_440 := WF.fr hwf (fun i h1 h2 => j_435.2.1 i (by omega) (by omega))
      refine aw_pop2 dL_law_829 rfl ?_
      refine aw_aload_n dL_law_830 rfl ?_
      refine aw_aload_n dL_law_831 rfl ?_
      refine aw_iload_n dL_law_832 rfl ?_
      refine aw_iconst (v := 1) dL_law_833 (by decide) ?_
      refine aw_iadd dL_law_834 ?_
      refine aw_eqi (y := nI (i + 1)) (nI_add _ _) ?_
      refine aw_sld dL_law_835 rfl (vp_in_nI (n := (i + 1)) (by omega) (by omega)) ?_
      refine aw_aload_n dL_law_836 rfl ?_
      refine aw_iload_n dL_law_837 rfl ?_
      refine aw_iconst (v := 2) dL_law_838 (by decide) ?_
      refine aw_iadd dL_law_839 ?_
      refine aw_eqi (y := nI (i + 2)) (nI_add _ _) ?_
      refine aw_sld dL_law_840 rfl (vp_in_nI (n := (i + 2)) (by omega) (by omega)) ?_
      refine aw_aload_n dL_law_841 rfl ?_
      refine aw_iload_n dL_law_842 rfl ?_
      refine aw_iconst (v := 3) dL_law_843 (by decide) ?_
      refine aw_iadd dL_law_844 ?_
      refine aw_eqi (y := nI (i + 3)) (nI_add _ _) ?_
      refine aw_sld dL_law_845 rfl (vp_in_nI (n := (i + 3)) (by omega) (by omega)) ?_
      refine aw_callVl (J' := jX12_word) (As := [.int (xs ((nI (i + 1))).toNatClampNeg), .int (xs ((nI (i + 2))).toNatClampNeg), .int (xs ((nI (i + 3))).toNatClampNeg)]) (st := []) dL_law_846 tb_1588 ok_X12_word ⟨_, (CR.o100 cr_439).choose_spec⟩ (by omega) rfl rfl (r_word l D b N V_434 (by omega) cl cr_439 (xs ((nI (i + 1))).toNatClampNeg) (xs ((nI (i + 2))).toNatClampNeg) (xs ((nI (i + 3))).toNatClampNeg)) rfl (Nat.le_of_ble_eq_true rfl) ⟨Nat.le_of_ble_eq_true rfl, Nat.le_of_ble_eq_true rfl, (show _ ≤ 600000 from by omega), (show _ ≤ 7302250 from by omega)⟩ (fun r_450 N_451 V_444 q_452 => ?_)
      obtain ⟨rfl, jr_448⟩ := q_452
      have cr_446 := jr_448.1
      have cw_445 := CW.out cw_438 (fun i hi => jr_448.2.1 i (Or.inl hi) (by omega))
      have wf_447 := WF.fr wf_440 jr_448.2.2.1
      have rl_449 : RLs V_444 := ⟨(congrArg (fun z => fI z 4) (jr_448.2.1 0 (Or.inl (by decide)) (by omega))).trans ((JW.fI j_435 (by decide) (by decide) : fI (V_434 0) 4 = fI (V 0) 4).trans ((hrl.1).trans ((congrArg (fun z => fI z 51) (j_435.2.1 100 (by decide) (by omega))).symm.trans (JR.fI jr_448 (by decide) (by decide) (by decide) : fI (V_444 100) 51 = fI (V_434 100) 51).symm))), (congrArg (fun z => fI z 7) (jr_448.2.1 3 (Or.inl (by decide)) (by omega))).trans ((JW.fI j_435 (by decide) (by decide) : fI (V_434 3) 7 = fI (V 3) 7).trans ((hrl.2.1).trans ((congrArg (fun z => fI z 208) (j_435.2.1 101 (by decide) (by omega))).symm.trans (JR.fI jr_448 (by decide) (by decide) (by decide) : fI (V_444 101) 208 = fI (V_434 101) 208).symm))), (congrArg (fun z => fI z 7) (jr_448.2.1 39 (Or.inl (by decide)) (by omega))).trans ((JW.fI j_435 (by decide) (by decide) : fI (V_434 39) 7 = fI (V 39) 7).trans ((hrl.2.2.1).trans ((congrArg (fun z => fI z 208) (j_435.2.1 103 (by decide) (by omega))).symm.trans (JR.fI jr_448 (by decide) (by decide) (by decide) : fI (V_444 103) 208 = fI (V_434 103) 208).symm))), (congrArg (fun z => fI z 1) (jr_448.2.1 1 (Or.inl (by decide)) (by omega))).trans ((JW.fI j_435 (by decide) (by decide) : fI (V_434 1) 1 = fI (V 1) 1).trans ((hrl.2.2.2.1).trans ((congrArg (fun z => fI z 13) (j_435.2.1 100 (by decide) (by omega))).symm.trans (JR.fI jr_448 (by decide) (by decide) (by decide) : fI (V_444 100) 13 = fI (V_434 100) 13).symm))), (congrArg (fun z => fI z 5) (jr_448.2.1 3 (Or.inl (by decide)) (by omega))).trans ((JW.fI j_435 (by decide) (by decide) : fI (V_434 3) 5 = fI (V 3) 5).trans ((hrl.2.2.2.2.1).trans ((congrArg (fun z => fI z 9) (j_435.2.1 100 (by decide) (by omega))).symm.trans (JR.fI jr_448 (by decide) (by decide) (by decide) : fI (V_444 100) 9 = fI (V_434 100) 9).symm))), (congrArg (fun z => fI z 6) (jr_448.2.1 3 (Or.inl (by decide)) (by omega))).trans ((JW.fI j_435 (by decide) (by decide) : fI (V_434 3) 6 = fI (V 3) 6).trans ((hrl.2.2.2.2.2.1).trans ((congrArg (fun z => fI z 10) (j_435.2.1 100 (by decide) (by omega))).symm.trans (JR.fI jr_448 (by decide) (by decide) (by decide) : fI (V_444 100) 10 = fI (V_434 100) 10).symm))), (congrArg fI (jr_448.2.1 2 (Or.inl (by decide)) (by omega))).trans ((congrArg fI (JW.same j_435 (by decide) (fun k => (nfc (by omega) nf0)))).trans ((hrl.2.2.2.2.2.2.1).trans ((congrArg (fun z => gb (fI z)) (j_435.2.1 110 (by decide) (by omega))).symm.trans (congrArg (fun z => gb (fI z)) (JR.same jr_448 (by decide) (by decide) (fun k => (nfc (by omega) nf0)))).symm))), (congrArg (fun z => rs (fI z)) (jr_448.2.1 17 (Or.inl (by decide)) (by omega))).trans ((congrArg (fun z => rs (fI z)) (JW.same j_435 (by decide) (fun k => (nfc (by omega) nf0)))).trans ((hrl.2.2.2.2.2.2.2).trans ((congrArg (fun z => rs (fI z)) (j_435.2.1 104 (by decide) (by omega))).symm.trans (congrArg (fun z => rs (fI z)) (JR.same jr_448 (by decide) (by decide) (fun k => (nfc (by omega) nf0)))).symm)))⟩
      refine aw_pop2 dL_law_849 rfl ?_
      refine aw_goto (tgt := 981) dL_law_850 (by decide) ?_
      refine aw_iinc (v := (nI (i + 6))) (ls' := [some (.ref b9), some (.ref (b + 0)), some (.ref (b + 100)), some (.int (nI (i + 6)))]) dL_law_981 rfl (nI_add i 6) (Nat.le_of_ble_eq_true rfl) rfl ?_
      refine aw_goto (tgt := 18) dL_law_984 (by decide) ?_
      refine mih (M + 6 - (i + 6)) (by omega) (i + 6) N cl V_444 _ _ rfl (by omega) ?_ ?_ (by omega) cw_445 cr_446 wf_447 rl_449 <;> omega
    · skip
      refine aw_tableIn (off := 820) (tgt := 853) dL_law_33 (by decide) (by decide) (by decide) (by decide) ?_
      refine aw_aload_n dL_law_853 rfl ?_
      refine aw_aload_n dL_law_854 rfl ?_
      refine aw_iload_n dL_law_855 rfl ?_
      refine aw_iconst (v := 1) dL_law_856 (by decide) ?_
      refine aw_iadd dL_law_857 ?_
      refine aw_eqi (y := nI (i + 1)) (nI_add _ _) ?_
      refine aw_sld dL_law_858 rfl (vp_in_nI (n := (i + 1)) (by omega) (by omega)) ?_
      refine aw_aload_n dL_law_859 rfl ?_
      refine aw_iload_n dL_law_860 rfl ?_
      refine aw_iconst (v := 2) dL_law_861 (by decide) ?_
      refine aw_iadd dL_law_862 ?_
      refine aw_eqi (y := nI (i + 2)) (nI_add _ _) ?_
      refine aw_sld dL_law_863 rfl (vp_in_nI (n := (i + 2)) (by omega) (by omega)) ?_
      refine aw_callVi (J' := jX11_rooms) (As := [.int (xs ((nI (i + 1))).toNatClampNeg), .int (xs ((nI (i + 2))).toNatClampNeg)]) (st := []) dL_law_864 tb_986 ok_X11_rooms ⟨_, (CW.o0 hcw).choose_spec⟩ (by omega) rfl rfl (g_X11_roomsK l D b N V (by omega) hcw (xs ((nI (i + 1))).toNatClampNeg) (xs ((nI (i + 2))).toNatClampNeg)) rfl (Nat.le_of_ble_eq_true rfl) ⟨Nat.le_of_ble_eq_true rfl, Nat.le_of_ble_eq_true rfl, (show _ ≤ 600000 from by omega), (show _ ≤ 7302250 from by omega)⟩ (fun r_461 N_462 V_453 q_463 => ?_)
      obtain ⟨hs_454, rfl, j_455⟩ := q_463
      have cw_458 := j_455.1
      have cr_459 := CR.fr hcr (fun i h1 h2 => j_455.2.1 i h1 (by omega))
      have wf_460 := WF.fr hwf (fun i h1 h2 => j_455.2.1 i (by omega) (by omega))
      refine aw_pop dL_law_867 rfl ?_
      refine aw_aload_n dL_law_868 rfl ?_
      refine aw_aload_n dL_law_869 rfl ?_
      refine aw_iload_n dL_law_870 rfl ?_
      refine aw_iconst (v := 1) dL_law_871 (by decide) ?_
      refine aw_iadd dL_law_872 ?_
      refine aw_eqi (y := nI (i + 1)) (nI_add _ _) ?_
      refine aw_sld dL_law_873 rfl (vp_in_nI (n := (i + 1)) (by omega) (by omega)) ?_
      refine aw_aload_n dL_law_874 rfl ?_
      refine aw_iload_n dL_law_875 rfl ?_
      refine aw_iconst (v := 2) dL_law_876 (by decide) ?_
      refine aw_iadd dL_law_877 ?_
      refine aw_eqi (y := nI (i + 2)) (nI_add _ _) ?_
      refine aw_sld dL_law_878 rfl (vp_in_nI (n := (i + 2)) (by omega) (by omega)) ?_
      refine aw_callVi (J' := jX12_rooms) (As := [.int (xs ((nI (i + 1))).toNatClampNeg), .int (xs ((nI (i + 2))).toNatClampNeg)]) (st := []) dL_law_879 tb_1593 ok_X12_rooms ⟨_, (CR.o100 cr_459).choose_spec⟩ (by omega) rfl rfl (r_roomsK l D b N V_453 (by omega) cl cr_459 (xs ((nI (i + 1))).toNatClampNeg) (xs ((nI (i + 2))).toNatClampNeg) (xs ((nI (i + 1))).toNatClampNeg) (xs ((nI (i + 2))).toNatClampNeg) ⟨rfl, rfl⟩) rfl (Nat.le_of_ble_eq_true rfl) ⟨Nat.le_of_ble_eq_true rfl, Nat.le_of_ble_eq_true rfl, (show _ ≤ 600000 from by omega), (show _ ≤ 7302250 from by omega)⟩ (fun r_472 N_473 V_464 q_474 => ?_)
      obtain ⟨gs_470, rfl, jr_468⟩ := q_474
      have cr_466 := jr_468.1
      have cw_465 := CW.out cw_458 (fun i hi => jr_468.2.1 i (Or.inl hi) (by omega))
      have wf_467 := WF.fr wf_460 jr_468.2.2.1
      have e_471 : fI (V_453 100) 13 = fI (V 1) 1 := (congrArg (fun z => fI z 13) (j_455.2.1 100 (by decide) (by omega))).trans (hrl.2.2.2.1).symm
      rw [e_471] at gs_470
      have rl_469 : RLs V_464 := ⟨(congrArg (fun z => fI z 4) (jr_468.2.1 0 (Or.inl (by decide)) (by omega))).trans ((JW.fI j_455 (by decide) (by decide) : fI (V_453 0) 4 = fI (V 0) 4).trans ((hrl.1).trans ((congrArg (fun z => fI z 51) (j_455.2.1 100 (by decide) (by omega))).symm.trans (JR.fI jr_468 (by decide) (by decide) (by decide) : fI (V_464 100) 51 = fI (V_453 100) 51).symm))), (congrArg (fun z => fI z 7) (jr_468.2.1 3 (Or.inl (by decide)) (by omega))).trans ((JW.fI j_455 (by decide) (by decide) : fI (V_453 3) 7 = fI (V 3) 7).trans ((hrl.2.1).trans ((congrArg (fun z => fI z 208) (j_455.2.1 101 (by decide) (by omega))).symm.trans (JR.fI jr_468 (by decide) (by decide) (by decide) : fI (V_464 101) 208 = fI (V_453 101) 208).symm))), (congrArg (fun z => fI z 7) (jr_468.2.1 39 (Or.inl (by decide)) (by omega))).trans ((JW.fI j_455 (by decide) (by decide) : fI (V_453 39) 7 = fI (V 39) 7).trans ((hrl.2.2.1).trans ((congrArg (fun z => fI z 208) (j_455.2.1 103 (by decide) (by omega))).symm.trans (JR.fI jr_468 (by decide) (by decide) (by decide) : fI (V_464 103) 208 = fI (V_453 103) 208).symm))), (congrArg (fun z => fI z 1) (jr_468.2.1 1 (Or.inl (by decide)) (by omega))).trans (TKS.one hs_454 gs_470), (congrArg (fun z => fI z 5) (jr_468.2.1 3 (Or.inl (by decide)) (by omega))).trans ((JW.fI j_455 (by decide) (by decide) : fI (V_453 3) 5 = fI (V 3) 5).trans ((hrl.2.2.2.2.1).trans ((congrArg (fun z => fI z 9) (j_455.2.1 100 (by decide) (by omega))).symm.trans (JR.fI jr_468 (by decide) (by decide) (by decide) : fI (V_464 100) 9 = fI (V_453 100) 9).symm))), (congrArg (fun z => fI z 6) (jr_468.2.1 3 (Or.inl (by decide)) (by omega))).trans ((JW.fI j_455 (by decide) (by decide) : fI (V_453 3) 6 = fI (V 3) 6).trans ((hrl.2.2.2.2.2.1).trans ((congrArg (fun z => fI z 10) (j_455.2.1 100 (by decide) (by omega))).symm.trans (JR.fI jr_468 (by decide) (by decide) (by decide) : fI (V_464 100) 10 = fI (V_453 100) 10).symm))), (congrArg fI (jr_468.2.1 2 (Or.inl (by decide)) (by omega))).trans ((congrArg fI (JW.same j_455 (by decide) (fun k => (nfc (by omega) (nfc (by omega) (nfc (by omega) (nfc (by omega) nf0))))))).trans ((hrl.2.2.2.2.2.2.1).trans ((congrArg (fun z => gb (fI z)) (j_455.2.1 110 (by decide) (by omega))).symm.trans (congrArg (fun z => gb (fI z)) (JR.same jr_468 (by decide) (by decide) (fun k => (nfc (by omega) (nfc (by omega) nf0))))).symm))), (congrArg (fun z => rs (fI z)) (jr_468.2.1 17 (Or.inl (by decide)) (by omega))).trans ((congrArg (fun z => rs (fI z)) (JW.same j_455 (by decide) (fun k => (nfc (by omega) (nfc (by omega) (nfc (by omega) (nfc (by omega) nf0))))))).trans ((hrl.2.2.2.2.2.2.2).trans ((congrArg (fun z => rs (fI z)) (j_455.2.1 104 (by decide) (by omega))).symm.trans (congrArg (fun z => rs (fI z)) (JR.same jr_468 (by decide) (by decide) (fun k => (nfc (by omega) (nfc (by omega) nf0))))).symm)))⟩
      refine aw_pop dL_law_882 rfl ?_
      refine aw_goto (tgt := 981) dL_law_883 (by decide) ?_
      refine aw_iinc (v := (nI (i + 6))) (ls' := [some (.ref b9), some (.ref (b + 0)), some (.ref (b + 100)), some (.int (nI (i + 6)))]) dL_law_981 rfl (nI_add i 6) (Nat.le_of_ble_eq_true rfl) rfl ?_
      refine aw_goto (tgt := 18) dL_law_984 (by decide) ?_
      refine mih (M + 6 - (i + 6)) (by omega) (i + 6) N cl V_464 _ _ rfl (by omega) ?_ ?_ (by omega) cw_465 cr_466 wf_467 rl_469 <;> omega
    · skip
      refine aw_tableIn (off := 853) (tgt := 886) dL_law_33 (by decide) (by decide) (by decide) (by decide) ?_
      refine aw_aload_n dL_law_886 rfl ?_
      refine aw_aload_n dL_law_887 rfl ?_
      refine aw_iload_n dL_law_888 rfl ?_
      refine aw_iconst (v := 1) dL_law_889 (by decide) ?_
      refine aw_iadd dL_law_890 ?_
      refine aw_eqi (y := nI (i + 1)) (nI_add _ _) ?_
      refine aw_sld dL_law_891 rfl (vp_in_nI (n := (i + 1)) (by omega) (by omega)) ?_
      refine aw_callVi (J' := jX11_seed) (As := [.int (xs ((nI (i + 1))).toNatClampNeg)]) (st := []) dL_law_892 tb_999 ok_X11_seed ⟨_, (CW.o0 hcw).choose_spec⟩ (by omega) rfl rfl (g_X11_seed l D b N V (by omega) hcw (xs ((nI (i + 1))).toNatClampNeg)) rfl (Nat.le_of_ble_eq_true rfl) ⟨Nat.le_of_ble_eq_true rfl, Nat.le_of_ble_eq_true rfl, (show _ ≤ 600000 from by omega), (show _ ≤ 7302250 from by omega)⟩ (fun r_482 N_483 V_475 q_484 => ?_)
      obtain ⟨_, rfl, j_476⟩ := q_484
      have cw_479 := j_476.1
      have cr_480 := CR.fr hcr (fun i h1 h2 => j_476.2.1 i h1 (by omega))
      have wf_481 := WF.fr hwf (fun i h1 h2 => j_476.2.1 i (by omega) (by omega))
      refine aw_pop dL_law_895 rfl ?_
      refine aw_aload_n dL_law_896 rfl ?_
      refine aw_aload_n dL_law_897 rfl ?_
      refine aw_iload_n dL_law_898 rfl ?_
      refine aw_iconst (v := 1) dL_law_899 (by decide) ?_
      refine aw_iadd dL_law_900 ?_
      refine aw_eqi (y := nI (i + 1)) (nI_add _ _) ?_
      refine aw_sld dL_law_901 rfl (vp_in_nI (n := (i + 1)) (by omega) (by omega)) ?_
      refine aw_callVi (J' := jX12_seed) (As := [.int (xs ((nI (i + 1))).toNatClampNeg)]) (st := []) dL_law_902 tb_1601 ok_X12_seed ⟨_, (CR.o100 cr_480).choose_spec⟩ (by omega) rfl rfl (r_seed l D b N V_475 (by omega) cl cr_480 (xs ((nI (i + 1))).toNatClampNeg)) rfl (Nat.le_of_ble_eq_true rfl) ⟨Nat.le_of_ble_eq_true rfl, Nat.le_of_ble_eq_true rfl, (show _ ≤ 600000 from by omega), (show _ ≤ 7302250 from by omega)⟩ (fun r_491 N_492 V_485 q_493 => ?_)
      obtain ⟨_, rfl, jr_489⟩ := q_493
      have cr_487 := jr_489.1
      have cw_486 := CW.out cw_479 (fun i hi => jr_489.2.1 i (Or.inl hi) (by omega))
      have wf_488 := WF.fr wf_481 jr_489.2.2.1
      have rl_490 : RLs V_485 := ⟨(congrArg (fun z => fI z 4) (jr_489.2.1 0 (Or.inl (by decide)) (by omega))).trans ((JW.fI j_476 (by decide) (by decide) : fI (V_475 0) 4 = fI (V 0) 4).trans ((hrl.1).trans ((congrArg (fun z => fI z 51) (j_476.2.1 100 (by decide) (by omega))).symm.trans (JR.fI jr_489 (by decide) (by decide) (by decide) : fI (V_485 100) 51 = fI (V_475 100) 51).symm))), (congrArg (fun z => fI z 7) (jr_489.2.1 3 (Or.inl (by decide)) (by omega))).trans ((JW.fI j_476 (by decide) (by decide) : fI (V_475 3) 7 = fI (V 3) 7).trans ((hrl.2.1).trans ((congrArg (fun z => fI z 208) (j_476.2.1 101 (by decide) (by omega))).symm.trans (JR.fI jr_489 (by decide) (by decide) (by decide) : fI (V_485 101) 208 = fI (V_475 101) 208).symm))), (congrArg (fun z => fI z 7) (jr_489.2.1 39 (Or.inl (by decide)) (by omega))).trans ((JW.fI j_476 (by decide) (by decide) : fI (V_475 39) 7 = fI (V 39) 7).trans ((hrl.2.2.1).trans ((congrArg (fun z => fI z 208) (j_476.2.1 103 (by decide) (by omega))).symm.trans (JR.fI jr_489 (by decide) (by decide) (by decide) : fI (V_485 103) 208 = fI (V_475 103) 208).symm))), (congrArg (fun z => fI z 1) (jr_489.2.1 1 (Or.inl (by decide)) (by omega))).trans ((JW.fI j_476 (by decide) (by decide) : fI (V_475 1) 1 = fI (V 1) 1).trans ((hrl.2.2.2.1).trans ((congrArg (fun z => fI z 13) (j_476.2.1 100 (by decide) (by omega))).symm.trans (JR.fI jr_489 (by decide) (by decide) (by decide) : fI (V_485 100) 13 = fI (V_475 100) 13).symm))), (congrArg (fun z => fI z 5) (jr_489.2.1 3 (Or.inl (by decide)) (by omega))).trans ((JW.fI j_476 (by decide) (by decide) : fI (V_475 3) 5 = fI (V 3) 5).trans ((hrl.2.2.2.2.1).trans ((congrArg (fun z => fI z 9) (j_476.2.1 100 (by decide) (by omega))).symm.trans (JR.fI jr_489 (by decide) (by decide) (by decide) : fI (V_485 100) 9 = fI (V_475 100) 9).symm))), (congrArg (fun z => fI z 6) (jr_489.2.1 3 (Or.inl (by decide)) (by omega))).trans ((JW.fI j_476 (by decide) (by decide) : fI (V_475 3) 6 = fI (V 3) 6).trans ((hrl.2.2.2.2.2.1).trans ((congrArg (fun z => fI z 10) (j_476.2.1 100 (by decide) (by omega))).symm.trans (JR.fI jr_489 (by decide) (by decide) (by decide) : fI (V_485 100) 10 = fI (V_475 100) 10).symm))), (congrArg fI (jr_489.2.1 2 (Or.inl (by decide)) (by omega))).trans ((congrArg fI (JW.same j_476 (by decide) (fun k => (nfc (by omega) nf0)))).trans ((hrl.2.2.2.2.2.2.1).trans ((congrArg (fun z => gb (fI z)) (j_476.2.1 110 (by decide) (by omega))).symm.trans (congrArg (fun z => gb (fI z)) (JR.same jr_489 (by decide) (by decide) (fun k => (nfc (by omega) nf0)))).symm))), (congrArg (fun z => rs (fI z)) (jr_489.2.1 17 (Or.inl (by decide)) (by omega))).trans ((congrArg (fun z => rs (fI z)) (JW.same j_476 (by decide) (fun k => (nfc (by omega) nf0)))).trans ((hrl.2.2.2.2.2.2.2).trans ((congrArg (fun z => rs (fI z)) (j_476.2.1 104 (by decide) (by omega))).symm.trans (congrArg (fun z => rs (fI z)) (JR.same jr_489 (by decide) (by decide) (fun k => (nfc (by omega) nf0)))).symm)))⟩
      refine aw_pop dL_law_905 rfl ?_
      refine aw_goto (tgt := 981) dL_law_906 (by decide) ?_
      refine aw_iinc (v := (nI (i + 6))) (ls' := [some (.ref b9), some (.ref (b + 0)), some (.ref (b + 100)), some (.int (nI (i + 6)))]) dL_law_981 rfl (nI_add i 6) (Nat.le_of_ble_eq_true rfl) rfl ?_
      refine aw_goto (tgt := 18) dL_law_984 (by decide) ?_
      refine mih (M + 6 - (i + 6)) (by omega) (i + 6) N cl V_485 _ _ rfl (by omega) ?_ ?_ (by omega) cw_486 cr_487 wf_488 rl_490 <;> omega
    · skip
      refine aw_tableIn (off := 876) (tgt := 909) dL_law_33 (by decide) (by decide) (by decide) (by decide) ?_
      refine aw_aload_n dL_law_909 rfl ?_
      refine aw_callVi (J' := jX11_keep) (As := []) (st := []) dL_law_910 tb_1003 ok_X11_keep ⟨_, (CW.o0 hcw).choose_spec⟩ (by omega) rfl rfl (g_X11_keepK l D b N V (by omega) hcw) rfl (Nat.le_of_ble_eq_true rfl) ⟨Nat.le_of_ble_eq_true rfl, Nat.le_of_ble_eq_true rfl, (show _ ≤ 600000 from by omega), (show _ ≤ 7302250 from by omega)⟩ (fun r_502 N_503 V_494 q_504 => ?_)
      obtain ⟨hk_495, rfl, j_496⟩ := q_504
      have cw_499 := j_496.1
      have cr_500 := CR.fr hcr (fun i h1 h2 => j_496.2.1 i h1 (by omega))
      have wf_501 := WF.fr hwf (fun i h1 h2 => j_496.2.1 i (by omega) (by omega))
      refine aw_pop dL_law_913 rfl ?_
      refine aw_aload_n dL_law_914 rfl ?_
      refine aw_callVi (J' := jX12_keep) (As := []) (st := []) dL_law_915 tb_1605 ok_X12_keep ⟨_, (CR.o100 cr_500).choose_spec⟩ (by omega) rfl rfl (r_keepK l D b N V_494 (by omega) cl cr_500) rfl (Nat.le_of_ble_eq_true rfl) ⟨Nat.le_of_ble_eq_true rfl, Nat.le_of_ble_eq_true rfl, (show _ ≤ 600000 from by omega), (show _ ≤ 7302250 from by omega)⟩ (fun r_513 N_514 V_505 q_515 => ?_)
      obtain ⟨gk_511, rfl, jr_509⟩ := q_515
      have cr_507 := jr_509.1
      have cw_506 := CW.out cw_499 (fun i hi => jr_509.2.1 i (Or.inl hi) (by omega))
      have wf_508 := WF.fr wf_501 jr_509.2.2.1
      have e_512 : fI (V_494 101) 208 = fI (V 3) 7 := (congrArg (fun z => fI z 208) (j_496.2.1 101 (by decide) (by omega))).trans (hrl.2.1).symm
      have rl_510 : RLs V_505 := ⟨(congrArg (fun z => fI z 4) (jr_509.2.1 0 (Or.inl (by decide)) (by omega))).trans (hk_495.2.2.trans gk_511.2.2.symm), (congrArg (fun z => fI z 7) (jr_509.2.1 3 (Or.inl (by decide)) (by omega))).trans ((JW.fI j_496 (by decide) (by decide) : fI (V_494 3) 7 = fI (V 3) 7).trans ((hrl.2.1).trans ((congrArg (fun z => fI z 208) (j_496.2.1 101 (by decide) (by omega))).symm.trans (JR.fI jr_509 (by decide) (by decide) (by decide) : fI (V_505 101) 208 = fI (V_494 101) 208).symm))), (congrArg (fun z => fI z 7) (jr_509.2.1 39 (Or.inl (by decide)) (by omega))).trans (hk_495.2.1.trans (e_512.symm.trans gk_511.2.1.symm)), (congrArg (fun z => fI z 1) (jr_509.2.1 1 (Or.inl (by decide)) (by omega))).trans ((JW.fI j_496 (by decide) (by decide) : fI (V_494 1) 1 = fI (V 1) 1).trans ((hrl.2.2.2.1).trans ((congrArg (fun z => fI z 13) (j_496.2.1 100 (by decide) (by omega))).symm.trans (JR.fI jr_509 (by decide) (by decide) (by decide) : fI (V_505 100) 13 = fI (V_494 100) 13).symm))), (congrArg (fun z => fI z 5) (jr_509.2.1 3 (Or.inl (by decide)) (by omega))).trans ((JW.fI j_496 (by decide) (by decide) : fI (V_494 3) 5 = fI (V 3) 5).trans ((hrl.2.2.2.2.1).trans ((congrArg (fun z => fI z 9) (j_496.2.1 100 (by decide) (by omega))).symm.trans (JR.fI jr_509 (by decide) (by decide) (by decide) : fI (V_505 100) 9 = fI (V_494 100) 9).symm))), (congrArg (fun z => fI z 6) (jr_509.2.1 3 (Or.inl (by decide)) (by omega))).trans ((JW.fI j_496 (by decide) (by decide) : fI (V_494 3) 6 = fI (V 3) 6).trans ((hrl.2.2.2.2.2.1).trans ((congrArg (fun z => fI z 10) (j_496.2.1 100 (by decide) (by omega))).symm.trans (JR.fI jr_509 (by decide) (by decide) (by decide) : fI (V_505 100) 10 = fI (V_494 100) 10).symm))), (congrArg fI (jr_509.2.1 2 (Or.inl (by decide)) (by omega))).trans ((congrArg fI (JW.same j_496 (by decide) (fun k => (nfc (by omega) (nfc (by omega) (nfc (by omega) (nfc (by omega) (nfc (by omega) (nfc (by omega) nf0))))))))).trans ((hrl.2.2.2.2.2.2.1).trans ((congrArg (fun z => gb (fI z)) (j_496.2.1 110 (by decide) (by omega))).symm.trans (congrArg (fun z => gb (fI z)) (JR.same jr_509 (by decide) (by decide) (fun k => (nfc (by omega) (nfc (by omega) nf0))))).symm))), (congrArg (fun z => rs (fI z)) (jr_509.2.1 17 (Or.inl (by decide)) (by omega))).trans ((congrArg (fun z => rs (fI z)) (JW.same j_496 (by decide) (fun k => (nfc (by omega) (nfc (by omega) (nfc (by omega) (nfc (by omega) (nfc (by omega) (nfc (by omega) nf0))))))))).trans ((hrl.2.2.2.2.2.2.2).trans ((congrArg (fun z => rs (fI z)) (j_496.2.1 104 (by decide) (by omega))).symm.trans (congrArg (fun z => rs (fI z)) (JR.same jr_509 (by decide) (by decide) (fun k => (nfc (by omega) (nfc (by omega) nf0))))).symm)))⟩
      refine aw_pop dL_law_918 rfl ?_
      refine aw_goto (tgt := 981) dL_law_919 (by decide) ?_
      refine aw_iinc (v := (nI (i + 6))) (ls' := [some (.ref b9), some (.ref (b + 0)), some (.ref (b + 100)), some (.int (nI (i + 6)))]) dL_law_981 rfl (nI_add i 6) (Nat.le_of_ble_eq_true rfl) rfl ?_
      refine aw_goto (tgt := 18) dL_law_984 (by decide) ?_
      refine mih (M + 6 - (i + 6)) (by omega) (i + 6) N cl V_505 _ _ rfl (by omega) ?_ ?_ (by omega) cw_506 cr_507 wf_508 rl_510 <;> omega
    · skip
      refine aw_tableIn (off := 889) (tgt := 922) dL_law_33 (by decide) (by decide) (by decide) (by decide) ?_
      refine aw_aload_n dL_law_922 rfl ?_
      refine aw_callVi (J' := jX11_undo) (As := []) (st := []) dL_law_923 tb_1007 ok_X11_undo ⟨_, (CW.o0 hcw).choose_spec⟩ (by omega) rfl rfl (g_X11_undoK l D b N V (by omega) hcw) rfl (Nat.le_of_ble_eq_true rfl) ⟨Nat.le_of_ble_eq_true rfl, Nat.le_of_ble_eq_true rfl, (show _ ≤ 600000 from by omega), (show _ ≤ 7302250 from by omega)⟩ (fun r_524 N_525 V_516 q_526 => ?_)
      obtain ⟨⟨_, hu_517⟩, rfl, j_518⟩ := q_526
      have cw_521 := j_518.1
      have cr_522 := CR.fr hcr (fun i h1 h2 => j_518.2.1 i h1 (by omega))
      have wf_523 := WF.fr hwf (fun i h1 h2 => j_518.2.1 i (by omega) (by omega))
      refine aw_pop dL_law_926 rfl ?_
      refine aw_aload_n dL_law_927 rfl ?_
      refine aw_callVi (J' := jX12_undo) (As := []) (st := []) dL_law_928 tb_1609 ok_X12_undo ⟨_, (CR.o100 cr_522).choose_spec⟩ (by omega) rfl rfl (r_undoK l D b N V_516 (by omega) cl cr_522) rfl (Nat.le_of_ble_eq_true rfl) ⟨Nat.le_of_ble_eq_true rfl, Nat.le_of_ble_eq_true rfl, (show _ ≤ 600000 from by omega), (show _ ≤ 7302250 from by omega)⟩ (fun r_538 N_539 V_527 q_540 => ?_)
      obtain ⟨⟨_, gu_533⟩, rfl, jr_531⟩ := q_540
      have cr_529 := jr_531.1
      have cw_528 := CW.out cw_521 (fun i hi => jr_531.2.1 i (Or.inl hi) (by omega))
      have wf_530 := WF.fr wf_523 jr_531.2.2.1
      have e_534 : fI (V_516 100) 51 = fI (V 0) 4 := (congrArg (fun z => fI z 51) (j_518.2.1 100 (by decide) (by omega))).trans (hrl.1).symm
      have e_535 : fI (V_516 101) 208 = fI (V 3) 7 := (congrArg (fun z => fI z 208) (j_518.2.1 101 (by decide) (by omega))).trans (hrl.2.1).symm
      have e_536 : fI (V_516 103) 208 = fI (V 39) 7 := (congrArg (fun z => fI z 208) (j_518.2.1 103 (by decide) (by omega))).trans (hrl.2.2.1).symm
      rw [e_534, e_535, e_536] at gu_533
      have o_537 := UND.one hu_517 gu_533
      have rl_532 : RLs V_527 := ⟨(congrArg (fun z => fI z 4) (jr_531.2.1 0 (Or.inl (by decide)) (by omega))).trans ((JW.fI j_518 (by decide) (by decide) : fI (V_516 0) 4 = fI (V 0) 4).trans ((hrl.1).trans ((congrArg (fun z => fI z 51) (j_518.2.1 100 (by decide) (by omega))).symm.trans (JR.fI jr_531 (by decide) (by decide) (by decide) : fI (V_527 100) 51 = fI (V_516 100) 51).symm))), (congrArg (fun z => fI z 7) (jr_531.2.1 3 (Or.inl (by decide)) (by omega))).trans o_537.2, (congrArg (fun z => fI z 7) (jr_531.2.1 39 (Or.inl (by decide)) (by omega))).trans ((JW.fI j_518 (by decide) (by decide) : fI (V_516 39) 7 = fI (V 39) 7).trans ((hrl.2.2.1).trans ((congrArg (fun z => fI z 208) (j_518.2.1 103 (by decide) (by omega))).symm.trans (JR.fI jr_531 (by decide) (by decide) (by decide) : fI (V_527 103) 208 = fI (V_516 103) 208).symm))), (congrArg (fun z => fI z 1) (jr_531.2.1 1 (Or.inl (by decide)) (by omega))).trans ((JW.fI j_518 (by decide) (by decide) : fI (V_516 1) 1 = fI (V 1) 1).trans ((hrl.2.2.2.1).trans ((congrArg (fun z => fI z 13) (j_518.2.1 100 (by decide) (by omega))).symm.trans (JR.fI jr_531 (by decide) (by decide) (by decide) : fI (V_527 100) 13 = fI (V_516 100) 13).symm))), (congrArg (fun z => fI z 5) (jr_531.2.1 3 (Or.inl (by decide)) (by omega))).trans ((JW.fI j_518 (by decide) (by decide) : fI (V_516 3) 5 = fI (V 3) 5).trans ((hrl.2.2.2.2.1).trans ((congrArg (fun z => fI z 9) (j_518.2.1 100 (by decide) (by omega))).symm.trans (JR.fI jr_531 (by decide) (by decide) (by decide) : fI (V_527 100) 9 = fI (V_516 100) 9).symm))), (congrArg (fun z => fI z 6) (jr_531.2.1 3 (Or.inl (by decide)) (by omega))).trans ((JW.fI j_518 (by decide) (by decide) : fI (V_516 3) 6 = fI (V 3) 6).trans ((hrl.2.2.2.2.2.1).trans ((congrArg (fun z => fI z 10) (j_518.2.1 100 (by decide) (by omega))).symm.trans (JR.fI jr_531 (by decide) (by decide) (by decide) : fI (V_527 100) 10 = fI (V_516 100) 10).symm))), (congrArg fI (jr_531.2.1 2 (Or.inl (by decide)) (by omega))).trans ((congrArg fI (JW.same j_518 (by decide) (fun k => (nfc (by omega) (nfc (by omega) (nfc (by omega) (nfc (by omega) nf0))))))).trans ((hrl.2.2.2.2.2.2.1).trans ((congrArg (fun z => gb (fI z)) (j_518.2.1 110 (by decide) (by omega))).symm.trans (congrArg (fun z => gb (fI z)) (JR.same jr_531 (by decide) (by decide) (fun k => (nfc (by omega) nf0)))).symm))), (congrArg (fun z => rs (fI z)) (jr_531.2.1 17 (Or.inl (by decide)) (by omega))).trans ((congrArg (fun z => rs (fI z)) (JW.same j_518 (by decide) (fun k => (nfc (by omega) (nfc (by omega) (nfc (by omega) (nfc (by omega) nf0))))))).trans ((hrl.2.2.2.2.2.2.2).trans ((congrArg (fun z => rs (fI z)) (j_518.2.1 104 (by decide) (by omega))).symm.trans (congrArg (fun z => rs (fI z)) (JR.same jr_531 (by decide) (by decide) (fun k => (nfc (by omega) nf0)))).symm)))⟩
      refine aw_pop dL_law_931 rfl ?_
      refine aw_goto (tgt := 981) dL_law_932 (by decide) ?_
      refine aw_iinc (v := (nI (i + 6))) (ls' := [some (.ref b9), some (.ref (b + 0)), some (.ref (b + 100)), some (.int (nI (i + 6)))]) dL_law_981 rfl (nI_add i 6) (Nat.le_of_ble_eq_true rfl) rfl ?_
      refine aw_goto (tgt := 18) dL_law_984 (by decide) ?_
      refine mih (M + 6 - (i + 6)) (by omega) (i + 6) N cl V_527 _ _ rfl (by omega) ?_ ?_ (by omega) cw_528 cr_529 wf_530 rl_532 <;> omega
    · skip
      refine aw_tableIn (off := 902) (tgt := 935) dL_law_33 (by decide) (by decide) (by decide) (by decide) ?_
      refine aw_aload_n dL_law_935 rfl ?_
      refine aw_aload_n dL_law_936 rfl ?_
      refine aw_iload_n dL_law_937 rfl ?_
      refine aw_iconst (v := 1) dL_law_938 (by decide) ?_
      refine aw_iadd dL_law_939 ?_
      refine aw_eqi (y := nI (i + 1)) (nI_add _ _) ?_
      refine aw_sld dL_law_940 rfl (vp_in_nI (n := (i + 1)) (by omega) (by omega)) ?_
      refine aw_callVi (J' := jX11_check) (As := [.int (xs ((nI (i + 1))).toNatClampNeg)]) (st := []) dL_law_941 tb_1015 ok_X11_check ⟨_, (CW.o0 hcw).choose_spec⟩ (by omega) rfl rfl (g_X11_checkK l D b N V (by omega) hcw (xs ((nI (i + 1))).toNatClampNeg)) rfl (Nat.le_of_ble_eq_true rfl) ⟨Nat.le_of_ble_eq_true rfl, Nat.le_of_ble_eq_true rfl, (show _ ≤ 600000 from by omega), (show _ ≤ 7302250 from by omega)⟩ (fun r_549 N_550 V_541 q_551 => ?_)
      obtain ⟨hs_542, rfl, j_543⟩ := q_551
      have cw_546 := j_543.1
      have cr_547 := CR.fr hcr (fun i h1 h2 => j_543.2.1 i h1 (by omega))
      have wf_548 := WF.fr hwf (fun i h1 h2 => j_543.2.1 i (by omega) (by omega))
      refine aw_pop dL_law_944 rfl ?_
      refine aw_aload_n dL_law_945 rfl ?_
      refine aw_aload_n dL_law_946 rfl ?_
      refine aw_iload_n dL_law_947 rfl ?_
      refine aw_iconst (v := 1) dL_law_948 (by decide) ?_
      refine aw_iadd dL_law_949 ?_
      refine aw_eqi (y := nI (i + 1)) (nI_add _ _) ?_
      refine aw_sld dL_law_950 rfl (vp_in_nI (n := (i + 1)) (by omega) (by omega)) ?_
      refine aw_callVi (J' := jX12_check) (As := [.int (xs ((nI (i + 1))).toNatClampNeg)]) (st := []) dL_law_951 tb_1613 ok_X12_check ⟨_, (CR.o100 cr_547).choose_spec⟩ (by omega) rfl rfl (r_checkK l D b N V_541 (by omega) cl cr_547 (xs ((nI (i + 1))).toNatClampNeg) (xs ((nI (i + 1))).toNatClampNeg) rfl) rfl (Nat.le_of_ble_eq_true rfl) ⟨Nat.le_of_ble_eq_true rfl, Nat.le_of_ble_eq_true rfl, (show _ ≤ 600000 from by omega), (show _ ≤ 7302250 from by omega)⟩ (fun r_560 N_561 V_552 q_562 => ?_)
      obtain ⟨gs_558, rfl, jr_556⟩ := q_562
      have cr_554 := jr_556.1
      have cw_553 := CW.out cw_546 (fun i hi => jr_556.2.1 i (Or.inl hi) (by omega))
      have wf_555 := WF.fr wf_548 jr_556.2.2.1
      have e_559 : fI (V_541 100) 13 = fI (V 1) 1 := (congrArg (fun z => fI z 13) (j_543.2.1 100 (by decide) (by omega))).trans (hrl.2.2.2.1).symm
      rw [e_559] at gs_558
      have rl_557 : RLs V_552 := ⟨(congrArg (fun z => fI z 4) (jr_556.2.1 0 (Or.inl (by decide)) (by omega))).trans ((JW.fI j_543 (by decide) (by decide) : fI (V_541 0) 4 = fI (V 0) 4).trans ((hrl.1).trans ((congrArg (fun z => fI z 51) (j_543.2.1 100 (by decide) (by omega))).symm.trans (JR.fI jr_556 (by decide) (by decide) (by decide) : fI (V_552 100) 51 = fI (V_541 100) 51).symm))), (congrArg (fun z => fI z 7) (jr_556.2.1 3 (Or.inl (by decide)) (by omega))).trans ((JW.fI j_543 (by decide) (by decide) : fI (V_541 3) 7 = fI (V 3) 7).trans ((hrl.2.1).trans ((congrArg (fun z => fI z 208) (j_543.2.1 101 (by decide) (by omega))).symm.trans (JR.fI jr_556 (by decide) (by decide) (by decide) : fI (V_552 101) 208 = fI (V_541 101) 208).symm))), (congrArg (fun z => fI z 7) (jr_556.2.1 39 (Or.inl (by decide)) (by omega))).trans ((JW.fI j_543 (by decide) (by decide) : fI (V_541 39) 7 = fI (V 39) 7).trans ((hrl.2.2.1).trans ((congrArg (fun z => fI z 208) (j_543.2.1 103 (by decide) (by omega))).symm.trans (JR.fI jr_556 (by decide) (by decide) (by decide) : fI (V_552 103) 208 = fI (V_541 103) 208).symm))), (congrArg (fun z => fI z 1) (jr_556.2.1 1 (Or.inl (by decide)) (by omega))).trans (TKS.one hs_542 gs_558), (congrArg (fun z => fI z 5) (jr_556.2.1 3 (Or.inl (by decide)) (by omega))).trans ((JW.fI j_543 (by decide) (by decide) : fI (V_541 3) 5 = fI (V 3) 5).trans ((hrl.2.2.2.2.1).trans ((congrArg (fun z => fI z 9) (j_543.2.1 100 (by decide) (by omega))).symm.trans (JR.fI jr_556 (by decide) (by decide) (by decide) : fI (V_552 100) 9 = fI (V_541 100) 9).symm))), (congrArg (fun z => fI z 6) (jr_556.2.1 3 (Or.inl (by decide)) (by omega))).trans ((JW.fI j_543 (by decide) (by decide) : fI (V_541 3) 6 = fI (V 3) 6).trans ((hrl.2.2.2.2.2.1).trans ((congrArg (fun z => fI z 10) (j_543.2.1 100 (by decide) (by omega))).symm.trans (JR.fI jr_556 (by decide) (by decide) (by decide) : fI (V_552 100) 10 = fI (V_541 100) 10).symm))), (congrArg fI (jr_556.2.1 2 (Or.inl (by decide)) (by omega))).trans ((congrArg fI (JW.same j_543 (by decide) (fun k => (nfc (by omega) (nfc (by omega) (nfc (by omega) (nfc (by omega) nf0))))))).trans ((hrl.2.2.2.2.2.2.1).trans ((congrArg (fun z => gb (fI z)) (j_543.2.1 110 (by decide) (by omega))).symm.trans (congrArg (fun z => gb (fI z)) (JR.same jr_556 (by decide) (by decide) (fun k => (nfc (by omega) nf0)))).symm))), (congrArg (fun z => rs (fI z)) (jr_556.2.1 17 (Or.inl (by decide)) (by omega))).trans ((congrArg (fun z => rs (fI z)) (JW.same j_543 (by decide) (fun k => (nfc (by omega) (nfc (by omega) (nfc (by omega) (nfc (by omega) nf0))))))).trans ((hrl.2.2.2.2.2.2.2).trans ((congrArg (fun z => rs (fI z)) (j_543.2.1 104 (by decide) (by omega))).symm.trans (congrArg (fun z => rs (fI z)) (JR.same jr_556 (by decide) (by decide) (fun k => (nfc (by omega) nf0)))).symm)))⟩
      refine aw_pop dL_law_954 rfl ?_
      refine aw_goto (tgt := 981) dL_law_955 (by decide) ?_
      refine aw_iinc (v := (nI (i + 6))) (ls' := [some (.ref b9), some (.ref (b + 0)), some (.ref (b + 100)), some (.int (nI (i + 6)))]) dL_law_981 rfl (nI_add i 6) (Nat.le_of_ble_eq_true rfl) rfl ?_
      refine aw_goto (tgt := 18) dL_law_984 (by decide) ?_
      refine mih (M + 6 - (i + 6)) (by omega) (i + 6) N cl V_552 _ _ rfl (by omega) ?_ ?_ (by omega) cw_553 cr_554 wf_555 rl_557 <;> omega
    · skip
      refine aw_tableIn (off := 925) (tgt := 958) dL_law_33 (by decide) (by decide) (by decide) (by decide) ?_
      refine aw_aload_n dL_law_958 rfl ?_
      refine aw_aload_n dL_law_959 rfl ?_
      refine aw_iload_n dL_law_960 rfl ?_
      refine aw_iconst (v := 1) dL_law_961 (by decide) ?_
      refine aw_iadd dL_law_962 ?_
      refine aw_eqi (y := nI (i + 1)) (nI_add _ _) ?_
      refine aw_sld dL_law_963 rfl (vp_in_nI (n := (i + 1)) (by omega) (by omega)) ?_
      refine aw_callVi (J' := jX11_count) (As := [.int (xs ((nI (i + 1))).toNatClampNeg)]) (st := []) dL_law_964 tb_1019 ok_X11_count ⟨_, (CW.o0 hcw).choose_spec⟩ (by omega) rfl rfl (g_X11_count l D b N V (by omega) hcw (xs ((nI (i + 1))).toNatClampNeg)) rfl (Nat.le_of_ble_eq_true rfl) ⟨Nat.le_of_ble_eq_true rfl, Nat.le_of_ble_eq_true rfl, (show _ ≤ 600000 from by omega), (show _ ≤ 7302250 from by omega)⟩ (fun r_564 N_565 V_566 q_567 => ?_)
      obtain ⟨rfl, rfl⟩ := q_567
      refine aw_pop dL_law_967 rfl ?_
      refine aw_aload_n dL_law_968 rfl ?_
      refine aw_aload_n dL_law_969 rfl ?_
      refine aw_iload_n dL_law_970 rfl ?_
      refine aw_iconst (v := 1) dL_law_971 (by decide) ?_
      refine aw_iadd dL_law_972 ?_
      refine aw_eqi (y := nI (i + 1)) (nI_add _ _) ?_
      refine aw_sld dL_law_973 rfl (vp_in_nI (n := (i + 1)) (by omega) (by omega)) ?_
      refine aw_callVi (J' := jX12_count) (As := [.int (xs ((nI (i + 1))).toNatClampNeg)]) (st := []) dL_law_974 tb_1617 ok_X12_count ⟨_, (CR.o100 hcr).choose_spec⟩ (by omega) rfl rfl (r_count l D b N V (by omega) cl hcr (xs ((nI (i + 1))).toNatClampNeg)) rfl (Nat.le_of_ble_eq_true rfl) ⟨Nat.le_of_ble_eq_true rfl, Nat.le_of_ble_eq_true rfl, (show _ ≤ 600000 from by omega), (show _ ≤ 7302250 from by omega)⟩ (fun r_574 N_575 V_576 q_577 => ?_)
      obtain ⟨rfl, rfl⟩ := q_577
      refine aw_pop dL_law_977 rfl ?_
      refine aw_goto (tgt := 981) dL_law_978 (by decide) ?_
      refine aw_iinc (v := (nI (i + 6))) (ls' := [some (.ref b9), some (.ref (b + 0)), some (.ref (b + 100)), some (.int (nI (i + 6)))]) dL_law_981 rfl (nI_add i 6) (Nat.le_of_ble_eq_true rfl) rfl ?_
      refine aw_goto (tgt := 18) dL_law_984 (by decide) ?_
      refine mih (M + 6 - (i + 6)) (by omega) (i + 6) N cl V _ _ rfl (by omega) ?_ ?_ (by omega) hcw hcr hwf hrl <;> omega
    · skip
      refine aw_tableOut (tgt := 981) dL_law_33 (Or.inr (by decide)) (by decide) ?_
      refine aw_iinc (v := (nI (i + 6))) (ls' := [some (.ref b9), some (.ref (b + 0)), some (.ref (b + 100)), some (.int (nI (i + 6)))]) dL_law_981 rfl (nI_add i 6) (Nat.le_of_ble_eq_true rfl) rfl ?_
      refine aw_goto (tgt := 18) dL_law_984 (by decide) ?_
      refine mih (M + 6 - (i + 6)) (by omega) (i + 6) N cl V _ _ rfl (by omega) ?_ ?_ (by omega) hcw hcr hwf hrl <;> omega
    · skip
      refine aw_tableOut (tgt := 981) dL_law_33 (Or.inr (by decide)) (by decide) ?_
      refine aw_iinc (v := (nI (i + 6))) (ls' := [some (.ref b9), some (.ref (b + 0)), some (.ref (b + 100)), some (.int (nI (i + 6)))]) dL_law_981 rfl (nI_add i 6) (Nat.le_of_ble_eq_true rfl) rfl ?_
      refine aw_goto (tgt := 18) dL_law_984 (by decide) ?_
      refine mih (M + 6 - (i + 6)) (by omega) (i + 6) N cl V _ _ rfl (by omega) ?_ ?_ (by omega) hcw hcr hwf hrl <;> omega
    · skip
      refine aw_tableOut (tgt := 981) dL_law_33 (Or.inr (by decide)) (by decide) ?_
      refine aw_iinc (v := (nI (i + 6))) (ls' := [some (.ref b9), some (.ref (b + 0)), some (.ref (b + 100)), some (.int (nI (i + 6)))]) dL_law_981 rfl (nI_add i 6) (Nat.le_of_ble_eq_true rfl) rfl ?_
      refine aw_goto (tgt := 18) dL_law_984 (by decide) ?_
      refine mih (M + 6 - (i + 6)) (by omega) (i + 6) N cl V _ _ rfl (by omega) ?_ ?_ (by omega) hcw hcr hwf hrl <;> omega

set_option maxHeartbeats 4000000 in
set_option maxRecDepth 100000 in
theorem law_short (l : Launch) (D : va_G) (b b9 : Nat) (xs : Nat → Int32) (L : Nat) (hL : L < 6) (V : Wd) : AW l D b jL_law room_1 (some (b9, L, xs)) (lawQ b) 0 [some (.ref b9), none, none, none] [] 0 V 0 0 := by
  refine aw_new dL_law_0 nw_L_7 (Nat.le_of_ble_eq_true rfl) (Nat.le_of_ble_eq_true rfl) ?_
  refine aw_dup dL_law_3 rfl ?_
  refine aw_callIv (As := []) (st := [.ref (b + 0)]) dL_law_4 tb_23 ok_X11_init rfl (c_initFearLocks l D b (va_up V 0 (cO 10 [.null, .null, .null, .null, .int 0, .null, .null, .null, .null, .null, .null])) (va_up_self _ _ _)) rfl (Nat.le_of_ble_eq_true rfl) ⟨Nat.le_of_ble_eq_true rfl, Nat.le_of_ble_eq_true rfl, Nat.le_of_ble_eq_true rfl, Nat.le_of_ble_eq_true rfl⟩ (fun  N_3 V_2 q_4 => ?_)
  obtain ⟨rfl, hI_1⟩ := q_4
  refine aw_astore_n (ls' := [some (.ref b9), some (.ref (b + 0)), none, none]) dL_law_7 (Nat.le_of_ble_eq_true rfl) rfl ?_
  refine aw_new dL_law_8 nw_L_10 (Nat.le_of_ble_eq_true rfl) (Nat.le_of_ble_eq_true rfl) ?_
  refine aw_dup dL_law_11 rfl ?_
  refine aw_callIv (As := []) (st := [.ref (b + 100)]) dL_law_12 tb_1034 ok_X12_init rfl (k_init l D b (va_up V_2 100 (cO 11 [.null, .null, .null, .null, .null, .null, .null, .null, .null, .int 0, .int 0, .int 0, .null, .int 0, .int 0, .int 0, .int 0, .int 0, .int 0, .int 0, .int 0, .int 0, .int 0, .null, .null, .null, .null, .null, .null, .null, .null, .null, .null, .null, .null, .null, .int 0, .int 0, .int 0, .int 0, .null, .null, .null, .null, .null, .int 0, .int 0, .null, .null, .null, .null, .int 0])) (va_up_self _ _ _)) rfl (Nat.le_of_ble_eq_true rfl) ⟨Nat.le_of_ble_eq_true rfl, Nat.le_of_ble_eq_true rfl, Nat.le_of_ble_eq_true rfl, Nat.le_of_ble_eq_true rfl⟩ (fun  N_8 V_7 q_9 => ?_)
  obtain ⟨rfl, hM_5, fr_6⟩ := q_9
  refine aw_astore_n (ls' := [some (.ref b9), some (.ref (b + 0)), some (.ref (b + 100)), none]) dL_law_15 (Nat.le_of_ble_eq_true rfl) rfl ?_
  refine aw_iconst (v := 0) dL_law_16 (by decide) ?_
  refine aw_istore_n (ls' := [some (.ref b9), some (.ref (b + 0)), some (.ref (b + 100)), some (.int 0)]) dL_law_17 (Nat.le_of_ble_eq_true rfl) rfl ?_
  refine aw_iload_n dL_law_18 rfl ?_
  refine aw_aload_n dL_law_19 rfl ?_
  refine aw_slen dL_law_20 rfl ?_
  refine aw_eqi (y := (nI L)) rfl ?_
  refine aw_bipush (v := 6) dL_law_21 (by decide) ?_
  refine aw_isub dL_law_23 ?_
  refine aw_icmp_gt (tgt := 987) dL_law_24 (by decide) (fun c_10 => ?_) (fun c_10 => ?_)
  rotate_left
  · exact absurd (fx_L6 L hL) c_10
  refine aw_iconst (v := 1) dL_law_987 (by decide) ?_
  exact aw_lawret dL_law_988 (Nat.le_of_ble_eq_true rfl) (Nat.le_of_ble_eq_true rfl)

set_option maxHeartbeats 4000000 in
set_option maxRecDepth 100000 in
theorem law_six (l : Launch) (D : va_G) (b b9 : Nat) (xs : Nat → Int32) (M : Nat) (hM : M + 6 ≤ 3072) (V : Wd) : AW l D b jL_law room_1 (some (b9, (M + 6), xs)) (lawQ b) 0 [some (.ref b9), none, none, none] [] 0 V 0 0 := by
  refine aw_new dL_law_0 nw_L_7 (Nat.le_of_ble_eq_true rfl) (Nat.le_of_ble_eq_true rfl) ?_
  refine aw_dup dL_law_3 rfl ?_
  refine aw_callIv (As := []) (st := [.ref (b + 0)]) dL_law_4 tb_23 ok_X11_init rfl (c_initFearLocks l D b (va_up V 0 (cO 10 [.null, .null, .null, .null, .int 0, .null, .null, .null, .null, .null, .null])) (va_up_self _ _ _)) rfl (Nat.le_of_ble_eq_true rfl) ⟨Nat.le_of_ble_eq_true rfl, Nat.le_of_ble_eq_true rfl, Nat.le_of_ble_eq_true rfl, Nat.le_of_ble_eq_true rfl⟩ (fun  N_3 V_2 q_4 => ?_)
  obtain ⟨rfl, hI_1⟩ := q_4
  refine aw_astore_n (ls' := [some (.ref b9), some (.ref (b + 0)), none, none]) dL_law_7 (Nat.le_of_ble_eq_true rfl) rfl ?_
  refine aw_new dL_law_8 nw_L_10 (Nat.le_of_ble_eq_true rfl) (Nat.le_of_ble_eq_true rfl) ?_
  refine aw_dup dL_law_11 rfl ?_
  refine aw_callIv (As := []) (st := [.ref (b + 100)]) dL_law_12 tb_1034 ok_X12_init rfl (k_init l D b (va_up V_2 100 (cO 11 [.null, .null, .null, .null, .null, .null, .null, .null, .null, .int 0, .int 0, .int 0, .null, .int 0, .int 0, .int 0, .int 0, .int 0, .int 0, .int 0, .int 0, .int 0, .int 0, .null, .null, .null, .null, .null, .null, .null, .null, .null, .null, .null, .null, .null, .int 0, .int 0, .int 0, .int 0, .null, .null, .null, .null, .null, .int 0, .int 0, .null, .null, .null, .null, .int 0])) (va_up_self _ _ _)) rfl (Nat.le_of_ble_eq_true rfl) ⟨Nat.le_of_ble_eq_true rfl, Nat.le_of_ble_eq_true rfl, Nat.le_of_ble_eq_true rfl, Nat.le_of_ble_eq_true rfl⟩ (fun  N_8 V_7 q_9 => ?_)
  obtain ⟨rfl, hM_5, fr_6⟩ := q_9
  refine aw_astore_n (ls' := [some (.ref b9), some (.ref (b + 0)), some (.ref (b + 100)), none]) dL_law_15 (Nat.le_of_ble_eq_true rfl) rfl ?_
  refine aw_iconst (v := 0) dL_law_16 (by decide) ?_
  refine aw_istore_n (ls' := [some (.ref b9), some (.ref (b + 0)), some (.ref (b + 100)), some (.int 0)]) dL_law_17 (Nat.le_of_ble_eq_true rfl) rfl ?_
  have hfr := fun i (hi : i < 100) => (fr_6 i hi).trans (va_up_ne _ _ (by omega))
  have hcw := CW.out (I0.cw hI_1) hfr
  exact law_loop l D b b9 xs M hM _ 0 133 0 V_7 _ _ rfl (by omega) (Nat.le_of_ble_eq_true rfl) (Nat.le_of_ble_eq_true rfl) (by omega) hcw (M0.cr hM_5).1 (M0.cr hM_5).2 (RLs.init hI_1 hM_5 hfr)
