/-! THE CLAIM OUT OF ONE WALK OF THE LAW'S BODY. Your part is whole_start (and what it stands on); all else here is the same for every law, but numbers. -/
def R_law : String := "FearLocksLaw"
def lw_P (b : Addr) (xs : List Int32) (args : Array Value) (s : State) : Prop := args = #[.ref b] ∧ s.IntsAt b xs ∧ xs.length ≤ 3072 ∧ (Jvm.Cond.and given_1 narrow_1).before args s = true
def lw_Q (_ : Array Value) (s : State) (o : Outcome) (t : State) : Prop := o = .returned (some (.int 1)) ∧ Framed s o t [] 600000 7302250
def lw_Z (below : List Frame) (a : Array Value) (s : State) : State → Prop := fun t => ∃ o, t.status = .running ∧ Ended t below o ∧ lw_Q a s o t
/-- the law's own end, with 1 on the stack, nothing written that was there before, its room as the claim has it -/
theorem lw_ret {p : Program} {l : Launch} {e : Env} {s : State} {m : MethodId} {below : List Frame} {meth : Method} {c : Code} {args : Array Value} (hx : p.tables.exec = Jvm.exec) (hb : c.code = code) (hr : meth.sig.returnType = ret) (hlocks : meth.locks = false) {pc : Nat} {H : Heap} {ls : Array Slot} (hdg : decode code pc = .ok (.ireturn, 1)) : W p l e room_1 s m args below meth c H [] 600000 7302250 (lw_Z below args s) (F0 m pc ls [.int 1]) := by
  intro T hT X
  obtain ⟨fs, hret, hrun, hended, hW, hframe⟩ := X.leave (v := some (.int 1)) (hlocks := hlocks) (fun h => by rw [hr] at h; cases h)
  have hmeth' : T.vm.method? m = some meth := X.method'
  refine ⟨T.setFrames fs, ?_, .returned (some (.int 1)), hrun, hended, rfl, ⟨_, rfl⟩, hW, hframe⟩
  jvm_step X.here [X.here.top, hx, hb, hdg, hmeth', hr, ret, narrow_b1]
  (try refine ⟨rfl, ?_⟩); (try refine ⟨rfl, ?_⟩)
  first | (intro acts; rw [hret _ acts rfl rfl rfl]) | rw [hret _ _ rfl rfl rfl]
  exact Steps.refl _

def jL_law : Md := (yL_law, cL_law, 4, some .boolean)
def lawQ (b : Nat) : Array Value → List Frame → State → State → Prop := fun args below s t => s.heap.size ≤ b → lw_Z below args s t
theorem aw_lawret {l : Launch} {D : va_G} {b : Nat} {X : Sc} {pc : Nat} {ls : List (Option Value)} {N : Nat} {V : Wd} {k n : Nat} (hd : decode code pc = .ok (.ireturn, 1)) (hk : k ≤ 600000) (hn : n ≤ 7302250) : AW l D b jL_law room_1 X (lawQ b) pc ls [.int 1] N V k n := by
  intro p e s m args below meth c H locs arr hC hL hA hS T hT X9
  by_cases hsz : s.heap.size ≤ b
  · obtain ⟨t, a1, q⟩ := va_forget (fun q hq => Nat.le_trans hsz (hS.2.2 q hq)) (W.widen hk hn (lw_ret (args := args) hC.1 hC.2.1 hC.2.2.1 hC.2.2.2.2.2.2.1 (H := H) (ls := arr) hd)) T hT X9
    exact ⟨t, a1, fun _ => q⟩
  · exact ⟨_, Steps.refl _, fun h => absurd h hsz⟩

theorem fx_and31 (x : Int32) : ∃ j : Nat, j < 32 ∧ x &&& 31 = nI j := by
  have e : x = nI x.toBitVec.toNat := by
    apply Int32.toBitVec_inj.mp
    simp [nI]
  refine ⟨x.toBitVec.toNat &&& 31, Nat.lt_of_le_of_lt Nat.and_le_right (by decide), ?_⟩
  rw [← fx_andI, ← e]; rfl
theorem fx_lcmp (x : Int64) : lg_cmp x x = 0 := by
  unfold lg_cmp; simp

theorem fx_L6 : ∀ L : Nat, L < 6 → nI L - 6 < 0 := by decide
theorem fx_law6 {M : Nat} : nI (M + 6) - 6 = nI M := by
  rw [← nI_add]; show nI M + 6 - 6 = nI M
  exact Int32.add_sub_cancel _ _
theorem aw_pop2 {l : Launch} {D : va_G} {b : Nat} {J : Md} {R : Room} {X : Sc} {FQ : Array Value → List Frame → State → State → Prop} {pc : Nat} {ls : List (Option Value)} {st : List Value} {N : Nat} {V : Wd} {k n : Nat} {va : Value} (hd : decode J.2.1 pc = .ok (.pop2, 1)) (hv : va.category = 2) (h : AW l D b J R X FQ (pc + 1) ls (st) N V k n) : AW l D b J R X FQ pc ls (va :: st) N V k n := fun p e s m args below meth c H locs arr hC hL hA hS => lv_pop2_2 hC.1 hC.2.1 hd hv (h p e s m args below meth c H locs arr hC hL hA hS)
theorem CW.o0 {D : va_G} {b : Nat} {V : Wd} (h : CW D b V) : ∃ fs, V 0 = cO 10 fs := by
  obtain ⟨_, _, _, e, _⟩ := h 0 _ rfl; exact ⟨_, e⟩
theorem CR.o100 {D : va_G} {b cl : Nat} {V : Wd} (h : CR D b cl V) : ∃ fs, V 100 = cO 11 fs := by
  obtain ⟨_, _, _, _, _, _, _, _, _, _, _, _, _, _, _, _, _, _, _, e, _⟩ := h 0 _ rfl; exact ⟨_, e⟩
theorem CR.fr {D : va_G} {b cl : Nat} {V V' : Wd} (h : CR D b cl V) (f : ∀ i, 100 ≤ i → i < 133 → V' i = V i) : CR D b cl V' := by
  intro i P hi
  have := (List.getElem?_eq_some_iff.mp hi).1
  rw [ctR_len] at this
  rw [f (100 + i) (by omega) (by omega)]; exact h i P hi

theorem nw_L_10 : fx_nw RL 10 11 [.null, .null, .null, .null, .null, .null, .null, .null, .null, .int 0, .int 0, .int 0, .null, .int 0, .int 0, .int 0, .int 0, .int 0, .int 0, .int 0, .int 0, .int 0, .int 0, .null, .null, .null, .null, .null, .null, .null, .null, .null, .null, .null, .null, .null, .int 0, .int 0, .int 0, .int 0, .null, .null, .null, .null, .null, .int 0, .int 0, .null, .null, .null, .null, .int 0] := ⟨RX12, TX12, 52, tyX12, rfl, uw_X12, tyX12_ok, tb_1032, tb_1033, tb_10, by decide +kernel, rfl⟩

theorem nw_L_7 : fx_nw RL 7 10 [.null, .null, .null, .null, .int 0, .null, .null, .null, .null, .null, .null] := ⟨RX11, TX11, 11, tyX11, rfl, uw_X11, tyX11_ok, tb_21, tb_22, tb_1, by decide +kernel, rfl⟩

set_option maxHeartbeats 20000000 in
set_option maxRecDepth 100000 in
theorem law_loop (l : Launch) (D : va_G) (b b9 : Nat) (xs : Nat → Int32) (M : Nat) (hM : M + 6 ≤ 3072) : ∀ (m i N cl : Nat) (V : Wd) (k n : Nat), m = M + 6 - i → i ≤ M + 6 → k ≤ 200 + i → n ≤ 70000 + 3 * i → 133 ≤ N → CW D b V → CR D b cl V → WF D cl V → RLs V → AW l D b jL_law room_1 (some (b9, (M + 6), xs)) (lawQ b) 18 [some (.ref b9), some (.ref (b + 0)), some (.ref (b + 100)), some (.int (nI i))] [] N V k n := by
  intro m; refine Nat.strongRecOn m ?_
  intro m mih i N cl V k n hm hi hk hn hN hcw hcr hwf hrl
  refine aw_iload_n dL_law_18 rfl ?_
  refine aw_aload_n dL_law_19 rfl ?_
  refine aw_slen dL_law_20 rfl ?_
  refine aw_eqi (y := (nI (M + 6))) rfl ?_
  refine aw_bipush (v := 6) dL_law_21 (by decide) ?_
  refine aw_isub dL_law_23 ?_
  refine aw_eqi (y := (nI M)) fx_law6 ?_
  refine aw_icmp_gt (tgt := 987) dL_law_24 (by decide) (fun c_1 => ?_) (fun c_1 => ?_)
  · skip
    have nc_1 : M < i := (nI_ltI (a := M) (b := i) (by omega) (by omega)).mp c_1
    refine aw_iconst (v := 1) dL_law_987 (by decide) ?_
    exact aw_lawret dL_law_988 (by omega) (by omega)
  · skip
    have nc_1 : ¬ (M < i) := fun z => c_1 ((nI_ltI (a := M) (b := i) (by omega) (by omega)).mpr z)
    refine aw_aload_n dL_law_27 rfl ?_
    refine aw_iload_n dL_law_28 rfl ?_
    refine aw_sld dL_law_29 rfl (vp_in_nI (n := i) (by omega) (by omega)) ?_
    refine aw_bipush (v := 31) dL_law_30 (by decide) ?_
    refine aw_iand dL_law_32 ?_
    obtain ⟨j, hj, ej⟩ := fx_and31 (xs ((nI i)).toNatClampNeg)
    refine aw_eqi ej ?_
    have hj32 : j = 0 ∨ j = 1 ∨ j = 2 ∨ j = 3 ∨ j = 4 ∨ j = 5 ∨ j = 6 ∨ j = 7 ∨ j = 8 ∨ j = 9 ∨ j = 10 ∨ j = 11 ∨ j = 12 ∨ j = 13 ∨ j = 14 ∨ j = 15 ∨ j = 16 ∨ j = 17 ∨ j = 18 ∨ j = 19 ∨ j = 20 ∨ j = 21 ∨ j = 22 ∨ j = 23 ∨ j = 24 ∨ j = 25 ∨ j = 26 ∨ j = 27 ∨ j = 28 ∨ j = 29 ∨ j = 30 ∨ j = 31 := by omega
    rcases hj32 with rfl | rfl | rfl | rfl | rfl | rfl | rfl | rfl | rfl | rfl | rfl | rfl | rfl | rfl | rfl | rfl | rfl | rfl | rfl | rfl | rfl | rfl | rfl | rfl | rfl | rfl | rfl | rfl | rfl | rfl | rfl | rfl
    · skip
      refine aw_tableIn (off := 131) (tgt := 164) dL_law_33 (by decide) (by decide) (by decide) (by decide) ?_
      refine aw_aload_n dL_law_164 rfl ?_
      refine aw_aload_n dL_law_165 rfl ?_
      refine aw_iload_n dL_law_166 rfl ?_
      refine aw_iconst (v := 1) dL_law_167 (by decide) ?_
      refine aw_iadd dL_law_168 ?_
      refine aw_eqi (y := nI (i + 1)) (nI_add _ _) ?_
      refine aw_sld dL_law_169 rfl (vp_in_nI (n := (i + 1)) (by omega) (by omega)) ?_
      refine aw_aload_n dL_law_170 rfl ?_
      refine aw_iload_n dL_law_171 rfl ?_
      refine aw_iconst (v := 2) dL_law_172 (by decide) ?_
      refine aw_iadd dL_law_173 ?_
      refine aw_eqi (y := nI (i + 2)) (nI_add _ _) ?_
      refine aw_sld dL_law_174 rfl (vp_in_nI (n := (i + 2)) (by omega) (by omega)) ?_
      refine aw_aload_n dL_law_175 rfl ?_
      refine aw_iload_n dL_law_176 rfl ?_
      refine aw_iconst (v := 3) dL_law_177 (by decide) ?_
      refine aw_iadd dL_law_178 ?_
      refine aw_eqi (y := nI (i + 3)) (nI_add _ _) ?_
      refine aw_sld dL_law_179 rfl (vp_in_nI (n := (i + 3)) (by omega) (by omega)) ?_
      refine aw_aload_n dL_law_180 rfl ?_
      refine aw_iload_n dL_law_181 rfl ?_
      refine aw_iconst (v := 4) dL_law_182 (by decide) ?_
      refine aw_iadd dL_law_183 ?_
      refine aw_eqi (y := nI (i + 4)) (nI_add _ _) ?_
      refine aw_sld dL_law_184 rfl (vp_in_nI (n := (i + 4)) (by omega) (by omega)) ?_
      refine aw_aload_n dL_law_185 rfl ?_
      refine aw_iload_n dL_law_186 rfl ?_
      refine aw_iconst (v := 5) dL_law_187 (by decide) ?_
      refine aw_iadd dL_law_188 ?_
      refine aw_eqi (y := nI (i + 5)) (nI_add _ _) ?_
      refine aw_sld dL_law_189 rfl (vp_in_nI (n := (i + 5)) (by omega) (by omega)) ?_
      refine aw_callVi (J' := jX11_feed) (As := [.int (xs ((nI (i + 1))).toNatClampNeg), .int (xs ((nI (i + 2))).toNatClampNeg), .int (xs ((nI (i + 3))).toNatClampNeg), .int (xs ((nI (i + 4))).toNatClampNeg), .int (xs ((nI (i + 5))).toNatClampNeg)]) (st := []) dL_law_190 tb_255 ok_X11_feed ⟨_, (CW.o0 hcw).choose_spec⟩ (by omega) rfl rfl (g_X11_feedS l D b N V (by omega) hcw (xs ((nI (i + 1))).toNatClampNeg) (xs ((nI (i + 2))).toNatClampNeg) (xs ((nI (i + 3))).toNatClampNeg) (xs ((nI (i + 4))).toNatClampNeg) (xs ((nI (i + 5))).toNatClampNeg) (RLs.tape hrl hcr)) rfl (Nat.le_of_ble_eq_true rfl) ⟨Nat.le_of_ble_eq_true rfl, Nat.le_of_ble_eq_true rfl, (show _ ≤ 600000 from by omega), (show _ ≤ 7302250 from by omega)⟩ (fun r_11 N_12 V_2 q_13 => ?_)
      obtain ⟨⟨hs_3, hb_4⟩, rfl, j_5⟩ := q_13
      have cw_8 := j_5.1
      have cr_9 := CR.fr hcr (fun i h1 h2 => j_5.2.1 i h1 (by omega))
      have wf_10 := WF.fr hwf (fun i h1 h2 => j_5.2.1 i (by omega) (by omega))
      refine aw_aload_n dL_law_193 rfl ?_
      refine aw_aload_n dL_law_194 rfl ?_
      refine aw_iload_n dL_law_195 rfl ?_
      refine aw_iconst (v := 1) dL_law_196 (by decide) ?_
      refine aw_iadd dL_law_197 ?_
      refine aw_eqi (y := nI (i + 1)) (nI_add _ _) ?_
      refine aw_sld dL_law_198 rfl (vp_in_nI (n := (i + 1)) (by omega) (by omega)) ?_
      refine aw_aload_n dL_law_199 rfl ?_
      refine aw_iload_n dL_law_200 rfl ?_
      refine aw_iconst (v := 2) dL_law_201 (by decide) ?_
      refine aw_iadd dL_law_202 ?_
      refine aw_eqi (y := nI (i + 2)) (nI_add _ _) ?_
      refine aw_sld dL_law_203 rfl (vp_in_nI (n := (i + 2)) (by omega) (by omega)) ?_
      refine aw_aload_n dL_law_204 rfl ?_
      refine aw_iload_n dL_law_205 rfl ?_
      refine aw_iconst (v := 3) dL_law_206 (by decide) ?_
      refine aw_iadd dL_law_207 ?_
      refine aw_eqi (y := nI (i + 3)) (nI_add _ _) ?_
      refine aw_sld dL_law_208 rfl (vp_in_nI (n := (i + 3)) (by omega) (by omega)) ?_
      refine aw_aload_n dL_law_209 rfl ?_
      refine aw_iload_n dL_law_210 rfl ?_
      refine aw_iconst (v := 4) dL_law_211 (by decide) ?_
      refine aw_iadd dL_law_212 ?_
      refine aw_eqi (y := nI (i + 4)) (nI_add _ _) ?_
      refine aw_sld dL_law_213 rfl (vp_in_nI (n := (i + 4)) (by omega) (by omega)) ?_
      refine aw_aload_n dL_law_214 rfl ?_
      refine aw_iload_n dL_law_215 rfl ?_
      refine aw_iconst (v := 5) dL_law_216 (by decide) ?_
      refine aw_iadd dL_law_217 ?_
      refine aw_eqi (y := nI (i + 5)) (nI_add _ _) ?_
      refine aw_sld dL_law_218 rfl (vp_in_nI (n := (i + 5)) (by omega) (by omega)) ?_
      refine aw_callVi (J' := jX12_feed) (As := [.int (xs ((nI (i + 1))).toNatClampNeg), .int (xs ((nI (i + 2))).toNatClampNeg), .int (xs ((nI (i + 3))).toNatClampNeg), .int (xs ((nI (i + 4))).toNatClampNeg), .int (xs ((nI (i + 5))).toNatClampNeg)]) (st := [.int r_11]) dL_law_219 tb_1197 ok_X12_feed ⟨_, (CR.o100 cr_9).choose_spec⟩ (by omega) rfl rfl (r_feedS l D b N V_2 (by omega) cl cr_9 (xs ((nI (i + 1))).toNatClampNeg) (xs ((nI (i + 2))).toNatClampNeg) (xs ((nI (i + 3))).toNatClampNeg) (xs ((nI (i + 4))).toNatClampNeg) (xs ((nI (i + 5))).toNatClampNeg)) rfl (Nat.le_of_ble_eq_true rfl) ⟨Nat.le_of_ble_eq_true rfl, Nat.le_of_ble_eq_true rfl, (show _ ≤ 600000 from by omega), (show _ ≤ 7302250 from by omega)⟩ (fun r_25 N_26 V_14 q_27 => ?_)
      obtain ⟨⟨gs_20, gb_21⟩, rfl, jr_18⟩ := q_27
      have cr_16 := jr_18.1
      have cw_15 := CW.out cw_8 (fun i hi => jr_18.2.1 i (Or.inl hi) (by omega))
      have wf_17 := WF.fr wf_10 jr_18.2.2.1
      have e_22 : fI (V_2 100) 13 = fI (V 1) 1 := (congrArg (fun z => fI z 13) (j_5.2.1 100 (by decide) (by omega))).trans (hrl.2.2.2.1).symm
      rw [e_22] at gs_20
      have o_23 := FDS.one hs_3 gs_20
      have e_24 : gb (fI (V_2 110)) = fI (V 2) := (congrArg (fun z => gb (fI z)) (j_5.2.1 110 (by decide) (by omega))).trans (hrl.2.2.2.2.2.2.1).symm
      rw [e_22, e_24] at gb_21
      have rl_19 : RLs V_14 := ⟨(congrArg (fun z => fI z 4) (jr_18.2.1 0 (Or.inl (by decide)) (by omega))).trans ((JW.fI j_5 (by decide) (by decide) : fI (V_2 0) 4 = fI (V 0) 4).trans ((hrl.1).trans ((congrArg (fun z => fI z 51) (j_5.2.1 100 (by decide) (by omega))).symm.trans (JR.fI jr_18 (by decide) (by decide) (by decide) : fI (V_14 100) 51 = fI (V_2 100) 51).symm))), (congrArg (fun z => fI z 7) (jr_18.2.1 3 (Or.inl (by decide)) (by omega))).trans ((JW.fI j_5 (by decide) (by decide) : fI (V_2 3) 7 = fI (V 3) 7).trans ((hrl.2.1).trans ((congrArg (fun z => fI z 208) (j_5.2.1 101 (by decide) (by omega))).symm.trans (JR.fI jr_18 (by decide) (by decide) (by decide) : fI (V_14 101) 208 = fI (V_2 101) 208).symm))), (congrArg (fun z => fI z 7) (jr_18.2.1 39 (Or.inl (by decide)) (by omega))).trans ((JW.fI j_5 (by decide) (by decide) : fI (V_2 39) 7 = fI (V 39) 7).trans ((hrl.2.2.1).trans ((congrArg (fun z => fI z 208) (j_5.2.1 103 (by decide) (by omega))).symm.trans (JR.fI jr_18 (by decide) (by decide) (by decide) : fI (V_14 103) 208 = fI (V_2 103) 208).symm))), (congrArg (fun z => fI z 1) (jr_18.2.1 1 (Or.inl (by decide)) (by omega))).trans o_23.2, (congrArg (fun z => fI z 5) (jr_18.2.1 3 (Or.inl (by decide)) (by omega))).trans ((JW.fI j_5 (by decide) (by decide) : fI (V_2 3) 5 = fI (V 3) 5).trans ((hrl.2.2.2.2.1).trans ((congrArg (fun z => fI z 9) (j_5.2.1 100 (by decide) (by omega))).symm.trans (JR.fI jr_18 (by decide) (by decide) (by decide) : fI (V_14 100) 9 = fI (V_2 100) 9).symm))), (congrArg (fun z => fI z 6) (jr_18.2.1 3 (Or.inl (by decide)) (by omega))).trans ((JW.fI j_5 (by decide) (by decide) : fI (V_2 3) 6 = fI (V 3) 6).trans ((hrl.2.2.2.2.2.1).trans ((congrArg (fun z => fI z 10) (j_5.2.1 100 (by decide) (by omega))).symm.trans (JR.fI jr_18 (by decide) (by decide) (by decide) : fI (V_14 100) 10 = fI (V_2 100) 10).symm))), (congrArg fI (jr_18.2.1 2 (Or.inl (by decide)) (by omega))).trans (FDB.one hb_4 gb_21), (congrArg (fun z => rs (fI z)) (jr_18.2.1 17 (Or.inl (by decide)) (by omega))).trans ((congrArg (fun z => rs (fI z)) (JW.same j_5 (by decide) (fun k => (nfc (by omega) (nfc (by omega) nf0))))).trans ((hrl.2.2.2.2.2.2.2.1).trans ((congrArg (fun z => rs (fI z)) (j_5.2.1 104 (by decide) (by omega))).symm.trans (congrArg (fun z => rs (fI z)) (JR.same jr_18 (by decide) (by decide) (fun k => (nfc (by omega) (nfc (by omega) nf0))))).symm))), GDS.cong ((congrArg (fun z => fI z 5) (jr_18.2.1 3 (Or.inl (by decide)) (by omega))).trans (JW.fI j_5 (by decide) (by decide) : fI (V_2 3) 5 = fI (V 3) 5)) ((congrArg (fun z => rs (fI z)) (jr_18.2.1 17 (Or.inl (by decide)) (by omega))).trans (congrArg (fun z => rs (fI z)) (JW.same j_5 (by decide) (fun k => (nfc (by omega) (nfc (by omega) nf0)))))) (hrl.2.2.2.2.2.2.2.2)⟩
      refine aw_icmp_eq (tgt := 981) dL_law_222 (by decide) (fun c_28 => ?_) (fun c_28 => ?_)
      rotate_left
      · exact absurd o_23.1 c_28
      refine aw_iinc (v := (nI (i + 6))) (ls' := [some (.ref b9), some (.ref (b + 0)), some (.ref (b + 100)), some (.int (nI (i + 6)))]) dL_law_981 rfl (nI_add i 6) (Nat.le_of_ble_eq_true rfl) rfl ?_
      refine aw_goto (tgt := 18) dL_law_984 (by decide) ?_
      refine mih (M + 6 - (i + 6)) (by omega) (i + 6) N cl V_14 _ _ rfl (by omega) ?_ ?_ (by omega) cw_15 cr_16 wf_17 rl_19 <;> omega
    · skip
      refine aw_tableIn (off := 194) (tgt := 227) dL_law_33 (by decide) (by decide) (by decide) (by decide) ?_
      refine aw_aload_n dL_law_227 rfl ?_
      refine aw_aload_n dL_law_228 rfl ?_
      refine aw_iload_n dL_law_229 rfl ?_
      refine aw_iconst (v := 1) dL_law_230 (by decide) ?_
      refine aw_iadd dL_law_231 ?_
      refine aw_eqi (y := nI (i + 1)) (nI_add _ _) ?_
      refine aw_sld dL_law_232 rfl (vp_in_nI (n := (i + 1)) (by omega) (by omega)) ?_
      refine aw_callVi (J' := jX11_law) (As := [.int (xs ((nI (i + 1))).toNatClampNeg)]) (st := []) dL_law_233 tb_263 ok_X11_law ⟨_, (CW.o0 hcw).choose_spec⟩ (by omega) rfl rfl (g_X11_lawK l D b N V (by omega) hcw (xs ((nI (i + 1))).toNatClampNeg)) rfl (Nat.le_of_ble_eq_true rfl) ⟨Nat.le_of_ble_eq_true rfl, Nat.le_of_ble_eq_true rfl, (show _ ≤ 600000 from by omega), (show _ ≤ 7302250 from by omega)⟩ (fun r_37 N_38 V_29 q_39 => ?_)
      obtain ⟨hm_32, hm_33, hs_30, j_31⟩ := q_39
      have cw_34 := j_31.1
      have cr_35 := CR.fr hcr (fun i h1 h2 => j_31.2.1 i h1 (by omega))
      have wf_36 := WF.fr hwf (fun i h1 h2 => j_31.2.1 i (by omega) (by omega))
      refine aw_pop dL_law_236 rfl ?_
      refine aw_aload_n dL_law_237 rfl ?_
      refine aw_aload_n dL_law_238 rfl ?_
      refine aw_iload_n dL_law_239 rfl ?_
      refine aw_iconst (v := 1) dL_law_240 (by decide) ?_
      refine aw_iadd dL_law_241 ?_
      refine aw_eqi (y := nI (i + 1)) (nI_add _ _) ?_
      refine aw_sld dL_law_242 rfl (vp_in_nI (n := (i + 1)) (by omega) (by omega)) ?_
      refine aw_callVi (J' := jX12_law) (As := [.int (xs ((nI (i + 1))).toNatClampNeg)]) (st := []) dL_law_243 tb_1205 ok_X12_law ⟨_, (CR.o100 cr_35).choose_spec⟩ (by omega) rfl rfl (r_lawK l D b N_38 V_29 (by omega) cl cr_35 (xs ((nI (i + 1))).toNatClampNeg) wf_36 (xs ((nI (i + 1))).toNatClampNeg) rfl) rfl (Nat.le_of_ble_eq_true rfl) ⟨Nat.le_of_ble_eq_true rfl, Nat.le_of_ble_eq_true rfl, (show _ ≤ 600000 from by omega), (show _ ≤ 7302250 from by omega)⟩ (fun r_50 N_51 V_40 q_52 => ?_)
      obtain ⟨rfl, cl_47, cr_42, fr_48, wf_43, jr_44, gs_46⟩ := q_52
      have cw_41 := CW.out cw_34 (fun i hi => fr_48 i (Or.inl hi) (by omega))
      have e_49 : fI (V_29 100) 13 = fI (V 1) 1 := (congrArg (fun z => fI z 13) (j_31.2.1 100 (by decide) (by omega))).trans (hrl.2.2.2.1).symm
      rw [e_49] at gs_46
      have rl_45 : RLs V_40 := ⟨(congrArg (fun z => fI z 4) (fr_48 0 (Or.inl (by decide)) (by omega))).trans ((JW.fI j_31 (by decide) (by decide) : fI (V_29 0) 4 = fI (V 0) 4).trans ((hrl.1).trans ((congrArg (fun z => fI z 51) (j_31.2.1 100 (by decide) (by omega))).symm.trans (fI_pj (jr_44 100 51 (by decide) (by decide) (by decide))).symm))), (congrArg (fun z => fI z 7) (fr_48 3 (Or.inl (by decide)) (by omega))).trans ((JW.fI j_31 (by decide) (by decide) : fI (V_29 3) 7 = fI (V 3) 7).trans ((hrl.2.1).trans ((congrArg (fun z => fI z 208) (j_31.2.1 101 (by decide) (by omega))).symm.trans (fI_pj (jr_44 101 208 (by decide) (by decide) (by decide))).symm))), (congrArg (fun z => fI z 7) (fr_48 39 (Or.inl (by decide)) (by omega))).trans ((JW.fI j_31 (by decide) (by decide) : fI (V_29 39) 7 = fI (V 39) 7).trans ((hrl.2.2.1).trans ((congrArg (fun z => fI z 208) (j_31.2.1 103 (by decide) (by omega))).symm.trans (fI_pj (jr_44 103 208 (by decide) (by decide) (by decide))).symm))), (congrArg (fun z => fI z 1) (fr_48 1 (Or.inl (by decide)) (by omega))).trans (TKS.one hs_30 gs_46), (congrArg (fun z => fI z 5) (fr_48 3 (Or.inl (by decide)) (by omega))).trans ((JW.fI j_31 (by decide) (by decide) : fI (V_29 3) 5 = fI (V 3) 5).trans ((hrl.2.2.2.2.1).trans ((congrArg (fun z => fI z 9) (j_31.2.1 100 (by decide) (by omega))).symm.trans (fI_pj (jr_44 100 9 (by decide) (by decide) (by decide))).symm))), (congrArg (fun z => fI z 6) (fr_48 3 (Or.inl (by decide)) (by omega))).trans ((JW.fI j_31 (by decide) (by decide) : fI (V_29 3) 6 = fI (V 3) 6).trans ((hrl.2.2.2.2.2.1).trans ((congrArg (fun z => fI z 10) (j_31.2.1 100 (by decide) (by omega))).symm.trans (fI_pj (jr_44 100 10 (by decide) (by decide) (by decide))).symm))), (congrArg fI (fr_48 2 (Or.inl (by decide)) (by omega))).trans ((congrArg fI (JW.same j_31 (by decide) (fun k => (nfc (by omega) (nfc (by omega) (nfc (by omega) (nfc (by omega) (nfc (by omega) (nfc (by omega) (nfc (by omega) nf0)))))))))).trans ((hrl.2.2.2.2.2.2.1).trans ((congrArg (fun z => gb (fI z)) (j_31.2.1 110 (by decide) (by omega))).symm.trans (congrArg (fun z => gb (fI z)) (pj_ext (fun k => jr_44 110 k (by decide) (by decide) (nfc (by omega) (nfc (by omega) (nfc (by omega) (nfc (by omega) (nfc (by omega) (nfc (by omega) (nfc (by omega) (nfc (by omega) (nfc (by omega) (nfc (by omega) (nfc (by omega) nf0)))))))))))))).symm))), (congrArg (fun z => rs (fI z)) (fr_48 17 (Or.inl (by decide)) (by omega))).trans ((congrArg (fun z => rs (fI z)) (JW.same j_31 (by decide) (fun k => (nfc (by omega) (nfc (by omega) (nfc (by omega) (nfc (by omega) (nfc (by omega) (nfc (by omega) (nfc (by omega) nf0)))))))))).trans ((hrl.2.2.2.2.2.2.2.1).trans ((congrArg (fun z => rs (fI z)) (j_31.2.1 104 (by decide) (by omega))).symm.trans (congrArg (fun z => rs (fI z)) (pj_ext (fun k => jr_44 104 k (by decide) (by decide) (nfc (by omega) (nfc (by omega) (nfc (by omega) (nfc (by omega) (nfc (by omega) (nfc (by omega) (nfc (by omega) (nfc (by omega) (nfc (by omega) (nfc (by omega) (nfc (by omega) nf0)))))))))))))).symm))), GDS.cong ((congrArg (fun z => fI z 5) (fr_48 3 (Or.inl (by decide)) (by omega))).trans (JW.fI j_31 (by decide) (by decide) : fI (V_29 3) 5 = fI (V 3) 5)) ((congrArg (fun z => rs (fI z)) (fr_48 17 (Or.inl (by decide)) (by omega))).trans (congrArg (fun z => rs (fI z)) (JW.same j_31 (by decide) (fun k => (nfc (by omega) (nfc (by omega) (nfc (by omega) (nfc (by omega) (nfc (by omega) (nfc (by omega) (nfc (by omega) nf0))))))))))) (hrl.2.2.2.2.2.2.2.2)⟩
      refine aw_pop dL_law_246 rfl ?_
      refine aw_goto (tgt := 981) dL_law_247 (by decide) ?_
      refine aw_iinc (v := (nI (i + 6))) (ls' := [some (.ref b9), some (.ref (b + 0)), some (.ref (b + 100)), some (.int (nI (i + 6)))]) dL_law_981 rfl (nI_add i 6) (Nat.le_of_ble_eq_true rfl) rfl ?_
      refine aw_goto (tgt := 18) dL_law_984 (by decide) ?_
      refine mih (M + 6 - (i + 6)) (by omega) (i + 6) N_38 cl_47 V_40 _ _ rfl (by omega) ?_ ?_ (by omega) cw_41 cr_42 wf_43 rl_45 <;> omega
    · skip
      refine aw_tableIn (off := 217) (tgt := 250) dL_law_33 (by decide) (by decide) (by decide) (by decide) ?_
      refine aw_aload_n dL_law_250 rfl ?_
      refine aw_aload_n dL_law_251 rfl ?_
      refine aw_iload_n dL_law_252 rfl ?_
      refine aw_iconst (v := 1) dL_law_253 (by decide) ?_
      refine aw_iadd dL_law_254 ?_
      refine aw_eqi (y := nI (i + 1)) (nI_add _ _) ?_
      refine aw_sld dL_law_255 rfl (vp_in_nI (n := (i + 1)) (by omega) (by omega)) ?_
      refine aw_aload_n dL_law_256 rfl ?_
      refine aw_iload_n dL_law_257 rfl ?_
      refine aw_iconst (v := 2) dL_law_258 (by decide) ?_
      refine aw_iadd dL_law_259 ?_
      refine aw_eqi (y := nI (i + 2)) (nI_add _ _) ?_
      refine aw_sld dL_law_260 rfl (vp_in_nI (n := (i + 2)) (by omega) (by omega)) ?_
      refine aw_callVi (J' := jX11_dreads) (As := [.int (xs ((nI (i + 1))).toNatClampNeg), .int (xs ((nI (i + 2))).toNatClampNeg)]) (st := []) dL_law_261 tb_577 ok_X11_dreads ⟨_, (CW.o0 hcw).choose_spec⟩ (by omega) rfl rfl (g_X11_dreadsS2 l D b N V (by omega) hcw (xs ((nI (i + 1))).toNatClampNeg) (xs ((nI (i + 2))).toNatClampNeg)) rfl (Nat.le_of_ble_eq_true rfl) ⟨Nat.le_of_ble_eq_true rfl, Nat.le_of_ble_eq_true rfl, (show _ ≤ 600000 from by omega), (show _ ≤ 7302250 from by omega)⟩ (fun r_66 N_67 V_53 q_68 => ?_)
      obtain ⟨hm_61, hm_62, ha_54, hs_55, ht_56, hp_57, hd_58, hn_59, j_60⟩ := q_68
      have cw_63 := j_60.1
      have cr_64 := CR.fr hcr (fun i h1 h2 => j_60.2.1 i h1 (by omega))
      have wf_65 := WF.fr hwf (fun i h1 h2 => j_60.2.1 i (by omega) (by omega))
      refine aw_pop dL_law_264 rfl ?_
      refine aw_aload_n dL_law_265 rfl ?_
      refine aw_aload_n dL_law_266 rfl ?_
      refine aw_iload_n dL_law_267 rfl ?_
      refine aw_iconst (v := 1) dL_law_268 (by decide) ?_
      refine aw_iadd dL_law_269 ?_
      refine aw_eqi (y := nI (i + 1)) (nI_add _ _) ?_
      refine aw_sld dL_law_270 rfl (vp_in_nI (n := (i + 1)) (by omega) (by omega)) ?_
      refine aw_aload_n dL_law_271 rfl ?_
      refine aw_iload_n dL_law_272 rfl ?_
      refine aw_iconst (v := 2) dL_law_273 (by decide) ?_
      refine aw_iadd dL_law_274 ?_
      refine aw_eqi (y := nI (i + 2)) (nI_add _ _) ?_
      refine aw_sld dL_law_275 rfl (vp_in_nI (n := (i + 2)) (by omega) (by omega)) ?_
      refine aw_callVi (J' := jX12_dreads) (As := [.int (xs ((nI (i + 1))).toNatClampNeg), .int (xs ((nI (i + 2))).toNatClampNeg)]) (st := []) dL_law_276 tb_1295 ok_X12_dreads ⟨_, (CR.o100 cr_64).choose_spec⟩ (by omega) rfl rfl (r_dreadsS2 l D b N_67 V_53 (by omega) cl cr_64 (xs ((nI (i + 1))).toNatClampNeg) (xs ((nI (i + 2))).toNatClampNeg) (xs ((nI (i + 1))).toNatClampNeg) (xs ((nI (i + 2))).toNatClampNeg) ⟨rfl, rfl⟩) rfl (Nat.le_of_ble_eq_true rfl) ⟨Nat.le_of_ble_eq_true rfl, Nat.le_of_ble_eq_true rfl, (show _ ≤ 600000 from by omega), (show _ ≤ 7302250 from by omega)⟩ (fun r_84 N_85 V_69 q_86 => ?_)
      obtain ⟨⟨ga_75, gs_76, gt_77, gp_78, gd_79, gn_80⟩, rfl, jr_73⟩ := q_86
      have cr_71 := jr_73.1
      have cw_70 := CW.out cw_63 (fun i hi => jr_73.2.1 i (Or.inl hi) (by omega))
      have wf_72 := WF.fr wf_65 jr_73.2.2.1
      have e_81 : fI (V_53 100) 13 = fI (V 1) 1 := (congrArg (fun z => fI z 13) (j_60.2.1 100 (by decide) (by omega))).trans (hrl.2.2.2.1).symm
      rw [e_81] at gs_76
      have e_82 : gb (fI (V_53 110)) = fI (V 2) := (congrArg (fun z => gb (fI z)) (j_60.2.1 110 (by decide) (by omega))).trans (hrl.2.2.2.2.2.2.1).symm
      rw [e_81, e_82] at ga_75
      have e_83 : fI (V_53 100) 9 = fI (V 3) 5 := (congrArg (fun z => fI z 9) (j_60.2.1 100 (by decide) (by omega))).trans (hrl.2.2.2.2.1).symm
      rw [e_81, e_83, e_82] at gp_78
      have rl_74 : RLs V_69 := ⟨(congrArg (fun z => fI z 4) (jr_73.2.1 0 (Or.inl (by decide)) (by omega))).trans ((JW.fI j_60 (by decide) (by decide) : fI (V_53 0) 4 = fI (V 0) 4).trans ((hrl.1).trans ((congrArg (fun z => fI z 51) (j_60.2.1 100 (by decide) (by omega))).symm.trans (JR.fI jr_73 (by decide) (by decide) (by decide) : fI (V_69 100) 51 = fI (V_53 100) 51).symm))), (congrArg (fun z => fI z 7) (jr_73.2.1 3 (Or.inl (by decide)) (by omega))).trans (ht_56.trans ((hrl.2.1).trans ((congrArg (fun z => fI z 208) (j_60.2.1 101 (by decide) (by omega))).symm.trans gt_77.symm))), (congrArg (fun z => fI z 7) (jr_73.2.1 39 (Or.inl (by decide)) (by omega))).trans ((JW.fI j_60 (by decide) (by decide) : fI (V_53 39) 7 = fI (V 39) 7).trans ((hrl.2.2.1).trans ((congrArg (fun z => fI z 208) (j_60.2.1 103 (by decide) (by omega))).symm.trans (JR.fI jr_73 (by decide) (by decide) (by decide) : fI (V_69 103) 208 = fI (V_53 103) 208).symm))), (congrArg (fun z => fI z 1) (jr_73.2.1 1 (Or.inl (by decide)) (by omega))).trans (TKS.one hs_55 gs_76), (congrArg (fun z => fI z 5) (jr_73.2.1 3 (Or.inl (by decide)) (by omega))).trans (UPD.one hp_57 gp_78), (congrArg (fun z => fI z 6) (jr_73.2.1 3 (Or.inl (by decide)) (by omega))).trans (hd_58.trans ((hrl.2.2.2.2.2.1).trans ((congrArg (fun z => fI z 10) (j_60.2.1 100 (by decide) (by omega))).symm.trans gd_79.symm))), (congrArg fI (jr_73.2.1 2 (Or.inl (by decide)) (by omega))).trans ((congrArg fI (JW.same j_60 (by decide) (fun k => (nfc (by omega) (nfc (by omega) (nfc (by omega) (nfc (by omega) (nfc (by omega) (nfc (by omega) (nfc (by omega) (nfc (by omega) (nfc (by omega) (nfc (by omega) (nfc (by omega) (nfc (by omega) (nfc (by omega) (nfc (by omega) nf0))))))))))))))))).trans ((hrl.2.2.2.2.2.2.1).trans ((congrArg (fun z => gb (fI z)) (j_60.2.1 110 (by decide) (by omega))).symm.trans (congrArg (fun z => gb (fI z)) (JR.same jr_73 (by decide) (by decide) (fun k => (nfc (by omega) (nfc (by omega) (nfc (by omega) (nfc (by omega) (nfc (by omega) (nfc (by omega) (nfc (by omega) (nfc (by omega) (nfc (by omega) (nfc (by omega) (nfc (by omega) nf0)))))))))))))).symm))), (congrArg (fun z => rs (fI z)) (jr_73.2.1 17 (Or.inl (by decide)) (by omega))).trans (hn_59.trans ((hrl.2.2.2.2.2.2.2.1).trans ((congrArg (fun z => rs (fI z)) (j_60.2.1 104 (by decide) (by omega))).symm.trans gn_80.symm))), GDS.cong (congrArg (fun z => fI z 5) (jr_73.2.1 3 (Or.inl (by decide)) (by omega))) ((congrArg (fun z => rs (fI z)) (jr_73.2.1 17 (Or.inl (by decide)) (by omega))).trans hn_59) (GDS.dreads hp_57 (fun z => ⟨z.1, z.2.1⟩) (hrl.2.2.2.2.2.2.2.2))⟩
      refine aw_pop dL_law_279 rfl ?_
      refine aw_goto (tgt := 981) dL_law_280 (by decide) ?_
      refine aw_iinc (v := (nI (i + 6))) (ls' := [some (.ref b9), some (.ref (b + 0)), some (.ref (b + 100)), some (.int (nI (i + 6)))]) dL_law_981 rfl (nI_add i 6) (Nat.le_of_ble_eq_true rfl) rfl ?_
      refine aw_goto (tgt := 18) dL_law_984 (by decide) ?_
      refine mih (M + 6 - (i + 6)) (by omega) (i + 6) N_67 cl V_69 _ _ rfl (by omega) ?_ ?_ (by omega) cw_70 cr_71 wf_72 rl_74 <;> omega
    · skip
      refine aw_tableIn (off := 250) (tgt := 283) dL_law_33 (by decide) (by decide) (by decide) (by decide) ?_
      refine aw_aload_n dL_law_283 rfl ?_
      refine aw_aload_n dL_law_284 rfl ?_
      refine aw_iload_n dL_law_285 rfl ?_
      refine aw_iconst (v := 1) dL_law_286 (by decide) ?_
      refine aw_iadd dL_law_287 ?_
      refine aw_eqi (y := nI (i + 1)) (nI_add _ _) ?_
      refine aw_sld dL_law_288 rfl (vp_in_nI (n := (i + 1)) (by omega) (by omega)) ?_
      refine aw_callVi (J' := jX11_orders) (As := [.int (xs ((nI (i + 1))).toNatClampNeg)]) (st := []) dL_law_289 tb_605 ok_X11_orders ⟨_, (CW.o0 hcw).choose_spec⟩ (by omega) rfl rfl (g_X11_ordersS2 l D b N V (by omega) hcw (xs ((nI (i + 1))).toNatClampNeg)) rfl (Nat.le_of_ble_eq_true rfl) ⟨Nat.le_of_ble_eq_true rfl, Nat.le_of_ble_eq_true rfl, (show _ ≤ 600000 from by omega), (show _ ≤ 7302250 from by omega)⟩ (fun r_100 N_101 V_87 q_102 => ?_)
      obtain ⟨hm_95, hm_96, ha_88, hs_89, ht_90, hp_91, hd_92, hn_93, j_94⟩ := q_102
      have cw_97 := j_94.1
      have cr_98 := CR.fr hcr (fun i h1 h2 => j_94.2.1 i h1 (by omega))
      have wf_99 := WF.fr hwf (fun i h1 h2 => j_94.2.1 i (by omega) (by omega))
      refine aw_pop dL_law_292 rfl ?_
      refine aw_aload_n dL_law_293 rfl ?_
      refine aw_aload_n dL_law_294 rfl ?_
      refine aw_iload_n dL_law_295 rfl ?_
      refine aw_iconst (v := 1) dL_law_296 (by decide) ?_
      refine aw_iadd dL_law_297 ?_
      refine aw_eqi (y := nI (i + 1)) (nI_add _ _) ?_
      refine aw_sld dL_law_298 rfl (vp_in_nI (n := (i + 1)) (by omega) (by omega)) ?_
      refine aw_callVi (J' := jX12_orders) (As := [.int (xs ((nI (i + 1))).toNatClampNeg)]) (st := []) dL_law_299 tb_1331 ok_X12_orders ⟨_, (CR.o100 cr_98).choose_spec⟩ (by omega) rfl rfl (r_ordersS2 l D b N_101 V_87 (by omega) cl cr_98 (xs ((nI (i + 1))).toNatClampNeg) (xs ((nI (i + 1))).toNatClampNeg) rfl) rfl (Nat.le_of_ble_eq_true rfl) ⟨Nat.le_of_ble_eq_true rfl, Nat.le_of_ble_eq_true rfl, (show _ ≤ 600000 from by omega), (show _ ≤ 7302250 from by omega)⟩ (fun r_120 N_121 V_103 q_122 => ?_)
      obtain ⟨⟨ga_109, gs_110, gt_111, gp_112, gd_113, gn_114⟩, rfl, jr_107⟩ := q_122
      have cr_105 := jr_107.1
      have cw_104 := CW.out cw_97 (fun i hi => jr_107.2.1 i (Or.inl hi) (by omega))
      have wf_106 := WF.fr wf_99 jr_107.2.2.1
      have e_115 : fI (V_87 100) 13 = fI (V 1) 1 := (congrArg (fun z => fI z 13) (j_94.2.1 100 (by decide) (by omega))).trans (hrl.2.2.2.1).symm
      rw [e_115] at gs_110
      have e_116 : fI (V_87 100) 9 = fI (V 3) 5 := (congrArg (fun z => fI z 9) (j_94.2.1 100 (by decide) (by omega))).trans (hrl.2.2.2.2.1).symm
      have e_117 : fI (V_87 100) 10 = fI (V 3) 6 := (congrArg (fun z => fI z 10) (j_94.2.1 100 (by decide) (by omega))).trans (hrl.2.2.2.2.2.1).symm
      have e_118 : gb (fI (V_87 110)) = fI (V 2) := (congrArg (fun z => gb (fI z)) (j_94.2.1 110 (by decide) (by omega))).trans (hrl.2.2.2.2.2.2.1).symm
      have e_119 : rs (fI (V_87 104)) = rs (fI (V 17)) := (congrArg (fun z => rs (fI z)) (j_94.2.1 104 (by decide) (by omega))).trans (hrl.2.2.2.2.2.2.2.1).symm
      rw [e_115, e_116, e_117, e_118, e_119] at ga_109
      rw [e_115, e_116, e_117, e_118, e_119] at gd_113
      rw [e_115, e_116, e_117, e_118, e_119] at gn_114
      have rl_108 : RLs V_103 := ⟨(congrArg (fun z => fI z 4) (jr_107.2.1 0 (Or.inl (by decide)) (by omega))).trans ((JW.fI j_94 (by decide) (by decide) : fI (V_87 0) 4 = fI (V 0) 4).trans ((hrl.1).trans ((congrArg (fun z => fI z 51) (j_94.2.1 100 (by decide) (by omega))).symm.trans (JR.fI jr_107 (by decide) (by decide) (by decide) : fI (V_103 100) 51 = fI (V_87 100) 51).symm))), (congrArg (fun z => fI z 7) (jr_107.2.1 3 (Or.inl (by decide)) (by omega))).trans (ht_90.trans ((hrl.2.1).trans ((congrArg (fun z => fI z 208) (j_94.2.1 101 (by decide) (by omega))).symm.trans gt_111.symm))), (congrArg (fun z => fI z 7) (jr_107.2.1 39 (Or.inl (by decide)) (by omega))).trans ((JW.fI j_94 (by decide) (by decide) : fI (V_87 39) 7 = fI (V 39) 7).trans ((hrl.2.2.1).trans ((congrArg (fun z => fI z 208) (j_94.2.1 103 (by decide) (by omega))).symm.trans (JR.fI jr_107 (by decide) (by decide) (by decide) : fI (V_103 103) 208 = fI (V_87 103) 208).symm))), (congrArg (fun z => fI z 1) (jr_107.2.1 1 (Or.inl (by decide)) (by omega))).trans (TKS.one hs_89 gs_110), (congrArg (fun z => fI z 5) (jr_107.2.1 3 (Or.inl (by decide)) (by omega))).trans (hp_91.trans ((hrl.2.2.2.2.1).trans ((congrArg (fun z => fI z 9) (j_94.2.1 100 (by decide) (by omega))).symm.trans gp_112.symm))), (congrArg (fun z => fI z 6) (jr_107.2.1 3 (Or.inl (by decide)) (by omega))).trans (UPD.one hd_92 gd_113), (congrArg fI (jr_107.2.1 2 (Or.inl (by decide)) (by omega))).trans ((congrArg fI (JW.same j_94 (by decide) (fun k => (nfc (by omega) (nfc (by omega) (nfc (by omega) (nfc (by omega) (nfc (by omega) (nfc (by omega) (nfc (by omega) (nfc (by omega) (nfc (by omega) (nfc (by omega) (nfc (by omega) (nfc (by omega) (nfc (by omega) (nfc (by omega) nf0))))))))))))))))).trans ((hrl.2.2.2.2.2.2.1).trans ((congrArg (fun z => gb (fI z)) (j_94.2.1 110 (by decide) (by omega))).symm.trans (congrArg (fun z => gb (fI z)) (JR.same jr_107 (by decide) (by decide) (fun k => (nfc (by omega) (nfc (by omega) (nfc (by omega) (nfc (by omega) (nfc (by omega) (nfc (by omega) (nfc (by omega) (nfc (by omega) (nfc (by omega) (nfc (by omega) (nfc (by omega) (nfc (by omega) nf0))))))))))))))).symm))), (congrArg (fun z => rs (fI z)) (jr_107.2.1 17 (Or.inl (by decide)) (by omega))).trans (UPD.one hn_93 gn_114), GDS.cong ((congrArg (fun z => fI z 5) (jr_107.2.1 3 (Or.inl (by decide)) (by omega))).trans hp_91) (congrArg (fun z => rs (fI z)) (jr_107.2.1 17 (Or.inl (by decide)) (by omega))) (GDS.orders hn_93 (hrl.2.2.2.2.2.2.2.2))⟩
      refine aw_pop dL_law_302 rfl ?_
      refine aw_goto (tgt := 981) dL_law_303 (by decide) ?_
      refine aw_iinc (v := (nI (i + 6))) (ls' := [some (.ref b9), some (.ref (b + 0)), some (.ref (b + 100)), some (.int (nI (i + 6)))]) dL_law_981 rfl (nI_add i 6) (Nat.le_of_ble_eq_true rfl) rfl ?_
      refine aw_goto (tgt := 18) dL_law_984 (by decide) ?_
      refine mih (M + 6 - (i + 6)) (by omega) (i + 6) N_101 cl V_103 _ _ rfl (by omega) ?_ ?_ (by omega) cw_104 cr_105 wf_106 rl_108 <;> omega
    · skip
      refine aw_tableIn (off := 273) (tgt := 306) dL_law_33 (by decide) (by decide) (by decide) (by decide) ?_
      refine aw_aload_n dL_law_306 rfl ?_
      refine aw_aload_n dL_law_307 rfl ?_
      refine aw_iload_n dL_law_308 rfl ?_
      refine aw_iconst (v := 1) dL_law_309 (by decide) ?_
      refine aw_iadd dL_law_310 ?_
      refine aw_eqi (y := nI (i + 1)) (nI_add _ _) ?_
      refine aw_sld dL_law_311 rfl (vp_in_nI (n := (i + 1)) (by omega) (by omega)) ?_
      refine aw_callVi (J' := jX11_nights) (As := [.int (xs ((nI (i + 1))).toNatClampNeg)]) (st := []) dL_law_312 tb_622 ok_X11_nights ⟨_, (CW.o0 hcw).choose_spec⟩ (by omega) rfl rfl (g_X11_nightsK l D b N V (by omega) hcw (xs ((nI (i + 1))).toNatClampNeg)) rfl (Nat.le_of_ble_eq_true rfl) ⟨Nat.le_of_ble_eq_true rfl, Nat.le_of_ble_eq_true rfl, (show _ ≤ 600000 from by omega), (show _ ≤ 7302250 from by omega)⟩ (fun r_131 N_132 V_123 q_133 => ?_)
      obtain ⟨ht_124, rfl, j_125⟩ := q_133
      have cw_128 := j_125.1
      have cr_129 := CR.fr hcr (fun i h1 h2 => j_125.2.1 i h1 (by omega))
      have wf_130 := WF.fr hwf (fun i h1 h2 => j_125.2.1 i (by omega) (by omega))
      refine aw_pop dL_law_315 rfl ?_
      refine aw_aload_n dL_law_316 rfl ?_
      refine aw_aload_n dL_law_317 rfl ?_
      refine aw_iload_n dL_law_318 rfl ?_
      refine aw_iconst (v := 1) dL_law_319 (by decide) ?_
      refine aw_iadd dL_law_320 ?_
      refine aw_eqi (y := nI (i + 1)) (nI_add _ _) ?_
      refine aw_sld dL_law_321 rfl (vp_in_nI (n := (i + 1)) (by omega) (by omega)) ?_
      refine aw_callVi (J' := jX12_nights) (As := [.int (xs ((nI (i + 1))).toNatClampNeg)]) (st := []) dL_law_322 tb_1367 ok_X12_nights ⟨_, (CR.o100 cr_129).choose_spec⟩ (by omega) rfl rfl (r_nightsK l D b N V_123 (by omega) cl cr_129 (xs ((nI (i + 1))).toNatClampNeg) wf_130 (xs ((nI (i + 1))).toNatClampNeg) rfl) rfl (Nat.le_of_ble_eq_true rfl) ⟨Nat.le_of_ble_eq_true rfl, Nat.le_of_ble_eq_true rfl, (show _ ≤ 600000 from by omega), (show _ ≤ 7302250 from by omega)⟩ (fun r_142 N_143 V_134 q_144 => ?_)
      obtain ⟨gt_140, rfl, jr_138⟩ := q_144
      have cr_136 := jr_138.1
      have cw_135 := CW.out cw_128 (fun i hi => jr_138.2.1 i (Or.inl hi) (by omega))
      have wf_137 := WF.fr wf_130 jr_138.2.2.1
      have e_141 : fI (V_123 101) 208 = fI (V 3) 7 := (congrArg (fun z => fI z 208) (j_125.2.1 101 (by decide) (by omega))).trans (hrl.2.1).symm
      rw [e_141] at gt_140
      have rl_139 : RLs V_134 := ⟨(congrArg (fun z => fI z 4) (jr_138.2.1 0 (Or.inl (by decide)) (by omega))).trans ((JW.fI j_125 (by decide) (by decide) : fI (V_123 0) 4 = fI (V 0) 4).trans ((hrl.1).trans ((congrArg (fun z => fI z 51) (j_125.2.1 100 (by decide) (by omega))).symm.trans (JR.fI jr_138 (by decide) (by decide) (by decide) : fI (V_134 100) 51 = fI (V_123 100) 51).symm))), (congrArg (fun z => fI z 7) (jr_138.2.1 3 (Or.inl (by decide)) (by omega))).trans (NTS.one ht_124 gt_140), (congrArg (fun z => fI z 7) (jr_138.2.1 39 (Or.inl (by decide)) (by omega))).trans ((JW.fI j_125 (by decide) (by decide) : fI (V_123 39) 7 = fI (V 39) 7).trans ((hrl.2.2.1).trans ((congrArg (fun z => fI z 208) (j_125.2.1 103 (by decide) (by omega))).symm.trans (JR.fI jr_138 (by decide) (by decide) (by decide) : fI (V_134 103) 208 = fI (V_123 103) 208).symm))), (congrArg (fun z => fI z 1) (jr_138.2.1 1 (Or.inl (by decide)) (by omega))).trans ((JW.fI j_125 (by decide) (by decide) : fI (V_123 1) 1 = fI (V 1) 1).trans ((hrl.2.2.2.1).trans ((congrArg (fun z => fI z 13) (j_125.2.1 100 (by decide) (by omega))).symm.trans (JR.fI jr_138 (by decide) (by decide) (by decide) : fI (V_134 100) 13 = fI (V_123 100) 13).symm))), (congrArg (fun z => fI z 5) (jr_138.2.1 3 (Or.inl (by decide)) (by omega))).trans ((JW.fI j_125 (by decide) (by decide) : fI (V_123 3) 5 = fI (V 3) 5).trans ((hrl.2.2.2.2.1).trans ((congrArg (fun z => fI z 9) (j_125.2.1 100 (by decide) (by omega))).symm.trans (JR.fI jr_138 (by decide) (by decide) (by decide) : fI (V_134 100) 9 = fI (V_123 100) 9).symm))), (congrArg (fun z => fI z 6) (jr_138.2.1 3 (Or.inl (by decide)) (by omega))).trans ((JW.fI j_125 (by decide) (by decide) : fI (V_123 3) 6 = fI (V 3) 6).trans ((hrl.2.2.2.2.2.1).trans ((congrArg (fun z => fI z 10) (j_125.2.1 100 (by decide) (by omega))).symm.trans (JR.fI jr_138 (by decide) (by decide) (by decide) : fI (V_134 100) 10 = fI (V_123 100) 10).symm))), (congrArg fI (jr_138.2.1 2 (Or.inl (by decide)) (by omega))).trans ((congrArg fI (JW.same j_125 (by decide) (fun k => (nfc (by omega) (nfc (by omega) (nfc (by omega) (nfc (by omega) (nfc (by omega) (nfc (by omega) (nfc (by omega) (nfc (by omega) (nfc (by omega) (nfc (by omega) (nfc (by omega) (nfc (by omega) nf0))))))))))))))).trans ((hrl.2.2.2.2.2.2.1).trans ((congrArg (fun z => gb (fI z)) (j_125.2.1 110 (by decide) (by omega))).symm.trans (congrArg (fun z => gb (fI z)) (JR.same jr_138 (by decide) (by decide) (fun k => (nfc (by omega) (nfc (by omega) (nfc (by omega) (nfc (by omega) (nfc (by omega) (nfc (by omega) (nfc (by omega) nf0)))))))))).symm))), (congrArg (fun z => rs (fI z)) (jr_138.2.1 17 (Or.inl (by decide)) (by omega))).trans ((congrArg (fun z => rs (fI z)) (JW.same j_125 (by decide) (fun k => (nfc (by omega) (nfc (by omega) (nfc (by omega) (nfc (by omega) (nfc (by omega) (nfc (by omega) (nfc (by omega) (nfc (by omega) (nfc (by omega) (nfc (by omega) (nfc (by omega) (nfc (by omega) nf0))))))))))))))).trans ((hrl.2.2.2.2.2.2.2.1).trans ((congrArg (fun z => rs (fI z)) (j_125.2.1 104 (by decide) (by omega))).symm.trans (congrArg (fun z => rs (fI z)) (JR.same jr_138 (by decide) (by decide) (fun k => (nfc (by omega) (nfc (by omega) (nfc (by omega) (nfc (by omega) (nfc (by omega) (nfc (by omega) (nfc (by omega) nf0)))))))))).symm))), GDS.cong ((congrArg (fun z => fI z 5) (jr_138.2.1 3 (Or.inl (by decide)) (by omega))).trans (JW.fI j_125 (by decide) (by decide) : fI (V_123 3) 5 = fI (V 3) 5)) ((congrArg (fun z => rs (fI z)) (jr_138.2.1 17 (Or.inl (by decide)) (by omega))).trans (congrArg (fun z => rs (fI z)) (JW.same j_125 (by decide) (fun k => (nfc (by omega) (nfc (by omega) (nfc (by omega) (nfc (by omega) (nfc (by omega) (nfc (by omega) (nfc (by omega) (nfc (by omega) (nfc (by omega) (nfc (by omega) (nfc (by omega) (nfc (by omega) nf0)))))))))))))))) (hrl.2.2.2.2.2.2.2.2)⟩
      refine aw_pop dL_law_325 rfl ?_
      refine aw_goto (tgt := 981) dL_law_326 (by decide) ?_
      refine aw_iinc (v := (nI (i + 6))) (ls' := [some (.ref b9), some (.ref (b + 0)), some (.ref (b + 100)), some (.int (nI (i + 6)))]) dL_law_981 rfl (nI_add i 6) (Nat.le_of_ble_eq_true rfl) rfl ?_
      refine aw_goto (tgt := 18) dL_law_984 (by decide) ?_
      refine mih (M + 6 - (i + 6)) (by omega) (i + 6) N cl V_134 _ _ rfl (by omega) ?_ ?_ (by omega) cw_135 cr_136 wf_137 rl_139 <;> omega
    · skip
      refine aw_tableIn (off := 296) (tgt := 329) dL_law_33 (by decide) (by decide) (by decide) (by decide) ?_
      refine aw_aload_n dL_law_329 rfl ?_
      refine aw_aload_n dL_law_330 rfl ?_
      refine aw_iload_n dL_law_331 rfl ?_
      refine aw_iconst (v := 1) dL_law_332 (by decide) ?_
      refine aw_iadd dL_law_333 ?_
      refine aw_eqi (y := nI (i + 1)) (nI_add _ _) ?_
      refine aw_sld dL_law_334 rfl (vp_in_nI (n := (i + 1)) (by omega) (by omega)) ?_
      refine aw_aload_n dL_law_335 rfl ?_
      refine aw_iload_n dL_law_336 rfl ?_
      refine aw_iconst (v := 2) dL_law_337 (by decide) ?_
      refine aw_iadd dL_law_338 ?_
      refine aw_eqi (y := nI (i + 2)) (nI_add _ _) ?_
      refine aw_sld dL_law_339 rfl (vp_in_nI (n := (i + 2)) (by omega) (by omega)) ?_
      refine aw_callVi (J' := jX11_tried) (As := [.int (xs ((nI (i + 1))).toNatClampNeg), .int (xs ((nI (i + 2))).toNatClampNeg)]) (st := []) dL_law_340 tb_737 ok_X11_tried ⟨_, (CW.o0 hcw).choose_spec⟩ (by omega) rfl rfl (g_X11_tried l D b N V (by omega) hcw (xs ((nI (i + 1))).toNatClampNeg) (xs ((nI (i + 2))).toNatClampNeg)) rfl (Nat.le_of_ble_eq_true rfl) ⟨Nat.le_of_ble_eq_true rfl, Nat.le_of_ble_eq_true rfl, (show _ ≤ 600000 from by omega), (show _ ≤ 7302250 from by omega)⟩ (fun r_152 N_153 V_145 q_154 => ?_)
      obtain ⟨rfl, j_146⟩ := q_154
      have cw_149 := j_146.1
      have cr_150 := CR.fr hcr (fun i h1 h2 => j_146.2.1 i h1 (by omega))
      have wf_151 := WF.fr hwf (fun i h1 h2 => j_146.2.1 i (by omega) (by omega))
      refine aw_pop dL_law_343 rfl ?_
      refine aw_aload_n dL_law_344 rfl ?_
      refine aw_aload_n dL_law_345 rfl ?_
      refine aw_iload_n dL_law_346 rfl ?_
      refine aw_iconst (v := 1) dL_law_347 (by decide) ?_
      refine aw_iadd dL_law_348 ?_
      refine aw_eqi (y := nI (i + 1)) (nI_add _ _) ?_
      refine aw_sld dL_law_349 rfl (vp_in_nI (n := (i + 1)) (by omega) (by omega)) ?_
      refine aw_aload_n dL_law_350 rfl ?_
      refine aw_iload_n dL_law_351 rfl ?_
      refine aw_iconst (v := 2) dL_law_352 (by decide) ?_
      refine aw_iadd dL_law_353 ?_
      refine aw_eqi (y := nI (i + 2)) (nI_add _ _) ?_
      refine aw_sld dL_law_354 rfl (vp_in_nI (n := (i + 2)) (by omega) (by omega)) ?_
      refine aw_callVi (J' := jX12_tried) (As := [.int (xs ((nI (i + 1))).toNatClampNeg), .int (xs ((nI (i + 2))).toNatClampNeg)]) (st := []) dL_law_355 tb_1442 ok_X12_tried ⟨_, (CR.o100 cr_150).choose_spec⟩ (by omega) rfl rfl (r_triedK l D b N V_145 (by omega) cl cr_150 (xs ((nI (i + 1))).toNatClampNeg) (xs ((nI (i + 2))).toNatClampNeg) wf_151) rfl (Nat.le_of_ble_eq_true rfl) ⟨Nat.le_of_ble_eq_true rfl, Nat.le_of_ble_eq_true rfl, (show _ ≤ 600000 from by omega), (show _ ≤ 7302250 from by omega)⟩ (fun r_162 N_163 V_155 q_164 => ?_)
      obtain ⟨gt_161, rfl, jr_159⟩ := q_164
      have cr_157 := jr_159.1
      have cw_156 := CW.out cw_149 (fun i hi => jr_159.2.1 i (Or.inl hi) (by omega))
      have wf_158 := WF.fr wf_151 jr_159.2.2.1
      have rl_160 : RLs V_155 := ⟨(congrArg (fun z => fI z 4) (jr_159.2.1 0 (Or.inl (by decide)) (by omega))).trans ((JW.fI j_146 (by decide) (by decide) : fI (V_145 0) 4 = fI (V 0) 4).trans ((hrl.1).trans ((congrArg (fun z => fI z 51) (j_146.2.1 100 (by decide) (by omega))).symm.trans (JR.fI jr_159 (by decide) (by decide) (by decide) : fI (V_155 100) 51 = fI (V_145 100) 51).symm))), (congrArg (fun z => fI z 7) (jr_159.2.1 3 (Or.inl (by decide)) (by omega))).trans ((JW.fI j_146 (by decide) (by decide) : fI (V_145 3) 7 = fI (V 3) 7).trans ((hrl.2.1).trans ((congrArg (fun z => fI z 208) (j_146.2.1 101 (by decide) (by omega))).symm.trans gt_161.symm))), (congrArg (fun z => fI z 7) (jr_159.2.1 39 (Or.inl (by decide)) (by omega))).trans ((JW.fI j_146 (by decide) (by decide) : fI (V_145 39) 7 = fI (V 39) 7).trans ((hrl.2.2.1).trans ((congrArg (fun z => fI z 208) (j_146.2.1 103 (by decide) (by omega))).symm.trans (JR.fI jr_159 (by decide) (by decide) (by decide) : fI (V_155 103) 208 = fI (V_145 103) 208).symm))), (congrArg (fun z => fI z 1) (jr_159.2.1 1 (Or.inl (by decide)) (by omega))).trans ((JW.fI j_146 (by decide) (by decide) : fI (V_145 1) 1 = fI (V 1) 1).trans ((hrl.2.2.2.1).trans ((congrArg (fun z => fI z 13) (j_146.2.1 100 (by decide) (by omega))).symm.trans (JR.fI jr_159 (by decide) (by decide) (by decide) : fI (V_155 100) 13 = fI (V_145 100) 13).symm))), (congrArg (fun z => fI z 5) (jr_159.2.1 3 (Or.inl (by decide)) (by omega))).trans ((JW.fI j_146 (by decide) (by decide) : fI (V_145 3) 5 = fI (V 3) 5).trans ((hrl.2.2.2.2.1).trans ((congrArg (fun z => fI z 9) (j_146.2.1 100 (by decide) (by omega))).symm.trans (JR.fI jr_159 (by decide) (by decide) (by decide) : fI (V_155 100) 9 = fI (V_145 100) 9).symm))), (congrArg (fun z => fI z 6) (jr_159.2.1 3 (Or.inl (by decide)) (by omega))).trans ((JW.fI j_146 (by decide) (by decide) : fI (V_145 3) 6 = fI (V 3) 6).trans ((hrl.2.2.2.2.2.1).trans ((congrArg (fun z => fI z 10) (j_146.2.1 100 (by decide) (by omega))).symm.trans (JR.fI jr_159 (by decide) (by decide) (by decide) : fI (V_155 100) 10 = fI (V_145 100) 10).symm))), (congrArg fI (jr_159.2.1 2 (Or.inl (by decide)) (by omega))).trans ((congrArg fI (JW.same j_146 (by decide) (fun k => (nfc (by omega) (nfc (by omega) (nfc (by omega) (nfc (by omega) (nfc (by omega) (nfc (by omega) (nfc (by omega) (nfc (by omega) (nfc (by omega) (nfc (by omega) (nfc (by omega) (nfc (by omega) (nfc (by omega) nf0)))))))))))))))).trans ((hrl.2.2.2.2.2.2.1).trans ((congrArg (fun z => gb (fI z)) (j_146.2.1 110 (by decide) (by omega))).symm.trans (congrArg (fun z => gb (fI z)) (JR.same jr_159 (by decide) (by decide) (fun k => (nfc (by omega) (nfc (by omega) (nfc (by omega) (nfc (by omega) nf0))))))).symm))), (congrArg (fun z => rs (fI z)) (jr_159.2.1 17 (Or.inl (by decide)) (by omega))).trans ((congrArg (fun z => rs (fI z)) (JW.same j_146 (by decide) (fun k => (nfc (by omega) (nfc (by omega) (nfc (by omega) (nfc (by omega) (nfc (by omega) (nfc (by omega) (nfc (by omega) (nfc (by omega) (nfc (by omega) (nfc (by omega) (nfc (by omega) (nfc (by omega) (nfc (by omega) nf0)))))))))))))))).trans ((hrl.2.2.2.2.2.2.2.1).trans ((congrArg (fun z => rs (fI z)) (j_146.2.1 104 (by decide) (by omega))).symm.trans (congrArg (fun z => rs (fI z)) (JR.same jr_159 (by decide) (by decide) (fun k => (nfc (by omega) (nfc (by omega) (nfc (by omega) (nfc (by omega) nf0))))))).symm))), GDS.cong ((congrArg (fun z => fI z 5) (jr_159.2.1 3 (Or.inl (by decide)) (by omega))).trans (JW.fI j_146 (by decide) (by decide) : fI (V_145 3) 5 = fI (V 3) 5)) ((congrArg (fun z => rs (fI z)) (jr_159.2.1 17 (Or.inl (by decide)) (by omega))).trans (congrArg (fun z => rs (fI z)) (JW.same j_146 (by decide) (fun k => (nfc (by omega) (nfc (by omega) (nfc (by omega) (nfc (by omega) (nfc (by omega) (nfc (by omega) (nfc (by omega) (nfc (by omega) (nfc (by omega) (nfc (by omega) (nfc (by omega) (nfc (by omega) (nfc (by omega) nf0))))))))))))))))) (hrl.2.2.2.2.2.2.2.2)⟩
      refine aw_pop dL_law_358 rfl ?_
      refine aw_goto (tgt := 981) dL_law_359 (by decide) ?_
      refine aw_iinc (v := (nI (i + 6))) (ls' := [some (.ref b9), some (.ref (b + 0)), some (.ref (b + 100)), some (.int (nI (i + 6)))]) dL_law_981 rfl (nI_add i 6) (Nat.le_of_ble_eq_true rfl) rfl ?_
      refine aw_goto (tgt := 18) dL_law_984 (by decide) ?_
      refine mih (M + 6 - (i + 6)) (by omega) (i + 6) N cl V_155 _ _ rfl (by omega) ?_ ?_ (by omega) cw_156 cr_157 wf_158 rl_160 <;> omega
    · skip
      refine aw_tableIn (off := 329) (tgt := 362) dL_law_33 (by decide) (by decide) (by decide) (by decide) ?_
      refine aw_aload_n dL_law_362 rfl ?_
      refine aw_aload_n dL_law_363 rfl ?_
      refine aw_iload_n dL_law_364 rfl ?_
      refine aw_iconst (v := 1) dL_law_365 (by decide) ?_
      refine aw_iadd dL_law_366 ?_
      refine aw_eqi (y := nI (i + 1)) (nI_add _ _) ?_
      refine aw_sld dL_law_367 rfl (vp_in_nI (n := (i + 1)) (by omega) (by omega)) ?_
      refine aw_aload_n dL_law_368 rfl ?_
      refine aw_iload_n dL_law_369 rfl ?_
      refine aw_iconst (v := 2) dL_law_370 (by decide) ?_
      refine aw_iadd dL_law_371 ?_
      refine aw_eqi (y := nI (i + 2)) (nI_add _ _) ?_
      refine aw_sld dL_law_372 rfl (vp_in_nI (n := (i + 2)) (by omega) (by omega)) ?_
      refine aw_callVi (J' := jX11_personIs) (As := [.int (xs ((nI (i + 1))).toNatClampNeg), .int (xs ((nI (i + 2))).toNatClampNeg)]) (st := []) dL_law_373 tb_753 ok_X11_personIs ⟨_, (CW.o0 hcw).choose_spec⟩ (by omega) rfl rfl (g_X11_personIs l D b N V (by omega) hcw (xs ((nI (i + 1))).toNatClampNeg) (xs ((nI (i + 2))).toNatClampNeg)) rfl (Nat.le_of_ble_eq_true rfl) ⟨Nat.le_of_ble_eq_true rfl, Nat.le_of_ble_eq_true rfl, (show _ ≤ 600000 from by omega), (show _ ≤ 7302250 from by omega)⟩ (fun r_166 N_167 V_168 q_169 => ?_)
      obtain ⟨rfl, rfl⟩ := q_169
      refine aw_pop dL_law_376 rfl ?_
      refine aw_aload_n dL_law_377 rfl ?_
      refine aw_aload_n dL_law_378 rfl ?_
      refine aw_iload_n dL_law_379 rfl ?_
      refine aw_iconst (v := 1) dL_law_380 (by decide) ?_
      refine aw_iadd dL_law_381 ?_
      refine aw_eqi (y := nI (i + 1)) (nI_add _ _) ?_
      refine aw_sld dL_law_382 rfl (vp_in_nI (n := (i + 1)) (by omega) (by omega)) ?_
      refine aw_aload_n dL_law_383 rfl ?_
      refine aw_iload_n dL_law_384 rfl ?_
      refine aw_iconst (v := 2) dL_law_385 (by decide) ?_
      refine aw_iadd dL_law_386 ?_
      refine aw_eqi (y := nI (i + 2)) (nI_add _ _) ?_
      refine aw_sld dL_law_387 rfl (vp_in_nI (n := (i + 2)) (by omega) (by omega)) ?_
      refine aw_callVi (J' := jX12_personIs) (As := [.int (xs ((nI (i + 1))).toNatClampNeg), .int (xs ((nI (i + 2))).toNatClampNeg)]) (st := []) dL_law_388 tb_1449 ok_X12_personIs ⟨_, (CR.o100 hcr).choose_spec⟩ (by omega) rfl rfl (r_personIs l D b N V (by omega) cl hcr (xs ((nI (i + 1))).toNatClampNeg) (xs ((nI (i + 2))).toNatClampNeg)) rfl (Nat.le_of_ble_eq_true rfl) ⟨Nat.le_of_ble_eq_true rfl, Nat.le_of_ble_eq_true rfl, (show _ ≤ 600000 from by omega), (show _ ≤ 7302250 from by omega)⟩ (fun r_176 N_177 V_178 q_179 => ?_)
      obtain ⟨rfl, rfl⟩ := q_179
      refine aw_pop dL_law_391 rfl ?_
      refine aw_goto (tgt := 981) dL_law_392 (by decide) ?_
      refine aw_iinc (v := (nI (i + 6))) (ls' := [some (.ref b9), some (.ref (b + 0)), some (.ref (b + 100)), some (.int (nI (i + 6)))]) dL_law_981 rfl (nI_add i 6) (Nat.le_of_ble_eq_true rfl) rfl ?_
      refine aw_goto (tgt := 18) dL_law_984 (by decide) ?_
      refine mih (M + 6 - (i + 6)) (by omega) (i + 6) N cl V _ _ rfl (by omega) ?_ ?_ (by omega) hcw hcr hwf hrl <;> omega
    · skip
      refine aw_tableIn (off := 362) (tgt := 395) dL_law_33 (by decide) (by decide) (by decide) (by decide) ?_
      refine aw_aload_n dL_law_395 rfl ?_
      refine aw_aload_n dL_law_396 rfl ?_
      refine aw_iload_n dL_law_397 rfl ?_
      refine aw_iconst (v := 1) dL_law_398 (by decide) ?_
      refine aw_iadd dL_law_399 ?_
      refine aw_eqi (y := nI (i + 1)) (nI_add _ _) ?_
      refine aw_sld dL_law_400 rfl (vp_in_nI (n := (i + 1)) (by omega) (by omega)) ?_
      refine aw_aload_n dL_law_401 rfl ?_
      refine aw_iload_n dL_law_402 rfl ?_
      refine aw_iconst (v := 2) dL_law_403 (by decide) ?_
      refine aw_iadd dL_law_404 ?_
      refine aw_eqi (y := nI (i + 2)) (nI_add _ _) ?_
      refine aw_sld dL_law_405 rfl (vp_in_nI (n := (i + 2)) (by omega) (by omega)) ?_
      refine aw_callVi (J' := jX11_doorIs) (As := [.int (xs ((nI (i + 1))).toNatClampNeg), .int (xs ((nI (i + 2))).toNatClampNeg)]) (st := []) dL_law_406 tb_768 ok_X11_doorIs ⟨_, (CW.o0 hcw).choose_spec⟩ (by omega) rfl rfl (g_X11_doorIs l D b N V (by omega) hcw (xs ((nI (i + 1))).toNatClampNeg) (xs ((nI (i + 2))).toNatClampNeg)) rfl (Nat.le_of_ble_eq_true rfl) ⟨Nat.le_of_ble_eq_true rfl, Nat.le_of_ble_eq_true rfl, (show _ ≤ 600000 from by omega), (show _ ≤ 7302250 from by omega)⟩ (fun r_181 N_182 V_183 q_184 => ?_)
      obtain ⟨rfl, rfl⟩ := q_184
      refine aw_pop dL_law_409 rfl ?_
      refine aw_aload_n dL_law_410 rfl ?_
      refine aw_aload_n dL_law_411 rfl ?_
      refine aw_iload_n dL_law_412 rfl ?_
      refine aw_iconst (v := 1) dL_law_413 (by decide) ?_
      refine aw_iadd dL_law_414 ?_
      refine aw_eqi (y := nI (i + 1)) (nI_add _ _) ?_
      refine aw_sld dL_law_415 rfl (vp_in_nI (n := (i + 1)) (by omega) (by omega)) ?_
      refine aw_aload_n dL_law_416 rfl ?_
      refine aw_iload_n dL_law_417 rfl ?_
      refine aw_iconst (v := 2) dL_law_418 (by decide) ?_
      refine aw_iadd dL_law_419 ?_
      refine aw_eqi (y := nI (i + 2)) (nI_add _ _) ?_
      refine aw_sld dL_law_420 rfl (vp_in_nI (n := (i + 2)) (by omega) (by omega)) ?_
      refine aw_callVi (J' := jX12_doorIs) (As := [.int (xs ((nI (i + 1))).toNatClampNeg), .int (xs ((nI (i + 2))).toNatClampNeg)]) (st := []) dL_law_421 tb_1461 ok_X12_doorIs ⟨_, (CR.o100 hcr).choose_spec⟩ (by omega) rfl rfl (r_doorIs l D b N V (by omega) cl hcr (xs ((nI (i + 1))).toNatClampNeg) (xs ((nI (i + 2))).toNatClampNeg)) rfl (Nat.le_of_ble_eq_true rfl) ⟨Nat.le_of_ble_eq_true rfl, Nat.le_of_ble_eq_true rfl, (show _ ≤ 600000 from by omega), (show _ ≤ 7302250 from by omega)⟩ (fun r_191 N_192 V_193 q_194 => ?_)
      obtain ⟨rfl, rfl⟩ := q_194
      refine aw_pop dL_law_424 rfl ?_
      refine aw_goto (tgt := 981) dL_law_425 (by decide) ?_
      refine aw_iinc (v := (nI (i + 6))) (ls' := [some (.ref b9), some (.ref (b + 0)), some (.ref (b + 100)), some (.int (nI (i + 6)))]) dL_law_981 rfl (nI_add i 6) (Nat.le_of_ble_eq_true rfl) rfl ?_
      refine aw_goto (tgt := 18) dL_law_984 (by decide) ?_
      refine mih (M + 6 - (i + 6)) (by omega) (i + 6) N cl V _ _ rfl (by omega) ?_ ?_ (by omega) hcw hcr hwf hrl <;> omega
    · skip
      refine aw_tableIn (off := 395) (tgt := 428) dL_law_33 (by decide) (by decide) (by decide) (by decide) ?_
      refine aw_aload_n dL_law_428 rfl ?_
      refine aw_aload_n dL_law_429 rfl ?_
      refine aw_iload_n dL_law_430 rfl ?_
      refine aw_iconst (v := 1) dL_law_431 (by decide) ?_
      refine aw_iadd dL_law_432 ?_
      refine aw_eqi (y := nI (i + 1)) (nI_add _ _) ?_
      refine aw_sld dL_law_433 rfl (vp_in_nI (n := (i + 1)) (by omega) (by omega)) ?_
      refine aw_aload_n dL_law_434 rfl ?_
      refine aw_iload_n dL_law_435 rfl ?_
      refine aw_iconst (v := 2) dL_law_436 (by decide) ?_
      refine aw_iadd dL_law_437 ?_
      refine aw_eqi (y := nI (i + 2)) (nI_add _ _) ?_
      refine aw_sld dL_law_438 rfl (vp_in_nI (n := (i + 2)) (by omega) (by omega)) ?_
      refine aw_callVi (J' := jX11_taught) (As := [.int (xs ((nI (i + 1))).toNatClampNeg), .int (xs ((nI (i + 2))).toNatClampNeg)]) (st := []) dL_law_439 tb_776 ok_X11_taught ⟨_, (CW.o0 hcw).choose_spec⟩ (by omega) rfl rfl (g_X11_taught l D b N V (by omega) hcw (xs ((nI (i + 1))).toNatClampNeg) (xs ((nI (i + 2))).toNatClampNeg)) rfl (Nat.le_of_ble_eq_true rfl) ⟨Nat.le_of_ble_eq_true rfl, Nat.le_of_ble_eq_true rfl, (show _ ≤ 600000 from by omega), (show _ ≤ 7302250 from by omega)⟩ (fun r_196 N_197 V_198 q_199 => ?_)
      obtain ⟨rfl, rfl⟩ := q_199
      refine aw_pop dL_law_442 rfl ?_
      refine aw_aload_n dL_law_443 rfl ?_
      refine aw_aload_n dL_law_444 rfl ?_
      refine aw_iload_n dL_law_445 rfl ?_
      refine aw_iconst (v := 1) dL_law_446 (by decide) ?_
      refine aw_iadd dL_law_447 ?_
      refine aw_eqi (y := nI (i + 1)) (nI_add _ _) ?_
      refine aw_sld dL_law_448 rfl (vp_in_nI (n := (i + 1)) (by omega) (by omega)) ?_
      refine aw_aload_n dL_law_449 rfl ?_
      refine aw_iload_n dL_law_450 rfl ?_
      refine aw_iconst (v := 2) dL_law_451 (by decide) ?_
      refine aw_iadd dL_law_452 ?_
      refine aw_eqi (y := nI (i + 2)) (nI_add _ _) ?_
      refine aw_sld dL_law_453 rfl (vp_in_nI (n := (i + 2)) (by omega) (by omega)) ?_
      refine aw_callVi (J' := jX12_taught) (As := [.int (xs ((nI (i + 1))).toNatClampNeg), .int (xs ((nI (i + 2))).toNatClampNeg)]) (st := []) dL_law_454 tb_1469 ok_X12_taught ⟨_, (CR.o100 hcr).choose_spec⟩ (by omega) rfl rfl (r_taught l D b N V (by omega) cl hcr (xs ((nI (i + 1))).toNatClampNeg) (xs ((nI (i + 2))).toNatClampNeg)) rfl (Nat.le_of_ble_eq_true rfl) ⟨Nat.le_of_ble_eq_true rfl, Nat.le_of_ble_eq_true rfl, (show _ ≤ 600000 from by omega), (show _ ≤ 7302250 from by omega)⟩ (fun r_206 N_207 V_208 q_209 => ?_)
      obtain ⟨rfl, rfl⟩ := q_209
      refine aw_pop dL_law_457 rfl ?_
      refine aw_goto (tgt := 981) dL_law_458 (by decide) ?_
      refine aw_iinc (v := (nI (i + 6))) (ls' := [some (.ref b9), some (.ref (b + 0)), some (.ref (b + 100)), some (.int (nI (i + 6)))]) dL_law_981 rfl (nI_add i 6) (Nat.le_of_ble_eq_true rfl) rfl ?_
      refine aw_goto (tgt := 18) dL_law_984 (by decide) ?_
      refine mih (M + 6 - (i + 6)) (by omega) (i + 6) N cl V _ _ rfl (by omega) ?_ ?_ (by omega) hcw hcr hwf hrl <;> omega
    · skip
      refine aw_tableIn (off := 428) (tgt := 461) dL_law_33 (by decide) (by decide) (by decide) (by decide) ?_
      refine aw_aload_n dL_law_461 rfl ?_
      refine aw_aload_n dL_law_462 rfl ?_
      refine aw_iload_n dL_law_463 rfl ?_
      refine aw_iconst (v := 1) dL_law_464 (by decide) ?_
      refine aw_iadd dL_law_465 ?_
      refine aw_eqi (y := nI (i + 1)) (nI_add _ _) ?_
      refine aw_sld dL_law_466 rfl (vp_in_nI (n := (i + 1)) (by omega) (by omega)) ?_
      refine aw_callVi (J' := jX11_crew) (As := [.int (xs ((nI (i + 1))).toNatClampNeg)]) (st := []) dL_law_467 tb_790 ok_X11_crew ⟨_, (CW.o0 hcw).choose_spec⟩ (by omega) rfl rfl (g_X11_crew l D b N V (by omega) hcw (xs ((nI (i + 1))).toNatClampNeg)) rfl (Nat.le_of_ble_eq_true rfl) ⟨Nat.le_of_ble_eq_true rfl, Nat.le_of_ble_eq_true rfl, (show _ ≤ 600000 from by omega), (show _ ≤ 7302250 from by omega)⟩ (fun r_217 N_218 V_210 q_219 => ?_)
      obtain ⟨rfl, j_211⟩ := q_219
      have cw_214 := j_211.1
      have cr_215 := CR.fr hcr (fun i h1 h2 => j_211.2.1 i h1 (by omega))
      have wf_216 := WF.fr hwf (fun i h1 h2 => j_211.2.1 i (by omega) (by omega))
      refine aw_pop dL_law_470 rfl ?_
      refine aw_aload_n dL_law_471 rfl ?_
      refine aw_aload_n dL_law_472 rfl ?_
      refine aw_iload_n dL_law_473 rfl ?_
      refine aw_iconst (v := 1) dL_law_474 (by decide) ?_
      refine aw_iadd dL_law_475 ?_
      refine aw_eqi (y := nI (i + 1)) (nI_add _ _) ?_
      refine aw_sld dL_law_476 rfl (vp_in_nI (n := (i + 1)) (by omega) (by omega)) ?_
      refine aw_callVi (J' := jX12_crew) (As := [.int (xs ((nI (i + 1))).toNatClampNeg)]) (st := []) dL_law_477 tb_1477 ok_X12_crew ⟨_, (CR.o100 cr_215).choose_spec⟩ (by omega) rfl rfl (r_crew l D b N V_210 (by omega) cl cr_215 (xs ((nI (i + 1))).toNatClampNeg)) rfl (Nat.le_of_ble_eq_true rfl) ⟨Nat.le_of_ble_eq_true rfl, Nat.le_of_ble_eq_true rfl, (show _ ≤ 600000 from by omega), (show _ ≤ 7302250 from by omega)⟩ (fun r_226 N_227 V_220 q_228 => ?_)
      obtain ⟨rfl, jr_224⟩ := q_228
      have cr_222 := jr_224.1
      have cw_221 := CW.out cw_214 (fun i hi => jr_224.2.1 i (Or.inl hi) (by omega))
      have wf_223 := WF.fr wf_216 jr_224.2.2.1
      have rl_225 : RLs V_220 := ⟨(congrArg (fun z => fI z 4) (jr_224.2.1 0 (Or.inl (by decide)) (by omega))).trans ((JW.fI j_211 (by decide) (by decide) : fI (V_210 0) 4 = fI (V 0) 4).trans ((hrl.1).trans ((congrArg (fun z => fI z 51) (j_211.2.1 100 (by decide) (by omega))).symm.trans (JR.fI jr_224 (by decide) (by decide) (by decide) : fI (V_220 100) 51 = fI (V_210 100) 51).symm))), (congrArg (fun z => fI z 7) (jr_224.2.1 3 (Or.inl (by decide)) (by omega))).trans ((JW.fI j_211 (by decide) (by decide) : fI (V_210 3) 7 = fI (V 3) 7).trans ((hrl.2.1).trans ((congrArg (fun z => fI z 208) (j_211.2.1 101 (by decide) (by omega))).symm.trans (JR.fI jr_224 (by decide) (by decide) (by decide) : fI (V_220 101) 208 = fI (V_210 101) 208).symm))), (congrArg (fun z => fI z 7) (jr_224.2.1 39 (Or.inl (by decide)) (by omega))).trans ((JW.fI j_211 (by decide) (by decide) : fI (V_210 39) 7 = fI (V 39) 7).trans ((hrl.2.2.1).trans ((congrArg (fun z => fI z 208) (j_211.2.1 103 (by decide) (by omega))).symm.trans (JR.fI jr_224 (by decide) (by decide) (by decide) : fI (V_220 103) 208 = fI (V_210 103) 208).symm))), (congrArg (fun z => fI z 1) (jr_224.2.1 1 (Or.inl (by decide)) (by omega))).trans ((JW.fI j_211 (by decide) (by decide) : fI (V_210 1) 1 = fI (V 1) 1).trans ((hrl.2.2.2.1).trans ((congrArg (fun z => fI z 13) (j_211.2.1 100 (by decide) (by omega))).symm.trans (JR.fI jr_224 (by decide) (by decide) (by decide) : fI (V_220 100) 13 = fI (V_210 100) 13).symm))), (congrArg (fun z => fI z 5) (jr_224.2.1 3 (Or.inl (by decide)) (by omega))).trans ((JW.fI j_211 (by decide) (by decide) : fI (V_210 3) 5 = fI (V 3) 5).trans ((hrl.2.2.2.2.1).trans ((congrArg (fun z => fI z 9) (j_211.2.1 100 (by decide) (by omega))).symm.trans (JR.fI jr_224 (by decide) (by decide) (by decide) : fI (V_220 100) 9 = fI (V_210 100) 9).symm))), (congrArg (fun z => fI z 6) (jr_224.2.1 3 (Or.inl (by decide)) (by omega))).trans ((JW.fI j_211 (by decide) (by decide) : fI (V_210 3) 6 = fI (V 3) 6).trans ((hrl.2.2.2.2.2.1).trans ((congrArg (fun z => fI z 10) (j_211.2.1 100 (by decide) (by omega))).symm.trans (JR.fI jr_224 (by decide) (by decide) (by decide) : fI (V_220 100) 10 = fI (V_210 100) 10).symm))), (congrArg fI (jr_224.2.1 2 (Or.inl (by decide)) (by omega))).trans ((congrArg fI (JW.same j_211 (by decide) (fun k => (nfc (by omega) nf0)))).trans ((hrl.2.2.2.2.2.2.1).trans ((congrArg (fun z => gb (fI z)) (j_211.2.1 110 (by decide) (by omega))).symm.trans (congrArg (fun z => gb (fI z)) (JR.same jr_224 (by decide) (by decide) (fun k => (nfc (by omega) nf0)))).symm))), (congrArg (fun z => rs (fI z)) (jr_224.2.1 17 (Or.inl (by decide)) (by omega))).trans ((congrArg (fun z => rs (fI z)) (JW.same j_211 (by decide) (fun k => (nfc (by omega) nf0)))).trans ((hrl.2.2.2.2.2.2.2.1).trans ((congrArg (fun z => rs (fI z)) (j_211.2.1 104 (by decide) (by omega))).symm.trans (congrArg (fun z => rs (fI z)) (JR.same jr_224 (by decide) (by decide) (fun k => (nfc (by omega) nf0)))).symm))), GDS.cong ((congrArg (fun z => fI z 5) (jr_224.2.1 3 (Or.inl (by decide)) (by omega))).trans (JW.fI j_211 (by decide) (by decide) : fI (V_210 3) 5 = fI (V 3) 5)) ((congrArg (fun z => rs (fI z)) (jr_224.2.1 17 (Or.inl (by decide)) (by omega))).trans (congrArg (fun z => rs (fI z)) (JW.same j_211 (by decide) (fun k => (nfc (by omega) nf0))))) (hrl.2.2.2.2.2.2.2.2)⟩
      refine aw_pop dL_law_480 rfl ?_
      refine aw_goto (tgt := 981) dL_law_481 (by decide) ?_
      refine aw_iinc (v := (nI (i + 6))) (ls' := [some (.ref b9), some (.ref (b + 0)), some (.ref (b + 100)), some (.int (nI (i + 6)))]) dL_law_981 rfl (nI_add i 6) (Nat.le_of_ble_eq_true rfl) rfl ?_
      refine aw_goto (tgt := 18) dL_law_984 (by decide) ?_
      refine mih (M + 6 - (i + 6)) (by omega) (i + 6) N cl V_220 _ _ rfl (by omega) ?_ ?_ (by omega) cw_221 cr_222 wf_223 rl_225 <;> omega
    · skip
      refine aw_tableIn (off := 451) (tgt := 484) dL_law_33 (by decide) (by decide) (by decide) (by decide) ?_
      refine aw_aload_n dL_law_484 rfl ?_
      refine aw_callVi (J' := jX11_lodgings) (As := []) (st := []) dL_law_485 tb_806 ok_X11_lodgings ⟨_, (CW.o0 hcw).choose_spec⟩ (by omega) rfl rfl (g_X11_lodgings l D b N V (by omega) hcw) rfl (Nat.le_of_ble_eq_true rfl) ⟨Nat.le_of_ble_eq_true rfl, Nat.le_of_ble_eq_true rfl, (show _ ≤ 600000 from by omega), (show _ ≤ 7302250 from by omega)⟩ (fun r_230 N_231 V_232 q_233 => ?_)
      obtain ⟨rfl, rfl⟩ := q_233
      refine aw_pop dL_law_488 rfl ?_
      refine aw_aload_n dL_law_489 rfl ?_
      refine aw_callVi (J' := jX12_lodgings) (As := []) (st := []) dL_law_490 tb_1489 ok_X12_lodgings ⟨_, (CR.o100 hcr).choose_spec⟩ (by omega) rfl rfl (r_lodgings l D b N V (by omega) cl hcr) rfl (Nat.le_of_ble_eq_true rfl) ⟨Nat.le_of_ble_eq_true rfl, Nat.le_of_ble_eq_true rfl, (show _ ≤ 600000 from by omega), (show _ ≤ 7302250 from by omega)⟩ (fun r_240 N_241 V_234 q_242 => ?_)
      obtain ⟨rfl, jr_238⟩ := q_242
      have cr_236 := jr_238.1
      have cw_235 := CW.out hcw (fun i hi => jr_238.2.1 i (Or.inl hi) (by omega))
      have wf_237 := WF.fr hwf jr_238.2.2.1
      have rl_239 : RLs V_234 := ⟨(congrArg (fun z => fI z 4) (jr_238.2.1 0 (Or.inl (by decide)) (by omega))).trans ((Eq.refl (fI (V 0) 4)).trans ((hrl.1).trans ((Eq.refl (fI (V 100) 51)).symm.trans (JR.fI jr_238 (by decide) (by decide) (by decide) : fI (V_234 100) 51 = fI (V 100) 51).symm))), (congrArg (fun z => fI z 7) (jr_238.2.1 3 (Or.inl (by decide)) (by omega))).trans ((Eq.refl (fI (V 3) 7)).trans ((hrl.2.1).trans ((Eq.refl (fI (V 101) 208)).symm.trans (JR.fI jr_238 (by decide) (by decide) (by decide) : fI (V_234 101) 208 = fI (V 101) 208).symm))), (congrArg (fun z => fI z 7) (jr_238.2.1 39 (Or.inl (by decide)) (by omega))).trans ((Eq.refl (fI (V 39) 7)).trans ((hrl.2.2.1).trans ((Eq.refl (fI (V 103) 208)).symm.trans (JR.fI jr_238 (by decide) (by decide) (by decide) : fI (V_234 103) 208 = fI (V 103) 208).symm))), (congrArg (fun z => fI z 1) (jr_238.2.1 1 (Or.inl (by decide)) (by omega))).trans ((Eq.refl (fI (V 1) 1)).trans ((hrl.2.2.2.1).trans ((Eq.refl (fI (V 100) 13)).symm.trans (JR.fI jr_238 (by decide) (by decide) (by decide) : fI (V_234 100) 13 = fI (V 100) 13).symm))), (congrArg (fun z => fI z 5) (jr_238.2.1 3 (Or.inl (by decide)) (by omega))).trans ((Eq.refl (fI (V 3) 5)).trans ((hrl.2.2.2.2.1).trans ((Eq.refl (fI (V 100) 9)).symm.trans (JR.fI jr_238 (by decide) (by decide) (by decide) : fI (V_234 100) 9 = fI (V 100) 9).symm))), (congrArg (fun z => fI z 6) (jr_238.2.1 3 (Or.inl (by decide)) (by omega))).trans ((Eq.refl (fI (V 3) 6)).trans ((hrl.2.2.2.2.2.1).trans ((Eq.refl (fI (V 100) 10)).symm.trans (JR.fI jr_238 (by decide) (by decide) (by decide) : fI (V_234 100) 10 = fI (V 100) 10).symm))), (congrArg fI (jr_238.2.1 2 (Or.inl (by decide)) (by omega))).trans ((Eq.refl (fI (V 2))).trans ((hrl.2.2.2.2.2.2.1).trans ((Eq.refl (gb (fI (V 110)))).symm.trans (congrArg (fun z => gb (fI z)) (JR.same jr_238 (by decide) (by decide) (fun k => (nfc (by omega) (nfc (by omega) nf0))))).symm))), (congrArg (fun z => rs (fI z)) (jr_238.2.1 17 (Or.inl (by decide)) (by omega))).trans ((Eq.refl (rs (fI (V 17)))).trans ((hrl.2.2.2.2.2.2.2.1).trans ((Eq.refl (rs (fI (V 104)))).symm.trans (congrArg (fun z => rs (fI z)) (JR.same jr_238 (by decide) (by decide) (fun k => (nfc (by omega) (nfc (by omega) nf0))))).symm))), GDS.cong ((congrArg (fun z => fI z 5) (jr_238.2.1 3 (Or.inl (by decide)) (by omega))).trans (Eq.refl (fI (V 3) 5))) ((congrArg (fun z => rs (fI z)) (jr_238.2.1 17 (Or.inl (by decide)) (by omega))).trans (Eq.refl (rs (fI (V 17))))) (hrl.2.2.2.2.2.2.2.2)⟩
      refine aw_pop dL_law_493 rfl ?_
      refine aw_goto (tgt := 981) dL_law_494 (by decide) ?_
      refine aw_iinc (v := (nI (i + 6))) (ls' := [some (.ref b9), some (.ref (b + 0)), some (.ref (b + 100)), some (.int (nI (i + 6)))]) dL_law_981 rfl (nI_add i 6) (Nat.le_of_ble_eq_true rfl) rfl ?_
      refine aw_goto (tgt := 18) dL_law_984 (by decide) ?_
      refine mih (M + 6 - (i + 6)) (by omega) (i + 6) N cl V_234 _ _ rfl (by omega) ?_ ?_ (by omega) cw_235 cr_236 wf_237 rl_239 <;> omega
    · skip
      refine aw_tableIn (off := 464) (tgt := 497) dL_law_33 (by decide) (by decide) (by decide) (by decide) ?_
      refine aw_aload_n dL_law_497 rfl ?_
      refine aw_aload_n dL_law_498 rfl ?_
      refine aw_iload_n dL_law_499 rfl ?_
      refine aw_iconst (v := 1) dL_law_500 (by decide) ?_
      refine aw_iadd dL_law_501 ?_
      refine aw_eqi (y := nI (i + 1)) (nI_add _ _) ?_
      refine aw_sld dL_law_502 rfl (vp_in_nI (n := (i + 1)) (by omega) (by omega)) ?_
      refine aw_callVi (J' := jX11_couples) (As := [.int (xs ((nI (i + 1))).toNatClampNeg)]) (st := []) dL_law_503 tb_814 ok_X11_couples ⟨_, (CW.o0 hcw).choose_spec⟩ (by omega) rfl rfl (g_X11_couples l D b N V (by omega) hcw (xs ((nI (i + 1))).toNatClampNeg)) rfl (Nat.le_of_ble_eq_true rfl) ⟨Nat.le_of_ble_eq_true rfl, Nat.le_of_ble_eq_true rfl, (show _ ≤ 600000 from by omega), (show _ ≤ 7302250 from by omega)⟩ (fun r_250 N_251 V_243 q_252 => ?_)
      obtain ⟨rfl, j_244⟩ := q_252
      have cw_247 := j_244.1
      have cr_248 := CR.fr hcr (fun i h1 h2 => j_244.2.1 i h1 (by omega))
      have wf_249 := WF.fr hwf (fun i h1 h2 => j_244.2.1 i (by omega) (by omega))
      refine aw_pop dL_law_506 rfl ?_
      refine aw_aload_n dL_law_507 rfl ?_
      refine aw_aload_n dL_law_508 rfl ?_
      refine aw_iload_n dL_law_509 rfl ?_
      refine aw_iconst (v := 1) dL_law_510 (by decide) ?_
      refine aw_iadd dL_law_511 ?_
      refine aw_eqi (y := nI (i + 1)) (nI_add _ _) ?_
      refine aw_sld dL_law_512 rfl (vp_in_nI (n := (i + 1)) (by omega) (by omega)) ?_
      refine aw_callVi (J' := jX12_couples) (As := [.int (xs ((nI (i + 1))).toNatClampNeg)]) (st := []) dL_law_513 tb_1493 ok_X12_couples ⟨_, (CR.o100 cr_248).choose_spec⟩ (by omega) rfl rfl (r_couples l D b N V_243 (by omega) cl cr_248 (xs ((nI (i + 1))).toNatClampNeg)) rfl (Nat.le_of_ble_eq_true rfl) ⟨Nat.le_of_ble_eq_true rfl, Nat.le_of_ble_eq_true rfl, (show _ ≤ 600000 from by omega), (show _ ≤ 7302250 from by omega)⟩ (fun r_259 N_260 V_253 q_261 => ?_)
      obtain ⟨rfl, jr_257⟩ := q_261
      have cr_255 := jr_257.1
      have cw_254 := CW.out cw_247 (fun i hi => jr_257.2.1 i (Or.inl hi) (by omega))
      have wf_256 := WF.fr wf_249 jr_257.2.2.1
      have rl_258 : RLs V_253 := ⟨(congrArg (fun z => fI z 4) (jr_257.2.1 0 (Or.inl (by decide)) (by omega))).trans ((JW.fI j_244 (by decide) (by decide) : fI (V_243 0) 4 = fI (V 0) 4).trans ((hrl.1).trans ((congrArg (fun z => fI z 51) (j_244.2.1 100 (by decide) (by omega))).symm.trans (JR.fI jr_257 (by decide) (by decide) (by decide) : fI (V_253 100) 51 = fI (V_243 100) 51).symm))), (congrArg (fun z => fI z 7) (jr_257.2.1 3 (Or.inl (by decide)) (by omega))).trans ((JW.fI j_244 (by decide) (by decide) : fI (V_243 3) 7 = fI (V 3) 7).trans ((hrl.2.1).trans ((congrArg (fun z => fI z 208) (j_244.2.1 101 (by decide) (by omega))).symm.trans (JR.fI jr_257 (by decide) (by decide) (by decide) : fI (V_253 101) 208 = fI (V_243 101) 208).symm))), (congrArg (fun z => fI z 7) (jr_257.2.1 39 (Or.inl (by decide)) (by omega))).trans ((JW.fI j_244 (by decide) (by decide) : fI (V_243 39) 7 = fI (V 39) 7).trans ((hrl.2.2.1).trans ((congrArg (fun z => fI z 208) (j_244.2.1 103 (by decide) (by omega))).symm.trans (JR.fI jr_257 (by decide) (by decide) (by decide) : fI (V_253 103) 208 = fI (V_243 103) 208).symm))), (congrArg (fun z => fI z 1) (jr_257.2.1 1 (Or.inl (by decide)) (by omega))).trans ((JW.fI j_244 (by decide) (by decide) : fI (V_243 1) 1 = fI (V 1) 1).trans ((hrl.2.2.2.1).trans ((congrArg (fun z => fI z 13) (j_244.2.1 100 (by decide) (by omega))).symm.trans (JR.fI jr_257 (by decide) (by decide) (by decide) : fI (V_253 100) 13 = fI (V_243 100) 13).symm))), (congrArg (fun z => fI z 5) (jr_257.2.1 3 (Or.inl (by decide)) (by omega))).trans ((JW.fI j_244 (by decide) (by decide) : fI (V_243 3) 5 = fI (V 3) 5).trans ((hrl.2.2.2.2.1).trans ((congrArg (fun z => fI z 9) (j_244.2.1 100 (by decide) (by omega))).symm.trans (JR.fI jr_257 (by decide) (by decide) (by decide) : fI (V_253 100) 9 = fI (V_243 100) 9).symm))), (congrArg (fun z => fI z 6) (jr_257.2.1 3 (Or.inl (by decide)) (by omega))).trans ((JW.fI j_244 (by decide) (by decide) : fI (V_243 3) 6 = fI (V 3) 6).trans ((hrl.2.2.2.2.2.1).trans ((congrArg (fun z => fI z 10) (j_244.2.1 100 (by decide) (by omega))).symm.trans (JR.fI jr_257 (by decide) (by decide) (by decide) : fI (V_253 100) 10 = fI (V_243 100) 10).symm))), (congrArg fI (jr_257.2.1 2 (Or.inl (by decide)) (by omega))).trans ((congrArg fI (JW.same j_244 (by decide) (fun k => (nfc (by omega) nf0)))).trans ((hrl.2.2.2.2.2.2.1).trans ((congrArg (fun z => gb (fI z)) (j_244.2.1 110 (by decide) (by omega))).symm.trans (congrArg (fun z => gb (fI z)) (JR.same jr_257 (by decide) (by decide) (fun k => (nfc (by omega) nf0)))).symm))), (congrArg (fun z => rs (fI z)) (jr_257.2.1 17 (Or.inl (by decide)) (by omega))).trans ((congrArg (fun z => rs (fI z)) (JW.same j_244 (by decide) (fun k => (nfc (by omega) nf0)))).trans ((hrl.2.2.2.2.2.2.2.1).trans ((congrArg (fun z => rs (fI z)) (j_244.2.1 104 (by decide) (by omega))).symm.trans (congrArg (fun z => rs (fI z)) (JR.same jr_257 (by decide) (by decide) (fun k => (nfc (by omega) nf0)))).symm))), GDS.cong ((congrArg (fun z => fI z 5) (jr_257.2.1 3 (Or.inl (by decide)) (by omega))).trans (JW.fI j_244 (by decide) (by decide) : fI (V_243 3) 5 = fI (V 3) 5)) ((congrArg (fun z => rs (fI z)) (jr_257.2.1 17 (Or.inl (by decide)) (by omega))).trans (congrArg (fun z => rs (fI z)) (JW.same j_244 (by decide) (fun k => (nfc (by omega) nf0))))) (hrl.2.2.2.2.2.2.2.2)⟩
      refine aw_pop dL_law_516 rfl ?_
      refine aw_goto (tgt := 981) dL_law_517 (by decide) ?_
      refine aw_iinc (v := (nI (i + 6))) (ls' := [some (.ref b9), some (.ref (b + 0)), some (.ref (b + 100)), some (.int (nI (i + 6)))]) dL_law_981 rfl (nI_add i 6) (Nat.le_of_ble_eq_true rfl) rfl ?_
      refine aw_goto (tgt := 18) dL_law_984 (by decide) ?_
      refine mih (M + 6 - (i + 6)) (by omega) (i + 6) N cl V_253 _ _ rfl (by omega) ?_ ?_ (by omega) cw_254 cr_255 wf_256 rl_258 <;> omega
    · skip
      refine aw_tableIn (off := 487) (tgt := 520) dL_law_33 (by decide) (by decide) (by decide) (by decide) ?_
      refine aw_aload_n dL_law_520 rfl ?_
      refine aw_aload_n dL_law_521 rfl ?_
      refine aw_iload_n dL_law_522 rfl ?_
      refine aw_iconst (v := 1) dL_law_523 (by decide) ?_
      refine aw_iadd dL_law_524 ?_
      refine aw_eqi (y := nI (i + 1)) (nI_add _ _) ?_
      refine aw_sld dL_law_525 rfl (vp_in_nI (n := (i + 1)) (by omega) (by omega)) ?_
      refine aw_aload_n dL_law_526 rfl ?_
      refine aw_iload_n dL_law_527 rfl ?_
      refine aw_iconst (v := 2) dL_law_528 (by decide) ?_
      refine aw_iadd dL_law_529 ?_
      refine aw_eqi (y := nI (i + 2)) (nI_add _ _) ?_
      refine aw_sld dL_law_530 rfl (vp_in_nI (n := (i + 2)) (by omega) (by omega)) ?_
      refine aw_aload_n dL_law_531 rfl ?_
      refine aw_iload_n dL_law_532 rfl ?_
      refine aw_iconst (v := 3) dL_law_533 (by decide) ?_
      refine aw_iadd dL_law_534 ?_
      refine aw_eqi (y := nI (i + 3)) (nI_add _ _) ?_
      refine aw_sld dL_law_535 rfl (vp_in_nI (n := (i + 3)) (by omega) (by omega)) ?_
      refine aw_callVi (J' := jX11_fashion) (As := [.int (xs ((nI (i + 1))).toNatClampNeg), .int (xs ((nI (i + 2))).toNatClampNeg), .int (xs ((nI (i + 3))).toNatClampNeg)]) (st := []) dL_law_536 tb_836 ok_X11_fashion ⟨_, (CW.o0 hcw).choose_spec⟩ (by omega) rfl rfl (g_X11_fashion l D b N V (by omega) hcw (xs ((nI (i + 1))).toNatClampNeg) (xs ((nI (i + 2))).toNatClampNeg) (xs ((nI (i + 3))).toNatClampNeg)) rfl (Nat.le_of_ble_eq_true rfl) ⟨Nat.le_of_ble_eq_true rfl, Nat.le_of_ble_eq_true rfl, (show _ ≤ 600000 from by omega), (show _ ≤ 7302250 from by omega)⟩ (fun r_263 N_264 V_265 q_266 => ?_)
      obtain ⟨rfl, rfl⟩ := q_266
      refine aw_pop dL_law_539 rfl ?_
      refine aw_aload_n dL_law_540 rfl ?_
      refine aw_aload_n dL_law_541 rfl ?_
      refine aw_iload_n dL_law_542 rfl ?_
      refine aw_iconst (v := 1) dL_law_543 (by decide) ?_
      refine aw_iadd dL_law_544 ?_
      refine aw_eqi (y := nI (i + 1)) (nI_add _ _) ?_
      refine aw_sld dL_law_545 rfl (vp_in_nI (n := (i + 1)) (by omega) (by omega)) ?_
      refine aw_aload_n dL_law_546 rfl ?_
      refine aw_iload_n dL_law_547 rfl ?_
      refine aw_iconst (v := 2) dL_law_548 (by decide) ?_
      refine aw_iadd dL_law_549 ?_
      refine aw_eqi (y := nI (i + 2)) (nI_add _ _) ?_
      refine aw_sld dL_law_550 rfl (vp_in_nI (n := (i + 2)) (by omega) (by omega)) ?_
      refine aw_aload_n dL_law_551 rfl ?_
      refine aw_iload_n dL_law_552 rfl ?_
      refine aw_iconst (v := 3) dL_law_553 (by decide) ?_
      refine aw_iadd dL_law_554 ?_
      refine aw_eqi (y := nI (i + 3)) (nI_add _ _) ?_
      refine aw_sld dL_law_555 rfl (vp_in_nI (n := (i + 3)) (by omega) (by omega)) ?_
      refine aw_callVi (J' := jX12_fashion) (As := [.int (xs ((nI (i + 1))).toNatClampNeg), .int (xs ((nI (i + 2))).toNatClampNeg), .int (xs ((nI (i + 3))).toNatClampNeg)]) (st := []) dL_law_556 tb_1504 ok_X12_fashion ⟨_, (CR.o100 hcr).choose_spec⟩ (by omega) rfl rfl (r_fashion l D b N V (by omega) cl hcr (xs ((nI (i + 1))).toNatClampNeg) (xs ((nI (i + 2))).toNatClampNeg) (xs ((nI (i + 3))).toNatClampNeg)) rfl (Nat.le_of_ble_eq_true rfl) ⟨Nat.le_of_ble_eq_true rfl, Nat.le_of_ble_eq_true rfl, (show _ ≤ 600000 from by omega), (show _ ≤ 7302250 from by omega)⟩ (fun r_273 N_274 V_275 q_276 => ?_)
      obtain ⟨rfl, rfl⟩ := q_276
      refine aw_pop dL_law_559 rfl ?_
      refine aw_goto (tgt := 981) dL_law_560 (by decide) ?_
      refine aw_iinc (v := (nI (i + 6))) (ls' := [some (.ref b9), some (.ref (b + 0)), some (.ref (b + 100)), some (.int (nI (i + 6)))]) dL_law_981 rfl (nI_add i 6) (Nat.le_of_ble_eq_true rfl) rfl ?_
      refine aw_goto (tgt := 18) dL_law_984 (by decide) ?_
      refine mih (M + 6 - (i + 6)) (by omega) (i + 6) N cl V _ _ rfl (by omega) ?_ ?_ (by omega) hcw hcr hwf hrl <;> omega
    · skip
      refine aw_tableIn (off := 530) (tgt := 563) dL_law_33 (by decide) (by decide) (by decide) (by decide) ?_
      refine aw_aload_n dL_law_563 rfl ?_
      refine aw_aload_n dL_law_564 rfl ?_
      refine aw_iload_n dL_law_565 rfl ?_
      refine aw_iconst (v := 1) dL_law_566 (by decide) ?_
      refine aw_iadd dL_law_567 ?_
      refine aw_eqi (y := nI (i + 1)) (nI_add _ _) ?_
      refine aw_sld dL_law_568 rfl (vp_in_nI (n := (i + 1)) (by omega) (by omega)) ?_
      refine aw_callVi (J' := jX11_fears) (As := [.int (xs ((nI (i + 1))).toNatClampNeg)]) (st := []) dL_law_569 tb_849 ok_X11_fears ⟨_, (CW.o0 hcw).choose_spec⟩ (by omega) rfl rfl (g_X11_fears l D b N V (by omega) hcw (xs ((nI (i + 1))).toNatClampNeg)) rfl (Nat.le_of_ble_eq_true rfl) ⟨Nat.le_of_ble_eq_true rfl, Nat.le_of_ble_eq_true rfl, (show _ ≤ 600000 from by omega), (show _ ≤ 7302250 from by omega)⟩ (fun r_278 N_279 V_280 q_281 => ?_)
      obtain ⟨rfl, rfl⟩ := q_281
      refine aw_pop dL_law_572 rfl ?_
      refine aw_aload_n dL_law_573 rfl ?_
      refine aw_aload_n dL_law_574 rfl ?_
      refine aw_iload_n dL_law_575 rfl ?_
      refine aw_iconst (v := 1) dL_law_576 (by decide) ?_
      refine aw_iadd dL_law_577 ?_
      refine aw_eqi (y := nI (i + 1)) (nI_add _ _) ?_
      refine aw_sld dL_law_578 rfl (vp_in_nI (n := (i + 1)) (by omega) (by omega)) ?_
      refine aw_callVi (J' := jX12_fears) (As := [.int (xs ((nI (i + 1))).toNatClampNeg)]) (st := []) dL_law_579 tb_1512 ok_X12_fears ⟨_, (CR.o100 hcr).choose_spec⟩ (by omega) rfl rfl (r_fears l D b N V (by omega) cl hcr (xs ((nI (i + 1))).toNatClampNeg)) rfl (Nat.le_of_ble_eq_true rfl) ⟨Nat.le_of_ble_eq_true rfl, Nat.le_of_ble_eq_true rfl, (show _ ≤ 600000 from by omega), (show _ ≤ 7302250 from by omega)⟩ (fun r_288 N_289 V_290 q_291 => ?_)
      obtain ⟨rfl, rfl⟩ := q_291
      refine aw_pop dL_law_582 rfl ?_
      refine aw_goto (tgt := 981) dL_law_583 (by decide) ?_
      refine aw_iinc (v := (nI (i + 6))) (ls' := [some (.ref b9), some (.ref (b + 0)), some (.ref (b + 100)), some (.int (nI (i + 6)))]) dL_law_981 rfl (nI_add i 6) (Nat.le_of_ble_eq_true rfl) rfl ?_
      refine aw_goto (tgt := 18) dL_law_984 (by decide) ?_
      refine mih (M + 6 - (i + 6)) (by omega) (i + 6) N cl V _ _ rfl (by omega) ?_ ?_ (by omega) hcw hcr hwf hrl <;> omega
    · skip
      refine aw_tableIn (off := 553) (tgt := 586) dL_law_33 (by decide) (by decide) (by decide) (by decide) ?_
      refine aw_aload_n dL_law_586 rfl ?_
      refine aw_aload_n dL_law_587 rfl ?_
      refine aw_iload_n dL_law_588 rfl ?_
      refine aw_iconst (v := 1) dL_law_589 (by decide) ?_
      refine aw_iadd dL_law_590 ?_
      refine aw_eqi (y := nI (i + 1)) (nI_add _ _) ?_
      refine aw_sld dL_law_591 rfl (vp_in_nI (n := (i + 1)) (by omega) (by omega)) ?_
      refine aw_aload_n dL_law_592 rfl ?_
      refine aw_iload_n dL_law_593 rfl ?_
      refine aw_iconst (v := 2) dL_law_594 (by decide) ?_
      refine aw_iadd dL_law_595 ?_
      refine aw_eqi (y := nI (i + 2)) (nI_add _ _) ?_
      refine aw_sld dL_law_596 rfl (vp_in_nI (n := (i + 2)) (by omega) (by omega)) ?_
      refine aw_callVi (J' := jX11_unlike) (As := [.int (xs ((nI (i + 1))).toNatClampNeg), .int (xs ((nI (i + 2))).toNatClampNeg)]) (st := []) dL_law_597 tb_863 ok_X11_unlike ⟨_, (CW.o0 hcw).choose_spec⟩ (by omega) rfl rfl (g_X11_unlike l D b N V (by omega) hcw (xs ((nI (i + 1))).toNatClampNeg) (xs ((nI (i + 2))).toNatClampNeg)) rfl (Nat.le_of_ble_eq_true rfl) ⟨Nat.le_of_ble_eq_true rfl, Nat.le_of_ble_eq_true rfl, (show _ ≤ 600000 from by omega), (show _ ≤ 7302250 from by omega)⟩ (fun r_293 N_294 V_295 q_296 => ?_)
      obtain ⟨rfl, rfl⟩ := q_296
      refine aw_pop dL_law_600 rfl ?_
      refine aw_aload_n dL_law_601 rfl ?_
      refine aw_aload_n dL_law_602 rfl ?_
      refine aw_iload_n dL_law_603 rfl ?_
      refine aw_iconst (v := 1) dL_law_604 (by decide) ?_
      refine aw_iadd dL_law_605 ?_
      refine aw_eqi (y := nI (i + 1)) (nI_add _ _) ?_
      refine aw_sld dL_law_606 rfl (vp_in_nI (n := (i + 1)) (by omega) (by omega)) ?_
      refine aw_aload_n dL_law_607 rfl ?_
      refine aw_iload_n dL_law_608 rfl ?_
      refine aw_iconst (v := 2) dL_law_609 (by decide) ?_
      refine aw_iadd dL_law_610 ?_
      refine aw_eqi (y := nI (i + 2)) (nI_add _ _) ?_
      refine aw_sld dL_law_611 rfl (vp_in_nI (n := (i + 2)) (by omega) (by omega)) ?_
      refine aw_callVi (J' := jX12_unlike) (As := [.int (xs ((nI (i + 1))).toNatClampNeg), .int (xs ((nI (i + 2))).toNatClampNeg)]) (st := []) dL_law_612 tb_1516 ok_X12_unlike ⟨_, (CR.o100 hcr).choose_spec⟩ (by omega) rfl rfl (r_unlike l D b N V (by omega) cl hcr (xs ((nI (i + 1))).toNatClampNeg) (xs ((nI (i + 2))).toNatClampNeg)) rfl (Nat.le_of_ble_eq_true rfl) ⟨Nat.le_of_ble_eq_true rfl, Nat.le_of_ble_eq_true rfl, (show _ ≤ 600000 from by omega), (show _ ≤ 7302250 from by omega)⟩ (fun r_303 N_304 V_305 q_306 => ?_)
      obtain ⟨rfl, rfl⟩ := q_306
      refine aw_pop dL_law_615 rfl ?_
      refine aw_goto (tgt := 981) dL_law_616 (by decide) ?_
      refine aw_iinc (v := (nI (i + 6))) (ls' := [some (.ref b9), some (.ref (b + 0)), some (.ref (b + 100)), some (.int (nI (i + 6)))]) dL_law_981 rfl (nI_add i 6) (Nat.le_of_ble_eq_true rfl) rfl ?_
      refine aw_goto (tgt := 18) dL_law_984 (by decide) ?_
      refine mih (M + 6 - (i + 6)) (by omega) (i + 6) N cl V _ _ rfl (by omega) ?_ ?_ (by omega) hcw hcr hwf hrl <;> omega
    · skip
      refine aw_tableIn (off := 586) (tgt := 619) dL_law_33 (by decide) (by decide) (by decide) (by decide) ?_
      refine aw_aload_n dL_law_619 rfl ?_
      refine aw_aload_n dL_law_620 rfl ?_
      refine aw_iload_n dL_law_621 rfl ?_
      refine aw_iconst (v := 1) dL_law_622 (by decide) ?_
      refine aw_iadd dL_law_623 ?_
      refine aw_eqi (y := nI (i + 1)) (nI_add _ _) ?_
      refine aw_sld dL_law_624 rfl (vp_in_nI (n := (i + 1)) (by omega) (by omega)) ?_
      refine aw_callVi (J' := jX11_mostLike) (As := [.int (xs ((nI (i + 1))).toNatClampNeg)]) (st := []) dL_law_625 tb_872 ok_X11_mostLike ⟨_, (CW.o0 hcw).choose_spec⟩ (by omega) rfl rfl (g_X11_mostLike l D b N V (by omega) hcw (xs ((nI (i + 1))).toNatClampNeg)) rfl (Nat.le_of_ble_eq_true rfl) ⟨Nat.le_of_ble_eq_true rfl, Nat.le_of_ble_eq_true rfl, (show _ ≤ 600000 from by omega), (show _ ≤ 7302250 from by omega)⟩ (fun r_308 N_309 V_310 q_311 => ?_)
      obtain ⟨rfl, rfl⟩ := q_311
      refine aw_pop dL_law_628 rfl ?_
      refine aw_aload_n dL_law_629 rfl ?_
      refine aw_aload_n dL_law_630 rfl ?_
      refine aw_iload_n dL_law_631 rfl ?_
      refine aw_iconst (v := 1) dL_law_632 (by decide) ?_
      refine aw_iadd dL_law_633 ?_
      refine aw_eqi (y := nI (i + 1)) (nI_add _ _) ?_
      refine aw_sld dL_law_634 rfl (vp_in_nI (n := (i + 1)) (by omega) (by omega)) ?_
      refine aw_callVi (J' := jX12_mostLike) (As := [.int (xs ((nI (i + 1))).toNatClampNeg)]) (st := []) dL_law_635 tb_1524 ok_X12_mostLike ⟨_, (CR.o100 hcr).choose_spec⟩ (by omega) rfl rfl (r_mostLike l D b N V (by omega) cl hcr (xs ((nI (i + 1))).toNatClampNeg)) rfl (Nat.le_of_ble_eq_true rfl) ⟨Nat.le_of_ble_eq_true rfl, Nat.le_of_ble_eq_true rfl, (show _ ≤ 600000 from by omega), (show _ ≤ 7302250 from by omega)⟩ (fun r_318 N_319 V_320 q_321 => ?_)
      obtain ⟨rfl, rfl⟩ := q_321
      refine aw_pop dL_law_638 rfl ?_
      refine aw_goto (tgt := 981) dL_law_639 (by decide) ?_
      refine aw_iinc (v := (nI (i + 6))) (ls' := [some (.ref b9), some (.ref (b + 0)), some (.ref (b + 100)), some (.int (nI (i + 6)))]) dL_law_981 rfl (nI_add i 6) (Nat.le_of_ble_eq_true rfl) rfl ?_
      refine aw_goto (tgt := 18) dL_law_984 (by decide) ?_
      refine mih (M + 6 - (i + 6)) (by omega) (i + 6) N cl V _ _ rfl (by omega) ?_ ?_ (by omega) hcw hcr hwf hrl <;> omega
    · skip
      refine aw_tableIn (off := 609) (tgt := 642) dL_law_33 (by decide) (by decide) (by decide) (by decide) ?_
      refine aw_aload_n dL_law_642 rfl ?_
      refine aw_aload_n dL_law_643 rfl ?_
      refine aw_iload_n dL_law_644 rfl ?_
      refine aw_iconst (v := 1) dL_law_645 (by decide) ?_
      refine aw_iadd dL_law_646 ?_
      refine aw_eqi (y := nI (i + 1)) (nI_add _ _) ?_
      refine aw_sld dL_law_647 rfl (vp_in_nI (n := (i + 1)) (by omega) (by omega)) ?_
      refine aw_aload_n dL_law_648 rfl ?_
      refine aw_iload_n dL_law_649 rfl ?_
      refine aw_iconst (v := 2) dL_law_650 (by decide) ?_
      refine aw_iadd dL_law_651 ?_
      refine aw_eqi (y := nI (i + 2)) (nI_add _ _) ?_
      refine aw_sld dL_law_652 rfl (vp_in_nI (n := (i + 2)) (by omega) (by omega)) ?_
      refine aw_callVi (J' := jX11_circles) (As := [.int (xs ((nI (i + 1))).toNatClampNeg), .int (xs ((nI (i + 2))).toNatClampNeg)]) (st := []) dL_law_653 tb_881 ok_X11_circles ⟨_, (CW.o0 hcw).choose_spec⟩ (by omega) rfl rfl (g_X11_circles l D b N V (by omega) hcw (xs ((nI (i + 1))).toNatClampNeg) (xs ((nI (i + 2))).toNatClampNeg)) rfl (Nat.le_of_ble_eq_true rfl) ⟨Nat.le_of_ble_eq_true rfl, Nat.le_of_ble_eq_true rfl, (show _ ≤ 600000 from by omega), (show _ ≤ 7302250 from by omega)⟩ (fun r_329 N_330 V_322 q_331 => ?_)
      obtain ⟨rfl, j_323⟩ := q_331
      have cw_326 := j_323.1
      have cr_327 := CR.fr hcr (fun i h1 h2 => j_323.2.1 i h1 (by omega))
      have wf_328 := WF.fr hwf (fun i h1 h2 => j_323.2.1 i (by omega) (by omega))
      refine aw_pop dL_law_656 rfl ?_
      refine aw_aload_n dL_law_657 rfl ?_
      refine aw_aload_n dL_law_658 rfl ?_
      refine aw_iload_n dL_law_659 rfl ?_
      refine aw_iconst (v := 1) dL_law_660 (by decide) ?_
      refine aw_iadd dL_law_661 ?_
      refine aw_eqi (y := nI (i + 1)) (nI_add _ _) ?_
      refine aw_sld dL_law_662 rfl (vp_in_nI (n := (i + 1)) (by omega) (by omega)) ?_
      refine aw_aload_n dL_law_663 rfl ?_
      refine aw_iload_n dL_law_664 rfl ?_
      refine aw_iconst (v := 2) dL_law_665 (by decide) ?_
      refine aw_iadd dL_law_666 ?_
      refine aw_eqi (y := nI (i + 2)) (nI_add _ _) ?_
      refine aw_sld dL_law_667 rfl (vp_in_nI (n := (i + 2)) (by omega) (by omega)) ?_
      refine aw_callVi (J' := jX12_circles) (As := [.int (xs ((nI (i + 1))).toNatClampNeg), .int (xs ((nI (i + 2))).toNatClampNeg)]) (st := []) dL_law_668 tb_1528 ok_X12_circles ⟨_, (CR.o100 cr_327).choose_spec⟩ (by omega) rfl rfl (r_circles l D b N V_322 (by omega) cl cr_327 (xs ((nI (i + 1))).toNatClampNeg) (xs ((nI (i + 2))).toNatClampNeg)) rfl (Nat.le_of_ble_eq_true rfl) ⟨Nat.le_of_ble_eq_true rfl, Nat.le_of_ble_eq_true rfl, (show _ ≤ 600000 from by omega), (show _ ≤ 7302250 from by omega)⟩ (fun r_338 N_339 V_340 q_341 => ?_)
      obtain ⟨rfl, rfl⟩ := q_341
      have rl_337 : RLs V_322 := ⟨(Eq.refl (fI (V_322 0) 4)).trans ((JW.fI j_323 (by decide) (by decide) : fI (V_322 0) 4 = fI (V 0) 4).trans ((hrl.1).trans ((congrArg (fun z => fI z 51) (j_323.2.1 100 (by decide) (by omega))).symm.trans (Eq.refl (fI (V_322 100) 51)).symm))), (Eq.refl (fI (V_322 3) 7)).trans ((JW.fI j_323 (by decide) (by decide) : fI (V_322 3) 7 = fI (V 3) 7).trans ((hrl.2.1).trans ((congrArg (fun z => fI z 208) (j_323.2.1 101 (by decide) (by omega))).symm.trans (Eq.refl (fI (V_322 101) 208)).symm))), (Eq.refl (fI (V_322 39) 7)).trans ((JW.fI j_323 (by decide) (by decide) : fI (V_322 39) 7 = fI (V 39) 7).trans ((hrl.2.2.1).trans ((congrArg (fun z => fI z 208) (j_323.2.1 103 (by decide) (by omega))).symm.trans (Eq.refl (fI (V_322 103) 208)).symm))), (Eq.refl (fI (V_322 1) 1)).trans ((JW.fI j_323 (by decide) (by decide) : fI (V_322 1) 1 = fI (V 1) 1).trans ((hrl.2.2.2.1).trans ((congrArg (fun z => fI z 13) (j_323.2.1 100 (by decide) (by omega))).symm.trans (Eq.refl (fI (V_322 100) 13)).symm))), (Eq.refl (fI (V_322 3) 5)).trans ((JW.fI j_323 (by decide) (by decide) : fI (V_322 3) 5 = fI (V 3) 5).trans ((hrl.2.2.2.2.1).trans ((congrArg (fun z => fI z 9) (j_323.2.1 100 (by decide) (by omega))).symm.trans (Eq.refl (fI (V_322 100) 9)).symm))), (Eq.refl (fI (V_322 3) 6)).trans ((JW.fI j_323 (by decide) (by decide) : fI (V_322 3) 6 = fI (V 3) 6).trans ((hrl.2.2.2.2.2.1).trans ((congrArg (fun z => fI z 10) (j_323.2.1 100 (by decide) (by omega))).symm.trans (Eq.refl (fI (V_322 100) 10)).symm))), (Eq.refl (fI (V_322 2))).trans ((congrArg fI (JW.same j_323 (by decide) (fun k => (nfc (by omega) nf0)))).trans ((hrl.2.2.2.2.2.2.1).trans ((congrArg (fun z => gb (fI z)) (j_323.2.1 110 (by decide) (by omega))).symm.trans (Eq.refl (gb (fI (V_322 110)))).symm))), (Eq.refl (rs (fI (V_322 17)))).trans ((congrArg (fun z => rs (fI z)) (JW.same j_323 (by decide) (fun k => (nfc (by omega) nf0)))).trans ((hrl.2.2.2.2.2.2.2.1).trans ((congrArg (fun z => rs (fI z)) (j_323.2.1 104 (by decide) (by omega))).symm.trans (Eq.refl (rs (fI (V_322 104)))).symm))), GDS.cong ((Eq.refl (fI (V_322 3) 5)).trans (JW.fI j_323 (by decide) (by decide) : fI (V_322 3) 5 = fI (V 3) 5)) ((Eq.refl (rs (fI (V_322 17)))).trans (congrArg (fun z => rs (fI z)) (JW.same j_323 (by decide) (fun k => (nfc (by omega) nf0))))) (hrl.2.2.2.2.2.2.2.2)⟩
      refine aw_pop dL_law_671 rfl ?_
      refine aw_goto (tgt := 981) dL_law_672 (by decide) ?_
      refine aw_iinc (v := (nI (i + 6))) (ls' := [some (.ref b9), some (.ref (b + 0)), some (.ref (b + 100)), some (.int (nI (i + 6)))]) dL_law_981 rfl (nI_add i 6) (Nat.le_of_ble_eq_true rfl) rfl ?_
      refine aw_goto (tgt := 18) dL_law_984 (by decide) ?_
      refine mih (M + 6 - (i + 6)) (by omega) (i + 6) N cl V_322 _ _ rfl (by omega) ?_ ?_ (by omega) cw_326 cr_327 wf_328 rl_337 <;> omega
    · skip
      refine aw_tableIn (off := 642) (tgt := 675) dL_law_33 (by decide) (by decide) (by decide) (by decide) ?_
      refine aw_aload_n dL_law_675 rfl ?_
      refine aw_callVi (J' := jX11_keystones) (As := []) (st := []) dL_law_676 tb_904 ok_X11_keystones ⟨_, (CW.o0 hcw).choose_spec⟩ (by omega) rfl rfl (g_X11_keystonesS l D b N V (by omega) hcw (gK (rs (fI (V 17))))  (gC hrl) (gP (fI (V 3) 5))  (hrl.2.2.2.2.2.2.2.2).get.1 (hrl.2.2.2.2.2.2.2.2).get.2.2) rfl (Nat.le_of_ble_eq_true rfl) ⟨Nat.le_of_ble_eq_true rfl, Nat.le_of_ble_eq_true rfl, (show _ ≤ 600000 from by omega), (show _ ≤ 7302250 from by omega)⟩ (fun r_344 N_345 V_346 q_347 => ?_)
      obtain ⟨hq_343, rfl, rfl⟩ := q_347
      refine aw_pop dL_law_679 rfl ?_
      refine aw_aload_n dL_law_680 rfl ?_
      refine aw_callVi (J' := jX12_keystones) (As := []) (st := []) dL_law_681 tb_1536 ok_X12_keystones ⟨_, (CR.o100 hcr).choose_spec⟩ (by omega) rfl rfl (r_keystonesS l D b N V (by omega) cl hcr (gK (rs (fI (V 17))))  (gM hrl) (gP (fI (V 3) 5))  ⟨(hrl.2.2.2.2.2.2.2.2).get.1.1, (hrl.2.2.2.2.1).symm.trans (hrl.2.2.2.2.2.2.2.2).get.1.2⟩) rfl (Nat.le_of_ble_eq_true rfl) ⟨Nat.le_of_ble_eq_true rfl, Nat.le_of_ble_eq_true rfl, (show _ ≤ 600000 from by omega), (show _ ≤ 7302250 from by omega)⟩ (fun r_355 N_356 V_357 q_358 => ?_)
      obtain ⟨gq_354, rfl, rfl⟩ := q_358
      refine aw_pop dL_law_684 rfl ?_
      refine aw_goto (tgt := 981) dL_law_685 (by decide) ?_
      refine aw_iinc (v := (nI (i + 6))) (ls' := [some (.ref b9), some (.ref (b + 0)), some (.ref (b + 100)), some (.int (nI (i + 6)))]) dL_law_981 rfl (nI_add i 6) (Nat.le_of_ble_eq_true rfl) rfl ?_
      refine aw_goto (tgt := 18) dL_law_984 (by decide) ?_
      refine mih (M + 6 - (i + 6)) (by omega) (i + 6) N cl V _ _ rfl (by omega) ?_ ?_ (by omega) hcw hcr hwf hrl <;> omega
    · skip
      refine aw_tableIn (off := 655) (tgt := 688) dL_law_33 (by decide) (by decide) (by decide) (by decide) ?_
      refine aw_aload_n dL_law_688 rfl ?_
      refine aw_aload_n dL_law_689 rfl ?_
      refine aw_iload_n dL_law_690 rfl ?_
      refine aw_iconst (v := 1) dL_law_691 (by decide) ?_
      refine aw_iadd dL_law_692 ?_
      refine aw_eqi (y := nI (i + 1)) (nI_add _ _) ?_
      refine aw_sld dL_law_693 rfl (vp_in_nI (n := (i + 1)) (by omega) (by omega)) ?_
      refine aw_aload_n dL_law_694 rfl ?_
      refine aw_iload_n dL_law_695 rfl ?_
      refine aw_iconst (v := 2) dL_law_696 (by decide) ?_
      refine aw_iadd dL_law_697 ?_
      refine aw_eqi (y := nI (i + 2)) (nI_add _ _) ?_
      refine aw_sld dL_law_698 rfl (vp_in_nI (n := (i + 2)) (by omega) (by omega)) ?_
      refine aw_callVi (J' := jX11_steps) (As := [.int (xs ((nI (i + 1))).toNatClampNeg), .int (xs ((nI (i + 2))).toNatClampNeg)]) (st := []) dL_law_699 tb_911 ok_X11_steps ⟨_, (CW.o0 hcw).choose_spec⟩ (by omega) rfl rfl (g_X11_stepsS l D b N V (by omega) hcw (xs ((nI (i + 1))).toNatClampNeg) (xs ((nI (i + 2))).toNatClampNeg) (knOf V) (knC hcr hrl)) rfl (Nat.le_of_ble_eq_true rfl) ⟨Nat.le_of_ble_eq_true rfl, Nat.le_of_ble_eq_true rfl, (show _ ≤ 600000 from by omega), (show _ ≤ 7302250 from by omega)⟩ (fun r_361 N_362 V_363 q_364 => ?_)
      obtain ⟨hq_360, rfl, rfl⟩ := q_364
      refine aw_pop dL_law_702 rfl ?_
      refine aw_aload_n dL_law_703 rfl ?_
      refine aw_aload_n dL_law_704 rfl ?_
      refine aw_iload_n dL_law_705 rfl ?_
      refine aw_iconst (v := 1) dL_law_706 (by decide) ?_
      refine aw_iadd dL_law_707 ?_
      refine aw_eqi (y := nI (i + 1)) (nI_add _ _) ?_
      refine aw_sld dL_law_708 rfl (vp_in_nI (n := (i + 1)) (by omega) (by omega)) ?_
      refine aw_aload_n dL_law_709 rfl ?_
      refine aw_iload_n dL_law_710 rfl ?_
      refine aw_iconst (v := 2) dL_law_711 (by decide) ?_
      refine aw_iadd dL_law_712 ?_
      refine aw_eqi (y := nI (i + 2)) (nI_add _ _) ?_
      refine aw_sld dL_law_713 rfl (vp_in_nI (n := (i + 2)) (by omega) (by omega)) ?_
      refine aw_callVi (J' := jX12_steps) (As := [.int (xs ((nI (i + 1))).toNatClampNeg), .int (xs ((nI (i + 2))).toNatClampNeg)]) (st := []) dL_law_714 tb_1548 ok_X12_steps ⟨_, (CR.o100 hcr).choose_spec⟩ (by omega) rfl rfl (r_stepsS l D b N V (by omega) cl hcr (xs ((nI (i + 1))).toNatClampNeg) (xs ((nI (i + 2))).toNatClampNeg) (knOf V) (knM hcr)) rfl (Nat.le_of_ble_eq_true rfl) ⟨Nat.le_of_ble_eq_true rfl, Nat.le_of_ble_eq_true rfl, (show _ ≤ 600000 from by omega), (show _ ≤ 7302250 from by omega)⟩ (fun r_373 N_374 V_375 q_376 => ?_)
      obtain ⟨gq_371, rfl, rfl⟩ := q_376
      have e_372 : fI (V 100) 9 = fI (V 3) 5 := (Eq.refl (fI (V 100) 9)).trans (hrl.2.2.2.2.1).symm
      rw [e_372] at gq_371
      refine aw_pop dL_law_717 rfl ?_
      refine aw_goto (tgt := 981) dL_law_718 (by decide) ?_
      refine aw_iinc (v := (nI (i + 6))) (ls' := [some (.ref b9), some (.ref (b + 0)), some (.ref (b + 100)), some (.int (nI (i + 6)))]) dL_law_981 rfl (nI_add i 6) (Nat.le_of_ble_eq_true rfl) rfl ?_
      refine aw_goto (tgt := 18) dL_law_984 (by decide) ?_
      refine mih (M + 6 - (i + 6)) (by omega) (i + 6) N cl V _ _ rfl (by omega) ?_ ?_ (by omega) hcw hcr hwf hrl <;> omega
    · skip
      refine aw_tableIn (off := 688) (tgt := 721) dL_law_33 (by decide) (by decide) (by decide) (by decide) ?_
      refine aw_aload_n dL_law_721 rfl ?_
      refine aw_aload_n dL_law_722 rfl ?_
      refine aw_iload_n dL_law_723 rfl ?_
      refine aw_iconst (v := 1) dL_law_724 (by decide) ?_
      refine aw_iadd dL_law_725 ?_
      refine aw_eqi (y := nI (i + 1)) (nI_add _ _) ?_
      refine aw_sld dL_law_726 rfl (vp_in_nI (n := (i + 1)) (by omega) (by omega)) ?_
      refine aw_aload_n dL_law_727 rfl ?_
      refine aw_iload_n dL_law_728 rfl ?_
      refine aw_iconst (v := 2) dL_law_729 (by decide) ?_
      refine aw_iadd dL_law_730 ?_
      refine aw_eqi (y := nI (i + 2)) (nI_add _ _) ?_
      refine aw_sld dL_law_731 rfl (vp_in_nI (n := (i + 2)) (by omega) (by omega)) ?_
      refine aw_callVi (J' := jX11_guess) (As := [.int (xs ((nI (i + 1))).toNatClampNeg), .int (xs ((nI (i + 2))).toNatClampNeg)]) (st := []) dL_law_732 tb_918 ok_X11_guess ⟨_, (CW.o0 hcw).choose_spec⟩ (by omega) rfl rfl (g_X11_guessK l D b N V (by omega) hcw (xs ((nI (i + 1))).toNatClampNeg) (xs ((nI (i + 2))).toNatClampNeg)) rfl (Nat.le_of_ble_eq_true rfl) ⟨Nat.le_of_ble_eq_true rfl, Nat.le_of_ble_eq_true rfl, (show _ ≤ 600000 from by omega), (show _ ≤ 7302250 from by omega)⟩ (fun r_385 N_386 V_377 q_387 => ?_)
      obtain ⟨hs_378, rfl, j_379⟩ := q_387
      have cw_382 := j_379.1
      have cr_383 := CR.fr hcr (fun i h1 h2 => j_379.2.1 i h1 (by omega))
      have wf_384 := WF.fr hwf (fun i h1 h2 => j_379.2.1 i (by omega) (by omega))
      refine aw_pop dL_law_735 rfl ?_
      refine aw_aload_n dL_law_736 rfl ?_
      refine aw_aload_n dL_law_737 rfl ?_
      refine aw_iload_n dL_law_738 rfl ?_
      refine aw_iconst (v := 1) dL_law_739 (by decide) ?_
      refine aw_iadd dL_law_740 ?_
      refine aw_eqi (y := nI (i + 1)) (nI_add _ _) ?_
      refine aw_sld dL_law_741 rfl (vp_in_nI (n := (i + 1)) (by omega) (by omega)) ?_
      refine aw_aload_n dL_law_742 rfl ?_
      refine aw_iload_n dL_law_743 rfl ?_
      refine aw_iconst (v := 2) dL_law_744 (by decide) ?_
      refine aw_iadd dL_law_745 ?_
      refine aw_eqi (y := nI (i + 2)) (nI_add _ _) ?_
      refine aw_sld dL_law_746 rfl (vp_in_nI (n := (i + 2)) (by omega) (by omega)) ?_
      refine aw_callVi (J' := jX12_guess) (As := [.int (xs ((nI (i + 1))).toNatClampNeg), .int (xs ((nI (i + 2))).toNatClampNeg)]) (st := []) dL_law_747 tb_1552 ok_X12_guess ⟨_, (CR.o100 cr_383).choose_spec⟩ (by omega) rfl rfl (r_guessK l D b N V_377 (by omega) cl cr_383 (xs ((nI (i + 1))).toNatClampNeg) (xs ((nI (i + 2))).toNatClampNeg) (xs ((nI (i + 1))).toNatClampNeg) (xs ((nI (i + 2))).toNatClampNeg) ⟨rfl, rfl⟩) rfl (Nat.le_of_ble_eq_true rfl) ⟨Nat.le_of_ble_eq_true rfl, Nat.le_of_ble_eq_true rfl, (show _ ≤ 600000 from by omega), (show _ ≤ 7302250 from by omega)⟩ (fun r_396 N_397 V_388 q_398 => ?_)
      obtain ⟨gs_394, rfl, jr_392⟩ := q_398
      have cr_390 := jr_392.1
      have cw_389 := CW.out cw_382 (fun i hi => jr_392.2.1 i (Or.inl hi) (by omega))
      have wf_391 := WF.fr wf_384 jr_392.2.2.1
      have e_395 : fI (V_377 100) 13 = fI (V 1) 1 := (congrArg (fun z => fI z 13) (j_379.2.1 100 (by decide) (by omega))).trans (hrl.2.2.2.1).symm
      rw [e_395] at gs_394
      have rl_393 : RLs V_388 := ⟨(congrArg (fun z => fI z 4) (jr_392.2.1 0 (Or.inl (by decide)) (by omega))).trans ((JW.fI j_379 (by decide) (by decide) : fI (V_377 0) 4 = fI (V 0) 4).trans ((hrl.1).trans ((congrArg (fun z => fI z 51) (j_379.2.1 100 (by decide) (by omega))).symm.trans (JR.fI jr_392 (by decide) (by decide) (by decide) : fI (V_388 100) 51 = fI (V_377 100) 51).symm))), (congrArg (fun z => fI z 7) (jr_392.2.1 3 (Or.inl (by decide)) (by omega))).trans ((JW.fI j_379 (by decide) (by decide) : fI (V_377 3) 7 = fI (V 3) 7).trans ((hrl.2.1).trans ((congrArg (fun z => fI z 208) (j_379.2.1 101 (by decide) (by omega))).symm.trans (JR.fI jr_392 (by decide) (by decide) (by decide) : fI (V_388 101) 208 = fI (V_377 101) 208).symm))), (congrArg (fun z => fI z 7) (jr_392.2.1 39 (Or.inl (by decide)) (by omega))).trans ((JW.fI j_379 (by decide) (by decide) : fI (V_377 39) 7 = fI (V 39) 7).trans ((hrl.2.2.1).trans ((congrArg (fun z => fI z 208) (j_379.2.1 103 (by decide) (by omega))).symm.trans (JR.fI jr_392 (by decide) (by decide) (by decide) : fI (V_388 103) 208 = fI (V_377 103) 208).symm))), (congrArg (fun z => fI z 1) (jr_392.2.1 1 (Or.inl (by decide)) (by omega))).trans (TKS.one hs_378 gs_394), (congrArg (fun z => fI z 5) (jr_392.2.1 3 (Or.inl (by decide)) (by omega))).trans ((JW.fI j_379 (by decide) (by decide) : fI (V_377 3) 5 = fI (V 3) 5).trans ((hrl.2.2.2.2.1).trans ((congrArg (fun z => fI z 9) (j_379.2.1 100 (by decide) (by omega))).symm.trans (JR.fI jr_392 (by decide) (by decide) (by decide) : fI (V_388 100) 9 = fI (V_377 100) 9).symm))), (congrArg (fun z => fI z 6) (jr_392.2.1 3 (Or.inl (by decide)) (by omega))).trans ((JW.fI j_379 (by decide) (by decide) : fI (V_377 3) 6 = fI (V 3) 6).trans ((hrl.2.2.2.2.2.1).trans ((congrArg (fun z => fI z 10) (j_379.2.1 100 (by decide) (by omega))).symm.trans (JR.fI jr_392 (by decide) (by decide) (by decide) : fI (V_388 100) 10 = fI (V_377 100) 10).symm))), (congrArg fI (jr_392.2.1 2 (Or.inl (by decide)) (by omega))).trans ((congrArg fI (JW.same j_379 (by decide) (fun k => (nfc (by omega) (nfc (by omega) (nfc (by omega) (nfc (by omega) nf0))))))).trans ((hrl.2.2.2.2.2.2.1).trans ((congrArg (fun z => gb (fI z)) (j_379.2.1 110 (by decide) (by omega))).symm.trans (congrArg (fun z => gb (fI z)) (JR.same jr_392 (by decide) (by decide) (fun k => (nfc (by omega) (nfc (by omega) (nfc (by omega) nf0)))))).symm))), (congrArg (fun z => rs (fI z)) (jr_392.2.1 17 (Or.inl (by decide)) (by omega))).trans ((congrArg (fun z => rs (fI z)) (JW.same j_379 (by decide) (fun k => (nfc (by omega) (nfc (by omega) (nfc (by omega) (nfc (by omega) nf0))))))).trans ((hrl.2.2.2.2.2.2.2.1).trans ((congrArg (fun z => rs (fI z)) (j_379.2.1 104 (by decide) (by omega))).symm.trans (congrArg (fun z => rs (fI z)) (JR.same jr_392 (by decide) (by decide) (fun k => (nfc (by omega) (nfc (by omega) (nfc (by omega) nf0)))))).symm))), GDS.cong ((congrArg (fun z => fI z 5) (jr_392.2.1 3 (Or.inl (by decide)) (by omega))).trans (JW.fI j_379 (by decide) (by decide) : fI (V_377 3) 5 = fI (V 3) 5)) ((congrArg (fun z => rs (fI z)) (jr_392.2.1 17 (Or.inl (by decide)) (by omega))).trans (congrArg (fun z => rs (fI z)) (JW.same j_379 (by decide) (fun k => (nfc (by omega) (nfc (by omega) (nfc (by omega) (nfc (by omega) nf0)))))))) (hrl.2.2.2.2.2.2.2.2)⟩
      refine aw_pop dL_law_750 rfl ?_
      refine aw_goto (tgt := 981) dL_law_751 (by decide) ?_
      refine aw_iinc (v := (nI (i + 6))) (ls' := [some (.ref b9), some (.ref (b + 0)), some (.ref (b + 100)), some (.int (nI (i + 6)))]) dL_law_981 rfl (nI_add i 6) (Nat.le_of_ble_eq_true rfl) rfl ?_
      refine aw_goto (tgt := 18) dL_law_984 (by decide) ?_
      refine mih (M + 6 - (i + 6)) (by omega) (i + 6) N cl V_388 _ _ rfl (by omega) ?_ ?_ (by omega) cw_389 cr_390 wf_391 rl_393 <;> omega
    · skip
      refine aw_tableIn (off := 721) (tgt := 754) dL_law_33 (by decide) (by decide) (by decide) (by decide) ?_
      refine aw_aload_n dL_law_754 rfl ?_
      refine aw_aload_n dL_law_755 rfl ?_
      refine aw_iload_n dL_law_756 rfl ?_
      refine aw_iconst (v := 1) dL_law_757 (by decide) ?_
      refine aw_iadd dL_law_758 ?_
      refine aw_eqi (y := nI (i + 1)) (nI_add _ _) ?_
      refine aw_sld dL_law_759 rfl (vp_in_nI (n := (i + 1)) (by omega) (by omega)) ?_
      refine aw_aload_n dL_law_760 rfl ?_
      refine aw_iload_n dL_law_761 rfl ?_
      refine aw_iconst (v := 2) dL_law_762 (by decide) ?_
      refine aw_iadd dL_law_763 ?_
      refine aw_eqi (y := nI (i + 2)) (nI_add _ _) ?_
      refine aw_sld dL_law_764 rfl (vp_in_nI (n := (i + 2)) (by omega) (by omega)) ?_
      refine aw_callVi (J' := jX11_sentNext) (As := [.int (xs ((nI (i + 1))).toNatClampNeg), .int (xs ((nI (i + 2))).toNatClampNeg)]) (st := []) dL_law_765 tb_942 ok_X11_sentNext ⟨_, (CW.o0 hcw).choose_spec⟩ (by omega) rfl rfl (g_X11_sentNext l D b N V (by omega) hcw (xs ((nI (i + 1))).toNatClampNeg) (xs ((nI (i + 2))).toNatClampNeg)) rfl (Nat.le_of_ble_eq_true rfl) ⟨Nat.le_of_ble_eq_true rfl, Nat.le_of_ble_eq_true rfl, (show _ ≤ 600000 from by omega), (show _ ≤ 7302250 from by omega)⟩ (fun r_400 N_401 V_402 q_403 => ?_)
      obtain ⟨rfl, rfl⟩ := q_403
      refine aw_pop dL_law_768 rfl ?_
      refine aw_aload_n dL_law_769 rfl ?_
      refine aw_aload_n dL_law_770 rfl ?_
      refine aw_iload_n dL_law_771 rfl ?_
      refine aw_iconst (v := 1) dL_law_772 (by decide) ?_
      refine aw_iadd dL_law_773 ?_
      refine aw_eqi (y := nI (i + 1)) (nI_add _ _) ?_
      refine aw_sld dL_law_774 rfl (vp_in_nI (n := (i + 1)) (by omega) (by omega)) ?_
      refine aw_aload_n dL_law_775 rfl ?_
      refine aw_iload_n dL_law_776 rfl ?_
      refine aw_iconst (v := 2) dL_law_777 (by decide) ?_
      refine aw_iadd dL_law_778 ?_
      refine aw_eqi (y := nI (i + 2)) (nI_add _ _) ?_
      refine aw_sld dL_law_779 rfl (vp_in_nI (n := (i + 2)) (by omega) (by omega)) ?_
      refine aw_callVi (J' := jX12_sentNext) (As := [.int (xs ((nI (i + 1))).toNatClampNeg), .int (xs ((nI (i + 2))).toNatClampNeg)]) (st := []) dL_law_780 tb_1564 ok_X12_sentNext ⟨_, (CR.o100 hcr).choose_spec⟩ (by omega) rfl rfl (r_sentNext l D b N V (by omega) cl hcr (xs ((nI (i + 1))).toNatClampNeg) (xs ((nI (i + 2))).toNatClampNeg)) rfl (Nat.le_of_ble_eq_true rfl) ⟨Nat.le_of_ble_eq_true rfl, Nat.le_of_ble_eq_true rfl, (show _ ≤ 600000 from by omega), (show _ ≤ 7302250 from by omega)⟩ (fun r_410 N_411 V_412 q_413 => ?_)
      obtain ⟨rfl, rfl⟩ := q_413
      refine aw_pop dL_law_783 rfl ?_
      refine aw_goto (tgt := 981) dL_law_784 (by decide) ?_
      refine aw_iinc (v := (nI (i + 6))) (ls' := [some (.ref b9), some (.ref (b + 0)), some (.ref (b + 100)), some (.int (nI (i + 6)))]) dL_law_981 rfl (nI_add i 6) (Nat.le_of_ble_eq_true rfl) rfl ?_
      refine aw_goto (tgt := 18) dL_law_984 (by decide) ?_
      refine mih (M + 6 - (i + 6)) (by omega) (i + 6) N cl V _ _ rfl (by omega) ?_ ?_ (by omega) hcw hcr hwf hrl <;> omega
    · skip
      refine aw_tableIn (off := 754) (tgt := 787) dL_law_33 (by decide) (by decide) (by decide) (by decide) ?_
      refine aw_aload_n dL_law_787 rfl ?_
      refine aw_aload_n dL_law_788 rfl ?_
      refine aw_iload_n dL_law_789 rfl ?_
      refine aw_iconst (v := 1) dL_law_790 (by decide) ?_
      refine aw_iadd dL_law_791 ?_
      refine aw_eqi (y := nI (i + 1)) (nI_add _ _) ?_
      refine aw_sld dL_law_792 rfl (vp_in_nI (n := (i + 1)) (by omega) (by omega)) ?_
      refine aw_callVi (J' := jX11_guards) (As := [.int (xs ((nI (i + 1))).toNatClampNeg)]) (st := []) dL_law_793 tb_954 ok_X11_guards ⟨_, (CW.o0 hcw).choose_spec⟩ (by omega) rfl rfl (g_X11_guardsK l D b N V (by omega) hcw (xs ((nI (i + 1))).toNatClampNeg)) rfl (Nat.le_of_ble_eq_true rfl) ⟨Nat.le_of_ble_eq_true rfl, Nat.le_of_ble_eq_true rfl, (show _ ≤ 600000 from by omega), (show _ ≤ 7302250 from by omega)⟩ (fun r_422 N_423 V_414 q_424 => ?_)
      obtain ⟨hs_415, rfl, j_416⟩ := q_424
      have cw_419 := j_416.1
      have cr_420 := CR.fr hcr (fun i h1 h2 => j_416.2.1 i h1 (by omega))
      have wf_421 := WF.fr hwf (fun i h1 h2 => j_416.2.1 i (by omega) (by omega))
      refine aw_pop dL_law_796 rfl ?_
      refine aw_aload_n dL_law_797 rfl ?_
      refine aw_aload_n dL_law_798 rfl ?_
      refine aw_iload_n dL_law_799 rfl ?_
      refine aw_iconst (v := 1) dL_law_800 (by decide) ?_
      refine aw_iadd dL_law_801 ?_
      refine aw_eqi (y := nI (i + 1)) (nI_add _ _) ?_
      refine aw_sld dL_law_802 rfl (vp_in_nI (n := (i + 1)) (by omega) (by omega)) ?_
      refine aw_callVi (J' := jX12_guards) (As := [.int (xs ((nI (i + 1))).toNatClampNeg)]) (st := []) dL_law_803 tb_1572 ok_X12_guards ⟨_, (CR.o100 cr_420).choose_spec⟩ (by omega) rfl rfl (r_guardsK l D b N V_414 (by omega) cl cr_420 (xs ((nI (i + 1))).toNatClampNeg) (xs ((nI (i + 1))).toNatClampNeg) rfl) rfl (Nat.le_of_ble_eq_true rfl) ⟨Nat.le_of_ble_eq_true rfl, Nat.le_of_ble_eq_true rfl, (show _ ≤ 600000 from by omega), (show _ ≤ 7302250 from by omega)⟩ (fun r_433 N_434 V_425 q_435 => ?_)
      obtain ⟨gs_431, rfl, jr_429⟩ := q_435
      have cr_427 := jr_429.1
      have cw_426 := CW.out cw_419 (fun i hi => jr_429.2.1 i (Or.inl hi) (by omega))
      have wf_428 := WF.fr wf_421 jr_429.2.2.1
      have e_432 : fI (V_414 100) 13 = fI (V 1) 1 := (congrArg (fun z => fI z 13) (j_416.2.1 100 (by decide) (by omega))).trans (hrl.2.2.2.1).symm
      rw [e_432] at gs_431
      have rl_430 : RLs V_425 := ⟨(congrArg (fun z => fI z 4) (jr_429.2.1 0 (Or.inl (by decide)) (by omega))).trans ((JW.fI j_416 (by decide) (by decide) : fI (V_414 0) 4 = fI (V 0) 4).trans ((hrl.1).trans ((congrArg (fun z => fI z 51) (j_416.2.1 100 (by decide) (by omega))).symm.trans (JR.fI jr_429 (by decide) (by decide) (by decide) : fI (V_425 100) 51 = fI (V_414 100) 51).symm))), (congrArg (fun z => fI z 7) (jr_429.2.1 3 (Or.inl (by decide)) (by omega))).trans ((JW.fI j_416 (by decide) (by decide) : fI (V_414 3) 7 = fI (V 3) 7).trans ((hrl.2.1).trans ((congrArg (fun z => fI z 208) (j_416.2.1 101 (by decide) (by omega))).symm.trans (JR.fI jr_429 (by decide) (by decide) (by decide) : fI (V_425 101) 208 = fI (V_414 101) 208).symm))), (congrArg (fun z => fI z 7) (jr_429.2.1 39 (Or.inl (by decide)) (by omega))).trans ((JW.fI j_416 (by decide) (by decide) : fI (V_414 39) 7 = fI (V 39) 7).trans ((hrl.2.2.1).trans ((congrArg (fun z => fI z 208) (j_416.2.1 103 (by decide) (by omega))).symm.trans (JR.fI jr_429 (by decide) (by decide) (by decide) : fI (V_425 103) 208 = fI (V_414 103) 208).symm))), (congrArg (fun z => fI z 1) (jr_429.2.1 1 (Or.inl (by decide)) (by omega))).trans (TKS.one hs_415 gs_431), (congrArg (fun z => fI z 5) (jr_429.2.1 3 (Or.inl (by decide)) (by omega))).trans ((JW.fI j_416 (by decide) (by decide) : fI (V_414 3) 5 = fI (V 3) 5).trans ((hrl.2.2.2.2.1).trans ((congrArg (fun z => fI z 9) (j_416.2.1 100 (by decide) (by omega))).symm.trans (JR.fI jr_429 (by decide) (by decide) (by decide) : fI (V_425 100) 9 = fI (V_414 100) 9).symm))), (congrArg (fun z => fI z 6) (jr_429.2.1 3 (Or.inl (by decide)) (by omega))).trans ((JW.fI j_416 (by decide) (by decide) : fI (V_414 3) 6 = fI (V 3) 6).trans ((hrl.2.2.2.2.2.1).trans ((congrArg (fun z => fI z 10) (j_416.2.1 100 (by decide) (by omega))).symm.trans (JR.fI jr_429 (by decide) (by decide) (by decide) : fI (V_425 100) 10 = fI (V_414 100) 10).symm))), (congrArg fI (jr_429.2.1 2 (Or.inl (by decide)) (by omega))).trans ((congrArg fI (JW.same j_416 (by decide) (fun k => (nfc (by omega) (nfc (by omega) (nfc (by omega) (nfc (by omega) (nfc (by omega) nf0)))))))).trans ((hrl.2.2.2.2.2.2.1).trans ((congrArg (fun z => gb (fI z)) (j_416.2.1 110 (by decide) (by omega))).symm.trans (congrArg (fun z => gb (fI z)) (JR.same jr_429 (by decide) (by decide) (fun k => (nfc (by omega) (nfc (by omega) nf0))))).symm))), (congrArg (fun z => rs (fI z)) (jr_429.2.1 17 (Or.inl (by decide)) (by omega))).trans ((congrArg (fun z => rs (fI z)) (JW.same j_416 (by decide) (fun k => (nfc (by omega) (nfc (by omega) (nfc (by omega) (nfc (by omega) (nfc (by omega) nf0)))))))).trans ((hrl.2.2.2.2.2.2.2.1).trans ((congrArg (fun z => rs (fI z)) (j_416.2.1 104 (by decide) (by omega))).symm.trans (congrArg (fun z => rs (fI z)) (JR.same jr_429 (by decide) (by decide) (fun k => (nfc (by omega) (nfc (by omega) nf0))))).symm))), GDS.cong ((congrArg (fun z => fI z 5) (jr_429.2.1 3 (Or.inl (by decide)) (by omega))).trans (JW.fI j_416 (by decide) (by decide) : fI (V_414 3) 5 = fI (V 3) 5)) ((congrArg (fun z => rs (fI z)) (jr_429.2.1 17 (Or.inl (by decide)) (by omega))).trans (congrArg (fun z => rs (fI z)) (JW.same j_416 (by decide) (fun k => (nfc (by omega) (nfc (by omega) (nfc (by omega) (nfc (by omega) (nfc (by omega) nf0))))))))) (hrl.2.2.2.2.2.2.2.2)⟩
      refine aw_pop dL_law_806 rfl ?_
      refine aw_goto (tgt := 981) dL_law_807 (by decide) ?_
      refine aw_iinc (v := (nI (i + 6))) (ls' := [some (.ref b9), some (.ref (b + 0)), some (.ref (b + 100)), some (.int (nI (i + 6)))]) dL_law_981 rfl (nI_add i 6) (Nat.le_of_ble_eq_true rfl) rfl ?_
      refine aw_goto (tgt := 18) dL_law_984 (by decide) ?_
      refine mih (M + 6 - (i + 6)) (by omega) (i + 6) N cl V_425 _ _ rfl (by omega) ?_ ?_ (by omega) cw_426 cr_427 wf_428 rl_430 <;> omega
    · skip
      refine aw_tableIn (off := 777) (tgt := 810) dL_law_33 (by decide) (by decide) (by decide) (by decide) ?_
      refine aw_aload_n dL_law_810 rfl ?_
      refine aw_aload_n dL_law_811 rfl ?_
      refine aw_iload_n dL_law_812 rfl ?_
      refine aw_iconst (v := 1) dL_law_813 (by decide) ?_
      refine aw_iadd dL_law_814 ?_
      refine aw_eqi (y := nI (i + 1)) (nI_add _ _) ?_
      refine aw_sld dL_law_815 rfl (vp_in_nI (n := (i + 1)) (by omega) (by omega)) ?_
      refine aw_aload_n dL_law_816 rfl ?_
      refine aw_iload_n dL_law_817 rfl ?_
      refine aw_iconst (v := 2) dL_law_818 (by decide) ?_
      refine aw_iadd dL_law_819 ?_
      refine aw_eqi (y := nI (i + 2)) (nI_add _ _) ?_
      refine aw_sld dL_law_820 rfl (vp_in_nI (n := (i + 2)) (by omega) (by omega)) ?_
      refine aw_aload_n dL_law_821 rfl ?_
      refine aw_iload_n dL_law_822 rfl ?_
      refine aw_iconst (v := 3) dL_law_823 (by decide) ?_
      refine aw_iadd dL_law_824 ?_
      refine aw_eqi (y := nI (i + 3)) (nI_add _ _) ?_
      refine aw_sld dL_law_825 rfl (vp_in_nI (n := (i + 3)) (by omega) (by omega)) ?_
      refine aw_callVl (J' := jX11_word) (As := [.int (xs ((nI (i + 1))).toNatClampNeg), .int (xs ((nI (i + 2))).toNatClampNeg), .int (xs ((nI (i + 3))).toNatClampNeg)]) (st := []) dL_law_826 tb_973 ok_X11_word ⟨_, (CW.o0 hcw).choose_spec⟩ (by omega) rfl rfl (g_X11_word l D b N V (by omega) hcw (xs ((nI (i + 1))).toNatClampNeg) (xs ((nI (i + 2))).toNatClampNeg) (xs ((nI (i + 3))).toNatClampNeg)) rfl (Nat.le_of_ble_eq_true rfl) ⟨Nat.le_of_ble_eq_true rfl, Nat.le_of_ble_eq_true rfl, (show _ ≤ 600000 from by omega), (show _ ≤ 7302250 from by omega)⟩ (fun r_443 N_444 V_436 q_445 => ?_)
      obtain ⟨rfl, j_437⟩ := q_445
      have cw_440 := j_437.1
      have cr_441 := CR.fr hcr (fun i h1 h2 => j_437.2.1 i h1 (by omega))
      have wf_442 := WF.fr hwf (fun i h1 h2 => j_437.2.1 i (by omega) (by omega))
      refine aw_pop2 dL_law_829 rfl ?_
      refine aw_aload_n dL_law_830 rfl ?_
      refine aw_aload_n dL_law_831 rfl ?_
      refine aw_iload_n dL_law_832 rfl ?_
      refine aw_iconst (v := 1) dL_law_833 (by decide) ?_
      refine aw_iadd dL_law_834 ?_
      refine aw_eqi (y := nI (i + 1)) (nI_add _ _) ?_
      refine aw_sld dL_law_835 rfl (vp_in_nI (n := (i + 1)) (by omega) (by omega)) ?_
      refine aw_aload_n dL_law_836 rfl ?_
      refine aw_iload_n dL_law_837 rfl ?_
      refine aw_iconst (v := 2) dL_law_838 (by decide) ?_
      refine aw_iadd dL_law_839 ?_
      refine aw_eqi (y := nI (i + 2)) (nI_add _ _) ?_
      refine aw_sld dL_law_840 rfl (vp_in_nI (n := (i + 2)) (by omega) (by omega)) ?_
      refine aw_aload_n dL_law_841 rfl ?_
      refine aw_iload_n dL_law_842 rfl ?_
      refine aw_iconst (v := 3) dL_law_843 (by decide) ?_
      refine aw_iadd dL_law_844 ?_
      refine aw_eqi (y := nI (i + 3)) (nI_add _ _) ?_
      refine aw_sld dL_law_845 rfl (vp_in_nI (n := (i + 3)) (by omega) (by omega)) ?_
      refine aw_callVl (J' := jX12_word) (As := [.int (xs ((nI (i + 1))).toNatClampNeg), .int (xs ((nI (i + 2))).toNatClampNeg), .int (xs ((nI (i + 3))).toNatClampNeg)]) (st := []) dL_law_846 tb_1588 ok_X12_word ⟨_, (CR.o100 cr_441).choose_spec⟩ (by omega) rfl rfl (r_word l D b N V_436 (by omega) cl cr_441 (xs ((nI (i + 1))).toNatClampNeg) (xs ((nI (i + 2))).toNatClampNeg) (xs ((nI (i + 3))).toNatClampNeg)) rfl (Nat.le_of_ble_eq_true rfl) ⟨Nat.le_of_ble_eq_true rfl, Nat.le_of_ble_eq_true rfl, (show _ ≤ 600000 from by omega), (show _ ≤ 7302250 from by omega)⟩ (fun r_452 N_453 V_446 q_454 => ?_)
      obtain ⟨rfl, jr_450⟩ := q_454
      have cr_448 := jr_450.1
      have cw_447 := CW.out cw_440 (fun i hi => jr_450.2.1 i (Or.inl hi) (by omega))
      have wf_449 := WF.fr wf_442 jr_450.2.2.1
      have rl_451 : RLs V_446 := ⟨(congrArg (fun z => fI z 4) (jr_450.2.1 0 (Or.inl (by decide)) (by omega))).trans ((JW.fI j_437 (by decide) (by decide) : fI (V_436 0) 4 = fI (V 0) 4).trans ((hrl.1).trans ((congrArg (fun z => fI z 51) (j_437.2.1 100 (by decide) (by omega))).symm.trans (JR.fI jr_450 (by decide) (by decide) (by decide) : fI (V_446 100) 51 = fI (V_436 100) 51).symm))), (congrArg (fun z => fI z 7) (jr_450.2.1 3 (Or.inl (by decide)) (by omega))).trans ((JW.fI j_437 (by decide) (by decide) : fI (V_436 3) 7 = fI (V 3) 7).trans ((hrl.2.1).trans ((congrArg (fun z => fI z 208) (j_437.2.1 101 (by decide) (by omega))).symm.trans (JR.fI jr_450 (by decide) (by decide) (by decide) : fI (V_446 101) 208 = fI (V_436 101) 208).symm))), (congrArg (fun z => fI z 7) (jr_450.2.1 39 (Or.inl (by decide)) (by omega))).trans ((JW.fI j_437 (by decide) (by decide) : fI (V_436 39) 7 = fI (V 39) 7).trans ((hrl.2.2.1).trans ((congrArg (fun z => fI z 208) (j_437.2.1 103 (by decide) (by omega))).symm.trans (JR.fI jr_450 (by decide) (by decide) (by decide) : fI (V_446 103) 208 = fI (V_436 103) 208).symm))), (congrArg (fun z => fI z 1) (jr_450.2.1 1 (Or.inl (by decide)) (by omega))).trans ((JW.fI j_437 (by decide) (by decide) : fI (V_436 1) 1 = fI (V 1) 1).trans ((hrl.2.2.2.1).trans ((congrArg (fun z => fI z 13) (j_437.2.1 100 (by decide) (by omega))).symm.trans (JR.fI jr_450 (by decide) (by decide) (by decide) : fI (V_446 100) 13 = fI (V_436 100) 13).symm))), (congrArg (fun z => fI z 5) (jr_450.2.1 3 (Or.inl (by decide)) (by omega))).trans ((JW.fI j_437 (by decide) (by decide) : fI (V_436 3) 5 = fI (V 3) 5).trans ((hrl.2.2.2.2.1).trans ((congrArg (fun z => fI z 9) (j_437.2.1 100 (by decide) (by omega))).symm.trans (JR.fI jr_450 (by decide) (by decide) (by decide) : fI (V_446 100) 9 = fI (V_436 100) 9).symm))), (congrArg (fun z => fI z 6) (jr_450.2.1 3 (Or.inl (by decide)) (by omega))).trans ((JW.fI j_437 (by decide) (by decide) : fI (V_436 3) 6 = fI (V 3) 6).trans ((hrl.2.2.2.2.2.1).trans ((congrArg (fun z => fI z 10) (j_437.2.1 100 (by decide) (by omega))).symm.trans (JR.fI jr_450 (by decide) (by decide) (by decide) : fI (V_446 100) 10 = fI (V_436 100) 10).symm))), (congrArg fI (jr_450.2.1 2 (Or.inl (by decide)) (by omega))).trans ((congrArg fI (JW.same j_437 (by decide) (fun k => (nfc (by omega) nf0)))).trans ((hrl.2.2.2.2.2.2.1).trans ((congrArg (fun z => gb (fI z)) (j_437.2.1 110 (by decide) (by omega))).symm.trans (congrArg (fun z => gb (fI z)) (JR.same jr_450 (by decide) (by decide) (fun k => (nfc (by omega) nf0)))).symm))), (congrArg (fun z => rs (fI z)) (jr_450.2.1 17 (Or.inl (by decide)) (by omega))).trans ((congrArg (fun z => rs (fI z)) (JW.same j_437 (by decide) (fun k => (nfc (by omega) nf0)))).trans ((hrl.2.2.2.2.2.2.2.1).trans ((congrArg (fun z => rs (fI z)) (j_437.2.1 104 (by decide) (by omega))).symm.trans (congrArg (fun z => rs (fI z)) (JR.same jr_450 (by decide) (by decide) (fun k => (nfc (by omega) nf0)))).symm))), GDS.cong ((congrArg (fun z => fI z 5) (jr_450.2.1 3 (Or.inl (by decide)) (by omega))).trans (JW.fI j_437 (by decide) (by decide) : fI (V_436 3) 5 = fI (V 3) 5)) ((congrArg (fun z => rs (fI z)) (jr_450.2.1 17 (Or.inl (by decide)) (by omega))).trans (congrArg (fun z => rs (fI z)) (JW.same j_437 (by decide) (fun k => (nfc (by omega) nf0))))) (hrl.2.2.2.2.2.2.2.2)⟩
      refine aw_pop2 dL_law_849 rfl ?_
      refine aw_goto (tgt := 981) dL_law_850 (by decide) ?_
      refine aw_iinc (v := (nI (i + 6))) (ls' := [some (.ref b9), some (.ref (b + 0)), some (.ref (b + 100)), some (.int (nI (i + 6)))]) dL_law_981 rfl (nI_add i 6) (Nat.le_of_ble_eq_true rfl) rfl ?_
      refine aw_goto (tgt := 18) dL_law_984 (by decide) ?_
      refine mih (M + 6 - (i + 6)) (by omega) (i + 6) N cl V_446 _ _ rfl (by omega) ?_ ?_ (by omega) cw_447 cr_448 wf_449 rl_451 <;> omega
    · skip
      refine aw_tableIn (off := 820) (tgt := 853) dL_law_33 (by decide) (by decide) (by decide) (by decide) ?_
      refine aw_aload_n dL_law_853 rfl ?_
      refine aw_aload_n dL_law_854 rfl ?_
      refine aw_iload_n dL_law_855 rfl ?_
      refine aw_iconst (v := 1) dL_law_856 (by decide) ?_
      refine aw_iadd dL_law_857 ?_
      refine aw_eqi (y := nI (i + 1)) (nI_add _ _) ?_
      refine aw_sld dL_law_858 rfl (vp_in_nI (n := (i + 1)) (by omega) (by omega)) ?_
      refine aw_aload_n dL_law_859 rfl ?_
      refine aw_iload_n dL_law_860 rfl ?_
      refine aw_iconst (v := 2) dL_law_861 (by decide) ?_
      refine aw_iadd dL_law_862 ?_
      refine aw_eqi (y := nI (i + 2)) (nI_add _ _) ?_
      refine aw_sld dL_law_863 rfl (vp_in_nI (n := (i + 2)) (by omega) (by omega)) ?_
      refine aw_callVi (J' := jX11_rooms) (As := [.int (xs ((nI (i + 1))).toNatClampNeg), .int (xs ((nI (i + 2))).toNatClampNeg)]) (st := []) dL_law_864 tb_986 ok_X11_rooms ⟨_, (CW.o0 hcw).choose_spec⟩ (by omega) rfl rfl (g_X11_roomsS l D b N V (by omega) hcw (xs ((nI (i + 1))).toNatClampNeg) (xs ((nI (i + 2))).toNatClampNeg) (BYof hrl)) rfl (Nat.le_of_ble_eq_true rfl) ⟨Nat.le_of_ble_eq_true rfl, Nat.le_of_ble_eq_true rfl, (show _ ≤ 600000 from by omega), (show _ ≤ 7302250 from by omega)⟩ (fun r_464 N_465 V_455 q_466 => ?_)
      obtain ⟨⟨ha_456, hs_457⟩, rfl, j_458⟩ := q_466
      have cw_461 := j_458.1
      have cr_462 := CR.fr hcr (fun i h1 h2 => j_458.2.1 i h1 (by omega))
      have wf_463 := WF.fr hwf (fun i h1 h2 => j_458.2.1 i (by omega) (by omega))
      refine aw_pop dL_law_867 rfl ?_
      refine aw_aload_n dL_law_868 rfl ?_
      refine aw_aload_n dL_law_869 rfl ?_
      refine aw_iload_n dL_law_870 rfl ?_
      refine aw_iconst (v := 1) dL_law_871 (by decide) ?_
      refine aw_iadd dL_law_872 ?_
      refine aw_eqi (y := nI (i + 1)) (nI_add _ _) ?_
      refine aw_sld dL_law_873 rfl (vp_in_nI (n := (i + 1)) (by omega) (by omega)) ?_
      refine aw_aload_n dL_law_874 rfl ?_
      refine aw_iload_n dL_law_875 rfl ?_
      refine aw_iconst (v := 2) dL_law_876 (by decide) ?_
      refine aw_iadd dL_law_877 ?_
      refine aw_eqi (y := nI (i + 2)) (nI_add _ _) ?_
      refine aw_sld dL_law_878 rfl (vp_in_nI (n := (i + 2)) (by omega) (by omega)) ?_
      refine aw_callVi (J' := jX12_rooms) (As := [.int (xs ((nI (i + 1))).toNatClampNeg), .int (xs ((nI (i + 2))).toNatClampNeg)]) (st := []) dL_law_879 tb_1593 ok_X12_rooms ⟨_, (CR.o100 cr_462).choose_spec⟩ (by omega) rfl rfl (r_roomsS l D b N V_455 (by omega) cl cr_462 (xs ((nI (i + 1))).toNatClampNeg) (xs ((nI (i + 2))).toNatClampNeg) (xs ((nI (i + 1))).toNatClampNeg) (xs ((nI (i + 2))).toNatClampNeg) ⟨rfl, rfl⟩) rfl (Nat.le_of_ble_eq_true rfl) ⟨Nat.le_of_ble_eq_true rfl, Nat.le_of_ble_eq_true rfl, (show _ ≤ 600000 from by omega), (show _ ≤ 7302250 from by omega)⟩ (fun r_477 N_478 V_467 q_479 => ?_)
      obtain ⟨⟨ga_473, gs_474⟩, rfl, jr_471⟩ := q_479
      have cr_469 := jr_471.1
      have cw_468 := CW.out cw_461 (fun i hi => jr_471.2.1 i (Or.inl hi) (by omega))
      have wf_470 := WF.fr wf_463 jr_471.2.2.1
      have e_475 : fI (V_455 100) 13 = fI (V 1) 1 := (congrArg (fun z => fI z 13) (j_458.2.1 100 (by decide) (by omega))).trans (hrl.2.2.2.1).symm
      rw [e_475] at gs_474
      have e_476 : gb (fI (V_455 110)) = fI (V 2) := (congrArg (fun z => gb (fI z)) (j_458.2.1 110 (by decide) (by omega))).trans (hrl.2.2.2.2.2.2.1).symm
      rw [e_475, e_476] at ga_473
      have rl_472 : RLs V_467 := ⟨(congrArg (fun z => fI z 4) (jr_471.2.1 0 (Or.inl (by decide)) (by omega))).trans ((JW.fI j_458 (by decide) (by decide) : fI (V_455 0) 4 = fI (V 0) 4).trans ((hrl.1).trans ((congrArg (fun z => fI z 51) (j_458.2.1 100 (by decide) (by omega))).symm.trans (JR.fI jr_471 (by decide) (by decide) (by decide) : fI (V_467 100) 51 = fI (V_455 100) 51).symm))), (congrArg (fun z => fI z 7) (jr_471.2.1 3 (Or.inl (by decide)) (by omega))).trans ((JW.fI j_458 (by decide) (by decide) : fI (V_455 3) 7 = fI (V 3) 7).trans ((hrl.2.1).trans ((congrArg (fun z => fI z 208) (j_458.2.1 101 (by decide) (by omega))).symm.trans (JR.fI jr_471 (by decide) (by decide) (by decide) : fI (V_467 101) 208 = fI (V_455 101) 208).symm))), (congrArg (fun z => fI z 7) (jr_471.2.1 39 (Or.inl (by decide)) (by omega))).trans ((JW.fI j_458 (by decide) (by decide) : fI (V_455 39) 7 = fI (V 39) 7).trans ((hrl.2.2.1).trans ((congrArg (fun z => fI z 208) (j_458.2.1 103 (by decide) (by omega))).symm.trans (JR.fI jr_471 (by decide) (by decide) (by decide) : fI (V_467 103) 208 = fI (V_455 103) 208).symm))), (congrArg (fun z => fI z 1) (jr_471.2.1 1 (Or.inl (by decide)) (by omega))).trans (TKS.one hs_457 gs_474), (congrArg (fun z => fI z 5) (jr_471.2.1 3 (Or.inl (by decide)) (by omega))).trans ((JW.fI j_458 (by decide) (by decide) : fI (V_455 3) 5 = fI (V 3) 5).trans ((hrl.2.2.2.2.1).trans ((congrArg (fun z => fI z 9) (j_458.2.1 100 (by decide) (by omega))).symm.trans (JR.fI jr_471 (by decide) (by decide) (by decide) : fI (V_467 100) 9 = fI (V_455 100) 9).symm))), (congrArg (fun z => fI z 6) (jr_471.2.1 3 (Or.inl (by decide)) (by omega))).trans ((JW.fI j_458 (by decide) (by decide) : fI (V_455 3) 6 = fI (V 3) 6).trans ((hrl.2.2.2.2.2.1).trans ((congrArg (fun z => fI z 10) (j_458.2.1 100 (by decide) (by omega))).symm.trans (JR.fI jr_471 (by decide) (by decide) (by decide) : fI (V_467 100) 10 = fI (V_455 100) 10).symm))), (congrArg fI (jr_471.2.1 2 (Or.inl (by decide)) (by omega))).trans ((congrArg fI (JW.same j_458 (by decide) (fun k => (nfc (by omega) (nfc (by omega) (nfc (by omega) (nfc (by omega) nf0))))))).trans ((hrl.2.2.2.2.2.2.1).trans ((congrArg (fun z => gb (fI z)) (j_458.2.1 110 (by decide) (by omega))).symm.trans (congrArg (fun z => gb (fI z)) (JR.same jr_471 (by decide) (by decide) (fun k => (nfc (by omega) (nfc (by omega) nf0))))).symm))), (congrArg (fun z => rs (fI z)) (jr_471.2.1 17 (Or.inl (by decide)) (by omega))).trans ((congrArg (fun z => rs (fI z)) (JW.same j_458 (by decide) (fun k => (nfc (by omega) (nfc (by omega) (nfc (by omega) (nfc (by omega) nf0))))))).trans ((hrl.2.2.2.2.2.2.2.1).trans ((congrArg (fun z => rs (fI z)) (j_458.2.1 104 (by decide) (by omega))).symm.trans (congrArg (fun z => rs (fI z)) (JR.same jr_471 (by decide) (by decide) (fun k => (nfc (by omega) (nfc (by omega) nf0))))).symm))), GDS.cong ((congrArg (fun z => fI z 5) (jr_471.2.1 3 (Or.inl (by decide)) (by omega))).trans (JW.fI j_458 (by decide) (by decide) : fI (V_455 3) 5 = fI (V 3) 5)) ((congrArg (fun z => rs (fI z)) (jr_471.2.1 17 (Or.inl (by decide)) (by omega))).trans (congrArg (fun z => rs (fI z)) (JW.same j_458 (by decide) (fun k => (nfc (by omega) (nfc (by omega) (nfc (by omega) (nfc (by omega) nf0)))))))) (hrl.2.2.2.2.2.2.2.2)⟩
      refine aw_pop dL_law_882 rfl ?_
      refine aw_goto (tgt := 981) dL_law_883 (by decide) ?_
      refine aw_iinc (v := (nI (i + 6))) (ls' := [some (.ref b9), some (.ref (b + 0)), some (.ref (b + 100)), some (.int (nI (i + 6)))]) dL_law_981 rfl (nI_add i 6) (Nat.le_of_ble_eq_true rfl) rfl ?_
      refine aw_goto (tgt := 18) dL_law_984 (by decide) ?_
      refine mih (M + 6 - (i + 6)) (by omega) (i + 6) N cl V_467 _ _ rfl (by omega) ?_ ?_ (by omega) cw_468 cr_469 wf_470 rl_472 <;> omega
    · skip
      refine aw_tableIn (off := 853) (tgt := 886) dL_law_33 (by decide) (by decide) (by decide) (by decide) ?_
      refine aw_aload_n dL_law_886 rfl ?_
      refine aw_aload_n dL_law_887 rfl ?_
      refine aw_iload_n dL_law_888 rfl ?_
      refine aw_iconst (v := 1) dL_law_889 (by decide) ?_
      refine aw_iadd dL_law_890 ?_
      refine aw_eqi (y := nI (i + 1)) (nI_add _ _) ?_
      refine aw_sld dL_law_891 rfl (vp_in_nI (n := (i + 1)) (by omega) (by omega)) ?_
      refine aw_callVi (J' := jX11_seed) (As := [.int (xs ((nI (i + 1))).toNatClampNeg)]) (st := []) dL_law_892 tb_999 ok_X11_seed ⟨_, (CW.o0 hcw).choose_spec⟩ (by omega) rfl rfl (g_X11_seed l D b N V (by omega) hcw (xs ((nI (i + 1))).toNatClampNeg)) rfl (Nat.le_of_ble_eq_true rfl) ⟨Nat.le_of_ble_eq_true rfl, Nat.le_of_ble_eq_true rfl, (show _ ≤ 600000 from by omega), (show _ ≤ 7302250 from by omega)⟩ (fun r_487 N_488 V_480 q_489 => ?_)
      obtain ⟨_, rfl, j_481⟩ := q_489
      have cw_484 := j_481.1
      have cr_485 := CR.fr hcr (fun i h1 h2 => j_481.2.1 i h1 (by omega))
      have wf_486 := WF.fr hwf (fun i h1 h2 => j_481.2.1 i (by omega) (by omega))
      refine aw_pop dL_law_895 rfl ?_
      refine aw_aload_n dL_law_896 rfl ?_
      refine aw_aload_n dL_law_897 rfl ?_
      refine aw_iload_n dL_law_898 rfl ?_
      refine aw_iconst (v := 1) dL_law_899 (by decide) ?_
      refine aw_iadd dL_law_900 ?_
      refine aw_eqi (y := nI (i + 1)) (nI_add _ _) ?_
      refine aw_sld dL_law_901 rfl (vp_in_nI (n := (i + 1)) (by omega) (by omega)) ?_
      refine aw_callVi (J' := jX12_seed) (As := [.int (xs ((nI (i + 1))).toNatClampNeg)]) (st := []) dL_law_902 tb_1601 ok_X12_seed ⟨_, (CR.o100 cr_485).choose_spec⟩ (by omega) rfl rfl (r_seed l D b N V_480 (by omega) cl cr_485 (xs ((nI (i + 1))).toNatClampNeg)) rfl (Nat.le_of_ble_eq_true rfl) ⟨Nat.le_of_ble_eq_true rfl, Nat.le_of_ble_eq_true rfl, (show _ ≤ 600000 from by omega), (show _ ≤ 7302250 from by omega)⟩ (fun r_496 N_497 V_490 q_498 => ?_)
      obtain ⟨_, rfl, jr_494⟩ := q_498
      have cr_492 := jr_494.1
      have cw_491 := CW.out cw_484 (fun i hi => jr_494.2.1 i (Or.inl hi) (by omega))
      have wf_493 := WF.fr wf_486 jr_494.2.2.1
      have rl_495 : RLs V_490 := ⟨(congrArg (fun z => fI z 4) (jr_494.2.1 0 (Or.inl (by decide)) (by omega))).trans ((JW.fI j_481 (by decide) (by decide) : fI (V_480 0) 4 = fI (V 0) 4).trans ((hrl.1).trans ((congrArg (fun z => fI z 51) (j_481.2.1 100 (by decide) (by omega))).symm.trans (JR.fI jr_494 (by decide) (by decide) (by decide) : fI (V_490 100) 51 = fI (V_480 100) 51).symm))), (congrArg (fun z => fI z 7) (jr_494.2.1 3 (Or.inl (by decide)) (by omega))).trans ((JW.fI j_481 (by decide) (by decide) : fI (V_480 3) 7 = fI (V 3) 7).trans ((hrl.2.1).trans ((congrArg (fun z => fI z 208) (j_481.2.1 101 (by decide) (by omega))).symm.trans (JR.fI jr_494 (by decide) (by decide) (by decide) : fI (V_490 101) 208 = fI (V_480 101) 208).symm))), (congrArg (fun z => fI z 7) (jr_494.2.1 39 (Or.inl (by decide)) (by omega))).trans ((JW.fI j_481 (by decide) (by decide) : fI (V_480 39) 7 = fI (V 39) 7).trans ((hrl.2.2.1).trans ((congrArg (fun z => fI z 208) (j_481.2.1 103 (by decide) (by omega))).symm.trans (JR.fI jr_494 (by decide) (by decide) (by decide) : fI (V_490 103) 208 = fI (V_480 103) 208).symm))), (congrArg (fun z => fI z 1) (jr_494.2.1 1 (Or.inl (by decide)) (by omega))).trans ((JW.fI j_481 (by decide) (by decide) : fI (V_480 1) 1 = fI (V 1) 1).trans ((hrl.2.2.2.1).trans ((congrArg (fun z => fI z 13) (j_481.2.1 100 (by decide) (by omega))).symm.trans (JR.fI jr_494 (by decide) (by decide) (by decide) : fI (V_490 100) 13 = fI (V_480 100) 13).symm))), (congrArg (fun z => fI z 5) (jr_494.2.1 3 (Or.inl (by decide)) (by omega))).trans ((JW.fI j_481 (by decide) (by decide) : fI (V_480 3) 5 = fI (V 3) 5).trans ((hrl.2.2.2.2.1).trans ((congrArg (fun z => fI z 9) (j_481.2.1 100 (by decide) (by omega))).symm.trans (JR.fI jr_494 (by decide) (by decide) (by decide) : fI (V_490 100) 9 = fI (V_480 100) 9).symm))), (congrArg (fun z => fI z 6) (jr_494.2.1 3 (Or.inl (by decide)) (by omega))).trans ((JW.fI j_481 (by decide) (by decide) : fI (V_480 3) 6 = fI (V 3) 6).trans ((hrl.2.2.2.2.2.1).trans ((congrArg (fun z => fI z 10) (j_481.2.1 100 (by decide) (by omega))).symm.trans (JR.fI jr_494 (by decide) (by decide) (by decide) : fI (V_490 100) 10 = fI (V_480 100) 10).symm))), (congrArg fI (jr_494.2.1 2 (Or.inl (by decide)) (by omega))).trans ((congrArg fI (JW.same j_481 (by decide) (fun k => (nfc (by omega) nf0)))).trans ((hrl.2.2.2.2.2.2.1).trans ((congrArg (fun z => gb (fI z)) (j_481.2.1 110 (by decide) (by omega))).symm.trans (congrArg (fun z => gb (fI z)) (JR.same jr_494 (by decide) (by decide) (fun k => (nfc (by omega) nf0)))).symm))), (congrArg (fun z => rs (fI z)) (jr_494.2.1 17 (Or.inl (by decide)) (by omega))).trans ((congrArg (fun z => rs (fI z)) (JW.same j_481 (by decide) (fun k => (nfc (by omega) nf0)))).trans ((hrl.2.2.2.2.2.2.2.1).trans ((congrArg (fun z => rs (fI z)) (j_481.2.1 104 (by decide) (by omega))).symm.trans (congrArg (fun z => rs (fI z)) (JR.same jr_494 (by decide) (by decide) (fun k => (nfc (by omega) nf0)))).symm))), GDS.cong ((congrArg (fun z => fI z 5) (jr_494.2.1 3 (Or.inl (by decide)) (by omega))).trans (JW.fI j_481 (by decide) (by decide) : fI (V_480 3) 5 = fI (V 3) 5)) ((congrArg (fun z => rs (fI z)) (jr_494.2.1 17 (Or.inl (by decide)) (by omega))).trans (congrArg (fun z => rs (fI z)) (JW.same j_481 (by decide) (fun k => (nfc (by omega) nf0))))) (hrl.2.2.2.2.2.2.2.2)⟩
      refine aw_pop dL_law_905 rfl ?_
      refine aw_goto (tgt := 981) dL_law_906 (by decide) ?_
      refine aw_iinc (v := (nI (i + 6))) (ls' := [some (.ref b9), some (.ref (b + 0)), some (.ref (b + 100)), some (.int (nI (i + 6)))]) dL_law_981 rfl (nI_add i 6) (Nat.le_of_ble_eq_true rfl) rfl ?_
      refine aw_goto (tgt := 18) dL_law_984 (by decide) ?_
      refine mih (M + 6 - (i + 6)) (by omega) (i + 6) N cl V_490 _ _ rfl (by omega) ?_ ?_ (by omega) cw_491 cr_492 wf_493 rl_495 <;> omega
    · skip
      refine aw_tableIn (off := 876) (tgt := 909) dL_law_33 (by decide) (by decide) (by decide) (by decide) ?_
      refine aw_aload_n dL_law_909 rfl ?_
      refine aw_callVi (J' := jX11_keep) (As := []) (st := []) dL_law_910 tb_1003 ok_X11_keep ⟨_, (CW.o0 hcw).choose_spec⟩ (by omega) rfl rfl (g_X11_keepK l D b N V (by omega) hcw) rfl (Nat.le_of_ble_eq_true rfl) ⟨Nat.le_of_ble_eq_true rfl, Nat.le_of_ble_eq_true rfl, (show _ ≤ 600000 from by omega), (show _ ≤ 7302250 from by omega)⟩ (fun r_507 N_508 V_499 q_509 => ?_)
      obtain ⟨hk_500, rfl, j_501⟩ := q_509
      have cw_504 := j_501.1
      have cr_505 := CR.fr hcr (fun i h1 h2 => j_501.2.1 i h1 (by omega))
      have wf_506 := WF.fr hwf (fun i h1 h2 => j_501.2.1 i (by omega) (by omega))
      refine aw_pop dL_law_913 rfl ?_
      refine aw_aload_n dL_law_914 rfl ?_
      refine aw_callVi (J' := jX12_keep) (As := []) (st := []) dL_law_915 tb_1605 ok_X12_keep ⟨_, (CR.o100 cr_505).choose_spec⟩ (by omega) rfl rfl (r_keepK l D b N V_499 (by omega) cl cr_505) rfl (Nat.le_of_ble_eq_true rfl) ⟨Nat.le_of_ble_eq_true rfl, Nat.le_of_ble_eq_true rfl, (show _ ≤ 600000 from by omega), (show _ ≤ 7302250 from by omega)⟩ (fun r_518 N_519 V_510 q_520 => ?_)
      obtain ⟨gk_516, rfl, jr_514⟩ := q_520
      have cr_512 := jr_514.1
      have cw_511 := CW.out cw_504 (fun i hi => jr_514.2.1 i (Or.inl hi) (by omega))
      have wf_513 := WF.fr wf_506 jr_514.2.2.1
      have e_517 : fI (V_499 101) 208 = fI (V 3) 7 := (congrArg (fun z => fI z 208) (j_501.2.1 101 (by decide) (by omega))).trans (hrl.2.1).symm
      have rl_515 : RLs V_510 := ⟨(congrArg (fun z => fI z 4) (jr_514.2.1 0 (Or.inl (by decide)) (by omega))).trans (hk_500.2.2.trans gk_516.2.2.symm), (congrArg (fun z => fI z 7) (jr_514.2.1 3 (Or.inl (by decide)) (by omega))).trans ((JW.fI j_501 (by decide) (by decide) : fI (V_499 3) 7 = fI (V 3) 7).trans ((hrl.2.1).trans ((congrArg (fun z => fI z 208) (j_501.2.1 101 (by decide) (by omega))).symm.trans (JR.fI jr_514 (by decide) (by decide) (by decide) : fI (V_510 101) 208 = fI (V_499 101) 208).symm))), (congrArg (fun z => fI z 7) (jr_514.2.1 39 (Or.inl (by decide)) (by omega))).trans (hk_500.2.1.trans (e_517.symm.trans gk_516.2.1.symm)), (congrArg (fun z => fI z 1) (jr_514.2.1 1 (Or.inl (by decide)) (by omega))).trans ((JW.fI j_501 (by decide) (by decide) : fI (V_499 1) 1 = fI (V 1) 1).trans ((hrl.2.2.2.1).trans ((congrArg (fun z => fI z 13) (j_501.2.1 100 (by decide) (by omega))).symm.trans (JR.fI jr_514 (by decide) (by decide) (by decide) : fI (V_510 100) 13 = fI (V_499 100) 13).symm))), (congrArg (fun z => fI z 5) (jr_514.2.1 3 (Or.inl (by decide)) (by omega))).trans ((JW.fI j_501 (by decide) (by decide) : fI (V_499 3) 5 = fI (V 3) 5).trans ((hrl.2.2.2.2.1).trans ((congrArg (fun z => fI z 9) (j_501.2.1 100 (by decide) (by omega))).symm.trans (JR.fI jr_514 (by decide) (by decide) (by decide) : fI (V_510 100) 9 = fI (V_499 100) 9).symm))), (congrArg (fun z => fI z 6) (jr_514.2.1 3 (Or.inl (by decide)) (by omega))).trans ((JW.fI j_501 (by decide) (by decide) : fI (V_499 3) 6 = fI (V 3) 6).trans ((hrl.2.2.2.2.2.1).trans ((congrArg (fun z => fI z 10) (j_501.2.1 100 (by decide) (by omega))).symm.trans (JR.fI jr_514 (by decide) (by decide) (by decide) : fI (V_510 100) 10 = fI (V_499 100) 10).symm))), (congrArg fI (jr_514.2.1 2 (Or.inl (by decide)) (by omega))).trans ((congrArg fI (JW.same j_501 (by decide) (fun k => (nfc (by omega) (nfc (by omega) (nfc (by omega) (nfc (by omega) (nfc (by omega) (nfc (by omega) nf0))))))))).trans ((hrl.2.2.2.2.2.2.1).trans ((congrArg (fun z => gb (fI z)) (j_501.2.1 110 (by decide) (by omega))).symm.trans (congrArg (fun z => gb (fI z)) (JR.same jr_514 (by decide) (by decide) (fun k => (nfc (by omega) (nfc (by omega) nf0))))).symm))), (congrArg (fun z => rs (fI z)) (jr_514.2.1 17 (Or.inl (by decide)) (by omega))).trans ((congrArg (fun z => rs (fI z)) (JW.same j_501 (by decide) (fun k => (nfc (by omega) (nfc (by omega) (nfc (by omega) (nfc (by omega) (nfc (by omega) (nfc (by omega) nf0))))))))).trans ((hrl.2.2.2.2.2.2.2.1).trans ((congrArg (fun z => rs (fI z)) (j_501.2.1 104 (by decide) (by omega))).symm.trans (congrArg (fun z => rs (fI z)) (JR.same jr_514 (by decide) (by decide) (fun k => (nfc (by omega) (nfc (by omega) nf0))))).symm))), GDS.cong ((congrArg (fun z => fI z 5) (jr_514.2.1 3 (Or.inl (by decide)) (by omega))).trans (JW.fI j_501 (by decide) (by decide) : fI (V_499 3) 5 = fI (V 3) 5)) ((congrArg (fun z => rs (fI z)) (jr_514.2.1 17 (Or.inl (by decide)) (by omega))).trans (congrArg (fun z => rs (fI z)) (JW.same j_501 (by decide) (fun k => (nfc (by omega) (nfc (by omega) (nfc (by omega) (nfc (by omega) (nfc (by omega) (nfc (by omega) nf0)))))))))) (hrl.2.2.2.2.2.2.2.2)⟩
      refine aw_pop dL_law_918 rfl ?_
      refine aw_goto (tgt := 981) dL_law_919 (by decide) ?_
      refine aw_iinc (v := (nI (i + 6))) (ls' := [some (.ref b9), some (.ref (b + 0)), some (.ref (b + 100)), some (.int (nI (i + 6)))]) dL_law_981 rfl (nI_add i 6) (Nat.le_of_ble_eq_true rfl) rfl ?_
      refine aw_goto (tgt := 18) dL_law_984 (by decide) ?_
      refine mih (M + 6 - (i + 6)) (by omega) (i + 6) N cl V_510 _ _ rfl (by omega) ?_ ?_ (by omega) cw_511 cr_512 wf_513 rl_515 <;> omega
    · skip
      refine aw_tableIn (off := 889) (tgt := 922) dL_law_33 (by decide) (by decide) (by decide) (by decide) ?_
      refine aw_aload_n dL_law_922 rfl ?_
      refine aw_callVi (J' := jX11_undo) (As := []) (st := []) dL_law_923 tb_1007 ok_X11_undo ⟨_, (CW.o0 hcw).choose_spec⟩ (by omega) rfl rfl (g_X11_undoK l D b N V (by omega) hcw) rfl (Nat.le_of_ble_eq_true rfl) ⟨Nat.le_of_ble_eq_true rfl, Nat.le_of_ble_eq_true rfl, (show _ ≤ 600000 from by omega), (show _ ≤ 7302250 from by omega)⟩ (fun r_529 N_530 V_521 q_531 => ?_)
      obtain ⟨⟨_, hu_522⟩, rfl, j_523⟩ := q_531
      have cw_526 := j_523.1
      have cr_527 := CR.fr hcr (fun i h1 h2 => j_523.2.1 i h1 (by omega))
      have wf_528 := WF.fr hwf (fun i h1 h2 => j_523.2.1 i (by omega) (by omega))
      refine aw_pop dL_law_926 rfl ?_
      refine aw_aload_n dL_law_927 rfl ?_
      refine aw_callVi (J' := jX12_undo) (As := []) (st := []) dL_law_928 tb_1609 ok_X12_undo ⟨_, (CR.o100 cr_527).choose_spec⟩ (by omega) rfl rfl (r_undoK l D b N V_521 (by omega) cl cr_527) rfl (Nat.le_of_ble_eq_true rfl) ⟨Nat.le_of_ble_eq_true rfl, Nat.le_of_ble_eq_true rfl, (show _ ≤ 600000 from by omega), (show _ ≤ 7302250 from by omega)⟩ (fun r_543 N_544 V_532 q_545 => ?_)
      obtain ⟨⟨_, gu_538⟩, rfl, jr_536⟩ := q_545
      have cr_534 := jr_536.1
      have cw_533 := CW.out cw_526 (fun i hi => jr_536.2.1 i (Or.inl hi) (by omega))
      have wf_535 := WF.fr wf_528 jr_536.2.2.1
      have e_539 : fI (V_521 100) 51 = fI (V 0) 4 := (congrArg (fun z => fI z 51) (j_523.2.1 100 (by decide) (by omega))).trans (hrl.1).symm
      have e_540 : fI (V_521 101) 208 = fI (V 3) 7 := (congrArg (fun z => fI z 208) (j_523.2.1 101 (by decide) (by omega))).trans (hrl.2.1).symm
      have e_541 : fI (V_521 103) 208 = fI (V 39) 7 := (congrArg (fun z => fI z 208) (j_523.2.1 103 (by decide) (by omega))).trans (hrl.2.2.1).symm
      rw [e_539, e_540, e_541] at gu_538
      have o_542 := UND.one hu_522 gu_538
      have rl_537 : RLs V_532 := ⟨(congrArg (fun z => fI z 4) (jr_536.2.1 0 (Or.inl (by decide)) (by omega))).trans ((JW.fI j_523 (by decide) (by decide) : fI (V_521 0) 4 = fI (V 0) 4).trans ((hrl.1).trans ((congrArg (fun z => fI z 51) (j_523.2.1 100 (by decide) (by omega))).symm.trans (JR.fI jr_536 (by decide) (by decide) (by decide) : fI (V_532 100) 51 = fI (V_521 100) 51).symm))), (congrArg (fun z => fI z 7) (jr_536.2.1 3 (Or.inl (by decide)) (by omega))).trans o_542.2, (congrArg (fun z => fI z 7) (jr_536.2.1 39 (Or.inl (by decide)) (by omega))).trans ((JW.fI j_523 (by decide) (by decide) : fI (V_521 39) 7 = fI (V 39) 7).trans ((hrl.2.2.1).trans ((congrArg (fun z => fI z 208) (j_523.2.1 103 (by decide) (by omega))).symm.trans (JR.fI jr_536 (by decide) (by decide) (by decide) : fI (V_532 103) 208 = fI (V_521 103) 208).symm))), (congrArg (fun z => fI z 1) (jr_536.2.1 1 (Or.inl (by decide)) (by omega))).trans ((JW.fI j_523 (by decide) (by decide) : fI (V_521 1) 1 = fI (V 1) 1).trans ((hrl.2.2.2.1).trans ((congrArg (fun z => fI z 13) (j_523.2.1 100 (by decide) (by omega))).symm.trans (JR.fI jr_536 (by decide) (by decide) (by decide) : fI (V_532 100) 13 = fI (V_521 100) 13).symm))), (congrArg (fun z => fI z 5) (jr_536.2.1 3 (Or.inl (by decide)) (by omega))).trans ((JW.fI j_523 (by decide) (by decide) : fI (V_521 3) 5 = fI (V 3) 5).trans ((hrl.2.2.2.2.1).trans ((congrArg (fun z => fI z 9) (j_523.2.1 100 (by decide) (by omega))).symm.trans (JR.fI jr_536 (by decide) (by decide) (by decide) : fI (V_532 100) 9 = fI (V_521 100) 9).symm))), (congrArg (fun z => fI z 6) (jr_536.2.1 3 (Or.inl (by decide)) (by omega))).trans ((JW.fI j_523 (by decide) (by decide) : fI (V_521 3) 6 = fI (V 3) 6).trans ((hrl.2.2.2.2.2.1).trans ((congrArg (fun z => fI z 10) (j_523.2.1 100 (by decide) (by omega))).symm.trans (JR.fI jr_536 (by decide) (by decide) (by decide) : fI (V_532 100) 10 = fI (V_521 100) 10).symm))), (congrArg fI (jr_536.2.1 2 (Or.inl (by decide)) (by omega))).trans ((congrArg fI (JW.same j_523 (by decide) (fun k => (nfc (by omega) (nfc (by omega) (nfc (by omega) (nfc (by omega) nf0))))))).trans ((hrl.2.2.2.2.2.2.1).trans ((congrArg (fun z => gb (fI z)) (j_523.2.1 110 (by decide) (by omega))).symm.trans (congrArg (fun z => gb (fI z)) (JR.same jr_536 (by decide) (by decide) (fun k => (nfc (by omega) nf0)))).symm))), (congrArg (fun z => rs (fI z)) (jr_536.2.1 17 (Or.inl (by decide)) (by omega))).trans ((congrArg (fun z => rs (fI z)) (JW.same j_523 (by decide) (fun k => (nfc (by omega) (nfc (by omega) (nfc (by omega) (nfc (by omega) nf0))))))).trans ((hrl.2.2.2.2.2.2.2.1).trans ((congrArg (fun z => rs (fI z)) (j_523.2.1 104 (by decide) (by omega))).symm.trans (congrArg (fun z => rs (fI z)) (JR.same jr_536 (by decide) (by decide) (fun k => (nfc (by omega) nf0)))).symm))), GDS.cong ((congrArg (fun z => fI z 5) (jr_536.2.1 3 (Or.inl (by decide)) (by omega))).trans (JW.fI j_523 (by decide) (by decide) : fI (V_521 3) 5 = fI (V 3) 5)) ((congrArg (fun z => rs (fI z)) (jr_536.2.1 17 (Or.inl (by decide)) (by omega))).trans (congrArg (fun z => rs (fI z)) (JW.same j_523 (by decide) (fun k => (nfc (by omega) (nfc (by omega) (nfc (by omega) (nfc (by omega) nf0)))))))) (hrl.2.2.2.2.2.2.2.2)⟩
      refine aw_pop dL_law_931 rfl ?_
      refine aw_goto (tgt := 981) dL_law_932 (by decide) ?_
      refine aw_iinc (v := (nI (i + 6))) (ls' := [some (.ref b9), some (.ref (b + 0)), some (.ref (b + 100)), some (.int (nI (i + 6)))]) dL_law_981 rfl (nI_add i 6) (Nat.le_of_ble_eq_true rfl) rfl ?_
      refine aw_goto (tgt := 18) dL_law_984 (by decide) ?_
      refine mih (M + 6 - (i + 6)) (by omega) (i + 6) N cl V_532 _ _ rfl (by omega) ?_ ?_ (by omega) cw_533 cr_534 wf_535 rl_537 <;> omega
    · skip
      refine aw_tableIn (off := 902) (tgt := 935) dL_law_33 (by decide) (by decide) (by decide) (by decide) ?_
      refine aw_aload_n dL_law_935 rfl ?_
      refine aw_aload_n dL_law_936 rfl ?_
      refine aw_iload_n dL_law_937 rfl ?_
      refine aw_iconst (v := 1) dL_law_938 (by decide) ?_
      refine aw_iadd dL_law_939 ?_
      refine aw_eqi (y := nI (i + 1)) (nI_add _ _) ?_
      refine aw_sld dL_law_940 rfl (vp_in_nI (n := (i + 1)) (by omega) (by omega)) ?_
      refine aw_callVi (J' := jX11_check) (As := [.int (xs ((nI (i + 1))).toNatClampNeg)]) (st := []) dL_law_941 tb_1015 ok_X11_check ⟨_, (CW.o0 hcw).choose_spec⟩ (by omega) rfl rfl (g_X11_checkK l D b N V (by omega) hcw (xs ((nI (i + 1))).toNatClampNeg)) rfl (Nat.le_of_ble_eq_true rfl) ⟨Nat.le_of_ble_eq_true rfl, Nat.le_of_ble_eq_true rfl, (show _ ≤ 600000 from by omega), (show _ ≤ 7302250 from by omega)⟩ (fun r_554 N_555 V_546 q_556 => ?_)
      obtain ⟨hs_547, rfl, j_548⟩ := q_556
      have cw_551 := j_548.1
      have cr_552 := CR.fr hcr (fun i h1 h2 => j_548.2.1 i h1 (by omega))
      have wf_553 := WF.fr hwf (fun i h1 h2 => j_548.2.1 i (by omega) (by omega))
      refine aw_pop dL_law_944 rfl ?_
      refine aw_aload_n dL_law_945 rfl ?_
      refine aw_aload_n dL_law_946 rfl ?_
      refine aw_iload_n dL_law_947 rfl ?_
      refine aw_iconst (v := 1) dL_law_948 (by decide) ?_
      refine aw_iadd dL_law_949 ?_
      refine aw_eqi (y := nI (i + 1)) (nI_add _ _) ?_
      refine aw_sld dL_law_950 rfl (vp_in_nI (n := (i + 1)) (by omega) (by omega)) ?_
      refine aw_callVi (J' := jX12_check) (As := [.int (xs ((nI (i + 1))).toNatClampNeg)]) (st := []) dL_law_951 tb_1613 ok_X12_check ⟨_, (CR.o100 cr_552).choose_spec⟩ (by omega) rfl rfl (r_checkK l D b N V_546 (by omega) cl cr_552 (xs ((nI (i + 1))).toNatClampNeg) (xs ((nI (i + 1))).toNatClampNeg) rfl) rfl (Nat.le_of_ble_eq_true rfl) ⟨Nat.le_of_ble_eq_true rfl, Nat.le_of_ble_eq_true rfl, (show _ ≤ 600000 from by omega), (show _ ≤ 7302250 from by omega)⟩ (fun r_565 N_566 V_557 q_567 => ?_)
      obtain ⟨gs_563, rfl, jr_561⟩ := q_567
      have cr_559 := jr_561.1
      have cw_558 := CW.out cw_551 (fun i hi => jr_561.2.1 i (Or.inl hi) (by omega))
      have wf_560 := WF.fr wf_553 jr_561.2.2.1
      have e_564 : fI (V_546 100) 13 = fI (V 1) 1 := (congrArg (fun z => fI z 13) (j_548.2.1 100 (by decide) (by omega))).trans (hrl.2.2.2.1).symm
      rw [e_564] at gs_563
      have rl_562 : RLs V_557 := ⟨(congrArg (fun z => fI z 4) (jr_561.2.1 0 (Or.inl (by decide)) (by omega))).trans ((JW.fI j_548 (by decide) (by decide) : fI (V_546 0) 4 = fI (V 0) 4).trans ((hrl.1).trans ((congrArg (fun z => fI z 51) (j_548.2.1 100 (by decide) (by omega))).symm.trans (JR.fI jr_561 (by decide) (by decide) (by decide) : fI (V_557 100) 51 = fI (V_546 100) 51).symm))), (congrArg (fun z => fI z 7) (jr_561.2.1 3 (Or.inl (by decide)) (by omega))).trans ((JW.fI j_548 (by decide) (by decide) : fI (V_546 3) 7 = fI (V 3) 7).trans ((hrl.2.1).trans ((congrArg (fun z => fI z 208) (j_548.2.1 101 (by decide) (by omega))).symm.trans (JR.fI jr_561 (by decide) (by decide) (by decide) : fI (V_557 101) 208 = fI (V_546 101) 208).symm))), (congrArg (fun z => fI z 7) (jr_561.2.1 39 (Or.inl (by decide)) (by omega))).trans ((JW.fI j_548 (by decide) (by decide) : fI (V_546 39) 7 = fI (V 39) 7).trans ((hrl.2.2.1).trans ((congrArg (fun z => fI z 208) (j_548.2.1 103 (by decide) (by omega))).symm.trans (JR.fI jr_561 (by decide) (by decide) (by decide) : fI (V_557 103) 208 = fI (V_546 103) 208).symm))), (congrArg (fun z => fI z 1) (jr_561.2.1 1 (Or.inl (by decide)) (by omega))).trans (TKS.one hs_547 gs_563), (congrArg (fun z => fI z 5) (jr_561.2.1 3 (Or.inl (by decide)) (by omega))).trans ((JW.fI j_548 (by decide) (by decide) : fI (V_546 3) 5 = fI (V 3) 5).trans ((hrl.2.2.2.2.1).trans ((congrArg (fun z => fI z 9) (j_548.2.1 100 (by decide) (by omega))).symm.trans (JR.fI jr_561 (by decide) (by decide) (by decide) : fI (V_557 100) 9 = fI (V_546 100) 9).symm))), (congrArg (fun z => fI z 6) (jr_561.2.1 3 (Or.inl (by decide)) (by omega))).trans ((JW.fI j_548 (by decide) (by decide) : fI (V_546 3) 6 = fI (V 3) 6).trans ((hrl.2.2.2.2.2.1).trans ((congrArg (fun z => fI z 10) (j_548.2.1 100 (by decide) (by omega))).symm.trans (JR.fI jr_561 (by decide) (by decide) (by decide) : fI (V_557 100) 10 = fI (V_546 100) 10).symm))), (congrArg fI (jr_561.2.1 2 (Or.inl (by decide)) (by omega))).trans ((congrArg fI (JW.same j_548 (by decide) (fun k => (nfc (by omega) (nfc (by omega) (nfc (by omega) (nfc (by omega) nf0))))))).trans ((hrl.2.2.2.2.2.2.1).trans ((congrArg (fun z => gb (fI z)) (j_548.2.1 110 (by decide) (by omega))).symm.trans (congrArg (fun z => gb (fI z)) (JR.same jr_561 (by decide) (by decide) (fun k => (nfc (by omega) nf0)))).symm))), (congrArg (fun z => rs (fI z)) (jr_561.2.1 17 (Or.inl (by decide)) (by omega))).trans ((congrArg (fun z => rs (fI z)) (JW.same j_548 (by decide) (fun k => (nfc (by omega) (nfc (by omega) (nfc (by omega) (nfc (by omega) nf0))))))).trans ((hrl.2.2.2.2.2.2.2.1).trans ((congrArg (fun z => rs (fI z)) (j_548.2.1 104 (by decide) (by omega))).symm.trans (congrArg (fun z => rs (fI z)) (JR.same jr_561 (by decide) (by decide) (fun k => (nfc (by omega) nf0)))).symm))), GDS.cong ((congrArg (fun z => fI z 5) (jr_561.2.1 3 (Or.inl (by decide)) (by omega))).trans (JW.fI j_548 (by decide) (by decide) : fI (V_546 3) 5 = fI (V 3) 5)) ((congrArg (fun z => rs (fI z)) (jr_561.2.1 17 (Or.inl (by decide)) (by omega))).trans (congrArg (fun z => rs (fI z)) (JW.same j_548 (by decide) (fun k => (nfc (by omega) (nfc (by omega) (nfc (by omega) (nfc (by omega) nf0)))))))) (hrl.2.2.2.2.2.2.2.2)⟩
      refine aw_pop dL_law_954 rfl ?_
      refine aw_goto (tgt := 981) dL_law_955 (by decide) ?_
      refine aw_iinc (v := (nI (i + 6))) (ls' := [some (.ref b9), some (.ref (b + 0)), some (.ref (b + 100)), some (.int (nI (i + 6)))]) dL_law_981 rfl (nI_add i 6) (Nat.le_of_ble_eq_true rfl) rfl ?_
      refine aw_goto (tgt := 18) dL_law_984 (by decide) ?_
      refine mih (M + 6 - (i + 6)) (by omega) (i + 6) N cl V_557 _ _ rfl (by omega) ?_ ?_ (by omega) cw_558 cr_559 wf_560 rl_562 <;> omega
    · skip
      refine aw_tableIn (off := 925) (tgt := 958) dL_law_33 (by decide) (by decide) (by decide) (by decide) ?_
      refine aw_aload_n dL_law_958 rfl ?_
      refine aw_aload_n dL_law_959 rfl ?_
      refine aw_iload_n dL_law_960 rfl ?_
      refine aw_iconst (v := 1) dL_law_961 (by decide) ?_
      refine aw_iadd dL_law_962 ?_
      refine aw_eqi (y := nI (i + 1)) (nI_add _ _) ?_
      refine aw_sld dL_law_963 rfl (vp_in_nI (n := (i + 1)) (by omega) (by omega)) ?_
      refine aw_callVi (J' := jX11_count) (As := [.int (xs ((nI (i + 1))).toNatClampNeg)]) (st := []) dL_law_964 tb_1019 ok_X11_count ⟨_, (CW.o0 hcw).choose_spec⟩ (by omega) rfl rfl (g_X11_count l D b N V (by omega) hcw (xs ((nI (i + 1))).toNatClampNeg)) rfl (Nat.le_of_ble_eq_true rfl) ⟨Nat.le_of_ble_eq_true rfl, Nat.le_of_ble_eq_true rfl, (show _ ≤ 600000 from by omega), (show _ ≤ 7302250 from by omega)⟩ (fun r_569 N_570 V_571 q_572 => ?_)
      obtain ⟨rfl, rfl⟩ := q_572
      refine aw_pop dL_law_967 rfl ?_
      refine aw_aload_n dL_law_968 rfl ?_
      refine aw_aload_n dL_law_969 rfl ?_
      refine aw_iload_n dL_law_970 rfl ?_
      refine aw_iconst (v := 1) dL_law_971 (by decide) ?_
      refine aw_iadd dL_law_972 ?_
      refine aw_eqi (y := nI (i + 1)) (nI_add _ _) ?_
      refine aw_sld dL_law_973 rfl (vp_in_nI (n := (i + 1)) (by omega) (by omega)) ?_
      refine aw_callVi (J' := jX12_count) (As := [.int (xs ((nI (i + 1))).toNatClampNeg)]) (st := []) dL_law_974 tb_1617 ok_X12_count ⟨_, (CR.o100 hcr).choose_spec⟩ (by omega) rfl rfl (r_count l D b N V (by omega) cl hcr (xs ((nI (i + 1))).toNatClampNeg)) rfl (Nat.le_of_ble_eq_true rfl) ⟨Nat.le_of_ble_eq_true rfl, Nat.le_of_ble_eq_true rfl, (show _ ≤ 600000 from by omega), (show _ ≤ 7302250 from by omega)⟩ (fun r_579 N_580 V_581 q_582 => ?_)
      obtain ⟨rfl, rfl⟩ := q_582
      refine aw_pop dL_law_977 rfl ?_
      refine aw_goto (tgt := 981) dL_law_978 (by decide) ?_
      refine aw_iinc (v := (nI (i + 6))) (ls' := [some (.ref b9), some (.ref (b + 0)), some (.ref (b + 100)), some (.int (nI (i + 6)))]) dL_law_981 rfl (nI_add i 6) (Nat.le_of_ble_eq_true rfl) rfl ?_
      refine aw_goto (tgt := 18) dL_law_984 (by decide) ?_
      refine mih (M + 6 - (i + 6)) (by omega) (i + 6) N cl V _ _ rfl (by omega) ?_ ?_ (by omega) hcw hcr hwf hrl <;> omega
    · skip
      refine aw_tableOut (tgt := 981) dL_law_33 (Or.inr (by decide)) (by decide) ?_
      refine aw_iinc (v := (nI (i + 6))) (ls' := [some (.ref b9), some (.ref (b + 0)), some (.ref (b + 100)), some (.int (nI (i + 6)))]) dL_law_981 rfl (nI_add i 6) (Nat.le_of_ble_eq_true rfl) rfl ?_
      refine aw_goto (tgt := 18) dL_law_984 (by decide) ?_
      refine mih (M + 6 - (i + 6)) (by omega) (i + 6) N cl V _ _ rfl (by omega) ?_ ?_ (by omega) hcw hcr hwf hrl <;> omega
    · skip
      refine aw_tableOut (tgt := 981) dL_law_33 (Or.inr (by decide)) (by decide) ?_
      refine aw_iinc (v := (nI (i + 6))) (ls' := [some (.ref b9), some (.ref (b + 0)), some (.ref (b + 100)), some (.int (nI (i + 6)))]) dL_law_981 rfl (nI_add i 6) (Nat.le_of_ble_eq_true rfl) rfl ?_
      refine aw_goto (tgt := 18) dL_law_984 (by decide) ?_
      refine mih (M + 6 - (i + 6)) (by omega) (i + 6) N cl V _ _ rfl (by omega) ?_ ?_ (by omega) hcw hcr hwf hrl <;> omega
    · skip
      refine aw_tableOut (tgt := 981) dL_law_33 (Or.inr (by decide)) (by decide) ?_
      refine aw_iinc (v := (nI (i + 6))) (ls' := [some (.ref b9), some (.ref (b + 0)), some (.ref (b + 100)), some (.int (nI (i + 6)))]) dL_law_981 rfl (nI_add i 6) (Nat.le_of_ble_eq_true rfl) rfl ?_
      refine aw_goto (tgt := 18) dL_law_984 (by decide) ?_
      refine mih (M + 6 - (i + 6)) (by omega) (i + 6) N cl V _ _ rfl (by omega) ?_ ?_ (by omega) hcw hcr hwf hrl <;> omega

set_option maxHeartbeats 4000000 in
set_option maxRecDepth 100000 in
theorem law_short (l : Launch) (D : va_G) (b b9 : Nat) (xs : Nat → Int32) (L : Nat) (hL : L < 6) (V : Wd) : AW l D b jL_law room_1 (some (b9, L, xs)) (lawQ b) 0 [some (.ref b9), none, none, none] [] 0 V 0 0 := by
  refine aw_new dL_law_0 nw_L_7 (Nat.le_of_ble_eq_true rfl) (Nat.le_of_ble_eq_true rfl) ?_
  refine aw_dup dL_law_3 rfl ?_
  refine aw_callIv (As := []) (st := [.ref (b + 0)]) dL_law_4 tb_23 ok_X11_init rfl (c_initFearLocks l D b (va_up V 0 (cO 10 [.null, .null, .null, .null, .int 0, .null, .null, .null, .null, .null, .null])) (va_up_self _ _ _)) rfl (Nat.le_of_ble_eq_true rfl) ⟨Nat.le_of_ble_eq_true rfl, Nat.le_of_ble_eq_true rfl, Nat.le_of_ble_eq_true rfl, Nat.le_of_ble_eq_true rfl⟩ (fun  N_3 V_2 q_4 => ?_)
  obtain ⟨rfl, hI_1⟩ := q_4
  refine aw_astore_n (ls' := [some (.ref b9), some (.ref (b + 0)), none, none]) dL_law_7 (Nat.le_of_ble_eq_true rfl) rfl ?_
  refine aw_new dL_law_8 nw_L_10 (Nat.le_of_ble_eq_true rfl) (Nat.le_of_ble_eq_true rfl) ?_
  refine aw_dup dL_law_11 rfl ?_
  refine aw_callIv (As := []) (st := [.ref (b + 100)]) dL_law_12 tb_1034 ok_X12_init rfl (k_init l D b (va_up V_2 100 (cO 11 [.null, .null, .null, .null, .null, .null, .null, .null, .null, .int 0, .int 0, .int 0, .null, .int 0, .int 0, .int 0, .int 0, .int 0, .int 0, .int 0, .int 0, .int 0, .int 0, .null, .null, .null, .null, .null, .null, .null, .null, .null, .null, .null, .null, .null, .int 0, .int 0, .int 0, .int 0, .null, .null, .null, .null, .null, .int 0, .int 0, .null, .null, .null, .null, .int 0])) (va_up_self _ _ _)) rfl (Nat.le_of_ble_eq_true rfl) ⟨Nat.le_of_ble_eq_true rfl, Nat.le_of_ble_eq_true rfl, Nat.le_of_ble_eq_true rfl, Nat.le_of_ble_eq_true rfl⟩ (fun  N_8 V_7 q_9 => ?_)
  obtain ⟨rfl, hM_5, fr_6⟩ := q_9
  refine aw_astore_n (ls' := [some (.ref b9), some (.ref (b + 0)), some (.ref (b + 100)), none]) dL_law_15 (Nat.le_of_ble_eq_true rfl) rfl ?_
  refine aw_iconst (v := 0) dL_law_16 (by decide) ?_
  refine aw_istore_n (ls' := [some (.ref b9), some (.ref (b + 0)), some (.ref (b + 100)), some (.int 0)]) dL_law_17 (Nat.le_of_ble_eq_true rfl) rfl ?_
  refine aw_iload_n dL_law_18 rfl ?_
  refine aw_aload_n dL_law_19 rfl ?_
  refine aw_slen dL_law_20 rfl ?_
  refine aw_eqi (y := (nI L)) rfl ?_
  refine aw_bipush (v := 6) dL_law_21 (by decide) ?_
  refine aw_isub dL_law_23 ?_
  refine aw_icmp_gt (tgt := 987) dL_law_24 (by decide) (fun c_10 => ?_) (fun c_10 => ?_)
  rotate_left
  · exact absurd (fx_L6 L hL) c_10
  refine aw_iconst (v := 1) dL_law_987 (by decide) ?_
  exact aw_lawret dL_law_988 (Nat.le_of_ble_eq_true rfl) (Nat.le_of_ble_eq_true rfl)

set_option maxHeartbeats 4000000 in
set_option maxRecDepth 100000 in
theorem law_six (l : Launch) (D : va_G) (b b9 : Nat) (xs : Nat → Int32) (M : Nat) (hM : M + 6 ≤ 3072) (V : Wd) : AW l D b jL_law room_1 (some (b9, (M + 6), xs)) (lawQ b) 0 [some (.ref b9), none, none, none] [] 0 V 0 0 := by
  refine aw_new dL_law_0 nw_L_7 (Nat.le_of_ble_eq_true rfl) (Nat.le_of_ble_eq_true rfl) ?_
  refine aw_dup dL_law_3 rfl ?_
  refine aw_callIv (As := []) (st := [.ref (b + 0)]) dL_law_4 tb_23 ok_X11_init rfl (c_initFearLocks l D b (va_up V 0 (cO 10 [.null, .null, .null, .null, .int 0, .null, .null, .null, .null, .null, .null])) (va_up_self _ _ _)) rfl (Nat.le_of_ble_eq_true rfl) ⟨Nat.le_of_ble_eq_true rfl, Nat.le_of_ble_eq_true rfl, Nat.le_of_ble_eq_true rfl, Nat.le_of_ble_eq_true rfl⟩ (fun  N_3 V_2 q_4 => ?_)
  obtain ⟨rfl, hI_1⟩ := q_4
  refine aw_astore_n (ls' := [some (.ref b9), some (.ref (b + 0)), none, none]) dL_law_7 (Nat.le_of_ble_eq_true rfl) rfl ?_
  refine aw_new dL_law_8 nw_L_10 (Nat.le_of_ble_eq_true rfl) (Nat.le_of_ble_eq_true rfl) ?_
  refine aw_dup dL_law_11 rfl ?_
  refine aw_callIv (As := []) (st := [.ref (b + 100)]) dL_law_12 tb_1034 ok_X12_init rfl (k_init l D b (va_up V_2 100 (cO 11 [.null, .null, .null, .null, .null, .null, .null, .null, .null, .int 0, .int 0, .int 0, .null, .int 0, .int 0, .int 0, .int 0, .int 0, .int 0, .int 0, .int 0, .int 0, .int 0, .null, .null, .null, .null, .null, .null, .null, .null, .null, .null, .null, .null, .null, .int 0, .int 0, .int 0, .int 0, .null, .null, .null, .null, .null, .int 0, .int 0, .null, .null, .null, .null, .int 0])) (va_up_self _ _ _)) rfl (Nat.le_of_ble_eq_true rfl) ⟨Nat.le_of_ble_eq_true rfl, Nat.le_of_ble_eq_true rfl, Nat.le_of_ble_eq_true rfl, Nat.le_of_ble_eq_true rfl⟩ (fun  N_8 V_7 q_9 => ?_)
  obtain ⟨rfl, hM_5, fr_6⟩ := q_9
  refine aw_astore_n (ls' := [some (.ref b9), some (.ref (b + 0)), some (.ref (b + 100)), none]) dL_law_15 (Nat.le_of_ble_eq_true rfl) rfl ?_
  refine aw_iconst (v := 0) dL_law_16 (by decide) ?_
  refine aw_istore_n (ls' := [some (.ref b9), some (.ref (b + 0)), some (.ref (b + 100)), some (.int 0)]) dL_law_17 (Nat.le_of_ble_eq_true rfl) rfl ?_
  have hfr := fun i (hi : i < 100) => (fr_6 i hi).trans (va_up_ne _ _ (by omega))
  have hcw := CW.out (I0.cw hI_1) hfr
  exact law_loop l D b b9 xs M hM _ 0 133 0 V_7 _ _ rfl (by omega) (Nat.le_of_ble_eq_true rfl) (Nat.le_of_ble_eq_true rfl) (by omega) hcw (M0.cr hM_5).1 (M0.cr hM_5).2 (RLs.init hI_1 hM_5 hfr)
