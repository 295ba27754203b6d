theorem tb_120 : (Jvm.Cond.stringRef "FearLocks$Law" (34 : Nat) "kdfvgmnotw") ∈ lw_tbl := fx_k1 (List.mem_of_getElem? (i := 120) (by decide +kernel))
theorem tb_130 : (Jvm.Cond.laysStatic "java/lang/String" "COMPACT_STRINGS" "Z") ∈ lw_tbl := fx_k1 (List.mem_of_getElem? (i := 130) (by decide +kernel))
theorem tb_419 : (Jvm.Cond.stringRef "FearLocks$LawReader" (101 : Nat) "kdfvgmnotw") ∈ lw_tbl := fx_k2 (List.mem_of_getElem? (i := 179) (by decide +kernel))
theorem fx_E.of {s : State} {args : Array Value} (h : ∀ w ∈ lw_tbl, w.before args s = true) (hgv : (Jvm.Cond.and given_1 narrow_1).before args s = true) : fx_E s.heap.size s := by
  have hs := flat_of_before _ hgv
  have hA : ∀ a : Nat, a < s.heap.size → ¬ (s.heap.size ≤ a) := fun a h1 h2 => absurd h1 (Nat.not_lt.mpr h2)
  have e1 : (Cond.exactly (.string "FearLocks$Law" 34) "java/lang/String").before args s = true := hs _ (by decide +kernel)
  have e2 : (Cond.eq (.field (.string "FearLocks$Law" 34) "java/lang/String" "coder" "B") (.int 0)).before args s = true := hs _ (by decide +kernel)
  have e3 : (Cond.arrayOf (.field (.string "FearLocks$Law" 34) "java/lang/String" "value" "[B") .byte).before args s = true := hs _ (by decide +kernel)
  have e4 : (Cond.eq (.length (.field (.string "FearLocks$Law" 34) "java/lang/String" "value" "[B")) (.int 10)).before args s = true := hs _ (by decide +kernel)
  have q0 : (Cond.eq (.elem (.field (.string "FearLocks$Law" 34) "java/lang/String" "value" "[B") (.int 0)) (.int 107)).before args s = true := hs _ (by decide +kernel)
  have q1 : (Cond.eq (.elem (.field (.string "FearLocks$Law" 34) "java/lang/String" "value" "[B") (.int 1)) (.int 100)).before args s = true := hs _ (by decide +kernel)
  have q2 : (Cond.eq (.elem (.field (.string "FearLocks$Law" 34) "java/lang/String" "value" "[B") (.int 2)) (.int 102)).before args s = true := hs _ (by decide +kernel)
  have q3 : (Cond.eq (.elem (.field (.string "FearLocks$Law" 34) "java/lang/String" "value" "[B") (.int 3)) (.int 118)).before args s = true := hs _ (by decide +kernel)
  have q4 : (Cond.eq (.elem (.field (.string "FearLocks$Law" 34) "java/lang/String" "value" "[B") (.int 4)) (.int 103)).before args s = true := hs _ (by decide +kernel)
  have q5 : (Cond.eq (.elem (.field (.string "FearLocks$Law" 34) "java/lang/String" "value" "[B") (.int 5)) (.int 109)).before args s = true := hs _ (by decide +kernel)
  have q6 : (Cond.eq (.elem (.field (.string "FearLocks$Law" 34) "java/lang/String" "value" "[B") (.int 6)) (.int 110)).before args s = true := hs _ (by decide +kernel)
  have q7 : (Cond.eq (.elem (.field (.string "FearLocks$Law" 34) "java/lang/String" "value" "[B") (.int 7)) (.int 111)).before args s = true := hs _ (by decide +kernel)
  have q8 : (Cond.eq (.elem (.field (.string "FearLocks$Law" 34) "java/lang/String" "value" "[B") (.int 8)) (.int 116)).before args s = true := hs _ (by decide +kernel)
  have q9 : (Cond.eq (.elem (.field (.string "FearLocks$Law" 34) "java/lang/String" "value" "[B") (.int 9)) (.int 119)).before args s = true := hs _ (by decide +kernel)
  have e5 : (Cond.eq (.static "java/lang/String" "COMPACT_STRINGS" "Z") (.int 1)).before args s = true := hs _ (by decide +kernel)
  have e6 : (Cond.eq (.string "FearLocks$Law" 34) (.string "FearLocks$LawReader" 101)).before args s = true := hs _ (by decide +kernel)
  have hl : ∀ {w : Cond}, w ∈ fx_TB → w.before args s = true := fun hw => h _ (List.mem_filter.mp hw).1
  obtain ⟨adK, adV, hS, hR⟩ := vk_Sof (args := args) (s := s) (N := 1) (tm := fun _ => Term.string "FearLocks$Law" 34) (len := [10]) (byt := [[107, 100, 102, 118, 103, 109, 110, 111, 116, 119]]) (A := fun q => s.heap.size ≤ q)
    (fun i hi => by obtain rfl : i = 0 := by omega
                    decide) (fun i hi => e1) (fun i hi => e2) (fun i hi => e3)
    (fun i hi => by obtain rfl : i = 0 := by omega
                    exact e4)
    (fun i hi j hj => by
      obtain rfl : i = 0 := by omega
      have hj : j < 10 := hj
      have hj2 : j = 0 ∨ j = 1 ∨ j = 2 ∨ j = 3 ∨ j = 4 ∨ j = 5 ∨ j = 6 ∨ j = 7 ∨ j = 8 ∨ j = 9 := by omega
      rcases hj2 with rfl | rfl | rfl | rfl | rfl | rfl | rfl | rfl | rfl | rfl
      · exact q0
      · exact q1
      · exact q2
      · exact q3
      · exact q4
      · exact q5
      · exact q6
      · exact q7
      · exact q8
      · exact q9
    )
    (fun i j hi hj hij => absurd (by omega) hij) hA
  have hS := hS.1 0 (by decide)
  have hR := hR 0 (by decide)
  exact ⟨adK 0, adV 0, vk_R.of (A := args) (h _ tb_120) hR, hS.1, hS.2.1, hS.2.2.1, hS.2.2.2, va_Zof (h _ tb_130) (hl tb_5) (va_eqi e5) hA, vk_R.of (A := args) (h _ tb_419) (va_eqR e6 hR)⟩

theorem fx_K.of {s : State} {args : Array Value} (h : ∀ w ∈ lw_tbl, w.before args s = true) : ∃ D : va_G, va_K D vwCl (fx_ty D) s := by
  have hh : ∀ w ∈ fx_TB, w.before args s = true := fun w hw => h w (List.mem_filter.mp hw).1
  obtain ⟨c0, i0, k0⟩ := u_known hh uw_X0 (hh _ tb_62)
  obtain ⟨c1, i1, k1⟩ := u_known hh uw_X1 (hh _ tb_195)
  obtain ⟨c2, i2, k2⟩ := u_known hh uw_X2 (hh _ tb_352)
  obtain ⟨c3, i3, k3⟩ := u_known hh uw_X3 (hh _ tb_185)
  obtain ⟨c4, i4, k4⟩ := u_known hh uw_X4 (hh _ tb_115)
  obtain ⟨c5, i5, k5⟩ := u_known hh uw_X5 (hh _ tb_280)
  obtain ⟨c6, i6, k6⟩ := u_known hh uw_X7 (hh _ tb_165)
  obtain ⟨c7, i7, k7⟩ := u_known hh uw_X8 (hh _ tb_537)
  obtain ⟨c8, i8, k8⟩ := u_known hh uw_X9 (hh _ tb_208)
  obtain ⟨c9, i9, k9⟩ := u_known hh uw_X10 (hh _ tb_30)
  obtain ⟨c10, i10, k10⟩ := u_known hh uw_X11 (hh _ tb_22)
  obtain ⟨c11, i11, k11⟩ := u_known hh uw_X12 (hh _ tb_1033)
  obtain ⟨a0, ka0, m0, f0, g0, h0⟩ := Cond.arrayClass_spec (hh _ tb_60)
  obtain ⟨a1, ka1, m1, f1, g1, h1⟩ := Cond.arrayClass_spec (hh _ tb_220)
  obtain ⟨a2, ka2, m2, f2, g2, h2⟩ := Cond.arrayClass_spec (hh _ tb_163)
  obtain ⟨a3, ka3, m3, f3, g3, h3⟩ := Cond.arrayClass_spec (hh _ tb_1196)
  obtain ⟨m4, a4, ka4, hc4, g4, h4, f4⟩ := Cond.arrayOver_specA (t := .int) (h _ (List.mem_filter.mp tb_68).1)
  refine ⟨(fun k => ([c0, c1, c2, c3, c4, c5, c6, c7, c8, c9, c10, c11] : List ClassId).getD k (if k = 100 then a0 else if k = 101 then a1 else if k = 102 then a2 else if k = 103 then a3 else a4), fun k => ([i0, i1, i2, i3, i4, i5, i6, i7, i8, i9, i10, i11] : List (Nat → Nat)).getD k (fun _ => 0)), ?_, ?_⟩
  · intro c q hq
    match c, hq with
    | 0, hq => obtain rfl := Option.some.inj (show some (RX0, TX0, 9) = some q from hq); exact k0
    | 1, hq => obtain rfl := Option.some.inj (show some (RX1, TX1, 2) = some q from hq); exact k1
    | 2, hq => obtain rfl := Option.some.inj (show some (RX2, TX2, 3) = some q from hq); exact k2
    | 3, hq => obtain rfl := Option.some.inj (show some (RX3, TX3, 1) = some q from hq); exact k3
    | 4, hq => obtain rfl := Option.some.inj (show some (RX4, TX4, 10) = some q from hq); exact k4
    | 5, hq => obtain rfl := Option.some.inj (show some (RX5, TX5, 2) = some q from hq); exact k5
    | 6, hq => obtain rfl := Option.some.inj (show some (RX7, TX7, 3) = some q from hq); exact k6
    | 7, hq => obtain rfl := Option.some.inj (show some (RX8, TX8, 2) = some q from hq); exact k7
    | 8, hq => obtain rfl := Option.some.inj (show some (RX9, TX9, 2) = some q from hq); exact k8
    | 9, hq => obtain rfl := Option.some.inj (show some (RX10, TX10, 5) = some q from hq); exact k9
    | 10, hq => obtain rfl := Option.some.inj (show some (RX11, TX11, 11) = some q from hq); exact k10
    | 11, hq => obtain rfl := Option.some.inj (show some (RX12, TX12, 52) = some q from hq); exact k11
    | n + 12, hq => exact absurd hq (by simp [vwCl])
  · intro k q hq
    match k, hq with
    | 0, hq => obtain rfl := Option.some.inj (show some (a0, FieldType.int) = some q from hq); exact ⟨fun n z => ⟨(fun k h => by cases h), ka0, g0, m0, h0⟩, f0⟩
    | 1, hq => obtain rfl := Option.some.inj (show some (a1, FieldType.long) = some q from hq); exact ⟨fun n z => ⟨(fun k h => by cases h), ka1, g1, m1, h1⟩, f1⟩
    | 2, hq => obtain rfl := Option.some.inj (show some (a2, FieldType.byte) = some q from hq); exact ⟨fun n z => ⟨(fun k h => by cases h), ka2, g2, m2, h2⟩, f2⟩
    | 3, hq => obtain rfl := Option.some.inj (show some (a3, FieldType.boolean) = some q from hq); exact ⟨fun n z => ⟨(fun k h => by cases h), ka3, g3, m3, h3⟩, f3⟩
    | 4, hq => obtain rfl := Option.some.inj (show some (a4, FieldType.array .int) = some q from hq); exact ⟨fun n z => ⟨(fun k h => by cases h), ka4, g4, m4, h4⟩, f4⟩
    | n + 5, hq => exact absurd hq (by simp [fx_ty])

/-- what holds at the law's entry: the machine, the code, the tables' words (any of lw_tbl by 'hts w (by decide +kernel)'), the script of L ints xs at the cell b, what the Statement gives of the start (any of its parts by flat_of_before) -/
def lw_At (p : Program) (s : State) (m : MethodId) (meth : Method) (c : Code) (b L : Nat) (xs : Nat → Int32) : Prop :=
  p.tables.exec = Jvm.exec ∧ c.code = code ∧ meth.sig.returnType = ret ∧ c.maxLocals = 4 ∧ s.vm.findClass R_law = some m.cls ∧ (∀ w ∈ lw_tbl, w.before #[Value.ref b] s = true) ∧ va_X b L xs s s.heap ∧ b < s.heap.size ∧ meth.locks = false ∧ (Jvm.Cond.and given_1 narrow_1).before #[Value.ref b] s = true ∧ (Jvm.Cond.code x code maxLocals ret).before #[Value.ref b] s = true ∧ meth.name = "law"

theorem whole_start {p : Program} {e : Env} {s : State} {m : MethodId} {below : List Frame} {meth : Method} {c : Code} (l : Launch) (hflags : l.flags = flags0) {b L : Nat} {xs : Nat → Int32} (hL : L ≤ 3072) (C0 : lw_At p s m meth c b L xs) : W p l e room_1 s m #[Value.ref b] below meth c s.heap [] 0 0 (lw_Z below #[Value.ref b] s) (entryFrame m ([Value.ref b] : List Value).toArray 4) := by
  obtain ⟨hx, hb, hr, hml, hown, hts, hX, hbl, hlocks, hgv, hcode, hnm⟩ := C0
  obtain ⟨D, hK⟩ := fx_K.of hts
  have hh : ∀ w ∈ fx_TB, w.before #[Value.ref b] s = true := fun w hw => hts w (List.mem_filter.mp hw).1
  have hC : fx_C D s.heap.size jL_law (some (b, L, xs)) p s m #[Value.ref b] meth c := ⟨hx, hb, hr, hml, hown, List.forall_mem_cons.mpr ⟨hcode, hh⟩, hlocks, hnm, hK, Nat.le_refl _, fun b9 L9 xs9 e => by cases e; exact ⟨hX, hbl, Nat.not_le.mpr hbl⟩, fx_NS.of hts, fx_E.of hts hgv⟩
  have hA : AW l D s.heap.size jL_law room_1 (some (b, L, xs)) (lawQ s.heap.size) 0 [some (.ref b), none, none, none] [] 0 (fun _ => cO 0 []) 0 0 := by
    rcases Nat.lt_or_ge L 6 with h | h
    · exact law_short l D _ b xs L h _
    · obtain ⟨M, rfl⟩ : ∃ M, L = M + 6 := ⟨L - 6, by omega⟩
      exact law_six l D _ b xs M hL _
  rw [lg_entry_eq]
  have hl := lv_entry [Value.ref b] (n := 4) (Nat.le_of_ble_eq_true rfl)
  have hW := hA p e s m #[Value.ref b] below meth c s.heap [] _ hC ⟨hl.1, hl.2.1, fun i v hi => by
    match i, hi with
    | 0, hi => cases hi; exact hl.2.2 (0, Value.ref b) List.mem_cons_self
    | 1, hi => cases hi
    | 2, hi => cases hi
    | 3, hi => cases hi
    | n + 4, hi => exact absurd hi (by simp)⟩ ⟨rfl, fun i hi => absurd hi (Nat.not_lt_zero i)⟩ va_S.rf
  intro T hT X9
  obtain ⟨t, a1, q⟩ := hW T hT X9
  exact ⟨t, a1, q (Nat.le_refl _)⟩

-- ===== YOUR PART ENDS =====
set_option maxHeartbeats 4000000 in
theorem lw_walk (l : Launch) (hflags : l.flags = flags0) (b : Addr) (xs : List Int32) : MetFree l x (headSpec (Jvm.Cond.code x code maxLocals ret :: tables_1) room_1) (lw_P b xs) (fun _ _ _ _ _ => True) lw_Q := by
  refine MetFree.of_bodyS (code := code) (maxLocals := maxLocals) (ret := ret) (by decide) ?_ ?_
  · intro args s m h hn
    obtain ⟨meth, c, h1, h2, h3, h4, h5, h6, -, -⟩ := Cond.code_spec hn (atoms_spec (ws := Jvm.Cond.code x code maxLocals ret :: tables_1) h _ List.mem_cons_self)
    exact ⟨meth, c, h1, h2, h3, h4, h5, h6⟩
  · intro p e s m args below meth c s₁ B hml0 hP _
    obtain ⟨rfl, hx, hbd, hgv⟩ := hP
    obtain ⟨scr, harrAt, hlist, hof, hsmall⟩ := hx
    obtain ⟨hcb, hkn, -, -⟩ := State.arrayAt?_spec harrAt
    have hown : s.vm.findClass R_law = some m.cls := findClass_of_methodNamed B.named
    have hts0 : ∀ c ∈ (Jvm.Cond.code x code maxLocals ret :: tables_1), c.before #[Value.ref b] s = true := atoms_spec (ws := Jvm.Cond.code x code maxLocals ret :: tables_1) B.pre
    have hts : ∀ w ∈ lw_tbl, w.before #[Value.ref b] s = true := k2_hts_sels lw_privs (fun w hw => hts0 w (List.mem_cons_of_mem _ hw)) lw_privs_ok
    have hml : c.maxLocals = 4 := B.maxLocals_eq (hts0 _ List.mem_cons_self)
    have X₀ : Stand p l e room_1 s m #[Value.ref b] below meth c s₁ [] 0 0 := Stand.of_body B
    have hh0 : s₁.heap = s.heap := by rw [B.state]; rfl
    have hsz : scr.slots.size = xs.length := by rw [← Array.length_toList, hlist, List.length_map]
    have hval : ∀ j : Nat, j < xs.length → scr.slots[j]? = some (.int (xs.getD j 0)) := fun j hj => by
      rw [← Array.getElem?_toList, hlist]
      simp [hj]
    have hbl : b < s.heap.size := (Array.getElem?_eq_some_iff.mp hcb).1
    have hX : va_X b xs.length (fun j => xs.getD j 0) s s.heap := ⟨scr, hcb, hof, hkn, hsz, hval⟩
    have K : W p l e room_1 s m #[Value.ref b] below meth c s₁.heap [] 0 0 (lw_Z below #[Value.ref b] s) (entryFrame m ([Value.ref b] : List Value).toArray 4) := by
      rw [hh0]
      exact whole_start l hflags hbd ⟨B.exec, B.bytes, B.returns, hml, hown, hts, hX, hbl, B.notSynchronized, hgv, hts0 _ List.mem_cons_self, (name_of_methodNamed B.named B.method).1⟩
    obtain ⟨t, a1, o, b1, b2, b3⟩ := K s₁ rfl X₀
    exact ⟨t, o, a1, b1, b2, b3⟩
theorem lw_pre_spec {args : Array Value} {s : State} (h : (Jvm.Cond.and given_1 narrow_1).before args s = true) (hr : rest_1_c.before args s = true) : ∃ (b : Addr) (xs : List Int32), lw_P b xs args s := by
  have hs := flat_of_before _ h
  have hq := flat_of_before _ hr
  have hc : (Cond.count 1).before args s = true := hs _ (by decide +kernel)
  have harr : (Cond.arrayOf (.arg 0) .int).before args s = true := hs _ (by decide +kernel)
  have hle : (Cond.le (.length (.arg 0)) (.int 3072)).before args s = true := hs _ (by decide +kernel)
  have hlen : (Cond.isInt (.length (.arg 0))).before args s = true := hq _ (by decide +kernel)
  have hall : (Cond.all (.arg 0) (.isInt (.elem (.arg 0) (.index 0)))).before args s = true := hq _ (by decide +kernel)
  obtain ⟨b, xs, hb, hx⟩ := State.ints_of_pre rfl harr hlen hall
  have hsm : xs.length < 2 ^ 31 := hx.choose_spec.2.2.2
  have hev : (Term.length (.arg 0)).eval args s none [] s = some (.int xs.length.toInt32) := hx.length_eval hb
  have hv := Cond.le_ints hev (show (Term.int 3072).eval args s none [] s = some (.int 3072) from rfl)
  have hd : xs.length.toInt32 ≤ 3072 := by
    simpa [Cond.before, Cond.holds, hv] using hle
  have hN : xs.length ≤ 3072 := (Int32.ofNat_le_ofNat hsm (by decide)).mp (show Int32.ofNat xs.length ≤ Int32.ofNat 3072 from hd)
  exact ⟨b, xs, Cond.one_arg hc (show args[0]? = some (.ref b) from hb), hx, hN, h⟩
theorem lw_comes (l : Launch) (hflags : l.flags = flags0) : Comes l x (Jvm.Cond.code x code maxLocals ret :: tables_1) room_1 (fun tb e args s => Calls_1 tb e args s ∧ rest_1 tb e args s ∧ Pre_1 tb e args s)
    (fun _ _ args s o t => lw_Q args s o t) := by
  intro p e ha hc hk s m args below hf hfit hheap happ hpre
  obtain ⟨b, xs, hP⟩ := lw_pre_spec hpre.2.2 hpre.2.1
  obtain ⟨k, o, h1, h2, h3, hQ⟩ := lw_walk l hflags b xs p e ha hc hk s m args below hf ((Spec.applies_iff_loose hf).mp happ).1 hP trivial
  exact ⟨k, o, h1, h2, h3, hQ⟩
theorem lw_frame {s t : State} {o : Outcome} {args : Array Value} (h : Framed s o t [] 600000 7302250) :
    Framed s o t (fieldLocs frame_1_writes args s ++ arrayLocs frame_1_arrays args s ++ staticLocs frame_1_statics s) 600000 7302250 := h
theorem lw_limb (L : Cond) (hL : ∀ (args : Array Value) (s t : State), L.after args s (.returned (some (.int 1))) t = true) :
    ArmFor flags0 classFile x code maxLocals ret World_1 tables_1 room_1 Calls_1 rest_1 Pre_1
      (fun tb e a s o t => postC L tb e a s o t ∧ Framed s o t (fieldLocs frame_1_writes a s ++ arrayLocs frame_1_arrays a s ++ staticLocs frame_1_statics s) 600000 7302250) := by
  intro l hflags _ _ p e ha hc hk s m args below hf hfit hheap happ hpre
  obtain ⟨k, o, h1, h2, h3, rfl, hF⟩ := lw_comes l hflags p e ha hc hk s m args below hf hfit hheap happ hpre
  exact ⟨k, _, h1, h2, h3, hL args s _, lw_frame hF⟩
theorem i_vc : Claimed_1_1 ∧ Claimed_1_2 := ⟨lw_limb limb_1_1 (fun args s t => by simp [limb_1_1, Cond.after, Cond.holds, Cond.value]), lw_limb limb_1_2 (fun args s t => Cond.after_iff.mpr (by
  first | (rw [show limb_1_2 = Cond.eq .result (.int 1) from rfl, Cond.eq_ints (x := 1) (y := 1) rfl rfl]; simp; done) | (simp [limb_1_2, Cond.value, Term.eval]; done)))⟩
