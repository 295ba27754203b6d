
def fx_SC (b aK : Nat) (U : State) : Prop := va_OF "java/lang/String" "coder" "B" (.int 0) aK (fun q => b ≤ q) U U.heap ∧ va_Z "java/lang/String" "COMPACT_STRINGS" "Z" (.int 1) (fun q => b ≤ q) U U.heap
def fx_SL (b aK aV : Nat) (U : State) : Prop := va_O "java/lang/String" aK (fun q => b ≤ q) U U.heap ∧ va_OF "java/lang/String" "value" "[B" (.ref aV) aK (fun q => b ≤ q) U U.heap ∧ va_T .byte aV 10 (fun j => .int (fx_LB j)) (fun q => b ≤ q) U U.heap ∧ fx_SC b aK U
theorem fx_SC.to {b aK : Nat} {s U : State} {locs : List Loc} (h : fx_SC b aK s) (hW : s.vm.Alike U.vm) (hS : va_S (fun q => b ≤ q) s.heap U.heap locs) : fx_SC b aK U := ⟨va_OF.moved hW (h.1.kept hS.2.1), va_Z.moved hW (h.2.kept hS.2.1)⟩
theorem fx_SL.to {b aK aV : Nat} {s U : State} {locs : List Loc} (h : fx_SL b aK aV s) (hW : s.vm.Alike U.vm) (hS : va_S (fun q => b ≤ q) s.heap U.heap locs) : fx_SL b aK aV U := ⟨va_O.moved hW (h.1.kept hS.2.1), va_OF.moved hW (h.2.1.kept hS.2.1), va_T.moved hW (h.2.2.1.kept hS.2.1), h.2.2.2.to hW hS⟩
theorem fx_SC.same {b aK : Nat} {u U : State} (h : fx_SC b aK u) (ha : u.vm.Alike U.vm) (hh : U.heap = u.heap) : fx_SC b aK U := by
  obtain ⟨h1, h2⟩ := h
  rw [← hh] at h1 h2
  exact ⟨va_OF.moved ha h1, va_Z.moved ha h2⟩
theorem fx_SL.same {b aK aV : Nat} {u U : State} (h : fx_SL b aK aV u) (ha : u.vm.Alike U.vm) (hh : U.heap = u.heap) : fx_SL b aK aV U := by
  obtain ⟨h1, h2, h3, h4⟩ := h
  refine ⟨?_, ?_, ?_, h4.same ha hh⟩
  · rw [hh]; exact va_O.moved ha h1
  · rw [hh]; exact va_OF.moved ha h2
  · rw [hh]; exact va_T.moved ha h3
def fx_jC : Md := (yJ0_coder_7d493, cJ0_coder_7d493, 1, some .byte)
def fx_jL : Md := (yJ0_length_8abf5, cJ0_length_8abf5, 1, some .int)
set_option maxHeartbeats 4000000 in
set_option maxRecDepth 100000 in
theorem fx_coder (l : Launch) (b aK : Nat) : Met l fx_jC.1 (fx_ws fx_jC) (fx_rm 0 0 0) (va_Pc [.ref aK] (fx_SC b aK)) (vp_Si (fun r => r = 0)) 0 0 (fun _ => False) := by
  refine Met.ofW (cc := fx_jC.2.1) (maxL := 1) (ret := some .byte) (by decide) rfl ?_
  intro p e s m args below meth c s₁ B hml hv
  obtain ⟨rfl, h1, h2⟩ := hv
  have hx := B.exec
  have hb := B.bytes
  have hr := B.returns
  have hts := atoms_spec (ws := fx_ws fx_jC) B.pre
  have hown : s.vm.findClass "java/lang/String" = some m.cls := findClass_of_methodNamed B.named
  have hlocks := B.notSynchronized
  have hS : va_S (fun q => b ≤ q) s.heap s.heap [] := va_S.rf
  have hl := lv_entry ([.ref aK]) (n := 1) (Nat.le_of_ble_eq_true rfl)
  rw [lg_entry_eq]
  generalize (lg_sl ([.ref aK]) ++ List.replicate (1 - (lg_sl ([.ref aK])).length) Slot.unset).toArray = ls at hl ⊢
  have hl : lv_has ls 1 [(0, .ref aK)] := hl
  refine va_gets hx hb h2 hS hown (hts _ (List.mem_cons_of_mem _ tb_129)) (fun x hx => hx) dJ0_coder_7d493_0 ?_
  refine lv_if_eq (tgt := 13) hx hb dJ0_coder_7d493_3 (by decide) (fun c1 => absurd c1 (by decide)) (fun _ => ?_)
  refine lv_aload_n hx hb dJ0_coder_7d493_6 rfl (lv_at hl 0 rfl) ?_
  refine vk_getf hx hb h1 hS hown (hts _ (List.mem_cons_of_mem _ tb_1630)) (fun x hx => hx) dJ0_coder_7d493_7 ?_
  refine lv_goto (tgt := 14) hx hb dJ0_coder_7d493_10 (by decide) ?_
  exact W.zret (ty := .byte) hx hb hr (by rfl) (fun t ht hW => ⟨0, rfl, rfl, ht⟩) (fun q hq => by cases hq) dJ0_coder_7d493_14 hlocks
set_option maxHeartbeats 4000000 in
set_option maxRecDepth 100000 in
theorem fx_length (l : Launch) (b aK aV : Nat) : Met l fx_jL.1 (fx_ws fx_jL) (fx_rm 1 0 0) (va_Pc [.ref aK] (fx_SL b aK aV)) (vp_Si (fun r => r = 10)) 0 0 (fun _ => False) := by
  refine Met.ofW (cc := fx_jL.2.1) (maxL := 1) (ret := some .int) (by decide) rfl ?_
  intro p e s m args below meth c s₁ B hml hv
  obtain ⟨rfl, h0, h1, h2, h3⟩ := hv
  have hx := B.exec
  have hb := B.bytes
  have hr := B.returns
  have hts := atoms_spec (ws := fx_ws fx_jL) B.pre
  have hown : s.vm.findClass "java/lang/String" = some m.cls := findClass_of_methodNamed B.named
  have hlocks := B.notSynchronized
  have hS : va_S (fun q => b ≤ q) s.heap s.heap [] := va_S.rf
  have hl := lv_entry ([.ref aK]) (n := 1) (Nat.le_of_ble_eq_true rfl)
  rw [lg_entry_eq]
  generalize (lg_sl ([.ref aK]) ++ List.replicate (1 - (lg_sl ([.ref aK])).length) Slot.unset).toArray = ls at hl ⊢
  have hl : lv_has ls 1 [(0, .ref aK)] := hl
  refine lv_aload_n hx hb dJ0_length_8abf5_0 rfl (lv_at hl 0 rfl) ?_
  refine vk_getf hx hb h1 hS hown (hts _ (List.mem_cons_of_mem _ tb_1629)) (fun x hx => hx) dJ0_length_8abf5_1 ?_
  refine va_tlen (v := 10) hx hb h2 hS rfl dJ0_length_8abf5_4 ?_
  refine lv_aload_n hx hb dJ0_length_8abf5_5 rfl (lv_at hl 0 rfl) ?_
  have hT : GoodIn (fx_ws fx_jL) (wsV "java/lang/String" 335 "java/lang/String" fx_jC.1 (fx_ws fx_jC)) := fx_goodIn (J' := fx_jC) tb_128 (fun w hw => by
    simp only [List.mem_cons, List.not_mem_nil, or_false] at hw
    rcases hw with rfl | rfl | rfl | rfl
    · exact tb_125
    · exact tb_126
    · exact tb_127
    · exact tb_5)
  obtain ⟨cell, g1, g2, g3, -⟩ := h0
  refine vp_callSi (W.runV (C := "java/lang/String") (As := []) (rest := [.int 10]) ⟨hx, hb, hml, hown, hts⟩ (fx_coder l b aK) (cwV 0 hts hT rfl rfl rfl ⟨rfl, by decide +kernel, by decide +kernel, by decide +kernel⟩ ⟨Nat.le_of_ble_eq_true rfl, Nat.le_of_ble_eq_true rfl⟩) ⟨fun a U g mk q => ⟨q.1, q.2.same (u := U) (U := U.calling g mk a) (Vm.Alike.refl U.vm) rfl⟩, ⟨cell, g1, g2, g3⟩, fun U hU hW => ⟨rfl, h3.to hW.alike (by rw [hU]; exact hS)⟩⟩ rfl rfl hl.1 rfl (lv_room (Nat.le_of_ble_eq_true rfl)) dJ0_length_8abf5_6 ⟨Nat.le_of_ble_eq_true rfl, Nat.le_of_ble_eq_true rfl⟩) (fun r hr9 => ?_)
  subst hr9
  refine lv_ishr hx hb dJ0_length_8abf5_9 ?_
  exact W.iret hx hb hr (fun t ht hW => ⟨_, rfl, by decide, ht⟩) (fun q hq => by cases hq) dJ0_length_8abf5_10 hlocks
set_option maxHeartbeats 4000000 in
/-- "kdfvgmnotw".length() -/
theorem aw_strlen {l : Launch} {D : va_G} {b : Nat} {J : Md} {R : Room} {X : Sc} {FQ : Array Value → List Frame → State → State → Prop} {pc : Nat} {ls : List (Option Value)} {st : List Value} {N : Nat} {V : Wd} {k n : Nat} (hJ : J.1.cls = RX4) (hd1 : decode J.2.1 pc = .ok (.ldc 34, 2)) (hd2 : decode J.2.1 (pc + 2) = .ok (.invokevirtual 36, 3)) (hW : (st.map fun v => v.category).sum ≤ 8) (hR : 3 ≤ R.frames ∧ 20 + 128 ≤ R.locals ∧ k ≤ R.cells ∧ n ≤ R.slots) (h : AW l D b J R X FQ (pc + 2 + 3) ls (.int 10 :: st) N V k n) : AW l D b J R X FQ pc ls st N V k n := by
  intro p e s m args below meth c H locs arr hC hL hA hS
  obtain ⟨hx, hb, hr, hml, hown, hts, hlk, hnm, hK, hsz, hX, hNS, aK, aV, e1, e2, e3, e4, e5, e6, e7⟩ := id hC
  have hown' : s.vm.findClass RX4 = some m.cls := hJ ▸ hown
  refine va_ldcS hx hb hown' e1 hd1 ?_
  have hT : GoodIn (fx_ws J) (wsV RX4 36 "java/lang/String" fx_jL.1 (fx_ws fx_jL)) := fx_goodIn (J' := fx_jL) tb_124 (fun w hw => by
    simp only [List.mem_cons, List.not_mem_nil, or_false] at hw
    rcases hw with rfl | rfl | rfl | rfl
    · exact tb_121
    · exact tb_122
    · exact tb_123
    · exact tb_5)
  obtain ⟨cell, g1, g2, g3, -⟩ := e2.kept hS.2.1
  refine vp_callSi (W.runV (C := "java/lang/String") (As := []) (rest := st) ⟨hx, hb, hml, hown', hts⟩ (fx_length l b aK aV) (cwV 0 hts hT rfl rfl rfl ⟨rfl, by decide +kernel, by decide +kernel, by decide +kernel⟩ ⟨hR.1, hR.2.1⟩) ⟨fun a U g mk q => ⟨q.1, q.2.same (u := U) (U := U.calling g mk a) (Vm.Alike.refl U.vm) rfl⟩, ⟨cell, g1, g2, g3⟩, fun U hU hW9 => ⟨rfl, fx_SL.to (s := s) ⟨e2, e4, e5, e3, e6⟩ hW9.alike (by rw [hU]; exact hS)⟩⟩ rfl rfl hL.1 rfl (lv_room hW) hd2 ⟨hR.2.2.1, hR.2.2.2⟩) (fun r hr9 => ?_)
  subst hr9
  exact h p e s m args below meth c H locs arr hC hL hA hS

