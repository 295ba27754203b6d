
def fx_LB (j : Nat) : Int32 := ([107, 100, 102, 118, 103, 109, 110, 111, 116, 119] : List Int32).getD j 0
/-- the text of the letters, and String's own switch: they lie below b -/
def fx_E (b : Nat) (U : State) : Prop := ∃ aK aV : Nat, vk_R RX4 34 "kdfvgmnotw" aK U ∧ va_O "java/lang/String" aK (fun q => b ≤ q) U U.heap ∧ va_OF "java/lang/String" "coder" "B" (.int 0) aK (fun q => b ≤ q) U U.heap ∧ va_OF "java/lang/String" "value" "[B" (.ref aV) aK (fun q => b ≤ q) U U.heap ∧ va_T .byte aV 10 (fun j => .int (fx_LB j)) (fun q => b ≤ q) U U.heap ∧ va_Z "java/lang/String" "COMPACT_STRINGS" "Z" (.int 1) (fun q => b ≤ q) U U.heap ∧ vk_R RX5 101 "kdfvgmnotw" aK U
theorem fx_E.to {b : Nat} {s U : State} {locs : List Loc} (h : fx_E b s) (hW : s.WarmedH U.vm) (hS : va_S (fun q => b ≤ q) s.heap U.heap locs) : fx_E b U := by
  obtain ⟨aK, aV, h1, h2, h3, h4, h5, h6, h7⟩ := h
  exact ⟨aK, aV, h1.warm hW, va_O.moved hW.alike (h2.kept hS.2.1), va_OF.moved hW.alike (h3.kept hS.2.1), va_OF.moved hW.alike (h4.kept hS.2.1), va_T.moved hW.alike (h5.kept hS.2.1), va_Z.moved hW.alike (h6.kept hS.2.1), h7.warm hW⟩
theorem fx_E.same {b : Nat} {u U : State} (h : fx_E b u) (hv : U.vm = u.vm) (hh : U.heap = u.heap) : fx_E b U := by
  obtain ⟨aK, aV, h1, h2, h3, h4, h5, h6, h7⟩ := h
  have ha : u.vm.Alike U.vm := by rw [hv]; exact Vm.Alike.refl u.vm
  rw [← hh] at h2 h3 h4 h5 h6
  exact ⟨aK, aV, vk_R.same hv h1, va_O.moved ha h2, va_OF.moved ha h3, va_OF.moved ha h4, va_T.moved ha h5, va_Z.moved ha h6, vk_R.same hv h7⟩
