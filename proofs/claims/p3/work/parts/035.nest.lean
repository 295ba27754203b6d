def fx_nest : Cond → Bool
  | .fieldLinkNest .. => true
  | .methodLinkNest .. => true
  | .arrayOver .. => true
  | .declares .. => true
  | _ => false
def fx_NW : List Cond := lw_tbl.filter fx_nest
def fx_NS (U : State) : Prop := ∀ w ∈ fx_NW, va_Nw w U
theorem fx_NS.warm {s U : State} (hW : s.WarmedH U.vm) (h : fx_NS s) : fx_NS U := by
  intro w hw
  have hn := (List.mem_filter.mp hw).2
  have h1 := h w hw
  cases w <;> first | (simp [fx_nest] at hn; done) | exact va_Nw.warmF hW h1 | exact va_Nw.warmM hW h1 | exact va_Nw.warmD hW h1 | exact (Cond.arrayOver_setVmC (args := #[]) (s := s) hW.alike _).trans h1
theorem fx_NS.same {u U : State} (hv : u.vm = U.vm) (h : fx_NS u) : fx_NS U := by
  intro w hw
  have hn := (List.mem_filter.mp hw).2
  have h1 := h w hw
  cases w <;> first | (simp [fx_nest] at hn; done) | exact va_Nw.same rfl hv h1 | exact (Cond.arrayOver_setVmC (args := #[]) (s := u) (vm' := U.vm) (by rw [← hv]; exact Vm.Alike.refl u.vm) _).trans h1
theorem fx_NS.use {w : Cond} {U : State} {A : Array Value} (h : fx_NS U) (hw : w ∈ fx_NW) : w.before A U = true := by
  have hn := (List.mem_filter.mp hw).2
  have h1 := h w hw
  cases w <;> first | (simp [fx_nest] at hn; done) | exact va_Nw.use rfl h1 | exact h1
theorem fx_NS.of {U : State} {A : Array Value} (h : ∀ w ∈ lw_tbl, w.before A U = true) : fx_NS U := by
  intro w hw
  obtain ⟨hm, hn⟩ := List.mem_filter.mp hw
  have h1 := h w hm
  cases w <;> first | (simp [fx_nest] at hn; done) | exact va_Nw.of rfl h1 | exact h1
theorem fx_k1 {w : Cond} (h : w ∈ tables_1_1) : w ∈ lw_tbl := (List.mem_append_right _ (List.mem_append_left _ h))
theorem fx_m1 {w : Cond} (j : Nat) (h : tables_1_1[j]? = some w) (g : goodWord w = true) : w ∈ fx_TB := List.mem_filter.mpr ⟨fx_k1 (List.mem_of_getElem? h), g⟩
theorem fx_n1 {w : Cond} (j : Nat) (h : tables_1_1[j]? = some w) (g : fx_nest w = true) : w ∈ fx_NW := List.mem_filter.mpr ⟨fx_k1 (List.mem_of_getElem? h), g⟩
theorem fx_k2 {w : Cond} (h : w ∈ tables_1_2) : w ∈ lw_tbl := (List.mem_append_right _ (List.mem_append_right _ (List.mem_append_left _ h)))
theorem fx_m2 {w : Cond} (j : Nat) (h : tables_1_2[j]? = some w) (g : goodWord w = true) : w ∈ fx_TB := List.mem_filter.mpr ⟨fx_k2 (List.mem_of_getElem? h), g⟩
theorem fx_n2 {w : Cond} (j : Nat) (h : tables_1_2[j]? = some w) (g : fx_nest w = true) : w ∈ fx_NW := List.mem_filter.mpr ⟨fx_k2 (List.mem_of_getElem? h), g⟩
theorem fx_k3 {w : Cond} (h : w ∈ tables_1_3) : w ∈ lw_tbl := (List.mem_append_right _ (List.mem_append_right _ (List.mem_append_right _ (List.mem_append_left _ h))))
theorem fx_m3 {w : Cond} (j : Nat) (h : tables_1_3[j]? = some w) (g : goodWord w = true) : w ∈ fx_TB := List.mem_filter.mpr ⟨fx_k3 (List.mem_of_getElem? h), g⟩
theorem fx_n3 {w : Cond} (j : Nat) (h : tables_1_3[j]? = some w) (g : fx_nest w = true) : w ∈ fx_NW := List.mem_filter.mpr ⟨fx_k3 (List.mem_of_getElem? h), g⟩
theorem fx_k4 {w : Cond} (h : w ∈ tables_1_4) : w ∈ lw_tbl := (List.mem_append_right _ (List.mem_append_right _ (List.mem_append_right _ (List.mem_append_right _ (List.mem_append_left _ h)))))
theorem fx_m4 {w : Cond} (j : Nat) (h : tables_1_4[j]? = some w) (g : goodWord w = true) : w ∈ fx_TB := List.mem_filter.mpr ⟨fx_k4 (List.mem_of_getElem? h), g⟩
theorem fx_n4 {w : Cond} (j : Nat) (h : tables_1_4[j]? = some w) (g : fx_nest w = true) : w ∈ fx_NW := List.mem_filter.mpr ⟨fx_k4 (List.mem_of_getElem? h), g⟩
theorem fx_k5 {w : Cond} (h : w ∈ tables_1_5) : w ∈ lw_tbl := (List.mem_append_right _ (List.mem_append_right _ (List.mem_append_right _ (List.mem_append_right _ (List.mem_append_right _ (List.mem_append_left _ h))))))
theorem fx_m5 {w : Cond} (j : Nat) (h : tables_1_5[j]? = some w) (g : goodWord w = true) : w ∈ fx_TB := List.mem_filter.mpr ⟨fx_k5 (List.mem_of_getElem? h), g⟩
theorem fx_n5 {w : Cond} (j : Nat) (h : tables_1_5[j]? = some w) (g : fx_nest w = true) : w ∈ fx_NW := List.mem_filter.mpr ⟨fx_k5 (List.mem_of_getElem? h), g⟩
theorem fx_k6 {w : Cond} (h : w ∈ tables_1_6) : w ∈ lw_tbl := (List.mem_append_right _ (List.mem_append_right _ (List.mem_append_right _ (List.mem_append_right _ (List.mem_append_right _ (List.mem_append_right _ (List.mem_append_left _ h)))))))
theorem fx_m6 {w : Cond} (j : Nat) (h : tables_1_6[j]? = some w) (g : goodWord w = true) : w ∈ fx_TB := List.mem_filter.mpr ⟨fx_k6 (List.mem_of_getElem? h), g⟩
theorem fx_n6 {w : Cond} (j : Nat) (h : tables_1_6[j]? = some w) (g : fx_nest w = true) : w ∈ fx_NW := List.mem_filter.mpr ⟨fx_k6 (List.mem_of_getElem? h), g⟩
theorem fx_k7 {w : Cond} (h : w ∈ tables_1_7) : w ∈ lw_tbl := (List.mem_append_right _ (List.mem_append_right _ (List.mem_append_right _ (List.mem_append_right _ (List.mem_append_right _ (List.mem_append_right _ (List.mem_append_right _ h)))))))
theorem fx_m7 {w : Cond} (j : Nat) (h : tables_1_7[j]? = some w) (g : goodWord w = true) : w ∈ fx_TB := List.mem_filter.mpr ⟨fx_k7 (List.mem_of_getElem? h), g⟩
theorem fx_n7 {w : Cond} (j : Nat) (h : tables_1_7[j]? = some w) (g : fx_nest w = true) : w ∈ fx_NW := List.mem_filter.mpr ⟨fx_k7 (List.mem_of_getElem? h), g⟩
