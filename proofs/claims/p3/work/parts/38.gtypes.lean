
def OP (n : Nat) (o : Nat → Int32) (q : Nat → Nat) : Prop := (∀ i, i < n → o i = nI (q i) ∧ q i < n) ∧ ∀ i j, i < n → j < n → q i = q j → i = j
def TQ (g : Nat → Int32) (n : Nat) : Prop := ∀ i, i < n → ∃ j : Nat, j < 12 ∧ g i &&& 255 = nI j
theorem TQ.step {g : Nat → Int32} {k z : Nat} (h : TQ g k) (hz : z < 12) (e : nI z = g k &&& 255) : TQ g (k + 1) := fun i hi => by
  rcases Nat.lt_or_ge i k with q | q
  · exact h i q
  · obtain rfl : i = k := by omega
    exact ⟨z, hz, e.symm⟩
theorem cI_inj {D : va_G} {n : Nat} {g g' : Nat → Int32} (h : cI D n g = cI D n g') : ∀ i, g i = g' i := by
  intro i
  have h1 := (Prod.mk.inj (Sum.inl.inj h)).2
  have h2 := Sum.inl.inj (Prod.mk.inj h1).2
  rw [h2]
def sw (q : Nat → Nat) (a c : Nat) : Nat → Nat := fun k => if k = c then q a else if k = a then q c else q k
theorem sw_lt {q : Nat → Nat} {a c k : Nat} (h1 : k ≠ a) (h2 : k ≠ c) : sw q a c k = q k := by
  unfold sw; rw [if_neg h2, if_neg h1]
theorem OP.swap {n a c : Nat} {o : Nat → Int32} {q : Nat → Nat} (h : OP n o q) (ha : a < n) (hc : c < n) : OP n (upd (upd o a (o c)) c (o a)) (sw q a c) := by
  obtain ⟨h1, h2⟩ := h
  refine ⟨fun i hi => ?_, fun i j hi hj e => ?_⟩
  · unfold sw
    by_cases e1 : i = c
    · subst e1; rw [pk_us, if_pos rfl]; exact h1 a ha
    · rw [pk_un e1, if_neg e1]
      by_cases e2 : i = a
      · subst e2; rw [pk_us, if_pos rfl]; exact h1 c hc
      · rw [pk_un e2, if_neg e2]; exact h1 i hi
  · unfold sw at e
    by_cases x1 : i = c <;> by_cases x2 : i = a <;> by_cases y1 : j = c <;> by_cases y2 : j = a <;> simp only [x1, x2, y1, y2, if_true, if_false, reduceIte] at e <;> first
      | omega
      | (have := h2 _ _ (by omega) (by omega) e; omega)
      | (subst x1; have := h2 _ _ (by omega) (by omega) e; omega)
      | (split at e <;> (have := h2 _ _ (by omega) (by omega) e; omega))
def oval (q : Nat → Nat) (n : Nat) : Nat := q 0 * 32768 + q 1 * 4096 + q 2 * 512 + (if 3 < n then q 3 * 64 else 0) + (if 4 < n then q 4 * 8 else 0) + (if 5 < n then q 5 else 0)
theorem fx_dn_st {n : Nat} (h : 2 ≤ n) : nI n - 2 = fx_dn (n - 1) := by
  obtain ⟨m, rfl⟩ : ∃ m, n = m + 2 := ⟨n - 2, by omega⟩
  exact (pk_sub (a := m + 2) (b := 2) (by omega)).trans rfl
theorem fx_dn_sub (m : Nat) : nI m - 1 = fx_dn m := by
  cases m with
  | zero => decide
  | succ m => exact (pk_sub (a := m + 1) (b := 1) (by omega)).trans rfl
theorem fx_dn_pos {i : Nat} (c : ¬ fx_dn i < 0) : ∃ m, i = m + 1 := by
  cases i with
  | zero => exact absurd (by decide) c
  | succ m => exact ⟨m, rfl⟩
theorem fx_i1 {b : Nat} (h : 1 ≤ b) : nI b + Int32.ofInt (-1) = nI (b - 1) := by
  obtain ⟨m, rfl⟩ : ∃ m, b = m + 1 := ⟨b - 1, by omega⟩
  exact (fx_dn_1 (m + 1))
theorem gl_dec {a a' : Nat} {v v' : Int32} (c : ¬ v = 0) (h : v' = 0 ∨ a < a') (h3 : a' ≤ 262144) : (if v' = 0 then 0 else 1 + (262144 - a')) < (if v = 0 then 0 else 1 + (262144 - a)) := by
  rw [if_neg c]
  rcases h with h | h
  · rw [if_pos h]; omega
  · split <;> omega
theorem oval_3 {q q' : Nat → Nat} {i : Nat} (hb : ∀ k, k < 3 → q k < 3) (hb' : ∀ k, k < 3 → q' k < 3) (hi : i < 3) (he : ∀ k, k < i → q' k = q k) (hlt : q i < q' i) : oval q 3 < oval q' 3 ∧ oval q' 3 ≤ 262144 := by
  have a0 := hb 0 (by decide)
  have c0 := hb' 0 (by decide)
  have a1 := hb 1 (by decide)
  have c1 := hb' 1 (by decide)
  have a2 := hb 2 (by decide)
  have c2 := hb' 2 (by decide)
  unfold oval
  rcases (show i = 0 ∨ i = 1 ∨ i = 2 by omega) with rfl | rfl | rfl
  · simp (config := { decide := true }) only [if_true, if_false, ite_true, ite_false, reduceIte]
    omega
  · have d0 := he 0 (by decide)
    simp (config := { decide := true }) only [if_true, if_false, ite_true, ite_false, reduceIte]
    omega
  · have d0 := he 0 (by decide)
    have d1 := he 1 (by decide)
    simp (config := { decide := true }) only [if_true, if_false, ite_true, ite_false, reduceIte]
    omega
theorem oval_4 {q q' : Nat → Nat} {i : Nat} (hb : ∀ k, k < 4 → q k < 4) (hb' : ∀ k, k < 4 → q' k < 4) (hi : i < 4) (he : ∀ k, k < i → q' k = q k) (hlt : q i < q' i) : oval q 4 < oval q' 4 ∧ oval q' 4 ≤ 262144 := by
  have a0 := hb 0 (by decide)
  have c0 := hb' 0 (by decide)
  have a1 := hb 1 (by decide)
  have c1 := hb' 1 (by decide)
  have a2 := hb 2 (by decide)
  have c2 := hb' 2 (by decide)
  have a3 := hb 3 (by decide)
  have c3 := hb' 3 (by decide)
  unfold oval
  rcases (show i = 0 ∨ i = 1 ∨ i = 2 ∨ i = 3 by omega) with rfl | rfl | rfl | rfl
  · simp (config := { decide := true }) only [if_true, if_false, ite_true, ite_false, reduceIte]
    omega
  · have d0 := he 0 (by decide)
    simp (config := { decide := true }) only [if_true, if_false, ite_true, ite_false, reduceIte]
    omega
  · have d0 := he 0 (by decide)
    have d1 := he 1 (by decide)
    simp (config := { decide := true }) only [if_true, if_false, ite_true, ite_false, reduceIte]
    omega
  · have d0 := he 0 (by decide)
    have d1 := he 1 (by decide)
    have d2 := he 2 (by decide)
    simp (config := { decide := true }) only [if_true, if_false, ite_true, ite_false, reduceIte]
    omega
theorem oval_5 {q q' : Nat → Nat} {i : Nat} (hb : ∀ k, k < 5 → q k < 5) (hb' : ∀ k, k < 5 → q' k < 5) (hi : i < 5) (he : ∀ k, k < i → q' k = q k) (hlt : q i < q' i) : oval q 5 < oval q' 5 ∧ oval q' 5 ≤ 262144 := by
  have a0 := hb 0 (by decide)
  have c0 := hb' 0 (by decide)
  have a1 := hb 1 (by decide)
  have c1 := hb' 1 (by decide)
  have a2 := hb 2 (by decide)
  have c2 := hb' 2 (by decide)
  have a3 := hb 3 (by decide)
  have c3 := hb' 3 (by decide)
  have a4 := hb 4 (by decide)
  have c4 := hb' 4 (by decide)
  unfold oval
  rcases (show i = 0 ∨ i = 1 ∨ i = 2 ∨ i = 3 ∨ i = 4 by omega) with rfl | rfl | rfl | rfl | rfl
  · simp (config := { decide := true }) only [if_true, if_false, ite_true, ite_false, reduceIte]
    omega
  · have d0 := he 0 (by decide)
    simp (config := { decide := true }) only [if_true, if_false, ite_true, ite_false, reduceIte]
    omega
  · have d0 := he 0 (by decide)
    have d1 := he 1 (by decide)
    simp (config := { decide := true }) only [if_true, if_false, ite_true, ite_false, reduceIte]
    omega
  · have d0 := he 0 (by decide)
    have d1 := he 1 (by decide)
    have d2 := he 2 (by decide)
    simp (config := { decide := true }) only [if_true, if_false, ite_true, ite_false, reduceIte]
    omega
  · have d0 := he 0 (by decide)
    have d1 := he 1 (by decide)
    have d2 := he 2 (by decide)
    have d3 := he 3 (by decide)
    simp (config := { decide := true }) only [if_true, if_false, ite_true, ite_false, reduceIte]
    omega
theorem oval_6 {q q' : Nat → Nat} {i : Nat} (hb : ∀ k, k < 6 → q k < 6) (hb' : ∀ k, k < 6 → q' k < 6) (hi : i < 6) (he : ∀ k, k < i → q' k = q k) (hlt : q i < q' i) : oval q 6 < oval q' 6 ∧ oval q' 6 ≤ 262144 := by
  have a0 := hb 0 (by decide)
  have c0 := hb' 0 (by decide)
  have a1 := hb 1 (by decide)
  have c1 := hb' 1 (by decide)
  have a2 := hb 2 (by decide)
  have c2 := hb' 2 (by decide)
  have a3 := hb 3 (by decide)
  have c3 := hb' 3 (by decide)
  have a4 := hb 4 (by decide)
  have c4 := hb' 4 (by decide)
  have a5 := hb 5 (by decide)
  have c5 := hb' 5 (by decide)
  unfold oval
  rcases (show i = 0 ∨ i = 1 ∨ i = 2 ∨ i = 3 ∨ i = 4 ∨ i = 5 by omega) with rfl | rfl | rfl | rfl | rfl | rfl
  · simp (config := { decide := true }) only [if_true, if_false, ite_true, ite_false, reduceIte]
    omega
  · have d0 := he 0 (by decide)
    simp (config := { decide := true }) only [if_true, if_false, ite_true, ite_false, reduceIte]
    omega
  · have d0 := he 0 (by decide)
    have d1 := he 1 (by decide)
    simp (config := { decide := true }) only [if_true, if_false, ite_true, ite_false, reduceIte]
    omega
  · have d0 := he 0 (by decide)
    have d1 := he 1 (by decide)
    have d2 := he 2 (by decide)
    simp (config := { decide := true }) only [if_true, if_false, ite_true, ite_false, reduceIte]
    omega
  · have d0 := he 0 (by decide)
    have d1 := he 1 (by decide)
    have d2 := he 2 (by decide)
    have d3 := he 3 (by decide)
    simp (config := { decide := true }) only [if_true, if_false, ite_true, ite_false, reduceIte]
    omega
  · have d0 := he 0 (by decide)
    have d1 := he 1 (by decide)
    have d2 := he 2 (by decide)
    have d3 := he 3 (by decide)
    have d4 := he 4 (by decide)
    simp (config := { decide := true }) only [if_true, if_false, ite_true, ite_false, reduceIte]
    omega
theorem oval_inc {n i : Nat} {q q' : Nat → Nat} (h3 : 3 ≤ n) (h6 : n ≤ 6) (hb : ∀ k, k < n → q k < n) (hb' : ∀ k, k < n → q' k < n) (hi : i < n) (he : ∀ k, k < i → q' k = q k) (hlt : q i < q' i) : oval q n < oval q' n ∧ oval q' n ≤ 262144 := by
  rcases (show n = 3 ∨ n = 4 ∨ n = 5 ∨ n = 6 by omega) with rfl | rfl | rfl | rfl
  · exact oval_3 hb hb' hi he hlt
  · exact oval_4 hb hb' hi he hlt
  · exact oval_5 hb hb' hi he hlt
  · exact oval_6 hb hb' hi he hlt
