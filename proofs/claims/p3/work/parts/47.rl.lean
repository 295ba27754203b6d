def RLs (V : Wd) : Prop := fI (V 0) 4 = fI (V 100) 51 ∧ fI (V 3) 7 = fI (V 101) 208 ∧ fI (V 39) 7 = fI (V 103) 208 ∧ fI (V 1) 1 = fI (V 100) 13 ∧ fI (V 3) 5 = fI (V 100) 9 ∧ fI (V 3) 6 = fI (V 100) 10 ∧ fI (V 2) = gb (fI (V 110)) ∧ rs (fI (V 17)) = rs (fI (V 104))
theorem RLs.init {D : va_G} {b : Nat} {V V' : Wd} (hI : I0 D b V) (hM : M0 D b V') (f : ∀ i, i < 100 → V' i = V i) : RLs V' := by
  obtain ⟨m0, m1, m2, a3, a21, a39, -⟩ := hI
  obtain ⟨k100, k101, k102, k103, k104, k105, k106, k107, k108, k109, k110, -⟩ := hM
  refine ⟨?_, ?_, ?_, ?_, ?_, ?_, ?_, ?_⟩
  · rw [f 0 (by decide), m0, k100]; rfl
  · rw [f 3 (by decide), a3.1, k101]
    show (0 : Int32) = upd (fun _ => (0 : Int32)) ((209 : Int32).toNatClampNeg) 1 208
    decide
  · rw [f 39 (by decide), a39.1, k103]; rfl
  · rw [f 1 (by decide), m1, k100]; rfl
  · rw [f 3 (by decide), a3.1, k100]; rfl
  · rw [f 3 (by decide), a3.1, k100]; rfl
  · rw [f 2 (by decide), m2, k110]
    exact funext fun k => (show (0 : Int32) = 0 &&& 255 by decide)
  · rw [f 17 (by decide), a3.2.2.2.1, k104]
theorem RLs.tape {D : va_G} {b cl : Nat} {V : Wd} (h : RLs V) (hR : CR D b cl V) : ∃ s : Nat, fI (V 1) 1 = nI s ∧ s ≤ 260 := by
  obtain ⟨_, _, _, _, _, _, _, _, _, _, _, _, tad, pl0, le0, nu0, coy, wag, say, e, htad, hpl0, hle0, hnu0, hcoy, hwag, hsay⟩ := hR 0 _ rfl
  exact ⟨tad, h.2.2.2.1.trans (by rw [e]; rfl), htad⟩
theorem FDB.one {s : Int32} {g g9 h9 : Nat → Int32} {v0 v1 v2 v3 v4 : Int32} (h : FDB s g g9 v0 v1 v2 v3 v4) (h' : FDB s g h9 v0 v1 v2 v3 v4) : g9 = h9 := by
  rcases h with ⟨c, e⟩ | ⟨c, e⟩ <;> rcases h' with ⟨c', e'⟩ | ⟨c', e'⟩
  · rw [e, e']
  · exact absurd c c'
  · exact absurd c' c
  · rw [e, e']
theorem BYof {V : Wd} (h : RLs V) : BY (fI (V 2)) := by
  rw [h.2.2.2.2.2.2.1]; exact BY_gb _
