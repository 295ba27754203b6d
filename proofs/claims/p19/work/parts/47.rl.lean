def RLs (V : Wd) : Prop := fI (V 0) 4 = fI (V 100) 51 ∧ fI (V 3) 7 = fI (V 101) 208 ∧ fI (V 39) 7 = fI (V 103) 208 ∧ fI (V 1) 1 = fI (V 100) 13 ∧ fI (V 3) 5 = fI (V 100) 9 ∧ fI (V 3) 6 = fI (V 100) 10 ∧ fI (V 2) = gb (fI (V 110)) ∧ rs (fI (V 17)) = rs (fI (V 104)) ∧ GDS (fI (V 3) 5) (rs (fI (V 17)))
theorem RLs.init {D : va_G} {b : Nat} {V V' : Wd} (hI : I0 D b V) (hM : M0 D b V') (f : ∀ i, i < 100 → V' i = V i) : RLs V' := by
  obtain ⟨m0, m1, m2, a3, a21, a39, -⟩ := hI
  obtain ⟨k100, k101, k102, k103, k104, k105, k106, k107, k108, k109, k110, -⟩ := hM
  refine ⟨?_, ?_, ?_, ?_, ?_, ?_, ?_, ?_, ?_⟩
  · rw [f 0 (by decide), m0, k100]; rfl
  · rw [f 3 (by decide), a3.1, k101]
    show (0 : Int32) = upd (fun _ => (0 : Int32)) ((209 : Int32).toNatClampNeg) 1 208
    decide
  · rw [f 39 (by decide), a39.1, k103]; rfl
  · rw [f 1 (by decide), m1, k100]; rfl
  · rw [f 3 (by decide), a3.1, k100]; rfl
  · rw [f 3 (by decide), a3.1, k100]; rfl
  · rw [f 2 (by decide), m2, k110]
    exact funext fun k => (show (0 : Int32) = 0 &&& 255 by decide)
  · rw [f 17 (by decide), a3.2.2.2.1, k104]
  · exact GDS.zero (by rw [f 3 (by decide), a3.1]; rfl) (fun i hi => by rw [f 17 (by decide), a3.2.2.2.1, rs_in hi]; rfl)
theorem RLs.tape {D : va_G} {b cl : Nat} {V : Wd} (h : RLs V) (hR : CR D b cl V) : ∃ s : Nat, fI (V 1) 1 = nI s ∧ s ≤ 260 := by
  obtain ⟨_, _, _, _, _, _, _, _, _, _, _, _, tad, pl0, le0, nu0, coy, wag, say, e, htad, hpl0, hle0, hnu0, hcoy, hwag, hsay⟩ := hR 0 _ rfl
  exact ⟨tad, h.2.2.2.1.trans (by rw [e]; rfl), htad⟩
theorem FDB.one {s : Int32} {g g9 h9 : Nat → Int32} {v0 v1 v2 v3 v4 : Int32} (h : FDB s g g9 v0 v1 v2 v3 v4) (h' : FDB s g h9 v0 v1 v2 v3 v4) : g9 = h9 := by
  rcases h with ⟨c, e⟩ | ⟨c, e⟩ <;> rcases h' with ⟨c', e'⟩ | ⟨c', e'⟩
  · rw [e, e']
  · exact absurd c c'
  · exact absurd c' c
  · rw [e, e']
theorem hld_c {V : Wd} {r r' : Int32} {kn kn' : Nat → Nat} {p p' : Nat} : True := trivial
noncomputable def gP (P : Int32) : Nat := P.toNatClampNeg
def gK (K : Nat → Int32) (i : Nat) : Nat := (K i).toNatClampNeg
theorem GDS.get {P : Int32} {K : Nat → Int32} (h : GDS P K) : (gP P < 4096 ∧ P = nI (gP P)) ∧ (∀ i, i < 12 → gK K i < 4096 ∧ K i = nI (gK K i)) ∧ SYM (gK K) (gP P) := by
  obtain ⟨p, kn, hp, e, h4, hk, hs⟩ := h
  have e1 : gP P = p := by rw [gP, e, nI_clamp (by omega)]
  have e2 : ∀ i, i < 12 → gK K i = kn i := fun i hi => by
    have := h4 i hi
    rw [gK, hk i hi, nI_clamp (by omega)]
  refine ⟨by rw [e1]; exact ⟨hp, e⟩, fun i hi => by rw [e2 i hi]; exact ⟨h4 i hi, hk i hi⟩, fun a b ha hb => ?_⟩
  rw [e2 a ha] at hb
  obtain ⟨q1, q2, q3⟩ := hs a b ha hb
  have hb12 := bit12 (h4 a ha) hb
  rw [e1, e2 b hb12]
  exact ⟨q1, q2, q3⟩
theorem gC {V : Wd} (h : RLs V) : ∀ i, i < 12 → gK (rs (fI (V 17))) i < 4096 ∧ fI (V 17) i = nI (gK (rs (fI (V 17))) i) := fun i hi => by
  have := (h.2.2.2.2.2.2.2.2).get.2.1 i hi
  exact ⟨this.1, (rs_in hi).symm.trans this.2⟩
theorem gM {V : Wd} (h : RLs V) : ∀ i, i < 12 → gK (rs (fI (V 17))) i < 4096 ∧ fI (V 104) i = nI (gK (rs (fI (V 17))) i) := fun i hi => by
  have h1 := (h.2.2.2.2.2.2.2.2).get.2.1 i hi
  have h2 := congrFun (h.2.2.2.2.2.2.2.1) i
  exact ⟨h1.1, (rs_in hi).symm.trans (h2.symm.trans h1.2)⟩
