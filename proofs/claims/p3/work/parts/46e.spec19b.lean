
theorem fx_xorI (a b : Nat) : nI a ^^^ nI b = nI (a ^^^ b) := by
  apply Int32.toBitVec_inj.mp
  simp [nI, BitVec.ofNat_xor]
theorem b32 : ∀ i, i < 12 → (4294967295 : Nat).testBit i = true := by decide
theorem fx_cm {x y : Nat} (hx : x < 4096) : nI x &&& (nI y ^^^ (-1)) = nI (x &&& (4095 ^^^ y)) := by
  rw [show (-1 : Int32) = nI 4294967295 from by decide, fx_xorI, fx_andI]
  refine congrArg nI (ext12 (Nat.lt_of_le_of_lt Nat.and_le_left hx) (Nat.lt_of_le_of_lt Nat.and_le_left hx) fun i hi => ?_)
  rw [Nat.testBit_and, Nat.testBit_and, Nat.testBit_xor, Nat.testBit_xor, b32 i hi, b4095 i hi, Bool.xor_comm]
def lowi (k : Nat) : Nat := ((List.range 12).find? (fun i => k.testBit i)).getD 0
def lowP (k : Nat) : Prop := (k = 0 ∨ (k.testBit (lowi k) = true ∧ lowi k < 12)) ∧ nI k &&& -(nI k) = nI (if k = 0 then 0 else 2 ^ lowi k)
theorem low_of2 : ∀ a, a < 64 → ∀ b, b < 64 → ((64 * a + b = 0 ∨ ((64 * a + b).testBit (lowi (64 * a + b)) = true ∧ lowi (64 * a + b) < 12)) ∧ nI (64 * a + b) &&& -(nI (64 * a + b)) = nI (if 64 * a + b = 0 then 0 else 2 ^ lowi (64 * a + b))) := by decide +kernel
theorem low_of (k : Nat) (hk : k < 4096) : (k = 0 ∨ (k.testBit (lowi k) = true ∧ lowi k < 12)) ∧ nI k &&& -(nI k) = nI (if k = 0 then 0 else 2 ^ lowi k) := by
  have h : lowP (64 * (k / 64) + k % 64) := low_of2 (k / 64) (by omega) (k % 64) (by omega)
  rw [show 64 * (k / 64) + k % 64 = k by omega] at h
  exact h
def fstb (k : Nat) : Nat := if k = 0 then 0 else 2 ^ lowi k
section
variable {kn : Nat → Nat} {m s t a b f i j k p q r y z x P : Nat}
theorem low_fst (hk : k < 4096) : nI k &&& -(nI k) = nI (fstb k) := (low_of k hk).2
theorem fst_lt (hk : k < 4096) : fstb k < 4096 := by
  rw [fstb]
  split
  · decide
  · rename_i c
    exact fx_pow12 ((low_of k hk).1.resolve_left c).2
abbrev KST (kn : Nat → Nat) (p : Nat) : Prop := ∃ a, a < 12 ∧ a ≠ p ∧ (kn p).testBit a = true ∧ (clo kn 4095 (2 ^ p) &&& no p) ≠ clo kn (no p) (2 ^ a)
def HLD (kn : Nat → Nat) (P j : Nat) (v : Int32) : Prop := ∃ k, k < 4096 ∧ v = nI k ∧ ∀ i, i < 12 → (k.testBit i = true ↔ i < j ∧ P.testBit i = true ∧ KST kn i)
theorem HLD.zero : HLD kn P 0 0 := ⟨0, by decide, rfl, fun i _ => by
  rw [Nat.zero_testBit]
  exact ⟨fun z => (by cases z), fun z => absurd z.1 (Nat.not_lt_zero i)⟩⟩
theorem HLD.yes {v : Int32} (h : HLD kn P j v) (hj : j < 12) (h1 : P.testBit j = true) (h2 : KST kn j) : HLD kn P (j + 1) (v ||| nI (2 ^ j)) := by
  obtain ⟨k, hk, e, hb⟩ := h
  refine ⟨k ||| 2 ^ j, or_lt hk (fx_pow12 hj), by rw [e, fx_orI], fun i hi => ?_⟩
  rw [Nat.testBit_or, Bool.or_eq_true, hb i hi]
  constructor
  · rintro (⟨z1, z2⟩ | z)
    · exact ⟨by omega, z2⟩
    · have := one_bit z
      subst this
      exact ⟨by omega, h1, h2⟩
  · rintro ⟨z1, z2⟩
    by_cases c : i = j
    · subst c; exact Or.inr bit_one
    · exact Or.inl ⟨by omega, z2⟩
theorem HLD.no {v : Int32} (h : HLD kn P j v) (hn : ¬ (P.testBit j = true ∧ KST kn j)) : HLD kn P (j + 1) v := by
  obtain ⟨k, hk, e, hb⟩ := h
  refine ⟨k, hk, e, fun i hi => ?_⟩
  rw [hb i hi]
  constructor
  · rintro ⟨z1, z2⟩; exact ⟨by omega, z2⟩
  · rintro ⟨z1, z2⟩
    by_cases c : i = j
    · subst c; exact absurd z2 hn
    · exact ⟨by omega, z2⟩
theorem HLD.one {v w : Int32} (h : HLD kn P 12 v) (h' : HLD kn P 12 w) : v = w := by
  obtain ⟨k, hk, e, hb⟩ := h
  obtain ⟨k', hk', e', hb'⟩ := h'
  have : k = k' := ext12 hk hk' fun i hi => by
    have h1 := (hb i hi).trans (hb' i hi).symm
    cases e1 : k.testBit i with
    | true => exact (h1.mp e1).symm
    | false =>
      cases e2 : k'.testBit i with
      | false => rfl
      | true => rw [h1.mpr e2] at e1; cases e1
  rw [e, e', this]
theorem told_bit (hP : P < 4096) (hi : i < 12) : told (nI P) (nI i) = P.testBit i := by
  rw [← bt_nat (x := P) (by omega) hi, told, decide_eq_true (nI_pos' (by omega)), decide_eq_true (show nI i ≤ 11 from (nI_leI (a := i) (b := 11) (by omega) (by omega)).mpr (by omega))]
  rfl
theorem mb_yes (h : r = s ||| (bs kn s k &&& m)) (hb : s.testBit k = true) : r ||| (kn k &&& m) = s ||| (bs kn s (k + 1) &&& m) := by
  rw [h, bs, if_pos hb]
  apply Nat.eq_of_testBit_eq
  intro i
  simp only [Nat.testBit_or, Nat.testBit_and]
  cases s.testBit i <;> cases (bs kn s k).testBit i <;> cases m.testBit i <;> cases (kn k).testBit i <;> rfl
theorem mb_no (h : r = s ||| (bs kn s k &&& m)) (hb : s.testBit k = false) : r = s ||| (bs kn s (k + 1) &&& m) := by
  rw [h, bs, if_neg (by rw [hb]; decide)]
theorem mb_fin (e : r = s ||| (bs kn s k &&& m)) (hk : k = 12) (es : s = itm kn m y z) : r = itm kn m (y + 1) z := by
  subst hk
  rw [e, es]; rfl
theorem grp_fix {v : Int32} (h : K4 kn) (hp : p < 12) (hi : s < 4096) (e : s = itm kn m y (2 ^ p)) (hv : v = 0 ∨ ∃ y', y = y' + 1 ∧ v = nI (itm kn m y' (2 ^ p))) (ev : nI s = v) : nI s = nI (clo kn m (2 ^ p)) := by
  rcases hv with hv | ⟨y', ey, hv⟩
  · have h0 : s = 0 := (nI_eq (by omega) (by omega)).mp (ev.trans hv)
    exact absurd (e.symm.trans h0) itm_ne
  · have hl := itm_lt (m := m) h (fx_pow12 hp) y'
    have h1 : s = itm kn m y' (2 ^ p) := (nI_eq (by omega) (by omega)).mp (ev.trans hv)
    have h2 : ns kn m (itm kn m y' (2 ^ p)) = itm kn m y' (2 ^ p) := by
      rw [ey] at e; exact e.symm.trans h1
    rw [h1, clo_at h (fx_pow12 hp) h2]
theorem and_or_no (h : k < 4096) (hm : m < 4096) : (k &&& m) < 4096 := Nat.lt_of_le_of_lt Nat.and_le_left h
theorem x_bit (hi : i < 12) : (k &&& (4095 ^^^ x)).testBit i = true ↔ k.testBit i = true ∧ x.testBit i = false := by
  rw [Nat.testBit_and, Bool.and_eq_true, Nat.testBit_xor, b4095 i hi]
  cases x.testBit i <;> simp
theorem hold_c (h : K4 kn) (hS : SYM kn P) (hP : P < 4096) (hp : p < 12) (ek : k = (kn p &&& (P &&& no p))) : (k &&& (4095 ^^^ clo kn (P &&& no p) (fstb k &&& (P &&& no p)))) ≠ 0 ↔ (P.testBit p = true ∧ KST kn p) := by
  have hk : k < 4096 := ek ▸ Nat.lt_of_le_of_lt Nat.and_le_left (h p hp)
  have hkb : ∀ i, i < 12 → (k.testBit i = true ↔ (kn p).testBit i = true ∧ i ≠ p) := fun i hi => by
    rw [ek, Nat.testBit_and, Nat.testBit_and, Bool.and_eq_true, Bool.and_eq_true, no_bit hi]
    exact ⟨fun z => ⟨z.1, z.2.2⟩, fun z => ⟨z.1, (hS p i hp z.1).2.1, z.2⟩⟩
  have hmb : ∀ i, i < 12 → ((P &&& no p).testBit i = true ↔ P.testBit i = true ∧ i ≠ p) := fun i hi => by
    rw [Nat.testBit_and, Bool.and_eq_true, no_bit hi]
  by_cases c : k = 0
  · constructor
    · intro z; exact absurd (by rw [c, Nat.zero_and]) z
    · rintro ⟨-, a, ha, hap, hka, -⟩
      have := (hkb a ha).mpr ⟨hka, hap⟩
      rw [c, Nat.zero_testBit] at this; cases this
  · obtain ⟨hf, hf12⟩ := (low_of k hk).1.resolve_left c
    obtain ⟨hkf, hfp⟩ := (hkb _ hf12).mp hf
    have hPf := (hS p _ hp hkf).2.1
    have e1 : fstb k &&& (P &&& no p) = 2 ^ lowi k := by
      rw [fstb, if_neg c]
      refine ext12 (Nat.lt_of_le_of_lt Nat.and_le_left (fx_pow12 hf12)) (fx_pow12 hf12) fun i hi => ?_
      rw [Nat.testBit_and]
      cases e : (2 ^ lowi k).testBit i with
      | false => rfl
      | true =>
        have e2 := one_bit e
        rw [e2, (hmb _ hf12).mpr ⟨hPf, hfp⟩]; rfl
    rw [e1, clo_told h hS hPf hf12 hfp hmb]
    have hC := clo_lt (m := no p) h (fx_pow12 hf12)
    constructor
    · intro z
      refine ⟨(hS p _ hp hkf).1, (hold_iff h hS hp hf12 hfp hkf).mp ?_⟩
      refine Classical.byContradiction fun c2 => z (ext12 (Nat.lt_of_le_of_lt Nat.and_le_left hk) (by decide) fun i hi => ?_)
      rw [Nat.zero_testBit]
      cases e : (k &&& (4095 ^^^ clo kn (no p) (2 ^ lowi k))).testBit i with
      | false => rfl
      | true =>
        obtain ⟨h1, h2⟩ := (x_bit hi).mp e
        obtain ⟨h3, h4⟩ := (hkb i hi).mp h1
        exact absurd ⟨i, h3, h4, h2⟩ c2
    · rintro ⟨-, hks⟩ z
      obtain ⟨b, hb, hbp, hn⟩ := (hold_iff h hS hp hf12 hfp hkf).mpr hks
      have hb12 := bit12 (h p hp) hb
      have := (x_bit (x := clo kn (no p) (2 ^ lowi k)) hb12).mpr ⟨(hkb b hb12).mpr ⟨hb, hbp⟩, hn⟩
      rw [z, Nat.zero_testBit] at this; cases this
theorem hk_step {v : Int32} (h : HLD kn P j v) (hj : j < 12) (c : nI k ≠ 0) (hk : k < 4096) (hh : k ≠ 0 ↔ (P.testBit j = true ∧ KST kn j)) : HLD kn P (j + 1) (v ||| nI (2 ^ j)) := by
  have h9 : k ≠ 0 := fun e => c (by rw [e]; rfl)
  exact h.yes hj (hh.mp h9).1 (hh.mp h9).2
theorem hk_stay {v : Int32} (h : HLD kn P j v) (c : nI k = 0) (hk : k < 4096) (hh : k ≠ 0 ↔ (P.testBit j = true ∧ KST kn j)) : HLD kn P (j + 1) v := h.no fun z => hh.mpr z ((nI_eq (by omega) (by omega)).mp c)
theorem rch_next {v r : Int32} (e : v = nI s) (er : r = nI (bs kn s 12)) : v ||| (r &&& nI m) = nI (ns kn m s) := by
  rw [e, er, fx_andI, fx_orI]; rfl
end

