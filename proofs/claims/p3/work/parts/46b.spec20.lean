theorem bt_nat {x j : Nat} (hx : x < 2 ^ 31) (hj : j < 12) : bt (nI x) (nI j) = x.testBit j := by
  have h := fx_bitN hx hj
  cases e : x.testBit j with
  | true => exact bt_t1 (h.mpr e)
  | false => exact bt_f1 (fun z => by rw [h.mp z] at e; cases e)
def bs (kn : Nat → Nat) (s : Nat) : Nat → Nat
  | 0 => 0
  | k + 1 => if s.testBit k = true then bs kn s k ||| kn k else bs kn s k
def ns (kn : Nat → Nat) (m s : Nat) : Nat := s ||| (bs kn s 12 &&& m)
def itm (kn : Nat → Nat) (m : Nat) : Nat → Nat → Nat
  | 0, s => s
  | j + 1, s => ns kn m (itm kn m j s)
abbrev K4 (kn : Nat → Nat) : Prop := ∀ a, a < 12 → kn a < 4096
section
variable {kn : Nat → Nat} {m s t a b i j k p q : Nat}
theorem bs_lt (h : K4 kn) : ∀ k, k ≤ 12 → bs kn s k < 4096
  | 0, _ => (by decide : (0 : Nat) < 4096)
  | k + 1, hk => by
    rw [bs]
    split
    · exact or_lt (bs_lt h k (by omega)) (h k (by omega))
    · exact bs_lt h k (by omega)
theorem bs_bit : ∀ k, (bs kn s k).testBit i = true ↔ ∃ a, a < k ∧ s.testBit a = true ∧ (kn a).testBit i = true
  | 0 => by
    rw [bs, Nat.zero_testBit]
    exact ⟨fun z => (by cases z), fun ⟨a, h, _⟩ => absurd h (Nat.not_lt_zero a)⟩
  | k + 1 => by
    have ih := bs_bit k
    rw [bs]
    by_cases c : s.testBit k = true
    · rw [if_pos c, Nat.testBit_or, Bool.or_eq_true, ih]
      constructor
      · rintro (⟨a, h1, h2⟩ | h)
        · exact ⟨a, by omega, h2⟩
        · exact ⟨k, by omega, c, h⟩
      · rintro ⟨a, h1, h2, h3⟩
        by_cases e : a = k
        · subst e; exact Or.inr h3
        · exact Or.inl ⟨a, by omega, h2, h3⟩
    · rw [if_neg c, ih]
      constructor
      · rintro ⟨a, h1, h2⟩; exact ⟨a, by omega, h2⟩
      · rintro ⟨a, h1, h2, h3⟩
        by_cases e : a = k
        · subst e; exact absurd h2 c
        · exact ⟨a, by omega, h2, h3⟩
theorem ns_lt (h : K4 kn) (hs : s < 4096) : ns kn m s < 4096 := or_lt hs (Nat.lt_of_le_of_lt Nat.and_le_left (bs_lt h 12 (Nat.le_refl _)))
theorem itm_lt (h : K4 kn) (hs : s < 4096) : ∀ j, itm kn m j s < 4096
  | 0 => hs
  | j + 1 => ns_lt h (itm_lt h hs j)
theorem ns_bit : (ns kn m s).testBit i = true ↔ s.testBit i = true ∨ (m.testBit i = true ∧ ∃ a, a < 12 ∧ s.testBit a = true ∧ (kn a).testBit i = true) := by
  rw [ns, Nat.testBit_or, Nat.testBit_and, Bool.or_eq_true, Bool.and_eq_true, bs_bit]
  constructor
  · rintro (h | ⟨h1, h2⟩)
    · exact Or.inl h
    · exact Or.inr ⟨h2, h1⟩
  · rintro (h | ⟨h1, h2⟩)
    · exact Or.inl h
    · exact Or.inr ⟨h2, h1⟩
theorem ext12 (hs : s < 4096) (ht : t < 4096) (h : ∀ i, i < 12 → s.testBit i = t.testBit i) : s = t := by
  apply Nat.eq_of_testBit_eq
  intro i
  by_cases e : i < 12
  · exact h i e
  · have h9 : 4096 ≤ 2 ^ i := Nat.le_trans (show 4096 ≤ 2 ^ 12 by decide) (Nat.pow_le_pow_right (by decide) (by omega))
    rw [Nat.testBit_lt_two_pow (Nat.lt_of_lt_of_le hs h9), Nat.testBit_lt_two_pow (Nat.lt_of_lt_of_le ht h9)]
theorem bit12 (hs : s < 4096) (h : s.testBit i = true) : i < 12 := Decidable.byContradiction fun e => by
  have h9 : 4096 ≤ 2 ^ i := Nat.le_trans (show 4096 ≤ 2 ^ 12 by decide) (Nat.pow_le_pow_right (by decide) (by omega))
  rw [Nat.testBit_lt_two_pow (Nat.lt_of_lt_of_le hs h9)] at h
  cases h
def cn (s : Nat) : Nat → Nat
  | 0 => 0
  | k + 1 => cn s k + (if s.testBit k = true then 1 else 0)
theorem cn_up : ∀ k, cn s k ≤ k
  | 0 => Nat.le_refl 0
  | k + 1 => by
    have := cn_up k
    rw [cn]; split <;> omega
theorem cn_le (h : ∀ i, s.testBit i = true → t.testBit i = true) : ∀ k, cn s k ≤ cn t k
  | 0 => Nat.le_refl 0
  | k + 1 => by
    have ih := cn_le h k
    rw [cn, cn]
    by_cases c : s.testBit k = true
    · rw [if_pos c, if_pos (h k c)]; omega
    · rw [if_neg c]; omega
theorem cn_lt (h : ∀ i, s.testBit i = true → t.testBit i = true) (h1 : s.testBit i = false) (h2 : t.testBit i = true) : ∀ k, i < k → cn s k < cn t k
  | 0, z => absurd z (Nat.not_lt_zero i)
  | k + 1, z => by
    rw [cn, cn]
    by_cases e : i = k
    · subst e
      have ih := cn_le h i
      rw [if_neg (by rw [h1]; decide), if_pos h2]; omega
    · have ih := cn_lt h h1 h2 k (by omega)
      by_cases c : s.testBit k = true
      · rw [if_pos c, if_pos (h k c)]; omega
      · rw [if_neg c]; omega
theorem cn_all : ∀ k, k ≤ cn s k → ∀ i, i < k → s.testBit i = true
  | 0, _, i, hi => absurd hi (Nat.not_lt_zero i)
  | k + 1, h, i, hi => by
    have hu := cn_up (s := s) k
    rw [cn] at h
    by_cases c : s.testBit k = true
    · rw [if_pos c] at h
      by_cases e : i = k
      · subst e; exact c
      · exact cn_all k (by omega) i (by omega)
    · rw [if_neg c] at h; omega
theorem ns_sub (h : s.testBit i = true) : (ns kn m s).testBit i = true := ns_bit.mpr (Or.inl h)
theorem itm_sub (h : s.testBit i = true) : ∀ j, (itm kn m j s).testBit i = true
  | 0 => h
  | j + 1 => ns_sub (itm_sub h j)
theorem ns_grow (h : K4 kn) (hs : s < 4096) (e : ns kn m s ≠ s) : cn s 12 < cn (ns kn m s) 12 := by
  have h9 : ¬ ∀ i, i < 12 → (ns kn m s).testBit i = s.testBit i := fun z => e (ext12 (ns_lt h hs) hs z)
  refine Decidable.byContradiction fun c => h9 fun i hi => ?_
  cases e1 : s.testBit i with
  | true => exact ns_sub e1
  | false =>
    cases e2 : (ns kn m s).testBit i with
    | false => rfl
    | true => exact absurd (cn_lt (fun i => ns_sub) e1 e2 12 hi) c
theorem itm_fix (e : ns kn m (itm kn m j s) = itm kn m j s) : ∀ d, itm kn m (j + d) s = itm kn m j s
  | 0 => rfl
  | d + 1 => by
    show ns kn m (itm kn m (j + d) s) = _
    rw [itm_fix e d, e]
theorem itm_cnt (h : K4 kn) (hs : s < 4096) : ∀ j, (∀ i, i < j → ns kn m (itm kn m i s) ≠ itm kn m i s) → cn s 12 + j ≤ cn (itm kn m j s) 12
  | 0, _ => Nat.le_refl _
  | j + 1, z => by
    have ih := itm_cnt h hs j (fun i hi => z i (by omega))
    have := ns_grow (m := m) h (itm_lt (m := m) h hs j) (z j (by omega))
    show _ ≤ cn (ns kn m (itm kn m j s)) 12
    omega
theorem itm_stop (h : K4 kn) (hs : s < 4096) (n : Nat) (hn : 12 < cn s 12 + n) : ∃ j, j < n ∧ ns kn m (itm kn m j s) = itm kn m j s := by
  refine Decidable.byContradiction fun c => ?_
  have h1 := itm_cnt (m := m) h hs n (fun i hi e => c ⟨i, hi, e⟩)
  have h2 := cn_up (s := itm kn m n s) 12
  omega
theorem pow_cn (hp : p < 12) : 1 ≤ cn (2 ^ p) 12 := by
  have := cn_lt (s := 0) (t := 2 ^ p) (i := p) (fun i z => by rw [Nat.zero_testBit] at z; cases z) (Nat.zero_testBit p) (Nat.testBit_two_pow_self) 12 hp
  omega
theorem it12 (h : K4 kn) (hp : p < 12) (hq : q < 12) (z : ∀ j, j < 12 → (itm kn m j (2 ^ p)).testBit q = false) : ∀ j, (itm kn m j (2 ^ p)).testBit q = false := by
  have hs := fx_pow12 hp
  by_cases c : ∃ j, j < 11 ∧ ns kn m (itm kn m j (2 ^ p)) = itm kn m j (2 ^ p)
  · obtain ⟨j, hj, e⟩ := c
    intro i
    by_cases l : i < 12
    · exact z i l
    · have := itm_fix e (i - j)
      rw [show j + (i - j) = i by omega] at this
      rw [this]; exact z j (by omega)
  · have h1 := itm_cnt (m := m) h hs 11 (fun i hi e => c ⟨i, hi, e⟩)
    have h2 := pow_cn hp
    have h3 := cn_all 12 (show 12 ≤ cn (itm kn m 11 (2 ^ p)) 12 by omega) q hq
    rw [z 11 (by decide)] at h3; cases h3
def STA (kn : Nat → Nat) (p q : Nat) (r : Int32) : Prop := (∃ i, i < 12 ∧ r = nI i ∧ (itm kn 4095 i (2 ^ p)).testBit q = true ∧ ∀ j, j < i → (itm kn 4095 j (2 ^ p)).testBit q = false) ∨ (r = -2 ∧ ∀ j, (itm kn 4095 j (2 ^ p)).testBit q = false)
theorem STA.one {r r' : Int32} (h : STA kn p q r) (h' : STA kn p q r') : r = r' := by
  rcases h with ⟨i, hi, e, hb, hn⟩ | ⟨e, hn⟩ <;> rcases h' with ⟨i', hi', e', hb', hn'⟩ | ⟨e', hn'⟩
  · have : i = i' := by
      rcases Nat.lt_trichotomy i i' with l | l | l
      · have := hn' i l; rw [hb] at this; cases this
      · exact l
      · have := hn i' l; rw [hb'] at this; cases this
    rw [e, e', this]
  · have := hn' i; rw [hb] at this; cases this
  · have := hn i'; rw [hb'] at this; cases this
  · rw [e, e']
def STP (kn : Nat → Nat) (P x y r : Int32) : Prop := (told P x = true ∧ told P y = true ∧ ∃ p q, p < 12 ∧ q < 12 ∧ x = nI p ∧ y = nI q ∧ STA kn p q r) ∨ (¬ (told P x = true ∧ told P y = true) ∧ r = -1)
theorem STP.one {P x y r r' : Int32} (h : STP kn P x y r) (h' : STP kn P x y r') : r = r' := by
  rcases h with ⟨c, c2, p, q, hp, hq, e1, e2, h⟩ | ⟨c, e⟩ <;> rcases h' with ⟨c', c2', p', q', hp', hq', e1', e2', h'⟩ | ⟨c', e'⟩
  · have : p = p' := (nI_eq (by omega) (by omega)).mp (e1.symm.trans e1')
    subst this
    have : q = q' := (nI_eq (by omega) (by omega)).mp (e2.symm.trans e2')
    subst this
    exact h.one h'
  · exact absurd ⟨c, c2⟩ c'
  · exact absurd ⟨c', c2'⟩ c
  · rw [e, e']
end
section
variable {kn : Nat → Nat} {m s t a b f i j k p q x y P : Nat}
theorem b4095 : ∀ i, i < 12 → (4095 : Nat).testBit i = true := by decide
theorem ns_all (h : K4 kn) (hs : s < 4096) : ns kn 4095 s = s ||| bs kn s 12 := by
  have hb := bs_lt (s := s) h 12 (Nat.le_refl _)
  refine ext12 (ns_lt h hs) (or_lt hs hb) fun i hi => ?_
  rw [ns, Nat.testBit_or, Nat.testBit_or, Nat.testBit_and, b4095 i hi, Bool.and_true]
def clo (kn : Nat → Nat) (m s : Nat) : Nat := itm kn m 12 s
theorem clo_lt (h : K4 kn) (hs : s < 4096) : clo kn m s < 4096 := itm_lt h hs 12
theorem clo_fix (h : K4 kn) (hs : s < 4096) : ns kn m (clo kn m s) = clo kn m s := by
  obtain ⟨j, hj, e⟩ := itm_stop (m := m) h hs 13 (by omega)
  have e2 := itm_fix e (12 - j)
  rw [show j + (12 - j) = 12 by omega] at e2
  show ns kn m (itm kn m 12 s) = itm kn m 12 s
  rw [e2, e]
theorem clo_at (h : K4 kn) (hs : s < 4096) (e : ns kn m (itm kn m j s) = itm kn m j s) : itm kn m j s = clo kn m s := by
  by_cases l : j ≤ 12
  · have := itm_fix e (12 - j)
    rw [show j + (12 - j) = 12 by omega] at this
    exact this.symm
  · have := itm_fix (clo_fix (m := m) h hs) (j - 12)
    rw [show 12 + (j - 12) = j by omega] at this
    exact this
theorem clo_in (h : s.testBit i = true) : (clo kn m s).testBit i = true := itm_sub h 12
theorem clo_step (h : K4 kn) (hs : s < 4096) (ha : (clo kn m s).testBit a = true) (hb : (kn a).testBit b = true) (hm : m.testBit b = true) : (clo kn m s).testBit b = true := by
  have e := clo_fix (m := m) h hs
  rw [← e]
  exact ns_bit.mpr (Or.inr ⟨hm, a, bit12 (clo_lt h hs) ha, ha, hb⟩)
theorem itm_min {X : Nat → Prop} (h0 : ∀ i, s.testBit i = true → X i) (h1 : ∀ a b, a < 12 → X a → (kn a).testBit b = true → m.testBit b = true → X b) : ∀ j i, (itm kn m j s).testBit i = true → X i
  | 0, i, h => h0 i h
  | j + 1, i, h => by
    rcases ns_bit.mp h with h | ⟨hm, a, ha, h2, h3⟩
    · exact itm_min h0 h1 j i h
    · exact h1 a i ha (itm_min h0 h1 j a h2) h3 hm
theorem clo_min {X : Nat → Prop} (h0 : ∀ i, s.testBit i = true → X i) (h1 : ∀ a b, a < 12 → X a → (kn a).testBit b = true → m.testBit b = true → X b) (h : (clo kn m s).testBit i = true) : X i := itm_min h0 h1 12 i h
theorem one_bit (h : (2 ^ a).testBit i = true) : i = a := by
  rw [Nat.testBit_two_pow] at h
  exact (of_decide_eq_true h).symm
theorem bit_one : (2 ^ a).testBit a = true := Nat.testBit_two_pow_self
def no (p : Nat) : Nat := 4095 ^^^ 2 ^ p
theorem no_bit (hi : i < 12) : (no p).testBit i = true ↔ i ≠ p := by
  rw [no, Nat.testBit_xor, b4095 i hi, Nat.testBit_two_pow]
  by_cases e : p = i
  · subst e; simp
  · simp [e, Ne.symm e]
def SYM (kn : Nat → Nat) (P : Nat) : Prop := ∀ a b, a < 12 → (kn a).testBit b = true → P.testBit a = true ∧ P.testBit b = true ∧ (kn b).testBit a = true
abbrev Cn (kn : Nat → Nat) (p a : Nat) : Nat := clo kn (no p) (2 ^ a)
theorem Cn_step (h : K4 kn) (ha : a < 12) (hx : (Cn kn p a).testBit x = true) (hy : (kn x).testBit y = true) (hp : y ≠ p) : (Cn kn p a).testBit y = true := by
  have hx12 := bit12 (clo_lt h (fx_pow12 ha)) hx
  exact clo_step h (fx_pow12 ha) hx hy ((no_bit (bit12 (h x hx12) hy)).mpr hp)
theorem Cn_min {X : Nat → Prop} (h : K4 kn) (h0 : X a) (h1 : ∀ x y, x < 12 → y < 12 → X x → (kn x).testBit y = true → y ≠ p → X y) (hi : (Cn kn p a).testBit i = true) : X i :=
  clo_min (X := X) (fun i z => one_bit z ▸ h0) (fun x y hx hX hy hm => by
    have hy12 := bit12 (h x hx) hy
    exact h1 x y hx hy12 hX hy ((no_bit hy12).mp hm)) hi
theorem Cn_sub (h : K4 kn) (ha : a < 12) (hb : b < 12) (hab : (Cn kn p b).testBit a = true) (hi : (Cn kn p a).testBit i = true) : (Cn kn p b).testBit i = true :=
  Cn_min (X := fun i => (Cn kn p b).testBit i = true) h hab (fun _ _ _ _ hX hy hp => Cn_step h hb hX hy hp) hi
theorem Cn_symm (h : K4 kn) (hS : SYM kn P) (hf : f < 12) (hfp : f ≠ p) (ha : (Cn kn p f).testBit a = true) : (Cn kn p a).testBit f = true :=
  (Cn_min (X := fun i => i < 12 ∧ i ≠ p ∧ (Cn kn p i).testBit f = true) h ⟨hf, hfp, clo_in bit_one⟩ (fun x y hx hy hX hk hp => by
    have hxy : (Cn kn p y).testBit x = true := Cn_step h hy (clo_in bit_one) (hS x y hx hk).2.2 hX.2.1
    exact ⟨hy, hp, Cn_sub h hx hy hxy hX.2.2⟩) ha).2.2
theorem Cn_no (h : K4 kn) (hap : a ≠ p) (hi : (Cn kn p a).testBit i = true) : i ≠ p :=
  Cn_min (X := fun i => i ≠ p) h hap (fun _ _ _ _ _ _ hp => hp) hi
theorem ref_eq (h : K4 kn) (hp : p < 12) (ha : a < 12) (hap : a ≠ p) (hk : (kn p).testBit a = true) : (clo kn 4095 (2 ^ p) &&& no p) = Cn kn p a ↔ ∀ b, (kn p).testBit b = true → b ≠ p → (Cn kn p a).testBit b = true := by
  have hL := clo_lt (m := 4095) h (fx_pow12 hp)
  have hC := clo_lt (m := no p) h (fx_pow12 ha)
  constructor
  · intro e b hb hbp
    have hb12 := bit12 (h p hp) hb
    rw [← e, Nat.testBit_and, Bool.and_eq_true]
    exact ⟨clo_step h (fx_pow12 hp) (clo_in bit_one) hb (b4095 b hb12), (no_bit hb12).mpr hbp⟩
  · intro z
    refine ext12 (Nat.lt_of_le_of_lt Nat.and_le_left hL) hC fun i hi => ?_
    have key : (clo kn 4095 (2 ^ p) &&& no p).testBit i = true ↔ (Cn kn p a).testBit i = true := by
      rw [Nat.testBit_and, Bool.and_eq_true, no_bit hi]
      constructor
      · rintro ⟨h1, h2⟩
        have : i = p ∨ (Cn kn p a).testBit i = true := clo_min (X := fun i => i = p ∨ (Cn kn p a).testBit i = true) (fun i q => Or.inl (one_bit q)) (fun x y hx hX hy _ => by
          by_cases e : y = p
          · exact Or.inl e
          · rcases hX with rfl | hX
            · exact Or.inr (z y hy e)
            · exact Or.inr (Cn_step h ha hX hy e)) h1
        exact this.resolve_left h2
      · intro h1
        refine ⟨?_, Cn_no h hap h1⟩
        exact Cn_min (X := fun i => (clo kn 4095 (2 ^ p)).testBit i = true) h (clo_step h (fx_pow12 hp) (clo_in bit_one) hk (b4095 a ha)) (fun x y _ hy hX hk _ => clo_step h (fx_pow12 hp) hX hk (b4095 y hy)) h1
    cases e1 : (Cn kn p a).testBit i with
    | true => exact key.mpr e1
    | false =>
      cases e2 : (clo kn 4095 (2 ^ p) &&& no p).testBit i with
      | false => rfl
      | true => rw [key.mp e2] at e1; cases e1
theorem hold_iff (h : K4 kn) (hS : SYM kn P) (hp : p < 12) (hf : f < 12) (hfp : f ≠ p) (hkf : (kn p).testBit f = true) : (∃ b, (kn p).testBit b = true ∧ b ≠ p ∧ (Cn kn p f).testBit b = false) ↔ ∃ a, a < 12 ∧ a ≠ p ∧ (kn p).testBit a = true ∧ (clo kn 4095 (2 ^ p) &&& no p) ≠ Cn kn p a := by
  constructor
  · rintro ⟨b, hb, hbp, hn⟩
    refine ⟨f, hf, hfp, hkf, fun e => ?_⟩
    rw [(ref_eq h hp hf hfp hkf).mp e b hb hbp] at hn; cases hn
  · rintro ⟨a, ha, hap, hka, hne⟩
    refine Classical.byContradiction fun c => hne ((ref_eq h hp ha hap hka).mpr fun b hb hbp => ?_)
    have hin : ∀ b, (kn p).testBit b = true → b ≠ p → (Cn kn p f).testBit b = true := fun b hb hbp => by
      cases e : (Cn kn p f).testBit b with
      | true => rfl
      | false => exact absurd ⟨b, hb, hbp, e⟩ c
    have haf := Cn_symm h hS hf hfp (hin a hka hap)
    exact Cn_sub h hf ha haf (hin b hb hbp)
theorem clo_told (h : K4 kn) (hS : SYM kn P) (ha : P.testBit a = true) (ha12 : a < 12) (hap : a ≠ p) (hm : ∀ i, i < 12 → (m.testBit i = true ↔ P.testBit i = true ∧ i ≠ p)) : clo kn m (2 ^ a) = Cn kn p a := by
  refine ext12 (clo_lt h (fx_pow12 ha12)) (clo_lt h (fx_pow12 ha12)) fun i hi => ?_
  have key : (clo kn m (2 ^ a)).testBit i = true ↔ (Cn kn p a).testBit i = true := by
    constructor
    · intro z
      exact clo_min (X := fun i => (Cn kn p a).testBit i = true) (fun i q => one_bit q ▸ clo_in bit_one) (fun x y hx hX hy hmy => Cn_step h ha12 hX hy ((hm y (bit12 (h x hx) hy)).mp hmy).2) z
    · intro z
      exact Cn_min (X := fun i => (clo kn m (2 ^ a)).testBit i = true) h (clo_in bit_one) (fun x y hx hy hX hk hp => clo_step h (fx_pow12 ha12) hX hk ((hm y hy).mpr ⟨(hS x y hx hk).2.1, hp⟩)) z
  cases e1 : (Cn kn p a).testBit i with
  | true => exact key.mpr e1
  | false =>
    cases e2 : (clo kn m (2 ^ a)).testBit i with
    | false => rfl
    | true => rw [key.mp e2] at e1; cases e1
end

theorem bs_yes {kn : Nat → Nat} {s k : Nat} {v x : Int32} (hs : s < 4096) (hk : k < 12) (e : v = nI (bs kn s k)) (ex : x = nI (kn k)) (hb : bt (nI s) (nI k) = true) : v ||| x = nI (bs kn s (k + 1)) := by
  rw [bt_nat (by omega) hk] at hb
  rw [e, ex, fx_orI, bs, if_pos hb]
theorem bs_not {kn : Nat → Nat} {s k : Nat} {v : Int32} (hs : s < 4096) (hk : k < 12) (e : v = nI (bs kn s k)) (hb : bt (nI s) (nI k) = false) : v = nI (bs kn s (k + 1)) := by
  rw [bt_nat (by omega) hk] at hb
  rw [e, bs, if_neg (by rw [hb]; decide)]
theorem bt_it {s q : Nat} {v : Int32} {x : Bool} (e : v = nI s) (hs : s < 4096) (hq : q < 12) (h : bt v (nI q) = x) : s.testBit q = x := by
  rw [e, bt_nat (by omega) hq] at h; exact h
theorem it_next {kn : Nat → Nat} {s : Nat} {v r : Int32} (h : K4 kn) (hs : s < 4096) (e : v = nI s) (er : r = nI (bs kn s 12)) : v ||| r = nI (ns kn 4095 s) := by
  rw [e, er, fx_orI, ns_all h hs]
theorem it_lt {P : Nat → Prop} {j : Nat} (h : ∀ i, i < j → P i) (hj : P j) : ∀ i, i < j + 1 → P i := fun i hi => by
  by_cases e : i = j
  · subst e; exact hj
  · exact h i (by omega)
theorem told_nat {P x : Int32} (h : told P x = true) : ∃ p : Nat, p < 12 ∧ x = nI p := by
  simp only [told, Bool.and_eq_true, decide_eq_true_eq] at h
  obtain ⟨j, _, hj, e⟩ := in_nat (a := 0) (b := 11) (by decide) ⟨h.1.1, h.1.2⟩
  exact ⟨j, by omega, e⟩

