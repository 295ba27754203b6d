theorem numL_v {g : Nat → Int32} {n k a0 : Nat} : ∀ (m a v a9 v9 : Nat), a0 ≤ a → v < 10 ^ (a - a0) → a - a0 ≤ k → numL g n k a0 m a v = .inr (a9, v9) → v9 < 10 ^ k
  | 0, a, v, a9, v9, h0, hv, hk, h => by
    cases h
    exact Nat.lt_of_lt_of_le hv (Nat.pow_le_pow_right (by decide) hk)
  | m + 1, a, v, a9, v9, h0, hv, hk, h => by
    rw [numL] at h
    by_cases c : isDg (hd g n a) = true
    · rw [if_pos c] at h
      by_cases c2 : k ≤ a - a0
      · rw [if_pos c2] at h; cases h
      · rw [if_neg c2] at h
        obtain ⟨z, hz, ez⟩ := isDg_nat c
        refine numL_v m (a + 1) _ a9 v9 (by omega) ?_ (by omega) h
        rw [ez, nI_clamp (by omega), show a + 1 - a0 = (a - a0) + 1 by omega, Nat.pow_succ]
        omega
    · rw [if_neg c] at h
      cases h
      exact Nat.lt_of_lt_of_le hv (Nat.pow_le_pow_right (by decide) hk)
theorem num_31 {g : Nat → Int32} {n a a9 v9 : Nat} (h : num g n 2 a = .inr (a9, v9)) : v9 < 2 ^ 31 := by
  by_cases c : isDg (hd g n a) = true
  · rw [num, if_pos c] at h
    have := numL_v _ _ _ _ _ (Nat.le_refl a) (by rw [Nat.sub_self]; decide) (by omega) h
    omega
  · rw [num, if_neg c] at h; cases h
def GDS (P : Int32) (K : Nat → Int32) : Prop := ∃ (p : Nat) (kn : Nat → Nat), p < 4096 ∧ P = nI p ∧ K4 kn ∧ (∀ i, i < 12 → K i = nI (kn i)) ∧ SYM kn p
def upn (f : Nat → Nat) (k v : Nat) : Nat → Nat := fun i => if i = k then v else f i
theorem upn_s {f : Nat → Nat} {k v : Nat} : upn f k v k = v := if_pos rfl
theorem upn_n {f : Nat → Nat} {k v i : Nat} (h : i ≠ k) : upn f k v i = f i := if_neg h
section
variable {P x : Int32} {K : Nat → Int32} {p q a b i j v : Nat} {kn : Nat → Nat}
theorem GDS.cong {P' : Int32} {K' : Nat → Int32} (e1 : P' = P) (e2 : K' = K) (h : GDS P K) : GDS P' K' := by rw [e1, e2]; exact h
theorem GDS.zero (h1 : P = 0) (h2 : ∀ i, i < 12 → K i = 0) : GDS P K := ⟨0, fun _ => 0, by decide, h1, fun _ _ => (by decide : (0 : Nat) < 4096), h2, fun a b _ h => by rw [Nat.zero_testBit] at h; cases h⟩
theorem GDS.tell (h : GDS P K) (hx : 0 ≤ x ∧ x ≤ 11) : GDS (P ||| (1 : Int32) <<< (x &&& 31)) K := by
  obtain ⟨p, kn, hp, e, h4, hk, hs⟩ := h
  obtain ⟨j, _, hj, rfl⟩ := in_nat (a := 0) (b := 11) (by decide) hx
  refine ⟨p ||| 2 ^ j, kn, or_lt hp (fx_pow12 (by omega)), by rw [e, fx_shl12 j (by omega), fx_orI], h4, hk, fun a b ha hb => ?_⟩
  obtain ⟨q1, q2, q3⟩ := hs a b ha hb
  refine ⟨?_, ?_, q3⟩ <;> rw [Nat.testBit_or, Bool.or_eq_true]
  · exact Or.inl q1
  · exact Or.inl q2
theorem pow_bit : (2 ^ a).testBit b = true ↔ b = a := ⟨one_bit, fun e => e ▸ bit_one⟩
theorem up_bit (hpq : p ≠ q) : (upn (upn kn p (kn p ||| 2 ^ q)) q (upn kn p (kn p ||| 2 ^ q) q ||| 2 ^ p) a).testBit b = true ↔ (kn a).testBit b = true ∨ (a = p ∧ b = q) ∨ (a = q ∧ b = p) := by
  by_cases e : a = q
  · subst e
    rw [upn_s, upn_n (Ne.symm hpq), Nat.testBit_or, Bool.or_eq_true, pow_bit]
    constructor
    · rintro (z | z)
      · exact Or.inl z
      · exact Or.inr (Or.inr ⟨rfl, z⟩)
    · rintro (z | ⟨z, _⟩ | ⟨_, z⟩)
      · exact Or.inl z
      · exact absurd z.symm hpq
      · exact Or.inr z
  · rw [upn_n e]
    by_cases e2 : a = p
    · subst e2
      rw [upn_s, Nat.testBit_or, Bool.or_eq_true, pow_bit]
      constructor
      · rintro (z | z)
        · exact Or.inl z
        · exact Or.inr (Or.inl ⟨rfl, z⟩)
      · rintro (z | ⟨_, z⟩ | ⟨z, _⟩)
        · exact Or.inl z
        · exact Or.inr z
        · exact absurd z e
    · rw [upn_n e2]
      constructor
      · exact Or.inl
      · rintro (z | ⟨z, _⟩ | ⟨z, _⟩)
        · exact z
        · exact absurd z e2
        · exact absurd z e
theorem dn_bit (hpq : p ≠ q) (hp : p < 12) (hq : q < 12) (hb : b < 12) : (upn (upn kn p (kn p &&& (4095 ^^^ 2 ^ q))) q (upn kn p (kn p &&& (4095 ^^^ 2 ^ q)) q &&& (4095 ^^^ 2 ^ p)) a).testBit b = true ↔ (kn a).testBit b = true ∧ ¬ (a = p ∧ b = q) ∧ ¬ (a = q ∧ b = p) := by
  have pf : ∀ c, (2 ^ c).testBit b = false ↔ ¬ b = c := fun c => by
    rw [← pow_bit (a := c) (b := b)]
    cases (2 ^ c).testBit b <;> simp
  by_cases e : a = q
  · subst e
    rw [upn_s, upn_n (Ne.symm hpq), x_bit hb, pf]
    constructor
    · rintro ⟨z1, z2⟩; exact ⟨z1, fun z => hpq z.1.symm, fun z => z2 z.2⟩
    · rintro ⟨z1, z2, z3⟩; exact ⟨z1, fun z => z3 ⟨rfl, z⟩⟩
  · rw [upn_n e]
    by_cases e2 : a = p
    · subst e2
      rw [upn_s, x_bit hb, pf]
      constructor
      · rintro ⟨z1, z2⟩; exact ⟨z1, fun z => z2 z.2, fun z => e z.1⟩
      · rintro ⟨z1, z2, z3⟩; exact ⟨z1, fun z => z2 ⟨rfl, z⟩⟩
    · rw [upn_n e2]
      constructor
      · intro z; exact ⟨z, fun z => e2 z.1, fun z => e z.1⟩
      · exact fun z => z.1
theorem upd_upn {k : Nat} {v : Int32} {w : Nat} (hk : ∀ i, i < 12 → K i = nI (kn i)) (e : v = nI w) : ∀ i, i < 12 → upd K k v i = nI (upn kn k w i) := fun i hi => by
  by_cases c : i = k
  · subst c; rw [pk_us, upn_s]; exact e
  · rw [pk_un c, upn_n c]; exact hk i hi
theorem GDS.up (h : GDS P K) (h1 : told P (nI a) = true) (h2 : told P (nI b) = true) (ha : a < 12) (hb : b < 12) (hab : a ≠ b) : GDS P (kup K a b) := by
  obtain ⟨p, kn, hp, e, h4, hk, hs⟩ := h
  rw [e, told_bit hp ha] at h1
  rw [e, told_bit hp hb] at h2
  have s1 : K a ||| (1 : Int32) <<< (nI b &&& 31) = nI (kn a ||| 2 ^ b) := by rw [hk a ha, fx_shl12 b hb, fx_orI]
  have k1 := upd_upn (k := a) hk s1
  have s2 : (upd K a (K a ||| (1 : Int32) <<< (nI b &&& 31))) b ||| (1 : Int32) <<< (nI a &&& 31) = nI (upn kn a (kn a ||| 2 ^ b) b ||| 2 ^ a) := by rw [k1 b hb, fx_shl12 a ha, fx_orI]
  have k2 := upd_upn (k := b) k1 s2
  have q1 : K4 (upn kn a (kn a ||| 2 ^ b)) := fun i hi => by
    by_cases c : i = a
    · subst c; rw [upn_s]; exact or_lt (h4 i hi) (fx_pow12 hb)
    · rw [upn_n c]; exact h4 i hi
  refine ⟨p, upn (upn kn a (kn a ||| 2 ^ b)) b (upn kn a (kn a ||| 2 ^ b) b ||| 2 ^ a), hp, e, fun i hi => ?_, k2, fun x y hx hy => ?_⟩
  · by_cases c : i = b
    · subst c; rw [upn_s]; exact or_lt (q1 i hi) (fx_pow12 ha)
    · rw [upn_n c]; exact q1 i hi
  · rw [up_bit hab] at hy ⊢
    rcases hy with z | ⟨rfl, rfl⟩ | ⟨rfl, rfl⟩
    · obtain ⟨z1, z2, z3⟩ := hs x y hx z
      exact ⟨z1, z2, Or.inl z3⟩
    · exact ⟨h1, h2, Or.inr (Or.inr ⟨rfl, rfl⟩)⟩
    · exact ⟨h2, h1, Or.inr (Or.inl ⟨rfl, rfl⟩)⟩
theorem GDS.dn (h : GDS P K) (ha : a < 12) (hb : b < 12) (hab : a ≠ b) : GDS P (kdn K a b) := by
  obtain ⟨p, kn, hp, e, h4, hk, hs⟩ := h
  have s1 : K a &&& (((1 : Int32) <<< (nI b &&& 31)) ^^^ (-1)) = nI (kn a &&& (4095 ^^^ 2 ^ b)) := by rw [hk a ha, fx_shl12 b hb, fx_cm (h4 a ha)]
  have k1 := upd_upn (k := a) hk s1
  have q1 : K4 (upn kn a (kn a &&& (4095 ^^^ 2 ^ b))) := fun i hi => by
    by_cases c : i = a
    · subst c; rw [upn_s]; exact Nat.lt_of_le_of_lt Nat.and_le_left (h4 i hi)
    · rw [upn_n c]; exact h4 i hi
  have s2 : (upd K a (K a &&& (((1 : Int32) <<< (nI b &&& 31)) ^^^ (-1)))) b &&& (((1 : Int32) <<< (nI a &&& 31)) ^^^ (-1)) = nI (upn kn a (kn a &&& (4095 ^^^ 2 ^ b)) b &&& (4095 ^^^ 2 ^ a)) := by rw [k1 b hb, fx_shl12 a ha, fx_cm (q1 b hb)]
  have k2 := upd_upn (k := b) k1 s2
  have q2 : K4 (upn (upn kn a (kn a &&& (4095 ^^^ 2 ^ b))) b (upn kn a (kn a &&& (4095 ^^^ 2 ^ b)) b &&& (4095 ^^^ 2 ^ a))) := fun i hi => by
    by_cases c : i = b
    · subst c; rw [upn_s]; exact Nat.lt_of_le_of_lt Nat.and_le_left (q1 i hi)
    · rw [upn_n c]; exact q1 i hi
  refine ⟨p, _, hp, e, q2, k2, fun x y hx hy => ?_⟩
  have hy12 := bit12 (q2 x hx) hy
  rw [dn_bit hab ha hb hy12] at hy
  rw [dn_bit hab ha hb hx]
  obtain ⟨z, n1, n2⟩ := hy
  obtain ⟨z1, z2, z3⟩ := hs x y hx z
  exact ⟨z1, z2, z3, fun w => n2 ⟨w.2, w.1⟩, fun w => n1 ⟨w.2, w.1⟩⟩
end
theorem lnO_gds {g : Nat → Int32} {n a a9 : Nat} {P : Int32} {s s9 : OS} (h : lnO g n P a s = .inr (a9, s9)) (hG : GDS P s.2) : GDS P s9.2 := by
  by_cases c : hd g n a = 100
  · rw [o_d c] at h
    cases e : num g n 2 (a + 1) with
    | inl f1 => rw [dr_n e] at h; cases h
    | inr q =>
      obtain ⟨a1, d⟩ := q
      by_cases c : 16 ≤ d
      · rw [dr_3 e c] at h; cases h
      · by_cases c33 : hd g n a1 = 33
        · cases ci : isDr s.1 (nI d) with
          | false => rw [dr_no e c c33 ci] at h; cases h
          | true => rw [dr_drop e c c33 ci] at h; rw [← (Prod.mk.inj (Sum.inr.inj h)).2]; exact hG
        · by_cases c58 : hd g n a1 = 58
          · cases ci : isLt (hd g n (a1 + 1)) with
            | false => rw [dr_l e c c33 c58 ci] at h; cases h
            | true =>
              cases e2 : num g n 2 (a1 + 1 + 1) with
              | inl f2 => rw [dr_m e c c33 c58 ci e2] at h; cases h
              | inr q2 => obtain ⟨a3, v⟩ := q2; rw [dr_ok e c c33 c58 ci e2] at h; rw [← (Prod.mk.inj (Sum.inr.inj h)).2]; exact hG
          · rw [dr_c e c c33 c58] at h; cases h
  · rw [o_a c] at h
    cases e : num g n 2 a with
    | inl f1 => rw [ac_n e] at h; cases h
    | inr q =>
      obtain ⟨a1, p⟩ := q
      cases ct : told P (nI p) with
      | false => rw [ac_7 e ct] at h; cases h
      | true =>
        by_cases cs : hd g n a1 = 38 ∨ hd g n a1 = 47
        · cases e2 : num g n 2 (a1 + 1) with
          | inl f2 => rw [ac_n2 e ct cs e2] at h; cases h
          | inr q2 =>
            obtain ⟨a2, q⟩ := q2
            cases ct2 : told P (nI q) with
            | false => rw [ac_72 e ct cs e2 ct2] at h; cases h
            | true =>
              by_cases cp : p = q
              · rw [ac_6 e ct cs e2 ct2 cp] at h; cases h
              · have hp : p < 12 := told_lt (num_31 e) ct
                have hq : q < 12 := told_lt (num_31 e2) ct2
                rcases cs with cs | cs
                · rw [ac_up e ct cs e2 ct2 cp] at h; rw [← (Prod.mk.inj (Sum.inr.inj h)).2]; exact hG.up ct ct2 hp hq cp
                · rw [ac_dn e ct cs e2 ct2 cp] at h; rw [← (Prod.mk.inj (Sum.inr.inj h)).2]; exact hG.dn hp hq cp
        · rw [ac_s e ct cs] at h; cases h
theorem tx_inv {σ : Type} {g : Nat → Int32} {n M : Nat} {st : Int32 → Bool} {ln : Nat → σ → Int32 ⊕ (Nat × σ)} {I : σ → Prop} (hl : ∀ a s a1 s1, ln a s = .inr (a1, s1) → I s → I s1) : ∀ (k a : Nat) (s : σ) (L : Nat) (s9 : σ), tx g n M st ln k a s = .inr (L, s9) → I s → I s9
  | 0, a, s, L, s9, h, _ => by rw [tx] at h; cases h
  | k + 1, a, s, L, s9, h, hI => by
    rw [tx] at h
    by_cases c : st (hd g n a) = true
    · rw [if_pos c] at h
      cases e : ln a s with
      | inl f1 => rw [e] at h; cases h
      | inr q =>
        obtain ⟨a1, s1⟩ := q
        rw [e] at h
        have h : (if n ≤ a1 then (.inr (M - k, s1) : Int32 ⊕ (Nat × σ)) else if hd g n a1 = 59 then tx g n M st ln k (a1 + 1) s1 else .inl (flt 1 a1)) = .inr (L, s9) := h
        have h2 := hl a s a1 s1 e hI
        by_cases c2 : n ≤ a1
        · rw [if_pos c2] at h
          rw [← (Prod.mk.inj (Sum.inr.inj h)).2]; exact h2
        · rw [if_neg c2] at h
          by_cases c3 : hd g n a1 = 59
          · rw [if_pos c3] at h; exact tx_inv hl k _ _ L s9 h h2
          · rw [if_neg c3] at h; cases h
    · rw [if_neg c] at h; cases h
theorem GDS.orders {g : Nat → Int32} {n P D : Int32} {K K9 : Nat → Int32} {C : Prop} (h : UPD C K9 K (ostK (ordX g n P (D, K)) K)) (hG : GDS P K) : GDS P K9 := by
  rcases h with ⟨_, e⟩ | ⟨_, e⟩
  · rw [e]
    cases q : ordX g n P (D, K) with
    | inl f => exact hG
    | inr z =>
      obtain ⟨L, s9⟩ := z
      exact tx_inv (g := g) (n := n.toNatClampNeg) (M := 16) (st := stO) (ln := fun a s => lnO g n.toNatClampNeg P a s) (I := fun s => GDS P s.2) (fun a s a1 s1 h hI => lnO_gds h hI) 16 0 (D, K) L s9 q hG
  · rw [e]; exact hG
theorem GDS.dreads {P P9 x : Int32} {K : Nat → Int32} {C : Prop} {X : Int32 ⊕ (Nat × Unit)} (h : UPD C P9 P (pplD X P x)) (hC : C → 0 ≤ x ∧ x ≤ 11) (hG : GDS P K) : GDS P9 K := by
  rcases h with ⟨c, e⟩ | ⟨_, e⟩
  · rw [e]
    cases X with
    | inl f => exact hG
    | inr z => exact hG.tell (hC c)
  · rw [e]; exact hG
