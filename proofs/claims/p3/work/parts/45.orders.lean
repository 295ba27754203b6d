def rs (f : Nat → Int32) : Nat → Int32 := fun k => if k < 12 then f k else 0
theorem rs_in {f : Nat → Int32} {k : Nat} (h : k < 12) : rs f k = f k := if_pos h
theorem rs_of {f g : Nat → Int32} (h : ∀ k, k < 12 → f k = g k) : rs f = rs g := funext fun k => by
  unfold rs
  by_cases c : k < 12
  · rw [if_pos c, if_pos c]; exact h k c
  · rw [if_neg c, if_neg c]
theorem rs_upd {f : Nat → Int32} {p : Nat} {v : Int32} (h : p < 12) : rs (upd f p v) = upd (rs f) p v := funext fun k => by
  by_cases c : k = p
  · subst c; rw [pk_us, rs_in h, pk_us]
  · rw [pk_un c]
    unfold rs
    rw [pk_un c]
def kup (K : Nat → Int32) (p q : Nat) : Nat → Int32 := upd (upd K p (K p ||| (1 : Int32) <<< (nI q &&& 31))) q ((upd K p (K p ||| (1 : Int32) <<< (nI q &&& 31))) q ||| (1 : Int32) <<< (nI p &&& 31))
def kdn (K : Nat → Int32) (p q : Nat) : Nat → Int32 := upd (upd K p (K p &&& (((1 : Int32) <<< (nI q &&& 31)) ^^^ (-1)))) q ((upd K p (K p &&& (((1 : Int32) <<< (nI q &&& 31)) ^^^ (-1)))) q &&& (((1 : Int32) <<< (nI p &&& 31)) ^^^ (-1)))
theorem kup_rs {g : Nat → Int32} {p q : Nat} (hp : p < 12) (hq : q < 12) : rs (upd (upd g p (g p ||| (1 : Int32) <<< (nI q &&& 31))) q ((upd g p (g p ||| (1 : Int32) <<< (nI q &&& 31))) q ||| (1 : Int32) <<< (nI p &&& 31))) = kup (rs g) p q := by
  rw [rs_upd hq, rs_upd hp, kup, rs_in hp, ← rs_upd hp, rs_in hq]
theorem kdn_rs {g : Nat → Int32} {p q : Nat} (hp : p < 12) (hq : q < 12) : rs (upd (upd g p (g p &&& (((1 : Int32) <<< (nI q &&& 31)) ^^^ (-1)))) q ((upd g p (g p &&& (((1 : Int32) <<< (nI q &&& 31)) ^^^ (-1)))) q &&& (((1 : Int32) <<< (nI p &&& 31)) ^^^ (-1)))) = kdn (rs g) p q := by
  rw [rs_upd hq, rs_upd hp, kdn, rs_in hp, ← rs_upd hp, rs_in hq]
def told (P x : Int32) : Bool := (decide (0 ≤ x) && decide (x ≤ 11)) && bt P x
def isDr (D x : Int32) : Bool := (decide (0 ≤ x) && decide (x ≤ 15)) && bt D x
abbrev OS : Type := Int32 × (Nat → Int32)
def stO (x : Int32) : Bool := decide (x = 100) || isDg x
def lnDr (g : Nat → Int32) (n a : Nat) (s : OS) : Int32 ⊕ (Nat × OS) := match num g n 2 a with
  | .inl f => .inl f
  | .inr (a1, d) => if 16 ≤ d then .inl (flt 3 a) else if hd g n a1 = 33 then (if isDr s.1 (nI d) = true then .inr (a1 + 1, (s.1 &&& (((1 : Int32) <<< (nI d &&& 31)) ^^^ (-1)), s.2)) else .inl (flt 7 a))
    else if hd g n a1 = 58 then (if isLt (hd g n (a1 + 1)) = true then (match num g n 2 (a1 + 1 + 1) with
      | .inl f => .inl f
      | .inr (a3, _) => .inr (a3, (s.1 ||| (1 : Int32) <<< (nI d &&& 31), s.2))) else .inl (flt 1 (a1 + 1))) else .inl (flt 1 a1)
def lnAc (g : Nat → Int32) (n : Nat) (P : Int32) (a : Nat) (s : OS) : Int32 ⊕ (Nat × OS) := match num g n 2 a with
  | .inl f => .inl f
  | .inr (a1, p) => if told P (nI p) = true then (if hd g n a1 = 38 ∨ hd g n a1 = 47 then (match num g n 2 (a1 + 1) with
      | .inl f => .inl f
      | .inr (a2, q) => if told P (nI q) = true then (if p = q then .inl (flt 6 (a1 + 1)) else .inr (a2, (s.1, if hd g n a1 = 38 then kup s.2 p q else kdn s.2 p q))) else .inl (flt 7 (a1 + 1))) else .inl (flt 1 a1)) else .inl (flt 7 a)
def lnO (g : Nat → Int32) (n : Nat) (P : Int32) (a : Nat) (s : OS) : Int32 ⊕ (Nat × OS) := if hd g n a = 100 then lnDr g n (a + 1) s else lnAc g n P a s
abbrev txO (g : Nat → Int32) (n : Nat) (P : Int32) (k a : Nat) (s : OS) : Int32 ⊕ (Nat × OS) := tx g n 16 stO (fun a s => lnO g n P a s) k a s
abbrev afO (g : Nat → Int32) (n : Nat) (P : Int32) (k a : Nat) (s : OS) : Int32 ⊕ (Nat × OS) := af g n 16 stO (fun a s => lnO g n P a s) k a s
def ostD (x : Int32 ⊕ (Nat × OS)) (D : Int32) : Int32 := match x with
  | .inl _ => D
  | .inr (_, s) => s.1
def ostK (x : Int32 ⊕ (Nat × OS)) (K : Nat → Int32) : Nat → Int32 := match x with
  | .inl _ => K
  | .inr (_, s) => s.2
section
variable {g : Nat → Int32} {n a a1 a2 a3 d v p q : Nat} {s : OS} {f P : Int32}
theorem dr_n (h : num g n 2 a = .inl f) : lnDr g n a s = .inl f := by rw [lnDr, h]
theorem dr_3 (h : num g n 2 a = .inr (a1, d)) (h16 : 16 ≤ d) : lnDr g n a s = .inl (flt 3 a) := by rw [lnDr, h]; exact if_pos h16
theorem dr_no (h : num g n 2 a = .inr (a1, d)) (h16 : ¬ 16 ≤ d) (h33 : hd g n a1 = 33) (hi : isDr s.1 (nI d) = false) : lnDr g n a s = .inl (flt 7 a) := by
  rw [lnDr, h]; exact (if_neg h16).trans ((if_pos h33).trans (if_neg (by rw [hi]; decide)))
theorem dr_drop (h : num g n 2 a = .inr (a1, d)) (h16 : ¬ 16 ≤ d) (h33 : hd g n a1 = 33) (hi : isDr s.1 (nI d) = true) : lnDr g n a s = .inr (a1 + 1, (s.1 &&& (((1 : Int32) <<< (nI d &&& 31)) ^^^ (-1)), s.2)) := by
  rw [lnDr, h]; exact (if_neg h16).trans ((if_pos h33).trans (if_pos hi))
theorem dr_c (h : num g n 2 a = .inr (a1, d)) (h16 : ¬ 16 ≤ d) (h33 : ¬ hd g n a1 = 33) (h58 : ¬ hd g n a1 = 58) : lnDr g n a s = .inl (flt 1 a1) := by
  rw [lnDr, h]; exact (if_neg h16).trans ((if_neg h33).trans (if_neg h58))
theorem dr_l (h : num g n 2 a = .inr (a1, d)) (h16 : ¬ 16 ≤ d) (h33 : ¬ hd g n a1 = 33) (h58 : hd g n a1 = 58) (hl : isLt (hd g n (a1 + 1)) = false) : lnDr g n a s = .inl (flt 1 (a1 + 1)) := by
  rw [lnDr, h]; exact (if_neg h16).trans ((if_neg h33).trans ((if_pos h58).trans (if_neg (by rw [hl]; decide))))
theorem dr_m (h : num g n 2 a = .inr (a1, d)) (h16 : ¬ 16 ≤ d) (h33 : ¬ hd g n a1 = 33) (h58 : hd g n a1 = 58) (hl : isLt (hd g n (a1 + 1)) = true) (hm : num g n 2 (a1 + 1 + 1) = .inl f) : lnDr g n a s = .inl f := by
  rw [lnDr, h]; refine (if_neg h16).trans ((if_neg h33).trans ((if_pos h58).trans ((if_pos hl).trans ?_))); rw [hm]
theorem dr_ok (h : num g n 2 a = .inr (a1, d)) (h16 : ¬ 16 ≤ d) (h33 : ¬ hd g n a1 = 33) (h58 : hd g n a1 = 58) (hl : isLt (hd g n (a1 + 1)) = true) (hm : num g n 2 (a1 + 1 + 1) = .inr (a3, v)) : lnDr g n a s = .inr (a3, (s.1 ||| (1 : Int32) <<< (nI d &&& 31), s.2)) := by
  rw [lnDr, h]; refine (if_neg h16).trans ((if_neg h33).trans ((if_pos h58).trans ((if_pos hl).trans ?_))); rw [hm]
theorem ac_n (h : num g n 2 a = .inl f) : lnAc g n P a s = .inl f := by rw [lnAc, h]
theorem ac_7 (h : num g n 2 a = .inr (a1, p)) (ht : told P (nI p) = false) : lnAc g n P a s = .inl (flt 7 a) := by rw [lnAc, h]; exact if_neg (by rw [ht]; decide)
theorem ac_s (h : num g n 2 a = .inr (a1, p)) (ht : told P (nI p) = true) (hs : ¬ (hd g n a1 = 38 ∨ hd g n a1 = 47)) : lnAc g n P a s = .inl (flt 1 a1) := by rw [lnAc, h]; exact (if_pos ht).trans (if_neg hs)
theorem ac_n2 (h : num g n 2 a = .inr (a1, p)) (ht : told P (nI p) = true) (hs : hd g n a1 = 38 ∨ hd g n a1 = 47) (h2 : num g n 2 (a1 + 1) = .inl f) : lnAc g n P a s = .inl f := by
  rw [lnAc, h]; refine (if_pos ht).trans ((if_pos hs).trans ?_); rw [h2]
theorem ac_72 (h : num g n 2 a = .inr (a1, p)) (ht : told P (nI p) = true) (hs : hd g n a1 = 38 ∨ hd g n a1 = 47) (h2 : num g n 2 (a1 + 1) = .inr (a2, q)) (ht2 : told P (nI q) = false) : lnAc g n P a s = .inl (flt 7 (a1 + 1)) := by
  rw [lnAc, h]; refine (if_pos ht).trans ((if_pos hs).trans ?_); rw [h2]; exact if_neg (by rw [ht2]; decide)
theorem ac_6 (h : num g n 2 a = .inr (a1, p)) (ht : told P (nI p) = true) (hs : hd g n a1 = 38 ∨ hd g n a1 = 47) (h2 : num g n 2 (a1 + 1) = .inr (a2, q)) (ht2 : told P (nI q) = true) (hpq : p = q) : lnAc g n P a s = .inl (flt 6 (a1 + 1)) := by
  rw [lnAc, h]; refine (if_pos ht).trans ((if_pos hs).trans ?_); rw [h2]; exact (if_pos ht2).trans (if_pos hpq)
theorem ac_up (h : num g n 2 a = .inr (a1, p)) (ht : told P (nI p) = true) (hs : hd g n a1 = 38) (h2 : num g n 2 (a1 + 1) = .inr (a2, q)) (ht2 : told P (nI q) = true) (hpq : ¬ p = q) : lnAc g n P a s = .inr (a2, (s.1, kup s.2 p q)) := by
  rw [lnAc, h]; refine (if_pos ht).trans ((if_pos (Or.inl hs)).trans ?_); rw [h2]; refine (if_pos ht2).trans ((if_neg hpq).trans ?_); rw [if_pos hs]
theorem ac_dn (h : num g n 2 a = .inr (a1, p)) (ht : told P (nI p) = true) (hs : hd g n a1 = 47) (h2 : num g n 2 (a1 + 1) = .inr (a2, q)) (ht2 : told P (nI q) = true) (hpq : ¬ p = q) : lnAc g n P a s = .inr (a2, (s.1, kdn s.2 p q)) := by
  rw [lnAc, h]; refine (if_pos ht).trans ((if_pos (Or.inr hs)).trans ?_); rw [h2]; refine (if_pos ht2).trans ((if_neg hpq).trans ?_); rw [if_neg (by rw [hs]; decide)]
theorem o_d (h : hd g n a = 100) : lnO g n P a s = lnDr g n (a + 1) s := if_pos h
theorem o_a (h : ¬ hd g n a = 100) : lnO g n P a s = lnAc g n P a s := if_neg h
theorem told_t {x : Int32} (h0 : ¬ x < 0) (h1 : x < 12) (hb : bt P x = true) : told P x = true := by
  have e1 : (11 : Int32).toInt = 11 := by decide
  have e2 : (12 : Int32).toInt = 12 := by decide
  have h2 : x ≤ 11 := by
    rw [Int32.lt_iff_toInt_lt] at h1
    rw [Int32.le_iff_toInt_le]; omega
  rw [told, decide_eq_true (Int32.not_lt.mp h0), decide_eq_true h2, hb]; rfl
theorem told_f {x : Int32} (h : x < 0 ∨ ¬ x < 12 ∨ bt P x = false) : told P x = false := by
  have e1 : (11 : Int32).toInt = 11 := by decide
  have e2 : (12 : Int32).toInt = 12 := by decide
  rcases h with h | h | h
  · rw [told, decide_eq_false (Int32.not_le.mpr h)]; rfl
  · have h2 : ¬ x ≤ 11 := by
      rw [Int32.lt_iff_toInt_lt] at h
      rw [Int32.le_iff_toInt_le]; omega
    rw [told, decide_eq_false h2, Bool.and_false]; rfl
  · rw [told, h, Bool.and_false]
theorem isDr_t {x : Int32} (h0 : ¬ x < 0) (h1 : x < 16) (hb : bt P x = true) : isDr P x = true := by
  have e1 : (15 : Int32).toInt = 15 := by decide
  have e2 : (16 : Int32).toInt = 16 := by decide
  have h2 : x ≤ 15 := by
    rw [Int32.lt_iff_toInt_lt] at h1
    rw [Int32.le_iff_toInt_le]; omega
  rw [isDr, decide_eq_true (Int32.not_lt.mp h0), decide_eq_true h2, hb]; rfl
theorem isDr_f {x : Int32} (h : x < 0 ∨ ¬ x < 16 ∨ bt P x = false) : isDr P x = false := by
  have e1 : (15 : Int32).toInt = 15 := by decide
  have e2 : (16 : Int32).toInt = 16 := by decide
  rcases h with h | h | h
  · rw [isDr, decide_eq_false (Int32.not_le.mpr h)]; rfl
  · have h2 : ¬ x ≤ 15 := by
      rw [Int32.lt_iff_toInt_lt] at h
      rw [Int32.le_iff_toInt_le]; omega
    rw [isDr, decide_eq_false h2, Bool.and_false]; rfl
  · rw [isDr, h, Bool.and_false]
theorem told_lt {p : Nat} (hp : p < 2 ^ 31) (h : told P (nI p) = true) : p < 12 := by
  simp only [told, Bool.and_eq_true, decide_eq_true_eq] at h
  have := (nI_leI (a := p) (b := 11) hp (by decide)).mp h.1.2
  omega
end
theorem flt_neg : ∀ a : Nat, a < 256 → (flt 1 a < 0 ∧ flt 2 a < 0 ∧ flt 3 a < 0) ∧ flt 4 a < 0 ∧ flt 6 a < 0 ∧ flt 7 a < 0 := by decide +kernel
theorem numL_neg {g : Nat → Int32} {n k a0 : Nat} (hn : n ≤ 240) : ∀ (m a v : Nat) (f : Int32), m + a ≤ n → numL g n k a0 m a v = .inl f → f < 0
  | 0, a, v, f, _, h => by cases h
  | m + 1, a, v, f, hm, h => by
    rw [numL] at h
    by_cases c : isDg (hd g n a) = true
    · rw [if_pos c] at h
      by_cases c2 : k ≤ a - a0
      · rw [if_pos c2] at h; rw [← Sum.inl.inj h]; exact (flt_neg a (by omega)).1.2.1
      · rw [if_neg c2] at h; exact numL_neg hn m _ _ f (by omega) h
    · rw [if_neg c] at h; cases h
theorem numL_le {g : Nat → Int32} {n k a0 : Nat} : ∀ (m a v a9 v9 : Nat), m + a ≤ n → numL g n k a0 m a v = .inr (a9, v9) → a ≤ a9 ∧ a9 ≤ n
  | 0, a, v, a9, v9, hm, h => by cases h; omega
  | m + 1, a, v, a9, v9, hm, h => by
    rw [numL] at h
    by_cases c : isDg (hd g n a) = true
    · rw [if_pos c] at h
      by_cases c2 : k ≤ a - a0
      · rw [if_pos c2] at h; cases h
      · rw [if_neg c2] at h
        have := numL_le m _ _ a9 v9 (by omega) h
        omega
    · rw [if_neg c] at h; cases h; omega
theorem num_neg {g : Nat → Int32} {n k a : Nat} {f : Int32} (hn : n ≤ 240) (ha : a ≤ n + 2) (h : num g n k a = .inl f) : f < 0 := by
  by_cases c : isDg (hd g n a) = true
  · have := isDg_hd c
    rw [num, if_pos c] at h; exact numL_neg hn _ _ _ f (by omega) h
  · rw [num, if_neg c] at h; rw [← Sum.inl.inj h]; exact (flt_neg a (by omega)).1.1
theorem num_le {g : Nat → Int32} {n k a a9 v9 : Nat} (h : num g n k a = .inr (a9, v9)) : a ≤ a9 ∧ a9 ≤ n := by
  by_cases c : isDg (hd g n a) = true
  · have := isDg_hd c
    rw [num, if_pos c] at h; exact numL_le _ _ _ _ _ (by omega) h
  · rw [num, if_neg c] at h; cases h
theorem stO_100 {x : Int32} (h : x = 100) : stO x = true := by rw [stO, decide_eq_true h]; rfl
theorem stO_no {x : Int32} (h : ¬ x = 100) : stO x = isDg x := by rw [stO, decide_eq_false h]; rfl
theorem tx_neg {σ : Type} {g : Nat → Int32} {n M : Nat} {st : Int32 → Bool} {ln : Nat → σ → Int32 ⊕ (Nat × σ)} (hn : n ≤ 240) (h1 : ∀ a s f, a ≤ n → ln a s = .inl f → f < 0) (h2 : ∀ a s a1 s1, a ≤ n → ln a s = .inr (a1, s1) → a1 ≤ n) : ∀ (k a : Nat) (s : σ) (f : Int32), a ≤ n → tx g n M st ln k a s = .inl f → f < 0
  | 0, a, s, f, ha, h => by
    rw [tx] at h
    rw [← Sum.inl.inj h]
    by_cases c : st (hd g n a) = true
    · rw [if_pos c]; exact (flt_neg a (by omega)).2.1
    · rw [if_neg c]; exact (flt_neg a (by omega)).1.1
  | k + 1, a, s, f, ha, h => by
    rw [tx] at h
    by_cases c : st (hd g n a) = true
    · rw [if_pos c] at h
      cases e : ln a s with
      | inl f1 => rw [e] at h; cases h; exact h1 a s _ ha e
      | inr q =>
        obtain ⟨a1, s1⟩ := q
        rw [e] at h
        have ha1 := h2 a s a1 s1 ha e
        have h : (if n ≤ a1 then (.inr (M - k, s1) : Int32 ⊕ (Nat × σ)) else if hd g n a1 = 59 then tx g n M st ln k (a1 + 1) s1 else .inl (flt 1 a1)) = .inl f := h
        by_cases c2 : n ≤ a1
        · rw [if_pos c2] at h; cases h
        · rw [if_neg c2] at h
          by_cases c3 : hd g n a1 = 59
          · rw [if_pos c3] at h; exact tx_neg hn h1 h2 k _ _ f (by omega) h
          · rw [if_neg c3] at h; rw [← Sum.inl.inj h]; exact (flt_neg a1 (by omega)).1.1
    · rw [if_neg c] at h; rw [← Sum.inl.inj h]; exact (flt_neg a (by omega)).1.1
theorem tx_pos {σ : Type} {g : Nat → Int32} {n M : Nat} {st : Int32 → Bool} {ln : Nat → σ → Int32 ⊕ (Nat × σ)} : ∀ (k a : Nat) (s : σ) (L : Nat) (s9 : σ), k ≤ M → tx g n M st ln k a s = .inr (L, s9) → 1 ≤ L ∧ L ≤ M
  | 0, a, s, L, s9, hk, h => by rw [tx] at h; cases h
  | k + 1, a, s, L, s9, hk, h => by
    rw [tx] at h
    by_cases c : st (hd g n a) = true
    · rw [if_pos c] at h
      cases e : ln a s with
      | inl f1 => rw [e] at h; cases h
      | inr q =>
        obtain ⟨a1, s1⟩ := q
        rw [e] at h
        have h : (if n ≤ a1 then (.inr (M - k, s1) : Int32 ⊕ (Nat × σ)) else if hd g n a1 = 59 then tx g n M st ln k (a1 + 1) s1 else .inl (flt 1 a1)) = .inr (L, s9) := h
        by_cases c2 : n ≤ a1
        · rw [if_pos c2] at h
          have := (Prod.mk.inj (Sum.inr.inj h)).1
          omega
        · rw [if_neg c2] at h
          by_cases c3 : hd g n a1 = 59
          · rw [if_pos c3] at h; exact tx_pos k _ _ L s9 (by omega) h
          · rw [if_neg c3] at h; cases h
    · rw [if_neg c] at h; cases h
theorem mtF_neg {g : Nat → Int32} {n : Nat} (hn : n ≤ 240) : ∀ (m : Nat) (s : Int32) (a : Nat) (f : Int32), m + a ≤ n → mtF g n m s a = .inl f → f < 0
  | 0, s, a, f, _, h => by cases h
  | m + 1, s, a, f, hm, h => by
    rw [mtF] at h
    by_cases c : isLt (hd g n a) = true
    · rw [if_pos c] at h
      by_cases c2 : bt s (hd g n a - 97) = true
      · rw [if_pos c2] at h; rw [← Sum.inl.inj h]; exact (flt_neg a (by omega)).2.2.1
      · rw [if_neg c2] at h; exact mtF_neg hn m _ _ f (by omega) h
    · rw [if_neg c] at h; cases h
theorem mtF_le {g : Nat → Int32} {n : Nat} : ∀ (m : Nat) (s : Int32) (a a9 : Nat) (s9 : Int32), m + a ≤ n → mtF g n m s a = .inr (a9, s9) → a9 ≤ n
  | 0, s, a, a9, s9, hm, h => by cases h; omega
  | m + 1, s, a, a9, s9, hm, h => by
    rw [mtF] at h
    by_cases c : isLt (hd g n a) = true
    · rw [if_pos c] at h
      by_cases c2 : bt s (hd g n a - 97) = true
      · rw [if_pos c2] at h; cases h
      · rw [if_neg c2] at h; exact mtF_le m _ _ a9 s9 (by omega) h
    · rw [if_neg c] at h; cases h; omega
theorem meant_neg {g : Nat → Int32} {n a : Nat} {f : Int32} (hn : n ≤ 240) (ha : a ≤ n) (h : meantS g n a = .inl f) : f < 0 := by
  by_cases c : hd g n a = 42
  · rw [meant_star c] at h; cases h
  · rw [meant_lt c] at h; exact mtF_neg hn _ _ _ f (by omega) h
theorem meant_le {g : Nat → Int32} {n a a9 : Nat} {s9 : Int32} (ha : a ≤ n) (h : meantS g n a = .inr (a9, s9)) : a9 ≤ n := by
  by_cases c : hd g n a = 42
  · have := hd_lit c (by decide)
    rw [meant_star c] at h
    have := (Prod.mk.inj (Sum.inr.inj h)).1
    omega
  · rw [meant_lt c] at h; exact mtF_le _ _ _ _ s9 (by omega) h
theorem lnD_neg {g : Nat → Int32} {n a : Nat} {f : Int32} (hn : n ≤ 240) (ha : a ≤ n) (h : lnD g n a = .inl f) : f < 0 := by
  cases e : meantS g n a with
  | inl f1 => rw [lnD_m e] at h; cases h; exact meant_neg hn ha e
  | inr q =>
    obtain ⟨a1, s1⟩ := q
    have h1 := meant_le ha e
    cases c : sgD (hd g n a1) with
    | false => rw [lnD_s e c] at h; rw [← Sum.inl.inj h]; exact (flt_neg a1 (by omega)).1.1
    | true =>
      cases e2 : num g n 2 (a1 + 1) with
      | inl f2 => rw [lnD_n e c e2] at h; cases h; exact num_neg hn (by omega) e2
      | inr q2 => obtain ⟨a2, v⟩ := q2; rw [lnD_ok e c e2] at h; cases h
theorem lnD_le {g : Nat → Int32} {n a a9 : Nat} {s9 : Unit} (ha : a ≤ n) (h : lnD g n a = .inr (a9, s9)) : a9 ≤ n := by
  cases e : meantS g n a with
  | inl f1 => rw [lnD_m e] at h; cases h
  | inr q =>
    obtain ⟨a1, s1⟩ := q
    cases c : sgD (hd g n a1) with
    | false => rw [lnD_s e c] at h; cases h
    | true =>
      cases e2 : num g n 2 (a1 + 1) with
      | inl f2 => rw [lnD_n e c e2] at h; cases h
      | inr q2 =>
        obtain ⟨a2, v⟩ := q2
        rw [lnD_ok e c e2] at h
        have := (Prod.mk.inj (Sum.inr.inj h)).1
        have := (num_le e2).2
        omega
theorem cod_pos {σ : Type} {x : Int32 ⊕ (Nat × σ)} {r : Int32} (h : r = cod x) (hp : ∀ L s, x = .inr (L, s) → 1 ≤ L ∧ L ≤ 100) (hn : ∀ f, x = .inl f → f < 0) : (0 < r ∧ ∃ L s, x = .inr (L, s)) ∨ (¬ 0 < r ∧ ∃ f, x = .inl f) := by
  cases x with
  | inl f => exact Or.inr ⟨by rw [h]; exact fun z => absurd (hn f rfl) (by show ¬ f < 0; exact Int32.not_lt.mpr (Int32.le_of_lt z)), f, rfl⟩
  | inr q =>
    obtain ⟨L, s⟩ := q
    have := hp L s rfl
    exact Or.inl ⟨by rw [h]; exact (nI_ltI (a := 0) (b := L) (by decide) (by omega)).mpr (by omega), L, s, rfl⟩
theorem or_or (P t : Int32) : (P ||| t) ||| t = P ||| t := by
  apply Int32.toBitVec_inj.mp
  rw [Int32.toBitVec_or, Int32.toBitVec_or, BitVec.or_assoc, BitVec.or_self]
def UPD {α : Type} (C : Prop) (x9 x y : α) : Prop := (C ∧ x9 = y) ∨ (¬ C ∧ x9 = x)
theorem UPD.one {α : Type} {C : Prop} {x9 z9 x y : α} (h : UPD C x9 x y) (h' : UPD C z9 x y) : x9 = z9 := by
  rcases h with ⟨c, e⟩ | ⟨c, e⟩ <;> rcases h' with ⟨c', e'⟩ | ⟨c', e'⟩
  · rw [e, e']
  · exact absurd c c'
  · exact absurd c' c
  · rw [e, e']
def pplD (x : Int32 ⊕ (Nat × Unit)) (P p : Int32) : Int32 := match x with
  | .inl _ => P
  | .inr _ => P ||| (1 : Int32) <<< (p &&& 31)
theorem lnDr_le {g : Nat → Int32} {n a : Nat} {s : OS} (hn : n ≤ 240) (ha : a ≤ n + 1) : (∀ f, lnDr g n a s = .inl f → f < 0) ∧ ∀ a9 s9, lnDr g n a s = .inr (a9, s9) → a9 ≤ n := by
  cases e : num g n 2 a with
  | inl f1 => rw [dr_n e]; exact ⟨fun f h => by cases h; exact num_neg hn (by omega) e, fun a9 s9 h => by cases h⟩
  | inr q =>
    obtain ⟨a1, d⟩ := q
    have h1 := (num_le e).2
    by_cases c : 16 ≤ d
    · rw [dr_3 e c]; exact ⟨fun f h => by rw [← Sum.inl.inj h]; exact (flt_neg a (by omega)).1.2.2, fun a9 s9 h => by cases h⟩
    · by_cases c33 : hd g n a1 = 33
      · have hl := hd_lit c33 (by decide)
        cases ci : isDr s.1 (nI d) with
        | false => rw [dr_no e c c33 ci]; exact ⟨fun f h => by rw [← Sum.inl.inj h]; exact (flt_neg a (by omega)).2.2.2, fun a9 s9 h => by cases h⟩
        | true => rw [dr_drop e c c33 ci]; exact ⟨fun f h => (by cases h), fun a9 s9 h => by have := (Prod.mk.inj (Sum.inr.inj h)).1; omega⟩
      · by_cases c58 : hd g n a1 = 58
        · have hl := hd_lit c58 (by decide)
          cases ci : isLt (hd g n (a1 + 1)) with
          | false => rw [dr_l e c c33 c58 ci]; exact ⟨fun f h => by rw [← Sum.inl.inj h]; exact (flt_neg (a1 + 1) (by omega)).1.1, fun a9 s9 h => by cases h⟩
          | true =>
            have hl2 := isLt_hd ci
            cases e2 : num g n 2 (a1 + 1 + 1) with
            | inl f2 => rw [dr_m e c c33 c58 ci e2]; exact ⟨fun f h => by cases h; exact num_neg hn (by omega) e2, fun a9 s9 h => by cases h⟩
            | inr q2 => obtain ⟨a3, v⟩ := q2; rw [dr_ok e c c33 c58 ci e2]; exact ⟨fun f h => (by cases h), fun a9 s9 h => by have := (Prod.mk.inj (Sum.inr.inj h)).1; have := (num_le e2).2; omega⟩
        · rw [dr_c e c c33 c58]; exact ⟨fun f h => by rw [← Sum.inl.inj h]; exact (flt_neg a1 (by omega)).1.1, fun a9 s9 h => by cases h⟩
theorem lnAc_le {g : Nat → Int32} {n a : Nat} {P : Int32} {s : OS} (hn : n ≤ 240) (ha : a ≤ n) : (∀ f, lnAc g n P a s = .inl f → f < 0) ∧ ∀ a9 s9, lnAc g n P a s = .inr (a9, s9) → a9 ≤ n := by
  cases e : num g n 2 a with
  | inl f1 => rw [ac_n e]; exact ⟨fun f h => by cases h; exact num_neg hn (by omega) e, fun a9 s9 h => by cases h⟩
  | inr q =>
    obtain ⟨a1, p⟩ := q
    have h1 := (num_le e).2
    cases ct : told P (nI p) with
    | false => rw [ac_7 e ct]; exact ⟨fun f h => by rw [← Sum.inl.inj h]; exact (flt_neg a (by omega)).2.2.2, fun a9 s9 h => by cases h⟩
    | true =>
      by_cases cs : hd g n a1 = 38 ∨ hd g n a1 = 47
      · have hl : a1 < n := by rcases cs with c | c; exact hd_lit c (by decide); exact hd_lit c (by decide)
        cases e2 : num g n 2 (a1 + 1) with
        | inl f2 => rw [ac_n2 e ct cs e2]; exact ⟨fun f h => by cases h; exact num_neg hn (by omega) e2, fun a9 s9 h => by cases h⟩
        | inr q2 =>
          obtain ⟨a2, q⟩ := q2
          have h2 := (num_le e2).2
          cases ct2 : told P (nI q) with
          | false => rw [ac_72 e ct cs e2 ct2]; exact ⟨fun f h => by rw [← Sum.inl.inj h]; exact (flt_neg (a1 + 1) (by omega)).2.2.2, fun a9 s9 h => by cases h⟩
          | true =>
            by_cases cp : p = q
            · rw [ac_6 e ct cs e2 ct2 cp]; exact ⟨fun f h => by rw [← Sum.inl.inj h]; exact (flt_neg (a1 + 1) (by omega)).2.2.1, fun a9 s9 h => by cases h⟩
            · rcases cs with cs | cs
              · rw [ac_up e ct cs e2 ct2 cp]; exact ⟨fun f h => (by cases h), fun a9 s9 h => by have := (Prod.mk.inj (Sum.inr.inj h)).1; omega⟩
              · rw [ac_dn e ct cs e2 ct2 cp]; exact ⟨fun f h => (by cases h), fun a9 s9 h => by have := (Prod.mk.inj (Sum.inr.inj h)).1; omega⟩
      · rw [ac_s e ct cs]; exact ⟨fun f h => by rw [← Sum.inl.inj h]; exact (flt_neg a1 (by omega)).1.1, fun a9 s9 h => by cases h⟩
theorem lnO_le {g : Nat → Int32} {n a : Nat} {P : Int32} {s : OS} (hn : n ≤ 240) (ha : a ≤ n) : (∀ f, lnO g n P a s = .inl f → f < 0) ∧ ∀ a9 s9, lnO g n P a s = .inr (a9, s9) → a9 ≤ n := by
  by_cases c : hd g n a = 100
  · rw [o_d c]; exact lnDr_le hn (by omega)
  · rw [o_a c]; exact lnAc_le hn ha
theorem txO_code {g : Nat → Int32} {n : Nat} {P r : Int32} {s : OS} (hn : n ≤ 240) (h : r = cod (txO g n P 16 0 s)) : (0 < r ∧ ∃ L s9, txO g n P 16 0 s = .inr (L, s9)) ∨ (¬ 0 < r ∧ ∃ f, txO g n P 16 0 s = .inl f) :=
  cod_pos h (fun L s9 e => by have := tx_pos 16 0 s L s9 (Nat.le_refl _) e; omega) (fun f e => tx_neg hn (fun a s f ha h => (lnO_le hn ha).1 f h) (fun a s a1 s1 ha h => (lnO_le hn ha).2 a1 s1 h) 16 0 s f (by omega) e)
theorem txD_code {g : Nat → Int32} {n : Nat} {r : Int32} (hn : n ≤ 240) (h : r = cod (txD g n 20 0)) : (0 < r ∧ ∃ L s9, txD g n 20 0 = .inr (L, s9)) ∨ (¬ 0 < r ∧ ∃ f, txD g n 20 0 = .inl f) :=
  cod_pos h (fun L s9 e => by have := tx_pos 20 0 () L s9 (Nat.le_refl _) e; omega) (fun f e => tx_neg hn (fun a s f ha h => lnD_neg hn ha h) (fun a s a1 s1 ha h => lnD_le ha h) 20 0 () f (by omega) e)
def dX (g : Nat → Int32) (n : Int32) : Int32 ⊕ (Nat × Unit) := txD g n.toNatClampNeg 20 0
def ordX (g : Nat → Int32) (n P : Int32) (s : OS) : Int32 ⊕ (Nat × OS) := txO g n.toNatClampNeg P 16 0 s
theorem dX_of {D : va_G} {V : Wd} {g : Nat → Int32} {m : Nat} {n : Int32} (e : V 2 = cI D 260 g) (em : n = nI m) (hm : m ≤ 240) : dX (fI (V 2)) n = txD g m 20 0 := by
  have hf : fI (V 2) = g := funext fun k => by rw [e]; rfl
  rw [dX, hf, em, nI_clamp (by omega)]
theorem ordX_of {D : va_G} {V : Wd} {g : Nat → Int32} {m : Nat} {n P : Int32} {s : OS} (e : V 2 = cI D 260 g) (em : n = nI m) (hm : m ≤ 240) : ordX (fI (V 2)) n P s = txO g m P 16 0 s := by
  have hf : fI (V 2) = g := funext fun k => by rw [e]; rfl
  rw [ordX, hf, em, nI_clamp (by omega)]
theorem dX_ofm {D : va_G} {V : Wd} {g : Nat → Int32} {m : Nat} {n : Int32} (e : V 110 = cB D 260 g) (em : n = nI m) (hm : m ≤ 240) : dX (gb (fI (V 110))) n = txD (gb g) m 20 0 := by
  have hf : fI (V 110) = g := funext fun k => by rw [e]; rfl
  rw [dX, hf, em, nI_clamp (by omega)]
theorem ordX_ofm {D : va_G} {V : Wd} {g : Nat → Int32} {m : Nat} {n P : Int32} {s : OS} (e : V 110 = cB D 260 g) (em : n = nI m) (hm : m ≤ 240) : ordX (gb (fI (V 110))) n P s = txO (gb g) m P 16 0 s := by
  have hf : fI (V 110) = g := funext fun k => by rw [e]; rfl
  rw [ordX, hf, em, nI_clamp (by omega)]
theorem ostD_r {x : Int32 ⊕ (Nat × OS)} {L : Nat} {s : OS} {D : Int32} (h : x = .inr (L, s)) : ostD x D = s.1 := by rw [h]; rfl
theorem ostD_l {x : Int32 ⊕ (Nat × OS)} {f D : Int32} (h : x = .inl f) : ostD x D = D := by rw [h]; rfl
theorem ostK_r {x : Int32 ⊕ (Nat × OS)} {L : Nat} {s : OS} {K : Nat → Int32} (h : x = .inr (L, s)) : ostK x K = s.2 := by rw [h]; rfl
theorem ostK_l {x : Int32 ⊕ (Nat × OS)} {f : Int32} {K : Nat → Int32} (h : x = .inl f) : ostK x K = K := by rw [h]; rfl
theorem pplD_r {x : Int32 ⊕ (Nat × Unit)} {L : Nat} {s : Unit} {P p : Int32} (h : x = .inr (L, s)) : pplD x P p = P ||| (1 : Int32) <<< (p &&& 31) := by rw [h]; rfl
theorem pplD_l {x : Int32 ⊕ (Nat × Unit)} {f P p : Int32} (h : x = .inl f) : pplD x P p = P := by rw [h]; rfl

set_option maxHeartbeats 4000000 in
set_option maxRecDepth 100000 in
theorem g_X11_hasS2 (l : Launch) (D : va_G) (b : Nat) (N : Nat) (V : Wd) (hN : 100 ≤ N) (hW : CW D b V) (n0 : Int32) (n1 : Int32) (hk : 0 ≤ n1 ∧ n1 < 32) : MI l D b 0 jX11_has [.int n0, .int n1] N V 0 0 (fun r N9 V9 => ((r = 0 ∨ r = 1) ∧ ((bt n0 n1 = true ∧ r = 1) ∨ (bt n0 n1 = false ∧ r = 0))) ∧ N = N9 ∧ V = V9) := by
  have hJ0 : JW D b N [] V V := JW.rf hW
  refine mw_of (by decide) (by simp [Value.category]) (Nat.le_of_ble_eq_true rfl) ?_
  show AW l D b jX11_has (fx_rm 0 0 0) none (fx_MQ D b 0 0 (fx_qi (fun r N9 V9 => ((r = 0 ∨ r = 1) ∧ ((bt n0 n1 = true ∧ r = 1) ∨ (bt n0 n1 = false ∧ r = 0))) ∧ N = N9 ∧ V = V9))) 0 [some (.int n0), some (.int n1)] [] N V 0 0
  refine aw_iload_n dX11_has_0 rfl ?_
  refine aw_if_lt (tgt := 22) dX11_has_1 (by decide) (fun c_1 => ?_) (fun c_1 => ?_)
  · exact absurd c_1 (Int32.not_lt.mpr hk.1)
  refine aw_iload_n dX11_has_4 rfl ?_
  refine aw_bipush (v := 32) dX11_has_5 (by decide) ?_
  refine aw_icmp_ge (tgt := 22) dX11_has_7 (by decide) (fun c_2 => ?_) (fun c_2 => ?_)
  · exact absurd hk.2 (Int32.not_lt.mpr c_2)
  refine aw_iload_n dX11_has_10 rfl ?_
  refine aw_iload_n dX11_has_11 rfl ?_
  refine aw_ishr dX11_has_12 ?_
  refine aw_iconst (v := 1) dX11_has_13 (by decide) ?_
  refine aw_iand dX11_has_14 ?_
  refine aw_if_eq (tgt := 22) dX11_has_15 (by decide) (fun c_3 => ?_) (fun c_3 => ?_)
  · skip
    refine aw_iconst (v := 0) dX11_has_22 (by decide) ?_
    refine aw_zreti dX11_has_23 rfl (by first | exact Or.inl rfl | exact Or.inr rfl | assumption) (Nat.le_of_ble_eq_true rfl) (Nat.le_of_ble_eq_true rfl) ?_
    exact ⟨⟨(by first | exact Or.inl rfl | exact Or.inr rfl | assumption), Or.inr ⟨bt_f c_3, rfl⟩⟩, rfl, rfl⟩
  · skip
    refine aw_iconst (v := 1) dX11_has_18 (by decide) ?_
    refine aw_goto (tgt := 23) dX11_has_19 (by decide) ?_
    refine aw_zreti dX11_has_23 rfl (by first | exact Or.inl rfl | exact Or.inr rfl | assumption) (Nat.le_of_ble_eq_true rfl) (Nat.le_of_ble_eq_true rfl) ?_
    exact ⟨⟨(by first | exact Or.inl rfl | exact Or.inr rfl | assumption), Or.inl ⟨bt_t c_3, rfl⟩⟩, rfl, rfl⟩

set_option maxHeartbeats 4000000 in
set_option maxRecDepth 100000 in
theorem g_X0_isPersonS (l : Launch) (D : va_G) (b : Nat) (N : Nat) (V : Wd) (hN : 100 ≤ N) (hW : CW D b V) (c : Nat) (hc : c = 3 ∨ c = 21 ∨ c = 39 ∨ c = 74) (n0 : Int32) (P : Int32) (hP : fI (V c) 5 = P) : MI l D b 1 jX0_isPerson [.ref (b + c), .int n0] N V 0 0 (fun r N9 V9 => ((r = 0 ∨ r = 1) ∧ ((told P n0 = true ∧ r = 1) ∨ (told P n0 = false ∧ r = 0))) ∧ N = N9 ∧ V = V9) := by
  have hJ0 : JW D b N [] V V := JW.rf hW
  refine mw_of (by decide) (by simp [Value.category]) (Nat.le_of_ble_eq_true rfl) ?_
  show AW l D b jX0_isPerson (fx_rm 1 0 0) none (fx_MQ D b 0 0 (fx_qi (fun r N9 V9 => ((r = 0 ∨ r = 1) ∧ ((told P n0 = true ∧ r = 1) ∨ (told P n0 = false ∧ r = 0))) ∧ N = N9 ∧ V = V9))) 0 [some (.ref (b + c)), some (.int n0)] [] N V 0 0
  refine aw_iload_n dX0_isPerson_0 rfl ?_
  refine aw_if_lt (tgt := 25) dX0_isPerson_1 (by decide) (fun c_1 => ?_) (fun c_1 => ?_)
  · skip
    refine aw_iconst (v := 0) dX0_isPerson_25 (by decide) ?_
    refine aw_zreti dX0_isPerson_26 rfl (by first | exact Or.inl rfl | exact Or.inr rfl | assumption) (Nat.le_of_ble_eq_true rfl) (Nat.le_of_ble_eq_true rfl) ?_
    exact ⟨⟨(by first | exact Or.inl rfl | exact Or.inr rfl | assumption), Or.inr ⟨told_f (Or.inl c_1), rfl⟩⟩, rfl, rfl⟩
  · skip
    refine aw_iload_n dX0_isPerson_4 rfl ?_
    refine aw_bipush (v := 12) dX0_isPerson_5 (by decide) ?_
    refine aw_icmp_ge (tgt := 25) dX0_isPerson_7 (by decide) (fun c_2 => ?_) (fun c_2 => ?_)
    · skip
      refine aw_iconst (v := 0) dX0_isPerson_25 (by decide) ?_
      refine aw_zreti dX0_isPerson_26 rfl (by first | exact Or.inl rfl | exact Or.inr rfl | assumption) (Nat.le_of_ble_eq_true rfl) (Nat.le_of_ble_eq_true rfl) ?_
      exact ⟨⟨(by first | exact Or.inl rfl | exact Or.inr rfl | assumption), Or.inr ⟨told_f (Or.inr (Or.inl (Int32.not_lt.mpr c_2))), rfl⟩⟩, rfl, rfl⟩
    · skip
      refine aw_aload_n dX0_isPerson_10 rfl ?_
      obtain ⟨pe_3, dd_3, ni_3, xx_3, e_3⟩ := JW.get hJ0 (ctc_0 hc)
      refine aw_get dX0_isPerson_11 fl_X0_29 e_3 (by omega) rfl ?_
      refine aw_eqi (y := P) ((Eq.symm (congrArg (fun z => fI z 5) e_3)).trans hP) ?_
      refine aw_iload_n dX0_isPerson_14 rfl ?_
      refine aw_callSNi (J' := jX11_has) (As := [.int P, .int n0]) (st := []) dX0_isPerson_15 tb_545 ok_X11_has rfl (g_X11_hasS2 l D b N V hN hJ0.1 P n0 ⟨Int32.not_lt.mp c_1, Int32.lt_of_lt_of_le (Int32.not_le.mp c_2) (by decide)⟩) rfl (Nat.le_of_ble_eq_true rfl) ⟨Nat.le_of_ble_eq_true rfl, Nat.le_of_ble_eq_true rfl, Nat.le_of_ble_eq_true rfl, Nat.le_of_ble_eq_true rfl⟩ (fun r_7 N_8 V_9 q_10 => ?_)
      obtain ⟨⟨z_6, h_5⟩, rfl, rfl⟩ := q_10
      rcases h_5 with ⟨hy_11, e_12⟩ | ⟨hn_13, e_14⟩
      · skip
        refine aw_eqi (y := 1) e_12 ?_
        refine aw_if_eq (tgt := 25) dX0_isPerson_18 (by decide) (fun c_15 => ?_) (fun c_15 => ?_)
        · exact absurd c_15 (by decide)
        refine aw_iconst (v := 1) dX0_isPerson_21 (by decide) ?_
        refine aw_goto (tgt := 26) dX0_isPerson_22 (by decide) ?_
        refine aw_zreti dX0_isPerson_26 rfl (by first | exact Or.inl rfl | exact Or.inr rfl | assumption) (Nat.le_of_ble_eq_true rfl) (Nat.le_of_ble_eq_true rfl) ?_
        exact ⟨⟨(by first | exact Or.inl rfl | exact Or.inr rfl | assumption), Or.inl ⟨told_t c_1 (Int32.not_le.mp c_2) hy_11, rfl⟩⟩, rfl, rfl⟩
      · skip
        refine aw_eqi (y := 0) e_14 ?_
        refine aw_if_eq (tgt := 25) dX0_isPerson_18 (by decide) (fun c_16 => ?_) (fun c_16 => ?_)
        rotate_left
        · exact absurd (by decide) c_16
        refine aw_iconst (v := 0) dX0_isPerson_25 (by decide) ?_
        refine aw_zreti dX0_isPerson_26 rfl (by first | exact Or.inl rfl | exact Or.inr rfl | assumption) (Nat.le_of_ble_eq_true rfl) (Nat.le_of_ble_eq_true rfl) ?_
        exact ⟨⟨(by first | exact Or.inl rfl | exact Or.inr rfl | assumption), Or.inr ⟨told_f (Or.inr (Or.inr hn_13)), rfl⟩⟩, rfl, rfl⟩

set_option maxHeartbeats 4000000 in
set_option maxRecDepth 100000 in
theorem g_X0_isDoorS (l : Launch) (D : va_G) (b : Nat) (N : Nat) (V : Wd) (hN : 100 ≤ N) (hW : CW D b V) (c : Nat) (hc : c = 3 ∨ c = 21 ∨ c = 39 ∨ c = 74) (n0 : Int32) (P : Int32) (hP : fI (V c) 6 = P) : MI l D b 1 jX0_isDoor [.ref (b + c), .int n0] N V 0 0 (fun r N9 V9 => ((r = 0 ∨ r = 1) ∧ ((isDr P n0 = true ∧ r = 1) ∨ (isDr P n0 = false ∧ r = 0))) ∧ N = N9 ∧ V = V9) := by
  have hJ0 : JW D b N [] V V := JW.rf hW
  refine mw_of (by decide) (by simp [Value.category]) (Nat.le_of_ble_eq_true rfl) ?_
  show AW l D b jX0_isDoor (fx_rm 1 0 0) none (fx_MQ D b 0 0 (fx_qi (fun r N9 V9 => ((r = 0 ∨ r = 1) ∧ ((isDr P n0 = true ∧ r = 1) ∨ (isDr P n0 = false ∧ r = 0))) ∧ N = N9 ∧ V = V9))) 0 [some (.ref (b + c)), some (.int n0)] [] N V 0 0
  refine aw_iload_n dX0_isDoor_0 rfl ?_
  refine aw_if_lt (tgt := 25) dX0_isDoor_1 (by decide) (fun c_1 => ?_) (fun c_1 => ?_)
  · skip
    refine aw_iconst (v := 0) dX0_isDoor_25 (by decide) ?_
    refine aw_zreti dX0_isDoor_26 rfl (by first | exact Or.inl rfl | exact Or.inr rfl | assumption) (Nat.le_of_ble_eq_true rfl) (Nat.le_of_ble_eq_true rfl) ?_
    exact ⟨⟨(by first | exact Or.inl rfl | exact Or.inr rfl | assumption), Or.inr ⟨isDr_f (Or.inl c_1), rfl⟩⟩, rfl, rfl⟩
  · skip
    refine aw_iload_n dX0_isDoor_4 rfl ?_
    refine aw_bipush (v := 16) dX0_isDoor_5 (by decide) ?_
    refine aw_icmp_ge (tgt := 25) dX0_isDoor_7 (by decide) (fun c_2 => ?_) (fun c_2 => ?_)
    · skip
      refine aw_iconst (v := 0) dX0_isDoor_25 (by decide) ?_
      refine aw_zreti dX0_isDoor_26 rfl (by first | exact Or.inl rfl | exact Or.inr rfl | assumption) (Nat.le_of_ble_eq_true rfl) (Nat.le_of_ble_eq_true rfl) ?_
      exact ⟨⟨(by first | exact Or.inl rfl | exact Or.inr rfl | assumption), Or.inr ⟨isDr_f (Or.inr (Or.inl (Int32.not_lt.mpr c_2))), rfl⟩⟩, rfl, rfl⟩
    · skip
      refine aw_aload_n dX0_isDoor_10 rfl ?_
      obtain ⟨pe_3, dd_3, ni_3, xx_3, e_3⟩ := JW.get hJ0 (ctc_0 hc)
      refine aw_get dX0_isDoor_11 fl_X0_33 e_3 (by omega) rfl ?_
      refine aw_eqi (y := P) ((Eq.symm (congrArg (fun z => fI z 6) e_3)).trans hP) ?_
      refine aw_iload_n dX0_isDoor_14 rfl ?_
      refine aw_callSNi (J' := jX11_has) (As := [.int P, .int n0]) (st := []) dX0_isDoor_15 tb_545 ok_X11_has rfl (g_X11_hasS2 l D b N V hN hJ0.1 P n0 ⟨Int32.not_lt.mp c_1, Int32.lt_of_lt_of_le (Int32.not_le.mp c_2) (by decide)⟩) rfl (Nat.le_of_ble_eq_true rfl) ⟨Nat.le_of_ble_eq_true rfl, Nat.le_of_ble_eq_true rfl, Nat.le_of_ble_eq_true rfl, Nat.le_of_ble_eq_true rfl⟩ (fun r_7 N_8 V_9 q_10 => ?_)
      obtain ⟨⟨z_6, h_5⟩, rfl, rfl⟩ := q_10
      rcases h_5 with ⟨hy_11, e_12⟩ | ⟨hn_13, e_14⟩
      · skip
        refine aw_eqi (y := 1) e_12 ?_
        refine aw_if_eq (tgt := 25) dX0_isDoor_18 (by decide) (fun c_15 => ?_) (fun c_15 => ?_)
        · exact absurd c_15 (by decide)
        refine aw_iconst (v := 1) dX0_isDoor_21 (by decide) ?_
        refine aw_goto (tgt := 26) dX0_isDoor_22 (by decide) ?_
        refine aw_zreti dX0_isDoor_26 rfl (by first | exact Or.inl rfl | exact Or.inr rfl | assumption) (Nat.le_of_ble_eq_true rfl) (Nat.le_of_ble_eq_true rfl) ?_
        exact ⟨⟨(by first | exact Or.inl rfl | exact Or.inr rfl | assumption), Or.inl ⟨isDr_t c_1 (Int32.not_le.mp c_2) hy_11, rfl⟩⟩, rfl, rfl⟩
      · skip
        refine aw_eqi (y := 0) e_14 ?_
        refine aw_if_eq (tgt := 25) dX0_isDoor_18 (by decide) (fun c_16 => ?_) (fun c_16 => ?_)
        rotate_left
        · exact absurd (by decide) c_16
        refine aw_iconst (v := 0) dX0_isDoor_25 (by decide) ?_
        refine aw_zreti dX0_isDoor_26 rfl (by first | exact Or.inl rfl | exact Or.inr rfl | assumption) (Nat.le_of_ble_eq_true rfl) (Nat.le_of_ble_eq_true rfl) ?_
        exact ⟨⟨(by first | exact Or.inl rfl | exact Or.inr rfl | assumption), Or.inr ⟨isDr_f (Or.inr (Or.inr hn_13)), rfl⟩⟩, rfl, rfl⟩

set_option maxHeartbeats 4000000 in
set_option maxRecDepth 100000 in
theorem g_X0_acquaintS (l : Launch) (D : va_G) (b : Nat) (N : Nat) (V : Wd) (hN : 100 ≤ N) (hW : CW D b V) (c : Nat) (hc : c = 3 ∨ c = 21 ∨ c = 39 ∨ c = 74) (n0 : Int32) (n1 : Int32) (n2 : Int32) (K : Nat → Int32) (hK : rs (fI (V (c + 14))) = K) (p9 q9 : Nat) (hp9 : p9 < 12) (hq9 : q9 < 12) (e09 : n0 = nI p9) (e19 : n1 = nI q9) : MV l D b 0 jX0_acquaint [.ref (b + c), .int n0, .int n1, .int n2] N V 0 0 (fun N9 V9 => ((n2 = 0 → rs (fI (V9 (c + 14))) = kdn K p9 q9) ∧ (¬ n2 = 0 → rs (fI (V9 (c + 14))) = kup K p9 q9)) ∧ N = N9 ∧ JW D b N [(c + 14, c + 14, 0, 1000000)] V V9) := by
  subst e09
  subst e19
  have hJ0 : JW D b N [(c + 14, c + 14, 0, 1000000)] V V := JW.rf hW
  refine mw_of (by decide) (by simp [Value.category]) (Nat.le_of_ble_eq_true rfl) ?_
  show AW l D b jX0_acquaint (fx_rm 0 0 0) none (fx_MQ D b 0 0 (fx_qv (fun N9 V9 => ((n2 = 0 → rs (fI (V9 (c + 14))) = kdn K p9 q9) ∧ (¬ n2 = 0 → rs (fI (V9 (c + 14))) = kup K p9 q9)) ∧ N = N9 ∧ JW D b N [(c + 14, c + 14, 0, 1000000)] V V9))) 0 [some (.ref (b + c)), some (.int (nI p9)), some (.int (nI q9)), some (.int n2)] [] N V 0 0
  refine aw_iload_n dX0_acquaint_0 rfl ?_
  refine aw_if_lt (tgt := 20) dX0_acquaint_1 (by decide) (fun c_1 => ?_) (fun c_1 => ?_)
  · have nc_1 : p9 < 0 := (nI_ltI (a := p9) (b := 0) (by omega) (by omega)).mp c_1
    omega
  have nc_1 : ¬ (p9 < 0) := fun z => c_1 ((nI_ltI (a := p9) (b := 0) (by omega) (by omega)).mpr z)
  refine aw_iload_n dX0_acquaint_4 rfl ?_
  refine aw_bipush (v := 12) dX0_acquaint_5 (by decide) ?_
  refine aw_icmp_ge (tgt := 20) dX0_acquaint_7 (by decide) (fun c_2 => ?_) (fun c_2 => ?_)
  · have nc_2 : 12 ≤ p9 := (nI_leI (a := 12) (b := p9) (by omega) (by omega)).mp c_2
    omega
  have nc_2 : ¬ (12 ≤ p9) := fun z => c_2 ((nI_leI (a := 12) (b := p9) (by omega) (by omega)).mpr z)
  refine aw_iload_n dX0_acquaint_10 rfl ?_
  refine aw_if_lt (tgt := 20) dX0_acquaint_11 (by decide) (fun c_3 => ?_) (fun c_3 => ?_)
  · have nc_3 : q9 < 0 := (nI_ltI (a := q9) (b := 0) (by omega) (by omega)).mp c_3
    omega
  have nc_3 : ¬ (q9 < 0) := fun z => c_3 ((nI_ltI (a := q9) (b := 0) (by omega) (by omega)).mpr z)
  refine aw_iload_n dX0_acquaint_14 rfl ?_
  refine aw_bipush (v := 12) dX0_acquaint_15 (by decide) ?_
  refine aw_icmp_lt (tgt := 21) dX0_acquaint_17 (by decide) (fun c_4 => ?_) (fun c_4 => ?_)
  rotate_left
  · have nc_4 : ¬ (q9 < 12) := fun z => c_4 ((nI_ltI (a := q9) (b := 12) (by omega) (by omega)).mpr z)
    omega
  have nc_4 : q9 < 12 := (nI_ltI (a := q9) (b := 12) (by omega) (by omega)).mp c_4
  refine aw_iload_n dX0_acquaint_21 rfl ?_
  refine aw_if_eq (tgt := 52) dX0_acquaint_22 (by decide) (fun c_5 => ?_) (fun c_5 => ?_)
  · skip
    obtain ⟨g_6, e_6⟩ := JW.get hJ0 (ctc_14 hc)
    refine aw_aload_n dX0_acquaint_52 rfl ?_
    obtain ⟨pe_7, dd_7, ni_7, xx_7, e_7⟩ := JW.get hJ0 (ctc_0 hc)
    refine aw_get dX0_acquaint_53 fl_X0_16 e_7 (by omega) rfl ?_
    refine aw_iload_n dX0_acquaint_56 rfl ?_
    refine aw_dup2 dX0_acquaint_57 rfl rfl ?_
    refine aw_iald (v := (g_6 p9)) dX0_acquaint_58 e_6 (by omega) (vp_in_nI (n := p9) (by omega) (by omega)) (congrArg g_6 (nI_clamp (n := p9) (by omega))) ?_
    refine aw_iconst (v := 1) dX0_acquaint_59 (by decide) ?_
    refine aw_iload_n dX0_acquaint_60 rfl ?_
    refine aw_ishl dX0_acquaint_61 ?_
    refine aw_iconst (v := (-1)) dX0_acquaint_62 (by decide) ?_
    refine aw_ixor dX0_acquaint_63 ?_
    refine aw_iand dX0_acquaint_64 ?_
    refine aw_iast dX0_acquaint_65 e_6 (by omega) (vp_in_nI (n := p9) (by omega) (by omega)) ?_
    refine aw_up hJ0 (ctc_14 hc) ⟨_, rfl⟩ (WA LM0 (by omega) (by omega)) (fun V_8 j_8 k_8 e_8 => ?_)
    refine aw_aload_n dX0_acquaint_66 rfl ?_
    refine aw_get dX0_acquaint_67 fl_X0_16 ((k_8 _ (by omega)).trans e_7) (by omega) rfl ?_
    refine aw_iload_n dX0_acquaint_70 rfl ?_
    refine aw_dup2 dX0_acquaint_71 rfl rfl ?_
    refine aw_iald (v := ((upd g_6 (Int32.toNatClampNeg (nI p9)) ((g_6 p9) &&& (((1 : Int32) <<< ((nI q9) &&& 31)) ^^^ (-1)))) q9)) dX0_acquaint_72 e_8 (by omega) (vp_in_nI (n := q9) (by omega) (by omega)) (congrArg (upd g_6 (Int32.toNatClampNeg (nI p9)) ((g_6 p9) &&& (((1 : Int32) <<< ((nI q9) &&& 31)) ^^^ (-1)))) (nI_clamp (n := q9) (by omega))) ?_
    refine aw_iconst (v := 1) dX0_acquaint_73 (by decide) ?_
    refine aw_iload_n dX0_acquaint_74 rfl ?_
    refine aw_ishl dX0_acquaint_75 ?_
    refine aw_iconst (v := (-1)) dX0_acquaint_76 (by decide) ?_
    refine aw_ixor dX0_acquaint_77 ?_
    refine aw_iand dX0_acquaint_78 ?_
    refine aw_iast dX0_acquaint_79 e_8 (by omega) (vp_in_nI (n := q9) (by omega) (by omega)) ?_
    refine aw_up j_8 (ctc_14 hc) ⟨_, rfl⟩ (WA LM0 (by omega) (by omega)) (fun V_9 j_9 k_9 e_9 => ?_)
    refine aw_vreti dX0_acquaint_80 rfl (Nat.le_of_ble_eq_true rfl) (Nat.le_of_ble_eq_true rfl) ?_
    exact ⟨⟨fun _ => ((congrArg (fun z => rs (fI z)) e_9).trans (by show rs (upd (upd g_6 (nI p9).toNatClampNeg _) (nI q9).toNatClampNeg _) = _; rw [nI_clamp (n := p9) (by omega), nI_clamp (n := q9) (by omega), ← hK, e_6]; exact kdn_rs hp9 hq9)), fun z => absurd c_5 z⟩, rfl, j_9⟩
  · skip
    obtain ⟨g_10, e_10⟩ := JW.get hJ0 (ctc_14 hc)
    refine aw_aload_n dX0_acquaint_25 rfl ?_
    obtain ⟨pe_11, dd_11, ni_11, xx_11, e_11⟩ := JW.get hJ0 (ctc_0 hc)
    refine aw_get dX0_acquaint_26 fl_X0_16 e_11 (by omega) rfl ?_
    refine aw_iload_n dX0_acquaint_29 rfl ?_
    refine aw_dup2 dX0_acquaint_30 rfl rfl ?_
    refine aw_iald (v := (g_10 p9)) dX0_acquaint_31 e_10 (by omega) (vp_in_nI (n := p9) (by omega) (by omega)) (congrArg g_10 (nI_clamp (n := p9) (by omega))) ?_
    refine aw_iconst (v := 1) dX0_acquaint_32 (by decide) ?_
    refine aw_iload_n dX0_acquaint_33 rfl ?_
    refine aw_ishl dX0_acquaint_34 ?_
    refine aw_ior dX0_acquaint_35 ?_
    refine aw_iast dX0_acquaint_36 e_10 (by omega) (vp_in_nI (n := p9) (by omega) (by omega)) ?_
    refine aw_up hJ0 (ctc_14 hc) ⟨_, rfl⟩ (WA LM0 (by omega) (by omega)) (fun V_12 j_12 k_12 e_12 => ?_)
    refine aw_aload_n dX0_acquaint_37 rfl ?_
    refine aw_get dX0_acquaint_38 fl_X0_16 ((k_12 _ (by omega)).trans e_11) (by omega) rfl ?_
    refine aw_iload_n dX0_acquaint_41 rfl ?_
    refine aw_dup2 dX0_acquaint_42 rfl rfl ?_
    refine aw_iald (v := ((upd g_10 (Int32.toNatClampNeg (nI p9)) ((g_10 p9) ||| ((1 : Int32) <<< ((nI q9) &&& 31)))) q9)) dX0_acquaint_43 e_12 (by omega) (vp_in_nI (n := q9) (by omega) (by omega)) (congrArg (upd g_10 (Int32.toNatClampNeg (nI p9)) ((g_10 p9) ||| ((1 : Int32) <<< ((nI q9) &&& 31)))) (nI_clamp (n := q9) (by omega))) ?_
    refine aw_iconst (v := 1) dX0_acquaint_44 (by decide) ?_
    refine aw_iload_n dX0_acquaint_45 rfl ?_
    refine aw_ishl dX0_acquaint_46 ?_
    refine aw_ior dX0_acquaint_47 ?_
    refine aw_iast dX0_acquaint_48 e_12 (by omega) (vp_in_nI (n := q9) (by omega) (by omega)) ?_
    refine aw_up j_12 (ctc_14 hc) ⟨_, rfl⟩ (WA LM0 (by omega) (by omega)) (fun V_13 j_13 k_13 e_13 => ?_)
    refine aw_goto (tgt := 80) dX0_acquaint_49 (by decide) ?_
    refine aw_vreti dX0_acquaint_80 rfl (Nat.le_of_ble_eq_true rfl) (Nat.le_of_ble_eq_true rfl) ?_
    exact ⟨⟨fun z => absurd z c_5, fun _ => ((congrArg (fun z => rs (fI z)) e_13).trans (by show rs (upd (upd g_10 (nI p9).toNatClampNeg _) (nI q9).toNatClampNeg _) = _; rw [nI_clamp (n := p9) (by omega), nI_clamp (n := q9) (by omega), ← hK, e_10]; exact kup_rs hp9 hq9))⟩, rfl, j_13⟩

set_option maxHeartbeats 4000000 in
set_option maxRecDepth 100000 in
theorem g_X0_tellDoorS (l : Launch) (D : va_G) (b : Nat) (N : Nat) (V : Wd) (hN : 100 ≤ N) (hW : CW D b V) (c : Nat) (hc : c = 3 ∨ c = 21 ∨ c = 39 ∨ c = 74) (n0 : Int32) (n1 : Int32) (n2 : Int32) (P : Int32) (hP : fI (V c) 6 = P) (d9 : Nat) (hd9 : d9 < 16) (e09 : n0 = nI d9) : MV l D b 0 jX0_tellDoor [.ref (b + c), .int n0, .int n1, .int n2] N V 0 0 (fun N9 V9 => (fI (V9 c) 6 = P ||| (1 : Int32) <<< (nI d9 &&& 31)) ∧ N = N9 ∧ JW D b N [(c, c, 6, 6), (c + 15, c + 15, 0, 1000000), (c + 16, c + 16, 0, 1000000), (c + 17, c + 17, 0, 1000000)] V V9) := by
  subst e09
  have hJ0 : JW D b N [(c, c, 6, 6), (c + 15, c + 15, 0, 1000000), (c + 16, c + 16, 0, 1000000), (c + 17, c + 17, 0, 1000000)] V V := JW.rf hW
  refine mw_of (by decide) (by simp [Value.category]) (Nat.le_of_ble_eq_true rfl) ?_
  show AW l D b jX0_tellDoor (fx_rm 0 0 0) none (fx_MQ D b 0 0 (fx_qv (fun N9 V9 => (fI (V9 c) 6 = P ||| (1 : Int32) <<< (nI d9 &&& 31)) ∧ N = N9 ∧ JW D b N [(c, c, 6, 6), (c + 15, c + 15, 0, 1000000), (c + 16, c + 16, 0, 1000000), (c + 17, c + 17, 0, 1000000)] V V9))) 0 [some (.ref (b + c)), some (.int (nI d9)), some (.int n1), some (.int n2)] [] N V 0 0
  refine aw_iload_n dX0_tellDoor_0 rfl ?_
  refine aw_if_lt (tgt := 43) dX0_tellDoor_1 (by decide) (fun c_1 => ?_) (fun c_1 => ?_)
  · have nc_1 : d9 < 0 := (nI_ltI (a := d9) (b := 0) (by omega) (by omega)).mp c_1
    omega
  have nc_1 : ¬ (d9 < 0) := fun z => c_1 ((nI_ltI (a := d9) (b := 0) (by omega) (by omega)).mpr z)
  refine aw_iload_n dX0_tellDoor_4 rfl ?_
  refine aw_bipush (v := 16) dX0_tellDoor_5 (by decide) ?_
  refine aw_icmp_ge (tgt := 43) dX0_tellDoor_7 (by decide) (fun c_2 => ?_) (fun c_2 => ?_)
  · have nc_2 : 16 ≤ d9 := (nI_leI (a := 16) (b := d9) (by omega) (by omega)).mp c_2
    omega
  have nc_2 : ¬ (16 ≤ d9) := fun z => c_2 ((nI_leI (a := 16) (b := d9) (by omega) (by omega)).mpr z)
  refine aw_aload_n dX0_tellDoor_10 rfl ?_
  refine aw_dup dX0_tellDoor_11 rfl ?_
  obtain ⟨pe_3, dd_3, ni_3, xx_3, e_3⟩ := JW.get hJ0 (ctc_0 hc)
  refine aw_get dX0_tellDoor_12 fl_X0_33 e_3 (by omega) rfl ?_
  refine aw_eqi (y := P) ((Eq.symm (congrArg (fun z => fI z 6) e_3)).trans hP) ?_
  refine aw_iconst (v := 1) dX0_tellDoor_15 (by decide) ?_
  refine aw_iload_n dX0_tellDoor_16 rfl ?_
  refine aw_ishl dX0_tellDoor_17 ?_
  refine aw_ior dX0_tellDoor_18 ?_
  refine aw_put dX0_tellDoor_19 fp_X0_33 e_3 (by omega) rfl rfl (Nat.le_of_ble_eq_true rfl) rfl ?_
  refine aw_up hJ0 (ctc_0 hc) ⟨_, _, _, _, rfl⟩ (WO (s := 6) (x := .int (P ||| ((1 : Int32) <<< ((nI d9) &&& 31)))) e_3 rfl LM0 (by omega) (by omega) (by decide) (Or.inl (by decide))) (fun V_4 j_4 k_4 e_4 => ?_)
  refine aw_aload_n dX0_tellDoor_22 rfl ?_
  refine aw_get dX0_tellDoor_23 fl_X0_20 e_4 (by omega) rfl ?_
  refine aw_iload_n dX0_tellDoor_26 rfl ?_
  refine aw_iload_n dX0_tellDoor_27 rfl ?_
  obtain ⟨g_5, e_5⟩ := JW.get j_4 (ctc_15 hc)
  refine aw_iast dX0_tellDoor_28 e_5 (by omega) (vp_in_nI (n := d9) (by omega) (by omega)) ?_
  refine aw_up j_4 (ctc_15 hc) ⟨_, rfl⟩ (WA (LMs LM0) (by omega) (by omega)) (fun V_6 j_6 k_6 e_6 => ?_)
  refine aw_aload_n dX0_tellDoor_29 rfl ?_
  refine aw_get dX0_tellDoor_30 fl_X0_23 ((k_6 _ (by omega)).trans e_4) (by omega) rfl ?_
  refine aw_iload_n dX0_tellDoor_33 rfl ?_
  refine aw_iload_n dX0_tellDoor_34 rfl ?_
  obtain ⟨g_7, e_7⟩ := JW.get j_6 (ctc_16 hc)
  refine aw_iast dX0_tellDoor_35 e_7 (by omega) (vp_in_nI (n := d9) (by omega) (by omega)) ?_
  refine aw_up j_6 (ctc_16 hc) ⟨_, rfl⟩ (WA (LMs (LMs LM0)) (by omega) (by omega)) (fun V_8 j_8 k_8 e_8 => ?_)
  refine aw_aload_n dX0_tellDoor_36 rfl ?_
  refine aw_get dX0_tellDoor_37 fl_X0_26 ((k_8 _ (by omega)).trans ((k_6 _ (by omega)).trans e_4)) (by omega) rfl ?_
  refine aw_iload_n dX0_tellDoor_40 rfl ?_
  refine aw_iconst (v := 0) dX0_tellDoor_41 (by decide) ?_
  obtain ⟨g_9, e_9⟩ := JW.get j_8 (ctc_17 hc)
  refine aw_iast dX0_tellDoor_42 e_9 (by omega) (vp_in_nI (n := d9) (by omega) (by omega)) ?_
  refine aw_up j_8 (ctc_17 hc) ⟨_, rfl⟩ (WA (LMs (LMs (LMs LM0))) (by omega) (by omega)) (fun V_10 j_10 k_10 e_10 => ?_)
  refine aw_vreti dX0_tellDoor_43 rfl (Nat.le_of_ble_eq_true rfl) (Nat.le_of_ble_eq_true rfl) ?_
  exact ⟨((congrArg (fun z => fI z 6) (k_10 _ (by omega))).trans ((congrArg (fun z => fI z 6) (k_8 _ (by omega))).trans ((congrArg (fun z => fI z 6) (k_6 _ (by omega))).trans ((congrArg (fun z => fI z 6) e_4).trans rfl)))), rfl, j_10⟩

set_option maxHeartbeats 4000000 in
set_option maxRecDepth 100000 in
theorem g_X0_dropDoorS (l : Launch) (D : va_G) (b : Nat) (N : Nat) (V : Wd) (hN : 100 ≤ N) (hW : CW D b V) (c : Nat) (hc : c = 3 ∨ c = 21 ∨ c = 39 ∨ c = 74) (n0 : Int32) (P : Int32) (hP : fI (V c) 6 = P) (d9 : Nat) (hd9 : d9 < 16) (e09 : n0 = nI d9) : MV l D b 0 jX0_dropDoor [.ref (b + c), .int n0] N V 0 0 (fun N9 V9 => (fI (V9 c) 6 = P &&& (((1 : Int32) <<< (nI d9 &&& 31)) ^^^ (-1))) ∧ N = N9 ∧ JW D b N [(c, c, 6, 6), (c + 17, c + 17, 0, 1000000)] V V9) := by
  subst e09
  have hJ0 : JW D b N [(c, c, 6, 6), (c + 17, c + 17, 0, 1000000)] V V := JW.rf hW
  refine mw_of (by decide) (by simp [Value.category]) (Nat.le_of_ble_eq_true rfl) ?_
  show AW l D b jX0_dropDoor (fx_rm 0 0 0) none (fx_MQ D b 0 0 (fx_qv (fun N9 V9 => (fI (V9 c) 6 = P &&& (((1 : Int32) <<< (nI d9 &&& 31)) ^^^ (-1))) ∧ N = N9 ∧ JW D b N [(c, c, 6, 6), (c + 17, c + 17, 0, 1000000)] V V9))) 0 [some (.ref (b + c)), some (.int (nI d9))] [] N V 0 0
  refine aw_iload_n dX0_dropDoor_0 rfl ?_
  refine aw_if_lt (tgt := 31) dX0_dropDoor_1 (by decide) (fun c_1 => ?_) (fun c_1 => ?_)
  · have nc_1 : d9 < 0 := (nI_ltI (a := d9) (b := 0) (by omega) (by omega)).mp c_1
    omega
  have nc_1 : ¬ (d9 < 0) := fun z => c_1 ((nI_ltI (a := d9) (b := 0) (by omega) (by omega)).mpr z)
  refine aw_iload_n dX0_dropDoor_4 rfl ?_
  refine aw_bipush (v := 16) dX0_dropDoor_5 (by decide) ?_
  refine aw_icmp_ge (tgt := 31) dX0_dropDoor_7 (by decide) (fun c_2 => ?_) (fun c_2 => ?_)
  · have nc_2 : 16 ≤ d9 := (nI_leI (a := 16) (b := d9) (by omega) (by omega)).mp c_2
    omega
  have nc_2 : ¬ (16 ≤ d9) := fun z => c_2 ((nI_leI (a := 16) (b := d9) (by omega) (by omega)).mpr z)
  refine aw_aload_n dX0_dropDoor_10 rfl ?_
  refine aw_dup dX0_dropDoor_11 rfl ?_
  obtain ⟨pe_3, dd_3, ni_3, xx_3, e_3⟩ := JW.get hJ0 (ctc_0 hc)
  refine aw_get dX0_dropDoor_12 fl_X0_33 e_3 (by omega) rfl ?_
  refine aw_eqi (y := P) ((Eq.symm (congrArg (fun z => fI z 6) e_3)).trans hP) ?_
  refine aw_iconst (v := 1) dX0_dropDoor_15 (by decide) ?_
  refine aw_iload_n dX0_dropDoor_16 rfl ?_
  refine aw_ishl dX0_dropDoor_17 ?_
  refine aw_iconst (v := (-1)) dX0_dropDoor_18 (by decide) ?_
  refine aw_ixor dX0_dropDoor_19 ?_
  refine aw_iand dX0_dropDoor_20 ?_
  refine aw_put dX0_dropDoor_21 fp_X0_33 e_3 (by omega) rfl rfl (Nat.le_of_ble_eq_true rfl) rfl ?_
  refine aw_up hJ0 (ctc_0 hc) ⟨_, _, _, _, rfl⟩ (WO (s := 6) (x := .int (P &&& (((1 : Int32) <<< ((nI d9) &&& 31)) ^^^ (-1)))) e_3 rfl LM0 (by omega) (by omega) (by decide) (Or.inl (by decide))) (fun V_4 j_4 k_4 e_4 => ?_)
  refine aw_aload_n dX0_dropDoor_24 rfl ?_
  refine aw_get dX0_dropDoor_25 fl_X0_26 e_4 (by omega) rfl ?_
  refine aw_iload_n dX0_dropDoor_28 rfl ?_
  refine aw_iconst (v := 0) dX0_dropDoor_29 (by decide) ?_
  obtain ⟨g_5, e_5⟩ := JW.get j_4 (ctc_17 hc)
  refine aw_iast dX0_dropDoor_30 e_5 (by omega) (vp_in_nI (n := d9) (by omega) (by omega)) ?_
  refine aw_up j_4 (ctc_17 hc) ⟨_, rfl⟩ (WA (LMs LM0) (by omega) (by omega)) (fun V_6 j_6 k_6 e_6 => ?_)
  refine aw_vreti dX0_dropDoor_31 rfl (Nat.le_of_ble_eq_true rfl) (Nat.le_of_ble_eq_true rfl) ?_
  exact ⟨((congrArg (fun z => fI z 6) (k_6 _ (by omega))).trans ((congrArg (fun z => fI z 6) e_4).trans rfl)), rfl, j_6⟩

set_option maxHeartbeats 4000000 in
set_option maxRecDepth 100000 in
theorem g_X8_startsLineS (l : Launch) (D : va_G) (b : Nat) (N : Nat) (V : Wd) (hN : 100 ≤ N) (hW : CW D b V) (p c : Nat) (hp : 100 ≤ p ∧ p < N) (hc : c = 3 ∨ c = 21 ∨ c = 39 ∨ c = 74) (hR : V p = cO 7 [.ref (b + 1), .ref (b + c)]) (n0 : Int32)  : MI l D b 1 jX8_startsLine [.ref (b + p), .int n0] N V 0 0 (fun r N9 V9 => ((r = 0 ∨ r = 1) ∧ ((stO n0 = true ∧ r = 1) ∨ (stO n0 = false ∧ r = 0))) ∧ N = N9 ∧ V = V9) := by
  have hJ0 : JW D b N [] V V := JW.rf hW
  refine mw_of (by decide) (by simp [Value.category]) (Nat.le_of_ble_eq_true rfl) ?_
  show AW l D b jX8_startsLine (fx_rm 1 0 0) none (fx_MQ D b 0 0 (fx_qi (fun r N9 V9 => ((r = 0 ∨ r = 1) ∧ ((stO n0 = true ∧ r = 1) ∨ (stO n0 = false ∧ r = 0))) ∧ N = N9 ∧ V = V9))) 0 [some (.ref (b + p)), some (.int n0)] [] N V 0 0
  refine aw_iload_n dX8_startsLine_0 rfl ?_
  refine aw_bipush (v := 100) dX8_startsLine_1 (by decide) ?_
  refine aw_icmp_eq (tgt := 13) dX8_startsLine_3 (by decide) (fun c_1 => ?_) (fun c_1 => ?_)
  · skip
    refine aw_iconst (v := 1) dX8_startsLine_13 (by decide) ?_
    refine aw_goto (tgt := 18) dX8_startsLine_14 (by decide) ?_
    refine aw_zreti dX8_startsLine_18 rfl (by first | exact Or.inl rfl | exact Or.inr rfl | assumption) (Nat.le_of_ble_eq_true rfl) (Nat.le_of_ble_eq_true rfl) ?_
    exact ⟨⟨(by first | exact Or.inl rfl | exact Or.inr rfl | assumption), Or.inl ⟨stO_100 c_1, rfl⟩⟩, rfl, rfl⟩
  · skip
    refine aw_iload_n dX8_startsLine_6 rfl ?_
    refine aw_callSi (J' := jX10_isDigit) (As := [.int n0]) (st := []) dX8_startsLine_7 tb_335 ok_X10_isDigit rfl (g_X10_isDigitS l D b N V hN hJ0.1 n0) rfl (Nat.le_of_ble_eq_true rfl) ⟨Nat.le_of_ble_eq_true rfl, Nat.le_of_ble_eq_true rfl, Nat.le_of_ble_eq_true rfl, Nat.le_of_ble_eq_true rfl⟩ (fun r_5 N_6 V_7 q_8 => ?_)
    obtain ⟨⟨z_4, h_3⟩, rfl, rfl⟩ := q_8
    rcases h_3 with ⟨hy_9, e_10⟩ | ⟨hn_11, e_12⟩
    · skip
      refine aw_eqi (y := 1) e_10 ?_
      obtain ⟨z_13, hz_13, ez_13⟩ := isDg_nat hy_9
      refine aw_if_eq (tgt := 17) dX8_startsLine_10 (by decide) (fun c_14 => ?_) (fun c_14 => ?_)
      · exact absurd c_14 (by decide)
      refine aw_iconst (v := 1) dX8_startsLine_13 (by decide) ?_
      refine aw_goto (tgt := 18) dX8_startsLine_14 (by decide) ?_
      refine aw_zreti dX8_startsLine_18 rfl (by first | exact Or.inl rfl | exact Or.inr rfl | assumption) (Nat.le_of_ble_eq_true rfl) (Nat.le_of_ble_eq_true rfl) ?_
      exact ⟨⟨(by first | exact Or.inl rfl | exact Or.inr rfl | assumption), Or.inl ⟨(stO_no c_1).trans hy_9, rfl⟩⟩, rfl, rfl⟩
    · skip
      refine aw_eqi (y := 0) e_12 ?_
      refine aw_if_eq (tgt := 17) dX8_startsLine_10 (by decide) (fun c_15 => ?_) (fun c_15 => ?_)
      rotate_left
      · exact absurd (by decide) c_15
      refine aw_iconst (v := 0) dX8_startsLine_17 (by decide) ?_
      refine aw_zreti dX8_startsLine_18 rfl (by first | exact Or.inl rfl | exact Or.inr rfl | assumption) (Nat.le_of_ble_eq_true rfl) (Nat.le_of_ble_eq_true rfl) ?_
      exact ⟨⟨(by first | exact Or.inl rfl | exact Or.inr rfl | assumption), Or.inr ⟨(stO_no c_1).trans hn_11, rfl⟩⟩, rfl, rfl⟩

set_option maxHeartbeats 4000000 in
set_option maxRecDepth 100000 in
theorem g_X8_readPersonS (l : Launch) (D : va_G) (b : Nat) (N : Nat) (V : Wd) (hN : 100 ≤ N) (hW : CW D b V) (p c : Nat) (hp : 100 ≤ p ∧ p < N) (hc : c = 3 ∨ c = 21 ∨ c = 39 ∨ c = 74) (hR : V p = cO 7 [.ref (b + 1), .ref (b + c)]) (g : Nat → Int32) (hg : V 2 = cI D 260 g) (n a : Nat) (hna : a ≤ n ∧ n ≤ 240) (hE : fI (V 1) 2 = nI n) (hA : fI (V 1) 3 = nI a) (P : Int32) (hP : fI (V c) 5 = P) : MI l D b 2 jX8_readPerson [.ref (b + p)] N V 0 0 (fun r N9 V9 => ((∃ f, num g n 2 a = .inl f ∧ fI (V9 1) 4 = f ∧ r = -1) ∨ (∃ a9 d9, num g n 2 a = .inr (a9, d9) ∧ told P (nI d9) = false ∧ fI (V9 1) 4 = flt 7 a ∧ r = -1) ∨ (∃ a9 d9, num g n 2 a = .inr (a9, d9) ∧ told P (nI d9) = true ∧ fI (V9 1) 3 = nI a9 ∧ (a < a9 ∧ a9 ≤ n ∧ d9 < 12) ∧ r = nI d9)) ∧ N = N9 ∧ JW D b N [(1, 1, 3, 3), (1, 1, 4, 4)] V V9) := by
  have hJ0 : JW D b N [(1, 1, 3, 3), (1, 1, 4, 4)] V V := JW.rf hW
  refine mw_of (by decide) (by simp [Value.category]) (Nat.le_of_ble_eq_true rfl) ?_
  show AW l D b jX8_readPerson (fx_rm 2 0 0) none (fx_MQ D b 0 0 (fx_qi (fun r N9 V9 => ((∃ f, num g n 2 a = .inl f ∧ fI (V9 1) 4 = f ∧ r = -1) ∨ (∃ a9 d9, num g n 2 a = .inr (a9, d9) ∧ told P (nI d9) = false ∧ fI (V9 1) 4 = flt 7 a ∧ r = -1) ∨ (∃ a9 d9, num g n 2 a = .inr (a9, d9) ∧ told P (nI d9) = true ∧ fI (V9 1) 3 = nI a9 ∧ (a < a9 ∧ a9 ≤ n ∧ d9 < 12) ∧ r = nI d9)) ∧ N = N9 ∧ JW D b N [(1, 1, 3, 3), (1, 1, 4, 4)] V V9))) 0 [some (.ref (b + p)), none, none] [] N V 0 0
  refine aw_aload_n dX8_readPerson_0 rfl ?_
  refine aw_get dX8_readPerson_1 fl_X8_21 ((hJ0.2.1 _ hp.1 hp.2).trans hR) (by omega) rfl ?_
  obtain ⟨ts_1, tn_1, tf_1, ta_1, e_1, hta_1⟩ := JW.get hJ0 ct_1
  refine aw_get dX8_readPerson_4 fl_X8_42 e_1 (by omega) rfl ?_
  refine aw_eqi (y := (nI a)) ((Eq.symm (congrArg (fun z => fI z 3) e_1)).trans hA) ?_
  refine aw_istore_n (ls' := [some (.ref (b + p)), some (.int (nI a)), none]) dX8_readPerson_7 (Nat.le_of_ble_eq_true rfl) rfl ?_
  refine aw_aload_n dX8_readPerson_8 rfl ?_
  refine aw_get dX8_readPerson_9 fl_X8_21 ((hJ0.2.1 _ hp.1 hp.2).trans hR) (by omega) rfl ?_
  refine aw_iconst (v := 2) dX8_readPerson_12 (by decide) ?_
  refine aw_callVi (J' := jX10_readNumber) (As := [.int 2]) (st := []) dX8_readPerson_13 tb_539 ok_X10_readNumber ⟨_, e_1⟩ (by omega) rfl rfl (g_X10_readNumber_2S l D b N V hN hJ0.1 g hg n a ⟨by omega, by omega⟩ hE hA) rfl (Nat.le_of_ble_eq_true rfl) ⟨Nat.le_of_ble_eq_true rfl, Nat.le_of_ble_eq_true rfl, Nat.le_of_ble_eq_true rfl, Nat.le_of_ble_eq_true rfl⟩ (fun r_6 N_7 V_5 q_8 => ?_)
  obtain ⟨h_3, rfl, q_2⟩ := q_8
  have j_4 := JW.trans hJ0 (JW.weak q_2 (Sub.cons LM0 (by decide) (by decide) (by decide) (Or.inr ⟨by decide, by decide⟩) (Sub.cons (LMs LM0) (by decide) (by decide) (by decide) (Or.inr ⟨by decide, by decide⟩) Sub.nil)))
  rcases h_3 with ⟨f_9, hx_10, hk_11, e_12⟩ | ⟨a_13, v_14, hx_15, hk_16, hb_17, e_18⟩
  · skip
    refine aw_eqi (y := (-1)) e_12 ?_
    refine aw_istore_n (ls' := [some (.ref (b + p)), some (.int (nI a)), some (.int (-1))]) dX8_readPerson_16 (Nat.le_of_ble_eq_true rfl) rfl ?_
    refine aw_iload_n dX8_readPerson_17 rfl ?_
    refine aw_if_lt (tgt := 45) dX8_readPerson_18 (by decide) (fun c_19 => ?_) (fun c_19 => ?_)
    rotate_left
    · exact absurd (by decide) c_19
    refine aw_iload_n dX8_readPerson_45 rfl ?_
    refine aw_ireti dX8_readPerson_46 rfl (Nat.le_of_ble_eq_true rfl) (Nat.le_of_ble_eq_true rfl) ?_
    exact ⟨Or.inl ⟨_, hx_10, hk_11, rfl⟩, rfl, j_4⟩
  · skip
    refine aw_eqi (y := (nI v_14)) e_18 ?_
    obtain ⟨hb_17a, hb_17b, hb_17c⟩ := hb_17
    refine aw_istore_n (ls' := [some (.ref (b + p)), some (.int (nI a)), some (.int (nI v_14))]) dX8_readPerson_16 (Nat.le_of_ble_eq_true rfl) rfl ?_
    refine aw_iload_n dX8_readPerson_17 rfl ?_
    refine aw_if_lt (tgt := 45) dX8_readPerson_18 (by decide) (fun c_20 => ?_) (fun c_20 => ?_)
    · have nc_20 : v_14 < 0 := (nI_ltI (a := v_14) (b := 0) (by omega) (by omega)).mp c_20
      omega
    have nc_20 : ¬ (v_14 < 0) := fun z => c_20 ((nI_ltI (a := v_14) (b := 0) (by omega) (by omega)).mpr z)
    refine aw_aload_n dX8_readPerson_21 rfl ?_
    refine aw_get dX8_readPerson_22 fl_X8_9 ((j_4.2.1 _ hp.1 hp.2).trans hR) (by omega) rfl ?_
    refine aw_iload_n dX8_readPerson_25 rfl ?_
    obtain ⟨pe_24, dd_24, ni_24, xx_24, e_24⟩ := JW.get j_4 (ctc_0 hc)
    refine aw_callVi (J' := jX0_isPerson) (As := [.int (nI v_14)]) (st := []) dX8_readPerson_26 tb_569 ok_X0_isPerson ⟨_, e_24⟩ (by omega) rfl rfl (g_X0_isPersonS l D b N V_5 hN j_4.1 c hc (nI v_14) P ((JW.fI q_2 (by omega) (nfc (by omega) (nfc (by omega) nf0))).trans hP)) rfl (Nat.le_of_ble_eq_true rfl) ⟨Nat.le_of_ble_eq_true rfl, Nat.le_of_ble_eq_true rfl, Nat.le_of_ble_eq_true rfl, Nat.le_of_ble_eq_true rfl⟩ (fun r_25 N_26 V_27 q_28 => ?_)
    obtain ⟨⟨z_23, h_22⟩, rfl, rfl⟩ := q_28
    rcases h_22 with ⟨hy_29, e_30⟩ | ⟨hn_31, e_32⟩
    · skip
      refine aw_eqi (y := 1) e_30 ?_
      have hlhy_29 := told_lt (by omega) hy_29
      refine aw_if_ne (tgt := 45) dX8_readPerson_29 (by decide) (fun c_33 => ?_) (fun c_33 => ?_)
      rotate_left
      · exact absurd c_33 (by decide)
      refine aw_iload_n dX8_readPerson_45 rfl ?_
      refine aw_ireti dX8_readPerson_46 rfl (Nat.le_of_ble_eq_true rfl) (Nat.le_of_ble_eq_true rfl) ?_
      exact ⟨Or.inr (Or.inr ⟨_, _, hx_15, hy_29, hk_16, ⟨by omega, by omega, by omega⟩, rfl⟩), rfl, j_4⟩
    · skip
      refine aw_eqi (y := 0) e_32 ?_
      refine aw_if_ne (tgt := 45) dX8_readPerson_29 (by decide) (fun c_34 => ?_) (fun c_34 => ?_)
      · exact absurd rfl c_34
      refine aw_aload_n dX8_readPerson_32 rfl ?_
      refine aw_get dX8_readPerson_33 fl_X8_21 ((j_4.2.1 _ hp.1 hp.2).trans hR) (by omega) rfl ?_
      refine aw_bipush (v := 7) dX8_readPerson_36 (by decide) ?_
      refine aw_iload_n dX8_readPerson_38 rfl ?_
      obtain ⟨ts_40, tn_40, tf_40, ta_40, e_40, hta_40⟩ := JW.get j_4 ct_1
      refine aw_callVi (J' := jX10_fail) (As := [.int 7, .int (nI a)]) (st := []) dX8_readPerson_39 tb_540 ok_X10_fail ⟨_, e_40⟩ (by omega) rfl rfl (g_X10_failS l D b N V_5 hN j_4.1 7 (nI a)) rfl (Nat.le_of_ble_eq_true rfl) ⟨Nat.le_of_ble_eq_true rfl, Nat.le_of_ble_eq_true rfl, Nat.le_of_ble_eq_true rfl, Nat.le_of_ble_eq_true rfl⟩ (fun r_41 N_42 V_39 q_43 => ?_)
      obtain ⟨⟨z_37, h_36⟩, rfl, q_35⟩ := q_43
      have j_38 := JW.trans j_4 (JW.weak q_35 (Sub.cons (LMs LM0) (by decide) (by decide) (by decide) (Or.inr ⟨by decide, by decide⟩) Sub.nil))
      obtain ⟨rfl, h_36f⟩ := h_36
      refine aw_pop dX8_readPerson_42 rfl ?_
      refine aw_iconst (v := (-1)) dX8_readPerson_43 (by decide) ?_
      refine aw_ireti dX8_readPerson_44 rfl (Nat.le_of_ble_eq_true rfl) (Nat.le_of_ble_eq_true rfl) ?_
      exact ⟨Or.inr (Or.inl ⟨_, _, hx_15, hn_31, h_36f, rfl⟩), rfl, j_38⟩

set_option maxHeartbeats 20000000 in
set_option maxRecDepth 100000 in
theorem g_X8_readAcquaintanceS (l : Launch) (D : va_G) (b : Nat) (N : Nat) (V : Wd) (hN : 100 ≤ N) (hW : CW D b V) (p c : Nat) (hp : 100 ≤ p ∧ p < N) (hc : c = 3 ∨ c = 21 ∨ c = 39 ∨ c = 74) (hR : V p = cO 7 [.ref (b + 1), .ref (b + c)]) (g : Nat → Int32) (hg : V 2 = cI D 260 g) (n a : Nat) (hna : a ≤ n ∧ n ≤ 240) (hE : fI (V 1) 2 = nI n) (hA : fI (V 1) 3 = nI a) (P : Int32) (hP : fI (V c) 5 = P) (s : OS) (hD : fI (V c) 6 = s.1) (hK : rs (fI (V (c + 14))) = s.2) : MI l D b 3 jX8_readAcquaintance [.ref (b + p)] N V 0 0 (fun r N9 V9 => ((r = 0 ∨ r = 1) ∧ ((∃ f, lnAc g n P a s = .inl f ∧ fI (V9 1) 4 = f ∧ r = 0) ∨ (∃ a9 s9, lnAc g n P a s = .inr (a9, s9) ∧ fI (V9 1) 3 = nI a9 ∧ fI (V9 c) 6 = s9.1 ∧ rs (fI (V9 (c + 14))) = s9.2 ∧ (a < a9 ∧ a9 ≤ n) ∧ r = 1))) ∧ N = N9 ∧ JW D b N [(1, 1, 3, 3), (1, 1, 4, 4), (c + 14, c + 14, 0, 1000000)] V V9) := by
  have hJ0 : JW D b N [(1, 1, 3, 3), (1, 1, 4, 4), (c + 14, c + 14, 0, 1000000)] V V := JW.rf hW
  refine mw_of (by decide) (by simp [Value.category]) (Nat.le_of_ble_eq_true rfl) ?_
  show AW l D b jX8_readAcquaintance (fx_rm 3 0 0) none (fx_MQ D b 0 0 (fx_qi (fun r N9 V9 => ((r = 0 ∨ r = 1) ∧ ((∃ f, lnAc g n P a s = .inl f ∧ fI (V9 1) 4 = f ∧ r = 0) ∨ (∃ a9 s9, lnAc g n P a s = .inr (a9, s9) ∧ fI (V9 1) 3 = nI a9 ∧ fI (V9 c) 6 = s9.1 ∧ rs (fI (V9 (c + 14))) = s9.2 ∧ (a < a9 ∧ a9 ≤ n) ∧ r = 1))) ∧ N = N9 ∧ JW D b N [(1, 1, 3, 3), (1, 1, 4, 4), (c + 14, c + 14, 0, 1000000)] V V9))) 0 [some (.ref (b + p)), none, none, none, none] [] N V 0 0
  refine aw_aload_n dX8_readAcquaintance_0 rfl ?_
  refine aw_callVi (J' := jX8_readPerson) (As := []) (st := []) dX8_readAcquaintance_1 tb_565 ok_X8_readPerson ⟨_, ((hJ0.2.1 _ hp.1 hp.2).trans hR)⟩ (by omega) rfl rfl (g_X8_readPersonS l D b N V hN hJ0.1 p c ⟨by omega, by omega⟩ hc ((hJ0.2.1 _ hp.1 hp.2).trans hR) g hg n a ⟨by omega, by omega⟩ hE hA P hP) rfl (Nat.le_of_ble_eq_true rfl) ⟨Nat.le_of_ble_eq_true rfl, Nat.le_of_ble_eq_true rfl, Nat.le_of_ble_eq_true rfl, Nat.le_of_ble_eq_true rfl⟩ (fun r_5 N_6 V_4 q_7 => ?_)
  obtain ⟨h_2, rfl, q_1⟩ := q_7
  have j_3 := JW.trans hJ0 (JW.weak q_1 (Sub.cons LM0 (by decide) (by decide) (by decide) (Or.inr ⟨by decide, by decide⟩) (Sub.cons (LMs LM0) (by decide) (by decide) (by decide) (Or.inr ⟨by decide, by decide⟩) Sub.nil)))
  rcases h_2 with ⟨f_8, hx_9, hk_10, e_11⟩ | ⟨a_12, d_13, hx_14, ht_15, hk_16, e_17⟩ | ⟨a_18, d_19, hx_20, ht_21, hk_22, hb_23, e_24⟩
  · skip
    refine aw_eqi (y := (-1)) e_11 ?_
    refine aw_istore_n (ls' := [some (.ref (b + p)), some (.int (-1)), none, none, none]) dX8_readAcquaintance_4 (Nat.le_of_ble_eq_true rfl) rfl ?_
    refine aw_iload_n dX8_readAcquaintance_5 rfl ?_
    refine aw_if_ge (tgt := 11) dX8_readAcquaintance_6 (by decide) (fun c_25 => ?_) (fun c_25 => ?_)
    · exact absurd c_25 (by decide)
    refine aw_iconst (v := 0) dX8_readAcquaintance_9 (by decide) ?_
    refine aw_zreti dX8_readAcquaintance_10 rfl (by first | exact Or.inl rfl | exact Or.inr rfl | assumption) (Nat.le_of_ble_eq_true rfl) (Nat.le_of_ble_eq_true rfl) ?_
    exact ⟨⟨(by first | exact Or.inl rfl | exact Or.inr rfl | assumption), Or.inl ⟨_, ac_n hx_9, hk_10, rfl⟩⟩, rfl, j_3⟩
  · skip
    refine aw_eqi (y := (-1)) e_17 ?_
    refine aw_istore_n (ls' := [some (.ref (b + p)), some (.int (-1)), none, none, none]) dX8_readAcquaintance_4 (Nat.le_of_ble_eq_true rfl) rfl ?_
    refine aw_iload_n dX8_readAcquaintance_5 rfl ?_
    refine aw_if_ge (tgt := 11) dX8_readAcquaintance_6 (by decide) (fun c_26 => ?_) (fun c_26 => ?_)
    · exact absurd c_26 (by decide)
    refine aw_iconst (v := 0) dX8_readAcquaintance_9 (by decide) ?_
    refine aw_zreti dX8_readAcquaintance_10 rfl (by first | exact Or.inl rfl | exact Or.inr rfl | assumption) (Nat.le_of_ble_eq_true rfl) (Nat.le_of_ble_eq_true rfl) ?_
    exact ⟨⟨(by first | exact Or.inl rfl | exact Or.inr rfl | assumption), Or.inl ⟨_, ac_7 hx_14 ht_15, hk_16, rfl⟩⟩, rfl, j_3⟩
  · skip
    refine aw_eqi (y := (nI d_19)) e_24 ?_
    obtain ⟨hb_23a, hb_23b, hb_23c⟩ := hb_23
    refine aw_istore_n (ls' := [some (.ref (b + p)), some (.int (nI d_19)), none, none, none]) dX8_readAcquaintance_4 (Nat.le_of_ble_eq_true rfl) rfl ?_
    refine aw_iload_n dX8_readAcquaintance_5 rfl ?_
    refine aw_if_ge (tgt := 11) dX8_readAcquaintance_6 (by decide) (fun c_27 => ?_) (fun c_27 => ?_)
    rotate_left
    · have nc_27 : ¬ (0 ≤ d_19) := fun z => c_27 ((nI_leI (a := 0) (b := d_19) (by omega) (by omega)).mpr z)
      omega
    have nc_27 : 0 ≤ d_19 := (nI_leI (a := 0) (b := d_19) (by omega) (by omega)).mp c_27
    refine aw_aload_n dX8_readAcquaintance_11 rfl ?_
    refine aw_get dX8_readAcquaintance_12 fl_X8_21 ((j_3.2.1 _ hp.1 hp.2).trans hR) (by omega) rfl ?_
    obtain ⟨ts_30, tn_30, tf_30, ta_30, e_30, hta_30⟩ := JW.get j_3 ct_1
    refine aw_callVi (J' := jX10_now) (As := []) (st := []) dX8_readAcquaintance_15 tb_533 ok_X10_now ⟨_, e_30⟩ (by omega) rfl rfl (g_X10_nowS l D b N V_4 hN j_3.1 g ((JW.same q_1 (by decide) (fun k => (nfc (by omega) (nfc (by omega) nf0)))).trans hg) n a_18 ⟨by omega, by omega⟩ ((JW.fI q_1 (by omega) (nfc (by omega) (nfc (by omega) nf0))).trans hE) hk_22) rfl (Nat.le_of_ble_eq_true rfl) ⟨Nat.le_of_ble_eq_true rfl, Nat.le_of_ble_eq_true rfl, Nat.le_of_ble_eq_true rfl, Nat.le_of_ble_eq_true rfl⟩ (fun r_31 N_32 V_33 q_34 => ?_)
    obtain ⟨h_29, rfl, rfl⟩ := q_34
    refine aw_eqi (y := (hd g n a_18)) h_29 ?_
    refine aw_istore_n (ls' := [some (.ref (b + p)), some (.int (nI d_19)), some (.int (hd g n a_18)), none, none]) dX8_readAcquaintance_18 (Nat.le_of_ble_eq_true rfl) rfl ?_
    refine aw_iload_n dX8_readAcquaintance_19 rfl ?_
    refine aw_bipush (v := 38) dX8_readAcquaintance_20 (by decide) ?_
    refine aw_icmp_eq (tgt := 39) dX8_readAcquaintance_22 (by decide) (fun c_35 => ?_) (fun c_35 => ?_)
    · skip
      have hlc_35 := hd_lit c_35 (by decide)
      refine aw_aload_n dX8_readAcquaintance_39 rfl ?_
      refine aw_get dX8_readAcquaintance_40 fl_X8_21 ((j_3.2.1 _ hp.1 hp.2).trans hR) (by omega) rfl ?_
      refine aw_dup dX8_readAcquaintance_43 rfl ?_
      refine aw_get dX8_readAcquaintance_44 fl_X8_42 e_30 (by omega) rfl ?_
      refine aw_eqi (y := (nI a_18)) ((Eq.symm (congrArg (fun z => fI z 3) e_30)).trans hk_22) ?_
      refine aw_iconst (v := 1) dX8_readAcquaintance_47 (by decide) ?_
      refine aw_iadd dX8_readAcquaintance_48 ?_
      refine aw_eqi (y := nI (a_18 + 1)) (nI_add _ _) ?_
      refine aw_put dX8_readAcquaintance_49 fp_X8_42 e_30 (by omega) rfl rfl (Nat.le_of_ble_eq_true rfl) rfl ?_
      refine aw_up j_3 ct_1 ⟨_, _, _, (a_18 + 1), rfl, (by first | omega | (split <;> omega))⟩ (WO (s := 3) (x := .int (nI (a_18 + 1))) e_30 rfl LM0 (by decide) (by decide) (by decide) (Or.inl (by decide))) (fun V_36 j_36 k_36 e_36 => ?_)
      refine aw_aload_n dX8_readAcquaintance_52 rfl ?_
      refine aw_get dX8_readAcquaintance_53 fl_X8_21 ((j_36.2.1 _ hp.1 hp.2).trans hR) (by omega) rfl ?_
      refine aw_get dX8_readAcquaintance_56 fl_X8_42 e_36 (by omega) rfl ?_
      refine aw_istore_n (ls' := [some (.ref (b + p)), some (.int (nI d_19)), some (.int (hd g n a_18)), some (.int (nI (a_18 + 1))), none]) dX8_readAcquaintance_59 (Nat.le_of_ble_eq_true rfl) rfl ?_
      refine aw_aload_n dX8_readAcquaintance_60 rfl ?_
      refine aw_callVi (J' := jX8_readPerson) (As := []) (st := []) dX8_readAcquaintance_61 tb_565 ok_X8_readPerson ⟨_, ((j_36.2.1 _ hp.1 hp.2).trans hR)⟩ (by omega) rfl rfl (g_X8_readPersonS l D b N V_36 hN j_36.1 p c ⟨by omega, by omega⟩ hc ((j_36.2.1 _ hp.1 hp.2).trans hR) g ((k_36 _ (by decide)).trans ((JW.same q_1 (by decide) (fun k => (nfc (by omega) (nfc (by omega) nf0)))).trans hg)) n (a_18 + 1) ⟨by omega, by omega⟩ (KA (s := 3) (x := .int (nI (a_18 + 1))) e_30 rfl (by decide) e_36 k_36 ((JW.fI q_1 (by omega) (nfc (by omega) (nfc (by omega) nf0))).trans hE)) ((congrArg (fun z => fI z 3) e_36).trans rfl) P (KA (s := 3) (x := .int (nI (a_18 + 1))) e_30 rfl (by decide) e_36 k_36 ((JW.fI q_1 (by omega) (nfc (by omega) (nfc (by omega) nf0))).trans hP))) rfl (Nat.le_of_ble_eq_true rfl) ⟨Nat.le_of_ble_eq_true rfl, Nat.le_of_ble_eq_true rfl, Nat.le_of_ble_eq_true rfl, Nat.le_of_ble_eq_true rfl⟩ (fun r_41 N_42 V_40 q_43 => ?_)
      obtain ⟨h_38, rfl, q_37⟩ := q_43
      have j_39 := JW.trans j_36 (JW.weak q_37 (Sub.cons LM0 (by decide) (by decide) (by decide) (Or.inr ⟨by decide, by decide⟩) (Sub.cons (LMs LM0) (by decide) (by decide) (by decide) (Or.inr ⟨by decide, by decide⟩) Sub.nil)))
      rcases h_38 with ⟨f_44, hx_45, hk_46, e_47⟩ | ⟨a_48, d_49, hx_50, ht_51, hk_52, e_53⟩ | ⟨a_54, d_55, hx_56, ht_57, hk_58, hb_59, e_60⟩
      · skip
        refine aw_eqi (y := (-1)) e_47 ?_
        refine aw_istore (ls' := [some (.ref (b + p)), some (.int (nI d_19)), some (.int (hd g n a_18)), some (.int (nI (a_18 + 1))), some (.int (-1))]) dX8_readAcquaintance_64 (Nat.le_of_ble_eq_true rfl) rfl ?_
        refine aw_iload dX8_readAcquaintance_66 rfl ?_
        refine aw_if_ge (tgt := 73) dX8_readAcquaintance_68 (by decide) (fun c_61 => ?_) (fun c_61 => ?_)
        · exact absurd c_61 (by decide)
        refine aw_iconst (v := 0) dX8_readAcquaintance_71 (by decide) ?_
        refine aw_zreti dX8_readAcquaintance_72 rfl (by first | exact Or.inl rfl | exact Or.inr rfl | assumption) (Nat.le_of_ble_eq_true rfl) (Nat.le_of_ble_eq_true rfl) ?_
        exact ⟨⟨(by first | exact Or.inl rfl | exact Or.inr rfl | assumption), Or.inl ⟨_, ac_n2 hx_20 ht_21 (Or.inl c_35) hx_45, hk_46, rfl⟩⟩, rfl, j_39⟩
      · skip
        refine aw_eqi (y := (-1)) e_53 ?_
        refine aw_istore (ls' := [some (.ref (b + p)), some (.int (nI d_19)), some (.int (hd g n a_18)), some (.int (nI (a_18 + 1))), some (.int (-1))]) dX8_readAcquaintance_64 (Nat.le_of_ble_eq_true rfl) rfl ?_
        refine aw_iload dX8_readAcquaintance_66 rfl ?_
        refine aw_if_ge (tgt := 73) dX8_readAcquaintance_68 (by decide) (fun c_62 => ?_) (fun c_62 => ?_)
        · exact absurd c_62 (by decide)
        refine aw_iconst (v := 0) dX8_readAcquaintance_71 (by decide) ?_
        refine aw_zreti dX8_readAcquaintance_72 rfl (by first | exact Or.inl rfl | exact Or.inr rfl | assumption) (Nat.le_of_ble_eq_true rfl) (Nat.le_of_ble_eq_true rfl) ?_
        exact ⟨⟨(by first | exact Or.inl rfl | exact Or.inr rfl | assumption), Or.inl ⟨_, ac_72 hx_20 ht_21 (Or.inl c_35) hx_50 ht_51, hk_52, rfl⟩⟩, rfl, j_39⟩
      · skip
        refine aw_eqi (y := (nI d_55)) e_60 ?_
        obtain ⟨hb_59a, hb_59b, hb_59c⟩ := hb_59
        refine aw_istore (ls' := [some (.ref (b + p)), some (.int (nI d_19)), some (.int (hd g n a_18)), some (.int (nI (a_18 + 1))), some (.int (nI d_55))]) dX8_readAcquaintance_64 (Nat.le_of_ble_eq_true rfl) rfl ?_
        refine aw_iload dX8_readAcquaintance_66 rfl ?_
        refine aw_if_ge (tgt := 73) dX8_readAcquaintance_68 (by decide) (fun c_63 => ?_) (fun c_63 => ?_)
        rotate_left
        · have nc_63 : ¬ (0 ≤ d_55) := fun z => c_63 ((nI_leI (a := 0) (b := d_55) (by omega) (by omega)).mpr z)
          omega
        have nc_63 : 0 ≤ d_55 := (nI_leI (a := 0) (b := d_55) (by omega) (by omega)).mp c_63
        refine aw_iload_n dX8_readAcquaintance_73 rfl ?_
        refine aw_iload dX8_readAcquaintance_74 rfl ?_
        refine aw_icmp_ne (tgt := 90) dX8_readAcquaintance_76 (by decide) (fun c_64 => ?_) (fun c_64 => ?_)
        · skip
          have nc_64 : ¬ (d_19 = d_55) := fun z => c_64 ((nI_eq (a := d_19) (b := d_55) (by omega) (by omega)).mpr z)
          refine aw_aload_n dX8_readAcquaintance_90 rfl ?_
          refine aw_get dX8_readAcquaintance_91 fl_X8_9 ((j_39.2.1 _ hp.1 hp.2).trans hR) (by omega) rfl ?_
          refine aw_iload_n dX8_readAcquaintance_94 rfl ?_
          refine aw_iload dX8_readAcquaintance_95 rfl ?_
          refine aw_iload_n dX8_readAcquaintance_97 rfl ?_
          refine aw_bipush (v := 38) dX8_readAcquaintance_98 (by decide) ?_
          refine aw_icmp_ne (tgt := 107) dX8_readAcquaintance_100 (by decide) (fun c_65 => ?_) (fun c_65 => ?_)
          · first | exact absurd c_65 c_35 | exact absurd c_35 c_65 | exact absurd c_65 (Int32.not_lt.mpr c_35) | exact absurd c_35 (Int32.not_lt.mpr c_65) | exact c_35 (Int32.not_lt.mp c_65) | exact c_35 (Int32.not_le.mp c_65)
          refine aw_iconst (v := 1) dX8_readAcquaintance_103 (by decide) ?_
          refine aw_goto (tgt := 108) dX8_readAcquaintance_104 (by decide) ?_
          obtain ⟨pe_70, dd_70, ni_70, xx_70, e_70⟩ := JW.get j_39 (ctc_0 hc)
          refine aw_callVv (J' := jX0_acquaint) (As := [.int (nI d_19), .int (nI d_55), .int 1]) (st := []) dX8_readAcquaintance_108 tb_573 ok_X0_acquaint ⟨_, e_70⟩ (by omega) rfl rfl (g_X0_acquaintS l D b N V_40 hN j_39.1 c hc (nI d_19) (nI d_55) 1 s.2 ((congrArg (fun z => rs (fI z)) (JW.same q_37 (by omega) (fun k => (nfc (by omega) (nfc (by omega) nf0))))).trans ((congrArg (fun z => rs (fI z)) (k_36 _ (by omega))).trans ((congrArg (fun z => rs (fI z)) (JW.same q_1 (by omega) (fun k => (nfc (by omega) (nfc (by omega) nf0))))).trans hK))) d_19 d_55 (by omega) (by omega) rfl rfl) rfl (Nat.le_of_ble_eq_true rfl) ⟨Nat.le_of_ble_eq_true rfl, Nat.le_of_ble_eq_true rfl, Nat.le_of_ble_eq_true rfl, Nat.le_of_ble_eq_true rfl⟩ (fun  N_71 V_69 q_72 => ?_)
          obtain ⟨h_67, rfl, q_66⟩ := q_72
          have j_68 := JW.trans j_39 (JW.weak q_66 (Sub.cons (LMs (LMs LM0)) (by omega) (by omega) (by decide) (Or.inl rfl) Sub.nil))
          refine aw_iconst (v := 1) dX8_readAcquaintance_111 (by decide) ?_
          refine aw_zreti dX8_readAcquaintance_112 rfl (by first | exact Or.inl rfl | exact Or.inr rfl | assumption) (Nat.le_of_ble_eq_true rfl) (Nat.le_of_ble_eq_true rfl) ?_
          exact ⟨⟨(by first | exact Or.inl rfl | exact Or.inr rfl | assumption), Or.inr ⟨_, _, ac_up hx_20 ht_21 c_65 hx_56 ht_57 (by omega), ((JW.fI q_66 (by omega) (nfc (by omega) nf0)).trans hk_58), ((JW.fI q_66 (by omega) (nfc (by omega) nf0)).trans ((JW.fI q_37 (by omega) (nfc (by omega) (nfc (by omega) nf0))).trans (KA (s := 3) (x := .int (nI (a_18 + 1))) e_30 rfl (by decide) e_36 k_36 ((JW.fI q_1 (by omega) (nfc (by omega) (nfc (by omega) nf0))).trans hD)))), (h_67.2 (by decide)), ⟨by omega, by omega⟩, rfl⟩⟩, rfl, j_68⟩
        · skip
          have nc_64 : d_19 = d_55 := (nI_eq (a := d_19) (b := d_55) (by omega) (by omega)).mp c_64
          refine aw_aload_n dX8_readAcquaintance_79 rfl ?_
          refine aw_get dX8_readAcquaintance_80 fl_X8_21 ((j_39.2.1 _ hp.1 hp.2).trans hR) (by omega) rfl ?_
          refine aw_bipush (v := 6) dX8_readAcquaintance_83 (by decide) ?_
          refine aw_iload_n dX8_readAcquaintance_85 rfl ?_
          obtain ⟨ts_78, tn_78, tf_78, ta_78, e_78, hta_78⟩ := JW.get j_39 ct_1
          refine aw_callVi (J' := jX10_fail) (As := [.int 6, .int (nI (a_18 + 1))]) (st := []) dX8_readAcquaintance_86 tb_540 ok_X10_fail ⟨_, e_78⟩ (by omega) rfl rfl (g_X10_failS l D b N V_40 hN j_39.1 6 (nI (a_18 + 1))) rfl (Nat.le_of_ble_eq_true rfl) ⟨Nat.le_of_ble_eq_true rfl, Nat.le_of_ble_eq_true rfl, Nat.le_of_ble_eq_true rfl, Nat.le_of_ble_eq_true rfl⟩ (fun r_79 N_80 V_77 q_81 => ?_)
          obtain ⟨⟨z_75, h_74⟩, rfl, q_73⟩ := q_81
          have j_76 := JW.trans j_39 (JW.weak q_73 (Sub.cons (LMs LM0) (by decide) (by decide) (by decide) (Or.inr ⟨by decide, by decide⟩) Sub.nil))
          obtain ⟨rfl, h_74f⟩ := h_74
          refine aw_zreti dX8_readAcquaintance_89 rfl (by first | exact Or.inl rfl | exact Or.inr rfl | assumption) (Nat.le_of_ble_eq_true rfl) (Nat.le_of_ble_eq_true rfl) ?_
          exact ⟨⟨(by first | exact Or.inl rfl | exact Or.inr rfl | assumption), Or.inl ⟨_, ac_6 hx_20 ht_21 (Or.inl c_35) hx_56 ht_57 (by omega), h_74f, rfl⟩⟩, rfl, j_76⟩
    · skip
      refine aw_iload_n dX8_readAcquaintance_25 rfl ?_
      refine aw_bipush (v := 47) dX8_readAcquaintance_26 (by decide) ?_
      refine aw_icmp_eq (tgt := 39) dX8_readAcquaintance_28 (by decide) (fun c_82 => ?_) (fun c_82 => ?_)
      · skip
        have hlc_82 := hd_lit c_82 (by decide)
        refine aw_aload_n dX8_readAcquaintance_39 rfl ?_
        refine aw_get dX8_readAcquaintance_40 fl_X8_21 ((j_3.2.1 _ hp.1 hp.2).trans hR) (by omega) rfl ?_
        refine aw_dup dX8_readAcquaintance_43 rfl ?_
        refine aw_get dX8_readAcquaintance_44 fl_X8_42 e_30 (by omega) rfl ?_
        refine aw_eqi (y := (nI a_18)) ((Eq.symm (congrArg (fun z => fI z 3) e_30)).trans hk_22) ?_
        refine aw_iconst (v := 1) dX8_readAcquaintance_47 (by decide) ?_
        refine aw_iadd dX8_readAcquaintance_48 ?_
        refine aw_eqi (y := nI (a_18 + 1)) (nI_add _ _) ?_
        refine aw_put dX8_readAcquaintance_49 fp_X8_42 e_30 (by omega) rfl rfl (Nat.le_of_ble_eq_true rfl) rfl ?_
        refine aw_up j_3 ct_1 ⟨_, _, _, (a_18 + 1), rfl, (by first | omega | (split <;> omega))⟩ (WO (s := 3) (x := .int (nI (a_18 + 1))) e_30 rfl LM0 (by decide) (by decide) (by decide) (Or.inl (by decide))) (fun V_83 j_83 k_83 e_83 => ?_)
        refine aw_aload_n dX8_readAcquaintance_52 rfl ?_
        refine aw_get dX8_readAcquaintance_53 fl_X8_21 ((j_83.2.1 _ hp.1 hp.2).trans hR) (by omega) rfl ?_
        refine aw_get dX8_readAcquaintance_56 fl_X8_42 e_83 (by omega) rfl ?_
        refine aw_istore_n (ls' := [some (.ref (b + p)), some (.int (nI d_19)), some (.int (hd g n a_18)), some (.int (nI (a_18 + 1))), none]) dX8_readAcquaintance_59 (Nat.le_of_ble_eq_true rfl) rfl ?_
        refine aw_aload_n dX8_readAcquaintance_60 rfl ?_
        refine aw_callVi (J' := jX8_readPerson) (As := []) (st := []) dX8_readAcquaintance_61 tb_565 ok_X8_readPerson ⟨_, ((j_83.2.1 _ hp.1 hp.2).trans hR)⟩ (by omega) rfl rfl (g_X8_readPersonS l D b N V_83 hN j_83.1 p c ⟨by omega, by omega⟩ hc ((j_83.2.1 _ hp.1 hp.2).trans hR) g ((k_83 _ (by decide)).trans ((JW.same q_1 (by decide) (fun k => (nfc (by omega) (nfc (by omega) nf0)))).trans hg)) n (a_18 + 1) ⟨by omega, by omega⟩ (KA (s := 3) (x := .int (nI (a_18 + 1))) e_30 rfl (by decide) e_83 k_83 ((JW.fI q_1 (by omega) (nfc (by omega) (nfc (by omega) nf0))).trans hE)) ((congrArg (fun z => fI z 3) e_83).trans rfl) P (KA (s := 3) (x := .int (nI (a_18 + 1))) e_30 rfl (by decide) e_83 k_83 ((JW.fI q_1 (by omega) (nfc (by omega) (nfc (by omega) nf0))).trans hP))) rfl (Nat.le_of_ble_eq_true rfl) ⟨Nat.le_of_ble_eq_true rfl, Nat.le_of_ble_eq_true rfl, Nat.le_of_ble_eq_true rfl, Nat.le_of_ble_eq_true rfl⟩ (fun r_88 N_89 V_87 q_90 => ?_)
        obtain ⟨h_85, rfl, q_84⟩ := q_90
        have j_86 := JW.trans j_83 (JW.weak q_84 (Sub.cons LM0 (by decide) (by decide) (by decide) (Or.inr ⟨by decide, by decide⟩) (Sub.cons (LMs LM0) (by decide) (by decide) (by decide) (Or.inr ⟨by decide, by decide⟩) Sub.nil)))
        rcases h_85 with ⟨f_91, hx_92, hk_93, e_94⟩ | ⟨a_95, d_96, hx_97, ht_98, hk_99, e_100⟩ | ⟨a_101, d_102, hx_103, ht_104, hk_105, hb_106, e_107⟩
        · skip
          refine aw_eqi (y := (-1)) e_94 ?_
          refine aw_istore (ls' := [some (.ref (b + p)), some (.int (nI d_19)), some (.int (hd g n a_18)), some (.int (nI (a_18 + 1))), some (.int (-1))]) dX8_readAcquaintance_64 (Nat.le_of_ble_eq_true rfl) rfl ?_
          refine aw_iload dX8_readAcquaintance_66 rfl ?_
          refine aw_if_ge (tgt := 73) dX8_readAcquaintance_68 (by decide) (fun c_108 => ?_) (fun c_108 => ?_)
          · exact absurd c_108 (by decide)
          refine aw_iconst (v := 0) dX8_readAcquaintance_71 (by decide) ?_
          refine aw_zreti dX8_readAcquaintance_72 rfl (by first | exact Or.inl rfl | exact Or.inr rfl | assumption) (Nat.le_of_ble_eq_true rfl) (Nat.le_of_ble_eq_true rfl) ?_
          exact ⟨⟨(by first | exact Or.inl rfl | exact Or.inr rfl | assumption), Or.inl ⟨_, ac_n2 hx_20 ht_21 (Or.inr c_82) hx_92, hk_93, rfl⟩⟩, rfl, j_86⟩
        · skip
          refine aw_eqi (y := (-1)) e_100 ?_
          refine aw_istore (ls' := [some (.ref (b + p)), some (.int (nI d_19)), some (.int (hd g n a_18)), some (.int (nI (a_18 + 1))), some (.int (-1))]) dX8_readAcquaintance_64 (Nat.le_of_ble_eq_true rfl) rfl ?_
          refine aw_iload dX8_readAcquaintance_66 rfl ?_
          refine aw_if_ge (tgt := 73) dX8_readAcquaintance_68 (by decide) (fun c_109 => ?_) (fun c_109 => ?_)
          · exact absurd c_109 (by decide)
          refine aw_iconst (v := 0) dX8_readAcquaintance_71 (by decide) ?_
          refine aw_zreti dX8_readAcquaintance_72 rfl (by first | exact Or.inl rfl | exact Or.inr rfl | assumption) (Nat.le_of_ble_eq_true rfl) (Nat.le_of_ble_eq_true rfl) ?_
          exact ⟨⟨(by first | exact Or.inl rfl | exact Or.inr rfl | assumption), Or.inl ⟨_, ac_72 hx_20 ht_21 (Or.inr c_82) hx_97 ht_98, hk_99, rfl⟩⟩, rfl, j_86⟩
        · skip
          refine aw_eqi (y := (nI d_102)) e_107 ?_
          obtain ⟨hb_106a, hb_106b, hb_106c⟩ := hb_106
          refine aw_istore (ls' := [some (.ref (b + p)), some (.int (nI d_19)), some (.int (hd g n a_18)), some (.int (nI (a_18 + 1))), some (.int (nI d_102))]) dX8_readAcquaintance_64 (Nat.le_of_ble_eq_true rfl) rfl ?_
          refine aw_iload dX8_readAcquaintance_66 rfl ?_
          refine aw_if_ge (tgt := 73) dX8_readAcquaintance_68 (by decide) (fun c_110 => ?_) (fun c_110 => ?_)
          rotate_left
          · have nc_110 : ¬ (0 ≤ d_102) := fun z => c_110 ((nI_leI (a := 0) (b := d_102) (by omega) (by omega)).mpr z)
            omega
          have nc_110 : 0 ≤ d_102 := (nI_leI (a := 0) (b := d_102) (by omega) (by omega)).mp c_110
          refine aw_iload_n dX8_readAcquaintance_73 rfl ?_
          refine aw_iload dX8_readAcquaintance_74 rfl ?_
          refine aw_icmp_ne (tgt := 90) dX8_readAcquaintance_76 (by decide) (fun c_111 => ?_) (fun c_111 => ?_)
          · skip
            have nc_111 : ¬ (d_19 = d_102) := fun z => c_111 ((nI_eq (a := d_19) (b := d_102) (by omega) (by omega)).mpr z)
            refine aw_aload_n dX8_readAcquaintance_90 rfl ?_
            refine aw_get dX8_readAcquaintance_91 fl_X8_9 ((j_86.2.1 _ hp.1 hp.2).trans hR) (by omega) rfl ?_
            refine aw_iload_n dX8_readAcquaintance_94 rfl ?_
            refine aw_iload dX8_readAcquaintance_95 rfl ?_
            refine aw_iload_n dX8_readAcquaintance_97 rfl ?_
            refine aw_bipush (v := 38) dX8_readAcquaintance_98 (by decide) ?_
            refine aw_icmp_ne (tgt := 107) dX8_readAcquaintance_100 (by decide) (fun c_112 => ?_) (fun c_112 => ?_)
            rotate_left
            · first | exact absurd c_35 c_112 | exact absurd c_112 c_35
            refine aw_iconst (v := 0) dX8_readAcquaintance_107 (by decide) ?_
            obtain ⟨pe_117, dd_117, ni_117, xx_117, e_117⟩ := JW.get j_86 (ctc_0 hc)
            refine aw_callVv (J' := jX0_acquaint) (As := [.int (nI d_19), .int (nI d_102), .int 0]) (st := []) dX8_readAcquaintance_108 tb_573 ok_X0_acquaint ⟨_, e_117⟩ (by omega) rfl rfl (g_X0_acquaintS l D b N V_87 hN j_86.1 c hc (nI d_19) (nI d_102) 0 s.2 ((congrArg (fun z => rs (fI z)) (JW.same q_84 (by omega) (fun k => (nfc (by omega) (nfc (by omega) nf0))))).trans ((congrArg (fun z => rs (fI z)) (k_83 _ (by omega))).trans ((congrArg (fun z => rs (fI z)) (JW.same q_1 (by omega) (fun k => (nfc (by omega) (nfc (by omega) nf0))))).trans hK))) d_19 d_102 (by omega) (by omega) rfl rfl) rfl (Nat.le_of_ble_eq_true rfl) ⟨Nat.le_of_ble_eq_true rfl, Nat.le_of_ble_eq_true rfl, Nat.le_of_ble_eq_true rfl, Nat.le_of_ble_eq_true rfl⟩ (fun  N_118 V_116 q_119 => ?_)
            obtain ⟨h_114, rfl, q_113⟩ := q_119
            have j_115 := JW.trans j_86 (JW.weak q_113 (Sub.cons (LMs (LMs LM0)) (by omega) (by omega) (by decide) (Or.inl rfl) Sub.nil))
            refine aw_iconst (v := 1) dX8_readAcquaintance_111 (by decide) ?_
            refine aw_zreti dX8_readAcquaintance_112 rfl (by first | exact Or.inl rfl | exact Or.inr rfl | assumption) (Nat.le_of_ble_eq_true rfl) (Nat.le_of_ble_eq_true rfl) ?_
            exact ⟨⟨(by first | exact Or.inl rfl | exact Or.inr rfl | assumption), Or.inr ⟨_, _, ac_dn hx_20 ht_21 c_82 hx_103 ht_104 (by omega), ((JW.fI q_113 (by omega) (nfc (by omega) nf0)).trans hk_105), ((JW.fI q_113 (by omega) (nfc (by omega) nf0)).trans ((JW.fI q_84 (by omega) (nfc (by omega) (nfc (by omega) nf0))).trans (KA (s := 3) (x := .int (nI (a_18 + 1))) e_30 rfl (by decide) e_83 k_83 ((JW.fI q_1 (by omega) (nfc (by omega) (nfc (by omega) nf0))).trans hD)))), (h_114.1 rfl), ⟨by omega, by omega⟩, rfl⟩⟩, rfl, j_115⟩
          · skip
            have nc_111 : d_19 = d_102 := (nI_eq (a := d_19) (b := d_102) (by omega) (by omega)).mp c_111
            refine aw_aload_n dX8_readAcquaintance_79 rfl ?_
            refine aw_get dX8_readAcquaintance_80 fl_X8_21 ((j_86.2.1 _ hp.1 hp.2).trans hR) (by omega) rfl ?_
            refine aw_bipush (v := 6) dX8_readAcquaintance_83 (by decide) ?_
            refine aw_iload_n dX8_readAcquaintance_85 rfl ?_
            obtain ⟨ts_125, tn_125, tf_125, ta_125, e_125, hta_125⟩ := JW.get j_86 ct_1
            refine aw_callVi (J' := jX10_fail) (As := [.int 6, .int (nI (a_18 + 1))]) (st := []) dX8_readAcquaintance_86 tb_540 ok_X10_fail ⟨_, e_125⟩ (by omega) rfl rfl (g_X10_failS l D b N V_87 hN j_86.1 6 (nI (a_18 + 1))) rfl (Nat.le_of_ble_eq_true rfl) ⟨Nat.le_of_ble_eq_true rfl, Nat.le_of_ble_eq_true rfl, Nat.le_of_ble_eq_true rfl, Nat.le_of_ble_eq_true rfl⟩ (fun r_126 N_127 V_124 q_128 => ?_)
            obtain ⟨⟨z_122, h_121⟩, rfl, q_120⟩ := q_128
            have j_123 := JW.trans j_86 (JW.weak q_120 (Sub.cons (LMs LM0) (by decide) (by decide) (by decide) (Or.inr ⟨by decide, by decide⟩) Sub.nil))
            obtain ⟨rfl, h_121f⟩ := h_121
            refine aw_zreti dX8_readAcquaintance_89 rfl (by first | exact Or.inl rfl | exact Or.inr rfl | assumption) (Nat.le_of_ble_eq_true rfl) (Nat.le_of_ble_eq_true rfl) ?_
            exact ⟨⟨(by first | exact Or.inl rfl | exact Or.inr rfl | assumption), Or.inl ⟨_, ac_6 hx_20 ht_21 (Or.inr c_82) hx_103 ht_104 (by omega), h_121f, rfl⟩⟩, rfl, j_123⟩
      · skip
        refine aw_aload_n dX8_readAcquaintance_31 rfl ?_
        refine aw_get dX8_readAcquaintance_32 fl_X8_21 ((j_3.2.1 _ hp.1 hp.2).trans hR) (by omega) rfl ?_
        refine aw_callVi (J' := jX10_cannotStand) (As := []) (st := []) dX8_readAcquaintance_35 tb_556 ok_X10_cannotStand ⟨_, e_30⟩ (by omega) rfl rfl (g_X10_cannotStandS l D b N V_4 hN j_3.1 g ((JW.same q_1 (by decide) (fun k => (nfc (by omega) (nfc (by omega) nf0)))).trans hg) n a_18 ⟨by omega, by omega⟩ ((JW.fI q_1 (by omega) (nfc (by omega) (nfc (by omega) nf0))).trans hE) hk_22) rfl (Nat.le_of_ble_eq_true rfl) ⟨Nat.le_of_ble_eq_true rfl, Nat.le_of_ble_eq_true rfl, Nat.le_of_ble_eq_true rfl, Nat.le_of_ble_eq_true rfl⟩ (fun r_134 N_135 V_133 q_136 => ?_)
        obtain ⟨⟨z_131, h_130⟩, rfl, q_129⟩ := q_136
        have j_132 := JW.trans j_3 (JW.weak q_129 (Sub.cons (LMs LM0) (by decide) (by decide) (by decide) (Or.inr ⟨by decide, by decide⟩) Sub.nil))
        obtain ⟨rfl, h_130f⟩ := h_130
        refine aw_zreti dX8_readAcquaintance_38 rfl (by first | exact Or.inl rfl | exact Or.inr rfl | assumption) (Nat.le_of_ble_eq_true rfl) (Nat.le_of_ble_eq_true rfl) ?_
        exact ⟨⟨(by first | exact Or.inl rfl | exact Or.inr rfl | assumption), Or.inl ⟨_, ac_s hx_20 ht_21 (fun z => z.elim c_35 c_82), h_130f, rfl⟩⟩, rfl, j_132⟩

set_option maxHeartbeats 4000000 in
set_option maxRecDepth 100000 in
theorem g_X8_readLockS (l : Launch) (D : va_G) (b : Nat) (N : Nat) (V : Wd) (hN : 100 ≤ N) (hW : CW D b V) (p c : Nat) (hp : 100 ≤ p ∧ p < N) (hc : c = 3 ∨ c = 21 ∨ c = 39 ∨ c = 74) (hR : V p = cO 7 [.ref (b + 1), .ref (b + c)]) (n0 : Int32) (g : Nat → Int32) (hg : V 2 = cI D 260 g) (n a : Nat) (hna : a ≤ n ∧ n ≤ 240) (hE : fI (V 1) 2 = nI n) (hA : fI (V 1) 3 = nI a) (D8 : Int32) (hD : fI (V c) 6 = D8) (d9 : Nat) (hd9 : d9 < 16) (e09 : n0 = nI d9) : MI l D b 2 jX8_readLock [.ref (b + p), .int n0] N V 0 0 (fun r N9 V9 => ((r = 0 ∨ r = 1) ∧ ((isLt (hd g n a) = false ∧ fI (V9 1) 4 = flt 1 a ∧ r = 0) ∨ (∃ f, isLt (hd g n a) = true ∧ num g n 2 (a + 1) = .inl f ∧ fI (V9 1) 4 = f ∧ r = 0) ∨ (∃ a9 v9, isLt (hd g n a) = true ∧ num g n 2 (a + 1) = .inr (a9, v9) ∧ fI (V9 1) 3 = nI a9 ∧ fI (V9 c) 6 = D8 ||| (1 : Int32) <<< (nI d9 &&& 31) ∧ (a < a9 ∧ a9 ≤ n) ∧ r = 1))) ∧ N = N9 ∧ JW D b N [(1, 1, 3, 3), (1, 1, 4, 4), (c, c, 6, 6), (c + 15, c + 15, 0, 1000000), (c + 16, c + 16, 0, 1000000), (c + 17, c + 17, 0, 1000000)] V V9) := by
  subst e09
  have hJ0 : JW D b N [(1, 1, 3, 3), (1, 1, 4, 4), (c, c, 6, 6), (c + 15, c + 15, 0, 1000000), (c + 16, c + 16, 0, 1000000), (c + 17, c + 17, 0, 1000000)] V V := JW.rf hW
  refine mw_of (by decide) (by simp [Value.category]) (Nat.le_of_ble_eq_true rfl) ?_
  show AW l D b jX8_readLock (fx_rm 2 0 0) none (fx_MQ D b 0 0 (fx_qi (fun r N9 V9 => ((r = 0 ∨ r = 1) ∧ ((isLt (hd g n a) = false ∧ fI (V9 1) 4 = flt 1 a ∧ r = 0) ∨ (∃ f, isLt (hd g n a) = true ∧ num g n 2 (a + 1) = .inl f ∧ fI (V9 1) 4 = f ∧ r = 0) ∨ (∃ a9 v9, isLt (hd g n a) = true ∧ num g n 2 (a + 1) = .inr (a9, v9) ∧ fI (V9 1) 3 = nI a9 ∧ fI (V9 c) 6 = D8 ||| (1 : Int32) <<< (nI d9 &&& 31) ∧ (a < a9 ∧ a9 ≤ n) ∧ r = 1))) ∧ N = N9 ∧ JW D b N [(1, 1, 3, 3), (1, 1, 4, 4), (c, c, 6, 6), (c + 15, c + 15, 0, 1000000), (c + 16, c + 16, 0, 1000000), (c + 17, c + 17, 0, 1000000)] V V9))) 0 [some (.ref (b + p)), some (.int (nI d9)), none, none] [] N V 0 0
  refine aw_aload_n dX8_readLock_0 rfl ?_
  refine aw_get dX8_readLock_1 fl_X8_21 ((hJ0.2.1 _ hp.1 hp.2).trans hR) (by omega) rfl ?_
  obtain ⟨ts_3, tn_3, tf_3, ta_3, e_3, hta_3⟩ := JW.get hJ0 ct_1
  refine aw_callVi (J' := jX10_now) (As := []) (st := []) dX8_readLock_4 tb_533 ok_X10_now ⟨_, e_3⟩ (by omega) rfl rfl (g_X10_nowS l D b N V hN hJ0.1 g hg n a ⟨by omega, by omega⟩ hE hA) rfl (Nat.le_of_ble_eq_true rfl) ⟨Nat.le_of_ble_eq_true rfl, Nat.le_of_ble_eq_true rfl, Nat.le_of_ble_eq_true rfl, Nat.le_of_ble_eq_true rfl⟩ (fun r_4 N_5 V_6 q_7 => ?_)
  obtain ⟨h_2, rfl, rfl⟩ := q_7
  refine aw_eqi (y := (hd g n a)) h_2 ?_
  refine aw_istore_n (ls' := [some (.ref (b + p)), some (.int (nI d9)), some (.int (hd g n a)), none]) dX8_readLock_7 (Nat.le_of_ble_eq_true rfl) rfl ?_
  refine aw_iload_n dX8_readLock_8 rfl ?_
  refine aw_callSi (J' := jX10_isFear) (As := [.int (hd g n a)]) (st := []) dX8_readLock_9 tb_555 ok_X10_isFear rfl (g_X10_isFearS l D b N V hN hJ0.1 (hd g n a)) rfl (Nat.le_of_ble_eq_true rfl) ⟨Nat.le_of_ble_eq_true rfl, Nat.le_of_ble_eq_true rfl, Nat.le_of_ble_eq_true rfl, Nat.le_of_ble_eq_true rfl⟩ (fun r_11 N_12 V_13 q_14 => ?_)
  obtain ⟨⟨z_10, h_9⟩, rfl, rfl⟩ := q_14
  rcases h_9 with ⟨hy_15, e_16⟩ | ⟨hn_17, e_18⟩
  · skip
    refine aw_eqi (y := 1) e_16 ?_
    have hlhy_15 := isLt_hd hy_15
    refine aw_if_ne (tgt := 23) dX8_readLock_12 (by decide) (fun c_19 => ?_) (fun c_19 => ?_)
    rotate_left
    · exact absurd c_19 (by decide)
    refine aw_aload_n dX8_readLock_23 rfl ?_
    refine aw_get dX8_readLock_24 fl_X8_21 ((hJ0.2.1 _ hp.1 hp.2).trans hR) (by omega) rfl ?_
    refine aw_dup dX8_readLock_27 rfl ?_
    refine aw_get dX8_readLock_28 fl_X8_42 e_3 (by omega) rfl ?_
    refine aw_eqi (y := (nI a)) ((Eq.symm (congrArg (fun z => fI z 3) e_3)).trans hA) ?_
    refine aw_iconst (v := 1) dX8_readLock_31 (by decide) ?_
    refine aw_iadd dX8_readLock_32 ?_
    refine aw_eqi (y := nI (a + 1)) (nI_add _ _) ?_
    refine aw_put dX8_readLock_33 fp_X8_42 e_3 (by omega) rfl rfl (Nat.le_of_ble_eq_true rfl) rfl ?_
    refine aw_up hJ0 ct_1 ⟨_, _, _, (a + 1), rfl, (by first | omega | (split <;> omega))⟩ (WO (s := 3) (x := .int (nI (a + 1))) e_3 rfl LM0 (by decide) (by decide) (by decide) (Or.inl (by decide))) (fun V_20 j_20 k_20 e_20 => ?_)
    refine aw_aload_n dX8_readLock_36 rfl ?_
    refine aw_get dX8_readLock_37 fl_X8_21 ((j_20.2.1 _ hp.1 hp.2).trans hR) (by omega) rfl ?_
    refine aw_iconst (v := 2) dX8_readLock_40 (by decide) ?_
    refine aw_callVi (J' := jX10_readNumber) (As := [.int 2]) (st := []) dX8_readLock_41 tb_539 ok_X10_readNumber ⟨_, e_20⟩ (by omega) rfl rfl (g_X10_readNumber_2S l D b N V_20 hN j_20.1 g ((k_20 _ (by decide)).trans hg) n (a + 1) ⟨by omega, by omega⟩ (KA (s := 3) (x := .int (nI (a + 1))) e_3 rfl (by decide) e_20 k_20 hE) ((congrArg (fun z => fI z 3) e_20).trans rfl)) rfl (Nat.le_of_ble_eq_true rfl) ⟨Nat.le_of_ble_eq_true rfl, Nat.le_of_ble_eq_true rfl, Nat.le_of_ble_eq_true rfl, Nat.le_of_ble_eq_true rfl⟩ (fun r_25 N_26 V_24 q_27 => ?_)
    obtain ⟨h_22, rfl, q_21⟩ := q_27
    have j_23 := JW.trans j_20 (JW.weak q_21 (Sub.cons LM0 (by decide) (by decide) (by decide) (Or.inr ⟨by decide, by decide⟩) (Sub.cons (LMs LM0) (by decide) (by decide) (by decide) (Or.inr ⟨by decide, by decide⟩) Sub.nil)))
    rcases h_22 with ⟨f_28, hx_29, hk_30, e_31⟩ | ⟨a_32, v_33, hx_34, hk_35, hb_36, e_37⟩
    · skip
      refine aw_eqi (y := (-1)) e_31 ?_
      refine aw_istore_n (ls' := [some (.ref (b + p)), some (.int (nI d9)), some (.int (hd g n a)), some (.int (-1))]) dX8_readLock_44 (Nat.le_of_ble_eq_true rfl) rfl ?_
      refine aw_iload_n dX8_readLock_45 rfl ?_
      refine aw_if_ge (tgt := 51) dX8_readLock_46 (by decide) (fun c_38 => ?_) (fun c_38 => ?_)
      · exact absurd c_38 (by decide)
      refine aw_iconst (v := 0) dX8_readLock_49 (by decide) ?_
      refine aw_zreti dX8_readLock_50 rfl (by first | exact Or.inl rfl | exact Or.inr rfl | assumption) (Nat.le_of_ble_eq_true rfl) (Nat.le_of_ble_eq_true rfl) ?_
      exact ⟨⟨(by first | exact Or.inl rfl | exact Or.inr rfl | assumption), Or.inr (Or.inl ⟨_, hy_15, hx_29, hk_30, rfl⟩)⟩, rfl, j_23⟩
    · skip
      refine aw_eqi (y := (nI v_33)) e_37 ?_
      obtain ⟨hb_36a, hb_36b, hb_36c⟩ := hb_36
      refine aw_istore_n (ls' := [some (.ref (b + p)), some (.int (nI d9)), some (.int (hd g n a)), some (.int (nI v_33))]) dX8_readLock_44 (Nat.le_of_ble_eq_true rfl) rfl ?_
      refine aw_iload_n dX8_readLock_45 rfl ?_
      refine aw_if_ge (tgt := 51) dX8_readLock_46 (by decide) (fun c_39 => ?_) (fun c_39 => ?_)
      rotate_left
      · have nc_39 : ¬ (0 ≤ v_33) := fun z => c_39 ((nI_leI (a := 0) (b := v_33) (by omega) (by omega)).mpr z)
        omega
      have nc_39 : 0 ≤ v_33 := (nI_leI (a := 0) (b := v_33) (by omega) (by omega)).mp c_39
      refine aw_aload_n dX8_readLock_51 rfl ?_
      refine aw_get dX8_readLock_52 fl_X8_9 ((j_23.2.1 _ hp.1 hp.2).trans hR) (by omega) rfl ?_
      refine aw_iload_n dX8_readLock_55 rfl ?_
      refine aw_iload_n dX8_readLock_56 rfl ?_
      refine aw_bipush (v := 97) dX8_readLock_57 (by decide) ?_
      refine aw_isub dX8_readLock_59 ?_
      refine aw_iload_n dX8_readLock_60 rfl ?_
      obtain ⟨pe_44, dd_44, ni_44, xx_44, e_44⟩ := JW.get j_23 (ctc_0 hc)
      refine aw_callVv (J' := jX0_tellDoor) (As := [.int (nI d9), .int ((hd g n a) - 97), .int (nI v_33)]) (st := []) dX8_readLock_61 tb_557 ok_X0_tellDoor ⟨_, e_44⟩ (by omega) rfl rfl (g_X0_tellDoorS l D b N V_24 hN j_23.1 c hc (nI d9) ((hd g n a) - 97) (nI v_33) D8 ((JW.fI q_21 (by omega) (nfc (by omega) (nfc (by omega) nf0))).trans (KA (s := 3) (x := .int (nI (a + 1))) e_3 rfl (by decide) e_20 k_20 hD)) d9 (by omega) rfl) rfl (Nat.le_of_ble_eq_true rfl) ⟨Nat.le_of_ble_eq_true rfl, Nat.le_of_ble_eq_true rfl, Nat.le_of_ble_eq_true rfl, Nat.le_of_ble_eq_true rfl⟩ (fun  N_45 V_43 q_46 => ?_)
      obtain ⟨h_41, rfl, q_40⟩ := q_46
      have j_42 := JW.trans j_23 (JW.weak q_40 (Sub.cons (LMs (LMs LM0)) (by omega) (by omega) (by decide) (Or.inr ⟨by decide, by decide⟩) (Sub.cons (LMs (LMs (LMs LM0))) (by omega) (by omega) (by decide) (Or.inl rfl) (Sub.cons (LMs (LMs (LMs (LMs LM0)))) (by omega) (by omega) (by decide) (Or.inl rfl) (Sub.cons (LMs (LMs (LMs (LMs (LMs LM0))))) (by omega) (by omega) (by decide) (Or.inl rfl) Sub.nil)))))
      refine aw_iconst (v := 1) dX8_readLock_64 (by decide) ?_
      refine aw_zreti dX8_readLock_65 rfl (by first | exact Or.inl rfl | exact Or.inr rfl | assumption) (Nat.le_of_ble_eq_true rfl) (Nat.le_of_ble_eq_true rfl) ?_
      exact ⟨⟨(by first | exact Or.inl rfl | exact Or.inr rfl | assumption), Or.inr (Or.inr ⟨_, _, hy_15, hx_34, ((JW.fI q_40 (by omega) (nfc (by omega) (nfc (by omega) (nfc (by omega) (nfc (by omega) nf0))))).trans hk_35), h_41, ⟨by omega, by omega⟩, rfl⟩)⟩, rfl, j_42⟩
  · skip
    refine aw_eqi (y := 0) e_18 ?_
    refine aw_if_ne (tgt := 23) dX8_readLock_12 (by decide) (fun c_47 => ?_) (fun c_47 => ?_)
    · exact absurd rfl c_47
    refine aw_aload_n dX8_readLock_15 rfl ?_
    refine aw_get dX8_readLock_16 fl_X8_21 ((hJ0.2.1 _ hp.1 hp.2).trans hR) (by omega) rfl ?_
    refine aw_callVi (J' := jX10_cannotStand) (As := []) (st := []) dX8_readLock_19 tb_556 ok_X10_cannotStand ⟨_, e_3⟩ (by omega) rfl rfl (g_X10_cannotStandS l D b N V hN hJ0.1 g hg n a ⟨by omega, by omega⟩ hE hA) rfl (Nat.le_of_ble_eq_true rfl) ⟨Nat.le_of_ble_eq_true rfl, Nat.le_of_ble_eq_true rfl, Nat.le_of_ble_eq_true rfl, Nat.le_of_ble_eq_true rfl⟩ (fun r_53 N_54 V_52 q_55 => ?_)
    obtain ⟨⟨z_50, h_49⟩, rfl, q_48⟩ := q_55
    have j_51 := JW.trans hJ0 (JW.weak q_48 (Sub.cons (LMs LM0) (by decide) (by decide) (by decide) (Or.inr ⟨by decide, by decide⟩) Sub.nil))
    obtain ⟨rfl, h_49f⟩ := h_49
    refine aw_zreti dX8_readLock_22 rfl (by first | exact Or.inl rfl | exact Or.inr rfl | assumption) (Nat.le_of_ble_eq_true rfl) (Nat.le_of_ble_eq_true rfl) ?_
    exact ⟨⟨(by first | exact Or.inl rfl | exact Or.inr rfl | assumption), Or.inl ⟨hn_17, h_49f, rfl⟩⟩, rfl, j_51⟩

set_option maxHeartbeats 20000000 in
set_option maxRecDepth 100000 in
theorem g_X8_readDoorS (l : Launch) (D : va_G) (b : Nat) (N : Nat) (V : Wd) (hN : 100 ≤ N) (hW : CW D b V) (p c : Nat) (hp : 100 ≤ p ∧ p < N) (hc : c = 3 ∨ c = 21 ∨ c = 39 ∨ c = 74) (hR : V p = cO 7 [.ref (b + 1), .ref (b + c)]) (g : Nat → Int32) (hg : V 2 = cI D 260 g) (n a : Nat) (hna : a ≤ n ∧ n ≤ 240) (hE : fI (V 1) 2 = nI n) (hA : fI (V 1) 3 = nI a) (P : Int32) (hP : fI (V c) 5 = P) (s : OS) (hD : fI (V c) 6 = s.1) (hK : rs (fI (V (c + 14))) = s.2) (h100 : hd g n a = 100) : MI l D b 3 jX8_readDoor [.ref (b + p)] N V 0 0 (fun r N9 V9 => ((r = 0 ∨ r = 1) ∧ ((∃ f, lnDr g n (a + 1) s = .inl f ∧ fI (V9 1) 4 = f ∧ r = 0) ∨ (∃ a9 s9, lnDr g n (a + 1) s = .inr (a9, s9) ∧ fI (V9 1) 3 = nI a9 ∧ fI (V9 c) 6 = s9.1 ∧ rs (fI (V9 (c + 14))) = s9.2 ∧ (a < a9 ∧ a9 ≤ n) ∧ r = 1))) ∧ N = N9 ∧ JW D b N [(1, 1, 3, 3), (1, 1, 4, 4), (c, c, 6, 6), (c + 15, c + 15, 0, 1000000), (c + 16, c + 16, 0, 1000000), (c + 17, c + 17, 0, 1000000)] V V9) := by
  have hJ0 : JW D b N [(1, 1, 3, 3), (1, 1, 4, 4), (c, c, 6, 6), (c + 15, c + 15, 0, 1000000), (c + 16, c + 16, 0, 1000000), (c + 17, c + 17, 0, 1000000)] V V := JW.rf hW
  refine mw_of (by decide) (by simp [Value.category]) (Nat.le_of_ble_eq_true rfl) ?_
  show AW l D b jX8_readDoor (fx_rm 3 0 0) none (fx_MQ D b 0 0 (fx_qi (fun r N9 V9 => ((r = 0 ∨ r = 1) ∧ ((∃ f, lnDr g n (a + 1) s = .inl f ∧ fI (V9 1) 4 = f ∧ r = 0) ∨ (∃ a9 s9, lnDr g n (a + 1) s = .inr (a9, s9) ∧ fI (V9 1) 3 = nI a9 ∧ fI (V9 c) 6 = s9.1 ∧ rs (fI (V9 (c + 14))) = s9.2 ∧ (a < a9 ∧ a9 ≤ n) ∧ r = 1))) ∧ N = N9 ∧ JW D b N [(1, 1, 3, 3), (1, 1, 4, 4), (c, c, 6, 6), (c + 15, c + 15, 0, 1000000), (c + 16, c + 16, 0, 1000000), (c + 17, c + 17, 0, 1000000)] V V9))) 0 [some (.ref (b + p)), none, none] [] N V 0 0
  have hl100 := hd_lit h100 (by decide)
  refine aw_aload_n dX8_readDoor_0 rfl ?_
  refine aw_get dX8_readDoor_1 fl_X8_21 ((hJ0.2.1 _ hp.1 hp.2).trans hR) (by omega) rfl ?_
  refine aw_dup dX8_readDoor_4 rfl ?_
  obtain ⟨ts_1, tn_1, tf_1, ta_1, e_1, hta_1⟩ := JW.get hJ0 ct_1
  refine aw_get dX8_readDoor_5 fl_X8_42 e_1 (by omega) rfl ?_
  refine aw_eqi (y := (nI a)) ((Eq.symm (congrArg (fun z => fI z 3) e_1)).trans hA) ?_
  refine aw_iconst (v := 1) dX8_readDoor_8 (by decide) ?_
  refine aw_iadd dX8_readDoor_9 ?_
  refine aw_eqi (y := nI (a + 1)) (nI_add _ _) ?_
  refine aw_put dX8_readDoor_10 fp_X8_42 e_1 (by omega) rfl rfl (Nat.le_of_ble_eq_true rfl) rfl ?_
  refine aw_up hJ0 ct_1 ⟨_, _, _, (a + 1), rfl, (by first | omega | (split <;> omega))⟩ (WO (s := 3) (x := .int (nI (a + 1))) e_1 rfl LM0 (by decide) (by decide) (by decide) (Or.inl (by decide))) (fun V_2 j_2 k_2 e_2 => ?_)
  refine aw_aload_n dX8_readDoor_13 rfl ?_
  refine aw_get dX8_readDoor_14 fl_X8_21 ((j_2.2.1 _ hp.1 hp.2).trans hR) (by omega) rfl ?_
  refine aw_get dX8_readDoor_17 fl_X8_42 e_2 (by omega) rfl ?_
  refine aw_istore_n (ls' := [some (.ref (b + p)), some (.int (nI (a + 1))), none]) dX8_readDoor_20 (Nat.le_of_ble_eq_true rfl) rfl ?_
  refine aw_aload_n dX8_readDoor_21 rfl ?_
  refine aw_get dX8_readDoor_22 fl_X8_21 ((j_2.2.1 _ hp.1 hp.2).trans hR) (by omega) rfl ?_
  refine aw_iconst (v := 2) dX8_readDoor_25 (by decide) ?_
  refine aw_callVi (J' := jX10_readNumber) (As := [.int 2]) (st := []) dX8_readDoor_26 tb_539 ok_X10_readNumber ⟨_, e_2⟩ (by omega) rfl rfl (g_X10_readNumber_2S l D b N V_2 hN j_2.1 g ((k_2 _ (by decide)).trans hg) n (a + 1) ⟨by omega, by omega⟩ (KA (s := 3) (x := .int (nI (a + 1))) e_1 rfl (by decide) e_2 k_2 hE) ((congrArg (fun z => fI z 3) e_2).trans rfl)) rfl (Nat.le_of_ble_eq_true rfl) ⟨Nat.le_of_ble_eq_true rfl, Nat.le_of_ble_eq_true rfl, Nat.le_of_ble_eq_true rfl, Nat.le_of_ble_eq_true rfl⟩ (fun r_7 N_8 V_6 q_9 => ?_)
  obtain ⟨h_4, rfl, q_3⟩ := q_9
  have j_5 := JW.trans j_2 (JW.weak q_3 (Sub.cons LM0 (by decide) (by decide) (by decide) (Or.inr ⟨by decide, by decide⟩) (Sub.cons (LMs LM0) (by decide) (by decide) (by decide) (Or.inr ⟨by decide, by decide⟩) Sub.nil)))
  rcases h_4 with ⟨f_10, hx_11, hk_12, e_13⟩ | ⟨a_14, v_15, hx_16, hk_17, hb_18, e_19⟩
  · skip
    refine aw_eqi (y := (-1)) e_13 ?_
    refine aw_istore_n (ls' := [some (.ref (b + p)), some (.int (nI (a + 1))), some (.int (-1))]) dX8_readDoor_29 (Nat.le_of_ble_eq_true rfl) rfl ?_
    refine aw_iload_n dX8_readDoor_30 rfl ?_
    refine aw_if_ge (tgt := 36) dX8_readDoor_31 (by decide) (fun c_20 => ?_) (fun c_20 => ?_)
    · exact absurd c_20 (by decide)
    refine aw_iconst (v := 0) dX8_readDoor_34 (by decide) ?_
    refine aw_zreti dX8_readDoor_35 rfl (by first | exact Or.inl rfl | exact Or.inr rfl | assumption) (Nat.le_of_ble_eq_true rfl) (Nat.le_of_ble_eq_true rfl) ?_
    exact ⟨⟨(by first | exact Or.inl rfl | exact Or.inr rfl | assumption), Or.inl ⟨_, dr_n hx_11, hk_12, rfl⟩⟩, rfl, j_5⟩
  · skip
    refine aw_eqi (y := (nI v_15)) e_19 ?_
    obtain ⟨hb_18a, hb_18b, hb_18c⟩ := hb_18
    refine aw_istore_n (ls' := [some (.ref (b + p)), some (.int (nI (a + 1))), some (.int (nI v_15))]) dX8_readDoor_29 (Nat.le_of_ble_eq_true rfl) rfl ?_
    refine aw_iload_n dX8_readDoor_30 rfl ?_
    refine aw_if_ge (tgt := 36) dX8_readDoor_31 (by decide) (fun c_21 => ?_) (fun c_21 => ?_)
    rotate_left
    · have nc_21 : ¬ (0 ≤ v_15) := fun z => c_21 ((nI_leI (a := 0) (b := v_15) (by omega) (by omega)).mpr z)
      omega
    have nc_21 : 0 ≤ v_15 := (nI_leI (a := 0) (b := v_15) (by omega) (by omega)).mp c_21
    refine aw_iload_n dX8_readDoor_36 rfl ?_
    refine aw_bipush (v := 16) dX8_readDoor_37 (by decide) ?_
    refine aw_icmp_lt (tgt := 52) dX8_readDoor_39 (by decide) (fun c_22 => ?_) (fun c_22 => ?_)
    · skip
      have nc_22 : v_15 < 16 := (nI_ltI (a := v_15) (b := 16) (by omega) (by omega)).mp c_22
      refine aw_aload_n dX8_readDoor_52 rfl ?_
      refine aw_get dX8_readDoor_53 fl_X8_21 ((j_5.2.1 _ hp.1 hp.2).trans hR) (by omega) rfl ?_
      obtain ⟨ts_25, tn_25, tf_25, ta_25, e_25, hta_25⟩ := JW.get j_5 ct_1
      refine aw_callVi (J' := jX10_now) (As := []) (st := []) dX8_readDoor_56 tb_533 ok_X10_now ⟨_, e_25⟩ (by omega) rfl rfl (g_X10_nowS l D b N V_6 hN j_5.1 g ((JW.same q_3 (by decide) (fun k => (nfc (by omega) (nfc (by omega) nf0)))).trans ((k_2 _ (by decide)).trans hg)) n a_14 ⟨by omega, by omega⟩ ((JW.fI q_3 (by omega) (nfc (by omega) (nfc (by omega) nf0))).trans (KA (s := 3) (x := .int (nI (a + 1))) e_1 rfl (by decide) e_2 k_2 hE)) hk_17) rfl (Nat.le_of_ble_eq_true rfl) ⟨Nat.le_of_ble_eq_true rfl, Nat.le_of_ble_eq_true rfl, Nat.le_of_ble_eq_true rfl, Nat.le_of_ble_eq_true rfl⟩ (fun r_26 N_27 V_28 q_29 => ?_)
      obtain ⟨h_24, rfl, rfl⟩ := q_29
      refine aw_eqi (y := (hd g n a_14)) h_24 ?_
      refine aw_bipush (v := 33) dX8_readDoor_59 (by decide) ?_
      refine aw_icmp_ne (tgt := 109) dX8_readDoor_61 (by decide) (fun c_30 => ?_) (fun c_30 => ?_)
      · skip
        refine aw_aload_n dX8_readDoor_109 rfl ?_
        refine aw_get dX8_readDoor_110 fl_X8_21 ((j_5.2.1 _ hp.1 hp.2).trans hR) (by omega) rfl ?_
        refine aw_bipush (v := 58) dX8_readDoor_113 (by decide) ?_
        refine aw_callVi (J' := jX10_expect) (As := [.int 58]) (st := []) dX8_readDoor_115 tb_550 ok_X10_expect ⟨_, e_25⟩ (by omega) rfl rfl (g_X10_expectS l D b N V_6 hN j_5.1 58 g ((JW.same q_3 (by decide) (fun k => (nfc (by omega) (nfc (by omega) nf0)))).trans ((k_2 _ (by decide)).trans hg)) n a_14 ⟨by omega, by omega⟩ ((JW.fI q_3 (by omega) (nfc (by omega) (nfc (by omega) nf0))).trans (KA (s := 3) (x := .int (nI (a + 1))) e_1 rfl (by decide) e_2 k_2 hE)) hk_17) rfl (Nat.le_of_ble_eq_true rfl) ⟨Nat.le_of_ble_eq_true rfl, Nat.le_of_ble_eq_true rfl, Nat.le_of_ble_eq_true rfl, Nat.le_of_ble_eq_true rfl⟩ (fun r_36 N_37 V_35 q_38 => ?_)
        obtain ⟨⟨z_33, h_32⟩, rfl, q_31⟩ := q_38
        have j_34 := JW.trans j_5 (JW.weak q_31 (Sub.cons LM0 (by decide) (by decide) (by decide) (Or.inr ⟨by decide, by decide⟩) (Sub.cons (LMs LM0) (by decide) (by decide) (by decide) (Or.inr ⟨by decide, by decide⟩) Sub.nil)))
        rcases h_32 with ⟨hy_39, hk_40, e_41⟩ | ⟨hn_42, hk_43, e_44⟩
        · skip
          refine aw_eqi (y := 1) e_41 ?_
          have hlhy_39 := hd_lit hy_39 (by decide)
          refine aw_if_eq (tgt := 133) dX8_readDoor_118 (by decide) (fun c_45 => ?_) (fun c_45 => ?_)
          · exact absurd c_45 (by decide)
          refine aw_aload_n dX8_readDoor_121 rfl ?_
          refine aw_iload_n dX8_readDoor_122 rfl ?_
          refine aw_callVi (J' := jX8_readLock) (As := [.int (nI v_15)]) (st := []) dX8_readDoor_123 tb_551 ok_X8_readLock ⟨_, ((j_34.2.1 _ hp.1 hp.2).trans hR)⟩ (by omega) rfl rfl (g_X8_readLockS l D b N V_35 hN j_34.1 p c ⟨by omega, by omega⟩ hc ((j_34.2.1 _ hp.1 hp.2).trans hR) (nI v_15) g ((JW.same q_31 (by decide) (fun k => (nfc (by omega) (nfc (by omega) nf0)))).trans ((JW.same q_3 (by decide) (fun k => (nfc (by omega) (nfc (by omega) nf0)))).trans ((k_2 _ (by decide)).trans hg))) n (a_14 + 1) ⟨by omega, by omega⟩ ((JW.fI q_31 (by omega) (nfc (by omega) (nfc (by omega) nf0))).trans ((JW.fI q_3 (by omega) (nfc (by omega) (nfc (by omega) nf0))).trans (KA (s := 3) (x := .int (nI (a + 1))) e_1 rfl (by decide) e_2 k_2 hE))) hk_40 s.1 ((JW.fI q_31 (by omega) (nfc (by omega) (nfc (by omega) nf0))).trans ((JW.fI q_3 (by omega) (nfc (by omega) (nfc (by omega) nf0))).trans (KA (s := 3) (x := .int (nI (a + 1))) e_1 rfl (by decide) e_2 k_2 hD))) v_15 (by omega) rfl) rfl (Nat.le_of_ble_eq_true rfl) ⟨Nat.le_of_ble_eq_true rfl, Nat.le_of_ble_eq_true rfl, Nat.le_of_ble_eq_true rfl, Nat.le_of_ble_eq_true rfl⟩ (fun r_51 N_52 V_50 q_53 => ?_)
          obtain ⟨⟨z_48, h_47⟩, rfl, q_46⟩ := q_53
          have j_49 := JW.trans j_34 (JW.weak q_46 (Sub.cons LM0 (by decide) (by decide) (by decide) (Or.inr ⟨by decide, by decide⟩) (Sub.cons (LMs LM0) (by decide) (by decide) (by decide) (Or.inr ⟨by decide, by decide⟩) (Sub.cons (LMs (LMs LM0)) (by omega) (by omega) (by decide) (Or.inr ⟨by decide, by decide⟩) (Sub.cons (LMs (LMs (LMs LM0))) (by omega) (by omega) (by decide) (Or.inl rfl) (Sub.cons (LMs (LMs (LMs (LMs LM0)))) (by omega) (by omega) (by decide) (Or.inl rfl) (Sub.cons (LMs (LMs (LMs (LMs (LMs LM0))))) (by omega) (by omega) (by decide) (Or.inl rfl) Sub.nil)))))))
          rcases h_47 with ⟨hl_54, hk_55, e_56⟩ | ⟨f_57, hl_58, hx_59, hk_60, e_61⟩ | ⟨a_62, v_63, hl_64, hx_65, hk_66, hd_67, hb_68, e_69⟩
          · skip
            refine aw_eqi (y := 0) e_56 ?_
            refine aw_if_eq (tgt := 133) dX8_readDoor_126 (by decide) (fun c_70 => ?_) (fun c_70 => ?_)
            rotate_left
            · exact absurd (by decide) c_70
            refine aw_iconst (v := 0) dX8_readDoor_133 (by decide) ?_
            refine aw_zreti dX8_readDoor_134 rfl (by first | exact Or.inl rfl | exact Or.inr rfl | assumption) (Nat.le_of_ble_eq_true rfl) (Nat.le_of_ble_eq_true rfl) ?_
            exact ⟨⟨(by first | exact Or.inl rfl | exact Or.inr rfl | assumption), Or.inl ⟨_, dr_l hx_16 (by omega) c_30 hy_39 hl_54, hk_55, rfl⟩⟩, rfl, j_49⟩
          · skip
            refine aw_eqi (y := 0) e_61 ?_
            refine aw_if_eq (tgt := 133) dX8_readDoor_126 (by decide) (fun c_71 => ?_) (fun c_71 => ?_)
            rotate_left
            · exact absurd (by decide) c_71
            refine aw_iconst (v := 0) dX8_readDoor_133 (by decide) ?_
            refine aw_zreti dX8_readDoor_134 rfl (by first | exact Or.inl rfl | exact Or.inr rfl | assumption) (Nat.le_of_ble_eq_true rfl) (Nat.le_of_ble_eq_true rfl) ?_
            exact ⟨⟨(by first | exact Or.inl rfl | exact Or.inr rfl | assumption), Or.inl ⟨_, dr_m hx_16 (by omega) c_30 hy_39 hl_58 hx_59, hk_60, rfl⟩⟩, rfl, j_49⟩
          · skip
            refine aw_eqi (y := 1) e_69 ?_
            obtain ⟨hb_68a, hb_68b⟩ := hb_68
            refine aw_if_eq (tgt := 133) dX8_readDoor_126 (by decide) (fun c_72 => ?_) (fun c_72 => ?_)
            · exact absurd c_72 (by decide)
            refine aw_iconst (v := 1) dX8_readDoor_129 (by decide) ?_
            refine aw_goto (tgt := 134) dX8_readDoor_130 (by decide) ?_
            refine aw_zreti dX8_readDoor_134 rfl (by first | exact Or.inl rfl | exact Or.inr rfl | assumption) (Nat.le_of_ble_eq_true rfl) (Nat.le_of_ble_eq_true rfl) ?_
            exact ⟨⟨(by first | exact Or.inl rfl | exact Or.inr rfl | assumption), Or.inr ⟨_, _, dr_ok hx_16 (by omega) c_30 hy_39 hl_64 hx_65, hk_66, hd_67, ((congrArg (fun z => rs (fI z)) (JW.same q_46 (by omega) (fun k => (nfc (by omega) (nfc (by omega) (nfc (by omega) (nfc (by omega) (nfc (by omega) (nfc (by omega) nf0))))))))).trans ((congrArg (fun z => rs (fI z)) (JW.same q_31 (by omega) (fun k => (nfc (by omega) (nfc (by omega) nf0))))).trans ((congrArg (fun z => rs (fI z)) (JW.same q_3 (by omega) (fun k => (nfc (by omega) (nfc (by omega) nf0))))).trans ((congrArg (fun z => rs (fI z)) (k_2 _ (by omega))).trans hK)))), ⟨by omega, by omega⟩, rfl⟩⟩, rfl, j_49⟩
        · skip
          refine aw_eqi (y := 0) e_44 ?_
          refine aw_if_eq (tgt := 133) dX8_readDoor_118 (by decide) (fun c_73 => ?_) (fun c_73 => ?_)
          rotate_left
          · exact absurd (by decide) c_73
          refine aw_iconst (v := 0) dX8_readDoor_133 (by decide) ?_
          refine aw_zreti dX8_readDoor_134 rfl (by first | exact Or.inl rfl | exact Or.inr rfl | assumption) (Nat.le_of_ble_eq_true rfl) (Nat.le_of_ble_eq_true rfl) ?_
          exact ⟨⟨(by first | exact Or.inl rfl | exact Or.inr rfl | assumption), Or.inl ⟨_, dr_c hx_16 (by omega) c_30 hn_42, hk_43, rfl⟩⟩, rfl, j_34⟩
      · skip
        have hlc_30 := hd_lit c_30 (by decide)
        refine aw_aload_n dX8_readDoor_64 rfl ?_
        refine aw_get dX8_readDoor_65 fl_X8_21 ((j_5.2.1 _ hp.1 hp.2).trans hR) (by omega) rfl ?_
        refine aw_dup dX8_readDoor_68 rfl ?_
        refine aw_get dX8_readDoor_69 fl_X8_42 e_25 (by omega) rfl ?_
        refine aw_eqi (y := (nI a_14)) ((Eq.symm (congrArg (fun z => fI z 3) e_25)).trans hk_17) ?_
        refine aw_iconst (v := 1) dX8_readDoor_72 (by decide) ?_
        refine aw_iadd dX8_readDoor_73 ?_
        refine aw_eqi (y := nI (a_14 + 1)) (nI_add _ _) ?_
        refine aw_put dX8_readDoor_74 fp_X8_42 e_25 (by omega) rfl rfl (Nat.le_of_ble_eq_true rfl) rfl ?_
        refine aw_up j_5 ct_1 ⟨_, _, _, (a_14 + 1), rfl, (by first | omega | (split <;> omega))⟩ (WO (s := 3) (x := .int (nI (a_14 + 1))) e_25 rfl LM0 (by decide) (by decide) (by decide) (Or.inl (by decide))) (fun V_74 j_74 k_74 e_74 => ?_)
        refine aw_aload_n dX8_readDoor_77 rfl ?_
        refine aw_get dX8_readDoor_78 fl_X8_9 ((j_74.2.1 _ hp.1 hp.2).trans hR) (by omega) rfl ?_
        refine aw_iload_n dX8_readDoor_81 rfl ?_
        obtain ⟨pe_78, dd_78, ni_78, xx_78, e_78⟩ := JW.get j_74 (ctc_0 hc)
        refine aw_callVi (J' := jX0_isDoor) (As := [.int (nI v_15)]) (st := []) dX8_readDoor_82 tb_541 ok_X0_isDoor ⟨_, e_78⟩ (by omega) rfl rfl (g_X0_isDoorS l D b N V_74 hN j_74.1 c hc (nI v_15) s.1 (KA (s := 3) (x := .int (nI (a_14 + 1))) e_25 rfl (by decide) e_74 k_74 ((JW.fI q_3 (by omega) (nfc (by omega) (nfc (by omega) nf0))).trans (KA (s := 3) (x := .int (nI (a + 1))) e_1 rfl (by decide) e_2 k_2 hD)))) rfl (Nat.le_of_ble_eq_true rfl) ⟨Nat.le_of_ble_eq_true rfl, Nat.le_of_ble_eq_true rfl, Nat.le_of_ble_eq_true rfl, Nat.le_of_ble_eq_true rfl⟩ (fun r_79 N_80 V_81 q_82 => ?_)
        obtain ⟨⟨z_77, h_76⟩, rfl, rfl⟩ := q_82
        rcases h_76 with ⟨hy_83, e_84⟩ | ⟨hn_85, e_86⟩
        · skip
          refine aw_eqi (y := 1) e_84 ?_
          refine aw_if_ne (tgt := 99) dX8_readDoor_85 (by decide) (fun c_87 => ?_) (fun c_87 => ?_)
          rotate_left
          · exact absurd c_87 (by decide)
          refine aw_aload_n dX8_readDoor_99 rfl ?_
          refine aw_get dX8_readDoor_100 fl_X8_9 ((j_74.2.1 _ hp.1 hp.2).trans hR) (by omega) rfl ?_
          refine aw_iload_n dX8_readDoor_103 rfl ?_
          refine aw_callVv (J' := jX0_dropDoor) (As := [.int (nI v_15)]) (st := []) dX8_readDoor_104 tb_546 ok_X0_dropDoor ⟨_, e_78⟩ (by omega) rfl rfl (g_X0_dropDoorS l D b N V_74 hN j_74.1 c hc (nI v_15) s.1 (KA (s := 3) (x := .int (nI (a_14 + 1))) e_25 rfl (by decide) e_74 k_74 ((JW.fI q_3 (by omega) (nfc (by omega) (nfc (by omega) nf0))).trans (KA (s := 3) (x := .int (nI (a + 1))) e_1 rfl (by decide) e_2 k_2 hD))) v_15 (by omega) rfl) rfl (Nat.le_of_ble_eq_true rfl) ⟨Nat.le_of_ble_eq_true rfl, Nat.le_of_ble_eq_true rfl, Nat.le_of_ble_eq_true rfl, Nat.le_of_ble_eq_true rfl⟩ (fun  N_92 V_91 q_93 => ?_)
          obtain ⟨h_89, rfl, q_88⟩ := q_93
          have j_90 := JW.trans j_74 (JW.weak q_88 (Sub.cons (LMs (LMs LM0)) (by omega) (by omega) (by decide) (Or.inr ⟨by decide, by decide⟩) (Sub.cons (LMs (LMs (LMs (LMs (LMs LM0))))) (by omega) (by omega) (by decide) (Or.inl rfl) Sub.nil)))
          refine aw_iconst (v := 1) dX8_readDoor_107 (by decide) ?_
          refine aw_zreti dX8_readDoor_108 rfl (by first | exact Or.inl rfl | exact Or.inr rfl | assumption) (Nat.le_of_ble_eq_true rfl) (Nat.le_of_ble_eq_true rfl) ?_
          exact ⟨⟨(by first | exact Or.inl rfl | exact Or.inr rfl | assumption), Or.inr ⟨_, _, dr_drop hx_16 (by omega) c_30 hy_83, ((JW.fI q_88 (by omega) (nfc (by omega) (nfc (by omega) nf0))).trans ((congrArg (fun z => fI z 3) e_74).trans rfl)), h_89, ((congrArg (fun z => rs (fI z)) (JW.same q_88 (by omega) (fun k => (nfc (by omega) (nfc (by omega) nf0))))).trans ((congrArg (fun z => rs (fI z)) (k_74 _ (by omega))).trans ((congrArg (fun z => rs (fI z)) (JW.same q_3 (by omega) (fun k => (nfc (by omega) (nfc (by omega) nf0))))).trans ((congrArg (fun z => rs (fI z)) (k_2 _ (by omega))).trans hK)))), ⟨by omega, by omega⟩, rfl⟩⟩, rfl, j_90⟩
        · skip
          refine aw_eqi (y := 0) e_86 ?_
          refine aw_if_ne (tgt := 99) dX8_readDoor_85 (by decide) (fun c_94 => ?_) (fun c_94 => ?_)
          · exact absurd rfl c_94
          refine aw_aload_n dX8_readDoor_88 rfl ?_
          refine aw_get dX8_readDoor_89 fl_X8_21 ((j_74.2.1 _ hp.1 hp.2).trans hR) (by omega) rfl ?_
          refine aw_bipush (v := 7) dX8_readDoor_92 (by decide) ?_
          refine aw_iload_n dX8_readDoor_94 rfl ?_
          refine aw_callVi (J' := jX10_fail) (As := [.int 7, .int (nI (a + 1))]) (st := []) dX8_readDoor_95 tb_540 ok_X10_fail ⟨_, e_74⟩ (by omega) rfl rfl (g_X10_failS l D b N V_74 hN j_74.1 7 (nI (a + 1))) rfl (Nat.le_of_ble_eq_true rfl) ⟨Nat.le_of_ble_eq_true rfl, Nat.le_of_ble_eq_true rfl, Nat.le_of_ble_eq_true rfl, Nat.le_of_ble_eq_true rfl⟩ (fun r_100 N_101 V_99 q_102 => ?_)
          obtain ⟨⟨z_97, h_96⟩, rfl, q_95⟩ := q_102
          have j_98 := JW.trans j_74 (JW.weak q_95 (Sub.cons (LMs LM0) (by decide) (by decide) (by decide) (Or.inr ⟨by decide, by decide⟩) Sub.nil))
          obtain ⟨rfl, h_96f⟩ := h_96
          refine aw_zreti dX8_readDoor_98 rfl (by first | exact Or.inl rfl | exact Or.inr rfl | assumption) (Nat.le_of_ble_eq_true rfl) (Nat.le_of_ble_eq_true rfl) ?_
          exact ⟨⟨(by first | exact Or.inl rfl | exact Or.inr rfl | assumption), Or.inl ⟨_, dr_no hx_16 (by omega) c_30 hn_85, h_96f, rfl⟩⟩, rfl, j_98⟩
    · skip
      have nc_22 : ¬ (v_15 < 16) := fun z => c_22 ((nI_ltI (a := v_15) (b := 16) (by omega) (by omega)).mpr z)
      refine aw_aload_n dX8_readDoor_42 rfl ?_
      refine aw_get dX8_readDoor_43 fl_X8_21 ((j_5.2.1 _ hp.1 hp.2).trans hR) (by omega) rfl ?_
      refine aw_iconst (v := 3) dX8_readDoor_46 (by decide) ?_
      refine aw_iload_n dX8_readDoor_47 rfl ?_
      obtain ⟨ts_108, tn_108, tf_108, ta_108, e_108, hta_108⟩ := JW.get j_5 ct_1
      refine aw_callVi (J' := jX10_fail) (As := [.int 3, .int (nI (a + 1))]) (st := []) dX8_readDoor_48 tb_540 ok_X10_fail ⟨_, e_108⟩ (by omega) rfl rfl (g_X10_failS l D b N V_6 hN j_5.1 3 (nI (a + 1))) rfl (Nat.le_of_ble_eq_true rfl) ⟨Nat.le_of_ble_eq_true rfl, Nat.le_of_ble_eq_true rfl, Nat.le_of_ble_eq_true rfl, Nat.le_of_ble_eq_true rfl⟩ (fun r_109 N_110 V_107 q_111 => ?_)
      obtain ⟨⟨z_105, h_104⟩, rfl, q_103⟩ := q_111
      have j_106 := JW.trans j_5 (JW.weak q_103 (Sub.cons (LMs LM0) (by decide) (by decide) (by decide) (Or.inr ⟨by decide, by decide⟩) Sub.nil))
      obtain ⟨rfl, h_104f⟩ := h_104
      refine aw_zreti dX8_readDoor_51 rfl (by first | exact Or.inl rfl | exact Or.inr rfl | assumption) (Nat.le_of_ble_eq_true rfl) (Nat.le_of_ble_eq_true rfl) ?_
      exact ⟨⟨(by first | exact Or.inl rfl | exact Or.inr rfl | assumption), Or.inl ⟨_, dr_3 hx_16 (by omega), h_104f, rfl⟩⟩, rfl, j_106⟩

set_option maxHeartbeats 4000000 in
set_option maxRecDepth 100000 in
theorem g_X8_readLineS (l : Launch) (D : va_G) (b : Nat) (N : Nat) (V : Wd) (hN : 100 ≤ N) (hW : CW D b V) (p c : Nat) (hp : 100 ≤ p ∧ p < N) (hc : c = 3 ∨ c = 21 ∨ c = 39 ∨ c = 74) (hR : V p = cO 7 [.ref (b + 1), .ref (b + c)]) (g : Nat → Int32) (hg : V 2 = cI D 260 g) (n a : Nat) (hna : a ≤ n ∧ n ≤ 240) (hE : fI (V 1) 2 = nI n) (hA : fI (V 1) 3 = nI a) (P : Int32) (hP : fI (V c) 5 = P) (s : OS) (hD : fI (V c) 6 = s.1) (hK : rs (fI (V (c + 14))) = s.2) (hst : stO (hd g n a) = true) : MI l D b 4 jX8_readLine [.ref (b + p)] N V 0 0 (fun r N9 V9 => ((r = 0 ∨ r = 1) ∧ ((∃ f, lnO g n P a s = .inl f ∧ fI (V9 1) 4 = f ∧ r = 0) ∨ (∃ a9 s9, lnO g n P a s = .inr (a9, s9) ∧ fI (V9 1) 3 = nI a9 ∧ fI (V9 c) 6 = s9.1 ∧ rs (fI (V9 (c + 14))) = s9.2 ∧ (a < a9 ∧ a9 ≤ n) ∧ r = 1))) ∧ N = N9 ∧ JW D b N [(1, 1, 3, 3), (1, 1, 4, 4), (c + 14, c + 14, 0, 1000000), (c, c, 6, 6), (c + 15, c + 15, 0, 1000000), (c + 16, c + 16, 0, 1000000), (c + 17, c + 17, 0, 1000000)] V V9) := by
  have hJ0 : JW D b N [(1, 1, 3, 3), (1, 1, 4, 4), (c + 14, c + 14, 0, 1000000), (c, c, 6, 6), (c + 15, c + 15, 0, 1000000), (c + 16, c + 16, 0, 1000000), (c + 17, c + 17, 0, 1000000)] V V := JW.rf hW
  refine mw_of (by decide) (by simp [Value.category]) (Nat.le_of_ble_eq_true rfl) ?_
  show AW l D b jX8_readLine (fx_rm 4 0 0) none (fx_MQ D b 0 0 (fx_qi (fun r N9 V9 => ((r = 0 ∨ r = 1) ∧ ((∃ f, lnO g n P a s = .inl f ∧ fI (V9 1) 4 = f ∧ r = 0) ∨ (∃ a9 s9, lnO g n P a s = .inr (a9, s9) ∧ fI (V9 1) 3 = nI a9 ∧ fI (V9 c) 6 = s9.1 ∧ rs (fI (V9 (c + 14))) = s9.2 ∧ (a < a9 ∧ a9 ≤ n) ∧ r = 1))) ∧ N = N9 ∧ JW D b N [(1, 1, 3, 3), (1, 1, 4, 4), (c + 14, c + 14, 0, 1000000), (c, c, 6, 6), (c + 15, c + 15, 0, 1000000), (c + 16, c + 16, 0, 1000000), (c + 17, c + 17, 0, 1000000)] V V9))) 0 [some (.ref (b + p))] [] N V 0 0
  refine aw_aload_n dX8_readLine_0 rfl ?_
  refine aw_get dX8_readLine_1 fl_X8_21 ((hJ0.2.1 _ hp.1 hp.2).trans hR) (by omega) rfl ?_
  obtain ⟨ts_3, tn_3, tf_3, ta_3, e_3, hta_3⟩ := JW.get hJ0 ct_1
  refine aw_callVi (J' := jX10_now) (As := []) (st := []) dX8_readLine_4 tb_533 ok_X10_now ⟨_, e_3⟩ (by omega) rfl rfl (g_X10_nowS l D b N V hN hJ0.1 g hg n a ⟨by omega, by omega⟩ hE hA) rfl (Nat.le_of_ble_eq_true rfl) ⟨Nat.le_of_ble_eq_true rfl, Nat.le_of_ble_eq_true rfl, Nat.le_of_ble_eq_true rfl, Nat.le_of_ble_eq_true rfl⟩ (fun r_4 N_5 V_6 q_7 => ?_)
  obtain ⟨h_2, rfl, rfl⟩ := q_7
  refine aw_eqi (y := (hd g n a)) h_2 ?_
  refine aw_bipush (v := 100) dX8_readLine_7 (by decide) ?_
  refine aw_icmp_ne (tgt := 19) dX8_readLine_9 (by decide) (fun c_8 => ?_) (fun c_8 => ?_)
  · skip
    refine aw_aload_n dX8_readLine_19 rfl ?_
    refine aw_callVi (J' := jX8_readAcquaintance) (As := []) (st := []) dX8_readLine_20 tb_561 ok_X8_readAcquaintance ⟨_, ((hJ0.2.1 _ hp.1 hp.2).trans hR)⟩ (by omega) rfl rfl (g_X8_readAcquaintanceS l D b N V hN hJ0.1 p c ⟨by omega, by omega⟩ hc ((hJ0.2.1 _ hp.1 hp.2).trans hR) g hg n a ⟨by omega, by omega⟩ hE hA P hP s hD hK) rfl (Nat.le_of_ble_eq_true rfl) ⟨Nat.le_of_ble_eq_true rfl, Nat.le_of_ble_eq_true rfl, Nat.le_of_ble_eq_true rfl, Nat.le_of_ble_eq_true rfl⟩ (fun r_14 N_15 V_13 q_16 => ?_)
    obtain ⟨⟨z_11, h_10⟩, rfl, q_9⟩ := q_16
    have j_12 := JW.trans hJ0 (JW.weak q_9 (Sub.cons LM0 (by decide) (by decide) (by decide) (Or.inr ⟨by decide, by decide⟩) (Sub.cons (LMs LM0) (by decide) (by decide) (by decide) (Or.inr ⟨by decide, by decide⟩) (Sub.cons (LMs (LMs LM0)) (by omega) (by omega) (by decide) (Or.inl rfl) Sub.nil))))
    rcases h_10 with ⟨f_17, hx_18, hk_19, e_20⟩ | ⟨a_21, s_22, hx_23, hk_24, hd_25, hf_26, hb_27, e_28⟩
    · skip
      refine aw_eqi (y := 0) e_20 ?_
      refine aw_zreti dX8_readLine_23 rfl (by first | exact Or.inl rfl | exact Or.inr rfl | assumption) (Nat.le_of_ble_eq_true rfl) (Nat.le_of_ble_eq_true rfl) ?_
      exact ⟨⟨(by first | exact Or.inl rfl | exact Or.inr rfl | assumption), Or.inl ⟨_, (o_a c_8).trans hx_18, hk_19, rfl⟩⟩, rfl, j_12⟩
    · skip
      refine aw_eqi (y := 1) e_28 ?_
      obtain ⟨hb_27a, hb_27b⟩ := hb_27
      refine aw_zreti dX8_readLine_23 rfl (by first | exact Or.inl rfl | exact Or.inr rfl | assumption) (Nat.le_of_ble_eq_true rfl) (Nat.le_of_ble_eq_true rfl) ?_
      exact ⟨⟨(by first | exact Or.inl rfl | exact Or.inr rfl | assumption), Or.inr ⟨_, _, (o_a c_8).trans hx_23, hk_24, hd_25, hf_26, ⟨by omega, by omega⟩, rfl⟩⟩, rfl, j_12⟩
  · skip
    refine aw_aload_n dX8_readLine_12 rfl ?_
    refine aw_callVi (J' := jX8_readDoor) (As := []) (st := []) dX8_readLine_13 tb_534 ok_X8_readDoor ⟨_, ((hJ0.2.1 _ hp.1 hp.2).trans hR)⟩ (by omega) rfl rfl (g_X8_readDoorS l D b N V hN hJ0.1 p c ⟨by omega, by omega⟩ hc ((hJ0.2.1 _ hp.1 hp.2).trans hR) g hg n a ⟨by omega, by omega⟩ hE hA P hP s hD hK c_8) rfl (Nat.le_of_ble_eq_true rfl) ⟨Nat.le_of_ble_eq_true rfl, Nat.le_of_ble_eq_true rfl, Nat.le_of_ble_eq_true rfl, Nat.le_of_ble_eq_true rfl⟩ (fun r_34 N_35 V_33 q_36 => ?_)
    obtain ⟨⟨z_31, h_30⟩, rfl, q_29⟩ := q_36
    have j_32 := JW.trans hJ0 (JW.weak q_29 (Sub.cons LM0 (by decide) (by decide) (by decide) (Or.inr ⟨by decide, by decide⟩) (Sub.cons (LMs LM0) (by decide) (by decide) (by decide) (Or.inr ⟨by decide, by decide⟩) (Sub.cons (LMs (LMs (LMs LM0))) (by omega) (by omega) (by decide) (Or.inr ⟨by decide, by decide⟩) (Sub.cons (LMs (LMs (LMs (LMs LM0)))) (by omega) (by omega) (by decide) (Or.inl rfl) (Sub.cons (LMs (LMs (LMs (LMs (LMs LM0))))) (by omega) (by omega) (by decide) (Or.inl rfl) (Sub.cons (LMs (LMs (LMs (LMs (LMs (LMs LM0)))))) (by omega) (by omega) (by decide) (Or.inl rfl) Sub.nil)))))))
    rcases h_30 with ⟨f_37, hx_38, hk_39, e_40⟩ | ⟨a_41, s_42, hx_43, hk_44, hd_45, hf_46, hb_47, e_48⟩
    · skip
      refine aw_eqi (y := 0) e_40 ?_
      refine aw_goto (tgt := 23) dX8_readLine_16 (by decide) ?_
      refine aw_zreti dX8_readLine_23 rfl (by first | exact Or.inl rfl | exact Or.inr rfl | assumption) (Nat.le_of_ble_eq_true rfl) (Nat.le_of_ble_eq_true rfl) ?_
      exact ⟨⟨(by first | exact Or.inl rfl | exact Or.inr rfl | assumption), Or.inl ⟨_, (o_d c_8).trans hx_38, hk_39, rfl⟩⟩, rfl, j_32⟩
    · skip
      refine aw_eqi (y := 1) e_48 ?_
      obtain ⟨hb_47a, hb_47b⟩ := hb_47
      refine aw_goto (tgt := 23) dX8_readLine_16 (by decide) ?_
      refine aw_zreti dX8_readLine_23 rfl (by first | exact Or.inl rfl | exact Or.inr rfl | assumption) (Nat.le_of_ble_eq_true rfl) (Nat.le_of_ble_eq_true rfl) ?_
      exact ⟨⟨(by first | exact Or.inl rfl | exact Or.inr rfl | assumption), Or.inr ⟨_, _, (o_d c_8).trans hx_43, hk_44, hd_45, hf_46, ⟨by omega, by omega⟩, rfl⟩⟩, rfl, j_32⟩

set_option maxHeartbeats 4000000 in
set_option maxRecDepth 100000 in
theorem g_X0_copyFromS2 (l : Launch) (D : va_G) (b : Nat) (N : Nat) (V : Wd) (hN : 100 ≤ N) (hW : CW D b V) (c : Nat) (hc : c = 3 ∨ c = 21 ∨ c = 39 ∨ c = 74) (c2 : Nat) (hc2 : c2 = 3 ∨ c2 = 21 ∨ c2 = 39 ∨ c2 = 74) (hcc : c ≠ c2) : MV l D b 1 jX0_copyFrom [.ref (b + c), .ref (b + c2)] N V 0 0 (fun N9 V9 => (fI (V9 c) 5 = fI (V c2) 5 ∧ fI (V9 c) 6 = fI (V c2) 6 ∧ fI (V9 c) 7 = fI (V c2) 7 ∧ rs (fI (V9 (c + 14))) = rs (fI (V (c2 + 14)))) ∧ N = N9 ∧ JW D b N [(c + 2, c + 13, 0, 1000000), (c, c, 5, 5), (c, c, 6, 6), (c, c, 7, 7), (c, c, 8, 8), (c + 15, c + 15, 0, 1000000), (c + 16, c + 16, 0, 1000000), (c + 17, c + 17, 0, 1000000), (c + 14, c + 14, 0, 1000000)] V V9) := by
  have hJ0 : JW D b N [(c + 2, c + 13, 0, 1000000), (c, c, 5, 5), (c, c, 6, 6), (c, c, 7, 7), (c, c, 8, 8), (c + 15, c + 15, 0, 1000000), (c + 16, c + 16, 0, 1000000), (c + 17, c + 17, 0, 1000000), (c + 14, c + 14, 0, 1000000)] V V := JW.rf hW
  refine mw_of (by decide) (by simp [Value.category]) (Nat.le_of_ble_eq_true rfl) ?_
  show AW l D b jX0_copyFrom (fx_rm 1 0 0) none (fx_MQ D b 0 0 (fx_qv (fun N9 V9 => (fI (V9 c) 5 = fI (V c2) 5 ∧ fI (V9 c) 6 = fI (V c2) 6 ∧ fI (V9 c) 7 = fI (V c2) 7 ∧ rs (fI (V9 (c + 14))) = rs (fI (V (c2 + 14)))) ∧ N = N9 ∧ JW D b N [(c + 2, c + 13, 0, 1000000), (c, c, 5, 5), (c, c, 6, 6), (c, c, 7, 7), (c, c, 8, 8), (c + 15, c + 15, 0, 1000000), (c + 16, c + 16, 0, 1000000), (c + 17, c + 17, 0, 1000000), (c + 14, c + 14, 0, 1000000)] V V9))) 0 [some (.ref (b + c)), some (.ref (b + c2)), none] [] N V 0 0
  refine aw_aload_n dX0_copyFrom_0 rfl ?_
  refine aw_aload_n dX0_copyFrom_1 rfl ?_
  obtain ⟨pe_4, dd_4, ni_4, xx_4, e_4⟩ := JW.get hJ0 (ctc_0 hc)
  refine aw_callVv (J' := jX0_copyDreads) (As := [.ref (b + c2)]) (st := []) dX0_copyFrom_2 tb_585 ok_X0_copyDreads ⟨_, e_4⟩ (by omega) rfl rfl (g_X0_copyDreads l D b N V hN hJ0.1 c hc c2 hc2) rfl (Nat.le_of_ble_eq_true rfl) ⟨Nat.le_of_ble_eq_true rfl, Nat.le_of_ble_eq_true rfl, Nat.le_of_ble_eq_true rfl, Nat.le_of_ble_eq_true rfl⟩ (fun  N_5 V_3 q_6 => ?_)
  obtain ⟨rfl, q_1⟩ := q_6
  have j_2 := JW.trans hJ0 (JW.weak q_1 (Sub.cons LM0 (by omega) (by omega) (by decide) (Or.inl rfl) Sub.nil))
  refine aw_iconst (v := 0) dX0_copyFrom_5 (by decide) ?_
  refine aw_istore_n (ls' := [some (.ref (b + c)), some (.ref (b + c2)), some (.int 0)]) dX0_copyFrom_6 (Nat.le_of_ble_eq_true rfl) rfl ?_
  have loop_7_6 : ∀ (g_7 : Nat), ∀ (j7 : Nat)  (V7 : Wd), j7 + g_7 = 12 → (∀ k, k < j7 → fI (V7 (c + 14)) k = fI (V (c2 + 14)) k) → (JW D b N [(c + 2, c + 13, 0, 1000000), (c, c, 5, 5), (c, c, 6, 6), (c, c, 7, 7), (c, c, 8, 8), (c + 15, c + 15, 0, 1000000), (c + 16, c + 16, 0, 1000000), (c + 17, c + 17, 0, 1000000), (c + 14, c + 14, 0, 1000000)] V V7) → (fI (V7 c2) 5 = (fI (V c2) 5)) → (fI (V7 c2) 6 = (fI (V c2) 6)) → (fI (V7 c2) 7 = (fI (V c2) 7)) → AW l D b jX0_copyFrom (fx_rm 1 0 0) none (fx_MQ D b 0 0 (fx_qv (fun N9 V9 => (fI (V9 c) 5 = fI (V c2) 5 ∧ fI (V9 c) 6 = fI (V c2) 6 ∧ fI (V9 c) 7 = fI (V c2) 7 ∧ rs (fI (V9 (c + 14))) = rs (fI (V (c2 + 14)))) ∧ N = N9 ∧ JW D b N [(c + 2, c + 13, 0, 1000000), (c, c, 5, 5), (c, c, 6, 6), (c, c, 7, 7), (c, c, 8, 8), (c + 15, c + 15, 0, 1000000), (c + 16, c + 16, 0, 1000000), (c + 17, c + 17, 0, 1000000), (c + 14, c + 14, 0, 1000000)] V V9))) 7 [some (.ref (b + c)), some (.ref (b + c2)), some (.int (nI j7))] [] N V7 0 0 := by
    intro g_7
    induction g_7 with
    | zero =>
      intro j7  V7 hj7 i7_0 i7_1 i7_2 i7_3 i7_4
      obtain rfl : j7 = 12 := by omega
      refine aw_iload_n dX0_copyFrom_7 rfl ?_
      refine aw_bipush (v := 12) dX0_copyFrom_8 (by decide) ?_
      refine aw_icmp_ge (tgt := 31) dX0_copyFrom_10 (by decide) (fun c_9 => ?_) (fun c_9 => ?_)
      rotate_left
      · exact absurd (nI_le (a := 12) (b := 12) (Nat.le_refl _) (by omega)) c_9
      refine aw_iconst (v := 0) dX0_copyFrom_31 (by decide) ?_
      refine aw_istore_n (ls' := [some (.ref (b + c)), some (.ref (b + c2)), some (.int 0)]) dX0_copyFrom_32 (Nat.le_of_ble_eq_true rfl) rfl ?_
      have loop_33_9 : ∀ (g_33 : Nat), ∀ (j33 : Nat)  (V33 : Wd), j33 + g_33 = 16 → (JW D b N [(c + 2, c + 13, 0, 1000000), (c, c, 5, 5), (c, c, 6, 6), (c, c, 7, 7), (c, c, 8, 8), (c + 15, c + 15, 0, 1000000), (c + 16, c + 16, 0, 1000000), (c + 17, c + 17, 0, 1000000), (c + 14, c + 14, 0, 1000000)] V V33) → (fI (V33 c2) 5 = (fI (V c2) 5)) → (fI (V33 c2) 6 = (fI (V c2) 6)) → (fI (V33 c2) 7 = (fI (V c2) 7)) → (rs (fI (V33 (c + 14))) = (rs (fI (V (c2 + 14))))) → AW l D b jX0_copyFrom (fx_rm 1 0 0) none (fx_MQ D b 0 0 (fx_qv (fun N9 V9 => (fI (V9 c) 5 = fI (V c2) 5 ∧ fI (V9 c) 6 = fI (V c2) 6 ∧ fI (V9 c) 7 = fI (V c2) 7 ∧ rs (fI (V9 (c + 14))) = rs (fI (V (c2 + 14)))) ∧ N = N9 ∧ JW D b N [(c + 2, c + 13, 0, 1000000), (c, c, 5, 5), (c, c, 6, 6), (c, c, 7, 7), (c, c, 8, 8), (c + 15, c + 15, 0, 1000000), (c + 16, c + 16, 0, 1000000), (c + 17, c + 17, 0, 1000000), (c + 14, c + 14, 0, 1000000)] V V9))) 33 [some (.ref (b + c)), some (.ref (b + c2)), some (.int (nI j33))] [] N V33 0 0 := by
        intro g_33
        induction g_33 with
        | zero =>
          intro j33  V33 hj33 i33_0 i33_1 i33_2 i33_3 i33_4
          obtain rfl : j33 = 16 := by omega
          refine aw_iload_n dX0_copyFrom_33 rfl ?_
          refine aw_bipush (v := 16) dX0_copyFrom_34 (by decide) ?_
          refine aw_icmp_ge (tgt := 81) dX0_copyFrom_36 (by decide) (fun c_12 => ?_) (fun c_12 => ?_)
          rotate_left
          · exact absurd (nI_le (a := 16) (b := 16) (Nat.le_refl _) (by omega)) c_12
          refine aw_aload_n dX0_copyFrom_81 rfl ?_
          refine aw_aload_n dX0_copyFrom_82 rfl ?_
          obtain ⟨pe_13, dd_13, ni_13, xx_13, e_13⟩ := JW.get i33_0 (ctc_0 hc2)
          refine aw_get dX0_copyFrom_83 fl_X0_29 e_13 (by omega) rfl ?_
          refine aw_eqi (y := (fI (V c2) 5)) ((Eq.symm (congrArg (fun z => fI z 5) e_13)).trans i33_1) ?_
          obtain ⟨pe_14, dd_14, ni_14, xx_14, e_14⟩ := JW.get i33_0 (ctc_0 hc)
          refine aw_put dX0_copyFrom_86 fp_X0_29 e_14 (by omega) rfl rfl (Nat.le_of_ble_eq_true rfl) rfl ?_
          refine aw_up i33_0 (ctc_0 hc) ⟨_, _, _, _, rfl⟩ (WO (s := 5) (x := .int (fI (V c2) 5)) e_14 rfl (LMs LM0) (by omega) (by omega) (by decide) (Or.inl (by decide))) (fun V_15 j_15 k_15 e_15 => ?_)
          refine aw_aload_n dX0_copyFrom_89 rfl ?_
          refine aw_aload_n dX0_copyFrom_90 rfl ?_
          obtain ⟨pe_16, dd_16, ni_16, xx_16, e_16⟩ := JW.get j_15 (ctc_0 hc2)
          refine aw_get dX0_copyFrom_91 fl_X0_33 e_16 (by omega) rfl ?_
          refine aw_eqi (y := (fI (V c2) 6)) ((Eq.symm (congrArg (fun z => fI z 6) e_16)).trans (KA (s := 5) (x := .int (fI (V c2) 5)) e_14 rfl (by decide) e_15 k_15 i33_2)) ?_
          refine aw_put dX0_copyFrom_94 fp_X0_33 e_15 (by omega) rfl rfl (Nat.le_of_ble_eq_true rfl) rfl ?_
          refine aw_up j_15 (ctc_0 hc) ⟨_, _, _, _, rfl⟩ (WO (s := 6) (x := .int (fI (V c2) 6)) e_15 rfl (LMs (LMs LM0)) (by omega) (by omega) (by decide) (Or.inl (by decide))) (fun V_17 j_17 k_17 e_17 => ?_)
          refine aw_aload_n dX0_copyFrom_97 rfl ?_
          refine aw_aload_n dX0_copyFrom_98 rfl ?_
          obtain ⟨pe_18, dd_18, ni_18, xx_18, e_18⟩ := JW.get j_17 (ctc_0 hc2)
          refine aw_get dX0_copyFrom_99 fl_X0_36 e_18 (by omega) rfl ?_
          refine aw_eqi (y := (fI (V c2) 7)) ((Eq.symm (congrArg (fun z => fI z 7) e_18)).trans (KA (s := 6) (x := .int (fI (V c2) 6)) e_15 rfl (by decide) e_17 k_17 (KA (s := 5) (x := .int (fI (V c2) 5)) e_14 rfl (by decide) e_15 k_15 i33_3))) ?_
          refine aw_put dX0_copyFrom_102 fp_X0_36 e_17 (by omega) rfl rfl (Nat.le_of_ble_eq_true rfl) rfl ?_
          refine aw_up j_17 (ctc_0 hc) ⟨_, _, _, _, rfl⟩ (WO (s := 7) (x := .int (fI (V c2) 7)) e_17 rfl (LMs (LMs (LMs LM0))) (by omega) (by omega) (by decide) (Or.inl (by decide))) (fun V_19 j_19 k_19 e_19 => ?_)
          refine aw_aload_n dX0_copyFrom_105 rfl ?_
          refine aw_aload_n dX0_copyFrom_106 rfl ?_
          obtain ⟨pe_20, dd_20, ni_20, xx_20, e_20⟩ := JW.get j_19 (ctc_0 hc2)
          refine aw_get dX0_copyFrom_107 fl_X0_39 e_20 (by omega) rfl ?_
          refine aw_put dX0_copyFrom_110 fp_X0_39 e_19 (by omega) rfl rfl (Nat.le_of_ble_eq_true rfl) rfl ?_
          refine aw_up j_19 (ctc_0 hc) ⟨_, _, _, _, rfl⟩ (WO (s := 8) (x := .int xx_20) e_19 rfl (LMs (LMs (LMs (LMs LM0)))) (by omega) (by omega) (by decide) (Or.inl (by decide))) (fun V_21 j_21 k_21 e_21 => ?_)
          refine aw_vreti dX0_copyFrom_113 rfl (Nat.le_of_ble_eq_true rfl) (Nat.le_of_ble_eq_true rfl) ?_
          exact ⟨⟨(KA (s := 8) (x := .int xx_20) e_19 rfl (by decide) e_21 k_21 (KA (s := 7) (x := .int (fI (V c2) 7)) e_17 rfl (by decide) e_19 k_19 (KA (s := 6) (x := .int (fI (V c2) 6)) e_15 rfl (by decide) e_17 k_17 ((congrArg (fun z => fI z 5) e_15).trans rfl)))), (KA (s := 8) (x := .int xx_20) e_19 rfl (by decide) e_21 k_21 (KA (s := 7) (x := .int (fI (V c2) 7)) e_17 rfl (by decide) e_19 k_19 ((congrArg (fun z => fI z 6) e_17).trans rfl))), (KA (s := 8) (x := .int xx_20) e_19 rfl (by decide) e_21 k_21 ((congrArg (fun z => fI z 7) e_19).trans rfl)), ((congrArg (fun z => rs (fI z)) (k_21 _ (by omega))).trans ((congrArg (fun z => rs (fI z)) (k_19 _ (by omega))).trans ((congrArg (fun z => rs (fI z)) (k_17 _ (by omega))).trans ((congrArg (fun z => rs (fI z)) (k_15 _ (by omega))).trans i33_4))))⟩, rfl, j_21⟩
        | succ g_33 ih_33_10 =>
          intro j33  V33 hj33 i33_0 i33_1 i33_2 i33_3 i33_4
          have hlj33 : j33 < 16 := by omega
          refine aw_iload_n dX0_copyFrom_33 rfl ?_
          refine aw_bipush (v := 16) dX0_copyFrom_34 (by decide) ?_
          refine aw_icmp_ge (tgt := 81) dX0_copyFrom_36 (by decide) (fun c_22 => ?_) (fun c_22 => ?_)
          · exact absurd c_22 (nI_ge (a := j33) (b := 16) (by omega) (by omega))
          refine aw_aload_n dX0_copyFrom_39 rfl ?_
          obtain ⟨pe_23, dd_23, ni_23, xx_23, e_23⟩ := JW.get i33_0 (ctc_0 hc)
          refine aw_get dX0_copyFrom_40 fl_X0_20 e_23 (by omega) rfl ?_
          refine aw_iload_n dX0_copyFrom_43 rfl ?_
          refine aw_aload_n dX0_copyFrom_44 rfl ?_
          obtain ⟨pe_24, dd_24, ni_24, xx_24, e_24⟩ := JW.get i33_0 (ctc_0 hc2)
          refine aw_get dX0_copyFrom_45 fl_X0_20 e_24 (by omega) rfl ?_
          refine aw_iload_n dX0_copyFrom_48 rfl ?_
          obtain ⟨g_25, e_25⟩ := JW.get i33_0 (ctc_15 hc2)
          refine aw_iald (v := (g_25 j33)) dX0_copyFrom_49 e_25 (by omega) (vp_in_nI (n := j33) (by omega) (by omega)) (congrArg g_25 (nI_clamp (n := j33) (by omega))) ?_
          obtain ⟨g_26, e_26⟩ := JW.get i33_0 (ctc_15 hc)
          refine aw_iast dX0_copyFrom_50 e_26 (by omega) (vp_in_nI (n := j33) (by omega) (by omega)) ?_
          refine aw_up i33_0 (ctc_15 hc) ⟨_, rfl⟩ (WA (LMs (LMs (LMs (LMs (LMs LM0))))) (by omega) (by omega)) (fun V_27 j_27 k_27 e_27 => ?_)
          refine aw_aload_n dX0_copyFrom_51 rfl ?_
          refine aw_get dX0_copyFrom_52 fl_X0_23 ((k_27 _ (by omega)).trans e_23) (by omega) rfl ?_
          refine aw_iload_n dX0_copyFrom_55 rfl ?_
          refine aw_aload_n dX0_copyFrom_56 rfl ?_
          obtain ⟨pe_28, dd_28, ni_28, xx_28, e_28⟩ := JW.get j_27 (ctc_0 hc2)
          refine aw_get dX0_copyFrom_57 fl_X0_23 e_28 (by omega) rfl ?_
          refine aw_iload_n dX0_copyFrom_60 rfl ?_
          obtain ⟨g_29, e_29⟩ := JW.get j_27 (ctc_16 hc2)
          refine aw_iald (v := (g_29 j33)) dX0_copyFrom_61 e_29 (by omega) (vp_in_nI (n := j33) (by omega) (by omega)) (congrArg g_29 (nI_clamp (n := j33) (by omega))) ?_
          obtain ⟨g_30, e_30⟩ := JW.get j_27 (ctc_16 hc)
          refine aw_iast dX0_copyFrom_62 e_30 (by omega) (vp_in_nI (n := j33) (by omega) (by omega)) ?_
          refine aw_up j_27 (ctc_16 hc) ⟨_, rfl⟩ (WA (LMs (LMs (LMs (LMs (LMs (LMs LM0)))))) (by omega) (by omega)) (fun V_31 j_31 k_31 e_31 => ?_)
          refine aw_aload_n dX0_copyFrom_63 rfl ?_
          refine aw_get dX0_copyFrom_64 fl_X0_26 ((k_31 _ (by omega)).trans ((k_27 _ (by omega)).trans e_23)) (by omega) rfl ?_
          refine aw_iload_n dX0_copyFrom_67 rfl ?_
          refine aw_aload_n dX0_copyFrom_68 rfl ?_
          obtain ⟨pe_32, dd_32, ni_32, xx_32, e_32⟩ := JW.get j_31 (ctc_0 hc2)
          refine aw_get dX0_copyFrom_69 fl_X0_26 e_32 (by omega) rfl ?_
          refine aw_iload_n dX0_copyFrom_72 rfl ?_
          obtain ⟨g_33, e_33⟩ := JW.get j_31 (ctc_17 hc2)
          refine aw_iald (v := (g_33 j33)) dX0_copyFrom_73 e_33 (by omega) (vp_in_nI (n := j33) (by omega) (by omega)) (congrArg g_33 (nI_clamp (n := j33) (by omega))) ?_
          obtain ⟨g_34, e_34⟩ := JW.get j_31 (ctc_17 hc)
          refine aw_iast dX0_copyFrom_74 e_34 (by omega) (vp_in_nI (n := j33) (by omega) (by omega)) ?_
          refine aw_up j_31 (ctc_17 hc) ⟨_, rfl⟩ (WA (LMs (LMs (LMs (LMs (LMs (LMs (LMs LM0))))))) (by omega) (by omega)) (fun V_35 j_35 k_35 e_35 => ?_)
          refine aw_iinc (v := (nI (j33 + 1))) (ls' := [some (.ref (b + c)), some (.ref (b + c2)), some (.int (nI (j33 + 1)))]) dX0_copyFrom_75 rfl (fx_up_1 _) (Nat.le_of_ble_eq_true rfl) rfl ?_
          refine aw_goto (tgt := 33) dX0_copyFrom_78 (by decide) ?_
          refine aw_le ?_ (ih_33_10 (j33 + 1)  V_35 (by omega) (j_35) (((congrArg (fun z => fI z 5) (k_35 _ (by omega))).trans ((congrArg (fun z => fI z 5) (k_31 _ (by omega))).trans ((congrArg (fun z => fI z 5) (k_27 _ (by omega))).trans i33_1)))) (((congrArg (fun z => fI z 6) (k_35 _ (by omega))).trans ((congrArg (fun z => fI z 6) (k_31 _ (by omega))).trans ((congrArg (fun z => fI z 6) (k_27 _ (by omega))).trans i33_2)))) (((congrArg (fun z => fI z 7) (k_35 _ (by omega))).trans ((congrArg (fun z => fI z 7) (k_31 _ (by omega))).trans ((congrArg (fun z => fI z 7) (k_27 _ (by omega))).trans i33_3)))) (((congrArg (fun z => rs (fI z)) (k_35 _ (by omega))).trans ((congrArg (fun z => rs (fI z)) (k_31 _ (by omega))).trans ((congrArg (fun z => rs (fI z)) (k_27 _ (by omega))).trans i33_4)))))
          exact ⟨rfl, ⟨rfl, ⟨rfl, trivial⟩⟩⟩
      refine aw_le ?_ (loop_33_9 16 0  V7 (by omega) (i7_1) (i7_2) (i7_3) (i7_4) ((rs_of i7_0)))
      exact ⟨rfl, ⟨rfl, ⟨rfl, trivial⟩⟩⟩
    | succ g_7 ih_7_7 =>
      intro j7  V7 hj7 i7_0 i7_1 i7_2 i7_3 i7_4
      have hlj7 : j7 < 12 := by omega
      refine aw_iload_n dX0_copyFrom_7 rfl ?_
      refine aw_bipush (v := 12) dX0_copyFrom_8 (by decide) ?_
      refine aw_icmp_ge (tgt := 31) dX0_copyFrom_10 (by decide) (fun c_36 => ?_) (fun c_36 => ?_)
      · exact absurd c_36 (nI_ge (a := j7) (b := 12) (by omega) (by omega))
      refine aw_aload_n dX0_copyFrom_13 rfl ?_
      obtain ⟨pe_37, dd_37, ni_37, xx_37, e_37⟩ := JW.get i7_1 (ctc_0 hc)
      refine aw_get dX0_copyFrom_14 fl_X0_16 e_37 (by omega) rfl ?_
      refine aw_iload_n dX0_copyFrom_17 rfl ?_
      refine aw_aload_n dX0_copyFrom_18 rfl ?_
      obtain ⟨pe_38, dd_38, ni_38, xx_38, e_38⟩ := JW.get i7_1 (ctc_0 hc2)
      refine aw_get dX0_copyFrom_19 fl_X0_16 e_38 (by omega) rfl ?_
      refine aw_iload_n dX0_copyFrom_22 rfl ?_
      obtain ⟨g_39, e_39⟩ := JW.get i7_1 (ctc_14 hc2)
      refine aw_iald (v := (g_39 j7)) dX0_copyFrom_23 e_39 (by omega) (vp_in_nI (n := j7) (by omega) (by omega)) (congrArg g_39 (nI_clamp (n := j7) (by omega))) ?_
      obtain ⟨g_40, e_40⟩ := JW.get i7_1 (ctc_14 hc)
      refine aw_iast dX0_copyFrom_24 e_40 (by omega) (vp_in_nI (n := j7) (by omega) (by omega)) ?_
      refine aw_up i7_1 (ctc_14 hc) ⟨_, rfl⟩ (WA (LMs (LMs (LMs (LMs (LMs (LMs (LMs (LMs LM0)))))))) (by omega) (by omega)) (fun V_41 j_41 k_41 e_41 => ?_)
      refine aw_iinc (v := (nI (j7 + 1))) (ls' := [some (.ref (b + c)), some (.ref (b + c2)), some (.int (nI (j7 + 1)))]) dX0_copyFrom_25 rfl (fx_up_1 _) (Nat.le_of_ble_eq_true rfl) rfl ?_
      refine aw_goto (tgt := 7) dX0_copyFrom_28 (by decide) ?_
      refine aw_le ?_ (ih_7_7 (j7 + 1)  V_41 (by omega) (cp_step e_39 (JW.same i7_1 (by omega) (fun k => (nfc (by omega) (nfc (by omega) (nfc (by omega) (nfc (by omega) (nfc (by omega) (nfc (by omega) (nfc (by omega) (nfc (by omega) (nfc (by omega) nf0))))))))))) e_40 e_41 (nI_clamp (n := j7) (by omega)) i7_0) (j_41) (((congrArg (fun z => fI z 5) (k_41 _ (by omega))).trans i7_2)) (((congrArg (fun z => fI z 6) (k_41 _ (by omega))).trans i7_3)) (((congrArg (fun z => fI z 7) (k_41 _ (by omega))).trans i7_4)))
      exact ⟨rfl, ⟨rfl, ⟨rfl, trivial⟩⟩⟩
  refine aw_le ?_ (loop_7_6 12 0  V_3 (by omega) (fun k h => absurd h (Nat.not_lt_zero k)) (j_2) (((JW.fI q_1 (by omega) (nfc (by omega) nf0)).trans (Eq.refl (fI (V c2) 5)))) (((JW.fI q_1 (by omega) (nfc (by omega) nf0)).trans (Eq.refl (fI (V c2) 6)))) (((JW.fI q_1 (by omega) (nfc (by omega) nf0)).trans (Eq.refl (fI (V c2) 7)))))
  exact ⟨rfl, ⟨rfl, ⟨rfl, trivial⟩⟩⟩

set_option maxHeartbeats 20000000 in
set_option maxRecDepth 100000 in
theorem g_X2_readLineS2 (l : Launch) (D : va_G) (b : Nat) (N : Nat) (V : Wd) (hN : 100 ≤ N) (hW : CW D b V) (p c : Nat) (pn : Int32) (hp : 100 ≤ p ∧ p < N) (hc : c = 3 ∨ c = 21 ∨ c = 39 ∨ c = 74) (hR : V p = cO 2 [.ref (b + 1), .ref (b + c), .int pn]) (g : Nat → Int32) (hg : V 2 = cI D 260 g) (n a : Nat) (hna : a ≤ n ∧ n ≤ 240) (hE : fI (V 1) 2 = nI n) (hA : fI (V 1) 3 = nI a) (P : Int32) (hP : fI (V c) 5 = P) (hst : stD (hd g n a) = true) : MI l D b 3 jX2_readLine [.ref (b + p)] N V 0 0 (fun r N9 V9 => ((r = 0 ∨ r = 1) ∧ ((∃ f, lnD g n a = .inl f ∧ fI (V9 1) 4 = f ∧ r = 0) ∨ (∃ a9, lnD g n a = .inr (a9, ()) ∧ fI (V9 1) 3 = nI a9 ∧ fI (V9 c) 5 = P ||| (1 : Int32) <<< (pn &&& 31) ∧ (a < a9 ∧ a9 ≤ n) ∧ r = 1))) ∧ N = N9 ∧ JW D b N [(1, 1, 4, 4), (1, 1, 3, 3), (c, c, 5, 5), (c + 2, c + 13, 0, 1000000)] V V9) := by
  have hJ0 : JW D b N [(1, 1, 4, 4), (1, 1, 3, 3), (c, c, 5, 5), (c + 2, c + 13, 0, 1000000)] V V := JW.rf hW
  refine mw_of (by decide) (by simp [Value.category]) (Nat.le_of_ble_eq_true rfl) ?_
  show AW l D b jX2_readLine (fx_rm 3 0 0) none (fx_MQ D b 0 0 (fx_qi (fun r N9 V9 => ((r = 0 ∨ r = 1) ∧ ((∃ f, lnD g n a = .inl f ∧ fI (V9 1) 4 = f ∧ r = 0) ∨ (∃ a9, lnD g n a = .inr (a9, ()) ∧ fI (V9 1) 3 = nI a9 ∧ fI (V9 c) 5 = P ||| (1 : Int32) <<< (pn &&& 31) ∧ (a < a9 ∧ a9 ≤ n) ∧ r = 1))) ∧ N = N9 ∧ JW D b N [(1, 1, 4, 4), (1, 1, 3, 3), (c, c, 5, 5), (c + 2, c + 13, 0, 1000000)] V V9))) 0 [some (.ref (b + p)), none, none, none] [] N V 0 0
  refine aw_aload_n dX2_readLine_0 rfl ?_
  refine aw_callVi (J' := jX2_readFears) (As := []) (st := []) dX2_readLine_1 tb_349 ok_X2_readFears ⟨_, ((hJ0.2.1 _ hp.1 hp.2).trans hR)⟩ (by omega) rfl rfl (g_X2_readFearsS l D b N V hN hJ0.1 p c pn ⟨by omega, by omega⟩ hc ((hJ0.2.1 _ hp.1 hp.2).trans hR) g hg n a ⟨by omega, by omega⟩ hE hA hst) rfl (Nat.le_of_ble_eq_true rfl) ⟨Nat.le_of_ble_eq_true rfl, Nat.le_of_ble_eq_true rfl, Nat.le_of_ble_eq_true rfl, Nat.le_of_ble_eq_true rfl⟩ (fun r_5 N_6 V_4 q_7 => ?_)
  obtain ⟨h_2, rfl, q_1⟩ := q_7
  have j_3 := JW.trans hJ0 (JW.weak q_1 (Sub.cons LM0 (by decide) (by decide) (by decide) (Or.inr ⟨by decide, by decide⟩) (Sub.cons (LMs LM0) (by decide) (by decide) (by decide) (Or.inr ⟨by decide, by decide⟩) Sub.nil)))
  rcases h_2 with ⟨f_8, hx_9, hk_10, e_11⟩ | ⟨a_12, s_13, hx_14, hk_15, hb_16, hz_17, e_18⟩
  · skip
    refine aw_eqi (y := 0) e_11 ?_
    refine aw_istore_n (ls' := [some (.ref (b + p)), some (.int 0), none, none]) dX2_readLine_4 (Nat.le_of_ble_eq_true rfl) rfl ?_
    refine aw_iload_n dX2_readLine_5 rfl ?_
    refine aw_if_ne (tgt := 11) dX2_readLine_6 (by decide) (fun c_19 => ?_) (fun c_19 => ?_)
    · exact absurd rfl c_19
    refine aw_iconst (v := 0) dX2_readLine_9 (by decide) ?_
    refine aw_zreti dX2_readLine_10 rfl (by first | exact Or.inl rfl | exact Or.inr rfl | assumption) (Nat.le_of_ble_eq_true rfl) (Nat.le_of_ble_eq_true rfl) ?_
    exact ⟨⟨(by first | exact Or.inl rfl | exact Or.inr rfl | assumption), Or.inl ⟨_, lnD_m hx_9, hk_10, rfl⟩⟩, rfl, j_3⟩
  · skip
    refine aw_eqi (y := s_13) e_18 ?_
    obtain ⟨hb_16a, hb_16b⟩ := hb_16
    refine aw_istore_n (ls' := [some (.ref (b + p)), some (.int s_13), none, none]) dX2_readLine_4 (Nat.le_of_ble_eq_true rfl) rfl ?_
    refine aw_iload_n dX2_readLine_5 rfl ?_
    refine aw_if_ne (tgt := 11) dX2_readLine_6 (by decide) (fun c_20 => ?_) (fun c_20 => ?_)
    rotate_left
    · first | exact (hz_17 c_20).elim | exact (c_20 hz_17).elim
    refine aw_aload_n dX2_readLine_11 rfl ?_
    refine aw_get dX2_readLine_12 fl_X2_29 ((j_3.2.1 _ hp.1 hp.2).trans hR) (by omega) rfl ?_
    obtain ⟨ts_23, tn_23, tf_23, ta_23, e_23, hta_23⟩ := JW.get j_3 ct_1
    refine aw_callVi (J' := jX10_now) (As := []) (st := []) dX2_readLine_15 tb_354 ok_X10_now ⟨_, e_23⟩ (by omega) rfl rfl (g_X10_nowS l D b N V_4 hN j_3.1 g ((JW.same q_1 (by decide) (fun k => (nfc (by omega) (nfc (by omega) nf0)))).trans hg) n a_12 ⟨by omega, by omega⟩ ((JW.fI q_1 (by omega) (nfc (by omega) (nfc (by omega) nf0))).trans hE) hk_15) rfl (Nat.le_of_ble_eq_true rfl) ⟨Nat.le_of_ble_eq_true rfl, Nat.le_of_ble_eq_true rfl, Nat.le_of_ble_eq_true rfl, Nat.le_of_ble_eq_true rfl⟩ (fun r_24 N_25 V_26 q_27 => ?_)
    obtain ⟨h_22, rfl, rfl⟩ := q_27
    refine aw_eqi (y := (hd g n a_12)) h_22 ?_
    refine aw_istore_n (ls' := [some (.ref (b + p)), some (.int s_13), some (.int (hd g n a_12)), none]) dX2_readLine_18 (Nat.le_of_ble_eq_true rfl) rfl ?_
    refine aw_iload_n dX2_readLine_19 rfl ?_
    refine aw_bipush (v := 61) dX2_readLine_20 (by decide) ?_
    refine aw_icmp_eq (tgt := 45) dX2_readLine_22 (by decide) (fun c_28 => ?_) (fun c_28 => ?_)
    · skip
      have hlc_28 := hd_lit c_28 (by decide)
      refine aw_aload_n dX2_readLine_45 rfl ?_
      refine aw_get dX2_readLine_46 fl_X2_29 ((j_3.2.1 _ hp.1 hp.2).trans hR) (by omega) rfl ?_
      refine aw_dup dX2_readLine_49 rfl ?_
      refine aw_get dX2_readLine_50 fl_X2_40 e_23 (by omega) rfl ?_
      refine aw_eqi (y := (nI a_12)) ((Eq.symm (congrArg (fun z => fI z 3) e_23)).trans hk_15) ?_
      refine aw_iconst (v := 1) dX2_readLine_53 (by decide) ?_
      refine aw_iadd dX2_readLine_54 ?_
      refine aw_eqi (y := nI (a_12 + 1)) (nI_add _ _) ?_
      refine aw_put dX2_readLine_55 fp_X2_40 e_23 (by omega) rfl rfl (Nat.le_of_ble_eq_true rfl) rfl ?_
      refine aw_up j_3 ct_1 ⟨_, _, _, (a_12 + 1), rfl, (by first | omega | (split <;> omega))⟩ (WO (s := 3) (x := .int (nI (a_12 + 1))) e_23 rfl (LMs LM0) (by decide) (by decide) (by decide) (Or.inl (by decide))) (fun V_29 j_29 k_29 e_29 => ?_)
      refine aw_aload_n dX2_readLine_58 rfl ?_
      refine aw_get dX2_readLine_59 fl_X2_29 ((j_29.2.1 _ hp.1 hp.2).trans hR) (by omega) rfl ?_
      refine aw_iconst (v := 2) dX2_readLine_62 (by decide) ?_
      refine aw_callVi (J' := jX10_readNumber) (As := [.int 2]) (st := []) dX2_readLine_63 tb_361 ok_X10_readNumber ⟨_, e_29⟩ (by omega) rfl rfl (g_X10_readNumber_2S l D b N V_29 hN j_29.1 g ((k_29 _ (by decide)).trans ((JW.same q_1 (by decide) (fun k => (nfc (by omega) (nfc (by omega) nf0)))).trans hg)) n (a_12 + 1) ⟨by omega, by omega⟩ (KA (s := 3) (x := .int (nI (a_12 + 1))) e_23 rfl (by decide) e_29 k_29 ((JW.fI q_1 (by omega) (nfc (by omega) (nfc (by omega) nf0))).trans hE)) ((congrArg (fun z => fI z 3) e_29).trans rfl)) rfl (Nat.le_of_ble_eq_true rfl) ⟨Nat.le_of_ble_eq_true rfl, Nat.le_of_ble_eq_true rfl, Nat.le_of_ble_eq_true rfl, Nat.le_of_ble_eq_true rfl⟩ (fun r_34 N_35 V_33 q_36 => ?_)
      obtain ⟨h_31, rfl, q_30⟩ := q_36
      have j_32 := JW.trans j_29 (JW.weak q_30 (Sub.cons (LMs LM0) (by decide) (by decide) (by decide) (Or.inr ⟨by decide, by decide⟩) (Sub.cons LM0 (by decide) (by decide) (by decide) (Or.inr ⟨by decide, by decide⟩) Sub.nil)))
      rcases h_31 with ⟨f_37, hx_38, hk_39, e_40⟩ | ⟨a_41, v_42, hx_43, hk_44, hb_45, e_46⟩
      · skip
        refine aw_eqi (y := (-1)) e_40 ?_
        refine aw_istore_n (ls' := [some (.ref (b + p)), some (.int s_13), some (.int (hd g n a_12)), some (.int (-1))]) dX2_readLine_66 (Nat.le_of_ble_eq_true rfl) rfl ?_
        refine aw_iload_n dX2_readLine_67 rfl ?_
        refine aw_if_ge (tgt := 73) dX2_readLine_68 (by decide) (fun c_47 => ?_) (fun c_47 => ?_)
        · exact absurd c_47 (by decide)
        refine aw_iconst (v := 0) dX2_readLine_71 (by decide) ?_
        refine aw_zreti dX2_readLine_72 rfl (by first | exact Or.inl rfl | exact Or.inr rfl | assumption) (Nat.le_of_ble_eq_true rfl) (Nat.le_of_ble_eq_true rfl) ?_
        exact ⟨⟨(by first | exact Or.inl rfl | exact Or.inr rfl | assumption), Or.inl ⟨_, lnD_n hx_14 (sgD_t (Or.inl c_28)) hx_38, hk_39, rfl⟩⟩, rfl, j_32⟩
      · skip
        refine aw_eqi (y := (nI v_42)) e_46 ?_
        obtain ⟨hb_45a, hb_45b, hb_45c⟩ := hb_45
        refine aw_istore_n (ls' := [some (.ref (b + p)), some (.int s_13), some (.int (hd g n a_12)), some (.int (nI v_42))]) dX2_readLine_66 (Nat.le_of_ble_eq_true rfl) rfl ?_
        refine aw_iload_n dX2_readLine_67 rfl ?_
        refine aw_if_ge (tgt := 73) dX2_readLine_68 (by decide) (fun c_48 => ?_) (fun c_48 => ?_)
        rotate_left
        · have nc_48 : ¬ (0 ≤ v_42) := fun z => c_48 ((nI_leI (a := 0) (b := v_42) (by omega) (by omega)).mpr z)
          omega
        have nc_48 : 0 ≤ v_42 := (nI_leI (a := 0) (b := v_42) (by omega) (by omega)).mp c_48
        refine aw_aload_n dX2_readLine_73 rfl ?_
        refine aw_get dX2_readLine_74 fl_X2_9 ((j_32.2.1 _ hp.1 hp.2).trans hR) (by omega) rfl ?_
        refine aw_dup dX2_readLine_77 rfl ?_
        obtain ⟨pe_49, dd_49, ni_49, xx_49, e_49⟩ := JW.get j_32 (ctc_0 hc)
        refine aw_get dX2_readLine_78 fl_X2_47 e_49 (by omega) rfl ?_
        refine aw_eqi (y := P) ((Eq.symm (congrArg (fun z => fI z 5) e_49)).trans ((JW.fI q_30 (by omega) (nfc (by omega) (nfc (by omega) nf0))).trans (KA (s := 3) (x := .int (nI (a_12 + 1))) e_23 rfl (by decide) e_29 k_29 ((JW.fI q_1 (by omega) (nfc (by omega) (nfc (by omega) nf0))).trans hP)))) ?_
        refine aw_iconst (v := 1) dX2_readLine_81 (by decide) ?_
        refine aw_aload_n dX2_readLine_82 rfl ?_
        refine aw_get dX2_readLine_83 fl_X2_15 ((j_32.2.1 _ hp.1 hp.2).trans hR) (by omega) rfl ?_
        refine aw_ishl dX2_readLine_86 ?_
        refine aw_ior dX2_readLine_87 ?_
        refine aw_put dX2_readLine_88 fp_X2_47 e_49 (by omega) rfl rfl (Nat.le_of_ble_eq_true rfl) rfl ?_
        refine aw_up j_32 (ctc_0 hc) ⟨_, _, _, _, rfl⟩ (WO (s := 5) (x := .int (P ||| ((1 : Int32) <<< (pn &&& 31)))) e_49 rfl (LMs (LMs LM0)) (by omega) (by omega) (by decide) (Or.inl (by decide))) (fun V_50 j_50 k_50 e_50 => ?_)
        refine aw_aload_n dX2_readLine_91 rfl ?_
        refine aw_iload_n dX2_readLine_92 rfl ?_
        refine aw_iload_n dX2_readLine_93 rfl ?_
        refine aw_iload_n dX2_readLine_94 rfl ?_
        refine aw_callVv (J' := jX2_change) (As := [.int s_13, .int (hd g n a_12), .int (nI v_42)]) (st := []) dX2_readLine_95 tb_366 ok_X2_change ⟨_, ((j_50.2.1 _ hp.1 hp.2).trans hR)⟩ (by omega) rfl rfl (g_X2_change l D b N V_50 hN j_50.1 p c pn ⟨by omega, by omega⟩ hc ((j_50.2.1 _ hp.1 hp.2).trans hR) s_13 (hd g n a_12) (nI v_42)) rfl (Nat.le_of_ble_eq_true rfl) ⟨Nat.le_of_ble_eq_true rfl, Nat.le_of_ble_eq_true rfl, Nat.le_of_ble_eq_true rfl, Nat.le_of_ble_eq_true rfl⟩ (fun  N_54 V_53 q_55 => ?_)
        obtain ⟨rfl, q_51⟩ := q_55
        have j_52 := JW.trans j_50 (JW.weak q_51 (Sub.cons (LMs (LMs (LMs LM0))) (by omega) (by omega) (by decide) (Or.inl rfl) Sub.nil))
        refine aw_iconst (v := 1) dX2_readLine_98 (by decide) ?_
        refine aw_zreti dX2_readLine_99 rfl (by first | exact Or.inl rfl | exact Or.inr rfl | assumption) (Nat.le_of_ble_eq_true rfl) (Nat.le_of_ble_eq_true rfl) ?_
        exact ⟨⟨(by first | exact Or.inl rfl | exact Or.inr rfl | assumption), Or.inr ⟨_, lnD_ok hx_14 (sgD_t (Or.inl c_28)) hx_43, ((JW.fI q_51 (by omega) (nfc (by omega) nf0)).trans (KA (s := 5) (x := .int (P ||| ((1 : Int32) <<< (pn &&& 31)))) e_49 rfl (by decide) e_50 k_50 hk_44)), ((JW.fI q_51 (by omega) (nfc (by omega) nf0)).trans ((congrArg (fun z => fI z 5) e_50).trans rfl)), ⟨by omega, by omega⟩, rfl⟩⟩, rfl, j_52⟩
    · skip
      refine aw_iload_n dX2_readLine_25 rfl ?_
      refine aw_bipush (v := 43) dX2_readLine_26 (by decide) ?_
      refine aw_icmp_eq (tgt := 45) dX2_readLine_28 (by decide) (fun c_56 => ?_) (fun c_56 => ?_)
      · skip
        have hlc_56 := hd_lit c_56 (by decide)
        refine aw_aload_n dX2_readLine_45 rfl ?_
        refine aw_get dX2_readLine_46 fl_X2_29 ((j_3.2.1 _ hp.1 hp.2).trans hR) (by omega) rfl ?_
        refine aw_dup dX2_readLine_49 rfl ?_
        refine aw_get dX2_readLine_50 fl_X2_40 e_23 (by omega) rfl ?_
        refine aw_eqi (y := (nI a_12)) ((Eq.symm (congrArg (fun z => fI z 3) e_23)).trans hk_15) ?_
        refine aw_iconst (v := 1) dX2_readLine_53 (by decide) ?_
        refine aw_iadd dX2_readLine_54 ?_
        refine aw_eqi (y := nI (a_12 + 1)) (nI_add _ _) ?_
        refine aw_put dX2_readLine_55 fp_X2_40 e_23 (by omega) rfl rfl (Nat.le_of_ble_eq_true rfl) rfl ?_
        refine aw_up j_3 ct_1 ⟨_, _, _, (a_12 + 1), rfl, (by first | omega | (split <;> omega))⟩ (WO (s := 3) (x := .int (nI (a_12 + 1))) e_23 rfl (LMs LM0) (by decide) (by decide) (by decide) (Or.inl (by decide))) (fun V_57 j_57 k_57 e_57 => ?_)
        refine aw_aload_n dX2_readLine_58 rfl ?_
        refine aw_get dX2_readLine_59 fl_X2_29 ((j_57.2.1 _ hp.1 hp.2).trans hR) (by omega) rfl ?_
        refine aw_iconst (v := 2) dX2_readLine_62 (by decide) ?_
        refine aw_callVi (J' := jX10_readNumber) (As := [.int 2]) (st := []) dX2_readLine_63 tb_361 ok_X10_readNumber ⟨_, e_57⟩ (by omega) rfl rfl (g_X10_readNumber_2S l D b N V_57 hN j_57.1 g ((k_57 _ (by decide)).trans ((JW.same q_1 (by decide) (fun k => (nfc (by omega) (nfc (by omega) nf0)))).trans hg)) n (a_12 + 1) ⟨by omega, by omega⟩ (KA (s := 3) (x := .int (nI (a_12 + 1))) e_23 rfl (by decide) e_57 k_57 ((JW.fI q_1 (by omega) (nfc (by omega) (nfc (by omega) nf0))).trans hE)) ((congrArg (fun z => fI z 3) e_57).trans rfl)) rfl (Nat.le_of_ble_eq_true rfl) ⟨Nat.le_of_ble_eq_true rfl, Nat.le_of_ble_eq_true rfl, Nat.le_of_ble_eq_true rfl, Nat.le_of_ble_eq_true rfl⟩ (fun r_62 N_63 V_61 q_64 => ?_)
        obtain ⟨h_59, rfl, q_58⟩ := q_64
        have j_60 := JW.trans j_57 (JW.weak q_58 (Sub.cons (LMs LM0) (by decide) (by decide) (by decide) (Or.inr ⟨by decide, by decide⟩) (Sub.cons LM0 (by decide) (by decide) (by decide) (Or.inr ⟨by decide, by decide⟩) Sub.nil)))
        rcases h_59 with ⟨f_65, hx_66, hk_67, e_68⟩ | ⟨a_69, v_70, hx_71, hk_72, hb_73, e_74⟩
        · skip
          refine aw_eqi (y := (-1)) e_68 ?_
          refine aw_istore_n (ls' := [some (.ref (b + p)), some (.int s_13), some (.int (hd g n a_12)), some (.int (-1))]) dX2_readLine_66 (Nat.le_of_ble_eq_true rfl) rfl ?_
          refine aw_iload_n dX2_readLine_67 rfl ?_
          refine aw_if_ge (tgt := 73) dX2_readLine_68 (by decide) (fun c_75 => ?_) (fun c_75 => ?_)
          · exact absurd c_75 (by decide)
          refine aw_iconst (v := 0) dX2_readLine_71 (by decide) ?_
          refine aw_zreti dX2_readLine_72 rfl (by first | exact Or.inl rfl | exact Or.inr rfl | assumption) (Nat.le_of_ble_eq_true rfl) (Nat.le_of_ble_eq_true rfl) ?_
          exact ⟨⟨(by first | exact Or.inl rfl | exact Or.inr rfl | assumption), Or.inl ⟨_, lnD_n hx_14 (sgD_t (Or.inr (Or.inl c_56))) hx_66, hk_67, rfl⟩⟩, rfl, j_60⟩
        · skip
          refine aw_eqi (y := (nI v_70)) e_74 ?_
          obtain ⟨hb_73a, hb_73b, hb_73c⟩ := hb_73
          refine aw_istore_n (ls' := [some (.ref (b + p)), some (.int s_13), some (.int (hd g n a_12)), some (.int (nI v_70))]) dX2_readLine_66 (Nat.le_of_ble_eq_true rfl) rfl ?_
          refine aw_iload_n dX2_readLine_67 rfl ?_
          refine aw_if_ge (tgt := 73) dX2_readLine_68 (by decide) (fun c_76 => ?_) (fun c_76 => ?_)
          rotate_left
          · have nc_76 : ¬ (0 ≤ v_70) := fun z => c_76 ((nI_leI (a := 0) (b := v_70) (by omega) (by omega)).mpr z)
            omega
          have nc_76 : 0 ≤ v_70 := (nI_leI (a := 0) (b := v_70) (by omega) (by omega)).mp c_76
          refine aw_aload_n dX2_readLine_73 rfl ?_
          refine aw_get dX2_readLine_74 fl_X2_9 ((j_60.2.1 _ hp.1 hp.2).trans hR) (by omega) rfl ?_
          refine aw_dup dX2_readLine_77 rfl ?_
          obtain ⟨pe_77, dd_77, ni_77, xx_77, e_77⟩ := JW.get j_60 (ctc_0 hc)
          refine aw_get dX2_readLine_78 fl_X2_47 e_77 (by omega) rfl ?_
          refine aw_eqi (y := P) ((Eq.symm (congrArg (fun z => fI z 5) e_77)).trans ((JW.fI q_58 (by omega) (nfc (by omega) (nfc (by omega) nf0))).trans (KA (s := 3) (x := .int (nI (a_12 + 1))) e_23 rfl (by decide) e_57 k_57 ((JW.fI q_1 (by omega) (nfc (by omega) (nfc (by omega) nf0))).trans hP)))) ?_
          refine aw_iconst (v := 1) dX2_readLine_81 (by decide) ?_
          refine aw_aload_n dX2_readLine_82 rfl ?_
          refine aw_get dX2_readLine_83 fl_X2_15 ((j_60.2.1 _ hp.1 hp.2).trans hR) (by omega) rfl ?_
          refine aw_ishl dX2_readLine_86 ?_
          refine aw_ior dX2_readLine_87 ?_
          refine aw_put dX2_readLine_88 fp_X2_47 e_77 (by omega) rfl rfl (Nat.le_of_ble_eq_true rfl) rfl ?_
          refine aw_up j_60 (ctc_0 hc) ⟨_, _, _, _, rfl⟩ (WO (s := 5) (x := .int (P ||| ((1 : Int32) <<< (pn &&& 31)))) e_77 rfl (LMs (LMs LM0)) (by omega) (by omega) (by decide) (Or.inl (by decide))) (fun V_78 j_78 k_78 e_78 => ?_)
          refine aw_aload_n dX2_readLine_91 rfl ?_
          refine aw_iload_n dX2_readLine_92 rfl ?_
          refine aw_iload_n dX2_readLine_93 rfl ?_
          refine aw_iload_n dX2_readLine_94 rfl ?_
          refine aw_callVv (J' := jX2_change) (As := [.int s_13, .int (hd g n a_12), .int (nI v_70)]) (st := []) dX2_readLine_95 tb_366 ok_X2_change ⟨_, ((j_78.2.1 _ hp.1 hp.2).trans hR)⟩ (by omega) rfl rfl (g_X2_change l D b N V_78 hN j_78.1 p c pn ⟨by omega, by omega⟩ hc ((j_78.2.1 _ hp.1 hp.2).trans hR) s_13 (hd g n a_12) (nI v_70)) rfl (Nat.le_of_ble_eq_true rfl) ⟨Nat.le_of_ble_eq_true rfl, Nat.le_of_ble_eq_true rfl, Nat.le_of_ble_eq_true rfl, Nat.le_of_ble_eq_true rfl⟩ (fun  N_82 V_81 q_83 => ?_)
          obtain ⟨rfl, q_79⟩ := q_83
          have j_80 := JW.trans j_78 (JW.weak q_79 (Sub.cons (LMs (LMs (LMs LM0))) (by omega) (by omega) (by decide) (Or.inl rfl) Sub.nil))
          refine aw_iconst (v := 1) dX2_readLine_98 (by decide) ?_
          refine aw_zreti dX2_readLine_99 rfl (by first | exact Or.inl rfl | exact Or.inr rfl | assumption) (Nat.le_of_ble_eq_true rfl) (Nat.le_of_ble_eq_true rfl) ?_
          exact ⟨⟨(by first | exact Or.inl rfl | exact Or.inr rfl | assumption), Or.inr ⟨_, lnD_ok hx_14 (sgD_t (Or.inr (Or.inl c_56))) hx_71, ((JW.fI q_79 (by omega) (nfc (by omega) nf0)).trans (KA (s := 5) (x := .int (P ||| ((1 : Int32) <<< (pn &&& 31)))) e_77 rfl (by decide) e_78 k_78 hk_72)), ((JW.fI q_79 (by omega) (nfc (by omega) nf0)).trans ((congrArg (fun z => fI z 5) e_78).trans rfl)), ⟨by omega, by omega⟩, rfl⟩⟩, rfl, j_80⟩
      · skip
        refine aw_iload_n dX2_readLine_31 rfl ?_
        refine aw_bipush (v := 45) dX2_readLine_32 (by decide) ?_
        refine aw_icmp_eq (tgt := 45) dX2_readLine_34 (by decide) (fun c_84 => ?_) (fun c_84 => ?_)
        · skip
          have hlc_84 := hd_lit c_84 (by decide)
          refine aw_aload_n dX2_readLine_45 rfl ?_
          refine aw_get dX2_readLine_46 fl_X2_29 ((j_3.2.1 _ hp.1 hp.2).trans hR) (by omega) rfl ?_
          refine aw_dup dX2_readLine_49 rfl ?_
          refine aw_get dX2_readLine_50 fl_X2_40 e_23 (by omega) rfl ?_
          refine aw_eqi (y := (nI a_12)) ((Eq.symm (congrArg (fun z => fI z 3) e_23)).trans hk_15) ?_
          refine aw_iconst (v := 1) dX2_readLine_53 (by decide) ?_
          refine aw_iadd dX2_readLine_54 ?_
          refine aw_eqi (y := nI (a_12 + 1)) (nI_add _ _) ?_
          refine aw_put dX2_readLine_55 fp_X2_40 e_23 (by omega) rfl rfl (Nat.le_of_ble_eq_true rfl) rfl ?_
          refine aw_up j_3 ct_1 ⟨_, _, _, (a_12 + 1), rfl, (by first | omega | (split <;> omega))⟩ (WO (s := 3) (x := .int (nI (a_12 + 1))) e_23 rfl (LMs LM0) (by decide) (by decide) (by decide) (Or.inl (by decide))) (fun V_85 j_85 k_85 e_85 => ?_)
          refine aw_aload_n dX2_readLine_58 rfl ?_
          refine aw_get dX2_readLine_59 fl_X2_29 ((j_85.2.1 _ hp.1 hp.2).trans hR) (by omega) rfl ?_
          refine aw_iconst (v := 2) dX2_readLine_62 (by decide) ?_
          refine aw_callVi (J' := jX10_readNumber) (As := [.int 2]) (st := []) dX2_readLine_63 tb_361 ok_X10_readNumber ⟨_, e_85⟩ (by omega) rfl rfl (g_X10_readNumber_2S l D b N V_85 hN j_85.1 g ((k_85 _ (by decide)).trans ((JW.same q_1 (by decide) (fun k => (nfc (by omega) (nfc (by omega) nf0)))).trans hg)) n (a_12 + 1) ⟨by omega, by omega⟩ (KA (s := 3) (x := .int (nI (a_12 + 1))) e_23 rfl (by decide) e_85 k_85 ((JW.fI q_1 (by omega) (nfc (by omega) (nfc (by omega) nf0))).trans hE)) ((congrArg (fun z => fI z 3) e_85).trans rfl)) rfl (Nat.le_of_ble_eq_true rfl) ⟨Nat.le_of_ble_eq_true rfl, Nat.le_of_ble_eq_true rfl, Nat.le_of_ble_eq_true rfl, Nat.le_of_ble_eq_true rfl⟩ (fun r_90 N_91 V_89 q_92 => ?_)
          obtain ⟨h_87, rfl, q_86⟩ := q_92
          have j_88 := JW.trans j_85 (JW.weak q_86 (Sub.cons (LMs LM0) (by decide) (by decide) (by decide) (Or.inr ⟨by decide, by decide⟩) (Sub.cons LM0 (by decide) (by decide) (by decide) (Or.inr ⟨by decide, by decide⟩) Sub.nil)))
          rcases h_87 with ⟨f_93, hx_94, hk_95, e_96⟩ | ⟨a_97, v_98, hx_99, hk_100, hb_101, e_102⟩
          · skip
            refine aw_eqi (y := (-1)) e_96 ?_
            refine aw_istore_n (ls' := [some (.ref (b + p)), some (.int s_13), some (.int (hd g n a_12)), some (.int (-1))]) dX2_readLine_66 (Nat.le_of_ble_eq_true rfl) rfl ?_
            refine aw_iload_n dX2_readLine_67 rfl ?_
            refine aw_if_ge (tgt := 73) dX2_readLine_68 (by decide) (fun c_103 => ?_) (fun c_103 => ?_)
            · exact absurd c_103 (by decide)
            refine aw_iconst (v := 0) dX2_readLine_71 (by decide) ?_
            refine aw_zreti dX2_readLine_72 rfl (by first | exact Or.inl rfl | exact Or.inr rfl | assumption) (Nat.le_of_ble_eq_true rfl) (Nat.le_of_ble_eq_true rfl) ?_
            exact ⟨⟨(by first | exact Or.inl rfl | exact Or.inr rfl | assumption), Or.inl ⟨_, lnD_n hx_14 (sgD_t (Or.inr (Or.inr c_84))) hx_94, hk_95, rfl⟩⟩, rfl, j_88⟩
          · skip
            refine aw_eqi (y := (nI v_98)) e_102 ?_
            obtain ⟨hb_101a, hb_101b, hb_101c⟩ := hb_101
            refine aw_istore_n (ls' := [some (.ref (b + p)), some (.int s_13), some (.int (hd g n a_12)), some (.int (nI v_98))]) dX2_readLine_66 (Nat.le_of_ble_eq_true rfl) rfl ?_
            refine aw_iload_n dX2_readLine_67 rfl ?_
            refine aw_if_ge (tgt := 73) dX2_readLine_68 (by decide) (fun c_104 => ?_) (fun c_104 => ?_)
            rotate_left
            · have nc_104 : ¬ (0 ≤ v_98) := fun z => c_104 ((nI_leI (a := 0) (b := v_98) (by omega) (by omega)).mpr z)
              omega
            have nc_104 : 0 ≤ v_98 := (nI_leI (a := 0) (b := v_98) (by omega) (by omega)).mp c_104
            refine aw_aload_n dX2_readLine_73 rfl ?_
            refine aw_get dX2_readLine_74 fl_X2_9 ((j_88.2.1 _ hp.1 hp.2).trans hR) (by omega) rfl ?_
            refine aw_dup dX2_readLine_77 rfl ?_
            obtain ⟨pe_105, dd_105, ni_105, xx_105, e_105⟩ := JW.get j_88 (ctc_0 hc)
            refine aw_get dX2_readLine_78 fl_X2_47 e_105 (by omega) rfl ?_
            refine aw_eqi (y := P) ((Eq.symm (congrArg (fun z => fI z 5) e_105)).trans ((JW.fI q_86 (by omega) (nfc (by omega) (nfc (by omega) nf0))).trans (KA (s := 3) (x := .int (nI (a_12 + 1))) e_23 rfl (by decide) e_85 k_85 ((JW.fI q_1 (by omega) (nfc (by omega) (nfc (by omega) nf0))).trans hP)))) ?_
            refine aw_iconst (v := 1) dX2_readLine_81 (by decide) ?_
            refine aw_aload_n dX2_readLine_82 rfl ?_
            refine aw_get dX2_readLine_83 fl_X2_15 ((j_88.2.1 _ hp.1 hp.2).trans hR) (by omega) rfl ?_
            refine aw_ishl dX2_readLine_86 ?_
            refine aw_ior dX2_readLine_87 ?_
            refine aw_put dX2_readLine_88 fp_X2_47 e_105 (by omega) rfl rfl (Nat.le_of_ble_eq_true rfl) rfl ?_
            refine aw_up j_88 (ctc_0 hc) ⟨_, _, _, _, rfl⟩ (WO (s := 5) (x := .int (P ||| ((1 : Int32) <<< (pn &&& 31)))) e_105 rfl (LMs (LMs LM0)) (by omega) (by omega) (by decide) (Or.inl (by decide))) (fun V_106 j_106 k_106 e_106 => ?_)
            refine aw_aload_n dX2_readLine_91 rfl ?_
            refine aw_iload_n dX2_readLine_92 rfl ?_
            refine aw_iload_n dX2_readLine_93 rfl ?_
            refine aw_iload_n dX2_readLine_94 rfl ?_
            refine aw_callVv (J' := jX2_change) (As := [.int s_13, .int (hd g n a_12), .int (nI v_98)]) (st := []) dX2_readLine_95 tb_366 ok_X2_change ⟨_, ((j_106.2.1 _ hp.1 hp.2).trans hR)⟩ (by omega) rfl rfl (g_X2_change l D b N V_106 hN j_106.1 p c pn ⟨by omega, by omega⟩ hc ((j_106.2.1 _ hp.1 hp.2).trans hR) s_13 (hd g n a_12) (nI v_98)) rfl (Nat.le_of_ble_eq_true rfl) ⟨Nat.le_of_ble_eq_true rfl, Nat.le_of_ble_eq_true rfl, Nat.le_of_ble_eq_true rfl, Nat.le_of_ble_eq_true rfl⟩ (fun  N_110 V_109 q_111 => ?_)
            obtain ⟨rfl, q_107⟩ := q_111
            have j_108 := JW.trans j_106 (JW.weak q_107 (Sub.cons (LMs (LMs (LMs LM0))) (by omega) (by omega) (by decide) (Or.inl rfl) Sub.nil))
            refine aw_iconst (v := 1) dX2_readLine_98 (by decide) ?_
            refine aw_zreti dX2_readLine_99 rfl (by first | exact Or.inl rfl | exact Or.inr rfl | assumption) (Nat.le_of_ble_eq_true rfl) (Nat.le_of_ble_eq_true rfl) ?_
            exact ⟨⟨(by first | exact Or.inl rfl | exact Or.inr rfl | assumption), Or.inr ⟨_, lnD_ok hx_14 (sgD_t (Or.inr (Or.inr c_84))) hx_99, ((JW.fI q_107 (by omega) (nfc (by omega) nf0)).trans (KA (s := 5) (x := .int (P ||| ((1 : Int32) <<< (pn &&& 31)))) e_105 rfl (by decide) e_106 k_106 hk_100)), ((JW.fI q_107 (by omega) (nfc (by omega) nf0)).trans ((congrArg (fun z => fI z 5) e_106).trans rfl)), ⟨by omega, by omega⟩, rfl⟩⟩, rfl, j_108⟩
        · skip
          refine aw_aload_n dX2_readLine_37 rfl ?_
          refine aw_get dX2_readLine_38 fl_X2_29 ((j_3.2.1 _ hp.1 hp.2).trans hR) (by omega) rfl ?_
          refine aw_callVi (J' := jX10_cannotStand) (As := []) (st := []) dX2_readLine_41 tb_360 ok_X10_cannotStand ⟨_, e_23⟩ (by omega) rfl rfl (g_X10_cannotStandS l D b N V_4 hN j_3.1 g ((JW.same q_1 (by decide) (fun k => (nfc (by omega) (nfc (by omega) nf0)))).trans hg) n a_12 ⟨by omega, by omega⟩ ((JW.fI q_1 (by omega) (nfc (by omega) (nfc (by omega) nf0))).trans hE) hk_15) rfl (Nat.le_of_ble_eq_true rfl) ⟨Nat.le_of_ble_eq_true rfl, Nat.le_of_ble_eq_true rfl, Nat.le_of_ble_eq_true rfl, Nat.le_of_ble_eq_true rfl⟩ (fun r_117 N_118 V_116 q_119 => ?_)
          obtain ⟨⟨z_114, h_113⟩, rfl, q_112⟩ := q_119
          have j_115 := JW.trans j_3 (JW.weak q_112 (Sub.cons LM0 (by decide) (by decide) (by decide) (Or.inr ⟨by decide, by decide⟩) Sub.nil))
          obtain ⟨rfl, h_113f⟩ := h_113
          refine aw_zreti dX2_readLine_44 rfl (by first | exact Or.inl rfl | exact Or.inr rfl | assumption) (Nat.le_of_ble_eq_true rfl) (Nat.le_of_ble_eq_true rfl) ?_
          exact ⟨⟨(by first | exact Or.inl rfl | exact Or.inr rfl | assumption), Or.inl ⟨_, lnD_s hx_14 (sgD_f c_28 c_56 c_84), h_113f, rfl⟩⟩, rfl, j_115⟩

set_option maxHeartbeats 20000000 in
set_option maxRecDepth 100000 in
theorem g_X6_readLines_DS2 (l : Launch) (D : va_G) (b : Nat) (N : Nat) (V : Wd) (hN : 100 ≤ N) (hW : CW D b V) (p c : Nat) (pn : Int32) (hp : 100 ≤ p ∧ p < N) (hc : c = 3 ∨ c = 21 ∨ c = 39 ∨ c = 74) (hR : V p = cO 2 [.ref (b + 1), .ref (b + c), .int pn]) (g : Nat → Int32) (hg : V 2 = cI D 260 g) (n a : Nat) (hna : a ≤ n ∧ n ≤ 240) (hE : fI (V 1) 2 = nI n) (hA : fI (V 1) 3 = nI a) (P : Int32) (hP : fI (V c) 5 = P) : MI l D b 4 jX6_readLines [.ref (b + p), .int 20] N V 0 0 (fun r N9 V9 => (r = cod (txD g n 20 a) ∧ ∀ L9 s9, txD g n 20 a = .inr (L9, s9) → fI (V9 c) 5 = P ||| (1 : Int32) <<< (pn &&& 31)) ∧ N = N9 ∧ JW D b N [(1, 1, 4, 4), (1, 1, 3, 3), (c, c, 5, 5), (c + 2, c + 13, 0, 1000000)] V V9) := by
  have hJ0 : JW D b N [(1, 1, 4, 4), (1, 1, 3, 3), (c, c, 5, 5), (c + 2, c + 13, 0, 1000000)] V V := JW.rf hW
  refine mw_of (by decide) (by simp [Value.category]) (Nat.le_of_ble_eq_true rfl) ?_
  show AW l D b jX6_readLines (fx_rm 4 0 0) none (fx_MQ D b 0 0 (fx_qi (fun r N9 V9 => (r = cod (txD g n 20 a) ∧ ∀ L9 s9, txD g n 20 a = .inr (L9, s9) → fI (V9 c) 5 = P ||| (1 : Int32) <<< (pn &&& 31)) ∧ N = N9 ∧ JW D b N [(1, 1, 4, 4), (1, 1, 3, 3), (c, c, 5, 5), (c + 2, c + 13, 0, 1000000)] V V9))) 0 [some (.ref (b + p)), some (.int 20), none] [] N V 0 0
  refine aw_iconst (v := 0) dX6_readLines_0 (by decide) ?_
  refine aw_istore_n (ls' := [some (.ref (b + p)), some (.int 20), some (.int 0)]) dX6_readLines_1 (Nat.le_of_ble_eq_true rfl) rfl ?_
  have ml_2_1 : ∀ (m : Nat) (a2 : Nat) (j2 : Nat) (P2 : Int32) (V2 : Wd), m = 21 - j2 → (JW D b N [(1, 1, 4, 4), (1, 1, 3, 3), (c, c, 5, 5), (c + 2, c + 13, 0, 1000000)] V V2) → (fI (V2 1) 2 = nI n) → (fI (V2 1) 3 = nI a2) → (V2 2 = cI D 260 g) → ((j2 = 0 ∧ a2 = a ∧ P2 = P) ∨ (0 < j2 ∧ afD g n (20 - j2) a2 = txD g n 20 a ∧ P2 = P ||| (1 : Int32) <<< (pn &&& 31))) → (j2 ≤ 20 ∧ a ≤ a2 ∧ a2 ≤ n) → (fI (V2 c) 5 = P2) → AW l D b jX6_readLines (fx_rm 4 0 0) none (fx_MQ D b 0 0 (fx_qi (fun r N9 V9 => (r = cod (txD g n 20 a) ∧ ∀ L9 s9, txD g n 20 a = .inr (L9, s9) → fI (V9 c) 5 = P ||| (1 : Int32) <<< (pn &&& 31)) ∧ N = N9 ∧ JW D b N [(1, 1, 4, 4), (1, 1, 3, 3), (c, c, 5, 5), (c + 2, c + 13, 0, 1000000)] V V9))) 2 [some (.ref (b + p)), some (.int 20), some (.int (nI j2))] [] N V2 0 0 := by
    intro m; refine Nat.strongRecOn m ?_
    intro m mih_2_1 a2 j2 P2 V2 hm2 i2_0 i2_1 i2_2 i2_3 i2_4 i2_5 i2_6
    refine aw_iload_n dX6_readLines_2 rfl ?_
    refine aw_iload_n dX6_readLines_3 rfl ?_
    refine aw_icmp_gt (tgt := 130) dX6_readLines_4 (by decide) (fun c_2 => ?_) (fun c_2 => ?_)
    · have nc_2 : 20 < j2 := (nI_ltI (a := 20) (b := j2) (by omega) (by omega)).mp c_2
      omega
    have nc_2 : ¬ (20 < j2) := fun z => c_2 ((nI_ltI (a := 20) (b := j2) (by omega) (by omega)).mpr z)
    refine aw_iload_n dX6_readLines_7 rfl ?_
    refine aw_if_le (tgt := 50) dX6_readLines_8 (by decide) (fun c_3 => ?_) (fun c_3 => ?_)
    · skip
      have nc_3 : j2 ≤ 0 := (nI_leI (a := j2) (b := 0) (by omega) (by omega)).mp c_3
      have hT : txD g n (20 - j2) a2 = txD g n 20 a := by obtain ⟨e1, e2, e3⟩ := (i2_4).resolve_right (fun z => by omega); rw [e1, e2]
      refine aw_aload_n dX6_readLines_50 rfl ?_
      refine aw_aload_n dX6_readLines_51 rfl ?_
      refine aw_get dX6_readLines_52 fl_X6_9_2 ((i2_0.2.1 _ hp.1 hp.2).trans hR) (by omega) rfl ?_
      obtain ⟨ts_6, tn_6, tf_6, ta_6, e_6, hta_6⟩ := JW.get i2_0 ct_1
      refine aw_callVi (J' := jX10_now) (As := []) (st := [.ref (b + p)]) dX6_readLines_55 tb_319 ok_X10_now ⟨_, e_6⟩ (by omega) rfl rfl (g_X10_nowS l D b N V2 hN i2_0.1 g i2_3 n a2 ⟨by omega, by omega⟩ i2_1 i2_2) rfl (Nat.le_of_ble_eq_true rfl) ⟨Nat.le_of_ble_eq_true rfl, Nat.le_of_ble_eq_true rfl, Nat.le_of_ble_eq_true rfl, Nat.le_of_ble_eq_true rfl⟩ (fun r_7 N_8 V_9 q_10 => ?_)
      obtain ⟨h_5, rfl, rfl⟩ := q_10
      refine aw_eqi (y := (hd g n a2)) h_5 ?_
      refine aw_callWi (J' := jX2_startsLine) (y := ({ cls := "FearLocks$LinesReader", name := "startsLine", desc := "(I)Z" } : Jvm.MethodName)) (RC := "FearLocks$DreadsReader") (owner := "FearLocks$LinesReader") (As := [.int (hd g n a2)]) (st := []) dX6_readLines_58 tb_320 okW_X2_startsLine_X2 ⟨_, ((i2_0.2.1 _ hp.1 hp.2).trans hR)⟩ (by omega) rfl rfl (g_X2_startsLineS l D b N V2 hN i2_0.1 p c pn ⟨by omega, by omega⟩ hc ((i2_0.2.1 _ hp.1 hp.2).trans hR) (hd g n a2)) rfl (Nat.le_of_ble_eq_true rfl) ⟨Nat.le_of_ble_eq_true rfl, Nat.le_of_ble_eq_true rfl, Nat.le_of_ble_eq_true rfl, Nat.le_of_ble_eq_true rfl⟩ (fun r_14 N_15 V_16 q_17 => ?_)
      obtain ⟨⟨z_13, h_12⟩, rfl, rfl⟩ := q_17
      rcases h_12 with ⟨hy_18, e_19⟩ | ⟨hn_20, e_21⟩
      · skip
        refine aw_eqi (y := 1) e_19 ?_
        refine aw_if_ne (tgt := 80) dX6_readLines_61 (by decide) (fun c_22 => ?_) (fun c_22 => ?_)
        rotate_left
        · exact absurd c_22 (by decide)
        refine aw_iload_n dX6_readLines_80 rfl ?_
        refine aw_iload_n dX6_readLines_81 rfl ?_
        refine aw_icmp_ne (tgt := 109) dX6_readLines_82 (by decide) (fun c_23 => ?_) (fun c_23 => ?_)
        · skip
          have nc_23 : ¬ (j2 = 20) := fun z => c_23 ((nI_eq (a := j2) (b := 20) (by omega) (by omega)).mpr z)
          refine aw_aload_n dX6_readLines_109 rfl ?_
          refine aw_callWi (J' := jX2_readLine) (y := ({ cls := "FearLocks$LinesReader", name := "readLine", desc := "()Z" } : Jvm.MethodName)) (RC := "FearLocks$DreadsReader") (owner := "FearLocks$LinesReader") (As := []) (st := []) dX6_readLines_110 tb_343 okW_X2_readLine_X2 ⟨_, ((i2_0.2.1 _ hp.1 hp.2).trans hR)⟩ (by omega) rfl rfl (g_X2_readLineS2 l D b N V2 hN i2_0.1 p c pn ⟨by omega, by omega⟩ hc ((i2_0.2.1 _ hp.1 hp.2).trans hR) g i2_3 n a2 ⟨by omega, by omega⟩ i2_1 i2_2 P2 i2_6 hy_18) rfl (Nat.le_of_ble_eq_true rfl) ⟨Nat.le_of_ble_eq_true rfl, Nat.le_of_ble_eq_true rfl, Nat.le_of_ble_eq_true rfl, Nat.le_of_ble_eq_true rfl⟩ (fun r_29 N_30 V_28 q_31 => ?_)
          obtain ⟨⟨z_26, h_25⟩, rfl, q_24⟩ := q_31
          have j_27 := JW.trans i2_0 (JW.weak q_24 (Sub.cons LM0 (by decide) (by decide) (by decide) (Or.inr ⟨by decide, by decide⟩) (Sub.cons (LMs LM0) (by decide) (by decide) (by decide) (Or.inr ⟨by decide, by decide⟩) (Sub.cons (LMs (LMs LM0)) (by omega) (by omega) (by decide) (Or.inr ⟨by decide, by decide⟩) (Sub.cons (LMs (LMs (LMs LM0))) (by omega) (by omega) (by decide) (Or.inl rfl) Sub.nil)))))
          rcases h_25 with ⟨f_32, hx_33, hk_34, e_35⟩ | ⟨a_36, hx_37, hk_38, hp_39, hb_40, e_41⟩
          · skip
            refine aw_eqi (y := 0) e_35 ?_
            refine aw_if_ne (tgt := 124) dX6_readLines_113 (by decide) (fun c_42 => ?_) (fun c_42 => ?_)
            · exact absurd rfl c_42
            refine aw_aload_n dX6_readLines_116 rfl ?_
            refine aw_get dX6_readLines_117 fl_X6_9_2 ((j_27.2.1 _ hp.1 hp.2).trans hR) (by omega) rfl ?_
            obtain ⟨ts_43, tn_43, tf_43, ta_43, e_43, hta_43⟩ := JW.get j_27 ct_1
            refine aw_get dX6_readLines_120 fl_X6_28 e_43 (by omega) rfl ?_
            refine aw_eqi (y := f_32) ((Eq.symm (congrArg (fun z => fI z 4) e_43)).trans hk_34) ?_
            refine aw_ireti dX6_readLines_123 rfl (Nat.le_of_ble_eq_true rfl) (Nat.le_of_ble_eq_true rfl) ?_
            exact ⟨⟨(congrArg cod (hT.symm.trans (tx_bad hy_18 hx_33 (by omega)))).symm, fun L9 s9 e => by have q := (hT.symm.trans (tx_bad hy_18 hx_33 (by omega))).symm.trans e; cases q⟩, rfl, j_27⟩
          · skip
            refine aw_eqi (y := 1) e_41 ?_
            obtain ⟨hb_40a, hb_40b⟩ := hb_40
            refine aw_if_ne (tgt := 124) dX6_readLines_113 (by decide) (fun c_44 => ?_) (fun c_44 => ?_)
            rotate_left
            · exact absurd c_44 (by decide)
            refine aw_iinc (v := (nI (j2 + 1))) (ls' := [some (.ref (b + p)), some (.int 20), some (.int (nI (j2 + 1)))]) dX6_readLines_124 rfl (fx_up_1 _) (Nat.le_of_ble_eq_true rfl) rfl ?_
            refine aw_goto (tgt := 2) dX6_readLines_127 (by decide) ?_
            refine aw_le ?_ (mih_2_1 _ (by omega) a_36 (j2 + 1) (P2 ||| (1 : Int32) <<< (pn &&& 31)) V_28 rfl (j_27) (((JW.fI q_24 (by omega) (nfc (by omega) (nfc (by omega) (nfc (by omega) (nfc (by omega) nf0))))).trans i2_1)) (hk_38) (((JW.same q_24 (by decide) (fun k => (nfc (by omega) (nfc (by omega) (nfc (by omega) (nfc (by omega) nf0)))))).trans i2_3)) (Or.inr ⟨by omega, (by have q := (tx_go (M := 20) (ln := (fun a _ => lnD g n a)) hy_18 hx_37 (by omega)).symm.trans hT; rw [show 20 - j2 - 1 = 20 - (j2 + 1) by omega] at q; exact q), by rcases i2_4 with ⟨_, _, e⟩ | ⟨_, _, e⟩; rw [e]; rw [e, or_or]⟩) (⟨by omega, by omega, by omega⟩) (hp_39))
            exact ⟨rfl, ⟨rfl, ⟨rfl, trivial⟩⟩⟩
        · skip
          have nc_23 : j2 = 20 := (nI_eq (a := j2) (b := 20) (by omega) (by omega)).mp c_23
          refine aw_aload_n dX6_readLines_85 rfl ?_
          refine aw_get dX6_readLines_86 fl_X6_9_2 ((i2_0.2.1 _ hp.1 hp.2).trans hR) (by omega) rfl ?_
          refine aw_iconst (v := 4) dX6_readLines_89 (by decide) ?_
          refine aw_aload_n dX6_readLines_90 rfl ?_
          refine aw_get dX6_readLines_91 fl_X6_9_2 ((i2_0.2.1 _ hp.1 hp.2).trans hR) (by omega) rfl ?_
          refine aw_get dX6_readLines_94 fl_X6_15 e_6 (by omega) rfl ?_
          refine aw_eqi (y := (nI a2)) ((Eq.symm (congrArg (fun z => fI z 3) e_6)).trans i2_2) ?_
          refine aw_callVi (J' := jX10_fail) (As := [.int 4, .int (nI a2)]) (st := []) dX6_readLines_97 tb_342 ok_X10_fail ⟨_, e_6⟩ (by omega) rfl rfl (g_X10_failS l D b N V2 hN i2_0.1 4 (nI a2)) rfl (Nat.le_of_ble_eq_true rfl) ⟨Nat.le_of_ble_eq_true rfl, Nat.le_of_ble_eq_true rfl, Nat.le_of_ble_eq_true rfl, Nat.le_of_ble_eq_true rfl⟩ (fun r_50 N_51 V_49 q_52 => ?_)
          obtain ⟨⟨z_47, h_46⟩, rfl, q_45⟩ := q_52
          have j_48 := JW.trans i2_0 (JW.weak q_45 (Sub.cons LM0 (by decide) (by decide) (by decide) (Or.inr ⟨by decide, by decide⟩) Sub.nil))
          obtain ⟨rfl, h_46f⟩ := h_46
          refine aw_pop dX6_readLines_100 rfl ?_
          refine aw_aload_n dX6_readLines_101 rfl ?_
          refine aw_get dX6_readLines_102 fl_X6_9_2 ((j_48.2.1 _ hp.1 hp.2).trans hR) (by omega) rfl ?_
          obtain ⟨ts_53, tn_53, tf_53, ta_53, e_53, hta_53⟩ := JW.get j_48 ct_1
          refine aw_get dX6_readLines_105 fl_X6_28 e_53 (by omega) rfl ?_
          refine aw_eqi (y := (flt 4 a2)) ((Eq.symm (congrArg (fun z => fI z 4) e_53)).trans h_46f) ?_
          refine aw_ireti dX6_readLines_108 rfl (Nat.le_of_ble_eq_true rfl) (Nat.le_of_ble_eq_true rfl) ?_
          exact ⟨⟨(congrArg cod (hT.symm.trans ((congrArg (fun q => txD g n q a2) (by omega : 20 - j2 = 0)).trans (tx_many hy_18)))).symm, fun L9 s9 e => by have q := (hT.symm.trans ((congrArg (fun q => txD g n q a2) (by omega : 20 - j2 = 0)).trans (tx_many hy_18))).symm.trans e; cases q⟩, rfl, j_48⟩
      · skip
        refine aw_eqi (y := 0) e_21 ?_
        refine aw_if_ne (tgt := 80) dX6_readLines_61 (by decide) (fun c_54 => ?_) (fun c_54 => ?_)
        · exact absurd rfl c_54
        refine aw_aload_n dX6_readLines_64 rfl ?_
        refine aw_get dX6_readLines_65 fl_X6_9_2 ((i2_0.2.1 _ hp.1 hp.2).trans hR) (by omega) rfl ?_
        refine aw_callVi (J' := jX10_cannotStand) (As := []) (st := []) dX6_readLines_68 tb_338 ok_X10_cannotStand ⟨_, e_6⟩ (by omega) rfl rfl (g_X10_cannotStandS l D b N V2 hN i2_0.1 g i2_3 n a2 ⟨by omega, by omega⟩ i2_1 i2_2) rfl (Nat.le_of_ble_eq_true rfl) ⟨Nat.le_of_ble_eq_true rfl, Nat.le_of_ble_eq_true rfl, Nat.le_of_ble_eq_true rfl, Nat.le_of_ble_eq_true rfl⟩ (fun r_60 N_61 V_59 q_62 => ?_)
        obtain ⟨⟨z_57, h_56⟩, rfl, q_55⟩ := q_62
        have j_58 := JW.trans i2_0 (JW.weak q_55 (Sub.cons LM0 (by decide) (by decide) (by decide) (Or.inr ⟨by decide, by decide⟩) Sub.nil))
        obtain ⟨rfl, h_56f⟩ := h_56
        refine aw_pop dX6_readLines_71 rfl ?_
        refine aw_aload_n dX6_readLines_72 rfl ?_
        refine aw_get dX6_readLines_73 fl_X6_9_2 ((j_58.2.1 _ hp.1 hp.2).trans hR) (by omega) rfl ?_
        obtain ⟨ts_63, tn_63, tf_63, ta_63, e_63, hta_63⟩ := JW.get j_58 ct_1
        refine aw_get dX6_readLines_76 fl_X6_28 e_63 (by omega) rfl ?_
        refine aw_eqi (y := (flt 1 a2)) ((Eq.symm (congrArg (fun z => fI z 4) e_63)).trans h_56f) ?_
        refine aw_ireti dX6_readLines_79 rfl (Nat.le_of_ble_eq_true rfl) (Nat.le_of_ble_eq_true rfl) ?_
        exact ⟨⟨(congrArg cod (hT.symm.trans (tx_st hn_20))).symm, fun L9 s9 e => by have q := (hT.symm.trans (tx_st hn_20)).symm.trans e; cases q⟩, rfl, j_58⟩
    · skip
      have nc_3 : ¬ (j2 ≤ 0) := fun z => c_3 ((nI_leI (a := j2) (b := 0) (by omega) (by omega)).mpr z)
      refine aw_aload_n dX6_readLines_11 rfl ?_
      refine aw_get dX6_readLines_12 fl_X6_9_2 ((i2_0.2.1 _ hp.1 hp.2).trans hR) (by omega) rfl ?_
      obtain ⟨ts_64, tn_64, tf_64, ta_64, e_64, hta_64⟩ := JW.get i2_0 ct_1
      refine aw_get dX6_readLines_15 fl_X6_15 e_64 (by omega) rfl ?_
      refine aw_eqi (y := (nI a2)) ((Eq.symm (congrArg (fun z => fI z 3) e_64)).trans i2_2) ?_
      refine aw_aload_n dX6_readLines_18 rfl ?_
      refine aw_get dX6_readLines_19 fl_X6_9_2 ((i2_0.2.1 _ hp.1 hp.2).trans hR) (by omega) rfl ?_
      refine aw_get dX6_readLines_22 fl_X6_21 e_64 (by omega) rfl ?_
      refine aw_eqi (y := (nI n)) ((Eq.symm (congrArg (fun z => fI z 2) e_64)).trans i2_1) ?_
      refine aw_icmp_lt (tgt := 30) dX6_readLines_25 (by decide) (fun c_65 => ?_) (fun c_65 => ?_)
      · skip
        have nc_65 : a2 < n := (nI_ltI (a := a2) (b := n) (by omega) (by omega)).mp c_65
        refine aw_aload_n dX6_readLines_30 rfl ?_
        refine aw_get dX6_readLines_31 fl_X6_9_2 ((i2_0.2.1 _ hp.1 hp.2).trans hR) (by omega) rfl ?_
        refine aw_bipush (v := 59) dX6_readLines_34 (by decide) ?_
        refine aw_callVi (J' := jX10_expect) (As := [.int 59]) (st := []) dX6_readLines_36 tb_307 ok_X10_expect ⟨_, e_64⟩ (by omega) rfl rfl (g_X10_expectS l D b N V2 hN i2_0.1 59 g i2_3 n a2 ⟨by omega, by omega⟩ i2_1 i2_2) rfl (Nat.le_of_ble_eq_true rfl) ⟨Nat.le_of_ble_eq_true rfl, Nat.le_of_ble_eq_true rfl, Nat.le_of_ble_eq_true rfl, Nat.le_of_ble_eq_true rfl⟩ (fun r_71 N_72 V_70 q_73 => ?_)
        obtain ⟨⟨z_68, h_67⟩, rfl, q_66⟩ := q_73
        have j_69 := JW.trans i2_0 (JW.weak q_66 (Sub.cons (LMs LM0) (by decide) (by decide) (by decide) (Or.inr ⟨by decide, by decide⟩) (Sub.cons LM0 (by decide) (by decide) (by decide) (Or.inr ⟨by decide, by decide⟩) Sub.nil)))
        rcases h_67 with ⟨hy_74, hk_75, e_76⟩ | ⟨hn_77, hk_78, e_79⟩
        · skip
          refine aw_eqi (y := 1) e_76 ?_
          have hlhy_74 := hd_lit hy_74 (by decide)
          refine aw_if_ne (tgt := 50) dX6_readLines_39 (by decide) (fun c_80 => ?_) (fun c_80 => ?_)
          rotate_left
          · exact absurd c_80 (by decide)
          have hT : txD g n (20 - j2) (a2 + 1) = txD g n 20 a := (af_go hy_74).symm.trans ((i2_4).resolve_left (fun z => by omega)).2.1
          refine aw_aload_n dX6_readLines_50 rfl ?_
          refine aw_aload_n dX6_readLines_51 rfl ?_
          refine aw_get dX6_readLines_52 fl_X6_9_2 ((j_69.2.1 _ hp.1 hp.2).trans hR) (by omega) rfl ?_
          obtain ⟨ts_83, tn_83, tf_83, ta_83, e_83, hta_83⟩ := JW.get j_69 ct_1
          refine aw_callVi (J' := jX10_now) (As := []) (st := [.ref (b + p)]) dX6_readLines_55 tb_319 ok_X10_now ⟨_, e_83⟩ (by omega) rfl rfl (g_X10_nowS l D b N V_70 hN j_69.1 g ((JW.same q_66 (by decide) (fun k => (nfc (by omega) (nfc (by omega) nf0)))).trans i2_3) n (a2 + 1) ⟨by omega, by omega⟩ ((JW.fI q_66 (by omega) (nfc (by omega) (nfc (by omega) nf0))).trans i2_1) hk_75) rfl (Nat.le_of_ble_eq_true rfl) ⟨Nat.le_of_ble_eq_true rfl, Nat.le_of_ble_eq_true rfl, Nat.le_of_ble_eq_true rfl, Nat.le_of_ble_eq_true rfl⟩ (fun r_84 N_85 V_86 q_87 => ?_)
          obtain ⟨h_82, rfl, rfl⟩ := q_87
          refine aw_eqi (y := (hd g n (a2 + 1))) h_82 ?_
          refine aw_callWi (J' := jX2_startsLine) (y := ({ cls := "FearLocks$LinesReader", name := "startsLine", desc := "(I)Z" } : Jvm.MethodName)) (RC := "FearLocks$DreadsReader") (owner := "FearLocks$LinesReader") (As := [.int (hd g n (a2 + 1))]) (st := []) dX6_readLines_58 tb_320 okW_X2_startsLine_X2 ⟨_, ((j_69.2.1 _ hp.1 hp.2).trans hR)⟩ (by omega) rfl rfl (g_X2_startsLineS l D b N V_70 hN j_69.1 p c pn ⟨by omega, by omega⟩ hc ((j_69.2.1 _ hp.1 hp.2).trans hR) (hd g n (a2 + 1))) rfl (Nat.le_of_ble_eq_true rfl) ⟨Nat.le_of_ble_eq_true rfl, Nat.le_of_ble_eq_true rfl, Nat.le_of_ble_eq_true rfl, Nat.le_of_ble_eq_true rfl⟩ (fun r_91 N_92 V_93 q_94 => ?_)
          obtain ⟨⟨z_90, h_89⟩, rfl, rfl⟩ := q_94
          rcases h_89 with ⟨hy_95, e_96⟩ | ⟨hn_97, e_98⟩
          · skip
            refine aw_eqi (y := 1) e_96 ?_
            refine aw_if_ne (tgt := 80) dX6_readLines_61 (by decide) (fun c_99 => ?_) (fun c_99 => ?_)
            rotate_left
            · exact absurd c_99 (by decide)
            refine aw_iload_n dX6_readLines_80 rfl ?_
            refine aw_iload_n dX6_readLines_81 rfl ?_
            refine aw_icmp_ne (tgt := 109) dX6_readLines_82 (by decide) (fun c_100 => ?_) (fun c_100 => ?_)
            · skip
              have nc_100 : ¬ (j2 = 20) := fun z => c_100 ((nI_eq (a := j2) (b := 20) (by omega) (by omega)).mpr z)
              refine aw_aload_n dX6_readLines_109 rfl ?_
              refine aw_callWi (J' := jX2_readLine) (y := ({ cls := "FearLocks$LinesReader", name := "readLine", desc := "()Z" } : Jvm.MethodName)) (RC := "FearLocks$DreadsReader") (owner := "FearLocks$LinesReader") (As := []) (st := []) dX6_readLines_110 tb_343 okW_X2_readLine_X2 ⟨_, ((j_69.2.1 _ hp.1 hp.2).trans hR)⟩ (by omega) rfl rfl (g_X2_readLineS2 l D b N V_70 hN j_69.1 p c pn ⟨by omega, by omega⟩ hc ((j_69.2.1 _ hp.1 hp.2).trans hR) g ((JW.same q_66 (by decide) (fun k => (nfc (by omega) (nfc (by omega) nf0)))).trans i2_3) n (a2 + 1) ⟨by omega, by omega⟩ ((JW.fI q_66 (by omega) (nfc (by omega) (nfc (by omega) nf0))).trans i2_1) hk_75 P2 ((JW.fI q_66 (by omega) (nfc (by omega) (nfc (by omega) nf0))).trans i2_6) hy_95) rfl (Nat.le_of_ble_eq_true rfl) ⟨Nat.le_of_ble_eq_true rfl, Nat.le_of_ble_eq_true rfl, Nat.le_of_ble_eq_true rfl, Nat.le_of_ble_eq_true rfl⟩ (fun r_106 N_107 V_105 q_108 => ?_)
              obtain ⟨⟨z_103, h_102⟩, rfl, q_101⟩ := q_108
              have j_104 := JW.trans j_69 (JW.weak q_101 (Sub.cons LM0 (by decide) (by decide) (by decide) (Or.inr ⟨by decide, by decide⟩) (Sub.cons (LMs LM0) (by decide) (by decide) (by decide) (Or.inr ⟨by decide, by decide⟩) (Sub.cons (LMs (LMs LM0)) (by omega) (by omega) (by decide) (Or.inr ⟨by decide, by decide⟩) (Sub.cons (LMs (LMs (LMs LM0))) (by omega) (by omega) (by decide) (Or.inl rfl) Sub.nil)))))
              rcases h_102 with ⟨f_109, hx_110, hk_111, e_112⟩ | ⟨a_113, hx_114, hk_115, hp_116, hb_117, e_118⟩
              · skip
                refine aw_eqi (y := 0) e_112 ?_
                refine aw_if_ne (tgt := 124) dX6_readLines_113 (by decide) (fun c_119 => ?_) (fun c_119 => ?_)
                · exact absurd rfl c_119
                refine aw_aload_n dX6_readLines_116 rfl ?_
                refine aw_get dX6_readLines_117 fl_X6_9_2 ((j_104.2.1 _ hp.1 hp.2).trans hR) (by omega) rfl ?_
                obtain ⟨ts_120, tn_120, tf_120, ta_120, e_120, hta_120⟩ := JW.get j_104 ct_1
                refine aw_get dX6_readLines_120 fl_X6_28 e_120 (by omega) rfl ?_
                refine aw_eqi (y := f_109) ((Eq.symm (congrArg (fun z => fI z 4) e_120)).trans hk_111) ?_
                refine aw_ireti dX6_readLines_123 rfl (Nat.le_of_ble_eq_true rfl) (Nat.le_of_ble_eq_true rfl) ?_
                exact ⟨⟨(congrArg cod (hT.symm.trans (tx_bad hy_95 hx_110 (by omega)))).symm, fun L9 s9 e => by have q := (hT.symm.trans (tx_bad hy_95 hx_110 (by omega))).symm.trans e; cases q⟩, rfl, j_104⟩
              · skip
                refine aw_eqi (y := 1) e_118 ?_
                obtain ⟨hb_117a, hb_117b⟩ := hb_117
                refine aw_if_ne (tgt := 124) dX6_readLines_113 (by decide) (fun c_121 => ?_) (fun c_121 => ?_)
                rotate_left
                · exact absurd c_121 (by decide)
                refine aw_iinc (v := (nI (j2 + 1))) (ls' := [some (.ref (b + p)), some (.int 20), some (.int (nI (j2 + 1)))]) dX6_readLines_124 rfl (fx_up_1 _) (Nat.le_of_ble_eq_true rfl) rfl ?_
                refine aw_goto (tgt := 2) dX6_readLines_127 (by decide) ?_
                refine aw_le ?_ (mih_2_1 _ (by omega) a_113 (j2 + 1) (P2 ||| (1 : Int32) <<< (pn &&& 31)) V_105 rfl (j_104) (((JW.fI q_101 (by omega) (nfc (by omega) (nfc (by omega) (nfc (by omega) (nfc (by omega) nf0))))).trans ((JW.fI q_66 (by omega) (nfc (by omega) (nfc (by omega) nf0))).trans i2_1))) (hk_115) (((JW.same q_101 (by decide) (fun k => (nfc (by omega) (nfc (by omega) (nfc (by omega) (nfc (by omega) nf0)))))).trans ((JW.same q_66 (by decide) (fun k => (nfc (by omega) (nfc (by omega) nf0)))).trans i2_3))) (Or.inr ⟨by omega, (by have q := (tx_go (M := 20) (ln := (fun a _ => lnD g n a)) hy_95 hx_114 (by omega)).symm.trans hT; rw [show 20 - j2 - 1 = 20 - (j2 + 1) by omega] at q; exact q), by rcases i2_4 with ⟨_, _, e⟩ | ⟨_, _, e⟩; rw [e]; rw [e, or_or]⟩) (⟨by omega, by omega, by omega⟩) (hp_116))
                exact ⟨rfl, ⟨rfl, ⟨rfl, trivial⟩⟩⟩
            · skip
              have nc_100 : j2 = 20 := (nI_eq (a := j2) (b := 20) (by omega) (by omega)).mp c_100
              refine aw_aload_n dX6_readLines_85 rfl ?_
              refine aw_get dX6_readLines_86 fl_X6_9_2 ((j_69.2.1 _ hp.1 hp.2).trans hR) (by omega) rfl ?_
              refine aw_iconst (v := 4) dX6_readLines_89 (by decide) ?_
              refine aw_aload_n dX6_readLines_90 rfl ?_
              refine aw_get dX6_readLines_91 fl_X6_9_2 ((j_69.2.1 _ hp.1 hp.2).trans hR) (by omega) rfl ?_
              refine aw_get dX6_readLines_94 fl_X6_15 e_83 (by omega) rfl ?_
              refine aw_eqi (y := (nI (a2 + 1))) ((Eq.symm (congrArg (fun z => fI z 3) e_83)).trans hk_75) ?_
              refine aw_callVi (J' := jX10_fail) (As := [.int 4, .int (nI (a2 + 1))]) (st := []) dX6_readLines_97 tb_342 ok_X10_fail ⟨_, e_83⟩ (by omega) rfl rfl (g_X10_failS l D b N V_70 hN j_69.1 4 (nI (a2 + 1))) rfl (Nat.le_of_ble_eq_true rfl) ⟨Nat.le_of_ble_eq_true rfl, Nat.le_of_ble_eq_true rfl, Nat.le_of_ble_eq_true rfl, Nat.le_of_ble_eq_true rfl⟩ (fun r_127 N_128 V_126 q_129 => ?_)
              obtain ⟨⟨z_124, h_123⟩, rfl, q_122⟩ := q_129
              have j_125 := JW.trans j_69 (JW.weak q_122 (Sub.cons LM0 (by decide) (by decide) (by decide) (Or.inr ⟨by decide, by decide⟩) Sub.nil))
              obtain ⟨rfl, h_123f⟩ := h_123
              refine aw_pop dX6_readLines_100 rfl ?_
              refine aw_aload_n dX6_readLines_101 rfl ?_
              refine aw_get dX6_readLines_102 fl_X6_9_2 ((j_125.2.1 _ hp.1 hp.2).trans hR) (by omega) rfl ?_
              obtain ⟨ts_130, tn_130, tf_130, ta_130, e_130, hta_130⟩ := JW.get j_125 ct_1
              refine aw_get dX6_readLines_105 fl_X6_28 e_130 (by omega) rfl ?_
              refine aw_eqi (y := (flt 4 (a2 + 1))) ((Eq.symm (congrArg (fun z => fI z 4) e_130)).trans h_123f) ?_
              refine aw_ireti dX6_readLines_108 rfl (Nat.le_of_ble_eq_true rfl) (Nat.le_of_ble_eq_true rfl) ?_
              exact ⟨⟨(congrArg cod (hT.symm.trans ((congrArg (fun q => txD g n q (a2 + 1)) (by omega : 20 - j2 = 0)).trans (tx_many hy_95)))).symm, fun L9 s9 e => by have q := (hT.symm.trans ((congrArg (fun q => txD g n q (a2 + 1)) (by omega : 20 - j2 = 0)).trans (tx_many hy_95))).symm.trans e; cases q⟩, rfl, j_125⟩
          · skip
            refine aw_eqi (y := 0) e_98 ?_
            refine aw_if_ne (tgt := 80) dX6_readLines_61 (by decide) (fun c_131 => ?_) (fun c_131 => ?_)
            · exact absurd rfl c_131
            refine aw_aload_n dX6_readLines_64 rfl ?_
            refine aw_get dX6_readLines_65 fl_X6_9_2 ((j_69.2.1 _ hp.1 hp.2).trans hR) (by omega) rfl ?_
            refine aw_callVi (J' := jX10_cannotStand) (As := []) (st := []) dX6_readLines_68 tb_338 ok_X10_cannotStand ⟨_, e_83⟩ (by omega) rfl rfl (g_X10_cannotStandS l D b N V_70 hN j_69.1 g ((JW.same q_66 (by decide) (fun k => (nfc (by omega) (nfc (by omega) nf0)))).trans i2_3) n (a2 + 1) ⟨by omega, by omega⟩ ((JW.fI q_66 (by omega) (nfc (by omega) (nfc (by omega) nf0))).trans i2_1) hk_75) rfl (Nat.le_of_ble_eq_true rfl) ⟨Nat.le_of_ble_eq_true rfl, Nat.le_of_ble_eq_true rfl, Nat.le_of_ble_eq_true rfl, Nat.le_of_ble_eq_true rfl⟩ (fun r_137 N_138 V_136 q_139 => ?_)
            obtain ⟨⟨z_134, h_133⟩, rfl, q_132⟩ := q_139
            have j_135 := JW.trans j_69 (JW.weak q_132 (Sub.cons LM0 (by decide) (by decide) (by decide) (Or.inr ⟨by decide, by decide⟩) Sub.nil))
            obtain ⟨rfl, h_133f⟩ := h_133
            refine aw_pop dX6_readLines_71 rfl ?_
            refine aw_aload_n dX6_readLines_72 rfl ?_
            refine aw_get dX6_readLines_73 fl_X6_9_2 ((j_135.2.1 _ hp.1 hp.2).trans hR) (by omega) rfl ?_
            obtain ⟨ts_140, tn_140, tf_140, ta_140, e_140, hta_140⟩ := JW.get j_135 ct_1
            refine aw_get dX6_readLines_76 fl_X6_28 e_140 (by omega) rfl ?_
            refine aw_eqi (y := (flt 1 (a2 + 1))) ((Eq.symm (congrArg (fun z => fI z 4) e_140)).trans h_133f) ?_
            refine aw_ireti dX6_readLines_79 rfl (Nat.le_of_ble_eq_true rfl) (Nat.le_of_ble_eq_true rfl) ?_
            exact ⟨⟨(congrArg cod (hT.symm.trans (tx_st hn_97))).symm, fun L9 s9 e => by have q := (hT.symm.trans (tx_st hn_97)).symm.trans e; cases q⟩, rfl, j_135⟩
        · skip
          refine aw_eqi (y := 0) e_79 ?_
          refine aw_if_ne (tgt := 50) dX6_readLines_39 (by decide) (fun c_141 => ?_) (fun c_141 => ?_)
          · exact absurd rfl c_141
          refine aw_aload_n dX6_readLines_42 rfl ?_
          refine aw_get dX6_readLines_43 fl_X6_9_2 ((j_69.2.1 _ hp.1 hp.2).trans hR) (by omega) rfl ?_
          obtain ⟨ts_142, tn_142, tf_142, ta_142, e_142, hta_142⟩ := JW.get j_69 ct_1
          refine aw_get dX6_readLines_46 fl_X6_28 e_142 (by omega) rfl ?_
          refine aw_eqi (y := (flt 1 a2)) ((Eq.symm (congrArg (fun z => fI z 4) e_142)).trans hk_78) ?_
          refine aw_ireti dX6_readLines_49 rfl (Nat.le_of_ble_eq_true rfl) (Nat.le_of_ble_eq_true rfl) ?_
          exact ⟨⟨(congrArg cod (((i2_4).resolve_left (fun z => by omega)).2.1.symm.trans (af_no (by omega) hn_77))).symm, fun L9 s9 e => by have q := (((i2_4).resolve_left (fun z => by omega)).2.1.symm.trans (af_no (by omega) hn_77)).symm.trans e; cases q⟩, rfl, j_69⟩
      · skip
        have nc_65 : ¬ (a2 < n) := fun z => c_65 ((nI_ltI (a := a2) (b := n) (by omega) (by omega)).mpr z)
        refine aw_iload_n dX6_readLines_28 rfl ?_
        refine aw_ireti dX6_readLines_29 rfl (Nat.le_of_ble_eq_true rfl) (Nat.le_of_ble_eq_true rfl) ?_
        exact ⟨⟨((congrArg nI (by omega : j2 = 20 - (20 - j2))).trans (congrArg cod (((i2_4).resolve_left (fun z => by omega)).2.1.symm.trans (af_end (by omega)))).symm), fun L9 s9 e => i2_6.trans ((i2_4).resolve_left (fun z => by omega)).2.2⟩, rfl, i2_0⟩
  refine aw_le ?_ (ml_2_1 _ a 0 P V rfl (hJ0) (hE) (hA) (hg) (Or.inl ⟨rfl, rfl, rfl⟩) (⟨by omega, Nat.le_refl _, by omega⟩) (hP))
  exact ⟨rfl, ⟨rfl, ⟨rfl, trivial⟩⟩⟩

set_option maxHeartbeats 20000000 in
set_option maxRecDepth 100000 in
theorem g_X6_readLines_OS (l : Launch) (D : va_G) (b : Nat) (N : Nat) (V : Wd) (hN : 100 ≤ N) (hW : CW D b V) (p c : Nat) (hp : 100 ≤ p ∧ p < N) (hc : c = 3 ∨ c = 21 ∨ c = 39 ∨ c = 74) (hR : V p = cO 7 [.ref (b + 1), .ref (b + c)]) (g : Nat → Int32) (hg : V 2 = cI D 260 g) (n a : Nat) (hna : a ≤ n ∧ n ≤ 240) (hE : fI (V 1) 2 = nI n) (hA : fI (V 1) 3 = nI a) (P : Int32) (hP : fI (V c) 5 = P) (s : OS) (hD : fI (V c) 6 = s.1) (hK : rs (fI (V (c + 14))) = s.2) : MI l D b 5 jX6_readLines [.ref (b + p), .int 16] N V 0 0 (fun r N9 V9 => (r = cod (txO g n P 16 a s) ∧ ∀ L9 s9, txO g n P 16 a s = .inr (L9, s9) → fI (V9 c) 6 = s9.1 ∧ rs (fI (V9 (c + 14))) = s9.2) ∧ N = N9 ∧ JW D b N [(1, 1, 3, 3), (1, 1, 4, 4), (c + 14, c + 14, 0, 1000000), (c, c, 6, 6), (c + 15, c + 15, 0, 1000000), (c + 16, c + 16, 0, 1000000), (c + 17, c + 17, 0, 1000000)] V V9) := by
  have hJ0 : JW D b N [(1, 1, 3, 3), (1, 1, 4, 4), (c + 14, c + 14, 0, 1000000), (c, c, 6, 6), (c + 15, c + 15, 0, 1000000), (c + 16, c + 16, 0, 1000000), (c + 17, c + 17, 0, 1000000)] V V := JW.rf hW
  refine mw_of (by decide) (by simp [Value.category]) (Nat.le_of_ble_eq_true rfl) ?_
  show AW l D b jX6_readLines (fx_rm 5 0 0) none (fx_MQ D b 0 0 (fx_qi (fun r N9 V9 => (r = cod (txO g n P 16 a s) ∧ ∀ L9 s9, txO g n P 16 a s = .inr (L9, s9) → fI (V9 c) 6 = s9.1 ∧ rs (fI (V9 (c + 14))) = s9.2) ∧ N = N9 ∧ JW D b N [(1, 1, 3, 3), (1, 1, 4, 4), (c + 14, c + 14, 0, 1000000), (c, c, 6, 6), (c + 15, c + 15, 0, 1000000), (c + 16, c + 16, 0, 1000000), (c + 17, c + 17, 0, 1000000)] V V9))) 0 [some (.ref (b + p)), some (.int 16), none] [] N V 0 0
  refine aw_iconst (v := 0) dX6_readLines_0 (by decide) ?_
  refine aw_istore_n (ls' := [some (.ref (b + p)), some (.int 16), some (.int 0)]) dX6_readLines_1 (Nat.le_of_ble_eq_true rfl) rfl ?_
  have ml_2_1 : ∀ (m : Nat) (a2 : Nat) (j2 : Nat) (s2 : OS) (V2 : Wd), m = 17 - j2 → (JW D b N [(1, 1, 3, 3), (1, 1, 4, 4), (c + 14, c + 14, 0, 1000000), (c, c, 6, 6), (c + 15, c + 15, 0, 1000000), (c + 16, c + 16, 0, 1000000), (c + 17, c + 17, 0, 1000000)] V V2) → (fI (V2 1) 2 = nI n) → (fI (V2 1) 3 = nI a2) → (V2 2 = cI D 260 g) → ((j2 = 0 ∧ a2 = a ∧ s2 = s) ∨ (0 < j2 ∧ afO g n P (16 - j2) a2 s2 = txO g n P 16 a s)) → (j2 ≤ 16 ∧ a ≤ a2 ∧ a2 ≤ n) → (fI (V2 c) 5 = P) → (fI (V2 c) 6 = s2.1) → (rs (fI (V2 (c + 14))) = s2.2) → AW l D b jX6_readLines (fx_rm 5 0 0) none (fx_MQ D b 0 0 (fx_qi (fun r N9 V9 => (r = cod (txO g n P 16 a s) ∧ ∀ L9 s9, txO g n P 16 a s = .inr (L9, s9) → fI (V9 c) 6 = s9.1 ∧ rs (fI (V9 (c + 14))) = s9.2) ∧ N = N9 ∧ JW D b N [(1, 1, 3, 3), (1, 1, 4, 4), (c + 14, c + 14, 0, 1000000), (c, c, 6, 6), (c + 15, c + 15, 0, 1000000), (c + 16, c + 16, 0, 1000000), (c + 17, c + 17, 0, 1000000)] V V9))) 2 [some (.ref (b + p)), some (.int 16), some (.int (nI j2))] [] N V2 0 0 := by
    intro m; refine Nat.strongRecOn m ?_
    intro m mih_2_1 a2 j2 s2 V2 hm2 i2_0 i2_1 i2_2 i2_3 i2_4 i2_5 i2_6 i2_7 i2_8
    refine aw_iload_n dX6_readLines_2 rfl ?_
    refine aw_iload_n dX6_readLines_3 rfl ?_
    refine aw_icmp_gt (tgt := 130) dX6_readLines_4 (by decide) (fun c_2 => ?_) (fun c_2 => ?_)
    · have nc_2 : 16 < j2 := (nI_ltI (a := 16) (b := j2) (by omega) (by omega)).mp c_2
      omega
    have nc_2 : ¬ (16 < j2) := fun z => c_2 ((nI_ltI (a := 16) (b := j2) (by omega) (by omega)).mpr z)
    refine aw_iload_n dX6_readLines_7 rfl ?_
    refine aw_if_le (tgt := 50) dX6_readLines_8 (by decide) (fun c_3 => ?_) (fun c_3 => ?_)
    · skip
      have nc_3 : j2 ≤ 0 := (nI_leI (a := j2) (b := 0) (by omega) (by omega)).mp c_3
      have hT : txO g n P (16 - j2) a2 s2 = txO g n P 16 a s := by obtain ⟨e1, e2, e3⟩ := (i2_4).resolve_right (fun z => by omega); rw [e1, e2, e3]
      refine aw_aload_n dX6_readLines_50 rfl ?_
      refine aw_aload_n dX6_readLines_51 rfl ?_
      refine aw_get dX6_readLines_52 fl_X6_9_7 ((i2_0.2.1 _ hp.1 hp.2).trans hR) (by omega) rfl ?_
      obtain ⟨ts_6, tn_6, tf_6, ta_6, e_6, hta_6⟩ := JW.get i2_0 ct_1
      refine aw_callVi (J' := jX10_now) (As := []) (st := [.ref (b + p)]) dX6_readLines_55 tb_319 ok_X10_now ⟨_, e_6⟩ (by omega) rfl rfl (g_X10_nowS l D b N V2 hN i2_0.1 g i2_3 n a2 ⟨by omega, by omega⟩ i2_1 i2_2) rfl (Nat.le_of_ble_eq_true rfl) ⟨Nat.le_of_ble_eq_true rfl, Nat.le_of_ble_eq_true rfl, Nat.le_of_ble_eq_true rfl, Nat.le_of_ble_eq_true rfl⟩ (fun r_7 N_8 V_9 q_10 => ?_)
      obtain ⟨h_5, rfl, rfl⟩ := q_10
      refine aw_eqi (y := (hd g n a2)) h_5 ?_
      refine aw_callWi (J' := jX8_startsLine) (y := ({ cls := "FearLocks$LinesReader", name := "startsLine", desc := "(I)Z" } : Jvm.MethodName)) (RC := "FearLocks$OrdersReader") (owner := "FearLocks$LinesReader") (As := [.int (hd g n a2)]) (st := []) dX6_readLines_58 tb_320 okW_X8_startsLine_X8 ⟨_, ((i2_0.2.1 _ hp.1 hp.2).trans hR)⟩ (by omega) rfl rfl (g_X8_startsLineS l D b N V2 hN i2_0.1 p c ⟨by omega, by omega⟩ hc ((i2_0.2.1 _ hp.1 hp.2).trans hR) (hd g n a2)) rfl (Nat.le_of_ble_eq_true rfl) ⟨Nat.le_of_ble_eq_true rfl, Nat.le_of_ble_eq_true rfl, Nat.le_of_ble_eq_true rfl, Nat.le_of_ble_eq_true rfl⟩ (fun r_14 N_15 V_16 q_17 => ?_)
      obtain ⟨⟨z_13, h_12⟩, rfl, rfl⟩ := q_17
      rcases h_12 with ⟨hy_18, e_19⟩ | ⟨hn_20, e_21⟩
      · skip
        refine aw_eqi (y := 1) e_19 ?_
        refine aw_if_ne (tgt := 80) dX6_readLines_61 (by decide) (fun c_22 => ?_) (fun c_22 => ?_)
        rotate_left
        · exact absurd c_22 (by decide)
        refine aw_iload_n dX6_readLines_80 rfl ?_
        refine aw_iload_n dX6_readLines_81 rfl ?_
        refine aw_icmp_ne (tgt := 109) dX6_readLines_82 (by decide) (fun c_23 => ?_) (fun c_23 => ?_)
        · skip
          have nc_23 : ¬ (j2 = 16) := fun z => c_23 ((nI_eq (a := j2) (b := 16) (by omega) (by omega)).mpr z)
          refine aw_aload_n dX6_readLines_109 rfl ?_
          refine aw_callWi (J' := jX8_readLine) (y := ({ cls := "FearLocks$LinesReader", name := "readLine", desc := "()Z" } : Jvm.MethodName)) (RC := "FearLocks$OrdersReader") (owner := "FearLocks$LinesReader") (As := []) (st := []) dX6_readLines_110 tb_343 okW_X8_readLine_X8 ⟨_, ((i2_0.2.1 _ hp.1 hp.2).trans hR)⟩ (by omega) rfl rfl (g_X8_readLineS l D b N V2 hN i2_0.1 p c ⟨by omega, by omega⟩ hc ((i2_0.2.1 _ hp.1 hp.2).trans hR) g i2_3 n a2 ⟨by omega, by omega⟩ i2_1 i2_2 P i2_6 s2 i2_7 i2_8 hy_18) rfl (Nat.le_of_ble_eq_true rfl) ⟨Nat.le_of_ble_eq_true rfl, Nat.le_of_ble_eq_true rfl, Nat.le_of_ble_eq_true rfl, Nat.le_of_ble_eq_true rfl⟩ (fun r_29 N_30 V_28 q_31 => ?_)
          obtain ⟨⟨z_26, h_25⟩, rfl, q_24⟩ := q_31
          have j_27 := JW.trans i2_0 (JW.weak q_24 (Sub.cons LM0 (by decide) (by decide) (by decide) (Or.inr ⟨by decide, by decide⟩) (Sub.cons (LMs LM0) (by decide) (by decide) (by decide) (Or.inr ⟨by decide, by decide⟩) (Sub.cons (LMs (LMs LM0)) (by omega) (by omega) (by decide) (Or.inl rfl) (Sub.cons (LMs (LMs (LMs LM0))) (by omega) (by omega) (by decide) (Or.inr ⟨by decide, by decide⟩) (Sub.cons (LMs (LMs (LMs (LMs LM0)))) (by omega) (by omega) (by decide) (Or.inl rfl) (Sub.cons (LMs (LMs (LMs (LMs (LMs LM0))))) (by omega) (by omega) (by decide) (Or.inl rfl) (Sub.cons (LMs (LMs (LMs (LMs (LMs (LMs LM0)))))) (by omega) (by omega) (by decide) (Or.inl rfl) Sub.nil))))))))
          rcases h_25 with ⟨f_32, hx_33, hk_34, e_35⟩ | ⟨a_36, s_37, hx_38, hk_39, hd_40, hf_41, hb_42, e_43⟩
          · skip
            refine aw_eqi (y := 0) e_35 ?_
            refine aw_if_ne (tgt := 124) dX6_readLines_113 (by decide) (fun c_44 => ?_) (fun c_44 => ?_)
            · exact absurd rfl c_44
            refine aw_aload_n dX6_readLines_116 rfl ?_
            refine aw_get dX6_readLines_117 fl_X6_9_7 ((j_27.2.1 _ hp.1 hp.2).trans hR) (by omega) rfl ?_
            obtain ⟨ts_45, tn_45, tf_45, ta_45, e_45, hta_45⟩ := JW.get j_27 ct_1
            refine aw_get dX6_readLines_120 fl_X6_28 e_45 (by omega) rfl ?_
            refine aw_eqi (y := f_32) ((Eq.symm (congrArg (fun z => fI z 4) e_45)).trans hk_34) ?_
            refine aw_ireti dX6_readLines_123 rfl (Nat.le_of_ble_eq_true rfl) (Nat.le_of_ble_eq_true rfl) ?_
            exact ⟨⟨(congrArg cod (hT.symm.trans (tx_bad hy_18 hx_33 (by omega)))).symm, fun L9 s9 e => by have q := (hT.symm.trans (tx_bad hy_18 hx_33 (by omega))).symm.trans e; cases q⟩, rfl, j_27⟩
          · skip
            refine aw_eqi (y := 1) e_43 ?_
            obtain ⟨hb_42a, hb_42b⟩ := hb_42
            refine aw_if_ne (tgt := 124) dX6_readLines_113 (by decide) (fun c_46 => ?_) (fun c_46 => ?_)
            rotate_left
            · exact absurd c_46 (by decide)
            refine aw_iinc (v := (nI (j2 + 1))) (ls' := [some (.ref (b + p)), some (.int 16), some (.int (nI (j2 + 1)))]) dX6_readLines_124 rfl (fx_up_1 _) (Nat.le_of_ble_eq_true rfl) rfl ?_
            refine aw_goto (tgt := 2) dX6_readLines_127 (by decide) ?_
            refine aw_le ?_ (mih_2_1 _ (by omega) a_36 (j2 + 1) s_37 V_28 rfl (j_27) (((JW.fI q_24 (by omega) (nfc (by omega) (nfc (by omega) (nfc (by omega) (nfc (by omega) (nfc (by omega) (nfc (by omega) (nfc (by omega) nf0)))))))).trans i2_1)) (hk_39) (((JW.same q_24 (by decide) (fun k => (nfc (by omega) (nfc (by omega) (nfc (by omega) (nfc (by omega) (nfc (by omega) (nfc (by omega) (nfc (by omega) nf0))))))))).trans i2_3)) (Or.inr ⟨by omega, by have q := (tx_go (M := 16) (ln := (fun a s => lnO g n P a s)) hy_18 hx_38 (by omega)).symm.trans hT; rw [show 16 - j2 - 1 = 16 - (j2 + 1) by omega] at q; exact q⟩) (⟨by omega, by omega, by omega⟩) (((JW.fI q_24 (by omega) (nfc (by omega) (nfc (by omega) (nfc (by omega) (nfc (by omega) (nfc (by omega) (nfc (by omega) (nfc (by omega) nf0)))))))).trans i2_6)) (hd_40) (hf_41))
            exact ⟨rfl, ⟨rfl, ⟨rfl, trivial⟩⟩⟩
        · skip
          have nc_23 : j2 = 16 := (nI_eq (a := j2) (b := 16) (by omega) (by omega)).mp c_23
          refine aw_aload_n dX6_readLines_85 rfl ?_
          refine aw_get dX6_readLines_86 fl_X6_9_7 ((i2_0.2.1 _ hp.1 hp.2).trans hR) (by omega) rfl ?_
          refine aw_iconst (v := 4) dX6_readLines_89 (by decide) ?_
          refine aw_aload_n dX6_readLines_90 rfl ?_
          refine aw_get dX6_readLines_91 fl_X6_9_7 ((i2_0.2.1 _ hp.1 hp.2).trans hR) (by omega) rfl ?_
          refine aw_get dX6_readLines_94 fl_X6_15 e_6 (by omega) rfl ?_
          refine aw_eqi (y := (nI a2)) ((Eq.symm (congrArg (fun z => fI z 3) e_6)).trans i2_2) ?_
          refine aw_callVi (J' := jX10_fail) (As := [.int 4, .int (nI a2)]) (st := []) dX6_readLines_97 tb_342 ok_X10_fail ⟨_, e_6⟩ (by omega) rfl rfl (g_X10_failS l D b N V2 hN i2_0.1 4 (nI a2)) rfl (Nat.le_of_ble_eq_true rfl) ⟨Nat.le_of_ble_eq_true rfl, Nat.le_of_ble_eq_true rfl, Nat.le_of_ble_eq_true rfl, Nat.le_of_ble_eq_true rfl⟩ (fun r_52 N_53 V_51 q_54 => ?_)
          obtain ⟨⟨z_49, h_48⟩, rfl, q_47⟩ := q_54
          have j_50 := JW.trans i2_0 (JW.weak q_47 (Sub.cons (LMs LM0) (by decide) (by decide) (by decide) (Or.inr ⟨by decide, by decide⟩) Sub.nil))
          obtain ⟨rfl, h_48f⟩ := h_48
          refine aw_pop dX6_readLines_100 rfl ?_
          refine aw_aload_n dX6_readLines_101 rfl ?_
          refine aw_get dX6_readLines_102 fl_X6_9_7 ((j_50.2.1 _ hp.1 hp.2).trans hR) (by omega) rfl ?_
          obtain ⟨ts_55, tn_55, tf_55, ta_55, e_55, hta_55⟩ := JW.get j_50 ct_1
          refine aw_get dX6_readLines_105 fl_X6_28 e_55 (by omega) rfl ?_
          refine aw_eqi (y := (flt 4 a2)) ((Eq.symm (congrArg (fun z => fI z 4) e_55)).trans h_48f) ?_
          refine aw_ireti dX6_readLines_108 rfl (Nat.le_of_ble_eq_true rfl) (Nat.le_of_ble_eq_true rfl) ?_
          exact ⟨⟨(congrArg cod (hT.symm.trans ((congrArg (fun q => txO g n P q a2 s2) (by omega : 16 - j2 = 0)).trans (tx_many hy_18)))).symm, fun L9 s9 e => by have q := (hT.symm.trans ((congrArg (fun q => txO g n P q a2 s2) (by omega : 16 - j2 = 0)).trans (tx_many hy_18))).symm.trans e; cases q⟩, rfl, j_50⟩
      · skip
        refine aw_eqi (y := 0) e_21 ?_
        refine aw_if_ne (tgt := 80) dX6_readLines_61 (by decide) (fun c_56 => ?_) (fun c_56 => ?_)
        · exact absurd rfl c_56
        refine aw_aload_n dX6_readLines_64 rfl ?_
        refine aw_get dX6_readLines_65 fl_X6_9_7 ((i2_0.2.1 _ hp.1 hp.2).trans hR) (by omega) rfl ?_
        refine aw_callVi (J' := jX10_cannotStand) (As := []) (st := []) dX6_readLines_68 tb_338 ok_X10_cannotStand ⟨_, e_6⟩ (by omega) rfl rfl (g_X10_cannotStandS l D b N V2 hN i2_0.1 g i2_3 n a2 ⟨by omega, by omega⟩ i2_1 i2_2) rfl (Nat.le_of_ble_eq_true rfl) ⟨Nat.le_of_ble_eq_true rfl, Nat.le_of_ble_eq_true rfl, Nat.le_of_ble_eq_true rfl, Nat.le_of_ble_eq_true rfl⟩ (fun r_62 N_63 V_61 q_64 => ?_)
        obtain ⟨⟨z_59, h_58⟩, rfl, q_57⟩ := q_64
        have j_60 := JW.trans i2_0 (JW.weak q_57 (Sub.cons (LMs LM0) (by decide) (by decide) (by decide) (Or.inr ⟨by decide, by decide⟩) Sub.nil))
        obtain ⟨rfl, h_58f⟩ := h_58
        refine aw_pop dX6_readLines_71 rfl ?_
        refine aw_aload_n dX6_readLines_72 rfl ?_
        refine aw_get dX6_readLines_73 fl_X6_9_7 ((j_60.2.1 _ hp.1 hp.2).trans hR) (by omega) rfl ?_
        obtain ⟨ts_65, tn_65, tf_65, ta_65, e_65, hta_65⟩ := JW.get j_60 ct_1
        refine aw_get dX6_readLines_76 fl_X6_28 e_65 (by omega) rfl ?_
        refine aw_eqi (y := (flt 1 a2)) ((Eq.symm (congrArg (fun z => fI z 4) e_65)).trans h_58f) ?_
        refine aw_ireti dX6_readLines_79 rfl (Nat.le_of_ble_eq_true rfl) (Nat.le_of_ble_eq_true rfl) ?_
        exact ⟨⟨(congrArg cod (hT.symm.trans (tx_st hn_20))).symm, fun L9 s9 e => by have q := (hT.symm.trans (tx_st hn_20)).symm.trans e; cases q⟩, rfl, j_60⟩
    · skip
      have nc_3 : ¬ (j2 ≤ 0) := fun z => c_3 ((nI_leI (a := j2) (b := 0) (by omega) (by omega)).mpr z)
      refine aw_aload_n dX6_readLines_11 rfl ?_
      refine aw_get dX6_readLines_12 fl_X6_9_7 ((i2_0.2.1 _ hp.1 hp.2).trans hR) (by omega) rfl ?_
      obtain ⟨ts_66, tn_66, tf_66, ta_66, e_66, hta_66⟩ := JW.get i2_0 ct_1
      refine aw_get dX6_readLines_15 fl_X6_15 e_66 (by omega) rfl ?_
      refine aw_eqi (y := (nI a2)) ((Eq.symm (congrArg (fun z => fI z 3) e_66)).trans i2_2) ?_
      refine aw_aload_n dX6_readLines_18 rfl ?_
      refine aw_get dX6_readLines_19 fl_X6_9_7 ((i2_0.2.1 _ hp.1 hp.2).trans hR) (by omega) rfl ?_
      refine aw_get dX6_readLines_22 fl_X6_21 e_66 (by omega) rfl ?_
      refine aw_eqi (y := (nI n)) ((Eq.symm (congrArg (fun z => fI z 2) e_66)).trans i2_1) ?_
      refine aw_icmp_lt (tgt := 30) dX6_readLines_25 (by decide) (fun c_67 => ?_) (fun c_67 => ?_)
      · skip
        have nc_67 : a2 < n := (nI_ltI (a := a2) (b := n) (by omega) (by omega)).mp c_67
        refine aw_aload_n dX6_readLines_30 rfl ?_
        refine aw_get dX6_readLines_31 fl_X6_9_7 ((i2_0.2.1 _ hp.1 hp.2).trans hR) (by omega) rfl ?_
        refine aw_bipush (v := 59) dX6_readLines_34 (by decide) ?_
        refine aw_callVi (J' := jX10_expect) (As := [.int 59]) (st := []) dX6_readLines_36 tb_307 ok_X10_expect ⟨_, e_66⟩ (by omega) rfl rfl (g_X10_expectS l D b N V2 hN i2_0.1 59 g i2_3 n a2 ⟨by omega, by omega⟩ i2_1 i2_2) rfl (Nat.le_of_ble_eq_true rfl) ⟨Nat.le_of_ble_eq_true rfl, Nat.le_of_ble_eq_true rfl, Nat.le_of_ble_eq_true rfl, Nat.le_of_ble_eq_true rfl⟩ (fun r_73 N_74 V_72 q_75 => ?_)
        obtain ⟨⟨z_70, h_69⟩, rfl, q_68⟩ := q_75
        have j_71 := JW.trans i2_0 (JW.weak q_68 (Sub.cons LM0 (by decide) (by decide) (by decide) (Or.inr ⟨by decide, by decide⟩) (Sub.cons (LMs LM0) (by decide) (by decide) (by decide) (Or.inr ⟨by decide, by decide⟩) Sub.nil)))
        rcases h_69 with ⟨hy_76, hk_77, e_78⟩ | ⟨hn_79, hk_80, e_81⟩
        · skip
          refine aw_eqi (y := 1) e_78 ?_
          have hlhy_76 := hd_lit hy_76 (by decide)
          refine aw_if_ne (tgt := 50) dX6_readLines_39 (by decide) (fun c_82 => ?_) (fun c_82 => ?_)
          rotate_left
          · exact absurd c_82 (by decide)
          have hT : txO g n P (16 - j2) (a2 + 1) s2 = txO g n P 16 a s := (af_go hy_76).symm.trans ((i2_4).resolve_left (fun z => by omega)).2
          refine aw_aload_n dX6_readLines_50 rfl ?_
          refine aw_aload_n dX6_readLines_51 rfl ?_
          refine aw_get dX6_readLines_52 fl_X6_9_7 ((j_71.2.1 _ hp.1 hp.2).trans hR) (by omega) rfl ?_
          obtain ⟨ts_85, tn_85, tf_85, ta_85, e_85, hta_85⟩ := JW.get j_71 ct_1
          refine aw_callVi (J' := jX10_now) (As := []) (st := [.ref (b + p)]) dX6_readLines_55 tb_319 ok_X10_now ⟨_, e_85⟩ (by omega) rfl rfl (g_X10_nowS l D b N V_72 hN j_71.1 g ((JW.same q_68 (by decide) (fun k => (nfc (by omega) (nfc (by omega) nf0)))).trans i2_3) n (a2 + 1) ⟨by omega, by omega⟩ ((JW.fI q_68 (by omega) (nfc (by omega) (nfc (by omega) nf0))).trans i2_1) hk_77) rfl (Nat.le_of_ble_eq_true rfl) ⟨Nat.le_of_ble_eq_true rfl, Nat.le_of_ble_eq_true rfl, Nat.le_of_ble_eq_true rfl, Nat.le_of_ble_eq_true rfl⟩ (fun r_86 N_87 V_88 q_89 => ?_)
          obtain ⟨h_84, rfl, rfl⟩ := q_89
          refine aw_eqi (y := (hd g n (a2 + 1))) h_84 ?_
          refine aw_callWi (J' := jX8_startsLine) (y := ({ cls := "FearLocks$LinesReader", name := "startsLine", desc := "(I)Z" } : Jvm.MethodName)) (RC := "FearLocks$OrdersReader") (owner := "FearLocks$LinesReader") (As := [.int (hd g n (a2 + 1))]) (st := []) dX6_readLines_58 tb_320 okW_X8_startsLine_X8 ⟨_, ((j_71.2.1 _ hp.1 hp.2).trans hR)⟩ (by omega) rfl rfl (g_X8_startsLineS l D b N V_72 hN j_71.1 p c ⟨by omega, by omega⟩ hc ((j_71.2.1 _ hp.1 hp.2).trans hR) (hd g n (a2 + 1))) rfl (Nat.le_of_ble_eq_true rfl) ⟨Nat.le_of_ble_eq_true rfl, Nat.le_of_ble_eq_true rfl, Nat.le_of_ble_eq_true rfl, Nat.le_of_ble_eq_true rfl⟩ (fun r_93 N_94 V_95 q_96 => ?_)
          obtain ⟨⟨z_92, h_91⟩, rfl, rfl⟩ := q_96
          rcases h_91 with ⟨hy_97, e_98⟩ | ⟨hn_99, e_100⟩
          · skip
            refine aw_eqi (y := 1) e_98 ?_
            refine aw_if_ne (tgt := 80) dX6_readLines_61 (by decide) (fun c_101 => ?_) (fun c_101 => ?_)
            rotate_left
            · exact absurd c_101 (by decide)
            refine aw_iload_n dX6_readLines_80 rfl ?_
            refine aw_iload_n dX6_readLines_81 rfl ?_
            refine aw_icmp_ne (tgt := 109) dX6_readLines_82 (by decide) (fun c_102 => ?_) (fun c_102 => ?_)
            · skip
              have nc_102 : ¬ (j2 = 16) := fun z => c_102 ((nI_eq (a := j2) (b := 16) (by omega) (by omega)).mpr z)
              refine aw_aload_n dX6_readLines_109 rfl ?_
              refine aw_callWi (J' := jX8_readLine) (y := ({ cls := "FearLocks$LinesReader", name := "readLine", desc := "()Z" } : Jvm.MethodName)) (RC := "FearLocks$OrdersReader") (owner := "FearLocks$LinesReader") (As := []) (st := []) dX6_readLines_110 tb_343 okW_X8_readLine_X8 ⟨_, ((j_71.2.1 _ hp.1 hp.2).trans hR)⟩ (by omega) rfl rfl (g_X8_readLineS l D b N V_72 hN j_71.1 p c ⟨by omega, by omega⟩ hc ((j_71.2.1 _ hp.1 hp.2).trans hR) g ((JW.same q_68 (by decide) (fun k => (nfc (by omega) (nfc (by omega) nf0)))).trans i2_3) n (a2 + 1) ⟨by omega, by omega⟩ ((JW.fI q_68 (by omega) (nfc (by omega) (nfc (by omega) nf0))).trans i2_1) hk_77 P ((JW.fI q_68 (by omega) (nfc (by omega) (nfc (by omega) nf0))).trans i2_6) s2 ((JW.fI q_68 (by omega) (nfc (by omega) (nfc (by omega) nf0))).trans i2_7) ((congrArg (fun z => rs (fI z)) (JW.same q_68 (by omega) (fun k => (nfc (by omega) (nfc (by omega) nf0))))).trans i2_8) hy_97) rfl (Nat.le_of_ble_eq_true rfl) ⟨Nat.le_of_ble_eq_true rfl, Nat.le_of_ble_eq_true rfl, Nat.le_of_ble_eq_true rfl, Nat.le_of_ble_eq_true rfl⟩ (fun r_108 N_109 V_107 q_110 => ?_)
              obtain ⟨⟨z_105, h_104⟩, rfl, q_103⟩ := q_110
              have j_106 := JW.trans j_71 (JW.weak q_103 (Sub.cons LM0 (by decide) (by decide) (by decide) (Or.inr ⟨by decide, by decide⟩) (Sub.cons (LMs LM0) (by decide) (by decide) (by decide) (Or.inr ⟨by decide, by decide⟩) (Sub.cons (LMs (LMs LM0)) (by omega) (by omega) (by decide) (Or.inl rfl) (Sub.cons (LMs (LMs (LMs LM0))) (by omega) (by omega) (by decide) (Or.inr ⟨by decide, by decide⟩) (Sub.cons (LMs (LMs (LMs (LMs LM0)))) (by omega) (by omega) (by decide) (Or.inl rfl) (Sub.cons (LMs (LMs (LMs (LMs (LMs LM0))))) (by omega) (by omega) (by decide) (Or.inl rfl) (Sub.cons (LMs (LMs (LMs (LMs (LMs (LMs LM0)))))) (by omega) (by omega) (by decide) (Or.inl rfl) Sub.nil))))))))
              rcases h_104 with ⟨f_111, hx_112, hk_113, e_114⟩ | ⟨a_115, s_116, hx_117, hk_118, hd_119, hf_120, hb_121, e_122⟩
              · skip
                refine aw_eqi (y := 0) e_114 ?_
                refine aw_if_ne (tgt := 124) dX6_readLines_113 (by decide) (fun c_123 => ?_) (fun c_123 => ?_)
                · exact absurd rfl c_123
                refine aw_aload_n dX6_readLines_116 rfl ?_
                refine aw_get dX6_readLines_117 fl_X6_9_7 ((j_106.2.1 _ hp.1 hp.2).trans hR) (by omega) rfl ?_
                obtain ⟨ts_124, tn_124, tf_124, ta_124, e_124, hta_124⟩ := JW.get j_106 ct_1
                refine aw_get dX6_readLines_120 fl_X6_28 e_124 (by omega) rfl ?_
                refine aw_eqi (y := f_111) ((Eq.symm (congrArg (fun z => fI z 4) e_124)).trans hk_113) ?_
                refine aw_ireti dX6_readLines_123 rfl (Nat.le_of_ble_eq_true rfl) (Nat.le_of_ble_eq_true rfl) ?_
                exact ⟨⟨(congrArg cod (hT.symm.trans (tx_bad hy_97 hx_112 (by omega)))).symm, fun L9 s9 e => by have q := (hT.symm.trans (tx_bad hy_97 hx_112 (by omega))).symm.trans e; cases q⟩, rfl, j_106⟩
              · skip
                refine aw_eqi (y := 1) e_122 ?_
                obtain ⟨hb_121a, hb_121b⟩ := hb_121
                refine aw_if_ne (tgt := 124) dX6_readLines_113 (by decide) (fun c_125 => ?_) (fun c_125 => ?_)
                rotate_left
                · exact absurd c_125 (by decide)
                refine aw_iinc (v := (nI (j2 + 1))) (ls' := [some (.ref (b + p)), some (.int 16), some (.int (nI (j2 + 1)))]) dX6_readLines_124 rfl (fx_up_1 _) (Nat.le_of_ble_eq_true rfl) rfl ?_
                refine aw_goto (tgt := 2) dX6_readLines_127 (by decide) ?_
                refine aw_le ?_ (mih_2_1 _ (by omega) a_115 (j2 + 1) s_116 V_107 rfl (j_106) (((JW.fI q_103 (by omega) (nfc (by omega) (nfc (by omega) (nfc (by omega) (nfc (by omega) (nfc (by omega) (nfc (by omega) (nfc (by omega) nf0)))))))).trans ((JW.fI q_68 (by omega) (nfc (by omega) (nfc (by omega) nf0))).trans i2_1))) (hk_118) (((JW.same q_103 (by decide) (fun k => (nfc (by omega) (nfc (by omega) (nfc (by omega) (nfc (by omega) (nfc (by omega) (nfc (by omega) (nfc (by omega) nf0))))))))).trans ((JW.same q_68 (by decide) (fun k => (nfc (by omega) (nfc (by omega) nf0)))).trans i2_3))) (Or.inr ⟨by omega, by have q := (tx_go (M := 16) (ln := (fun a s => lnO g n P a s)) hy_97 hx_117 (by omega)).symm.trans hT; rw [show 16 - j2 - 1 = 16 - (j2 + 1) by omega] at q; exact q⟩) (⟨by omega, by omega, by omega⟩) (((JW.fI q_103 (by omega) (nfc (by omega) (nfc (by omega) (nfc (by omega) (nfc (by omega) (nfc (by omega) (nfc (by omega) (nfc (by omega) nf0)))))))).trans ((JW.fI q_68 (by omega) (nfc (by omega) (nfc (by omega) nf0))).trans i2_6))) (hd_119) (hf_120))
                exact ⟨rfl, ⟨rfl, ⟨rfl, trivial⟩⟩⟩
            · skip
              have nc_102 : j2 = 16 := (nI_eq (a := j2) (b := 16) (by omega) (by omega)).mp c_102
              refine aw_aload_n dX6_readLines_85 rfl ?_
              refine aw_get dX6_readLines_86 fl_X6_9_7 ((j_71.2.1 _ hp.1 hp.2).trans hR) (by omega) rfl ?_
              refine aw_iconst (v := 4) dX6_readLines_89 (by decide) ?_
              refine aw_aload_n dX6_readLines_90 rfl ?_
              refine aw_get dX6_readLines_91 fl_X6_9_7 ((j_71.2.1 _ hp.1 hp.2).trans hR) (by omega) rfl ?_
              refine aw_get dX6_readLines_94 fl_X6_15 e_85 (by omega) rfl ?_
              refine aw_eqi (y := (nI (a2 + 1))) ((Eq.symm (congrArg (fun z => fI z 3) e_85)).trans hk_77) ?_
              refine aw_callVi (J' := jX10_fail) (As := [.int 4, .int (nI (a2 + 1))]) (st := []) dX6_readLines_97 tb_342 ok_X10_fail ⟨_, e_85⟩ (by omega) rfl rfl (g_X10_failS l D b N V_72 hN j_71.1 4 (nI (a2 + 1))) rfl (Nat.le_of_ble_eq_true rfl) ⟨Nat.le_of_ble_eq_true rfl, Nat.le_of_ble_eq_true rfl, Nat.le_of_ble_eq_true rfl, Nat.le_of_ble_eq_true rfl⟩ (fun r_131 N_132 V_130 q_133 => ?_)
              obtain ⟨⟨z_128, h_127⟩, rfl, q_126⟩ := q_133
              have j_129 := JW.trans j_71 (JW.weak q_126 (Sub.cons (LMs LM0) (by decide) (by decide) (by decide) (Or.inr ⟨by decide, by decide⟩) Sub.nil))
              obtain ⟨rfl, h_127f⟩ := h_127
              refine aw_pop dX6_readLines_100 rfl ?_
              refine aw_aload_n dX6_readLines_101 rfl ?_
              refine aw_get dX6_readLines_102 fl_X6_9_7 ((j_129.2.1 _ hp.1 hp.2).trans hR) (by omega) rfl ?_
              obtain ⟨ts_134, tn_134, tf_134, ta_134, e_134, hta_134⟩ := JW.get j_129 ct_1
              refine aw_get dX6_readLines_105 fl_X6_28 e_134 (by omega) rfl ?_
              refine aw_eqi (y := (flt 4 (a2 + 1))) ((Eq.symm (congrArg (fun z => fI z 4) e_134)).trans h_127f) ?_
              refine aw_ireti dX6_readLines_108 rfl (Nat.le_of_ble_eq_true rfl) (Nat.le_of_ble_eq_true rfl) ?_
              exact ⟨⟨(congrArg cod (hT.symm.trans ((congrArg (fun q => txO g n P q (a2 + 1) s2) (by omega : 16 - j2 = 0)).trans (tx_many hy_97)))).symm, fun L9 s9 e => by have q := (hT.symm.trans ((congrArg (fun q => txO g n P q (a2 + 1) s2) (by omega : 16 - j2 = 0)).trans (tx_many hy_97))).symm.trans e; cases q⟩, rfl, j_129⟩
          · skip
            refine aw_eqi (y := 0) e_100 ?_
            refine aw_if_ne (tgt := 80) dX6_readLines_61 (by decide) (fun c_135 => ?_) (fun c_135 => ?_)
            · exact absurd rfl c_135
            refine aw_aload_n dX6_readLines_64 rfl ?_
            refine aw_get dX6_readLines_65 fl_X6_9_7 ((j_71.2.1 _ hp.1 hp.2).trans hR) (by omega) rfl ?_
            refine aw_callVi (J' := jX10_cannotStand) (As := []) (st := []) dX6_readLines_68 tb_338 ok_X10_cannotStand ⟨_, e_85⟩ (by omega) rfl rfl (g_X10_cannotStandS l D b N V_72 hN j_71.1 g ((JW.same q_68 (by decide) (fun k => (nfc (by omega) (nfc (by omega) nf0)))).trans i2_3) n (a2 + 1) ⟨by omega, by omega⟩ ((JW.fI q_68 (by omega) (nfc (by omega) (nfc (by omega) nf0))).trans i2_1) hk_77) rfl (Nat.le_of_ble_eq_true rfl) ⟨Nat.le_of_ble_eq_true rfl, Nat.le_of_ble_eq_true rfl, Nat.le_of_ble_eq_true rfl, Nat.le_of_ble_eq_true rfl⟩ (fun r_141 N_142 V_140 q_143 => ?_)
            obtain ⟨⟨z_138, h_137⟩, rfl, q_136⟩ := q_143
            have j_139 := JW.trans j_71 (JW.weak q_136 (Sub.cons (LMs LM0) (by decide) (by decide) (by decide) (Or.inr ⟨by decide, by decide⟩) Sub.nil))
            obtain ⟨rfl, h_137f⟩ := h_137
            refine aw_pop dX6_readLines_71 rfl ?_
            refine aw_aload_n dX6_readLines_72 rfl ?_
            refine aw_get dX6_readLines_73 fl_X6_9_7 ((j_139.2.1 _ hp.1 hp.2).trans hR) (by omega) rfl ?_
            obtain ⟨ts_144, tn_144, tf_144, ta_144, e_144, hta_144⟩ := JW.get j_139 ct_1
            refine aw_get dX6_readLines_76 fl_X6_28 e_144 (by omega) rfl ?_
            refine aw_eqi (y := (flt 1 (a2 + 1))) ((Eq.symm (congrArg (fun z => fI z 4) e_144)).trans h_137f) ?_
            refine aw_ireti dX6_readLines_79 rfl (Nat.le_of_ble_eq_true rfl) (Nat.le_of_ble_eq_true rfl) ?_
            exact ⟨⟨(congrArg cod (hT.symm.trans (tx_st hn_99))).symm, fun L9 s9 e => by have q := (hT.symm.trans (tx_st hn_99)).symm.trans e; cases q⟩, rfl, j_139⟩
        · skip
          refine aw_eqi (y := 0) e_81 ?_
          refine aw_if_ne (tgt := 50) dX6_readLines_39 (by decide) (fun c_145 => ?_) (fun c_145 => ?_)
          · exact absurd rfl c_145
          refine aw_aload_n dX6_readLines_42 rfl ?_
          refine aw_get dX6_readLines_43 fl_X6_9_7 ((j_71.2.1 _ hp.1 hp.2).trans hR) (by omega) rfl ?_
          obtain ⟨ts_146, tn_146, tf_146, ta_146, e_146, hta_146⟩ := JW.get j_71 ct_1
          refine aw_get dX6_readLines_46 fl_X6_28 e_146 (by omega) rfl ?_
          refine aw_eqi (y := (flt 1 a2)) ((Eq.symm (congrArg (fun z => fI z 4) e_146)).trans hk_80) ?_
          refine aw_ireti dX6_readLines_49 rfl (Nat.le_of_ble_eq_true rfl) (Nat.le_of_ble_eq_true rfl) ?_
          exact ⟨⟨(congrArg cod (((i2_4).resolve_left (fun z => by omega)).2.symm.trans (af_no (by omega) hn_79))).symm, fun L9 s9 e => by have q := (((i2_4).resolve_left (fun z => by omega)).2.symm.trans (af_no (by omega) hn_79)).symm.trans e; cases q⟩, rfl, j_71⟩
      · skip
        have nc_67 : ¬ (a2 < n) := fun z => c_67 ((nI_ltI (a := a2) (b := n) (by omega) (by omega)).mpr z)
        refine aw_iload_n dX6_readLines_28 rfl ?_
        refine aw_ireti dX6_readLines_29 rfl (Nat.le_of_ble_eq_true rfl) (Nat.le_of_ble_eq_true rfl) ?_
        exact ⟨⟨((congrArg nI (by omega : j2 = 16 - (16 - j2))).trans (congrArg cod (((i2_4).resolve_left (fun z => by omega)).2.symm.trans (af_end (by omega)))).symm), fun L9 s9 e => by obtain ⟨-, rfl⟩ := Prod.mk.inj (Sum.inr.inj ((((i2_4).resolve_left (fun z => by omega)).2.symm.trans (af_end (by omega))).symm.trans e)); exact ⟨i2_7, i2_8⟩⟩, rfl, i2_0⟩
  refine aw_le ?_ (ml_2_1 _ a 0 s V rfl (hJ0) (hE) (hA) (hg) (Or.inl ⟨rfl, rfl, rfl⟩) (⟨by omega, Nat.le_refl _, by omega⟩) (hP) (hD) (hK))
  exact ⟨rfl, ⟨rfl, ⟨rfl, trivial⟩⟩⟩

set_option maxHeartbeats 20000000 in
set_option maxRecDepth 100000 in
theorem g_X11_dreadsS2 (l : Launch) (D : va_G) (b : Nat) (N : Nat) (V : Wd) (hN : 100 ≤ N) (hW : CW D b V) (n0 : Int32) (n1 : Int32)  : MI l D b 6 jX11_dreads [.ref (b + 0), .int n0, .int n1] N V 1 3 (fun r N9 V9 => N ≤ N9 ∧ N9 ≤ N + 1 ∧ ANS (cDr n0 n1 (fI (V 1) 1)) r (cod (dX (fI (V 2)) n1)) ∧ TKS (cDr n0 n1 (fI (V 1) 1)) (fI (V 1) 1) (fI (V9 1) 1) ∧ fI (V9 3) 7 = fI (V 3) 7 ∧ UPD (cDr n0 n1 (fI (V 1) 1)) (fI (V9 3) 5) (fI (V 3) 5) (pplD (dX (fI (V 2)) n1) (fI (V 3) 5) n0) ∧ fI (V9 3) 6 = fI (V 3) 6 ∧ rs (fI (V9 17)) = rs (fI (V 17)) ∧ JW D b N [(5, 20, 0, 1000000), (23, 38, 0, 1000000), (1, 1, 2, 2), (1, 1, 3, 3), (1, 1, 4, 4), (1, 1, 1, 1), (21, 21, 5, 5), (21, 21, 6, 6), (21, 21, 7, 7), (21, 21, 8, 8), (3, 3, 5, 5), (3, 3, 6, 6), (3, 3, 7, 7), (3, 3, 8, 8)] V V9) := by
  have hJ0 : JW D b N [(5, 20, 0, 1000000), (23, 38, 0, 1000000), (1, 1, 2, 2), (1, 1, 3, 3), (1, 1, 4, 4), (1, 1, 1, 1), (21, 21, 5, 5), (21, 21, 6, 6), (21, 21, 7, 7), (21, 21, 8, 8), (3, 3, 5, 5), (3, 3, 6, 6), (3, 3, 7, 7), (3, 3, 8, 8)] V V := JW.rf hW
  refine mw_of (by decide) (by simp [Value.category]) (Nat.le_of_ble_eq_true rfl) ?_
  show AW l D b jX11_dreads (fx_rm 6 1 3) none (fx_MQ D b 1 3 (fx_qi (fun r N9 V9 => N ≤ N9 ∧ N9 ≤ N + 1 ∧ ANS (cDr n0 n1 (fI (V 1) 1)) r (cod (dX (fI (V 2)) n1)) ∧ TKS (cDr n0 n1 (fI (V 1) 1)) (fI (V 1) 1) (fI (V9 1) 1) ∧ fI (V9 3) 7 = fI (V 3) 7 ∧ UPD (cDr n0 n1 (fI (V 1) 1)) (fI (V9 3) 5) (fI (V 3) 5) (pplD (dX (fI (V 2)) n1) (fI (V 3) 5) n0) ∧ fI (V9 3) 6 = fI (V 3) 6 ∧ rs (fI (V9 17)) = rs (fI (V 17)) ∧ JW D b N [(5, 20, 0, 1000000), (23, 38, 0, 1000000), (1, 1, 2, 2), (1, 1, 3, 3), (1, 1, 4, 4), (1, 1, 1, 1), (21, 21, 5, 5), (21, 21, 6, 6), (21, 21, 7, 7), (21, 21, 8, 8), (3, 3, 5, 5), (3, 3, 6, 6), (3, 3, 7, 7), (3, 3, 8, 8)] V V9))) 0 [some (.ref (b + 0)), some (.int n0), some (.int n1), none] [] N V 0 0
  obtain ⟨g_1, e_1⟩ := JW.get hJ0 ct_2
  refine aw_iload_n dX11_dreads_0 rfl ?_
  refine aw_if_lt (tgt := 24) dX11_dreads_1 (by decide) (fun c_2 => ?_) (fun c_2 => ?_)
  · skip
    refine aw_iconst (v := (-1)) dX11_dreads_24 (by decide) ?_
    refine aw_ireti dX11_dreads_25 rfl (Nat.le_of_ble_eq_true rfl) (Nat.le_of_ble_eq_true rfl) ?_
    exact ⟨Nat.le_refl _, Nat.le_succ _, Or.inr ⟨(by have e0 : (0 : Int32).toInt = 0 := (by decide); have e1 : (1 : Int32).toInt = 1 := (by decide); have e11 : (11 : Int32).toInt = 11 := (by decide); have e12 : (12 : Int32).toInt = 12 := (by decide); have e120 : (120 : Int32).toInt = 120 := (by decide); have q0 := c_2; simp only [cDr, ← Int32.toInt_inj, Int32.le_iff_toInt_le, Int32.lt_iff_toInt_lt] at q0 ⊢; omega), rfl⟩, Or.inr ⟨(by have e0 : (0 : Int32).toInt = 0 := (by decide); have e1 : (1 : Int32).toInt = 1 := (by decide); have e11 : (11 : Int32).toInt = 11 := (by decide); have e12 : (12 : Int32).toInt = 12 := (by decide); have e120 : (120 : Int32).toInt = 120 := (by decide); have q0 := c_2; simp only [cDr, ← Int32.toInt_inj, Int32.le_iff_toInt_le, Int32.lt_iff_toInt_lt] at q0 ⊢; omega), (Eq.refl (fI (V 1) 1))⟩, (Eq.refl (fI (V 3) 7)), Or.inr ⟨(by have e0 : (0 : Int32).toInt = 0 := (by decide); have e1 : (1 : Int32).toInt = 1 := (by decide); have e11 : (11 : Int32).toInt = 11 := (by decide); have e12 : (12 : Int32).toInt = 12 := (by decide); have e120 : (120 : Int32).toInt = 120 := (by decide); have q0 := c_2; simp only [cDr, ← Int32.toInt_inj, Int32.le_iff_toInt_le, Int32.lt_iff_toInt_lt] at q0 ⊢; omega), (Eq.refl (fI (V 3) 5))⟩, (Eq.refl (fI (V 3) 6)), (Eq.refl (rs (fI (V 17)))), hJ0⟩
  · skip
    refine aw_iload_n dX11_dreads_4 rfl ?_
    refine aw_bipush (v := 12) dX11_dreads_5 (by decide) ?_
    refine aw_icmp_ge (tgt := 24) dX11_dreads_7 (by decide) (fun c_3 => ?_) (fun c_3 => ?_)
    · skip
      refine aw_iconst (v := (-1)) dX11_dreads_24 (by decide) ?_
      refine aw_ireti dX11_dreads_25 rfl (Nat.le_of_ble_eq_true rfl) (Nat.le_of_ble_eq_true rfl) ?_
      exact ⟨Nat.le_refl _, Nat.le_succ _, Or.inr ⟨(by have e0 : (0 : Int32).toInt = 0 := (by decide); have e1 : (1 : Int32).toInt = 1 := (by decide); have e11 : (11 : Int32).toInt = 11 := (by decide); have e12 : (12 : Int32).toInt = 12 := (by decide); have e120 : (120 : Int32).toInt = 120 := (by decide); have q0 := c_2; have q1 := c_3; simp only [cDr, ← Int32.toInt_inj, Int32.le_iff_toInt_le, Int32.lt_iff_toInt_lt] at q0 q1 ⊢; omega), rfl⟩, Or.inr ⟨(by have e0 : (0 : Int32).toInt = 0 := (by decide); have e1 : (1 : Int32).toInt = 1 := (by decide); have e11 : (11 : Int32).toInt = 11 := (by decide); have e12 : (12 : Int32).toInt = 12 := (by decide); have e120 : (120 : Int32).toInt = 120 := (by decide); have q0 := c_2; have q1 := c_3; simp only [cDr, ← Int32.toInt_inj, Int32.le_iff_toInt_le, Int32.lt_iff_toInt_lt] at q0 q1 ⊢; omega), (Eq.refl (fI (V 1) 1))⟩, (Eq.refl (fI (V 3) 7)), Or.inr ⟨(by have e0 : (0 : Int32).toInt = 0 := (by decide); have e1 : (1 : Int32).toInt = 1 := (by decide); have e11 : (11 : Int32).toInt = 11 := (by decide); have e12 : (12 : Int32).toInt = 12 := (by decide); have e120 : (120 : Int32).toInt = 120 := (by decide); have q0 := c_2; have q1 := c_3; simp only [cDr, ← Int32.toInt_inj, Int32.le_iff_toInt_le, Int32.lt_iff_toInt_lt] at q0 q1 ⊢; omega), (Eq.refl (fI (V 3) 5))⟩, (Eq.refl (fI (V 3) 6)), (Eq.refl (rs (fI (V 17)))), hJ0⟩
    · skip
      refine aw_aload_n dX11_dreads_10 rfl ?_
      obtain ⟨ek_4, x_4, y_4, e_4, hx_4, hy_4⟩ := JW.get hJ0 ct_0
      refine aw_get dX11_dreads_11 fl_X11_12 e_4 (by omega) rfl ?_
      refine aw_iload_n dX11_dreads_14 rfl ?_
      refine aw_iconst (v := 1) dX11_dreads_15 (by decide) ?_
      refine aw_bipush (v := 120) dX11_dreads_16 (by decide) ?_
      obtain ⟨ts_8, tn_8, tf_8, ta_8, e_8, hta_8⟩ := JW.get hJ0 ct_1
      refine aw_callVi (J' := jX10_holds) (As := [.int n1, .int 1, .int 120]) (st := []) dX11_dreads_18 tb_267 ok_X10_holds ⟨_, e_8⟩ (by omega) rfl rfl (g_X10_holdsK l D b N V hN hJ0.1 n1 1 120) rfl (Nat.le_of_ble_eq_true rfl) ⟨Nat.le_of_ble_eq_true rfl, Nat.le_of_ble_eq_true rfl, Nat.le_of_ble_eq_true rfl, Nat.le_of_ble_eq_true rfl⟩ (fun r_9 N_10 V_11 q_12 => ?_)
      obtain ⟨⟨z_7, h_6⟩, rfl, rfl⟩ := q_12
      refine aw_if_ne (tgt := 26) dX11_dreads_21 (by decide) (fun c_13 => ?_) (fun c_13 => ?_)
      · skip
        refine aw_aload_n dX11_dreads_26 rfl ?_
        refine aw_get dX11_dreads_27 fl_X11_12 e_4 (by omega) rfl ?_
        refine aw_iload_n dX11_dreads_30 rfl ?_
        have hh9 := (h_6.resolve_right (fun z => c_13 z.1)).2
        obtain ⟨m_14, m_14a, m_14b, m_14e⟩ := in_nat (a := 1) (b := 120) (by decide) ⟨hh9.1, hh9.2.1⟩
        refine aw_callVv (J' := jX10_take) (As := [.int n1]) (st := []) dX11_dreads_31 tb_271 ok_X10_take ⟨_, e_8⟩ (by omega) rfl rfl (g_X10_takeS l D b N V hN hJ0.1 n1) rfl (Nat.le_of_ble_eq_true rfl) ⟨Nat.le_of_ble_eq_true rfl, Nat.le_of_ble_eq_true rfl, Nat.le_of_ble_eq_true rfl, Nat.le_of_ble_eq_true rfl⟩ (fun  N_19 V_18 q_20 => ?_)
        obtain ⟨h_16, rfl, q_15⟩ := q_20
        have j_17 := JW.trans hJ0 (JW.weak q_15 (Sub.cons (LMs (LMs LM0)) (by decide) (by decide) (by decide) (Or.inr ⟨by decide, by decide⟩) (Sub.cons (LMs (LMs (LMs LM0))) (by decide) (by decide) (by decide) (Or.inr ⟨by decide, by decide⟩) (Sub.cons (LMs (LMs (LMs (LMs LM0)))) (by decide) (by decide) (by decide) (Or.inr ⟨by decide, by decide⟩) (Sub.cons (LMs (LMs (LMs (LMs (LMs LM0))))) (by decide) (by decide) (by decide) (Or.inr ⟨by decide, by decide⟩) Sub.nil)))))
        refine aw_aload_n dX11_dreads_34 rfl ?_
        obtain ⟨ek_21, x_21, y_21, e_21, hx_21, hy_21⟩ := JW.get j_17 ct_0
        refine aw_get dX11_dreads_35 fl_X11_23 e_21 (by omega) rfl ?_
        refine aw_aload_n dX11_dreads_38 rfl ?_
        refine aw_get dX11_dreads_39 fl_X11_19 e_21 (by omega) rfl ?_
        obtain ⟨pe_26, dd_26, ni_26, xx_26, e_26⟩ := JW.get j_17 (ctc_0 cA_21)
        refine aw_callVv (J' := jX0_copyFrom) (As := [.ref (b + 3)]) (st := []) dX11_dreads_42 tb_581 ok_X0_copyFrom ⟨_, e_26⟩ (by omega) rfl rfl (g_X0_copyFromS2 l D b N V_18 hN j_17.1 21 cA_21 3 cA_3 (by decide)) rfl (Nat.le_of_ble_eq_true rfl) ⟨Nat.le_of_ble_eq_true rfl, Nat.le_of_ble_eq_true rfl, Nat.le_of_ble_eq_true rfl, Nat.le_of_ble_eq_true rfl⟩ (fun  N_27 V_25 q_28 => ?_)
        obtain ⟨h_23, rfl, q_22⟩ := q_28
        have j_24 := JW.trans j_17 (JW.weak q_22 (Sub.cons (LMs LM0) (by decide) (by decide) (by decide) (Or.inl rfl) (Sub.cons (LMs (LMs (LMs (LMs (LMs (LMs LM0)))))) (by decide) (by decide) (by decide) (Or.inr ⟨by decide, by decide⟩) (Sub.cons (LMs (LMs (LMs (LMs (LMs (LMs (LMs LM0))))))) (by decide) (by decide) (by decide) (Or.inr ⟨by decide, by decide⟩) (Sub.cons (LMs (LMs (LMs (LMs (LMs (LMs (LMs (LMs LM0)))))))) (by decide) (by decide) (by decide) (Or.inr ⟨by decide, by decide⟩) (Sub.cons (LMs (LMs (LMs (LMs (LMs (LMs (LMs (LMs (LMs LM0))))))))) (by decide) (by decide) (by decide) (Or.inr ⟨by decide, by decide⟩) (Sub.cons (LMs LM0) (by decide) (by decide) (by decide) (Or.inl rfl) (Sub.cons (LMs LM0) (by decide) (by decide) (by decide) (Or.inl rfl) (Sub.cons (LMs LM0) (by decide) (by decide) (by decide) (Or.inl rfl) (Sub.cons (LMs LM0) (by decide) (by decide) (by decide) (Or.inl rfl) Sub.nil))))))))))
        refine aw_new dX11_dreads_45 nw_X11_102 (Nat.le_of_ble_eq_true rfl) (Nat.le_of_ble_eq_true rfl) ?_
        refine aw_newJ j_24 hN (fun V_29 j_29 e_29 k_29 => ?_)
        refine aw_dup dX11_dreads_48 rfl ?_
        refine aw_aload_n dX11_dreads_49 rfl ?_
        obtain ⟨ek_30, x_30, y_30, e_30, hx_30, hy_30⟩ := JW.get j_29 ct_0
        refine aw_get dX11_dreads_50 fl_X11_12 e_30 (by omega) rfl ?_
        refine aw_aload_n dX11_dreads_53 rfl ?_
        refine aw_get dX11_dreads_54 fl_X11_23 e_30 (by omega) rfl ?_
        refine aw_iload_n dX11_dreads_57 rfl ?_
        refine aw_callIv (As := [.ref (b + 1), .ref (b + 21), .int n0]) (st := [.ref (b + N)]) dX11_dreads_58 tb_590 ok_X2_init rfl (g_X2_init l D b (N + 1) V_29 N (by omega) 21 n0 e_29) rfl (Nat.le_of_ble_eq_true rfl) ⟨Nat.le_of_ble_eq_true rfl, Nat.le_of_ble_eq_true rfl, Nat.le_of_ble_eq_true rfl, Nat.le_of_ble_eq_true rfl⟩ (fun  N_36 V_35 q_37 => ?_)
        obtain ⟨rfl, h_31, f_32⟩ := q_37
        have jA_33 := JW.skip j_29 f_32 hN
        have jB_34 : JW D b (N + 1) [(5, 20, 0, 1000000), (23, 38, 0, 1000000), (1, 1, 2, 2), (1, 1, 3, 3), (1, 1, 4, 4), (1, 1, 1, 1), (21, 21, 5, 5), (21, 21, 6, 6), (21, 21, 7, 7), (21, 21, 8, 8), (3, 3, 5, 5), (3, 3, 6, 6), (3, 3, 7, 7), (3, 3, 8, 8)] V_35 V_35 := JW.rf jA_33.1
        refine aw_bipush (v := 20) dX11_dreads_61 (by decide) ?_
        refine aw_callWi (J' := jX6_readLines) (y := ({ cls := "FearLocks$DreadsReader", name := "readLines", desc := "(I)I" } : Jvm.MethodName)) (RC := "FearLocks$DreadsReader") (owner := "FearLocks$LinesReader") (As := [.int 20]) (st := []) dX11_dreads_63 tb_602 okW_X6_readLines_X2 ⟨_, ((jB_34.2.1 _ (by omega) (by omega)).trans h_31)⟩ (by omega) rfl rfl (g_X6_readLines_DS2 l D b (N + 1) V_35 (by omega) jB_34.1 N 21 n0 ⟨by omega, by omega⟩ cA_21 ((jB_34.2.1 _ (by omega) (by omega)).trans h_31) g_1 ((f_32 _ (by omega)).trans ((k_29 _ (by omega)).trans ((JW.same q_22 (by decide) (fun k => (nfc (by omega) (nfc (by omega) (nfc (by omega) (nfc (by omega) (nfc (by omega) (nfc (by omega) (nfc (by omega) (nfc (by omega) (nfc (by omega) nf0))))))))))).trans ((JW.same q_15 (by decide) (fun k => (nfc (by omega) (nfc (by omega) (nfc (by omega) (nfc (by omega) nf0)))))).trans e_1)))) m_14 0 ⟨by omega, by omega⟩ ((congrArg (fun z => fI z 2) (f_32 _ (by omega))).trans ((congrArg (fun z => fI z 2) (k_29 _ (by omega))).trans ((JW.fI q_22 (by omega) (nfc (by omega) (nfc (by omega) (nfc (by omega) (nfc (by omega) (nfc (by omega) (nfc (by omega) (nfc (by omega) (nfc (by omega) (nfc (by omega) nf0)))))))))).trans (h_16.2.1.trans m_14e)))) ((congrArg (fun z => fI z 3) (f_32 _ (by omega))).trans ((congrArg (fun z => fI z 3) (k_29 _ (by omega))).trans ((JW.fI q_22 (by omega) (nfc (by omega) (nfc (by omega) (nfc (by omega) (nfc (by omega) (nfc (by omega) (nfc (by omega) (nfc (by omega) (nfc (by omega) (nfc (by omega) nf0)))))))))).trans h_16.2.2))) (fI (V 3) 5) ((congrArg (fun z => fI z 5) (f_32 _ (by omega))).trans ((congrArg (fun z => fI z 5) (k_29 _ (by omega))).trans (h_23.1.trans ((JW.fI q_15 (by omega) (nfc (by omega) (nfc (by omega) (nfc (by omega) (nfc (by omega) nf0))))).trans (Eq.refl (fI (V 3) 5))))))) rfl (Nat.le_of_ble_eq_true rfl) ⟨Nat.le_of_ble_eq_true rfl, Nat.le_of_ble_eq_true rfl, Nat.le_of_ble_eq_true rfl, Nat.le_of_ble_eq_true rfl⟩ (fun r_42 N_43 V_41 q_44 => ?_)
        obtain ⟨h_39, rfl, q_38⟩ := q_44
        have j_40 := JW.trans jB_34 (JW.weak q_38 (Sub.cons (LMs (LMs (LMs (LMs LM0)))) (by decide) (by decide) (by decide) (Or.inr ⟨by decide, by decide⟩) (Sub.cons (LMs (LMs (LMs LM0))) (by decide) (by decide) (by decide) (Or.inr ⟨by decide, by decide⟩) (Sub.cons (LMs (LMs (LMs (LMs (LMs (LMs LM0)))))) (by decide) (by decide) (by decide) (Or.inr ⟨by decide, by decide⟩) (Sub.cons (LMs LM0) (by decide) (by decide) (by decide) (Or.inl rfl) Sub.nil)))))
        refine aw_istore_n (ls' := [some (.ref (b + 0)), some (.int n0), some (.int n1), some (.int r_42)]) dX11_dreads_66 (Nat.le_of_ble_eq_true rfl) rfl ?_
        refine aw_iload_n dX11_dreads_67 rfl ?_
        refine aw_if_le (tgt := 82) dX11_dreads_68 (by decide) (fun c_45 => ?_) (fun c_45 => ?_)
        · skip
          obtain ⟨f9, hx9⟩ := ((txD_code (by omega) h_39.1).resolve_left (fun z => absurd z.1 (Int32.not_lt.mpr c_45))).2
          have hX9 := (dX_of e_1 m_14e (by omega)).trans hx9
          refine aw_iload_n dX11_dreads_82 rfl ?_
          refine aw_ireti dX11_dreads_83 rfl (Nat.le_of_ble_eq_true rfl) (Nat.le_of_ble_eq_true rfl) ?_
          exact ⟨Nat.le_succ _, Nat.le_refl _, Or.inl ⟨(by have e0 : (0 : Int32).toInt = 0 := (by decide); have e1 : (1 : Int32).toInt = 1 := (by decide); have e11 : (11 : Int32).toInt = 11 := (by decide); have e12 : (12 : Int32).toInt = 12 := (by decide); have e120 : (120 : Int32).toInt = 120 := (by decide); have q0 := c_2; have q1 := c_3; have q2 := c_13; have q3 := h_6; simp only [cDr, ← Int32.toInt_inj, Int32.le_iff_toInt_le, Int32.lt_iff_toInt_lt] at q0 q1 q2 q3 ⊢; omega), h_39.1.trans (congrArg cod (dX_of e_1 m_14e (by omega))).symm⟩, Or.inl ⟨(by have e0 : (0 : Int32).toInt = 0 := (by decide); have e1 : (1 : Int32).toInt = 1 := (by decide); have e11 : (11 : Int32).toInt = 11 := (by decide); have e12 : (12 : Int32).toInt = 12 := (by decide); have e120 : (120 : Int32).toInt = 120 := (by decide); have q0 := c_2; have q1 := c_3; have q2 := c_13; have q3 := h_6; simp only [cDr, ← Int32.toInt_inj, Int32.le_iff_toInt_le, Int32.lt_iff_toInt_lt] at q0 q1 q2 q3 ⊢; omega), ((JW.fI q_38 (by omega) (nfc (by omega) (nfc (by omega) (nfc (by omega) (nfc (by omega) nf0))))).trans ((congrArg (fun z => fI z 1) (f_32 _ (by omega))).trans ((congrArg (fun z => fI z 1) (k_29 _ (by omega))).trans ((JW.fI q_22 (by omega) (nfc (by omega) (nfc (by omega) (nfc (by omega) (nfc (by omega) (nfc (by omega) (nfc (by omega) (nfc (by omega) (nfc (by omega) (nfc (by omega) nf0)))))))))).trans h_16.1))))⟩, ((JW.fI q_38 (by omega) (nfc (by omega) (nfc (by omega) (nfc (by omega) (nfc (by omega) nf0))))).trans ((congrArg (fun z => fI z 7) (f_32 _ (by omega))).trans ((congrArg (fun z => fI z 7) (k_29 _ (by omega))).trans ((JW.fI q_22 (by omega) (nfc (by omega) (nfc (by omega) (nfc (by omega) (nfc (by omega) (nfc (by omega) (nfc (by omega) (nfc (by omega) (nfc (by omega) (nfc (by omega) nf0)))))))))).trans ((JW.fI q_15 (by omega) (nfc (by omega) (nfc (by omega) (nfc (by omega) (nfc (by omega) nf0))))).trans (Eq.refl (fI (V 3) 7))))))), Or.inl ⟨(by have e0 : (0 : Int32).toInt = 0 := (by decide); have e1 : (1 : Int32).toInt = 1 := (by decide); have e11 : (11 : Int32).toInt = 11 := (by decide); have e12 : (12 : Int32).toInt = 12 := (by decide); have e120 : (120 : Int32).toInt = 120 := (by decide); have q0 := c_2; have q1 := c_3; have q2 := c_13; have q3 := h_6; simp only [cDr, ← Int32.toInt_inj, Int32.le_iff_toInt_le, Int32.lt_iff_toInt_lt] at q0 q1 q2 q3 ⊢; omega), (((JW.fI q_38 (by omega) (nfc (by omega) (nfc (by omega) (nfc (by omega) (nfc (by omega) nf0))))).trans ((congrArg (fun z => fI z 5) (f_32 _ (by omega))).trans ((congrArg (fun z => fI z 5) (k_29 _ (by omega))).trans ((JW.fI q_22 (by omega) (nfc (by omega) (nfc (by omega) (nfc (by omega) (nfc (by omega) (nfc (by omega) (nfc (by omega) (nfc (by omega) (nfc (by omega) (nfc (by omega) nf0)))))))))).trans ((JW.fI q_15 (by omega) (nfc (by omega) (nfc (by omega) (nfc (by omega) (nfc (by omega) nf0))))).trans (Eq.refl (fI (V 3) 5)))))))).trans (pplD_l hX9).symm⟩, ((JW.fI q_38 (by omega) (nfc (by omega) (nfc (by omega) (nfc (by omega) (nfc (by omega) nf0))))).trans ((congrArg (fun z => fI z 6) (f_32 _ (by omega))).trans ((congrArg (fun z => fI z 6) (k_29 _ (by omega))).trans ((JW.fI q_22 (by omega) (nfc (by omega) (nfc (by omega) (nfc (by omega) (nfc (by omega) (nfc (by omega) (nfc (by omega) (nfc (by omega) (nfc (by omega) (nfc (by omega) nf0)))))))))).trans ((JW.fI q_15 (by omega) (nfc (by omega) (nfc (by omega) (nfc (by omega) (nfc (by omega) nf0))))).trans (Eq.refl (fI (V 3) 6))))))), ((congrArg (fun z => rs (fI z)) (JW.same q_38 (by omega) (fun k => (nfc (by omega) (nfc (by omega) (nfc (by omega) (nfc (by omega) nf0))))))).trans ((congrArg (fun z => rs (fI z)) (f_32 _ (by omega))).trans ((congrArg (fun z => rs (fI z)) (k_29 _ (by omega))).trans ((congrArg (fun z => rs (fI z)) (JW.same q_22 (by omega) (fun k => (nfc (by omega) (nfc (by omega) (nfc (by omega) (nfc (by omega) (nfc (by omega) (nfc (by omega) (nfc (by omega) (nfc (by omega) (nfc (by omega) nf0)))))))))))).trans ((congrArg (fun z => rs (fI z)) (JW.same q_15 (by omega) (fun k => (nfc (by omega) (nfc (by omega) (nfc (by omega) (nfc (by omega) nf0))))))).trans (Eq.refl (rs (fI (V 17))))))))), JW.trans jA_33 (JW.weakN j_40)⟩
        · skip
          obtain ⟨L9, s9, hx9⟩ := ((txD_code (by omega) h_39.1).resolve_right (fun z => z.1 (Int32.not_le.mp c_45))).2
          have hp9 := h_39.2 _ _ hx9
          have hX9 := (dX_of e_1 m_14e (by omega)).trans hx9
          refine aw_aload_n dX11_dreads_71 rfl ?_
          obtain ⟨ek_46, x_46, y_46, e_46, hx_46, hy_46⟩ := JW.get j_40 ct_0
          refine aw_get dX11_dreads_72 fl_X11_19 e_46 (by omega) rfl ?_
          refine aw_aload_n dX11_dreads_75 rfl ?_
          refine aw_get dX11_dreads_76 fl_X11_23 e_46 (by omega) rfl ?_
          obtain ⟨pe_51, dd_51, ni_51, xx_51, e_51⟩ := JW.get j_40 (ctc_0 cA_3)
          refine aw_callVv (J' := jX0_copyFrom) (As := [.ref (b + 21)]) (st := []) dX11_dreads_79 tb_581 ok_X0_copyFrom ⟨_, e_51⟩ (by omega) rfl rfl (g_X0_copyFromS2 l D b (N + 1) V_41 (by omega) j_40.1 3 cA_3 21 cA_21 (by decide)) rfl (Nat.le_of_ble_eq_true rfl) ⟨Nat.le_of_ble_eq_true rfl, Nat.le_of_ble_eq_true rfl, Nat.le_of_ble_eq_true rfl, Nat.le_of_ble_eq_true rfl⟩ (fun  N_52 V_50 q_53 => ?_)
          obtain ⟨h_48, rfl, q_47⟩ := q_53
          have j_49 := JW.trans j_40 (JW.weak q_47 (Sub.cons LM0 (by decide) (by decide) (by decide) (Or.inl rfl) (Sub.cons (LMs (LMs (LMs (LMs (LMs (LMs (LMs (LMs (LMs (LMs LM0)))))))))) (by decide) (by decide) (by decide) (Or.inr ⟨by decide, by decide⟩) (Sub.cons (LMs (LMs (LMs (LMs (LMs (LMs (LMs (LMs (LMs (LMs (LMs LM0))))))))))) (by decide) (by decide) (by decide) (Or.inr ⟨by decide, by decide⟩) (Sub.cons (LMs (LMs (LMs (LMs (LMs (LMs (LMs (LMs (LMs (LMs (LMs (LMs LM0)))))))))))) (by decide) (by decide) (by decide) (Or.inr ⟨by decide, by decide⟩) (Sub.cons (LMs (LMs (LMs (LMs (LMs (LMs (LMs (LMs (LMs (LMs (LMs (LMs (LMs LM0))))))))))))) (by decide) (by decide) (by decide) (Or.inr ⟨by decide, by decide⟩) (Sub.cons LM0 (by decide) (by decide) (by decide) (Or.inl rfl) (Sub.cons LM0 (by decide) (by decide) (by decide) (Or.inl rfl) (Sub.cons LM0 (by decide) (by decide) (by decide) (Or.inl rfl) (Sub.cons LM0 (by decide) (by decide) (by decide) (Or.inl rfl) Sub.nil))))))))))
          refine aw_iload_n dX11_dreads_82 rfl ?_
          refine aw_ireti dX11_dreads_83 rfl (Nat.le_of_ble_eq_true rfl) (Nat.le_of_ble_eq_true rfl) ?_
          exact ⟨Nat.le_succ _, Nat.le_refl _, Or.inl ⟨(by have e0 : (0 : Int32).toInt = 0 := (by decide); have e1 : (1 : Int32).toInt = 1 := (by decide); have e11 : (11 : Int32).toInt = 11 := (by decide); have e12 : (12 : Int32).toInt = 12 := (by decide); have e120 : (120 : Int32).toInt = 120 := (by decide); have q0 := c_2; have q1 := c_3; have q2 := c_13; have q3 := h_6; simp only [cDr, ← Int32.toInt_inj, Int32.le_iff_toInt_le, Int32.lt_iff_toInt_lt] at q0 q1 q2 q3 ⊢; omega), h_39.1.trans (congrArg cod (dX_of e_1 m_14e (by omega))).symm⟩, Or.inl ⟨(by have e0 : (0 : Int32).toInt = 0 := (by decide); have e1 : (1 : Int32).toInt = 1 := (by decide); have e11 : (11 : Int32).toInt = 11 := (by decide); have e12 : (12 : Int32).toInt = 12 := (by decide); have e120 : (120 : Int32).toInt = 120 := (by decide); have q0 := c_2; have q1 := c_3; have q2 := c_13; have q3 := h_6; simp only [cDr, ← Int32.toInt_inj, Int32.le_iff_toInt_le, Int32.lt_iff_toInt_lt] at q0 q1 q2 q3 ⊢; omega), ((JW.fI q_47 (by omega) (nfc (by omega) (nfc (by omega) (nfc (by omega) (nfc (by omega) (nfc (by omega) (nfc (by omega) (nfc (by omega) (nfc (by omega) (nfc (by omega) nf0)))))))))).trans ((JW.fI q_38 (by omega) (nfc (by omega) (nfc (by omega) (nfc (by omega) (nfc (by omega) nf0))))).trans ((congrArg (fun z => fI z 1) (f_32 _ (by omega))).trans ((congrArg (fun z => fI z 1) (k_29 _ (by omega))).trans ((JW.fI q_22 (by omega) (nfc (by omega) (nfc (by omega) (nfc (by omega) (nfc (by omega) (nfc (by omega) (nfc (by omega) (nfc (by omega) (nfc (by omega) (nfc (by omega) nf0)))))))))).trans h_16.1)))))⟩, (h_48.2.2.1.trans ((JW.fI q_38 (by omega) (nfc (by omega) (nfc (by omega) (nfc (by omega) (nfc (by omega) nf0))))).trans ((congrArg (fun z => fI z 7) (f_32 _ (by omega))).trans ((congrArg (fun z => fI z 7) (k_29 _ (by omega))).trans (h_23.2.2.1.trans ((JW.fI q_15 (by omega) (nfc (by omega) (nfc (by omega) (nfc (by omega) (nfc (by omega) nf0))))).trans (Eq.refl (fI (V 3) 7)))))))), Or.inl ⟨(by have e0 : (0 : Int32).toInt = 0 := (by decide); have e1 : (1 : Int32).toInt = 1 := (by decide); have e11 : (11 : Int32).toInt = 11 := (by decide); have e12 : (12 : Int32).toInt = 12 := (by decide); have e120 : (120 : Int32).toInt = 120 := (by decide); have q0 := c_2; have q1 := c_3; have q2 := c_13; have q3 := h_6; simp only [cDr, ← Int32.toInt_inj, Int32.le_iff_toInt_le, Int32.lt_iff_toInt_lt] at q0 q1 q2 q3 ⊢; omega), ((h_48.1.trans hp9)).trans (pplD_r hX9).symm⟩, (h_48.2.1.trans ((JW.fI q_38 (by omega) (nfc (by omega) (nfc (by omega) (nfc (by omega) (nfc (by omega) nf0))))).trans ((congrArg (fun z => fI z 6) (f_32 _ (by omega))).trans ((congrArg (fun z => fI z 6) (k_29 _ (by omega))).trans (h_23.2.1.trans ((JW.fI q_15 (by omega) (nfc (by omega) (nfc (by omega) (nfc (by omega) (nfc (by omega) nf0))))).trans (Eq.refl (fI (V 3) 6)))))))), (h_48.2.2.2.trans ((congrArg (fun z => rs (fI z)) (JW.same q_38 (by omega) (fun k => (nfc (by omega) (nfc (by omega) (nfc (by omega) (nfc (by omega) nf0))))))).trans ((congrArg (fun z => rs (fI z)) (f_32 _ (by omega))).trans ((congrArg (fun z => rs (fI z)) (k_29 _ (by omega))).trans (h_23.2.2.2.trans ((congrArg (fun z => rs (fI z)) (JW.same q_15 (by omega) (fun k => (nfc (by omega) (nfc (by omega) (nfc (by omega) (nfc (by omega) nf0))))))).trans (Eq.refl (rs (fI (V 17)))))))))), JW.trans jA_33 (JW.weakN j_49)⟩
      · skip
        refine aw_iconst (v := (-1)) dX11_dreads_24 (by decide) ?_
        refine aw_ireti dX11_dreads_25 rfl (Nat.le_of_ble_eq_true rfl) (Nat.le_of_ble_eq_true rfl) ?_
        exact ⟨Nat.le_refl _, Nat.le_succ _, Or.inr ⟨(by have e0 : (0 : Int32).toInt = 0 := (by decide); have e1 : (1 : Int32).toInt = 1 := (by decide); have e11 : (11 : Int32).toInt = 11 := (by decide); have e12 : (12 : Int32).toInt = 12 := (by decide); have e120 : (120 : Int32).toInt = 120 := (by decide); have q0 := c_2; have q1 := c_3; have q2 := c_13; have q3 := h_6; simp only [cDr, ← Int32.toInt_inj, Int32.le_iff_toInt_le, Int32.lt_iff_toInt_lt] at q0 q1 q2 q3 ⊢; omega), rfl⟩, Or.inr ⟨(by have e0 : (0 : Int32).toInt = 0 := (by decide); have e1 : (1 : Int32).toInt = 1 := (by decide); have e11 : (11 : Int32).toInt = 11 := (by decide); have e12 : (12 : Int32).toInt = 12 := (by decide); have e120 : (120 : Int32).toInt = 120 := (by decide); have q0 := c_2; have q1 := c_3; have q2 := c_13; have q3 := h_6; simp only [cDr, ← Int32.toInt_inj, Int32.le_iff_toInt_le, Int32.lt_iff_toInt_lt] at q0 q1 q2 q3 ⊢; omega), (Eq.refl (fI (V 1) 1))⟩, (Eq.refl (fI (V 3) 7)), Or.inr ⟨(by have e0 : (0 : Int32).toInt = 0 := (by decide); have e1 : (1 : Int32).toInt = 1 := (by decide); have e11 : (11 : Int32).toInt = 11 := (by decide); have e12 : (12 : Int32).toInt = 12 := (by decide); have e120 : (120 : Int32).toInt = 120 := (by decide); have q0 := c_2; have q1 := c_3; have q2 := c_13; have q3 := h_6; simp only [cDr, ← Int32.toInt_inj, Int32.le_iff_toInt_le, Int32.lt_iff_toInt_lt] at q0 q1 q2 q3 ⊢; omega), (Eq.refl (fI (V 3) 5))⟩, (Eq.refl (fI (V 3) 6)), (Eq.refl (rs (fI (V 17)))), hJ0⟩

set_option maxHeartbeats 20000000 in
set_option maxRecDepth 100000 in
theorem g_X11_ordersS2 (l : Launch) (D : va_G) (b : Nat) (N : Nat) (V : Wd) (hN : 100 ≤ N) (hW : CW D b V) (n0 : Int32)  : MI l D b 6 jX11_orders [.ref (b + 0), .int n0] N V 1 2 (fun r N9 V9 => N ≤ N9 ∧ N9 ≤ N + 1 ∧ ANS (cIn n0 1 120 (fI (V 1) 1)) r (cod (ordX (fI (V 2)) n0 (fI (V 3) 5) (fI (V 3) 6, rs (fI (V 17))))) ∧ TKS (cIn n0 1 120 (fI (V 1) 1)) (fI (V 1) 1) (fI (V9 1) 1) ∧ fI (V9 3) 7 = fI (V 3) 7 ∧ fI (V9 3) 5 = fI (V 3) 5 ∧ UPD (cIn n0 1 120 (fI (V 1) 1)) (fI (V9 3) 6) (fI (V 3) 6) (ostD (ordX (fI (V 2)) n0 (fI (V 3) 5) (fI (V 3) 6, rs (fI (V 17)))) (fI (V 3) 6)) ∧ UPD (cIn n0 1 120 (fI (V 1) 1)) (rs (fI (V9 17))) (rs (fI (V 17))) (ostK (ordX (fI (V 2)) n0 (fI (V 3) 5) (fI (V 3) 6, rs (fI (V 17)))) (rs (fI (V 17)))) ∧ JW D b N [(5, 20, 0, 1000000), (23, 38, 0, 1000000), (1, 1, 2, 2), (1, 1, 3, 3), (1, 1, 4, 4), (1, 1, 1, 1), (21, 21, 5, 5), (21, 21, 6, 6), (21, 21, 7, 7), (21, 21, 8, 8), (3, 3, 5, 5), (3, 3, 6, 6), (3, 3, 7, 7), (3, 3, 8, 8)] V V9) := by
  have hJ0 : JW D b N [(5, 20, 0, 1000000), (23, 38, 0, 1000000), (1, 1, 2, 2), (1, 1, 3, 3), (1, 1, 4, 4), (1, 1, 1, 1), (21, 21, 5, 5), (21, 21, 6, 6), (21, 21, 7, 7), (21, 21, 8, 8), (3, 3, 5, 5), (3, 3, 6, 6), (3, 3, 7, 7), (3, 3, 8, 8)] V V := JW.rf hW
  refine mw_of (by decide) (by simp [Value.category]) (Nat.le_of_ble_eq_true rfl) ?_
  show AW l D b jX11_orders (fx_rm 6 1 2) none (fx_MQ D b 1 2 (fx_qi (fun r N9 V9 => N ≤ N9 ∧ N9 ≤ N + 1 ∧ ANS (cIn n0 1 120 (fI (V 1) 1)) r (cod (ordX (fI (V 2)) n0 (fI (V 3) 5) (fI (V 3) 6, rs (fI (V 17))))) ∧ TKS (cIn n0 1 120 (fI (V 1) 1)) (fI (V 1) 1) (fI (V9 1) 1) ∧ fI (V9 3) 7 = fI (V 3) 7 ∧ fI (V9 3) 5 = fI (V 3) 5 ∧ UPD (cIn n0 1 120 (fI (V 1) 1)) (fI (V9 3) 6) (fI (V 3) 6) (ostD (ordX (fI (V 2)) n0 (fI (V 3) 5) (fI (V 3) 6, rs (fI (V 17)))) (fI (V 3) 6)) ∧ UPD (cIn n0 1 120 (fI (V 1) 1)) (rs (fI (V9 17))) (rs (fI (V 17))) (ostK (ordX (fI (V 2)) n0 (fI (V 3) 5) (fI (V 3) 6, rs (fI (V 17)))) (rs (fI (V 17)))) ∧ JW D b N [(5, 20, 0, 1000000), (23, 38, 0, 1000000), (1, 1, 2, 2), (1, 1, 3, 3), (1, 1, 4, 4), (1, 1, 1, 1), (21, 21, 5, 5), (21, 21, 6, 6), (21, 21, 7, 7), (21, 21, 8, 8), (3, 3, 5, 5), (3, 3, 6, 6), (3, 3, 7, 7), (3, 3, 8, 8)] V V9))) 0 [some (.ref (b + 0)), some (.int n0), none] [] N V 0 0
  obtain ⟨g_1, e_1⟩ := JW.get hJ0 ct_2
  refine aw_aload_n dX11_orders_0 rfl ?_
  obtain ⟨ek_2, x_2, y_2, e_2, hx_2, hy_2⟩ := JW.get hJ0 ct_0
  refine aw_get dX11_orders_1 fl_X11_12 e_2 (by omega) rfl ?_
  refine aw_iload_n dX11_orders_4 rfl ?_
  refine aw_iconst (v := 1) dX11_orders_5 (by decide) ?_
  refine aw_bipush (v := 120) dX11_orders_6 (by decide) ?_
  obtain ⟨ts_6, tn_6, tf_6, ta_6, e_6, hta_6⟩ := JW.get hJ0 ct_1
  refine aw_callVi (J' := jX10_holds) (As := [.int n0, .int 1, .int 120]) (st := []) dX11_orders_8 tb_267 ok_X10_holds ⟨_, e_6⟩ (by omega) rfl rfl (g_X10_holdsK l D b N V hN hJ0.1 n0 1 120) rfl (Nat.le_of_ble_eq_true rfl) ⟨Nat.le_of_ble_eq_true rfl, Nat.le_of_ble_eq_true rfl, Nat.le_of_ble_eq_true rfl, Nat.le_of_ble_eq_true rfl⟩ (fun r_7 N_8 V_9 q_10 => ?_)
  obtain ⟨⟨z_5, h_4⟩, rfl, rfl⟩ := q_10
  refine aw_if_ne (tgt := 16) dX11_orders_11 (by decide) (fun c_11 => ?_) (fun c_11 => ?_)
  · skip
    refine aw_aload_n dX11_orders_16 rfl ?_
    refine aw_get dX11_orders_17 fl_X11_12 e_2 (by omega) rfl ?_
    refine aw_iload_n dX11_orders_20 rfl ?_
    have hh9 := (h_4.resolve_right (fun z => c_11 z.1)).2
    obtain ⟨m_12, m_12a, m_12b, m_12e⟩ := in_nat (a := 1) (b := 120) (by decide) ⟨hh9.1, hh9.2.1⟩
    refine aw_callVv (J' := jX10_take) (As := [.int n0]) (st := []) dX11_orders_21 tb_271 ok_X10_take ⟨_, e_6⟩ (by omega) rfl rfl (g_X10_takeS l D b N V hN hJ0.1 n0) rfl (Nat.le_of_ble_eq_true rfl) ⟨Nat.le_of_ble_eq_true rfl, Nat.le_of_ble_eq_true rfl, Nat.le_of_ble_eq_true rfl, Nat.le_of_ble_eq_true rfl⟩ (fun  N_17 V_16 q_18 => ?_)
    obtain ⟨h_14, rfl, q_13⟩ := q_18
    have j_15 := JW.trans hJ0 (JW.weak q_13 (Sub.cons (LMs (LMs LM0)) (by decide) (by decide) (by decide) (Or.inr ⟨by decide, by decide⟩) (Sub.cons (LMs (LMs (LMs LM0))) (by decide) (by decide) (by decide) (Or.inr ⟨by decide, by decide⟩) (Sub.cons (LMs (LMs (LMs (LMs LM0)))) (by decide) (by decide) (by decide) (Or.inr ⟨by decide, by decide⟩) (Sub.cons (LMs (LMs (LMs (LMs (LMs LM0))))) (by decide) (by decide) (by decide) (Or.inr ⟨by decide, by decide⟩) Sub.nil)))))
    refine aw_aload_n dX11_orders_24 rfl ?_
    obtain ⟨ek_19, x_19, y_19, e_19, hx_19, hy_19⟩ := JW.get j_15 ct_0
    refine aw_get dX11_orders_25 fl_X11_23 e_19 (by omega) rfl ?_
    refine aw_aload_n dX11_orders_28 rfl ?_
    refine aw_get dX11_orders_29 fl_X11_19 e_19 (by omega) rfl ?_
    obtain ⟨pe_24, dd_24, ni_24, xx_24, e_24⟩ := JW.get j_15 (ctc_0 cA_21)
    refine aw_callVv (J' := jX0_copyFrom) (As := [.ref (b + 3)]) (st := []) dX11_orders_32 tb_581 ok_X0_copyFrom ⟨_, e_24⟩ (by omega) rfl rfl (g_X0_copyFromS2 l D b N V_16 hN j_15.1 21 cA_21 3 cA_3 (by decide)) rfl (Nat.le_of_ble_eq_true rfl) ⟨Nat.le_of_ble_eq_true rfl, Nat.le_of_ble_eq_true rfl, Nat.le_of_ble_eq_true rfl, Nat.le_of_ble_eq_true rfl⟩ (fun  N_25 V_23 q_26 => ?_)
    obtain ⟨h_21, rfl, q_20⟩ := q_26
    have j_22 := JW.trans j_15 (JW.weak q_20 (Sub.cons (LMs LM0) (by decide) (by decide) (by decide) (Or.inl rfl) (Sub.cons (LMs (LMs (LMs (LMs (LMs (LMs LM0)))))) (by decide) (by decide) (by decide) (Or.inr ⟨by decide, by decide⟩) (Sub.cons (LMs (LMs (LMs (LMs (LMs (LMs (LMs LM0))))))) (by decide) (by decide) (by decide) (Or.inr ⟨by decide, by decide⟩) (Sub.cons (LMs (LMs (LMs (LMs (LMs (LMs (LMs (LMs LM0)))))))) (by decide) (by decide) (by decide) (Or.inr ⟨by decide, by decide⟩) (Sub.cons (LMs (LMs (LMs (LMs (LMs (LMs (LMs (LMs (LMs LM0))))))))) (by decide) (by decide) (by decide) (Or.inr ⟨by decide, by decide⟩) (Sub.cons (LMs LM0) (by decide) (by decide) (by decide) (Or.inl rfl) (Sub.cons (LMs LM0) (by decide) (by decide) (by decide) (Or.inl rfl) (Sub.cons (LMs LM0) (by decide) (by decide) (by decide) (Or.inl rfl) (Sub.cons (LMs LM0) (by decide) (by decide) (by decide) (Or.inl rfl) Sub.nil))))))))))
    refine aw_new dX11_orders_35 nw_X11_108 (Nat.le_of_ble_eq_true rfl) (Nat.le_of_ble_eq_true rfl) ?_
    refine aw_newJ j_22 hN (fun V_27 j_27 e_27 k_27 => ?_)
    refine aw_dup dX11_orders_38 rfl ?_
    refine aw_aload_n dX11_orders_39 rfl ?_
    obtain ⟨ek_28, x_28, y_28, e_28, hx_28, hy_28⟩ := JW.get j_27 ct_0
    refine aw_get dX11_orders_40 fl_X11_12 e_28 (by omega) rfl ?_
    refine aw_aload_n dX11_orders_43 rfl ?_
    refine aw_get dX11_orders_44 fl_X11_23 e_28 (by omega) rfl ?_
    refine aw_callIv (As := [.ref (b + 1), .ref (b + 21)]) (st := [.ref (b + N)]) dX11_orders_47 tb_610 ok_X8_init rfl (g_X8_init l D b (N + 1) V_27 N (by omega) 21 e_27) rfl (Nat.le_of_ble_eq_true rfl) ⟨Nat.le_of_ble_eq_true rfl, Nat.le_of_ble_eq_true rfl, Nat.le_of_ble_eq_true rfl, Nat.le_of_ble_eq_true rfl⟩ (fun  N_34 V_33 q_35 => ?_)
    obtain ⟨rfl, h_29, f_30⟩ := q_35
    have jA_31 := JW.skip j_27 f_30 hN
    have jB_32 : JW D b (N + 1) [(5, 20, 0, 1000000), (23, 38, 0, 1000000), (1, 1, 2, 2), (1, 1, 3, 3), (1, 1, 4, 4), (1, 1, 1, 1), (21, 21, 5, 5), (21, 21, 6, 6), (21, 21, 7, 7), (21, 21, 8, 8), (3, 3, 5, 5), (3, 3, 6, 6), (3, 3, 7, 7), (3, 3, 8, 8)] V_33 V_33 := JW.rf jA_31.1
    refine aw_bipush (v := 16) dX11_orders_50 (by decide) ?_
    refine aw_callWi (J' := jX6_readLines) (y := ({ cls := "FearLocks$OrdersReader", name := "readLines", desc := "(I)I" } : Jvm.MethodName)) (RC := "FearLocks$OrdersReader") (owner := "FearLocks$LinesReader") (As := [.int 16]) (st := []) dX11_orders_52 tb_619 okW_X6_readLines_X8 ⟨_, ((jB_32.2.1 _ (by omega) (by omega)).trans h_29)⟩ (by omega) rfl rfl (g_X6_readLines_OS l D b (N + 1) V_33 (by omega) jB_32.1 N 21 ⟨by omega, by omega⟩ cA_21 ((jB_32.2.1 _ (by omega) (by omega)).trans h_29) g_1 ((f_30 _ (by omega)).trans ((k_27 _ (by omega)).trans ((JW.same q_20 (by decide) (fun k => (nfc (by omega) (nfc (by omega) (nfc (by omega) (nfc (by omega) (nfc (by omega) (nfc (by omega) (nfc (by omega) (nfc (by omega) (nfc (by omega) nf0))))))))))).trans ((JW.same q_13 (by decide) (fun k => (nfc (by omega) (nfc (by omega) (nfc (by omega) (nfc (by omega) nf0)))))).trans e_1)))) m_12 0 ⟨by omega, by omega⟩ ((congrArg (fun z => fI z 2) (f_30 _ (by omega))).trans ((congrArg (fun z => fI z 2) (k_27 _ (by omega))).trans ((JW.fI q_20 (by omega) (nfc (by omega) (nfc (by omega) (nfc (by omega) (nfc (by omega) (nfc (by omega) (nfc (by omega) (nfc (by omega) (nfc (by omega) (nfc (by omega) nf0)))))))))).trans (h_14.2.1.trans m_12e)))) ((congrArg (fun z => fI z 3) (f_30 _ (by omega))).trans ((congrArg (fun z => fI z 3) (k_27 _ (by omega))).trans ((JW.fI q_20 (by omega) (nfc (by omega) (nfc (by omega) (nfc (by omega) (nfc (by omega) (nfc (by omega) (nfc (by omega) (nfc (by omega) (nfc (by omega) (nfc (by omega) nf0)))))))))).trans h_14.2.2))) (fI (V 3) 5) ((congrArg (fun z => fI z 5) (f_30 _ (by omega))).trans ((congrArg (fun z => fI z 5) (k_27 _ (by omega))).trans (h_21.1.trans ((JW.fI q_13 (by omega) (nfc (by omega) (nfc (by omega) (nfc (by omega) (nfc (by omega) nf0))))).trans (Eq.refl (fI (V 3) 5)))))) ((fI (V 3) 6), (rs (fI (V 17)))) ((congrArg (fun z => fI z 6) (f_30 _ (by omega))).trans ((congrArg (fun z => fI z 6) (k_27 _ (by omega))).trans (h_21.2.1.trans ((JW.fI q_13 (by omega) (nfc (by omega) (nfc (by omega) (nfc (by omega) (nfc (by omega) nf0))))).trans (Eq.refl (fI (V 3) 6)))))) ((congrArg (fun z => rs (fI z)) (f_30 _ (by omega))).trans ((congrArg (fun z => rs (fI z)) (k_27 _ (by omega))).trans (h_21.2.2.2.trans ((congrArg (fun z => rs (fI z)) (JW.same q_13 (by omega) (fun k => (nfc (by omega) (nfc (by omega) (nfc (by omega) (nfc (by omega) nf0))))))).trans (Eq.refl (rs (fI (V 17))))))))) rfl (Nat.le_of_ble_eq_true rfl) ⟨Nat.le_of_ble_eq_true rfl, Nat.le_of_ble_eq_true rfl, Nat.le_of_ble_eq_true rfl, Nat.le_of_ble_eq_true rfl⟩ (fun r_40 N_41 V_39 q_42 => ?_)
    obtain ⟨h_37, rfl, q_36⟩ := q_42
    have j_38 := JW.trans jB_32 (JW.weak q_36 (Sub.cons (LMs (LMs (LMs LM0))) (by decide) (by decide) (by decide) (Or.inr ⟨by decide, by decide⟩) (Sub.cons (LMs (LMs (LMs (LMs LM0)))) (by decide) (by decide) (by decide) (Or.inr ⟨by decide, by decide⟩) (Sub.cons (LMs LM0) (by decide) (by decide) (by decide) (Or.inl rfl) (Sub.cons (LMs (LMs (LMs (LMs (LMs (LMs (LMs LM0))))))) (by decide) (by decide) (by decide) (Or.inr ⟨by decide, by decide⟩) (Sub.cons (LMs LM0) (by decide) (by decide) (by decide) (Or.inl rfl) (Sub.cons (LMs LM0) (by decide) (by decide) (by decide) (Or.inl rfl) (Sub.cons (LMs LM0) (by decide) (by decide) (by decide) (Or.inl rfl) Sub.nil))))))))
    refine aw_istore_n (ls' := [some (.ref (b + 0)), some (.int n0), some (.int r_40)]) dX11_orders_55 (Nat.le_of_ble_eq_true rfl) rfl ?_
    refine aw_iload_n dX11_orders_56 rfl ?_
    refine aw_if_le (tgt := 71) dX11_orders_57 (by decide) (fun c_43 => ?_) (fun c_43 => ?_)
    · skip
      obtain ⟨f9, hx9⟩ := ((txO_code (by omega) h_37.1).resolve_left (fun z => absurd z.1 (Int32.not_lt.mpr c_43))).2
      have hX9 := (ordX_of e_1 m_12e (by omega)).trans hx9
      refine aw_iload_n dX11_orders_71 rfl ?_
      refine aw_ireti dX11_orders_72 rfl (Nat.le_of_ble_eq_true rfl) (Nat.le_of_ble_eq_true rfl) ?_
      exact ⟨Nat.le_succ _, Nat.le_refl _, Or.inl ⟨(by have e0 : (0 : Int32).toInt = 0 := (by decide); have e1 : (1 : Int32).toInt = 1 := (by decide); have e120 : (120 : Int32).toInt = 120 := (by decide); have q0 := c_11; have q1 := h_4; simp only [cIn, ← Int32.toInt_inj, Int32.le_iff_toInt_le, Int32.lt_iff_toInt_lt] at q0 q1 ⊢; omega), h_37.1.trans (congrArg cod (ordX_of e_1 m_12e (by omega))).symm⟩, Or.inl ⟨(by have e0 : (0 : Int32).toInt = 0 := (by decide); have e1 : (1 : Int32).toInt = 1 := (by decide); have e120 : (120 : Int32).toInt = 120 := (by decide); have q0 := c_11; have q1 := h_4; simp only [cIn, ← Int32.toInt_inj, Int32.le_iff_toInt_le, Int32.lt_iff_toInt_lt] at q0 q1 ⊢; omega), ((JW.fI q_36 (by omega) (nfc (by omega) (nfc (by omega) (nfc (by omega) (nfc (by omega) (nfc (by omega) (nfc (by omega) (nfc (by omega) nf0)))))))).trans ((congrArg (fun z => fI z 1) (f_30 _ (by omega))).trans ((congrArg (fun z => fI z 1) (k_27 _ (by omega))).trans ((JW.fI q_20 (by omega) (nfc (by omega) (nfc (by omega) (nfc (by omega) (nfc (by omega) (nfc (by omega) (nfc (by omega) (nfc (by omega) (nfc (by omega) (nfc (by omega) nf0)))))))))).trans h_14.1))))⟩, ((JW.fI q_36 (by omega) (nfc (by omega) (nfc (by omega) (nfc (by omega) (nfc (by omega) (nfc (by omega) (nfc (by omega) (nfc (by omega) nf0)))))))).trans ((congrArg (fun z => fI z 7) (f_30 _ (by omega))).trans ((congrArg (fun z => fI z 7) (k_27 _ (by omega))).trans ((JW.fI q_20 (by omega) (nfc (by omega) (nfc (by omega) (nfc (by omega) (nfc (by omega) (nfc (by omega) (nfc (by omega) (nfc (by omega) (nfc (by omega) (nfc (by omega) nf0)))))))))).trans ((JW.fI q_13 (by omega) (nfc (by omega) (nfc (by omega) (nfc (by omega) (nfc (by omega) nf0))))).trans (Eq.refl (fI (V 3) 7))))))), ((JW.fI q_36 (by omega) (nfc (by omega) (nfc (by omega) (nfc (by omega) (nfc (by omega) (nfc (by omega) (nfc (by omega) (nfc (by omega) nf0)))))))).trans ((congrArg (fun z => fI z 5) (f_30 _ (by omega))).trans ((congrArg (fun z => fI z 5) (k_27 _ (by omega))).trans ((JW.fI q_20 (by omega) (nfc (by omega) (nfc (by omega) (nfc (by omega) (nfc (by omega) (nfc (by omega) (nfc (by omega) (nfc (by omega) (nfc (by omega) (nfc (by omega) nf0)))))))))).trans ((JW.fI q_13 (by omega) (nfc (by omega) (nfc (by omega) (nfc (by omega) (nfc (by omega) nf0))))).trans (Eq.refl (fI (V 3) 5))))))), Or.inl ⟨(by have e0 : (0 : Int32).toInt = 0 := (by decide); have e1 : (1 : Int32).toInt = 1 := (by decide); have e120 : (120 : Int32).toInt = 120 := (by decide); have q0 := c_11; have q1 := h_4; simp only [cIn, ← Int32.toInt_inj, Int32.le_iff_toInt_le, Int32.lt_iff_toInt_lt] at q0 q1 ⊢; omega), (((JW.fI q_36 (by omega) (nfc (by omega) (nfc (by omega) (nfc (by omega) (nfc (by omega) (nfc (by omega) (nfc (by omega) (nfc (by omega) nf0)))))))).trans ((congrArg (fun z => fI z 6) (f_30 _ (by omega))).trans ((congrArg (fun z => fI z 6) (k_27 _ (by omega))).trans ((JW.fI q_20 (by omega) (nfc (by omega) (nfc (by omega) (nfc (by omega) (nfc (by omega) (nfc (by omega) (nfc (by omega) (nfc (by omega) (nfc (by omega) (nfc (by omega) nf0)))))))))).trans ((JW.fI q_13 (by omega) (nfc (by omega) (nfc (by omega) (nfc (by omega) (nfc (by omega) nf0))))).trans (Eq.refl (fI (V 3) 6)))))))).trans (ostD_l hX9).symm⟩, Or.inl ⟨(by have e0 : (0 : Int32).toInt = 0 := (by decide); have e1 : (1 : Int32).toInt = 1 := (by decide); have e120 : (120 : Int32).toInt = 120 := (by decide); have q0 := c_11; have q1 := h_4; simp only [cIn, ← Int32.toInt_inj, Int32.le_iff_toInt_le, Int32.lt_iff_toInt_lt] at q0 q1 ⊢; omega), (((congrArg (fun z => rs (fI z)) (JW.same q_36 (by omega) (fun k => (nfc (by omega) (nfc (by omega) (nfc (by omega) (nfc (by omega) (nfc (by omega) (nfc (by omega) (nfc (by omega) nf0)))))))))).trans ((congrArg (fun z => rs (fI z)) (f_30 _ (by omega))).trans ((congrArg (fun z => rs (fI z)) (k_27 _ (by omega))).trans ((congrArg (fun z => rs (fI z)) (JW.same q_20 (by omega) (fun k => (nfc (by omega) (nfc (by omega) (nfc (by omega) (nfc (by omega) (nfc (by omega) (nfc (by omega) (nfc (by omega) (nfc (by omega) (nfc (by omega) nf0)))))))))))).trans ((congrArg (fun z => rs (fI z)) (JW.same q_13 (by omega) (fun k => (nfc (by omega) (nfc (by omega) (nfc (by omega) (nfc (by omega) nf0))))))).trans (Eq.refl (rs (fI (V 17)))))))))).trans (ostK_l hX9).symm⟩, JW.trans jA_31 (JW.weakN j_38)⟩
    · skip
      obtain ⟨L9, s9, hx9⟩ := ((txO_code (by omega) h_37.1).resolve_right (fun z => z.1 (Int32.not_le.mp c_43))).2
      obtain ⟨hd9, hk9⟩ := h_37.2 _ _ hx9
      have hX9 := (ordX_of e_1 m_12e (by omega)).trans hx9
      refine aw_aload_n dX11_orders_60 rfl ?_
      obtain ⟨ek_44, x_44, y_44, e_44, hx_44, hy_44⟩ := JW.get j_38 ct_0
      refine aw_get dX11_orders_61 fl_X11_19 e_44 (by omega) rfl ?_
      refine aw_aload_n dX11_orders_64 rfl ?_
      refine aw_get dX11_orders_65 fl_X11_23 e_44 (by omega) rfl ?_
      obtain ⟨pe_49, dd_49, ni_49, xx_49, e_49⟩ := JW.get j_38 (ctc_0 cA_3)
      refine aw_callVv (J' := jX0_copyFrom) (As := [.ref (b + 21)]) (st := []) dX11_orders_68 tb_581 ok_X0_copyFrom ⟨_, e_49⟩ (by omega) rfl rfl (g_X0_copyFromS2 l D b (N + 1) V_39 (by omega) j_38.1 3 cA_3 21 cA_21 (by decide)) rfl (Nat.le_of_ble_eq_true rfl) ⟨Nat.le_of_ble_eq_true rfl, Nat.le_of_ble_eq_true rfl, Nat.le_of_ble_eq_true rfl, Nat.le_of_ble_eq_true rfl⟩ (fun  N_50 V_48 q_51 => ?_)
      obtain ⟨h_46, rfl, q_45⟩ := q_51
      have j_47 := JW.trans j_38 (JW.weak q_45 (Sub.cons LM0 (by decide) (by decide) (by decide) (Or.inl rfl) (Sub.cons (LMs (LMs (LMs (LMs (LMs (LMs (LMs (LMs (LMs (LMs LM0)))))))))) (by decide) (by decide) (by decide) (Or.inr ⟨by decide, by decide⟩) (Sub.cons (LMs (LMs (LMs (LMs (LMs (LMs (LMs (LMs (LMs (LMs (LMs LM0))))))))))) (by decide) (by decide) (by decide) (Or.inr ⟨by decide, by decide⟩) (Sub.cons (LMs (LMs (LMs (LMs (LMs (LMs (LMs (LMs (LMs (LMs (LMs (LMs LM0)))))))))))) (by decide) (by decide) (by decide) (Or.inr ⟨by decide, by decide⟩) (Sub.cons (LMs (LMs (LMs (LMs (LMs (LMs (LMs (LMs (LMs (LMs (LMs (LMs (LMs LM0))))))))))))) (by decide) (by decide) (by decide) (Or.inr ⟨by decide, by decide⟩) (Sub.cons LM0 (by decide) (by decide) (by decide) (Or.inl rfl) (Sub.cons LM0 (by decide) (by decide) (by decide) (Or.inl rfl) (Sub.cons LM0 (by decide) (by decide) (by decide) (Or.inl rfl) (Sub.cons LM0 (by decide) (by decide) (by decide) (Or.inl rfl) Sub.nil))))))))))
      refine aw_iload_n dX11_orders_71 rfl ?_
      refine aw_ireti dX11_orders_72 rfl (Nat.le_of_ble_eq_true rfl) (Nat.le_of_ble_eq_true rfl) ?_
      exact ⟨Nat.le_succ _, Nat.le_refl _, Or.inl ⟨(by have e0 : (0 : Int32).toInt = 0 := (by decide); have e1 : (1 : Int32).toInt = 1 := (by decide); have e120 : (120 : Int32).toInt = 120 := (by decide); have q0 := c_11; have q1 := h_4; simp only [cIn, ← Int32.toInt_inj, Int32.le_iff_toInt_le, Int32.lt_iff_toInt_lt] at q0 q1 ⊢; omega), h_37.1.trans (congrArg cod (ordX_of e_1 m_12e (by omega))).symm⟩, Or.inl ⟨(by have e0 : (0 : Int32).toInt = 0 := (by decide); have e1 : (1 : Int32).toInt = 1 := (by decide); have e120 : (120 : Int32).toInt = 120 := (by decide); have q0 := c_11; have q1 := h_4; simp only [cIn, ← Int32.toInt_inj, Int32.le_iff_toInt_le, Int32.lt_iff_toInt_lt] at q0 q1 ⊢; omega), ((JW.fI q_45 (by omega) (nfc (by omega) (nfc (by omega) (nfc (by omega) (nfc (by omega) (nfc (by omega) (nfc (by omega) (nfc (by omega) (nfc (by omega) (nfc (by omega) nf0)))))))))).trans ((JW.fI q_36 (by omega) (nfc (by omega) (nfc (by omega) (nfc (by omega) (nfc (by omega) (nfc (by omega) (nfc (by omega) (nfc (by omega) nf0)))))))).trans ((congrArg (fun z => fI z 1) (f_30 _ (by omega))).trans ((congrArg (fun z => fI z 1) (k_27 _ (by omega))).trans ((JW.fI q_20 (by omega) (nfc (by omega) (nfc (by omega) (nfc (by omega) (nfc (by omega) (nfc (by omega) (nfc (by omega) (nfc (by omega) (nfc (by omega) (nfc (by omega) nf0)))))))))).trans h_14.1)))))⟩, (h_46.2.2.1.trans ((JW.fI q_36 (by omega) (nfc (by omega) (nfc (by omega) (nfc (by omega) (nfc (by omega) (nfc (by omega) (nfc (by omega) (nfc (by omega) nf0)))))))).trans ((congrArg (fun z => fI z 7) (f_30 _ (by omega))).trans ((congrArg (fun z => fI z 7) (k_27 _ (by omega))).trans (h_21.2.2.1.trans ((JW.fI q_13 (by omega) (nfc (by omega) (nfc (by omega) (nfc (by omega) (nfc (by omega) nf0))))).trans (Eq.refl (fI (V 3) 7)))))))), (h_46.1.trans ((JW.fI q_36 (by omega) (nfc (by omega) (nfc (by omega) (nfc (by omega) (nfc (by omega) (nfc (by omega) (nfc (by omega) (nfc (by omega) nf0)))))))).trans ((congrArg (fun z => fI z 5) (f_30 _ (by omega))).trans ((congrArg (fun z => fI z 5) (k_27 _ (by omega))).trans (h_21.1.trans ((JW.fI q_13 (by omega) (nfc (by omega) (nfc (by omega) (nfc (by omega) (nfc (by omega) nf0))))).trans (Eq.refl (fI (V 3) 5)))))))), Or.inl ⟨(by have e0 : (0 : Int32).toInt = 0 := (by decide); have e1 : (1 : Int32).toInt = 1 := (by decide); have e120 : (120 : Int32).toInt = 120 := (by decide); have q0 := c_11; have q1 := h_4; simp only [cIn, ← Int32.toInt_inj, Int32.le_iff_toInt_le, Int32.lt_iff_toInt_lt] at q0 q1 ⊢; omega), ((h_46.2.1.trans hd9)).trans (ostD_r hX9).symm⟩, Or.inl ⟨(by have e0 : (0 : Int32).toInt = 0 := (by decide); have e1 : (1 : Int32).toInt = 1 := (by decide); have e120 : (120 : Int32).toInt = 120 := (by decide); have q0 := c_11; have q1 := h_4; simp only [cIn, ← Int32.toInt_inj, Int32.le_iff_toInt_le, Int32.lt_iff_toInt_lt] at q0 q1 ⊢; omega), ((h_46.2.2.2.trans hk9)).trans (ostK_r hX9).symm⟩, JW.trans jA_31 (JW.weakN j_47)⟩
  · skip
    refine aw_iconst (v := (-1)) dX11_orders_14 (by decide) ?_
    refine aw_ireti dX11_orders_15 rfl (Nat.le_of_ble_eq_true rfl) (Nat.le_of_ble_eq_true rfl) ?_
    exact ⟨Nat.le_refl _, Nat.le_succ _, Or.inr ⟨(by have e0 : (0 : Int32).toInt = 0 := (by decide); have e1 : (1 : Int32).toInt = 1 := (by decide); have e120 : (120 : Int32).toInt = 120 := (by decide); have q0 := c_11; have q1 := h_4; simp only [cIn, ← Int32.toInt_inj, Int32.le_iff_toInt_le, Int32.lt_iff_toInt_lt] at q0 q1 ⊢; omega), rfl⟩, Or.inr ⟨(by have e0 : (0 : Int32).toInt = 0 := (by decide); have e1 : (1 : Int32).toInt = 1 := (by decide); have e120 : (120 : Int32).toInt = 120 := (by decide); have q0 := c_11; have q1 := h_4; simp only [cIn, ← Int32.toInt_inj, Int32.le_iff_toInt_le, Int32.lt_iff_toInt_lt] at q0 q1 ⊢; omega), (Eq.refl (fI (V 1) 1))⟩, (Eq.refl (fI (V 3) 7)), (Eq.refl (fI (V 3) 5)), Or.inr ⟨(by have e0 : (0 : Int32).toInt = 0 := (by decide); have e1 : (1 : Int32).toInt = 1 := (by decide); have e120 : (120 : Int32).toInt = 120 := (by decide); have q0 := c_11; have q1 := h_4; simp only [cIn, ← Int32.toInt_inj, Int32.le_iff_toInt_le, Int32.lt_iff_toInt_lt] at q0 q1 ⊢; omega), (Eq.refl (fI (V 3) 6))⟩, Or.inr ⟨(by have e0 : (0 : Int32).toInt = 0 := (by decide); have e1 : (1 : Int32).toInt = 1 := (by decide); have e120 : (120 : Int32).toInt = 120 := (by decide); have q0 := c_11; have q1 := h_4; simp only [cIn, ← Int32.toInt_inj, Int32.le_iff_toInt_le, Int32.lt_iff_toInt_lt] at q0 q1 ⊢; omega), (Eq.refl (rs (fI (V 17))))⟩, hJ0⟩
