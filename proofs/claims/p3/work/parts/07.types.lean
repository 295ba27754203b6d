
abbrev E4 : Type := Nat × Nat × Nat × Nat
def pj (e : va_E) (k : Nat) : va_E := match e with
  | .inr (c, fs) => .inr (c, (fs[k]?).toList)
  | .inl (t, n, .inl g) => .inl (t, n, .inl (fun _ => g k))
  | .inl a => .inl a
def fI (e : va_E) (k : Nat) : Int32 := match e with
  | .inr (_, fs) => match fs[k]? with
    | some (.int v) => v
    | _ => 0
  | .inl (_, _, .inl g) => g k
  | _ => 0
theorem fI_pj {e e' : va_E} {k : Nat} (h : pj e k = pj e' k) : fI e k = fI e' k := by
  have key : ∀ e : va_E, fI e k = match pj e k with
    | .inr (_, [.int v]) => v
    | .inl (_, _, .inl g) => g 0
    | _ => 0 := by
    intro e
    match e with
    | .inr (c, fs) =>
      simp only [fI, pj]
      cases fs[k]? with
      | none => rfl
      | some v => cases v <;> rfl
    | .inl (t, n, .inl g) => rfl
    | .inl (t, n, .inr g) => rfl
  rw [key e, key e', h]
def fwB : List E4 → Nat → Nat → Bool
  | [], _, _ => false
  | (a, c, d, f) :: L, i, k => (decide (a ≤ i) && decide (i ≤ c) && decide (d ≤ k) && (decide (k ≤ f) || decide (f = 1000000))) || fwB L i k
def Sub (L L' : List E4) : Prop := ∀ i k, fwB L i k = true → fwB L' i k = true
theorem LM0 {a : E4} {l : List E4} : a ∈ a :: l := List.mem_cons_self
theorem LMs {a c : E4} {l : List E4} (h : a ∈ l) : a ∈ c :: l := List.mem_cons_of_mem _ h
theorem fwB_of {y0 y1 y2 y3 i k : Nat} : ∀ {L : List E4}, (y0, y1, y2, y3) ∈ L → y0 ≤ i → i ≤ y1 → y2 ≤ k → (k ≤ y3 ∨ y3 = 1000000) → fwB L i k = true
  | [], m, _, _, _, _ => by cases m
  | (a, c, d, f) :: L, m, h0, h1, h2, h3 => by
    rcases List.mem_cons.mp m with e | e
    · cases e
      simp only [fwB, Bool.or_eq_true, Bool.and_eq_true, decide_eq_true_eq]
      exact Or.inl ⟨⟨⟨h0, h1⟩, h2⟩, h3⟩
    · simp only [fwB, Bool.or_eq_true]
      exact Or.inr (fwB_of e h0 h1 h2 h3)
theorem Sub.nil {L : List E4} : Sub [] L := fun _ _ h => by cases h
theorem Sub.cons {x0 x1 x2 x3 y0 y1 y2 y3 : Nat} {L L' : List E4} (m : (y0, y1, y2, y3) ∈ L') (h0 : y0 ≤ x0) (h1 : x1 ≤ y1) (h2 : y2 ≤ x2) (h3 : y3 = 1000000 ∨ (x3 ≤ y3 ∧ x3 ≠ 1000000)) (t : Sub L L') : Sub ((x0, x1, x2, x3) :: L) L' := fun i k h => by
  simp only [fwB, Bool.or_eq_true, Bool.and_eq_true, decide_eq_true_eq] at h
  rcases h with ⟨⟨⟨q0, q1⟩, q2⟩, q3⟩ | h
  · exact fwB_of m (by omega) (by omega) (by omega) (by omega)
  · exact t i k h
theorem nf0 {i k : Nat} : fwB [] i k = false := rfl
theorem nfc {a c d f i k : Nat} {L : List E4} (h : i < a ∨ c < i ∨ k < d ∨ (f < k ∧ f ≠ 1000000)) (t : fwB L i k = false) : fwB ((a, c, d, f) :: L) i k = false := by
  simp only [fwB, t, Bool.or_false, Bool.and_eq_false_iff, Bool.or_eq_false_iff, decide_eq_false_iff_not]
  omega
theorem WA {V : Wd} {K : Nat} {L : List E4} {e : va_E} {y0 y1 : Nat} (m : (y0, y1, 0, 1000000) ∈ L) (h0 : y0 ≤ K) (h1 : K ≤ y1) : ∀ k, fwB L K k = false → pj e k = pj (V K) k := fun k h => by
  rw [fwB_of m h0 h1 (Nat.zero_le _) (Or.inr rfl)] at h; cases h
theorem WO {V : Wd} {K ci s y0 y1 y2 y3 : Nat} {L : List E4} {fs fs' : List Value} {x : Value} (eK : V K = cO ci fs) (hs : fs' = fs.set s x) (m : (y0, y1, y2, y3) ∈ L) (h0 : y0 ≤ K) (h1 : K ≤ y1) (h2 : y2 ≤ s) (h3 : s ≤ y3 ∨ y3 = 1000000) : ∀ k, fwB L K k = false → pj (cO ci fs') k = pj (V K) k := fun k h => by
  by_cases e : k = s
  · subst e; rw [fwB_of m h0 h1 h2 h3] at h; cases h
  · rw [eK, hs]
    simp only [pj, List.getElem?_set_ne (Ne.symm e)]
theorem WE {V : Wd} {D : va_G} {K n i y0 y1 y2 y3 : Nat} {L : List E4} {g : Nat → Int32} {x : Int32} (eK : V K = cI D n g) (m : (y0, y1, y2, y3) ∈ L) (h0 : y0 ≤ K) (h1 : K ≤ y1) (h2 : y2 ≤ i) (h3 : i ≤ y3) : ∀ k, fwB L K k = false → pj (cI D n (upd g i x)) k = pj (V K) k := fun k h => by
  by_cases e : k = i
  · subst e; rw [fwB_of m h0 h1 h2 (Or.inl h3)] at h; cases h
  · rw [eK]
    simp only [pj, pk_un e]

def isI (D : va_G) (n : Nat) (e : va_E) : Prop := ∃ g : Nat → Int32, e = cI D n g
def isJ (D : va_G) (n : Nat) (e : va_E) : Prop := ∃ g : Nat → Int64, e = cJ D n g
def isB (D : va_G) (n : Nat) (e : va_E) : Prop := ∃ g : Nat → Int32, e = cB D n g
def isZ (D : va_G) (n : Nat) (e : va_E) : Prop := ∃ g : Nat → Int32, e = cZ D n g
def isP (D : va_G) (n : Nat) (P : Int32 → Prop) (e : va_E) : Prop := ∃ g : Nat → Int32, e = cI D n g ∧ ∀ j, j < n → P (g j)
theorem isP_upd {n k : Nat} {P : Int32 → Prop} {g : Nat → Int32} {v : Int32} (h : ∀ j, j < n → P (g j)) (hv : P v) : ∀ j, j < n → P (upd g k v j) := fun j hj => by
  by_cases e : j = k
  · subst e; rw [pk_us]; exact hv
  · rw [pk_un e]; exact h j hj
def rowf (b c : Nat) : Nat → Option Nat := fun j => if j < 12 then some (b + (c + 1 + 1 + j)) else none
def TA (b a : Nat) (V : Wd) : Prop := (∃ s n f : Int32, V 1 = cO 9 [.ref (b + 2), .int s, .int n, .int (nI a), .int f]) ∧ a ≤ 260
def fx_d8 : Nat → Int32
  | 0 => -8
  | j + 1 => nI (8 * j)
theorem fx_d8_1 (j : Nat) (h : j < 5) : nI (8 * j) + (-8) = fx_d8 j := (show ∀ j : Nat, j < 5 → nI (8 * j) + (-8) = fx_d8 j by decide) j h
theorem rr_i {b c i : Nat} {x : Int32} (e : x = nI i) (hi : i < 12) : rowf b c x.toNatClampNeg = some (b + (c + 1 + 1 + i)) := by
  subst e; rw [nI_clamp (n := i) (by omega)]; exact if_pos hi
theorem vi_nat {x : Int32} {n : Nat} (h : vp_in x n) (hn : n < 2 ^ 31) : ∃ i : Nat, i < n ∧ x = nI i := by
  rcases pk_ix x hn with q | q | q
  · exact absurd (Or.inl q) h
  · exfalso; apply h; right
    have h1 := Int32.le_iff_toInt_le.mp q
    have h2 : (nI n).toInt = (n : Int) := by
      have := nI_clamp (n := n) (by omega)
      have h3 := Int32.le_iff_toInt_le.mp (nI_pos' (n := n) (by omega))
      have e0 : (0 : Int32).toInt = 0 := by decide
      unfold Int32.toNatClampNeg at this
      omega
    unfold Int32.toNatClampNeg
    omega
  · exact q
theorem vi_of {x : Int32} {i n : Nat} (e : x = nI i) (h : i < n) (hn : n < 2 ^ 31) : vp_in x n := by subst e; exact vp_in_nI h hn
theorem vi_1 {x : Int32} (h : 1 ≤ x) : 0 ≤ x := Int32.le_trans (by decide) h
theorem vi_lt {x k : Int32} {n : Nat} (h : x < k) (hk : k ≤ nI n) : x < nI n := Int32.lt_of_lt_of_le h hk
theorem vi_le {x k : Int32} {n : Nat} (h : x ≤ k) (hk : k < nI n) : x < nI n := Int32.lt_of_le_of_lt h hk
theorem vi_in {x : Int32} {n : Nat} (h1 : 0 ≤ x) (h2 : x < nI n) (hn : n < 2 ^ 31) : vp_in x n := by
  rcases pk_ix x hn with h | h | ⟨j, h, e⟩
  · exact absurd h (Int32.not_lt.mpr h1)
  · exact absurd h2 (Int32.not_lt.mpr h)
  · exact vi_of e h hn
theorem vi_res {r x : Int32} {n : Nat} (h : r = 0 ∨ ∃ j : Nat, j < n ∧ x = nI j) (c : ¬ r = 0) (hn : n < 2 ^ 31) : vp_in x n := by
  obtain ⟨j, hj, e⟩ := h.resolve_left c
  exact vi_of e hj hn
theorem fx_ix {x : Int32} {n : Nat} (hn : n < 2 ^ 31) (h1 : ¬ x < 0) (h2 : ¬ nI n ≤ x) : ∃ j : Nat, j < n ∧ x = nI j := by
  rcases pk_ix x hn with h | h | h
  · exact absurd h h1
  · exact absurd h h2
  · exact h
theorem fx_clt (x : Int32) : x.toNatClampNeg < 2 ^ 31 := by
  unfold Int32.toNatClampNeg
  have := Int32.toInt_lt x
  omega
theorem fx_nIt {n : Nat} (h : n < 2 ^ 31) : (nI n).toInt = (n : Int) := by
  have := nI_clamp (n := n) (by omega)
  have h3 := Int32.le_iff_toInt_le.mp (nI_pos' (n := n) (by omega))
  have e0 : (0 : Int32).toInt = 0 := by decide
  unfold Int32.toNatClampNeg at this
  omega
theorem fx_gec (x : Int32) : x ≤ nI x.toNatClampNeg := by
  rw [Int32.le_iff_toInt_le, fx_nIt (fx_clt x)]
  unfold Int32.toNatClampNeg
  omega
theorem fx_gecm (x : Int32) {k : Nat} (h : k < 2 ^ 31) : x ≤ nI (max k x.toNatClampNeg) := by
  have := fx_clt x
  exact Int32.le_trans (fx_gec x) (nI_le (Nat.le_max_right _ _) (by omega))
theorem fx_gej {x : Int32} {j : Nat} (h : j < x.toNatClampNeg) : ¬ x ≤ nI j := by
  have := fx_clt x
  rw [Int32.le_iff_toInt_le, fx_nIt (by omega)]
  unfold Int32.toNatClampNeg at h
  omega
theorem fx_tne {x k : Int32} (h : ¬ x = k) : x.toInt ≠ k.toInt := fun e => h (Int32.toInt_inj.mp e)
theorem fx_andI (a b : Nat) : nI a &&& nI b = nI (a &&& b) := by
  apply Int32.toBitVec_inj.mp
  simp [nI, BitVec.ofNat_and]
theorem fx_orI (a b : Nat) : nI a ||| nI b = nI (a ||| b) := by
  apply Int32.toBitVec_inj.mp
  simp [nI, BitVec.ofNat_or]
theorem fx_andle {s : Nat} (x : Int32) : ∃ j : Nat, j ≤ s ∧ nI s &&& x = nI j := by
  have e : x = nI x.toBitVec.toNat := by
    apply Int32.toBitVec_inj.mp
    simp [nI]
  refine ⟨s &&& x.toBitVec.toNat, Nat.and_le_left, ?_⟩
  rw [e, fx_andI, ← e]
theorem vi_and {x y : Int32} {n : Nat} (h : vp_in x n) (hn : n < 2 ^ 31) : vp_in (x &&& y) n := by
  obtain ⟨i, hi, rfl⟩ := vi_nat h hn
  obtain ⟨j, hj, e⟩ := fx_andle (s := i) y
  exact vi_of e (by omega) hn
theorem fx_shl12 : ∀ k, k < 12 → (1 : Int32) <<< (nI k &&& 31) = nI (2 ^ k) := by decide +kernel
theorem fx_pow12 {k : Nat} (h : k < 12) : 2 ^ k < 4096 := (show ∀ k, k < 12 → 2 ^ k < 4096 by decide) k h
theorem fx_inc {v k : Int32} (h : v ≤ k) (hk : k.toInt < 2147483647) : (v + 1).toInt = v.toInt + 1 := by
  have h1 := Int32.le_iff_toInt_le.mp h
  have h2 := Int32.le_toInt v
  have e1 : (1 : Int32).toInt = 1 := by decide
  rw [Int32.toInt_add, e1, Int.bmod_eq_of_le (by omega) (by omega)]
theorem fx_dec {v k : Int32} (h : ¬ k < v) (hk : k.toInt < 2147483647) : (k.toInt + 1 - (v + 1).toInt).toNat < (k.toInt + 1 - v.toInt).toNat := by
  have h0 := Int32.not_lt.mp h
  have h1 := Int32.le_iff_toInt_le.mp h0
  rw [fx_inc h0 hk]
  omega
def pc6 (x : Nat) : Nat := ((List.range 6).filter (fun j => x.testBit j)).length
theorem fx_hs6 : ∀ x, x < 64 → ∀ j, j < 6 → ((nI x >>> (nI j &&& 31)) &&& 1) = 0 → x.testBit j = false := by decide +kernel
theorem fx_pc6 : ∀ x, x < 64 → ∀ j, j < 6 → x.testBit j = false → pc6 (x ||| 2 ^ j) = pc6 x + 1 ∧ x ||| 2 ^ j < 64 := by decide +kernel
theorem fx_pc60 : ∀ x, x < 64 → 6 ≤ pc6 x → ∀ j, j < 6 → x.testBit j = false → False := by decide +kernel
theorem fx_pc61 : ∀ j, j < 6 → pc6 (2 ^ j) = 1 ∧ 2 ^ j < 64 := by decide +kernel
theorem fx_min16 (r : Nat) (h : r ≤ 16) : (if nI (r + 1) < (16 : Int32) then nI (r + 1) else 16) = nI (if r + 1 < 16 then r + 1 else 16) := (show ∀ r : Nat, r < 17 → (if nI (r + 1) < (16 : Int32) then nI (r + 1) else 16) = nI (if r + 1 < 16 then r + 1 else 16) by decide +kernel) r (by omega)
theorem fx_pop32 {x : Int32} (h1 : ¬ x ≤ 0) (h2 : ¬ 32 < x) : vp_in (x - 1) 32 := by
  have a1 := Int32.lt_iff_toInt_lt.mp (Int32.not_le.mp h1)
  have a2 := Int32.le_iff_toInt_le.mp (Int32.not_lt.mp h2)
  have e0 : (0 : Int32).toInt = 0 := by decide
  have e1 : (1 : Int32).toInt = 1 := by decide
  have e3 : (32 : Int32).toInt = 32 := by decide
  have e4 : (x - 1).toInt = x.toInt - 1 := by
    rw [Int32.toInt_sub, e1, Int.bmod_eq_of_le (by omega) (by omega)]
  intro q
  rcases q with q | q
  · have := Int32.lt_iff_toInt_lt.mp q
    omega
  · unfold Int32.toNatClampNeg at q
    omega
theorem rk_max0 (x : Int32) : (0 : Int32) ≤ (if 0 < x then x else 0) := by
  split
  · exact Int32.le_of_lt (by assumption)
  · decide
theorem rk_step {i k : Int32} (h0 : 0 ≤ i) (h1 : ¬ 256 ≤ i) (h2 : i ≤ k) (h3 : k.toInt ≤ 2147483646) : 0 ≤ k + 1 ∧ (256 - (k + 1).toInt).toNat < (256 - i.toInt).toNat := by
  have a0 := Int32.le_iff_toInt_le.mp h0
  have a1 := Int32.lt_iff_toInt_lt.mp (Int32.not_le.mp h1)
  have a2 := Int32.le_iff_toInt_le.mp h2
  have e0 : (0 : Int32).toInt = 0 := by decide
  have e6 : (256 : Int32).toInt = 256 := by decide
  have e := fx_inc (Int32.le_refl k) (by omega)
  rw [Int32.le_iff_toInt_le, e]
  omega
theorem rk_same {i : Int32} (h1 : ¬ 256 ≤ i) : i.toInt ≤ 2147483646 := by
  have a1 := Int32.lt_iff_toInt_lt.mp (Int32.not_le.mp h1)
  have e6 : (256 : Int32).toInt = 256 := by decide
  omega
theorem rk_max {i d : Int32} (h1 : ¬ 256 ≤ i) (hd : 0 ≤ d) : i ≤ (if i < d - 1 then d - 1 else i) ∧ (if i < d - 1 then d - 1 else i).toInt ≤ 2147483646 := by
  have a1 := Int32.lt_iff_toInt_lt.mp (Int32.not_le.mp h1)
  have e6 : (256 : Int32).toInt = 256 := by decide
  have e0 : (0 : Int32).toInt = 0 := by decide
  have e1 : (1 : Int32).toInt = 1 := by decide
  have a2 := Int32.le_iff_toInt_le.mp hd
  have a3 := Int32.toInt_lt d
  have e4 : (d - 1).toInt = d.toInt - 1 := by
    rw [Int32.toInt_sub, e1, Int.bmod_eq_of_le (by omega) (by omega)]
  split
  · exact ⟨Int32.le_of_lt (by assumption), by omega⟩
  · exact ⟨Int32.le_refl _, by omega⟩
theorem rk_p {g : Nat → Int32} {i : Int32} (h : ∀ j, j < 256 → 0 ≤ g j) (hi : vp_in i 256) : 0 ≤ g i.toNatClampNeg := h _ (Nat.not_le.mp fun q => hi (Or.inr q))
def rowT (D : va_G) (b c : Nat) (e : va_E) : Prop := e = cR D 12 (rowf b c)
def tyCity (b c : Nat) (e : va_E) : Prop := ∃ pe dd ni xx : Int32, e = cO 0 [.ref (b + (c + 1)), .ref (b + (c + 14)), .ref (b + (c + 15)), .ref (b + (c + 16)), .ref (b + (c + 17)), .int pe, .int dd, .int ni, .int xx]
def tyLaw (b c : Nat) (e : va_E) : Prop := ∃ (s8 r8 : Nat) (h8 : Int32), e = cO 4 [.ref (b + (c + 1)), .ref (b + (c + 2)), .int (nI s8), .ref (b + (c + 3)), .ref (b + (c + 4)), .ref (b + (c + 5)), .int (nI r8), .ref (b + (c + 6)), .ref (b + (c + 7)), .int h8] ∧ s8 ≤ 256 ∧ r8 ≤ 16
def tySelf (b : Nat) (e : va_E) : Prop := ∃ (ek : Int32) (x y : Nat), e = cO 10 [.ref (b + 1), .ref (b + 3), .ref (b + 21), .ref (b + 39), .int ek, .ref (b + x), .ref (b + y), .ref (b + 73), .ref (b + 92), .ref (b + 94), .ref (b + 97)] ∧ (x = 57 ∨ x = 65) ∧ (y = 57 ∨ y = 65)
def tyTape (b : Nat) (e : va_E) : Prop := ∃ (s n f : Int32) (a : Nat), e = cO 9 [.ref (b + 2), .int s, .int n, .int (nI a), .int f] ∧ a ≤ 260
def tyNf (b : Nat) (e : va_E) : Prop := ∃ o f : Int32, e = cO 6 [.ref (b + 74), .int o, .int f]
def tyKeys (b : Nat) (e : va_E) : Prop := e = cO 3 [.ref (b + 93)]
def tyComp (b : Nat) (e : va_E) : Prop := e = cO 1 [.ref (b + 95), .ref (b + 96)]
def tyPast (b : Nat) (e : va_E) : Prop := e = cO 8 [.ref (b + 98), .ref (b + 99)]
def cityL (D : va_G) (b c : Nat) : List (va_E → Prop) := [tyCity b c, rowT D b c, isI D 16, isI D 16, isI D 16, isI D 16, isI D 16, isI D 16, isI D 16, isI D 16, isI D 16, isI D 16, isI D 16, isI D 16, isI D 12, isI D 16, isI D 16, isI D 16]
def lawL (D : va_G) (b c : Nat) : List (va_E → Prop) := [tyLaw b c, isI D 256, isP D 256 (fun v => 0 ≤ v), isI D 16, isI D 16, isI D 16, isI D 10, isI D 32]
def ctL (D : va_G) (b : Nat) : List (va_E → Prop) := [tySelf b, tyTape b, isI D 260] ++ cityL D b 3 ++ cityL D b 21 ++ cityL D b 39 ++ lawL D b 57 ++ lawL D b 65 ++ [tyNf b] ++ cityL D b 74 ++ [tyKeys b, isI D 12, tyComp b, isI D 12, isI D 4096, tyPast b, isI D 6, isJ D 129]
def CW (D : va_G) (b : Nat) (V : Wd) : Prop := ∀ (i : Nat) (P : va_E → Prop), (ctL D b)[i]? = some P → P (V i)
def JW (D : va_G) (b N : Nat) (L : List E4) (V0 V : Wd) : Prop := CW D b V ∧ (∀ i, 100 ≤ i → i < N → V i = V0 i) ∧ ∀ i k, i < 100 → fwB L i k = false → pj (V i) k = pj (V0 i) k
theorem ctL_len (D : va_G) (b : Nat) : (ctL D b).length = 100 := rfl
theorem ct_lt {D : va_G} {b i : Nat} {P : va_E → Prop} (h : (ctL D b)[i]? = some P) : i < 100 := by
  have := (List.getElem?_eq_some_iff.mp h).1
  rw [ctL_len] at this; exact this
theorem JW.rf {D : va_G} {b N : Nat} {L : List E4} {V : Wd} (h : CW D b V) : JW D b N L V V := ⟨h, fun _ _ _ => rfl, fun _ _ _ _ => rfl⟩
theorem JW.trans {D : va_G} {b N : Nat} {L : List E4} {V0 V V' : Wd} (h : JW D b N L V0 V) (h' : JW D b N L V V') : JW D b N L V0 V' := ⟨h'.1, fun i h1 h2 => (h'.2.1 i h1 h2).trans (h.2.1 i h1 h2), fun i k h1 h2 => (h'.2.2 i k h1 h2).trans (h.2.2 i k h1 h2)⟩
theorem JW.weak {D : va_G} {b N : Nat} {L L' : List E4} {V0 V : Wd} (h : JW D b N L V0 V) (hs : Sub L L') : JW D b N L' V0 V := ⟨h.1, h.2.1, fun i k h1 h2 => h.2.2 i k h1 (by
  cases e : fwB L i k with
  | false => rfl
  | true => rw [hs i k e] at h2; cases h2)⟩
theorem pj_ext {e e' : va_E} (h : ∀ k, pj e k = pj e' k) : e = e' := by
  match e, e' with
  | .inr (c, fs), .inr (c', fs') =>
    have h0 := (Prod.mk.inj (Sum.inr.inj (h 0))).1
    have h1 : fs = fs' := by
      apply List.ext_getElem?
      intro k
      have := (Prod.mk.inj (Sum.inr.inj (h k))).2
      cases e1 : fs[k]? <;> cases e2 : fs'[k]? <;> rw [e1, e2] at this <;> simp_all
    rw [h0, h1]
  | .inl (t, n, .inl g), .inl (t', n', .inl g') =>
    have h0 := Prod.mk.inj (Sum.inl.inj (h 0))
    have h1 := Prod.mk.inj h0.2
    have h2 : g = g' := funext fun k => by
      have := (Prod.mk.inj (Prod.mk.inj (Sum.inl.inj (h k))).2).2
      exact congrFun (Sum.inl.inj this) 0
    rw [h0.1, h1.1, h2]
  | .inl (t, n, .inr g), .inl (t', n', .inr g') => exact h 0
  | .inl (t, n, .inl g), .inl (t', n', .inr g') => exact absurd (Prod.mk.inj (Prod.mk.inj (Sum.inl.inj (h 0))).2).2 (by intro q; cases q)
  | .inl (t, n, .inr g), .inl (t', n', .inl g') => exact absurd (Prod.mk.inj (Prod.mk.inj (Sum.inl.inj (h 0))).2).2 (by intro q; cases q)
  | .inr _, .inl (_, _, .inl _) => exact absurd (h 0) (by intro q; cases q)
  | .inr _, .inl (_, _, .inr _) => exact absurd (h 0) (by intro q; cases q)
  | .inl (_, _, .inl _), .inr _ => exact absurd (h 0) (by intro q; cases q)
  | .inl (_, _, .inr _), .inr _ => exact absurd (h 0) (by intro q; cases q)
theorem JW.same {D : va_G} {b N i : Nat} {L : List E4} {V0 V : Wd} (h : JW D b N L V0 V) (hi : i < 100) (hn : ∀ k, fwB L i k = false) : V i = V0 i := pj_ext fun k => h.2.2 i k hi (hn k)
theorem JW.fI {D : va_G} {b N i k : Nat} {L : List E4} {V0 V : Wd} (h : JW D b N L V0 V) (hi : i < 100) (hn : fwB L i k = false) : fI (V i) k = fI (V0 i) k := fI_pj (h.2.2 i k hi hn)
theorem JW.get {D : va_G} {b N i : Nat} {L : List E4} {V0 V : Wd} {P : va_E → Prop} (h : JW D b N L V0 V) (hk : (ctL D b)[i]? = some P) : P (V i) := h.1 i P hk
theorem CW.out {D : va_G} {b : Nat} {V V' : Wd} (h : CW D b V) (hf : ∀ i, i < 100 → V' i = V i) : CW D b V' := fun i P hi => by rw [hf i (ct_lt hi)]; exact h i P hi
theorem aw_up {l : Launch} {D : va_G} {b : Nat} {J : Md} {R : Room} {X : Sc} {FQ : Array Value → List Frame → State → State → Prop} {pc : Nat} {ls : List (Option Value)} {st : List Value} {N : Nat} {L : List E4} {V0 V : Wd} {k n K : Nat} {P : va_E → Prop} {e : va_E} (hJ : JW D b N L V0 V) (hk : (ctL D b)[K]? = some P) (hp : P e) (hT : ∀ k, fwB L K k = false → pj e k = pj (V K) k) (h : ∀ V', JW D b N L V0 V' → (∀ i, i ≠ K → V' i = V i) → V' K = e → AW l D b J R X FQ pc ls st N V' k n) : AW l D b J R X FQ pc ls st N (va_up V K e) k n := by
  have hK := ct_lt hk
  refine h _ ⟨fun i P' hi => ?_, fun i h1 h2 => (va_up_ne _ _ (by omega)).trans (hJ.2.1 i h1 h2), fun i k h1 h2 => ?_⟩ (fun i hi => va_up_ne _ _ hi) (va_up_self _ _ _)
  rotate_left
  · by_cases e1 : i = K
    · subst e1; rw [va_up_self]; exact (hT k h2).trans (hJ.2.2 i k h1 h2)
    · rw [va_up_ne _ _ e1]; exact hJ.2.2 i k h1 h2
  by_cases e1 : i = K
  · subst e1
    rw [va_up_self]
    cases hi.symm.trans hk
    exact hp
  · rw [va_up_ne _ _ e1]
    exact hJ.1 i P' hi
theorem ct_0 {D : va_G} {b : Nat} : (ctL D b)[0]? = some (tySelf b) := rfl
theorem ct_1 {D : va_G} {b : Nat} : (ctL D b)[1]? = some (tyTape b) := rfl
theorem ct_2 {D : va_G} {b : Nat} : (ctL D b)[2]? = some (isI D 260) := rfl
theorem ct_73 {D : va_G} {b : Nat} : (ctL D b)[73]? = some (tyNf b) := rfl
theorem ct_92 {D : va_G} {b : Nat} : (ctL D b)[92]? = some (tyKeys b) := rfl
theorem ct_93 {D : va_G} {b : Nat} : (ctL D b)[93]? = some (isI D 12) := rfl
theorem ct_94 {D : va_G} {b : Nat} : (ctL D b)[94]? = some (tyComp b) := rfl
theorem ct_95 {D : va_G} {b : Nat} : (ctL D b)[95]? = some (isI D 12) := rfl
theorem ct_96 {D : va_G} {b : Nat} : (ctL D b)[96]? = some (isI D 4096) := rfl
theorem ct_97 {D : va_G} {b : Nat} : (ctL D b)[97]? = some (tyPast b) := rfl
theorem ct_98 {D : va_G} {b : Nat} : (ctL D b)[98]? = some (isI D 6) := rfl
theorem ct_99 {D : va_G} {b : Nat} : (ctL D b)[99]? = some (isJ D 129) := rfl
theorem ctc_0 {D : va_G} {b c : Nat} (h : c = 3 ∨ c = 21 ∨ c = 39 ∨ c = 74) : (ctL D b)[c]? = some (tyCity b c) := by
  rcases h with rfl | rfl | rfl | rfl <;> rfl
theorem ctc_1 {D : va_G} {b c : Nat} (h : c = 3 ∨ c = 21 ∨ c = 39 ∨ c = 74) : (ctL D b)[c + 1]? = some (rowT D b c) := by
  rcases h with rfl | rfl | rfl | rfl <;> rfl
theorem ctc_14 {D : va_G} {b c : Nat} (h : c = 3 ∨ c = 21 ∨ c = 39 ∨ c = 74) : (ctL D b)[c + 14]? = some (isI D 12) := by
  rcases h with rfl | rfl | rfl | rfl <;> rfl
theorem ctc_15 {D : va_G} {b c : Nat} (h : c = 3 ∨ c = 21 ∨ c = 39 ∨ c = 74) : (ctL D b)[c + 15]? = some (isI D 16) := by
  rcases h with rfl | rfl | rfl | rfl <;> rfl
theorem ctc_16 {D : va_G} {b c : Nat} (h : c = 3 ∨ c = 21 ∨ c = 39 ∨ c = 74) : (ctL D b)[c + 16]? = some (isI D 16) := by
  rcases h with rfl | rfl | rfl | rfl <;> rfl
theorem ctc_17 {D : va_G} {b c : Nat} (h : c = 3 ∨ c = 21 ∨ c = 39 ∨ c = 74) : (ctL D b)[c + 17]? = some (isI D 16) := by
  rcases h with rfl | rfl | rfl | rfl <;> rfl
theorem ctl_0 {D : va_G} {b c : Nat} (h : c = 57 ∨ c = 65) : (ctL D b)[c]? = some (tyLaw b c) := by
  rcases h with rfl | rfl <;> rfl
theorem ctl_1 {D : va_G} {b c : Nat} (h : c = 57 ∨ c = 65) : (ctL D b)[c + 1]? = some (isI D 256) := by
  rcases h with rfl | rfl <;> rfl
theorem ctl_2 {D : va_G} {b c : Nat} (h : c = 57 ∨ c = 65) : (ctL D b)[c + 2]? = some (isP D 256 (fun v => 0 ≤ v)) := by
  rcases h with rfl | rfl <;> rfl
theorem ctl_3 {D : va_G} {b c : Nat} (h : c = 57 ∨ c = 65) : (ctL D b)[c + 3]? = some (isI D 16) := by
  rcases h with rfl | rfl <;> rfl
theorem ctl_4 {D : va_G} {b c : Nat} (h : c = 57 ∨ c = 65) : (ctL D b)[c + 4]? = some (isI D 16) := by
  rcases h with rfl | rfl <;> rfl
theorem ctl_5 {D : va_G} {b c : Nat} (h : c = 57 ∨ c = 65) : (ctL D b)[c + 5]? = some (isI D 16) := by
  rcases h with rfl | rfl <;> rfl
theorem ctl_6 {D : va_G} {b c : Nat} (h : c = 57 ∨ c = 65) : (ctL D b)[c + 6]? = some (isI D 10) := by
  rcases h with rfl | rfl <;> rfl
theorem ctl_7 {D : va_G} {b c : Nat} (h : c = 57 ∨ c = 65) : (ctL D b)[c + 7]? = some (isI D 32) := by
  rcases h with rfl | rfl <;> rfl
theorem ctc_row {D : va_G} {b c j : Nat} (h : c = 3 ∨ c = 21 ∨ c = 39 ∨ c = 74) (hj : j < 12) : (ctL D b)[c + 1 + 1 + j]? = some (isI D 16) := by
  have hj2 : j = 0 ∨ j = 1 ∨ j = 2 ∨ j = 3 ∨ j = 4 ∨ j = 5 ∨ j = 6 ∨ j = 7 ∨ j = 8 ∨ j = 9 ∨ j = 10 ∨ j = 11 := by omega
  rcases h with rfl | rfl | rfl | rfl <;> rcases hj2 with rfl | rfl | rfl | rfl | rfl | rfl | rfl | rfl | rfl | rfl | rfl | rfl <;> rfl
theorem cA_3 : (3 : Nat) = 3 ∨ (3 : Nat) = 21 ∨ (3 : Nat) = 39 ∨ (3 : Nat) = 74 := by decide
theorem cA_21 : (21 : Nat) = 3 ∨ (21 : Nat) = 21 ∨ (21 : Nat) = 39 ∨ (21 : Nat) = 74 := by decide
theorem cA_39 : (39 : Nat) = 3 ∨ (39 : Nat) = 21 ∨ (39 : Nat) = 39 ∨ (39 : Nat) = 74 := by decide
theorem cA_74 : (74 : Nat) = 3 ∨ (74 : Nat) = 21 ∨ (74 : Nat) = 39 ∨ (74 : Nat) = 74 := by decide
theorem lA_57 : (57 : Nat) = 57 ∨ (57 : Nat) = 65 := by decide
theorem lA_65 : (65 : Nat) = 57 ∨ (65 : Nat) = 65 := by decide
set_option maxHeartbeats 4000000 in
set_option maxRecDepth 100000 in
theorem c_bitCount (l : Launch) (D : va_G) (b : Nat) (N : Nat) (V : Wd) (x : Int32) : MI l D b 0 jJ6_bitCount_0f7a4 [.int x] N V 0 0 (fun r N9 V9 => N = N9 ∧ V = V9) := by
  refine mw_of (by decide) (by simp [Value.category]) (Nat.le_of_ble_eq_true rfl) ?_
  show AW l D b jJ6_bitCount_0f7a4 (fx_rm 0 0 0) none (fx_MQ D b 0 0 (fx_qi (fun r N9 V9 => N = N9 ∧ V = V9))) 0 [some (.int x)] [] N V 0 0
  refine aw_iload_n dJ6_bitCount_0f7a4_0 rfl ?_
  refine aw_iload_n dJ6_bitCount_0f7a4_1 rfl ?_
  refine aw_iconst (v := 1) dJ6_bitCount_0f7a4_2 (by decide) ?_
  refine aw_iushr dJ6_bitCount_0f7a4_3 rfl ?_
  refine aw_ldcw (v := 1431655765) dJ6_bitCount_0f7a4_4 tb_648 ?_
  refine aw_iand dJ6_bitCount_0f7a4_7 ?_
  refine aw_isub dJ6_bitCount_0f7a4_8 ?_
  refine aw_istore_n (ls' := [some (.int (x - ((((x).toUInt32 >>> ((1 : Int32).toUInt32 &&& Int32.toUInt32 31)).toInt32) &&& 1431655765)))]) dJ6_bitCount_0f7a4_9 (Nat.le_of_ble_eq_true rfl) rfl ?_
  refine aw_iload_n dJ6_bitCount_0f7a4_10 rfl ?_
  refine aw_ldcw (v := 858993459) dJ6_bitCount_0f7a4_11 tb_649 ?_
  refine aw_iand dJ6_bitCount_0f7a4_14 ?_
  refine aw_iload_n dJ6_bitCount_0f7a4_15 rfl ?_
  refine aw_iconst (v := 2) dJ6_bitCount_0f7a4_16 (by decide) ?_
  refine aw_iushr dJ6_bitCount_0f7a4_17 rfl ?_
  refine aw_ldcw (v := 858993459) dJ6_bitCount_0f7a4_18 tb_649 ?_
  refine aw_iand dJ6_bitCount_0f7a4_21 ?_
  refine aw_iadd dJ6_bitCount_0f7a4_22 ?_
  refine aw_istore_n (ls' := [some (.int (((x - ((((x).toUInt32 >>> ((1 : Int32).toUInt32 &&& Int32.toUInt32 31)).toInt32) &&& 1431655765)) &&& 858993459) + (((((x - ((((x).toUInt32 >>> ((1 : Int32).toUInt32 &&& Int32.toUInt32 31)).toInt32) &&& 1431655765))).toUInt32 >>> ((2 : Int32).toUInt32 &&& Int32.toUInt32 31)).toInt32) &&& 858993459)))]) dJ6_bitCount_0f7a4_23 (Nat.le_of_ble_eq_true rfl) rfl ?_
  refine aw_iload_n dJ6_bitCount_0f7a4_24 rfl ?_
  refine aw_iload_n dJ6_bitCount_0f7a4_25 rfl ?_
  refine aw_iconst (v := 4) dJ6_bitCount_0f7a4_26 (by decide) ?_
  refine aw_iushr dJ6_bitCount_0f7a4_27 rfl ?_
  refine aw_iadd dJ6_bitCount_0f7a4_28 ?_
  refine aw_ldcw (v := 252645135) dJ6_bitCount_0f7a4_29 tb_650 ?_
  refine aw_iand dJ6_bitCount_0f7a4_32 ?_
  refine aw_istore_n (ls' := [some (.int (((((x - ((((x).toUInt32 >>> ((1 : Int32).toUInt32 &&& Int32.toUInt32 31)).toInt32) &&& 1431655765)) &&& 858993459) + (((((x - ((((x).toUInt32 >>> ((1 : Int32).toUInt32 &&& Int32.toUInt32 31)).toInt32) &&& 1431655765))).toUInt32 >>> ((2 : Int32).toUInt32 &&& Int32.toUInt32 31)).toInt32) &&& 858993459)) + ((((((x - ((((x).toUInt32 >>> ((1 : Int32).toUInt32 &&& Int32.toUInt32 31)).toInt32) &&& 1431655765)) &&& 858993459) + (((((x - ((((x).toUInt32 >>> ((1 : Int32).toUInt32 &&& Int32.toUInt32 31)).toInt32) &&& 1431655765))).toUInt32 >>> ((2 : Int32).toUInt32 &&& Int32.toUInt32 31)).toInt32) &&& 858993459))).toUInt32 >>> ((4 : Int32).toUInt32 &&& Int32.toUInt32 31)).toInt32)) &&& 252645135))]) dJ6_bitCount_0f7a4_33 (Nat.le_of_ble_eq_true rfl) rfl ?_
  refine aw_iload_n dJ6_bitCount_0f7a4_34 rfl ?_
  refine aw_iload_n dJ6_bitCount_0f7a4_35 rfl ?_
  refine aw_bipush (v := 8) dJ6_bitCount_0f7a4_36 (by decide) ?_
  refine aw_iushr dJ6_bitCount_0f7a4_38 rfl ?_
  refine aw_iadd dJ6_bitCount_0f7a4_39 ?_
  refine aw_istore_n (ls' := [some (.int ((((((x - ((((x).toUInt32 >>> ((1 : Int32).toUInt32 &&& Int32.toUInt32 31)).toInt32) &&& 1431655765)) &&& 858993459) + (((((x - ((((x).toUInt32 >>> ((1 : Int32).toUInt32 &&& Int32.toUInt32 31)).toInt32) &&& 1431655765))).toUInt32 >>> ((2 : Int32).toUInt32 &&& Int32.toUInt32 31)).toInt32) &&& 858993459)) + ((((((x - ((((x).toUInt32 >>> ((1 : Int32).toUInt32 &&& Int32.toUInt32 31)).toInt32) &&& 1431655765)) &&& 858993459) + (((((x - ((((x).toUInt32 >>> ((1 : Int32).toUInt32 &&& Int32.toUInt32 31)).toInt32) &&& 1431655765))).toUInt32 >>> ((2 : Int32).toUInt32 &&& Int32.toUInt32 31)).toInt32) &&& 858993459))).toUInt32 >>> ((4 : Int32).toUInt32 &&& Int32.toUInt32 31)).toInt32)) &&& 252645135) + ((((((((x - ((((x).toUInt32 >>> ((1 : Int32).toUInt32 &&& Int32.toUInt32 31)).toInt32) &&& 1431655765)) &&& 858993459) + (((((x - ((((x).toUInt32 >>> ((1 : Int32).toUInt32 &&& Int32.toUInt32 31)).toInt32) &&& 1431655765))).toUInt32 >>> ((2 : Int32).toUInt32 &&& Int32.toUInt32 31)).toInt32) &&& 858993459)) + ((((((x - ((((x).toUInt32 >>> ((1 : Int32).toUInt32 &&& Int32.toUInt32 31)).toInt32) &&& 1431655765)) &&& 858993459) + (((((x - ((((x).toUInt32 >>> ((1 : Int32).toUInt32 &&& Int32.toUInt32 31)).toInt32) &&& 1431655765))).toUInt32 >>> ((2 : Int32).toUInt32 &&& Int32.toUInt32 31)).toInt32) &&& 858993459))).toUInt32 >>> ((4 : Int32).toUInt32 &&& Int32.toUInt32 31)).toInt32)) &&& 252645135)).toUInt32 >>> ((8 : Int32).toUInt32 &&& Int32.toUInt32 31)).toInt32)))]) dJ6_bitCount_0f7a4_40 (Nat.le_of_ble_eq_true rfl) rfl ?_
  refine aw_iload_n dJ6_bitCount_0f7a4_41 rfl ?_
  refine aw_iload_n dJ6_bitCount_0f7a4_42 rfl ?_
  refine aw_bipush (v := 16) dJ6_bitCount_0f7a4_43 (by decide) ?_
  refine aw_iushr dJ6_bitCount_0f7a4_45 rfl ?_
  refine aw_iadd dJ6_bitCount_0f7a4_46 ?_
  refine aw_istore_n (ls' := [some (.int (((((((x - ((((x).toUInt32 >>> ((1 : Int32).toUInt32 &&& Int32.toUInt32 31)).toInt32) &&& 1431655765)) &&& 858993459) + (((((x - ((((x).toUInt32 >>> ((1 : Int32).toUInt32 &&& Int32.toUInt32 31)).toInt32) &&& 1431655765))).toUInt32 >>> ((2 : Int32).toUInt32 &&& Int32.toUInt32 31)).toInt32) &&& 858993459)) + ((((((x - ((((x).toUInt32 >>> ((1 : Int32).toUInt32 &&& Int32.toUInt32 31)).toInt32) &&& 1431655765)) &&& 858993459) + (((((x - ((((x).toUInt32 >>> ((1 : Int32).toUInt32 &&& Int32.toUInt32 31)).toInt32) &&& 1431655765))).toUInt32 >>> ((2 : Int32).toUInt32 &&& Int32.toUInt32 31)).toInt32) &&& 858993459))).toUInt32 >>> ((4 : Int32).toUInt32 &&& Int32.toUInt32 31)).toInt32)) &&& 252645135) + ((((((((x - ((((x).toUInt32 >>> ((1 : Int32).toUInt32 &&& Int32.toUInt32 31)).toInt32) &&& 1431655765)) &&& 858993459) + (((((x - ((((x).toUInt32 >>> ((1 : Int32).toUInt32 &&& Int32.toUInt32 31)).toInt32) &&& 1431655765))).toUInt32 >>> ((2 : Int32).toUInt32 &&& Int32.toUInt32 31)).toInt32) &&& 858993459)) + ((((((x - ((((x).toUInt32 >>> ((1 : Int32).toUInt32 &&& Int32.toUInt32 31)).toInt32) &&& 1431655765)) &&& 858993459) + (((((x - ((((x).toUInt32 >>> ((1 : Int32).toUInt32 &&& Int32.toUInt32 31)).toInt32) &&& 1431655765))).toUInt32 >>> ((2 : Int32).toUInt32 &&& Int32.toUInt32 31)).toInt32) &&& 858993459))).toUInt32 >>> ((4 : Int32).toUInt32 &&& Int32.toUInt32 31)).toInt32)) &&& 252645135)).toUInt32 >>> ((8 : Int32).toUInt32 &&& Int32.toUInt32 31)).toInt32)) + (((((((((x - ((((x).toUInt32 >>> ((1 : Int32).toUInt32 &&& Int32.toUInt32 31)).toInt32) &&& 1431655765)) &&& 858993459) + (((((x - ((((x).toUInt32 >>> ((1 : Int32).toUInt32 &&& Int32.toUInt32 31)).toInt32) &&& 1431655765))).toUInt32 >>> ((2 : Int32).toUInt32 &&& Int32.toUInt32 31)).toInt32) &&& 858993459)) + ((((((x - ((((x).toUInt32 >>> ((1 : Int32).toUInt32 &&& Int32.toUInt32 31)).toInt32) &&& 1431655765)) &&& 858993459) + (((((x - ((((x).toUInt32 >>> ((1 : Int32).toUInt32 &&& Int32.toUInt32 31)).toInt32) &&& 1431655765))).toUInt32 >>> ((2 : Int32).toUInt32 &&& Int32.toUInt32 31)).toInt32) &&& 858993459))).toUInt32 >>> ((4 : Int32).toUInt32 &&& Int32.toUInt32 31)).toInt32)) &&& 252645135) + ((((((((x - ((((x).toUInt32 >>> ((1 : Int32).toUInt32 &&& Int32.toUInt32 31)).toInt32) &&& 1431655765)) &&& 858993459) + (((((x - ((((x).toUInt32 >>> ((1 : Int32).toUInt32 &&& Int32.toUInt32 31)).toInt32) &&& 1431655765))).toUInt32 >>> ((2 : Int32).toUInt32 &&& Int32.toUInt32 31)).toInt32) &&& 858993459)) + ((((((x - ((((x).toUInt32 >>> ((1 : Int32).toUInt32 &&& Int32.toUInt32 31)).toInt32) &&& 1431655765)) &&& 858993459) + (((((x - ((((x).toUInt32 >>> ((1 : Int32).toUInt32 &&& Int32.toUInt32 31)).toInt32) &&& 1431655765))).toUInt32 >>> ((2 : Int32).toUInt32 &&& Int32.toUInt32 31)).toInt32) &&& 858993459))).toUInt32 >>> ((4 : Int32).toUInt32 &&& Int32.toUInt32 31)).toInt32)) &&& 252645135)).toUInt32 >>> ((8 : Int32).toUInt32 &&& Int32.toUInt32 31)).toInt32))).toUInt32 >>> ((16 : Int32).toUInt32 &&& Int32.toUInt32 31)).toInt32)))]) dJ6_bitCount_0f7a4_47 (Nat.le_of_ble_eq_true rfl) rfl ?_
  refine aw_iload_n dJ6_bitCount_0f7a4_48 rfl ?_
  refine aw_bipush (v := 63) dJ6_bitCount_0f7a4_49 (by decide) ?_
  refine aw_iand dJ6_bitCount_0f7a4_51 ?_
  refine aw_ireti dJ6_bitCount_0f7a4_52 rfl (Nat.le_of_ble_eq_true rfl) (Nat.le_of_ble_eq_true rfl) ?_
  exact ⟨rfl, rfl⟩
