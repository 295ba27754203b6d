
def tyM (b cl : Nat) (e : va_E) : Prop := ∃ (ftoldPeople ftoldDoors fwasDoors ffault fopen flines fmeantSet fopenedNow fvainNow flowNow fhighNow fisKept : Int32) (tad pl0 le0 nu0 coy wag say : Nat), e = cO 11 [.ref (b + 101), .ref (b + 102), .ref (b + 103), .ref (b + 104), .ref (b + 105), .ref (b + 106), .ref (b + 107), .ref (b + 108), .ref (b + 109), .int ftoldPeople, .int ftoldDoors, .int fwasDoors, .ref (b + 110), .int (nI tad), .int (nI pl0), .int (nI le0), .int ffault, .int (nI nu0), .int fopen, .int (nI coy), .int (nI wag), .int (nI say), .int (nI cl), .ref (b + 111), .ref (b + 112), .ref (b + 113), .ref (b + 114), .ref (b + 115), .ref (b + 116), .ref (b + 117), .ref (b + 118), .ref (b + 119), .ref (b + 120), .ref (b + 121), .ref (b + 122), .ref (b + 123), .int flines, .int fmeantSet, .int fopenedNow, .int fvainNow, .ref (b + 124), .ref (b + 125), .ref (b + 126), .ref (b + 127), .ref (b + 128), .int flowNow, .int fhighNow, .ref (b + 129), .ref (b + 130), .ref (b + 131), .ref (b + 132), .int fisKept] ∧ tad ≤ 260 ∧ pl0 ≤ 240 ∧ le0 ≤ 240 ∧ nu0 ≤ 99999 ∧ coy ≤ 260 ∧ wag ≤ 260 ∧ say ≤ 16
def ctR (D : va_G) (b cl : Nat) : List (va_E → Prop) := [tyM b cl, isI D 210, isI D 210, isI D 210, isP D 12 (fun v => ∃ k : Nat, k < 4096 ∧ v = nI k), isP D 12 (fun v => ∃ k : Nat, k < 4096 ∧ v = nI k), isP D 16 (fun v => ∃ k : Nat, k < 16 ∧ v = nI k), isI D 16, isP D 16 (fun v => ∃ k : Nat, k < 16 ∧ v = nI k), isI D 16, isB D 260, isI D 260, isI D 260, isI D 16, isI D 16, isI D 16, isI D 16, isI D 260, isI D 16, isI D 16, isI D 16, isI D 16, isI D 260, isI D 10, isP D 12 (fun v => v = -1 ∨ ∃ k : Nat, k < 16 ∧ v = nI k), isI D 144, isZ D 4096, isI D 4096, isI D 16, isP D 6 (fun v => ∃ k : Nat, k < 6 ∧ v = nI k), isJ D 129, isJ D 129, isI D 49152]
def CR (D : va_G) (b cl : Nat) (V : Wd) : Prop := ∀ (i : Nat) (P : va_E → Prop), (ctR D b cl)[i]? = some P → P (V (100 + i))
def JR (D : va_G) (b N cl : Nat) (L : List E4) (V0 V : Wd) : Prop := CR D b cl V ∧ (∀ i, (i < 100 ∨ 133 ≤ i) → i < N → V i = V0 i) ∧ (∀ i, 117 ≤ i → i ≤ 121 → V i = V0 i) ∧ ∀ i k, 100 ≤ i → i < 133 → fwB L i k = false → pj (V i) k = pj (V0 i) k
theorem JR.rf {D : va_G} {b N cl : Nat} {L : List E4} {V : Wd} (h : CR D b cl V) : JR D b N cl L V V := ⟨h, fun _ _ _ => rfl, fun _ _ _ => rfl, fun _ _ _ _ _ => rfl⟩
theorem JR.trans {D : va_G} {b N cl : Nat} {L : List E4} {V0 V V' : Wd} (h : JR D b N cl L V0 V) (h' : JR D b N cl L V V') : JR D b N cl L V0 V' := ⟨h'.1, fun i h1 h2 => (h'.2.1 i h1 h2).trans (h.2.1 i h1 h2), fun i h1 h2 => (h'.2.2.1 i h1 h2).trans (h.2.2.1 i h1 h2), fun i k h1 h2 h3 => (h'.2.2.2 i k h1 h2 h3).trans (h.2.2.2 i k h1 h2 h3)⟩
theorem JR.weak {D : va_G} {b N cl : Nat} {L L' : List E4} {V0 V : Wd} (h : JR D b N cl L V0 V) (hs : Sub L L') : JR D b N cl L' V0 V := ⟨h.1, h.2.1, h.2.2.1, fun i k h1 h2 h3 => h.2.2.2 i k h1 h2 (by
  cases e : fwB L i k with
  | false => rfl
  | true => rw [hs i k e] at h3; cases h3)⟩
theorem JR.same {D : va_G} {b N cl i : Nat} {L : List E4} {V0 V : Wd} (h : JR D b N cl L V0 V) (h1 : 100 ≤ i) (h2 : i < 133) (hn : ∀ k, fwB L i k = false) : V i = V0 i := pj_ext fun k => h.2.2.2 i k h1 h2 (hn k)
theorem JR.fI {D : va_G} {b N cl i k : Nat} {L : List E4} {V0 V : Wd} (h : JR D b N cl L V0 V) (h1 : 100 ≤ i) (h2 : i < 133) (hn : fwB L i k = false) : fI (V i) k = fI (V0 i) k := fI_pj (h.2.2.2 i k h1 h2 hn)
theorem ctR_len (D : va_G) (b cl : Nat) : (ctR D b cl).length = 33 := rfl
theorem JR.get {D : va_G} {b N cl K i : Nat} {L : List E4} {V0 V : Wd} {P : va_E → Prop} (h : JR D b N cl L V0 V) (hk : (ctR D b cl)[i]? = some P ∧ K = 100 + i) : P (V K) := by rw [hk.2]; exact h.1 i P hk.1
theorem cm_lt {D : va_G} {b cl K i : Nat} {P : va_E → Prop} (h : (ctR D b cl)[i]? = some P ∧ K = 100 + i) : 100 ≤ K ∧ K < 133 := by
  have := (List.getElem?_eq_some_iff.mp h.1).1
  rw [ctR_len] at this; omega
theorem aw_upR {l : Launch} {D : va_G} {b cl : Nat} {J : Md} {R : Room} {X : Sc} {FQ : Array Value → List Frame → State → State → Prop} {pc : Nat} {ls : List (Option Value)} {st : List Value} {N : Nat} {L : List E4} {V0 V : Wd} {k n K i : Nat} {P : va_E → Prop} {e : va_E} (hJ : JR D b N cl L V0 V) (hk : (ctR D b cl)[i]? = some P ∧ K = 100 + i) (hp : P e) (hT : ¬ (117 ≤ K ∧ K ≤ 121)) (hw : ∀ k, fwB L K k = false → pj e k = pj (V K) k) (h : ∀ V', JR D b N cl L V0 V' → (∀ i, i ≠ K → V' i = V i) → V' K = e → AW l D b J R X FQ pc ls st N V' k n) : AW l D b J R X FQ pc ls st N (va_up V K e) k n := by
  have hK := cm_lt hk
  refine h _ ⟨fun i2 P' hi => ?_, fun i h1 h2 => (va_up_ne _ _ (by omega)).trans (hJ.2.1 i h1 h2), fun i h1 h2 => (va_up_ne _ _ (by omega)).trans (hJ.2.2.1 i h1 h2), fun i k h1 h2 h3 => ?_⟩ (fun i hi => va_up_ne _ _ hi) (va_up_self _ _ _)
  rotate_left
  · by_cases e1 : i = K
    · subst e1; rw [va_up_self]; exact (hw k h3).trans (hJ.2.2.2 i k h1 h2 h3)
    · rw [va_up_ne _ _ e1]; exact hJ.2.2.2 i k h1 h2 h3
  by_cases e1 : 100 + i2 = K
  · rw [e1, va_up_self]
    obtain rfl : i2 = i := by omega
    cases hi.symm.trans hk.1
    exact hp
  · rw [va_up_ne _ _ e1]
    exact hJ.1 i2 P' hi
/-- the field k of the reference is the number n -/
def FG (b k n : Nat) (V : Wd) : Prop := ∃ fs, V 100 = cO 11 fs ∧ fs[k]? = some (.int (nI n))
theorem FG.eq {b k n m : Nat} {V : Wd} {fs : List Value} (h : FG b k n V) (e : V 100 = cO 11 fs) (hk : fs[k]? = some (.int (nI m))) (hn : n < 2 ^ 31) (hm : m < 2 ^ 31) : m = n := by
  obtain ⟨fs', e', h'⟩ := h
  have e2 : fs' = fs := by
    have := e'.symm.trans e
    simp only [cO, Sum.inr.injEq, Prod.mk.injEq, true_and] at this
    exact this
  rw [e2, hk] at h'
  simp only [Option.some.injEq, Value.int.injEq] at h'
  exact (nI_eq hm hn).mp h'
theorem FG.of {b k n m : Nat} {V : Wd} {fs : List Value} (e : V 100 = cO 11 fs) (hk : fs[k]? = some (.int (nI m))) (h : m = n) : FG b k n V := ⟨fs, e, h ▸ hk⟩
theorem fx_shl13 : ∀ k, k < 13 → (1 : Int32) <<< (nI k &&& 31) = nI (2 ^ k) := by decide +kernel
theorem fx_pow13 {k : Nat} (h : k < 13) : 1 ≤ 2 ^ k ∧ 2 ^ k ≤ 4096 := (show ∀ k, k < 13 → 1 ≤ 2 ^ k ∧ 2 ^ k ≤ 4096 by decide) k h
theorem tl_dec {a a' : Nat} {v v' : Int32} (c : ¬ v = 0) (h : a ≤ a') (h2 : v' = 0 ∨ a < a') (h3 : a' ≤ 240) : 2 * (240 - a') + (if v' = 0 then 0 else 1) < 2 * (240 - a) + (if v = 0 then 0 else 1) := by
  rw [if_neg c]
  rcases h2 with h2 | h2
  · rw [if_pos h2]; omega
  · split <;> omega
/-- the first k of the tries on the tape were people's -/
def TP (g : Nat → Int32) (k : Nat) : Prop := ∀ i, i < k → ∃ j : Nat, j < 12 ∧ g (2 * i) &&& 255 = nI j
theorem TP.step {g : Nat → Int32} {k z : Nat} (h : TP g k) (hz : z < 12) (e : nI z = g (2 * k) &&& 255) : TP g (k + 1) := fun i hi => by
  rcases Nat.lt_or_ge i k with q | q
  · exact h i q
  · obtain rfl : i = k := by omega
    exact ⟨z, hz, e.symm⟩
theorem sub_eq {x : Int32} {z k : Nat} (h : x - nI k = nI z) : x = nI (z + k) := by
  rw [← nI_add, ← h]
  exact (Int32.sub_add_cancel x (nI k)).symm
/-- the code k of a piece that ends at t, by the depth of the stack ahead of each code -/
def CodeOK (cd : Nat → Int32) (dep : Nat → Nat) (t k : Nat) : Prop := ∃ op v : Nat, cd k = nI (1048576 * op + v) ∧ v < 1048576 ∧ op ≤ 12 ∧ (op ≠ 0 ∨ dep (k + 1) = dep k + 1) ∧ (op ≠ 1 ∨ (dep (k + 1) = dep k + 1 ∧ v < 10)) ∧ (op < 2 ∨ 9 < op ∨ (2 ≤ dep k ∧ dep (k + 1) + 1 = dep k)) ∧ (op ≠ 10 ∨ (1 ≤ dep k ∧ dep (k + 1) = dep k)) ∧ (op < 11 ∨ (1 ≤ dep k ∧ dep (k + 1) + 1 = dep k ∧ k < v ∧ v ≤ t ∧ dep v = dep k))
def SegOK (cd : Nat → Int32) (f t : Nat) : Prop := ∃ dep : Nat → Nat, dep f = 0 ∧ (∀ k, f ≤ k → k < t → CodeOK cd dep t k) ∧ ∀ k, f ≤ k → k ≤ t → dep k ≤ k
/-- the law in force: its clauses' codes are sound -/
def WF (D : va_G) (cl : Nat) (V : Wd) : Prop := ∃ cd fr hf to : Nat → Int32, V 117 = cI D 260 cd ∧ V 119 = cI D 16 fr ∧ V 120 = cI D 16 hf ∧ V 121 = cI D 16 to ∧ cl ≤ 16 ∧ ∀ q, q < cl → ∃ f h t : Nat, fr q = nI f ∧ hf q = nI h ∧ to q = nI t ∧ f ≤ h ∧ h ≤ t ∧ t ≤ 240 ∧ SegOK cd f h ∧ SegOK cd h t
theorem WF.fr {D : va_G} {cl : Nat} {V V' : Wd} (h : WF D cl V) (f : ∀ i, 117 ≤ i → i ≤ 121 → V' i = V i) : WF D cl V' := by
  obtain ⟨cd, fr, hf, to, h1, h2, h3, h4, h5⟩ := h
  exact ⟨cd, fr, hf, to, (f _ (by decide) (by decide)).trans h1, (f _ (by decide) (by decide)).trans h2, (f _ (by decide) (by decide)).trans h3, (f _ (by decide) (by decide)).trans h4, h5⟩
theorem un_div {op v : Nat} (hv : v < 1048576) (ho : op ≤ 15) : nI (1048576 * op + v) / 1048576 = nI op := by
  have := pk_div (a := 1048576 * op + v) (d := 1048576) (by omega) (by decide) (by decide)
  rw [show (1048576 * op + v) / 1048576 = op by omega] at this
  exact this
theorem un_rem {op v : Nat} (hv : v < 1048576) (ho : op ≤ 15) : nI (1048576 * op + v) - nI (1048576 * op + v) / 1048576 * 1048576 = nI v := by
  have := pk_rem (a := 1048576 * op + v) (d := 1048576) (by omega) (by decide) (by decide)
  rw [show (1048576 * op + v) % 1048576 = v by omega] at this
  exact this
theorem r_base {f : Nat} (hf : f < 260) : nI f / 260 = 0 := by
  have := pk_div (a := f) (d := 260) (by omega) (by decide) (by decide)
  rw [show f / 260 = 0 by omega] at this
  exact this
theorem low_step {x k : Nat} (h : ∀ j, j < k → x.testBit j = false) (hk : x.testBit k = false) : ∀ j, j < k + 1 → x.testBit j = false := fun j hj => by
  rcases Nat.lt_or_ge j k with q | q
  · exact h j q
  · obtain rfl : j = k := by omega
    exact hk
theorem in_b {v lo hi : Int32} {n m : Nat} (h1 : ¬ v < lo) (h2 : ¬ hi < v) (e1 : lo = 0) (e2 : hi = nI m) (hm : m + 1 = n) (hn : n < 2 ^ 31) : ∃ j : Nat, j < n ∧ v = nI j := by
  subst e1; subst e2
  rcases pk_ix v (n := n) hn with q | q | q
  · exact absurd q h1
  · exact absurd (Int32.lt_of_lt_of_le (nI_lt (by omega) hn) q) h2
  · exact q
theorem in_nat {v : Int32} {a b : Nat} (hb : a < 2 ^ 31 ∧ b + 1 < 2 ^ 31) (h : nI a ≤ v ∧ v ≤ nI b) : ∃ j : Nat, a ≤ j ∧ j ≤ b ∧ v = nI j := by
  rcases pk_ix v (n := b + 1) hb.2 with q | q | ⟨j, hj, rfl⟩
  · exact absurd q (Int32.not_lt.mpr (Int32.le_trans (nI_pos' hb.1) h.1))
  · exact absurd (Int32.le_trans q h.2) (nI_ge (by omega) (by omega))
  · exact ⟨j, (nI_leI hb.1 (by omega)).mp h.1, by omega, rfl⟩
theorem in_rg {v : Int32} {a b K : Nat} (hb : a < 2 ^ 31 ∧ b + 1 < 2 ^ 31) (h : nI a ≤ v ∧ v ≤ nI b) (hk : b < K) : ∃ j : Nat, j < K ∧ v = nI j := by
  obtain ⟨j, -, h2, e⟩ := in_nat hb h
  exact ⟨j, by omega, e⟩
theorem rg_le {v : Int32} {K K2 : Nat} (hk : K2 ≤ K) (h : ∃ j : Nat, j < K2 ∧ v = nI j) : ∃ j : Nat, j < K ∧ v = nI j := by
  obtain ⟨j, h2, e⟩ := h
  exact ⟨j, by omega, e⟩
theorem vi_ex {v : Int32} {K : Nat} (h : ∃ j : Nat, j < K ∧ v = nI j) (hk : K < 2 ^ 31) : vp_in v K := by
  obtain ⟨j, h2, e⟩ := h
  exact vi_of e h2 hk
theorem fx_fix {s s' : Nat} {v : Int32} (h1 : s ≤ s') (h2 : s' < 4096) (c : ¬ nI s = v) : 2 * (4096 - s') + (if nI s = nI s' then 0 else 1) < 2 * (4096 - s) + (if v = nI s then 0 else 1) := by
  rw [if_neg (c := v = nI s) (fun e => c e.symm)]
  by_cases e : s = s'
  · subst e; rw [if_pos rfl]; omega
  · split <;> omega
theorem or_lt {x y : Nat} (h1 : x < 4096) (h2 : y < 4096) : x ||| y < 4096 := Nat.or_lt_two_pow (n := 12) h1 h2
theorem fx_bitN {x j : Nat} (hx : x < 2 ^ 31) (hj : j < 12) : (((nI x >>> (nI j &&& 31)) &&& 1) = 1) ↔ x.testBit j = true := by
  have hs : ∀ j, j < 12 → (((nI j &&& 31) : Int32).toBitVec.smod 32).toNat = j := by decide +kernel
  rw [pk_shrN hx _ j (hs j hj), show (1 : Int32) = nI 1 from rfl, fx_andI, Nat.and_one_is_mod, Nat.testBit_eq_decide_div_mod_eq]
  have := Nat.mod_lt (x / 2 ^ j) (show 2 > 0 by decide)
  rw [nI_eq (by omega) (by decide)]
  simp
theorem low_end {x : Nat} (hx : x < 4096) (h : ∀ j, j < 12 → x.testBit j = false) : x = 0 := by
  apply Nat.eq_of_testBit_eq
  intro i
  rw [Nat.zero_testBit]
  by_cases e : i < 12
  · exact h i e
  · exact Nat.testBit_lt_two_pow (Nat.lt_of_lt_of_le hx (Nat.le_trans (show 4096 ≤ 2 ^ 12 by decide) (Nat.pow_le_pow_right (by decide) (show 12 ≤ i by omega))))
abbrev hereF (g : Nat → Int32) (pl ln : Nat) : Int32 := if pl < ln then g pl &&& 255 else -1
theorem here_lt {g : Nat → Int32} {pl ln : Nat} {r k : Int32} (h : r = hereF g pl ln) (e : r = k) (hk : ¬ k = -1) : pl < ln := by
  by_cases q : pl < ln
  · exact q
  · exact absurd (e.symm.trans (h.trans (if_neg q))) hk
theorem here_ltn {g : Nat → Int32} {pl ln : Nat} {r k : Int32} (h : r = hereF g pl ln) (e : r = k) (hk : 0 ≤ k) : pl < ln := here_lt h e (fun z => absurd hk (by rw [z]; decide))
theorem here_ltd {g : Nat → Int32} {pl ln n : Nat} (e : hereF g pl ln = nI n) (hn : n < 2 ^ 31) : pl < ln := here_lt (k := nI n) e.symm rfl (fun z => by have := nI_pos (n := n) hn; rw [z] at this; exact this (by decide)) |> fun h => h
theorem dig_of {H r1 r2 : Int32} (h1 : r1 = H) (h2 : r2 = H) (c1 : ¬ r1 < 48) (c2 : ¬ 57 < r2) : ∃ q : Nat, q < 10 ∧ H = nI (48 + q) := by
  subst h1; subst h2
  obtain ⟨j, ha, hb, e⟩ := in_nat (a := 48) (b := 57) (by decide) ⟨Int32.not_lt.mp c1, Int32.not_lt.mp c2⟩
  exact ⟨j - 48, by omega, by rw [e]; congr 1; omega⟩
theorem let_of {H r1 : Int32} (h1 : r1 = H) (c : (0 : Int32) ≤ r1 - 97 ∧ r1 - 97 ≤ 15) : ∃ q : Nat, q < 16 ∧ H = nI (97 + q) := by
  subst h1
  obtain ⟨j, ha, hb, e⟩ := in_nat (a := 0) (b := 15) (by decide) c
  refine ⟨j, by omega, ?_⟩
  have e2 : r1 = (r1 - 97) + 97 := (Int32.sub_add_cancel r1 97).symm
  rw [e2, e, show (97 : Int32) = nI 97 from rfl, nI_add, Nat.add_comm]
theorem here_lt0 {g : Nat → Int32} {pl ln : Nat} {r : Int32} (h : r = hereF g pl ln) (h0 : 0 ≤ r) : pl < ln := here_lt (k := r) h rfl (fun z => absurd h0 (by rw [z]; decide))
theorem dig_no {H : Int32} {q : Nat} (h : H < 48 ∨ 57 < H) (hq : q < 10) (e : H = nI (48 + q)) : False := by
  subst e
  rcases h with h | h
  · exact absurd h (Int32.not_lt.mpr (nI_le (a := 48) (b := 48 + q) (by omega) (by omega)))
  · exact absurd h (Int32.not_lt.mpr (nI_le (a := 48 + q) (b := 57) (by omega) (by omega)))
theorem rg_pos {g : Nat → Int32} {P : Int32 → Prop} {n : Nat} {x : Int32} (h : ∀ j, j < n → P (g j)) (hx : vp_in x n) : P (g x.toNatClampNeg) := h _ (Nat.not_le.mp fun q => hx (Or.inr q))
theorem cm_100 {D : va_G} {b cl : Nat} : (ctR D b cl)[0]? = some (tyM b cl) ∧ 100 = 100 + 0 := ⟨rfl, rfl⟩
theorem cm_101 {D : va_G} {b cl : Nat} : (ctR D b cl)[1]? = some (isI D 210) ∧ 101 = 100 + 1 := ⟨rfl, rfl⟩
theorem cm_102 {D : va_G} {b cl : Nat} : (ctR D b cl)[2]? = some (isI D 210) ∧ 102 = 100 + 2 := ⟨rfl, rfl⟩
theorem cm_103 {D : va_G} {b cl : Nat} : (ctR D b cl)[3]? = some (isI D 210) ∧ 103 = 100 + 3 := ⟨rfl, rfl⟩
theorem cm_104 {D : va_G} {b cl : Nat} : (ctR D b cl)[4]? = some (isP D 12 (fun v => ∃ k : Nat, k < 4096 ∧ v = nI k)) ∧ 104 = 100 + 4 := ⟨rfl, rfl⟩
theorem cm_105 {D : va_G} {b cl : Nat} : (ctR D b cl)[5]? = some (isP D 12 (fun v => ∃ k : Nat, k < 4096 ∧ v = nI k)) ∧ 105 = 100 + 5 := ⟨rfl, rfl⟩
theorem cm_106 {D : va_G} {b cl : Nat} : (ctR D b cl)[6]? = some (isP D 16 (fun v => ∃ k : Nat, k < 16 ∧ v = nI k)) ∧ 106 = 100 + 6 := ⟨rfl, rfl⟩
theorem cm_107 {D : va_G} {b cl : Nat} : (ctR D b cl)[7]? = some (isI D 16) ∧ 107 = 100 + 7 := ⟨rfl, rfl⟩
theorem cm_108 {D : va_G} {b cl : Nat} : (ctR D b cl)[8]? = some (isP D 16 (fun v => ∃ k : Nat, k < 16 ∧ v = nI k)) ∧ 108 = 100 + 8 := ⟨rfl, rfl⟩
theorem cm_109 {D : va_G} {b cl : Nat} : (ctR D b cl)[9]? = some (isI D 16) ∧ 109 = 100 + 9 := ⟨rfl, rfl⟩
theorem cm_110 {D : va_G} {b cl : Nat} : (ctR D b cl)[10]? = some (isB D 260) ∧ 110 = 100 + 10 := ⟨rfl, rfl⟩
theorem cm_111 {D : va_G} {b cl : Nat} : (ctR D b cl)[11]? = some (isI D 260) ∧ 111 = 100 + 11 := ⟨rfl, rfl⟩
theorem cm_112 {D : va_G} {b cl : Nat} : (ctR D b cl)[12]? = some (isI D 260) ∧ 112 = 100 + 12 := ⟨rfl, rfl⟩
theorem cm_113 {D : va_G} {b cl : Nat} : (ctR D b cl)[13]? = some (isI D 16) ∧ 113 = 100 + 13 := ⟨rfl, rfl⟩
theorem cm_114 {D : va_G} {b cl : Nat} : (ctR D b cl)[14]? = some (isI D 16) ∧ 114 = 100 + 14 := ⟨rfl, rfl⟩
theorem cm_115 {D : va_G} {b cl : Nat} : (ctR D b cl)[15]? = some (isI D 16) ∧ 115 = 100 + 15 := ⟨rfl, rfl⟩
theorem cm_116 {D : va_G} {b cl : Nat} : (ctR D b cl)[16]? = some (isI D 16) ∧ 116 = 100 + 16 := ⟨rfl, rfl⟩
theorem cm_117 {D : va_G} {b cl : Nat} : (ctR D b cl)[17]? = some (isI D 260) ∧ 117 = 100 + 17 := ⟨rfl, rfl⟩
theorem cm_118 {D : va_G} {b cl : Nat} : (ctR D b cl)[18]? = some (isI D 16) ∧ 118 = 100 + 18 := ⟨rfl, rfl⟩
theorem cm_119 {D : va_G} {b cl : Nat} : (ctR D b cl)[19]? = some (isI D 16) ∧ 119 = 100 + 19 := ⟨rfl, rfl⟩
theorem cm_120 {D : va_G} {b cl : Nat} : (ctR D b cl)[20]? = some (isI D 16) ∧ 120 = 100 + 20 := ⟨rfl, rfl⟩
theorem cm_121 {D : va_G} {b cl : Nat} : (ctR D b cl)[21]? = some (isI D 16) ∧ 121 = 100 + 21 := ⟨rfl, rfl⟩
theorem cm_122 {D : va_G} {b cl : Nat} : (ctR D b cl)[22]? = some (isI D 260) ∧ 122 = 100 + 22 := ⟨rfl, rfl⟩
theorem cm_123 {D : va_G} {b cl : Nat} : (ctR D b cl)[23]? = some (isI D 10) ∧ 123 = 100 + 23 := ⟨rfl, rfl⟩
theorem cm_124 {D : va_G} {b cl : Nat} : (ctR D b cl)[24]? = some (isP D 12 (fun v => v = -1 ∨ ∃ k : Nat, k < 16 ∧ v = nI k)) ∧ 124 = 100 + 24 := ⟨rfl, rfl⟩
theorem cm_125 {D : va_G} {b cl : Nat} : (ctR D b cl)[25]? = some (isI D 144) ∧ 125 = 100 + 25 := ⟨rfl, rfl⟩
theorem cm_126 {D : va_G} {b cl : Nat} : (ctR D b cl)[26]? = some (isZ D 4096) ∧ 126 = 100 + 26 := ⟨rfl, rfl⟩
theorem cm_127 {D : va_G} {b cl : Nat} : (ctR D b cl)[27]? = some (isI D 4096) ∧ 127 = 100 + 27 := ⟨rfl, rfl⟩
theorem cm_128 {D : va_G} {b cl : Nat} : (ctR D b cl)[28]? = some (isI D 16) ∧ 128 = 100 + 28 := ⟨rfl, rfl⟩
theorem cm_129 {D : va_G} {b cl : Nat} : (ctR D b cl)[29]? = some (isP D 6 (fun v => ∃ k : Nat, k < 6 ∧ v = nI k)) ∧ 129 = 100 + 29 := ⟨rfl, rfl⟩
theorem cm_130 {D : va_G} {b cl : Nat} : (ctR D b cl)[30]? = some (isJ D 129) ∧ 130 = 100 + 30 := ⟨rfl, rfl⟩
theorem cm_131 {D : va_G} {b cl : Nat} : (ctR D b cl)[31]? = some (isJ D 129) ∧ 131 = 100 + 31 := ⟨rfl, rfl⟩
theorem cm_132 {D : va_G} {b cl : Nat} : (ctR D b cl)[32]? = some (isI D 49152) ∧ 132 = 100 + 32 := ⟨rfl, rfl⟩
