def hd (g : Nat → Int32) (n a : Nat) : Int32 := if a < n then g a else -1
def flt (c : Int32) (a : Nat) : Int32 := -1000 * c - nI a
def isDg (x : Int32) : Bool := decide (48 ≤ x) && decide (x ≤ 57)
def isLt (x : Int32) : Bool := decide (97 ≤ x) && decide (x < 113)
def bt (s k : Int32) : Bool := !decide ((s >>> (k &&& 31)) &&& 1 = 0)
def numL (g : Nat → Int32) (n k a0 : Nat) : Nat → Nat → Nat → Int32 ⊕ (Nat × Nat)
  | 0, a, v => .inr (a, v)
  | m + 1, a, v => if isDg (hd g n a) = true then (if k ≤ a - a0 then .inl (flt 2 a) else numL g n k a0 m (a + 1) (10 * v + ((hd g n a).toNatClampNeg - 48))) else .inr (a, v)
def num (g : Nat → Int32) (n k a : Nat) : Int32 ⊕ (Nat × Nat) := if isDg (hd g n a) = true then numL g n k a (n - a) a 0 else .inl (flt 1 a)
def mtF (g : Nat → Int32) (n : Nat) : Nat → Int32 → Nat → Int32 ⊕ (Nat × Int32)
  | 0, s, a => .inr (a, s)
  | m + 1, s, a => if isLt (hd g n a) = true then (if bt s (hd g n a - 97) = true then .inl (flt 6 a) else mtF g n m (s ||| (1 : Int32) <<< ((hd g n a - 97) &&& 31)) (a + 1)) else .inr (a, s)
def meantS (g : Nat → Int32) (n a : Nat) : Int32 ⊕ (Nat × Int32) := if hd g n a = 42 then .inr (a + 1, 65535) else mtF g n (n - a) 0 a
def sgD (x : Int32) : Bool := decide (x = 61) || decide (x = 43) || decide (x = 45)
def stD (x : Int32) : Bool := decide (x = 42) || isLt x
def lnD (g : Nat → Int32) (n a : Nat) : Int32 ⊕ (Nat × Unit) := match meantS g n a with
  | .inl f => .inl f
  | .inr (a1, _) => if sgD (hd g n a1) = true then (match num g n 2 (a1 + 1) with
    | .inl f => .inl f
    | .inr (a2, _) => .inr (a2, ())) else .inl (flt 1 a1)
def tx {σ : Type} (g : Nat → Int32) (n M : Nat) (st : Int32 → Bool) (ln : Nat → σ → Int32 ⊕ (Nat × σ)) : Nat → Nat → σ → Int32 ⊕ (Nat × σ)
  | 0, a, _ => .inl (if st (hd g n a) = true then flt 4 a else flt 1 a)
  | k + 1, a, s => if st (hd g n a) = true then (match ln a s with
    | .inl f => .inl f
    | .inr (a1, s1) => if n ≤ a1 then .inr (M - k, s1) else if hd g n a1 = 59 then tx g n M st ln k (a1 + 1) s1 else .inl (flt 1 a1)) else .inl (flt 1 a)
def af {σ : Type} (g : Nat → Int32) (n M : Nat) (st : Int32 → Bool) (ln : Nat → σ → Int32 ⊕ (Nat × σ)) (k a : Nat) (s : σ) : Int32 ⊕ (Nat × σ) := if n ≤ a then .inr (M - k, s) else if hd g n a = 59 then tx g n M st ln k (a + 1) s else .inl (flt 1 a)
def cod {σ : Type} : Int32 ⊕ (Nat × σ) → Int32
  | .inl f => f
  | .inr (k, _) => nI k
theorem hd_lt {g : Nat → Int32} {n a : Nat} (h : hd g n a ≠ -1) : a < n := Decidable.byContradiction fun q => h (if_neg q)
theorem hd_ge {g : Nat → Int32} {n a : Nat} (h : n ≤ a) : hd g n a = -1 := if_neg (by omega)
theorem hd_in {g : Nat → Int32} {n a : Nat} (h : a < n) : hd g n a = g a := if_pos h
theorem hd_lit {g : Nat → Int32} {n a : Nat} {v : Int32} (h : hd g n a = v) (hv : v ≠ -1) : a < n := hd_lt (by rw [h]; exact hv)
theorem isDg_nat {x : Int32} (h : isDg x = true) : ∃ z : Nat, z < 10 ∧ x = nI (48 + z) := by
  simp only [isDg, Bool.and_eq_true, decide_eq_true_eq] at h
  have e1 : (48 : Int32).toInt = 48 := by decide
  have e2 : (57 : Int32).toInt = 57 := by decide
  have h1 := Int32.le_iff_toInt_le.mp h.1
  have h2 := Int32.le_iff_toInt_le.mp h.2
  refine ⟨(x.toInt - 48).toNat, by omega, ?_⟩
  apply Int32.toInt_inj.mp
  rw [fx_nIt (by omega)]
  omega
theorem isLt_nat {x : Int32} (h : isLt x = true) : ∃ z : Nat, z < 16 ∧ x = nI (97 + z) := by
  simp only [isLt, Bool.and_eq_true, decide_eq_true_eq] at h
  have e1 : (97 : Int32).toInt = 97 := by decide
  have e2 : (113 : Int32).toInt = 113 := by decide
  have h1 := Int32.le_iff_toInt_le.mp h.1
  have h2 := Int32.lt_iff_toInt_lt.mp h.2
  refine ⟨(x.toInt - 97).toNat, by omega, ?_⟩
  apply Int32.toInt_inj.mp
  rw [fx_nIt (by omega)]
  omega
theorem isDg_hd {g : Nat → Int32} {n a : Nat} (h : isDg (hd g n a) = true) : a < n := hd_lt fun e => by rw [e] at h; exact absurd h (by decide)
theorem isLt_hd {g : Nat → Int32} {n a : Nat} (h : isLt (hd g n a) = true) : a < n := hd_lt fun e => by rw [e] at h; exact absurd h (by decide)
theorem numL_step {g : Nat → Int32} {n k a0 a v z : Nat} (h : isDg (hd g n a) = true) (hk : ¬ k ≤ a - a0) (hz : z < 10) (e : hd g n a = nI (48 + z)) : numL g n k a0 (n - a) a v = numL g n k a0 (n - (a + 1)) (a + 1) (10 * v + z) := by
  have h1 := isDg_hd h
  obtain ⟨m, hm⟩ : ∃ m, n - a = m + 1 := ⟨n - a - 1, by omega⟩
  rw [hm, show n - (a + 1) = m by omega, numL, if_pos h, if_neg hk, e, nI_clamp (by omega), show 48 + z - 48 = z by omega]
theorem numL_over {g : Nat → Int32} {n k a0 a v : Nat} (h : isDg (hd g n a) = true) (hk : k ≤ a - a0) : numL g n k a0 (n - a) a v = .inl (flt 2 a) := by
  have h1 := isDg_hd h
  obtain ⟨m, hm⟩ : ∃ m, n - a = m + 1 := ⟨n - a - 1, by omega⟩
  rw [hm, numL, if_pos h, if_pos hk]
theorem numL_stop {g : Nat → Int32} {n k a0 a v m : Nat} (h : isDg (hd g n a) = false) : numL g n k a0 m a v = .inr (a, v) := by
  cases m with
  | zero => rfl
  | succ m => rw [numL, if_neg (by rw [h]; decide)]
theorem num_in {g : Nat → Int32} {n k a : Nat} (h : isDg (hd g n a) = true) : num g n k a = numL g n k a (n - a) a 0 := if_pos h
theorem num_no {g : Nat → Int32} {n k a : Nat} (h : isDg (hd g n a) = false) : num g n k a = .inl (flt 1 a) := if_neg (by rw [h]; decide)
theorem mtF_step {g : Nat → Int32} {n a : Nat} {s : Int32} (h : isLt (hd g n a) = true) (hb : bt s (hd g n a - 97) = false) : mtF g n (n - a) s a = mtF g n (n - (a + 1)) (s ||| (1 : Int32) <<< ((hd g n a - 97) &&& 31)) (a + 1) := by
  have h1 := isLt_hd h
  obtain ⟨m, hm⟩ : ∃ m, n - a = m + 1 := ⟨n - a - 1, by omega⟩
  rw [hm, show n - (a + 1) = m by omega, mtF, if_pos h, if_neg (by rw [hb]; decide)]
theorem mtF_twice {g : Nat → Int32} {n a : Nat} {s : Int32} (h : isLt (hd g n a) = true) (hb : bt s (hd g n a - 97) = true) : mtF g n (n - a) s a = .inl (flt 6 a) := by
  have h1 := isLt_hd h
  obtain ⟨m, hm⟩ : ∃ m, n - a = m + 1 := ⟨n - a - 1, by omega⟩
  rw [hm, mtF, if_pos h, if_pos hb]
theorem mtF_stop {g : Nat → Int32} {n a m : Nat} {s : Int32} (h : isLt (hd g n a) = false) : mtF g n m s a = .inr (a, s) := by
  cases m with
  | zero => rfl
  | succ m => rw [mtF, if_neg (by rw [h]; decide)]
theorem lt_rng {x : Int32} (h : isLt x = true) : 0 ≤ x - 97 ∧ x - 97 < 32 := by
  obtain ⟨z, hz, rfl⟩ := isLt_nat h
  rw [show (97 : Int32) = nI 97 from rfl, pk_sub (by omega), show 97 + z - 97 = z by omega]
  exact ⟨nI_pos' (by omega), (nI_ltI (b := 32) (by omega) (by omega)).mpr (by omega)⟩
theorem fx_one_ne : ∀ k : Nat, k < 32 → (1 : Int32) <<< (nI k &&& 31) ≠ 0 := by decide +kernel
theorem fx_or_ne {s t : Int32} (h : t ≠ 0) : s ||| t ≠ 0 := fun e => h (by
  have h2 : (s ||| t).toBitVec = 0 := by rw [e]; rfl
  rw [Int32.toBitVec_or] at h2
  apply Int32.toBitVec_inj.mp
  have := (BitVec.or_eq_zero_iff.mp h2).2
  exact this)
theorem mt_ne {x s : Int32} (h : isLt x = true) : s ||| (1 : Int32) <<< ((x - 97) &&& 31) ≠ 0 := by
  obtain ⟨z, hz, rfl⟩ := isLt_nat h
  rw [show (97 : Int32) = nI 97 from rfl, pk_sub (by omega), show 97 + z - 97 = z by omega]
  exact fx_or_ne (fx_one_ne z (by omega))
theorem meant_star {g : Nat → Int32} {n a : Nat} (h : hd g n a = 42) : meantS g n a = .inr (a + 1, 65535) := if_pos h
theorem meant_lt {g : Nat → Int32} {n a : Nat} (h : ¬ hd g n a = 42) : meantS g n a = mtF g n (n - a) 0 a := if_neg h
theorem lnD_m {g : Nat → Int32} {n a : Nat} {f : Int32} (h : meantS g n a = .inl f) : lnD g n a = .inl f := by rw [lnD, h]
theorem lnD_s {g : Nat → Int32} {n a a1 : Nat} {s : Int32} (h : meantS g n a = .inr (a1, s)) (hs : sgD (hd g n a1) = false) : lnD g n a = .inl (flt 1 a1) := by
  rw [lnD, h]; exact if_neg (by rw [hs]; decide)
theorem lnD_n {g : Nat → Int32} {n a a1 : Nat} {s f : Int32} (h : meantS g n a = .inr (a1, s)) (hs : sgD (hd g n a1) = true) (hn : num g n 2 (a1 + 1) = .inl f) : lnD g n a = .inl f := by
  rw [lnD, h]
  show (if sgD (hd g n a1) = true then _ else _) = _
  rw [if_pos hs, hn]
theorem lnD_ok {g : Nat → Int32} {n a a1 a2 v : Nat} {s : Int32} (h : meantS g n a = .inr (a1, s)) (hs : sgD (hd g n a1) = true) (hn : num g n 2 (a1 + 1) = .inr (a2, v)) : lnD g n a = .inr (a2, ()) := by
  rw [lnD, h]
  show (if sgD (hd g n a1) = true then _ else _) = _
  rw [if_pos hs, hn]
theorem tx_st {σ : Type} {g : Nat → Int32} {n M k a : Nat} {st : Int32 → Bool} {ln : Nat → σ → Int32 ⊕ (Nat × σ)} {s : σ} (h : st (hd g n a) = false) : tx g n M st ln k a s = .inl (flt 1 a) := by
  have h2 : ¬ st (hd g n a) = true := by rw [h]; decide
  cases k with
  | zero => rw [tx, if_neg h2]
  | succ k => rw [tx, if_neg h2]
theorem tx_many {σ : Type} {g : Nat → Int32} {n M a : Nat} {st : Int32 → Bool} {ln : Nat → σ → Int32 ⊕ (Nat × σ)} {s : σ} (h : st (hd g n a) = true) : tx g n M st ln 0 a s = .inl (flt 4 a) := by rw [tx, if_pos h]
theorem tx_bad {σ : Type} {g : Nat → Int32} {n M k a : Nat} {st : Int32 → Bool} {ln : Nat → σ → Int32 ⊕ (Nat × σ)} {s : σ} {f : Int32} (h : st (hd g n a) = true) (hl : ln a s = .inl f) (hk : 0 < k) : tx g n M st ln k a s = .inl f := by
  obtain ⟨k, rfl⟩ : ∃ m, k = m + 1 := ⟨k - 1, by omega⟩
  rw [tx, if_pos h, hl]
theorem tx_go {σ : Type} {g : Nat → Int32} {n M k a a1 : Nat} {st : Int32 → Bool} {ln : Nat → σ → Int32 ⊕ (Nat × σ)} {s s1 : σ} (h : st (hd g n a) = true) (hl : ln a s = .inr (a1, s1)) (hk : 0 < k) : tx g n M st ln k a s = af g n M st ln (k - 1) a1 s1 := by
  obtain ⟨k, rfl⟩ : ∃ m, k = m + 1 := ⟨k - 1, by omega⟩
  rw [tx, if_pos h, hl]; rfl
theorem af_end {σ : Type} {g : Nat → Int32} {n M k a : Nat} {st : Int32 → Bool} {ln : Nat → σ → Int32 ⊕ (Nat × σ)} {s : σ} (h : n ≤ a) : af g n M st ln k a s = .inr (M - k, s) := if_pos h
theorem af_no {σ : Type} {g : Nat → Int32} {n M k a : Nat} {st : Int32 → Bool} {ln : Nat → σ → Int32 ⊕ (Nat × σ)} {s : σ} (h : ¬ n ≤ a) (h2 : ¬ hd g n a = 59) : af g n M st ln k a s = .inl (flt 1 a) := by rw [af, if_neg h, if_neg h2]
theorem af_go {σ : Type} {g : Nat → Int32} {n M k a : Nat} {st : Int32 → Bool} {ln : Nat → σ → Int32 ⊕ (Nat × σ)} {s : σ} (h2 : hd g n a = 59) : af g n M st ln k a s = tx g n M st ln k (a + 1) s := by
  have := hd_lit h2 (by decide)
  rw [af, if_neg (by omega), if_pos h2]

theorem bt_f {s k : Int32} (h : (s >>> (k &&& 31)) &&& 1 = 0) : bt s k = false := by rw [bt, decide_eq_true h]; rfl
theorem bt_t {s k : Int32} (h : ¬ (s >>> (k &&& 31)) &&& 1 = 0) : bt s k = true := by rw [bt, decide_eq_false h]; rfl
theorem isDg_t {x : Int32} (h1 : ¬ x < 48) (h2 : ¬ 57 < x) : isDg x = true := by rw [isDg, decide_eq_true (Int32.not_lt.mp h1), decide_eq_true (Int32.not_lt.mp h2)]; rfl
theorem isDg_f1 {x : Int32} (h : x < 48) : isDg x = false := by rw [isDg, decide_eq_false (Int32.not_le.mpr h)]; rfl
theorem isDg_f2 {x : Int32} (h : 57 < x) : isDg x = false := by rw [isDg, decide_eq_false (Int32.not_le.mpr h), Bool.and_false]
theorem isLt_t {x : Int32} (h1 : ¬ x < 97) (h2 : x < 113) : isLt x = true := by rw [isLt, decide_eq_true (Int32.not_lt.mp h1), decide_eq_true h2]; rfl
theorem isLt_f1 {x : Int32} (h : x < 97) : isLt x = false := by rw [isLt, decide_eq_false (Int32.not_le.mpr h)]; rfl
theorem isLt_f2 {x : Int32} (h : ¬ x < 113) : isLt x = false := by rw [isLt, decide_eq_false h, Bool.and_false]
theorem sub48 (z : Nat) : nI (48 + z) - 48 = nI z := by
  rw [show (48 : Int32) = nI 48 from rfl, pk_sub (by omega), show 48 + z - 48 = z by omega]
theorem isDg_ge {g : Nat → Int32} {n a : Nat} (h : n ≤ a) : isDg (hd g n a) = false := by rw [hd_ge h]; decide
theorem isLt_ge {g : Nat → Int32} {n a : Nat} (h : n ≤ a) : isLt (hd g n a) = false := by rw [hd_ge h]; decide
theorem bool_tf {x : Bool} (h : x = true) (h' : x = false) : False := by rw [h] at h'; cases h'
theorem stD_42 {x : Int32} (h : x = 42) : stD x = true := by rw [stD, decide_eq_true h]; rfl
theorem stD_no {x : Int32} (h : ¬ x = 42) : stD x = isLt x := by rw [stD, decide_eq_false h]; rfl
theorem sgD_t {x : Int32} (h : x = 61 ∨ x = 43 ∨ x = 45) : sgD x = true := by rcases h with rfl | rfl | rfl <;> decide
theorem sgD_f {x : Int32} (h1 : ¬ x = 61) (h2 : ¬ x = 43) (h3 : ¬ x = 45) : sgD x = false := by rw [sgD, decide_eq_false h1, decide_eq_false h2, decide_eq_false h3]; rfl
def ANS (C : Prop) (r v : Int32) : Prop := (C ∧ r = v) ∨ (¬ C ∧ r = -1)
theorem ANS.one {C : Prop} {r r' v : Int32} (h : ANS C r v) (h' : ANS C r' v) : r = r' := by
  rcases h with ⟨c, e⟩ | ⟨c, e⟩ <;> rcases h' with ⟨c', e'⟩ | ⟨c', e'⟩
  · rw [e, e']
  · exact absurd c c'
  · exact absurd c' c
  · rw [e, e']
def txD (g : Nat → Int32) (n : Nat) (k a : Nat) : Int32 ⊕ (Nat × Unit) := tx g n 20 stD (fun a _ => lnD g n a) k a ()
def afD (g : Nat → Int32) (n : Nat) (k a : Nat) : Int32 ⊕ (Nat × Unit) := af g n 20 stD (fun a _ => lnD g n a) k a ()
def dreadsA (g : Nat → Int32) (n : Int32) : Int32 := cod (txD g n.toNatClampNeg 20 0)

set_option maxHeartbeats 4000000 in
set_option maxRecDepth 100000 in
theorem g_X11_hasS (l : Launch) (D : va_G) (b : Nat) (N : Nat) (V : Wd) (hN : 100 ≤ N) (hW : CW D b V) (n0 : Int32) (n1 : Int32) (hk : 0 ≤ n1 ∧ n1 < 32) : MI l D b 0 jX11_has [.int n0, .int n1] N V 0 0 (fun r N9 V9 => ((r = 0 ∨ r = 1) ∧ ((bt n0 n1 = true ∧ r = 1) ∨ (bt n0 n1 = false ∧ r = 0))) ∧ N = N9 ∧ V = V9) := by
  have hJ0 : JW D b N [] V V := JW.rf hW
  refine mw_of (by decide) (by simp [Value.category]) (Nat.le_of_ble_eq_true rfl) ?_
  show AW l D b jX11_has (fx_rm 0 0 0) none (fx_MQ D b 0 0 (fx_qi (fun r N9 V9 => ((r = 0 ∨ r = 1) ∧ ((bt n0 n1 = true ∧ r = 1) ∨ (bt n0 n1 = false ∧ r = 0))) ∧ N = N9 ∧ V = V9))) 0 [some (.int n0), some (.int n1)] [] N V 0 0
  refine aw_iload_n dX11_has_0 rfl ?_
  refine aw_if_lt (tgt := 22) dX11_has_1 (by decide) (fun c_1 => ?_) (fun c_1 => ?_)
  · exact absurd c_1 (Int32.not_lt.mpr hk.1)
  refine aw_iload_n dX11_has_4 rfl ?_
  refine aw_bipush (v := 32) dX11_has_5 (by decide) ?_
  refine aw_icmp_ge (tgt := 22) dX11_has_7 (by decide) (fun c_2 => ?_) (fun c_2 => ?_)
  · exact absurd hk.2 (Int32.not_lt.mpr c_2)
  refine aw_iload_n dX11_has_10 rfl ?_
  refine aw_iload_n dX11_has_11 rfl ?_
  refine aw_ishr dX11_has_12 ?_
  refine aw_iconst (v := 1) dX11_has_13 (by decide) ?_
  refine aw_iand dX11_has_14 ?_
  refine aw_if_eq (tgt := 22) dX11_has_15 (by decide) (fun c_3 => ?_) (fun c_3 => ?_)
  · skip
    refine aw_iconst (v := 0) dX11_has_22 (by decide) ?_
    refine aw_zreti dX11_has_23 rfl (by first | exact Or.inl rfl | exact Or.inr rfl | assumption) (Nat.le_of_ble_eq_true rfl) (Nat.le_of_ble_eq_true rfl) ?_
    exact ⟨⟨(by first | exact Or.inl rfl | exact Or.inr rfl | assumption), Or.inr ⟨bt_f c_3, rfl⟩⟩, rfl, rfl⟩
  · skip
    refine aw_iconst (v := 1) dX11_has_18 (by decide) ?_
    refine aw_goto (tgt := 23) dX11_has_19 (by decide) ?_
    refine aw_zreti dX11_has_23 rfl (by first | exact Or.inl rfl | exact Or.inr rfl | assumption) (Nat.le_of_ble_eq_true rfl) (Nat.le_of_ble_eq_true rfl) ?_
    exact ⟨⟨(by first | exact Or.inl rfl | exact Or.inr rfl | assumption), Or.inl ⟨bt_t c_3, rfl⟩⟩, rfl, rfl⟩

set_option maxHeartbeats 4000000 in
set_option maxRecDepth 100000 in
theorem g_X10_isDigitS (l : Launch) (D : va_G) (b : Nat) (N : Nat) (V : Wd) (hN : 100 ≤ N) (hW : CW D b V) (n0 : Int32)  : MI l D b 0 jX10_isDigit [.int n0] N V 0 0 (fun r N9 V9 => ((r = 0 ∨ r = 1) ∧ ((isDg n0 = true ∧ r = 1) ∨ (isDg n0 = false ∧ r = 0))) ∧ N = N9 ∧ V = V9) := by
  have hJ0 : JW D b N [] V V := JW.rf hW
  refine mw_of (by decide) (by simp [Value.category]) (Nat.le_of_ble_eq_true rfl) ?_
  show AW l D b jX10_isDigit (fx_rm 0 0 0) none (fx_MQ D b 0 0 (fx_qi (fun r N9 V9 => ((r = 0 ∨ r = 1) ∧ ((isDg n0 = true ∧ r = 1) ∨ (isDg n0 = false ∧ r = 0))) ∧ N = N9 ∧ V = V9))) 0 [some (.int n0)] [] N V 0 0
  refine aw_iload_n dX10_isDigit_0 rfl ?_
  refine aw_bipush (v := 48) dX10_isDigit_1 (by decide) ?_
  refine aw_icmp_lt (tgt := 16) dX10_isDigit_3 (by decide) (fun c_1 => ?_) (fun c_1 => ?_)
  · skip
    refine aw_iconst (v := 0) dX10_isDigit_16 (by decide) ?_
    refine aw_zreti dX10_isDigit_17 rfl (by first | exact Or.inl rfl | exact Or.inr rfl | assumption) (Nat.le_of_ble_eq_true rfl) (Nat.le_of_ble_eq_true rfl) ?_
    exact ⟨⟨(by first | exact Or.inl rfl | exact Or.inr rfl | assumption), Or.inr ⟨isDg_f1 c_1, rfl⟩⟩, rfl, rfl⟩
  · skip
    refine aw_iload_n dX10_isDigit_6 rfl ?_
    refine aw_bipush (v := 57) dX10_isDigit_7 (by decide) ?_
    refine aw_icmp_gt (tgt := 16) dX10_isDigit_9 (by decide) (fun c_2 => ?_) (fun c_2 => ?_)
    · skip
      refine aw_iconst (v := 0) dX10_isDigit_16 (by decide) ?_
      refine aw_zreti dX10_isDigit_17 rfl (by first | exact Or.inl rfl | exact Or.inr rfl | assumption) (Nat.le_of_ble_eq_true rfl) (Nat.le_of_ble_eq_true rfl) ?_
      exact ⟨⟨(by first | exact Or.inl rfl | exact Or.inr rfl | assumption), Or.inr ⟨isDg_f2 c_2, rfl⟩⟩, rfl, rfl⟩
    · skip
      refine aw_iconst (v := 1) dX10_isDigit_12 (by decide) ?_
      refine aw_goto (tgt := 17) dX10_isDigit_13 (by decide) ?_
      refine aw_zreti dX10_isDigit_17 rfl (by first | exact Or.inl rfl | exact Or.inr rfl | assumption) (Nat.le_of_ble_eq_true rfl) (Nat.le_of_ble_eq_true rfl) ?_
      exact ⟨⟨(by first | exact Or.inl rfl | exact Or.inr rfl | assumption), Or.inl ⟨isDg_t c_1 c_2, rfl⟩⟩, rfl, rfl⟩

set_option maxHeartbeats 4000000 in
set_option maxRecDepth 100000 in
theorem g_X10_isFearS (l : Launch) (D : va_G) (b : Nat) (N : Nat) (V : Wd) (hN : 100 ≤ N) (hW : CW D b V) (n0 : Int32)  : MI l D b 0 jX10_isFear [.int n0] N V 0 0 (fun r N9 V9 => ((r = 0 ∨ r = 1) ∧ ((isLt n0 = true ∧ r = 1) ∨ (isLt n0 = false ∧ r = 0))) ∧ N = N9 ∧ V = V9) := by
  have hJ0 : JW D b N [] V V := JW.rf hW
  refine mw_of (by decide) (by simp [Value.category]) (Nat.le_of_ble_eq_true rfl) ?_
  show AW l D b jX10_isFear (fx_rm 0 0 0) none (fx_MQ D b 0 0 (fx_qi (fun r N9 V9 => ((r = 0 ∨ r = 1) ∧ ((isLt n0 = true ∧ r = 1) ∨ (isLt n0 = false ∧ r = 0))) ∧ N = N9 ∧ V = V9))) 0 [some (.int n0)] [] N V 0 0
  refine aw_iload_n dX10_isFear_0 rfl ?_
  refine aw_bipush (v := 97) dX10_isFear_1 (by decide) ?_
  refine aw_icmp_lt (tgt := 16) dX10_isFear_3 (by decide) (fun c_1 => ?_) (fun c_1 => ?_)
  · skip
    refine aw_iconst (v := 0) dX10_isFear_16 (by decide) ?_
    refine aw_zreti dX10_isFear_17 rfl (by first | exact Or.inl rfl | exact Or.inr rfl | assumption) (Nat.le_of_ble_eq_true rfl) (Nat.le_of_ble_eq_true rfl) ?_
    exact ⟨⟨(by first | exact Or.inl rfl | exact Or.inr rfl | assumption), Or.inr ⟨isLt_f1 c_1, rfl⟩⟩, rfl, rfl⟩
  · skip
    refine aw_iload_n dX10_isFear_6 rfl ?_
    refine aw_bipush (v := 113) dX10_isFear_7 (by decide) ?_
    refine aw_icmp_ge (tgt := 16) dX10_isFear_9 (by decide) (fun c_2 => ?_) (fun c_2 => ?_)
    · skip
      refine aw_iconst (v := 0) dX10_isFear_16 (by decide) ?_
      refine aw_zreti dX10_isFear_17 rfl (by first | exact Or.inl rfl | exact Or.inr rfl | assumption) (Nat.le_of_ble_eq_true rfl) (Nat.le_of_ble_eq_true rfl) ?_
      exact ⟨⟨(by first | exact Or.inl rfl | exact Or.inr rfl | assumption), Or.inr ⟨isLt_f2 (Int32.not_lt.mpr c_2), rfl⟩⟩, rfl, rfl⟩
    · skip
      refine aw_iconst (v := 1) dX10_isFear_12 (by decide) ?_
      refine aw_goto (tgt := 17) dX10_isFear_13 (by decide) ?_
      refine aw_zreti dX10_isFear_17 rfl (by first | exact Or.inl rfl | exact Or.inr rfl | assumption) (Nat.le_of_ble_eq_true rfl) (Nat.le_of_ble_eq_true rfl) ?_
      exact ⟨⟨(by first | exact Or.inl rfl | exact Or.inr rfl | assumption), Or.inl ⟨isLt_t c_1 (Int32.not_le.mp c_2), rfl⟩⟩, rfl, rfl⟩

set_option maxHeartbeats 4000000 in
set_option maxRecDepth 100000 in
theorem g_X10_nowS (l : Launch) (D : va_G) (b : Nat) (N : Nat) (V : Wd) (hN : 100 ≤ N) (hW : CW D b V)  (g : Nat → Int32) (hg : V 2 = cI D 260 g) (n a : Nat) (hna : a ≤ n ∧ n ≤ 240) (hE : fI (V 1) 2 = nI n) (hA : fI (V 1) 3 = nI a) : MI l D b 0 jX10_now [.ref (b + 1)] N V 0 0 (fun r N9 V9 => (r = hd g n a) ∧ N = N9 ∧ V = V9) := by
  have hJ0 : JW D b N [] V V := JW.rf hW
  refine mw_of (by decide) (by simp [Value.category]) (Nat.le_of_ble_eq_true rfl) ?_
  show AW l D b jX10_now (fx_rm 0 0 0) none (fx_MQ D b 0 0 (fx_qi (fun r N9 V9 => (r = hd g n a) ∧ N = N9 ∧ V = V9))) 0 [some (.ref (b + 1))] [] N V 0 0
  refine aw_aload_n dX10_now_0 rfl ?_
  obtain ⟨ts_1, tn_1, tf_1, ta_1, e_1, hta_1⟩ := JW.get hJ0 ct_1
  refine aw_get dX10_now_1 fl_X10_22 e_1 (by omega) rfl ?_
  refine aw_eqi (y := (nI a)) ((Eq.symm (congrArg (fun z => fI z 3) e_1)).trans hA) ?_
  refine aw_if_lt (tgt := 42) dX10_now_4 (by decide) (fun c_2 => ?_) (fun c_2 => ?_)
  · have nc_2 : a < 0 := (nI_ltI (a := a) (b := 0) (by omega) (by omega)).mp c_2
    omega
  have nc_2 : ¬ (a < 0) := fun z => c_2 ((nI_ltI (a := a) (b := 0) (by omega) (by omega)).mpr z)
  refine aw_aload_n dX10_now_7 rfl ?_
  refine aw_get dX10_now_8 fl_X10_22 e_1 (by omega) rfl ?_
  refine aw_eqi (y := (nI a)) ((Eq.symm (congrArg (fun z => fI z 3) e_1)).trans hA) ?_
  refine aw_aload_n dX10_now_11 rfl ?_
  refine aw_get dX10_now_12 fl_X10_19 e_1 (by omega) rfl ?_
  refine aw_eqi (y := (nI n)) ((Eq.symm (congrArg (fun z => fI z 2) e_1)).trans hE) ?_
  refine aw_icmp_ge (tgt := 42) dX10_now_15 (by decide) (fun c_3 => ?_) (fun c_3 => ?_)
  · skip
    have nc_3 : n ≤ a := (nI_leI (a := n) (b := a) (by omega) (by omega)).mp c_3
    refine aw_iconst (v := (-1)) dX10_now_42 (by decide) ?_
    refine aw_ireti dX10_now_43 rfl (Nat.le_of_ble_eq_true rfl) (Nat.le_of_ble_eq_true rfl) ?_
    exact ⟨(hd_ge (by omega)).symm, rfl, rfl⟩
  · skip
    have nc_3 : ¬ (n ≤ a) := fun z => c_3 ((nI_leI (a := n) (b := a) (by omega) (by omega)).mpr z)
    refine aw_aload_n dX10_now_18 rfl ?_
    refine aw_get dX10_now_19 fl_X10_22 e_1 (by omega) rfl ?_
    refine aw_eqi (y := (nI a)) ((Eq.symm (congrArg (fun z => fI z 3) e_1)).trans hA) ?_
    refine aw_aload_n dX10_now_22 rfl ?_
    refine aw_get dX10_now_23 fl_X10_9 e_1 (by omega) rfl ?_
    refine aw_alen (t0 := 0) (v := 260) dX10_now_26 hg (by omega) rfl rfl ?_
    refine aw_icmp_ge (tgt := 42) dX10_now_27 (by decide) (fun c_4 => ?_) (fun c_4 => ?_)
    · have nc_4 : 260 ≤ a := (nI_leI (a := 260) (b := a) (by omega) (by omega)).mp c_4
      omega
    have nc_4 : ¬ (260 ≤ a) := fun z => c_4 ((nI_leI (a := 260) (b := a) (by omega) (by omega)).mpr z)
    refine aw_aload_n dX10_now_30 rfl ?_
    refine aw_get dX10_now_31 fl_X10_9 e_1 (by omega) rfl ?_
    refine aw_aload_n dX10_now_34 rfl ?_
    refine aw_get dX10_now_35 fl_X10_22 e_1 (by omega) rfl ?_
    refine aw_eqi (y := (nI a)) ((Eq.symm (congrArg (fun z => fI z 3) e_1)).trans hA) ?_
    refine aw_iald (v := (g a)) dX10_now_38 hg (by omega) (vp_in_nI (n := a) (by omega) (by omega)) (congrArg g (nI_clamp (n := a) (by omega))) ?_
    refine aw_goto (tgt := 43) dX10_now_39 (by decide) ?_
    refine aw_ireti dX10_now_43 rfl (Nat.le_of_ble_eq_true rfl) (Nat.le_of_ble_eq_true rfl) ?_
    exact ⟨(hd_in (by omega)).symm, rfl, rfl⟩

set_option maxHeartbeats 4000000 in
set_option maxRecDepth 100000 in
theorem g_X10_failS (l : Launch) (D : va_G) (b : Nat) (N : Nat) (V : Wd) (hN : 100 ≤ N) (hW : CW D b V) (n0 : Int32) (n1 : Int32)  : MI l D b 0 jX10_fail [.ref (b + 1), .int n0, .int n1] N V 0 0 (fun r N9 V9 => ((r = 0 ∨ r = 1) ∧ (r = 0 ∧ fI (V9 1) 4 = -1000 * n0 - n1)) ∧ N = N9 ∧ JW D b N [(1, 1, 4, 4)] V V9) := by
  have hJ0 : JW D b N [(1, 1, 4, 4)] V V := JW.rf hW
  refine mw_of (by decide) (by simp [Value.category]) (Nat.le_of_ble_eq_true rfl) ?_
  show AW l D b jX10_fail (fx_rm 0 0 0) none (fx_MQ D b 0 0 (fx_qi (fun r N9 V9 => ((r = 0 ∨ r = 1) ∧ (r = 0 ∧ fI (V9 1) 4 = -1000 * n0 - n1)) ∧ N = N9 ∧ JW D b N [(1, 1, 4, 4)] V V9))) 0 [some (.ref (b + 1)), some (.int n0), some (.int n1)] [] N V 0 0
  refine aw_aload_n dX10_fail_0 rfl ?_
  refine aw_sipush (v := (-1000)) dX10_fail_1 (by decide) ?_
  refine aw_iload_n dX10_fail_4 rfl ?_
  refine aw_imul dX10_fail_5 ?_
  refine aw_iload_n dX10_fail_6 rfl ?_
  refine aw_isub dX10_fail_7 ?_
  obtain ⟨ts_1, tn_1, tf_1, ta_1, e_1, hta_1⟩ := JW.get hJ0 ct_1
  refine aw_put dX10_fail_8 fp_X10_25 e_1 (by omega) rfl rfl (Nat.le_of_ble_eq_true rfl) rfl ?_
  refine aw_up hJ0 ct_1 ⟨_, _, _, ta_1, rfl, (by first | omega | (split <;> omega))⟩ (WO (s := 4) (x := .int (((-1000) * n0) - n1)) e_1 rfl LM0 (by decide) (by decide) (by decide) (Or.inl (by decide))) (fun V_2 j_2 k_2 e_2 => ?_)
  refine aw_iconst (v := 0) dX10_fail_11 (by decide) ?_
  refine aw_zreti dX10_fail_12 rfl (by first | exact Or.inl rfl | exact Or.inr rfl | assumption) (Nat.le_of_ble_eq_true rfl) (Nat.le_of_ble_eq_true rfl) ?_
  exact ⟨⟨(by first | exact Or.inl rfl | exact Or.inr rfl | assumption), ⟨rfl, ((congrArg (fun z => fI z 4) e_2).trans rfl)⟩⟩, rfl, j_2⟩

set_option maxHeartbeats 4000000 in
set_option maxRecDepth 100000 in
theorem g_X10_cannotStandS (l : Launch) (D : va_G) (b : Nat) (N : Nat) (V : Wd) (hN : 100 ≤ N) (hW : CW D b V)  (g : Nat → Int32) (hg : V 2 = cI D 260 g) (n a : Nat) (hna : a ≤ n ∧ n ≤ 240) (hE : fI (V 1) 2 = nI n) (hA : fI (V 1) 3 = nI a) : MI l D b 1 jX10_cannotStand [.ref (b + 1)] N V 0 0 (fun r N9 V9 => ((r = 0 ∨ r = 1) ∧ (r = 0 ∧ fI (V9 1) 4 = flt 1 a)) ∧ N = N9 ∧ JW D b N [(1, 1, 4, 4)] V V9) := by
  have hJ0 : JW D b N [(1, 1, 4, 4)] V V := JW.rf hW
  refine mw_of (by decide) (by simp [Value.category]) (Nat.le_of_ble_eq_true rfl) ?_
  show AW l D b jX10_cannotStand (fx_rm 1 0 0) none (fx_MQ D b 0 0 (fx_qi (fun r N9 V9 => ((r = 0 ∨ r = 1) ∧ (r = 0 ∧ fI (V9 1) 4 = flt 1 a)) ∧ N = N9 ∧ JW D b N [(1, 1, 4, 4)] V V9))) 0 [some (.ref (b + 1))] [] N V 0 0
  refine aw_aload_n dX10_cannotStand_0 rfl ?_
  refine aw_iconst (v := 1) dX10_cannotStand_1 (by decide) ?_
  refine aw_aload_n dX10_cannotStand_2 rfl ?_
  obtain ⟨ts_1, tn_1, tf_1, ta_1, e_1, hta_1⟩ := JW.get hJ0 ct_1
  refine aw_get dX10_cannotStand_3 fl_X10_22 e_1 (by omega) rfl ?_
  refine aw_eqi (y := (nI a)) ((Eq.symm (congrArg (fun z => fI z 3) e_1)).trans hA) ?_
  refine aw_callVi (J' := jX10_fail) (As := [.int 1, .int (nI a)]) (st := []) dX10_cannotStand_6 tb_315 ok_X10_fail ⟨_, e_1⟩ (by omega) rfl rfl (g_X10_failS l D b N V hN hJ0.1 1 (nI a)) rfl (Nat.le_of_ble_eq_true rfl) ⟨Nat.le_of_ble_eq_true rfl, Nat.le_of_ble_eq_true rfl, Nat.le_of_ble_eq_true rfl, Nat.le_of_ble_eq_true rfl⟩ (fun r_7 N_8 V_6 q_9 => ?_)
  obtain ⟨⟨z_4, h_3⟩, rfl, q_2⟩ := q_9
  have j_5 := JW.trans hJ0 (JW.weak q_2 (Sub.cons LM0 (by decide) (by decide) (by decide) (Or.inr ⟨by decide, by decide⟩) Sub.nil))
  obtain ⟨rfl, h_3f⟩ := h_3
  refine aw_zreti dX10_cannotStand_9 rfl (by first | exact Or.inl rfl | exact Or.inr rfl | assumption) (Nat.le_of_ble_eq_true rfl) (Nat.le_of_ble_eq_true rfl) ?_
  exact ⟨⟨(by first | exact Or.inl rfl | exact Or.inr rfl | assumption), ⟨rfl, h_3f⟩⟩, rfl, j_5⟩

set_option maxHeartbeats 4000000 in
set_option maxRecDepth 100000 in
theorem g_X10_expectS (l : Launch) (D : va_G) (b : Nat) (N : Nat) (V : Wd) (hN : 100 ≤ N) (hW : CW D b V) (n0 : Int32) (g : Nat → Int32) (hg : V 2 = cI D 260 g) (n a : Nat) (hna : a ≤ n ∧ n ≤ 240) (hE : fI (V 1) 2 = nI n) (hA : fI (V 1) 3 = nI a) : MI l D b 1 jX10_expect [.ref (b + 1), .int n0] N V 0 0 (fun r N9 V9 => ((r = 0 ∨ r = 1) ∧ ((hd g n a = n0 ∧ fI (V9 1) 3 = nI (a + 1) ∧ r = 1) ∨ (¬ hd g n a = n0 ∧ fI (V9 1) 4 = flt 1 a ∧ r = 0))) ∧ N = N9 ∧ JW D b N [(1, 1, 3, 3), (1, 1, 4, 4)] V V9) := by
  have hJ0 : JW D b N [(1, 1, 3, 3), (1, 1, 4, 4)] V V := JW.rf hW
  refine mw_of (by decide) (by simp [Value.category]) (Nat.le_of_ble_eq_true rfl) ?_
  show AW l D b jX10_expect (fx_rm 1 0 0) none (fx_MQ D b 0 0 (fx_qi (fun r N9 V9 => ((r = 0 ∨ r = 1) ∧ ((hd g n a = n0 ∧ fI (V9 1) 3 = nI (a + 1) ∧ r = 1) ∨ (¬ hd g n a = n0 ∧ fI (V9 1) 4 = flt 1 a ∧ r = 0))) ∧ N = N9 ∧ JW D b N [(1, 1, 3, 3), (1, 1, 4, 4)] V V9))) 0 [some (.ref (b + 1)), some (.int n0)] [] N V 0 0
  refine aw_aload_n dX10_expect_0 rfl ?_
  obtain ⟨ts_3, tn_3, tf_3, ta_3, e_3, hta_3⟩ := JW.get hJ0 ct_1
  refine aw_callVi (J' := jX10_now) (As := []) (st := []) dX10_expect_1 tb_311 ok_X10_now ⟨_, e_3⟩ (by omega) rfl rfl (g_X10_nowS l D b N V hN hJ0.1 g hg n a ⟨by omega, by omega⟩ hE hA) rfl (Nat.le_of_ble_eq_true rfl) ⟨Nat.le_of_ble_eq_true rfl, Nat.le_of_ble_eq_true rfl, Nat.le_of_ble_eq_true rfl, Nat.le_of_ble_eq_true rfl⟩ (fun r_4 N_5 V_6 q_7 => ?_)
  obtain ⟨h_2, rfl, rfl⟩ := q_7
  refine aw_eqi (y := (hd g n a)) h_2 ?_
  refine aw_iload_n dX10_expect_4 rfl ?_
  refine aw_icmp_eq (tgt := 18) dX10_expect_5 (by decide) (fun c_8 => ?_) (fun c_8 => ?_)
  · skip
    refine aw_aload_n dX10_expect_18 rfl ?_
    refine aw_dup dX10_expect_19 rfl ?_
    refine aw_get dX10_expect_20 fl_X10_22 e_3 (by omega) rfl ?_
    refine aw_eqi (y := (nI a)) ((Eq.symm (congrArg (fun z => fI z 3) e_3)).trans hA) ?_
    refine aw_iconst (v := 1) dX10_expect_23 (by decide) ?_
    refine aw_iadd dX10_expect_24 ?_
    refine aw_eqi (y := nI (a + 1)) (nI_add _ _) ?_
    refine aw_put dX10_expect_25 fp_X10_22 e_3 (by omega) rfl rfl (Nat.le_of_ble_eq_true rfl) rfl ?_
    refine aw_up hJ0 ct_1 ⟨_, _, _, (a + 1), rfl, (by first | omega | (split <;> omega))⟩ (WO (s := 3) (x := .int (nI (a + 1))) e_3 rfl LM0 (by decide) (by decide) (by decide) (Or.inl (by decide))) (fun V_9 j_9 k_9 e_9 => ?_)
    refine aw_iconst (v := 1) dX10_expect_28 (by decide) ?_
    refine aw_zreti dX10_expect_29 rfl (by first | exact Or.inl rfl | exact Or.inr rfl | assumption) (Nat.le_of_ble_eq_true rfl) (Nat.le_of_ble_eq_true rfl) ?_
    exact ⟨⟨(by first | exact Or.inl rfl | exact Or.inr rfl | assumption), Or.inl ⟨c_8, ((congrArg (fun z => fI z 3) e_9).trans rfl), rfl⟩⟩, rfl, j_9⟩
  · skip
    refine aw_aload_n dX10_expect_8 rfl ?_
    refine aw_iconst (v := 1) dX10_expect_9 (by decide) ?_
    refine aw_aload_n dX10_expect_10 rfl ?_
    refine aw_get dX10_expect_11 fl_X10_22 e_3 (by omega) rfl ?_
    refine aw_eqi (y := (nI a)) ((Eq.symm (congrArg (fun z => fI z 3) e_3)).trans hA) ?_
    refine aw_callVi (J' := jX10_fail) (As := [.int 1, .int (nI a)]) (st := []) dX10_expect_14 tb_315 ok_X10_fail ⟨_, e_3⟩ (by omega) rfl rfl (g_X10_failS l D b N V hN hJ0.1 1 (nI a)) rfl (Nat.le_of_ble_eq_true rfl) ⟨Nat.le_of_ble_eq_true rfl, Nat.le_of_ble_eq_true rfl, Nat.le_of_ble_eq_true rfl, Nat.le_of_ble_eq_true rfl⟩ (fun r_15 N_16 V_14 q_17 => ?_)
    obtain ⟨⟨z_12, h_11⟩, rfl, q_10⟩ := q_17
    have j_13 := JW.trans hJ0 (JW.weak q_10 (Sub.cons (LMs LM0) (by decide) (by decide) (by decide) (Or.inr ⟨by decide, by decide⟩) Sub.nil))
    obtain ⟨rfl, h_11f⟩ := h_11
    refine aw_zreti dX10_expect_17 rfl (by first | exact Or.inl rfl | exact Or.inr rfl | assumption) (Nat.le_of_ble_eq_true rfl) (Nat.le_of_ble_eq_true rfl) ?_
    exact ⟨⟨(by first | exact Or.inl rfl | exact Or.inr rfl | assumption), Or.inr ⟨c_8, h_11f, rfl⟩⟩, rfl, j_13⟩

set_option maxHeartbeats 4000000 in
set_option maxRecDepth 100000 in
theorem g_X10_readNumber_2S (l : Launch) (D : va_G) (b : Nat) (N : Nat) (V : Wd) (hN : 100 ≤ N) (hW : CW D b V)  (g : Nat → Int32) (hg : V 2 = cI D 260 g) (n a : Nat) (hna : a ≤ n ∧ n ≤ 240) (hE : fI (V 1) 2 = nI n) (hA : fI (V 1) 3 = nI a) : MI l D b 1 jX10_readNumber [.ref (b + 1), .int 2] N V 0 0 (fun r N9 V9 => ((∃ f, num g n 2 a = .inl f ∧ fI (V9 1) 4 = f ∧ r = -1) ∨ (∃ a9 v, num g n 2 a = .inr (a9, v) ∧ fI (V9 1) 3 = nI a9 ∧ (a < a9 ∧ a9 ≤ n ∧ v < 100) ∧ r = nI v)) ∧ N = N9 ∧ JW D b N [(1, 1, 3, 3), (1, 1, 4, 4)] V V9) := by
  have hJ0 : JW D b N [(1, 1, 3, 3), (1, 1, 4, 4)] V V := JW.rf hW
  refine mw_of (by decide) (by simp [Value.category]) (Nat.le_of_ble_eq_true rfl) ?_
  show AW l D b jX10_readNumber (fx_rm 1 0 0) none (fx_MQ D b 0 0 (fx_qi (fun r N9 V9 => ((∃ f, num g n 2 a = .inl f ∧ fI (V9 1) 4 = f ∧ r = -1) ∨ (∃ a9 v, num g n 2 a = .inr (a9, v) ∧ fI (V9 1) 3 = nI a9 ∧ (a < a9 ∧ a9 ≤ n ∧ v < 100) ∧ r = nI v)) ∧ N = N9 ∧ JW D b N [(1, 1, 3, 3), (1, 1, 4, 4)] V V9))) 0 [some (.ref (b + 1)), some (.int 2), none, none] [] N V 0 0
  refine aw_aload_n dX10_readNumber_0 rfl ?_
  obtain ⟨ts_3, tn_3, tf_3, ta_3, e_3, hta_3⟩ := JW.get hJ0 ct_1
  refine aw_callVi (J' := jX10_now) (As := []) (st := []) dX10_readNumber_1 tb_311 ok_X10_now ⟨_, e_3⟩ (by omega) rfl rfl (g_X10_nowS l D b N V hN hJ0.1 g hg n a ⟨by omega, by omega⟩ hE hA) rfl (Nat.le_of_ble_eq_true rfl) ⟨Nat.le_of_ble_eq_true rfl, Nat.le_of_ble_eq_true rfl, Nat.le_of_ble_eq_true rfl, Nat.le_of_ble_eq_true rfl⟩ (fun r_4 N_5 V_6 q_7 => ?_)
  obtain ⟨h_2, rfl, rfl⟩ := q_7
  refine aw_eqi (y := (hd g n a)) h_2 ?_
  refine aw_callSi (J' := jX10_isDigit) (As := [.int (hd g n a)]) (st := []) dX10_readNumber_4 tb_365 ok_X10_isDigit rfl (g_X10_isDigitS l D b N V hN hJ0.1 (hd g n a)) rfl (Nat.le_of_ble_eq_true rfl) ⟨Nat.le_of_ble_eq_true rfl, Nat.le_of_ble_eq_true rfl, Nat.le_of_ble_eq_true rfl, Nat.le_of_ble_eq_true rfl⟩ (fun r_11 N_12 V_13 q_14 => ?_)
  obtain ⟨⟨z_10, h_9⟩, rfl, rfl⟩ := q_14
  rcases h_9 with ⟨hy_15, e_16⟩ | ⟨hn_17, e_18⟩
  · skip
    refine aw_eqi (y := 1) e_16 ?_
    obtain ⟨z_19, hz_19, ez_19⟩ := isDg_nat hy_15
    have hlz_19 := isDg_hd hy_15
    refine aw_if_ne (tgt := 22) dX10_readNumber_7 (by decide) (fun c_20 => ?_) (fun c_20 => ?_)
    rotate_left
    · exact absurd c_20 (by decide)
    refine aw_aload_n dX10_readNumber_22 rfl ?_
    refine aw_get dX10_readNumber_23 fl_X10_22 e_3 (by omega) rfl ?_
    refine aw_eqi (y := (nI a)) ((Eq.symm (congrArg (fun z => fI z 3) e_3)).trans hA) ?_
    refine aw_istore_n (ls' := [some (.ref (b + 1)), some (.int 2), some (.int (nI a)), none]) dX10_readNumber_26 (Nat.le_of_ble_eq_true rfl) rfl ?_
    refine aw_iconst (v := 0) dX10_readNumber_27 (by decide) ?_
    refine aw_istore_n (ls' := [some (.ref (b + 1)), some (.int 2), some (.int (nI a)), some (.int 0)]) dX10_readNumber_28 (Nat.le_of_ble_eq_true rfl) rfl ?_
    have ml_29_21 : ∀ (m : Nat) (a29 : Nat) (v29 : Nat) (V29 : Wd), m = n - a29 → (JW D b N [(1, 1, 3, 3), (1, 1, 4, 4)] V V29) → (fI (V29 1) 2 = nI n) → (fI (V29 1) 3 = nI a29) → (V29 2 = cI D 260 g) → (numL g n 2 a (n - a29) a29 v29 = numL g n 2 a (n - a) a 0) → (a ≤ a29 ∧ a29 ≤ n ∧ a29 ≤ a + 2) → ((a29 = a ∧ v29 = 0) ∨ (a29 = a + 1 ∧ v29 < 10) ∨ (a29 = a + 2 ∧ v29 < 100)) → AW l D b jX10_readNumber (fx_rm 1 0 0) none (fx_MQ D b 0 0 (fx_qi (fun r N9 V9 => ((∃ f, num g n 2 a = .inl f ∧ fI (V9 1) 4 = f ∧ r = -1) ∨ (∃ a9 v, num g n 2 a = .inr (a9, v) ∧ fI (V9 1) 3 = nI a9 ∧ (a < a9 ∧ a9 ≤ n ∧ v < 100) ∧ r = nI v)) ∧ N = N9 ∧ JW D b N [(1, 1, 3, 3), (1, 1, 4, 4)] V V9))) 29 [some (.ref (b + 1)), some (.int 2), some (.int (nI a)), some (.int (nI v29))] [] N V29 0 0 := by
      intro m; refine Nat.strongRecOn m ?_
      intro m mih_29_21 a29 v29 V29 hm29 i29_0 i29_1 i29_2 i29_3 i29_4 i29_5 i29_6
      refine aw_aload_n dX10_readNumber_29 rfl ?_
      obtain ⟨ts_22, tn_22, tf_22, ta_22, e_22, hta_22⟩ := JW.get i29_0 ct_1
      refine aw_get dX10_readNumber_30 fl_X10_22 e_22 (by omega) rfl ?_
      refine aw_eqi (y := (nI a29)) ((Eq.symm (congrArg (fun z => fI z 3) e_22)).trans i29_2) ?_
      refine aw_aload_n dX10_readNumber_33 rfl ?_
      refine aw_get dX10_readNumber_34 fl_X10_19 e_22 (by omega) rfl ?_
      refine aw_eqi (y := (nI n)) ((Eq.symm (congrArg (fun z => fI z 2) e_22)).trans i29_1) ?_
      refine aw_icmp_ge (tgt := 98) dX10_readNumber_37 (by decide) (fun c_23 => ?_) (fun c_23 => ?_)
      · skip
        have nc_23 : n ≤ a29 := (nI_leI (a := n) (b := a29) (by omega) (by omega)).mp c_23
        refine aw_iload_n dX10_readNumber_98 rfl ?_
        have hf9 : isDg (hd g n a29) = false := (isDg_ge (by omega))
        have hne9 : a29 ≠ a := fun e => bool_tf hy_15 (e ▸ hf9)
        refine aw_ireti dX10_readNumber_99 rfl (Nat.le_of_ble_eq_true rfl) (Nat.le_of_ble_eq_true rfl) ?_
        exact ⟨Or.inr ⟨a29, v29, (num_in hy_15).trans (i29_4.symm.trans (numL_stop hf9)), i29_2, ⟨by omega, by omega, by omega⟩, rfl⟩, rfl, i29_0⟩
      · skip
        have nc_23 : ¬ (n ≤ a29) := fun z => c_23 ((nI_leI (a := n) (b := a29) (by omega) (by omega)).mpr z)
        refine aw_aload_n dX10_readNumber_40 rfl ?_
        refine aw_callVi (J' := jX10_now) (As := []) (st := []) dX10_readNumber_41 tb_311 ok_X10_now ⟨_, e_22⟩ (by omega) rfl rfl (g_X10_nowS l D b N V29 hN i29_0.1 g i29_3 n a29 ⟨by omega, by omega⟩ i29_1 i29_2) rfl (Nat.le_of_ble_eq_true rfl) ⟨Nat.le_of_ble_eq_true rfl, Nat.le_of_ble_eq_true rfl, Nat.le_of_ble_eq_true rfl, Nat.le_of_ble_eq_true rfl⟩ (fun r_26 N_27 V_28 q_29 => ?_)
        obtain ⟨h_25, rfl, rfl⟩ := q_29
        refine aw_eqi (y := (hd g n a29)) h_25 ?_
        refine aw_callSi (J' := jX10_isDigit) (As := [.int (hd g n a29)]) (st := []) dX10_readNumber_44 tb_365 ok_X10_isDigit rfl (g_X10_isDigitS l D b N V29 hN i29_0.1 (hd g n a29)) rfl (Nat.le_of_ble_eq_true rfl) ⟨Nat.le_of_ble_eq_true rfl, Nat.le_of_ble_eq_true rfl, Nat.le_of_ble_eq_true rfl, Nat.le_of_ble_eq_true rfl⟩ (fun r_33 N_34 V_35 q_36 => ?_)
        obtain ⟨⟨z_32, h_31⟩, rfl, rfl⟩ := q_36
        rcases h_31 with ⟨hy_37, e_38⟩ | ⟨hn_39, e_40⟩
        · skip
          refine aw_eqi (y := 1) e_38 ?_
          obtain ⟨z_41, hz_41, ez_41⟩ := isDg_nat hy_37
          have hlz_41 := isDg_hd hy_37
          refine aw_if_eq (tgt := 98) dX10_readNumber_47 (by decide) (fun c_42 => ?_) (fun c_42 => ?_)
          · exact absurd c_42 (by decide)
          refine aw_aload_n dX10_readNumber_50 rfl ?_
          refine aw_get dX10_readNumber_51 fl_X10_22 e_22 (by omega) rfl ?_
          refine aw_eqi (y := (nI a29)) ((Eq.symm (congrArg (fun z => fI z 3) e_22)).trans i29_2) ?_
          refine aw_iload_n dX10_readNumber_54 rfl ?_
          refine aw_isub dX10_readNumber_55 ?_
          refine aw_eqi (y := (nI (a29 - a))) (pk_sub (a := a29) (b := a) (by omega)) ?_
          refine aw_iload_n dX10_readNumber_56 rfl ?_
          refine aw_icmp_lt (tgt := 72) dX10_readNumber_57 (by decide) (fun c_43 => ?_) (fun c_43 => ?_)
          · skip
            have nc_43 : (a29 - a) < 2 := (nI_ltI (a := (a29 - a)) (b := 2) (by omega) (by omega)).mp c_43
            refine aw_bipush (v := 10) dX10_readNumber_72 (by decide) ?_
            refine aw_iload_n dX10_readNumber_74 rfl ?_
            refine aw_imul dX10_readNumber_75 ?_
            refine aw_eqi (y := nI (10 * v29)) (pk_mul _ _) ?_
            refine aw_aload_n dX10_readNumber_76 rfl ?_
            refine aw_callVi (J' := jX10_now) (As := []) (st := [.int (nI (10 * v29))]) dX10_readNumber_77 tb_311 ok_X10_now ⟨_, e_22⟩ (by omega) rfl rfl (g_X10_nowS l D b N V29 hN i29_0.1 g i29_3 n a29 ⟨by omega, by omega⟩ i29_1 i29_2) rfl (Nat.le_of_ble_eq_true rfl) ⟨Nat.le_of_ble_eq_true rfl, Nat.le_of_ble_eq_true rfl, Nat.le_of_ble_eq_true rfl, Nat.le_of_ble_eq_true rfl⟩ (fun r_46 N_47 V_48 q_49 => ?_)
            obtain ⟨h_45, rfl, rfl⟩ := q_49
            refine aw_eqi (y := nI (48 + z_41)) (h_45.trans ez_41) ?_
            refine aw_bipush (v := 48) dX10_readNumber_80 (by decide) ?_
            refine aw_isub dX10_readNumber_82 ?_
            refine aw_eqi (y := (nI z_41)) (sub48 z_41) ?_
            refine aw_iadd dX10_readNumber_83 ?_
            refine aw_eqi (y := nI ((10 * v29) + z_41)) (nI_add _ _) ?_
            refine aw_istore_n (ls' := [some (.ref (b + 1)), some (.int 2), some (.int (nI a)), some (.int (nI ((10 * v29) + z_41)))]) dX10_readNumber_84 (Nat.le_of_ble_eq_true rfl) rfl ?_
            refine aw_aload_n dX10_readNumber_85 rfl ?_
            refine aw_dup dX10_readNumber_86 rfl ?_
            refine aw_get dX10_readNumber_87 fl_X10_22 e_22 (by omega) rfl ?_
            refine aw_eqi (y := (nI a29)) ((Eq.symm (congrArg (fun z => fI z 3) e_22)).trans i29_2) ?_
            refine aw_iconst (v := 1) dX10_readNumber_90 (by decide) ?_
            refine aw_iadd dX10_readNumber_91 ?_
            refine aw_eqi (y := nI (a29 + 1)) (nI_add _ _) ?_
            refine aw_put dX10_readNumber_92 fp_X10_22 e_22 (by omega) rfl rfl (Nat.le_of_ble_eq_true rfl) rfl ?_
            refine aw_up i29_0 ct_1 ⟨_, _, _, (a29 + 1), rfl, (by first | omega | (split <;> omega))⟩ (WO (s := 3) (x := .int (nI (a29 + 1))) e_22 rfl LM0 (by decide) (by decide) (by decide) (Or.inl (by decide))) (fun V_50 j_50 k_50 e_50 => ?_)
            refine aw_goto (tgt := 29) dX10_readNumber_95 (by decide) ?_
            refine aw_le ?_ (mih_29_21 _ (by omega) (a29 + 1) ((10 * v29) + z_41) V_50 rfl (j_50) ((KA (s := 3) (x := .int (nI (a29 + 1))) e_22 rfl (by decide) e_50 k_50 i29_1)) (((congrArg (fun z => fI z 3) e_50).trans rfl)) (((k_50 _ (by decide)).trans i29_3)) ((numL_step hy_37 (by omega) hz_41 ez_41).symm.trans i29_4) (⟨by omega, by omega, by omega⟩) (by omega))
            exact ⟨rfl, ⟨rfl, ⟨rfl, ⟨rfl, trivial⟩⟩⟩⟩
          · skip
            have nc_43 : ¬ ((a29 - a) < 2) := fun z => c_43 ((nI_ltI (a := (a29 - a)) (b := 2) (by omega) (by omega)).mpr z)
            refine aw_aload_n dX10_readNumber_60 rfl ?_
            refine aw_iconst (v := 2) dX10_readNumber_61 (by decide) ?_
            refine aw_aload_n dX10_readNumber_62 rfl ?_
            refine aw_get dX10_readNumber_63 fl_X10_22 e_22 (by omega) rfl ?_
            refine aw_eqi (y := (nI a29)) ((Eq.symm (congrArg (fun z => fI z 3) e_22)).trans i29_2) ?_
            refine aw_callVi (J' := jX10_fail) (As := [.int 2, .int (nI a29)]) (st := []) dX10_readNumber_66 tb_315 ok_X10_fail ⟨_, e_22⟩ (by omega) rfl rfl (g_X10_failS l D b N V29 hN i29_0.1 2 (nI a29)) rfl (Nat.le_of_ble_eq_true rfl) ⟨Nat.le_of_ble_eq_true rfl, Nat.le_of_ble_eq_true rfl, Nat.le_of_ble_eq_true rfl, Nat.le_of_ble_eq_true rfl⟩ (fun r_56 N_57 V_55 q_58 => ?_)
            obtain ⟨⟨z_53, h_52⟩, rfl, q_51⟩ := q_58
            have j_54 := JW.trans i29_0 (JW.weak q_51 (Sub.cons (LMs LM0) (by decide) (by decide) (by decide) (Or.inr ⟨by decide, by decide⟩) Sub.nil))
            obtain ⟨rfl, h_52f⟩ := h_52
            refine aw_pop dX10_readNumber_69 rfl ?_
            refine aw_iconst (v := (-1)) dX10_readNumber_70 (by decide) ?_
            refine aw_ireti dX10_readNumber_71 rfl (Nat.le_of_ble_eq_true rfl) (Nat.le_of_ble_eq_true rfl) ?_
            exact ⟨Or.inl ⟨_, (num_in hy_15).trans (i29_4.symm.trans (numL_over hy_37 (by omega))), h_52f, rfl⟩, rfl, j_54⟩
        · skip
          refine aw_eqi (y := 0) e_40 ?_
          refine aw_if_eq (tgt := 98) dX10_readNumber_47 (by decide) (fun c_59 => ?_) (fun c_59 => ?_)
          rotate_left
          · exact absurd (by decide) c_59
          refine aw_iload_n dX10_readNumber_98 rfl ?_
          have hf9 : isDg (hd g n a29) = false := hn_39
          have hne9 : a29 ≠ a := fun e => bool_tf hy_15 (e ▸ hf9)
          refine aw_ireti dX10_readNumber_99 rfl (Nat.le_of_ble_eq_true rfl) (Nat.le_of_ble_eq_true rfl) ?_
          exact ⟨Or.inr ⟨a29, v29, (num_in hy_15).trans (i29_4.symm.trans (numL_stop hf9)), i29_2, ⟨by omega, by omega, by omega⟩, rfl⟩, rfl, i29_0⟩
    refine aw_le ?_ (ml_29_21 _ a 0 V rfl (hJ0) (hE) (hA) (hg) (rfl) (⟨Nat.le_refl _, by omega, by omega⟩) (Or.inl ⟨rfl, rfl⟩))
    exact ⟨rfl, ⟨rfl, ⟨rfl, ⟨rfl, trivial⟩⟩⟩⟩
  · skip
    refine aw_eqi (y := 0) e_18 ?_
    refine aw_if_ne (tgt := 22) dX10_readNumber_7 (by decide) (fun c_60 => ?_) (fun c_60 => ?_)
    · exact absurd rfl c_60
    refine aw_aload_n dX10_readNumber_10 rfl ?_
    refine aw_iconst (v := 1) dX10_readNumber_11 (by decide) ?_
    refine aw_aload_n dX10_readNumber_12 rfl ?_
    refine aw_get dX10_readNumber_13 fl_X10_22 e_3 (by omega) rfl ?_
    refine aw_eqi (y := (nI a)) ((Eq.symm (congrArg (fun z => fI z 3) e_3)).trans hA) ?_
    refine aw_callVi (J' := jX10_fail) (As := [.int 1, .int (nI a)]) (st := []) dX10_readNumber_16 tb_315 ok_X10_fail ⟨_, e_3⟩ (by omega) rfl rfl (g_X10_failS l D b N V hN hJ0.1 1 (nI a)) rfl (Nat.le_of_ble_eq_true rfl) ⟨Nat.le_of_ble_eq_true rfl, Nat.le_of_ble_eq_true rfl, Nat.le_of_ble_eq_true rfl, Nat.le_of_ble_eq_true rfl⟩ (fun r_66 N_67 V_65 q_68 => ?_)
    obtain ⟨⟨z_63, h_62⟩, rfl, q_61⟩ := q_68
    have j_64 := JW.trans hJ0 (JW.weak q_61 (Sub.cons (LMs LM0) (by decide) (by decide) (by decide) (Or.inr ⟨by decide, by decide⟩) Sub.nil))
    obtain ⟨rfl, h_62f⟩ := h_62
    refine aw_pop dX10_readNumber_19 rfl ?_
    refine aw_iconst (v := (-1)) dX10_readNumber_20 (by decide) ?_
    refine aw_ireti dX10_readNumber_21 rfl (Nat.le_of_ble_eq_true rfl) (Nat.le_of_ble_eq_true rfl) ?_
    exact ⟨Or.inl ⟨_, num_no hn_17, h_62f, rfl⟩, rfl, j_64⟩

set_option maxHeartbeats 4000000 in
set_option maxRecDepth 100000 in
theorem g_X2_readFearsS (l : Launch) (D : va_G) (b : Nat) (N : Nat) (V : Wd) (hN : 100 ≤ N) (hW : CW D b V) (p c : Nat) (pn : Int32) (hp : 100 ≤ p ∧ p < N) (hc : c = 3 ∨ c = 21 ∨ c = 39 ∨ c = 74) (hR : V p = cO 2 [.ref (b + 1), .ref (b + c), .int pn]) (g : Nat → Int32) (hg : V 2 = cI D 260 g) (n a : Nat) (hna : a ≤ n ∧ n ≤ 240) (hE : fI (V 1) 2 = nI n) (hA : fI (V 1) 3 = nI a) (hst : stD (hd g n a) = true) : MI l D b 1 jX2_readFears [.ref (b + p)] N V 0 0 (fun r N9 V9 => ((∃ f, meantS g n a = .inl f ∧ fI (V9 1) 4 = f ∧ r = 0) ∨ (∃ a9 s9, meantS g n a = .inr (a9, s9) ∧ fI (V9 1) 3 = nI a9 ∧ (a < a9 ∧ a9 ≤ n) ∧ ¬ s9 = 0 ∧ r = s9)) ∧ N = N9 ∧ JW D b N [(1, 1, 4, 4), (1, 1, 3, 3)] V V9) := by
  have hJ0 : JW D b N [(1, 1, 4, 4), (1, 1, 3, 3)] V V := JW.rf hW
  refine mw_of (by decide) (by simp [Value.category]) (Nat.le_of_ble_eq_true rfl) ?_
  show AW l D b jX2_readFears (fx_rm 1 0 0) none (fx_MQ D b 0 0 (fx_qi (fun r N9 V9 => ((∃ f, meantS g n a = .inl f ∧ fI (V9 1) 4 = f ∧ r = 0) ∨ (∃ a9 s9, meantS g n a = .inr (a9, s9) ∧ fI (V9 1) 3 = nI a9 ∧ (a < a9 ∧ a9 ≤ n) ∧ ¬ s9 = 0 ∧ r = s9)) ∧ N = N9 ∧ JW D b N [(1, 1, 4, 4), (1, 1, 3, 3)] V V9))) 0 [some (.ref (b + p)), none, none] [] N V 0 0
  refine aw_aload_n dX2_readFears_0 rfl ?_
  refine aw_get dX2_readFears_1 fl_X2_29 ((hJ0.2.1 _ hp.1 hp.2).trans hR) (by omega) rfl ?_
  obtain ⟨ts_3, tn_3, tf_3, ta_3, e_3, hta_3⟩ := JW.get hJ0 ct_1
  refine aw_callVi (J' := jX10_now) (As := []) (st := []) dX2_readFears_4 tb_354 ok_X10_now ⟨_, e_3⟩ (by omega) rfl rfl (g_X10_nowS l D b N V hN hJ0.1 g hg n a ⟨by omega, by omega⟩ hE hA) rfl (Nat.le_of_ble_eq_true rfl) ⟨Nat.le_of_ble_eq_true rfl, Nat.le_of_ble_eq_true rfl, Nat.le_of_ble_eq_true rfl, Nat.le_of_ble_eq_true rfl⟩ (fun r_4 N_5 V_6 q_7 => ?_)
  obtain ⟨h_2, rfl, rfl⟩ := q_7
  refine aw_eqi (y := (hd g n a)) h_2 ?_
  refine aw_bipush (v := 42) dX2_readFears_7 (by decide) ?_
  refine aw_icmp_ne (tgt := 28) dX2_readFears_9 (by decide) (fun c_8 => ?_) (fun c_8 => ?_)
  · skip
    refine aw_iconst (v := 0) dX2_readFears_28 (by decide) ?_
    refine aw_istore_n (ls' := [some (.ref (b + p)), some (.int 0), none]) dX2_readFears_29 (Nat.le_of_ble_eq_true rfl) rfl ?_
    have ml_30_9 : ∀ (m : Nat) (a30 : Nat) (v30_1 : Int32) (V30 : Wd), m = n - a30 → (JW D b N [(1, 1, 4, 4), (1, 1, 3, 3)] V V30) → (fI (V30 1) 2 = nI n) → (fI (V30 1) 3 = nI a30) → (V30 2 = cI D 260 g) → (mtF g n (n - a30) v30_1 a30 = mtF g n (n - a) 0 a) → (a ≤ a30 ∧ a30 ≤ n) → ((a30 = a ∧ v30_1 = 0) ∨ ¬ v30_1 = 0) → AW l D b jX2_readFears (fx_rm 1 0 0) none (fx_MQ D b 0 0 (fx_qi (fun r N9 V9 => ((∃ f, meantS g n a = .inl f ∧ fI (V9 1) 4 = f ∧ r = 0) ∨ (∃ a9 s9, meantS g n a = .inr (a9, s9) ∧ fI (V9 1) 3 = nI a9 ∧ (a < a9 ∧ a9 ≤ n) ∧ ¬ s9 = 0 ∧ r = s9)) ∧ N = N9 ∧ JW D b N [(1, 1, 4, 4), (1, 1, 3, 3)] V V9))) 30 [some (.ref (b + p)), some (.int v30_1), none] [] N V30 0 0 := by
      intro m; refine Nat.strongRecOn m ?_
      intro m mih_30_9 a30 v30_1 V30 hm30 i30_0 i30_1 i30_2 i30_3 i30_4 i30_5 i30_6
      refine aw_aload_n dX2_readFears_30 rfl ?_
      refine aw_get dX2_readFears_31 fl_X2_29 ((i30_0.2.1 _ hp.1 hp.2).trans hR) (by omega) rfl ?_
      obtain ⟨ts_10, tn_10, tf_10, ta_10, e_10, hta_10⟩ := JW.get i30_0 ct_1
      refine aw_get dX2_readFears_34 fl_X2_40 e_10 (by omega) rfl ?_
      refine aw_eqi (y := (nI a30)) ((Eq.symm (congrArg (fun z => fI z 3) e_10)).trans i30_2) ?_
      refine aw_aload_n dX2_readFears_37 rfl ?_
      refine aw_get dX2_readFears_38 fl_X2_29 ((i30_0.2.1 _ hp.1 hp.2).trans hR) (by omega) rfl ?_
      refine aw_get dX2_readFears_41 fl_X2_57 e_10 (by omega) rfl ?_
      refine aw_eqi (y := (nI n)) ((Eq.symm (congrArg (fun z => fI z 2) e_10)).trans i30_1) ?_
      refine aw_icmp_ge (tgt := 120) dX2_readFears_44 (by decide) (fun c_11 => ?_) (fun c_11 => ?_)
      · skip
        have nc_11 : n ≤ a30 := (nI_leI (a := n) (b := a30) (by omega) (by omega)).mp c_11
        refine aw_iload_n dX2_readFears_120 rfl ?_
        have hf9 : isLt (hd g n a30) = false := (isLt_ge (by omega))
        have hne9 : a30 ≠ a := fun e => bool_tf ((stD_no c_8).symm.trans hst) (e ▸ hf9)
        refine aw_ireti dX2_readFears_121 rfl (Nat.le_of_ble_eq_true rfl) (Nat.le_of_ble_eq_true rfl) ?_
        exact ⟨Or.inr ⟨a30, _, (meant_lt c_8).trans (i30_4.symm.trans (mtF_stop hf9)), i30_2, ⟨by omega, by omega⟩, i30_6.resolve_left (fun z => hne9 z.1), rfl⟩, rfl, i30_0⟩
      · skip
        have nc_11 : ¬ (n ≤ a30) := fun z => c_11 ((nI_leI (a := n) (b := a30) (by omega) (by omega)).mpr z)
        refine aw_aload_n dX2_readFears_47 rfl ?_
        refine aw_get dX2_readFears_48 fl_X2_29 ((i30_0.2.1 _ hp.1 hp.2).trans hR) (by omega) rfl ?_
        refine aw_callVi (J' := jX10_now) (As := []) (st := []) dX2_readFears_51 tb_354 ok_X10_now ⟨_, e_10⟩ (by omega) rfl rfl (g_X10_nowS l D b N V30 hN i30_0.1 g i30_3 n a30 ⟨by omega, by omega⟩ i30_1 i30_2) rfl (Nat.le_of_ble_eq_true rfl) ⟨Nat.le_of_ble_eq_true rfl, Nat.le_of_ble_eq_true rfl, Nat.le_of_ble_eq_true rfl, Nat.le_of_ble_eq_true rfl⟩ (fun r_14 N_15 V_16 q_17 => ?_)
        obtain ⟨h_13, rfl, rfl⟩ := q_17
        refine aw_eqi (y := (hd g n a30)) h_13 ?_
        refine aw_callSi (J' := jX10_isFear) (As := [.int (hd g n a30)]) (st := []) dX2_readFears_54 tb_326 ok_X10_isFear rfl (g_X10_isFearS l D b N V30 hN i30_0.1 (hd g n a30)) rfl (Nat.le_of_ble_eq_true rfl) ⟨Nat.le_of_ble_eq_true rfl, Nat.le_of_ble_eq_true rfl, Nat.le_of_ble_eq_true rfl, Nat.le_of_ble_eq_true rfl⟩ (fun r_21 N_22 V_23 q_24 => ?_)
        obtain ⟨⟨z_20, h_19⟩, rfl, rfl⟩ := q_24
        rcases h_19 with ⟨hy_25, e_26⟩ | ⟨hn_27, e_28⟩
        · skip
          refine aw_eqi (y := 1) e_26 ?_
          have hlhy_25 := isLt_hd hy_25
          refine aw_if_eq (tgt := 120) dX2_readFears_57 (by decide) (fun c_29 => ?_) (fun c_29 => ?_)
          · exact absurd c_29 (by decide)
          refine aw_aload_n dX2_readFears_60 rfl ?_
          refine aw_get dX2_readFears_61 fl_X2_29 ((i30_0.2.1 _ hp.1 hp.2).trans hR) (by omega) rfl ?_
          refine aw_callVi (J' := jX10_now) (As := []) (st := []) dX2_readFears_64 tb_354 ok_X10_now ⟨_, e_10⟩ (by omega) rfl rfl (g_X10_nowS l D b N V30 hN i30_0.1 g i30_3 n a30 ⟨by omega, by omega⟩ i30_1 i30_2) rfl (Nat.le_of_ble_eq_true rfl) ⟨Nat.le_of_ble_eq_true rfl, Nat.le_of_ble_eq_true rfl, Nat.le_of_ble_eq_true rfl, Nat.le_of_ble_eq_true rfl⟩ (fun r_32 N_33 V_34 q_35 => ?_)
          obtain ⟨h_31, rfl, rfl⟩ := q_35
          refine aw_eqi (y := (hd g n a30)) h_31 ?_
          refine aw_bipush (v := 97) dX2_readFears_67 (by decide) ?_
          refine aw_isub dX2_readFears_69 ?_
          refine aw_istore_n (ls' := [some (.ref (b + p)), some (.int v30_1), some (.int ((hd g n a30) - 97))]) dX2_readFears_70 (Nat.le_of_ble_eq_true rfl) rfl ?_
          refine aw_iload_n dX2_readFears_71 rfl ?_
          refine aw_iload_n dX2_readFears_72 rfl ?_
          refine aw_callSNi (J' := jX11_has) (As := [.int v30_1, .int ((hd g n a30) - 97)]) (st := []) dX2_readFears_73 tb_356 ok_X11_has rfl (g_X11_hasS l D b N V30 hN i30_0.1 v30_1 ((hd g n a30) - 97) (lt_rng hy_25)) rfl (Nat.le_of_ble_eq_true rfl) ⟨Nat.le_of_ble_eq_true rfl, Nat.le_of_ble_eq_true rfl, Nat.le_of_ble_eq_true rfl, Nat.le_of_ble_eq_true rfl⟩ (fun r_39 N_40 V_41 q_42 => ?_)
          obtain ⟨⟨z_38, h_37⟩, rfl, rfl⟩ := q_42
          rcases h_37 with ⟨hy_43, e_44⟩ | ⟨hn_45, e_46⟩
          · skip
            refine aw_eqi (y := 1) e_44 ?_
            refine aw_if_eq (tgt := 98) dX2_readFears_76 (by decide) (fun c_47 => ?_) (fun c_47 => ?_)
            · exact absurd c_47 (by decide)
            refine aw_aload_n dX2_readFears_79 rfl ?_
            refine aw_get dX2_readFears_80 fl_X2_29 ((i30_0.2.1 _ hp.1 hp.2).trans hR) (by omega) rfl ?_
            refine aw_bipush (v := 6) dX2_readFears_83 (by decide) ?_
            refine aw_aload_n dX2_readFears_85 rfl ?_
            refine aw_get dX2_readFears_86 fl_X2_29 ((i30_0.2.1 _ hp.1 hp.2).trans hR) (by omega) rfl ?_
            refine aw_get dX2_readFears_89 fl_X2_40 e_10 (by omega) rfl ?_
            refine aw_eqi (y := (nI a30)) ((Eq.symm (congrArg (fun z => fI z 3) e_10)).trans i30_2) ?_
            refine aw_callVi (J' := jX10_fail) (As := [.int 6, .int (nI a30)]) (st := []) dX2_readFears_92 tb_359 ok_X10_fail ⟨_, e_10⟩ (by omega) rfl rfl (g_X10_failS l D b N V30 hN i30_0.1 6 (nI a30)) rfl (Nat.le_of_ble_eq_true rfl) ⟨Nat.le_of_ble_eq_true rfl, Nat.le_of_ble_eq_true rfl, Nat.le_of_ble_eq_true rfl, Nat.le_of_ble_eq_true rfl⟩ (fun r_53 N_54 V_52 q_55 => ?_)
            obtain ⟨⟨z_50, h_49⟩, rfl, q_48⟩ := q_55
            have j_51 := JW.trans i30_0 (JW.weak q_48 (Sub.cons LM0 (by decide) (by decide) (by decide) (Or.inr ⟨by decide, by decide⟩) Sub.nil))
            obtain ⟨rfl, h_49f⟩ := h_49
            refine aw_pop dX2_readFears_95 rfl ?_
            refine aw_iconst (v := 0) dX2_readFears_96 (by decide) ?_
            refine aw_ireti dX2_readFears_97 rfl (Nat.le_of_ble_eq_true rfl) (Nat.le_of_ble_eq_true rfl) ?_
            exact ⟨Or.inl ⟨_, (meant_lt c_8).trans (i30_4.symm.trans (mtF_twice hy_25 hy_43)), h_49f, rfl⟩, rfl, j_51⟩
          · skip
            refine aw_eqi (y := 0) e_46 ?_
            refine aw_if_eq (tgt := 98) dX2_readFears_76 (by decide) (fun c_56 => ?_) (fun c_56 => ?_)
            rotate_left
            · exact absurd (by decide) c_56
            refine aw_iload_n dX2_readFears_98 rfl ?_
            refine aw_iconst (v := 1) dX2_readFears_99 (by decide) ?_
            refine aw_iload_n dX2_readFears_100 rfl ?_
            refine aw_ishl dX2_readFears_101 ?_
            refine aw_ior dX2_readFears_102 ?_
            refine aw_istore_n (ls' := [some (.ref (b + p)), some (.int (v30_1 ||| ((1 : Int32) <<< (((hd g n a30) - 97) &&& 31)))), some (.int ((hd g n a30) - 97))]) dX2_readFears_103 (Nat.le_of_ble_eq_true rfl) rfl ?_
            refine aw_aload_n dX2_readFears_104 rfl ?_
            refine aw_get dX2_readFears_105 fl_X2_29 ((i30_0.2.1 _ hp.1 hp.2).trans hR) (by omega) rfl ?_
            refine aw_dup dX2_readFears_108 rfl ?_
            refine aw_get dX2_readFears_109 fl_X2_40 e_10 (by omega) rfl ?_
            refine aw_eqi (y := (nI a30)) ((Eq.symm (congrArg (fun z => fI z 3) e_10)).trans i30_2) ?_
            refine aw_iconst (v := 1) dX2_readFears_112 (by decide) ?_
            refine aw_iadd dX2_readFears_113 ?_
            refine aw_eqi (y := nI (a30 + 1)) (nI_add _ _) ?_
            refine aw_put dX2_readFears_114 fp_X2_40 e_10 (by omega) rfl rfl (Nat.le_of_ble_eq_true rfl) rfl ?_
            refine aw_up i30_0 ct_1 ⟨_, _, _, (a30 + 1), rfl, (by first | omega | (split <;> omega))⟩ (WO (s := 3) (x := .int (nI (a30 + 1))) e_10 rfl (LMs LM0) (by decide) (by decide) (by decide) (Or.inl (by decide))) (fun V_57 j_57 k_57 e_57 => ?_)
            refine aw_goto (tgt := 30) dX2_readFears_117 (by decide) ?_
            refine aw_le ?_ (mih_30_9 _ (by omega) (a30 + 1) (v30_1 ||| ((1 : Int32) <<< (((hd g n a30) - 97) &&& 31))) V_57 rfl (j_57) ((KA (s := 3) (x := .int (nI (a30 + 1))) e_10 rfl (by decide) e_57 k_57 i30_1)) (((congrArg (fun z => fI z 3) e_57).trans rfl)) (((k_57 _ (by decide)).trans i30_3)) ((mtF_step hy_25 hn_45).symm.trans i30_4) (⟨by omega, by omega⟩) (Or.inr (mt_ne hy_25)))
            exact ⟨rfl, ⟨rfl, trivial⟩⟩
        · skip
          refine aw_eqi (y := 0) e_28 ?_
          refine aw_if_eq (tgt := 120) dX2_readFears_57 (by decide) (fun c_58 => ?_) (fun c_58 => ?_)
          rotate_left
          · exact absurd (by decide) c_58
          refine aw_iload_n dX2_readFears_120 rfl ?_
          have hf9 : isLt (hd g n a30) = false := hn_27
          have hne9 : a30 ≠ a := fun e => bool_tf ((stD_no c_8).symm.trans hst) (e ▸ hf9)
          refine aw_ireti dX2_readFears_121 rfl (Nat.le_of_ble_eq_true rfl) (Nat.le_of_ble_eq_true rfl) ?_
          exact ⟨Or.inr ⟨a30, _, (meant_lt c_8).trans (i30_4.symm.trans (mtF_stop hf9)), i30_2, ⟨by omega, by omega⟩, i30_6.resolve_left (fun z => hne9 z.1), rfl⟩, rfl, i30_0⟩
    refine aw_le ?_ (ml_30_9 _ a 0 V rfl (hJ0) (hE) (hA) (hg) (rfl) (⟨Nat.le_refl _, by omega⟩) (Or.inl ⟨rfl, rfl⟩))
    exact ⟨rfl, ⟨rfl, trivial⟩⟩
  · skip
    have hl42 := hd_lit c_8 (by decide)
    refine aw_aload_n dX2_readFears_12 rfl ?_
    refine aw_get dX2_readFears_13 fl_X2_29 ((hJ0.2.1 _ hp.1 hp.2).trans hR) (by omega) rfl ?_
    refine aw_dup dX2_readFears_16 rfl ?_
    refine aw_get dX2_readFears_17 fl_X2_40 e_3 (by omega) rfl ?_
    refine aw_eqi (y := (nI a)) ((Eq.symm (congrArg (fun z => fI z 3) e_3)).trans hA) ?_
    refine aw_iconst (v := 1) dX2_readFears_20 (by decide) ?_
    refine aw_iadd dX2_readFears_21 ?_
    refine aw_eqi (y := nI (a + 1)) (nI_add _ _) ?_
    refine aw_put dX2_readFears_22 fp_X2_40 e_3 (by omega) rfl rfl (Nat.le_of_ble_eq_true rfl) rfl ?_
    refine aw_up hJ0 ct_1 ⟨_, _, _, (a + 1), rfl, (by first | omega | (split <;> omega))⟩ (WO (s := 3) (x := .int (nI (a + 1))) e_3 rfl (LMs LM0) (by decide) (by decide) (by decide) (Or.inl (by decide))) (fun V_59 j_59 k_59 e_59 => ?_)
    refine aw_ldc (v := 65535) dX2_readFears_25 tb_355 ?_
    refine aw_ireti dX2_readFears_27 rfl (Nat.le_of_ble_eq_true rfl) (Nat.le_of_ble_eq_true rfl) ?_
    exact ⟨Or.inr ⟨_, _, meant_star c_8, ((congrArg (fun z => fI z 3) e_59).trans rfl), ⟨by omega, by omega⟩, by decide, rfl⟩, rfl, j_59⟩

set_option maxHeartbeats 20000000 in
set_option maxRecDepth 100000 in
theorem g_X2_readLineS (l : Launch) (D : va_G) (b : Nat) (N : Nat) (V : Wd) (hN : 100 ≤ N) (hW : CW D b V) (p c : Nat) (pn : Int32) (hp : 100 ≤ p ∧ p < N) (hc : c = 3 ∨ c = 21 ∨ c = 39 ∨ c = 74) (hR : V p = cO 2 [.ref (b + 1), .ref (b + c), .int pn]) (g : Nat → Int32) (hg : V 2 = cI D 260 g) (n a : Nat) (hna : a ≤ n ∧ n ≤ 240) (hE : fI (V 1) 2 = nI n) (hA : fI (V 1) 3 = nI a) (hst : stD (hd g n a) = true) : MI l D b 3 jX2_readLine [.ref (b + p)] N V 0 0 (fun r N9 V9 => ((r = 0 ∨ r = 1) ∧ ((∃ f, lnD g n a = .inl f ∧ fI (V9 1) 4 = f ∧ r = 0) ∨ (∃ a9, lnD g n a = .inr (a9, ()) ∧ fI (V9 1) 3 = nI a9 ∧ (a < a9 ∧ a9 ≤ n) ∧ r = 1))) ∧ N = N9 ∧ JW D b N [(1, 1, 4, 4), (1, 1, 3, 3), (c, c, 5, 5), (c + 2, c + 13, 0, 1000000)] V V9) := by
  have hJ0 : JW D b N [(1, 1, 4, 4), (1, 1, 3, 3), (c, c, 5, 5), (c + 2, c + 13, 0, 1000000)] V V := JW.rf hW
  refine mw_of (by decide) (by simp [Value.category]) (Nat.le_of_ble_eq_true rfl) ?_
  show AW l D b jX2_readLine (fx_rm 3 0 0) none (fx_MQ D b 0 0 (fx_qi (fun r N9 V9 => ((r = 0 ∨ r = 1) ∧ ((∃ f, lnD g n a = .inl f ∧ fI (V9 1) 4 = f ∧ r = 0) ∨ (∃ a9, lnD g n a = .inr (a9, ()) ∧ fI (V9 1) 3 = nI a9 ∧ (a < a9 ∧ a9 ≤ n) ∧ r = 1))) ∧ N = N9 ∧ JW D b N [(1, 1, 4, 4), (1, 1, 3, 3), (c, c, 5, 5), (c + 2, c + 13, 0, 1000000)] V V9))) 0 [some (.ref (b + p)), none, none, none] [] N V 0 0
  refine aw_aload_n dX2_readLine_0 rfl ?_
  refine aw_callVi (J' := jX2_readFears) (As := []) (st := []) dX2_readLine_1 tb_349 ok_X2_readFears ⟨_, ((hJ0.2.1 _ hp.1 hp.2).trans hR)⟩ (by omega) rfl rfl (g_X2_readFearsS l D b N V hN hJ0.1 p c pn ⟨by omega, by omega⟩ hc ((hJ0.2.1 _ hp.1 hp.2).trans hR) g hg n a ⟨by omega, by omega⟩ hE hA hst) rfl (Nat.le_of_ble_eq_true rfl) ⟨Nat.le_of_ble_eq_true rfl, Nat.le_of_ble_eq_true rfl, Nat.le_of_ble_eq_true rfl, Nat.le_of_ble_eq_true rfl⟩ (fun r_5 N_6 V_4 q_7 => ?_)
  obtain ⟨h_2, rfl, q_1⟩ := q_7
  have j_3 := JW.trans hJ0 (JW.weak q_1 (Sub.cons LM0 (by decide) (by decide) (by decide) (Or.inr ⟨by decide, by decide⟩) (Sub.cons (LMs LM0) (by decide) (by decide) (by decide) (Or.inr ⟨by decide, by decide⟩) Sub.nil)))
  rcases h_2 with ⟨f_8, hx_9, hk_10, e_11⟩ | ⟨a_12, s_13, hx_14, hk_15, hb_16, hz_17, e_18⟩
  · skip
    refine aw_eqi (y := 0) e_11 ?_
    refine aw_istore_n (ls' := [some (.ref (b + p)), some (.int 0), none, none]) dX2_readLine_4 (Nat.le_of_ble_eq_true rfl) rfl ?_
    refine aw_iload_n dX2_readLine_5 rfl ?_
    refine aw_if_ne (tgt := 11) dX2_readLine_6 (by decide) (fun c_19 => ?_) (fun c_19 => ?_)
    · exact absurd rfl c_19
    refine aw_iconst (v := 0) dX2_readLine_9 (by decide) ?_
    refine aw_zreti dX2_readLine_10 rfl (by first | exact Or.inl rfl | exact Or.inr rfl | assumption) (Nat.le_of_ble_eq_true rfl) (Nat.le_of_ble_eq_true rfl) ?_
    exact ⟨⟨(by first | exact Or.inl rfl | exact Or.inr rfl | assumption), Or.inl ⟨_, lnD_m hx_9, hk_10, rfl⟩⟩, rfl, j_3⟩
  · skip
    refine aw_eqi (y := s_13) e_18 ?_
    obtain ⟨hb_16a, hb_16b⟩ := hb_16
    refine aw_istore_n (ls' := [some (.ref (b + p)), some (.int s_13), none, none]) dX2_readLine_4 (Nat.le_of_ble_eq_true rfl) rfl ?_
    refine aw_iload_n dX2_readLine_5 rfl ?_
    refine aw_if_ne (tgt := 11) dX2_readLine_6 (by decide) (fun c_20 => ?_) (fun c_20 => ?_)
    rotate_left
    · first | exact (hz_17 c_20).elim | exact (c_20 hz_17).elim
    refine aw_aload_n dX2_readLine_11 rfl ?_
    refine aw_get dX2_readLine_12 fl_X2_29 ((j_3.2.1 _ hp.1 hp.2).trans hR) (by omega) rfl ?_
    obtain ⟨ts_23, tn_23, tf_23, ta_23, e_23, hta_23⟩ := JW.get j_3 ct_1
    refine aw_callVi (J' := jX10_now) (As := []) (st := []) dX2_readLine_15 tb_354 ok_X10_now ⟨_, e_23⟩ (by omega) rfl rfl (g_X10_nowS l D b N V_4 hN j_3.1 g ((JW.same q_1 (by decide) (fun k => (nfc (by omega) (nfc (by omega) nf0)))).trans hg) n a_12 ⟨by omega, by omega⟩ ((JW.fI q_1 (by omega) (nfc (by omega) (nfc (by omega) nf0))).trans hE) hk_15) rfl (Nat.le_of_ble_eq_true rfl) ⟨Nat.le_of_ble_eq_true rfl, Nat.le_of_ble_eq_true rfl, Nat.le_of_ble_eq_true rfl, Nat.le_of_ble_eq_true rfl⟩ (fun r_24 N_25 V_26 q_27 => ?_)
    obtain ⟨h_22, rfl, rfl⟩ := q_27
    refine aw_eqi (y := (hd g n a_12)) h_22 ?_
    refine aw_istore_n (ls' := [some (.ref (b + p)), some (.int s_13), some (.int (hd g n a_12)), none]) dX2_readLine_18 (Nat.le_of_ble_eq_true rfl) rfl ?_
    refine aw_iload_n dX2_readLine_19 rfl ?_
    refine aw_bipush (v := 61) dX2_readLine_20 (by decide) ?_
    refine aw_icmp_eq (tgt := 45) dX2_readLine_22 (by decide) (fun c_28 => ?_) (fun c_28 => ?_)
    · skip
      have hlc_28 := hd_lit c_28 (by decide)
      refine aw_aload_n dX2_readLine_45 rfl ?_
      refine aw_get dX2_readLine_46 fl_X2_29 ((j_3.2.1 _ hp.1 hp.2).trans hR) (by omega) rfl ?_
      refine aw_dup dX2_readLine_49 rfl ?_
      refine aw_get dX2_readLine_50 fl_X2_40 e_23 (by omega) rfl ?_
      refine aw_eqi (y := (nI a_12)) ((Eq.symm (congrArg (fun z => fI z 3) e_23)).trans hk_15) ?_
      refine aw_iconst (v := 1) dX2_readLine_53 (by decide) ?_
      refine aw_iadd dX2_readLine_54 ?_
      refine aw_eqi (y := nI (a_12 + 1)) (nI_add _ _) ?_
      refine aw_put dX2_readLine_55 fp_X2_40 e_23 (by omega) rfl rfl (Nat.le_of_ble_eq_true rfl) rfl ?_
      refine aw_up j_3 ct_1 ⟨_, _, _, (a_12 + 1), rfl, (by first | omega | (split <;> omega))⟩ (WO (s := 3) (x := .int (nI (a_12 + 1))) e_23 rfl (LMs LM0) (by decide) (by decide) (by decide) (Or.inl (by decide))) (fun V_29 j_29 k_29 e_29 => ?_)
      refine aw_aload_n dX2_readLine_58 rfl ?_
      refine aw_get dX2_readLine_59 fl_X2_29 ((j_29.2.1 _ hp.1 hp.2).trans hR) (by omega) rfl ?_
      refine aw_iconst (v := 2) dX2_readLine_62 (by decide) ?_
      refine aw_callVi (J' := jX10_readNumber) (As := [.int 2]) (st := []) dX2_readLine_63 tb_361 ok_X10_readNumber ⟨_, e_29⟩ (by omega) rfl rfl (g_X10_readNumber_2S l D b N V_29 hN j_29.1 g ((k_29 _ (by decide)).trans ((JW.same q_1 (by decide) (fun k => (nfc (by omega) (nfc (by omega) nf0)))).trans hg)) n (a_12 + 1) ⟨by omega, by omega⟩ (KA (s := 3) (x := .int (nI (a_12 + 1))) e_23 rfl (by decide) e_29 k_29 ((JW.fI q_1 (by omega) (nfc (by omega) (nfc (by omega) nf0))).trans hE)) ((congrArg (fun z => fI z 3) e_29).trans rfl)) rfl (Nat.le_of_ble_eq_true rfl) ⟨Nat.le_of_ble_eq_true rfl, Nat.le_of_ble_eq_true rfl, Nat.le_of_ble_eq_true rfl, Nat.le_of_ble_eq_true rfl⟩ (fun r_34 N_35 V_33 q_36 => ?_)
      obtain ⟨h_31, rfl, q_30⟩ := q_36
      have j_32 := JW.trans j_29 (JW.weak q_30 (Sub.cons (LMs LM0) (by decide) (by decide) (by decide) (Or.inr ⟨by decide, by decide⟩) (Sub.cons LM0 (by decide) (by decide) (by decide) (Or.inr ⟨by decide, by decide⟩) Sub.nil)))
      rcases h_31 with ⟨f_37, hx_38, hk_39, e_40⟩ | ⟨a_41, v_42, hx_43, hk_44, hb_45, e_46⟩
      · skip
        refine aw_eqi (y := (-1)) e_40 ?_
        refine aw_istore_n (ls' := [some (.ref (b + p)), some (.int s_13), some (.int (hd g n a_12)), some (.int (-1))]) dX2_readLine_66 (Nat.le_of_ble_eq_true rfl) rfl ?_
        refine aw_iload_n dX2_readLine_67 rfl ?_
        refine aw_if_ge (tgt := 73) dX2_readLine_68 (by decide) (fun c_47 => ?_) (fun c_47 => ?_)
        · exact absurd c_47 (by decide)
        refine aw_iconst (v := 0) dX2_readLine_71 (by decide) ?_
        refine aw_zreti dX2_readLine_72 rfl (by first | exact Or.inl rfl | exact Or.inr rfl | assumption) (Nat.le_of_ble_eq_true rfl) (Nat.le_of_ble_eq_true rfl) ?_
        exact ⟨⟨(by first | exact Or.inl rfl | exact Or.inr rfl | assumption), Or.inl ⟨_, lnD_n hx_14 (sgD_t (Or.inl c_28)) hx_38, hk_39, rfl⟩⟩, rfl, j_32⟩
      · skip
        refine aw_eqi (y := (nI v_42)) e_46 ?_
        obtain ⟨hb_45a, hb_45b, hb_45c⟩ := hb_45
        refine aw_istore_n (ls' := [some (.ref (b + p)), some (.int s_13), some (.int (hd g n a_12)), some (.int (nI v_42))]) dX2_readLine_66 (Nat.le_of_ble_eq_true rfl) rfl ?_
        refine aw_iload_n dX2_readLine_67 rfl ?_
        refine aw_if_ge (tgt := 73) dX2_readLine_68 (by decide) (fun c_48 => ?_) (fun c_48 => ?_)
        rotate_left
        · have nc_48 : ¬ (0 ≤ v_42) := fun z => c_48 ((nI_leI (a := 0) (b := v_42) (by omega) (by omega)).mpr z)
          omega
        have nc_48 : 0 ≤ v_42 := (nI_leI (a := 0) (b := v_42) (by omega) (by omega)).mp c_48
        refine aw_aload_n dX2_readLine_73 rfl ?_
        refine aw_get dX2_readLine_74 fl_X2_9 ((j_32.2.1 _ hp.1 hp.2).trans hR) (by omega) rfl ?_
        refine aw_dup dX2_readLine_77 rfl ?_
        obtain ⟨pe_49, dd_49, ni_49, xx_49, e_49⟩ := JW.get j_32 (ctc_0 hc)
        refine aw_get dX2_readLine_78 fl_X2_47 e_49 (by omega) rfl ?_
        refine aw_iconst (v := 1) dX2_readLine_81 (by decide) ?_
        refine aw_aload_n dX2_readLine_82 rfl ?_
        refine aw_get dX2_readLine_83 fl_X2_15 ((j_32.2.1 _ hp.1 hp.2).trans hR) (by omega) rfl ?_
        refine aw_ishl dX2_readLine_86 ?_
        refine aw_ior dX2_readLine_87 ?_
        refine aw_put dX2_readLine_88 fp_X2_47 e_49 (by omega) rfl rfl (Nat.le_of_ble_eq_true rfl) rfl ?_
        refine aw_up j_32 (ctc_0 hc) ⟨_, _, _, _, rfl⟩ (WO (s := 5) (x := .int (pe_49 ||| ((1 : Int32) <<< (pn &&& 31)))) e_49 rfl (LMs (LMs LM0)) (by omega) (by omega) (by decide) (Or.inl (by decide))) (fun V_50 j_50 k_50 e_50 => ?_)
        refine aw_aload_n dX2_readLine_91 rfl ?_
        refine aw_iload_n dX2_readLine_92 rfl ?_
        refine aw_iload_n dX2_readLine_93 rfl ?_
        refine aw_iload_n dX2_readLine_94 rfl ?_
        refine aw_callVv (J' := jX2_change) (As := [.int s_13, .int (hd g n a_12), .int (nI v_42)]) (st := []) dX2_readLine_95 tb_366 ok_X2_change ⟨_, ((j_50.2.1 _ hp.1 hp.2).trans hR)⟩ (by omega) rfl rfl (g_X2_change l D b N V_50 hN j_50.1 p c pn ⟨by omega, by omega⟩ hc ((j_50.2.1 _ hp.1 hp.2).trans hR) s_13 (hd g n a_12) (nI v_42)) rfl (Nat.le_of_ble_eq_true rfl) ⟨Nat.le_of_ble_eq_true rfl, Nat.le_of_ble_eq_true rfl, Nat.le_of_ble_eq_true rfl, Nat.le_of_ble_eq_true rfl⟩ (fun  N_54 V_53 q_55 => ?_)
        obtain ⟨rfl, q_51⟩ := q_55
        have j_52 := JW.trans j_50 (JW.weak q_51 (Sub.cons (LMs (LMs (LMs LM0))) (by omega) (by omega) (by decide) (Or.inl rfl) Sub.nil))
        refine aw_iconst (v := 1) dX2_readLine_98 (by decide) ?_
        refine aw_zreti dX2_readLine_99 rfl (by first | exact Or.inl rfl | exact Or.inr rfl | assumption) (Nat.le_of_ble_eq_true rfl) (Nat.le_of_ble_eq_true rfl) ?_
        exact ⟨⟨(by first | exact Or.inl rfl | exact Or.inr rfl | assumption), Or.inr ⟨_, lnD_ok hx_14 (sgD_t (Or.inl c_28)) hx_43, ((JW.fI q_51 (by omega) (nfc (by omega) nf0)).trans (KA (s := 5) (x := .int (pe_49 ||| ((1 : Int32) <<< (pn &&& 31)))) e_49 rfl (by decide) e_50 k_50 hk_44)), ⟨by omega, by omega⟩, rfl⟩⟩, rfl, j_52⟩
    · skip
      refine aw_iload_n dX2_readLine_25 rfl ?_
      refine aw_bipush (v := 43) dX2_readLine_26 (by decide) ?_
      refine aw_icmp_eq (tgt := 45) dX2_readLine_28 (by decide) (fun c_56 => ?_) (fun c_56 => ?_)
      · skip
        have hlc_56 := hd_lit c_56 (by decide)
        refine aw_aload_n dX2_readLine_45 rfl ?_
        refine aw_get dX2_readLine_46 fl_X2_29 ((j_3.2.1 _ hp.1 hp.2).trans hR) (by omega) rfl ?_
        refine aw_dup dX2_readLine_49 rfl ?_
        refine aw_get dX2_readLine_50 fl_X2_40 e_23 (by omega) rfl ?_
        refine aw_eqi (y := (nI a_12)) ((Eq.symm (congrArg (fun z => fI z 3) e_23)).trans hk_15) ?_
        refine aw_iconst (v := 1) dX2_readLine_53 (by decide) ?_
        refine aw_iadd dX2_readLine_54 ?_
        refine aw_eqi (y := nI (a_12 + 1)) (nI_add _ _) ?_
        refine aw_put dX2_readLine_55 fp_X2_40 e_23 (by omega) rfl rfl (Nat.le_of_ble_eq_true rfl) rfl ?_
        refine aw_up j_3 ct_1 ⟨_, _, _, (a_12 + 1), rfl, (by first | omega | (split <;> omega))⟩ (WO (s := 3) (x := .int (nI (a_12 + 1))) e_23 rfl (LMs LM0) (by decide) (by decide) (by decide) (Or.inl (by decide))) (fun V_57 j_57 k_57 e_57 => ?_)
        refine aw_aload_n dX2_readLine_58 rfl ?_
        refine aw_get dX2_readLine_59 fl_X2_29 ((j_57.2.1 _ hp.1 hp.2).trans hR) (by omega) rfl ?_
        refine aw_iconst (v := 2) dX2_readLine_62 (by decide) ?_
        refine aw_callVi (J' := jX10_readNumber) (As := [.int 2]) (st := []) dX2_readLine_63 tb_361 ok_X10_readNumber ⟨_, e_57⟩ (by omega) rfl rfl (g_X10_readNumber_2S l D b N V_57 hN j_57.1 g ((k_57 _ (by decide)).trans ((JW.same q_1 (by decide) (fun k => (nfc (by omega) (nfc (by omega) nf0)))).trans hg)) n (a_12 + 1) ⟨by omega, by omega⟩ (KA (s := 3) (x := .int (nI (a_12 + 1))) e_23 rfl (by decide) e_57 k_57 ((JW.fI q_1 (by omega) (nfc (by omega) (nfc (by omega) nf0))).trans hE)) ((congrArg (fun z => fI z 3) e_57).trans rfl)) rfl (Nat.le_of_ble_eq_true rfl) ⟨Nat.le_of_ble_eq_true rfl, Nat.le_of_ble_eq_true rfl, Nat.le_of_ble_eq_true rfl, Nat.le_of_ble_eq_true rfl⟩ (fun r_62 N_63 V_61 q_64 => ?_)
        obtain ⟨h_59, rfl, q_58⟩ := q_64
        have j_60 := JW.trans j_57 (JW.weak q_58 (Sub.cons (LMs LM0) (by decide) (by decide) (by decide) (Or.inr ⟨by decide, by decide⟩) (Sub.cons LM0 (by decide) (by decide) (by decide) (Or.inr ⟨by decide, by decide⟩) Sub.nil)))
        rcases h_59 with ⟨f_65, hx_66, hk_67, e_68⟩ | ⟨a_69, v_70, hx_71, hk_72, hb_73, e_74⟩
        · skip
          refine aw_eqi (y := (-1)) e_68 ?_
          refine aw_istore_n (ls' := [some (.ref (b + p)), some (.int s_13), some (.int (hd g n a_12)), some (.int (-1))]) dX2_readLine_66 (Nat.le_of_ble_eq_true rfl) rfl ?_
          refine aw_iload_n dX2_readLine_67 rfl ?_
          refine aw_if_ge (tgt := 73) dX2_readLine_68 (by decide) (fun c_75 => ?_) (fun c_75 => ?_)
          · exact absurd c_75 (by decide)
          refine aw_iconst (v := 0) dX2_readLine_71 (by decide) ?_
          refine aw_zreti dX2_readLine_72 rfl (by first | exact Or.inl rfl | exact Or.inr rfl | assumption) (Nat.le_of_ble_eq_true rfl) (Nat.le_of_ble_eq_true rfl) ?_
          exact ⟨⟨(by first | exact Or.inl rfl | exact Or.inr rfl | assumption), Or.inl ⟨_, lnD_n hx_14 (sgD_t (Or.inr (Or.inl c_56))) hx_66, hk_67, rfl⟩⟩, rfl, j_60⟩
        · skip
          refine aw_eqi (y := (nI v_70)) e_74 ?_
          obtain ⟨hb_73a, hb_73b, hb_73c⟩ := hb_73
          refine aw_istore_n (ls' := [some (.ref (b + p)), some (.int s_13), some (.int (hd g n a_12)), some (.int (nI v_70))]) dX2_readLine_66 (Nat.le_of_ble_eq_true rfl) rfl ?_
          refine aw_iload_n dX2_readLine_67 rfl ?_
          refine aw_if_ge (tgt := 73) dX2_readLine_68 (by decide) (fun c_76 => ?_) (fun c_76 => ?_)
          rotate_left
          · have nc_76 : ¬ (0 ≤ v_70) := fun z => c_76 ((nI_leI (a := 0) (b := v_70) (by omega) (by omega)).mpr z)
            omega
          have nc_76 : 0 ≤ v_70 := (nI_leI (a := 0) (b := v_70) (by omega) (by omega)).mp c_76
          refine aw_aload_n dX2_readLine_73 rfl ?_
          refine aw_get dX2_readLine_74 fl_X2_9 ((j_60.2.1 _ hp.1 hp.2).trans hR) (by omega) rfl ?_
          refine aw_dup dX2_readLine_77 rfl ?_
          obtain ⟨pe_77, dd_77, ni_77, xx_77, e_77⟩ := JW.get j_60 (ctc_0 hc)
          refine aw_get dX2_readLine_78 fl_X2_47 e_77 (by omega) rfl ?_
          refine aw_iconst (v := 1) dX2_readLine_81 (by decide) ?_
          refine aw_aload_n dX2_readLine_82 rfl ?_
          refine aw_get dX2_readLine_83 fl_X2_15 ((j_60.2.1 _ hp.1 hp.2).trans hR) (by omega) rfl ?_
          refine aw_ishl dX2_readLine_86 ?_
          refine aw_ior dX2_readLine_87 ?_
          refine aw_put dX2_readLine_88 fp_X2_47 e_77 (by omega) rfl rfl (Nat.le_of_ble_eq_true rfl) rfl ?_
          refine aw_up j_60 (ctc_0 hc) ⟨_, _, _, _, rfl⟩ (WO (s := 5) (x := .int (pe_77 ||| ((1 : Int32) <<< (pn &&& 31)))) e_77 rfl (LMs (LMs LM0)) (by omega) (by omega) (by decide) (Or.inl (by decide))) (fun V_78 j_78 k_78 e_78 => ?_)
          refine aw_aload_n dX2_readLine_91 rfl ?_
          refine aw_iload_n dX2_readLine_92 rfl ?_
          refine aw_iload_n dX2_readLine_93 rfl ?_
          refine aw_iload_n dX2_readLine_94 rfl ?_
          refine aw_callVv (J' := jX2_change) (As := [.int s_13, .int (hd g n a_12), .int (nI v_70)]) (st := []) dX2_readLine_95 tb_366 ok_X2_change ⟨_, ((j_78.2.1 _ hp.1 hp.2).trans hR)⟩ (by omega) rfl rfl (g_X2_change l D b N V_78 hN j_78.1 p c pn ⟨by omega, by omega⟩ hc ((j_78.2.1 _ hp.1 hp.2).trans hR) s_13 (hd g n a_12) (nI v_70)) rfl (Nat.le_of_ble_eq_true rfl) ⟨Nat.le_of_ble_eq_true rfl, Nat.le_of_ble_eq_true rfl, Nat.le_of_ble_eq_true rfl, Nat.le_of_ble_eq_true rfl⟩ (fun  N_82 V_81 q_83 => ?_)
          obtain ⟨rfl, q_79⟩ := q_83
          have j_80 := JW.trans j_78 (JW.weak q_79 (Sub.cons (LMs (LMs (LMs LM0))) (by omega) (by omega) (by decide) (Or.inl rfl) Sub.nil))
          refine aw_iconst (v := 1) dX2_readLine_98 (by decide) ?_
          refine aw_zreti dX2_readLine_99 rfl (by first | exact Or.inl rfl | exact Or.inr rfl | assumption) (Nat.le_of_ble_eq_true rfl) (Nat.le_of_ble_eq_true rfl) ?_
          exact ⟨⟨(by first | exact Or.inl rfl | exact Or.inr rfl | assumption), Or.inr ⟨_, lnD_ok hx_14 (sgD_t (Or.inr (Or.inl c_56))) hx_71, ((JW.fI q_79 (by omega) (nfc (by omega) nf0)).trans (KA (s := 5) (x := .int (pe_77 ||| ((1 : Int32) <<< (pn &&& 31)))) e_77 rfl (by decide) e_78 k_78 hk_72)), ⟨by omega, by omega⟩, rfl⟩⟩, rfl, j_80⟩
      · skip
        refine aw_iload_n dX2_readLine_31 rfl ?_
        refine aw_bipush (v := 45) dX2_readLine_32 (by decide) ?_
        refine aw_icmp_eq (tgt := 45) dX2_readLine_34 (by decide) (fun c_84 => ?_) (fun c_84 => ?_)
        · skip
          have hlc_84 := hd_lit c_84 (by decide)
          refine aw_aload_n dX2_readLine_45 rfl ?_
          refine aw_get dX2_readLine_46 fl_X2_29 ((j_3.2.1 _ hp.1 hp.2).trans hR) (by omega) rfl ?_
          refine aw_dup dX2_readLine_49 rfl ?_
          refine aw_get dX2_readLine_50 fl_X2_40 e_23 (by omega) rfl ?_
          refine aw_eqi (y := (nI a_12)) ((Eq.symm (congrArg (fun z => fI z 3) e_23)).trans hk_15) ?_
          refine aw_iconst (v := 1) dX2_readLine_53 (by decide) ?_
          refine aw_iadd dX2_readLine_54 ?_
          refine aw_eqi (y := nI (a_12 + 1)) (nI_add _ _) ?_
          refine aw_put dX2_readLine_55 fp_X2_40 e_23 (by omega) rfl rfl (Nat.le_of_ble_eq_true rfl) rfl ?_
          refine aw_up j_3 ct_1 ⟨_, _, _, (a_12 + 1), rfl, (by first | omega | (split <;> omega))⟩ (WO (s := 3) (x := .int (nI (a_12 + 1))) e_23 rfl (LMs LM0) (by decide) (by decide) (by decide) (Or.inl (by decide))) (fun V_85 j_85 k_85 e_85 => ?_)
          refine aw_aload_n dX2_readLine_58 rfl ?_
          refine aw_get dX2_readLine_59 fl_X2_29 ((j_85.2.1 _ hp.1 hp.2).trans hR) (by omega) rfl ?_
          refine aw_iconst (v := 2) dX2_readLine_62 (by decide) ?_
          refine aw_callVi (J' := jX10_readNumber) (As := [.int 2]) (st := []) dX2_readLine_63 tb_361 ok_X10_readNumber ⟨_, e_85⟩ (by omega) rfl rfl (g_X10_readNumber_2S l D b N V_85 hN j_85.1 g ((k_85 _ (by decide)).trans ((JW.same q_1 (by decide) (fun k => (nfc (by omega) (nfc (by omega) nf0)))).trans hg)) n (a_12 + 1) ⟨by omega, by omega⟩ (KA (s := 3) (x := .int (nI (a_12 + 1))) e_23 rfl (by decide) e_85 k_85 ((JW.fI q_1 (by omega) (nfc (by omega) (nfc (by omega) nf0))).trans hE)) ((congrArg (fun z => fI z 3) e_85).trans rfl)) rfl (Nat.le_of_ble_eq_true rfl) ⟨Nat.le_of_ble_eq_true rfl, Nat.le_of_ble_eq_true rfl, Nat.le_of_ble_eq_true rfl, Nat.le_of_ble_eq_true rfl⟩ (fun r_90 N_91 V_89 q_92 => ?_)
          obtain ⟨h_87, rfl, q_86⟩ := q_92
          have j_88 := JW.trans j_85 (JW.weak q_86 (Sub.cons (LMs LM0) (by decide) (by decide) (by decide) (Or.inr ⟨by decide, by decide⟩) (Sub.cons LM0 (by decide) (by decide) (by decide) (Or.inr ⟨by decide, by decide⟩) Sub.nil)))
          rcases h_87 with ⟨f_93, hx_94, hk_95, e_96⟩ | ⟨a_97, v_98, hx_99, hk_100, hb_101, e_102⟩
          · skip
            refine aw_eqi (y := (-1)) e_96 ?_
            refine aw_istore_n (ls' := [some (.ref (b + p)), some (.int s_13), some (.int (hd g n a_12)), some (.int (-1))]) dX2_readLine_66 (Nat.le_of_ble_eq_true rfl) rfl ?_
            refine aw_iload_n dX2_readLine_67 rfl ?_
            refine aw_if_ge (tgt := 73) dX2_readLine_68 (by decide) (fun c_103 => ?_) (fun c_103 => ?_)
            · exact absurd c_103 (by decide)
            refine aw_iconst (v := 0) dX2_readLine_71 (by decide) ?_
            refine aw_zreti dX2_readLine_72 rfl (by first | exact Or.inl rfl | exact Or.inr rfl | assumption) (Nat.le_of_ble_eq_true rfl) (Nat.le_of_ble_eq_true rfl) ?_
            exact ⟨⟨(by first | exact Or.inl rfl | exact Or.inr rfl | assumption), Or.inl ⟨_, lnD_n hx_14 (sgD_t (Or.inr (Or.inr c_84))) hx_94, hk_95, rfl⟩⟩, rfl, j_88⟩
          · skip
            refine aw_eqi (y := (nI v_98)) e_102 ?_
            obtain ⟨hb_101a, hb_101b, hb_101c⟩ := hb_101
            refine aw_istore_n (ls' := [some (.ref (b + p)), some (.int s_13), some (.int (hd g n a_12)), some (.int (nI v_98))]) dX2_readLine_66 (Nat.le_of_ble_eq_true rfl) rfl ?_
            refine aw_iload_n dX2_readLine_67 rfl ?_
            refine aw_if_ge (tgt := 73) dX2_readLine_68 (by decide) (fun c_104 => ?_) (fun c_104 => ?_)
            rotate_left
            · have nc_104 : ¬ (0 ≤ v_98) := fun z => c_104 ((nI_leI (a := 0) (b := v_98) (by omega) (by omega)).mpr z)
              omega
            have nc_104 : 0 ≤ v_98 := (nI_leI (a := 0) (b := v_98) (by omega) (by omega)).mp c_104
            refine aw_aload_n dX2_readLine_73 rfl ?_
            refine aw_get dX2_readLine_74 fl_X2_9 ((j_88.2.1 _ hp.1 hp.2).trans hR) (by omega) rfl ?_
            refine aw_dup dX2_readLine_77 rfl ?_
            obtain ⟨pe_105, dd_105, ni_105, xx_105, e_105⟩ := JW.get j_88 (ctc_0 hc)
            refine aw_get dX2_readLine_78 fl_X2_47 e_105 (by omega) rfl ?_
            refine aw_iconst (v := 1) dX2_readLine_81 (by decide) ?_
            refine aw_aload_n dX2_readLine_82 rfl ?_
            refine aw_get dX2_readLine_83 fl_X2_15 ((j_88.2.1 _ hp.1 hp.2).trans hR) (by omega) rfl ?_
            refine aw_ishl dX2_readLine_86 ?_
            refine aw_ior dX2_readLine_87 ?_
            refine aw_put dX2_readLine_88 fp_X2_47 e_105 (by omega) rfl rfl (Nat.le_of_ble_eq_true rfl) rfl ?_
            refine aw_up j_88 (ctc_0 hc) ⟨_, _, _, _, rfl⟩ (WO (s := 5) (x := .int (pe_105 ||| ((1 : Int32) <<< (pn &&& 31)))) e_105 rfl (LMs (LMs LM0)) (by omega) (by omega) (by decide) (Or.inl (by decide))) (fun V_106 j_106 k_106 e_106 => ?_)
            refine aw_aload_n dX2_readLine_91 rfl ?_
            refine aw_iload_n dX2_readLine_92 rfl ?_
            refine aw_iload_n dX2_readLine_93 rfl ?_
            refine aw_iload_n dX2_readLine_94 rfl ?_
            refine aw_callVv (J' := jX2_change) (As := [.int s_13, .int (hd g n a_12), .int (nI v_98)]) (st := []) dX2_readLine_95 tb_366 ok_X2_change ⟨_, ((j_106.2.1 _ hp.1 hp.2).trans hR)⟩ (by omega) rfl rfl (g_X2_change l D b N V_106 hN j_106.1 p c pn ⟨by omega, by omega⟩ hc ((j_106.2.1 _ hp.1 hp.2).trans hR) s_13 (hd g n a_12) (nI v_98)) rfl (Nat.le_of_ble_eq_true rfl) ⟨Nat.le_of_ble_eq_true rfl, Nat.le_of_ble_eq_true rfl, Nat.le_of_ble_eq_true rfl, Nat.le_of_ble_eq_true rfl⟩ (fun  N_110 V_109 q_111 => ?_)
            obtain ⟨rfl, q_107⟩ := q_111
            have j_108 := JW.trans j_106 (JW.weak q_107 (Sub.cons (LMs (LMs (LMs LM0))) (by omega) (by omega) (by decide) (Or.inl rfl) Sub.nil))
            refine aw_iconst (v := 1) dX2_readLine_98 (by decide) ?_
            refine aw_zreti dX2_readLine_99 rfl (by first | exact Or.inl rfl | exact Or.inr rfl | assumption) (Nat.le_of_ble_eq_true rfl) (Nat.le_of_ble_eq_true rfl) ?_
            exact ⟨⟨(by first | exact Or.inl rfl | exact Or.inr rfl | assumption), Or.inr ⟨_, lnD_ok hx_14 (sgD_t (Or.inr (Or.inr c_84))) hx_99, ((JW.fI q_107 (by omega) (nfc (by omega) nf0)).trans (KA (s := 5) (x := .int (pe_105 ||| ((1 : Int32) <<< (pn &&& 31)))) e_105 rfl (by decide) e_106 k_106 hk_100)), ⟨by omega, by omega⟩, rfl⟩⟩, rfl, j_108⟩
        · skip
          refine aw_aload_n dX2_readLine_37 rfl ?_
          refine aw_get dX2_readLine_38 fl_X2_29 ((j_3.2.1 _ hp.1 hp.2).trans hR) (by omega) rfl ?_
          refine aw_callVi (J' := jX10_cannotStand) (As := []) (st := []) dX2_readLine_41 tb_360 ok_X10_cannotStand ⟨_, e_23⟩ (by omega) rfl rfl (g_X10_cannotStandS l D b N V_4 hN j_3.1 g ((JW.same q_1 (by decide) (fun k => (nfc (by omega) (nfc (by omega) nf0)))).trans hg) n a_12 ⟨by omega, by omega⟩ ((JW.fI q_1 (by omega) (nfc (by omega) (nfc (by omega) nf0))).trans hE) hk_15) rfl (Nat.le_of_ble_eq_true rfl) ⟨Nat.le_of_ble_eq_true rfl, Nat.le_of_ble_eq_true rfl, Nat.le_of_ble_eq_true rfl, Nat.le_of_ble_eq_true rfl⟩ (fun r_117 N_118 V_116 q_119 => ?_)
          obtain ⟨⟨z_114, h_113⟩, rfl, q_112⟩ := q_119
          have j_115 := JW.trans j_3 (JW.weak q_112 (Sub.cons LM0 (by decide) (by decide) (by decide) (Or.inr ⟨by decide, by decide⟩) Sub.nil))
          obtain ⟨rfl, h_113f⟩ := h_113
          refine aw_zreti dX2_readLine_44 rfl (by first | exact Or.inl rfl | exact Or.inr rfl | assumption) (Nat.le_of_ble_eq_true rfl) (Nat.le_of_ble_eq_true rfl) ?_
          exact ⟨⟨(by first | exact Or.inl rfl | exact Or.inr rfl | assumption), Or.inl ⟨_, lnD_s hx_14 (sgD_f c_28 c_56 c_84), h_113f, rfl⟩⟩, rfl, j_115⟩

set_option maxHeartbeats 4000000 in
set_option maxRecDepth 100000 in
theorem g_X2_startsLineS (l : Launch) (D : va_G) (b : Nat) (N : Nat) (V : Wd) (hN : 100 ≤ N) (hW : CW D b V) (p c : Nat) (pn : Int32) (hp : 100 ≤ p ∧ p < N) (hc : c = 3 ∨ c = 21 ∨ c = 39 ∨ c = 74) (hR : V p = cO 2 [.ref (b + 1), .ref (b + c), .int pn]) (n0 : Int32)  : MI l D b 1 jX2_startsLine [.ref (b + p), .int n0] N V 0 0 (fun r N9 V9 => ((r = 0 ∨ r = 1) ∧ ((stD n0 = true ∧ r = 1) ∨ (stD n0 = false ∧ r = 0))) ∧ N = N9 ∧ V = V9) := by
  have hJ0 : JW D b N [] V V := JW.rf hW
  refine mw_of (by decide) (by simp [Value.category]) (Nat.le_of_ble_eq_true rfl) ?_
  show AW l D b jX2_startsLine (fx_rm 1 0 0) none (fx_MQ D b 0 0 (fx_qi (fun r N9 V9 => ((r = 0 ∨ r = 1) ∧ ((stD n0 = true ∧ r = 1) ∨ (stD n0 = false ∧ r = 0))) ∧ N = N9 ∧ V = V9))) 0 [some (.ref (b + p)), some (.int n0)] [] N V 0 0
  refine aw_iload_n dX2_startsLine_0 rfl ?_
  refine aw_bipush (v := 42) dX2_startsLine_1 (by decide) ?_
  refine aw_icmp_eq (tgt := 13) dX2_startsLine_3 (by decide) (fun c_1 => ?_) (fun c_1 => ?_)
  · skip
    refine aw_iconst (v := 1) dX2_startsLine_13 (by decide) ?_
    refine aw_goto (tgt := 18) dX2_startsLine_14 (by decide) ?_
    refine aw_zreti dX2_startsLine_18 rfl (by first | exact Or.inl rfl | exact Or.inr rfl | assumption) (Nat.le_of_ble_eq_true rfl) (Nat.le_of_ble_eq_true rfl) ?_
    exact ⟨⟨(by first | exact Or.inl rfl | exact Or.inr rfl | assumption), Or.inl ⟨stD_42 c_1, rfl⟩⟩, rfl, rfl⟩
  · skip
    refine aw_iload_n dX2_startsLine_6 rfl ?_
    refine aw_callSi (J' := jX10_isFear) (As := [.int n0]) (st := []) dX2_startsLine_7 tb_326 ok_X10_isFear rfl (g_X10_isFearS l D b N V hN hJ0.1 n0) rfl (Nat.le_of_ble_eq_true rfl) ⟨Nat.le_of_ble_eq_true rfl, Nat.le_of_ble_eq_true rfl, Nat.le_of_ble_eq_true rfl, Nat.le_of_ble_eq_true rfl⟩ (fun r_5 N_6 V_7 q_8 => ?_)
    obtain ⟨⟨z_4, h_3⟩, rfl, rfl⟩ := q_8
    rcases h_3 with ⟨hy_9, e_10⟩ | ⟨hn_11, e_12⟩
    · skip
      refine aw_eqi (y := 1) e_10 ?_
      refine aw_if_eq (tgt := 17) dX2_startsLine_10 (by decide) (fun c_13 => ?_) (fun c_13 => ?_)
      · exact absurd c_13 (by decide)
      refine aw_iconst (v := 1) dX2_startsLine_13 (by decide) ?_
      refine aw_goto (tgt := 18) dX2_startsLine_14 (by decide) ?_
      refine aw_zreti dX2_startsLine_18 rfl (by first | exact Or.inl rfl | exact Or.inr rfl | assumption) (Nat.le_of_ble_eq_true rfl) (Nat.le_of_ble_eq_true rfl) ?_
      exact ⟨⟨(by first | exact Or.inl rfl | exact Or.inr rfl | assumption), Or.inl ⟨(stD_no c_1).trans hy_9, rfl⟩⟩, rfl, rfl⟩
    · skip
      refine aw_eqi (y := 0) e_12 ?_
      refine aw_if_eq (tgt := 17) dX2_startsLine_10 (by decide) (fun c_14 => ?_) (fun c_14 => ?_)
      rotate_left
      · exact absurd (by decide) c_14
      refine aw_iconst (v := 0) dX2_startsLine_17 (by decide) ?_
      refine aw_zreti dX2_startsLine_18 rfl (by first | exact Or.inl rfl | exact Or.inr rfl | assumption) (Nat.le_of_ble_eq_true rfl) (Nat.le_of_ble_eq_true rfl) ?_
      exact ⟨⟨(by first | exact Or.inl rfl | exact Or.inr rfl | assumption), Or.inr ⟨(stD_no c_1).trans hn_11, rfl⟩⟩, rfl, rfl⟩

set_option maxHeartbeats 20000000 in
set_option maxRecDepth 100000 in
theorem g_X6_readLines_DS (l : Launch) (D : va_G) (b : Nat) (N : Nat) (V : Wd) (hN : 100 ≤ N) (hW : CW D b V) (p c : Nat) (pn : Int32) (hp : 100 ≤ p ∧ p < N) (hc : c = 3 ∨ c = 21 ∨ c = 39 ∨ c = 74) (hR : V p = cO 2 [.ref (b + 1), .ref (b + c), .int pn]) (g : Nat → Int32) (hg : V 2 = cI D 260 g) (n a : Nat) (hna : a ≤ n ∧ n ≤ 240) (hE : fI (V 1) 2 = nI n) (hA : fI (V 1) 3 = nI a) : MI l D b 4 jX6_readLines [.ref (b + p), .int 20] N V 0 0 (fun r N9 V9 => (r = cod (txD g n 20 a)) ∧ N = N9 ∧ JW D b N [(1, 1, 4, 4), (1, 1, 3, 3), (c, c, 5, 5), (c + 2, c + 13, 0, 1000000)] V V9) := by
  have hJ0 : JW D b N [(1, 1, 4, 4), (1, 1, 3, 3), (c, c, 5, 5), (c + 2, c + 13, 0, 1000000)] V V := JW.rf hW
  refine mw_of (by decide) (by simp [Value.category]) (Nat.le_of_ble_eq_true rfl) ?_
  show AW l D b jX6_readLines (fx_rm 4 0 0) none (fx_MQ D b 0 0 (fx_qi (fun r N9 V9 => (r = cod (txD g n 20 a)) ∧ N = N9 ∧ JW D b N [(1, 1, 4, 4), (1, 1, 3, 3), (c, c, 5, 5), (c + 2, c + 13, 0, 1000000)] V V9))) 0 [some (.ref (b + p)), some (.int 20), none] [] N V 0 0
  refine aw_iconst (v := 0) dX6_readLines_0 (by decide) ?_
  refine aw_istore_n (ls' := [some (.ref (b + p)), some (.int 20), some (.int 0)]) dX6_readLines_1 (Nat.le_of_ble_eq_true rfl) rfl ?_
  have ml_2_1 : ∀ (m : Nat) (a2 : Nat) (j2 : Nat) (V2 : Wd), m = 21 - j2 → (JW D b N [(1, 1, 4, 4), (1, 1, 3, 3), (c, c, 5, 5), (c + 2, c + 13, 0, 1000000)] V V2) → (fI (V2 1) 2 = nI n) → (fI (V2 1) 3 = nI a2) → (V2 2 = cI D 260 g) → ((j2 = 0 ∧ a2 = a) ∨ (0 < j2 ∧ afD g n (20 - j2) a2 = txD g n 20 a)) → (j2 ≤ 20 ∧ a ≤ a2 ∧ a2 ≤ n) → AW l D b jX6_readLines (fx_rm 4 0 0) none (fx_MQ D b 0 0 (fx_qi (fun r N9 V9 => (r = cod (txD g n 20 a)) ∧ N = N9 ∧ JW D b N [(1, 1, 4, 4), (1, 1, 3, 3), (c, c, 5, 5), (c + 2, c + 13, 0, 1000000)] V V9))) 2 [some (.ref (b + p)), some (.int 20), some (.int (nI j2))] [] N V2 0 0 := by
    intro m; refine Nat.strongRecOn m ?_
    intro m mih_2_1 a2 j2 V2 hm2 i2_0 i2_1 i2_2 i2_3 i2_4 i2_5
    refine aw_iload_n dX6_readLines_2 rfl ?_
    refine aw_iload_n dX6_readLines_3 rfl ?_
    refine aw_icmp_gt (tgt := 130) dX6_readLines_4 (by decide) (fun c_2 => ?_) (fun c_2 => ?_)
    · have nc_2 : 20 < j2 := (nI_ltI (a := 20) (b := j2) (by omega) (by omega)).mp c_2
      omega
    have nc_2 : ¬ (20 < j2) := fun z => c_2 ((nI_ltI (a := 20) (b := j2) (by omega) (by omega)).mpr z)
    refine aw_iload_n dX6_readLines_7 rfl ?_
    refine aw_if_le (tgt := 50) dX6_readLines_8 (by decide) (fun c_3 => ?_) (fun c_3 => ?_)
    · skip
      have nc_3 : j2 ≤ 0 := (nI_leI (a := j2) (b := 0) (by omega) (by omega)).mp c_3
      have hT : txD g n (20 - j2) a2 = txD g n 20 a := by obtain ⟨e1, e2⟩ := (i2_4).resolve_right (fun z => by omega); rw [e1, e2]
      refine aw_aload_n dX6_readLines_50 rfl ?_
      refine aw_aload_n dX6_readLines_51 rfl ?_
      refine aw_get dX6_readLines_52 fl_X6_9_2 ((i2_0.2.1 _ hp.1 hp.2).trans hR) (by omega) rfl ?_
      obtain ⟨ts_6, tn_6, tf_6, ta_6, e_6, hta_6⟩ := JW.get i2_0 ct_1
      refine aw_callVi (J' := jX10_now) (As := []) (st := [.ref (b + p)]) dX6_readLines_55 tb_319 ok_X10_now ⟨_, e_6⟩ (by omega) rfl rfl (g_X10_nowS l D b N V2 hN i2_0.1 g i2_3 n a2 ⟨by omega, by omega⟩ i2_1 i2_2) rfl (Nat.le_of_ble_eq_true rfl) ⟨Nat.le_of_ble_eq_true rfl, Nat.le_of_ble_eq_true rfl, Nat.le_of_ble_eq_true rfl, Nat.le_of_ble_eq_true rfl⟩ (fun r_7 N_8 V_9 q_10 => ?_)
      obtain ⟨h_5, rfl, rfl⟩ := q_10
      refine aw_eqi (y := (hd g n a2)) h_5 ?_
      refine aw_callWi (J' := jX2_startsLine) (y := ({ cls := "FearLocks$LinesReader", name := "startsLine", desc := "(I)Z" } : Jvm.MethodName)) (RC := "FearLocks$DreadsReader") (owner := "FearLocks$LinesReader") (As := [.int (hd g n a2)]) (st := []) dX6_readLines_58 tb_320 okW_X2_startsLine_X2 ⟨_, ((i2_0.2.1 _ hp.1 hp.2).trans hR)⟩ (by omega) rfl rfl (g_X2_startsLineS l D b N V2 hN i2_0.1 p c pn ⟨by omega, by omega⟩ hc ((i2_0.2.1 _ hp.1 hp.2).trans hR) (hd g n a2)) rfl (Nat.le_of_ble_eq_true rfl) ⟨Nat.le_of_ble_eq_true rfl, Nat.le_of_ble_eq_true rfl, Nat.le_of_ble_eq_true rfl, Nat.le_of_ble_eq_true rfl⟩ (fun r_14 N_15 V_16 q_17 => ?_)
      obtain ⟨⟨z_13, h_12⟩, rfl, rfl⟩ := q_17
      rcases h_12 with ⟨hy_18, e_19⟩ | ⟨hn_20, e_21⟩
      · skip
        refine aw_eqi (y := 1) e_19 ?_
        refine aw_if_ne (tgt := 80) dX6_readLines_61 (by decide) (fun c_22 => ?_) (fun c_22 => ?_)
        rotate_left
        · exact absurd c_22 (by decide)
        refine aw_iload_n dX6_readLines_80 rfl ?_
        refine aw_iload_n dX6_readLines_81 rfl ?_
        refine aw_icmp_ne (tgt := 109) dX6_readLines_82 (by decide) (fun c_23 => ?_) (fun c_23 => ?_)
        · skip
          have nc_23 : ¬ (j2 = 20) := fun z => c_23 ((nI_eq (a := j2) (b := 20) (by omega) (by omega)).mpr z)
          refine aw_aload_n dX6_readLines_109 rfl ?_
          refine aw_callWi (J' := jX2_readLine) (y := ({ cls := "FearLocks$LinesReader", name := "readLine", desc := "()Z" } : Jvm.MethodName)) (RC := "FearLocks$DreadsReader") (owner := "FearLocks$LinesReader") (As := []) (st := []) dX6_readLines_110 tb_343 okW_X2_readLine_X2 ⟨_, ((i2_0.2.1 _ hp.1 hp.2).trans hR)⟩ (by omega) rfl rfl (g_X2_readLineS l D b N V2 hN i2_0.1 p c pn ⟨by omega, by omega⟩ hc ((i2_0.2.1 _ hp.1 hp.2).trans hR) g i2_3 n a2 ⟨by omega, by omega⟩ i2_1 i2_2 hy_18) rfl (Nat.le_of_ble_eq_true rfl) ⟨Nat.le_of_ble_eq_true rfl, Nat.le_of_ble_eq_true rfl, Nat.le_of_ble_eq_true rfl, Nat.le_of_ble_eq_true rfl⟩ (fun r_29 N_30 V_28 q_31 => ?_)
          obtain ⟨⟨z_26, h_25⟩, rfl, q_24⟩ := q_31
          have j_27 := JW.trans i2_0 (JW.weak q_24 (Sub.cons LM0 (by decide) (by decide) (by decide) (Or.inr ⟨by decide, by decide⟩) (Sub.cons (LMs LM0) (by decide) (by decide) (by decide) (Or.inr ⟨by decide, by decide⟩) (Sub.cons (LMs (LMs LM0)) (by omega) (by omega) (by decide) (Or.inr ⟨by decide, by decide⟩) (Sub.cons (LMs (LMs (LMs LM0))) (by omega) (by omega) (by decide) (Or.inl rfl) Sub.nil)))))
          rcases h_25 with ⟨f_32, hx_33, hk_34, e_35⟩ | ⟨a_36, hx_37, hk_38, hb_39, e_40⟩
          · skip
            refine aw_eqi (y := 0) e_35 ?_
            refine aw_if_ne (tgt := 124) dX6_readLines_113 (by decide) (fun c_41 => ?_) (fun c_41 => ?_)
            · exact absurd rfl c_41
            refine aw_aload_n dX6_readLines_116 rfl ?_
            refine aw_get dX6_readLines_117 fl_X6_9_2 ((j_27.2.1 _ hp.1 hp.2).trans hR) (by omega) rfl ?_
            obtain ⟨ts_42, tn_42, tf_42, ta_42, e_42, hta_42⟩ := JW.get j_27 ct_1
            refine aw_get dX6_readLines_120 fl_X6_28 e_42 (by omega) rfl ?_
            refine aw_eqi (y := f_32) ((Eq.symm (congrArg (fun z => fI z 4) e_42)).trans hk_34) ?_
            refine aw_ireti dX6_readLines_123 rfl (Nat.le_of_ble_eq_true rfl) (Nat.le_of_ble_eq_true rfl) ?_
            exact ⟨(congrArg cod (hT.symm.trans (tx_bad hy_18 hx_33 (by omega)))).symm, rfl, j_27⟩
          · skip
            refine aw_eqi (y := 1) e_40 ?_
            obtain ⟨hb_39a, hb_39b⟩ := hb_39
            refine aw_if_ne (tgt := 124) dX6_readLines_113 (by decide) (fun c_43 => ?_) (fun c_43 => ?_)
            rotate_left
            · exact absurd c_43 (by decide)
            refine aw_iinc (v := (nI (j2 + 1))) (ls' := [some (.ref (b + p)), some (.int 20), some (.int (nI (j2 + 1)))]) dX6_readLines_124 rfl (fx_up_1 _) (Nat.le_of_ble_eq_true rfl) rfl ?_
            refine aw_goto (tgt := 2) dX6_readLines_127 (by decide) ?_
            refine aw_le ?_ (mih_2_1 _ (by omega) a_36 (j2 + 1) V_28 rfl (j_27) (((JW.fI q_24 (by omega) (nfc (by omega) (nfc (by omega) (nfc (by omega) (nfc (by omega) nf0))))).trans i2_1)) (hk_38) (((JW.same q_24 (by decide) (fun k => (nfc (by omega) (nfc (by omega) (nfc (by omega) (nfc (by omega) nf0)))))).trans i2_3)) (Or.inr ⟨by omega, by have q := (tx_go (M := 20) (ln := (fun a _ => lnD g n a)) hy_18 hx_37 (by omega)).symm.trans hT; rw [show 20 - j2 - 1 = 20 - (j2 + 1) by omega] at q; exact q⟩) (⟨by omega, by omega, by omega⟩))
            exact ⟨rfl, ⟨rfl, ⟨rfl, trivial⟩⟩⟩
        · skip
          have nc_23 : j2 = 20 := (nI_eq (a := j2) (b := 20) (by omega) (by omega)).mp c_23
          refine aw_aload_n dX6_readLines_85 rfl ?_
          refine aw_get dX6_readLines_86 fl_X6_9_2 ((i2_0.2.1 _ hp.1 hp.2).trans hR) (by omega) rfl ?_
          refine aw_iconst (v := 4) dX6_readLines_89 (by decide) ?_
          refine aw_aload_n dX6_readLines_90 rfl ?_
          refine aw_get dX6_readLines_91 fl_X6_9_2 ((i2_0.2.1 _ hp.1 hp.2).trans hR) (by omega) rfl ?_
          refine aw_get dX6_readLines_94 fl_X6_15 e_6 (by omega) rfl ?_
          refine aw_eqi (y := (nI a2)) ((Eq.symm (congrArg (fun z => fI z 3) e_6)).trans i2_2) ?_
          refine aw_callVi (J' := jX10_fail) (As := [.int 4, .int (nI a2)]) (st := []) dX6_readLines_97 tb_342 ok_X10_fail ⟨_, e_6⟩ (by omega) rfl rfl (g_X10_failS l D b N V2 hN i2_0.1 4 (nI a2)) rfl (Nat.le_of_ble_eq_true rfl) ⟨Nat.le_of_ble_eq_true rfl, Nat.le_of_ble_eq_true rfl, Nat.le_of_ble_eq_true rfl, Nat.le_of_ble_eq_true rfl⟩ (fun r_49 N_50 V_48 q_51 => ?_)
          obtain ⟨⟨z_46, h_45⟩, rfl, q_44⟩ := q_51
          have j_47 := JW.trans i2_0 (JW.weak q_44 (Sub.cons LM0 (by decide) (by decide) (by decide) (Or.inr ⟨by decide, by decide⟩) Sub.nil))
          obtain ⟨rfl, h_45f⟩ := h_45
          refine aw_pop dX6_readLines_100 rfl ?_
          refine aw_aload_n dX6_readLines_101 rfl ?_
          refine aw_get dX6_readLines_102 fl_X6_9_2 ((j_47.2.1 _ hp.1 hp.2).trans hR) (by omega) rfl ?_
          obtain ⟨ts_52, tn_52, tf_52, ta_52, e_52, hta_52⟩ := JW.get j_47 ct_1
          refine aw_get dX6_readLines_105 fl_X6_28 e_52 (by omega) rfl ?_
          refine aw_eqi (y := (flt 4 a2)) ((Eq.symm (congrArg (fun z => fI z 4) e_52)).trans h_45f) ?_
          refine aw_ireti dX6_readLines_108 rfl (Nat.le_of_ble_eq_true rfl) (Nat.le_of_ble_eq_true rfl) ?_
          exact ⟨(congrArg cod (hT.symm.trans ((congrArg (fun q => txD g n q a2) (by omega : 20 - j2 = 0)).trans (tx_many hy_18)))).symm, rfl, j_47⟩
      · skip
        refine aw_eqi (y := 0) e_21 ?_
        refine aw_if_ne (tgt := 80) dX6_readLines_61 (by decide) (fun c_53 => ?_) (fun c_53 => ?_)
        · exact absurd rfl c_53
        refine aw_aload_n dX6_readLines_64 rfl ?_
        refine aw_get dX6_readLines_65 fl_X6_9_2 ((i2_0.2.1 _ hp.1 hp.2).trans hR) (by omega) rfl ?_
        refine aw_callVi (J' := jX10_cannotStand) (As := []) (st := []) dX6_readLines_68 tb_338 ok_X10_cannotStand ⟨_, e_6⟩ (by omega) rfl rfl (g_X10_cannotStandS l D b N V2 hN i2_0.1 g i2_3 n a2 ⟨by omega, by omega⟩ i2_1 i2_2) rfl (Nat.le_of_ble_eq_true rfl) ⟨Nat.le_of_ble_eq_true rfl, Nat.le_of_ble_eq_true rfl, Nat.le_of_ble_eq_true rfl, Nat.le_of_ble_eq_true rfl⟩ (fun r_59 N_60 V_58 q_61 => ?_)
        obtain ⟨⟨z_56, h_55⟩, rfl, q_54⟩ := q_61
        have j_57 := JW.trans i2_0 (JW.weak q_54 (Sub.cons LM0 (by decide) (by decide) (by decide) (Or.inr ⟨by decide, by decide⟩) Sub.nil))
        obtain ⟨rfl, h_55f⟩ := h_55
        refine aw_pop dX6_readLines_71 rfl ?_
        refine aw_aload_n dX6_readLines_72 rfl ?_
        refine aw_get dX6_readLines_73 fl_X6_9_2 ((j_57.2.1 _ hp.1 hp.2).trans hR) (by omega) rfl ?_
        obtain ⟨ts_62, tn_62, tf_62, ta_62, e_62, hta_62⟩ := JW.get j_57 ct_1
        refine aw_get dX6_readLines_76 fl_X6_28 e_62 (by omega) rfl ?_
        refine aw_eqi (y := (flt 1 a2)) ((Eq.symm (congrArg (fun z => fI z 4) e_62)).trans h_55f) ?_
        refine aw_ireti dX6_readLines_79 rfl (Nat.le_of_ble_eq_true rfl) (Nat.le_of_ble_eq_true rfl) ?_
        exact ⟨(congrArg cod (hT.symm.trans (tx_st hn_20))).symm, rfl, j_57⟩
    · skip
      have nc_3 : ¬ (j2 ≤ 0) := fun z => c_3 ((nI_leI (a := j2) (b := 0) (by omega) (by omega)).mpr z)
      refine aw_aload_n dX6_readLines_11 rfl ?_
      refine aw_get dX6_readLines_12 fl_X6_9_2 ((i2_0.2.1 _ hp.1 hp.2).trans hR) (by omega) rfl ?_
      obtain ⟨ts_63, tn_63, tf_63, ta_63, e_63, hta_63⟩ := JW.get i2_0 ct_1
      refine aw_get dX6_readLines_15 fl_X6_15 e_63 (by omega) rfl ?_
      refine aw_eqi (y := (nI a2)) ((Eq.symm (congrArg (fun z => fI z 3) e_63)).trans i2_2) ?_
      refine aw_aload_n dX6_readLines_18 rfl ?_
      refine aw_get dX6_readLines_19 fl_X6_9_2 ((i2_0.2.1 _ hp.1 hp.2).trans hR) (by omega) rfl ?_
      refine aw_get dX6_readLines_22 fl_X6_21 e_63 (by omega) rfl ?_
      refine aw_eqi (y := (nI n)) ((Eq.symm (congrArg (fun z => fI z 2) e_63)).trans i2_1) ?_
      refine aw_icmp_lt (tgt := 30) dX6_readLines_25 (by decide) (fun c_64 => ?_) (fun c_64 => ?_)
      · skip
        have nc_64 : a2 < n := (nI_ltI (a := a2) (b := n) (by omega) (by omega)).mp c_64
        refine aw_aload_n dX6_readLines_30 rfl ?_
        refine aw_get dX6_readLines_31 fl_X6_9_2 ((i2_0.2.1 _ hp.1 hp.2).trans hR) (by omega) rfl ?_
        refine aw_bipush (v := 59) dX6_readLines_34 (by decide) ?_
        refine aw_callVi (J' := jX10_expect) (As := [.int 59]) (st := []) dX6_readLines_36 tb_307 ok_X10_expect ⟨_, e_63⟩ (by omega) rfl rfl (g_X10_expectS l D b N V2 hN i2_0.1 59 g i2_3 n a2 ⟨by omega, by omega⟩ i2_1 i2_2) rfl (Nat.le_of_ble_eq_true rfl) ⟨Nat.le_of_ble_eq_true rfl, Nat.le_of_ble_eq_true rfl, Nat.le_of_ble_eq_true rfl, Nat.le_of_ble_eq_true rfl⟩ (fun r_70 N_71 V_69 q_72 => ?_)
        obtain ⟨⟨z_67, h_66⟩, rfl, q_65⟩ := q_72
        have j_68 := JW.trans i2_0 (JW.weak q_65 (Sub.cons (LMs LM0) (by decide) (by decide) (by decide) (Or.inr ⟨by decide, by decide⟩) (Sub.cons LM0 (by decide) (by decide) (by decide) (Or.inr ⟨by decide, by decide⟩) Sub.nil)))
        rcases h_66 with ⟨hy_73, hk_74, e_75⟩ | ⟨hn_76, hk_77, e_78⟩
        · skip
          refine aw_eqi (y := 1) e_75 ?_
          have hlhy_73 := hd_lit hy_73 (by decide)
          refine aw_if_ne (tgt := 50) dX6_readLines_39 (by decide) (fun c_79 => ?_) (fun c_79 => ?_)
          rotate_left
          · exact absurd c_79 (by decide)
          have hT : txD g n (20 - j2) (a2 + 1) = txD g n 20 a := (af_go hy_73).symm.trans ((i2_4).resolve_left (fun z => by omega)).2
          refine aw_aload_n dX6_readLines_50 rfl ?_
          refine aw_aload_n dX6_readLines_51 rfl ?_
          refine aw_get dX6_readLines_52 fl_X6_9_2 ((j_68.2.1 _ hp.1 hp.2).trans hR) (by omega) rfl ?_
          obtain ⟨ts_82, tn_82, tf_82, ta_82, e_82, hta_82⟩ := JW.get j_68 ct_1
          refine aw_callVi (J' := jX10_now) (As := []) (st := [.ref (b + p)]) dX6_readLines_55 tb_319 ok_X10_now ⟨_, e_82⟩ (by omega) rfl rfl (g_X10_nowS l D b N V_69 hN j_68.1 g ((JW.same q_65 (by decide) (fun k => (nfc (by omega) (nfc (by omega) nf0)))).trans i2_3) n (a2 + 1) ⟨by omega, by omega⟩ ((JW.fI q_65 (by omega) (nfc (by omega) (nfc (by omega) nf0))).trans i2_1) hk_74) rfl (Nat.le_of_ble_eq_true rfl) ⟨Nat.le_of_ble_eq_true rfl, Nat.le_of_ble_eq_true rfl, Nat.le_of_ble_eq_true rfl, Nat.le_of_ble_eq_true rfl⟩ (fun r_83 N_84 V_85 q_86 => ?_)
          obtain ⟨h_81, rfl, rfl⟩ := q_86
          refine aw_eqi (y := (hd g n (a2 + 1))) h_81 ?_
          refine aw_callWi (J' := jX2_startsLine) (y := ({ cls := "FearLocks$LinesReader", name := "startsLine", desc := "(I)Z" } : Jvm.MethodName)) (RC := "FearLocks$DreadsReader") (owner := "FearLocks$LinesReader") (As := [.int (hd g n (a2 + 1))]) (st := []) dX6_readLines_58 tb_320 okW_X2_startsLine_X2 ⟨_, ((j_68.2.1 _ hp.1 hp.2).trans hR)⟩ (by omega) rfl rfl (g_X2_startsLineS l D b N V_69 hN j_68.1 p c pn ⟨by omega, by omega⟩ hc ((j_68.2.1 _ hp.1 hp.2).trans hR) (hd g n (a2 + 1))) rfl (Nat.le_of_ble_eq_true rfl) ⟨Nat.le_of_ble_eq_true rfl, Nat.le_of_ble_eq_true rfl, Nat.le_of_ble_eq_true rfl, Nat.le_of_ble_eq_true rfl⟩ (fun r_90 N_91 V_92 q_93 => ?_)
          obtain ⟨⟨z_89, h_88⟩, rfl, rfl⟩ := q_93
          rcases h_88 with ⟨hy_94, e_95⟩ | ⟨hn_96, e_97⟩
          · skip
            refine aw_eqi (y := 1) e_95 ?_
            refine aw_if_ne (tgt := 80) dX6_readLines_61 (by decide) (fun c_98 => ?_) (fun c_98 => ?_)
            rotate_left
            · exact absurd c_98 (by decide)
            refine aw_iload_n dX6_readLines_80 rfl ?_
            refine aw_iload_n dX6_readLines_81 rfl ?_
            refine aw_icmp_ne (tgt := 109) dX6_readLines_82 (by decide) (fun c_99 => ?_) (fun c_99 => ?_)
            · skip
              have nc_99 : ¬ (j2 = 20) := fun z => c_99 ((nI_eq (a := j2) (b := 20) (by omega) (by omega)).mpr z)
              refine aw_aload_n dX6_readLines_109 rfl ?_
              refine aw_callWi (J' := jX2_readLine) (y := ({ cls := "FearLocks$LinesReader", name := "readLine", desc := "()Z" } : Jvm.MethodName)) (RC := "FearLocks$DreadsReader") (owner := "FearLocks$LinesReader") (As := []) (st := []) dX6_readLines_110 tb_343 okW_X2_readLine_X2 ⟨_, ((j_68.2.1 _ hp.1 hp.2).trans hR)⟩ (by omega) rfl rfl (g_X2_readLineS l D b N V_69 hN j_68.1 p c pn ⟨by omega, by omega⟩ hc ((j_68.2.1 _ hp.1 hp.2).trans hR) g ((JW.same q_65 (by decide) (fun k => (nfc (by omega) (nfc (by omega) nf0)))).trans i2_3) n (a2 + 1) ⟨by omega, by omega⟩ ((JW.fI q_65 (by omega) (nfc (by omega) (nfc (by omega) nf0))).trans i2_1) hk_74 hy_94) rfl (Nat.le_of_ble_eq_true rfl) ⟨Nat.le_of_ble_eq_true rfl, Nat.le_of_ble_eq_true rfl, Nat.le_of_ble_eq_true rfl, Nat.le_of_ble_eq_true rfl⟩ (fun r_105 N_106 V_104 q_107 => ?_)
              obtain ⟨⟨z_102, h_101⟩, rfl, q_100⟩ := q_107
              have j_103 := JW.trans j_68 (JW.weak q_100 (Sub.cons LM0 (by decide) (by decide) (by decide) (Or.inr ⟨by decide, by decide⟩) (Sub.cons (LMs LM0) (by decide) (by decide) (by decide) (Or.inr ⟨by decide, by decide⟩) (Sub.cons (LMs (LMs LM0)) (by omega) (by omega) (by decide) (Or.inr ⟨by decide, by decide⟩) (Sub.cons (LMs (LMs (LMs LM0))) (by omega) (by omega) (by decide) (Or.inl rfl) Sub.nil)))))
              rcases h_101 with ⟨f_108, hx_109, hk_110, e_111⟩ | ⟨a_112, hx_113, hk_114, hb_115, e_116⟩
              · skip
                refine aw_eqi (y := 0) e_111 ?_
                refine aw_if_ne (tgt := 124) dX6_readLines_113 (by decide) (fun c_117 => ?_) (fun c_117 => ?_)
                · exact absurd rfl c_117
                refine aw_aload_n dX6_readLines_116 rfl ?_
                refine aw_get dX6_readLines_117 fl_X6_9_2 ((j_103.2.1 _ hp.1 hp.2).trans hR) (by omega) rfl ?_
                obtain ⟨ts_118, tn_118, tf_118, ta_118, e_118, hta_118⟩ := JW.get j_103 ct_1
                refine aw_get dX6_readLines_120 fl_X6_28 e_118 (by omega) rfl ?_
                refine aw_eqi (y := f_108) ((Eq.symm (congrArg (fun z => fI z 4) e_118)).trans hk_110) ?_
                refine aw_ireti dX6_readLines_123 rfl (Nat.le_of_ble_eq_true rfl) (Nat.le_of_ble_eq_true rfl) ?_
                exact ⟨(congrArg cod (hT.symm.trans (tx_bad hy_94 hx_109 (by omega)))).symm, rfl, j_103⟩
              · skip
                refine aw_eqi (y := 1) e_116 ?_
                obtain ⟨hb_115a, hb_115b⟩ := hb_115
                refine aw_if_ne (tgt := 124) dX6_readLines_113 (by decide) (fun c_119 => ?_) (fun c_119 => ?_)
                rotate_left
                · exact absurd c_119 (by decide)
                refine aw_iinc (v := (nI (j2 + 1))) (ls' := [some (.ref (b + p)), some (.int 20), some (.int (nI (j2 + 1)))]) dX6_readLines_124 rfl (fx_up_1 _) (Nat.le_of_ble_eq_true rfl) rfl ?_
                refine aw_goto (tgt := 2) dX6_readLines_127 (by decide) ?_
                refine aw_le ?_ (mih_2_1 _ (by omega) a_112 (j2 + 1) V_104 rfl (j_103) (((JW.fI q_100 (by omega) (nfc (by omega) (nfc (by omega) (nfc (by omega) (nfc (by omega) nf0))))).trans ((JW.fI q_65 (by omega) (nfc (by omega) (nfc (by omega) nf0))).trans i2_1))) (hk_114) (((JW.same q_100 (by decide) (fun k => (nfc (by omega) (nfc (by omega) (nfc (by omega) (nfc (by omega) nf0)))))).trans ((JW.same q_65 (by decide) (fun k => (nfc (by omega) (nfc (by omega) nf0)))).trans i2_3))) (Or.inr ⟨by omega, by have q := (tx_go (M := 20) (ln := (fun a _ => lnD g n a)) hy_94 hx_113 (by omega)).symm.trans hT; rw [show 20 - j2 - 1 = 20 - (j2 + 1) by omega] at q; exact q⟩) (⟨by omega, by omega, by omega⟩))
                exact ⟨rfl, ⟨rfl, ⟨rfl, trivial⟩⟩⟩
            · skip
              have nc_99 : j2 = 20 := (nI_eq (a := j2) (b := 20) (by omega) (by omega)).mp c_99
              refine aw_aload_n dX6_readLines_85 rfl ?_
              refine aw_get dX6_readLines_86 fl_X6_9_2 ((j_68.2.1 _ hp.1 hp.2).trans hR) (by omega) rfl ?_
              refine aw_iconst (v := 4) dX6_readLines_89 (by decide) ?_
              refine aw_aload_n dX6_readLines_90 rfl ?_
              refine aw_get dX6_readLines_91 fl_X6_9_2 ((j_68.2.1 _ hp.1 hp.2).trans hR) (by omega) rfl ?_
              refine aw_get dX6_readLines_94 fl_X6_15 e_82 (by omega) rfl ?_
              refine aw_eqi (y := (nI (a2 + 1))) ((Eq.symm (congrArg (fun z => fI z 3) e_82)).trans hk_74) ?_
              refine aw_callVi (J' := jX10_fail) (As := [.int 4, .int (nI (a2 + 1))]) (st := []) dX6_readLines_97 tb_342 ok_X10_fail ⟨_, e_82⟩ (by omega) rfl rfl (g_X10_failS l D b N V_69 hN j_68.1 4 (nI (a2 + 1))) rfl (Nat.le_of_ble_eq_true rfl) ⟨Nat.le_of_ble_eq_true rfl, Nat.le_of_ble_eq_true rfl, Nat.le_of_ble_eq_true rfl, Nat.le_of_ble_eq_true rfl⟩ (fun r_125 N_126 V_124 q_127 => ?_)
              obtain ⟨⟨z_122, h_121⟩, rfl, q_120⟩ := q_127
              have j_123 := JW.trans j_68 (JW.weak q_120 (Sub.cons LM0 (by decide) (by decide) (by decide) (Or.inr ⟨by decide, by decide⟩) Sub.nil))
              obtain ⟨rfl, h_121f⟩ := h_121
              refine aw_pop dX6_readLines_100 rfl ?_
              refine aw_aload_n dX6_readLines_101 rfl ?_
              refine aw_get dX6_readLines_102 fl_X6_9_2 ((j_123.2.1 _ hp.1 hp.2).trans hR) (by omega) rfl ?_
              obtain ⟨ts_128, tn_128, tf_128, ta_128, e_128, hta_128⟩ := JW.get j_123 ct_1
              refine aw_get dX6_readLines_105 fl_X6_28 e_128 (by omega) rfl ?_
              refine aw_eqi (y := (flt 4 (a2 + 1))) ((Eq.symm (congrArg (fun z => fI z 4) e_128)).trans h_121f) ?_
              refine aw_ireti dX6_readLines_108 rfl (Nat.le_of_ble_eq_true rfl) (Nat.le_of_ble_eq_true rfl) ?_
              exact ⟨(congrArg cod (hT.symm.trans ((congrArg (fun q => txD g n q (a2 + 1)) (by omega : 20 - j2 = 0)).trans (tx_many hy_94)))).symm, rfl, j_123⟩
          · skip
            refine aw_eqi (y := 0) e_97 ?_
            refine aw_if_ne (tgt := 80) dX6_readLines_61 (by decide) (fun c_129 => ?_) (fun c_129 => ?_)
            · exact absurd rfl c_129
            refine aw_aload_n dX6_readLines_64 rfl ?_
            refine aw_get dX6_readLines_65 fl_X6_9_2 ((j_68.2.1 _ hp.1 hp.2).trans hR) (by omega) rfl ?_
            refine aw_callVi (J' := jX10_cannotStand) (As := []) (st := []) dX6_readLines_68 tb_338 ok_X10_cannotStand ⟨_, e_82⟩ (by omega) rfl rfl (g_X10_cannotStandS l D b N V_69 hN j_68.1 g ((JW.same q_65 (by decide) (fun k => (nfc (by omega) (nfc (by omega) nf0)))).trans i2_3) n (a2 + 1) ⟨by omega, by omega⟩ ((JW.fI q_65 (by omega) (nfc (by omega) (nfc (by omega) nf0))).trans i2_1) hk_74) rfl (Nat.le_of_ble_eq_true rfl) ⟨Nat.le_of_ble_eq_true rfl, Nat.le_of_ble_eq_true rfl, Nat.le_of_ble_eq_true rfl, Nat.le_of_ble_eq_true rfl⟩ (fun r_135 N_136 V_134 q_137 => ?_)
            obtain ⟨⟨z_132, h_131⟩, rfl, q_130⟩ := q_137
            have j_133 := JW.trans j_68 (JW.weak q_130 (Sub.cons LM0 (by decide) (by decide) (by decide) (Or.inr ⟨by decide, by decide⟩) Sub.nil))
            obtain ⟨rfl, h_131f⟩ := h_131
            refine aw_pop dX6_readLines_71 rfl ?_
            refine aw_aload_n dX6_readLines_72 rfl ?_
            refine aw_get dX6_readLines_73 fl_X6_9_2 ((j_133.2.1 _ hp.1 hp.2).trans hR) (by omega) rfl ?_
            obtain ⟨ts_138, tn_138, tf_138, ta_138, e_138, hta_138⟩ := JW.get j_133 ct_1
            refine aw_get dX6_readLines_76 fl_X6_28 e_138 (by omega) rfl ?_
            refine aw_eqi (y := (flt 1 (a2 + 1))) ((Eq.symm (congrArg (fun z => fI z 4) e_138)).trans h_131f) ?_
            refine aw_ireti dX6_readLines_79 rfl (Nat.le_of_ble_eq_true rfl) (Nat.le_of_ble_eq_true rfl) ?_
            exact ⟨(congrArg cod (hT.symm.trans (tx_st hn_96))).symm, rfl, j_133⟩
        · skip
          refine aw_eqi (y := 0) e_78 ?_
          refine aw_if_ne (tgt := 50) dX6_readLines_39 (by decide) (fun c_139 => ?_) (fun c_139 => ?_)
          · exact absurd rfl c_139
          refine aw_aload_n dX6_readLines_42 rfl ?_
          refine aw_get dX6_readLines_43 fl_X6_9_2 ((j_68.2.1 _ hp.1 hp.2).trans hR) (by omega) rfl ?_
          obtain ⟨ts_140, tn_140, tf_140, ta_140, e_140, hta_140⟩ := JW.get j_68 ct_1
          refine aw_get dX6_readLines_46 fl_X6_28 e_140 (by omega) rfl ?_
          refine aw_eqi (y := (flt 1 a2)) ((Eq.symm (congrArg (fun z => fI z 4) e_140)).trans hk_77) ?_
          refine aw_ireti dX6_readLines_49 rfl (Nat.le_of_ble_eq_true rfl) (Nat.le_of_ble_eq_true rfl) ?_
          exact ⟨(congrArg cod (((i2_4).resolve_left (fun z => by omega)).2.symm.trans (af_no (by omega) hn_76))).symm, rfl, j_68⟩
      · skip
        have nc_64 : ¬ (a2 < n) := fun z => c_64 ((nI_ltI (a := a2) (b := n) (by omega) (by omega)).mpr z)
        refine aw_iload_n dX6_readLines_28 rfl ?_
        refine aw_ireti dX6_readLines_29 rfl (Nat.le_of_ble_eq_true rfl) (Nat.le_of_ble_eq_true rfl) ?_
        exact ⟨((congrArg nI (by omega : j2 = 20 - (20 - j2))).trans (congrArg cod (((i2_4).resolve_left (fun z => by omega)).2.symm.trans (af_end (by omega)))).symm), rfl, i2_0⟩
  refine aw_le ?_ (ml_2_1 _ a 0 V rfl (hJ0) (hE) (hA) (hg) (Or.inl ⟨rfl, rfl⟩) (⟨by omega, Nat.le_refl _, by omega⟩))
  exact ⟨rfl, ⟨rfl, ⟨rfl, trivial⟩⟩⟩

set_option maxHeartbeats 4000000 in
set_option maxRecDepth 100000 in
theorem g_X10_takeS (l : Launch) (D : va_G) (b : Nat) (N : Nat) (V : Wd) (hN : 100 ≤ N) (hW : CW D b V) (n0 : Int32)  : MV l D b 0 jX10_take [.ref (b + 1), .int n0] N V 0 0 (fun N9 V9 => (fI (V9 1) 1 = 0 ∧ fI (V9 1) 2 = n0 ∧ fI (V9 1) 3 = 0) ∧ N = N9 ∧ JW D b N [(1, 1, 2, 2), (1, 1, 3, 3), (1, 1, 4, 4), (1, 1, 1, 1)] V V9) := by
  have hJ0 : JW D b N [(1, 1, 2, 2), (1, 1, 3, 3), (1, 1, 4, 4), (1, 1, 1, 1)] V V := JW.rf hW
  refine mw_of (by decide) (by simp [Value.category]) (Nat.le_of_ble_eq_true rfl) ?_
  show AW l D b jX10_take (fx_rm 0 0 0) none (fx_MQ D b 0 0 (fx_qv (fun N9 V9 => (fI (V9 1) 1 = 0 ∧ fI (V9 1) 2 = n0 ∧ fI (V9 1) 3 = 0) ∧ N = N9 ∧ JW D b N [(1, 1, 2, 2), (1, 1, 3, 3), (1, 1, 4, 4), (1, 1, 1, 1)] V V9))) 0 [some (.ref (b + 1)), some (.int n0)] [] N V 0 0
  refine aw_aload_n dX10_take_0 rfl ?_
  refine aw_iload_n dX10_take_1 rfl ?_
  obtain ⟨ts_1, tn_1, tf_1, ta_1, e_1, hta_1⟩ := JW.get hJ0 ct_1
  refine aw_put dX10_take_2 fp_X10_19 e_1 (by omega) rfl rfl (Nat.le_of_ble_eq_true rfl) rfl ?_
  refine aw_up hJ0 ct_1 ⟨_, _, _, ta_1, rfl, (by first | omega | (split <;> omega))⟩ (WO (s := 2) (x := .int n0) e_1 rfl LM0 (by decide) (by decide) (by decide) (Or.inl (by decide))) (fun V_2 j_2 k_2 e_2 => ?_)
  refine aw_aload_n dX10_take_5 rfl ?_
  refine aw_iconst (v := 0) dX10_take_6 (by decide) ?_
  refine aw_put dX10_take_7 fp_X10_22 e_2 (by omega) rfl rfl (Nat.le_of_ble_eq_true rfl) rfl ?_
  refine aw_up j_2 ct_1 ⟨_, _, _, 0, rfl, (by first | omega | (split <;> omega))⟩ (WO (s := 3) (x := .int 0) e_2 rfl (LMs LM0) (by decide) (by decide) (by decide) (Or.inl (by decide))) (fun V_3 j_3 k_3 e_3 => ?_)
  refine aw_aload_n dX10_take_10 rfl ?_
  refine aw_iconst (v := 0) dX10_take_11 (by decide) ?_
  refine aw_put dX10_take_12 fp_X10_25 e_3 (by omega) rfl rfl (Nat.le_of_ble_eq_true rfl) rfl ?_
  refine aw_up j_3 ct_1 ⟨_, _, _, 0, rfl, (by first | omega | (split <;> omega))⟩ (WO (s := 4) (x := .int 0) e_3 rfl (LMs (LMs LM0)) (by decide) (by decide) (by decide) (Or.inl (by decide))) (fun V_4 j_4 k_4 e_4 => ?_)
  refine aw_aload_n dX10_take_15 rfl ?_
  refine aw_iconst (v := 0) dX10_take_16 (by decide) ?_
  refine aw_put dX10_take_17 fp_X10_15 e_4 (by omega) rfl rfl (Nat.le_of_ble_eq_true rfl) rfl ?_
  refine aw_up j_4 ct_1 ⟨_, _, _, 0, rfl, (by first | omega | (split <;> omega))⟩ (WO (s := 1) (x := .int 0) e_4 rfl (LMs (LMs (LMs LM0))) (by decide) (by decide) (by decide) (Or.inl (by decide))) (fun V_5 j_5 k_5 e_5 => ?_)
  refine aw_vreti dX10_take_20 rfl (Nat.le_of_ble_eq_true rfl) (Nat.le_of_ble_eq_true rfl) ?_
  exact ⟨⟨((congrArg (fun z => fI z 1) e_5).trans rfl), ((congrArg (fun z => fI z 2) e_5).trans rfl), (KA (s := 1) (x := .int 0) e_4 rfl (by decide) e_5 k_5 (KA (s := 4) (x := .int 0) e_3 rfl (by decide) e_4 k_4 ((congrArg (fun z => fI z 3) e_3).trans rfl)))⟩, rfl, j_5⟩

theorem dreadsA_of {D : va_G} {V : Wd} {g : Nat → Int32} {m : Nat} {n : Int32} (e : V 2 = cI D 260 g) (em : n = nI m) (hm : m ≤ 240) : dreadsA (fI (V 2)) n = cod (txD g m 20 0) := by
  have hf : fI (V 2) = g := funext fun k => by rw [e]; rfl
  rw [dreadsA, hf, em, nI_clamp (by omega)]

set_option maxHeartbeats 4000000 in
set_option maxRecDepth 100000 in
theorem g_X11_dreadsS (l : Launch) (D : va_G) (b : Nat) (N : Nat) (V : Wd) (hN : 100 ≤ N) (hW : CW D b V) (n0 : Int32) (n1 : Int32)  : MI l D b 5 jX11_dreads [.ref (b + 0), .int n0, .int n1] N V 1 3 (fun r N9 V9 => N ≤ N9 ∧ N9 ≤ N + 1 ∧ ANS (cDr n0 n1 (fI (V 1) 1)) r (dreadsA (fI (V 2)) n1) ∧ TKS (cDr n0 n1 (fI (V 1) 1)) (fI (V 1) 1) (fI (V9 1) 1) ∧ fI (V9 3) 7 = fI (V 3) 7 ∧ JW D b N [(5, 20, 0, 1000000), (23, 38, 0, 1000000), (1, 1, 2, 2), (1, 1, 3, 3), (1, 1, 4, 4), (1, 1, 1, 1), (21, 21, 5, 5), (21, 21, 6, 6), (21, 21, 7, 7), (21, 21, 8, 8), (3, 3, 5, 5), (3, 3, 6, 6), (3, 3, 7, 7), (3, 3, 8, 8)] V V9) := by
  have hJ0 : JW D b N [(5, 20, 0, 1000000), (23, 38, 0, 1000000), (1, 1, 2, 2), (1, 1, 3, 3), (1, 1, 4, 4), (1, 1, 1, 1), (21, 21, 5, 5), (21, 21, 6, 6), (21, 21, 7, 7), (21, 21, 8, 8), (3, 3, 5, 5), (3, 3, 6, 6), (3, 3, 7, 7), (3, 3, 8, 8)] V V := JW.rf hW
  refine mw_of (by decide) (by simp [Value.category]) (Nat.le_of_ble_eq_true rfl) ?_
  show AW l D b jX11_dreads (fx_rm 5 1 3) none (fx_MQ D b 1 3 (fx_qi (fun r N9 V9 => N ≤ N9 ∧ N9 ≤ N + 1 ∧ ANS (cDr n0 n1 (fI (V 1) 1)) r (dreadsA (fI (V 2)) n1) ∧ TKS (cDr n0 n1 (fI (V 1) 1)) (fI (V 1) 1) (fI (V9 1) 1) ∧ fI (V9 3) 7 = fI (V 3) 7 ∧ JW D b N [(5, 20, 0, 1000000), (23, 38, 0, 1000000), (1, 1, 2, 2), (1, 1, 3, 3), (1, 1, 4, 4), (1, 1, 1, 1), (21, 21, 5, 5), (21, 21, 6, 6), (21, 21, 7, 7), (21, 21, 8, 8), (3, 3, 5, 5), (3, 3, 6, 6), (3, 3, 7, 7), (3, 3, 8, 8)] V V9))) 0 [some (.ref (b + 0)), some (.int n0), some (.int n1), none] [] N V 0 0
  obtain ⟨g_1, e_1⟩ := JW.get hJ0 ct_2
  refine aw_iload_n dX11_dreads_0 rfl ?_
  refine aw_if_lt (tgt := 24) dX11_dreads_1 (by decide) (fun c_2 => ?_) (fun c_2 => ?_)
  · skip
    refine aw_iconst (v := (-1)) dX11_dreads_24 (by decide) ?_
    refine aw_ireti dX11_dreads_25 rfl (Nat.le_of_ble_eq_true rfl) (Nat.le_of_ble_eq_true rfl) ?_
    exact ⟨Nat.le_refl _, Nat.le_succ _, Or.inr ⟨(by have e0 : (0 : Int32).toInt = 0 := (by decide); have e1 : (1 : Int32).toInt = 1 := (by decide); have e11 : (11 : Int32).toInt = 11 := (by decide); have e12 : (12 : Int32).toInt = 12 := (by decide); have e120 : (120 : Int32).toInt = 120 := (by decide); have q0 := c_2; simp only [cDr, ← Int32.toInt_inj, Int32.le_iff_toInt_le, Int32.lt_iff_toInt_lt] at q0 ⊢; omega), rfl⟩, Or.inr ⟨(by have e0 : (0 : Int32).toInt = 0 := (by decide); have e1 : (1 : Int32).toInt = 1 := (by decide); have e11 : (11 : Int32).toInt = 11 := (by decide); have e12 : (12 : Int32).toInt = 12 := (by decide); have e120 : (120 : Int32).toInt = 120 := (by decide); have q0 := c_2; simp only [cDr, ← Int32.toInt_inj, Int32.le_iff_toInt_le, Int32.lt_iff_toInt_lt] at q0 ⊢; omega), (Eq.refl (fI (V 1) 1))⟩, (Eq.refl (fI (V 3) 7)), hJ0⟩
  · skip
    refine aw_iload_n dX11_dreads_4 rfl ?_
    refine aw_bipush (v := 12) dX11_dreads_5 (by decide) ?_
    refine aw_icmp_ge (tgt := 24) dX11_dreads_7 (by decide) (fun c_3 => ?_) (fun c_3 => ?_)
    · skip
      refine aw_iconst (v := (-1)) dX11_dreads_24 (by decide) ?_
      refine aw_ireti dX11_dreads_25 rfl (Nat.le_of_ble_eq_true rfl) (Nat.le_of_ble_eq_true rfl) ?_
      exact ⟨Nat.le_refl _, Nat.le_succ _, Or.inr ⟨(by have e0 : (0 : Int32).toInt = 0 := (by decide); have e1 : (1 : Int32).toInt = 1 := (by decide); have e11 : (11 : Int32).toInt = 11 := (by decide); have e12 : (12 : Int32).toInt = 12 := (by decide); have e120 : (120 : Int32).toInt = 120 := (by decide); have q0 := c_2; have q1 := c_3; simp only [cDr, ← Int32.toInt_inj, Int32.le_iff_toInt_le, Int32.lt_iff_toInt_lt] at q0 q1 ⊢; omega), rfl⟩, Or.inr ⟨(by have e0 : (0 : Int32).toInt = 0 := (by decide); have e1 : (1 : Int32).toInt = 1 := (by decide); have e11 : (11 : Int32).toInt = 11 := (by decide); have e12 : (12 : Int32).toInt = 12 := (by decide); have e120 : (120 : Int32).toInt = 120 := (by decide); have q0 := c_2; have q1 := c_3; simp only [cDr, ← Int32.toInt_inj, Int32.le_iff_toInt_le, Int32.lt_iff_toInt_lt] at q0 q1 ⊢; omega), (Eq.refl (fI (V 1) 1))⟩, (Eq.refl (fI (V 3) 7)), hJ0⟩
    · skip
      refine aw_aload_n dX11_dreads_10 rfl ?_
      obtain ⟨ek_4, x_4, y_4, e_4, hx_4, hy_4⟩ := JW.get hJ0 ct_0
      refine aw_get dX11_dreads_11 fl_X11_12 e_4 (by omega) rfl ?_
      refine aw_iload_n dX11_dreads_14 rfl ?_
      refine aw_iconst (v := 1) dX11_dreads_15 (by decide) ?_
      refine aw_bipush (v := 120) dX11_dreads_16 (by decide) ?_
      obtain ⟨ts_8, tn_8, tf_8, ta_8, e_8, hta_8⟩ := JW.get hJ0 ct_1
      refine aw_callVi (J' := jX10_holds) (As := [.int n1, .int 1, .int 120]) (st := []) dX11_dreads_18 tb_267 ok_X10_holds ⟨_, e_8⟩ (by omega) rfl rfl (g_X10_holdsK l D b N V hN hJ0.1 n1 1 120) rfl (Nat.le_of_ble_eq_true rfl) ⟨Nat.le_of_ble_eq_true rfl, Nat.le_of_ble_eq_true rfl, Nat.le_of_ble_eq_true rfl, Nat.le_of_ble_eq_true rfl⟩ (fun r_9 N_10 V_11 q_12 => ?_)
      obtain ⟨⟨z_7, h_6⟩, rfl, rfl⟩ := q_12
      refine aw_if_ne (tgt := 26) dX11_dreads_21 (by decide) (fun c_13 => ?_) (fun c_13 => ?_)
      · skip
        refine aw_aload_n dX11_dreads_26 rfl ?_
        refine aw_get dX11_dreads_27 fl_X11_12 e_4 (by omega) rfl ?_
        refine aw_iload_n dX11_dreads_30 rfl ?_
        have hh9 := (h_6.resolve_right (fun z => c_13 z.1)).2
        obtain ⟨m_14, m_14a, m_14b, m_14e⟩ := in_nat (a := 1) (b := 120) (by decide) ⟨hh9.1, hh9.2.1⟩
        refine aw_callVv (J' := jX10_take) (As := [.int n1]) (st := []) dX11_dreads_31 tb_271 ok_X10_take ⟨_, e_8⟩ (by omega) rfl rfl (g_X10_takeS l D b N V hN hJ0.1 n1) rfl (Nat.le_of_ble_eq_true rfl) ⟨Nat.le_of_ble_eq_true rfl, Nat.le_of_ble_eq_true rfl, Nat.le_of_ble_eq_true rfl, Nat.le_of_ble_eq_true rfl⟩ (fun  N_19 V_18 q_20 => ?_)
        obtain ⟨h_16, rfl, q_15⟩ := q_20
        have j_17 := JW.trans hJ0 (JW.weak q_15 (Sub.cons (LMs (LMs LM0)) (by decide) (by decide) (by decide) (Or.inr ⟨by decide, by decide⟩) (Sub.cons (LMs (LMs (LMs LM0))) (by decide) (by decide) (by decide) (Or.inr ⟨by decide, by decide⟩) (Sub.cons (LMs (LMs (LMs (LMs LM0)))) (by decide) (by decide) (by decide) (Or.inr ⟨by decide, by decide⟩) (Sub.cons (LMs (LMs (LMs (LMs (LMs LM0))))) (by decide) (by decide) (by decide) (Or.inr ⟨by decide, by decide⟩) Sub.nil)))))
        refine aw_aload_n dX11_dreads_34 rfl ?_
        obtain ⟨ek_21, x_21, y_21, e_21, hx_21, hy_21⟩ := JW.get j_17 ct_0
        refine aw_get dX11_dreads_35 fl_X11_23 e_21 (by omega) rfl ?_
        refine aw_aload_n dX11_dreads_38 rfl ?_
        refine aw_get dX11_dreads_39 fl_X11_19 e_21 (by omega) rfl ?_
        obtain ⟨pe_26, dd_26, ni_26, xx_26, e_26⟩ := JW.get j_17 (ctc_0 cA_21)
        refine aw_callVv (J' := jX0_copyFrom) (As := [.ref (b + 3)]) (st := []) dX11_dreads_42 tb_581 ok_X0_copyFrom ⟨_, e_26⟩ (by omega) rfl rfl (g_X0_copyFromK l D b N V_18 hN j_17.1 21 cA_21 3 cA_3) rfl (Nat.le_of_ble_eq_true rfl) ⟨Nat.le_of_ble_eq_true rfl, Nat.le_of_ble_eq_true rfl, Nat.le_of_ble_eq_true rfl, Nat.le_of_ble_eq_true rfl⟩ (fun  N_27 V_25 q_28 => ?_)
        obtain ⟨h_23, rfl, q_22⟩ := q_28
        have j_24 := JW.trans j_17 (JW.weak q_22 (Sub.cons (LMs LM0) (by decide) (by decide) (by decide) (Or.inl rfl) (Sub.cons (LMs (LMs (LMs (LMs (LMs (LMs LM0)))))) (by decide) (by decide) (by decide) (Or.inr ⟨by decide, by decide⟩) (Sub.cons (LMs (LMs (LMs (LMs (LMs (LMs (LMs LM0))))))) (by decide) (by decide) (by decide) (Or.inr ⟨by decide, by decide⟩) (Sub.cons (LMs (LMs (LMs (LMs (LMs (LMs (LMs (LMs LM0)))))))) (by decide) (by decide) (by decide) (Or.inr ⟨by decide, by decide⟩) (Sub.cons (LMs (LMs (LMs (LMs (LMs (LMs (LMs (LMs (LMs LM0))))))))) (by decide) (by decide) (by decide) (Or.inr ⟨by decide, by decide⟩) (Sub.cons (LMs LM0) (by decide) (by decide) (by decide) (Or.inl rfl) (Sub.cons (LMs LM0) (by decide) (by decide) (by decide) (Or.inl rfl) (Sub.cons (LMs LM0) (by decide) (by decide) (by decide) (Or.inl rfl) (Sub.cons (LMs LM0) (by decide) (by decide) (by decide) (Or.inl rfl) Sub.nil))))))))))
        refine aw_new dX11_dreads_45 nw_X11_102 (Nat.le_of_ble_eq_true rfl) (Nat.le_of_ble_eq_true rfl) ?_
        refine aw_newJ j_24 hN (fun V_29 j_29 e_29 k_29 => ?_)
        refine aw_dup dX11_dreads_48 rfl ?_
        refine aw_aload_n dX11_dreads_49 rfl ?_
        obtain ⟨ek_30, x_30, y_30, e_30, hx_30, hy_30⟩ := JW.get j_29 ct_0
        refine aw_get dX11_dreads_50 fl_X11_12 e_30 (by omega) rfl ?_
        refine aw_aload_n dX11_dreads_53 rfl ?_
        refine aw_get dX11_dreads_54 fl_X11_23 e_30 (by omega) rfl ?_
        refine aw_iload_n dX11_dreads_57 rfl ?_
        refine aw_callIv (As := [.ref (b + 1), .ref (b + 21), .int n0]) (st := [.ref (b + N)]) dX11_dreads_58 tb_590 ok_X2_init rfl (g_X2_init l D b (N + 1) V_29 N (by omega) 21 n0 e_29) rfl (Nat.le_of_ble_eq_true rfl) ⟨Nat.le_of_ble_eq_true rfl, Nat.le_of_ble_eq_true rfl, Nat.le_of_ble_eq_true rfl, Nat.le_of_ble_eq_true rfl⟩ (fun  N_36 V_35 q_37 => ?_)
        obtain ⟨rfl, h_31, f_32⟩ := q_37
        have jA_33 := JW.skip j_29 f_32 hN
        have jB_34 : JW D b (N + 1) [(5, 20, 0, 1000000), (23, 38, 0, 1000000), (1, 1, 2, 2), (1, 1, 3, 3), (1, 1, 4, 4), (1, 1, 1, 1), (21, 21, 5, 5), (21, 21, 6, 6), (21, 21, 7, 7), (21, 21, 8, 8), (3, 3, 5, 5), (3, 3, 6, 6), (3, 3, 7, 7), (3, 3, 8, 8)] V_35 V_35 := JW.rf jA_33.1
        refine aw_bipush (v := 20) dX11_dreads_61 (by decide) ?_
        refine aw_callWi (J' := jX6_readLines) (y := ({ cls := "FearLocks$DreadsReader", name := "readLines", desc := "(I)I" } : Jvm.MethodName)) (RC := "FearLocks$DreadsReader") (owner := "FearLocks$LinesReader") (As := [.int 20]) (st := []) dX11_dreads_63 tb_602 okW_X6_readLines_X2 ⟨_, ((jB_34.2.1 _ (by omega) (by omega)).trans h_31)⟩ (by omega) rfl rfl (g_X6_readLines_DS l D b (N + 1) V_35 (by omega) jB_34.1 N 21 n0 ⟨by omega, by omega⟩ cA_21 ((jB_34.2.1 _ (by omega) (by omega)).trans h_31) g_1 ((f_32 _ (by omega)).trans ((k_29 _ (by omega)).trans ((JW.same q_22 (by decide) (fun k => (nfc (by omega) (nfc (by omega) (nfc (by omega) (nfc (by omega) (nfc (by omega) (nfc (by omega) (nfc (by omega) (nfc (by omega) (nfc (by omega) nf0))))))))))).trans ((JW.same q_15 (by decide) (fun k => (nfc (by omega) (nfc (by omega) (nfc (by omega) (nfc (by omega) nf0)))))).trans e_1)))) m_14 0 ⟨by omega, by omega⟩ ((congrArg (fun z => fI z 2) (f_32 _ (by omega))).trans ((congrArg (fun z => fI z 2) (k_29 _ (by omega))).trans ((JW.fI q_22 (by omega) (nfc (by omega) (nfc (by omega) (nfc (by omega) (nfc (by omega) (nfc (by omega) (nfc (by omega) (nfc (by omega) (nfc (by omega) (nfc (by omega) nf0)))))))))).trans (h_16.2.1.trans m_14e)))) ((congrArg (fun z => fI z 3) (f_32 _ (by omega))).trans ((congrArg (fun z => fI z 3) (k_29 _ (by omega))).trans ((JW.fI q_22 (by omega) (nfc (by omega) (nfc (by omega) (nfc (by omega) (nfc (by omega) (nfc (by omega) (nfc (by omega) (nfc (by omega) (nfc (by omega) (nfc (by omega) nf0)))))))))).trans h_16.2.2)))) rfl (Nat.le_of_ble_eq_true rfl) ⟨Nat.le_of_ble_eq_true rfl, Nat.le_of_ble_eq_true rfl, Nat.le_of_ble_eq_true rfl, Nat.le_of_ble_eq_true rfl⟩ (fun r_42 N_43 V_41 q_44 => ?_)
        obtain ⟨h_39, rfl, q_38⟩ := q_44
        have j_40 := JW.trans jB_34 (JW.weak q_38 (Sub.cons (LMs (LMs (LMs (LMs LM0)))) (by decide) (by decide) (by decide) (Or.inr ⟨by decide, by decide⟩) (Sub.cons (LMs (LMs (LMs LM0))) (by decide) (by decide) (by decide) (Or.inr ⟨by decide, by decide⟩) (Sub.cons (LMs (LMs (LMs (LMs (LMs (LMs LM0)))))) (by decide) (by decide) (by decide) (Or.inr ⟨by decide, by decide⟩) (Sub.cons (LMs LM0) (by decide) (by decide) (by decide) (Or.inl rfl) Sub.nil)))))
        refine aw_istore_n (ls' := [some (.ref (b + 0)), some (.int n0), some (.int n1), some (.int r_42)]) dX11_dreads_66 (Nat.le_of_ble_eq_true rfl) rfl ?_
        refine aw_iload_n dX11_dreads_67 rfl ?_
        refine aw_if_le (tgt := 82) dX11_dreads_68 (by decide) (fun c_45 => ?_) (fun c_45 => ?_)
        · skip
          refine aw_iload_n dX11_dreads_82 rfl ?_
          refine aw_ireti dX11_dreads_83 rfl (Nat.le_of_ble_eq_true rfl) (Nat.le_of_ble_eq_true rfl) ?_
          exact ⟨Nat.le_succ _, Nat.le_refl _, Or.inl ⟨(by have e0 : (0 : Int32).toInt = 0 := (by decide); have e1 : (1 : Int32).toInt = 1 := (by decide); have e11 : (11 : Int32).toInt = 11 := (by decide); have e12 : (12 : Int32).toInt = 12 := (by decide); have e120 : (120 : Int32).toInt = 120 := (by decide); have q0 := c_2; have q1 := c_3; have q2 := c_13; have q3 := h_6; simp only [cDr, ← Int32.toInt_inj, Int32.le_iff_toInt_le, Int32.lt_iff_toInt_lt] at q0 q1 q2 q3 ⊢; omega), h_39.trans (dreadsA_of e_1 m_14e (by omega)).symm⟩, Or.inl ⟨(by have e0 : (0 : Int32).toInt = 0 := (by decide); have e1 : (1 : Int32).toInt = 1 := (by decide); have e11 : (11 : Int32).toInt = 11 := (by decide); have e12 : (12 : Int32).toInt = 12 := (by decide); have e120 : (120 : Int32).toInt = 120 := (by decide); have q0 := c_2; have q1 := c_3; have q2 := c_13; have q3 := h_6; simp only [cDr, ← Int32.toInt_inj, Int32.le_iff_toInt_le, Int32.lt_iff_toInt_lt] at q0 q1 q2 q3 ⊢; omega), ((JW.fI q_38 (by omega) (nfc (by omega) (nfc (by omega) (nfc (by omega) (nfc (by omega) nf0))))).trans ((congrArg (fun z => fI z 1) (f_32 _ (by omega))).trans ((congrArg (fun z => fI z 1) (k_29 _ (by omega))).trans ((JW.fI q_22 (by omega) (nfc (by omega) (nfc (by omega) (nfc (by omega) (nfc (by omega) (nfc (by omega) (nfc (by omega) (nfc (by omega) (nfc (by omega) (nfc (by omega) nf0)))))))))).trans h_16.1))))⟩, ((JW.fI q_38 (by omega) (nfc (by omega) (nfc (by omega) (nfc (by omega) (nfc (by omega) nf0))))).trans ((congrArg (fun z => fI z 7) (f_32 _ (by omega))).trans ((congrArg (fun z => fI z 7) (k_29 _ (by omega))).trans ((JW.fI q_22 (by omega) (nfc (by omega) (nfc (by omega) (nfc (by omega) (nfc (by omega) (nfc (by omega) (nfc (by omega) (nfc (by omega) (nfc (by omega) (nfc (by omega) nf0)))))))))).trans ((JW.fI q_15 (by omega) (nfc (by omega) (nfc (by omega) (nfc (by omega) (nfc (by omega) nf0))))).trans (Eq.refl (fI (V 3) 7))))))), JW.trans jA_33 (JW.weakN j_40)⟩
        · skip
          refine aw_aload_n dX11_dreads_71 rfl ?_
          obtain ⟨ek_46, x_46, y_46, e_46, hx_46, hy_46⟩ := JW.get j_40 ct_0
          refine aw_get dX11_dreads_72 fl_X11_19 e_46 (by omega) rfl ?_
          refine aw_aload_n dX11_dreads_75 rfl ?_
          refine aw_get dX11_dreads_76 fl_X11_23 e_46 (by omega) rfl ?_
          obtain ⟨pe_51, dd_51, ni_51, xx_51, e_51⟩ := JW.get j_40 (ctc_0 cA_3)
          refine aw_callVv (J' := jX0_copyFrom) (As := [.ref (b + 21)]) (st := []) dX11_dreads_79 tb_581 ok_X0_copyFrom ⟨_, e_51⟩ (by omega) rfl rfl (g_X0_copyFromK l D b (N + 1) V_41 (by omega) j_40.1 3 cA_3 21 cA_21) rfl (Nat.le_of_ble_eq_true rfl) ⟨Nat.le_of_ble_eq_true rfl, Nat.le_of_ble_eq_true rfl, Nat.le_of_ble_eq_true rfl, Nat.le_of_ble_eq_true rfl⟩ (fun  N_52 V_50 q_53 => ?_)
          obtain ⟨h_48, rfl, q_47⟩ := q_53
          have j_49 := JW.trans j_40 (JW.weak q_47 (Sub.cons LM0 (by decide) (by decide) (by decide) (Or.inl rfl) (Sub.cons (LMs (LMs (LMs (LMs (LMs (LMs (LMs (LMs (LMs (LMs LM0)))))))))) (by decide) (by decide) (by decide) (Or.inr ⟨by decide, by decide⟩) (Sub.cons (LMs (LMs (LMs (LMs (LMs (LMs (LMs (LMs (LMs (LMs (LMs LM0))))))))))) (by decide) (by decide) (by decide) (Or.inr ⟨by decide, by decide⟩) (Sub.cons (LMs (LMs (LMs (LMs (LMs (LMs (LMs (LMs (LMs (LMs (LMs (LMs LM0)))))))))))) (by decide) (by decide) (by decide) (Or.inr ⟨by decide, by decide⟩) (Sub.cons (LMs (LMs (LMs (LMs (LMs (LMs (LMs (LMs (LMs (LMs (LMs (LMs (LMs LM0))))))))))))) (by decide) (by decide) (by decide) (Or.inr ⟨by decide, by decide⟩) (Sub.cons LM0 (by decide) (by decide) (by decide) (Or.inl rfl) (Sub.cons LM0 (by decide) (by decide) (by decide) (Or.inl rfl) (Sub.cons LM0 (by decide) (by decide) (by decide) (Or.inl rfl) (Sub.cons LM0 (by decide) (by decide) (by decide) (Or.inl rfl) Sub.nil))))))))))
          refine aw_iload_n dX11_dreads_82 rfl ?_
          refine aw_ireti dX11_dreads_83 rfl (Nat.le_of_ble_eq_true rfl) (Nat.le_of_ble_eq_true rfl) ?_
          exact ⟨Nat.le_succ _, Nat.le_refl _, Or.inl ⟨(by have e0 : (0 : Int32).toInt = 0 := (by decide); have e1 : (1 : Int32).toInt = 1 := (by decide); have e11 : (11 : Int32).toInt = 11 := (by decide); have e12 : (12 : Int32).toInt = 12 := (by decide); have e120 : (120 : Int32).toInt = 120 := (by decide); have q0 := c_2; have q1 := c_3; have q2 := c_13; have q3 := h_6; simp only [cDr, ← Int32.toInt_inj, Int32.le_iff_toInt_le, Int32.lt_iff_toInt_lt] at q0 q1 q2 q3 ⊢; omega), h_39.trans (dreadsA_of e_1 m_14e (by omega)).symm⟩, Or.inl ⟨(by have e0 : (0 : Int32).toInt = 0 := (by decide); have e1 : (1 : Int32).toInt = 1 := (by decide); have e11 : (11 : Int32).toInt = 11 := (by decide); have e12 : (12 : Int32).toInt = 12 := (by decide); have e120 : (120 : Int32).toInt = 120 := (by decide); have q0 := c_2; have q1 := c_3; have q2 := c_13; have q3 := h_6; simp only [cDr, ← Int32.toInt_inj, Int32.le_iff_toInt_le, Int32.lt_iff_toInt_lt] at q0 q1 q2 q3 ⊢; omega), ((JW.fI q_47 (by omega) (nfc (by omega) (nfc (by omega) (nfc (by omega) (nfc (by omega) (nfc (by omega) (nfc (by omega) (nfc (by omega) (nfc (by omega) (nfc (by omega) nf0)))))))))).trans ((JW.fI q_38 (by omega) (nfc (by omega) (nfc (by omega) (nfc (by omega) (nfc (by omega) nf0))))).trans ((congrArg (fun z => fI z 1) (f_32 _ (by omega))).trans ((congrArg (fun z => fI z 1) (k_29 _ (by omega))).trans ((JW.fI q_22 (by omega) (nfc (by omega) (nfc (by omega) (nfc (by omega) (nfc (by omega) (nfc (by omega) (nfc (by omega) (nfc (by omega) (nfc (by omega) (nfc (by omega) nf0)))))))))).trans h_16.1)))))⟩, (h_48.trans ((JW.fI q_38 (by omega) (nfc (by omega) (nfc (by omega) (nfc (by omega) (nfc (by omega) nf0))))).trans ((congrArg (fun z => fI z 7) (f_32 _ (by omega))).trans ((congrArg (fun z => fI z 7) (k_29 _ (by omega))).trans (h_23.trans ((JW.fI q_15 (by omega) (nfc (by omega) (nfc (by omega) (nfc (by omega) (nfc (by omega) nf0))))).trans (Eq.refl (fI (V 3) 7)))))))), JW.trans jA_33 (JW.weakN j_49)⟩
      · skip
        refine aw_iconst (v := (-1)) dX11_dreads_24 (by decide) ?_
        refine aw_ireti dX11_dreads_25 rfl (Nat.le_of_ble_eq_true rfl) (Nat.le_of_ble_eq_true rfl) ?_
        exact ⟨Nat.le_refl _, Nat.le_succ _, Or.inr ⟨(by have e0 : (0 : Int32).toInt = 0 := (by decide); have e1 : (1 : Int32).toInt = 1 := (by decide); have e11 : (11 : Int32).toInt = 11 := (by decide); have e12 : (12 : Int32).toInt = 12 := (by decide); have e120 : (120 : Int32).toInt = 120 := (by decide); have q0 := c_2; have q1 := c_3; have q2 := c_13; have q3 := h_6; simp only [cDr, ← Int32.toInt_inj, Int32.le_iff_toInt_le, Int32.lt_iff_toInt_lt] at q0 q1 q2 q3 ⊢; omega), rfl⟩, Or.inr ⟨(by have e0 : (0 : Int32).toInt = 0 := (by decide); have e1 : (1 : Int32).toInt = 1 := (by decide); have e11 : (11 : Int32).toInt = 11 := (by decide); have e12 : (12 : Int32).toInt = 12 := (by decide); have e120 : (120 : Int32).toInt = 120 := (by decide); have q0 := c_2; have q1 := c_3; have q2 := c_13; have q3 := h_6; simp only [cDr, ← Int32.toInt_inj, Int32.le_iff_toInt_le, Int32.lt_iff_toInt_lt] at q0 q1 q2 q3 ⊢; omega), (Eq.refl (fI (V 1) 1))⟩, (Eq.refl (fI (V 3) 7)), hJ0⟩

def ap4 (g : Nat → Int32) (s : Nat) (v : Int32) : Nat → Int32 := upd (upd (upd (upd g s ((v >>> (24 &&& 31)) &&& 255)) (s + 1) ((v >>> (16 &&& 31)) &&& 255)) (s + 1 + 1) ((v >>> (8 &&& 31)) &&& 255)) (s + 1 + 1 + 1) ((v >>> (0 &&& 31)) &&& 255)
theorem ap4_of {D : va_G} {V V' : Wd} {g : Nat → Int32} {s : Nat} {v : Int32} (e0 : V 2 = cI D 260 g) (e : V' 2 = cI D 260 (upd (upd (upd (upd g (nI s).toNatClampNeg ((v >>> (24 &&& 31)) &&& 255)) (nI (s + 1)).toNatClampNeg ((v >>> (16 &&& 31)) &&& 255)) (nI (s + 1 + 1)).toNatClampNeg ((v >>> (8 &&& 31)) &&& 255)) (nI (s + 1 + 1 + 1)).toNatClampNeg ((v >>> (0 &&& 31)) &&& 255))) (hs : s + 4 ≤ 260) : fI (V' 2) = ap4 (fI (V 2)) s v := by
  have hf : fI (V 2) = g := funext fun k => by rw [e0]; rfl
  rw [nI_clamp (n := s) (by omega), nI_clamp (n := s + 1) (by omega), nI_clamp (n := s + 1 + 1) (by omega), nI_clamp (n := s + 1 + 1 + 1) (by omega)] at e
  rw [hf]
  exact funext fun k => by rw [e]; rfl
def ap20 (g : Nat → Int32) (s : Nat) (v0 v1 v2 v3 v4 : Int32) : Nat → Int32 := ap4 (ap4 (ap4 (ap4 (ap4 g s v0) (s + 4) v1) (s + 4 + 4) v2) (s + 4 + 4 + 4) v3) (s + 4 + 4 + 4 + 4) v4
def FDB (s : Int32) (g g9 : Nat → Int32) (v0 v1 v2 v3 v4 : Int32) : Prop := (240 < s ∧ g9 = g) ∨ (¬ 240 < s ∧ g9 = ap20 g s.toNatClampNeg v0 v1 v2 v3 v4)

set_option maxHeartbeats 4000000 in
set_option maxRecDepth 100000 in
theorem g_X10_appendS (l : Launch) (D : va_G) (b : Nat) (N : Nat) (V : Wd) (hN : 100 ≤ N) (hW : CW D b V) (n0 : Int32) (s : Nat) (hs : fI (V 1) 1 = nI s ∧ s + 4 ≤ 260) : MV l D b 0 jX10_append [.ref (b + 1), .int n0] N V 0 0 (fun N9 V9 => (fI (V9 1) 1 = nI (s + 4) ∧ fI (V9 2) = ap4 (fI (V 2)) s n0) ∧ N = N9 ∧ JW D b N [(2, 2, 0, 1000000), (1, 1, 1, 1)] V V9) := by
  have hJ0 : JW D b N [(2, 2, 0, 1000000), (1, 1, 1, 1)] V V := JW.rf hW
  refine mw_of (by decide) (by simp [Value.category]) (Nat.le_of_ble_eq_true rfl) ?_
  show AW l D b jX10_append (fx_rm 0 0 0) none (fx_MQ D b 0 0 (fx_qv (fun N9 V9 => (fI (V9 1) 1 = nI (s + 4) ∧ fI (V9 2) = ap4 (fI (V 2)) s n0) ∧ N = N9 ∧ JW D b N [(2, 2, 0, 1000000), (1, 1, 1, 1)] V V9))) 0 [some (.ref (b + 1)), some (.int n0), none] [] N V 0 0
  obtain ⟨hs0, hs4⟩ := hs
  obtain ⟨g_1, e_1⟩ := JW.get hJ0 ct_2
  refine aw_bipush (v := 24) dX10_append_0 (by decide) ?_
  refine aw_istore_n (ls' := [some (.ref (b + 1)), some (.int n0), some (.int 24)]) dX10_append_2 (Nat.le_of_ble_eq_true rfl) rfl ?_
  refine aw_iload_n dX10_append_3 rfl ?_
  refine aw_if_lt (tgt := 58) dX10_append_4 (by decide) (fun c_2 => ?_) (fun c_2 => ?_)
  · exact absurd c_2 (by decide)
  refine aw_aload_n dX10_append_7 rfl ?_
  obtain ⟨ts_3, tn_3, tf_3, ta_3, e_3, hta_3⟩ := JW.get hJ0 ct_1
  refine aw_get dX10_append_8 fl_X10_15 e_3 (by omega) rfl ?_
  refine aw_eqi (y := (nI s)) ((Eq.symm (congrArg (fun z => fI z 1) e_3)).trans hs0) ?_
  refine aw_if_lt (tgt := 52) dX10_append_11 (by decide) (fun c_4 => ?_) (fun c_4 => ?_)
  · have nc_4 : s < 0 := (nI_ltI (a := s) (b := 0) (by omega) (by omega)).mp c_4
    omega
  have nc_4 : ¬ (s < 0) := fun z => c_4 ((nI_ltI (a := s) (b := 0) (by omega) (by omega)).mpr z)
  refine aw_aload_n dX10_append_14 rfl ?_
  refine aw_get dX10_append_15 fl_X10_15 e_3 (by omega) rfl ?_
  refine aw_eqi (y := (nI s)) ((Eq.symm (congrArg (fun z => fI z 1) e_3)).trans hs0) ?_
  refine aw_aload_n dX10_append_18 rfl ?_
  refine aw_get dX10_append_19 fl_X10_9 e_3 (by omega) rfl ?_
  refine aw_alen (t0 := 0) (v := 260) dX10_append_22 e_1 (by omega) rfl rfl ?_
  refine aw_icmp_ge (tgt := 52) dX10_append_23 (by decide) (fun c_5 => ?_) (fun c_5 => ?_)
  · have nc_5 : 260 ≤ s := (nI_leI (a := 260) (b := s) (by omega) (by omega)).mp c_5
    omega
  have nc_5 : ¬ (260 ≤ s) := fun z => c_5 ((nI_leI (a := 260) (b := s) (by omega) (by omega)).mpr z)
  refine aw_aload_n dX10_append_26 rfl ?_
  refine aw_get dX10_append_27 fl_X10_9 e_3 (by omega) rfl ?_
  refine aw_aload_n dX10_append_30 rfl ?_
  refine aw_get dX10_append_31 fl_X10_15 e_3 (by omega) rfl ?_
  refine aw_eqi (y := (nI s)) ((Eq.symm (congrArg (fun z => fI z 1) e_3)).trans hs0) ?_
  refine aw_iload_n dX10_append_34 rfl ?_
  refine aw_iload_n dX10_append_35 rfl ?_
  refine aw_ishr dX10_append_36 ?_
  refine aw_sipush (v := 255) dX10_append_37 (by decide) ?_
  refine aw_iand dX10_append_40 ?_
  refine aw_iast dX10_append_41 e_1 (by omega) (vp_in_nI (n := s) (by omega) (by omega)) ?_
  refine aw_up hJ0 ct_2 ⟨_, rfl⟩ (WA LM0 (by decide) (by decide)) (fun V_6 j_6 k_6 e_6 => ?_)
  refine aw_aload_n dX10_append_42 rfl ?_
  refine aw_dup dX10_append_43 rfl ?_
  refine aw_get dX10_append_44 fl_X10_15 ((k_6 _ (by decide)).trans e_3) (by omega) rfl ?_
  refine aw_eqi (y := (nI s)) ((Eq.symm (congrArg (fun z => fI z 1) ((k_6 _ (by decide)).trans e_3))).trans ((congrArg (fun z => fI z 1) (k_6 _ (by omega))).trans hs0)) ?_
  refine aw_iconst (v := 1) dX10_append_47 (by decide) ?_
  refine aw_iadd dX10_append_48 ?_
  refine aw_eqi (y := nI (s + 1)) (nI_add _ _) ?_
  refine aw_put dX10_append_49 fp_X10_15 ((k_6 _ (by decide)).trans e_3) (by omega) rfl rfl (Nat.le_of_ble_eq_true rfl) rfl ?_
  refine aw_up j_6 ct_1 ⟨_, _, _, ta_3, rfl, (by first | omega | (split <;> omega))⟩ (WO (s := 1) (x := .int (nI (s + 1))) ((k_6 _ (by decide)).trans e_3) rfl (LMs LM0) (by decide) (by decide) (by decide) (Or.inl (by decide))) (fun V_7 j_7 k_7 e_7 => ?_)
  refine aw_iinc (v := 16) (ls' := [some (.ref (b + 1)), some (.int n0), some (.int 16)]) dX10_append_52 rfl (by decide) (Nat.le_of_ble_eq_true rfl) rfl ?_
  refine aw_goto (tgt := 3) dX10_append_55 (by decide) ?_
  refine aw_iload_n dX10_append_3 rfl ?_
  refine aw_if_lt (tgt := 58) dX10_append_4 (by decide) (fun c_8 => ?_) (fun c_8 => ?_)
  · exact absurd c_8 (by decide)
  refine aw_aload_n dX10_append_7 rfl ?_
  refine aw_get dX10_append_8 fl_X10_15 e_7 (by omega) rfl ?_
  refine aw_if_lt (tgt := 52) dX10_append_11 (by decide) (fun c_9 => ?_) (fun c_9 => ?_)
  · have nc_9 : (s + 1) < 0 := (nI_ltI (a := (s + 1)) (b := 0) (by omega) (by omega)).mp c_9
    omega
  have nc_9 : ¬ ((s + 1) < 0) := fun z => c_9 ((nI_ltI (a := (s + 1)) (b := 0) (by omega) (by omega)).mpr z)
  refine aw_aload_n dX10_append_14 rfl ?_
  refine aw_get dX10_append_15 fl_X10_15 e_7 (by omega) rfl ?_
  refine aw_aload_n dX10_append_18 rfl ?_
  refine aw_get dX10_append_19 fl_X10_9 e_7 (by omega) rfl ?_
  refine aw_alen (t0 := 0) (v := 260) dX10_append_22 ((k_7 _ (by decide)).trans e_6) (by omega) rfl rfl ?_
  refine aw_icmp_ge (tgt := 52) dX10_append_23 (by decide) (fun c_10 => ?_) (fun c_10 => ?_)
  · have nc_10 : 260 ≤ (s + 1) := (nI_leI (a := 260) (b := (s + 1)) (by omega) (by omega)).mp c_10
    omega
  have nc_10 : ¬ (260 ≤ (s + 1)) := fun z => c_10 ((nI_leI (a := 260) (b := (s + 1)) (by omega) (by omega)).mpr z)
  refine aw_aload_n dX10_append_26 rfl ?_
  refine aw_get dX10_append_27 fl_X10_9 e_7 (by omega) rfl ?_
  refine aw_aload_n dX10_append_30 rfl ?_
  refine aw_get dX10_append_31 fl_X10_15 e_7 (by omega) rfl ?_
  refine aw_iload_n dX10_append_34 rfl ?_
  refine aw_iload_n dX10_append_35 rfl ?_
  refine aw_ishr dX10_append_36 ?_
  refine aw_sipush (v := 255) dX10_append_37 (by decide) ?_
  refine aw_iand dX10_append_40 ?_
  refine aw_iast dX10_append_41 ((k_7 _ (by decide)).trans e_6) (by omega) (vp_in_nI (n := (s + 1)) (by omega) (by omega)) ?_
  refine aw_up j_7 ct_2 ⟨_, rfl⟩ (WA LM0 (by decide) (by decide)) (fun V_11 j_11 k_11 e_11 => ?_)
  refine aw_aload_n dX10_append_42 rfl ?_
  refine aw_dup dX10_append_43 rfl ?_
  refine aw_get dX10_append_44 fl_X10_15 ((k_11 _ (by decide)).trans e_7) (by omega) rfl ?_
  refine aw_iconst (v := 1) dX10_append_47 (by decide) ?_
  refine aw_iadd dX10_append_48 ?_
  refine aw_eqi (y := nI ((s + 1) + 1)) (nI_add _ _) ?_
  refine aw_put dX10_append_49 fp_X10_15 ((k_11 _ (by decide)).trans e_7) (by omega) rfl rfl (Nat.le_of_ble_eq_true rfl) rfl ?_
  refine aw_up j_11 ct_1 ⟨_, _, _, ta_3, rfl, (by first | omega | (split <;> omega))⟩ (WO (s := 1) (x := .int (nI ((s + 1) + 1))) ((k_11 _ (by decide)).trans e_7) rfl (LMs LM0) (by decide) (by decide) (by decide) (Or.inl (by decide))) (fun V_12 j_12 k_12 e_12 => ?_)
  refine aw_iinc (v := 8) (ls' := [some (.ref (b + 1)), some (.int n0), some (.int 8)]) dX10_append_52 rfl (by decide) (Nat.le_of_ble_eq_true rfl) rfl ?_
  refine aw_goto (tgt := 3) dX10_append_55 (by decide) ?_
  refine aw_iload_n dX10_append_3 rfl ?_
  refine aw_if_lt (tgt := 58) dX10_append_4 (by decide) (fun c_13 => ?_) (fun c_13 => ?_)
  · exact absurd c_13 (by decide)
  refine aw_aload_n dX10_append_7 rfl ?_
  refine aw_get dX10_append_8 fl_X10_15 e_12 (by omega) rfl ?_
  refine aw_if_lt (tgt := 52) dX10_append_11 (by decide) (fun c_14 => ?_) (fun c_14 => ?_)
  · have nc_14 : ((s + 1) + 1) < 0 := (nI_ltI (a := ((s + 1) + 1)) (b := 0) (by omega) (by omega)).mp c_14
    omega
  have nc_14 : ¬ (((s + 1) + 1) < 0) := fun z => c_14 ((nI_ltI (a := ((s + 1) + 1)) (b := 0) (by omega) (by omega)).mpr z)
  refine aw_aload_n dX10_append_14 rfl ?_
  refine aw_get dX10_append_15 fl_X10_15 e_12 (by omega) rfl ?_
  refine aw_aload_n dX10_append_18 rfl ?_
  refine aw_get dX10_append_19 fl_X10_9 e_12 (by omega) rfl ?_
  refine aw_alen (t0 := 0) (v := 260) dX10_append_22 ((k_12 _ (by decide)).trans e_11) (by omega) rfl rfl ?_
  refine aw_icmp_ge (tgt := 52) dX10_append_23 (by decide) (fun c_15 => ?_) (fun c_15 => ?_)
  · have nc_15 : 260 ≤ ((s + 1) + 1) := (nI_leI (a := 260) (b := ((s + 1) + 1)) (by omega) (by omega)).mp c_15
    omega
  have nc_15 : ¬ (260 ≤ ((s + 1) + 1)) := fun z => c_15 ((nI_leI (a := 260) (b := ((s + 1) + 1)) (by omega) (by omega)).mpr z)
  refine aw_aload_n dX10_append_26 rfl ?_
  refine aw_get dX10_append_27 fl_X10_9 e_12 (by omega) rfl ?_
  refine aw_aload_n dX10_append_30 rfl ?_
  refine aw_get dX10_append_31 fl_X10_15 e_12 (by omega) rfl ?_
  refine aw_iload_n dX10_append_34 rfl ?_
  refine aw_iload_n dX10_append_35 rfl ?_
  refine aw_ishr dX10_append_36 ?_
  refine aw_sipush (v := 255) dX10_append_37 (by decide) ?_
  refine aw_iand dX10_append_40 ?_
  refine aw_iast dX10_append_41 ((k_12 _ (by decide)).trans e_11) (by omega) (vp_in_nI (n := ((s + 1) + 1)) (by omega) (by omega)) ?_
  refine aw_up j_12 ct_2 ⟨_, rfl⟩ (WA LM0 (by decide) (by decide)) (fun V_16 j_16 k_16 e_16 => ?_)
  refine aw_aload_n dX10_append_42 rfl ?_
  refine aw_dup dX10_append_43 rfl ?_
  refine aw_get dX10_append_44 fl_X10_15 ((k_16 _ (by decide)).trans e_12) (by omega) rfl ?_
  refine aw_iconst (v := 1) dX10_append_47 (by decide) ?_
  refine aw_iadd dX10_append_48 ?_
  refine aw_eqi (y := nI (((s + 1) + 1) + 1)) (nI_add _ _) ?_
  refine aw_put dX10_append_49 fp_X10_15 ((k_16 _ (by decide)).trans e_12) (by omega) rfl rfl (Nat.le_of_ble_eq_true rfl) rfl ?_
  refine aw_up j_16 ct_1 ⟨_, _, _, ta_3, rfl, (by first | omega | (split <;> omega))⟩ (WO (s := 1) (x := .int (nI (((s + 1) + 1) + 1))) ((k_16 _ (by decide)).trans e_12) rfl (LMs LM0) (by decide) (by decide) (by decide) (Or.inl (by decide))) (fun V_17 j_17 k_17 e_17 => ?_)
  refine aw_iinc (v := 0) (ls' := [some (.ref (b + 1)), some (.int n0), some (.int 0)]) dX10_append_52 rfl (by decide) (Nat.le_of_ble_eq_true rfl) rfl ?_
  refine aw_goto (tgt := 3) dX10_append_55 (by decide) ?_
  refine aw_iload_n dX10_append_3 rfl ?_
  refine aw_if_lt (tgt := 58) dX10_append_4 (by decide) (fun c_18 => ?_) (fun c_18 => ?_)
  · exact absurd c_18 (by decide)
  refine aw_aload_n dX10_append_7 rfl ?_
  refine aw_get dX10_append_8 fl_X10_15 e_17 (by omega) rfl ?_
  refine aw_if_lt (tgt := 52) dX10_append_11 (by decide) (fun c_19 => ?_) (fun c_19 => ?_)
  · have nc_19 : (((s + 1) + 1) + 1) < 0 := (nI_ltI (a := (((s + 1) + 1) + 1)) (b := 0) (by omega) (by omega)).mp c_19
    omega
  have nc_19 : ¬ ((((s + 1) + 1) + 1) < 0) := fun z => c_19 ((nI_ltI (a := (((s + 1) + 1) + 1)) (b := 0) (by omega) (by omega)).mpr z)
  refine aw_aload_n dX10_append_14 rfl ?_
  refine aw_get dX10_append_15 fl_X10_15 e_17 (by omega) rfl ?_
  refine aw_aload_n dX10_append_18 rfl ?_
  refine aw_get dX10_append_19 fl_X10_9 e_17 (by omega) rfl ?_
  refine aw_alen (t0 := 0) (v := 260) dX10_append_22 ((k_17 _ (by decide)).trans e_16) (by omega) rfl rfl ?_
  refine aw_icmp_ge (tgt := 52) dX10_append_23 (by decide) (fun c_20 => ?_) (fun c_20 => ?_)
  · have nc_20 : 260 ≤ (((s + 1) + 1) + 1) := (nI_leI (a := 260) (b := (((s + 1) + 1) + 1)) (by omega) (by omega)).mp c_20
    omega
  have nc_20 : ¬ (260 ≤ (((s + 1) + 1) + 1)) := fun z => c_20 ((nI_leI (a := 260) (b := (((s + 1) + 1) + 1)) (by omega) (by omega)).mpr z)
  refine aw_aload_n dX10_append_26 rfl ?_
  refine aw_get dX10_append_27 fl_X10_9 e_17 (by omega) rfl ?_
  refine aw_aload_n dX10_append_30 rfl ?_
  refine aw_get dX10_append_31 fl_X10_15 e_17 (by omega) rfl ?_
  refine aw_iload_n dX10_append_34 rfl ?_
  refine aw_iload_n dX10_append_35 rfl ?_
  refine aw_ishr dX10_append_36 ?_
  refine aw_sipush (v := 255) dX10_append_37 (by decide) ?_
  refine aw_iand dX10_append_40 ?_
  refine aw_iast dX10_append_41 ((k_17 _ (by decide)).trans e_16) (by omega) (vp_in_nI (n := (((s + 1) + 1) + 1)) (by omega) (by omega)) ?_
  refine aw_up j_17 ct_2 ⟨_, rfl⟩ (WA LM0 (by decide) (by decide)) (fun V_21 j_21 k_21 e_21 => ?_)
  refine aw_aload_n dX10_append_42 rfl ?_
  refine aw_dup dX10_append_43 rfl ?_
  refine aw_get dX10_append_44 fl_X10_15 ((k_21 _ (by decide)).trans e_17) (by omega) rfl ?_
  refine aw_iconst (v := 1) dX10_append_47 (by decide) ?_
  refine aw_iadd dX10_append_48 ?_
  refine aw_eqi (y := nI ((((s + 1) + 1) + 1) + 1)) (nI_add _ _) ?_
  refine aw_put dX10_append_49 fp_X10_15 ((k_21 _ (by decide)).trans e_17) (by omega) rfl rfl (Nat.le_of_ble_eq_true rfl) rfl ?_
  refine aw_up j_21 ct_1 ⟨_, _, _, ta_3, rfl, (by first | omega | (split <;> omega))⟩ (WO (s := 1) (x := .int (nI ((((s + 1) + 1) + 1) + 1))) ((k_21 _ (by decide)).trans e_17) rfl (LMs LM0) (by decide) (by decide) (by decide) (Or.inl (by decide))) (fun V_22 j_22 k_22 e_22 => ?_)
  refine aw_iinc (v := (-8)) (ls' := [some (.ref (b + 1)), some (.int n0), some (.int (-8))]) dX10_append_52 rfl (by decide) (Nat.le_of_ble_eq_true rfl) rfl ?_
  refine aw_goto (tgt := 3) dX10_append_55 (by decide) ?_
  refine aw_iload_n dX10_append_3 rfl ?_
  refine aw_if_lt (tgt := 58) dX10_append_4 (by decide) (fun c_23 => ?_) (fun c_23 => ?_)
  rotate_left
  · exact absurd (by decide) c_23
  refine aw_vreti dX10_append_58 rfl (Nat.le_of_ble_eq_true rfl) (Nat.le_of_ble_eq_true rfl) ?_
  exact ⟨⟨((congrArg (fun z => fI z 1) e_22).trans rfl).trans (congrArg nI (by omega)), ap4_of e_1 ((k_22 _ (by decide)).trans e_21) hs4⟩, rfl, j_22⟩

set_option maxHeartbeats 4000000 in
set_option maxRecDepth 100000 in
theorem g_X11_feedS (l : Launch) (D : va_G) (b : Nat) (N : Nat) (V : Wd) (hN : 100 ≤ N) (hW : CW D b V) (n0 : Int32) (n1 : Int32) (n2 : Int32) (n3 : Int32) (n4 : Int32) (hs : ∃ s : Nat, fI (V 1) 1 = nI s ∧ s ≤ 260) : MI l D b 1 jX11_feed [.ref (b + 0), .int n0, .int n1, .int n2, .int n3, .int n4] N V 0 0 (fun r N9 V9 => (FDS (fI (V 1) 1) r (fI (V9 1) 1) ∧ FDB (fI (V 1) 1) (fI (V 2)) (fI (V9 2)) n0 n1 n2 n3 n4) ∧ N = N9 ∧ JW D b N [(2, 2, 0, 1000000), (1, 1, 1, 1)] V V9) := by
  have hJ0 : JW D b N [(2, 2, 0, 1000000), (1, 1, 1, 1)] V V := JW.rf hW
  refine mw_of (by decide) (by simp [Value.category]) (Nat.le_of_ble_eq_true rfl) ?_
  show AW l D b jX11_feed (fx_rm 1 0 0) none (fx_MQ D b 0 0 (fx_qi (fun r N9 V9 => (FDS (fI (V 1) 1) r (fI (V9 1) 1) ∧ FDB (fI (V 1) 1) (fI (V 2)) (fI (V9 2)) n0 n1 n2 n3 n4) ∧ N = N9 ∧ JW D b N [(2, 2, 0, 1000000), (1, 1, 1, 1)] V V9))) 0 [some (.ref (b + 0)), some (.int n0), some (.int n1), some (.int n2), some (.int n3), some (.int n4)] [] N V 0 0
  obtain ⟨s, hs0, hs260⟩ := hs
  refine aw_aload_n dX11_feed_0 rfl ?_
  obtain ⟨ek_1, x_1, y_1, e_1, hx_1, hy_1⟩ := JW.get hJ0 ct_0
  refine aw_get dX11_feed_1 fl_X11_12 e_1 (by omega) rfl ?_
  obtain ⟨ts_2, tn_2, tf_2, ta_2, e_2, hta_2⟩ := JW.get hJ0 ct_1
  refine aw_get dX11_feed_4 fl_X11_71 e_2 (by omega) rfl ?_
  refine aw_eqi (y := (nI s)) ((Eq.symm (congrArg (fun z => fI z 1) e_2)).trans hs0) ?_
  refine aw_sipush (v := 240) dX11_feed_7 (by decide) ?_
  refine aw_icmp_le (tgt := 15) dX11_feed_10 (by decide) (fun c_3 => ?_) (fun c_3 => ?_)
  · skip
    have nc_3 : s ≤ 240 := (nI_leI (a := s) (b := 240) (by omega) (by omega)).mp c_3
    refine aw_aload_n dX11_feed_15 rfl ?_
    refine aw_get dX11_feed_16 fl_X11_12 e_1 (by omega) rfl ?_
    refine aw_iload_n dX11_feed_19 rfl ?_
    refine aw_callVv (J' := jX10_append) (As := [.int n0]) (st := []) dX11_feed_20 tb_259 ok_X10_append ⟨_, e_2⟩ (by omega) rfl rfl (g_X10_appendS l D b N V hN hJ0.1 n0 s ⟨hs0, by omega⟩) rfl (Nat.le_of_ble_eq_true rfl) ⟨Nat.le_of_ble_eq_true rfl, Nat.le_of_ble_eq_true rfl, Nat.le_of_ble_eq_true rfl, Nat.le_of_ble_eq_true rfl⟩ (fun  N_8 V_7 q_9 => ?_)
    obtain ⟨h_5, rfl, q_4⟩ := q_9
    have j_6 := JW.trans hJ0 (JW.weak q_4 (Sub.cons LM0 (by decide) (by decide) (by decide) (Or.inl rfl) (Sub.cons (LMs LM0) (by decide) (by decide) (by decide) (Or.inr ⟨by decide, by decide⟩) Sub.nil)))
    obtain ⟨h_5s, h_5b⟩ := h_5
    refine aw_aload_n dX11_feed_23 rfl ?_
    obtain ⟨ek_10, x_10, y_10, e_10, hx_10, hy_10⟩ := JW.get j_6 ct_0
    refine aw_get dX11_feed_24 fl_X11_12 e_10 (by omega) rfl ?_
    refine aw_iload_n dX11_feed_27 rfl ?_
    obtain ⟨ts_15, tn_15, tf_15, ta_15, e_15, hta_15⟩ := JW.get j_6 ct_1
    refine aw_callVv (J' := jX10_append) (As := [.int n1]) (st := []) dX11_feed_28 tb_259 ok_X10_append ⟨_, e_15⟩ (by omega) rfl rfl (g_X10_appendS l D b N V_7 hN j_6.1 n1 (s + 4) ⟨h_5s, by omega⟩) rfl (Nat.le_of_ble_eq_true rfl) ⟨Nat.le_of_ble_eq_true rfl, Nat.le_of_ble_eq_true rfl, Nat.le_of_ble_eq_true rfl, Nat.le_of_ble_eq_true rfl⟩ (fun  N_16 V_14 q_17 => ?_)
    obtain ⟨h_12, rfl, q_11⟩ := q_17
    have j_13 := JW.trans j_6 (JW.weak q_11 (Sub.cons LM0 (by decide) (by decide) (by decide) (Or.inl rfl) (Sub.cons (LMs LM0) (by decide) (by decide) (by decide) (Or.inr ⟨by decide, by decide⟩) Sub.nil)))
    obtain ⟨h_12s, h_12b⟩ := h_12
    refine aw_aload_n dX11_feed_31 rfl ?_
    obtain ⟨ek_18, x_18, y_18, e_18, hx_18, hy_18⟩ := JW.get j_13 ct_0
    refine aw_get dX11_feed_32 fl_X11_12 e_18 (by omega) rfl ?_
    refine aw_iload_n dX11_feed_35 rfl ?_
    obtain ⟨ts_23, tn_23, tf_23, ta_23, e_23, hta_23⟩ := JW.get j_13 ct_1
    refine aw_callVv (J' := jX10_append) (As := [.int n2]) (st := []) dX11_feed_36 tb_259 ok_X10_append ⟨_, e_23⟩ (by omega) rfl rfl (g_X10_appendS l D b N V_14 hN j_13.1 n2 ((s + 4) + 4) ⟨h_12s, by omega⟩) rfl (Nat.le_of_ble_eq_true rfl) ⟨Nat.le_of_ble_eq_true rfl, Nat.le_of_ble_eq_true rfl, Nat.le_of_ble_eq_true rfl, Nat.le_of_ble_eq_true rfl⟩ (fun  N_24 V_22 q_25 => ?_)
    obtain ⟨h_20, rfl, q_19⟩ := q_25
    have j_21 := JW.trans j_13 (JW.weak q_19 (Sub.cons LM0 (by decide) (by decide) (by decide) (Or.inl rfl) (Sub.cons (LMs LM0) (by decide) (by decide) (by decide) (Or.inr ⟨by decide, by decide⟩) Sub.nil)))
    obtain ⟨h_20s, h_20b⟩ := h_20
    refine aw_aload_n dX11_feed_39 rfl ?_
    obtain ⟨ek_26, x_26, y_26, e_26, hx_26, hy_26⟩ := JW.get j_21 ct_0
    refine aw_get dX11_feed_40 fl_X11_12 e_26 (by omega) rfl ?_
    refine aw_iload dX11_feed_43 rfl ?_
    obtain ⟨ts_31, tn_31, tf_31, ta_31, e_31, hta_31⟩ := JW.get j_21 ct_1
    refine aw_callVv (J' := jX10_append) (As := [.int n3]) (st := []) dX11_feed_45 tb_259 ok_X10_append ⟨_, e_31⟩ (by omega) rfl rfl (g_X10_appendS l D b N V_22 hN j_21.1 n3 (((s + 4) + 4) + 4) ⟨h_20s, by omega⟩) rfl (Nat.le_of_ble_eq_true rfl) ⟨Nat.le_of_ble_eq_true rfl, Nat.le_of_ble_eq_true rfl, Nat.le_of_ble_eq_true rfl, Nat.le_of_ble_eq_true rfl⟩ (fun  N_32 V_30 q_33 => ?_)
    obtain ⟨h_28, rfl, q_27⟩ := q_33
    have j_29 := JW.trans j_21 (JW.weak q_27 (Sub.cons LM0 (by decide) (by decide) (by decide) (Or.inl rfl) (Sub.cons (LMs LM0) (by decide) (by decide) (by decide) (Or.inr ⟨by decide, by decide⟩) Sub.nil)))
    obtain ⟨h_28s, h_28b⟩ := h_28
    refine aw_aload_n dX11_feed_48 rfl ?_
    obtain ⟨ek_34, x_34, y_34, e_34, hx_34, hy_34⟩ := JW.get j_29 ct_0
    refine aw_get dX11_feed_49 fl_X11_12 e_34 (by omega) rfl ?_
    refine aw_iload dX11_feed_52 rfl ?_
    obtain ⟨ts_39, tn_39, tf_39, ta_39, e_39, hta_39⟩ := JW.get j_29 ct_1
    refine aw_callVv (J' := jX10_append) (As := [.int n4]) (st := []) dX11_feed_54 tb_259 ok_X10_append ⟨_, e_39⟩ (by omega) rfl rfl (g_X10_appendS l D b N V_30 hN j_29.1 n4 ((((s + 4) + 4) + 4) + 4) ⟨h_28s, by omega⟩) rfl (Nat.le_of_ble_eq_true rfl) ⟨Nat.le_of_ble_eq_true rfl, Nat.le_of_ble_eq_true rfl, Nat.le_of_ble_eq_true rfl, Nat.le_of_ble_eq_true rfl⟩ (fun  N_40 V_38 q_41 => ?_)
    obtain ⟨h_36, rfl, q_35⟩ := q_41
    have j_37 := JW.trans j_29 (JW.weak q_35 (Sub.cons LM0 (by decide) (by decide) (by decide) (Or.inl rfl) (Sub.cons (LMs LM0) (by decide) (by decide) (by decide) (Or.inr ⟨by decide, by decide⟩) Sub.nil)))
    obtain ⟨h_36s, h_36b⟩ := h_36
    refine aw_aload_n dX11_feed_57 rfl ?_
    obtain ⟨ek_42, x_42, y_42, e_42, hx_42, hy_42⟩ := JW.get j_37 ct_0
    refine aw_get dX11_feed_58 fl_X11_12 e_42 (by omega) rfl ?_
    obtain ⟨ts_43, tn_43, tf_43, ta_43, e_43, hta_43⟩ := JW.get j_37 ct_1
    refine aw_get dX11_feed_61 fl_X11_71 e_43 (by omega) rfl ?_
    refine aw_eqi (y := (nI (((((s + 4) + 4) + 4) + 4) + 4))) ((Eq.symm (congrArg (fun z => fI z 1) e_43)).trans h_36s) ?_
    refine aw_ireti dX11_feed_64 rfl (Nat.le_of_ble_eq_true rfl) (Nat.le_of_ble_eq_true rfl) ?_
    exact ⟨⟨Or.inr ⟨by rw [hs0]; exact Int32.not_lt.mpr c_3, by rw [hs0]; exact (congrArg nI (by omega)).trans (nI_a20 s).symm, by rw [hs0]; exact h_36s.trans ((congrArg nI (by omega)).trans (nI_a20 s).symm)⟩, Or.inr ⟨by rw [hs0]; exact Int32.not_lt.mpr c_3, by rw [hs0, nI_clamp (n := s) (by omega), ap20, h_36b, h_28b, h_20b, h_12b, h_5b]⟩⟩, rfl, j_37⟩
  · skip
    have nc_3 : ¬ (s ≤ 240) := fun z => c_3 ((nI_leI (a := s) (b := 240) (by omega) (by omega)).mpr z)
    refine aw_iconst (v := (-1)) dX11_feed_13 (by decide) ?_
    refine aw_ireti dX11_feed_14 rfl (Nat.le_of_ble_eq_true rfl) (Nat.le_of_ble_eq_true rfl) ?_
    exact ⟨⟨Or.inl ⟨by rw [hs0]; exact Int32.not_le.mp c_3, rfl, hs0.trans hs0.symm⟩, Or.inl ⟨by rw [hs0]; exact Int32.not_le.mp c_3, rfl⟩⟩, rfl, hJ0⟩
