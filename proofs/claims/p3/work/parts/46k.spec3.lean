abbrev CF : Type := Nat × Nat × List Nat
abbrev RO : Type := Int32 ⊕ (Nat × Unit)
def dpt : List Nat → Nat
  | [] => 0
  | k :: s => dpt s + (if 3 ≤ k then 1 else 0)
def opr (x : Int32) : Bool := decide (x = 43) || decide (x = 45) || decide (x = 42) || decide (x = 47) || decide (x = 37)
def cmr (x : Int32) : Bool := decide (x = 60) || decide (x = 62) || decide (x = 61)
def fac (x : Int32) : Bool := decide (x = 107) || decide (x = 100) || decide (x = 102) || decide (x = 118) || decide (x = 103) || decide (x = 109) || decide (x = 110) || decide (x = 111) || decide (x = 116) || decide (x = 119)
def stF (g : Nat → Int32) (n a : Nat) (s : List Nat) : CF ⊕ RO := if hd g n a = 91 then (if 6 ≤ dpt s then .inr (.inl (flt 5 a)) else .inl (0, a + 1, 3 :: s)) else if isDg (hd g n a) = true then (match num g n 5 a with
  | .inl f => .inr (.inl f)
  | .inr (a1, _) => .inl (1, a1, s)) else if fac (hd g n a) = true then .inl (1, a + 1, s) else .inr (.inl (flt 1 a))
def stO2 (g : Nat → Int32) (n a : Nat) : List Nat → CF ⊕ RO
  | 3 :: s => if hd g n a = 93 then .inl (1, a + 1, s) else .inr (.inl (flt 1 a))
  | 0 :: s => .inl (4, a, s)
  | 1 :: s => if cmr (hd g n a) = true then .inl (0, a + 1, 2 :: s) else .inr (.inl (flt 1 a))
  | 2 :: s => .inl (3, a, s)
  | _ => .inr (.inl 0)
def stOp (g : Nat → Int32) (n a : Nat) (s : List Nat) : CF ⊕ RO := if opr (hd g n a) = true then .inl (0, a + 1, s) else stO2 g n a s
def stT (g : Nat → Int32) (n a : Nat) (s : List Nat) : CF ⊕ RO := if hd g n a = 33 then (if 6 ≤ dpt s then .inr (.inl (flt 5 a)) else .inl (2, a + 1, 4 :: s)) else if hd g n a = 40 then (if 6 ≤ dpt s then .inr (.inl (flt 5 a)) else .inl (2, a + 1, 5 :: s)) else .inl (0, a, 1 :: s)
def stA (g : Nat → Int32) (n a : Nat) : List Nat → CF ⊕ RO
  | 4 :: s => .inl (3, a, s)
  | 5 :: s => if hd g n a = 38 ∨ hd g n a = 124 then .inl (2, a + 1, 5 :: s) else if hd g n a = 41 then (match s with
    | [] => .inr (.inr (a + 1, ()))
    | k :: s' => .inl (3, a + 1, k :: s')) else .inr (.inl (flt 1 a))
  | _ => .inr (.inl 0)
def stQ4 (g : Nat → Int32) (n a : Nat) (s : List Nat) : CF ⊕ RO := if hd g n a = 40 then .inl (2, a + 1, 5 :: s) else .inr (.inl (flt 1 a))
def stp (g : Nat → Int32) (n : Nat) : CF → CF ⊕ RO
  | (0, a, s) => stF g n a s
  | (1, a, s) => stOp g n a s
  | (2, a, s) => stT g n a s
  | (3, a, s) => stA g n a s
  | (_, a, s) => stQ4 g n a s
def rn (g : Nat → Int32) (n : Nat) : Nat → CF → Option RO
  | 0, _ => none
  | k + 1, c => match stp g n c with
    | .inl c' => rn g n k c'
    | .inr r => some r
def RES (g : Nat → Int32) (n : Nat) (c : CF) (r : RO) : Prop := ∃ k, rn g n k c = some r
section
variable {g : Nat → Int32} {n a a1 a2 : Nat} {s : List Nat} {c c' : CF} {r r' : RO} {f : Int32}
theorem RES.next (e : stp g n c = .inl c') (h : RES g n c' r) : RES g n c r := by
  obtain ⟨k, h⟩ := h
  refine ⟨k + 1, ?_⟩
  show (match stp g n c with
    | .inl c' => rn g n k c'
    | .inr r => some r) = some r
  rw [e]; exact h
theorem RES.done (e : stp g n c = .inr r) : RES g n c r := by
  refine ⟨1, ?_⟩
  show (match stp g n c with
    | .inl c' => rn g n 0 c'
    | .inr r => some r) = some r
  rw [e]
theorem rn_one : ∀ (k k' : Nat) (c : CF), rn g n k c = some r → rn g n k' c = some r' → r = r'
  | 0, _, c, h, _ => by cases h
  | _ + 1, 0, c, _, h => by cases h
  | k + 1, k' + 1, c, h, h' => by
    have h : (match stp g n c with
      | .inl c' => rn g n k c'
      | .inr r => some r) = some r := h
    have h' : (match stp g n c with
      | .inl c' => rn g n k' c'
      | .inr r => some r) = some r' := h'
    cases e : stp g n c with
    | inl c' => rw [e] at h h'; exact rn_one k k' c' h h'
    | inr q => rw [e] at h h'; exact (Option.some.inj h).symm.trans (Option.some.inj h')
theorem RES.one (h : RES g n c r) (h' : RES g n c r') : r = r' := by
  obtain ⟨k, h⟩ := h
  obtain ⟨k', h'⟩ := h'
  exact rn_one k k' c h h'
def stL (x : Int32) : Bool := decide (x = 101) || decide (x = 99) || decide (x = 115) || decide (x = 120)
def sta (g : Nat → Int32) (n a : Nat) : CF := if hd g n a = 120 then (4, a + 1, []) else (0, a + 1, [0])
noncomputable def lnL (g : Nat → Int32) (n a : Nat) : RO := Classical.epsilon (fun r => RES g n (sta g n a) r)
theorem lnL_of (h : RES g n (sta g n a) r) : lnL g n a = r := by
  have h2 : RES g n (sta g n a) (Classical.epsilon (fun r => RES g n (sta g n a) r)) := Classical.epsilon_spec ⟨r, h⟩
  exact h2.one h
noncomputable def txL (g : Nat → Int32) (n k a : Nat) : RO := tx g n 16 stL (fun a _ => lnL g n a) k a ()
noncomputable def afL (g : Nat → Int32) (n k a : Nat) : RO := af g n 16 stL (fun a _ => lnL g n a) k a ()
noncomputable def lawA (g : Nat → Int32) (n : Int32) : Int32 := cod (txL g n.toNatClampNeg 16 0)
theorem F_open (h : hd g n a = 91) (hd : ¬ 6 ≤ dpt s) (q : RES g n (0, a + 1, 3 :: s) r) : RES g n (0, a, s) r := RES.next ((if_pos h).trans (if_neg hd)) q
theorem F_deep (h : hd g n a = 91) (hd : 6 ≤ dpt s) : RES g n (0, a, s) (.inl (flt 5 a)) := RES.done ((if_pos h).trans (if_pos hd))
theorem dg_91 {x : Int32} (h : isDg x = true) : ¬ x = 91 := fun e => by rw [e] at h; exact absurd h (by decide)
theorem fac_91 {x : Int32} (h : fac x = true) : ¬ x = 91 := fun e => by rw [e] at h; exact absurd h (by decide)
theorem fac_dg {x : Int32} (h : fac x = true) : ¬ isDg x = true := fun e => by
  obtain ⟨z, hz, rfl⟩ := isDg_nat e
  exact absurd h ((show ∀ z, z < 10 → ¬ fac (nI (48 + z)) = true by decide) z hz)
theorem F_num {v : Nat} (h : isDg (hd g n a) = true) (hn : num g n 5 a = .inr (a1, v)) (q : RES g n (1, a1, s) r) : RES g n (0, a, s) r := RES.next ((if_neg (dg_91 h)).trans ((if_pos h).trans (by rw [hn]))) q
theorem F_numf (h : isDg (hd g n a) = true) (hn : num g n 5 a = .inl f) : RES g n (0, a, s) (.inl f) := RES.done ((if_neg (dg_91 h)).trans ((if_pos h).trans (by rw [hn])))
theorem F_let (h : fac (hd g n a) = true) (q : RES g n (1, a + 1, s) r) : RES g n (0, a, s) r := RES.next ((if_neg (fac_91 h)).trans ((if_neg (fac_dg h)).trans (if_pos h))) q
theorem F_no (h1 : ¬ hd g n a = 91) (h2 : isDg (hd g n a) = false) (h3 : fac (hd g n a) = false) : RES g n (0, a, s) (.inl (flt 1 a)) := RES.done ((if_neg h1).trans ((if_neg (by rw [h2]; decide)).trans (if_neg (by rw [h3]; decide))))
theorem O_op (h : opr (hd g n a) = true) (q : RES g n (0, a + 1, s) r) : RES g n (1, a, s) r := RES.next (if_pos h) q
theorem op_no {x : Int32} (h : opr x = false) : ¬ opr x = true := by rw [h]; decide
theorem O_shut (h : opr (hd g n a) = false) (h2 : hd g n a = 93) (q : RES g n (1, a + 1, s) r) : RES g n (1, a, 3 :: s) r := RES.next ((if_neg (op_no h)).trans (if_pos h2)) q
theorem O_nshut (h : opr (hd g n a) = false) (h2 : ¬ hd g n a = 93) : RES g n (1, a, 3 :: s) (.inl (flt 1 a)) := RES.done ((if_neg (op_no h)).trans (if_neg h2))
theorem O_e (h : opr (hd g n a) = false) (q : RES g n (4, a, s) r) : RES g n (1, a, 0 :: s) r := RES.next (if_neg (op_no h)) q
theorem O_cmp (h : opr (hd g n a) = false) (h2 : cmr (hd g n a) = true) (q : RES g n (0, a + 1, 2 :: s) r) : RES g n (1, a, 1 :: s) r := RES.next ((if_neg (op_no h)).trans (if_pos h2)) q
theorem O_ncmp (h : opr (hd g n a) = false) (h2 : cmr (hd g n a) = false) : RES g n (1, a, 1 :: s) (.inl (flt 1 a)) := RES.done ((if_neg (op_no h)).trans (if_neg (by rw [h2]; decide)))
theorem O_r (h : opr (hd g n a) = false) (q : RES g n (3, a, s) r) : RES g n (1, a, 2 :: s) r := RES.next (if_neg (op_no h)) q
theorem T_not (h : hd g n a = 33) (hd : ¬ 6 ≤ dpt s) (q : RES g n (2, a + 1, 4 :: s) r) : RES g n (2, a, s) r := RES.next ((if_pos h).trans (if_neg hd)) q
theorem T_notd (h : hd g n a = 33) (hd : 6 ≤ dpt s) : RES g n (2, a, s) (.inl (flt 5 a)) := RES.done ((if_pos h).trans (if_pos hd))
theorem T_par (h1 : ¬ hd g n a = 33) (h : hd g n a = 40) (hd : ¬ 6 ≤ dpt s) (q : RES g n (2, a + 1, 5 :: s) r) : RES g n (2, a, s) r := RES.next ((if_neg h1).trans ((if_pos h).trans (if_neg hd))) q
theorem T_pard (h1 : ¬ hd g n a = 33) (h : hd g n a = 40) (hd : 6 ≤ dpt s) : RES g n (2, a, s) (.inl (flt 5 a)) := RES.done ((if_neg h1).trans ((if_pos h).trans (if_pos hd)))
theorem T_cmp (h1 : ¬ hd g n a = 33) (h : ¬ hd g n a = 40) (q : RES g n (0, a, 1 :: s) r) : RES g n (2, a, s) r := RES.next ((if_neg h1).trans (if_neg h)) q
theorem A_not (q : RES g n (3, a, s) r) : RES g n (3, a, 4 :: s) r := RES.next rfl q
theorem A_and (h : hd g n a = 38 ∨ hd g n a = 124) (q : RES g n (2, a + 1, 5 :: s) r) : RES g n (3, a, 5 :: s) r := RES.next (if_pos h) q
theorem A_shut {k : Nat} (h : ¬ (hd g n a = 38 ∨ hd g n a = 124)) (h2 : hd g n a = 41) (q : RES g n (3, a + 1, k :: s) r) : RES g n (3, a, 5 :: k :: s) r := RES.next ((if_neg h).trans (if_pos h2)) q
theorem A_end (h : ¬ (hd g n a = 38 ∨ hd g n a = 124)) (h2 : hd g n a = 41) : RES g n (3, a, [5]) (.inr (a + 1, ())) := RES.done ((if_neg h).trans (if_pos h2))
theorem A_no (h : ¬ (hd g n a = 38 ∨ hd g n a = 124)) (h2 : ¬ hd g n a = 41) : RES g n (3, a, 5 :: s) (.inl (flt 1 a)) := RES.done ((if_neg h).trans (if_neg h2))
theorem Q_par (h : hd g n a = 40) (q : RES g n (2, a + 1, 5 :: s) r) : RES g n (4, a, s) r := RES.next (if_pos h) q
theorem Q_no (h : ¬ hd g n a = 40) : RES g n (4, a, s) (.inl (flt 1 a)) := RES.done (if_neg h)
end

theorem dpt_3 {s : List Nat} {k : Nat} (h : dpt s = k) : dpt (3 :: s) = k + 1 := by rw [dpt, h]; rfl
theorem dpt_4 {s : List Nat} {k : Nat} (h : dpt s = k) : dpt (4 :: s) = k + 1 := by rw [dpt, h]; rfl
theorem dpt_5 {s : List Nat} {k : Nat} (h : dpt s = k) : dpt (5 :: s) = k + 1 := by rw [dpt, h]; rfl
theorem dpt_1 {s : List Nat} {k : Nat} (h : dpt s = k) : dpt (1 :: s) = k := by rw [dpt, h]; rfl
theorem dpt_2 {s : List Nat} {k : Nat} (h : dpt s = k) : dpt (2 :: s) = k := by rw [dpt, h]; rfl
def mlt (x : Int32) : Bool := decide (x = 42) || decide (x = 47) || decide (x = 37)
theorem mlt_t {x : Int32} (h : x = 42 ∨ x = 47 ∨ x = 37) : mlt x = true := by rcases h with rfl | rfl | rfl <;> decide
theorem mlt_f {x : Int32} (h1 : ¬ x = 42) (h2 : ¬ x = 47) (h3 : ¬ x = 37) : mlt x = false := by rw [mlt, decide_eq_false h1, decide_eq_false h2, decide_eq_false h3]; rfl
theorem mlt_op {x : Int32} (h : mlt x = true) : opr x = true := by
  rw [mlt, Bool.or_eq_true, Bool.or_eq_true, decide_eq_true_iff, decide_eq_true_iff, decide_eq_true_iff] at h
  rcases h with (rfl | rfl) | rfl <;> decide
theorem opr_pm {x : Int32} (h : x = 43 ∨ x = 45) : opr x = true := by rcases h with rfl | rfl <;> decide
theorem opr_f {x : Int32} (h1 : ¬ x = 43) (h2 : ¬ x = 45) (h3 : mlt x = false) : opr x = false := by
  rw [mlt, Bool.or_eq_false_iff, Bool.or_eq_false_iff] at h3
  rw [opr, decide_eq_false h1, decide_eq_false h2, h3.1.1, h3.1.2, h3.2]; rfl
theorem mlt_lt {g : Nat → Int32} {n a : Nat} (h : mlt (hd g n a) = true) : a < n := hd_lt fun e => by rw [e] at h; exact absurd h (by decide)
theorem mlt_ge {g : Nat → Int32} {n a : Nat} (h : n ≤ a) : mlt (hd g n a) = false := by rw [hd_ge h]; decide
theorem opr_ge {g : Nat → Int32} {n a : Nat} (h : n ≤ a) : opr (hd g n a) = false := by rw [hd_ge h]; decide
theorem hd_ne {g : Nat → Int32} {n a : Nat} {v : Int32} (h : n ≤ a) (hv : v ≠ -1) : ¬ hd g n a = v := by rw [hd_ge h]; exact fun e => hv e.symm
theorem cmr_t {x : Int32} (h : x = 60 ∨ x = 62 ∨ x = 61) : cmr x = true := by rcases h with rfl | rfl | rfl <;> decide
theorem cmr_f {x : Int32} (h1 : ¬ x = 60) (h2 : ¬ x = 62) (h3 : ¬ x = 61) : cmr x = false := by rw [cmr, decide_eq_false h1, decide_eq_false h2, decide_eq_false h3]; rfl
theorem stL_t {x : Int32} (h : x = 101 ∨ x = 99 ∨ x = 115 ∨ x = 120) : stL x = true := by rcases h with rfl | rfl | rfl | rfl <;> decide
theorem stL_f {x : Int32} (h1 : ¬ x = 101) (h2 : ¬ x = 99) (h3 : ¬ x = 115) (h4 : ¬ x = 120) : stL x = false := by rw [stL, decide_eq_false h1, decide_eq_false h2, decide_eq_false h3, decide_eq_false h4]; rfl
theorem stL_lt {g : Nat → Int32} {n a : Nat} (h : stL (hd g n a) = true) : a < n := hd_lt fun e => by rw [e] at h; exact absurd h (by decide)
theorem sta_x {g : Nat → Int32} {n a : Nat} (h : hd g n a = 120) : sta g n a = (4, a + 1, []) := if_pos h
theorem sta_n {g : Nat → Int32} {n a : Nat} (h : ¬ hd g n a = 120) : sta g n a = (0, a + 1, [0]) := if_neg h
theorem n38 {x : Int32} (h1 : ¬ x = 38) (h2 : ¬ x = 124) : ¬ (x = 38 ∨ x = 124) := fun z => z.elim h1 h2
theorem c38 {x : Int32} (h : x = 41) : ¬ (x = 38 ∨ x = 124) := by rw [h]; decide

