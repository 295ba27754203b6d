
theorem hH {g : Nat → Int32} {n a : Nat} : hd (gb g) n a = hereF g a n := rfl
theorem hd_is {g : Nat → Int32} {n n' a a' : Nat} {r v : Int32} (e : n' = n) (ep : a' = a) (h : r = hereF g a' n') (c : r = v) : hd (gb g) n a = v := by rw [← e, ← ep, hH, ← h]; exact c
theorem hd_isnt {g : Nat → Int32} {n n' a a' : Nat} {r v : Int32} (e : n' = n) (ep : a' = a) (h : r = hereF g a' n') (c : ¬ r = v) : ¬ hd (gb g) n a = v := by rw [← e, ← ep, hH, ← h]; exact c
theorem hd_eqr {g : Nat → Int32} {n n' a a' : Nat} {r : Int32} (e : n' = n) (ep : a' = a) (h : r = hereF g a' n') : r = hd (gb g) n a := by rw [← e, ← ep, hH]; exact h
theorem isDg_of8 {g : Nat → Int32} {n n' a a' : Nat} (e : n' = n) (ep : a' = a) (h : ∃ q : Nat, q < 10 ∧ hereF g a' n' = nI (48 + q)) : isDg (hd (gb g) n a) = true := by
  obtain ⟨q, hq, h⟩ := h
  rw [← e, ← ep, hH, h]
  exact (show ∀ q, q < 10 → isDg (nI (48 + q)) = true by decide) q hq
theorem isDg_no8 {g : Nat → Int32} {n n' a a' : Nat} (e : n' = n) (ep : a' = a) (h : hereF g a' n' < 48 ∨ 57 < hereF g a' n') : isDg (hd (gb g) n a) = false := by
  rw [← e, ← ep, hH]
  rcases h with h | h
  · exact isDg_f1 h
  · exact isDg_f2 h
def rp : Nat → List Nat → List Nat
  | 0, s => s
  | k + 1, s => 3 :: rp k s
theorem dpt_rp {s : List Nat} : ∀ k, dpt (rp k s) = dpt s + k
  | 0 => rfl
  | k + 1 => by rw [rp, dpt, dpt_rp k]; rfl
theorem rp_add {s : List Nat} {c : Nat} : ∀ k, rp k (rp c s) = rp (k + c) s
  | 0 => by rw [Nat.zero_add]; rfl
  | k + 1 => by rw [rp, rp_add k, show k + 1 + c = (k + c) + 1 by omega]; rfl
def k14 (wa : Nat → Int32) (bs : Nat) : Nat → Nat
  | 0 => 0
  | n + 1 => k14 wa bs n + (if bs ≤ n ∧ opOf (wa n) = 14 then 1 else 0)
theorem k14_congr {wa wa' : Nat → Int32} {bs : Nat} : ∀ {n : Nat}, (∀ i, i < n → wa' i = wa i) → k14 wa' bs n = k14 wa bs n
  | 0, _ => rfl
  | n + 1, h => by rw [k14, k14, k14_congr (fun i hi => h i (by omega)), h n (by omega)]
theorem k14_low {wa : Nat → Int32} {bs : Nat} : ∀ {n : Nat}, n ≤ bs → k14 wa bs n = 0
  | 0, _ => rfl
  | n + 1, h => by rw [k14, k14_low (by omega), if_neg (fun z => absurd z.1 (by omega))]
theorem k14_no {wa : Nat → Int32} {bs m : Nat} : ∀ {n : Nat}, m ≤ n → (∀ i, m ≤ i → i < n → opOf (wa i) ≠ 14) → k14 wa bs n = k14 wa bs m
  | 0, h, _ => by rw [show m = 0 by omega]
  | n + 1, h, z => by
    by_cases e : m = n + 1
    · rw [e]
    · rw [k14, if_neg (fun q => z n (by omega) (by omega) q.2)]
      exact k14_no (by omega) (fun i h1 h2 => z i h1 (by omega))
theorem k14_all {wa : Nat → Int32} {bs m : Nat} (hb : bs ≤ m) : ∀ {n : Nat}, m ≤ n → (∀ i, m ≤ i → i < n → opOf (wa i) = 14) → k14 wa bs n = k14 wa bs m + (n - m)
  | 0, h, _ => by rw [show m = 0 by omega]; rfl
  | n + 1, h, z => by
    by_cases e : m = n + 1
    · rw [e]; omega
    · rw [k14, if_pos ⟨by omega, z n (by omega) (by omega)⟩, k14_all hb (by omega) (fun i h1 h2 => z i h1 (by omega))]
      omega
theorem k14_zero {wa : Nat → Int32} {bs : Nat} : ∀ {n : Nat}, (∀ i, bs ≤ i → i < n → opOf (wa i) ≠ 14) → k14 wa bs n = 0
  | 0, _ => rfl
  | n + 1, z => by
    rw [k14, k14_zero (fun i h1 h2 => z i h1 (by omega)), if_neg (fun q => z n q.1 (by omega) q.2)]
theorem k14_pos {wa : Nat → Int32} {bs : Nat} : ∀ {n : Nat}, (∃ i, bs ≤ i ∧ i < n ∧ opOf (wa i) = 14) → 1 ≤ k14 wa bs n
  | 0, ⟨i, h1, h2, h3⟩ => absurd h2 (Nat.not_lt_zero i)
  | n + 1, ⟨i, h1, h2, h3⟩ => by
    rw [k14]
    by_cases e : i = n
    · subst e; rw [if_pos ⟨h1, h3⟩]; omega
    · have := k14_pos (wa := wa) (bs := bs) (n := n) ⟨i, h1, by omega, h3⟩
      omega
theorem k14_push {wa : Nat → Int32} {bs w z : Nat} (hz : z ≤ 6) : k14 (upd wa w (nI (1048576 * z))) bs (w + 1) = k14 wa bs w := by
  have h9 : ¬ (bs ≤ w ∧ opOf (upd wa w (nI (1048576 * z)) w) = 14) := fun q => by
    have h := q.2
    rw [pk_us, show nI (1048576 * z) = nI (1048576 * z + 0) from rfl, opOf_nI (by omega) (by decide)] at h
    omega
  rw [k14, k14_congr (wa := wa) (fun i hi => pk_un (by omega)), if_neg h9, Nat.add_zero]
theorem k14_pop {wa : Nat → Int32} {bs w : Nat} (hw : bs < w) (h : opOf (wa (w - 1)) = 14) : k14 wa bs w = k14 wa bs (w - 1) + 1 := by
  obtain ⟨m, rfl⟩ : ∃ m, w = m + 1 := ⟨w - 1, by omega⟩
  rw [k14, if_pos ⟨by omega, h⟩]; rfl
def fl (wa : Nat → Int32) : Nat → List Nat
  | 0 => []
  | n + 1 => if opOf (wa n) = 10 then 4 :: fl wa n else if opOf (wa n) = 13 then 5 :: fl wa n else fl wa n
theorem fl_congr {wa wa' : Nat → Int32} : ∀ {n : Nat}, (∀ i, i < n → wa' i = wa i) → fl wa' n = fl wa n
  | 0, _ => rfl
  | n + 1, h => by rw [fl, fl, fl_congr (fun i hi => h i (by omega)), h n (by omega)]
def AD (wa : Nat → Int32) (wt : Nat) : Prop := ∀ i, i < wt → (opOf (wa i) = 10 ∨ opOf (wa i) = 11 ∨ opOf (wa i) = 12 ∨ opOf (wa i) = 13) ∧ ((opOf (wa i) = 11 ∨ opOf (wa i) = 12) → 0 < i ∧ (opOf (wa (i - 1)) = 11 ∨ opOf (wa (i - 1)) = 12 ∨ opOf (wa (i - 1)) = 13))
theorem fl_10 {wa : Nat → Int32} {w : Nat} (hw : 0 < w) (h : opOf (wa (w - 1)) = 10) : fl wa w = 4 :: fl wa (w - 1) := by
  obtain ⟨m, rfl⟩ : ∃ m, w = m + 1 := ⟨w - 1, by omega⟩
  have h : opOf (wa m) = 10 := h
  rw [fl, if_pos h]; rfl
theorem fl_13 {wa : Nat → Int32} {w : Nat} (hw : 0 < w) (h : opOf (wa (w - 1)) = 13) : fl wa w = 5 :: fl wa (w - 1) := by
  obtain ⟨m, rfl⟩ : ∃ m, w = m + 1 := ⟨w - 1, by omega⟩
  have h : opOf (wa m) = 13 := h
  rw [fl, if_neg (by omega), if_pos h]; rfl
theorem fl_j {wa : Nat → Int32} {w : Nat} (hw : 0 < w) (h : opOf (wa (w - 1)) = 11 ∨ opOf (wa (w - 1)) = 12) : fl wa w = fl wa (w - 1) := by
  obtain ⟨m, rfl⟩ : ∃ m, w = m + 1 := ⟨w - 1, by omega⟩
  have h : opOf (wa m) = 11 ∨ opOf (wa m) = 12 := h
  rw [fl, if_neg (by omega), if_neg (by omega)]; rfl
theorem fl_land {wa : Nat → Int32} {w9 : Nat} : ∀ {w : Nat}, w9 ≤ w → (∀ i, w9 ≤ i → i < w → opOf (wa i) = 11 ∨ opOf (wa i) = 12) → fl wa w = fl wa w9
  | 0, h, _ => by rw [show w9 = 0 by omega]
  | w + 1, h, z => by
    by_cases e : w9 = w + 1
    · rw [e]
    · have h9 := z w (by omega) (by omega)
      rw [fl, if_neg (by omega), if_neg (by omega)]
      exact fl_land (by omega) (fun i h1 h2 => z i h1 (by omega))
theorem AD.sub {wa wa' : Nat → Int32} {w w' : Nat} (h : AD wa w) (hw : w' ≤ w) (he : ∀ i, i < w → wa' i = wa i) : AD wa' w' := fun i hi => by
  rw [he i (by omega), he (i - 1) (by omega)]; exact h i (by omega)
theorem AD.zero {wa : Nat → Int32} : AD wa 0 := fun i hi => absurd hi (Nat.not_lt_zero i)
theorem AD.push {wa : Nat → Int32} {w : Nat} {x : Int32} (h : AD wa w) (hx : opOf x = 10 ∨ opOf x = 13) : AD (upd wa w x) (w + 1) := fun i hi => by
  by_cases e : i = w
  · subst e; rw [pk_us]; exact ⟨by omega, fun q => by omega⟩
  · rw [pk_un e]
    obtain ⟨h1, h2⟩ := h i (by omega)
    refine ⟨h1, fun q => ?_⟩
    rw [pk_un (by omega)]; exact h2 q
theorem AD.jump {wa : Nat → Int32} {w : Nat} {x : Int32} (h : AD wa w) (hw : 0 < w) (hx : opOf x = 11 ∨ opOf x = 12) (ht : opOf (wa (w - 1)) ≠ 10) : AD (upd wa w x) (w + 1) := fun i hi => by
  by_cases e : i = w
  · subst e; rw [pk_us, pk_un (by omega)]
    have := (h (i - 1) (by omega)).1
    exact ⟨by omega, fun _ => ⟨hw, by omega⟩⟩
  · rw [pk_un e]
    obtain ⟨h1, h2⟩ := h i (by omega)
    refine ⟨h1, fun q => ?_⟩
    rw [pk_un (by omega)]; exact h2 q
theorem AD.land {wa : Nat → Int32} {w w9 : Nat} (h : AD wa w) (h9 : w9 ≤ w) (h0 : 1 ≤ w9) (ht : opOf (wa (w - 1)) ≠ 10) (hz : ∀ i, w9 ≤ i → i < w → opOf (wa i) = 11 ∨ opOf (wa i) = 12) : opOf (wa (w9 - 1)) ≠ 10 := by
  by_cases e : w9 = w
  · rw [e]; exact ht
  · have := (h w9 (by omega)).2 (hz w9 (Nat.le_refl _) (by omega))
    omega
theorem fl_top {wa : Nat → Int32} : ∀ {w : Nat}, AD wa w → 0 < w → opOf (wa (w - 1)) ≠ 10 → ∃ s, fl wa w = 5 :: s
  | 0, _, h, _ => absurd h (Nat.not_lt_zero 0)
  | w + 1, hA, _, ht => by
    have ht : opOf (wa w) ≠ 10 := ht
    obtain ⟨h1, h2⟩ := hA w (by omega)
    by_cases c : opOf (wa w) = 13
    · exact ⟨fl wa w, by rw [fl, if_neg ht, if_pos c]⟩
    · have h3 := h2 (by omega)
      rw [fl, if_neg ht, if_neg c]
      exact fl_top (hA.sub (by omega) (fun _ _ => rfl)) h3.1 (by omega)
theorem fl_ne {wa : Nat → Int32} (h0 : opOf (wa 0) = 13) : ∀ {w : Nat}, 0 < w → ∃ k s, fl wa w = k :: s
  | 0, h => absurd h (Nat.not_lt_zero 0)
  | w + 1, _ => by
    by_cases c : w = 0
    · subst c; exact ⟨5, [], by rw [fl, if_neg (by omega), if_pos h0]; rfl⟩
    · obtain ⟨k, s, e⟩ := fl_ne h0 (w := w) (by omega)
      rw [fl]
      split
      · exact ⟨4, _, rfl⟩
      · split
        · exact ⟨5, _, rfl⟩
        · exact ⟨k, s, e⟩
theorem fl_up10 {wa : Nat → Int32} {w : Nat} : fl (upd wa w (nI (1048576 * 10))) (w + 1) = 4 :: fl wa w := by
  rw [fl_10 (by omega) (by rw [show w + 1 - 1 = w by omega, pk_us]; exact opOf_nI (o := 10) (a := 0) (by decide) (by decide)), show w + 1 - 1 = w by omega, fl_congr (wa := wa) (fun i hi => pk_un (by omega))]
theorem fl_up13 {wa : Nat → Int32} {w : Nat} : fl (upd wa w (nI (1048576 * 13))) (w + 1) = 5 :: fl wa w := by
  rw [fl_13 (by omega) (by rw [show w + 1 - 1 = w by omega, pk_us]; exact opOf_nI (o := 13) (a := 0) (by decide) (by decide)), show w + 1 - 1 = w by omega, fl_congr (wa := wa) (fun i hi => pk_un (by omega))]
theorem fl_upj {wa : Nat → Int32} {w o a : Nat} (ho : o = 11 ∨ o = 12) (ha : a < 1048576) : fl (upd wa w (nI (1048576 * o + a))) (w + 1) = fl wa w := by
  rw [fl_j (by omega) (by rw [show w + 1 - 1 = w by omega, pk_us, opOf_nI (by omega) ha]; exact ho), show w + 1 - 1 = w by omega, fl_congr (wa := wa) (fun i hi => pk_un (by omega))]
theorem op_lit {o : Nat} (ho : o ≤ 15) : opOf (nI (1048576 * o)) = o := opOf_nI (o := o) (a := 0) ho (by decide)

