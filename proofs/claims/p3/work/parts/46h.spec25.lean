def rup (v : Nat) : Nat := min 99 (v + 7)
def rdn (v : Nat) : Nat := v - 5
def rups (d : Nat) : Nat → Nat
  | 0 => d
  | u + 1 => rup (rups d u)
def rdns (v : Nat) : Nat → Nat
  | 0 => v
  | k + 1 => rdn (rdns v k)
def rF (d u t : Nat) : Nat := rdns (rups d u) (t - u)
def cc (col : Nat → Nat) (s x : Nat) : Nat → Nat
  | 0 => 0
  | k + 1 => cc col s x k + (if s.testBit k = true ∧ col k = x then 1 else 0)
def rex (col : Nat → Nat) (s l x : Nat) : Nat := 2 * cc col s x 12 - cn s 12 - (if col l = x then 1 else 0)
def mx (f : Nat → Nat) : Nat → Nat
  | 0 => 0
  | k + 1 => max (mx f k) (f k)
def sm (col : Nat → Nat) (s l : Nat) : Nat := mx (rex col s l) 16
section
variable {col : Nat → Nat} {d s a l x y z k u u' t n v w B : Nat}
theorem rups_le (h : d ≤ 99) : ∀ u, rups d u ≤ 99
  | 0 => h
  | u + 1 => Nat.min_le_left _ _
theorem rdns_mono (h : v ≤ w) : ∀ k, rdns v k ≤ rdns w k
  | 0 => h
  | k + 1 => by
    have := rdns_mono h k
    show rdns v k - 5 ≤ rdns w k - 5
    omega
theorem rdns_le : ∀ k, rdns v k ≤ v
  | 0 => Nat.le_refl _
  | k + 1 => by
    have := rdns_le k
    show rdns v k - 5 ≤ v
    omega
theorem rdns_s : ∀ k, rdns v (k + 1) = rdns (rdn v) k
  | 0 => rfl
  | k + 1 => by
    show rdn (rdns v (k + 1)) = rdn (rdns (rdn v) k)
    rw [rdns_s k]
theorem rup_def (v : Nat) : rup v = min 99 (v + 7) := rfl
theorem rdn_def (v : Nat) : rdn v = v - 5 := rfl
theorem rup_mono (h : v ≤ w) : rup v ≤ rup w := by
  rw [rup_def, rup_def]; omega
theorem rF_le (h : d ≤ 99) : rF d u t ≤ 99 := Nat.le_trans (rdns_le _) (rups_le h u)
theorem rF_u1 (h : d ≤ 99) (hu : u + 1 ≤ t) : rF d u t ≤ rF d (u + 1) t := by
  unfold rF
  rw [show t - u = (t - (u + 1)) + 1 by omega, rdns_s]
  have := rups_le h u
  refine rdns_mono ?_ _
  show rdn (rups d u) ≤ rup (rups d u)
  rw [rup_def, rdn_def]; omega
theorem rF_mono (h : d ≤ 99) (h1 : u ≤ u') (h2 : u' ≤ t) : rF d u t ≤ rF d u' t := by
  induction u' with
  | zero => rw [show u = 0 by omega]; exact Nat.le_refl _
  | succ m ih =>
    by_cases e : u = m + 1
    · rw [e]; exact Nat.le_refl _
    · exact Nat.le_trans (ih (by omega) (by omega)) (rF_u1 h (by omega))
theorem rF_dn (h : u ≤ t) : rF d u (t + 1) = rdn (rF d u t) := by
  unfold rF
  rw [show t + 1 - u = (t - u) + 1 by omega]; rfl
theorem rex1 (h : v ≤ 99) : ∀ k, rdns (rup v) k ≤ rup (rdns v k)
  | 0 => Nat.le_refl _
  | k + 1 => by
    have ih := rex1 h k
    have h2 := rdns_le (v := v) k
    show rdn (rdns (rup v) k) ≤ rup (rdn (rdns v k))
    simp only [rup_def, rdn_def] at ih ⊢
    omega
theorem rF_up (h : d ≤ 99) : rF d (u + 1) (t + 1) ≤ rup (rF d u t) := by
  unfold rF
  rw [show t + 1 - (u + 1) = t - u by omega]
  exact rex1 (rups_le h u) _
theorem rF_tt : rF d t t = rups d t := by
  unfold rF
  rw [show t - t = 0 by omega]; rfl
theorem mx_le {f : Nat → Nat} (h : ∀ i, i < k → f i ≤ B) : mx f k ≤ B := by
  induction k with
  | zero => exact Nat.zero_le _
  | succ k ih =>
    have h1 := ih (fun i hi => h i (by omega))
    have h2 := h k (by omega)
    show max (mx f k) (f k) ≤ B
    omega
theorem le_mx {f : Nat → Nat} (hi : x < k) : f x ≤ mx f k := by
  induction k with
  | zero => omega
  | succ k ih =>
    show f x ≤ max (mx f k) (f k)
    by_cases e : x = k
    · subst e; omega
    · have := ih (by omega)
      omega
theorem mx_at {f : Nat → Nat} (hk : 0 < k) : ∃ i, i < k ∧ mx f k = f i := by
  induction k with
  | zero => omega
  | succ k ih =>
    by_cases c : mx f k ≤ f k
    · exact ⟨k, by omega, by show max (mx f k) (f k) = f k; omega⟩
    · by_cases e : k = 0
      · subst e; exact absurd (Nat.zero_le _) c
      · obtain ⟨i, hi, h⟩ := ih (by omega)
        exact ⟨i, by omega, by rw [← h]; show max (mx f k) (f k) = mx f k; omega⟩
theorem cc_le : ∀ k, cc col s x k ≤ cn s k
  | 0 => Nat.le_refl _
  | k + 1 => by
    have := cc_le k
    rw [cc, cn]
    by_cases c : s.testBit k = true
    · rw [if_pos c]; split <;> omega
    · rw [if_neg c, if_neg (fun z => c z.1)]; omega
theorem cc_two (h : x ≠ y) : ∀ k, cc col s x k + cc col s y k ≤ cn s k
  | 0 => Nat.le_refl _
  | k + 1 => by
    have := cc_two h k
    rw [cc, cc, cn]
    by_cases c : s.testBit k = true
    · rw [if_pos c]
      by_cases e1 : col k = x
      · rw [if_pos ⟨c, e1⟩, if_neg (fun q => h (e1.symm.trans q.2))]; omega
      · rw [if_neg (fun q => e1 q.2)]; split <;> omega
    · rw [if_neg c, if_neg (fun z => c z.1), if_neg (fun z => c z.1)]; omega
theorem cc_three (h : x ≠ y) (h2 : x ≠ z) (h3 : y ≠ z) : ∀ k, cc col s x k + cc col s y k + cc col s z k ≤ cn s k
  | 0 => Nat.le_refl _
  | k + 1 => by
    have := cc_three h h2 h3 k
    rw [cc, cc, cc, cn]
    by_cases c : s.testBit k = true
    · rw [if_pos c]
      by_cases e1 : col k = x
      · rw [if_pos ⟨c, e1⟩, if_neg (fun q => h (e1.symm.trans q.2)), if_neg (fun q => h2 (e1.symm.trans q.2))]; omega
      · rw [if_neg (fun q => e1 q.2)]
        by_cases e2 : col k = y
        · rw [if_pos ⟨c, e2⟩, if_neg (fun q => h3 (e2.symm.trans q.2))]; omega
        · rw [if_neg (fun q => e2 q.2)]; split <;> omega
    · rw [if_neg c, if_neg (fun z => c z.1), if_neg (fun z => c z.1), if_neg (fun z => c z.1)]; omega
theorem cc_pos (hl : l < k) (hb : s.testBit l = true) : 1 ≤ cc col s (col l) k := by
  induction k with
  | zero => omega
  | succ k ih =>
    rw [cc]
    by_cases e : l = k
    · subst e; rw [if_pos ⟨hb, rfl⟩]; omega
    · have := ih (by omega)
      omega
theorem cc_get (h : 1 ≤ cc col s x k) : ∃ a, a < k ∧ s.testBit a = true ∧ col a = x := by
  induction k with
  | zero => rw [cc] at h; omega
  | succ k ih =>
    by_cases c : s.testBit k = true ∧ col k = x
    · exact ⟨k, by omega, c⟩
    · rw [cc, if_neg c] at h
      obtain ⟨a, h1, h2⟩ := ih h
      exact ⟨a, by omega, h2⟩
theorem cc_all (h : ∀ a, a < k → s.testBit a = true → col a = x) : cc col s x k = cn s k := by
  induction k with
  | zero => rfl
  | succ k ih =>
    rw [cc, cn, ih (fun a ha => h a (by omega))]
    by_cases c : s.testBit k = true
    · rw [if_pos c, if_pos ⟨c, h k (by omega) c⟩]
    · rw [if_neg c, if_neg (fun z => c z.1)]
theorem rm_bit {i : Nat} (hi : i < 12) : (s &&& no l).testBit i = true ↔ s.testBit i = true ∧ i ≠ l := by
  rw [Nat.testBit_and, Bool.and_eq_true, no_bit hi]
theorem rm_cn (hb : s.testBit l = true) : ∀ k, k ≤ 12 → cn (s &&& no l) k + (if l < k then 1 else 0) = cn s k
  | 0, _ => rfl
  | k + 1, hk => by
    have ih := rm_cn hb k (by omega)
    have hr := rm_bit (s := s) (l := l) (i := k) (by omega)
    rw [cn, cn]
    by_cases e : l = k
    · subst e
      rw [if_neg (fun q => (hr.mp q).2 rfl), if_pos hb, if_pos (by omega)]
      rw [if_neg (by omega)] at ih
      omega
    · by_cases c : s.testBit k = true
      · rw [if_pos c, if_pos (hr.mpr ⟨c, fun q => e q.symm⟩)]
        by_cases q : l < k
        · rw [if_pos q] at ih; rw [if_pos (by omega)]; omega
        · rw [if_neg q] at ih; rw [if_neg (by omega)]; omega
      · rw [if_neg c, if_neg (fun q => c (hr.mp q).1)]
        by_cases q : l < k
        · rw [if_pos q] at ih; rw [if_pos (by omega)]; omega
        · rw [if_neg q] at ih; rw [if_neg (by omega)]; omega
theorem rm_cc (hb : s.testBit l = true) : ∀ k, k ≤ 12 → cc col (s &&& no l) x k + (if l < k ∧ col l = x then 1 else 0) = cc col s x k
  | 0, _ => by rw [if_neg (fun q => Nat.not_lt_zero l q.1)]; rfl
  | k + 1, hk => by
    have ih := rm_cc hb k (by omega)
    have hr := rm_bit (s := s) (l := l) (i := k) (by omega)
    rw [cc, cc]
    by_cases e : l = k
    · subst e
      rw [if_neg (fun q => (hr.mp q.1).2 rfl)]
      rw [if_neg (fun q => absurd q.1 (by omega))] at ih
      by_cases c : col l = x
      · rw [if_pos ⟨by omega, c⟩, if_pos ⟨hb, c⟩]; omega
      · rw [if_neg (fun q => c q.2), if_neg (fun q => c q.2)]; omega
    · have e2 : (if l < k + 1 ∧ col l = x then 1 else 0) = (if l < k ∧ col l = x then 1 else 0) := by
        by_cases q : l < k ∧ col l = x
        · rw [if_pos q, if_pos ⟨by omega, q.2⟩]
        · rw [if_neg q, if_neg (fun w => q ⟨by omega, w.2⟩)]
      rw [e2]
      by_cases c : s.testBit k = true ∧ col k = x
      · rw [if_pos c, if_pos ⟨hr.mpr ⟨c.1, fun q => e q.symm⟩, c.2⟩]; omega
      · rw [if_neg c, if_neg (fun q => c ⟨(hr.mp q.1).1, q.2⟩)]; omega
theorem rm1 (hl : l < 12) (hb : s.testBit l = true) : cn (s &&& no l) 12 + 1 = cn s 12 := by
  have := rm_cn hb 12 (Nat.le_refl _)
  rw [if_pos hl] at this; exact this
theorem rm2 (hl : l < 12) (hb : s.testBit l = true) : cc col (s &&& no l) x 12 + (if col l = x then 1 else 0) = cc col s x 12 := by
  have := rm_cc (col := col) (x := x) hb 12 (Nat.le_refl _)
  by_cases c : col l = x
  · rw [if_pos ⟨hl, c⟩] at this; rw [if_pos c]; exact this
  · rw [if_neg (fun q => c q.2)] at this; rw [if_neg c]; exact this
theorem rex_def : rex col s l x = 2 * cc col s x 12 - cn s 12 - (if col l = x then 1 else 0) := rfl
theorem sm_of (h : ∀ i, i < 16 → rex col s l i ≤ B) : sm col s l ≤ B := mx_le h
theorem le_sm (hi : x < 16) : rex col s l x ≤ sm col s l := le_mx hi
def rst (col : Nat → Nat) (a l v : Nat) : Nat := if col a = col l then rup v else rdn v
theorem sm_le (hl : l < 12) (hb : s.testBit l = true) : sm col s l ≤ cn s 12 - 1 := by
  refine sm_of fun i _ => ?_
  have h0 := cc_le (col := col) (s := s) (x := i) 12
  have h1 := cc_pos (col := col) hl hb
  rw [rex_def]
  by_cases c : col l = i
  · rw [if_pos c]; omega
  · have := cc_two (col := col) (s := s) c 12
    rw [if_neg c]; omega
theorem ste_lo (hd : d ≤ 99) (hl : l < 12) (hb : s.testBit l = true) (ha : a < 12) (hab : s.testBit a = true) (hal : a ≠ l) : rF d (sm col s l) (cn s 12 - 1) ≤ rst col a l (rF d (sm col (s &&& no l) a) (cn (s &&& no l) 12 - 1)) := by
  have m1 := rm1 hl hb
  have hab' : (s &&& no l).testBit a = true := (rm_bit ha).mpr ⟨hab, hal⟩
  have m2 := rm1 ha hab'
  have hs' := sm_le (col := col) ha hab'
  have ht := sm_le (col := col) hl hb
  have hT : cn s 12 - 1 = (cn (s &&& no l) 12 - 1) + 1 := by omega
  unfold rst
  by_cases c : col a = col l
  · rw [if_pos c]
    refine Nat.le_trans (rF_mono (u' := sm col (s &&& no l) a + 1) hd ?_ (by omega)) (by rw [hT]; exact rF_up hd)
    refine sm_of fun i hi => ?_
    have h1 := le_sm (col := col) (s := s &&& no l) (l := a) hi
    have h2 := rm2 (col := col) (x := i) hl hb
    rw [rex_def] at h1 ⊢
    by_cases e : col l = i
    · rw [if_pos e] at h2 ⊢; rw [if_pos (c.trans e)] at h1; omega
    · rw [if_neg e] at h2 ⊢; rw [if_neg (fun q => e (c.symm.trans q))] at h1; omega
  · rw [if_neg c, hT, ← rF_dn hs', ← hT]
    refine rF_mono hd ?_ (by omega)
    refine sm_of fun i hi => ?_
    have h1 := le_sm (col := col) (s := s &&& no l) (l := a) hi
    have h2 := rm2 (col := col) (x := i) hl hb
    rw [rex_def] at h1 ⊢
    by_cases e : col l = i
    · rw [if_pos e] at h2 ⊢; rw [if_neg (fun q => c (q.trans e.symm))] at h1; omega
    · rw [if_neg e] at h2 ⊢
      by_cases e2 : col a = i
      · rw [if_pos e2] at h1; omega
      · rw [if_neg e2] at h1; omega
theorem ste_hi (hd : d ≤ 99) (hc : col l < 16) (hl : l < 12) (hb : s.testBit l = true) (hm : 2 ≤ cn s 12) : ∃ a, a < 12 ∧ a ≠ l ∧ s.testBit a = true ∧ rst col a l (rF d (sm col (s &&& no l) a) (cn (s &&& no l) 12 - 1)) ≤ rF d (sm col s l) (cn s 12 - 1) := by
  have m1 := rm1 hl hb
  have hT : cn s 12 - 1 = (cn (s &&& no l) 12 - 1) + 1 := by omega
  have ht := sm_le (col := col) hl hb
  by_cases hx : ∃ a, a < 12 ∧ s.testBit a = true ∧ col a ≠ col l
  · have key : ∃ a, a < 12 ∧ s.testBit a = true ∧ col a ≠ col l ∧ ∀ i, i < 16 → i ≠ col l → i ≠ col a → 2 * cc col s i 12 + 1 ≤ cn s 12 + sm col s l := by
      by_cases hy : ∃ i, i < 16 ∧ i ≠ col l ∧ ¬ (2 * cc col s i 12 + 1 ≤ cn s 12 + sm col s l)
      · obtain ⟨i, hi, hil, hv⟩ := hy
        obtain ⟨a, ha, hab, rfl⟩ := cc_get (col := col) (s := s) (x := i) (k := 12) (by omega)
        refine ⟨a, ha, hab, hil, fun j hj hjl hja => ?_⟩
        have h1 := cc_three (col := col) (s := s) (x := j) (y := col a) (z := col l) hja hjl hil 12
        have h2 := cc_pos (col := col) hl hb
        omega
      · obtain ⟨a, ha, hab, hac⟩ := hx
        refine ⟨a, ha, hab, hac, fun i hi hil _ => Decidable.byContradiction fun q => hy ⟨i, hi, hil, q⟩⟩
    obtain ⟨a, ha, hab, hac, hk⟩ := key
    have hal : a ≠ l := fun e => hac (congrArg col e)
    have hab' : (s &&& no l).testBit a = true := (rm_bit ha).mpr ⟨hab, hal⟩
    have hs' := sm_le (col := col) ha hab'
    refine ⟨a, ha, hal, hab, ?_⟩
    unfold rst
    rw [if_neg hac, hT, ← rF_dn hs', ← hT]
    refine rF_mono hd ?_ ht
    refine sm_of fun i hi => ?_
    have h1 := le_sm (col := col) (s := s) (l := l) hi
    have h2 := rm2 (col := col) (x := i) hl hb
    rw [rex_def] at h1 ⊢
    by_cases e : col l = i
    · rw [if_pos e] at h1 h2; rw [if_neg (fun q => hac (q.trans e.symm))]; omega
    · rw [if_neg e] at h1 h2
      by_cases e2 : col a = i
      · rw [if_pos e2]; omega
      · have h3 := hk i hi (fun q => e q.symm) (fun q => e2 q.symm)
        rw [if_neg e2]
        omega
  · have hall : ∀ a, a < 12 → s.testBit a = true → col a = col l := fun a ha hab => Decidable.byContradiction fun q => hx ⟨a, ha, hab, q⟩
    have hcc := cc_all (x := col l) hall
    obtain ⟨a, ha, hab', -⟩ := cc_get (col := fun _ => 0) (s := s &&& no l) (x := 0) (k := 12) (by rw [cc_all (fun _ _ _ => rfl)]; omega)
    obtain ⟨hab, hal⟩ := (rm_bit ha).mp hab'
    have hs' := sm_le (col := col) ha hab'
    refine ⟨a, ha, hal, hab, ?_⟩
    unfold rst
    rw [if_pos (hall a ha hab)]
    have hsl : sm col s l = cn s 12 - 1 := by
      have h1 := le_sm (col := col) (s := s) (l := l) hc
      rw [rex_def, if_pos rfl, hcc] at h1
      omega
    rw [hsl, rF_tt, hT]
    show _ ≤ rup (rups d (cn (s &&& no l) 12 - 1))
    refine rup_mono (Nat.le_trans (rF_mono hd hs' (Nat.le_refl _)) ?_)
    rw [rF_tt]; exact Nat.le_refl _
def ct (col : Nat → Nat) (x : Nat) : Nat → Nat
  | 0 => 0
  | k + 1 => ct col x k + (if col k = x then 1 else 0)
def fullS (n : Nat) : Nat := 2 ^ n - 1
theorem full_bit {i : Nat} : (fullS n).testBit i = true ↔ i < n := by
  rw [fullS, Nat.testBit_two_pow_sub_one]; exact decide_eq_true_iff
theorem full_cn : ∀ k, cn (fullS n) k = min k n
  | 0 => by rw [cn]; omega
  | k + 1 => by
    rw [cn, full_cn k]
    by_cases c : k < n
    · rw [if_pos (full_bit.mpr c)]; omega
    · rw [if_neg (fun q => c (full_bit.mp q))]; omega
theorem full_cc : ∀ k, k ≤ n → cc col (fullS n) x k = ct col x k
  | 0, _ => rfl
  | k + 1, hk => by
    rw [cc, ct, full_cc k (by omega)]
    by_cases c : col k = x
    · rw [if_pos ⟨full_bit.mpr (by omega), c⟩, if_pos c]
    · rw [if_neg (fun q => c q.2), if_neg c]
theorem full_cc2 : ∀ j, cc col (fullS n) x (n + j) = ct col x n
  | 0 => full_cc n (Nat.le_refl _)
  | j + 1 => by
    show cc col (fullS n) x (n + j) + _ = _
    have h9 : ¬ n + j < n := by omega
    rw [full_cc2 j, if_neg (fun q => h9 (full_bit.mp q.1))]; rfl
theorem full_c (hn : n ≤ 12) : cc col (fullS n) x 12 = ct col x n := by
  have := full_cc2 (col := col) (n := n) (x := x) (12 - n)
  rw [show n + (12 - n) = 12 by omega] at this; exact this
def roomsA (col : Nat → Nat) (n d : Nat) : Nat := rF d (2 * mx (fun x => ct col x n) 16 - n - 1) (n - 1)
theorem roomsA_lo (hd : d ≤ 99) (hn : n ≤ 12) (hl : l < n) : roomsA col n d ≤ rF d (sm col (fullS n) l) (n - 1) := by
  have hcn := full_cn (n := n) 12
  have hs := sm_le (col := col) (s := fullS n) (l := l) (by omega) (full_bit.mpr hl)
  refine rF_mono hd ?_ (by omega)
  obtain ⟨x, hx, e⟩ := mx_at (f := fun x => ct col x n) (k := 16) (by decide)
  have h1 := le_sm (col := col) (s := fullS n) (l := l) hx
  have h2 := full_c (col := col) (x := x) hn
  have e2 : mx (fun x => ct col x n) 16 = ct col x n := e
  rw [rex_def] at h1
  rw [e2]
  by_cases c : col l = x
  · rw [if_pos c] at h1; omega
  · rw [if_neg c] at h1; omega
theorem roomsA_hi (hd : d ≤ 99) (hn : n ≤ 12) (h1 : 1 ≤ n) (hc : ∀ i, i < n → col i < 16) : ∃ l, l < n ∧ rF d (sm col (fullS n) l) (n - 1) ≤ roomsA col n d := by
  have hcn := full_cn (n := n) 12
  obtain ⟨x, hx, e⟩ := mx_at (f := fun x => ct col x n) (k := 16) (by decide)
  have e2 : mx (fun x => ct col x n) 16 = ct col x n := e
  have hM : ∀ i, i < 16 → ct col i n ≤ ct col x n := fun i hi => e2 ▸ le_mx (f := fun x => ct col x n) hi
  have hp : 1 ≤ ct col x n := by
    have h2 := hM (col 0) (hc 0 h1)
    have h3 := cc_pos (col := col) (s := fullS n) (l := 0) (k := 12) (by decide) (full_bit.mpr h1)
    rw [full_c hn] at h3
    omega
  obtain ⟨l, hl, hb, rfl⟩ := cc_get (col := col) (s := fullS n) (x := x) (k := 12) (by rw [full_c hn]; exact hp)
  have hln := full_bit.mp hb
  have hct := cc_le (col := col) (s := fullS n) (x := col l) 12
  rw [full_c hn] at hct
  refine ⟨l, hln, rF_mono hd ?_ (by omega)⟩
  refine sm_of fun i hi => ?_
  rw [e2]
  have h3 := hM i hi
  rw [rex_def, full_c hn]
  by_cases c : col l = i
  · subst c; rw [if_pos rfl]; omega
  · have h4 := cc_two (col := col) (s := fullS n) c 12
    rw [full_c hn, full_c hn] at h4
    rw [if_neg c]; omega
end
def cof (g : Nat → Int32) (i : Nat) : Nat := (g i).toNatClampNeg
abbrev BY (g : Nat → Int32) : Prop := ∀ i, ∃ j : Nat, j ≤ 255 ∧ g i = nI j
theorem cof_of {g : Nat → Int32} (h : BY g) (i : Nat) : g i = nI (cof g i) ∧ cof g i ≤ 255 := by
  obtain ⟨j, hj, e⟩ := h i
  have : cof g i = j := by rw [cof, e, nI_clamp (by omega)]
  rw [this]; exact ⟨e, hj⟩
theorem cof_eq {g : Nat → Int32} {i x : Nat} (h : BY g) (hx : x < 2 ^ 31) : g i = nI x ↔ cof g i = x := by
  obtain ⟨e, hj⟩ := cof_of h i
  rw [e, nI_eq (by omega) hx]
theorem cof_lt {g : Nat → Int32} {i : Nat} (h : BY g) (c : g i < 16) : cof g i < 16 := by
  obtain ⟨e, hj⟩ := cof_of h i
  rw [e] at c
  exact (nI_ltI (a := cof g i) (b := 16) (by omega) (by omega)).mp c
theorem cof_ge {g : Nat → Int32} {i : Nat} (h : BY g) (c : ¬ g i < 16) : 16 ≤ cof g i := by
  obtain ⟨e, hj⟩ := cof_of h i
  rw [e] at c
  exact Nat.not_lt.mp fun q => c ((nI_ltI (a := cof g i) (b := 16) (by omega) (by omega)).mpr q)
def roomsF (g : Nat → Int32) (n d : Int32) : Int32 := if (List.range n.toNatClampNeg).all (fun i => decide (cof g i < 16)) = true then nI (roomsA (cof g) n.toNatClampNeg d.toNatClampNeg) else -3
theorem roomsF_ok {g : Nat → Int32} {n d : Nat} (hn : n ≤ 12) (hd : d ≤ 99) (h : ∀ i, i < n → cof g i < 16) : roomsF g (nI n) (nI d) = nI (roomsA (cof g) n d) := by
  rw [roomsF, nI_clamp (n := n) (by omega), nI_clamp (n := d) (by omega), if_pos]
  rw [List.all_eq_true]
  intro i hi
  exact decide_eq_true (h i (List.mem_range.mp hi))
theorem roomsF_no {g : Nat → Int32} {n i : Nat} {d : Int32} (hn : n ≤ 12) (hi : i < n) (h : 16 ≤ cof g i) : roomsF g (nI n) d = -3 := by
  rw [roomsF, nI_clamp (n := n) (by omega), if_neg]
  rw [List.all_eq_true]
  intro z
  have := of_decide_eq_true (z i (List.mem_range.mpr hi))
  omega
theorem fI_cI {D : va_G} {n : Nat} {V : Wd} {c : Nat} {g : Nat → Int32} (e : V c = cI D n g) : fI (V c) = g := funext fun k => by rw [e]; rfl
theorem ct_yes {g : Nat → Int32} {v : Int32} {x k : Nat} (h : BY g) (hx : x < 16) (e : v = nI (ct (cof g) x k)) (c : g k = nI x) : v + 1 = nI (ct (cof g) x (k + 1)) := by
  rw [e, nI_1, ct, if_pos ((cof_eq h (by omega)).mp c)]
theorem ct_no {g : Nat → Int32} {v : Int32} {x k : Nat} (h : BY g) (hx : x < 16) (e : v = nI (ct (cof g) x k)) (c : ¬ g k = nI x) : v = nI (ct (cof g) x (k + 1)) := by
  rw [e, ct, if_neg (fun q => c ((cof_eq h (by omega)).mpr q))]; rfl
theorem ct_le {col : Nat → Nat} {x : Nat} : ∀ k, ct col x k ≤ k
  | 0 => Nat.le_refl 0
  | k + 1 => by
    have := ct_le (col := col) (x := x) k
    rw [ct]; split <;> omega
theorem mx_ct {col : Nat → Nat} {n : Nat} : mx (fun x => ct col x n) 16 ≤ n := mx_le fun i _ => ct_le n
theorem mx_step {v w : Int32} {a b : Nat} (e1 : v = nI a) (e2 : w = nI b) (ha : a < 2 ^ 31) (hb : b < 2 ^ 31) : (if v < w then w else v) = nI (max a b) := by
  rw [e1, e2]
  by_cases c : a < b
  · rw [if_pos ((nI_ltI ha hb).mpr c), Nat.max_eq_right (by omega)]
  · rw [if_neg (fun q => c ((nI_ltI ha hb).mp q)), Nat.max_eq_left (by omega)]
theorem two_mul9 : ∀ M, M < 13 → (2 : Int32) * nI M = nI (2 * M) := by decide +kernel
theorem same9 : ∀ M, M < 13 → ∀ n, n < 13 → (if (0 : Int32) < nI (2 * M) - nI n - 1 then nI (2 * M) - nI n - 1 else 0) = nI (2 * M - n - 1) := by decide +kernel
theorem bnd_up9 : ∀ x, x < 100 → (if (0 : Int32) < (if nI x + 7 < 99 then nI x + 7 else 99) then (if nI x + 7 < 99 then nI x + 7 else 99) else 0) = nI (rup x) := by decide +kernel
theorem bnd_dn9 : ∀ x, x < 100 → (if (0 : Int32) < (if nI x - 5 < 99 then nI x - 5 else 99) then (if nI x - 5 < 99 then nI x - 5 else 99) else 0) = nI (rdn x) := by decide +kernel
theorem rF_nu {d s j : Nat} (hj : 1 ≤ j) (h : j ≤ s) : rF d (min s (j + 1 - 1)) (j + 1 - 1) = rup (rF d (min s (j - 1)) (j - 1)) := by
  rw [show j + 1 - 1 = j by omega, show min s j = j by omega, show min s (j - 1) = j - 1 by omega, rF_tt, rF_tt]
  obtain ⟨i, rfl⟩ : ∃ i, j = i + 1 := ⟨j - 1, by omega⟩
  rfl
theorem rF_nd {d s j : Nat} (hj : 1 ≤ j) (h : ¬ j ≤ s) : rF d (min s (j + 1 - 1)) (j + 1 - 1) = rdn (rF d (min s (j - 1)) (j - 1)) := by
  rw [show j + 1 - 1 = (j - 1) + 1 by omega, show min s (j - 1 + 1) = s by omega, show min s (j - 1) = s by omega]
  exact rF_dn (by omega)
theorem rF_00 {d s : Nat} : rF d (min s (1 - 1)) (1 - 1) = d := by
  rw [show min s (1 - 1) = 0 by omega]; rfl
theorem bnd_up {v r : Int32} {d s j : Nat} (hd : d ≤ 99) (e : v = nI (rF d (min s (j - 1)) (j - 1))) (hj : 1 ≤ j) (h : j ≤ s) (er : r = (if (0 : Int32) < (if v + 7 < 99 then v + 7 else 99) then (if v + 7 < 99 then v + 7 else 99) else 0)) : r = nI (rF d (min s (j + 1 - 1)) (j + 1 - 1)) := by
  have h9 := rF_le (u := min s (j - 1)) (t := j - 1) hd
  rw [er, e, bnd_up9 _ (by omega), rF_nu hj h]
theorem bnd_dn {v r : Int32} {d s j : Nat} (hd : d ≤ 99) (e : v = nI (rF d (min s (j - 1)) (j - 1))) (hj : 1 ≤ j) (h : ¬ j ≤ s) (er : r = (if (0 : Int32) < (if v - 5 < 99 then v - 5 else 99) then (if v - 5 < 99 then v - 5 else 99) else 0)) : r = nI (rF d (min s (j + 1 - 1)) (j + 1 - 1)) := by
  have h9 := rF_le (u := min s (j - 1)) (t := j - 1) hd
  rw [er, e, bnd_dn9 _ (by omega), rF_nd hj h]
theorem rooms_end {col : Nat → Nat} {v : Int32} {d n M : Nat} (hn : 1 ≤ n) (eM : mx (fun x => ct col x n) 16 = M) (hM : M ≤ n) (e : v = nI (rF d (min (2 * M - n - 1) (n - 1)) (n - 1))) : v = nI (roomsA col n d) := by
  rw [e, roomsA, eM, show min (2 * M - n - 1) (n - 1) = 2 * M - n - 1 by omega]
theorem mx_s {col : Nat → Nat} {n j : Nat} (h : n ≤ 12) : mx (fun x => ct col x n) j < 2 ^ 31 := by
  have := mx_le (f := fun x => ct col x n) (k := j) (B := n) (fun i _ => ct_le n)
  omega
theorem ct_s {col : Nat → Nat} {x n : Nat} (h : n ≤ 12) : ct col x n < 2 ^ 31 := by
  have := ct_le (col := col) (x := x) n
  omega

