
def opOf (x : Int32) : Nat := x.toNatClampNeg / 1048576
theorem opOf_nI {o a : Nat} (ho : o ≤ 15) (ha : a < 1048576) : opOf (nI (1048576 * o + a)) = o := by
  unfold opOf
  rw [nI_clamp (n := 1048576 * o + a) (by omega)]
  omega
def wgt (wa : Nat → Int32) : Nat → Nat
  | 0 => 0
  | n + 1 => wgt wa n + (if opOf (wa n) ≤ 10 then 1 else 0)
theorem wgt_congr {wa wa' : Nat → Int32} : ∀ {n : Nat}, (∀ i, i < n → wa' i = wa i) → wgt wa' n = wgt wa n
  | 0, _ => rfl
  | n + 1, h => by
    unfold wgt
    rw [wgt_congr (fun i hi => h i (by omega)), h n (by omega)]
theorem wgt_mono {wa : Nat → Int32} {m n : Nat} (h : m ≤ n) : wgt wa m ≤ wgt wa n := by
  induction n with
  | zero => rw [show m = 0 by omega]; exact Nat.le_refl _
  | succ n ih =>
    by_cases e : m = n + 1
    · rw [e]; exact Nat.le_refl _
    · exact Nat.le_trans (ih (by omega)) (Nat.le_add_right _ _)
theorem wgt_push {wa : Nat → Int32} {n : Nat} {x : Int32} : wgt (upd wa n x) (n + 1) = wgt wa n + (if opOf x ≤ 10 then 1 else 0) := by
  show wgt (upd wa n x) n + _ = _
  rw [pk_us, wgt_congr (wa := wa) (wa' := upd wa n x) (fun i hi => pk_un (by omega))]
theorem wgt_pop {wa : Nat → Int32} {n : Nat} (h : 0 < n) : wgt wa n = wgt wa (n - 1) + (if opOf (wa (n - 1)) ≤ 10 then 1 else 0) := by
  obtain ⟨m, rfl⟩ : ∃ m, n = m + 1 := ⟨n - 1, by omega⟩
  rfl
/-- the code k, as it stands while a piece is being read: pend says that its jump hasn't landed -/
def CodeP (sd : Nat → Int32) (dep : Nat → Nat) (cm k : Nat) (pend : Prop) : Prop := ∃ op v : Nat, sd k = nI (1048576 * op + v) ∧ v < 1048576 ∧ op ≤ 12 ∧ (op ≠ 0 ∨ dep (k + 1) = dep k + 1) ∧ (op ≠ 1 ∨ (dep (k + 1) = dep k + 1 ∧ v < 10)) ∧ (op < 2 ∨ 9 < op ∨ (2 ≤ dep k ∧ dep (k + 1) + 1 = dep k)) ∧ (op ≠ 10 ∨ (1 ≤ dep k ∧ dep (k + 1) = dep k)) ∧ (op < 11 ∨ (dep k = 1 ∧ dep (k + 1) = 0 ∧ (pend ∨ (k < v ∧ v ≤ cm ∧ dep v = 1))))
def pendK (wa : Nat → Int32) (wt k : Nat) : Prop := ∃ i o : Nat, i < wt ∧ (o = 11 ∨ o = 12) ∧ wa i = nI (1048576 * o + k)
def EntP (sd wa : Nat → Int32) (dep : Nat → Nat) (sg cm i : Nat) : Prop := ∃ o a : Nat, wa i = nI (1048576 * o + a) ∧ a < 260 ∧ 2 ≤ o ∧ o ≤ 14 ∧ (o < 11 ∨ 12 < o ∨ (sg ≤ a ∧ a < cm ∧ ∃ o' v' : Nat, sd a = nI (1048576 * o' + v') ∧ v' < 1048576 ∧ (o' = 11 ∨ o' = 12)))
def PS (sd wa : Nat → Int32) (sg cm wt : Nat) (dep : Nat → Nat) : Prop := dep sg = 0 ∧ (sg ≤ cm ∧ cm ≤ 260) ∧ (∀ k, sg ≤ k → k ≤ cm → dep k ≤ k) ∧ (∀ k, sg ≤ k → k < cm → CodeP sd dep cm k (pendK wa wt k)) ∧ ∀ i, i < wt → EntP sd wa dep sg cm i
def dset (dep : Nat → Nat) (k d : Nat) : Nat → Nat := fun i => if i = k then d else dep i
theorem dset_s {dep : Nat → Nat} {k d : Nat} : dset dep k d k = d := if_pos rfl
theorem dset_n {dep : Nat → Nat} {k d i : Nat} (h : i ≠ k) : dset dep k d i = dep i := if_neg h
def SumE (wa : Nat → Int32) (bs wt : Nat) : Prop := ∀ i, bs ≤ i → i < wt → (opOf (wa i) ≤ 6 ∨ opOf (wa i) = 14)
theorem SumE.sub {wa : Nat → Int32} {bs w wt : Nat} (h : SumE wa bs wt) (hw : w ≤ wt) : SumE wa bs w := fun i a b => h i a (by omega)
theorem SumE.push {wa : Nat → Int32} {bs w z : Nat} (h : SumE wa bs w) (hz : z ≤ 6) : SumE (upd wa w (nI (1048576 * z))) bs (w + 1) := fun i a b => by
  by_cases e : i = w
  · subst e; rw [pk_us]; exact Or.inl (by rw [show nI (1048576 * z) = nI (1048576 * z + 0) from rfl, opOf_nI (by omega) (by decide)]; exact hz)
  · rw [pk_un e]; exact h i a (by omega)
theorem SumE.more {wa wa9 : Nat → Int32} {bs w w9 : Nat} (h : SumE wa bs w) (he : ∀ i, i < w → wa9 i = wa i) (h14 : ∀ i, w ≤ i → i < w9 → opOf (wa9 i) = 14) : SumE wa9 bs w9 := fun i a b => by
  by_cases e : i < w
  · rw [he i e]; exact h i a e
  · exact Or.inr (h14 i (by omega) b)
theorem wgt_pushc {wa : Nat → Int32} {w n z : Nat} (hz : z ≤ 15) (h : n ≤ w) : wgt (upd wa w (nI (1048576 * z))) n = wgt wa n ∧ wgt (upd wa w (nI (1048576 * z))) (w + 1) = wgt wa w + (if z ≤ 10 then 1 else 0) := by
  refine ⟨wgt_congr (fun i hi => pk_un (by omega)), ?_⟩
  rw [wgt_push, show nI (1048576 * z) = nI (1048576 * z + 0) from rfl, opOf_nI hz (by decide)]
theorem op14 {wa : Nat → Int32} {w0 w : Nat} (h : ∀ i, w0 ≤ i → i < w → opOf (wa i) = 14) : ∀ i, w0 ≤ i → i < w + 1 → opOf (upd wa w (nI (1048576 * 14)) i) = 14 := fun i a b => by
  by_cases e : i = w
  · subst e; rw [pk_us]; exact opOf_nI (o := 14) (a := 0) (by decide) (by decide)
  · rw [pk_un e]; exact h i a (by omega)
theorem agr {wa wa' wa'' : Nat → Int32} {n m : Nat} (h : ∀ i, i < n → wa' i = wa i) (h' : ∀ i, i < m → wa'' i = wa' i) (hm : n ≤ m) : ∀ i, i < n → wa'' i = wa i := fun i hi => (h' i (by omega)).trans (h i hi)
theorem agu {wa wa' : Nat → Int32} {n w : Nat} {x : Int32} (h : ∀ i, i < n → wa' i = wa i) (hw : n ≤ w) : ∀ i, i < n → upd wa' w x i = wa i := fun i hi => (pk_un (by omega)).trans (h i hi)
def PX (D : va_G) (b : Nat) (V : Wd) (g : Nat → Int32) (pl ln cm wt sg : Nat) (sd wa : Nat → Int32) (dep : Nat → Nat) (sl sf sh st : Nat → Int32) (sm sk : Nat) : Prop := V 110 = cB D 260 g ∧ V 111 = cI D 260 sd ∧ V 112 = cI D 260 wa ∧ FG b 14 pl V ∧ FG b 15 ln V ∧ FG b 19 cm V ∧ FG b 20 wt V ∧ PS sd wa sg cm wt dep ∧ (cm + wgt wa wt + sk ≤ pl ∧ wt ≤ pl ∧ pl ≤ 240 ∧ ln ≤ 240) ∧ (V 113 = cI D 16 sl ∧ V 114 = cI D 16 sf ∧ V 115 = cI D 16 sh ∧ V 116 = cI D 16 st ∧ FG b 21 sm V ∧ sm ≤ 16)
/-- the rules read so far -/
def RI (sd sf sh st : Nat → Int32) (sm cm : Nat) : Prop := ∀ q, q < sm → ∃ f h t : Nat, sf q = nI f ∧ sh q = nI h ∧ st q = nI t ∧ f ≤ h ∧ h ≤ t ∧ t ≤ cm ∧ SegOK sd f h ∧ SegOK sd h t
def RX (D : va_G) (b : Nat) (V : Wd) (g : Nat → Int32) (pl ln cm : Nat) (sd wa sl sf sh st : Nat → Int32) (sm : Nat) : Prop := V 110 = cB D 260 g ∧ V 111 = cI D 260 sd ∧ V 112 = cI D 260 wa ∧ V 113 = cI D 16 sl ∧ V 114 = cI D 16 sf ∧ V 115 = cI D 16 sh ∧ V 116 = cI D 16 st ∧ FG b 14 pl V ∧ FG b 15 ln V ∧ FG b 19 cm V ∧ FG b 21 sm V ∧ (cm ≤ pl ∧ pl ≤ 240 ∧ ln ≤ 240 ∧ sm ≤ 16) ∧ RI sd sf sh st sm cm
theorem topu {wa : Nat → Int32} {w z : Nat} (h1 : 10 ≤ z) (h2 : z ≤ 15) : 10 ≤ opOf (upd wa w (nI (1048576 * z)) (w + 1 - 1)) := by
  rw [show w + 1 - 1 = w by omega, pk_us, show nI (1048576 * z) = nI (1048576 * z + 0) from rfl, opOf_nI h2 (by decide)]
  exact h1
theorem topj {wa : Nat → Int32} {w z a : Nat} (h1 : 10 ≤ z) (h2 : z ≤ 15) (h3 : a < 1048576) : 10 ≤ opOf (upd wa w (nI (1048576 * z + a)) (w + 1 - 1)) := by
  rw [show w + 1 - 1 = w by omega, pk_us, opOf_nI h2 h3]
  exact h1
theorem PS.start (sd wa : Nat → Int32) {cm : Nat} (h : cm ≤ 260) : PS sd wa cm cm 0 (fun _ => 0) := ⟨rfl, ⟨Nat.le_refl _, h⟩, fun _ _ _ => Nat.zero_le _, fun k h1 h2 => by omega, fun i hi => by omega⟩
theorem CodeP.mono {sd sd' : Nat → Int32} {dep dep' : Nat → Nat} {cm cm' k : Nat} {p p' : Prop} (h : CodeP sd dep cm k p) (hs : sd' k = sd k) (hd : ∀ i, i ≤ cm → dep' i = dep i) (hk : k < cm) (hc : cm ≤ cm') (hp : p → p') : CodeP sd' dep' cm' k p' := by
  obtain ⟨op, v, h1, h2, h3, h4, h5, h6, h7, h8⟩ := h
  refine ⟨op, v, hs.trans h1, h2, h3, ?_⟩
  rw [hd k (by omega), hd (k + 1) (by omega)]
  refine ⟨h4, h5, h6, h7, ?_⟩
  rcases h8 with h8 | ⟨a, b, c⟩
  · exact Or.inl h8
  · refine Or.inr ⟨a, b, ?_⟩
    rcases c with c | ⟨c1, c2, c3⟩
    · exact Or.inl (hp c)
    · exact Or.inr ⟨c1, by omega, (hd v c2).trans c3⟩
theorem EntP.mono {sd sd' wa wa' : Nat → Int32} {dep dep' : Nat → Nat} {sg cm cm' i : Nat} (h : EntP sd wa dep sg cm i) (hw : wa' i = wa i) (hs : ∀ a, a < cm → sd' a = sd a) (hc : cm ≤ cm') : EntP sd' wa' dep' sg cm' i := by
  obtain ⟨o, a, w1, w2, w3, w4, w5⟩ := h
  refine ⟨o, a, hw.trans w1, w2, w3, w4, ?_⟩
  rcases w5 with w5 | w5 | ⟨w5, w6, o', v', w7, w8⟩
  · exact Or.inl w5
  · exact Or.inr (Or.inl w5)
  · exact Or.inr (Or.inr ⟨w5, by omega, o', v', (hs a w6).trans w7, w8⟩)
/-- a plain code -/
theorem PS.emit {sd wa : Nat → Int32} {sg cm wt : Nat} {dep : Nat → Nat} (h : PS sd wa sg cm wt dep) (op v d : Nat) (hc : cm < 260) (hv : v < 1048576) (ho : op ≤ 10) (h0 : op ≠ 0 ∨ d = dep cm + 1) (h1 : op ≠ 1 ∨ (d = dep cm + 1 ∧ v < 10)) (h2 : op < 2 ∨ 9 < op ∨ (2 ≤ dep cm ∧ d + 1 = dep cm)) (h3 : op ≠ 10 ∨ (1 ≤ dep cm ∧ d = dep cm)) : PS (upd sd cm (nI (1048576 * op + v))) wa sg (cm + 1) wt (dset dep (cm + 1) d) := by
  obtain ⟨q1, q2, q3, q4, q5⟩ := h
  have hcm := q3 cm q2.1 (Nat.le_refl _)
  refine ⟨(dset_n (by omega)).trans q1, by omega, fun k a b => ?_, fun k a b => ?_, fun i hi => (q5 i hi).mono rfl (fun a ha => pk_un (by omega)) (by omega)⟩
  · by_cases e : k = cm + 1
    · subst e; rw [dset_s]; omega
    · rw [dset_n e]; exact q3 k a (by omega)
  · by_cases e : k = cm
    · subst e
      refine ⟨op, v, pk_us, hv, by omega, ?_⟩
      rw [dset_s, dset_n (by omega)]
      exact ⟨h0, h1, h2, h3, Or.inl (by omega)⟩
    · exact (q4 k a (by omega)).mono (pk_un e) (fun i hi => dset_n (by omega)) (by omega) (by omega) id
/-- something put to wait that is no jump -/
theorem PS.push {sd wa : Nat → Int32} {sg cm wt : Nat} {dep : Nat → Nat} (h : PS sd wa sg cm wt dep) (o : Nat) (h2 : 2 ≤ o) (h3 : o ≤ 14) (h4 : o < 11 ∨ 12 < o) : PS sd (upd wa wt (nI (1048576 * o))) sg cm (wt + 1) dep := by
  obtain ⟨q1, q2, q3, q4, q5⟩ := h
  refine ⟨q1, q2, q3, fun k a b => (q4 k a b).mono rfl (fun _ _ => rfl) b (Nat.le_refl _) ?_, fun i hi => ?_⟩
  · rintro ⟨i, o, hi, ho, e⟩
    exact ⟨i, o, by omega, ho, (pk_un (by omega)).trans e⟩
  · by_cases e : i = wt
    · subst e
      exact ⟨o, 0, pk_us, by decide, h2, h3, by omega⟩
    · exact (q5 i (by omega)).mono (pk_un e) (fun _ _ => rfl) (Nat.le_refl _)
theorem PS.pop {sd wa : Nat → Int32} {sg cm wt : Nat} {dep : Nat → Nat} (h : PS sd wa sg cm wt dep) (h0 : 0 < wt) (h1 : opOf (wa (wt - 1)) < 11 ∨ 12 < opOf (wa (wt - 1))) : PS sd wa sg cm (wt - 1) dep := by
  obtain ⟨q1, q2, q3, q4, q5⟩ := h
  refine ⟨q1, q2, q3, fun k a b => (q4 k a b).mono rfl (fun _ _ => rfl) b (Nat.le_refl _) ?_, fun i hi => q5 i (by omega)⟩
  rintro ⟨i, o, hi, ho, e⟩
  by_cases e1 : i = wt - 1
  · subst e1
    rw [e, opOf_nI (by omega) (by omega)] at h1
    omega
  · exact ⟨i, o, by omega, ho, e⟩
theorem PS.top {sd wa : Nat → Int32} {sg cm wt : Nat} {dep : Nat → Nat} (h : PS sd wa sg cm wt dep) (h0 : 0 < wt) : EntP sd wa dep sg cm (wt - 1) := h.2.2.2.2 _ (by omega)
theorem un_inj {o a o' a' : Nat} (h : nI (1048576 * o + a) = nI (1048576 * o' + a')) (ho : o ≤ 15) (ho' : o' ≤ 15) (ha : a < 1048576) (ha' : a' < 1048576) : o = o' ∧ a = a' := by
  have := (nI_eq (by omega) (by omega)).mp h
  omega
/-- a jump lands here -/
theorem PS.land {sd wa : Nat → Int32} {sg cm wt o a o' v' : Nat} {dep : Nat → Nat} (h : PS sd wa sg cm wt dep) (h0 : 0 < wt) (e : wa (wt - 1) = nI (1048576 * o + a)) (ho : o = 11 ∨ o = 12) (ha1 : sg ≤ a) (ha2 : a < cm) (es : sd a = nI (1048576 * o' + v')) (hv' : v' < 1048576) (ho' : o' = 11 ∨ o' = 12) (hd : dep cm = 1) : PS (upd sd a (nI (1048576 * o' + cm))) wa sg cm (wt - 1) dep := by
  obtain ⟨q1, q2, q3, q4, q5⟩ := h
  refine ⟨q1, q2, q3, fun k x y => ?_, fun i hi => ?_⟩
  · by_cases ek : k = a
    · subst ek
      obtain ⟨op, v, h1, h2, h3, h4, h5, h6, h7, h8⟩ := q4 k x y
      obtain ⟨rfl, rfl⟩ := un_inj (h1.symm.trans es) (by omega) (by omega) h2 hv'
      rcases h8 with h8 | ⟨h8, h9, -⟩
      · omega
      · exact ⟨op, cm, pk_us, by omega, by omega, by omega, by omega, by omega, by omega, Or.inr ⟨h8, h9, Or.inr ⟨ha2, Nat.le_refl _, hd⟩⟩⟩
    · refine (q4 k x y).mono (pk_un ek) (fun _ _ => rfl) y (Nat.le_refl _) ?_
      rintro ⟨i, o2, hi, ho2, e2⟩
      by_cases e1 : i = wt - 1
      · subst e1
        exact absurd (un_inj (e2.symm.trans e) (by omega) (by omega) (by omega) (by omega)).2 ek
      · exact ⟨i, o2, by omega, ho2, e2⟩
  · obtain ⟨o2, a2, w1, w2, w3, w4, w5⟩ := q5 i (by omega)
    refine ⟨o2, a2, w1, w2, w3, w4, ?_⟩
    rcases w5 with w5 | w5 | ⟨w5, w6, o3, v3, w7, w8, w9⟩
    · exact Or.inl w5
    · exact Or.inr (Or.inl w5)
    · refine Or.inr (Or.inr ⟨w5, w6, ?_⟩)
      by_cases ea : a2 = a
      · subst ea
        exact ⟨o', cm, pk_us, by omega, ho'⟩
      · exact ⟨o3, v3, (pk_un ea).trans w7, w8, w9⟩
/-- a jump is laid -/
theorem PS.jump {sd wa : Nat → Int32} {sg cm wt : Nat} {dep : Nat → Nat} (h : PS sd wa sg cm wt dep) (o : Nat) (hc : cm < 260) (ho : o = 11 ∨ o = 12) (hd : dep cm = 1) : PS (upd sd cm (nI (1048576 * o + 0))) (upd wa wt (nI (1048576 * o + cm))) sg (cm + 1) (wt + 1) (dset dep (cm + 1) 0) := by
  obtain ⟨q1, q2, q3, q4, q5⟩ := h
  refine ⟨(dset_n (by omega)).trans q1, by omega, fun k a b => ?_, fun k a b => ?_, fun i hi => ?_⟩
  · by_cases e : k = cm + 1
    · subst e; rw [dset_s]; omega
    · rw [dset_n e]; exact q3 k a (by omega)
  · by_cases e : k = cm
    · subst e
      refine ⟨o, 0, pk_us, by decide, by omega, ?_⟩
      rw [dset_s, dset_n (by omega)]
      exact ⟨by omega, by omega, by omega, by omega, Or.inr ⟨hd, rfl, Or.inl ⟨wt, o, by omega, ho, pk_us⟩⟩⟩
    · refine (q4 k a (by omega)).mono (pk_un e) (fun i hi => dset_n (by omega)) (by omega) (by omega) ?_
      rintro ⟨i, o2, hi, ho2, e2⟩
      exact ⟨i, o2, by omega, ho2, (pk_un (by omega)).trans e2⟩
  · by_cases e : i = wt
    · subst e
      exact ⟨o, cm, pk_us, hc, by omega, by omega, Or.inr (Or.inr ⟨q2.1, by omega, o, 0, pk_us, by decide, ho⟩)⟩
    · exact (q5 i (by omega)).mono (pk_un e) (fun a ha => pk_un (by omega)) (by omega)
theorem PS.done {sd wa : Nat → Int32} {sg cm : Nat} {dep : Nat → Nat} (h : PS sd wa sg cm 0 dep) : SegOK sd sg cm := by
  obtain ⟨q1, q2, q3, q4, q5⟩ := h
  refine ⟨dep, q1, fun k a b => ?_, q3⟩
  obtain ⟨op, v, h1, h2, h3, h4, h5, h6, h7, h8⟩ := q4 k a b
  refine ⟨op, v, h1, h2, h3, h4, h5, h6, h7, ?_⟩
  rcases h8 with h8 | ⟨x, y, z | ⟨z1, z2, z3⟩⟩
  · exact Or.inl h8
  · obtain ⟨i, o, hi, -⟩ := z
    omega
  · exact Or.inr ⟨by omega, by omega, z1, z2, by omega⟩
theorem SegOK.congr {cd cd' : Nat → Int32} {f t : Nat} (h : SegOK cd f t) (he : ∀ k, k < t → cd' k = cd k) : SegOK cd' f t := by
  obtain ⟨dep, h1, h2, h3⟩ := h
  refine ⟨dep, h1, fun k a b => ?_, h3⟩
  obtain ⟨op, v, e, r⟩ := h2 k a b
  exact ⟨op, v, (he k b).trans e, r⟩
theorem SegOK.nil (sd : Nat → Int32) (f : Nat) : SegOK sd f f := ⟨fun _ => 0, rfl, fun k a b => by omega, fun _ _ _ => Nat.zero_le _⟩
theorem RI.step {sd sd9 sf sh st : Nat → Int32} {sm f h t i1 i2 i3 : Nat} (hR : RI sd sf sh st sm f) (hsd : ∀ k, k < f → sd9 k = sd k) (h1 : f ≤ h) (h2 : h ≤ t) (s1 : SegOK sd9 f h) (s2 : SegOK sd9 h t) (e1 : i1 = sm) (e2 : i2 = sm) (e3 : i3 = sm) : RI sd9 (upd sf i1 (nI f)) (upd sh i2 (nI h)) (upd st i3 (nI t)) (sm + 1) t := fun q hq => by
  subst e1; subst e2; subst e3
  by_cases e : q = i3
  · subst e; exact ⟨f, h, t, pk_us, pk_us, pk_us, h1, h2, Nat.le_refl _, s1, s2⟩
  · obtain ⟨f0, h0, t0, a1, a2, a3, a4, a5, a6, a7, a8⟩ := hR q (by omega)
    exact ⟨f0, h0, t0, (pk_un e).trans a1, (pk_un e).trans a2, (pk_un e).trans a3, a4, a5, by omega, a7.congr (fun k hk => hsd k (by omega)), a8.congr (fun k hk => hsd k (by omega))⟩
theorem WF.mk' {D : va_G} {V : Wd} {cd fr hf to sd sf sh st : Nat → Int32} {sm cm : Nat} (h1 : V 117 = cI D 260 cd) (h2 : V 119 = cI D 16 fr) (h3 : V 120 = cI D 16 hf) (h4 : V 121 = cI D 16 to) (hs : sm ≤ 16) (hc : cm ≤ 240) (he : ∀ i, i < cm → cd i = sd i) (hq : ∀ q, q < sm → fr q = sf q ∧ hf q = sh q ∧ to q = st q) (hR : RI sd sf sh st sm cm) : WF D sm V := by
  refine ⟨cd, fr, hf, to, h1, h2, h3, h4, hs, fun q hq9 => ?_⟩
  obtain ⟨f, h, t, a1, a2, a3, a4, a5, a6, a7, a8⟩ := hR q hq9
  obtain ⟨b1, b2, b3⟩ := hq q hq9
  exact ⟨f, h, t, b1.trans a1, b2.trans a2, b3.trans a3, a4, a5, by omega, a7.congr (fun k hk => he k (by omega)), a8.congr (fun k hk => he k (by omega))⟩
/-- behind the law's own writing: the types alone, and what lies outside -/
def JL (D : va_G) (b N cl : Nat) (L : List E4) (V0 V : Wd) : Prop := CR D b cl V ∧ (∀ i, (i < 100 ∨ 133 ≤ i) → i < N → V i = V0 i) ∧ ∀ i k, 100 ≤ i → i < 133 → fwB L i k = false → pj (V i) k = pj (V0 i) k
theorem JL.get {D : va_G} {b N cl K i : Nat} {L : List E4} {V0 V : Wd} {P : va_E → Prop} (h : JL D b N cl L V0 V) (hk : (ctR D b cl)[i]? = some P ∧ K = 100 + i) : P (V K) := by rw [hk.2]; exact h.1 i P hk.1
theorem aw_upL {l : Launch} {D : va_G} {b cl : Nat} {J : Md} {R : Room} {X : Sc} {FQ : Array Value → List Frame → State → State → Prop} {pc : Nat} {ls : List (Option Value)} {st : List Value} {N : Nat} {L : List E4} {V0 V : Wd} {k n K i : Nat} {P : va_E → Prop} {e : va_E} (hJ : JL D b N cl L V0 V) (hk : (ctR D b cl)[i]? = some P ∧ K = 100 + i) (hp : P e) (hw : ∀ k, fwB L K k = false → pj e k = pj (V K) k) (h : ∀ V', JL D b N cl L V0 V' → (∀ i, i ≠ K → V' i = V i) → V' K = e → AW l D b J R X FQ pc ls st N V' k n) : AW l D b J R X FQ pc ls st N (va_up V K e) k n := by
  have hK := cm_lt hk
  refine h _ ⟨fun i2 P' hi => ?_, fun i h1 h2 => (va_up_ne _ _ (by omega)).trans (hJ.2.1 i h1 h2), fun i k h1 h2 h3 => ?_⟩ (fun i hi => va_up_ne _ _ hi) (va_up_self _ _ _)
  rotate_left
  · by_cases e1 : i = K
    · subst e1; rw [va_up_self]; exact (hw k h3).trans (hJ.2.2 i k h1 h2 h3)
    · rw [va_up_ne _ _ e1]; exact hJ.2.2 i k h1 h2 h3
  by_cases e1 : 100 + i2 = K
  · rw [e1, va_up_self]
    obtain rfl : i2 = i := by omega
    cases hi.symm.trans hk.1
    exact hp
  · rw [va_up_ne _ _ e1]
    exact hJ.1 i2 P' hi
theorem ctR_cl {D : va_G} {b cl cl' i : Nat} (h : i ≠ 0) : (ctR D b cl)[i]? = (ctR D b cl')[i]? := by
  match i, h with
  | i + 1, _ => rfl
theorem aw_cl {l : Launch} {D : va_G} {b cl cl' : Nat} {J : Md} {R : Room} {X : Sc} {FQ : Array Value → List Frame → State → State → Prop} {pc : Nat} {ls : List (Option Value)} {st : List Value} {N : Nat} {L : List E4} {V0 V : Wd} {k n : Nat} {e : va_E} (hJ : JR D b N cl L V0 V) (he : tyM b cl' e) (hw : ∀ k, fwB L 100 k = false → pj e k = pj (V 100) k) (h : ∀ V', JL D b N cl' L V0 V' → (∀ i, i ≠ 100 → V' i = V i) → V' 100 = e → AW l D b J R X FQ pc ls st N V' k n) : AW l D b J R X FQ pc ls st N (va_up V 100 e) k n := by
  refine h _ ⟨fun i P hi => ?_, fun i h1 h2 => (va_up_ne _ _ (by omega)).trans (hJ.2.1 i h1 h2), fun i k h1 h2 h3 => ?_⟩ (fun i hi => va_up_ne _ _ hi) (va_up_self _ _ _)
  rotate_left
  · by_cases e1 : i = 100
    · subst e1; rw [va_up_self]; exact (hw k h3).trans (hJ.2.2.2 _ k h1 h2 h3)
    · rw [va_up_ne _ _ e1]; exact hJ.2.2.2 i k h1 h2 h3
  by_cases e1 : i = 0
  · subst e1
    rw [va_up_self]
    cases (show some (tyM b cl') = some P from hi)
    exact he
  · rw [va_up_ne _ _ (by omega)]
    exact hJ.1 i P ((ctR_cl e1).trans hi)
theorem tl2 {a a' : Nat} {v v' : Int32} (c : ¬ v = 0) (h : v' = 0 ∨ a < a') (h3 : a' ≤ 240) : (if v' = 0 then 0 else 1 + (240 - a')) < (if v = 0 then 0 else 1 + (240 - a)) := by
  rw [if_neg c]
  rcases h with h | h
  · rw [if_pos h]; omega
  · split <;> omega
