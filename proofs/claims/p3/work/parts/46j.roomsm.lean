
theorem BY_gb (g : Nat → Int32) : BY (gb g) := fun i => by
  obtain ⟨j, hj, e⟩ := fx_andle (s := 255) (g i)
  exact ⟨j, hj, (Int32.and_comm (g i) 255).trans e⟩
def VAL (col : Nat → Nat) (d s l : Nat) : Nat := rF d (sm col s l) (cn s 12 - 1)
def TAB (T : Nat → Int32) (col : Nat → Nat) (d n S : Nat) : Prop := ∀ s, 1 ≤ s → s < S → ∀ l, l < n → s.testBit l = true → T (12 * s + l) = nI (VAL col d s l)
def ROW (T : Nat → Int32) (col : Nat → Nat) (d s j : Nat) : Prop := ∀ l, l < j → s.testBit l = true → T (12 * s + l) = nI (VAL col d s l)
theorem TAB.one {T : Nat → Int32} {col : Nat → Nat} {d n : Nat} : TAB T col d n 1 := fun s h1 h2 => by omega
theorem TAB.next {T : Nat → Int32} {col : Nat → Nat} {d n S : Nat} (h : TAB T col d n S) (hr : ROW T col d S n) : TAB T col d n (S + 1) := fun s h1 h2 l hl hb => by
  by_cases e : s = S
  · subst e; exact hr l hl hb
  · exact h s h1 (by omega) l hl hb
theorem tab_upd {D : va_G} {V V' : Wd} {g : Nat → Int32} {N x S j : Nat} {v : Int32} {col : Nat → Nat} {d n : Nat} (e0 : V 132 = cI D N g) (e1 : V' 132 = cI D N (upd g x v)) (hx : x = 12 * S + j) (hn : n ≤ 12) (h : TAB (fI (V 132)) col d n S) : TAB (fI (V' 132)) col d n S := fun s h1 h2 l hl hb => by
  rw [fI_cI e1, pk_un (by omega), ← fI_cI e0]; exact h s h1 h2 l hl hb
theorem row_upd {D : va_G} {V V' : Wd} {g : Nat → Int32} {N x S j : Nat} {v : Int32} {col : Nat → Nat} {d : Nat} (e0 : V 132 = cI D N g) (e1 : V' 132 = cI D N (upd g x v)) (hx : x = 12 * S + j) (hv : S.testBit j = true → v = nI (VAL col d S j)) (h : ROW (fI (V 132)) col d S j) : ROW (fI (V' 132)) col d S (j + 1) := fun l hl hb => by
  rw [fI_cI e1]
  by_cases e : l = j
  · subst e; rw [← hx, pk_us]; exact hv hb
  · rw [pk_un (by omega), ← fI_cI e0]; exact h l (by omega) hb
theorem ROW.zero {T : Nat → Int32} {col : Nat → Nat} {d s : Nat} : ROW T col d s 0 := fun l hl => absurd hl (Nat.not_lt_zero l)
theorem one_cn {l : Nat} (hl : l < 12) : cn (2 ^ l) 12 = 1 := by
  have h := rm1 hl (bit_one (a := l))
  have : cn (2 ^ l &&& no l) 12 = 0 := by
    rw [show 2 ^ l &&& no l = 0 from ext12 (Nat.lt_of_le_of_lt Nat.and_le_left (fx_pow12 hl)) (by decide) fun i hi => by
      rw [Nat.zero_testBit]
      cases e : (2 ^ l &&& no l).testBit i with
      | false => rfl
      | true =>
        obtain ⟨h1, h2⟩ := (rm_bit hi).mp e
        exact absurd (one_bit h1) h2]
    rfl
  omega
theorem VAL_one {col : Nat → Nat} {d l : Nat} (hl : l < 12) : VAL col d (2 ^ l) l = d := by
  have h1 := one_cn hl
  have h2 := sm_le (col := col) hl (bit_one (a := l))
  rw [VAL, h1, show sm col (2 ^ l) l = 0 by omega]; rfl
theorem cn2 {s l : Nat} (hs : s < 4096) (hl : l < 12) (hb : s.testBit l = true) (hn : s ≠ 2 ^ l) : 2 ≤ cn s 12 := by
  have h := rm1 hl hb
  refine Decidable.byContradiction fun c => hn (ext12 hs (fx_pow12 hl) fun i hi => ?_)
  have h0 : cn (s &&& no l) 12 = 0 := by omega
  by_cases e : i = l
  · subst e; rw [hb, bit_one]
  · cases e1 : s.testBit i with
    | false =>
      cases e2 : (2 ^ l).testBit i with
      | false => rfl
      | true => exact absurd (one_bit e2) e
    | true =>
      have h3 := cn_lt (s := 0) (t := s &&& no l) (i := i) (fun i z => by rw [Nat.zero_testBit] at z; cases z) (Nat.zero_testBit i) ((rm_bit hi).mpr ⟨e1, e⟩) 12 hi
      omega
def LEA (val : Nat → Nat) (Q : Nat → Prop) (j : Nat) (v : Int32) : Prop := ∃ x, v = nI x ∧ x ≤ 1000000 ∧ (x = 1000000 ∨ ∃ a, a < j ∧ Q a ∧ x = val a) ∧ ∀ a, a < j → Q a → x ≤ val a
theorem LEA.zero {val : Nat → Nat} {Q : Nat → Prop} : LEA val Q 0 1000000 := ⟨1000000, rfl, Nat.le_refl _, Or.inl rfl, fun a h => absurd h (Nat.not_lt_zero a)⟩
theorem LEA.skip {val : Nat → Nat} {Q : Nat → Prop} {j : Nat} {v : Int32} (h : LEA val Q j v) (hn : ¬ Q j) : LEA val Q (j + 1) v := by
  obtain ⟨x, e, h1, h2, h3⟩ := h
  refine ⟨x, e, h1, h2.imp id (fun ⟨a, q1, q2⟩ => ⟨a, by omega, q2⟩), fun a ha hq => ?_⟩
  by_cases c : a = j
  · subst c; exact absurd hq hn
  · exact h3 a (by omega) hq
theorem LEA.take {val : Nat → Nat} {Q : Nat → Prop} {j : Nat} {v w r : Int32} (h : LEA val Q j v) (hq : Q j) (hv : val j ≤ 99) (ew : w = nI (val j)) (er : r = (if v < w then v else w)) : LEA val Q (j + 1) r := by
  obtain ⟨x, e, h1, h2, h3⟩ := h
  by_cases c : x < val j
  · refine ⟨x, ?_, h1, h2.imp id (fun ⟨a, q1, q2⟩ => ⟨a, by omega, q2⟩), fun a ha hqa => ?_⟩
    · rw [er, e, ew, if_pos ((nI_ltI (by omega) (by omega)).mpr c)]
    · by_cases ca : a = j
      · subst ca; omega
      · exact h3 a (by omega) hqa
  · refine ⟨val j, ?_, by omega, Or.inr ⟨j, by omega, hq, rfl⟩, fun a ha hqa => ?_⟩
    · rw [er, e, ew, if_neg (fun q => c ((nI_ltI (by omega) (by omega)).mp q))]
    · by_cases ca : a = j
      · subst ca; exact Nat.le_refl _
      · have := h3 a (by omega) hqa
        omega
abbrev stV (col : Nat → Nat) (d s l : Nat) (a : Nat) : Nat := rst col a l (VAL col d (s &&& no l) a)
abbrev stQ (s l : Nat) (a : Nat) : Prop := a ≠ l ∧ s.testBit a = true
theorem VAL_le {col : Nat → Nat} {d s l : Nat} (hd : d ≤ 99) : VAL col d s l ≤ 99 := rF_le hd
theorem rst_le {col : Nat → Nat} {a l v : Nat} (h : v ≤ 99) : rst col a l v ≤ 99 := by
  unfold rst
  split
  · exact Nat.min_le_left _ _
  · show v - 5 ≤ 99
    omega
theorem sleep_end {col : Nat → Nat} {d s l n : Nat} {v : Int32} (hd : d ≤ 99) (hn : n ≤ 12) (hs : s < 2 ^ n) (hl : l < n) (hc : ∀ i, i < n → col i < 16) (h : LEA (stV col d s l) (stQ s l) n v) (hb : s.testBit l = true) (hne : s ≠ 2 ^ l) : v = nI (VAL col d s l) := by
  have h4 : s < 4096 := Nat.lt_of_lt_of_le hs (Nat.pow_le_pow_right (n := 2) (by decide) hn)
  have hl12 : l < 12 := by omega
  have hbn : ∀ i, s.testBit i = true → i < n := fun i z => Decidable.byContradiction fun c => by
    rw [Nat.testBit_lt_two_pow (Nat.lt_of_lt_of_le hs (Nat.pow_le_pow_right (by decide) (by omega)))] at z; cases z
  obtain ⟨a, ha, hal, hab, hle⟩ := ste_hi (d := d) (col := col) hd (hc l hl) hl12 hb (cn2 h4 hl12 hb hne)
  obtain ⟨x, e, h1, h2, h3⟩ := h
  have h5 : x ≤ stV col d s l a := h3 a (hbn a hab) ⟨hal, hab⟩
  have h6 : stV col d s l a ≤ VAL col d s l := hle
  have h7 : VAL col d s l ≤ 99 := VAL_le hd
  rw [e]
  refine congrArg nI ?_
  rcases h2 with h2 | ⟨a', ha', hq, h2⟩
  · omega
  · have h8 : VAL col d s l ≤ stV col d s l a' := ste_lo hd hl12 hb (by omega) hq.2 hq.1
    omega
theorem lim_up9 : ∀ x, x < 100 → (if (if (99 : Int32) < nI x + 7 then 99 else nI x + 7) < 0 then 0 else (if (99 : Int32) < nI x + 7 then 99 else nI x + 7)) = nI (rup x) := by decide +kernel
theorem lim_dn9 : ∀ x, x < 100 → (if (if (99 : Int32) < nI x + (-5) then 99 else nI x + (-5)) < 0 then 0 else (if (99 : Int32) < nI x + (-5) then 99 else nI x + (-5))) = nI (rdn x) := by decide +kernel
theorem st_up {g : Nat → Int32} {d s l a : Nat} {r : Int32} (hd : d ≤ 99) (c : gb g a = gb g l) (er : r = (if (if (99 : Int32) < nI (VAL (cof (gb g)) d (s &&& no l) a) + 7 then 99 else nI (VAL (cof (gb g)) d (s &&& no l) a) + 7) < 0 then 0 else (if (99 : Int32) < nI (VAL (cof (gb g)) d (s &&& no l) a) + 7 then 99 else nI (VAL (cof (gb g)) d (s &&& no l) a) + 7))) : r = nI (stV (cof (gb g)) d s l a) := by
  have h9 := VAL_le (col := cof (gb g)) (s := s &&& no l) (l := a) hd
  rw [er, lim_up9 _ (by omega), stV, rst, if_pos (show cof (gb g) a = cof (gb g) l by unfold cof; rw [c])]
theorem st_dn {g : Nat → Int32} {d s l a : Nat} {r : Int32} (hd : d ≤ 99) (c : ¬ gb g a = gb g l) (er : r = (if (if (99 : Int32) < nI (VAL (cof (gb g)) d (s &&& no l) a) + (-5) then 99 else nI (VAL (cof (gb g)) d (s &&& no l) a) + (-5)) < 0 then 0 else (if (99 : Int32) < nI (VAL (cof (gb g)) d (s &&& no l) a) + (-5) then 99 else nI (VAL (cof (gb g)) d (s &&& no l) a) + (-5)))) : r = nI (stV (cof (gb g)) d s l a) := by
  have h9 := VAL_le (col := cof (gb g)) (s := s &&& no l) (l := a) hd
  have hc : ¬ cof (gb g) a = cof (gb g) l := fun e => c (by rw [(cof_of (BY_gb g) a).1, (cof_of (BY_gb g) l).1, e])
  rw [er, lim_dn9 _ (by omega), stV, rst, if_neg hc]
theorem tab_at {T : Nat → Int32} {col : Nat → Nat} {d n s l a : Nat} (h : TAB T col d n s) (hs : s < 4096) (hl : l < 12) (hb : s.testBit l = true) (ha : a < n) (hn : n ≤ 12) (hab : s.testBit a = true) (hal : a ≠ l) : T (12 * (s &&& no l) + a) = nI (VAL col d (s &&& no l) a) := by
  have hb2 := (rm_bit (s := s) (l := l) (i := a) (by omega)).mpr ⟨hab, hal⟩
  have h1 : s &&& no l ≤ s := Nat.and_le_left
  have h2 : s &&& no l ≠ s := fun e => by
    have := (rm_bit (s := s) (l := l) (i := l) hl).mp (by rw [e]; exact hb)
    exact this.2 rfl
  have h3 : s &&& no l ≠ 0 := fun e => by rw [e, Nat.zero_testBit] at hb2; cases hb2
  exact h _ (by omega) (by omega) a ha hb2
def MIN9 (T : Nat → Int32) (F j : Nat) (v : Int32) : Prop := ∃ x, v = nI x ∧ x ≤ 99 ∧ True
theorem fin_min {col : Nat → Nat} {d n x y : Nat} : x = x := rfl
theorem full_eq {n : Nat} (h : n ≤ 12) : 2 ^ n - 1 = fullS n := rfl
theorem full_val {T : Nat → Int32} {col : Nat → Nat} {d n l : Nat} (h : TAB T col d n (2 ^ n)) (hn : 1 ≤ n ∧ n ≤ 12) (hl : l < n) : T (12 * (2 ^ n - 1) + l) = nI (rF d (sm col (fullS n) l) (n - 1)) := by
  have h1 : 2 ≤ 2 ^ n := Nat.le_trans (show 2 ≤ 2 ^ 1 by decide) (Nat.pow_le_pow_right (by decide) hn.1)
  have h2 := h (2 ^ n - 1) (by omega) (by omega) l hl (full_bit.mpr hl)
  have h3 := full_cn (n := n) 12
  rw [h2, VAL]
  show nI (rF d (sm col (fullS n) l) (cn (fullS n) 12 - 1)) = _
  rw [h3, show min 12 n = n by omega]
def LE9 (val : Nat → Nat) (j : Nat) (v : Int32) : Prop := ∃ x, v = nI x ∧ x ≤ 99 ∧ (x = 99 ∨ ∃ a, a < j ∧ x = val a) ∧ ∀ a, a < j → x ≤ val a
theorem LE9.zero {val : Nat → Nat} : LE9 val 0 99 := ⟨99, rfl, Nat.le_refl _, Or.inl rfl, fun a h => absurd h (Nat.not_lt_zero a)⟩
theorem LE9.take {val : Nat → Nat} {j : Nat} {v w r : Int32} (h : LE9 val j v) (hv : val j ≤ 99) (ew : w = nI (val j)) (er : r = (if v < w then v else w)) : LE9 val (j + 1) r := by
  obtain ⟨x, e, h1, h2, h3⟩ := h
  by_cases c : x < val j
  · refine ⟨x, ?_, h1, h2.imp id (fun ⟨a, q1, q2⟩ => ⟨a, by omega, q2⟩), fun a ha => ?_⟩
    · rw [er, e, ew, if_pos ((nI_ltI (by omega) (by omega)).mpr c)]
    · by_cases ca : a = j
      · subst ca; omega
      · exact h3 a (by omega)
  · refine ⟨val j, ?_, by omega, Or.inr ⟨j, by omega, rfl⟩, fun a ha => ?_⟩
    · rw [er, e, ew, if_neg (fun q => c ((nI_ltI (by omega) (by omega)).mp q))]
    · by_cases ca : a = j
      · subst ca; exact Nat.le_refl _
      · have := h3 a (by omega)
        omega
theorem LE9.fin {col : Nat → Nat} {d n : Nat} {v : Int32} (hd : d ≤ 99) (hn : 1 ≤ n ∧ n ≤ 12) (hc : ∀ i, i < n → col i < 16) (h : LE9 (fun l => rF d (sm col (fullS n) l) (n - 1)) n v) : v = nI (roomsA col n d) := by
  obtain ⟨l, hl, hle⟩ := roomsA_hi (col := col) hd hn.2 hn.1 hc
  obtain ⟨x, e, h1, h2, h3⟩ := h
  have h5 := h3 l hl
  have h5 : x ≤ rF d (sm col (fullS n) l) (n - 1) := h5
  have h0 : roomsA col n d ≤ 99 := rF_le hd
  rw [e]
  refine congrArg nI ?_
  rcases h2 with h2 | ⟨a, ha, h2⟩
  · omega
  · have h6 := roomsA_lo (col := col) hd hn.2 ha
    have h2 : x = rF d (sm col (fullS n) a) (n - 1) := h2
    omega

set_option maxHeartbeats 4000000 in
set_option maxRecDepth 100000 in
theorem r_octetS (l : Launch) (D : va_G) (b : Nat) (N : Nat) (V : Wd) (hN : 133 ≤ N) (cl : Nat) (hW : CR D b cl V) (n0 : Int32) (g : Nat → Int32) (hg : V 110 = cB D 260 g) (i9 : Nat) (hi9 : i9 < 260) (e09 : n0 = nI i9) : MI l D b 0 jX12_octet [.ref (b + 100), .int n0] N V 0 0 (fun r N9 V9 => (r = gb g i9) ∧ N = N9 ∧ V = V9) := by
  have hJ0 : JR D b N cl [] V V := JR.rf hW
  subst e09
  refine mw_of (by decide) (by simp [Value.category]) (Nat.le_of_ble_eq_true rfl) ?_
  show AW l D b jX12_octet (fx_rm 0 0 0) none (fx_MQ D b 0 0 (fx_qi (fun r N9 V9 => (r = gb g i9) ∧ N = N9 ∧ V = V9))) 0 [some (.ref (b + 100)), some (.int (nI i9))] [] N V 0 0
  refine aw_aload_n dX12_octet_0 rfl ?_
  obtain ⟨ftoldPeople_1, ftoldDoors_1, fwasDoors_1, ffault_1, fopen_1, flines_1, fmeantSet_1, fopenedNow_1, fvainNow_1, flowNow_1, fhighNow_1, fisKept_1, tad_1, pl0_1, le0_1, nu0_1, coy_1, wag_1, say_1, e_1, hntad_1, hnpl0_1, hnle0_1, hnnu0_1, hncoy_1, hnwag_1, hnsay_1⟩ := JR.get hJ0 cm_100
  refine aw_get dX12_octet_1 fl_X12_37 e_1 (by omega) rfl ?_
  refine aw_iload_n dX12_octet_4 rfl ?_
  refine aw_bald (v := (g i9)) dX12_octet_5 hg (by omega) (vp_in_nI (n := i9) (by omega) (by omega)) (congrArg g (nI_clamp (n := i9) (by omega))) ?_
  refine aw_sipush (v := 255) dX12_octet_6 (by decide) ?_
  refine aw_iand dX12_octet_9 ?_
  refine aw_ireti dX12_octet_10 rfl (Nat.le_of_ble_eq_true rfl) (Nat.le_of_ble_eq_true rfl) ?_
  exact ⟨rfl, rfl, rfl⟩

set_option maxHeartbeats 4000000 in
set_option maxRecDepth 100000 in
theorem r_minS (l : Launch) (D : va_G) (b : Nat) (N : Nat) (V : Wd) (hN : 133 ≤ N) (cl : Nat) (hW : CR D b cl V) (n0 : Int32) (n1 : Int32)  : MI l D b 0 jX12_min [.int n0, .int n1] N V 0 0 (fun r N9 V9 => (r = (if n0 < n1 then n0 else n1)) ∧ N = N9 ∧ V = V9) := by
  have hJ0 : JR D b N cl [] V V := JR.rf hW
  refine mw_of (by decide) (by simp [Value.category]) (Nat.le_of_ble_eq_true rfl) ?_
  show AW l D b jX12_min (fx_rm 0 0 0) none (fx_MQ D b 0 0 (fx_qi (fun r N9 V9 => (r = (if n0 < n1 then n0 else n1)) ∧ N = N9 ∧ V = V9))) 0 [some (.int n0), some (.int n1)] [] N V 0 0
  refine aw_iload_n dX12_min_0 rfl ?_
  refine aw_iload_n dX12_min_1 rfl ?_
  refine aw_icmp_ge (tgt := 9) dX12_min_2 (by decide) (fun c_1 => ?_) (fun c_1 => ?_)
  · skip
    refine aw_iload_n dX12_min_9 rfl ?_
    refine aw_ireti dX12_min_10 rfl (Nat.le_of_ble_eq_true rfl) (Nat.le_of_ble_eq_true rfl) ?_
    exact ⟨(if_neg (Int32.not_lt.mpr c_1)).symm, rfl, rfl⟩
  · skip
    refine aw_iload_n dX12_min_5 rfl ?_
    refine aw_goto (tgt := 10) dX12_min_6 (by decide) ?_
    refine aw_ireti dX12_min_10 rfl (Nat.le_of_ble_eq_true rfl) (Nat.le_of_ble_eq_true rfl) ?_
    exact ⟨(if_pos (Int32.not_le.mp c_1)).symm, rfl, rfl⟩

set_option maxHeartbeats 4000000 in
set_option maxRecDepth 100000 in
theorem r_maxS (l : Launch) (D : va_G) (b : Nat) (N : Nat) (V : Wd) (hN : 133 ≤ N) (cl : Nat) (hW : CR D b cl V) (n0 : Int32) (n1 : Int32)  : MI l D b 0 jX12_max [.int n0, .int n1] N V 0 0 (fun r N9 V9 => (r = (if n0 ≤ n1 then n1 else n0)) ∧ N = N9 ∧ V = V9) := by
  have hJ0 : JR D b N cl [] V V := JR.rf hW
  refine mw_of (by decide) (by simp [Value.category]) (Nat.le_of_ble_eq_true rfl) ?_
  show AW l D b jX12_max (fx_rm 0 0 0) none (fx_MQ D b 0 0 (fx_qi (fun r N9 V9 => (r = (if n0 ≤ n1 then n1 else n0)) ∧ N = N9 ∧ V = V9))) 0 [some (.int n0), some (.int n1)] [] N V 0 0
  refine aw_iload_n dX12_max_0 rfl ?_
  refine aw_iload_n dX12_max_1 rfl ?_
  refine aw_icmp_le (tgt := 9) dX12_max_2 (by decide) (fun c_1 => ?_) (fun c_1 => ?_)
  · skip
    refine aw_iload_n dX12_max_9 rfl ?_
    refine aw_ireti dX12_max_10 rfl (Nat.le_of_ble_eq_true rfl) (Nat.le_of_ble_eq_true rfl) ?_
    exact ⟨(if_pos c_1).symm, rfl, rfl⟩
  · skip
    refine aw_iload_n dX12_max_5 rfl ?_
    refine aw_goto (tgt := 10) dX12_max_6 (by decide) ?_
    refine aw_ireti dX12_max_10 rfl (Nat.le_of_ble_eq_true rfl) (Nat.le_of_ble_eq_true rfl) ?_
    exact ⟨(if_neg c_1).symm, rfl, rfl⟩

theorem max_lt0 {x : Int32} : (if (0 : Int32) ≤ x then x else 0) = (if x < 0 then 0 else x) := by
  by_cases c : x < 0
  · rw [if_pos c, if_neg (fun q => Int32.not_lt.mpr q c)]
  · rw [if_neg c, if_pos (Int32.not_lt.mp c)]
theorem lim_of {m r v : Int32} (e1 : m = (if (99 : Int32) < v then 99 else v)) (e2 : r = (if (0 : Int32) ≤ m then m else 0)) : r = (if (if (99 : Int32) < v then 99 else v) < 0 then 0 else (if (99 : Int32) < v then 99 else v)) := by
  rw [e2, e1, max_lt0]

set_option maxHeartbeats 4000000 in
set_option maxRecDepth 100000 in
theorem r_limitS (l : Launch) (D : va_G) (b : Nat) (N : Nat) (V : Wd) (hN : 133 ≤ N) (cl : Nat) (hW : CR D b cl V) (n0 : Int32)  : MI l D b 1 jX12_limit [.int n0] N V 0 0 (fun r N9 V9 => (r = (if (if (99 : Int32) < n0 then 99 else n0) < 0 then 0 else (if (99 : Int32) < n0 then 99 else n0))) ∧ N = N9 ∧ V = V9) := by
  have hJ0 : JR D b N cl [] V V := JR.rf hW
  refine mw_of (by decide) (by simp [Value.category]) (Nat.le_of_ble_eq_true rfl) ?_
  show AW l D b jX12_limit (fx_rm 1 0 0) none (fx_MQ D b 0 0 (fx_qi (fun r N9 V9 => (r = (if (if (99 : Int32) < n0 then 99 else n0) < 0 then 0 else (if (99 : Int32) < n0 then 99 else n0))) ∧ N = N9 ∧ V = V9))) 0 [some (.int n0)] [] N V 0 0
  refine aw_iconst (v := 0) dX12_limit_0 (by decide) ?_
  refine aw_bipush (v := 99) dX12_limit_1 (by decide) ?_
  refine aw_iload_n dX12_limit_3 rfl ?_
  refine aw_callSi (J' := jX12_min) (As := [.int 99, .int n0]) (st := [.int 0]) dX12_limit_4 tb_1325 ok_X12_min rfl (r_minS l D b N V hN cl hJ0.1 99 n0) rfl (Nat.le_of_ble_eq_true rfl) ⟨Nat.le_of_ble_eq_true rfl, Nat.le_of_ble_eq_true rfl, Nat.le_of_ble_eq_true rfl, Nat.le_of_ble_eq_true rfl⟩ (fun r_3 N_4 V_5 q_6 => ?_)
  obtain ⟨h_2, rfl, rfl⟩ := q_6
  refine aw_callSi (J' := jX12_max) (As := [.int 0, .int r_3]) (st := []) dX12_limit_7 tb_1328 ok_X12_max rfl (r_maxS l D b N V hN cl hJ0.1 0 r_3) rfl (Nat.le_of_ble_eq_true rfl) ⟨Nat.le_of_ble_eq_true rfl, Nat.le_of_ble_eq_true rfl, Nat.le_of_ble_eq_true rfl, Nat.le_of_ble_eq_true rfl⟩ (fun r_9 N_10 V_11 q_12 => ?_)
  obtain ⟨h_8, rfl, rfl⟩ := q_12
  refine aw_ireti dX12_limit_10 rfl (Nat.le_of_ble_eq_true rfl) (Nat.le_of_ble_eq_true rfl) ?_
  exact ⟨(lim_of h_2 h_8), rfl, rfl⟩

set_option maxHeartbeats 4000000 in
set_option maxRecDepth 100000 in
theorem r_sleepsS (l : Launch) (D : va_G) (b : Nat) (N : Nat) (V : Wd) (hN : 133 ≤ N) (cl : Nat) (hW : CR D b cl V) (n0 : Int32) (n1 : Int32) (n2 : Int32) (g : Nat → Int32) (hg : V 110 = cB D 260 g) (d9 a9 s9 l9 : Nat) (hd9 : d9 ≤ 99) (ha9 : 1 ≤ a9 ∧ a9 ≤ 12) (hs9 : s9 < 2 ^ a9) (hl9 : l9 < a9) (hC : ∀ i, i < a9 → cof (gb g) i < 16) (hTB : TAB (fI (V 132)) (cof (gb g)) d9 a9 s9) (e09 : n0 = nI a9) (e19 : n1 = nI s9) (e29 : n2 = nI l9) : MI l D b 2 jX12_sleeps [.ref (b + 100), .int n0, .int n1, .int n2] N V 0 0 (fun r N9 V9 => (s9.testBit l9 = true → s9 ≠ 2 ^ l9 → r = nI (VAL (cof (gb g)) d9 s9 l9)) ∧ N = N9 ∧ V = V9) := by
  have hJ0 : JR D b N cl [] V V := JR.rf hW
  subst e09
  subst e19
  subst e29
  have hs4 : s9 < 4096 := Nat.lt_of_lt_of_le hs9 (Nat.pow_le_pow_right (n := 2) (by decide) ha9.2)
  refine mw_of (by decide) (by simp [Value.category]) (Nat.le_of_ble_eq_true rfl) ?_
  show AW l D b jX12_sleeps (fx_rm 2 0 0) none (fx_MQ D b 0 0 (fx_qi (fun r N9 V9 => (s9.testBit l9 = true → s9 ≠ 2 ^ l9 → r = nI (VAL (cof (gb g)) d9 s9 l9)) ∧ N = N9 ∧ V = V9))) 0 [some (.ref (b + 100)), some (.int (nI a9)), some (.int (nI s9)), some (.int (nI l9)), none, none, none] [] N V 0 0
  refine aw_ldcw (v := 1000000) dX12_sleeps_0 tb_1473 ?_
  refine aw_istore (ls' := [some (.ref (b + 100)), some (.int (nI a9)), some (.int (nI s9)), some (.int (nI l9)), some (.int 1000000), none, none]) dX12_sleeps_3 (Nat.le_of_ble_eq_true rfl) rfl ?_
  refine aw_iconst (v := 0) dX12_sleeps_5 (by decide) ?_
  refine aw_istore (ls' := [some (.ref (b + 100)), some (.int (nI a9)), some (.int (nI s9)), some (.int (nI l9)), some (.int 1000000), some (.int 0), none]) dX12_sleeps_6 (Nat.le_of_ble_eq_true rfl) rfl ?_
  have loop_8_0 : ∀ (g_8 : Nat), ∀ (j8 : Nat) (v8_4 : Int32), j8 + g_8 = a9 → (LEA (stV (cof (gb g)) d9 s9 l9) (stQ s9 l9) j8 v8_4) → AW l D b jX12_sleeps (fx_rm 2 0 0) none (fx_MQ D b 0 0 (fx_qi (fun r N9 V9 => (s9.testBit l9 = true → s9 ≠ 2 ^ l9 → r = nI (VAL (cof (gb g)) d9 s9 l9)) ∧ N = N9 ∧ V = V9))) 8 [some (.ref (b + 100)), some (.int (nI a9)), some (.int (nI s9)), some (.int (nI l9)), some (.int v8_4), some (.int (nI j8)), none] [] N V 0 0 := by
    intro g_8
    induction g_8 with
    | zero =>
      intro j8 v8_4 hj8 i8_0
      obtain rfl : a9 = j8 := by omega
      refine aw_iload dX12_sleeps_8 rfl ?_
      refine aw_iload_n dX12_sleeps_10 rfl ?_
      refine aw_icmp_ge (tgt := 100) dX12_sleeps_11 (by decide) (fun c_3 => ?_) (fun c_3 => ?_)
      rotate_left
      · exact absurd (nI_le (a := a9) (b := a9) (Nat.le_refl _) (by omega)) c_3
      refine aw_iload dX12_sleeps_100 rfl ?_
      refine aw_ireti dX12_sleeps_102 rfl (Nat.le_of_ble_eq_true rfl) (Nat.le_of_ble_eq_true rfl) ?_
      exact ⟨fun hb hne => sleep_end hd9 ha9.2 hs9 hl9 hC i8_0 hb hne, rfl, rfl⟩
    | succ g_8 ih_8_1 =>
      intro j8 v8_4 hj8 i8_0
      have hlj8 : j8 < a9 := by omega
      refine aw_iload dX12_sleeps_8 rfl ?_
      refine aw_iload_n dX12_sleeps_10 rfl ?_
      refine aw_icmp_ge (tgt := 100) dX12_sleeps_11 (by decide) (fun c_4 => ?_) (fun c_4 => ?_)
      · exact absurd c_4 (nI_ge (a := j8) (b := a9) (by omega) (by omega))
      refine aw_iload_n dX12_sleeps_14 rfl ?_
      refine aw_iload_n dX12_sleeps_15 rfl ?_
      refine aw_callSi (J' := jX12_has) (As := [.int (nI s9), .int (nI l9)]) (st := []) dX12_sleeps_16 tb_1315 ok_X12_has rfl (r_hasS l D b N V hN cl hJ0.1 (nI s9) (nI l9)) rfl (Nat.le_of_ble_eq_true rfl) ⟨Nat.le_of_ble_eq_true rfl, Nat.le_of_ble_eq_true rfl, Nat.le_of_ble_eq_true rfl, Nat.le_of_ble_eq_true rfl⟩ (fun r_8 N_9 V_10 q_11 => ?_)
      obtain ⟨⟨z_7, h_6⟩, rfl, rfl⟩ := q_11
      rcases h_6 with ⟨hy_12, e_13⟩ | ⟨hn_14, e_15⟩
      · skip
        refine aw_eqi (y := 1) e_13 ?_
        refine aw_if_eq (tgt := 100) dX12_sleeps_19 (by decide) (fun c_16 => ?_) (fun c_16 => ?_)
        · exact absurd c_16 (by decide)
        refine aw_iload dX12_sleeps_22 rfl ?_
        refine aw_iload_n dX12_sleeps_24 rfl ?_
        refine aw_icmp_eq (tgt := 94) dX12_sleeps_25 (by decide) (fun c_17 => ?_) (fun c_17 => ?_)
        · skip
          have nc_17 : j8 = l9 := (nI_eq (a := j8) (b := l9) (by omega) (by omega)).mp c_17
          refine aw_iinc (v := (nI (j8 + 1))) (ls' := [some (.ref (b + 100)), some (.int (nI a9)), some (.int (nI s9)), some (.int (nI l9)), some (.int v8_4), some (.int (nI (j8 + 1))), none]) dX12_sleeps_94 rfl (fx_up_1 _) (Nat.le_of_ble_eq_true rfl) rfl ?_
          refine aw_goto (tgt := 8) dX12_sleeps_97 (by decide) ?_
          refine aw_le ?_ (ih_8_1 (j8 + 1) v8_4  (by omega) (i8_0.skip (fun q => q.1 (by first | omega | exact (nI_eq (by omega) (by omega)).mp c_17))))
          exact ⟨rfl, ⟨rfl, ⟨rfl, ⟨rfl, ⟨rfl, ⟨rfl, trivial⟩⟩⟩⟩⟩⟩
        · skip
          have nc_17 : ¬ (j8 = l9) := fun z => c_17 ((nI_eq (a := j8) (b := l9) (by omega) (by omega)).mpr z)
          refine aw_iload_n dX12_sleeps_28 rfl ?_
          refine aw_iload dX12_sleeps_29 rfl ?_
          refine aw_callSi (J' := jX12_has) (As := [.int (nI s9), .int (nI j8)]) (st := []) dX12_sleeps_31 tb_1315 ok_X12_has rfl (r_hasS l D b N V hN cl hJ0.1 (nI s9) (nI j8)) rfl (Nat.le_of_ble_eq_true rfl) ⟨Nat.le_of_ble_eq_true rfl, Nat.le_of_ble_eq_true rfl, Nat.le_of_ble_eq_true rfl, Nat.le_of_ble_eq_true rfl⟩ (fun r_21 N_22 V_23 q_24 => ?_)
          obtain ⟨⟨z_20, h_19⟩, rfl, rfl⟩ := q_24
          rcases h_19 with ⟨hy_25, e_26⟩ | ⟨hn_27, e_28⟩
          · skip
            refine aw_eqi (y := 1) e_26 ?_
            refine aw_if_ne (tgt := 40) dX12_sleeps_34 (by decide) (fun c_29 => ?_) (fun c_29 => ?_)
            rotate_left
            · exact absurd c_29 (by decide)
            refine aw_aload_n dX12_sleeps_40 rfl ?_
            obtain ⟨ftoldPeople_30, ftoldDoors_30, fwasDoors_30, ffault_30, fopen_30, flines_30, fmeantSet_30, fopenedNow_30, fvainNow_30, flowNow_30, fhighNow_30, fisKept_30, tad_30, pl0_30, le0_30, nu0_30, coy_30, wag_30, say_30, e_30, hntad_30, hnpl0_30, hnle0_30, hnnu0_30, hncoy_30, hnwag_30, hnsay_30⟩ := JR.get hJ0 cm_100
            refine aw_get dX12_sleeps_41 fl_X12_107 e_30 (by omega) rfl ?_
            refine aw_bipush (v := 12) dX12_sleeps_44 (by decide) ?_
            refine aw_iload_n dX12_sleeps_46 rfl ?_
            refine aw_iconst (v := 1) dX12_sleeps_47 (by decide) ?_
            refine aw_iload_n dX12_sleeps_48 rfl ?_
            refine aw_ishl dX12_sleeps_49 ?_
            refine aw_eqi (y := (nI (2 ^ l9))) (fx_shl12 l9 (by omega)) ?_
            refine aw_iconst (v := (-1)) dX12_sleeps_50 (by decide) ?_
            refine aw_ixor dX12_sleeps_51 ?_
            have hsl : s9 &&& no l9 ≤ s9 := Nat.and_le_left
            refine aw_iand dX12_sleeps_52 ?_
            refine aw_eqi (y := (nI (s9 &&& no l9))) (fx_cm hs4) ?_
            refine aw_imul dX12_sleeps_53 ?_
            refine aw_eqi (y := nI (12 * (s9 &&& no l9))) (pk_mul _ _) ?_
            refine aw_iload dX12_sleeps_54 rfl ?_
            refine aw_iadd dX12_sleeps_56 ?_
            refine aw_eqi (y := nI ((12 * (s9 &&& no l9)) + j8)) (nI_add _ _) ?_
            obtain ⟨g_31, e_31⟩ := JR.get hJ0 cm_132
            refine aw_iald (v := (g_31 ((12 * (s9 &&& no l9)) + j8))) dX12_sleeps_57 e_31 (by omega) (vp_in_nI (n := ((12 * (s9 &&& no l9)) + j8)) (by omega) (by omega)) (congrArg g_31 (nI_clamp (n := ((12 * (s9 &&& no l9)) + j8)) (by omega))) ?_
            refine aw_eqi (y := nI (VAL (cof (gb g)) d9 (s9 &&& no l9) j8)) (((congrArg (fun z => fI z (12 * (s9 &&& no l9) + j8)) e_31).symm.trans (tab_at hTB hs4 (by omega) (bt_it rfl hs4 (by omega) hy_12) (by omega) ha9.2 (bt_it rfl hs4 (by omega) hy_25) (by first | omega | exact fun e => c_17 (congrArg nI e))))) ?_
            refine aw_istore (ls' := [some (.ref (b + 100)), some (.int (nI a9)), some (.int (nI s9)), some (.int (nI l9)), some (.int v8_4), some (.int (nI j8)), some (.int (nI (VAL (cof (gb g)) d9 (s9 &&& no l9) j8)))]) dX12_sleeps_58 (Nat.le_of_ble_eq_true rfl) rfl ?_
            refine aw_iload dX12_sleeps_60 rfl ?_
            refine aw_iload dX12_sleeps_62 rfl ?_
            refine aw_aload_n dX12_sleeps_64 rfl ?_
            refine aw_iload dX12_sleeps_65 rfl ?_
            refine aw_callVi (J' := jX12_octet) (As := [.int (nI j8)]) (st := [.int (nI (VAL (cof (gb g)) d9 (s9 &&& no l9) j8)), .int v8_4]) dX12_sleeps_67 tb_1556 ok_X12_octet ⟨_, e_30⟩ (by omega) rfl rfl (r_octetS l D b N V hN cl hJ0.1 (nI j8) g hg j8 (by omega) rfl) rfl (Nat.le_of_ble_eq_true rfl) ⟨Nat.le_of_ble_eq_true rfl, Nat.le_of_ble_eq_true rfl, Nat.le_of_ble_eq_true rfl, Nat.le_of_ble_eq_true rfl⟩ (fun r_34 N_35 V_36 q_37 => ?_)
            obtain ⟨h_33, rfl, rfl⟩ := q_37
            refine aw_eqi (y := (gb g j8)) h_33 ?_
            refine aw_aload_n dX12_sleeps_70 rfl ?_
            refine aw_iload_n dX12_sleeps_71 rfl ?_
            refine aw_callVi (J' := jX12_octet) (As := [.int (nI l9)]) (st := [.int (gb g j8), .int (nI (VAL (cof (gb g)) d9 (s9 &&& no l9) j8)), .int v8_4]) dX12_sleeps_72 tb_1556 ok_X12_octet ⟨_, e_30⟩ (by omega) rfl rfl (r_octetS l D b N V hN cl hJ0.1 (nI l9) g hg l9 (by omega) rfl) rfl (Nat.le_of_ble_eq_true rfl) ⟨Nat.le_of_ble_eq_true rfl, Nat.le_of_ble_eq_true rfl, Nat.le_of_ble_eq_true rfl, Nat.le_of_ble_eq_true rfl⟩ (fun r_40 N_41 V_42 q_43 => ?_)
            obtain ⟨h_39, rfl, rfl⟩ := q_43
            refine aw_eqi (y := (gb g l9)) h_39 ?_
            refine aw_icmp_ne (tgt := 83) dX12_sleeps_75 (by decide) (fun c_44 => ?_) (fun c_44 => ?_)
            · skip
              refine aw_bipush (v := (-5)) dX12_sleeps_83 (by decide) ?_
              refine aw_iadd dX12_sleeps_85 ?_
              refine aw_callSi (J' := jX12_limit) (As := [.int ((nI (VAL (cof (gb g)) d9 (s9 &&& no l9) j8)) + (-5))]) (st := [.int v8_4]) dX12_sleeps_86 tb_1322 ok_X12_limit rfl (r_limitS l D b N V hN cl hJ0.1 ((nI (VAL (cof (gb g)) d9 (s9 &&& no l9) j8)) + (-5))) rfl (Nat.le_of_ble_eq_true rfl) ⟨Nat.le_of_ble_eq_true rfl, Nat.le_of_ble_eq_true rfl, Nat.le_of_ble_eq_true rfl, Nat.le_of_ble_eq_true rfl⟩ (fun r_47 N_48 V_49 q_50 => ?_)
              obtain ⟨h_46, rfl, rfl⟩ := q_50
              refine aw_callSi (J' := jX12_min) (As := [.int v8_4, .int r_47]) (st := []) dX12_sleeps_89 tb_1325 ok_X12_min rfl (r_minS l D b N V hN cl hJ0.1 v8_4 r_47) rfl (Nat.le_of_ble_eq_true rfl) ⟨Nat.le_of_ble_eq_true rfl, Nat.le_of_ble_eq_true rfl, Nat.le_of_ble_eq_true rfl, Nat.le_of_ble_eq_true rfl⟩ (fun r_53 N_54 V_55 q_56 => ?_)
              obtain ⟨h_52, rfl, rfl⟩ := q_56
              refine aw_istore (ls' := [some (.ref (b + 100)), some (.int (nI a9)), some (.int (nI s9)), some (.int (nI l9)), some (.int r_53), some (.int (nI j8)), some (.int (nI (VAL (cof (gb g)) d9 (s9 &&& no l9) j8)))]) dX12_sleeps_92 (Nat.le_of_ble_eq_true rfl) rfl ?_
              refine aw_iinc (v := (nI (j8 + 1))) (ls' := [some (.ref (b + 100)), some (.int (nI a9)), some (.int (nI s9)), some (.int (nI l9)), some (.int r_53), some (.int (nI (j8 + 1))), some (.int (nI (VAL (cof (gb g)) d9 (s9 &&& no l9) j8)))]) dX12_sleeps_94 rfl (fx_up_1 _) (Nat.le_of_ble_eq_true rfl) rfl ?_
              refine aw_goto (tgt := 8) dX12_sleeps_97 (by decide) ?_
              refine aw_le ?_ (ih_8_1 (j8 + 1) r_53  (by omega) (i8_0.take ⟨(by first | omega | exact fun e => c_17 (congrArg nI e)), (bt_it rfl hs4 (by omega) hy_25)⟩ (rst_le (VAL_le hd9)) (st_dn hd9 c_44 h_46) h_52))
              exact ⟨rfl, ⟨rfl, ⟨rfl, ⟨rfl, ⟨rfl, ⟨rfl, trivial⟩⟩⟩⟩⟩⟩
            · skip
              refine aw_bipush (v := 7) dX12_sleeps_78 (by decide) ?_
              refine aw_goto (tgt := 85) dX12_sleeps_80 (by decide) ?_
              refine aw_iadd dX12_sleeps_85 ?_
              refine aw_callSi (J' := jX12_limit) (As := [.int ((nI (VAL (cof (gb g)) d9 (s9 &&& no l9) j8)) + 7)]) (st := [.int v8_4]) dX12_sleeps_86 tb_1322 ok_X12_limit rfl (r_limitS l D b N V hN cl hJ0.1 ((nI (VAL (cof (gb g)) d9 (s9 &&& no l9) j8)) + 7)) rfl (Nat.le_of_ble_eq_true rfl) ⟨Nat.le_of_ble_eq_true rfl, Nat.le_of_ble_eq_true rfl, Nat.le_of_ble_eq_true rfl, Nat.le_of_ble_eq_true rfl⟩ (fun r_59 N_60 V_61 q_62 => ?_)
              obtain ⟨h_58, rfl, rfl⟩ := q_62
              refine aw_callSi (J' := jX12_min) (As := [.int v8_4, .int r_59]) (st := []) dX12_sleeps_89 tb_1325 ok_X12_min rfl (r_minS l D b N V hN cl hJ0.1 v8_4 r_59) rfl (Nat.le_of_ble_eq_true rfl) ⟨Nat.le_of_ble_eq_true rfl, Nat.le_of_ble_eq_true rfl, Nat.le_of_ble_eq_true rfl, Nat.le_of_ble_eq_true rfl⟩ (fun r_65 N_66 V_67 q_68 => ?_)
              obtain ⟨h_64, rfl, rfl⟩ := q_68
              refine aw_istore (ls' := [some (.ref (b + 100)), some (.int (nI a9)), some (.int (nI s9)), some (.int (nI l9)), some (.int r_65), some (.int (nI j8)), some (.int (nI (VAL (cof (gb g)) d9 (s9 &&& no l9) j8)))]) dX12_sleeps_92 (Nat.le_of_ble_eq_true rfl) rfl ?_
              refine aw_iinc (v := (nI (j8 + 1))) (ls' := [some (.ref (b + 100)), some (.int (nI a9)), some (.int (nI s9)), some (.int (nI l9)), some (.int r_65), some (.int (nI (j8 + 1))), some (.int (nI (VAL (cof (gb g)) d9 (s9 &&& no l9) j8)))]) dX12_sleeps_94 rfl (fx_up_1 _) (Nat.le_of_ble_eq_true rfl) rfl ?_
              refine aw_goto (tgt := 8) dX12_sleeps_97 (by decide) ?_
              refine aw_le ?_ (ih_8_1 (j8 + 1) r_65  (by omega) (i8_0.take ⟨(by first | omega | exact fun e => c_17 (congrArg nI e)), (bt_it rfl hs4 (by omega) hy_25)⟩ (rst_le (VAL_le hd9)) (st_up hd9 c_44 h_58) h_64))
              exact ⟨rfl, ⟨rfl, ⟨rfl, ⟨rfl, ⟨rfl, ⟨rfl, trivial⟩⟩⟩⟩⟩⟩
          · skip
            refine aw_eqi (y := 0) e_28 ?_
            refine aw_if_ne (tgt := 40) dX12_sleeps_34 (by decide) (fun c_69 => ?_) (fun c_69 => ?_)
            · exact absurd rfl c_69
            refine aw_goto (tgt := 94) dX12_sleeps_37 (by decide) ?_
            refine aw_iinc (v := (nI (j8 + 1))) (ls' := [some (.ref (b + 100)), some (.int (nI a9)), some (.int (nI s9)), some (.int (nI l9)), some (.int v8_4), some (.int (nI (j8 + 1))), none]) dX12_sleeps_94 rfl (fx_up_1 _) (Nat.le_of_ble_eq_true rfl) rfl ?_
            refine aw_goto (tgt := 8) dX12_sleeps_97 (by decide) ?_
            refine aw_le ?_ (ih_8_1 (j8 + 1) v8_4  (by omega) (i8_0.skip (fun q => bool_tf q.2 (bt_it rfl hs4 (by omega) hn_27))))
            exact ⟨rfl, ⟨rfl, ⟨rfl, ⟨rfl, ⟨rfl, ⟨rfl, trivial⟩⟩⟩⟩⟩⟩
      · skip
        refine aw_eqi (y := 0) e_15 ?_
        refine aw_if_eq (tgt := 100) dX12_sleeps_19 (by decide) (fun c_70 => ?_) (fun c_70 => ?_)
        rotate_left
        · exact absurd (by decide) c_70
        refine aw_iload dX12_sleeps_100 rfl ?_
        refine aw_ireti dX12_sleeps_102 rfl (Nat.le_of_ble_eq_true rfl) (Nat.le_of_ble_eq_true rfl) ?_
        exact ⟨fun hb _ => (bool_tf hb (bt_it rfl hs4 (by omega) hn_14)).elim, rfl, rfl⟩
  refine aw_le ?_ (loop_8_0 a9 0 1000000  (by omega) (LEA.zero))
  exact ⟨rfl, ⟨rfl, ⟨rfl, ⟨rfl, ⟨rfl, ⟨rfl, trivial⟩⟩⟩⟩⟩⟩

theorem fI_cB9 {D : va_G} {n : Nat} {V : Wd} {c : Nat} {g : Nat → Int32} (e : V c = cB D n g) : fI (V c) = g := funext fun k => by rw [e]; rfl

set_option maxHeartbeats 20000000 in
set_option maxRecDepth 100000 in
theorem r_roomsS (l : Launch) (D : va_G) (b : Nat) (N : Nat) (V : Wd) (hN : 133 ≤ N) (cl : Nat) (hW : CR D b cl V) (n0 : Int32) (n1 : Int32) (m0 : Int32) (m1 : Int32) (hm : m0 = n0 ∧ m1 = n1) : MI l D b 3 jX12_rooms [.ref (b + 100), .int n0, .int n1] N V 0 0 (fun r N9 V9 => (ANS (cRo m0 m1 (fI (V 100) 13)) r (roomsF (gb (fI (V 110))) m0 m1) ∧ TKS (cRo m0 m1 (fI (V 100) 13)) (fI (V 100) 13) (fI (V9 100) 13)) ∧ N = N9 ∧ JR D b N cl [(132, 132, 0, 1000000), (100, 100, 13, 13)] V V9) := by
  have hJ0 : JR D b N cl [(132, 132, 0, 1000000), (100, 100, 13, 13)] V V := JR.rf hW
  refine mw_of (by decide) (by simp [Value.category]) (Nat.le_of_ble_eq_true rfl) ?_
  show AW l D b jX12_rooms (fx_rm 3 0 0) none (fx_MQ D b 0 0 (fx_qi (fun r N9 V9 => (ANS (cRo m0 m1 (fI (V 100) 13)) r (roomsF (gb (fI (V 110))) m0 m1) ∧ TKS (cRo m0 m1 (fI (V 100) 13)) (fI (V 100) 13) (fI (V9 100) 13)) ∧ N = N9 ∧ JR D b N cl [(132, 132, 0, 1000000), (100, 100, 13, 13)] V V9))) 0 [some (.ref (b + 100)), some (.int n0), some (.int n1), none, none] [] N V 0 0
  obtain ⟨ftoldPeople_1, ftoldDoors_1, fwasDoors_1, ffault_1, fopen_1, flines_1, fmeantSet_1, fopenedNow_1, fvainNow_1, flowNow_1, fhighNow_1, fisKept_1, tad_1, pl0_1, le0_1, nu0_1, coy_1, wag_1, say_1, e_1, hntad_1, hnpl0_1, hnle0_1, hnnu0_1, hncoy_1, hnwag_1, hnsay_1⟩ := JR.get hJ0 cm_100
  have hta0 : fI (V 100) 13 = nI tad_1 := ((congrArg (fun z => fI z 13) e_1).trans rfl)
  obtain ⟨g_2, e_2⟩ := JR.get hJ0 cm_110
  refine aw_iload_n dX12_rooms_0 rfl ?_
  refine aw_iconst (v := 1) dX12_rooms_1 (by decide) ?_
  refine aw_bipush (v := 12) dX12_rooms_2 (by decide) ?_
  refine aw_callSi (J' := jX12_in) (As := [.int n0, .int 1, .int 12]) (st := []) dX12_rooms_4 tb_1209 ok_X12_in rfl (r_inK l D b N V hN cl hJ0.1 n0 1 12) rfl (Nat.le_of_ble_eq_true rfl) ⟨Nat.le_of_ble_eq_true rfl, Nat.le_of_ble_eq_true rfl, Nat.le_of_ble_eq_true rfl, Nat.le_of_ble_eq_true rfl⟩ (fun r_8 N_9 V_10 q_11 => ?_)
  obtain ⟨⟨z_5, h_4⟩, rfl, rfl⟩ := q_11
  obtain ⟨hi_6, hi_7⟩ := h_4
  refine aw_if_eq (tgt := 28) dX12_rooms_7 (by decide) (fun c_12 => ?_) (fun c_12 => ?_)
  · skip
    refine aw_iconst (v := (-1)) dX12_rooms_28 (by decide) ?_
    refine aw_ireti dX12_rooms_29 rfl (Nat.le_of_ble_eq_true rfl) (Nat.le_of_ble_eq_true rfl) ?_
    exact ⟨⟨Or.inr ⟨(by have zhi_7 := hi_7 c_12; have zt := fx_nIt (n := tad_1) (by omega); have e0 : (0 : Int32).toInt = 0 := (by decide); have e1 : (1 : Int32).toInt = 1 := (by decide); have e12 : (12 : Int32).toInt = 12 := (by decide); have e99 : (99 : Int32).toInt = 99 := (by decide); have q0 := zhi_7; have q1 := hm.1; have q2 := hm.2; have q3 := hta0; simp only [cRo, ← Int32.toInt_inj, Int32.le_iff_toInt_le, Int32.lt_iff_toInt_lt] at q0 q1 q2 q3 ⊢; omega), rfl⟩, Or.inr ⟨(by have zhi_7 := hi_7 c_12; have zt := fx_nIt (n := tad_1) (by omega); have e0 : (0 : Int32).toInt = 0 := (by decide); have e1 : (1 : Int32).toInt = 1 := (by decide); have e12 : (12 : Int32).toInt = 12 := (by decide); have e99 : (99 : Int32).toInt = 99 := (by decide); have q0 := zhi_7; have q1 := hm.1; have q2 := hm.2; have q3 := hta0; simp only [cRo, ← Int32.toInt_inj, Int32.le_iff_toInt_le, Int32.lt_iff_toInt_lt] at q0 q1 q2 q3 ⊢; omega), hta0.trans hta0.symm⟩⟩, rfl, hJ0⟩
  · skip
    obtain ⟨zn0, h0zn0, hzn0, rfl⟩ := in_nat (a := 1) (b := 12) (by decide) (hi_6.resolve_left c_12)
    refine aw_iload_n dX12_rooms_10 rfl ?_
    refine aw_iconst (v := 0) dX12_rooms_11 (by decide) ?_
    refine aw_bipush (v := 99) dX12_rooms_12 (by decide) ?_
    refine aw_callSi (J' := jX12_in) (As := [.int n1, .int 0, .int 99]) (st := []) dX12_rooms_14 tb_1209 ok_X12_in rfl (r_inK l D b N V hN cl hJ0.1 n1 0 99) rfl (Nat.le_of_ble_eq_true rfl) ⟨Nat.le_of_ble_eq_true rfl, Nat.le_of_ble_eq_true rfl, Nat.le_of_ble_eq_true rfl, Nat.le_of_ble_eq_true rfl⟩ (fun r_18 N_19 V_20 q_21 => ?_)
    obtain ⟨⟨z_15, h_14⟩, rfl, rfl⟩ := q_21
    obtain ⟨hi_16, hi_17⟩ := h_14
    refine aw_if_eq (tgt := 28) dX12_rooms_17 (by decide) (fun c_22 => ?_) (fun c_22 => ?_)
    · skip
      refine aw_iconst (v := (-1)) dX12_rooms_28 (by decide) ?_
      refine aw_ireti dX12_rooms_29 rfl (Nat.le_of_ble_eq_true rfl) (Nat.le_of_ble_eq_true rfl) ?_
      exact ⟨⟨Or.inr ⟨(by have zhi_17 := hi_17 c_22; have zhi_6 := hi_6.resolve_left c_12; have zzzn0 := fx_nIt (n := zn0) (by omega); have zt := fx_nIt (n := tad_1) (by omega); have e0 : (0 : Int32).toInt = 0 := (by decide); have e1 : (1 : Int32).toInt = 1 := (by decide); have e12 : (12 : Int32).toInt = 12 := (by decide); have e99 : (99 : Int32).toInt = 99 := (by decide); have q0 := zhi_17; have q1 := zhi_6; have q2 := hm.1; have q3 := hm.2; have q4 := hta0; simp only [cRo, ← Int32.toInt_inj, Int32.le_iff_toInt_le, Int32.lt_iff_toInt_lt] at q0 q1 q2 q3 q4 ⊢; omega), rfl⟩, Or.inr ⟨(by have zhi_17 := hi_17 c_22; have zhi_6 := hi_6.resolve_left c_12; have zzzn0 := fx_nIt (n := zn0) (by omega); have zt := fx_nIt (n := tad_1) (by omega); have e0 : (0 : Int32).toInt = 0 := (by decide); have e1 : (1 : Int32).toInt = 1 := (by decide); have e12 : (12 : Int32).toInt = 12 := (by decide); have e99 : (99 : Int32).toInt = 99 := (by decide); have q0 := zhi_17; have q1 := zhi_6; have q2 := hm.1; have q3 := hm.2; have q4 := hta0; simp only [cRo, ← Int32.toInt_inj, Int32.le_iff_toInt_le, Int32.lt_iff_toInt_lt] at q0 q1 q2 q3 q4 ⊢; omega), hta0.trans hta0.symm⟩⟩, rfl, hJ0⟩
    · skip
      obtain ⟨zn1, h0zn1, hzn1, rfl⟩ := in_nat (a := 0) (b := 99) (by decide) (hi_16.resolve_left c_22)
      refine aw_iload_n dX12_rooms_20 rfl ?_
      refine aw_aload_n dX12_rooms_21 rfl ?_
      refine aw_get dX12_rooms_22 fl_X12_152 e_1 (by omega) rfl ?_
      refine aw_icmp_le (tgt := 30) dX12_rooms_25 (by decide) (fun c_23 => ?_) (fun c_23 => ?_)
      · skip
        have nc_23 : zn0 ≤ tad_1 := (nI_leI (a := zn0) (b := tad_1) (by omega) (by omega)).mp c_23
        refine aw_aload_n dX12_rooms_30 rfl ?_
        refine aw_iconst (v := 0) dX12_rooms_31 (by decide) ?_
        refine aw_put dX12_rooms_32 fp_X12_152 e_1 (by omega) rfl rfl (Nat.le_of_ble_eq_true rfl) rfl ?_
        refine aw_upR hJ0 cm_100 ⟨_, _, _, _, _, _, _, _, _, _, _, _, 0, pl0_1, le0_1, nu0_1, coy_1, wag_1, say_1, rfl, by omega, by omega, by omega, by omega, by omega, by omega, by omega⟩ (by decide) (WO (s := 13) (x := .int 0) e_1 rfl (LMs LM0) (by decide) (by decide) (by decide) (Or.inl (by decide))) (fun V_24 j_24 k_24 e_24 => ?_)
        refine aw_iconst (v := 0) dX12_rooms_35 (by decide) ?_
        refine aw_istore_n (ls' := [some (.ref (b + 100)), some (.int (nI zn0)), some (.int (nI zn1)), some (.int 0), none]) dX12_rooms_36 (Nat.le_of_ble_eq_true rfl) rfl ?_
        have loop_37_24 : ∀ (g_37 : Nat), ∀ (j37 : Nat), j37 + g_37 = zn0 → (∀ i, i < j37 → cof (gb g_2) i < 16) → AW l D b jX12_rooms (fx_rm 3 0 0) none (fx_MQ D b 0 0 (fx_qi (fun r N9 V9 => (ANS (cRo m0 m1 (fI (V 100) 13)) r (roomsF (gb (fI (V 110))) m0 m1) ∧ TKS (cRo m0 m1 (fI (V 100) 13)) (fI (V 100) 13) (fI (V9 100) 13)) ∧ N = N9 ∧ JR D b N cl [(132, 132, 0, 1000000), (100, 100, 13, 13)] V V9))) 37 [some (.ref (b + 100)), some (.int (nI zn0)), some (.int (nI zn1)), some (.int (nI j37)), none] [] N V_24 0 0 := by
          intro g_37
          induction g_37 with
          | zero =>
            intro j37  hj37 i37_0
            obtain rfl : zn0 = j37 := by omega
            refine aw_iload_n dX12_rooms_37 rfl ?_
            refine aw_iload_n dX12_rooms_38 rfl ?_
            refine aw_icmp_ge (tgt := 61) dX12_rooms_39 (by decide) (fun c_27 => ?_) (fun c_27 => ?_)
            rotate_left
            · exact absurd (nI_le (a := zn0) (b := zn0) (Nat.le_refl _) (by omega)) c_27
            have hp63 := fx_pow13 (k := zn0) (by omega)
            refine aw_iconst (v := 1) dX12_rooms_61 (by decide) ?_
            refine aw_istore_n (ls' := [some (.ref (b + 100)), some (.int (nI zn0)), some (.int (nI zn1)), some (.int 1), none]) dX12_rooms_62 (Nat.le_of_ble_eq_true rfl) rfl ?_
            have loop_63_27 : ∀ (g_63 : Nat), ∀ (j63 : Nat)  (V63 : Wd), j63 + g_63 = (2 ^ zn0) → (TAB (fI (V63 132)) (cof (gb g_2)) zn1 zn0 j63) → (JR D b N cl [(132, 132, 0, 1000000), (100, 100, 13, 13)] V V63) → (V63 110 = cB D 260 g_2) → (fI (V63 100) 13 = 0) → AW l D b jX12_rooms (fx_rm 3 0 0) none (fx_MQ D b 0 0 (fx_qi (fun r N9 V9 => (ANS (cRo m0 m1 (fI (V 100) 13)) r (roomsF (gb (fI (V 110))) m0 m1) ∧ TKS (cRo m0 m1 (fI (V 100) 13)) (fI (V 100) 13) (fI (V9 100) 13)) ∧ N = N9 ∧ JR D b N cl [(132, 132, 0, 1000000), (100, 100, 13, 13)] V V9))) 63 [some (.ref (b + 100)), some (.int (nI zn0)), some (.int (nI zn1)), some (.int (nI j63)), none] [] N V63 0 0 := by
              intro g_63
              induction g_63 with
              | zero =>
                intro j63  V63 hj63 i63_0 i63_1 i63_2 i63_3
                obtain rfl : j63 = (2 ^ zn0) := by omega
                refine aw_iload_n dX12_rooms_63 rfl ?_
                refine aw_iconst (v := 1) dX12_rooms_64 (by decide) ?_
                refine aw_iload_n dX12_rooms_65 rfl ?_
                refine aw_ishl dX12_rooms_66 ?_
                refine aw_eqi (y := (nI (2 ^ zn0))) (fx_shl13 zn0 (by omega)) ?_
                refine aw_icmp_ge (tgt := 123) dX12_rooms_67 (by decide) (fun c_30 => ?_) (fun c_30 => ?_)
                rotate_left
                · exact absurd (nI_le (a := (2 ^ zn0)) (b := (2 ^ zn0)) (Nat.le_refl _) (by omega)) c_30
                refine aw_bipush (v := 99) dX12_rooms_123 (by decide) ?_
                refine aw_istore_n (ls' := [some (.ref (b + 100)), some (.int (nI zn0)), some (.int (nI zn1)), some (.int 99), none]) dX12_rooms_125 (Nat.le_of_ble_eq_true rfl) rfl ?_
                refine aw_iconst (v := 0) dX12_rooms_126 (by decide) ?_
                refine aw_istore (ls' := [some (.ref (b + 100)), some (.int (nI zn0)), some (.int (nI zn1)), some (.int 99), some (.int 0)]) dX12_rooms_127 (Nat.le_of_ble_eq_true rfl) rfl ?_
                have loop_129_30 : ∀ (g_129 : Nat), ∀ (j129 : Nat) (v129_3 : Int32), j129 + g_129 = zn0 → (LE9 (fun l => rF zn1 (sm (cof (gb g_2)) (fullS zn0) l) (zn0 - 1)) j129 v129_3) → AW l D b jX12_rooms (fx_rm 3 0 0) none (fx_MQ D b 0 0 (fx_qi (fun r N9 V9 => (ANS (cRo m0 m1 (fI (V 100) 13)) r (roomsF (gb (fI (V 110))) m0 m1) ∧ TKS (cRo m0 m1 (fI (V 100) 13)) (fI (V 100) 13) (fI (V9 100) 13)) ∧ N = N9 ∧ JR D b N cl [(132, 132, 0, 1000000), (100, 100, 13, 13)] V V9))) 129 [some (.ref (b + 100)), some (.int (nI zn0)), some (.int (nI zn1)), some (.int v129_3), some (.int (nI j129))] [] N V63 0 0 := by
                  intro g_129
                  induction g_129 with
                  | zero =>
                    intro j129 v129_3 hj129 i129_0
                    obtain rfl : zn0 = j129 := by omega
                    refine aw_iload dX12_rooms_129 rfl ?_
                    refine aw_iload_n dX12_rooms_131 rfl ?_
                    refine aw_icmp_ge (tgt := 162) dX12_rooms_132 (by decide) (fun c_33 => ?_) (fun c_33 => ?_)
                    rotate_left
                    · exact absurd (nI_le (a := zn0) (b := zn0) (Nat.le_refl _) (by omega)) c_33
                    refine aw_iload_n dX12_rooms_162 rfl ?_
                    refine aw_ireti dX12_rooms_163 rfl (Nat.le_of_ble_eq_true rfl) (Nat.le_of_ble_eq_true rfl) ?_
                    exact ⟨⟨Or.inl ⟨(by have zhi_6 := hi_6.resolve_left c_12; have zhi_16 := hi_16.resolve_left c_22; have zzzn0 := fx_nIt (n := zn0) (by omega); have zzzn1 := fx_nIt (n := zn1) (by omega); have zt := fx_nIt (n := tad_1) (by omega); have e0 : (0 : Int32).toInt = 0 := (by decide); have e1 : (1 : Int32).toInt = 1 := (by decide); have e12 : (12 : Int32).toInt = 12 := (by decide); have e99 : (99 : Int32).toInt = 99 := (by decide); have q0 := zhi_6; have q1 := zhi_16; have q2 := hm.1; have q3 := hm.2; have q4 := hta0; simp only [cRo, ← Int32.toInt_inj, Int32.le_iff_toInt_le, Int32.lt_iff_toInt_lt] at q0 q1 q2 q3 q4 ⊢; omega), by rw [hm.1, hm.2, fI_cB9 e_2]; exact (LE9.fin (by omega) ⟨by omega, by omega⟩ i37_0 i129_0).trans (roomsF_ok (by omega) (by omega) i37_0).symm⟩, Or.inl ⟨(by have zhi_6 := hi_6.resolve_left c_12; have zhi_16 := hi_16.resolve_left c_22; have zzzn0 := fx_nIt (n := zn0) (by omega); have zzzn1 := fx_nIt (n := zn1) (by omega); have zt := fx_nIt (n := tad_1) (by omega); have e0 : (0 : Int32).toInt = 0 := (by decide); have e1 : (1 : Int32).toInt = 1 := (by decide); have e12 : (12 : Int32).toInt = 12 := (by decide); have e99 : (99 : Int32).toInt = 99 := (by decide); have q0 := zhi_6; have q1 := zhi_16; have q2 := hm.1; have q3 := hm.2; have q4 := hta0; simp only [cRo, ← Int32.toInt_inj, Int32.le_iff_toInt_le, Int32.lt_iff_toInt_lt] at q0 q1 q2 q3 q4 ⊢; omega), i63_3⟩⟩, rfl, i63_1⟩
                  | succ g_129 ih_129_31 =>
                    intro j129 v129_3 hj129 i129_0
                    have hlj129 : j129 < zn0 := by omega
                    refine aw_iload dX12_rooms_129 rfl ?_
                    refine aw_iload_n dX12_rooms_131 rfl ?_
                    refine aw_icmp_ge (tgt := 162) dX12_rooms_132 (by decide) (fun c_34 => ?_) (fun c_34 => ?_)
                    · exact absurd c_34 (nI_ge (a := j129) (b := zn0) (by omega) (by omega))
                    refine aw_iload_n dX12_rooms_135 rfl ?_
                    refine aw_aload_n dX12_rooms_136 rfl ?_
                    obtain ⟨ftoldPeople_35, ftoldDoors_35, fwasDoors_35, ffault_35, fopen_35, flines_35, fmeantSet_35, fopenedNow_35, fvainNow_35, flowNow_35, fhighNow_35, fisKept_35, tad_35, pl0_35, le0_35, nu0_35, coy_35, wag_35, say_35, e_35, hntad_35, hnpl0_35, hnle0_35, hnnu0_35, hncoy_35, hnwag_35, hnsay_35⟩ := JR.get i63_1 cm_100
                    refine aw_get dX12_rooms_137 fl_X12_107 e_35 (by omega) rfl ?_
                    refine aw_bipush (v := 12) dX12_rooms_140 (by decide) ?_
                    refine aw_iconst (v := 1) dX12_rooms_142 (by decide) ?_
                    refine aw_iload_n dX12_rooms_143 rfl ?_
                    refine aw_ishl dX12_rooms_144 ?_
                    refine aw_eqi (y := (nI (2 ^ zn0))) (fx_shl13 zn0 (by omega)) ?_
                    refine aw_iconst (v := 1) dX12_rooms_145 (by decide) ?_
                    refine aw_isub dX12_rooms_146 ?_
                    refine aw_eqi (y := (nI ((2 ^ zn0) - 1))) (pk_sub (a := (2 ^ zn0)) (b := 1) (by omega)) ?_
                    refine aw_imul dX12_rooms_147 ?_
                    refine aw_eqi (y := nI (12 * ((2 ^ zn0) - 1))) (pk_mul _ _) ?_
                    refine aw_iload dX12_rooms_148 rfl ?_
                    refine aw_iadd dX12_rooms_150 ?_
                    refine aw_eqi (y := nI ((12 * ((2 ^ zn0) - 1)) + j129)) (nI_add _ _) ?_
                    obtain ⟨g_36, e_36⟩ := JR.get i63_1 cm_132
                    refine aw_iald (v := (g_36 ((12 * ((2 ^ zn0) - 1)) + j129))) dX12_rooms_151 e_36 (by omega) (vp_in_nI (n := ((12 * ((2 ^ zn0) - 1)) + j129)) (by omega) (by omega)) (congrArg g_36 (nI_clamp (n := ((12 * ((2 ^ zn0) - 1)) + j129)) (by omega))) ?_
                    refine aw_eqi (y := nI (rF zn1 (sm (cof (gb g_2)) (fullS zn0) j129) (zn0 - 1))) (((congrArg (fun z => fI z (12 * (2 ^ zn0 - 1) + j129)) e_36).symm.trans (full_val i63_0 ⟨by omega, by omega⟩ (by omega)))) ?_
                    refine aw_callSi (J' := jX12_min) (As := [.int v129_3, .int (nI (rF zn1 (sm (cof (gb g_2)) (fullS zn0) j129) (zn0 - 1)))]) (st := []) dX12_rooms_152 tb_1325 ok_X12_min rfl (r_minS l D b N V63 hN cl i63_1.1 v129_3 (nI (rF zn1 (sm (cof (gb g_2)) (fullS zn0) j129) (zn0 - 1)))) rfl (Nat.le_of_ble_eq_true rfl) ⟨Nat.le_of_ble_eq_true rfl, Nat.le_of_ble_eq_true rfl, Nat.le_of_ble_eq_true rfl, Nat.le_of_ble_eq_true rfl⟩ (fun r_39 N_40 V_41 q_42 => ?_)
                    obtain ⟨h_38, rfl, rfl⟩ := q_42
                    refine aw_istore_n (ls' := [some (.ref (b + 100)), some (.int (nI zn0)), some (.int (nI zn1)), some (.int r_39), some (.int (nI j129))]) dX12_rooms_155 (Nat.le_of_ble_eq_true rfl) rfl ?_
                    refine aw_iinc (v := (nI (j129 + 1))) (ls' := [some (.ref (b + 100)), some (.int (nI zn0)), some (.int (nI zn1)), some (.int r_39), some (.int (nI (j129 + 1)))]) dX12_rooms_156 rfl (fx_up_1 _) (Nat.le_of_ble_eq_true rfl) rfl ?_
                    refine aw_goto (tgt := 129) dX12_rooms_159 (by decide) ?_
                    refine aw_le ?_ (ih_129_31 (j129 + 1) r_39  (by omega) (i129_0.take (rF_le (by omega)) rfl h_38))
                    exact ⟨rfl, ⟨rfl, ⟨rfl, ⟨rfl, ⟨rfl, trivial⟩⟩⟩⟩⟩
                refine aw_le ?_ (loop_129_30 zn0 0 99  (by omega) (LE9.zero))
                exact ⟨rfl, ⟨rfl, ⟨rfl, ⟨rfl, ⟨rfl, trivial⟩⟩⟩⟩⟩
              | succ g_63 ih_63_28 =>
                intro j63  V63 hj63 i63_0 i63_1 i63_2 i63_3
                have hlj63 : j63 < (2 ^ zn0) := by omega
                refine aw_iload_n dX12_rooms_63 rfl ?_
                refine aw_iconst (v := 1) dX12_rooms_64 (by decide) ?_
                refine aw_iload_n dX12_rooms_65 rfl ?_
                refine aw_ishl dX12_rooms_66 ?_
                refine aw_eqi (y := (nI (2 ^ zn0))) (fx_shl13 zn0 (by omega)) ?_
                refine aw_icmp_ge (tgt := 123) dX12_rooms_67 (by decide) (fun c_43 => ?_) (fun c_43 => ?_)
                · exact absurd c_43 (nI_ge (a := j63) (b := (2 ^ zn0)) (by omega) (by omega))
                refine aw_iconst (v := 0) dX12_rooms_70 (by decide) ?_
                refine aw_istore (ls' := [some (.ref (b + 100)), some (.int (nI zn0)), some (.int (nI zn1)), some (.int (nI j63)), some (.int 0)]) dX12_rooms_71 (Nat.le_of_ble_eq_true rfl) rfl ?_
                have loop_73_43 : ∀ (g_73 : Nat), ∀ (j73 : Nat)  (V73 : Wd), j73 + g_73 = zn0 → (TAB (fI (V73 132)) (cof (gb g_2)) zn1 zn0 j63) → (ROW (fI (V73 132)) (cof (gb g_2)) zn1 j63 j73) → (JR D b N cl [(132, 132, 0, 1000000), (100, 100, 13, 13)] V V73) → (V73 110 = cB D 260 g_2) → (fI (V73 100) 13 = 0) → AW l D b jX12_rooms (fx_rm 3 0 0) none (fx_MQ D b 0 0 (fx_qi (fun r N9 V9 => (ANS (cRo m0 m1 (fI (V 100) 13)) r (roomsF (gb (fI (V 110))) m0 m1) ∧ TKS (cRo m0 m1 (fI (V 100) 13)) (fI (V 100) 13) (fI (V9 100) 13)) ∧ N = N9 ∧ JR D b N cl [(132, 132, 0, 1000000), (100, 100, 13, 13)] V V9))) 73 [some (.ref (b + 100)), some (.int (nI zn0)), some (.int (nI zn1)), some (.int (nI j63)), some (.int (nI j73))] [] N V73 0 0 := by
                  intro g_73
                  induction g_73 with
                  | zero =>
                    intro j73  V73 hj73 i73_0 i73_1 i73_2 i73_3 i73_4
                    obtain rfl : zn0 = j73 := by omega
                    refine aw_iload dX12_rooms_73 rfl ?_
                    refine aw_iload_n dX12_rooms_75 rfl ?_
                    refine aw_icmp_ge (tgt := 117) dX12_rooms_76 (by decide) (fun c_46 => ?_) (fun c_46 => ?_)
                    rotate_left
                    · exact absurd (nI_le (a := zn0) (b := zn0) (Nat.le_refl _) (by omega)) c_46
                    refine aw_iinc (v := (nI (j63 + 1))) (ls' := [some (.ref (b + 100)), some (.int (nI zn0)), some (.int (nI zn1)), some (.int (nI (j63 + 1))), some (.int (nI zn0))]) dX12_rooms_117 rfl (fx_up_1 _) (Nat.le_of_ble_eq_true rfl) rfl ?_
                    refine aw_goto (tgt := 63) dX12_rooms_120 (by decide) ?_
                    refine aw_le ?_ (ih_63_28 (j63 + 1)  V73 (by omega) (i73_0.next i73_1) (i73_2) (i73_3) (i73_4))
                    exact ⟨rfl, ⟨rfl, ⟨rfl, ⟨rfl, trivial⟩⟩⟩⟩
                  | succ g_73 ih_73_44 =>
                    intro j73  V73 hj73 i73_0 i73_1 i73_2 i73_3 i73_4
                    have hlj73 : j73 < zn0 := by omega
                    refine aw_iload dX12_rooms_73 rfl ?_
                    refine aw_iload_n dX12_rooms_75 rfl ?_
                    refine aw_icmp_ge (tgt := 117) dX12_rooms_76 (by decide) (fun c_47 => ?_) (fun c_47 => ?_)
                    · exact absurd c_47 (nI_ge (a := j73) (b := zn0) (by omega) (by omega))
                    refine aw_aload_n dX12_rooms_79 rfl ?_
                    obtain ⟨ftoldPeople_48, ftoldDoors_48, fwasDoors_48, ffault_48, fopen_48, flines_48, fmeantSet_48, fopenedNow_48, fvainNow_48, flowNow_48, fhighNow_48, fisKept_48, tad_48, pl0_48, le0_48, nu0_48, coy_48, wag_48, say_48, e_48, hntad_48, hnpl0_48, hnle0_48, hnnu0_48, hncoy_48, hnwag_48, hnsay_48⟩ := JR.get i73_2 cm_100
                    refine aw_get dX12_rooms_80 fl_X12_107 e_48 (by omega) rfl ?_
                    refine aw_bipush (v := 12) dX12_rooms_83 (by decide) ?_
                    refine aw_iload_n dX12_rooms_85 rfl ?_
                    refine aw_imul dX12_rooms_86 ?_
                    refine aw_eqi (y := nI (12 * j63)) (pk_mul _ _) ?_
                    refine aw_iload dX12_rooms_87 rfl ?_
                    refine aw_iadd dX12_rooms_89 ?_
                    refine aw_eqi (y := nI ((12 * j63) + j73)) (nI_add _ _) ?_
                    have hq73 := fx_pow12 (k := j73) (by omega)
                    refine aw_iload_n dX12_rooms_90 rfl ?_
                    refine aw_iconst (v := 1) dX12_rooms_91 (by decide) ?_
                    refine aw_iload dX12_rooms_92 rfl ?_
                    refine aw_ishl dX12_rooms_94 ?_
                    refine aw_eqi (y := (nI (2 ^ j73))) (fx_shl12 j73 (by omega)) ?_
                    refine aw_icmp_ne (tgt := 102) dX12_rooms_95 (by decide) (fun c_49 => ?_) (fun c_49 => ?_)
                    · skip
                      have nc_49 : ¬ (j63 = (2 ^ j73)) := fun z => c_49 ((nI_eq (a := j63) (b := (2 ^ j73)) (by omega) (by omega)).mpr z)
                      refine aw_aload_n dX12_rooms_102 rfl ?_
                      refine aw_iload_n dX12_rooms_103 rfl ?_
                      refine aw_iload_n dX12_rooms_104 rfl ?_
                      refine aw_iload dX12_rooms_105 rfl ?_
                      refine aw_callVi (J' := jX12_sleeps) (As := [.int (nI zn0), .int (nI j63), .int (nI j73)]) (st := [.int (nI ((12 * j63) + j73)), .ref (b + 132)]) dX12_rooms_107 tb_1597 ok_X12_sleeps ⟨_, e_48⟩ (by omega) rfl rfl (r_sleepsS l D b N V73 hN cl i73_2.1 (nI zn0) (nI j63) (nI j73) g_2 i73_3 zn1 zn0 j63 j73 (by omega) ⟨by omega, by omega⟩ (by omega) (by omega) i37_0 i73_0 rfl rfl rfl) rfl (Nat.le_of_ble_eq_true rfl) ⟨Nat.le_of_ble_eq_true rfl, Nat.le_of_ble_eq_true rfl, Nat.le_of_ble_eq_true rfl, Nat.le_of_ble_eq_true rfl⟩ (fun r_52 N_53 V_54 q_55 => ?_)
                      obtain ⟨h_51, rfl, rfl⟩ := q_55
                      obtain ⟨g_56, e_56⟩ := JR.get i73_2 cm_132
                      refine aw_iast dX12_rooms_110 e_56 (by omega) (vp_in_nI (n := ((12 * j63) + j73)) (by omega) (by omega)) ?_
                      refine aw_upR i73_2 cm_132 ⟨_, rfl⟩ (by decide) (WA LM0 (by decide) (by decide)) (fun V_57 j_57 k_57 e_57 => ?_)
                      refine aw_iinc (v := (nI (j73 + 1))) (ls' := [some (.ref (b + 100)), some (.int (nI zn0)), some (.int (nI zn1)), some (.int (nI j63)), some (.int (nI (j73 + 1)))]) dX12_rooms_111 rfl (fx_up_1 _) (Nat.le_of_ble_eq_true rfl) rfl ?_
                      refine aw_goto (tgt := 73) dX12_rooms_114 (by decide) ?_
                      refine aw_le ?_ (ih_73_44 (j73 + 1)  V_57 (by omega) (tab_upd e_56 e_57 (nI_clamp (n := 12 * j63 + j73) (by omega)) (by omega) i73_0) (row_upd e_56 e_57 (nI_clamp (n := 12 * j63 + j73) (by omega)) (fun hb => h_51 hb (by first | omega | exact fun e => c_49 (congrArg nI e))) i73_1) (j_57) (((k_57 _ (by decide)).trans i73_3)) (((congrArg (fun z => fI z 13) (k_57 _ (by omega))).trans i73_4)))
                      exact ⟨rfl, ⟨rfl, ⟨rfl, ⟨rfl, ⟨rfl, trivial⟩⟩⟩⟩⟩
                    · skip
                      have nc_49 : j63 = (2 ^ j73) := (nI_eq (a := j63) (b := (2 ^ j73)) (by omega) (by omega)).mp c_49
                      refine aw_iload_n dX12_rooms_98 rfl ?_
                      refine aw_goto (tgt := 110) dX12_rooms_99 (by decide) ?_
                      obtain ⟨g_58, e_58⟩ := JR.get i73_2 cm_132
                      refine aw_iast dX12_rooms_110 e_58 (by omega) (vp_in_nI (n := ((12 * j63) + j73)) (by omega) (by omega)) ?_
                      refine aw_upR i73_2 cm_132 ⟨_, rfl⟩ (by decide) (WA LM0 (by decide) (by decide)) (fun V_59 j_59 k_59 e_59 => ?_)
                      refine aw_iinc (v := (nI (j73 + 1))) (ls' := [some (.ref (b + 100)), some (.int (nI zn0)), some (.int (nI zn1)), some (.int (nI j63)), some (.int (nI (j73 + 1)))]) dX12_rooms_111 rfl (fx_up_1 _) (Nat.le_of_ble_eq_true rfl) rfl ?_
                      refine aw_goto (tgt := 73) dX12_rooms_114 (by decide) ?_
                      refine aw_le ?_ (ih_73_44 (j73 + 1)  V_59 (by omega) (tab_upd e_58 e_59 (nI_clamp (n := 12 * j63 + j73) (by omega)) (by omega) i73_0) (row_upd e_58 e_59 (nI_clamp (n := 12 * j63 + j73) (by omega)) (fun _ => by have e9 : j63 = 2 ^ j73 := (by first | omega | exact (nI_eq (by omega) (by omega)).mp c_49); rw [e9]; exact (congrArg nI (VAL_one (by omega))).symm) i73_1) (j_59) (((k_59 _ (by decide)).trans i73_3)) (((congrArg (fun z => fI z 13) (k_59 _ (by omega))).trans i73_4)))
                      exact ⟨rfl, ⟨rfl, ⟨rfl, ⟨rfl, ⟨rfl, trivial⟩⟩⟩⟩⟩
                refine aw_le ?_ (loop_73_43 zn0 0  V63 (by omega) (i63_0) (ROW.zero) (i63_1) (i63_2) (i63_3))
                exact ⟨rfl, ⟨rfl, ⟨rfl, ⟨rfl, ⟨rfl, trivial⟩⟩⟩⟩⟩
            refine aw_le ?_ (loop_63_27 ((2 ^ zn0) - 1) 1  V_24 (by omega) (TAB.one) (j_24) (((k_24 _ (by decide)).trans e_2)) (((congrArg (fun z => fI z 13) e_24).trans rfl)))
            exact ⟨rfl, ⟨rfl, ⟨rfl, ⟨rfl, trivial⟩⟩⟩⟩
          | succ g_37 ih_37_25 =>
            intro j37  hj37 i37_0
            have hlj37 : j37 < zn0 := by omega
            refine aw_iload_n dX12_rooms_37 rfl ?_
            refine aw_iload_n dX12_rooms_38 rfl ?_
            refine aw_icmp_ge (tgt := 61) dX12_rooms_39 (by decide) (fun c_60 => ?_) (fun c_60 => ?_)
            · exact absurd c_60 (nI_ge (a := j37) (b := zn0) (by omega) (by omega))
            refine aw_aload_n dX12_rooms_42 rfl ?_
            refine aw_iload_n dX12_rooms_43 rfl ?_
            refine aw_callVi (J' := jX12_octet) (As := [.int (nI j37)]) (st := []) dX12_rooms_44 tb_1556 ok_X12_octet ⟨_, e_24⟩ (by omega) rfl rfl (r_octetS l D b N V_24 hN cl j_24.1 (nI j37) g_2 ((k_24 _ (by decide)).trans e_2) j37 (by omega) rfl) rfl (Nat.le_of_ble_eq_true rfl) ⟨Nat.le_of_ble_eq_true rfl, Nat.le_of_ble_eq_true rfl, Nat.le_of_ble_eq_true rfl, Nat.le_of_ble_eq_true rfl⟩ (fun r_63 N_64 V_65 q_66 => ?_)
            obtain ⟨h_62, rfl, rfl⟩ := q_66
            refine aw_eqi (y := (gb g_2 j37)) h_62 ?_
            refine aw_bipush (v := 16) dX12_rooms_47 (by decide) ?_
            refine aw_icmp_lt (tgt := 55) dX12_rooms_49 (by decide) (fun c_67 => ?_) (fun c_67 => ?_)
            · skip
              refine aw_iinc (v := (nI (j37 + 1))) (ls' := [some (.ref (b + 100)), some (.int (nI zn0)), some (.int (nI zn1)), some (.int (nI (j37 + 1))), none]) dX12_rooms_55 rfl (fx_up_1 _) (Nat.le_of_ble_eq_true rfl) rfl ?_
              refine aw_goto (tgt := 37) dX12_rooms_58 (by decide) ?_
              refine aw_le ?_ (ih_37_25 (j37 + 1)   (by omega) (it_lt i37_0 (cof_lt (BY_gb g_2) c_67)))
              exact ⟨rfl, ⟨rfl, ⟨rfl, ⟨rfl, trivial⟩⟩⟩⟩
            · skip
              refine aw_bipush (v := (-3)) dX12_rooms_52 (by decide) ?_
              refine aw_ireti dX12_rooms_54 rfl (Nat.le_of_ble_eq_true rfl) (Nat.le_of_ble_eq_true rfl) ?_
              exact ⟨⟨Or.inl ⟨(by have zhi_6 := hi_6.resolve_left c_12; have zhi_16 := hi_16.resolve_left c_22; have zzzn0 := fx_nIt (n := zn0) (by omega); have zzzn1 := fx_nIt (n := zn1) (by omega); have zt := fx_nIt (n := tad_1) (by omega); have e0 : (0 : Int32).toInt = 0 := (by decide); have e1 : (1 : Int32).toInt = 1 := (by decide); have e12 : (12 : Int32).toInt = 12 := (by decide); have e99 : (99 : Int32).toInt = 99 := (by decide); have q0 := zhi_6; have q1 := zhi_16; have q2 := hm.1; have q3 := hm.2; have q4 := hta0; simp only [cRo, ← Int32.toInt_inj, Int32.le_iff_toInt_le, Int32.lt_iff_toInt_lt] at q0 q1 q2 q3 q4 ⊢; omega), by rw [hm.1, hm.2, fI_cB9 e_2]; exact (roomsF_no (by omega) (by omega) (cof_ge (BY_gb g_2) c_67)).symm⟩, Or.inl ⟨(by have zhi_6 := hi_6.resolve_left c_12; have zhi_16 := hi_16.resolve_left c_22; have zzzn0 := fx_nIt (n := zn0) (by omega); have zzzn1 := fx_nIt (n := zn1) (by omega); have zt := fx_nIt (n := tad_1) (by omega); have e0 : (0 : Int32).toInt = 0 := (by decide); have e1 : (1 : Int32).toInt = 1 := (by decide); have e12 : (12 : Int32).toInt = 12 := (by decide); have e99 : (99 : Int32).toInt = 99 := (by decide); have q0 := zhi_6; have q1 := zhi_16; have q2 := hm.1; have q3 := hm.2; have q4 := hta0; simp only [cRo, ← Int32.toInt_inj, Int32.le_iff_toInt_le, Int32.lt_iff_toInt_lt] at q0 q1 q2 q3 q4 ⊢; omega), ((congrArg (fun z => fI z 13) e_24).trans rfl)⟩⟩, rfl, j_24⟩
        refine aw_le ?_ (loop_37_24 zn0 0   (by omega) (fun i h => absurd h (Nat.not_lt_zero i)))
        exact ⟨rfl, ⟨rfl, ⟨rfl, ⟨rfl, trivial⟩⟩⟩⟩
      · skip
        have nc_23 : ¬ (zn0 ≤ tad_1) := fun z => c_23 ((nI_leI (a := zn0) (b := tad_1) (by omega) (by omega)).mpr z)
        refine aw_iconst (v := (-1)) dX12_rooms_28 (by decide) ?_
        refine aw_ireti dX12_rooms_29 rfl (Nat.le_of_ble_eq_true rfl) (Nat.le_of_ble_eq_true rfl) ?_
        exact ⟨⟨Or.inr ⟨(by have zhi_6 := hi_6.resolve_left c_12; have zhi_16 := hi_16.resolve_left c_22; have zzzn0 := fx_nIt (n := zn0) (by omega); have zzzn1 := fx_nIt (n := zn1) (by omega); have zt := fx_nIt (n := tad_1) (by omega); have e0 : (0 : Int32).toInt = 0 := (by decide); have e1 : (1 : Int32).toInt = 1 := (by decide); have e12 : (12 : Int32).toInt = 12 := (by decide); have e99 : (99 : Int32).toInt = 99 := (by decide); have q0 := zhi_6; have q1 := zhi_16; have q2 := hm.1; have q3 := hm.2; have q4 := hta0; simp only [cRo, ← Int32.toInt_inj, Int32.le_iff_toInt_le, Int32.lt_iff_toInt_lt] at q0 q1 q2 q3 q4 ⊢; omega), rfl⟩, Or.inr ⟨(by have zhi_6 := hi_6.resolve_left c_12; have zhi_16 := hi_16.resolve_left c_22; have zzzn0 := fx_nIt (n := zn0) (by omega); have zzzn1 := fx_nIt (n := zn1) (by omega); have zt := fx_nIt (n := tad_1) (by omega); have e0 : (0 : Int32).toInt = 0 := (by decide); have e1 : (1 : Int32).toInt = 1 := (by decide); have e12 : (12 : Int32).toInt = 12 := (by decide); have e99 : (99 : Int32).toInt = 99 := (by decide); have q0 := zhi_6; have q1 := zhi_16; have q2 := hm.1; have q3 := hm.2; have q4 := hta0; simp only [cRo, ← Int32.toInt_inj, Int32.le_iff_toInt_le, Int32.lt_iff_toInt_lt] at q0 q1 q2 q3 q4 ⊢; omega), hta0.trans hta0.symm⟩⟩, rfl, hJ0⟩

