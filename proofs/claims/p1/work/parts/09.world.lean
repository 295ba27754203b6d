
theorem fr_refl (V : Wd) : ∀ i, 100 ≤ i → V i = V i := fun _ _ => rfl
theorem CA.row {D : va_G} {b c i : Nat} {V : Wd} {dr : Nat → Nat → Int32} {kn df sg op : Nat → Int32} {pe dd ni xx : Int32} (h : CA D b c V dr kn df sg op pe dd ni xx) (hi : i < 12) (g : Nat → Int32) : CA D b c (va_up V (c + 1 + 1 + i) (cI D 16 g)) (fun k => if k = i then g else dr k) kn df sg op pe dd ni xx := by
  obtain ⟨h0, h1, h2, h3, h4, h5, h6⟩ := h
  refine ⟨(va_up_ne _ _ (by omega)).trans h0, (va_up_ne _ _ (by omega)).trans h1, fun j hj => ?_, (va_up_ne _ _ (by omega)).trans h3, (va_up_ne _ _ (by omega)).trans h4, (va_up_ne _ _ (by omega)).trans h5, (va_up_ne _ _ (by omega)).trans h6⟩
  by_cases e : j = i
  · subst e; rw [va_up_self]; simp
  · rw [va_up_ne _ _ (by omega)]; simp only [if_neg e]; exact h2 j hj
theorem CA.s14 {D : va_G} {b c : Nat} {V : Wd} {dr : Nat → Nat → Int32} {kn df sg op : Nat → Int32} {pe dd ni xx : Int32} (h : CA D b c V dr kn df sg op pe dd ni xx) (g : Nat → Int32) : CA D b c (va_up V (c + 14) (cI D 12 g)) dr g df sg op pe dd ni xx := by
  obtain ⟨h0, h1, h2, h3, h4, h5, h6⟩ := h
  exact ⟨(va_up_ne _ _ (by omega)).trans h0, (va_up_ne _ _ (by omega)).trans h1, fun j hj => (va_up_ne _ _ (by omega)).trans (h2 j hj), va_up_self _ _ _, (va_up_ne _ _ (by omega)).trans h4, (va_up_ne _ _ (by omega)).trans h5, (va_up_ne _ _ (by omega)).trans h6⟩
theorem CA.s15 {D : va_G} {b c : Nat} {V : Wd} {dr : Nat → Nat → Int32} {kn df sg op : Nat → Int32} {pe dd ni xx : Int32} (h : CA D b c V dr kn df sg op pe dd ni xx) (g : Nat → Int32) : CA D b c (va_up V (c + 15) (cI D 16 g)) dr kn g sg op pe dd ni xx := by
  obtain ⟨h0, h1, h2, h3, h4, h5, h6⟩ := h
  exact ⟨(va_up_ne _ _ (by omega)).trans h0, (va_up_ne _ _ (by omega)).trans h1, fun j hj => (va_up_ne _ _ (by omega)).trans (h2 j hj), (va_up_ne _ _ (by omega)).trans h3, va_up_self _ _ _, (va_up_ne _ _ (by omega)).trans h5, (va_up_ne _ _ (by omega)).trans h6⟩
theorem CA.s16 {D : va_G} {b c : Nat} {V : Wd} {dr : Nat → Nat → Int32} {kn df sg op : Nat → Int32} {pe dd ni xx : Int32} (h : CA D b c V dr kn df sg op pe dd ni xx) (g : Nat → Int32) : CA D b c (va_up V (c + 16) (cI D 16 g)) dr kn df g op pe dd ni xx := by
  obtain ⟨h0, h1, h2, h3, h4, h5, h6⟩ := h
  exact ⟨(va_up_ne _ _ (by omega)).trans h0, (va_up_ne _ _ (by omega)).trans h1, fun j hj => (va_up_ne _ _ (by omega)).trans (h2 j hj), (va_up_ne _ _ (by omega)).trans h3, (va_up_ne _ _ (by omega)).trans h4, va_up_self _ _ _, (va_up_ne _ _ (by omega)).trans h6⟩
theorem CA.s17 {D : va_G} {b c : Nat} {V : Wd} {dr : Nat → Nat → Int32} {kn df sg op : Nat → Int32} {pe dd ni xx : Int32} (h : CA D b c V dr kn df sg op pe dd ni xx) (g : Nat → Int32) : CA D b c (va_up V (c + 17) (cI D 16 g)) dr kn df sg g pe dd ni xx := by
  obtain ⟨h0, h1, h2, h3, h4, h5, h6⟩ := h
  exact ⟨(va_up_ne _ _ (by omega)).trans h0, (va_up_ne _ _ (by omega)).trans h1, fun j hj => (va_up_ne _ _ (by omega)).trans (h2 j hj), (va_up_ne _ _ (by omega)).trans h3, (va_up_ne _ _ (by omega)).trans h4, (va_up_ne _ _ (by omega)).trans h5, va_up_self _ _ _⟩
theorem CA.s0 {D : va_G} {b c : Nat} {V : Wd} {dr : Nat → Nat → Int32} {kn df sg op : Nat → Int32} {pe dd ni xx : Int32} (h : CA D b c V dr kn df sg op pe dd ni xx) (pe' dd' ni' xx' : Int32) : CA D b c (va_up V c (cO 0 [.ref (b + (c + 1)), .ref (b + (c + 14)), .ref (b + (c + 15)), .ref (b + (c + 16)), .ref (b + (c + 17)), .int pe', .int dd', .int ni', .int xx'])) dr kn df sg op pe' dd' ni' xx' := by
  obtain ⟨h0, h1, h2, h3, h4, h5, h6⟩ := h
  exact ⟨va_up_self _ _ _, (va_up_ne _ _ (by omega)).trans h1, fun j hj => (va_up_ne _ _ (by omega)).trans (h2 j hj), (va_up_ne _ _ (by omega)).trans h3, (va_up_ne _ _ (by omega)).trans h4, (va_up_ne _ _ (by omega)).trans h5, (va_up_ne _ _ (by omega)).trans h6⟩
theorem fx_upd0 {g : Nat → Int32} {k n : Nat} (h : ∀ j, j < n → g j = 0) : ∀ j, j < n → upd g k 0 j = 0 := fun j hj => by
  by_cases e : j = k
  · subst e; exact pk_us
  · rw [pk_un e]; exact h j hj
theorem CZ.row {D : va_G} {b c i k : Nat} {V : Wd} {dr : Nat → Nat → Int32} {kn df sg op : Nat → Int32} {ni xx : Int32} (h : CA D b c V dr kn df sg op 0 0 ni xx) (z1 : ∀ i j, i < 12 → j < 16 → dr i j = 0) (z2 : ∀ i, i < 12 → kn i = 0) (hi : i < 12) : CZ D b c (va_up V (c + 1 + 1 + i) (cI D 16 (upd (dr i) k 0))) :=
  ⟨_, _, _, _, _, _, _, h.row hi _, fun p q hp hq => by
    by_cases e : p = i
    · rw [if_pos e]; exact fx_upd0 (z1 i · hi) q hq
    · rw [if_neg e]; exact z1 p q hp hq, z2⟩
theorem CZ.kn {D : va_G} {b c k : Nat} {V : Wd} {dr : Nat → Nat → Int32} {kn df sg op : Nat → Int32} {ni xx : Int32} (h : CA D b c V dr kn df sg op 0 0 ni xx) (z1 : ∀ i j, i < 12 → j < 16 → dr i j = 0) (z2 : ∀ i, i < 12 → kn i = 0) : CZ D b c (va_up V (c + 14) (cI D 12 (upd kn k 0))) := ⟨_, _, _, _, _, _, _, h.s14 _, z1, fx_upd0 z2⟩
set_option maxHeartbeats 4000000 in
set_option maxRecDepth 100000 in
theorem c_copyDreads (l : Launch) (D : va_G) (b : Nat) (c c2 N : Nat) (V : Wd) (hN : c + 18 ≤ N) (hN2 : c2 + 18 ≤ N) (hs : c + 18 ≤ c2 ∨ c2 + 18 ≤ c) (hC : CZ D b c V) (hC2 : CZ D b c2 V) : MV l D b 0 jX0_copyDreads [.ref (b + c), .ref (b + c2)] N V 0 0 (fun N9 V9 => N = N9 ∧ CZ D b c V9 ∧ ∀ i, (i < c ∨ c + 18 ≤ i) → V9 i = V i) := by
  refine mw_of (by decide) (by simp [Value.category]) (Nat.le_of_ble_eq_true rfl) ?_
  show AW l D b jX0_copyDreads (fx_rm 0 0 0) none (fx_MQ D b 0 0 (fx_qv (fun N9 V9 => N = N9 ∧ CZ D b c V9 ∧ ∀ i, (i < c ∨ c + 18 ≤ i) → V9 i = V i))) 0 [some (.ref (b + c)), some (.ref (b + c2)), none, none] [] N V 0 0
  refine aw_iconst (v := 0) dX0_copyDreads_0 (by decide) ?_
  refine aw_istore_n (ls' := [some (.ref (b + c)), some (.ref (b + c2)), some (.int 0), none]) dX0_copyDreads_1 (Nat.le_of_ble_eq_true rfl) rfl ?_
  have loop_2_0 : ∀ (g_2 : Nat), ∀ (j2 : Nat)  (V2 : Wd), j2 + g_2 = 12 → (CZ D b c V2) → (∀ i, (i < c ∨ c + 18 ≤ i) → V2 i = V i) → AW l D b jX0_copyDreads (fx_rm 0 0 0) none (fx_MQ D b 0 0 (fx_qv (fun N9 V9 => N = N9 ∧ CZ D b c V9 ∧ ∀ i, (i < c ∨ c + 18 ≤ i) → V9 i = V i))) 2 [some (.ref (b + c)), some (.ref (b + c2)), some (.int (nI j2)), none] [] N V2 0 0 := by
    intro g_2
    induction g_2 with
    | zero =>
      intro j2  V2 hj2 i2_0 i2_1
      obtain rfl : j2 = 12 := by omega
      refine aw_iload_n dX0_copyDreads_2 rfl ?_
      refine aw_bipush (v := 12) dX0_copyDreads_3 (by decide) ?_
      refine aw_icmp_ge (tgt := 44) dX0_copyDreads_5 (by decide) (fun c_3 => ?_) (fun c_3 => ?_)
      rotate_left
      · exact absurd (nI_le (a := 12) (b := 12) (Nat.le_refl _) (by omega)) c_3
      refine aw_vreti dX0_copyDreads_44 rfl (Nat.le_of_ble_eq_true rfl) (Nat.le_of_ble_eq_true rfl) ?_
      exact ⟨rfl, i2_0, i2_1⟩
    | succ g_2 ih_2_1 =>
      intro j2  V2 hj2 i2_0 i2_1
      have hlj2 : j2 < 12 := by omega
      refine aw_iload_n dX0_copyDreads_2 rfl ?_
      refine aw_bipush (v := 12) dX0_copyDreads_3 (by decide) ?_
      refine aw_icmp_ge (tgt := 44) dX0_copyDreads_5 (by decide) (fun c_4 => ?_) (fun c_4 => ?_)
      · exact absurd c_4 (nI_ge (a := j2) (b := 12) (by omega) (by omega))
      refine aw_iconst (v := 0) dX0_copyDreads_8 (by decide) ?_
      refine aw_istore_n (ls' := [some (.ref (b + c)), some (.ref (b + c2)), some (.int (nI j2)), some (.int 0)]) dX0_copyDreads_9 (Nat.le_of_ble_eq_true rfl) rfl ?_
      have loop_10_4 : ∀ (g_10 : Nat), ∀ (j10 : Nat)  (V10 : Wd), j10 + g_10 = 16 → (CZ D b c V10) → (∀ i, (i < c ∨ c + 18 ≤ i) → V10 i = V i) → AW l D b jX0_copyDreads (fx_rm 0 0 0) none (fx_MQ D b 0 0 (fx_qv (fun N9 V9 => N = N9 ∧ CZ D b c V9 ∧ ∀ i, (i < c ∨ c + 18 ≤ i) → V9 i = V i))) 10 [some (.ref (b + c)), some (.ref (b + c2)), some (.int (nI j2)), some (.int (nI j10))] [] N V10 0 0 := by
        intro g_10
        induction g_10 with
        | zero =>
          intro j10  V10 hj10 i10_0 i10_1
          obtain rfl : j10 = 16 := by omega
          obtain ⟨dra, kna, dfa, sga, opa, nia, xxa, hCAa, z1a, z2a⟩ := id i10_0
          obtain ⟨h0a, h1a, h2a, h3a, h4a, h5a, h6a⟩ := id hCAa
          have hDe : CZ D b c2 V10 := hC2.frame (fun i q1 q2 => i10_1 i (by omega))
          obtain ⟨dre, kne, dfe, sge, ope, nie, xxe, hCAe, z1e, z2e⟩ := id hDe
          obtain ⟨h0e, h1e, h2e, h3e, h4e, h5e, h6e⟩ := id hCAe
          refine aw_iload_n dX0_copyDreads_10 rfl ?_
          refine aw_bipush (v := 16) dX0_copyDreads_11 (by decide) ?_
          refine aw_icmp_ge (tgt := 38) dX0_copyDreads_13 (by decide) (fun c_7 => ?_) (fun c_7 => ?_)
          rotate_left
          · exact absurd (nI_le (a := 16) (b := 16) (Nat.le_refl _) (by omega)) c_7
          refine aw_iinc (v := (nI (j2 + 1))) (ls' := [some (.ref (b + c)), some (.ref (b + c2)), some (.int (nI (j2 + 1))), some (.int (nI 16))]) dX0_copyDreads_38 rfl (fx_up_1 _) (Nat.le_of_ble_eq_true rfl) rfl ?_
          refine aw_goto (tgt := 2) dX0_copyDreads_41 (by decide) ?_
          refine aw_le ?_ (ih_2_1 (j2 + 1)  V10 (by omega) (i10_0) (i10_1))
          exact ⟨rfl, ⟨rfl, ⟨rfl, trivial⟩⟩⟩
        | succ g_10 ih_10_5 =>
          intro j10  V10 hj10 i10_0 i10_1
          have hlj10 : j10 < 16 := by omega
          obtain ⟨dra, kna, dfa, sga, opa, nia, xxa, hCAa, z1a, z2a⟩ := id i10_0
          obtain ⟨h0a, h1a, h2a, h3a, h4a, h5a, h6a⟩ := id hCAa
          have hDe : CZ D b c2 V10 := hC2.frame (fun i q1 q2 => i10_1 i (by omega))
          obtain ⟨dre, kne, dfe, sge, ope, nie, xxe, hCAe, z1e, z2e⟩ := id hDe
          obtain ⟨h0e, h1e, h2e, h3e, h4e, h5e, h6e⟩ := id hCAe
          refine aw_iload_n dX0_copyDreads_10 rfl ?_
          refine aw_bipush (v := 16) dX0_copyDreads_11 (by decide) ?_
          refine aw_icmp_ge (tgt := 38) dX0_copyDreads_13 (by decide) (fun c_8 => ?_) (fun c_8 => ?_)
          · exact absurd c_8 (nI_ge (a := j10) (b := 16) (by omega) (by omega))
          refine aw_aload_n dX0_copyDreads_16 rfl ?_
          refine aw_get dX0_copyDreads_17 fl_X0_11 h0a (by omega) rfl ?_
          refine aw_iload_n dX0_copyDreads_20 rfl ?_
          refine aw_aald dX0_copyDreads_21 h1a (by omega) (vp_in_nI (n := j2) (by omega) (by omega)) (by rw [nI_clamp (n := j2) (by omega)]; exact if_pos (by omega)) ?_
          refine aw_iload_n dX0_copyDreads_22 rfl ?_
          refine aw_aload_n dX0_copyDreads_23 rfl ?_
          refine aw_get dX0_copyDreads_24 fl_X0_11 h0e (by omega) rfl ?_
          refine aw_iload_n dX0_copyDreads_27 rfl ?_
          refine aw_aald dX0_copyDreads_28 h1e (by omega) (vp_in_nI (n := j2) (by omega) (by omega)) (by rw [nI_clamp (n := j2) (by omega)]; exact if_pos (by omega)) ?_
          refine aw_iload_n dX0_copyDreads_29 rfl ?_
          refine aw_iald (v := 0) dX0_copyDreads_30 (h2e j2 (by omega)) (by omega) (vp_in_nI (n := j10) (by omega) (by omega)) (by rw [nI_clamp (n := j10) (by omega)]; exact z1e j2 j10 (by omega) (by omega)) ?_
          refine aw_iast dX0_copyDreads_31 (h2a j2 (by omega)) (by omega) (vp_in_nI (n := j10) (by omega) (by omega)) ?_
          refine aw_iinc (v := (nI (j10 + 1))) (ls' := [some (.ref (b + c)), some (.ref (b + c2)), some (.int (nI j2)), some (.int (nI (j10 + 1)))]) dX0_copyDreads_32 rfl (fx_up_1 _) (Nat.le_of_ble_eq_true rfl) rfl ?_
          refine aw_goto (tgt := 10) dX0_copyDreads_35 (by decide) ?_
          refine aw_le ?_ (ih_10_5 (j10 + 1)  (va_up V10 (c + 1 + 1 + j2) (cI D 16 (upd (dra j2) (Int32.toNatClampNeg (nI j10)) 0))) (by omega) (CZ.row hCAa z1a z2a (by omega)) (fun i hi => (va_up_ne _ _ (by omega)).trans (i10_1 i hi)))
          exact ⟨rfl, ⟨rfl, ⟨rfl, ⟨rfl, trivial⟩⟩⟩⟩
      refine aw_le ?_ (loop_10_4 16 0  V2 (by omega) (i2_0) (i2_1))
      exact ⟨rfl, ⟨rfl, ⟨rfl, ⟨rfl, trivial⟩⟩⟩⟩
  refine aw_le ?_ (loop_2_0 12 0  V (by omega) (hC) (fun i _ => rfl))
  exact ⟨rfl, ⟨rfl, ⟨rfl, trivial⟩⟩⟩

set_option maxHeartbeats 4000000 in
set_option maxRecDepth 100000 in
theorem c_copyFrom (l : Launch) (D : va_G) (b : Nat) (c c2 N : Nat) (V : Wd) (hN : c + 18 ≤ N) (hN2 : c2 + 18 ≤ N) (hs : c + 18 ≤ c2 ∨ c2 + 18 ≤ c) (hC : CZ D b c V) (hC2 : CZ D b c2 V) : MV l D b 1 jX0_copyFrom [.ref (b + c), .ref (b + c2)] N V 0 0 (fun N9 V9 => N = N9 ∧ CZ D b c V9 ∧ ∀ i, (i < c ∨ c + 18 ≤ i) → V9 i = V i) := by
  obtain ⟨dr, kn, df, sg, op, ni, xx, hCA, z1, z2⟩ := id hC
  obtain ⟨h0, h1, h2, h3, h4, h5, h6⟩ := id hCA
  refine mw_of (by decide) (by simp [Value.category]) (Nat.le_of_ble_eq_true rfl) ?_
  show AW l D b jX0_copyFrom (fx_rm 1 0 0) none (fx_MQ D b 0 0 (fx_qv (fun N9 V9 => N = N9 ∧ CZ D b c V9 ∧ ∀ i, (i < c ∨ c + 18 ≤ i) → V9 i = V i))) 0 [some (.ref (b + c)), some (.ref (b + c2)), none] [] N V 0 0
  refine aw_aload_n dX0_copyFrom_0 rfl ?_
  refine aw_aload_n dX0_copyFrom_1 rfl ?_
  refine aw_callVv (J' := jX0_copyDreads) (As := [.ref (b + c2)]) (st := []) dX0_copyFrom_2 tb_585 ok_X0_copyDreads ⟨_, h0⟩ (by omega) rfl rfl (c_copyDreads l D b c c2 N V hN hN2 hs hC hC2) rfl (Nat.le_of_ble_eq_true rfl) ⟨Nat.le_of_ble_eq_true rfl, Nat.le_of_ble_eq_true rfl, Nat.le_of_ble_eq_true rfl, Nat.le_of_ble_eq_true rfl⟩ (fun  N_1 V1 q_2 => ?_)
  obtain ⟨rfl, hz1, fr1⟩ := q_2
  refine aw_iconst (v := 0) dX0_copyFrom_5 (by decide) ?_
  refine aw_istore_n (ls' := [some (.ref (b + c)), some (.ref (b + c2)), some (.int 0)]) dX0_copyFrom_6 (Nat.le_of_ble_eq_true rfl) rfl ?_
  have loop_7_2 : ∀ (g_7 : Nat), ∀ (j7 : Nat)  (V7 : Wd), j7 + g_7 = 12 → (CZ D b c V7) → (∀ i, (i < c ∨ c + 18 ≤ i) → V7 i = V i) → AW l D b jX0_copyFrom (fx_rm 1 0 0) none (fx_MQ D b 0 0 (fx_qv (fun N9 V9 => N = N9 ∧ CZ D b c V9 ∧ ∀ i, (i < c ∨ c + 18 ≤ i) → V9 i = V i))) 7 [some (.ref (b + c)), some (.ref (b + c2)), some (.int (nI j7))] [] N V7 0 0 := by
    intro g_7
    induction g_7 with
    | zero =>
      intro j7  V7 hj7 i7_0 i7_1
      obtain rfl : j7 = 12 := by omega
      obtain ⟨dra, kna, dfa, sga, opa, nia, xxa, hCAa, z1a, z2a⟩ := id i7_0
      obtain ⟨h0a, h1a, h2a, h3a, h4a, h5a, h6a⟩ := id hCAa
      have hDe : CZ D b c2 V7 := hC2.frame (fun i q1 q2 => i7_1 i (by omega))
      obtain ⟨dre, kne, dfe, sge, ope, nie, xxe, hCAe, z1e, z2e⟩ := id hDe
      obtain ⟨h0e, h1e, h2e, h3e, h4e, h5e, h6e⟩ := id hCAe
      refine aw_iload_n dX0_copyFrom_7 rfl ?_
      refine aw_bipush (v := 12) dX0_copyFrom_8 (by decide) ?_
      refine aw_icmp_ge (tgt := 31) dX0_copyFrom_10 (by decide) (fun c_5 => ?_) (fun c_5 => ?_)
      rotate_left
      · exact absurd (nI_le (a := 12) (b := 12) (Nat.le_refl _) (by omega)) c_5
      refine aw_iconst (v := 0) dX0_copyFrom_31 (by decide) ?_
      refine aw_istore_n (ls' := [some (.ref (b + c)), some (.ref (b + c2)), some (.int 0)]) dX0_copyFrom_32 (Nat.le_of_ble_eq_true rfl) rfl ?_
      have loop_33_5 : ∀ (g_33 : Nat), ∀ (j33 : Nat)  (V33 : Wd), j33 + g_33 = 16 → (CZ D b c V33) → (∀ i, (i < c ∨ c + 18 ≤ i) → V33 i = V i) → AW l D b jX0_copyFrom (fx_rm 1 0 0) none (fx_MQ D b 0 0 (fx_qv (fun N9 V9 => N = N9 ∧ CZ D b c V9 ∧ ∀ i, (i < c ∨ c + 18 ≤ i) → V9 i = V i))) 33 [some (.ref (b + c)), some (.ref (b + c2)), some (.int (nI j33))] [] N V33 0 0 := by
        intro g_33
        induction g_33 with
        | zero =>
          intro j33  V33 hj33 i33_0 i33_1
          obtain rfl : j33 = 16 := by omega
          obtain ⟨dra, kna, dfa, sga, opa, nia, xxa, hCAa, z1a, z2a⟩ := id i33_0
          obtain ⟨h0a, h1a, h2a, h3a, h4a, h5a, h6a⟩ := id hCAa
          have hDe : CZ D b c2 V33 := hC2.frame (fun i q1 q2 => i33_1 i (by omega))
          obtain ⟨dre, kne, dfe, sge, ope, nie, xxe, hCAe, z1e, z2e⟩ := id hDe
          obtain ⟨h0e, h1e, h2e, h3e, h4e, h5e, h6e⟩ := id hCAe
          refine aw_iload_n dX0_copyFrom_33 rfl ?_
          refine aw_bipush (v := 16) dX0_copyFrom_34 (by decide) ?_
          refine aw_icmp_ge (tgt := 81) dX0_copyFrom_36 (by decide) (fun c_8 => ?_) (fun c_8 => ?_)
          rotate_left
          · exact absurd (nI_le (a := 16) (b := 16) (Nat.le_refl _) (by omega)) c_8
          refine aw_aload_n dX0_copyFrom_81 rfl ?_
          refine aw_aload_n dX0_copyFrom_82 rfl ?_
          refine aw_get dX0_copyFrom_83 fl_X0_29 h0e (by omega) rfl ?_
          refine aw_put dX0_copyFrom_86 fp_X0_29 h0a (by omega) rfl rfl (Nat.le_of_ble_eq_true rfl) rfl ?_
          refine aw_aload_n dX0_copyFrom_89 rfl ?_
          refine aw_aload_n dX0_copyFrom_90 rfl ?_
          refine aw_get dX0_copyFrom_91 fl_X0_33 ((va_up_ne _ _ (by omega)).trans h0e) (by omega) rfl ?_
          refine aw_put dX0_copyFrom_94 fp_X0_33 (va_up_self _ _ _) (by omega) rfl rfl (Nat.le_of_ble_eq_true rfl) rfl ?_
          refine aw_aload_n dX0_copyFrom_97 rfl ?_
          refine aw_aload_n dX0_copyFrom_98 rfl ?_
          refine aw_get dX0_copyFrom_99 fl_X0_36 ((va_up_ne _ _ (by omega)).trans ((va_up_ne _ _ (by omega)).trans h0e)) (by omega) rfl ?_
          refine aw_put dX0_copyFrom_102 fp_X0_36 (va_up_self _ _ _) (by omega) rfl rfl (Nat.le_of_ble_eq_true rfl) rfl ?_
          refine aw_aload_n dX0_copyFrom_105 rfl ?_
          refine aw_aload_n dX0_copyFrom_106 rfl ?_
          refine aw_get dX0_copyFrom_107 fl_X0_39 ((va_up_ne _ _ (by omega)).trans ((va_up_ne _ _ (by omega)).trans ((va_up_ne _ _ (by omega)).trans h0e))) (by omega) rfl ?_
          refine aw_put dX0_copyFrom_110 fp_X0_39 (va_up_self _ _ _) (by omega) rfl rfl (Nat.le_of_ble_eq_true rfl) rfl ?_
          refine aw_vreti dX0_copyFrom_113 rfl (Nat.le_of_ble_eq_true rfl) (Nat.le_of_ble_eq_true rfl) ?_
          exact ⟨rfl, ⟨_, _, _, _, _, _, _, (((hCAa.s0 _ _ _ _).s0 _ _ _ _).s0 _ _ _ _).s0 _ _ _ _, z1a, z2a⟩, fun i hi => (va_up_ne _ _ (by omega)).trans ((va_up_ne _ _ (by omega)).trans ((va_up_ne _ _ (by omega)).trans ((va_up_ne _ _ (by omega)).trans (i33_1 i hi))))⟩
        | succ g_33 ih_33_6 =>
          intro j33  V33 hj33 i33_0 i33_1
          have hlj33 : j33 < 16 := by omega
          obtain ⟨dra, kna, dfa, sga, opa, nia, xxa, hCAa, z1a, z2a⟩ := id i33_0
          obtain ⟨h0a, h1a, h2a, h3a, h4a, h5a, h6a⟩ := id hCAa
          have hDe : CZ D b c2 V33 := hC2.frame (fun i q1 q2 => i33_1 i (by omega))
          obtain ⟨dre, kne, dfe, sge, ope, nie, xxe, hCAe, z1e, z2e⟩ := id hDe
          obtain ⟨h0e, h1e, h2e, h3e, h4e, h5e, h6e⟩ := id hCAe
          refine aw_iload_n dX0_copyFrom_33 rfl ?_
          refine aw_bipush (v := 16) dX0_copyFrom_34 (by decide) ?_
          refine aw_icmp_ge (tgt := 81) dX0_copyFrom_36 (by decide) (fun c_9 => ?_) (fun c_9 => ?_)
          · exact absurd c_9 (nI_ge (a := j33) (b := 16) (by omega) (by omega))
          refine aw_aload_n dX0_copyFrom_39 rfl ?_
          refine aw_get dX0_copyFrom_40 fl_X0_20 h0a (by omega) rfl ?_
          refine aw_iload_n dX0_copyFrom_43 rfl ?_
          refine aw_aload_n dX0_copyFrom_44 rfl ?_
          refine aw_get dX0_copyFrom_45 fl_X0_20 h0e (by omega) rfl ?_
          refine aw_iload_n dX0_copyFrom_48 rfl ?_
          refine aw_iald (v := (dfe j33)) dX0_copyFrom_49 h4e (by omega) (vp_in_nI (n := j33) (by omega) (by omega)) (congrArg dfe (nI_clamp (n := j33) (by omega))) ?_
          refine aw_iast dX0_copyFrom_50 h4a (by omega) (vp_in_nI (n := j33) (by omega) (by omega)) ?_
          refine aw_aload_n dX0_copyFrom_51 rfl ?_
          refine aw_get dX0_copyFrom_52 fl_X0_23 ((va_up_ne _ _ (by omega)).trans h0a) (by omega) rfl ?_
          refine aw_iload_n dX0_copyFrom_55 rfl ?_
          refine aw_aload_n dX0_copyFrom_56 rfl ?_
          refine aw_get dX0_copyFrom_57 fl_X0_23 ((va_up_ne _ _ (by omega)).trans h0e) (by omega) rfl ?_
          refine aw_iload_n dX0_copyFrom_60 rfl ?_
          refine aw_iald (v := (sge j33)) dX0_copyFrom_61 ((va_up_ne _ _ (by omega)).trans h5e) (by omega) (vp_in_nI (n := j33) (by omega) (by omega)) (congrArg sge (nI_clamp (n := j33) (by omega))) ?_
          refine aw_iast dX0_copyFrom_62 ((va_up_ne _ _ (by omega)).trans h5a) (by omega) (vp_in_nI (n := j33) (by omega) (by omega)) ?_
          refine aw_aload_n dX0_copyFrom_63 rfl ?_
          refine aw_get dX0_copyFrom_64 fl_X0_26 ((va_up_ne _ _ (by omega)).trans ((va_up_ne _ _ (by omega)).trans h0a)) (by omega) rfl ?_
          refine aw_iload_n dX0_copyFrom_67 rfl ?_
          refine aw_aload_n dX0_copyFrom_68 rfl ?_
          refine aw_get dX0_copyFrom_69 fl_X0_26 ((va_up_ne _ _ (by omega)).trans ((va_up_ne _ _ (by omega)).trans h0e)) (by omega) rfl ?_
          refine aw_iload_n dX0_copyFrom_72 rfl ?_
          refine aw_iald (v := (ope j33)) dX0_copyFrom_73 ((va_up_ne _ _ (by omega)).trans ((va_up_ne _ _ (by omega)).trans h6e)) (by omega) (vp_in_nI (n := j33) (by omega) (by omega)) (congrArg ope (nI_clamp (n := j33) (by omega))) ?_
          refine aw_iast dX0_copyFrom_74 ((va_up_ne _ _ (by omega)).trans ((va_up_ne _ _ (by omega)).trans h6a)) (by omega) (vp_in_nI (n := j33) (by omega) (by omega)) ?_
          refine aw_iinc (v := (nI (j33 + 1))) (ls' := [some (.ref (b + c)), some (.ref (b + c2)), some (.int (nI (j33 + 1)))]) dX0_copyFrom_75 rfl (fx_up_1 _) (Nat.le_of_ble_eq_true rfl) rfl ?_
          refine aw_goto (tgt := 33) dX0_copyFrom_78 (by decide) ?_
          refine aw_le ?_ (ih_33_6 (j33 + 1)  (va_up (va_up (va_up V33 (c + 15) (cI D 16 (upd dfa (Int32.toNatClampNeg (nI j33)) (dfe j33)))) (c + 16) (cI D 16 (upd sga (Int32.toNatClampNeg (nI j33)) (sge j33)))) (c + 17) (cI D 16 (upd opa (Int32.toNatClampNeg (nI j33)) (ope j33)))) (by omega) (⟨_, _, _, _, _, _, _, ((hCAa.s15 _).s16 _).s17 _, z1a, z2a⟩) (fun i hi => (va_up_ne _ _ (by omega)).trans ((va_up_ne _ _ (by omega)).trans ((va_up_ne _ _ (by omega)).trans (i33_1 i hi)))))
          exact ⟨rfl, ⟨rfl, ⟨rfl, trivial⟩⟩⟩
      refine aw_le ?_ (loop_33_5 16 0  V7 (by omega) (i7_0) (i7_1))
      exact ⟨rfl, ⟨rfl, ⟨rfl, trivial⟩⟩⟩
    | succ g_7 ih_7_3 =>
      intro j7  V7 hj7 i7_0 i7_1
      have hlj7 : j7 < 12 := by omega
      obtain ⟨dra, kna, dfa, sga, opa, nia, xxa, hCAa, z1a, z2a⟩ := id i7_0
      obtain ⟨h0a, h1a, h2a, h3a, h4a, h5a, h6a⟩ := id hCAa
      have hDe : CZ D b c2 V7 := hC2.frame (fun i q1 q2 => i7_1 i (by omega))
      obtain ⟨dre, kne, dfe, sge, ope, nie, xxe, hCAe, z1e, z2e⟩ := id hDe
      obtain ⟨h0e, h1e, h2e, h3e, h4e, h5e, h6e⟩ := id hCAe
      refine aw_iload_n dX0_copyFrom_7 rfl ?_
      refine aw_bipush (v := 12) dX0_copyFrom_8 (by decide) ?_
      refine aw_icmp_ge (tgt := 31) dX0_copyFrom_10 (by decide) (fun c_10 => ?_) (fun c_10 => ?_)
      · exact absurd c_10 (nI_ge (a := j7) (b := 12) (by omega) (by omega))
      refine aw_aload_n dX0_copyFrom_13 rfl ?_
      refine aw_get dX0_copyFrom_14 fl_X0_16 h0a (by omega) rfl ?_
      refine aw_iload_n dX0_copyFrom_17 rfl ?_
      refine aw_aload_n dX0_copyFrom_18 rfl ?_
      refine aw_get dX0_copyFrom_19 fl_X0_16 h0e (by omega) rfl ?_
      refine aw_iload_n dX0_copyFrom_22 rfl ?_
      refine aw_iald (v := 0) dX0_copyFrom_23 h3e (by omega) (vp_in_nI (n := j7) (by omega) (by omega)) (by rw [nI_clamp (n := j7) (by omega)]; exact z2e j7 (by omega)) ?_
      refine aw_iast dX0_copyFrom_24 h3a (by omega) (vp_in_nI (n := j7) (by omega) (by omega)) ?_
      refine aw_iinc (v := (nI (j7 + 1))) (ls' := [some (.ref (b + c)), some (.ref (b + c2)), some (.int (nI (j7 + 1)))]) dX0_copyFrom_25 rfl (fx_up_1 _) (Nat.le_of_ble_eq_true rfl) rfl ?_
      refine aw_goto (tgt := 7) dX0_copyFrom_28 (by decide) ?_
      refine aw_le ?_ (ih_7_3 (j7 + 1)  (va_up V7 (c + 14) (cI D 12 (upd kna (Int32.toNatClampNeg (nI j7)) 0))) (by omega) (CZ.kn hCAa z1a z2a) (fun i hi => (va_up_ne _ _ (by omega)).trans (i7_1 i hi)))
      exact ⟨rfl, ⟨rfl, ⟨rfl, trivial⟩⟩⟩
  refine aw_le ?_ (loop_7_2 12 0  V1 (by omega) (hz1) (fr1))
  exact ⟨rfl, ⟨rfl, ⟨rfl, trivial⟩⟩⟩

set_option maxHeartbeats 4000000 in
set_option maxRecDepth 100000 in
theorem c_meanDoor (l : Launch) (D : va_G) (b : Nat) (N : Nat) (V : Wd) (hN : 100 ≤ N) (s8 r8 h8 : Int32) (g : Nat → Int32) (hl : V 57 = cO 4 [.ref (b + 58), .ref (b + 59), .int s8, .ref (b + 60), .ref (b + 61), .ref (b + 62), .int r8, .ref (b + 63), .ref (b + 64), .int h8]) (hm : V 63 = cI D 10 g) (x y : Int32) : MV l D b 0 jX4_meanDoor [.ref (b + 57), .int x, .int y] N V 0 0 (fun N9 V9 => N = N9 ∧ (∃ g', V9 63 = cI D 10 g') ∧ ∀ i, i ≠ 63 → V9 i = V i) := by
  refine mw_of (by decide) (by simp [Value.category]) (Nat.le_of_ble_eq_true rfl) ?_
  show AW l D b jX4_meanDoor (fx_rm 0 0 0) none (fx_MQ D b 0 0 (fx_qv (fun N9 V9 => N = N9 ∧ (∃ g', V9 63 = cI D 10 g') ∧ ∀ i, i ≠ 63 → V9 i = V i))) 0 [some (.ref (b + 57)), some (.int x), some (.int y)] [] N V 0 0
  refine aw_aload_n dX4_meanDoor_0 rfl ?_
  refine aw_get dX4_meanDoor_1 fl_X4_42 hl (by omega) rfl ?_
  refine aw_iconst (v := 5) dX4_meanDoor_4 (by decide) ?_
  refine aw_iload_n dX4_meanDoor_5 rfl ?_
  refine aw_iast dX4_meanDoor_6 hm (by omega) (vp_in_nI (n := 5) (N := 10) (by decide) (by decide)) ?_
  refine aw_aload_n dX4_meanDoor_7 rfl ?_
  refine aw_get dX4_meanDoor_8 fl_X4_42 ((va_up_ne _ _ (by omega)).trans hl) (by omega) rfl ?_
  refine aw_bipush (v := 7) dX4_meanDoor_11 (by decide) ?_
  refine aw_iload_n dX4_meanDoor_13 rfl ?_
  refine aw_iast dX4_meanDoor_14 (va_up_self _ _ _) (by omega) (vp_in_nI (n := 7) (N := 10) (by decide) (by decide)) ?_
  refine aw_vreti dX4_meanDoor_15 rfl (Nat.le_of_ble_eq_true rfl) (Nat.le_of_ble_eq_true rfl) ?_
  exact ⟨rfl, ⟨_, va_up_self _ _ _⟩, fun i hi => (va_up_ne _ _ hi).trans (va_up_ne _ _ hi)⟩

set_option maxHeartbeats 4000000 in
set_option maxRecDepth 100000 in
theorem c_meanTime (l : Launch) (D : va_G) (b : Nat) (N : Nat) (V : Wd) (hN : 100 ≤ N) (s8 r8 h8 : Int32) (g : Nat → Int32) (hl : V 57 = cO 4 [.ref (b + 58), .ref (b + 59), .int s8, .ref (b + 60), .ref (b + 61), .ref (b + 62), .int r8, .ref (b + 63), .ref (b + 64), .int h8]) (hm : V 63 = cI D 10 g) (x y : Int32) : MV l D b 0 jX4_meanTime [.ref (b + 57), .int x, .int y] N V 0 0 (fun N9 V9 => N = N9 ∧ (∃ g', V9 63 = cI D 10 g') ∧ ∀ i, i ≠ 63 → V9 i = V i) := by
  refine mw_of (by decide) (by simp [Value.category]) (Nat.le_of_ble_eq_true rfl) ?_
  show AW l D b jX4_meanTime (fx_rm 0 0 0) none (fx_MQ D b 0 0 (fx_qv (fun N9 V9 => N = N9 ∧ (∃ g', V9 63 = cI D 10 g') ∧ ∀ i, i ≠ 63 → V9 i = V i))) 0 [some (.ref (b + 57)), some (.int x), some (.int y)] [] N V 0 0
  refine aw_aload_n dX4_meanTime_0 rfl ?_
  refine aw_get dX4_meanTime_1 fl_X4_42 hl (by omega) rfl ?_
  refine aw_bipush (v := 8) dX4_meanTime_4 (by decide) ?_
  refine aw_iload_n dX4_meanTime_6 rfl ?_
  refine aw_iast dX4_meanTime_7 hm (by omega) (vp_in_nI (n := 8) (N := 10) (by decide) (by decide)) ?_
  refine aw_aload_n dX4_meanTime_8 rfl ?_
  refine aw_get dX4_meanTime_9 fl_X4_42 ((va_up_ne _ _ (by omega)).trans hl) (by omega) rfl ?_
  refine aw_bipush (v := 9) dX4_meanTime_12 (by decide) ?_
  refine aw_iload_n dX4_meanTime_14 rfl ?_
  refine aw_iast dX4_meanTime_15 (va_up_self _ _ _) (by omega) (vp_in_nI (n := 9) (N := 10) (by decide) (by decide)) ?_
  refine aw_vreti dX4_meanTime_16 rfl (Nat.le_of_ble_eq_true rfl) (Nat.le_of_ble_eq_true rfl) ?_
  exact ⟨rfl, ⟨_, va_up_self _ _ _⟩, fun i hi => (va_up_ne _ _ hi).trans (va_up_ne _ _ hi)⟩

set_option maxHeartbeats 4000000 in
set_option maxRecDepth 100000 in
theorem c_spreadDread (l : Launch) (D : va_G) (b : Nat) (c N : Nat) (V : Wd) (hN : 100 ≤ N) (hc : c + 18 ≤ 57 ∧ 0 < c) (hC : CZ D b c V) (hC7 : CZ D b 74 V) (h73 : V 73 = cO 6 [.ref (b + 74), .int 0, .int 0]) (hlw0 : ∃ s8 r8 h8 : Int32, V 57 = cO 4 [.ref (b + 58), .ref (b + 59), .int s8, .ref (b + 60), .ref (b + 61), .ref (b + 62), .int r8, .ref (b + 63), .ref (b + 64), .int h8]) (hmw0 : ∃ g : Nat → Int32, V 63 = cI D 10 g) : MV l D b 3 jX7_spreadDread [.ref (b + 73), .ref (b + c), .ref (b + 57)] N V 0 0 (fun N9 V9 => N = N9 ∧ (CZ D b c V9) ∧ (CZ D b 74 V9) ∧ (V9 73 = cO 6 [.ref (b + 74), .int 0, .int 0]) ∧ (∃ s8 r8 h8 : Int32, V9 57 = cO 4 [.ref (b + 58), .ref (b + 59), .int s8, .ref (b + 60), .ref (b + 61), .ref (b + 62), .int r8, .ref (b + 63), .ref (b + 64), .int h8]) ∧ (∃ g : Nat → Int32, V9 63 = cI D 10 g) ∧ (V9 0 = V 0) ∧ ∀ i, 100 ≤ i → V9 i = V i) := by
  obtain ⟨dra, kna, dfa, sga, opa, nia, xxa, hCAa, z1a, z2a⟩ := id hC
  obtain ⟨h0a, h1a, h2a, h3a, h4a, h5a, h6a⟩ := id hCAa
  obtain ⟨s8, r8, h8, hlw⟩ := id hlw0
  obtain ⟨gw, hmw⟩ := id hmw0
  refine mw_of (by decide) (by simp [Value.category]) (Nat.le_of_ble_eq_true rfl) ?_
  show AW l D b jX7_spreadDread (fx_rm 3 0 0) none (fx_MQ D b 0 0 (fx_qv (fun N9 V9 => N = N9 ∧ (CZ D b c V9) ∧ (CZ D b 74 V9) ∧ (V9 73 = cO 6 [.ref (b + 74), .int 0, .int 0]) ∧ (∃ s8 r8 h8 : Int32, V9 57 = cO 4 [.ref (b + 58), .ref (b + 59), .int s8, .ref (b + 60), .ref (b + 61), .ref (b + 62), .int r8, .ref (b + 63), .ref (b + 64), .int h8]) ∧ (∃ g : Nat → Int32, V9 63 = cI D 10 g) ∧ (V9 0 = V 0) ∧ ∀ i, 100 ≤ i → V9 i = V i))) 0 [some (.ref (b + 73)), some (.ref (b + c)), some (.ref (b + 57)), none, none] [] N V 0 0
  refine aw_aload_n dX7_spreadDread_0 rfl ?_
  refine aw_get dX7_spreadDread_1 fl_X7_12 h73 (by omega) rfl ?_
  refine aw_aload_n dX7_spreadDread_4 rfl ?_
  refine aw_callVv (J' := jX0_copyFrom) (As := [.ref (b + c)]) (st := []) dX7_spreadDread_5 tb_730 ok_X0_copyFrom (CZ.obj hC7) (by omega) rfl rfl (c_copyFrom l D b 74 c N V (by omega) (by omega) (by omega) hC7 hC) rfl (Nat.le_of_ble_eq_true rfl) ⟨Nat.le_of_ble_eq_true rfl, Nat.le_of_ble_eq_true rfl, Nat.le_of_ble_eq_true rfl, Nat.le_of_ble_eq_true rfl⟩ (fun  N_4 V_3 q_5 => ?_)
  obtain ⟨rfl, hz_1, fr_2⟩ := q_5
  refine aw_aload_n dX7_spreadDread_8 rfl ?_
  refine aw_iconst (v := 0) dX7_spreadDread_9 (by decide) ?_
  refine aw_iconst (v := 0) dX7_spreadDread_10 (by decide) ?_
  refine aw_callVv (J' := jX4_meanDoor) (As := [.int 0, .int 0]) (st := []) dX7_spreadDread_11 tb_659 ok_X4_meanDoor ⟨_, ((fr_2 _ (by omega)).trans hlw)⟩ (by omega) rfl rfl (c_meanDoor l D b N V_3 (by omega) _ _ _ _ ((fr_2 _ (by omega)).trans hlw) ((fr_2 _ (by omega)).trans hmw) 0 0) rfl (Nat.le_of_ble_eq_true rfl) ⟨Nat.le_of_ble_eq_true rfl, Nat.le_of_ble_eq_true rfl, Nat.le_of_ble_eq_true rfl, Nat.le_of_ble_eq_true rfl⟩ (fun  N_10 V_9 q_11 => ?_)
  obtain ⟨rfl, ⟨g_6, hm_7⟩, fr_8⟩ := q_11
  refine aw_aload_n dX7_spreadDread_14 rfl ?_
  refine aw_aload_n dX7_spreadDread_15 rfl ?_
  refine aw_get dX7_spreadDread_16 fl_X7_25 ((fr_8 _ (by omega)).trans ((fr_2 _ (by omega)).trans h0a)) (by omega) rfl ?_
  refine aw_bipush (v := 100) dX7_spreadDread_19 (by decide) ?_
  refine aw_irem dX7_spreadDread_21 (by decide) ?_
  refine aw_iconst (v := 0) dX7_spreadDread_22 (by decide) ?_
  refine aw_callVv (J' := jX4_meanTime) (As := [.int (nia - nia / 100 * 100), .int 0]) (st := []) dX7_spreadDread_23 tb_668 ok_X4_meanTime ⟨_, ((fr_8 _ (by omega)).trans ((fr_2 _ (by omega)).trans hlw))⟩ (by omega) rfl rfl (c_meanTime l D b N V_9 (by omega) _ _ _ _ ((fr_8 _ (by omega)).trans ((fr_2 _ (by omega)).trans hlw)) hm_7 (nia - nia / 100 * 100) 0) rfl (Nat.le_of_ble_eq_true rfl) ⟨Nat.le_of_ble_eq_true rfl, Nat.le_of_ble_eq_true rfl, Nat.le_of_ble_eq_true rfl, Nat.le_of_ble_eq_true rfl⟩ (fun  N_16 V_15 q_17 => ?_)
  obtain ⟨rfl, ⟨g_12, hm_13⟩, fr_14⟩ := q_17
  refine aw_iconst (v := 0) dX7_spreadDread_26 (by decide) ?_
  refine aw_istore_n (ls' := [some (.ref (b + 73)), some (.ref (b + c)), some (.ref (b + 57)), some (.int 0), none]) dX7_spreadDread_27 (Nat.le_of_ble_eq_true rfl) rfl ?_
  have loop_28_17 : ∀ (g_28 : Nat), ∀ (j28 : Nat), j28 + g_28 = 12 → AW l D b jX7_spreadDread (fx_rm 3 0 0) none (fx_MQ D b 0 0 (fx_qv (fun N9 V9 => N = N9 ∧ (CZ D b c V9) ∧ (CZ D b 74 V9) ∧ (V9 73 = cO 6 [.ref (b + 74), .int 0, .int 0]) ∧ (∃ s8 r8 h8 : Int32, V9 57 = cO 4 [.ref (b + 58), .ref (b + 59), .int s8, .ref (b + 60), .ref (b + 61), .ref (b + 62), .int r8, .ref (b + 63), .ref (b + 64), .int h8]) ∧ (∃ g : Nat → Int32, V9 63 = cI D 10 g) ∧ (V9 0 = V 0) ∧ ∀ i, 100 ≤ i → V9 i = V i))) 28 [some (.ref (b + 73)), some (.ref (b + c)), some (.ref (b + 57)), some (.int (nI j28)), none] [] N V_15 0 0 := by
    intro g_28
    induction g_28 with
    | zero =>
      intro j28  hj28
      obtain rfl : j28 = 12 := by omega
      refine aw_iload_n dX7_spreadDread_28 rfl ?_
      refine aw_bipush (v := 12) dX7_spreadDread_29 (by decide) ?_
      refine aw_icmp_ge (tgt := 89) dX7_spreadDread_31 (by decide) (fun c_20 => ?_) (fun c_20 => ?_)
      rotate_left
      · exact absurd (nI_le (a := 12) (b := 12) (Nat.le_refl _) (by omega)) c_20
      refine aw_vreti dX7_spreadDread_89 rfl (Nat.le_of_ble_eq_true rfl) (Nat.le_of_ble_eq_true rfl) ?_
      exact ⟨rfl, (CZ.frame (CZ.frame (CZ.frame hC (fun i q1 q2 => fr_2 i (by omega))) (fun i q1 q2 => fr_8 i (by omega))) (fun i q1 q2 => fr_14 i (by omega))), (CZ.frame (CZ.frame hz_1 (fun i q1 q2 => fr_8 i (by omega))) (fun i q1 q2 => fr_14 i (by omega))), ((fr_14 _ (by omega)).trans ((fr_8 _ (by omega)).trans ((fr_2 _ (by omega)).trans h73))), ⟨_, _, _, ((fr_14 _ (by omega)).trans ((fr_8 _ (by omega)).trans ((fr_2 _ (by omega)).trans hlw)))⟩, ⟨_, hm_13⟩, ((fr_14 _ (by omega)).trans ((fr_8 _ (by omega)).trans ((fr_2 _ (by omega)).trans rfl))), (fun i hi => (fr_14 i (by omega)).trans ((fun i hi => (fr_8 i (by omega)).trans ((fun i hi => (fr_2 i (by omega)).trans ((fr_refl V) i hi)) i hi)) i hi))⟩
    | succ g_28 ih_28_18 =>
      intro j28  hj28
      have hlj28 : j28 < 12 := by omega
      refine aw_iload_n dX7_spreadDread_28 rfl ?_
      refine aw_bipush (v := 12) dX7_spreadDread_29 (by decide) ?_
      refine aw_icmp_ge (tgt := 89) dX7_spreadDread_31 (by decide) (fun c_21 => ?_) (fun c_21 => ?_)
      · exact absurd c_21 (nI_ge (a := j28) (b := 12) (by omega) (by omega))
      refine aw_iload_n dX7_spreadDread_34 rfl ?_
      refine aw_iconst (v := 1) dX7_spreadDread_35 (by decide) ?_
      refine aw_iadd dX7_spreadDread_36 ?_
      refine aw_eqi (y := nI (j28 + 1)) (nI_add _ _) ?_
      refine aw_istore (ls' := [some (.ref (b + 73)), some (.ref (b + c)), some (.ref (b + 57)), some (.int (nI j28)), some (.int (nI (j28 + 1)))]) dX7_spreadDread_37 (Nat.le_of_ble_eq_true rfl) rfl ?_
      have loop_39_21 : ∀ (g_39 : Nat), ∀ (j39 : Nat), j39 + g_39 = 12 → AW l D b jX7_spreadDread (fx_rm 3 0 0) none (fx_MQ D b 0 0 (fx_qv (fun N9 V9 => N = N9 ∧ (CZ D b c V9) ∧ (CZ D b 74 V9) ∧ (V9 73 = cO 6 [.ref (b + 74), .int 0, .int 0]) ∧ (∃ s8 r8 h8 : Int32, V9 57 = cO 4 [.ref (b + 58), .ref (b + 59), .int s8, .ref (b + 60), .ref (b + 61), .ref (b + 62), .int r8, .ref (b + 63), .ref (b + 64), .int h8]) ∧ (∃ g : Nat → Int32, V9 63 = cI D 10 g) ∧ (V9 0 = V 0) ∧ ∀ i, 100 ≤ i → V9 i = V i))) 39 [some (.ref (b + 73)), some (.ref (b + c)), some (.ref (b + 57)), some (.int (nI j28)), some (.int (nI j39))] [] N V_15 0 0 := by
        intro g_39
        induction g_39 with
        | zero =>
          intro j39  hj39
          obtain rfl : j39 = 12 := by omega
          refine aw_iload dX7_spreadDread_39 rfl ?_
          refine aw_bipush (v := 12) dX7_spreadDread_41 (by decide) ?_
          refine aw_icmp_ge (tgt := 83) dX7_spreadDread_43 (by decide) (fun c_24 => ?_) (fun c_24 => ?_)
          rotate_left
          · exact absurd (nI_le (a := 12) (b := 12) (Nat.le_refl _) (by omega)) c_24
          refine aw_iinc (v := (nI (j28 + 1))) (ls' := [some (.ref (b + 73)), some (.ref (b + c)), some (.ref (b + 57)), some (.int (nI (j28 + 1))), some (.int (nI 12))]) dX7_spreadDread_83 rfl (fx_up_1 _) (Nat.le_of_ble_eq_true rfl) rfl ?_
          refine aw_goto (tgt := 28) dX7_spreadDread_86 (by decide) ?_
          refine aw_le ?_ (ih_28_18 (j28 + 1)   (by omega))
          exact ⟨rfl, ⟨rfl, ⟨rfl, ⟨rfl, trivial⟩⟩⟩⟩
        | succ g_39 ih_39_22 =>
          intro j39  hj39
          have hlj39 : j39 < 12 := by omega
          refine aw_iload dX7_spreadDread_39 rfl ?_
          refine aw_bipush (v := 12) dX7_spreadDread_41 (by decide) ?_
          refine aw_icmp_ge (tgt := 83) dX7_spreadDread_43 (by decide) (fun c_25 => ?_) (fun c_25 => ?_)
          · exact absurd c_25 (nI_ge (a := j39) (b := 12) (by omega) (by omega))
          refine aw_aload_n dX7_spreadDread_46 rfl ?_
          refine aw_iload_n dX7_spreadDread_47 rfl ?_
          refine aw_callVi (J' := jX0_knownTo) (As := [.int (nI j28)]) (st := []) dX7_spreadDread_48 tb_641 ok_X0_knownTo ⟨_, ((fr_14 _ (by omega)).trans ((fr_8 _ (by omega)).trans ((fr_2 _ (by omega)).trans h0a)))⟩ (by omega) rfl rfl (c_knownTo l D b c N V_15 (by omega) (CZ.frame (CZ.frame (CZ.frame hC (fun i q1 q2 => fr_2 i (by omega))) (fun i q1 q2 => fr_8 i (by omega))) (fun i q1 q2 => fr_14 i (by omega))) (nI j28)) rfl (Nat.le_of_ble_eq_true rfl) ⟨Nat.le_of_ble_eq_true rfl, Nat.le_of_ble_eq_true rfl, Nat.le_of_ble_eq_true rfl, Nat.le_of_ble_eq_true rfl⟩ (fun r_26 N_27 V_28 q_29 => ?_)
          obtain ⟨rfl, rfl, rfl⟩ := q_29
          refine aw_iload dX7_spreadDread_51 rfl ?_
          refine aw_callSNi (J' := jX11_has) (As := [.int 0, .int (nI j39)]) (st := []) dX7_spreadDread_53 tb_731 ok_X11_has rfl (c_has0 l D b N V_15 (nI j39)) rfl (Nat.le_of_ble_eq_true rfl) ⟨Nat.le_of_ble_eq_true rfl, Nat.le_of_ble_eq_true rfl, Nat.le_of_ble_eq_true rfl, Nat.le_of_ble_eq_true rfl⟩ (fun r_30 N_31 V_32 q_33 => ?_)
          obtain ⟨rfl, rfl, rfl⟩ := q_33
          refine aw_if_eq (tgt := 77) dX7_spreadDread_56 (by decide) (fun c_34 => ?_) (fun c_34 => ?_)
          rotate_left
          · exact absurd (by decide) c_34
          refine aw_iinc (v := (nI (j39 + 1))) (ls' := [some (.ref (b + 73)), some (.ref (b + c)), some (.ref (b + 57)), some (.int (nI j28)), some (.int (nI (j39 + 1)))]) dX7_spreadDread_77 rfl (fx_up_1 _) (Nat.le_of_ble_eq_true rfl) rfl ?_
          refine aw_goto (tgt := 39) dX7_spreadDread_80 (by decide) ?_
          refine aw_le ?_ (ih_39_22 (j39 + 1)   (by omega))
          exact ⟨rfl, ⟨rfl, ⟨rfl, ⟨rfl, ⟨rfl, trivial⟩⟩⟩⟩⟩
      refine aw_le ?_ (loop_39_21 (12 - (j28 + 1)) (j28 + 1)   (by omega))
      exact ⟨rfl, ⟨rfl, ⟨rfl, ⟨rfl, ⟨rfl, trivial⟩⟩⟩⟩⟩
  refine aw_le ?_ (loop_28_17 12 0   (by omega))
  exact ⟨rfl, ⟨rfl, ⟨rfl, ⟨rfl, trivial⟩⟩⟩⟩

set_option maxHeartbeats 4000000 in
set_option maxRecDepth 100000 in
theorem c_pass (l : Launch) (D : va_G) (b : Nat) (c N : Nat) (V : Wd) (hN : 100 ≤ N) (hc : c + 18 ≤ 57 ∧ 0 < c) (hC : CZ D b c V) (hC7 : CZ D b 74 V) (o9 f9 : Int32) (h73 : V 73 = cO 6 [.ref (b + 74), .int o9, .int f9]) (hlw0 : ∃ s8 r8 h8 : Int32, V 57 = cO 4 [.ref (b + 58), .ref (b + 59), .int s8, .ref (b + 60), .ref (b + 61), .ref (b + 62), .int r8, .ref (b + 63), .ref (b + 64), .int h8]) (hmw0 : ∃ g : Nat → Int32, V 63 = cI D 10 g) (m : Nat) (hm : m ≤ 100) : MV l D b 4 jX7_pass [.ref (b + 73), .ref (b + c), .ref (b + 57), .int (nI m)] N V 0 0 (fun N9 V9 => N = N9 ∧ CZ D b c V9 ∧ V9 73 = cO 6 [.ref (b + 74), .int 0, .int 0] ∧ V9 0 = V 0 ∧ ∀ i, 100 ≤ i → V9 i = V i) := by
  obtain ⟨dr, kn, df, sg, op, ni, xx, hCA, z1, z2⟩ := id hC
  obtain ⟨h0, h1, h2, h3, h4, h5, h6⟩ := id hCA
  obtain ⟨s8, r8, h8, hlw⟩ := id hlw0
  obtain ⟨gw, hmw⟩ := id hmw0
  refine mw_of (by decide) (by simp [Value.category]) (Nat.le_of_ble_eq_true rfl) ?_
  show AW l D b jX7_pass (fx_rm 4 0 0) none (fx_MQ D b 0 0 (fx_qv (fun N9 V9 => N = N9 ∧ CZ D b c V9 ∧ V9 73 = cO 6 [.ref (b + 74), .int 0, .int 0] ∧ V9 0 = V 0 ∧ ∀ i, 100 ≤ i → V9 i = V i))) 0 [some (.ref (b + 73)), some (.ref (b + c)), some (.ref (b + 57)), some (.int (nI m)), none, none] [] N V 0 0
  refine aw_aload_n dX7_pass_0 rfl ?_
  refine aw_iconst (v := 0) dX7_pass_1 (by decide) ?_
  refine aw_put dX7_pass_2 fp_X7_18 h73 (by omega) rfl rfl (Nat.le_of_ble_eq_true rfl) rfl ?_
  refine aw_aload_n dX7_pass_5 rfl ?_
  refine aw_iconst (v := 0) dX7_pass_6 (by decide) ?_
  refine aw_put dX7_pass_7 fp_X7_22 (va_up_self _ _ _) (by omega) rfl rfl (Nat.le_of_ble_eq_true rfl) rfl ?_
  refine aw_iconst (v := 0) dX7_pass_10 (by decide) ?_
  refine aw_istore (ls' := [some (.ref (b + 73)), some (.ref (b + c)), some (.ref (b + 57)), some (.int (nI m)), some (.int 0), none]) dX7_pass_11 (Nat.le_of_ble_eq_true rfl) rfl ?_
  have loop_13_0 : ∀ (g_13 : Nat), ∀ (j13 : Nat)  (V13 : Wd), j13 + g_13 = m → (CZ D b c V13) → (CZ D b 74 V13) → (V13 73 = cO 6 [.ref (b + 74), .int 0, .int 0]) → (∃ s8 r8 h8 : Int32, V13 57 = cO 4 [.ref (b + 58), .ref (b + 59), .int s8, .ref (b + 60), .ref (b + 61), .ref (b + 62), .int r8, .ref (b + 63), .ref (b + 64), .int h8]) → (∃ g : Nat → Int32, V13 63 = cI D 10 g) → (V13 0 = V 0) → (∀ i, 100 ≤ i → V13 i = V i) → AW l D b jX7_pass (fx_rm 4 0 0) none (fx_MQ D b 0 0 (fx_qv (fun N9 V9 => N = N9 ∧ CZ D b c V9 ∧ V9 73 = cO 6 [.ref (b + 74), .int 0, .int 0] ∧ V9 0 = V 0 ∧ ∀ i, 100 ≤ i → V9 i = V i))) 13 [some (.ref (b + 73)), some (.ref (b + c)), some (.ref (b + 57)), some (.int (nI m)), some (.int (nI j13)), none] [] N V13 0 0 := by
    intro g_13
    induction g_13 with
    | zero =>
      intro j13  V13 hj13 i13_0 i13_1 i13_2 i13_3 i13_4 i13_5 i13_6
      obtain rfl : m = j13 := by omega
      obtain ⟨dra, kna, dfa, sga, opa, nia, xxa, hCAa, z1a, z2a⟩ := id i13_0
      obtain ⟨h0a, h1a, h2a, h3a, h4a, h5a, h6a⟩ := id hCAa
      refine aw_iload dX7_pass_13 rfl ?_
      refine aw_iload_n dX7_pass_15 rfl ?_
      refine aw_icmp_ge (tgt := 84) dX7_pass_16 (by decide) (fun c_3 => ?_) (fun c_3 => ?_)
      rotate_left
      · exact absurd (nI_le (a := m) (b := m) (Nat.le_refl _) (by omega)) c_3
      refine aw_vreti dX7_pass_84 rfl (Nat.le_of_ble_eq_true rfl) (Nat.le_of_ble_eq_true rfl) ?_
      exact ⟨rfl, i13_0, i13_2, i13_5, i13_6⟩
    | succ g_13 ih_13_1 =>
      intro j13  V13 hj13 i13_0 i13_1 i13_2 i13_3 i13_4 i13_5 i13_6
      have hlj13 : j13 < m := by omega
      obtain ⟨dra, kna, dfa, sga, opa, nia, xxa, hCAa, z1a, z2a⟩ := id i13_0
      obtain ⟨h0a, h1a, h2a, h3a, h4a, h5a, h6a⟩ := id hCAa
      refine aw_iload dX7_pass_13 rfl ?_
      refine aw_iload_n dX7_pass_15 rfl ?_
      refine aw_icmp_ge (tgt := 84) dX7_pass_16 (by decide) (fun c_4 => ?_) (fun c_4 => ?_)
      · exact absurd c_4 (nI_ge (a := j13) (b := m) (by omega) (by omega))
      refine aw_aload_n dX7_pass_19 rfl ?_
      refine aw_get dX7_pass_20 fl_X7_25 h0a (by omega) rfl ?_
      refine aw_sipush (v := 9999) dX7_pass_23 (by decide) ?_
      refine aw_icmp_ge (tgt := 84) dX7_pass_26 (by decide) (fun c_5 => ?_) (fun c_5 => ?_)
      · skip
        refine aw_vreti dX7_pass_84 rfl (Nat.le_of_ble_eq_true rfl) (Nat.le_of_ble_eq_true rfl) ?_
        exact ⟨rfl, i13_0, i13_2, i13_5, i13_6⟩
      · skip
        refine aw_iconst (v := 0) dX7_pass_29 (by decide) ?_
        refine aw_istore (ls' := [some (.ref (b + 73)), some (.ref (b + c)), some (.ref (b + 57)), some (.int (nI m)), some (.int (nI j13)), some (.int 0)]) dX7_pass_30 (Nat.le_of_ble_eq_true rfl) rfl ?_
        have loop_32_5 : ∀ (g_32 : Nat), ∀ (j32 : Nat), j32 + g_32 = 12 → AW l D b jX7_pass (fx_rm 4 0 0) none (fx_MQ D b 0 0 (fx_qv (fun N9 V9 => N = N9 ∧ CZ D b c V9 ∧ V9 73 = cO 6 [.ref (b + 74), .int 0, .int 0] ∧ V9 0 = V 0 ∧ ∀ i, 100 ≤ i → V9 i = V i))) 32 [some (.ref (b + 73)), some (.ref (b + c)), some (.ref (b + 57)), some (.int (nI m)), some (.int (nI j13)), some (.int (nI j32))] [] N V13 0 0 := by
          intro g_32
          induction g_32 with
          | zero =>
            intro j32  hj32
            obtain rfl : j32 = 12 := by omega
            refine aw_iload dX7_pass_32 rfl ?_
            refine aw_bipush (v := 12) dX7_pass_34 (by decide) ?_
            refine aw_icmp_ge (tgt := 62) dX7_pass_36 (by decide) (fun c_8 => ?_) (fun c_8 => ?_)
            rotate_left
            · exact absurd (nI_le (a := 12) (b := 12) (Nat.le_refl _) (by omega)) c_8
            refine aw_aload_n dX7_pass_62 rfl ?_
            refine aw_aload_n dX7_pass_63 rfl ?_
            refine aw_aload_n dX7_pass_64 rfl ?_
            refine aw_callVv (J' := jX7_spreadDread) (As := [.ref (b + c), .ref (b + 57)]) (st := []) dX7_pass_65 tb_726 ok_X7_spreadDread ⟨_, i13_2⟩ (by omega) rfl rfl (c_spreadDread l D b c N V13 hN hc i13_0 i13_1 i13_2 i13_3 i13_4) rfl (Nat.le_of_ble_eq_true rfl) ⟨Nat.le_of_ble_eq_true rfl, Nat.le_of_ble_eq_true rfl, Nat.le_of_ble_eq_true rfl, Nat.le_of_ble_eq_true rfl⟩ (fun  N_18 V_17 q_19 => ?_)
            obtain ⟨rfl, p_9, p_10, p_11, p_12, p_13, p_14, p_15⟩ := q_19
            obtain ⟨drt_16, knt_16, dft_16, sgt_16, opt_16, nit_16, xxt_16, hCAt_16, z1t_16, z2t_16⟩ := id p_9
            obtain ⟨h0t_16, h1t_16, h2t_16, h3t_16, h4t_16, h5t_16, h6t_16⟩ := id hCAt_16
            refine aw_aload_n dX7_pass_68 rfl ?_
            refine aw_dup dX7_pass_69 rfl ?_
            refine aw_get dX7_pass_70 fl_X7_25 h0t_16 (by omega) rfl ?_
            refine aw_iconst (v := 1) dX7_pass_73 (by decide) ?_
            refine aw_iadd dX7_pass_74 ?_
            refine aw_put dX7_pass_75 fp_X7_25 h0t_16 (by omega) rfl rfl (Nat.le_of_ble_eq_true rfl) rfl ?_
            refine aw_iinc (v := (nI (j13 + 1))) (ls' := [some (.ref (b + 73)), some (.ref (b + c)), some (.ref (b + 57)), some (.int (nI m)), some (.int (nI (j13 + 1))), some (.int (nI 12))]) dX7_pass_78 rfl (fx_up_1 _) (Nat.le_of_ble_eq_true rfl) rfl ?_
            refine aw_goto (tgt := 13) dX7_pass_81 (by decide) ?_
            refine aw_le ?_ (ih_13_1 (j13 + 1)  (va_up V_17 c (cO 0 [.ref (b + (c + 1)), .ref (b + (c + 14)), .ref (b + (c + 15)), .ref (b + (c + 16)), .ref (b + (c + 17)), .int 0, .int 0, .int (nit_16 + 1), .int xxt_16])) (by omega) (⟨_, _, _, _, _, _, _, hCAt_16.s0 _ _ _ _, z1t_16, z2t_16⟩) ((CZ.up p_10 (by omega))) (((va_up_ne _ _ (by omega)).trans p_11)) ((by obtain ⟨s8, r8, h8, e8⟩ := p_12; exact ⟨s8, r8, h8, (va_up_ne _ _ (by omega)).trans e8⟩)) ((by obtain ⟨g8, e8⟩ := p_13; exact ⟨g8, (va_up_ne _ _ (by omega)).trans e8⟩)) ((va_up_ne _ _ (by omega)).trans (p_14.trans i13_5)) ((fun i hi => (va_up_ne _ _ (by omega)).trans ((fun i hi => (p_15 i (by omega)).trans (i13_6 i hi)) i hi))))
            exact ⟨rfl, ⟨rfl, ⟨rfl, ⟨rfl, ⟨rfl, trivial⟩⟩⟩⟩⟩
          | succ g_32 ih_32_6 =>
            intro j32  hj32
            have hlj32 : j32 < 12 := by omega
            refine aw_iload dX7_pass_32 rfl ?_
            refine aw_bipush (v := 12) dX7_pass_34 (by decide) ?_
            refine aw_icmp_ge (tgt := 62) dX7_pass_36 (by decide) (fun c_20 => ?_) (fun c_20 => ?_)
            · exact absurd c_20 (nI_ge (a := j32) (b := 12) (by omega) (by omega))
            refine aw_aload_n dX7_pass_39 rfl ?_
            refine aw_iload dX7_pass_40 rfl ?_
            refine aw_callVi (J' := jX0_isPerson) (As := [.int (nI j32)]) (st := []) dX7_pass_42 tb_630 ok_X0_isPerson ⟨_, h0a⟩ (by omega) rfl rfl (c_isPerson l D b c N V13 (by omega) i13_0 (nI j32)) rfl (Nat.le_of_ble_eq_true rfl) ⟨Nat.le_of_ble_eq_true rfl, Nat.le_of_ble_eq_true rfl, Nat.le_of_ble_eq_true rfl, Nat.le_of_ble_eq_true rfl⟩ (fun r_21 N_22 V_23 q_24 => ?_)
            obtain ⟨rfl, rfl, rfl⟩ := q_24
            refine aw_if_eq (tgt := 56) dX7_pass_45 (by decide) (fun c_25 => ?_) (fun c_25 => ?_)
            rotate_left
            · exact absurd (by decide) c_25
            refine aw_iinc (v := (nI (j32 + 1))) (ls' := [some (.ref (b + 73)), some (.ref (b + c)), some (.ref (b + 57)), some (.int (nI m)), some (.int (nI j13)), some (.int (nI (j32 + 1)))]) dX7_pass_56 rfl (fx_up_1 _) (Nat.le_of_ble_eq_true rfl) rfl ?_
            refine aw_goto (tgt := 32) dX7_pass_59 (by decide) ?_
            refine aw_le ?_ (ih_32_6 (j32 + 1)   (by omega))
            exact ⟨rfl, ⟨rfl, ⟨rfl, ⟨rfl, ⟨rfl, ⟨rfl, trivial⟩⟩⟩⟩⟩⟩
        refine aw_le ?_ (loop_32_5 12 0   (by omega))
        exact ⟨rfl, ⟨rfl, ⟨rfl, ⟨rfl, ⟨rfl, ⟨rfl, trivial⟩⟩⟩⟩⟩⟩
  refine aw_le ?_ (loop_13_0 m 0  (va_up (va_up V 73 (cO 6 [.ref (b + 74), .int 0, .int f9])) 73 (cO 6 [.ref (b + 74), .int 0, .int 0])) (by omega) ((CZ.up (CZ.up hC (by omega)) (by omega))) ((CZ.up (CZ.up hC7 (by omega)) (by omega))) ((va_up_self _ _ _)) (⟨_, _, _, ((va_up_ne _ _ (by omega)).trans ((va_up_ne _ _ (by omega)).trans hlw))⟩) (⟨_, ((va_up_ne _ _ (by omega)).trans ((va_up_ne _ _ (by omega)).trans hmw))⟩) (((va_up_ne _ _ (by omega)).trans ((va_up_ne _ _ (by omega)).trans rfl))) ((fun i hi => (va_up_ne _ _ (by omega)).trans ((fun i hi => (va_up_ne _ _ (by omega)).trans ((fr_refl V) i hi)) i hi))))
  exact ⟨rfl, ⟨rfl, ⟨rfl, ⟨rfl, ⟨rfl, trivial⟩⟩⟩⟩⟩
