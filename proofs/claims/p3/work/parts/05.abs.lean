/-! A layer over the kit's rows: the world is a partial map from addresses to cells (Wd), handed whole to every call; locals are a list; MW is a method's contract, AW a place in its walk. -/
abbrev Md : Type := MethodName × ByteArray × Nat × Option FieldType
abbrev Wd : Type := Nat → va_E
abbrev Sc : Type := Option (Nat × Nat × (Nat → Int32))
abbrev cI (D : va_G) (n : Nat) (g : Nat → Int32) : va_E := .inl (D.1 100, n, .inl g)
abbrev cJ (D : va_G) (n : Nat) (g : Nat → Int64) : va_E := .inl (D.1 101, n, .inr (.inl g))
abbrev cB (D : va_G) (n : Nat) (g : Nat → Int32) : va_E := .inl (D.1 102, n, .inl g)
abbrev cZ (D : va_G) (n : Nat) (g : Nat → Int32) : va_E := .inl (D.1 103, n, .inl g)
abbrev cR (D : va_G) (n : Nat) (g : Nat → Option Nat) : va_E := .inl (D.1 104, n, .inr (.inr (.inr (.inr g))))
abbrev cO (ci : Nat) (fs : List Value) : va_E := .inr (ci, fs)
def fx_ty (D : va_G) : List (ClassId × FieldType) := [(D.1 100, .int), (D.1 101, .long), (D.1 102, .byte), (D.1 103, .boolean), (D.1 104, .array .int)]
/-- the world: N cells from b on, and they are all that lies there -/
def VA (D : va_G) (b N : Nat) (V : Wd) (H : Heap) : Prop := H.size = b + N ∧ ∀ i, i < N → va_at D vwCl (b + i, V i) H
theorem va_one {D : va_G} {b N i : Nat} {V : Wd} {H : Heap} {e : va_E} (h : VA D b N V H) (hi : i < N) (he : V i = e) : va_P D vwCl [(b + i, e)] H := by
  intro j q hj
  match j, hj with
  | 0, hj => cases hj; rw [← he]; exact h.2 i hi
  | j + 1, hj => simp at hj
theorem VA.set {D : va_G} {b N i : Nat} {V : Wd} {H H1 : Heap} {e : va_E} (h : VA D b N V H) (he : va_at D vwCl (b + i, e) H1) (z : H1.size = H.size) (oq : ∀ q : Nat, q ≠ b + i → H1[q]? = H[q]?) : VA D b N (va_up V i e) H1 := by
  refine ⟨z.trans h.1, fun j hj => ?_⟩
  by_cases e1 : j = i
  · subst e1; rw [va_up_self]; exact he
  · rw [va_up_ne _ _ e1]
    exact (h.2 j hj).kept (oq (b + j) (by omega))
theorem VA.push {D : va_G} {b N : Nat} {V : Wd} {H H1 : Heap} {e : va_E} (h : VA D b N V H) (he : va_at D vwCl (b + N, e) H1) (z : H1.size = H.size + 1) (oq : ∀ q : Nat, q < H.size → H1[q]? = H[q]?) : VA D b (N + 1) (va_up V N e) H1 := by
  have h1 := h.1
  refine ⟨by omega, fun j hj => ?_⟩
  by_cases e1 : j = N
  · subst e1; rw [va_up_self]; exact he
  · rw [va_up_ne _ _ e1]
    exact (h.2 j (by omega)).kept (oq (b + j) (by show b + j < _; omega))
/-! locals -/
def fx_L (arr : Array Slot) (nL : Nat) (ls : List (Option Value)) : Prop := arr.size = nL ∧ lv_wf arr ∧ ∀ (i : Nat) (v : Value), ls[i]? = some (some v) → arr[i]? = some (.val v)
def fx_as (ls : List (Option Value)) : List (Nat × Value) := (List.range ls.length).filterMap (fun i => (ls[i]?.getD none).map (fun v => (i, v)))
theorem fx_as_mem {ls : List (Option Value)} {q : Nat × Value} : q ∈ fx_as ls ↔ ls[q.1]? = some (some q.2) := by
  unfold fx_as
  rw [List.mem_filterMap]
  constructor
  · rintro ⟨i, hi, h⟩
    cases hx : ls[i]? with
    | none => simp [hx] at h
    | some o =>
      cases o with
      | none => simp [hx] at h
      | some v =>
        simp [hx] at h
        subst h
        exact hx
  · intro h
    refine ⟨q.1, List.mem_range.mpr (List.getElem?_eq_some_iff.mp h).1, ?_⟩
    simp [h]
theorem fx_L.has {arr : Array Slot} {nL : Nat} {ls : List (Option Value)} (h : fx_L arr nL ls) : lv_has arr nL (fx_as ls) := ⟨h.1, h.2.1, fun q hq => h.2.2 q.1 q.2 (fx_as_mem.mp hq)⟩
def fx_kill (ls : List (Option Value)) (i : Nat) : List (Option Value) := match i with
  | 0 => ls
  | j + 1 => match ls[j]? with
    | some (some (.long _)) => ls.set j none
    | some (some (.double _)) => ls.set j none
    | _ => ls
def fx_s1 (ls : List (Option Value)) (i : Nat) (v : Value) : List (Option Value) := (fx_kill ls i).set i (some v)
def fx_s2 (ls : List (Option Value)) (i : Nat) (v : Value) : List (Option Value) := ((fx_kill ls i).set i (some v)).set (i + 1) none
theorem fx_kill_get {ls : List (Option Value)} {i j : Nat} {v : Value} (h : (fx_kill ls i)[j]? = some (some v)) : ls[j]? = some (some v) ∧ ¬ (j + 1 = i ∧ v.category = 2) := by
  unfold fx_kill at h
  cases i with
  | zero => exact ⟨h, fun q => by omega⟩
  | succ i =>
    have key : ∀ (ls' : List (Option Value)), ls' = ls.set i none → ls'[j]? = some (some v) → ls[j]? = some (some v) ∧ ¬ (j + 1 = i + 1 ∧ v.category = 2) := by
      intro ls' e h'
      subst e
      by_cases hj : j = i
      · subst hj
        rw [List.getElem?_set] at h'
        split at h'
        · split at h' <;> cases h'
        · exact absurd rfl ‹_›
      · rw [List.getElem?_set_ne (Ne.symm hj)] at h'
        exact ⟨h', fun q => hj (by omega)⟩
    dsimp only at h
    cases hx : ls[i]? with
    | none =>
      rw [hx] at h
      refine ⟨h, fun q => ?_⟩
      have : j = i := by omega
      subst this
      dsimp only at h
      rw [hx] at h; cases h
    | some o =>
      rw [hx] at h
      cases o with
      | none =>
        dsimp only at h
        refine ⟨h, fun q => ?_⟩
        have : j = i := by omega
        subst this
        rw [hx] at h; cases h
      | some w =>
        cases w with
        | long x => exact key _ rfl h
        | double x => exact key _ rfl h
        | _ =>
          dsimp only at h
          refine ⟨h, fun q => ?_⟩
          have : j = i := by omega
          subst this
          rw [hx] at h
          cases h
          exact absurd q.2 (by simp [Value.category])
theorem fx_s1_of {arr : Array Slot} {nL i : Nat} {ls : List (Option Value)} {v : Value} (h : lv_has arr nL ((i, v) :: (fx_as ls).filter (fun q => !(q.1 == i) && !(q.1 + 1 == i && q.2.category == 2)))) : fx_L arr nL (fx_s1 ls i v) := by
  refine ⟨h.1, h.2.1, fun j w hj => ?_⟩
  unfold fx_s1 at hj
  by_cases e : j = i
  · subst e
    rw [List.getElem?_set] at hj
    split at hj
    · split at hj
      · cases hj; exact h.2.2 (j, _) List.mem_cons_self
      · cases hj
    · exact absurd rfl ‹_›
  · rw [List.getElem?_set_ne (Ne.symm e)] at hj
    obtain ⟨h1, h2⟩ := fx_kill_get hj
    refine h.2.2 (j, w) (List.mem_cons_of_mem _ (List.mem_filter.mpr ⟨fx_as_mem.mpr h1, ?_⟩))
    simp only [Bool.and_eq_true, Bool.not_eq_true', beq_eq_false_iff_ne, ne_eq, Bool.and_eq_false_iff]
    refine ⟨e, ?_⟩
    by_cases e1 : j + 1 = i
    · exact Or.inr (fun e2 => h2 ⟨e1, e2⟩)
    · exact Or.inl e1
theorem fx_s2_of {arr : Array Slot} {nL i : Nat} {ls : List (Option Value)} {v : Value} (h : lv_has arr nL ((i, v) :: (fx_as ls).filter (fun q => !(q.1 == i) && (!(q.1 == i + 1) && !(q.1 + 1 == i && q.2.category == 2))))) : fx_L arr nL (fx_s2 ls i v) := by
  refine ⟨h.1, h.2.1, fun j w hj => ?_⟩
  unfold fx_s2 at hj
  by_cases e0 : j = i + 1
  · subst e0
    rw [List.getElem?_set] at hj
    split at hj
    · split at hj <;> cases hj
    · exact absurd rfl ‹_›
  rw [List.getElem?_set_ne (Ne.symm e0)] at hj
  by_cases e : j = i
  · subst e
    rw [List.getElem?_set] at hj
    split at hj
    · split at hj
      · cases hj; exact h.2.2 (j, _) List.mem_cons_self
      · cases hj
    · exact absurd rfl ‹_›
  · rw [List.getElem?_set_ne (Ne.symm e)] at hj
    obtain ⟨h1, h2⟩ := fx_kill_get hj
    refine h.2.2 (j, w) (List.mem_cons_of_mem _ (List.mem_filter.mpr ⟨fx_as_mem.mpr h1, ?_⟩))
    simp only [Bool.and_eq_true, Bool.not_eq_true', beq_eq_false_iff_ne, ne_eq, Bool.and_eq_false_iff]
    refine ⟨e, e0, ?_⟩
    by_cases e1 : j + 1 = i
    · exact Or.inr (fun e2 => h2 ⟨e1, e2⟩)
    · exact Or.inl e1
def fx_le : List (Option Value) → List (Option Value) → Prop
  | [], _ => True
  | none :: a, _ :: b => fx_le a b
  | some v :: a, some w :: b => v = w ∧ fx_le a b
  | _, _ => False
theorem fx_le_get : ∀ {a b : List (Option Value)}, fx_le a b → ∀ (i : Nat) (v : Value), a[i]? = some (some v) → b[i]? = some (some v)
  | [], _, _, i, v, h => by simp at h
  | none :: a, [], h, i, v, hv => by simp [fx_le] at h
  | none :: a, w :: b, h, 0, v, hv => by simp at hv
  | none :: a, w :: b, h, i + 1, v, hv => by
    simp only [fx_le] at h
    simp only [List.getElem?_cons_succ] at hv ⊢
    exact fx_le_get h i v hv
  | some u :: a, [], h, i, v, hv => by simp [fx_le] at h
  | some u :: a, none :: b, h, i, v, hv => by simp [fx_le] at h
  | some u :: a, some w :: b, h, 0, v, hv => by
    simp only [fx_le] at h
    simp only [List.getElem?_cons_zero] at hv ⊢
    rw [← h.1]; exact hv
  | some u :: a, some w :: b, h, i + 1, v, hv => by
    simp only [fx_le] at h
    simp only [List.getElem?_cons_succ] at hv ⊢
    exact fx_le_get h.2 i v hv
/-! contracts and places -/
def fx_ws (J : Md) : List Cond := Cond.code J.1 J.2.1 J.2.2.1 J.2.2.2 :: fx_TB
def fx_rm (d mc ms : Nat) : Room := { frames := d + 1, cells := mc, slots := ms, locals := 64 * (d + 1) }
def fx_P (D : va_G) (b : Nat) (av : List Value) (N : Nat) (V : Wd) : Array Value → State → Prop := va_Pc av (fun U => va_K D vwCl (fx_ty D) U ∧ VA D b N V U.heap ∧ fx_NS U ∧ fx_E b U)
def fx_Q (D : va_G) (b : Nat) (Q : Option Value → Nat → Wd → Prop) : Array Value → State → Outcome → State → Prop := fun _ st oc t => (∃ (r : Option Value) (N' : Nat) (V' : Wd), oc = .returned r ∧ Q r N' V' ∧ VA D b N' V' t.heap) ∧ va_F (fun q => b ≤ q) st t
def MW (l : Launch) (D : va_G) (b d : Nat) (J : Md) (av : List Value) (N : Nat) (V : Wd) (mc ms : Nat) (Q : Option Value → Nat → Wd → Prop) : Prop := Met l J.1 (fx_ws J) (fx_rm d mc ms) (fx_P D b av N V) (fx_Q D b Q) mc ms (fun q => b ≤ q)
def fx_C (D : va_G) (b : Nat) (J : Md) (X : Sc) (p : Program) (s : State) (m : MethodId) (args : Array Value) (meth : Method) (c : Code) : Prop :=
  p.tables.exec = Jvm.exec ∧ c.code = J.2.1 ∧ meth.sig.returnType = J.2.2.2 ∧ c.maxLocals = J.2.2.1 ∧ s.vm.findClass J.1.cls = some m.cls ∧ (∀ w ∈ fx_ws J, w.before args s = true) ∧ meth.locks = false ∧ meth.name = J.1.name ∧ va_K D vwCl (fx_ty D) s ∧ b ≤ s.heap.size ∧ (∀ b9 L xs, X = some (b9, L, xs) → va_X b9 L xs s s.heap ∧ b9 < s.heap.size ∧ ¬ b ≤ b9) ∧ fx_NS s ∧ fx_E b s
def AW (l : Launch) (D : va_G) (b : Nat) (J : Md) (R : Room) (X : Sc) (FQ : Array Value → List Frame → State → State → Prop) (pc : Nat) (ls : List (Option Value)) (st : List Value) (N : Nat) (V : Wd) (k n : Nat) : Prop :=
  ∀ (p : Program) (e : Env) (s : State) (m : MethodId) (args : Array Value) (below : List Frame) (meth : Method) (c : Code) (H : Heap) (locs : List Loc) (arr : Array Slot), fx_C D b J X p s m args meth c → fx_L arr J.2.2.1 ls → VA D b N V H → va_S (fun q => b ≤ q) s.heap H locs → Jvm.Pilot.@@N@@.W p l e R s m args below meth c H locs k n (FQ args below s) (F0 m pc arr st)
def fx_MQ (D : va_G) (b mc ms : Nat) (Q : Option Value → Nat → Wd → Prop) : Array Value → List Frame → State → State → Prop := fun args below s => MQ below (fx_Q D b Q) args s mc ms (fun q => b ≤ q)
theorem fx_hA {b : Nat} {s : State} (h : b ≤ s.heap.size) : ∀ q, s.heap.size ≤ q → b ≤ q := fun q hq => Nat.le_trans h hq
theorem fx_ents {av : List Value} (h1 : ∀ v ∈ av, v.category = 1) : ∀ (i : Nat) (v : Value), av[i]? = some v → ∀ k, (k + i, v) ∈ lv_args k av := by
  induction av with
  | nil => intro i v h; simp at h
  | cons a av ih =>
    intro i v h k
    have ha : ¬ a.category = 2 := by have := h1 a List.mem_cons_self; omega
    cases i with
    | zero => simp at h; subst h; simp [lv_args]
    | succ i =>
      simp only [List.getElem?_cons_succ] at h
      have := ih (fun v hv => h1 v (List.mem_cons_of_mem _ hv)) i v h (k + 1)
      simp only [lv_args, if_neg ha]
      refine List.mem_cons_of_mem _ ?_
      rw [show k + (i + 1) = k + 1 + i by omega]; exact this
theorem fx_sl1 {av : List Value} (h1 : ∀ v ∈ av, v.category = 1) : (lg_sl av).length = av.length := by
  induction av with
  | nil => rfl
  | cons a av ih =>
    have ha : ¬ a.category = 2 := by have := h1 a List.mem_cons_self; omega
    have := ih (fun v hv => h1 v (List.mem_cons_of_mem _ hv))
    unfold lg_sl at this ⊢
    rw [List.flatMap_cons, if_neg ha]
    simp [this]
def fx_ent (av : List Value) (n : Nat) : List (Option Value) := av.map some ++ List.replicate (n - av.length) none
theorem mw_of {l : Launch} {D : va_G} {b d : Nat} {J : Md} {av : List Value} {N : Nat} {V : Wd} {mc ms : Nat} {Q : Option Value → Nat → Wd → Prop} (hy : plainName J.1.cls = true) (h1 : ∀ v ∈ av, v.category = 1) (hn : av.length ≤ J.2.2.1)
    (h : AW l D b J (fx_rm d mc ms) none (fx_MQ D b mc ms Q) 0 (fx_ent av J.2.2.1) [] N V 0 0) : MW l D b d J av N V mc ms Q := by
  refine Met.ofW (cc := J.2.1) (maxL := J.2.2.1) (ret := J.2.2.2) hy rfl ?_
  intro p e s m args below meth c s₁ B hml hv
  obtain ⟨rfl, hK, hA, hNS, hEn⟩ := hv
  rw [lg_entry_eq]
  have hl := lv_entry av (n := J.2.2.1) (by rw [fx_sl1 h1]; exact hn)
  refine h p e s m av.toArray below meth c s.heap [] _ ⟨B.exec, B.bytes, B.returns, hml, findClass_of_methodNamed B.named, atoms_spec (ws := fx_ws J) B.pre, B.notSynchronized, (name_of_methodNamed B.named B.method).1, hK, by have := hA.1; omega, fun b L xs e => (by cases e), hNS, hEn⟩ ⟨hl.1, hl.2.1, fun i v hi => ?_⟩ hA va_S.rf
  have hav : av[i]? = some v := by
    unfold fx_ent at hi
    by_cases hlt : i < av.length
    · rw [List.getElem?_append_left (by simpa using hlt), List.getElem?_map] at hi
      cases hx : av[i]? with
      | none => rw [hx] at hi; cases hi
      | some w => rw [hx] at hi; cases hi; rfl
    · rw [List.getElem?_append_right (by simpa using hlt), List.getElem?_replicate] at hi
      split at hi <;> cases hi
  have := fx_ents h1 i v hav 0
  rw [Nat.zero_add] at this
  exact hl.2.2 (i, v) this
theorem mw_post {l : Launch} {D : va_G} {b d : Nat} {J : Md} {av : List Value} {N : Nat} {V : Wd} {mc ms : Nat} {Q Q' : Option Value → Nat → Wd → Prop} (h : MW l D b d J av N V mc ms Q) (hQ : ∀ r N' V', Q r N' V' → Q' r N' V') : MW l D b d J av N V mc ms Q' := by
  intro p e a1 a2 a3 s m args below b1 b2 b3 b4
  obtain ⟨t, o, c1, c2, c3, ⟨⟨r, N', V', e1, hq, hA⟩, hF⟩, c5⟩ := h p e a1 a2 a3 s m args below b1 b2 b3 b4
  exact ⟨t, o, c1, c2, c3, ⟨⟨r, N', V', e1, hQ r N' V' hq, hA⟩, hF⟩, c5⟩
section AWV
variable {l : Launch} {D : va_G} {b : Nat} {J : Md} {R : Room} {X : Sc} {FQ : Array Value → List Frame → State → State → Prop} {pc : Nat} {ls ls' : List (Option Value)} {st : List Value} {N : Nat} {V : Wd} {k n : Nat}
theorem aw_le (h1 : fx_le ls' ls) (h : AW l D b J R X FQ pc ls' st N V k n) : AW l D b J R X FQ pc ls st N V k n := fun p e s m args below meth c H locs arr hC hL hA hS => h p e s m args below meth c H locs arr hC ⟨hL.1, hL.2.1, fun i v hv => hL.2.2 i v (fx_le_get h1 i v hv)⟩ hA hS
theorem aw_iconst {i : Int} {v : Int32} (hd : decode J.2.1 pc = .ok (.iconst i, 1)) (hv : Int32.ofInt i = v) (h : AW l D b J R X FQ (pc + 1) ls (.int v :: st) N V k n) : AW l D b J R X FQ pc ls (st) N V k n := fun p e s m args below meth c H locs arr hC hL hA hS => lv_iconst hC.1 hC.2.1 hd hv (h p e s m args below meth c H locs arr hC hL hA hS)
theorem aw_bipush {i : Int} {v : Int32} (hd : decode J.2.1 pc = .ok (.bipush i, 2)) (hv : (Int8.ofInt i).toInt32 = v) (h : AW l D b J R X FQ (pc + 2) ls (.int v :: st) N V k n) : AW l D b J R X FQ pc ls (st) N V k n := fun p e s m args below meth c H locs arr hC hL hA hS => lv_bipush hC.1 hC.2.1 hd hv (h p e s m args below meth c H locs arr hC hL hA hS)
theorem aw_sipush {i : Int} {v : Int32} (hd : decode J.2.1 pc = .ok (.sipush i, 3)) (hv : (Int16.ofInt i).toInt32 = v) (h : AW l D b J R X FQ (pc + 3) ls (.int v :: st) N V k n) : AW l D b J R X FQ pc ls (st) N V k n := fun p e s m args below meth c H locs arr hC hL hA hS => lv_sipush hC.1 hC.2.1 hd hv (h p e s m args below meth c H locs arr hC hL hA hS)
theorem aw_lconst {i : Fin 2} {v : Int64} (hd : decode J.2.1 pc = .ok (.lconst i, 1)) (hv : Int64.ofNat (i : Nat) = v) (h : AW l D b J R X FQ (pc + 1) ls (.long v :: st) N V k n) : AW l D b J R X FQ pc ls (st) N V k n := fun p e s m args below meth c H locs arr hC hL hA hS => lv_lconst hC.1 hC.2.1 hd hv (h p e s m args below meth c H locs arr hC hL hA hS)
theorem aw_iload {i : Nat} {v : Int32} (hd : decode J.2.1 pc = .ok (.iload i, 2)) (hl : ls[i]? = some (some (.int v))) (h : AW l D b J R X FQ (pc + 2) ls (.int v :: st) N V k n) : AW l D b J R X FQ pc ls (st) N V k n := fun p e s m args below meth c H locs arr hC hL hA hS => lv_iload hC.1 hC.2.1 hd (hL.2.2 _ _ hl) (h p e s m args below meth c H locs arr hC hL hA hS)
theorem aw_iload_n {i : Fin 4} {v : Int32} (hd : decode J.2.1 pc = .ok (.iload_n i, 1)) (hl : ls[(i : Nat)]? = some (some (.int v))) (h : AW l D b J R X FQ (pc + 1) ls (.int v :: st) N V k n) : AW l D b J R X FQ pc ls (st) N V k n := fun p e s m args below meth c H locs arr hC hL hA hS => lv_iload_n hC.1 hC.2.1 hd rfl (hL.2.2 _ _ hl) (h p e s m args below meth c H locs arr hC hL hA hS)
theorem aw_aload {i : Nat} {v : Nat} (hd : decode J.2.1 pc = .ok (.aload i, 2)) (hl : ls[i]? = some (some (.ref v))) (h : AW l D b J R X FQ (pc + 2) ls (.ref v :: st) N V k n) : AW l D b J R X FQ pc ls (st) N V k n := fun p e s m args below meth c H locs arr hC hL hA hS => lv_aload hC.1 hC.2.1 hd (hL.2.2 _ _ hl) (h p e s m args below meth c H locs arr hC hL hA hS)
theorem aw_aload_n {i : Fin 4} {v : Nat} (hd : decode J.2.1 pc = .ok (.aload_n i, 1)) (hl : ls[(i : Nat)]? = some (some (.ref v))) (h : AW l D b J R X FQ (pc + 1) ls (.ref v :: st) N V k n) : AW l D b J R X FQ pc ls (st) N V k n := fun p e s m args below meth c H locs arr hC hL hA hS => lv_aload_n hC.1 hC.2.1 hd rfl (hL.2.2 _ _ hl) (h p e s m args below meth c H locs arr hC hL hA hS)
theorem aw_lload {i : Nat} {v : Int64} (hd : decode J.2.1 pc = .ok (.lload i, 2)) (hl : ls[i]? = some (some (.long v))) (h : AW l D b J R X FQ (pc + 2) ls (.long v :: st) N V k n) : AW l D b J R X FQ pc ls (st) N V k n := fun p e s m args below meth c H locs arr hC hL hA hS => lv_lload hC.1 hC.2.1 hd (hL.2.2 _ _ hl) (h p e s m args below meth c H locs arr hC hL hA hS)
theorem aw_lload_n {i : Fin 4} {v : Int64} (hd : decode J.2.1 pc = .ok (.lload_n i, 1)) (hl : ls[(i : Nat)]? = some (some (.long v))) (h : AW l D b J R X FQ (pc + 1) ls (.long v :: st) N V k n) : AW l D b J R X FQ pc ls (st) N V k n := fun p e s m args below meth c H locs arr hC hL hA hS => lv_lload_n hC.1 hC.2.1 hd rfl (hL.2.2 _ _ hl) (h p e s m args below meth c H locs arr hC hL hA hS)
theorem aw_istore {i : Nat} {v : Int32} (hd : decode J.2.1 pc = .ok (.istore i, 2)) (hn : i < J.2.2.1) (hl : fx_s1 ls i (.int v) = ls') (h : AW l D b J R X FQ (pc + 2) ls' st N V k n) : AW l D b J R X FQ pc ls (.int v :: st) N V k n := fun p e s m args below meth c H locs arr hC hL hA hS => lv_istore hC.1 hC.2.1 hd hL.has hn rfl (fun arr' h' => h p e s m args below meth c H locs arr' hC (hl ▸ fx_s1_of h') hA hS)
theorem aw_istore_n {i : Fin 4} {v : Int32} (hd : decode J.2.1 pc = .ok (.istore_n i, 1)) (hn : (i : Nat) < J.2.2.1) (hl : fx_s1 ls (i : Nat) (.int v) = ls') (h : AW l D b J R X FQ (pc + 1) ls' st N V k n) : AW l D b J R X FQ pc ls (.int v :: st) N V k n := fun p e s m args below meth c H locs arr hC hL hA hS => lv_istore_n hC.1 hC.2.1 hd rfl hL.has hn rfl (fun arr' h' => h p e s m args below meth c H locs arr' hC (hl ▸ fx_s1_of h') hA hS)
theorem aw_astore {i : Nat} {v : Nat} (hd : decode J.2.1 pc = .ok (.astore i, 2)) (hn : i < J.2.2.1) (hl : fx_s1 ls i (.ref v) = ls') (h : AW l D b J R X FQ (pc + 2) ls' st N V k n) : AW l D b J R X FQ pc ls (.ref v :: st) N V k n := fun p e s m args below meth c H locs arr hC hL hA hS => lv_astore hC.1 hC.2.1 hd hL.has hn rfl (fun arr' h' => h p e s m args below meth c H locs arr' hC (hl ▸ fx_s1_of h') hA hS)
theorem aw_astore_n {i : Fin 4} {v : Nat} (hd : decode J.2.1 pc = .ok (.astore_n i, 1)) (hn : (i : Nat) < J.2.2.1) (hl : fx_s1 ls (i : Nat) (.ref v) = ls') (h : AW l D b J R X FQ (pc + 1) ls' st N V k n) : AW l D b J R X FQ pc ls (.ref v :: st) N V k n := fun p e s m args below meth c H locs arr hC hL hA hS => lv_astore_n hC.1 hC.2.1 hd rfl hL.has hn rfl (fun arr' h' => h p e s m args below meth c H locs arr' hC (hl ▸ fx_s1_of h') hA hS)
theorem aw_lstore {i : Nat} {v : Int64} (hd : decode J.2.1 pc = .ok (.lstore i, 2)) (hn : i + 1 < J.2.2.1) (hl : fx_s2 ls i (.long v) = ls') (h : AW l D b J R X FQ (pc + 2) ls' st N V k n) : AW l D b J R X FQ pc ls (.long v :: st) N V k n := fun p e s m args below meth c H locs arr hC hL hA hS => lv_lstore hC.1 hC.2.1 hd hL.has hn rfl (fun arr' h' => h p e s m args below meth c H locs arr' hC (hl ▸ fx_s2_of h') hA hS)
theorem aw_lstore_n {i : Fin 4} {v : Int64} (hd : decode J.2.1 pc = .ok (.lstore_n i, 1)) (hn : (i : Nat) + 1 < J.2.2.1) (hl : fx_s2 ls (i : Nat) (.long v) = ls') (h : AW l D b J R X FQ (pc + 1) ls' st N V k n) : AW l D b J R X FQ pc ls (.long v :: st) N V k n := fun p e s m args below meth c H locs arr hC hL hA hS => lv_lstore_n hC.1 hC.2.1 hd rfl hL.has hn rfl (fun arr' h' => h p e s m args below meth c H locs arr' hC (hl ▸ fx_s2_of h') hA hS)
theorem aw_iinc {i : Nat} {c9 : Int} {x v : Int32} (hd : decode J.2.1 pc = .ok (.iinc i c9, 3)) (hx : ls[i]? = some (some (.int x))) (hv : x + Int32.ofInt c9 = v) (hn : i < J.2.2.1) (hl : fx_s1 ls i (.int v) = ls') (h : AW l D b J R X FQ (pc + 3) ls' st N V k n) : AW l D b J R X FQ pc ls st N V k n := by
  intro p e s m args below meth c H locs arr hC hL hA hS
  obtain ⟨j, hj⟩ := List.getElem?_of_mem (fx_as_mem.mpr (show ls[((i, Value.int x) : Nat × Value).1]? = _ from hx))
  exact lv_iinc hC.1 hC.2.1 hd hL.has hj hv hn rfl (fun arr' h' => h p e s m args below meth c H locs arr' hC (hl ▸ fx_s1_of h') hA hS)
theorem aw_iadd {x y : Int32} (hd : decode J.2.1 pc = .ok (.iadd, 1))  (h : AW l D b J R X FQ (pc + 1) ls (.int (x + y) :: st) N V k n) : AW l D b J R X FQ pc ls (.int y :: .int x :: st) N V k n := fun p e s m args below meth c H locs arr hC hL hA hS => lv_iadd hC.1 hC.2.1 hd  (h p e s m args below meth c H locs arr hC hL hA hS)
theorem aw_isub {x y : Int32} (hd : decode J.2.1 pc = .ok (.isub, 1))  (h : AW l D b J R X FQ (pc + 1) ls (.int (x - y) :: st) N V k n) : AW l D b J R X FQ pc ls (.int y :: .int x :: st) N V k n := fun p e s m args below meth c H locs arr hC hL hA hS => lv_isub hC.1 hC.2.1 hd  (h p e s m args below meth c H locs arr hC hL hA hS)
theorem aw_imul {x y : Int32} (hd : decode J.2.1 pc = .ok (.imul, 1))  (h : AW l D b J R X FQ (pc + 1) ls (.int (x * y) :: st) N V k n) : AW l D b J R X FQ pc ls (.int y :: .int x :: st) N V k n := fun p e s m args below meth c H locs arr hC hL hA hS => lv_imul hC.1 hC.2.1 hd  (h p e s m args below meth c H locs arr hC hL hA hS)
theorem aw_iand {x y : Int32} (hd : decode J.2.1 pc = .ok (.iand, 1))  (h : AW l D b J R X FQ (pc + 1) ls (.int (x &&& y) :: st) N V k n) : AW l D b J R X FQ pc ls (.int y :: .int x :: st) N V k n := fun p e s m args below meth c H locs arr hC hL hA hS => lv_iand hC.1 hC.2.1 hd  (h p e s m args below meth c H locs arr hC hL hA hS)
theorem aw_ior {x y : Int32} (hd : decode J.2.1 pc = .ok (.ior, 1))  (h : AW l D b J R X FQ (pc + 1) ls (.int (x ||| y) :: st) N V k n) : AW l D b J R X FQ pc ls (.int y :: .int x :: st) N V k n := fun p e s m args below meth c H locs arr hC hL hA hS => lv_ior hC.1 hC.2.1 hd  (h p e s m args below meth c H locs arr hC hL hA hS)
theorem aw_ixor {x y : Int32} (hd : decode J.2.1 pc = .ok (.ixor, 1))  (h : AW l D b J R X FQ (pc + 1) ls (.int (x ^^^ y) :: st) N V k n) : AW l D b J R X FQ pc ls (.int y :: .int x :: st) N V k n := fun p e s m args below meth c H locs arr hC hL hA hS => lv_ixor hC.1 hC.2.1 hd  (h p e s m args below meth c H locs arr hC hL hA hS)
theorem aw_ishl {x y : Int32} (hd : decode J.2.1 pc = .ok (.ishl, 1))  (h : AW l D b J R X FQ (pc + 1) ls (.int (x <<< (y &&& 31)) :: st) N V k n) : AW l D b J R X FQ pc ls (.int y :: .int x :: st) N V k n := fun p e s m args below meth c H locs arr hC hL hA hS => lv_ishl hC.1 hC.2.1 hd  (h p e s m args below meth c H locs arr hC hL hA hS)
theorem aw_ishr {x y : Int32} (hd : decode J.2.1 pc = .ok (.ishr, 1))  (h : AW l D b J R X FQ (pc + 1) ls (.int (x >>> (y &&& 31)) :: st) N V k n) : AW l D b J R X FQ pc ls (.int y :: .int x :: st) N V k n := fun p e s m args below meth c H locs arr hC hL hA hS => lv_ishr hC.1 hC.2.1 hd  (h p e s m args below meth c H locs arr hC hL hA hS)
theorem aw_idiv {x y : Int32} (hd : decode J.2.1 pc = .ok (.idiv, 1)) (hne : ¬ y = 0) (h : AW l D b J R X FQ (pc + 1) ls (.int (x / y) :: st) N V k n) : AW l D b J R X FQ pc ls (.int y :: .int x :: st) N V k n := fun p e s m args below meth c H locs arr hC hL hA hS => lv_idiv hC.1 hC.2.1 hd hne (h p e s m args below meth c H locs arr hC hL hA hS)
theorem aw_irem {x y : Int32} (hd : decode J.2.1 pc = .ok (.irem, 1)) (hne : ¬ y = 0) (h : AW l D b J R X FQ (pc + 1) ls (.int (x - x / y * y) :: st) N V k n) : AW l D b J R X FQ pc ls (.int y :: .int x :: st) N V k n := fun p e s m args below meth c H locs arr hC hL hA hS => lv_irem hC.1 hC.2.1 hd hne (h p e s m args below meth c H locs arr hC hL hA hS)
theorem aw_iushr {x y v : Int32} (hd : decode J.2.1 pc = .ok (.iushr, 1)) (hv : (x.toUInt32 >>> (y.toUInt32 &&& Int32.toUInt32 31)).toInt32 = v) (h : AW l D b J R X FQ (pc + 1) ls (.int v :: st) N V k n) : AW l D b J R X FQ pc ls (.int y :: .int x :: st) N V k n := fun p e s m args below meth c H locs arr hC hL hA hS => lv_iushr hC.1 hC.2.1 hd hv (h p e s m args below meth c H locs arr hC hL hA hS)
theorem aw_ineg {x : Int32} (hd : decode J.2.1 pc = .ok (.ineg, 1))  (h : AW l D b J R X FQ (pc + 1) ls (.int (-x) :: st) N V k n) : AW l D b J R X FQ pc ls (.int x :: st) N V k n := fun p e s m args below meth c H locs arr hC hL hA hS => lv_ineg hC.1 hC.2.1 hd  (h p e s m args below meth c H locs arr hC hL hA hS)
theorem aw_ladd {x y : Int64} (hd : decode J.2.1 pc = .ok (.ladd, 1))  (h : AW l D b J R X FQ (pc + 1) ls (.long (x + y) :: st) N V k n) : AW l D b J R X FQ pc ls (.long y :: .long x :: st) N V k n := fun p e s m args below meth c H locs arr hC hL hA hS => lv_ladd hC.1 hC.2.1 hd  (h p e s m args below meth c H locs arr hC hL hA hS)
theorem aw_lsub {x y : Int64} (hd : decode J.2.1 pc = .ok (.lsub, 1))  (h : AW l D b J R X FQ (pc + 1) ls (.long (x - y) :: st) N V k n) : AW l D b J R X FQ pc ls (.long y :: .long x :: st) N V k n := fun p e s m args below meth c H locs arr hC hL hA hS => lv_lsub hC.1 hC.2.1 hd  (h p e s m args below meth c H locs arr hC hL hA hS)
theorem aw_lmul {x y : Int64} (hd : decode J.2.1 pc = .ok (.lmul, 1))  (h : AW l D b J R X FQ (pc + 1) ls (.long (x * y) :: st) N V k n) : AW l D b J R X FQ pc ls (.long y :: .long x :: st) N V k n := fun p e s m args below meth c H locs arr hC hL hA hS => lv_lmul hC.1 hC.2.1 hd  (h p e s m args below meth c H locs arr hC hL hA hS)
theorem aw_lcmp {x y : Int64} (hd : decode J.2.1 pc = .ok (.lcmp, 1))  (h : AW l D b J R X FQ (pc + 1) ls (.int (lg_cmp x y) :: st) N V k n) : AW l D b J R X FQ pc ls (.long y :: .long x :: st) N V k n := fun p e s m args below meth c H locs arr hC hL hA hS => W.lcmp hC.1 hC.2.1 hd  (h p e s m args below meth c H locs arr hC hL hA hS)
theorem aw_i2l {x : Int32} {v : Int64} (hd : decode J.2.1 pc = .ok (.i2l, 1)) (hv : x.toInt64 = v) (h : AW l D b J R X FQ (pc + 1) ls (.long v :: st) N V k n) : AW l D b J R X FQ pc ls (.int x :: st) N V k n := fun p e s m args below meth c H locs arr hC hL hA hS => lv_i2l hC.1 hC.2.1 hd hv (h p e s m args below meth c H locs arr hC hL hA hS)
theorem aw_l2i {x : Int64} {v : Int32} (hd : decode J.2.1 pc = .ok (.l2i, 1)) (hv : x.toInt32 = v) (h : AW l D b J R X FQ (pc + 1) ls (.int v :: st) N V k n) : AW l D b J R X FQ pc ls (.long x :: st) N V k n := fun p e s m args below meth c H locs arr hC hL hA hS => lv_l2i hC.1 hC.2.1 hd hv (h p e s m args below meth c H locs arr hC hL hA hS)
theorem aw_i2b {x v : Int32} (hd : decode J.2.1 pc = .ok (.i2b, 1)) (hv : x.toInt8.toInt32 = v) (h : AW l D b J R X FQ (pc + 1) ls (.int v :: st) N V k n) : AW l D b J R X FQ pc ls (.int x :: st) N V k n := fun p e s m args below meth c H locs arr hC hL hA hS => lv_i2b hC.1 hC.2.1 hd hv (h p e s m args below meth c H locs arr hC hL hA hS)
theorem aw_i2c {x v : Int32} (hd : decode J.2.1 pc = .ok (.i2c, 1)) (hv : (x.toUInt32 % 65536).toInt32 = v) (h : AW l D b J R X FQ (pc + 1) ls (.int v :: st) N V k n) : AW l D b J R X FQ pc ls (.int x :: st) N V k n := fun p e s m args below meth c H locs arr hC hL hA hS => lv_i2c hC.1 hC.2.1 hd hv (h p e s m args below meth c H locs arr hC hL hA hS)
theorem aw_dup {va : Value} (hd : decode J.2.1 pc = .ok (.dup, 1)) (hv : va.category = 1) (h : AW l D b J R X FQ (pc + 1) ls (va :: va :: st) N V k n) : AW l D b J R X FQ pc ls (va :: st) N V k n := fun p e s m args below meth c H locs arr hC hL hA hS => lv_dup hC.1 hC.2.1 hd hv (h p e s m args below meth c H locs arr hC hL hA hS)
theorem aw_pop {va : Value} (hd : decode J.2.1 pc = .ok (.pop, 1)) (hv : va.category = 1) (h : AW l D b J R X FQ (pc + 1) ls (st) N V k n) : AW l D b J R X FQ pc ls (va :: st) N V k n := fun p e s m args below meth c H locs arr hC hL hA hS => lv_pop hC.1 hC.2.1 hd hv (h p e s m args below meth c H locs arr hC hL hA hS)
theorem aw_dup2 {va vb : Value} (hd : decode J.2.1 pc = .ok (.dup2, 1)) (hv : va.category = 1) (hw : vb.category = 1) (h : AW l D b J R X FQ (pc + 1) ls (va :: vb :: va :: vb :: st) N V k n) : AW l D b J R X FQ pc ls (va :: vb :: st) N V k n := fun p e s m args below meth c H locs arr hC hL hA hS => lv_dup2_11 hC.1 hC.2.1 hd hv hw (h p e s m args below meth c H locs arr hC hL hA hS)
theorem aw_dup_x1 {va vb : Value} (hd : decode J.2.1 pc = .ok (.dup_x1, 1)) (hv : va.category = 1) (hw : vb.category = 1) (h : AW l D b J R X FQ (pc + 1) ls (va :: vb :: va :: st) N V k n) : AW l D b J R X FQ pc ls (va :: vb :: st) N V k n := fun p e s m args below meth c H locs arr hC hL hA hS => lv_dup_x1 hC.1 hC.2.1 hd hv hw (h p e s m args below meth c H locs arr hC hL hA hS)
theorem aw_dup_x2 {va vb vd : Value} (hd : decode J.2.1 pc = .ok (.dup_x2, 1)) (hv : va.category = 1) (hw : vb.category = 1) (hz : vd.category = 1) (h : AW l D b J R X FQ (pc + 1) ls (va :: vb :: vd :: va :: st) N V k n) : AW l D b J R X FQ pc ls (va :: vb :: vd :: st) N V k n := fun p e s m args below meth c H locs arr hC hL hA hS => lv_dup_x2 hC.1 hC.2.1 hd hv hw hz (h p e s m args below meth c H locs arr hC hL hA hS)
theorem aw_goto {off : Int} {tgt : Nat} (hd : decode J.2.1 pc = .ok (.goto off, 3)) (ht : (pc : Int) + off = (tgt : Int)) (h : AW l D b J R X FQ tgt ls st N V k n) : AW l D b J R X FQ pc ls st N V k n := fun p e s m args below meth c H locs arr hC hL hA hS => lv_goto hC.1 hC.2.1 hd ht (h p e s m args below meth c H locs arr hC hL hA hS)
theorem aw_if_eq {x : Int32} {off : Int} {tgt : Nat} (hd : decode J.2.1 pc = .ok (.ifCond .eq off, 3)) (ht : (pc : Int) + off = (tgt : Int)) (h1 : x = 0 → AW l D b J R X FQ tgt ls st N V k n) (h2 : ¬ x = 0 → AW l D b J R X FQ (pc + 3) ls st N V k n) : AW l D b J R X FQ pc ls (.int x :: st) N V k n := fun p e s m args below meth c H locs arr hC hL hA hS => lv_if_eq hC.1 hC.2.1 hd ht (fun z => h1 z p e s m args below meth c H locs arr hC hL hA hS) (fun z => h2 z p e s m args below meth c H locs arr hC hL hA hS)
theorem aw_if_ne {x : Int32} {off : Int} {tgt : Nat} (hd : decode J.2.1 pc = .ok (.ifCond .ne off, 3)) (ht : (pc : Int) + off = (tgt : Int)) (h1 : ¬ x = 0 → AW l D b J R X FQ tgt ls st N V k n) (h2 : x = 0 → AW l D b J R X FQ (pc + 3) ls st N V k n) : AW l D b J R X FQ pc ls (.int x :: st) N V k n := fun p e s m args below meth c H locs arr hC hL hA hS => lv_if_ne hC.1 hC.2.1 hd ht (fun z => h1 z p e s m args below meth c H locs arr hC hL hA hS) (fun z => h2 z p e s m args below meth c H locs arr hC hL hA hS)
theorem aw_if_lt {x : Int32} {off : Int} {tgt : Nat} (hd : decode J.2.1 pc = .ok (.ifCond .lt off, 3)) (ht : (pc : Int) + off = (tgt : Int)) (h1 : x < 0 → AW l D b J R X FQ tgt ls st N V k n) (h2 : ¬ x < 0 → AW l D b J R X FQ (pc + 3) ls st N V k n) : AW l D b J R X FQ pc ls (.int x :: st) N V k n := fun p e s m args below meth c H locs arr hC hL hA hS => lv_if_lt hC.1 hC.2.1 hd ht (fun z => h1 z p e s m args below meth c H locs arr hC hL hA hS) (fun z => h2 z p e s m args below meth c H locs arr hC hL hA hS)
theorem aw_if_ge {x : Int32} {off : Int} {tgt : Nat} (hd : decode J.2.1 pc = .ok (.ifCond .ge off, 3)) (ht : (pc : Int) + off = (tgt : Int)) (h1 : 0 ≤ x → AW l D b J R X FQ tgt ls st N V k n) (h2 : ¬ 0 ≤ x → AW l D b J R X FQ (pc + 3) ls st N V k n) : AW l D b J R X FQ pc ls (.int x :: st) N V k n := fun p e s m args below meth c H locs arr hC hL hA hS => lv_if_ge hC.1 hC.2.1 hd ht (fun z => h1 z p e s m args below meth c H locs arr hC hL hA hS) (fun z => h2 z p e s m args below meth c H locs arr hC hL hA hS)
theorem aw_if_gt {x : Int32} {off : Int} {tgt : Nat} (hd : decode J.2.1 pc = .ok (.ifCond .gt off, 3)) (ht : (pc : Int) + off = (tgt : Int)) (h1 : 0 < x → AW l D b J R X FQ tgt ls st N V k n) (h2 : ¬ 0 < x → AW l D b J R X FQ (pc + 3) ls st N V k n) : AW l D b J R X FQ pc ls (.int x :: st) N V k n := fun p e s m args below meth c H locs arr hC hL hA hS => lv_if_gt hC.1 hC.2.1 hd ht (fun z => h1 z p e s m args below meth c H locs arr hC hL hA hS) (fun z => h2 z p e s m args below meth c H locs arr hC hL hA hS)
theorem aw_if_le {x : Int32} {off : Int} {tgt : Nat} (hd : decode J.2.1 pc = .ok (.ifCond .le off, 3)) (ht : (pc : Int) + off = (tgt : Int)) (h1 : x ≤ 0 → AW l D b J R X FQ tgt ls st N V k n) (h2 : ¬ x ≤ 0 → AW l D b J R X FQ (pc + 3) ls st N V k n) : AW l D b J R X FQ pc ls (.int x :: st) N V k n := fun p e s m args below meth c H locs arr hC hL hA hS => lv_if_le hC.1 hC.2.1 hd ht (fun z => h1 z p e s m args below meth c H locs arr hC hL hA hS) (fun z => h2 z p e s m args below meth c H locs arr hC hL hA hS)
theorem aw_icmp_eq {x y : Int32} {off : Int} {tgt : Nat} (hd : decode J.2.1 pc = .ok (.if_icmp .eq off, 3)) (ht : (pc : Int) + off = (tgt : Int)) (h1 : x = y → AW l D b J R X FQ tgt ls st N V k n) (h2 : ¬ x = y → AW l D b J R X FQ (pc + 3) ls st N V k n) : AW l D b J R X FQ pc ls (.int y :: .int x :: st) N V k n := fun p e s m args below meth c H locs arr hC hL hA hS => lv_icmp_eq hC.1 hC.2.1 hd ht (fun z => h1 z p e s m args below meth c H locs arr hC hL hA hS) (fun z => h2 z p e s m args below meth c H locs arr hC hL hA hS)
theorem aw_icmp_ne {x y : Int32} {off : Int} {tgt : Nat} (hd : decode J.2.1 pc = .ok (.if_icmp .ne off, 3)) (ht : (pc : Int) + off = (tgt : Int)) (h1 : ¬ x = y → AW l D b J R X FQ tgt ls st N V k n) (h2 : x = y → AW l D b J R X FQ (pc + 3) ls st N V k n) : AW l D b J R X FQ pc ls (.int y :: .int x :: st) N V k n := fun p e s m args below meth c H locs arr hC hL hA hS => lv_icmp_ne hC.1 hC.2.1 hd ht (fun z => h1 z p e s m args below meth c H locs arr hC hL hA hS) (fun z => h2 z p e s m args below meth c H locs arr hC hL hA hS)
theorem aw_icmp_lt {x y : Int32} {off : Int} {tgt : Nat} (hd : decode J.2.1 pc = .ok (.if_icmp .lt off, 3)) (ht : (pc : Int) + off = (tgt : Int)) (h1 : x < y → AW l D b J R X FQ tgt ls st N V k n) (h2 : ¬ x < y → AW l D b J R X FQ (pc + 3) ls st N V k n) : AW l D b J R X FQ pc ls (.int y :: .int x :: st) N V k n := fun p e s m args below meth c H locs arr hC hL hA hS => lv_icmp_lt hC.1 hC.2.1 hd ht (fun z => h1 z p e s m args below meth c H locs arr hC hL hA hS) (fun z => h2 z p e s m args below meth c H locs arr hC hL hA hS)
theorem aw_icmp_ge {x y : Int32} {off : Int} {tgt : Nat} (hd : decode J.2.1 pc = .ok (.if_icmp .ge off, 3)) (ht : (pc : Int) + off = (tgt : Int)) (h1 : y ≤ x → AW l D b J R X FQ tgt ls st N V k n) (h2 : ¬ y ≤ x → AW l D b J R X FQ (pc + 3) ls st N V k n) : AW l D b J R X FQ pc ls (.int y :: .int x :: st) N V k n := fun p e s m args below meth c H locs arr hC hL hA hS => lv_icmp_ge hC.1 hC.2.1 hd ht (fun z => h1 z p e s m args below meth c H locs arr hC hL hA hS) (fun z => h2 z p e s m args below meth c H locs arr hC hL hA hS)
theorem aw_icmp_gt {x y : Int32} {off : Int} {tgt : Nat} (hd : decode J.2.1 pc = .ok (.if_icmp .gt off, 3)) (ht : (pc : Int) + off = (tgt : Int)) (h1 : y < x → AW l D b J R X FQ tgt ls st N V k n) (h2 : ¬ y < x → AW l D b J R X FQ (pc + 3) ls st N V k n) : AW l D b J R X FQ pc ls (.int y :: .int x :: st) N V k n := fun p e s m args below meth c H locs arr hC hL hA hS => lv_icmp_gt hC.1 hC.2.1 hd ht (fun z => h1 z p e s m args below meth c H locs arr hC hL hA hS) (fun z => h2 z p e s m args below meth c H locs arr hC hL hA hS)
theorem aw_icmp_le {x y : Int32} {off : Int} {tgt : Nat} (hd : decode J.2.1 pc = .ok (.if_icmp .le off, 3)) (ht : (pc : Int) + off = (tgt : Int)) (h1 : x ≤ y → AW l D b J R X FQ tgt ls st N V k n) (h2 : ¬ x ≤ y → AW l D b J R X FQ (pc + 3) ls st N V k n) : AW l D b J R X FQ pc ls (.int y :: .int x :: st) N V k n := fun p e s m args below meth c H locs arr hC hL hA hS => lv_icmp_le hC.1 hC.2.1 hd ht (fun z => h1 z p e s m args below meth c H locs arr hC hL hA hS) (fun z => h2 z p e s m args below meth c H locs arr hC hL hA hS)
theorem aw_tableIn {dflt lo hi : Int} {offs : Array Int} {len : Nat} {x : Int32} {off : Int} {tgt : Nat} (hd : decode J.2.1 pc = .ok (.tableswitch dflt lo hi offs, len)) (h1 : ¬ x.toInt < lo) (h2 : ¬ hi < x.toInt) (ho : offs[(x.toInt - lo).toNat]? = some off) (ht : (pc : Int) + off = (tgt : Int)) (h : AW l D b J R X FQ tgt ls st N V k n) : AW l D b J R X FQ pc ls (.int x :: st) N V k n := fun p e s m args below meth c H locs arr hC hL hA hS => lv_tableIn hC.1 hC.2.1 hd h1 h2 ho ht (h p e s m args below meth c H locs arr hC hL hA hS)
theorem aw_tableOut {dflt lo hi : Int} {offs : Array Int} {len : Nat} {x : Int32} {tgt : Nat} (hd : decode J.2.1 pc = .ok (.tableswitch dflt lo hi offs, len)) (h1 : x.toInt < lo ∨ hi < x.toInt) (ht : (pc : Int) + dflt = (tgt : Int)) (h : AW l D b J R X FQ tgt ls st N V k n) : AW l D b J R X FQ pc ls (.int x :: st) N V k n := fun p e s m args below meth c H locs arr hC hL hA hS => lv_tableOut hC.1 hC.2.1 hd h1 ht (h p e s m args below meth c H locs arr hC hL hA hS)
theorem aw_lookup {dflt : Int} {ps : Array (Int × Int)} {len : Nat} {x : Int32} {off : Int} {tgt : Nat} (hd : decode J.2.1 pc = .ok (.lookupswitch dflt ps, len)) (hp : (ps.toList.zip (ps.toList.drop 1)).all (fun (a, next) => a.1 < next.1) = true) (ho : Op.lookupswitch.offset ps.toList dflt x.toInt = off) (ht : (pc : Int) + off = (tgt : Int)) (h : AW l D b J R X FQ tgt ls st N V k n) : AW l D b J R X FQ pc ls (.int x :: st) N V k n := fun p e s m args below meth c H locs arr hC hL hA hS => lv_lookup hC.1 hC.2.1 hd hp ho ht (h p e s m args below meth c H locs arr hC hL hA hS)
theorem aw_ldc {i : Nat} {v : Int32} (hd : decode J.2.1 pc = .ok (.ldc i, 2)) (hw : Cond.constant J.1.cls i v ∈ fx_TB) (h : AW l D b J R X FQ (pc + 2) ls (.int v :: st) N V k n) : AW l D b J R X FQ pc ls st N V k n := fun p e s m args below meth c H locs arr hC hL hA hS => lv_ldc hC.1 hC.2.1 hC.2.2.2.2.1 (hC.2.2.2.2.2.1 _ (List.mem_cons_of_mem _ hw)) hd (h p e s m args below meth c H locs arr hC hL hA hS)
theorem aw_ldcw {i : Nat} {v : Int32} (hd : decode J.2.1 pc = .ok (.ldc_w i, 3)) (hw : Cond.constant J.1.cls i v ∈ fx_TB) (h : AW l D b J R X FQ (pc + 3) ls (.int v :: st) N V k n) : AW l D b J R X FQ pc ls st N V k n := fun p e s m args below meth c H locs arr hC hL hA hS => lv_ldcw hC.1 hC.2.1 hC.2.2.2.2.1 (hC.2.2.2.2.2.1 _ (List.mem_cons_of_mem _ hw)) hd (h p e s m args below meth c H locs arr hC hL hA hS)
theorem aw_ldc2 {i : Nat} {v : Int64} (hd : decode J.2.1 pc = .ok (.ldc2_w i, 3)) (hw : Cond.constantLong J.1.cls i v ∈ fx_TB) (h : AW l D b J R X FQ (pc + 3) ls (.long v :: st) N V k n) : AW l D b J R X FQ pc ls st N V k n := fun p e s m args below meth c H locs arr hC hL hA hS => lv_ldc2 hC.1 hC.2.1 hC.2.2.2.2.1 (hC.2.2.2.2.2.1 _ (List.mem_cons_of_mem _ hw)) hd (h p e s m args below meth c H locs arr hC hL hA hS)
/-- a name for a computed top of the stack -/
theorem aw_topi {x : Int32} (h : ∀ y : Int32, y = x → AW l D b J R X FQ pc ls (.int y :: st) N V k n) : AW l D b J R X FQ pc ls (.int x :: st) N V k n := h x rfl
theorem aw_eqi {x y : Int32} (e : x = y) (h : AW l D b J R X FQ pc ls (.int y :: st) N V k n) : AW l D b J R X FQ pc ls (.int x :: st) N V k n := e ▸ h
theorem aw_eql {x y : Int64} (e : x = y) (h : AW l D b J R X FQ pc ls (.long y :: st) N V k n) : AW l D b J R X FQ pc ls (.long x :: st) N V k n := e ▸ h
theorem aw_wd {V' : Wd} (e : V = V') (h : AW l D b J R X FQ pc ls st N V' k n) : AW l D b J R X FQ pc ls st N V k n := e ▸ h
/-! fields -/
def fx_fl (own : String) (idx ci k : Nat) : Prop := ∃ (C : String) (T : u_T) (N : Nat), vwCl[ci]? = some (C, T, N) ∧ k < N ∧ (∀ w ∈ u_ws C T N, w ∈ fx_TB) ∧ (Cond.fieldLink own idx (T k).1 (T k).2.1 (T k).2.2.1 ∈ fx_TB ∨ (∃ host, Cond.fieldLinkNest own idx (T k).1 (T k).2.1 (T k).2.2.1 host ∈ fx_NW) ∨ ∃ ref, Cond.fieldLink own idx ref (T k).2.1 (T k).2.2.1 ∈ fx_TB ∧ Cond.sameField ref (T k).1 (T k).2.1 (T k).2.2.1 ∈ fx_TB)
def fx_fp (own : String) (idx ci k : Nat) (ty : FieldType) (fin : Bool) : Prop := ∃ (C : String) (T : u_T) (N : Nat) (ty0 : Nat → FieldType), vwCl[ci]? = some (C, T, N) ∧ k < N ∧ (∀ w ∈ u_ws C T N, w ∈ fx_TB) ∧ (∀ k, k < N → parseFieldDescriptor (T k).2.2.1 = some (ty0 k)) ∧ (∀ a, a < N → ∀ b, b < N → a ≠ b → (T a).2.1 ≠ (T b).2.1) ∧ (T k).2.2.2 = fin ∧ parseFieldDescriptor (T k).2.2.1 = some ty ∧ (fin = true → (T k).1 = own) ∧ (Cond.fieldLink own idx (T k).1 (T k).2.1 (T k).2.2.1 ∈ fx_TB ∨ (fin = false ∧ ∃ host, Cond.fieldLinkNest own idx (T k).1 (T k).2.1 (T k).2.2.1 host ∈ fx_NW))
theorem aw_get {i ci kk idx : Nat} {fs : List Value} {v : Value} (hd : decode J.2.1 pc = .ok (.getfield idx, 3)) (hf : fx_fl J.1.cls idx ci kk) (he : V i = cO ci fs) (hi : i < N) (hv : fs[kk]? = some v) (h : AW l D b J R X FQ (pc + 3) ls (v :: st) N V k n) : AW l D b J R X FQ pc ls (.ref (b + i) :: st) N V k n := by
  intro p e s m args below meth c H locs arr hC hL hA hS
  obtain ⟨hx, hb, hr, hml, hown, hts, hlk, hnm, hK, hsz, hX, hNS, hEn⟩ := id hC
  obtain ⟨C, T, N, hc, hk, hin, hl⟩ := hf
  rcases hl with hl | ⟨host, hl⟩ | ⟨ref, hl, hsm⟩
  · exact va_get hx hb hts (fun w hw => List.mem_cons_of_mem _ (hin w hw)) hown hK (va_one hA hi he) 0 rfl hc kk hk (hts _ (List.mem_cons_of_mem _ hl)) (fun x hx => hx) hv hd (h p e s m args below meth c H locs arr hC hL hA hS)
  · exact va_getN (host := host) hx hb hts (fun w hw => List.mem_cons_of_mem _ (hin w hw)) hown hK (va_one hA hi he) 0 rfl hc kk hk (hNS.use hl) (fun x hx => hx) hv hd (h p e s m args below meth c H locs arr hC hL hA hS)
  · exact va_get hx hb hts (fun w hw => List.mem_cons_of_mem _ (hin w hw)) hown hK (va_one hA hi he) 0 rfl hc kk hk (hts _ (List.mem_cons_of_mem _ hl)) (fun x hx => u_same (hts _ (List.mem_cons_of_mem _ hsm)) x hx) hv hd (h p e s m args below meth c H locs arr hC hL hA hS)
theorem aw_put {i ci kk idx : Nat} {fs fs' : List Value} {v : Value} {ty : FieldType} (hd : decode J.2.1 pc = .ok (.putfield idx, 3)) (hf : fx_fp J.1.cls idx ci kk ty false) (he : V i = cO ci fs) (hi : i < N) (hn : narrow ty v = v) (hfit : fits ty v = true) (hl : kk < fs.length) (hs : fs.set kk v = fs') (h : AW l D b J R X FQ (pc + 3) ls st N (va_up V i (cO ci fs')) k n) : AW l D b J R X FQ pc ls (v :: .ref (b + i) :: st) N V k n := by
  intro p e s m args below meth c H locs arr hC hL hA hS
  obtain ⟨hx, hb, hr, hml, hown, hts, hlk, hnm, hK, hsz, hX, hNS, hEn⟩ := id hC
  obtain ⟨C, T, N9, ty0, hc, hk, hin, hty, hnm2, hfin, hpd, hdec, hlk2⟩ := hf
  subst hs
  have hin' : ∀ w ∈ u_ws C T N9, w ∈ fx_ws J := fun w hw => List.mem_cons_of_mem _ (hin w hw)
  have hap := va_apart (own := J.1.cls) hts hin' ty0 hty hnm2 hK hc
  obtain ⟨r, h1, cell, q1, q2, q3, q4⟩ := va_one hA hi he 0 _ rfl
  have hr9 : r = (C, T, N9) := Option.some.inj (h1.symm.trans hc)
  subst hr9
  obtain ⟨hS9, hfc, kC, hkC, hkind⟩ := hK.1 ci _ hc
  obtain ⟨cf, kf, fi, f9, hi9, hsl⟩ := hS9 kk hk
  have hlay := hts _ (hin' _ (u_in_lay hk))
  unfold u_lay at hlay
  have hst := (u_facts hfc hkC (u_lays hts hin' hk) hi9).1
  rw [if_neg (by rw [hfin]; decide)] at hlay
  have h6 := u_store hfc hkC hkind hlay hi9 hpd hn hfit
  rcases hlk2 with hl2 | ⟨-, host, hl2⟩
  · refine W.putK hx hb (f := f9) ⟨hown, hts _ (List.mem_cons_of_mem _ hl2), ⟨_, _, _, hi9⟩, hst⟩ (by rw [q2]; exact h6) q1 q3 (by rw [hsl]; exact k2_hasslot (q4 kk hk)) rfl rfl hd fun H' e1 e2 e3 => ?_
    rw [hsl] at e1 ⊢
    exact h p e s m args below meth c H' _ arr hC hL (hA.set ⟨_, hc, t_OB.to (V := updV (vp_V fs) kk v) ⟨_, e1, q2, q3, t_set q4 hap hk v⟩ (fun j _ => vp_updV_set hl v j)⟩ e2 e3) (hS.put e2 e3 (Nat.le_add_right b i))
  · refine va_WputK hx hb (f := f9) hown (hNS.use hl2) hi9 hst (by rw [q2]; exact h6) q1 q3 (by rw [hsl]; exact k2_hasslot (q4 kk hk)) rfl rfl hd fun H' e1 e2 e3 => ?_
    rw [hsl] at e1 ⊢
    exact h p e s m args below meth c H' _ arr hC hL (hA.set ⟨_, hc, t_OB.to (V := updV (vp_V fs) kk v) ⟨_, e1, q2, q3, t_set q4 hap hk v⟩ (fun j _ => vp_updV_set hl v j)⟩ e2 e3) (hS.put e2 e3 (Nat.le_add_right b i))
theorem aw_putF {i ci kk idx : Nat} {fs fs' : List Value} {v : Value} {ty : FieldType} (hd : decode J.2.1 pc = .ok (.putfield idx, 3)) (hf : fx_fp J.1.cls idx ci kk ty true) (hini : J.1.name = "<init>") (he : V i = cO ci fs) (hi : i < N) (hn : narrow ty v = v) (hfit : fits ty v = true) (hl : kk < fs.length) (hs : fs.set kk v = fs') (h : AW l D b J R X FQ (pc + 3) ls st N (va_up V i (cO ci fs')) k n) : AW l D b J R X FQ pc ls (v :: .ref (b + i) :: st) N V k n := by
  intro p e s m args below meth c H locs arr hC hL hA hS
  obtain ⟨hx, hb, hr, hml, hown, hts, hlk, hnm, hK, hsz, hX, hNS, hEn⟩ := id hC
  obtain ⟨C, T, N9, ty0, hc, hk, hin, hty, hnm2, hfin, hpd, hdec, hlk2⟩ := hf
  subst hs
  have hin' : ∀ w ∈ u_ws C T N9, w ∈ fx_ws J := fun w hw => List.mem_cons_of_mem _ (hin w hw)
  have hap := va_apart (own := J.1.cls) hts hin' ty0 hty hnm2 hK hc
  obtain ⟨r, h1, cell, q1, q2, q3, q4⟩ := va_one hA hi he 0 _ rfl
  have hr9 : r = (C, T, N9) := Option.some.inj (h1.symm.trans hc)
  subst hr9
  obtain ⟨hS9, hfc, kC, hkC, hkind⟩ := hK.1 ci _ hc
  obtain ⟨cf, kf, fi, f9, hi9, hsl⟩ := hS9 kk hk
  have hlay := hts _ (hin' _ (u_in_lay hk))
  unfold u_lay at hlay
  have hst := (u_facts hfc hkC (u_lays hts hin' hk) hi9).1
  rw [if_pos hfin] at hlay
  have hcf : m.cls = cf := by
    obtain ⟨_, _, c', _, _, _, -, -, hf', -, -, -, hown2, -⟩ := Cond.laysFinal_spec hlay
    have e1 : c' = cf := by have := hi9.symm.trans hf'; simp at this; exact this.1.symm
    rw [hdec rfl] at hown2
    rw [← e1]; exact Option.some.inj (hown.symm.trans hown2)
  have h6 := u_fits hfc hkC hkind (Or.inr hlay) hi9 hpd hn hfit
  rcases hlk2 with hl2 | ⟨h9, -⟩
  · refine W.putFinK hx hb hown (hts _ (List.mem_cons_of_mem _ hl2)) hi9 hst hcf (hnm.trans hini) (by rw [q2]; exact h6) q1 q3 (by rw [hsl]; exact k2_hasslot (q4 kk hk)) rfl rfl hd fun H' e1 e2 e3 => ?_
    rw [hsl] at e1 ⊢
    exact h p e s m args below meth c H' _ arr hC hL (hA.set ⟨_, hc, t_OB.to (V := updV (vp_V fs) kk v) ⟨_, e1, q2, q3, t_set q4 hap hk v⟩ (fun j _ => vp_updV_set hl v j)⟩ e2 e3) (hS.put e2 e3 (Nat.le_add_right b i))
  · cases h9
def fx_nw (own : String) (idx ci : Nat) (fs : List Value) : Prop := ∃ (C : String) (T : u_T) (N : Nat) (ty : Nat → FieldType), vwCl[ci]? = some (C, T, N) ∧ (∀ w ∈ u_ws C T N, w ∈ fx_TB) ∧ (∀ k, k < N → parseFieldDescriptor (T k).2.2.1 = some (ty k)) ∧ Cond.classLink own idx C ∈ fx_TB ∧ Cond.instantiable C N ∈ fx_TB ∧ Cond.initialized C ∈ fx_TB ∧ (∀ j, j < N → defaultValue (ty j) = vp_V fs j) ∧ fs.length = N
/-! arrays -/
theorem aw_iald {a n9 : Nat} {g : Nat → Int32} {i : Int32} {v : Int32} (hd : decode J.2.1 pc = .ok (.iaload, 1)) (he : V a = cI D n9 g) (hi : a < N) (hin : vp_in i n9) (hv : g i.toNatClampNeg = v) (h : AW l D b J R X FQ (pc + 1) ls (.int v :: st) N V k n) : AW l D b J R X FQ pc ls (.int i :: .ref (b + a) :: st) N V k n := by
  intro p e s m args below meth c H locs arr hC hL hA hS
  obtain ⟨hx, hb, hr, hml, hown, hts, hlk, hnm, hK, hsz, hX, hNS, hEn⟩ := id hC
  subst hv
  exact va_iald hx hb hK (va_one hA hi he) 0 0 rfl rfl hin hd (h p e s m args below meth c H locs arr hC hL hA hS)
theorem aw_bald {a n9 : Nat} {g : Nat → Int32} {i : Int32} {v : Int32} (hd : decode J.2.1 pc = .ok (.baload, 1)) (he : V a = cB D n9 g) (hi : a < N) (hin : vp_in i n9) (hv : g i.toNatClampNeg = v) (h : AW l D b J R X FQ (pc + 1) ls (.int v :: st) N V k n) : AW l D b J R X FQ pc ls (.int i :: .ref (b + a) :: st) N V k n := by
  intro p e s m args below meth c H locs arr hC hL hA hS
  obtain ⟨hx, hb, hr, hml, hown, hts, hlk, hnm, hK, hsz, hX, hNS, hEn⟩ := id hC
  subst hv
  exact va_bald hx hb hK (va_one hA hi he) 0 2 rfl rfl hin hd (h p e s m args below meth c H locs arr hC hL hA hS)
theorem aw_zald {a n9 : Nat} {g : Nat → Int32} {i : Int32} {v : Int32} (hd : decode J.2.1 pc = .ok (.baload, 1)) (he : V a = cZ D n9 g) (hi : a < N) (hin : vp_in i n9) (hv : g i.toNatClampNeg = v) (h : AW l D b J R X FQ (pc + 1) ls (.int v :: st) N V k n) : AW l D b J R X FQ pc ls (.int i :: .ref (b + a) :: st) N V k n := by
  intro p e s m args below meth c H locs arr hC hL hA hS
  obtain ⟨hx, hb, hr, hml, hown, hts, hlk, hnm, hK, hsz, hX, hNS, hEn⟩ := id hC
  subst hv
  exact va_zald hx hb hK (va_one hA hi he) 0 3 rfl rfl hin hd (h p e s m args below meth c H locs arr hC hL hA hS)
theorem aw_lald {a n9 : Nat} {g : Nat → Int64} {i : Int32} {v : Int64} (hd : decode J.2.1 pc = .ok (.laload, 1)) (he : V a = cJ D n9 g) (hi : a < N) (hin : vp_in i n9) (hv : g i.toNatClampNeg = v) (h : AW l D b J R X FQ (pc + 1) ls (.long v :: st) N V k n) : AW l D b J R X FQ pc ls (.int i :: .ref (b + a) :: st) N V k n := by
  intro p e s m args below meth c H locs arr hC hL hA hS
  obtain ⟨hx, hb, hr, hml, hown, hts, hlk, hnm, hK, hsz, hX, hNS, hEn⟩ := id hC
  subst hv
  exact va_lald hx hb hK (va_one hA hi he) 0 1 rfl rfl hin hd (h p e s m args below meth c H locs arr hC hL hA hS)
theorem aw_iast {a n9 : Nat} {g : Nat → Int32} {i : Int32} {x : Int32} (hd : decode J.2.1 pc = .ok (.iastore, 1)) (he : V a = cI D n9 g) (hi : a < N) (hin : vp_in i n9) (h : AW l D b J R X FQ (pc + 1) ls st N (va_up V a (cI D n9 (upd g i.toNatClampNeg x))) k n) : AW l D b J R X FQ pc ls (.int x :: .int i :: .ref (b + a) :: st) N V k n := by
  intro p e s m args below meth c H locs arr hC hL hA hS
  obtain ⟨hx, hb, hr, hml, hown, hts, hlk, hnm, hK, hsz, hX, hNS, hEn⟩ := id hC
  refine W.iast hx hb (va_one hA hi he 0 _ rfl) ((hK.2 0 _ rfl).1 n9 (fun j => .int (g j))) (fun q => by cases q) (by show ¬ (i < 0 ∨ (arrV _ _ _).slots.size ≤ _); rw [arrV_size]; exact hin) rfl rfl hd fun H1 e9 z oq => ?_
  refine h p e s m args below meth c H1 _ arr hC hL (hA.set ?_ z oq) (hS.put z oq (Nat.le_add_right b a))
  show H1[b + a]? = some (vp_cell _ _)
  rw [e9]
  rw [vp_cell_i, vp_cell_i, arrV_store]
  congr 2
  funext q
  by_cases hq : q = i.toNatClampNeg
  · subst hq
    simp [updV, upd]
  · simp [updV, upd, hq]
theorem aw_bast {a n9 : Nat} {g : Nat → Int32} {i : Int32} {x : Int32} (hd : decode J.2.1 pc = .ok (.bastore, 1)) (he : V a = cB D n9 g) (hi : a < N) (hin : vp_in i n9) (h : AW l D b J R X FQ (pc + 1) ls st N (va_up V a (cB D n9 (upd g i.toNatClampNeg (vp_nar .byte x)))) k n) : AW l D b J R X FQ pc ls (.int x :: .int i :: .ref (b + a) :: st) N V k n := by
  intro p e s m args below meth c H locs arr hC hL hA hS
  obtain ⟨hx, hb, hr, hml, hown, hts, hlk, hnm, hK, hsz, hX, hNS, hEn⟩ := id hC
  refine W.bast hx hb (va_one hA hi he 0 _ rfl) ((hK.2 2 _ rfl).1 n9 (fun j => .int (g j))) (fun q => by cases q) (by show ¬ (i < 0 ∨ (arrV _ _ _).slots.size ≤ _); rw [arrV_size]; exact hin) rfl rfl hd fun H1 e9 z oq => ?_
  refine h p e s m args below meth c H1 _ arr hC hL (hA.set ?_ z oq) (hS.put z oq (Nat.le_add_right b a))
  show H1[b + a]? = some (vp_cell _ _)
  rw [e9]
  rw [vp_cell_i, vp_cell_i, arrV_store]
  congr 2
  funext q
  by_cases hq : q = i.toNatClampNeg
  · subst hq
    simp [updV, upd, vp_nar]
    try rfl
  · simp [updV, upd, hq]
theorem aw_zast {a n9 : Nat} {g : Nat → Int32} {i : Int32} {x : Int32} (hd : decode J.2.1 pc = .ok (.bastore, 1)) (he : V a = cZ D n9 g) (hi : a < N) (hin : vp_in i n9) (h : AW l D b J R X FQ (pc + 1) ls st N (va_up V a (cZ D n9 (upd g i.toNatClampNeg (vp_nar .boolean x)))) k n) : AW l D b J R X FQ pc ls (.int x :: .int i :: .ref (b + a) :: st) N V k n := by
  intro p e s m args below meth c H locs arr hC hL hA hS
  obtain ⟨hx, hb, hr, hml, hown, hts, hlk, hnm, hK, hsz, hX, hNS, hEn⟩ := id hC
  refine W.zast hx hb (va_one hA hi he 0 _ rfl) ((hK.2 3 _ rfl).1 n9 (fun j => .int (g j))) (fun q => by cases q) (by show ¬ (i < 0 ∨ (arrV _ _ _).slots.size ≤ _); rw [arrV_size]; exact hin) rfl rfl hd fun H1 e9 z oq => ?_
  refine h p e s m args below meth c H1 _ arr hC hL (hA.set ?_ z oq) (hS.put z oq (Nat.le_add_right b a))
  show H1[b + a]? = some (vp_cell _ _)
  rw [e9]
  rw [vp_cell_i, vp_cell_i, arrV_store]
  congr 2
  funext q
  by_cases hq : q = i.toNatClampNeg
  · subst hq
    simp [updV, upd, vp_nar]
    try rfl
  · simp [updV, upd, hq]
theorem aw_last {a n9 : Nat} {g : Nat → Int64} {i : Int32} {x : Int64} (hd : decode J.2.1 pc = .ok (.lastore, 1)) (he : V a = cJ D n9 g) (hi : a < N) (hin : vp_in i n9) (h : AW l D b J R X FQ (pc + 1) ls st N (va_up V a (cJ D n9 (vp_updL g i.toNatClampNeg x))) k n) : AW l D b J R X FQ pc ls (.long x :: .int i :: .ref (b + a) :: st) N V k n := by
  intro p e s m args below meth c H locs arr hC hL hA hS
  obtain ⟨hx, hb, hr, hml, hown, hts, hlk, hnm, hK, hsz, hX, hNS, hEn⟩ := id hC
  refine W.last hx hb (va_one hA hi he 0 _ rfl) ((hK.2 1 _ rfl).1 n9 (fun j => .long (g j))) (fun q => by cases q) (by show ¬ (i < 0 ∨ (arrV _ _ _).slots.size ≤ _); rw [arrV_size]; exact hin) rfl rfl hd fun H1 e9 z oq => ?_
  refine h p e s m args below meth c H1 _ arr hC hL (hA.set ?_ z oq) (hS.put z oq (Nat.le_add_right b a))
  show H1[b + a]? = some (vp_cell _ _)
  rw [e9]
  rw [vp_cell_l, vp_cell_l, arrV_store]
  congr 2
  funext q
  by_cases hq : q = i.toNatClampNeg
  · subst hq
    simp [updV, vp_updL]
  · simp [updV, vp_updL, hq]
theorem aw_aald {a n9 r : Nat} {g : Nat → Option Nat} {i : Int32} (hd : decode J.2.1 pc = .ok (.aaload, 1)) (he : V a = cR D n9 g) (hi : a < N) (hin : vp_in i n9) (hv : g i.toNatClampNeg = some r) (h : AW l D b J R X FQ (pc + 1) ls (.ref r :: st) N V k n) : AW l D b J R X FQ pc ls (.int i :: .ref (b + a) :: st) N V k n := by
  intro p e s m args below meth c H locs arr hC hL hA hS
  obtain ⟨hx, hb, hr, hml, hown, hts, hlk, hnm, hK, hsz, hX, hNS, hEn⟩ := id hC
  have hlt : i.toNatClampNeg < n9 := Nat.not_le.mp fun q => hin (Or.inr q)
  have hP := va_one hA hi he
  exact W.aald (v := .ref r) (ty := .array .int) hx hb (hP 0 _ rfl) ((hK.2 4 _ rfl).1 n9 (fun j => va_rf (g j))) rfl (fun q => by cases q) (by show ¬ (i < 0 ∨ (arrV _ _ _).slots.size ≤ _); rw [arrV_size]; exact hin) (by show (arrV _ _ _).slots[_]? = _; rw [arrV_read _ _ hlt, hv]; rfl) rfl rfl hd (h p e s m args below meth c H locs arr hC hL hA hS)
theorem aw_alen {i : Nat} {cA : ClassId} {x : vp_A} {t0 : Nat} {ty : FieldType} {v : Int32} (hd : decode J.2.1 pc = .ok (.arraylength, 1)) (he : V i = .inl (cA, x)) (hi : i < N) (ht : (fx_ty D)[t0]? = some (cA, ty)) (hv : Int32.ofNat x.1 = v) (h : AW l D b J R X FQ (pc + 1) ls (.int v :: st) N V k n) : AW l D b J R X FQ pc ls (.ref (b + i) :: st) N V k n := by
  intro p e s m args below meth c H locs arr hC hL hA hS
  obtain ⟨hx, hb, hr, hml, hown, hts, hlk, hnm, hK, hsz, hX, hNS, hEn⟩ := id hC
  subst hv
  exact va_alen hx hb hK (va_one hA hi he) 0 t0 rfl ht rfl hd (h p e s m args below meth c H locs arr hC hL hA hS)
theorem aw_sld {b9 L : Nat} {xs : Nat → Int32} {i : Int32} (hd : decode J.2.1 pc = .ok (.iaload, 1)) (he : X = some (b9, L, xs)) (hin : vp_in i L) (h : AW l D b J R X FQ (pc + 1) ls (.int (xs i.toNatClampNeg) :: st) N V k n) : AW l D b J R X FQ pc ls (.int i :: .ref b9 :: st) N V k n := by
  intro p e s m args below meth c H locs arr hC hL hA hS
  obtain ⟨hx, hb, hr, hml, hown, hts, hlk, hnm, hK, hsz, hX, hNS, hEn⟩ := id hC
  obtain ⟨x1, x2, x3⟩ := hX b9 L xs he
  exact va_sld hx hb x1 x2 x3 hS hin hd (h p e s m args below meth c H locs arr hC hL hA hS)
theorem aw_slen {b9 L : Nat} {xs : Nat → Int32} (hd : decode J.2.1 pc = .ok (.arraylength, 1)) (he : X = some (b9, L, xs)) (h : AW l D b J R X FQ (pc + 1) ls (.int (Int32.ofNat L) :: st) N V k n) : AW l D b J R X FQ pc ls (.ref b9 :: st) N V k n := by
  intro p e s m args below meth c H locs arr hC hL hA hS
  obtain ⟨hx, hb, hr, hml, hown, hts, hlk, hnm, hK, hsz, hX, hNS, hEn⟩ := id hC
  obtain ⟨x1, x2, x3⟩ := hX b9 L xs he
  exact va_slen hx hb x1 x2 x3 hS hd (h p e s m args below meth c H locs arr hC hL hA hS)
theorem aw_new {ci idx : Nat} {fs : List Value} (hd : decode J.2.1 pc = .ok (.new idx, 3)) (hn : fx_nw J.1.cls idx ci fs) (hk1 : k + 1 ≤ R.cells) (hs1 : n + fs.length ≤ R.slots) (h : AW l D b J R X FQ (pc + 3) ls (.ref (b + N) :: st) (N + 1) (va_up V N (cO ci fs)) (k + 1) (n + fs.length)) : AW l D b J R X FQ pc ls st N V k n := by
  intro p e s m args below meth c H locs arr hC hL hA hS
  obtain ⟨hx, hb, hr, hml, hown, hts, hlk, hnm, hK, hsz, hX, hNS, hEn⟩ := id hC
  obtain ⟨C, T, N9, ty, hc, hin, hty, h1, h2, h3, h4, h5⟩ := hn
  subst h5
  have hin' : ∀ w ∈ u_ws C T fs.length, w ∈ fx_ws J := fun w hw => List.mem_cons_of_mem _ (hin w hw)
  have hKn := hK.1 ci _ hc
  refine W.newcK hx hb hown (hts _ (List.mem_cons_of_mem _ h1)) (hts _ (List.mem_cons_of_mem _ h2)) (hts _ (List.mem_cons_of_mem _ h3)) rfl hd hk1 hs1 hKn.2.1 rfl fun H1 kC hkC e1 z1 o1 => ?_
  have hsz := hA.1
  rw [hsz] at e1 ⊢
  exact h p e s m args below meth c H1 locs arr hC hL (hA.push ⟨_, hc, (u_born ty hts hin' hKn hkC e1 hty).to h4⟩ z1 o1) ⟨Nat.le_trans hS.1 (by omega), fun x g1 g2 => (o1 x (Nat.lt_of_lt_of_le g1 hS.1)).trans (hS.2.1 x g1 g2), hS.2.2⟩
theorem aw_newaI {len : Int32} {n9 : Nat} (hd : decode J.2.1 pc = .ok (.newarray .int, 2)) (hw : Cond.arrayClass .int ∈ fx_TB) (h0 : ¬ len < 0) (hN : len.toNatClampNeg = n9) (hb9 : n9 * 8 ≤ 536870912) (hk1 : k + 1 ≤ R.cells) (hs1 : n + n9 ≤ R.slots) (h : AW l D b J R X FQ (pc + 2) ls (.ref (b + N) :: st) (N + 1) (va_up V N (cI D n9 (fun _ => 0))) (k + 1) (n + n9)) : AW l D b J R X FQ pc ls (.int len :: st) N V k n := by
  intro p e s m args below meth c H locs arr hC hL hA hS
  obtain ⟨hx, hb, hr, hml, hown, hts, hlk, hnm, hK, hsz, hX, hNS, hEn⟩ := id hC
  have hsz := hA.1
  refine va_newaK (atype := .int) hx hb (hts _ (List.mem_cons_of_mem _ hw)) rfl hd rfl h0 hN (by simp [componentBytes, newarray.typeOf]; omega) hk1 hs1 hsz fun H1 cA e1 z1 o1 hAr hNm => ?_
  have e2 := (hK.2 0 _ rfl).2
  have e3 : some cA = some (D.1 100) := hNm.symm.trans e2
  cases e3
  refine h p e s m args below meth c H1 locs arr hC hL (hA.push ?_ (by omega) (fun q hq => o1 q (by omega))) ⟨Nat.le_trans hS.1 (by omega), fun x g1 g2 => (o1 x (by have := Nat.lt_of_lt_of_le g1 hS.1; omega)).trans (hS.2.1 x g1 g2), hS.2.2⟩
  exact e1
theorem aw_newaJ {len : Int32} {n9 : Nat} (hd : decode J.2.1 pc = .ok (.newarray .long, 2)) (hw : Cond.arrayClass .long ∈ fx_TB) (h0 : ¬ len < 0) (hN : len.toNatClampNeg = n9) (hb9 : n9 * 8 ≤ 536870912) (hk1 : k + 1 ≤ R.cells) (hs1 : n + n9 ≤ R.slots) (h : AW l D b J R X FQ (pc + 2) ls (.ref (b + N) :: st) (N + 1) (va_up V N (cJ D n9 (fun _ => 0))) (k + 1) (n + n9)) : AW l D b J R X FQ pc ls (.int len :: st) N V k n := by
  intro p e s m args below meth c H locs arr hC hL hA hS
  obtain ⟨hx, hb, hr, hml, hown, hts, hlk, hnm, hK, hsz, hX, hNS, hEn⟩ := id hC
  have hsz := hA.1
  refine va_newaK (atype := .long) hx hb (hts _ (List.mem_cons_of_mem _ hw)) rfl hd rfl h0 hN (by simp [componentBytes, newarray.typeOf]; omega) hk1 hs1 hsz fun H1 cA e1 z1 o1 hAr hNm => ?_
  have e2 := (hK.2 1 _ rfl).2
  have e3 : some cA = some (D.1 101) := hNm.symm.trans e2
  cases e3
  refine h p e s m args below meth c H1 locs arr hC hL (hA.push ?_ (by omega) (fun q hq => o1 q (by omega))) ⟨Nat.le_trans hS.1 (by omega), fun x g1 g2 => (o1 x (by have := Nat.lt_of_lt_of_le g1 hS.1; omega)).trans (hS.2.1 x g1 g2), hS.2.2⟩
  exact e1
theorem aw_newaB {len : Int32} {n9 : Nat} (hd : decode J.2.1 pc = .ok (.newarray .byte, 2)) (hw : Cond.arrayClass .byte ∈ fx_TB) (h0 : ¬ len < 0) (hN : len.toNatClampNeg = n9) (hb9 : n9 * 8 ≤ 536870912) (hk1 : k + 1 ≤ R.cells) (hs1 : n + n9 ≤ R.slots) (h : AW l D b J R X FQ (pc + 2) ls (.ref (b + N) :: st) (N + 1) (va_up V N (cB D n9 (fun _ => 0))) (k + 1) (n + n9)) : AW l D b J R X FQ pc ls (.int len :: st) N V k n := by
  intro p e s m args below meth c H locs arr hC hL hA hS
  obtain ⟨hx, hb, hr, hml, hown, hts, hlk, hnm, hK, hsz, hX, hNS, hEn⟩ := id hC
  have hsz := hA.1
  refine va_newaK (atype := .byte) hx hb (hts _ (List.mem_cons_of_mem _ hw)) rfl hd rfl h0 hN (by simp [componentBytes, newarray.typeOf]; omega) hk1 hs1 hsz fun H1 cA e1 z1 o1 hAr hNm => ?_
  have e2 := (hK.2 2 _ rfl).2
  have e3 : some cA = some (D.1 102) := hNm.symm.trans e2
  cases e3
  refine h p e s m args below meth c H1 locs arr hC hL (hA.push ?_ (by omega) (fun q hq => o1 q (by omega))) ⟨Nat.le_trans hS.1 (by omega), fun x g1 g2 => (o1 x (by have := Nat.lt_of_lt_of_le g1 hS.1; omega)).trans (hS.2.1 x g1 g2), hS.2.2⟩
  exact e1
theorem aw_newaZ {len : Int32} {n9 : Nat} (hd : decode J.2.1 pc = .ok (.newarray .boolean, 2)) (hw : Cond.arrayClass .boolean ∈ fx_TB) (h0 : ¬ len < 0) (hN : len.toNatClampNeg = n9) (hb9 : n9 * 8 ≤ 536870912) (hk1 : k + 1 ≤ R.cells) (hs1 : n + n9 ≤ R.slots) (h : AW l D b J R X FQ (pc + 2) ls (.ref (b + N) :: st) (N + 1) (va_up V N (cZ D n9 (fun _ => 0))) (k + 1) (n + n9)) : AW l D b J R X FQ pc ls (.int len :: st) N V k n := by
  intro p e s m args below meth c H locs arr hC hL hA hS
  obtain ⟨hx, hb, hr, hml, hown, hts, hlk, hnm, hK, hsz, hX, hNS, hEn⟩ := id hC
  have hsz := hA.1
  refine va_newaK (atype := .boolean) hx hb (hts _ (List.mem_cons_of_mem _ hw)) rfl hd rfl h0 hN (by simp [componentBytes, newarray.typeOf]; omega) hk1 hs1 hsz fun H1 cA e1 z1 o1 hAr hNm => ?_
  have e2 := (hK.2 3 _ rfl).2
  have e3 : some cA = some (D.1 103) := hNm.symm.trans e2
  cases e3
  refine h p e s m args below meth c H1 locs arr hC hL (hA.push ?_ (by omega) (fun q hq => o1 q (by omega))) ⟨Nat.le_trans hS.1 (by omega), fun x g1 g2 => (o1 x (by have := Nat.lt_of_lt_of_le g1 hS.1; omega)).trans (hS.2.1 x g1 g2), hS.2.2⟩
  exact e1
theorem aw_mna {idx : Nat} {rn ck : Int32} {N9 K9 : Nat} (hd : decode J.2.1 pc = .ok (.multianewarray idx 2, 4)) (hw : Cond.arrayClass .int ∈ fx_TB) (hv : Cond.arrayOver (.array .int) ∈ fx_NW) (hcl : Cond.classLink J.1.cls idx "[[I" ∈ fx_TB) (h0 : ¬ rn < 0) (h1 : ¬ ck < 0) (hN : rn.toNatClampNeg = N9) (hM : ck.toNatClampNeg = K9) (hb1 : N9 * 4 ≤ 536870912) (hb2 : K9 * 4 ≤ 536870912) (hk1 : k + (1 + N9) ≤ R.cells) (hs1 : n + (N9 + N9 * K9) ≤ R.slots) (h : AW l D b J R X FQ (pc + 4) ls (.ref (b + N) :: st) (N + (1 + N9)) (fun i => if i = N then cR D N9 (fun j => if j < N9 then some (b + (N + 1 + j)) else none) else if N < i ∧ i < N + (1 + N9) then cI D K9 (fun _ => 0) else V i) (k + 1 + N9) (n + N9 + N9 * K9)) : AW l D b J R X FQ pc ls (.int ck :: .int rn :: st) N V k n := by
  intro p e s m args below meth c H locs arr hC hL hA hS
  obtain ⟨hx, hb, hr, hml, hown, hts, hlk, hnm, hK, hsz, hX, hNS, hEn⟩ := id hC
  subst hN
  subst hM
  intro T hT Xs
  obtain ⟨vm₁, cA, comp, -, fA, fC, hO, -, X', step⟩ := Xs.multianewarray2F hx (ty := .int) hown (hts _ (List.mem_cons_of_mem _ hcl)) (hNS.use hv) (hts _ (List.mem_cons_of_mem _ hw)) (g := F0 m pc arr (.int ck :: .int rn :: st)) rfl (by rw [hb]; exact hd) rfl h0 h1 hb1 hb2 (by omega) rfl rfl hk1 hs1
  have e2 := (hK.2 4 _ rfl).2
  have e3 : some cA = some (D.1 104) := fA.symm.trans e2
  cases e3
  have e4 := (hK.2 0 _ rfl).2
  have e5 : some comp = some (D.1 100) := fC.symm.trans e4
  cases e5
  generalize hF : Jvm.Free.Multi.fill (T.setVm vm₁) (D.1 104) (D.1 100) rn.toNatClampNeg ck.toNatClampNeg (defaultValue .int) rn.toNatClampNeg = F at X' step
  have hTh : (T.setVm vm₁).heap = H := hT
  obtain ⟨f1, f2, -, -⟩ := Jvm.Free.Multi.fill_facts (T.setVm vm₁) (D.1 104) (D.1 100) rn.toNatClampNeg ck.toNatClampNeg (defaultValue .int) rn.toNatClampNeg
  rw [hF, hTh] at f1 f2
  have hold : ∀ x : Nat, x < H.size → F.heap[x]? = H[x]? := fun x hx => by
    have := Jvm.Free.Multi.fill_old (T.setVm vm₁) (D.1 104) (D.1 100) rn.toNatClampNeg ck.toNatClampNeg (defaultValue .int) (a := x) (by rw [hTh]; exact hx) rn.toNatClampNeg
    rw [hF, hTh] at this
    exact this
  have hrow : ∀ j : Nat, j < rn.toNatClampNeg → F.heap[H.size + 1 + j]? = some (vp_cell (D.1 100) (ck.toNatClampNeg, .inl (fun _ => 0))) := fun j hj => by
    have := Jvm.Free.Multi.fill_inner (T.setVm vm₁) (D.1 104) (D.1 100) rn.toNatClampNeg ck.toNatClampNeg (defaultValue .int) rn.toNatClampNeg j hj
    rw [hF, hTh] at this
    rw [this, vp_cell_i, ← arrV_new]
    rfl
  have hout : Jvm.Free.Multi.outerC (D.1 104) rn.toNatClampNeg H.size rn.toNatClampNeg = vp_cell (D.1 104) (rn.toNatClampNeg, .inr (.inr (.inr (.inr (fun i => if i < rn.toNatClampNeg then some (H.size + 1 + i) else none))))) := by
    rw [vp_cell_q]
    exact vr_outer (D.1 104) rn.toNatClampNeg H.size rn.toNatClampNeg
  rw [hout] at f2
  have hsz := hA.1
  have hA2 : VA D b (N + (1 + rn.toNatClampNeg)) (fun i => if i = N then cR D rn.toNatClampNeg (fun j => if j < rn.toNatClampNeg then some (b + (N + 1 + j)) else none) else if N < i ∧ i < N + (1 + rn.toNatClampNeg) then cI D ck.toNatClampNeg (fun _ => 0) else V i) F.heap := by
    refine ⟨by rw [f1]; omega, fun i hi => ?_⟩
    by_cases c1 : i = N
    · subst c1
      simp only [if_pos rfl]
      show F.heap[b + i]? = _
      rw [← hsz, f2]
      refine congrArg some (congrArg _ ?_)
      refine congrArg (fun z => ((rn.toNatClampNeg, .inr (.inr (.inr (.inr z)))) : vp_A)) ?_
      funext j
      rw [hsz]
      by_cases hj : j < rn.toNatClampNeg
      · rw [if_pos hj, if_pos hj]; exact congrArg some (by omega)
      · rw [if_neg hj, if_neg hj]
    · by_cases c2 : N < i ∧ i < N + (1 + rn.toNatClampNeg)
      · simp only [if_neg c1, if_pos c2]
        show F.heap[b + i]? = _
        have := hrow (i - N - 1) (by omega)
        rw [show H.size + 1 + (i - N - 1) = b + i by omega] at this
        exact this
      · simp only [if_neg c1, if_neg c2]
        exact (hA.2 i (by omega)).kept (hold (b + i) (by show b + i < _; omega))
  obtain ⟨t, a1, b1⟩ := h p e s m args below meth c F.heap locs arr hC hL hA2 ⟨by rw [f1]; have := hS.1; omega, fun x h1 h2 => (hold x (Nat.lt_of_lt_of_le h1 hS.1)).trans (hS.2.1 x h1 h2), hS.2.2⟩ F rfl X'
  refine ⟨t, step t ?_, b1⟩
  have e : T.heap.size = b + N := by rw [hT]; exact hsz
  rw [e]
  exact a1
/-! calls -/
theorem fx_call {s : State} {p : Program} {e : Env} {m : MethodId} {args : Array Value} {below : List Frame} {meth : Method} {c : Code} {H : Heap} {locs : List Loc} {arr : Array Slot} {Qw : State → Prop} {Q : Option Value → Nat → Wd → Prop} {mc ms : Nat} {st0 rest : List Value} {a : Array Value}
    (hr : va_Run p l e R s m args below meth c H locs k n mc ms (F0 m pc arr st0) rest (fx_Q D b Q a) (fun q => b ≤ q)) (hS : va_S (fun q => b ≤ q) s.heap H locs)
    (kk : ∀ (v : Option Value) (N' : Nat) (V' : Wd), Q v N' V' → ∀ (H1 : Heap) (locs1 : List Loc), VA D b N' V' H1 → va_S (fun q => b ≤ q) s.heap H1 locs1 → Jvm.Pilot.@@N@@.W p l e R s m args below meth c H1 locs1 (k + mc) (n + ms) Qw (F0 m (pc + 3) arr (v.toList ++ rest))) : Jvm.Pilot.@@N@@.W p l e R s m args below meth c H locs k n Qw (F0 m pc arr st0) := by
  intro T hT X
  obtain ⟨v, st₀, t, T', L, h0, X', hL, e1, e2, ⟨⟨r, N', V', hv, hp, hb⟩, hz, hk⟩, st⟩ := hr T hT X
  cases hv
  rw [h0] at hz hk
  obtain ⟨t2, a1, b1⟩ := kk v N' V' hp T'.heap (locs ++ L) (by rw [e1]; exact hb)
    ⟨Nat.le_trans hS.1 (by rw [e1]; exact hz), fun q h1 h2 => by rw [e1, hk q (Nat.lt_of_lt_of_le h1 hS.1) h2]; exact hS.2.1 q h1 h2, fun q hq => by
      rcases List.mem_append.mp hq with h | h
      · exact hS.2.2 q h
      · exact hL q h⟩ T' rfl X'
  exact ⟨t2, st t2 a1, b1⟩
theorem fx_goodIn {J J' : Md} (hc : Cond.code J'.1 J'.2.1 J'.2.2.1 J'.2.2.2 ∈ fx_TB) {xs : List Cond} (hx : ∀ w ∈ xs, w ∈ fx_TB) : GoodIn (fx_ws J) (xs ++ fx_ws J') := by
  intro w hw
  have : w ∈ fx_TB := by
    rcases List.mem_append.mp hw with h | h
    · exact hx w h
    · rcases List.mem_cons.mp h with h | h
      · subst h; exact hc
      · exact h
  exact ⟨List.mem_cons_of_mem _ this, fx_good this⟩
theorem fx_blind {av : List Value} : FrameBlind (fx_P D b av N V) := fun a U g mk q => by
  obtain ⟨q0, q2, q3, q4, q5⟩ := q
  exact ⟨q0, va_K.moved (u := U) (U := U.calling g mk a) (Vm.Alike.refl U.vm) q2, q3, q4.same (u := U) (U := U.calling g mk a) rfl, q5.same (u := U) (U := U.calling g mk a) rfl rfl⟩
theorem fx_pre {s : State} {H : Heap} {av : List Value} (hK : va_K D vwCl (fx_ty D) s) (hA : VA D b N V H) (hNS : fx_NS s) (hEn : fx_E b s) {locs : List Loc} (hS : va_S (fun q => b ≤ q) s.heap H locs) : ∀ U : State, U.heap = H → s.WarmedH U.vm → fx_P D b av N V av.toArray U := fun U hU hW => ⟨rfl, va_K.moved hW.alike hK, (by rw [hU]; exact hA), hNS.warm hW, hEn.to hW (by rw [hU]; exact hS)⟩
def fx_ok (J' : Md) (n : Nat) : Prop := Cond.code J'.1 J'.2.1 J'.2.2.1 J'.2.2.2 ∈ fx_TB ∧ Cond.initialized J'.1.cls ∈ fx_TB ∧ (J'.1.cls ≠ "java/lang/invoke/MethodHandle" ∧ J'.1.cls ≠ "java/lang/invoke/VarHandle" ∧ (parseMethodDescriptor J'.1.desc).map (fun d => d.parameters.length) = some n)
def fx_okV (J' : Md) (n : Nat) : Prop := fx_ok J' n ∧ Cond.instanceMethod J'.1 ∈ fx_TB ∧ Cond.selects J'.1.cls J'.1 J'.1 ∈ fx_TB
def fx_okS (J' : Md) (n : Nat) : Prop := fx_ok J' n ∧ Cond.static J'.1 ∈ fx_TB
def fx_okI (J' : Md) (n : Nat) : Prop := fx_ok J' n ∧ J'.1.name = "<init>" ∧ Cond.instanceMethod J'.1 ∈ fx_TB ∧ J'.2.2.2 = none
/-- the room that a call wants -/
def fx_rc (R : Room) (J' : Md) (d k n mc ms : Nat) : Prop := d + 2 ≤ R.frames ∧ 19 + J'.2.2.1 + 64 * (d + 1) ≤ R.locals ∧ k + mc ≤ R.cells ∧ n + ms ≤ R.slots
theorem aw_callV {J' : Md} {idx nn d mc ms : Nat} {As st0 : List Value} {Q : Option Value → Nat → Wd → Prop} {i ci : Nat} (hd : decode J.2.1 pc = .ok (.invokevirtual idx, 3)) (hl : Cond.methodLink J.1.cls idx J'.1 ∈ fx_TB) (hv : fx_okV J' nn) (he : ∃ fs, V i = cO ci fs) (hi : i < N) (hc : (vwCl[ci]?).map (·.1) = some J'.1.cls) (hst : st0 = As.reverse ++ .ref (b + i) :: st) (hcall : MW l D b d J' (.ref (b + i) :: As) N V mc ms Q) (hn : As.length = nn) (hW : (st.map fun v => v.category).sum ≤ 8) (hrc : fx_rc R J' d k n mc ms) (h : ∀ (v : Option Value) (N' : Nat) (V' : Wd), Q v N' V' → AW l D b J R X FQ (pc + 3) ls (v.toList ++ st) N' V' (k + mc) (n + ms)) : AW l D b J R X FQ pc ls st0 N V k n := by
  intro p e s m args below meth c H locs arr hC hL hA hS
  obtain ⟨hx, hb, hr, hml, hown, hts, hlk, hnm, hK, hsz, hX, hNS, hEn⟩ := id hC
  obtain ⟨⟨g1, g2, g3⟩, g4, g5⟩ := hv
  obtain ⟨fs, he⟩ := he
  subst hst
  have hT : GoodIn (fx_ws J) (wsV J.1.cls idx J'.1.cls J'.1 (fx_ws J')) := fx_goodIn g1 (fun w hw => by
    simp only [List.mem_cons, List.not_mem_nil, or_false] at hw
    rcases hw with rfl | rfl | rfl | rfl
    · exact hl
    · exact g4
    · exact g5
    · exact g2)
  obtain ⟨q9, hq9, hq8⟩ : ∃ q9, vwCl[ci]? = some q9 ∧ q9.1 = J'.1.cls := by
    cases hx9 : vwCl[ci]? with
    | none => rw [hx9] at hc; cases hc
    | some q9 => rw [hx9] at hc; exact ⟨q9, rfl, Option.some.inj hc⟩
  have hrecv := va_recv (q0 := 0) hK (va_one hA hi he) hq9 rfl
  rw [hq8] at hrecv
  exact fx_call (va_runV (As := As) (rest := st) ⟨hx, hb, hml, hown, hts⟩ hcall (cwV nn hts hT rfl rfl rfl ⟨rfl, g3⟩ ⟨hrc.1, by have := hrc.2.1; show 8 + (J'.2.2.1 + 11) + 64 * (d + 1) ≤ _; omega⟩) ⟨fx_blind, hrecv, fx_pre hK hA hNS hEn hS⟩ rfl hn hL.1 rfl (lv_room hW) hd hrc.2.2) hS (fun v N' V' hq H1 locs1 hA1 hS1 => h v N' V' hq p e s m args below meth c H1 locs1 arr hC hL hA1 hS1)
theorem aw_callS {J' : Md} {idx nn d mc ms : Nat} {As st0 : List Value} {Q : Option Value → Nat → Wd → Prop} (hd : decode J.2.1 pc = .ok (.invokestatic idx, 3)) (hl : Cond.methodLink J.1.cls idx J'.1 ∈ fx_TB) (hv : fx_okS J' nn) (hst : st0 = As.reverse ++ st) (hcall : MW l D b d J' (As) N V mc ms Q) (hn : As.length = nn) (hW : (st.map fun v => v.category).sum ≤ 8) (hrc : fx_rc R J' d k n mc ms) (h : ∀ (v : Option Value) (N' : Nat) (V' : Wd), Q v N' V' → AW l D b J R X FQ (pc + 3) ls (v.toList ++ st) N' V' (k + mc) (n + ms)) : AW l D b J R X FQ pc ls st0 N V k n := by
  intro p e s m args below meth c H locs arr hC hL hA hS
  obtain ⟨hx, hb, hr, hml, hown, hts, hlk, hnm, hK, hsz, hX, hNS, hEn⟩ := id hC
  obtain ⟨⟨g1, g2, g3⟩, g4⟩ := hv
  subst hst
  exact fx_call (va_runS (As := As) (rest := st) ⟨hx, hb, hml, hown, hts⟩ hcall ⟨callB_of nn hts (fx_goodIn (xs := []) g1 (fun w hw => by cases hw)) rfl rfl rfl (hts _ (List.mem_cons_of_mem _ g2)) (hts _ (List.mem_cons_of_mem _ hl)) g3 ⟨hrc.1, by have := hrc.2.1; show 8 + (J'.2.2.1 + 11) + 64 * (d + 1) ≤ _; omega⟩, hts _ (List.mem_cons_of_mem _ g4)⟩ ⟨fx_blind, fx_pre hK hA hNS hEn hS⟩ rfl hn hL.1 rfl (lv_room hW) hd hrc.2.2) hS (fun v N' V' hq H1 locs1 hA1 hS1 => h v N' V' hq p e s m args below meth c H1 locs1 arr hC hL hA1 hS1)
theorem aw_callSN {J' : Md} {idx nn d mc ms : Nat} {As st0 : List Value} {Q : Option Value → Nat → Wd → Prop} {host : String} (hd : decode J.2.1 pc = .ok (.invokestatic idx, 3)) (hl : Cond.methodLinkNest J.1.cls idx J'.1 host ∈ fx_NW) (hv : fx_okS J' nn) (hst : st0 = As.reverse ++ st) (hcall : MW l D b d J' (As) N V mc ms Q) (hn : As.length = nn) (hW : (st.map fun v => v.category).sum ≤ 8) (hrc : fx_rc R J' d k n mc ms) (h : ∀ (v : Option Value) (N' : Nat) (V' : Wd), Q v N' V' → AW l D b J R X FQ (pc + 3) ls (v.toList ++ st) N' V' (k + mc) (n + ms)) : AW l D b J R X FQ pc ls st0 N V k n := by
  intro p e s m args below meth c H locs arr hC hL hA hS
  obtain ⟨hx, hb, hr, hml, hown, hts, hlk, hnm, hK, hsz, hX, hNS, hEn⟩ := id hC
  obtain ⟨⟨g1, g2, g3⟩, g4⟩ := hv
  subst hst
  exact fx_call (va_runSN (As := As) (rest := st) ⟨hx, hb, hml, hown, hts⟩ hcall ⟨va_cnB nn hts (fx_goodIn (xs := []) g1 (fun w hw => by cases hw)) rfl rfl rfl (hNS _ hl) (hts _ (List.mem_cons_of_mem _ g2)) g3 ⟨hrc.1, by have := hrc.2.1; show 8 + (J'.2.2.1 + 11) + 64 * (d + 1) ≤ _; omega⟩, hts _ (List.mem_cons_of_mem _ g4), trivial⟩ ⟨fx_blind, fx_pre hK hA hNS hEn hS⟩ rfl hn hL.1 rfl (lv_room hW) hd hrc.2.2) hS (fun v N' V' hq H1 locs1 hA1 hS1 => h v N' V' hq p e s m args below meth c H1 locs1 arr hC hL hA1 hS1)
theorem aw_callI {y9 : MethodName} {c9 : ByteArray} {n9 : Nat} {idx nn d mc ms b9 : Nat} {As st0 : List Value} {Q : Option Value → Nat → Wd → Prop} (hd : decode J.2.1 pc = .ok (.invokespecial idx, 3)) (hl : Cond.methodLink J.1.cls idx y9 ∈ fx_TB) (hv : fx_okI (y9, c9, n9, none) nn) (hst : st0 = As.reverse ++ .ref b9 :: st) (hcall : MW l D b d (y9, c9, n9, none) (.ref b9 :: As) N V mc ms Q) (hn : As.length = nn) (hW : (st.map fun v => v.category).sum ≤ 8) (hrc : fx_rc R (y9, c9, n9, none) d k n mc ms) (h : ∀ (v : Option Value) (N' : Nat) (V' : Wd), Q v N' V' → AW l D b J R X FQ (pc + 3) ls (v.toList ++ st) N' V' (k + mc) (n + ms)) : AW l D b J R X FQ pc ls st0 N V k n := by
  intro p e s m args below meth c H locs arr hC hL hA hS
  obtain ⟨hx, hb, hr, hml, hown, hts, hlk, hnm, hK, hsz, hX, hNS, hEn⟩ := id hC
  obtain ⟨⟨g1, g2, g3⟩, g4, g5, -⟩ := hv
  subst hst
  exact fx_call (va_runI (As := As) (rest := st) ⟨hx, hb, hml, hown, hts⟩ hcall ⟨callB_of nn hts (fx_goodIn (J' := (y9, c9, n9, none)) (xs := []) g1 (fun w hw => by cases hw)) rfl rfl rfl (hts _ (List.mem_cons_of_mem _ g2)) (hts _ (List.mem_cons_of_mem _ hl)) g3 ⟨hrc.1, by have h9 : 19 + n9 + 64 * (d + 1) ≤ _ := hrc.2.1; show 8 + (n9 + 11) + 64 * (d + 1) ≤ _; omega⟩, g4, hts _ (List.mem_cons_of_mem _ g5)⟩ ⟨fx_blind, fx_pre hK hA hNS hEn hS⟩ rfl hn hL.1 rfl (lv_room hW) hd hrc.2.2) hS (fun v N' V' hq H1 locs1 hA1 hS1 => h v N' V' hq p e s m args below meth c H1 locs1 arr hC hL hA1 hS1)
theorem aw_callIN {y9 : MethodName} {c9 : ByteArray} {n9 : Nat} {idx nn d mc ms b9 : Nat} {host : String} {As st0 : List Value} {Q : Option Value → Nat → Wd → Prop} (hd : decode J.2.1 pc = .ok (.invokespecial idx, 3)) (hl : Cond.methodLinkNest J.1.cls idx y9 host ∈ fx_NW) (hv : fx_okI (y9, c9, n9, none) nn) (hst : st0 = As.reverse ++ .ref b9 :: st) (hcall : MW l D b d (y9, c9, n9, none) (.ref b9 :: As) N V mc ms Q) (hn : As.length = nn) (hW : (st.map fun v => v.category).sum ≤ 8) (hrc : fx_rc R (y9, c9, n9, none) d k n mc ms) (h : ∀ (v : Option Value) (N' : Nat) (V' : Wd), Q v N' V' → AW l D b J R X FQ (pc + 3) ls (v.toList ++ st) N' V' (k + mc) (n + ms)) : AW l D b J R X FQ pc ls st0 N V k n := by
  intro p e s m args below meth c H locs arr hC hL hA hS
  obtain ⟨hx, hb, hr, hml, hown, hts, hlk, hnm, hK, hsz, hX, hNS, hEn⟩ := id hC
  obtain ⟨⟨g1, g2, g3⟩, g4, g5, -⟩ := hv
  subst hst
  exact fx_call (va_runIN (As := As) (rest := st) ⟨hx, hb, hml, hown, hts⟩ hcall ⟨va_cnB nn hts (fx_goodIn (J' := (y9, c9, n9, none)) (xs := []) g1 (fun w hw => by cases hw)) rfl rfl rfl (hNS _ hl) (hts _ (List.mem_cons_of_mem _ g2)) g3 ⟨hrc.1, by have h9 : 19 + n9 + 64 * (d + 1) ≤ _ := hrc.2.1; show 8 + (n9 + 11) + 64 * (d + 1) ≤ _; omega⟩, g4, hts _ (List.mem_cons_of_mem _ g5)⟩ ⟨fx_blind, fx_pre hK hA hNS hEn hS⟩ rfl hn hL.1 rfl (lv_room hW) hd hrc.2.2) hS (fun v N' V' hq H1 locs1 hA1 hS1 => h v N' V' hq p e s m args below meth c H1 locs1 arr hC hL hA1 hS1)
theorem aw_objInit {idx b9 : Nat} (hd : decode J.2.1 pc = .ok (.invokespecial idx, 3)) (hl : Cond.methodLink J.1.cls idx objectInit ∈ fx_TB) (hi : Cond.instanceMethod objectInit ∈ fx_TB) (hc : Cond.code objectInit ⟨#[0xb1]⟩ 1 none ∈ fx_TB) (hR : 1 ≤ R.frames ∧ (st.map fun v => v.category).sum + 12 ≤ R.locals) (h : AW l D b J R X FQ (pc + 3) ls st N V k n) : AW l D b J R X FQ pc ls (.ref b9 :: st) N V k n := by
  intro p e s m args below meth c H locs arr hC hL hA hS
  obtain ⟨hx, hb, hr, hml, hown, hts, hlk, hnm, hK, hsz, hX, hNS, hEn⟩ := id hC
  refine W.objInit hx hb hown (hts _ (List.mem_cons_of_mem _ hl)) (hts _ (List.mem_cons_of_mem _ hi)) (hts _ (List.mem_cons_of_mem _ hc)) rfl (by rw [hml]; exact hL.1) rfl hd hR.1 (by have := hR.2; show 2 * 0 + _ + 12 ≤ _; omega) ?_
  exact h p e s m args below meth c H locs arr hC hL hA hS
theorem aw_mmax {idx : Nat} {x y : Int32} (hd : decode J.2.1 pc = .ok (.invokestatic idx, 3)) (hl : Cond.methodLink J.1.cls idx Lib.Math.max.name ∈ fx_TB) (h1 : Cond.static Lib.Math.max.name ∈ fx_TB) (h2 : Cond.initialized "java/lang/Math" ∈ fx_TB) (h3 : Cond.code Lib.Math.max.name Lib.Math.max.code 2 (some .int) ∈ fx_TB) (hR : 1 ≤ R.frames ∧ (st.map fun v => v.category).sum + 13 ≤ R.locals ∧ k ≤ R.cells ∧ n ≤ R.slots) (h : AW l D b J R X FQ (pc + 3) ls (.int (if x < y then y else x) :: st) N V k n) : AW l D b J R X FQ pc ls (.int y :: .int x :: st) N V k n := by
  intro p e s m args below meth c H locs arr hC hL hA hS
  obtain ⟨hx, hb, hr, hml, hown, hts, hlk, hnm, hK, hsz, hX, hNS, hEn⟩ := id hC
  exact va_mmax hx hb (by rw [hml]; exact hL.1.symm) hown (hts _ (List.mem_cons_of_mem _ hl)) (hts _ (List.mem_cons_of_mem _ h1)) (hts _ (List.mem_cons_of_mem _ h2)) (hts _ (List.mem_cons_of_mem _ h3)) hR.1 hR.2.1 hR.2.2.1 hR.2.2.2 hd (h p e s m args below meth c H locs arr hC hL hA hS)
theorem aw_mmin {idx : Nat} {x y : Int32} (hd : decode J.2.1 pc = .ok (.invokestatic idx, 3)) (hl : Cond.methodLink J.1.cls idx Lib.Math.min.name ∈ fx_TB) (h1 : Cond.static Lib.Math.min.name ∈ fx_TB) (h2 : Cond.initialized "java/lang/Math" ∈ fx_TB) (h3 : Cond.code Lib.Math.min.name Lib.Math.min.code 2 (some .int) ∈ fx_TB) (hR : 1 ≤ R.frames ∧ (st.map fun v => v.category).sum + 13 ≤ R.locals ∧ k ≤ R.cells ∧ n ≤ R.slots) (h : AW l D b J R X FQ (pc + 3) ls (.int (if y < x then y else x) :: st) N V k n) : AW l D b J R X FQ pc ls (.int y :: .int x :: st) N V k n := by
  intro p e s m args below meth c H locs arr hC hL hA hS
  obtain ⟨hx, hb, hr, hml, hown, hts, hlk, hnm, hK, hsz, hX, hNS, hEn⟩ := id hC
  exact va_mmin hx hb (by rw [hml]; exact hL.1.symm) hown (hts _ (List.mem_cons_of_mem _ hl)) (hts _ (List.mem_cons_of_mem _ h1)) (hts _ (List.mem_cons_of_mem _ h2)) (hts _ (List.mem_cons_of_mem _ h3)) hR.1 hR.2.1 hR.2.2.1 hR.2.2.2 hd (h p e s m args below meth c H locs arr hC hL hA hS)
theorem aw_mabs {idx : Nat} {x : Int32} (hd : decode J.2.1 pc = .ok (.invokestatic idx, 3)) (hl : Cond.methodLink J.1.cls idx Lib.Math.abs.name ∈ fx_TB) (h1 : Cond.static Lib.Math.abs.name ∈ fx_TB) (h2 : Cond.initialized "java/lang/Math" ∈ fx_TB) (h3 : Cond.code Lib.Math.abs.name Lib.Math.abs.code 1 (some .int) ∈ fx_TB) (hR : 1 ≤ R.frames ∧ (st.map fun v => v.category).sum + 13 ≤ R.locals ∧ k ≤ R.cells ∧ n ≤ R.slots) (h : AW l D b J R X FQ (pc + 3) ls (.int (if 0 ≤ x then x else 0 - x) :: st) N V k n) : AW l D b J R X FQ pc ls (.int x :: st) N V k n := by
  intro p e s m args below meth c H locs arr hC hL hA hS
  obtain ⟨hx, hb, hr, hml, hown, hts, hlk, hnm, hK, hsz, hX, hNS, hEn⟩ := id hC
  exact va_mabs hx hb (by rw [hml]; exact hL.1.symm) hown (hts _ (List.mem_cons_of_mem _ hl)) (hts _ (List.mem_cons_of_mem _ h1)) (hts _ (List.mem_cons_of_mem _ h2)) (hts _ (List.mem_cons_of_mem _ h3)) hR.1 hR.2.1 hR.2.2.1 hR.2.2.2 hd (h p e s m args below meth c H locs arr hC hL hA hS)
end AWV
section AWR
variable {l : Launch} {D : va_G} {b : Nat} {J : Md} {R : Room} {X : Sc} {pc : Nat} {ls : List (Option Value)} {N : Nat} {V : Wd} {k n mc ms : Nat} {Q : Option Value → Nat → Wd → Prop}
theorem aw_ireturn {v : Int32} (hd : decode J.2.1 pc = .ok (.ireturn, 1)) (hr9 : J.2.2.2 = some .int) (hk : k ≤ mc) (hn : n ≤ ms) (hq : Q (some (.int v)) N V) : AW l D b J R X (fx_MQ D b mc ms Q) pc ls [.int v] N V k n := by
  intro p e s m args below meth c H locs arr hC hL hA hS
  obtain ⟨hx, hb, hr, hml, hown, hts, hlk, hnm, hK, hsz, hX, hNS, hEn⟩ := id hC
  exact W.widen hk hn (W.iret hx hb (hr.trans hr9) (fun t ht hW => ⟨⟨_, N, V, rfl, hq, by rw [ht]; exact hA⟩, hS.F ht⟩) hS.2.2 hd hlk)
theorem aw_lreturn {v : Int64} (hd : decode J.2.1 pc = .ok (.lreturn, 1)) (hr9 : J.2.2.2 = some .long) (hk : k ≤ mc) (hn : n ≤ ms) (hq : Q (some (.long v)) N V) : AW l D b J R X (fx_MQ D b mc ms Q) pc ls [.long v] N V k n := by
  intro p e s m args below meth c H locs arr hC hL hA hS
  obtain ⟨hx, hb, hr, hml, hown, hts, hlk, hnm, hK, hsz, hX, hNS, hEn⟩ := id hC
  exact W.widen hk hn (W.lret hx hb (hr.trans hr9) (fun t ht hW => ⟨⟨_, N, V, rfl, hq, by rw [ht]; exact hA⟩, hS.F ht⟩) hS.2.2 hd hlk)
theorem aw_vreturn  (hd : decode J.2.1 pc = .ok (.return_, 1)) (hr9 : J.2.2.2 = none) (hk : k ≤ mc) (hn : n ≤ ms) (hq : Q (none) N V) : AW l D b J R X (fx_MQ D b mc ms Q) pc ls [] N V k n := by
  intro p e s m args below meth c H locs arr hC hL hA hS
  obtain ⟨hx, hb, hr, hml, hown, hts, hlk, hnm, hK, hsz, hX, hNS, hEn⟩ := id hC
  exact W.widen hk hn (W.vret hx hb (hr.trans hr9) (fun t ht hW => ⟨⟨_, N, V, rfl, hq, by rw [ht]; exact hA⟩, hS.F ht⟩) hS.2.2 hd hlk)
theorem aw_zreturn {v : Int32} (hd : decode J.2.1 pc = .ok (.ireturn, 1)) (hr9 : J.2.2.2 = some .boolean) (hz : v = 0 ∨ v = 1) (hk : k ≤ mc) (hn : n ≤ ms) (hq : Q (some (.int v)) N V) : AW l D b J R X (fx_MQ D b mc ms Q) pc ls [.int v] N V k n := by
  intro p e s m args below meth c H locs arr hC hL hA hS
  obtain ⟨hx, hb, hr, hml, hown, hts, hlk, hnm, hK, hsz, hX, hNS, hEn⟩ := id hC
  exact W.widen hk hn (W.zret (ty := .boolean) hx hb (hr.trans hr9) (by rcases hz with rfl | rfl <;> rfl) (fun t ht hW => ⟨⟨_, N, V, rfl, hq, by rw [ht]; exact hA⟩, hS.F ht⟩) hS.2.2 hd hlk)
end AWR
def fx_qi (Q : Int32 → Nat → Wd → Prop) : Option Value → Nat → Wd → Prop := fun r N V => ∃ x : Int32, r = some (.int x) ∧ Q x N V
def fx_ql (Q : Int64 → Nat → Wd → Prop) : Option Value → Nat → Wd → Prop := fun r N V => ∃ x : Int64, r = some (.long x) ∧ Q x N V
def fx_qv (Q : Nat → Wd → Prop) : Option Value → Nat → Wd → Prop := fun r N V => r = none ∧ Q N V
abbrev MI (l : Launch) (D : va_G) (b d : Nat) (J : Md) (av : List Value) (N : Nat) (V : Wd) (mc ms : Nat) (Q : Int32 → Nat → Wd → Prop) : Prop := MW l D b d J av N V mc ms (fx_qi Q)
abbrev ML (l : Launch) (D : va_G) (b d : Nat) (J : Md) (av : List Value) (N : Nat) (V : Wd) (mc ms : Nat) (Q : Int64 → Nat → Wd → Prop) : Prop := MW l D b d J av N V mc ms (fx_ql Q)
abbrev MV (l : Launch) (D : va_G) (b d : Nat) (J : Md) (av : List Value) (N : Nat) (V : Wd) (mc ms : Nat) (Q : Nat → Wd → Prop) : Prop := MW l D b d J av N V mc ms (fx_qv Q)
/-- a counter that falls: -1 at 0, else one less -/
def fx_dn : Nat → Int32
  | 0 => -1
  | g + 1 => nI g
theorem fx_dn_1 (g : Nat) : nI g + Int32.ofInt (-1) = fx_dn g := by
  cases g with
  | zero => decide
  | succ g => exact (show nI (g + 1) + Int32.ofInt (-1) = nI (g + 1) - 1 by rw [show (Int32.ofInt (-1)) = -1 by decide, Int32.sub_eq_add_neg]).trans (nI_pred g)
theorem fx_up_1 (g : Nat) : nI g + Int32.ofInt 1 = nI (g + 1) := nI_1 g
section AWT
variable {l : Launch} {D : va_G} {b : Nat} {J : Md} {R : Room} {X : Sc} {FQ : Array Value → List Frame → State → State → Prop} {pc : Nat} {ls : List (Option Value)} {st : List Value} {N : Nat} {V : Wd} {k n : Nat}
theorem aw_callVi {J' : Md} {idx nn d mc ms : Nat} {As st0 : List Value} {i ci : Nat} {Q : Int32 → Nat → Wd → Prop} (hd : decode J.2.1 pc = .ok (.invokevirtual idx, 3)) (hl : Cond.methodLink J.1.cls idx J'.1 ∈ fx_TB) (hv : fx_okV J' nn) (he : ∃ fs, V i = cO ci fs) (hi : i < N) (hc : (vwCl[ci]?).map (·.1) = some J'.1.cls) (hst : st0 = As.reverse ++ .ref (b + i) :: st) (hcall : MW l D b d J' (.ref (b + i) :: As) N V mc ms (fx_qi Q)) (hn : As.length = nn) (hW : (st.map fun v => v.category).sum ≤ 8) (hrc : fx_rc R J' d k n mc ms) (h : ∀ (x : Int32) (N' : Nat) (V' : Wd), Q x N' V' → AW l D b J R X FQ (pc + 3) ls (.int x :: st) N' V' (k + mc) (n + ms)) : AW l D b J R X FQ pc ls st0 N V k n := aw_callV hd hl hv he hi hc hst hcall hn hW hrc (fun v N' V' hq => by obtain ⟨x, rfl, hq⟩ := hq; exact h x N' V' hq)
theorem aw_callVl {J' : Md} {idx nn d mc ms : Nat} {As st0 : List Value} {i ci : Nat} {Q : Int64 → Nat → Wd → Prop} (hd : decode J.2.1 pc = .ok (.invokevirtual idx, 3)) (hl : Cond.methodLink J.1.cls idx J'.1 ∈ fx_TB) (hv : fx_okV J' nn) (he : ∃ fs, V i = cO ci fs) (hi : i < N) (hc : (vwCl[ci]?).map (·.1) = some J'.1.cls) (hst : st0 = As.reverse ++ .ref (b + i) :: st) (hcall : MW l D b d J' (.ref (b + i) :: As) N V mc ms (fx_ql Q)) (hn : As.length = nn) (hW : (st.map fun v => v.category).sum ≤ 8) (hrc : fx_rc R J' d k n mc ms) (h : ∀ (x : Int64) (N' : Nat) (V' : Wd), Q x N' V' → AW l D b J R X FQ (pc + 3) ls (.long x :: st) N' V' (k + mc) (n + ms)) : AW l D b J R X FQ pc ls st0 N V k n := aw_callV hd hl hv he hi hc hst hcall hn hW hrc (fun v N' V' hq => by obtain ⟨x, rfl, hq⟩ := hq; exact h x N' V' hq)
theorem aw_callVv {J' : Md} {idx nn d mc ms : Nat} {As st0 : List Value} {i ci : Nat} {Q : Nat → Wd → Prop} (hd : decode J.2.1 pc = .ok (.invokevirtual idx, 3)) (hl : Cond.methodLink J.1.cls idx J'.1 ∈ fx_TB) (hv : fx_okV J' nn) (he : ∃ fs, V i = cO ci fs) (hi : i < N) (hc : (vwCl[ci]?).map (·.1) = some J'.1.cls) (hst : st0 = As.reverse ++ .ref (b + i) :: st) (hcall : MW l D b d J' (.ref (b + i) :: As) N V mc ms (fx_qv Q)) (hn : As.length = nn) (hW : (st.map fun v => v.category).sum ≤ 8) (hrc : fx_rc R J' d k n mc ms) (h : ∀ (N' : Nat) (V' : Wd), Q N' V' → AW l D b J R X FQ (pc + 3) ls st N' V' (k + mc) (n + ms)) : AW l D b J R X FQ pc ls st0 N V k n := aw_callV hd hl hv he hi hc hst hcall hn hW hrc (fun v N' V' hq => by obtain ⟨rfl, hq⟩ := hq; exact h N' V' hq)
theorem aw_callSi {J' : Md} {idx nn d mc ms : Nat} {As st0 : List Value} {Q : Int32 → Nat → Wd → Prop} (hd : decode J.2.1 pc = .ok (.invokestatic idx, 3)) (hl : Cond.methodLink J.1.cls idx J'.1 ∈ fx_TB) (hv : fx_okS J' nn) (hst : st0 = As.reverse ++ st) (hcall : MW l D b d J' (As) N V mc ms (fx_qi Q)) (hn : As.length = nn) (hW : (st.map fun v => v.category).sum ≤ 8) (hrc : fx_rc R J' d k n mc ms) (h : ∀ (x : Int32) (N' : Nat) (V' : Wd), Q x N' V' → AW l D b J R X FQ (pc + 3) ls (.int x :: st) N' V' (k + mc) (n + ms)) : AW l D b J R X FQ pc ls st0 N V k n := aw_callS hd hl hv hst hcall hn hW hrc (fun v N' V' hq => by obtain ⟨x, rfl, hq⟩ := hq; exact h x N' V' hq)
theorem aw_callSl {J' : Md} {idx nn d mc ms : Nat} {As st0 : List Value} {Q : Int64 → Nat → Wd → Prop} (hd : decode J.2.1 pc = .ok (.invokestatic idx, 3)) (hl : Cond.methodLink J.1.cls idx J'.1 ∈ fx_TB) (hv : fx_okS J' nn) (hst : st0 = As.reverse ++ st) (hcall : MW l D b d J' (As) N V mc ms (fx_ql Q)) (hn : As.length = nn) (hW : (st.map fun v => v.category).sum ≤ 8) (hrc : fx_rc R J' d k n mc ms) (h : ∀ (x : Int64) (N' : Nat) (V' : Wd), Q x N' V' → AW l D b J R X FQ (pc + 3) ls (.long x :: st) N' V' (k + mc) (n + ms)) : AW l D b J R X FQ pc ls st0 N V k n := aw_callS hd hl hv hst hcall hn hW hrc (fun v N' V' hq => by obtain ⟨x, rfl, hq⟩ := hq; exact h x N' V' hq)
theorem aw_callSv {J' : Md} {idx nn d mc ms : Nat} {As st0 : List Value} {Q : Nat → Wd → Prop} (hd : decode J.2.1 pc = .ok (.invokestatic idx, 3)) (hl : Cond.methodLink J.1.cls idx J'.1 ∈ fx_TB) (hv : fx_okS J' nn) (hst : st0 = As.reverse ++ st) (hcall : MW l D b d J' (As) N V mc ms (fx_qv Q)) (hn : As.length = nn) (hW : (st.map fun v => v.category).sum ≤ 8) (hrc : fx_rc R J' d k n mc ms) (h : ∀ (N' : Nat) (V' : Wd), Q N' V' → AW l D b J R X FQ (pc + 3) ls st N' V' (k + mc) (n + ms)) : AW l D b J R X FQ pc ls st0 N V k n := aw_callS hd hl hv hst hcall hn hW hrc (fun v N' V' hq => by obtain ⟨rfl, hq⟩ := hq; exact h N' V' hq)
theorem aw_callSNi {J' : Md} {idx nn d mc ms : Nat} {As st0 : List Value} {host : String} {Q : Int32 → Nat → Wd → Prop} (hd : decode J.2.1 pc = .ok (.invokestatic idx, 3)) (hl : Cond.methodLinkNest J.1.cls idx J'.1 host ∈ fx_NW) (hv : fx_okS J' nn) (hst : st0 = As.reverse ++ st) (hcall : MW l D b d J' (As) N V mc ms (fx_qi Q)) (hn : As.length = nn) (hW : (st.map fun v => v.category).sum ≤ 8) (hrc : fx_rc R J' d k n mc ms) (h : ∀ (x : Int32) (N' : Nat) (V' : Wd), Q x N' V' → AW l D b J R X FQ (pc + 3) ls (.int x :: st) N' V' (k + mc) (n + ms)) : AW l D b J R X FQ pc ls st0 N V k n := aw_callSN hd hl hv hst hcall hn hW hrc (fun v N' V' hq => by obtain ⟨x, rfl, hq⟩ := hq; exact h x N' V' hq)
theorem aw_callSNl {J' : Md} {idx nn d mc ms : Nat} {As st0 : List Value} {host : String} {Q : Int64 → Nat → Wd → Prop} (hd : decode J.2.1 pc = .ok (.invokestatic idx, 3)) (hl : Cond.methodLinkNest J.1.cls idx J'.1 host ∈ fx_NW) (hv : fx_okS J' nn) (hst : st0 = As.reverse ++ st) (hcall : MW l D b d J' (As) N V mc ms (fx_ql Q)) (hn : As.length = nn) (hW : (st.map fun v => v.category).sum ≤ 8) (hrc : fx_rc R J' d k n mc ms) (h : ∀ (x : Int64) (N' : Nat) (V' : Wd), Q x N' V' → AW l D b J R X FQ (pc + 3) ls (.long x :: st) N' V' (k + mc) (n + ms)) : AW l D b J R X FQ pc ls st0 N V k n := aw_callSN hd hl hv hst hcall hn hW hrc (fun v N' V' hq => by obtain ⟨x, rfl, hq⟩ := hq; exact h x N' V' hq)
theorem aw_callSNv {J' : Md} {idx nn d mc ms : Nat} {As st0 : List Value} {host : String} {Q : Nat → Wd → Prop} (hd : decode J.2.1 pc = .ok (.invokestatic idx, 3)) (hl : Cond.methodLinkNest J.1.cls idx J'.1 host ∈ fx_NW) (hv : fx_okS J' nn) (hst : st0 = As.reverse ++ st) (hcall : MW l D b d J' (As) N V mc ms (fx_qv Q)) (hn : As.length = nn) (hW : (st.map fun v => v.category).sum ≤ 8) (hrc : fx_rc R J' d k n mc ms) (h : ∀ (N' : Nat) (V' : Wd), Q N' V' → AW l D b J R X FQ (pc + 3) ls st N' V' (k + mc) (n + ms)) : AW l D b J R X FQ pc ls st0 N V k n := aw_callSN hd hl hv hst hcall hn hW hrc (fun v N' V' hq => by obtain ⟨rfl, hq⟩ := hq; exact h N' V' hq)
theorem aw_callIv {y9 : MethodName} {c9 : ByteArray} {n9 : Nat} {idx nn d mc ms b9 : Nat} {As st0 : List Value} {Q : Nat → Wd → Prop} (hd : decode J.2.1 pc = .ok (.invokespecial idx, 3)) (hl : Cond.methodLink J.1.cls idx y9 ∈ fx_TB) (hv : fx_okI (y9, c9, n9, none) nn) (hst : st0 = As.reverse ++ .ref b9 :: st) (hcall : MW l D b d (y9, c9, n9, none) (.ref b9 :: As) N V mc ms (fx_qv Q)) (hn : As.length = nn) (hW : (st.map fun v => v.category).sum ≤ 8) (hrc : fx_rc R (y9, c9, n9, none) d k n mc ms) (h : ∀ (N' : Nat) (V' : Wd), Q N' V' → AW l D b J R X FQ (pc + 3) ls st N' V' (k + mc) (n + ms)) : AW l D b J R X FQ pc ls st0 N V k n := aw_callI hd hl hv hst hcall hn hW hrc (fun v N' V' hq => by obtain ⟨rfl, hq⟩ := hq; exact h N' V' hq)
theorem aw_callINv {y9 : MethodName} {c9 : ByteArray} {n9 : Nat} {idx nn d mc ms b9 : Nat} {host : String} {As st0 : List Value} {Q : Nat → Wd → Prop} (hd : decode J.2.1 pc = .ok (.invokespecial idx, 3)) (hl : Cond.methodLinkNest J.1.cls idx y9 host ∈ fx_NW) (hv : fx_okI (y9, c9, n9, none) nn) (hst : st0 = As.reverse ++ .ref b9 :: st) (hcall : MW l D b d (y9, c9, n9, none) (.ref b9 :: As) N V mc ms (fx_qv Q)) (hn : As.length = nn) (hW : (st.map fun v => v.category).sum ≤ 8) (hrc : fx_rc R (y9, c9, n9, none) d k n mc ms) (h : ∀ (N' : Nat) (V' : Wd), Q N' V' → AW l D b J R X FQ (pc + 3) ls st N' V' (k + mc) (n + ms)) : AW l D b J R X FQ pc ls st0 N V k n := aw_callIN hd hl hv hst hcall hn hW hrc (fun v N' V' hq => by obtain ⟨rfl, hq⟩ := hq; exact h N' V' hq)
theorem aw_ireti {v : Int32} {mc ms : Nat} {Q : Int32 → Nat → Wd → Prop} (hd : decode J.2.1 pc = .ok (.ireturn, 1)) (hr9 : J.2.2.2 = some .int) (hk : k ≤ mc) (hn : n ≤ ms) (hq : Q v N V) : AW l D b J R X (fx_MQ D b mc ms (fx_qi Q)) pc ls [.int v] N V k n := aw_ireturn hd hr9 hk hn ⟨_, rfl, hq⟩
theorem aw_lreti {v : Int64} {mc ms : Nat} {Q : Int64 → Nat → Wd → Prop} (hd : decode J.2.1 pc = .ok (.lreturn, 1)) (hr9 : J.2.2.2 = some .long) (hk : k ≤ mc) (hn : n ≤ ms) (hq : Q v N V) : AW l D b J R X (fx_MQ D b mc ms (fx_ql Q)) pc ls [.long v] N V k n := aw_lreturn hd hr9 hk hn ⟨_, rfl, hq⟩
theorem aw_zreti {v : Int32} {mc ms : Nat} {Q : Int32 → Nat → Wd → Prop} (hd : decode J.2.1 pc = .ok (.ireturn, 1)) (hr9 : J.2.2.2 = some .boolean) (hz : v = 0 ∨ v = 1) (hk : k ≤ mc) (hn : n ≤ ms) (hq : Q v N V) : AW l D b J R X (fx_MQ D b mc ms (fx_qi Q)) pc ls [.int v] N V k n := aw_zreturn hd hr9 hz hk hn ⟨_, rfl, hq⟩
theorem aw_vreti {mc ms : Nat} {Q : Nat → Wd → Prop} (hd : decode J.2.1 pc = .ok (.return_, 1)) (hr9 : J.2.2.2 = none) (hk : k ≤ mc) (hn : n ≤ ms) (hq : Q N V) : AW l D b J R X (fx_MQ D b mc ms (fx_qv Q)) pc ls [] N V k n := aw_vreturn hd hr9 hk hn ⟨rfl, hq⟩
end AWT
