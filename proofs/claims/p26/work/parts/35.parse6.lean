set_option maxHeartbeats 100000000 in
set_option maxRecDepth 100000 in
theorem r_readsCondition (l : Launch) (D : va_G) (b : Nat) (N : Nat) (V : Wd) (hN : 133 ≤ N) (cl : Nat) (hW : CR D b cl V)   (g sd wa : Nat → Int32) (pl ln cm wt sg : Nat) (dep : Nat → Nat) (sl sf sh st : Nat → Int32) (sm sk : Nat) (hX : PX D b V g pl ln cm wt sg sd wa dep sl sf sh st sm sk) (h0 : wt = 0) (hd0 : dep cm = 0) : MI l D b 6 jX12_readsCondition [.ref (b + 100)] N V 0 0 (fun r N9 V9 => ((r = 0 ∨ r = 1) ∧ (r = 0 ∨ (∃ (sd9 wa9 : Nat → Int32) (pl9 cm9 wt9 : Nat) (dep9 : Nat → Nat), PX D b V9 g pl9 ln cm9 wt9 sg sd9 wa9 dep9 sl sf sh st sm sk ∧ wt9 = 0 ∧ (∀ k, k < sg → sd9 k = sd k) ∧ dep9 cm9 = 1 ∧ pl < pl9))) ∧ N = N9 ∧ JR D b N cl V V9) := by
  sorry
