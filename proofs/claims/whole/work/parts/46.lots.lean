/-! a lot written on both sides -/
theorem qL_s131 {FI : Nat → Nat → Int32} {FR : Nat → Nat → Option Nat} {AI : Nat → Nat → Int32} {AR : Nat → Nat → Option Nat} {a nl ng i : Nat} (hL : qL FI FR AI AR a nl ng) (inj : ∀ i j, i < nl → j < nl → la AR a i = la AR a j → i = j) (hi : i < nl) (x : Int32) : qL (oh_u2 FI 131 (la AR a i) x) FR (oh_u2 AI (a + 29) i x) AR a nl ng := by
  intro j hj
  have L := hL j hj
  by_cases z : j = i
  · subst z
    simp only [oh_u2, Nat.add_left_cancel_iff, Nat.reduceEqDiff, Nat.add_eq_left, Nat.left_eq_add, reduceCtorEq, false_and, true_and, and_true, and_false, if_false, if_true]
    exact ⟨L.1, L.2.1, L.2.2.2.1, L.2.2.2.2.1, L.2.2.2.2.2.1, L.2.2.2.2.2.2.1, L.2.2.2.2.2.2.2.1, L.2.2.2.2.2.2.2.2.1, L.2.2.2.2.2.2.2.2.2.1, L.2.2.2.2.2.2.2.2.2.2.1, L.2.2.2.2.2.2.2.2.2.2.2⟩
  · have z2 : ¬ la AR a j = la AR a i := fun q => z (inj j i hj hi q)
    simp only [oh_u2, Nat.add_left_cancel_iff, Nat.reduceEqDiff, Nat.add_eq_left, Nat.left_eq_add, reduceCtorEq, false_and, true_and, and_true, and_false, if_false, if_true, z, z2]
    exact L
theorem qL_s132 {FI : Nat → Nat → Int32} {FR : Nat → Nat → Option Nat} {AI : Nat → Nat → Int32} {AR : Nat → Nat → Option Nat} {a nl ng i : Nat} (hL : qL FI FR AI AR a nl ng) (inj : ∀ i j, i < nl → j < nl → la AR a i = la AR a j → i = j) (hi : i < nl) (x : Int32) : qL (oh_u2 FI 132 (la AR a i) x) FR (oh_u2 AI (a + 32) i x) AR a nl ng := by
  intro j hj
  have L := hL j hj
  by_cases z : j = i
  · subst z
    simp only [oh_u2, Nat.add_left_cancel_iff, Nat.reduceEqDiff, Nat.add_eq_left, Nat.left_eq_add, reduceCtorEq, false_and, true_and, and_true, and_false, if_false, if_true]
    exact ⟨L.1, L.2.1, L.2.2.1, L.2.2.2.2.1, L.2.2.2.2.2.1, L.2.2.2.2.2.2.1, L.2.2.2.2.2.2.2.1, L.2.2.2.2.2.2.2.2.1, L.2.2.2.2.2.2.2.2.2.1, L.2.2.2.2.2.2.2.2.2.2.1, L.2.2.2.2.2.2.2.2.2.2.2⟩
  · have z2 : ¬ la AR a j = la AR a i := fun q => z (inj j i hj hi q)
    simp only [oh_u2, Nat.add_left_cancel_iff, Nat.reduceEqDiff, Nat.add_eq_left, Nat.left_eq_add, reduceCtorEq, false_and, true_and, and_true, and_false, if_false, if_true, z, z2]
    exact L
theorem qL_s133 {FI : Nat → Nat → Int32} {FR : Nat → Nat → Option Nat} {AI : Nat → Nat → Int32} {AR : Nat → Nat → Option Nat} {a nl ng i : Nat} (hL : qL FI FR AI AR a nl ng) (inj : ∀ i j, i < nl → j < nl → la AR a i = la AR a j → i = j) (hi : i < nl) (x : Int32) : qL (oh_u2 FI 133 (la AR a i) x) FR (oh_u2 AI (a + 33) i x) AR a nl ng := by
  intro j hj
  have L := hL j hj
  by_cases z : j = i
  · subst z
    simp only [oh_u2, Nat.add_left_cancel_iff, Nat.reduceEqDiff, Nat.add_eq_left, Nat.left_eq_add, reduceCtorEq, false_and, true_and, and_true, and_false, if_false, if_true]
    exact ⟨L.1, L.2.1, L.2.2.1, L.2.2.2.1, L.2.2.2.2.2.1, L.2.2.2.2.2.2.1, L.2.2.2.2.2.2.2.1, L.2.2.2.2.2.2.2.2.1, L.2.2.2.2.2.2.2.2.2.1, L.2.2.2.2.2.2.2.2.2.2.1, L.2.2.2.2.2.2.2.2.2.2.2⟩
  · have z2 : ¬ la AR a j = la AR a i := fun q => z (inj j i hj hi q)
    simp only [oh_u2, Nat.add_left_cancel_iff, Nat.reduceEqDiff, Nat.add_eq_left, Nat.left_eq_add, reduceCtorEq, false_and, true_and, and_true, and_false, if_false, if_true, z, z2]
    exact L
theorem qL_s134 {FI : Nat → Nat → Int32} {FR : Nat → Nat → Option Nat} {AI : Nat → Nat → Int32} {AR : Nat → Nat → Option Nat} {a nl ng i : Nat} (hL : qL FI FR AI AR a nl ng) (inj : ∀ i j, i < nl → j < nl → la AR a i = la AR a j → i = j) (hi : i < nl) (x : Int32) : qL (oh_u2 FI 134 (la AR a i) x) FR (oh_u2 AI (a + 34) i x) AR a nl ng := by
  intro j hj
  have L := hL j hj
  by_cases z : j = i
  · subst z
    simp only [oh_u2, Nat.add_left_cancel_iff, Nat.reduceEqDiff, Nat.add_eq_left, Nat.left_eq_add, reduceCtorEq, false_and, true_and, and_true, and_false, if_false, if_true]
    exact ⟨L.1, L.2.1, L.2.2.1, L.2.2.2.1, L.2.2.2.2.1, L.2.2.2.2.2.2.1, L.2.2.2.2.2.2.2.1, L.2.2.2.2.2.2.2.2.1, L.2.2.2.2.2.2.2.2.2.1, L.2.2.2.2.2.2.2.2.2.2.1, L.2.2.2.2.2.2.2.2.2.2.2⟩
  · have z2 : ¬ la AR a j = la AR a i := fun q => z (inj j i hj hi q)
    simp only [oh_u2, Nat.add_left_cancel_iff, Nat.reduceEqDiff, Nat.add_eq_left, Nat.left_eq_add, reduceCtorEq, false_and, true_and, and_true, and_false, if_false, if_true, z, z2]
    exact L
theorem qL_s135 {FI : Nat → Nat → Int32} {FR : Nat → Nat → Option Nat} {AI : Nat → Nat → Int32} {AR : Nat → Nat → Option Nat} {a nl ng i : Nat} (hL : qL FI FR AI AR a nl ng) (inj : ∀ i j, i < nl → j < nl → la AR a i = la AR a j → i = j) (hi : i < nl) (x : Int32) : qL (oh_u2 FI 135 (la AR a i) x) FR (oh_u2 AI (a + 35) i x) AR a nl ng := by
  intro j hj
  have L := hL j hj
  by_cases z : j = i
  · subst z
    simp only [oh_u2, Nat.add_left_cancel_iff, Nat.reduceEqDiff, Nat.add_eq_left, Nat.left_eq_add, reduceCtorEq, false_and, true_and, and_true, and_false, if_false, if_true]
    exact ⟨L.1, L.2.1, L.2.2.1, L.2.2.2.1, L.2.2.2.2.1, L.2.2.2.2.2.1, L.2.2.2.2.2.2.2.1, L.2.2.2.2.2.2.2.2.1, L.2.2.2.2.2.2.2.2.2.1, L.2.2.2.2.2.2.2.2.2.2.1, L.2.2.2.2.2.2.2.2.2.2.2⟩
  · have z2 : ¬ la AR a j = la AR a i := fun q => z (inj j i hj hi q)
    simp only [oh_u2, Nat.add_left_cancel_iff, Nat.reduceEqDiff, Nat.add_eq_left, Nat.left_eq_add, reduceCtorEq, false_and, true_and, and_true, and_false, if_false, if_true, z, z2]
    exact L
theorem qL_s136 {FI : Nat → Nat → Int32} {FR : Nat → Nat → Option Nat} {AI : Nat → Nat → Int32} {AR : Nat → Nat → Option Nat} {a nl ng i : Nat} (hL : qL FI FR AI AR a nl ng) (inj : ∀ i j, i < nl → j < nl → la AR a i = la AR a j → i = j) (hi : i < nl) (x : Int32) : qL (oh_u2 FI 136 (la AR a i) x) FR (oh_u2 AI (a + 36) i x) AR a nl ng := by
  intro j hj
  have L := hL j hj
  by_cases z : j = i
  · subst z
    simp only [oh_u2, Nat.add_left_cancel_iff, Nat.reduceEqDiff, Nat.add_eq_left, Nat.left_eq_add, reduceCtorEq, false_and, true_and, and_true, and_false, if_false, if_true]
    exact ⟨L.1, L.2.1, L.2.2.1, L.2.2.2.1, L.2.2.2.2.1, L.2.2.2.2.2.1, L.2.2.2.2.2.2.1, L.2.2.2.2.2.2.2.2.1, L.2.2.2.2.2.2.2.2.2.1, L.2.2.2.2.2.2.2.2.2.2.1, L.2.2.2.2.2.2.2.2.2.2.2⟩
  · have z2 : ¬ la AR a j = la AR a i := fun q => z (inj j i hj hi q)
    simp only [oh_u2, Nat.add_left_cancel_iff, Nat.reduceEqDiff, Nat.add_eq_left, Nat.left_eq_add, reduceCtorEq, false_and, true_and, and_true, and_false, if_false, if_true, z, z2]
    exact L
theorem qL_s137 {FI : Nat → Nat → Int32} {FR : Nat → Nat → Option Nat} {AI : Nat → Nat → Int32} {AR : Nat → Nat → Option Nat} {a nl ng i : Nat} (hL : qL FI FR AI AR a nl ng) (inj : ∀ i j, i < nl → j < nl → la AR a i = la AR a j → i = j) (hi : i < nl) (x : Int32) : qL (oh_u2 FI 137 (la AR a i) x) FR (oh_u2 AI (a + 37) i x) AR a nl ng := by
  intro j hj
  have L := hL j hj
  by_cases z : j = i
  · subst z
    simp only [oh_u2, Nat.add_left_cancel_iff, Nat.reduceEqDiff, Nat.add_eq_left, Nat.left_eq_add, reduceCtorEq, false_and, true_and, and_true, and_false, if_false, if_true]
    exact ⟨L.1, L.2.1, L.2.2.1, L.2.2.2.1, L.2.2.2.2.1, L.2.2.2.2.2.1, L.2.2.2.2.2.2.1, L.2.2.2.2.2.2.2.1, L.2.2.2.2.2.2.2.2.2.1, L.2.2.2.2.2.2.2.2.2.2.1, L.2.2.2.2.2.2.2.2.2.2.2⟩
  · have z2 : ¬ la AR a j = la AR a i := fun q => z (inj j i hj hi q)
    simp only [oh_u2, Nat.add_left_cancel_iff, Nat.reduceEqDiff, Nat.add_eq_left, Nat.left_eq_add, reduceCtorEq, false_and, true_and, and_true, and_false, if_false, if_true, z, z2]
    exact L
theorem qL_s138 {FI : Nat → Nat → Int32} {FR : Nat → Nat → Option Nat} {AI : Nat → Nat → Int32} {AR : Nat → Nat → Option Nat} {a nl ng i : Nat} (hL : qL FI FR AI AR a nl ng) (inj : ∀ i j, i < nl → j < nl → la AR a i = la AR a j → i = j) (hi : i < nl) (x : Int32) : qL (oh_u2 FI 138 (la AR a i) x) FR (oh_u2 AI (a + 38) i x) AR a nl ng := by
  intro j hj
  have L := hL j hj
  by_cases z : j = i
  · subst z
    simp only [oh_u2, Nat.add_left_cancel_iff, Nat.reduceEqDiff, Nat.add_eq_left, Nat.left_eq_add, reduceCtorEq, false_and, true_and, and_true, and_false, if_false, if_true]
    exact ⟨L.1, L.2.1, L.2.2.1, L.2.2.2.1, L.2.2.2.2.1, L.2.2.2.2.2.1, L.2.2.2.2.2.2.1, L.2.2.2.2.2.2.2.1, L.2.2.2.2.2.2.2.2.1, L.2.2.2.2.2.2.2.2.2.2.1, L.2.2.2.2.2.2.2.2.2.2.2⟩
  · have z2 : ¬ la AR a j = la AR a i := fun q => z (inj j i hj hi q)
    simp only [oh_u2, Nat.add_left_cancel_iff, Nat.reduceEqDiff, Nat.add_eq_left, Nat.left_eq_add, reduceCtorEq, false_and, true_and, and_true, and_false, if_false, if_true, z, z2]
    exact L
theorem qL_s139 {FI : Nat → Nat → Int32} {FR : Nat → Nat → Option Nat} {AI : Nat → Nat → Int32} {AR : Nat → Nat → Option Nat} {a nl ng i : Nat} (hL : qL FI FR AI AR a nl ng) (inj : ∀ i j, i < nl → j < nl → la AR a i = la AR a j → i = j) (hi : i < nl) (x : Int32) : qL (oh_u2 FI 139 (la AR a i) x) FR (oh_u2 AI (a + 39) i x) AR a nl ng := by
  intro j hj
  have L := hL j hj
  by_cases z : j = i
  · subst z
    simp only [oh_u2, Nat.add_left_cancel_iff, Nat.reduceEqDiff, Nat.add_eq_left, Nat.left_eq_add, reduceCtorEq, false_and, true_and, and_true, and_false, if_false, if_true]
    exact ⟨L.1, L.2.1, L.2.2.1, L.2.2.2.1, L.2.2.2.2.1, L.2.2.2.2.2.1, L.2.2.2.2.2.2.1, L.2.2.2.2.2.2.2.1, L.2.2.2.2.2.2.2.2.1, L.2.2.2.2.2.2.2.2.2.1, L.2.2.2.2.2.2.2.2.2.2.2⟩
  · have z2 : ¬ la AR a j = la AR a i := fun q => z (inj j i hj hi q)
    simp only [oh_u2, Nat.add_left_cancel_iff, Nat.reduceEqDiff, Nat.add_eq_left, Nat.left_eq_add, reduceCtorEq, false_and, true_and, and_true, and_false, if_false, if_true, z, z2]
    exact L
