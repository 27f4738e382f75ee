/-! who gets what is left over: counting -/
def cnt (f : Nat → Bool) : Nat → Nat
  | 0 => 0
  | s + 1 => cnt f s + if f s then 1 else 0
theorem cnt_le {f g : Nat → Bool} : ∀ s, (∀ i, i < s → f i = true → g i = true) → cnt f s ≤ cnt g s := by
  intro s
  induction s with
  | zero => intro _; exact Nat.le_refl _
  | succ s ih =>
    intro h
    have I := ih (fun i hi => h i (by omega))
    simp only [cnt]
    by_cases q : f s = true
    · rw [if_pos q, if_pos (h s (by omega) q)]
      omega
    · rw [if_neg q]
      omega
theorem cnt_lt {f g : Nat → Bool} : ∀ s k, (∀ i, i < s → f i = true → g i = true) → k < s → f k = false → g k = true → cnt f s < cnt g s := by
  intro s
  induction s with
  | zero => intro k _ hk; omega
  | succ s ih =>
    intro k h hk h1 h2
    simp only [cnt]
    by_cases q : k = s
    · subst q
      have I := cnt_le k (fun i hi => h i (by omega))
      rw [h1, h2]
      simp only [if_true, Bool.false_eq_true, if_false]
      omega
    · have I := ih k (fun i hi => h i (by omega)) (by omega) h1 h2
      by_cases q : f s = true
      · rw [if_pos q, if_pos (h s (by omega) q)]
        omega
      · rw [if_neg q]
        omega
theorem cnt_congr {f g : Nat → Bool} (s : Nat) (h : ∀ i, i < s → f i = g i) : cnt f s = cnt g s := Nat.le_antisymm (cnt_le s (fun i hi q => by rw [← h i hi]; exact q)) (cnt_le s (fun i hi q => by rw [h i hi]; exact q))
theorem cnt_top (f : Nat → Bool) : ∀ s, cnt f s ≤ s := by
  intro s
  induction s with
  | zero => exact Nat.le_refl _
  | succ s ih =>
    simp only [cnt]
    split <;> omega
theorem cnt_ex {f : Nat → Bool} : ∀ s, cnt f s < s → ∃ k, k < s ∧ f k = false := by
  intro s
  induction s with
  | zero => intro h; omega
  | succ s ih =>
    intro h
    simp only [cnt] at h
    by_cases q : f s = true
    · rw [if_pos q] at h
      obtain ⟨k, h1, h2⟩ := ih (by omega)
      exact ⟨k, by omega, h2⟩
    · exact ⟨s, by omega, by simpa using q⟩
theorem cnt_no : ∀ s, cnt (fun _ => false) s = 0 := by
  intro s
  induction s with
  | zero => rfl
  | succ s ih => simp only [cnt, ih, Bool.false_eq_true, if_false]
theorem cnt_add {f : Nat → Bool} {p : Nat} : ∀ s, p < s → f p = false → cnt (fun i => f i || decide (i = p)) s = cnt f s + 1 := by
  intro s
  induction s with
  | zero => intro h; omega
  | succ s ih =>
    intro h hf
    simp only [cnt]
    by_cases q : p = s
    · subst q
      have e := cnt_congr (f := fun i => f i || decide (i = p)) (g := f) p (fun i hi => by
        have z : ¬ i = p := by omega
        simp only [z, decide_false, Bool.or_false])
      rw [e]
      simp only [hf, Bool.false_or, decide_true, if_true, Bool.false_eq_true, if_false, Nat.add_zero]
    · have z : ¬ s = p := by omega
      rw [ih (by omega) hf]
      simp only [z, decide_false, Bool.or_false]
      omega
/-- more was cut off, or as much and the number is lesser -/
def gtP (c : Nat → Int64) (nn : Nat → Nat) (i k : Nat) : Prop := (c k).toInt < (c i).toInt ∨ ((c i).toInt = (c k).toInt ∧ nn i < nn k)
noncomputable def gtB (c : Nat → Int64) (nn : Nat → Nat) (i k : Nat) : Bool := decide ((c k).toInt < (c i).toInt ∨ ((c i).toInt = (c k).toInt ∧ nn i < nn k))
theorem gtB_iff {c : Nat → Int64} {nn : Nat → Nat} {i k : Nat} : gtB c nn i k = true ↔ gtP c nn i k := by
  unfold gtB gtP
  exact decide_eq_true_iff
theorem gtB_no {c : Nat → Int64} {nn : Nat → Nat} {i k : Nat} (h : ¬ gtP c nn i k) : gtB c nn i k = false := by
  rw [← gtB_iff] at h
  simpa using h
theorem top_iff {c : Nat → Int64} {nn : Nat → Nat} {s T : Nat} {G : Nat → Bool} (hG : cnt G s = T) (hgt : ∀ k j, k < s → j < s → G k = true → G j = false → gtP c nn k j) : ∀ k, k < s → (G k = true ↔ cnt (fun i => gtB c nn i k) s < T) := by
  intro k hk
  constructor
  · intro g
    rw [← hG]
    refine cnt_lt s k (fun i hi z => ?_) hk (gtB_no (by unfold gtP; omega)) g
    by_cases q : G i = true
    · exact q
    · have h1 := hgt k i hk hi g (by simpa using q)
      have h2 := gtB_iff.mp z
      unfold gtP at h1 h2
      omega
  · intro h
    by_cases q : G k = true
    · exact q
    · have I := cnt_le s (f := G) (g := fun i => gtB c nn i k) (fun i hi z => gtB_iff.mpr (hgt i k hi hk z (by simpa using q)))
      omega
/-! the shares -/
def wk (AI : Nat → Nat → Int32) (a m k : Nat) : Int64 := (AI (a + 33) (bl AI a m k)).toInt64 * (AI (a + 34) (bl AI a m k)).toInt64
def shB (AI : Nat → Nat → Int32) (a m : Nat) (r : Int32) (al : Int64) (k : Nat) : Int32 := Int64.toInt32 (Int32.toInt64 r * wk AI a m k / al)
def shC (AI : Nat → Nat → Int32) (a m : Nat) (r : Int32) (al : Int64) (k : Nat) : Int64 := Int32.toInt64 r * wk AI a m k - Int32.toInt64 r * wk AI a m k / al * al
def shO (AI : Nat → Nat → Int32) (a m : Nat) (r : Int32) (al : Int64) : Nat → Int32
  | 0 => r
  | k + 1 => shO AI a m r al k - shB AI a m r al k
theorem wk_of {h : oh_H} {a ng nl nv n m k : Nat} (R : RR h a ng nl nv n) (hm : m < 3) (hk : k < bn (oh_AI h) a m) : 1 ≤ (wk (oh_AI h) a m k).toInt ∧ (wk (oh_AI h) a m k).toInt ≤ 40000000 := by
  obtain ⟨P, hD, hZ, hG, hL, hM, hB, hV, hDe, hT, hP, hW, vn, vt, vg, vl, vf, vb, vm, vv, vd, vx⟩ := id R
  obtain ⟨s, h1, h2, h3, h4⟩ := bin_of hB vn.2.1 hm
  have V := vl _ (h4 k (by omega)).1
  have B := (vb m hm).1 k hk
  have V8 := V.2.2.2.2.2.2.2.1 (by omega)
  have V9 := V.2.2.2.2.2.2.2.2.1 (by omega)
  have V4 := V.2.2.2.1
  have V5 := V.2.2.2.2.1
  have e1 := Int.mul_le_mul V4.2 V5.2 V5.1 (by decide)
  have e2 := Int.mul_le_mul V8 V9 (by decide) V4.1
  have e3 : (Int32.toInt64 (oh_AI h (a + 33) (bl (oh_AI h) a m k))).toInt = (oh_AI h (a + 33) (bl (oh_AI h) a m k)).toInt := Int32.toInt_toInt64 _
  have e4 : (Int32.toInt64 (oh_AI h (a + 34) (bl (oh_AI h) a m k))).toInt = (oh_AI h (a + 34) (bl (oh_AI h) a m k)).toInt := Int32.toInt_toInt64 _
  unfold wk
  rw [l_mul] <;> rw [e3, e4] <;> omega
theorem sumW_of {h : oh_H} {a ng nl nv n m : Nat} (R : RR h a ng nl nv n) (hm : m < 3) : ∀ k, k ≤ bn (oh_AI h) a m → (k : Int) ≤ (sumW (oh_AI h) a m k).toInt ∧ (sumW (oh_AI h) a m k).toInt ≤ 40000000 * (k : Int) ∧ ∀ j, j < k → (wk (oh_AI h) a m j).toInt ≤ (sumW (oh_AI h) a m k).toInt := by
  have hs12 : bn (oh_AI h) a m ≤ 12 := by
    obtain ⟨P, hD, hZ, hG, hL, hM, hB, hV, hDe, hT, hP, hW, vn, vt, vg, vl, vf, vb, vm, vv, vd, vx⟩ := id R
    obtain ⟨s, h1, h2, h3, h4⟩ := bin_of hB vn.2.1 hm
    omega
  intro k
  induction k with
  | zero => exact fun _ => ⟨Int.le_refl _, Int.le_refl _, fun j hj => absurd hj (Nat.not_lt_zero _)⟩
  | succ k ih =>
    intro hk
    have I := ih (by omega)
    have W := wk_of R hm (by omega : k < bn (oh_AI h) a m)
    have e : (sumW (oh_AI h) a m (k + 1)).toInt = (sumW (oh_AI h) a m k).toInt + (wk (oh_AI h) a m k).toInt := by
      show (sumW (oh_AI h) a m k + wk (oh_AI h) a m k).toInt = _
      rw [l_add (by omega) (by omega)]
    rw [e]
    refine ⟨by omega, by omega, fun j hj => ?_⟩
    by_cases q : j = k
    · subst q
      omega
    · have := I.2.2 j (by omega)
      omega
theorem sh_of {h : oh_H} {a ng nl nv n m k : Nat} {r : Int32} (R : RR h a ng nl nv n) (hm : m < 3) (hr : 0 ≤ r.toInt ∧ r.toInt ≤ 1200000) (hk : k < bn (oh_AI h) a m) : 0 ≤ (shB (oh_AI h) a m r (sumW (oh_AI h) a m (bn (oh_AI h) a m)) k).toInt ∧ (shB (oh_AI h) a m r (sumW (oh_AI h) a m (bn (oh_AI h) a m)) k).toInt ≤ 1200000 ∧ 0 ≤ (shC (oh_AI h) a m r (sumW (oh_AI h) a m (bn (oh_AI h) a m)) k).toInt := by
  have W := wk_of R hm hk
  have S := sumW_of R hm _ (Nat.le_refl _)
  have S3 := S.2.2 k hk
  have e1 := Int.mul_le_mul hr.2 W.2 (by omega) (by decide)
  have e0 := Int.mul_nonneg hr.1 (by omega : 0 ≤ (wk (oh_AI h) a m k).toInt)
  have er : (Int32.toInt64 r).toInt = r.toInt := Int32.toInt_toInt64 r
  have ep : (Int32.toInt64 r * wk (oh_AI h) a m k).toInt = r.toInt * (wk (oh_AI h) a m k).toInt := by
    rw [l_mul] <;> rw [er] <;> omega
  have q0 := Int.ediv_nonneg e0 (by omega : 0 ≤ (sumW (oh_AI h) a m (bn (oh_AI h) a m)).toInt)
  have q1 : r.toInt * (wk (oh_AI h) a m k).toInt / (sumW (oh_AI h) a m (bn (oh_AI h) a m)).toInt ≤ r.toInt := by
    refine Int.ediv_le_of_le_mul (by omega) ?_
    exact Int.mul_le_mul_of_nonneg_left S3 hr.1
  have ed : (Int32.toInt64 r * wk (oh_AI h) a m k / sumW (oh_AI h) a m (bn (oh_AI h) a m)).toInt = r.toInt * (wk (oh_AI h) a m k).toInt / (sumW (oh_AI h) a m (bn (oh_AI h) a m)).toInt := by
    rw [Int64.toInt_div, ep, Int.tdiv_eq_ediv_of_nonneg e0]
    exact l_bm (by omega) (by omega)
  have es : (shB (oh_AI h) a m r (sumW (oh_AI h) a m (bn (oh_AI h) a m)) k).toInt = r.toInt * (wk (oh_AI h) a m k).toInt / (sumW (oh_AI h) a m (bn (oh_AI h) a m)).toInt := by
    unfold shB
    rw [l_toI (by rw [ed]; omega) (by rw [ed]; omega), ed]
  rw [es]
  refine ⟨q0, by omega, ?_⟩
  unfold shC
  rw [l_mod (by rw [ep]; exact e0) (by omega)]
  exact Int.emod_nonneg _ (by omega)
theorem kept_eq {x y : Int32} (hx : 0 ≤ x.toInt ∧ x.toInt ≤ 1200000) (hy : 0 ≤ y.toInt ∧ y.toInt ≤ 50) : Int64.toInt32 (Int32.toInt64 x * Int32.toInt64 y / 100) = x * y / 100 ∧ 0 ≤ (x * y / 100).toInt ∧ (x * y / 100).toInt ≤ x.toInt := by
  have ey : (Int32.toInt64 y).toInt = y.toInt := Int32.toInt_toInt64 y
  have ex : (Int32.toInt64 x).toInt = x.toInt := Int32.toInt_toInt64 x
  have e1 := Int.mul_le_mul hx.2 hy.2 hy.1 (by decide)
  have e0 := Int.mul_nonneg hx.1 hy.1
  have e2 := Int.mul_le_mul_of_nonneg_left hy.2 hx.1
  have p1 : (x * y).toInt = x.toInt * y.toInt := i_mul (by omega) (by omega)
  have p2 : (Int32.toInt64 x * Int32.toInt64 y).toInt = x.toInt * y.toInt := by
    rw [l_mul] <;> rw [ex, ey] <;> omega
  have l100 : (100 : Int64).toInt = 100 := rfl
  have i100 : (100 : Int32).toInt = 100 := rfl
  have d1 : (x * y / 100).toInt = x.toInt * y.toInt / 100 := by
    rw [Int32.toInt_div, p1, i100, Int.tdiv_eq_ediv_of_nonneg e0]
    exact i_bm (by omega) (by omega)
  have d2 : (Int32.toInt64 x * Int32.toInt64 y / 100).toInt = x.toInt * y.toInt / 100 := by
    rw [Int64.toInt_div, p2, l100, Int.tdiv_eq_ediv_of_nonneg e0]
    exact l_bm (by omega) (by omega)
  refine ⟨?_, by rw [d1]; omega, by rw [d1]; omega⟩
  rw [i_eq, l_toI (by rw [d2]; omega) (by rw [d2]; omega), d1, d2]
