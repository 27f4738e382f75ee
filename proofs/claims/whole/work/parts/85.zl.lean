/-! plans: orders of a few lots, by lists -/
def sA (S : Nat → Bool) (x : Nat) : Nat → Bool := fun y => S y || decide (y = x)
/-- a list of all that are left -/
def CL (n : Nat) (S : Nat → Bool) (xs : List Nat) : Prop := xs.Nodup ∧ ∀ x, x ∈ xs ↔ (x < n ∧ S x = false)
def pL (nw : Option Nat → Nat → Int) (hr lt : Nat → Int) : Option Nat → Int → List Nat → Int
  | _, _, [] => 0
  | last, t, x :: xs => (if lt x ≤ t + 2 * nw last x then 1 else 0) + pL nw hr lt (some x) (t + 2 * nw last x + hr x) xs
def pE (nw : Option Nat → Nat → Int) (hr : Nat → Int) : Option Nat → Int → List Nat → Int
  | _, t, [] => t
  | last, t, x :: xs => pE nw hr (some x) (t + 2 * nw last x + hr x) xs
def pV (nw : Option Nat → Nat → Int) (hr lt : Nat → Int) (last : Option Nat) (t : Int) (xs : List Nat) : Int := 67108864 * pL nw hr lt last t xs + pE nw hr last t xs
def ll : List Nat → List Nat → Prop
  | [], _ => True
  | _ :: _, [] => False
  | x :: xs, y :: ys => x < y ∨ (x = y ∧ ll xs ys)
theorem sA_f {S : Nat → Bool} {x y : Nat} : sA S x y = false ↔ S y = false ∧ y ≠ x := by
  unfold sA
  rw [Bool.or_eq_false_iff, decide_eq_false_iff_not]
theorem cl_cons {n x : Nat} {S : Nat → Bool} {ys : List Nat} (h : CL n S (x :: ys)) : x < n ∧ S x = false ∧ CL n (sA S x) ys := by
  have hx := (h.2 x).mp List.mem_cons_self
  have nx := (List.nodup_cons.mp h.1).1
  refine ⟨hx.1, hx.2, (List.nodup_cons.mp h.1).2, fun y => ⟨fun hy => ?_, fun hy => ?_⟩⟩
  · have h2 := (h.2 y).mp (List.mem_cons_of_mem _ hy)
    refine ⟨h2.1, sA_f.mpr ⟨h2.2, fun e => ?_⟩⟩
    subst e
    exact nx hy
  · have h3 := sA_f.mp hy.2
    rcases List.mem_cons.mp ((h.2 y).mpr ⟨hy.1, h3.1⟩) with e | e
    · exact absurd e h3.2
    · exact e
theorem cl_mk {n x : Nat} {S : Nat → Bool} {ys : List Nat} (hx : x < n) (hS : S x = false) (C : CL n (sA S x) ys) : CL n S (x :: ys) := by
  refine ⟨List.nodup_cons.mpr ⟨fun h => (sA_f.mp ((C.2 x).mp h).2).2 rfl, C.1⟩, fun y => ?_⟩
  rw [List.mem_cons]
  refine ⟨fun h => ?_, fun h => ?_⟩
  · rcases h with e | e
    · subst e
      exact ⟨hx, hS⟩
    · have := (C.2 y).mp e
      exact ⟨this.1, (sA_f.mp this.2).1⟩
  · by_cases e : y = x
    · exact Or.inl e
    · exact Or.inr ((C.2 y).mpr ⟨h.1, sA_f.mpr ⟨h.2, e⟩⟩)
theorem cl_len {n : Nat} : ∀ (xs : List Nat) (S : Nat → Bool), CL n S xs → xs.length = cnt (fun x => !S x) n := by
  intro xs
  induction xs with
  | nil =>
    intro S h
    have e : cnt (fun x => !S x) n = cnt (fun _ => false) n := cnt_congr n (fun i hi => by
      by_cases q : S i = true
      · rw [q]
        rfl
      · have := (h.2 i).mpr ⟨hi, by simpa using q⟩
        exact absurd this List.not_mem_nil)
    rw [e, cnt_no]
    rfl
  | cons x ys ih =>
    intro S h
    obtain ⟨hx, hS, C⟩ := cl_cons h
    have e := ih _ C
    have e2 := cnt_add (f := fun y => !(sA S x y)) (p := x) n hx (by
      simp only [sA, decide_true, Bool.or_true, Bool.not_true])
    rw [List.length_cons, e, ← e2]
    refine cnt_congr n (fun i hi => ?_)
    by_cases z : i = x
    · subst z
      simp only [sA, hS, decide_true, Bool.or_true, Bool.not_false]
    · simp only [sA, z, decide_false, Bool.or_false]
theorem pV_cons {nw : Option Nat → Nat → Int} {hr lt : Nat → Int} {last : Option Nat} {t : Int} {x : Nat} {xs : List Nat} : pV nw hr lt last t (x :: xs) = (if lt x ≤ t + 2 * nw last x then 67108864 else 0) + pV nw hr lt (some x) (t + 2 * nw last x + hr x) xs := by
  simp only [pV, pL, pE]
  by_cases q : lt x ≤ t + 2 * nw last x
  · rw [if_pos q, if_pos q]
    omega
  · rw [if_neg q, if_neg q]
    omega
theorem pL_bd {nw : Option Nat → Nat → Int} {hr lt : Nat → Int} : ∀ (xs : List Nat) (last : Option Nat) (t : Int), 0 ≤ pL nw hr lt last t xs ∧ pL nw hr lt last t xs ≤ (xs.length : Int) := by
  intro xs
  induction xs with
  | nil => intro _ _; exact ⟨Int.le_refl _, Int.le_refl _⟩
  | cons x xs ih =>
    intro last t
    have I := ih (some x) (t + 2 * nw last x + hr x)
    simp only [pL, List.length_cons]
    split <;> omega
theorem pE_bd {nw : Option Nat → Nat → Int} {hr : Nat → Int} {n : Nat} (hn : ∀ l x, 0 ≤ nw l x ∧ nw l x ≤ 1) (hh : ∀ x, x < n → 0 ≤ hr x ∧ hr x ≤ 1200000) : ∀ (xs : List Nat) (last : Option Nat) (t : Int), (∀ x, x ∈ xs → x < n) → t ≤ pE nw hr last t xs ∧ pE nw hr last t xs ≤ t + 1200002 * (xs.length : Int) := by
  intro xs
  induction xs with
  | nil =>
    intro _ t _
    simp only [pE, List.length_nil]
    omega
  | cons x xs ih =>
    intro last t hx
    have I := ih (some x) (t + 2 * nw last x + hr x) (fun y hy => hx y (List.mem_cons_of_mem _ hy))
    have h1 := hh x (hx x List.mem_cons_self)
    have h2 := hn last x
    simp only [pE, List.length_cons]
    omega
def Opt (nw : Option Nat → Nat → Int) (hr lt : Nat → Int) (n : Nat) (S : Nat → Bool) (last : Option Nat) (t : Int) (g : List Nat) : Prop := CL n S g ∧ ∀ xs, CL n S xs → pV nw hr lt last t g ≤ pV nw hr lt last t xs ∧ (pV nw hr lt last t xs = pV nw hr lt last t g → ll g xs)
theorem ll_anti : ∀ xs ys, ll xs ys → ll ys xs → xs = ys := by
  intro xs
  induction xs with
  | nil =>
    intro ys _ h
    cases ys with
    | nil => rfl
    | cons y ys => exact absurd h (fun z => z)
  | cons x xs ih =>
    intro ys h1 h2
    cases ys with
    | nil => exact absurd h1 (fun z => z)
    | cons y ys =>
      simp only [ll] at h1 h2
      have e : x = y := by omega
      subst e
      have a1 : ll xs ys := by
        rcases h1 with z | z
        · omega
        · exact z.2
      have a2 : ll ys xs := by
        rcases h2 with z | z
        · omega
        · exact z.2
      rw [ih ys a1 a2]
theorem opt_one {nw : Option Nat → Nat → Int} {hr lt : Nat → Int} {n : Nat} {S : Nat → Bool} {last : Option Nat} {t : Int} {g g' : List Nat} (O : Opt nw hr lt n S last t g) (O' : Opt nw hr lt n S last t g') : g = g' := by
  have h1 := O.2 g' O'.1
  have h2 := O'.2 g O.1
  have e : pV nw hr lt last t g = pV nw hr lt last t g' := by omega
  exact ll_anti _ _ (h1.2 e.symm) (h2.2 e)
theorem opt_nil {nw : Option Nat → Nat → Int} {hr lt : Nat → Int} {n : Nat} {S : Nat → Bool} {last : Option Nat} {t : Int} (h : ∀ x, x < n → S x = true) : Opt nw hr lt n S last t [] := by
  refine ⟨⟨List.nodup_nil, fun x => ⟨fun z => absurd z List.not_mem_nil, fun z => ?_⟩⟩, fun xs C => ?_⟩
  · rw [h x z.1] at z
    exact absurd z.2 (by decide)
  · cases xs with
    | nil => exact ⟨Int.le_refl _, fun _ => trivial⟩
    | cons x xs =>
      obtain ⟨hx, hS, -⟩ := cl_cons C
      rw [h x hx] at hS
      exact absurd hS (by decide)
theorem opt_step {nw : Option Nat → Nat → Int} {hr lt : Nat → Int} {n : Nat} {S : Nat → Bool} {last : Option Nat} {t : Int} {x : Nat} {g : List Nat} (hx : x < n) (hS : S x = false) (O : Opt nw hr lt n (sA S x) (some x) (t + 2 * nw last x + hr x) g) (hm : ∀ y, y < n → S y = false → ∃ gy, Opt nw hr lt n (sA S y) (some y) (t + 2 * nw last y + hr y) gy ∧ pV nw hr lt last t (x :: g) ≤ pV nw hr lt last t (y :: gy) ∧ (y < x → pV nw hr lt last t (x :: g) < pV nw hr lt last t (y :: gy))) : Opt nw hr lt n S last t (x :: g) := by
  refine ⟨cl_mk hx hS O.1, fun xs C => ?_⟩
  cases xs with
  | nil =>
    have := (C.2 x).mpr ⟨hx, hS⟩
    exact absurd this List.not_mem_nil
  | cons y ys =>
    obtain ⟨hy, hSy, Cy⟩ := cl_cons C
    obtain ⟨gy, Oy, m1, m2⟩ := hm y hy hSy
    have o1 := (Oy.2 ys Cy).1
    have e1 := pV_cons (nw := nw) (hr := hr) (lt := lt) (last := last) (t := t) (x := y) (xs := ys)
    have e2 := pV_cons (nw := nw) (hr := hr) (lt := lt) (last := last) (t := t) (x := y) (xs := gy)
    refine ⟨by omega, fun e => ?_⟩
    by_cases z : x = y
    · subst z
      have e3 := pV_cons (nw := nw) (hr := hr) (lt := lt) (last := last) (t := t) (x := x) (xs := g)
      exact Or.inr ⟨rfl, (O.2 ys Cy).2 (by omega)⟩
    · refine Or.inl ?_
      by_cases z2 : y < x
      · have := m2 z2
        omega
      · omega
/-! orders as rows -/
def sq (f : Nat → Nat) : Nat → Nat → List Nat
  | _, 0 => []
  | k, d + 1 => f k :: sq f (k + 1) d
theorem mem_sq {f : Nat → Nat} {x : Nat} : ∀ d k, x ∈ sq f k d ↔ ∃ i, k ≤ i ∧ i < k + d ∧ f i = x := by
  intro d
  induction d with
  | zero =>
    intro k
    refine ⟨fun h => absurd h List.not_mem_nil, fun ⟨i, h1, h2, h3⟩ => ?_⟩
    omega
  | succ d ih =>
    intro k
    simp only [sq, List.mem_cons, ih (k + 1)]
    refine ⟨fun h => ?_, fun ⟨i, h1, h2, h3⟩ => ?_⟩
    · rcases h with e | ⟨i, h1, h2, h3⟩
      · exact ⟨k, by omega, by omega, e.symm⟩
      · exact ⟨i, by omega, by omega, h3⟩
    · by_cases z : i = k
      · subst z
        exact Or.inl h3.symm
      · exact Or.inr ⟨i, by omega, by omega, h3⟩
theorem nodup_sq {f : Nat → Nat} : ∀ d k, (∀ i j, k ≤ i → i < k + d → k ≤ j → j < k + d → f i = f j → i = j) → (sq f k d).Nodup := by
  intro d
  induction d with
  | zero => intro k _; exact List.nodup_nil
  | succ d ih =>
    intro k h
    simp only [sq]
    refine List.nodup_cons.mpr ⟨fun z => ?_, ih (k + 1) (fun i j h1 h2 h3 h4 => h i j (by omega) (by omega) (by omega) (by omega))⟩
    obtain ⟨i, h1, h2, h3⟩ := (mem_sq d (k + 1)).mp z
    have := h i k (by omega) (by omega) (by omega) (by omega) h3
    omega
theorem sq_inj {f : Nat → Nat} : ∀ d k, (sq f k d).Nodup → ∀ i j, k ≤ i → i < k + d → k ≤ j → j < k + d → f i = f j → i = j := by
  intro d
  induction d with
  | zero => intro k _ i j h1 h2; omega
  | succ d ih =>
    intro k h i j h1 h2 h3 h4 e
    simp only [sq] at h
    obtain ⟨n1, n2⟩ := List.nodup_cons.mp h
    by_cases z : i = k <;> by_cases z' : j = k
    · omega
    · subst z
      exact absurd ((mem_sq d (i + 1)).mpr ⟨j, by omega, by omega, e.symm⟩) n1
    · subst z'
      exact absurd ((mem_sq d (j + 1)).mpr ⟨i, by omega, by omega, e⟩) n1
    · exact ih (k + 1) n2 i j (by omega) (by omega) (by omega) (by omega) e
theorem list_sq : ∀ (xs : List Nat) (f : Nat → Nat) (k : Nat), (∀ i, i < xs.length → f (k + i) = xs.getD i 0) → xs = sq f k xs.length := by
  intro xs
  induction xs with
  | nil => intro f k _; rfl
  | cons x xs ih =>
    intro f k h
    have h0 := h 0 (by rw [List.length_cons]; omega)
    simp only [List.length_cons, sq]
    rw [show f k = x from h0, ← ih f (k + 1) (fun i hi => by
      have := h (i + 1) (by rw [List.length_cons]; omega)
      rw [show k + 1 + i = k + (i + 1) by omega, this]
      rfl)]
def Pm (n : Nat) (f : Nat → Nat) : Prop := (∀ k, k < n → f k < n) ∧ ∀ k k', k < n → k' < n → f k = f k' → k = k'
def Ar (n : Nat) (f : Nat → Nat) : Prop := Pm n f ∧ ∀ x, x < n → ∃ k, k < n ∧ f k = x
theorem cl_sq {n : Nat} {f : Nat → Nat} (A : Ar n f) : CL n (fun _ => false) (sq f 0 n) := by
  refine ⟨nodup_sq n 0 (fun i j h1 h2 h3 h4 e => A.1.2 i j (by omega) (by omega) e), fun x => ?_⟩
  rw [mem_sq n 0]
  refine ⟨fun ⟨i, h1, h2, h3⟩ => ?_, fun h => ?_⟩
  · rw [← h3]
    exact ⟨A.1.1 i (by omega), rfl⟩
  · obtain ⟨k, h1, h2⟩ := A.2 x h.1
    exact ⟨k, by omega, by omega, h2⟩
def FL (n : Nat) (f g : Nat → Nat) : Prop := ∃ p, p < n ∧ (∀ k, k < p → f k = g k) ∧ f p < g p
def FE (n : Nat) (f g : Nat → Nat) : Prop := ∀ k, k < n → f k = g k
theorem tri (n : Nat) (f g : Nat → Nat) : FL n f g ∨ FE n f g ∨ FL n g f := by
  rcases first_no (fun k => f k = g k) n with ⟨K, h1, h2, h3⟩ | h
  · by_cases z : f K < g K
    · exact Or.inl ⟨K, h1, h2, z⟩
    · exact Or.inr (Or.inr ⟨K, h1, fun k hk => (h2 k hk).symm, by
        have h4 : f K ≠ g K := h3
        omega⟩)
  · exact Or.inr (Or.inl h)
theorem FL_tr {n : Nat} {f g e : Nat → Nat} (h1 : FL n f g) (h2 : FL n g e) : FL n f e := by
  obtain ⟨p, p1, p2, p3⟩ := h1
  obtain ⟨q, q1, q2, q3⟩ := h2
  by_cases z : p < q
  · exact ⟨p, p1, fun k hk => by rw [p2 k hk, q2 k (by omega)], by rw [← q2 p z]; exact p3⟩
  · by_cases z2 : p = q
    · subst z2
      exact ⟨p, p1, fun k hk => by rw [p2 k hk, q2 k hk], by omega⟩
    · exact ⟨q, q1, fun k hk => by rw [p2 k (by omega), q2 k hk], by rw [p2 q (by omega)]; exact q3⟩
theorem ll_sq {f g : Nat → Nat} : ∀ d k, (∃ p, k ≤ p ∧ p < k + d ∧ (∀ i, k ≤ i → i < p → f i = g i) ∧ f p < g p) ∨ (∀ i, k ≤ i → i < k + d → f i = g i) → ll (sq f k d) (sq g k d) := by
  intro d
  induction d with
  | zero => intro k _; trivial
  | succ d ih =>
    intro k h
    simp only [sq, ll]
    rcases h with ⟨p, h1, h2, h3, h4⟩ | h
    · by_cases z : p = k
      · subst z
        exact Or.inl h4
      · exact Or.inr ⟨h3 k (by omega) (by omega), ih (k + 1) (Or.inl ⟨p, by omega, by omega, fun i h5 h6 => h3 i (by omega) h6, h4⟩)⟩
    · exact Or.inr ⟨h k (by omega) (by omega), ih (k + 1) (Or.inr (fun i h5 h6 => h i (by omega) (by omega)))⟩
theorem opt_of {nw : Option Nat → Nat → Int} {hr lt : Nat → Int} {n : Nat} {t : Int} {f : Nat → Nat} (A : Ar n f) (h : ∀ g, Pm n g → pV nw hr lt none t (sq f 0 n) ≤ pV nw hr lt none t (sq g 0 n) ∧ (pV nw hr lt none t (sq g 0 n) = pV nw hr lt none t (sq f 0 n) → FL n f g ∨ FE n f g)) : Opt nw hr lt n (fun _ => false) none t (sq f 0 n) := by
  refine ⟨cl_sq A, fun xs C => ?_⟩
  have hl : xs.length = n := by
    have e1 := cl_len xs _ C
    have e2 := cl_len _ _ (cl_sq A)
    have e3 : ∀ d k, (sq f k d).length = d := by
      intro d
      induction d with
      | zero => intro k; rfl
      | succ d ih => intro k; simp only [sq, List.length_cons, ih]
    rw [e3] at e2
    omega
  have e := list_sq xs (fun k => xs.getD k 0) 0 (fun i hi => by
    show xs.getD (0 + i) 0 = _
    rw [Nat.zero_add])
  rw [hl] at e
  obtain ⟨g, eg⟩ : ∃ g : Nat → Nat, g = fun k => xs.getD k 0 := ⟨_, rfl⟩
  rw [← eg] at e
  rw [e] at C ⊢
  have hp : Pm n g := ⟨fun k hk => ((C.2 (g k)).mp ((mem_sq n 0).mpr ⟨k, by omega, by omega, rfl⟩)).1, fun k k' hk hk' q => sq_inj n 0 C.1 k k' (by omega) (by omega) (by omega) (by omega) q⟩
  have H := h g hp
  refine ⟨H.1, fun q => ll_sq n 0 ?_⟩
  rcases H.2 q with ⟨p, p1, p2, p3⟩ | z
  · exact Or.inl ⟨p, by omega, by omega, fun i _ hi => p2 i hi, p3⟩
  · exact Or.inr (fun i _ hi => z i (by omega))
