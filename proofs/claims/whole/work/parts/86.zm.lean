/-! the next order -/
theorem desc {n i : Nat} {f : Nat → Nat} (h2 : ∀ k, i < k → k + 1 < n → f (k + 1) < f k) : ∀ d k, i < k → k + d + 1 < n → f (k + d + 1) < f k := by
  intro d
  induction d with
  | zero => intro k hk hn; exact h2 k hk hn
  | succ d ih =>
    intro k hk hn
    have h3 := ih k hk (by omega)
    have h4 := h2 (k + d + 1) (by omega) (by omega)
    have e : k + (d + 1) + 1 = k + d + 1 + 1 := by omega
    rw [e]
    omega
theorem desc' {n i : Nat} {f : Nat → Nat} (h2 : ∀ k, i < k → k + 1 < n → f (k + 1) < f k) {k k' : Nat} (hk : i < k) (hkk : k < k') (hn : k' < n) : f k' < f k := by
  have := desc h2 (k' - k - 1) k hk (by omega)
  rw [show k + (k' - k - 1) + 1 = k' by omega] at this
  exact this
/-- from p on everything falls: nothing follows that keeps what is ahead of p -/
theorem next_no {n p : Nat} {f g : Nat → Nat} (A : Ar n f) (G : Pm n g) (hp : p < n) (h1 : ∀ k, k < p → f k = g k) (h2 : f p < g p) (h3 : ∀ m, p < m → m < n → f m < f p) : False := by
  obtain ⟨m, hm, em⟩ := A.2 (g p) (G.1 p hp)
  by_cases z : m < p
  · have e := h1 m z
    have := G.2 m p hm hp (by rw [← e, em])
    omega
  · by_cases z2 : m = p
    · subst z2
      omega
    · have := h3 m (by omega) hm
      omega
theorem next_max {n : Nat} {f g : Nat → Nat} (A : Ar n f) (G : Pm n g) (h : ∀ k, k + 1 < n → f (k + 1) < f k) (L : FL n f g) : False := by
  obtain ⟨p, p1, p2, p3⟩ := L
  refine next_no A G p1 p2 p3 (fun m h1 h2 => ?_)
  have d : ∀ d k, k + d + 1 < n → f (k + d + 1) < f k := by
    intro d
    induction d with
    | zero => intro k hk; exact h k hk
    | succ d ih =>
      intro k hk
      have a1 := ih k (by omega)
      have a2 := h (k + d + 1) (by omega)
      rw [show k + (d + 1) + 1 = k + d + 1 + 1 by omega]
      omega
  have := d (m - p - 1) p (by omega)
  rw [show p + (m - p - 1) + 1 = m by omega] at this
  exact this
/-- where each place of the next order is taken from -/
def nxR (n i j k : Nat) : Nat := if k < i then k else if k = i then j else if i + n - k = j then i else i + n - k
theorem nx_cases (n i j k : Nat) : (k < i ∧ nxR n i j k = k) ∨ (k = i ∧ nxR n i j k = j) ∨ (i < k ∧ i + n - k = j ∧ nxR n i j k = i) ∨ (i < k ∧ i + n - k ≠ j ∧ nxR n i j k = i + n - k) := by
  unfold nxR
  by_cases a1 : k < i
  · exact Or.inl ⟨a1, if_pos a1⟩
  · rw [if_neg a1]
    by_cases a2 : k = i
    · exact Or.inr (Or.inl ⟨a2, if_pos a2⟩)
    · rw [if_neg a2]
      by_cases a3 : i + n - k = j
      · exact Or.inr (Or.inr (Or.inl ⟨by omega, a3, if_pos a3⟩))
      · exact Or.inr (Or.inr (Or.inr ⟨by omega, a3, if_neg a3⟩))
theorem next_ok {n i j : Nat} {f f' : Nat → Nat} (A : Ar n f) (hi : i + 1 < n) (h2 : ∀ k, i < k → k + 1 < n → f (k + 1) < f k) (hj : i < j) (hjn : j < n) (h3 : f i < f j) (h4 : ∀ k, j < k → k < n → f k < f i) (e : ∀ k, k < n → f' k = f (nxR n i j k)) : Ar n f' ∧ FL n f f' ∧ ∀ g, Pm n g → FL n f g → ¬ FL n g f' := by
  have rlt : ∀ k, k < n → nxR n i j k < n := fun k hk => by
    unfold nxR
    split
    · omega
    · split
      · omega
      · split <;> omega
  have rinj : ∀ k k', k < n → k' < n → nxR n i j k = nxR n i j k' → k = k' := fun k k' hk hk' q => by
    rcases nx_cases n i j k with c | c | c | c <;> rcases nx_cases n i j k' with d | d | d | d <;> omega
  have A' : Ar n f' := by
    refine ⟨⟨fun k hk => ?_, fun k k' hk hk' q => ?_⟩, fun x hx => ?_⟩
    · rw [e k hk]
      exact A.1.1 _ (rlt k hk)
    · rw [e k hk, e k' hk'] at q
      exact rinj k k' hk hk' (A.1.2 _ _ (rlt k hk) (rlt k' hk') q)
    · obtain ⟨m, hm, em⟩ := A.2 x hx
      by_cases z1 : m < i
      · refine ⟨m, hm, ?_⟩
        rw [e m hm, show nxR n i j m = m by unfold nxR; rw [if_pos z1]]
        exact em
      · by_cases z2 : m = i
        · refine ⟨i + n - j, by omega, ?_⟩
          rw [e _ (by omega), show nxR n i j (i + n - j) = i by
            unfold nxR
            rw [if_neg (by omega), if_neg (by omega), if_pos (by omega)]]
          rw [← z2]
          exact em
        · by_cases z3 : m = j
          · refine ⟨i, by omega, ?_⟩
            rw [e _ (by omega), show nxR n i j i = j by
              unfold nxR
              rw [if_neg (by omega), if_pos rfl]]
            rw [← z3]
            exact em
          · refine ⟨i + n - m, by omega, ?_⟩
            rw [e _ (by omega), show nxR n i j (i + n - m) = m by
              unfold nxR
              rw [if_neg (by omega), if_neg (by omega), if_neg (by omega)]
              omega]
            exact em
  have lo : ∀ k, k < i → f' k = f k := fun k hk => by
    rw [e k (by omega)]
    unfold nxR
    rw [if_pos hk]
  have ei : f' i = f j := by
    rw [e i (by omega)]
    unfold nxR
    rw [if_neg (by omega), if_pos rfl]
  have inc : ∀ k k', i < k → k < k' → k' < n → f' k < f' k' := fun k k' h5 h6 h7 => by
    rw [e k (by omega), e k' h7]
    rcases nx_cases n i j k with c | c | ⟨c1, c2, c3⟩ | ⟨c1, c2, c3⟩
    · omega
    · omega
    · rcases nx_cases n i j k' with d | d | ⟨d1, d2, d3⟩ | ⟨d1, d2, d3⟩
      · omega
      · omega
      · omega
      · rw [c3, d3]
        have := desc' h2 (k := i + n - k') (k' := j) (by omega) (by omega) hjn
        omega
    · rcases nx_cases n i j k' with d | d | ⟨d1, d2, d3⟩ | ⟨d1, d2, d3⟩
      · omega
      · omega
      · rw [c3, d3]
        exact h4 _ (by omega) (by omega)
      · rw [c3, d3]
        exact desc' h2 (by omega) (by omega) (by omega)
  refine ⟨A', ⟨i, by omega, fun k hk => (lo k hk).symm, by rw [ei]; exact h3⟩, fun g G ⟨p, p1, p2, p3⟩ ⟨q, q1, q2, q3⟩ => ?_⟩
  by_cases c1 : i < p
  · exact next_no A G p1 p2 p3 (fun m h5 h6 => desc' h2 c1 h5 h6)
  · by_cases c2 : p < i
    · by_cases d1 : q < p
      · have := p2 q d1
        have := lo q (by omega)
        omega
      · by_cases d2 : q = p
        · subst d2
          have := lo q c2
          omega
        · have a1 := q2 p (by omega)
          have a2 := lo p c2
          omega
    · have c3 : p = i := by omega
      subst c3
      by_cases d1 : q < p
      · have := p2 q d1
        have := lo q d1
        omega
      · by_cases d2 : q = p
        · subst d2
          obtain ⟨m, hm, em⟩ := A.2 (g q) (G.1 q p1)
          by_cases z1 : m < q
          · have a1 := p2 m z1
            have := G.2 m q hm p1 (by rw [← a1, em])
            omega
          · by_cases z2 : m = q
            · subst z2
              omega
            · by_cases z3 : j < m
              · have := h4 m z3 hm
                omega
              · by_cases z4 : m = j
                · subst z4
                  omega
                · have := desc' h2 (k := m) (k' := j) (by omega) (by omega) hjn
                  omega
        · obtain ⟨m, hm, em⟩ := A'.2 (g q) (G.1 q q1)
          by_cases z1 : m < q
          · have a1 := q2 m z1
            have := G.2 m q hm q1 (by rw [a1, em])
            omega
          · by_cases z2 : m = q
            · subst z2
              omega
            · have := inc q m (by omega) (by omega) hm
              omega
/-! how many orders: the number of an order among all -/
def pre (f : Nat → Nat) : Nat → Nat → Bool
  | 0 => fun _ => false
  | k + 1 => sA (pre f k) (f k)
theorem pre_mem {f : Nat → Nat} {x : Nat} : ∀ k, pre f k x = true ↔ ∃ i, i < k ∧ f i = x := by
  intro k
  induction k with
  | zero => exact ⟨fun h => Bool.noConfusion h, fun ⟨i, h, _⟩ => by omega⟩
  | succ k ih =>
    simp only [pre, sA, Bool.or_eq_true, decide_eq_true_eq, ih]
    refine ⟨fun h => ?_, fun ⟨i, h1, h2⟩ => ?_⟩
    · rcases h with ⟨i, h1, h2⟩ | h
      · exact ⟨i, by omega, h2⟩
      · exact ⟨k, by omega, h.symm⟩
    · by_cases z : i = k
      · subst z
        exact Or.inr h2.symm
      · exact Or.inl ⟨i, by omega, h2⟩
theorem pre_no {n k : Nat} {f : Nat → Nat} (G : Pm n f) (hk : k < n) : pre f k (f k) = false := by
  cases q : pre f k (f k) with
  | false => rfl
  | true =>
    obtain ⟨i, h1, h2⟩ := (pre_mem k).mp q
    have := G.2 i k (by omega) hk h2
    omega
theorem pre_cnt {n : Nat} {f : Nat → Nat} (G : Pm n f) : ∀ k, k ≤ n → cnt (fun x => !(pre f k x)) n + k = n := by
  intro k
  induction k with
  | zero =>
    intro _
    have : ∀ s, cnt (fun _ => true) s = s := by
      intro s
      induction s with
      | zero => rfl
      | succ s ih => simp only [cnt, ih, if_true]
    exact this n
  | succ k ih =>
    intro hk
    have I := ih (by omega)
    have e2 := cnt_add (f := fun y => !(pre f (k + 1) y)) (p := f k) n (G.1 k (by omega)) (by
      simp only [pre, sA, decide_true, Bool.or_true, Bool.not_true])
    have e3 : cnt (fun i => !(pre f (k + 1) i) || decide (i = f k)) n = cnt (fun x => !(pre f k x)) n := cnt_congr n (fun i hi => by
      by_cases z : i = f k
      · rw [z, pre_no G (by omega)]
        simp only [decide_true, Bool.or_true, Bool.not_false]
      · simp only [pre, sA, z, decide_false, Bool.or_false])
    rw [e3] at e2
    omega
def rc (f : Nat → Nat) (n k : Nat) : Nat := cnt (fun x => !(pre f k x) && decide (x < f k)) n
def fct : Nat → Nat
  | 0 => 1
  | d + 1 => (d + 1) * fct d
def rk (f : Nat → Nat) (n : Nat) : Nat → Nat → Nat
  | _, 0 => 0
  | k, d + 1 => rc f n k * fct d + rk f n (k + 1) d
theorem rc_lt {n k : Nat} {f : Nat → Nat} (G : Pm n f) (hk : k < n) : rc f n k + k + 1 ≤ n := by
  have h1 := pre_cnt G k (by omega)
  have h2 : rc f n k < cnt (fun x => !(pre f k x)) n := by
    refine cnt_lt n (f k) (fun i hi q => ?_) (G.1 k hk) ?_ ?_
    · rw [Bool.and_eq_true] at q
      exact q.1
    · rw [decide_eq_false (Nat.lt_irrefl _), Bool.and_false]
    · rw [pre_no G hk]
      rfl
  omega
theorem fct_pos : ∀ d, 0 < fct d := by
  intro d
  induction d with
  | zero => exact Nat.one_pos
  | succ d ih => exact Nat.mul_pos (Nat.succ_pos d) ih
theorem rk_lt {n : Nat} {f : Nat → Nat} (G : Pm n f) : ∀ d k, k + d = n → rk f n k d < fct d := by
  intro d
  induction d with
  | zero => intro k _; exact Nat.one_pos
  | succ d ih =>
    intro k hk
    have I := ih (k + 1) (by omega)
    have R := rc_lt G (by omega : k < n)
    have h1 : rc f n k * fct d ≤ d * fct d := Nat.mul_le_mul_right _ (by omega)
    simp only [rk, fct]
    rw [Nat.succ_mul]
    omega
theorem rk_mono {n : Nat} {f g : Nat → Nat} (F : Pm n f) {p : Nat} (p1 : p < n) (p2 : ∀ k, k < p → f k = g k) (p3 : f p < g p) : ∀ d k, k + d = n → k ≤ p → rk f n k d < rk g n k d := by
  have pe : ∀ k, k ≤ p → pre f k = pre g k := by
    intro k
    induction k with
    | zero => intro _; rfl
    | succ k ih =>
      intro hk
      simp only [pre, ih (by omega), p2 k (by omega)]
  intro d
  induction d with
  | zero => intro k h1 h2; omega
  | succ d ih =>
    intro k h1 h2
    simp only [rk]
    by_cases z : k = p
    · subst z
      have h3 : rc f n k < rc g n k := by
        refine cnt_lt n (f k) (fun i hi q => ?_) (F.1 k p1) ?_ ?_
        · rw [Bool.and_eq_true, decide_eq_true_eq] at q
          rw [Bool.and_eq_true, decide_eq_true_eq, ← pe k (Nat.le_refl _)]
          exact ⟨q.1, by omega⟩
        · rw [decide_eq_false (Nat.lt_irrefl _), Bool.and_false]
        · rw [← pe k (Nat.le_refl _), pre_no F p1, decide_eq_true p3]
          rfl
      have h4 := rk_lt F d (k + 1) (by omega)
      have h5 : (rc f n k + 1) * fct d ≤ rc g n k * fct d := Nat.mul_le_mul_right _ h3
      rw [Nat.succ_mul] at h5
      omega
    · have I := ih (k + 1) (by omega) (by omega)
      have e : rc f n k = rc g n k := by
        simp only [rc, pe k h2, p2 k (by omega)]
      rw [e]
      omega
theorem fct_8 {n : Nat} (h : n ≤ 8) : fct n ≤ 40320 := by
  have : n = 0 ∨ n = 1 ∨ n = 2 ∨ n = 3 ∨ n = 4 ∨ n = 5 ∨ n = 6 ∨ n = 7 ∨ n = 8 := by omega
  rcases this with e | e | e | e | e | e | e | e | e <;> subst e <;> decide
/-- a loop by a measure that grows -/
theorem loop_meas {S X : Type} (body : S → Option (S ⊕ X)) (I : Nat → S → Prop) (Q : X → Prop) (B : Nat) (hB : ∀ m σ, I m σ → m ≤ B) (hs : ∀ m σ, I m σ → (∃ m' σ', m < m' ∧ body σ = some (.inl σ') ∧ I m' σ') ∨ ∃ x, body σ = some (.inr x) ∧ Q x) : ∀ n m σ, B < m + n → I m σ → ∃ x, oh_loop body n σ = some x ∧ Q x := by
  intro n
  induction n with
  | zero =>
    intro m σ h1 h2
    have := hB m σ h2
    omega
  | succ n ih =>
    intro m σ h1 h2
    rcases hs m σ h2 with ⟨m', σ', k1, k2, k3⟩ | ⟨x, k1, k2⟩
    · obtain ⟨x, j1, j2⟩ := ih m' σ' (by omega) k3
      exact ⟨x, by simp only [oh_loop, k2, j1], j2⟩
    · exact ⟨x, by simp only [oh_loop, k1], k2⟩
