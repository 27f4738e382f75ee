/-! small programs -/
theorem loop_run {S X : Type} (body : S → Option (S ⊕ X)) (st : Nat → S) (s : Nat) (x : X) (hs : ∀ k, k < s → body (st k) = some (.inl (st (k + 1)))) (he : body (st s) = some (.inr x)) : ∀ n, s < n → oh_loop body n (st 0) = some x := by
  have key : ∀ d k n, k + d = s → d < n → oh_loop body n (st k) = some x := by
    intro d
    induction d with
    | zero =>
      intro k n hk hn
      have : k = s := by omega
      subst this
      cases n with
      | zero => omega
      | succ n => simp only [oh_loop, he]
    | succ d ih =>
      intro k n hk hn
      cases n with
      | zero => omega
      | succ n =>
        simp only [oh_loop, hs k (by omega)]
        exact ih (k + 1) n (by omega) (by omega)
  intro n hn
  exact key s 0 n (by omega) hn
theorem e_bz0 {α : Type} (k : Option α) : oh_bz 0 k = k := rfl
theorem e_bz1 {α : Type} (k : Option α) : oh_bz 1 k = k := rfl
theorem e_isWithin (h : oh_H) (x y z : Int32) : f_X7_isWithin h x y z = some (if y ≤ x ∧ x ≤ z then 1 else 0) := by
  unfold f_X7_isWithin f_X7_isWithin_14 f_X7_isWithin_15
  by_cases h1 : x < y
  · rw [if_pos h1, if_neg (fun q => Int32.not_lt.mpr q.1 h1)]
    rfl
  · rw [if_neg h1]
    by_cases h2 : z < x
    · rw [if_pos h2, if_neg (fun q => Int32.not_lt.mpr q.2 h2)]
      rfl
    · rw [if_neg h2, if_pos ⟨Int32.not_lt.mp h1, Int32.not_lt.mp h2⟩]
      rfl
theorem e_in (h : oh_H) (x y z : Int32) : f_X8_in h x y z = some (if y ≤ x ∧ x ≤ z then 1 else 0) := by
  unfold f_X8_in f_X8_in_14 f_X8_in_15
  by_cases h1 : x < y
  · rw [if_pos h1, if_neg (fun q => Int32.not_lt.mpr q.1 h1)]
    rfl
  · rw [if_neg h1]
    by_cases h2 : z < x
    · rw [if_pos h2, if_neg (fun q => Int32.not_lt.mpr q.2 h2)]
      rfl
    · rw [if_neg h2, if_pos ⟨Int32.not_lt.mp h1, Int32.not_lt.mp h2⟩]
      rfl
theorem e_bz_if {α : Type} {c : Prop} (A : Decidable c) (K : Int32 → Option α) : oh_bz (if c then 1 else 0 : Int32) (K (if c then 1 else 0)) = K (if c then 1 else 0) := by
  by_cases q : c <;> simp [q, oh_bz]
theorem e_isFarmer (h : oh_H) (x : Int32) : f_X7_isFarmer h x = some (if 0 ≤ x ∧ x ≤ 39 then 1 else 0) := by
  unfold f_X7_isFarmer
  rw [e_isWithin, Option.bind_some]
  by_cases q : (0 : Int32) ≤ x ∧ x ≤ 39 <;> simp [q, oh_bz]
theorem e_isSort (h : oh_H) (x : Int32) : f_X7_isSort h x = some (if 0 ≤ x ∧ x ≤ 2 then 1 else 0) := by
  unfold f_X7_isSort
  rw [e_isWithin, Option.bind_some]
  by_cases q : (0 : Int32) ≤ x ∧ x ≤ 2 <;> simp [q, oh_bz]
theorem e_gI {h : oh_H} {a c : Nat} (hK : oh_K h a = c / 64 + 1) : oh_gI h (some a) c = some (oh_FI h c a) := by simp only [oh_gI, Option.bind_some, if_pos hK]
theorem e_gL {h : oh_H} {a c : Nat} (hK : oh_K h a = c / 64 + 1) : oh_gL h (some a) c = some (oh_FL h c a) := by simp only [oh_gL, Option.bind_some, if_pos hK]
theorem e_gR {h : oh_H} {a c : Nat} (hK : oh_K h a = c / 64 + 1) : oh_gR h (some a) c = some (oh_FR h c a) := by simp only [oh_gR, Option.bind_some, if_pos hK]
theorem e_pI {h : oh_H} {a c : Nat} {x : Int32} (hK : oh_K h a = c / 64 + 1) : oh_pI h (some a) c x = some (oh_wI h c a x) := by simp only [oh_pI, Option.bind_some, if_pos hK]
theorem e_pL {h : oh_H} {a c : Nat} {x : Int64} (hK : oh_K h a = c / 64 + 1) : oh_pL h (some a) c x = some (oh_wL h c a x) := by simp only [oh_pL, Option.bind_some, if_pos hK]
theorem e_pR {h : oh_H} {a c : Nat} {x : Option Nat} (hK : oh_K h a = c / 64 + 1) : oh_pR h (some a) c x = some (oh_wR h c a x) := by simp only [oh_pR, Option.bind_some, if_pos hK]
theorem e_rc {α : Type} {h : oh_H} {a kd : Nat} {K : Nat → Option α} (hK : oh_K h a = kd) : oh_rc h (some a) kd K = K a := by simp only [oh_rc, Option.bind_some, if_pos hK]
theorem e_ix {i n : Nat} (hi : i < n) (hn : n < 2 ^ 31) : 0 ≤ (nI i).toInt ∧ (nI i).toInt < n ∧ (nI i).toNatClampNeg = i := by
  rw [nI_toInt (by omega), nI_clamp (by omega)]
  omega
theorem e_aI {h : oh_H} {b kd i n : Nat} (hK : oh_K h b = kd) (hN : oh_N h b = n) (hi : i < n) (hn : n < 2 ^ 31) : oh_aI h (some b) kd (nI i) = some (oh_AI h b i) := by
  obtain ⟨h1, h2, h3⟩ := e_ix hi hn
  simp only [oh_aI, Option.bind_some, hN, h3]
  rw [if_pos ⟨hK, h1, h2⟩]
theorem e_aL {h : oh_H} {b i n : Nat} (hK : oh_K h b = 21) (hN : oh_N h b = n) (hi : i < n) (hn : n < 2 ^ 31) : oh_aL h (some b) (nI i) = some (oh_AL h b i) := by
  obtain ⟨h1, h2, h3⟩ := e_ix hi hn
  simp only [oh_aL, Option.bind_some, hN, h3]
  rw [if_pos ⟨hK, h1, h2⟩]
theorem e_aR {h : oh_H} {b kd i n : Nat} (hK : oh_K h b = kd) (hN : oh_N h b = n) (hi : i < n) (hn : n < 2 ^ 31) : oh_aR h (some b) kd (nI i) = some (oh_AR h b i) := by
  obtain ⟨h1, h2, h3⟩ := e_ix hi hn
  simp only [oh_aR, Option.bind_some, hN, h3]
  rw [if_pos ⟨hK, h1, h2⟩]
theorem e_tI {h : oh_H} {b kd i n : Nat} {x : Int32} (hK : oh_K h b = kd) (hN : oh_N h b = n) (hi : i < n) (hn : n < 2 ^ 31) : oh_tI h (some b) kd (nI i) x = some (oh_sI h b i x) := by
  obtain ⟨h1, h2, h3⟩ := e_ix hi hn
  simp only [oh_tI, Option.bind_some, hN, h3]
  rw [if_pos ⟨hK, h1, h2⟩]
theorem e_tL {h : oh_H} {b i n : Nat} {x : Int64} (hK : oh_K h b = 21) (hN : oh_N h b = n) (hi : i < n) (hn : n < 2 ^ 31) : oh_tL h (some b) (nI i) x = some (oh_sL h b i x) := by
  obtain ⟨h1, h2, h3⟩ := e_ix hi hn
  simp only [oh_tL, Option.bind_some, hN, h3]
  rw [if_pos ⟨hK, h1, h2⟩]
theorem e_tR {h : oh_H} {b kd ci i n : Nat} {x : Option Nat} (hK : oh_K h b = kd) (hN : oh_N h b = n) (hi : i < n) (hn : n < 2 ^ 31) (hx : ∀ c, x = some c → oh_K h c = ci + 1) : oh_tR h (some b) kd ci (nI i) x = some (oh_sR h b i x) := by
  obtain ⟨h1, h2, h3⟩ := e_ix hi hn
  simp only [oh_tR, Option.bind_some, hN, h3]
  exact if_pos ⟨⟨hK, h1, h2⟩, hx⟩
