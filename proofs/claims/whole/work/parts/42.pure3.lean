/-! numbers -/
theorem i_lt {a b : Int32} : a < b ↔ a.toInt < b.toInt := Int32.lt_iff_toInt_lt
theorem i_le {a b : Int32} : a ≤ b ↔ a.toInt ≤ b.toInt := Int32.le_iff_toInt_le
theorem i_eq {a b : Int32} : a = b ↔ a.toInt = b.toInt := Int32.toInt_inj.symm
theorem i_bm {x : Int} (h1 : -2147483648 ≤ x) (h2 : x < 2147483648) : x.bmod (2 ^ 32) = x := by
  have e : ((2 ^ 32 : Nat) : Int) = 4294967296 := rfl
  unfold Int.bmod
  simp only [e]
  split <;> omega
theorem i_add {a b : Int32} (h1 : -2147483648 ≤ a.toInt + b.toInt) (h2 : a.toInt + b.toInt < 2147483648) : (a + b).toInt = a.toInt + b.toInt := by rw [Int32.toInt_add, i_bm h1 h2]
theorem i_sub {a b : Int32} (h1 : -2147483648 ≤ a.toInt - b.toInt) (h2 : a.toInt - b.toInt < 2147483648) : (a - b).toInt = a.toInt - b.toInt := by rw [Int32.toInt_sub, i_bm h1 h2]
theorem i_mul {a b : Int32} (h1 : -2147483648 ≤ a.toInt * b.toInt) (h2 : a.toInt * b.toInt < 2147483648) : (a * b).toInt = a.toInt * b.toInt := by rw [Int32.toInt_mul, i_bm h1 h2]
theorem l_lt {a b : Int64} : a < b ↔ a.toInt < b.toInt := Int64.lt_iff_toInt_lt
theorem l_le {a b : Int64} : a ≤ b ↔ a.toInt ≤ b.toInt := Int64.le_iff_toInt_le
theorem l_eq {a b : Int64} : a = b ↔ a.toInt = b.toInt := Int64.toInt_inj.symm
theorem l_bm {x : Int} (h1 : -9223372036854775808 ≤ x) (h2 : x < 9223372036854775808) : x.bmod (2 ^ 64) = x := by
  have e : ((2 ^ 64 : Nat) : Int) = 18446744073709551616 := rfl
  unfold Int.bmod
  simp only [e]
  split <;> omega
theorem l_add {a b : Int64} (h1 : -9223372036854775808 ≤ a.toInt + b.toInt) (h2 : a.toInt + b.toInt < 9223372036854775808) : (a + b).toInt = a.toInt + b.toInt := by rw [Int64.toInt_add, l_bm h1 h2]
theorem l_sub {a b : Int64} (h1 : -9223372036854775808 ≤ a.toInt - b.toInt) (h2 : a.toInt - b.toInt < 9223372036854775808) : (a - b).toInt = a.toInt - b.toInt := by rw [Int64.toInt_sub, l_bm h1 h2]
theorem l_mul {a b : Int64} (h1 : -9223372036854775808 ≤ a.toInt * b.toInt) (h2 : a.toInt * b.toInt < 9223372036854775808) : (a * b).toInt = a.toInt * b.toInt := by rw [Int64.toInt_mul, l_bm h1 h2]
theorem i_0 : (0 : Int32).toInt = 0 := rfl
theorem i_1 : (1 : Int32).toInt = 1 := rfl
theorem i_of {x : Int32} {n : Nat} (h0 : 0 ≤ x.toInt) (hn : x.toInt < n) : ∃ i, i < n ∧ x = nI i := by
  refine ⟨x.toInt.toNat, by omega, ?_⟩
  have h2 := x.toInt_lt
  rw [i_eq, nI_toInt (by omega)]
  omega
theorem i_n1 {n : Nat} (hn : n < 2 ^ 31) : (nI n - 1).toInt = (n : Int) - 1 := by
  rw [i_sub] <;> rw [nI_toInt hn, i_1] <;> omega
/-- an index from 0 to n - 1, or none -/
theorem i_cases (x : Int32) {n : Nat} (hn : n < 2 ^ 31) : (∃ i, i < n ∧ x = nI i) ∨ ¬ (0 ≤ x ∧ x ≤ nI n - 1) := by
  by_cases q : 0 ≤ x ∧ x ≤ nI n - 1
  · left
    have h0 : 0 ≤ x.toInt := i_le.mp q.1
    have h1 := i_le.mp q.2
    rw [i_n1 hn] at h1
    exact i_of h0 (by omega)
  · exact Or.inr q
theorem i_in {i n : Nat} (hi : i < n) (hn : n < 2 ^ 31) : 0 ≤ nI i ∧ nI i ≤ nI n - 1 := by
  rw [i_le, i_le, i_n1 hn, nI_toInt (by omega), i_0]
  omega
/-! who is found -/
theorem e_findLot_no {h : oh_H} {a nl : Nat} {x : Int32} (hK : oh_K h a = 8) (hT : oh_FI h 456 a = nI nl) (hx : ¬ (0 ≤ x ∧ x ≤ nI nl - 1)) : f_X7_findLot h a x = some none := by
  unfold f_X7_findLot f_X7_findLot_24
  rw [e_gI (by rw [hK]), Option.bind_some, e_isWithin, Option.bind_some, hT, if_neg hx, if_pos rfl]
theorem e_findLot {h : oh_H} {a nl i : Nat} (hK : oh_K h a = 8) (hT : oh_FI h 456 a = nI nl) (hR : oh_FR h 449 a = some (a + 2)) (hK2 : oh_K h (a + 2) = 24) (hN2 : oh_N h (a + 2) = 200) (hi : i < nl) (hnl : nl ≤ 200) : f_X7_findLot h a (nI i) = some (oh_AR h (a + 2) i) := by
  unfold f_X7_findLot f_X7_findLot_24
  rw [e_gI (by rw [hK]), Option.bind_some, e_isWithin, Option.bind_some, hT, if_pos (i_in hi (by omega)), if_neg (by decide), e_gR (by rw [hK]), Option.bind_some, hR, e_aR hK2 hN2 (by omega) (by omega), Option.bind_some]
theorem e_isLot_no {h : oh_H} {m nl : Nat} {x : Int32} (hK : oh_K h m = 9) (hT : oh_FI h 519 m = nI nl) (hx : ¬ (0 ≤ x ∧ x ≤ nI nl - 1)) : f_X8_isLot h m x = some 0 := by
  unfold f_X8_isLot
  rw [e_gI (by rw [hK]), Option.bind_some, e_in, Option.bind_some, hT, if_neg hx]
  rfl
theorem e_isLot {h : oh_H} {m nl i : Nat} (hK : oh_K h m = 9) (hT : oh_FI h 519 m = nI nl) (hi : i < nl) (hnl : nl ≤ 200) : f_X8_isLot h m (nI i) = some 1 := by
  unfold f_X8_isLot
  rw [e_gI (by rw [hK]), Option.bind_some, e_in, Option.bind_some, hT, if_pos (i_in hi (by omega))]
  rfl
