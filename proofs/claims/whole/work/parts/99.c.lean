theorem scr_at {xs : Nat → Int32} {L j : Nat} (hj : j < L) (hL : L ≤ 2048) : oh_scr xs L (nI j) = some (xs j) := by
  unfold oh_scr
  rw [nI_toInt (by omega), nI_clamp (by omega), if_pos (by omega)]
theorem k9_of {h h2 : oh_H} {a ng nl nv n : Nat} (R : RR h2 a ng nl nv n) (z : ¬ oh_K h (a + 26) = 9 → h2 = h) : oh_K h (a + 26) = 9 := Classical.byContradiction fun hK => hK (by
  rw [← z hK]
  exact sK_26 R.1)
theorem rc_of {h : oh_H} {o : Nat} (hK : oh_K h o = 9) {α : Type} (F : Nat → Option α) : oh_rc h (some o) 9 F = F o := e_rc hK
set_option maxHeartbeats 2000000 in
theorem t_grove {xs : Nat → Int32} {L o k a ng nl nv : Nat} {h : oh_H} (hL : L ≤ 2048) (hk : 4 * k + 4 ≤ L) (R : RR h a ng nl nv k)  (q0 : xs (4 * k) &&& 31 = 0) : ∃ h2 ng nl nv, b_L_law_18 xs L h o (some a) (some (a + 26)) (nI (4 * k)) = some (.inl (h2, nI (4 * (k + 1)))) ∧ RR h2 a ng nl nv (k + 1) := by
  have P := R.1
  have hlt : (Int32.ofNat L - 4 < nI (4 * k)) = False := eq_false (fun z => by
    have z2 := i_lt.mp z
    have e : (Int32.ofNat L - 4).toInt = (L : Int) - 4 := by
      show (nI L - 4).toInt = _
      rw [i_sub] <;> rw [nI_toInt (by omega), show (4 : Int32).toInt = 4 from rfl] <;> omega
    rw [e, nI_toInt (by omega)] at z2
    omega)
  have s0 := scr_at (xs := xs) (show 4 * k < L by omega) hL
  have s1 := scr_at (xs := xs) (show 4 * k + 1 < L by omega) hL
  have s2 := scr_at (xs := xs) (show 4 * k + 2 < L by omega) hL
  have s3 := scr_at (xs := xs) (show 4 * k + 3 < L by omega) hL
  have a1 : nI (4 * k) + 1 = nI (4 * k + 1) := iN_succ _
  have a2 : nI (4 * k) + 2 = nI (4 * k + 2) := nI_add _ 2
  have a3 : nI (4 * k) + 3 = nI (4 * k + 3) := nI_add _ 3
  have a4 : nI (4 * k) + 4 = nI (4 * (k + 1)) := nI_add _ 4
  obtain ⟨r, h1, h2, ng', nl', nv', e1, e2, R2⟩ := P_grove R (xs (4 * k + 1)) (xs (4 * k + 2))
  have k9 := k9_of R2 (fun hK => z_grove hK e2)
  refine ⟨h2, ng', nl', nv', ?_, R2⟩
  simp only [b_L_law_18, f_L_law_1127, hlt, s0, s1, s2, s3, a1, a2, a3, a4, q0, Option.bind_some, oh_lt_eq, if_true, if_false, rc_0 P, rc_of k9, e1, e2]
set_option maxHeartbeats 2000000 in
theorem t_lot {xs : Nat → Int32} {L o k a ng nl nv : Nat} {h : oh_H} (hL : L ≤ 2048) (hk : 4 * k + 4 ≤ L) (R : RR h a ng nl nv k) (q0 : ¬ xs (4 * k) &&& 31 = 0) (q1 : xs (4 * k) &&& 31 = 1) : ∃ h2 ng nl nv, b_L_law_18 xs L h o (some a) (some (a + 26)) (nI (4 * k)) = some (.inl (h2, nI (4 * (k + 1)))) ∧ RR h2 a ng nl nv (k + 1) := by
  have P := R.1
  have hlt : (Int32.ofNat L - 4 < nI (4 * k)) = False := eq_false (fun z => by
    have z2 := i_lt.mp z
    have e : (Int32.ofNat L - 4).toInt = (L : Int) - 4 := by
      show (nI L - 4).toInt = _
      rw [i_sub] <;> rw [nI_toInt (by omega), show (4 : Int32).toInt = 4 from rfl] <;> omega
    rw [e, nI_toInt (by omega)] at z2
    omega)
  have s0 := scr_at (xs := xs) (show 4 * k < L by omega) hL
  have s1 := scr_at (xs := xs) (show 4 * k + 1 < L by omega) hL
  have s2 := scr_at (xs := xs) (show 4 * k + 2 < L by omega) hL
  have s3 := scr_at (xs := xs) (show 4 * k + 3 < L by omega) hL
  have a1 : nI (4 * k) + 1 = nI (4 * k + 1) := iN_succ _
  have a2 : nI (4 * k) + 2 = nI (4 * k + 2) := nI_add _ 2
  have a3 : nI (4 * k) + 3 = nI (4 * k + 3) := nI_add _ 3
  have a4 : nI (4 * k) + 4 = nI (4 * (k + 1)) := nI_add _ 4
  have d0 : ((1 : Int32) = 0) = False := eq_false (by decide)
  obtain ⟨r, h1, h2, ng', nl', nv', e1, e2, R2⟩ := P_lot R (xs (4 * k + 1)) (xs (4 * k + 2))
  have k9 := k9_of R2 (fun hK => z_lot hK e2)
  refine ⟨h2, ng', nl', nv', ?_, R2⟩
  simp only [b_L_law_18, f_L_law_1127, hlt, s0, s1, s2, s3, a1, a2, a3, a4, q1, d0, Option.bind_some, oh_lt_eq, if_true, if_false, rc_0 P, rc_of k9, e1, e2]
set_option maxHeartbeats 2000000 in
theorem t_wish {xs : Nat → Int32} {L o k a ng nl nv : Nat} {h : oh_H} (hL : L ≤ 2048) (hk : 4 * k + 4 ≤ L) (R : RR h a ng nl nv k) (q0 : ¬ xs (4 * k) &&& 31 = 0) (q1 : ¬ xs (4 * k) &&& 31 = 1) (q2 : xs (4 * k) &&& 31 = 2) : ∃ h2 ng nl nv, b_L_law_18 xs L h o (some a) (some (a + 26)) (nI (4 * k)) = some (.inl (h2, nI (4 * (k + 1)))) ∧ RR h2 a ng nl nv (k + 1) := by
  have P := R.1
  have hlt : (Int32.ofNat L - 4 < nI (4 * k)) = False := eq_false (fun z => by
    have z2 := i_lt.mp z
    have e : (Int32.ofNat L - 4).toInt = (L : Int) - 4 := by
      show (nI L - 4).toInt = _
      rw [i_sub] <;> rw [nI_toInt (by omega), show (4 : Int32).toInt = 4 from rfl] <;> omega
    rw [e, nI_toInt (by omega)] at z2
    omega)
  have s0 := scr_at (xs := xs) (show 4 * k < L by omega) hL
  have s1 := scr_at (xs := xs) (show 4 * k + 1 < L by omega) hL
  have s2 := scr_at (xs := xs) (show 4 * k + 2 < L by omega) hL
  have s3 := scr_at (xs := xs) (show 4 * k + 3 < L by omega) hL
  have a1 : nI (4 * k) + 1 = nI (4 * k + 1) := iN_succ _
  have a2 : nI (4 * k) + 2 = nI (4 * k + 2) := nI_add _ 2
  have a3 : nI (4 * k) + 3 = nI (4 * k + 3) := nI_add _ 3
  have a4 : nI (4 * k) + 4 = nI (4 * (k + 1)) := nI_add _ 4
  have d0 : ((2 : Int32) = 0) = False := eq_false (by decide)
  have d1 : ((2 : Int32) = 1) = False := eq_false (by decide)
  by_cases w0 : xs (4 * k + 2) = 0
  · obtain ⟨r, h1, h2, ng', nl', nv', e1, e2, R2⟩ := P_wish R (xs (4 * k + 1)) 0 (Or.inl rfl)
    have k9 := k9_of R2 (fun hK => z_wish hK e2)
    refine ⟨h2, ng', nl', nv', ?_, R2⟩
    simp only [b_L_law_18, f_L_law_1127, hlt, s0, s1, s2, s3, a1, a2, a3, a4, q2, d0, d1, Option.bind_some, oh_lt_eq, if_true, if_false, f_L_law_257, f_L_law_279, w0, rc_0 P, rc_of k9, e1, e2]
  · obtain ⟨r, h1, h2, ng', nl', nv', e1, e2, R2⟩ := P_wish R (xs (4 * k + 1)) 1 (Or.inr rfl)
    have k9 := k9_of R2 (fun hK => z_wish hK e2)
    refine ⟨h2, ng', nl', nv', ?_, R2⟩
    simp only [b_L_law_18, f_L_law_1127, hlt, s0, s1, s2, s3, a1, a2, a3, a4, q2, d0, d1, Option.bind_some, oh_lt_eq, if_true, if_false, f_L_law_257, f_L_law_279, w0, rc_0 P, rc_of k9, e1, e2]
set_option maxHeartbeats 2000000 in
theorem t_scale {xs : Nat → Int32} {L o k a ng nl nv : Nat} {h : oh_H} (hL : L ≤ 2048) (hk : 4 * k + 4 ≤ L) (R : RR h a ng nl nv k) (q0 : ¬ xs (4 * k) &&& 31 = 0) (q1 : ¬ xs (4 * k) &&& 31 = 1) (q2 : ¬ xs (4 * k) &&& 31 = 2) (q3 : xs (4 * k) &&& 31 = 3) : ∃ h2 ng nl nv, b_L_law_18 xs L h o (some a) (some (a + 26)) (nI (4 * k)) = some (.inl (h2, nI (4 * (k + 1)))) ∧ RR h2 a ng nl nv (k + 1) := by
  have P := R.1
  have hlt : (Int32.ofNat L - 4 < nI (4 * k)) = False := eq_false (fun z => by
    have z2 := i_lt.mp z
    have e : (Int32.ofNat L - 4).toInt = (L : Int) - 4 := by
      show (nI L - 4).toInt = _
      rw [i_sub] <;> rw [nI_toInt (by omega), show (4 : Int32).toInt = 4 from rfl] <;> omega
    rw [e, nI_toInt (by omega)] at z2
    omega)
  have s0 := scr_at (xs := xs) (show 4 * k < L by omega) hL
  have s1 := scr_at (xs := xs) (show 4 * k + 1 < L by omega) hL
  have s2 := scr_at (xs := xs) (show 4 * k + 2 < L by omega) hL
  have s3 := scr_at (xs := xs) (show 4 * k + 3 < L by omega) hL
  have a1 : nI (4 * k) + 1 = nI (4 * k + 1) := iN_succ _
  have a2 : nI (4 * k) + 2 = nI (4 * k + 2) := nI_add _ 2
  have a3 : nI (4 * k) + 3 = nI (4 * k + 3) := nI_add _ 3
  have a4 : nI (4 * k) + 4 = nI (4 * (k + 1)) := nI_add _ 4
  have d0 : ((3 : Int32) = 0) = False := eq_false (by decide)
  have d1 : ((3 : Int32) = 1) = False := eq_false (by decide)
  have d2 : ((3 : Int32) = 2) = False := eq_false (by decide)
  obtain ⟨r, h1, h2, ng', nl', nv', e1, e2, R2⟩ := P_scale R (xs (4 * k + 1))
  have k9 := k9_of R2 (fun hK => z_scale hK e2)
  refine ⟨h2, ng', nl', nv', ?_, R2⟩
  simp only [b_L_law_18, f_L_law_1127, hlt, s0, s1, s2, s3, a1, a2, a3, a4, q3, d0, d1, d2, Option.bind_some, oh_lt_eq, if_true, if_false, rc_0 P, rc_of k9, e1, e2]
set_option maxHeartbeats 2000000 in
theorem t_weigh {xs : Nat → Int32} {L o k a ng nl nv : Nat} {h : oh_H} (hL : L ≤ 2048) (hk : 4 * k + 4 ≤ L) (R : RR h a ng nl nv k) (q0 : ¬ xs (4 * k) &&& 31 = 0) (q1 : ¬ xs (4 * k) &&& 31 = 1) (q2 : ¬ xs (4 * k) &&& 31 = 2) (q3 : ¬ xs (4 * k) &&& 31 = 3) (q4 : xs (4 * k) &&& 31 = 4) : ∃ h2 ng nl nv, b_L_law_18 xs L h o (some a) (some (a + 26)) (nI (4 * k)) = some (.inl (h2, nI (4 * (k + 1)))) ∧ RR h2 a ng nl nv (k + 1) := by
  have P := R.1
  have hlt : (Int32.ofNat L - 4 < nI (4 * k)) = False := eq_false (fun z => by
    have z2 := i_lt.mp z
    have e : (Int32.ofNat L - 4).toInt = (L : Int) - 4 := by
      show (nI L - 4).toInt = _
      rw [i_sub] <;> rw [nI_toInt (by omega), show (4 : Int32).toInt = 4 from rfl] <;> omega
    rw [e, nI_toInt (by omega)] at z2
    omega)
  have s0 := scr_at (xs := xs) (show 4 * k < L by omega) hL
  have s1 := scr_at (xs := xs) (show 4 * k + 1 < L by omega) hL
  have s2 := scr_at (xs := xs) (show 4 * k + 2 < L by omega) hL
  have s3 := scr_at (xs := xs) (show 4 * k + 3 < L by omega) hL
  have a1 : nI (4 * k) + 1 = nI (4 * k + 1) := iN_succ _
  have a2 : nI (4 * k) + 2 = nI (4 * k + 2) := nI_add _ 2
  have a3 : nI (4 * k) + 3 = nI (4 * k + 3) := nI_add _ 3
  have a4 : nI (4 * k) + 4 = nI (4 * (k + 1)) := nI_add _ 4
  have d0 : ((4 : Int32) = 0) = False := eq_false (by decide)
  have d1 : ((4 : Int32) = 1) = False := eq_false (by decide)
  have d2 : ((4 : Int32) = 2) = False := eq_false (by decide)
  have d3 : ((4 : Int32) = 3) = False := eq_false (by decide)
  obtain ⟨r, h1, h2, ng', nl', nv', e1, e2, R2⟩ := P_weigh R (xs (4 * k + 1)) (xs (4 * k + 2))
  have k9 := k9_of R2 (fun hK => z_weigh hK e2)
  refine ⟨h2, ng', nl', nv', ?_, R2⟩
  simp only [b_L_law_18, f_L_law_1127, hlt, s0, s1, s2, s3, a1, a2, a3, a4, q4, d0, d1, d2, d3, Option.bind_some, oh_lt_eq, if_true, if_false, rc_0 P, rc_of k9, e1, e2]
set_option maxHeartbeats 2000000 in
theorem t_sample {xs : Nat → Int32} {L o k a ng nl nv : Nat} {h : oh_H} (hL : L ≤ 2048) (hk : 4 * k + 4 ≤ L) (R : RR h a ng nl nv k) (q0 : ¬ xs (4 * k) &&& 31 = 0) (q1 : ¬ xs (4 * k) &&& 31 = 1) (q2 : ¬ xs (4 * k) &&& 31 = 2) (q3 : ¬ xs (4 * k) &&& 31 = 3) (q4 : ¬ xs (4 * k) &&& 31 = 4) (q5 : xs (4 * k) &&& 31 = 5) : ∃ h2 ng nl nv, b_L_law_18 xs L h o (some a) (some (a + 26)) (nI (4 * k)) = some (.inl (h2, nI (4 * (k + 1)))) ∧ RR h2 a ng nl nv (k + 1) := by
  have P := R.1
  have hlt : (Int32.ofNat L - 4 < nI (4 * k)) = False := eq_false (fun z => by
    have z2 := i_lt.mp z
    have e : (Int32.ofNat L - 4).toInt = (L : Int) - 4 := by
      show (nI L - 4).toInt = _
      rw [i_sub] <;> rw [nI_toInt (by omega), show (4 : Int32).toInt = 4 from rfl] <;> omega
    rw [e, nI_toInt (by omega)] at z2
    omega)
  have s0 := scr_at (xs := xs) (show 4 * k < L by omega) hL
  have s1 := scr_at (xs := xs) (show 4 * k + 1 < L by omega) hL
  have s2 := scr_at (xs := xs) (show 4 * k + 2 < L by omega) hL
  have s3 := scr_at (xs := xs) (show 4 * k + 3 < L by omega) hL
  have a1 : nI (4 * k) + 1 = nI (4 * k + 1) := iN_succ _
  have a2 : nI (4 * k) + 2 = nI (4 * k + 2) := nI_add _ 2
  have a3 : nI (4 * k) + 3 = nI (4 * k + 3) := nI_add _ 3
  have a4 : nI (4 * k) + 4 = nI (4 * (k + 1)) := nI_add _ 4
  have d0 : ((5 : Int32) = 0) = False := eq_false (by decide)
  have d1 : ((5 : Int32) = 1) = False := eq_false (by decide)
  have d2 : ((5 : Int32) = 2) = False := eq_false (by decide)
  have d3 : ((5 : Int32) = 3) = False := eq_false (by decide)
  have d4 : ((5 : Int32) = 4) = False := eq_false (by decide)
  obtain ⟨r, h1, h2, ng', nl', nv', e1, e2, R2⟩ := P_sample R (xs (4 * k + 1)) (xs (4 * k + 2)) (xs (4 * k + 3))
  have k9 := k9_of R2 (fun hK => z_sample hK e2)
  refine ⟨h2, ng', nl', nv', ?_, R2⟩
  simp only [b_L_law_18, f_L_law_1127, hlt, s0, s1, s2, s3, a1, a2, a3, a4, q5, d0, d1, d2, d3, d4, Option.bind_some, oh_lt_eq, if_true, if_false, rc_0 P, rc_of k9, e1, e2]
set_option maxHeartbeats 2000000 in
theorem t_told {xs : Nat → Int32} {L o k a ng nl nv : Nat} {h : oh_H} (hL : L ≤ 2048) (hk : 4 * k + 4 ≤ L) (R : RR h a ng nl nv k) (q0 : ¬ xs (4 * k) &&& 31 = 0) (q1 : ¬ xs (4 * k) &&& 31 = 1) (q2 : ¬ xs (4 * k) &&& 31 = 2) (q3 : ¬ xs (4 * k) &&& 31 = 3) (q4 : ¬ xs (4 * k) &&& 31 = 4) (q5 : ¬ xs (4 * k) &&& 31 = 5) (q6 : xs (4 * k) &&& 31 = 6) : ∃ h2 ng nl nv, b_L_law_18 xs L h o (some a) (some (a + 26)) (nI (4 * k)) = some (.inl (h2, nI (4 * (k + 1)))) ∧ RR h2 a ng nl nv (k + 1) := by
  have P := R.1
  have hlt : (Int32.ofNat L - 4 < nI (4 * k)) = False := eq_false (fun z => by
    have z2 := i_lt.mp z
    have e : (Int32.ofNat L - 4).toInt = (L : Int) - 4 := by
      show (nI L - 4).toInt = _
      rw [i_sub] <;> rw [nI_toInt (by omega), show (4 : Int32).toInt = 4 from rfl] <;> omega
    rw [e, nI_toInt (by omega)] at z2
    omega)
  have s0 := scr_at (xs := xs) (show 4 * k < L by omega) hL
  have s1 := scr_at (xs := xs) (show 4 * k + 1 < L by omega) hL
  have s2 := scr_at (xs := xs) (show 4 * k + 2 < L by omega) hL
  have s3 := scr_at (xs := xs) (show 4 * k + 3 < L by omega) hL
  have a1 : nI (4 * k) + 1 = nI (4 * k + 1) := iN_succ _
  have a2 : nI (4 * k) + 2 = nI (4 * k + 2) := nI_add _ 2
  have a3 : nI (4 * k) + 3 = nI (4 * k + 3) := nI_add _ 3
  have a4 : nI (4 * k) + 4 = nI (4 * (k + 1)) := nI_add _ 4
  have d0 : ((6 : Int32) = 0) = False := eq_false (by decide)
  have d1 : ((6 : Int32) = 1) = False := eq_false (by decide)
  have d2 : ((6 : Int32) = 2) = False := eq_false (by decide)
  have d3 : ((6 : Int32) = 3) = False := eq_false (by decide)
  have d4 : ((6 : Int32) = 4) = False := eq_false (by decide)
  have d5 : ((6 : Int32) = 5) = False := eq_false (by decide)
  obtain ⟨r, e1, e2⟩ := P_told R (xs (4 * k + 1)) (xs (4 * k + 2))
  refine ⟨h, ng, nl, nv, ?_, R.mono⟩
  simp only [b_L_law_18, f_L_law_1127, hlt, s0, s1, s2, s3, a1, a2, a3, a4, q6, d0, d1, d2, d3, d4, d5, Option.bind_some, oh_lt_eq, if_true, if_false, rc_0 P, rc_26 P, e1, e2]
set_option maxHeartbeats 2000000 in
theorem t_mill {xs : Nat → Int32} {L o k a ng nl nv : Nat} {h : oh_H} (hL : L ≤ 2048) (hk : 4 * k + 4 ≤ L) (R : RR h a ng nl nv k) (q0 : ¬ xs (4 * k) &&& 31 = 0) (q1 : ¬ xs (4 * k) &&& 31 = 1) (q2 : ¬ xs (4 * k) &&& 31 = 2) (q3 : ¬ xs (4 * k) &&& 31 = 3) (q4 : ¬ xs (4 * k) &&& 31 = 4) (q5 : ¬ xs (4 * k) &&& 31 = 5) (q6 : ¬ xs (4 * k) &&& 31 = 6) (q7 : xs (4 * k) &&& 31 = 7) : ∃ h2 ng nl nv, b_L_law_18 xs L h o (some a) (some (a + 26)) (nI (4 * k)) = some (.inl (h2, nI (4 * (k + 1)))) ∧ RR h2 a ng nl nv (k + 1) := by
  have P := R.1
  have hlt : (Int32.ofNat L - 4 < nI (4 * k)) = False := eq_false (fun z => by
    have z2 := i_lt.mp z
    have e : (Int32.ofNat L - 4).toInt = (L : Int) - 4 := by
      show (nI L - 4).toInt = _
      rw [i_sub] <;> rw [nI_toInt (by omega), show (4 : Int32).toInt = 4 from rfl] <;> omega
    rw [e, nI_toInt (by omega)] at z2
    omega)
  have s0 := scr_at (xs := xs) (show 4 * k < L by omega) hL
  have s1 := scr_at (xs := xs) (show 4 * k + 1 < L by omega) hL
  have s2 := scr_at (xs := xs) (show 4 * k + 2 < L by omega) hL
  have s3 := scr_at (xs := xs) (show 4 * k + 3 < L by omega) hL
  have a1 : nI (4 * k) + 1 = nI (4 * k + 1) := iN_succ _
  have a2 : nI (4 * k) + 2 = nI (4 * k + 2) := nI_add _ 2
  have a3 : nI (4 * k) + 3 = nI (4 * k + 3) := nI_add _ 3
  have a4 : nI (4 * k) + 4 = nI (4 * (k + 1)) := nI_add _ 4
  have d0 : ((7 : Int32) = 0) = False := eq_false (by decide)
  have d1 : ((7 : Int32) = 1) = False := eq_false (by decide)
  have d2 : ((7 : Int32) = 2) = False := eq_false (by decide)
  have d3 : ((7 : Int32) = 3) = False := eq_false (by decide)
  have d4 : ((7 : Int32) = 4) = False := eq_false (by decide)
  have d5 : ((7 : Int32) = 5) = False := eq_false (by decide)
  have d6 : ((7 : Int32) = 6) = False := eq_false (by decide)
  obtain ⟨r, h1, h2, ng', nl', nv', e1, e2, R2⟩ := P_mill R (xs (4 * k + 1)) (xs (4 * k + 2)) (xs (4 * k + 3))
  have k9 := k9_of R2 (fun hK => z_mill hK e2)
  refine ⟨h2, ng', nl', nv', ?_, R2⟩
  simp only [b_L_law_18, f_L_law_1127, hlt, s0, s1, s2, s3, a1, a2, a3, a4, q7, d0, d1, d2, d3, d4, d5, d6, Option.bind_some, oh_lt_eq, if_true, if_false, rc_0 P, rc_of k9, e1, e2]
set_option maxHeartbeats 2000000 in
theorem t_put {xs : Nat → Int32} {L o k a ng nl nv : Nat} {h : oh_H} (hL : L ≤ 2048) (hk : 4 * k + 4 ≤ L) (R : RR h a ng nl nv k) (q0 : ¬ xs (4 * k) &&& 31 = 0) (q1 : ¬ xs (4 * k) &&& 31 = 1) (q2 : ¬ xs (4 * k) &&& 31 = 2) (q3 : ¬ xs (4 * k) &&& 31 = 3) (q4 : ¬ xs (4 * k) &&& 31 = 4) (q5 : ¬ xs (4 * k) &&& 31 = 5) (q6 : ¬ xs (4 * k) &&& 31 = 6) (q7 : ¬ xs (4 * k) &&& 31 = 7) (q8 : xs (4 * k) &&& 31 = 8) : ∃ h2 ng nl nv, b_L_law_18 xs L h o (some a) (some (a + 26)) (nI (4 * k)) = some (.inl (h2, nI (4 * (k + 1)))) ∧ RR h2 a ng nl nv (k + 1) := by
  have P := R.1
  have hlt : (Int32.ofNat L - 4 < nI (4 * k)) = False := eq_false (fun z => by
    have z2 := i_lt.mp z
    have e : (Int32.ofNat L - 4).toInt = (L : Int) - 4 := by
      show (nI L - 4).toInt = _
      rw [i_sub] <;> rw [nI_toInt (by omega), show (4 : Int32).toInt = 4 from rfl] <;> omega
    rw [e, nI_toInt (by omega)] at z2
    omega)
  have s0 := scr_at (xs := xs) (show 4 * k < L by omega) hL
  have s1 := scr_at (xs := xs) (show 4 * k + 1 < L by omega) hL
  have s2 := scr_at (xs := xs) (show 4 * k + 2 < L by omega) hL
  have s3 := scr_at (xs := xs) (show 4 * k + 3 < L by omega) hL
  have a1 : nI (4 * k) + 1 = nI (4 * k + 1) := iN_succ _
  have a2 : nI (4 * k) + 2 = nI (4 * k + 2) := nI_add _ 2
  have a3 : nI (4 * k) + 3 = nI (4 * k + 3) := nI_add _ 3
  have a4 : nI (4 * k) + 4 = nI (4 * (k + 1)) := nI_add _ 4
  have d0 : ((8 : Int32) = 0) = False := eq_false (by decide)
  have d1 : ((8 : Int32) = 1) = False := eq_false (by decide)
  have d2 : ((8 : Int32) = 2) = False := eq_false (by decide)
  have d3 : ((8 : Int32) = 3) = False := eq_false (by decide)
  have d4 : ((8 : Int32) = 4) = False := eq_false (by decide)
  have d5 : ((8 : Int32) = 5) = False := eq_false (by decide)
  have d6 : ((8 : Int32) = 6) = False := eq_false (by decide)
  have d7 : ((8 : Int32) = 7) = False := eq_false (by decide)
  obtain ⟨r, h1, h2, ng', nl', nv', e1, e2, R2⟩ := P_put R (xs (4 * k + 1)) (xs (4 * k + 2))
  have k9 := k9_of R2 (fun hK => z_put hK e2)
  refine ⟨h2, ng', nl', nv', ?_, R2⟩
  simp only [b_L_law_18, f_L_law_1127, hlt, s0, s1, s2, s3, a1, a2, a3, a4, q8, d0, d1, d2, d3, d4, d5, d6, d7, Option.bind_some, oh_lt_eq, if_true, if_false, rc_0 P, rc_of k9, e1, e2]
set_option maxHeartbeats 2000000 in
theorem t_take {xs : Nat → Int32} {L o k a ng nl nv : Nat} {h : oh_H} (hL : L ≤ 2048) (hk : 4 * k + 4 ≤ L) (R : RR h a ng nl nv k) (q0 : ¬ xs (4 * k) &&& 31 = 0) (q1 : ¬ xs (4 * k) &&& 31 = 1) (q2 : ¬ xs (4 * k) &&& 31 = 2) (q3 : ¬ xs (4 * k) &&& 31 = 3) (q4 : ¬ xs (4 * k) &&& 31 = 4) (q5 : ¬ xs (4 * k) &&& 31 = 5) (q6 : ¬ xs (4 * k) &&& 31 = 6) (q7 : ¬ xs (4 * k) &&& 31 = 7) (q8 : ¬ xs (4 * k) &&& 31 = 8) (q9 : xs (4 * k) &&& 31 = 9) : ∃ h2 ng nl nv, b_L_law_18 xs L h o (some a) (some (a + 26)) (nI (4 * k)) = some (.inl (h2, nI (4 * (k + 1)))) ∧ RR h2 a ng nl nv (k + 1) := by
  have P := R.1
  have hlt : (Int32.ofNat L - 4 < nI (4 * k)) = False := eq_false (fun z => by
    have z2 := i_lt.mp z
    have e : (Int32.ofNat L - 4).toInt = (L : Int) - 4 := by
      show (nI L - 4).toInt = _
      rw [i_sub] <;> rw [nI_toInt (by omega), show (4 : Int32).toInt = 4 from rfl] <;> omega
    rw [e, nI_toInt (by omega)] at z2
    omega)
  have s0 := scr_at (xs := xs) (show 4 * k < L by omega) hL
  have s1 := scr_at (xs := xs) (show 4 * k + 1 < L by omega) hL
  have s2 := scr_at (xs := xs) (show 4 * k + 2 < L by omega) hL
  have s3 := scr_at (xs := xs) (show 4 * k + 3 < L by omega) hL
  have a1 : nI (4 * k) + 1 = nI (4 * k + 1) := iN_succ _
  have a2 : nI (4 * k) + 2 = nI (4 * k + 2) := nI_add _ 2
  have a3 : nI (4 * k) + 3 = nI (4 * k + 3) := nI_add _ 3
  have a4 : nI (4 * k) + 4 = nI (4 * (k + 1)) := nI_add _ 4
  have d0 : ((9 : Int32) = 0) = False := eq_false (by decide)
  have d1 : ((9 : Int32) = 1) = False := eq_false (by decide)
  have d2 : ((9 : Int32) = 2) = False := eq_false (by decide)
  have d3 : ((9 : Int32) = 3) = False := eq_false (by decide)
  have d4 : ((9 : Int32) = 4) = False := eq_false (by decide)
  have d5 : ((9 : Int32) = 5) = False := eq_false (by decide)
  have d6 : ((9 : Int32) = 6) = False := eq_false (by decide)
  have d7 : ((9 : Int32) = 7) = False := eq_false (by decide)
  have d8 : ((9 : Int32) = 8) = False := eq_false (by decide)
  obtain ⟨r, h1, h2, ng', nl', nv', e1, e2, R2⟩ := P_take R (xs (4 * k + 1))
  have k9 := k9_of R2 (fun hK => z_take hK e2)
  refine ⟨h2, ng', nl', nv', ?_, R2⟩
  simp only [b_L_law_18, f_L_law_1127, hlt, s0, s1, s2, s3, a1, a2, a3, a4, q9, d0, d1, d2, d3, d4, d5, d6, d7, d8, Option.bind_some, oh_lt_eq, if_true, if_false, rc_0 P, rc_of k9, e1, e2]
set_option maxHeartbeats 2000000 in
theorem t_wash {xs : Nat → Int32} {L o k a ng nl nv : Nat} {h : oh_H} (hL : L ≤ 2048) (hk : 4 * k + 4 ≤ L) (R : RR h a ng nl nv k) (q0 : ¬ xs (4 * k) &&& 31 = 0) (q1 : ¬ xs (4 * k) &&& 31 = 1) (q2 : ¬ xs (4 * k) &&& 31 = 2) (q3 : ¬ xs (4 * k) &&& 31 = 3) (q4 : ¬ xs (4 * k) &&& 31 = 4) (q5 : ¬ xs (4 * k) &&& 31 = 5) (q6 : ¬ xs (4 * k) &&& 31 = 6) (q7 : ¬ xs (4 * k) &&& 31 = 7) (q8 : ¬ xs (4 * k) &&& 31 = 8) (q9 : ¬ xs (4 * k) &&& 31 = 9) (q10 : xs (4 * k) &&& 31 = 10) : ∃ h2 ng nl nv, b_L_law_18 xs L h o (some a) (some (a + 26)) (nI (4 * k)) = some (.inl (h2, nI (4 * (k + 1)))) ∧ RR h2 a ng nl nv (k + 1) := by
  have P := R.1
  have hlt : (Int32.ofNat L - 4 < nI (4 * k)) = False := eq_false (fun z => by
    have z2 := i_lt.mp z
    have e : (Int32.ofNat L - 4).toInt = (L : Int) - 4 := by
      show (nI L - 4).toInt = _
      rw [i_sub] <;> rw [nI_toInt (by omega), show (4 : Int32).toInt = 4 from rfl] <;> omega
    rw [e, nI_toInt (by omega)] at z2
    omega)
  have s0 := scr_at (xs := xs) (show 4 * k < L by omega) hL
  have s1 := scr_at (xs := xs) (show 4 * k + 1 < L by omega) hL
  have s2 := scr_at (xs := xs) (show 4 * k + 2 < L by omega) hL
  have s3 := scr_at (xs := xs) (show 4 * k + 3 < L by omega) hL
  have a1 : nI (4 * k) + 1 = nI (4 * k + 1) := iN_succ _
  have a2 : nI (4 * k) + 2 = nI (4 * k + 2) := nI_add _ 2
  have a3 : nI (4 * k) + 3 = nI (4 * k + 3) := nI_add _ 3
  have a4 : nI (4 * k) + 4 = nI (4 * (k + 1)) := nI_add _ 4
  have d0 : ((10 : Int32) = 0) = False := eq_false (by decide)
  have d1 : ((10 : Int32) = 1) = False := eq_false (by decide)
  have d2 : ((10 : Int32) = 2) = False := eq_false (by decide)
  have d3 : ((10 : Int32) = 3) = False := eq_false (by decide)
  have d4 : ((10 : Int32) = 4) = False := eq_false (by decide)
  have d5 : ((10 : Int32) = 5) = False := eq_false (by decide)
  have d6 : ((10 : Int32) = 6) = False := eq_false (by decide)
  have d7 : ((10 : Int32) = 7) = False := eq_false (by decide)
  have d8 : ((10 : Int32) = 8) = False := eq_false (by decide)
  have d9 : ((10 : Int32) = 9) = False := eq_false (by decide)
  obtain ⟨r, h1, h2, ng', nl', nv', e1, e2, R2⟩ := P_wash R (xs (4 * k + 1))
  have k9 := k9_of R2 (fun hK => z_wash hK e2)
  refine ⟨h2, ng', nl', nv', ?_, R2⟩
  simp only [b_L_law_18, f_L_law_1127, hlt, s0, s1, s2, s3, a1, a2, a3, a4, q10, d0, d1, d2, d3, d4, d5, d6, d7, d8, d9, Option.bind_some, oh_lt_eq, if_true, if_false, rc_0 P, rc_of k9, e1, e2]
set_option maxHeartbeats 2000000 in
theorem t_press {xs : Nat → Int32} {L o k a ng nl nv : Nat} {h : oh_H} (hL : L ≤ 2048) (hk : 4 * k + 4 ≤ L) (R : RR h a ng nl nv k) (q0 : ¬ xs (4 * k) &&& 31 = 0) (q1 : ¬ xs (4 * k) &&& 31 = 1) (q2 : ¬ xs (4 * k) &&& 31 = 2) (q3 : ¬ xs (4 * k) &&& 31 = 3) (q4 : ¬ xs (4 * k) &&& 31 = 4) (q5 : ¬ xs (4 * k) &&& 31 = 5) (q6 : ¬ xs (4 * k) &&& 31 = 6) (q7 : ¬ xs (4 * k) &&& 31 = 7) (q8 : ¬ xs (4 * k) &&& 31 = 8) (q9 : ¬ xs (4 * k) &&& 31 = 9) (q10 : ¬ xs (4 * k) &&& 31 = 10) (q11 : xs (4 * k) &&& 31 = 11) : ∃ h2 ng nl nv, b_L_law_18 xs L h o (some a) (some (a + 26)) (nI (4 * k)) = some (.inl (h2, nI (4 * (k + 1)))) ∧ RR h2 a ng nl nv (k + 1) := by
  have P := R.1
  have hlt : (Int32.ofNat L - 4 < nI (4 * k)) = False := eq_false (fun z => by
    have z2 := i_lt.mp z
    have e : (Int32.ofNat L - 4).toInt = (L : Int) - 4 := by
      show (nI L - 4).toInt = _
      rw [i_sub] <;> rw [nI_toInt (by omega), show (4 : Int32).toInt = 4 from rfl] <;> omega
    rw [e, nI_toInt (by omega)] at z2
    omega)
  have s0 := scr_at (xs := xs) (show 4 * k < L by omega) hL
  have s1 := scr_at (xs := xs) (show 4 * k + 1 < L by omega) hL
  have s2 := scr_at (xs := xs) (show 4 * k + 2 < L by omega) hL
  have s3 := scr_at (xs := xs) (show 4 * k + 3 < L by omega) hL
  have a1 : nI (4 * k) + 1 = nI (4 * k + 1) := iN_succ _
  have a2 : nI (4 * k) + 2 = nI (4 * k + 2) := nI_add _ 2
  have a3 : nI (4 * k) + 3 = nI (4 * k + 3) := nI_add _ 3
  have a4 : nI (4 * k) + 4 = nI (4 * (k + 1)) := nI_add _ 4
  have d0 : ((11 : Int32) = 0) = False := eq_false (by decide)
  have d1 : ((11 : Int32) = 1) = False := eq_false (by decide)
  have d2 : ((11 : Int32) = 2) = False := eq_false (by decide)
  have d3 : ((11 : Int32) = 3) = False := eq_false (by decide)
  have d4 : ((11 : Int32) = 4) = False := eq_false (by decide)
  have d5 : ((11 : Int32) = 5) = False := eq_false (by decide)
  have d6 : ((11 : Int32) = 6) = False := eq_false (by decide)
  have d7 : ((11 : Int32) = 7) = False := eq_false (by decide)
  have d8 : ((11 : Int32) = 8) = False := eq_false (by decide)
  have d9 : ((11 : Int32) = 9) = False := eq_false (by decide)
  have d10 : ((11 : Int32) = 10) = False := eq_false (by decide)
  obtain ⟨r, h1, h2, ng', nl', nv', e1, e2, R2⟩ := P_press R (xs (4 * k + 1))
  have k9 := k9_of R2 (fun hK => z_press hK e2)
  refine ⟨h2, ng', nl', nv', ?_, R2⟩
  simp only [b_L_law_18, f_L_law_1127, hlt, s0, s1, s2, s3, a1, a2, a3, a4, q11, d0, d1, d2, d3, d4, d5, d6, d7, d8, d9, d10, Option.bind_some, oh_lt_eq, if_true, if_false, rc_0 P, rc_of k9, e1, e2]
set_option maxHeartbeats 2000000 in
theorem t_gave {xs : Nat → Int32} {L o k a ng nl nv : Nat} {h : oh_H} (hL : L ≤ 2048) (hk : 4 * k + 4 ≤ L) (R : RR h a ng nl nv k) (q0 : ¬ xs (4 * k) &&& 31 = 0) (q1 : ¬ xs (4 * k) &&& 31 = 1) (q2 : ¬ xs (4 * k) &&& 31 = 2) (q3 : ¬ xs (4 * k) &&& 31 = 3) (q4 : ¬ xs (4 * k) &&& 31 = 4) (q5 : ¬ xs (4 * k) &&& 31 = 5) (q6 : ¬ xs (4 * k) &&& 31 = 6) (q7 : ¬ xs (4 * k) &&& 31 = 7) (q8 : ¬ xs (4 * k) &&& 31 = 8) (q9 : ¬ xs (4 * k) &&& 31 = 9) (q10 : ¬ xs (4 * k) &&& 31 = 10) (q11 : ¬ xs (4 * k) &&& 31 = 11) (q12 : xs (4 * k) &&& 31 = 12) : ∃ h2 ng nl nv, b_L_law_18 xs L h o (some a) (some (a + 26)) (nI (4 * k)) = some (.inl (h2, nI (4 * (k + 1)))) ∧ RR h2 a ng nl nv (k + 1) := by
  have P := R.1
  have hlt : (Int32.ofNat L - 4 < nI (4 * k)) = False := eq_false (fun z => by
    have z2 := i_lt.mp z
    have e : (Int32.ofNat L - 4).toInt = (L : Int) - 4 := by
      show (nI L - 4).toInt = _
      rw [i_sub] <;> rw [nI_toInt (by omega), show (4 : Int32).toInt = 4 from rfl] <;> omega
    rw [e, nI_toInt (by omega)] at z2
    omega)
  have s0 := scr_at (xs := xs) (show 4 * k < L by omega) hL
  have s1 := scr_at (xs := xs) (show 4 * k + 1 < L by omega) hL
  have s2 := scr_at (xs := xs) (show 4 * k + 2 < L by omega) hL
  have s3 := scr_at (xs := xs) (show 4 * k + 3 < L by omega) hL
  have a1 : nI (4 * k) + 1 = nI (4 * k + 1) := iN_succ _
  have a2 : nI (4 * k) + 2 = nI (4 * k + 2) := nI_add _ 2
  have a3 : nI (4 * k) + 3 = nI (4 * k + 3) := nI_add _ 3
  have a4 : nI (4 * k) + 4 = nI (4 * (k + 1)) := nI_add _ 4
  have d0 : ((12 : Int32) = 0) = False := eq_false (by decide)
  have d1 : ((12 : Int32) = 1) = False := eq_false (by decide)
  have d2 : ((12 : Int32) = 2) = False := eq_false (by decide)
  have d3 : ((12 : Int32) = 3) = False := eq_false (by decide)
  have d4 : ((12 : Int32) = 4) = False := eq_false (by decide)
  have d5 : ((12 : Int32) = 5) = False := eq_false (by decide)
  have d6 : ((12 : Int32) = 6) = False := eq_false (by decide)
  have d7 : ((12 : Int32) = 7) = False := eq_false (by decide)
  have d8 : ((12 : Int32) = 8) = False := eq_false (by decide)
  have d9 : ((12 : Int32) = 9) = False := eq_false (by decide)
  have d10 : ((12 : Int32) = 10) = False := eq_false (by decide)
  have d11 : ((12 : Int32) = 11) = False := eq_false (by decide)
  obtain ⟨r, h1, h2, ng', nl', nv', e1, e2, R2⟩ := P_gave R (xs (4 * k + 1)) (xs (4 * k + 2))
  have k9 := k9_of R2 (fun hK => z_gave hK e2)
  refine ⟨h2, ng', nl', nv', ?_, R2⟩
  simp only [b_L_law_18, f_L_law_1127, hlt, s0, s1, s2, s3, a1, a2, a3, a4, q12, d0, d1, d2, d3, d4, d5, d6, d7, d8, d9, d10, d11, Option.bind_some, oh_lt_eq, if_true, if_false, rc_0 P, rc_of k9, e1, e2]
set_option maxHeartbeats 2000000 in
theorem t_share {xs : Nat → Int32} {L o k a ng nl nv : Nat} {h : oh_H} (hL : L ≤ 2048) (hk : 4 * k + 4 ≤ L) (R : RR h a ng nl nv k) (q0 : ¬ xs (4 * k) &&& 31 = 0) (q1 : ¬ xs (4 * k) &&& 31 = 1) (q2 : ¬ xs (4 * k) &&& 31 = 2) (q3 : ¬ xs (4 * k) &&& 31 = 3) (q4 : ¬ xs (4 * k) &&& 31 = 4) (q5 : ¬ xs (4 * k) &&& 31 = 5) (q6 : ¬ xs (4 * k) &&& 31 = 6) (q7 : ¬ xs (4 * k) &&& 31 = 7) (q8 : ¬ xs (4 * k) &&& 31 = 8) (q9 : ¬ xs (4 * k) &&& 31 = 9) (q10 : ¬ xs (4 * k) &&& 31 = 10) (q11 : ¬ xs (4 * k) &&& 31 = 11) (q12 : ¬ xs (4 * k) &&& 31 = 12) (q13 : xs (4 * k) &&& 31 = 13) : ∃ h2 ng nl nv, b_L_law_18 xs L h o (some a) (some (a + 26)) (nI (4 * k)) = some (.inl (h2, nI (4 * (k + 1)))) ∧ RR h2 a ng nl nv (k + 1) := by
  have P := R.1
  have hlt : (Int32.ofNat L - 4 < nI (4 * k)) = False := eq_false (fun z => by
    have z2 := i_lt.mp z
    have e : (Int32.ofNat L - 4).toInt = (L : Int) - 4 := by
      show (nI L - 4).toInt = _
      rw [i_sub] <;> rw [nI_toInt (by omega), show (4 : Int32).toInt = 4 from rfl] <;> omega
    rw [e, nI_toInt (by omega)] at z2
    omega)
  have s0 := scr_at (xs := xs) (show 4 * k < L by omega) hL
  have s1 := scr_at (xs := xs) (show 4 * k + 1 < L by omega) hL
  have s2 := scr_at (xs := xs) (show 4 * k + 2 < L by omega) hL
  have s3 := scr_at (xs := xs) (show 4 * k + 3 < L by omega) hL
  have a1 : nI (4 * k) + 1 = nI (4 * k + 1) := iN_succ _
  have a2 : nI (4 * k) + 2 = nI (4 * k + 2) := nI_add _ 2
  have a3 : nI (4 * k) + 3 = nI (4 * k + 3) := nI_add _ 3
  have a4 : nI (4 * k) + 4 = nI (4 * (k + 1)) := nI_add _ 4
  have d0 : ((13 : Int32) = 0) = False := eq_false (by decide)
  have d1 : ((13 : Int32) = 1) = False := eq_false (by decide)
  have d2 : ((13 : Int32) = 2) = False := eq_false (by decide)
  have d3 : ((13 : Int32) = 3) = False := eq_false (by decide)
  have d4 : ((13 : Int32) = 4) = False := eq_false (by decide)
  have d5 : ((13 : Int32) = 5) = False := eq_false (by decide)
  have d6 : ((13 : Int32) = 6) = False := eq_false (by decide)
  have d7 : ((13 : Int32) = 7) = False := eq_false (by decide)
  have d8 : ((13 : Int32) = 8) = False := eq_false (by decide)
  have d9 : ((13 : Int32) = 9) = False := eq_false (by decide)
  have d10 : ((13 : Int32) = 10) = False := eq_false (by decide)
  have d11 : ((13 : Int32) = 11) = False := eq_false (by decide)
  have d12 : ((13 : Int32) = 12) = False := eq_false (by decide)
  obtain ⟨r, h1, h2, ng', nl', nv', e1, e2, R2⟩ := P_share R (xs (4 * k + 1))
  have k9 := k9_of R2 (fun hK => z_share hK e2)
  refine ⟨h2, ng', nl', nv', ?_, R2⟩
  simp only [b_L_law_18, f_L_law_1127, hlt, s0, s1, s2, s3, a1, a2, a3, a4, q13, d0, d1, d2, d3, d4, d5, d6, d7, d8, d9, d10, d11, d12, Option.bind_some, oh_lt_eq, if_true, if_false, rc_0 P, rc_of k9, e1, e2]
set_option maxHeartbeats 2000000 in
theorem t_keep {xs : Nat → Int32} {L o k a ng nl nv : Nat} {h : oh_H} (hL : L ≤ 2048) (hk : 4 * k + 4 ≤ L) (R : RR h a ng nl nv k) (q0 : ¬ xs (4 * k) &&& 31 = 0) (q1 : ¬ xs (4 * k) &&& 31 = 1) (q2 : ¬ xs (4 * k) &&& 31 = 2) (q3 : ¬ xs (4 * k) &&& 31 = 3) (q4 : ¬ xs (4 * k) &&& 31 = 4) (q5 : ¬ xs (4 * k) &&& 31 = 5) (q6 : ¬ xs (4 * k) &&& 31 = 6) (q7 : ¬ xs (4 * k) &&& 31 = 7) (q8 : ¬ xs (4 * k) &&& 31 = 8) (q9 : ¬ xs (4 * k) &&& 31 = 9) (q10 : ¬ xs (4 * k) &&& 31 = 10) (q11 : ¬ xs (4 * k) &&& 31 = 11) (q12 : ¬ xs (4 * k) &&& 31 = 12) (q13 : ¬ xs (4 * k) &&& 31 = 13) (q14 : xs (4 * k) &&& 31 = 14) : ∃ h2 ng nl nv, b_L_law_18 xs L h o (some a) (some (a + 26)) (nI (4 * k)) = some (.inl (h2, nI (4 * (k + 1)))) ∧ RR h2 a ng nl nv (k + 1) := by
  have P := R.1
  have hlt : (Int32.ofNat L - 4 < nI (4 * k)) = False := eq_false (fun z => by
    have z2 := i_lt.mp z
    have e : (Int32.ofNat L - 4).toInt = (L : Int) - 4 := by
      show (nI L - 4).toInt = _
      rw [i_sub] <;> rw [nI_toInt (by omega), show (4 : Int32).toInt = 4 from rfl] <;> omega
    rw [e, nI_toInt (by omega)] at z2
    omega)
  have s0 := scr_at (xs := xs) (show 4 * k < L by omega) hL
  have s1 := scr_at (xs := xs) (show 4 * k + 1 < L by omega) hL
  have s2 := scr_at (xs := xs) (show 4 * k + 2 < L by omega) hL
  have s3 := scr_at (xs := xs) (show 4 * k + 3 < L by omega) hL
  have a1 : nI (4 * k) + 1 = nI (4 * k + 1) := iN_succ _
  have a2 : nI (4 * k) + 2 = nI (4 * k + 2) := nI_add _ 2
  have a3 : nI (4 * k) + 3 = nI (4 * k + 3) := nI_add _ 3
  have a4 : nI (4 * k) + 4 = nI (4 * (k + 1)) := nI_add _ 4
  have d0 : ((14 : Int32) = 0) = False := eq_false (by decide)
  have d1 : ((14 : Int32) = 1) = False := eq_false (by decide)
  have d2 : ((14 : Int32) = 2) = False := eq_false (by decide)
  have d3 : ((14 : Int32) = 3) = False := eq_false (by decide)
  have d4 : ((14 : Int32) = 4) = False := eq_false (by decide)
  have d5 : ((14 : Int32) = 5) = False := eq_false (by decide)
  have d6 : ((14 : Int32) = 6) = False := eq_false (by decide)
  have d7 : ((14 : Int32) = 7) = False := eq_false (by decide)
  have d8 : ((14 : Int32) = 8) = False := eq_false (by decide)
  have d9 : ((14 : Int32) = 9) = False := eq_false (by decide)
  have d10 : ((14 : Int32) = 10) = False := eq_false (by decide)
  have d11 : ((14 : Int32) = 11) = False := eq_false (by decide)
  have d12 : ((14 : Int32) = 12) = False := eq_false (by decide)
  have d13 : ((14 : Int32) = 13) = False := eq_false (by decide)
  obtain ⟨r, h1, h2, ng', nl', nv', e1, e2, R2⟩ := P_keep R (xs (4 * k + 1))
  have k9 := k9_of R2 (fun hK => z_keep hK e2)
  refine ⟨h2, ng', nl', nv', ?_, R2⟩
  simp only [b_L_law_18, f_L_law_1127, hlt, s0, s1, s2, s3, a1, a2, a3, a4, q14, d0, d1, d2, d3, d4, d5, d6, d7, d8, d9, d10, d11, d12, d13, Option.bind_some, oh_lt_eq, if_true, if_false, rc_0 P, rc_of k9, e1, e2]
set_option maxHeartbeats 2000000 in
theorem t_vat {xs : Nat → Int32} {L o k a ng nl nv : Nat} {h : oh_H} (hL : L ≤ 2048) (hk : 4 * k + 4 ≤ L) (R : RR h a ng nl nv k) (q0 : ¬ xs (4 * k) &&& 31 = 0) (q1 : ¬ xs (4 * k) &&& 31 = 1) (q2 : ¬ xs (4 * k) &&& 31 = 2) (q3 : ¬ xs (4 * k) &&& 31 = 3) (q4 : ¬ xs (4 * k) &&& 31 = 4) (q5 : ¬ xs (4 * k) &&& 31 = 5) (q6 : ¬ xs (4 * k) &&& 31 = 6) (q7 : ¬ xs (4 * k) &&& 31 = 7) (q8 : ¬ xs (4 * k) &&& 31 = 8) (q9 : ¬ xs (4 * k) &&& 31 = 9) (q10 : ¬ xs (4 * k) &&& 31 = 10) (q11 : ¬ xs (4 * k) &&& 31 = 11) (q12 : ¬ xs (4 * k) &&& 31 = 12) (q13 : ¬ xs (4 * k) &&& 31 = 13) (q14 : ¬ xs (4 * k) &&& 31 = 14) (q15 : xs (4 * k) &&& 31 = 15) : ∃ h2 ng nl nv, b_L_law_18 xs L h o (some a) (some (a + 26)) (nI (4 * k)) = some (.inl (h2, nI (4 * (k + 1)))) ∧ RR h2 a ng nl nv (k + 1) := by
  have P := R.1
  have hlt : (Int32.ofNat L - 4 < nI (4 * k)) = False := eq_false (fun z => by
    have z2 := i_lt.mp z
    have e : (Int32.ofNat L - 4).toInt = (L : Int) - 4 := by
      show (nI L - 4).toInt = _
      rw [i_sub] <;> rw [nI_toInt (by omega), show (4 : Int32).toInt = 4 from rfl] <;> omega
    rw [e, nI_toInt (by omega)] at z2
    omega)
  have s0 := scr_at (xs := xs) (show 4 * k < L by omega) hL
  have s1 := scr_at (xs := xs) (show 4 * k + 1 < L by omega) hL
  have s2 := scr_at (xs := xs) (show 4 * k + 2 < L by omega) hL
  have s3 := scr_at (xs := xs) (show 4 * k + 3 < L by omega) hL
  have a1 : nI (4 * k) + 1 = nI (4 * k + 1) := iN_succ _
  have a2 : nI (4 * k) + 2 = nI (4 * k + 2) := nI_add _ 2
  have a3 : nI (4 * k) + 3 = nI (4 * k + 3) := nI_add _ 3
  have a4 : nI (4 * k) + 4 = nI (4 * (k + 1)) := nI_add _ 4
  have d0 : ((15 : Int32) = 0) = False := eq_false (by decide)
  have d1 : ((15 : Int32) = 1) = False := eq_false (by decide)
  have d2 : ((15 : Int32) = 2) = False := eq_false (by decide)
  have d3 : ((15 : Int32) = 3) = False := eq_false (by decide)
  have d4 : ((15 : Int32) = 4) = False := eq_false (by decide)
  have d5 : ((15 : Int32) = 5) = False := eq_false (by decide)
  have d6 : ((15 : Int32) = 6) = False := eq_false (by decide)
  have d7 : ((15 : Int32) = 7) = False := eq_false (by decide)
  have d8 : ((15 : Int32) = 8) = False := eq_false (by decide)
  have d9 : ((15 : Int32) = 9) = False := eq_false (by decide)
  have d10 : ((15 : Int32) = 10) = False := eq_false (by decide)
  have d11 : ((15 : Int32) = 11) = False := eq_false (by decide)
  have d12 : ((15 : Int32) = 12) = False := eq_false (by decide)
  have d13 : ((15 : Int32) = 13) = False := eq_false (by decide)
  have d14 : ((15 : Int32) = 14) = False := eq_false (by decide)
  by_cases w0 : xs (4 * k + 2) = 0
  · obtain ⟨r, h1, h2, ng', nl', nv', e1, e2, R2⟩ := P_vat R (xs (4 * k + 1)) 0 (xs (4 * k + 3)) (Or.inl rfl)
    have k9 := k9_of R2 (fun hK => z_vat hK e2)
    refine ⟨h2, ng', nl', nv', ?_, R2⟩
    simp only [b_L_law_18, f_L_law_1127, hlt, s0, s1, s2, s3, a1, a2, a3, a4, q15, d0, d1, d2, d3, d4, d5, d6, d7, d8, d9, d10, d11, d12, d13, d14, Option.bind_some, oh_lt_eq, if_true, if_false, f_L_law_662, f_L_law_689, w0, rc_0 P, rc_of k9, e1, e2]
  · obtain ⟨r, h1, h2, ng', nl', nv', e1, e2, R2⟩ := P_vat R (xs (4 * k + 1)) 1 (xs (4 * k + 3)) (Or.inr rfl)
    have k9 := k9_of R2 (fun hK => z_vat hK e2)
    refine ⟨h2, ng', nl', nv', ?_, R2⟩
    simp only [b_L_law_18, f_L_law_1127, hlt, s0, s1, s2, s3, a1, a2, a3, a4, q15, d0, d1, d2, d3, d4, d5, d6, d7, d8, d9, d10, d11, d12, d13, d14, Option.bind_some, oh_lt_eq, if_true, if_false, f_L_law_662, f_L_law_689, w0, rc_0 P, rc_of k9, e1, e2]
set_option maxHeartbeats 2000000 in
theorem t_pour {xs : Nat → Int32} {L o k a ng nl nv : Nat} {h : oh_H} (hL : L ≤ 2048) (hk : 4 * k + 4 ≤ L) (R : RR h a ng nl nv k) (q0 : ¬ xs (4 * k) &&& 31 = 0) (q1 : ¬ xs (4 * k) &&& 31 = 1) (q2 : ¬ xs (4 * k) &&& 31 = 2) (q3 : ¬ xs (4 * k) &&& 31 = 3) (q4 : ¬ xs (4 * k) &&& 31 = 4) (q5 : ¬ xs (4 * k) &&& 31 = 5) (q6 : ¬ xs (4 * k) &&& 31 = 6) (q7 : ¬ xs (4 * k) &&& 31 = 7) (q8 : ¬ xs (4 * k) &&& 31 = 8) (q9 : ¬ xs (4 * k) &&& 31 = 9) (q10 : ¬ xs (4 * k) &&& 31 = 10) (q11 : ¬ xs (4 * k) &&& 31 = 11) (q12 : ¬ xs (4 * k) &&& 31 = 12) (q13 : ¬ xs (4 * k) &&& 31 = 13) (q14 : ¬ xs (4 * k) &&& 31 = 14) (q15 : ¬ xs (4 * k) &&& 31 = 15) (q16 : xs (4 * k) &&& 31 = 16) : ∃ h2 ng nl nv, b_L_law_18 xs L h o (some a) (some (a + 26)) (nI (4 * k)) = some (.inl (h2, nI (4 * (k + 1)))) ∧ RR h2 a ng nl nv (k + 1) := by
  have P := R.1
  have hlt : (Int32.ofNat L - 4 < nI (4 * k)) = False := eq_false (fun z => by
    have z2 := i_lt.mp z
    have e : (Int32.ofNat L - 4).toInt = (L : Int) - 4 := by
      show (nI L - 4).toInt = _
      rw [i_sub] <;> rw [nI_toInt (by omega), show (4 : Int32).toInt = 4 from rfl] <;> omega
    rw [e, nI_toInt (by omega)] at z2
    omega)
  have s0 := scr_at (xs := xs) (show 4 * k < L by omega) hL
  have s1 := scr_at (xs := xs) (show 4 * k + 1 < L by omega) hL
  have s2 := scr_at (xs := xs) (show 4 * k + 2 < L by omega) hL
  have s3 := scr_at (xs := xs) (show 4 * k + 3 < L by omega) hL
  have a1 : nI (4 * k) + 1 = nI (4 * k + 1) := iN_succ _
  have a2 : nI (4 * k) + 2 = nI (4 * k + 2) := nI_add _ 2
  have a3 : nI (4 * k) + 3 = nI (4 * k + 3) := nI_add _ 3
  have a4 : nI (4 * k) + 4 = nI (4 * (k + 1)) := nI_add _ 4
  have d0 : ((16 : Int32) = 0) = False := eq_false (by decide)
  have d1 : ((16 : Int32) = 1) = False := eq_false (by decide)
  have d2 : ((16 : Int32) = 2) = False := eq_false (by decide)
  have d3 : ((16 : Int32) = 3) = False := eq_false (by decide)
  have d4 : ((16 : Int32) = 4) = False := eq_false (by decide)
  have d5 : ((16 : Int32) = 5) = False := eq_false (by decide)
  have d6 : ((16 : Int32) = 6) = False := eq_false (by decide)
  have d7 : ((16 : Int32) = 7) = False := eq_false (by decide)
  have d8 : ((16 : Int32) = 8) = False := eq_false (by decide)
  have d9 : ((16 : Int32) = 9) = False := eq_false (by decide)
  have d10 : ((16 : Int32) = 10) = False := eq_false (by decide)
  have d11 : ((16 : Int32) = 11) = False := eq_false (by decide)
  have d12 : ((16 : Int32) = 12) = False := eq_false (by decide)
  have d13 : ((16 : Int32) = 13) = False := eq_false (by decide)
  have d14 : ((16 : Int32) = 14) = False := eq_false (by decide)
  have d15 : ((16 : Int32) = 15) = False := eq_false (by decide)
  obtain ⟨r, h1, h2, ng', nl', nv', e1, e2, R2⟩ := P_pour R (by omega) (xs (4 * k + 1)) (xs (4 * k + 2))
  have k9 := k9_of R2 (fun hK => z_pour hK e2)
  refine ⟨h2, ng', nl', nv', ?_, R2⟩
  simp only [b_L_law_18, f_L_law_1127, hlt, s0, s1, s2, s3, a1, a2, a3, a4, q16, d0, d1, d2, d3, d4, d5, d6, d7, d8, d9, d10, d11, d12, d13, d14, d15, Option.bind_some, oh_lt_eq, if_true, if_false, rc_0 P, rc_of k9, e1, e2]
set_option maxHeartbeats 2000000 in
theorem t_fetch {xs : Nat → Int32} {L o k a ng nl nv : Nat} {h : oh_H} (hL : L ≤ 2048) (hk : 4 * k + 4 ≤ L) (R : RR h a ng nl nv k) (q0 : ¬ xs (4 * k) &&& 31 = 0) (q1 : ¬ xs (4 * k) &&& 31 = 1) (q2 : ¬ xs (4 * k) &&& 31 = 2) (q3 : ¬ xs (4 * k) &&& 31 = 3) (q4 : ¬ xs (4 * k) &&& 31 = 4) (q5 : ¬ xs (4 * k) &&& 31 = 5) (q6 : ¬ xs (4 * k) &&& 31 = 6) (q7 : ¬ xs (4 * k) &&& 31 = 7) (q8 : ¬ xs (4 * k) &&& 31 = 8) (q9 : ¬ xs (4 * k) &&& 31 = 9) (q10 : ¬ xs (4 * k) &&& 31 = 10) (q11 : ¬ xs (4 * k) &&& 31 = 11) (q12 : ¬ xs (4 * k) &&& 31 = 12) (q13 : ¬ xs (4 * k) &&& 31 = 13) (q14 : ¬ xs (4 * k) &&& 31 = 14) (q15 : ¬ xs (4 * k) &&& 31 = 15) (q16 : ¬ xs (4 * k) &&& 31 = 16) (q17 : xs (4 * k) &&& 31 = 17) : ∃ h2 ng nl nv, b_L_law_18 xs L h o (some a) (some (a + 26)) (nI (4 * k)) = some (.inl (h2, nI (4 * (k + 1)))) ∧ RR h2 a ng nl nv (k + 1) := by
  have P := R.1
  have hlt : (Int32.ofNat L - 4 < nI (4 * k)) = False := eq_false (fun z => by
    have z2 := i_lt.mp z
    have e : (Int32.ofNat L - 4).toInt = (L : Int) - 4 := by
      show (nI L - 4).toInt = _
      rw [i_sub] <;> rw [nI_toInt (by omega), show (4 : Int32).toInt = 4 from rfl] <;> omega
    rw [e, nI_toInt (by omega)] at z2
    omega)
  have s0 := scr_at (xs := xs) (show 4 * k < L by omega) hL
  have s1 := scr_at (xs := xs) (show 4 * k + 1 < L by omega) hL
  have s2 := scr_at (xs := xs) (show 4 * k + 2 < L by omega) hL
  have s3 := scr_at (xs := xs) (show 4 * k + 3 < L by omega) hL
  have a1 : nI (4 * k) + 1 = nI (4 * k + 1) := iN_succ _
  have a2 : nI (4 * k) + 2 = nI (4 * k + 2) := nI_add _ 2
  have a3 : nI (4 * k) + 3 = nI (4 * k + 3) := nI_add _ 3
  have a4 : nI (4 * k) + 4 = nI (4 * (k + 1)) := nI_add _ 4
  have d0 : ((17 : Int32) = 0) = False := eq_false (by decide)
  have d1 : ((17 : Int32) = 1) = False := eq_false (by decide)
  have d2 : ((17 : Int32) = 2) = False := eq_false (by decide)
  have d3 : ((17 : Int32) = 3) = False := eq_false (by decide)
  have d4 : ((17 : Int32) = 4) = False := eq_false (by decide)
  have d5 : ((17 : Int32) = 5) = False := eq_false (by decide)
  have d6 : ((17 : Int32) = 6) = False := eq_false (by decide)
  have d7 : ((17 : Int32) = 7) = False := eq_false (by decide)
  have d8 : ((17 : Int32) = 8) = False := eq_false (by decide)
  have d9 : ((17 : Int32) = 9) = False := eq_false (by decide)
  have d10 : ((17 : Int32) = 10) = False := eq_false (by decide)
  have d11 : ((17 : Int32) = 11) = False := eq_false (by decide)
  have d12 : ((17 : Int32) = 12) = False := eq_false (by decide)
  have d13 : ((17 : Int32) = 13) = False := eq_false (by decide)
  have d14 : ((17 : Int32) = 14) = False := eq_false (by decide)
  have d15 : ((17 : Int32) = 15) = False := eq_false (by decide)
  have d16 : ((17 : Int32) = 16) = False := eq_false (by decide)
  obtain ⟨r, h1, h2, ng', nl', nv', e1, e2, R2⟩ := P_fetch R (by omega) (xs (4 * k + 1))
  have k9 := k9_of R2 (fun hK => z_fetch hK e2)
  refine ⟨h2, ng', nl', nv', ?_, R2⟩
  simp only [b_L_law_18, f_L_law_1127, hlt, s0, s1, s2, s3, a1, a2, a3, a4, q17, d0, d1, d2, d3, d4, d5, d6, d7, d8, d9, d10, d11, d12, d13, d14, d15, d16, Option.bind_some, oh_lt_eq, if_true, if_false, rc_0 P, rc_of k9, e1, e2]
set_option maxHeartbeats 2000000 in
theorem t_draw {xs : Nat → Int32} {L o k a ng nl nv : Nat} {h : oh_H} (hL : L ≤ 2048) (hk : 4 * k + 4 ≤ L) (R : RR h a ng nl nv k) (q0 : ¬ xs (4 * k) &&& 31 = 0) (q1 : ¬ xs (4 * k) &&& 31 = 1) (q2 : ¬ xs (4 * k) &&& 31 = 2) (q3 : ¬ xs (4 * k) &&& 31 = 3) (q4 : ¬ xs (4 * k) &&& 31 = 4) (q5 : ¬ xs (4 * k) &&& 31 = 5) (q6 : ¬ xs (4 * k) &&& 31 = 6) (q7 : ¬ xs (4 * k) &&& 31 = 7) (q8 : ¬ xs (4 * k) &&& 31 = 8) (q9 : ¬ xs (4 * k) &&& 31 = 9) (q10 : ¬ xs (4 * k) &&& 31 = 10) (q11 : ¬ xs (4 * k) &&& 31 = 11) (q12 : ¬ xs (4 * k) &&& 31 = 12) (q13 : ¬ xs (4 * k) &&& 31 = 13) (q14 : ¬ xs (4 * k) &&& 31 = 14) (q15 : ¬ xs (4 * k) &&& 31 = 15) (q16 : ¬ xs (4 * k) &&& 31 = 16) (q17 : ¬ xs (4 * k) &&& 31 = 17) (q18 : xs (4 * k) &&& 31 = 18) : ∃ h2 ng nl nv, b_L_law_18 xs L h o (some a) (some (a + 26)) (nI (4 * k)) = some (.inl (h2, nI (4 * (k + 1)))) ∧ RR h2 a ng nl nv (k + 1) := by
  have P := R.1
  have hlt : (Int32.ofNat L - 4 < nI (4 * k)) = False := eq_false (fun z => by
    have z2 := i_lt.mp z
    have e : (Int32.ofNat L - 4).toInt = (L : Int) - 4 := by
      show (nI L - 4).toInt = _
      rw [i_sub] <;> rw [nI_toInt (by omega), show (4 : Int32).toInt = 4 from rfl] <;> omega
    rw [e, nI_toInt (by omega)] at z2
    omega)
  have s0 := scr_at (xs := xs) (show 4 * k < L by omega) hL
  have s1 := scr_at (xs := xs) (show 4 * k + 1 < L by omega) hL
  have s2 := scr_at (xs := xs) (show 4 * k + 2 < L by omega) hL
  have s3 := scr_at (xs := xs) (show 4 * k + 3 < L by omega) hL
  have a1 : nI (4 * k) + 1 = nI (4 * k + 1) := iN_succ _
  have a2 : nI (4 * k) + 2 = nI (4 * k + 2) := nI_add _ 2
  have a3 : nI (4 * k) + 3 = nI (4 * k + 3) := nI_add _ 3
  have a4 : nI (4 * k) + 4 = nI (4 * (k + 1)) := nI_add _ 4
  have d0 : ((18 : Int32) = 0) = False := eq_false (by decide)
  have d1 : ((18 : Int32) = 1) = False := eq_false (by decide)
  have d2 : ((18 : Int32) = 2) = False := eq_false (by decide)
  have d3 : ((18 : Int32) = 3) = False := eq_false (by decide)
  have d4 : ((18 : Int32) = 4) = False := eq_false (by decide)
  have d5 : ((18 : Int32) = 5) = False := eq_false (by decide)
  have d6 : ((18 : Int32) = 6) = False := eq_false (by decide)
  have d7 : ((18 : Int32) = 7) = False := eq_false (by decide)
  have d8 : ((18 : Int32) = 8) = False := eq_false (by decide)
  have d9 : ((18 : Int32) = 9) = False := eq_false (by decide)
  have d10 : ((18 : Int32) = 10) = False := eq_false (by decide)
  have d11 : ((18 : Int32) = 11) = False := eq_false (by decide)
  have d12 : ((18 : Int32) = 12) = False := eq_false (by decide)
  have d13 : ((18 : Int32) = 13) = False := eq_false (by decide)
  have d14 : ((18 : Int32) = 14) = False := eq_false (by decide)
  have d15 : ((18 : Int32) = 15) = False := eq_false (by decide)
  have d16 : ((18 : Int32) = 16) = False := eq_false (by decide)
  have d17 : ((18 : Int32) = 17) = False := eq_false (by decide)
  obtain ⟨r, h1, h2, ng', nl', nv', e1, e2, R2⟩ := P_draw R (by omega) (xs (4 * k + 1)) (xs (4 * k + 2))
  have k9 := k9_of R2 (fun hK => z_draw hK e2)
  refine ⟨h2, ng', nl', nv', ?_, R2⟩
  simp only [b_L_law_18, f_L_law_1127, hlt, s0, s1, s2, s3, a1, a2, a3, a4, q18, d0, d1, d2, d3, d4, d5, d6, d7, d8, d9, d10, d11, d12, d13, d14, d15, d16, d17, Option.bind_some, oh_lt_eq, if_true, if_false, rc_0 P, rc_of k9, e1, e2]
set_option maxHeartbeats 2000000 in
theorem t_lend {xs : Nat → Int32} {L o k a ng nl nv : Nat} {h : oh_H} (hL : L ≤ 2048) (hk : 4 * k + 4 ≤ L) (R : RR h a ng nl nv k) (q0 : ¬ xs (4 * k) &&& 31 = 0) (q1 : ¬ xs (4 * k) &&& 31 = 1) (q2 : ¬ xs (4 * k) &&& 31 = 2) (q3 : ¬ xs (4 * k) &&& 31 = 3) (q4 : ¬ xs (4 * k) &&& 31 = 4) (q5 : ¬ xs (4 * k) &&& 31 = 5) (q6 : ¬ xs (4 * k) &&& 31 = 6) (q7 : ¬ xs (4 * k) &&& 31 = 7) (q8 : ¬ xs (4 * k) &&& 31 = 8) (q9 : ¬ xs (4 * k) &&& 31 = 9) (q10 : ¬ xs (4 * k) &&& 31 = 10) (q11 : ¬ xs (4 * k) &&& 31 = 11) (q12 : ¬ xs (4 * k) &&& 31 = 12) (q13 : ¬ xs (4 * k) &&& 31 = 13) (q14 : ¬ xs (4 * k) &&& 31 = 14) (q15 : ¬ xs (4 * k) &&& 31 = 15) (q16 : ¬ xs (4 * k) &&& 31 = 16) (q17 : ¬ xs (4 * k) &&& 31 = 17) (q18 : ¬ xs (4 * k) &&& 31 = 18) (q19 : xs (4 * k) &&& 31 = 19) : ∃ h2 ng nl nv, b_L_law_18 xs L h o (some a) (some (a + 26)) (nI (4 * k)) = some (.inl (h2, nI (4 * (k + 1)))) ∧ RR h2 a ng nl nv (k + 1) := by
  have P := R.1
  have hlt : (Int32.ofNat L - 4 < nI (4 * k)) = False := eq_false (fun z => by
    have z2 := i_lt.mp z
    have e : (Int32.ofNat L - 4).toInt = (L : Int) - 4 := by
      show (nI L - 4).toInt = _
      rw [i_sub] <;> rw [nI_toInt (by omega), show (4 : Int32).toInt = 4 from rfl] <;> omega
    rw [e, nI_toInt (by omega)] at z2
    omega)
  have s0 := scr_at (xs := xs) (show 4 * k < L by omega) hL
  have s1 := scr_at (xs := xs) (show 4 * k + 1 < L by omega) hL
  have s2 := scr_at (xs := xs) (show 4 * k + 2 < L by omega) hL
  have s3 := scr_at (xs := xs) (show 4 * k + 3 < L by omega) hL
  have a1 : nI (4 * k) + 1 = nI (4 * k + 1) := iN_succ _
  have a2 : nI (4 * k) + 2 = nI (4 * k + 2) := nI_add _ 2
  have a3 : nI (4 * k) + 3 = nI (4 * k + 3) := nI_add _ 3
  have a4 : nI (4 * k) + 4 = nI (4 * (k + 1)) := nI_add _ 4
  have d0 : ((19 : Int32) = 0) = False := eq_false (by decide)
  have d1 : ((19 : Int32) = 1) = False := eq_false (by decide)
  have d2 : ((19 : Int32) = 2) = False := eq_false (by decide)
  have d3 : ((19 : Int32) = 3) = False := eq_false (by decide)
  have d4 : ((19 : Int32) = 4) = False := eq_false (by decide)
  have d5 : ((19 : Int32) = 5) = False := eq_false (by decide)
  have d6 : ((19 : Int32) = 6) = False := eq_false (by decide)
  have d7 : ((19 : Int32) = 7) = False := eq_false (by decide)
  have d8 : ((19 : Int32) = 8) = False := eq_false (by decide)
  have d9 : ((19 : Int32) = 9) = False := eq_false (by decide)
  have d10 : ((19 : Int32) = 10) = False := eq_false (by decide)
  have d11 : ((19 : Int32) = 11) = False := eq_false (by decide)
  have d12 : ((19 : Int32) = 12) = False := eq_false (by decide)
  have d13 : ((19 : Int32) = 13) = False := eq_false (by decide)
  have d14 : ((19 : Int32) = 14) = False := eq_false (by decide)
  have d15 : ((19 : Int32) = 15) = False := eq_false (by decide)
  have d16 : ((19 : Int32) = 16) = False := eq_false (by decide)
  have d17 : ((19 : Int32) = 17) = False := eq_false (by decide)
  have d18 : ((19 : Int32) = 18) = False := eq_false (by decide)
  obtain ⟨r, h1, h2, ng', nl', nv', e1, e2, R2⟩ := P_lend R (by omega) (xs (4 * k + 1)) (xs (4 * k + 2)) (xs (4 * k + 3))
  have k9 := k9_of R2 (fun hK => z_lend hK e2)
  refine ⟨h2, ng', nl', nv', ?_, R2⟩
  simp only [b_L_law_18, f_L_law_1127, hlt, s0, s1, s2, s3, a1, a2, a3, a4, q19, d0, d1, d2, d3, d4, d5, d6, d7, d8, d9, d10, d11, d12, d13, d14, d15, d16, d17, d18, Option.bind_some, oh_lt_eq, if_true, if_false, rc_0 P, rc_of k9, e1, e2]
set_option maxHeartbeats 2000000 in
theorem t_pay {xs : Nat → Int32} {L o k a ng nl nv : Nat} {h : oh_H} (hL : L ≤ 2048) (hk : 4 * k + 4 ≤ L) (R : RR h a ng nl nv k) (q0 : ¬ xs (4 * k) &&& 31 = 0) (q1 : ¬ xs (4 * k) &&& 31 = 1) (q2 : ¬ xs (4 * k) &&& 31 = 2) (q3 : ¬ xs (4 * k) &&& 31 = 3) (q4 : ¬ xs (4 * k) &&& 31 = 4) (q5 : ¬ xs (4 * k) &&& 31 = 5) (q6 : ¬ xs (4 * k) &&& 31 = 6) (q7 : ¬ xs (4 * k) &&& 31 = 7) (q8 : ¬ xs (4 * k) &&& 31 = 8) (q9 : ¬ xs (4 * k) &&& 31 = 9) (q10 : ¬ xs (4 * k) &&& 31 = 10) (q11 : ¬ xs (4 * k) &&& 31 = 11) (q12 : ¬ xs (4 * k) &&& 31 = 12) (q13 : ¬ xs (4 * k) &&& 31 = 13) (q14 : ¬ xs (4 * k) &&& 31 = 14) (q15 : ¬ xs (4 * k) &&& 31 = 15) (q16 : ¬ xs (4 * k) &&& 31 = 16) (q17 : ¬ xs (4 * k) &&& 31 = 17) (q18 : ¬ xs (4 * k) &&& 31 = 18) (q19 : ¬ xs (4 * k) &&& 31 = 19) (q20 : xs (4 * k) &&& 31 = 20) : ∃ h2 ng nl nv, b_L_law_18 xs L h o (some a) (some (a + 26)) (nI (4 * k)) = some (.inl (h2, nI (4 * (k + 1)))) ∧ RR h2 a ng nl nv (k + 1) := by
  have P := R.1
  have hlt : (Int32.ofNat L - 4 < nI (4 * k)) = False := eq_false (fun z => by
    have z2 := i_lt.mp z
    have e : (Int32.ofNat L - 4).toInt = (L : Int) - 4 := by
      show (nI L - 4).toInt = _
      rw [i_sub] <;> rw [nI_toInt (by omega), show (4 : Int32).toInt = 4 from rfl] <;> omega
    rw [e, nI_toInt (by omega)] at z2
    omega)
  have s0 := scr_at (xs := xs) (show 4 * k < L by omega) hL
  have s1 := scr_at (xs := xs) (show 4 * k + 1 < L by omega) hL
  have s2 := scr_at (xs := xs) (show 4 * k + 2 < L by omega) hL
  have s3 := scr_at (xs := xs) (show 4 * k + 3 < L by omega) hL
  have a1 : nI (4 * k) + 1 = nI (4 * k + 1) := iN_succ _
  have a2 : nI (4 * k) + 2 = nI (4 * k + 2) := nI_add _ 2
  have a3 : nI (4 * k) + 3 = nI (4 * k + 3) := nI_add _ 3
  have a4 : nI (4 * k) + 4 = nI (4 * (k + 1)) := nI_add _ 4
  have d0 : ((20 : Int32) = 0) = False := eq_false (by decide)
  have d1 : ((20 : Int32) = 1) = False := eq_false (by decide)
  have d2 : ((20 : Int32) = 2) = False := eq_false (by decide)
  have d3 : ((20 : Int32) = 3) = False := eq_false (by decide)
  have d4 : ((20 : Int32) = 4) = False := eq_false (by decide)
  have d5 : ((20 : Int32) = 5) = False := eq_false (by decide)
  have d6 : ((20 : Int32) = 6) = False := eq_false (by decide)
  have d7 : ((20 : Int32) = 7) = False := eq_false (by decide)
  have d8 : ((20 : Int32) = 8) = False := eq_false (by decide)
  have d9 : ((20 : Int32) = 9) = False := eq_false (by decide)
  have d10 : ((20 : Int32) = 10) = False := eq_false (by decide)
  have d11 : ((20 : Int32) = 11) = False := eq_false (by decide)
  have d12 : ((20 : Int32) = 12) = False := eq_false (by decide)
  have d13 : ((20 : Int32) = 13) = False := eq_false (by decide)
  have d14 : ((20 : Int32) = 14) = False := eq_false (by decide)
  have d15 : ((20 : Int32) = 15) = False := eq_false (by decide)
  have d16 : ((20 : Int32) = 16) = False := eq_false (by decide)
  have d17 : ((20 : Int32) = 17) = False := eq_false (by decide)
  have d18 : ((20 : Int32) = 18) = False := eq_false (by decide)
  have d19 : ((20 : Int32) = 19) = False := eq_false (by decide)
  obtain ⟨r, h1, h2, ng', nl', nv', e1, e2, R2⟩ := P_pay R (by omega) (xs (4 * k + 1))
  have k9 := k9_of R2 (fun hK => z_pay hK e2)
  refine ⟨h2, ng', nl', nv', ?_, R2⟩
  simp only [b_L_law_18, f_L_law_1127, hlt, s0, s1, s2, s3, a1, a2, a3, a4, q20, d0, d1, d2, d3, d4, d5, d6, d7, d8, d9, d10, d11, d12, d13, d14, d15, d16, d17, d18, d19, Option.bind_some, oh_lt_eq, if_true, if_false, rc_0 P, rc_of k9, e1, e2]
set_option maxHeartbeats 2000000 in
theorem t_hand {xs : Nat → Int32} {L o k a ng nl nv : Nat} {h : oh_H} (hL : L ≤ 2048) (hk : 4 * k + 4 ≤ L) (R : RR h a ng nl nv k) (q0 : ¬ xs (4 * k) &&& 31 = 0) (q1 : ¬ xs (4 * k) &&& 31 = 1) (q2 : ¬ xs (4 * k) &&& 31 = 2) (q3 : ¬ xs (4 * k) &&& 31 = 3) (q4 : ¬ xs (4 * k) &&& 31 = 4) (q5 : ¬ xs (4 * k) &&& 31 = 5) (q6 : ¬ xs (4 * k) &&& 31 = 6) (q7 : ¬ xs (4 * k) &&& 31 = 7) (q8 : ¬ xs (4 * k) &&& 31 = 8) (q9 : ¬ xs (4 * k) &&& 31 = 9) (q10 : ¬ xs (4 * k) &&& 31 = 10) (q11 : ¬ xs (4 * k) &&& 31 = 11) (q12 : ¬ xs (4 * k) &&& 31 = 12) (q13 : ¬ xs (4 * k) &&& 31 = 13) (q14 : ¬ xs (4 * k) &&& 31 = 14) (q15 : ¬ xs (4 * k) &&& 31 = 15) (q16 : ¬ xs (4 * k) &&& 31 = 16) (q17 : ¬ xs (4 * k) &&& 31 = 17) (q18 : ¬ xs (4 * k) &&& 31 = 18) (q19 : ¬ xs (4 * k) &&& 31 = 19) (q20 : ¬ xs (4 * k) &&& 31 = 20) (q21 : xs (4 * k) &&& 31 = 21) : ∃ h2 ng nl nv, b_L_law_18 xs L h o (some a) (some (a + 26)) (nI (4 * k)) = some (.inl (h2, nI (4 * (k + 1)))) ∧ RR h2 a ng nl nv (k + 1) := by
  have P := R.1
  have hlt : (Int32.ofNat L - 4 < nI (4 * k)) = False := eq_false (fun z => by
    have z2 := i_lt.mp z
    have e : (Int32.ofNat L - 4).toInt = (L : Int) - 4 := by
      show (nI L - 4).toInt = _
      rw [i_sub] <;> rw [nI_toInt (by omega), show (4 : Int32).toInt = 4 from rfl] <;> omega
    rw [e, nI_toInt (by omega)] at z2
    omega)
  have s0 := scr_at (xs := xs) (show 4 * k < L by omega) hL
  have s1 := scr_at (xs := xs) (show 4 * k + 1 < L by omega) hL
  have s2 := scr_at (xs := xs) (show 4 * k + 2 < L by omega) hL
  have s3 := scr_at (xs := xs) (show 4 * k + 3 < L by omega) hL
  have a1 : nI (4 * k) + 1 = nI (4 * k + 1) := iN_succ _
  have a2 : nI (4 * k) + 2 = nI (4 * k + 2) := nI_add _ 2
  have a3 : nI (4 * k) + 3 = nI (4 * k + 3) := nI_add _ 3
  have a4 : nI (4 * k) + 4 = nI (4 * (k + 1)) := nI_add _ 4
  have d0 : ((21 : Int32) = 0) = False := eq_false (by decide)
  have d1 : ((21 : Int32) = 1) = False := eq_false (by decide)
  have d2 : ((21 : Int32) = 2) = False := eq_false (by decide)
  have d3 : ((21 : Int32) = 3) = False := eq_false (by decide)
  have d4 : ((21 : Int32) = 4) = False := eq_false (by decide)
  have d5 : ((21 : Int32) = 5) = False := eq_false (by decide)
  have d6 : ((21 : Int32) = 6) = False := eq_false (by decide)
  have d7 : ((21 : Int32) = 7) = False := eq_false (by decide)
  have d8 : ((21 : Int32) = 8) = False := eq_false (by decide)
  have d9 : ((21 : Int32) = 9) = False := eq_false (by decide)
  have d10 : ((21 : Int32) = 10) = False := eq_false (by decide)
  have d11 : ((21 : Int32) = 11) = False := eq_false (by decide)
  have d12 : ((21 : Int32) = 12) = False := eq_false (by decide)
  have d13 : ((21 : Int32) = 13) = False := eq_false (by decide)
  have d14 : ((21 : Int32) = 14) = False := eq_false (by decide)
  have d15 : ((21 : Int32) = 15) = False := eq_false (by decide)
  have d16 : ((21 : Int32) = 16) = False := eq_false (by decide)
  have d17 : ((21 : Int32) = 17) = False := eq_false (by decide)
  have d18 : ((21 : Int32) = 18) = False := eq_false (by decide)
  have d19 : ((21 : Int32) = 19) = False := eq_false (by decide)
  have d20 : ((21 : Int32) = 20) = False := eq_false (by decide)
  obtain ⟨r, h1, h2, ng', nl', nv', e1, e2, R2⟩ := P_hand R (xs (4 * k + 1)) (xs (4 * k + 2)) (xs (4 * k + 3))
  have k9 := k9_of R2 (fun hK => z_hand hK e2)
  refine ⟨h2, ng', nl', nv', ?_, R2⟩
  simp only [b_L_law_18, f_L_law_1127, hlt, s0, s1, s2, s3, a1, a2, a3, a4, q21, d0, d1, d2, d3, d4, d5, d6, d7, d8, d9, d10, d11, d12, d13, d14, d15, d16, d17, d18, d19, d20, Option.bind_some, oh_lt_eq, if_true, if_false, rc_0 P, rc_of k9, e1, e2]
set_option maxHeartbeats 2000000 in
theorem t_owes {xs : Nat → Int32} {L o k a ng nl nv : Nat} {h : oh_H} (hL : L ≤ 2048) (hk : 4 * k + 4 ≤ L) (R : RR h a ng nl nv k) (q0 : ¬ xs (4 * k) &&& 31 = 0) (q1 : ¬ xs (4 * k) &&& 31 = 1) (q2 : ¬ xs (4 * k) &&& 31 = 2) (q3 : ¬ xs (4 * k) &&& 31 = 3) (q4 : ¬ xs (4 * k) &&& 31 = 4) (q5 : ¬ xs (4 * k) &&& 31 = 5) (q6 : ¬ xs (4 * k) &&& 31 = 6) (q7 : ¬ xs (4 * k) &&& 31 = 7) (q8 : ¬ xs (4 * k) &&& 31 = 8) (q9 : ¬ xs (4 * k) &&& 31 = 9) (q10 : ¬ xs (4 * k) &&& 31 = 10) (q11 : ¬ xs (4 * k) &&& 31 = 11) (q12 : ¬ xs (4 * k) &&& 31 = 12) (q13 : ¬ xs (4 * k) &&& 31 = 13) (q14 : ¬ xs (4 * k) &&& 31 = 14) (q15 : ¬ xs (4 * k) &&& 31 = 15) (q16 : ¬ xs (4 * k) &&& 31 = 16) (q17 : ¬ xs (4 * k) &&& 31 = 17) (q18 : ¬ xs (4 * k) &&& 31 = 18) (q19 : ¬ xs (4 * k) &&& 31 = 19) (q20 : ¬ xs (4 * k) &&& 31 = 20) (q21 : ¬ xs (4 * k) &&& 31 = 21) (q22 : xs (4 * k) &&& 31 = 22) : ∃ h2 ng nl nv, b_L_law_18 xs L h o (some a) (some (a + 26)) (nI (4 * k)) = some (.inl (h2, nI (4 * (k + 1)))) ∧ RR h2 a ng nl nv (k + 1) := by
  have P := R.1
  have hlt : (Int32.ofNat L - 4 < nI (4 * k)) = False := eq_false (fun z => by
    have z2 := i_lt.mp z
    have e : (Int32.ofNat L - 4).toInt = (L : Int) - 4 := by
      show (nI L - 4).toInt = _
      rw [i_sub] <;> rw [nI_toInt (by omega), show (4 : Int32).toInt = 4 from rfl] <;> omega
    rw [e, nI_toInt (by omega)] at z2
    omega)
  have s0 := scr_at (xs := xs) (show 4 * k < L by omega) hL
  have s1 := scr_at (xs := xs) (show 4 * k + 1 < L by omega) hL
  have s2 := scr_at (xs := xs) (show 4 * k + 2 < L by omega) hL
  have s3 := scr_at (xs := xs) (show 4 * k + 3 < L by omega) hL
  have a1 : nI (4 * k) + 1 = nI (4 * k + 1) := iN_succ _
  have a2 : nI (4 * k) + 2 = nI (4 * k + 2) := nI_add _ 2
  have a3 : nI (4 * k) + 3 = nI (4 * k + 3) := nI_add _ 3
  have a4 : nI (4 * k) + 4 = nI (4 * (k + 1)) := nI_add _ 4
  have d0 : ((22 : Int32) = 0) = False := eq_false (by decide)
  have d1 : ((22 : Int32) = 1) = False := eq_false (by decide)
  have d2 : ((22 : Int32) = 2) = False := eq_false (by decide)
  have d3 : ((22 : Int32) = 3) = False := eq_false (by decide)
  have d4 : ((22 : Int32) = 4) = False := eq_false (by decide)
  have d5 : ((22 : Int32) = 5) = False := eq_false (by decide)
  have d6 : ((22 : Int32) = 6) = False := eq_false (by decide)
  have d7 : ((22 : Int32) = 7) = False := eq_false (by decide)
  have d8 : ((22 : Int32) = 8) = False := eq_false (by decide)
  have d9 : ((22 : Int32) = 9) = False := eq_false (by decide)
  have d10 : ((22 : Int32) = 10) = False := eq_false (by decide)
  have d11 : ((22 : Int32) = 11) = False := eq_false (by decide)
  have d12 : ((22 : Int32) = 12) = False := eq_false (by decide)
  have d13 : ((22 : Int32) = 13) = False := eq_false (by decide)
  have d14 : ((22 : Int32) = 14) = False := eq_false (by decide)
  have d15 : ((22 : Int32) = 15) = False := eq_false (by decide)
  have d16 : ((22 : Int32) = 16) = False := eq_false (by decide)
  have d17 : ((22 : Int32) = 17) = False := eq_false (by decide)
  have d18 : ((22 : Int32) = 18) = False := eq_false (by decide)
  have d19 : ((22 : Int32) = 19) = False := eq_false (by decide)
  have d20 : ((22 : Int32) = 20) = False := eq_false (by decide)
  have d21 : ((22 : Int32) = 21) = False := eq_false (by decide)
  obtain ⟨r, e1, e2⟩ := P_owes R (xs (4 * k + 1)) (xs (4 * k + 2))
  refine ⟨h, ng, nl, nv, ?_, R.mono⟩
  simp only [b_L_law_18, f_L_law_1127, hlt, s0, s1, s2, s3, a1, a2, a3, a4, q22, d0, d1, d2, d3, d4, d5, d6, d7, d8, d9, d10, d11, d12, d13, d14, d15, d16, d17, d18, d19, d20, d21, Option.bind_some, oh_lt_eq, if_true, if_false, rc_0 P, rc_26 P, e1, e2]
set_option maxHeartbeats 2000000 in
theorem t_wait {xs : Nat → Int32} {L o k a ng nl nv : Nat} {h : oh_H} (hL : L ≤ 2048) (hk : 4 * k + 4 ≤ L) (R : RR h a ng nl nv k) (q0 : ¬ xs (4 * k) &&& 31 = 0) (q1 : ¬ xs (4 * k) &&& 31 = 1) (q2 : ¬ xs (4 * k) &&& 31 = 2) (q3 : ¬ xs (4 * k) &&& 31 = 3) (q4 : ¬ xs (4 * k) &&& 31 = 4) (q5 : ¬ xs (4 * k) &&& 31 = 5) (q6 : ¬ xs (4 * k) &&& 31 = 6) (q7 : ¬ xs (4 * k) &&& 31 = 7) (q8 : ¬ xs (4 * k) &&& 31 = 8) (q9 : ¬ xs (4 * k) &&& 31 = 9) (q10 : ¬ xs (4 * k) &&& 31 = 10) (q11 : ¬ xs (4 * k) &&& 31 = 11) (q12 : ¬ xs (4 * k) &&& 31 = 12) (q13 : ¬ xs (4 * k) &&& 31 = 13) (q14 : ¬ xs (4 * k) &&& 31 = 14) (q15 : ¬ xs (4 * k) &&& 31 = 15) (q16 : ¬ xs (4 * k) &&& 31 = 16) (q17 : ¬ xs (4 * k) &&& 31 = 17) (q18 : ¬ xs (4 * k) &&& 31 = 18) (q19 : ¬ xs (4 * k) &&& 31 = 19) (q20 : ¬ xs (4 * k) &&& 31 = 20) (q21 : ¬ xs (4 * k) &&& 31 = 21) (q22 : ¬ xs (4 * k) &&& 31 = 22) (q23 : xs (4 * k) &&& 31 = 23) : ∃ h2 ng nl nv, b_L_law_18 xs L h o (some a) (some (a + 26)) (nI (4 * k)) = some (.inl (h2, nI (4 * (k + 1)))) ∧ RR h2 a ng nl nv (k + 1) := by
  have P := R.1
  have hlt : (Int32.ofNat L - 4 < nI (4 * k)) = False := eq_false (fun z => by
    have z2 := i_lt.mp z
    have e : (Int32.ofNat L - 4).toInt = (L : Int) - 4 := by
      show (nI L - 4).toInt = _
      rw [i_sub] <;> rw [nI_toInt (by omega), show (4 : Int32).toInt = 4 from rfl] <;> omega
    rw [e, nI_toInt (by omega)] at z2
    omega)
  have s0 := scr_at (xs := xs) (show 4 * k < L by omega) hL
  have s1 := scr_at (xs := xs) (show 4 * k + 1 < L by omega) hL
  have s2 := scr_at (xs := xs) (show 4 * k + 2 < L by omega) hL
  have s3 := scr_at (xs := xs) (show 4 * k + 3 < L by omega) hL
  have a1 : nI (4 * k) + 1 = nI (4 * k + 1) := iN_succ _
  have a2 : nI (4 * k) + 2 = nI (4 * k + 2) := nI_add _ 2
  have a3 : nI (4 * k) + 3 = nI (4 * k + 3) := nI_add _ 3
  have a4 : nI (4 * k) + 4 = nI (4 * (k + 1)) := nI_add _ 4
  have d0 : ((23 : Int32) = 0) = False := eq_false (by decide)
  have d1 : ((23 : Int32) = 1) = False := eq_false (by decide)
  have d2 : ((23 : Int32) = 2) = False := eq_false (by decide)
  have d3 : ((23 : Int32) = 3) = False := eq_false (by decide)
  have d4 : ((23 : Int32) = 4) = False := eq_false (by decide)
  have d5 : ((23 : Int32) = 5) = False := eq_false (by decide)
  have d6 : ((23 : Int32) = 6) = False := eq_false (by decide)
  have d7 : ((23 : Int32) = 7) = False := eq_false (by decide)
  have d8 : ((23 : Int32) = 8) = False := eq_false (by decide)
  have d9 : ((23 : Int32) = 9) = False := eq_false (by decide)
  have d10 : ((23 : Int32) = 10) = False := eq_false (by decide)
  have d11 : ((23 : Int32) = 11) = False := eq_false (by decide)
  have d12 : ((23 : Int32) = 12) = False := eq_false (by decide)
  have d13 : ((23 : Int32) = 13) = False := eq_false (by decide)
  have d14 : ((23 : Int32) = 14) = False := eq_false (by decide)
  have d15 : ((23 : Int32) = 15) = False := eq_false (by decide)
  have d16 : ((23 : Int32) = 16) = False := eq_false (by decide)
  have d17 : ((23 : Int32) = 17) = False := eq_false (by decide)
  have d18 : ((23 : Int32) = 18) = False := eq_false (by decide)
  have d19 : ((23 : Int32) = 19) = False := eq_false (by decide)
  have d20 : ((23 : Int32) = 20) = False := eq_false (by decide)
  have d21 : ((23 : Int32) = 21) = False := eq_false (by decide)
  have d22 : ((23 : Int32) = 22) = False := eq_false (by decide)
  obtain ⟨r, h1, h2, ng', nl', nv', e1, e2, R2⟩ := P_wait R (xs (4 * k + 1))
  have k9 := k9_of R2 (fun hK => z_wait hK e2)
  refine ⟨h2, ng', nl', nv', ?_, R2⟩
  simp only [b_L_law_18, f_L_law_1127, hlt, s0, s1, s2, s3, a1, a2, a3, a4, q23, d0, d1, d2, d3, d4, d5, d6, d7, d8, d9, d10, d11, d12, d13, d14, d15, d16, d17, d18, d19, d20, d21, d22, Option.bind_some, oh_lt_eq, if_true, if_false, rc_0 P, rc_of k9, e1, e2]
set_option maxHeartbeats 2000000 in
theorem t_fresh {xs : Nat → Int32} {L o k a ng nl nv : Nat} {h : oh_H} (hL : L ≤ 2048) (hk : 4 * k + 4 ≤ L) (R : RR h a ng nl nv k) (q0 : ¬ xs (4 * k) &&& 31 = 0) (q1 : ¬ xs (4 * k) &&& 31 = 1) (q2 : ¬ xs (4 * k) &&& 31 = 2) (q3 : ¬ xs (4 * k) &&& 31 = 3) (q4 : ¬ xs (4 * k) &&& 31 = 4) (q5 : ¬ xs (4 * k) &&& 31 = 5) (q6 : ¬ xs (4 * k) &&& 31 = 6) (q7 : ¬ xs (4 * k) &&& 31 = 7) (q8 : ¬ xs (4 * k) &&& 31 = 8) (q9 : ¬ xs (4 * k) &&& 31 = 9) (q10 : ¬ xs (4 * k) &&& 31 = 10) (q11 : ¬ xs (4 * k) &&& 31 = 11) (q12 : ¬ xs (4 * k) &&& 31 = 12) (q13 : ¬ xs (4 * k) &&& 31 = 13) (q14 : ¬ xs (4 * k) &&& 31 = 14) (q15 : ¬ xs (4 * k) &&& 31 = 15) (q16 : ¬ xs (4 * k) &&& 31 = 16) (q17 : ¬ xs (4 * k) &&& 31 = 17) (q18 : ¬ xs (4 * k) &&& 31 = 18) (q19 : ¬ xs (4 * k) &&& 31 = 19) (q20 : ¬ xs (4 * k) &&& 31 = 20) (q21 : ¬ xs (4 * k) &&& 31 = 21) (q22 : ¬ xs (4 * k) &&& 31 = 22) (q23 : ¬ xs (4 * k) &&& 31 = 23) (q24 : xs (4 * k) &&& 31 = 24) : ∃ h2 ng nl nv, b_L_law_18 xs L h o (some a) (some (a + 26)) (nI (4 * k)) = some (.inl (h2, nI (4 * (k + 1)))) ∧ RR h2 a ng nl nv (k + 1) := by
  have P := R.1
  have hlt : (Int32.ofNat L - 4 < nI (4 * k)) = False := eq_false (fun z => by
    have z2 := i_lt.mp z
    have e : (Int32.ofNat L - 4).toInt = (L : Int) - 4 := by
      show (nI L - 4).toInt = _
      rw [i_sub] <;> rw [nI_toInt (by omega), show (4 : Int32).toInt = 4 from rfl] <;> omega
    rw [e, nI_toInt (by omega)] at z2
    omega)
  have s0 := scr_at (xs := xs) (show 4 * k < L by omega) hL
  have s1 := scr_at (xs := xs) (show 4 * k + 1 < L by omega) hL
  have s2 := scr_at (xs := xs) (show 4 * k + 2 < L by omega) hL
  have s3 := scr_at (xs := xs) (show 4 * k + 3 < L by omega) hL
  have a1 : nI (4 * k) + 1 = nI (4 * k + 1) := iN_succ _
  have a2 : nI (4 * k) + 2 = nI (4 * k + 2) := nI_add _ 2
  have a3 : nI (4 * k) + 3 = nI (4 * k + 3) := nI_add _ 3
  have a4 : nI (4 * k) + 4 = nI (4 * (k + 1)) := nI_add _ 4
  have d0 : ((24 : Int32) = 0) = False := eq_false (by decide)
  have d1 : ((24 : Int32) = 1) = False := eq_false (by decide)
  have d2 : ((24 : Int32) = 2) = False := eq_false (by decide)
  have d3 : ((24 : Int32) = 3) = False := eq_false (by decide)
  have d4 : ((24 : Int32) = 4) = False := eq_false (by decide)
  have d5 : ((24 : Int32) = 5) = False := eq_false (by decide)
  have d6 : ((24 : Int32) = 6) = False := eq_false (by decide)
  have d7 : ((24 : Int32) = 7) = False := eq_false (by decide)
  have d8 : ((24 : Int32) = 8) = False := eq_false (by decide)
  have d9 : ((24 : Int32) = 9) = False := eq_false (by decide)
  have d10 : ((24 : Int32) = 10) = False := eq_false (by decide)
  have d11 : ((24 : Int32) = 11) = False := eq_false (by decide)
  have d12 : ((24 : Int32) = 12) = False := eq_false (by decide)
  have d13 : ((24 : Int32) = 13) = False := eq_false (by decide)
  have d14 : ((24 : Int32) = 14) = False := eq_false (by decide)
  have d15 : ((24 : Int32) = 15) = False := eq_false (by decide)
  have d16 : ((24 : Int32) = 16) = False := eq_false (by decide)
  have d17 : ((24 : Int32) = 17) = False := eq_false (by decide)
  have d18 : ((24 : Int32) = 18) = False := eq_false (by decide)
  have d19 : ((24 : Int32) = 19) = False := eq_false (by decide)
  have d20 : ((24 : Int32) = 20) = False := eq_false (by decide)
  have d21 : ((24 : Int32) = 21) = False := eq_false (by decide)
  have d22 : ((24 : Int32) = 22) = False := eq_false (by decide)
  have d23 : ((24 : Int32) = 23) = False := eq_false (by decide)
  obtain ⟨r, h1, h2, ng', nl', nv', e1, e2, R2⟩ := P_fresh R (xs (4 * k + 1))
  have k9 := k9_of R2 (fun hK => z_fresh hK e2)
  refine ⟨h2, ng', nl', nv', ?_, R2⟩
  simp only [b_L_law_18, f_L_law_1127, hlt, s0, s1, s2, s3, a1, a2, a3, a4, q24, d0, d1, d2, d3, d4, d5, d6, d7, d8, d9, d10, d11, d12, d13, d14, d15, d16, d17, d18, d19, d20, d21, d22, d23, Option.bind_some, oh_lt_eq, if_true, if_false, rc_0 P, rc_of k9, e1, e2]
set_option maxHeartbeats 2000000 in
theorem t_at {xs : Nat → Int32} {L o k a ng nl nv : Nat} {h : oh_H} (hL : L ≤ 2048) (hk : 4 * k + 4 ≤ L) (R : RR h a ng nl nv k) (q0 : ¬ xs (4 * k) &&& 31 = 0) (q1 : ¬ xs (4 * k) &&& 31 = 1) (q2 : ¬ xs (4 * k) &&& 31 = 2) (q3 : ¬ xs (4 * k) &&& 31 = 3) (q4 : ¬ xs (4 * k) &&& 31 = 4) (q5 : ¬ xs (4 * k) &&& 31 = 5) (q6 : ¬ xs (4 * k) &&& 31 = 6) (q7 : ¬ xs (4 * k) &&& 31 = 7) (q8 : ¬ xs (4 * k) &&& 31 = 8) (q9 : ¬ xs (4 * k) &&& 31 = 9) (q10 : ¬ xs (4 * k) &&& 31 = 10) (q11 : ¬ xs (4 * k) &&& 31 = 11) (q12 : ¬ xs (4 * k) &&& 31 = 12) (q13 : ¬ xs (4 * k) &&& 31 = 13) (q14 : ¬ xs (4 * k) &&& 31 = 14) (q15 : ¬ xs (4 * k) &&& 31 = 15) (q16 : ¬ xs (4 * k) &&& 31 = 16) (q17 : ¬ xs (4 * k) &&& 31 = 17) (q18 : ¬ xs (4 * k) &&& 31 = 18) (q19 : ¬ xs (4 * k) &&& 31 = 19) (q20 : ¬ xs (4 * k) &&& 31 = 20) (q21 : ¬ xs (4 * k) &&& 31 = 21) (q22 : ¬ xs (4 * k) &&& 31 = 22) (q23 : ¬ xs (4 * k) &&& 31 = 23) (q24 : ¬ xs (4 * k) &&& 31 = 24) (q25 : xs (4 * k) &&& 31 = 25) : ∃ h2 ng nl nv, b_L_law_18 xs L h o (some a) (some (a + 26)) (nI (4 * k)) = some (.inl (h2, nI (4 * (k + 1)))) ∧ RR h2 a ng nl nv (k + 1) := by
  have P := R.1
  have hlt : (Int32.ofNat L - 4 < nI (4 * k)) = False := eq_false (fun z => by
    have z2 := i_lt.mp z
    have e : (Int32.ofNat L - 4).toInt = (L : Int) - 4 := by
      show (nI L - 4).toInt = _
      rw [i_sub] <;> rw [nI_toInt (by omega), show (4 : Int32).toInt = 4 from rfl] <;> omega
    rw [e, nI_toInt (by omega)] at z2
    omega)
  have s0 := scr_at (xs := xs) (show 4 * k < L by omega) hL
  have s1 := scr_at (xs := xs) (show 4 * k + 1 < L by omega) hL
  have s2 := scr_at (xs := xs) (show 4 * k + 2 < L by omega) hL
  have s3 := scr_at (xs := xs) (show 4 * k + 3 < L by omega) hL
  have a1 : nI (4 * k) + 1 = nI (4 * k + 1) := iN_succ _
  have a2 : nI (4 * k) + 2 = nI (4 * k + 2) := nI_add _ 2
  have a3 : nI (4 * k) + 3 = nI (4 * k + 3) := nI_add _ 3
  have a4 : nI (4 * k) + 4 = nI (4 * (k + 1)) := nI_add _ 4
  have d0 : ((25 : Int32) = 0) = False := eq_false (by decide)
  have d1 : ((25 : Int32) = 1) = False := eq_false (by decide)
  have d2 : ((25 : Int32) = 2) = False := eq_false (by decide)
  have d3 : ((25 : Int32) = 3) = False := eq_false (by decide)
  have d4 : ((25 : Int32) = 4) = False := eq_false (by decide)
  have d5 : ((25 : Int32) = 5) = False := eq_false (by decide)
  have d6 : ((25 : Int32) = 6) = False := eq_false (by decide)
  have d7 : ((25 : Int32) = 7) = False := eq_false (by decide)
  have d8 : ((25 : Int32) = 8) = False := eq_false (by decide)
  have d9 : ((25 : Int32) = 9) = False := eq_false (by decide)
  have d10 : ((25 : Int32) = 10) = False := eq_false (by decide)
  have d11 : ((25 : Int32) = 11) = False := eq_false (by decide)
  have d12 : ((25 : Int32) = 12) = False := eq_false (by decide)
  have d13 : ((25 : Int32) = 13) = False := eq_false (by decide)
  have d14 : ((25 : Int32) = 14) = False := eq_false (by decide)
  have d15 : ((25 : Int32) = 15) = False := eq_false (by decide)
  have d16 : ((25 : Int32) = 16) = False := eq_false (by decide)
  have d17 : ((25 : Int32) = 17) = False := eq_false (by decide)
  have d18 : ((25 : Int32) = 18) = False := eq_false (by decide)
  have d19 : ((25 : Int32) = 19) = False := eq_false (by decide)
  have d20 : ((25 : Int32) = 20) = False := eq_false (by decide)
  have d21 : ((25 : Int32) = 21) = False := eq_false (by decide)
  have d22 : ((25 : Int32) = 22) = False := eq_false (by decide)
  have d23 : ((25 : Int32) = 23) = False := eq_false (by decide)
  have d24 : ((25 : Int32) = 24) = False := eq_false (by decide)
  obtain ⟨r, e1, e2⟩ := P_at R (xs (4 * k + 1)) (xs (4 * k + 2))
  refine ⟨h, ng, nl, nv, ?_, R.mono⟩
  simp only [b_L_law_18, f_L_law_1127, hlt, s0, s1, s2, s3, a1, a2, a3, a4, q25, d0, d1, d2, d3, d4, d5, d6, d7, d8, d9, d10, d11, d12, d13, d14, d15, d16, d17, d18, d19, d20, d21, d22, d23, d24, Option.bind_some, oh_lt_eq, if_true, if_false, rc_0 P, rc_26 P, e1, e2]
set_option maxHeartbeats 2000000 in
theorem t_held {xs : Nat → Int32} {L o k a ng nl nv : Nat} {h : oh_H} (hL : L ≤ 2048) (hk : 4 * k + 4 ≤ L) (R : RR h a ng nl nv k) (q0 : ¬ xs (4 * k) &&& 31 = 0) (q1 : ¬ xs (4 * k) &&& 31 = 1) (q2 : ¬ xs (4 * k) &&& 31 = 2) (q3 : ¬ xs (4 * k) &&& 31 = 3) (q4 : ¬ xs (4 * k) &&& 31 = 4) (q5 : ¬ xs (4 * k) &&& 31 = 5) (q6 : ¬ xs (4 * k) &&& 31 = 6) (q7 : ¬ xs (4 * k) &&& 31 = 7) (q8 : ¬ xs (4 * k) &&& 31 = 8) (q9 : ¬ xs (4 * k) &&& 31 = 9) (q10 : ¬ xs (4 * k) &&& 31 = 10) (q11 : ¬ xs (4 * k) &&& 31 = 11) (q12 : ¬ xs (4 * k) &&& 31 = 12) (q13 : ¬ xs (4 * k) &&& 31 = 13) (q14 : ¬ xs (4 * k) &&& 31 = 14) (q15 : ¬ xs (4 * k) &&& 31 = 15) (q16 : ¬ xs (4 * k) &&& 31 = 16) (q17 : ¬ xs (4 * k) &&& 31 = 17) (q18 : ¬ xs (4 * k) &&& 31 = 18) (q19 : ¬ xs (4 * k) &&& 31 = 19) (q20 : ¬ xs (4 * k) &&& 31 = 20) (q21 : ¬ xs (4 * k) &&& 31 = 21) (q22 : ¬ xs (4 * k) &&& 31 = 22) (q23 : ¬ xs (4 * k) &&& 31 = 23) (q24 : ¬ xs (4 * k) &&& 31 = 24) (q25 : ¬ xs (4 * k) &&& 31 = 25) (q26 : xs (4 * k) &&& 31 = 26) : ∃ h2 ng nl nv, b_L_law_18 xs L h o (some a) (some (a + 26)) (nI (4 * k)) = some (.inl (h2, nI (4 * (k + 1)))) ∧ RR h2 a ng nl nv (k + 1) := by
  have P := R.1
  have hlt : (Int32.ofNat L - 4 < nI (4 * k)) = False := eq_false (fun z => by
    have z2 := i_lt.mp z
    have e : (Int32.ofNat L - 4).toInt = (L : Int) - 4 := by
      show (nI L - 4).toInt = _
      rw [i_sub] <;> rw [nI_toInt (by omega), show (4 : Int32).toInt = 4 from rfl] <;> omega
    rw [e, nI_toInt (by omega)] at z2
    omega)
  have s0 := scr_at (xs := xs) (show 4 * k < L by omega) hL
  have s1 := scr_at (xs := xs) (show 4 * k + 1 < L by omega) hL
  have s2 := scr_at (xs := xs) (show 4 * k + 2 < L by omega) hL
  have s3 := scr_at (xs := xs) (show 4 * k + 3 < L by omega) hL
  have a1 : nI (4 * k) + 1 = nI (4 * k + 1) := iN_succ _
  have a2 : nI (4 * k) + 2 = nI (4 * k + 2) := nI_add _ 2
  have a3 : nI (4 * k) + 3 = nI (4 * k + 3) := nI_add _ 3
  have a4 : nI (4 * k) + 4 = nI (4 * (k + 1)) := nI_add _ 4
  have d0 : ((26 : Int32) = 0) = False := eq_false (by decide)
  have d1 : ((26 : Int32) = 1) = False := eq_false (by decide)
  have d2 : ((26 : Int32) = 2) = False := eq_false (by decide)
  have d3 : ((26 : Int32) = 3) = False := eq_false (by decide)
  have d4 : ((26 : Int32) = 4) = False := eq_false (by decide)
  have d5 : ((26 : Int32) = 5) = False := eq_false (by decide)
  have d6 : ((26 : Int32) = 6) = False := eq_false (by decide)
  have d7 : ((26 : Int32) = 7) = False := eq_false (by decide)
  have d8 : ((26 : Int32) = 8) = False := eq_false (by decide)
  have d9 : ((26 : Int32) = 9) = False := eq_false (by decide)
  have d10 : ((26 : Int32) = 10) = False := eq_false (by decide)
  have d11 : ((26 : Int32) = 11) = False := eq_false (by decide)
  have d12 : ((26 : Int32) = 12) = False := eq_false (by decide)
  have d13 : ((26 : Int32) = 13) = False := eq_false (by decide)
  have d14 : ((26 : Int32) = 14) = False := eq_false (by decide)
  have d15 : ((26 : Int32) = 15) = False := eq_false (by decide)
  have d16 : ((26 : Int32) = 16) = False := eq_false (by decide)
  have d17 : ((26 : Int32) = 17) = False := eq_false (by decide)
  have d18 : ((26 : Int32) = 18) = False := eq_false (by decide)
  have d19 : ((26 : Int32) = 19) = False := eq_false (by decide)
  have d20 : ((26 : Int32) = 20) = False := eq_false (by decide)
  have d21 : ((26 : Int32) = 21) = False := eq_false (by decide)
  have d22 : ((26 : Int32) = 22) = False := eq_false (by decide)
  have d23 : ((26 : Int32) = 23) = False := eq_false (by decide)
  have d24 : ((26 : Int32) = 24) = False := eq_false (by decide)
  have d25 : ((26 : Int32) = 25) = False := eq_false (by decide)
  obtain ⟨r, e1, e2⟩ := P_held R (xs (4 * k + 1)) (xs (4 * k + 2))
  refine ⟨h, ng, nl, nv, ?_, R.mono⟩
  simp only [b_L_law_18, f_L_law_1127, hlt, s0, s1, s2, s3, a1, a2, a3, a4, q26, d0, d1, d2, d3, d4, d5, d6, d7, d8, d9, d10, d11, d12, d13, d14, d15, d16, d17, d18, d19, d20, d21, d22, d23, d24, d25, Option.bind_some, oh_lt_eq, if_true, if_false, rc_0 P, rc_26 P, e1, e2]
set_option maxHeartbeats 2000000 in
theorem t_plan {xs : Nat → Int32} {L o k a ng nl nv : Nat} {h : oh_H} (hL : L ≤ 2048) (hk : 4 * k + 4 ≤ L) (R : RR h a ng nl nv k) (q0 : ¬ xs (4 * k) &&& 31 = 0) (q1 : ¬ xs (4 * k) &&& 31 = 1) (q2 : ¬ xs (4 * k) &&& 31 = 2) (q3 : ¬ xs (4 * k) &&& 31 = 3) (q4 : ¬ xs (4 * k) &&& 31 = 4) (q5 : ¬ xs (4 * k) &&& 31 = 5) (q6 : ¬ xs (4 * k) &&& 31 = 6) (q7 : ¬ xs (4 * k) &&& 31 = 7) (q8 : ¬ xs (4 * k) &&& 31 = 8) (q9 : ¬ xs (4 * k) &&& 31 = 9) (q10 : ¬ xs (4 * k) &&& 31 = 10) (q11 : ¬ xs (4 * k) &&& 31 = 11) (q12 : ¬ xs (4 * k) &&& 31 = 12) (q13 : ¬ xs (4 * k) &&& 31 = 13) (q14 : ¬ xs (4 * k) &&& 31 = 14) (q15 : ¬ xs (4 * k) &&& 31 = 15) (q16 : ¬ xs (4 * k) &&& 31 = 16) (q17 : ¬ xs (4 * k) &&& 31 = 17) (q18 : ¬ xs (4 * k) &&& 31 = 18) (q19 : ¬ xs (4 * k) &&& 31 = 19) (q20 : ¬ xs (4 * k) &&& 31 = 20) (q21 : ¬ xs (4 * k) &&& 31 = 21) (q22 : ¬ xs (4 * k) &&& 31 = 22) (q23 : ¬ xs (4 * k) &&& 31 = 23) (q24 : ¬ xs (4 * k) &&& 31 = 24) (q25 : ¬ xs (4 * k) &&& 31 = 25) (q26 : ¬ xs (4 * k) &&& 31 = 26) (q27 : xs (4 * k) &&& 31 = 27) : ∃ h2 ng nl nv, b_L_law_18 xs L h o (some a) (some (a + 26)) (nI (4 * k)) = some (.inl (h2, nI (4 * (k + 1)))) ∧ RR h2 a ng nl nv (k + 1) := by
  have P := R.1
  have hlt : (Int32.ofNat L - 4 < nI (4 * k)) = False := eq_false (fun z => by
    have z2 := i_lt.mp z
    have e : (Int32.ofNat L - 4).toInt = (L : Int) - 4 := by
      show (nI L - 4).toInt = _
      rw [i_sub] <;> rw [nI_toInt (by omega), show (4 : Int32).toInt = 4 from rfl] <;> omega
    rw [e, nI_toInt (by omega)] at z2
    omega)
  have s0 := scr_at (xs := xs) (show 4 * k < L by omega) hL
  have s1 := scr_at (xs := xs) (show 4 * k + 1 < L by omega) hL
  have s2 := scr_at (xs := xs) (show 4 * k + 2 < L by omega) hL
  have s3 := scr_at (xs := xs) (show 4 * k + 3 < L by omega) hL
  have a1 : nI (4 * k) + 1 = nI (4 * k + 1) := iN_succ _
  have a2 : nI (4 * k) + 2 = nI (4 * k + 2) := nI_add _ 2
  have a3 : nI (4 * k) + 3 = nI (4 * k + 3) := nI_add _ 3
  have a4 : nI (4 * k) + 4 = nI (4 * (k + 1)) := nI_add _ 4
  have d0 : ((27 : Int32) = 0) = False := eq_false (by decide)
  have d1 : ((27 : Int32) = 1) = False := eq_false (by decide)
  have d2 : ((27 : Int32) = 2) = False := eq_false (by decide)
  have d3 : ((27 : Int32) = 3) = False := eq_false (by decide)
  have d4 : ((27 : Int32) = 4) = False := eq_false (by decide)
  have d5 : ((27 : Int32) = 5) = False := eq_false (by decide)
  have d6 : ((27 : Int32) = 6) = False := eq_false (by decide)
  have d7 : ((27 : Int32) = 7) = False := eq_false (by decide)
  have d8 : ((27 : Int32) = 8) = False := eq_false (by decide)
  have d9 : ((27 : Int32) = 9) = False := eq_false (by decide)
  have d10 : ((27 : Int32) = 10) = False := eq_false (by decide)
  have d11 : ((27 : Int32) = 11) = False := eq_false (by decide)
  have d12 : ((27 : Int32) = 12) = False := eq_false (by decide)
  have d13 : ((27 : Int32) = 13) = False := eq_false (by decide)
  have d14 : ((27 : Int32) = 14) = False := eq_false (by decide)
  have d15 : ((27 : Int32) = 15) = False := eq_false (by decide)
  have d16 : ((27 : Int32) = 16) = False := eq_false (by decide)
  have d17 : ((27 : Int32) = 17) = False := eq_false (by decide)
  have d18 : ((27 : Int32) = 18) = False := eq_false (by decide)
  have d19 : ((27 : Int32) = 19) = False := eq_false (by decide)
  have d20 : ((27 : Int32) = 20) = False := eq_false (by decide)
  have d21 : ((27 : Int32) = 21) = False := eq_false (by decide)
  have d22 : ((27 : Int32) = 22) = False := eq_false (by decide)
  have d23 : ((27 : Int32) = 23) = False := eq_false (by decide)
  have d24 : ((27 : Int32) = 24) = False := eq_false (by decide)
  have d25 : ((27 : Int32) = 25) = False := eq_false (by decide)
  have d26 : ((27 : Int32) = 26) = False := eq_false (by decide)
  obtain ⟨r, h1, h2, ng', nl', nv', e1, e2, R2⟩ := P_plan R (xs (4 * k + 1))
  have k9 := k9_of R2 (fun hK => z_plan hK e2)
  refine ⟨h2, ng', nl', nv', ?_, R2⟩
  simp only [b_L_law_18, f_L_law_1127, hlt, s0, s1, s2, s3, a1, a2, a3, a4, q27, d0, d1, d2, d3, d4, d5, d6, d7, d8, d9, d10, d11, d12, d13, d14, d15, d16, d17, d18, d19, d20, d21, d22, d23, d24, d25, d26, Option.bind_some, oh_lt_eq, if_true, if_false, rc_0 P, rc_of k9, e1, e2]
set_option maxHeartbeats 2000000 in
theorem t_planned {xs : Nat → Int32} {L o k a ng nl nv : Nat} {h : oh_H} (hL : L ≤ 2048) (hk : 4 * k + 4 ≤ L) (R : RR h a ng nl nv k) (q0 : ¬ xs (4 * k) &&& 31 = 0) (q1 : ¬ xs (4 * k) &&& 31 = 1) (q2 : ¬ xs (4 * k) &&& 31 = 2) (q3 : ¬ xs (4 * k) &&& 31 = 3) (q4 : ¬ xs (4 * k) &&& 31 = 4) (q5 : ¬ xs (4 * k) &&& 31 = 5) (q6 : ¬ xs (4 * k) &&& 31 = 6) (q7 : ¬ xs (4 * k) &&& 31 = 7) (q8 : ¬ xs (4 * k) &&& 31 = 8) (q9 : ¬ xs (4 * k) &&& 31 = 9) (q10 : ¬ xs (4 * k) &&& 31 = 10) (q11 : ¬ xs (4 * k) &&& 31 = 11) (q12 : ¬ xs (4 * k) &&& 31 = 12) (q13 : ¬ xs (4 * k) &&& 31 = 13) (q14 : ¬ xs (4 * k) &&& 31 = 14) (q15 : ¬ xs (4 * k) &&& 31 = 15) (q16 : ¬ xs (4 * k) &&& 31 = 16) (q17 : ¬ xs (4 * k) &&& 31 = 17) (q18 : ¬ xs (4 * k) &&& 31 = 18) (q19 : ¬ xs (4 * k) &&& 31 = 19) (q20 : ¬ xs (4 * k) &&& 31 = 20) (q21 : ¬ xs (4 * k) &&& 31 = 21) (q22 : ¬ xs (4 * k) &&& 31 = 22) (q23 : ¬ xs (4 * k) &&& 31 = 23) (q24 : ¬ xs (4 * k) &&& 31 = 24) (q25 : ¬ xs (4 * k) &&& 31 = 25) (q26 : ¬ xs (4 * k) &&& 31 = 26) (q27 : ¬ xs (4 * k) &&& 31 = 27) (q28 : xs (4 * k) &&& 31 = 28) : ∃ h2 ng nl nv, b_L_law_18 xs L h o (some a) (some (a + 26)) (nI (4 * k)) = some (.inl (h2, nI (4 * (k + 1)))) ∧ RR h2 a ng nl nv (k + 1) := by
  have P := R.1
  have hlt : (Int32.ofNat L - 4 < nI (4 * k)) = False := eq_false (fun z => by
    have z2 := i_lt.mp z
    have e : (Int32.ofNat L - 4).toInt = (L : Int) - 4 := by
      show (nI L - 4).toInt = _
      rw [i_sub] <;> rw [nI_toInt (by omega), show (4 : Int32).toInt = 4 from rfl] <;> omega
    rw [e, nI_toInt (by omega)] at z2
    omega)
  have s0 := scr_at (xs := xs) (show 4 * k < L by omega) hL
  have s1 := scr_at (xs := xs) (show 4 * k + 1 < L by omega) hL
  have s2 := scr_at (xs := xs) (show 4 * k + 2 < L by omega) hL
  have s3 := scr_at (xs := xs) (show 4 * k + 3 < L by omega) hL
  have a1 : nI (4 * k) + 1 = nI (4 * k + 1) := iN_succ _
  have a2 : nI (4 * k) + 2 = nI (4 * k + 2) := nI_add _ 2
  have a3 : nI (4 * k) + 3 = nI (4 * k + 3) := nI_add _ 3
  have a4 : nI (4 * k) + 4 = nI (4 * (k + 1)) := nI_add _ 4
  have d0 : ((28 : Int32) = 0) = False := eq_false (by decide)
  have d1 : ((28 : Int32) = 1) = False := eq_false (by decide)
  have d2 : ((28 : Int32) = 2) = False := eq_false (by decide)
  have d3 : ((28 : Int32) = 3) = False := eq_false (by decide)
  have d4 : ((28 : Int32) = 4) = False := eq_false (by decide)
  have d5 : ((28 : Int32) = 5) = False := eq_false (by decide)
  have d6 : ((28 : Int32) = 6) = False := eq_false (by decide)
  have d7 : ((28 : Int32) = 7) = False := eq_false (by decide)
  have d8 : ((28 : Int32) = 8) = False := eq_false (by decide)
  have d9 : ((28 : Int32) = 9) = False := eq_false (by decide)
  have d10 : ((28 : Int32) = 10) = False := eq_false (by decide)
  have d11 : ((28 : Int32) = 11) = False := eq_false (by decide)
  have d12 : ((28 : Int32) = 12) = False := eq_false (by decide)
  have d13 : ((28 : Int32) = 13) = False := eq_false (by decide)
  have d14 : ((28 : Int32) = 14) = False := eq_false (by decide)
  have d15 : ((28 : Int32) = 15) = False := eq_false (by decide)
  have d16 : ((28 : Int32) = 16) = False := eq_false (by decide)
  have d17 : ((28 : Int32) = 17) = False := eq_false (by decide)
  have d18 : ((28 : Int32) = 18) = False := eq_false (by decide)
  have d19 : ((28 : Int32) = 19) = False := eq_false (by decide)
  have d20 : ((28 : Int32) = 20) = False := eq_false (by decide)
  have d21 : ((28 : Int32) = 21) = False := eq_false (by decide)
  have d22 : ((28 : Int32) = 22) = False := eq_false (by decide)
  have d23 : ((28 : Int32) = 23) = False := eq_false (by decide)
  have d24 : ((28 : Int32) = 24) = False := eq_false (by decide)
  have d25 : ((28 : Int32) = 25) = False := eq_false (by decide)
  have d26 : ((28 : Int32) = 26) = False := eq_false (by decide)
  have d27 : ((28 : Int32) = 27) = False := eq_false (by decide)
  obtain ⟨r, e1, e2⟩ := P_planned R (xs (4 * k + 1))
  refine ⟨h, ng, nl, nv, ?_, R.mono⟩
  simp only [b_L_law_18, f_L_law_1127, hlt, s0, s1, s2, s3, a1, a2, a3, a4, q28, d0, d1, d2, d3, d4, d5, d6, d7, d8, d9, d10, d11, d12, d13, d14, d15, d16, d17, d18, d19, d20, d21, d22, d23, d24, d25, d26, d27, Option.bind_some, oh_lt_eq, if_true, if_false, rc_0 P, rc_26 P, e1, e2]
set_option maxHeartbeats 2000000 in
theorem t_balance {xs : Nat → Int32} {L o k a ng nl nv : Nat} {h : oh_H} (hL : L ≤ 2048) (hk : 4 * k + 4 ≤ L) (R : RR h a ng nl nv k) (q0 : ¬ xs (4 * k) &&& 31 = 0) (q1 : ¬ xs (4 * k) &&& 31 = 1) (q2 : ¬ xs (4 * k) &&& 31 = 2) (q3 : ¬ xs (4 * k) &&& 31 = 3) (q4 : ¬ xs (4 * k) &&& 31 = 4) (q5 : ¬ xs (4 * k) &&& 31 = 5) (q6 : ¬ xs (4 * k) &&& 31 = 6) (q7 : ¬ xs (4 * k) &&& 31 = 7) (q8 : ¬ xs (4 * k) &&& 31 = 8) (q9 : ¬ xs (4 * k) &&& 31 = 9) (q10 : ¬ xs (4 * k) &&& 31 = 10) (q11 : ¬ xs (4 * k) &&& 31 = 11) (q12 : ¬ xs (4 * k) &&& 31 = 12) (q13 : ¬ xs (4 * k) &&& 31 = 13) (q14 : ¬ xs (4 * k) &&& 31 = 14) (q15 : ¬ xs (4 * k) &&& 31 = 15) (q16 : ¬ xs (4 * k) &&& 31 = 16) (q17 : ¬ xs (4 * k) &&& 31 = 17) (q18 : ¬ xs (4 * k) &&& 31 = 18) (q19 : ¬ xs (4 * k) &&& 31 = 19) (q20 : ¬ xs (4 * k) &&& 31 = 20) (q21 : ¬ xs (4 * k) &&& 31 = 21) (q22 : ¬ xs (4 * k) &&& 31 = 22) (q23 : ¬ xs (4 * k) &&& 31 = 23) (q24 : ¬ xs (4 * k) &&& 31 = 24) (q25 : ¬ xs (4 * k) &&& 31 = 25) (q26 : ¬ xs (4 * k) &&& 31 = 26) (q27 : ¬ xs (4 * k) &&& 31 = 27) (q28 : ¬ xs (4 * k) &&& 31 = 28) (q29 : xs (4 * k) &&& 31 = 29) : ∃ h2 ng nl nv, b_L_law_18 xs L h o (some a) (some (a + 26)) (nI (4 * k)) = some (.inl (h2, nI (4 * (k + 1)))) ∧ RR h2 a ng nl nv (k + 1) := by
  have P := R.1
  have hlt : (Int32.ofNat L - 4 < nI (4 * k)) = False := eq_false (fun z => by
    have z2 := i_lt.mp z
    have e : (Int32.ofNat L - 4).toInt = (L : Int) - 4 := by
      show (nI L - 4).toInt = _
      rw [i_sub] <;> rw [nI_toInt (by omega), show (4 : Int32).toInt = 4 from rfl] <;> omega
    rw [e, nI_toInt (by omega)] at z2
    omega)
  have s0 := scr_at (xs := xs) (show 4 * k < L by omega) hL
  have s1 := scr_at (xs := xs) (show 4 * k + 1 < L by omega) hL
  have s2 := scr_at (xs := xs) (show 4 * k + 2 < L by omega) hL
  have s3 := scr_at (xs := xs) (show 4 * k + 3 < L by omega) hL
  have a1 : nI (4 * k) + 1 = nI (4 * k + 1) := iN_succ _
  have a2 : nI (4 * k) + 2 = nI (4 * k + 2) := nI_add _ 2
  have a3 : nI (4 * k) + 3 = nI (4 * k + 3) := nI_add _ 3
  have a4 : nI (4 * k) + 4 = nI (4 * (k + 1)) := nI_add _ 4
  have d0 : ((29 : Int32) = 0) = False := eq_false (by decide)
  have d1 : ((29 : Int32) = 1) = False := eq_false (by decide)
  have d2 : ((29 : Int32) = 2) = False := eq_false (by decide)
  have d3 : ((29 : Int32) = 3) = False := eq_false (by decide)
  have d4 : ((29 : Int32) = 4) = False := eq_false (by decide)
  have d5 : ((29 : Int32) = 5) = False := eq_false (by decide)
  have d6 : ((29 : Int32) = 6) = False := eq_false (by decide)
  have d7 : ((29 : Int32) = 7) = False := eq_false (by decide)
  have d8 : ((29 : Int32) = 8) = False := eq_false (by decide)
  have d9 : ((29 : Int32) = 9) = False := eq_false (by decide)
  have d10 : ((29 : Int32) = 10) = False := eq_false (by decide)
  have d11 : ((29 : Int32) = 11) = False := eq_false (by decide)
  have d12 : ((29 : Int32) = 12) = False := eq_false (by decide)
  have d13 : ((29 : Int32) = 13) = False := eq_false (by decide)
  have d14 : ((29 : Int32) = 14) = False := eq_false (by decide)
  have d15 : ((29 : Int32) = 15) = False := eq_false (by decide)
  have d16 : ((29 : Int32) = 16) = False := eq_false (by decide)
  have d17 : ((29 : Int32) = 17) = False := eq_false (by decide)
  have d18 : ((29 : Int32) = 18) = False := eq_false (by decide)
  have d19 : ((29 : Int32) = 19) = False := eq_false (by decide)
  have d20 : ((29 : Int32) = 20) = False := eq_false (by decide)
  have d21 : ((29 : Int32) = 21) = False := eq_false (by decide)
  have d22 : ((29 : Int32) = 22) = False := eq_false (by decide)
  have d23 : ((29 : Int32) = 23) = False := eq_false (by decide)
  have d24 : ((29 : Int32) = 24) = False := eq_false (by decide)
  have d25 : ((29 : Int32) = 25) = False := eq_false (by decide)
  have d26 : ((29 : Int32) = 26) = False := eq_false (by decide)
  have d27 : ((29 : Int32) = 27) = False := eq_false (by decide)
  have d28 : ((29 : Int32) = 28) = False := eq_false (by decide)
  obtain ⟨r, e1, e2⟩ := P_balance R 
  refine ⟨h, ng, nl, nv, ?_, R.mono⟩
  simp only [b_L_law_18, f_L_law_1127, hlt, s0, s1, s2, s3, a1, a2, a3, a4, q29, d0, d1, d2, d3, d4, d5, d6, d7, d8, d9, d10, d11, d12, d13, d14, d15, d16, d17, d18, d19, d20, d21, d22, d23, d24, d25, d26, d27, d28, Option.bind_some, oh_lt_eq, if_true, if_false, rc_0 P, rc_26 P, e1, e2]
set_option maxHeartbeats 2000000 in
theorem t_count {xs : Nat → Int32} {L o k a ng nl nv : Nat} {h : oh_H} (hL : L ≤ 2048) (hk : 4 * k + 4 ≤ L) (R : RR h a ng nl nv k) (q0 : ¬ xs (4 * k) &&& 31 = 0) (q1 : ¬ xs (4 * k) &&& 31 = 1) (q2 : ¬ xs (4 * k) &&& 31 = 2) (q3 : ¬ xs (4 * k) &&& 31 = 3) (q4 : ¬ xs (4 * k) &&& 31 = 4) (q5 : ¬ xs (4 * k) &&& 31 = 5) (q6 : ¬ xs (4 * k) &&& 31 = 6) (q7 : ¬ xs (4 * k) &&& 31 = 7) (q8 : ¬ xs (4 * k) &&& 31 = 8) (q9 : ¬ xs (4 * k) &&& 31 = 9) (q10 : ¬ xs (4 * k) &&& 31 = 10) (q11 : ¬ xs (4 * k) &&& 31 = 11) (q12 : ¬ xs (4 * k) &&& 31 = 12) (q13 : ¬ xs (4 * k) &&& 31 = 13) (q14 : ¬ xs (4 * k) &&& 31 = 14) (q15 : ¬ xs (4 * k) &&& 31 = 15) (q16 : ¬ xs (4 * k) &&& 31 = 16) (q17 : ¬ xs (4 * k) &&& 31 = 17) (q18 : ¬ xs (4 * k) &&& 31 = 18) (q19 : ¬ xs (4 * k) &&& 31 = 19) (q20 : ¬ xs (4 * k) &&& 31 = 20) (q21 : ¬ xs (4 * k) &&& 31 = 21) (q22 : ¬ xs (4 * k) &&& 31 = 22) (q23 : ¬ xs (4 * k) &&& 31 = 23) (q24 : ¬ xs (4 * k) &&& 31 = 24) (q25 : ¬ xs (4 * k) &&& 31 = 25) (q26 : ¬ xs (4 * k) &&& 31 = 26) (q27 : ¬ xs (4 * k) &&& 31 = 27) (q28 : ¬ xs (4 * k) &&& 31 = 28) (q29 : ¬ xs (4 * k) &&& 31 = 29) (q30 : xs (4 * k) &&& 31 = 30) : ∃ h2 ng nl nv, b_L_law_18 xs L h o (some a) (some (a + 26)) (nI (4 * k)) = some (.inl (h2, nI (4 * (k + 1)))) ∧ RR h2 a ng nl nv (k + 1) := by
  have P := R.1
  have hlt : (Int32.ofNat L - 4 < nI (4 * k)) = False := eq_false (fun z => by
    have z2 := i_lt.mp z
    have e : (Int32.ofNat L - 4).toInt = (L : Int) - 4 := by
      show (nI L - 4).toInt = _
      rw [i_sub] <;> rw [nI_toInt (by omega), show (4 : Int32).toInt = 4 from rfl] <;> omega
    rw [e, nI_toInt (by omega)] at z2
    omega)
  have s0 := scr_at (xs := xs) (show 4 * k < L by omega) hL
  have s1 := scr_at (xs := xs) (show 4 * k + 1 < L by omega) hL
  have s2 := scr_at (xs := xs) (show 4 * k + 2 < L by omega) hL
  have s3 := scr_at (xs := xs) (show 4 * k + 3 < L by omega) hL
  have a1 : nI (4 * k) + 1 = nI (4 * k + 1) := iN_succ _
  have a2 : nI (4 * k) + 2 = nI (4 * k + 2) := nI_add _ 2
  have a3 : nI (4 * k) + 3 = nI (4 * k + 3) := nI_add _ 3
  have a4 : nI (4 * k) + 4 = nI (4 * (k + 1)) := nI_add _ 4
  have d0 : ((30 : Int32) = 0) = False := eq_false (by decide)
  have d1 : ((30 : Int32) = 1) = False := eq_false (by decide)
  have d2 : ((30 : Int32) = 2) = False := eq_false (by decide)
  have d3 : ((30 : Int32) = 3) = False := eq_false (by decide)
  have d4 : ((30 : Int32) = 4) = False := eq_false (by decide)
  have d5 : ((30 : Int32) = 5) = False := eq_false (by decide)
  have d6 : ((30 : Int32) = 6) = False := eq_false (by decide)
  have d7 : ((30 : Int32) = 7) = False := eq_false (by decide)
  have d8 : ((30 : Int32) = 8) = False := eq_false (by decide)
  have d9 : ((30 : Int32) = 9) = False := eq_false (by decide)
  have d10 : ((30 : Int32) = 10) = False := eq_false (by decide)
  have d11 : ((30 : Int32) = 11) = False := eq_false (by decide)
  have d12 : ((30 : Int32) = 12) = False := eq_false (by decide)
  have d13 : ((30 : Int32) = 13) = False := eq_false (by decide)
  have d14 : ((30 : Int32) = 14) = False := eq_false (by decide)
  have d15 : ((30 : Int32) = 15) = False := eq_false (by decide)
  have d16 : ((30 : Int32) = 16) = False := eq_false (by decide)
  have d17 : ((30 : Int32) = 17) = False := eq_false (by decide)
  have d18 : ((30 : Int32) = 18) = False := eq_false (by decide)
  have d19 : ((30 : Int32) = 19) = False := eq_false (by decide)
  have d20 : ((30 : Int32) = 20) = False := eq_false (by decide)
  have d21 : ((30 : Int32) = 21) = False := eq_false (by decide)
  have d22 : ((30 : Int32) = 22) = False := eq_false (by decide)
  have d23 : ((30 : Int32) = 23) = False := eq_false (by decide)
  have d24 : ((30 : Int32) = 24) = False := eq_false (by decide)
  have d25 : ((30 : Int32) = 25) = False := eq_false (by decide)
  have d26 : ((30 : Int32) = 26) = False := eq_false (by decide)
  have d27 : ((30 : Int32) = 27) = False := eq_false (by decide)
  have d28 : ((30 : Int32) = 28) = False := eq_false (by decide)
  have d29 : ((30 : Int32) = 29) = False := eq_false (by decide)
  obtain ⟨r, e1, e2⟩ := P_count R (xs (4 * k + 1))
  refine ⟨h, ng, nl, nv, ?_, R.mono⟩
  simp only [b_L_law_18, f_L_law_1127, hlt, s0, s1, s2, s3, a1, a2, a3, a4, q30, d0, d1, d2, d3, d4, d5, d6, d7, d8, d9, d10, d11, d12, d13, d14, d15, d16, d17, d18, d19, d20, d21, d22, d23, d24, d25, d26, d27, d28, d29, Option.bind_some, oh_lt_eq, if_true, if_false, rc_0 P, rc_26 P, e1, e2]
theorem t_none {xs : Nat → Int32} {L o k a ng nl nv : Nat} {h : oh_H} (hL : L ≤ 2048) (hk : 4 * k + 4 ≤ L) (R : RR h a ng nl nv k) (q0 : ¬ xs (4 * k) &&& 31 = 0) (q1 : ¬ xs (4 * k) &&& 31 = 1) (q2 : ¬ xs (4 * k) &&& 31 = 2) (q3 : ¬ xs (4 * k) &&& 31 = 3) (q4 : ¬ xs (4 * k) &&& 31 = 4) (q5 : ¬ xs (4 * k) &&& 31 = 5) (q6 : ¬ xs (4 * k) &&& 31 = 6) (q7 : ¬ xs (4 * k) &&& 31 = 7) (q8 : ¬ xs (4 * k) &&& 31 = 8) (q9 : ¬ xs (4 * k) &&& 31 = 9) (q10 : ¬ xs (4 * k) &&& 31 = 10) (q11 : ¬ xs (4 * k) &&& 31 = 11) (q12 : ¬ xs (4 * k) &&& 31 = 12) (q13 : ¬ xs (4 * k) &&& 31 = 13) (q14 : ¬ xs (4 * k) &&& 31 = 14) (q15 : ¬ xs (4 * k) &&& 31 = 15) (q16 : ¬ xs (4 * k) &&& 31 = 16) (q17 : ¬ xs (4 * k) &&& 31 = 17) (q18 : ¬ xs (4 * k) &&& 31 = 18) (q19 : ¬ xs (4 * k) &&& 31 = 19) (q20 : ¬ xs (4 * k) &&& 31 = 20) (q21 : ¬ xs (4 * k) &&& 31 = 21) (q22 : ¬ xs (4 * k) &&& 31 = 22) (q23 : ¬ xs (4 * k) &&& 31 = 23) (q24 : ¬ xs (4 * k) &&& 31 = 24) (q25 : ¬ xs (4 * k) &&& 31 = 25) (q26 : ¬ xs (4 * k) &&& 31 = 26) (q27 : ¬ xs (4 * k) &&& 31 = 27) (q28 : ¬ xs (4 * k) &&& 31 = 28) (q29 : ¬ xs (4 * k) &&& 31 = 29) (q30 : ¬ xs (4 * k) &&& 31 = 30) : ∃ h2 ng nl nv, b_L_law_18 xs L h o (some a) (some (a + 26)) (nI (4 * k)) = some (.inl (h2, nI (4 * (k + 1)))) ∧ RR h2 a ng nl nv (k + 1) := by
  have hlt : (Int32.ofNat L - 4 < nI (4 * k)) = False := eq_false (fun z => by
    have z2 := i_lt.mp z
    have e : (Int32.ofNat L - 4).toInt = (L : Int) - 4 := by
      show (nI L - 4).toInt = _
      rw [i_sub] <;> rw [nI_toInt (by omega), show (4 : Int32).toInt = 4 from rfl] <;> omega
    rw [e, nI_toInt (by omega)] at z2
    omega)
  have s0 := scr_at (xs := xs) (show 4 * k < L by omega) hL
  have a4 : nI (4 * k) + 4 = nI (4 * (k + 1)) := nI_add _ 4
  refine ⟨h, ng, nl, nv, ?_, R.mono⟩
  simp only [b_L_law_18, f_L_law_1127, hlt, s0, a4, q0, q1, q2, q3, q4, q5, q6, q7, q8, q9, q10, q11, q12, q13, q14, q15, q16, q17, q18, q19, q20, q21, q22, q23, q24, q25, q26, q27, q28, q29, q30, Option.bind_some, oh_lt_eq, if_false]
theorem t_turn {xs : Nat → Int32} {L o k a ng nl nv : Nat} {h : oh_H} (hL : L ≤ 2048) (hk : 4 * k + 4 ≤ L) (R : RR h a ng nl nv k) : ∃ h2 ng nl nv, b_L_law_18 xs L h o (some a) (some (a + 26)) (nI (4 * k)) = some (.inl (h2, nI (4 * (k + 1)))) ∧ RR h2 a ng nl nv (k + 1) := by
  by_cases q0 : xs (4 * k) &&& 31 = 0
  · exact t_grove hL hk R q0
  by_cases q1 : xs (4 * k) &&& 31 = 1
  · exact t_lot hL hk R q0 q1
  by_cases q2 : xs (4 * k) &&& 31 = 2
  · exact t_wish hL hk R q0 q1 q2
  by_cases q3 : xs (4 * k) &&& 31 = 3
  · exact t_scale hL hk R q0 q1 q2 q3
  by_cases q4 : xs (4 * k) &&& 31 = 4
  · exact t_weigh hL hk R q0 q1 q2 q3 q4
  by_cases q5 : xs (4 * k) &&& 31 = 5
  · exact t_sample hL hk R q0 q1 q2 q3 q4 q5
  by_cases q6 : xs (4 * k) &&& 31 = 6
  · exact t_told hL hk R q0 q1 q2 q3 q4 q5 q6
  by_cases q7 : xs (4 * k) &&& 31 = 7
  · exact t_mill hL hk R q0 q1 q2 q3 q4 q5 q6 q7
  by_cases q8 : xs (4 * k) &&& 31 = 8
  · exact t_put hL hk R q0 q1 q2 q3 q4 q5 q6 q7 q8
  by_cases q9 : xs (4 * k) &&& 31 = 9
  · exact t_take hL hk R q0 q1 q2 q3 q4 q5 q6 q7 q8 q9
  by_cases q10 : xs (4 * k) &&& 31 = 10
  · exact t_wash hL hk R q0 q1 q2 q3 q4 q5 q6 q7 q8 q9 q10
  by_cases q11 : xs (4 * k) &&& 31 = 11
  · exact t_press hL hk R q0 q1 q2 q3 q4 q5 q6 q7 q8 q9 q10 q11
  by_cases q12 : xs (4 * k) &&& 31 = 12
  · exact t_gave hL hk R q0 q1 q2 q3 q4 q5 q6 q7 q8 q9 q10 q11 q12
  by_cases q13 : xs (4 * k) &&& 31 = 13
  · exact t_share hL hk R q0 q1 q2 q3 q4 q5 q6 q7 q8 q9 q10 q11 q12 q13
  by_cases q14 : xs (4 * k) &&& 31 = 14
  · exact t_keep hL hk R q0 q1 q2 q3 q4 q5 q6 q7 q8 q9 q10 q11 q12 q13 q14
  by_cases q15 : xs (4 * k) &&& 31 = 15
  · exact t_vat hL hk R q0 q1 q2 q3 q4 q5 q6 q7 q8 q9 q10 q11 q12 q13 q14 q15
  by_cases q16 : xs (4 * k) &&& 31 = 16
  · exact t_pour hL hk R q0 q1 q2 q3 q4 q5 q6 q7 q8 q9 q10 q11 q12 q13 q14 q15 q16
  by_cases q17 : xs (4 * k) &&& 31 = 17
  · exact t_fetch hL hk R q0 q1 q2 q3 q4 q5 q6 q7 q8 q9 q10 q11 q12 q13 q14 q15 q16 q17
  by_cases q18 : xs (4 * k) &&& 31 = 18
  · exact t_draw hL hk R q0 q1 q2 q3 q4 q5 q6 q7 q8 q9 q10 q11 q12 q13 q14 q15 q16 q17 q18
  by_cases q19 : xs (4 * k) &&& 31 = 19
  · exact t_lend hL hk R q0 q1 q2 q3 q4 q5 q6 q7 q8 q9 q10 q11 q12 q13 q14 q15 q16 q17 q18 q19
  by_cases q20 : xs (4 * k) &&& 31 = 20
  · exact t_pay hL hk R q0 q1 q2 q3 q4 q5 q6 q7 q8 q9 q10 q11 q12 q13 q14 q15 q16 q17 q18 q19 q20
  by_cases q21 : xs (4 * k) &&& 31 = 21
  · exact t_hand hL hk R q0 q1 q2 q3 q4 q5 q6 q7 q8 q9 q10 q11 q12 q13 q14 q15 q16 q17 q18 q19 q20 q21
  by_cases q22 : xs (4 * k) &&& 31 = 22
  · exact t_owes hL hk R q0 q1 q2 q3 q4 q5 q6 q7 q8 q9 q10 q11 q12 q13 q14 q15 q16 q17 q18 q19 q20 q21 q22
  by_cases q23 : xs (4 * k) &&& 31 = 23
  · exact t_wait hL hk R q0 q1 q2 q3 q4 q5 q6 q7 q8 q9 q10 q11 q12 q13 q14 q15 q16 q17 q18 q19 q20 q21 q22 q23
  by_cases q24 : xs (4 * k) &&& 31 = 24
  · exact t_fresh hL hk R q0 q1 q2 q3 q4 q5 q6 q7 q8 q9 q10 q11 q12 q13 q14 q15 q16 q17 q18 q19 q20 q21 q22 q23 q24
  by_cases q25 : xs (4 * k) &&& 31 = 25
  · exact t_at hL hk R q0 q1 q2 q3 q4 q5 q6 q7 q8 q9 q10 q11 q12 q13 q14 q15 q16 q17 q18 q19 q20 q21 q22 q23 q24 q25
  by_cases q26 : xs (4 * k) &&& 31 = 26
  · exact t_held hL hk R q0 q1 q2 q3 q4 q5 q6 q7 q8 q9 q10 q11 q12 q13 q14 q15 q16 q17 q18 q19 q20 q21 q22 q23 q24 q25 q26
  by_cases q27 : xs (4 * k) &&& 31 = 27
  · exact t_plan hL hk R q0 q1 q2 q3 q4 q5 q6 q7 q8 q9 q10 q11 q12 q13 q14 q15 q16 q17 q18 q19 q20 q21 q22 q23 q24 q25 q26 q27
  by_cases q28 : xs (4 * k) &&& 31 = 28
  · exact t_planned hL hk R q0 q1 q2 q3 q4 q5 q6 q7 q8 q9 q10 q11 q12 q13 q14 q15 q16 q17 q18 q19 q20 q21 q22 q23 q24 q25 q26 q27 q28
  by_cases q29 : xs (4 * k) &&& 31 = 29
  · exact t_balance hL hk R q0 q1 q2 q3 q4 q5 q6 q7 q8 q9 q10 q11 q12 q13 q14 q15 q16 q17 q18 q19 q20 q21 q22 q23 q24 q25 q26 q27 q28 q29
  by_cases q30 : xs (4 * k) &&& 31 = 30
  · exact t_count hL hk R q0 q1 q2 q3 q4 q5 q6 q7 q8 q9 q10 q11 q12 q13 q14 q15 q16 q17 q18 q19 q20 q21 q22 q23 q24 q25 q26 q27 q28 q29 q30
  exact t_none hL hk R q0 q1 q2 q3 q4 q5 q6 q7 q8 q9 q10 q11 q12 q13 q14 q15 q16 q17 q18 q19 q20 q21 q22 q23 q24 q25 q26 q27 q28 q29 q30
theorem law_loop {xs : Nat → Int32} {L o a : Nat} {h : oh_H} (hL : L ≤ 2048) (R : RR h a 0 0 0 0) : f_L_law_18 xs L h o (some a) (some (a + 26)) 0 = some 1 := by
  obtain ⟨x, k1, k2⟩ := loop_inv (fun s : oh_H × Int32 => b_L_law_18 xs L s.1 o (some a) (some (a + 26)) s.2)
    (fun k σ => ∃ h ng nl nv, σ = (h, nI (4 * k)) ∧ RR h a ng nl nv k) (fun x => x = 1) (L / 4) (fun k σ hk hI => by
      obtain ⟨h, ng, nl, nv, i1, i2⟩ := hI
      subst i1
      obtain ⟨h2, ng', nl', nv', t1, t2⟩ := t_turn (xs := xs) (o := o) hL (by omega : 4 * k + 4 ≤ L) i2
      exact ⟨_, t1, h2, ng', nl', nv', rfl, t2⟩) (fun σ hI => by
      obtain ⟨h, ng, nl, nv, i1, i2⟩ := hI
      subst i1
      have hlt : (Int32.ofNat L - 4 < nI (4 * (L / 4))) = True := eq_true (by
        have e : (Int32.ofNat L - 4).toInt = (L : Int) - 4 := by
          show (nI L - 4).toInt = _
          rw [i_sub] <;> rw [nI_toInt (by omega), show (4 : Int32).toInt = 4 from rfl] <;> omega
        rw [i_lt, e, nI_toInt (by omega)]
        omega)
      refine ⟨1, ?_, rfl⟩
      simp only [b_L_law_18, hlt, if_true, Option.map_some]) (n := 513) (σ := (h, 0)) (by omega) ⟨h, 0, 0, 0, rfl, R⟩
  subst k2
  unfold f_L_law_18
  exact k1
theorem law_one (n : Nat) (xs : Nat → Int32) (L o : Nat) (hL : L ≤ 2048) : f_L_law xs L (oh_0 n) o = some 1 := by
  obtain ⟨h1, h2, e1, e2, e3, R⟩ := w_start n
  unfold f_L_law
  show (f_X7_init (oh_nO (oh_0 n) 8) n).bind _ = _
  rw [e1, Option.bind_some]
  show (f_X8_init (oh_nO h1 9) (oh_sz h1)).bind _ = _
  rw [e2, e3, Option.bind_some]
  exact law_loop hL R
