/-- the oil comes to the vat: both sides -/
def hvat (h : oh_H) (a m v : Nat) (D : Int64) : oh_H := oh_sL (oh_sL (oh_sI (oh_sI (oh_wL (oh_wL (oh_wI (oh_wI h 387 (ve (oh_AR h) a v) (oh_AI h (a + 53) v + oh_AI h (a + 48) m)) 388 (ve (oh_AR h) a v) (oh_AI h (a + 54) v + oh_AI h (a + 49) m)) 390 (ve (oh_AR h) a v) (oh_AL h (a + 56) v + Int32.toInt64 (oh_AI h (a + 48) m) * D)) 391 (ve (oh_AR h) a v) (oh_AL h (a + 57) v + Int32.toInt64 (oh_AI h (a + 48) m))) (a + 53) v (oh_AI h (a + 53) v + oh_AI h (a + 48) m)) (a + 54) v (oh_AI h (a + 54) v + oh_AI h (a + 49) m)) (a + 56) v (oh_AL h (a + 56) v + Int32.toInt64 (oh_AI h (a + 48) m) * D)) (a + 57) v (oh_AL h (a + 57) v + Int32.toInt64 (oh_AI h (a + 48) m))
set_option maxHeartbeats 4000000 in
theorem RR_vat {h : oh_H} {a ng nl nv n m v : Nat} {D : Int64} (R : RR h a ng nl nv n) (hn : n ≤ 512) (hm : m < 3) (hv : v < nv) (hg : 0 ≤ (oh_AI h (a + 48) m).toInt ∧ (oh_AI h (a + 48) m).toInt ≤ 1200000) (hk : 0 ≤ (oh_AI h (a + 49) m).toInt) (hD0 : 0 ≤ D.toInt ∧ D.toInt ≤ 999) (hroom : (oh_AI h (a + 53) v).toInt + (oh_AI h (a + 48) m).toInt ≤ (oh_AI h (a + 52) v).toInt) : RR (hvat h a m v D) a ng nl nv (n + 1) := by
  obtain ⟨P, hD, hZ, hG, hL, hM, hB, hV, hDe, hT, hP, hW, vn, vt, vg, vl, vf, vb, vm, vv, vd, vx⟩ := id R
  have hnv := vn.2.2
  obtain ⟨D1, hp⟩ := hD.2.2.1 v hv
  have inj := hD.2.2.2.2
  have hv2 : v < 12 := by omega
  have ow := own_le vd hv2
  have X := vx v hv2
  have VV := vv v hv
  have VM := (vm m hm).2.2.2.2.2.2.2.2.2.2
  have eg : (Int32.toInt64 (oh_AI h (a + 48) m)).toInt = (oh_AI h (a + 48) m).toInt := Int32.toInt_toInt64 _
  have p0 := Int.mul_nonneg hg.1 hD0.1
  have p1 := Int.mul_le_mul hg.2 hD0.2 hD0.1 (by decide)
  have ep : (Int32.toInt64 (oh_AI h (a + 48) m) * D).toInt = (oh_AI h (a + 48) m).toInt * D.toInt := by
    rw [l_mul] <;> rw [eg] <;> omega
  have e1 : (oh_AI h (a + 53) v + oh_AI h (a + 48) m).toInt = (oh_AI h (a + 53) v).toInt + (oh_AI h (a + 48) m).toInt := i_add (by omega) (by omega)
  have e2 : (oh_AI h (a + 54) v + oh_AI h (a + 49) m).toInt = (oh_AI h (a + 54) v).toInt + (oh_AI h (a + 49) m).toInt := i_add (by omega) (by omega)
  have e3 : (oh_AL h (a + 56) v + Int32.toInt64 (oh_AI h (a + 48) m) * D).toInt = (oh_AL h (a + 56) v).toInt + (oh_AI h (a + 48) m).toInt * D.toInt := by
    rw [l_add (by rw [ep]; omega) (by rw [ep]; omega), ep]
  have e4 : (oh_AL h (a + 57) v + Int32.toInt64 (oh_AI h (a + 48) m)).toInt = (oh_AL h (a + 57) v).toInt + (oh_AI h (a + 48) m).toInt := by
    rw [l_add (by rw [eg]; omega) (by rw [eg]; omega), eg]
  unfold hvat
  unfold RR
  simp only [PS_wI, PS_wL, PS_sI, PS_sL, P, hD, hZ, pw_wI, pw_wL, pw_wR, pw_sI, pw_sL, pw_sR, K_qG_FI, K_qG_AI, K_qL_FI, K_qL_AI, K_qM_FI, K_qM_AI, K_qB_AI, K_qV_FI, K_qV_FL, K_qV_AI, K_qV_AL, K_qD_AI, K_qT_FI, K_qP_FI, K_qP_AI, K_qW_FI, K_qW_AI, K_vT_FI, K_vG_AI, K_vL_FI, K_vL_AI, K_vF_AI, K_vF_AL, K_vB_AI, K_vM_AI, K_vV_AI, K_vV_AL, K_vD_AI, K_vX_AI, K_vX_AL, ne_eq, Nat.reduceEqDiff, not_false_eq_true, and_self, true_and, and_true, hG, hL, hM, hB, hV, hDe, hT, hP, hW, vn, vt, vg, vl, vf, vb, vm, vv, vd.mono, vx.mono]
  refine ⟨qV_s391 (qV_s390 (qV_s388 (qV_s387 hV inj hv _) inj hv _) inj hv _) inj hv _, vF_vatL hv (vF_vatL hv (vF_vat (by decide) hv (vF_vat (by decide) hv vf))), fun j hj => ?_, ⟨fun j hj => ?_, fun k hk => ?_⟩, fun j hj => ?_⟩
  · have V := vv j hj
    by_cases z : j = v
    · subst z
      obtain ⟨V1, V2, V3, V4, V5, V6, V7⟩ := V
      simp only [oh_u2, Nat.add_left_cancel_iff, Nat.reduceEqDiff, Nat.add_eq_left, Nat.left_eq_add, reduceCtorEq, false_and, true_and, and_true, and_false, if_false, if_true]
      refine ⟨V1, V2, V3, V4, by rw [e3]; omega, by rw [e4]; omega, fun w => ?_⟩
      rw [l_eq, e4, show (0 : Int64).toInt = 0 from rfl] at w
      have w1 : (oh_AI h (a + 48) m).toInt = 0 := by omega
      have w2 : oh_AL h (a + 57) j = 0 := by
        rw [l_eq, show (0 : Int64).toInt = 0 from rfl]
        omega
      have w3 := V7 w2
      rw [l_eq, e3, w1, w3, show (0 : Int64).toInt = 0 from rfl]
      omega
    · simp only [oh_u2, Nat.add_left_cancel_iff, Nat.reduceEqDiff, Nat.add_eq_left, Nat.left_eq_add, reduceCtorEq, false_and, true_and, and_true, and_false, if_false, if_true, z]
      exact V
  · have V := vd.1 j hj
    by_cases z : j = v
    · subst z
      simp only [oh_u2, Nat.add_left_cancel_iff, Nat.reduceEqDiff, Nat.add_eq_left, Nat.left_eq_add, reduceCtorEq, false_and, true_and, and_true, and_false, if_false, if_true]
      omega
    · simp only [oh_u2, Nat.add_left_cancel_iff, Nat.reduceEqDiff, Nat.add_eq_left, Nat.left_eq_add, reduceCtorEq, false_and, true_and, and_true, and_false, if_false, if_true, z]
      exact V
  · have V := vd.2 k hk
    simp only [sumO_AI (show (53 : Nat) ≠ 54 by decide), sumO_12 hv2, oh_u2, Nat.add_left_cancel_iff, Nat.reduceEqDiff, Nat.add_eq_left, Nat.left_eq_add, reduceCtorEq, false_and, true_and, and_true, and_false, if_false, if_true]
    omega
  · have V := vx j hj
    by_cases z : j = v
    · subst z
      simp only [oh_u2, Nat.add_left_cancel_iff, Nat.reduceEqDiff, Nat.add_eq_left, Nat.left_eq_add, reduceCtorEq, false_and, true_and, and_true, and_false, if_false, if_true]
      exact ⟨by omega, by omega, by omega, by omega⟩
    · simp only [oh_u2, Nat.add_left_cancel_iff, Nat.reduceEqDiff, Nat.add_eq_left, Nat.left_eq_add, reduceCtorEq, false_and, true_and, and_true, and_false, if_false, if_true, z]
      exact ⟨by omega, by omega, by omega, by omega⟩
set_option maxHeartbeats 4000000 in
theorem RR_empty {h h' : oh_H} {a ng nl nv n m v : Nat} (R : RR h a ng nl nv n) (hm : m < 3) (hv : v < nv) (eK : oh_K h' = oh_K h) (eS : oh_sz h' = oh_sz h) (eN : oh_N h' = oh_N h) (eFR : oh_FR h' = oh_FR h) (eFL : oh_FL h' = oh_FL h) (eAL : oh_AL h' = oh_AL h) (eAR : oh_AR h' = oh_AR h)
    (f1 : ∀ c b, ¬ c ∈ [32, 37, 38, 43, 45, 48, 49] → oh_AI h' (a + c) b = oh_AI h (a + c) b) (f43 : ∀ i, oh_AI h' (a + 43) i = if i = m then 0 else oh_AI h (a + 43) i) (f45 : ∀ i, oh_AI h' (a + 45) i = if i = m then 0 else oh_AI h (a + 45) i) (f48 : ∀ i, oh_AI h' (a + 48) i = if i = m then -1 else oh_AI h (a + 48) i) (f49 : ∀ i, oh_AI h' (a + 49) i = if i = m then -1 else oh_AI h (a + 49) i)
    (f2 : ∀ k, k < bn (oh_AI h) a m → oh_AI h' (a + 32) (bl (oh_AI h) a m k) = 6 ∧ oh_AI h' (a + 37) (bl (oh_AI h) a m k) = oh_AI h (a + 36) (bl (oh_AI h) a m k) ∧ oh_AI h' (a + 38) (bl (oh_AI h) a m k) = nI v) (f3 : ∀ i, (∀ k, k < bn (oh_AI h) a m → bl (oh_AI h) a m k ≠ i) → oh_AI h' (a + 32) i = oh_AI h (a + 32) i ∧ oh_AI h' (a + 37) i = oh_AI h (a + 37) i ∧ oh_AI h' (a + 38) i = oh_AI h (a + 38) i)
    (g1 : ∀ c b, ¬ c ∈ [132, 137, 138, 195, 201, 202, 203, 204, 205] → oh_FI h' c b = oh_FI h c b) (g195 : ∀ b, oh_FI h' 195 b = if b = ml a m then 0 else oh_FI h 195 b) (g201 : ∀ b, oh_FI h' 201 b = if b = ml a m then 0 else oh_FI h 201 b) (g202 : ∀ b, oh_FI h' 202 b = if b = ml a m then 0 else oh_FI h 202 b) (g203 : ∀ b, oh_FI h' 203 b = if b = ml a m then 0 else oh_FI h 203 b) (g204 : ∀ b, oh_FI h' 204 b = if b = ml a m then -1 else oh_FI h 204 b) (g205 : ∀ b, oh_FI h' 205 b = if b = ml a m then -1 else oh_FI h 205 b)
    (g2 : ∀ k, k < bn (oh_AI h) a m → oh_FI h' 132 (la (oh_AR h) a (bl (oh_AI h) a m k)) = 6 ∧ oh_FI h' 137 (la (oh_AR h) a (bl (oh_AI h) a m k)) = oh_AI h (a + 36) (bl (oh_AI h) a m k) ∧ oh_FI h' 138 (la (oh_AR h) a (bl (oh_AI h) a m k)) = nI v) (g3 : ∀ b, (∀ k, k < bn (oh_AI h) a m → la (oh_AR h) a (bl (oh_AI h) a m k) ≠ b) → oh_FI h' 132 b = oh_FI h 132 b ∧ oh_FI h' 137 b = oh_FI h 137 b ∧ oh_FI h' 138 b = oh_FI h 138 b) : RR h' a ng nl nv n := by
  have R0 := R
  obtain ⟨P, hD, hZ, hG, hL, hM, hB, hV, hDe, hT, hP, hW, vn, vt, vg, vl, vf, vb, vm, vv, vd, vx⟩ := id R
  have hnl := vn.2.1
  have hnv := vn.2.2
  obtain ⟨s, h1, h2, h3, h4⟩ := bin_of hB hnl hm
  have bnm : bn (oh_AI h') a m = 0 := by
    unfold bn
    rw [f43, if_pos rfl]
    rfl
  have bno : ∀ m', m' ≠ m → bn (oh_AI h') a m' = bn (oh_AI h) a m' := fun m' q => by
    unfold bn
    rw [f43, if_neg q]
  have ble : ∀ m' k, bl (oh_AI h') a m' k = bl (oh_AI h) a m' k := fun m' k => by
    unfold bl
    rw [f1 44 _ (by decide)]
  have sums := fun m' s => sum_same (F := oh_AI h') (G := oh_AI h) (a := a) (m := m') (s := s) (fun k hk => ⟨ble m' k, f1 33 _ (by decide), f1 34 _ (by decide), f1 35 _ (by decide)⟩)
  have inbin : ∀ i, (∃ k, k < bn (oh_AI h) a m ∧ bl (oh_AI h) a m k = i) ∨ ∀ k, k < bn (oh_AI h) a m → bl (oh_AI h) a m k ≠ i := fun i => by
    by_cases q : ∃ k, k < bn (oh_AI h) a m ∧ bl (oh_AI h) a m k = i
    · exact Or.inl q
    · exact Or.inr (fun k hk e => q ⟨k, hk, e⟩)
  refine RR_mill R0 eK eS eN eFR eFL (fun k b hk => by rw [eAL]) (fun k hk => by rw [eAR]) (fun c b hc => g1 c b (by simp only [List.mem_cons, List.not_mem_nil, or_false]; omega)) (fun k b hk => f1 k b (by simp only [List.mem_cons, List.not_mem_nil, or_false]; omega)) ?_ ?_ ?_ ?_ ?_ ?_ ?_ ?_
  · intro i hi
    have L := hL i hi
    have e32 : oh_FI h' 132 (la (oh_AR h) a i) = oh_AI h' (a + 32) i ∧ oh_FI h' 137 (la (oh_AR h) a i) = oh_AI h' (a + 37) i ∧ oh_FI h' 138 (la (oh_AR h) a i) = oh_AI h' (a + 38) i := by
      rcases inbin i with ⟨k, hk, e⟩ | q
      · rw [← e, (g2 k hk).1, (f2 k hk).1, (g2 k hk).2.1, (f2 k hk).2.1, (g2 k hk).2.2, (f2 k hk).2.2]
        exact ⟨rfl, rfl, rfl⟩
      · have g := g3 (la (oh_AR h) a i) (fun k hk e => q k hk (hD.2.2.2.1 _ _ (h4 k (by omega)).1 hi e))
        have f := f3 i q
        rw [f.1, f.2.1, f.2.2, g.1, g.2.1, g.2.2]
        exact ⟨L.2.2.2.1, L.2.2.2.2.2.2.2.2.1, L.2.2.2.2.2.2.2.2.2.1⟩
    rw [e32.1, e32.2.1, e32.2.2, g1 128 _ (by decide), g1 130 _ (by decide), g1 131 _ (by decide), g1 133 _ (by decide), g1 134 _ (by decide), g1 135 _ (by decide), g1 136 _ (by decide), g1 139 _ (by decide), f1 31 _ (by decide), f1 29 _ (by decide), f1 33 _ (by decide), f1 34 _ (by decide), f1 35 _ (by decide), f1 36 _ (by decide), f1 39 _ (by decide), f1 30 _ (by decide)]
    exact ⟨L.1, L.2.1, L.2.2.1, rfl, L.2.2.2.2.1, L.2.2.2.2.2.1, L.2.2.2.2.2.2.1, L.2.2.2.2.2.2.2.1, rfl, rfl, L.2.2.2.2.2.2.2.2.2.2⟩
  · intro m' hm'
    have M := hM m' hm'
    have inj : (ml a m' = ml a m) = (m' = m) := propext ⟨fun e => ml_inj e, fun e => by rw [e]⟩
    rw [g1 192 _ (by decide), g1 196 _ (by decide), g1 197 _ (by decide), g1 198 _ (by decide), g1 199 _ (by decide), g1 200 _ (by decide), f1 40 _ (by decide), f1 41 _ (by decide), f1 42 _ (by decide), f1 46 _ (by decide), f1 47 _ (by decide), g195, g201, g204, g205, f43, f45, f48, f49]
    simp only [inj]
    by_cases z : m' = m
    · subst z
      simp only [if_true]
      exact ⟨M.1, trivial, M.2.2.1, M.2.2.2.1, M.2.2.2.2.1, M.2.2.2.2.2.1, M.2.2.2.2.2.2.1, trivial, trivial, trivial⟩
    · simp only [z, if_false]
      exact M
  · intro m' hm'
    by_cases z : m' = m
    · subst z
      exact ⟨0, by omega, by rw [f43, if_pos rfl]; rfl, fun k hk => absurd hk (Nat.not_lt_zero _)⟩
    · obtain ⟨t, b1, b2, b3⟩ := hB m' hm'
      refine ⟨t, b1, by rw [f43, if_neg z]; exact b2, fun k hk => ?_⟩
      obtain ⟨i, c1, c2, c3⟩ := b3 k hk
      refine ⟨i, c1, ?_, ?_⟩
      · rw [f1 44 _ (by decide)]
        exact c2
      · rw [eAR]
        exact c3
  · intro m' hm'
    have W := hW m' hm'
    have inj : (ml a m' = ml a m) = (m' = m) := propext ⟨fun e => ml_inj e, fun e => by rw [e]⟩
    rw [g202, g203, f45, (sums m' _).1, (sums m' _).2.1, (sums m' _).2.2]
    simp only [inj]
    by_cases z : m' = m
    · subst z
      simp only [if_true]
      rw [if_neg (by decide), if_neg (by decide)]
      exact ⟨rfl, rfl⟩
    · simp only [z, if_false]
      rw [bno m' z]
      exact W
  · intro i hi
    have V := vl i hi
    rw [f1 29 _ (by decide), f1 31 _ (by decide), f1 33 _ (by decide), f1 34 _ (by decide), f1 35 _ (by decide), f1 36 _ (by decide), f1 39 _ (by decide)]
    rcases inbin i with ⟨k, hk, e⟩ | q
    · have B := (vb m hm).1 k hk
      rw [e] at B
      obtain ⟨V1, V2, V3, V4, V5, V6, V7, V8, V9, V10, V11, V12, V13, V14, V15⟩ := V
      have e4 := f2 k hk
      rw [e] at e4
      rw [e4.1, e4.2.1, e4.2.2]
      exact ⟨V1, V2, by decide, V4, V5, V6, V7, fun _ => V8 (by omega), fun _ => V9 (by omega), V10, V10, fun _ w => absurd w (by decide), fun _ => by rw [nI_toInt (by omega)]; omega, V14, V14⟩
    · have f := f3 i q
      rw [f.1, f.2.1, f.2.2]
      exact V
  · intro i q1 q2 k hk hk2
    have ni := f3 i (fun k hk => by have := (h4 k (by omega)).1; omega)
    by_cases q : k = 32
    · subst q
      exact ni.1
    · by_cases q2 : k = 37
      · subst q2
        exact ni.2.1
      · by_cases q3 : k = 38
        · subst q3
          exact ni.2.2
        · exact f1 k i (by simp only [List.mem_cons, List.not_mem_nil, or_false]; omega)
  · intro m' hm'
    have B := vb m' hm'
    rw [f45]
    by_cases z : m' = m
    · subst z
      rw [bnm, if_pos rfl]
      exact ⟨fun k hk => absurd hk (Nat.not_lt_zero _), fun k k' hk => absurd hk (Nat.not_lt_zero _), fun k k' hk => absurd hk (Nat.not_lt_zero _), fun w => absurd w (by decide)⟩
    · rw [bno m' z, if_neg z]
      refine ⟨fun k hk => ?_, fun k k' hk hk' e => ?_, fun k k' hk hk' e => ?_, B.2.2.2⟩
      · have f := f3 _ (fun k' hk' => bin_apart vb hm hm' z hk' hk)
        rw [ble, f.1, f.2.2]
        exact B.1 k hk
      · rw [ble, ble] at e
        exact B.2.1 k k' hk hk' e
      · rw [ble, f1 29 _ (by decide)] at e
        rw [ble, f1 29 _ (by decide)]
        exact B.2.2.1 k k' hk hk' e
  · intro m' hm'
    have V := vm m' hm'
    rw [f1 40 _ (by decide), f1 41 _ (by decide), f1 42 _ (by decide), f1 46 _ (by decide), f1 47 _ (by decide), f45, f48, f49]
    by_cases z : m' = m
    · subst z
      simp only [if_true]
      obtain ⟨V1, V2, V3, V4, V5, V6, V7, V8, V9, V10, V11⟩ := V
      exact ⟨V1, V2, V3, Or.inl trivial, V5, V6, by decide, by decide, fun _ => trivial, fun _ => trivial, Int.le_refl _⟩
    · simp only [z, if_false]
      exact V
