theorem sum_same {F G : Nat → Nat → Int32} {a m s : Nat} (e : ∀ k, k < s → bl F a m k = bl G a m k ∧ F (a + 33) (bl G a m k) = G (a + 33) (bl G a m k) ∧ F (a + 34) (bl G a m k) = G (a + 34) (bl G a m k) ∧ F (a + 35) (bl G a m k) = G (a + 35) (bl G a m k)) : sumW F a m s = sumW G a m s ∧ sumS F a m s = sumS G a m s ∧ sumT F a m s = sumT G a m s := by
  induction s with
  | zero => exact ⟨rfl, rfl, rfl⟩
  | succ s ih =>
    have I := ih (fun k hk => e k (by omega))
    obtain ⟨e1, e2, e3, e4⟩ := e s (by omega)
    simp only [sumW, sumS, sumT, I, e1, e2, e3, e4, and_self]
set_option maxHeartbeats 4000000 in
theorem RR_put {h : oh_H} {a ng nl nv n j m s : Nat} (R : RR h a ng nl nv n) (hj : j < nl) (hm : m < 3) (h45 : oh_AI h (a + 45) m = 0) (h43 : oh_AI h (a + 43) m = nI s) (hs2 : s < 12) (h32 : oh_AI h (a + 32) j = 2) (hl : ∀ k, k < s → (oh_AI h (a + 29) (bl (oh_AI h) a m k) = 3 ↔ oh_AI h (a + 29) j = 3)) : RR (oh_sI (oh_sI (oh_sI (oh_sI (oh_wI (oh_wI (oh_wI (oh_sR h (ml a m + 1) s (some (la (oh_AR h) a j))) 195 (ml a m) (nI (s + 1))) 132 (la (oh_AR h) a j) 3) 138 (la (oh_AR h) a j) (nI m)) (a + 44) (12 * m + s) (nI j)) (a + 43) m (nI (s + 1))) (a + 32) j 3) (a + 38) j (nI m)) a ng nl nv (n + 1) := by
  obtain ⟨P, hD, hZ, hG, hL, hM, hB, hV, hDe, hT, hP, hW, vn, vt, vg, vl, vf, vb, vm, vv, vd, vx⟩ := id R
  have hnl := vn.2.1
  obtain ⟨s', h1, h2, h3, h4⟩ := bin_of hB hnl hm
  have es : s' = s := by
    have e := h2.symm.trans h43
    rw [iN_eq (by omega) (by omega)] at e
    exact e
  subst es
  have nbj := nb_of vb (i := j) (by rw [h32]; decide)
  -- the bins afterwards
  have AI' : ∃ F, F = oh_u2 (oh_u2 (oh_u2 (oh_u2 (oh_AI h) (a + 44) (12 * m + s') (nI j)) (a + 43) m (nI (s' + 1))) (a + 32) j 3) (a + 38) j (nI m) := ⟨_, rfl⟩
  obtain ⟨F, eF⟩ := AI'
  have bnm : bn F a m = s' + 1 := by
    rw [eF]
    simp only [bn, oh_u2, Nat.add_left_cancel_iff, Nat.reduceEqDiff, Nat.add_eq_left, Nat.left_eq_add, reduceCtorEq, false_and, true_and, and_true, and_false, if_false, if_true]
    exact nI_clamp (by omega)
  have bno : ∀ m', m' ≠ m → bn F a m' = bn (oh_AI h) a m' := fun m' q => by
    rw [eF]
    simp only [bn, oh_u2, Nat.add_left_cancel_iff, Nat.reduceEqDiff, Nat.add_eq_left, Nat.left_eq_add, reduceCtorEq, false_and, true_and, and_true, and_false, if_false, if_true, q]
  have blm : ∀ k, k < s' → bl F a m k = bl (oh_AI h) a m k := fun k hk => by
    have z : ¬ k = s' := by omega
    rw [eF]
    simp only [bl, oh_u2, Nat.add_left_cancel_iff, Nat.reduceEqDiff, Nat.add_eq_left, Nat.left_eq_add, reduceCtorEq, false_and, true_and, and_true, and_false, if_false, if_true, z]
  have bls : bl F a m s' = j := by
    rw [eF]
    simp only [bl, oh_u2, Nat.add_left_cancel_iff, Nat.reduceEqDiff, Nat.add_eq_left, Nat.left_eq_add, reduceCtorEq, false_and, true_and, and_true, and_false, if_false, if_true]
    exact nI_clamp (by omega)
  have blo : ∀ m', m' < 3 → m' ≠ m → ∀ k, k < 12 → bl F a m' k = bl (oh_AI h) a m' k := fun m' hm' q k hk => by
    have z : ¬ 12 * m' + k = 12 * m + s' := by omega
    rw [eF]
    simp only [bl, oh_u2, Nat.add_left_cancel_iff, Nat.reduceEqDiff, false_and, true_and, if_false, z]
  have fo : ∀ c i, i ≠ j → c ≠ 43 → c ≠ 44 → F (a + c) i = oh_AI h (a + c) i := fun c i q q1 q2 => by
    rw [eF]
    simp only [oh_u2, Nat.add_left_cancel_iff, q, q1, q2, and_false, false_and, if_false]
  have fc : ∀ c i, c ≠ 32 → c ≠ 38 → c ≠ 43 → c ≠ 44 → F (a + c) i = oh_AI h (a + c) i := fun c i q q0 q1 q2 => by
    rw [eF]
    simp only [oh_u2, Nat.add_left_cancel_iff, q, q0, q1, q2, false_and, if_false]
  have f32 : F (a + 32) j = 3 := by
    rw [eF]
    simp only [oh_u2, Nat.add_left_cancel_iff, Nat.reduceEqDiff, Nat.add_eq_left, Nat.left_eq_add, reduceCtorEq, false_and, true_and, and_true, and_false, if_false, if_true]
  have f38 : F (a + 38) j = nI m := by
    rw [eF]
    simp only [oh_u2, Nat.add_left_cancel_iff, Nat.reduceEqDiff, Nat.add_eq_left, Nat.left_eq_add, reduceCtorEq, false_and, true_and, and_true, and_false, if_false, if_true]
  unfold RR
  simp only [PS_wI, PS_wL, PS_sI, PS_sL, PS_ml, pD_ml, qG_ml, qL_ml, qV_ml, P, hD, hZ, pw_wI, pw_wL, pw_wR, pw_sI, pw_sL, pw_sR, K_qG_FI, K_qG_AI, K_qL_FI, K_qL_AI, K_qM_FI, K_qM_AI, K_qB_AI, K_qV_FI, K_qV_FL, K_qV_AI, K_qV_AL, K_qD_AI, K_qT_FI, K_qP_FI, K_qP_AI, K_qW_FI, K_qW_AI, K_vT_FI, K_vG_AI, K_vL_FI, K_vL_AI, K_vF_AI, K_vF_AL, K_vB_AI, K_vM_AI, K_vV_AI, K_vV_AL, K_vD_AI, K_vX_AI, K_vX_AL, ne_eq, Nat.reduceEqDiff, not_false_eq_true, and_self, true_and, and_true, hG, hL, hM, hB, hV, hDe, hT, hP, hW, vn, vt, vg, vl, vf, vb, vm, vv, vd.mono, vx.mono]
  refine ⟨qL_s138 (qL_s132 (by simp only [pw_wI, pw_wL, pw_wR, pw_sI, pw_sL, pw_sR, K_qG_FI, K_qG_AI, K_qL_FI, K_qL_AI, K_qM_FI, K_qM_AI, K_qB_AI, K_qV_FI, K_qV_FL, K_qV_AI, K_qV_AL, K_qD_AI, K_qT_FI, K_qP_FI, K_qP_AI, K_qW_FI, K_qW_AI, K_vT_FI, K_vG_AI, K_vL_FI, K_vL_AI, K_vF_AI, K_vF_AL, K_vB_AI, K_vM_AI, K_vV_AI, K_vV_AL, K_vD_AI, K_vX_AI, K_vX_AL, ne_eq, Nat.reduceEqDiff, not_false_eq_true, and_self, true_and, and_true, hL]) hD.2.2.2.1 hj 3) hD.2.2.2.1 hj _, ?_, fun m' hm' => ?_, fun m' hm' => ?_, fun i hi => ?_, ?_, ?_, fun m' hm' => ?_⟩
  · intro m' hm'
    have M := hM m' hm'
    by_cases z : m' = m
    · subst z
      simp only [oh_u2, Nat.add_left_cancel_iff, Nat.reduceEqDiff, Nat.add_eq_left, Nat.left_eq_add, reduceCtorEq, false_and, true_and, and_true, and_false, if_false, if_true]
      exact ⟨M.1, M.2.2.1, M.2.2.2.1, M.2.2.2.2.1, M.2.2.2.2.2.1, M.2.2.2.2.2.2.1, M.2.2.2.2.2.2.2.1, M.2.2.2.2.2.2.2.2.1, M.2.2.2.2.2.2.2.2.2⟩
    · have z2 : ¬ ml a m' = ml a m := fun q => z (ml_inj q)
      simp only [oh_u2, Nat.add_left_cancel_iff, Nat.reduceEqDiff, Nat.add_eq_left, Nat.left_eq_add, reduceCtorEq, false_and, true_and, and_true, and_false, if_false, if_true, z, z2]
      exact M
  · obtain ⟨t, b1, b2, b3⟩ := hB m' hm'
    by_cases z : m' = m
    · subst z
      have et : t = s' := by
        have e := b2.symm.trans h43
        rw [iN_eq (by omega) (by omega)] at e
        exact e
      subst et
      refine ⟨t + 1, by omega, by simp only [oh_u2, Nat.add_left_cancel_iff, Nat.reduceEqDiff, Nat.add_eq_left, Nat.left_eq_add, reduceCtorEq, false_and, true_and, and_true, and_false, if_false, if_true], fun k hk => ?_⟩
      by_cases w : k = t
      · subst w
        exact ⟨j, hj, by simp only [oh_u2, Nat.add_left_cancel_iff, Nat.reduceEqDiff, Nat.add_eq_left, Nat.left_eq_add, reduceCtorEq, false_and, true_and, and_true, and_false, if_false, if_true], by rw [la_ml]; simp only [oh_u2, Nat.add_left_cancel_iff, Nat.reduceEqDiff, Nat.add_eq_left, Nat.left_eq_add, reduceCtorEq, false_and, true_and, and_true, and_false, if_false, if_true]⟩
      · obtain ⟨i, c1, c2, c3⟩ := b3 k (by omega)
        refine ⟨i, c1, ?_, ?_⟩
        · rw [oh_u2_ne1 (by omega), u2_b (by omega)]
          exact c2
        · rw [la_ml, u2_b w]
          exact c3
    · refine ⟨t, b1, ?_, fun k hk => ?_⟩
      · rw [u2_b z, oh_u2_ne1 (by omega)]
        exact b2
      · obtain ⟨i, c1, c2, c3⟩ := b3 k hk
        refine ⟨i, c1, ?_, ?_⟩
        · rw [oh_u2_ne1 (by omega), u2_b (by omega)]
          exact c2
        · rw [la_ml, oh_u2_ne1 (by unfold ml; omega)]
          exact c3
  · have W := hW m' hm'
    have e45 : oh_u2 (oh_u2 (oh_AI h) (a + 44) (12 * m + s') (nI j)) (a + 43) m (nI (s' + 1)) (a + 45) m' = oh_AI h (a + 45) m' := by simp only [oh_u2, Nat.add_left_cancel_iff, Nat.reduceEqDiff, Nat.add_eq_left, Nat.left_eq_add, reduceCtorEq, false_and, true_and, and_true, and_false, if_false, if_true]
    rw [e45]
    by_cases z : m' = m
    · subst z
      rw [h45] at W ⊢
      rw [if_neg (by decide), if_neg (by decide)] at W ⊢
      exact W
    · obtain ⟨t, b1, b2, b3, b4⟩ := bin_of hB hnl hm'
      have ebn : bn (oh_u2 (oh_u2 (oh_AI h) (a + 44) (12 * m + s') (nI j)) (a + 43) m (nI (s' + 1))) a m' = bn (oh_AI h) a m' := by
        simp only [bn, oh_u2, Nat.add_left_cancel_iff, Nat.reduceEqDiff, Nat.add_eq_left, Nat.left_eq_add, reduceCtorEq, false_and, true_and, and_true, and_false, if_false, if_true, z]
      have S := sum_same (F := oh_u2 (oh_u2 (oh_AI h) (a + 44) (12 * m + s') (nI j)) (a + 43) m (nI (s' + 1))) (G := oh_AI h) (a := a) (m := m') (s := bn (oh_AI h) a m') (fun k hk => by
        have z2 : ¬ 12 * m' + k = 12 * m + s' := by omega
        simp only [bl, oh_u2, Nat.add_left_cancel_iff, Nat.reduceEqDiff, Nat.add_eq_left, Nat.left_eq_add, reduceCtorEq, false_and, true_and, and_true, and_false, if_false, if_true, z2, and_self])
      rw [ebn, S.1, S.2.1, S.2.2]
      exact W
  · have V := vl i hi
    by_cases z : i = j
    · subst z
      obtain ⟨V1, V2, V3, V4, V5, V6, V7, V8, V9, V10, V11, V12, V13, V14⟩ := V
      simp only [oh_u2, Nat.add_left_cancel_iff, Nat.reduceEqDiff, Nat.add_eq_left, Nat.left_eq_add, reduceCtorEq, false_and, true_and, and_true, and_false, if_false, if_true]
      exact ⟨V1, V2, by decide, V4, V5, V6, V7, fun _ => V8 (by rw [h32]; decide), fun _ => V9 (by rw [h32]; decide), V10, V11, fun _ _ => by rw [nI_toInt (by omega)]; omega, fun w => absurd w (by decide), V14⟩
    · simp only [oh_u2, Nat.add_left_cancel_iff, Nat.reduceEqDiff, Nat.add_eq_left, Nat.left_eq_add, reduceCtorEq, false_and, true_and, and_true, and_false, if_false, if_true, z]
      exact V
  · exact vF_lot (by decide) hj (by simp only [pw_wI, pw_wL, pw_wR, pw_sI, pw_sL, pw_sR, K_qG_FI, K_qG_AI, K_qL_FI, K_qL_AI, K_qM_FI, K_qM_AI, K_qB_AI, K_qV_FI, K_qV_FL, K_qV_AI, K_qV_AL, K_qD_AI, K_qT_FI, K_qP_FI, K_qP_AI, K_qW_FI, K_qW_AI, K_vT_FI, K_vG_AI, K_vL_FI, K_vL_AI, K_vF_AI, K_vF_AL, K_vB_AI, K_vM_AI, K_vV_AI, K_vV_AL, K_vD_AI, K_vX_AI, K_vX_AL, ne_eq, Nat.reduceEqDiff, not_false_eq_true, and_self, true_and, and_true, vf])
  · rw [← eF]
    intro m' hm'
    have B := vb m' hm'
    have e45 := fc 45 m' (by decide) (by decide) (by decide) (by decide)
    by_cases z : m' = m
    · subst z
      have nbk : ∀ k, k < s' → bl (oh_AI h) a m' k ≠ j := fun k hk => nbj m' hm' k (by omega)
      have bk : ∀ k, k < s' → oh_AI h (a + 29) (bl F a m' k) = 3 → oh_AI h (a + 29) j = 3 := fun k hk e => by
        rw [blm k hk] at e
        exact (hl k hk).mp e
      refine ⟨fun k hk => ?_, fun k k' hk hk' e => ?_, fun k k' hk hk' e => ?_, fun w => ?_⟩
      · rw [bnm] at hk
        by_cases w : k = s'
        · subst w
          rw [bls, f38, f32, e45, h45]
          exact ⟨rfl, by decide, by decide, Iff.intro (fun _ => rfl) (fun _ => rfl)⟩
        · rw [blm k (by omega), fo 38 _ (nbk k (by omega)) (by decide) (by decide), fo 32 _ (nbk k (by omega)) (by decide) (by decide), e45]
          exact B.1 k (by omega)
      · rw [bnm] at hk hk'
        by_cases w : k = s' <;> by_cases w' : k' = s'
        · omega
        · subst w
          rw [bls, blm k' (by omega)] at e
          exact absurd e.symm (nbk k' (by omega))
        · subst w'
          rw [bls, blm k (by omega)] at e
          exact absurd e (nbk k (by omega))
        · rw [blm k (by omega), blm k' (by omega)] at e
          exact B.2.1 k k' (by omega) (by omega) e
      · rw [bnm] at hk hk'
        rw [fc 29 _ (by decide) (by decide) (by decide) (by decide)] at e ⊢
        have ej : oh_AI h (a + 29) j = 3 := by
          by_cases w : k = s'
          · subst w
            rw [bls] at e
            exact e
          · exact bk k (by omega) e
        by_cases w' : k' = s'
        · subst w'
          rw [bls]
          exact ej
        · rw [blm k' (by omega)]
          exact (hl k' (by omega)).mpr ej
      · rw [e45, h45] at w
        exact absurd w (by decide)
    · obtain ⟨t, b1, b2, b3, b4⟩ := bin_of hB hnl hm'
      have bk : ∀ k, k < bn (oh_AI h) a m' → bl F a m' k = bl (oh_AI h) a m' k := fun k hk => blo m' hm' z k (by omega)
      have nbk : ∀ k, k < bn (oh_AI h) a m' → bl (oh_AI h) a m' k ≠ j := fun k hk => nbj m' hm' k hk
      rw [bno m' z]
      refine ⟨fun k hk => ?_, fun k k' hk hk' e => ?_, fun k k' hk hk' e => ?_, fun w => ?_⟩
      · rw [bk k hk, fo 38 _ (nbk k hk) (by decide) (by decide), fo 32 _ (nbk k hk) (by decide) (by decide), e45]
        exact B.1 k hk
      · rw [bk k hk, bk k' hk'] at e
        exact B.2.1 k k' hk hk' e
      · rw [fc 29 _ (by decide) (by decide) (by decide) (by decide), bk k hk] at e
        rw [fc 29 _ (by decide) (by decide) (by decide) (by decide), bk k' hk']
        exact B.2.2.1 k k' hk hk' e
      · rw [e45] at w
        exact B.2.2.2 w
  · have V := vm m' hm'
    simp only [oh_u2, Nat.add_left_cancel_iff, Nat.reduceEqDiff, Nat.add_eq_left, Nat.left_eq_add, reduceCtorEq, false_and, true_and, and_true, and_false, if_false, if_true]
    exact V
