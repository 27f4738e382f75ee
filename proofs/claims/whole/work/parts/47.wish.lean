theorem P_wish {h : oh_H} {a ng nl nv n : Nat} (R : RR h a ng nl nv n) (x w : Int32) (hw : w = 0 ∨ w = 1) : PR (f_X7_wish h a x w) (fun h => f_X8_wish h (a + 26) x w) a n := by
  obtain ⟨P, hD, hZ, hG, hL, hM, hB, hV, hDe, hT, hP, hW, vn, vt, vg, vl, vf, vb, vm, vv, vd, vx⟩ := id R
  rcases i_cases x (n := nl) (by have := vn.2.1; omega) with ⟨i, hi, rfl⟩ | hx
  · obtain ⟨D1, hp⟩ := hD.2.1 i hi
    have L := hL i hi
    have hnl := vn.2.1
    have C := c_wish (w := w) P hT.2.2.1 D1 hp hi hnl hw
    have M := m_wish (w := w) P hT.2.2.2.1 hi hnl hw
    rw [L.2.2.1, L.2.2.2.1] at C
    by_cases q1 : oh_AI h (a + 29) i = 4
    · rw [if_pos q1] at C M
      exact ⟨_, _, _, _, _, _, C, M, R.mono⟩
    · rw [if_neg q1] at C M
      by_cases q2 : oh_AI h (a + 32) i ≤ 2
      · rw [if_pos q2] at C M
        have M' := m_wish (w := w) (P.wI 139 (la (oh_AR h) a i) w) (h := oh_wI h 139 (la (oh_AR h) a i) w) hT.2.2.2.1 hi hnl hw
        rw [show oh_AI (oh_wI h 139 (la (oh_AR h) a i) w) = oh_AI h from rfl, if_neg q1, if_pos q2] at M'
        refine ⟨_, _, _, ng, nl, nv, C, M', ?_⟩
        refine ⟨P, hD, hZ, ?_⟩
        simp only [pw_wI, pw_wL, pw_wR, pw_sI, pw_sL, pw_sR, K_qG_FI, K_qG_AI, K_qL_FI, K_qL_AI, K_qM_FI, K_qM_AI, K_qB_AI, K_qV_FI, K_qV_FL, K_qV_AI, K_qV_AL, K_qD_AI, K_qT_FI, K_qP_FI, K_qP_AI, K_qW_FI, K_qW_AI, K_vT_FI, K_vG_AI, K_vL_FI, K_vL_AI, K_vF_AI, K_vF_AL, K_vB_AI, K_vM_AI, K_vV_AI, K_vV_AL, K_vD_AI, K_vX_AI, K_vX_AL, ne_eq, Nat.reduceEqDiff, not_false_eq_true, and_self, true_and, and_true, hG, hL, hM, hB, hV, hDe, hT, hP, hW, vn, vt, vg, vl, vf, vb, vm, vv, vd.mono, vx.mono]
        refine ⟨qL_s139 hL hD.2.2.2.1 hi w, fun j hj => ?_, ⟨fun j h1 h2 => ?_, fun v h1 h2 => ?_⟩⟩
        · have V := vl j hj
          by_cases z : j = i
          · subst z
            obtain ⟨V1, V2, V3, V4, V5, V6, V7, V8⟩ := V
            simp only [oh_u2, Nat.add_left_cancel_iff, Nat.reduceEqDiff, Nat.add_eq_left, Nat.left_eq_add, reduceCtorEq, false_and, true_and, and_true, and_false, if_false, if_true]
            exact ⟨V1, V2, V3, V4, V5, V6, hw, V8⟩
          · simp only [oh_u2, Nat.add_left_cancel_iff, Nat.reduceEqDiff, Nat.add_eq_left, Nat.left_eq_add, reduceCtorEq, false_and, true_and, and_true, and_false, if_false, if_true, z]
            exact V
        · have V := vf.1 j h1 h2
          have z : ¬ j = i := by omega
          simp only [oh_u2, Nat.add_left_cancel_iff, Nat.reduceEqDiff, Nat.add_eq_left, Nat.left_eq_add, reduceCtorEq, false_and, true_and, and_true, and_false, if_false, if_true, z]
          exact V
        · have V := vf.2 v h1 h2
          simp only [oh_u2, Nat.add_left_cancel_iff, Nat.reduceEqDiff, Nat.add_eq_left, Nat.left_eq_add, reduceCtorEq, false_and, true_and, and_true, and_false, if_false, if_true]
          exact V
      · rw [if_neg q2] at C M
        exact ⟨_, _, _, _, _, _, C, M, R.mono⟩
  · have C : f_X7_wish h a x w = some (0, h) := by
      unfold f_X7_wish f_X7_wish_25
      simp only [rc_0 P, e_findLot_no (sK_0 P) hT.2.2.1 hx, Option.bind_some, oh_lt, if_true]
      rfl
    have M : f_X8_wish h (a + 26) x w = some (0, h) := by
      unfold f_X8_wish f_X8_wish_28
      simp only [rc_26 P, e_isLot_no (sK_26 P) hT.2.2.2.1 hx, Option.bind_some, if_true]
      rfl
    exact ⟨_, _, _, _, _, _, C, M, R.mono⟩
