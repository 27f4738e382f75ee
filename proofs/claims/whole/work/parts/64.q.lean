theorem days_eq {x y : Int32} (hx : 0 ≤ x.toInt ∧ x.toInt ≤ 100) (hy : 0 ≤ y.toInt ∧ y.toInt ≤ 100) : ((3 : Int32) < (if 0 ≤ (x - y) then (x - y) else 0 - (x - y))) = ¬ ((-3 : Int32) ≤ y - x ∧ y - x ≤ 3) := by
  have e1 : (x - y).toInt = x.toInt - y.toInt := i_sub (by omega) (by omega)
  have e2 : (y - x).toInt = y.toInt - x.toInt := i_sub (by omega) (by omega)
  have e3 : (0 - (x - y)).toInt = 0 - (x.toInt - y.toInt) := by rw [i_sub] <;> rw [e1, i_0] <;> omega
  apply propext
  by_cases q : (0 : Int32) ≤ x - y
  · rw [if_pos q]
    have q2 := i_le.mp q
    rw [i_lt, i_le, i_le, e2, e1, show (3 : Int32).toInt = 3 from rfl, show (-3 : Int32).toInt = -3 from rfl]
    rw [i_0] at q2
    omega
  · rw [if_neg q]
    have q2 : ¬ ((0 : Int32).toInt ≤ (x - y).toInt) := fun z => q (i_le.mpr z)
    rw [i_lt, i_le, i_le, e2, e3, show (3 : Int32).toInt = 3 from rfl, show (-3 : Int32).toInt = -3 from rfl]
    rw [i_0] at q2
    omega
set_option maxHeartbeats 8000000 in
theorem e_agree {h : oh_H} {a ng nl nv n i j : Nat} (R : RR h a ng nl nv n) (hi : i < nl) (hj : j < nl) : ∃ r : Int32, f_X2_agreesWith h (la (oh_AR h) a i) (some (la (oh_AR h) a j)) = some r ∧ f_X8_agree h (a + 26) (nI j) (nI i) = some r ∧ (r = 0 ∨ r = 1) ∧ (r = 1 → (oh_AI h (a + 29) i = 3 ↔ oh_AI h (a + 29) j = 3)) := by
  obtain ⟨P, hD, hZ, hG, hL, hM, hB, hV, hDe, hT, hP, hW, vn, vt, vg, vl, vf, vb, vm, vv, vd, vx⟩ := id R
  have hnl := vn.2.1
  have hng := vn.1
  have hi2 : i < 200 := by omega
  have hj2 : j < 200 := by omega
  obtain ⟨Di, hpi⟩ := hD.2.1 i hi
  obtain ⟨Dj, hpj⟩ := hD.2.1 j hj
  have Li := hL i hi
  have Lj := hL j hj
  have Vi := vl i hi
  have Vj := vl j hj
  obtain ⟨g, hg, G1, G2⟩ := Li.2.2.2.2.2.2.2.2.2.2.2
  obtain ⟨g', hg', G1', G2'⟩ := Lj.2.2.2.2.2.2.2.2.2.2.2
  have Kg := (hD.1 g hg).2
  have Kg' := (hD.1 g' hg').2
  have Fg := (hG g hg).2.2
  have Fg' := (hG g' hg').2.2
  have hg2 : g < 60 := by omega
  have hg2' : g' < 60 := by omega
  have wi := Vi.2.2.2.2.2.2.1
  have wj := Vj.2.2.2.2.2.2.1
  have ci := c_isWith hpi (by rw [Li.2.2.2.2.2.2.2.2.2.2.1]; exact wi)
  have cj := c_isWith hpj (by rw [Lj.2.2.2.2.2.2.2.2.2.2.1]; exact wj)
  rw [Li.2.2.1, Li.2.2.2.2.2.2.2.2.2.2.1] at ci
  rw [Lj.2.2.1, Lj.2.2.2.2.2.2.2.2.2.2.1] at cj
  have dd := days_eq (x := oh_AI h (a + 31) i) (y := oh_AI h (a + 31) j) (by have := Vi.2.1; have := vt.1; omega) (by have := Vj.2.1; have := vt.1; omega)
  have E1 : f_X2_agreesWith h (la (oh_AR h) a i) (some (la (oh_AR h) a j)) = if oh_AI h (a + 29) i = 2 ∨ oh_AI h (a + 29) j = 2 then (if oh_AI h (a + 29) i = oh_AI h (a + 29) j ∧ oh_AI h (a + 28) g = oh_AI h (a + 28) g' then some 1 else some 0) else if ((oh_AI h (a + 29) i = 0 ∨ oh_AI h (a + 29) i = 3) ∧ oh_AI h (a + 39) i = 0) ∨ ((oh_AI h (a + 29) j = 0 ∨ oh_AI h (a + 29) j = 3) ∧ oh_AI h (a + 39) j = 0) then some 0 else if oh_AI h (a + 29) i = 3 ∨ oh_AI h (a + 29) j = 3 then (if oh_AI h (a + 29) i = oh_AI h (a + 29) j then some 1 else some 0) else if (-3 : Int32) ≤ oh_AI h (a + 31) j - oh_AI h (a + 31) i ∧ oh_AI h (a + 31) j - oh_AI h (a + 31) i ≤ 3 then some 1 else some 0 := by
    simp only [f_X2_agreesWith, f_X2_agreesWith_49, f_X2_agreesWith_48, f_X2_agreesWith_16, f_X2_agreesWith_64, f_X2_agreesWith_98, f_X2_agreesWith_82, f_X2_agreesWith_120, g_448_0, g_449_0, g_450_0, g_451_0, g_452_0, g_453_0, g_454_0, g_455_0, p_455_0, g_456_0, p_456_0, g_457_0, p_457_0, g_458_0, p_458_0, g_459_0, p_459_0, g_460_0, p_460_0, g_461_0, p_461_0, rc_0, g_0_5, rc_5, g_320_7, p_320_7, g_321_7, p_321_7, g_322_7, p_322_7, g_323_7, p_323_7, g_324_7, p_324_7, rc_7, g_256_8, g_257_8, g_258_8, g_259_8, g_260_8, g_261_8, g_262_8, g_263_8, p_263_8, g_264_8, p_264_8, g_265_8, p_265_8, g_266_8, g_267_8, p_267_8, g_268_8, p_268_8, g_269_8, p_269_8, g_270_8, p_270_8, rc_8, g_192_17, p_192_17, g_193_17, g_194_17, g_195_17, p_195_17, g_196_17, p_196_17, g_197_17, p_197_17, g_198_17, p_198_17, g_199_17, p_199_17, g_200_17, p_200_17, g_201_17, p_201_17, g_202_17, p_202_17, g_203_17, p_203_17, g_204_17, p_204_17, g_205_17, p_205_17, rc_17, g_192_20, p_192_20, g_193_20, g_194_20, g_195_20, p_195_20, g_196_20, p_196_20, g_197_20, p_197_20, g_198_20, p_198_20, g_199_20, p_199_20, g_200_20, p_200_20, g_201_20, p_201_20, g_202_20, p_202_20, g_203_20, p_203_20, g_204_20, p_204_20, g_205_20, p_205_20, rc_20, g_192_23, p_192_23, g_193_23, g_194_23, g_195_23, p_195_23, g_196_23, p_196_23, g_197_23, p_197_23, g_198_23, p_198_23, g_199_23, p_199_23, g_200_23, p_200_23, g_201_23, p_201_23, g_202_23, p_202_23, g_203_23, p_203_23, g_204_23, p_204_23, g_205_23, p_205_23, rc_23, g_512_26, p_512_26, g_513_26, p_513_26, g_514_26, p_514_26, g_515_26, p_515_26, g_516_26, p_516_26, g_517_26, g_518_26, g_519_26, p_519_26, g_520_26, g_521_26, g_522_26, g_523_26, g_524_26, g_525_26, g_526_26, g_527_26, g_528_26, g_529_26, g_530_26, g_531_26, g_532_26, g_533_26, g_534_26, g_535_26, g_536_26, g_537_26, g_538_26, g_539_26, g_540_26, g_541_26, p_541_26, g_542_26, g_543_26, g_544_26, g_545_26, g_546_26, g_547_26, g_548_26, g_549_26, g_550_26, g_551_26, p_551_26, g_552_26, p_552_26, g_553_26, p_553_26, g_554_26, p_554_26, g_555_26, p_555_26, g_556_26, p_556_26, g_557_26, p_557_26, g_558_26, p_558_26, g_559_26, p_559_26, g_560_26, g_561_26, p_561_26, g_562_26, g_563_26, g_564_26, p_564_26, g_565_26, p_565_26, rc_26, ai_1, ai_2, ai_3, ai_4, ai_6, ti_6, ai_9, ti_9, ai_10, ti_10, ai_11, ti_11, ai_12, ti_12, ai_13, ti_13, ai_14, ti_14, ai_15, ti_15, ai_16, ti_16, ai_18, ai_19, ti_19, ai_21, ai_22, ti_22, ai_24, ai_25, ti_25, ai_27, ti_27, ai_28, ti_28, ai_29, ti_29, ai_30, ti_30, ai_31, ti_31, ai_32, ti_32, ai_33, ti_33, ai_34, ti_34, ai_35, ti_35, ai_36, ti_36, ai_37, ti_37, ai_38, ti_38, ai_39, ti_39, ai_40, ti_40, ai_41, ti_41, ai_42, ti_42, ai_43, ti_43, ai_44, ti_44, ai_45, ti_45, ai_46, ti_46, ai_47, ti_47, ai_48, ti_48, ai_49, ti_49, ai_50, ti_50, ai_51, ti_51, ai_52, ti_52, ai_53, ti_53, ai_54, ti_54, ai_55, ti_55, ai_56, ti_56, ai_57, ti_57, ai_58, ti_58, ai_59, ti_59, ai_60, ti_60, ai_61, ti_61, Option.bind_some, oh_lt, e_bz0, e_bz1, e_in, e_isWithin, e_isFarmer, e_isSort, ite01, i10, PS_wI, PS_wL, PS_sI, PS_sL, pw_wI, pw_wL, pw_wR, pw_sI, pw_sL, pw_sR, oh_u2, Nat.add_left_cancel_iff, Nat.reduceEqDiff, Nat.add_eq_left, Nat.left_eq_add, reduceCtorEq, false_and, true_and, and_true, and_false, if_false, if_true, e_gI, e_gR, e_gL, e_pI, e_pL, e_rc, Nat.reduceDiv, Nat.reduceAdd, hpi, hpj, Li.2.2.1, Lj.2.2.1, G2, G2', Kg, Kg', Fg, Fg', ci, cj, Li.2.1, Lj.2.1, dd]
    have k1 := kind_cases Vi.1
    have k2 := kind_cases Vj.1
    generalize oh_AI h (a + 29) i = x1 at k1 ⊢
    generalize oh_AI h (a + 29) j = x2 at k2 ⊢
    generalize oh_AI h (a + 39) i = y1 at wi ⊢
    generalize oh_AI h (a + 39) j = y2 at wj ⊢
    generalize oh_AI h (a + 28) g = l1
    generalize oh_AI h (a + 28) g' = l2
    generalize oh_AI h (a + 31) j - oh_AI h (a + 31) i = d
    by_cases q5 : (-3 : Int32) ≤ d ∧ d ≤ 3 <;> by_cases q4 : l1 = l2 <;> rcases k1 with q | q | q | q | q <;> rcases k2 with q' | q' | q' | q' | q' <;> rcases wi with w | w <;> rcases wj with w' | w' <;> subst q <;> subst q' <;> subst w <;> subst w' <;> simp [q4, q5]
  have E2 : f_X8_agree h (a + 26) (nI j) (nI i) = if oh_AI h (a + 29) i = 2 ∨ oh_AI h (a + 29) j = 2 then (if oh_AI h (a + 29) i = oh_AI h (a + 29) j ∧ oh_AI h (a + 28) g = oh_AI h (a + 28) g' then some 1 else some 0) else if ((oh_AI h (a + 29) i = 0 ∨ oh_AI h (a + 29) i = 3) ∧ oh_AI h (a + 39) i = 0) ∨ ((oh_AI h (a + 29) j = 0 ∨ oh_AI h (a + 29) j = 3) ∧ oh_AI h (a + 39) j = 0) then some 0 else if oh_AI h (a + 29) i = 3 ∨ oh_AI h (a + 29) j = 3 then (if oh_AI h (a + 29) i = oh_AI h (a + 29) j then some 1 else some 0) else if (-3 : Int32) ≤ oh_AI h (a + 31) j - oh_AI h (a + 31) i ∧ oh_AI h (a + 31) j - oh_AI h (a + 31) i ≤ 3 then some 1 else some 0 := by
    simp only [f_X8_agree, f_X8_agree_50, f_X8_agree_51, f_X8_agree_93, f_X8_agree_94, f_X8_agree_95, f_X8_agree_139, f_X8_agree_140, f_X8_isMixed, f_X8_isMixed_43, f_X8_isMixed_42, f_X8_isMixed_38, g_448_0, g_449_0, g_450_0, g_451_0, g_452_0, g_453_0, g_454_0, g_455_0, p_455_0, g_456_0, p_456_0, g_457_0, p_457_0, g_458_0, p_458_0, g_459_0, p_459_0, g_460_0, p_460_0, g_461_0, p_461_0, rc_0, g_0_5, rc_5, g_320_7, p_320_7, g_321_7, p_321_7, g_322_7, p_322_7, g_323_7, p_323_7, g_324_7, p_324_7, rc_7, g_256_8, g_257_8, g_258_8, g_259_8, g_260_8, g_261_8, g_262_8, g_263_8, p_263_8, g_264_8, p_264_8, g_265_8, p_265_8, g_266_8, g_267_8, p_267_8, g_268_8, p_268_8, g_269_8, p_269_8, g_270_8, p_270_8, rc_8, g_192_17, p_192_17, g_193_17, g_194_17, g_195_17, p_195_17, g_196_17, p_196_17, g_197_17, p_197_17, g_198_17, p_198_17, g_199_17, p_199_17, g_200_17, p_200_17, g_201_17, p_201_17, g_202_17, p_202_17, g_203_17, p_203_17, g_204_17, p_204_17, g_205_17, p_205_17, rc_17, g_192_20, p_192_20, g_193_20, g_194_20, g_195_20, p_195_20, g_196_20, p_196_20, g_197_20, p_197_20, g_198_20, p_198_20, g_199_20, p_199_20, g_200_20, p_200_20, g_201_20, p_201_20, g_202_20, p_202_20, g_203_20, p_203_20, g_204_20, p_204_20, g_205_20, p_205_20, rc_20, g_192_23, p_192_23, g_193_23, g_194_23, g_195_23, p_195_23, g_196_23, p_196_23, g_197_23, p_197_23, g_198_23, p_198_23, g_199_23, p_199_23, g_200_23, p_200_23, g_201_23, p_201_23, g_202_23, p_202_23, g_203_23, p_203_23, g_204_23, p_204_23, g_205_23, p_205_23, rc_23, g_512_26, p_512_26, g_513_26, p_513_26, g_514_26, p_514_26, g_515_26, p_515_26, g_516_26, p_516_26, g_517_26, g_518_26, g_519_26, p_519_26, g_520_26, g_521_26, g_522_26, g_523_26, g_524_26, g_525_26, g_526_26, g_527_26, g_528_26, g_529_26, g_530_26, g_531_26, g_532_26, g_533_26, g_534_26, g_535_26, g_536_26, g_537_26, g_538_26, g_539_26, g_540_26, g_541_26, p_541_26, g_542_26, g_543_26, g_544_26, g_545_26, g_546_26, g_547_26, g_548_26, g_549_26, g_550_26, g_551_26, p_551_26, g_552_26, p_552_26, g_553_26, p_553_26, g_554_26, p_554_26, g_555_26, p_555_26, g_556_26, p_556_26, g_557_26, p_557_26, g_558_26, p_558_26, g_559_26, p_559_26, g_560_26, g_561_26, p_561_26, g_562_26, g_563_26, g_564_26, p_564_26, g_565_26, p_565_26, rc_26, ai_1, ai_2, ai_3, ai_4, ai_6, ti_6, ai_9, ti_9, ai_10, ti_10, ai_11, ti_11, ai_12, ti_12, ai_13, ti_13, ai_14, ti_14, ai_15, ti_15, ai_16, ti_16, ai_18, ai_19, ti_19, ai_21, ai_22, ti_22, ai_24, ai_25, ti_25, ai_27, ti_27, ai_28, ti_28, ai_29, ti_29, ai_30, ti_30, ai_31, ti_31, ai_32, ti_32, ai_33, ti_33, ai_34, ti_34, ai_35, ti_35, ai_36, ti_36, ai_37, ti_37, ai_38, ti_38, ai_39, ti_39, ai_40, ti_40, ai_41, ti_41, ai_42, ti_42, ai_43, ti_43, ai_44, ti_44, ai_45, ti_45, ai_46, ti_46, ai_47, ti_47, ai_48, ti_48, ai_49, ti_49, ai_50, ti_50, ai_51, ti_51, ai_52, ti_52, ai_53, ti_53, ai_54, ti_54, ai_55, ti_55, ai_56, ti_56, ai_57, ti_57, ai_58, ti_58, ai_59, ti_59, ai_60, ti_60, ai_61, ti_61, Option.bind_some, oh_lt, e_bz0, e_bz1, e_in, e_isWithin, e_isFarmer, e_isSort, ite01, i10, PS_wI, PS_wL, PS_sI, PS_sL, pw_wI, pw_wL, pw_wR, pw_sI, pw_sL, pw_sR, oh_u2, Nat.add_left_cancel_iff, Nat.reduceEqDiff, Nat.add_eq_left, Nat.left_eq_add, reduceCtorEq, false_and, true_and, and_true, and_false, if_false, if_true, P, hi2, hj2, hg2, hg2', G1, G1']
    have k1 := kind_cases Vi.1
    have k2 := kind_cases Vj.1
    generalize oh_AI h (a + 29) i = x1 at k1 ⊢
    generalize oh_AI h (a + 29) j = x2 at k2 ⊢
    generalize oh_AI h (a + 39) i = y1 at wi ⊢
    generalize oh_AI h (a + 39) j = y2 at wj ⊢
    generalize oh_AI h (a + 28) g = l1
    generalize oh_AI h (a + 28) g' = l2
    generalize oh_AI h (a + 31) j - oh_AI h (a + 31) i = d
    have hl : (l2 = l1) = (l1 = l2) := propext eq_comm
    by_cases q5 : (-3 : Int32) ≤ d ∧ d ≤ 3 <;> by_cases q4 : l1 = l2 <;> rcases k1 with q | q | q | q | q <;> rcases k2 with q' | q' | q' | q' | q' <;> rcases wi with w | w <;> rcases wj with w' | w' <;> subst q <;> subst q' <;> subst w <;> subst w' <;> simp [q4, q5, hl]
  by_cases p1 : oh_AI h (a + 29) i = 2 ∨ oh_AI h (a + 29) j = 2
  · rw [if_pos p1] at E1 E2
    by_cases p2 : oh_AI h (a + 29) i = oh_AI h (a + 29) j ∧ oh_AI h (a + 28) g = oh_AI h (a + 28) g'
    · rw [if_pos p2] at E1 E2
      exact ⟨1, E1, E2, Or.inr rfl, fun _ => by rw [p2.1]⟩
    · rw [if_neg p2] at E1 E2
      exact ⟨0, E1, E2, Or.inl rfl, fun z => absurd z (by decide)⟩
  · rw [if_neg p1] at E1 E2
    by_cases p2 : ((oh_AI h (a + 29) i = 0 ∨ oh_AI h (a + 29) i = 3) ∧ oh_AI h (a + 39) i = 0) ∨ ((oh_AI h (a + 29) j = 0 ∨ oh_AI h (a + 29) j = 3) ∧ oh_AI h (a + 39) j = 0)
    · rw [if_pos p2] at E1 E2
      exact ⟨0, E1, E2, Or.inl rfl, fun z => absurd z (by decide)⟩
    · rw [if_neg p2] at E1 E2
      by_cases p3 : oh_AI h (a + 29) i = 3 ∨ oh_AI h (a + 29) j = 3
      · rw [if_pos p3] at E1 E2
        by_cases p4 : oh_AI h (a + 29) i = oh_AI h (a + 29) j
        · rw [if_pos p4] at E1 E2
          exact ⟨1, E1, E2, Or.inr rfl, fun _ => by rw [p4]⟩
        · rw [if_neg p4] at E1 E2
          exact ⟨0, E1, E2, Or.inl rfl, fun z => absurd z (by decide)⟩
      · rw [if_neg p3] at E1 E2
        by_cases p4 : (-3 : Int32) ≤ oh_AI h (a + 31) j - oh_AI h (a + 31) i ∧ oh_AI h (a + 31) j - oh_AI h (a + 31) i ≤ 3
        · rw [if_pos p4] at E1 E2
          exact ⟨1, E1, E2, Or.inr rfl, fun _ => ⟨fun z => absurd (Or.inl z) p3, fun z => absurd (Or.inr z) p3⟩⟩
        · rw [if_neg p4] at E1 E2
          exact ⟨0, E1, E2, Or.inl rfl, fun z => absurd z (by decide)⟩
