set_option maxHeartbeats 4000000 in
theorem RR_wait {h h' : oh_H} {a ng nl nv n t0 t1 : Nat} (R : RR h a ng nl nv n) (eK : oh_K h' = oh_K h) (eS : oh_sz h' = oh_sz h) (eN : oh_N h' = oh_N h) (eFR : oh_FR h' = oh_FR h) (eFL : oh_FL h' = oh_FL h) (eAL : oh_AL h' = oh_AL h) (eAR : oh_AR h' = oh_AR h)
    (g : ∀ c b, ¬ c ∈ [131, 324, 458, 461, 512, 515, 555] → oh_FI h' c b = oh_FI h c b) (f : ∀ c b, c ≠ 29 → oh_AI h' (a + c) b = oh_AI h (a + c) b)
    (k : ∀ i, i < nl → oh_FI h' 131 (la (oh_AR h) a i) = oh_AI h' (a + 29) i ∧ (oh_AI h' (a + 29) i = oh_AI h (a + 29) i ∨ oh_AI h' (a + 29) i = 3) ∧ (¬ oh_AI h (a + 32) i ≤ 2 → oh_AI h' (a + 29) i = oh_AI h (a + 29) i))
    (h512 : oh_FI h 512 (a + 26) = nI t0) (ht : t0 ≤ t1) (ht1 : t1 ≤ 999) (g458 : oh_FI h' 458 a = nI t1) (g512 : oh_FI h' 512 (a + 26) = nI t1) (g461 : oh_FI h' 461 a = oh_FI h' 515 (a + 26)) (g515 : -1 ≤ (oh_FI h' 515 (a + 26)).toInt ∧ (oh_FI h' 515 (a + 26)).toInt ≤ 30) (g324 : oh_FI h' 324 (a + 7) = oh_FI h' 555 (a + 26)) : RR h' a ng nl nv n := by
  obtain ⟨P, hD, hZ, hG, hL, hM, hB, hV, hDe, hT, hP, hW, vn, vt, vg, vl, vf, vb, vm, vv, vd, vx⟩ := id R
  have hnl := vn.2.1
  have fr : ∀ c, c ≠ 29 → oh_AI h' (a + c) = oh_AI h (a + c) := fun c z => funext fun b => f c b z
  have gr : ∀ c, ¬ c ∈ [131, 324, 458, 461, 512, 515, 555] → oh_FI h' c = oh_FI h c := fun c z => funext fun b => g c b z
  have bne : ∀ m', bn (oh_AI h') a m' = bn (oh_AI h) a m' := fun m' => by
    unfold bn
    rw [fr 43 (by decide)]
  have ble : ∀ m' k, bl (oh_AI h') a m' k = bl (oh_AI h) a m' k := fun m' k => by
    unfold bl
    rw [fr 44 (by decide)]
  have sums := fun m' s => sum_rows (F := oh_AI h') (G := oh_AI h) (a := a) (fr 33 (by decide)) (fr 34 (by decide)) (fr 35 (by decide)) (fr 44 (by decide)) m' s
  have so := fun s => sumO_rows (F := oh_AI h') (G := oh_AI h) (a := a) (fr 54 (by decide)) s
  unfold RR
  rw [eK, eS, eFR, eFL, eAL, eAR]
  refine ⟨?_, hD, hZ, ?_, ?_, ?_, ?_, ?_, ?_, ?_, ?_, ?_, vn, ?_, ?_, ?_, ?_, ?_, ?_, ?_, ?_, ?_⟩
  · unfold PS
    rw [eK, eN, eFR, eAR]
    exact P
  · unfold qG
    rw [gr 64 (by decide), gr 65 (by decide), gr 66 (by decide), fr 27 (by decide), fr 28 (by decide)]
    exact hG
  · intro i hi
    have L := hL i hi
    rw [(k i hi).1, g 128 _ (by decide), g 130 _ (by decide), g 132 _ (by decide), g 133 _ (by decide), g 134 _ (by decide), g 135 _ (by decide), g 136 _ (by decide), g 137 _ (by decide), g 138 _ (by decide), g 139 _ (by decide), f 31 _ (by decide), f 32 _ (by decide), f 33 _ (by decide), f 34 _ (by decide), f 35 _ (by decide), f 36 _ (by decide), f 37 _ (by decide), f 38 _ (by decide), f 39 _ (by decide), f 30 _ (by decide)]
    exact ⟨L.1, L.2.1, rfl, L.2.2.2⟩
  · unfold qM
    rw [gr 192 (by decide), gr 195 (by decide), gr 196 (by decide), gr 197 (by decide), gr 198 (by decide), gr 199 (by decide), gr 200 (by decide), gr 201 (by decide), gr 204 (by decide), gr 205 (by decide), fr 43 (by decide), fr 40 (by decide), fr 41 (by decide), fr 42 (by decide), fr 46 (by decide), fr 47 (by decide), fr 45 (by decide), fr 48 (by decide), fr 49 (by decide)]
    exact hM
  · unfold qB
    rw [fr 43 (by decide), fr 44 (by decide)]
    exact hB
  · unfold qV
    rw [gr 384 (by decide), gr 385 (by decide), gr 386 (by decide), gr 387 (by decide), gr 388 (by decide), gr 389 (by decide), fr 50 (by decide), fr 51 (by decide), fr 52 (by decide), fr 53 (by decide), fr 54 (by decide), fr 55 (by decide)]
    exact hV
  · unfold qD
    rw [fr 6 (by decide), fr 58 (by decide)]
    exact hDe
  · unfold qT at hT ⊢
    rw [gr 455 (by decide), gr 516 (by decide), gr 456 (by decide), gr 519 (by decide), gr 457 (by decide), gr 541 (by decide), gr 459 (by decide), gr 513 (by decide), gr 460 (by decide), gr 514 (by decide), gr 320 (by decide), gr 551 (by decide), gr 321 (by decide), gr 552 (by decide), gr 322 (by decide), gr 553 (by decide), gr 323 (by decide), gr 554 (by decide), g458, g512, g461, g324]
    obtain ⟨T1, T2, T3, T4, T5, T6, T7, T8, T9, T10, T11, T12, T13, T14, T15⟩ := hT
    exact ⟨T1, T2, T3, T4, T5, T6, rfl, T8, T9, rfl, T11, T12, T13, T14, rfl⟩
  · unfold qP
    rw [gr 270 (by decide), gr 556 (by decide), gr 268 (by decide), gr 558 (by decide), gr 269 (by decide), gr 559 (by decide), gr 267 (by decide), gr 557 (by decide), fr 13 (by decide), fr 16 (by decide), fr 59 (by decide)]
    exact hP
  · intro m' hm'
    have W := hW m' hm'
    rw [gr 202 (by decide), gr 203 (by decide), f 45 _ (by decide), bne, (sums m' _).1, (sums m' _).2.1, (sums m' _).2.2]
    exact W
  · unfold vT
    rw [g512, gr 513 (by decide), gr 514 (by decide), nI_toInt (by omega)]
    exact ⟨by omega, vt.2.1, vt.2.2.1, g515⟩
  · unfold vG
    rw [fr 27 (by decide), fr 28 (by decide)]
    exact vg
  · intro i hi
    have V := vl i hi
    rw [g512, nI_toInt (by omega), f 31 _ (by decide), f 32 _ (by decide), f 33 _ (by decide), f 34 _ (by decide), f 35 _ (by decide), f 36 _ (by decide), f 37 _ (by decide), f 38 _ (by decide), f 39 _ (by decide)]
    rw [h512, nI_toInt (by omega)] at V
    refine ⟨?_, ⟨V.2.1.1, by omega⟩, V.2.2⟩
    rcases (k i hi).2.1 with e | e
    · rw [e]
      exact V.1
    · rw [e]
      decide
  · refine ⟨fun i h1 h2 => ?_, fun v h1 h2 => ?_⟩
    · rw [f 32 _ (by decide), f 33 _ (by decide), f 34 _ (by decide), f 35 _ (by decide), f 36 _ (by decide), f 37 _ (by decide), f 39 _ (by decide)]
      exact vf.1 i h1 h2
    · rw [f 53 _ (by decide), f 54 _ (by decide), f 55 _ (by decide)]
      exact vf.2 v h1 h2
  · intro m' hm'
    have B := vb m' hm'
    obtain ⟨s, b1, b2, b3, b4⟩ := bin_of hB hnl hm'
    have e29 : ∀ k', k' < bn (oh_AI h) a m' → oh_AI h' (a + 29) (bl (oh_AI h) a m' k') = oh_AI h (a + 29) (bl (oh_AI h) a m' k') := fun k' hk' => (k _ (b4 k' (by omega)).1).2.2 (by
      have := (B.1 k' hk').2.1
      rw [i_le, show (2 : Int32).toInt = 2 from rfl]
      omega)
    rw [bne, f 45 _ (by decide)]
    refine ⟨fun k hk => ?_, fun k k' hk hk' e => ?_, fun k k' hk hk' e => ?_, B.2.2.2⟩
    · rw [ble, f 38 _ (by decide), f 32 _ (by decide)]
      exact B.1 k hk
    · rw [ble, ble] at e
      exact B.2.1 k k' hk hk' e
    · rw [ble, e29 k hk] at e
      rw [ble, e29 k' hk']
      exact B.2.2.1 k k' hk hk' e
  · unfold vM
    rw [fr 40 (by decide), fr 41 (by decide), fr 42 (by decide), fr 45 (by decide), fr 46 (by decide), fr 47 (by decide), fr 48 (by decide), fr 49 (by decide)]
    exact vm
  · unfold vV
    rw [fr 50 (by decide), fr 51 (by decide), fr 52 (by decide), fr 55 (by decide)]
    exact vv
  · unfold vD
    rw [fr 54 (by decide), fr 58 (by decide), so]
    exact vd
  · unfold vX
    rw [fr 53 (by decide), fr 54 (by decide)]
    exact vx
set_option maxHeartbeats 4000000 in
theorem P_wait {h : oh_H} {a ng nl nv n : Nat} (R : RR h a ng nl nv n) (x : Int32) : PR (f_X7_wait h a x) (fun h => f_X8_wait h (a + 26) x) a n := by
  have R0 := R
  obtain ⟨P, hD, hZ, hG, hL, hM, hB, hV, hDe, hT, hP, hW, vn, vt, vg, vl, vf, vb, vm, vv, vd, vx⟩ := id R
  by_cases q : (0 : Int32) ≤ x ∧ x ≤ 100
  · have hx0 := i_le.mp q.1
    have hx1 := i_le.mp q.2
    rw [i_0] at hx0
    rw [show (100 : Int32).toInt = 100 from rfl] at hx1
    obtain ⟨xn, hxn, ex⟩ := i_of (n := 101) hx0 (by omega)
    obtain ⟨t0, ht0, e0⟩ := i_of (n := 1000) vt.1.1 (by have := vt.1.2; omega)
    subst ex
    have ht1 : t0 ≤ min 999 (t0 + xn) := by omega
    have ht2 : min 999 (t0 + xn) ≤ 999 := by omega
    have e1 : (if nI t0 + nI xn < 999 then nI t0 + nI xn else 999) = nI (min 999 (t0 + xn)) := by
      rw [nI_add]
      have z : (nI (t0 + xn) < 999) = (t0 + xn < 999) := iN_lt (k := 999) (by omega) (by omega)
      by_cases y : t0 + xn < 999
      · rw [if_pos (by rw [z]; exact y), show min 999 (t0 + xn) = t0 + xn by omega]
      · rw [if_neg (by rw [z]; exact y), show min 999 (t0 + xn) = 999 by omega]
        rfl
    obtain ⟨F, c1, ⟨c2, c3, c4, c5⟩, c6⟩ := c_wait R0 e0 ht1 ht2 ⟨hx0, hx1⟩ e1
    have hGG : ∀ c b, ¬ c ∈ [131, 324, 458, 461] → F c b = oh_FI h c b := c2
    have T324 := hT.2.2.2.2.2.2.2.2.2.2.2.2.2.2
    have T461 := hT.2.2.2.2.2.2.2.2.2.1
    obtain ⟨F', A, d1, ⟨d2, d3, d4, d5, d6, d7⟩⟩ := m_wait (G0 := F) (s0 := (fun i => oh_FI h 131 (la (oh_AR h) a i), oh_FI h 324 (a + 7))) (v0 := oh_FI h 461 a) (xn := xn) R0 (by omega : t0 ≤ 999) (by omega) hGG ⟨fun _ _ _ => rfl, by rw [hGG 512 _ (by decide)]; exact e0, by rw [hGG 515 _ (by decide)]; exact T461.symm, by rw [hGG 555 _ (by decide)]; exact T324.symm, fun _ _ _ => rfl, fun i hi => (hL i hi).2.2.1.symm⟩
    obtain ⟨t1, et1⟩ : ∃ t1, t1 = min 999 (t0 + xn) := ⟨_, rfl⟩
    rw [← et1] at ht1 ht2 c1 c3 c4 c5 c6 d1 d3 d4 d5 d7
    obtain ⟨sE, esE⟩ : ∃ sE, sE = dy (oh_AI h) a nl (oh_FI h 459 a) (t0 / 10) (t1 / 10 - t0 / 10) (fun i => oh_FI h 131 (la (oh_AR h) a i), oh_FI h 324 (a + 7)) := ⟨_, rfl⟩
    have dk := fun i => dy_ok (AI := oh_AI h) (a := a) (nl := nl) (fr := oh_FI h 459 a) (d0 := t0 / 10) (s := (fun i => oh_FI h 131 (la (oh_AR h) a i), oh_FI h 324 (a + 7))) (t1 / 10 - t0 / 10) i
    rw [← esE] at c3 c4 d5 d7 dk
    refine ⟨nI t1, oh_mF h F, oh_mA (oh_mF h F') A, ng, nl, nv, c1, d1, RR.mono (RR_wait R0 rfl rfl rfl rfl rfl rfl rfl (fun c b z => ?_) d6 (fun i hi => ?_) e0 ht1 ht2 ?_ d3 ?_ ?_ ?_)⟩
    · show F' c b = _
      have z2 := z
      simp only [List.mem_cons, List.not_mem_nil, or_false, not_or] at z2
      rw [d2 c b (by simp only [List.mem_cons, List.not_mem_nil, or_false, not_or]; omega), hGG c b (by simp only [List.mem_cons, List.not_mem_nil, or_false, not_or]; omega)]
    · show F' 131 _ = A (a + 29) i ∧ (A (a + 29) i = _ ∨ A (a + 29) i = 3) ∧ (_ → A (a + 29) i = _)
      have L := (hL i hi).2.2.1
      rw [d2 131 _ (by decide), (c3 i hi).1, d7 i hi, ← L]
      exact ⟨rfl, dk i⟩
    · show F' 458 a = _
      rw [d2 458 _ (by decide)]
      exact c6
    · show F' 461 a = F' 515 (a + 26)
      rw [d2 461 _ (by decide), c5, d4]
    · show -1 ≤ (F' 515 (a + 26)).toInt ∧ (F' 515 (a + 26)).toInt ≤ 30
      rw [d4]
      split
      · rw [T461]
        exact vt.2.2.2
      · decide
    · show F' 324 (a + 7) = F' 555 (a + 26)
      rw [d2 324 _ (by decide), c4, d5]
  · refine ⟨-1, h, h, ng, nl, nv, ?_, ?_, R.mono⟩
    · simp only [f_X7_wait, g_448_0, g_449_0, g_450_0, g_451_0, g_452_0, g_453_0, g_454_0, g_455_0, p_455_0, g_456_0, p_456_0, g_457_0, p_457_0, g_458_0, p_458_0, g_459_0, p_459_0, g_460_0, p_460_0, g_461_0, p_461_0, rc_0, g_0_5, rc_5, g_320_7, p_320_7, g_321_7, p_321_7, g_322_7, p_322_7, g_323_7, p_323_7, g_324_7, p_324_7, rc_7, g_256_8, g_257_8, g_258_8, g_259_8, g_260_8, g_261_8, g_262_8, g_263_8, p_263_8, g_264_8, p_264_8, g_265_8, p_265_8, g_266_8, g_267_8, p_267_8, g_268_8, p_268_8, g_269_8, p_269_8, g_270_8, p_270_8, rc_8, g_192_17, p_192_17, g_193_17, g_194_17, g_195_17, p_195_17, g_196_17, p_196_17, g_197_17, p_197_17, g_198_17, p_198_17, g_199_17, p_199_17, g_200_17, p_200_17, g_201_17, p_201_17, g_202_17, p_202_17, g_203_17, p_203_17, g_204_17, p_204_17, g_205_17, p_205_17, rc_17, g_192_20, p_192_20, g_193_20, g_194_20, g_195_20, p_195_20, g_196_20, p_196_20, g_197_20, p_197_20, g_198_20, p_198_20, g_199_20, p_199_20, g_200_20, p_200_20, g_201_20, p_201_20, g_202_20, p_202_20, g_203_20, p_203_20, g_204_20, p_204_20, g_205_20, p_205_20, rc_20, g_192_23, p_192_23, g_193_23, g_194_23, g_195_23, p_195_23, g_196_23, p_196_23, g_197_23, p_197_23, g_198_23, p_198_23, g_199_23, p_199_23, g_200_23, p_200_23, g_201_23, p_201_23, g_202_23, p_202_23, g_203_23, p_203_23, g_204_23, p_204_23, g_205_23, p_205_23, rc_23, g_512_26, p_512_26, g_513_26, p_513_26, g_514_26, p_514_26, g_515_26, p_515_26, g_516_26, p_516_26, g_517_26, g_518_26, g_519_26, p_519_26, g_520_26, g_521_26, g_522_26, g_523_26, g_524_26, g_525_26, g_526_26, g_527_26, g_528_26, g_529_26, g_530_26, g_531_26, g_532_26, g_533_26, g_534_26, g_535_26, g_536_26, g_537_26, g_538_26, g_539_26, g_540_26, g_541_26, p_541_26, g_542_26, g_543_26, g_544_26, g_545_26, g_546_26, g_547_26, g_548_26, g_549_26, g_550_26, g_551_26, p_551_26, g_552_26, p_552_26, g_553_26, p_553_26, g_554_26, p_554_26, g_555_26, p_555_26, g_556_26, p_556_26, g_557_26, p_557_26, g_558_26, p_558_26, g_559_26, p_559_26, g_560_26, g_561_26, p_561_26, g_562_26, g_563_26, g_564_26, p_564_26, g_565_26, p_565_26, rc_26, ai_1, ai_2, ai_3, ai_4, ai_6, ti_6, ai_9, ti_9, ai_10, ti_10, ai_11, ti_11, ai_12, ti_12, ai_13, ti_13, ai_14, ti_14, ai_15, ti_15, ai_16, ti_16, ai_18, ai_19, ti_19, ai_21, ai_22, ti_22, ai_24, ai_25, ti_25, ai_27, ti_27, ai_28, ti_28, ai_29, ti_29, ai_30, ti_30, ai_31, ti_31, ai_32, ti_32, ai_33, ti_33, ai_34, ti_34, ai_35, ti_35, ai_36, ti_36, ai_37, ti_37, ai_38, ti_38, ai_39, ti_39, ai_40, ti_40, ai_41, ti_41, ai_42, ti_42, ai_43, ti_43, ai_44, ti_44, ai_45, ti_45, ai_46, ti_46, ai_47, ti_47, ai_48, ti_48, ai_49, ti_49, ai_50, ti_50, ai_51, ti_51, ai_52, ti_52, ai_53, ti_53, ai_54, ti_54, ai_55, ti_55, ai_56, ti_56, ai_57, ti_57, ai_58, ti_58, ai_59, ti_59, ai_60, ti_60, ai_61, ti_61, Option.bind_some, oh_lt_eq, e_bz0, e_bz1, e_in, e_isWithin, e_isFarmer, e_isSort, ite01, i10, PS_wI, PS_wL, PS_sI, PS_sL, pw_wI, pw_wL, pw_wR, pw_sI, pw_sL, pw_sR, oh_u2, Nat.add_left_cancel_iff, Nat.reduceEqDiff, Nat.add_eq_left, Nat.left_eq_add, reduceCtorEq, false_and, true_and, and_true, and_false, if_false, if_true, q]
    · simp only [f_X8_wait, g_448_0, g_449_0, g_450_0, g_451_0, g_452_0, g_453_0, g_454_0, g_455_0, p_455_0, g_456_0, p_456_0, g_457_0, p_457_0, g_458_0, p_458_0, g_459_0, p_459_0, g_460_0, p_460_0, g_461_0, p_461_0, rc_0, g_0_5, rc_5, g_320_7, p_320_7, g_321_7, p_321_7, g_322_7, p_322_7, g_323_7, p_323_7, g_324_7, p_324_7, rc_7, g_256_8, g_257_8, g_258_8, g_259_8, g_260_8, g_261_8, g_262_8, g_263_8, p_263_8, g_264_8, p_264_8, g_265_8, p_265_8, g_266_8, g_267_8, p_267_8, g_268_8, p_268_8, g_269_8, p_269_8, g_270_8, p_270_8, rc_8, g_192_17, p_192_17, g_193_17, g_194_17, g_195_17, p_195_17, g_196_17, p_196_17, g_197_17, p_197_17, g_198_17, p_198_17, g_199_17, p_199_17, g_200_17, p_200_17, g_201_17, p_201_17, g_202_17, p_202_17, g_203_17, p_203_17, g_204_17, p_204_17, g_205_17, p_205_17, rc_17, g_192_20, p_192_20, g_193_20, g_194_20, g_195_20, p_195_20, g_196_20, p_196_20, g_197_20, p_197_20, g_198_20, p_198_20, g_199_20, p_199_20, g_200_20, p_200_20, g_201_20, p_201_20, g_202_20, p_202_20, g_203_20, p_203_20, g_204_20, p_204_20, g_205_20, p_205_20, rc_20, g_192_23, p_192_23, g_193_23, g_194_23, g_195_23, p_195_23, g_196_23, p_196_23, g_197_23, p_197_23, g_198_23, p_198_23, g_199_23, p_199_23, g_200_23, p_200_23, g_201_23, p_201_23, g_202_23, p_202_23, g_203_23, p_203_23, g_204_23, p_204_23, g_205_23, p_205_23, rc_23, g_512_26, p_512_26, g_513_26, p_513_26, g_514_26, p_514_26, g_515_26, p_515_26, g_516_26, p_516_26, g_517_26, g_518_26, g_519_26, p_519_26, g_520_26, g_521_26, g_522_26, g_523_26, g_524_26, g_525_26, g_526_26, g_527_26, g_528_26, g_529_26, g_530_26, g_531_26, g_532_26, g_533_26, g_534_26, g_535_26, g_536_26, g_537_26, g_538_26, g_539_26, g_540_26, g_541_26, p_541_26, g_542_26, g_543_26, g_544_26, g_545_26, g_546_26, g_547_26, g_548_26, g_549_26, g_550_26, g_551_26, p_551_26, g_552_26, p_552_26, g_553_26, p_553_26, g_554_26, p_554_26, g_555_26, p_555_26, g_556_26, p_556_26, g_557_26, p_557_26, g_558_26, p_558_26, g_559_26, p_559_26, g_560_26, g_561_26, p_561_26, g_562_26, g_563_26, g_564_26, p_564_26, g_565_26, p_565_26, rc_26, ai_1, ai_2, ai_3, ai_4, ai_6, ti_6, ai_9, ti_9, ai_10, ti_10, ai_11, ti_11, ai_12, ti_12, ai_13, ti_13, ai_14, ti_14, ai_15, ti_15, ai_16, ti_16, ai_18, ai_19, ti_19, ai_21, ai_22, ti_22, ai_24, ai_25, ti_25, ai_27, ti_27, ai_28, ti_28, ai_29, ti_29, ai_30, ti_30, ai_31, ti_31, ai_32, ti_32, ai_33, ti_33, ai_34, ti_34, ai_35, ti_35, ai_36, ti_36, ai_37, ti_37, ai_38, ti_38, ai_39, ti_39, ai_40, ti_40, ai_41, ti_41, ai_42, ti_42, ai_43, ti_43, ai_44, ti_44, ai_45, ti_45, ai_46, ti_46, ai_47, ti_47, ai_48, ti_48, ai_49, ti_49, ai_50, ti_50, ai_51, ti_51, ai_52, ti_52, ai_53, ti_53, ai_54, ti_54, ai_55, ti_55, ai_56, ti_56, ai_57, ti_57, ai_58, ti_58, ai_59, ti_59, ai_60, ti_60, ai_61, ti_61, Option.bind_some, oh_lt_eq, e_bz0, e_bz1, e_in, e_isWithin, e_isFarmer, e_isSort, ite01, i10, PS_wI, PS_wL, PS_sI, PS_sL, pw_wI, pw_wL, pw_wR, pw_sI, pw_sL, pw_sR, oh_u2, Nat.add_left_cancel_iff, Nat.reduceEqDiff, Nat.add_eq_left, Nat.left_eq_add, reduceCtorEq, false_and, true_and, and_true, and_false, if_false, if_true, q]
