theorem nO_F {h : oh_H} {k c b : Nat} (hb : b ≠ oh_sz h) : oh_FI (oh_nO h k) c b = oh_FI h c b := by
  show (if b = oh_sz h then _ else _) = _
  rw [if_neg hb]
theorem nO_L {h : oh_H} {k c b : Nat} (hb : b ≠ oh_sz h) : oh_FL (oh_nO h k) c b = oh_FL h c b := by
  show (if b = oh_sz h then _ else _) = _
  rw [if_neg hb]
theorem nO_R {h : oh_H} {k c b : Nat} (hb : b ≠ oh_sz h) : oh_FR (oh_nO h k) c b = oh_FR h c b := by
  show (if b = oh_sz h then _ else _) = _
  rw [if_neg hb]
theorem nO_K {h : oh_H} {k b : Nat} (hb : b ≠ oh_sz h) : oh_K (oh_nO h k) b = oh_K h b := by
  show (if b = oh_sz h then _ else _) = _
  rw [if_neg hb]
theorem nO_Ks {h : oh_H} {k : Nat} : oh_K (oh_nO h k) (oh_sz h) = k := by
  show (if oh_sz h = oh_sz h then _ else _) = _
  rw [if_pos rfl]
theorem RR_nO {h : oh_H} {a ng nl nv n : Nat} (R : RR h a ng nl nv n) (k : Nat) : RR (oh_nO h k) a ng nl nv n :=
  RR_off R rfl (fun _ q => nO_K q) (fun _ _ q => nO_F q) (fun _ _ q => nO_L q) (fun _ _ q => nO_R q) rfl rfl rfl rfl
set_option maxHeartbeats 1000000 in
theorem n_vat {h : oh_H} {a ng nl nv n : Nat} (R : RR h a ng nl nv n) (v1 v2 v3 : Int32) (hv : v2 = 0 ∨ v2 = 1) : ∃ H, f_X6_init (oh_nO h 7) (oh_sz h) v1 v2 v3 = some H ∧ RR H a ng nl nv n ∧ oh_AI H = oh_AI h ∧ oh_K H (oh_sz h) = 7 ∧ (∀ q, oh_K h q ≠ 0 → q ≠ oh_sz h ∧ oh_K H q = oh_K h q) ∧ oh_AR H = oh_AR h ∧ oh_FI H 384 (oh_sz h) = v1 ∧ oh_FI H 385 (oh_sz h) = v2 ∧ oh_FI H 386 (oh_sz h) = v3 ∧ oh_FI H 387 (oh_sz h) = 0 ∧ oh_FI H 388 (oh_sz h) = 0 ∧ oh_FI H 389 (oh_sz h) = 0 ∧ oh_FL H 390 (oh_sz h) = 0 ∧ oh_FL H 391 (oh_sz h) = 0 := by
  have hp : oh_K (oh_nO h 7) (oh_sz h) = 7 := nO_Ks
  have hb : ∀ k : Option oh_H, oh_bz v2 k = k := fun k => by simp only [oh_bz, if_pos hv]
  have hZ := R.2.2.1
  have lt : ∀ {q}, oh_K h q ≠ 0 → q ≠ oh_sz h := fun hq e => hq (hZ _ (by omega))
  refine ⟨oh_wI (oh_wI (oh_wI (oh_wL (oh_wL (oh_wI (oh_wI (oh_wI (oh_nO h 7) 387 (oh_sz h) 0) 388 (oh_sz h) 0) 389 (oh_sz h) 0) 390 (oh_sz h) 0) 391 (oh_sz h) 0) 384 (oh_sz h) v1) 385 (oh_sz h) v2) 386 (oh_sz h) v3, ?_, ?_, rfl, hp, fun q hq => ⟨lt hq, nO_K (lt hq)⟩, rfl, ?_⟩
  · simp only [f_X6_init, g_448_0, g_449_0, g_450_0, g_451_0, g_452_0, g_453_0, g_454_0, g_455_0, p_455_0, g_456_0, p_456_0, g_457_0, p_457_0, g_458_0, p_458_0, g_459_0, p_459_0, g_460_0, p_460_0, g_461_0, p_461_0, rc_0, g_0_5, rc_5, g_320_7, p_320_7, g_321_7, p_321_7, g_322_7, p_322_7, g_323_7, p_323_7, g_324_7, p_324_7, rc_7, g_256_8, g_257_8, g_258_8, g_259_8, g_260_8, g_261_8, g_262_8, g_263_8, p_263_8, g_264_8, p_264_8, g_265_8, p_265_8, g_266_8, g_267_8, p_267_8, g_268_8, p_268_8, g_269_8, p_269_8, g_270_8, p_270_8, rc_8, g_192_17, p_192_17, g_193_17, g_194_17, g_195_17, p_195_17, g_196_17, p_196_17, g_197_17, p_197_17, g_198_17, p_198_17, g_199_17, p_199_17, g_200_17, p_200_17, g_201_17, p_201_17, g_202_17, p_202_17, g_203_17, p_203_17, g_204_17, p_204_17, g_205_17, p_205_17, rc_17, g_192_20, p_192_20, g_193_20, g_194_20, g_195_20, p_195_20, g_196_20, p_196_20, g_197_20, p_197_20, g_198_20, p_198_20, g_199_20, p_199_20, g_200_20, p_200_20, g_201_20, p_201_20, g_202_20, p_202_20, g_203_20, p_203_20, g_204_20, p_204_20, g_205_20, p_205_20, rc_20, g_192_23, p_192_23, g_193_23, g_194_23, g_195_23, p_195_23, g_196_23, p_196_23, g_197_23, p_197_23, g_198_23, p_198_23, g_199_23, p_199_23, g_200_23, p_200_23, g_201_23, p_201_23, g_202_23, p_202_23, g_203_23, p_203_23, g_204_23, p_204_23, g_205_23, p_205_23, rc_23, g_512_26, p_512_26, g_513_26, p_513_26, g_514_26, p_514_26, g_515_26, p_515_26, g_516_26, p_516_26, g_517_26, g_518_26, g_519_26, p_519_26, g_520_26, g_521_26, g_522_26, g_523_26, g_524_26, g_525_26, g_526_26, g_527_26, g_528_26, g_529_26, g_530_26, g_531_26, g_532_26, g_533_26, g_534_26, g_535_26, g_536_26, g_537_26, g_538_26, g_539_26, g_540_26, g_541_26, p_541_26, g_542_26, g_543_26, g_544_26, g_545_26, g_546_26, g_547_26, g_548_26, g_549_26, g_550_26, g_551_26, p_551_26, g_552_26, p_552_26, g_553_26, p_553_26, g_554_26, p_554_26, g_555_26, p_555_26, g_556_26, p_556_26, g_557_26, p_557_26, g_558_26, p_558_26, g_559_26, p_559_26, g_560_26, g_561_26, p_561_26, g_562_26, g_563_26, g_564_26, p_564_26, g_565_26, p_565_26, rc_26, ai_1, ai_2, ai_3, ai_4, ai_6, ti_6, ai_9, ti_9, ai_10, ti_10, ai_11, ti_11, ai_12, ti_12, ai_13, ti_13, ai_14, ti_14, ai_15, ti_15, ai_16, ti_16, ai_18, ai_19, ti_19, ai_21, ai_22, ti_22, ai_24, ai_25, ti_25, ai_27, ti_27, ai_28, ti_28, ai_29, ti_29, ai_30, ti_30, ai_31, ti_31, ai_32, ti_32, ai_33, ti_33, ai_34, ti_34, ai_35, ti_35, ai_36, ti_36, ai_37, ti_37, ai_38, ti_38, ai_39, ti_39, ai_40, ti_40, ai_41, ti_41, ai_42, ti_42, ai_43, ti_43, ai_44, ti_44, ai_45, ti_45, ai_46, ti_46, ai_47, ti_47, ai_48, ti_48, ai_49, ti_49, ai_50, ti_50, ai_51, ti_51, ai_52, ti_52, ai_53, ti_53, ai_54, ti_54, ai_55, ti_55, ai_56, ti_56, ai_57, ti_57, ai_58, ti_58, ai_59, ti_59, ai_60, ti_60, ai_61, ti_61, Option.bind_some, oh_lt, e_bz0, e_bz1, e_in, e_isWithin, e_isFarmer, e_isSort, ite01, i10, PS_wI, PS_wL, PS_sI, PS_sL, pw_wI, pw_wL, pw_wR, pw_sI, pw_sL, pw_sR, oh_u2, Nat.add_left_cancel_iff, Nat.reduceEqDiff, Nat.add_eq_left, Nat.left_eq_add, reduceCtorEq, false_and, true_and, and_true, and_false, if_false, if_true, e_gI, e_gR, e_gL, e_pI, e_pL, e_rc, Nat.reduceDiv, Nat.reduceAdd, hp, hb]
  · refine RR_off R rfl (fun _ q => nO_K q) (fun c b q => ?_) (fun c b q => ?_) (fun _ _ q => nO_R (k := 7) q) rfl rfl rfl rfl
    · simp only [pw_wI, pw_wL, u2_b q, nO_F q]
    · simp only [pw_wI, pw_wL, u2_b q, nO_L q]
  · simp only [pw_wI, pw_wL, oh_u2, Nat.add_left_cancel_iff, Nat.reduceEqDiff, Nat.add_eq_left, Nat.left_eq_add, reduceCtorEq, false_and, true_and, and_true, and_false, if_false, if_true, and_self]
set_option maxHeartbeats 1000000 in
theorem n_grove {h : oh_H} {a ng nl nv n : Nat} (R : RR h a ng nl nv n) (v1 v2 v3 : Int32) : ∃ H, f_X1_init (oh_nO h 2) (oh_sz h) v1 v2 v3 = some H ∧ RR H a ng nl nv n ∧ oh_AI H = oh_AI h ∧ oh_K H (oh_sz h) = 2 ∧ (∀ q, oh_K h q ≠ 0 → q ≠ oh_sz h ∧ oh_K H q = oh_K h q) ∧ oh_AR H = oh_AR h ∧ oh_FI H 64 (oh_sz h) = v1 ∧ oh_FI H 65 (oh_sz h) = v2 ∧ oh_FI H 66 (oh_sz h) = v3 := by
  have hp : oh_K (oh_nO h 2) (oh_sz h) = 2 := nO_Ks
  have hZ := R.2.2.1
  have lt : ∀ {q}, oh_K h q ≠ 0 → q ≠ oh_sz h := fun hq e => hq (hZ _ (by omega))
  refine ⟨oh_wI (oh_wI (oh_wI (oh_nO h 2) 64 (oh_sz h) v1) 65 (oh_sz h) v2) 66 (oh_sz h) v3, ?_, ?_, rfl, hp, fun q hq => ⟨lt hq, nO_K (lt hq)⟩, rfl, ?_⟩
  · simp only [f_X1_init, g_448_0, g_449_0, g_450_0, g_451_0, g_452_0, g_453_0, g_454_0, g_455_0, p_455_0, g_456_0, p_456_0, g_457_0, p_457_0, g_458_0, p_458_0, g_459_0, p_459_0, g_460_0, p_460_0, g_461_0, p_461_0, rc_0, g_0_5, rc_5, g_320_7, p_320_7, g_321_7, p_321_7, g_322_7, p_322_7, g_323_7, p_323_7, g_324_7, p_324_7, rc_7, g_256_8, g_257_8, g_258_8, g_259_8, g_260_8, g_261_8, g_262_8, g_263_8, p_263_8, g_264_8, p_264_8, g_265_8, p_265_8, g_266_8, g_267_8, p_267_8, g_268_8, p_268_8, g_269_8, p_269_8, g_270_8, p_270_8, rc_8, g_192_17, p_192_17, g_193_17, g_194_17, g_195_17, p_195_17, g_196_17, p_196_17, g_197_17, p_197_17, g_198_17, p_198_17, g_199_17, p_199_17, g_200_17, p_200_17, g_201_17, p_201_17, g_202_17, p_202_17, g_203_17, p_203_17, g_204_17, p_204_17, g_205_17, p_205_17, rc_17, g_192_20, p_192_20, g_193_20, g_194_20, g_195_20, p_195_20, g_196_20, p_196_20, g_197_20, p_197_20, g_198_20, p_198_20, g_199_20, p_199_20, g_200_20, p_200_20, g_201_20, p_201_20, g_202_20, p_202_20, g_203_20, p_203_20, g_204_20, p_204_20, g_205_20, p_205_20, rc_20, g_192_23, p_192_23, g_193_23, g_194_23, g_195_23, p_195_23, g_196_23, p_196_23, g_197_23, p_197_23, g_198_23, p_198_23, g_199_23, p_199_23, g_200_23, p_200_23, g_201_23, p_201_23, g_202_23, p_202_23, g_203_23, p_203_23, g_204_23, p_204_23, g_205_23, p_205_23, rc_23, g_512_26, p_512_26, g_513_26, p_513_26, g_514_26, p_514_26, g_515_26, p_515_26, g_516_26, p_516_26, g_517_26, g_518_26, g_519_26, p_519_26, g_520_26, g_521_26, g_522_26, g_523_26, g_524_26, g_525_26, g_526_26, g_527_26, g_528_26, g_529_26, g_530_26, g_531_26, g_532_26, g_533_26, g_534_26, g_535_26, g_536_26, g_537_26, g_538_26, g_539_26, g_540_26, g_541_26, p_541_26, g_542_26, g_543_26, g_544_26, g_545_26, g_546_26, g_547_26, g_548_26, g_549_26, g_550_26, g_551_26, p_551_26, g_552_26, p_552_26, g_553_26, p_553_26, g_554_26, p_554_26, g_555_26, p_555_26, g_556_26, p_556_26, g_557_26, p_557_26, g_558_26, p_558_26, g_559_26, p_559_26, g_560_26, g_561_26, p_561_26, g_562_26, g_563_26, g_564_26, p_564_26, g_565_26, p_565_26, rc_26, ai_1, ai_2, ai_3, ai_4, ai_6, ti_6, ai_9, ti_9, ai_10, ti_10, ai_11, ti_11, ai_12, ti_12, ai_13, ti_13, ai_14, ti_14, ai_15, ti_15, ai_16, ti_16, ai_18, ai_19, ti_19, ai_21, ai_22, ti_22, ai_24, ai_25, ti_25, ai_27, ti_27, ai_28, ti_28, ai_29, ti_29, ai_30, ti_30, ai_31, ti_31, ai_32, ti_32, ai_33, ti_33, ai_34, ti_34, ai_35, ti_35, ai_36, ti_36, ai_37, ti_37, ai_38, ti_38, ai_39, ti_39, ai_40, ti_40, ai_41, ti_41, ai_42, ti_42, ai_43, ti_43, ai_44, ti_44, ai_45, ti_45, ai_46, ti_46, ai_47, ti_47, ai_48, ti_48, ai_49, ti_49, ai_50, ti_50, ai_51, ti_51, ai_52, ti_52, ai_53, ti_53, ai_54, ti_54, ai_55, ti_55, ai_56, ti_56, ai_57, ti_57, ai_58, ti_58, ai_59, ti_59, ai_60, ti_60, ai_61, ti_61, Option.bind_some, oh_lt, e_bz0, e_bz1, e_in, e_isWithin, e_isFarmer, e_isSort, ite01, i10, PS_wI, PS_wL, PS_sI, PS_sL, pw_wI, pw_wL, pw_wR, pw_sI, pw_sL, pw_sR, oh_u2, Nat.add_left_cancel_iff, Nat.reduceEqDiff, Nat.add_eq_left, Nat.left_eq_add, reduceCtorEq, false_and, true_and, and_true, and_false, if_false, if_true, e_gI, e_gR, e_gL, e_pI, e_pL, e_rc, Nat.reduceDiv, Nat.reduceAdd, hp]
  · refine RR_off R rfl (fun _ q => nO_K q) (fun c b q => ?_) (fun _ _ q => nO_L (k := 2) q) (fun _ _ q => nO_R (k := 2) q) rfl rfl rfl rfl
    simp only [pw_wI, pw_wL, u2_b q, nO_F q]
  · simp only [pw_wI, pw_wL, oh_u2, Nat.add_left_cancel_iff, Nat.reduceEqDiff, Nat.add_eq_left, Nat.left_eq_add, reduceCtorEq, false_and, true_and, and_true, and_false, if_false, if_true, and_self]
set_option maxHeartbeats 1000000 in
theorem n_lot {h : oh_H} {a ng nl nv n : Nat} (R : RR h a ng nl nv n) (v1 v2 v4 : Int32) (v3 : Option Nat) : ∃ H, f_X2_init (oh_nO h 3) (oh_sz h) v1 v2 v3 v4 = some H ∧ RR H a ng nl nv n ∧ (∀ c b, b ≠ oh_sz h → oh_FI H c b = oh_FI h c b) ∧ oh_AI H = oh_AI h ∧ oh_K H (oh_sz h) = 3 ∧ (∀ q, oh_K h q ≠ 0 → q ≠ oh_sz h ∧ oh_K H q = oh_K h q) ∧ oh_AR H = oh_AR h ∧ oh_FI H 128 (oh_sz h) = v1 ∧ oh_FI H 130 (oh_sz h) = v4 ∧ oh_FI H 131 (oh_sz h) = v2 ∧ oh_FI H 132 (oh_sz h) = 0 ∧ oh_FI H 133 (oh_sz h) = 0 ∧ oh_FI H 134 (oh_sz h) = 0 ∧ oh_FI H 135 (oh_sz h) = 0 ∧ oh_FI H 136 (oh_sz h) = 0 ∧ oh_FI H 137 (oh_sz h) = 0 ∧ oh_FI H 138 (oh_sz h) = -1 ∧ oh_FI H 139 (oh_sz h) = 0 ∧ oh_FR H 129 (oh_sz h) = v3 := by
  have hp : oh_K (oh_nO h 3) (oh_sz h) = 3 := nO_Ks
  have hZ := R.2.2.1
  have lt : ∀ {q}, oh_K h q ≠ 0 → q ≠ oh_sz h := fun hq e => hq (hZ _ (by omega))
  refine ⟨oh_wI (oh_wR (oh_wI (oh_wI (oh_wI (oh_wI (oh_wI (oh_wI (oh_wI (oh_wI (oh_wI (oh_wI (oh_nO h 3) 132 (oh_sz h) 0) 133 (oh_sz h) 0) 134 (oh_sz h) 0) 135 (oh_sz h) 0) 136 (oh_sz h) 0) 137 (oh_sz h) 0) 138 (oh_sz h) (-1)) 139 (oh_sz h) 0) 128 (oh_sz h) v1) 131 (oh_sz h) v2) 129 (oh_sz h) v3) 130 (oh_sz h) v4, ?_, ?_, fun c b q => ?_, ?_, ?_, ?_, ?_, ?_⟩
  · simp only [f_X2_init, g_448_0, g_449_0, g_450_0, g_451_0, g_452_0, g_453_0, g_454_0, g_455_0, p_455_0, g_456_0, p_456_0, g_457_0, p_457_0, g_458_0, p_458_0, g_459_0, p_459_0, g_460_0, p_460_0, g_461_0, p_461_0, rc_0, g_0_5, rc_5, g_320_7, p_320_7, g_321_7, p_321_7, g_322_7, p_322_7, g_323_7, p_323_7, g_324_7, p_324_7, rc_7, g_256_8, g_257_8, g_258_8, g_259_8, g_260_8, g_261_8, g_262_8, g_263_8, p_263_8, g_264_8, p_264_8, g_265_8, p_265_8, g_266_8, g_267_8, p_267_8, g_268_8, p_268_8, g_269_8, p_269_8, g_270_8, p_270_8, rc_8, g_192_17, p_192_17, g_193_17, g_194_17, g_195_17, p_195_17, g_196_17, p_196_17, g_197_17, p_197_17, g_198_17, p_198_17, g_199_17, p_199_17, g_200_17, p_200_17, g_201_17, p_201_17, g_202_17, p_202_17, g_203_17, p_203_17, g_204_17, p_204_17, g_205_17, p_205_17, rc_17, g_192_20, p_192_20, g_193_20, g_194_20, g_195_20, p_195_20, g_196_20, p_196_20, g_197_20, p_197_20, g_198_20, p_198_20, g_199_20, p_199_20, g_200_20, p_200_20, g_201_20, p_201_20, g_202_20, p_202_20, g_203_20, p_203_20, g_204_20, p_204_20, g_205_20, p_205_20, rc_20, g_192_23, p_192_23, g_193_23, g_194_23, g_195_23, p_195_23, g_196_23, p_196_23, g_197_23, p_197_23, g_198_23, p_198_23, g_199_23, p_199_23, g_200_23, p_200_23, g_201_23, p_201_23, g_202_23, p_202_23, g_203_23, p_203_23, g_204_23, p_204_23, g_205_23, p_205_23, rc_23, g_512_26, p_512_26, g_513_26, p_513_26, g_514_26, p_514_26, g_515_26, p_515_26, g_516_26, p_516_26, g_517_26, g_518_26, g_519_26, p_519_26, g_520_26, g_521_26, g_522_26, g_523_26, g_524_26, g_525_26, g_526_26, g_527_26, g_528_26, g_529_26, g_530_26, g_531_26, g_532_26, g_533_26, g_534_26, g_535_26, g_536_26, g_537_26, g_538_26, g_539_26, g_540_26, g_541_26, p_541_26, g_542_26, g_543_26, g_544_26, g_545_26, g_546_26, g_547_26, g_548_26, g_549_26, g_550_26, g_551_26, p_551_26, g_552_26, p_552_26, g_553_26, p_553_26, g_554_26, p_554_26, g_555_26, p_555_26, g_556_26, p_556_26, g_557_26, p_557_26, g_558_26, p_558_26, g_559_26, p_559_26, g_560_26, g_561_26, p_561_26, g_562_26, g_563_26, g_564_26, p_564_26, g_565_26, p_565_26, rc_26, ai_1, ai_2, ai_3, ai_4, ai_6, ti_6, ai_9, ti_9, ai_10, ti_10, ai_11, ti_11, ai_12, ti_12, ai_13, ti_13, ai_14, ti_14, ai_15, ti_15, ai_16, ti_16, ai_18, ai_19, ti_19, ai_21, ai_22, ti_22, ai_24, ai_25, ti_25, ai_27, ti_27, ai_28, ti_28, ai_29, ti_29, ai_30, ti_30, ai_31, ti_31, ai_32, ti_32, ai_33, ti_33, ai_34, ti_34, ai_35, ti_35, ai_36, ti_36, ai_37, ti_37, ai_38, ti_38, ai_39, ti_39, ai_40, ti_40, ai_41, ti_41, ai_42, ti_42, ai_43, ti_43, ai_44, ti_44, ai_45, ti_45, ai_46, ti_46, ai_47, ti_47, ai_48, ti_48, ai_49, ti_49, ai_50, ti_50, ai_51, ti_51, ai_52, ti_52, ai_53, ti_53, ai_54, ti_54, ai_55, ti_55, ai_56, ti_56, ai_57, ti_57, ai_58, ti_58, ai_59, ti_59, ai_60, ti_60, ai_61, ti_61, Option.bind_some, oh_lt, e_bz0, e_bz1, e_in, e_isWithin, e_isFarmer, e_isSort, ite01, i10, PS_wI, PS_wL, PS_sI, PS_sL, pw_wI, pw_wL, pw_wR, pw_sI, pw_sL, pw_sR, oh_u2, Nat.add_left_cancel_iff, Nat.reduceEqDiff, Nat.add_eq_left, Nat.left_eq_add, reduceCtorEq, false_and, true_and, and_true, and_false, if_false, if_true, e_gI, e_gR, e_gL, e_pI, e_pL, e_rc, Nat.reduceDiv, Nat.reduceAdd, e_pR, hp]
  · refine RR_off R ?_ (fun _ q => ?_) (fun c b q => ?_) (fun c b q => ?_) (fun c b q => ?_) ?_ ?_ ?_ ?_
    · simp only [pw_wI, pw_wR]
      rfl
    · simp only [pw_wI, pw_wR, nO_K q]
    · simp only [pw_wI, pw_wR, u2_b q, nO_F q]
    · simp only [pw_wI, pw_wR, nO_L q]
    · simp only [pw_wI, pw_wR, u2_b q, nO_R q]
    · simp only [pw_wI, pw_wR]
      rfl
    · simp only [pw_wI, pw_wR]
      rfl
    · simp only [pw_wI, pw_wR]
      rfl
    · simp only [pw_wI, pw_wR]
      rfl
  · simp only [pw_wI, pw_wR, u2_b q, nO_F q]
  · simp only [pw_wI, pw_wR]
    rfl
  · simp only [pw_wI, pw_wR, hp]
  · intro q hq
    simp only [pw_wI, pw_wR]
    exact ⟨lt hq, nO_K (lt hq)⟩
  · simp only [pw_wI, pw_wR]
    rfl
  · simp only [pw_wI, pw_wR, oh_u2, Nat.add_left_cancel_iff, Nat.reduceEqDiff, Nat.add_eq_left, Nat.left_eq_add, reduceCtorEq, false_and, true_and, and_true, and_false, if_false, if_true, and_self]
theorem PS_sR {h : oh_H} {a j i : Nat} {x : Option Nat} (hj : j ≠ 3) : PS (oh_sR h (a + j) i x) a ↔ PS h a := by
  unfold PS
  simp only [pw_sR, pS_A, (show ∀ b', oh_u2 (oh_AR h) (a + j) i x (a + 3) b' = oh_AR h (a + 3) b' from fun b' => oh_u2_ne1 (fun z => hj (Nat.add_left_cancel z).symm))]
theorem la_u {AR : Nat → Nat → Option Nat} {a k i j : Nat} {x : Option Nat} (q : k ≠ 2) : la (oh_u2 AR (a + k) i x) a j = la AR a j := by
  unfold la
  rw [oh_u2_ne1 (fun z => q (Nat.add_left_cancel z).symm)]
theorem ga_u {AR : Nat → Nat → Option Nat} {a k i j : Nat} {x : Option Nat} (q : k ≠ 1) : ga (oh_u2 AR (a + k) i x) a j = ga AR a j := by
  unfold ga
  rw [oh_u2_ne1 (fun z => q (Nat.add_left_cancel z).symm)]
theorem ve_u {AR : Nat → Nat → Option Nat} {a k i j : Nat} {x : Option Nat} (q : k ≠ 4) : ve (oh_u2 AR (a + k) i x) a j = ve AR a j := by
  unfold ve
  rw [oh_u2_ne1 (fun z => q (Nat.add_left_cancel z).symm)]
theorem la_n {AR : Nat → Nat → Option Nat} {a i p j : Nat} : la (oh_u2 AR (a + 2) i (some p)) a j = if j = i then p else la AR a j := by
  unfold la
  simp only [oh_u2, true_and]
  split <;> rfl
theorem ga_n {AR : Nat → Nat → Option Nat} {a i p j : Nat} : ga (oh_u2 AR (a + 1) i (some p)) a j = if j = i then p else ga AR a j := by
  unfold ga
  simp only [oh_u2, true_and]
  split <;> rfl
theorem ve_n {AR : Nat → Nat → Option Nat} {a i p j : Nat} : ve (oh_u2 AR (a + 4) i (some p)) a j = if j = i then p else ve AR a j := by
  unfold ve
  simp only [oh_u2, true_and]
  split <;> rfl
theorem qB_u {AI : Nat → Nat → Int32} {AR : Nat → Nat → Option Nat} {a nl nl' k i : Nat} {x : Option Nat} (hB : qB AI AR a nl) (hk : k < 5) (hn : nl ≤ nl') (hl : ∀ j, j < nl → la (oh_u2 AR (a + k) i x) a j = la AR a j) : qB AI (oh_u2 AR (a + k) i x) a nl' := by
  intro m hm
  obtain ⟨s, h1, h2, h3⟩ := hB m hm
  refine ⟨s, h1, h2, fun j hj => ?_⟩
  obtain ⟨t, h4, h5, h6⟩ := h3 j hj
  refine ⟨t, by omega, h5, ?_⟩
  rw [hl t h4, oh_u2_ne1 (by unfold ml; omega)]
  exact h6
