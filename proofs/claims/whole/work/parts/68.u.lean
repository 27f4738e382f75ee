/-! a lot taken from a bin -/
def oh_mR (h : oh_H) (F : Nat → Nat → Option Nat) : oh_H := (oh_sz h, oh_K h, oh_FI h, oh_FL h, oh_FR h, oh_N h, oh_AI h, oh_AL h, F)
theorem pw_mR (h : oh_H) (F : Nat → Nat → Option Nat) : oh_sz (oh_mR h F) = oh_sz h ∧ oh_K (oh_mR h F) = oh_K h ∧ oh_FI (oh_mR h F) = oh_FI h ∧ oh_FL (oh_mR h F) = oh_FL h ∧ oh_FR (oh_mR h F) = oh_FR h ∧ oh_N (oh_mR h F) = oh_N h ∧ oh_AI (oh_mR h F) = oh_AI h ∧ oh_AL (oh_mR h F) = oh_AL h ∧ oh_AR (oh_mR h F) = F := ⟨rfl, rfl, rfl, rfl, rfl, rfl, rfl, rfl, rfl⟩
/-- a row whose place p is taken out, as far as k -/
def rem {V : Type} (w : Nat → V) (p k : Nat) : Nat → V := fun i => if p ≤ i ∧ i + 1 < k then w (i + 1) else w i
def row2 {V : Type} (F : Nat → Nat → V) (b : Nat) (w : Nat → V) : Nat → Nat → V := fun c i => if c = b then w i else F c i
theorem row2_id {V : Type} (F : Nat → Nat → V) (b : Nat) : row2 F b (F b) = F := by
  funext c i
  simp only [row2]
  by_cases p : c = b
  · rw [if_pos p, p]
  · rw [if_neg p]
theorem row2_b {V : Type} (F : Nat → Nat → V) (b : Nat) (w : Nat → V) (i : Nat) : row2 F b w b i = w i := by
  simp only [row2, if_true]
theorem row2_n {V : Type} {F : Nat → Nat → V} {b c : Nat} {w : Nat → V} (q : c ≠ b) : row2 F b w c = F c := by
  funext i
  simp only [row2, q, if_false]
theorem rem_lo {V : Type} {w : Nat → V} {p k : Nat} (h : k ≤ p + 1) : rem w p k = w := by
  funext i
  simp only [rem]
  rw [if_neg (by omega)]
theorem rem_k {V : Type} {w : Nat → V} {p k : Nat} : rem w p k k = w k := by
  simp only [rem]
  rw [if_neg (by omega)]
theorem row2_keep {V : Type} {F : Nat → Nat → V} {b i : Nat} {w : Nat → V} : oh_u2 (row2 F b w) b i (w i) = row2 F b w := by
  funext c j
  simp only [oh_u2, row2]
  by_cases p : c = b
  · by_cases q : j = i
    · simp only [p, q, and_self, if_true]
    · simp only [p, q, and_false, if_false]
  · simp only [p, false_and, if_false]
theorem row2_rem {V : Type} {F : Nat → Nat → V} {b p k : Nat} {w : Nat → V} (h : p < k) : oh_u2 (row2 F b (rem w p k)) b (k - 1) (w k) = row2 F b (rem w p (k + 1)) := by
  funext c j
  simp only [oh_u2, row2, rem]
  by_cases q : c = b
  · simp only [q, true_and, if_true]
    by_cases z : j = k - 1
    · rw [if_pos z, if_pos (by omega), z, show k - 1 + 1 = k by omega]
    · rw [if_neg z]
      by_cases y : p ≤ j ∧ j + 1 < k
      · rw [if_pos y, if_pos (by omega)]
      · rw [if_neg y, if_neg (by omega)]
  · simp only [q, false_and, if_false]
theorem PS_mR {h : oh_H} {a m : Nat} {w : Nat → Option Nat} : PS (oh_mR h (row2 (oh_AR h) (ml a m + 1) w)) a ↔ PS h a := by
  have e : row2 (oh_AR h) (ml a m + 1) w (a + 3) = oh_AR h (a + 3) := row2_n (by unfold ml; omega)
  unfold PS
  simp only [pw_mR, pS_A, e]
/-- how many stay of the first k, the one at p taken out -/
def stay (p k : Nat) : Nat := if k ≤ p then k else k - 1
set_option maxHeartbeats 4000000 in
theorem c_remove {h : oh_H} {a ng nl nv n j m s p : Nat} (R : RR h a ng nl nv n) (hj : j < nl) (hm : m < 3) (h43 : oh_AI h (a + 43) m = nI s) (hs : s ≤ 12) (hp : p ≤ s) (p1 : ∀ k, k < s → (bl (oh_AI h) a m k = j ↔ k = p)) : f_X3_remove h (ml a m) (some (la (oh_AR h) a j)) = some (oh_wI (oh_wI (oh_wI (oh_mR h (row2 (oh_AR h) (ml a m + 1) (rem (oh_AR h (ml a m + 1)) p s))) 195 (ml a m) (nI (stay p s))) 132 (la (oh_AR h) a j) 2) 138 (la (oh_AR h) a j) (-1)) := by
  obtain ⟨P, hD, hZ, hG, hL, hM, hB, hV, hDe, hT, hP, hW, vn, vt, vg, vl, vf, vb, vm, vv, vd, vx⟩ := id R
  obtain ⟨s', h1, h2, h3, h4⟩ := bin_of hB vn.2.1 hm
  have es : s' = s := by
    have e := h2.symm.trans h43
    rw [iN_eq (by omega) (by omega)] at e
    exact e
  subst es
  obtain ⟨Dj, hpj⟩ := hD.2.1 j hj
  have Km := K_ml P hm
  have M := (hM m hm).2.1
  simp only [f_X3_remove, f_X3_remove_4, oh_lt]
  have e : oh_mR h (row2 (oh_AR h) (ml a m + 1) (rem (oh_AR h (ml a m + 1)) p 0)) = h := by
    rw [rem_lo (by omega), row2_id]
    rfl
  have e0 : nI (stay p 0) = 0 := by
    rw [show stay p 0 = 0 from if_pos (Nat.zero_le _)]
    rfl
  suffices key : oh_loop (fun s_1 : oh_H × Int32 × Int32 => b_X3_remove_4 s_1.1 (ml a m) (some (la (oh_AR h) a j)) s_1.2.1 s_1.2.2) 1000000 (oh_mR h (row2 (oh_AR h) (ml a m + 1) (rem (oh_AR h (ml a m + 1)) p 0)), nI (stay p 0), nI 0) = some (oh_wI (oh_wI (oh_wI (oh_mR h (row2 (oh_AR h) (ml a m + 1) (rem (oh_AR h (ml a m + 1)) p s'))) 195 (ml a m) (nI (stay p s'))) 132 (la (oh_AR h) a j) 2) 138 (la (oh_AR h) a j) (-1)) by
    rw [e, e0] at key
    exact key
  refine loop_run _ (fun k => (oh_mR h (row2 (oh_AR h) (ml a m + 1) (rem (oh_AR h (ml a m + 1)) p k)), nI (stay p k), nI k)) s' _ (fun k hk => ?_) ?_ 1000000 (by omega)
  · obtain ⟨h5, h6, h7⟩ := h4 k hk
    have hle : (nI s' ≤ nI k) = False := by rw [iN_le (by omega) (by omega)]; exact eq_false (by omega)
    have D := hD.2.1 _ h5
    have PR := (PS_mR (h := h) (a := a) (m := m) (w := rem (oh_AR h (ml a m + 1)) p k)).mpr P
    have hr := e_binR PR hm (by omega : k < 12)
    rw [(pw_mR h _).2.2.2.2.2.2.2.2, row2_b, rem_k, h7] at hr
    by_cases q : k = p
    · have e : bl (oh_AI h) a m k = j := (p1 k hk).mpr q
      have e2 : nI (stay p (k + 1)) = nI (stay p k) := by
        unfold stay
        rw [if_neg (by omega), if_pos (by omega)]
        rfl
      have e3 : rem (oh_AR h (ml a m + 1)) p (k + 1) = rem (oh_AR h (ml a m + 1)) p k := by rw [rem_lo (by omega), rem_lo (by omega)]
      rw [e] at hr
      simp only [b_X3_remove_4, f_X3_remove_37, g_448_0, g_449_0, g_450_0, g_451_0, g_452_0, g_453_0, g_454_0, g_455_0, p_455_0, g_456_0, p_456_0, g_457_0, p_457_0, g_458_0, p_458_0, g_459_0, p_459_0, g_460_0, p_460_0, g_461_0, p_461_0, rc_0, g_0_5, rc_5, g_320_7, p_320_7, g_321_7, p_321_7, g_322_7, p_322_7, g_323_7, p_323_7, g_324_7, p_324_7, rc_7, g_256_8, g_257_8, g_258_8, g_259_8, g_260_8, g_261_8, g_262_8, g_263_8, p_263_8, g_264_8, p_264_8, g_265_8, p_265_8, g_266_8, g_267_8, p_267_8, g_268_8, p_268_8, g_269_8, p_269_8, g_270_8, p_270_8, rc_8, g_192_17, p_192_17, g_193_17, g_194_17, g_195_17, p_195_17, g_196_17, p_196_17, g_197_17, p_197_17, g_198_17, p_198_17, g_199_17, p_199_17, g_200_17, p_200_17, g_201_17, p_201_17, g_202_17, p_202_17, g_203_17, p_203_17, g_204_17, p_204_17, g_205_17, p_205_17, rc_17, g_192_20, p_192_20, g_193_20, g_194_20, g_195_20, p_195_20, g_196_20, p_196_20, g_197_20, p_197_20, g_198_20, p_198_20, g_199_20, p_199_20, g_200_20, p_200_20, g_201_20, p_201_20, g_202_20, p_202_20, g_203_20, p_203_20, g_204_20, p_204_20, g_205_20, p_205_20, rc_20, g_192_23, p_192_23, g_193_23, g_194_23, g_195_23, p_195_23, g_196_23, p_196_23, g_197_23, p_197_23, g_198_23, p_198_23, g_199_23, p_199_23, g_200_23, p_200_23, g_201_23, p_201_23, g_202_23, p_202_23, g_203_23, p_203_23, g_204_23, p_204_23, g_205_23, p_205_23, rc_23, g_512_26, p_512_26, g_513_26, p_513_26, g_514_26, p_514_26, g_515_26, p_515_26, g_516_26, p_516_26, g_517_26, g_518_26, g_519_26, p_519_26, g_520_26, g_521_26, g_522_26, g_523_26, g_524_26, g_525_26, g_526_26, g_527_26, g_528_26, g_529_26, g_530_26, g_531_26, g_532_26, g_533_26, g_534_26, g_535_26, g_536_26, g_537_26, g_538_26, g_539_26, g_540_26, g_541_26, p_541_26, g_542_26, g_543_26, g_544_26, g_545_26, g_546_26, g_547_26, g_548_26, g_549_26, g_550_26, g_551_26, p_551_26, g_552_26, p_552_26, g_553_26, p_553_26, g_554_26, p_554_26, g_555_26, p_555_26, g_556_26, p_556_26, g_557_26, p_557_26, g_558_26, p_558_26, g_559_26, p_559_26, g_560_26, g_561_26, p_561_26, g_562_26, g_563_26, g_564_26, p_564_26, g_565_26, p_565_26, rc_26, ai_1, ai_2, ai_3, ai_4, ai_6, ti_6, ai_9, ti_9, ai_10, ti_10, ai_11, ti_11, ai_12, ti_12, ai_13, ti_13, ai_14, ti_14, ai_15, ti_15, ai_16, ti_16, ai_18, ai_19, ti_19, ai_21, ai_22, ti_22, ai_24, ai_25, ti_25, ai_27, ti_27, ai_28, ti_28, ai_29, ti_29, ai_30, ti_30, ai_31, ti_31, ai_32, ti_32, ai_33, ti_33, ai_34, ti_34, ai_35, ti_35, ai_36, ti_36, ai_37, ti_37, ai_38, ti_38, ai_39, ti_39, ai_40, ti_40, ai_41, ti_41, ai_42, ti_42, ai_43, ti_43, ai_44, ti_44, ai_45, ti_45, ai_46, ti_46, ai_47, ti_47, ai_48, ti_48, ai_49, ti_49, ai_50, ti_50, ai_51, ti_51, ai_52, ti_52, ai_53, ti_53, ai_54, ti_54, ai_55, ti_55, ai_56, ti_56, ai_57, ti_57, ai_58, ti_58, ai_59, ti_59, ai_60, ti_60, ai_61, ti_61, Option.bind_some, oh_lt, e_bz0, e_bz1, e_in, e_isWithin, e_isFarmer, e_isSort, ite01, i10, PS_wI, PS_wL, PS_sI, PS_sL, pw_wI, pw_wL, pw_wR, pw_sI, pw_sL, pw_sR, oh_u2, Nat.add_left_cancel_iff, Nat.reduceEqDiff, Nat.add_eq_left, Nat.left_eq_add, reduceCtorEq, false_and, true_and, and_true, and_false, if_false, if_true, e_gI, e_gR, e_gL, e_pI, e_pL, e_rc, Nat.reduceDiv, Nat.reduceAdd, pw_mR, Km, M, h43, hle, hr, e2, e3, iN_succ]
    · have e : ¬ la (oh_AR h) a (bl (oh_AI h) a m k) = la (oh_AR h) a j := fun z => q ((p1 k hk).mp (hD.2.2.2.1 _ _ h5 hj z))
      have hst : stay p k < 12 := by unfold stay; split <;> omega
      have ht : oh_tR (oh_mR h (row2 (oh_AR h) (ml a m + 1) (rem (oh_AR h (ml a m + 1)) p k))) (some (ml a m + 1)) 24 2 (nI (stay p k)) (some (la (oh_AR h) a (bl (oh_AI h) a m k))) = some (oh_mR h (row2 (oh_AR h) (ml a m + 1) (rem (oh_AR h (ml a m + 1)) p (k + 1)))) := by
        rw [e_tR (h := oh_mR h (row2 (oh_AR h) (ml a m + 1) (rem (oh_AR h (ml a m + 1)) p k))) (n := 12) Km.2.2.2.1 Km.2.2.2.2.1 hst (by decide) (fun c z => by
          rw [← Option.some.inj z]
          exact D.2)]
        show some (oh_mR h (oh_u2 (row2 (oh_AR h) (ml a m + 1) (rem (oh_AR h (ml a m + 1)) p k)) (ml a m + 1) (stay p k) (some (la (oh_AR h) a (bl (oh_AI h) a m k))))) = _
        rw [← h7]
        by_cases q2 : k < p
        · have e5 : stay p k = k := if_pos (by omega)
          rw [e5, rem_lo (by omega), rem_lo (by omega), row2_keep]
        · have e5 : stay p k = k - 1 := if_neg (by omega)
          rw [e5, row2_rem (by omega)]
      have e6 : nI (stay p k) + 1 = nI (stay p (k + 1)) := by
        rw [iN_succ]
        unfold stay
        by_cases q2 : k < p
        · rw [if_pos (by omega), if_pos (by omega)]
        · rw [if_neg (by omega), if_neg (by omega)]
          congr 1
          omega
      simp only [b_X3_remove_4, f_X3_remove_37, g_448_0, g_449_0, g_450_0, g_451_0, g_452_0, g_453_0, g_454_0, g_455_0, p_455_0, g_456_0, p_456_0, g_457_0, p_457_0, g_458_0, p_458_0, g_459_0, p_459_0, g_460_0, p_460_0, g_461_0, p_461_0, rc_0, g_0_5, rc_5, g_320_7, p_320_7, g_321_7, p_321_7, g_322_7, p_322_7, g_323_7, p_323_7, g_324_7, p_324_7, rc_7, g_256_8, g_257_8, g_258_8, g_259_8, g_260_8, g_261_8, g_262_8, g_263_8, p_263_8, g_264_8, p_264_8, g_265_8, p_265_8, g_266_8, g_267_8, p_267_8, g_268_8, p_268_8, g_269_8, p_269_8, g_270_8, p_270_8, rc_8, g_192_17, p_192_17, g_193_17, g_194_17, g_195_17, p_195_17, g_196_17, p_196_17, g_197_17, p_197_17, g_198_17, p_198_17, g_199_17, p_199_17, g_200_17, p_200_17, g_201_17, p_201_17, g_202_17, p_202_17, g_203_17, p_203_17, g_204_17, p_204_17, g_205_17, p_205_17, rc_17, g_192_20, p_192_20, g_193_20, g_194_20, g_195_20, p_195_20, g_196_20, p_196_20, g_197_20, p_197_20, g_198_20, p_198_20, g_199_20, p_199_20, g_200_20, p_200_20, g_201_20, p_201_20, g_202_20, p_202_20, g_203_20, p_203_20, g_204_20, p_204_20, g_205_20, p_205_20, rc_20, g_192_23, p_192_23, g_193_23, g_194_23, g_195_23, p_195_23, g_196_23, p_196_23, g_197_23, p_197_23, g_198_23, p_198_23, g_199_23, p_199_23, g_200_23, p_200_23, g_201_23, p_201_23, g_202_23, p_202_23, g_203_23, p_203_23, g_204_23, p_204_23, g_205_23, p_205_23, rc_23, g_512_26, p_512_26, g_513_26, p_513_26, g_514_26, p_514_26, g_515_26, p_515_26, g_516_26, p_516_26, g_517_26, g_518_26, g_519_26, p_519_26, g_520_26, g_521_26, g_522_26, g_523_26, g_524_26, g_525_26, g_526_26, g_527_26, g_528_26, g_529_26, g_530_26, g_531_26, g_532_26, g_533_26, g_534_26, g_535_26, g_536_26, g_537_26, g_538_26, g_539_26, g_540_26, g_541_26, p_541_26, g_542_26, g_543_26, g_544_26, g_545_26, g_546_26, g_547_26, g_548_26, g_549_26, g_550_26, g_551_26, p_551_26, g_552_26, p_552_26, g_553_26, p_553_26, g_554_26, p_554_26, g_555_26, p_555_26, g_556_26, p_556_26, g_557_26, p_557_26, g_558_26, p_558_26, g_559_26, p_559_26, g_560_26, g_561_26, p_561_26, g_562_26, g_563_26, g_564_26, p_564_26, g_565_26, p_565_26, rc_26, ai_1, ai_2, ai_3, ai_4, ai_6, ti_6, ai_9, ti_9, ai_10, ti_10, ai_11, ti_11, ai_12, ti_12, ai_13, ti_13, ai_14, ti_14, ai_15, ti_15, ai_16, ti_16, ai_18, ai_19, ti_19, ai_21, ai_22, ti_22, ai_24, ai_25, ti_25, ai_27, ti_27, ai_28, ti_28, ai_29, ti_29, ai_30, ti_30, ai_31, ti_31, ai_32, ti_32, ai_33, ti_33, ai_34, ti_34, ai_35, ti_35, ai_36, ti_36, ai_37, ti_37, ai_38, ti_38, ai_39, ti_39, ai_40, ti_40, ai_41, ti_41, ai_42, ti_42, ai_43, ti_43, ai_44, ti_44, ai_45, ti_45, ai_46, ti_46, ai_47, ti_47, ai_48, ti_48, ai_49, ti_49, ai_50, ti_50, ai_51, ti_51, ai_52, ti_52, ai_53, ti_53, ai_54, ti_54, ai_55, ti_55, ai_56, ti_56, ai_57, ti_57, ai_58, ti_58, ai_59, ti_59, ai_60, ti_60, ai_61, ti_61, Option.bind_some, oh_lt, e_bz0, e_bz1, e_in, e_isWithin, e_isFarmer, e_isSort, ite01, i10, PS_wI, PS_wL, PS_sI, PS_sL, pw_wI, pw_wL, pw_wR, pw_sI, pw_sL, pw_sR, oh_u2, Nat.add_left_cancel_iff, Nat.reduceEqDiff, Nat.add_eq_left, Nat.left_eq_add, reduceCtorEq, false_and, true_and, and_true, and_false, if_false, if_true, e_gI, e_gR, e_gL, e_pI, e_pL, e_rc, Nat.reduceDiv, Nat.reduceAdd, pw_mR, Km, M, h43, hle, hr, Option.some.injEq, e, ht, e6, iN_succ]
  · simp only [b_X3_remove_4, g_448_0, g_449_0, g_450_0, g_451_0, g_452_0, g_453_0, g_454_0, g_455_0, p_455_0, g_456_0, p_456_0, g_457_0, p_457_0, g_458_0, p_458_0, g_459_0, p_459_0, g_460_0, p_460_0, g_461_0, p_461_0, rc_0, g_0_5, rc_5, g_320_7, p_320_7, g_321_7, p_321_7, g_322_7, p_322_7, g_323_7, p_323_7, g_324_7, p_324_7, rc_7, g_256_8, g_257_8, g_258_8, g_259_8, g_260_8, g_261_8, g_262_8, g_263_8, p_263_8, g_264_8, p_264_8, g_265_8, p_265_8, g_266_8, g_267_8, p_267_8, g_268_8, p_268_8, g_269_8, p_269_8, g_270_8, p_270_8, rc_8, g_192_17, p_192_17, g_193_17, g_194_17, g_195_17, p_195_17, g_196_17, p_196_17, g_197_17, p_197_17, g_198_17, p_198_17, g_199_17, p_199_17, g_200_17, p_200_17, g_201_17, p_201_17, g_202_17, p_202_17, g_203_17, p_203_17, g_204_17, p_204_17, g_205_17, p_205_17, rc_17, g_192_20, p_192_20, g_193_20, g_194_20, g_195_20, p_195_20, g_196_20, p_196_20, g_197_20, p_197_20, g_198_20, p_198_20, g_199_20, p_199_20, g_200_20, p_200_20, g_201_20, p_201_20, g_202_20, p_202_20, g_203_20, p_203_20, g_204_20, p_204_20, g_205_20, p_205_20, rc_20, g_192_23, p_192_23, g_193_23, g_194_23, g_195_23, p_195_23, g_196_23, p_196_23, g_197_23, p_197_23, g_198_23, p_198_23, g_199_23, p_199_23, g_200_23, p_200_23, g_201_23, p_201_23, g_202_23, p_202_23, g_203_23, p_203_23, g_204_23, p_204_23, g_205_23, p_205_23, rc_23, g_512_26, p_512_26, g_513_26, p_513_26, g_514_26, p_514_26, g_515_26, p_515_26, g_516_26, p_516_26, g_517_26, g_518_26, g_519_26, p_519_26, g_520_26, g_521_26, g_522_26, g_523_26, g_524_26, g_525_26, g_526_26, g_527_26, g_528_26, g_529_26, g_530_26, g_531_26, g_532_26, g_533_26, g_534_26, g_535_26, g_536_26, g_537_26, g_538_26, g_539_26, g_540_26, g_541_26, p_541_26, g_542_26, g_543_26, g_544_26, g_545_26, g_546_26, g_547_26, g_548_26, g_549_26, g_550_26, g_551_26, p_551_26, g_552_26, p_552_26, g_553_26, p_553_26, g_554_26, p_554_26, g_555_26, p_555_26, g_556_26, p_556_26, g_557_26, p_557_26, g_558_26, p_558_26, g_559_26, p_559_26, g_560_26, g_561_26, p_561_26, g_562_26, g_563_26, g_564_26, p_564_26, g_565_26, p_565_26, rc_26, ai_1, ai_2, ai_3, ai_4, ai_6, ti_6, ai_9, ti_9, ai_10, ti_10, ai_11, ti_11, ai_12, ti_12, ai_13, ti_13, ai_14, ti_14, ai_15, ti_15, ai_16, ti_16, ai_18, ai_19, ti_19, ai_21, ai_22, ti_22, ai_24, ai_25, ti_25, ai_27, ti_27, ai_28, ti_28, ai_29, ti_29, ai_30, ti_30, ai_31, ti_31, ai_32, ti_32, ai_33, ti_33, ai_34, ti_34, ai_35, ti_35, ai_36, ti_36, ai_37, ti_37, ai_38, ti_38, ai_39, ti_39, ai_40, ti_40, ai_41, ti_41, ai_42, ti_42, ai_43, ti_43, ai_44, ti_44, ai_45, ti_45, ai_46, ti_46, ai_47, ti_47, ai_48, ti_48, ai_49, ti_49, ai_50, ti_50, ai_51, ti_51, ai_52, ti_52, ai_53, ti_53, ai_54, ti_54, ai_55, ti_55, ai_56, ti_56, ai_57, ti_57, ai_58, ti_58, ai_59, ti_59, ai_60, ti_60, ai_61, ti_61, Option.bind_some, oh_lt, e_bz0, e_bz1, e_in, e_isWithin, e_isFarmer, e_isSort, ite01, i10, PS_wI, PS_wL, PS_sI, PS_sL, pw_wI, pw_wL, pw_wR, pw_sI, pw_sL, pw_sR, oh_u2, Nat.add_left_cancel_iff, Nat.reduceEqDiff, Nat.add_eq_left, Nat.left_eq_add, reduceCtorEq, false_and, true_and, and_true, and_false, if_false, if_true, e_gI, e_gR, e_gL, e_pI, e_pL, e_rc, Nat.reduceDiv, Nat.reduceAdd, pw_mR, Km, M, h43, Int32.le_refl, hpj, Option.map_some]
