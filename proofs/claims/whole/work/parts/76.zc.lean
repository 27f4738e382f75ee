theorem oh_lt_eq {α β : Type} (x : α) (k : α → β) : oh_lt x k = k x := eq_of_heq (HEq.refl (oh_lt x k))
theorem stp_both {F0 F : Nat → Nat → Int32} {c c' b : Nat} {y : Int32} {p : Nat → Nat} {x : Nat → Int32} {s : Nat} (q : c' ≠ c) (H : stp F0 F c p x s) : stp (oh_u2 F0 c' b y) (oh_u2 F c' b y) c p x s := by
  refine ⟨fun d e z => ?_, fun k hk => ?_, fun e z => ?_⟩
  · simp only [oh_u2, H.1 d e z]
  · rw [oh_u2_ne1 (Ne.symm q)]
    exact H.2.1 k hk
  · rw [oh_u2_ne1 (Ne.symm q), oh_u2_ne1 (Ne.symm q)]
    exact H.2.2 e z
theorem stp_keep {F0 F : Nat → Nat → Int32} {c : Nat} {p : Nat → Nat} {x : Nat → Int32} {s : Nat} (hy : F c (p s) = x s) (H : stp F0 F c p x s) : stp F0 F c p x (s + 1) := by
  refine ⟨H.1, fun k hk => ?_, fun b q => H.2.2 b (fun k hk => q k (by omega))⟩
  by_cases z : k = s
  · subst z
    exact hy
  · exact H.2.1 k (by omega)
theorem cmp_le0I {x : Int64} : (lg_cmp x 0 ≤ 0) = (x.toInt ≤ 0) := cmp_le0
theorem c_div35 {h : oh_H} {a m s : Nat} {r : Int32} {p : Nat → Nat} {F2 : Nat → Nat → Int32} {y : oh_H} (P : PS h a) (hm : m < 3) (hs : s ≤ 12) (hbin : ∀ k, k < s → oh_AR h (ml a m + 1) k = some (p k) ∧ oh_K h (p k) = 3) (Lp : ∀ k, k < s → oh_FI h 128 (p k) = nI (bl (oh_AI h) a m k) ∧ oh_FI h 133 (p k) = oh_AI h (a + 33) (bl (oh_AI h) a m k) ∧ oh_FI h 134 (p k) = oh_AI h (a + 34) (bl (oh_AI h) a m k)) (F2n : ∀ c b, c ≠ 205 → F2 c b = oh_FI h c b) (M : oh_FI h 195 (ml a m) = oh_AI h (a + 43) m) (h2 : oh_AI h (a + 43) m = nI s) (e68 : f_X3_divide_68 (oh_mF h F2) (ml a m) r r (sumW (oh_AI h) a m s) 0 = some y) : f_X3_divide_35 (oh_mF h F2) (ml a m) r r 0 0 = some y := by
  have Km := K_ml P hm
  refine loop_run _ (fun k => (oh_mF h F2, sumW (oh_AI h) a m k, nI k)) s _ (fun k hk => ?_) ?_ 1000000 (by omega)
  · have hle : (nI s ≤ nI k) = False := by rw [iN_le (by omega) (by omega)]; exact eq_false (by omega)
    have er : oh_aR (oh_mF h F2) (some (ml a m + 1)) 24 (nI k) = some (some (p k)) := by
      have e := e_aR (h := oh_mF h F2) Km.2.2.2.1 Km.2.2.2.2.1 (by omega : k < 12) (by decide)
      rw [pw_AR_mF, (hbin k hk).1] at e
      exact e
    have D := (hbin k hk).2
    have L := Lp k hk
    simp only [b_X3_divide_35, f_X2_oil, g_448_0, g_449_0, g_450_0, g_451_0, g_452_0, g_453_0, g_454_0, g_455_0, p_455_0, g_456_0, p_456_0, g_457_0, p_457_0, g_458_0, p_458_0, g_459_0, p_459_0, g_460_0, p_460_0, g_461_0, p_461_0, rc_0, g_0_5, rc_5, g_320_7, p_320_7, g_321_7, p_321_7, g_322_7, p_322_7, g_323_7, p_323_7, g_324_7, p_324_7, rc_7, g_256_8, g_257_8, g_258_8, g_259_8, g_260_8, g_261_8, g_262_8, g_263_8, p_263_8, g_264_8, p_264_8, g_265_8, p_265_8, g_266_8, g_267_8, p_267_8, g_268_8, p_268_8, g_269_8, p_269_8, g_270_8, p_270_8, rc_8, g_192_17, p_192_17, g_193_17, g_194_17, g_195_17, p_195_17, g_196_17, p_196_17, g_197_17, p_197_17, g_198_17, p_198_17, g_199_17, p_199_17, g_200_17, p_200_17, g_201_17, p_201_17, g_202_17, p_202_17, g_203_17, p_203_17, g_204_17, p_204_17, g_205_17, p_205_17, rc_17, g_192_20, p_192_20, g_193_20, g_194_20, g_195_20, p_195_20, g_196_20, p_196_20, g_197_20, p_197_20, g_198_20, p_198_20, g_199_20, p_199_20, g_200_20, p_200_20, g_201_20, p_201_20, g_202_20, p_202_20, g_203_20, p_203_20, g_204_20, p_204_20, g_205_20, p_205_20, rc_20, g_192_23, p_192_23, g_193_23, g_194_23, g_195_23, p_195_23, g_196_23, p_196_23, g_197_23, p_197_23, g_198_23, p_198_23, g_199_23, p_199_23, g_200_23, p_200_23, g_201_23, p_201_23, g_202_23, p_202_23, g_203_23, p_203_23, g_204_23, p_204_23, g_205_23, p_205_23, rc_23, g_512_26, p_512_26, g_513_26, p_513_26, g_514_26, p_514_26, g_515_26, p_515_26, g_516_26, p_516_26, g_517_26, g_518_26, g_519_26, p_519_26, g_520_26, g_521_26, g_522_26, g_523_26, g_524_26, g_525_26, g_526_26, g_527_26, g_528_26, g_529_26, g_530_26, g_531_26, g_532_26, g_533_26, g_534_26, g_535_26, g_536_26, g_537_26, g_538_26, g_539_26, g_540_26, g_541_26, p_541_26, g_542_26, g_543_26, g_544_26, g_545_26, g_546_26, g_547_26, g_548_26, g_549_26, g_550_26, g_551_26, p_551_26, g_552_26, p_552_26, g_553_26, p_553_26, g_554_26, p_554_26, g_555_26, p_555_26, g_556_26, p_556_26, g_557_26, p_557_26, g_558_26, p_558_26, g_559_26, p_559_26, g_560_26, g_561_26, p_561_26, g_562_26, g_563_26, g_564_26, p_564_26, g_565_26, p_565_26, rc_26, ai_1, ai_2, ai_3, ai_4, ai_6, ti_6, ai_9, ti_9, ai_10, ti_10, ai_11, ti_11, ai_12, ti_12, ai_13, ti_13, ai_14, ti_14, ai_15, ti_15, ai_16, ti_16, ai_18, ai_19, ti_19, ai_21, ai_22, ti_22, ai_24, ai_25, ti_25, ai_27, ti_27, ai_28, ti_28, ai_29, ti_29, ai_30, ti_30, ai_31, ti_31, ai_32, ti_32, ai_33, ti_33, ai_34, ti_34, ai_35, ti_35, ai_36, ti_36, ai_37, ti_37, ai_38, ti_38, ai_39, ti_39, ai_40, ti_40, ai_41, ti_41, ai_42, ti_42, ai_43, ti_43, ai_44, ti_44, ai_45, ti_45, ai_46, ti_46, ai_47, ti_47, ai_48, ti_48, ai_49, ti_49, ai_50, ti_50, ai_51, ti_51, ai_52, ti_52, ai_53, ti_53, ai_54, ti_54, ai_55, ti_55, ai_56, ti_56, ai_57, ti_57, ai_58, ti_58, ai_59, ti_59, ai_60, ti_60, ai_61, ti_61, Option.bind_some, oh_lt_eq, e_bz0, e_bz1, e_in, e_isWithin, e_isFarmer, e_isSort, ite01, i10, PS_wI, PS_wL, PS_sI, PS_sL, pw_wI, pw_wL, pw_wR, pw_sI, pw_sL, pw_sR, oh_u2, Nat.add_left_cancel_iff, Nat.reduceEqDiff, Nat.add_eq_left, Nat.left_eq_add, reduceCtorEq, false_and, true_and, and_true, and_false, if_false, if_true, e_gI, e_gR, e_gL, e_pI, e_pL, e_rc, Nat.reduceDiv, Nat.reduceAdd, pw_mF, Km, F2n 195 _ (by decide), F2n 133 _ (by decide), F2n 134 _ (by decide), M, h2, hle, er, D, L, iN_succ, sumW]
  · simp only [b_X3_divide_35, g_448_0, g_449_0, g_450_0, g_451_0, g_452_0, g_453_0, g_454_0, g_455_0, p_455_0, g_456_0, p_456_0, g_457_0, p_457_0, g_458_0, p_458_0, g_459_0, p_459_0, g_460_0, p_460_0, g_461_0, p_461_0, rc_0, g_0_5, rc_5, g_320_7, p_320_7, g_321_7, p_321_7, g_322_7, p_322_7, g_323_7, p_323_7, g_324_7, p_324_7, rc_7, g_256_8, g_257_8, g_258_8, g_259_8, g_260_8, g_261_8, g_262_8, g_263_8, p_263_8, g_264_8, p_264_8, g_265_8, p_265_8, g_266_8, g_267_8, p_267_8, g_268_8, p_268_8, g_269_8, p_269_8, g_270_8, p_270_8, rc_8, g_192_17, p_192_17, g_193_17, g_194_17, g_195_17, p_195_17, g_196_17, p_196_17, g_197_17, p_197_17, g_198_17, p_198_17, g_199_17, p_199_17, g_200_17, p_200_17, g_201_17, p_201_17, g_202_17, p_202_17, g_203_17, p_203_17, g_204_17, p_204_17, g_205_17, p_205_17, rc_17, g_192_20, p_192_20, g_193_20, g_194_20, g_195_20, p_195_20, g_196_20, p_196_20, g_197_20, p_197_20, g_198_20, p_198_20, g_199_20, p_199_20, g_200_20, p_200_20, g_201_20, p_201_20, g_202_20, p_202_20, g_203_20, p_203_20, g_204_20, p_204_20, g_205_20, p_205_20, rc_20, g_192_23, p_192_23, g_193_23, g_194_23, g_195_23, p_195_23, g_196_23, p_196_23, g_197_23, p_197_23, g_198_23, p_198_23, g_199_23, p_199_23, g_200_23, p_200_23, g_201_23, p_201_23, g_202_23, p_202_23, g_203_23, p_203_23, g_204_23, p_204_23, g_205_23, p_205_23, rc_23, g_512_26, p_512_26, g_513_26, p_513_26, g_514_26, p_514_26, g_515_26, p_515_26, g_516_26, p_516_26, g_517_26, g_518_26, g_519_26, p_519_26, g_520_26, g_521_26, g_522_26, g_523_26, g_524_26, g_525_26, g_526_26, g_527_26, g_528_26, g_529_26, g_530_26, g_531_26, g_532_26, g_533_26, g_534_26, g_535_26, g_536_26, g_537_26, g_538_26, g_539_26, g_540_26, g_541_26, p_541_26, g_542_26, g_543_26, g_544_26, g_545_26, g_546_26, g_547_26, g_548_26, g_549_26, g_550_26, g_551_26, p_551_26, g_552_26, p_552_26, g_553_26, p_553_26, g_554_26, p_554_26, g_555_26, p_555_26, g_556_26, p_556_26, g_557_26, p_557_26, g_558_26, p_558_26, g_559_26, p_559_26, g_560_26, g_561_26, p_561_26, g_562_26, g_563_26, g_564_26, p_564_26, g_565_26, p_565_26, rc_26, ai_1, ai_2, ai_3, ai_4, ai_6, ti_6, ai_9, ti_9, ai_10, ti_10, ai_11, ti_11, ai_12, ti_12, ai_13, ti_13, ai_14, ti_14, ai_15, ti_15, ai_16, ti_16, ai_18, ai_19, ti_19, ai_21, ai_22, ti_22, ai_24, ai_25, ti_25, ai_27, ti_27, ai_28, ti_28, ai_29, ti_29, ai_30, ti_30, ai_31, ti_31, ai_32, ti_32, ai_33, ti_33, ai_34, ti_34, ai_35, ti_35, ai_36, ti_36, ai_37, ti_37, ai_38, ti_38, ai_39, ti_39, ai_40, ti_40, ai_41, ti_41, ai_42, ti_42, ai_43, ti_43, ai_44, ti_44, ai_45, ti_45, ai_46, ti_46, ai_47, ti_47, ai_48, ti_48, ai_49, ti_49, ai_50, ti_50, ai_51, ti_51, ai_52, ti_52, ai_53, ti_53, ai_54, ti_54, ai_55, ti_55, ai_56, ti_56, ai_57, ti_57, ai_58, ti_58, ai_59, ti_59, ai_60, ti_60, ai_61, ti_61, Option.bind_some, oh_lt_eq, e_bz0, e_bz1, e_in, e_isWithin, e_isFarmer, e_isSort, ite01, i10, PS_wI, PS_wL, PS_sI, PS_sL, pw_wI, pw_wL, pw_wR, pw_sI, pw_sL, pw_sR, oh_u2, Nat.add_left_cancel_iff, Nat.reduceEqDiff, Nat.add_eq_left, Nat.left_eq_add, reduceCtorEq, false_and, true_and, and_true, and_false, if_false, if_true, e_gI, e_gR, e_gL, e_pI, e_pL, e_rc, Nat.reduceDiv, Nat.reduceAdd, pw_mF, Km, F2n 195 _ (by decide), M, h2, Int32.le_refl, e68, Option.map_some]
set_option maxHeartbeats 8000000 in
theorem c_divide {h : oh_H} {a ng nl nv n m : Nat} {part r : Int32} (R : RR h a ng nl nv n) (hm : m < 3) (hb0 : 0 < bn (oh_AI h) a m) (hg : 0 ≤ (oh_AI h (a + 48) m).toInt ∧ (oh_AI h (a + 48) m).toInt ≤ 1200000) (hp : 0 ≤ part.toInt ∧ part.toInt ≤ 50) (hr : r = oh_AI h (a + 48) m - oh_AI h (a + 48) m * part / 100) : ∃ F L, f_X3_divide h (ml a m) part = some (oh_mB (oh_mF h F) L) ∧ (∀ c b, ¬ c ∈ [132, 136, 205] → F c b = oh_FI h c b) ∧ (∀ b, F 205 b = if b = ml a m then oh_AI h (a + 48) m * part / 100 else oh_FI h 205 b) ∧ (∀ k, k < bn (oh_AI h) a m → F 132 (la (oh_AR h) a (bl (oh_AI h) a m k)) = 5 ∧ F 136 (la (oh_AR h) a (bl (oh_AI h) a m k)) = shF (shB (oh_AI h) a m r (sumW (oh_AI h) a m (bn (oh_AI h) a m))) (shC (oh_AI h) a m r (sumW (oh_AI h) a m (bn (oh_AI h) a m))) (fun k => bl (oh_AI h) a m k) (bn (oh_AI h) a m) (shO (oh_AI h) a m r (sumW (oh_AI h) a m (bn (oh_AI h) a m)) (bn (oh_AI h) a m)).toInt.toNat k) ∧ (∀ b, (∀ k, k < bn (oh_AI h) a m → la (oh_AR h) a (bl (oh_AI h) a m k) ≠ b) → F 132 b = oh_FI h 132 b ∧ F 136 b = oh_FI h 136 b) ∧ ∀ c' b, c' ≠ ml a m + 2 → L c' b = oh_AL h c' b := by
  have R0 := R
  obtain ⟨kq, kp0, kp1⟩ := kept_eq hg hp
  have hr2 : 0 ≤ r.toInt ∧ r.toInt ≤ 1200000 := by
    have e : r.toInt = (oh_AI h (a + 48) m).toInt - (oh_AI h (a + 48) m * part / 100).toInt := by
      rw [hr, i_sub (by omega) (by omega)]
    omega
  have SW := sumW_of R0 hm _ (Nat.le_refl _)
  have SH := fun k hk => sh_of (r := r) (k := k) R0 hm hr2 hk
  obtain ⟨P, hD, hZ, hG, hL, hM, hB, hV, hDe, hT, hP, hW, vn, vt, vg, vl, vf, vb, vm, vv, vd, vx⟩ := id R
  have hnl := vn.2.1
  obtain ⟨s, h1, h2, h3, h4⟩ := bin_of hB hnl hm
  have Km := K_ml P hm
  have M := hM m hm
  have B := vb m hm
  rw [h3] at hb0 SW SH B ⊢
  obtain ⟨p, ep⟩ : ∃ p : Nat → Nat, p = fun k => la (oh_AR h) a (bl (oh_AI h) a m k) := ⟨_, rfl⟩
  obtain ⟨al, eal⟩ : ∃ al, al = sumW (oh_AI h) a m s := ⟨_, rfl⟩
  rw [← eal] at SW SH ⊢
  have pk : ∀ k, la (oh_AR h) a (bl (oh_AI h) a m k) = p k := fun k => by rw [ep]
  simp only [pk]
  have pinj : ∀ k k', k < s → k' < s → p k = p k' → k = k' := fun k k' hk hk' e => by
    rw [ep] at e
    exact B.2.1 k k' hk hk' (hD.2.2.2.1 _ _ (h4 k hk).1 (h4 k' hk').1 e)
  have hbin : ∀ k, k < s → oh_AR h (ml a m + 1) k = some (p k) ∧ oh_K h (p k) = 3 := fun k hk => by
    rw [ep]
    exact ⟨(h4 k hk).2.2, (hD.2.1 _ (h4 k hk).1).2⟩
  have Lp : ∀ k, k < s → oh_FI h 128 (p k) = nI (bl (oh_AI h) a m k) ∧ oh_FI h 133 (p k) = oh_AI h (a + 33) (bl (oh_AI h) a m k) ∧ oh_FI h 134 (p k) = oh_AI h (a + 34) (bl (oh_AI h) a m k) := fun k hk => by
    have L := hL _ (h4 k hk).1
    rw [ep]
    exact ⟨L.1, L.2.2.2.2.1, L.2.2.2.2.2.1⟩
  have eR : ∀ F' L' i, i < s → oh_aR (oh_mB (oh_mF h F') L') (some (ml a m + 1)) 24 (nI i) = some (some (p i)) := fun F' L' i hi => by
    have e := e_aR (h := oh_mB (oh_mF h F') L') Km.2.2.2.1 Km.2.2.2.2.1 (by omega : i < 12) (by decide)
    rw [(pw_mB _ _).2.2.2.2.2.2.2.2, pw_AR_mF, (hbin i hi).1] at e
    exact e
  have eT : ∀ F' L' i x, i < 12 → oh_tL (oh_mB (oh_mF h F') L') (some (ml a m + 2)) (nI i) x = some (oh_mB (oh_mF h F') (oh_u2 L' (ml a m + 2) i x)) := fun F' L' i x hi => e_tL (h := oh_mB (oh_mF h F') L') Km.2.2.2.2.2.1 Km.2.2.2.2.2.2.1 hi (by decide)
  obtain ⟨F2, eF2⟩ : ∃ F2, F2 = oh_u2 (oh_FI h) 205 (ml a m) (oh_AI h (a + 48) m * part / 100) := ⟨_, rfl⟩
  have F2n : ∀ c b, c ≠ 205 → F2 c b = oh_FI h c b := fun c b z => by rw [eF2, oh_u2_ne1 z]
  have hal0 : (al = 0) = False := eq_false (fun z => by
    rw [l_eq] at z
    have l0 : (0 : Int64).toInt = 0 := rfl
    omega)
  have hal1 : (lg_cmp al 0 ≤ 0) = False := by
    rw [cmp_le0I]
    exact eq_false (by omega)
  have key := loop_inv (fun s_1 : oh_H × Int32 × Int32 => b_X3_divide_68 s_1.1 (ml a m) r s_1.2.1 al s_1.2.2)
    (fun k σ => ∃ F1 F L, stp F2 F1 136 p (shB (oh_AI h) a m r al) k ∧ stp F1 F 132 p (fun _ => 5) k ∧ (∀ j, j < k → L (ml a m + 2) j = shC (oh_AI h) a m r al j) ∧ (∀ c' b, c' ≠ ml a m + 2 → L c' b = oh_AL h c' b) ∧ σ = (oh_mB (oh_mF h F) L, shO (oh_AI h) a m r al k, nI k))
    (fun x => ∃ F1 F3 F L, stp F2 F1 136 p (shB (oh_AI h) a m r al) s ∧ stp F1 F3 132 p (fun _ => 5) s ∧ stp F3 F 136 p (shF (shB (oh_AI h) a m r al) (shC (oh_AI h) a m r al) (fun k => bl (oh_AI h) a m k) s (shO (oh_AI h) a m r al s).toInt.toNat) s ∧ (∀ c' b, c' ≠ ml a m + 2 → L c' b = oh_AL h c' b) ∧ x = oh_mB (oh_mF h F) L)
    s ?_ ?_ (n := 1000000) (σ := (oh_mB (oh_mF h F2) (oh_AL h), r, 0)) (by omega) ⟨F2, F2, oh_AL h, stp_0, stp_0, fun j hj => absurd hj (Nat.not_lt_zero _), fun _ _ _ => rfl, rfl⟩
  · obtain ⟨x, k1, F1, F3, F, L, j1, j2, j3, j4, j5⟩ := key
    subst j5
    have e0 : oh_mB (oh_mF h F2) (oh_AL h) = oh_mF h F2 := rfl
    rw [e0] at k1
    have e68 : f_X3_divide_68 (oh_mF h F2) (ml a m) r r al 0 = some (oh_mB (oh_mF h F) L) := by
      unfold f_X3_divide_68
      exact k1
    have e35 : f_X3_divide_35 (oh_mF h F2) (ml a m) r r 0 0 = some (oh_mB (oh_mF h F) L) := by
      rw [eal] at e68
      exact c_div35 P hm h1 hbin Lp (fun c b z => F2n c b z) M.2.1 h2 e68
    have n205 : F2 205 (ml a m) = oh_AI h (a + 48) m * part / 100 := by
      rw [eF2]
      simp only [oh_u2, Nat.add_left_cancel_iff, Nat.reduceEqDiff, Nat.add_eq_left, Nat.left_eq_add, reduceCtorEq, false_and, true_and, and_true, and_false, if_false, if_true]
    have hne : ((100 : Int64) = 0) = False := l_100
    have ew : oh_wI h 205 (ml a m) (oh_AI h (a + 48) m * part / 100) = oh_mF h F2 := by
      rw [eF2]
      rfl
    refine ⟨F, L, ?_, fun c b z => ?_, fun b => ?_, fun k hk => ⟨?_, ?_⟩, fun b hb => ⟨?_, ?_⟩, j4⟩
    · simp only [f_X3_divide, g_448_0, g_449_0, g_450_0, g_451_0, g_452_0, g_453_0, g_454_0, g_455_0, p_455_0, g_456_0, p_456_0, g_457_0, p_457_0, g_458_0, p_458_0, g_459_0, p_459_0, g_460_0, p_460_0, g_461_0, p_461_0, rc_0, g_0_5, rc_5, g_320_7, p_320_7, g_321_7, p_321_7, g_322_7, p_322_7, g_323_7, p_323_7, g_324_7, p_324_7, rc_7, g_256_8, g_257_8, g_258_8, g_259_8, g_260_8, g_261_8, g_262_8, g_263_8, p_263_8, g_264_8, p_264_8, g_265_8, p_265_8, g_266_8, g_267_8, p_267_8, g_268_8, p_268_8, g_269_8, p_269_8, g_270_8, p_270_8, rc_8, g_192_17, p_192_17, g_193_17, g_194_17, g_195_17, p_195_17, g_196_17, p_196_17, g_197_17, p_197_17, g_198_17, p_198_17, g_199_17, p_199_17, g_200_17, p_200_17, g_201_17, p_201_17, g_202_17, p_202_17, g_203_17, p_203_17, g_204_17, p_204_17, g_205_17, p_205_17, rc_17, g_192_20, p_192_20, g_193_20, g_194_20, g_195_20, p_195_20, g_196_20, p_196_20, g_197_20, p_197_20, g_198_20, p_198_20, g_199_20, p_199_20, g_200_20, p_200_20, g_201_20, p_201_20, g_202_20, p_202_20, g_203_20, p_203_20, g_204_20, p_204_20, g_205_20, p_205_20, rc_20, g_192_23, p_192_23, g_193_23, g_194_23, g_195_23, p_195_23, g_196_23, p_196_23, g_197_23, p_197_23, g_198_23, p_198_23, g_199_23, p_199_23, g_200_23, p_200_23, g_201_23, p_201_23, g_202_23, p_202_23, g_203_23, p_203_23, g_204_23, p_204_23, g_205_23, p_205_23, rc_23, g_512_26, p_512_26, g_513_26, p_513_26, g_514_26, p_514_26, g_515_26, p_515_26, g_516_26, p_516_26, g_517_26, g_518_26, g_519_26, p_519_26, g_520_26, g_521_26, g_522_26, g_523_26, g_524_26, g_525_26, g_526_26, g_527_26, g_528_26, g_529_26, g_530_26, g_531_26, g_532_26, g_533_26, g_534_26, g_535_26, g_536_26, g_537_26, g_538_26, g_539_26, g_540_26, g_541_26, p_541_26, g_542_26, g_543_26, g_544_26, g_545_26, g_546_26, g_547_26, g_548_26, g_549_26, g_550_26, g_551_26, p_551_26, g_552_26, p_552_26, g_553_26, p_553_26, g_554_26, p_554_26, g_555_26, p_555_26, g_556_26, p_556_26, g_557_26, p_557_26, g_558_26, p_558_26, g_559_26, p_559_26, g_560_26, g_561_26, p_561_26, g_562_26, g_563_26, g_564_26, p_564_26, g_565_26, p_565_26, rc_26, ai_1, ai_2, ai_3, ai_4, ai_6, ti_6, ai_9, ti_9, ai_10, ti_10, ai_11, ti_11, ai_12, ti_12, ai_13, ti_13, ai_14, ti_14, ai_15, ti_15, ai_16, ti_16, ai_18, ai_19, ti_19, ai_21, ai_22, ti_22, ai_24, ai_25, ti_25, ai_27, ti_27, ai_28, ti_28, ai_29, ti_29, ai_30, ti_30, ai_31, ti_31, ai_32, ti_32, ai_33, ti_33, ai_34, ti_34, ai_35, ti_35, ai_36, ti_36, ai_37, ti_37, ai_38, ti_38, ai_39, ti_39, ai_40, ti_40, ai_41, ti_41, ai_42, ti_42, ai_43, ti_43, ai_44, ti_44, ai_45, ti_45, ai_46, ti_46, ai_47, ti_47, ai_48, ti_48, ai_49, ti_49, ai_50, ti_50, ai_51, ti_51, ai_52, ti_52, ai_53, ti_53, ai_54, ti_54, ai_55, ti_55, ai_56, ti_56, ai_57, ti_57, ai_58, ti_58, ai_59, ti_59, ai_60, ti_60, ai_61, ti_61, Option.bind_some, oh_lt_eq, e_bz0, e_bz1, e_in, e_isWithin, e_isFarmer, e_isSort, ite01, i10, PS_wI, PS_wL, PS_sI, PS_sL, pw_wI, pw_wL, pw_wR, pw_sI, pw_sL, pw_sR, oh_u2, Nat.add_left_cancel_iff, Nat.reduceEqDiff, Nat.add_eq_left, Nat.left_eq_add, reduceCtorEq, false_and, true_and, and_true, and_false, if_false, if_true, e_gI, e_gR, e_gL, e_pI, e_pL, e_rc, Nat.reduceDiv, Nat.reduceAdd, Km, M, hne, kq, ew, pw_mF, F2n 204 _ (by decide), n205, ← hr, e35]
    · simp only [List.mem_cons, List.not_mem_nil, or_false, not_or] at z
      rw [j3.1 c b z.2.1, j2.1 c b z.1, j1.1 c b z.2.1, F2n c b z.2.2]
    · rw [j3.1 205 b (by decide), j2.1 205 b (by decide), j1.1 205 b (by decide), eF2]
      by_cases z : b = ml a m
      · simp only [oh_u2, Nat.add_left_cancel_iff, Nat.reduceEqDiff, Nat.add_eq_left, Nat.left_eq_add, reduceCtorEq, false_and, true_and, and_true, and_false, if_false, if_true, z]
      · simp only [oh_u2, Nat.add_left_cancel_iff, Nat.reduceEqDiff, Nat.add_eq_left, Nat.left_eq_add, reduceCtorEq, false_and, true_and, and_true, and_false, if_false, if_true, z]
    · rw [j3.1 132 _ (by decide)]
      exact j2.2.1 k hk
    · exact j3.2.1 k hk
    · rw [j3.1 132 b (by decide), j2.2.2 b hb, j1.1 132 b (by decide), F2n 132 b (by decide)]
    · rw [j3.2.2 b hb, j2.1 136 b (by decide), j1.2.2 b hb, F2n 136 b (by decide)]
  · intro k σ hk hI
    obtain ⟨F1, F, L, j1, j2, j3, j4, j5⟩ := hI
    subst j5
    have hle : (nI s ≤ nI k) = False := by rw [iN_le (by omega) (by omega)]; exact eq_false (by omega)
    have hk12 : k < 12 := by omega
    have D := (hbin k hk).2
    have Lk := Lp k hk
    have Fn : ∀ c b, c ≠ 132 → c ≠ 136 → c ≠ 205 → F c b = oh_FI h c b := fun c b z1 z2 z3 => by rw [j2.1 c b z1, j1.1 c b z2, F2n c b z3]
    have pne : ∀ k', k' < k → p k' ≠ p k := fun k' hk' z => by
      have := pinj k' k (by omega) hk z
      omega
    have ek := fun F' L' => eR F' L' k hk
    have et := fun F' L' x => eT F' L' k x hk12
    have ew : Int32.toInt64 (oh_AI h (a + 33) (bl (oh_AI h) a m k)) * Int32.toInt64 (oh_AI h (a + 34) (bl (oh_AI h) a m k)) = wk (oh_AI h) a m k := rfl
    have eB : Int64.toInt32 (Int32.toInt64 r * wk (oh_AI h) a m k / al) = shB (oh_AI h) a m r al k := rfl
    have eC : Int32.toInt64 r * wk (oh_AI h) a m k - Int32.toInt64 r * wk (oh_AI h) a m k / al * al = shC (oh_AI h) a m r al k := rfl
    refine ⟨(oh_mB (oh_mF h (oh_u2 (oh_u2 F 136 (p k) (shB (oh_AI h) a m r al k)) 132 (p k) 5)) (oh_u2 L (ml a m + 2) k (shC (oh_AI h) a m r al k)), shO (oh_AI h) a m r al (k + 1), nI (k + 1)), ?_, oh_u2 F1 136 (p k) (shB (oh_AI h) a m r al k), _, _, stp_succ rfl rfl pne j1, stp_succ rfl rfl pne (stp_both (by decide) j2), fun j hj => ?_, fun c' b z => ?_, rfl⟩
    · simp only [b_X3_divide_68, f_X2_oil, g_448_0, g_449_0, g_450_0, g_451_0, g_452_0, g_453_0, g_454_0, g_455_0, p_455_0, g_456_0, p_456_0, g_457_0, p_457_0, g_458_0, p_458_0, g_459_0, p_459_0, g_460_0, p_460_0, g_461_0, p_461_0, rc_0, g_0_5, rc_5, g_320_7, p_320_7, g_321_7, p_321_7, g_322_7, p_322_7, g_323_7, p_323_7, g_324_7, p_324_7, rc_7, g_256_8, g_257_8, g_258_8, g_259_8, g_260_8, g_261_8, g_262_8, g_263_8, p_263_8, g_264_8, p_264_8, g_265_8, p_265_8, g_266_8, g_267_8, p_267_8, g_268_8, p_268_8, g_269_8, p_269_8, g_270_8, p_270_8, rc_8, g_192_17, p_192_17, g_193_17, g_194_17, g_195_17, p_195_17, g_196_17, p_196_17, g_197_17, p_197_17, g_198_17, p_198_17, g_199_17, p_199_17, g_200_17, p_200_17, g_201_17, p_201_17, g_202_17, p_202_17, g_203_17, p_203_17, g_204_17, p_204_17, g_205_17, p_205_17, rc_17, g_192_20, p_192_20, g_193_20, g_194_20, g_195_20, p_195_20, g_196_20, p_196_20, g_197_20, p_197_20, g_198_20, p_198_20, g_199_20, p_199_20, g_200_20, p_200_20, g_201_20, p_201_20, g_202_20, p_202_20, g_203_20, p_203_20, g_204_20, p_204_20, g_205_20, p_205_20, rc_20, g_192_23, p_192_23, g_193_23, g_194_23, g_195_23, p_195_23, g_196_23, p_196_23, g_197_23, p_197_23, g_198_23, p_198_23, g_199_23, p_199_23, g_200_23, p_200_23, g_201_23, p_201_23, g_202_23, p_202_23, g_203_23, p_203_23, g_204_23, p_204_23, g_205_23, p_205_23, rc_23, g_512_26, p_512_26, g_513_26, p_513_26, g_514_26, p_514_26, g_515_26, p_515_26, g_516_26, p_516_26, g_517_26, g_518_26, g_519_26, p_519_26, g_520_26, g_521_26, g_522_26, g_523_26, g_524_26, g_525_26, g_526_26, g_527_26, g_528_26, g_529_26, g_530_26, g_531_26, g_532_26, g_533_26, g_534_26, g_535_26, g_536_26, g_537_26, g_538_26, g_539_26, g_540_26, g_541_26, p_541_26, g_542_26, g_543_26, g_544_26, g_545_26, g_546_26, g_547_26, g_548_26, g_549_26, g_550_26, g_551_26, p_551_26, g_552_26, p_552_26, g_553_26, p_553_26, g_554_26, p_554_26, g_555_26, p_555_26, g_556_26, p_556_26, g_557_26, p_557_26, g_558_26, p_558_26, g_559_26, p_559_26, g_560_26, g_561_26, p_561_26, g_562_26, g_563_26, g_564_26, p_564_26, g_565_26, p_565_26, rc_26, ai_1, ai_2, ai_3, ai_4, ai_6, ti_6, ai_9, ti_9, ai_10, ti_10, ai_11, ti_11, ai_12, ti_12, ai_13, ti_13, ai_14, ti_14, ai_15, ti_15, ai_16, ti_16, ai_18, ai_19, ti_19, ai_21, ai_22, ti_22, ai_24, ai_25, ti_25, ai_27, ti_27, ai_28, ti_28, ai_29, ti_29, ai_30, ti_30, ai_31, ti_31, ai_32, ti_32, ai_33, ti_33, ai_34, ti_34, ai_35, ti_35, ai_36, ti_36, ai_37, ti_37, ai_38, ti_38, ai_39, ti_39, ai_40, ti_40, ai_41, ti_41, ai_42, ti_42, ai_43, ti_43, ai_44, ti_44, ai_45, ti_45, ai_46, ti_46, ai_47, ti_47, ai_48, ti_48, ai_49, ti_49, ai_50, ti_50, ai_51, ti_51, ai_52, ti_52, ai_53, ti_53, ai_54, ti_54, ai_55, ti_55, ai_56, ti_56, ai_57, ti_57, ai_58, ti_58, ai_59, ti_59, ai_60, ti_60, ai_61, ti_61, Option.bind_some, oh_lt_eq, e_bz0, e_bz1, e_in, e_isWithin, e_isFarmer, e_isSort, ite01, i10, PS_wI, PS_wL, PS_sI, PS_sL, pw_wI, pw_wL, pw_wR, pw_sI, pw_sL, pw_sR, oh_u2, Nat.add_left_cancel_iff, Nat.reduceEqDiff, Nat.add_eq_left, Nat.left_eq_add, reduceCtorEq, false_and, true_and, and_true, and_false, if_false, if_true, e_gI, e_gR, e_gL, e_pI, e_pL, e_rc, Nat.reduceDiv, Nat.reduceAdd, pw_mB, pw_mF, mB_w, Km, Fn 195 _ (by decide) (by decide) (by decide), Fn 133 _ (by decide) (by decide) (by decide), Fn 134 _ (by decide) (by decide) (by decide), M, h2, hle, ek, et, D, Lk, hal0, hal1, ew, eB, eC, iN_succ, shO]
    · by_cases z : j = k
      · subst z
        simp only [oh_u2, and_self, if_true]
      · simp only [oh_u2, z, and_false, if_false]
        exact j3 j (by omega)
    · rw [oh_u2_ne1 z]
      exact j4 c' b z
  · intro σ hI
    obtain ⟨F1, F3, L, j1, j2, j3, j4, j5⟩ := hI
    subst j5
    have Fn : ∀ c b, c ≠ 132 → c ≠ 136 → c ≠ 205 → F3 c b = oh_FI h c b := fun c b z1 z2 z3 => by rw [j2.1 c b z1, j1.1 c b z2, F2n c b z3]
    have e195 : F3 195 (ml a m) = nI s := by
      rw [Fn 195 _ (by decide) (by decide) (by decide), M.2.1, h2]
    obtain ⟨F, L', i1, i2, i3⟩ := c_over (F0 := F3) (L0 := L) (o := shO (oh_AI h) a m r al s) (base := shB (oh_AI h) a m r al) (c := shC (oh_AI h) a m r al) (nn := fun k => bl (oh_AI h) a m k) P hm h1 hbin pinj e195 (fun k hk => by
      rw [Fn 128 _ (by decide) (by decide) (by decide)]
      exact ⟨(Lp k hk).1, by have := (h4 k hk).1; show bl (oh_AI h) a m k < 200; omega⟩) (fun k k' hk hk' e => B.2.1 k k' hk hk' e) (fun k hk => by
      rw [j2.1 136 _ (by decide)]
      exact j1.2.1 k hk) (fun k hk => ⟨j3 k hk, (SH k hk).2.2⟩)
    refine ⟨_, ?_, F1, F3, F, L', j1, j2, i2, fun c' b z => by rw [i3 c' b z, j4 c' b z], rfl⟩
    simp only [b_X3_divide_68, f_X3_divide_157, g_448_0, g_449_0, g_450_0, g_451_0, g_452_0, g_453_0, g_454_0, g_455_0, p_455_0, g_456_0, p_456_0, g_457_0, p_457_0, g_458_0, p_458_0, g_459_0, p_459_0, g_460_0, p_460_0, g_461_0, p_461_0, rc_0, g_0_5, rc_5, g_320_7, p_320_7, g_321_7, p_321_7, g_322_7, p_322_7, g_323_7, p_323_7, g_324_7, p_324_7, rc_7, g_256_8, g_257_8, g_258_8, g_259_8, g_260_8, g_261_8, g_262_8, g_263_8, p_263_8, g_264_8, p_264_8, g_265_8, p_265_8, g_266_8, g_267_8, p_267_8, g_268_8, p_268_8, g_269_8, p_269_8, g_270_8, p_270_8, rc_8, g_192_17, p_192_17, g_193_17, g_194_17, g_195_17, p_195_17, g_196_17, p_196_17, g_197_17, p_197_17, g_198_17, p_198_17, g_199_17, p_199_17, g_200_17, p_200_17, g_201_17, p_201_17, g_202_17, p_202_17, g_203_17, p_203_17, g_204_17, p_204_17, g_205_17, p_205_17, rc_17, g_192_20, p_192_20, g_193_20, g_194_20, g_195_20, p_195_20, g_196_20, p_196_20, g_197_20, p_197_20, g_198_20, p_198_20, g_199_20, p_199_20, g_200_20, p_200_20, g_201_20, p_201_20, g_202_20, p_202_20, g_203_20, p_203_20, g_204_20, p_204_20, g_205_20, p_205_20, rc_20, g_192_23, p_192_23, g_193_23, g_194_23, g_195_23, p_195_23, g_196_23, p_196_23, g_197_23, p_197_23, g_198_23, p_198_23, g_199_23, p_199_23, g_200_23, p_200_23, g_201_23, p_201_23, g_202_23, p_202_23, g_203_23, p_203_23, g_204_23, p_204_23, g_205_23, p_205_23, rc_23, g_512_26, p_512_26, g_513_26, p_513_26, g_514_26, p_514_26, g_515_26, p_515_26, g_516_26, p_516_26, g_517_26, g_518_26, g_519_26, p_519_26, g_520_26, g_521_26, g_522_26, g_523_26, g_524_26, g_525_26, g_526_26, g_527_26, g_528_26, g_529_26, g_530_26, g_531_26, g_532_26, g_533_26, g_534_26, g_535_26, g_536_26, g_537_26, g_538_26, g_539_26, g_540_26, g_541_26, p_541_26, g_542_26, g_543_26, g_544_26, g_545_26, g_546_26, g_547_26, g_548_26, g_549_26, g_550_26, g_551_26, p_551_26, g_552_26, p_552_26, g_553_26, p_553_26, g_554_26, p_554_26, g_555_26, p_555_26, g_556_26, p_556_26, g_557_26, p_557_26, g_558_26, p_558_26, g_559_26, p_559_26, g_560_26, g_561_26, p_561_26, g_562_26, g_563_26, g_564_26, p_564_26, g_565_26, p_565_26, rc_26, ai_1, ai_2, ai_3, ai_4, ai_6, ti_6, ai_9, ti_9, ai_10, ti_10, ai_11, ti_11, ai_12, ti_12, ai_13, ti_13, ai_14, ti_14, ai_15, ti_15, ai_16, ti_16, ai_18, ai_19, ti_19, ai_21, ai_22, ti_22, ai_24, ai_25, ti_25, ai_27, ti_27, ai_28, ti_28, ai_29, ti_29, ai_30, ti_30, ai_31, ti_31, ai_32, ti_32, ai_33, ti_33, ai_34, ti_34, ai_35, ti_35, ai_36, ti_36, ai_37, ti_37, ai_38, ti_38, ai_39, ti_39, ai_40, ti_40, ai_41, ti_41, ai_42, ti_42, ai_43, ti_43, ai_44, ti_44, ai_45, ti_45, ai_46, ti_46, ai_47, ti_47, ai_48, ti_48, ai_49, ti_49, ai_50, ti_50, ai_51, ti_51, ai_52, ti_52, ai_53, ti_53, ai_54, ti_54, ai_55, ti_55, ai_56, ti_56, ai_57, ti_57, ai_58, ti_58, ai_59, ti_59, ai_60, ti_60, ai_61, ti_61, Option.bind_some, oh_lt_eq, e_bz0, e_bz1, e_in, e_isWithin, e_isFarmer, e_isSort, ite01, i10, PS_wI, PS_wL, PS_sI, PS_sL, pw_wI, pw_wL, pw_wR, pw_sI, pw_sL, pw_sR, oh_u2, Nat.add_left_cancel_iff, Nat.reduceEqDiff, Nat.add_eq_left, Nat.left_eq_add, reduceCtorEq, false_and, true_and, and_true, and_false, if_false, if_true, e_gI, e_gR, e_gL, e_pI, e_pL, e_rc, Nat.reduceDiv, Nat.reduceAdd, pw_mB, pw_mF, Km, e195, Int32.le_refl, i1, Option.map_some]
