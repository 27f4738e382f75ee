theorem Bst_eqH {h H H' : oh_H} {a n s l w : Nat} (e : oh_AI H' (a + 15) ((s * 8 + l) * 9 + w) = oh_AI H (a + 15) ((s * 8 + l) * 9 + w)) (B : Bst h H a n s l w) : Bst h H' a n s l w := by
  obtain ⟨g, g1, g2⟩ := B
  exact ⟨g, g1, by rw [e]; exact g2⟩
theorem cC_0 {h : oh_H} {a n : Nat} : cC h a (tb 0) n = 0 := by
  have e : cC h a (tb 0) n = cnt (fun _ => false) n := cnt_congr n (fun i _ => by rw [tb_0]; rfl)
  rw [e, cnt_no]
theorem drop_get {G g : List Nat} {i x : Nat} (h : G.drop i = x :: g) : G.getD i 0 = x ∧ G.drop (i + 1) = g := by
  constructor
  · have e : (G.drop i)[0]? = G[i + 0]? := List.getElem?_drop
    rw [h] at e
    rw [List.getD_eq_getElem?_getD, ← show G[i + 0]? = G[i]? from rfl, ← e]
    rfl
  · rw [← List.tail_drop, h]
    rfl
set_option maxHeartbeats 4000000 in
theorem c_follow {h : oh_H} {a n : Nat} {A : Nat → Nat → Int32} (P : PS h a) (V : PV h a n) (r4 : rw4 h a A) (Su : sums13 h (oh_mA h A) a n) (D : D1 h a n 0 A) : ∃ F B G, f_X4_follow (oh_mA h A) (a + 8) = some (oh_mA (oh_mF h F) B) ∧ (∀ c b, c ≠ 268 → c ≠ 269 → F c b = oh_FI h c b) ∧ (∀ c b, c ≠ 16 → B (a + c) b = A (a + c) b) ∧ Opt (iNw h a) (pHr h a) (pLt h a) n (fun _ => false) none (tT h a n 0 0) G ∧ (F 268 (a + 8)).toInt = pL (iNw h a) (pHr h a) (pLt h a) none (tT h a n 0 0) G ∧ (F 269 (a + 8)).toInt = pE (iNw h a) (pHr h a) none (tT h a n 0 0) G ∧ ∀ j, j < n → B (a + 16) j = oh_AI h (a + 9) (G.getD j 0) := by
  have hn := V.1
  have f267 := V.2.1
  have hp2 : 0 < 2 ^ n := Nat.pow_pos (by decide)
  -- what is best at every point
  have best : ∀ F B s w last, (∀ c b, c ≠ 268 → F c b = oh_FI h c b) → (∀ c b, c ≠ 16 → B (a + c) b = A (a + c) b) → s < 2 ^ n → w ≤ cC h a (tb s) n → loN n last → ((∀ x, x < n → tb s x = true) ∧ f_X4_bestNext (oh_mA (oh_mF h F) B) (a + 8) (nI s) (liN last) (nI w) = some (-1)) ∨ ∃ x g, x < n ∧ tb s x = false ∧ f_X4_bestNext (oh_mA (oh_mF h F) B) (a + 8) (nI s) (liN last) (nI w) = some (nI x) ∧ Opt (iNw h a) (pHr h a) (pLt h a) n (sA (tb s) x) (some x) (tT h a n s w + 2 * iNw h a last x + pHr h a x) g ∧ Opt (iNw h a) (pHr h a) (pLt h a) n (tb s) last (tT h a n s w) (x :: g) := fun F B s w last hF hB hs hw hl => by
    have hs2 := two8 hn hs
    have E : sm h (oh_mA (oh_mF h F) B) a := ⟨P, fun c h1 h2 => hF c _ (by omega), fun k b h1 h2 => by
      show B (a + k) b = _
      rw [hB k b (by omega)]
      exact r4 k b h1 h2⟩
    have Su' : sums13 h (oh_mA (oh_mF h F) B) a n := fun s' hs' => by
      show (B (a + 13) s').toInt = _ ∧ (_ → B (a + 14) s' = _)
      rw [hB 13 _ (by decide), hB 14 _ (by decide)]
      exact Su s' hs'
    have B1 : ∀ x, x < n → tb s x = false → Bst h (oh_mA (oh_mF h F) B) a n (s ||| 2 ^ x) x (w + pNw h a last x) := fun x hx hx0 => by
      have g := bit_gt s hs2 x (by omega) hx0
      have c1 := cC_add (h := h) (a := a) hx hx0 last
      refine Bst_eqH (H := oh_mA h A) (hB 15 _ (by decide)) (D _ (by omega) (or_lt hs hx) x hx ?_ _ ?_)
      · rw [tb_or]
        simp only [sA, decide_true, Bool.or_true]
      · rw [tb_or]
        omega
    rcases c_best E V Su' hs hw hl B1 with ⟨f1, f2⟩ | ⟨x, g, f1, f2, f3, f4, f5, r, f6, f7⟩
    · exact Or.inl ⟨f1, f2⟩
    · exact Or.inr ⟨x, g, f1, f2, f3, f4, f5⟩
  have start : ∃ G, Opt (iNw h a) (pHr h a) (pLt h a) n (tb 0) none (tT h a n 0 0) G := by
    rcases best (oh_FI h) A 0 0 none (fun _ _ _ => rfl) (fun _ _ _ => rfl) hp2 (Nat.zero_le _) trivial with ⟨f1, f2⟩ | ⟨x, g, f1, f2, f3, f4, f5⟩
    · exact ⟨[], opt_nil f1⟩
    · exact ⟨x :: g, f5⟩
  obtain ⟨G, OG⟩ := start
  have lG : G.length = n := by
    have e1 := cl_len G _ OG.1
    have e2 : cnt (fun x => !(tb 0 x)) n = cnt (fun x => !(pre (fun k => k) 0 x)) n := cnt_congr n (fun i _ => by rw [tb_0]; rfl)
    have e3 := pre_cnt (n := n) (f := fun k => k) ⟨fun k hk => hk, fun k k' _ _ e => e⟩ 0 (Nat.zero_le _)
    omega
  obtain ⟨y, k1, F, B, k2, k3, k4, k5, k6, k7⟩ := loop_inv (fun s_1 : oh_H × Int32 × Int32 × Int32 × Int32 => b_X4_follow_14 s_1.1 (a + 8) s_1.2.1 s_1.2.2.1 s_1.2.2.2.1 s_1.2.2.2.2)
    (fun i σ => ∃ F B s last w g v, σ = (oh_mA (oh_mF h F) B, nI s, liN last, nI w, nI i) ∧ (∀ c b, c ≠ 268 → F c b = oh_FI h c b) ∧ (∀ c b, c ≠ 16 → B (a + c) b = A (a + c) b) ∧ s < 2 ^ n ∧ w ≤ cC h a (tb s) n ∧ loN n last ∧ Opt (iNw h a) (pHr h a) (pLt h a) n (tb s) last (tT h a n s w) g ∧ G.drop i = g ∧ F 268 (a + 8) = v ∧ (0 ≤ v.toInt ∧ v.toInt ≤ (i : Int)) ∧ v.toInt + pL (iNw h a) (pHr h a) (pLt h a) last (tT h a n s w) g = pL (iNw h a) (pHr h a) (pLt h a) none (tT h a n 0 0) G ∧ pE (iNw h a) (pHr h a) last (tT h a n s w) g = pE (iNw h a) (pHr h a) none (tT h a n 0 0) G ∧ ∀ j, j < i → B (a + 16) j = oh_AI h (a + 9) (G.getD j 0))
    (fun x => ∃ F B, x = oh_mA (oh_mF h F) B ∧ (∀ c b, c ≠ 268 → c ≠ 269 → F c b = oh_FI h c b) ∧ (∀ c b, c ≠ 16 → B (a + c) b = A (a + c) b) ∧ (F 268 (a + 8)).toInt = pL (iNw h a) (pHr h a) (pLt h a) none (tT h a n 0 0) G ∧ (F 269 (a + 8)).toInt = pE (iNw h a) (pHr h a) none (tT h a n 0 0) G ∧ ∀ j, j < n → B (a + 16) j = oh_AI h (a + 9) (G.getD j 0))
    n (fun i σ hi hI => by
      obtain ⟨F, B, s, last, w, g, v, i1, i2, i3, i4, i5, i6, i7, i8, i9, i10', i11, i12, i13⟩ := hI
      subst i1
      have hs2 := two8 hn i4
      have hle : (nI n ≤ nI i) = False := by rw [iN_le (by omega) (by omega)]; exact eq_false (by omega)
      have P' : PS (oh_mA (oh_mF h F) B) a := P
      have f267' : F 267 (a + 8) = nI n := by rw [i2 267 _ (by decide)]; exact f267
      have E : sm h (oh_mA (oh_mF h F) B) a := ⟨P, fun c h1 h2 => i2 c _ (by omega), fun k b h1 h2 => by
        show B (a + k) b = _
        rw [i3 k b (by omega)]
        exact r4 k b h1 h2⟩
      have Su' : sums13 h (oh_mA (oh_mF h F) B) a n := fun s' hs' => by
        show (B (a + 13) s').toInt = _ ∧ (_ → B (a + 14) s' = _)
        rw [i3 13 _ (by decide), i3 14 _ (by decide)]
        exact Su s' hs'
      have gl : g.length = n - i := by rw [← i8, List.length_drop, lG]
      rcases best F B s w last i2 i3 i4 i5 i6 with ⟨f1, f2⟩ | ⟨x, g', f1, f2, f3, f4, f5⟩
      · have : g = [] := opt_one i7 (opt_nil f1)
        rw [this] at gl
        simp only [List.length_nil] at gl
        omega
      · have eg : g = x :: g' := opt_one i7 f5
        subst eg
        have hx8 : x < 8 := by omega
        have hi8 : i < 8 := by omega
        have cn := c_needs E V f1 i6
        have nw1 := nw_le (h := h) (a := a) last x
        have cadd := cC_add (h := h) (a := a) f1 f2 last
        have cle := cC_le (h := h) (a := a) (n := n) (S := sA (tb s) x)
        obtain ⟨r, r1, r2⟩ := c_hour (w := w + pNw h a last x) E V Su' i4 (by omega)
        have et : tT h a n s w + 2 * iNw h a last x = tT h a n s (w + pNw h a last x) := by
          unfold tT iNw
          omega
        have et2 : tT h a n (s ||| 2 ^ x) (w + pNw h a last x) = tT h a n s w + 2 * iNw h a last x + pHr h a x := tT_or f1 f2
        have a12 : B (a + 12) x = oh_AI h (a + 12) x := by rw [i3 12 x (by decide)]; exact r4 12 x (by omega) (by omega)
        have a9 : B (a + 9) x = oh_AI h (a + 9) x := by rw [i3 9 x (by decide)]; exact r4 9 x (by omega) (by omega)
        have hlt : (r < oh_AI h (a + 12) x) = ¬ (pLt h a x ≤ tT h a n s w + 2 * iNw h a last x) := propext (by
          rw [i_lt, r2, et]
          unfold pLt
          omega)
        have hne : (nI x = -1) = False := eq_false (fun z => by
          rw [i_eq, nI_toInt (by omega), show (-1 : Int32).toInt = -1 from rfl] at z
          omega)
        obtain ⟨dg1, dg2⟩ := drop_get i8
        -- one more
        have step85 : ∀ u : Int32, f_X4_follow_85 (oh_mA (oh_mF h F) B) (a + 8) (nI s) (nI (w + pNw h a last x)) (nI i) (nI x) u v (some (a + 8)) = some (.inl (oh_mA (oh_mF h (oh_u2 F 268 (a + 8) (v + u))) (oh_u2 B (a + 16) i (oh_AI h (a + 9) x)), nI (s ||| 2 ^ x), liN (some x), nI (w + pNw h a last x), nI (i + 1))) := fun u => by
          simp only [f_X4_follow_85, g_448_0, g_449_0, g_450_0, g_451_0, g_452_0, g_453_0, g_454_0, g_455_0, p_455_0, g_456_0, p_456_0, g_457_0, p_457_0, g_458_0, p_458_0, g_459_0, p_459_0, g_460_0, p_460_0, g_461_0, p_461_0, rc_0, g_0_5, rc_5, g_320_7, p_320_7, g_321_7, p_321_7, g_322_7, p_322_7, g_323_7, p_323_7, g_324_7, p_324_7, rc_7, g_256_8, g_257_8, g_258_8, g_259_8, g_260_8, g_261_8, g_262_8, g_263_8, p_263_8, g_264_8, p_264_8, g_265_8, p_265_8, g_266_8, g_267_8, p_267_8, g_268_8, p_268_8, g_269_8, p_269_8, g_270_8, p_270_8, rc_8, g_192_17, p_192_17, g_193_17, g_194_17, g_195_17, p_195_17, g_196_17, p_196_17, g_197_17, p_197_17, g_198_17, p_198_17, g_199_17, p_199_17, g_200_17, p_200_17, g_201_17, p_201_17, g_202_17, p_202_17, g_203_17, p_203_17, g_204_17, p_204_17, g_205_17, p_205_17, rc_17, g_192_20, p_192_20, g_193_20, g_194_20, g_195_20, p_195_20, g_196_20, p_196_20, g_197_20, p_197_20, g_198_20, p_198_20, g_199_20, p_199_20, g_200_20, p_200_20, g_201_20, p_201_20, g_202_20, p_202_20, g_203_20, p_203_20, g_204_20, p_204_20, g_205_20, p_205_20, rc_20, g_192_23, p_192_23, g_193_23, g_194_23, g_195_23, p_195_23, g_196_23, p_196_23, g_197_23, p_197_23, g_198_23, p_198_23, g_199_23, p_199_23, g_200_23, p_200_23, g_201_23, p_201_23, g_202_23, p_202_23, g_203_23, p_203_23, g_204_23, p_204_23, g_205_23, p_205_23, rc_23, g_512_26, p_512_26, g_513_26, p_513_26, g_514_26, p_514_26, g_515_26, p_515_26, g_516_26, p_516_26, g_517_26, g_518_26, g_519_26, p_519_26, g_520_26, g_521_26, g_522_26, g_523_26, g_524_26, g_525_26, g_526_26, g_527_26, g_528_26, g_529_26, g_530_26, g_531_26, g_532_26, g_533_26, g_534_26, g_535_26, g_536_26, g_537_26, g_538_26, g_539_26, g_540_26, g_541_26, p_541_26, g_542_26, g_543_26, g_544_26, g_545_26, g_546_26, g_547_26, g_548_26, g_549_26, g_550_26, g_551_26, p_551_26, g_552_26, p_552_26, g_553_26, p_553_26, g_554_26, p_554_26, g_555_26, p_555_26, g_556_26, p_556_26, g_557_26, p_557_26, g_558_26, p_558_26, g_559_26, p_559_26, g_560_26, g_561_26, p_561_26, g_562_26, g_563_26, g_564_26, p_564_26, g_565_26, p_565_26, rc_26, ai_1, ai_2, ai_3, ai_4, ai_6, ti_6, ai_9, ti_9, ai_10, ti_10, ai_11, ti_11, ai_12, ti_12, ai_13, ti_13, ai_14, ti_14, ai_15, ti_15, ai_16, ti_16, ai_18, ai_19, ti_19, ai_21, ai_22, ti_22, ai_24, ai_25, ti_25, ai_27, ti_27, ai_28, ti_28, ai_29, ti_29, ai_30, ti_30, ai_31, ti_31, ai_32, ti_32, ai_33, ti_33, ai_34, ti_34, ai_35, ti_35, ai_36, ti_36, ai_37, ti_37, ai_38, ti_38, ai_39, ti_39, ai_40, ti_40, ai_41, ti_41, ai_42, ti_42, ai_43, ti_43, ai_44, ti_44, ai_45, ti_45, ai_46, ti_46, ai_47, ti_47, ai_48, ti_48, ai_49, ti_49, ai_50, ti_50, ai_51, ti_51, ai_52, ti_52, ai_53, ti_53, ai_54, ti_54, ai_55, ti_55, ai_56, ti_56, ai_57, ti_57, ai_58, ti_58, ai_59, ti_59, ai_60, ti_60, ai_61, ti_61, Option.bind_some, oh_lt_eq, e_bz0, e_bz1, e_in, e_isWithin, e_isFarmer, e_isSort, ite01, i10, PS_wI, PS_wL, PS_sI, PS_sL, pw_wI, pw_wL, pw_wR, pw_sI, pw_sL, pw_sR, oh_u2, Nat.add_left_cancel_iff, Nat.reduceEqDiff, Nat.add_eq_left, Nat.left_eq_add, reduceCtorEq, false_and, true_and, and_true, and_false, if_false, if_true, P', PS_mA, PS_mF, P, pw_mA, pw_mF, mAF_w, mA_w, hx8, hi8, a9, bit_or s hs2 x hx8, iN_succ, liN]
        have step57 : f_X4_follow_57 (oh_mA (oh_mF h F) B) (a + 8) (nI s) (nI i) (nI x) (nI (pNw h a last x)) (nI w) = f_X4_follow_85 (oh_mA (oh_mF h F) B) (a + 8) (nI s) (nI (w + pNw h a last x)) (nI i) (nI x) (if pLt h a x ≤ tT h a n s w + 2 * iNw h a last x then 1 else 0) v (some (a + 8)) := by
          by_cases q : pLt h a x ≤ tT h a n s w + 2 * iNw h a last x
          · rw [if_pos q]
            simp only [f_X4_follow_57, g_448_0, g_449_0, g_450_0, g_451_0, g_452_0, g_453_0, g_454_0, g_455_0, p_455_0, g_456_0, p_456_0, g_457_0, p_457_0, g_458_0, p_458_0, g_459_0, p_459_0, g_460_0, p_460_0, g_461_0, p_461_0, rc_0, g_0_5, rc_5, g_320_7, p_320_7, g_321_7, p_321_7, g_322_7, p_322_7, g_323_7, p_323_7, g_324_7, p_324_7, rc_7, g_256_8, g_257_8, g_258_8, g_259_8, g_260_8, g_261_8, g_262_8, g_263_8, p_263_8, g_264_8, p_264_8, g_265_8, p_265_8, g_266_8, g_267_8, p_267_8, g_268_8, p_268_8, g_269_8, p_269_8, g_270_8, p_270_8, rc_8, g_192_17, p_192_17, g_193_17, g_194_17, g_195_17, p_195_17, g_196_17, p_196_17, g_197_17, p_197_17, g_198_17, p_198_17, g_199_17, p_199_17, g_200_17, p_200_17, g_201_17, p_201_17, g_202_17, p_202_17, g_203_17, p_203_17, g_204_17, p_204_17, g_205_17, p_205_17, rc_17, g_192_20, p_192_20, g_193_20, g_194_20, g_195_20, p_195_20, g_196_20, p_196_20, g_197_20, p_197_20, g_198_20, p_198_20, g_199_20, p_199_20, g_200_20, p_200_20, g_201_20, p_201_20, g_202_20, p_202_20, g_203_20, p_203_20, g_204_20, p_204_20, g_205_20, p_205_20, rc_20, g_192_23, p_192_23, g_193_23, g_194_23, g_195_23, p_195_23, g_196_23, p_196_23, g_197_23, p_197_23, g_198_23, p_198_23, g_199_23, p_199_23, g_200_23, p_200_23, g_201_23, p_201_23, g_202_23, p_202_23, g_203_23, p_203_23, g_204_23, p_204_23, g_205_23, p_205_23, rc_23, g_512_26, p_512_26, g_513_26, p_513_26, g_514_26, p_514_26, g_515_26, p_515_26, g_516_26, p_516_26, g_517_26, g_518_26, g_519_26, p_519_26, g_520_26, g_521_26, g_522_26, g_523_26, g_524_26, g_525_26, g_526_26, g_527_26, g_528_26, g_529_26, g_530_26, g_531_26, g_532_26, g_533_26, g_534_26, g_535_26, g_536_26, g_537_26, g_538_26, g_539_26, g_540_26, g_541_26, p_541_26, g_542_26, g_543_26, g_544_26, g_545_26, g_546_26, g_547_26, g_548_26, g_549_26, g_550_26, g_551_26, p_551_26, g_552_26, p_552_26, g_553_26, p_553_26, g_554_26, p_554_26, g_555_26, p_555_26, g_556_26, p_556_26, g_557_26, p_557_26, g_558_26, p_558_26, g_559_26, p_559_26, g_560_26, g_561_26, p_561_26, g_562_26, g_563_26, g_564_26, p_564_26, g_565_26, p_565_26, rc_26, ai_1, ai_2, ai_3, ai_4, ai_6, ti_6, ai_9, ti_9, ai_10, ti_10, ai_11, ti_11, ai_12, ti_12, ai_13, ti_13, ai_14, ti_14, ai_15, ti_15, ai_16, ti_16, ai_18, ai_19, ti_19, ai_21, ai_22, ti_22, ai_24, ai_25, ti_25, ai_27, ti_27, ai_28, ti_28, ai_29, ti_29, ai_30, ti_30, ai_31, ti_31, ai_32, ti_32, ai_33, ti_33, ai_34, ti_34, ai_35, ti_35, ai_36, ti_36, ai_37, ti_37, ai_38, ti_38, ai_39, ti_39, ai_40, ti_40, ai_41, ti_41, ai_42, ti_42, ai_43, ti_43, ai_44, ti_44, ai_45, ti_45, ai_46, ti_46, ai_47, ti_47, ai_48, ti_48, ai_49, ti_49, ai_50, ti_50, ai_51, ti_51, ai_52, ti_52, ai_53, ti_53, ai_54, ti_54, ai_55, ti_55, ai_56, ti_56, ai_57, ti_57, ai_58, ti_58, ai_59, ti_59, ai_60, ti_60, ai_61, ti_61, Option.bind_some, oh_lt_eq, e_bz0, e_bz1, e_in, e_isWithin, e_isFarmer, e_isSort, ite01, i10, PS_wI, PS_wL, PS_sI, PS_sL, pw_wI, pw_wL, pw_wR, pw_sI, pw_sL, pw_sR, oh_u2, Nat.add_left_cancel_iff, Nat.reduceEqDiff, Nat.add_eq_left, Nat.left_eq_add, reduceCtorEq, false_and, true_and, and_true, and_false, if_false, if_true, P', pw_mA, pw_mF, i9, nI_add, r1, hx8, a12, hlt, q, not_true_eq_false]
          · rw [if_neg q]
            simp only [f_X4_follow_57, g_448_0, g_449_0, g_450_0, g_451_0, g_452_0, g_453_0, g_454_0, g_455_0, p_455_0, g_456_0, p_456_0, g_457_0, p_457_0, g_458_0, p_458_0, g_459_0, p_459_0, g_460_0, p_460_0, g_461_0, p_461_0, rc_0, g_0_5, rc_5, g_320_7, p_320_7, g_321_7, p_321_7, g_322_7, p_322_7, g_323_7, p_323_7, g_324_7, p_324_7, rc_7, g_256_8, g_257_8, g_258_8, g_259_8, g_260_8, g_261_8, g_262_8, g_263_8, p_263_8, g_264_8, p_264_8, g_265_8, p_265_8, g_266_8, g_267_8, p_267_8, g_268_8, p_268_8, g_269_8, p_269_8, g_270_8, p_270_8, rc_8, g_192_17, p_192_17, g_193_17, g_194_17, g_195_17, p_195_17, g_196_17, p_196_17, g_197_17, p_197_17, g_198_17, p_198_17, g_199_17, p_199_17, g_200_17, p_200_17, g_201_17, p_201_17, g_202_17, p_202_17, g_203_17, p_203_17, g_204_17, p_204_17, g_205_17, p_205_17, rc_17, g_192_20, p_192_20, g_193_20, g_194_20, g_195_20, p_195_20, g_196_20, p_196_20, g_197_20, p_197_20, g_198_20, p_198_20, g_199_20, p_199_20, g_200_20, p_200_20, g_201_20, p_201_20, g_202_20, p_202_20, g_203_20, p_203_20, g_204_20, p_204_20, g_205_20, p_205_20, rc_20, g_192_23, p_192_23, g_193_23, g_194_23, g_195_23, p_195_23, g_196_23, p_196_23, g_197_23, p_197_23, g_198_23, p_198_23, g_199_23, p_199_23, g_200_23, p_200_23, g_201_23, p_201_23, g_202_23, p_202_23, g_203_23, p_203_23, g_204_23, p_204_23, g_205_23, p_205_23, rc_23, g_512_26, p_512_26, g_513_26, p_513_26, g_514_26, p_514_26, g_515_26, p_515_26, g_516_26, p_516_26, g_517_26, g_518_26, g_519_26, p_519_26, g_520_26, g_521_26, g_522_26, g_523_26, g_524_26, g_525_26, g_526_26, g_527_26, g_528_26, g_529_26, g_530_26, g_531_26, g_532_26, g_533_26, g_534_26, g_535_26, g_536_26, g_537_26, g_538_26, g_539_26, g_540_26, g_541_26, p_541_26, g_542_26, g_543_26, g_544_26, g_545_26, g_546_26, g_547_26, g_548_26, g_549_26, g_550_26, g_551_26, p_551_26, g_552_26, p_552_26, g_553_26, p_553_26, g_554_26, p_554_26, g_555_26, p_555_26, g_556_26, p_556_26, g_557_26, p_557_26, g_558_26, p_558_26, g_559_26, p_559_26, g_560_26, g_561_26, p_561_26, g_562_26, g_563_26, g_564_26, p_564_26, g_565_26, p_565_26, rc_26, ai_1, ai_2, ai_3, ai_4, ai_6, ti_6, ai_9, ti_9, ai_10, ti_10, ai_11, ti_11, ai_12, ti_12, ai_13, ti_13, ai_14, ti_14, ai_15, ti_15, ai_16, ti_16, ai_18, ai_19, ti_19, ai_21, ai_22, ti_22, ai_24, ai_25, ti_25, ai_27, ti_27, ai_28, ti_28, ai_29, ti_29, ai_30, ti_30, ai_31, ti_31, ai_32, ti_32, ai_33, ti_33, ai_34, ti_34, ai_35, ti_35, ai_36, ti_36, ai_37, ti_37, ai_38, ti_38, ai_39, ti_39, ai_40, ti_40, ai_41, ti_41, ai_42, ti_42, ai_43, ti_43, ai_44, ti_44, ai_45, ti_45, ai_46, ti_46, ai_47, ti_47, ai_48, ti_48, ai_49, ti_49, ai_50, ti_50, ai_51, ti_51, ai_52, ti_52, ai_53, ti_53, ai_54, ti_54, ai_55, ti_55, ai_56, ti_56, ai_57, ti_57, ai_58, ti_58, ai_59, ti_59, ai_60, ti_60, ai_61, ti_61, Option.bind_some, oh_lt_eq, e_bz0, e_bz1, e_in, e_isWithin, e_isFarmer, e_isSort, ite01, i10, PS_wI, PS_wL, PS_sI, PS_sL, pw_wI, pw_wL, pw_wR, pw_sI, pw_sL, pw_sR, oh_u2, Nat.add_left_cancel_iff, Nat.reduceEqDiff, Nat.add_eq_left, Nat.left_eq_add, reduceCtorEq, false_and, true_and, and_true, and_false, if_false, if_true, P', pw_mA, pw_mF, i9, nI_add, r1, hx8, a12, hlt, q, not_false_eq_true]
        have body : b_X4_follow_14 (oh_mA (oh_mF h F) B) (a + 8) (nI s) (liN last) (nI w) (nI i) = some (.inl (oh_mA (oh_mF h (oh_u2 F 268 (a + 8) (v + (if pLt h a x ≤ tT h a n s w + 2 * iNw h a last x then 1 else 0)))) (oh_u2 B (a + 16) i (oh_AI h (a + 9) x)), nI (s ||| 2 ^ x), liN (some x), nI (w + pNw h a last x), nI (i + 1))) := by
          rw [← step85, ← step57]
          rcases nw1 with q | q
          · rw [q] at cn ⊢
            have z : (nI 0 = 0) = True := eq_true rfl
            simp only [b_X4_follow_14, g_448_0, g_449_0, g_450_0, g_451_0, g_452_0, g_453_0, g_454_0, g_455_0, p_455_0, g_456_0, p_456_0, g_457_0, p_457_0, g_458_0, p_458_0, g_459_0, p_459_0, g_460_0, p_460_0, g_461_0, p_461_0, rc_0, g_0_5, rc_5, g_320_7, p_320_7, g_321_7, p_321_7, g_322_7, p_322_7, g_323_7, p_323_7, g_324_7, p_324_7, rc_7, g_256_8, g_257_8, g_258_8, g_259_8, g_260_8, g_261_8, g_262_8, g_263_8, p_263_8, g_264_8, p_264_8, g_265_8, p_265_8, g_266_8, g_267_8, p_267_8, g_268_8, p_268_8, g_269_8, p_269_8, g_270_8, p_270_8, rc_8, g_192_17, p_192_17, g_193_17, g_194_17, g_195_17, p_195_17, g_196_17, p_196_17, g_197_17, p_197_17, g_198_17, p_198_17, g_199_17, p_199_17, g_200_17, p_200_17, g_201_17, p_201_17, g_202_17, p_202_17, g_203_17, p_203_17, g_204_17, p_204_17, g_205_17, p_205_17, rc_17, g_192_20, p_192_20, g_193_20, g_194_20, g_195_20, p_195_20, g_196_20, p_196_20, g_197_20, p_197_20, g_198_20, p_198_20, g_199_20, p_199_20, g_200_20, p_200_20, g_201_20, p_201_20, g_202_20, p_202_20, g_203_20, p_203_20, g_204_20, p_204_20, g_205_20, p_205_20, rc_20, g_192_23, p_192_23, g_193_23, g_194_23, g_195_23, p_195_23, g_196_23, p_196_23, g_197_23, p_197_23, g_198_23, p_198_23, g_199_23, p_199_23, g_200_23, p_200_23, g_201_23, p_201_23, g_202_23, p_202_23, g_203_23, p_203_23, g_204_23, p_204_23, g_205_23, p_205_23, rc_23, g_512_26, p_512_26, g_513_26, p_513_26, g_514_26, p_514_26, g_515_26, p_515_26, g_516_26, p_516_26, g_517_26, g_518_26, g_519_26, p_519_26, g_520_26, g_521_26, g_522_26, g_523_26, g_524_26, g_525_26, g_526_26, g_527_26, g_528_26, g_529_26, g_530_26, g_531_26, g_532_26, g_533_26, g_534_26, g_535_26, g_536_26, g_537_26, g_538_26, g_539_26, g_540_26, g_541_26, p_541_26, g_542_26, g_543_26, g_544_26, g_545_26, g_546_26, g_547_26, g_548_26, g_549_26, g_550_26, g_551_26, p_551_26, g_552_26, p_552_26, g_553_26, p_553_26, g_554_26, p_554_26, g_555_26, p_555_26, g_556_26, p_556_26, g_557_26, p_557_26, g_558_26, p_558_26, g_559_26, p_559_26, g_560_26, g_561_26, p_561_26, g_562_26, g_563_26, g_564_26, p_564_26, g_565_26, p_565_26, rc_26, ai_1, ai_2, ai_3, ai_4, ai_6, ti_6, ai_9, ti_9, ai_10, ti_10, ai_11, ti_11, ai_12, ti_12, ai_13, ti_13, ai_14, ti_14, ai_15, ti_15, ai_16, ti_16, ai_18, ai_19, ti_19, ai_21, ai_22, ti_22, ai_24, ai_25, ti_25, ai_27, ti_27, ai_28, ti_28, ai_29, ti_29, ai_30, ti_30, ai_31, ti_31, ai_32, ti_32, ai_33, ti_33, ai_34, ti_34, ai_35, ti_35, ai_36, ti_36, ai_37, ti_37, ai_38, ti_38, ai_39, ti_39, ai_40, ti_40, ai_41, ti_41, ai_42, ti_42, ai_43, ti_43, ai_44, ti_44, ai_45, ti_45, ai_46, ti_46, ai_47, ti_47, ai_48, ti_48, ai_49, ti_49, ai_50, ti_50, ai_51, ti_51, ai_52, ti_52, ai_53, ti_53, ai_54, ti_54, ai_55, ti_55, ai_56, ti_56, ai_57, ti_57, ai_58, ti_58, ai_59, ti_59, ai_60, ti_60, ai_61, ti_61, Option.bind_some, oh_lt_eq, e_bz0, e_bz1, e_in, e_isWithin, e_isFarmer, e_isSort, ite01, i10, PS_wI, PS_wL, PS_sI, PS_sL, pw_wI, pw_wL, pw_wR, pw_sI, pw_sL, pw_sR, oh_u2, Nat.add_left_cancel_iff, Nat.reduceEqDiff, Nat.add_eq_left, Nat.left_eq_add, reduceCtorEq, false_and, true_and, and_true, and_false, if_false, if_true, P', pw_mA, pw_mF, f267', hle, f3, hne, cn, z]
            rfl
          · rw [q] at cn ⊢
            have z : (nI 1 = 0) = False := eq_false (by decide)
            simp only [b_X4_follow_14, g_448_0, g_449_0, g_450_0, g_451_0, g_452_0, g_453_0, g_454_0, g_455_0, p_455_0, g_456_0, p_456_0, g_457_0, p_457_0, g_458_0, p_458_0, g_459_0, p_459_0, g_460_0, p_460_0, g_461_0, p_461_0, rc_0, g_0_5, rc_5, g_320_7, p_320_7, g_321_7, p_321_7, g_322_7, p_322_7, g_323_7, p_323_7, g_324_7, p_324_7, rc_7, g_256_8, g_257_8, g_258_8, g_259_8, g_260_8, g_261_8, g_262_8, g_263_8, p_263_8, g_264_8, p_264_8, g_265_8, p_265_8, g_266_8, g_267_8, p_267_8, g_268_8, p_268_8, g_269_8, p_269_8, g_270_8, p_270_8, rc_8, g_192_17, p_192_17, g_193_17, g_194_17, g_195_17, p_195_17, g_196_17, p_196_17, g_197_17, p_197_17, g_198_17, p_198_17, g_199_17, p_199_17, g_200_17, p_200_17, g_201_17, p_201_17, g_202_17, p_202_17, g_203_17, p_203_17, g_204_17, p_204_17, g_205_17, p_205_17, rc_17, g_192_20, p_192_20, g_193_20, g_194_20, g_195_20, p_195_20, g_196_20, p_196_20, g_197_20, p_197_20, g_198_20, p_198_20, g_199_20, p_199_20, g_200_20, p_200_20, g_201_20, p_201_20, g_202_20, p_202_20, g_203_20, p_203_20, g_204_20, p_204_20, g_205_20, p_205_20, rc_20, g_192_23, p_192_23, g_193_23, g_194_23, g_195_23, p_195_23, g_196_23, p_196_23, g_197_23, p_197_23, g_198_23, p_198_23, g_199_23, p_199_23, g_200_23, p_200_23, g_201_23, p_201_23, g_202_23, p_202_23, g_203_23, p_203_23, g_204_23, p_204_23, g_205_23, p_205_23, rc_23, g_512_26, p_512_26, g_513_26, p_513_26, g_514_26, p_514_26, g_515_26, p_515_26, g_516_26, p_516_26, g_517_26, g_518_26, g_519_26, p_519_26, g_520_26, g_521_26, g_522_26, g_523_26, g_524_26, g_525_26, g_526_26, g_527_26, g_528_26, g_529_26, g_530_26, g_531_26, g_532_26, g_533_26, g_534_26, g_535_26, g_536_26, g_537_26, g_538_26, g_539_26, g_540_26, g_541_26, p_541_26, g_542_26, g_543_26, g_544_26, g_545_26, g_546_26, g_547_26, g_548_26, g_549_26, g_550_26, g_551_26, p_551_26, g_552_26, p_552_26, g_553_26, p_553_26, g_554_26, p_554_26, g_555_26, p_555_26, g_556_26, p_556_26, g_557_26, p_557_26, g_558_26, p_558_26, g_559_26, p_559_26, g_560_26, g_561_26, p_561_26, g_562_26, g_563_26, g_564_26, p_564_26, g_565_26, p_565_26, rc_26, ai_1, ai_2, ai_3, ai_4, ai_6, ti_6, ai_9, ti_9, ai_10, ti_10, ai_11, ti_11, ai_12, ti_12, ai_13, ti_13, ai_14, ti_14, ai_15, ti_15, ai_16, ti_16, ai_18, ai_19, ti_19, ai_21, ai_22, ti_22, ai_24, ai_25, ti_25, ai_27, ti_27, ai_28, ti_28, ai_29, ti_29, ai_30, ti_30, ai_31, ti_31, ai_32, ti_32, ai_33, ti_33, ai_34, ti_34, ai_35, ti_35, ai_36, ti_36, ai_37, ti_37, ai_38, ti_38, ai_39, ti_39, ai_40, ti_40, ai_41, ti_41, ai_42, ti_42, ai_43, ti_43, ai_44, ti_44, ai_45, ti_45, ai_46, ti_46, ai_47, ti_47, ai_48, ti_48, ai_49, ti_49, ai_50, ti_50, ai_51, ti_51, ai_52, ti_52, ai_53, ti_53, ai_54, ti_54, ai_55, ti_55, ai_56, ti_56, ai_57, ti_57, ai_58, ti_58, ai_59, ti_59, ai_60, ti_60, ai_61, ti_61, Option.bind_some, oh_lt_eq, e_bz0, e_bz1, e_in, e_isWithin, e_isFarmer, e_isSort, ite01, i10, PS_wI, PS_wL, PS_sI, PS_sL, pw_wI, pw_wL, pw_wR, pw_sI, pw_sL, pw_sR, oh_u2, Nat.add_left_cancel_iff, Nat.reduceEqDiff, Nat.add_eq_left, Nat.left_eq_add, reduceCtorEq, false_and, true_and, and_true, and_false, if_false, if_true, P', pw_mA, pw_mF, f267', hle, f3, hne, cn, z]
            rfl
        refine ⟨_, body, _, _, s ||| 2 ^ x, some x, w + pNw h a last x, g', v + (if pLt h a x ≤ tT h a n s w + 2 * iNw h a last x then 1 else 0), rfl, fun c b z => ?_, fun c b z => ?_, or_lt i4 f1, ?_, f1, ?_, dg2, ?_, ?_, ?_, ?_, fun j hj => ?_⟩
        · rw [oh_u2_ne1 z]
          exact i2 c b z
        · rw [oh_u2_ne1 (by omega)]
          exact i3 c b z
        · rw [tb_or]
          omega
        · rw [tb_or, et2]
          exact f4
        · simp only [oh_u2, and_self, if_true]
        · split
          · rw [i_add (by rw [i_1]; omega) (by rw [i_1]; omega), i_1]
            omega
          · rw [Int32.add_zero]
            omega
        · rw [← i11, et2]
          simp only [pL]
          split
          · rw [i_add (by rw [i_1]; omega) (by rw [i_1]; omega), i_1]
            omega
          · rw [Int32.add_zero]
            omega
        · rw [← i12, et2]
          rfl
        · by_cases z : j = i
          · subst z
            simp only [oh_u2, and_self, if_true]
            rw [dg1]
          · rw [u2_b z]
            exact i13 j (by omega)) (fun σ hI => by
      obtain ⟨F, B, s, last, w, g, v, i1, i2, i3, i4, i5, i6, i7, i8, i9, i10', i11, i12, i13⟩ := hI
      subst i1
      have P' : PS (oh_mA (oh_mF h F) B) a := P
      have f267' : F 267 (a + 8) = nI n := by rw [i2 267 _ (by decide)]; exact f267
      have E : sm h (oh_mA (oh_mF h F) B) a := ⟨P, fun c h1 h2 => i2 c _ (by omega), fun k b h1 h2 => by
        show B (a + k) b = _
        rw [i3 k b (by omega)]
        exact r4 k b h1 h2⟩
      have Su' : sums13 h (oh_mA (oh_mF h F) B) a n := fun s' hs' => by
        show (B (a + 13) s').toInt = _ ∧ (_ → B (a + 14) s' = _)
        rw [i3 13 _ (by decide), i3 14 _ (by decide)]
        exact Su s' hs'
      have cle := cC_le (h := h) (a := a) (n := n) (S := tb s)
      obtain ⟨r, r1, r2⟩ := c_hour (w := w) E V Su' i4 (by omega)
      have gl : g.length = n - n := by rw [← i8, List.length_drop, lG]
      have eg : g = [] := List.eq_nil_of_length_eq_zero (by omega)
      subst eg
      refine ⟨oh_mA (oh_mF h (oh_u2 F 269 (a + 8) r)) B, ?_, _, B, rfl, fun c b z1 z2 => ?_, i3, ?_, ?_, i13⟩
      · simp only [b_X4_follow_14, f_X4_follow_119, g_448_0, g_449_0, g_450_0, g_451_0, g_452_0, g_453_0, g_454_0, g_455_0, p_455_0, g_456_0, p_456_0, g_457_0, p_457_0, g_458_0, p_458_0, g_459_0, p_459_0, g_460_0, p_460_0, g_461_0, p_461_0, rc_0, g_0_5, rc_5, g_320_7, p_320_7, g_321_7, p_321_7, g_322_7, p_322_7, g_323_7, p_323_7, g_324_7, p_324_7, rc_7, g_256_8, g_257_8, g_258_8, g_259_8, g_260_8, g_261_8, g_262_8, g_263_8, p_263_8, g_264_8, p_264_8, g_265_8, p_265_8, g_266_8, g_267_8, p_267_8, g_268_8, p_268_8, g_269_8, p_269_8, g_270_8, p_270_8, rc_8, g_192_17, p_192_17, g_193_17, g_194_17, g_195_17, p_195_17, g_196_17, p_196_17, g_197_17, p_197_17, g_198_17, p_198_17, g_199_17, p_199_17, g_200_17, p_200_17, g_201_17, p_201_17, g_202_17, p_202_17, g_203_17, p_203_17, g_204_17, p_204_17, g_205_17, p_205_17, rc_17, g_192_20, p_192_20, g_193_20, g_194_20, g_195_20, p_195_20, g_196_20, p_196_20, g_197_20, p_197_20, g_198_20, p_198_20, g_199_20, p_199_20, g_200_20, p_200_20, g_201_20, p_201_20, g_202_20, p_202_20, g_203_20, p_203_20, g_204_20, p_204_20, g_205_20, p_205_20, rc_20, g_192_23, p_192_23, g_193_23, g_194_23, g_195_23, p_195_23, g_196_23, p_196_23, g_197_23, p_197_23, g_198_23, p_198_23, g_199_23, p_199_23, g_200_23, p_200_23, g_201_23, p_201_23, g_202_23, p_202_23, g_203_23, p_203_23, g_204_23, p_204_23, g_205_23, p_205_23, rc_23, g_512_26, p_512_26, g_513_26, p_513_26, g_514_26, p_514_26, g_515_26, p_515_26, g_516_26, p_516_26, g_517_26, g_518_26, g_519_26, p_519_26, g_520_26, g_521_26, g_522_26, g_523_26, g_524_26, g_525_26, g_526_26, g_527_26, g_528_26, g_529_26, g_530_26, g_531_26, g_532_26, g_533_26, g_534_26, g_535_26, g_536_26, g_537_26, g_538_26, g_539_26, g_540_26, g_541_26, p_541_26, g_542_26, g_543_26, g_544_26, g_545_26, g_546_26, g_547_26, g_548_26, g_549_26, g_550_26, g_551_26, p_551_26, g_552_26, p_552_26, g_553_26, p_553_26, g_554_26, p_554_26, g_555_26, p_555_26, g_556_26, p_556_26, g_557_26, p_557_26, g_558_26, p_558_26, g_559_26, p_559_26, g_560_26, g_561_26, p_561_26, g_562_26, g_563_26, g_564_26, p_564_26, g_565_26, p_565_26, rc_26, ai_1, ai_2, ai_3, ai_4, ai_6, ti_6, ai_9, ti_9, ai_10, ti_10, ai_11, ti_11, ai_12, ti_12, ai_13, ti_13, ai_14, ti_14, ai_15, ti_15, ai_16, ti_16, ai_18, ai_19, ti_19, ai_21, ai_22, ti_22, ai_24, ai_25, ti_25, ai_27, ti_27, ai_28, ti_28, ai_29, ti_29, ai_30, ti_30, ai_31, ti_31, ai_32, ti_32, ai_33, ti_33, ai_34, ti_34, ai_35, ti_35, ai_36, ti_36, ai_37, ti_37, ai_38, ti_38, ai_39, ti_39, ai_40, ti_40, ai_41, ti_41, ai_42, ti_42, ai_43, ti_43, ai_44, ti_44, ai_45, ti_45, ai_46, ti_46, ai_47, ti_47, ai_48, ti_48, ai_49, ti_49, ai_50, ti_50, ai_51, ti_51, ai_52, ti_52, ai_53, ti_53, ai_54, ti_54, ai_55, ti_55, ai_56, ti_56, ai_57, ti_57, ai_58, ti_58, ai_59, ti_59, ai_60, ti_60, ai_61, ti_61, Option.bind_some, oh_lt_eq, e_bz0, e_bz1, e_in, e_isWithin, e_isFarmer, e_isSort, ite01, i10, PS_wI, PS_wL, PS_sI, PS_sL, pw_wI, pw_wL, pw_wR, pw_sI, pw_sL, pw_sR, oh_u2, Nat.add_left_cancel_iff, Nat.reduceEqDiff, Nat.add_eq_left, Nat.left_eq_add, reduceCtorEq, false_and, true_and, and_true, and_false, if_false, if_true, P', pw_mA, pw_mF, mAF_w, f267', Int32.le_refl, r1, Option.map_some]
      · rw [oh_u2_ne1 z2]
        exact i2 c b z1
      · rw [oh_u2_ne1 (by decide), i9, ← i11]
        simp only [pL, Int.add_zero]
      · simp only [oh_u2, and_self, if_true]
        rw [r2, ← i12]
        rfl) (n := 1000000) (σ := (oh_mA (oh_mF h (oh_u2 (oh_FI h) 268 (a + 8) 0)) A, 0, -1, 0, 0)) (by omega) ⟨_, A, 0, none, 0, G, 0, rfl, fun c b z => oh_u2_ne1 z, fun _ _ _ => rfl, hp2, Nat.zero_le _, trivial, OG, rfl, by simp only [oh_u2, and_self, if_true], ⟨by decide, by decide⟩, by rw [i_0, Int.zero_add], rfl, fun j hj => absurd hj (Nat.not_lt_zero _)⟩
  subst k2
  refine ⟨F, B, G, ?_, k3, k4, by rw [← tb_0]; exact OG, k5, k6, k7⟩
  have e14 : f_X4_follow_14 (oh_mA (oh_mF h (oh_u2 (oh_FI h) 268 (a + 8) 0)) A) (a + 8) 0 (-1) 0 0 = some (oh_mA (oh_mF h F) B) := by
    unfold f_X4_follow_14
    exact k1
  have e0 : oh_wI (oh_mA h A) 268 (a + 8) 0 = oh_mA (oh_mF h (oh_u2 (oh_FI h) 268 (a + 8) 0)) A := rfl
  simp only [f_X4_follow, g_448_0, g_449_0, g_450_0, g_451_0, g_452_0, g_453_0, g_454_0, g_455_0, p_455_0, g_456_0, p_456_0, g_457_0, p_457_0, g_458_0, p_458_0, g_459_0, p_459_0, g_460_0, p_460_0, g_461_0, p_461_0, rc_0, g_0_5, rc_5, g_320_7, p_320_7, g_321_7, p_321_7, g_322_7, p_322_7, g_323_7, p_323_7, g_324_7, p_324_7, rc_7, g_256_8, g_257_8, g_258_8, g_259_8, g_260_8, g_261_8, g_262_8, g_263_8, p_263_8, g_264_8, p_264_8, g_265_8, p_265_8, g_266_8, g_267_8, p_267_8, g_268_8, p_268_8, g_269_8, p_269_8, g_270_8, p_270_8, rc_8, g_192_17, p_192_17, g_193_17, g_194_17, g_195_17, p_195_17, g_196_17, p_196_17, g_197_17, p_197_17, g_198_17, p_198_17, g_199_17, p_199_17, g_200_17, p_200_17, g_201_17, p_201_17, g_202_17, p_202_17, g_203_17, p_203_17, g_204_17, p_204_17, g_205_17, p_205_17, rc_17, g_192_20, p_192_20, g_193_20, g_194_20, g_195_20, p_195_20, g_196_20, p_196_20, g_197_20, p_197_20, g_198_20, p_198_20, g_199_20, p_199_20, g_200_20, p_200_20, g_201_20, p_201_20, g_202_20, p_202_20, g_203_20, p_203_20, g_204_20, p_204_20, g_205_20, p_205_20, rc_20, g_192_23, p_192_23, g_193_23, g_194_23, g_195_23, p_195_23, g_196_23, p_196_23, g_197_23, p_197_23, g_198_23, p_198_23, g_199_23, p_199_23, g_200_23, p_200_23, g_201_23, p_201_23, g_202_23, p_202_23, g_203_23, p_203_23, g_204_23, p_204_23, g_205_23, p_205_23, rc_23, g_512_26, p_512_26, g_513_26, p_513_26, g_514_26, p_514_26, g_515_26, p_515_26, g_516_26, p_516_26, g_517_26, g_518_26, g_519_26, p_519_26, g_520_26, g_521_26, g_522_26, g_523_26, g_524_26, g_525_26, g_526_26, g_527_26, g_528_26, g_529_26, g_530_26, g_531_26, g_532_26, g_533_26, g_534_26, g_535_26, g_536_26, g_537_26, g_538_26, g_539_26, g_540_26, g_541_26, p_541_26, g_542_26, g_543_26, g_544_26, g_545_26, g_546_26, g_547_26, g_548_26, g_549_26, g_550_26, g_551_26, p_551_26, g_552_26, p_552_26, g_553_26, p_553_26, g_554_26, p_554_26, g_555_26, p_555_26, g_556_26, p_556_26, g_557_26, p_557_26, g_558_26, p_558_26, g_559_26, p_559_26, g_560_26, g_561_26, p_561_26, g_562_26, g_563_26, g_564_26, p_564_26, g_565_26, p_565_26, rc_26, ai_1, ai_2, ai_3, ai_4, ai_6, ti_6, ai_9, ti_9, ai_10, ti_10, ai_11, ti_11, ai_12, ti_12, ai_13, ti_13, ai_14, ti_14, ai_15, ti_15, ai_16, ti_16, ai_18, ai_19, ti_19, ai_21, ai_22, ti_22, ai_24, ai_25, ti_25, ai_27, ti_27, ai_28, ti_28, ai_29, ti_29, ai_30, ti_30, ai_31, ti_31, ai_32, ti_32, ai_33, ti_33, ai_34, ti_34, ai_35, ti_35, ai_36, ti_36, ai_37, ti_37, ai_38, ti_38, ai_39, ti_39, ai_40, ti_40, ai_41, ti_41, ai_42, ti_42, ai_43, ti_43, ai_44, ti_44, ai_45, ti_45, ai_46, ti_46, ai_47, ti_47, ai_48, ti_48, ai_49, ti_49, ai_50, ti_50, ai_51, ti_51, ai_52, ti_52, ai_53, ti_53, ai_54, ti_54, ai_55, ti_55, ai_56, ti_56, ai_57, ti_57, ai_58, ti_58, ai_59, ti_59, ai_60, ti_60, ai_61, ti_61, Option.bind_some, oh_lt_eq, e_bz0, e_bz1, e_in, e_isWithin, e_isFarmer, e_isSort, ite01, i10, PS_wI, PS_wL, PS_sI, PS_sL, pw_wI, pw_wL, pw_wR, pw_sI, pw_sL, pw_sR, oh_u2, Nat.add_left_cancel_iff, Nat.reduceEqDiff, Nat.add_eq_left, Nat.left_eq_add, reduceCtorEq, false_and, true_and, and_true, and_false, if_false, if_true, PS_mA, P, e0, e14]
