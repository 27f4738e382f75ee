/-! debts -/
def oh_mA (h : oh_H) (F : Nat → Nat → Int32) : oh_H := (oh_sz h, oh_K h, oh_FI h, oh_FL h, oh_FR h, oh_N h, F, oh_AL h, oh_AR h)
theorem pw_mA (h : oh_H) (F : Nat → Nat → Int32) : oh_sz (oh_mA h F) = oh_sz h ∧ oh_K (oh_mA h F) = oh_K h ∧ oh_FI (oh_mA h F) = oh_FI h ∧ oh_FL (oh_mA h F) = oh_FL h ∧ oh_FR (oh_mA h F) = oh_FR h ∧ oh_N (oh_mA h F) = oh_N h ∧ oh_AI (oh_mA h F) = F ∧ oh_AL (oh_mA h F) = oh_AL h ∧ oh_AR (oh_mA h F) = oh_AR h := ⟨rfl, rfl, rfl, rfl, rfl, rfl, rfl, rfl, rfl⟩
theorem PS_mA {h : oh_H} {a : Nat} {F : Nat → Nat → Int32} : PS (oh_mA h F) a ↔ PS h a := Iff.rfl
def setRow (F : Nat → Nat → Int32) (b : Nat) (w : Nat → Int32) : Nat → Nat → Int32 := fun c i => if c = b then w i else F c i
def up1 (w : Nat → Int32) (i : Nat) (x : Int32) : Nat → Int32 := fun j => if j = i then x else w j
theorem mA_s {h : oh_H} {F : Nat → Nat → Int32} {b i : Nat} {w : Nat → Int32} {x : Int32} : oh_sI (oh_mA h (setRow F b w)) b i x = oh_mA h (setRow F b (up1 w i x)) := by
  have e : oh_u2 (setRow F b w) b i x = setRow F b (up1 w i x) := by
    funext c j
    simp only [oh_u2, setRow, up1]
    by_cases p : c = b <;> by_cases q : j = i <;> simp only [p, q, and_self, and_true, and_false, false_and, true_and, if_true, if_false]
  show oh_mA h (oh_u2 (setRow F b w) b i x) = _
  rw [e]
theorem setRow_id (F : Nat → Nat → Int32) (b : Nat) : setRow F b (F b) = F := by
  funext c i
  simp only [setRow]
  by_cases p : c = b
  · rw [if_pos p, p]
  · rw [if_neg p]
theorem setRow_b (F : Nat → Nat → Int32) (b : Nat) (w : Nat → Int32) (i : Nat) : setRow F b w b i = w i := by
  simp only [setRow, if_true]
theorem setRow_n {F : Nat → Nat → Int32} {b c : Nat} {w : Nat → Int32} {i : Nat} (q : c ≠ b) : setRow F b w c i = F c i := by
  simp only [setRow, q, if_false]
def pyN (o r j : Int) : Int := min r ((100 * o + (100 + 10 * j) - 1) / (100 + 10 * j))
def pyO (o r j : Int) : Int := o - min o (pyN o r j * (100 + 10 * j) / 100)
theorem py_ok {o r j : Int} (ho : 0 ≤ o) (hr : 0 ≤ r) (hj : j = 0 ∨ j = 1 ∨ j = 2) : 0 ≤ pyN o r j ∧ pyN o r j ≤ r ∧ 0 ≤ pyO o r j ∧ pyO o r j ≤ o ∧ (r = 0 → pyN o r j = 0 ∧ pyO o r j = o) ∧ (o = 0 → pyN o r j = 0 ∧ pyO o r j = o) ∧ 0 ≤ pyN o r j * (100 + 10 * j) / 100 := by
  unfold pyO pyN
  rcases hj with q | q | q <;> subst q <;> omega
def TT (f s : Nat) : Nat → Nat → (Nat → Int32) → Int32 → (Nat → Int32) × Int32
  | 0, _, w, r => (w, r)
  | d + 1, t, w, r => TT f s d (t + 1) (up1 w (3 * f + t) (Int32.ofInt (pyO (w (3 * f + t)).toInt r.toInt ((t : Int) - s)))) (Int32.ofInt (r.toInt - pyN (w (3 * f + t)).toInt r.toInt ((t : Int) - s)))
theorem i_ofInt {z : Int} (h1 : -2147483648 ≤ z) (h2 : z < 2147483648) : (Int32.ofInt z).toInt = z := by
  rw [Int32.toInt_ofInt, i_bm h1 h2]
theorem i_ofself (x : Int32) : Int32.ofInt x.toInt = x := Int32.ofInt_toInt x
theorem up1_id (w : Nat → Int32) (i : Nat) : up1 w i (w i) = w := by
  funext j
  simp only [up1]
  by_cases p : j = i
  · rw [if_pos p, p]
  · rw [if_neg p]
theorem TT_0 {f s : Nat} : ∀ (d t : Nat) (w : Nat → Int32), (∀ k, k < 120 → 0 ≤ (w k).toInt) → s ≤ t → t + d = 3 → f < 40 → TT f s d t w 0 = (w, 0) := by
  intro d
  induction d with
  | zero => exact fun _ _ _ _ _ _ => rfl
  | succ d ih =>
    intro t w hw h1 h2 hf
    have e := (py_ok (hw (3 * f + t) (by omega)) (Int.le_refl 0) (j := (t : Int) - s) (by omega)).2.2.2.2.1 rfl
    simp only [TT]
    rw [i_0, e.1, e.2, i_ofself, up1_id, show Int32.ofInt (0 - 0) = 0 from rfl]
    exact ih (t + 1) w hw (by omega) (by omega) hf
theorem l_toI {x : Int64} (h1 : -2147483648 ≤ x.toInt) (h2 : x.toInt < 2147483648) : x.toInt32.toInt = x.toInt := by
  rw [Int64.toInt_toInt32, i_bm h1 h2]
theorem fm_i {s t : Nat} (h1 : s ≤ t) (h2 : t < 3) : ((100 : Int32) + (10 : Int32) * (nI t - nI s)).toInt = 100 + 10 * ((t : Int) - s) := by
  have e1 : (nI t - nI s).toInt = (t : Int) - s := by
    rw [i_sub] <;> rw [nI_toInt (by omega), nI_toInt (by omega)] <;> omega
  have e2 : ((10 : Int32) * (nI t - nI s)).toInt = 10 * ((t : Int) - s) := by
    rw [i_mul] <;> rw [e1, show (10 : Int32).toInt = 10 from rfl] <;> omega
  rw [i_add] <;> rw [e2, show (100 : Int32).toInt = 100 from rfl] <;> omega
theorem fm_l {s t : Nat} (h1 : s ≤ t) (h2 : t < 3) : ((100 : Int64) + (10 : Int64) * (nI t - nI s).toInt64).toInt = 100 + 10 * ((t : Int) - s) := by
  have e1 : (nI t - nI s).toInt = (t : Int) - s := by
    rw [i_sub] <;> rw [nI_toInt (by omega), nI_toInt (by omega)] <;> omega
  have e2 : ((10 : Int64) * (nI t - nI s).toInt64).toInt = 10 * ((t : Int) - s) := by
    rw [l_mul] <;> rw [Int32.toInt_toInt64, e1, show (10 : Int64).toInt = 10 from rfl] <;> omega
  rw [l_add] <;> rw [e2, show (100 : Int64).toInt = 100 from rfl] <;> omega
theorem l_ne0 {x : Int64} (h : 1 ≤ x.toInt) : (x = 0) = False := eq_false (by
  rw [l_eq, show (0 : Int64).toInt = 0 from rfl]
  omega)
theorem l_100 : ((100 : Int64) = 0) = False := eq_false (by decide)
/-- how many tenths a debt takes at most -/
theorem e_up {h : oh_H} {o : Int32} {m : Int64} {j : Int} (ho : 0 ≤ o.toInt) (hj : j = 0 ∨ j = 1 ∨ j = 2) (hm : m.toInt = 100 + 10 * j) : ∃ x : Int64, x.toInt = (100 * o.toInt + (100 + 10 * j) - 1) / (100 + 10 * j) ∧ f_X7_divideUp h ((100 : Int64) * o.toInt64) m = some x ∧ ((100 : Int64) * o.toInt64 + m - 1) / m = x := by
  have h5 := o.toInt_lt
  have e1 : ((100 : Int64) * o.toInt64).toInt = 100 * o.toInt := by
    rw [l_mul] <;> rw [Int32.toInt_toInt64, show (100 : Int64).toInt = 100 from rfl] <;> omega
  have e2 : ((100 : Int64) * o.toInt64 + m).toInt = 100 * o.toInt + (100 + 10 * j) := by
    rw [l_add] <;> rw [e1, hm] <;> omega
  have e3 : ((100 : Int64) * o.toInt64 + m - 1).toInt = 100 * o.toInt + (100 + 10 * j) - 1 := by
    rw [l_sub] <;> rw [e2, show (1 : Int64).toInt = 1 from rfl] <;> omega
  refine ⟨((100 : Int64) * o.toInt64 + m - 1) / m, ?_, ?_, rfl⟩
  · rw [l_div (by omega) (by omega), e3, hm]
  · have e4 : (1 ≤ m.toInt) = True := eq_true (by omega)
    simp only [f_X7_divideUp, f_X7_divideUp_17, cmp_ge1, e4, l_ne0 (x := m) (by omega), if_true, if_false]
set_option maxHeartbeats 2000000 in
theorem c_settle {h : oh_H} {a f s : Nat} {v3 : Int32} (P : PS h a) (hf : f < 40) (hf2 : (0 : Int32) ≤ nI f ∧ nI f ≤ 39) : ∀ (d t : Nat) (w : Nat → Int32) (r : Int32) (fuel : Nat), t + d = 3 → s ≤ t → d < fuel → (∀ k, k < 120 → 0 ≤ (w k).toInt) → 0 ≤ r.toInt → oh_loop (fun s_1 : oh_H × Int32 × Int32 => b_X0_settle_6 s_1.1 (a + 5) (nI f) (nI s) v3 s_1.2.1 s_1.2.2) fuel (oh_mA h (setRow (oh_AI h) (a + 6) w), r, nI t) = some (v3 - (TT f s d t w r).2, oh_mA h (setRow (oh_AI h) (a + 6) (TT f s d t w r).1)) := by
  intro d
  induction d with
  | zero =>
    intro t w r fuel h1 h2 h3 h4 h5
    have et : t = 3 := by omega
    subst et
    match fuel, h3 with
    | n + 1, _ =>
      have hle : ((3 : Int32) ≤ nI 3) = True := by rw [i_3n (by omega)]; exact eq_true (by omega)
      simp only [oh_loop, b_X0_settle_6, f_X0_settle_97, hle, if_true, Option.map_some, TT]
  | succ d ih =>
    intro t w r fuel h1 h2 h3 h4 h5
    match fuel, h3 with
    | n + 1, h3 =>
      have hle : ((3 : Int32) ≤ nI t) = False := by rw [i_3n (by omega)]; exact eq_false (by omega)
      by_cases q : r ≤ 0
      · have q2 := i_le.mp q
        rw [i_0] at q2
        have er : r = 0 := by rw [i_eq, i_0]; omega
        subst er
        simp only [oh_loop, b_X0_settle_6, f_X0_settle_97, hle, q, if_true, if_false, Option.map_some, TT_0 (d + 1) t w h4 h2 h1 hf]
      · have ht : t < 3 := by omega
        have hk : 3 * f + t < 120 := by omega
        have ho := h4 _ hk
        have hj : (t : Int) - s = 0 ∨ (t : Int) - s = 1 ∨ (t : Int) - s = 2 := by omega
        have em := fm_i h2 ht
        have P' : PS (oh_mA h (setRow (oh_AI h) (a + 6) w)) a := P
        have co := c_owed P' hf ht hf2
        rw [(pw_mA h _).2.2.2.2.2.2.1, setRow_b] at co
        have em64 : (((100 : Int32) + (10 : Int32) * (nI t - nI s)).toInt64).toInt = 100 + 10 * ((t : Int) - s) := by rw [Int32.toInt_toInt64, em]
        obtain ⟨x, x1, x2, _⟩ := e_up (h := oh_mA h (setRow (oh_AI h) (a + 6) w)) ho hj em64
        have ok := py_ok ho h5 hj
        have hr := r.toInt_lt
        have hol := (w (3 * f + t)).toInt_lt
        have e9 : (if x < r.toInt64 then x else r.toInt64).toInt = pyN (w (3 * f + t)).toInt r.toInt ((t : Int) - s) := by
          unfold pyN
          rw [← x1]
          by_cases z : x < r.toInt64
          · rw [if_pos z]
            rw [l_lt, Int32.toInt_toInt64] at z
            omega
          · rw [if_neg z]
            rw [l_lt, Int32.toInt_toInt64] at z
            rw [Int32.toInt_toInt64]
            omega
        have e10 : ((if x < r.toInt64 then x else r.toInt64) * ((100 : Int32) + (10 : Int32) * (nI t - nI s)).toInt64).toInt = pyN (w (3 * f + t)).toInt r.toInt ((t : Int) - s) * (100 + 10 * ((t : Int) - s)) := by
          rw [l_mul] <;> rw [e9, em64] <;> rcases hj with z | z | z <;> rw [z] at ok ⊢ <;> omega
        have e11 : ((if x < r.toInt64 then x else r.toInt64) * ((100 : Int32) + (10 : Int32) * (nI t - nI s)).toInt64 / 100).toInt = pyN (w (3 * f + t)).toInt r.toInt ((t : Int) - s) * (100 + 10 * ((t : Int) - s)) / 100 := by
          rw [l_div (by rw [e10]; rcases hj with z | z | z <;> rw [z] at ok ⊢ <;> omega) (by decide), e10]
          rfl
        have e12 : (if (if x < r.toInt64 then x else r.toInt64) * ((100 : Int32) + (10 : Int32) * (nI t - nI s)).toInt64 / 100 < (w (3 * f + t)).toInt64 then (if x < r.toInt64 then x else r.toInt64) * ((100 : Int32) + (10 : Int32) * (nI t - nI s)).toInt64 / 100 else (w (3 * f + t)).toInt64).toInt = (w (3 * f + t)).toInt - pyO (w (3 * f + t)).toInt r.toInt ((t : Int) - s) := by
          unfold pyO
          by_cases z : (if x < r.toInt64 then x else r.toInt64) * ((100 : Int32) + (10 : Int32) * (nI t - nI s)).toInt64 / 100 < (w (3 * f + t)).toInt64
          · rw [if_pos z]
            rw [l_lt, Int32.toInt_toInt64, e11] at z
            rw [e11]
            omega
          · rw [if_neg z]
            rw [l_lt, Int32.toInt_toInt64, e11] at z
            rw [Int32.toInt_toInt64]
            omega
        have e13 : w (3 * f + t) + (-(if (if x < r.toInt64 then x else r.toInt64) * ((100 : Int32) + (10 : Int32) * (nI t - nI s)).toInt64 / 100 < (w (3 * f + t)).toInt64 then (if x < r.toInt64 then x else r.toInt64) * ((100 : Int32) + (10 : Int32) * (nI t - nI s)).toInt64 / 100 else (w (3 * f + t)).toInt64)).toInt32 = Int32.ofInt (pyO (w (3 * f + t)).toInt r.toInt ((t : Int) - s)) := by
          have n1 : (-(if (if x < r.toInt64 then x else r.toInt64) * ((100 : Int32) + (10 : Int32) * (nI t - nI s)).toInt64 / 100 < (w (3 * f + t)).toInt64 then (if x < r.toInt64 then x else r.toInt64) * ((100 : Int32) + (10 : Int32) * (nI t - nI s)).toInt64 / 100 else (w (3 * f + t)).toInt64)).toInt = pyO (w (3 * f + t)).toInt r.toInt ((t : Int) - s) - (w (3 * f + t)).toInt := by
            rw [Int64.toInt_neg, e12, l_bm (by omega) (by omega)]
            omega
          rw [i_eq, i_ofInt (by omega) (by omega), i_add] <;> rw [l_toI] <;> rw [n1] <;> omega
        have e14 : r - (if x < r.toInt64 then x else r.toInt64).toInt32 = Int32.ofInt (r.toInt - pyN (w (3 * f + t)).toInt r.toInt ((t : Int) - s)) := by
          rw [i_eq, i_ofInt (by omega) (by omega), i_sub] <;> rw [l_toI] <;> rw [e9] <;> omega
        have I := ih (t + 1) (up1 w (3 * f + t) (Int32.ofInt (pyO (w (3 * f + t)).toInt r.toInt ((t : Int) - s)))) (Int32.ofInt (r.toInt - pyN (w (3 * f + t)).toInt r.toInt ((t : Int) - s))) n (by omega) (by omega) (by omega) (fun k hk2 => by
          simp only [up1]
          by_cases z : k = 3 * f + t
          · rw [if_pos z, i_ofInt (by omega) (by omega)]
            omega
          · rw [if_neg z]
            exact h4 k hk2) (by rw [i_ofInt (by omega) (by omega)]; omega)
        have B : b_X0_settle_6 (oh_mA h (setRow (oh_AI h) (a + 6) w)) (a + 5) (nI f) (nI s) v3 r (nI t) = some (Sum.inl (oh_mA h (setRow (oh_AI h) (a + 6) (up1 w (3 * f + t) (Int32.ofInt (pyO (w (3 * f + t)).toInt r.toInt ((t : Int) - s))))), Int32.ofInt (r.toInt - pyN (w (3 * f + t)).toInt r.toInt ((t : Int) - s)), nI (t + 1))) := by
          simp only [b_X0_settle_6, f_X0_change, f_X0_change_28, hle, q, co, x2, l_100, g_448_0, g_449_0, g_450_0, g_451_0, g_452_0, g_453_0, g_454_0, g_455_0, p_455_0, g_456_0, p_456_0, g_457_0, p_457_0, g_458_0, p_458_0, g_459_0, p_459_0, g_460_0, p_460_0, g_461_0, p_461_0, rc_0, g_0_5, rc_5, g_320_7, p_320_7, g_321_7, p_321_7, g_322_7, p_322_7, g_323_7, p_323_7, g_324_7, p_324_7, rc_7, g_256_8, g_257_8, g_258_8, g_259_8, g_260_8, g_261_8, g_262_8, g_263_8, p_263_8, g_264_8, p_264_8, g_265_8, p_265_8, g_266_8, g_267_8, p_267_8, g_268_8, p_268_8, g_269_8, p_269_8, g_270_8, p_270_8, rc_8, g_192_17, p_192_17, g_193_17, g_194_17, g_195_17, p_195_17, g_196_17, p_196_17, g_197_17, p_197_17, g_198_17, p_198_17, g_199_17, p_199_17, g_200_17, p_200_17, g_201_17, p_201_17, g_202_17, p_202_17, g_203_17, p_203_17, g_204_17, p_204_17, g_205_17, p_205_17, rc_17, g_192_20, p_192_20, g_193_20, g_194_20, g_195_20, p_195_20, g_196_20, p_196_20, g_197_20, p_197_20, g_198_20, p_198_20, g_199_20, p_199_20, g_200_20, p_200_20, g_201_20, p_201_20, g_202_20, p_202_20, g_203_20, p_203_20, g_204_20, p_204_20, g_205_20, p_205_20, rc_20, g_192_23, p_192_23, g_193_23, g_194_23, g_195_23, p_195_23, g_196_23, p_196_23, g_197_23, p_197_23, g_198_23, p_198_23, g_199_23, p_199_23, g_200_23, p_200_23, g_201_23, p_201_23, g_202_23, p_202_23, g_203_23, p_203_23, g_204_23, p_204_23, g_205_23, p_205_23, rc_23, g_512_26, p_512_26, g_513_26, p_513_26, g_514_26, p_514_26, g_515_26, p_515_26, g_516_26, p_516_26, g_517_26, g_518_26, g_519_26, p_519_26, g_520_26, g_521_26, g_522_26, g_523_26, g_524_26, g_525_26, g_526_26, g_527_26, g_528_26, g_529_26, g_530_26, g_531_26, g_532_26, g_533_26, g_534_26, g_535_26, g_536_26, g_537_26, g_538_26, g_539_26, g_540_26, g_541_26, p_541_26, g_542_26, g_543_26, g_544_26, g_545_26, g_546_26, g_547_26, g_548_26, g_549_26, g_550_26, g_551_26, p_551_26, g_552_26, p_552_26, g_553_26, p_553_26, g_554_26, p_554_26, g_555_26, p_555_26, g_556_26, p_556_26, g_557_26, p_557_26, g_558_26, p_558_26, g_559_26, p_559_26, g_560_26, g_561_26, p_561_26, g_562_26, g_563_26, g_564_26, p_564_26, g_565_26, p_565_26, rc_26, ai_1, ai_2, ai_3, ai_4, ai_6, ti_6, ai_9, ti_9, ai_10, ti_10, ai_11, ti_11, ai_12, ti_12, ai_13, ti_13, ai_14, ti_14, ai_15, ti_15, ai_16, ti_16, ai_18, ai_19, ti_19, ai_21, ai_22, ti_22, ai_24, ai_25, ti_25, ai_27, ti_27, ai_28, ti_28, ai_29, ti_29, ai_30, ti_30, ai_31, ti_31, ai_32, ti_32, ai_33, ti_33, ai_34, ti_34, ai_35, ti_35, ai_36, ti_36, ai_37, ti_37, ai_38, ti_38, ai_39, ti_39, ai_40, ti_40, ai_41, ti_41, ai_42, ti_42, ai_43, ti_43, ai_44, ti_44, ai_45, ti_45, ai_46, ti_46, ai_47, ti_47, ai_48, ti_48, ai_49, ti_49, ai_50, ti_50, ai_51, ti_51, ai_52, ti_52, ai_53, ti_53, ai_54, ti_54, ai_55, ti_55, ai_56, ti_56, ai_57, ti_57, ai_58, ti_58, ai_59, ti_59, ai_60, ti_60, ai_61, ti_61, Option.bind_some, oh_lt, e_bz0, e_bz1, e_in, e_isWithin, e_isFarmer, e_isSort, ite01, i10, PS_wI, PS_wL, PS_sI, PS_sL, pw_wI, pw_wL, pw_wR, pw_sI, pw_sL, pw_sR, oh_u2, Nat.add_left_cancel_iff, Nat.reduceEqDiff, Nat.add_eq_left, Nat.left_eq_add, reduceCtorEq, false_and, true_and, and_true, and_false, if_false, if_true, P, PS_mA, hf2, i_in3 ht, and_self, ix_c, hk, pw_mA, setRow_b, mA_s, e13, e14, iN_succ]
        simp only [oh_loop, B, I, TT]
theorem ix_mm (f s : Nat) : 3 * nI f + nI s = nI (3 * f + s) := ix_m f s
set_option maxHeartbeats 2000000 in
theorem m_pays {h : oh_H} {a f s : Nat} {v3 : Int32} (P : PS h a) (hf : f < 40) : ∀ (d t : Nat) (w : Nat → Int32) (r : Int32) (fuel : Nat), t + d = 3 → s ≤ t → d < fuel → (∀ k, k < 120 → 0 ≤ (w k).toInt) → 0 ≤ r.toInt → oh_loop (fun s_1 : oh_H × Int32 × Int32 => b_X8_pays_6 s_1.1 (a + 26) (nI f) (nI s) v3 s_1.2.1 s_1.2.2) fuel (oh_mA h (setRow (oh_AI h) (a + 58) w), r, nI t) = some (v3 - (TT f s d t w r).2, oh_mA h (setRow (oh_AI h) (a + 58) (TT f s d t w r).1)) := by
  intro d
  induction d with
  | zero =>
    intro t w r fuel h1 h2 h3 h4 h5
    have et : t = 3 := by omega
    subst et
    match fuel, h3 with
    | n + 1, _ =>
      have hle : ((3 : Int32) ≤ nI 3) = True := by rw [i_3n (by omega)]; exact eq_true (by omega)
      simp only [oh_loop, b_X8_pays_6, hle, if_true, Option.map_some, TT]
  | succ d ih =>
    intro t w r fuel h1 h2 h3 h4 h5
    match fuel, h3 with
    | n + 1, h3 =>
      have hle : ((3 : Int32) ≤ nI t) = False := by rw [i_3n (by omega)]; exact eq_false (by omega)
      have ht : t < 3 := by omega
      have hk : 3 * f + t < 120 := by omega
      have ho := h4 _ hk
      have hj : (t : Int) - s = 0 ∨ (t : Int) - s = 1 ∨ (t : Int) - s = 2 := by omega
      have ok := py_ok ho h5 hj
      have hr := r.toInt_lt
      have hol := (w (3 * f + t)).toInt_lt
      have I := ih (t + 1) (up1 w (3 * f + t) (Int32.ofInt (pyO (w (3 * f + t)).toInt r.toInt ((t : Int) - s)))) (Int32.ofInt (r.toInt - pyN (w (3 * f + t)).toInt r.toInt ((t : Int) - s))) n (by omega) (by omega) (by omega) (fun k hk2 => by
        simp only [up1]
        by_cases z : k = 3 * f + t
        · rw [if_pos z, i_ofInt (by omega) (by omega)]
          omega
        · rw [if_neg z]
          exact h4 k hk2) (by rw [i_ofInt (by omega) (by omega)]; omega)
      have B : b_X8_pays_6 (oh_mA h (setRow (oh_AI h) (a + 58) w)) (a + 26) (nI f) (nI s) v3 r (nI t) = some (Sum.inl (oh_mA h (setRow (oh_AI h) (a + 58) (up1 w (3 * f + t) (Int32.ofInt (pyO (w (3 * f + t)).toInt r.toInt ((t : Int) - s))))), Int32.ofInt (r.toInt - pyN (w (3 * f + t)).toInt r.toInt ((t : Int) - s)), nI (t + 1))) := by
        by_cases q0 : w (3 * f + t) = 0
        · have e := ok.2.2.2.2.2.1 (by rw [q0]; rfl)
          have e2 : up1 w (3 * f + t) 0 = w := by rw [← q0]; exact up1_id w _
          rw [e.1, e.2, i_ofself, Int.sub_zero, i_ofself, q0, e2]
          simp only [b_X8_pays_6, f_X8_pays_197, hle, g_448_0, g_449_0, g_450_0, g_451_0, g_452_0, g_453_0, g_454_0, g_455_0, p_455_0, g_456_0, p_456_0, g_457_0, p_457_0, g_458_0, p_458_0, g_459_0, p_459_0, g_460_0, p_460_0, g_461_0, p_461_0, rc_0, g_0_5, rc_5, g_320_7, p_320_7, g_321_7, p_321_7, g_322_7, p_322_7, g_323_7, p_323_7, g_324_7, p_324_7, rc_7, g_256_8, g_257_8, g_258_8, g_259_8, g_260_8, g_261_8, g_262_8, g_263_8, p_263_8, g_264_8, p_264_8, g_265_8, p_265_8, g_266_8, g_267_8, p_267_8, g_268_8, p_268_8, g_269_8, p_269_8, g_270_8, p_270_8, rc_8, g_192_17, p_192_17, g_193_17, g_194_17, g_195_17, p_195_17, g_196_17, p_196_17, g_197_17, p_197_17, g_198_17, p_198_17, g_199_17, p_199_17, g_200_17, p_200_17, g_201_17, p_201_17, g_202_17, p_202_17, g_203_17, p_203_17, g_204_17, p_204_17, g_205_17, p_205_17, rc_17, g_192_20, p_192_20, g_193_20, g_194_20, g_195_20, p_195_20, g_196_20, p_196_20, g_197_20, p_197_20, g_198_20, p_198_20, g_199_20, p_199_20, g_200_20, p_200_20, g_201_20, p_201_20, g_202_20, p_202_20, g_203_20, p_203_20, g_204_20, p_204_20, g_205_20, p_205_20, rc_20, g_192_23, p_192_23, g_193_23, g_194_23, g_195_23, p_195_23, g_196_23, p_196_23, g_197_23, p_197_23, g_198_23, p_198_23, g_199_23, p_199_23, g_200_23, p_200_23, g_201_23, p_201_23, g_202_23, p_202_23, g_203_23, p_203_23, g_204_23, p_204_23, g_205_23, p_205_23, rc_23, g_512_26, p_512_26, g_513_26, p_513_26, g_514_26, p_514_26, g_515_26, p_515_26, g_516_26, p_516_26, g_517_26, g_518_26, g_519_26, p_519_26, g_520_26, g_521_26, g_522_26, g_523_26, g_524_26, g_525_26, g_526_26, g_527_26, g_528_26, g_529_26, g_530_26, g_531_26, g_532_26, g_533_26, g_534_26, g_535_26, g_536_26, g_537_26, g_538_26, g_539_26, g_540_26, g_541_26, p_541_26, g_542_26, g_543_26, g_544_26, g_545_26, g_546_26, g_547_26, g_548_26, g_549_26, g_550_26, g_551_26, p_551_26, g_552_26, p_552_26, g_553_26, p_553_26, g_554_26, p_554_26, g_555_26, p_555_26, g_556_26, p_556_26, g_557_26, p_557_26, g_558_26, p_558_26, g_559_26, p_559_26, g_560_26, g_561_26, p_561_26, g_562_26, g_563_26, g_564_26, p_564_26, g_565_26, p_565_26, rc_26, ai_1, ai_2, ai_3, ai_4, ai_6, ti_6, ai_9, ti_9, ai_10, ti_10, ai_11, ti_11, ai_12, ti_12, ai_13, ti_13, ai_14, ti_14, ai_15, ti_15, ai_16, ti_16, ai_18, ai_19, ti_19, ai_21, ai_22, ti_22, ai_24, ai_25, ti_25, ai_27, ti_27, ai_28, ti_28, ai_29, ti_29, ai_30, ti_30, ai_31, ti_31, ai_32, ti_32, ai_33, ti_33, ai_34, ti_34, ai_35, ti_35, ai_36, ti_36, ai_37, ti_37, ai_38, ti_38, ai_39, ti_39, ai_40, ti_40, ai_41, ti_41, ai_42, ti_42, ai_43, ti_43, ai_44, ti_44, ai_45, ti_45, ai_46, ti_46, ai_47, ti_47, ai_48, ti_48, ai_49, ti_49, ai_50, ti_50, ai_51, ti_51, ai_52, ti_52, ai_53, ti_53, ai_54, ti_54, ai_55, ti_55, ai_56, ti_56, ai_57, ti_57, ai_58, ti_58, ai_59, ti_59, ai_60, ti_60, ai_61, ti_61, Option.bind_some, oh_lt, e_bz0, e_bz1, e_in, e_isWithin, e_isFarmer, e_isSort, ite01, i10, PS_wI, PS_wL, PS_sI, PS_sL, pw_wI, pw_wL, pw_wR, pw_sI, pw_sL, pw_sR, oh_u2, Nat.add_left_cancel_iff, Nat.reduceEqDiff, Nat.add_eq_left, Nat.left_eq_add, reduceCtorEq, false_and, true_and, and_true, and_false, if_false, if_true, P, PS_mA, ix_m, hk, pw_mA, setRow_b, q0, iN_succ]
        · by_cases q1 : r = 0
          · have e := ok.2.2.2.2.1 (by rw [q1]; rfl)
            rw [e.1, e.2, i_ofself, Int.sub_zero, i_ofself, up1_id]
            simp only [b_X8_pays_6, f_X8_pays_197, hle, g_448_0, g_449_0, g_450_0, g_451_0, g_452_0, g_453_0, g_454_0, g_455_0, p_455_0, g_456_0, p_456_0, g_457_0, p_457_0, g_458_0, p_458_0, g_459_0, p_459_0, g_460_0, p_460_0, g_461_0, p_461_0, rc_0, g_0_5, rc_5, g_320_7, p_320_7, g_321_7, p_321_7, g_322_7, p_322_7, g_323_7, p_323_7, g_324_7, p_324_7, rc_7, g_256_8, g_257_8, g_258_8, g_259_8, g_260_8, g_261_8, g_262_8, g_263_8, p_263_8, g_264_8, p_264_8, g_265_8, p_265_8, g_266_8, g_267_8, p_267_8, g_268_8, p_268_8, g_269_8, p_269_8, g_270_8, p_270_8, rc_8, g_192_17, p_192_17, g_193_17, g_194_17, g_195_17, p_195_17, g_196_17, p_196_17, g_197_17, p_197_17, g_198_17, p_198_17, g_199_17, p_199_17, g_200_17, p_200_17, g_201_17, p_201_17, g_202_17, p_202_17, g_203_17, p_203_17, g_204_17, p_204_17, g_205_17, p_205_17, rc_17, g_192_20, p_192_20, g_193_20, g_194_20, g_195_20, p_195_20, g_196_20, p_196_20, g_197_20, p_197_20, g_198_20, p_198_20, g_199_20, p_199_20, g_200_20, p_200_20, g_201_20, p_201_20, g_202_20, p_202_20, g_203_20, p_203_20, g_204_20, p_204_20, g_205_20, p_205_20, rc_20, g_192_23, p_192_23, g_193_23, g_194_23, g_195_23, p_195_23, g_196_23, p_196_23, g_197_23, p_197_23, g_198_23, p_198_23, g_199_23, p_199_23, g_200_23, p_200_23, g_201_23, p_201_23, g_202_23, p_202_23, g_203_23, p_203_23, g_204_23, p_204_23, g_205_23, p_205_23, rc_23, g_512_26, p_512_26, g_513_26, p_513_26, g_514_26, p_514_26, g_515_26, p_515_26, g_516_26, p_516_26, g_517_26, g_518_26, g_519_26, p_519_26, g_520_26, g_521_26, g_522_26, g_523_26, g_524_26, g_525_26, g_526_26, g_527_26, g_528_26, g_529_26, g_530_26, g_531_26, g_532_26, g_533_26, g_534_26, g_535_26, g_536_26, g_537_26, g_538_26, g_539_26, g_540_26, g_541_26, p_541_26, g_542_26, g_543_26, g_544_26, g_545_26, g_546_26, g_547_26, g_548_26, g_549_26, g_550_26, g_551_26, p_551_26, g_552_26, p_552_26, g_553_26, p_553_26, g_554_26, p_554_26, g_555_26, p_555_26, g_556_26, p_556_26, g_557_26, p_557_26, g_558_26, p_558_26, g_559_26, p_559_26, g_560_26, g_561_26, p_561_26, g_562_26, g_563_26, g_564_26, p_564_26, g_565_26, p_565_26, rc_26, ai_1, ai_2, ai_3, ai_4, ai_6, ti_6, ai_9, ti_9, ai_10, ti_10, ai_11, ti_11, ai_12, ti_12, ai_13, ti_13, ai_14, ti_14, ai_15, ti_15, ai_16, ti_16, ai_18, ai_19, ti_19, ai_21, ai_22, ti_22, ai_24, ai_25, ti_25, ai_27, ti_27, ai_28, ti_28, ai_29, ti_29, ai_30, ti_30, ai_31, ti_31, ai_32, ti_32, ai_33, ti_33, ai_34, ti_34, ai_35, ti_35, ai_36, ti_36, ai_37, ti_37, ai_38, ti_38, ai_39, ti_39, ai_40, ti_40, ai_41, ti_41, ai_42, ti_42, ai_43, ti_43, ai_44, ti_44, ai_45, ti_45, ai_46, ti_46, ai_47, ti_47, ai_48, ti_48, ai_49, ti_49, ai_50, ti_50, ai_51, ti_51, ai_52, ti_52, ai_53, ti_53, ai_54, ti_54, ai_55, ti_55, ai_56, ti_56, ai_57, ti_57, ai_58, ti_58, ai_59, ti_59, ai_60, ti_60, ai_61, ti_61, Option.bind_some, oh_lt, e_bz0, e_bz1, e_in, e_isWithin, e_isFarmer, e_isSort, ite01, i10, PS_wI, PS_wL, PS_sI, PS_sL, pw_wI, pw_wL, pw_wR, pw_sI, pw_sL, pw_sR, oh_u2, Nat.add_left_cancel_iff, Nat.reduceEqDiff, Nat.add_eq_left, Nat.left_eq_add, reduceCtorEq, false_and, true_and, and_true, and_false, if_false, if_true, P, PS_mA, ix_m, hk, pw_mA, setRow_b, q0, q1, iN_succ]
          · have q0' : 1 ≤ (w (3 * f + t)).toInt := by
              rw [i_eq, i_0] at q0
              omega
            have em64 := fm_l h2 ht
            obtain ⟨x, x1, _, x3⟩ := e_up (h := h) ho hj em64
            have f1 : ((100 : Int64) + (10 : Int64) * (nI t - nI s).toInt64 = 0) = False := l_ne0 (by rw [em64]; omega)
            have xb : 1 ≤ x.toInt ∧ x.toInt ≤ 100 * (w (3 * f + t)).toInt := by
              rw [x1]
              rcases hj with z | z | z <;> rw [z] <;> omega
            have m1 : (x * ((100 : Int64) + (10 : Int64) * (nI t - nI s).toInt64)).toInt = x.toInt * (100 + 10 * ((t : Int) - s)) := by
              rw [l_mul] <;> rw [em64] <;> rcases hj with z | z | z <;> rw [z] <;> omega
            have m2 : (x * ((100 : Int64) + (10 : Int64) * (nI t - nI s).toInt64) / 100).toInt = x.toInt * (100 + 10 * ((t : Int) - s)) / 100 := by
              rw [l_div (by rw [m1]; rcases hj with z | z | z <;> rw [z] <;> omega) (by decide), m1]
              rfl
            have c1 : (0 ≤ lg_cmp (x * ((100 : Int64) + (10 : Int64) * (nI t - nI s).toInt64) / 100) (w (3 * f + t)).toInt64) = True := eq_true (by
              rw [lg_cmp_ge, l_le, Int32.toInt_toInt64, m2, x1]
              rcases hj with z | z | z <;> rw [z] <;> omega)
            have c2 : (lg_cmp x 0 ≤ 0) = False := by rw [cmp_le0]; exact eq_false (by omega)
            have m0 : (x - 1).toInt = x.toInt - 1 := l_sub (by rw [show (1 : Int64).toInt = 1 from rfl]; omega) (by rw [show (1 : Int64).toInt = 1 from rfl]; omega)
            have m3 : ((x - 1) * ((100 : Int64) + (10 : Int64) * (nI t - nI s).toInt64)).toInt = (x.toInt - 1) * (100 + 10 * ((t : Int) - s)) := by
              rw [l_mul] <;> rw [em64, m0] <;> rcases hj with z | z | z <;> rw [z] <;> omega
            have m4 : ((x - 1) * ((100 : Int64) + (10 : Int64) * (nI t - nI s).toInt64) / 100).toInt = (x.toInt - 1) * (100 + 10 * ((t : Int) - s)) / 100 := by
              rw [l_div (by rw [m3]; rcases hj with z | z | z <;> rw [z] <;> omega) (by decide), m3]
              rfl
            have c3 : (lg_cmp ((x - 1) * ((100 : Int64) + (10 : Int64) * (nI t - nI s).toInt64) / 100) (w (3 * f + t)).toInt64 < 0) = True := eq_true (by
              rw [lg_cmp_lt, l_lt, Int32.toInt_toInt64, m4, x1]
              rcases hj with z | z | z <;> rw [z] <;> omega)
            -- the two ways on
            have G : ∀ y : Int32, y.toInt = pyN (w (3 * f + t)).toInt r.toInt ((t : Int) - s) → f_X8_pays_146 (oh_mA h (setRow (oh_AI h) (a + 58) w)) (a + 26) (nI f) (nI s) v3 r (nI t) (w (3 * f + t)) ((100 : Int64) + (10 : Int64) * (nI t - nI s).toInt64) y = some (Sum.inl (oh_mA h (setRow (oh_AI h) (a + 58) (up1 w (3 * f + t) (Int32.ofInt (pyO (w (3 * f + t)).toInt r.toInt ((t : Int) - s))))), Int32.ofInt (r.toInt - pyN (w (3 * f + t)).toInt r.toInt ((t : Int) - s)), nI (t + 1))) := by
              intro y hy
              have n1 : (y.toInt64 * ((100 : Int64) + (10 : Int64) * (nI t - nI s).toInt64)).toInt = pyN (w (3 * f + t)).toInt r.toInt ((t : Int) - s) * (100 + 10 * ((t : Int) - s)) := by
                rw [l_mul] <;> rw [em64, Int32.toInt_toInt64, hy] <;> rcases hj with z | z | z <;> rw [z] at ok ⊢ <;> omega
              have n2 : (y.toInt64 * ((100 : Int64) + (10 : Int64) * (nI t - nI s).toInt64) / 100).toInt = pyN (w (3 * f + t)).toInt r.toInt ((t : Int) - s) * (100 + 10 * ((t : Int) - s)) / 100 := by
                rw [l_div (by rw [n1]; rcases hj with z | z | z <;> rw [z] at ok ⊢ <;> omega) (by decide), n1]
                rfl
              have n3 : r - y = Int32.ofInt (r.toInt - pyN (w (3 * f + t)).toInt r.toInt ((t : Int) - s)) := by
                rw [i_eq, i_ofInt (by omega) (by omega), i_sub] <;> rw [hy] <;> omega
              by_cases z : lg_cmp (y.toInt64 * ((100 : Int64) + (10 : Int64) * (nI t - nI s).toInt64) / 100) (w (3 * f + t)).toInt64 ≤ 0
              · have z2 := z
                rw [lg_cmp_le, l_le, Int32.toInt_toInt64, n2] at z2
                have n4 : w (3 * f + t) - (y.toInt64 * ((100 : Int64) + (10 : Int64) * (nI t - nI s).toInt64) / 100).toInt32 = Int32.ofInt (pyO (w (3 * f + t)).toInt r.toInt ((t : Int) - s)) := by
                  have e5 : pyO (w (3 * f + t)).toInt r.toInt ((t : Int) - s) = (w (3 * f + t)).toInt - pyN (w (3 * f + t)).toInt r.toInt ((t : Int) - s) * (100 + 10 * ((t : Int) - s)) / 100 := by
                    unfold pyO
                    omega
                  rw [i_eq, i_ofInt (by omega) (by omega), i_sub] <;> rw [l_toI] <;> rw [n2] <;> omega
                simp only [f_X8_pays_146, f_X8_pays_189, f_X8_pays_197, l_100, z, n4, n3, g_448_0, g_449_0, g_450_0, g_451_0, g_452_0, g_453_0, g_454_0, g_455_0, p_455_0, g_456_0, p_456_0, g_457_0, p_457_0, g_458_0, p_458_0, g_459_0, p_459_0, g_460_0, p_460_0, g_461_0, p_461_0, rc_0, g_0_5, rc_5, g_320_7, p_320_7, g_321_7, p_321_7, g_322_7, p_322_7, g_323_7, p_323_7, g_324_7, p_324_7, rc_7, g_256_8, g_257_8, g_258_8, g_259_8, g_260_8, g_261_8, g_262_8, g_263_8, p_263_8, g_264_8, p_264_8, g_265_8, p_265_8, g_266_8, g_267_8, p_267_8, g_268_8, p_268_8, g_269_8, p_269_8, g_270_8, p_270_8, rc_8, g_192_17, p_192_17, g_193_17, g_194_17, g_195_17, p_195_17, g_196_17, p_196_17, g_197_17, p_197_17, g_198_17, p_198_17, g_199_17, p_199_17, g_200_17, p_200_17, g_201_17, p_201_17, g_202_17, p_202_17, g_203_17, p_203_17, g_204_17, p_204_17, g_205_17, p_205_17, rc_17, g_192_20, p_192_20, g_193_20, g_194_20, g_195_20, p_195_20, g_196_20, p_196_20, g_197_20, p_197_20, g_198_20, p_198_20, g_199_20, p_199_20, g_200_20, p_200_20, g_201_20, p_201_20, g_202_20, p_202_20, g_203_20, p_203_20, g_204_20, p_204_20, g_205_20, p_205_20, rc_20, g_192_23, p_192_23, g_193_23, g_194_23, g_195_23, p_195_23, g_196_23, p_196_23, g_197_23, p_197_23, g_198_23, p_198_23, g_199_23, p_199_23, g_200_23, p_200_23, g_201_23, p_201_23, g_202_23, p_202_23, g_203_23, p_203_23, g_204_23, p_204_23, g_205_23, p_205_23, rc_23, g_512_26, p_512_26, g_513_26, p_513_26, g_514_26, p_514_26, g_515_26, p_515_26, g_516_26, p_516_26, g_517_26, g_518_26, g_519_26, p_519_26, g_520_26, g_521_26, g_522_26, g_523_26, g_524_26, g_525_26, g_526_26, g_527_26, g_528_26, g_529_26, g_530_26, g_531_26, g_532_26, g_533_26, g_534_26, g_535_26, g_536_26, g_537_26, g_538_26, g_539_26, g_540_26, g_541_26, p_541_26, g_542_26, g_543_26, g_544_26, g_545_26, g_546_26, g_547_26, g_548_26, g_549_26, g_550_26, g_551_26, p_551_26, g_552_26, p_552_26, g_553_26, p_553_26, g_554_26, p_554_26, g_555_26, p_555_26, g_556_26, p_556_26, g_557_26, p_557_26, g_558_26, p_558_26, g_559_26, p_559_26, g_560_26, g_561_26, p_561_26, g_562_26, g_563_26, g_564_26, p_564_26, g_565_26, p_565_26, rc_26, ai_1, ai_2, ai_3, ai_4, ai_6, ti_6, ai_9, ti_9, ai_10, ti_10, ai_11, ti_11, ai_12, ti_12, ai_13, ti_13, ai_14, ti_14, ai_15, ti_15, ai_16, ti_16, ai_18, ai_19, ti_19, ai_21, ai_22, ti_22, ai_24, ai_25, ti_25, ai_27, ti_27, ai_28, ti_28, ai_29, ti_29, ai_30, ti_30, ai_31, ti_31, ai_32, ti_32, ai_33, ti_33, ai_34, ti_34, ai_35, ti_35, ai_36, ti_36, ai_37, ti_37, ai_38, ti_38, ai_39, ti_39, ai_40, ti_40, ai_41, ti_41, ai_42, ti_42, ai_43, ti_43, ai_44, ti_44, ai_45, ti_45, ai_46, ti_46, ai_47, ti_47, ai_48, ti_48, ai_49, ti_49, ai_50, ti_50, ai_51, ti_51, ai_52, ti_52, ai_53, ti_53, ai_54, ti_54, ai_55, ti_55, ai_56, ti_56, ai_57, ti_57, ai_58, ti_58, ai_59, ti_59, ai_60, ti_60, ai_61, ti_61, Option.bind_some, oh_lt, e_bz0, e_bz1, e_in, e_isWithin, e_isFarmer, e_isSort, ite01, i10, PS_wI, PS_wL, PS_sI, PS_sL, pw_wI, pw_wL, pw_wR, pw_sI, pw_sL, pw_sR, oh_u2, Nat.add_left_cancel_iff, Nat.reduceEqDiff, Nat.add_eq_left, Nat.left_eq_add, reduceCtorEq, false_and, true_and, and_true, and_false, if_false, if_true, P, PS_mA, ix_m, hk, pw_mA, mA_s, iN_succ]
              · have z2 := z
                rw [lg_cmp_le, l_le, Int32.toInt_toInt64, n2] at z2
                have n4 : (0 : Int32) = Int32.ofInt (pyO (w (3 * f + t)).toInt r.toInt ((t : Int) - s)) := by
                  have e5 : pyO (w (3 * f + t)).toInt r.toInt ((t : Int) - s) = 0 := by
                    unfold pyO
                    omega
                  rw [e5]
                  rfl
                rw [← n4]
                simp only [f_X8_pays_146, f_X8_pays_189, f_X8_pays_197, l_100, z, n3, g_448_0, g_449_0, g_450_0, g_451_0, g_452_0, g_453_0, g_454_0, g_455_0, p_455_0, g_456_0, p_456_0, g_457_0, p_457_0, g_458_0, p_458_0, g_459_0, p_459_0, g_460_0, p_460_0, g_461_0, p_461_0, rc_0, g_0_5, rc_5, g_320_7, p_320_7, g_321_7, p_321_7, g_322_7, p_322_7, g_323_7, p_323_7, g_324_7, p_324_7, rc_7, g_256_8, g_257_8, g_258_8, g_259_8, g_260_8, g_261_8, g_262_8, g_263_8, p_263_8, g_264_8, p_264_8, g_265_8, p_265_8, g_266_8, g_267_8, p_267_8, g_268_8, p_268_8, g_269_8, p_269_8, g_270_8, p_270_8, rc_8, g_192_17, p_192_17, g_193_17, g_194_17, g_195_17, p_195_17, g_196_17, p_196_17, g_197_17, p_197_17, g_198_17, p_198_17, g_199_17, p_199_17, g_200_17, p_200_17, g_201_17, p_201_17, g_202_17, p_202_17, g_203_17, p_203_17, g_204_17, p_204_17, g_205_17, p_205_17, rc_17, g_192_20, p_192_20, g_193_20, g_194_20, g_195_20, p_195_20, g_196_20, p_196_20, g_197_20, p_197_20, g_198_20, p_198_20, g_199_20, p_199_20, g_200_20, p_200_20, g_201_20, p_201_20, g_202_20, p_202_20, g_203_20, p_203_20, g_204_20, p_204_20, g_205_20, p_205_20, rc_20, g_192_23, p_192_23, g_193_23, g_194_23, g_195_23, p_195_23, g_196_23, p_196_23, g_197_23, p_197_23, g_198_23, p_198_23, g_199_23, p_199_23, g_200_23, p_200_23, g_201_23, p_201_23, g_202_23, p_202_23, g_203_23, p_203_23, g_204_23, p_204_23, g_205_23, p_205_23, rc_23, g_512_26, p_512_26, g_513_26, p_513_26, g_514_26, p_514_26, g_515_26, p_515_26, g_516_26, p_516_26, g_517_26, g_518_26, g_519_26, p_519_26, g_520_26, g_521_26, g_522_26, g_523_26, g_524_26, g_525_26, g_526_26, g_527_26, g_528_26, g_529_26, g_530_26, g_531_26, g_532_26, g_533_26, g_534_26, g_535_26, g_536_26, g_537_26, g_538_26, g_539_26, g_540_26, g_541_26, p_541_26, g_542_26, g_543_26, g_544_26, g_545_26, g_546_26, g_547_26, g_548_26, g_549_26, g_550_26, g_551_26, p_551_26, g_552_26, p_552_26, g_553_26, p_553_26, g_554_26, p_554_26, g_555_26, p_555_26, g_556_26, p_556_26, g_557_26, p_557_26, g_558_26, p_558_26, g_559_26, p_559_26, g_560_26, g_561_26, p_561_26, g_562_26, g_563_26, g_564_26, p_564_26, g_565_26, p_565_26, rc_26, ai_1, ai_2, ai_3, ai_4, ai_6, ti_6, ai_9, ti_9, ai_10, ti_10, ai_11, ti_11, ai_12, ti_12, ai_13, ti_13, ai_14, ti_14, ai_15, ti_15, ai_16, ti_16, ai_18, ai_19, ti_19, ai_21, ai_22, ti_22, ai_24, ai_25, ti_25, ai_27, ti_27, ai_28, ti_28, ai_29, ti_29, ai_30, ti_30, ai_31, ti_31, ai_32, ti_32, ai_33, ti_33, ai_34, ti_34, ai_35, ti_35, ai_36, ti_36, ai_37, ti_37, ai_38, ti_38, ai_39, ti_39, ai_40, ti_40, ai_41, ti_41, ai_42, ti_42, ai_43, ti_43, ai_44, ti_44, ai_45, ti_45, ai_46, ti_46, ai_47, ti_47, ai_48, ti_48, ai_49, ti_49, ai_50, ti_50, ai_51, ti_51, ai_52, ti_52, ai_53, ti_53, ai_54, ti_54, ai_55, ti_55, ai_56, ti_56, ai_57, ti_57, ai_58, ti_58, ai_59, ti_59, ai_60, ti_60, ai_61, ti_61, Option.bind_some, oh_lt, e_bz0, e_bz1, e_in, e_isWithin, e_isFarmer, e_isSort, ite01, i10, PS_wI, PS_wL, PS_sI, PS_sL, pw_wI, pw_wL, pw_wR, pw_sI, pw_sL, pw_sR, oh_u2, Nat.add_left_cancel_iff, Nat.reduceEqDiff, Nat.add_eq_left, Nat.left_eq_add, reduceCtorEq, false_and, true_and, and_true, and_false, if_false, if_true, P, PS_mA, ix_m, hk, pw_mA, mA_s, iN_succ]
            have A95 : f_X8_pays_95 (oh_mA h (setRow (oh_AI h) (a + 58) w)) (a + 26) (nI f) (nI s) v3 r (nI t) (w (3 * f + t)) ((100 : Int64) + (10 : Int64) * (nI t - nI s).toInt64) x = some (Sum.inl (oh_mA h (setRow (oh_AI h) (a + 58) (up1 w (3 * f + t) (Int32.ofInt (pyO (w (3 * f + t)).toInt r.toInt ((t : Int) - s))))), Int32.ofInt (r.toInt - pyN (w (3 * f + t)).toInt r.toInt ((t : Int) - s)), nI (t + 1))) := by
              have A129 : f_X8_pays_129 (oh_mA h (setRow (oh_AI h) (a + 58) w)) (a + 26) (nI f) (nI s) v3 r (nI t) (w (3 * f + t)) ((100 : Int64) + (10 : Int64) * (nI t - nI s).toInt64) x = some (Sum.inl (oh_mA h (setRow (oh_AI h) (a + 58) (up1 w (3 * f + t) (Int32.ofInt (pyO (w (3 * f + t)).toInt r.toInt ((t : Int) - s))))), Int32.ofInt (r.toInt - pyN (w (3 * f + t)).toInt r.toInt ((t : Int) - s)), nI (t + 1))) := by
                by_cases z : 0 ≤ lg_cmp x r.toInt64
                · have z2 := z
                  rw [lg_cmp_ge, l_le, Int32.toInt_toInt64] at z2
                  simp only [f_X8_pays_129, z, if_true]
                  refine G r ?_
                  unfold pyN
                  rw [← x1]
                  omega
                · have z2 := z
                  rw [lg_cmp_ge, l_le, Int32.toInt_toInt64] at z2
                  simp only [f_X8_pays_129, z, if_false]
                  refine G x.toInt32 ?_
                  rw [l_toI (by omega) (by omega)]
                  unfold pyN
                  rw [← x1]
                  omega
              refine loop_run _ (fun _ => (oh_mA h (setRow (oh_AI h) (a + 58) w), x)) 0 _ (fun k hk => absurd hk (Nat.not_lt_zero _)) ?_ 1000000 (by omega)
              simp only [b_X8_pays_95, c2, c3, l_100, if_true, if_false, A129, Option.map_some]
            have A70 : f_X8_pays_70 (oh_mA h (setRow (oh_AI h) (a + 58) w)) (a + 26) (nI f) (nI s) v3 r (nI t) (w (3 * f + t)) ((100 : Int64) + (10 : Int64) * (nI t - nI s).toInt64) x = some (Sum.inl (oh_mA h (setRow (oh_AI h) (a + 58) (up1 w (3 * f + t) (Int32.ofInt (pyO (w (3 * f + t)).toInt r.toInt ((t : Int) - s))))), Int32.ofInt (r.toInt - pyN (w (3 * f + t)).toInt r.toInt ((t : Int) - s)), nI (t + 1))) := by
              refine loop_run _ (fun _ => (oh_mA h (setRow (oh_AI h) (a + 58) w), x)) 0 _ (fun k hk => absurd hk (Nat.not_lt_zero _)) ?_ 1000000 (by omega)
              simp only [b_X8_pays_70, c1, l_100, if_true, if_false, A95, Option.map_some]
            simp only [b_X8_pays_6, hle, g_448_0, g_449_0, g_450_0, g_451_0, g_452_0, g_453_0, g_454_0, g_455_0, p_455_0, g_456_0, p_456_0, g_457_0, p_457_0, g_458_0, p_458_0, g_459_0, p_459_0, g_460_0, p_460_0, g_461_0, p_461_0, rc_0, g_0_5, rc_5, g_320_7, p_320_7, g_321_7, p_321_7, g_322_7, p_322_7, g_323_7, p_323_7, g_324_7, p_324_7, rc_7, g_256_8, g_257_8, g_258_8, g_259_8, g_260_8, g_261_8, g_262_8, g_263_8, p_263_8, g_264_8, p_264_8, g_265_8, p_265_8, g_266_8, g_267_8, p_267_8, g_268_8, p_268_8, g_269_8, p_269_8, g_270_8, p_270_8, rc_8, g_192_17, p_192_17, g_193_17, g_194_17, g_195_17, p_195_17, g_196_17, p_196_17, g_197_17, p_197_17, g_198_17, p_198_17, g_199_17, p_199_17, g_200_17, p_200_17, g_201_17, p_201_17, g_202_17, p_202_17, g_203_17, p_203_17, g_204_17, p_204_17, g_205_17, p_205_17, rc_17, g_192_20, p_192_20, g_193_20, g_194_20, g_195_20, p_195_20, g_196_20, p_196_20, g_197_20, p_197_20, g_198_20, p_198_20, g_199_20, p_199_20, g_200_20, p_200_20, g_201_20, p_201_20, g_202_20, p_202_20, g_203_20, p_203_20, g_204_20, p_204_20, g_205_20, p_205_20, rc_20, g_192_23, p_192_23, g_193_23, g_194_23, g_195_23, p_195_23, g_196_23, p_196_23, g_197_23, p_197_23, g_198_23, p_198_23, g_199_23, p_199_23, g_200_23, p_200_23, g_201_23, p_201_23, g_202_23, p_202_23, g_203_23, p_203_23, g_204_23, p_204_23, g_205_23, p_205_23, rc_23, g_512_26, p_512_26, g_513_26, p_513_26, g_514_26, p_514_26, g_515_26, p_515_26, g_516_26, p_516_26, g_517_26, g_518_26, g_519_26, p_519_26, g_520_26, g_521_26, g_522_26, g_523_26, g_524_26, g_525_26, g_526_26, g_527_26, g_528_26, g_529_26, g_530_26, g_531_26, g_532_26, g_533_26, g_534_26, g_535_26, g_536_26, g_537_26, g_538_26, g_539_26, g_540_26, g_541_26, p_541_26, g_542_26, g_543_26, g_544_26, g_545_26, g_546_26, g_547_26, g_548_26, g_549_26, g_550_26, g_551_26, p_551_26, g_552_26, p_552_26, g_553_26, p_553_26, g_554_26, p_554_26, g_555_26, p_555_26, g_556_26, p_556_26, g_557_26, p_557_26, g_558_26, p_558_26, g_559_26, p_559_26, g_560_26, g_561_26, p_561_26, g_562_26, g_563_26, g_564_26, p_564_26, g_565_26, p_565_26, rc_26, ai_1, ai_2, ai_3, ai_4, ai_6, ti_6, ai_9, ti_9, ai_10, ti_10, ai_11, ti_11, ai_12, ti_12, ai_13, ti_13, ai_14, ti_14, ai_15, ti_15, ai_16, ti_16, ai_18, ai_19, ti_19, ai_21, ai_22, ti_22, ai_24, ai_25, ti_25, ai_27, ti_27, ai_28, ti_28, ai_29, ti_29, ai_30, ti_30, ai_31, ti_31, ai_32, ti_32, ai_33, ti_33, ai_34, ti_34, ai_35, ti_35, ai_36, ti_36, ai_37, ti_37, ai_38, ti_38, ai_39, ti_39, ai_40, ti_40, ai_41, ti_41, ai_42, ti_42, ai_43, ti_43, ai_44, ti_44, ai_45, ti_45, ai_46, ti_46, ai_47, ti_47, ai_48, ti_48, ai_49, ti_49, ai_50, ti_50, ai_51, ti_51, ai_52, ti_52, ai_53, ti_53, ai_54, ti_54, ai_55, ti_55, ai_56, ti_56, ai_57, ti_57, ai_58, ti_58, ai_59, ti_59, ai_60, ti_60, ai_61, ti_61, Option.bind_some, oh_lt, e_bz0, e_bz1, e_in, e_isWithin, e_isFarmer, e_isSort, ite01, i10, PS_wI, PS_wL, PS_sI, PS_sL, pw_wI, pw_wL, pw_wR, pw_sI, pw_sL, pw_sR, oh_u2, Nat.add_left_cancel_iff, Nat.reduceEqDiff, Nat.add_eq_left, Nat.left_eq_add, reduceCtorEq, false_and, true_and, and_true, and_false, if_false, if_true, P, PS_mA, ix_m, hk, pw_mA, setRow_b, q0, q1, f1, x3, A70]
      simp only [oh_loop, B, I, TT]
