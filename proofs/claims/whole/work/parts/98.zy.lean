set_option maxHeartbeats 4000000 in
theorem RR_plan {h h' : oh_H} {a ng nl nv n : Nat} (R : RR h a ng nl nv n) (eK : oh_K h' = oh_K h) (eS : oh_sz h' = oh_sz h) (eN : oh_N h' = oh_N h) (eFR : oh_FR h' = oh_FR h) (eFL : oh_FL h' = oh_FL h) (eAL : oh_AL h' = oh_AL h) (eAR : oh_AR h' = oh_AR h)
    (g : ∀ c b, c < 256 ∨ (271 ≤ c ∧ c < 556) → oh_FI h' c b = oh_FI h c b) (f : ∀ c b, c < 9 ∨ (16 < c ∧ c < 59) → oh_AI h' (a + c) b = oh_AI h (a + c) b) (hP' : qP (oh_FI h') (oh_AI h') a) : RR h' a ng nl nv n := by
  obtain ⟨P, hD, hZ, hG, hL, hM, hB, hV, hDe, hT, hP, hW, vn, vt, vg, vl, vf, vb, vm, vv, vd, vx⟩ := id R
  have fr : ∀ c, c < 9 ∨ (16 < c ∧ c < 59) → oh_AI h' (a + c) = oh_AI h (a + c) := fun c z => funext fun b => f c b z
  have gr : ∀ c, c < 256 ∨ (271 ≤ c ∧ c < 556) → oh_FI h' c = oh_FI h c := fun c z => funext fun b => g c b z
  have bne : ∀ m', bn (oh_AI h') a m' = bn (oh_AI h) a m' := fun m' => by
    unfold bn
    rw [fr 43 (by decide)]
  have ble : ∀ m' k, bl (oh_AI h') a m' k = bl (oh_AI h) a m' k := fun m' k => by
    unfold bl
    rw [fr 44 (by decide)]
  have sums := fun m' s => sum_rows (F := oh_AI h') (G := oh_AI h) (a := a) (fr 33 (by decide)) (fr 34 (by decide)) (fr 35 (by decide)) (fr 44 (by decide)) m' s
  have so := fun s => sumO_rows (F := oh_AI h') (G := oh_AI h) (a := a) (fr 54 (by decide)) s
  unfold RR
  rw [eK, eS, eFR, eFL, eAL, eAR]
  refine ⟨?_, hD, hZ, ?_, ?_, ?_, ?_, ?_, ?_, ?_, hP', ?_, vn, ?_, ?_, ?_, ?_, ?_, ?_, ?_, ?_, ?_⟩
  · unfold PS
    rw [eK, eN, eFR, eAR]
    exact P
  · unfold qG
    rw [gr 64 (by decide), gr 65 (by decide), gr 66 (by decide), fr 27 (by decide), fr 28 (by decide)]
    exact hG
  · unfold qL
    rw [gr 128 (by decide), gr 130 (by decide), gr 131 (by decide), gr 132 (by decide), gr 133 (by decide), gr 134 (by decide), gr 135 (by decide), gr 136 (by decide), gr 137 (by decide), gr 138 (by decide), gr 139 (by decide), fr 31 (by decide), fr 29 (by decide), fr 32 (by decide), fr 33 (by decide), fr 34 (by decide), fr 35 (by decide), fr 36 (by decide), fr 37 (by decide), fr 38 (by decide), fr 39 (by decide), fr 30 (by decide)]
    exact hL
  · unfold qM
    rw [gr 192 (by decide), gr 195 (by decide), gr 196 (by decide), gr 197 (by decide), gr 198 (by decide), gr 199 (by decide), gr 200 (by decide), gr 201 (by decide), gr 204 (by decide), gr 205 (by decide), fr 43 (by decide), fr 40 (by decide), fr 41 (by decide), fr 42 (by decide), fr 46 (by decide), fr 47 (by decide), fr 45 (by decide), fr 48 (by decide), fr 49 (by decide)]
    exact hM
  · unfold qB
    rw [fr 43 (by decide), fr 44 (by decide)]
    exact hB
  · unfold qV
    rw [gr 384 (by decide), gr 385 (by decide), gr 386 (by decide), gr 387 (by decide), gr 388 (by decide), gr 389 (by decide), fr 50 (by decide), fr 51 (by decide), fr 52 (by decide), fr 53 (by decide), fr 54 (by decide), fr 55 (by decide)]
    exact hV
  · unfold qD
    rw [fr 6 (by decide), fr 58 (by decide)]
    exact hDe
  · unfold qT at hT ⊢
    rw [gr 455 (by decide), gr 516 (by decide), gr 456 (by decide), gr 519 (by decide), gr 457 (by decide), gr 541 (by decide), gr 458 (by decide), gr 512 (by decide), gr 459 (by decide), gr 513 (by decide), gr 460 (by decide), gr 514 (by decide), gr 461 (by decide), gr 515 (by decide), gr 320 (by decide), gr 551 (by decide), gr 321 (by decide), gr 552 (by decide), gr 322 (by decide), gr 553 (by decide), gr 323 (by decide), gr 554 (by decide), gr 324 (by decide), gr 555 (by decide)]
    exact hT
  · intro m' hm'
    have W := hW m' hm'
    rw [gr 202 (by decide), gr 203 (by decide), fr 45 (by decide), bne, (sums m' _).1, (sums m' _).2.1, (sums m' _).2.2]
    exact W
  · unfold vT
    rw [gr 512 (by decide), gr 513 (by decide), gr 514 (by decide), gr 515 (by decide)]
    exact vt
  · unfold vG
    rw [fr 27 (by decide), fr 28 (by decide)]
    exact vg
  · unfold vL
    rw [gr 512 (by decide), fr 29 (by decide), fr 31 (by decide), fr 32 (by decide), fr 33 (by decide), fr 34 (by decide), fr 35 (by decide), fr 39 (by decide), fr 36 (by decide), fr 37 (by decide), fr 38 (by decide)]
    exact vl
  · unfold vF
    rw [fr 32 (by decide), fr 33 (by decide), fr 34 (by decide), fr 35 (by decide), fr 36 (by decide), fr 37 (by decide), fr 39 (by decide), fr 53 (by decide), fr 54 (by decide), fr 55 (by decide)]
    exact vf
  · intro m' hm'
    have B := vb m' hm'
    rw [bne, fr 45 (by decide)]
    refine ⟨fun k hk => ?_, fun k k' hk hk' e => ?_, fun k k' hk hk' e => ?_, B.2.2.2⟩
    · rw [ble, fr 38 (by decide), fr 32 (by decide)]
      exact B.1 k hk
    · rw [ble, ble] at e
      exact B.2.1 k k' hk hk' e
    · rw [ble, fr 29 (by decide)] at e
      rw [ble, fr 29 (by decide)]
      exact B.2.2.1 k k' hk hk' e
  · unfold vM
    rw [fr 40 (by decide), fr 41 (by decide), fr 42 (by decide), fr 45 (by decide), fr 46 (by decide), fr 47 (by decide), fr 48 (by decide), fr 49 (by decide)]
    exact vm
  · unfold vV
    rw [fr 50 (by decide), fr 51 (by decide), fr 52 (by decide), fr 55 (by decide)]
    exact vv
  · unfold vD
    rw [fr 54 (by decide), fr 58 (by decide), so]
    exact vd
  · unfold vX
    rw [fr 53 (by decide), fr 54 (by decide)]
    exact vx
theorem sq_get {f : Nat → Nat} : ∀ d k j, j < d → (sq f k d).getD j 0 = f (k + j) := by
  intro d
  induction d with
  | zero => intro k j hj; omega
  | succ d ih =>
    intro k j hj
    simp only [sq]
    cases j with
    | zero => rfl
    | succ j =>
      show (sq f (k + 1) d).getD j 0 = _
      rw [ih (k + 1) j (by omega), show k + 1 + j = k + (j + 1) by omega]
set_option maxHeartbeats 4000000 in
theorem P_plan {h : oh_H} {a ng nl nv n : Nat} (R : RR h a ng nl nv n) (x : Int32) : PR (f_X7_plan h a x) (fun h => f_X8_plan h (a + 26) x) a n := by
  have R0 := R
  obtain ⟨P, hD, hZ, hG, hL, hM, hB, hV, hDe, hT, hP, hW, vn, vt, vg, vl, vf, vb, vm, vv, vd, vx⟩ := id R
  have hnl := vn.2.1
  have hng := vn.1
  rcases i_cases3 x with ⟨m, hm, rfl⟩ | hx
  · obtain ⟨pq, hPQ⟩ := pq_ex (fp (oh_AI h) a) nl
    obtain ⟨nn, hnn⟩ : ∃ nn, nn = cnt (fp (oh_AI h) a) nl := ⟨_, rfl⟩
    have VM := vm m hm
    have cp := c_plan R0 hm hPQ hnn
    have hb : 0 ≤ (bgI (oh_FI h) (oh_AI h) a m).toInt ∧ (bgI (oh_FI h) (oh_AI h) a m).toInt ≤ 1201000 := by
      have h1 := vt.1
      have h2 := VM.2.2.1
      unfold bgI
      split <;> omega
    have LQh : nn ≤ 8 → LQ (oh_AI h) a m nn pq := fun h8 => by
      refine ⟨h8, VM.2.1, fun j hj => ?_, fun j j' hj hj' => ?_⟩
      · have pj := hPQ j (by omega)
        have L := hL _ pj.1
        obtain ⟨g, hg, G1, -⟩ := L.2.2.2.2.2.2.2.2.2.2.2
        exact ⟨by omega, (vl _ pj.1).2.2.2.1, g, by omega, G1, ((vg g hg).2).1⟩
      · have pi := pq_inj hPQ (by omega : j < cnt (fp (oh_AI h) a) nl) (by omega : j' < cnt (fp (oh_AI h) a) nl)
        have pi' := pq_inj hPQ (by omega : j' < cnt (fp (oh_AI h) a) nl) (by omega : j < cnt (fp (oh_AI h) a) nl)
        have e1 := pi.1
        have e2 := pi.2
        have e3 := pi'.2
        omega
    by_cases h8 : 8 < nn
    · obtain ⟨A, m1, m2⟩ := (m_plan P hm hT.2.2.2.1 hnl hPQ hnn hb LQh).1 h8
      refine ⟨-1, h, oh_mA h A, ng, nl, nv, cp.1 h8, m1, RR.mono (RR_plan R0 rfl rfl rfl rfl rfl rfl rfl (fun _ _ _ => rfl) (fun c b z => m2 c b (by omega)) ?_)⟩
      show qP (oh_FI h) A a
      unfold qP
      rw [m2 13 0 (by decide)]
      simp only [m2 16 _ (by decide), m2 59 _ (by decide)]
      exact hP
    · have h8' : nn ≤ 8 := by omega
      obtain ⟨F, B, G, c1, c2, c3, c4, c5, c6, c7, c8, c9, c10⟩ := cp.2 h8'
      -- the model's data are the same behind the class
      have rB : ∀ k b, 16 < k → oh_AI (oh_mA (oh_mF h F) B) (a + k) b = oh_AI h (a + k) b := fun k b z => c3 k b (Or.inr z)
      have f512 : oh_FI (oh_mA (oh_mF h F) B) 512 (a + 26) = oh_FI h 512 (a + 26) := c2 512 _ (by omega)
      have f513 : oh_FI (oh_mA (oh_mF h F) B) 513 (a + 26) = oh_FI h 513 (a + 26) := c2 513 _ (by omega)
      have f519 : oh_FI (oh_mA (oh_mF h F) B) 519 (a + 26) = nI nl := (c2 519 _ (by omega)).trans hT.2.2.2.1
      obtain ⟨H, eH⟩ : ∃ H, H = oh_mA (oh_mF h F) B := ⟨_, rfl⟩
      have PH : PS H a := by rw [eH]; exact P
      rw [← eH] at rB f512 f513 f519
      have efp : fp (oh_AI H) a = fp (oh_AI h) a := by
        funext i
        unfold fp
        rw [rB 32 i (by omega), rB 29 i (by omega)]
      have elk : lkI (oh_AI H) a = lkI (oh_AI h) a := by
        funext i
        unfold lkI
        rw [rB 29 i (by omega), rB 30 i (by omega), rB 28 _ (by omega)]
      have ehr : hrI (oh_AI H) a m = hrI (oh_AI h) a m := by
        funext i
        unfold hrI
        rw [rB 33 i (by omega), rB 41 m (by omega)]
      have elt : ltI (oh_FI H) (oh_AI H) a = ltI (oh_FI h) (oh_AI h) a := by
        funext i
        unfold ltI
        rw [rB 29 i (by omega), rB 31 i (by omega), f512, f513]
      have ebg : bgI (oh_FI H) (oh_AI H) a m = bgI (oh_FI h) (oh_AI h) a m := by
        unfold bgI
        rw [rB 42 m (by omega), f512]
      have enw : jNw (oh_AI H) a m pq = jNw (oh_AI h) a m pq := by
        funext l x
        unfold jNw
        cases l with
        | none =>
          simp only [dNw]
          rw [elk, rB 46 m (by omega), rB 47 m (by omega)]
        | some l =>
          simp only [dNw]
          rw [elk]
      have edh : dHr (oh_AI H) a m pq = dHr (oh_AI h) a m pq := by
        funext k
        unfold dHr
        rw [ehr]
      have edl : dLt (oh_FI H) (oh_AI H) a pq = dLt (oh_FI h) (oh_AI h) a pq := by
        funext k
        unfold dLt
        rw [elt]
      have LQH : nn ≤ 8 → LQ (oh_AI H) a m nn pq := fun z => by
        obtain ⟨l1, l2, l3, l4⟩ := LQh z
        refine ⟨l1, by rw [rB 41 m (by omega)]; exact l2, fun j hj => ?_, l4⟩
        obtain ⟨q1, q2, g, g1, g2, g3⟩ := l3 j hj
        exact ⟨q1, by rw [rB 33 _ (by omega)]; exact q2, g, g1, by rw [rB 30 _ (by omega)]; exact g2, by rw [rB 28 _ (by omega)]; exact g3⟩
      obtain ⟨F2, A2, u, m1, ⟨m2, m3, m4⟩, m5, m6, m7, m8, m9, m10, m11⟩ := (m_plan PH hm f519 hnl (by rw [efp]; exact hPQ) (by rw [efp]; exact hnn) (by rw [ebg]; exact hb) LQH).2 h8'
      have OP : Opt (jNw (oh_AI H) a m pq) (dHr (oh_AI H) a m pq) (dLt (oh_FI H) (oh_AI H) a pq) nn (fun _ => false) none (bgI (oh_FI H) (oh_AI H) a m).toInt (sq u 0 nn) := opt_of m7 (fun g hg => m11 g hg trivial)
      rw [enw, edh, edl, ebg] at OP
      have eG : G = sq u 0 nn := opt_one c7 OP
      have eL : vPL H a m nn pq u = pL (jNw (oh_AI h) a m pq) (dHr (oh_AI h) a m pq) (dLt (oh_FI h) (oh_AI h) a pq) none (bgI (oh_FI h) (oh_AI h) a m).toInt G := by
        unfold vPL
        rw [enw, edh, edl, ebg, eG]
      have eE : vPE H a m nn pq u = pE (jNw (oh_AI h) a m pq) (dHr (oh_AI h) a m pq) none (bgI (oh_FI h) (oh_AI h) a m).toInt G := by
        unfold vPE
        rw [enw, edh, ebg, eG]
      rw [eL] at m8
      rw [eE] at m9
      have HF : ∀ c b, oh_FI H c b = F c b := fun c b => by rw [eH]; rfl
      have HA : ∀ c b, oh_AI H c b = B c b := fun c b => by rw [eH]; rfl
      have e2 : oh_mA (oh_mF H F2) A2 = oh_mA (oh_mF h F2) A2 := by rw [eH]; rfl
      rw [e2] at m1
      refine ⟨nI nn, oh_mA (oh_mF h F) B, oh_mA (oh_mF h F2) A2, ng, nl, nv, c1, by rw [← eH]; exact m1, RR.mono (RR_plan R0 rfl rfl rfl rfl rfl rfl rfl (fun c b z => ?_) (fun c b z => ?_) ?_)⟩
      · show F2 c b = _
        rw [m2 c b (by omega), HF]
        exact c2 c b (by omega)
      · show A2 (a + c) b = _
        rw [m3 c b (by omega), HA]
        exact c3 c b (by omega)
      · show qP F2 A2 a
        refine ⟨?_, ?_, ?_, ?_, nn, h8', ?_, m6, fun k hk => ?_⟩
        · rw [m3 13 0 (by omega), HA]
          exact c4
        · rw [m2 270 _ (by omega), HF, c6, m5]
        · rw [m2 268 _ (by omega), HF, i_eq, c8, m8]
        · rw [m2 269 _ (by omega), HF, i_eq, c9, m9]
        · rw [m2 267 _ (by omega), HF]
          exact c5
        · rw [m3 16 k (by omega), HA, c10 k hk, m10 k hk, eG, sq_get nn 0 k hk, Nat.zero_add]
  · refine ⟨-1, h, h, ng, nl, nv, ?_, ?_, R.mono⟩
    · simp only [f_X7_plan, f_X7_plan_19, g_448_0, g_449_0, g_450_0, g_451_0, g_452_0, g_453_0, g_454_0, g_455_0, p_455_0, g_456_0, p_456_0, g_457_0, p_457_0, g_458_0, p_458_0, g_459_0, p_459_0, g_460_0, p_460_0, g_461_0, p_461_0, rc_0, g_0_5, rc_5, g_320_7, p_320_7, g_321_7, p_321_7, g_322_7, p_322_7, g_323_7, p_323_7, g_324_7, p_324_7, rc_7, g_256_8, g_257_8, g_258_8, g_259_8, g_260_8, g_261_8, g_262_8, g_263_8, p_263_8, g_264_8, p_264_8, g_265_8, p_265_8, g_266_8, g_267_8, p_267_8, g_268_8, p_268_8, g_269_8, p_269_8, g_270_8, p_270_8, rc_8, g_192_17, p_192_17, g_193_17, g_194_17, g_195_17, p_195_17, g_196_17, p_196_17, g_197_17, p_197_17, g_198_17, p_198_17, g_199_17, p_199_17, g_200_17, p_200_17, g_201_17, p_201_17, g_202_17, p_202_17, g_203_17, p_203_17, g_204_17, p_204_17, g_205_17, p_205_17, rc_17, g_192_20, p_192_20, g_193_20, g_194_20, g_195_20, p_195_20, g_196_20, p_196_20, g_197_20, p_197_20, g_198_20, p_198_20, g_199_20, p_199_20, g_200_20, p_200_20, g_201_20, p_201_20, g_202_20, p_202_20, g_203_20, p_203_20, g_204_20, p_204_20, g_205_20, p_205_20, rc_20, g_192_23, p_192_23, g_193_23, g_194_23, g_195_23, p_195_23, g_196_23, p_196_23, g_197_23, p_197_23, g_198_23, p_198_23, g_199_23, p_199_23, g_200_23, p_200_23, g_201_23, p_201_23, g_202_23, p_202_23, g_203_23, p_203_23, g_204_23, p_204_23, g_205_23, p_205_23, rc_23, g_512_26, p_512_26, g_513_26, p_513_26, g_514_26, p_514_26, g_515_26, p_515_26, g_516_26, p_516_26, g_517_26, g_518_26, g_519_26, p_519_26, g_520_26, g_521_26, g_522_26, g_523_26, g_524_26, g_525_26, g_526_26, g_527_26, g_528_26, g_529_26, g_530_26, g_531_26, g_532_26, g_533_26, g_534_26, g_535_26, g_536_26, g_537_26, g_538_26, g_539_26, g_540_26, g_541_26, p_541_26, g_542_26, g_543_26, g_544_26, g_545_26, g_546_26, g_547_26, g_548_26, g_549_26, g_550_26, g_551_26, p_551_26, g_552_26, p_552_26, g_553_26, p_553_26, g_554_26, p_554_26, g_555_26, p_555_26, g_556_26, p_556_26, g_557_26, p_557_26, g_558_26, p_558_26, g_559_26, p_559_26, g_560_26, g_561_26, p_561_26, g_562_26, g_563_26, g_564_26, p_564_26, g_565_26, p_565_26, rc_26, ai_1, ai_2, ai_3, ai_4, ai_6, ti_6, ai_9, ti_9, ai_10, ti_10, ai_11, ti_11, ai_12, ti_12, ai_13, ti_13, ai_14, ti_14, ai_15, ti_15, ai_16, ti_16, ai_18, ai_19, ti_19, ai_21, ai_22, ti_22, ai_24, ai_25, ti_25, ai_27, ti_27, ai_28, ti_28, ai_29, ti_29, ai_30, ti_30, ai_31, ti_31, ai_32, ti_32, ai_33, ti_33, ai_34, ti_34, ai_35, ti_35, ai_36, ti_36, ai_37, ti_37, ai_38, ti_38, ai_39, ti_39, ai_40, ti_40, ai_41, ti_41, ai_42, ti_42, ai_43, ti_43, ai_44, ti_44, ai_45, ti_45, ai_46, ti_46, ai_47, ti_47, ai_48, ti_48, ai_49, ti_49, ai_50, ti_50, ai_51, ti_51, ai_52, ti_52, ai_53, ti_53, ai_54, ti_54, ai_55, ti_55, ai_56, ti_56, ai_57, ti_57, ai_58, ti_58, ai_59, ti_59, ai_60, ti_60, ai_61, ti_61, Option.bind_some, oh_lt_eq, e_bz0, e_bz1, e_in, e_isWithin, e_isFarmer, e_isSort, ite01, i10, PS_wI, PS_wL, PS_sI, PS_sL, pw_wI, pw_wL, pw_wR, pw_sI, pw_sL, pw_sR, oh_u2, Nat.add_left_cancel_iff, Nat.reduceEqDiff, Nat.add_eq_left, Nat.left_eq_add, reduceCtorEq, false_and, true_and, and_true, and_false, if_false, if_true, P, e_findMill_no P hx]
    · simp only [f_X8_plan, g_448_0, g_449_0, g_450_0, g_451_0, g_452_0, g_453_0, g_454_0, g_455_0, p_455_0, g_456_0, p_456_0, g_457_0, p_457_0, g_458_0, p_458_0, g_459_0, p_459_0, g_460_0, p_460_0, g_461_0, p_461_0, rc_0, g_0_5, rc_5, g_320_7, p_320_7, g_321_7, p_321_7, g_322_7, p_322_7, g_323_7, p_323_7, g_324_7, p_324_7, rc_7, g_256_8, g_257_8, g_258_8, g_259_8, g_260_8, g_261_8, g_262_8, g_263_8, p_263_8, g_264_8, p_264_8, g_265_8, p_265_8, g_266_8, g_267_8, p_267_8, g_268_8, p_268_8, g_269_8, p_269_8, g_270_8, p_270_8, rc_8, g_192_17, p_192_17, g_193_17, g_194_17, g_195_17, p_195_17, g_196_17, p_196_17, g_197_17, p_197_17, g_198_17, p_198_17, g_199_17, p_199_17, g_200_17, p_200_17, g_201_17, p_201_17, g_202_17, p_202_17, g_203_17, p_203_17, g_204_17, p_204_17, g_205_17, p_205_17, rc_17, g_192_20, p_192_20, g_193_20, g_194_20, g_195_20, p_195_20, g_196_20, p_196_20, g_197_20, p_197_20, g_198_20, p_198_20, g_199_20, p_199_20, g_200_20, p_200_20, g_201_20, p_201_20, g_202_20, p_202_20, g_203_20, p_203_20, g_204_20, p_204_20, g_205_20, p_205_20, rc_20, g_192_23, p_192_23, g_193_23, g_194_23, g_195_23, p_195_23, g_196_23, p_196_23, g_197_23, p_197_23, g_198_23, p_198_23, g_199_23, p_199_23, g_200_23, p_200_23, g_201_23, p_201_23, g_202_23, p_202_23, g_203_23, p_203_23, g_204_23, p_204_23, g_205_23, p_205_23, rc_23, g_512_26, p_512_26, g_513_26, p_513_26, g_514_26, p_514_26, g_515_26, p_515_26, g_516_26, p_516_26, g_517_26, g_518_26, g_519_26, p_519_26, g_520_26, g_521_26, g_522_26, g_523_26, g_524_26, g_525_26, g_526_26, g_527_26, g_528_26, g_529_26, g_530_26, g_531_26, g_532_26, g_533_26, g_534_26, g_535_26, g_536_26, g_537_26, g_538_26, g_539_26, g_540_26, g_541_26, p_541_26, g_542_26, g_543_26, g_544_26, g_545_26, g_546_26, g_547_26, g_548_26, g_549_26, g_550_26, g_551_26, p_551_26, g_552_26, p_552_26, g_553_26, p_553_26, g_554_26, p_554_26, g_555_26, p_555_26, g_556_26, p_556_26, g_557_26, p_557_26, g_558_26, p_558_26, g_559_26, p_559_26, g_560_26, g_561_26, p_561_26, g_562_26, g_563_26, g_564_26, p_564_26, g_565_26, p_565_26, rc_26, ai_1, ai_2, ai_3, ai_4, ai_6, ti_6, ai_9, ti_9, ai_10, ti_10, ai_11, ti_11, ai_12, ti_12, ai_13, ti_13, ai_14, ti_14, ai_15, ti_15, ai_16, ti_16, ai_18, ai_19, ti_19, ai_21, ai_22, ti_22, ai_24, ai_25, ti_25, ai_27, ti_27, ai_28, ti_28, ai_29, ti_29, ai_30, ti_30, ai_31, ti_31, ai_32, ti_32, ai_33, ti_33, ai_34, ti_34, ai_35, ti_35, ai_36, ti_36, ai_37, ti_37, ai_38, ti_38, ai_39, ti_39, ai_40, ti_40, ai_41, ti_41, ai_42, ti_42, ai_43, ti_43, ai_44, ti_44, ai_45, ti_45, ai_46, ti_46, ai_47, ti_47, ai_48, ti_48, ai_49, ti_49, ai_50, ti_50, ai_51, ti_51, ai_52, ti_52, ai_53, ti_53, ai_54, ti_54, ai_55, ti_55, ai_56, ti_56, ai_57, ti_57, ai_58, ti_58, ai_59, ti_59, ai_60, ti_60, ai_61, ti_61, Option.bind_some, oh_lt_eq, e_bz0, e_bz1, e_in, e_isWithin, e_isFarmer, e_isSort, ite01, i10, PS_wI, PS_wL, PS_sI, PS_sL, pw_wI, pw_wL, pw_wR, pw_sI, pw_sL, pw_sR, oh_u2, Nat.add_left_cancel_iff, Nat.reduceEqDiff, Nat.add_eq_left, Nat.left_eq_add, reduceCtorEq, false_and, true_and, and_true, and_false, if_false, if_true, P, e_isMill_no hx]
