/-! a new cell -/
theorem PS_off {h h' : oh_H} {a : Nat} (P : PS h a) (hZ : pZ (oh_sz h) (oh_K h)) (eK : ∀ q, q ≠ oh_sz h → oh_K h' q = oh_K h q) (eR : ∀ c b, b ≠ oh_sz h → oh_FR h' c b = oh_FR h c b) (eN : oh_N h' = oh_N h) (eA : oh_AR h' = oh_AR h) : PS h' a := by
  have lt : ∀ {q}, oh_K h q ≠ 0 → q ≠ oh_sz h := fun hq e => hq (hZ _ (by omega))
  have k0 : a ≠ oh_sz h := lt (by rw [sK_0 P]; decide)
  have k1 : (a + 1) ≠ oh_sz h := lt (by rw [sK_1 P]; decide)
  have k2 : (a + 2) ≠ oh_sz h := lt (by rw [sK_2 P]; decide)
  have k3 : (a + 3) ≠ oh_sz h := lt (by rw [sK_3 P]; decide)
  have k4 : (a + 4) ≠ oh_sz h := lt (by rw [sK_4 P]; decide)
  have k5 : (a + 5) ≠ oh_sz h := lt (by rw [sK_5 P]; decide)
  have k6 : (a + 6) ≠ oh_sz h := lt (by rw [sK_6 P]; decide)
  have k7 : (a + 7) ≠ oh_sz h := lt (by rw [sK_7 P]; decide)
  have k8 : (a + 8) ≠ oh_sz h := lt (by rw [sK_8 P]; decide)
  have k9 : (a + 9) ≠ oh_sz h := lt (by rw [sK_9 P]; decide)
  have k10 : (a + 10) ≠ oh_sz h := lt (by rw [sK_10 P]; decide)
  have k11 : (a + 11) ≠ oh_sz h := lt (by rw [sK_11 P]; decide)
  have k12 : (a + 12) ≠ oh_sz h := lt (by rw [sK_12 P]; decide)
  have k13 : (a + 13) ≠ oh_sz h := lt (by rw [sK_13 P]; decide)
  have k14 : (a + 14) ≠ oh_sz h := lt (by rw [sK_14 P]; decide)
  have k15 : (a + 15) ≠ oh_sz h := lt (by rw [sK_15 P]; decide)
  have k16 : (a + 16) ≠ oh_sz h := lt (by rw [sK_16 P]; decide)
  have k17 : (a + 17) ≠ oh_sz h := lt (by rw [sK_17 P]; decide)
  have k18 : (a + 18) ≠ oh_sz h := lt (by rw [sK_18 P]; decide)
  have k19 : (a + 19) ≠ oh_sz h := lt (by rw [sK_19 P]; decide)
  have k20 : (a + 20) ≠ oh_sz h := lt (by rw [sK_20 P]; decide)
  have k21 : (a + 21) ≠ oh_sz h := lt (by rw [sK_21 P]; decide)
  have k22 : (a + 22) ≠ oh_sz h := lt (by rw [sK_22 P]; decide)
  have k23 : (a + 23) ≠ oh_sz h := lt (by rw [sK_23 P]; decide)
  have k24 : (a + 24) ≠ oh_sz h := lt (by rw [sK_24 P]; decide)
  have k25 : (a + 25) ≠ oh_sz h := lt (by rw [sK_25 P]; decide)
  have k26 : (a + 26) ≠ oh_sz h := lt (by rw [sK_26 P]; decide)
  have k27 : (a + 27) ≠ oh_sz h := lt (by rw [sK_27 P]; decide)
  have k28 : (a + 28) ≠ oh_sz h := lt (by rw [sK_28 P]; decide)
  have k29 : (a + 29) ≠ oh_sz h := lt (by rw [sK_29 P]; decide)
  have k30 : (a + 30) ≠ oh_sz h := lt (by rw [sK_30 P]; decide)
  have k31 : (a + 31) ≠ oh_sz h := lt (by rw [sK_31 P]; decide)
  have k32 : (a + 32) ≠ oh_sz h := lt (by rw [sK_32 P]; decide)
  have k33 : (a + 33) ≠ oh_sz h := lt (by rw [sK_33 P]; decide)
  have k34 : (a + 34) ≠ oh_sz h := lt (by rw [sK_34 P]; decide)
  have k35 : (a + 35) ≠ oh_sz h := lt (by rw [sK_35 P]; decide)
  have k36 : (a + 36) ≠ oh_sz h := lt (by rw [sK_36 P]; decide)
  have k37 : (a + 37) ≠ oh_sz h := lt (by rw [sK_37 P]; decide)
  have k38 : (a + 38) ≠ oh_sz h := lt (by rw [sK_38 P]; decide)
  have k39 : (a + 39) ≠ oh_sz h := lt (by rw [sK_39 P]; decide)
  have k40 : (a + 40) ≠ oh_sz h := lt (by rw [sK_40 P]; decide)
  have k41 : (a + 41) ≠ oh_sz h := lt (by rw [sK_41 P]; decide)
  have k42 : (a + 42) ≠ oh_sz h := lt (by rw [sK_42 P]; decide)
  have k43 : (a + 43) ≠ oh_sz h := lt (by rw [sK_43 P]; decide)
  have k44 : (a + 44) ≠ oh_sz h := lt (by rw [sK_44 P]; decide)
  have k45 : (a + 45) ≠ oh_sz h := lt (by rw [sK_45 P]; decide)
  have k46 : (a + 46) ≠ oh_sz h := lt (by rw [sK_46 P]; decide)
  have k47 : (a + 47) ≠ oh_sz h := lt (by rw [sK_47 P]; decide)
  have k48 : (a + 48) ≠ oh_sz h := lt (by rw [sK_48 P]; decide)
  have k49 : (a + 49) ≠ oh_sz h := lt (by rw [sK_49 P]; decide)
  have k50 : (a + 50) ≠ oh_sz h := lt (by rw [sK_50 P]; decide)
  have k51 : (a + 51) ≠ oh_sz h := lt (by rw [sK_51 P]; decide)
  have k52 : (a + 52) ≠ oh_sz h := lt (by rw [sK_52 P]; decide)
  have k53 : (a + 53) ≠ oh_sz h := lt (by rw [sK_53 P]; decide)
  have k54 : (a + 54) ≠ oh_sz h := lt (by rw [sK_54 P]; decide)
  have k55 : (a + 55) ≠ oh_sz h := lt (by rw [sK_55 P]; decide)
  have k56 : (a + 56) ≠ oh_sz h := lt (by rw [sK_56 P]; decide)
  have k57 : (a + 57) ≠ oh_sz h := lt (by rw [sK_57 P]; decide)
  have k58 : (a + 58) ≠ oh_sz h := lt (by rw [sK_58 P]; decide)
  have k59 : (a + 59) ≠ oh_sz h := lt (by rw [sK_59 P]; decide)
  have k60 : (a + 60) ≠ oh_sz h := lt (by rw [sK_60 P]; decide)
  have k61 : (a + 61) ≠ oh_sz h := lt (by rw [sK_61 P]; decide)
  refine ⟨?_, by rw [eN]; exact P.2.1, ?_, by rw [eA]; exact P.2.2.2⟩
  · unfold pS_K
    rw [eK _ k0, eK _ k1, eK _ k2, eK _ k3, eK _ k4, eK _ k5, eK _ k6, eK _ k7, eK _ k8, eK _ k9, eK _ k10, eK _ k11, eK _ k12, eK _ k13, eK _ k14, eK _ k15, eK _ k16, eK _ k17, eK _ k18, eK _ k19, eK _ k20, eK _ k21, eK _ k22, eK _ k23, eK _ k24, eK _ k25, eK _ k26, eK _ k27, eK _ k28, eK _ k29, eK _ k30, eK _ k31, eK _ k32, eK _ k33, eK _ k34, eK _ k35, eK _ k36, eK _ k37, eK _ k38, eK _ k39, eK _ k40, eK _ k41, eK _ k42, eK _ k43, eK _ k44, eK _ k45, eK _ k46, eK _ k47, eK _ k48, eK _ k49, eK _ k50, eK _ k51, eK _ k52, eK _ k53, eK _ k54, eK _ k55, eK _ k56, eK _ k57, eK _ k58, eK _ k59, eK _ k60, eK _ k61]
    exact P.1
  · unfold pS_R
    rw [eR 0 _ k5, eR 193 _ k17, eR 193 _ k20, eR 193 _ k23, eR 194 _ k17, eR 194 _ k20, eR 194 _ k23, eR 256 _ k8, eR 257 _ k8, eR 258 _ k8, eR 259 _ k8, eR 260 _ k8, eR 261 _ k8, eR 262 _ k8, eR 266 _ k8, eR 448 _ k0, eR 449 _ k0, eR 450 _ k0, eR 451 _ k0, eR 452 _ k0, eR 453 _ k0, eR 454 _ k0, eR 517 _ k26, eR 518 _ k26, eR 520 _ k26, eR 521 _ k26, eR 522 _ k26, eR 523 _ k26, eR 524 _ k26, eR 525 _ k26, eR 526 _ k26, eR 527 _ k26, eR 528 _ k26, eR 529 _ k26, eR 530 _ k26, eR 531 _ k26, eR 532 _ k26, eR 533 _ k26, eR 534 _ k26, eR 535 _ k26, eR 536 _ k26, eR 537 _ k26, eR 538 _ k26, eR 539 _ k26, eR 540 _ k26, eR 542 _ k26, eR 543 _ k26, eR 544 _ k26, eR 545 _ k26, eR 546 _ k26, eR 547 _ k26, eR 548 _ k26, eR 549 _ k26, eR 550 _ k26, eR 560 _ k26, eR 562 _ k26, eR 563 _ k26]
    exact P.2.2.1
theorem RR_off {h h' : oh_H} {a ng nl nv n : Nat} (R : RR h a ng nl nv n) (eS : oh_sz h' = oh_sz h + 1) (eK : ∀ q, q ≠ oh_sz h → oh_K h' q = oh_K h q) (eF : ∀ c b, b ≠ oh_sz h → oh_FI h' c b = oh_FI h c b) (eL : ∀ c b, b ≠ oh_sz h → oh_FL h' c b = oh_FL h c b) (eR : ∀ c b, b ≠ oh_sz h → oh_FR h' c b = oh_FR h c b) (eN : oh_N h' = oh_N h) (eI : oh_AI h' = oh_AI h) (eJ : oh_AL h' = oh_AL h) (eA : oh_AR h' = oh_AR h) : RR h' a ng nl nv n := by
  obtain ⟨P, hD, hZ, hG, hL, hM, hB, hV, hDe, hT, hP, hW, vn, vt, vg, vl, vf, vb, vm, vv, vd, vx⟩ := id R
  have lt : ∀ {q}, oh_K h q ≠ 0 → q ≠ oh_sz h := fun hq e => hq (hZ _ (by omega))
  have k0 : a ≠ oh_sz h := lt (by rw [sK_0 P]; decide)
  have k7 : a + 7 ≠ oh_sz h := lt (by rw [sK_7 P]; decide)
  have k8 : a + 8 ≠ oh_sz h := lt (by rw [sK_8 P]; decide)
  have k26 : a + 26 ≠ oh_sz h := lt (by rw [sK_26 P]; decide)
  have km : ∀ m, m < 3 → ml a m ≠ oh_sz h := fun m hm => lt (by rw [(K_ml P hm).1]; decide)
  have kg : ∀ j, j < ng → ga (oh_AR h) a j ≠ oh_sz h := fun j hj => lt (by rw [(hD.1 j hj).2]; decide)
  have kl : ∀ j, j < nl → la (oh_AR h) a j ≠ oh_sz h := fun j hj => lt (by rw [(hD.2.1 j hj).2]; decide)
  have kv : ∀ j, j < nv → ve (oh_AR h) a j ≠ oh_sz h := fun j hj => lt (by rw [(hD.2.2.1 j hj).2]; decide)
  unfold RR
  rw [eI, eJ, eA]
  refine ⟨PS_off P hZ eK eR eN eA, ⟨fun j hj => ?_, fun j hj => ?_, fun j hj => ?_, hD.2.2.2⟩, fun q hq => ?_, fun j hj => ?_, fun j hj => ?_, fun m hm => ?_, hB, fun j hj => ?_, hDe, ?_, ?_, fun m hm => ?_, vn, ?_, vg, ?_, vf, vb, vm, vv, vd, vx⟩
  · rw [eK _ (kg j hj)]
    exact hD.1 j hj
  · rw [eK _ (kl j hj)]
    exact hD.2.1 j hj
  · rw [eK _ (kv j hj)]
    exact hD.2.2.1 j hj
  · rw [eS] at hq
    rw [eK _ (by omega)]
    exact hZ q (by omega)
  · rw [eF _ _ (kg j hj), eF _ _ (kg j hj), eF _ _ (kg j hj)]
    exact hG j hj
  · rw [eF _ _ (kl j hj), eF _ _ (kl j hj), eF _ _ (kl j hj), eF _ _ (kl j hj), eF _ _ (kl j hj), eF _ _ (kl j hj), eF _ _ (kl j hj), eF _ _ (kl j hj), eF _ _ (kl j hj), eF _ _ (kl j hj), eF _ _ (kl j hj), eR _ _ (kl j hj)]
    exact hL j hj
  · rw [eF _ _ (km m hm), eF _ _ (km m hm), eF _ _ (km m hm), eF _ _ (km m hm), eF _ _ (km m hm), eF _ _ (km m hm), eF _ _ (km m hm), eF _ _ (km m hm), eF _ _ (km m hm), eF _ _ (km m hm)]
    exact hM m hm
  · rw [eF _ _ (kv j hj), eF _ _ (kv j hj), eF _ _ (kv j hj), eF _ _ (kv j hj), eF _ _ (kv j hj), eF _ _ (kv j hj), eL _ _ (kv j hj), eL _ _ (kv j hj)]
    exact hV j hj
  · unfold qT
    rw [eF _ _ k0, eF _ _ k0, eF _ _ k0, eF _ _ k0, eF _ _ k0, eF _ _ k0, eF _ _ k0, eF _ _ k26, eF _ _ k26, eF _ _ k26, eF _ _ k26, eF _ _ k26, eF _ _ k26, eF _ _ k26, eF _ _ k26, eF _ _ k26, eF _ _ k26, eF _ _ k26, eF _ _ k26, eF _ _ k7, eF _ _ k7, eF _ _ k7, eF _ _ k7, eF _ _ k7]
    exact hT
  · unfold qP
    rw [eF _ _ k8, eF _ _ k8, eF _ _ k8, eF _ _ k26, eF _ _ k26, eF _ _ k26, eF _ _ k8, eF _ _ k26]
    exact hP
  · rw [eF _ _ (km m hm), eF _ _ (km m hm)]
    exact hW m hm
  · unfold vT
    rw [eF _ _ k26, eF _ _ k26, eF _ _ k26, eF _ _ k26]
    exact vt
  · unfold vL
    rw [eF _ _ k26]
    exact vl
theorem i_ltn {x : Int32} {n : Nat} (h : n < 2 ^ 31) (m : Nat) (hm : m < 2 ^ 31) : (nI m < nI n) = (m < n) := iN_lt hm h
theorem n_m1 (k : Nat) : nI k + 1 - 1 = nI k := by
  rw [Int32.add_sub_cancel]

