theorem stay_le {p s : Nat} (hp : p ≤ s) : stay p s ≤ s ∧ ∀ k, k < stay p s → (if k < p then k else k + 1) < s := by
  unfold stay
  by_cases q : s ≤ p
  · rw [if_pos q]
    refine ⟨Nat.le_refl _, fun k hk => ?_⟩
    rw [if_pos (by omega)]
    exact hk
  · rw [if_neg q]
    refine ⟨by omega, fun k hk => ?_⟩
    split <;> omega
theorem rem_sh {V : Type} {w : Nat → V} {p s k b : Nat} (hp : p ≤ s) (hk : k < stay p s) : rem w (b + p) (b + s) (b + k) = w (b + (if k < p then k else k + 1)) := by
  have h1 := (stay_le hp).2 k hk
  simp only [rem]
  by_cases q : k < p
  · rw [if_pos q] at h1 ⊢
    rw [if_neg (by omega)]
  · rw [if_neg q] at h1 ⊢
    rw [if_pos (by omega), show b + k + 1 = b + (k + 1) by omega]
set_option maxHeartbeats 4000000 in
theorem RR_take {h h' : oh_H} {a ng nl nv n j m s p : Nat} (R : RR h a ng nl nv n) (hj : j < nl) (hm : m < 3) (h43 : oh_AI h (a + 43) m = nI s) (hs : s ≤ 12) (hp : p ≤ s) (p1 : ∀ k, k < s → (bl (oh_AI h) a m k = j ↔ k = p)) (h32 : oh_AI h (a + 32) j = 3) (h38 : oh_AI h (a + 38) j = nI m) (h45 : oh_AI h (a + 45) m = 0) (eK : oh_K h' = oh_K h) (eS : oh_sz h' = oh_sz h) (eN : oh_N h' = oh_N h) (eFR : oh_FR h' = oh_FR h) (eFL : oh_FL h' = oh_FL h) (eAL : oh_AL h' = oh_AL h)
    (w1 : ∀ c, c ≠ ml a m + 1 → oh_AR h' c = oh_AR h c) (w2 : ∀ k, oh_AR h' (ml a m + 1) k = rem (oh_AR h (ml a m + 1)) p s k)
    (f1 : ∀ c b, c ≠ 32 → c ≠ 38 → c ≠ 43 → c ≠ 44 → oh_AI h' (a + c) b = oh_AI h (a + c) b) (f2 : ∀ i, oh_AI h' (a + 32) i = if i = j then 2 else oh_AI h (a + 32) i) (f3 : ∀ i, oh_AI h' (a + 38) i = if i = j then -1 else oh_AI h (a + 38) i) (f4 : ∀ i, oh_AI h' (a + 43) i = if i = m then nI (stay p s) else oh_AI h (a + 43) i) (f5 : ∀ i, oh_AI h' (a + 44) i = rem (oh_AI h (a + 44)) (12 * m + p) (12 * m + s) i)
    (g1 : ∀ c b, c ≠ 132 → c ≠ 138 → c ≠ 195 → oh_FI h' c b = oh_FI h c b) (g2 : ∀ b, oh_FI h' 132 b = if b = la (oh_AR h) a j then 2 else oh_FI h 132 b) (g3 : ∀ b, oh_FI h' 138 b = if b = la (oh_AR h) a j then -1 else oh_FI h 138 b) (g4 : ∀ b, oh_FI h' 195 b = if b = ml a m then nI (stay p s) else oh_FI h 195 b) : RR h' a ng nl nv (n + 1) := by
  have R0 := R
  obtain ⟨P, hD, hZ, hG, hL, hM, hB, hV, hDe, hT, hP, hW, vn, vt, vg, vl, vf, vb, vm, vv, vd, vx⟩ := id R
  have hnl := vn.2.1
  obtain ⟨hst, hsh⟩ := stay_le hp
  obtain ⟨s', h1, h2, h3, h4⟩ := bin_of hB hnl hm
  have es : s' = s := by
    have e := h2.symm.trans h43
    rw [iN_eq (by omega) (by omega)] at e
    exact e
  subst es
  have lax : ∀ i, la (oh_AR h') a i = la (oh_AR h) a i := fun i => by
    unfold la
    rw [w1 (a + 2) (by unfold ml; omega)]
  -- the bins afterwards
  have bnm : bn (oh_AI h') a m = stay p s' := by
    unfold bn
    rw [f4, if_pos rfl]
    exact nI_clamp (by omega)
  have bno : ∀ m', m' ≠ m → bn (oh_AI h') a m' = bn (oh_AI h) a m' := fun m' q => by
    unfold bn
    rw [f4, if_neg q]
  have blm : ∀ k, k < stay p s' → bl (oh_AI h') a m k = bl (oh_AI h) a m (if k < p then k else k + 1) := fun k hk => by
    unfold bl
    rw [f5, rem_sh hp hk]
  have blo : ∀ m', m' < 3 → m' ≠ m → ∀ k, k < 12 → oh_AI h' (a + 44) (12 * m' + k) = oh_AI h (a + 44) (12 * m' + k) := fun m' hm' q k hk => by
    rw [f5]
    simp only [rem]
    rw [if_neg (by omega)]
  have blo' : ∀ m', m' < 3 → m' ≠ m → ∀ k, k < 12 → bl (oh_AI h') a m' k = bl (oh_AI h) a m' k := fun m' hm' q k hk => by
    unfold bl
    rw [blo m' hm' q k hk]
  have nbm : ∀ k, k < stay p s' → bl (oh_AI h) a m (if k < p then k else k + 1) ≠ j := fun k hk e => by
    have h5 := (p1 _ (hsh k hk)).mp e
    by_cases q : k < p
    · rw [if_pos q] at h5
      omega
    · rw [if_neg q] at h5
      omega
  have nbo : ∀ m', m' < 3 → m' ≠ m → ∀ k, k < bn (oh_AI h) a m' → bl (oh_AI h) a m' k ≠ j := fun m' hm' q k hk e => by
    have B := ((vb m' hm').1 k hk).1
    rw [e, h38, iN_eq (by omega) (by omega)] at B
    exact q B.symm
  refine RR.mono (RR_mill R0 eK eS eN eFR eFL (fun k b _ => by rw [eAL]) (fun k hk => w1 _ (by unfold ml; omega)) (fun c b hc => g1 c b (by omega) (by omega) (by omega)) (fun k b hk => f1 k b (by omega) (by omega) (by omega) (by omega)) ?_ ?_ ?_ ?_ ?_ ?_ ?_ ?_)
  · intro i hi
    have L := hL i hi
    have inj : (la (oh_AR h) a i = la (oh_AR h) a j) = (i = j) := propext ⟨fun e => hD.2.2.2.1 _ _ hi hj e, fun e => by rw [e]⟩
    rw [g1 128 _ (by decide) (by decide) (by decide), g1 130 _ (by decide) (by decide) (by decide), g1 131 _ (by decide) (by decide) (by decide), g1 133 _ (by decide) (by decide) (by decide), g1 134 _ (by decide) (by decide) (by decide), g1 135 _ (by decide) (by decide) (by decide), g1 136 _ (by decide) (by decide) (by decide), g1 137 _ (by decide) (by decide) (by decide), g1 139 _ (by decide) (by decide) (by decide), f1 31 _ (by decide) (by decide) (by decide) (by decide), f1 29 _ (by decide) (by decide) (by decide) (by decide), f1 33 _ (by decide) (by decide) (by decide) (by decide), f1 34 _ (by decide) (by decide) (by decide) (by decide), f1 35 _ (by decide) (by decide) (by decide) (by decide), f1 36 _ (by decide) (by decide) (by decide) (by decide), f1 37 _ (by decide) (by decide) (by decide) (by decide), f1 39 _ (by decide) (by decide) (by decide) (by decide), f1 30 _ (by decide) (by decide) (by decide) (by decide), g2, g3, f2, f3]
    simp only [inj]
    refine ⟨L.1, L.2.1, L.2.2.1, ?_, L.2.2.2.2.1, L.2.2.2.2.2.1, L.2.2.2.2.2.2.1, L.2.2.2.2.2.2.2.1, L.2.2.2.2.2.2.2.2.1, ?_, L.2.2.2.2.2.2.2.2.2.2⟩
    · rw [L.2.2.2.1]
    · rw [L.2.2.2.2.2.2.2.2.2.1]
  · intro m' hm'
    have M := hM m' hm'
    have inj : (ml a m' = ml a m) = (m' = m) := propext ⟨fun e => ml_inj e, fun e => by rw [e]⟩
    rw [g1 192 _ (by decide) (by decide) (by decide), g1 196 _ (by decide) (by decide) (by decide), g1 197 _ (by decide) (by decide) (by decide), g1 198 _ (by decide) (by decide) (by decide), g1 199 _ (by decide) (by decide) (by decide), g1 200 _ (by decide) (by decide) (by decide), g1 201 _ (by decide) (by decide) (by decide), g1 204 _ (by decide) (by decide) (by decide), g1 205 _ (by decide) (by decide) (by decide), f1 40 _ (by decide) (by decide) (by decide) (by decide), f1 41 _ (by decide) (by decide) (by decide) (by decide), f1 42 _ (by decide) (by decide) (by decide) (by decide), f1 45 _ (by decide) (by decide) (by decide) (by decide), f1 46 _ (by decide) (by decide) (by decide) (by decide), f1 47 _ (by decide) (by decide) (by decide) (by decide), f1 48 _ (by decide) (by decide) (by decide) (by decide), f1 49 _ (by decide) (by decide) (by decide) (by decide), g4, f4]
    simp only [inj]
    refine ⟨M.1, ?_, M.2.2⟩
    rw [M.2.1]
  · intro m' hm'
    by_cases z : m' = m
    · subst z
      refine ⟨stay p s', by omega, by rw [f4, if_pos rfl], fun k hk => ?_⟩
      obtain ⟨c1, c2, c3⟩ := h4 _ (hsh k hk)
      refine ⟨_, c1, ?_, ?_⟩
      · rw [f5, rem_sh hp hk]
        exact c2
      · have e := rem_sh (w := oh_AR h (ml a m' + 1)) (b := 0) hp hk
        simp only [Nat.zero_add] at e
        rw [w2, e, lax]
        exact c3
    · obtain ⟨t, b1, b2, b3⟩ := hB m' hm'
      refine ⟨t, b1, by rw [f4, if_neg z]; exact b2, fun k hk => ?_⟩
      obtain ⟨i, c1, c2, c3⟩ := b3 k hk
      refine ⟨i, c1, ?_, ?_⟩
      · rw [blo m' hm' z k (by omega)]
        exact c2
      · rw [w1 _ (by unfold ml; omega), lax]
        exact c3
  · intro m' hm'
    have W := hW m' hm'
    rw [g1 202 _ (by decide) (by decide) (by decide), g1 203 _ (by decide) (by decide) (by decide), f1 45 _ (by decide) (by decide) (by decide) (by decide)]
    by_cases z : m' = m
    · subst z
      rw [h45] at W ⊢
      rw [if_neg (by decide), if_neg (by decide)] at W ⊢
      exact W
    · obtain ⟨t, b1, b2, b3, b4⟩ := bin_of hB hnl hm'
      have S := sum_same (F := oh_AI h') (G := oh_AI h) (a := a) (m := m') (s := bn (oh_AI h) a m') (fun k hk => ⟨blo' m' hm' z k (by omega), f1 33 _ (by decide) (by decide) (by decide) (by decide), f1 34 _ (by decide) (by decide) (by decide) (by decide), f1 35 _ (by decide) (by decide) (by decide) (by decide)⟩)
      rw [bno m' z, S.1, S.2.1, S.2.2]
      exact W
  · intro i hi
    have V := vl i hi
    rw [f1 29 _ (by decide) (by decide) (by decide) (by decide), f1 31 _ (by decide) (by decide) (by decide) (by decide), f1 33 _ (by decide) (by decide) (by decide) (by decide), f1 34 _ (by decide) (by decide) (by decide) (by decide), f1 35 _ (by decide) (by decide) (by decide) (by decide), f1 36 _ (by decide) (by decide) (by decide) (by decide), f1 37 _ (by decide) (by decide) (by decide) (by decide), f1 39 _ (by decide) (by decide) (by decide) (by decide), f2, f3]
    by_cases z : i = j
    · subst z
      obtain ⟨V1, V2, V3, V4, V5, V6, V7, V8, V9, V10, V11, V12, V13, V14⟩ := V
      rw [if_pos rfl, if_pos rfl]
      exact ⟨V1, V2, by decide, V4, V5, V6, V7, fun _ => V8 (by rw [h32]; decide), fun _ => V9 (by rw [h32]; decide), V10, V11, fun w => absurd w (by decide), fun w => absurd w (by decide), V14⟩
    · rw [if_neg z, if_neg z]
      exact V
  · intro i h1 h2 k hk hk2
    have z : i ≠ j := by omega
    by_cases q : k = 32
    · subst q
      rw [f2, if_neg z]
    · by_cases q2 : k = 38
      · subst q2
        rw [f3, if_neg z]
      · exact f1 k i q q2 (by omega) (by omega)
  · intro m' hm'
    have B := vb m' hm'
    have e45 := f1 45 m' (by decide) (by decide) (by decide) (by decide)
    by_cases z : m' = m
    · subst z
      rw [bnm, e45]
      refine ⟨fun k hk => ?_, fun k k' hk hk' e => ?_, fun k k' hk hk' e => ?_, fun w => ?_⟩
      · rw [blm k hk, f3, f2, if_neg (nbm k hk), if_neg (nbm k hk)]
        exact B.1 _ (by rw [h3]; exact hsh k hk)
      · rw [blm k hk, blm k' hk'] at e
        have e2 := B.2.1 _ _ (by rw [h3]; exact hsh k hk) (by rw [h3]; exact hsh k' hk') e
        by_cases q : k < p <;> by_cases q' : k' < p <;> simp only [q, q', if_true, if_false] at e2 <;> omega
      · rw [blm k hk, f1 29 _ (by decide) (by decide) (by decide) (by decide)] at e
        rw [blm k' hk', f1 29 _ (by decide) (by decide) (by decide) (by decide)]
        exact B.2.2.1 _ _ (by rw [h3]; exact hsh k hk) (by rw [h3]; exact hsh k' hk') e
      · rw [h45] at w
        exact absurd w (by decide)
    · obtain ⟨t, b1, b2, b3, b4⟩ := bin_of hB hnl hm'
      rw [bno m' z, e45]
      refine ⟨fun k hk => ?_, fun k k' hk hk' e => ?_, fun k k' hk hk' e => ?_, fun w => B.2.2.2 w⟩
      · rw [blo' m' hm' z k (by omega), f3, f2, if_neg (nbo m' hm' z k hk), if_neg (nbo m' hm' z k hk)]
        exact B.1 k hk
      · rw [blo' m' hm' z k (by omega), blo' m' hm' z k' (by omega)] at e
        exact B.2.1 k k' hk hk' e
      · rw [blo' m' hm' z k (by omega), f1 29 _ (by decide) (by decide) (by decide) (by decide)] at e
        rw [blo' m' hm' z k' (by omega), f1 29 _ (by decide) (by decide) (by decide) (by decide)]
        exact B.2.2.1 k k' hk hk' e
  · intro m' hm'
    have V := vm m' hm'
    rw [f1 40 _ (by decide) (by decide) (by decide) (by decide), f1 41 _ (by decide) (by decide) (by decide) (by decide), f1 42 _ (by decide) (by decide) (by decide) (by decide), f1 45 _ (by decide) (by decide) (by decide) (by decide), f1 46 _ (by decide) (by decide) (by decide) (by decide), f1 47 _ (by decide) (by decide) (by decide) (by decide), f1 48 _ (by decide) (by decide) (by decide) (by decide), f1 49 _ (by decide) (by decide) (by decide) (by decide)]
    exact V
theorem find_p (f : Nat → Nat) (j s : Nat) (inj : ∀ k k', k < s → k' < s → f k = f k' → k = k') : ∃ p, p ≤ s ∧ ∀ k, k < s → (f k = j ↔ k = p) := by
  by_cases q : ∃ p, p < s ∧ f p = j
  · obtain ⟨p, h1, h2⟩ := q
    exact ⟨p, by omega, fun k hk => ⟨fun e => inj k p hk h1 (by rw [e, h2]), fun e => by rw [e, h2]⟩⟩
  · exact ⟨s, Nat.le_refl _, fun k hk => ⟨fun e => absurd ⟨k, hk, e⟩ q, fun e => by omega⟩⟩
set_option maxHeartbeats 4000000 in
theorem P_take {h : oh_H} {a ng nl nv n : Nat} (R : RR h a ng nl nv n) (x : Int32) : PR (f_X7_take h a x) (fun h => f_X8_take h (a + 26) x) a n := by
  have R0 := R
  obtain ⟨P, hD, hZ, hG, hL, hM, hB, hV, hDe, hT, hP, hW, vn, vt, vg, vl, vf, vb, vm, vv, vd, vx⟩ := id R
  have hnl := vn.2.1
  rcases i_cases x (n := nl) (by omega) with ⟨j, hj, rfl⟩ | hx
  · obtain ⟨D1, hl⟩ := hD.2.1 j hj
    have Ll := hL j hj
    have hj2 : j < 200 := by omega
    have fl := e_findLot (sK_0 P) hT.2.2.1 (sR_449_0 P) (sK_2 P) (sN_2 P) hj hnl
    have mlt := isLot_w P hT.2.2.2.1 hj hnl
    by_cases q0 : oh_AI h (a + 32) j = 3
    · have w := (vl j hj).2.2.2.2.2.2.2.2.2.2.2.1 (by rw [q0]; decide) (by rw [q0]; decide)
      obtain ⟨m, hm, em⟩ := i_of w.1 w.2
      have Km := K_ml P hm
      have M := hM m hm
      by_cases q1 : oh_AI h (a + 45) m = 0
      · obtain ⟨s, h1, h2, h3, h4⟩ := bin_of hB hnl hm
        obtain ⟨p, hp, p1⟩ := find_p (fun k => bl (oh_AI h) a m k) j s (fun k k' hk hk' e => (vb m hm).2.1 k k' (by omega) (by omega) e)
        have cr := c_remove R0 hj hm h2 h1 hp p1
        obtain ⟨W, eW⟩ : ∃ W, W = row2 (oh_AR h) (ml a m + 1) (rem (oh_AR h (ml a m + 1)) p s) := ⟨_, rfl⟩
        obtain ⟨F, eF⟩ : ∃ F, F = oh_u2 (oh_u2 (oh_u2 (oh_FI h) 195 (ml a m) (nI (stay p s))) 132 (la (oh_AR h) a j) 2) 138 (la (oh_AR h) a j) (-1) := ⟨_, rfl⟩
        have cr' : f_X3_remove h (ml a m) (some (la (oh_AR h) a j)) = some (oh_mF (oh_mR h W) F) := by
          rw [cr, eF, eW]
          rfl
        have P' : PS (oh_mF (oh_mR h W) F) a := by
          rw [eW]
          exact PS_mR.mpr P
        have mt := m_take (h := oh_mF (oh_mR h W) F) P' hj2 hm h2 h1 hp (fun k hk => ⟨by have := (h4 k hk).1; show bl (oh_AI h) a m k < 200; omega, (h4 k hk).2.1⟩) p1
        obtain ⟨A, eA⟩ : ∃ A, A = oh_u2 (oh_u2 (oh_u2 (row2 (oh_AI h) (a + 44) (rem (oh_AI h (a + 44)) (12 * m + p) (12 * m + s))) (a + 43) m (nI (stay p s))) (a + 32) j 2) (a + 38) j (-1) := ⟨_, rfl⟩
        have mt' : f_X8_take_46 (oh_mF (oh_mR h W) F) (a + 26) (nI j) (nI m) 0 0 = some (1, oh_mA (oh_mF (oh_mR h W) F) A) := by
          rw [eA]
          exact mt
        refine ⟨1, oh_mF (oh_mR h W) F, oh_mA (oh_mF (oh_mR h W) F) A, ng, nl, nv, ?_, ?_, RR_take R0 hj hm h2 h1 hp p1 q0 em q1 rfl rfl rfl rfl rfl rfl (fun c q => ?_) (fun k => ?_) (fun c b z1 z2 z3 z4 => ?_) (fun i => ?_) (fun i => ?_) (fun i => ?_) (fun i => ?_) (fun c b z1 z2 z3 => ?_) (fun b => ?_) (fun b => ?_) (fun b => ?_)⟩
        · simp only [f_X7_take, f_X7_take_40, f_X7_take_18, g_448_0, g_449_0, g_450_0, g_451_0, g_452_0, g_453_0, g_454_0, g_455_0, p_455_0, g_456_0, p_456_0, g_457_0, p_457_0, g_458_0, p_458_0, g_459_0, p_459_0, g_460_0, p_460_0, g_461_0, p_461_0, rc_0, g_0_5, rc_5, g_320_7, p_320_7, g_321_7, p_321_7, g_322_7, p_322_7, g_323_7, p_323_7, g_324_7, p_324_7, rc_7, g_256_8, g_257_8, g_258_8, g_259_8, g_260_8, g_261_8, g_262_8, g_263_8, p_263_8, g_264_8, p_264_8, g_265_8, p_265_8, g_266_8, g_267_8, p_267_8, g_268_8, p_268_8, g_269_8, p_269_8, g_270_8, p_270_8, rc_8, g_192_17, p_192_17, g_193_17, g_194_17, g_195_17, p_195_17, g_196_17, p_196_17, g_197_17, p_197_17, g_198_17, p_198_17, g_199_17, p_199_17, g_200_17, p_200_17, g_201_17, p_201_17, g_202_17, p_202_17, g_203_17, p_203_17, g_204_17, p_204_17, g_205_17, p_205_17, rc_17, g_192_20, p_192_20, g_193_20, g_194_20, g_195_20, p_195_20, g_196_20, p_196_20, g_197_20, p_197_20, g_198_20, p_198_20, g_199_20, p_199_20, g_200_20, p_200_20, g_201_20, p_201_20, g_202_20, p_202_20, g_203_20, p_203_20, g_204_20, p_204_20, g_205_20, p_205_20, rc_20, g_192_23, p_192_23, g_193_23, g_194_23, g_195_23, p_195_23, g_196_23, p_196_23, g_197_23, p_197_23, g_198_23, p_198_23, g_199_23, p_199_23, g_200_23, p_200_23, g_201_23, p_201_23, g_202_23, p_202_23, g_203_23, p_203_23, g_204_23, p_204_23, g_205_23, p_205_23, rc_23, g_512_26, p_512_26, g_513_26, p_513_26, g_514_26, p_514_26, g_515_26, p_515_26, g_516_26, p_516_26, g_517_26, g_518_26, g_519_26, p_519_26, g_520_26, g_521_26, g_522_26, g_523_26, g_524_26, g_525_26, g_526_26, g_527_26, g_528_26, g_529_26, g_530_26, g_531_26, g_532_26, g_533_26, g_534_26, g_535_26, g_536_26, g_537_26, g_538_26, g_539_26, g_540_26, g_541_26, p_541_26, g_542_26, g_543_26, g_544_26, g_545_26, g_546_26, g_547_26, g_548_26, g_549_26, g_550_26, g_551_26, p_551_26, g_552_26, p_552_26, g_553_26, p_553_26, g_554_26, p_554_26, g_555_26, p_555_26, g_556_26, p_556_26, g_557_26, p_557_26, g_558_26, p_558_26, g_559_26, p_559_26, g_560_26, g_561_26, p_561_26, g_562_26, g_563_26, g_564_26, p_564_26, g_565_26, p_565_26, rc_26, ai_1, ai_2, ai_3, ai_4, ai_6, ti_6, ai_9, ti_9, ai_10, ti_10, ai_11, ti_11, ai_12, ti_12, ai_13, ti_13, ai_14, ti_14, ai_15, ti_15, ai_16, ti_16, ai_18, ai_19, ti_19, ai_21, ai_22, ti_22, ai_24, ai_25, ti_25, ai_27, ti_27, ai_28, ti_28, ai_29, ti_29, ai_30, ti_30, ai_31, ti_31, ai_32, ti_32, ai_33, ti_33, ai_34, ti_34, ai_35, ti_35, ai_36, ti_36, ai_37, ti_37, ai_38, ti_38, ai_39, ti_39, ai_40, ti_40, ai_41, ti_41, ai_42, ti_42, ai_43, ti_43, ai_44, ti_44, ai_45, ti_45, ai_46, ti_46, ai_47, ti_47, ai_48, ti_48, ai_49, ti_49, ai_50, ti_50, ai_51, ti_51, ai_52, ti_52, ai_53, ti_53, ai_54, ti_54, ai_55, ti_55, ai_56, ti_56, ai_57, ti_57, ai_58, ti_58, ai_59, ti_59, ai_60, ti_60, ai_61, ti_61, Option.bind_some, oh_lt, e_bz0, e_bz1, e_in, e_isWithin, e_isFarmer, e_isSort, ite01, i10, PS_wI, PS_wL, PS_sI, PS_sL, pw_wI, pw_wL, pw_wR, pw_sI, pw_sL, pw_sR, oh_u2, Nat.add_left_cancel_iff, Nat.reduceEqDiff, Nat.add_eq_left, Nat.left_eq_add, reduceCtorEq, false_and, true_and, and_true, and_false, if_false, if_true, e_gI, e_gR, e_gL, e_pI, e_pL, e_rc, Nat.reduceDiv, Nat.reduceAdd, P, fl, D1, hl, Ll.2.2.2.1, Ll.2.2.2.2.2.2.2.2.2.1, q0, em, e_findMill P hm, Km.1, M, q1, cr']
        · have mlt' := mlt (oh_mF (oh_mR h W) F) rfl (by
            show F 519 (a + 26) = _
            rw [eF]
            simp only [oh_u2, Nat.add_left_cancel_iff, Nat.reduceEqDiff, Nat.add_eq_left, Nat.left_eq_add, reduceCtorEq, false_and, true_and, and_true, and_false, if_false, if_true])
          simp only [f_X8_take, f_X8_take_32, g_448_0, g_449_0, g_450_0, g_451_0, g_452_0, g_453_0, g_454_0, g_455_0, p_455_0, g_456_0, p_456_0, g_457_0, p_457_0, g_458_0, p_458_0, g_459_0, p_459_0, g_460_0, p_460_0, g_461_0, p_461_0, rc_0, g_0_5, rc_5, g_320_7, p_320_7, g_321_7, p_321_7, g_322_7, p_322_7, g_323_7, p_323_7, g_324_7, p_324_7, rc_7, g_256_8, g_257_8, g_258_8, g_259_8, g_260_8, g_261_8, g_262_8, g_263_8, p_263_8, g_264_8, p_264_8, g_265_8, p_265_8, g_266_8, g_267_8, p_267_8, g_268_8, p_268_8, g_269_8, p_269_8, g_270_8, p_270_8, rc_8, g_192_17, p_192_17, g_193_17, g_194_17, g_195_17, p_195_17, g_196_17, p_196_17, g_197_17, p_197_17, g_198_17, p_198_17, g_199_17, p_199_17, g_200_17, p_200_17, g_201_17, p_201_17, g_202_17, p_202_17, g_203_17, p_203_17, g_204_17, p_204_17, g_205_17, p_205_17, rc_17, g_192_20, p_192_20, g_193_20, g_194_20, g_195_20, p_195_20, g_196_20, p_196_20, g_197_20, p_197_20, g_198_20, p_198_20, g_199_20, p_199_20, g_200_20, p_200_20, g_201_20, p_201_20, g_202_20, p_202_20, g_203_20, p_203_20, g_204_20, p_204_20, g_205_20, p_205_20, rc_20, g_192_23, p_192_23, g_193_23, g_194_23, g_195_23, p_195_23, g_196_23, p_196_23, g_197_23, p_197_23, g_198_23, p_198_23, g_199_23, p_199_23, g_200_23, p_200_23, g_201_23, p_201_23, g_202_23, p_202_23, g_203_23, p_203_23, g_204_23, p_204_23, g_205_23, p_205_23, rc_23, g_512_26, p_512_26, g_513_26, p_513_26, g_514_26, p_514_26, g_515_26, p_515_26, g_516_26, p_516_26, g_517_26, g_518_26, g_519_26, p_519_26, g_520_26, g_521_26, g_522_26, g_523_26, g_524_26, g_525_26, g_526_26, g_527_26, g_528_26, g_529_26, g_530_26, g_531_26, g_532_26, g_533_26, g_534_26, g_535_26, g_536_26, g_537_26, g_538_26, g_539_26, g_540_26, g_541_26, p_541_26, g_542_26, g_543_26, g_544_26, g_545_26, g_546_26, g_547_26, g_548_26, g_549_26, g_550_26, g_551_26, p_551_26, g_552_26, p_552_26, g_553_26, p_553_26, g_554_26, p_554_26, g_555_26, p_555_26, g_556_26, p_556_26, g_557_26, p_557_26, g_558_26, p_558_26, g_559_26, p_559_26, g_560_26, g_561_26, p_561_26, g_562_26, g_563_26, g_564_26, p_564_26, g_565_26, p_565_26, rc_26, ai_1, ai_2, ai_3, ai_4, ai_6, ti_6, ai_9, ti_9, ai_10, ti_10, ai_11, ti_11, ai_12, ti_12, ai_13, ti_13, ai_14, ti_14, ai_15, ti_15, ai_16, ti_16, ai_18, ai_19, ti_19, ai_21, ai_22, ti_22, ai_24, ai_25, ti_25, ai_27, ti_27, ai_28, ti_28, ai_29, ti_29, ai_30, ti_30, ai_31, ti_31, ai_32, ti_32, ai_33, ti_33, ai_34, ti_34, ai_35, ti_35, ai_36, ti_36, ai_37, ti_37, ai_38, ti_38, ai_39, ti_39, ai_40, ti_40, ai_41, ti_41, ai_42, ti_42, ai_43, ti_43, ai_44, ti_44, ai_45, ti_45, ai_46, ti_46, ai_47, ti_47, ai_48, ti_48, ai_49, ti_49, ai_50, ti_50, ai_51, ti_51, ai_52, ti_52, ai_53, ti_53, ai_54, ti_54, ai_55, ti_55, ai_56, ti_56, ai_57, ti_57, ai_58, ti_58, ai_59, ti_59, ai_60, ti_60, ai_61, ti_61, Option.bind_some, oh_lt, e_bz0, e_bz1, e_in, e_isWithin, e_isFarmer, e_isSort, ite01, i10, PS_wI, PS_wL, PS_sI, PS_sL, pw_wI, pw_wL, pw_wR, pw_sI, pw_sL, pw_sR, oh_u2, Nat.add_left_cancel_iff, Nat.reduceEqDiff, Nat.add_eq_left, Nat.left_eq_add, reduceCtorEq, false_and, true_and, and_true, and_false, if_false, if_true, P', pw_mF, pw_mR, mlt', hj2, q0, em, hm, q1, mt']
        · show W c = _
          rw [eW]
          exact row2_n q
        · show W (ml a m + 1) k = _
          rw [eW]
          exact row2_b _ _ _ _
        · show A (a + c) b = _
          rw [eA, oh_u2_ne1 (by omega), oh_u2_ne1 (by omega), oh_u2_ne1 (by omega), row2_n (by omega)]
        · show A (a + 32) i = _
          rw [eA, oh_u2_ne1 (by omega)]
          by_cases z : i = j
          · simp only [oh_u2, z, and_self, if_true]
          · rw [u2_b z, oh_u2_ne1 (by omega), row2_n (by omega), if_neg z]
        · show A (a + 38) i = _
          rw [eA]
          by_cases z : i = j
          · simp only [oh_u2, z, and_self, if_true]
          · rw [u2_b z, oh_u2_ne1 (by omega), oh_u2_ne1 (by omega), row2_n (by omega), if_neg z]
        · show A (a + 43) i = _
          rw [eA, oh_u2_ne1 (by omega), oh_u2_ne1 (by omega)]
          by_cases z : i = m
          · simp only [oh_u2, z, and_self, if_true]
          · rw [u2_b z, row2_n (by omega), if_neg z]
        · show A (a + 44) i = _
          rw [eA, oh_u2_ne1 (by omega), oh_u2_ne1 (by omega), oh_u2_ne1 (by omega), row2_b]
        · show F c b = _
          rw [eF, oh_u2_ne1 z2, oh_u2_ne1 z1, oh_u2_ne1 z3]
        · show F 132 b = _
          rw [eF, oh_u2_ne1 (by decide)]
          by_cases z : b = la (oh_AR h) a j
          · simp only [oh_u2, z, and_self, if_true]
          · rw [u2_b z, oh_u2_ne1 (by decide), if_neg z]
        · show F 138 b = _
          rw [eF]
          by_cases z : b = la (oh_AR h) a j
          · simp only [oh_u2, z, and_self, if_true]
          · rw [u2_b z, oh_u2_ne1 (by decide), oh_u2_ne1 (by decide), if_neg z]
        · show F 195 b = _
          rw [eF, oh_u2_ne1 (by decide), oh_u2_ne1 (by decide)]
          by_cases z : b = ml a m
          · simp only [oh_u2, z, and_self, if_true]
          · rw [u2_b z, if_neg z]
      · refine ⟨0, h, h, ng, nl, nv, ?_, ?_, R.mono⟩
        · simp only [f_X7_take, f_X7_take_40, f_X7_take_18, g_448_0, g_449_0, g_450_0, g_451_0, g_452_0, g_453_0, g_454_0, g_455_0, p_455_0, g_456_0, p_456_0, g_457_0, p_457_0, g_458_0, p_458_0, g_459_0, p_459_0, g_460_0, p_460_0, g_461_0, p_461_0, rc_0, g_0_5, rc_5, g_320_7, p_320_7, g_321_7, p_321_7, g_322_7, p_322_7, g_323_7, p_323_7, g_324_7, p_324_7, rc_7, g_256_8, g_257_8, g_258_8, g_259_8, g_260_8, g_261_8, g_262_8, g_263_8, p_263_8, g_264_8, p_264_8, g_265_8, p_265_8, g_266_8, g_267_8, p_267_8, g_268_8, p_268_8, g_269_8, p_269_8, g_270_8, p_270_8, rc_8, g_192_17, p_192_17, g_193_17, g_194_17, g_195_17, p_195_17, g_196_17, p_196_17, g_197_17, p_197_17, g_198_17, p_198_17, g_199_17, p_199_17, g_200_17, p_200_17, g_201_17, p_201_17, g_202_17, p_202_17, g_203_17, p_203_17, g_204_17, p_204_17, g_205_17, p_205_17, rc_17, g_192_20, p_192_20, g_193_20, g_194_20, g_195_20, p_195_20, g_196_20, p_196_20, g_197_20, p_197_20, g_198_20, p_198_20, g_199_20, p_199_20, g_200_20, p_200_20, g_201_20, p_201_20, g_202_20, p_202_20, g_203_20, p_203_20, g_204_20, p_204_20, g_205_20, p_205_20, rc_20, g_192_23, p_192_23, g_193_23, g_194_23, g_195_23, p_195_23, g_196_23, p_196_23, g_197_23, p_197_23, g_198_23, p_198_23, g_199_23, p_199_23, g_200_23, p_200_23, g_201_23, p_201_23, g_202_23, p_202_23, g_203_23, p_203_23, g_204_23, p_204_23, g_205_23, p_205_23, rc_23, g_512_26, p_512_26, g_513_26, p_513_26, g_514_26, p_514_26, g_515_26, p_515_26, g_516_26, p_516_26, g_517_26, g_518_26, g_519_26, p_519_26, g_520_26, g_521_26, g_522_26, g_523_26, g_524_26, g_525_26, g_526_26, g_527_26, g_528_26, g_529_26, g_530_26, g_531_26, g_532_26, g_533_26, g_534_26, g_535_26, g_536_26, g_537_26, g_538_26, g_539_26, g_540_26, g_541_26, p_541_26, g_542_26, g_543_26, g_544_26, g_545_26, g_546_26, g_547_26, g_548_26, g_549_26, g_550_26, g_551_26, p_551_26, g_552_26, p_552_26, g_553_26, p_553_26, g_554_26, p_554_26, g_555_26, p_555_26, g_556_26, p_556_26, g_557_26, p_557_26, g_558_26, p_558_26, g_559_26, p_559_26, g_560_26, g_561_26, p_561_26, g_562_26, g_563_26, g_564_26, p_564_26, g_565_26, p_565_26, rc_26, ai_1, ai_2, ai_3, ai_4, ai_6, ti_6, ai_9, ti_9, ai_10, ti_10, ai_11, ti_11, ai_12, ti_12, ai_13, ti_13, ai_14, ti_14, ai_15, ti_15, ai_16, ti_16, ai_18, ai_19, ti_19, ai_21, ai_22, ti_22, ai_24, ai_25, ti_25, ai_27, ti_27, ai_28, ti_28, ai_29, ti_29, ai_30, ti_30, ai_31, ti_31, ai_32, ti_32, ai_33, ti_33, ai_34, ti_34, ai_35, ti_35, ai_36, ti_36, ai_37, ti_37, ai_38, ti_38, ai_39, ti_39, ai_40, ti_40, ai_41, ti_41, ai_42, ti_42, ai_43, ti_43, ai_44, ti_44, ai_45, ti_45, ai_46, ti_46, ai_47, ti_47, ai_48, ti_48, ai_49, ti_49, ai_50, ti_50, ai_51, ti_51, ai_52, ti_52, ai_53, ti_53, ai_54, ti_54, ai_55, ti_55, ai_56, ti_56, ai_57, ti_57, ai_58, ti_58, ai_59, ti_59, ai_60, ti_60, ai_61, ti_61, Option.bind_some, oh_lt, e_bz0, e_bz1, e_in, e_isWithin, e_isFarmer, e_isSort, ite01, i10, PS_wI, PS_wL, PS_sI, PS_sL, pw_wI, pw_wL, pw_wR, pw_sI, pw_sL, pw_sR, oh_u2, Nat.add_left_cancel_iff, Nat.reduceEqDiff, Nat.add_eq_left, Nat.left_eq_add, reduceCtorEq, false_and, true_and, and_true, and_false, if_false, if_true, e_gI, e_gR, e_gL, e_pI, e_pL, e_rc, Nat.reduceDiv, Nat.reduceAdd, P, fl, D1, hl, Ll.2.2.2.1, Ll.2.2.2.2.2.2.2.2.2.1, q0, em, e_findMill P hm, Km.1, M, q1]
        · simp only [f_X8_take, f_X8_take_32, g_448_0, g_449_0, g_450_0, g_451_0, g_452_0, g_453_0, g_454_0, g_455_0, p_455_0, g_456_0, p_456_0, g_457_0, p_457_0, g_458_0, p_458_0, g_459_0, p_459_0, g_460_0, p_460_0, g_461_0, p_461_0, rc_0, g_0_5, rc_5, g_320_7, p_320_7, g_321_7, p_321_7, g_322_7, p_322_7, g_323_7, p_323_7, g_324_7, p_324_7, rc_7, g_256_8, g_257_8, g_258_8, g_259_8, g_260_8, g_261_8, g_262_8, g_263_8, p_263_8, g_264_8, p_264_8, g_265_8, p_265_8, g_266_8, g_267_8, p_267_8, g_268_8, p_268_8, g_269_8, p_269_8, g_270_8, p_270_8, rc_8, g_192_17, p_192_17, g_193_17, g_194_17, g_195_17, p_195_17, g_196_17, p_196_17, g_197_17, p_197_17, g_198_17, p_198_17, g_199_17, p_199_17, g_200_17, p_200_17, g_201_17, p_201_17, g_202_17, p_202_17, g_203_17, p_203_17, g_204_17, p_204_17, g_205_17, p_205_17, rc_17, g_192_20, p_192_20, g_193_20, g_194_20, g_195_20, p_195_20, g_196_20, p_196_20, g_197_20, p_197_20, g_198_20, p_198_20, g_199_20, p_199_20, g_200_20, p_200_20, g_201_20, p_201_20, g_202_20, p_202_20, g_203_20, p_203_20, g_204_20, p_204_20, g_205_20, p_205_20, rc_20, g_192_23, p_192_23, g_193_23, g_194_23, g_195_23, p_195_23, g_196_23, p_196_23, g_197_23, p_197_23, g_198_23, p_198_23, g_199_23, p_199_23, g_200_23, p_200_23, g_201_23, p_201_23, g_202_23, p_202_23, g_203_23, p_203_23, g_204_23, p_204_23, g_205_23, p_205_23, rc_23, g_512_26, p_512_26, g_513_26, p_513_26, g_514_26, p_514_26, g_515_26, p_515_26, g_516_26, p_516_26, g_517_26, g_518_26, g_519_26, p_519_26, g_520_26, g_521_26, g_522_26, g_523_26, g_524_26, g_525_26, g_526_26, g_527_26, g_528_26, g_529_26, g_530_26, g_531_26, g_532_26, g_533_26, g_534_26, g_535_26, g_536_26, g_537_26, g_538_26, g_539_26, g_540_26, g_541_26, p_541_26, g_542_26, g_543_26, g_544_26, g_545_26, g_546_26, g_547_26, g_548_26, g_549_26, g_550_26, g_551_26, p_551_26, g_552_26, p_552_26, g_553_26, p_553_26, g_554_26, p_554_26, g_555_26, p_555_26, g_556_26, p_556_26, g_557_26, p_557_26, g_558_26, p_558_26, g_559_26, p_559_26, g_560_26, g_561_26, p_561_26, g_562_26, g_563_26, g_564_26, p_564_26, g_565_26, p_565_26, rc_26, ai_1, ai_2, ai_3, ai_4, ai_6, ti_6, ai_9, ti_9, ai_10, ti_10, ai_11, ti_11, ai_12, ti_12, ai_13, ti_13, ai_14, ti_14, ai_15, ti_15, ai_16, ti_16, ai_18, ai_19, ti_19, ai_21, ai_22, ti_22, ai_24, ai_25, ti_25, ai_27, ti_27, ai_28, ti_28, ai_29, ti_29, ai_30, ti_30, ai_31, ti_31, ai_32, ti_32, ai_33, ti_33, ai_34, ti_34, ai_35, ti_35, ai_36, ti_36, ai_37, ti_37, ai_38, ti_38, ai_39, ti_39, ai_40, ti_40, ai_41, ti_41, ai_42, ti_42, ai_43, ti_43, ai_44, ti_44, ai_45, ti_45, ai_46, ti_46, ai_47, ti_47, ai_48, ti_48, ai_49, ti_49, ai_50, ti_50, ai_51, ti_51, ai_52, ti_52, ai_53, ti_53, ai_54, ti_54, ai_55, ti_55, ai_56, ti_56, ai_57, ti_57, ai_58, ti_58, ai_59, ti_59, ai_60, ti_60, ai_61, ti_61, Option.bind_some, oh_lt, e_bz0, e_bz1, e_in, e_isWithin, e_isFarmer, e_isSort, ite01, i10, PS_wI, PS_wL, PS_sI, PS_sL, pw_wI, pw_wL, pw_wR, pw_sI, pw_sL, pw_sR, oh_u2, Nat.add_left_cancel_iff, Nat.reduceEqDiff, Nat.add_eq_left, Nat.left_eq_add, reduceCtorEq, false_and, true_and, and_true, and_false, if_false, if_true, P, mlt, hj2, q0, em, hm, q1]
    · refine ⟨0, h, h, ng, nl, nv, ?_, ?_, R.mono⟩
      · simp only [f_X7_take, f_X7_take_40, f_X7_take_18, g_448_0, g_449_0, g_450_0, g_451_0, g_452_0, g_453_0, g_454_0, g_455_0, p_455_0, g_456_0, p_456_0, g_457_0, p_457_0, g_458_0, p_458_0, g_459_0, p_459_0, g_460_0, p_460_0, g_461_0, p_461_0, rc_0, g_0_5, rc_5, g_320_7, p_320_7, g_321_7, p_321_7, g_322_7, p_322_7, g_323_7, p_323_7, g_324_7, p_324_7, rc_7, g_256_8, g_257_8, g_258_8, g_259_8, g_260_8, g_261_8, g_262_8, g_263_8, p_263_8, g_264_8, p_264_8, g_265_8, p_265_8, g_266_8, g_267_8, p_267_8, g_268_8, p_268_8, g_269_8, p_269_8, g_270_8, p_270_8, rc_8, g_192_17, p_192_17, g_193_17, g_194_17, g_195_17, p_195_17, g_196_17, p_196_17, g_197_17, p_197_17, g_198_17, p_198_17, g_199_17, p_199_17, g_200_17, p_200_17, g_201_17, p_201_17, g_202_17, p_202_17, g_203_17, p_203_17, g_204_17, p_204_17, g_205_17, p_205_17, rc_17, g_192_20, p_192_20, g_193_20, g_194_20, g_195_20, p_195_20, g_196_20, p_196_20, g_197_20, p_197_20, g_198_20, p_198_20, g_199_20, p_199_20, g_200_20, p_200_20, g_201_20, p_201_20, g_202_20, p_202_20, g_203_20, p_203_20, g_204_20, p_204_20, g_205_20, p_205_20, rc_20, g_192_23, p_192_23, g_193_23, g_194_23, g_195_23, p_195_23, g_196_23, p_196_23, g_197_23, p_197_23, g_198_23, p_198_23, g_199_23, p_199_23, g_200_23, p_200_23, g_201_23, p_201_23, g_202_23, p_202_23, g_203_23, p_203_23, g_204_23, p_204_23, g_205_23, p_205_23, rc_23, g_512_26, p_512_26, g_513_26, p_513_26, g_514_26, p_514_26, g_515_26, p_515_26, g_516_26, p_516_26, g_517_26, g_518_26, g_519_26, p_519_26, g_520_26, g_521_26, g_522_26, g_523_26, g_524_26, g_525_26, g_526_26, g_527_26, g_528_26, g_529_26, g_530_26, g_531_26, g_532_26, g_533_26, g_534_26, g_535_26, g_536_26, g_537_26, g_538_26, g_539_26, g_540_26, g_541_26, p_541_26, g_542_26, g_543_26, g_544_26, g_545_26, g_546_26, g_547_26, g_548_26, g_549_26, g_550_26, g_551_26, p_551_26, g_552_26, p_552_26, g_553_26, p_553_26, g_554_26, p_554_26, g_555_26, p_555_26, g_556_26, p_556_26, g_557_26, p_557_26, g_558_26, p_558_26, g_559_26, p_559_26, g_560_26, g_561_26, p_561_26, g_562_26, g_563_26, g_564_26, p_564_26, g_565_26, p_565_26, rc_26, ai_1, ai_2, ai_3, ai_4, ai_6, ti_6, ai_9, ti_9, ai_10, ti_10, ai_11, ti_11, ai_12, ti_12, ai_13, ti_13, ai_14, ti_14, ai_15, ti_15, ai_16, ti_16, ai_18, ai_19, ti_19, ai_21, ai_22, ti_22, ai_24, ai_25, ti_25, ai_27, ti_27, ai_28, ti_28, ai_29, ti_29, ai_30, ti_30, ai_31, ti_31, ai_32, ti_32, ai_33, ti_33, ai_34, ti_34, ai_35, ti_35, ai_36, ti_36, ai_37, ti_37, ai_38, ti_38, ai_39, ti_39, ai_40, ti_40, ai_41, ti_41, ai_42, ti_42, ai_43, ti_43, ai_44, ti_44, ai_45, ti_45, ai_46, ti_46, ai_47, ti_47, ai_48, ti_48, ai_49, ti_49, ai_50, ti_50, ai_51, ti_51, ai_52, ti_52, ai_53, ti_53, ai_54, ti_54, ai_55, ti_55, ai_56, ti_56, ai_57, ti_57, ai_58, ti_58, ai_59, ti_59, ai_60, ti_60, ai_61, ti_61, Option.bind_some, oh_lt, e_bz0, e_bz1, e_in, e_isWithin, e_isFarmer, e_isSort, ite01, i10, PS_wI, PS_wL, PS_sI, PS_sL, pw_wI, pw_wL, pw_wR, pw_sI, pw_sL, pw_sR, oh_u2, Nat.add_left_cancel_iff, Nat.reduceEqDiff, Nat.add_eq_left, Nat.left_eq_add, reduceCtorEq, false_and, true_and, and_true, and_false, if_false, if_true, e_gI, e_gR, e_gL, e_pI, e_pL, e_rc, Nat.reduceDiv, Nat.reduceAdd, P, fl, D1, hl, Ll.2.2.2.1, q0]
      · simp only [f_X8_take, f_X8_take_32, g_448_0, g_449_0, g_450_0, g_451_0, g_452_0, g_453_0, g_454_0, g_455_0, p_455_0, g_456_0, p_456_0, g_457_0, p_457_0, g_458_0, p_458_0, g_459_0, p_459_0, g_460_0, p_460_0, g_461_0, p_461_0, rc_0, g_0_5, rc_5, g_320_7, p_320_7, g_321_7, p_321_7, g_322_7, p_322_7, g_323_7, p_323_7, g_324_7, p_324_7, rc_7, g_256_8, g_257_8, g_258_8, g_259_8, g_260_8, g_261_8, g_262_8, g_263_8, p_263_8, g_264_8, p_264_8, g_265_8, p_265_8, g_266_8, g_267_8, p_267_8, g_268_8, p_268_8, g_269_8, p_269_8, g_270_8, p_270_8, rc_8, g_192_17, p_192_17, g_193_17, g_194_17, g_195_17, p_195_17, g_196_17, p_196_17, g_197_17, p_197_17, g_198_17, p_198_17, g_199_17, p_199_17, g_200_17, p_200_17, g_201_17, p_201_17, g_202_17, p_202_17, g_203_17, p_203_17, g_204_17, p_204_17, g_205_17, p_205_17, rc_17, g_192_20, p_192_20, g_193_20, g_194_20, g_195_20, p_195_20, g_196_20, p_196_20, g_197_20, p_197_20, g_198_20, p_198_20, g_199_20, p_199_20, g_200_20, p_200_20, g_201_20, p_201_20, g_202_20, p_202_20, g_203_20, p_203_20, g_204_20, p_204_20, g_205_20, p_205_20, rc_20, g_192_23, p_192_23, g_193_23, g_194_23, g_195_23, p_195_23, g_196_23, p_196_23, g_197_23, p_197_23, g_198_23, p_198_23, g_199_23, p_199_23, g_200_23, p_200_23, g_201_23, p_201_23, g_202_23, p_202_23, g_203_23, p_203_23, g_204_23, p_204_23, g_205_23, p_205_23, rc_23, g_512_26, p_512_26, g_513_26, p_513_26, g_514_26, p_514_26, g_515_26, p_515_26, g_516_26, p_516_26, g_517_26, g_518_26, g_519_26, p_519_26, g_520_26, g_521_26, g_522_26, g_523_26, g_524_26, g_525_26, g_526_26, g_527_26, g_528_26, g_529_26, g_530_26, g_531_26, g_532_26, g_533_26, g_534_26, g_535_26, g_536_26, g_537_26, g_538_26, g_539_26, g_540_26, g_541_26, p_541_26, g_542_26, g_543_26, g_544_26, g_545_26, g_546_26, g_547_26, g_548_26, g_549_26, g_550_26, g_551_26, p_551_26, g_552_26, p_552_26, g_553_26, p_553_26, g_554_26, p_554_26, g_555_26, p_555_26, g_556_26, p_556_26, g_557_26, p_557_26, g_558_26, p_558_26, g_559_26, p_559_26, g_560_26, g_561_26, p_561_26, g_562_26, g_563_26, g_564_26, p_564_26, g_565_26, p_565_26, rc_26, ai_1, ai_2, ai_3, ai_4, ai_6, ti_6, ai_9, ti_9, ai_10, ti_10, ai_11, ti_11, ai_12, ti_12, ai_13, ti_13, ai_14, ti_14, ai_15, ti_15, ai_16, ti_16, ai_18, ai_19, ti_19, ai_21, ai_22, ti_22, ai_24, ai_25, ti_25, ai_27, ti_27, ai_28, ti_28, ai_29, ti_29, ai_30, ti_30, ai_31, ti_31, ai_32, ti_32, ai_33, ti_33, ai_34, ti_34, ai_35, ti_35, ai_36, ti_36, ai_37, ti_37, ai_38, ti_38, ai_39, ti_39, ai_40, ti_40, ai_41, ti_41, ai_42, ti_42, ai_43, ti_43, ai_44, ti_44, ai_45, ti_45, ai_46, ti_46, ai_47, ti_47, ai_48, ti_48, ai_49, ti_49, ai_50, ti_50, ai_51, ti_51, ai_52, ti_52, ai_53, ti_53, ai_54, ti_54, ai_55, ti_55, ai_56, ti_56, ai_57, ti_57, ai_58, ti_58, ai_59, ti_59, ai_60, ti_60, ai_61, ti_61, Option.bind_some, oh_lt, e_bz0, e_bz1, e_in, e_isWithin, e_isFarmer, e_isSort, ite01, i10, PS_wI, PS_wL, PS_sI, PS_sL, pw_wI, pw_wL, pw_wR, pw_sI, pw_sL, pw_sR, oh_u2, Nat.add_left_cancel_iff, Nat.reduceEqDiff, Nat.add_eq_left, Nat.left_eq_add, reduceCtorEq, false_and, true_and, and_true, and_false, if_false, if_true, P, mlt, hj2, q0]
  · refine ⟨0, h, h, ng, nl, nv, ?_, ?_, R.mono⟩
    · simp only [f_X7_take, f_X7_take_40, f_X7_take_18, g_448_0, g_449_0, g_450_0, g_451_0, g_452_0, g_453_0, g_454_0, g_455_0, p_455_0, g_456_0, p_456_0, g_457_0, p_457_0, g_458_0, p_458_0, g_459_0, p_459_0, g_460_0, p_460_0, g_461_0, p_461_0, rc_0, g_0_5, rc_5, g_320_7, p_320_7, g_321_7, p_321_7, g_322_7, p_322_7, g_323_7, p_323_7, g_324_7, p_324_7, rc_7, g_256_8, g_257_8, g_258_8, g_259_8, g_260_8, g_261_8, g_262_8, g_263_8, p_263_8, g_264_8, p_264_8, g_265_8, p_265_8, g_266_8, g_267_8, p_267_8, g_268_8, p_268_8, g_269_8, p_269_8, g_270_8, p_270_8, rc_8, g_192_17, p_192_17, g_193_17, g_194_17, g_195_17, p_195_17, g_196_17, p_196_17, g_197_17, p_197_17, g_198_17, p_198_17, g_199_17, p_199_17, g_200_17, p_200_17, g_201_17, p_201_17, g_202_17, p_202_17, g_203_17, p_203_17, g_204_17, p_204_17, g_205_17, p_205_17, rc_17, g_192_20, p_192_20, g_193_20, g_194_20, g_195_20, p_195_20, g_196_20, p_196_20, g_197_20, p_197_20, g_198_20, p_198_20, g_199_20, p_199_20, g_200_20, p_200_20, g_201_20, p_201_20, g_202_20, p_202_20, g_203_20, p_203_20, g_204_20, p_204_20, g_205_20, p_205_20, rc_20, g_192_23, p_192_23, g_193_23, g_194_23, g_195_23, p_195_23, g_196_23, p_196_23, g_197_23, p_197_23, g_198_23, p_198_23, g_199_23, p_199_23, g_200_23, p_200_23, g_201_23, p_201_23, g_202_23, p_202_23, g_203_23, p_203_23, g_204_23, p_204_23, g_205_23, p_205_23, rc_23, g_512_26, p_512_26, g_513_26, p_513_26, g_514_26, p_514_26, g_515_26, p_515_26, g_516_26, p_516_26, g_517_26, g_518_26, g_519_26, p_519_26, g_520_26, g_521_26, g_522_26, g_523_26, g_524_26, g_525_26, g_526_26, g_527_26, g_528_26, g_529_26, g_530_26, g_531_26, g_532_26, g_533_26, g_534_26, g_535_26, g_536_26, g_537_26, g_538_26, g_539_26, g_540_26, g_541_26, p_541_26, g_542_26, g_543_26, g_544_26, g_545_26, g_546_26, g_547_26, g_548_26, g_549_26, g_550_26, g_551_26, p_551_26, g_552_26, p_552_26, g_553_26, p_553_26, g_554_26, p_554_26, g_555_26, p_555_26, g_556_26, p_556_26, g_557_26, p_557_26, g_558_26, p_558_26, g_559_26, p_559_26, g_560_26, g_561_26, p_561_26, g_562_26, g_563_26, g_564_26, p_564_26, g_565_26, p_565_26, rc_26, ai_1, ai_2, ai_3, ai_4, ai_6, ti_6, ai_9, ti_9, ai_10, ti_10, ai_11, ti_11, ai_12, ti_12, ai_13, ti_13, ai_14, ti_14, ai_15, ti_15, ai_16, ti_16, ai_18, ai_19, ti_19, ai_21, ai_22, ti_22, ai_24, ai_25, ti_25, ai_27, ti_27, ai_28, ti_28, ai_29, ti_29, ai_30, ti_30, ai_31, ti_31, ai_32, ti_32, ai_33, ti_33, ai_34, ti_34, ai_35, ti_35, ai_36, ti_36, ai_37, ti_37, ai_38, ti_38, ai_39, ti_39, ai_40, ti_40, ai_41, ti_41, ai_42, ti_42, ai_43, ti_43, ai_44, ti_44, ai_45, ti_45, ai_46, ti_46, ai_47, ti_47, ai_48, ti_48, ai_49, ti_49, ai_50, ti_50, ai_51, ti_51, ai_52, ti_52, ai_53, ti_53, ai_54, ti_54, ai_55, ti_55, ai_56, ti_56, ai_57, ti_57, ai_58, ti_58, ai_59, ti_59, ai_60, ti_60, ai_61, ti_61, Option.bind_some, oh_lt, e_bz0, e_bz1, e_in, e_isWithin, e_isFarmer, e_isSort, ite01, i10, PS_wI, PS_wL, PS_sI, PS_sL, pw_wI, pw_wL, pw_wR, pw_sI, pw_sL, pw_sR, oh_u2, Nat.add_left_cancel_iff, Nat.reduceEqDiff, Nat.add_eq_left, Nat.left_eq_add, reduceCtorEq, false_and, true_and, and_true, and_false, if_false, if_true, P, e_findLot_no (sK_0 P) hT.2.2.1 hx]
    · simp only [f_X8_take, f_X8_take_32, g_448_0, g_449_0, g_450_0, g_451_0, g_452_0, g_453_0, g_454_0, g_455_0, p_455_0, g_456_0, p_456_0, g_457_0, p_457_0, g_458_0, p_458_0, g_459_0, p_459_0, g_460_0, p_460_0, g_461_0, p_461_0, rc_0, g_0_5, rc_5, g_320_7, p_320_7, g_321_7, p_321_7, g_322_7, p_322_7, g_323_7, p_323_7, g_324_7, p_324_7, rc_7, g_256_8, g_257_8, g_258_8, g_259_8, g_260_8, g_261_8, g_262_8, g_263_8, p_263_8, g_264_8, p_264_8, g_265_8, p_265_8, g_266_8, g_267_8, p_267_8, g_268_8, p_268_8, g_269_8, p_269_8, g_270_8, p_270_8, rc_8, g_192_17, p_192_17, g_193_17, g_194_17, g_195_17, p_195_17, g_196_17, p_196_17, g_197_17, p_197_17, g_198_17, p_198_17, g_199_17, p_199_17, g_200_17, p_200_17, g_201_17, p_201_17, g_202_17, p_202_17, g_203_17, p_203_17, g_204_17, p_204_17, g_205_17, p_205_17, rc_17, g_192_20, p_192_20, g_193_20, g_194_20, g_195_20, p_195_20, g_196_20, p_196_20, g_197_20, p_197_20, g_198_20, p_198_20, g_199_20, p_199_20, g_200_20, p_200_20, g_201_20, p_201_20, g_202_20, p_202_20, g_203_20, p_203_20, g_204_20, p_204_20, g_205_20, p_205_20, rc_20, g_192_23, p_192_23, g_193_23, g_194_23, g_195_23, p_195_23, g_196_23, p_196_23, g_197_23, p_197_23, g_198_23, p_198_23, g_199_23, p_199_23, g_200_23, p_200_23, g_201_23, p_201_23, g_202_23, p_202_23, g_203_23, p_203_23, g_204_23, p_204_23, g_205_23, p_205_23, rc_23, g_512_26, p_512_26, g_513_26, p_513_26, g_514_26, p_514_26, g_515_26, p_515_26, g_516_26, p_516_26, g_517_26, g_518_26, g_519_26, p_519_26, g_520_26, g_521_26, g_522_26, g_523_26, g_524_26, g_525_26, g_526_26, g_527_26, g_528_26, g_529_26, g_530_26, g_531_26, g_532_26, g_533_26, g_534_26, g_535_26, g_536_26, g_537_26, g_538_26, g_539_26, g_540_26, g_541_26, p_541_26, g_542_26, g_543_26, g_544_26, g_545_26, g_546_26, g_547_26, g_548_26, g_549_26, g_550_26, g_551_26, p_551_26, g_552_26, p_552_26, g_553_26, p_553_26, g_554_26, p_554_26, g_555_26, p_555_26, g_556_26, p_556_26, g_557_26, p_557_26, g_558_26, p_558_26, g_559_26, p_559_26, g_560_26, g_561_26, p_561_26, g_562_26, g_563_26, g_564_26, p_564_26, g_565_26, p_565_26, rc_26, ai_1, ai_2, ai_3, ai_4, ai_6, ti_6, ai_9, ti_9, ai_10, ti_10, ai_11, ti_11, ai_12, ti_12, ai_13, ti_13, ai_14, ti_14, ai_15, ti_15, ai_16, ti_16, ai_18, ai_19, ti_19, ai_21, ai_22, ti_22, ai_24, ai_25, ti_25, ai_27, ti_27, ai_28, ti_28, ai_29, ti_29, ai_30, ti_30, ai_31, ti_31, ai_32, ti_32, ai_33, ti_33, ai_34, ti_34, ai_35, ti_35, ai_36, ti_36, ai_37, ti_37, ai_38, ti_38, ai_39, ti_39, ai_40, ti_40, ai_41, ti_41, ai_42, ti_42, ai_43, ti_43, ai_44, ti_44, ai_45, ti_45, ai_46, ti_46, ai_47, ti_47, ai_48, ti_48, ai_49, ti_49, ai_50, ti_50, ai_51, ti_51, ai_52, ti_52, ai_53, ti_53, ai_54, ti_54, ai_55, ti_55, ai_56, ti_56, ai_57, ti_57, ai_58, ti_58, ai_59, ti_59, ai_60, ti_60, ai_61, ti_61, Option.bind_some, oh_lt, e_bz0, e_bz1, e_in, e_isWithin, e_isFarmer, e_isSort, ite01, i10, PS_wI, PS_wL, PS_sI, PS_sL, pw_wI, pw_wL, pw_wR, pw_sI, pw_sL, pw_sR, oh_u2, Nat.add_left_cancel_iff, Nat.reduceEqDiff, Nat.add_eq_left, Nat.left_eq_add, reduceCtorEq, false_and, true_and, and_true, and_false, if_false, if_true, P, e_isLot_no (sK_26 P) hT.2.2.2.1 hx]
