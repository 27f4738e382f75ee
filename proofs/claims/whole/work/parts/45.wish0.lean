theorem c_isWaiting {h : oh_H} {p : Nat} (hp : oh_K h p = 3) : f_X2_isWaiting h p = some (if oh_FI h 132 p ≤ 2 then 1 else 0) := by
  unfold f_X2_isWaiting f_X2_isWaiting_13
  rw [e_gI (by rw [hp]), Option.bind_some]
  by_cases q : oh_FI h 132 p ≤ 2
  · rw [if_pos q, if_neg (fun z => Int32.not_lt.mpr q z)]; rfl
  · rw [if_neg q, if_pos (Int32.not_le.mp q)]; rfl
theorem c_wish {h : oh_H} {a nl i p : Nat} {w : Int32} (P : PS h a) (T : oh_FI h 456 a = nI nl) (D1 : oh_AR h (a + 2) i = some p) (hp : oh_K h p = 3) (hi : i < nl) (hnl : nl ≤ 200) (hw : w = 0 ∨ w = 1) : f_X7_wish h a (nI i) w = if oh_FI h 131 p = 4 then some (0, h) else if oh_FI h 132 p ≤ 2 then some (1, oh_wI h 139 p w) else some (0, h) := by
  unfold f_X7_wish f_X7_wish_25
  simp only [rc_0 P, e_findLot (sK_0 P) T (sR_449_0 P) (sK_2 P) (sN_2 P) hi hnl, Option.bind_some, oh_lt, D1, e_gI (h := h) (a := p) (c := 131) (by rw [hp]), e_rc hp, c_isWaiting hp, e_pI (h := h) (a := p) (c := 139) (x := w) (by rw [hp]), reduceCtorEq, if_false]
  have hb : ∀ k : Option (Int32 × oh_H), oh_bz w k = k := fun k => by simp only [oh_bz, if_pos hw]
  by_cases q1 : oh_FI h 131 p = 4
  · simp only [q1, if_true]; rfl
  · by_cases q2 : oh_FI h 132 p ≤ 2
    · simp only [q1, q2, if_true, if_false, hb]; rfl
    · simp only [q1, q2, if_true, if_false]; rfl
theorem m_wish {h : oh_H} {a nl i : Nat} {w : Int32} (P : PS h a) (T : oh_FI h 519 (a + 26) = nI nl) (hi : i < nl) (hnl : nl ≤ 200) (hw : w = 0 ∨ w = 1) : f_X8_wish h (a + 26) (nI i) w = if oh_AI h (a + 29) i = 4 then some (0, h) else if oh_AI h (a + 32) i ≤ 2 then some (1, oh_sI h (a + 39) i w) else some (0, h) := by
  have hi2 : i < 200 := by omega
  unfold f_X8_wish f_X8_wish_28
  have hb : ∀ k : Option (Int32 × oh_H), oh_bz w k = k := fun k => by simp only [oh_bz, if_pos hw]
  simp only [rc_26 P, e_isLot (sK_26 P) T hi hnl, Option.bind_some, g_520_26 P, g_523_26 P, g_530_26 P, ai_29 P hi2, ai_32 P hi2, ti_39 P hi2, hb]
  by_cases q1 : oh_AI h (a + 29) i = 4
  · simp only [q1, if_true]; rfl
  · by_cases q2 : oh_AI h (a + 32) i ≤ 2
    · simp only [q1, q2, if_true, if_false]; rfl
    · simp only [q1, q2, if_true, if_false]; rfl
theorem vD.mono {AI : Nat → Nat → Int32} {a n : Nat} (h : vD AI a n) : vD AI a (n + 1) := ⟨h.1, fun k hk => ⟨(h.2 k hk).1, by have := (h.2 k hk).2; omega⟩⟩
theorem vX.mono {AI : Nat → Nat → Int32} {AL : Nat → Nat → Int64} {a n : Nat} (h : vX AI AL a n) : vX AI AL a (n + 1) := fun v hv => ⟨(h v hv).1, by have := h v hv; omega, by have := h v hv; omega, by have := h v hv; omega⟩
theorem RR.mono {h : oh_H} {a ng nl nv n : Nat} (R : RR h a ng nl nv n) : RR h a ng nl nv (n + 1) := by
  unfold RR at R ⊢
  simp only [R, true_and]
  exact ⟨vD.mono (by simp only [R]), vX.mono (by simp only [R])⟩
def PR (e1 : Option (Int32 × oh_H)) (e2 : oh_H → Option (Int32 × oh_H)) (a n : Nat) : Prop := ∃ (r : Int32) (h1 h2 : oh_H) (ng nl nv : Nat), e1 = some (r, h1) ∧ e2 h1 = some (r, h2) ∧ RR h2 a ng nl nv (n + 1)
