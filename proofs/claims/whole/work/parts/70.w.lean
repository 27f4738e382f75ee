/-! bulk changes -/
def oh_mF (h : oh_H) (F : Nat → Nat → Int32) : oh_H := (oh_sz h, oh_K h, F, oh_FL h, oh_FR h, oh_N h, oh_AI h, oh_AL h, oh_AR h)
theorem pw_mF (h : oh_H) (F : Nat → Nat → Int32) : oh_sz (oh_mF h F) = oh_sz h ∧ oh_K (oh_mF h F) = oh_K h ∧ oh_FI (oh_mF h F) = F ∧ oh_FL (oh_mF h F) = oh_FL h ∧ oh_FR (oh_mF h F) = oh_FR h ∧ oh_N (oh_mF h F) = oh_N h ∧ oh_AI (oh_mF h F) = oh_AI h ∧ oh_AL (oh_mF h F) = oh_AL h ∧ oh_AR (oh_mF h F) = oh_AR h := ⟨rfl, rfl, rfl, rfl, rfl, rfl, rfl, rfl, rfl⟩
theorem PS_mF {h : oh_H} {a : Nat} {F : Nat → Nat → Int32} : PS (oh_mF h F) a ↔ PS h a := Iff.rfl
theorem mF_w {h : oh_H} {F : Nat → Nat → Int32} {c b : Nat} {x : Int32} : oh_wI (oh_mF h F) c b x = oh_mF h (oh_u2 F c b x) := rfl
theorem mA_w {h : oh_H} {F : Nat → Nat → Int32} {c b : Nat} {x : Int32} : oh_sI (oh_mA h F) c b x = oh_mA h (oh_u2 F c b x) := rfl
def oh_mB (h : oh_H) (F : Nat → Nat → Int64) : oh_H := (oh_sz h, oh_K h, oh_FI h, oh_FL h, oh_FR h, oh_N h, oh_AI h, F, oh_AR h)
theorem pw_mB (h : oh_H) (F : Nat → Nat → Int64) : oh_sz (oh_mB h F) = oh_sz h ∧ oh_K (oh_mB h F) = oh_K h ∧ oh_FI (oh_mB h F) = oh_FI h ∧ oh_FL (oh_mB h F) = oh_FL h ∧ oh_FR (oh_mB h F) = oh_FR h ∧ oh_N (oh_mB h F) = oh_N h ∧ oh_AI (oh_mB h F) = oh_AI h ∧ oh_AL (oh_mB h F) = F ∧ oh_AR (oh_mB h F) = oh_AR h := ⟨rfl, rfl, rfl, rfl, rfl, rfl, rfl, rfl, rfl⟩
theorem PS_mB {h : oh_H} {a : Nat} {F : Nat → Nat → Int64} : PS (oh_mB h F) a ↔ PS h a := Iff.rfl
/-- a loop by what holds at its k-th turn -/
theorem loop_inv {S X : Type} (body : S → Option (S ⊕ X)) (I : Nat → S → Prop) (Q : X → Prop) (s : Nat) (hs : ∀ k σ, k < s → I k σ → ∃ σ', body σ = some (.inl σ') ∧ I (k + 1) σ') (he : ∀ σ, I s σ → ∃ x, body σ = some (.inr x) ∧ Q x) {n : Nat} {σ : S} (hn : s < n) (h0 : I 0 σ) : ∃ x, oh_loop body n σ = some x ∧ Q x := by
  have key : ∀ d k n σ, k + d = s → d < n → I k σ → ∃ x, oh_loop body n σ = some x ∧ Q x := by
    intro d
    induction d with
    | zero =>
      intro k n σ hk hn hI
      have : k = s := by omega
      subst this
      cases n with
      | zero => omega
      | succ n =>
        obtain ⟨x, h1, h2⟩ := he σ hI
        exact ⟨x, by simp only [oh_loop, h1], h2⟩
    | succ d ih =>
      intro k n σ hk hn hI
      cases n with
      | zero => omega
      | succ n =>
        obtain ⟨σ', h1, h2⟩ := hs k σ (by omega) hI
        obtain ⟨x, h3, h4⟩ := ih (k + 1) n σ' (by omega) (by omega) h2
        exact ⟨x, by simp only [oh_loop, h1, h3], h4⟩
  exact key s 0 n σ (by omega) hn h0
/-- of a row the places p k, k < s, have become x k -/
def stp (F0 F : Nat → Nat → Int32) (c : Nat) (p : Nat → Nat) (x : Nat → Int32) (s : Nat) : Prop := (∀ c' b, c' ≠ c → F c' b = F0 c' b) ∧ (∀ k, k < s → F c (p k) = x k) ∧ ∀ b, (∀ k, k < s → p k ≠ b) → F c b = F0 c b
theorem stp_0 {F0 : Nat → Nat → Int32} {c : Nat} {p : Nat → Nat} {x : Nat → Int32} : stp F0 F0 c p x 0 := ⟨fun _ _ _ => rfl, fun k hk => absurd hk (Nat.not_lt_zero _), fun _ _ => rfl⟩
theorem stp_succ {F0 F : Nat → Nat → Int32} {c : Nat} {p : Nat → Nat} {x : Nat → Int32} {s : Nat} {b : Nat} {y : Int32} (hb : b = p s) (hy : y = x s) (inj : ∀ k, k < s → p k ≠ p s) (H : stp F0 F c p x s) : stp F0 (oh_u2 F c b y) c p x (s + 1) := by
  subst hb
  subst hy
  refine ⟨fun c' b q => ?_, fun k hk => ?_, fun b q => ?_⟩
  · rw [oh_u2_ne1 q]
    exact H.1 c' b q
  · by_cases z : k = s
    · subst z
      simp only [oh_u2, and_self, if_true]
    · simp only [oh_u2, inj k (by omega), and_false, if_false]
      exact H.2.1 k (by omega)
  · have z : ¬ b = p s := fun z => q s (by omega) z.symm
    simp only [oh_u2, z, and_false, if_false]
    exact H.2.2 b (fun k hk => q k (by omega))
theorem RR_mill {h h' : oh_H} {a ng nl nv n : Nat} (R : RR h a ng nl nv n) (eK : oh_K h' = oh_K h) (eS : oh_sz h' = oh_sz h) (eN : oh_N h' = oh_N h) (eFR : oh_FR h' = oh_FR h) (eFL : oh_FL h' = oh_FL h) (eAL : ∀ k b, 50 ≤ k → oh_AL h' (a + k) b = oh_AL h (a + k) b) (eAR : ∀ k, k = 1 ∨ k = 2 ∨ k = 3 ∨ k = 4 → oh_AR h' (a + k) = oh_AR h (a + k)) (eFI : ∀ c b, c < 128 ∨ 256 ≤ c → oh_FI h' c b = oh_FI h c b) (eAI : ∀ k b, k < 29 ∨ 50 ≤ k → oh_AI h' (a + k) b = oh_AI h (a + k) b)
    (hL' : qL (oh_FI h') (oh_FR h) (oh_AI h') (oh_AR h) a nl ng) (hM' : qM (oh_FI h') (oh_AI h') a) (hB' : qB (oh_AI h') (oh_AR h') a nl) (hW' : qW (oh_FI h') (oh_AI h') a) (vl' : vL (oh_FI h) (oh_AI h') a nl nv) (vf' : ∀ i, nl ≤ i → i < 200 → ∀ k, k < 40 → 29 ≤ k → oh_AI h' (a + k) i = oh_AI h (a + k) i) (vb' : vB (oh_AI h') a) (vm' : vM (oh_AI h') a) : RR h' a ng nl nv n := by
  obtain ⟨P, hD, hZ, hG, hL, hM, hB, hV, hDe, hT, hP, hW, vn, vt, vg, vl, vf, vb, vm, vv, vd, vx⟩ := id R
  have e1 := eAR 1 (by omega)
  have e2 := eAR 2 (by omega)
  have e3 := eAR 3 (by omega)
  have e4 := eAR 4 (by omega)
  have lae : la (oh_AR h') a = la (oh_AR h) a := by funext i; simp only [la, e2]
  have a6 := fun b => eAI 6 b (by omega)
  have a13 := fun b => eAI 13 b (by omega)
  have a16 := fun b => eAI 16 b (by omega)
  have a27 := fun b => eAI 27 b (by omega)
  have a28 := fun b => eAI 28 b (by omega)
  have a50 := fun b => eAI 50 b (by omega)
  have a51 := fun b => eAI 51 b (by omega)
  have a52 := fun b => eAI 52 b (by omega)
  have a53 := fun b => eAI 53 b (by omega)
  have a54 := fun b => eAI 54 b (by omega)
  have a55 := fun b => eAI 55 b (by omega)
  have a58 := fun b => eAI 58 b (by omega)
  have a59 := fun b => eAI 59 b (by omega)
  have l56 := fun b => eAL 56 b (by omega)
  have l57 := fun b => eAL 57 b (by omega)
  have f64 := fun b => eFI 64 b (by omega)
  have f65 := fun b => eFI 65 b (by omega)
  have f66 := fun b => eFI 66 b (by omega)
  have f512 := fun b => eFI 512 b (by omega)
  have so : ∀ s, sumO (oh_AI h') a s = sumO (oh_AI h) a s := fun s => sumO_rows (funext a54) s
  unfold RR
  refine ⟨?_, ?_, ?_, ?_, ?_, hM', hB', ?_, ?_, ?_, ?_, hW', vn, ?_, ?_, ?_, ?_, vb', vm', ?_, ?_, ?_⟩
  · unfold PS pS_A
    rw [eK, eN, eFR, e3]
    exact P
  · unfold pD ga la ve
    rw [eK, e1, e2, e4]
    exact hD
  · rw [eS, eK]
    exact hZ
  · intro j hj
    have G := hG j hj
    unfold ga at G ⊢
    rw [e1, f64, f65, f66, a27, a28]
    exact G
  · rw [eFR]
    intro i hi
    have L := hL' i hi
    simp only [lae, show ga (oh_AR h') a = ga (oh_AR h) a from by funext i; simp only [ga, e1]]
    exact L
  · intro v hv
    have V := hV v hv
    unfold ve at V ⊢
    rw [e4, eFL, eFI 384 _ (by omega), eFI 385 _ (by omega), eFI 386 _ (by omega), eFI 387 _ (by omega), eFI 388 _ (by omega), eFI 389 _ (by omega), a50, a51, a52, a53, a54, a55, l56, l57]
    exact V
  · intro k hk
    rw [a6, a58]
    exact hDe k hk
  · unfold qT
    simp only [fun c b q => eFI c b (Or.inr q), Nat.reduceLeDiff]
    exact hT
  · unfold qP
    simp only [fun c b q => eFI c b (Or.inr q), Nat.reduceLeDiff, a13, a16, a59]
    exact hP
  · unfold vT
    simp only [fun c b q => eFI c b (Or.inr q), Nat.reduceLeDiff]
    exact vt
  · intro j hj
    rw [a27, a28]
    exact vg j hj
  · unfold vL
    simp only [f512]
    exact vl'
  · refine ⟨fun i h1 h2 => ?_, fun v h1 h2 => ?_⟩
    · have e := vf' i h1 h2
      rw [e 32 (by omega) (by omega), e 33 (by omega) (by omega), e 34 (by omega) (by omega), e 35 (by omega) (by omega), e 36 (by omega) (by omega), e 37 (by omega) (by omega), e 39 (by omega) (by omega)]
      exact vf.1 i h1 h2
    · rw [a53, a54, a55, l56, l57]
      exact vf.2 v h1 h2
  · intro v hv
    rw [a50, a51, a52, a55, l56, l57]
    exact vv v hv
  · unfold vD
    simp only [a54, a58, so]
    exact vd
  · intro v hv
    rw [a53, a54, l56, l57]
    exact vx v hv
