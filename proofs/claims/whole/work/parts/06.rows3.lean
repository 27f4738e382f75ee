/-! ROWS, third part: stores into fields, arrays, makings -/
section ROWS
variable {X : Type} {T : X → Prop} {e e1 e2 : Option X} {G : oh_G} {cc : ByteArray} {Ts : List Cond} {own : String} {R0 : Room} {nL : Nat} {cells slots : Nat} {h : oh_H} {pc : Nat} {lv lv' : oh_Ls} {st st' : List oh_X}
/-- one cell changed: the heap behind it -/
theorem oh_R.put {D : va_G} {dA : Nat → ClassId} {h1 : oh_H} {H H1 : Heap} {a : Nat} (hR : oh_R D dA h H) (hz : H1.size = H.size) (oq : ∀ q : Nat, q ≠ a → H1[q]? = H[q]?) (es : oh_sz h1 = oh_sz h) (eK : oh_K h1 = oh_K h) (eN : oh_N h1 = oh_N h) (eI : ∀ c b, b ≠ a → oh_FI h1 c b = oh_FI h c b) (eL : ∀ c b, b ≠ a → oh_FL h1 c b = oh_FL h c b) (eR : ∀ c b, b ≠ a → oh_FR h1 c b = oh_FR h c b) (eAI : ∀ b j, b ≠ a → oh_AI h1 b j = oh_AI h b j) (eAL : ∀ b j, b ≠ a → oh_AL h1 b j = oh_AL h b j) (eAR : ∀ b j, b ≠ a → oh_AR h1 b j = oh_AR h b j) (ha : oh_at D dA h1 H1 a) : oh_R D dA h1 H1 := by
  refine ⟨by rw [hz, es]; exact hR.1, fun b hb => ?_⟩
  by_cases q : b = a
  · subst q; exact ha
  · rw [eK] at hb
    exact (hR.2 b hb).kept (oq b q) (by rw [eK]) (fun c => eI c b q) (fun c => eL c b q) (fun c => eR c b q) (by rw [eN]) (fun j => eAI b j q) (fun j => eAL b j q) (fun j => eAR b j q)
theorem oh_A_same {h h1 : oh_H} (es : oh_sz h1 = oh_sz h) (eK : oh_K h1 = oh_K h) (q : Nat) (z : oh_A h1 q) : oh_A h q := by
  unfold oh_A at z ⊢
  rw [es, eK] at z
  exact z
theorem or_put0 (C : oh_C G cc Ts own R0 nL) {Cn : String} {TT : u_T} {N ci k index a : Nat} {h1 : oh_H} (hc : vwCl[ci]? = some (Cn, TT, N)) (hci : ci < 19) (hin : ∀ w ∈ u_ws Cn TT N, w ∈ Ts) (ty0 : Nat → FieldType) (hty : ∀ k, k < N → parseFieldDescriptor (TT k).2.2.1 = some (ty0 k)) (hnm : ∀ a, a < N → ∀ b, b < N → a ≠ b → (TT a).2.1 ≠ (TT b).2.1) (hk : k < N) (hlink : Cond.fieldLink own index (TT k).1 (TT k).2.1 (TT k).2.2.1 ∈ Ts) (hfin : (TT k).2.2.2 = false ∨ ((TT k).2.2.2 = true ∧ G.2.1.2.2.2.1.name = "<init>" ∧ (TT k).1 = own))
    (ha : oh_K h a = ci + 1) (d : decode cc pc = .ok (.putfield index, 3)) {x : oh_X} (hn : narrow (ty0 k) (oh_v x) = oh_v x) (hfit : fits (ty0 k) (oh_v x) = true)
    (es : oh_sz h1 = oh_sz h) (eK : oh_K h1 = oh_K h) (eN : oh_N h1 = oh_N h) (eI : ∀ c b, b ≠ a → oh_FI h1 c b = oh_FI h c b) (eL : ∀ c b, b ≠ a → oh_FL h1 c b = oh_FL h c b) (eR : ∀ c b, b ≠ a → oh_FR h1 c b = oh_FR h c b) (eAI : ∀ b j, b ≠ a → oh_AI h1 b j = oh_AI h b j) (eAL : ∀ b j, b ≠ a → oh_AL h1 b j = oh_AL h b j) (eAR : ∀ b j, b ≠ a → oh_AR h1 b j = oh_AR h b j) (hv : ∀ j, oh_val h1 ci j a = if j = k then oh_v x else oh_val h ci j a)
    (kk : oh_V G cells slots h1 (pc + 3) lv st) : oh_V G cells slots h pc lv (x :: xr (some a) :: st) := by
  intro H locs ls hR hS hl hA
  have hK := C.2.2.2.2.2.1.1
  have hts := C.2.2.2.2.1
  have hown := C.2.2.2.1
  have hap := va_apart (own := own) hts hin ty0 hty hnm hK hc
  obtain ⟨cell, q1, q2, q3, q4⟩ := oh_fld hR ha hci hc
  obtain ⟨hSl, hfc, kC, hkC, hkind⟩ := hK.1 ci _ hc
  obtain ⟨cf, kf, fi, f, hi, hsl⟩ := hSl k hk
  have hst := (u_facts hfc hkC (u_lays hts hin hk) hi).1
  have key : ∀ H' : Heap, H'[a]? = some (cell.setSlot f.slot (oh_v x)) → H'.size = H.size → (∀ q : Nat, q ≠ a → H'[q]? = H[q]?) → oh_W G H' (locs ++ [⟨a, f.slot⟩]) cells slots (F0 G.2.1.1 (pc + 3) ls (st.map oh_v)) := by
    intro H' e1 e2 e3
    rw [hsl] at e1
    refine kk H' _ ls (hR.put e2 e3 es eK eN eI eL eR eAI eAL eAR ⟨fun _ => ?_, fun z => absurd z (by rw [eK, ha]; omega)⟩) (hS.put e2 e3 (hA a (Or.inl (by omega)))) hl (fun q z => hA q (oh_A_same es eK q z))
    rw [eK, ha, Nat.add_sub_cancel]
    refine ⟨_, hc, t_OB.to (V := updV (fun k => oh_val h ci k a) k (oh_v x)) ⟨_, e1, q2, q3, t_set q4 hap hk (oh_v x)⟩ (fun j _ => ?_)⟩
    rw [hv j]
    rfl
  have hlay := hts _ (hin _ (u_in_lay hk))
  unfold u_lay at hlay
  rcases hfin with hfin | ⟨hfin, hin2, hdecl⟩
  · rw [if_neg (by rw [hfin]; decide)] at hlay
    have h6 := u_store hfc hkC hkind hlay hi (hty k hk) hn hfit
    exact W.putK C.1 C.2.1 (f := f) ⟨hown, hts _ hlink, ⟨_, _, _, hi⟩, hst⟩ (by rw [q2]; exact h6) q1 q3 (by rw [hsl]; exact k2_hasslot (q4 k hk)) rfl rfl d key
  · rw [if_pos hfin] at hlay
    have hcf : G.2.1.1.cls = cf := by
      obtain ⟨_, _, c', _, _, _, -, -, hf', -, -, -, hown2, -⟩ := Cond.laysFinal_spec hlay
      have e1 : c' = cf := by have := hi.symm.trans hf'; simp at this; exact this.1.symm
      rw [hdecl] at hown2
      rw [← e1]; exact Option.some.inj (hown.symm.trans hown2)
    have h6 := u_fits hfc hkC hkind (Or.inr hlay) hi (hty k hk) hn hfit
    exact W.putFinK C.1 C.2.1 hown (hts _ hlink) hi hst hcf hin2 (by rw [q2]; exact h6) q1 q3 (by rw [hsl]; exact k2_hasslot (q4 k hk)) rfl rfl d key
theorem oh_u2_ne {α : Type} {f : Nat → Nat → α} {c a : Nat} {v : α} {c' b : Nat} (h : b ≠ a) : oh_u2 f c a v c' b = f c' b := if_neg (fun q => h q.2)
theorem oh_u2_ne1 {α : Type} {f : Nat → Nat → α} {c a : Nat} {v : α} {c' b : Nat} (h : c' ≠ c) : oh_u2 f c a v c' b = f c' b := if_neg (fun q => h q.1)
theorem oh_u2_eq {α : Type} {f : Nat → Nat → α} {c a : Nat} {v : α} : oh_u2 f c a v c a = v := if_pos ⟨rfl, rfl⟩
theorem or_putI (C : oh_C G cc Ts own R0 nL) {Cn : String} {TT : u_T} {N : Nat} (ci k : Nat) {index cd : Nat} (hcd : cd = 64 * ci + k) (hk64 : k < 64) (hc : vwCl[ci]? = some (Cn, TT, N)) (hci : ci < 19) (hin : ∀ w ∈ u_ws Cn TT N, w ∈ Ts) (ty0 : Nat → FieldType) (hty : ∀ k, k < N → parseFieldDescriptor (TT k).2.2.1 = some (ty0 k)) (hnm : ∀ a, a < N → ∀ b, b < N → a ≠ b → (TT a).2.1 ≠ (TT b).2.1) (hk : k < N) (hlink : Cond.fieldLink own index (TT k).1 (TT k).2.1 (TT k).2.2.1 ∈ Ts) (hfin : (TT k).2.2.2 = false ∨ ((TT k).2.2.2 = true ∧ G.2.1.2.2.2.1.name = "<init>" ∧ (TT k).1 = own)) (htag : oh_tag (64 * ci + k) = 0) (hi : ty0 k = .int) (d : decode cc pc = .ok (.putfield index, 3)) {r : Option Nat} {x : Int32} {K : oh_H → Option X}
    (kk : ∀ h1, oh_J T (K h1) (oh_V G cells slots h1 (pc + 3) lv st)) : oh_J T ((oh_pI h r cd x).bind K) (oh_V G cells slots h pc lv (xi x :: xr r :: st)) := by
  subst hcd
  cases r with
  | none => exact oj_none
  | some a =>
    by_cases q : oh_K h a = (64 * ci + k) / 64 + 1
    · have q' : oh_K h a = ci + 1 := by omega
      have e0 : oh_pI h (some a) (64 * ci + k) x = some (oh_wI h (64 * ci + k) a x) := by simp only [oh_pI, Option.bind_some, if_pos q]
      rw [e0, Option.bind_some]
      refine fun X hX hT => or_put0 C hc hci hin ty0 hty hnm hk hlink hfin q' d (x := xi x) (by rw [hi]; rfl) (by rw [hi]; rfl) (h1 := oh_wI h (64 * ci + k) a x) rfl rfl rfl (fun c b z => oh_u2_ne z) (fun _ _ _ => rfl) (fun _ _ _ => rfl) (fun _ _ _ => rfl) (fun _ _ _ => rfl) (fun _ _ _ => rfl) (fun j => ?_) (kk _ X hX hT)
      by_cases z : j = k
      · subst z
        rw [if_pos rfl]
        simp only [oh_val, htag, if_true]
        show Value.int (oh_u2 _ _ _ _ _ _) = _
        rw [oh_u2_eq]; rfl
      · rw [if_neg z]
        simp only [oh_val]
        rw [show oh_FI (oh_wI h (64 * ci + k) a x) (64 * ci + j) a = oh_FI h (64 * ci + j) a from oh_u2_ne1 (by omega)]
        rfl
    · have e0 : oh_pI h (some a) (64 * ci + k) x = none := by simp only [oh_pI, Option.bind_some, if_neg q]
      rw [e0]; exact oj_none
theorem or_putZ (C : oh_C G cc Ts own R0 nL) {Cn : String} {TT : u_T} {N : Nat} (ci k : Nat) {index cd : Nat} (hcd : cd = 64 * ci + k) (hk64 : k < 64) (hc : vwCl[ci]? = some (Cn, TT, N)) (hci : ci < 19) (hin : ∀ w ∈ u_ws Cn TT N, w ∈ Ts) (ty0 : Nat → FieldType) (hty : ∀ k, k < N → parseFieldDescriptor (TT k).2.2.1 = some (ty0 k)) (hnm : ∀ a, a < N → ∀ b, b < N → a ≠ b → (TT a).2.1 ≠ (TT b).2.1) (hk : k < N) (hlink : Cond.fieldLink own index (TT k).1 (TT k).2.1 (TT k).2.2.1 ∈ Ts) (hfin : (TT k).2.2.2 = false ∨ ((TT k).2.2.2 = true ∧ G.2.1.2.2.2.1.name = "<init>" ∧ (TT k).1 = own)) (htag : oh_tag (64 * ci + k) = 0) (hi : ty0 k = .boolean) (d : decode cc pc = .ok (.putfield index, 3)) {r : Option Nat} {x : Int32} {K : oh_H → Option X}
    (kk : ∀ h1, oh_J T (K h1) (oh_V G cells slots h1 (pc + 3) lv st)) : oh_J T (oh_bz x ((oh_pI h r cd x).bind K)) (oh_V G cells slots h pc lv (xi x :: xr r :: st)) := by
  subst hcd
  unfold oh_bz
  by_cases hx : x = 0 ∨ x = 1
  · rw [if_pos hx]
    cases r with
    | none => exact oj_none
    | some a =>
      by_cases q : oh_K h a = (64 * ci + k) / 64 + 1
      · have q' : oh_K h a = ci + 1 := by omega
        have e0 : oh_pI h (some a) (64 * ci + k) x = some (oh_wI h (64 * ci + k) a x) := by simp only [oh_pI, Option.bind_some, if_pos q]
        rw [e0, Option.bind_some]
        refine fun X hX hT => or_put0 C hc hci hin ty0 hty hnm hk hlink hfin q' d (x := xi x) (by rw [hi]; rcases hx with rfl | rfl <;> rfl) (by rw [hi]; rcases hx with rfl | rfl <;> rfl) (h1 := oh_wI h (64 * ci + k) a x) rfl rfl rfl (fun c b z => oh_u2_ne z) (fun _ _ _ => rfl) (fun _ _ _ => rfl) (fun _ _ _ => rfl) (fun _ _ _ => rfl) (fun _ _ _ => rfl) (fun j => ?_) (kk _ X hX hT)
        by_cases z : j = k
        · subst z
          rw [if_pos rfl]
          simp only [oh_val, htag, if_true]
          show Value.int (oh_u2 _ _ _ _ _ _) = _
          rw [oh_u2_eq]; rfl
        · rw [if_neg z]
          simp only [oh_val]
          rw [show oh_FI (oh_wI h (64 * ci + k) a x) (64 * ci + j) a = oh_FI h (64 * ci + j) a from oh_u2_ne1 (by omega)]
          rfl
      · have e0 : oh_pI h (some a) (64 * ci + k) x = none := by simp only [oh_pI, Option.bind_some, if_neg q]
        rw [e0]; exact oj_none
  · rw [if_neg hx]; exact oj_none
theorem or_putL (C : oh_C G cc Ts own R0 nL) {Cn : String} {TT : u_T} {N : Nat} (ci k : Nat) {index cd : Nat} (hcd : cd = 64 * ci + k) (hk64 : k < 64) (hc : vwCl[ci]? = some (Cn, TT, N)) (hci : ci < 19) (hin : ∀ w ∈ u_ws Cn TT N, w ∈ Ts) (ty0 : Nat → FieldType) (hty : ∀ k, k < N → parseFieldDescriptor (TT k).2.2.1 = some (ty0 k)) (hnm : ∀ a, a < N → ∀ b, b < N → a ≠ b → (TT a).2.1 ≠ (TT b).2.1) (hk : k < N) (hlink : Cond.fieldLink own index (TT k).1 (TT k).2.1 (TT k).2.2.1 ∈ Ts) (hfin : (TT k).2.2.2 = false ∨ ((TT k).2.2.2 = true ∧ G.2.1.2.2.2.1.name = "<init>" ∧ (TT k).1 = own)) (htag : oh_tag (64 * ci + k) = 1) (hi : ty0 k = .long) (d : decode cc pc = .ok (.putfield index, 3)) {r : Option Nat} {x : Int64} {K : oh_H → Option X}
    (kk : ∀ h1, oh_J T (K h1) (oh_V G cells slots h1 (pc + 3) lv st)) : oh_J T ((oh_pL h r cd x).bind K) (oh_V G cells slots h pc lv (xl x :: xr r :: st)) := by
  subst hcd
  cases r with
  | none => exact oj_none
  | some a =>
    by_cases q : oh_K h a = (64 * ci + k) / 64 + 1
    · have q' : oh_K h a = ci + 1 := by omega
      have e0 : oh_pL h (some a) (64 * ci + k) x = some (oh_wL h (64 * ci + k) a x) := by simp only [oh_pL, Option.bind_some, if_pos q]
      rw [e0, Option.bind_some]
      refine fun X hX hT => or_put0 C hc hci hin ty0 hty hnm hk hlink hfin q' d (x := xl x) (by rw [hi]; rfl) (by rw [hi]; rfl) (h1 := oh_wL h (64 * ci + k) a x) rfl rfl rfl (fun _ _ _ => rfl) (fun c b z => oh_u2_ne z) (fun _ _ _ => rfl) (fun _ _ _ => rfl) (fun _ _ _ => rfl) (fun _ _ _ => rfl) (fun j => ?_) (kk _ X hX hT)
      by_cases z : j = k
      · subst z
        rw [if_pos rfl]
        simp only [oh_val, htag]
        show Value.long (oh_u2 _ _ _ _ _ _) = _
        rw [oh_u2_eq]; rfl
      · rw [if_neg z]
        simp only [oh_val]
        rw [show oh_FL (oh_wL h (64 * ci + k) a x) (64 * ci + j) a = oh_FL h (64 * ci + j) a from oh_u2_ne1 (by omega)]
        rfl
    · have e0 : oh_pL h (some a) (64 * ci + k) x = none := by simp only [oh_pL, Option.bind_some, if_neg q]
      rw [e0]; exact oj_none
theorem or_putR (C : oh_C G cc Ts own R0 nL) {Cn : String} {TT : u_T} {N : Nat} (ci k : Nat) {index cd : Nat} (hcd : cd = 64 * ci + k) (hk64 : k < 64) (hc : vwCl[ci]? = some (Cn, TT, N)) (hci : ci < 19) (hin : ∀ w ∈ u_ws Cn TT N, w ∈ Ts) (ty0 : Nat → FieldType) (hty : ∀ k, k < N → parseFieldDescriptor (TT k).2.2.1 = some (ty0 k)) (hnm : ∀ a, a < N → ∀ b, b < N → a ≠ b → (TT a).2.1 ≠ (TT b).2.1) (hk : k < N) (hlink : Cond.fieldLink own index (TT k).1 (TT k).2.1 (TT k).2.2.1 ∈ Ts) (hfin : (TT k).2.2.2 = false ∨ ((TT k).2.2.2 = true ∧ G.2.1.2.2.2.1.name = "<init>" ∧ (TT k).1 = own)) (htag : oh_tag (64 * ci + k) = 2) (hi : ∀ v : Option Nat, narrow (ty0 k) (va_rf v) = va_rf v ∧ fits (ty0 k) (va_rf v) = true) (d : decode cc pc = .ok (.putfield index, 3)) {r : Option Nat} {x : Option Nat} {K : oh_H → Option X}
    (kk : ∀ h1, oh_J T (K h1) (oh_V G cells slots h1 (pc + 3) lv st)) : oh_J T ((oh_pR h r cd x).bind K) (oh_V G cells slots h pc lv (xr x :: xr r :: st)) := by
  subst hcd
  cases r with
  | none => exact oj_none
  | some a =>
    by_cases q : oh_K h a = (64 * ci + k) / 64 + 1
    · have q' : oh_K h a = ci + 1 := by omega
      have e0 : oh_pR h (some a) (64 * ci + k) x = some (oh_wR h (64 * ci + k) a x) := by simp only [oh_pR, Option.bind_some, if_pos q]
      rw [e0, Option.bind_some]
      refine fun X hX hT => or_put0 C hc hci hin ty0 hty hnm hk hlink hfin q' d (x := xr x) (hi x).1 (hi x).2 (h1 := oh_wR h (64 * ci + k) a x) rfl rfl rfl (fun _ _ _ => rfl) (fun _ _ _ => rfl) (fun c b z => oh_u2_ne z) (fun _ _ _ => rfl) (fun _ _ _ => rfl) (fun _ _ _ => rfl) (fun j => ?_) (kk _ X hX hT)
      by_cases z : j = k
      · subst z
        rw [if_pos rfl]
        simp only [oh_val, htag]
        show va_rf (oh_u2 _ _ _ _ _ _) = _
        rw [oh_u2_eq]; rfl
      · rw [if_neg z]
        simp only [oh_val]
        rw [show oh_FR (oh_wR h (64 * ci + k) a x) (64 * ci + j) a = oh_FR h (64 * ci + j) a from oh_u2_ne1 (by omega)]
        rfl
    · have e0 : oh_pR h (some a) (64 * ci + k) x = none := by simp only [oh_pR, Option.bind_some, if_neg q]
      rw [e0]; exact oj_none
/-! arrays -/
theorem oh_arr {D : va_G} {dA : Nat → ClassId} {H : Heap} {a t : Nat} (hR : oh_R D dA h H) (hk : oh_K h a = 20 + t) : H[a]? = some (arrV (dA t) (oh_N h a) (oh_elt h a)) := by
  have := (hR.2 a (by omega)).2 (by omega)
  rw [hk, Nat.add_sub_cancel_left] at this
  exact this
theorem oh_in {i : Int32} {n : Nat} (h : 0 ≤ i.toInt ∧ i.toInt < n) : vp_in i n := vp_in_iff.mpr h
theorem or_iald (C : oh_C G cc Ts own R0 nL) (d : decode cc pc = .ok (.iaload, 1)) {r : Option Nat} {i : Int32} {K : Int32 → Option X} (kk : ∀ x, oh_J T (K x) (oh_V G cells slots h (pc + 1) lv (xi x :: st))) : oh_J T ((oh_aI h r 20 i).bind K) (oh_V G cells slots h pc lv (xi i :: xr r :: st)) := by
  cases r with
  | none => exact oj_none
  | some a =>
    by_cases q : oh_K h a = 20 ∧ 0 ≤ i.toInt ∧ i.toInt < oh_N h a
    · rw [show oh_aI h (some a) 20 i = some (oh_AI h a i.toNatClampNeg) by simp only [oh_aI, Option.bind_some, if_pos q], Option.bind_some]
      refine fun X hX hT H locs ls hR hS hl hA => ?_
      have hin := oh_in q.2
      have hlt : i.toNatClampNeg < oh_N h a := Nat.not_le.mp fun z => hin (Or.inr z)
      exact W.iald (v := .int (oh_AI h a i.toNatClampNeg)) C.1 C.2.1 (oh_arr (t := 0) hR q.1) ((C.2.2.2.2.2.1.1.2 0 _ rfl).1 _ _) (fun z => by cases z) (by show ¬ (i < 0 ∨ (arrV _ _ _).slots.size ≤ _); rw [arrV_size]; exact hin) (by show (arrV _ _ _).slots[_]? = _; rw [arrV_read _ _ hlt]; simp [oh_elt, q.1]) rfl rfl d (kk _ X hX hT H locs ls hR hS hl hA)
    · rw [show oh_aI h (some a) 20 i = none by simp only [oh_aI, Option.bind_some, if_neg q]]; exact oj_none
theorem or_zald (C : oh_C G cc Ts own R0 nL) (d : decode cc pc = .ok (.baload, 1)) {r : Option Nat} {i : Int32} {K : Int32 → Option X} (kk : ∀ x, oh_J T (K x) (oh_V G cells slots h (pc + 1) lv (xi x :: st))) : oh_J T ((oh_aI h r 22 i).bind K) (oh_V G cells slots h pc lv (xi i :: xr r :: st)) := by
  cases r with
  | none => exact oj_none
  | some a =>
    by_cases q : oh_K h a = 22 ∧ 0 ≤ i.toInt ∧ i.toInt < oh_N h a
    · rw [show oh_aI h (some a) 22 i = some (oh_AI h a i.toNatClampNeg) by simp only [oh_aI, Option.bind_some, if_pos q], Option.bind_some]
      refine fun X hX hT H locs ls hR hS hl hA => ?_
      have hin := oh_in q.2
      have hlt : i.toNatClampNeg < oh_N h a := Nat.not_le.mp fun z => hin (Or.inr z)
      exact W.zald (v := .int (oh_AI h a i.toNatClampNeg)) C.1 C.2.1 (oh_arr (t := 2) hR q.1) ((C.2.2.2.2.2.1.1.2 2 _ rfl).1 _ _) (fun z => by cases z) (by show ¬ (i < 0 ∨ (arrV _ _ _).slots.size ≤ _); rw [arrV_size]; exact hin) (by show (arrV _ _ _).slots[_]? = _; rw [arrV_read _ _ hlt]; simp [oh_elt, q.1]) rfl rfl d (kk _ X hX hT H locs ls hR hS hl hA)
    · rw [show oh_aI h (some a) 22 i = none by simp only [oh_aI, Option.bind_some, if_neg q]]; exact oj_none
theorem or_lald (C : oh_C G cc Ts own R0 nL) (d : decode cc pc = .ok (.laload, 1)) {r : Option Nat} {i : Int32} {K : Int64 → Option X} (kk : ∀ x, oh_J T (K x) (oh_V G cells slots h (pc + 1) lv (xl x :: st))) : oh_J T ((oh_aL h r i).bind K) (oh_V G cells slots h pc lv (xi i :: xr r :: st)) := by
  cases r with
  | none => exact oj_none
  | some a =>
    by_cases q : oh_K h a = 21 ∧ 0 ≤ i.toInt ∧ i.toInt < oh_N h a
    · rw [show oh_aL h (some a) i = some (oh_AL h a i.toNatClampNeg) by simp only [oh_aL, Option.bind_some, if_pos q], Option.bind_some]
      refine fun X hX hT H locs ls hR hS hl hA => ?_
      have hin := oh_in q.2
      have hlt : i.toNatClampNeg < oh_N h a := Nat.not_le.mp fun z => hin (Or.inr z)
      exact W.lald (v := .long (oh_AL h a i.toNatClampNeg)) C.1 C.2.1 (oh_arr (t := 1) hR q.1) ((C.2.2.2.2.2.1.1.2 1 _ rfl).1 _ _) (fun z => by cases z) (by show ¬ (i < 0 ∨ (arrV _ _ _).slots.size ≤ _); rw [arrV_size]; exact hin) (by show (arrV _ _ _).slots[_]? = _; rw [arrV_read _ _ hlt]; simp [oh_elt, q.1]) rfl rfl d (kk _ X hX hT H locs ls hR hS hl hA)
    · rw [show oh_aL h (some a) i = none by simp only [oh_aL, Option.bind_some, if_neg q]]; exact oj_none
theorem or_aald (C : oh_C G cc Ts own R0 nL) (t : Nat) {Cn : String} (ht : ∀ dA : Nat → ClassId, (oh_tys dA)[t]? = some (dA t, .object Cn)) (h3 : 3 ≤ t) {kd : Nat} (hkd : kd = 20 + t) (d : decode cc pc = .ok (.aaload, 1)) {r : Option Nat} {i : Int32} {K : Option Nat → Option X} (kk : ∀ x, oh_J T (K x) (oh_V G cells slots h (pc + 1) lv (xr x :: st))) : oh_J T ((oh_aR h r kd i).bind K) (oh_V G cells slots h pc lv (xi i :: xr r :: st)) := by
  subst hkd
  cases r with
  | none => exact oj_none
  | some a =>
    by_cases q : oh_K h a = 20 + t ∧ 0 ≤ i.toInt ∧ i.toInt < oh_N h a
    · rw [show oh_aR h (some a) (20 + t) i = some (oh_AR h a i.toNatClampNeg) by simp only [oh_aR, Option.bind_some, if_pos q], Option.bind_some]
      refine fun X hX hT H locs ls hR hS hl hA => ?_
      have hin := oh_in q.2
      have hlt : i.toNatClampNeg < oh_N h a := Nat.not_le.mp fun z => hin (Or.inr z)
      exact W.aald (v := va_rf (oh_AR h a i.toNatClampNeg)) (ty := .object Cn) C.1 C.2.1 (oh_arr (t := t) hR q.1) ((C.2.2.2.2.2.1.1.2 t _ (ht _)).1 _ _) rfl (fun z => by cases z) (by show ¬ (i < 0 ∨ (arrV _ _ _).slots.size ≤ _); rw [arrV_size]; exact hin) (by show (arrV _ _ _).slots[_]? = _; rw [arrV_read _ _ hlt]; simp only [oh_elt, q.1]; rw [if_neg (by omega), if_neg (by omega)]) rfl rfl d (kk _ X hX hT H locs ls hR hS hl hA)
    · rw [show oh_aR h (some a) (20 + t) i = none by simp only [oh_aR, Option.bind_some, if_neg q]]; exact oj_none
/-- one element changed -/
theorem oh_elt_put {D : va_G} {dA : Nat → ClassId} {h1 : oh_H} {H H1 : Heap} {a t k : Nat} {v : Value} (hR : oh_R D dA h H) (hk : oh_K h a = 20 + t) (e : H1[a]? = some ((arrV (dA t) (oh_N h a) (oh_elt h a)).setSlot k v)) (hz : H1.size = H.size) (oq : ∀ q : Nat, q ≠ a → H1[q]? = H[q]?) (es : oh_sz h1 = oh_sz h) (eK : oh_K h1 = oh_K h) (eN : oh_N h1 = oh_N h) (eI : oh_FI h1 = oh_FI h) (eL : oh_FL h1 = oh_FL h) (eR : oh_FR h1 = oh_FR h) (eAI : ∀ b j, b ≠ a → oh_AI h1 b j = oh_AI h b j) (eAL : ∀ b j, b ≠ a → oh_AL h1 b j = oh_AL h b j) (eAR : ∀ b j, b ≠ a → oh_AR h1 b j = oh_AR h b j) (hv : ∀ j, oh_elt h1 a j = if j = k then v else oh_elt h a j) : oh_R D dA h1 H1 := by
  refine hR.put hz oq es eK eN (fun _ _ _ => by rw [eI]) (fun _ _ _ => by rw [eL]) (fun _ _ _ => by rw [eR]) eAI eAL eAR ⟨fun z => absurd z (by rw [eK, hk]; omega), fun _ => ?_⟩
  rw [eK, hk, Nat.add_sub_cancel_left, eN, e, arrV_store]
  congr 2
  funext j
  rw [hv j]
  rfl
theorem or_iast (C : oh_C G cc Ts own R0 nL) (d : decode cc pc = .ok (.iastore, 1)) {r : Option Nat} {i x : Int32} {K : oh_H → Option X} (kk : ∀ h1, oh_J T (K h1) (oh_V G cells slots h1 (pc + 1) lv st)) : oh_J T ((oh_tI h r 20 i x).bind K) (oh_V G cells slots h pc lv (xi x :: xi i :: xr r :: st)) := by
  cases r with
  | none => exact oj_none
  | some a =>
    by_cases q : oh_K h a = 20 ∧ 0 ≤ i.toInt ∧ i.toInt < oh_N h a
    · rw [show oh_tI h (some a) 20 i x = some (oh_sI h a i.toNatClampNeg x) by simp only [oh_tI, Option.bind_some, if_pos q], Option.bind_some]
      refine fun X hX hT H locs ls hR hS hl hA => ?_
      have hin := oh_in q.2
      refine W.iast C.1 C.2.1 (oh_arr (t := 0) hR q.1) ((C.2.2.2.2.2.1.1.2 0 _ rfl).1 _ _) (fun z => by cases z) (by show ¬ (i < 0 ∨ (arrV _ _ _).slots.size ≤ _); rw [arrV_size]; exact hin) rfl rfl d fun H1 e z oq => ?_
      refine kk _ X hX hT H1 _ ls (oh_elt_put hR (t := 0) q.1 e z oq rfl rfl rfl rfl rfl rfl (fun b j z => oh_u2_ne1 z) (fun _ _ _ => rfl) (fun _ _ _ => rfl) (fun j => ?_)) (hS.put z oq (hA a (Or.inl (by omega)))) hl (fun b z => hA b (oh_A_same rfl rfl b z))
      have e0 : oh_K (oh_sI h a i.toNatClampNeg x) a = 20 := q.1
      simp only [oh_elt, e0, q.1]
      show Value.int (oh_u2 _ _ _ _ _ _) = _
      by_cases w : j = i.toNatClampNeg
      · rw [w, oh_u2_eq, if_pos rfl]
      · rw [if_neg w, oh_u2_ne w]
        rfl
    · rw [show oh_tI h (some a) 20 i x = none by simp only [oh_tI, Option.bind_some, if_neg q]]; exact oj_none
theorem or_zast (C : oh_C G cc Ts own R0 nL) (d : decode cc pc = .ok (.bastore, 1)) {r : Option Nat} {i x : Int32} {K : oh_H → Option X} (kk : ∀ h1, oh_J T (K h1) (oh_V G cells slots h1 (pc + 1) lv st)) : oh_J T (oh_bz x ((oh_tI h r 22 i x).bind K)) (oh_V G cells slots h pc lv (xi x :: xi i :: xr r :: st)) := by
  unfold oh_bz
  by_cases hx : x = 0 ∨ x = 1
  · rw [if_pos hx]
    cases r with
    | none => exact oj_none
    | some a =>
      by_cases q : oh_K h a = 22 ∧ 0 ≤ i.toInt ∧ i.toInt < oh_N h a
      · rw [show oh_tI h (some a) 22 i x = some (oh_sI h a i.toNatClampNeg x) by simp only [oh_tI, Option.bind_some, if_pos q], Option.bind_some]
        refine fun X hX hT H locs ls hR hS hl hA => ?_
        have hin := oh_in q.2
        have en : narrow .boolean (.int x) = .int x := by rcases hx with rfl | rfl <;> rfl
        refine W.zast C.1 C.2.1 (x := x) (oh_arr (t := 2) hR q.1) ((C.2.2.2.2.2.1.1.2 2 _ rfl).1 _ _) (fun z => by cases z) (by show ¬ (i < 0 ∨ (arrV _ _ _).slots.size ≤ _); rw [arrV_size]; exact hin) rfl rfl d fun H1 e z oq => ?_
        rw [en] at e
        refine kk _ X hX hT H1 _ ls (oh_elt_put hR (t := 2) q.1 e z oq rfl rfl rfl rfl rfl rfl (fun b j z => oh_u2_ne1 z) (fun _ _ _ => rfl) (fun _ _ _ => rfl) (fun j => ?_)) (hS.put z oq (hA a (Or.inl (by omega)))) hl (fun b z => hA b (oh_A_same rfl rfl b z))
        have e0 : oh_K (oh_sI h a i.toNatClampNeg x) a = 22 := q.1
        simp only [oh_elt, e0, q.1]
        show Value.int (oh_u2 _ _ _ _ _ _) = _
        by_cases w : j = i.toNatClampNeg
        · rw [w, oh_u2_eq, if_pos rfl]
        · rw [if_neg w, oh_u2_ne w]
          rfl
      · rw [show oh_tI h (some a) 22 i x = none by simp only [oh_tI, Option.bind_some, if_neg q]]; exact oj_none
  · rw [if_neg hx]; exact oj_none
theorem or_last (C : oh_C G cc Ts own R0 nL) (d : decode cc pc = .ok (.lastore, 1)) {r : Option Nat} {i : Int32} {x : Int64} {K : oh_H → Option X} (kk : ∀ h1, oh_J T (K h1) (oh_V G cells slots h1 (pc + 1) lv st)) : oh_J T ((oh_tL h r i x).bind K) (oh_V G cells slots h pc lv (xl x :: xi i :: xr r :: st)) := by
  cases r with
  | none => exact oj_none
  | some a =>
    by_cases q : oh_K h a = 21 ∧ 0 ≤ i.toInt ∧ i.toInt < oh_N h a
    · rw [show oh_tL h (some a) i x = some (oh_sL h a i.toNatClampNeg x) by simp only [oh_tL, Option.bind_some, if_pos q], Option.bind_some]
      refine fun X hX hT H locs ls hR hS hl hA => ?_
      have hin := oh_in q.2
      refine W.last C.1 C.2.1 (oh_arr (t := 1) hR q.1) ((C.2.2.2.2.2.1.1.2 1 _ rfl).1 _ _) (fun z => by cases z) (by show ¬ (i < 0 ∨ (arrV _ _ _).slots.size ≤ _); rw [arrV_size]; exact hin) rfl rfl d fun H1 e z oq => ?_
      refine kk _ X hX hT H1 _ ls (oh_elt_put hR (t := 1) q.1 e z oq rfl rfl rfl rfl rfl rfl (fun _ _ _ => rfl) (fun b j z => oh_u2_ne1 z) (fun _ _ _ => rfl) (fun j => ?_)) (hS.put z oq (hA a (Or.inl (by omega)))) hl (fun b z => hA b (oh_A_same rfl rfl b z))
      have e0 : oh_K (oh_sL h a i.toNatClampNeg x) a = 21 := q.1
      simp only [oh_elt, e0, q.1, if_true]
      show Value.long (oh_u2 _ _ _ _ _ _) = _
      by_cases w : j = i.toNatClampNeg
      · rw [w, oh_u2_eq, if_pos rfl]
      · rw [if_neg w, oh_u2_ne w]
    · rw [show oh_tL h (some a) i x = none by simp only [oh_tL, Option.bind_some, if_neg q]]; exact oj_none
end ROWS
