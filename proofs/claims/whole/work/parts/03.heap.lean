/-! THE PURE HEAP: size, kinds by address (class + 1; 20 + kind of array), fields by code (64 * class + place) and address, arrays by address and index -/
abbrev oh_H : Type := Nat × (Nat → Nat) × (Nat → Nat → Int32) × (Nat → Nat → Int64) × (Nat → Nat → Option Nat) × (Nat → Nat) × (Nat → Nat → Int32) × (Nat → Nat → Int64) × (Nat → Nat → Option Nat)
def oh_sz (h : oh_H) : Nat := h.1
def oh_K (h : oh_H) : Nat → Nat := h.2.1
def oh_FI (h : oh_H) : Nat → Nat → Int32 := h.2.2.1
def oh_FL (h : oh_H) : Nat → Nat → Int64 := h.2.2.2.1
def oh_FR (h : oh_H) : Nat → Nat → Option Nat := h.2.2.2.2.1
def oh_N (h : oh_H) : Nat → Nat := h.2.2.2.2.2.1
def oh_AI (h : oh_H) : Nat → Nat → Int32 := h.2.2.2.2.2.2.1
def oh_AL (h : oh_H) : Nat → Nat → Int64 := h.2.2.2.2.2.2.2.1
def oh_AR (h : oh_H) : Nat → Nat → Option Nat := h.2.2.2.2.2.2.2.2
def oh_u1 {α : Type} (f : Nat → α) (a : Nat) (v : α) : Nat → α := fun b => if b = a then v else f b
def oh_u2 {α : Type} (f : Nat → Nat → α) (c a : Nat) (v : α) : Nat → Nat → α := fun c' a' => if c' = c ∧ a' = a then v else f c' a'
def oh_z2 {α : Type} (f : Nat → Nat → α) (a : Nat) (v : α) : Nat → Nat → α := fun c b => if b = a then v else f c b
def oh_z1 {α : Type} (f : Nat → Nat → α) (a : Nat) (v : α) : Nat → Nat → α := fun b j => if b = a then v else f b j
def oh_wI (h : oh_H) (c a : Nat) (v : Int32) : oh_H := (oh_sz h, oh_K h, oh_u2 (oh_FI h) c a v, oh_FL h, oh_FR h, oh_N h, oh_AI h, oh_AL h, oh_AR h)
def oh_wL (h : oh_H) (c a : Nat) (v : Int64) : oh_H := (oh_sz h, oh_K h, oh_FI h, oh_u2 (oh_FL h) c a v, oh_FR h, oh_N h, oh_AI h, oh_AL h, oh_AR h)
def oh_wR (h : oh_H) (c a : Nat) (v : Option Nat) : oh_H := (oh_sz h, oh_K h, oh_FI h, oh_FL h, oh_u2 (oh_FR h) c a v, oh_N h, oh_AI h, oh_AL h, oh_AR h)
def oh_sI (h : oh_H) (a i : Nat) (v : Int32) : oh_H := (oh_sz h, oh_K h, oh_FI h, oh_FL h, oh_FR h, oh_N h, oh_u2 (oh_AI h) a i v, oh_AL h, oh_AR h)
def oh_sL (h : oh_H) (a i : Nat) (v : Int64) : oh_H := (oh_sz h, oh_K h, oh_FI h, oh_FL h, oh_FR h, oh_N h, oh_AI h, oh_u2 (oh_AL h) a i v, oh_AR h)
def oh_sR (h : oh_H) (a i : Nat) (v : Option Nat) : oh_H := (oh_sz h, oh_K h, oh_FI h, oh_FL h, oh_FR h, oh_N h, oh_AI h, oh_AL h, oh_u2 (oh_AR h) a i v)
def oh_nO (h : oh_H) (k : Nat) : oh_H := (oh_sz h + 1, oh_u1 (oh_K h) (oh_sz h) k, oh_z2 (oh_FI h) (oh_sz h) 0, oh_z2 (oh_FL h) (oh_sz h) 0, oh_z2 (oh_FR h) (oh_sz h) none, oh_N h, oh_AI h, oh_AL h, oh_AR h)
def oh_nA (h : oh_H) (k n : Nat) : oh_H := (oh_sz h + 1, oh_u1 (oh_K h) (oh_sz h) k, oh_FI h, oh_FL h, oh_FR h, oh_u1 (oh_N h) (oh_sz h) n, oh_z1 (oh_AI h) (oh_sz h) 0, oh_z1 (oh_AL h) (oh_sz h) 0, oh_z1 (oh_AR h) (oh_sz h) none)
/-! what the programs below are made of -/
def oh_lt {α β : Type} (a : α) (k : α → β) : β := k a
def oh_gI (h : oh_H) (r : Option Nat) (c : Nat) : Option Int32 := r.bind fun a => if oh_K h a = c / 64 + 1 then some (oh_FI h c a) else none
def oh_gL (h : oh_H) (r : Option Nat) (c : Nat) : Option Int64 := r.bind fun a => if oh_K h a = c / 64 + 1 then some (oh_FL h c a) else none
def oh_gR (h : oh_H) (r : Option Nat) (c : Nat) : Option (Option Nat) := r.bind fun a => if oh_K h a = c / 64 + 1 then some (oh_FR h c a) else none
def oh_pI (h : oh_H) (r : Option Nat) (c : Nat) (v : Int32) : Option oh_H := r.bind fun a => if oh_K h a = c / 64 + 1 then some (oh_wI h c a v) else none
def oh_pL (h : oh_H) (r : Option Nat) (c : Nat) (v : Int64) : Option oh_H := r.bind fun a => if oh_K h a = c / 64 + 1 then some (oh_wL h c a v) else none
def oh_pR (h : oh_H) (r : Option Nat) (c : Nat) (v : Option Nat) : Option oh_H := r.bind fun a => if oh_K h a = c / 64 + 1 then some (oh_wR h c a v) else none
/-- a boolean is 0 or 1 -/
def oh_bz {α : Type} (v : Int32) (k : Option α) : Option α := if v = 0 ∨ v = 1 then k else none
def oh_ix (i : Int32) (n : Nat) : Prop := 0 ≤ i.toInt ∧ i.toInt < n
def oh_aI (h : oh_H) (r : Option Nat) (kd : Nat) (i : Int32) : Option Int32 := r.bind fun a => if oh_K h a = kd ∧ 0 ≤ i.toInt ∧ i.toInt < oh_N h a then some (oh_AI h a i.toNatClampNeg) else none
def oh_aL (h : oh_H) (r : Option Nat) (i : Int32) : Option Int64 := r.bind fun a => if oh_K h a = 21 ∧ 0 ≤ i.toInt ∧ i.toInt < oh_N h a then some (oh_AL h a i.toNatClampNeg) else none
def oh_aR (h : oh_H) (r : Option Nat) (kd : Nat) (i : Int32) : Option (Option Nat) := r.bind fun a => if oh_K h a = kd ∧ 0 ≤ i.toInt ∧ i.toInt < oh_N h a then some (oh_AR h a i.toNatClampNeg) else none
def oh_tI (h : oh_H) (r : Option Nat) (kd : Nat) (i : Int32) (v : Int32) : Option oh_H := r.bind fun a => if oh_K h a = kd ∧ 0 ≤ i.toInt ∧ i.toInt < oh_N h a then some (oh_sI h a i.toNatClampNeg v) else none
def oh_tL (h : oh_H) (r : Option Nat) (i : Int32) (v : Int64) : Option oh_H := r.bind fun a => if oh_K h a = 21 ∧ 0 ≤ i.toInt ∧ i.toInt < oh_N h a then some (oh_sL h a i.toNatClampNeg v) else none
/-- a reference to an object of class ci, or null, into an array of that class's kind kd -/
def oh_tR (h : oh_H) (r : Option Nat) (kd ci : Nat) (i : Int32) (v : Option Nat) : Option oh_H := r.bind fun a => if (oh_K h a = kd ∧ 0 ≤ i.toInt ∧ i.toInt < oh_N h a) ∧ (∀ b, v = some b → oh_K h b = ci + 1) then some (oh_sR h a i.toNatClampNeg v) else none
def oh_loop {S X : Type} (body : S → Option (S ⊕ X)) : Nat → S → Option X
  | 0, _ => none
  | n + 1, s => match body s with
    | none => none
    | some (.inl s') => oh_loop body n s'
    | some (.inr x) => some x
/-! what the pure heap says of the machine's -/
def oh_tag : Nat → Nat := fun c => if c ∈ [0, 65 + 64, 64 * 3 + 1, 64 * 3 + 2, 256, 257, 258, 259, 260, 261, 262, 266, 448, 449, 450, 451, 452, 453, 454] then 2 else if c ∈ [390, 391] then 1 else if c ∈ [512 + 5, 512 + 6, 512 + 8, 512 + 9, 512 + 10, 512 + 11, 512 + 12, 512 + 13, 512 + 14, 512 + 15, 512 + 16, 512 + 17, 512 + 18, 512 + 19, 512 + 20, 512 + 21, 512 + 22, 512 + 23, 512 + 24, 512 + 25, 512 + 26, 512 + 27, 512 + 28, 512 + 30, 512 + 31, 512 + 32, 512 + 33, 512 + 34, 512 + 35, 512 + 36, 512 + 37, 512 + 38, 512 + 48, 512 + 50, 512 + 51] then 2 else 0
def oh_val (h : oh_H) (ci k a : Nat) : Value := if oh_tag (64 * ci + k) = 0 then .int (oh_FI h (64 * ci + k) a) else if oh_tag (64 * ci + k) = 1 then .long (oh_FL h (64 * ci + k) a) else va_rf (oh_FR h (64 * ci + k) a)
def oh_elt (h : oh_H) (a j : Nat) : Value := if oh_K h a = 21 then .long (oh_AL h a j) else if oh_K h a < 23 then .int (oh_AI h a j) else va_rf (oh_AR h a j)
def oh_at (D : va_G) (dA : Nat → ClassId) (h : oh_H) (H : Heap) (a : Nat) : Prop :=
  (oh_K h a < 20 → ∃ r, vwCl[oh_K h a - 1]? = some r ∧ t_OB a (D.1 (oh_K h a - 1)) r.2.2 (D.2 (oh_K h a - 1)) H (fun k => oh_val h (oh_K h a - 1) k a)) ∧
  (20 ≤ oh_K h a → H[a]? = some (arrV (dA (oh_K h a - 20)) (oh_N h a) (oh_elt h a)))
def oh_R (D : va_G) (dA : Nat → ClassId) (h : oh_H) (H : Heap) : Prop := H.size = oh_sz h ∧ ∀ a, oh_K h a ≠ 0 → oh_at D dA h H a
def oh_A (h : oh_H) : Nat → Prop := fun q => oh_K h q ≠ 0 ∨ oh_sz h ≤ q
def oh_tys (dA : Nat → ClassId) : List (ClassId × FieldType) := [(dA 0, .int), (dA 1, .long), (dA 2, .boolean), (dA 3, .object "OilPress$Grove"), (dA 4, .object "OilPress$Lot"), (dA 5, .object "OilPress$Mill"), (dA 6, .object "OilPress$Vat")]
def oh_nest : List (String × Nat × MethodName) := [("OilPress$Debts", 15, yX7_isFarmer), ("OilPress$Debts", 19, yX7_isSort), ("OilPress$Debts", 28, yX7_divideUp), ("OilPress$Mill", 59, yX7_divideUp), ("OilPress", 35, yX0_init), ("OilPress", 49, yX4_init), ("OilPress", 42, yX5_init)]
def oh_KK (D : va_G) (dA : Nat → ClassId) (U : State) : Prop := va_K D vwCl (oh_tys dA) U ∧ (∀ q ∈ oh_nest, va_Nw (.methodLinkNest q.1 q.2.1 q.2.2 "OilPress") U) ∧ ∀ C ∈ ["OilPress$Grove", "OilPress$Lot", "OilPress$Mill", "OilPress$Vat"], va_AO C U
theorem oh_KK.warm {D : va_G} {dA : Nat → ClassId} {s U : State} (hW : s.WarmedH U.vm) (h : oh_KK D dA s) : oh_KK D dA U := ⟨va_K.moved hW.alike h.1, fun q hq => va_Nw.warmM hW (h.2.1 q hq), fun C hC => va_AO.moved hW.alike (h.2.2 C hC)⟩
theorem oh_KK.same {D : va_G} {dA : Nat → ClassId} {s U : State} (e : s.vm = U.vm) (h : oh_KK D dA s) : oh_KK D dA U := ⟨va_K.moved (by rw [e]; exact Vm.Alike.refl U.vm) h.1, fun q hq => va_Nw.same rfl e (h.2.1 q hq), fun C hC => va_AO.moved (by rw [e]; exact Vm.Alike.refl U.vm) (h.2.2 C hC)⟩
theorem oh_lt_of {D : va_G} {dA : Nat → ClassId} {h : oh_H} {H : Heap} (hR : oh_R D dA h H) {a : Nat} (ha : oh_K h a ≠ 0) : a < oh_sz h := by
  rw [← hR.1]
  rcases Nat.lt_or_ge (oh_K h a) 20 with q | q
  · obtain ⟨r, -, cell, h2, -⟩ := (hR.2 a ha).1 q
    exact (Array.getElem?_eq_some_iff.mp h2).1
  · exact (Array.getElem?_eq_some_iff.mp ((hR.2 a ha).2 q)).1
theorem oh_new0 {D : va_G} {dA : Nat → ClassId} {h : oh_H} {H : Heap} (hR : oh_R D dA h H) : oh_K h (oh_sz h) = 0 := by
  by_cases q : oh_K h (oh_sz h) = 0
  · exact q
  · have := oh_lt_of hR q
    omega
/-- a cell that isn't touched -/
theorem oh_at.kept {D : va_G} {dA : Nat → ClassId} {h h1 : oh_H} {H H1 : Heap} {a : Nat} (q : oh_at D dA h H a) (eH : H1[a]? = H[a]?) (eK : oh_K h1 a = oh_K h a) (eI : ∀ c, oh_FI h1 c a = oh_FI h c a) (eL : ∀ c, oh_FL h1 c a = oh_FL h c a) (eR : ∀ c, oh_FR h1 c a = oh_FR h c a) (eN : oh_N h1 a = oh_N h a) (eAI : ∀ j, oh_AI h1 a j = oh_AI h a j) (eAL : ∀ j, oh_AL h1 a j = oh_AL h a j) (eAR : ∀ j, oh_AR h1 a j = oh_AR h a j) : oh_at D dA h1 H1 a := by
  refine ⟨fun k => ?_, fun k => ?_⟩
  · rw [eK] at k ⊢
    obtain ⟨r, h1', h2⟩ := q.1 k
    exact ⟨r, h1', (h2.kept eH).to (fun k _ => by simp only [oh_val, eI, eL, eR])⟩
  · rw [eK] at k ⊢
    rw [eH, q.2 k, eN]
    congr 2
    funext j
    simp only [oh_elt, eK, eAI, eAL, eAR]
