/-! ROWS, fourth part: references into arrays, makings, calls, ends, loops, entries -/
section ROWS
variable {X : Type} {T : X → Prop} {e e1 e2 : Option X} {G : oh_G} {cc : ByteArray} {Ts : List Cond} {own : String} {R0 : Room} {nL : Nat} {cells slots : Nat} {h : oh_H} {pc : Nat} {lv lv' : oh_Ls} {st st' : List oh_X}
theorem or_aast (C : oh_C G cc Ts own R0 nL) (t ci : Nat) {Cn : String} {TT : u_T} {N : Nat} (ht : ∀ dA : Nat → ClassId, (oh_tys dA)[t]? = some (dA t, .object Cn)) (h3 : 3 ≤ t) (hc : vwCl[ci]? = some (Cn, TT, N)) (hci : ci < 19) {kd : Nat} (hkd : kd = 20 + t) (d : decode cc pc = .ok (.aastore, 1)) {r x : Option Nat} {i : Int32} {K : oh_H → Option X} (kk : ∀ h1, oh_J T (K h1) (oh_V G cells slots h1 (pc + 1) lv st)) : oh_J T ((oh_tR h r kd ci i x).bind K) (oh_V G cells slots h pc lv (xr x :: xi i :: xr r :: st)) := by
  subst hkd
  cases r with
  | none => exact oj_none
  | some a =>
    by_cases q : (oh_K h a = 20 + t ∧ 0 ≤ i.toInt ∧ i.toInt < oh_N h a) ∧ (∀ b, x = some b → oh_K h b = ci + 1)
    · rw [show oh_tR h (some a) (20 + t) ci i x = some (oh_sR h a i.toNatClampNeg x) by simp only [oh_tR, Option.bind_some]; exact if_pos q, Option.bind_some]
      refine fun X hX hT H locs ls hR hS hl hA => ?_
      have hin := oh_in q.1.2
      have hlt : i.toNatClampNeg < oh_N h a := Nat.not_le.mp fun z => hin (Or.inr z)
      have h0 : ¬ i < 0 := fun z => hin (Or.inl z)
      have hty := C.2.2.2.2.2.1.1.2 t _ (ht _)
      have fin : ∀ H1 : Heap, H1[a]? = some ((arrV (G.2.2.2.2.1 t) (oh_N h a) (oh_elt h a)).setSlot i.toNatClampNeg (va_rf x)) → H1.size = H.size → (∀ q : Nat, q ≠ a → H1[q]? = H[q]?) → oh_W G H1 (locs ++ [⟨a, i.toNatClampNeg⟩]) cells slots (F0 G.2.1.1 (pc + 1) ls (st.map oh_v)) := by
        intro H1 e z oq
        refine kk _ X hX hT H1 _ ls (oh_elt_put hR (t := t) q.1.1 e z oq rfl rfl rfl rfl rfl rfl (fun _ _ _ => rfl) (fun _ _ _ => rfl) (fun b j z => oh_u2_ne1 z) (fun j => ?_)) (hS.put z oq (hA a (Or.inl (by omega)))) hl (fun b z => hA b (oh_A_same rfl rfl b z))
        have e0 : oh_K (oh_sR h a i.toNatClampNeg x) a = 20 + t := q.1.1
        have n1 : ¬ 20 + t = 21 := by omega
        have n2 : ¬ 20 + t < 23 := by omega
        simp only [oh_elt, e0, q.1.1, n1, n2, if_false]
        show va_rf (oh_u2 _ _ _ _ _ _) = _
        by_cases w : j = i.toNatClampNeg
        · rw [w, oh_u2_eq, if_pos rfl]
        · rw [if_neg w, oh_u2_ne w]
      cases x with
      | none => exact va_WaastN (C := Cn) C.1 C.2.1 (oh_arr (t := t) hR q.1.1) (hty.1 _ _) (fun z => by cases z) (by show ¬ (i < 0 ∨ (arrV _ _ _).slots.size ≤ _); rw [arrV_size]; exact hin) rfl rfl d fin
      | some v =>
        obtain ⟨cellV, g1, g2, g3, -⟩ := oh_fld hR (q.2 v rfl) hci hc
        have hcls := (C.2.2.2.2.2.1.1.1 ci _ hc).2
        obtain ⟨kA, comp, k1, k2, k3, -⟩ := hty.2
        have hcomp : comp = G.2.2.2.1.1 ci := Option.some.inj (k3.symm.trans hcls.1)
        subst hcomp
        obtain ⟨kC, hkC, -⟩ := hcls.2
        exact W.aast C.1 C.2.1 (oh_arr (t := t) hR q.1.1) (fun q h => by cases h) (fun h => by cases h) k1 k2 rfl hkC ⟨h0, by show _ < (arrV _ _ _).slots.size; rw [arrV_size]; exact hlt⟩ g1 (fun q h => by rw [g3] at h; cases h) (by rw [g2]; exact hkC) (by rw [g2]; exact va_assign hcls) rfl rfl d fin
    · rw [show oh_tR h (some a) (20 + t) ci i x = none by simp only [oh_tR, Option.bind_some]; exact if_neg q]; exact oj_none
/-! makings: the new cell's address is the heap's size -/
theorem oh_R.push {D : va_G} {dA : Nat → ClassId} {h1 : oh_H} {H H1 : Heap} (hR : oh_R D dA h H) (hz : H1.size = H.size + 1) (oq : ∀ q : Nat, q < H.size → H1[q]? = H[q]?) (es : oh_sz h1 = oh_sz h + 1) (eK : ∀ b, b ≠ oh_sz h → oh_K h1 b = oh_K h b) (eN : ∀ b, b ≠ oh_sz h → oh_N h1 b = oh_N h b) (eI : ∀ c b, b ≠ oh_sz h → oh_FI h1 c b = oh_FI h c b) (eL : ∀ c b, b ≠ oh_sz h → oh_FL h1 c b = oh_FL h c b) (eR : ∀ c b, b ≠ oh_sz h → oh_FR h1 c b = oh_FR h c b) (eAI : ∀ b j, b ≠ oh_sz h → oh_AI h1 b j = oh_AI h b j) (eAL : ∀ b j, b ≠ oh_sz h → oh_AL h1 b j = oh_AL h b j) (eAR : ∀ b j, b ≠ oh_sz h → oh_AR h1 b j = oh_AR h b j) (ha : oh_at D dA h1 H1 (oh_sz h)) : oh_R D dA h1 H1 := by
  refine ⟨by rw [hz, es, hR.1], fun b hb => ?_⟩
  by_cases q : b = oh_sz h
  · subst q; exact ha
  · rw [eK b q] at hb
    have hlt := oh_lt_of hR hb
    exact (hR.2 b hb).kept (oq b (by rw [hR.1]; exact hlt)) (eK b q) (fun c => eI c b q) (fun c => eL c b q) (fun c => eR c b q) (eN b q) (fun j => eAI b j q) (fun j => eAL b j q) (fun j => eAR b j q)
theorem va_S.push {A : Nat → Prop} {H0 H H1 : Heap} {locs : List Loc} (hS : va_S A H0 H locs) (z1 : H1.size = H.size + 1) (o1 : ∀ q : Nat, q < H.size → H1[q]? = H[q]?) : va_S A H0 H1 locs := ⟨Nat.le_trans hS.1 (by omega), fun x h1 h2 => (o1 x (Nat.lt_of_lt_of_le h1 hS.1)).trans (hS.2.1 x h1 h2), hS.2.2⟩
def oh_new (h : oh_H) (kd : Nat) {α : Type} (K : Nat → oh_H → α) : α := K (oh_sz h) (oh_nO h kd)
def oh_newa (h : oh_H) (kd n : Nat) {α : Type} (K : Nat → oh_H → α) : α := K (oh_sz h) (oh_nA h kd n)
theorem oh_A_new {h h1 : oh_H} (es : oh_sz h1 = oh_sz h + 1) (eK : ∀ b, b ≠ oh_sz h → oh_K h1 b = oh_K h b) (q : Nat) (z : oh_A h1 q) : oh_A h q := by
  unfold oh_A at z ⊢
  by_cases w : q = oh_sz h
  · exact Or.inr (by omega)
  · rw [eK q w] at z
    rcases z with z | z
    · exact Or.inl z
    · exact Or.inr (by omega)
theorem oh_u1_ne {α : Type} {f : Nat → α} {a b : Nat} {v : α} (h : b ≠ a) : oh_u1 f a v b = f b := if_neg h
theorem oh_u1_eq {α : Type} {f : Nat → α} {a : Nat} {v : α} : oh_u1 f a v a = v := if_pos rfl
theorem oh_z2_ne {α : Type} {f : Nat → Nat → α} {a c b : Nat} {v : α} (h : b ≠ a) : oh_z2 f a v c b = f c b := if_neg h
theorem oh_z2_eq {α : Type} {f : Nat → Nat → α} {a c : Nat} {v : α} : oh_z2 f a v c a = v := if_pos rfl
theorem oh_z1_ne {α : Type} {f : Nat → Nat → α} {a b j : Nat} {v : α} (h : b ≠ a) : oh_z1 f a v b j = f b j := if_neg h
theorem oh_z1_eq {α : Type} {f : Nat → Nat → α} {a j : Nat} {v : α} : oh_z1 f a v a j = v := if_pos rfl
theorem or_new (C : oh_C G cc Ts own R0 nL) (ci : Nat) {Cn : String} {TT : u_T} {N index kd : Nat} (hkd : kd = ci + 1) (hc : vwCl[ci]? = some (Cn, TT, N)) (hci : ci < 19) (hin : ∀ w ∈ u_ws Cn TT N, w ∈ Ts) (ty0 : Nat → FieldType) (hty : ∀ k, k < N → parseFieldDescriptor (TT k).2.2.1 = some (ty0 k)) (hcl : Cond.classLink own index Cn ∈ Ts) (hinst : Cond.instantiable Cn N ∈ Ts) (hini : Cond.initialized Cn ∈ Ts)
    (hdf : ∀ j, j < N → defaultValue (ty0 j) = oh_v (if oh_tag (64 * ci + j) = 0 then xi 0 else if oh_tag (64 * ci + j) = 1 then xl 0 else xr none)) (hf : cells + 1 ≤ R0.cells ∧ slots + N ≤ R0.slots) (d : decode cc pc = .ok (.new index, 3)) {K : Nat → oh_H → Option X}
    (kk : ∀ a h1, oh_J T (K a h1) (oh_V G (cells + 1) (slots + N) h1 (pc + 3) lv (xr (some a) :: st))) : oh_J T (oh_new h kd K) (oh_V G cells slots h pc lv st) := by
  subst hkd
  refine fun X hX hT H locs ls hR hS hl hA => ?_
  have hts := C.2.2.2.2.1
  have hKn := C.2.2.2.2.2.1.1.1 ci _ hc
  refine W.newcK C.1 C.2.1 C.2.2.2.1 (hts _ hcl) (hts _ hinst) (hts _ hini) rfl d (by rw [C.2.2.2.2.2.2.1]; exact hf.1) (by rw [C.2.2.2.2.2.2.1]; exact hf.2) hKn.2.1 hR.1 fun H1 kC hkC e1 z1 o1 => ?_
  have z1' : H1.size = H.size + 1 := by rw [z1, hR.1]
  have o1' : ∀ q : Nat, q < H.size → H1[q]? = H[q]? := fun q hq => o1 q (by rw [← hR.1]; exact hq)
  refine kk (oh_sz h) (oh_nO h (ci + 1)) X hX hT H1 locs ls (hR.push z1' o1' rfl (fun b z => oh_u1_ne z) (fun _ _ => rfl) (fun c b z => oh_z2_ne z) (fun c b z => oh_z2_ne z) (fun c b z => oh_z2_ne z) (fun _ _ _ => rfl) (fun _ _ _ => rfl) (fun _ _ _ => rfl) ?_) (hS.push z1' o1') hl (fun q z => hA q (oh_A_new (h1 := oh_nO h (ci + 1)) rfl (fun b z => oh_u1_ne z) q z))
  have e0 : oh_K (oh_nO h (ci + 1)) (oh_sz h) = ci + 1 := oh_u1_eq
  refine ⟨fun _ => ?_, fun z => absurd z (by rw [e0]; omega)⟩
  rw [e0, Nat.add_sub_cancel]
  refine ⟨_, hc, (u_born ty0 hts hin hKn hkC e1 hty).to (fun j hj => ?_)⟩
  rw [hdf j hj]
  simp only [oh_val]
  rw [show oh_FI (oh_nO h (ci + 1)) (64 * ci + j) (oh_sz h) = 0 from oh_z2_eq, show oh_FL (oh_nO h (ci + 1)) (64 * ci + j) (oh_sz h) = 0 from oh_z2_eq, show oh_FR (oh_nO h (ci + 1)) (64 * ci + j) (oh_sz h) = none from oh_z2_eq]
  by_cases w : oh_tag (64 * ci + j) = 0
  · rw [if_pos w, if_pos w]; rfl
  · rw [if_neg w, if_neg w]
    by_cases w1 : oh_tag (64 * ci + j) = 1
    · rw [if_pos w1, if_pos w1]; rfl
    · rw [if_neg w1, if_neg w1]; rfl
/-- an array made: of numbers -/
theorem or_newa (C : oh_C G cc Ts own R0 nL) (t : Nat) {atype : ArrayType} {ty : FieldType} (hty : newarray.typeOf atype = ty) (ht : ∀ dA : Nat → ClassId, (oh_tys dA)[t]? = some (dA t, ty)) (h3 : t < 3) (harr : Cond.arrayClass ty ∈ Ts) (hra : ∀ (U : State) (cA : ClassId), va_RA U cA ty → U.vm.findClass ("[" ++ ty.toString) = some cA) (hdv : defaultValue ty = if t = 1 then .long 0 else .int 0) {kd N : Nat} {n : Int32} (hkd : kd = 20 + t) (hn : ¬ n < 0) (hN : n.toNatClampNeg = N) (hbytes : N * componentBytes ty ≤ 536870912) (hf : cells + 1 ≤ R0.cells ∧ slots + N ≤ R0.slots) (d : decode cc pc = .ok (.newarray atype, 2)) {K : Nat → oh_H → Option X}
    (kk : ∀ a h1, oh_J T (K a h1) (oh_V G (cells + 1) (slots + N) h1 (pc + 2) lv (xr (some a) :: st))) : oh_J T (oh_newa h kd N K) (oh_V G cells slots h pc lv (xi n :: st)) := by
  subst hkd
  subst hty
  refine fun X hX hT H locs ls hR hS hl hA => ?_
  have hts := C.2.2.2.2.1
  refine va_newaK C.1 C.2.1 (hts _ harr) rfl d rfl hn hN hbytes (by rw [C.2.2.2.2.2.2.1]; exact hf.1) (by rw [C.2.2.2.2.2.2.1]; exact hf.2) hR.1 fun H1 cA e1 z1 o1 hAr hNm => ?_
  have hcA : cA = G.2.2.2.2.1 t := Option.some.inj (hNm.symm.trans (hra _ _ (C.2.2.2.2.2.1.1.2 t _ (ht _)).2))
  subst hcA
  have z1' : H1.size = H.size + 1 := by rw [z1, hR.1]
  have o1' : ∀ q : Nat, q < H.size → H1[q]? = H[q]? := fun q hq => o1 q (by rw [← hR.1]; exact hq)
  refine kk (oh_sz h) (oh_nA h (20 + t) N) X hX hT H1 locs ls (hR.push z1' o1' rfl (fun b z => oh_u1_ne z) (fun b z => oh_u1_ne z) (fun _ _ _ => rfl) (fun _ _ _ => rfl) (fun _ _ _ => rfl) (fun b j z => oh_z1_ne z) (fun b j z => oh_z1_ne z) (fun b j z => oh_z1_ne z) ?_) (hS.push z1' o1') hl (fun q z => hA q (oh_A_new (h1 := oh_nA h (20 + t) N) rfl (fun b z => oh_u1_ne z) q z))
  have e0 : oh_K (oh_nA h (20 + t) N) (oh_sz h) = 20 + t := oh_u1_eq
  refine ⟨fun z => absurd z (by rw [e0]; omega), fun _ => ?_⟩
  rw [e0, Nat.add_sub_cancel_left, show oh_N (oh_nA h (20 + t) N) (oh_sz h) = N from oh_u1_eq, e1]
  congr 2
  funext j
  rw [hdv]
  simp only [oh_elt, e0]
  rw [show oh_AI (oh_nA h (20 + t) N) (oh_sz h) j = 0 from oh_z1_eq, show oh_AL (oh_nA h (20 + t) N) (oh_sz h) j = 0 from oh_z1_eq]
  by_cases w : t = 1
  · subst w; rfl
  · rw [if_neg w, if_neg (by omega), if_pos (by omega)]
/-- an array made: of references -/
theorem or_anewa (C : oh_C G cc Ts own R0 nL) (t : Nat) {Cn : String} {index : Nat} (ht : ∀ dA : Nat → ClassId, (oh_tys dA)[t]? = some (dA t, .object Cn)) (h3 : 3 ≤ t) (hao : Cn ∈ ["OilPress$Grove", "OilPress$Lot", "OilPress$Mill", "OilPress$Vat"]) (hcl : Cond.classLink own index Cn ∈ Ts) {kd N : Nat} {n : Int32} (hkd : kd = 20 + t) (hn : ¬ n < 0) (hN : n.toNatClampNeg = N) (hbytes : N * 4 ≤ 536870912) (hf : cells + 1 ≤ R0.cells ∧ slots + N ≤ R0.slots) (d : decode cc pc = .ok (.anewarray index, 3)) {K : Nat → oh_H → Option X}
    (kk : ∀ a h1, oh_J T (K a h1) (oh_V G (cells + 1) (slots + N) h1 (pc + 3) lv (xr (some a) :: st))) : oh_J T (oh_newa h kd N K) (oh_V G cells slots h pc lv (xi n :: st)) := by
  subst hkd
  subst hN
  refine fun X hX hT H locs ls hR hS hl hA => ?_
  have hts := C.2.2.2.2.1
  refine W.anew C.1 C.2.1 C.2.2.2.1 (hts _ hcl) (va_AO.use (C.2.2.2.2.2.1.2.2 Cn hao)) rfl d rfl hn hbytes (by rw [C.2.2.2.2.2.2.1]; exact hf.1) (by rw [C.2.2.2.2.2.2.1]; exact hf.2) fun cA kA comp f1 f2 f3 f4 => ?_
  obtain ⟨kA', comp', k1, k2, k3, k4⟩ := (C.2.2.2.2.2.1.1.2 t _ (ht _)).2
  have hcA : cA = G.2.2.2.2.1 t := Option.some.inj (f1.symm.trans k4)
  subst hcA
  generalize hH1 : H.push ({ cls := G.2.2.2.2.1 t, slots := Array.replicate n.toNatClampNeg .null, vm := .none } : Cell) = H1
  have z1 : H1.size = H.size + 1 := by rw [← hH1, Array.size_push]
  have e1 : H1[H.size]? = some (arrV (G.2.2.2.2.1 t) n.toNatClampNeg (fun _ => .null)) := by rw [← hH1, Array.getElem?_push_size, ← arrV_new]
  have o1 : ∀ q : Nat, q < H.size → H1[q]? = H[q]? := fun q hq => by rw [← hH1, Array.getElem?_push, if_neg (Nat.ne_of_lt hq)]
  rw [hR.1] at e1
  have key := kk (oh_sz h) (oh_nA h (20 + t) n.toNatClampNeg) X hX hT H1 locs ls (hR.push z1 o1 rfl (fun b z => oh_u1_ne z) (fun b z => oh_u1_ne z) (fun _ _ _ => rfl) (fun _ _ _ => rfl) (fun _ _ _ => rfl) (fun b j z => oh_z1_ne z) (fun b j z => oh_z1_ne z) (fun b j z => oh_z1_ne z) (by
    have e0 : oh_K (oh_nA h (20 + t) n.toNatClampNeg) (oh_sz h) = 20 + t := oh_u1_eq
    refine ⟨fun z => absurd z (by rw [e0]; omega), fun _ => ?_⟩
    rw [e0, Nat.add_sub_cancel_left, show oh_N (oh_nA h (20 + t) n.toNatClampNeg) (oh_sz h) = n.toNatClampNeg from oh_u1_eq, e1]
    congr 2
    funext j
    simp only [oh_elt, e0]
    rw [show oh_AR (oh_nA h (20 + t) n.toNatClampNeg) (oh_sz h) j = none from oh_z1_eq, if_neg (by omega), if_neg (by omega)]
    rfl)) (hS.push z1 o1) hl (fun q z => hA q (oh_A_new (h1 := oh_nA h (20 + t) n.toNatClampNeg) rfl (fun b z => oh_u1_ne z) q z))
  show oh_W G H1 locs (cells + 1) (slots + n.toNatClampNeg) (F0 G.2.1.1 (pc + 3) ls (Value.ref H.size :: st.map oh_v))
  rw [hR.1]
  exact key
/-- the constructor of Object -/
theorem or_objinit (C : oh_C G cc Ts own R0 nL) {idx a : Nat} (h1 : Cond.methodLink own idx Lib.objectInit ∈ Ts) (h2 : Cond.instanceMethod Lib.objectInit ∈ Ts) (h3 : Cond.code Lib.objectInit ⟨#[0xb1]⟩ 1 none ∈ Ts) (hf : 1 ≤ R0.frames) (hc : (st.map fun x => if oh_isL x then 2 else 1).sum + 12 ≤ R0.locals) (d : decode cc pc = .ok (.invokespecial idx, 3)) (k : oh_J T e (oh_V G cells slots h (pc + 3) lv st)) : oh_J T e (oh_V G cells slots h pc lv (xr (some a) :: st)) :=
  or_lift k (fun H locs ls hl w => W.objInit C.1 C.2.1 C.2.2.2.1 (C.2.2.2.2.1 _ h1) (C.2.2.2.2.1 _ h2) (C.2.2.2.2.1 _ h3) rfl (hl.1.trans C.2.2.1.symm) (a := a) (rest := st.map oh_v) rfl d (by rw [C.2.2.2.2.2.2.1]; exact hf) (by
    rw [C.2.2.2.2.2.2.1]
    show 2 * 0 + _ + 12 ≤ _
    rw [List.map_map, show ((fun v : Value => v.category) ∘ oh_v) = (fun x => if oh_isL x then 2 else 1) from funext oh_cat]
    omega) w)
/-! calls -/
def oh_Q (D : va_G) (dA : Nat → ClassId) (h : oh_H) (rv : Option Value) (h' : oh_H) : Array Value → State → Outcome → State → Prop := fun _ st oc t => oc = .returned rv ∧ oh_R D dA h' t.heap ∧ (∀ q, oh_A h' q → oh_A h q) ∧ va_F (oh_A h) st t
/-- a method's contract: at these arguments, over this pure heap, it answers rv and leaves h' -/
def oh_M (l : Launch) (y : MethodName) (ws : List Cond) (rm : Room) (mc ms : Nat) (As : List oh_X) (h : oh_H) (rv : Option oh_X) (h' : oh_H) : Prop := ∀ (D : va_G) (dA : Nat → ClassId), Met l y ws rm (va_Pc (As.map oh_v) (fun U => oh_R D dA h U.heap ∧ oh_KK D dA U)) (oh_Q D dA h (rv.map oh_v) h') mc ms (oh_A h)
theorem oh_blind {As : List Value} {D : va_G} {dA : Nat → ClassId} {h : oh_H} : FrameBlind (va_Pc As (fun U => oh_R D dA h U.heap ∧ oh_KK D dA U)) := fun _ U g mk q => ⟨q.1, q.2.1, oh_KK.same (U := U.calling g mk _) rfl q.2.2⟩
/-- what a call that is run gives -/
theorem or_run {l : Launch} (hl0 : G.1.2.1 = l) {As : List oh_X} {rv : Option oh_X} {h' : oh_H} {mc ms : Nat} {stk : List oh_X} {a : Array Value}
    (hr : ∀ (H : Heap) (locs : List Loc) (ls : Array Slot), oh_R G.2.2.2.1 G.2.2.2.2.1 h H → lv_has ls G.2.2.2.2.2.2 (oh_ml lv) → va_Run G.1.1 G.1.2.1 G.1.2.2.1 G.1.2.2.2.1 G.1.2.2.2.2 G.2.1.1 G.2.1.2.1 G.2.1.2.2.1 G.2.1.2.2.2.1 G.2.1.2.2.2.2 H locs cells slots mc ms (F0 G.2.1.1 pc ls (stk.map oh_v)) (st.map oh_v) (oh_Q G.2.2.2.1 G.2.2.2.2.1 h (rv.map oh_v) h' a) (oh_A h))
    (k : oh_V G (cells + mc) (slots + ms) h' (pc + 3) lv (rv.toList ++ st)) : oh_V G cells slots h pc lv stk := by
  intro H locs ls hR hS hl hA T hT X
  obtain ⟨v, st₀, t, T', L, h0, X', hL, e1, e2, ⟨hv, hR', hA', hz, hk⟩, stp⟩ := hr H locs ls hR hl T hT X
  cases hv
  rw [h0] at hz hk
  have hS' : va_S G.2.2.2.2.2.1 G.1.2.2.2.2.heap T'.heap (locs ++ L) := by
    refine ⟨Nat.le_trans hS.1 (by rw [e1]; exact hz), fun q h1 h2 => by rw [e1, hk q (Nat.lt_of_lt_of_le h1 hS.1) (fun z => h2 (hA q z))]; exact hS.2.1 q h1 h2, fun q hq => ?_⟩
    rcases List.mem_append.mp hq with z | z
    · exact hS.2.2 q z
    · exact hA _ (hL q z)
  obtain ⟨t2, a1, b1⟩ := k T'.heap (locs ++ L) ls (by rw [e1]; exact hR') hS' hl (fun q z => hA q (hA' q z)) T' rfl X'
  refine ⟨t2, stp t2 ?_, b1⟩
  have e3 : (rv.map oh_v).toList ++ st.map oh_v = (rv.toList ++ st).map oh_v := by cases rv <;> rfl
  rw [e3]
  exact a1
theorem oh_fits (C : oh_C G cc Ts own R0 nL) {rm : Room} {maxL : Nat} (hR : rm.frames + 1 ≤ R0.frames ∧ 8 + (maxL + 11) + rm.locals ≤ R0.locals) : rm.frames + 1 ≤ G.1.2.2.2.1.frames ∧ 8 + (maxL + 11) + rm.locals ≤ G.1.2.2.2.1.locals := by rw [C.2.2.2.2.2.2.1]; exact hR
theorem oh_cats (h8 : (st.map fun x => if oh_isL x then 2 else 1).sum ≤ 8) : 2 * 0 + ((st.map oh_v).map fun v => v.category).sum ≤ 8 := by
  rw [List.map_map, show ((fun v : Value => v.category) ∘ oh_v) = (fun x => if oh_isL x then 2 else 1) from funext oh_cat]
  omega
theorem or_callV (C : oh_C G cc Ts own R0 nL) (n : Nat) {l : Launch} (hl0 : G.1.2.1 = l) {y : MethodName} {ws ws' : List Cond} {rm : Room} {mc ms maxL index ci N o : Nat} {bytes : ByteArray} {ret : Option FieldType} {Cn : String} {TT : u_T} {As : List oh_X} {rv : Option oh_X} {h' : oh_H} {stk : List oh_X}
    (hM : oh_M l y ws rm mc ms (xr (some o) :: As) h rv h') (hG : GoodIn Ts (wsV own index Cn y ws)) (hw : ws = Cond.code y bytes maxL ret :: ws') (hrc : rm.cells = mc) (hrs : rm.slots = ms)
    (hd : y.cls = Cn ∧ y.cls ≠ "java/lang/invoke/MethodHandle" ∧ y.cls ≠ "java/lang/invoke/VarHandle" ∧ (parseMethodDescriptor y.desc).map (fun d => d.parameters.length) = some n) (hRm : rm.frames + 1 ≤ R0.frames ∧ 8 + (maxL + 11) + rm.locals ≤ R0.locals)
    (hk : oh_K h o = ci + 1) (hc : vwCl[ci]? = some (Cn, TT, N)) (hci : ci < 19) (h8 : (st.map fun x => if oh_isL x then 2 else 1).sum ≤ 8) (d : decode cc pc = .ok (.invokevirtual index, 3)) (hf : cells + mc ≤ R0.cells ∧ slots + ms ≤ R0.slots) (hAn : As.length = n) (hstk : stk.map oh_v = (As.map oh_v).reverse ++ .ref o :: st.map oh_v)
    (k : oh_V G (cells + mc) (slots + ms) h' (pc + 3) lv (rv.toList ++ st)) : oh_V G cells slots h pc lv stk := by
  subst hl0
  subst hAn
  refine or_run rfl (As := As) (rv := rv) (h' := h') (mc := mc) (ms := ms) (a := (Value.ref o :: As.map oh_v).toArray) (fun H locs ls hR hl => ?_) k
  obtain ⟨cell, g1, g2, g3, -⟩ := oh_fld hR hk hci hc
  exact va_runV (S := ⟨C.1, C.2.1, C.2.2.1, C.2.2.2.1, C.2.2.2.2.1⟩) (hM G.2.2.2.1 G.2.2.2.2.1) (cwV As.length C.2.2.2.2.1 hG hw hrc hrs hd (oh_fits C hRm)) ⟨oh_blind, ⟨cell, g1, by rw [g3]; rfl, by rw [g2]; exact (C.2.2.2.2.2.1.1.1 ci _ hc).2.1⟩, fun U hU hW => ⟨rfl, by rw [hU]; exact hR, oh_KK.warm hW C.2.2.2.2.2.1⟩⟩ rfl (by simp) hl.1 hstk (oh_cats h8) d (by rw [C.2.2.2.2.2.2.1]; exact hf)
theorem or_callS (C : oh_C G cc Ts own R0 nL) (n : Nat) {l : Launch} (hl0 : G.1.2.1 = l) {y : MethodName} {ws ws' : List Cond} {rm : Room} {mc ms maxL index : Nat} {bytes : ByteArray} {ret : Option FieldType} {As : List oh_X} {rv : Option oh_X} {h' : oh_H} {stk : List oh_X}
    (hM : oh_M l y ws rm mc ms As h rv h') (hG : GoodIn Ts (va_wsS own index y ws)) (hw : ws = Cond.code y bytes maxL ret :: ws') (hrc : rm.cells = mc) (hrs : rm.slots = ms)
    (hd : y.cls ≠ "java/lang/invoke/MethodHandle" ∧ y.cls ≠ "java/lang/invoke/VarHandle" ∧ (parseMethodDescriptor y.desc).map (fun d => d.parameters.length) = some n) (hRm : rm.frames + 1 ≤ R0.frames ∧ 8 + (maxL + 11) + rm.locals ≤ R0.locals)
    (h8 : (st.map fun x => if oh_isL x then 2 else 1).sum ≤ 8) (d : decode cc pc = .ok (.invokestatic index, 3)) (hf : cells + mc ≤ R0.cells ∧ slots + ms ≤ R0.slots) (hAn : As.length = n) (hstk : stk.map oh_v = (As.map oh_v).reverse ++ st.map oh_v)
    (k : oh_V G (cells + mc) (slots + ms) h' (pc + 3) lv (rv.toList ++ st)) : oh_V G cells slots h pc lv stk := by
  subst hl0
  subst hAn
  exact or_run rfl (As := As) (rv := rv) (h' := h') (mc := mc) (ms := ms) (a := (As.map oh_v).toArray) (fun H locs ls hR hl => va_runS (S := ⟨C.1, C.2.1, C.2.2.1, C.2.2.2.1, C.2.2.2.2.1⟩) (hM G.2.2.2.1 G.2.2.2.2.1) (va_cwS As.length C.2.2.2.2.1 hG hw hrc hrs hd (oh_fits C hRm)) ⟨oh_blind, fun U hU hW => ⟨rfl, by rw [hU]; exact hR, oh_KK.warm hW C.2.2.2.2.2.1⟩⟩ rfl (by simp) hl.1 hstk (oh_cats h8) d (by rw [C.2.2.2.2.2.2.1]; exact hf)) k
theorem or_callI (C : oh_C G cc Ts own R0 nL) (n : Nat) {l : Launch} (hl0 : G.1.2.1 = l) {y : MethodName} {ws ws' : List Cond} {rm : Room} {mc ms maxL index o : Nat} {bytes : ByteArray} {As : List oh_X} {rv : Option oh_X} {h' : oh_H} {stk : List oh_X}
    (hM : oh_M l y ws rm mc ms (xr (some o) :: As) h rv h') (hG : GoodIn Ts ws) (hw : ws = Cond.code y bytes maxL none :: ws') (hrc : rm.cells = mc) (hrs : rm.slots = ms) (hini : Cond.initialized y.cls ∈ Ts) (hli : Cond.methodLink own index y ∈ Ts) (him : Cond.instanceMethod y ∈ Ts) (hy1 : y.name = "<init>")
    (hd : y.cls ≠ "java/lang/invoke/MethodHandle" ∧ y.cls ≠ "java/lang/invoke/VarHandle" ∧ (parseMethodDescriptor y.desc).map (fun d => d.parameters.length) = some n) (hRm : rm.frames + 1 ≤ R0.frames ∧ 8 + (maxL + 11) + rm.locals ≤ R0.locals)
    (h8 : (st.map fun x => if oh_isL x then 2 else 1).sum ≤ 8) (d : decode cc pc = .ok (.invokespecial index, 3)) (hf : cells + mc ≤ R0.cells ∧ slots + ms ≤ R0.slots) (hAn : As.length = n) (hstk : stk.map oh_v = (As.map oh_v).reverse ++ .ref o :: st.map oh_v)
    (k : oh_V G (cells + mc) (slots + ms) h' (pc + 3) lv (rv.toList ++ st)) : oh_V G cells slots h pc lv stk := by
  subst hl0
  subst hAn
  exact or_run rfl (As := As) (rv := rv) (h' := h') (mc := mc) (ms := ms) (a := (Value.ref o :: As.map oh_v).toArray) (fun H locs ls hR hl => va_runI (S := ⟨C.1, C.2.1, C.2.2.1, C.2.2.2.1, C.2.2.2.2.1⟩) (hM G.2.2.2.1 G.2.2.2.2.1) (cwI As.length C.2.2.2.2.1 hG hw hrc hrs (C.2.2.2.2.1 _ hini) (C.2.2.2.2.1 _ hli) (C.2.2.2.2.1 _ him) hy1 hd (oh_fits C hRm)) ⟨oh_blind, fun U hU hW => ⟨rfl, by rw [hU]; exact hR, oh_KK.warm hW C.2.2.2.2.2.1⟩⟩ rfl (by simp) hl.1 hstk (oh_cats h8) d (by rw [C.2.2.2.2.2.2.1]; exact hf)) k
theorem or_callSN (C : oh_C G cc Ts own R0 nL) (n : Nat) {l : Launch} (hl0 : G.1.2.1 = l) {y : MethodName} {ws ws' : List Cond} {rm : Room} {mc ms maxL index : Nat} {bytes : ByteArray} {ret : Option FieldType} {As : List oh_X} {rv : Option oh_X} {h' : oh_H} {stk : List oh_X}
    (hM : oh_M l y ws rm mc ms As h rv h') (hG : GoodIn Ts ws) (hw : ws = Cond.code y bytes maxL ret :: ws') (hrc : rm.cells = mc) (hrs : rm.slots = ms) (hnest : (own, index, y) ∈ oh_nest) (hini : Cond.initialized y.cls ∈ Ts) (hst : Cond.static y ∈ Ts)
    (hd : y.cls ≠ "java/lang/invoke/MethodHandle" ∧ y.cls ≠ "java/lang/invoke/VarHandle" ∧ (parseMethodDescriptor y.desc).map (fun d => d.parameters.length) = some n) (hRm : rm.frames + 1 ≤ R0.frames ∧ 8 + (maxL + 11) + rm.locals ≤ R0.locals)
    (h8 : (st.map fun x => if oh_isL x then 2 else 1).sum ≤ 8) (d : decode cc pc = .ok (.invokestatic index, 3)) (hf : cells + mc ≤ R0.cells ∧ slots + ms ≤ R0.slots) (hAn : As.length = n) (hstk : stk.map oh_v = (As.map oh_v).reverse ++ st.map oh_v)
    (k : oh_V G (cells + mc) (slots + ms) h' (pc + 3) lv (rv.toList ++ st)) : oh_V G cells slots h pc lv stk := by
  subst hl0
  subst hAn
  exact or_run rfl (As := As) (rv := rv) (h' := h') (mc := mc) (ms := ms) (a := (As.map oh_v).toArray) (fun H locs ls hR hl => va_runSN (S := ⟨C.1, C.2.1, C.2.2.1, C.2.2.2.1, C.2.2.2.2.1⟩) (hM G.2.2.2.1 G.2.2.2.2.1) ⟨va_cnB As.length C.2.2.2.2.1 hG hw hrc hrs (C.2.2.2.2.2.1.2.1 _ hnest) (C.2.2.2.2.1 _ hini) hd (oh_fits C hRm), C.2.2.2.2.1 _ hst, trivial⟩ ⟨oh_blind, fun U hU hW => ⟨rfl, by rw [hU]; exact hR, oh_KK.warm hW C.2.2.2.2.2.1⟩⟩ rfl (by simp) hl.1 hstk (oh_cats h8) d (by rw [C.2.2.2.2.2.2.1]; exact hf)) k
theorem or_callIN (C : oh_C G cc Ts own R0 nL) (n : Nat) {l : Launch} (hl0 : G.1.2.1 = l) {y : MethodName} {ws ws' : List Cond} {rm : Room} {mc ms maxL index o : Nat} {bytes : ByteArray} {As : List oh_X} {rv : Option oh_X} {h' : oh_H} {stk : List oh_X}
    (hM : oh_M l y ws rm mc ms (xr (some o) :: As) h rv h') (hG : GoodIn Ts ws) (hw : ws = Cond.code y bytes maxL none :: ws') (hrc : rm.cells = mc) (hrs : rm.slots = ms) (hnest : (own, index, y) ∈ oh_nest) (hini : Cond.initialized y.cls ∈ Ts) (him : Cond.instanceMethod y ∈ Ts) (hy1 : y.name = "<init>")
    (hd : y.cls ≠ "java/lang/invoke/MethodHandle" ∧ y.cls ≠ "java/lang/invoke/VarHandle" ∧ (parseMethodDescriptor y.desc).map (fun d => d.parameters.length) = some n) (hRm : rm.frames + 1 ≤ R0.frames ∧ 8 + (maxL + 11) + rm.locals ≤ R0.locals)
    (h8 : (st.map fun x => if oh_isL x then 2 else 1).sum ≤ 8) (d : decode cc pc = .ok (.invokespecial index, 3)) (hf : cells + mc ≤ R0.cells ∧ slots + ms ≤ R0.slots) (hAn : As.length = n) (hstk : stk.map oh_v = (As.map oh_v).reverse ++ .ref o :: st.map oh_v)
    (k : oh_V G (cells + mc) (slots + ms) h' (pc + 3) lv (rv.toList ++ st)) : oh_V G cells slots h pc lv stk := by
  subst hl0
  subst hAn
  exact or_run rfl (As := As) (rv := rv) (h' := h') (mc := mc) (ms := ms) (a := (Value.ref o :: As.map oh_v).toArray) (fun H locs ls hR hl => va_runIN (S := ⟨C.1, C.2.1, C.2.2.1, C.2.2.2.1, C.2.2.2.2.1⟩) (hM G.2.2.2.1 G.2.2.2.2.1) ⟨va_cnB As.length C.2.2.2.2.1 hG hw hrc hrs (C.2.2.2.2.2.1.2.1 _ hnest) (C.2.2.2.2.1 _ hini) hd (oh_fits C hRm), hy1, C.2.2.2.2.1 _ him⟩ ⟨oh_blind, fun U hU hW => ⟨rfl, by rw [hU]; exact hR, oh_KK.warm hW C.2.2.2.2.2.1⟩⟩ rfl (by simp) hl.1 hstk (oh_cats h8) d (by rw [C.2.2.2.2.2.2.1]; exact hf)) k
end ROWS
