/-! ROWS, fifth part: Math, ends, loops, entries; calls over programs -/
section ROWS
variable {X : Type} {T : X → Prop} {e e1 e2 : Option X} {G : oh_G} {cc : ByteArray} {Ts : List Cond} {own : String} {R0 : Room} {nL : Nat} {cells slots : Nat} {h : oh_H} {pc : Nat} {lv lv' : oh_Ls} {st st' : List oh_X}
theorem oh_cat3 (h3 : (st.map fun x => if oh_isL x then 2 else 1).sum + 13 ≤ R0.locals) (C : oh_C G cc Ts own R0 nL) : ((st.map oh_v).map fun v => v.category).sum + 13 ≤ G.1.2.2.2.1.locals := by
  rw [C.2.2.2.2.2.2.1, List.map_map, show ((fun v : Value => v.category) ∘ oh_v) = (fun x => if oh_isL x then 2 else 1) from funext oh_cat]
  exact h3
theorem oh_cat5 (h3 : (st.map fun x => if oh_isL x then 2 else 1).sum + 15 ≤ R0.locals) (C : oh_C G cc Ts own R0 nL) : ((st.map oh_v).map fun v => v.category).sum + 15 ≤ G.1.2.2.2.1.locals := by
  rw [C.2.2.2.2.2.2.1, List.map_map, show ((fun v : Value => v.category) ∘ oh_v) = (fun x => if oh_isL x then 2 else 1) from funext oh_cat]
  exact h3
theorem or_mmax (C : oh_C G cc Ts own R0 nL) {index : Nat} (h1 : Cond.methodLink own index Lib.Math.max.name ∈ Ts) (h2 : Cond.static Lib.Math.max.name ∈ Ts) (h3 : Cond.initialized "java/lang/Math" ∈ Ts) (h4 : Cond.code Lib.Math.max.name Lib.Math.max.code 2 (some .int) ∈ Ts) (hf : 1 ≤ R0.frames ∧ cells ≤ R0.cells ∧ slots ≤ R0.slots) (h8 : (st.map fun x => if oh_isL x then 2 else 1).sum + 13 ≤ R0.locals) {x y : Int32} (d : decode cc pc = .ok (.invokestatic index, 3)) (k : oh_J T e (oh_V G cells slots h (pc + 3) lv (xi (if x < y then y else x) :: st))) : oh_J T e (oh_V G cells slots h pc lv (xi y :: xi x :: st)) :=
  or_lift k (fun H locs ls hl w => va_mmax C.1 C.2.1 ((C.2.2.1).trans hl.1.symm) C.2.2.2.1 (C.2.2.2.2.1 _ h1) (C.2.2.2.2.1 _ h2) (C.2.2.2.2.1 _ h3) (C.2.2.2.2.1 _ h4) (by rw [C.2.2.2.2.2.2.1]; exact hf.1) (oh_cat3 h8 C) (by rw [C.2.2.2.2.2.2.1]; exact hf.2.1) (by rw [C.2.2.2.2.2.2.1]; exact hf.2.2) d w)
theorem or_mmin (C : oh_C G cc Ts own R0 nL) {index : Nat} (h1 : Cond.methodLink own index Lib.Math.min.name ∈ Ts) (h2 : Cond.static Lib.Math.min.name ∈ Ts) (h3 : Cond.initialized "java/lang/Math" ∈ Ts) (h4 : Cond.code Lib.Math.min.name Lib.Math.min.code 2 (some .int) ∈ Ts) (hf : 1 ≤ R0.frames ∧ cells ≤ R0.cells ∧ slots ≤ R0.slots) (h8 : (st.map fun x => if oh_isL x then 2 else 1).sum + 13 ≤ R0.locals) {x y : Int32} (d : decode cc pc = .ok (.invokestatic index, 3)) (k : oh_J T e (oh_V G cells slots h (pc + 3) lv (xi (if y < x then y else x) :: st))) : oh_J T e (oh_V G cells slots h pc lv (xi y :: xi x :: st)) :=
  or_lift k (fun H locs ls hl w => va_mmin C.1 C.2.1 ((C.2.2.1).trans hl.1.symm) C.2.2.2.1 (C.2.2.2.2.1 _ h1) (C.2.2.2.2.1 _ h2) (C.2.2.2.2.1 _ h3) (C.2.2.2.2.1 _ h4) (by rw [C.2.2.2.2.2.2.1]; exact hf.1) (oh_cat3 h8 C) (by rw [C.2.2.2.2.2.2.1]; exact hf.2.1) (by rw [C.2.2.2.2.2.2.1]; exact hf.2.2) d w)
theorem or_mabs (C : oh_C G cc Ts own R0 nL) {index : Nat} (h1 : Cond.methodLink own index Lib.Math.abs.name ∈ Ts) (h2 : Cond.static Lib.Math.abs.name ∈ Ts) (h3 : Cond.initialized "java/lang/Math" ∈ Ts) (h4 : Cond.code Lib.Math.abs.name Lib.Math.abs.code 1 (some .int) ∈ Ts) (hf : 1 ≤ R0.frames ∧ cells ≤ R0.cells ∧ slots ≤ R0.slots) (h8 : (st.map fun x => if oh_isL x then 2 else 1).sum + 13 ≤ R0.locals) {x : Int32} (d : decode cc pc = .ok (.invokestatic index, 3)) (k : oh_J T e (oh_V G cells slots h (pc + 3) lv (xi (if 0 ≤ x then x else 0 - x) :: st))) : oh_J T e (oh_V G cells slots h pc lv (xi x :: st)) :=
  or_lift k (fun H locs ls hl w => va_mabs C.1 C.2.1 ((C.2.2.1).trans hl.1.symm) C.2.2.2.1 (C.2.2.2.2.1 _ h1) (C.2.2.2.2.1 _ h2) (C.2.2.2.2.1 _ h3) (C.2.2.2.2.1 _ h4) (by rw [C.2.2.2.2.2.2.1]; exact hf.1) (oh_cat3 h8 C) (by rw [C.2.2.2.2.2.2.1]; exact hf.2.1) (by rw [C.2.2.2.2.2.2.1]; exact hf.2.2) d w)
theorem or_mminL (C : oh_C G cc Ts own R0 nL) {index : Nat} (h1 : Cond.methodLink own index Lib.MathLoose.min_long.x ∈ Ts) (h2 : Cond.static Lib.MathLoose.min_long.x ∈ Ts) (h3 : Cond.initialized "java/lang/Math" ∈ Ts) (h4 : Cond.code Lib.MathLoose.min_long.x Lib.MathLoose.min_long.code 4 (some .long) ∈ Ts) (hf : 1 ≤ R0.frames ∧ cells ≤ R0.cells ∧ slots ≤ R0.slots) (h8 : (st.map fun x => if oh_isL x then 2 else 1).sum + 15 ≤ R0.locals) {x y : Int64} (d : decode cc pc = .ok (.invokestatic index, 3)) (k : oh_J T e (oh_V G cells slots h (pc + 3) lv (xl (if y < x then y else x) :: st))) : oh_J T e (oh_V G cells slots h pc lv (xl y :: xl x :: st)) :=
  or_lift k (fun H locs ls hl w => va_mmin_long C.1 C.2.1 ((C.2.2.1).trans hl.1.symm) C.2.2.2.1 (C.2.2.2.2.1 _ h1) (C.2.2.2.2.1 _ h2) (C.2.2.2.2.1 _ h3) (C.2.2.2.2.1 _ h4) (by rw [C.2.2.2.2.2.2.1]; exact hf.1) (oh_cat5 h8 C) (by rw [C.2.2.2.2.2.2.1]; exact hf.2.1) (by rw [C.2.2.2.2.2.2.1]; exact hf.2.2) d w)
theorem or_mmaxL (C : oh_C G cc Ts own R0 nL) {index : Nat} (h1 : Cond.methodLink own index Lib.MathLoose.max_long.x ∈ Ts) (h2 : Cond.static Lib.MathLoose.max_long.x ∈ Ts) (h3 : Cond.initialized "java/lang/Math" ∈ Ts) (h4 : Cond.code Lib.MathLoose.max_long.x Lib.MathLoose.max_long.code 4 (some .long) ∈ Ts) (hf : 1 ≤ R0.frames ∧ cells ≤ R0.cells ∧ slots ≤ R0.slots) (h8 : (st.map fun x => if oh_isL x then 2 else 1).sum + 15 ≤ R0.locals) {x y : Int64} (d : decode cc pc = .ok (.invokestatic index, 3)) (k : oh_J T e (oh_V G cells slots h (pc + 3) lv (xl (if y < x then x else y) :: st))) : oh_J T e (oh_V G cells slots h pc lv (xl y :: xl x :: st)) :=
  or_lift k (fun H locs ls hl w => va_mmax_long C.1 C.2.1 ((C.2.2.1).trans hl.1.symm) C.2.2.2.1 (C.2.2.2.2.1 _ h1) (C.2.2.2.2.1 _ h2) (C.2.2.2.2.1 _ h3) (C.2.2.2.2.1 _ h4) (by rw [C.2.2.2.2.2.2.1]; exact hf.1) (oh_cat5 h8 C) (by rw [C.2.2.2.2.2.2.1]; exact hf.2.1) (by rw [C.2.2.2.2.2.2.1]; exact hf.2.2) d w)
/-! ends -/
def oh_E (G : oh_G) (h0 : oh_H) (rv : Option oh_X) (h' : oh_H) (mc ms : Nat) (rt : Option FieldType) : Prop :=
  G.2.2.1 = MQ G.2.1.2.2.1 (oh_Q G.2.2.2.1 G.2.2.2.2.1 h0 (rv.map oh_v) h') G.2.1.2.1 G.1.2.2.2.2 mc ms (oh_A h0) ∧ G.2.2.2.2.2.1 = oh_A h0 ∧ G.2.1.2.2.2.1.sig.returnType = rt ∧ G.2.1.2.2.2.1.locks = false
theorem oh_Qof {h0 : oh_H} {rv : Option oh_X} {H : Heap} {locs : List Loc} {mc ms : Nat} {rt : Option FieldType} (E : oh_E G h0 rv h mc ms rt) (hR : oh_R G.2.2.2.1 G.2.2.2.2.1 h H) (hS : va_S G.2.2.2.2.2.1 G.1.2.2.2.2.heap H locs) (hA : ∀ q, oh_A h q → G.2.2.2.2.2.1 q) (t : State) (ht : t.heap = H) : oh_Q G.2.2.2.1 G.2.2.2.2.1 h0 (rv.map oh_v) h G.2.1.2.1 G.1.2.2.2.2 (.returned (rv.map oh_v)) t := by
  rw [E.2.1] at hS hA
  exact ⟨rfl, by rw [ht]; exact hR, hA, hS.F ht⟩
theorem oh_end_i {h0 : oh_H} {v : Int32} {mc ms : Nat} (C : oh_C G cc Ts own R0 nL) (E : oh_E G h0 (some (xi v)) h mc ms (some .int)) (hm : cells ≤ mc ∧ slots ≤ ms) (d : decode cc pc = .ok (.ireturn, 1)) : oh_V G cells slots h pc lv [xi v] := by
  intro H locs ls hR hS hl hA
  refine W.widen hm.1 hm.2 ?_
  rw [E.1]
  exact W.iret C.1 C.2.1 E.2.2.1 (fun t ht _ => oh_Qof E hR hS hA t ht) (by rw [← E.2.1]; exact hS.2.2) d E.2.2.2
theorem oh_end_z {h0 : oh_H} {v : Int32} {mc ms : Nat} (C : oh_C G cc Ts own R0 nL) (E : oh_E G h0 (some (xi v)) h mc ms (some .boolean)) (hm : cells ≤ mc ∧ slots ≤ ms) (hv : v = 0 ∨ v = 1) (d : decode cc pc = .ok (.ireturn, 1)) : oh_V G cells slots h pc lv [xi v] := by
  intro H locs ls hR hS hl hA
  refine W.widen hm.1 hm.2 ?_
  rw [E.1]
  exact W.zret C.1 C.2.1 E.2.2.1 (by rcases hv with rfl | rfl <;> rfl) (fun t ht _ => oh_Qof E hR hS hA t ht) (by rw [← E.2.1]; exact hS.2.2) d E.2.2.2
theorem oh_end_l {h0 : oh_H} {v : Int64} {mc ms : Nat} (C : oh_C G cc Ts own R0 nL) (E : oh_E G h0 (some (xl v)) h mc ms (some .long)) (hm : cells ≤ mc ∧ slots ≤ ms) (d : decode cc pc = .ok (.lreturn, 1)) : oh_V G cells slots h pc lv [xl v] := by
  intro H locs ls hR hS hl hA
  refine W.widen hm.1 hm.2 ?_
  rw [E.1]
  exact W.lret C.1 C.2.1 E.2.2.1 (fun t ht _ => oh_Qof E hR hS hA t ht) (by rw [← E.2.1]; exact hS.2.2) d E.2.2.2
theorem oh_end_a {h0 : oh_H} {v : Option Nat} {mc ms : Nat} {Cn : String} (C : oh_C G cc Ts own R0 nL) (E : oh_E G h0 (some (xr v)) h mc ms (some (.object Cn))) (hm : cells ≤ mc ∧ slots ≤ ms) (d : decode cc pc = .ok (.areturn, 1)) : oh_V G cells slots h pc lv [xr v] := by
  intro H locs ls hR hS hl hA
  refine W.widen hm.1 hm.2 ?_
  rw [E.1]
  exact W.aret C.1 C.2.1 E.2.2.1 (Or.inl ⟨Cn, rfl⟩) (va_rf_or v) (fun t ht _ => oh_Qof E hR hS hA t ht) (by rw [← E.2.1]; exact hS.2.2) d E.2.2.2
theorem oh_end_v {h0 : oh_H} {mc ms : Nat} (C : oh_C G cc Ts own R0 nL) (E : oh_E G h0 none h mc ms none) (hm : cells ≤ mc ∧ slots ≤ ms) (d : decode cc pc = .ok (.return_, 1)) : oh_V G cells slots h pc lv [] := by
  intro H locs ls hR hS hl hA
  refine W.widen hm.1 hm.2 ?_
  rw [E.1]
  exact W.vret C.1 C.2.1 E.2.2.1 (fun t ht _ => oh_Qof E hR hS hA t ht) (by rw [← E.2.1]; exact hS.2.2) d E.2.2.2
/-! what a program's end says of the contract's: of one that writes (an answer and a heap; a heap), of one that reads -/
def oh_TW {A : Type} (h0 : oh_H) (vf : A → oh_X) (mc ms : Nat) (rt : Option FieldType) (G : oh_G) : A × oh_H → Prop := fun y => oh_E G h0 (some (vf y.1)) y.2 mc ms rt
def oh_TV (h0 : oh_H) (mc ms : Nat) (rt : Option FieldType) (G : oh_G) : oh_H → Prop := fun y => oh_E G h0 none y mc ms rt
def oh_TR {A : Type} (h0 : oh_H) (vf : A → oh_X) (rt : Option FieldType) (G : oh_G) : A → Prop := fun y => oh_E G h0 (some (vf y)) h0 0 0 rt
theorem or_iret (C : oh_C G cc Ts own R0 nL) {h0 : oh_H} {v : Int32} {mc ms : Nat} (hm : cells ≤ mc ∧ slots ≤ ms) (d : decode cc pc = .ok (.ireturn, 1)) : oh_J (oh_TW h0 xi mc ms (some .int) G) (some (v, h)) (oh_V G cells slots h pc lv [xi v]) := fun x hx hT => by cases hx; exact oh_end_i C hT hm d
theorem or_iretR (C : oh_C G cc Ts own R0 nL) {v : Int32} (d : decode cc pc = .ok (.ireturn, 1)) : oh_J (oh_TR h xi (some .int) G) (some v) (oh_V G 0 0 h pc lv [xi v]) := fun x hx hT => by cases hx; exact oh_end_i C hT ⟨Nat.le_refl 0, Nat.le_refl 0⟩ d
theorem or_zret (C : oh_C G cc Ts own R0 nL) {h0 : oh_H} {v : Int32} {mc ms : Nat} (hm : cells ≤ mc ∧ slots ≤ ms) (d : decode cc pc = .ok (.ireturn, 1)) : oh_J (oh_TW h0 xi mc ms (some .boolean) G) (oh_bz v (some (v, h))) (oh_V G cells slots h pc lv [xi v]) := fun x hx hT => by
  unfold oh_bz at hx
  split at hx
  next q => cases hx; exact oh_end_z C hT hm q d
  next => cases hx
theorem or_zretR (C : oh_C G cc Ts own R0 nL) {v : Int32} (d : decode cc pc = .ok (.ireturn, 1)) : oh_J (oh_TR h xi (some .boolean) G) (oh_bz v (some v)) (oh_V G 0 0 h pc lv [xi v]) := fun x hx hT => by
  unfold oh_bz at hx
  split at hx
  next q => cases hx; exact oh_end_z C hT ⟨Nat.le_refl 0, Nat.le_refl 0⟩ q d
  next => cases hx
theorem or_lret (C : oh_C G cc Ts own R0 nL) {h0 : oh_H} {v : Int64} {mc ms : Nat} (hm : cells ≤ mc ∧ slots ≤ ms) (d : decode cc pc = .ok (.lreturn, 1)) : oh_J (oh_TW h0 xl mc ms (some .long) G) (some (v, h)) (oh_V G cells slots h pc lv [xl v]) := fun x hx hT => by cases hx; exact oh_end_l C hT hm d
theorem or_lretR (C : oh_C G cc Ts own R0 nL) {v : Int64} (d : decode cc pc = .ok (.lreturn, 1)) : oh_J (oh_TR h xl (some .long) G) (some v) (oh_V G 0 0 h pc lv [xl v]) := fun x hx hT => by cases hx; exact oh_end_l C hT ⟨Nat.le_refl 0, Nat.le_refl 0⟩ d
theorem or_aretR (C : oh_C G cc Ts own R0 nL) {v : Option Nat} {Cn : String} (d : decode cc pc = .ok (.areturn, 1)) : oh_J (oh_TR h xr (some (.object Cn)) G) (some v) (oh_V G 0 0 h pc lv [xr v]) := fun x hx hT => by cases hx; exact oh_end_a C hT ⟨Nat.le_refl 0, Nat.le_refl 0⟩ d
theorem or_vret (C : oh_C G cc Ts own R0 nL) {h0 : oh_H} {mc ms : Nat} (hm : cells ≤ mc ∧ slots ≤ ms) (d : decode cc pc = .ok (.return_, 1)) : oh_J (oh_TV h0 mc ms none G) (some h) (oh_V G cells slots h pc lv []) := fun x hx hT => by cases hx; exact oh_end_v C hT hm d
/-! loops -/
def oh_TL {S : Type} (P : S → Prop) (T : X → Prop) : S ⊕ X → Prop
  | .inl s => P s
  | .inr x => T x
theorem oj_loop {S : Type} {body : S → Option (S ⊕ X)} {P : S → Prop} (hb : ∀ s, oh_J (oh_TL P T) (body s) (P s)) : ∀ (n : Nat) (s : S), oh_J T (oh_loop body n s) (P s)
  | 0, s => oj_none
  | n + 1, s => fun x hx hT => by
    unfold oh_loop at hx
    cases hy : body s with
    | none => rw [hy] at hx; cases hx
    | some y =>
      rw [hy] at hx
      cases y with
      | inl s' => exact hb s _ hy (oj_loop hb n s' x hx hT)
      | inr z => cases hx; exact hb s _ hy hT
theorem oj_back {S : Type} {P : S → Prop} {s : S} : oh_J (oh_TL P T) (some (.inl s)) (P s) := fun x hx hT => by cases hx; exact hT
theorem oj_inr {S : Type} {P : S → Prop} {Z : Prop} (k : oh_J T e Z) : oh_J (oh_TL P T) (e.map Sum.inr) Z := fun x hx hT => by
  cases e with
  | none => cases hx
  | some y => cases hx; exact k y rfl hT
/-! entries -/
def oh_args : Nat → List oh_X → oh_Ls
  | _, [] => []
  | i, v :: vs => (i, v) :: oh_args (if oh_isL v then i + 2 else i + 1) vs
theorem oh_args_ml (vs : List oh_X) : ∀ i, lv_args i (vs.map oh_v) = oh_ml (oh_args i vs) := by
  induction vs with
  | nil => exact fun _ => rfl
  | cons v vs ih =>
    intro i
    have e0 : (if (oh_v v).category = 2 then i + 2 else i + 1) = if oh_isL v then i + 2 else i + 1 := by
      rw [oh_cat]
      cases oh_isL v <;> rfl
    show (i, oh_v v) :: lv_args (if (oh_v v).category = 2 then i + 2 else i + 1) (vs.map oh_v) = _
    rw [e0, ih]
    rfl
theorem oh_sl_len (As : List oh_X) : (lg_sl (As.map oh_v)).length = (As.map fun x => if oh_isL x then 2 else 1).sum := by
  induction As with
  | nil => rfl
  | cons v vs ih =>
    have e0 : lg_sl ((v :: vs).map oh_v) = (if (oh_v v).category = 2 then [.val (oh_v v), .second] else [.val (oh_v v)]) ++ lg_sl (vs.map oh_v) := by simp [lg_sl]
    rw [e0, List.length_append, ih, List.map_cons, List.sum_cons, oh_cat]
    cases oh_isL v <;> simp
theorem oh_met {l : Launch} {y : MethodName} {ws ws' : List Cond} {cc : ByteArray} {maxL : Nat} {ret : Option FieldType} {rm : Room} {mc ms : Nat} {As : List oh_X} {h : oh_H} {rv : Option oh_X} {h' : oh_H} (hy : plainName y.cls = true) (hw : ws = Cond.code y cc maxL ret :: ws') (hlen : (As.map fun x => if oh_isL x then 2 else 1).sum ≤ maxL)
    (walk : ∀ G : oh_G, oh_C G cc ws y.cls rm maxL → G.1.2.1 = l → G.2.1.2.2.2.1.name = y.name → oh_E G h rv h' mc ms ret → oh_V G 0 0 h 0 (oh_args 0 As) []) : oh_M l y ws rm mc ms As h rv h' := by
  intro D dA
  refine Met.ofW (cc := cc) (maxL := maxL) (ret := ret) hy hw ?_
  intro p e s m args below meth c s₁ B hml hv
  obtain ⟨rfl, hR, hKK⟩ := hv
  have hts := atoms_spec (ws := ws) B.pre
  have hown : s.vm.findClass y.cls = some m.cls := findClass_of_methodNamed B.named
  have hl := lv_entry (As.map oh_v) (n := maxL) (by rw [oh_sl_len]; exact hlen)
  rw [lg_entry_eq]
  rw [oh_args_ml] at hl
  exact walk ((p, l, e, rm, s), (m, (As.map oh_v).toArray, below, meth, c), (MQ below (oh_Q D dA h (rv.map oh_v) h') (As.map oh_v).toArray s mc ms (oh_A h), D, dA, oh_A h, maxL)) ⟨B.exec, B.bytes, hml, hown, hts, hKK, rfl, rfl⟩ rfl (name_of_methodNamed B.named B.method).1 ⟨rfl, rfl, B.returns, B.notSynchronized⟩ s.heap [] _ hR va_S.rf hl (fun _ z => z)
/-! calls over programs -/
theorem oj_bind {A : Type} {f : Option A} {K : A → Option X} {P : Prop} (k : ∀ a, f = some a → oh_J T (K a) P) : oh_J T (f.bind K) P := fun x hx hT => by
  cases hf : f with
  | none => rw [hf] at hx; cases hx
  | some a => rw [hf] at hx; exact k a hf x hx hT
/-- a receiver: not null, of the kind kd -/
def oh_rc {α : Type} (h : oh_H) (r : Option Nat) (kd : Nat) (K : Nat → Option α) : Option α := r.bind fun a => if oh_K h a = kd then K a else none
theorem oj_rc {r : Option Nat} {kd : Nat} {K : Nat → Option X} {P : Prop} (k : ∀ o, r = some o → oh_K h o = kd → oh_J T (K o) P) : oh_J T (oh_rc h r kd K) P := by
  cases r with
  | none => exact oj_none
  | some a =>
    show oh_J T (if oh_K h a = kd then K a else none) P
    by_cases q : oh_K h a = kd
    · rw [if_pos q]; exact k a rfl q
    · rw [if_neg q]; exact oj_none
theorem oj_rcs {o kd : Nat} {K : Nat → Option X} {P : Prop} (k : oh_K h o = kd → oh_J T (K o) P) : oh_J T (oh_rc h (some o) kd K) P := oj_rc (fun _ e q => by cases e; exact k q)
theorem oj_v {P Q : Prop} (f : P → Q) (k : oh_J T e P) : oh_J T e Q := fun x hx hT => f (k x hx hT)
end ROWS
