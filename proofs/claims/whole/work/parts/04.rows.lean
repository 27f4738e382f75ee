/-! ROWS: a point of the machine over the pure heap (oh_V), a program's rest that goes on there (oh_J), a row an instruction -/
abbrev oh_X : Type := Int32 ⊕ Int64 ⊕ Option Nat
abbrev xi (x : Int32) : oh_X := .inl x
abbrev xl (x : Int64) : oh_X := .inr (.inl x)
abbrev xr (r : Option Nat) : oh_X := .inr (.inr r)
def oh_v : oh_X → Value
  | .inl x => .int x
  | .inr (.inl x) => .long x
  | .inr (.inr r) => va_rf r
def oh_isL : oh_X → Bool
  | .inl _ => false
  | .inr (.inl _) => true
  | .inr (.inr _) => false
theorem oh_rf_cat (r : Option Nat) : (va_rf r).category = 1 := by cases r <;> rfl
theorem oh_cat (x : oh_X) : (oh_v x).category = if oh_isL x then 2 else 1 := by
  rcases x with x | x | r
  · rfl
  · rfl
  · exact oh_rf_cat r
abbrev oh_Ls : Type := List (Nat × oh_X)
def oh_ml (lv : oh_Ls) : List (Nat × Value) := lv.map fun q => (q.1, oh_v q.2)
def oh_s1 (lv : oh_Ls) (i : Nat) (x : oh_X) : oh_Ls := (i, x) :: lv.filter (fun q => !(q.1 == i) && !(q.1 + 1 == i && oh_isL q.2))
def oh_s2 (lv : oh_Ls) (i : Nat) (x : oh_X) : oh_Ls := (i, x) :: lv.filter (fun q => !(q.1 == i) && (!(q.1 == i + 1) && !(q.1 + 1 == i && oh_isL q.2)))
theorem oh_isL_cat (x : oh_X) : ((oh_v x).category == 2) = oh_isL x := by
  rw [oh_cat]
  cases oh_isL x <;> rfl
theorem oh_ml1 (lv : oh_Ls) (i : Nat) (x : oh_X) : (i, oh_v x) :: (oh_ml lv).filter (fun q => !(q.1 == i) && !(q.1 + 1 == i && q.2.category == 2)) = oh_ml (oh_s1 lv i x) := by
  simp only [oh_ml, oh_s1, List.map_cons, List.filter_map]
  congr 2
  apply List.filter_congr
  intro q _
  simp [Function.comp, oh_isL_cat]
theorem oh_ml2 (lv : oh_Ls) (i : Nat) (x : oh_X) : (i, oh_v x) :: (oh_ml lv).filter (fun q => !(q.1 == i) && (!(q.1 == i + 1) && !(q.1 + 1 == i && q.2.category == 2))) = oh_ml (oh_s2 lv i x) := by
  simp only [oh_ml, oh_s2, List.map_cons, List.filter_map]
  congr 2
  apply List.filter_congr
  intro q _
  simp [Function.comp, oh_isL_cat]
theorem oh_mlat {lv : oh_Ls} {k i : Nat} {x : oh_X} (h : lv[k]? = some (i, x)) : (oh_ml lv)[k]? = some (i, oh_v x) := by
  simp only [oh_ml, List.getElem?_map, h, Option.map_some]
abbrev oh_G : Type := (Program × Launch × Env × Room × State) × (MethodId × Array Value × List Frame × Method × Code) × ((State → Prop) × va_G × (Nat → ClassId) × (Nat → Prop) × Nat)
def oh_W (G : oh_G) (H : Heap) (locs : List Loc) (cells slots : Nat) (g : JFrame) : Prop := W G.1.1 G.1.2.1 G.1.2.2.1 G.1.2.2.2.1 G.1.2.2.2.2 G.2.1.1 G.2.1.2.1 G.2.1.2.2.1 G.2.1.2.2.2.1 G.2.1.2.2.2.2 H locs cells slots G.2.2.1 g
/-- what a walk stands on: the machine, the bytes, the number of locals, the class, the tables' words, the classes -/
def oh_C (G : oh_G) (cc : ByteArray) (Ts : List Cond) (own : String) (R0 : Room) (nL : Nat) : Prop :=
  G.1.1.tables.exec = Jvm.exec ∧ G.2.1.2.2.2.2.code = cc ∧ G.2.1.2.2.2.2.maxLocals = G.2.2.2.2.2.2 ∧ G.1.2.2.2.2.vm.findClass own = some G.2.1.1.cls ∧ (∀ w ∈ Ts, w.before G.2.1.2.1 G.1.2.2.2.2 = true) ∧ oh_KK G.2.2.2.1 G.2.2.2.2.1 G.1.2.2.2.2 ∧ G.1.2.2.2.1 = R0 ∧ G.2.2.2.2.2.2 = nL
def oh_V (G : oh_G) (cells slots : Nat) (h : oh_H) (pc : Nat) (lv : oh_Ls) (st : List oh_X) : Prop :=
  ∀ (H : Heap) (locs : List Loc) (ls : Array Slot), oh_R G.2.2.2.1 G.2.2.2.2.1 h H → va_S G.2.2.2.2.2.1 G.1.2.2.2.2.heap H locs → lv_has ls G.2.2.2.2.2.2 (oh_ml lv) → (∀ q, oh_A h q → G.2.2.2.2.2.1 q) →
    oh_W G H locs cells slots (F0 G.2.1.1 pc ls (st.map oh_v))
def oh_J {X : Type} (T : X → Prop) (e : Option X) (P : Prop) : Prop := ∀ x, e = some x → T x → P
section ROWS
variable {X : Type} {T : X → Prop} {e : Option X} {G : oh_G} {cc : ByteArray} {Ts : List Cond} {own : String} {R0 : Room} {nL : Nat} {cells slots : Nat} {h : oh_H} {pc : Nat} {lv lv' : oh_Ls} {st st' : List oh_X}
theorem oj_none {P : Prop} : oh_J T (none : Option X) P := fun x h => by cases h
theorem or_lift {pc' : Nat} (k : oh_J T e (oh_V G cells slots h pc' lv st')) (f : ∀ (H : Heap) (locs : List Loc) (ls : Array Slot), lv_has ls G.2.2.2.2.2.2 (oh_ml lv) → oh_W G H locs cells slots (F0 G.2.1.1 pc' ls (st'.map oh_v)) → oh_W G H locs cells slots (F0 G.2.1.1 pc ls (st.map oh_v))) : oh_J T e (oh_V G cells slots h pc lv st) := fun x hx hT H locs ls hR hS hl hA => f H locs ls hl (k x hx hT H locs ls hR hS hl hA)
theorem or_iconst (C : oh_C G cc Ts own R0 nL) {n : Int} {v : Int32} (d : decode cc pc = .ok (.iconst n, 1)) (hv : Int32.ofInt n = v) (k : oh_J T e (oh_V G cells slots h (pc + 1) lv (xi v :: st))) : oh_J T e (oh_V G cells slots h pc lv st) := or_lift k (fun _ _ _ _ w => lv_iconst C.1 C.2.1 d hv w)
theorem or_bipush (C : oh_C G cc Ts own R0 nL) {n : Int} {v : Int32} (d : decode cc pc = .ok (.bipush n, 2)) (hv : (Int8.ofInt n).toInt32 = v) (k : oh_J T e (oh_V G cells slots h (pc + 2) lv (xi v :: st))) : oh_J T e (oh_V G cells slots h pc lv st) := or_lift k (fun _ _ _ _ w => lv_bipush C.1 C.2.1 d hv w)
theorem or_sipush (C : oh_C G cc Ts own R0 nL) {n : Int} {v : Int32} (d : decode cc pc = .ok (.sipush n, 3)) (hv : (Int16.ofInt n).toInt32 = v) (k : oh_J T e (oh_V G cells slots h (pc + 3) lv (xi v :: st))) : oh_J T e (oh_V G cells slots h pc lv st) := or_lift k (fun _ _ _ _ w => lv_sipush C.1 C.2.1 d hv w)
theorem or_lconst (C : oh_C G cc Ts own R0 nL) {n : Fin 2} {v : Int64} (d : decode cc pc = .ok (.lconst n, 1)) (hv : Int64.ofNat (n : Nat) = v) (k : oh_J T e (oh_V G cells slots h (pc + 1) lv (xl v :: st))) : oh_J T e (oh_V G cells slots h pc lv st) := or_lift k (fun _ _ _ _ w => lv_lconst C.1 C.2.1 d hv w)
theorem or_null (C : oh_C G cc Ts own R0 nL) (d : decode cc pc = .ok (.aconst_null, 1)) (k : oh_J T e (oh_V G cells slots h (pc + 1) lv (xr none :: st))) : oh_J T e (oh_V G cells slots h pc lv st) := or_lift k (fun _ _ _ _ w => lv_null C.1 C.2.1 d w)
theorem or_ldc (C : oh_C G cc Ts own R0 nL) {i : Nat} {v : Int32} (hc : Cond.constant own i v ∈ Ts) (d : decode cc pc = .ok (.ldc i, 2)) (k : oh_J T e (oh_V G cells slots h (pc + 2) lv (xi v :: st))) : oh_J T e (oh_V G cells slots h pc lv st) := or_lift k (fun _ _ _ _ w => lv_ldc C.1 C.2.1 C.2.2.2.1 (C.2.2.2.2.1 _ hc) d w)
theorem or_ldcw (C : oh_C G cc Ts own R0 nL) {i : Nat} {v : Int32} (hc : Cond.constant own i v ∈ Ts) (d : decode cc pc = .ok (.ldc_w i, 3)) (k : oh_J T e (oh_V G cells slots h (pc + 3) lv (xi v :: st))) : oh_J T e (oh_V G cells slots h pc lv st) := or_lift k (fun _ _ _ _ w => lv_ldcw C.1 C.2.1 C.2.2.2.1 (C.2.2.2.2.1 _ hc) d w)
theorem or_ldc2 (C : oh_C G cc Ts own R0 nL) {i : Nat} {v : Int64} (hc : Cond.constantLong own i v ∈ Ts) (d : decode cc pc = .ok (.ldc2_w i, 3)) (k : oh_J T e (oh_V G cells slots h (pc + 3) lv (xl v :: st))) : oh_J T e (oh_V G cells slots h pc lv st) := or_lift k (fun _ _ _ _ w => lv_ldc2 C.1 C.2.1 C.2.2.2.1 (C.2.2.2.2.1 _ hc) d w)
theorem or_iload_n (C : oh_C G cc Ts own R0 nL) {n : Fin 4} {x : Int32} (j : Nat) (hj : lv[j]? = some ((n : Nat), xi x)) (d : decode cc pc = .ok (.iload_n n, 1)) (k : oh_J T e (oh_V G cells slots h (pc + 1) lv (xi x :: st))) : oh_J T e (oh_V G cells slots h pc lv st) := or_lift k (fun _ _ _ hl w => lv_iload_n C.1 C.2.1 d rfl (lv_at hl j (oh_mlat hj)) w)
theorem or_iload (C : oh_C G cc Ts own R0 nL) {i : Nat} {x : Int32} (j : Nat) (hj : lv[j]? = some (i, xi x)) (d : decode cc pc = .ok (.iload i, 2)) (k : oh_J T e (oh_V G cells slots h (pc + 2) lv (xi x :: st))) : oh_J T e (oh_V G cells slots h pc lv st) := or_lift k (fun _ _ _ hl w => lv_iload C.1 C.2.1 d (lv_at hl j (oh_mlat hj)) w)
theorem or_lload_n (C : oh_C G cc Ts own R0 nL) {n : Fin 4} {x : Int64} (j : Nat) (hj : lv[j]? = some ((n : Nat), xl x)) (d : decode cc pc = .ok (.lload_n n, 1)) (k : oh_J T e (oh_V G cells slots h (pc + 1) lv (xl x :: st))) : oh_J T e (oh_V G cells slots h pc lv st) := or_lift k (fun _ _ _ hl w => lv_lload_n C.1 C.2.1 d rfl (lv_at hl j (oh_mlat hj)) w)
theorem or_lload (C : oh_C G cc Ts own R0 nL) {i : Nat} {x : Int64} (j : Nat) (hj : lv[j]? = some (i, xl x)) (d : decode cc pc = .ok (.lload i, 2)) (k : oh_J T e (oh_V G cells slots h (pc + 2) lv (xl x :: st))) : oh_J T e (oh_V G cells slots h pc lv st) := or_lift k (fun _ _ _ hl w => lv_lload C.1 C.2.1 d (lv_at hl j (oh_mlat hj)) w)
theorem or_aload_n (C : oh_C G cc Ts own R0 nL) {n : Fin 4} {x : Option Nat} (j : Nat) (hj : lv[j]? = some ((n : Nat), xr x)) (d : decode cc pc = .ok (.aload_n n, 1)) (k : oh_J T e (oh_V G cells slots h (pc + 1) lv (xr x :: st))) : oh_J T e (oh_V G cells slots h pc lv st) := or_lift k (fun _ _ _ hl w => by
  cases x with
  | none => exact lv_aload_nN C.1 C.2.1 d rfl (lv_at hl j (oh_mlat hj)) w
  | some a => exact lv_aload_n C.1 C.2.1 d rfl (lv_at hl j (oh_mlat hj)) w)
theorem or_aload (C : oh_C G cc Ts own R0 nL) {i : Nat} {x : Option Nat} (j : Nat) (hj : lv[j]? = some (i, xr x)) (d : decode cc pc = .ok (.aload i, 2)) (k : oh_J T e (oh_V G cells slots h (pc + 2) lv (xr x :: st))) : oh_J T e (oh_V G cells slots h pc lv st) := or_lift k (fun _ _ _ hl w => by
  cases x with
  | none => exact lv_aloadN C.1 C.2.1 d (lv_at hl j (oh_mlat hj)) w
  | some a => exact lv_aload C.1 C.2.1 d (lv_at hl j (oh_mlat hj)) w)
/-- fewer locals, in any order, by their places -/
theorem or_sub (ks : List Nat) (hk : ks.filterMap (fun i => lv[i]?) = lv') (k : oh_J T e (oh_V G cells slots h pc lv' st)) : oh_J T e (oh_V G cells slots h pc lv st) := fun x hx hT H locs ls hR hS hl hA => k x hx hT H locs ls hR hS (lv_sub hl ks (by
  subst hk
  simp only [lv_pick, oh_ml, List.getElem?_map, List.map_filterMap])) hA
/-! stores give the value a name -/
theorem or_istore_n (C : oh_C G cc Ts own R0 nL) {n : Fin 4} {x : Int32} {K : Int32 → Option X} (lv' : Int32 → oh_Ls) (hl' : ∀ v, oh_s1 lv (n : Nat) (xi v) = lv' v) (hn : (n : Nat) < nL) (d : decode cc pc = .ok (.istore_n n, 1)) (k : ∀ v, oh_J T (K v) (oh_V G cells slots h (pc + 1) (lv' v) st)) : oh_J T (oh_lt x K) (oh_V G cells slots h pc lv (xi x :: st)) :=
  fun X hX hT H locs ls hR hS hl hA => lv_istore_n C.1 C.2.1 d rfl hl (C.2.2.2.2.2.2.2.symm ▸ hn) ((oh_ml1 lv n (xi x)).trans (congrArg oh_ml (hl' x))) (fun ls' hl'' => k x X hX hT H locs ls' hR hS hl'' hA)
theorem or_istore (C : oh_C G cc Ts own R0 nL) {i : Nat} {x : Int32} {K : Int32 → Option X} (lv' : Int32 → oh_Ls) (hl' : ∀ v, oh_s1 lv i (xi v) = lv' v) (hn : i < nL) (d : decode cc pc = .ok (.istore i, 2)) (k : ∀ v, oh_J T (K v) (oh_V G cells slots h (pc + 2) (lv' v) st)) : oh_J T (oh_lt x K) (oh_V G cells slots h pc lv (xi x :: st)) :=
  fun X hX hT H locs ls hR hS hl hA => lv_istore C.1 C.2.1 d hl (C.2.2.2.2.2.2.2.symm ▸ hn) ((oh_ml1 lv i (xi x)).trans (congrArg oh_ml (hl' x))) (fun ls' hl'' => k x X hX hT H locs ls' hR hS hl'' hA)
theorem or_lstore_n (C : oh_C G cc Ts own R0 nL) {n : Fin 4} {x : Int64} {K : Int64 → Option X} (lv' : Int64 → oh_Ls) (hl' : ∀ v, oh_s2 lv (n : Nat) (xl v) = lv' v) (hn : (n : Nat) + 1 < nL) (d : decode cc pc = .ok (.lstore_n n, 1)) (k : ∀ v, oh_J T (K v) (oh_V G cells slots h (pc + 1) (lv' v) st)) : oh_J T (oh_lt x K) (oh_V G cells slots h pc lv (xl x :: st)) :=
  fun X hX hT H locs ls hR hS hl hA => lv_lstore_n C.1 C.2.1 d rfl hl (C.2.2.2.2.2.2.2.symm ▸ hn) ((oh_ml2 lv n (xl x)).trans (congrArg oh_ml (hl' x))) (fun ls' hl'' => k x X hX hT H locs ls' hR hS hl'' hA)
theorem or_lstore (C : oh_C G cc Ts own R0 nL) {i : Nat} {x : Int64} {K : Int64 → Option X} (lv' : Int64 → oh_Ls) (hl' : ∀ v, oh_s2 lv i (xl v) = lv' v) (hn : i + 1 < nL) (d : decode cc pc = .ok (.lstore i, 2)) (k : ∀ v, oh_J T (K v) (oh_V G cells slots h (pc + 2) (lv' v) st)) : oh_J T (oh_lt x K) (oh_V G cells slots h pc lv (xl x :: st)) :=
  fun X hX hT H locs ls hR hS hl hA => lv_lstore C.1 C.2.1 d hl (C.2.2.2.2.2.2.2.symm ▸ hn) ((oh_ml2 lv i (xl x)).trans (congrArg oh_ml (hl' x))) (fun ls' hl'' => k x X hX hT H locs ls' hR hS hl'' hA)
theorem or_astore_n (C : oh_C G cc Ts own R0 nL) {n : Fin 4} {x : Option Nat} {K : Option Nat → Option X} (lv' : Option Nat → oh_Ls) (hl' : ∀ v, oh_s1 lv (n : Nat) (xr v) = lv' v) (hn : (n : Nat) < nL) (d : decode cc pc = .ok (.astore_n n, 1)) (k : ∀ v, oh_J T (K v) (oh_V G cells slots h (pc + 1) (lv' v) st)) : oh_J T (oh_lt x K) (oh_V G cells slots h pc lv (xr x :: st)) :=
  fun X hX hT H locs ls hR hS hl hA => by
    have e := (oh_ml1 lv n (xr x)).trans (congrArg oh_ml (hl' x))
    cases x with
    | none => exact lv_astore_nN C.1 C.2.1 d rfl hl (C.2.2.2.2.2.2.2.symm ▸ hn) e (fun ls' hl'' => k none X hX hT H locs ls' hR hS hl'' hA)
    | some a => exact lv_astore_n C.1 C.2.1 d rfl hl (C.2.2.2.2.2.2.2.symm ▸ hn) e (fun ls' hl'' => k (some a) X hX hT H locs ls' hR hS hl'' hA)
theorem or_astore (C : oh_C G cc Ts own R0 nL) {i : Nat} {x : Option Nat} {K : Option Nat → Option X} (lv' : Option Nat → oh_Ls) (hl' : ∀ v, oh_s1 lv i (xr v) = lv' v) (hn : i < nL) (d : decode cc pc = .ok (.astore i, 2)) (k : ∀ v, oh_J T (K v) (oh_V G cells slots h (pc + 2) (lv' v) st)) : oh_J T (oh_lt x K) (oh_V G cells slots h pc lv (xr x :: st)) :=
  fun X hX hT H locs ls hR hS hl hA => by
    have e := (oh_ml1 lv i (xr x)).trans (congrArg oh_ml (hl' x))
    cases x with
    | none => exact lv_astoreN C.1 C.2.1 d hl (C.2.2.2.2.2.2.2.symm ▸ hn) e (fun ls' hl'' => k none X hX hT H locs ls' hR hS hl'' hA)
    | some a => exact lv_astore C.1 C.2.1 d hl (C.2.2.2.2.2.2.2.symm ▸ hn) e (fun ls' hl'' => k (some a) X hX hT H locs ls' hR hS hl'' hA)
theorem or_iinc (C : oh_C G cc Ts own R0 nL) {i : Nat} {n : Int} {y x : Int32} {K : Int32 → Option X} (j : Nat) (hj : lv[j]? = some (i, xi x)) (hy : Int32.ofInt n = y) (lv' : Int32 → oh_Ls) (hl' : ∀ v, oh_s1 lv i (xi v) = lv' v) (hn : i < nL) (d : decode cc pc = .ok (.iinc i n, 3)) (k : ∀ v, oh_J T (K v) (oh_V G cells slots h (pc + 3) (lv' v) st)) : oh_J T (oh_lt (x + y) K) (oh_V G cells slots h pc lv st) :=
  fun X hX hT H locs ls hR hS hl hA => lv_iinc C.1 C.2.1 d hl (oh_mlat hj) (by rw [hy]) (C.2.2.2.2.2.2.2.symm ▸ hn) ((oh_ml1 lv i (xi (x + y))).trans (congrArg oh_ml (hl' (x + y)))) (fun ls' hl'' => k (x + y) X hX hT H locs ls' hR hS hl'' hA)
/-! arithmetic -/
theorem or_iadd (C : oh_C G cc Ts own R0 nL) {x y : Int32} (d : decode cc pc = .ok (.iadd, 1)) (k : oh_J T e (oh_V G cells slots h (pc + 1) lv (xi (x + y) :: st))) : oh_J T e (oh_V G cells slots h pc lv (xi y :: xi x :: st)) := or_lift k (fun _ _ _ _ w => lv_iadd C.1 C.2.1 d w)
theorem or_isub (C : oh_C G cc Ts own R0 nL) {x y : Int32} (d : decode cc pc = .ok (.isub, 1)) (k : oh_J T e (oh_V G cells slots h (pc + 1) lv (xi (x - y) :: st))) : oh_J T e (oh_V G cells slots h pc lv (xi y :: xi x :: st)) := or_lift k (fun _ _ _ _ w => lv_isub C.1 C.2.1 d w)
theorem or_imul (C : oh_C G cc Ts own R0 nL) {x y : Int32} (d : decode cc pc = .ok (.imul, 1)) (k : oh_J T e (oh_V G cells slots h (pc + 1) lv (xi (x * y) :: st))) : oh_J T e (oh_V G cells slots h pc lv (xi y :: xi x :: st)) := or_lift k (fun _ _ _ _ w => lv_imul C.1 C.2.1 d w)
theorem or_iand (C : oh_C G cc Ts own R0 nL) {x y : Int32} (d : decode cc pc = .ok (.iand, 1)) (k : oh_J T e (oh_V G cells slots h (pc + 1) lv (xi (x &&& y) :: st))) : oh_J T e (oh_V G cells slots h pc lv (xi y :: xi x :: st)) := or_lift k (fun _ _ _ _ w => lv_iand C.1 C.2.1 d w)
theorem or_ior (C : oh_C G cc Ts own R0 nL) {x y : Int32} (d : decode cc pc = .ok (.ior, 1)) (k : oh_J T e (oh_V G cells slots h (pc + 1) lv (xi (x ||| y) :: st))) : oh_J T e (oh_V G cells slots h pc lv (xi y :: xi x :: st)) := or_lift k (fun _ _ _ _ w => lv_ior C.1 C.2.1 d w)
theorem or_ishl (C : oh_C G cc Ts own R0 nL) {x y : Int32} (d : decode cc pc = .ok (.ishl, 1)) (k : oh_J T e (oh_V G cells slots h (pc + 1) lv (xi (x <<< (y &&& 31)) :: st))) : oh_J T e (oh_V G cells slots h pc lv (xi y :: xi x :: st)) := or_lift k (fun _ _ _ _ w => lv_ishl C.1 C.2.1 d w)
theorem or_ishr (C : oh_C G cc Ts own R0 nL) {x y : Int32} (d : decode cc pc = .ok (.ishr, 1)) (k : oh_J T e (oh_V G cells slots h (pc + 1) lv (xi (x >>> (y &&& 31)) :: st))) : oh_J T e (oh_V G cells slots h pc lv (xi y :: xi x :: st)) := or_lift k (fun _ _ _ _ w => lv_ishr C.1 C.2.1 d w)
theorem or_ineg (C : oh_C G cc Ts own R0 nL) {x : Int32} (d : decode cc pc = .ok (.ineg, 1)) (k : oh_J T e (oh_V G cells slots h (pc + 1) lv (xi (-x) :: st))) : oh_J T e (oh_V G cells slots h pc lv (xi x :: st)) := or_lift k (fun _ _ _ _ w => lv_ineg C.1 C.2.1 d w)
theorem or_ladd (C : oh_C G cc Ts own R0 nL) {x y : Int64} (d : decode cc pc = .ok (.ladd, 1)) (k : oh_J T e (oh_V G cells slots h (pc + 1) lv (xl (x + y) :: st))) : oh_J T e (oh_V G cells slots h pc lv (xl y :: xl x :: st)) := or_lift k (fun _ _ _ _ w => lv_ladd C.1 C.2.1 d w)
theorem or_lsub (C : oh_C G cc Ts own R0 nL) {x y : Int64} (d : decode cc pc = .ok (.lsub, 1)) (k : oh_J T e (oh_V G cells slots h (pc + 1) lv (xl (x - y) :: st))) : oh_J T e (oh_V G cells slots h pc lv (xl y :: xl x :: st)) := or_lift k (fun _ _ _ _ w => lv_lsub C.1 C.2.1 d w)
theorem or_lmul (C : oh_C G cc Ts own R0 nL) {x y : Int64} (d : decode cc pc = .ok (.lmul, 1)) (k : oh_J T e (oh_V G cells slots h (pc + 1) lv (xl (x * y) :: st))) : oh_J T e (oh_V G cells slots h pc lv (xl y :: xl x :: st)) := or_lift k (fun _ _ _ _ w => lv_lmul C.1 C.2.1 d w)
theorem or_lneg (C : oh_C G cc Ts own R0 nL) {x : Int64} (d : decode cc pc = .ok (.lneg, 1)) (k : oh_J T e (oh_V G cells slots h (pc + 1) lv (xl (-x) :: st))) : oh_J T e (oh_V G cells slots h pc lv (xl x :: st)) := or_lift k (fun _ _ _ _ w => lv_lneg C.1 C.2.1 d w)
theorem or_lcmp (C : oh_C G cc Ts own R0 nL) {x y : Int64} (d : decode cc pc = .ok (.lcmp, 1)) (k : oh_J T e (oh_V G cells slots h (pc + 1) lv (xi (lg_cmp x y) :: st))) : oh_J T e (oh_V G cells slots h pc lv (xl y :: xl x :: st)) := or_lift k (fun _ _ _ _ w => W.lcmp C.1 C.2.1 d w)
theorem or_i2l (C : oh_C G cc Ts own R0 nL) {x : Int32} (d : decode cc pc = .ok (.i2l, 1)) (k : oh_J T e (oh_V G cells slots h (pc + 1) lv (xl x.toInt64 :: st))) : oh_J T e (oh_V G cells slots h pc lv (xi x :: st)) := or_lift k (fun _ _ _ _ w => lv_i2l C.1 C.2.1 d rfl w)
theorem or_l2i (C : oh_C G cc Ts own R0 nL) {x : Int64} (d : decode cc pc = .ok (.l2i, 1)) (k : oh_J T e (oh_V G cells slots h (pc + 1) lv (xi x.toInt32 :: st))) : oh_J T e (oh_V G cells slots h pc lv (xl x :: st)) := or_lift k (fun _ _ _ _ w => lv_l2i C.1 C.2.1 d rfl w)
theorem or_idiv (C : oh_C G cc Ts own R0 nL) {x y : Int32} (d : decode cc pc = .ok (.idiv, 1)) (k : oh_J T e (oh_V G cells slots h (pc + 1) lv (xi (x / y) :: st))) : oh_J T (if y = 0 then none else e) (oh_V G cells slots h pc lv (xi y :: xi x :: st)) := by
  by_cases q : y = 0
  · rw [if_pos q]; exact oj_none
  · rw [if_neg q]; exact or_lift k (fun _ _ _ _ w => lv_idiv C.1 C.2.1 d q w)
theorem or_irem (C : oh_C G cc Ts own R0 nL) {x y : Int32} (d : decode cc pc = .ok (.irem, 1)) (k : oh_J T e (oh_V G cells slots h (pc + 1) lv (xi (x - x / y * y) :: st))) : oh_J T (if y = 0 then none else e) (oh_V G cells slots h pc lv (xi y :: xi x :: st)) := by
  by_cases q : y = 0
  · rw [if_pos q]; exact oj_none
  · rw [if_neg q]; exact or_lift k (fun _ _ _ _ w => lv_irem C.1 C.2.1 d q w)
theorem or_ldiv (C : oh_C G cc Ts own R0 nL) {x y : Int64} (d : decode cc pc = .ok (.ldiv, 1)) (k : oh_J T e (oh_V G cells slots h (pc + 1) lv (xl (x / y) :: st))) : oh_J T (if y = 0 then none else e) (oh_V G cells slots h pc lv (xl y :: xl x :: st)) := by
  by_cases q : y = 0
  · rw [if_pos q]; exact oj_none
  · rw [if_neg q]; exact or_lift k (fun _ _ _ _ w => lv_ldiv C.1 C.2.1 d q w)
theorem or_lrem (C : oh_C G cc Ts own R0 nL) {x y : Int64} (d : decode cc pc = .ok (.lrem, 1)) (k : oh_J T e (oh_V G cells slots h (pc + 1) lv (xl (x - x / y * y) :: st))) : oh_J T (if y = 0 then none else e) (oh_V G cells slots h pc lv (xl y :: xl x :: st)) := by
  by_cases q : y = 0
  · rw [if_pos q]; exact oj_none
  · rw [if_neg q]; exact or_lift k (fun _ _ _ _ w => lv_lrem C.1 C.2.1 d q w)
theorem or_dup (C : oh_C G cc Ts own R0 nL) {x : oh_X} (hx : oh_isL x = false) (d : decode cc pc = .ok (.dup, 1)) (k : oh_J T e (oh_V G cells slots h (pc + 1) lv (x :: x :: st))) : oh_J T e (oh_V G cells slots h pc lv (x :: st)) := or_lift k (fun _ _ _ _ w => lv_dup C.1 C.2.1 d (by rw [oh_cat, hx]; rfl) w)
theorem or_dup2 (C : oh_C G cc Ts own R0 nL) {x y : oh_X} (hx : oh_isL x = false) (hy : oh_isL y = false) (d : decode cc pc = .ok (.dup2, 1)) (k : oh_J T e (oh_V G cells slots h (pc + 1) lv (x :: y :: x :: y :: st))) : oh_J T e (oh_V G cells slots h pc lv (x :: y :: st)) := or_lift k (fun _ _ _ _ w => lv_dup2_11 C.1 C.2.1 d (by rw [oh_cat, hx]; rfl) (by rw [oh_cat, hy]; rfl) w)
/-! jumps -/
theorem or_goto (C : oh_C G cc Ts own R0 nL) {off : Int} (tgt : Nat) (d : decode cc pc = .ok (.goto off, 3)) (ht : (pc : Int) + off = (tgt : Int)) (k : oh_J T e (oh_V G cells slots h tgt lv st)) : oh_J T e (oh_V G cells slots h pc lv st) := or_lift k (fun _ _ _ _ w => lv_goto C.1 C.2.1 d ht w)
end ROWS
