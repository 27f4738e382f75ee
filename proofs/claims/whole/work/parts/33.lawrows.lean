-- ===== end of PART A; then your names; then what follows =====
/-! THE CLAIM OUT OF ONE WALK OF THE LAW'S BODY. Your part is whole_start (and what it stands on); all else here is the same for every law, but numbers. -/
def R_law : String := "OilPressLaw"
def lw_P (b : Addr) (xs : List Int32) (args : Array Value) (s : State) : Prop := args = #[.ref b] ∧ s.IntsAt b xs ∧ xs.length ≤ 2048 ∧ (Jvm.Cond.and given_1 narrow_1).before args s = true
def lw_Q (_ : Array Value) (s : State) (o : Outcome) (t : State) : Prop := o = .returned (some (.int 1)) ∧ Framed s o t [] 600000 7302250
def lw_Z (below : List Frame) (a : Array Value) (s : State) : State → Prop := fun t => ∃ o, t.status = .running ∧ Ended t below o ∧ lw_Q a s o t
/-- the law's own end, with 1 on the stack, nothing written that was there before, its room as the claim has it -/
theorem lw_ret {p : Program} {l : Launch} {e : Env} {s : State} {m : MethodId} {below : List Frame} {meth : Method} {c : Code} {b : Nat} (hx : p.tables.exec = Jvm.exec) (hb : c.code = code) (hr : meth.sig.returnType = ret) (hlocks : meth.locks = false) {pc : Nat} {H : Heap} {ls : Array Slot} (hdg : decode code pc = .ok (.ireturn, 1)) : W p l e room_1 s m #[Value.ref b] below meth c H [] 600000 7302250 (lw_Z below #[Value.ref b] s) (F0 m pc ls [.int 1]) := by
  intro T hT X
  obtain ⟨fs, hret, hrun, hended, hW, hframe⟩ := X.leave (v := some (.int 1)) (hlocks := hlocks) (fun h => by rw [hr] at h; cases h)
  have hmeth' : T.vm.method? m = some meth := X.method'
  refine ⟨T.setFrames fs, ?_, .returned (some (.int 1)), hrun, hended, rfl, ⟨_, rfl⟩, hW, hframe⟩
  jvm_step X.here [X.here.top, hx, hb, hdg, hmeth', hr, ret, narrow_b1]
  (try refine ⟨rfl, ?_⟩); (try refine ⟨rfl, ?_⟩)
  first | (intro acts; rw [hret _ acts rfl rfl rfl]) | rw [hret _ _ rfl rfl rfl]
  exact Steps.refl _
/-- what holds at the law's entry: the machine, the code, the tables' words (any of lw_tbl by 'hts w (by decide +kernel)'), the script of L ints xs at the cell b, what the Statement gives of the start (any of its parts by flat_of_before) -/
def lw_At (p : Program) (s : State) (m : MethodId) (meth : Method) (c : Code) (b L : Nat) (xs : Nat → Int32) : Prop :=
  p.tables.exec = Jvm.exec ∧ c.code = code ∧ meth.sig.returnType = ret ∧ c.maxLocals = 4 ∧ s.vm.findClass R_law = some m.cls ∧ (∀ w ∈ lw_tbl, w.before #[Value.ref b] s = true) ∧ va_X b L xs s s.heap ∧ b < s.heap.size ∧ meth.locks = false ∧ (Jvm.Cond.and given_1 narrow_1).before #[Value.ref b] s = true
/-! the law's own rows: the script, its end, its loop by fuel -/
def oh_scr (xs : Nat → Int32) (L : Nat) (i : Int32) : Option Int32 := if 0 ≤ i.toInt ∧ i.toInt < L then some (xs i.toNatClampNeg) else none
def ol_E (G : oh_G) (b L : Nat) (xs : Nat → Int32) : Prop := G.2.2.1 = lw_Z G.2.1.2.2.1 #[Value.ref b] G.1.2.2.2.2 ∧ G.2.1.2.1 = #[Value.ref b] ∧ G.2.2.2.2.2.1 = (fun q => G.1.2.2.2.2.heap.size ≤ q) ∧ G.2.1.2.2.2.1.sig.returnType = ret ∧ G.2.1.2.2.2.1.locks = false ∧ va_X b L xs G.1.2.2.2.2 G.1.2.2.2.2.heap ∧ b < G.1.2.2.2.2.heap.size
section LAWROWS
variable {X : Type} {T : X → Prop} {e : Option X} {G : oh_G} {cc : ByteArray} {Ts : List Cond} {own : String} {R0 : Room} {nL : Nat} {cells slots : Nat} {h : oh_H} {pc : Nat} {lv : oh_Ls} {st : List oh_X} {b L : Nat} {xs : Nat → Int32}
theorem ol_ld (C : oh_C G cc Ts own R0 nL) (E : ol_E G b L xs) (d : decode cc pc = .ok (.iaload, 1)) {i : Int32} {K : Int32 → Option X} (kk : ∀ x, oh_J T (K x) (oh_V G cells slots h (pc + 1) lv (xi x :: st))) : oh_J T ((oh_scr xs L i).bind K) (oh_V G cells slots h pc lv (xi i :: xr (some b) :: st)) := by
  unfold oh_scr
  by_cases q : 0 ≤ i.toInt ∧ i.toInt < L
  · rw [if_pos q, Option.bind_some]
    exact fun X hX hT H locs ls hR hS hl hA => va_sld C.1 C.2.1 E.2.2.2.2.2.1 E.2.2.2.2.2.2 (by rw [E.2.2.1]; exact Nat.not_le.mpr E.2.2.2.2.2.2) hS (oh_in q) d (kk _ X hX hT H locs ls hR hS hl hA)
  · rw [if_neg q]; exact oj_none
theorem ol_len (C : oh_C G cc Ts own R0 nL) (E : ol_E G b L xs) (d : decode cc pc = .ok (.arraylength, 1)) (k : oh_J T e (oh_V G cells slots h (pc + 1) lv (xi (Int32.ofNat L) :: st))) : oh_J T e (oh_V G cells slots h pc lv (xr (some b) :: st)) :=
  fun X hX hT H locs ls hR hS hl hA => va_slen C.1 C.2.1 E.2.2.2.2.2.1 E.2.2.2.2.2.2 (by rw [E.2.2.1]; exact Nat.not_le.mpr E.2.2.2.2.2.2) hS d (k X hX hT H locs ls hR hS hl hA)
theorem ol_widen {cells' slots' : Nat} (h1 : cells ≤ cells') (h2 : slots ≤ slots') (k : oh_V G cells' slots' h pc lv st) : oh_V G cells slots h pc lv st := fun H locs ls hR hS hl hA => W.widen h1 h2 (k H locs ls hR hS hl hA)
theorem oj_loopN {S : Type} {body : S → Option (S ⊕ X)} {P : Nat → S → Prop} {N : Nat} (hb : ∀ n s, n < N → oh_J (oh_TL (P n) T) (body s) (P (n + 1) s)) : ∀ (n : Nat), n ≤ N → ∀ s : S, oh_J T (oh_loop body n s) (P n s)
  | 0, _, s => oj_none
  | n + 1, hn, s => fun x hx hT => by
    unfold oh_loop at hx
    cases hy : body s with
    | none => rw [hy] at hx; cases hx
    | some y =>
      rw [hy] at hx
      cases y with
      | inl s' => exact hb n s hn _ hy (oj_loopN hb n (Nat.le_of_succ_le hn) s' x hx hT)
      | inr z => cases hx; exact hb n s hn _ hy hT
theorem ol_ret (C : oh_C G cL_law Ts own room_1 nL) (E : ol_E G b L xs) (hm : cells ≤ 600000 ∧ slots ≤ 7302250) {v : Int32} (d : decode cL_law pc = .ok (.ireturn, 1)) : oh_J (fun x : Int32 => x = 1) (some v) (oh_V G cells slots h pc lv [xi v]) := by
  intro x hx hT H locs ls hR hS hl hA
  cases hx
  subst hT
  obtain ⟨⟨p, l, e, R, s⟩, ⟨m, args, below, meth, c⟩, ⟨Q, D, dA, A, nL'⟩⟩ := G
  obtain ⟨E1, E2, E3, E4, E5, -, -⟩ := E
  dsimp only at E1 E2 E3 E4 E5 hS
  subst E1; subst E2; subst E3
  have hRR : R = room_1 := C.2.2.2.2.2.2.1
  subst hRR
  refine W.widen hm.1 hm.2 ?_
  refine va_forget hS.2.2 ?_
  exact lw_ret C.1 C.2.1 E4 E5 d
end LAWROWS
/-- the classes, the arrays' classes and the nest's words at the start -/
theorem ol_app {Tb a b : List Cond} (ha : ∀ w ∈ a, w ∈ Tb) (hb : ∀ w ∈ b, w ∈ Tb) : ∀ w ∈ a ++ b, w ∈ Tb := fun w h => (List.mem_append.mp h).elim (ha w) (hb w)
theorem ol_arr {args : Array Value} {s : State} {ty : FieldType} (h : (Cond.arrayClass ty).before args s = true) (hra : ∀ cA : ClassId, s.vm.findClass ("[" ++ ty.toString) = some cA → va_RA s cA ty) : ∃ cA : ClassId, ArrOfT s cA ty ∧ va_RA s cA ty := by
  obtain ⟨cA, kA, comp, hfind, hk, hkind⟩ := Cond.arrayClass_spec h
  exact ⟨cA, fun n z => ⟨fun k h => (by cases h), kA, hk, comp, hkind⟩, hra cA hfind⟩
theorem ol_arrq {args : Array Value} {s : State} {C : String} (h : (Cond.arrayOver (.object C)).before args s = true) : ∃ cA : ClassId, ArrOfT s cA (.object C) ∧ va_RA s cA (.object C) := by
  obtain ⟨comp, c, k, h1, h2, h3, h4, h5⟩ := Cond.arrayOver_spec h
  exact ⟨c, fun n z => ⟨fun k h => (by cases h), k, h3, comp, h4⟩, k, comp, h3, h4, h1, h5⟩
