/-! ROWS, second part: branches, fields, arrays, makings, calls, ends, loops -/
section ROWS
variable {X : Type} {T : X → Prop} {e e1 e2 : Option X} {G : oh_G} {cc : ByteArray} {Ts : List Cond} {own : String} {R0 : Room} {nL : Nat} {cells slots : Nat} {h : oh_H} {pc : Nat} {lv lv' : oh_Ls} {st st' : List oh_X}
theorem oj_t {c : Prop} {A : Decidable c} {P : Prop} (q : c) (k : oh_J T e1 P) : oh_J T (if c then e1 else e2) P := by rw [if_pos q]; exact k
theorem oj_f {c : Prop} {A : Decidable c} {P : Prop} (q : ¬ c) (k : oh_J T e2 P) : oh_J T (if c then e1 else e2) P := by rw [if_neg q]; exact k
theorem or_if_eq (C : oh_C G cc Ts own R0 nL) {x : Int32} {off : Int} (tgt : Nat) (d : decode cc pc = .ok (.ifCond .eq off, 3)) (ht : (pc : Int) + off = (tgt : Int)) (kt : oh_J T e1 (oh_V G cells slots h tgt lv st)) (kf : oh_J T e2 (oh_V G cells slots h (pc + 3) lv st)) : oh_J T (if x = 0 then e1 else e2) (oh_V G cells slots h pc lv (xi x :: st)) :=
  fun X hX hT H locs ls hR hS hl hA => lv_if_eq C.1 C.2.1 d ht (fun q => kt X (by rw [if_pos q] at hX; exact hX) hT H locs ls hR hS hl hA) (fun q => kf X (by rw [if_neg q] at hX; exact hX) hT H locs ls hR hS hl hA)
theorem or_if_ne (C : oh_C G cc Ts own R0 nL) {x : Int32} {off : Int} (tgt : Nat) (d : decode cc pc = .ok (.ifCond .ne off, 3)) (ht : (pc : Int) + off = (tgt : Int)) (kf : oh_J T e1 (oh_V G cells slots h (pc + 3) lv st)) (kt : oh_J T e2 (oh_V G cells slots h tgt lv st)) : oh_J T (if x = 0 then e1 else e2) (oh_V G cells slots h pc lv (xi x :: st)) :=
  fun X hX hT H locs ls hR hS hl hA => lv_if_ne C.1 C.2.1 d ht (fun q => kt X (by rw [if_neg q] at hX; exact hX) hT H locs ls hR hS hl hA) (fun q => kf X (by rw [if_pos q] at hX; exact hX) hT H locs ls hR hS hl hA)
theorem or_if_lt (C : oh_C G cc Ts own R0 nL) {x : Int32} {off : Int} (tgt : Nat) (d : decode cc pc = .ok (.ifCond .lt off, 3)) (ht : (pc : Int) + off = (tgt : Int)) (kt : oh_J T e1 (oh_V G cells slots h tgt lv st)) (kf : oh_J T e2 (oh_V G cells slots h (pc + 3) lv st)) : oh_J T (if x < 0 then e1 else e2) (oh_V G cells slots h pc lv (xi x :: st)) :=
  fun X hX hT H locs ls hR hS hl hA => lv_if_lt C.1 C.2.1 d ht (fun q => kt X (by rw [if_pos q] at hX; exact hX) hT H locs ls hR hS hl hA) (fun q => kf X (by rw [if_neg q] at hX; exact hX) hT H locs ls hR hS hl hA)
theorem or_if_ge (C : oh_C G cc Ts own R0 nL) {x : Int32} {off : Int} (tgt : Nat) (d : decode cc pc = .ok (.ifCond .ge off, 3)) (ht : (pc : Int) + off = (tgt : Int)) (kt : oh_J T e1 (oh_V G cells slots h tgt lv st)) (kf : oh_J T e2 (oh_V G cells slots h (pc + 3) lv st)) : oh_J T (if 0 ≤ x then e1 else e2) (oh_V G cells slots h pc lv (xi x :: st)) :=
  fun X hX hT H locs ls hR hS hl hA => lv_if_ge C.1 C.2.1 d ht (fun q => kt X (by rw [if_pos q] at hX; exact hX) hT H locs ls hR hS hl hA) (fun q => kf X (by rw [if_neg q] at hX; exact hX) hT H locs ls hR hS hl hA)
theorem or_if_gt (C : oh_C G cc Ts own R0 nL) {x : Int32} {off : Int} (tgt : Nat) (d : decode cc pc = .ok (.ifCond .gt off, 3)) (ht : (pc : Int) + off = (tgt : Int)) (kt : oh_J T e1 (oh_V G cells slots h tgt lv st)) (kf : oh_J T e2 (oh_V G cells slots h (pc + 3) lv st)) : oh_J T (if 0 < x then e1 else e2) (oh_V G cells slots h pc lv (xi x :: st)) :=
  fun X hX hT H locs ls hR hS hl hA => lv_if_gt C.1 C.2.1 d ht (fun q => kt X (by rw [if_pos q] at hX; exact hX) hT H locs ls hR hS hl hA) (fun q => kf X (by rw [if_neg q] at hX; exact hX) hT H locs ls hR hS hl hA)
theorem or_if_le (C : oh_C G cc Ts own R0 nL) {x : Int32} {off : Int} (tgt : Nat) (d : decode cc pc = .ok (.ifCond .le off, 3)) (ht : (pc : Int) + off = (tgt : Int)) (kt : oh_J T e1 (oh_V G cells slots h tgt lv st)) (kf : oh_J T e2 (oh_V G cells slots h (pc + 3) lv st)) : oh_J T (if x ≤ 0 then e1 else e2) (oh_V G cells slots h pc lv (xi x :: st)) :=
  fun X hX hT H locs ls hR hS hl hA => lv_if_le C.1 C.2.1 d ht (fun q => kt X (by rw [if_pos q] at hX; exact hX) hT H locs ls hR hS hl hA) (fun q => kf X (by rw [if_neg q] at hX; exact hX) hT H locs ls hR hS hl hA)
theorem or_icmp_eq (C : oh_C G cc Ts own R0 nL) {x y : Int32} {off : Int} (tgt : Nat) (d : decode cc pc = .ok (.if_icmp .eq off, 3)) (ht : (pc : Int) + off = (tgt : Int)) (kt : oh_J T e1 (oh_V G cells slots h tgt lv st)) (kf : oh_J T e2 (oh_V G cells slots h (pc + 3) lv st)) : oh_J T (if x = y then e1 else e2) (oh_V G cells slots h pc lv (xi y :: xi x :: st)) :=
  fun X hX hT H locs ls hR hS hl hA => lv_icmp_eq C.1 C.2.1 d ht (fun q => kt X (by rw [if_pos q] at hX; exact hX) hT H locs ls hR hS hl hA) (fun q => kf X (by rw [if_neg q] at hX; exact hX) hT H locs ls hR hS hl hA)
theorem or_icmp_ne (C : oh_C G cc Ts own R0 nL) {x y : Int32} {off : Int} (tgt : Nat) (d : decode cc pc = .ok (.if_icmp .ne off, 3)) (ht : (pc : Int) + off = (tgt : Int)) (kf : oh_J T e1 (oh_V G cells slots h (pc + 3) lv st)) (kt : oh_J T e2 (oh_V G cells slots h tgt lv st)) : oh_J T (if x = y then e1 else e2) (oh_V G cells slots h pc lv (xi y :: xi x :: st)) :=
  fun X hX hT H locs ls hR hS hl hA => lv_icmp_ne C.1 C.2.1 d ht (fun q => kt X (by rw [if_neg q] at hX; exact hX) hT H locs ls hR hS hl hA) (fun q => kf X (by rw [if_pos q] at hX; exact hX) hT H locs ls hR hS hl hA)
theorem or_icmp_lt (C : oh_C G cc Ts own R0 nL) {x y : Int32} {off : Int} (tgt : Nat) (d : decode cc pc = .ok (.if_icmp .lt off, 3)) (ht : (pc : Int) + off = (tgt : Int)) (kt : oh_J T e1 (oh_V G cells slots h tgt lv st)) (kf : oh_J T e2 (oh_V G cells slots h (pc + 3) lv st)) : oh_J T (if x < y then e1 else e2) (oh_V G cells slots h pc lv (xi y :: xi x :: st)) :=
  fun X hX hT H locs ls hR hS hl hA => lv_icmp_lt C.1 C.2.1 d ht (fun q => kt X (by rw [if_pos q] at hX; exact hX) hT H locs ls hR hS hl hA) (fun q => kf X (by rw [if_neg q] at hX; exact hX) hT H locs ls hR hS hl hA)
theorem or_icmp_ge (C : oh_C G cc Ts own R0 nL) {x y : Int32} {off : Int} (tgt : Nat) (d : decode cc pc = .ok (.if_icmp .ge off, 3)) (ht : (pc : Int) + off = (tgt : Int)) (kt : oh_J T e1 (oh_V G cells slots h tgt lv st)) (kf : oh_J T e2 (oh_V G cells slots h (pc + 3) lv st)) : oh_J T (if y ≤ x then e1 else e2) (oh_V G cells slots h pc lv (xi y :: xi x :: st)) :=
  fun X hX hT H locs ls hR hS hl hA => lv_icmp_ge C.1 C.2.1 d ht (fun q => kt X (by rw [if_pos q] at hX; exact hX) hT H locs ls hR hS hl hA) (fun q => kf X (by rw [if_neg q] at hX; exact hX) hT H locs ls hR hS hl hA)
theorem or_icmp_gt (C : oh_C G cc Ts own R0 nL) {x y : Int32} {off : Int} (tgt : Nat) (d : decode cc pc = .ok (.if_icmp .gt off, 3)) (ht : (pc : Int) + off = (tgt : Int)) (kt : oh_J T e1 (oh_V G cells slots h tgt lv st)) (kf : oh_J T e2 (oh_V G cells slots h (pc + 3) lv st)) : oh_J T (if y < x then e1 else e2) (oh_V G cells slots h pc lv (xi y :: xi x :: st)) :=
  fun X hX hT H locs ls hR hS hl hA => lv_icmp_gt C.1 C.2.1 d ht (fun q => kt X (by rw [if_pos q] at hX; exact hX) hT H locs ls hR hS hl hA) (fun q => kf X (by rw [if_neg q] at hX; exact hX) hT H locs ls hR hS hl hA)
theorem or_icmp_le (C : oh_C G cc Ts own R0 nL) {x y : Int32} {off : Int} (tgt : Nat) (d : decode cc pc = .ok (.if_icmp .le off, 3)) (ht : (pc : Int) + off = (tgt : Int)) (kt : oh_J T e1 (oh_V G cells slots h tgt lv st)) (kf : oh_J T e2 (oh_V G cells slots h (pc + 3) lv st)) : oh_J T (if x ≤ y then e1 else e2) (oh_V G cells slots h pc lv (xi y :: xi x :: st)) :=
  fun X hX hT H locs ls hR hS hl hA => lv_icmp_le C.1 C.2.1 d ht (fun q => kt X (by rw [if_pos q] at hX; exact hX) hT H locs ls hR hS hl hA) (fun q => kf X (by rw [if_neg q] at hX; exact hX) hT H locs ls hR hS hl hA)
theorem or_acmp_eq (C : oh_C G cc Ts own R0 nL) {x y : Option Nat} {off : Int} (tgt : Nat) (d : decode cc pc = .ok (.if_acmp .eq off, 3)) (ht : (pc : Int) + off = (tgt : Int)) (kt : oh_J T e1 (oh_V G cells slots h tgt lv st)) (kf : oh_J T e2 (oh_V G cells slots h (pc + 3) lv st)) : oh_J T (if x = y then e1 else e2) (oh_V G cells slots h pc lv (xr y :: xr x :: st)) :=
  fun X hX hT H locs ls hR hS hl hA => lv_acmp_eq C.1 C.2.1 d ht (fun q => kt X (by rw [if_pos q] at hX; exact hX) hT H locs ls hR hS hl hA) (fun q => kf X (by rw [if_neg q] at hX; exact hX) hT H locs ls hR hS hl hA)
theorem or_ifnull (C : oh_C G cc Ts own R0 nL) {x : Option Nat} {off : Int} (tgt : Nat) (d : decode cc pc = .ok (.ifnull off, 3)) (ht : (pc : Int) + off = (tgt : Int)) (kt : oh_J T e1 (oh_V G cells slots h tgt lv st)) (kf : oh_J T e2 (oh_V G cells slots h (pc + 3) lv st)) : oh_J T (if x = none then e1 else e2) (oh_V G cells slots h pc lv (xr x :: st)) :=
  fun X hX hT H locs ls hR hS hl hA => by
    cases x with
    | none => exact lv_ifnullN C.1 C.2.1 d ht (kt X (by rw [if_pos rfl] at hX; exact hX) hT H locs ls hR hS hl hA)
    | some a => exact lv_ifnull C.1 C.2.1 d (kf X (by rw [if_neg (fun q => by cases q)] at hX; exact hX) hT H locs ls hR hS hl hA)
theorem or_ifnonnull (C : oh_C G cc Ts own R0 nL) {x : Option Nat} {off : Int} (tgt : Nat) (d : decode cc pc = .ok (.ifnonnull off, 3)) (ht : (pc : Int) + off = (tgt : Int)) (kf : oh_J T e1 (oh_V G cells slots h (pc + 3) lv st)) (kt : oh_J T e2 (oh_V G cells slots h tgt lv st)) : oh_J T (if x = none then e1 else e2) (oh_V G cells slots h pc lv (xr x :: st)) :=
  fun X hX hT H locs ls hR hS hl hA => by
    cases x with
    | none => exact lv_ifnonnullN C.1 C.2.1 d (kf X (by rw [if_pos rfl] at hX; exact hX) hT H locs ls hR hS hl hA)
    | some a => exact lv_ifnonnull C.1 C.2.1 d ht (kt X (by rw [if_neg (fun q => by cases q)] at hX; exact hX) hT H locs ls hR hS hl hA)
/-- a switch, case by case; at its end the default -/
theorem or_case (C : oh_C G cc Ts own R0 nL) {x v : Int32} (i : Nat) {dflt hi off : Int} {offs : Array Int} {len : Nat} (tgt : Nat) (d : decode cc pc = .ok (.tableswitch dflt 0 hi offs, len)) (hv : v.toInt = (i : Int)) (hhi : ¬ hi < (i : Int)) (ho : offs[i]? = some off) (ht : (pc : Int) + off = (tgt : Int)) (kt : oh_J T e1 (oh_V G cells slots h tgt lv st)) (kf : ¬ x.toInt = (i : Int) → oh_J T e2 (oh_V G cells slots h pc lv (xi x :: st))) : oh_J T (if x = v then e1 else e2) (oh_V G cells slots h pc lv (xi x :: st)) := by
  by_cases q : x = v
  · rw [if_pos q]
    subst q
    exact fun X hX hT H locs ls hR hS hl hA => lv_tableIn C.1 C.2.1 d (by rw [hv]; omega) (by rw [hv]; exact hhi) (by rw [hv]; simpa using ho) ht (kt X hX hT H locs ls hR hS hl hA)
  · rw [if_neg q]
    exact kf (fun z => q (Int32.toInt_inj.mp (z.trans hv.symm)))
theorem or_dflt (C : oh_C G cc Ts own R0 nL) {x : Int32} {dflt hi : Int} {offs : Array Int} {len : Nat} (tgt : Nat) (d : decode cc pc = .ok (.tableswitch dflt 0 hi offs, len)) (hx : x.toInt < 0 ∨ hi < x.toInt) (ht : (pc : Int) + dflt = (tgt : Int)) (k : oh_J T e (oh_V G cells slots h tgt lv st)) : oh_J T e (oh_V G cells slots h pc lv (xi x :: st)) :=
  or_lift k (fun _ _ _ _ w => lv_tableOut C.1 C.2.1 d hx ht w)
/-! fields -/
theorem oh_fld {D : va_G} {dA : Nat → ClassId} {H : Heap} {Cn : String} {TT : u_T} {N ci a : Nat} (hR : oh_R D dA h H) (hk : oh_K h a = ci + 1) (hci : ci < 19) (hc : vwCl[ci]? = some (Cn, TT, N)) : t_OB a (D.1 ci) N (D.2 ci) H (fun k => oh_val h ci k a) := by
  obtain ⟨r, h1, h2⟩ := (hR.2 a (by omega)).1 (by omega)
  rw [hk, Nat.add_sub_cancel] at h1 h2
  cases h1.symm.trans hc
  exact h2
theorem or_get0 (C : oh_C G cc Ts own R0 nL) {Cn : String} {TT : u_T} {N ci k index a : Nat} (hc : vwCl[ci]? = some (Cn, TT, N)) (hci : ci < 19) (hin : ∀ w ∈ u_ws Cn TT N, w ∈ Ts) (hk : k < N) (hlink : Cond.fieldLink own index (TT k).1 (TT k).2.1 (TT k).2.2.1 ∈ Ts) (ha : oh_K h a = ci + 1) (d : decode cc pc = .ok (.getfield index, 3)) {x : oh_X} (hx : oh_val h ci k a = oh_v x)
    (kk : oh_V G cells slots h (pc + 3) lv (x :: st)) : oh_V G cells slots h pc lv (xr (some a) :: st) := by
  intro H locs ls hR hS hl hA
  have hOB := oh_fld hR ha hci hc
  have hP : va_P G.2.2.2.1 vwCl [(a, .inr (ci, (List.range N).map (fun k => oh_val h ci k a)))] H := by
    intro j q hq
    cases j with
    | zero =>
      cases hq
      exact ⟨_, hc, hOB.to (fun k hk => by simp [vp_V, hk])⟩
    | succ j => simp at hq
  exact va_get C.1 C.2.1 C.2.2.2.2.1 hin C.2.2.2.1 C.2.2.2.2.2.1.1 hP 0 rfl hc k hk (C.2.2.2.2.1 _ hlink) (fun _ z => z) (v := oh_v x) (by simp [hk, hx]) d (kk H locs ls hR hS hl hA)
theorem or_getI (C : oh_C G cc Ts own R0 nL) {Cn : String} {TT : u_T} {N : Nat} (ci k : Nat) {index cd : Nat} (hcd : cd = 64 * ci + k) (hk64 : k < 64) (hc : vwCl[ci]? = some (Cn, TT, N)) (hci : ci < 19) (hin : ∀ w ∈ u_ws Cn TT N, w ∈ Ts) (hk : k < N) (hlink : Cond.fieldLink own index (TT k).1 (TT k).2.1 (TT k).2.2.1 ∈ Ts) (htag : oh_tag (64 * ci + k) = 0) (d : decode cc pc = .ok (.getfield index, 3)) {r : Option Nat} {K : Int32 → Option X}
    (kk : ∀ x, oh_J T (K x) (oh_V G cells slots h (pc + 3) lv (xi x :: st))) : oh_J T ((oh_gI h r cd).bind K) (oh_V G cells slots h pc lv (xr r :: st)) := by
  subst hcd
  cases r with
  | none => exact oj_none
  | some a =>
    by_cases q : oh_K h a = (64 * ci + k) / 64 + 1
    · have q' : oh_K h a = ci + 1 := by omega
      have e0 : oh_gI h (some a) (64 * ci + k) = some (oh_FI h (64 * ci + k) a) := by simp only [oh_gI, Option.bind_some, if_pos q]
      rw [e0, Option.bind_some]
      exact fun X hX hT => or_get0 C hc hci hin hk hlink q' d (x := xi (oh_FI h (64 * ci + k) a)) (by simp only [oh_val, htag, if_true]; rfl) (kk _ X hX hT)
    · have e0 : oh_gI h (some a) (64 * ci + k) = none := by simp only [oh_gI, Option.bind_some, if_neg q]
      rw [e0]; exact oj_none
theorem or_getL (C : oh_C G cc Ts own R0 nL) {Cn : String} {TT : u_T} {N : Nat} (ci k : Nat) {index cd : Nat} (hcd : cd = 64 * ci + k) (hk64 : k < 64) (hc : vwCl[ci]? = some (Cn, TT, N)) (hci : ci < 19) (hin : ∀ w ∈ u_ws Cn TT N, w ∈ Ts) (hk : k < N) (hlink : Cond.fieldLink own index (TT k).1 (TT k).2.1 (TT k).2.2.1 ∈ Ts) (htag : oh_tag (64 * ci + k) = 1) (d : decode cc pc = .ok (.getfield index, 3)) {r : Option Nat} {K : Int64 → Option X}
    (kk : ∀ x, oh_J T (K x) (oh_V G cells slots h (pc + 3) lv (xl x :: st))) : oh_J T ((oh_gL h r cd).bind K) (oh_V G cells slots h pc lv (xr r :: st)) := by
  subst hcd
  cases r with
  | none => exact oj_none
  | some a =>
    by_cases q : oh_K h a = (64 * ci + k) / 64 + 1
    · have q' : oh_K h a = ci + 1 := by omega
      have e0 : oh_gL h (some a) (64 * ci + k) = some (oh_FL h (64 * ci + k) a) := by simp only [oh_gL, Option.bind_some, if_pos q]
      rw [e0, Option.bind_some]
      exact fun X hX hT => or_get0 C hc hci hin hk hlink q' d (x := xl (oh_FL h (64 * ci + k) a)) (by simp only [oh_val, htag]; rfl) (kk _ X hX hT)
    · have e0 : oh_gL h (some a) (64 * ci + k) = none := by simp only [oh_gL, Option.bind_some, if_neg q]
      rw [e0]; exact oj_none
theorem or_getR (C : oh_C G cc Ts own R0 nL) {Cn : String} {TT : u_T} {N : Nat} (ci k : Nat) {index cd : Nat} (hcd : cd = 64 * ci + k) (hk64 : k < 64) (hc : vwCl[ci]? = some (Cn, TT, N)) (hci : ci < 19) (hin : ∀ w ∈ u_ws Cn TT N, w ∈ Ts) (hk : k < N) (hlink : Cond.fieldLink own index (TT k).1 (TT k).2.1 (TT k).2.2.1 ∈ Ts) (htag : oh_tag (64 * ci + k) = 2) (d : decode cc pc = .ok (.getfield index, 3)) {r : Option Nat} {K : Option Nat → Option X}
    (kk : ∀ x, oh_J T (K x) (oh_V G cells slots h (pc + 3) lv (xr x :: st))) : oh_J T ((oh_gR h r cd).bind K) (oh_V G cells slots h pc lv (xr r :: st)) := by
  subst hcd
  cases r with
  | none => exact oj_none
  | some a =>
    by_cases q : oh_K h a = (64 * ci + k) / 64 + 1
    · have q' : oh_K h a = ci + 1 := by omega
      have e0 : oh_gR h (some a) (64 * ci + k) = some (oh_FR h (64 * ci + k) a) := by simp only [oh_gR, Option.bind_some, if_pos q]
      rw [e0, Option.bind_some]
      exact fun X hX hT => or_get0 C hc hci hin hk hlink q' d (x := xr (oh_FR h (64 * ci + k) a)) (by simp only [oh_val, htag]; rfl) (kk _ X hX hT)
    · have e0 : oh_gR h (some a) (64 * ci + k) = none := by simp only [oh_gR, Option.bind_some, if_neg q]
      rw [e0]; exact oj_none
end ROWS
