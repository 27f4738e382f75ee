/-! X6_receive -/
theorem k_X6_receive_f9 : Cond.fieldLink RX6 9 "OilPress$Vat" "tenths" "I" ∈ wsX6_receive := List.mem_of_getElem? (i := 1) (by decide +kernel)
theorem u_X6_receive_6 : ∀ w ∈ u_ws RX6 TX6 8, w ∈ wsX6_receive := fun w h => List.mem_cons_of_mem _ (List.mem_append_left _ (List.mem_append_right _ (h)))
theorem k_X6_receive_f43 : Cond.fieldLink RX6 43 "OilPress$Mill" "given" "I" ∈ wsX6_receive := List.mem_of_getElem? (i := 2) (by decide +kernel)
theorem u_X6_receive_3 : ∀ w ∈ u_ws RX3 TX3 14, w ∈ wsX6_receive := fun w h => List.mem_cons_of_mem _ (List.mem_append_right _ (h))
theorem k_X6_receive_f15 : Cond.fieldLink RX6 15 "OilPress$Vat" "ofPress" "I" ∈ wsX6_receive := List.mem_of_getElem? (i := 3) (by decide +kernel)
theorem k_X6_receive_f56 : Cond.fieldLink RX6 56 "OilPress$Mill" "kept" "I" ∈ wsX6_receive := List.mem_of_getElem? (i := 4) (by decide +kernel)
theorem k_X6_receive_f22 : Cond.fieldLink RX6 22 "OilPress$Vat" "sourSum" "J" ∈ wsX6_receive := List.mem_of_getElem? (i := 5) (by decide +kernel)
theorem k_X6_receive_f49 : Cond.fieldLink RX6 49 "OilPress$Mill" "sourness" "I" ∈ wsX6_receive := List.mem_of_getElem? (i := 6) (by decide +kernel)
theorem k_X6_receive_f26 : Cond.fieldLink RX6 26 "OilPress$Vat" "sourTenths" "J" ∈ wsX6_receive := List.mem_of_getElem? (i := 7) (by decide +kernel)
abbrev rmX6_receive : Room := { frames := 0, cells := 0, slots := 0, locals := 0 }
def f_X6_receive (h : oh_H) (o : Nat) (v1 : Option Nat) : Option (oh_H) :=
  (oh_gI h (some o) 387).bind fun x1 => (oh_gI h v1 204).bind fun x2 => (oh_pI h (some o) 387 (x1 + x2)).bind fun h3 => (oh_gI h3 (some o) 388).bind fun x4 => (oh_gI h3 v1 205).bind fun x5 => (oh_pI h3 (some o) 388 (x4 + x5)).bind fun h6 => (oh_gL h6 (some o) 390).bind fun x7 => (oh_gI h6 v1 204).bind fun x8 => (oh_gI h6 v1 203).bind fun x9 => (oh_pL h6 (some o) 390 (x7 + ((Int32.toInt64 x8) * (Int32.toInt64 x9)))).bind fun h10 => (oh_gL h10 (some o) 391).bind fun x11 => (oh_gI h10 v1 204).bind fun x12 => (oh_pL h10 (some o) 391 (x11 + (Int32.toInt64 x12))).bind fun h13 => some h13
set_option maxHeartbeats 4000000 in
set_option maxRecDepth 100000 in
theorem w_X6_receive_0 {G : oh_G} {l : Launch} (C : oh_C G cX6_receive wsX6_receive RX6 rmX6_receive 2) (hl : G.1.2.1 = l) (h0 : oh_H) (h : oh_H) (o : Nat) (v1 : Option Nat) : oh_J (oh_TV h0 0 0 none G) (f_X6_receive h o v1) (oh_V G 0 0 h 0 [(0, xr (some o)), (1, xr v1)] []) := by
  unfold f_X6_receive
  refine or_aload_n C 0 rfl dX6_receive_0 ?_
  refine or_dup C rfl dX6_receive_1 ?_
  refine or_getI C 6 3 rfl (by decide) rfl (by decide) u_X6_receive_6 (by decide) k_X6_receive_f9 (by decide +kernel) dX6_receive_2 (fun x1 => ?_)
  refine or_aload_n C 1 rfl dX6_receive_5 ?_
  refine or_getI C 3 12 rfl (by decide) rfl (by decide) u_X6_receive_3 (by decide) k_X6_receive_f43 (by decide +kernel) dX6_receive_6 (fun x2 => ?_)
  refine or_iadd C dX6_receive_9 ?_
  refine or_putI C 6 3 rfl (by decide) rfl (by decide) u_X6_receive_6 tyX6 tyX6_ok nmX6 (by decide) k_X6_receive_f9 (Or.inl rfl) (by decide +kernel) rfl dX6_receive_10 (fun h3 => ?_)
  refine or_aload_n C 0 rfl dX6_receive_13 ?_
  refine or_dup C rfl dX6_receive_14 ?_
  refine or_getI C 6 4 rfl (by decide) rfl (by decide) u_X6_receive_6 (by decide) k_X6_receive_f15 (by decide +kernel) dX6_receive_15 (fun x4 => ?_)
  refine or_aload_n C 1 rfl dX6_receive_18 ?_
  refine or_getI C 3 13 rfl (by decide) rfl (by decide) u_X6_receive_3 (by decide) k_X6_receive_f56 (by decide +kernel) dX6_receive_19 (fun x5 => ?_)
  refine or_iadd C dX6_receive_22 ?_
  refine or_putI C 6 4 rfl (by decide) rfl (by decide) u_X6_receive_6 tyX6 tyX6_ok nmX6 (by decide) k_X6_receive_f15 (Or.inl rfl) (by decide +kernel) rfl dX6_receive_23 (fun h6 => ?_)
  refine or_aload_n C 0 rfl dX6_receive_26 ?_
  refine or_dup C rfl dX6_receive_27 ?_
  refine or_getL C 6 6 rfl (by decide) rfl (by decide) u_X6_receive_6 (by decide) k_X6_receive_f22 (by decide +kernel) dX6_receive_28 (fun x7 => ?_)
  refine or_aload_n C 1 rfl dX6_receive_31 ?_
  refine or_getI C 3 12 rfl (by decide) rfl (by decide) u_X6_receive_3 (by decide) k_X6_receive_f43 (by decide +kernel) dX6_receive_32 (fun x8 => ?_)
  refine or_i2l C dX6_receive_35 ?_
  refine or_aload_n C 1 rfl dX6_receive_36 ?_
  refine or_getI C 3 11 rfl (by decide) rfl (by decide) u_X6_receive_3 (by decide) k_X6_receive_f49 (by decide +kernel) dX6_receive_37 (fun x9 => ?_)
  refine or_i2l C dX6_receive_40 ?_
  refine or_lmul C dX6_receive_41 ?_
  refine or_ladd C dX6_receive_42 ?_
  refine or_putL C 6 6 rfl (by decide) rfl (by decide) u_X6_receive_6 tyX6 tyX6_ok nmX6 (by decide) k_X6_receive_f22 (Or.inl rfl) (by decide +kernel) rfl dX6_receive_43 (fun h10 => ?_)
  refine or_aload_n C 0 rfl dX6_receive_46 ?_
  refine or_dup C rfl dX6_receive_47 ?_
  refine or_getL C 6 7 rfl (by decide) rfl (by decide) u_X6_receive_6 (by decide) k_X6_receive_f26 (by decide +kernel) dX6_receive_48 (fun x11 => ?_)
  refine or_aload_n C 1 rfl dX6_receive_51 ?_
  refine or_getI C 3 12 rfl (by decide) rfl (by decide) u_X6_receive_3 (by decide) k_X6_receive_f43 (by decide +kernel) dX6_receive_52 (fun x12 => ?_)
  refine or_i2l C dX6_receive_55 ?_
  refine or_ladd C dX6_receive_56 ?_
  refine or_putL C 6 7 rfl (by decide) rfl (by decide) u_X6_receive_6 tyX6 tyX6_ok nmX6 (by decide) k_X6_receive_f26 (Or.inl rfl) (by decide +kernel) rfl dX6_receive_57 (fun h13 => ?_)
  exact or_vret C ⟨Nat.le_of_ble_eq_true rfl, Nat.le_of_ble_eq_true rfl⟩ dX6_receive_60
theorem m_X6_receive (l : Launch) (h : oh_H) (o : Nat) (v1 : Option Nat) (p : oh_H) (hf : f_X6_receive h o v1 = some p) : oh_M l yX6_receive wsX6_receive rmX6_receive 0 0 [xr (some o), xr v1] h none p :=
  oh_met (cc := cX6_receive) (maxL := 2) (ret := none) (by decide) rfl (Nat.le_of_ble_eq_true rfl) (fun G C hl hN E => w_X6_receive_0 C hl h h o v1 p hf E)
/-! X6_lose -/
theorem k_X6_lose_f18 : Cond.fieldLink RX6 18 "OilPress$Vat" "isTapped" "Z" ∈ wsX6_lose := List.mem_of_getElem? (i := 2) (by decide +kernel)
theorem u_X6_lose_6 : ∀ w ∈ u_ws RX6 TX6 8, w ∈ wsX6_lose := fun w h => List.mem_cons_of_mem _ (List.mem_append_right _ (h))
theorem k_X6_lose_f9 : Cond.fieldLink RX6 9 "OilPress$Vat" "tenths" "I" ∈ wsX6_lose := List.mem_of_getElem? (i := 1) (by decide +kernel)
theorem k_X6_lose_f22 : Cond.fieldLink RX6 22 "OilPress$Vat" "sourSum" "J" ∈ wsX6_lose := List.mem_of_getElem? (i := 3) (by decide +kernel)
theorem k_X6_lose_f26 : Cond.fieldLink RX6 26 "OilPress$Vat" "sourTenths" "J" ∈ wsX6_lose := List.mem_of_getElem? (i := 4) (by decide +kernel)
abbrev rmX6_lose : Room := { frames := 0, cells := 0, slots := 0, locals := 0 }
def f_X6_lose_44 (h : oh_H) (o : Nat) : Option (oh_H) :=
  some h
def f_X6_lose_23 (h : oh_H) (o : Nat) (s0 : Int32) (s1 : Option Nat) : Option (oh_H) :=
  oh_bz s0 ((oh_pI h s1 389 s0).bind fun h1 => (oh_gI h1 (some o) 387).bind fun x2 => if (1 : Int32) ≤ x2 then (f_X6_lose_44 h1 o) else ((oh_pL h1 (some o) 390 (0 : Int64)).bind fun h3 => (oh_pL h3 (some o) 391 (0 : Int64)).bind fun h4 => f_X6_lose_44 h4 o))
def f_X6_lose (h : oh_H) (o : Nat) (v1 : Int32) : Option (oh_H) :=
  (oh_gI h (some o) 387).bind fun x1 => (oh_pI h (some o) 387 (x1 - v1)).bind fun h2 => (oh_gI h2 (some o) 387).bind fun x3 => if x3 ≤ 0 then (f_X6_lose_23 h2 o (0 : Int32) (some o)) else (f_X6_lose_23 h2 o (1 : Int32) (some o))
set_option maxHeartbeats 4000000 in
set_option maxRecDepth 100000 in
theorem w_X6_lose_44 {G : oh_G} {l : Launch} (C : oh_C G cX6_lose wsX6_lose RX6 rmX6_lose 2) (hl : G.1.2.1 = l) (h0 : oh_H) (h : oh_H) (o : Nat) : oh_J (oh_TV h0 0 0 none G) (f_X6_lose_44 h o) (oh_V G 0 0 h 44 [] []) := by
  unfold f_X6_lose_44
  exact or_vret C ⟨Nat.le_of_ble_eq_true rfl, Nat.le_of_ble_eq_true rfl⟩ dX6_lose_44
set_option maxHeartbeats 4000000 in
set_option maxRecDepth 100000 in
theorem w_X6_lose_23 {G : oh_G} {l : Launch} (C : oh_C G cX6_lose wsX6_lose RX6 rmX6_lose 2) (hl : G.1.2.1 = l) (h0 : oh_H) (h : oh_H) (o : Nat) (s0 : Int32) (s1 : Option Nat) : oh_J (oh_TV h0 0 0 none G) (f_X6_lose_23 h o s0 s1) (oh_V G 0 0 h 23 [(0, xr (some o))] [xi s0, xr s1]) := by
  unfold f_X6_lose_23
  refine or_putZ C 6 5 rfl (by decide) rfl (by decide) u_X6_lose_6 tyX6 tyX6_ok nmX6 (by decide) k_X6_lose_f18 (Or.inl rfl) (by decide +kernel) rfl dX6_lose_23 (fun h1 => ?_)
  refine or_aload_n C 0 rfl dX6_lose_26 ?_
  refine or_getI C 6 3 rfl (by decide) rfl (by decide) u_X6_lose_6 (by decide) k_X6_lose_f9 (by decide +kernel) dX6_lose_27 (fun x2 => ?_)
  refine or_iconst C (v := (1 : Int32)) dX6_lose_30 (by decide) ?_
  refine or_icmp_ge C 44 dX6_lose_31 (by decide) ?_ ?_
  · refine or_sub [] rfl ?_
    exact w_X6_lose_44 C hl h0 h1 o
  · refine or_aload_n C 0 rfl dX6_lose_34 ?_
    refine or_lconst C (v := (0 : Int64)) dX6_lose_35 rfl ?_
    refine or_putL C 6 6 rfl (by decide) rfl (by decide) u_X6_lose_6 tyX6 tyX6_ok nmX6 (by decide) k_X6_lose_f22 (Or.inl rfl) (by decide +kernel) rfl dX6_lose_36 (fun h3 => ?_)
    refine or_aload_n C 0 rfl dX6_lose_39 ?_
    refine or_lconst C (v := (0 : Int64)) dX6_lose_40 rfl ?_
    refine or_putL C 6 7 rfl (by decide) rfl (by decide) u_X6_lose_6 tyX6 tyX6_ok nmX6 (by decide) k_X6_lose_f26 (Or.inl rfl) (by decide +kernel) rfl dX6_lose_41 (fun h4 => ?_)
    refine or_sub [] rfl ?_
    exact w_X6_lose_44 C hl h0 h4 o
set_option maxHeartbeats 4000000 in
set_option maxRecDepth 100000 in
theorem w_X6_lose_0 {G : oh_G} {l : Launch} (C : oh_C G cX6_lose wsX6_lose RX6 rmX6_lose 2) (hl : G.1.2.1 = l) (h0 : oh_H) (h : oh_H) (o : Nat) (v1 : Int32) : oh_J (oh_TV h0 0 0 none G) (f_X6_lose h o v1) (oh_V G 0 0 h 0 [(0, xr (some o)), (1, xi v1)] []) := by
  unfold f_X6_lose
  refine or_aload_n C 0 rfl dX6_lose_0 ?_
  refine or_dup C rfl dX6_lose_1 ?_
  refine or_getI C 6 3 rfl (by decide) rfl (by decide) u_X6_lose_6 (by decide) k_X6_lose_f9 (by decide +kernel) dX6_lose_2 (fun x1 => ?_)
  refine or_iload_n C 1 rfl dX6_lose_5 ?_
  refine or_isub C dX6_lose_6 ?_
  refine or_putI C 6 3 rfl (by decide) rfl (by decide) u_X6_lose_6 tyX6 tyX6_ok nmX6 (by decide) k_X6_lose_f9 (Or.inl rfl) (by decide +kernel) rfl dX6_lose_7 (fun h2 => ?_)
  refine or_aload_n C 0 rfl dX6_lose_10 ?_
  refine or_aload_n C 0 rfl dX6_lose_11 ?_
  refine or_getI C 6 3 rfl (by decide) rfl (by decide) u_X6_lose_6 (by decide) k_X6_lose_f9 (by decide +kernel) dX6_lose_12 (fun x3 => ?_)
  refine or_if_le C 22 dX6_lose_15 (by decide) ?_ ?_
  · refine or_iconst C (v := (0 : Int32)) dX6_lose_22 (by decide) ?_
    refine or_sub [0] rfl ?_
    exact w_X6_lose_23 C hl h0 h2 o (0 : Int32) (some o)
  · refine or_iconst C (v := (1 : Int32)) dX6_lose_18 (by decide) ?_
    refine or_goto C 23 dX6_lose_19 (by decide) ?_
    refine or_sub [0] rfl ?_
    exact w_X6_lose_23 C hl h0 h2 o (1 : Int32) (some o)
theorem m_X6_lose (l : Launch) (h : oh_H) (o : Nat) (v1 : Int32) (p : oh_H) (hf : f_X6_lose h o v1 = some p) : oh_M l yX6_lose wsX6_lose rmX6_lose 0 0 [xr (some o), xi v1] h none p :=
  oh_met (cc := cX6_lose) (maxL := 2) (ret := none) (by decide) rfl (Nat.le_of_ble_eq_true rfl) (fun G C hl hN E => w_X6_lose_0 C hl h h o v1 p hf E)
/-! X6_loseOfPress -/
theorem k_X6_loseOfPress_f15 : Cond.fieldLink RX6 15 "OilPress$Vat" "ofPress" "I" ∈ wsX6_loseOfPress := List.mem_of_getElem? (i := 1) (by decide +kernel)
theorem u_X6_loseOfPress_6 : ∀ w ∈ u_ws RX6 TX6 8, w ∈ wsX6_loseOfPress := fun w h => List.mem_cons_of_mem _ (List.mem_append_right _ (h))
abbrev rmX6_loseOfPress : Room := { frames := 1, cells := 0, slots := 0, locals := 21 }
def f_X6_loseOfPress (h : oh_H) (o : Nat) (v1 : Int32) : Option (oh_H) :=
  (oh_gI h (some o) 388).bind fun x1 => (oh_pI h (some o) 388 (x1 - v1)).bind fun h2 => oh_rc h2 (some o) 7 fun o4 => (f_X6_lose h2 o4 v1).bind fun p5 => some p5
set_option maxHeartbeats 4000000 in
set_option maxRecDepth 100000 in
theorem w_X6_loseOfPress_0 {G : oh_G} {l : Launch} (C : oh_C G cX6_loseOfPress wsX6_loseOfPress RX6 rmX6_loseOfPress 2) (hl : G.1.2.1 = l) (h0 : oh_H) (h : oh_H) (o : Nat) (v1 : Int32) : oh_J (oh_TV h0 0 0 none G) (f_X6_loseOfPress h o v1) (oh_V G 0 0 h 0 [(0, xr (some o)), (1, xi v1)] []) := by
  unfold f_X6_loseOfPress
  refine or_aload_n C 0 rfl dX6_loseOfPress_0 ?_
  refine or_dup C rfl dX6_loseOfPress_1 ?_
  refine or_getI C 6 4 rfl (by decide) rfl (by decide) u_X6_loseOfPress_6 (by decide) k_X6_loseOfPress_f15 (by decide +kernel) dX6_loseOfPress_2 (fun x1 => ?_)
  refine or_iload_n C 1 rfl dX6_loseOfPress_5 ?_
  refine or_isub C dX6_loseOfPress_6 ?_
  refine or_putI C 6 4 rfl (by decide) rfl (by decide) u_X6_loseOfPress_6 tyX6 tyX6_ok nmX6 (by decide) k_X6_loseOfPress_f15 (Or.inl rfl) (by decide +kernel) rfl dX6_loseOfPress_7 (fun h2 => ?_)
  refine or_aload_n C 0 rfl dX6_loseOfPress_10 ?_
  refine or_iload_n C 1 rfl dX6_loseOfPress_11 ?_
  refine oj_rcs (fun q3 => ?_)
  refine oj_bind (fun p5 z6 => ?_)
  refine oj_v (P := oh_V G 0 0 p5 15 [(0, xr (some o)), (1, xi v1)] []) (fun k => or_callV C 1 hl (m_X6_lose _ h2 o v1 p5 z6) gX6_loseOfPress_X6_lose rfl rfl rfl (by decide +kernel) ⟨Nat.le_of_ble_eq_true rfl, Nat.le_of_ble_eq_true rfl⟩ q3 rfl (by decide) (Nat.le_of_ble_eq_true rfl) dX6_loseOfPress_12 ⟨Nat.le_of_ble_eq_true rfl, Nat.le_of_ble_eq_true rfl⟩ rfl rfl k) ?_
  exact or_vret C ⟨Nat.le_of_ble_eq_true rfl, Nat.le_of_ble_eq_true rfl⟩ dX6_loseOfPress_15
theorem m_X6_loseOfPress (l : Launch) (h : oh_H) (o : Nat) (v1 : Int32) (p : oh_H) (hf : f_X6_loseOfPress h o v1 = some p) : oh_M l yX6_loseOfPress wsX6_loseOfPress rmX6_loseOfPress 0 0 [xr (some o), xi v1] h none p :=
  oh_met (cc := cX6_loseOfPress) (maxL := 2) (ret := none) (by decide) rfl (Nat.le_of_ble_eq_true rfl) (fun G C hl hN E => w_X6_loseOfPress_0 C hl h h o v1 p hf E)
/-! X6_commonDivisor -/
theorem k_X6_commonDivisor_ml67 : Cond.methodLink RX6 67 Lib.MathLoose.max_long.x ∈ wsX6_commonDivisor := List.mem_of_getElem? (i := 1) (by decide +kernel)
theorem k_X6_commonDivisor_msmmaxL : Cond.static Lib.MathLoose.max_long.x ∈ wsX6_commonDivisor := List.mem_of_getElem? (i := 2) (by decide +kernel)
theorem k_X6_commonDivisor_mi : Cond.initialized "java/lang/Math" ∈ wsX6_commonDivisor := List.mem_of_getElem? (i := 3) (by decide +kernel)
theorem k_X6_commonDivisor_mcmmaxL : Cond.code Lib.MathLoose.max_long.x Lib.MathLoose.max_long.code 4 (some .long) ∈ wsX6_commonDivisor := List.mem_of_getElem? (i := 4) (by decide +kernel)
abbrev rmX6_commonDivisor : Room := { frames := 1, cells := 0, slots := 0, locals := 23 }
def f_X6_commonDivisor_33 (h : oh_H) (v0 : Int64) : Option (Int64) :=
  some (if v0 < (1 : Int64) then (1 : Int64) else v0)
abbrev pv_X6_commonDivisor_3 (G : oh_G) (h : oh_H) : (Int64 × Int64 × Int32) → Prop := fun s => oh_V G 0 0 h 3 [(0, xl s.1), (2, xl s.2.1), (4, xi s.2.2)] []
def b_X6_commonDivisor_3 (h : oh_H) (v0 : Int64) (v2 : Int64) (v4 : Int32) : Option ((Int64 × Int64 × Int32) ⊕ (Int64)) :=
  if (200 : Int32) ≤ v4 then (Option.map Sum.inr (f_X6_commonDivisor_33 h v0)) else (if (lg_cmp v2 (0 : Int64)) ≤ 0 then (Option.map Sum.inr (f_X6_commonDivisor_33 h v0)) else (if v2 = 0 then none else oh_lt (v0 - v0 / v2 * v2) fun x1 => oh_lt v2 fun x2 => oh_lt x1 fun x3 => oh_lt (v4 + (1 : Int32)) fun x4 => some (Sum.inl (x2, x3, x4))))
def f_X6_commonDivisor_3 (h : oh_H) (v0 : Int64) (v2 : Int64) (v4 : Int32) : Option (Int64) := oh_loop (fun s : Int64 × Int64 × Int32 => b_X6_commonDivisor_3 h s.1 s.2.1 s.2.2) 1000000 (v0, v2, v4)
def f_X6_commonDivisor (h : oh_H) (v0 : Int64) (v2 : Int64) : Option (Int64) :=
  oh_lt (0 : Int32) fun x1 => f_X6_commonDivisor_3 h v0 v2 x1
set_option maxHeartbeats 4000000 in
set_option maxRecDepth 100000 in
theorem w_X6_commonDivisor_33 {G : oh_G} {l : Launch} (C : oh_C G cX6_commonDivisor wsX6_commonDivisor RX6 rmX6_commonDivisor 7) (hl : G.1.2.1 = l) (h : oh_H) (v0 : Int64) : oh_J (oh_TR h xl (some .long) G) (f_X6_commonDivisor_33 h v0) (oh_V G 0 0 h 33 [(0, xl v0)] []) := by
  unfold f_X6_commonDivisor_33
  refine or_lconst C (v := (1 : Int64)) dX6_commonDivisor_33 rfl ?_
  refine or_lload_n C 0 rfl dX6_commonDivisor_34 ?_
  refine or_mmaxL C k_X6_commonDivisor_ml67 k_X6_commonDivisor_msmmaxL k_X6_commonDivisor_mi k_X6_commonDivisor_mcmmaxL ⟨Nat.le_of_ble_eq_true rfl, Nat.le_of_ble_eq_true rfl, Nat.le_of_ble_eq_true rfl⟩ (Nat.le_of_ble_eq_true rfl) dX6_commonDivisor_35 ?_
  exact or_lretR C dX6_commonDivisor_38
set_option maxHeartbeats 4000000 in
set_option maxRecDepth 100000 in
theorem wb_X6_commonDivisor_3 {G : oh_G} {l : Launch} (C : oh_C G cX6_commonDivisor wsX6_commonDivisor RX6 rmX6_commonDivisor 7) (hl : G.1.2.1 = l) (h : oh_H) (v0 : Int64) (v2 : Int64) (v4 : Int32) : oh_J (oh_TL (pv_X6_commonDivisor_3 G h) (oh_TR h xl (some .long) G)) (b_X6_commonDivisor_3 h v0 v2 v4) (oh_V G 0 0 h 3 [(0, xl v0), (2, xl v2), (4, xi v4)] []) := by
  unfold b_X6_commonDivisor_3
  refine or_iload C 2 rfl dX6_commonDivisor_3 ?_
  refine or_sipush C (v := (200 : Int32)) dX6_commonDivisor_5 (by decide) ?_
  refine or_icmp_ge C 33 dX6_commonDivisor_8 (by decide) ?_ ?_
  · refine oj_inr ?_
    refine or_sub [0] rfl ?_
    exact w_X6_commonDivisor_33 C hl h v0
  · refine or_lload_n C 1 rfl dX6_commonDivisor_11 ?_
    refine or_lconst C (v := (0 : Int64)) dX6_commonDivisor_12 rfl ?_
    refine or_lcmp C dX6_commonDivisor_13 ?_
    refine or_if_le C 33 dX6_commonDivisor_14 (by decide) ?_ ?_
    · refine oj_inr ?_
      refine or_sub [0] rfl ?_
      exact w_X6_commonDivisor_33 C hl h v0
    · refine or_lload_n C 0 rfl dX6_commonDivisor_17 ?_
      refine or_lload_n C 1 rfl dX6_commonDivisor_18 ?_
      refine or_lrem C dX6_commonDivisor_19 ?_
      refine or_lstore C (fun x1 => [(5, xl x1), (0, xl v0), (2, xl v2), (4, xi v4)]) (fun _ => rfl) (by decide) dX6_commonDivisor_20 (fun x1 => ?_)
      refine or_lload_n C 2 rfl dX6_commonDivisor_22 ?_
      refine or_lstore_n C (fun x2 => [(0, xl x2), (5, xl x1), (2, xl v2), (4, xi v4)]) (fun _ => rfl) (by decide) dX6_commonDivisor_23 (fun x2 => ?_)
      refine or_lload C 1 rfl dX6_commonDivisor_24 ?_
      refine or_lstore_n C (fun x3 => [(2, xl x3), (0, xl x2), (5, xl x1), (4, xi v4)]) (fun _ => rfl) (by decide) dX6_commonDivisor_26 (fun x3 => ?_)
      refine or_iinc C (y := (1 : Int32)) 3 rfl (by decide) (fun x4 => [(4, xi x4), (2, xl x3), (0, xl x2), (5, xl x1)]) (fun _ => rfl) (by decide) dX6_commonDivisor_27 (fun x4 => ?_)
      refine or_goto C 3 dX6_commonDivisor_30 (by decide) ?_
      refine or_sub [2, 1, 0] rfl ?_
      exact oj_back (P := pv_X6_commonDivisor_3 G h) (s := (x2, x3, x4))
theorem w_X6_commonDivisor_3 {G : oh_G} {l : Launch} (C : oh_C G cX6_commonDivisor wsX6_commonDivisor RX6 rmX6_commonDivisor 7) (hl : G.1.2.1 = l) (h : oh_H) (v0 : Int64) (v2 : Int64) (v4 : Int32) : oh_J (oh_TR h xl (some .long) G) (f_X6_commonDivisor_3 h v0 v2 v4) (oh_V G 0 0 h 3 [(0, xl v0), (2, xl v2), (4, xi v4)] []) := by
  unfold f_X6_commonDivisor_3
  exact oj_loop (P := pv_X6_commonDivisor_3 G h) (fun s => wb_X6_commonDivisor_3 C hl h s.1 s.2.1 s.2.2) 1000000 (v0, v2, v4)
set_option maxHeartbeats 4000000 in
set_option maxRecDepth 100000 in
theorem w_X6_commonDivisor_0 {G : oh_G} {l : Launch} (C : oh_C G cX6_commonDivisor wsX6_commonDivisor RX6 rmX6_commonDivisor 7) (hl : G.1.2.1 = l) (h : oh_H) (v0 : Int64) (v2 : Int64) : oh_J (oh_TR h xl (some .long) G) (f_X6_commonDivisor h v0 v2) (oh_V G 0 0 h 0 [(0, xl v0), (2, xl v2)] []) := by
  unfold f_X6_commonDivisor
  refine or_iconst C (v := (0 : Int32)) dX6_commonDivisor_0 (by decide) ?_
  refine or_istore C (fun x1 => [(4, xi x1), (0, xl v0), (2, xl v2)]) (fun _ => rfl) (by decide) dX6_commonDivisor_1 (fun x1 => ?_)
  refine or_sub [1, 2, 0] rfl ?_
  exact w_X6_commonDivisor_3 C hl h v0 v2 x1
theorem m_X6_commonDivisor (l : Launch) (h : oh_H) (v0 : Int64) (v2 : Int64) (p : Int64) (hf : f_X6_commonDivisor h v0 v2 = some p) : oh_M l yX6_commonDivisor wsX6_commonDivisor rmX6_commonDivisor 0 0 [xl v0, xl v2] h (some (xl p)) h :=
  oh_met (cc := cX6_commonDivisor) (maxL := 7) (ret := (some .long)) (by decide) rfl (Nat.le_of_ble_eq_true rfl) (fun G C hl hN E => w_X6_commonDivisor_0 C hl h v0 v2 p hf E)
/-! X6_sournessAbove -/
theorem k_X6_sournessAbove_f22 : Cond.fieldLink RX6 22 "OilPress$Vat" "sourSum" "J" ∈ wsX6_sournessAbove := List.mem_of_getElem? (i := 1) (by decide +kernel)
theorem u_X6_sournessAbove_6 : ∀ w ∈ u_ws RX6 TX6 8, w ∈ wsX6_sournessAbove := fun w h => List.mem_cons_of_mem _ (List.mem_append_right _ (h))
theorem k_X6_sournessAbove_f26 : Cond.fieldLink RX6 26 "OilPress$Vat" "sourTenths" "J" ∈ wsX6_sournessAbove := List.mem_of_getElem? (i := 2) (by decide +kernel)
abbrev rmX6_sournessAbove : Room := { frames := 2, cells := 0, slots := 0, locals := 49 }
def f_X6_sournessAbove (h : oh_H) (o : Nat) : Option (Int32) :=
  (oh_gL h (some o) 390).bind fun x1 => (oh_gL h (some o) 390).bind fun x2 => (oh_gL h (some o) 391).bind fun x3 => (f_X6_commonDivisor h x2 x3).bind fun p4 => if p4 = 0 then none else some (Int64.toInt32 (x1 / p4))
set_option maxHeartbeats 4000000 in
set_option maxRecDepth 100000 in
theorem w_X6_sournessAbove_0 {G : oh_G} {l : Launch} (C : oh_C G cX6_sournessAbove wsX6_sournessAbove RX6 rmX6_sournessAbove 1) (hl : G.1.2.1 = l) (h : oh_H) (o : Nat) : oh_J (oh_TR h xi (some .int) G) (f_X6_sournessAbove h o) (oh_V G 0 0 h 0 [(0, xr (some o))] []) := by
  unfold f_X6_sournessAbove
  refine or_aload_n C 0 rfl dX6_sournessAbove_0 ?_
  refine or_getL C 6 6 rfl (by decide) rfl (by decide) u_X6_sournessAbove_6 (by decide) k_X6_sournessAbove_f22 (by decide +kernel) dX6_sournessAbove_1 (fun x1 => ?_)
  refine or_aload_n C 0 rfl dX6_sournessAbove_4 ?_
  refine or_getL C 6 6 rfl (by decide) rfl (by decide) u_X6_sournessAbove_6 (by decide) k_X6_sournessAbove_f22 (by decide +kernel) dX6_sournessAbove_5 (fun x2 => ?_)
  refine or_aload_n C 0 rfl dX6_sournessAbove_8 ?_
  refine or_getL C 6 7 rfl (by decide) rfl (by decide) u_X6_sournessAbove_6 (by decide) k_X6_sournessAbove_f26 (by decide +kernel) dX6_sournessAbove_9 (fun x3 => ?_)
  refine oj_bind (fun p4 z5 => ?_)
  refine oj_v (P := oh_V G 0 0 h 15 [(0, xr (some o))] [xl p4, xl x1]) (fun k => or_callS C 2 hl (m_X6_commonDivisor _ h x2 x3 p4 z5) gX6_sournessAbove_X6_commonDivisor rfl rfl rfl (by decide +kernel) ⟨Nat.le_of_ble_eq_true rfl, Nat.le_of_ble_eq_true rfl⟩ (Nat.le_of_ble_eq_true rfl) dX6_sournessAbove_12 ⟨Nat.le_of_ble_eq_true rfl, Nat.le_of_ble_eq_true rfl⟩ rfl rfl k) ?_
  refine or_ldiv C dX6_sournessAbove_15 ?_
  refine or_l2i C dX6_sournessAbove_16 ?_
  exact or_iretR C dX6_sournessAbove_17
theorem m_X6_sournessAbove (l : Launch) (h : oh_H) (o : Nat) (p : Int32) (hf : f_X6_sournessAbove h o = some p) : oh_M l yX6_sournessAbove wsX6_sournessAbove rmX6_sournessAbove 0 0 [xr (some o)] h (some (xi p)) h :=
  oh_met (cc := cX6_sournessAbove) (maxL := 1) (ret := (some .int)) (by decide) rfl (Nat.le_of_ble_eq_true rfl) (fun G C hl hN E => w_X6_sournessAbove_0 C hl h o p hf E)
/-! X6_sournessBelow -/
theorem k_X6_sournessBelow_f26 : Cond.fieldLink RX6 26 "OilPress$Vat" "sourTenths" "J" ∈ wsX6_sournessBelow := List.mem_of_getElem? (i := 1) (by decide +kernel)
theorem u_X6_sournessBelow_6 : ∀ w ∈ u_ws RX6 TX6 8, w ∈ wsX6_sournessBelow := fun w h => List.mem_cons_of_mem _ (List.mem_append_right _ (h))
theorem k_X6_sournessBelow_f22 : Cond.fieldLink RX6 22 "OilPress$Vat" "sourSum" "J" ∈ wsX6_sournessBelow := List.mem_of_getElem? (i := 2) (by decide +kernel)
abbrev rmX6_sournessBelow : Room := { frames := 2, cells := 0, slots := 0, locals := 49 }
def f_X6_sournessBelow_30 (h : oh_H) (o : Nat) (s0 : Int32) : Option (Int32) :=
  some s0
def f_X6_sournessBelow (h : oh_H) (o : Nat) : Option (Int32) :=
  (oh_gL h (some o) 391).bind fun x1 => if 0 ≤ (lg_cmp x1 (1 : Int64)) then ((oh_gL h (some o) 391).bind fun x2 => (oh_gL h (some o) 390).bind fun x3 => (oh_gL h (some o) 391).bind fun x4 => (f_X6_commonDivisor h x3 x4).bind fun p5 => if p5 = 0 then none else f_X6_sournessBelow_30 h o (Int64.toInt32 (x2 / p5))) else (f_X6_sournessBelow_30 h o (1 : Int32))
set_option maxHeartbeats 4000000 in
set_option maxRecDepth 100000 in
theorem w_X6_sournessBelow_30 {G : oh_G} {l : Launch} (C : oh_C G cX6_sournessBelow wsX6_sournessBelow RX6 rmX6_sournessBelow 1) (hl : G.1.2.1 = l) (h : oh_H) (o : Nat) (s0 : Int32) : oh_J (oh_TR h xi (some .int) G) (f_X6_sournessBelow_30 h o s0) (oh_V G 0 0 h 30 [] [xi s0]) := by
  unfold f_X6_sournessBelow_30
  exact or_iretR C dX6_sournessBelow_30
set_option maxHeartbeats 4000000 in
set_option maxRecDepth 100000 in
theorem w_X6_sournessBelow_0 {G : oh_G} {l : Launch} (C : oh_C G cX6_sournessBelow wsX6_sournessBelow RX6 rmX6_sournessBelow 1) (hl : G.1.2.1 = l) (h : oh_H) (o : Nat) : oh_J (oh_TR h xi (some .int) G) (f_X6_sournessBelow h o) (oh_V G 0 0 h 0 [(0, xr (some o))] []) := by
  unfold f_X6_sournessBelow
  refine or_aload_n C 0 rfl dX6_sournessBelow_0 ?_
  refine or_getL C 6 7 rfl (by decide) rfl (by decide) u_X6_sournessBelow_6 (by decide) k_X6_sournessBelow_f26 (by decide +kernel) dX6_sournessBelow_1 (fun x1 => ?_)
  refine or_lconst C (v := (1 : Int64)) dX6_sournessBelow_4 rfl ?_
  refine or_lcmp C dX6_sournessBelow_5 ?_
  refine or_if_ge C 13 dX6_sournessBelow_6 (by decide) ?_ ?_
  · refine or_aload_n C 0 rfl dX6_sournessBelow_13 ?_
    refine or_getL C 6 7 rfl (by decide) rfl (by decide) u_X6_sournessBelow_6 (by decide) k_X6_sournessBelow_f26 (by decide +kernel) dX6_sournessBelow_14 (fun x2 => ?_)
    refine or_aload_n C 0 rfl dX6_sournessBelow_17 ?_
    refine or_getL C 6 6 rfl (by decide) rfl (by decide) u_X6_sournessBelow_6 (by decide) k_X6_sournessBelow_f22 (by decide +kernel) dX6_sournessBelow_18 (fun x3 => ?_)
    refine or_aload_n C 0 rfl dX6_sournessBelow_21 ?_
    refine or_getL C 6 7 rfl (by decide) rfl (by decide) u_X6_sournessBelow_6 (by decide) k_X6_sournessBelow_f26 (by decide +kernel) dX6_sournessBelow_22 (fun x4 => ?_)
    refine oj_bind (fun p5 z6 => ?_)
    refine oj_v (P := oh_V G 0 0 h 28 [(0, xr (some o))] [xl p5, xl x2]) (fun k => or_callS C 2 hl (m_X6_commonDivisor _ h x3 x4 p5 z6) gX6_sournessBelow_X6_commonDivisor rfl rfl rfl (by decide +kernel) ⟨Nat.le_of_ble_eq_true rfl, Nat.le_of_ble_eq_true rfl⟩ (Nat.le_of_ble_eq_true rfl) dX6_sournessBelow_25 ⟨Nat.le_of_ble_eq_true rfl, Nat.le_of_ble_eq_true rfl⟩ rfl rfl k) ?_
    refine or_ldiv C dX6_sournessBelow_28 ?_
    refine or_l2i C dX6_sournessBelow_29 ?_
    refine or_sub [] rfl ?_
    exact w_X6_sournessBelow_30 C hl h o (Int64.toInt32 (x2 / p5))
  · refine or_iconst C (v := (1 : Int32)) dX6_sournessBelow_9 (by decide) ?_
    refine or_goto C 30 dX6_sournessBelow_10 (by decide) ?_
    refine or_sub [] rfl ?_
    exact w_X6_sournessBelow_30 C hl h o (1 : Int32)
theorem m_X6_sournessBelow (l : Launch) (h : oh_H) (o : Nat) (p : Int32) (hf : f_X6_sournessBelow h o = some p) : oh_M l yX6_sournessBelow wsX6_sournessBelow rmX6_sournessBelow 0 0 [xr (some o)] h (some (xi p)) h :=
  oh_met (cc := cX6_sournessBelow) (maxL := 1) (ret := (some .int)) (by decide) rfl (Nat.le_of_ble_eq_true rfl) (fun G C hl hN E => w_X6_sournessBelow_0 C hl h o p hf E)
/-! X7_init -/
theorem k_X7_init_ol1 : Cond.methodLink RX7 1 objectInit ∈ wsX7_init := List.mem_of_getElem? (i := 1) (by decide +kernel)
theorem k_X7_init_oi : Cond.instanceMethod objectInit ∈ wsX7_init := List.mem_of_getElem? (i := 2) (by decide +kernel)
theorem k_X7_init_oc : Cond.code objectInit ⟨#[0xb1]⟩ 1 none ∈ wsX7_init := List.mem_of_getElem? (i := 3) (by decide +kernel)
theorem k_X7_init_cl9 : Cond.classLink RX7 9 RX1 ∈ wsX7_init := List.mem_of_getElem? (i := 4) (by decide +kernel)
theorem k_X7_init_f11 : Cond.fieldLink RX7 11 "OilPress" "groves" "[LOilPress$Grove;" ∈ wsX7_init := List.mem_of_getElem? (i := 5) (by decide +kernel)
theorem u_X7_init_7 : ∀ w ∈ u_ws RX7 TX7 14, w ∈ wsX7_init := fun w h => List.mem_cons_of_mem _ (List.mem_append_left _ (List.mem_append_left _ (List.mem_append_left _ (List.mem_append_left _ (List.mem_append_right _ (h))))))
theorem k_X7_init_cl15 : Cond.classLink RX7 15 RX2 ∈ wsX7_init := List.mem_of_getElem? (i := 6) (by decide +kernel)
theorem k_X7_init_f17 : Cond.fieldLink RX7 17 "OilPress" "lots" "[LOilPress$Lot;" ∈ wsX7_init := List.mem_of_getElem? (i := 7) (by decide +kernel)
theorem k_X7_init_cl21 : Cond.classLink RX7 21 RX3 ∈ wsX7_init := List.mem_of_getElem? (i := 8) (by decide +kernel)
theorem k_X7_init_f23 : Cond.fieldLink RX7 23 "OilPress" "mills" "[LOilPress$Mill;" ∈ wsX7_init := List.mem_of_getElem? (i := 9) (by decide +kernel)
theorem k_X7_init_cl27 : Cond.classLink RX7 27 RX6 ∈ wsX7_init := List.mem_of_getElem? (i := 10) (by decide +kernel)
theorem k_X7_init_f29 : Cond.fieldLink RX7 29 "OilPress" "vats" "[LOilPress$Vat;" ∈ wsX7_init := List.mem_of_getElem? (i := 11) (by decide +kernel)
theorem k_X7_init_cl33 : Cond.classLink RX7 33 RX0 ∈ wsX7_init := List.mem_of_getElem? (i := 12) (by decide +kernel)
theorem k_X7_init_in0 : Cond.instantiable RX0 1 ∈ wsX7_init := List.mem_of_getElem? (i := 13) (by decide +kernel)
theorem k_X7_init_it0 : Cond.initialized RX0 ∈ wsX7_init := List.mem_of_getElem? (i := 14) (by decide +kernel)
theorem k_X7_init_imX0_init : Cond.instanceMethod yX0_init ∈ wsX7_init := List.mem_of_getElem? (i := 33) (by decide +kernel)
theorem k_X7_init_f36 : Cond.fieldLink RX7 36 "OilPress" "debts" "LOilPress$Debts;" ∈ wsX7_init := List.mem_of_getElem? (i := 15) (by decide +kernel)
theorem k_X7_init_cl40 : Cond.classLink RX7 40 RX5 ∈ wsX7_init := List.mem_of_getElem? (i := 16) (by decide +kernel)
theorem k_X7_init_in5 : Cond.instantiable RX5 5 ∈ wsX7_init := List.mem_of_getElem? (i := 17) (by decide +kernel)
theorem k_X7_init_it5 : Cond.initialized RX5 ∈ wsX7_init := List.mem_of_getElem? (i := 18) (by decide +kernel)
theorem k_X7_init_imX5_init : Cond.instanceMethod yX5_init ∈ wsX7_init := List.mem_of_getElem? (i := 38) (by decide +kernel)
theorem k_X7_init_f43 : Cond.fieldLink RX7 43 "OilPress" "totals" "LOilPress$Totals;" ∈ wsX7_init := List.mem_of_getElem? (i := 19) (by decide +kernel)
theorem k_X7_init_cl47 : Cond.classLink RX7 47 RX4 ∈ wsX7_init := List.mem_of_getElem? (i := 20) (by decide +kernel)
theorem k_X7_init_in4 : Cond.instantiable RX4 15 ∈ wsX7_init := List.mem_of_getElem? (i := 21) (by decide +kernel)
theorem k_X7_init_it4 : Cond.initialized RX4 ∈ wsX7_init := List.mem_of_getElem? (i := 22) (by decide +kernel)
theorem k_X7_init_imX4_init : Cond.instanceMethod yX4_init ∈ wsX7_init := List.mem_of_getElem? (i := 46) (by decide +kernel)
theorem k_X7_init_f50 : Cond.fieldLink RX7 50 "OilPress" "planner" "LOilPress$Planner;" ∈ wsX7_init := List.mem_of_getElem? (i := 23) (by decide +kernel)
theorem k_X7_init_f54 : Cond.fieldLink RX7 54 "OilPress" "groveCount" "I" ∈ wsX7_init := List.mem_of_getElem? (i := 24) (by decide +kernel)
theorem k_X7_init_f58 : Cond.fieldLink RX7 58 "OilPress" "lotCount" "I" ∈ wsX7_init := List.mem_of_getElem? (i := 25) (by decide +kernel)
theorem k_X7_init_f61 : Cond.fieldLink RX7 61 "OilPress" "vatCount" "I" ∈ wsX7_init := List.mem_of_getElem? (i := 26) (by decide +kernel)
theorem k_X7_init_f64 : Cond.fieldLink RX7 64 "OilPress" "now" "I" ∈ wsX7_init := List.mem_of_getElem? (i := 27) (by decide +kernel)
theorem k_X7_init_f67 : Cond.fieldLink RX7 67 "OilPress" "freshDays" "I" ∈ wsX7_init := List.mem_of_getElem? (i := 28) (by decide +kernel)
theorem k_X7_init_f70 : Cond.fieldLink RX7 70 "OilPress" "keptOf100" "I" ∈ wsX7_init := List.mem_of_getElem? (i := 29) (by decide +kernel)
theorem k_X7_init_f73 : Cond.fieldLink RX7 73 "OilPress" "freePlaces" "I" ∈ wsX7_init := List.mem_of_getElem? (i := 30) (by decide +kernel)
theorem k_X7_init_in3 : Cond.instantiable RX3 14 ∈ wsX7_init := List.mem_of_getElem? (i := 31) (by decide +kernel)
theorem k_X7_init_it3 : Cond.initialized RX3 ∈ wsX7_init := List.mem_of_getElem? (i := 32) (by decide +kernel)
theorem k_X7_init_ml76 : Cond.methodLink RX7 76 yX3_init ∈ wsX7_init := List.mem_of_getElem? (i := 64) (by decide +kernel)
theorem k_X7_init_imX3_init : Cond.instanceMethod yX3_init ∈ wsX7_init := List.mem_of_getElem? (i := 65) (by decide +kernel)
theorem u_X7_init_3 : ∀ w ∈ u_ws RX3 TX3 14, w ∈ wsX7_init := fun w h => List.mem_cons_of_mem _ (List.mem_append_right _ (h))
theorem u_X7_init_4 : ∀ w ∈ u_ws RX4 TX4 15, w ∈ wsX7_init := fun w h => List.mem_cons_of_mem _ (List.mem_append_left _ (List.mem_append_right _ (h)))
theorem u_X7_init_5 : ∀ w ∈ u_ws RX5 TX5 5, w ∈ wsX7_init := fun w h => List.mem_cons_of_mem _ (List.mem_append_left _ (List.mem_append_left _ (List.mem_append_right _ (h))))
theorem u_X7_init_0 : ∀ w ∈ u_ws RX0 TX0 1, w ∈ wsX7_init := fun w h => List.mem_cons_of_mem _ (List.mem_append_left _ (List.mem_append_left _ (List.mem_append_left _ (List.mem_append_right _ (h)))))
abbrev rmX7_init : Room := { frames := 2, cells := 28, slots := 19552, locals := 41 }
def f_X7_init (h : oh_H) (o : Nat) : Option (oh_H) :=
  oh_newa h 23 60 fun a2 h1 => (oh_pR h1 (some o) 448 (some a2)).bind fun h3 => oh_newa h3 24 200 fun a5 h4 => (oh_pR h4 (some o) 449 (some a5)).bind fun h6 => oh_newa h6 25 3 fun a8 h7 => (oh_pR h7 (some o) 450 (some a8)).bind fun h9 => oh_newa h9 26 12 fun a11 h10 => (oh_pR h10 (some o) 451 (some a11)).bind fun h12 => oh_new h12 1 fun a14 h13 => (f_X0_init h13 a14).bind fun p15 => (oh_pR p15 (some o) 452 (some a14)).bind fun h17 => oh_new h17 6 fun a19 h18 => (f_X5_init h18 a19).bind fun p20 => (oh_pR p20 (some o) 453 (some a19)).bind fun h22 => oh_new h22 5 fun a24 h23 => (f_X4_init h23 a24).bind fun p25 => (oh_pR p25 (some o) 454 (some a24)).bind fun h27 => (oh_pI h27 (some o) 455 (0 : Int32)).bind fun h28 => (oh_pI h28 (some o) 456 (0 : Int32)).bind fun h29 => (oh_pI h29 (some o) 457 (0 : Int32)).bind fun h30 => (oh_pI h30 (some o) 458 (0 : Int32)).bind fun h31 => (oh_pI h31 (some o) 459 (3 : Int32)).bind fun h32 => (oh_pI h32 (some o) 460 (10 : Int32)).bind fun h33 => (oh_pI h33 (some o) 461 (-1 : Int32)).bind fun h34 => oh_lt (0 : Int32) fun x35 => if (3 : Int32) ≤ x35 then (some h34) else ((oh_gR h34 (some o) 450).bind fun x36 => oh_new h34 4 fun a38 h37 => (f_X3_init h37 a38 x35).bind fun p39 => (oh_tR p39 x36 25 3 x35 (some a38)).bind fun h41 => oh_lt (x35 + (1 : Int32)) fun x42 => if (3 : Int32) ≤ x42 then (some h41) else ((oh_gR h41 (some o) 450).bind fun x43 => oh_new h41 4 fun a45 h44 => (f_X3_init h44 a45 x42).bind fun p46 => (oh_tR p46 x43 25 3 x42 (some a45)).bind fun h48 => oh_lt (x42 + (1 : Int32)) fun x49 => if (3 : Int32) ≤ x49 then (some h48) else ((oh_gR h48 (some o) 450).bind fun x50 => oh_new h48 4 fun a52 h51 => (f_X3_init h51 a52 x49).bind fun p53 => (oh_tR p53 x50 25 3 x49 (some a52)).bind fun h55 => oh_lt (x49 + (1 : Int32)) fun x56 => if (3 : Int32) ≤ x56 then (some h55) else ((oh_gR h55 (some o) 450).bind fun x57 => oh_new h55 4 fun a59 h58 => (f_X3_init h58 a59 x56).bind fun p60 => (oh_tR p60 x57 25 3 x56 (some a59)).bind fun h62 => oh_lt (x56 + (1 : Int32)) fun x63 => none))))
set_option maxHeartbeats 4000000 in
set_option maxRecDepth 100000 in
theorem w_X7_init_0 {G : oh_G} {l : Launch} (C : oh_C G cX7_init wsX7_init RX7 rmX7_init 2) (hl : G.1.2.1 = l) (hN : G.2.1.2.2.2.1.name = "<init>") (h0 : oh_H) (h : oh_H) (o : Nat) : oh_J (oh_TV h0 28 19552 none G) (f_X7_init h o) (oh_V G 0 0 h 0 [(0, xr (some o))] []) := by
  unfold f_X7_init
  refine or_aload_n C 0 rfl dX7_init_0 ?_
  refine or_objinit C k_X7_init_ol1 k_X7_init_oi k_X7_init_oc (Nat.le_of_ble_eq_true rfl) (Nat.le_of_ble_eq_true rfl) dX7_init_1 ?_
  refine or_aload_n C 0 rfl dX7_init_4 ?_
  refine or_bipush C (v := (60 : Int32)) dX7_init_5 (by decide) ?_
  refine or_anewa (n := (60 : Int32)) (N := 60) (cells := 0) (slots := 0) C 3 (fun _ => rfl) (by decide) (by decide) k_X7_init_cl9 rfl (by decide) rfl (Nat.le_of_ble_eq_true rfl) ⟨Nat.le_of_ble_eq_true rfl, Nat.le_of_ble_eq_true rfl⟩ dX7_init_7 (fun a2 h1 => ?_)
  refine or_putR C 7 0 rfl (by decide) rfl (by decide) u_X7_init_7 tyX7 tyX7_ok nmX7 (by decide) k_X7_init_f11 (Or.inr ⟨rfl, hN, rfl⟩) (by decide +kernel) (fun v => by cases v <;> exact ⟨rfl, rfl⟩) dX7_init_10 (fun h3 => ?_)
  refine or_aload_n C 0 rfl dX7_init_13 ?_
  refine or_sipush C (v := (200 : Int32)) dX7_init_14 (by decide) ?_
  refine or_anewa (n := (200 : Int32)) (N := 200) (cells := 1) (slots := 60) C 4 (fun _ => rfl) (by decide) (by decide) k_X7_init_cl15 rfl (by decide) rfl (Nat.le_of_ble_eq_true rfl) ⟨Nat.le_of_ble_eq_true rfl, Nat.le_of_ble_eq_true rfl⟩ dX7_init_17 (fun a5 h4 => ?_)
  refine or_putR C 7 1 rfl (by decide) rfl (by decide) u_X7_init_7 tyX7 tyX7_ok nmX7 (by decide) k_X7_init_f17 (Or.inr ⟨rfl, hN, rfl⟩) (by decide +kernel) (fun v => by cases v <;> exact ⟨rfl, rfl⟩) dX7_init_20 (fun h6 => ?_)
  refine or_aload_n C 0 rfl dX7_init_23 ?_
  refine or_iconst C (v := (3 : Int32)) dX7_init_24 (by decide) ?_
  refine or_anewa (n := (3 : Int32)) (N := 3) (cells := 2) (slots := 260) C 5 (fun _ => rfl) (by decide) (by decide) k_X7_init_cl21 rfl (by decide) rfl (Nat.le_of_ble_eq_true rfl) ⟨Nat.le_of_ble_eq_true rfl, Nat.le_of_ble_eq_true rfl⟩ dX7_init_25 (fun a8 h7 => ?_)
  refine or_putR C 7 2 rfl (by decide) rfl (by decide) u_X7_init_7 tyX7 tyX7_ok nmX7 (by decide) k_X7_init_f23 (Or.inr ⟨rfl, hN, rfl⟩) (by decide +kernel) (fun v => by cases v <;> exact ⟨rfl, rfl⟩) dX7_init_28 (fun h9 => ?_)
  refine or_aload_n C 0 rfl dX7_init_31 ?_
  refine or_bipush C (v := (12 : Int32)) dX7_init_32 (by decide) ?_
  refine or_anewa (n := (12 : Int32)) (N := 12) (cells := 3) (slots := 263) C 6 (fun _ => rfl) (by decide) (by decide) k_X7_init_cl27 rfl (by decide) rfl (Nat.le_of_ble_eq_true rfl) ⟨Nat.le_of_ble_eq_true rfl, Nat.le_of_ble_eq_true rfl⟩ dX7_init_34 (fun a11 h10 => ?_)
  refine or_putR C 7 3 rfl (by decide) rfl (by decide) u_X7_init_7 tyX7 tyX7_ok nmX7 (by decide) k_X7_init_f29 (Or.inr ⟨rfl, hN, rfl⟩) (by decide +kernel) (fun v => by cases v <;> exact ⟨rfl, rfl⟩) dX7_init_37 (fun h12 => ?_)
  refine or_aload_n C 0 rfl dX7_init_40 ?_
  refine or_new (cells := 4) (slots := 275) C 0 rfl rfl (by decide) u_X7_init_0 tyX0 tyX0_ok k_X7_init_cl33 k_X7_init_in0 k_X7_init_it0 df_X0 ⟨Nat.le_of_ble_eq_true rfl, Nat.le_of_ble_eq_true rfl⟩ dX7_init_41 (fun a14 h13 => ?_)
  refine or_dup C rfl dX7_init_44 ?_
  refine oj_bind (fun p15 z16 => ?_)
  refine oj_v (P := oh_V G 6 396 p15 48 [(0, xr (some o))] [xr (some a14), xr (some o)]) (fun k => or_callIN C 0 hl (m_X0_init _ h13 a14 p15 z16) gX7_init_X0_init_n35 rfl rfl rfl (List.mem_of_getElem? (i := 4) rfl) k_X7_init_it0 k_X7_init_imX0_init rfl (by decide +kernel) ⟨Nat.le_of_ble_eq_true rfl, Nat.le_of_ble_eq_true rfl⟩ (Nat.le_of_ble_eq_true rfl) dX7_init_45 ⟨Nat.le_of_ble_eq_true rfl, Nat.le_of_ble_eq_true rfl⟩ rfl rfl k) ?_
  refine or_putR C 7 4 rfl (by decide) rfl (by decide) u_X7_init_7 tyX7 tyX7_ok nmX7 (by decide) k_X7_init_f36 (Or.inr ⟨rfl, hN, rfl⟩) (by decide +kernel) (fun v => by cases v <;> exact ⟨rfl, rfl⟩) dX7_init_48 (fun h17 => ?_)
  refine or_aload_n C 0 rfl dX7_init_51 ?_
  refine or_new (cells := 6) (slots := 396) C 5 rfl rfl (by decide) u_X7_init_5 tyX5 tyX5_ok k_X7_init_cl40 k_X7_init_in5 k_X7_init_it5 df_X5 ⟨Nat.le_of_ble_eq_true rfl, Nat.le_of_ble_eq_true rfl⟩ dX7_init_52 (fun a19 h18 => ?_)
  refine or_dup C rfl dX7_init_55 ?_
  refine oj_bind (fun p20 z21 => ?_)
  refine oj_v (P := oh_V G 7 401 p20 59 [(0, xr (some o))] [xr (some a19), xr (some o)]) (fun k => or_callIN C 0 hl (m_X5_init _ h18 a19 p20 z21) gX7_init_X5_init_n42 rfl rfl rfl (List.mem_of_getElem? (i := 6) rfl) k_X7_init_it5 k_X7_init_imX5_init rfl (by decide +kernel) ⟨Nat.le_of_ble_eq_true rfl, Nat.le_of_ble_eq_true rfl⟩ (Nat.le_of_ble_eq_true rfl) dX7_init_56 ⟨Nat.le_of_ble_eq_true rfl, Nat.le_of_ble_eq_true rfl⟩ rfl rfl k) ?_
  refine or_putR C 7 5 rfl (by decide) rfl (by decide) u_X7_init_7 tyX7 tyX7_ok nmX7 (by decide) k_X7_init_f43 (Or.inr ⟨rfl, hN, rfl⟩) (by decide +kernel) (fun v => by cases v <;> exact ⟨rfl, rfl⟩) dX7_init_59 (fun h22 => ?_)
  refine or_aload_n C 0 rfl dX7_init_62 ?_
  refine or_new (cells := 7) (slots := 401) C 4 rfl rfl (by decide) u_X7_init_4 tyX4 tyX4_ok k_X7_init_cl47 k_X7_init_in4 k_X7_init_it4 df_X4 ⟨Nat.le_of_ble_eq_true rfl, Nat.le_of_ble_eq_true rfl⟩ dX7_init_63 (fun a24 h23 => ?_)
  refine or_dup C rfl dX7_init_66 ?_
  refine oj_bind (fun p25 z26 => ?_)
  refine oj_v (P := oh_V G 16 19400 p25 70 [(0, xr (some o))] [xr (some a24), xr (some o)]) (fun k => or_callIN C 0 hl (m_X4_init _ h23 a24 p25 z26) gX7_init_X4_init_n49 rfl rfl rfl (List.mem_of_getElem? (i := 5) rfl) k_X7_init_it4 k_X7_init_imX4_init rfl (by decide +kernel) ⟨Nat.le_of_ble_eq_true rfl, Nat.le_of_ble_eq_true rfl⟩ (Nat.le_of_ble_eq_true rfl) dX7_init_67 ⟨Nat.le_of_ble_eq_true rfl, Nat.le_of_ble_eq_true rfl⟩ rfl rfl k) ?_
  refine or_putR C 7 6 rfl (by decide) rfl (by decide) u_X7_init_7 tyX7 tyX7_ok nmX7 (by decide) k_X7_init_f50 (Or.inr ⟨rfl, hN, rfl⟩) (by decide +kernel) (fun v => by cases v <;> exact ⟨rfl, rfl⟩) dX7_init_70 (fun h27 => ?_)
  refine or_aload_n C 0 rfl dX7_init_73 ?_
  refine or_iconst C (v := (0 : Int32)) dX7_init_74 (by decide) ?_
  refine or_putI C 7 7 rfl (by decide) rfl (by decide) u_X7_init_7 tyX7 tyX7_ok nmX7 (by decide) k_X7_init_f54 (Or.inl rfl) (by decide +kernel) rfl dX7_init_75 (fun h28 => ?_)
  refine or_aload_n C 0 rfl dX7_init_78 ?_
  refine or_iconst C (v := (0 : Int32)) dX7_init_79 (by decide) ?_
  refine or_putI C 7 8 rfl (by decide) rfl (by decide) u_X7_init_7 tyX7 tyX7_ok nmX7 (by decide) k_X7_init_f58 (Or.inl rfl) (by decide +kernel) rfl dX7_init_80 (fun h29 => ?_)
  refine or_aload_n C 0 rfl dX7_init_83 ?_
  refine or_iconst C (v := (0 : Int32)) dX7_init_84 (by decide) ?_
  refine or_putI C 7 9 rfl (by decide) rfl (by decide) u_X7_init_7 tyX7 tyX7_ok nmX7 (by decide) k_X7_init_f61 (Or.inl rfl) (by decide +kernel) rfl dX7_init_85 (fun h30 => ?_)
  refine or_aload_n C 0 rfl dX7_init_88 ?_
  refine or_iconst C (v := (0 : Int32)) dX7_init_89 (by decide) ?_
  refine or_putI C 7 10 rfl (by decide) rfl (by decide) u_X7_init_7 tyX7 tyX7_ok nmX7 (by decide) k_X7_init_f64 (Or.inl rfl) (by decide +kernel) rfl dX7_init_90 (fun h31 => ?_)
  refine or_aload_n C 0 rfl dX7_init_93 ?_
  refine or_iconst C (v := (3 : Int32)) dX7_init_94 (by decide) ?_
  refine or_putI C 7 11 rfl (by decide) rfl (by decide) u_X7_init_7 tyX7 tyX7_ok nmX7 (by decide) k_X7_init_f67 (Or.inl rfl) (by decide +kernel) rfl dX7_init_95 (fun h32 => ?_)
  refine or_aload_n C 0 rfl dX7_init_98 ?_
  refine or_bipush C (v := (10 : Int32)) dX7_init_99 (by decide) ?_
  refine or_putI C 7 12 rfl (by decide) rfl (by decide) u_X7_init_7 tyX7 tyX7_ok nmX7 (by decide) k_X7_init_f70 (Or.inl rfl) (by decide +kernel) rfl dX7_init_101 (fun h33 => ?_)
  refine or_aload_n C 0 rfl dX7_init_104 ?_
  refine or_iconst C (v := (-1 : Int32)) dX7_init_105 (by decide) ?_
  refine or_putI C 7 13 rfl (by decide) rfl (by decide) u_X7_init_7 tyX7 tyX7_ok nmX7 (by decide) k_X7_init_f73 (Or.inl rfl) (by decide +kernel) rfl dX7_init_106 (fun h34 => ?_)
  refine or_iconst C (v := (0 : Int32)) dX7_init_109 (by decide) ?_
  refine or_istore_n C (fun x35 => [(1, xi x35), (0, xr (some o))]) (fun _ => rfl) (by decide) dX7_init_110 (fun x35 => ?_)
  refine or_iload_n C 0 rfl dX7_init_111 ?_
  refine or_iconst C (v := (3 : Int32)) dX7_init_112 (by decide) ?_
  refine or_icmp_ge C 136 dX7_init_113 (by decide) ?_ ?_
  · exact or_vret C ⟨Nat.le_of_ble_eq_true rfl, Nat.le_of_ble_eq_true rfl⟩ dX7_init_136
  · refine or_aload_n C 1 rfl dX7_init_116 ?_
    refine or_getR C 7 2 rfl (by decide) rfl (by decide) u_X7_init_7 (by decide) k_X7_init_f23 (by decide +kernel) dX7_init_117 (fun x36 => ?_)
    refine or_iload_n C 0 rfl dX7_init_120 ?_
    refine or_new (cells := 16) (slots := 19400) C 3 rfl rfl (by decide) u_X7_init_3 tyX3 tyX3_ok k_X7_init_cl21 k_X7_init_in3 k_X7_init_it3 df_X3 ⟨Nat.le_of_ble_eq_true rfl, Nat.le_of_ble_eq_true rfl⟩ dX7_init_121 (fun a38 h37 => ?_)
    refine or_dup C rfl dX7_init_124 ?_
    refine or_iload_n C 0 rfl dX7_init_125 ?_
    refine oj_bind (fun p39 z40 => ?_)
    refine oj_v (P := oh_V G 19 19438 p39 129 [(1, xi x35), (0, xr (some o))] [xr (some a38), xi x35, xr x36]) (fun k => or_callI C 1 hl (m_X3_init _ h37 a38 x35 p39 z40) gX7_init_X3_init rfl rfl rfl k_X7_init_it3 k_X7_init_ml76 k_X7_init_imX3_init rfl (by decide +kernel) ⟨Nat.le_of_ble_eq_true rfl, Nat.le_of_ble_eq_true rfl⟩ (Nat.le_of_ble_eq_true rfl) dX7_init_126 ⟨Nat.le_of_ble_eq_true rfl, Nat.le_of_ble_eq_true rfl⟩ rfl rfl k) ?_
    refine or_aast C 5 3 (fun _ => rfl) (by decide) rfl (by decide) rfl dX7_init_129 (fun h41 => ?_)
    refine or_iinc C (y := (1 : Int32)) 0 rfl (by decide) (fun x42 => [(1, xi x42), (0, xr (some o))]) (fun _ => rfl) (by decide) dX7_init_130 (fun x42 => ?_)
    refine or_goto C 111 dX7_init_133 (by decide) ?_
    refine or_iload_n C 0 rfl dX7_init_111 ?_
    refine or_iconst C (v := (3 : Int32)) dX7_init_112 (by decide) ?_
    refine or_icmp_ge C 136 dX7_init_113 (by decide) ?_ ?_
    · exact or_vret C ⟨Nat.le_of_ble_eq_true rfl, Nat.le_of_ble_eq_true rfl⟩ dX7_init_136
    · refine or_aload_n C 1 rfl dX7_init_116 ?_
      refine or_getR C 7 2 rfl (by decide) rfl (by decide) u_X7_init_7 (by decide) k_X7_init_f23 (by decide +kernel) dX7_init_117 (fun x43 => ?_)
      refine or_iload_n C 0 rfl dX7_init_120 ?_
      refine or_new (cells := 19) (slots := 19438) C 3 rfl rfl (by decide) u_X7_init_3 tyX3 tyX3_ok k_X7_init_cl21 k_X7_init_in3 k_X7_init_it3 df_X3 ⟨Nat.le_of_ble_eq_true rfl, Nat.le_of_ble_eq_true rfl⟩ dX7_init_121 (fun a45 h44 => ?_)
      refine or_dup C rfl dX7_init_124 ?_
      refine or_iload_n C 0 rfl dX7_init_125 ?_
      refine oj_bind (fun p46 z47 => ?_)
      refine oj_v (P := oh_V G 22 19476 p46 129 [(1, xi x42), (0, xr (some o))] [xr (some a45), xi x42, xr x43]) (fun k => or_callI C 1 hl (m_X3_init _ h44 a45 x42 p46 z47) gX7_init_X3_init rfl rfl rfl k_X7_init_it3 k_X7_init_ml76 k_X7_init_imX3_init rfl (by decide +kernel) ⟨Nat.le_of_ble_eq_true rfl, Nat.le_of_ble_eq_true rfl⟩ (Nat.le_of_ble_eq_true rfl) dX7_init_126 ⟨Nat.le_of_ble_eq_true rfl, Nat.le_of_ble_eq_true rfl⟩ rfl rfl k) ?_
      refine or_aast C 5 3 (fun _ => rfl) (by decide) rfl (by decide) rfl dX7_init_129 (fun h48 => ?_)
      refine or_iinc C (y := (1 : Int32)) 0 rfl (by decide) (fun x49 => [(1, xi x49), (0, xr (some o))]) (fun _ => rfl) (by decide) dX7_init_130 (fun x49 => ?_)
      refine or_goto C 111 dX7_init_133 (by decide) ?_
      refine or_iload_n C 0 rfl dX7_init_111 ?_
      refine or_iconst C (v := (3 : Int32)) dX7_init_112 (by decide) ?_
      refine or_icmp_ge C 136 dX7_init_113 (by decide) ?_ ?_
      · exact or_vret C ⟨Nat.le_of_ble_eq_true rfl, Nat.le_of_ble_eq_true rfl⟩ dX7_init_136
      · refine or_aload_n C 1 rfl dX7_init_116 ?_
        refine or_getR C 7 2 rfl (by decide) rfl (by decide) u_X7_init_7 (by decide) k_X7_init_f23 (by decide +kernel) dX7_init_117 (fun x50 => ?_)
        refine or_iload_n C 0 rfl dX7_init_120 ?_
        refine or_new (cells := 22) (slots := 19476) C 3 rfl rfl (by decide) u_X7_init_3 tyX3 tyX3_ok k_X7_init_cl21 k_X7_init_in3 k_X7_init_it3 df_X3 ⟨Nat.le_of_ble_eq_true rfl, Nat.le_of_ble_eq_true rfl⟩ dX7_init_121 (fun a52 h51 => ?_)
        refine or_dup C rfl dX7_init_124 ?_
        refine or_iload_n C 0 rfl dX7_init_125 ?_
        refine oj_bind (fun p53 z54 => ?_)
        refine oj_v (P := oh_V G 25 19514 p53 129 [(1, xi x49), (0, xr (some o))] [xr (some a52), xi x49, xr x50]) (fun k => or_callI C 1 hl (m_X3_init _ h51 a52 x49 p53 z54) gX7_init_X3_init rfl rfl rfl k_X7_init_it3 k_X7_init_ml76 k_X7_init_imX3_init rfl (by decide +kernel) ⟨Nat.le_of_ble_eq_true rfl, Nat.le_of_ble_eq_true rfl⟩ (Nat.le_of_ble_eq_true rfl) dX7_init_126 ⟨Nat.le_of_ble_eq_true rfl, Nat.le_of_ble_eq_true rfl⟩ rfl rfl k) ?_
        refine or_aast C 5 3 (fun _ => rfl) (by decide) rfl (by decide) rfl dX7_init_129 (fun h55 => ?_)
        refine or_iinc C (y := (1 : Int32)) 0 rfl (by decide) (fun x56 => [(1, xi x56), (0, xr (some o))]) (fun _ => rfl) (by decide) dX7_init_130 (fun x56 => ?_)
        refine or_goto C 111 dX7_init_133 (by decide) ?_
        refine or_iload_n C 0 rfl dX7_init_111 ?_
        refine or_iconst C (v := (3 : Int32)) dX7_init_112 (by decide) ?_
        refine or_icmp_ge C 136 dX7_init_113 (by decide) ?_ ?_
        · exact or_vret C ⟨Nat.le_of_ble_eq_true rfl, Nat.le_of_ble_eq_true rfl⟩ dX7_init_136
        · refine or_aload_n C 1 rfl dX7_init_116 ?_
          refine or_getR C 7 2 rfl (by decide) rfl (by decide) u_X7_init_7 (by decide) k_X7_init_f23 (by decide +kernel) dX7_init_117 (fun x57 => ?_)
          refine or_iload_n C 0 rfl dX7_init_120 ?_
          refine or_new (cells := 25) (slots := 19514) C 3 rfl rfl (by decide) u_X7_init_3 tyX3 tyX3_ok k_X7_init_cl21 k_X7_init_in3 k_X7_init_it3 df_X3 ⟨Nat.le_of_ble_eq_true rfl, Nat.le_of_ble_eq_true rfl⟩ dX7_init_121 (fun a59 h58 => ?_)
          refine or_dup C rfl dX7_init_124 ?_
          refine or_iload_n C 0 rfl dX7_init_125 ?_
          refine oj_bind (fun p60 z61 => ?_)
          refine oj_v (P := oh_V G 28 19552 p60 129 [(1, xi x56), (0, xr (some o))] [xr (some a59), xi x56, xr x57]) (fun k => or_callI C 1 hl (m_X3_init _ h58 a59 x56 p60 z61) gX7_init_X3_init rfl rfl rfl k_X7_init_it3 k_X7_init_ml76 k_X7_init_imX3_init rfl (by decide +kernel) ⟨Nat.le_of_ble_eq_true rfl, Nat.le_of_ble_eq_true rfl⟩ (Nat.le_of_ble_eq_true rfl) dX7_init_126 ⟨Nat.le_of_ble_eq_true rfl, Nat.le_of_ble_eq_true rfl⟩ rfl rfl k) ?_
          refine or_aast C 5 3 (fun _ => rfl) (by decide) rfl (by decide) rfl dX7_init_129 (fun h62 => ?_)
          refine or_iinc C (y := (1 : Int32)) 0 rfl (by decide) (fun x63 => [(1, xi x63), (0, xr (some o))]) (fun _ => rfl) (by decide) dX7_init_130 (fun x63 => ?_)
          refine or_goto C 111 dX7_init_133 (by decide) ?_
          exact oj_none
theorem m_X7_init (l : Launch) (h : oh_H) (o : Nat) (p : oh_H) (hf : f_X7_init h o = some p) : oh_M l yX7_init wsX7_init rmX7_init 28 19552 [xr (some o)] h none p :=
  oh_met (cc := cX7_init) (maxL := 2) (ret := none) (by decide) rfl (Nat.le_of_ble_eq_true rfl) (fun G C hl hN E => w_X7_init_0 C hl hN h h o p hf E)
/-! X7_grove -/
theorem k_X7_grove_f54 : Cond.fieldLink RX7 54 "OilPress" "groveCount" "I" ∈ wsX7_grove := List.mem_of_getElem? (i := 1) (by decide +kernel)
theorem u_X7_grove_7 : ∀ w ∈ u_ws RX7 TX7 14, w ∈ wsX7_grove := fun w h => List.mem_cons_of_mem _ (List.mem_append_left _ (List.mem_append_right _ (h)))
theorem k_X7_grove_f11 : Cond.fieldLink RX7 11 "OilPress" "groves" "[LOilPress$Grove;" ∈ wsX7_grove := List.mem_of_getElem? (i := 2) (by decide +kernel)
theorem k_X7_grove_cl9 : Cond.classLink RX7 9 RX1 ∈ wsX7_grove := List.mem_of_getElem? (i := 3) (by decide +kernel)
theorem k_X7_grove_in1 : Cond.instantiable RX1 3 ∈ wsX7_grove := List.mem_of_getElem? (i := 4) (by decide +kernel)
theorem k_X7_grove_it1 : Cond.initialized RX1 ∈ wsX7_grove := List.mem_of_getElem? (i := 5) (by decide +kernel)
theorem k_X7_grove_ml87 : Cond.methodLink RX7 87 yX1_init ∈ wsX7_grove := List.mem_of_getElem? (i := 13) (by decide +kernel)
theorem k_X7_grove_imX1_init : Cond.instanceMethod yX1_init ∈ wsX7_grove := List.mem_of_getElem? (i := 14) (by decide +kernel)
theorem u_X7_grove_1 : ∀ w ∈ u_ws RX1 TX1 3, w ∈ wsX7_grove := fun w h => List.mem_cons_of_mem _ (List.mem_append_right _ (h))
abbrev rmX7_grove : Room := { frames := 2, cells := 1, slots := 3, locals := 43 }
def f_X7_grove_26 (h : oh_H) (o : Nat) : Option (Int32 × oh_H) :=
  some ((-1 : Int32), h)
def f_X7_grove (h : oh_H) (o : Nat) (v1 : Int32) (v2 : Int32) : Option (Int32 × oh_H) :=
  (f_X7_isFarmer h v1).bind fun p1 => if p1 = 0 then (f_X7_grove_26 h o) else ((f_X7_isWithin h v2 (0 : Int32) (9 : Int32)).bind fun p3 => if p3 = 0 then (f_X7_grove_26 h o) else ((oh_gI h (some o) 455).bind fun x5 => if x5 < (60 : Int32) then ((oh_gR h (some o) 448).bind fun x6 => (oh_gI h (some o) 455).bind fun x7 => oh_new h 2 fun a9 h8 => (oh_gI h8 (some o) 455).bind fun x10 => (f_X1_init h8 a9 x10 v1 v2).bind fun p11 => (oh_tR p11 x6 23 1 x7 (some a9)).bind fun h13 => (oh_gI h13 (some o) 455).bind fun x14 => (oh_pI h13 (some o) 455 (x14 + (1 : Int32))).bind fun h15 => (oh_gI h15 (some o) 455).bind fun x16 => some ((x16 - (1 : Int32)), h15)) else (f_X7_grove_26 h o)))
set_option maxHeartbeats 4000000 in
set_option maxRecDepth 100000 in
theorem w_X7_grove_26 {G : oh_G} {l : Launch} (C : oh_C G cX7_grove wsX7_grove RX7 rmX7_grove 3) (hl : G.1.2.1 = l) (h0 : oh_H) (h : oh_H) (o : Nat) : oh_J (oh_TW h0 xi 1 3 (some .int) G) (f_X7_grove_26 h o) (oh_V G 0 0 h 26 [] []) := by
  unfold f_X7_grove_26
  refine or_iconst C (v := (-1 : Int32)) dX7_grove_26 (by decide) ?_
  exact or_iret C ⟨Nat.le_of_ble_eq_true rfl, Nat.le_of_ble_eq_true rfl⟩ dX7_grove_27
set_option maxHeartbeats 4000000 in
set_option maxRecDepth 100000 in
theorem w_X7_grove_0 {G : oh_G} {l : Launch} (C : oh_C G cX7_grove wsX7_grove RX7 rmX7_grove 3) (hl : G.1.2.1 = l) (h0 : oh_H) (h : oh_H) (o : Nat) (v1 : Int32) (v2 : Int32) : oh_J (oh_TW h0 xi 1 3 (some .int) G) (f_X7_grove h o v1 v2) (oh_V G 0 0 h 0 [(0, xr (some o)), (1, xi v1), (2, xi v2)] []) := by
  unfold f_X7_grove
  refine or_iload_n C 1 rfl dX7_grove_0 ?_
  refine oj_bind (fun p1 z2 => ?_)
  refine oj_v (P := oh_V G 0 0 h 4 [(0, xr (some o)), (1, xi v1), (2, xi v2)] [xi p1]) (fun k => or_callS C 1 hl (m_X7_isFarmer _ h v1 p1 z2) gX7_grove_X7_isFarmer rfl rfl rfl (by decide +kernel) ⟨Nat.le_of_ble_eq_true rfl, Nat.le_of_ble_eq_true rfl⟩ (Nat.le_of_ble_eq_true rfl) dX7_grove_1 ⟨Nat.le_of_ble_eq_true rfl, Nat.le_of_ble_eq_true rfl⟩ rfl rfl k) ?_
  refine or_if_eq C 26 dX7_grove_4 (by decide) ?_ ?_
  · refine or_sub [] rfl ?_
    exact w_X7_grove_26 C hl h0 h o
  · refine or_iload_n C 2 rfl dX7_grove_7 ?_
    refine or_iconst C (v := (0 : Int32)) dX7_grove_8 (by decide) ?_
    refine or_bipush C (v := (9 : Int32)) dX7_grove_9 (by decide) ?_
    refine oj_bind (fun p3 z4 => ?_)
    refine oj_v (P := oh_V G 0 0 h 14 [(0, xr (some o)), (1, xi v1), (2, xi v2)] [xi p3]) (fun k => or_callS C 3 hl (m_X7_isWithin _ h v2 (0 : Int32) (9 : Int32) p3 z4) gX7_grove_X7_isWithin rfl rfl rfl (by decide +kernel) ⟨Nat.le_of_ble_eq_true rfl, Nat.le_of_ble_eq_true rfl⟩ (Nat.le_of_ble_eq_true rfl) dX7_grove_11 ⟨Nat.le_of_ble_eq_true rfl, Nat.le_of_ble_eq_true rfl⟩ rfl rfl k) ?_
    refine or_if_eq C 26 dX7_grove_14 (by decide) ?_ ?_
    · refine or_sub [] rfl ?_
      exact w_X7_grove_26 C hl h0 h o
    · refine or_aload_n C 0 rfl dX7_grove_17 ?_
      refine or_getI C 7 7 rfl (by decide) rfl (by decide) u_X7_grove_7 (by decide) k_X7_grove_f54 (by decide +kernel) dX7_grove_18 (fun x5 => ?_)
      refine or_bipush C (v := (60 : Int32)) dX7_grove_21 (by decide) ?_
      refine or_icmp_lt C 28 dX7_grove_23 (by decide) ?_ ?_
      · refine or_aload_n C 0 rfl dX7_grove_28 ?_
        refine or_getR C 7 0 rfl (by decide) rfl (by decide) u_X7_grove_7 (by decide) k_X7_grove_f11 (by decide +kernel) dX7_grove_29 (fun x6 => ?_)
        refine or_aload_n C 0 rfl dX7_grove_32 ?_
        refine or_getI C 7 7 rfl (by decide) rfl (by decide) u_X7_grove_7 (by decide) k_X7_grove_f54 (by decide +kernel) dX7_grove_33 (fun x7 => ?_)
        refine or_new (cells := 0) (slots := 0) C 1 rfl rfl (by decide) u_X7_grove_1 tyX1 tyX1_ok k_X7_grove_cl9 k_X7_grove_in1 k_X7_grove_it1 df_X1 ⟨Nat.le_of_ble_eq_true rfl, Nat.le_of_ble_eq_true rfl⟩ dX7_grove_36 (fun a9 h8 => ?_)
        refine or_dup C rfl dX7_grove_39 ?_
        refine or_aload_n C 0 rfl dX7_grove_40 ?_
        refine or_getI C 7 7 rfl (by decide) rfl (by decide) u_X7_grove_7 (by decide) k_X7_grove_f54 (by decide +kernel) dX7_grove_41 (fun x10 => ?_)
        refine or_iload_n C 1 rfl dX7_grove_44 ?_
        refine or_iload_n C 2 rfl dX7_grove_45 ?_
        refine oj_bind (fun p11 z12 => ?_)
        refine oj_v (P := oh_V G 1 3 p11 49 [(0, xr (some o)), (1, xi v1), (2, xi v2)] [xr (some a9), xi x7, xr x6]) (fun k => or_callI C 3 hl (m_X1_init _ h8 a9 x10 v1 v2 p11 z12) gX7_grove_X1_init rfl rfl rfl k_X7_grove_it1 k_X7_grove_ml87 k_X7_grove_imX1_init rfl (by decide +kernel) ⟨Nat.le_of_ble_eq_true rfl, Nat.le_of_ble_eq_true rfl⟩ (Nat.le_of_ble_eq_true rfl) dX7_grove_46 ⟨Nat.le_of_ble_eq_true rfl, Nat.le_of_ble_eq_true rfl⟩ rfl rfl k) ?_
        refine or_aast C 3 1 (fun _ => rfl) (by decide) rfl (by decide) rfl dX7_grove_49 (fun h13 => ?_)
        refine or_aload_n C 0 rfl dX7_grove_50 ?_
        refine or_dup C rfl dX7_grove_51 ?_
        refine or_getI C 7 7 rfl (by decide) rfl (by decide) u_X7_grove_7 (by decide) k_X7_grove_f54 (by decide +kernel) dX7_grove_52 (fun x14 => ?_)
        refine or_iconst C (v := (1 : Int32)) dX7_grove_55 (by decide) ?_
        refine or_iadd C dX7_grove_56 ?_
        refine or_putI C 7 7 rfl (by decide) rfl (by decide) u_X7_grove_7 tyX7 tyX7_ok nmX7 (by decide) k_X7_grove_f54 (Or.inl rfl) (by decide +kernel) rfl dX7_grove_57 (fun h15 => ?_)
        refine or_aload_n C 0 rfl dX7_grove_60 ?_
        refine or_getI C 7 7 rfl (by decide) rfl (by decide) u_X7_grove_7 (by decide) k_X7_grove_f54 (by decide +kernel) dX7_grove_61 (fun x16 => ?_)
        refine or_iconst C (v := (1 : Int32)) dX7_grove_64 (by decide) ?_
        refine or_isub C dX7_grove_65 ?_
        exact or_iret C ⟨Nat.le_of_ble_eq_true rfl, Nat.le_of_ble_eq_true rfl⟩ dX7_grove_66
      · refine or_sub [] rfl ?_
        exact w_X7_grove_26 C hl h0 h o
theorem m_X7_grove (l : Launch) (h : oh_H) (o : Nat) (v1 : Int32) (v2 : Int32) (p : Int32 × oh_H) (hf : f_X7_grove h o v1 v2 = some p) : oh_M l yX7_grove wsX7_grove rmX7_grove 1 3 [xr (some o), xi v1, xi v2] h (some (xi p.1)) p.2 :=
  oh_met (cc := cX7_grove) (maxL := 3) (ret := (some .int)) (by decide) rfl (Nat.le_of_ble_eq_true rfl) (fun G C hl hN E => w_X7_grove_0 C hl h h o v1 v2 p hf E)
/-! X7_findGrove -/
theorem k_X7_findGrove_f54 : Cond.fieldLink RX7 54 "OilPress" "groveCount" "I" ∈ wsX7_findGrove := List.mem_of_getElem? (i := 1) (by decide +kernel)
theorem u_X7_findGrove_7 : ∀ w ∈ u_ws RX7 TX7 14, w ∈ wsX7_findGrove := fun w h => List.mem_cons_of_mem _ (List.mem_append_right _ (h))
theorem k_X7_findGrove_f11 : Cond.fieldLink RX7 11 "OilPress" "groves" "[LOilPress$Grove;" ∈ wsX7_findGrove := List.mem_of_getElem? (i := 2) (by decide +kernel)
abbrev rmX7_findGrove : Room := { frames := 1, cells := 0, slots := 0, locals := 22 }
def f_X7_findGrove_24 (h : oh_H) (o : Nat) (s0 : Option Nat) : Option (Option Nat) :=
  some s0
def f_X7_findGrove (h : oh_H) (o : Nat) (v1 : Int32) : Option (Option Nat) :=
  (oh_gI h (some o) 455).bind fun x1 => (f_X7_isWithin h v1 (0 : Int32) (x1 - (1 : Int32))).bind fun p2 => if p2 = 0 then (f_X7_findGrove_24 h o none) else ((oh_gR h (some o) 448).bind fun x4 => (oh_aR h x4 23 v1).bind fun x5 => f_X7_findGrove_24 h o x5)
set_option maxHeartbeats 4000000 in
set_option maxRecDepth 100000 in
theorem w_X7_findGrove_24 {G : oh_G} {l : Launch} (C : oh_C G cX7_findGrove wsX7_findGrove RX7 rmX7_findGrove 2) (hl : G.1.2.1 = l) (h : oh_H) (o : Nat) (s0 : Option Nat) : oh_J (oh_TR h xr (some (.object "OilPress$Grove")) G) (f_X7_findGrove_24 h o s0) (oh_V G 0 0 h 24 [] [xr s0]) := by
  unfold f_X7_findGrove_24
  exact or_aretR C dX7_findGrove_24
set_option maxHeartbeats 4000000 in
set_option maxRecDepth 100000 in
theorem w_X7_findGrove_0 {G : oh_G} {l : Launch} (C : oh_C G cX7_findGrove wsX7_findGrove RX7 rmX7_findGrove 2) (hl : G.1.2.1 = l) (h : oh_H) (o : Nat) (v1 : Int32) : oh_J (oh_TR h xr (some (.object "OilPress$Grove")) G) (f_X7_findGrove h o v1) (oh_V G 0 0 h 0 [(0, xr (some o)), (1, xi v1)] []) := by
  unfold f_X7_findGrove
  refine or_iload_n C 1 rfl dX7_findGrove_0 ?_
  refine or_iconst C (v := (0 : Int32)) dX7_findGrove_1 (by decide) ?_
  refine or_aload_n C 0 rfl dX7_findGrove_2 ?_
  refine or_getI C 7 7 rfl (by decide) rfl (by decide) u_X7_findGrove_7 (by decide) k_X7_findGrove_f54 (by decide +kernel) dX7_findGrove_3 (fun x1 => ?_)
  refine or_iconst C (v := (1 : Int32)) dX7_findGrove_6 (by decide) ?_
  refine or_isub C dX7_findGrove_7 ?_
  refine oj_bind (fun p2 z3 => ?_)
  refine oj_v (P := oh_V G 0 0 h 11 [(0, xr (some o)), (1, xi v1)] [xi p2]) (fun k => or_callS C 3 hl (m_X7_isWithin _ h v1 (0 : Int32) (x1 - (1 : Int32)) p2 z3) gX7_findGrove_X7_isWithin rfl rfl rfl (by decide +kernel) ⟨Nat.le_of_ble_eq_true rfl, Nat.le_of_ble_eq_true rfl⟩ (Nat.le_of_ble_eq_true rfl) dX7_findGrove_8 ⟨Nat.le_of_ble_eq_true rfl, Nat.le_of_ble_eq_true rfl⟩ rfl rfl k) ?_
  refine or_if_eq C 23 dX7_findGrove_11 (by decide) ?_ ?_
  · refine or_null C dX7_findGrove_23 ?_
    refine or_sub [] rfl ?_
    exact w_X7_findGrove_24 C hl h o none
  · refine or_aload_n C 0 rfl dX7_findGrove_14 ?_
    refine or_getR C 7 0 rfl (by decide) rfl (by decide) u_X7_findGrove_7 (by decide) k_X7_findGrove_f11 (by decide +kernel) dX7_findGrove_15 (fun x4 => ?_)
    refine or_iload_n C 1 rfl dX7_findGrove_18 ?_
    refine or_aald C 3 (fun _ => rfl) (by decide) rfl dX7_findGrove_19 (fun x5 => ?_)
    refine or_goto C 24 dX7_findGrove_20 (by decide) ?_
    refine or_sub [] rfl ?_
    exact w_X7_findGrove_24 C hl h o x5
theorem m_X7_findGrove (l : Launch) (h : oh_H) (o : Nat) (v1 : Int32) (p : Option Nat) (hf : f_X7_findGrove h o v1 = some p) : oh_M l yX7_findGrove wsX7_findGrove rmX7_findGrove 0 0 [xr (some o), xi v1] h (some (xr p)) h :=
  oh_met (cc := cX7_findGrove) (maxL := 2) (ret := (some (.object "OilPress$Grove"))) (by decide) rfl (Nat.le_of_ble_eq_true rfl) (fun G C hl hN E => w_X7_findGrove_0 C hl h o v1 p hf E)
/-! X7_today -/
theorem k_X7_today_f64 : Cond.fieldLink RX7 64 "OilPress" "now" "I" ∈ wsX7_today := List.mem_of_getElem? (i := 1) (by decide +kernel)
theorem u_X7_today_7 : ∀ w ∈ u_ws RX7 TX7 14, w ∈ wsX7_today := fun w h => List.mem_cons_of_mem _ (List.mem_append_right _ (h))
abbrev rmX7_today : Room := { frames := 0, cells := 0, slots := 0, locals := 0 }
def f_X7_today (h : oh_H) (o : Nat) : Option (Int32) :=
  (oh_gI h (some o) 458).bind fun x1 => if (10 : Int32) = 0 then none else some (x1 / (10 : Int32))
set_option maxHeartbeats 4000000 in
set_option maxRecDepth 100000 in
theorem w_X7_today_0 {G : oh_G} {l : Launch} (C : oh_C G cX7_today wsX7_today RX7 rmX7_today 1) (hl : G.1.2.1 = l) (h : oh_H) (o : Nat) : oh_J (oh_TR h xi (some .int) G) (f_X7_today h o) (oh_V G 0 0 h 0 [(0, xr (some o))] []) := by
  unfold f_X7_today
  refine or_aload_n C 0 rfl dX7_today_0 ?_
  refine or_getI C 7 10 rfl (by decide) rfl (by decide) u_X7_today_7 (by decide) k_X7_today_f64 (by decide +kernel) dX7_today_1 (fun x1 => ?_)
  refine or_bipush C (v := (10 : Int32)) dX7_today_4 (by decide) ?_
  refine or_idiv C dX7_today_6 ?_
  exact or_iretR C dX7_today_7
theorem m_X7_today (l : Launch) (h : oh_H) (o : Nat) (p : Int32) (hf : f_X7_today h o = some p) : oh_M l yX7_today wsX7_today rmX7_today 0 0 [xr (some o)] h (some (xi p)) h :=
  oh_met (cc := cX7_today) (maxL := 1) (ret := (some .int)) (by decide) rfl (Nat.le_of_ble_eq_true rfl) (fun G C hl hN E => w_X7_today_0 C hl h o p hf E)
/-! X7_lot -/
theorem k_X7_lot_f58 : Cond.fieldLink RX7 58 "OilPress" "lotCount" "I" ∈ wsX7_lot := List.mem_of_getElem? (i := 1) (by decide +kernel)
theorem u_X7_lot_7 : ∀ w ∈ u_ws RX7 TX7 14, w ∈ wsX7_lot := fun w h => List.mem_cons_of_mem _ (List.mem_append_left _ (List.mem_append_right _ (h)))
theorem k_X7_lot_f17 : Cond.fieldLink RX7 17 "OilPress" "lots" "[LOilPress$Lot;" ∈ wsX7_lot := List.mem_of_getElem? (i := 2) (by decide +kernel)
theorem k_X7_lot_cl15 : Cond.classLink RX7 15 RX2 ∈ wsX7_lot := List.mem_of_getElem? (i := 3) (by decide +kernel)
theorem k_X7_lot_in2 : Cond.instantiable RX2 12 ∈ wsX7_lot := List.mem_of_getElem? (i := 4) (by decide +kernel)
theorem k_X7_lot_it2 : Cond.initialized RX2 ∈ wsX7_lot := List.mem_of_getElem? (i := 5) (by decide +kernel)
theorem k_X7_lot_ml98 : Cond.methodLink RX7 98 yX2_init ∈ wsX7_lot := List.mem_of_getElem? (i := 21) (by decide +kernel)
theorem k_X7_lot_imX2_init : Cond.instanceMethod yX2_init ∈ wsX7_lot := List.mem_of_getElem? (i := 22) (by decide +kernel)
theorem u_X7_lot_2 : ∀ w ∈ u_ws RX2 TX2 12, w ∈ wsX7_lot := fun w h => List.mem_cons_of_mem _ (List.mem_append_right _ (h))
abbrev rmX7_lot : Room := { frames := 2, cells := 1, slots := 12, locals := 44 }
def f_X7_lot_29 (h : oh_H) (o : Nat) : Option (Int32 × oh_H) :=
  some ((-1 : Int32), h)
def f_X7_lot (h : oh_H) (o : Nat) (v1 : Int32) (v2 : Int32) : Option (Int32 × oh_H) :=
  oh_rc h (some o) 8 fun o2 => (f_X7_findGrove h o2 v2).bind fun p3 => oh_lt p3 fun x5 => (f_X7_isWithin h v1 (0 : Int32) (4 : Int32)).bind fun p6 => if p6 = 0 then (f_X7_lot_29 h o) else (if x5 = none then (f_X7_lot_29 h o) else ((oh_gI h (some o) 456).bind fun x8 => if x8 < (200 : Int32) then ((oh_gR h (some o) 449).bind fun x9 => (oh_gI h (some o) 456).bind fun x10 => oh_new h 3 fun a12 h11 => (oh_gI h11 (some o) 456).bind fun x13 => oh_rc h11 (some o) 8 fun o15 => (f_X7_today h11 o15).bind fun p16 => (f_X2_init h11 a12 x13 v1 x5 p16).bind fun p18 => (oh_tR p18 x9 24 2 x10 (some a12)).bind fun h20 => (oh_gI h20 (some o) 456).bind fun x21 => (oh_pI h20 (some o) 456 (x21 + (1 : Int32))).bind fun h22 => (oh_gI h22 (some o) 456).bind fun x23 => some ((x23 - (1 : Int32)), h22)) else (f_X7_lot_29 h o)))
set_option maxHeartbeats 4000000 in
set_option maxRecDepth 100000 in
theorem w_X7_lot_29 {G : oh_G} {l : Launch} (C : oh_C G cX7_lot wsX7_lot RX7 rmX7_lot 4) (hl : G.1.2.1 = l) (h0 : oh_H) (h : oh_H) (o : Nat) : oh_J (oh_TW h0 xi 1 12 (some .int) G) (f_X7_lot_29 h o) (oh_V G 0 0 h 29 [] []) := by
  unfold f_X7_lot_29
  refine or_iconst C (v := (-1 : Int32)) dX7_lot_29 (by decide) ?_
  exact or_iret C ⟨Nat.le_of_ble_eq_true rfl, Nat.le_of_ble_eq_true rfl⟩ dX7_lot_30
set_option maxHeartbeats 4000000 in
set_option maxRecDepth 100000 in
theorem w_X7_lot_0 {G : oh_G} {l : Launch} (C : oh_C G cX7_lot wsX7_lot RX7 rmX7_lot 4) (hl : G.1.2.1 = l) (h0 : oh_H) (h : oh_H) (o : Nat) (v1 : Int32) (v2 : Int32) : oh_J (oh_TW h0 xi 1 12 (some .int) G) (f_X7_lot h o v1 v2) (oh_V G 0 0 h 0 [(0, xr (some o)), (1, xi v1), (2, xi v2)] []) := by
  unfold f_X7_lot
  refine or_aload_n C 0 rfl dX7_lot_0 ?_
  refine or_iload_n C 2 rfl dX7_lot_1 ?_
  refine oj_rcs (fun q1 => ?_)
  refine oj_bind (fun p3 z4 => ?_)
  refine oj_v (P := oh_V G 0 0 h 5 [(0, xr (some o)), (1, xi v1), (2, xi v2)] [xr p3]) (fun k => or_callV C 1 hl (m_X7_findGrove _ h o v2 p3 z4) gX7_lot_X7_findGrove rfl rfl rfl (by decide +kernel) ⟨Nat.le_of_ble_eq_true rfl, Nat.le_of_ble_eq_true rfl⟩ q1 rfl (by decide) (Nat.le_of_ble_eq_true rfl) dX7_lot_2 ⟨Nat.le_of_ble_eq_true rfl, Nat.le_of_ble_eq_true rfl⟩ rfl rfl k) ?_
  refine or_astore_n C (fun x5 => [(3, xr x5), (0, xr (some o)), (1, xi v1), (2, xi v2)]) (fun _ => rfl) (by decide) dX7_lot_5 (fun x5 => ?_)
  refine or_iload_n C 2 rfl dX7_lot_6 ?_
  refine or_iconst C (v := (0 : Int32)) dX7_lot_7 (by decide) ?_
  refine or_iconst C (v := (4 : Int32)) dX7_lot_8 (by decide) ?_
  refine oj_bind (fun p6 z7 => ?_)
  refine oj_v (P := oh_V G 0 0 h 12 [(3, xr x5), (0, xr (some o)), (1, xi v1), (2, xi v2)] [xi p6]) (fun k => or_callS C 3 hl (m_X7_isWithin _ h v1 (0 : Int32) (4 : Int32) p6 z7) gX7_lot_X7_isWithin rfl rfl rfl (by decide +kernel) ⟨Nat.le_of_ble_eq_true rfl, Nat.le_of_ble_eq_true rfl⟩ (Nat.le_of_ble_eq_true rfl) dX7_lot_9 ⟨Nat.le_of_ble_eq_true rfl, Nat.le_of_ble_eq_true rfl⟩ rfl rfl k) ?_
  refine or_if_eq C 29 dX7_lot_12 (by decide) ?_ ?_
  · refine or_sub [] rfl ?_
    exact w_X7_lot_29 C hl h0 h o
  · refine or_aload_n C 0 rfl dX7_lot_15 ?_
    refine or_ifnull C 29 dX7_lot_16 (by decide) ?_ ?_
    · refine or_sub [] rfl ?_
      exact w_X7_lot_29 C hl h0 h o
    · refine or_aload_n C 1 rfl dX7_lot_19 ?_
      refine or_getI C 7 8 rfl (by decide) rfl (by decide) u_X7_lot_7 (by decide) k_X7_lot_f58 (by decide +kernel) dX7_lot_20 (fun x8 => ?_)
      refine or_sipush C (v := (200 : Int32)) dX7_lot_23 (by decide) ?_
      refine or_icmp_lt C 31 dX7_lot_26 (by decide) ?_ ?_
      · refine or_aload_n C 1 rfl dX7_lot_31 ?_
        refine or_getR C 7 1 rfl (by decide) rfl (by decide) u_X7_lot_7 (by decide) k_X7_lot_f17 (by decide +kernel) dX7_lot_32 (fun x9 => ?_)
        refine or_aload_n C 1 rfl dX7_lot_35 ?_
        refine or_getI C 7 8 rfl (by decide) rfl (by decide) u_X7_lot_7 (by decide) k_X7_lot_f58 (by decide +kernel) dX7_lot_36 (fun x10 => ?_)
        refine or_new (cells := 0) (slots := 0) C 2 rfl rfl (by decide) u_X7_lot_2 tyX2 tyX2_ok k_X7_lot_cl15 k_X7_lot_in2 k_X7_lot_it2 df_X2 ⟨Nat.le_of_ble_eq_true rfl, Nat.le_of_ble_eq_true rfl⟩ dX7_lot_39 (fun a12 h11 => ?_)
        refine or_dup C rfl dX7_lot_42 ?_
        refine or_aload_n C 1 rfl dX7_lot_43 ?_
        refine or_getI C 7 8 rfl (by decide) rfl (by decide) u_X7_lot_7 (by decide) k_X7_lot_f58 (by decide +kernel) dX7_lot_44 (fun x13 => ?_)
        refine or_iload_n C 2 rfl dX7_lot_47 ?_
        refine or_aload_n C 0 rfl dX7_lot_48 ?_
        refine or_aload_n C 1 rfl dX7_lot_49 ?_
        refine oj_rcs (fun q14 => ?_)
        refine oj_bind (fun p16 z17 => ?_)
        refine oj_v (P := oh_V G 1 12 h11 53 [(3, xr x5), (0, xr (some o)), (1, xi v1), (2, xi v2)] [xi p16, xr x5, xi v1, xi x13, xr (some a12), xr (some a12), xi x10, xr x9]) (fun k => or_callV C 0 hl (m_X7_today _ h11 o p16 z17) gX7_lot_X7_today rfl rfl rfl (by decide +kernel) ⟨Nat.le_of_ble_eq_true rfl, Nat.le_of_ble_eq_true rfl⟩ q14 rfl (by decide) (Nat.le_of_ble_eq_true rfl) dX7_lot_50 ⟨Nat.le_of_ble_eq_true rfl, Nat.le_of_ble_eq_true rfl⟩ rfl rfl k) ?_
        refine oj_bind (fun p18 z19 => ?_)
        refine oj_v (P := oh_V G 1 12 p18 56 [(3, xr x5), (0, xr (some o)), (1, xi v1), (2, xi v2)] [xr (some a12), xi x10, xr x9]) (fun k => or_callI C 4 hl (m_X2_init _ h11 a12 x13 v1 x5 p16 p18 z19) gX7_lot_X2_init rfl rfl rfl k_X7_lot_it2 k_X7_lot_ml98 k_X7_lot_imX2_init rfl (by decide +kernel) ⟨Nat.le_of_ble_eq_true rfl, Nat.le_of_ble_eq_true rfl⟩ (Nat.le_of_ble_eq_true rfl) dX7_lot_53 ⟨Nat.le_of_ble_eq_true rfl, Nat.le_of_ble_eq_true rfl⟩ rfl rfl k) ?_
        refine or_aast C 4 2 (fun _ => rfl) (by decide) rfl (by decide) rfl dX7_lot_56 (fun h20 => ?_)
        refine or_aload_n C 1 rfl dX7_lot_57 ?_
        refine or_dup C rfl dX7_lot_58 ?_
        refine or_getI C 7 8 rfl (by decide) rfl (by decide) u_X7_lot_7 (by decide) k_X7_lot_f58 (by decide +kernel) dX7_lot_59 (fun x21 => ?_)
        refine or_iconst C (v := (1 : Int32)) dX7_lot_62 (by decide) ?_
        refine or_iadd C dX7_lot_63 ?_
        refine or_putI C 7 8 rfl (by decide) rfl (by decide) u_X7_lot_7 tyX7 tyX7_ok nmX7 (by decide) k_X7_lot_f58 (Or.inl rfl) (by decide +kernel) rfl dX7_lot_64 (fun h22 => ?_)
        refine or_aload_n C 1 rfl dX7_lot_67 ?_
        refine or_getI C 7 8 rfl (by decide) rfl (by decide) u_X7_lot_7 (by decide) k_X7_lot_f58 (by decide +kernel) dX7_lot_68 (fun x23 => ?_)
        refine or_iconst C (v := (1 : Int32)) dX7_lot_71 (by decide) ?_
        refine or_isub C dX7_lot_72 ?_
        exact or_iret C ⟨Nat.le_of_ble_eq_true rfl, Nat.le_of_ble_eq_true rfl⟩ dX7_lot_73
      · refine or_sub [] rfl ?_
        exact w_X7_lot_29 C hl h0 h o
theorem m_X7_lot (l : Launch) (h : oh_H) (o : Nat) (v1 : Int32) (v2 : Int32) (p : Int32 × oh_H) (hf : f_X7_lot h o v1 v2 = some p) : oh_M l yX7_lot wsX7_lot rmX7_lot 1 12 [xr (some o), xi v1, xi v2] h (some (xi p.1)) p.2 :=
  oh_met (cc := cX7_lot) (maxL := 4) (ret := (some .int)) (by decide) rfl (Nat.le_of_ble_eq_true rfl) (fun G C hl hN E => w_X7_lot_0 C hl h h o v1 v2 p hf E)
/-! X7_findLot -/
theorem k_X7_findLot_f58 : Cond.fieldLink RX7 58 "OilPress" "lotCount" "I" ∈ wsX7_findLot := List.mem_of_getElem? (i := 1) (by decide +kernel)
theorem u_X7_findLot_7 : ∀ w ∈ u_ws RX7 TX7 14, w ∈ wsX7_findLot := fun w h => List.mem_cons_of_mem _ (List.mem_append_right _ (h))
theorem k_X7_findLot_f17 : Cond.fieldLink RX7 17 "OilPress" "lots" "[LOilPress$Lot;" ∈ wsX7_findLot := List.mem_of_getElem? (i := 2) (by decide +kernel)
abbrev rmX7_findLot : Room := { frames := 1, cells := 0, slots := 0, locals := 22 }
def f_X7_findLot_24 (h : oh_H) (o : Nat) (s0 : Option Nat) : Option (Option Nat) :=
  some s0
def f_X7_findLot (h : oh_H) (o : Nat) (v1 : Int32) : Option (Option Nat) :=
  (oh_gI h (some o) 456).bind fun x1 => (f_X7_isWithin h v1 (0 : Int32) (x1 - (1 : Int32))).bind fun p2 => if p2 = 0 then (f_X7_findLot_24 h o none) else ((oh_gR h (some o) 449).bind fun x4 => (oh_aR h x4 24 v1).bind fun x5 => f_X7_findLot_24 h o x5)
set_option maxHeartbeats 4000000 in
set_option maxRecDepth 100000 in
theorem w_X7_findLot_24 {G : oh_G} {l : Launch} (C : oh_C G cX7_findLot wsX7_findLot RX7 rmX7_findLot 2) (hl : G.1.2.1 = l) (h : oh_H) (o : Nat) (s0 : Option Nat) : oh_J (oh_TR h xr (some (.object "OilPress$Lot")) G) (f_X7_findLot_24 h o s0) (oh_V G 0 0 h 24 [] [xr s0]) := by
  unfold f_X7_findLot_24
  exact or_aretR C dX7_findLot_24
set_option maxHeartbeats 4000000 in
set_option maxRecDepth 100000 in
theorem w_X7_findLot_0 {G : oh_G} {l : Launch} (C : oh_C G cX7_findLot wsX7_findLot RX7 rmX7_findLot 2) (hl : G.1.2.1 = l) (h : oh_H) (o : Nat) (v1 : Int32) : oh_J (oh_TR h xr (some (.object "OilPress$Lot")) G) (f_X7_findLot h o v1) (oh_V G 0 0 h 0 [(0, xr (some o)), (1, xi v1)] []) := by
  unfold f_X7_findLot
  refine or_iload_n C 1 rfl dX7_findLot_0 ?_
  refine or_iconst C (v := (0 : Int32)) dX7_findLot_1 (by decide) ?_
  refine or_aload_n C 0 rfl dX7_findLot_2 ?_
  refine or_getI C 7 8 rfl (by decide) rfl (by decide) u_X7_findLot_7 (by decide) k_X7_findLot_f58 (by decide +kernel) dX7_findLot_3 (fun x1 => ?_)
  refine or_iconst C (v := (1 : Int32)) dX7_findLot_6 (by decide) ?_
  refine or_isub C dX7_findLot_7 ?_
  refine oj_bind (fun p2 z3 => ?_)
  refine oj_v (P := oh_V G 0 0 h 11 [(0, xr (some o)), (1, xi v1)] [xi p2]) (fun k => or_callS C 3 hl (m_X7_isWithin _ h v1 (0 : Int32) (x1 - (1 : Int32)) p2 z3) gX7_findLot_X7_isWithin rfl rfl rfl (by decide +kernel) ⟨Nat.le_of_ble_eq_true rfl, Nat.le_of_ble_eq_true rfl⟩ (Nat.le_of_ble_eq_true rfl) dX7_findLot_8 ⟨Nat.le_of_ble_eq_true rfl, Nat.le_of_ble_eq_true rfl⟩ rfl rfl k) ?_
  refine or_if_eq C 23 dX7_findLot_11 (by decide) ?_ ?_
  · refine or_null C dX7_findLot_23 ?_
    refine or_sub [] rfl ?_
    exact w_X7_findLot_24 C hl h o none
  · refine or_aload_n C 0 rfl dX7_findLot_14 ?_
    refine or_getR C 7 1 rfl (by decide) rfl (by decide) u_X7_findLot_7 (by decide) k_X7_findLot_f17 (by decide +kernel) dX7_findLot_15 (fun x4 => ?_)
    refine or_iload_n C 1 rfl dX7_findLot_18 ?_
    refine or_aald C 4 (fun _ => rfl) (by decide) rfl dX7_findLot_19 (fun x5 => ?_)
    refine or_goto C 24 dX7_findLot_20 (by decide) ?_
    refine or_sub [] rfl ?_
    exact w_X7_findLot_24 C hl h o x5
theorem m_X7_findLot (l : Launch) (h : oh_H) (o : Nat) (v1 : Int32) (p : Option Nat) (hf : f_X7_findLot h o v1 = some p) : oh_M l yX7_findLot wsX7_findLot rmX7_findLot 0 0 [xr (some o), xi v1] h (some (xr p)) h :=
  oh_met (cc := cX7_findLot) (maxL := 2) (ret := (some (.object "OilPress$Lot"))) (by decide) rfl (Nat.le_of_ble_eq_true rfl) (fun G C hl hN E => w_X7_findLot_0 C hl h o v1 p hf E)
/-! X7_wish -/
theorem k_X7_wish_f105 : Cond.fieldLink RX7 105 "OilPress$Lot" "kind" "I" ∈ wsX7_wish := List.mem_of_getElem? (i := 1) (by decide +kernel)
theorem u_X7_wish_2 : ∀ w ∈ u_ws RX2 TX2 12, w ∈ wsX7_wish := fun w h => List.mem_cons_of_mem _ (List.mem_append_left _ (List.mem_append_right _ (h)))
theorem k_X7_wish_f112 : Cond.fieldLink RX7 112 "OilPress$Lot" "wishesOthers" "Z" ∈ wsX7_wish := List.mem_of_getElem? (i := 2) (by decide +kernel)
abbrev rmX7_wish : Room := { frames := 2, cells := 0, slots := 0, locals := 43 }
def f_X7_wish_25 (h : oh_H) (o : Nat) : Option (Int32 × oh_H) :=
  oh_bz (0 : Int32) (some ((0 : Int32), h))
def f_X7_wish (h : oh_H) (o : Nat) (v1 : Int32) (v2 : Int32) : Option (Int32 × oh_H) :=
  oh_rc h (some o) 8 fun o2 => (f_X7_findLot h o2 v1).bind fun p3 => oh_lt p3 fun x5 => if x5 = none then (f_X7_wish_25 h o) else ((oh_gI h x5 131).bind fun x6 => if x6 = (4 : Int32) then (f_X7_wish_25 h o) else (oh_rc h x5 3 fun o7 => (f_X2_isWaiting h o7).bind fun p10 => if p10 = 0 then (f_X7_wish_25 h o) else (oh_bz v2 ((oh_pI h x5 139 v2).bind fun h12 => oh_bz (1 : Int32) (some ((1 : Int32), h12))))))
set_option maxHeartbeats 4000000 in
set_option maxRecDepth 100000 in
theorem w_X7_wish_25 {G : oh_G} {l : Launch} (C : oh_C G cX7_wish wsX7_wish RX7 rmX7_wish 4) (hl : G.1.2.1 = l) (h0 : oh_H) (h : oh_H) (o : Nat) : oh_J (oh_TW h0 xi 0 0 (some .boolean) G) (f_X7_wish_25 h o) (oh_V G 0 0 h 25 [] []) := by
  unfold f_X7_wish_25
  refine or_iconst C (v := (0 : Int32)) dX7_wish_25 (by decide) ?_
  exact or_zret C ⟨Nat.le_of_ble_eq_true rfl, Nat.le_of_ble_eq_true rfl⟩ dX7_wish_26
set_option maxHeartbeats 4000000 in
set_option maxRecDepth 100000 in
theorem w_X7_wish_0 {G : oh_G} {l : Launch} (C : oh_C G cX7_wish wsX7_wish RX7 rmX7_wish 4) (hl : G.1.2.1 = l) (h0 : oh_H) (h : oh_H) (o : Nat) (v1 : Int32) (v2 : Int32) : oh_J (oh_TW h0 xi 0 0 (some .boolean) G) (f_X7_wish h o v1 v2) (oh_V G 0 0 h 0 [(0, xr (some o)), (1, xi v1), (2, xi v2)] []) := by
  unfold f_X7_wish
  refine or_aload_n C 0 rfl dX7_wish_0 ?_
  refine or_iload_n C 1 rfl dX7_wish_1 ?_
  refine oj_rcs (fun q1 => ?_)
  refine oj_bind (fun p3 z4 => ?_)
  refine oj_v (P := oh_V G 0 0 h 5 [(0, xr (some o)), (1, xi v1), (2, xi v2)] [xr p3]) (fun k => or_callV C 1 hl (m_X7_findLot _ h o v1 p3 z4) gX7_wish_X7_findLot rfl rfl rfl (by decide +kernel) ⟨Nat.le_of_ble_eq_true rfl, Nat.le_of_ble_eq_true rfl⟩ q1 rfl (by decide) (Nat.le_of_ble_eq_true rfl) dX7_wish_2 ⟨Nat.le_of_ble_eq_true rfl, Nat.le_of_ble_eq_true rfl⟩ rfl rfl k) ?_
  refine or_astore_n C (fun x5 => [(3, xr x5), (0, xr (some o)), (1, xi v1), (2, xi v2)]) (fun _ => rfl) (by decide) dX7_wish_5 (fun x5 => ?_)
  refine or_aload_n C 0 rfl dX7_wish_6 ?_
  refine or_ifnull C 25 dX7_wish_7 (by decide) ?_ ?_
  · refine or_sub [] rfl ?_
    exact w_X7_wish_25 C hl h0 h o
  · refine or_aload_n C 0 rfl dX7_wish_10 ?_
    refine or_getI C 2 3 rfl (by decide) rfl (by decide) u_X7_wish_2 (by decide) k_X7_wish_f105 (by decide +kernel) dX7_wish_11 (fun x6 => ?_)
    refine or_iconst C (v := (4 : Int32)) dX7_wish_14 (by decide) ?_
    refine or_icmp_eq C 25 dX7_wish_15 (by decide) ?_ ?_
    · refine or_sub [] rfl ?_
      exact w_X7_wish_25 C hl h0 h o
    · refine or_aload_n C 0 rfl dX7_wish_18 ?_
      refine oj_rc (fun o7 e9 q8 => ?_)
      refine oj_bind (fun p10 z11 => ?_)
      refine oj_v (P := oh_V G 0 0 h 22 [(3, xr x5), (0, xr (some o)), (1, xi v1), (2, xi v2)] [xi p10]) (fun k => or_callV C 0 hl (m_X2_isWaiting _ h o7 p10 z11) gX7_wish_X2_isWaiting rfl rfl rfl (by decide +kernel) ⟨Nat.le_of_ble_eq_true rfl, Nat.le_of_ble_eq_true rfl⟩ q8 rfl (by decide) (Nat.le_of_ble_eq_true rfl) dX7_wish_19 ⟨Nat.le_of_ble_eq_true rfl, Nat.le_of_ble_eq_true rfl⟩ rfl (by rw [e9]; rfl) k) ?_
      refine or_if_ne C 27 dX7_wish_22 (by decide) ?_ ?_
      · refine or_sub [] rfl ?_
        exact w_X7_wish_25 C hl h0 h o
      · refine or_aload_n C 0 rfl dX7_wish_27 ?_
        refine or_iload_n C 3 rfl dX7_wish_28 ?_
        refine or_putZ C 2 11 rfl (by decide) rfl (by decide) u_X7_wish_2 tyX2 tyX2_ok nmX2 (by decide) k_X7_wish_f112 (Or.inl rfl) (by decide +kernel) rfl dX7_wish_29 (fun h12 => ?_)
        refine or_iconst C (v := (1 : Int32)) dX7_wish_32 (by decide) ?_
        exact or_zret C ⟨Nat.le_of_ble_eq_true rfl, Nat.le_of_ble_eq_true rfl⟩ dX7_wish_33
theorem m_X7_wish (l : Launch) (h : oh_H) (o : Nat) (v1 : Int32) (v2 : Int32) (p : Int32 × oh_H) (hf : f_X7_wish h o v1 v2 = some p) : oh_M l yX7_wish wsX7_wish rmX7_wish 0 0 [xr (some o), xi v1, xi v2] h (some (xi p.1)) p.2 :=
  oh_met (cc := cX7_wish) (maxL := 4) (ret := (some .boolean)) (by decide) rfl (Nat.le_of_ble_eq_true rfl) (fun G C hl hN E => w_X7_wish_0 C hl h h o v1 v2 p hf E)
/-! X7_scale -/
theorem k_X7_scale_f73 : Cond.fieldLink RX7 73 "OilPress" "freePlaces" "I" ∈ wsX7_scale := List.mem_of_getElem? (i := 1) (by decide +kernel)
theorem u_X7_scale_7 : ∀ w ∈ u_ws RX7 TX7 14, w ∈ wsX7_scale := fun w h => List.mem_cons_of_mem _ (List.mem_append_right _ (h))
abbrev rmX7_scale : Room := { frames := 1, cells := 0, slots := 0, locals := 22 }
def f_X7_scale (h : oh_H) (o : Nat) (v1 : Int32) : Option (Int32 × oh_H) :=
  (f_X7_isWithin h v1 (0 : Int32) (30 : Int32)).bind fun p1 => if p1 = 0 then (oh_bz (0 : Int32) (some ((0 : Int32), h))) else ((oh_pI h (some o) 461 v1).bind fun h3 => oh_bz (1 : Int32) (some ((1 : Int32), h3)))
set_option maxHeartbeats 4000000 in
set_option maxRecDepth 100000 in
theorem w_X7_scale_0 {G : oh_G} {l : Launch} (C : oh_C G cX7_scale wsX7_scale RX7 rmX7_scale 2) (hl : G.1.2.1 = l) (h0 : oh_H) (h : oh_H) (o : Nat) (v1 : Int32) : oh_J (oh_TW h0 xi 0 0 (some .boolean) G) (f_X7_scale h o v1) (oh_V G 0 0 h 0 [(0, xr (some o)), (1, xi v1)] []) := by
  unfold f_X7_scale
  refine or_iload_n C 1 rfl dX7_scale_0 ?_
  refine or_iconst C (v := (0 : Int32)) dX7_scale_1 (by decide) ?_
  refine or_bipush C (v := (30 : Int32)) dX7_scale_2 (by decide) ?_
  refine oj_bind (fun p1 z2 => ?_)
  refine oj_v (P := oh_V G 0 0 h 7 [(0, xr (some o)), (1, xi v1)] [xi p1]) (fun k => or_callS C 3 hl (m_X7_isWithin _ h v1 (0 : Int32) (30 : Int32) p1 z2) gX7_scale_X7_isWithin rfl rfl rfl (by decide +kernel) ⟨Nat.le_of_ble_eq_true rfl, Nat.le_of_ble_eq_true rfl⟩ (Nat.le_of_ble_eq_true rfl) dX7_scale_4 ⟨Nat.le_of_ble_eq_true rfl, Nat.le_of_ble_eq_true rfl⟩ rfl rfl k) ?_
  refine or_if_ne C 12 dX7_scale_7 (by decide) ?_ ?_
  · refine or_iconst C (v := (0 : Int32)) dX7_scale_10 (by decide) ?_
    exact or_zret C ⟨Nat.le_of_ble_eq_true rfl, Nat.le_of_ble_eq_true rfl⟩ dX7_scale_11
  · refine or_aload_n C 0 rfl dX7_scale_12 ?_
    refine or_iload_n C 1 rfl dX7_scale_13 ?_
    refine or_putI C 7 13 rfl (by decide) rfl (by decide) u_X7_scale_7 tyX7 tyX7_ok nmX7 (by decide) k_X7_scale_f73 (Or.inl rfl) (by decide +kernel) rfl dX7_scale_14 (fun h3 => ?_)
    refine or_iconst C (v := (1 : Int32)) dX7_scale_17 (by decide) ?_
    exact or_zret C ⟨Nat.le_of_ble_eq_true rfl, Nat.le_of_ble_eq_true rfl⟩ dX7_scale_18
theorem m_X7_scale (l : Launch) (h : oh_H) (o : Nat) (v1 : Int32) (p : Int32 × oh_H) (hf : f_X7_scale h o v1 = some p) : oh_M l yX7_scale wsX7_scale rmX7_scale 0 0 [xr (some o), xi v1] h (some (xi p.1)) p.2 :=
  oh_met (cc := cX7_scale) (maxL := 2) (ret := (some .boolean)) (by decide) rfl (Nat.le_of_ble_eq_true rfl) (fun G C hl hN E => w_X7_scale_0 C hl h h o v1 p hf E)
/-! X7_weigh -/
theorem k_X7_weigh_f120 : Cond.fieldLink RX7 120 "OilPress$Lot" "tenths" "I" ∈ wsX7_weigh := List.mem_of_getElem? (i := 4) (by decide +kernel)
theorem u_X7_weigh_2 : ∀ w ∈ u_ws RX2 TX2 12, w ∈ wsX7_weigh := fun w h => List.mem_cons_of_mem _ (List.mem_append_left _ (List.mem_append_right _ (h)))
theorem k_X7_weigh_f116 : Cond.fieldLink RX7 116 "OilPress$Lot" "state" "I" ∈ wsX7_weigh := List.mem_of_getElem? (i := 1) (by decide +kernel)
theorem k_X7_weigh_f73 : Cond.fieldLink RX7 73 "OilPress" "freePlaces" "I" ∈ wsX7_weigh := List.mem_of_getElem? (i := 3) (by decide +kernel)
theorem u_X7_weigh_7 : ∀ w ∈ u_ws RX7 TX7 14, w ∈ wsX7_weigh := fun w h => List.mem_cons_of_mem _ (List.mem_append_right _ (h))
theorem k_X7_weigh_c119 : Cond.constant RX7 119 (80000) ∈ wsX7_weigh := List.mem_of_getElem? (i := 2) (by decide +kernel)
abbrev rmX7_weigh : Room := { frames := 2, cells := 0, slots := 0, locals := 43 }
def f_X7_weigh_17 (h : oh_H) (o : Nat) : Option (Int32 × oh_H) :=
  some ((-1 : Int32), h)
def f_X7_weigh_73 (h : oh_H) (o : Nat) (v3 : Option Nat) (s0 : Int32) : Option (Int32 × oh_H) :=
  oh_lt s0 fun x1 => if (1 : Int32) ≤ x1 then ((oh_pI h v3 133 x1).bind fun h2 => (oh_pI h2 v3 132 (1 : Int32)).bind fun h3 => some (x1, h3)) else (some ((-3 : Int32), h))
def f_X7_weigh_36 (h : oh_H) (o : Nat) (v2 : Int32) (v3 : Option Nat) : Option (Int32 × oh_H) :=
  (oh_gI h (some o) 461).bind fun x1 => if (1 : Int32) ≤ x1 then ((oh_gI h (some o) 461).bind fun x2 => (oh_pI h (some o) 461 (x2 - (1 : Int32))).bind fun h3 => if v2 = (-1 : Int32) then (f_X7_weigh_73 h3 o v3 (0 : Int32)) else (if (8 : Int32) = 0 then none else f_X7_weigh_73 h3 o v3 ((v2 * (10 : Int32)) / (8 : Int32)))) else (some ((-2 : Int32), h))
def f_X7_weigh (h : oh_H) (o : Nat) (v1 : Int32) (v2 : Int32) : Option (Int32 × oh_H) :=
  oh_rc h (some o) 8 fun o2 => (f_X7_findLot h o2 v1).bind fun p3 => oh_lt p3 fun x5 => if x5 = none then (f_X7_weigh_17 h o) else ((oh_gI h x5 132).bind fun x6 => if x6 = 0 then (if v2 = (-1 : Int32) then (f_X7_weigh_36 h o v2 x5) else ((f_X7_isWithin h v2 (1 : Int32) (80000 : Int32)).bind fun p7 => if p7 = 0 then (some ((-1 : Int32), h)) else (f_X7_weigh_36 h o v2 x5))) else (f_X7_weigh_17 h o))
set_option maxHeartbeats 4000000 in
set_option maxRecDepth 100000 in
theorem w_X7_weigh_17 {G : oh_G} {l : Launch} (C : oh_C G cX7_weigh wsX7_weigh RX7 rmX7_weigh 5) (hl : G.1.2.1 = l) (h0 : oh_H) (h : oh_H) (o : Nat) : oh_J (oh_TW h0 xi 0 0 (some .int) G) (f_X7_weigh_17 h o) (oh_V G 0 0 h 17 [] []) := by
  unfold f_X7_weigh_17
  refine or_iconst C (v := (-1 : Int32)) dX7_weigh_17 (by decide) ?_
  exact or_iret C ⟨Nat.le_of_ble_eq_true rfl, Nat.le_of_ble_eq_true rfl⟩ dX7_weigh_18
set_option maxHeartbeats 4000000 in
set_option maxRecDepth 100000 in
theorem w_X7_weigh_73 {G : oh_G} {l : Launch} (C : oh_C G cX7_weigh wsX7_weigh RX7 rmX7_weigh 5) (hl : G.1.2.1 = l) (h0 : oh_H) (h : oh_H) (o : Nat) (v3 : Option Nat) (s0 : Int32) : oh_J (oh_TW h0 xi 0 0 (some .int) G) (f_X7_weigh_73 h o v3 s0) (oh_V G 0 0 h 73 [(3, xr v3)] [xi s0]) := by
  unfold f_X7_weigh_73
  refine or_istore C (fun x1 => [(4, xi x1), (3, xr v3)]) (fun _ => rfl) (by decide) dX7_weigh_73 (fun x1 => ?_)
  refine or_iload C 0 rfl dX7_weigh_75 ?_
  refine or_iconst C (v := (1 : Int32)) dX7_weigh_77 (by decide) ?_
  refine or_icmp_ge C 84 dX7_weigh_78 (by decide) ?_ ?_
  · refine or_aload_n C 1 rfl dX7_weigh_84 ?_
    refine or_iload C 0 rfl dX7_weigh_85 ?_
    refine or_putI C 2 5 rfl (by decide) rfl (by decide) u_X7_weigh_2 tyX2 tyX2_ok nmX2 (by decide) k_X7_weigh_f120 (Or.inl rfl) (by decide +kernel) rfl dX7_weigh_87 (fun h2 => ?_)
    refine or_aload_n C 1 rfl dX7_weigh_90 ?_
    refine or_iconst C (v := (1 : Int32)) dX7_weigh_91 (by decide) ?_
    refine or_putI C 2 4 rfl (by decide) rfl (by decide) u_X7_weigh_2 tyX2 tyX2_ok nmX2 (by decide) k_X7_weigh_f116 (Or.inl rfl) (by decide +kernel) rfl dX7_weigh_92 (fun h3 => ?_)
    refine or_iload C 0 rfl dX7_weigh_95 ?_
    exact or_iret C ⟨Nat.le_of_ble_eq_true rfl, Nat.le_of_ble_eq_true rfl⟩ dX7_weigh_97
  · refine or_bipush C (v := (-3 : Int32)) dX7_weigh_81 (by decide) ?_
    exact or_iret C ⟨Nat.le_of_ble_eq_true rfl, Nat.le_of_ble_eq_true rfl⟩ dX7_weigh_83
set_option maxHeartbeats 4000000 in
set_option maxRecDepth 100000 in
theorem w_X7_weigh_36 {G : oh_G} {l : Launch} (C : oh_C G cX7_weigh wsX7_weigh RX7 rmX7_weigh 5) (hl : G.1.2.1 = l) (h0 : oh_H) (h : oh_H) (o : Nat) (v2 : Int32) (v3 : Option Nat) : oh_J (oh_TW h0 xi 0 0 (some .int) G) (f_X7_weigh_36 h o v2 v3) (oh_V G 0 0 h 36 [(0, xr (some o)), (2, xi v2), (3, xr v3)] []) := by
  unfold f_X7_weigh_36
  refine or_aload_n C 0 rfl dX7_weigh_36 ?_
  refine or_getI C 7 13 rfl (by decide) rfl (by decide) u_X7_weigh_7 (by decide) k_X7_weigh_f73 (by decide +kernel) dX7_weigh_37 (fun x1 => ?_)
  refine or_iconst C (v := (1 : Int32)) dX7_weigh_40 (by decide) ?_
  refine or_icmp_ge C 47 dX7_weigh_41 (by decide) ?_ ?_
  · refine or_aload_n C 0 rfl dX7_weigh_47 ?_
    refine or_dup C rfl dX7_weigh_48 ?_
    refine or_getI C 7 13 rfl (by decide) rfl (by decide) u_X7_weigh_7 (by decide) k_X7_weigh_f73 (by decide +kernel) dX7_weigh_49 (fun x2 => ?_)
    refine or_iconst C (v := (1 : Int32)) dX7_weigh_52 (by decide) ?_
    refine or_isub C dX7_weigh_53 ?_
    refine or_putI C 7 13 rfl (by decide) rfl (by decide) u_X7_weigh_7 tyX7 tyX7_ok nmX7 (by decide) k_X7_weigh_f73 (Or.inl rfl) (by decide +kernel) rfl dX7_weigh_54 (fun h3 => ?_)
    refine or_iload_n C 1 rfl dX7_weigh_57 ?_
    refine or_iconst C (v := (-1 : Int32)) dX7_weigh_58 (by decide) ?_
    refine or_icmp_ne C 66 dX7_weigh_59 (by decide) ?_ ?_
    · refine or_iconst C (v := (0 : Int32)) dX7_weigh_62 (by decide) ?_
      refine or_goto C 73 dX7_weigh_63 (by decide) ?_
      refine or_sub [2] rfl ?_
      exact w_X7_weigh_73 C hl h0 h3 o v3 (0 : Int32)
    · refine or_iload_n C 1 rfl dX7_weigh_66 ?_
      refine or_bipush C (v := (10 : Int32)) dX7_weigh_67 (by decide) ?_
      refine or_imul C dX7_weigh_69 ?_
      refine or_bipush C (v := (8 : Int32)) dX7_weigh_70 (by decide) ?_
      refine or_idiv C dX7_weigh_72 ?_
      refine or_sub [2] rfl ?_
      exact w_X7_weigh_73 C hl h0 h3 o v3 ((v2 * (10 : Int32)) / (8 : Int32))
  · refine or_bipush C (v := (-2 : Int32)) dX7_weigh_44 (by decide) ?_
    exact or_iret C ⟨Nat.le_of_ble_eq_true rfl, Nat.le_of_ble_eq_true rfl⟩ dX7_weigh_46
set_option maxHeartbeats 4000000 in
set_option maxRecDepth 100000 in
theorem w_X7_weigh_0 {G : oh_G} {l : Launch} (C : oh_C G cX7_weigh wsX7_weigh RX7 rmX7_weigh 5) (hl : G.1.2.1 = l) (h0 : oh_H) (h : oh_H) (o : Nat) (v1 : Int32) (v2 : Int32) : oh_J (oh_TW h0 xi 0 0 (some .int) G) (f_X7_weigh h o v1 v2) (oh_V G 0 0 h 0 [(0, xr (some o)), (1, xi v1), (2, xi v2)] []) := by
  unfold f_X7_weigh
  refine or_aload_n C 0 rfl dX7_weigh_0 ?_
  refine or_iload_n C 1 rfl dX7_weigh_1 ?_
  refine oj_rcs (fun q1 => ?_)
  refine oj_bind (fun p3 z4 => ?_)
  refine oj_v (P := oh_V G 0 0 h 5 [(0, xr (some o)), (1, xi v1), (2, xi v2)] [xr p3]) (fun k => or_callV C 1 hl (m_X7_findLot _ h o v1 p3 z4) gX7_weigh_X7_findLot rfl rfl rfl (by decide +kernel) ⟨Nat.le_of_ble_eq_true rfl, Nat.le_of_ble_eq_true rfl⟩ q1 rfl (by decide) (Nat.le_of_ble_eq_true rfl) dX7_weigh_2 ⟨Nat.le_of_ble_eq_true rfl, Nat.le_of_ble_eq_true rfl⟩ rfl rfl k) ?_
  refine or_astore_n C (fun x5 => [(3, xr x5), (0, xr (some o)), (1, xi v1), (2, xi v2)]) (fun _ => rfl) (by decide) dX7_weigh_5 (fun x5 => ?_)
  refine or_aload_n C 0 rfl dX7_weigh_6 ?_
  refine or_ifnull C 17 dX7_weigh_7 (by decide) ?_ ?_
  · refine or_sub [] rfl ?_
    exact w_X7_weigh_17 C hl h0 h o
  · refine or_aload_n C 0 rfl dX7_weigh_10 ?_
    refine or_getI C 2 4 rfl (by decide) rfl (by decide) u_X7_weigh_2 (by decide) k_X7_weigh_f116 (by decide +kernel) dX7_weigh_11 (fun x6 => ?_)
    refine or_if_eq C 19 dX7_weigh_14 (by decide) ?_ ?_
    · refine or_iload_n C 3 rfl dX7_weigh_19 ?_
      refine or_iconst C (v := (-1 : Int32)) dX7_weigh_20 (by decide) ?_
      refine or_icmp_eq C 36 dX7_weigh_21 (by decide) ?_ ?_
      · refine or_sub [1, 3, 0] rfl ?_
        exact w_X7_weigh_36 C hl h0 h o v2 x5
      · refine or_iload_n C 3 rfl dX7_weigh_24 ?_
        refine or_iconst C (v := (1 : Int32)) dX7_weigh_25 (by decide) ?_
        refine or_ldc C (v := (80000 : Int32)) k_X7_weigh_c119 dX7_weigh_26 ?_
        refine oj_bind (fun p7 z8 => ?_)
        refine oj_v (P := oh_V G 0 0 h 31 [(3, xr x5), (0, xr (some o)), (1, xi v1), (2, xi v2)] [xi p7]) (fun k => or_callS C 3 hl (m_X7_isWithin _ h v2 (1 : Int32) (80000 : Int32) p7 z8) gX7_weigh_X7_isWithin rfl rfl rfl (by decide +kernel) ⟨Nat.le_of_ble_eq_true rfl, Nat.le_of_ble_eq_true rfl⟩ (Nat.le_of_ble_eq_true rfl) dX7_weigh_28 ⟨Nat.le_of_ble_eq_true rfl, Nat.le_of_ble_eq_true rfl⟩ rfl rfl k) ?_
        refine or_if_ne C 36 dX7_weigh_31 (by decide) ?_ ?_
        · refine or_iconst C (v := (-1 : Int32)) dX7_weigh_34 (by decide) ?_
          exact or_iret C ⟨Nat.le_of_ble_eq_true rfl, Nat.le_of_ble_eq_true rfl⟩ dX7_weigh_35
        · refine or_sub [1, 3, 0] rfl ?_
          exact w_X7_weigh_36 C hl h0 h o v2 x5
    · refine or_sub [] rfl ?_
      exact w_X7_weigh_17 C hl h0 h o
theorem m_X7_weigh (l : Launch) (h : oh_H) (o : Nat) (v1 : Int32) (v2 : Int32) (p : Int32 × oh_H) (hf : f_X7_weigh h o v1 v2 = some p) : oh_M l yX7_weigh wsX7_weigh rmX7_weigh 0 0 [xr (some o), xi v1, xi v2] h (some (xi p.1)) p.2 :=
  oh_met (cc := cX7_weigh) (maxL := 5) (ret := (some .int)) (by decide) rfl (Nat.le_of_ble_eq_true rfl) (fun G C hl hN E => w_X7_weigh_0 C hl h h o v1 v2 p hf E)
