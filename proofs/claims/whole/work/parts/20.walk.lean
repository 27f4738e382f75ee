/-! X8_sumOf -/
theorem k_X8_sumOf_f69 : Cond.fieldLink RX8 69 "OilPressModel" "inBin" "[I" ∈ wsX8_sumOf := List.mem_of_getElem? (i := 1) (by decide +kernel)
theorem u_X8_sumOf_8 : ∀ w ∈ u_ws RX8 TX8 54, w ∈ wsX8_sumOf := fun w h => List.mem_cons_of_mem _ (List.mem_append_right _ (h))
theorem k_X8_sumOf_f38 : Cond.fieldLink RX8 38 "OilPressModel" "tenths" "[I" ∈ wsX8_sumOf := List.mem_of_getElem? (i := 2) (by decide +kernel)
abbrev rmX8_sumOf : Room := { frames := 1, cells := 0, slots := 0, locals := 22 }
abbrev pv_X8_sumOf_4 (G : oh_G) (h : oh_H) (o : Nat) (v1 : Int32) : (Int32 × Int32) → Prop := fun s => oh_V G 0 0 h 4 [(0, xr (some o)), (1, xi v1), (2, xi s.1), (3, xi s.2)] []
def b_X8_sumOf_4 (h : oh_H) (o : Nat) (v1 : Int32) (v2 : Int32) (v3 : Int32) : Option ((Int32 × Int32) ⊕ (Int32)) :=
  (oh_gR h (some o) 534).bind fun x1 => (oh_aI h x1 20 v1).bind fun x2 => if x2 ≤ v3 then (Option.map Sum.inr (some v2)) else ((oh_gR h (some o) 524).bind fun x3 => oh_rc h (some o) 9 fun o5 => (f_X8_lotIn h o5 v1 v3).bind fun p6 => (oh_aI h x3 20 p6).bind fun x8 => oh_lt (v2 + x8) fun x9 => oh_lt (v3 + (1 : Int32)) fun x10 => some (Sum.inl (x9, x10)))
def f_X8_sumOf_4 (h : oh_H) (o : Nat) (v1 : Int32) (v2 : Int32) (v3 : Int32) : Option (Int32) := oh_loop (fun s : Int32 × Int32 => b_X8_sumOf_4 h o v1 s.1 s.2) 1000000 (v2, v3)
def f_X8_sumOf (h : oh_H) (o : Nat) (v1 : Int32) : Option (Int32) :=
  oh_lt (0 : Int32) fun x1 => oh_lt (0 : Int32) fun x2 => f_X8_sumOf_4 h o v1 x1 x2
set_option maxHeartbeats 4000000 in
set_option maxRecDepth 100000 in
theorem wb_X8_sumOf_4 {G : oh_G} {l : Launch} (C : oh_C G cX8_sumOf wsX8_sumOf RX8 rmX8_sumOf 4) (hl : G.1.2.1 = l) (h : oh_H) (o : Nat) (v1 : Int32) (v2 : Int32) (v3 : Int32) : oh_J (oh_TL (pv_X8_sumOf_4 G h o v1) (oh_TR h xi (some .int) G)) (b_X8_sumOf_4 h o v1 v2 v3) (oh_V G 0 0 h 4 [(0, xr (some o)), (1, xi v1), (2, xi v2), (3, xi v3)] []) := by
  unfold b_X8_sumOf_4
  refine or_iload_n C 3 rfl dX8_sumOf_4 ?_
  refine or_aload_n C 0 rfl dX8_sumOf_5 ?_
  refine or_getR C 8 22 rfl (by decide) rfl (by decide) u_X8_sumOf_8 (by decide) k_X8_sumOf_f69 (by decide +kernel) dX8_sumOf_6 (fun x1 => ?_)
  refine or_iload_n C 1 rfl dX8_sumOf_9 ?_
  refine or_iald C dX8_sumOf_10 (fun x2 => ?_)
  refine or_icmp_ge C 34 dX8_sumOf_11 (by decide) ?_ ?_
  · refine oj_inr ?_
    refine or_iload_n C 2 rfl dX8_sumOf_34 ?_
    exact or_iretR C dX8_sumOf_35
  · refine or_iload_n C 2 rfl dX8_sumOf_14 ?_
    refine or_aload_n C 0 rfl dX8_sumOf_15 ?_
    refine or_getR C 8 12 rfl (by decide) rfl (by decide) u_X8_sumOf_8 (by decide) k_X8_sumOf_f38 (by decide +kernel) dX8_sumOf_16 (fun x3 => ?_)
    refine or_aload_n C 0 rfl dX8_sumOf_19 ?_
    refine or_iload_n C 1 rfl dX8_sumOf_20 ?_
    refine or_iload_n C 3 rfl dX8_sumOf_21 ?_
    refine oj_rcs (fun q4 => ?_)
    refine oj_bind (fun p6 z7 => ?_)
    refine oj_v (P := oh_V G 0 0 h 25 [(0, xr (some o)), (1, xi v1), (2, xi v2), (3, xi v3)] [xi p6, xr x3, xi v2]) (fun k => or_callV C 2 hl (m_X8_lotIn _ h o v1 v3 p6 z7) gX8_sumOf_X8_lotIn rfl rfl rfl (by decide +kernel) ⟨Nat.le_of_ble_eq_true rfl, Nat.le_of_ble_eq_true rfl⟩ q4 rfl (by decide) (Nat.le_of_ble_eq_true rfl) dX8_sumOf_22 ⟨Nat.le_of_ble_eq_true rfl, Nat.le_of_ble_eq_true rfl⟩ rfl rfl k) ?_
    refine or_iald C dX8_sumOf_25 (fun x8 => ?_)
    refine or_iadd C dX8_sumOf_26 ?_
    refine or_istore_n C (fun x9 => [(2, xi x9), (0, xr (some o)), (1, xi v1), (3, xi v3)]) (fun _ => rfl) (by decide) dX8_sumOf_27 (fun x9 => ?_)
    refine or_iinc C (y := (1 : Int32)) 3 rfl (by decide) (fun x10 => [(3, xi x10), (2, xi x9), (0, xr (some o)), (1, xi v1)]) (fun _ => rfl) (by decide) dX8_sumOf_28 (fun x10 => ?_)
    refine or_goto C 4 dX8_sumOf_31 (by decide) ?_
    refine or_sub [2, 3, 1, 0] rfl ?_
    exact oj_back (P := pv_X8_sumOf_4 G h o v1) (s := (x9, x10))
theorem w_X8_sumOf_4 {G : oh_G} {l : Launch} (C : oh_C G cX8_sumOf wsX8_sumOf RX8 rmX8_sumOf 4) (hl : G.1.2.1 = l) (h : oh_H) (o : Nat) (v1 : Int32) (v2 : Int32) (v3 : Int32) : oh_J (oh_TR h xi (some .int) G) (f_X8_sumOf_4 h o v1 v2 v3) (oh_V G 0 0 h 4 [(0, xr (some o)), (1, xi v1), (2, xi v2), (3, xi v3)] []) := by
  unfold f_X8_sumOf_4
  exact oj_loop (P := pv_X8_sumOf_4 G h o v1) (fun s => wb_X8_sumOf_4 C hl h o v1 s.1 s.2) 1000000 (v2, v3)
set_option maxHeartbeats 4000000 in
set_option maxRecDepth 100000 in
theorem w_X8_sumOf_0 {G : oh_G} {l : Launch} (C : oh_C G cX8_sumOf wsX8_sumOf RX8 rmX8_sumOf 4) (hl : G.1.2.1 = l) (h : oh_H) (o : Nat) (v1 : Int32) : oh_J (oh_TR h xi (some .int) G) (f_X8_sumOf h o v1) (oh_V G 0 0 h 0 [(0, xr (some o)), (1, xi v1)] []) := by
  unfold f_X8_sumOf
  refine or_iconst C (v := (0 : Int32)) dX8_sumOf_0 (by decide) ?_
  refine or_istore_n C (fun x1 => [(2, xi x1), (0, xr (some o)), (1, xi v1)]) (fun _ => rfl) (by decide) dX8_sumOf_1 (fun x1 => ?_)
  refine or_iconst C (v := (0 : Int32)) dX8_sumOf_2 (by decide) ?_
  refine or_istore_n C (fun x2 => [(3, xi x2), (2, xi x1), (0, xr (some o)), (1, xi v1)]) (fun _ => rfl) (by decide) dX8_sumOf_3 (fun x2 => ?_)
  refine or_sub [2, 3, 1, 0] rfl ?_
  exact w_X8_sumOf_4 C hl h o v1 x1 x2
theorem m_X8_sumOf (l : Launch) (h : oh_H) (o : Nat) (v1 : Int32) (p : Int32) (hf : f_X8_sumOf h o v1 = some p) : oh_M l yX8_sumOf wsX8_sumOf rmX8_sumOf 0 0 [xr (some o), xi v1] h (some (xi p)) h :=
  oh_met (cc := cX8_sumOf) (maxL := 4) (ret := (some .int)) (by decide) rfl (Nat.le_of_ble_eq_true rfl) (fun G C hl hN E => w_X8_sumOf_0 C hl h o v1 p hf E)
/-! X8_hours -/
theorem k_X8_hours_f63 : Cond.fieldLink RX8 63 "OilPressModel" "rate" "[I" ∈ wsX8_hours := List.mem_of_getElem? (i := 1) (by decide +kernel)
theorem u_X8_hours_8 : ∀ w ∈ u_ws RX8 TX8 54, w ∈ wsX8_hours := fun w h => List.mem_cons_of_mem _ (List.mem_append_right _ (h))
abbrev rmX8_hours : Room := { frames := 0, cells := 0, slots := 0, locals := 0 }
def f_X8_hours (h : oh_H) (o : Nat) (v1 : Int32) (v2 : Int32) : Option (Int32) :=
  (oh_gR h (some o) 532).bind fun x1 => (oh_aI h x1 20 v2).bind fun x2 => (oh_gR h (some o) 532).bind fun x3 => (oh_aI h x3 20 v2).bind fun x4 => if x4 = 0 then none else some (((v1 + x2) - (1 : Int32)) / x4)
set_option maxHeartbeats 4000000 in
set_option maxRecDepth 100000 in
theorem w_X8_hours_0 {G : oh_G} {l : Launch} (C : oh_C G cX8_hours wsX8_hours RX8 rmX8_hours 3) (hl : G.1.2.1 = l) (h : oh_H) (o : Nat) (v1 : Int32) (v2 : Int32) : oh_J (oh_TR h xi (some .int) G) (f_X8_hours h o v1 v2) (oh_V G 0 0 h 0 [(0, xr (some o)), (1, xi v1), (2, xi v2)] []) := by
  unfold f_X8_hours
  refine or_iload_n C 1 rfl dX8_hours_0 ?_
  refine or_aload_n C 0 rfl dX8_hours_1 ?_
  refine or_getR C 8 20 rfl (by decide) rfl (by decide) u_X8_hours_8 (by decide) k_X8_hours_f63 (by decide +kernel) dX8_hours_2 (fun x1 => ?_)
  refine or_iload_n C 2 rfl dX8_hours_5 ?_
  refine or_iald C dX8_hours_6 (fun x2 => ?_)
  refine or_iadd C dX8_hours_7 ?_
  refine or_iconst C (v := (1 : Int32)) dX8_hours_8 (by decide) ?_
  refine or_isub C dX8_hours_9 ?_
  refine or_aload_n C 0 rfl dX8_hours_10 ?_
  refine or_getR C 8 20 rfl (by decide) rfl (by decide) u_X8_hours_8 (by decide) k_X8_hours_f63 (by decide +kernel) dX8_hours_11 (fun x3 => ?_)
  refine or_iload_n C 2 rfl dX8_hours_14 ?_
  refine or_iald C dX8_hours_15 (fun x4 => ?_)
  refine or_idiv C dX8_hours_16 ?_
  exact or_iretR C dX8_hours_17
theorem m_X8_hours (l : Launch) (h : oh_H) (o : Nat) (v1 : Int32) (v2 : Int32) (p : Int32) (hf : f_X8_hours h o v1 v2 = some p) : oh_M l yX8_hours wsX8_hours rmX8_hours 0 0 [xr (some o), xi v1, xi v2] h (some (xi p)) h :=
  oh_met (cc := cX8_hours) (maxL := 3) (ret := (some .int)) (by decide) rfl (Nat.le_of_ble_eq_true rfl) (fun G C hl hN E => w_X8_hours_0 C hl h o v1 v2 p hf E)
/-! X8_mayBegin -/
theorem k_X8_mayBegin_f60 : Cond.fieldLink RX8 60 "OilPressModel" "least" "[I" ∈ wsX8_mayBegin := List.mem_of_getElem? (i := 6) (by decide +kernel)
theorem u_X8_mayBegin_8 : ∀ w ∈ u_ws RX8 TX8 54, w ∈ wsX8_mayBegin := fun w h => List.mem_cons_of_mem _ (List.mem_append_right _ (h))
theorem k_X8_mayBegin_f75 : Cond.fieldLink RX8 75 "OilPressModel" "pressing" "[Z" ∈ wsX8_mayBegin := List.mem_of_getElem? (i := 1) (by decide +kernel)
theorem k_X8_mayBegin_f127 : Cond.fieldLink RX8 127 "OilPressModel" "now" "I" ∈ wsX8_mayBegin := List.mem_of_getElem? (i := 2) (by decide +kernel)
theorem k_X8_mayBegin_f66 : Cond.fieldLink RX8 66 "OilPressModel" "busy" "[I" ∈ wsX8_mayBegin := List.mem_of_getElem? (i := 3) (by decide +kernel)
theorem k_X8_mayBegin_f69 : Cond.fieldLink RX8 69 "OilPressModel" "inBin" "[I" ∈ wsX8_mayBegin := List.mem_of_getElem? (i := 4) (by decide +kernel)
theorem k_X8_mayBegin_f26 : Cond.fieldLink RX8 26 "OilPressModel" "kind" "[I" ∈ wsX8_mayBegin := List.mem_of_getElem? (i := 5) (by decide +kernel)
abbrev rmX8_mayBegin : Room := { frames := 2, cells := 0, slots := 0, locals := 45 }
def f_X8_mayBegin_31 (h : oh_H) (o : Nat) : Option (Int32) :=
  oh_bz (0 : Int32) (some (0 : Int32))
def f_X8_mayBegin_98 (h : oh_H) (o : Nat) (s0 : Int32) : Option (Int32) :=
  oh_bz s0 (some s0)
def f_X8_mayBegin_93 (h : oh_H) (o : Nat) : Option (Int32) :=
  f_X8_mayBegin_98 h o (1 : Int32)
def f_X8_mayBegin_74 (h : oh_H) (o : Nat) (v1 : Int32) (s0 : Int32) : Option (Int32) :=
  oh_lt s0 fun x1 => if x1 = 0 then (oh_rc h (some o) 9 fun o3 => (f_X8_sumOf h o3 v1).bind fun p4 => (oh_gR h (some o) 531).bind fun x6 => (oh_aI h x6 20 v1).bind fun x7 => if p4 < x7 then (f_X8_mayBegin_98 h o (0 : Int32)) else (f_X8_mayBegin_93 h o)) else (f_X8_mayBegin_93 h o)
def f_X8_mayBegin_73 (h : oh_H) (o : Nat) (v1 : Int32) : Option (Int32) :=
  f_X8_mayBegin_74 h o v1 (0 : Int32)
def f_X8_mayBegin_69 (h : oh_H) (o : Nat) (v1 : Int32) : Option (Int32) :=
  f_X8_mayBegin_74 h o v1 (1 : Int32)
def f_X8_mayBegin (h : oh_H) (o : Nat) (v1 : Int32) : Option (Int32) :=
  (oh_gR h (some o) 536).bind fun x1 => (oh_aI h x1 22 v1).bind fun x2 => if x2 = 0 then ((oh_gI h (some o) 512).bind fun x3 => (oh_gR h (some o) 533).bind fun x4 => (oh_aI h x4 20 v1).bind fun x5 => if x3 < x5 then (f_X8_mayBegin_31 h o) else ((oh_gR h (some o) 534).bind fun x6 => (oh_aI h x6 20 v1).bind fun x7 => if x7 = 0 then (f_X8_mayBegin_31 h o) else ((oh_gR h (some o) 520).bind fun x8 => oh_rc h (some o) 9 fun o10 => (f_X8_lotIn h o10 v1 (0 : Int32)).bind fun p11 => (oh_aI h x8 20 p11).bind fun x13 => oh_lt x13 fun x14 => (oh_gR h (some o) 534).bind fun x15 => (oh_aI h x15 20 v1).bind fun x16 => if x16 = (1 : Int32) then (if x14 = 0 then (f_X8_mayBegin_69 h o v1) else (if x14 = (2 : Int32) then (f_X8_mayBegin_69 h o v1) else (if x14 = (3 : Int32) then (f_X8_mayBegin_69 h o v1) else (f_X8_mayBegin_73 h o v1)))) else (f_X8_mayBegin_73 h o v1)))) else (f_X8_mayBegin_31 h o)
set_option maxHeartbeats 4000000 in
set_option maxRecDepth 100000 in
theorem w_X8_mayBegin_31 {G : oh_G} {l : Launch} (C : oh_C G cX8_mayBegin wsX8_mayBegin RX8 rmX8_mayBegin 4) (hl : G.1.2.1 = l) (h : oh_H) (o : Nat) : oh_J (oh_TR h xi (some .boolean) G) (f_X8_mayBegin_31 h o) (oh_V G 0 0 h 31 [] []) := by
  unfold f_X8_mayBegin_31
  refine or_iconst C (v := (0 : Int32)) dX8_mayBegin_31 (by decide) ?_
  exact or_zretR C dX8_mayBegin_32
set_option maxHeartbeats 4000000 in
set_option maxRecDepth 100000 in
theorem w_X8_mayBegin_98 {G : oh_G} {l : Launch} (C : oh_C G cX8_mayBegin wsX8_mayBegin RX8 rmX8_mayBegin 4) (hl : G.1.2.1 = l) (h : oh_H) (o : Nat) (s0 : Int32) : oh_J (oh_TR h xi (some .boolean) G) (f_X8_mayBegin_98 h o s0) (oh_V G 0 0 h 98 [] [xi s0]) := by
  unfold f_X8_mayBegin_98
  exact or_zretR C dX8_mayBegin_98
set_option maxHeartbeats 4000000 in
set_option maxRecDepth 100000 in
theorem w_X8_mayBegin_93 {G : oh_G} {l : Launch} (C : oh_C G cX8_mayBegin wsX8_mayBegin RX8 rmX8_mayBegin 4) (hl : G.1.2.1 = l) (h : oh_H) (o : Nat) : oh_J (oh_TR h xi (some .boolean) G) (f_X8_mayBegin_93 h o) (oh_V G 0 0 h 93 [] []) := by
  unfold f_X8_mayBegin_93
  refine or_iconst C (v := (1 : Int32)) dX8_mayBegin_93 (by decide) ?_
  refine or_goto C 98 dX8_mayBegin_94 (by decide) ?_
  refine or_sub [] rfl ?_
  exact w_X8_mayBegin_98 C hl h o (1 : Int32)
set_option maxHeartbeats 4000000 in
set_option maxRecDepth 100000 in
theorem w_X8_mayBegin_74 {G : oh_G} {l : Launch} (C : oh_C G cX8_mayBegin wsX8_mayBegin RX8 rmX8_mayBegin 4) (hl : G.1.2.1 = l) (h : oh_H) (o : Nat) (v1 : Int32) (s0 : Int32) : oh_J (oh_TR h xi (some .boolean) G) (f_X8_mayBegin_74 h o v1 s0) (oh_V G 0 0 h 74 [(0, xr (some o)), (1, xi v1)] [xi s0]) := by
  unfold f_X8_mayBegin_74
  refine or_istore_n C (fun x1 => [(3, xi x1), (0, xr (some o)), (1, xi v1)]) (fun _ => rfl) (by decide) dX8_mayBegin_74 (fun x1 => ?_)
  refine or_iload_n C 0 rfl dX8_mayBegin_75 ?_
  refine or_if_ne C 93 dX8_mayBegin_76 (by decide) ?_ ?_
  · refine or_aload_n C 1 rfl dX8_mayBegin_79 ?_
    refine or_iload_n C 2 rfl dX8_mayBegin_80 ?_
    refine oj_rcs (fun q2 => ?_)
    refine oj_bind (fun p4 z5 => ?_)
    refine oj_v (P := oh_V G 0 0 h 84 [(3, xi x1), (0, xr (some o)), (1, xi v1)] [xi p4]) (fun k => or_callV C 1 hl (m_X8_sumOf _ h o v1 p4 z5) gX8_mayBegin_X8_sumOf rfl rfl rfl (by decide +kernel) ⟨Nat.le_of_ble_eq_true rfl, Nat.le_of_ble_eq_true rfl⟩ q2 rfl (by decide) (Nat.le_of_ble_eq_true rfl) dX8_mayBegin_81 ⟨Nat.le_of_ble_eq_true rfl, Nat.le_of_ble_eq_true rfl⟩ rfl rfl k) ?_
    refine or_aload_n C 1 rfl dX8_mayBegin_84 ?_
    refine or_getR C 8 19 rfl (by decide) rfl (by decide) u_X8_mayBegin_8 (by decide) k_X8_mayBegin_f60 (by decide +kernel) dX8_mayBegin_85 (fun x6 => ?_)
    refine or_iload_n C 2 rfl dX8_mayBegin_88 ?_
    refine or_iald C dX8_mayBegin_89 (fun x7 => ?_)
    refine or_icmp_lt C 97 dX8_mayBegin_90 (by decide) ?_ ?_
    · refine or_iconst C (v := (0 : Int32)) dX8_mayBegin_97 (by decide) ?_
      refine or_sub [] rfl ?_
      exact w_X8_mayBegin_98 C hl h o (0 : Int32)
    · refine or_sub [] rfl ?_
      exact w_X8_mayBegin_93 C hl h o
  · refine or_sub [] rfl ?_
    exact w_X8_mayBegin_93 C hl h o
set_option maxHeartbeats 4000000 in
set_option maxRecDepth 100000 in
theorem w_X8_mayBegin_73 {G : oh_G} {l : Launch} (C : oh_C G cX8_mayBegin wsX8_mayBegin RX8 rmX8_mayBegin 4) (hl : G.1.2.1 = l) (h : oh_H) (o : Nat) (v1 : Int32) : oh_J (oh_TR h xi (some .boolean) G) (f_X8_mayBegin_73 h o v1) (oh_V G 0 0 h 73 [(0, xr (some o)), (1, xi v1)] []) := by
  unfold f_X8_mayBegin_73
  refine or_iconst C (v := (0 : Int32)) dX8_mayBegin_73 (by decide) ?_
  refine or_sub [0, 1] rfl ?_
  exact w_X8_mayBegin_74 C hl h o v1 (0 : Int32)
set_option maxHeartbeats 4000000 in
set_option maxRecDepth 100000 in
theorem w_X8_mayBegin_69 {G : oh_G} {l : Launch} (C : oh_C G cX8_mayBegin wsX8_mayBegin RX8 rmX8_mayBegin 4) (hl : G.1.2.1 = l) (h : oh_H) (o : Nat) (v1 : Int32) : oh_J (oh_TR h xi (some .boolean) G) (f_X8_mayBegin_69 h o v1) (oh_V G 0 0 h 69 [(0, xr (some o)), (1, xi v1)] []) := by
  unfold f_X8_mayBegin_69
  refine or_iconst C (v := (1 : Int32)) dX8_mayBegin_69 (by decide) ?_
  refine or_goto C 74 dX8_mayBegin_70 (by decide) ?_
  refine or_sub [0, 1] rfl ?_
  exact w_X8_mayBegin_74 C hl h o v1 (1 : Int32)
set_option maxHeartbeats 4000000 in
set_option maxRecDepth 100000 in
theorem w_X8_mayBegin_0 {G : oh_G} {l : Launch} (C : oh_C G cX8_mayBegin wsX8_mayBegin RX8 rmX8_mayBegin 4) (hl : G.1.2.1 = l) (h : oh_H) (o : Nat) (v1 : Int32) : oh_J (oh_TR h xi (some .boolean) G) (f_X8_mayBegin h o v1) (oh_V G 0 0 h 0 [(0, xr (some o)), (1, xi v1)] []) := by
  unfold f_X8_mayBegin
  refine or_aload_n C 0 rfl dX8_mayBegin_0 ?_
  refine or_getR C 8 24 rfl (by decide) rfl (by decide) u_X8_mayBegin_8 (by decide) k_X8_mayBegin_f75 (by decide +kernel) dX8_mayBegin_1 (fun x1 => ?_)
  refine or_iload_n C 1 rfl dX8_mayBegin_4 ?_
  refine or_zald C dX8_mayBegin_5 (fun x2 => ?_)
  refine or_if_ne C 31 dX8_mayBegin_6 (by decide) ?_ ?_
  · refine or_aload_n C 0 rfl dX8_mayBegin_9 ?_
    refine or_getI C 8 0 rfl (by decide) rfl (by decide) u_X8_mayBegin_8 (by decide) k_X8_mayBegin_f127 (by decide +kernel) dX8_mayBegin_10 (fun x3 => ?_)
    refine or_aload_n C 0 rfl dX8_mayBegin_13 ?_
    refine or_getR C 8 21 rfl (by decide) rfl (by decide) u_X8_mayBegin_8 (by decide) k_X8_mayBegin_f66 (by decide +kernel) dX8_mayBegin_14 (fun x4 => ?_)
    refine or_iload_n C 1 rfl dX8_mayBegin_17 ?_
    refine or_iald C dX8_mayBegin_18 (fun x5 => ?_)
    refine or_icmp_lt C 31 dX8_mayBegin_19 (by decide) ?_ ?_
    · refine or_sub [] rfl ?_
      exact w_X8_mayBegin_31 C hl h o
    · refine or_aload_n C 0 rfl dX8_mayBegin_22 ?_
      refine or_getR C 8 22 rfl (by decide) rfl (by decide) u_X8_mayBegin_8 (by decide) k_X8_mayBegin_f69 (by decide +kernel) dX8_mayBegin_23 (fun x6 => ?_)
      refine or_iload_n C 1 rfl dX8_mayBegin_26 ?_
      refine or_iald C dX8_mayBegin_27 (fun x7 => ?_)
      refine or_if_ne C 33 dX8_mayBegin_28 (by decide) ?_ ?_
      · refine or_sub [] rfl ?_
        exact w_X8_mayBegin_31 C hl h o
      · refine or_aload_n C 0 rfl dX8_mayBegin_33 ?_
        refine or_getR C 8 8 rfl (by decide) rfl (by decide) u_X8_mayBegin_8 (by decide) k_X8_mayBegin_f26 (by decide +kernel) dX8_mayBegin_34 (fun x8 => ?_)
        refine or_aload_n C 0 rfl dX8_mayBegin_37 ?_
        refine or_iload_n C 1 rfl dX8_mayBegin_38 ?_
        refine or_iconst C (v := (0 : Int32)) dX8_mayBegin_39 (by decide) ?_
        refine oj_rcs (fun q9 => ?_)
        refine oj_bind (fun p11 z12 => ?_)
        refine oj_v (P := oh_V G 0 0 h 43 [(0, xr (some o)), (1, xi v1)] [xi p11, xr x8]) (fun k => or_callV C 2 hl (m_X8_lotIn _ h o v1 (0 : Int32) p11 z12) gX8_mayBegin_X8_lotIn rfl rfl rfl (by decide +kernel) ⟨Nat.le_of_ble_eq_true rfl, Nat.le_of_ble_eq_true rfl⟩ q9 rfl (by decide) (Nat.le_of_ble_eq_true rfl) dX8_mayBegin_40 ⟨Nat.le_of_ble_eq_true rfl, Nat.le_of_ble_eq_true rfl⟩ rfl rfl k) ?_
        refine or_iald C dX8_mayBegin_43 (fun x13 => ?_)
        refine or_istore_n C (fun x14 => [(2, xi x14), (0, xr (some o)), (1, xi v1)]) (fun _ => rfl) (by decide) dX8_mayBegin_44 (fun x14 => ?_)
        refine or_aload_n C 1 rfl dX8_mayBegin_45 ?_
        refine or_getR C 8 22 rfl (by decide) rfl (by decide) u_X8_mayBegin_8 (by decide) k_X8_mayBegin_f69 (by decide +kernel) dX8_mayBegin_46 (fun x15 => ?_)
        refine or_iload_n C 2 rfl dX8_mayBegin_49 ?_
        refine or_iald C dX8_mayBegin_50 (fun x16 => ?_)
        refine or_iconst C (v := (1 : Int32)) dX8_mayBegin_51 (by decide) ?_
        refine or_icmp_ne C 73 dX8_mayBegin_52 (by decide) ?_ ?_
        · refine or_iload_n C 0 rfl dX8_mayBegin_55 ?_
          refine or_if_eq C 69 dX8_mayBegin_56 (by decide) ?_ ?_
          · refine or_sub [1, 2] rfl ?_
            exact w_X8_mayBegin_69 C hl h o v1
          · refine or_iload_n C 0 rfl dX8_mayBegin_59 ?_
            refine or_iconst C (v := (2 : Int32)) dX8_mayBegin_60 (by decide) ?_
            refine or_icmp_eq C 69 dX8_mayBegin_61 (by decide) ?_ ?_
            · refine or_sub [1, 2] rfl ?_
              exact w_X8_mayBegin_69 C hl h o v1
            · refine or_iload_n C 0 rfl dX8_mayBegin_64 ?_
              refine or_iconst C (v := (3 : Int32)) dX8_mayBegin_65 (by decide) ?_
              refine or_icmp_ne C 73 dX8_mayBegin_66 (by decide) ?_ ?_
              · refine or_sub [1, 2] rfl ?_
                exact w_X8_mayBegin_69 C hl h o v1
              · refine or_sub [1, 2] rfl ?_
                exact w_X8_mayBegin_73 C hl h o v1
        · refine or_sub [1, 2] rfl ?_
          exact w_X8_mayBegin_73 C hl h o v1
  · refine or_sub [] rfl ?_
    exact w_X8_mayBegin_31 C hl h o
theorem m_X8_mayBegin (l : Launch) (h : oh_H) (o : Nat) (v1 : Int32) (p : Int32) (hf : f_X8_mayBegin h o v1 = some p) : oh_M l yX8_mayBegin wsX8_mayBegin rmX8_mayBegin 0 0 [xr (some o), xi v1] h (some (xi p)) h :=
  oh_met (cc := cX8_mayBegin) (maxL := 4) (ret := (some .boolean)) (by decide) rfl (Nat.le_of_ble_eq_true rfl) (fun G C hl hN E => w_X8_mayBegin_0 C hl h o v1 p hf E)
/-! X8_press -/
theorem k_X8_press_f69 : Cond.fieldLink RX8 69 "OilPressModel" "inBin" "[I" ∈ wsX8_press := List.mem_of_getElem? (i := 11) (by decide +kernel)
theorem u_X8_press_8 : ∀ w ∈ u_ws RX8 TX8 54, w ∈ wsX8_press := fun w h => List.mem_cons_of_mem _ (List.mem_append_right _ (h))
theorem k_X8_press_f35 : Cond.fieldLink RX8 35 "OilPressModel" "state" "[I" ∈ wsX8_press := List.mem_of_getElem? (i := 12) (by decide +kernel)
theorem k_X8_press_f84 : Cond.fieldLink RX8 84 "OilPressModel" "given" "[I" ∈ wsX8_press := List.mem_of_getElem? (i := 9) (by decide +kernel)
theorem k_X8_press_f87 : Cond.fieldLink RX8 87 "OilPressModel" "kept" "[I" ∈ wsX8_press := List.mem_of_getElem? (i := 10) (by decide +kernel)
theorem k_X8_press_f66 : Cond.fieldLink RX8 66 "OilPressModel" "busy" "[I" ∈ wsX8_press := List.mem_of_getElem? (i := 1) (by decide +kernel)
theorem k_X8_press_f127 : Cond.fieldLink RX8 127 "OilPressModel" "now" "I" ∈ wsX8_press := List.mem_of_getElem? (i := 2) (by decide +kernel)
theorem k_X8_press_f75 : Cond.fieldLink RX8 75 "OilPressModel" "pressing" "[Z" ∈ wsX8_press := List.mem_of_getElem? (i := 3) (by decide +kernel)
theorem k_X8_press_f78 : Cond.fieldLink RX8 78 "OilPressModel" "washed" "[Z" ∈ wsX8_press := List.mem_of_getElem? (i := 4) (by decide +kernel)
theorem k_X8_press_f81 : Cond.fieldLink RX8 81 "OilPressModel" "likeOf" "[I" ∈ wsX8_press := List.mem_of_getElem? (i := 5) (by decide +kernel)
theorem k_X8_press_f26 : Cond.fieldLink RX8 26 "OilPressModel" "kind" "[I" ∈ wsX8_press := List.mem_of_getElem? (i := 6) (by decide +kernel)
theorem k_X8_press_f23 : Cond.fieldLink RX8 23 "OilPressModel" "like" "[I" ∈ wsX8_press := List.mem_of_getElem? (i := 7) (by decide +kernel)
theorem k_X8_press_f29 : Cond.fieldLink RX8 29 "OilPressModel" "grove" "[I" ∈ wsX8_press := List.mem_of_getElem? (i := 8) (by decide +kernel)
abbrev rmX8_press : Room := { frames := 3, cells := 0, slots := 0, locals := 68 }
def f_X8_press_16 (h : oh_H) (o : Nat) : Option (Int32 × oh_H) :=
  some ((-1 : Int32), h)
abbrev pv_X8_press_110 (G : oh_G) (o : Nat) (v1 : Int32) (v2 : Int32) : (oh_H × Int32) → Prop := fun s => oh_V G 0 0 s.1 110 [(0, xr (some o)), (1, xi v1), (2, xi v2), (4, xi s.2)] []
def b_X8_press_110 (h : oh_H) (o : Nat) (v1 : Int32) (v2 : Int32) (v4 : Int32) : Option ((oh_H × Int32) ⊕ (Int32 × oh_H)) :=
  (oh_gR h (some o) 534).bind fun x1 => (oh_aI h x1 20 v1).bind fun x2 => if x2 ≤ v4 then (Option.map Sum.inr (some (v2, h))) else ((oh_gR h (some o) 523).bind fun x3 => oh_rc h (some o) 9 fun o5 => (f_X8_lotIn h o5 v1 v4).bind fun p6 => (oh_tI h x3 20 p6 (4 : Int32)).bind fun h8 => oh_lt (v4 + (1 : Int32)) fun x9 => some (Sum.inl (h8, x9)))
def f_X8_press_110 (h : oh_H) (o : Nat) (v1 : Int32) (v2 : Int32) (v4 : Int32) : Option (Int32 × oh_H) := oh_loop (fun s : oh_H × Int32 => b_X8_press_110 s.1 o v1 v2 s.2) 1000000 (h, v4)
def f_X8_press_92 (h : oh_H) (o : Nat) (v1 : Int32) (v2 : Int32) (s0 : Int32) (s1 : Int32) (s2 : Option Nat) : Option (Int32 × oh_H) :=
  (oh_tI h s2 20 s1 s0).bind fun h1 => (oh_gR h1 (some o) 539).bind fun x2 => (oh_tI h1 x2 20 v1 (-1 : Int32)).bind fun h3 => (oh_gR h3 (some o) 540).bind fun x4 => (oh_tI h3 x4 20 v1 (-1 : Int32)).bind fun h5 => oh_lt (0 : Int32) fun x6 => f_X8_press_110 h5 o v1 v2 x6
def f_X8_press (h : oh_H) (o : Nat) (v1 : Int32) : Option (Int32 × oh_H) :=
  oh_rc h (some o) 9 fun o2 => (f_X8_isMill h o2 v1).bind fun p3 => if p3 = 0 then (f_X8_press_16 h o) else (oh_rc h (some o) 9 fun o6 => (f_X8_mayBegin h o6 v1).bind fun p7 => if p7 = 0 then (f_X8_press_16 h o) else (oh_rc h (some o) 9 fun o10 => (f_X8_sumOf h o10 v1).bind fun p11 => oh_rc h (some o) 9 fun o14 => (f_X8_hours h o14 p11 v1).bind fun p15 => oh_lt p15 fun x17 => (oh_gR h (some o) 533).bind fun x18 => (oh_gI h (some o) 512).bind fun x19 => (oh_tI h x18 20 v1 (x19 + x17)).bind fun h20 => (oh_gR h20 (some o) 536).bind fun x21 => oh_bz (1 : Int32) ((oh_tI h20 x21 22 v1 (1 : Int32)).bind fun h22 => (oh_gR h22 (some o) 537).bind fun x23 => oh_bz (0 : Int32) ((oh_tI h22 x23 22 v1 (0 : Int32)).bind fun h24 => oh_rc h24 (some o) 9 fun o26 => (f_X8_lotIn h24 o26 v1 (0 : Int32)).bind fun p27 => oh_lt p27 fun x29 => (oh_gR h24 (some o) 538).bind fun x30 => (oh_gR h24 (some o) 520).bind fun x31 => (oh_aI h24 x31 20 x29).bind fun x32 => if x32 = (2 : Int32) then ((oh_gR h24 (some o) 518).bind fun x33 => (oh_gR h24 (some o) 521).bind fun x34 => (oh_aI h24 x34 20 x29).bind fun x35 => (oh_aI h24 x33 20 x35).bind fun x36 => f_X8_press_92 h24 o v1 x17 x36 v1 x30) else (f_X8_press_92 h24 o v1 x17 (-1 : Int32) v1 x30)))))
set_option maxHeartbeats 4000000 in
set_option maxRecDepth 100000 in
theorem w_X8_press_16 {G : oh_G} {l : Launch} (C : oh_C G cX8_press wsX8_press RX8 rmX8_press 5) (hl : G.1.2.1 = l) (h0 : oh_H) (h : oh_H) (o : Nat) : oh_J (oh_TW h0 xi 0 0 (some .int) G) (f_X8_press_16 h o) (oh_V G 0 0 h 16 [] []) := by
  unfold f_X8_press_16
  refine or_iconst C (v := (-1 : Int32)) dX8_press_16 (by decide) ?_
  exact or_iret C ⟨Nat.le_of_ble_eq_true rfl, Nat.le_of_ble_eq_true rfl⟩ dX8_press_17
set_option maxHeartbeats 4000000 in
set_option maxRecDepth 100000 in
theorem wb_X8_press_110 {G : oh_G} {l : Launch} (C : oh_C G cX8_press wsX8_press RX8 rmX8_press 5) (hl : G.1.2.1 = l) (h0 : oh_H) (h : oh_H) (o : Nat) (v1 : Int32) (v2 : Int32) (v4 : Int32) : oh_J (oh_TL (pv_X8_press_110 G o v1 v2) (oh_TW h0 xi 0 0 (some .int) G)) (b_X8_press_110 h o v1 v2 v4) (oh_V G 0 0 h 110 [(0, xr (some o)), (1, xi v1), (2, xi v2), (4, xi v4)] []) := by
  unfold b_X8_press_110
  refine or_iload C 3 rfl dX8_press_110 ?_
  refine or_aload_n C 0 rfl dX8_press_112 ?_
  refine or_getR C 8 22 rfl (by decide) rfl (by decide) u_X8_press_8 (by decide) k_X8_press_f69 (by decide +kernel) dX8_press_113 (fun x1 => ?_)
  refine or_iload_n C 1 rfl dX8_press_116 ?_
  refine or_iald C dX8_press_117 (fun x2 => ?_)
  refine or_icmp_ge C 140 dX8_press_118 (by decide) ?_ ?_
  · refine oj_inr ?_
    refine or_iload_n C 2 rfl dX8_press_140 ?_
    exact or_iret C ⟨Nat.le_of_ble_eq_true rfl, Nat.le_of_ble_eq_true rfl⟩ dX8_press_141
  · refine or_aload_n C 0 rfl dX8_press_121 ?_
    refine or_getR C 8 11 rfl (by decide) rfl (by decide) u_X8_press_8 (by decide) k_X8_press_f35 (by decide +kernel) dX8_press_122 (fun x3 => ?_)
    refine or_aload_n C 0 rfl dX8_press_125 ?_
    refine or_iload_n C 1 rfl dX8_press_126 ?_
    refine or_iload C 3 rfl dX8_press_127 ?_
    refine oj_rcs (fun q4 => ?_)
    refine oj_bind (fun p6 z7 => ?_)
    refine oj_v (P := oh_V G 0 0 h 132 [(0, xr (some o)), (1, xi v1), (2, xi v2), (4, xi v4)] [xi p6, xr x3]) (fun k => or_callV C 2 hl (m_X8_lotIn _ h o v1 v4 p6 z7) gX8_press_X8_lotIn rfl rfl rfl (by decide +kernel) ⟨Nat.le_of_ble_eq_true rfl, Nat.le_of_ble_eq_true rfl⟩ q4 rfl (by decide) (Nat.le_of_ble_eq_true rfl) dX8_press_129 ⟨Nat.le_of_ble_eq_true rfl, Nat.le_of_ble_eq_true rfl⟩ rfl rfl k) ?_
    refine or_iconst C (v := (4 : Int32)) dX8_press_132 (by decide) ?_
    refine or_iast C dX8_press_133 (fun h8 => ?_)
    refine or_iinc C (y := (1 : Int32)) 3 rfl (by decide) (fun x9 => [(4, xi x9), (0, xr (some o)), (1, xi v1), (2, xi v2)]) (fun _ => rfl) (by decide) dX8_press_134 (fun x9 => ?_)
    refine or_goto C 110 dX8_press_137 (by decide) ?_
    refine or_sub [1, 2, 3, 0] rfl ?_
    exact oj_back (P := pv_X8_press_110 G o v1 v2) (s := (h8, x9))
theorem w_X8_press_110 {G : oh_G} {l : Launch} (C : oh_C G cX8_press wsX8_press RX8 rmX8_press 5) (hl : G.1.2.1 = l) (h0 : oh_H) (h : oh_H) (o : Nat) (v1 : Int32) (v2 : Int32) (v4 : Int32) : oh_J (oh_TW h0 xi 0 0 (some .int) G) (f_X8_press_110 h o v1 v2 v4) (oh_V G 0 0 h 110 [(0, xr (some o)), (1, xi v1), (2, xi v2), (4, xi v4)] []) := by
  unfold f_X8_press_110
  exact oj_loop (P := pv_X8_press_110 G o v1 v2) (fun s => wb_X8_press_110 C hl h0 s.1 o v1 v2 s.2) 1000000 (h, v4)
set_option maxHeartbeats 4000000 in
set_option maxRecDepth 100000 in
theorem w_X8_press_92 {G : oh_G} {l : Launch} (C : oh_C G cX8_press wsX8_press RX8 rmX8_press 5) (hl : G.1.2.1 = l) (h0 : oh_H) (h : oh_H) (o : Nat) (v1 : Int32) (v2 : Int32) (s0 : Int32) (s1 : Int32) (s2 : Option Nat) : oh_J (oh_TW h0 xi 0 0 (some .int) G) (f_X8_press_92 h o v1 v2 s0 s1 s2) (oh_V G 0 0 h 92 [(0, xr (some o)), (1, xi v1), (2, xi v2)] [xi s0, xi s1, xr s2]) := by
  unfold f_X8_press_92
  refine or_iast C dX8_press_92 (fun h1 => ?_)
  refine or_aload_n C 0 rfl dX8_press_93 ?_
  refine or_getR C 8 27 rfl (by decide) rfl (by decide) u_X8_press_8 (by decide) k_X8_press_f84 (by decide +kernel) dX8_press_94 (fun x2 => ?_)
  refine or_iload_n C 1 rfl dX8_press_97 ?_
  refine or_iconst C (v := (-1 : Int32)) dX8_press_98 (by decide) ?_
  refine or_iast C dX8_press_99 (fun h3 => ?_)
  refine or_aload_n C 0 rfl dX8_press_100 ?_
  refine or_getR C 8 28 rfl (by decide) rfl (by decide) u_X8_press_8 (by decide) k_X8_press_f87 (by decide +kernel) dX8_press_101 (fun x4 => ?_)
  refine or_iload_n C 1 rfl dX8_press_104 ?_
  refine or_iconst C (v := (-1 : Int32)) dX8_press_105 (by decide) ?_
  refine or_iast C dX8_press_106 (fun h5 => ?_)
  refine or_iconst C (v := (0 : Int32)) dX8_press_107 (by decide) ?_
  refine or_istore C (fun x6 => [(4, xi x6), (0, xr (some o)), (1, xi v1), (2, xi v2)]) (fun _ => rfl) (by decide) dX8_press_108 (fun x6 => ?_)
  refine or_sub [1, 2, 3, 0] rfl ?_
  exact w_X8_press_110 C hl h0 h5 o v1 v2 x6
set_option maxHeartbeats 4000000 in
set_option maxRecDepth 100000 in
theorem w_X8_press_0 {G : oh_G} {l : Launch} (C : oh_C G cX8_press wsX8_press RX8 rmX8_press 5) (hl : G.1.2.1 = l) (h0 : oh_H) (h : oh_H) (o : Nat) (v1 : Int32) : oh_J (oh_TW h0 xi 0 0 (some .int) G) (f_X8_press h o v1) (oh_V G 0 0 h 0 [(0, xr (some o)), (1, xi v1)] []) := by
  unfold f_X8_press
  refine or_aload_n C 0 rfl dX8_press_0 ?_
  refine or_iload_n C 1 rfl dX8_press_1 ?_
  refine oj_rcs (fun q1 => ?_)
  refine oj_bind (fun p3 z4 => ?_)
  refine oj_v (P := oh_V G 0 0 h 5 [(0, xr (some o)), (1, xi v1)] [xi p3]) (fun k => or_callV C 1 hl (m_X8_isMill _ h o v1 p3 z4) gX8_press_X8_isMill rfl rfl rfl (by decide +kernel) ⟨Nat.le_of_ble_eq_true rfl, Nat.le_of_ble_eq_true rfl⟩ q1 rfl (by decide) (Nat.le_of_ble_eq_true rfl) dX8_press_2 ⟨Nat.le_of_ble_eq_true rfl, Nat.le_of_ble_eq_true rfl⟩ rfl rfl k) ?_
  refine or_if_eq C 16 dX8_press_5 (by decide) ?_ ?_
  · refine or_sub [] rfl ?_
    exact w_X8_press_16 C hl h0 h o
  · refine or_aload_n C 0 rfl dX8_press_8 ?_
    refine or_iload_n C 1 rfl dX8_press_9 ?_
    refine oj_rcs (fun q5 => ?_)
    refine oj_bind (fun p7 z8 => ?_)
    refine oj_v (P := oh_V G 0 0 h 13 [(0, xr (some o)), (1, xi v1)] [xi p7]) (fun k => or_callV C 1 hl (m_X8_mayBegin _ h o v1 p7 z8) gX8_press_X8_mayBegin rfl rfl rfl (by decide +kernel) ⟨Nat.le_of_ble_eq_true rfl, Nat.le_of_ble_eq_true rfl⟩ q5 rfl (by decide) (Nat.le_of_ble_eq_true rfl) dX8_press_10 ⟨Nat.le_of_ble_eq_true rfl, Nat.le_of_ble_eq_true rfl⟩ rfl rfl k) ?_
    refine or_if_ne C 18 dX8_press_13 (by decide) ?_ ?_
    · refine or_sub [] rfl ?_
      exact w_X8_press_16 C hl h0 h o
    · refine or_aload_n C 0 rfl dX8_press_18 ?_
      refine or_aload_n C 0 rfl dX8_press_19 ?_
      refine or_iload_n C 1 rfl dX8_press_20 ?_
      refine oj_rcs (fun q9 => ?_)
      refine oj_bind (fun p11 z12 => ?_)
      refine oj_v (P := oh_V G 0 0 h 24 [(0, xr (some o)), (1, xi v1)] [xi p11, xr (some o)]) (fun k => or_callV C 1 hl (m_X8_sumOf _ h o v1 p11 z12) gX8_press_X8_sumOf rfl rfl rfl (by decide +kernel) ⟨Nat.le_of_ble_eq_true rfl, Nat.le_of_ble_eq_true rfl⟩ q9 rfl (by decide) (Nat.le_of_ble_eq_true rfl) dX8_press_21 ⟨Nat.le_of_ble_eq_true rfl, Nat.le_of_ble_eq_true rfl⟩ rfl rfl k) ?_
      refine or_iload_n C 1 rfl dX8_press_24 ?_
      refine oj_rcs (fun q13 => ?_)
      refine oj_bind (fun p15 z16 => ?_)
      refine oj_v (P := oh_V G 0 0 h 28 [(0, xr (some o)), (1, xi v1)] [xi p15]) (fun k => or_callV C 2 hl (m_X8_hours _ h o p11 v1 p15 z16) gX8_press_X8_hours rfl rfl rfl (by decide +kernel) ⟨Nat.le_of_ble_eq_true rfl, Nat.le_of_ble_eq_true rfl⟩ q13 rfl (by decide) (Nat.le_of_ble_eq_true rfl) dX8_press_25 ⟨Nat.le_of_ble_eq_true rfl, Nat.le_of_ble_eq_true rfl⟩ rfl rfl k) ?_
      refine or_istore_n C (fun x17 => [(2, xi x17), (0, xr (some o)), (1, xi v1)]) (fun _ => rfl) (by decide) dX8_press_28 (fun x17 => ?_)
      refine or_aload_n C 1 rfl dX8_press_29 ?_
      refine or_getR C 8 21 rfl (by decide) rfl (by decide) u_X8_press_8 (by decide) k_X8_press_f66 (by decide +kernel) dX8_press_30 (fun x18 => ?_)
      refine or_iload_n C 2 rfl dX8_press_33 ?_
      refine or_aload_n C 1 rfl dX8_press_34 ?_
      refine or_getI C 8 0 rfl (by decide) rfl (by decide) u_X8_press_8 (by decide) k_X8_press_f127 (by decide +kernel) dX8_press_35 (fun x19 => ?_)
      refine or_iload_n C 0 rfl dX8_press_38 ?_
      refine or_iadd C dX8_press_39 ?_
      refine or_iast C dX8_press_40 (fun h20 => ?_)
      refine or_aload_n C 1 rfl dX8_press_41 ?_
      refine or_getR C 8 24 rfl (by decide) rfl (by decide) u_X8_press_8 (by decide) k_X8_press_f75 (by decide +kernel) dX8_press_42 (fun x21 => ?_)
      refine or_iload_n C 2 rfl dX8_press_45 ?_
      refine or_iconst C (v := (1 : Int32)) dX8_press_46 (by decide) ?_
      refine or_zast C dX8_press_47 (fun h22 => ?_)
      refine or_aload_n C 1 rfl dX8_press_48 ?_
      refine or_getR C 8 25 rfl (by decide) rfl (by decide) u_X8_press_8 (by decide) k_X8_press_f78 (by decide +kernel) dX8_press_49 (fun x23 => ?_)
      refine or_iload_n C 2 rfl dX8_press_52 ?_
      refine or_iconst C (v := (0 : Int32)) dX8_press_53 (by decide) ?_
      refine or_zast C dX8_press_54 (fun h24 => ?_)
      refine or_aload_n C 1 rfl dX8_press_55 ?_
      refine or_iload_n C 2 rfl dX8_press_56 ?_
      refine or_iconst C (v := (0 : Int32)) dX8_press_57 (by decide) ?_
      refine oj_rcs (fun q25 => ?_)
      refine oj_bind (fun p27 z28 => ?_)
      refine oj_v (P := oh_V G 0 0 h24 61 [(2, xi x17), (0, xr (some o)), (1, xi v1)] [xi p27]) (fun k => or_callV C 2 hl (m_X8_lotIn _ h24 o v1 (0 : Int32) p27 z28) gX8_press_X8_lotIn rfl rfl rfl (by decide +kernel) ⟨Nat.le_of_ble_eq_true rfl, Nat.le_of_ble_eq_true rfl⟩ q25 rfl (by decide) (Nat.le_of_ble_eq_true rfl) dX8_press_58 ⟨Nat.le_of_ble_eq_true rfl, Nat.le_of_ble_eq_true rfl⟩ rfl rfl k) ?_
      refine or_istore_n C (fun x29 => [(3, xi x29), (2, xi x17), (0, xr (some o)), (1, xi v1)]) (fun _ => rfl) (by decide) dX8_press_61 (fun x29 => ?_)
      refine or_aload_n C 2 rfl dX8_press_62 ?_
      refine or_getR C 8 26 rfl (by decide) rfl (by decide) u_X8_press_8 (by decide) k_X8_press_f81 (by decide +kernel) dX8_press_63 (fun x30 => ?_)
      refine or_iload_n C 3 rfl dX8_press_66 ?_
      refine or_aload_n C 2 rfl dX8_press_67 ?_
      refine or_getR C 8 8 rfl (by decide) rfl (by decide) u_X8_press_8 (by decide) k_X8_press_f26 (by decide +kernel) dX8_press_68 (fun x31 => ?_)
      refine or_iload_n C 0 rfl dX8_press_71 ?_
      refine or_iald C dX8_press_72 (fun x32 => ?_)
      refine or_iconst C (v := (2 : Int32)) dX8_press_73 (by decide) ?_
      refine or_icmp_ne C 91 dX8_press_74 (by decide) ?_ ?_
      · refine or_aload_n C 2 rfl dX8_press_77 ?_
        refine or_getR C 8 6 rfl (by decide) rfl (by decide) u_X8_press_8 (by decide) k_X8_press_f23 (by decide +kernel) dX8_press_78 (fun x33 => ?_)
        refine or_aload_n C 2 rfl dX8_press_81 ?_
        refine or_getR C 8 9 rfl (by decide) rfl (by decide) u_X8_press_8 (by decide) k_X8_press_f29 (by decide +kernel) dX8_press_82 (fun x34 => ?_)
        refine or_iload_n C 0 rfl dX8_press_85 ?_
        refine or_iald C dX8_press_86 (fun x35 => ?_)
        refine or_iald C dX8_press_87 (fun x36 => ?_)
        refine or_goto C 92 dX8_press_88 (by decide) ?_
        refine or_sub [2, 3, 1] rfl ?_
        exact w_X8_press_92 C hl h0 h24 o v1 x17 x36 v1 x30
      · refine or_iconst C (v := (-1 : Int32)) dX8_press_91 (by decide) ?_
        refine or_sub [2, 3, 1] rfl ?_
        exact w_X8_press_92 C hl h0 h24 o v1 x17 (-1 : Int32) v1 x30
theorem m_X8_press (l : Launch) (h : oh_H) (o : Nat) (v1 : Int32) (p : Int32 × oh_H) (hf : f_X8_press h o v1 = some p) : oh_M l yX8_press wsX8_press rmX8_press 0 0 [xr (some o), xi v1] h (some (xi p.1)) p.2 :=
  oh_met (cc := cX8_press) (maxL := 5) (ret := (some .int)) (by decide) rfl (Nat.le_of_ble_eq_true rfl) (fun G C hl hN E => w_X8_press_0 C hl h h o v1 p hf E)
/-! X8_gave -/
theorem k_X8_gave_f75 : Cond.fieldLink RX8 75 "OilPressModel" "pressing" "[Z" ∈ wsX8_gave := List.mem_of_getElem? (i := 1) (by decide +kernel)
theorem u_X8_gave_8 : ∀ w ∈ u_ws RX8 TX8 54, w ∈ wsX8_gave := fun w h => List.mem_cons_of_mem _ (List.mem_append_right _ (h))
theorem k_X8_gave_f127 : Cond.fieldLink RX8 127 "OilPressModel" "now" "I" ∈ wsX8_gave := List.mem_of_getElem? (i := 2) (by decide +kernel)
theorem k_X8_gave_f66 : Cond.fieldLink RX8 66 "OilPressModel" "busy" "[I" ∈ wsX8_gave := List.mem_of_getElem? (i := 3) (by decide +kernel)
theorem k_X8_gave_f84 : Cond.fieldLink RX8 84 "OilPressModel" "given" "[I" ∈ wsX8_gave := List.mem_of_getElem? (i := 4) (by decide +kernel)
theorem k_X8_gave_f179 : Cond.fieldLink RX8 179 "OilPressModel" "gaveAll" "I" ∈ wsX8_gave := List.mem_of_getElem? (i := 5) (by decide +kernel)
abbrev rmX8_gave : Room := { frames := 2, cells := 0, slots := 0, locals := 45 }
def f_X8_gave_53 (h : oh_H) (o : Nat) : Option (Int32 × oh_H) :=
  oh_bz (0 : Int32) (some ((0 : Int32), h))
def f_X8_gave (h : oh_H) (o : Nat) (v1 : Int32) (v2 : Int32) : Option (Int32 × oh_H) :=
  oh_rc h (some o) 9 fun o2 => (f_X8_isMill h o2 v1).bind fun p3 => if p3 = 0 then (f_X8_gave_53 h o) else ((oh_gR h (some o) 536).bind fun x5 => (oh_aI h x5 22 v1).bind fun x6 => if x6 = 0 then (f_X8_gave_53 h o) else ((oh_gI h (some o) 512).bind fun x7 => (oh_gR h (some o) 533).bind fun x8 => (oh_aI h x8 20 v1).bind fun x9 => if x7 < x9 then (f_X8_gave_53 h o) else ((oh_gR h (some o) 539).bind fun x10 => (oh_aI h x10 20 v1).bind fun x11 => if x11 = (-1 : Int32) then (oh_rc h (some o) 9 fun o13 => (f_X8_sumOf h o13 v1).bind fun p14 => (f_X8_in h v2 (0 : Int32) p14).bind fun p16 => if p16 = 0 then (f_X8_gave_53 h o) else ((oh_gR h (some o) 539).bind fun x18 => (oh_tI h x18 20 v1 v2).bind fun h19 => (oh_gI h19 (some o) 551).bind fun x20 => (oh_pI h19 (some o) 551 (x20 + v2)).bind fun h21 => oh_bz (1 : Int32) (some ((1 : Int32), h21)))) else (f_X8_gave_53 h o))))
set_option maxHeartbeats 4000000 in
set_option maxRecDepth 100000 in
theorem w_X8_gave_53 {G : oh_G} {l : Launch} (C : oh_C G cX8_gave wsX8_gave RX8 rmX8_gave 3) (hl : G.1.2.1 = l) (h0 : oh_H) (h : oh_H) (o : Nat) : oh_J (oh_TW h0 xi 0 0 (some .boolean) G) (f_X8_gave_53 h o) (oh_V G 0 0 h 53 [] []) := by
  unfold f_X8_gave_53
  refine or_iconst C (v := (0 : Int32)) dX8_gave_53 (by decide) ?_
  exact or_zret C ⟨Nat.le_of_ble_eq_true rfl, Nat.le_of_ble_eq_true rfl⟩ dX8_gave_54
set_option maxHeartbeats 4000000 in
set_option maxRecDepth 100000 in
theorem w_X8_gave_0 {G : oh_G} {l : Launch} (C : oh_C G cX8_gave wsX8_gave RX8 rmX8_gave 3) (hl : G.1.2.1 = l) (h0 : oh_H) (h : oh_H) (o : Nat) (v1 : Int32) (v2 : Int32) : oh_J (oh_TW h0 xi 0 0 (some .boolean) G) (f_X8_gave h o v1 v2) (oh_V G 0 0 h 0 [(0, xr (some o)), (1, xi v1), (2, xi v2)] []) := by
  unfold f_X8_gave
  refine or_aload_n C 0 rfl dX8_gave_0 ?_
  refine or_iload_n C 1 rfl dX8_gave_1 ?_
  refine oj_rcs (fun q1 => ?_)
  refine oj_bind (fun p3 z4 => ?_)
  refine oj_v (P := oh_V G 0 0 h 5 [(0, xr (some o)), (1, xi v1), (2, xi v2)] [xi p3]) (fun k => or_callV C 1 hl (m_X8_isMill _ h o v1 p3 z4) gX8_gave_X8_isMill rfl rfl rfl (by decide +kernel) ⟨Nat.le_of_ble_eq_true rfl, Nat.le_of_ble_eq_true rfl⟩ q1 rfl (by decide) (Nat.le_of_ble_eq_true rfl) dX8_gave_2 ⟨Nat.le_of_ble_eq_true rfl, Nat.le_of_ble_eq_true rfl⟩ rfl rfl k) ?_
  refine or_if_eq C 53 dX8_gave_5 (by decide) ?_ ?_
  · refine or_sub [] rfl ?_
    exact w_X8_gave_53 C hl h0 h o
  · refine or_aload_n C 0 rfl dX8_gave_8 ?_
    refine or_getR C 8 24 rfl (by decide) rfl (by decide) u_X8_gave_8 (by decide) k_X8_gave_f75 (by decide +kernel) dX8_gave_9 (fun x5 => ?_)
    refine or_iload_n C 1 rfl dX8_gave_12 ?_
    refine or_zald C dX8_gave_13 (fun x6 => ?_)
    refine or_if_eq C 53 dX8_gave_14 (by decide) ?_ ?_
    · refine or_sub [] rfl ?_
      exact w_X8_gave_53 C hl h0 h o
    · refine or_aload_n C 0 rfl dX8_gave_17 ?_
      refine or_getI C 8 0 rfl (by decide) rfl (by decide) u_X8_gave_8 (by decide) k_X8_gave_f127 (by decide +kernel) dX8_gave_18 (fun x7 => ?_)
      refine or_aload_n C 0 rfl dX8_gave_21 ?_
      refine or_getR C 8 21 rfl (by decide) rfl (by decide) u_X8_gave_8 (by decide) k_X8_gave_f66 (by decide +kernel) dX8_gave_22 (fun x8 => ?_)
      refine or_iload_n C 1 rfl dX8_gave_25 ?_
      refine or_iald C dX8_gave_26 (fun x9 => ?_)
      refine or_icmp_lt C 53 dX8_gave_27 (by decide) ?_ ?_
      · refine or_sub [] rfl ?_
        exact w_X8_gave_53 C hl h0 h o
      · refine or_aload_n C 0 rfl dX8_gave_30 ?_
        refine or_getR C 8 27 rfl (by decide) rfl (by decide) u_X8_gave_8 (by decide) k_X8_gave_f84 (by decide +kernel) dX8_gave_31 (fun x10 => ?_)
        refine or_iload_n C 1 rfl dX8_gave_34 ?_
        refine or_iald C dX8_gave_35 (fun x11 => ?_)
        refine or_iconst C (v := (-1 : Int32)) dX8_gave_36 (by decide) ?_
        refine or_icmp_ne C 53 dX8_gave_37 (by decide) ?_ ?_
        · refine or_iload_n C 2 rfl dX8_gave_40 ?_
          refine or_iconst C (v := (0 : Int32)) dX8_gave_41 (by decide) ?_
          refine or_aload_n C 0 rfl dX8_gave_42 ?_
          refine or_iload_n C 1 rfl dX8_gave_43 ?_
          refine oj_rcs (fun q12 => ?_)
          refine oj_bind (fun p14 z15 => ?_)
          refine oj_v (P := oh_V G 0 0 h 47 [(0, xr (some o)), (1, xi v1), (2, xi v2)] [xi p14, xi (0 : Int32), xi v2]) (fun k => or_callV C 1 hl (m_X8_sumOf _ h o v1 p14 z15) gX8_gave_X8_sumOf rfl rfl rfl (by decide +kernel) ⟨Nat.le_of_ble_eq_true rfl, Nat.le_of_ble_eq_true rfl⟩ q12 rfl (by decide) (Nat.le_of_ble_eq_true rfl) dX8_gave_44 ⟨Nat.le_of_ble_eq_true rfl, Nat.le_of_ble_eq_true rfl⟩ rfl rfl k) ?_
          refine oj_bind (fun p16 z17 => ?_)
          refine oj_v (P := oh_V G 0 0 h 50 [(0, xr (some o)), (1, xi v1), (2, xi v2)] [xi p16]) (fun k => or_callS C 3 hl (m_X8_in _ h v2 (0 : Int32) p14 p16 z17) gX8_gave_X8_in rfl rfl rfl (by decide +kernel) ⟨Nat.le_of_ble_eq_true rfl, Nat.le_of_ble_eq_true rfl⟩ (Nat.le_of_ble_eq_true rfl) dX8_gave_47 ⟨Nat.le_of_ble_eq_true rfl, Nat.le_of_ble_eq_true rfl⟩ rfl rfl k) ?_
          refine or_if_ne C 55 dX8_gave_50 (by decide) ?_ ?_
          · refine or_sub [] rfl ?_
            exact w_X8_gave_53 C hl h0 h o
          · refine or_aload_n C 0 rfl dX8_gave_55 ?_
            refine or_getR C 8 27 rfl (by decide) rfl (by decide) u_X8_gave_8 (by decide) k_X8_gave_f84 (by decide +kernel) dX8_gave_56 (fun x18 => ?_)
            refine or_iload_n C 1 rfl dX8_gave_59 ?_
            refine or_iload_n C 2 rfl dX8_gave_60 ?_
            refine or_iast C dX8_gave_61 (fun h19 => ?_)
            refine or_aload_n C 0 rfl dX8_gave_62 ?_
            refine or_dup C rfl dX8_gave_63 ?_
            refine or_getI C 8 39 rfl (by decide) rfl (by decide) u_X8_gave_8 (by decide) k_X8_gave_f179 (by decide +kernel) dX8_gave_64 (fun x20 => ?_)
            refine or_iload_n C 2 rfl dX8_gave_67 ?_
            refine or_iadd C dX8_gave_68 ?_
            refine or_putI C 8 39 rfl (by decide) rfl (by decide) u_X8_gave_8 tyX8 tyX8_ok nmX8 (by decide) k_X8_gave_f179 (Or.inl rfl) (by decide +kernel) rfl dX8_gave_69 (fun h21 => ?_)
            refine or_iconst C (v := (1 : Int32)) dX8_gave_72 (by decide) ?_
            exact or_zret C ⟨Nat.le_of_ble_eq_true rfl, Nat.le_of_ble_eq_true rfl⟩ dX8_gave_73
        · refine or_sub [] rfl ?_
          exact w_X8_gave_53 C hl h0 h o
theorem m_X8_gave (l : Launch) (h : oh_H) (o : Nat) (v1 : Int32) (v2 : Int32) (p : Int32 × oh_H) (hf : f_X8_gave h o v1 v2 = some p) : oh_M l yX8_gave wsX8_gave rmX8_gave 0 0 [xr (some o), xi v1, xi v2] h (some (xi p.1)) p.2 :=
  oh_met (cc := cX8_gave) (maxL := 3) (ret := (some .boolean)) (by decide) rfl (Nat.le_of_ble_eq_true rfl) (fun G C hl hN E => w_X8_gave_0 C hl h h o v1 v2 p hf E)
/-! X8_weight -/
theorem k_X8_weight_f38 : Cond.fieldLink RX8 38 "OilPressModel" "tenths" "[I" ∈ wsX8_weight := List.mem_of_getElem? (i := 1) (by decide +kernel)
theorem u_X8_weight_8 : ∀ w ∈ u_ws RX8 TX8 54, w ∈ wsX8_weight := fun w h => List.mem_cons_of_mem _ (List.mem_append_right _ (h))
theorem k_X8_weight_f41 : Cond.fieldLink RX8 41 "OilPressModel" "thousandths" "[I" ∈ wsX8_weight := List.mem_of_getElem? (i := 2) (by decide +kernel)
abbrev rmX8_weight : Room := { frames := 0, cells := 0, slots := 0, locals := 0 }
def f_X8_weight (h : oh_H) (o : Nat) (v1 : Int32) : Option (Int64) :=
  (oh_gR h (some o) 524).bind fun x1 => (oh_aI h x1 20 v1).bind fun x2 => (oh_gR h (some o) 525).bind fun x3 => (oh_aI h x3 20 v1).bind fun x4 => some ((Int32.toInt64 x2) * (Int32.toInt64 x4))
set_option maxHeartbeats 4000000 in
set_option maxRecDepth 100000 in
theorem w_X8_weight_0 {G : oh_G} {l : Launch} (C : oh_C G cX8_weight wsX8_weight RX8 rmX8_weight 2) (hl : G.1.2.1 = l) (h : oh_H) (o : Nat) (v1 : Int32) : oh_J (oh_TR h xl (some .long) G) (f_X8_weight h o v1) (oh_V G 0 0 h 0 [(0, xr (some o)), (1, xi v1)] []) := by
  unfold f_X8_weight
  refine or_aload_n C 0 rfl dX8_weight_0 ?_
  refine or_getR C 8 12 rfl (by decide) rfl (by decide) u_X8_weight_8 (by decide) k_X8_weight_f38 (by decide +kernel) dX8_weight_1 (fun x1 => ?_)
  refine or_iload_n C 1 rfl dX8_weight_4 ?_
  refine or_iald C dX8_weight_5 (fun x2 => ?_)
  refine or_i2l C dX8_weight_6 ?_
  refine or_aload_n C 0 rfl dX8_weight_7 ?_
  refine or_getR C 8 13 rfl (by decide) rfl (by decide) u_X8_weight_8 (by decide) k_X8_weight_f41 (by decide +kernel) dX8_weight_8 (fun x3 => ?_)
  refine or_iload_n C 1 rfl dX8_weight_11 ?_
  refine or_iald C dX8_weight_12 (fun x4 => ?_)
  refine or_i2l C dX8_weight_13 ?_
  refine or_lmul C dX8_weight_14 ?_
  exact or_lretR C dX8_weight_15
theorem m_X8_weight (l : Launch) (h : oh_H) (o : Nat) (v1 : Int32) (p : Int64) (hf : f_X8_weight h o v1 = some p) : oh_M l yX8_weight wsX8_weight rmX8_weight 0 0 [xr (some o), xi v1] h (some (xl p)) h :=
  oh_met (cc := cX8_weight) (maxL := 2) (ret := (some .long)) (by decide) rfl (Nat.le_of_ble_eq_true rfl) (fun G C hl hN E => w_X8_weight_0 C hl h o v1 p hf E)
/-! X8_share -/
theorem k_X8_share_f47 : Cond.fieldLink RX8 47 "OilPressModel" "shares" "[I" ∈ wsX8_share := List.mem_of_getElem? (i := 6) (by decide +kernel)
theorem u_X8_share_8 : ∀ w ∈ u_ws RX8 TX8 54, w ∈ wsX8_share := fun w h => List.mem_cons_of_mem _ (List.mem_append_right _ (h))
theorem k_X8_share_f87 : Cond.fieldLink RX8 87 "OilPressModel" "kept" "[I" ∈ wsX8_share := List.mem_of_getElem? (i := 3) (by decide +kernel)
theorem k_X8_share_f35 : Cond.fieldLink RX8 35 "OilPressModel" "state" "[I" ∈ wsX8_share := List.mem_of_getElem? (i := 7) (by decide +kernel)
theorem k_X8_share_f75 : Cond.fieldLink RX8 75 "OilPressModel" "pressing" "[Z" ∈ wsX8_share := List.mem_of_getElem? (i := 1) (by decide +kernel)
theorem k_X8_share_f84 : Cond.fieldLink RX8 84 "OilPressModel" "given" "[I" ∈ wsX8_share := List.mem_of_getElem? (i := 2) (by decide +kernel)
theorem k_X8_share_f69 : Cond.fieldLink RX8 69 "OilPressModel" "inBin" "[I" ∈ wsX8_share := List.mem_of_getElem? (i := 4) (by decide +kernel)
theorem k_X8_share_f13 : Cond.fieldLink RX8 13 "OilPressModel" "part" "I" ∈ wsX8_share := List.mem_of_getElem? (i := 5) (by decide +kernel)
abbrev rmX8_share : Room := { frames := 2, cells := 0, slots := 0, locals := 43 }
def f_X8_share_37 (h : oh_H) (o : Nat) : Option (Int32 × oh_H) :=
  some ((-1 : Int32), h)
def f_X8_share_305 (h : oh_H) (o : Nat) (v1 : Int32) (v2 : Int32) (v3 : Int32) (v4 : Int64) (v6 : Int32) (v7 : Int32) : Option ((oh_H × Int32) ⊕ (Int32 × oh_H)) :=
  oh_lt (v7 + (1 : Int32)) fun x1 => some (Sum.inl (h, x1))
def f_X8_share_278 (h : oh_H) (o : Nat) (v1 : Int32) (v2 : Int32) (v3 : Int32) (v4 : Int64) (v6 : Int32) (v7 : Int32) (v8 : Int32) (v9 : Int64) (v12 : Int32) (s0 : Int32) (s1 : Int32) : Option ((oh_H × Int32 × Int32) ⊕ ((oh_H × Int32) ⊕ (Int32 × oh_H))) :=
  oh_lt (s1 + s0) fun x1 => oh_lt (v12 + (1 : Int32)) fun x2 => some (Sum.inl (h, x1, x2))
def f_X8_share_273 (h : oh_H) (o : Nat) (v1 : Int32) (v2 : Int32) (v3 : Int32) (v4 : Int64) (v6 : Int32) (v7 : Int32) (v8 : Int32) (v9 : Int64) (v12 : Int32) (s0 : Int32) : Option ((oh_H × Int32 × Int32) ⊕ ((oh_H × Int32) ⊕ (Int32 × oh_H))) :=
  f_X8_share_278 h o v1 v2 v3 v4 v6 v7 v8 v9 v12 (1 : Int32) s0
def f_X8_share_277 (h : oh_H) (o : Nat) (v1 : Int32) (v2 : Int32) (v3 : Int32) (v4 : Int64) (v6 : Int32) (v7 : Int32) (v8 : Int32) (v9 : Int64) (v12 : Int32) (s0 : Int32) : Option ((oh_H × Int32 × Int32) ⊕ ((oh_H × Int32) ⊕ (Int32 × oh_H))) :=
  f_X8_share_278 h o v1 v2 v3 v4 v6 v7 v8 v9 v12 (0 : Int32) s0
abbrev pv_X8_share_219 (G : oh_G) (o : Nat) (v1 : Int32) (v2 : Int32) (v3 : Int32) (v4 : Int64) (v6 : Int32) (v7 : Int32) (v8 : Int32) (v9 : Int64) : (oh_H × Int32 × Int32) → Prop := fun s => oh_V G 0 0 s.1 219 [(0, xr (some o)), (1, xi v1), (2, xi v2), (3, xi v3), (4, xl v4), (6, xi v6), (7, xi v7), (8, xi v8), (9, xl v9), (11, xi s.2.1), (12, xi s.2.2)] []
def b_X8_share_219 (h : oh_H) (o : Nat) (v1 : Int32) (v2 : Int32) (v3 : Int32) (v4 : Int64) (v6 : Int32) (v7 : Int32) (v8 : Int32) (v9 : Int64) (v11 : Int32) (v12 : Int32) : Option ((oh_H × Int32 × Int32) ⊕ ((oh_H × Int32) ⊕ (Int32 × oh_H))) :=
  if v2 ≤ v12 then (Option.map Sum.inr (if v6 ≤ v11 then (f_X8_share_305 h o v1 v2 v3 v4 v6 v7) else ((oh_gR h (some o) 527).bind fun x1 => (oh_aI h x1 20 v8).bind fun x2 => (oh_tI h x1 20 v8 (x2 + (1 : Int32))).bind fun h3 => f_X8_share_305 h3 o v1 v2 v3 v4 v6 v7))) else (oh_rc h (some o) 9 fun o5 => (f_X8_lotIn h o5 v1 v12).bind fun p6 => oh_lt p6 fun x8 => oh_rc h (some o) 9 fun o10 => (f_X8_weight h o10 x8).bind fun p11 => if v4 = 0 then none else oh_lt (((Int32.toInt64 v3) * p11) - ((Int32.toInt64 v3) * p11) / v4 * v4) fun x13 => if 0 < (lg_cmp x13 v9) then (f_X8_share_273 h o v1 v2 v3 v4 v6 v7 v8 v9 v12 v11) else (if (lg_cmp x13 v9) = 0 then (if v8 ≤ x8 then (f_X8_share_277 h o v1 v2 v3 v4 v6 v7 v8 v9 v12 v11) else (f_X8_share_273 h o v1 v2 v3 v4 v6 v7 v8 v9 v12 v11)) else (f_X8_share_277 h o v1 v2 v3 v4 v6 v7 v8 v9 v12 v11)))
def f_X8_share_219 (h : oh_H) (o : Nat) (v1 : Int32) (v2 : Int32) (v3 : Int32) (v4 : Int64) (v6 : Int32) (v7 : Int32) (v8 : Int32) (v9 : Int64) (v11 : Int32) (v12 : Int32) : Option ((oh_H × Int32) ⊕ (Int32 × oh_H)) := oh_loop (fun s : oh_H × Int32 × Int32 => b_X8_share_219 s.1 o v1 v2 v3 v4 v6 v7 v8 v9 s.2.1 s.2.2) 1000000 (h, v11, v12)
abbrev pv_X8_share_184 (G : oh_G) (o : Nat) (v1 : Int32) (v2 : Int32) (v3 : Int32) (v4 : Int64) (v6 : Int32) : (oh_H × Int32) → Prop := fun s => oh_V G 0 0 s.1 184 [(0, xr (some o)), (1, xi v1), (2, xi v2), (3, xi v3), (4, xl v4), (6, xi v6), (7, xi s.2)] []
def b_X8_share_184 (h : oh_H) (o : Nat) (v1 : Int32) (v2 : Int32) (v3 : Int32) (v4 : Int64) (v6 : Int32) (v7 : Int32) : Option ((oh_H × Int32) ⊕ (Int32 × oh_H)) :=
  if v2 ≤ v7 then (Option.map Sum.inr ((oh_gR h (some o) 540).bind fun x1 => (oh_aI h x1 20 v1).bind fun x2 => some (x2, h))) else (oh_rc h (some o) 9 fun o4 => (f_X8_lotIn h o4 v1 v7).bind fun p5 => oh_lt p5 fun x7 => oh_rc h (some o) 9 fun o9 => (f_X8_weight h o9 x7).bind fun p10 => if v4 = 0 then none else oh_lt (((Int32.toInt64 v3) * p10) - ((Int32.toInt64 v3) * p10) / v4 * v4) fun x12 => oh_lt (0 : Int32) fun x13 => oh_lt (0 : Int32) fun x14 => f_X8_share_219 h o v1 v2 v3 v4 v6 v7 x7 x12 x13 x14)
def f_X8_share_184 (h : oh_H) (o : Nat) (v1 : Int32) (v2 : Int32) (v3 : Int32) (v4 : Int64) (v6 : Int32) (v7 : Int32) : Option (Int32 × oh_H) := oh_loop (fun s : oh_H × Int32 => b_X8_share_184 s.1 o v1 v2 v3 v4 v6 s.2) 1000000 (h, v7)
abbrev pv_X8_share_120 (G : oh_G) (o : Nat) (v1 : Int32) (v2 : Int32) (v3 : Int32) (v4 : Int64) : (oh_H × Int32 × Int32) → Prop := fun s => oh_V G 0 0 s.1 120 [(0, xr (some o)), (1, xi v1), (2, xi v2), (3, xi v3), (4, xl v4), (6, xi s.2.1), (7, xi s.2.2)] []
def b_X8_share_120 (h : oh_H) (o : Nat) (v1 : Int32) (v2 : Int32) (v3 : Int32) (v4 : Int64) (v6 : Int32) (v7 : Int32) : Option ((oh_H × Int32 × Int32) ⊕ (Int32 × oh_H)) :=
  if v2 ≤ v7 then (Option.map Sum.inr (oh_lt (0 : Int32) fun x1 => f_X8_share_184 h o v1 v2 v3 v4 v6 x1)) else (oh_rc h (some o) 9 fun o3 => (f_X8_lotIn h o3 v1 v7).bind fun p4 => oh_lt p4 fun x6 => (oh_gR h (some o) 527).bind fun x7 => oh_rc h (some o) 9 fun o9 => (f_X8_weight h o9 x6).bind fun p10 => if v4 = 0 then none else (oh_tI h x7 20 x6 (Int64.toInt32 (((Int32.toInt64 v3) * p10) / v4))).bind fun h12 => (oh_gR h12 (some o) 527).bind fun x13 => (oh_aI h12 x13 20 x6).bind fun x14 => oh_lt (v6 - x14) fun x15 => (oh_gR h12 (some o) 523).bind fun x16 => (oh_tI h12 x16 20 x6 (5 : Int32)).bind fun h17 => oh_lt (v7 + (1 : Int32)) fun x18 => some (Sum.inl (h17, x15, x18)))
def f_X8_share_120 (h : oh_H) (o : Nat) (v1 : Int32) (v2 : Int32) (v3 : Int32) (v4 : Int64) (v6 : Int32) (v7 : Int32) : Option (Int32 × oh_H) := oh_loop (fun s : oh_H × Int32 × Int32 => b_X8_share_120 s.1 o v1 v2 v3 v4 s.2.1 s.2.2) 1000000 (h, v6, v7)
abbrev pv_X8_share_86 (G : oh_G) (o : Nat) (v1 : Int32) (v2 : Int32) (v3 : Int32) : (oh_H × Int64 × Int32) → Prop := fun s => oh_V G 0 0 s.1 86 [(0, xr (some o)), (1, xi v1), (2, xi v2), (3, xi v3), (4, xl s.2.1), (6, xi s.2.2)] []
def b_X8_share_86 (h : oh_H) (o : Nat) (v1 : Int32) (v2 : Int32) (v3 : Int32) (v4 : Int64) (v6 : Int32) : Option ((oh_H × Int64 × Int32) ⊕ (Int32 × oh_H)) :=
  if v2 ≤ v6 then (Option.map Sum.inr (oh_lt v3 fun x1 => oh_lt (0 : Int32) fun x2 => f_X8_share_120 h o v1 v2 v3 v4 x1 x2)) else (oh_rc h (some o) 9 fun o4 => (f_X8_lotIn h o4 v1 v6).bind fun p5 => oh_rc h (some o) 9 fun o8 => (f_X8_weight h o8 p5).bind fun p9 => oh_lt (v4 + p9) fun x11 => oh_lt (v6 + (1 : Int32)) fun x12 => some (Sum.inl (h, x11, x12)))
def f_X8_share_86 (h : oh_H) (o : Nat) (v1 : Int32) (v2 : Int32) (v3 : Int32) (v4 : Int64) (v6 : Int32) : Option (Int32 × oh_H) := oh_loop (fun s : oh_H × Int64 × Int32 => b_X8_share_86 s.1 o v1 v2 v3 s.2.1 s.2.2) 1000000 (h, v4, v6)
def f_X8_share (h : oh_H) (o : Nat) (v1 : Int32) : Option (Int32 × oh_H) :=
  oh_rc h (some o) 9 fun o2 => (f_X8_isMill h o2 v1).bind fun p3 => if p3 = 0 then (f_X8_share_37 h o) else ((oh_gR h (some o) 536).bind fun x5 => (oh_aI h x5 22 v1).bind fun x6 => if x6 = 0 then (f_X8_share_37 h o) else ((oh_gR h (some o) 539).bind fun x7 => (oh_aI h x7 20 v1).bind fun x8 => if x8 = (-1 : Int32) then (f_X8_share_37 h o) else ((oh_gR h (some o) 540).bind fun x9 => (oh_aI h x9 20 v1).bind fun x10 => if x10 = (-1 : Int32) then ((oh_gR h (some o) 534).bind fun x11 => (oh_aI h x11 20 v1).bind fun x12 => oh_lt x12 fun x13 => (oh_gR h (some o) 540).bind fun x14 => (oh_gR h (some o) 539).bind fun x15 => (oh_aI h x15 20 v1).bind fun x16 => (oh_gI h (some o) 514).bind fun x17 => if (100 : Int32) = 0 then none else (oh_tI h x14 20 v1 ((x16 * x17) / (100 : Int32))).bind fun h18 => (oh_gR h18 (some o) 539).bind fun x19 => (oh_aI h18 x19 20 v1).bind fun x20 => (oh_gR h18 (some o) 540).bind fun x21 => (oh_aI h18 x21 20 v1).bind fun x22 => oh_lt (x20 - x22) fun x23 => oh_lt (0 : Int64) fun x24 => oh_lt (0 : Int32) fun x25 => f_X8_share_86 h18 o v1 x13 x23 x24 x25) else (f_X8_share_37 h o))))
set_option maxHeartbeats 4000000 in
set_option maxRecDepth 100000 in
theorem w_X8_share_37 {G : oh_G} {l : Launch} (C : oh_C G cX8_share wsX8_share RX8 rmX8_share 16) (hl : G.1.2.1 = l) (h0 : oh_H) (h : oh_H) (o : Nat) : oh_J (oh_TW h0 xi 0 0 (some .int) G) (f_X8_share_37 h o) (oh_V G 0 0 h 37 [] []) := by
  unfold f_X8_share_37
  refine or_iconst C (v := (-1 : Int32)) dX8_share_37 (by decide) ?_
  exact or_iret C ⟨Nat.le_of_ble_eq_true rfl, Nat.le_of_ble_eq_true rfl⟩ dX8_share_38
set_option maxHeartbeats 4000000 in
set_option maxRecDepth 100000 in
theorem w_X8_share_305 {G : oh_G} {l : Launch} (C : oh_C G cX8_share wsX8_share RX8 rmX8_share 16) (hl : G.1.2.1 = l) (h0 : oh_H) (h : oh_H) (o : Nat) (v1 : Int32) (v2 : Int32) (v3 : Int32) (v4 : Int64) (v6 : Int32) (v7 : Int32) : oh_J (oh_TL (pv_X8_share_184 G o v1 v2 v3 v4 v6) (oh_TW h0 xi 0 0 (some .int) G)) (f_X8_share_305 h o v1 v2 v3 v4 v6 v7) (oh_V G 0 0 h 305 [(0, xr (some o)), (1, xi v1), (2, xi v2), (3, xi v3), (4, xl v4), (6, xi v6), (7, xi v7)] []) := by
  unfold f_X8_share_305
  refine or_iinc C (y := (1 : Int32)) 6 rfl (by decide) (fun x1 => [(7, xi x1), (0, xr (some o)), (1, xi v1), (2, xi v2), (3, xi v3), (4, xl v4), (6, xi v6)]) (fun _ => rfl) (by decide) dX8_share_305 (fun x1 => ?_)
  refine or_goto C 184 dX8_share_308 (by decide) ?_
  refine or_sub [1, 2, 3, 4, 5, 6, 0] rfl ?_
  exact oj_back (P := pv_X8_share_184 G o v1 v2 v3 v4 v6) (s := (h, x1))
set_option maxHeartbeats 4000000 in
set_option maxRecDepth 100000 in
theorem w_X8_share_278 {G : oh_G} {l : Launch} (C : oh_C G cX8_share wsX8_share RX8 rmX8_share 16) (hl : G.1.2.1 = l) (h0 : oh_H) (h : oh_H) (o : Nat) (v1 : Int32) (v2 : Int32) (v3 : Int32) (v4 : Int64) (v6 : Int32) (v7 : Int32) (v8 : Int32) (v9 : Int64) (v12 : Int32) (s0 : Int32) (s1 : Int32) : oh_J (oh_TL (pv_X8_share_219 G o v1 v2 v3 v4 v6 v7 v8 v9) (oh_TL (pv_X8_share_184 G o v1 v2 v3 v4 v6) (oh_TW h0 xi 0 0 (some .int) G))) (f_X8_share_278 h o v1 v2 v3 v4 v6 v7 v8 v9 v12 s0 s1) (oh_V G 0 0 h 278 [(0, xr (some o)), (1, xi v1), (2, xi v2), (3, xi v3), (4, xl v4), (6, xi v6), (7, xi v7), (8, xi v8), (9, xl v9), (12, xi v12)] [xi s0, xi s1]) := by
  unfold f_X8_share_278
  refine or_iadd C dX8_share_278 ?_
  refine or_istore C (fun x1 => [(11, xi x1), (0, xr (some o)), (1, xi v1), (2, xi v2), (3, xi v3), (4, xl v4), (6, xi v6), (7, xi v7), (8, xi v8), (9, xl v9), (12, xi v12)]) (fun _ => rfl) (by decide) dX8_share_279 (fun x1 => ?_)
  refine or_iinc C (y := (1 : Int32)) 10 rfl (by decide) (fun x2 => [(12, xi x2), (11, xi x1), (0, xr (some o)), (1, xi v1), (2, xi v2), (3, xi v3), (4, xl v4), (6, xi v6), (7, xi v7), (8, xi v8), (9, xl v9)]) (fun _ => rfl) (by decide) dX8_share_281 (fun x2 => ?_)
  refine or_goto C 219 dX8_share_284 (by decide) ?_
  refine or_sub [2, 3, 4, 5, 6, 7, 8, 9, 10, 1, 0] rfl ?_
  exact oj_back (P := pv_X8_share_219 G o v1 v2 v3 v4 v6 v7 v8 v9) (s := (h, x1, x2))
set_option maxHeartbeats 4000000 in
set_option maxRecDepth 100000 in
theorem w_X8_share_273 {G : oh_G} {l : Launch} (C : oh_C G cX8_share wsX8_share RX8 rmX8_share 16) (hl : G.1.2.1 = l) (h0 : oh_H) (h : oh_H) (o : Nat) (v1 : Int32) (v2 : Int32) (v3 : Int32) (v4 : Int64) (v6 : Int32) (v7 : Int32) (v8 : Int32) (v9 : Int64) (v12 : Int32) (s0 : Int32) : oh_J (oh_TL (pv_X8_share_219 G o v1 v2 v3 v4 v6 v7 v8 v9) (oh_TL (pv_X8_share_184 G o v1 v2 v3 v4 v6) (oh_TW h0 xi 0 0 (some .int) G))) (f_X8_share_273 h o v1 v2 v3 v4 v6 v7 v8 v9 v12 s0) (oh_V G 0 0 h 273 [(0, xr (some o)), (1, xi v1), (2, xi v2), (3, xi v3), (4, xl v4), (6, xi v6), (7, xi v7), (8, xi v8), (9, xl v9), (12, xi v12)] [xi s0]) := by
  unfold f_X8_share_273
  refine or_iconst C (v := (1 : Int32)) dX8_share_273 (by decide) ?_
  refine or_goto C 278 dX8_share_274 (by decide) ?_
  refine or_sub [0, 1, 2, 3, 4, 5, 6, 7, 8, 9] rfl ?_
  exact w_X8_share_278 C hl h0 h o v1 v2 v3 v4 v6 v7 v8 v9 v12 (1 : Int32) s0
set_option maxHeartbeats 4000000 in
set_option maxRecDepth 100000 in
theorem w_X8_share_277 {G : oh_G} {l : Launch} (C : oh_C G cX8_share wsX8_share RX8 rmX8_share 16) (hl : G.1.2.1 = l) (h0 : oh_H) (h : oh_H) (o : Nat) (v1 : Int32) (v2 : Int32) (v3 : Int32) (v4 : Int64) (v6 : Int32) (v7 : Int32) (v8 : Int32) (v9 : Int64) (v12 : Int32) (s0 : Int32) : oh_J (oh_TL (pv_X8_share_219 G o v1 v2 v3 v4 v6 v7 v8 v9) (oh_TL (pv_X8_share_184 G o v1 v2 v3 v4 v6) (oh_TW h0 xi 0 0 (some .int) G))) (f_X8_share_277 h o v1 v2 v3 v4 v6 v7 v8 v9 v12 s0) (oh_V G 0 0 h 277 [(0, xr (some o)), (1, xi v1), (2, xi v2), (3, xi v3), (4, xl v4), (6, xi v6), (7, xi v7), (8, xi v8), (9, xl v9), (12, xi v12)] [xi s0]) := by
  unfold f_X8_share_277
  refine or_iconst C (v := (0 : Int32)) dX8_share_277 (by decide) ?_
  refine or_sub [0, 1, 2, 3, 4, 5, 6, 7, 8, 9] rfl ?_
  exact w_X8_share_278 C hl h0 h o v1 v2 v3 v4 v6 v7 v8 v9 v12 (0 : Int32) s0
set_option maxHeartbeats 4000000 in
set_option maxRecDepth 100000 in
theorem wb_X8_share_219 {G : oh_G} {l : Launch} (C : oh_C G cX8_share wsX8_share RX8 rmX8_share 16) (hl : G.1.2.1 = l) (h0 : oh_H) (h : oh_H) (o : Nat) (v1 : Int32) (v2 : Int32) (v3 : Int32) (v4 : Int64) (v6 : Int32) (v7 : Int32) (v8 : Int32) (v9 : Int64) (v11 : Int32) (v12 : Int32) : oh_J (oh_TL (pv_X8_share_219 G o v1 v2 v3 v4 v6 v7 v8 v9) (oh_TL (pv_X8_share_184 G o v1 v2 v3 v4 v6) (oh_TW h0 xi 0 0 (some .int) G))) (b_X8_share_219 h o v1 v2 v3 v4 v6 v7 v8 v9 v11 v12) (oh_V G 0 0 h 219 [(0, xr (some o)), (1, xi v1), (2, xi v2), (3, xi v3), (4, xl v4), (6, xi v6), (7, xi v7), (8, xi v8), (9, xl v9), (11, xi v11), (12, xi v12)] []) := by
  unfold b_X8_share_219
  refine or_iload C 10 rfl dX8_share_219 ?_
  refine or_iload_n C 2 rfl dX8_share_221 ?_
  refine or_icmp_ge C 287 dX8_share_222 (by decide) ?_ ?_
  · refine oj_inr ?_
    refine or_iload C 9 rfl dX8_share_287 ?_
    refine or_iload C 5 rfl dX8_share_289 ?_
    refine or_icmp_ge C 305 dX8_share_291 (by decide) ?_ ?_
    · refine or_sub [0, 1, 2, 3, 4, 5, 6] rfl ?_
      exact w_X8_share_305 C hl h0 h o v1 v2 v3 v4 v6 v7
    · refine or_aload_n C 0 rfl dX8_share_294 ?_
      refine or_getR C 8 15 rfl (by decide) rfl (by decide) u_X8_share_8 (by decide) k_X8_share_f47 (by decide +kernel) dX8_share_295 (fun x1 => ?_)
      refine or_iload C 7 rfl dX8_share_298 ?_
      refine or_dup2 C rfl rfl dX8_share_300 ?_
      refine or_iald C dX8_share_301 (fun x2 => ?_)
      refine or_iconst C (v := (1 : Int32)) dX8_share_302 (by decide) ?_
      refine or_iadd C dX8_share_303 ?_
      refine or_iast C dX8_share_304 (fun h3 => ?_)
      refine or_sub [0, 1, 2, 3, 4, 5, 6] rfl ?_
      exact w_X8_share_305 C hl h0 h3 o v1 v2 v3 v4 v6 v7
  · refine or_aload_n C 0 rfl dX8_share_225 ?_
    refine or_iload_n C 1 rfl dX8_share_226 ?_
    refine or_iload C 10 rfl dX8_share_227 ?_
    refine oj_rcs (fun q4 => ?_)
    refine oj_bind (fun p6 z7 => ?_)
    refine oj_v (P := oh_V G 0 0 h 232 [(0, xr (some o)), (1, xi v1), (2, xi v2), (3, xi v3), (4, xl v4), (6, xi v6), (7, xi v7), (8, xi v8), (9, xl v9), (11, xi v11), (12, xi v12)] [xi p6]) (fun k => or_callV C 2 hl (m_X8_lotIn _ h o v1 v12 p6 z7) gX8_share_X8_lotIn rfl rfl rfl (by decide +kernel) ⟨Nat.le_of_ble_eq_true rfl, Nat.le_of_ble_eq_true rfl⟩ q4 rfl (by decide) (Nat.le_of_ble_eq_true rfl) dX8_share_229 ⟨Nat.le_of_ble_eq_true rfl, Nat.le_of_ble_eq_true rfl⟩ rfl rfl k) ?_
    refine or_istore C (fun x8 => [(13, xi x8), (0, xr (some o)), (1, xi v1), (2, xi v2), (3, xi v3), (4, xl v4), (6, xi v6), (7, xi v7), (8, xi v8), (9, xl v9), (11, xi v11), (12, xi v12)]) (fun _ => rfl) (by decide) dX8_share_232 (fun x8 => ?_)
    refine or_iload_n C 4 rfl dX8_share_234 ?_
    refine or_i2l C dX8_share_235 ?_
    refine or_aload_n C 1 rfl dX8_share_236 ?_
    refine or_iload C 0 rfl dX8_share_237 ?_
    refine oj_rcs (fun q9 => ?_)
    refine oj_bind (fun p11 z12 => ?_)
    refine oj_v (P := oh_V G 0 0 h 242 [(13, xi x8), (0, xr (some o)), (1, xi v1), (2, xi v2), (3, xi v3), (4, xl v4), (6, xi v6), (7, xi v7), (8, xi v8), (9, xl v9), (11, xi v11), (12, xi v12)] [xl p11, xl (Int32.toInt64 v3)]) (fun k => or_callV C 1 hl (m_X8_weight _ h o x8 p11 z12) gX8_share_X8_weight rfl rfl rfl (by decide +kernel) ⟨Nat.le_of_ble_eq_true rfl, Nat.le_of_ble_eq_true rfl⟩ q9 rfl (by decide) (Nat.le_of_ble_eq_true rfl) dX8_share_239 ⟨Nat.le_of_ble_eq_true rfl, Nat.le_of_ble_eq_true rfl⟩ rfl rfl k) ?_
    refine or_lmul C dX8_share_242 ?_
    refine or_lload C 5 rfl dX8_share_243 ?_
    refine or_lrem C dX8_share_245 ?_
    refine or_lstore C (fun x13 => [(14, xl x13), (13, xi x8), (0, xr (some o)), (1, xi v1), (2, xi v2), (3, xi v3), (4, xl v4), (6, xi v6), (7, xi v7), (8, xi v8), (9, xl v9), (11, xi v11), (12, xi v12)]) (fun _ => rfl) (by decide) dX8_share_246 (fun x13 => ?_)
    refine or_iload C 11 rfl dX8_share_248 ?_
    refine or_lload C 0 rfl dX8_share_250 ?_
    refine or_lload C 10 rfl dX8_share_252 ?_
    refine or_lcmp C dX8_share_254 ?_
    refine or_if_gt C 273 dX8_share_255 (by decide) ?_ ?_
    · refine or_sub [2, 3, 4, 5, 6, 7, 8, 9, 10, 12] rfl ?_
      exact w_X8_share_273 C hl h0 h o v1 v2 v3 v4 v6 v7 v8 v9 v12 v11
    · refine or_lload C 0 rfl dX8_share_258 ?_
      refine or_lload C 10 rfl dX8_share_260 ?_
      refine or_lcmp C dX8_share_262 ?_
      refine or_if_ne C 277 dX8_share_263 (by decide) ?_ ?_
      · refine or_iload C 1 rfl dX8_share_266 ?_
        refine or_iload C 9 rfl dX8_share_268 ?_
        refine or_icmp_ge C 277 dX8_share_270 (by decide) ?_ ?_
        · refine or_sub [2, 3, 4, 5, 6, 7, 8, 9, 10, 12] rfl ?_
          exact w_X8_share_277 C hl h0 h o v1 v2 v3 v4 v6 v7 v8 v9 v12 v11
        · refine or_sub [2, 3, 4, 5, 6, 7, 8, 9, 10, 12] rfl ?_
          exact w_X8_share_273 C hl h0 h o v1 v2 v3 v4 v6 v7 v8 v9 v12 v11
      · refine or_sub [2, 3, 4, 5, 6, 7, 8, 9, 10, 12] rfl ?_
        exact w_X8_share_277 C hl h0 h o v1 v2 v3 v4 v6 v7 v8 v9 v12 v11
theorem w_X8_share_219 {G : oh_G} {l : Launch} (C : oh_C G cX8_share wsX8_share RX8 rmX8_share 16) (hl : G.1.2.1 = l) (h0 : oh_H) (h : oh_H) (o : Nat) (v1 : Int32) (v2 : Int32) (v3 : Int32) (v4 : Int64) (v6 : Int32) (v7 : Int32) (v8 : Int32) (v9 : Int64) (v11 : Int32) (v12 : Int32) : oh_J (oh_TL (pv_X8_share_184 G o v1 v2 v3 v4 v6) (oh_TW h0 xi 0 0 (some .int) G)) (f_X8_share_219 h o v1 v2 v3 v4 v6 v7 v8 v9 v11 v12) (oh_V G 0 0 h 219 [(0, xr (some o)), (1, xi v1), (2, xi v2), (3, xi v3), (4, xl v4), (6, xi v6), (7, xi v7), (8, xi v8), (9, xl v9), (11, xi v11), (12, xi v12)] []) := by
  unfold f_X8_share_219
  exact oj_loop (P := pv_X8_share_219 G o v1 v2 v3 v4 v6 v7 v8 v9) (fun s => wb_X8_share_219 C hl h0 s.1 o v1 v2 v3 v4 v6 v7 v8 v9 s.2.1 s.2.2) 1000000 (h, v11, v12)
set_option maxHeartbeats 4000000 in
set_option maxRecDepth 100000 in
theorem wb_X8_share_184 {G : oh_G} {l : Launch} (C : oh_C G cX8_share wsX8_share RX8 rmX8_share 16) (hl : G.1.2.1 = l) (h0 : oh_H) (h : oh_H) (o : Nat) (v1 : Int32) (v2 : Int32) (v3 : Int32) (v4 : Int64) (v6 : Int32) (v7 : Int32) : oh_J (oh_TL (pv_X8_share_184 G o v1 v2 v3 v4 v6) (oh_TW h0 xi 0 0 (some .int) G)) (b_X8_share_184 h o v1 v2 v3 v4 v6 v7) (oh_V G 0 0 h 184 [(0, xr (some o)), (1, xi v1), (2, xi v2), (3, xi v3), (4, xl v4), (6, xi v6), (7, xi v7)] []) := by
  unfold b_X8_share_184
  refine or_iload C 6 rfl dX8_share_184 ?_
  refine or_iload_n C 2 rfl dX8_share_186 ?_
  refine or_icmp_ge C 311 dX8_share_187 (by decide) ?_ ?_
  · refine oj_inr ?_
    refine or_aload_n C 0 rfl dX8_share_311 ?_
    refine or_getR C 8 28 rfl (by decide) rfl (by decide) u_X8_share_8 (by decide) k_X8_share_f87 (by decide +kernel) dX8_share_312 (fun x1 => ?_)
    refine or_iload_n C 1 rfl dX8_share_315 ?_
    refine or_iald C dX8_share_316 (fun x2 => ?_)
    exact or_iret C ⟨Nat.le_of_ble_eq_true rfl, Nat.le_of_ble_eq_true rfl⟩ dX8_share_317
  · refine or_aload_n C 0 rfl dX8_share_190 ?_
    refine or_iload_n C 1 rfl dX8_share_191 ?_
    refine or_iload C 6 rfl dX8_share_192 ?_
    refine oj_rcs (fun q3 => ?_)
    refine oj_bind (fun p5 z6 => ?_)
    refine oj_v (P := oh_V G 0 0 h 197 [(0, xr (some o)), (1, xi v1), (2, xi v2), (3, xi v3), (4, xl v4), (6, xi v6), (7, xi v7)] [xi p5]) (fun k => or_callV C 2 hl (m_X8_lotIn _ h o v1 v7 p5 z6) gX8_share_X8_lotIn rfl rfl rfl (by decide +kernel) ⟨Nat.le_of_ble_eq_true rfl, Nat.le_of_ble_eq_true rfl⟩ q3 rfl (by decide) (Nat.le_of_ble_eq_true rfl) dX8_share_194 ⟨Nat.le_of_ble_eq_true rfl, Nat.le_of_ble_eq_true rfl⟩ rfl rfl k) ?_
    refine or_istore C (fun x7 => [(8, xi x7), (0, xr (some o)), (1, xi v1), (2, xi v2), (3, xi v3), (4, xl v4), (6, xi v6), (7, xi v7)]) (fun _ => rfl) (by decide) dX8_share_197 (fun x7 => ?_)
    refine or_iload_n C 4 rfl dX8_share_199 ?_
    refine or_i2l C dX8_share_200 ?_
    refine or_aload_n C 1 rfl dX8_share_201 ?_
    refine or_iload C 0 rfl dX8_share_202 ?_
    refine oj_rcs (fun q8 => ?_)
    refine oj_bind (fun p10 z11 => ?_)
    refine oj_v (P := oh_V G 0 0 h 207 [(8, xi x7), (0, xr (some o)), (1, xi v1), (2, xi v2), (3, xi v3), (4, xl v4), (6, xi v6), (7, xi v7)] [xl p10, xl (Int32.toInt64 v3)]) (fun k => or_callV C 1 hl (m_X8_weight _ h o x7 p10 z11) gX8_share_X8_weight rfl rfl rfl (by decide +kernel) ⟨Nat.le_of_ble_eq_true rfl, Nat.le_of_ble_eq_true rfl⟩ q8 rfl (by decide) (Nat.le_of_ble_eq_true rfl) dX8_share_204 ⟨Nat.le_of_ble_eq_true rfl, Nat.le_of_ble_eq_true rfl⟩ rfl rfl k) ?_
    refine or_lmul C dX8_share_207 ?_
    refine or_lload C 5 rfl dX8_share_208 ?_
    refine or_lrem C dX8_share_210 ?_
    refine or_lstore C (fun x12 => [(9, xl x12), (8, xi x7), (0, xr (some o)), (1, xi v1), (2, xi v2), (3, xi v3), (4, xl v4), (6, xi v6), (7, xi v7)]) (fun _ => rfl) (by decide) dX8_share_211 (fun x12 => ?_)
    refine or_iconst C (v := (0 : Int32)) dX8_share_213 (by decide) ?_
    refine or_istore C (fun x13 => [(11, xi x13), (9, xl x12), (8, xi x7), (0, xr (some o)), (1, xi v1), (2, xi v2), (3, xi v3), (4, xl v4), (6, xi v6), (7, xi v7)]) (fun _ => rfl) (by decide) dX8_share_214 (fun x13 => ?_)
    refine or_iconst C (v := (0 : Int32)) dX8_share_216 (by decide) ?_
    refine or_istore C (fun x14 => [(12, xi x14), (11, xi x13), (9, xl x12), (8, xi x7), (0, xr (some o)), (1, xi v1), (2, xi v2), (3, xi v3), (4, xl v4), (6, xi v6), (7, xi v7)]) (fun _ => rfl) (by decide) dX8_share_217 (fun x14 => ?_)
    refine or_sub [4, 5, 6, 7, 8, 9, 10, 3, 2, 1, 0] rfl ?_
    exact w_X8_share_219 C hl h0 h o v1 v2 v3 v4 v6 v7 x7 x12 x13 x14
theorem w_X8_share_184 {G : oh_G} {l : Launch} (C : oh_C G cX8_share wsX8_share RX8 rmX8_share 16) (hl : G.1.2.1 = l) (h0 : oh_H) (h : oh_H) (o : Nat) (v1 : Int32) (v2 : Int32) (v3 : Int32) (v4 : Int64) (v6 : Int32) (v7 : Int32) : oh_J (oh_TW h0 xi 0 0 (some .int) G) (f_X8_share_184 h o v1 v2 v3 v4 v6 v7) (oh_V G 0 0 h 184 [(0, xr (some o)), (1, xi v1), (2, xi v2), (3, xi v3), (4, xl v4), (6, xi v6), (7, xi v7)] []) := by
  unfold f_X8_share_184
  exact oj_loop (P := pv_X8_share_184 G o v1 v2 v3 v4 v6) (fun s => wb_X8_share_184 C hl h0 s.1 o v1 v2 v3 v4 v6 s.2) 1000000 (h, v7)
set_option maxHeartbeats 4000000 in
set_option maxRecDepth 100000 in
theorem wb_X8_share_120 {G : oh_G} {l : Launch} (C : oh_C G cX8_share wsX8_share RX8 rmX8_share 16) (hl : G.1.2.1 = l) (h0 : oh_H) (h : oh_H) (o : Nat) (v1 : Int32) (v2 : Int32) (v3 : Int32) (v4 : Int64) (v6 : Int32) (v7 : Int32) : oh_J (oh_TL (pv_X8_share_120 G o v1 v2 v3 v4) (oh_TW h0 xi 0 0 (some .int) G)) (b_X8_share_120 h o v1 v2 v3 v4 v6 v7) (oh_V G 0 0 h 120 [(0, xr (some o)), (1, xi v1), (2, xi v2), (3, xi v3), (4, xl v4), (6, xi v6), (7, xi v7)] []) := by
  unfold b_X8_share_120
  refine or_iload C 6 rfl dX8_share_120 ?_
  refine or_iload_n C 2 rfl dX8_share_122 ?_
  refine or_icmp_ge C 181 dX8_share_123 (by decide) ?_ ?_
  · refine oj_inr ?_
    refine or_iconst C (v := (0 : Int32)) dX8_share_181 (by decide) ?_
    refine or_istore C (fun x1 => [(7, xi x1), (0, xr (some o)), (1, xi v1), (2, xi v2), (3, xi v3), (4, xl v4), (6, xi v6)]) (fun _ => rfl) (by decide) dX8_share_182 (fun x1 => ?_)
    refine or_sub [1, 2, 3, 4, 5, 6, 0] rfl ?_
    exact w_X8_share_184 C hl h0 h o v1 v2 v3 v4 v6 x1
  · refine or_aload_n C 0 rfl dX8_share_126 ?_
    refine or_iload_n C 1 rfl dX8_share_127 ?_
    refine or_iload C 6 rfl dX8_share_128 ?_
    refine oj_rcs (fun q2 => ?_)
    refine oj_bind (fun p4 z5 => ?_)
    refine oj_v (P := oh_V G 0 0 h 133 [(0, xr (some o)), (1, xi v1), (2, xi v2), (3, xi v3), (4, xl v4), (6, xi v6), (7, xi v7)] [xi p4]) (fun k => or_callV C 2 hl (m_X8_lotIn _ h o v1 v7 p4 z5) gX8_share_X8_lotIn rfl rfl rfl (by decide +kernel) ⟨Nat.le_of_ble_eq_true rfl, Nat.le_of_ble_eq_true rfl⟩ q2 rfl (by decide) (Nat.le_of_ble_eq_true rfl) dX8_share_130 ⟨Nat.le_of_ble_eq_true rfl, Nat.le_of_ble_eq_true rfl⟩ rfl rfl k) ?_
    refine or_istore C (fun x6 => [(8, xi x6), (0, xr (some o)), (1, xi v1), (2, xi v2), (3, xi v3), (4, xl v4), (6, xi v6), (7, xi v7)]) (fun _ => rfl) (by decide) dX8_share_133 (fun x6 => ?_)
    refine or_aload_n C 1 rfl dX8_share_135 ?_
    refine or_getR C 8 15 rfl (by decide) rfl (by decide) u_X8_share_8 (by decide) k_X8_share_f47 (by decide +kernel) dX8_share_136 (fun x7 => ?_)
    refine or_iload C 0 rfl dX8_share_139 ?_
    refine or_iload_n C 4 rfl dX8_share_141 ?_
    refine or_i2l C dX8_share_142 ?_
    refine or_aload_n C 1 rfl dX8_share_143 ?_
    refine or_iload C 0 rfl dX8_share_144 ?_
    refine oj_rcs (fun q8 => ?_)
    refine oj_bind (fun p10 z11 => ?_)
    refine oj_v (P := oh_V G 0 0 h 149 [(8, xi x6), (0, xr (some o)), (1, xi v1), (2, xi v2), (3, xi v3), (4, xl v4), (6, xi v6), (7, xi v7)] [xl p10, xl (Int32.toInt64 v3), xi x6, xr x7]) (fun k => or_callV C 1 hl (m_X8_weight _ h o x6 p10 z11) gX8_share_X8_weight rfl rfl rfl (by decide +kernel) ⟨Nat.le_of_ble_eq_true rfl, Nat.le_of_ble_eq_true rfl⟩ q8 rfl (by decide) (Nat.le_of_ble_eq_true rfl) dX8_share_146 ⟨Nat.le_of_ble_eq_true rfl, Nat.le_of_ble_eq_true rfl⟩ rfl rfl k) ?_
    refine or_lmul C dX8_share_149 ?_
    refine or_lload C 5 rfl dX8_share_150 ?_
    refine or_ldiv C dX8_share_152 ?_
    refine or_l2i C dX8_share_153 ?_
    refine or_iast C dX8_share_154 (fun h12 => ?_)
    refine or_iload C 6 rfl dX8_share_155 ?_
    refine or_aload_n C 1 rfl dX8_share_157 ?_
    refine or_getR C 8 15 rfl (by decide) rfl (by decide) u_X8_share_8 (by decide) k_X8_share_f47 (by decide +kernel) dX8_share_158 (fun x13 => ?_)
    refine or_iload C 0 rfl dX8_share_161 ?_
    refine or_iald C dX8_share_163 (fun x14 => ?_)
    refine or_isub C dX8_share_164 ?_
    refine or_istore C (fun x15 => [(6, xi x15), (8, xi x6), (0, xr (some o)), (1, xi v1), (2, xi v2), (3, xi v3), (4, xl v4), (7, xi v7)]) (fun _ => rfl) (by decide) dX8_share_165 (fun x15 => ?_)
    refine or_aload_n C 2 rfl dX8_share_167 ?_
    refine or_getR C 8 11 rfl (by decide) rfl (by decide) u_X8_share_8 (by decide) k_X8_share_f35 (by decide +kernel) dX8_share_168 (fun x16 => ?_)
    refine or_iload C 1 rfl dX8_share_171 ?_
    refine or_iconst C (v := (5 : Int32)) dX8_share_173 (by decide) ?_
    refine or_iast C dX8_share_174 (fun h17 => ?_)
    refine or_iinc C (y := (1 : Int32)) 7 rfl (by decide) (fun x18 => [(7, xi x18), (6, xi x15), (8, xi x6), (0, xr (some o)), (1, xi v1), (2, xi v2), (3, xi v3), (4, xl v4)]) (fun _ => rfl) (by decide) dX8_share_175 (fun x18 => ?_)
    refine or_goto C 120 dX8_share_178 (by decide) ?_
    refine or_sub [3, 4, 5, 6, 7, 1, 0] rfl ?_
    exact oj_back (P := pv_X8_share_120 G o v1 v2 v3 v4) (s := (h17, x15, x18))
theorem w_X8_share_120 {G : oh_G} {l : Launch} (C : oh_C G cX8_share wsX8_share RX8 rmX8_share 16) (hl : G.1.2.1 = l) (h0 : oh_H) (h : oh_H) (o : Nat) (v1 : Int32) (v2 : Int32) (v3 : Int32) (v4 : Int64) (v6 : Int32) (v7 : Int32) : oh_J (oh_TW h0 xi 0 0 (some .int) G) (f_X8_share_120 h o v1 v2 v3 v4 v6 v7) (oh_V G 0 0 h 120 [(0, xr (some o)), (1, xi v1), (2, xi v2), (3, xi v3), (4, xl v4), (6, xi v6), (7, xi v7)] []) := by
  unfold f_X8_share_120
  exact oj_loop (P := pv_X8_share_120 G o v1 v2 v3 v4) (fun s => wb_X8_share_120 C hl h0 s.1 o v1 v2 v3 v4 s.2.1 s.2.2) 1000000 (h, v6, v7)
set_option maxHeartbeats 4000000 in
set_option maxRecDepth 100000 in
theorem wb_X8_share_86 {G : oh_G} {l : Launch} (C : oh_C G cX8_share wsX8_share RX8 rmX8_share 16) (hl : G.1.2.1 = l) (h0 : oh_H) (h : oh_H) (o : Nat) (v1 : Int32) (v2 : Int32) (v3 : Int32) (v4 : Int64) (v6 : Int32) : oh_J (oh_TL (pv_X8_share_86 G o v1 v2 v3) (oh_TW h0 xi 0 0 (some .int) G)) (b_X8_share_86 h o v1 v2 v3 v4 v6) (oh_V G 0 0 h 86 [(0, xr (some o)), (1, xi v1), (2, xi v2), (3, xi v3), (4, xl v4), (6, xi v6)] []) := by
  unfold b_X8_share_86
  refine or_iload C 5 rfl dX8_share_86 ?_
  refine or_iload_n C 2 rfl dX8_share_88 ?_
  refine or_icmp_ge C 114 dX8_share_89 (by decide) ?_ ?_
  · refine oj_inr ?_
    refine or_iload_n C 3 rfl dX8_share_114 ?_
    refine or_istore C (fun x1 => [(6, xi x1), (0, xr (some o)), (1, xi v1), (2, xi v2), (3, xi v3), (4, xl v4)]) (fun _ => rfl) (by decide) dX8_share_115 (fun x1 => ?_)
    refine or_iconst C (v := (0 : Int32)) dX8_share_117 (by decide) ?_
    refine or_istore C (fun x2 => [(7, xi x2), (6, xi x1), (0, xr (some o)), (1, xi v1), (2, xi v2), (3, xi v3), (4, xl v4)]) (fun _ => rfl) (by decide) dX8_share_118 (fun x2 => ?_)
    refine or_sub [2, 3, 4, 5, 6, 1, 0] rfl ?_
    exact w_X8_share_120 C hl h0 h o v1 v2 v3 v4 x1 x2
  · refine or_lload C 4 rfl dX8_share_92 ?_
    refine or_aload_n C 0 rfl dX8_share_94 ?_
    refine or_aload_n C 0 rfl dX8_share_95 ?_
    refine or_iload_n C 1 rfl dX8_share_96 ?_
    refine or_iload C 5 rfl dX8_share_97 ?_
    refine oj_rcs (fun q3 => ?_)
    refine oj_bind (fun p5 z6 => ?_)
    refine oj_v (P := oh_V G 0 0 h 102 [(0, xr (some o)), (1, xi v1), (2, xi v2), (3, xi v3), (4, xl v4), (6, xi v6)] [xi p5, xr (some o), xl v4]) (fun k => or_callV C 2 hl (m_X8_lotIn _ h o v1 v6 p5 z6) gX8_share_X8_lotIn rfl rfl rfl (by decide +kernel) ⟨Nat.le_of_ble_eq_true rfl, Nat.le_of_ble_eq_true rfl⟩ q3 rfl (by decide) (Nat.le_of_ble_eq_true rfl) dX8_share_99 ⟨Nat.le_of_ble_eq_true rfl, Nat.le_of_ble_eq_true rfl⟩ rfl rfl k) ?_
    refine oj_rcs (fun q7 => ?_)
    refine oj_bind (fun p9 z10 => ?_)
    refine oj_v (P := oh_V G 0 0 h 105 [(0, xr (some o)), (1, xi v1), (2, xi v2), (3, xi v3), (4, xl v4), (6, xi v6)] [xl p9, xl v4]) (fun k => or_callV C 1 hl (m_X8_weight _ h o p5 p9 z10) gX8_share_X8_weight rfl rfl rfl (by decide +kernel) ⟨Nat.le_of_ble_eq_true rfl, Nat.le_of_ble_eq_true rfl⟩ q7 rfl (by decide) (Nat.le_of_ble_eq_true rfl) dX8_share_102 ⟨Nat.le_of_ble_eq_true rfl, Nat.le_of_ble_eq_true rfl⟩ rfl rfl k) ?_
    refine or_ladd C dX8_share_105 ?_
    refine or_lstore C (fun x11 => [(4, xl x11), (0, xr (some o)), (1, xi v1), (2, xi v2), (3, xi v3), (6, xi v6)]) (fun _ => rfl) (by decide) dX8_share_106 (fun x11 => ?_)
    refine or_iinc C (y := (1 : Int32)) 5 rfl (by decide) (fun x12 => [(6, xi x12), (4, xl x11), (0, xr (some o)), (1, xi v1), (2, xi v2), (3, xi v3)]) (fun _ => rfl) (by decide) dX8_share_108 (fun x12 => ?_)
    refine or_goto C 86 dX8_share_111 (by decide) ?_
    refine or_sub [2, 3, 4, 5, 1, 0] rfl ?_
    exact oj_back (P := pv_X8_share_86 G o v1 v2 v3) (s := (h, x11, x12))
theorem w_X8_share_86 {G : oh_G} {l : Launch} (C : oh_C G cX8_share wsX8_share RX8 rmX8_share 16) (hl : G.1.2.1 = l) (h0 : oh_H) (h : oh_H) (o : Nat) (v1 : Int32) (v2 : Int32) (v3 : Int32) (v4 : Int64) (v6 : Int32) : oh_J (oh_TW h0 xi 0 0 (some .int) G) (f_X8_share_86 h o v1 v2 v3 v4 v6) (oh_V G 0 0 h 86 [(0, xr (some o)), (1, xi v1), (2, xi v2), (3, xi v3), (4, xl v4), (6, xi v6)] []) := by
  unfold f_X8_share_86
  exact oj_loop (P := pv_X8_share_86 G o v1 v2 v3) (fun s => wb_X8_share_86 C hl h0 s.1 o v1 v2 v3 s.2.1 s.2.2) 1000000 (h, v4, v6)
set_option maxHeartbeats 4000000 in
set_option maxRecDepth 100000 in
theorem w_X8_share_0 {G : oh_G} {l : Launch} (C : oh_C G cX8_share wsX8_share RX8 rmX8_share 16) (hl : G.1.2.1 = l) (h0 : oh_H) (h : oh_H) (o : Nat) (v1 : Int32) : oh_J (oh_TW h0 xi 0 0 (some .int) G) (f_X8_share h o v1) (oh_V G 0 0 h 0 [(0, xr (some o)), (1, xi v1)] []) := by
  unfold f_X8_share
  refine or_aload_n C 0 rfl dX8_share_0 ?_
  refine or_iload_n C 1 rfl dX8_share_1 ?_
  refine oj_rcs (fun q1 => ?_)
  refine oj_bind (fun p3 z4 => ?_)
  refine oj_v (P := oh_V G 0 0 h 5 [(0, xr (some o)), (1, xi v1)] [xi p3]) (fun k => or_callV C 1 hl (m_X8_isMill _ h o v1 p3 z4) gX8_share_X8_isMill rfl rfl rfl (by decide +kernel) ⟨Nat.le_of_ble_eq_true rfl, Nat.le_of_ble_eq_true rfl⟩ q1 rfl (by decide) (Nat.le_of_ble_eq_true rfl) dX8_share_2 ⟨Nat.le_of_ble_eq_true rfl, Nat.le_of_ble_eq_true rfl⟩ rfl rfl k) ?_
  refine or_if_eq C 37 dX8_share_5 (by decide) ?_ ?_
  · refine or_sub [] rfl ?_
    exact w_X8_share_37 C hl h0 h o
  · refine or_aload_n C 0 rfl dX8_share_8 ?_
    refine or_getR C 8 24 rfl (by decide) rfl (by decide) u_X8_share_8 (by decide) k_X8_share_f75 (by decide +kernel) dX8_share_9 (fun x5 => ?_)
    refine or_iload_n C 1 rfl dX8_share_12 ?_
    refine or_zald C dX8_share_13 (fun x6 => ?_)
    refine or_if_eq C 37 dX8_share_14 (by decide) ?_ ?_
    · refine or_sub [] rfl ?_
      exact w_X8_share_37 C hl h0 h o
    · refine or_aload_n C 0 rfl dX8_share_17 ?_
      refine or_getR C 8 27 rfl (by decide) rfl (by decide) u_X8_share_8 (by decide) k_X8_share_f84 (by decide +kernel) dX8_share_18 (fun x7 => ?_)
      refine or_iload_n C 1 rfl dX8_share_21 ?_
      refine or_iald C dX8_share_22 (fun x8 => ?_)
      refine or_iconst C (v := (-1 : Int32)) dX8_share_23 (by decide) ?_
      refine or_icmp_eq C 37 dX8_share_24 (by decide) ?_ ?_
      · refine or_sub [] rfl ?_
        exact w_X8_share_37 C hl h0 h o
      · refine or_aload_n C 0 rfl dX8_share_27 ?_
        refine or_getR C 8 28 rfl (by decide) rfl (by decide) u_X8_share_8 (by decide) k_X8_share_f87 (by decide +kernel) dX8_share_28 (fun x9 => ?_)
        refine or_iload_n C 1 rfl dX8_share_31 ?_
        refine or_iald C dX8_share_32 (fun x10 => ?_)
        refine or_iconst C (v := (-1 : Int32)) dX8_share_33 (by decide) ?_
        refine or_icmp_eq C 39 dX8_share_34 (by decide) ?_ ?_
        · refine or_aload_n C 0 rfl dX8_share_39 ?_
          refine or_getR C 8 22 rfl (by decide) rfl (by decide) u_X8_share_8 (by decide) k_X8_share_f69 (by decide +kernel) dX8_share_40 (fun x11 => ?_)
          refine or_iload_n C 1 rfl dX8_share_43 ?_
          refine or_iald C dX8_share_44 (fun x12 => ?_)
          refine or_istore_n C (fun x13 => [(2, xi x13), (0, xr (some o)), (1, xi v1)]) (fun _ => rfl) (by decide) dX8_share_45 (fun x13 => ?_)
          refine or_aload_n C 1 rfl dX8_share_46 ?_
          refine or_getR C 8 28 rfl (by decide) rfl (by decide) u_X8_share_8 (by decide) k_X8_share_f87 (by decide +kernel) dX8_share_47 (fun x14 => ?_)
          refine or_iload_n C 2 rfl dX8_share_50 ?_
          refine or_aload_n C 1 rfl dX8_share_51 ?_
          refine or_getR C 8 27 rfl (by decide) rfl (by decide) u_X8_share_8 (by decide) k_X8_share_f84 (by decide +kernel) dX8_share_52 (fun x15 => ?_)
          refine or_iload_n C 2 rfl dX8_share_55 ?_
          refine or_iald C dX8_share_56 (fun x16 => ?_)
          refine or_aload_n C 1 rfl dX8_share_57 ?_
          refine or_getI C 8 2 rfl (by decide) rfl (by decide) u_X8_share_8 (by decide) k_X8_share_f13 (by decide +kernel) dX8_share_58 (fun x17 => ?_)
          refine or_imul C dX8_share_61 ?_
          refine or_bipush C (v := (100 : Int32)) dX8_share_62 (by decide) ?_
          refine or_idiv C dX8_share_64 ?_
          refine or_iast C dX8_share_65 (fun h18 => ?_)
          refine or_aload_n C 1 rfl dX8_share_66 ?_
          refine or_getR C 8 27 rfl (by decide) rfl (by decide) u_X8_share_8 (by decide) k_X8_share_f84 (by decide +kernel) dX8_share_67 (fun x19 => ?_)
          refine or_iload_n C 2 rfl dX8_share_70 ?_
          refine or_iald C dX8_share_71 (fun x20 => ?_)
          refine or_aload_n C 1 rfl dX8_share_72 ?_
          refine or_getR C 8 28 rfl (by decide) rfl (by decide) u_X8_share_8 (by decide) k_X8_share_f87 (by decide +kernel) dX8_share_73 (fun x21 => ?_)
          refine or_iload_n C 2 rfl dX8_share_76 ?_
          refine or_iald C dX8_share_77 (fun x22 => ?_)
          refine or_isub C dX8_share_78 ?_
          refine or_istore_n C (fun x23 => [(3, xi x23), (2, xi x13), (0, xr (some o)), (1, xi v1)]) (fun _ => rfl) (by decide) dX8_share_79 (fun x23 => ?_)
          refine or_lconst C (v := (0 : Int64)) dX8_share_80 rfl ?_
          refine or_lstore C (fun x24 => [(4, xl x24), (3, xi x23), (2, xi x13), (0, xr (some o)), (1, xi v1)]) (fun _ => rfl) (by decide) dX8_share_81 (fun x24 => ?_)
          refine or_iconst C (v := (0 : Int32)) dX8_share_83 (by decide) ?_
          refine or_istore C (fun x25 => [(6, xi x25), (4, xl x24), (3, xi x23), (2, xi x13), (0, xr (some o)), (1, xi v1)]) (fun _ => rfl) (by decide) dX8_share_84 (fun x25 => ?_)
          refine or_sub [4, 5, 3, 2, 1, 0] rfl ?_
          exact w_X8_share_86 C hl h0 h18 o v1 x13 x23 x24 x25
        · refine or_sub [] rfl ?_
          exact w_X8_share_37 C hl h0 h o
theorem m_X8_share (l : Launch) (h : oh_H) (o : Nat) (v1 : Int32) (p : Int32 × oh_H) (hf : f_X8_share h o v1 = some p) : oh_M l yX8_share wsX8_share rmX8_share 0 0 [xr (some o), xi v1] h (some (xi p.1)) p.2 :=
  oh_met (cc := cX8_share) (maxL := 16) (ret := (some .int)) (by decide) rfl (Nat.le_of_ble_eq_true rfl) (fun G C hl hN E => w_X8_share_0 C hl h h o v1 p hf E)
