/-! X8_in -/
abbrev rmX8_in : Room := { frames := 0, cells := 0, slots := 0, locals := 0 }
def f_X8_in_15 (h : oh_H) (s0 : Int32) : Option (Int32) :=
  oh_bz s0 (some s0)
def f_X8_in_14 (h : oh_H) : Option (Int32) :=
  f_X8_in_15 h (0 : Int32)
def f_X8_in (h : oh_H) (v0 : Int32) (v1 : Int32) (v2 : Int32) : Option (Int32) :=
  if v0 < v1 then (f_X8_in_14 h) else (if v2 < v0 then (f_X8_in_14 h) else (f_X8_in_15 h (1 : Int32)))
set_option maxHeartbeats 4000000 in
set_option maxRecDepth 100000 in
theorem w_X8_in_15 {G : oh_G} {l : Launch} (C : oh_C G cX8_in wsX8_in RX8 rmX8_in 3) (hl : G.1.2.1 = l) (h : oh_H) (s0 : Int32) : oh_J (oh_TR h xi (some .boolean) G) (f_X8_in_15 h s0) (oh_V G 0 0 h 15 [] [xi s0]) := by
  unfold f_X8_in_15
  exact or_zretR C dX8_in_15
set_option maxHeartbeats 4000000 in
set_option maxRecDepth 100000 in
theorem w_X8_in_14 {G : oh_G} {l : Launch} (C : oh_C G cX8_in wsX8_in RX8 rmX8_in 3) (hl : G.1.2.1 = l) (h : oh_H) : oh_J (oh_TR h xi (some .boolean) G) (f_X8_in_14 h) (oh_V G 0 0 h 14 [] []) := by
  unfold f_X8_in_14
  refine or_iconst C (v := (0 : Int32)) dX8_in_14 (by decide) ?_
  refine or_sub [] rfl ?_
  exact w_X8_in_15 C hl h (0 : Int32)
set_option maxHeartbeats 4000000 in
set_option maxRecDepth 100000 in
theorem w_X8_in_0 {G : oh_G} {l : Launch} (C : oh_C G cX8_in wsX8_in RX8 rmX8_in 3) (hl : G.1.2.1 = l) (h : oh_H) (v0 : Int32) (v1 : Int32) (v2 : Int32) : oh_J (oh_TR h xi (some .boolean) G) (f_X8_in h v0 v1 v2) (oh_V G 0 0 h 0 [(0, xi v0), (1, xi v1), (2, xi v2)] []) := by
  unfold f_X8_in
  refine or_iload_n C 0 rfl dX8_in_0 ?_
  refine or_iload_n C 1 rfl dX8_in_1 ?_
  refine or_icmp_lt C 14 dX8_in_2 (by decide) ?_ ?_
  · refine or_sub [] rfl ?_
    exact w_X8_in_14 C hl h
  · refine or_iload_n C 0 rfl dX8_in_5 ?_
    refine or_iload_n C 2 rfl dX8_in_6 ?_
    refine or_icmp_gt C 14 dX8_in_7 (by decide) ?_ ?_
    · refine or_sub [] rfl ?_
      exact w_X8_in_14 C hl h
    · refine or_iconst C (v := (1 : Int32)) dX8_in_10 (by decide) ?_
      refine or_goto C 15 dX8_in_11 (by decide) ?_
      refine or_sub [] rfl ?_
      exact w_X8_in_15 C hl h (1 : Int32)
theorem m_X8_in (l : Launch) (h : oh_H) (v0 : Int32) (v1 : Int32) (v2 : Int32) (p : Int32) (hf : f_X8_in h v0 v1 v2 = some p) : oh_M l yX8_in wsX8_in rmX8_in 0 0 [xi v0, xi v1, xi v2] h (some (xi p)) h :=
  oh_met (cc := cX8_in) (maxL := 3) (ret := (some .boolean)) (by decide) rfl (Nat.le_of_ble_eq_true rfl) (fun G C hl hN E => w_X8_in_0 C hl h v0 v1 v2 p hf E)
/-! X8_today -/
theorem k_X8_today_f127 : Cond.fieldLink RX8 127 "OilPressModel" "now" "I" ∈ wsX8_today := List.mem_of_getElem? (i := 1) (by decide +kernel)
theorem u_X8_today_8 : ∀ w ∈ u_ws RX8 TX8 54, w ∈ wsX8_today := fun w h => List.mem_cons_of_mem _ (List.mem_append_right _ (h))
abbrev rmX8_today : Room := { frames := 0, cells := 0, slots := 0, locals := 0 }
def f_X8_today (h : oh_H) (o : Nat) : Option (Int32) :=
  (oh_gI h (some o) 512).bind fun x1 => if (10 : Int32) = 0 then none else some (x1 / (10 : Int32))
set_option maxHeartbeats 4000000 in
set_option maxRecDepth 100000 in
theorem w_X8_today_0 {G : oh_G} {l : Launch} (C : oh_C G cX8_today wsX8_today RX8 rmX8_today 1) (hl : G.1.2.1 = l) (h : oh_H) (o : Nat) : oh_J (oh_TR h xi (some .int) G) (f_X8_today h o) (oh_V G 0 0 h 0 [(0, xr (some o))] []) := by
  unfold f_X8_today
  refine or_aload_n C 0 rfl dX8_today_0 ?_
  refine or_getI C 8 0 rfl (by decide) rfl (by decide) u_X8_today_8 (by decide) k_X8_today_f127 (by decide +kernel) dX8_today_1 (fun x1 => ?_)
  refine or_bipush C (v := (10 : Int32)) dX8_today_4 (by decide) ?_
  refine or_idiv C dX8_today_6 ?_
  exact or_iretR C dX8_today_7
theorem m_X8_today (l : Launch) (h : oh_H) (o : Nat) (p : Int32) (hf : f_X8_today h o = some p) : oh_M l yX8_today wsX8_today rmX8_today 0 0 [xr (some o)] h (some (xi p)) h :=
  oh_met (cc := cX8_today) (maxL := 1) (ret := (some .int)) (by decide) rfl (Nat.le_of_ble_eq_true rfl) (fun G C hl hN E => w_X8_today_0 C hl h o p hf E)
/-! X8_isLot -/
theorem k_X8_isLot_f130 : Cond.fieldLink RX8 130 "OilPressModel" "lots" "I" ∈ wsX8_isLot := List.mem_of_getElem? (i := 1) (by decide +kernel)
theorem u_X8_isLot_8 : ∀ w ∈ u_ws RX8 TX8 54, w ∈ wsX8_isLot := fun w h => List.mem_cons_of_mem _ (List.mem_append_right _ (h))
abbrev rmX8_isLot : Room := { frames := 1, cells := 0, slots := 0, locals := 22 }
def f_X8_isLot (h : oh_H) (o : Nat) (v1 : Int32) : Option (Int32) :=
  (oh_gI h (some o) 519).bind fun x1 => (f_X8_in h v1 (0 : Int32) (x1 - (1 : Int32))).bind fun p2 => oh_bz p2 (some p2)
set_option maxHeartbeats 4000000 in
set_option maxRecDepth 100000 in
theorem w_X8_isLot_0 {G : oh_G} {l : Launch} (C : oh_C G cX8_isLot wsX8_isLot RX8 rmX8_isLot 2) (hl : G.1.2.1 = l) (h : oh_H) (o : Nat) (v1 : Int32) : oh_J (oh_TR h xi (some .boolean) G) (f_X8_isLot h o v1) (oh_V G 0 0 h 0 [(0, xr (some o)), (1, xi v1)] []) := by
  unfold f_X8_isLot
  refine or_iload_n C 1 rfl dX8_isLot_0 ?_
  refine or_iconst C (v := (0 : Int32)) dX8_isLot_1 (by decide) ?_
  refine or_aload_n C 0 rfl dX8_isLot_2 ?_
  refine or_getI C 8 7 rfl (by decide) rfl (by decide) u_X8_isLot_8 (by decide) k_X8_isLot_f130 (by decide +kernel) dX8_isLot_3 (fun x1 => ?_)
  refine or_iconst C (v := (1 : Int32)) dX8_isLot_6 (by decide) ?_
  refine or_isub C dX8_isLot_7 ?_
  refine oj_bind (fun p2 z3 => ?_)
  refine oj_v (P := oh_V G 0 0 h 11 [(0, xr (some o)), (1, xi v1)] [xi p2]) (fun k => or_callS C 3 hl (m_X8_in _ h v1 (0 : Int32) (x1 - (1 : Int32)) p2 z3) gX8_isLot_X8_in rfl rfl rfl (by decide +kernel) ⟨Nat.le_of_ble_eq_true rfl, Nat.le_of_ble_eq_true rfl⟩ (Nat.le_of_ble_eq_true rfl) dX8_isLot_8 ⟨Nat.le_of_ble_eq_true rfl, Nat.le_of_ble_eq_true rfl⟩ rfl rfl k) ?_
  exact or_zretR C dX8_isLot_11
theorem m_X8_isLot (l : Launch) (h : oh_H) (o : Nat) (v1 : Int32) (p : Int32) (hf : f_X8_isLot h o v1 = some p) : oh_M l yX8_isLot wsX8_isLot rmX8_isLot 0 0 [xr (some o), xi v1] h (some (xi p)) h :=
  oh_met (cc := cX8_isLot) (maxL := 2) (ret := (some .boolean)) (by decide) rfl (Nat.le_of_ble_eq_true rfl) (fun G C hl hN E => w_X8_isLot_0 C hl h o v1 p hf E)
/-! X8_isMill -/
abbrev rmX8_isMill : Room := { frames := 1, cells := 0, slots := 0, locals := 22 }
def f_X8_isMill (h : oh_H) (o : Nat) (v1 : Int32) : Option (Int32) :=
  (f_X8_in h v1 (0 : Int32) (2 : Int32)).bind fun p1 => oh_bz p1 (some p1)
set_option maxHeartbeats 4000000 in
set_option maxRecDepth 100000 in
theorem w_X8_isMill_0 {G : oh_G} {l : Launch} (C : oh_C G cX8_isMill wsX8_isMill RX8 rmX8_isMill 2) (hl : G.1.2.1 = l) (h : oh_H) (o : Nat) (v1 : Int32) : oh_J (oh_TR h xi (some .boolean) G) (f_X8_isMill h o v1) (oh_V G 0 0 h 0 [(0, xr (some o)), (1, xi v1)] []) := by
  unfold f_X8_isMill
  refine or_iload_n C 1 rfl dX8_isMill_0 ?_
  refine or_iconst C (v := (0 : Int32)) dX8_isMill_1 (by decide) ?_
  refine or_iconst C (v := (2 : Int32)) dX8_isMill_2 (by decide) ?_
  refine oj_bind (fun p1 z2 => ?_)
  refine oj_v (P := oh_V G 0 0 h 6 [(0, xr (some o)), (1, xi v1)] [xi p1]) (fun k => or_callS C 3 hl (m_X8_in _ h v1 (0 : Int32) (2 : Int32) p1 z2) gX8_isMill_X8_in rfl rfl rfl (by decide +kernel) ⟨Nat.le_of_ble_eq_true rfl, Nat.le_of_ble_eq_true rfl⟩ (Nat.le_of_ble_eq_true rfl) dX8_isMill_3 ⟨Nat.le_of_ble_eq_true rfl, Nat.le_of_ble_eq_true rfl⟩ rfl rfl k) ?_
  exact or_zretR C dX8_isMill_6
theorem m_X8_isMill (l : Launch) (h : oh_H) (o : Nat) (v1 : Int32) (p : Int32) (hf : f_X8_isMill h o v1 = some p) : oh_M l yX8_isMill wsX8_isMill rmX8_isMill 0 0 [xr (some o), xi v1] h (some (xi p)) h :=
  oh_met (cc := cX8_isMill) (maxL := 2) (ret := (some .boolean)) (by decide) rfl (Nat.le_of_ble_eq_true rfl) (fun G C hl hN E => w_X8_isMill_0 C hl h o v1 p hf E)
/-! X8_isVat -/
theorem k_X8_isVat_f137 : Cond.fieldLink RX8 137 "OilPressModel" "vats" "I" ∈ wsX8_isVat := List.mem_of_getElem? (i := 1) (by decide +kernel)
theorem u_X8_isVat_8 : ∀ w ∈ u_ws RX8 TX8 54, w ∈ wsX8_isVat := fun w h => List.mem_cons_of_mem _ (List.mem_append_right _ (h))
abbrev rmX8_isVat : Room := { frames := 1, cells := 0, slots := 0, locals := 22 }
def f_X8_isVat (h : oh_H) (o : Nat) (v1 : Int32) : Option (Int32) :=
  (oh_gI h (some o) 541).bind fun x1 => (f_X8_in h v1 (0 : Int32) (x1 - (1 : Int32))).bind fun p2 => oh_bz p2 (some p2)
set_option maxHeartbeats 4000000 in
set_option maxRecDepth 100000 in
theorem w_X8_isVat_0 {G : oh_G} {l : Launch} (C : oh_C G cX8_isVat wsX8_isVat RX8 rmX8_isVat 2) (hl : G.1.2.1 = l) (h : oh_H) (o : Nat) (v1 : Int32) : oh_J (oh_TR h xi (some .boolean) G) (f_X8_isVat h o v1) (oh_V G 0 0 h 0 [(0, xr (some o)), (1, xi v1)] []) := by
  unfold f_X8_isVat
  refine or_iload_n C 1 rfl dX8_isVat_0 ?_
  refine or_iconst C (v := (0 : Int32)) dX8_isVat_1 (by decide) ?_
  refine or_aload_n C 0 rfl dX8_isVat_2 ?_
  refine or_getI C 8 29 rfl (by decide) rfl (by decide) u_X8_isVat_8 (by decide) k_X8_isVat_f137 (by decide +kernel) dX8_isVat_3 (fun x1 => ?_)
  refine or_iconst C (v := (1 : Int32)) dX8_isVat_6 (by decide) ?_
  refine or_isub C dX8_isVat_7 ?_
  refine oj_bind (fun p2 z3 => ?_)
  refine oj_v (P := oh_V G 0 0 h 11 [(0, xr (some o)), (1, xi v1)] [xi p2]) (fun k => or_callS C 3 hl (m_X8_in _ h v1 (0 : Int32) (x1 - (1 : Int32)) p2 z3) gX8_isVat_X8_in rfl rfl rfl (by decide +kernel) ⟨Nat.le_of_ble_eq_true rfl, Nat.le_of_ble_eq_true rfl⟩ (Nat.le_of_ble_eq_true rfl) dX8_isVat_8 ⟨Nat.le_of_ble_eq_true rfl, Nat.le_of_ble_eq_true rfl⟩ rfl rfl k) ?_
  exact or_zretR C dX8_isVat_11
theorem m_X8_isVat (l : Launch) (h : oh_H) (o : Nat) (v1 : Int32) (p : Int32) (hf : f_X8_isVat h o v1 = some p) : oh_M l yX8_isVat wsX8_isVat rmX8_isVat 0 0 [xr (some o), xi v1] h (some (xi p)) h :=
  oh_met (cc := cX8_isVat) (maxL := 2) (ret := (some .boolean)) (by decide) rfl (Nat.le_of_ble_eq_true rfl) (fun G C hl hN E => w_X8_isVat_0 C hl h o v1 p hf E)
/-! X8_grove -/
theorem k_X8_grove_f140 : Cond.fieldLink RX8 140 "OilPressModel" "groves" "I" ∈ wsX8_grove := List.mem_of_getElem? (i := 1) (by decide +kernel)
theorem u_X8_grove_8 : ∀ w ∈ u_ws RX8 TX8 54, w ∈ wsX8_grove := fun w h => List.mem_cons_of_mem _ (List.mem_append_right _ (h))
theorem k_X8_grove_f19 : Cond.fieldLink RX8 19 "OilPressModel" "farmer" "[I" ∈ wsX8_grove := List.mem_of_getElem? (i := 2) (by decide +kernel)
theorem k_X8_grove_f23 : Cond.fieldLink RX8 23 "OilPressModel" "like" "[I" ∈ wsX8_grove := List.mem_of_getElem? (i := 3) (by decide +kernel)
abbrev rmX8_grove : Room := { frames := 1, cells := 0, slots := 0, locals := 22 }
def f_X8_grove_29 (h : oh_H) (o : Nat) : Option (Int32 × oh_H) :=
  some ((-1 : Int32), h)
def f_X8_grove (h : oh_H) (o : Nat) (v1 : Int32) (v2 : Int32) : Option (Int32 × oh_H) :=
  (f_X8_in h v1 (0 : Int32) (39 : Int32)).bind fun p1 => if p1 = 0 then (f_X8_grove_29 h o) else ((f_X8_in h v2 (0 : Int32) (9 : Int32)).bind fun p3 => if p3 = 0 then (f_X8_grove_29 h o) else ((oh_gI h (some o) 516).bind fun x5 => if x5 = (60 : Int32) then (f_X8_grove_29 h o) else ((oh_gR h (some o) 517).bind fun x6 => (oh_gI h (some o) 516).bind fun x7 => (oh_tI h x6 20 x7 v1).bind fun h8 => (oh_gR h8 (some o) 518).bind fun x9 => (oh_gI h8 (some o) 516).bind fun x10 => (oh_tI h8 x9 20 x10 v2).bind fun h11 => (oh_gI h11 (some o) 516).bind fun x12 => (oh_pI h11 (some o) 516 (x12 + (1 : Int32))).bind fun h13 => (oh_gI h13 (some o) 516).bind fun x14 => some ((x14 - (1 : Int32)), h13))))
set_option maxHeartbeats 4000000 in
set_option maxRecDepth 100000 in
theorem w_X8_grove_29 {G : oh_G} {l : Launch} (C : oh_C G cX8_grove wsX8_grove RX8 rmX8_grove 3) (hl : G.1.2.1 = l) (h0 : oh_H) (h : oh_H) (o : Nat) : oh_J (oh_TW h0 xi 0 0 (some .int) G) (f_X8_grove_29 h o) (oh_V G 0 0 h 29 [] []) := by
  unfold f_X8_grove_29
  refine or_iconst C (v := (-1 : Int32)) dX8_grove_29 (by decide) ?_
  exact or_iret C ⟨Nat.le_of_ble_eq_true rfl, Nat.le_of_ble_eq_true rfl⟩ dX8_grove_30
set_option maxHeartbeats 4000000 in
set_option maxRecDepth 100000 in
theorem w_X8_grove_0 {G : oh_G} {l : Launch} (C : oh_C G cX8_grove wsX8_grove RX8 rmX8_grove 3) (hl : G.1.2.1 = l) (h0 : oh_H) (h : oh_H) (o : Nat) (v1 : Int32) (v2 : Int32) : oh_J (oh_TW h0 xi 0 0 (some .int) G) (f_X8_grove h o v1 v2) (oh_V G 0 0 h 0 [(0, xr (some o)), (1, xi v1), (2, xi v2)] []) := by
  unfold f_X8_grove
  refine or_iload_n C 1 rfl dX8_grove_0 ?_
  refine or_iconst C (v := (0 : Int32)) dX8_grove_1 (by decide) ?_
  refine or_bipush C (v := (39 : Int32)) dX8_grove_2 (by decide) ?_
  refine oj_bind (fun p1 z2 => ?_)
  refine oj_v (P := oh_V G 0 0 h 7 [(0, xr (some o)), (1, xi v1), (2, xi v2)] [xi p1]) (fun k => or_callS C 3 hl (m_X8_in _ h v1 (0 : Int32) (39 : Int32) p1 z2) gX8_grove_X8_in rfl rfl rfl (by decide +kernel) ⟨Nat.le_of_ble_eq_true rfl, Nat.le_of_ble_eq_true rfl⟩ (Nat.le_of_ble_eq_true rfl) dX8_grove_4 ⟨Nat.le_of_ble_eq_true rfl, Nat.le_of_ble_eq_true rfl⟩ rfl rfl k) ?_
  refine or_if_eq C 29 dX8_grove_7 (by decide) ?_ ?_
  · refine or_sub [] rfl ?_
    exact w_X8_grove_29 C hl h0 h o
  · refine or_iload_n C 2 rfl dX8_grove_10 ?_
    refine or_iconst C (v := (0 : Int32)) dX8_grove_11 (by decide) ?_
    refine or_bipush C (v := (9 : Int32)) dX8_grove_12 (by decide) ?_
    refine oj_bind (fun p3 z4 => ?_)
    refine oj_v (P := oh_V G 0 0 h 17 [(0, xr (some o)), (1, xi v1), (2, xi v2)] [xi p3]) (fun k => or_callS C 3 hl (m_X8_in _ h v2 (0 : Int32) (9 : Int32) p3 z4) gX8_grove_X8_in rfl rfl rfl (by decide +kernel) ⟨Nat.le_of_ble_eq_true rfl, Nat.le_of_ble_eq_true rfl⟩ (Nat.le_of_ble_eq_true rfl) dX8_grove_14 ⟨Nat.le_of_ble_eq_true rfl, Nat.le_of_ble_eq_true rfl⟩ rfl rfl k) ?_
    refine or_if_eq C 29 dX8_grove_17 (by decide) ?_ ?_
    · refine or_sub [] rfl ?_
      exact w_X8_grove_29 C hl h0 h o
    · refine or_aload_n C 0 rfl dX8_grove_20 ?_
      refine or_getI C 8 4 rfl (by decide) rfl (by decide) u_X8_grove_8 (by decide) k_X8_grove_f140 (by decide +kernel) dX8_grove_21 (fun x5 => ?_)
      refine or_bipush C (v := (60 : Int32)) dX8_grove_24 (by decide) ?_
      refine or_icmp_ne C 31 dX8_grove_26 (by decide) ?_ ?_
      · refine or_sub [] rfl ?_
        exact w_X8_grove_29 C hl h0 h o
      · refine or_aload_n C 0 rfl dX8_grove_31 ?_
        refine or_getR C 8 5 rfl (by decide) rfl (by decide) u_X8_grove_8 (by decide) k_X8_grove_f19 (by decide +kernel) dX8_grove_32 (fun x6 => ?_)
        refine or_aload_n C 0 rfl dX8_grove_35 ?_
        refine or_getI C 8 4 rfl (by decide) rfl (by decide) u_X8_grove_8 (by decide) k_X8_grove_f140 (by decide +kernel) dX8_grove_36 (fun x7 => ?_)
        refine or_iload_n C 1 rfl dX8_grove_39 ?_
        refine or_iast C dX8_grove_40 (fun h8 => ?_)
        refine or_aload_n C 0 rfl dX8_grove_41 ?_
        refine or_getR C 8 6 rfl (by decide) rfl (by decide) u_X8_grove_8 (by decide) k_X8_grove_f23 (by decide +kernel) dX8_grove_42 (fun x9 => ?_)
        refine or_aload_n C 0 rfl dX8_grove_45 ?_
        refine or_getI C 8 4 rfl (by decide) rfl (by decide) u_X8_grove_8 (by decide) k_X8_grove_f140 (by decide +kernel) dX8_grove_46 (fun x10 => ?_)
        refine or_iload_n C 2 rfl dX8_grove_49 ?_
        refine or_iast C dX8_grove_50 (fun h11 => ?_)
        refine or_aload_n C 0 rfl dX8_grove_51 ?_
        refine or_dup C rfl dX8_grove_52 ?_
        refine or_getI C 8 4 rfl (by decide) rfl (by decide) u_X8_grove_8 (by decide) k_X8_grove_f140 (by decide +kernel) dX8_grove_53 (fun x12 => ?_)
        refine or_iconst C (v := (1 : Int32)) dX8_grove_56 (by decide) ?_
        refine or_iadd C dX8_grove_57 ?_
        refine or_putI C 8 4 rfl (by decide) rfl (by decide) u_X8_grove_8 tyX8 tyX8_ok nmX8 (by decide) k_X8_grove_f140 (Or.inl rfl) (by decide +kernel) rfl dX8_grove_58 (fun h13 => ?_)
        refine or_aload_n C 0 rfl dX8_grove_61 ?_
        refine or_getI C 8 4 rfl (by decide) rfl (by decide) u_X8_grove_8 (by decide) k_X8_grove_f140 (by decide +kernel) dX8_grove_62 (fun x14 => ?_)
        refine or_iconst C (v := (1 : Int32)) dX8_grove_65 (by decide) ?_
        refine or_isub C dX8_grove_66 ?_
        exact or_iret C ⟨Nat.le_of_ble_eq_true rfl, Nat.le_of_ble_eq_true rfl⟩ dX8_grove_67
theorem m_X8_grove (l : Launch) (h : oh_H) (o : Nat) (v1 : Int32) (v2 : Int32) (p : Int32 × oh_H) (hf : f_X8_grove h o v1 v2 = some p) : oh_M l yX8_grove wsX8_grove rmX8_grove 0 0 [xr (some o), xi v1, xi v2] h (some (xi p.1)) p.2 :=
  oh_met (cc := cX8_grove) (maxL := 3) (ret := (some .int)) (by decide) rfl (Nat.le_of_ble_eq_true rfl) (fun G C hl hN E => w_X8_grove_0 C hl h h o v1 v2 p hf E)
/-! X8_lot -/
theorem k_X8_lot_f140 : Cond.fieldLink RX8 140 "OilPressModel" "groves" "I" ∈ wsX8_lot := List.mem_of_getElem? (i := 1) (by decide +kernel)
theorem u_X8_lot_8 : ∀ w ∈ u_ws RX8 TX8 54, w ∈ wsX8_lot := fun w h => List.mem_cons_of_mem _ (List.mem_append_right _ (h))
theorem k_X8_lot_f130 : Cond.fieldLink RX8 130 "OilPressModel" "lots" "I" ∈ wsX8_lot := List.mem_of_getElem? (i := 2) (by decide +kernel)
theorem k_X8_lot_f26 : Cond.fieldLink RX8 26 "OilPressModel" "kind" "[I" ∈ wsX8_lot := List.mem_of_getElem? (i := 3) (by decide +kernel)
theorem k_X8_lot_f29 : Cond.fieldLink RX8 29 "OilPressModel" "grove" "[I" ∈ wsX8_lot := List.mem_of_getElem? (i := 4) (by decide +kernel)
theorem k_X8_lot_f32 : Cond.fieldLink RX8 32 "OilPressModel" "came" "[I" ∈ wsX8_lot := List.mem_of_getElem? (i := 5) (by decide +kernel)
theorem k_X8_lot_f53 : Cond.fieldLink RX8 53 "OilPressModel" "where" "[I" ∈ wsX8_lot := List.mem_of_getElem? (i := 6) (by decide +kernel)
abbrev rmX8_lot : Room := { frames := 1, cells := 0, slots := 0, locals := 22 }
def f_X8_lot_33 (h : oh_H) (o : Nat) : Option (Int32 × oh_H) :=
  some ((-1 : Int32), h)
def f_X8_lot (h : oh_H) (o : Nat) (v1 : Int32) (v2 : Int32) : Option (Int32 × oh_H) :=
  (f_X8_in h v1 (0 : Int32) (4 : Int32)).bind fun p1 => if p1 = 0 then (f_X8_lot_33 h o) else ((oh_gI h (some o) 516).bind fun x3 => (f_X8_in h v2 (0 : Int32) (x3 - (1 : Int32))).bind fun p4 => if p4 = 0 then (f_X8_lot_33 h o) else ((oh_gI h (some o) 519).bind fun x6 => if x6 = (200 : Int32) then (f_X8_lot_33 h o) else ((oh_gR h (some o) 520).bind fun x7 => (oh_gI h (some o) 519).bind fun x8 => (oh_tI h x7 20 x8 v1).bind fun h9 => (oh_gR h9 (some o) 521).bind fun x10 => (oh_gI h9 (some o) 519).bind fun x11 => (oh_tI h9 x10 20 x11 v2).bind fun h12 => (oh_gR h12 (some o) 522).bind fun x13 => (oh_gI h12 (some o) 519).bind fun x14 => oh_rc h12 (some o) 9 fun o16 => (f_X8_today h12 o16).bind fun p17 => (oh_tI h12 x13 20 x14 p17).bind fun h19 => (oh_gR h19 (some o) 529).bind fun x20 => (oh_gI h19 (some o) 519).bind fun x21 => (oh_tI h19 x20 20 x21 (-1 : Int32)).bind fun h22 => (oh_gI h22 (some o) 519).bind fun x23 => (oh_pI h22 (some o) 519 (x23 + (1 : Int32))).bind fun h24 => (oh_gI h24 (some o) 519).bind fun x25 => some ((x25 - (1 : Int32)), h24))))
set_option maxHeartbeats 4000000 in
set_option maxRecDepth 100000 in
theorem w_X8_lot_33 {G : oh_G} {l : Launch} (C : oh_C G cX8_lot wsX8_lot RX8 rmX8_lot 3) (hl : G.1.2.1 = l) (h0 : oh_H) (h : oh_H) (o : Nat) : oh_J (oh_TW h0 xi 0 0 (some .int) G) (f_X8_lot_33 h o) (oh_V G 0 0 h 33 [] []) := by
  unfold f_X8_lot_33
  refine or_iconst C (v := (-1 : Int32)) dX8_lot_33 (by decide) ?_
  exact or_iret C ⟨Nat.le_of_ble_eq_true rfl, Nat.le_of_ble_eq_true rfl⟩ dX8_lot_34
set_option maxHeartbeats 4000000 in
set_option maxRecDepth 100000 in
theorem w_X8_lot_0 {G : oh_G} {l : Launch} (C : oh_C G cX8_lot wsX8_lot RX8 rmX8_lot 3) (hl : G.1.2.1 = l) (h0 : oh_H) (h : oh_H) (o : Nat) (v1 : Int32) (v2 : Int32) : oh_J (oh_TW h0 xi 0 0 (some .int) G) (f_X8_lot h o v1 v2) (oh_V G 0 0 h 0 [(0, xr (some o)), (1, xi v1), (2, xi v2)] []) := by
  unfold f_X8_lot
  refine or_iload_n C 1 rfl dX8_lot_0 ?_
  refine or_iconst C (v := (0 : Int32)) dX8_lot_1 (by decide) ?_
  refine or_iconst C (v := (4 : Int32)) dX8_lot_2 (by decide) ?_
  refine oj_bind (fun p1 z2 => ?_)
  refine oj_v (P := oh_V G 0 0 h 6 [(0, xr (some o)), (1, xi v1), (2, xi v2)] [xi p1]) (fun k => or_callS C 3 hl (m_X8_in _ h v1 (0 : Int32) (4 : Int32) p1 z2) gX8_lot_X8_in rfl rfl rfl (by decide +kernel) ⟨Nat.le_of_ble_eq_true rfl, Nat.le_of_ble_eq_true rfl⟩ (Nat.le_of_ble_eq_true rfl) dX8_lot_3 ⟨Nat.le_of_ble_eq_true rfl, Nat.le_of_ble_eq_true rfl⟩ rfl rfl k) ?_
  refine or_if_eq C 33 dX8_lot_6 (by decide) ?_ ?_
  · refine or_sub [] rfl ?_
    exact w_X8_lot_33 C hl h0 h o
  · refine or_iload_n C 2 rfl dX8_lot_9 ?_
    refine or_iconst C (v := (0 : Int32)) dX8_lot_10 (by decide) ?_
    refine or_aload_n C 0 rfl dX8_lot_11 ?_
    refine or_getI C 8 4 rfl (by decide) rfl (by decide) u_X8_lot_8 (by decide) k_X8_lot_f140 (by decide +kernel) dX8_lot_12 (fun x3 => ?_)
    refine or_iconst C (v := (1 : Int32)) dX8_lot_15 (by decide) ?_
    refine or_isub C dX8_lot_16 ?_
    refine oj_bind (fun p4 z5 => ?_)
    refine oj_v (P := oh_V G 0 0 h 20 [(0, xr (some o)), (1, xi v1), (2, xi v2)] [xi p4]) (fun k => or_callS C 3 hl (m_X8_in _ h v2 (0 : Int32) (x3 - (1 : Int32)) p4 z5) gX8_lot_X8_in rfl rfl rfl (by decide +kernel) ⟨Nat.le_of_ble_eq_true rfl, Nat.le_of_ble_eq_true rfl⟩ (Nat.le_of_ble_eq_true rfl) dX8_lot_17 ⟨Nat.le_of_ble_eq_true rfl, Nat.le_of_ble_eq_true rfl⟩ rfl rfl k) ?_
    refine or_if_eq C 33 dX8_lot_20 (by decide) ?_ ?_
    · refine or_sub [] rfl ?_
      exact w_X8_lot_33 C hl h0 h o
    · refine or_aload_n C 0 rfl dX8_lot_23 ?_
      refine or_getI C 8 7 rfl (by decide) rfl (by decide) u_X8_lot_8 (by decide) k_X8_lot_f130 (by decide +kernel) dX8_lot_24 (fun x6 => ?_)
      refine or_sipush C (v := (200 : Int32)) dX8_lot_27 (by decide) ?_
      refine or_icmp_ne C 35 dX8_lot_30 (by decide) ?_ ?_
      · refine or_sub [] rfl ?_
        exact w_X8_lot_33 C hl h0 h o
      · refine or_aload_n C 0 rfl dX8_lot_35 ?_
        refine or_getR C 8 8 rfl (by decide) rfl (by decide) u_X8_lot_8 (by decide) k_X8_lot_f26 (by decide +kernel) dX8_lot_36 (fun x7 => ?_)
        refine or_aload_n C 0 rfl dX8_lot_39 ?_
        refine or_getI C 8 7 rfl (by decide) rfl (by decide) u_X8_lot_8 (by decide) k_X8_lot_f130 (by decide +kernel) dX8_lot_40 (fun x8 => ?_)
        refine or_iload_n C 1 rfl dX8_lot_43 ?_
        refine or_iast C dX8_lot_44 (fun h9 => ?_)
        refine or_aload_n C 0 rfl dX8_lot_45 ?_
        refine or_getR C 8 9 rfl (by decide) rfl (by decide) u_X8_lot_8 (by decide) k_X8_lot_f29 (by decide +kernel) dX8_lot_46 (fun x10 => ?_)
        refine or_aload_n C 0 rfl dX8_lot_49 ?_
        refine or_getI C 8 7 rfl (by decide) rfl (by decide) u_X8_lot_8 (by decide) k_X8_lot_f130 (by decide +kernel) dX8_lot_50 (fun x11 => ?_)
        refine or_iload_n C 2 rfl dX8_lot_53 ?_
        refine or_iast C dX8_lot_54 (fun h12 => ?_)
        refine or_aload_n C 0 rfl dX8_lot_55 ?_
        refine or_getR C 8 10 rfl (by decide) rfl (by decide) u_X8_lot_8 (by decide) k_X8_lot_f32 (by decide +kernel) dX8_lot_56 (fun x13 => ?_)
        refine or_aload_n C 0 rfl dX8_lot_59 ?_
        refine or_getI C 8 7 rfl (by decide) rfl (by decide) u_X8_lot_8 (by decide) k_X8_lot_f130 (by decide +kernel) dX8_lot_60 (fun x14 => ?_)
        refine or_aload_n C 0 rfl dX8_lot_63 ?_
        refine oj_rcs (fun q15 => ?_)
        refine oj_bind (fun p17 z18 => ?_)
        refine oj_v (P := oh_V G 0 0 h12 67 [(0, xr (some o)), (1, xi v1), (2, xi v2)] [xi p17, xi x14, xr x13]) (fun k => or_callV C 0 hl (m_X8_today _ h12 o p17 z18) gX8_lot_X8_today rfl rfl rfl (by decide +kernel) ⟨Nat.le_of_ble_eq_true rfl, Nat.le_of_ble_eq_true rfl⟩ q15 rfl (by decide) (Nat.le_of_ble_eq_true rfl) dX8_lot_64 ⟨Nat.le_of_ble_eq_true rfl, Nat.le_of_ble_eq_true rfl⟩ rfl rfl k) ?_
        refine or_iast C dX8_lot_67 (fun h19 => ?_)
        refine or_aload_n C 0 rfl dX8_lot_68 ?_
        refine or_getR C 8 17 rfl (by decide) rfl (by decide) u_X8_lot_8 (by decide) k_X8_lot_f53 (by decide +kernel) dX8_lot_69 (fun x20 => ?_)
        refine or_aload_n C 0 rfl dX8_lot_72 ?_
        refine or_getI C 8 7 rfl (by decide) rfl (by decide) u_X8_lot_8 (by decide) k_X8_lot_f130 (by decide +kernel) dX8_lot_73 (fun x21 => ?_)
        refine or_iconst C (v := (-1 : Int32)) dX8_lot_76 (by decide) ?_
        refine or_iast C dX8_lot_77 (fun h22 => ?_)
        refine or_aload_n C 0 rfl dX8_lot_78 ?_
        refine or_dup C rfl dX8_lot_79 ?_
        refine or_getI C 8 7 rfl (by decide) rfl (by decide) u_X8_lot_8 (by decide) k_X8_lot_f130 (by decide +kernel) dX8_lot_80 (fun x23 => ?_)
        refine or_iconst C (v := (1 : Int32)) dX8_lot_83 (by decide) ?_
        refine or_iadd C dX8_lot_84 ?_
        refine or_putI C 8 7 rfl (by decide) rfl (by decide) u_X8_lot_8 tyX8 tyX8_ok nmX8 (by decide) k_X8_lot_f130 (Or.inl rfl) (by decide +kernel) rfl dX8_lot_85 (fun h24 => ?_)
        refine or_aload_n C 0 rfl dX8_lot_88 ?_
        refine or_getI C 8 7 rfl (by decide) rfl (by decide) u_X8_lot_8 (by decide) k_X8_lot_f130 (by decide +kernel) dX8_lot_89 (fun x25 => ?_)
        refine or_iconst C (v := (1 : Int32)) dX8_lot_92 (by decide) ?_
        refine or_isub C dX8_lot_93 ?_
        exact or_iret C ⟨Nat.le_of_ble_eq_true rfl, Nat.le_of_ble_eq_true rfl⟩ dX8_lot_94
theorem m_X8_lot (l : Launch) (h : oh_H) (o : Nat) (v1 : Int32) (v2 : Int32) (p : Int32 × oh_H) (hf : f_X8_lot h o v1 v2 = some p) : oh_M l yX8_lot wsX8_lot rmX8_lot 0 0 [xr (some o), xi v1, xi v2] h (some (xi p.1)) p.2 :=
  oh_met (cc := cX8_lot) (maxL := 3) (ret := (some .int)) (by decide) rfl (Nat.le_of_ble_eq_true rfl) (fun G C hl hN E => w_X8_lot_0 C hl h h o v1 v2 p hf E)
/-! X8_wish -/
theorem k_X8_wish_f26 : Cond.fieldLink RX8 26 "OilPressModel" "kind" "[I" ∈ wsX8_wish := List.mem_of_getElem? (i := 1) (by decide +kernel)
theorem u_X8_wish_8 : ∀ w ∈ u_ws RX8 TX8 54, w ∈ wsX8_wish := fun w h => List.mem_cons_of_mem _ (List.mem_append_right _ (h))
theorem k_X8_wish_f35 : Cond.fieldLink RX8 35 "OilPressModel" "state" "[I" ∈ wsX8_wish := List.mem_of_getElem? (i := 2) (by decide +kernel)
theorem k_X8_wish_f56 : Cond.fieldLink RX8 56 "OilPressModel" "wishes" "[Z" ∈ wsX8_wish := List.mem_of_getElem? (i := 3) (by decide +kernel)
abbrev rmX8_wish : Room := { frames := 2, cells := 0, slots := 0, locals := 43 }
def f_X8_wish_28 (h : oh_H) (o : Nat) : Option (Int32 × oh_H) :=
  oh_bz (0 : Int32) (some ((0 : Int32), h))
def f_X8_wish (h : oh_H) (o : Nat) (v1 : Int32) (v2 : Int32) : Option (Int32 × oh_H) :=
  oh_rc h (some o) 9 fun o2 => (f_X8_isLot h o2 v1).bind fun p3 => if p3 = 0 then (f_X8_wish_28 h o) else ((oh_gR h (some o) 520).bind fun x5 => (oh_aI h x5 20 v1).bind fun x6 => if x6 = (4 : Int32) then (f_X8_wish_28 h o) else ((oh_gR h (some o) 523).bind fun x7 => (oh_aI h x7 20 v1).bind fun x8 => if x8 ≤ (2 : Int32) then ((oh_gR h (some o) 530).bind fun x9 => oh_bz v2 ((oh_tI h x9 22 v1 v2).bind fun h10 => oh_bz (1 : Int32) (some ((1 : Int32), h10)))) else (f_X8_wish_28 h o)))
set_option maxHeartbeats 4000000 in
set_option maxRecDepth 100000 in
theorem w_X8_wish_28 {G : oh_G} {l : Launch} (C : oh_C G cX8_wish wsX8_wish RX8 rmX8_wish 3) (hl : G.1.2.1 = l) (h0 : oh_H) (h : oh_H) (o : Nat) : oh_J (oh_TW h0 xi 0 0 (some .boolean) G) (f_X8_wish_28 h o) (oh_V G 0 0 h 28 [] []) := by
  unfold f_X8_wish_28
  refine or_iconst C (v := (0 : Int32)) dX8_wish_28 (by decide) ?_
  exact or_zret C ⟨Nat.le_of_ble_eq_true rfl, Nat.le_of_ble_eq_true rfl⟩ dX8_wish_29
set_option maxHeartbeats 4000000 in
set_option maxRecDepth 100000 in
theorem w_X8_wish_0 {G : oh_G} {l : Launch} (C : oh_C G cX8_wish wsX8_wish RX8 rmX8_wish 3) (hl : G.1.2.1 = l) (h0 : oh_H) (h : oh_H) (o : Nat) (v1 : Int32) (v2 : Int32) : oh_J (oh_TW h0 xi 0 0 (some .boolean) G) (f_X8_wish h o v1 v2) (oh_V G 0 0 h 0 [(0, xr (some o)), (1, xi v1), (2, xi v2)] []) := by
  unfold f_X8_wish
  refine or_aload_n C 0 rfl dX8_wish_0 ?_
  refine or_iload_n C 1 rfl dX8_wish_1 ?_
  refine oj_rcs (fun q1 => ?_)
  refine oj_bind (fun p3 z4 => ?_)
  refine oj_v (P := oh_V G 0 0 h 5 [(0, xr (some o)), (1, xi v1), (2, xi v2)] [xi p3]) (fun k => or_callV C 1 hl (m_X8_isLot _ h o v1 p3 z4) gX8_wish_X8_isLot rfl rfl rfl (by decide +kernel) ⟨Nat.le_of_ble_eq_true rfl, Nat.le_of_ble_eq_true rfl⟩ q1 rfl (by decide) (Nat.le_of_ble_eq_true rfl) dX8_wish_2 ⟨Nat.le_of_ble_eq_true rfl, Nat.le_of_ble_eq_true rfl⟩ rfl rfl k) ?_
  refine or_if_eq C 28 dX8_wish_5 (by decide) ?_ ?_
  · refine or_sub [] rfl ?_
    exact w_X8_wish_28 C hl h0 h o
  · refine or_aload_n C 0 rfl dX8_wish_8 ?_
    refine or_getR C 8 8 rfl (by decide) rfl (by decide) u_X8_wish_8 (by decide) k_X8_wish_f26 (by decide +kernel) dX8_wish_9 (fun x5 => ?_)
    refine or_iload_n C 1 rfl dX8_wish_12 ?_
    refine or_iald C dX8_wish_13 (fun x6 => ?_)
    refine or_iconst C (v := (4 : Int32)) dX8_wish_14 (by decide) ?_
    refine or_icmp_eq C 28 dX8_wish_15 (by decide) ?_ ?_
    · refine or_sub [] rfl ?_
      exact w_X8_wish_28 C hl h0 h o
    · refine or_aload_n C 0 rfl dX8_wish_18 ?_
      refine or_getR C 8 11 rfl (by decide) rfl (by decide) u_X8_wish_8 (by decide) k_X8_wish_f35 (by decide +kernel) dX8_wish_19 (fun x7 => ?_)
      refine or_iload_n C 1 rfl dX8_wish_22 ?_
      refine or_iald C dX8_wish_23 (fun x8 => ?_)
      refine or_iconst C (v := (2 : Int32)) dX8_wish_24 (by decide) ?_
      refine or_icmp_le C 30 dX8_wish_25 (by decide) ?_ ?_
      · refine or_aload_n C 0 rfl dX8_wish_30 ?_
        refine or_getR C 8 18 rfl (by decide) rfl (by decide) u_X8_wish_8 (by decide) k_X8_wish_f56 (by decide +kernel) dX8_wish_31 (fun x9 => ?_)
        refine or_iload_n C 1 rfl dX8_wish_34 ?_
        refine or_iload_n C 2 rfl dX8_wish_35 ?_
        refine or_zast C dX8_wish_36 (fun h10 => ?_)
        refine or_iconst C (v := (1 : Int32)) dX8_wish_37 (by decide) ?_
        exact or_zret C ⟨Nat.le_of_ble_eq_true rfl, Nat.le_of_ble_eq_true rfl⟩ dX8_wish_38
      · refine or_sub [] rfl ?_
        exact w_X8_wish_28 C hl h0 h o
theorem m_X8_wish (l : Launch) (h : oh_H) (o : Nat) (v1 : Int32) (v2 : Int32) (p : Int32 × oh_H) (hf : f_X8_wish h o v1 v2 = some p) : oh_M l yX8_wish wsX8_wish rmX8_wish 0 0 [xr (some o), xi v1, xi v2] h (some (xi p.1)) p.2 :=
  oh_met (cc := cX8_wish) (maxL := 3) (ret := (some .boolean)) (by decide) rfl (Nat.le_of_ble_eq_true rfl) (fun G C hl hN E => w_X8_wish_0 C hl h h o v1 v2 p hf E)
/-! X8_scale -/
theorem k_X8_scale_f16 : Cond.fieldLink RX8 16 "OilPressModel" "places" "I" ∈ wsX8_scale := List.mem_of_getElem? (i := 1) (by decide +kernel)
theorem u_X8_scale_8 : ∀ w ∈ u_ws RX8 TX8 54, w ∈ wsX8_scale := fun w h => List.mem_cons_of_mem _ (List.mem_append_right _ (h))
abbrev rmX8_scale : Room := { frames := 1, cells := 0, slots := 0, locals := 22 }
def f_X8_scale (h : oh_H) (o : Nat) (v1 : Int32) : Option (Int32 × oh_H) :=
  (f_X8_in h v1 (0 : Int32) (30 : Int32)).bind fun p1 => if p1 = 0 then (oh_bz (0 : Int32) (some ((0 : Int32), h))) else ((oh_pI h (some o) 515 v1).bind fun h3 => oh_bz (1 : Int32) (some ((1 : Int32), h3)))
set_option maxHeartbeats 4000000 in
set_option maxRecDepth 100000 in
theorem w_X8_scale_0 {G : oh_G} {l : Launch} (C : oh_C G cX8_scale wsX8_scale RX8 rmX8_scale 2) (hl : G.1.2.1 = l) (h0 : oh_H) (h : oh_H) (o : Nat) (v1 : Int32) : oh_J (oh_TW h0 xi 0 0 (some .boolean) G) (f_X8_scale h o v1) (oh_V G 0 0 h 0 [(0, xr (some o)), (1, xi v1)] []) := by
  unfold f_X8_scale
  refine or_iload_n C 1 rfl dX8_scale_0 ?_
  refine or_iconst C (v := (0 : Int32)) dX8_scale_1 (by decide) ?_
  refine or_bipush C (v := (30 : Int32)) dX8_scale_2 (by decide) ?_
  refine oj_bind (fun p1 z2 => ?_)
  refine oj_v (P := oh_V G 0 0 h 7 [(0, xr (some o)), (1, xi v1)] [xi p1]) (fun k => or_callS C 3 hl (m_X8_in _ h v1 (0 : Int32) (30 : Int32) p1 z2) gX8_scale_X8_in rfl rfl rfl (by decide +kernel) ⟨Nat.le_of_ble_eq_true rfl, Nat.le_of_ble_eq_true rfl⟩ (Nat.le_of_ble_eq_true rfl) dX8_scale_4 ⟨Nat.le_of_ble_eq_true rfl, Nat.le_of_ble_eq_true rfl⟩ rfl rfl k) ?_
  refine or_if_ne C 12 dX8_scale_7 (by decide) ?_ ?_
  · refine or_iconst C (v := (0 : Int32)) dX8_scale_10 (by decide) ?_
    exact or_zret C ⟨Nat.le_of_ble_eq_true rfl, Nat.le_of_ble_eq_true rfl⟩ dX8_scale_11
  · refine or_aload_n C 0 rfl dX8_scale_12 ?_
    refine or_iload_n C 1 rfl dX8_scale_13 ?_
    refine or_putI C 8 3 rfl (by decide) rfl (by decide) u_X8_scale_8 tyX8 tyX8_ok nmX8 (by decide) k_X8_scale_f16 (Or.inl rfl) (by decide +kernel) rfl dX8_scale_14 (fun h3 => ?_)
    refine or_iconst C (v := (1 : Int32)) dX8_scale_17 (by decide) ?_
    exact or_zret C ⟨Nat.le_of_ble_eq_true rfl, Nat.le_of_ble_eq_true rfl⟩ dX8_scale_18
theorem m_X8_scale (l : Launch) (h : oh_H) (o : Nat) (v1 : Int32) (p : Int32 × oh_H) (hf : f_X8_scale h o v1 = some p) : oh_M l yX8_scale wsX8_scale rmX8_scale 0 0 [xr (some o), xi v1] h (some (xi p.1)) p.2 :=
  oh_met (cc := cX8_scale) (maxL := 2) (ret := (some .boolean)) (by decide) rfl (Nat.le_of_ble_eq_true rfl) (fun G C hl hN E => w_X8_scale_0 C hl h h o v1 p hf E)
/-! X8_weigh -/
theorem k_X8_weigh_f38 : Cond.fieldLink RX8 38 "OilPressModel" "tenths" "[I" ∈ wsX8_weigh := List.mem_of_getElem? (i := 4) (by decide +kernel)
theorem u_X8_weigh_8 : ∀ w ∈ u_ws RX8 TX8 54, w ∈ wsX8_weigh := fun w h => List.mem_cons_of_mem _ (List.mem_append_right _ (h))
theorem k_X8_weigh_f35 : Cond.fieldLink RX8 35 "OilPressModel" "state" "[I" ∈ wsX8_weigh := List.mem_of_getElem? (i := 1) (by decide +kernel)
theorem k_X8_weigh_f16 : Cond.fieldLink RX8 16 "OilPressModel" "places" "I" ∈ wsX8_weigh := List.mem_of_getElem? (i := 3) (by decide +kernel)
theorem k_X8_weigh_c151 : Cond.constant RX8 151 (80000) ∈ wsX8_weigh := List.mem_of_getElem? (i := 2) (by decide +kernel)
abbrev rmX8_weigh : Room := { frames := 2, cells := 0, slots := 0, locals := 43 }
def f_X8_weigh_32 (h : oh_H) (o : Nat) : Option (Int32 × oh_H) :=
  some ((-1 : Int32), h)
def f_X8_weigh_70 (h : oh_H) (o : Nat) (v1 : Int32) (s0 : Int32) : Option (Int32 × oh_H) :=
  oh_lt s0 fun x1 => if x1 = 0 then (some ((-3 : Int32), h)) else ((oh_gR h (some o) 524).bind fun x2 => (oh_tI h x2 20 v1 x1).bind fun h3 => (oh_gR h3 (some o) 523).bind fun x4 => (oh_tI h3 x4 20 v1 (1 : Int32)).bind fun h5 => some (x1, h5))
def f_X8_weigh_34 (h : oh_H) (o : Nat) (v1 : Int32) (v2 : Int32) : Option (Int32 × oh_H) :=
  (oh_gI h (some o) 515).bind fun x1 => if 0 < x1 then ((oh_gI h (some o) 515).bind fun x2 => (oh_pI h (some o) 515 (x2 - (1 : Int32))).bind fun h3 => if v2 = (-1 : Int32) then (f_X8_weigh_70 h3 o v1 (0 : Int32)) else (if (8 : Int32) = 0 then none else f_X8_weigh_70 h3 o v1 ((v2 * (10 : Int32)) / (8 : Int32)))) else (some ((-2 : Int32), h))
def f_X8_weigh (h : oh_H) (o : Nat) (v1 : Int32) (v2 : Int32) : Option (Int32 × oh_H) :=
  oh_rc h (some o) 9 fun o2 => (f_X8_isLot h o2 v1).bind fun p3 => if p3 = 0 then (f_X8_weigh_32 h o) else ((oh_gR h (some o) 523).bind fun x5 => (oh_aI h x5 20 v1).bind fun x6 => if x6 = 0 then (if v2 = (-1 : Int32) then (f_X8_weigh_34 h o v1 v2) else ((f_X8_in h v2 (1 : Int32) (80000 : Int32)).bind fun p7 => if p7 = 0 then (f_X8_weigh_32 h o) else (f_X8_weigh_34 h o v1 v2))) else (f_X8_weigh_32 h o))
set_option maxHeartbeats 4000000 in
set_option maxRecDepth 100000 in
theorem w_X8_weigh_32 {G : oh_G} {l : Launch} (C : oh_C G cX8_weigh wsX8_weigh RX8 rmX8_weigh 4) (hl : G.1.2.1 = l) (h0 : oh_H) (h : oh_H) (o : Nat) : oh_J (oh_TW h0 xi 0 0 (some .int) G) (f_X8_weigh_32 h o) (oh_V G 0 0 h 32 [] []) := by
  unfold f_X8_weigh_32
  refine or_iconst C (v := (-1 : Int32)) dX8_weigh_32 (by decide) ?_
  exact or_iret C ⟨Nat.le_of_ble_eq_true rfl, Nat.le_of_ble_eq_true rfl⟩ dX8_weigh_33
set_option maxHeartbeats 4000000 in
set_option maxRecDepth 100000 in
theorem w_X8_weigh_70 {G : oh_G} {l : Launch} (C : oh_C G cX8_weigh wsX8_weigh RX8 rmX8_weigh 4) (hl : G.1.2.1 = l) (h0 : oh_H) (h : oh_H) (o : Nat) (v1 : Int32) (s0 : Int32) : oh_J (oh_TW h0 xi 0 0 (some .int) G) (f_X8_weigh_70 h o v1 s0) (oh_V G 0 0 h 70 [(0, xr (some o)), (1, xi v1)] [xi s0]) := by
  unfold f_X8_weigh_70
  refine or_istore_n C (fun x1 => [(3, xi x1), (0, xr (some o)), (1, xi v1)]) (fun _ => rfl) (by decide) dX8_weigh_70 (fun x1 => ?_)
  refine or_iload_n C 0 rfl dX8_weigh_71 ?_
  refine or_if_ne C 78 dX8_weigh_72 (by decide) ?_ ?_
  · refine or_bipush C (v := (-3 : Int32)) dX8_weigh_75 (by decide) ?_
    exact or_iret C ⟨Nat.le_of_ble_eq_true rfl, Nat.le_of_ble_eq_true rfl⟩ dX8_weigh_77
  · refine or_aload_n C 1 rfl dX8_weigh_78 ?_
    refine or_getR C 8 12 rfl (by decide) rfl (by decide) u_X8_weigh_8 (by decide) k_X8_weigh_f38 (by decide +kernel) dX8_weigh_79 (fun x2 => ?_)
    refine or_iload_n C 2 rfl dX8_weigh_82 ?_
    refine or_iload_n C 0 rfl dX8_weigh_83 ?_
    refine or_iast C dX8_weigh_84 (fun h3 => ?_)
    refine or_aload_n C 1 rfl dX8_weigh_85 ?_
    refine or_getR C 8 11 rfl (by decide) rfl (by decide) u_X8_weigh_8 (by decide) k_X8_weigh_f35 (by decide +kernel) dX8_weigh_86 (fun x4 => ?_)
    refine or_iload_n C 2 rfl dX8_weigh_89 ?_
    refine or_iconst C (v := (1 : Int32)) dX8_weigh_90 (by decide) ?_
    refine or_iast C dX8_weigh_91 (fun h5 => ?_)
    refine or_iload_n C 0 rfl dX8_weigh_92 ?_
    exact or_iret C ⟨Nat.le_of_ble_eq_true rfl, Nat.le_of_ble_eq_true rfl⟩ dX8_weigh_93
set_option maxHeartbeats 4000000 in
set_option maxRecDepth 100000 in
theorem w_X8_weigh_34 {G : oh_G} {l : Launch} (C : oh_C G cX8_weigh wsX8_weigh RX8 rmX8_weigh 4) (hl : G.1.2.1 = l) (h0 : oh_H) (h : oh_H) (o : Nat) (v1 : Int32) (v2 : Int32) : oh_J (oh_TW h0 xi 0 0 (some .int) G) (f_X8_weigh_34 h o v1 v2) (oh_V G 0 0 h 34 [(0, xr (some o)), (1, xi v1), (2, xi v2)] []) := by
  unfold f_X8_weigh_34
  refine or_aload_n C 0 rfl dX8_weigh_34 ?_
  refine or_getI C 8 3 rfl (by decide) rfl (by decide) u_X8_weigh_8 (by decide) k_X8_weigh_f16 (by decide +kernel) dX8_weigh_35 (fun x1 => ?_)
  refine or_if_gt C 44 dX8_weigh_38 (by decide) ?_ ?_
  · refine or_aload_n C 0 rfl dX8_weigh_44 ?_
    refine or_dup C rfl dX8_weigh_45 ?_
    refine or_getI C 8 3 rfl (by decide) rfl (by decide) u_X8_weigh_8 (by decide) k_X8_weigh_f16 (by decide +kernel) dX8_weigh_46 (fun x2 => ?_)
    refine or_iconst C (v := (1 : Int32)) dX8_weigh_49 (by decide) ?_
    refine or_isub C dX8_weigh_50 ?_
    refine or_putI C 8 3 rfl (by decide) rfl (by decide) u_X8_weigh_8 tyX8 tyX8_ok nmX8 (by decide) k_X8_weigh_f16 (Or.inl rfl) (by decide +kernel) rfl dX8_weigh_51 (fun h3 => ?_)
    refine or_iload_n C 2 rfl dX8_weigh_54 ?_
    refine or_iconst C (v := (-1 : Int32)) dX8_weigh_55 (by decide) ?_
    refine or_icmp_ne C 63 dX8_weigh_56 (by decide) ?_ ?_
    · refine or_iconst C (v := (0 : Int32)) dX8_weigh_59 (by decide) ?_
      refine or_goto C 70 dX8_weigh_60 (by decide) ?_
      refine or_sub [0, 1] rfl ?_
      exact w_X8_weigh_70 C hl h0 h3 o v1 (0 : Int32)
    · refine or_iload_n C 2 rfl dX8_weigh_63 ?_
      refine or_bipush C (v := (10 : Int32)) dX8_weigh_64 (by decide) ?_
      refine or_imul C dX8_weigh_66 ?_
      refine or_bipush C (v := (8 : Int32)) dX8_weigh_67 (by decide) ?_
      refine or_idiv C dX8_weigh_69 ?_
      refine or_sub [0, 1] rfl ?_
      exact w_X8_weigh_70 C hl h0 h3 o v1 ((v2 * (10 : Int32)) / (8 : Int32))
  · refine or_bipush C (v := (-2 : Int32)) dX8_weigh_41 (by decide) ?_
    exact or_iret C ⟨Nat.le_of_ble_eq_true rfl, Nat.le_of_ble_eq_true rfl⟩ dX8_weigh_43
set_option maxHeartbeats 4000000 in
set_option maxRecDepth 100000 in
theorem w_X8_weigh_0 {G : oh_G} {l : Launch} (C : oh_C G cX8_weigh wsX8_weigh RX8 rmX8_weigh 4) (hl : G.1.2.1 = l) (h0 : oh_H) (h : oh_H) (o : Nat) (v1 : Int32) (v2 : Int32) : oh_J (oh_TW h0 xi 0 0 (some .int) G) (f_X8_weigh h o v1 v2) (oh_V G 0 0 h 0 [(0, xr (some o)), (1, xi v1), (2, xi v2)] []) := by
  unfold f_X8_weigh
  refine or_aload_n C 0 rfl dX8_weigh_0 ?_
  refine or_iload_n C 1 rfl dX8_weigh_1 ?_
  refine oj_rcs (fun q1 => ?_)
  refine oj_bind (fun p3 z4 => ?_)
  refine oj_v (P := oh_V G 0 0 h 5 [(0, xr (some o)), (1, xi v1), (2, xi v2)] [xi p3]) (fun k => or_callV C 1 hl (m_X8_isLot _ h o v1 p3 z4) gX8_weigh_X8_isLot rfl rfl rfl (by decide +kernel) ⟨Nat.le_of_ble_eq_true rfl, Nat.le_of_ble_eq_true rfl⟩ q1 rfl (by decide) (Nat.le_of_ble_eq_true rfl) dX8_weigh_2 ⟨Nat.le_of_ble_eq_true rfl, Nat.le_of_ble_eq_true rfl⟩ rfl rfl k) ?_
  refine or_if_eq C 32 dX8_weigh_5 (by decide) ?_ ?_
  · refine or_sub [] rfl ?_
    exact w_X8_weigh_32 C hl h0 h o
  · refine or_aload_n C 0 rfl dX8_weigh_8 ?_
    refine or_getR C 8 11 rfl (by decide) rfl (by decide) u_X8_weigh_8 (by decide) k_X8_weigh_f35 (by decide +kernel) dX8_weigh_9 (fun x5 => ?_)
    refine or_iload_n C 1 rfl dX8_weigh_12 ?_
    refine or_iald C dX8_weigh_13 (fun x6 => ?_)
    refine or_if_ne C 32 dX8_weigh_14 (by decide) ?_ ?_
    · refine or_iload_n C 2 rfl dX8_weigh_17 ?_
      refine or_iconst C (v := (-1 : Int32)) dX8_weigh_18 (by decide) ?_
      refine or_icmp_eq C 34 dX8_weigh_19 (by decide) ?_ ?_
      · refine or_sub [0, 1, 2] rfl ?_
        exact w_X8_weigh_34 C hl h0 h o v1 v2
      · refine or_iload_n C 2 rfl dX8_weigh_22 ?_
        refine or_iconst C (v := (1 : Int32)) dX8_weigh_23 (by decide) ?_
        refine or_ldc C (v := (80000 : Int32)) k_X8_weigh_c151 dX8_weigh_24 ?_
        refine oj_bind (fun p7 z8 => ?_)
        refine oj_v (P := oh_V G 0 0 h 29 [(0, xr (some o)), (1, xi v1), (2, xi v2)] [xi p7]) (fun k => or_callS C 3 hl (m_X8_in _ h v2 (1 : Int32) (80000 : Int32) p7 z8) gX8_weigh_X8_in rfl rfl rfl (by decide +kernel) ⟨Nat.le_of_ble_eq_true rfl, Nat.le_of_ble_eq_true rfl⟩ (Nat.le_of_ble_eq_true rfl) dX8_weigh_26 ⟨Nat.le_of_ble_eq_true rfl, Nat.le_of_ble_eq_true rfl⟩ rfl rfl k) ?_
        refine or_if_ne C 34 dX8_weigh_29 (by decide) ?_ ?_
        · refine or_sub [] rfl ?_
          exact w_X8_weigh_32 C hl h0 h o
        · refine or_sub [0, 1, 2] rfl ?_
          exact w_X8_weigh_34 C hl h0 h o v1 v2
    · refine or_sub [] rfl ?_
      exact w_X8_weigh_32 C hl h0 h o
theorem m_X8_weigh (l : Launch) (h : oh_H) (o : Nat) (v1 : Int32) (v2 : Int32) (p : Int32 × oh_H) (hf : f_X8_weigh h o v1 v2 = some p) : oh_M l yX8_weigh wsX8_weigh rmX8_weigh 0 0 [xr (some o), xi v1, xi v2] h (some (xi p.1)) p.2 :=
  oh_met (cc := cX8_weigh) (maxL := 4) (ret := (some .int)) (by decide) rfl (Nat.le_of_ble_eq_true rfl) (fun G C hl hN E => w_X8_weigh_0 C hl h h o v1 v2 p hf E)
/-! X8_sample -/
theorem k_X8_sample_f35 : Cond.fieldLink RX8 35 "OilPressModel" "state" "[I" ∈ wsX8_sample := List.mem_of_getElem? (i := 1) (by decide +kernel)
theorem u_X8_sample_8 : ∀ w ∈ u_ws RX8 TX8 54, w ∈ wsX8_sample := fun w h => List.mem_cons_of_mem _ (List.mem_append_right _ (h))
theorem k_X8_sample_f41 : Cond.fieldLink RX8 41 "OilPressModel" "thousandths" "[I" ∈ wsX8_sample := List.mem_of_getElem? (i := 2) (by decide +kernel)
theorem k_X8_sample_f44 : Cond.fieldLink RX8 44 "OilPressModel" "sour" "[I" ∈ wsX8_sample := List.mem_of_getElem? (i := 3) (by decide +kernel)
abbrev rmX8_sample : Room := { frames := 2, cells := 0, slots := 0, locals := 43 }
def f_X8_sample_40 (h : oh_H) (o : Nat) : Option (Int32 × oh_H) :=
  oh_bz (0 : Int32) (some ((0 : Int32), h))
def f_X8_sample (h : oh_H) (o : Nat) (v1 : Int32) (v2 : Int32) (v3 : Int32) : Option (Int32 × oh_H) :=
  oh_rc h (some o) 9 fun o2 => (f_X8_isLot h o2 v1).bind fun p3 => if p3 = 0 then (f_X8_sample_40 h o) else ((oh_gR h (some o) 523).bind fun x5 => (oh_aI h x5 20 v1).bind fun x6 => if x6 = (1 : Int32) then ((f_X8_in h v2 (1 : Int32) (400 : Int32)).bind fun p7 => if p7 = 0 then (f_X8_sample_40 h o) else ((f_X8_in h v3 (0 : Int32) (999 : Int32)).bind fun p9 => if p9 = 0 then (f_X8_sample_40 h o) else ((oh_gR h (some o) 525).bind fun x11 => (oh_tI h x11 20 v1 v2).bind fun h12 => (oh_gR h12 (some o) 526).bind fun x13 => (oh_tI h12 x13 20 v1 v3).bind fun h14 => (oh_gR h14 (some o) 523).bind fun x15 => (oh_tI h14 x15 20 v1 (2 : Int32)).bind fun h16 => oh_bz (1 : Int32) (some ((1 : Int32), h16))))) else (f_X8_sample_40 h o))
set_option maxHeartbeats 4000000 in
set_option maxRecDepth 100000 in
theorem w_X8_sample_40 {G : oh_G} {l : Launch} (C : oh_C G cX8_sample wsX8_sample RX8 rmX8_sample 4) (hl : G.1.2.1 = l) (h0 : oh_H) (h : oh_H) (o : Nat) : oh_J (oh_TW h0 xi 0 0 (some .boolean) G) (f_X8_sample_40 h o) (oh_V G 0 0 h 40 [] []) := by
  unfold f_X8_sample_40
  refine or_iconst C (v := (0 : Int32)) dX8_sample_40 (by decide) ?_
  exact or_zret C ⟨Nat.le_of_ble_eq_true rfl, Nat.le_of_ble_eq_true rfl⟩ dX8_sample_41
set_option maxHeartbeats 4000000 in
set_option maxRecDepth 100000 in
theorem w_X8_sample_0 {G : oh_G} {l : Launch} (C : oh_C G cX8_sample wsX8_sample RX8 rmX8_sample 4) (hl : G.1.2.1 = l) (h0 : oh_H) (h : oh_H) (o : Nat) (v1 : Int32) (v2 : Int32) (v3 : Int32) : oh_J (oh_TW h0 xi 0 0 (some .boolean) G) (f_X8_sample h o v1 v2 v3) (oh_V G 0 0 h 0 [(0, xr (some o)), (1, xi v1), (2, xi v2), (3, xi v3)] []) := by
  unfold f_X8_sample
  refine or_aload_n C 0 rfl dX8_sample_0 ?_
  refine or_iload_n C 1 rfl dX8_sample_1 ?_
  refine oj_rcs (fun q1 => ?_)
  refine oj_bind (fun p3 z4 => ?_)
  refine oj_v (P := oh_V G 0 0 h 5 [(0, xr (some o)), (1, xi v1), (2, xi v2), (3, xi v3)] [xi p3]) (fun k => or_callV C 1 hl (m_X8_isLot _ h o v1 p3 z4) gX8_sample_X8_isLot rfl rfl rfl (by decide +kernel) ⟨Nat.le_of_ble_eq_true rfl, Nat.le_of_ble_eq_true rfl⟩ q1 rfl (by decide) (Nat.le_of_ble_eq_true rfl) dX8_sample_2 ⟨Nat.le_of_ble_eq_true rfl, Nat.le_of_ble_eq_true rfl⟩ rfl rfl k) ?_
  refine or_if_eq C 40 dX8_sample_5 (by decide) ?_ ?_
  · refine or_sub [] rfl ?_
    exact w_X8_sample_40 C hl h0 h o
  · refine or_aload_n C 0 rfl dX8_sample_8 ?_
    refine or_getR C 8 11 rfl (by decide) rfl (by decide) u_X8_sample_8 (by decide) k_X8_sample_f35 (by decide +kernel) dX8_sample_9 (fun x5 => ?_)
    refine or_iload_n C 1 rfl dX8_sample_12 ?_
    refine or_iald C dX8_sample_13 (fun x6 => ?_)
    refine or_iconst C (v := (1 : Int32)) dX8_sample_14 (by decide) ?_
    refine or_icmp_ne C 40 dX8_sample_15 (by decide) ?_ ?_
    · refine or_iload_n C 2 rfl dX8_sample_18 ?_
      refine or_iconst C (v := (1 : Int32)) dX8_sample_19 (by decide) ?_
      refine or_sipush C (v := (400 : Int32)) dX8_sample_20 (by decide) ?_
      refine oj_bind (fun p7 z8 => ?_)
      refine oj_v (P := oh_V G 0 0 h 26 [(0, xr (some o)), (1, xi v1), (2, xi v2), (3, xi v3)] [xi p7]) (fun k => or_callS C 3 hl (m_X8_in _ h v2 (1 : Int32) (400 : Int32) p7 z8) gX8_sample_X8_in rfl rfl rfl (by decide +kernel) ⟨Nat.le_of_ble_eq_true rfl, Nat.le_of_ble_eq_true rfl⟩ (Nat.le_of_ble_eq_true rfl) dX8_sample_23 ⟨Nat.le_of_ble_eq_true rfl, Nat.le_of_ble_eq_true rfl⟩ rfl rfl k) ?_
      refine or_if_eq C 40 dX8_sample_26 (by decide) ?_ ?_
      · refine or_sub [] rfl ?_
        exact w_X8_sample_40 C hl h0 h o
      · refine or_iload_n C 3 rfl dX8_sample_29 ?_
        refine or_iconst C (v := (0 : Int32)) dX8_sample_30 (by decide) ?_
        refine or_sipush C (v := (999 : Int32)) dX8_sample_31 (by decide) ?_
        refine oj_bind (fun p9 z10 => ?_)
        refine oj_v (P := oh_V G 0 0 h 37 [(0, xr (some o)), (1, xi v1), (2, xi v2), (3, xi v3)] [xi p9]) (fun k => or_callS C 3 hl (m_X8_in _ h v3 (0 : Int32) (999 : Int32) p9 z10) gX8_sample_X8_in rfl rfl rfl (by decide +kernel) ⟨Nat.le_of_ble_eq_true rfl, Nat.le_of_ble_eq_true rfl⟩ (Nat.le_of_ble_eq_true rfl) dX8_sample_34 ⟨Nat.le_of_ble_eq_true rfl, Nat.le_of_ble_eq_true rfl⟩ rfl rfl k) ?_
        refine or_if_ne C 42 dX8_sample_37 (by decide) ?_ ?_
        · refine or_sub [] rfl ?_
          exact w_X8_sample_40 C hl h0 h o
        · refine or_aload_n C 0 rfl dX8_sample_42 ?_
          refine or_getR C 8 13 rfl (by decide) rfl (by decide) u_X8_sample_8 (by decide) k_X8_sample_f41 (by decide +kernel) dX8_sample_43 (fun x11 => ?_)
          refine or_iload_n C 1 rfl dX8_sample_46 ?_
          refine or_iload_n C 2 rfl dX8_sample_47 ?_
          refine or_iast C dX8_sample_48 (fun h12 => ?_)
          refine or_aload_n C 0 rfl dX8_sample_49 ?_
          refine or_getR C 8 14 rfl (by decide) rfl (by decide) u_X8_sample_8 (by decide) k_X8_sample_f44 (by decide +kernel) dX8_sample_50 (fun x13 => ?_)
          refine or_iload_n C 1 rfl dX8_sample_53 ?_
          refine or_iload_n C 3 rfl dX8_sample_54 ?_
          refine or_iast C dX8_sample_55 (fun h14 => ?_)
          refine or_aload_n C 0 rfl dX8_sample_56 ?_
          refine or_getR C 8 11 rfl (by decide) rfl (by decide) u_X8_sample_8 (by decide) k_X8_sample_f35 (by decide +kernel) dX8_sample_57 (fun x15 => ?_)
          refine or_iload_n C 1 rfl dX8_sample_60 ?_
          refine or_iconst C (v := (2 : Int32)) dX8_sample_61 (by decide) ?_
          refine or_iast C dX8_sample_62 (fun h16 => ?_)
          refine or_iconst C (v := (1 : Int32)) dX8_sample_63 (by decide) ?_
          exact or_zret C ⟨Nat.le_of_ble_eq_true rfl, Nat.le_of_ble_eq_true rfl⟩ dX8_sample_64
    · refine or_sub [] rfl ?_
      exact w_X8_sample_40 C hl h0 h o
theorem m_X8_sample (l : Launch) (h : oh_H) (o : Nat) (v1 : Int32) (v2 : Int32) (v3 : Int32) (p : Int32 × oh_H) (hf : f_X8_sample h o v1 v2 v3 = some p) : oh_M l yX8_sample wsX8_sample rmX8_sample 0 0 [xr (some o), xi v1, xi v2, xi v3] h (some (xi p.1)) p.2 :=
  oh_met (cc := cX8_sample) (maxL := 4) (ret := (some .boolean)) (by decide) rfl (Nat.le_of_ble_eq_true rfl) (fun G C hl hN E => w_X8_sample_0 C hl h h o v1 v2 v3 p hf E)
/-! X8_isWith -/
theorem k_X8_isWith_f26 : Cond.fieldLink RX8 26 "OilPressModel" "kind" "[I" ∈ wsX8_isWith := List.mem_of_getElem? (i := 1) (by decide +kernel)
theorem u_X8_isWith_8 : ∀ w ∈ u_ws RX8 TX8 54, w ∈ wsX8_isWith := fun w h => List.mem_cons_of_mem _ (List.mem_append_right _ (h))
theorem k_X8_isWith_f56 : Cond.fieldLink RX8 56 "OilPressModel" "wishes" "[Z" ∈ wsX8_isWith := List.mem_of_getElem? (i := 2) (by decide +kernel)
abbrev rmX8_isWith : Room := { frames := 0, cells := 0, slots := 0, locals := 0 }
def f_X8_isWith_44 (h : oh_H) (o : Nat) (s0 : Int32) : Option (Int32) :=
  oh_bz s0 (some s0)
def f_X8_isWith_39 (h : oh_H) (o : Nat) : Option (Int32) :=
  f_X8_isWith_44 h o (1 : Int32)
def f_X8_isWith (h : oh_H) (o : Nat) (v1 : Int32) : Option (Int32) :=
  (oh_gR h (some o) 520).bind fun x1 => (oh_aI h x1 20 v1).bind fun x2 => if x2 = (1 : Int32) then (f_X8_isWith_39 h o) else ((oh_gR h (some o) 520).bind fun x3 => (oh_aI h x3 20 v1).bind fun x4 => if x4 = (4 : Int32) then (f_X8_isWith_39 h o) else ((oh_gR h (some o) 520).bind fun x5 => (oh_aI h x5 20 v1).bind fun x6 => if x6 = (2 : Int32) then (f_X8_isWith_39 h o) else ((oh_gR h (some o) 530).bind fun x7 => (oh_aI h x7 22 v1).bind fun x8 => if x8 = 0 then (f_X8_isWith_44 h o (0 : Int32)) else (f_X8_isWith_39 h o))))
set_option maxHeartbeats 4000000 in
set_option maxRecDepth 100000 in
theorem w_X8_isWith_44 {G : oh_G} {l : Launch} (C : oh_C G cX8_isWith wsX8_isWith RX8 rmX8_isWith 2) (hl : G.1.2.1 = l) (h : oh_H) (o : Nat) (s0 : Int32) : oh_J (oh_TR h xi (some .boolean) G) (f_X8_isWith_44 h o s0) (oh_V G 0 0 h 44 [] [xi s0]) := by
  unfold f_X8_isWith_44
  exact or_zretR C dX8_isWith_44
set_option maxHeartbeats 4000000 in
set_option maxRecDepth 100000 in
theorem w_X8_isWith_39 {G : oh_G} {l : Launch} (C : oh_C G cX8_isWith wsX8_isWith RX8 rmX8_isWith 2) (hl : G.1.2.1 = l) (h : oh_H) (o : Nat) : oh_J (oh_TR h xi (some .boolean) G) (f_X8_isWith_39 h o) (oh_V G 0 0 h 39 [] []) := by
  unfold f_X8_isWith_39
  refine or_iconst C (v := (1 : Int32)) dX8_isWith_39 (by decide) ?_
  refine or_goto C 44 dX8_isWith_40 (by decide) ?_
  refine or_sub [] rfl ?_
  exact w_X8_isWith_44 C hl h o (1 : Int32)
set_option maxHeartbeats 4000000 in
set_option maxRecDepth 100000 in
theorem w_X8_isWith_0 {G : oh_G} {l : Launch} (C : oh_C G cX8_isWith wsX8_isWith RX8 rmX8_isWith 2) (hl : G.1.2.1 = l) (h : oh_H) (o : Nat) (v1 : Int32) : oh_J (oh_TR h xi (some .boolean) G) (f_X8_isWith h o v1) (oh_V G 0 0 h 0 [(0, xr (some o)), (1, xi v1)] []) := by
  unfold f_X8_isWith
  refine or_aload_n C 0 rfl dX8_isWith_0 ?_
  refine or_getR C 8 8 rfl (by decide) rfl (by decide) u_X8_isWith_8 (by decide) k_X8_isWith_f26 (by decide +kernel) dX8_isWith_1 (fun x1 => ?_)
  refine or_iload_n C 1 rfl dX8_isWith_4 ?_
  refine or_iald C dX8_isWith_5 (fun x2 => ?_)
  refine or_iconst C (v := (1 : Int32)) dX8_isWith_6 (by decide) ?_
  refine or_icmp_eq C 39 dX8_isWith_7 (by decide) ?_ ?_
  · refine or_sub [] rfl ?_
    exact w_X8_isWith_39 C hl h o
  · refine or_aload_n C 0 rfl dX8_isWith_10 ?_
    refine or_getR C 8 8 rfl (by decide) rfl (by decide) u_X8_isWith_8 (by decide) k_X8_isWith_f26 (by decide +kernel) dX8_isWith_11 (fun x3 => ?_)
    refine or_iload_n C 1 rfl dX8_isWith_14 ?_
    refine or_iald C dX8_isWith_15 (fun x4 => ?_)
    refine or_iconst C (v := (4 : Int32)) dX8_isWith_16 (by decide) ?_
    refine or_icmp_eq C 39 dX8_isWith_17 (by decide) ?_ ?_
    · refine or_sub [] rfl ?_
      exact w_X8_isWith_39 C hl h o
    · refine or_aload_n C 0 rfl dX8_isWith_20 ?_
      refine or_getR C 8 8 rfl (by decide) rfl (by decide) u_X8_isWith_8 (by decide) k_X8_isWith_f26 (by decide +kernel) dX8_isWith_21 (fun x5 => ?_)
      refine or_iload_n C 1 rfl dX8_isWith_24 ?_
      refine or_iald C dX8_isWith_25 (fun x6 => ?_)
      refine or_iconst C (v := (2 : Int32)) dX8_isWith_26 (by decide) ?_
      refine or_icmp_eq C 39 dX8_isWith_27 (by decide) ?_ ?_
      · refine or_sub [] rfl ?_
        exact w_X8_isWith_39 C hl h o
      · refine or_aload_n C 0 rfl dX8_isWith_30 ?_
        refine or_getR C 8 18 rfl (by decide) rfl (by decide) u_X8_isWith_8 (by decide) k_X8_isWith_f56 (by decide +kernel) dX8_isWith_31 (fun x7 => ?_)
        refine or_iload_n C 1 rfl dX8_isWith_34 ?_
        refine or_zald C dX8_isWith_35 (fun x8 => ?_)
        refine or_if_eq C 43 dX8_isWith_36 (by decide) ?_ ?_
        · refine or_iconst C (v := (0 : Int32)) dX8_isWith_43 (by decide) ?_
          refine or_sub [] rfl ?_
          exact w_X8_isWith_44 C hl h o (0 : Int32)
        · refine or_sub [] rfl ?_
          exact w_X8_isWith_39 C hl h o
theorem m_X8_isWith (l : Launch) (h : oh_H) (o : Nat) (v1 : Int32) (p : Int32) (hf : f_X8_isWith h o v1 = some p) : oh_M l yX8_isWith wsX8_isWith rmX8_isWith 0 0 [xr (some o), xi v1] h (some (xi p)) h :=
  oh_met (cc := cX8_isWith) (maxL := 2) (ret := (some .boolean)) (by decide) rfl (Nat.le_of_ble_eq_true rfl) (fun G C hl hN E => w_X8_isWith_0 C hl h o v1 p hf E)
/-! X8_told -/
theorem k_X8_told_f26 : Cond.fieldLink RX8 26 "OilPressModel" "kind" "[I" ∈ wsX8_told := List.mem_of_getElem? (i := 1) (by decide +kernel)
theorem u_X8_told_8 : ∀ w ∈ u_ws RX8 TX8 54, w ∈ wsX8_told := fun w h => List.mem_cons_of_mem _ (List.mem_append_right _ (h))
theorem k_X8_told_f29 : Cond.fieldLink RX8 29 "OilPressModel" "grove" "[I" ∈ wsX8_told := List.mem_of_getElem? (i := 2) (by decide +kernel)
theorem k_X8_told_f32 : Cond.fieldLink RX8 32 "OilPressModel" "came" "[I" ∈ wsX8_told := List.mem_of_getElem? (i := 3) (by decide +kernel)
theorem k_X8_told_f35 : Cond.fieldLink RX8 35 "OilPressModel" "state" "[I" ∈ wsX8_told := List.mem_of_getElem? (i := 4) (by decide +kernel)
theorem k_X8_told_f38 : Cond.fieldLink RX8 38 "OilPressModel" "tenths" "[I" ∈ wsX8_told := List.mem_of_getElem? (i := 5) (by decide +kernel)
theorem k_X8_told_f41 : Cond.fieldLink RX8 41 "OilPressModel" "thousandths" "[I" ∈ wsX8_told := List.mem_of_getElem? (i := 6) (by decide +kernel)
theorem k_X8_told_f44 : Cond.fieldLink RX8 44 "OilPressModel" "sour" "[I" ∈ wsX8_told := List.mem_of_getElem? (i := 7) (by decide +kernel)
theorem k_X8_told_f47 : Cond.fieldLink RX8 47 "OilPressModel" "shares" "[I" ∈ wsX8_told := List.mem_of_getElem? (i := 8) (by decide +kernel)
theorem k_X8_told_f50 : Cond.fieldLink RX8 50 "OilPressModel" "left" "[I" ∈ wsX8_told := List.mem_of_getElem? (i := 9) (by decide +kernel)
theorem k_X8_told_f53 : Cond.fieldLink RX8 53 "OilPressModel" "where" "[I" ∈ wsX8_told := List.mem_of_getElem? (i := 10) (by decide +kernel)
abbrev rmX8_told : Room := { frames := 2, cells := 0, slots := 0, locals := 43 }
def f_X8_told_151 (h : oh_H) (o : Nat) (s0 : Int32) : Option (Int32) :=
  some s0
def f_X8_told (h : oh_H) (o : Nat) (v1 : Int32) (v2 : Int32) : Option (Int32) :=
  oh_rc h (some o) 9 fun o2 => (f_X8_isLot h o2 v1).bind fun p3 => if p3 = 0 then (some (-1 : Int32)) else (if v2 = (0 : Int32) then ((oh_gR h (some o) 520).bind fun x5 => (oh_aI h x5 20 v1).bind fun x6 => some x6) else (if v2 = (1 : Int32) then ((oh_gR h (some o) 521).bind fun x7 => (oh_aI h x7 20 v1).bind fun x8 => some x8) else (if v2 = (2 : Int32) then ((oh_gR h (some o) 522).bind fun x9 => (oh_aI h x9 20 v1).bind fun x10 => some x10) else (if v2 = (3 : Int32) then ((oh_gR h (some o) 523).bind fun x11 => (oh_aI h x11 20 v1).bind fun x12 => some x12) else (if v2 = (4 : Int32) then ((oh_gR h (some o) 524).bind fun x13 => (oh_aI h x13 20 v1).bind fun x14 => some x14) else (if v2 = (5 : Int32) then ((oh_gR h (some o) 525).bind fun x15 => (oh_aI h x15 20 v1).bind fun x16 => some x16) else (if v2 = (6 : Int32) then ((oh_gR h (some o) 526).bind fun x17 => (oh_aI h x17 20 v1).bind fun x18 => some x18) else (if v2 = (7 : Int32) then ((oh_gR h (some o) 527).bind fun x19 => (oh_aI h x19 20 v1).bind fun x20 => some x20) else (if v2 = (8 : Int32) then ((oh_gR h (some o) 528).bind fun x21 => (oh_aI h x21 20 v1).bind fun x22 => some x22) else (if v2 = (9 : Int32) then ((oh_gR h (some o) 529).bind fun x23 => (oh_aI h x23 20 v1).bind fun x24 => some x24) else (if v2 = (10 : Int32) then (oh_rc h (some o) 9 fun o26 => (f_X8_isWith h o26 v1).bind fun p27 => if p27 = 0 then (f_X8_told_151 h o (0 : Int32)) else (f_X8_told_151 h o (1 : Int32))) else (some (-1 : Int32)))))))))))))
set_option maxHeartbeats 4000000 in
set_option maxRecDepth 100000 in
theorem w_X8_told_151 {G : oh_G} {l : Launch} (C : oh_C G cX8_told wsX8_told RX8 rmX8_told 3) (hl : G.1.2.1 = l) (h : oh_H) (o : Nat) (s0 : Int32) : oh_J (oh_TR h xi (some .int) G) (f_X8_told_151 h o s0) (oh_V G 0 0 h 151 [] [xi s0]) := by
  unfold f_X8_told_151
  exact or_iretR C dX8_told_151
set_option maxHeartbeats 4000000 in
set_option maxRecDepth 100000 in
theorem w_X8_told_0 {G : oh_G} {l : Launch} (C : oh_C G cX8_told wsX8_told RX8 rmX8_told 3) (hl : G.1.2.1 = l) (h : oh_H) (o : Nat) (v1 : Int32) (v2 : Int32) : oh_J (oh_TR h xi (some .int) G) (f_X8_told h o v1 v2) (oh_V G 0 0 h 0 [(0, xr (some o)), (1, xi v1), (2, xi v2)] []) := by
  unfold f_X8_told
  refine or_aload_n C 0 rfl dX8_told_0 ?_
  refine or_iload_n C 1 rfl dX8_told_1 ?_
  refine oj_rcs (fun q1 => ?_)
  refine oj_bind (fun p3 z4 => ?_)
  refine oj_v (P := oh_V G 0 0 h 5 [(0, xr (some o)), (1, xi v1), (2, xi v2)] [xi p3]) (fun k => or_callV C 1 hl (m_X8_isLot _ h o v1 p3 z4) gX8_told_X8_isLot rfl rfl rfl (by decide +kernel) ⟨Nat.le_of_ble_eq_true rfl, Nat.le_of_ble_eq_true rfl⟩ q1 rfl (by decide) (Nat.le_of_ble_eq_true rfl) dX8_told_2 ⟨Nat.le_of_ble_eq_true rfl, Nat.le_of_ble_eq_true rfl⟩ rfl rfl k) ?_
  refine or_if_ne C 10 dX8_told_5 (by decide) ?_ ?_
  · refine or_iconst C (v := (-1 : Int32)) dX8_told_8 (by decide) ?_
    exact or_iretR C dX8_told_9
  · refine or_iload_n C 2 rfl dX8_told_10 ?_
    refine or_case C (v := (0 : Int32)) 0 68 dX8_told_11 (by decide) (by decide) rfl (by decide) ?_ (fun n0 => ?_)
    · refine or_aload_n C 0 rfl dX8_told_68 ?_
      refine or_getR C 8 8 rfl (by decide) rfl (by decide) u_X8_told_8 (by decide) k_X8_told_f26 (by decide +kernel) dX8_told_69 (fun x5 => ?_)
      refine or_iload_n C 1 rfl dX8_told_72 ?_
      refine or_iald C dX8_told_73 (fun x6 => ?_)
      exact or_iretR C dX8_told_74
    refine or_case C (v := (1 : Int32)) 1 75 dX8_told_11 (by decide) (by decide) rfl (by decide) ?_ (fun n1 => ?_)
    · refine or_aload_n C 0 rfl dX8_told_75 ?_
      refine or_getR C 8 9 rfl (by decide) rfl (by decide) u_X8_told_8 (by decide) k_X8_told_f29 (by decide +kernel) dX8_told_76 (fun x7 => ?_)
      refine or_iload_n C 1 rfl dX8_told_79 ?_
      refine or_iald C dX8_told_80 (fun x8 => ?_)
      exact or_iretR C dX8_told_81
    refine or_case C (v := (2 : Int32)) 2 82 dX8_told_11 (by decide) (by decide) rfl (by decide) ?_ (fun n2 => ?_)
    · refine or_aload_n C 0 rfl dX8_told_82 ?_
      refine or_getR C 8 10 rfl (by decide) rfl (by decide) u_X8_told_8 (by decide) k_X8_told_f32 (by decide +kernel) dX8_told_83 (fun x9 => ?_)
      refine or_iload_n C 1 rfl dX8_told_86 ?_
      refine or_iald C dX8_told_87 (fun x10 => ?_)
      exact or_iretR C dX8_told_88
    refine or_case C (v := (3 : Int32)) 3 89 dX8_told_11 (by decide) (by decide) rfl (by decide) ?_ (fun n3 => ?_)
    · refine or_aload_n C 0 rfl dX8_told_89 ?_
      refine or_getR C 8 11 rfl (by decide) rfl (by decide) u_X8_told_8 (by decide) k_X8_told_f35 (by decide +kernel) dX8_told_90 (fun x11 => ?_)
      refine or_iload_n C 1 rfl dX8_told_93 ?_
      refine or_iald C dX8_told_94 (fun x12 => ?_)
      exact or_iretR C dX8_told_95
    refine or_case C (v := (4 : Int32)) 4 96 dX8_told_11 (by decide) (by decide) rfl (by decide) ?_ (fun n4 => ?_)
    · refine or_aload_n C 0 rfl dX8_told_96 ?_
      refine or_getR C 8 12 rfl (by decide) rfl (by decide) u_X8_told_8 (by decide) k_X8_told_f38 (by decide +kernel) dX8_told_97 (fun x13 => ?_)
      refine or_iload_n C 1 rfl dX8_told_100 ?_
      refine or_iald C dX8_told_101 (fun x14 => ?_)
      exact or_iretR C dX8_told_102
    refine or_case C (v := (5 : Int32)) 5 103 dX8_told_11 (by decide) (by decide) rfl (by decide) ?_ (fun n5 => ?_)
    · refine or_aload_n C 0 rfl dX8_told_103 ?_
      refine or_getR C 8 13 rfl (by decide) rfl (by decide) u_X8_told_8 (by decide) k_X8_told_f41 (by decide +kernel) dX8_told_104 (fun x15 => ?_)
      refine or_iload_n C 1 rfl dX8_told_107 ?_
      refine or_iald C dX8_told_108 (fun x16 => ?_)
      exact or_iretR C dX8_told_109
    refine or_case C (v := (6 : Int32)) 6 110 dX8_told_11 (by decide) (by decide) rfl (by decide) ?_ (fun n6 => ?_)
    · refine or_aload_n C 0 rfl dX8_told_110 ?_
      refine or_getR C 8 14 rfl (by decide) rfl (by decide) u_X8_told_8 (by decide) k_X8_told_f44 (by decide +kernel) dX8_told_111 (fun x17 => ?_)
      refine or_iload_n C 1 rfl dX8_told_114 ?_
      refine or_iald C dX8_told_115 (fun x18 => ?_)
      exact or_iretR C dX8_told_116
    refine or_case C (v := (7 : Int32)) 7 117 dX8_told_11 (by decide) (by decide) rfl (by decide) ?_ (fun n7 => ?_)
    · refine or_aload_n C 0 rfl dX8_told_117 ?_
      refine or_getR C 8 15 rfl (by decide) rfl (by decide) u_X8_told_8 (by decide) k_X8_told_f47 (by decide +kernel) dX8_told_118 (fun x19 => ?_)
      refine or_iload_n C 1 rfl dX8_told_121 ?_
      refine or_iald C dX8_told_122 (fun x20 => ?_)
      exact or_iretR C dX8_told_123
    refine or_case C (v := (8 : Int32)) 8 124 dX8_told_11 (by decide) (by decide) rfl (by decide) ?_ (fun n8 => ?_)
    · refine or_aload_n C 0 rfl dX8_told_124 ?_
      refine or_getR C 8 16 rfl (by decide) rfl (by decide) u_X8_told_8 (by decide) k_X8_told_f50 (by decide +kernel) dX8_told_125 (fun x21 => ?_)
      refine or_iload_n C 1 rfl dX8_told_128 ?_
      refine or_iald C dX8_told_129 (fun x22 => ?_)
      exact or_iretR C dX8_told_130
    refine or_case C (v := (9 : Int32)) 9 131 dX8_told_11 (by decide) (by decide) rfl (by decide) ?_ (fun n9 => ?_)
    · refine or_aload_n C 0 rfl dX8_told_131 ?_
      refine or_getR C 8 17 rfl (by decide) rfl (by decide) u_X8_told_8 (by decide) k_X8_told_f53 (by decide +kernel) dX8_told_132 (fun x23 => ?_)
      refine or_iload_n C 1 rfl dX8_told_135 ?_
      refine or_iald C dX8_told_136 (fun x24 => ?_)
      exact or_iretR C dX8_told_137
    refine or_case C (v := (10 : Int32)) 10 138 dX8_told_11 (by decide) (by decide) rfl (by decide) ?_ (fun n10 => ?_)
    · refine or_aload_n C 0 rfl dX8_told_138 ?_
      refine or_iload_n C 1 rfl dX8_told_139 ?_
      refine oj_rcs (fun q25 => ?_)
      refine oj_bind (fun p27 z28 => ?_)
      refine oj_v (P := oh_V G 0 0 h 143 [(0, xr (some o)), (1, xi v1), (2, xi v2)] [xi p27]) (fun k => or_callV C 1 hl (m_X8_isWith _ h o v1 p27 z28) gX8_told_X8_isWith rfl rfl rfl (by decide +kernel) ⟨Nat.le_of_ble_eq_true rfl, Nat.le_of_ble_eq_true rfl⟩ q25 rfl (by decide) (Nat.le_of_ble_eq_true rfl) dX8_told_140 ⟨Nat.le_of_ble_eq_true rfl, Nat.le_of_ble_eq_true rfl⟩ rfl rfl k) ?_
      refine or_if_eq C 150 dX8_told_143 (by decide) ?_ ?_
      · refine or_iconst C (v := (0 : Int32)) dX8_told_150 (by decide) ?_
        refine or_sub [] rfl ?_
        exact w_X8_told_151 C hl h o (0 : Int32)
      · refine or_iconst C (v := (1 : Int32)) dX8_told_146 (by decide) ?_
        refine or_goto C 151 dX8_told_147 (by decide) ?_
        refine or_sub [] rfl ?_
        exact w_X8_told_151 C hl h o (1 : Int32)
    refine or_dflt C 152 dX8_told_11 (by omega) (by decide) ?_
    refine or_iconst C (v := (-1 : Int32)) dX8_told_152 (by decide) ?_
    exact or_iretR C dX8_told_153
theorem m_X8_told (l : Launch) (h : oh_H) (o : Nat) (v1 : Int32) (v2 : Int32) (p : Int32) (hf : f_X8_told h o v1 v2 = some p) : oh_M l yX8_told wsX8_told rmX8_told 0 0 [xr (some o), xi v1, xi v2] h (some (xi p)) h :=
  oh_met (cc := cX8_told) (maxL := 3) (ret := (some .int)) (by decide) rfl (Nat.le_of_ble_eq_true rfl) (fun G C hl hN E => w_X8_told_0 C hl h o v1 v2 p hf E)
