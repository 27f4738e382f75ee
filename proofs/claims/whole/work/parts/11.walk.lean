/-! X3_isBusy -/
theorem k_X3_isBusy_f31 : Cond.fieldLink RX3 31 "OilPress$Mill" "busyTill" "I" ∈ wsX3_isBusy := List.mem_of_getElem? (i := 1) (by decide +kernel)
theorem u_X3_isBusy_3 : ∀ w ∈ u_ws RX3 TX3 14, w ∈ wsX3_isBusy := fun w h => List.mem_cons_of_mem _ (List.mem_append_right _ (h))
abbrev rmX3_isBusy : Room := { frames := 0, cells := 0, slots := 0, locals := 0 }
def f_X3_isBusy_13 (h : oh_H) (o : Nat) (s0 : Int32) : Option (Int32) :=
  oh_bz s0 (some s0)
def f_X3_isBusy (h : oh_H) (o : Nat) (v1 : Int32) : Option (Int32) :=
  (oh_gI h (some o) 198).bind fun x1 => if x1 ≤ v1 then (f_X3_isBusy_13 h o (0 : Int32)) else (f_X3_isBusy_13 h o (1 : Int32))
set_option maxHeartbeats 4000000 in
set_option maxRecDepth 100000 in
theorem w_X3_isBusy_13 {G : oh_G} {l : Launch} (C : oh_C G cX3_isBusy wsX3_isBusy RX3 rmX3_isBusy 2) (hl : G.1.2.1 = l) (h : oh_H) (o : Nat) (s0 : Int32) : oh_J (oh_TR h xi (some .boolean) G) (f_X3_isBusy_13 h o s0) (oh_V G 0 0 h 13 [] [xi s0]) := by
  unfold f_X3_isBusy_13
  exact or_zretR C dX3_isBusy_13
set_option maxHeartbeats 4000000 in
set_option maxRecDepth 100000 in
theorem w_X3_isBusy_0 {G : oh_G} {l : Launch} (C : oh_C G cX3_isBusy wsX3_isBusy RX3 rmX3_isBusy 2) (hl : G.1.2.1 = l) (h : oh_H) (o : Nat) (v1 : Int32) : oh_J (oh_TR h xi (some .boolean) G) (f_X3_isBusy h o v1) (oh_V G 0 0 h 0 [(0, xr (some o)), (1, xi v1)] []) := by
  unfold f_X3_isBusy
  refine or_iload_n C 1 rfl dX3_isBusy_0 ?_
  refine or_aload_n C 0 rfl dX3_isBusy_1 ?_
  refine or_getI C 3 6 rfl (by decide) rfl (by decide) u_X3_isBusy_3 (by decide) k_X3_isBusy_f31 (by decide +kernel) dX3_isBusy_2 (fun x1 => ?_)
  refine or_icmp_ge C 12 dX3_isBusy_5 (by decide) ?_ ?_
  · refine or_iconst C (v := (0 : Int32)) dX3_isBusy_12 (by decide) ?_
    refine or_sub [] rfl ?_
    exact w_X3_isBusy_13 C hl h o (0 : Int32)
  · refine or_iconst C (v := (1 : Int32)) dX3_isBusy_8 (by decide) ?_
    refine or_goto C 13 dX3_isBusy_9 (by decide) ?_
    refine or_sub [] rfl ?_
    exact w_X3_isBusy_13 C hl h o (1 : Int32)
theorem m_X3_isBusy (l : Launch) (h : oh_H) (o : Nat) (v1 : Int32) (p : Int32) (hf : f_X3_isBusy h o v1 = some p) : oh_M l yX3_isBusy wsX3_isBusy rmX3_isBusy 0 0 [xr (some o), xi v1] h (some (xi p)) h :=
  oh_met (cc := cX3_isBusy) (maxL := 2) (ret := (some .boolean)) (by decide) rfl (Nat.le_of_ble_eq_true rfl) (fun G C hl hN E => w_X3_isBusy_0 C hl h o v1 p hf E)
/-! X3_hoursFor -/
theorem k_X3_hoursFor_f28 : Cond.fieldLink RX3 28 "OilPress$Mill" "rate" "I" ∈ wsX3_hoursFor := List.mem_of_getElem? (i := 1) (by decide +kernel)
theorem u_X3_hoursFor_3 : ∀ w ∈ u_ws RX3 TX3 14, w ∈ wsX3_hoursFor := fun w h => List.mem_cons_of_mem _ (List.mem_append_right _ (h))
theorem k_X3_hoursFor_it7 : Cond.initialized RX7 ∈ wsX3_hoursFor := List.mem_of_getElem? (i := 3) (by decide +kernel)
theorem k_X3_hoursFor_stX7_divideUp : Cond.static yX7_divideUp ∈ wsX3_hoursFor := List.mem_of_getElem? (i := 2) (by decide +kernel)
abbrev rmX3_hoursFor : Room := { frames := 1, cells := 0, slots := 0, locals := 23 }
def f_X3_hoursFor (h : oh_H) (o : Nat) (v1 : Int32) : Option (Int32) :=
  (oh_gI h (some o) 197).bind fun x1 => (f_X7_divideUp h (Int32.toInt64 v1) (Int32.toInt64 x1)).bind fun p2 => some (Int64.toInt32 p2)
set_option maxHeartbeats 4000000 in
set_option maxRecDepth 100000 in
theorem w_X3_hoursFor_0 {G : oh_G} {l : Launch} (C : oh_C G cX3_hoursFor wsX3_hoursFor RX3 rmX3_hoursFor 2) (hl : G.1.2.1 = l) (h : oh_H) (o : Nat) (v1 : Int32) : oh_J (oh_TR h xi (some .int) G) (f_X3_hoursFor h o v1) (oh_V G 0 0 h 0 [(0, xr (some o)), (1, xi v1)] []) := by
  unfold f_X3_hoursFor
  refine or_iload_n C 1 rfl dX3_hoursFor_0 ?_
  refine or_i2l C dX3_hoursFor_1 ?_
  refine or_aload_n C 0 rfl dX3_hoursFor_2 ?_
  refine or_getI C 3 5 rfl (by decide) rfl (by decide) u_X3_hoursFor_3 (by decide) k_X3_hoursFor_f28 (by decide +kernel) dX3_hoursFor_3 (fun x1 => ?_)
  refine or_i2l C dX3_hoursFor_6 ?_
  refine oj_bind (fun p2 z3 => ?_)
  refine oj_v (P := oh_V G 0 0 h 10 [(0, xr (some o)), (1, xi v1)] [xl p2]) (fun k => or_callSN C 2 hl (m_X7_divideUp _ h (Int32.toInt64 v1) (Int32.toInt64 x1) p2 z3) gX3_hoursFor_X7_divideUp_n59 rfl rfl rfl (List.mem_of_getElem? (i := 3) rfl) k_X3_hoursFor_it7 k_X3_hoursFor_stX7_divideUp (by decide +kernel) ⟨Nat.le_of_ble_eq_true rfl, Nat.le_of_ble_eq_true rfl⟩ (Nat.le_of_ble_eq_true rfl) dX3_hoursFor_7 ⟨Nat.le_of_ble_eq_true rfl, Nat.le_of_ble_eq_true rfl⟩ rfl rfl k) ?_
  refine or_l2i C dX3_hoursFor_10 ?_
  exact or_iretR C dX3_hoursFor_11
theorem m_X3_hoursFor (l : Launch) (h : oh_H) (o : Nat) (v1 : Int32) (p : Int32) (hf : f_X3_hoursFor h o v1 = some p) : oh_M l yX3_hoursFor wsX3_hoursFor rmX3_hoursFor 0 0 [xr (some o), xi v1] h (some (xi p)) h :=
  oh_met (cc := cX3_hoursFor) (maxL := 2) (ret := (some .int)) (by decide) rfl (Nat.le_of_ble_eq_true rfl) (fun G C hl hN E => w_X3_hoursFor_0 C hl h o v1 p hf E)
/-! X3_tenthsInBin -/
theorem k_X3_tenthsInBin_f21 : Cond.fieldLink RX3 21 "OilPress$Mill" "size" "I" ∈ wsX3_tenthsInBin := List.mem_of_getElem? (i := 1) (by decide +kernel)
theorem u_X3_tenthsInBin_3 : ∀ w ∈ u_ws RX3 TX3 14, w ∈ wsX3_tenthsInBin := fun w h => List.mem_cons_of_mem _ (List.mem_append_left _ (List.mem_append_right _ (h)))
theorem k_X3_tenthsInBin_f11 : Cond.fieldLink RX3 11 "OilPress$Mill" "bin" "[LOilPress$Lot;" ∈ wsX3_tenthsInBin := List.mem_of_getElem? (i := 2) (by decide +kernel)
theorem k_X3_tenthsInBin_f63 : Cond.fieldLink RX3 63 "OilPress$Lot" "tenths" "I" ∈ wsX3_tenthsInBin := List.mem_of_getElem? (i := 3) (by decide +kernel)
theorem u_X3_tenthsInBin_2 : ∀ w ∈ u_ws RX2 TX2 12, w ∈ wsX3_tenthsInBin := fun w h => List.mem_cons_of_mem _ (List.mem_append_right _ (h))
abbrev rmX3_tenthsInBin : Room := { frames := 0, cells := 0, slots := 0, locals := 0 }
abbrev pv_X3_tenthsInBin_4 (G : oh_G) (h : oh_H) (o : Nat) : (Int32 × Int32) → Prop := fun s => oh_V G 0 0 h 4 [(0, xr (some o)), (1, xi s.1), (2, xi s.2)] []
def b_X3_tenthsInBin_4 (h : oh_H) (o : Nat) (v1 : Int32) (v2 : Int32) : Option ((Int32 × Int32) ⊕ (Int32)) :=
  (oh_gI h (some o) 195).bind fun x1 => if x1 ≤ v2 then (Option.map Sum.inr (some v1)) else ((oh_gR h (some o) 193).bind fun x2 => (oh_aR h x2 24 v2).bind fun x3 => (oh_gI h x3 133).bind fun x4 => oh_lt (v1 + x4) fun x5 => oh_lt (v2 + (1 : Int32)) fun x6 => some (Sum.inl (x5, x6)))
def f_X3_tenthsInBin_4 (h : oh_H) (o : Nat) (v1 : Int32) (v2 : Int32) : Option (Int32) := oh_loop (fun s : Int32 × Int32 => b_X3_tenthsInBin_4 h o s.1 s.2) 1000000 (v1, v2)
def f_X3_tenthsInBin (h : oh_H) (o : Nat) : Option (Int32) :=
  oh_lt (0 : Int32) fun x1 => oh_lt (0 : Int32) fun x2 => f_X3_tenthsInBin_4 h o x1 x2
set_option maxHeartbeats 4000000 in
set_option maxRecDepth 100000 in
theorem wb_X3_tenthsInBin_4 {G : oh_G} {l : Launch} (C : oh_C G cX3_tenthsInBin wsX3_tenthsInBin RX3 rmX3_tenthsInBin 3) (hl : G.1.2.1 = l) (h : oh_H) (o : Nat) (v1 : Int32) (v2 : Int32) : oh_J (oh_TL (pv_X3_tenthsInBin_4 G h o) (oh_TR h xi (some .int) G)) (b_X3_tenthsInBin_4 h o v1 v2) (oh_V G 0 0 h 4 [(0, xr (some o)), (1, xi v1), (2, xi v2)] []) := by
  unfold b_X3_tenthsInBin_4
  refine or_iload_n C 2 rfl dX3_tenthsInBin_4 ?_
  refine or_aload_n C 0 rfl dX3_tenthsInBin_5 ?_
  refine or_getI C 3 3 rfl (by decide) rfl (by decide) u_X3_tenthsInBin_3 (by decide) k_X3_tenthsInBin_f21 (by decide +kernel) dX3_tenthsInBin_6 (fun x1 => ?_)
  refine or_icmp_ge C 30 dX3_tenthsInBin_9 (by decide) ?_ ?_
  · refine oj_inr ?_
    refine or_iload_n C 1 rfl dX3_tenthsInBin_30 ?_
    exact or_iretR C dX3_tenthsInBin_31
  · refine or_iload_n C 1 rfl dX3_tenthsInBin_12 ?_
    refine or_aload_n C 0 rfl dX3_tenthsInBin_13 ?_
    refine or_getR C 3 1 rfl (by decide) rfl (by decide) u_X3_tenthsInBin_3 (by decide) k_X3_tenthsInBin_f11 (by decide +kernel) dX3_tenthsInBin_14 (fun x2 => ?_)
    refine or_iload_n C 2 rfl dX3_tenthsInBin_17 ?_
    refine or_aald C 4 (fun _ => rfl) (by decide) rfl dX3_tenthsInBin_18 (fun x3 => ?_)
    refine or_getI C 2 5 rfl (by decide) rfl (by decide) u_X3_tenthsInBin_2 (by decide) k_X3_tenthsInBin_f63 (by decide +kernel) dX3_tenthsInBin_19 (fun x4 => ?_)
    refine or_iadd C dX3_tenthsInBin_22 ?_
    refine or_istore_n C (fun x5 => [(1, xi x5), (0, xr (some o)), (2, xi v2)]) (fun _ => rfl) (by decide) dX3_tenthsInBin_23 (fun x5 => ?_)
    refine or_iinc C (y := (1 : Int32)) 2 rfl (by decide) (fun x6 => [(2, xi x6), (1, xi x5), (0, xr (some o))]) (fun _ => rfl) (by decide) dX3_tenthsInBin_24 (fun x6 => ?_)
    refine or_goto C 4 dX3_tenthsInBin_27 (by decide) ?_
    refine or_sub [2, 1, 0] rfl ?_
    exact oj_back (P := pv_X3_tenthsInBin_4 G h o) (s := (x5, x6))
theorem w_X3_tenthsInBin_4 {G : oh_G} {l : Launch} (C : oh_C G cX3_tenthsInBin wsX3_tenthsInBin RX3 rmX3_tenthsInBin 3) (hl : G.1.2.1 = l) (h : oh_H) (o : Nat) (v1 : Int32) (v2 : Int32) : oh_J (oh_TR h xi (some .int) G) (f_X3_tenthsInBin_4 h o v1 v2) (oh_V G 0 0 h 4 [(0, xr (some o)), (1, xi v1), (2, xi v2)] []) := by
  unfold f_X3_tenthsInBin_4
  exact oj_loop (P := pv_X3_tenthsInBin_4 G h o) (fun s => wb_X3_tenthsInBin_4 C hl h o s.1 s.2) 1000000 (v1, v2)
set_option maxHeartbeats 4000000 in
set_option maxRecDepth 100000 in
theorem w_X3_tenthsInBin_0 {G : oh_G} {l : Launch} (C : oh_C G cX3_tenthsInBin wsX3_tenthsInBin RX3 rmX3_tenthsInBin 3) (hl : G.1.2.1 = l) (h : oh_H) (o : Nat) : oh_J (oh_TR h xi (some .int) G) (f_X3_tenthsInBin h o) (oh_V G 0 0 h 0 [(0, xr (some o))] []) := by
  unfold f_X3_tenthsInBin
  refine or_iconst C (v := (0 : Int32)) dX3_tenthsInBin_0 (by decide) ?_
  refine or_istore_n C (fun x1 => [(1, xi x1), (0, xr (some o))]) (fun _ => rfl) (by decide) dX3_tenthsInBin_1 (fun x1 => ?_)
  refine or_iconst C (v := (0 : Int32)) dX3_tenthsInBin_2 (by decide) ?_
  refine or_istore_n C (fun x2 => [(2, xi x2), (1, xi x1), (0, xr (some o))]) (fun _ => rfl) (by decide) dX3_tenthsInBin_3 (fun x2 => ?_)
  refine or_sub [2, 1, 0] rfl ?_
  exact w_X3_tenthsInBin_4 C hl h o x1 x2
theorem m_X3_tenthsInBin (l : Launch) (h : oh_H) (o : Nat) (p : Int32) (hf : f_X3_tenthsInBin h o = some p) : oh_M l yX3_tenthsInBin wsX3_tenthsInBin rmX3_tenthsInBin 0 0 [xr (some o)] h (some (xi p)) h :=
  oh_met (cc := cX3_tenthsInBin) (maxL := 3) (ret := (some .int)) (by decide) rfl (Nat.le_of_ble_eq_true rfl) (fun G C hl hN E => w_X3_tenthsInBin_0 C hl h o p hf E)
/-! X3_admits -/
theorem k_X3_admits_f21 : Cond.fieldLink RX3 21 "OilPress$Mill" "size" "I" ∈ wsX3_admits := List.mem_of_getElem? (i := 2) (by decide +kernel)
theorem u_X3_admits_3 : ∀ w ∈ u_ws RX3 TX3 14, w ∈ wsX3_admits := fun w h => List.mem_cons_of_mem _ (List.mem_append_left _ (List.mem_append_left _ (List.mem_append_right _ (h))))
theorem k_X3_admits_f11 : Cond.fieldLink RX3 11 "OilPress$Mill" "bin" "[LOilPress$Lot;" ∈ wsX3_admits := List.mem_of_getElem? (i := 8) (by decide +kernel)
theorem k_X3_admits_f41 : Cond.fieldLink RX3 41 "OilPress$Mill" "isPressing" "Z" ∈ wsX3_admits := List.mem_of_getElem? (i := 1) (by decide +kernel)
theorem k_X3_admits_f66 : Cond.fieldLink RX3 66 "OilPress$Lot" "kind" "I" ∈ wsX3_admits := List.mem_of_getElem? (i := 3) (by decide +kernel)
theorem u_X3_admits_2 : ∀ w ∈ u_ws RX2 TX2 12, w ∈ wsX3_admits := fun w h => List.mem_cons_of_mem _ (List.mem_append_left _ (List.mem_append_right _ (h)))
theorem k_X3_admits_f34 : Cond.fieldLink RX3 34 "OilPress$Mill" "isWashed" "Z" ∈ wsX3_admits := List.mem_of_getElem? (i := 4) (by decide +kernel)
theorem k_X3_admits_f38 : Cond.fieldLink RX3 38 "OilPress$Mill" "like" "I" ∈ wsX3_admits := List.mem_of_getElem? (i := 5) (by decide +kernel)
theorem k_X3_admits_f69 : Cond.fieldLink RX3 69 "OilPress$Lot" "grove" "LOilPress$Grove;" ∈ wsX3_admits := List.mem_of_getElem? (i := 6) (by decide +kernel)
theorem k_X3_admits_f73 : Cond.fieldLink RX3 73 "OilPress$Grove" "like" "I" ∈ wsX3_admits := List.mem_of_getElem? (i := 7) (by decide +kernel)
theorem u_X3_admits_1 : ∀ w ∈ u_ws RX1 TX1 3, w ∈ wsX3_admits := fun w h => List.mem_cons_of_mem _ (List.mem_append_right _ (h))
abbrev rmX3_admits : Room := { frames := 2, cells := 0, slots := 0, locals := 44 }
def f_X3_admits_16 (h : oh_H) (o : Nat) : Option (Int32) :=
  oh_bz (0 : Int32) (some (0 : Int32))
abbrev pv_X3_admits_62 (G : oh_G) (h : oh_H) (o : Nat) (v1 : Option Nat) : (Int32) → Prop := fun s => oh_V G 0 0 h 62 [(0, xr (some o)), (1, xr v1), (2, xi s)] []
def b_X3_admits_62 (h : oh_H) (o : Nat) (v1 : Option Nat) (v2 : Int32) : Option ((Int32) ⊕ (Int32)) :=
  (oh_gI h (some o) 195).bind fun x1 => if x1 ≤ v2 then (Option.map Sum.inr (oh_bz (1 : Int32) (some (1 : Int32)))) else ((oh_gR h (some o) 193).bind fun x2 => (oh_aR h x2 24 v2).bind fun x3 => oh_rc h x3 3 fun o4 => (f_X2_agreesWith h o4 v1).bind fun p7 => if p7 = 0 then (Option.map Sum.inr (oh_bz (0 : Int32) (some (0 : Int32)))) else (oh_lt (v2 + (1 : Int32)) fun x9 => some (Sum.inl x9)))
def f_X3_admits_62 (h : oh_H) (o : Nat) (v1 : Option Nat) (v2 : Int32) : Option (Int32) := oh_loop (fun s : Int32 => b_X3_admits_62 h o v1 s) 1000000 (v2)
def f_X3_admits_59 (h : oh_H) (o : Nat) (s0 : Int32) : Option (Int32) :=
  oh_bz s0 (some s0)
def f_X3_admits_54 (h : oh_H) (o : Nat) : Option (Int32) :=
  f_X3_admits_59 h o (1 : Int32)
def f_X3_admits (h : oh_H) (o : Nat) (v1 : Option Nat) : Option (Int32) :=
  (oh_gI h (some o) 201).bind fun x1 => if x1 = 0 then ((oh_gI h (some o) 195).bind fun x2 => if x2 < (12 : Int32) then ((oh_gI h (some o) 195).bind fun x3 => if x3 = 0 then ((oh_gI h v1 131).bind fun x5 => if x5 = (2 : Int32) then ((oh_gI h (some o) 199).bind fun x6 => if x6 = 0 then ((oh_gI h (some o) 200).bind fun x7 => (oh_gR h v1 129).bind fun x8 => (oh_gI h x8 66).bind fun x9 => if x7 = x9 then (f_X3_admits_54 h o) else (f_X3_admits_59 h o (0 : Int32))) else (f_X3_admits_54 h o)) else (f_X3_admits_54 h o)) else (oh_lt (0 : Int32) fun x4 => f_X3_admits_62 h o v1 x4)) else (f_X3_admits_16 h o)) else (f_X3_admits_16 h o)
set_option maxHeartbeats 4000000 in
set_option maxRecDepth 100000 in
theorem w_X3_admits_16 {G : oh_G} {l : Launch} (C : oh_C G cX3_admits wsX3_admits RX3 rmX3_admits 3) (hl : G.1.2.1 = l) (h : oh_H) (o : Nat) : oh_J (oh_TR h xi (some .boolean) G) (f_X3_admits_16 h o) (oh_V G 0 0 h 16 [] []) := by
  unfold f_X3_admits_16
  refine or_iconst C (v := (0 : Int32)) dX3_admits_16 (by decide) ?_
  exact or_zretR C dX3_admits_17
set_option maxHeartbeats 4000000 in
set_option maxRecDepth 100000 in
theorem wb_X3_admits_62 {G : oh_G} {l : Launch} (C : oh_C G cX3_admits wsX3_admits RX3 rmX3_admits 3) (hl : G.1.2.1 = l) (h : oh_H) (o : Nat) (v1 : Option Nat) (v2 : Int32) : oh_J (oh_TL (pv_X3_admits_62 G h o v1) (oh_TR h xi (some .boolean) G)) (b_X3_admits_62 h o v1 v2) (oh_V G 0 0 h 62 [(0, xr (some o)), (1, xr v1), (2, xi v2)] []) := by
  unfold b_X3_admits_62
  refine or_iload_n C 2 rfl dX3_admits_62 ?_
  refine or_aload_n C 0 rfl dX3_admits_63 ?_
  refine or_getI C 3 3 rfl (by decide) rfl (by decide) u_X3_admits_3 (by decide) k_X3_admits_f21 (by decide +kernel) dX3_admits_64 (fun x1 => ?_)
  refine or_icmp_ge C 91 dX3_admits_67 (by decide) ?_ ?_
  · refine oj_inr ?_
    refine or_iconst C (v := (1 : Int32)) dX3_admits_91 (by decide) ?_
    exact or_zretR C dX3_admits_92
  · refine or_aload_n C 0 rfl dX3_admits_70 ?_
    refine or_getR C 3 1 rfl (by decide) rfl (by decide) u_X3_admits_3 (by decide) k_X3_admits_f11 (by decide +kernel) dX3_admits_71 (fun x2 => ?_)
    refine or_iload_n C 2 rfl dX3_admits_74 ?_
    refine or_aald C 4 (fun _ => rfl) (by decide) rfl dX3_admits_75 (fun x3 => ?_)
    refine or_aload_n C 1 rfl dX3_admits_76 ?_
    refine oj_rc (fun o4 e6 q5 => ?_)
    refine oj_bind (fun p7 z8 => ?_)
    refine oj_v (P := oh_V G 0 0 h 80 [(0, xr (some o)), (1, xr v1), (2, xi v2)] [xi p7]) (fun k => or_callV C 1 hl (m_X2_agreesWith _ h o4 v1 p7 z8) gX3_admits_X2_agreesWith rfl rfl rfl (by decide +kernel) ⟨Nat.le_of_ble_eq_true rfl, Nat.le_of_ble_eq_true rfl⟩ q5 rfl (by decide) (Nat.le_of_ble_eq_true rfl) dX3_admits_77 ⟨Nat.le_of_ble_eq_true rfl, Nat.le_of_ble_eq_true rfl⟩ rfl (by rw [e6]; rfl) k) ?_
    refine or_if_ne C 85 dX3_admits_80 (by decide) ?_ ?_
    · refine oj_inr ?_
      refine or_iconst C (v := (0 : Int32)) dX3_admits_83 (by decide) ?_
      exact or_zretR C dX3_admits_84
    · refine or_iinc C (y := (1 : Int32)) 2 rfl (by decide) (fun x9 => [(2, xi x9), (0, xr (some o)), (1, xr v1)]) (fun _ => rfl) (by decide) dX3_admits_85 (fun x9 => ?_)
      refine or_goto C 62 dX3_admits_88 (by decide) ?_
      refine or_sub [1, 2, 0] rfl ?_
      exact oj_back (P := pv_X3_admits_62 G h o v1) (s := x9)
theorem w_X3_admits_62 {G : oh_G} {l : Launch} (C : oh_C G cX3_admits wsX3_admits RX3 rmX3_admits 3) (hl : G.1.2.1 = l) (h : oh_H) (o : Nat) (v1 : Option Nat) (v2 : Int32) : oh_J (oh_TR h xi (some .boolean) G) (f_X3_admits_62 h o v1 v2) (oh_V G 0 0 h 62 [(0, xr (some o)), (1, xr v1), (2, xi v2)] []) := by
  unfold f_X3_admits_62
  exact oj_loop (P := pv_X3_admits_62 G h o v1) (fun s => wb_X3_admits_62 C hl h o v1 s) 1000000 (v2)
set_option maxHeartbeats 4000000 in
set_option maxRecDepth 100000 in
theorem w_X3_admits_59 {G : oh_G} {l : Launch} (C : oh_C G cX3_admits wsX3_admits RX3 rmX3_admits 3) (hl : G.1.2.1 = l) (h : oh_H) (o : Nat) (s0 : Int32) : oh_J (oh_TR h xi (some .boolean) G) (f_X3_admits_59 h o s0) (oh_V G 0 0 h 59 [] [xi s0]) := by
  unfold f_X3_admits_59
  exact or_zretR C dX3_admits_59
set_option maxHeartbeats 4000000 in
set_option maxRecDepth 100000 in
theorem w_X3_admits_54 {G : oh_G} {l : Launch} (C : oh_C G cX3_admits wsX3_admits RX3 rmX3_admits 3) (hl : G.1.2.1 = l) (h : oh_H) (o : Nat) : oh_J (oh_TR h xi (some .boolean) G) (f_X3_admits_54 h o) (oh_V G 0 0 h 54 [] []) := by
  unfold f_X3_admits_54
  refine or_iconst C (v := (1 : Int32)) dX3_admits_54 (by decide) ?_
  refine or_goto C 59 dX3_admits_55 (by decide) ?_
  refine or_sub [] rfl ?_
  exact w_X3_admits_59 C hl h o (1 : Int32)
set_option maxHeartbeats 4000000 in
set_option maxRecDepth 100000 in
theorem w_X3_admits_0 {G : oh_G} {l : Launch} (C : oh_C G cX3_admits wsX3_admits RX3 rmX3_admits 3) (hl : G.1.2.1 = l) (h : oh_H) (o : Nat) (v1 : Option Nat) : oh_J (oh_TR h xi (some .boolean) G) (f_X3_admits h o v1) (oh_V G 0 0 h 0 [(0, xr (some o)), (1, xr v1)] []) := by
  unfold f_X3_admits
  refine or_aload_n C 0 rfl dX3_admits_0 ?_
  refine or_getI C 3 9 rfl (by decide) rfl (by decide) u_X3_admits_3 (by decide) k_X3_admits_f41 (by decide +kernel) dX3_admits_1 (fun x1 => ?_)
  refine or_if_ne C 16 dX3_admits_4 (by decide) ?_ ?_
  · refine or_aload_n C 0 rfl dX3_admits_7 ?_
    refine or_getI C 3 3 rfl (by decide) rfl (by decide) u_X3_admits_3 (by decide) k_X3_admits_f21 (by decide +kernel) dX3_admits_8 (fun x2 => ?_)
    refine or_bipush C (v := (12 : Int32)) dX3_admits_11 (by decide) ?_
    refine or_icmp_lt C 18 dX3_admits_13 (by decide) ?_ ?_
    · refine or_aload_n C 0 rfl dX3_admits_18 ?_
      refine or_getI C 3 3 rfl (by decide) rfl (by decide) u_X3_admits_3 (by decide) k_X3_admits_f21 (by decide +kernel) dX3_admits_19 (fun x3 => ?_)
      refine or_if_ne C 60 dX3_admits_22 (by decide) ?_ ?_
      · refine or_aload_n C 1 rfl dX3_admits_25 ?_
        refine or_getI C 2 3 rfl (by decide) rfl (by decide) u_X3_admits_2 (by decide) k_X3_admits_f66 (by decide +kernel) dX3_admits_26 (fun x5 => ?_)
        refine or_iconst C (v := (2 : Int32)) dX3_admits_29 (by decide) ?_
        refine or_icmp_ne C 54 dX3_admits_30 (by decide) ?_ ?_
        · refine or_aload_n C 0 rfl dX3_admits_33 ?_
          refine or_getI C 3 7 rfl (by decide) rfl (by decide) u_X3_admits_3 (by decide) k_X3_admits_f34 (by decide +kernel) dX3_admits_34 (fun x6 => ?_)
          refine or_if_ne C 54 dX3_admits_37 (by decide) ?_ ?_
          · refine or_aload_n C 0 rfl dX3_admits_40 ?_
            refine or_getI C 3 8 rfl (by decide) rfl (by decide) u_X3_admits_3 (by decide) k_X3_admits_f38 (by decide +kernel) dX3_admits_41 (fun x7 => ?_)
            refine or_aload_n C 1 rfl dX3_admits_44 ?_
            refine or_getR C 2 1 rfl (by decide) rfl (by decide) u_X3_admits_2 (by decide) k_X3_admits_f69 (by decide +kernel) dX3_admits_45 (fun x8 => ?_)
            refine or_getI C 1 2 rfl (by decide) rfl (by decide) u_X3_admits_1 (by decide) k_X3_admits_f73 (by decide +kernel) dX3_admits_48 (fun x9 => ?_)
            refine or_icmp_ne C 58 dX3_admits_51 (by decide) ?_ ?_
            · refine or_sub [] rfl ?_
              exact w_X3_admits_54 C hl h o
            · refine or_iconst C (v := (0 : Int32)) dX3_admits_58 (by decide) ?_
              refine or_sub [] rfl ?_
              exact w_X3_admits_59 C hl h o (0 : Int32)
          · refine or_sub [] rfl ?_
            exact w_X3_admits_54 C hl h o
        · refine or_sub [] rfl ?_
          exact w_X3_admits_54 C hl h o
      · refine or_iconst C (v := (0 : Int32)) dX3_admits_60 (by decide) ?_
        refine or_istore_n C (fun x4 => [(2, xi x4), (0, xr (some o)), (1, xr v1)]) (fun _ => rfl) (by decide) dX3_admits_61 (fun x4 => ?_)
        refine or_sub [1, 2, 0] rfl ?_
        exact w_X3_admits_62 C hl h o v1 x4
    · refine or_sub [] rfl ?_
      exact w_X3_admits_16 C hl h o
  · refine or_sub [] rfl ?_
    exact w_X3_admits_16 C hl h o
theorem m_X3_admits (l : Launch) (h : oh_H) (o : Nat) (v1 : Option Nat) (p : Int32) (hf : f_X3_admits h o v1 = some p) : oh_M l yX3_admits wsX3_admits rmX3_admits 0 0 [xr (some o), xr v1] h (some (xi p)) h :=
  oh_met (cc := cX3_admits) (maxL := 3) (ret := (some .boolean)) (by decide) rfl (Nat.le_of_ble_eq_true rfl) (fun G C hl hN E => w_X3_admits_0 C hl h o v1 p hf E)
/-! X3_add -/
theorem k_X3_add_f21 : Cond.fieldLink RX3 21 "OilPress$Mill" "size" "I" ∈ wsX3_add := List.mem_of_getElem? (i := 1) (by decide +kernel)
theorem u_X3_add_3 : ∀ w ∈ u_ws RX3 TX3 14, w ∈ wsX3_add := fun w h => List.mem_cons_of_mem _ (List.mem_append_left _ (List.mem_append_right _ (h)))
theorem k_X3_add_f11 : Cond.fieldLink RX3 11 "OilPress$Mill" "bin" "[LOilPress$Lot;" ∈ wsX3_add := List.mem_of_getElem? (i := 2) (by decide +kernel)
theorem k_X3_add_f80 : Cond.fieldLink RX3 80 "OilPress$Lot" "state" "I" ∈ wsX3_add := List.mem_of_getElem? (i := 3) (by decide +kernel)
theorem u_X3_add_2 : ∀ w ∈ u_ws RX2 TX2 12, w ∈ wsX3_add := fun w h => List.mem_cons_of_mem _ (List.mem_append_right _ (h))
theorem k_X3_add_f56 : Cond.fieldLink RX3 56 "OilPress$Mill" "number" "I" ∈ wsX3_add := List.mem_of_getElem? (i := 4) (by decide +kernel)
theorem k_X3_add_f83 : Cond.fieldLink RX3 83 "OilPress$Lot" "place" "I" ∈ wsX3_add := List.mem_of_getElem? (i := 5) (by decide +kernel)
abbrev rmX3_add : Room := { frames := 0, cells := 0, slots := 0, locals := 0 }
def f_X3_add (h : oh_H) (o : Nat) (v1 : Option Nat) : Option (oh_H) :=
  (oh_gI h (some o) 195).bind fun x1 => if x1 < (12 : Int32) then ((oh_gR h (some o) 193).bind fun x2 => (oh_gI h (some o) 195).bind fun x3 => (oh_tR h x2 24 2 x3 v1).bind fun h4 => (oh_gI h4 (some o) 195).bind fun x5 => (oh_pI h4 (some o) 195 (x5 + (1 : Int32))).bind fun h6 => (oh_pI h6 v1 132 (3 : Int32)).bind fun h7 => (oh_gI h7 (some o) 192).bind fun x8 => (oh_pI h7 v1 138 x8).bind fun h9 => some h9) else (some h)
set_option maxHeartbeats 4000000 in
set_option maxRecDepth 100000 in
theorem w_X3_add_0 {G : oh_G} {l : Launch} (C : oh_C G cX3_add wsX3_add RX3 rmX3_add 2) (hl : G.1.2.1 = l) (h0 : oh_H) (h : oh_H) (o : Nat) (v1 : Option Nat) : oh_J (oh_TV h0 0 0 none G) (f_X3_add h o v1) (oh_V G 0 0 h 0 [(0, xr (some o)), (1, xr v1)] []) := by
  unfold f_X3_add
  refine or_aload_n C 0 rfl dX3_add_0 ?_
  refine or_getI C 3 3 rfl (by decide) rfl (by decide) u_X3_add_3 (by decide) k_X3_add_f21 (by decide +kernel) dX3_add_1 (fun x1 => ?_)
  refine or_bipush C (v := (12 : Int32)) dX3_add_4 (by decide) ?_
  refine or_icmp_lt C 10 dX3_add_6 (by decide) ?_ ?_
  · refine or_aload_n C 0 rfl dX3_add_10 ?_
    refine or_getR C 3 1 rfl (by decide) rfl (by decide) u_X3_add_3 (by decide) k_X3_add_f11 (by decide +kernel) dX3_add_11 (fun x2 => ?_)
    refine or_aload_n C 0 rfl dX3_add_14 ?_
    refine or_getI C 3 3 rfl (by decide) rfl (by decide) u_X3_add_3 (by decide) k_X3_add_f21 (by decide +kernel) dX3_add_15 (fun x3 => ?_)
    refine or_aload_n C 1 rfl dX3_add_18 ?_
    refine or_aast C 4 2 (fun _ => rfl) (by decide) rfl (by decide) rfl dX3_add_19 (fun h4 => ?_)
    refine or_aload_n C 0 rfl dX3_add_20 ?_
    refine or_dup C rfl dX3_add_21 ?_
    refine or_getI C 3 3 rfl (by decide) rfl (by decide) u_X3_add_3 (by decide) k_X3_add_f21 (by decide +kernel) dX3_add_22 (fun x5 => ?_)
    refine or_iconst C (v := (1 : Int32)) dX3_add_25 (by decide) ?_
    refine or_iadd C dX3_add_26 ?_
    refine or_putI C 3 3 rfl (by decide) rfl (by decide) u_X3_add_3 tyX3 tyX3_ok nmX3 (by decide) k_X3_add_f21 (Or.inl rfl) (by decide +kernel) rfl dX3_add_27 (fun h6 => ?_)
    refine or_aload_n C 1 rfl dX3_add_30 ?_
    refine or_iconst C (v := (3 : Int32)) dX3_add_31 (by decide) ?_
    refine or_putI C 2 4 rfl (by decide) rfl (by decide) u_X3_add_2 tyX2 tyX2_ok nmX2 (by decide) k_X3_add_f80 (Or.inl rfl) (by decide +kernel) rfl dX3_add_32 (fun h7 => ?_)
    refine or_aload_n C 1 rfl dX3_add_35 ?_
    refine or_aload_n C 0 rfl dX3_add_36 ?_
    refine or_getI C 3 0 rfl (by decide) rfl (by decide) u_X3_add_3 (by decide) k_X3_add_f56 (by decide +kernel) dX3_add_37 (fun x8 => ?_)
    refine or_putI C 2 10 rfl (by decide) rfl (by decide) u_X3_add_2 tyX2 tyX2_ok nmX2 (by decide) k_X3_add_f83 (Or.inl rfl) (by decide +kernel) rfl dX3_add_40 (fun h9 => ?_)
    exact or_vret C ⟨Nat.le_of_ble_eq_true rfl, Nat.le_of_ble_eq_true rfl⟩ dX3_add_43
  · exact or_vret C ⟨Nat.le_of_ble_eq_true rfl, Nat.le_of_ble_eq_true rfl⟩ dX3_add_9
theorem m_X3_add (l : Launch) (h : oh_H) (o : Nat) (v1 : Option Nat) (p : oh_H) (hf : f_X3_add h o v1 = some p) : oh_M l yX3_add wsX3_add rmX3_add 0 0 [xr (some o), xr v1] h none p :=
  oh_met (cc := cX3_add) (maxL := 2) (ret := none) (by decide) rfl (Nat.le_of_ble_eq_true rfl) (fun G C hl hN E => w_X3_add_0 C hl h h o v1 p hf E)
/-! X3_remove -/
theorem k_X3_remove_f21 : Cond.fieldLink RX3 21 "OilPress$Mill" "size" "I" ∈ wsX3_remove := List.mem_of_getElem? (i := 1) (by decide +kernel)
theorem u_X3_remove_3 : ∀ w ∈ u_ws RX3 TX3 14, w ∈ wsX3_remove := fun w h => List.mem_cons_of_mem _ (List.mem_append_left _ (List.mem_append_right _ (h)))
theorem k_X3_remove_f80 : Cond.fieldLink RX3 80 "OilPress$Lot" "state" "I" ∈ wsX3_remove := List.mem_of_getElem? (i := 3) (by decide +kernel)
theorem u_X3_remove_2 : ∀ w ∈ u_ws RX2 TX2 12, w ∈ wsX3_remove := fun w h => List.mem_cons_of_mem _ (List.mem_append_right _ (h))
theorem k_X3_remove_f83 : Cond.fieldLink RX3 83 "OilPress$Lot" "place" "I" ∈ wsX3_remove := List.mem_of_getElem? (i := 4) (by decide +kernel)
theorem k_X3_remove_f11 : Cond.fieldLink RX3 11 "OilPress$Mill" "bin" "[LOilPress$Lot;" ∈ wsX3_remove := List.mem_of_getElem? (i := 2) (by decide +kernel)
abbrev rmX3_remove : Room := { frames := 0, cells := 0, slots := 0, locals := 0 }
def f_X3_remove_37 (h : oh_H) (o : Nat) (v1 : Option Nat) (v2 : Int32) (v3 : Int32) : Option ((oh_H × Int32 × Int32) ⊕ (oh_H)) :=
  oh_lt (v3 + (1 : Int32)) fun x1 => some (Sum.inl (h, v2, x1))
abbrev pv_X3_remove_4 (G : oh_G) (o : Nat) (v1 : Option Nat) : (oh_H × Int32 × Int32) → Prop := fun s => oh_V G 0 0 s.1 4 [(0, xr (some o)), (1, xr v1), (2, xi s.2.1), (3, xi s.2.2)] []
def b_X3_remove_4 (h : oh_H) (o : Nat) (v1 : Option Nat) (v2 : Int32) (v3 : Int32) : Option ((oh_H × Int32 × Int32) ⊕ (oh_H)) :=
  (oh_gI h (some o) 195).bind fun x1 => if x1 ≤ v3 then (Option.map Sum.inr ((oh_pI h (some o) 195 v2).bind fun h2 => (oh_pI h2 v1 132 (2 : Int32)).bind fun h3 => (oh_pI h3 v1 138 (-1 : Int32)).bind fun h4 => some h4)) else ((oh_gR h (some o) 193).bind fun x5 => (oh_aR h x5 24 v3).bind fun x6 => if x6 = v1 then (f_X3_remove_37 h o v1 v2 v3) else ((oh_gR h (some o) 193).bind fun x7 => (oh_gR h (some o) 193).bind fun x8 => (oh_aR h x8 24 v3).bind fun x9 => (oh_tR h x7 24 2 v2 x9).bind fun h10 => oh_lt (v2 + (1 : Int32)) fun x11 => f_X3_remove_37 h10 o v1 x11 v3))
def f_X3_remove_4 (h : oh_H) (o : Nat) (v1 : Option Nat) (v2 : Int32) (v3 : Int32) : Option (oh_H) := oh_loop (fun s : oh_H × Int32 × Int32 => b_X3_remove_4 s.1 o v1 s.2.1 s.2.2) 1000000 (h, v2, v3)
def f_X3_remove (h : oh_H) (o : Nat) (v1 : Option Nat) : Option (oh_H) :=
  oh_lt (0 : Int32) fun x1 => oh_lt (0 : Int32) fun x2 => f_X3_remove_4 h o v1 x1 x2
set_option maxHeartbeats 4000000 in
set_option maxRecDepth 100000 in
theorem w_X3_remove_37 {G : oh_G} {l : Launch} (C : oh_C G cX3_remove wsX3_remove RX3 rmX3_remove 4) (hl : G.1.2.1 = l) (h0 : oh_H) (h : oh_H) (o : Nat) (v1 : Option Nat) (v2 : Int32) (v3 : Int32) : oh_J (oh_TL (pv_X3_remove_4 G o v1) (oh_TV h0 0 0 none G)) (f_X3_remove_37 h o v1 v2 v3) (oh_V G 0 0 h 37 [(0, xr (some o)), (1, xr v1), (2, xi v2), (3, xi v3)] []) := by
  unfold f_X3_remove_37
  refine or_iinc C (y := (1 : Int32)) 3 rfl (by decide) (fun x1 => [(3, xi x1), (0, xr (some o)), (1, xr v1), (2, xi v2)]) (fun _ => rfl) (by decide) dX3_remove_37 (fun x1 => ?_)
  refine or_goto C 4 dX3_remove_40 (by decide) ?_
  refine or_sub [1, 2, 3, 0] rfl ?_
  exact oj_back (P := pv_X3_remove_4 G o v1) (s := (h, v2, x1))
set_option maxHeartbeats 4000000 in
set_option maxRecDepth 100000 in
theorem wb_X3_remove_4 {G : oh_G} {l : Launch} (C : oh_C G cX3_remove wsX3_remove RX3 rmX3_remove 4) (hl : G.1.2.1 = l) (h0 : oh_H) (h : oh_H) (o : Nat) (v1 : Option Nat) (v2 : Int32) (v3 : Int32) : oh_J (oh_TL (pv_X3_remove_4 G o v1) (oh_TV h0 0 0 none G)) (b_X3_remove_4 h o v1 v2 v3) (oh_V G 0 0 h 4 [(0, xr (some o)), (1, xr v1), (2, xi v2), (3, xi v3)] []) := by
  unfold b_X3_remove_4
  refine or_iload_n C 3 rfl dX3_remove_4 ?_
  refine or_aload_n C 0 rfl dX3_remove_5 ?_
  refine or_getI C 3 3 rfl (by decide) rfl (by decide) u_X3_remove_3 (by decide) k_X3_remove_f21 (by decide +kernel) dX3_remove_6 (fun x1 => ?_)
  refine or_icmp_ge C 43 dX3_remove_9 (by decide) ?_ ?_
  · refine oj_inr ?_
    refine or_aload_n C 0 rfl dX3_remove_43 ?_
    refine or_iload_n C 2 rfl dX3_remove_44 ?_
    refine or_putI C 3 3 rfl (by decide) rfl (by decide) u_X3_remove_3 tyX3 tyX3_ok nmX3 (by decide) k_X3_remove_f21 (Or.inl rfl) (by decide +kernel) rfl dX3_remove_45 (fun h2 => ?_)
    refine or_aload_n C 1 rfl dX3_remove_48 ?_
    refine or_iconst C (v := (2 : Int32)) dX3_remove_49 (by decide) ?_
    refine or_putI C 2 4 rfl (by decide) rfl (by decide) u_X3_remove_2 tyX2 tyX2_ok nmX2 (by decide) k_X3_remove_f80 (Or.inl rfl) (by decide +kernel) rfl dX3_remove_50 (fun h3 => ?_)
    refine or_aload_n C 1 rfl dX3_remove_53 ?_
    refine or_iconst C (v := (-1 : Int32)) dX3_remove_54 (by decide) ?_
    refine or_putI C 2 10 rfl (by decide) rfl (by decide) u_X3_remove_2 tyX2 tyX2_ok nmX2 (by decide) k_X3_remove_f83 (Or.inl rfl) (by decide +kernel) rfl dX3_remove_55 (fun h4 => ?_)
    exact or_vret C ⟨Nat.le_of_ble_eq_true rfl, Nat.le_of_ble_eq_true rfl⟩ dX3_remove_58
  · refine or_aload_n C 0 rfl dX3_remove_12 ?_
    refine or_getR C 3 1 rfl (by decide) rfl (by decide) u_X3_remove_3 (by decide) k_X3_remove_f11 (by decide +kernel) dX3_remove_13 (fun x5 => ?_)
    refine or_iload_n C 3 rfl dX3_remove_16 ?_
    refine or_aald C 4 (fun _ => rfl) (by decide) rfl dX3_remove_17 (fun x6 => ?_)
    refine or_aload_n C 1 rfl dX3_remove_18 ?_
    refine or_acmp_eq C 37 dX3_remove_19 (by decide) ?_ ?_
    · refine or_sub [0, 1, 2, 3] rfl ?_
      exact w_X3_remove_37 C hl h0 h o v1 v2 v3
    · refine or_aload_n C 0 rfl dX3_remove_22 ?_
      refine or_getR C 3 1 rfl (by decide) rfl (by decide) u_X3_remove_3 (by decide) k_X3_remove_f11 (by decide +kernel) dX3_remove_23 (fun x7 => ?_)
      refine or_iload_n C 2 rfl dX3_remove_26 ?_
      refine or_aload_n C 0 rfl dX3_remove_27 ?_
      refine or_getR C 3 1 rfl (by decide) rfl (by decide) u_X3_remove_3 (by decide) k_X3_remove_f11 (by decide +kernel) dX3_remove_28 (fun x8 => ?_)
      refine or_iload_n C 3 rfl dX3_remove_31 ?_
      refine or_aald C 4 (fun _ => rfl) (by decide) rfl dX3_remove_32 (fun x9 => ?_)
      refine or_aast C 4 2 (fun _ => rfl) (by decide) rfl (by decide) rfl dX3_remove_33 (fun h10 => ?_)
      refine or_iinc C (y := (1 : Int32)) 2 rfl (by decide) (fun x11 => [(2, xi x11), (0, xr (some o)), (1, xr v1), (3, xi v3)]) (fun _ => rfl) (by decide) dX3_remove_34 (fun x11 => ?_)
      refine or_sub [1, 2, 0, 3] rfl ?_
      exact w_X3_remove_37 C hl h0 h10 o v1 x11 v3
theorem w_X3_remove_4 {G : oh_G} {l : Launch} (C : oh_C G cX3_remove wsX3_remove RX3 rmX3_remove 4) (hl : G.1.2.1 = l) (h0 : oh_H) (h : oh_H) (o : Nat) (v1 : Option Nat) (v2 : Int32) (v3 : Int32) : oh_J (oh_TV h0 0 0 none G) (f_X3_remove_4 h o v1 v2 v3) (oh_V G 0 0 h 4 [(0, xr (some o)), (1, xr v1), (2, xi v2), (3, xi v3)] []) := by
  unfold f_X3_remove_4
  exact oj_loop (P := pv_X3_remove_4 G o v1) (fun s => wb_X3_remove_4 C hl h0 s.1 o v1 s.2.1 s.2.2) 1000000 (h, v2, v3)
set_option maxHeartbeats 4000000 in
set_option maxRecDepth 100000 in
theorem w_X3_remove_0 {G : oh_G} {l : Launch} (C : oh_C G cX3_remove wsX3_remove RX3 rmX3_remove 4) (hl : G.1.2.1 = l) (h0 : oh_H) (h : oh_H) (o : Nat) (v1 : Option Nat) : oh_J (oh_TV h0 0 0 none G) (f_X3_remove h o v1) (oh_V G 0 0 h 0 [(0, xr (some o)), (1, xr v1)] []) := by
  unfold f_X3_remove
  refine or_iconst C (v := (0 : Int32)) dX3_remove_0 (by decide) ?_
  refine or_istore_n C (fun x1 => [(2, xi x1), (0, xr (some o)), (1, xr v1)]) (fun _ => rfl) (by decide) dX3_remove_1 (fun x1 => ?_)
  refine or_iconst C (v := (0 : Int32)) dX3_remove_2 (by decide) ?_
  refine or_istore_n C (fun x2 => [(3, xi x2), (2, xi x1), (0, xr (some o)), (1, xr v1)]) (fun _ => rfl) (by decide) dX3_remove_3 (fun x2 => ?_)
  refine or_sub [2, 3, 1, 0] rfl ?_
  exact w_X3_remove_4 C hl h0 h o v1 x1 x2
theorem m_X3_remove (l : Launch) (h : oh_H) (o : Nat) (v1 : Option Nat) (p : oh_H) (hf : f_X3_remove h o v1 = some p) : oh_M l yX3_remove wsX3_remove rmX3_remove 0 0 [xr (some o), xr v1] h none p :=
  oh_met (cc := cX3_remove) (maxL := 4) (ret := none) (by decide) rfl (Nat.le_of_ble_eq_true rfl) (fun G C hl hN E => w_X3_remove_0 C hl h h o v1 p hf E)
/-! X3_mayBegin -/
theorem k_X3_mayBegin_f41 : Cond.fieldLink RX3 41 "OilPress$Mill" "isPressing" "Z" ∈ wsX3_mayBegin := List.mem_of_getElem? (i := 1) (by decide +kernel)
theorem u_X3_mayBegin_3 : ∀ w ∈ u_ws RX3 TX3 14, w ∈ wsX3_mayBegin := fun w h => List.mem_cons_of_mem _ (List.mem_append_left _ (List.mem_append_right _ (h)))
theorem k_X3_mayBegin_f21 : Cond.fieldLink RX3 21 "OilPress$Mill" "size" "I" ∈ wsX3_mayBegin := List.mem_of_getElem? (i := 2) (by decide +kernel)
theorem k_X3_mayBegin_f25 : Cond.fieldLink RX3 25 "OilPress$Mill" "least" "I" ∈ wsX3_mayBegin := List.mem_of_getElem? (i := 3) (by decide +kernel)
theorem k_X3_mayBegin_f11 : Cond.fieldLink RX3 11 "OilPress$Mill" "bin" "[LOilPress$Lot;" ∈ wsX3_mayBegin := List.mem_of_getElem? (i := 4) (by decide +kernel)
abbrev rmX3_mayBegin : Room := { frames := 1, cells := 0, slots := 0, locals := 22 }
def f_X3_mayBegin_22 (h : oh_H) (o : Nat) : Option (Int32) :=
  oh_bz (0 : Int32) (some (0 : Int32))
def f_X3_mayBegin_60 (h : oh_H) (o : Nat) (s0 : Int32) : Option (Int32) :=
  oh_bz s0 (some s0)
def f_X3_mayBegin_55 (h : oh_H) (o : Nat) : Option (Int32) :=
  f_X3_mayBegin_60 h o (1 : Int32)
def f_X3_mayBegin_59 (h : oh_H) (o : Nat) : Option (Int32) :=
  f_X3_mayBegin_60 h o (0 : Int32)
def f_X3_mayBegin (h : oh_H) (o : Nat) (v1 : Int32) : Option (Int32) :=
  (oh_gI h (some o) 201).bind fun x1 => if x1 = 0 then (oh_rc h (some o) 4 fun o3 => (f_X3_isBusy h o3 v1).bind fun p4 => if p4 = 0 then ((oh_gI h (some o) 195).bind fun x6 => if x6 = 0 then (f_X3_mayBegin_22 h o) else (oh_rc h (some o) 4 fun o8 => (f_X3_tenthsInBin h o8).bind fun p9 => (oh_gI h (some o) 196).bind fun x11 => if x11 ≤ p9 then (f_X3_mayBegin_55 h o) else ((oh_gI h (some o) 195).bind fun x12 => if x12 = (1 : Int32) then ((oh_gR h (some o) 193).bind fun x13 => (oh_aR h x13 24 (0 : Int32)).bind fun x14 => oh_rc h x14 3 fun o15 => (f_X2_mayBeAlone h o15).bind fun p18 => if p18 = 0 then (f_X3_mayBegin_59 h o) else (f_X3_mayBegin_55 h o)) else (f_X3_mayBegin_59 h o)))) else (f_X3_mayBegin_22 h o)) else (f_X3_mayBegin_22 h o)
set_option maxHeartbeats 4000000 in
set_option maxRecDepth 100000 in
theorem w_X3_mayBegin_22 {G : oh_G} {l : Launch} (C : oh_C G cX3_mayBegin wsX3_mayBegin RX3 rmX3_mayBegin 2) (hl : G.1.2.1 = l) (h : oh_H) (o : Nat) : oh_J (oh_TR h xi (some .boolean) G) (f_X3_mayBegin_22 h o) (oh_V G 0 0 h 22 [] []) := by
  unfold f_X3_mayBegin_22
  refine or_iconst C (v := (0 : Int32)) dX3_mayBegin_22 (by decide) ?_
  exact or_zretR C dX3_mayBegin_23
set_option maxHeartbeats 4000000 in
set_option maxRecDepth 100000 in
theorem w_X3_mayBegin_60 {G : oh_G} {l : Launch} (C : oh_C G cX3_mayBegin wsX3_mayBegin RX3 rmX3_mayBegin 2) (hl : G.1.2.1 = l) (h : oh_H) (o : Nat) (s0 : Int32) : oh_J (oh_TR h xi (some .boolean) G) (f_X3_mayBegin_60 h o s0) (oh_V G 0 0 h 60 [] [xi s0]) := by
  unfold f_X3_mayBegin_60
  exact or_zretR C dX3_mayBegin_60
set_option maxHeartbeats 4000000 in
set_option maxRecDepth 100000 in
theorem w_X3_mayBegin_55 {G : oh_G} {l : Launch} (C : oh_C G cX3_mayBegin wsX3_mayBegin RX3 rmX3_mayBegin 2) (hl : G.1.2.1 = l) (h : oh_H) (o : Nat) : oh_J (oh_TR h xi (some .boolean) G) (f_X3_mayBegin_55 h o) (oh_V G 0 0 h 55 [] []) := by
  unfold f_X3_mayBegin_55
  refine or_iconst C (v := (1 : Int32)) dX3_mayBegin_55 (by decide) ?_
  refine or_goto C 60 dX3_mayBegin_56 (by decide) ?_
  refine or_sub [] rfl ?_
  exact w_X3_mayBegin_60 C hl h o (1 : Int32)
set_option maxHeartbeats 4000000 in
set_option maxRecDepth 100000 in
theorem w_X3_mayBegin_59 {G : oh_G} {l : Launch} (C : oh_C G cX3_mayBegin wsX3_mayBegin RX3 rmX3_mayBegin 2) (hl : G.1.2.1 = l) (h : oh_H) (o : Nat) : oh_J (oh_TR h xi (some .boolean) G) (f_X3_mayBegin_59 h o) (oh_V G 0 0 h 59 [] []) := by
  unfold f_X3_mayBegin_59
  refine or_iconst C (v := (0 : Int32)) dX3_mayBegin_59 (by decide) ?_
  refine or_sub [] rfl ?_
  exact w_X3_mayBegin_60 C hl h o (0 : Int32)
set_option maxHeartbeats 4000000 in
set_option maxRecDepth 100000 in
theorem w_X3_mayBegin_0 {G : oh_G} {l : Launch} (C : oh_C G cX3_mayBegin wsX3_mayBegin RX3 rmX3_mayBegin 2) (hl : G.1.2.1 = l) (h : oh_H) (o : Nat) (v1 : Int32) : oh_J (oh_TR h xi (some .boolean) G) (f_X3_mayBegin h o v1) (oh_V G 0 0 h 0 [(0, xr (some o)), (1, xi v1)] []) := by
  unfold f_X3_mayBegin
  refine or_aload_n C 0 rfl dX3_mayBegin_0 ?_
  refine or_getI C 3 9 rfl (by decide) rfl (by decide) u_X3_mayBegin_3 (by decide) k_X3_mayBegin_f41 (by decide +kernel) dX3_mayBegin_1 (fun x1 => ?_)
  refine or_if_ne C 22 dX3_mayBegin_4 (by decide) ?_ ?_
  · refine or_aload_n C 0 rfl dX3_mayBegin_7 ?_
    refine or_iload_n C 1 rfl dX3_mayBegin_8 ?_
    refine oj_rcs (fun q2 => ?_)
    refine oj_bind (fun p4 z5 => ?_)
    refine oj_v (P := oh_V G 0 0 h 12 [(0, xr (some o)), (1, xi v1)] [xi p4]) (fun k => or_callV C 1 hl (m_X3_isBusy _ h o v1 p4 z5) gX3_mayBegin_X3_isBusy rfl rfl rfl (by decide +kernel) ⟨Nat.le_of_ble_eq_true rfl, Nat.le_of_ble_eq_true rfl⟩ q2 rfl (by decide) (Nat.le_of_ble_eq_true rfl) dX3_mayBegin_9 ⟨Nat.le_of_ble_eq_true rfl, Nat.le_of_ble_eq_true rfl⟩ rfl rfl k) ?_
    refine or_if_ne C 22 dX3_mayBegin_12 (by decide) ?_ ?_
    · refine or_aload_n C 0 rfl dX3_mayBegin_15 ?_
      refine or_getI C 3 3 rfl (by decide) rfl (by decide) u_X3_mayBegin_3 (by decide) k_X3_mayBegin_f21 (by decide +kernel) dX3_mayBegin_16 (fun x6 => ?_)
      refine or_if_ne C 24 dX3_mayBegin_19 (by decide) ?_ ?_
      · refine or_sub [] rfl ?_
        exact w_X3_mayBegin_22 C hl h o
      · refine or_aload_n C 0 rfl dX3_mayBegin_24 ?_
        refine oj_rcs (fun q7 => ?_)
        refine oj_bind (fun p9 z10 => ?_)
        refine oj_v (P := oh_V G 0 0 h 28 [(0, xr (some o)), (1, xi v1)] [xi p9]) (fun k => or_callV C 0 hl (m_X3_tenthsInBin _ h o p9 z10) gX3_mayBegin_X3_tenthsInBin rfl rfl rfl (by decide +kernel) ⟨Nat.le_of_ble_eq_true rfl, Nat.le_of_ble_eq_true rfl⟩ q7 rfl (by decide) (Nat.le_of_ble_eq_true rfl) dX3_mayBegin_25 ⟨Nat.le_of_ble_eq_true rfl, Nat.le_of_ble_eq_true rfl⟩ rfl rfl k) ?_
        refine or_aload_n C 0 rfl dX3_mayBegin_28 ?_
        refine or_getI C 3 4 rfl (by decide) rfl (by decide) u_X3_mayBegin_3 (by decide) k_X3_mayBegin_f25 (by decide +kernel) dX3_mayBegin_29 (fun x11 => ?_)
        refine or_icmp_ge C 55 dX3_mayBegin_32 (by decide) ?_ ?_
        · refine or_sub [] rfl ?_
          exact w_X3_mayBegin_55 C hl h o
        · refine or_aload_n C 0 rfl dX3_mayBegin_35 ?_
          refine or_getI C 3 3 rfl (by decide) rfl (by decide) u_X3_mayBegin_3 (by decide) k_X3_mayBegin_f21 (by decide +kernel) dX3_mayBegin_36 (fun x12 => ?_)
          refine or_iconst C (v := (1 : Int32)) dX3_mayBegin_39 (by decide) ?_
          refine or_icmp_ne C 59 dX3_mayBegin_40 (by decide) ?_ ?_
          · refine or_aload_n C 0 rfl dX3_mayBegin_43 ?_
            refine or_getR C 3 1 rfl (by decide) rfl (by decide) u_X3_mayBegin_3 (by decide) k_X3_mayBegin_f11 (by decide +kernel) dX3_mayBegin_44 (fun x13 => ?_)
            refine or_iconst C (v := (0 : Int32)) dX3_mayBegin_47 (by decide) ?_
            refine or_aald C 4 (fun _ => rfl) (by decide) rfl dX3_mayBegin_48 (fun x14 => ?_)
            refine oj_rc (fun o15 e17 q16 => ?_)
            refine oj_bind (fun p18 z19 => ?_)
            refine oj_v (P := oh_V G 0 0 h 52 [(0, xr (some o)), (1, xi v1)] [xi p18]) (fun k => or_callV C 0 hl (m_X2_mayBeAlone _ h o15 p18 z19) gX3_mayBegin_X2_mayBeAlone rfl rfl rfl (by decide +kernel) ⟨Nat.le_of_ble_eq_true rfl, Nat.le_of_ble_eq_true rfl⟩ q16 rfl (by decide) (Nat.le_of_ble_eq_true rfl) dX3_mayBegin_49 ⟨Nat.le_of_ble_eq_true rfl, Nat.le_of_ble_eq_true rfl⟩ rfl (by rw [e17]; rfl) k) ?_
            refine or_if_eq C 59 dX3_mayBegin_52 (by decide) ?_ ?_
            · refine or_sub [] rfl ?_
              exact w_X3_mayBegin_59 C hl h o
            · refine or_sub [] rfl ?_
              exact w_X3_mayBegin_55 C hl h o
          · refine or_sub [] rfl ?_
            exact w_X3_mayBegin_59 C hl h o
    · refine or_sub [] rfl ?_
      exact w_X3_mayBegin_22 C hl h o
  · refine or_sub [] rfl ?_
    exact w_X3_mayBegin_22 C hl h o
theorem m_X3_mayBegin (l : Launch) (h : oh_H) (o : Nat) (v1 : Int32) (p : Int32) (hf : f_X3_mayBegin h o v1 = some p) : oh_M l yX3_mayBegin wsX3_mayBegin rmX3_mayBegin 0 0 [xr (some o), xi v1] h (some (xi p)) h :=
  oh_met (cc := cX3_mayBegin) (maxL := 2) (ret := (some .boolean)) (by decide) rfl (Nat.le_of_ble_eq_true rfl) (fun G C hl hN E => w_X3_mayBegin_0 C hl h o v1 p hf E)
/-! X3_isClean -/
theorem k_X3_isClean_f21 : Cond.fieldLink RX3 21 "OilPress$Mill" "size" "I" ∈ wsX3_isClean := List.mem_of_getElem? (i := 1) (by decide +kernel)
theorem u_X3_isClean_3 : ∀ w ∈ u_ws RX3 TX3 14, w ∈ wsX3_isClean := fun w h => List.mem_cons_of_mem _ (List.mem_append_left _ (List.mem_append_right _ (h)))
theorem k_X3_isClean_f11 : Cond.fieldLink RX3 11 "OilPress$Mill" "bin" "[LOilPress$Lot;" ∈ wsX3_isClean := List.mem_of_getElem? (i := 2) (by decide +kernel)
theorem k_X3_isClean_f66 : Cond.fieldLink RX3 66 "OilPress$Lot" "kind" "I" ∈ wsX3_isClean := List.mem_of_getElem? (i := 3) (by decide +kernel)
theorem u_X3_isClean_2 : ∀ w ∈ u_ws RX2 TX2 12, w ∈ wsX3_isClean := fun w h => List.mem_cons_of_mem _ (List.mem_append_right _ (h))
abbrev rmX3_isClean : Room := { frames := 0, cells := 0, slots := 0, locals := 0 }
def f_X3_isClean_25 (h : oh_H) (o : Nat) (s0 : Int32) : Option (Int32) :=
  oh_bz s0 (some s0)
def f_X3_isClean_24 (h : oh_H) (o : Nat) : Option (Int32) :=
  f_X3_isClean_25 h o (0 : Int32)
def f_X3_isClean (h : oh_H) (o : Nat) : Option (Int32) :=
  (oh_gI h (some o) 195).bind fun x1 => if x1 ≤ 0 then (f_X3_isClean_24 h o) else ((oh_gR h (some o) 193).bind fun x2 => (oh_aR h x2 24 (0 : Int32)).bind fun x3 => (oh_gI h x3 131).bind fun x4 => if x4 = (2 : Int32) then (f_X3_isClean_25 h o (1 : Int32)) else (f_X3_isClean_24 h o))
set_option maxHeartbeats 4000000 in
set_option maxRecDepth 100000 in
theorem w_X3_isClean_25 {G : oh_G} {l : Launch} (C : oh_C G cX3_isClean wsX3_isClean RX3 rmX3_isClean 1) (hl : G.1.2.1 = l) (h : oh_H) (o : Nat) (s0 : Int32) : oh_J (oh_TR h xi (some .boolean) G) (f_X3_isClean_25 h o s0) (oh_V G 0 0 h 25 [] [xi s0]) := by
  unfold f_X3_isClean_25
  exact or_zretR C dX3_isClean_25
set_option maxHeartbeats 4000000 in
set_option maxRecDepth 100000 in
theorem w_X3_isClean_24 {G : oh_G} {l : Launch} (C : oh_C G cX3_isClean wsX3_isClean RX3 rmX3_isClean 1) (hl : G.1.2.1 = l) (h : oh_H) (o : Nat) : oh_J (oh_TR h xi (some .boolean) G) (f_X3_isClean_24 h o) (oh_V G 0 0 h 24 [] []) := by
  unfold f_X3_isClean_24
  refine or_iconst C (v := (0 : Int32)) dX3_isClean_24 (by decide) ?_
  refine or_sub [] rfl ?_
  exact w_X3_isClean_25 C hl h o (0 : Int32)
set_option maxHeartbeats 4000000 in
set_option maxRecDepth 100000 in
theorem w_X3_isClean_0 {G : oh_G} {l : Launch} (C : oh_C G cX3_isClean wsX3_isClean RX3 rmX3_isClean 1) (hl : G.1.2.1 = l) (h : oh_H) (o : Nat) : oh_J (oh_TR h xi (some .boolean) G) (f_X3_isClean h o) (oh_V G 0 0 h 0 [(0, xr (some o))] []) := by
  unfold f_X3_isClean
  refine or_aload_n C 0 rfl dX3_isClean_0 ?_
  refine or_getI C 3 3 rfl (by decide) rfl (by decide) u_X3_isClean_3 (by decide) k_X3_isClean_f21 (by decide +kernel) dX3_isClean_1 (fun x1 => ?_)
  refine or_if_le C 24 dX3_isClean_4 (by decide) ?_ ?_
  · refine or_sub [] rfl ?_
    exact w_X3_isClean_24 C hl h o
  · refine or_aload_n C 0 rfl dX3_isClean_7 ?_
    refine or_getR C 3 1 rfl (by decide) rfl (by decide) u_X3_isClean_3 (by decide) k_X3_isClean_f11 (by decide +kernel) dX3_isClean_8 (fun x2 => ?_)
    refine or_iconst C (v := (0 : Int32)) dX3_isClean_11 (by decide) ?_
    refine or_aald C 4 (fun _ => rfl) (by decide) rfl dX3_isClean_12 (fun x3 => ?_)
    refine or_getI C 2 3 rfl (by decide) rfl (by decide) u_X3_isClean_2 (by decide) k_X3_isClean_f66 (by decide +kernel) dX3_isClean_13 (fun x4 => ?_)
    refine or_iconst C (v := (2 : Int32)) dX3_isClean_16 (by decide) ?_
    refine or_icmp_ne C 24 dX3_isClean_17 (by decide) ?_ ?_
    · refine or_iconst C (v := (1 : Int32)) dX3_isClean_20 (by decide) ?_
      refine or_goto C 25 dX3_isClean_21 (by decide) ?_
      refine or_sub [] rfl ?_
      exact w_X3_isClean_25 C hl h o (1 : Int32)
    · refine or_sub [] rfl ?_
      exact w_X3_isClean_24 C hl h o
theorem m_X3_isClean (l : Launch) (h : oh_H) (o : Nat) (p : Int32) (hf : f_X3_isClean h o = some p) : oh_M l yX3_isClean wsX3_isClean rmX3_isClean 0 0 [xr (some o)] h (some (xi p)) h :=
  oh_met (cc := cX3_isClean) (maxL := 1) (ret := (some .boolean)) (by decide) rfl (Nat.le_of_ble_eq_true rfl) (fun G C hl hN E => w_X3_isClean_0 C hl h o p hf E)
/-! X3_hasLate -/
theorem k_X3_hasLate_f21 : Cond.fieldLink RX3 21 "OilPress$Mill" "size" "I" ∈ wsX3_hasLate := List.mem_of_getElem? (i := 1) (by decide +kernel)
theorem u_X3_hasLate_3 : ∀ w ∈ u_ws RX3 TX3 14, w ∈ wsX3_hasLate := fun w h => List.mem_cons_of_mem _ (List.mem_append_left _ (List.mem_append_right _ (h)))
theorem k_X3_hasLate_f11 : Cond.fieldLink RX3 11 "OilPress$Mill" "bin" "[LOilPress$Lot;" ∈ wsX3_hasLate := List.mem_of_getElem? (i := 2) (by decide +kernel)
theorem k_X3_hasLate_f66 : Cond.fieldLink RX3 66 "OilPress$Lot" "kind" "I" ∈ wsX3_hasLate := List.mem_of_getElem? (i := 3) (by decide +kernel)
theorem u_X3_hasLate_2 : ∀ w ∈ u_ws RX2 TX2 12, w ∈ wsX3_hasLate := fun w h => List.mem_cons_of_mem _ (List.mem_append_right _ (h))
abbrev rmX3_hasLate : Room := { frames := 0, cells := 0, slots := 0, locals := 0 }
def f_X3_hasLate_25 (h : oh_H) (o : Nat) (s0 : Int32) : Option (Int32) :=
  oh_bz s0 (some s0)
def f_X3_hasLate_24 (h : oh_H) (o : Nat) : Option (Int32) :=
  f_X3_hasLate_25 h o (0 : Int32)
def f_X3_hasLate (h : oh_H) (o : Nat) : Option (Int32) :=
  (oh_gI h (some o) 195).bind fun x1 => if x1 ≤ 0 then (f_X3_hasLate_24 h o) else ((oh_gR h (some o) 193).bind fun x2 => (oh_aR h x2 24 (0 : Int32)).bind fun x3 => (oh_gI h x3 131).bind fun x4 => if x4 = (3 : Int32) then (f_X3_hasLate_25 h o (1 : Int32)) else (f_X3_hasLate_24 h o))
set_option maxHeartbeats 4000000 in
set_option maxRecDepth 100000 in
theorem w_X3_hasLate_25 {G : oh_G} {l : Launch} (C : oh_C G cX3_hasLate wsX3_hasLate RX3 rmX3_hasLate 1) (hl : G.1.2.1 = l) (h : oh_H) (o : Nat) (s0 : Int32) : oh_J (oh_TR h xi (some .boolean) G) (f_X3_hasLate_25 h o s0) (oh_V G 0 0 h 25 [] [xi s0]) := by
  unfold f_X3_hasLate_25
  exact or_zretR C dX3_hasLate_25
set_option maxHeartbeats 4000000 in
set_option maxRecDepth 100000 in
theorem w_X3_hasLate_24 {G : oh_G} {l : Launch} (C : oh_C G cX3_hasLate wsX3_hasLate RX3 rmX3_hasLate 1) (hl : G.1.2.1 = l) (h : oh_H) (o : Nat) : oh_J (oh_TR h xi (some .boolean) G) (f_X3_hasLate_24 h o) (oh_V G 0 0 h 24 [] []) := by
  unfold f_X3_hasLate_24
  refine or_iconst C (v := (0 : Int32)) dX3_hasLate_24 (by decide) ?_
  refine or_sub [] rfl ?_
  exact w_X3_hasLate_25 C hl h o (0 : Int32)
set_option maxHeartbeats 4000000 in
set_option maxRecDepth 100000 in
theorem w_X3_hasLate_0 {G : oh_G} {l : Launch} (C : oh_C G cX3_hasLate wsX3_hasLate RX3 rmX3_hasLate 1) (hl : G.1.2.1 = l) (h : oh_H) (o : Nat) : oh_J (oh_TR h xi (some .boolean) G) (f_X3_hasLate h o) (oh_V G 0 0 h 0 [(0, xr (some o))] []) := by
  unfold f_X3_hasLate
  refine or_aload_n C 0 rfl dX3_hasLate_0 ?_
  refine or_getI C 3 3 rfl (by decide) rfl (by decide) u_X3_hasLate_3 (by decide) k_X3_hasLate_f21 (by decide +kernel) dX3_hasLate_1 (fun x1 => ?_)
  refine or_if_le C 24 dX3_hasLate_4 (by decide) ?_ ?_
  · refine or_sub [] rfl ?_
    exact w_X3_hasLate_24 C hl h o
  · refine or_aload_n C 0 rfl dX3_hasLate_7 ?_
    refine or_getR C 3 1 rfl (by decide) rfl (by decide) u_X3_hasLate_3 (by decide) k_X3_hasLate_f11 (by decide +kernel) dX3_hasLate_8 (fun x2 => ?_)
    refine or_iconst C (v := (0 : Int32)) dX3_hasLate_11 (by decide) ?_
    refine or_aald C 4 (fun _ => rfl) (by decide) rfl dX3_hasLate_12 (fun x3 => ?_)
    refine or_getI C 2 3 rfl (by decide) rfl (by decide) u_X3_hasLate_2 (by decide) k_X3_hasLate_f66 (by decide +kernel) dX3_hasLate_13 (fun x4 => ?_)
    refine or_iconst C (v := (3 : Int32)) dX3_hasLate_16 (by decide) ?_
    refine or_icmp_ne C 24 dX3_hasLate_17 (by decide) ?_ ?_
    · refine or_iconst C (v := (1 : Int32)) dX3_hasLate_20 (by decide) ?_
      refine or_goto C 25 dX3_hasLate_21 (by decide) ?_
      refine or_sub [] rfl ?_
      exact w_X3_hasLate_25 C hl h o (1 : Int32)
    · refine or_sub [] rfl ?_
      exact w_X3_hasLate_24 C hl h o
theorem m_X3_hasLate (l : Launch) (h : oh_H) (o : Nat) (p : Int32) (hf : f_X3_hasLate h o = some p) : oh_M l yX3_hasLate wsX3_hasLate rmX3_hasLate 0 0 [xr (some o)] h (some (xi p)) h :=
  oh_met (cc := cX3_hasLate) (maxL := 1) (ret := (some .boolean)) (by decide) rfl (Nat.le_of_ble_eq_true rfl) (fun G C hl hN E => w_X3_hasLate_0 C hl h o p hf E)
/-! X3_begin -/
theorem k_X3_begin_f38 : Cond.fieldLink RX3 38 "OilPress$Mill" "like" "I" ∈ wsX3_begin := List.mem_of_getElem? (i := 9) (by decide +kernel)
theorem u_X3_begin_3 : ∀ w ∈ u_ws RX3 TX3 14, w ∈ wsX3_begin := fun w h => List.mem_cons_of_mem _ (List.mem_append_left _ (List.mem_append_left _ (List.mem_append_right _ (h))))
theorem k_X3_begin_f34 : Cond.fieldLink RX3 34 "OilPress$Mill" "isWashed" "Z" ∈ wsX3_begin := List.mem_of_getElem? (i := 10) (by decide +kernel)
theorem k_X3_begin_f41 : Cond.fieldLink RX3 41 "OilPress$Mill" "isPressing" "Z" ∈ wsX3_begin := List.mem_of_getElem? (i := 11) (by decide +kernel)
theorem k_X3_begin_f31 : Cond.fieldLink RX3 31 "OilPress$Mill" "busyTill" "I" ∈ wsX3_begin := List.mem_of_getElem? (i := 12) (by decide +kernel)
theorem k_X3_begin_f47 : Cond.fieldLink RX3 47 "OilPress$Mill" "sourness" "I" ∈ wsX3_begin := List.mem_of_getElem? (i := 8) (by decide +kernel)
theorem k_X3_begin_f21 : Cond.fieldLink RX3 21 "OilPress$Mill" "size" "I" ∈ wsX3_begin := List.mem_of_getElem? (i := 1) (by decide +kernel)
theorem k_X3_begin_f11 : Cond.fieldLink RX3 11 "OilPress$Mill" "bin" "[LOilPress$Lot;" ∈ wsX3_begin := List.mem_of_getElem? (i := 2) (by decide +kernel)
theorem k_X3_begin_c107 : Cond.constantLong RX3 107 (1000) ∈ wsX3_begin := List.mem_of_getElem? (i := 6) (by decide +kernel)
theorem k_X3_begin_f44 : Cond.fieldLink RX3 44 "OilPress$Mill" "promised" "I" ∈ wsX3_begin := List.mem_of_getElem? (i := 7) (by decide +kernel)
theorem k_X3_begin_f63 : Cond.fieldLink RX3 63 "OilPress$Lot" "tenths" "I" ∈ wsX3_begin := List.mem_of_getElem? (i := 3) (by decide +kernel)
theorem u_X3_begin_2 : ∀ w ∈ u_ws RX2 TX2 12, w ∈ wsX3_begin := fun w h => List.mem_cons_of_mem _ (List.mem_append_left _ (List.mem_append_right _ (h)))
theorem k_X3_begin_f106 : Cond.fieldLink RX3 106 "OilPress$Lot" "sourness" "I" ∈ wsX3_begin := List.mem_of_getElem? (i := 4) (by decide +kernel)
theorem k_X3_begin_f80 : Cond.fieldLink RX3 80 "OilPress$Lot" "state" "I" ∈ wsX3_begin := List.mem_of_getElem? (i := 5) (by decide +kernel)
abbrev rmX3_begin : Room := { frames := 2, cells := 0, slots := 0, locals := 44 }
def f_X3_begin_140 (h : oh_H) (o : Nat) (v1 : Int32) (v3 : Int32) (s0 : Int32) (s1 : Option Nat) : Option (Int32 × oh_H) :=
  (oh_pI h s1 200 s0).bind fun h1 => oh_bz (0 : Int32) ((oh_pI h1 (some o) 199 (0 : Int32)).bind fun h2 => oh_bz (1 : Int32) ((oh_pI h2 (some o) 201 (1 : Int32)).bind fun h3 => (oh_pI h3 (some o) 198 (v1 + v3)).bind fun h4 => some (v3, h4)))
def f_X3_begin_116 (h : oh_H) (o : Nat) (v1 : Int32) (v3 : Int32) (s0 : Int32) (s1 : Option Nat) : Option (Int32 × oh_H) :=
  (oh_pI h s1 203 s0).bind fun h1 => (oh_gI h1 (some o) 195).bind fun x2 => if x2 ≤ 0 then (f_X3_begin_140 h1 o v1 v3 (-1 : Int32) (some o)) else ((oh_gR h1 (some o) 193).bind fun x3 => (oh_aR h1 x3 24 (0 : Int32)).bind fun x4 => oh_rc h1 x4 3 fun o5 => (f_X2_likeIfClean h1 o5).bind fun p8 => f_X3_begin_140 h1 o v1 v3 p8 (some o))
abbrev pv_X3_begin_20 (G : oh_G) (o : Nat) (v1 : Int32) (v2 : Int32) (v3 : Int32) : (oh_H × Int64 × Int64 × Int32) → Prop := fun s => oh_V G 0 0 s.1 20 [(0, xr (some o)), (1, xi v1), (2, xi v2), (3, xi v3), (4, xl s.2.1), (6, xl s.2.2.1), (8, xi s.2.2.2)] []
def b_X3_begin_20 (h : oh_H) (o : Nat) (v1 : Int32) (v2 : Int32) (v3 : Int32) (v4 : Int64) (v6 : Int64) (v8 : Int32) : Option ((oh_H × Int64 × Int64 × Int32) ⊕ (Int32 × oh_H)) :=
  (oh_gI h (some o) 195).bind fun x1 => if x1 ≤ v8 then (Option.map Sum.inr (if (1000 : Int64) = 0 then none else (oh_pI h (some o) 202 (Int64.toInt32 (v4 / (1000 : Int64)))).bind fun h2 => if (1 : Int32) ≤ v2 then (if (Int32.toInt64 v2) = 0 then none else f_X3_begin_116 h2 o v1 v3 (Int64.toInt32 (v6 / (Int32.toInt64 v2))) (some o)) else (f_X3_begin_116 h2 o v1 v3 (0 : Int32) (some o)))) else ((oh_gR h (some o) 193).bind fun x3 => (oh_aR h x3 24 v8).bind fun x4 => oh_rc h x4 3 fun o5 => (f_X2_oil h o5).bind fun p8 => oh_lt (v4 + p8) fun x10 => (oh_gR h (some o) 193).bind fun x11 => (oh_aR h x11 24 v8).bind fun x12 => (oh_gI h x12 133).bind fun x13 => (oh_gR h (some o) 193).bind fun x14 => (oh_aR h x14 24 v8).bind fun x15 => (oh_gI h x15 135).bind fun x16 => oh_lt (v6 + ((Int32.toInt64 x13) * (Int32.toInt64 x16))) fun x17 => (oh_gR h (some o) 193).bind fun x18 => (oh_aR h x18 24 v8).bind fun x19 => (oh_pI h x19 132 (4 : Int32)).bind fun h20 => oh_lt (v8 + (1 : Int32)) fun x21 => some (Sum.inl (h20, x10, x17, x21)))
def f_X3_begin_20 (h : oh_H) (o : Nat) (v1 : Int32) (v2 : Int32) (v3 : Int32) (v4 : Int64) (v6 : Int64) (v8 : Int32) : Option (Int32 × oh_H) := oh_loop (fun s : oh_H × Int64 × Int64 × Int32 => b_X3_begin_20 s.1 o v1 v2 v3 s.2.1 s.2.2.1 s.2.2.2) 1000000 (h, v4, v6, v8)
def f_X3_begin (h : oh_H) (o : Nat) (v1 : Int32) : Option (Int32 × oh_H) :=
  oh_rc h (some o) 4 fun o2 => (f_X3_tenthsInBin h o2).bind fun p3 => oh_lt p3 fun x5 => oh_rc h (some o) 4 fun o7 => (f_X3_hoursFor h o7 x5).bind fun p8 => oh_lt p8 fun x10 => oh_lt (0 : Int64) fun x11 => oh_lt (0 : Int64) fun x12 => oh_lt (0 : Int32) fun x13 => f_X3_begin_20 h o v1 x5 x10 x11 x12 x13
set_option maxHeartbeats 4000000 in
set_option maxRecDepth 100000 in
theorem w_X3_begin_140 {G : oh_G} {l : Launch} (C : oh_C G cX3_begin wsX3_begin RX3 rmX3_begin 9) (hl : G.1.2.1 = l) (h0 : oh_H) (h : oh_H) (o : Nat) (v1 : Int32) (v3 : Int32) (s0 : Int32) (s1 : Option Nat) : oh_J (oh_TW h0 xi 0 0 (some .int) G) (f_X3_begin_140 h o v1 v3 s0 s1) (oh_V G 0 0 h 140 [(0, xr (some o)), (1, xi v1), (3, xi v3)] [xi s0, xr s1]) := by
  unfold f_X3_begin_140
  refine or_putI C 3 8 rfl (by decide) rfl (by decide) u_X3_begin_3 tyX3 tyX3_ok nmX3 (by decide) k_X3_begin_f38 (Or.inl rfl) (by decide +kernel) rfl dX3_begin_140 (fun h1 => ?_)
  refine or_aload_n C 0 rfl dX3_begin_143 ?_
  refine or_iconst C (v := (0 : Int32)) dX3_begin_144 (by decide) ?_
  refine or_putZ C 3 7 rfl (by decide) rfl (by decide) u_X3_begin_3 tyX3 tyX3_ok nmX3 (by decide) k_X3_begin_f34 (Or.inl rfl) (by decide +kernel) rfl dX3_begin_145 (fun h2 => ?_)
  refine or_aload_n C 0 rfl dX3_begin_148 ?_
  refine or_iconst C (v := (1 : Int32)) dX3_begin_149 (by decide) ?_
  refine or_putZ C 3 9 rfl (by decide) rfl (by decide) u_X3_begin_3 tyX3 tyX3_ok nmX3 (by decide) k_X3_begin_f41 (Or.inl rfl) (by decide +kernel) rfl dX3_begin_150 (fun h3 => ?_)
  refine or_aload_n C 0 rfl dX3_begin_153 ?_
  refine or_iload_n C 1 rfl dX3_begin_154 ?_
  refine or_iload_n C 2 rfl dX3_begin_155 ?_
  refine or_iadd C dX3_begin_156 ?_
  refine or_putI C 3 6 rfl (by decide) rfl (by decide) u_X3_begin_3 tyX3 tyX3_ok nmX3 (by decide) k_X3_begin_f31 (Or.inl rfl) (by decide +kernel) rfl dX3_begin_157 (fun h4 => ?_)
  refine or_iload_n C 2 rfl dX3_begin_160 ?_
  exact or_iret C ⟨Nat.le_of_ble_eq_true rfl, Nat.le_of_ble_eq_true rfl⟩ dX3_begin_161
set_option maxHeartbeats 4000000 in
set_option maxRecDepth 100000 in
theorem w_X3_begin_116 {G : oh_G} {l : Launch} (C : oh_C G cX3_begin wsX3_begin RX3 rmX3_begin 9) (hl : G.1.2.1 = l) (h0 : oh_H) (h : oh_H) (o : Nat) (v1 : Int32) (v3 : Int32) (s0 : Int32) (s1 : Option Nat) : oh_J (oh_TW h0 xi 0 0 (some .int) G) (f_X3_begin_116 h o v1 v3 s0 s1) (oh_V G 0 0 h 116 [(0, xr (some o)), (1, xi v1), (3, xi v3)] [xi s0, xr s1]) := by
  unfold f_X3_begin_116
  refine or_putI C 3 11 rfl (by decide) rfl (by decide) u_X3_begin_3 tyX3 tyX3_ok nmX3 (by decide) k_X3_begin_f47 (Or.inl rfl) (by decide +kernel) rfl dX3_begin_116 (fun h1 => ?_)
  refine or_aload_n C 0 rfl dX3_begin_119 ?_
  refine or_aload_n C 0 rfl dX3_begin_120 ?_
  refine or_getI C 3 3 rfl (by decide) rfl (by decide) u_X3_begin_3 (by decide) k_X3_begin_f21 (by decide +kernel) dX3_begin_121 (fun x2 => ?_)
  refine or_if_le C 139 dX3_begin_124 (by decide) ?_ ?_
  · refine or_iconst C (v := (-1 : Int32)) dX3_begin_139 (by decide) ?_
    refine or_sub [0, 1, 2] rfl ?_
    exact w_X3_begin_140 C hl h0 h1 o v1 v3 (-1 : Int32) (some o)
  · refine or_aload_n C 0 rfl dX3_begin_127 ?_
    refine or_getR C 3 1 rfl (by decide) rfl (by decide) u_X3_begin_3 (by decide) k_X3_begin_f11 (by decide +kernel) dX3_begin_128 (fun x3 => ?_)
    refine or_iconst C (v := (0 : Int32)) dX3_begin_131 (by decide) ?_
    refine or_aald C 4 (fun _ => rfl) (by decide) rfl dX3_begin_132 (fun x4 => ?_)
    refine oj_rc (fun o5 e7 q6 => ?_)
    refine oj_bind (fun p8 z9 => ?_)
    refine oj_v (P := oh_V G 0 0 h1 136 [(0, xr (some o)), (1, xi v1), (3, xi v3)] [xi p8, xr (some o)]) (fun k => or_callV C 0 hl (m_X2_likeIfClean _ h1 o5 p8 z9) gX3_begin_X2_likeIfClean rfl rfl rfl (by decide +kernel) ⟨Nat.le_of_ble_eq_true rfl, Nat.le_of_ble_eq_true rfl⟩ q6 rfl (by decide) (Nat.le_of_ble_eq_true rfl) dX3_begin_133 ⟨Nat.le_of_ble_eq_true rfl, Nat.le_of_ble_eq_true rfl⟩ rfl (by rw [e7]; rfl) k) ?_
    refine or_goto C 140 dX3_begin_136 (by decide) ?_
    refine or_sub [0, 1, 2] rfl ?_
    exact w_X3_begin_140 C hl h0 h1 o v1 v3 p8 (some o)
set_option maxHeartbeats 4000000 in
set_option maxRecDepth 100000 in
theorem wb_X3_begin_20 {G : oh_G} {l : Launch} (C : oh_C G cX3_begin wsX3_begin RX3 rmX3_begin 9) (hl : G.1.2.1 = l) (h0 : oh_H) (h : oh_H) (o : Nat) (v1 : Int32) (v2 : Int32) (v3 : Int32) (v4 : Int64) (v6 : Int64) (v8 : Int32) : oh_J (oh_TL (pv_X3_begin_20 G o v1 v2 v3) (oh_TW h0 xi 0 0 (some .int) G)) (b_X3_begin_20 h o v1 v2 v3 v4 v6 v8) (oh_V G 0 0 h 20 [(0, xr (some o)), (1, xi v1), (2, xi v2), (3, xi v3), (4, xl v4), (6, xl v6), (8, xi v8)] []) := by
  unfold b_X3_begin_20
  refine or_iload C 6 rfl dX3_begin_20 ?_
  refine or_aload_n C 0 rfl dX3_begin_22 ?_
  refine or_getI C 3 3 rfl (by decide) rfl (by decide) u_X3_begin_3 (by decide) k_X3_begin_f21 (by decide +kernel) dX3_begin_23 (fun x1 => ?_)
  refine or_icmp_ge C 89 dX3_begin_26 (by decide) ?_ ?_
  · refine oj_inr ?_
    refine or_aload_n C 0 rfl dX3_begin_89 ?_
    refine or_lload C 4 rfl dX3_begin_90 ?_
    refine or_ldc2 C (v := (1000 : Int64)) k_X3_begin_c107 dX3_begin_92 ?_
    refine or_ldiv C dX3_begin_95 ?_
    refine or_l2i C dX3_begin_96 ?_
    refine or_putI C 3 10 rfl (by decide) rfl (by decide) u_X3_begin_3 tyX3 tyX3_ok nmX3 (by decide) k_X3_begin_f44 (Or.inl rfl) (by decide +kernel) rfl dX3_begin_97 (fun h2 => ?_)
    refine or_aload_n C 0 rfl dX3_begin_100 ?_
    refine or_iload_n C 2 rfl dX3_begin_101 ?_
    refine or_iconst C (v := (1 : Int32)) dX3_begin_102 (by decide) ?_
    refine or_icmp_ge C 110 dX3_begin_103 (by decide) ?_ ?_
    · refine or_lload C 5 rfl dX3_begin_110 ?_
      refine or_iload_n C 2 rfl dX3_begin_112 ?_
      refine or_i2l C dX3_begin_113 ?_
      refine or_ldiv C dX3_begin_114 ?_
      refine or_l2i C dX3_begin_115 ?_
      refine or_sub [0, 1, 3] rfl ?_
      exact w_X3_begin_116 C hl h0 h2 o v1 v3 (Int64.toInt32 (v6 / (Int32.toInt64 v2))) (some o)
    · refine or_iconst C (v := (0 : Int32)) dX3_begin_106 (by decide) ?_
      refine or_goto C 116 dX3_begin_107 (by decide) ?_
      refine or_sub [0, 1, 3] rfl ?_
      exact w_X3_begin_116 C hl h0 h2 o v1 v3 (0 : Int32) (some o)
  · refine or_lload C 4 rfl dX3_begin_29 ?_
    refine or_aload_n C 0 rfl dX3_begin_31 ?_
    refine or_getR C 3 1 rfl (by decide) rfl (by decide) u_X3_begin_3 (by decide) k_X3_begin_f11 (by decide +kernel) dX3_begin_32 (fun x3 => ?_)
    refine or_iload C 6 rfl dX3_begin_35 ?_
    refine or_aald C 4 (fun _ => rfl) (by decide) rfl dX3_begin_37 (fun x4 => ?_)
    refine oj_rc (fun o5 e7 q6 => ?_)
    refine oj_bind (fun p8 z9 => ?_)
    refine oj_v (P := oh_V G 0 0 h 41 [(0, xr (some o)), (1, xi v1), (2, xi v2), (3, xi v3), (4, xl v4), (6, xl v6), (8, xi v8)] [xl p8, xl v4]) (fun k => or_callV C 0 hl (m_X2_oil _ h o5 p8 z9) gX3_begin_X2_oil rfl rfl rfl (by decide +kernel) ⟨Nat.le_of_ble_eq_true rfl, Nat.le_of_ble_eq_true rfl⟩ q6 rfl (by decide) (Nat.le_of_ble_eq_true rfl) dX3_begin_38 ⟨Nat.le_of_ble_eq_true rfl, Nat.le_of_ble_eq_true rfl⟩ rfl (by rw [e7]; rfl) k) ?_
    refine or_ladd C dX3_begin_41 ?_
    refine or_lstore C (fun x10 => [(4, xl x10), (0, xr (some o)), (1, xi v1), (2, xi v2), (3, xi v3), (6, xl v6), (8, xi v8)]) (fun _ => rfl) (by decide) dX3_begin_42 (fun x10 => ?_)
    refine or_lload C 5 rfl dX3_begin_44 ?_
    refine or_aload_n C 1 rfl dX3_begin_46 ?_
    refine or_getR C 3 1 rfl (by decide) rfl (by decide) u_X3_begin_3 (by decide) k_X3_begin_f11 (by decide +kernel) dX3_begin_47 (fun x11 => ?_)
    refine or_iload C 6 rfl dX3_begin_50 ?_
    refine or_aald C 4 (fun _ => rfl) (by decide) rfl dX3_begin_52 (fun x12 => ?_)
    refine or_getI C 2 5 rfl (by decide) rfl (by decide) u_X3_begin_2 (by decide) k_X3_begin_f63 (by decide +kernel) dX3_begin_53 (fun x13 => ?_)
    refine or_i2l C dX3_begin_56 ?_
    refine or_aload_n C 1 rfl dX3_begin_57 ?_
    refine or_getR C 3 1 rfl (by decide) rfl (by decide) u_X3_begin_3 (by decide) k_X3_begin_f11 (by decide +kernel) dX3_begin_58 (fun x14 => ?_)
    refine or_iload C 6 rfl dX3_begin_61 ?_
    refine or_aald C 4 (fun _ => rfl) (by decide) rfl dX3_begin_63 (fun x15 => ?_)
    refine or_getI C 2 7 rfl (by decide) rfl (by decide) u_X3_begin_2 (by decide) k_X3_begin_f106 (by decide +kernel) dX3_begin_64 (fun x16 => ?_)
    refine or_i2l C dX3_begin_67 ?_
    refine or_lmul C dX3_begin_68 ?_
    refine or_ladd C dX3_begin_69 ?_
    refine or_lstore C (fun x17 => [(6, xl x17), (4, xl x10), (0, xr (some o)), (1, xi v1), (2, xi v2), (3, xi v3), (8, xi v8)]) (fun _ => rfl) (by decide) dX3_begin_70 (fun x17 => ?_)
    refine or_aload_n C 2 rfl dX3_begin_72 ?_
    refine or_getR C 3 1 rfl (by decide) rfl (by decide) u_X3_begin_3 (by decide) k_X3_begin_f11 (by decide +kernel) dX3_begin_73 (fun x18 => ?_)
    refine or_iload C 6 rfl dX3_begin_76 ?_
    refine or_aald C 4 (fun _ => rfl) (by decide) rfl dX3_begin_78 (fun x19 => ?_)
    refine or_iconst C (v := (4 : Int32)) dX3_begin_79 (by decide) ?_
    refine or_putI C 2 4 rfl (by decide) rfl (by decide) u_X3_begin_2 tyX2 tyX2_ok nmX2 (by decide) k_X3_begin_f80 (Or.inl rfl) (by decide +kernel) rfl dX3_begin_80 (fun h20 => ?_)
    refine or_iinc C (y := (1 : Int32)) 6 rfl (by decide) (fun x21 => [(8, xi x21), (6, xl x17), (4, xl x10), (0, xr (some o)), (1, xi v1), (2, xi v2), (3, xi v3)]) (fun _ => rfl) (by decide) dX3_begin_83 (fun x21 => ?_)
    refine or_goto C 20 dX3_begin_86 (by decide) ?_
    refine or_sub [3, 4, 5, 6, 2, 1, 0] rfl ?_
    exact oj_back (P := pv_X3_begin_20 G o v1 v2 v3) (s := (h20, x10, x17, x21))
theorem w_X3_begin_20 {G : oh_G} {l : Launch} (C : oh_C G cX3_begin wsX3_begin RX3 rmX3_begin 9) (hl : G.1.2.1 = l) (h0 : oh_H) (h : oh_H) (o : Nat) (v1 : Int32) (v2 : Int32) (v3 : Int32) (v4 : Int64) (v6 : Int64) (v8 : Int32) : oh_J (oh_TW h0 xi 0 0 (some .int) G) (f_X3_begin_20 h o v1 v2 v3 v4 v6 v8) (oh_V G 0 0 h 20 [(0, xr (some o)), (1, xi v1), (2, xi v2), (3, xi v3), (4, xl v4), (6, xl v6), (8, xi v8)] []) := by
  unfold f_X3_begin_20
  exact oj_loop (P := pv_X3_begin_20 G o v1 v2 v3) (fun s => wb_X3_begin_20 C hl h0 s.1 o v1 v2 v3 s.2.1 s.2.2.1 s.2.2.2) 1000000 (h, v4, v6, v8)
set_option maxHeartbeats 4000000 in
set_option maxRecDepth 100000 in
theorem w_X3_begin_0 {G : oh_G} {l : Launch} (C : oh_C G cX3_begin wsX3_begin RX3 rmX3_begin 9) (hl : G.1.2.1 = l) (h0 : oh_H) (h : oh_H) (o : Nat) (v1 : Int32) : oh_J (oh_TW h0 xi 0 0 (some .int) G) (f_X3_begin h o v1) (oh_V G 0 0 h 0 [(0, xr (some o)), (1, xi v1)] []) := by
  unfold f_X3_begin
  refine or_aload_n C 0 rfl dX3_begin_0 ?_
  refine oj_rcs (fun q1 => ?_)
  refine oj_bind (fun p3 z4 => ?_)
  refine oj_v (P := oh_V G 0 0 h 4 [(0, xr (some o)), (1, xi v1)] [xi p3]) (fun k => or_callV C 0 hl (m_X3_tenthsInBin _ h o p3 z4) gX3_begin_X3_tenthsInBin rfl rfl rfl (by decide +kernel) ⟨Nat.le_of_ble_eq_true rfl, Nat.le_of_ble_eq_true rfl⟩ q1 rfl (by decide) (Nat.le_of_ble_eq_true rfl) dX3_begin_1 ⟨Nat.le_of_ble_eq_true rfl, Nat.le_of_ble_eq_true rfl⟩ rfl rfl k) ?_
  refine or_istore_n C (fun x5 => [(2, xi x5), (0, xr (some o)), (1, xi v1)]) (fun _ => rfl) (by decide) dX3_begin_4 (fun x5 => ?_)
  refine or_aload_n C 1 rfl dX3_begin_5 ?_
  refine or_iload_n C 0 rfl dX3_begin_6 ?_
  refine oj_rcs (fun q6 => ?_)
  refine oj_bind (fun p8 z9 => ?_)
  refine oj_v (P := oh_V G 0 0 h 10 [(2, xi x5), (0, xr (some o)), (1, xi v1)] [xi p8]) (fun k => or_callV C 1 hl (m_X3_hoursFor _ h o x5 p8 z9) gX3_begin_X3_hoursFor rfl rfl rfl (by decide +kernel) ⟨Nat.le_of_ble_eq_true rfl, Nat.le_of_ble_eq_true rfl⟩ q6 rfl (by decide) (Nat.le_of_ble_eq_true rfl) dX3_begin_7 ⟨Nat.le_of_ble_eq_true rfl, Nat.le_of_ble_eq_true rfl⟩ rfl rfl k) ?_
  refine or_istore_n C (fun x10 => [(3, xi x10), (2, xi x5), (0, xr (some o)), (1, xi v1)]) (fun _ => rfl) (by decide) dX3_begin_10 (fun x10 => ?_)
  refine or_lconst C (v := (0 : Int64)) dX3_begin_11 rfl ?_
  refine or_lstore C (fun x11 => [(4, xl x11), (3, xi x10), (2, xi x5), (0, xr (some o)), (1, xi v1)]) (fun _ => rfl) (by decide) dX3_begin_12 (fun x11 => ?_)
  refine or_lconst C (v := (0 : Int64)) dX3_begin_14 rfl ?_
  refine or_lstore C (fun x12 => [(6, xl x12), (4, xl x11), (3, xi x10), (2, xi x5), (0, xr (some o)), (1, xi v1)]) (fun _ => rfl) (by decide) dX3_begin_15 (fun x12 => ?_)
  refine or_iconst C (v := (0 : Int32)) dX3_begin_17 (by decide) ?_
  refine or_istore C (fun x13 => [(8, xi x13), (6, xl x12), (4, xl x11), (3, xi x10), (2, xi x5), (0, xr (some o)), (1, xi v1)]) (fun _ => rfl) (by decide) dX3_begin_18 (fun x13 => ?_)
  refine or_sub [5, 6, 4, 3, 2, 1, 0] rfl ?_
  exact w_X3_begin_20 C hl h0 h o v1 x5 x10 x11 x12 x13
theorem m_X3_begin (l : Launch) (h : oh_H) (o : Nat) (v1 : Int32) (p : Int32 × oh_H) (hf : f_X3_begin h o v1 = some p) : oh_M l yX3_begin wsX3_begin rmX3_begin 0 0 [xr (some o), xi v1] h (some (xi p.1)) p.2 :=
  oh_met (cc := cX3_begin) (maxL := 9) (ret := (some .int)) (by decide) rfl (Nat.le_of_ble_eq_true rfl) (fun G C hl hN E => w_X3_begin_0 C hl h h o v1 p hf E)
/-! X3_giveOneOver -/
theorem k_X3_giveOneOver_f17 : Cond.fieldLink RX3 17 "OilPress$Mill" "cutOff" "[J" ∈ wsX3_giveOneOver := List.mem_of_getElem? (i := 4) (by decide +kernel)
theorem u_X3_giveOneOver_3 : ∀ w ∈ u_ws RX3 TX3 14, w ∈ wsX3_giveOneOver := fun w h => List.mem_cons_of_mem _ (List.mem_append_left _ (List.mem_append_right _ (h)))
theorem k_X3_giveOneOver_f21 : Cond.fieldLink RX3 21 "OilPress$Mill" "size" "I" ∈ wsX3_giveOneOver := List.mem_of_getElem? (i := 1) (by decide +kernel)
theorem k_X3_giveOneOver_f11 : Cond.fieldLink RX3 11 "OilPress$Mill" "bin" "[LOilPress$Lot;" ∈ wsX3_giveOneOver := List.mem_of_getElem? (i := 2) (by decide +kernel)
theorem k_X3_giveOneOver_f114 : Cond.fieldLink RX3 114 "OilPress$Lot" "share" "I" ∈ wsX3_giveOneOver := List.mem_of_getElem? (i := 5) (by decide +kernel)
theorem u_X3_giveOneOver_2 : ∀ w ∈ u_ws RX2 TX2 12, w ∈ wsX3_giveOneOver := fun w h => List.mem_cons_of_mem _ (List.mem_append_right _ (h))
theorem k_X3_giveOneOver_c121 : Cond.constantLong RX3 121 (-1) ∈ wsX3_giveOneOver := List.mem_of_getElem? (i := 6) (by decide +kernel)
theorem k_X3_giveOneOver_f120 : Cond.fieldLink RX3 120 "OilPress$Lot" "number" "I" ∈ wsX3_giveOneOver := List.mem_of_getElem? (i := 3) (by decide +kernel)
abbrev rmX3_giveOneOver : Room := { frames := 0, cells := 0, slots := 0, locals := 0 }
def f_X3_giveOneOver_114 (h : oh_H) (o : Nat) : Option (oh_H) :=
  some h
def f_X3_giveOneOver_77 (h : oh_H) (o : Nat) (v1 : Int32) (v2 : Int32) : Option ((oh_H × Int32 × Int32) ⊕ (oh_H)) :=
  oh_lt (v2 + (1 : Int32)) fun x1 => some (Sum.inl (h, v1, x1))
def f_X3_giveOneOver_75 (h : oh_H) (o : Nat) (v2 : Int32) : Option ((oh_H × Int32 × Int32) ⊕ (oh_H)) :=
  oh_lt v2 fun x1 => f_X3_giveOneOver_77 h o x1 v2
def f_X3_giveOneOver_38 (h : oh_H) (o : Nat) (v1 : Int32) (v2 : Int32) (s0 : Int32) : Option ((oh_H × Int32 × Int32) ⊕ (oh_H)) :=
  oh_lt s0 fun x1 => (oh_gR h (some o) 194).bind fun x2 => (oh_aL h x2 v2).bind fun x3 => (oh_gR h (some o) 194).bind fun x4 => (oh_aL h x4 v1).bind fun x5 => if 0 < (lg_cmp x3 x5) then (f_X3_giveOneOver_75 h o v2) else ((oh_gR h (some o) 194).bind fun x6 => (oh_aL h x6 v2).bind fun x7 => (oh_gR h (some o) 194).bind fun x8 => (oh_aL h x8 v1).bind fun x9 => if (lg_cmp x7 x9) = 0 then (if x1 = 0 then (f_X3_giveOneOver_77 h o v1 v2) else (f_X3_giveOneOver_75 h o v2)) else (f_X3_giveOneOver_77 h o v1 v2))
abbrev pv_X3_giveOneOver_4 (G : oh_G) (o : Nat) : (oh_H × Int32 × Int32) → Prop := fun s => oh_V G 0 0 s.1 4 [(0, xr (some o)), (1, xi s.2.1), (2, xi s.2.2)] []
def b_X3_giveOneOver_4 (h : oh_H) (o : Nat) (v1 : Int32) (v2 : Int32) : Option ((oh_H × Int32 × Int32) ⊕ (oh_H)) :=
  (oh_gI h (some o) 195).bind fun x1 => if x1 ≤ v2 then (Option.map Sum.inr ((oh_gI h (some o) 195).bind fun x2 => if x2 ≤ 0 then (f_X3_giveOneOver_114 h o) else ((oh_gR h (some o) 193).bind fun x3 => (oh_aR h x3 24 v1).bind fun x4 => (oh_gI h x4 136).bind fun x5 => (oh_pI h x4 136 (x5 + (1 : Int32))).bind fun h6 => (oh_gR h6 (some o) 194).bind fun x7 => (oh_tL h6 x7 v1 (-1 : Int64)).bind fun h8 => f_X3_giveOneOver_114 h8 o))) else ((oh_gR h (some o) 193).bind fun x9 => (oh_aR h x9 24 v2).bind fun x10 => (oh_gI h x10 128).bind fun x11 => (oh_gR h (some o) 193).bind fun x12 => (oh_aR h x12 24 v1).bind fun x13 => (oh_gI h x13 128).bind fun x14 => if x14 ≤ x11 then (f_X3_giveOneOver_38 h o v1 v2 (0 : Int32)) else (f_X3_giveOneOver_38 h o v1 v2 (1 : Int32)))
def f_X3_giveOneOver_4 (h : oh_H) (o : Nat) (v1 : Int32) (v2 : Int32) : Option (oh_H) := oh_loop (fun s : oh_H × Int32 × Int32 => b_X3_giveOneOver_4 s.1 o s.2.1 s.2.2) 1000000 (h, v1, v2)
def f_X3_giveOneOver (h : oh_H) (o : Nat) : Option (oh_H) :=
  oh_lt (0 : Int32) fun x1 => oh_lt (1 : Int32) fun x2 => f_X3_giveOneOver_4 h o x1 x2
set_option maxHeartbeats 4000000 in
set_option maxRecDepth 100000 in
theorem w_X3_giveOneOver_114 {G : oh_G} {l : Launch} (C : oh_C G cX3_giveOneOver wsX3_giveOneOver RX3 rmX3_giveOneOver 4) (hl : G.1.2.1 = l) (h0 : oh_H) (h : oh_H) (o : Nat) : oh_J (oh_TV h0 0 0 none G) (f_X3_giveOneOver_114 h o) (oh_V G 0 0 h 114 [] []) := by
  unfold f_X3_giveOneOver_114
  exact or_vret C ⟨Nat.le_of_ble_eq_true rfl, Nat.le_of_ble_eq_true rfl⟩ dX3_giveOneOver_114
set_option maxHeartbeats 4000000 in
set_option maxRecDepth 100000 in
theorem w_X3_giveOneOver_77 {G : oh_G} {l : Launch} (C : oh_C G cX3_giveOneOver wsX3_giveOneOver RX3 rmX3_giveOneOver 4) (hl : G.1.2.1 = l) (h0 : oh_H) (h : oh_H) (o : Nat) (v1 : Int32) (v2 : Int32) : oh_J (oh_TL (pv_X3_giveOneOver_4 G o) (oh_TV h0 0 0 none G)) (f_X3_giveOneOver_77 h o v1 v2) (oh_V G 0 0 h 77 [(0, xr (some o)), (1, xi v1), (2, xi v2)] []) := by
  unfold f_X3_giveOneOver_77
  refine or_iinc C (y := (1 : Int32)) 2 rfl (by decide) (fun x1 => [(2, xi x1), (0, xr (some o)), (1, xi v1)]) (fun _ => rfl) (by decide) dX3_giveOneOver_77 (fun x1 => ?_)
  refine or_goto C 4 dX3_giveOneOver_80 (by decide) ?_
  refine or_sub [1, 2, 0] rfl ?_
  exact oj_back (P := pv_X3_giveOneOver_4 G o) (s := (h, v1, x1))
set_option maxHeartbeats 4000000 in
set_option maxRecDepth 100000 in
theorem w_X3_giveOneOver_75 {G : oh_G} {l : Launch} (C : oh_C G cX3_giveOneOver wsX3_giveOneOver RX3 rmX3_giveOneOver 4) (hl : G.1.2.1 = l) (h0 : oh_H) (h : oh_H) (o : Nat) (v2 : Int32) : oh_J (oh_TL (pv_X3_giveOneOver_4 G o) (oh_TV h0 0 0 none G)) (f_X3_giveOneOver_75 h o v2) (oh_V G 0 0 h 75 [(0, xr (some o)), (2, xi v2)] []) := by
  unfold f_X3_giveOneOver_75
  refine or_iload_n C 1 rfl dX3_giveOneOver_75 ?_
  refine or_istore_n C (fun x1 => [(1, xi x1), (0, xr (some o)), (2, xi v2)]) (fun _ => rfl) (by decide) dX3_giveOneOver_76 (fun x1 => ?_)
  refine or_sub [1, 0, 2] rfl ?_
  exact w_X3_giveOneOver_77 C hl h0 h o x1 v2
set_option maxHeartbeats 4000000 in
set_option maxRecDepth 100000 in
theorem w_X3_giveOneOver_38 {G : oh_G} {l : Launch} (C : oh_C G cX3_giveOneOver wsX3_giveOneOver RX3 rmX3_giveOneOver 4) (hl : G.1.2.1 = l) (h0 : oh_H) (h : oh_H) (o : Nat) (v1 : Int32) (v2 : Int32) (s0 : Int32) : oh_J (oh_TL (pv_X3_giveOneOver_4 G o) (oh_TV h0 0 0 none G)) (f_X3_giveOneOver_38 h o v1 v2 s0) (oh_V G 0 0 h 38 [(0, xr (some o)), (1, xi v1), (2, xi v2)] [xi s0]) := by
  unfold f_X3_giveOneOver_38
  refine or_istore_n C (fun x1 => [(3, xi x1), (0, xr (some o)), (1, xi v1), (2, xi v2)]) (fun _ => rfl) (by decide) dX3_giveOneOver_38 (fun x1 => ?_)
  refine or_aload_n C 1 rfl dX3_giveOneOver_39 ?_
  refine or_getR C 3 2 rfl (by decide) rfl (by decide) u_X3_giveOneOver_3 (by decide) k_X3_giveOneOver_f17 (by decide +kernel) dX3_giveOneOver_40 (fun x2 => ?_)
  refine or_iload_n C 3 rfl dX3_giveOneOver_43 ?_
  refine or_lald C dX3_giveOneOver_44 (fun x3 => ?_)
  refine or_aload_n C 1 rfl dX3_giveOneOver_45 ?_
  refine or_getR C 3 2 rfl (by decide) rfl (by decide) u_X3_giveOneOver_3 (by decide) k_X3_giveOneOver_f17 (by decide +kernel) dX3_giveOneOver_46 (fun x4 => ?_)
  refine or_iload_n C 2 rfl dX3_giveOneOver_49 ?_
  refine or_lald C dX3_giveOneOver_50 (fun x5 => ?_)
  refine or_lcmp C dX3_giveOneOver_51 ?_
  refine or_if_gt C 75 dX3_giveOneOver_52 (by decide) ?_ ?_
  · refine or_sub [1, 3] rfl ?_
    exact w_X3_giveOneOver_75 C hl h0 h o v2
  · refine or_aload_n C 1 rfl dX3_giveOneOver_55 ?_
    refine or_getR C 3 2 rfl (by decide) rfl (by decide) u_X3_giveOneOver_3 (by decide) k_X3_giveOneOver_f17 (by decide +kernel) dX3_giveOneOver_56 (fun x6 => ?_)
    refine or_iload_n C 3 rfl dX3_giveOneOver_59 ?_
    refine or_lald C dX3_giveOneOver_60 (fun x7 => ?_)
    refine or_aload_n C 1 rfl dX3_giveOneOver_61 ?_
    refine or_getR C 3 2 rfl (by decide) rfl (by decide) u_X3_giveOneOver_3 (by decide) k_X3_giveOneOver_f17 (by decide +kernel) dX3_giveOneOver_62 (fun x8 => ?_)
    refine or_iload_n C 2 rfl dX3_giveOneOver_65 ?_
    refine or_lald C dX3_giveOneOver_66 (fun x9 => ?_)
    refine or_lcmp C dX3_giveOneOver_67 ?_
    refine or_if_ne C 77 dX3_giveOneOver_68 (by decide) ?_ ?_
    · refine or_iload_n C 0 rfl dX3_giveOneOver_71 ?_
      refine or_if_eq C 77 dX3_giveOneOver_72 (by decide) ?_ ?_
      · refine or_sub [1, 2, 3] rfl ?_
        exact w_X3_giveOneOver_77 C hl h0 h o v1 v2
      · refine or_sub [1, 3] rfl ?_
        exact w_X3_giveOneOver_75 C hl h0 h o v2
    · refine or_sub [1, 2, 3] rfl ?_
      exact w_X3_giveOneOver_77 C hl h0 h o v1 v2
set_option maxHeartbeats 4000000 in
set_option maxRecDepth 100000 in
theorem wb_X3_giveOneOver_4 {G : oh_G} {l : Launch} (C : oh_C G cX3_giveOneOver wsX3_giveOneOver RX3 rmX3_giveOneOver 4) (hl : G.1.2.1 = l) (h0 : oh_H) (h : oh_H) (o : Nat) (v1 : Int32) (v2 : Int32) : oh_J (oh_TL (pv_X3_giveOneOver_4 G o) (oh_TV h0 0 0 none G)) (b_X3_giveOneOver_4 h o v1 v2) (oh_V G 0 0 h 4 [(0, xr (some o)), (1, xi v1), (2, xi v2)] []) := by
  unfold b_X3_giveOneOver_4
  refine or_iload_n C 2 rfl dX3_giveOneOver_4 ?_
  refine or_aload_n C 0 rfl dX3_giveOneOver_5 ?_
  refine or_getI C 3 3 rfl (by decide) rfl (by decide) u_X3_giveOneOver_3 (by decide) k_X3_giveOneOver_f21 (by decide +kernel) dX3_giveOneOver_6 (fun x1 => ?_)
  refine or_icmp_ge C 83 dX3_giveOneOver_9 (by decide) ?_ ?_
  · refine oj_inr ?_
    refine or_aload_n C 0 rfl dX3_giveOneOver_83 ?_
    refine or_getI C 3 3 rfl (by decide) rfl (by decide) u_X3_giveOneOver_3 (by decide) k_X3_giveOneOver_f21 (by decide +kernel) dX3_giveOneOver_84 (fun x2 => ?_)
    refine or_if_le C 114 dX3_giveOneOver_87 (by decide) ?_ ?_
    · refine or_sub [] rfl ?_
      exact w_X3_giveOneOver_114 C hl h0 h o
    · refine or_aload_n C 0 rfl dX3_giveOneOver_90 ?_
      refine or_getR C 3 1 rfl (by decide) rfl (by decide) u_X3_giveOneOver_3 (by decide) k_X3_giveOneOver_f11 (by decide +kernel) dX3_giveOneOver_91 (fun x3 => ?_)
      refine or_iload_n C 1 rfl dX3_giveOneOver_94 ?_
      refine or_aald C 4 (fun _ => rfl) (by decide) rfl dX3_giveOneOver_95 (fun x4 => ?_)
      refine or_dup C rfl dX3_giveOneOver_96 ?_
      refine or_getI C 2 8 rfl (by decide) rfl (by decide) u_X3_giveOneOver_2 (by decide) k_X3_giveOneOver_f114 (by decide +kernel) dX3_giveOneOver_97 (fun x5 => ?_)
      refine or_iconst C (v := (1 : Int32)) dX3_giveOneOver_100 (by decide) ?_
      refine or_iadd C dX3_giveOneOver_101 ?_
      refine or_putI C 2 8 rfl (by decide) rfl (by decide) u_X3_giveOneOver_2 tyX2 tyX2_ok nmX2 (by decide) k_X3_giveOneOver_f114 (Or.inl rfl) (by decide +kernel) rfl dX3_giveOneOver_102 (fun h6 => ?_)
      refine or_aload_n C 0 rfl dX3_giveOneOver_105 ?_
      refine or_getR C 3 2 rfl (by decide) rfl (by decide) u_X3_giveOneOver_3 (by decide) k_X3_giveOneOver_f17 (by decide +kernel) dX3_giveOneOver_106 (fun x7 => ?_)
      refine or_iload_n C 1 rfl dX3_giveOneOver_109 ?_
      refine or_ldc2 C (v := (-1 : Int64)) k_X3_giveOneOver_c121 dX3_giveOneOver_110 ?_
      refine or_last C dX3_giveOneOver_113 (fun h8 => ?_)
      refine or_sub [] rfl ?_
      exact w_X3_giveOneOver_114 C hl h0 h8 o
  · refine or_aload_n C 0 rfl dX3_giveOneOver_12 ?_
    refine or_getR C 3 1 rfl (by decide) rfl (by decide) u_X3_giveOneOver_3 (by decide) k_X3_giveOneOver_f11 (by decide +kernel) dX3_giveOneOver_13 (fun x9 => ?_)
    refine or_iload_n C 2 rfl dX3_giveOneOver_16 ?_
    refine or_aald C 4 (fun _ => rfl) (by decide) rfl dX3_giveOneOver_17 (fun x10 => ?_)
    refine or_getI C 2 0 rfl (by decide) rfl (by decide) u_X3_giveOneOver_2 (by decide) k_X3_giveOneOver_f120 (by decide +kernel) dX3_giveOneOver_18 (fun x11 => ?_)
    refine or_aload_n C 0 rfl dX3_giveOneOver_21 ?_
    refine or_getR C 3 1 rfl (by decide) rfl (by decide) u_X3_giveOneOver_3 (by decide) k_X3_giveOneOver_f11 (by decide +kernel) dX3_giveOneOver_22 (fun x12 => ?_)
    refine or_iload_n C 1 rfl dX3_giveOneOver_25 ?_
    refine or_aald C 4 (fun _ => rfl) (by decide) rfl dX3_giveOneOver_26 (fun x13 => ?_)
    refine or_getI C 2 0 rfl (by decide) rfl (by decide) u_X3_giveOneOver_2 (by decide) k_X3_giveOneOver_f120 (by decide +kernel) dX3_giveOneOver_27 (fun x14 => ?_)
    refine or_icmp_ge C 37 dX3_giveOneOver_30 (by decide) ?_ ?_
    · refine or_iconst C (v := (0 : Int32)) dX3_giveOneOver_37 (by decide) ?_
      refine or_sub [0, 1, 2] rfl ?_
      exact w_X3_giveOneOver_38 C hl h0 h o v1 v2 (0 : Int32)
    · refine or_iconst C (v := (1 : Int32)) dX3_giveOneOver_33 (by decide) ?_
      refine or_goto C 38 dX3_giveOneOver_34 (by decide) ?_
      refine or_sub [0, 1, 2] rfl ?_
      exact w_X3_giveOneOver_38 C hl h0 h o v1 v2 (1 : Int32)
theorem w_X3_giveOneOver_4 {G : oh_G} {l : Launch} (C : oh_C G cX3_giveOneOver wsX3_giveOneOver RX3 rmX3_giveOneOver 4) (hl : G.1.2.1 = l) (h0 : oh_H) (h : oh_H) (o : Nat) (v1 : Int32) (v2 : Int32) : oh_J (oh_TV h0 0 0 none G) (f_X3_giveOneOver_4 h o v1 v2) (oh_V G 0 0 h 4 [(0, xr (some o)), (1, xi v1), (2, xi v2)] []) := by
  unfold f_X3_giveOneOver_4
  exact oj_loop (P := pv_X3_giveOneOver_4 G o) (fun s => wb_X3_giveOneOver_4 C hl h0 s.1 o s.2.1 s.2.2) 1000000 (h, v1, v2)
set_option maxHeartbeats 4000000 in
set_option maxRecDepth 100000 in
theorem w_X3_giveOneOver_0 {G : oh_G} {l : Launch} (C : oh_C G cX3_giveOneOver wsX3_giveOneOver RX3 rmX3_giveOneOver 4) (hl : G.1.2.1 = l) (h0 : oh_H) (h : oh_H) (o : Nat) : oh_J (oh_TV h0 0 0 none G) (f_X3_giveOneOver h o) (oh_V G 0 0 h 0 [(0, xr (some o))] []) := by
  unfold f_X3_giveOneOver
  refine or_iconst C (v := (0 : Int32)) dX3_giveOneOver_0 (by decide) ?_
  refine or_istore_n C (fun x1 => [(1, xi x1), (0, xr (some o))]) (fun _ => rfl) (by decide) dX3_giveOneOver_1 (fun x1 => ?_)
  refine or_iconst C (v := (1 : Int32)) dX3_giveOneOver_2 (by decide) ?_
  refine or_istore_n C (fun x2 => [(2, xi x2), (1, xi x1), (0, xr (some o))]) (fun _ => rfl) (by decide) dX3_giveOneOver_3 (fun x2 => ?_)
  refine or_sub [2, 1, 0] rfl ?_
  exact w_X3_giveOneOver_4 C hl h0 h o x1 x2
theorem m_X3_giveOneOver (l : Launch) (h : oh_H) (o : Nat) (p : oh_H) (hf : f_X3_giveOneOver h o = some p) : oh_M l yX3_giveOneOver wsX3_giveOneOver rmX3_giveOneOver 0 0 [xr (some o)] h none p :=
  oh_met (cc := cX3_giveOneOver) (maxL := 4) (ret := none) (by decide) rfl (Nat.le_of_ble_eq_true rfl) (fun G C hl hN E => w_X3_giveOneOver_0 C hl h h o p hf E)
