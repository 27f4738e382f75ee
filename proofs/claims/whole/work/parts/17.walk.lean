/-! X7_held -/
theorem k_X7_held_f255 : Cond.fieldLink RX7 255 "OilPress$Vat" "sort" "I" ∈ wsX7_held := List.mem_of_getElem? (i := 1) (by decide +kernel)
theorem u_X7_held_6 : ∀ w ∈ u_ws RX6 TX6 8, w ∈ wsX7_held := fun w h => List.mem_cons_of_mem _ (List.mem_append_left _ (List.mem_append_right _ (h)))
theorem k_X7_held_f287 : Cond.fieldLink RX7 287 "OilPress$Vat" "isClean" "Z" ∈ wsX7_held := List.mem_of_getElem? (i := 2) (by decide +kernel)
theorem k_X7_held_f290 : Cond.fieldLink RX7 290 "OilPress$Vat" "room" "I" ∈ wsX7_held := List.mem_of_getElem? (i := 3) (by decide +kernel)
theorem k_X7_held_f232 : Cond.fieldLink RX7 232 "OilPress$Vat" "tenths" "I" ∈ wsX7_held := List.mem_of_getElem? (i := 4) (by decide +kernel)
theorem k_X7_held_f243 : Cond.fieldLink RX7 243 "OilPress$Vat" "ofPress" "I" ∈ wsX7_held := List.mem_of_getElem? (i := 5) (by decide +kernel)
theorem k_X7_held_f293 : Cond.fieldLink RX7 293 "OilPress$Vat" "isTapped" "Z" ∈ wsX7_held := List.mem_of_getElem? (i := 6) (by decide +kernel)
abbrev rmX7_held : Room := { frames := 3, cells := 0, slots := 0, locals := 69 }
def f_X7_held (h : oh_H) (o : Nat) (v1 : Int32) (v2 : Int32) : Option (Int32) :=
  oh_rc h (some o) 8 fun o2 => (f_X7_findVat h o2 v1).bind fun p3 => oh_lt p3 fun x5 => if x5 = none then (some (-1 : Int32)) else (if v2 = (0 : Int32) then ((oh_gI h x5 384).bind fun x6 => some x6) else (if v2 = (1 : Int32) then ((oh_gI h x5 385).bind fun x7 => (f_X7_asNumber h x7).bind fun p8 => some p8) else (if v2 = (2 : Int32) then ((oh_gI h x5 386).bind fun x10 => some x10) else (if v2 = (3 : Int32) then ((oh_gI h x5 387).bind fun x11 => some x11) else (if v2 = (4 : Int32) then ((oh_gI h x5 388).bind fun x12 => some x12) else (if v2 = (5 : Int32) then ((oh_gI h x5 389).bind fun x13 => (f_X7_asNumber h x13).bind fun p14 => some p14) else (if v2 = (6 : Int32) then (oh_rc h x5 7 fun o16 => (f_X6_sournessAbove h o16).bind fun p19 => some p19) else (if v2 = (7 : Int32) then (oh_rc h x5 7 fun o21 => (f_X6_sournessBelow h o21).bind fun p24 => some p24) else (some (-1 : Int32))))))))))
set_option maxHeartbeats 4000000 in
set_option maxRecDepth 100000 in
theorem w_X7_held_0 {G : oh_G} {l : Launch} (C : oh_C G cX7_held wsX7_held RX7 rmX7_held 4) (hl : G.1.2.1 = l) (h : oh_H) (o : Nat) (v1 : Int32) (v2 : Int32) : oh_J (oh_TR h xi (some .int) G) (f_X7_held h o v1 v2) (oh_V G 0 0 h 0 [(0, xr (some o)), (1, xi v1), (2, xi v2)] []) := by
  unfold f_X7_held
  refine or_aload_n C 0 rfl dX7_held_0 ?_
  refine or_iload_n C 1 rfl dX7_held_1 ?_
  refine oj_rcs (fun q1 => ?_)
  refine oj_bind (fun p3 z4 => ?_)
  refine oj_v (P := oh_V G 0 0 h 5 [(0, xr (some o)), (1, xi v1), (2, xi v2)] [xr p3]) (fun k => or_callV C 1 hl (m_X7_findVat _ h o v1 p3 z4) gX7_held_X7_findVat rfl rfl rfl (by decide +kernel) ⟨Nat.le_of_ble_eq_true rfl, Nat.le_of_ble_eq_true rfl⟩ q1 rfl (by decide) (Nat.le_of_ble_eq_true rfl) dX7_held_2 ⟨Nat.le_of_ble_eq_true rfl, Nat.le_of_ble_eq_true rfl⟩ rfl rfl k) ?_
  refine or_astore_n C (fun x5 => [(3, xr x5), (0, xr (some o)), (1, xi v1), (2, xi v2)]) (fun _ => rfl) (by decide) dX7_held_5 (fun x5 => ?_)
  refine or_aload_n C 0 rfl dX7_held_6 ?_
  refine or_ifnonnull C 12 dX7_held_7 (by decide) ?_ ?_
  · refine or_iconst C (v := (-1 : Int32)) dX7_held_10 (by decide) ?_
    exact or_iretR C dX7_held_11
  · refine or_iload_n C 3 rfl dX7_held_12 ?_
    refine or_case C (v := (0 : Int32)) 0 60 dX7_held_13 (by decide) (by decide) rfl (by decide) ?_ (fun n0 => ?_)
    · refine or_aload_n C 0 rfl dX7_held_60 ?_
      refine or_getI C 6 0 rfl (by decide) rfl (by decide) u_X7_held_6 (by decide) k_X7_held_f255 (by decide +kernel) dX7_held_61 (fun x6 => ?_)
      exact or_iretR C dX7_held_64
    refine or_case C (v := (1 : Int32)) 1 65 dX7_held_13 (by decide) (by decide) rfl (by decide) ?_ (fun n1 => ?_)
    · refine or_aload_n C 0 rfl dX7_held_65 ?_
      refine or_getI C 6 1 rfl (by decide) rfl (by decide) u_X7_held_6 (by decide) k_X7_held_f287 (by decide +kernel) dX7_held_66 (fun x7 => ?_)
      refine oj_bind (fun p8 z9 => ?_)
      refine oj_v (P := oh_V G 0 0 h 72 [(3, xr x5), (0, xr (some o)), (1, xi v1), (2, xi v2)] [xi p8]) (fun k => or_callS C 1 hl (m_X7_asNumber _ h x7 p8 z9) gX7_held_X7_asNumber rfl rfl rfl (by decide +kernel) ⟨Nat.le_of_ble_eq_true rfl, Nat.le_of_ble_eq_true rfl⟩ (Nat.le_of_ble_eq_true rfl) dX7_held_69 ⟨Nat.le_of_ble_eq_true rfl, Nat.le_of_ble_eq_true rfl⟩ rfl rfl k) ?_
      exact or_iretR C dX7_held_72
    refine or_case C (v := (2 : Int32)) 2 73 dX7_held_13 (by decide) (by decide) rfl (by decide) ?_ (fun n2 => ?_)
    · refine or_aload_n C 0 rfl dX7_held_73 ?_
      refine or_getI C 6 2 rfl (by decide) rfl (by decide) u_X7_held_6 (by decide) k_X7_held_f290 (by decide +kernel) dX7_held_74 (fun x10 => ?_)
      exact or_iretR C dX7_held_77
    refine or_case C (v := (3 : Int32)) 3 78 dX7_held_13 (by decide) (by decide) rfl (by decide) ?_ (fun n3 => ?_)
    · refine or_aload_n C 0 rfl dX7_held_78 ?_
      refine or_getI C 6 3 rfl (by decide) rfl (by decide) u_X7_held_6 (by decide) k_X7_held_f232 (by decide +kernel) dX7_held_79 (fun x11 => ?_)
      exact or_iretR C dX7_held_82
    refine or_case C (v := (4 : Int32)) 4 83 dX7_held_13 (by decide) (by decide) rfl (by decide) ?_ (fun n4 => ?_)
    · refine or_aload_n C 0 rfl dX7_held_83 ?_
      refine or_getI C 6 4 rfl (by decide) rfl (by decide) u_X7_held_6 (by decide) k_X7_held_f243 (by decide +kernel) dX7_held_84 (fun x12 => ?_)
      exact or_iretR C dX7_held_87
    refine or_case C (v := (5 : Int32)) 5 88 dX7_held_13 (by decide) (by decide) rfl (by decide) ?_ (fun n5 => ?_)
    · refine or_aload_n C 0 rfl dX7_held_88 ?_
      refine or_getI C 6 5 rfl (by decide) rfl (by decide) u_X7_held_6 (by decide) k_X7_held_f293 (by decide +kernel) dX7_held_89 (fun x13 => ?_)
      refine oj_bind (fun p14 z15 => ?_)
      refine oj_v (P := oh_V G 0 0 h 95 [(3, xr x5), (0, xr (some o)), (1, xi v1), (2, xi v2)] [xi p14]) (fun k => or_callS C 1 hl (m_X7_asNumber _ h x13 p14 z15) gX7_held_X7_asNumber rfl rfl rfl (by decide +kernel) ⟨Nat.le_of_ble_eq_true rfl, Nat.le_of_ble_eq_true rfl⟩ (Nat.le_of_ble_eq_true rfl) dX7_held_92 ⟨Nat.le_of_ble_eq_true rfl, Nat.le_of_ble_eq_true rfl⟩ rfl rfl k) ?_
      exact or_iretR C dX7_held_95
    refine or_case C (v := (6 : Int32)) 6 96 dX7_held_13 (by decide) (by decide) rfl (by decide) ?_ (fun n6 => ?_)
    · refine or_aload_n C 0 rfl dX7_held_96 ?_
      refine oj_rc (fun o16 e18 q17 => ?_)
      refine oj_bind (fun p19 z20 => ?_)
      refine oj_v (P := oh_V G 0 0 h 100 [(3, xr x5), (0, xr (some o)), (1, xi v1), (2, xi v2)] [xi p19]) (fun k => or_callV C 0 hl (m_X6_sournessAbove _ h o16 p19 z20) gX7_held_X6_sournessAbove rfl rfl rfl (by decide +kernel) ⟨Nat.le_of_ble_eq_true rfl, Nat.le_of_ble_eq_true rfl⟩ q17 rfl (by decide) (Nat.le_of_ble_eq_true rfl) dX7_held_97 ⟨Nat.le_of_ble_eq_true rfl, Nat.le_of_ble_eq_true rfl⟩ rfl (by rw [e18]; rfl) k) ?_
      exact or_iretR C dX7_held_100
    refine or_case C (v := (7 : Int32)) 7 101 dX7_held_13 (by decide) (by decide) rfl (by decide) ?_ (fun n7 => ?_)
    · refine or_aload_n C 0 rfl dX7_held_101 ?_
      refine oj_rc (fun o21 e23 q22 => ?_)
      refine oj_bind (fun p24 z25 => ?_)
      refine oj_v (P := oh_V G 0 0 h 105 [(3, xr x5), (0, xr (some o)), (1, xi v1), (2, xi v2)] [xi p24]) (fun k => or_callV C 0 hl (m_X6_sournessBelow _ h o21 p24 z25) gX7_held_X6_sournessBelow rfl rfl rfl (by decide +kernel) ⟨Nat.le_of_ble_eq_true rfl, Nat.le_of_ble_eq_true rfl⟩ q22 rfl (by decide) (Nat.le_of_ble_eq_true rfl) dX7_held_102 ⟨Nat.le_of_ble_eq_true rfl, Nat.le_of_ble_eq_true rfl⟩ rfl (by rw [e23]; rfl) k) ?_
      exact or_iretR C dX7_held_105
    refine or_dflt C 106 dX7_held_13 (by omega) (by decide) ?_
    refine or_iconst C (v := (-1 : Int32)) dX7_held_106 (by decide) ?_
    exact or_iretR C dX7_held_107
theorem m_X7_held (l : Launch) (h : oh_H) (o : Nat) (v1 : Int32) (v2 : Int32) (p : Int32) (hf : f_X7_held h o v1 v2 = some p) : oh_M l yX7_held wsX7_held rmX7_held 0 0 [xr (some o), xi v1, xi v2] h (some (xi p)) h :=
  oh_met (cc := cX7_held) (maxL := 4) (ret := (some .int)) (by decide) rfl (Nat.le_of_ble_eq_true rfl) (fun G C hl hN E => w_X7_held_0 C hl h o v1 v2 p hf E)
/-! X7_countForPlan -/
theorem k_X7_countForPlan_f58 : Cond.fieldLink RX7 58 "OilPress" "lotCount" "I" ∈ wsX7_countForPlan := List.mem_of_getElem? (i := 1) (by decide +kernel)
theorem u_X7_countForPlan_7 : ∀ w ∈ u_ws RX7 TX7 14, w ∈ wsX7_countForPlan := fun w h => List.mem_cons_of_mem _ (List.mem_append_left _ (List.mem_append_right _ (h)))
theorem k_X7_countForPlan_f17 : Cond.fieldLink RX7 17 "OilPress" "lots" "[LOilPress$Lot;" ∈ wsX7_countForPlan := List.mem_of_getElem? (i := 2) (by decide +kernel)
abbrev rmX7_countForPlan : Room := { frames := 2, cells := 0, slots := 0, locals := 40 }
def f_X7_countForPlan_27 (h : oh_H) (o : Nat) (v1 : Int32) (v2 : Int32) : Option ((Int32 × Int32) ⊕ (Int32)) :=
  oh_lt (v2 + (1 : Int32)) fun x1 => some (Sum.inl (v1, x1))
abbrev pv_X7_countForPlan_4 (G : oh_G) (h : oh_H) (o : Nat) : (Int32 × Int32) → Prop := fun s => oh_V G 0 0 h 4 [(0, xr (some o)), (1, xi s.1), (2, xi s.2)] []
def b_X7_countForPlan_4 (h : oh_H) (o : Nat) (v1 : Int32) (v2 : Int32) : Option ((Int32 × Int32) ⊕ (Int32)) :=
  (oh_gI h (some o) 456).bind fun x1 => if x1 ≤ v2 then (Option.map Sum.inr (some v1)) else ((oh_gR h (some o) 449).bind fun x2 => (oh_aR h x2 24 v2).bind fun x3 => oh_rc h x3 3 fun o4 => (f_X2_isForPlan h o4).bind fun p7 => if p7 = 0 then (f_X7_countForPlan_27 h o v1 v2) else (oh_lt (v1 + (1 : Int32)) fun x9 => f_X7_countForPlan_27 h o x9 v2))
def f_X7_countForPlan_4 (h : oh_H) (o : Nat) (v1 : Int32) (v2 : Int32) : Option (Int32) := oh_loop (fun s : Int32 × Int32 => b_X7_countForPlan_4 h o s.1 s.2) 1000000 (v1, v2)
def f_X7_countForPlan (h : oh_H) (o : Nat) : Option (Int32) :=
  oh_lt (0 : Int32) fun x1 => oh_lt (0 : Int32) fun x2 => f_X7_countForPlan_4 h o x1 x2
set_option maxHeartbeats 4000000 in
set_option maxRecDepth 100000 in
theorem w_X7_countForPlan_27 {G : oh_G} {l : Launch} (C : oh_C G cX7_countForPlan wsX7_countForPlan RX7 rmX7_countForPlan 3) (hl : G.1.2.1 = l) (h : oh_H) (o : Nat) (v1 : Int32) (v2 : Int32) : oh_J (oh_TL (pv_X7_countForPlan_4 G h o) (oh_TR h xi (some .int) G)) (f_X7_countForPlan_27 h o v1 v2) (oh_V G 0 0 h 27 [(0, xr (some o)), (1, xi v1), (2, xi v2)] []) := by
  unfold f_X7_countForPlan_27
  refine or_iinc C (y := (1 : Int32)) 2 rfl (by decide) (fun x1 => [(2, xi x1), (0, xr (some o)), (1, xi v1)]) (fun _ => rfl) (by decide) dX7_countForPlan_27 (fun x1 => ?_)
  refine or_goto C 4 dX7_countForPlan_30 (by decide) ?_
  refine or_sub [1, 2, 0] rfl ?_
  exact oj_back (P := pv_X7_countForPlan_4 G h o) (s := (v1, x1))
set_option maxHeartbeats 4000000 in
set_option maxRecDepth 100000 in
theorem wb_X7_countForPlan_4 {G : oh_G} {l : Launch} (C : oh_C G cX7_countForPlan wsX7_countForPlan RX7 rmX7_countForPlan 3) (hl : G.1.2.1 = l) (h : oh_H) (o : Nat) (v1 : Int32) (v2 : Int32) : oh_J (oh_TL (pv_X7_countForPlan_4 G h o) (oh_TR h xi (some .int) G)) (b_X7_countForPlan_4 h o v1 v2) (oh_V G 0 0 h 4 [(0, xr (some o)), (1, xi v1), (2, xi v2)] []) := by
  unfold b_X7_countForPlan_4
  refine or_iload_n C 2 rfl dX7_countForPlan_4 ?_
  refine or_aload_n C 0 rfl dX7_countForPlan_5 ?_
  refine or_getI C 7 8 rfl (by decide) rfl (by decide) u_X7_countForPlan_7 (by decide) k_X7_countForPlan_f58 (by decide +kernel) dX7_countForPlan_6 (fun x1 => ?_)
  refine or_icmp_ge C 33 dX7_countForPlan_9 (by decide) ?_ ?_
  · refine oj_inr ?_
    refine or_iload_n C 1 rfl dX7_countForPlan_33 ?_
    exact or_iretR C dX7_countForPlan_34
  · refine or_aload_n C 0 rfl dX7_countForPlan_12 ?_
    refine or_getR C 7 1 rfl (by decide) rfl (by decide) u_X7_countForPlan_7 (by decide) k_X7_countForPlan_f17 (by decide +kernel) dX7_countForPlan_13 (fun x2 => ?_)
    refine or_iload_n C 2 rfl dX7_countForPlan_16 ?_
    refine or_aald C 4 (fun _ => rfl) (by decide) rfl dX7_countForPlan_17 (fun x3 => ?_)
    refine oj_rc (fun o4 e6 q5 => ?_)
    refine oj_bind (fun p7 z8 => ?_)
    refine oj_v (P := oh_V G 0 0 h 21 [(0, xr (some o)), (1, xi v1), (2, xi v2)] [xi p7]) (fun k => or_callV C 0 hl (m_X2_isForPlan _ h o4 p7 z8) gX7_countForPlan_X2_isForPlan rfl rfl rfl (by decide +kernel) ⟨Nat.le_of_ble_eq_true rfl, Nat.le_of_ble_eq_true rfl⟩ q5 rfl (by decide) (Nat.le_of_ble_eq_true rfl) dX7_countForPlan_18 ⟨Nat.le_of_ble_eq_true rfl, Nat.le_of_ble_eq_true rfl⟩ rfl (by rw [e6]; rfl) k) ?_
    refine or_if_eq C 27 dX7_countForPlan_21 (by decide) ?_ ?_
    · refine or_sub [0, 1, 2] rfl ?_
      exact w_X7_countForPlan_27 C hl h o v1 v2
    · refine or_iinc C (y := (1 : Int32)) 1 rfl (by decide) (fun x9 => [(1, xi x9), (0, xr (some o)), (2, xi v2)]) (fun _ => rfl) (by decide) dX7_countForPlan_24 (fun x9 => ?_)
      refine or_sub [1, 0, 2] rfl ?_
      exact w_X7_countForPlan_27 C hl h o x9 v2
theorem w_X7_countForPlan_4 {G : oh_G} {l : Launch} (C : oh_C G cX7_countForPlan wsX7_countForPlan RX7 rmX7_countForPlan 3) (hl : G.1.2.1 = l) (h : oh_H) (o : Nat) (v1 : Int32) (v2 : Int32) : oh_J (oh_TR h xi (some .int) G) (f_X7_countForPlan_4 h o v1 v2) (oh_V G 0 0 h 4 [(0, xr (some o)), (1, xi v1), (2, xi v2)] []) := by
  unfold f_X7_countForPlan_4
  exact oj_loop (P := pv_X7_countForPlan_4 G h o) (fun s => wb_X7_countForPlan_4 C hl h o s.1 s.2) 1000000 (v1, v2)
set_option maxHeartbeats 4000000 in
set_option maxRecDepth 100000 in
theorem w_X7_countForPlan_0 {G : oh_G} {l : Launch} (C : oh_C G cX7_countForPlan wsX7_countForPlan RX7 rmX7_countForPlan 3) (hl : G.1.2.1 = l) (h : oh_H) (o : Nat) : oh_J (oh_TR h xi (some .int) G) (f_X7_countForPlan h o) (oh_V G 0 0 h 0 [(0, xr (some o))] []) := by
  unfold f_X7_countForPlan
  refine or_iconst C (v := (0 : Int32)) dX7_countForPlan_0 (by decide) ?_
  refine or_istore_n C (fun x1 => [(1, xi x1), (0, xr (some o))]) (fun _ => rfl) (by decide) dX7_countForPlan_1 (fun x1 => ?_)
  refine or_iconst C (v := (0 : Int32)) dX7_countForPlan_2 (by decide) ?_
  refine or_istore_n C (fun x2 => [(2, xi x2), (1, xi x1), (0, xr (some o))]) (fun _ => rfl) (by decide) dX7_countForPlan_3 (fun x2 => ?_)
  refine or_sub [2, 1, 0] rfl ?_
  exact w_X7_countForPlan_4 C hl h o x1 x2
theorem m_X7_countForPlan (l : Launch) (h : oh_H) (o : Nat) (p : Int32) (hf : f_X7_countForPlan h o = some p) : oh_M l yX7_countForPlan wsX7_countForPlan rmX7_countForPlan 0 0 [xr (some o)] h (some (xi p)) h :=
  oh_met (cc := cX7_countForPlan) (maxL := 3) (ret := (some .int)) (by decide) rfl (Nat.le_of_ble_eq_true rfl) (fun G C hl hN E => w_X7_countForPlan_0 C hl h o p hf E)
/-! X7_lateHour -/
theorem k_X7_lateHour_f105 : Cond.fieldLink RX7 105 "OilPress$Lot" "kind" "I" ∈ wsX7_lateHour := List.mem_of_getElem? (i := 1) (by decide +kernel)
theorem u_X7_lateHour_2 : ∀ w ∈ u_ws RX2 TX2 12, w ∈ wsX7_lateHour := fun w h => List.mem_cons_of_mem _ (List.mem_append_left _ (List.mem_append_right _ (h)))
theorem k_X7_lateHour_f136 : Cond.fieldLink RX7 136 "OilPress$Lot" "day" "I" ∈ wsX7_lateHour := List.mem_of_getElem? (i := 3) (by decide +kernel)
theorem k_X7_lateHour_f67 : Cond.fieldLink RX7 67 "OilPress" "freshDays" "I" ∈ wsX7_lateHour := List.mem_of_getElem? (i := 4) (by decide +kernel)
theorem u_X7_lateHour_7 : ∀ w ∈ u_ws RX7 TX7 14, w ∈ wsX7_lateHour := fun w h => List.mem_cons_of_mem _ (List.mem_append_right _ (h))
theorem k_X7_lateHour_ml305 : Cond.methodLink RX7 305 Lib.Math.max.name ∈ wsX7_lateHour := List.mem_of_getElem? (i := 5) (by decide +kernel)
theorem k_X7_lateHour_msmmax : Cond.static Lib.Math.max.name ∈ wsX7_lateHour := List.mem_of_getElem? (i := 6) (by decide +kernel)
theorem k_X7_lateHour_mi : Cond.initialized "java/lang/Math" ∈ wsX7_lateHour := List.mem_of_getElem? (i := 7) (by decide +kernel)
theorem k_X7_lateHour_mcmmax : Cond.code Lib.Math.max.name Lib.Math.max.code 2 (some .int) ∈ wsX7_lateHour := List.mem_of_getElem? (i := 8) (by decide +kernel)
theorem k_X7_lateHour_c347 : Cond.constant RX7 347 (2147483647) ∈ wsX7_lateHour := List.mem_of_getElem? (i := 2) (by decide +kernel)
abbrev rmX7_lateHour : Room := { frames := 1, cells := 0, slots := 0, locals := 23 }
def f_X7_lateHour (h : oh_H) (o : Nat) (v1 : Option Nat) : Option (Int32) :=
  (oh_gI h v1 131).bind fun x1 => if x1 = (3 : Int32) then (some (2147483647 : Int32)) else (oh_rc h (some o) 8 fun o3 => (f_X7_today h o3).bind fun p4 => (oh_gI h v1 130).bind fun x6 => (oh_gI h (some o) 459).bind fun x7 => some ((10 : Int32) * (if (p4 + (1 : Int32)) < ((x6 + x7) + (1 : Int32)) then ((x6 + x7) + (1 : Int32)) else (p4 + (1 : Int32)))))
set_option maxHeartbeats 4000000 in
set_option maxRecDepth 100000 in
theorem w_X7_lateHour_0 {G : oh_G} {l : Launch} (C : oh_C G cX7_lateHour wsX7_lateHour RX7 rmX7_lateHour 2) (hl : G.1.2.1 = l) (h : oh_H) (o : Nat) (v1 : Option Nat) : oh_J (oh_TR h xi (some .int) G) (f_X7_lateHour h o v1) (oh_V G 0 0 h 0 [(0, xr (some o)), (1, xr v1)] []) := by
  unfold f_X7_lateHour
  refine or_aload_n C 1 rfl dX7_lateHour_0 ?_
  refine or_getI C 2 3 rfl (by decide) rfl (by decide) u_X7_lateHour_2 (by decide) k_X7_lateHour_f105 (by decide +kernel) dX7_lateHour_1 (fun x1 => ?_)
  refine or_iconst C (v := (3 : Int32)) dX7_lateHour_4 (by decide) ?_
  refine or_icmp_ne C 12 dX7_lateHour_5 (by decide) ?_ ?_
  · refine or_ldcw C (v := (2147483647 : Int32)) k_X7_lateHour_c347 dX7_lateHour_8 ?_
    exact or_iretR C dX7_lateHour_11
  · refine or_bipush C (v := (10 : Int32)) dX7_lateHour_12 (by decide) ?_
    refine or_aload_n C 0 rfl dX7_lateHour_14 ?_
    refine oj_rcs (fun q2 => ?_)
    refine oj_bind (fun p4 z5 => ?_)
    refine oj_v (P := oh_V G 0 0 h 18 [(0, xr (some o)), (1, xr v1)] [xi p4, xi (10 : Int32)]) (fun k => or_callV C 0 hl (m_X7_today _ h o p4 z5) gX7_lateHour_X7_today rfl rfl rfl (by decide +kernel) ⟨Nat.le_of_ble_eq_true rfl, Nat.le_of_ble_eq_true rfl⟩ q2 rfl (by decide) (Nat.le_of_ble_eq_true rfl) dX7_lateHour_15 ⟨Nat.le_of_ble_eq_true rfl, Nat.le_of_ble_eq_true rfl⟩ rfl rfl k) ?_
    refine or_iconst C (v := (1 : Int32)) dX7_lateHour_18 (by decide) ?_
    refine or_iadd C dX7_lateHour_19 ?_
    refine or_aload_n C 1 rfl dX7_lateHour_20 ?_
    refine or_getI C 2 2 rfl (by decide) rfl (by decide) u_X7_lateHour_2 (by decide) k_X7_lateHour_f136 (by decide +kernel) dX7_lateHour_21 (fun x6 => ?_)
    refine or_aload_n C 0 rfl dX7_lateHour_24 ?_
    refine or_getI C 7 11 rfl (by decide) rfl (by decide) u_X7_lateHour_7 (by decide) k_X7_lateHour_f67 (by decide +kernel) dX7_lateHour_25 (fun x7 => ?_)
    refine or_iadd C dX7_lateHour_28 ?_
    refine or_iconst C (v := (1 : Int32)) dX7_lateHour_29 (by decide) ?_
    refine or_iadd C dX7_lateHour_30 ?_
    refine or_mmax C k_X7_lateHour_ml305 k_X7_lateHour_msmmax k_X7_lateHour_mi k_X7_lateHour_mcmmax ⟨Nat.le_of_ble_eq_true rfl, Nat.le_of_ble_eq_true rfl, Nat.le_of_ble_eq_true rfl⟩ (Nat.le_of_ble_eq_true rfl) dX7_lateHour_31 ?_
    refine or_imul C dX7_lateHour_34 ?_
    exact or_iretR C dX7_lateHour_35
theorem m_X7_lateHour (l : Launch) (h : oh_H) (o : Nat) (v1 : Option Nat) (p : Int32) (hf : f_X7_lateHour h o v1 = some p) : oh_M l yX7_lateHour wsX7_lateHour rmX7_lateHour 0 0 [xr (some o), xr v1] h (some (xi p)) h :=
  oh_met (cc := cX7_lateHour) (maxL := 2) (ret := (some .int)) (by decide) rfl (Nat.le_of_ble_eq_true rfl) (fun G C hl hN E => w_X7_lateHour_0 C hl h o v1 p hf E)
/-! X7_plan -/
theorem k_X7_plan_f58 : Cond.fieldLink RX7 58 "OilPress" "lotCount" "I" ∈ wsX7_plan := List.mem_of_getElem? (i := 10) (by decide +kernel)
theorem u_X7_plan_7 : ∀ w ∈ u_ws RX7 TX7 14, w ∈ wsX7_plan := fun w h => List.mem_cons_of_mem _ (List.mem_append_left _ (List.mem_append_left _ (List.mem_append_left _ (List.mem_append_left _ (List.mem_append_right _ (h))))))
theorem k_X7_plan_f50 : Cond.fieldLink RX7 50 "OilPress" "planner" "LOilPress$Planner;" ∈ wsX7_plan := List.mem_of_getElem? (i := 1) (by decide +kernel)
theorem k_X7_plan_f327 : Cond.fieldLink RX7 327 "OilPress$Planner" "size" "I" ∈ wsX7_plan := List.mem_of_getElem? (i := 13) (by decide +kernel)
theorem u_X7_plan_4 : ∀ w ∈ u_ws RX4 TX4 15, w ∈ wsX7_plan := fun w h => List.mem_cons_of_mem _ (List.mem_append_left _ (List.mem_append_right _ (h)))
theorem k_X7_plan_f17 : Cond.fieldLink RX7 17 "OilPress" "lots" "[LOilPress$Lot;" ∈ wsX7_plan := List.mem_of_getElem? (i := 11) (by decide +kernel)
theorem k_X7_plan_f120 : Cond.fieldLink RX7 120 "OilPress$Lot" "tenths" "I" ∈ wsX7_plan := List.mem_of_getElem? (i := 12) (by decide +kernel)
theorem u_X7_plan_2 : ∀ w ∈ u_ws RX2 TX2 12, w ∈ wsX7_plan := fun w h => List.mem_cons_of_mem _ (List.mem_append_left _ (List.mem_append_left _ (List.mem_append_right _ (h))))
theorem k_X7_plan_f64 : Cond.fieldLink RX7 64 "OilPress" "now" "I" ∈ wsX7_plan := List.mem_of_getElem? (i := 2) (by decide +kernel)
theorem k_X7_plan_f185 : Cond.fieldLink RX7 185 "OilPress$Mill" "busyTill" "I" ∈ wsX7_plan := List.mem_of_getElem? (i := 3) (by decide +kernel)
theorem u_X7_plan_3 : ∀ w ∈ u_ws RX3 TX3 14, w ∈ wsX7_plan := fun w h => List.mem_cons_of_mem _ (List.mem_append_left _ (List.mem_append_left _ (List.mem_append_left _ (List.mem_append_right _ (h)))))
theorem k_X7_plan_ml305 : Cond.methodLink RX7 305 Lib.Math.max.name ∈ wsX7_plan := List.mem_of_getElem? (i := 4) (by decide +kernel)
theorem k_X7_plan_msmmax : Cond.static Lib.Math.max.name ∈ wsX7_plan := List.mem_of_getElem? (i := 5) (by decide +kernel)
theorem k_X7_plan_mi : Cond.initialized "java/lang/Math" ∈ wsX7_plan := List.mem_of_getElem? (i := 6) (by decide +kernel)
theorem k_X7_plan_mcmmax : Cond.code Lib.Math.max.name Lib.Math.max.code 2 (some .int) ∈ wsX7_plan := List.mem_of_getElem? (i := 7) (by decide +kernel)
theorem k_X7_plan_f188 : Cond.fieldLink RX7 188 "OilPress$Mill" "isWashed" "Z" ∈ wsX7_plan := List.mem_of_getElem? (i := 8) (by decide +kernel)
theorem k_X7_plan_f280 : Cond.fieldLink RX7 280 "OilPress$Mill" "like" "I" ∈ wsX7_plan := List.mem_of_getElem? (i := 9) (by decide +kernel)
abbrev rmX7_plan : Room := { frames := 5, cells := 0, slots := 0, locals := 123 }
def f_X7_plan_19 (h : oh_H) (o : Nat) : Option (Int32 × oh_H) :=
  some ((-1 : Int32), h)
def f_X7_plan_105 (h : oh_H) (o : Nat) (v2 : Option Nat) (v3 : Int32) : Option ((oh_H × Int32) ⊕ (Int32 × oh_H)) :=
  oh_lt (v3 + (1 : Int32)) fun x1 => some (Sum.inl (h, x1))
abbrev pv_X7_plan_49 (G : oh_G) (o : Nat) (v2 : Option Nat) : (oh_H × Int32) → Prop := fun s => oh_V G 0 0 s.1 49 [(0, xr (some o)), (2, xr v2), (3, xi s.2)] []
def b_X7_plan_49 (h : oh_H) (o : Nat) (v2 : Option Nat) (v3 : Int32) : Option ((oh_H × Int32) ⊕ (Int32 × oh_H)) :=
  (oh_gI h (some o) 456).bind fun x1 => if x1 ≤ v3 then (Option.map Sum.inr ((oh_gR h (some o) 454).bind fun x2 => oh_rc h x2 5 fun o3 => (f_X4_decide h o3).bind fun p6 => (oh_gR p6 (some o) 454).bind fun x8 => (oh_gI p6 x8 267).bind fun x9 => some (x9, p6))) else ((oh_gR h (some o) 449).bind fun x10 => (oh_aR h x10 24 v3).bind fun x11 => oh_rc h x11 3 fun o12 => (f_X2_isForPlan h o12).bind fun p15 => if p15 = 0 then (f_X7_plan_105 h o v2 v3) else ((oh_gR h (some o) 454).bind fun x17 => (oh_gR h (some o) 449).bind fun x18 => (oh_aR h x18 24 v3).bind fun x19 => (oh_gR h (some o) 449).bind fun x20 => (oh_aR h x20 24 v3).bind fun x21 => (oh_gI h x21 133).bind fun x22 => oh_rc h v2 4 fun o23 => (f_X3_hoursFor h o23 x22).bind fun p26 => (oh_gR h (some o) 449).bind fun x28 => (oh_aR h x28 24 v3).bind fun x29 => oh_rc h (some o) 8 fun o31 => (f_X7_lateHour h o31 x29).bind fun p32 => oh_rc h x17 5 fun o34 => (f_X4_add h o34 x19 p26 p32).bind fun p37 => f_X7_plan_105 p37 o v2 v3))
def f_X7_plan_49 (h : oh_H) (o : Nat) (v2 : Option Nat) (v3 : Int32) : Option (Int32 × oh_H) := oh_loop (fun s : oh_H × Int32 => b_X7_plan_49 s.1 o v2 s.2) 1000000 (h, v3)
def f_X7_plan (h : oh_H) (o : Nat) (v1 : Int32) : Option (Int32 × oh_H) :=
  oh_rc h (some o) 8 fun o2 => (f_X7_findMill h o2 v1).bind fun p3 => oh_lt p3 fun x5 => if x5 = none then (f_X7_plan_19 h o) else (oh_rc h (some o) 8 fun o7 => (f_X7_countForPlan h o7).bind fun p8 => if p8 ≤ (8 : Int32) then ((oh_gR h (some o) 454).bind fun x10 => (oh_gI h (some o) 458).bind fun x11 => (oh_gI h x5 198).bind fun x12 => (oh_gI h x5 199).bind fun x13 => (oh_gI h x5 200).bind fun x14 => oh_rc h x10 5 fun o15 => (f_X4_start h o15 (if x11 < x12 then x12 else x11) x13 x14).bind fun p18 => oh_lt (0 : Int32) fun x20 => f_X7_plan_49 p18 o x5 x20) else (f_X7_plan_19 h o))
set_option maxHeartbeats 4000000 in
set_option maxRecDepth 100000 in
theorem w_X7_plan_19 {G : oh_G} {l : Launch} (C : oh_C G cX7_plan wsX7_plan RX7 rmX7_plan 4) (hl : G.1.2.1 = l) (h0 : oh_H) (h : oh_H) (o : Nat) : oh_J (oh_TW h0 xi 0 0 (some .int) G) (f_X7_plan_19 h o) (oh_V G 0 0 h 19 [] []) := by
  unfold f_X7_plan_19
  refine or_iconst C (v := (-1 : Int32)) dX7_plan_19 (by decide) ?_
  exact or_iret C ⟨Nat.le_of_ble_eq_true rfl, Nat.le_of_ble_eq_true rfl⟩ dX7_plan_20
set_option maxHeartbeats 4000000 in
set_option maxRecDepth 100000 in
theorem w_X7_plan_105 {G : oh_G} {l : Launch} (C : oh_C G cX7_plan wsX7_plan RX7 rmX7_plan 4) (hl : G.1.2.1 = l) (h0 : oh_H) (h : oh_H) (o : Nat) (v2 : Option Nat) (v3 : Int32) : oh_J (oh_TL (pv_X7_plan_49 G o v2) (oh_TW h0 xi 0 0 (some .int) G)) (f_X7_plan_105 h o v2 v3) (oh_V G 0 0 h 105 [(0, xr (some o)), (2, xr v2), (3, xi v3)] []) := by
  unfold f_X7_plan_105
  refine or_iinc C (y := (1 : Int32)) 2 rfl (by decide) (fun x1 => [(3, xi x1), (0, xr (some o)), (2, xr v2)]) (fun _ => rfl) (by decide) dX7_plan_105 (fun x1 => ?_)
  refine or_goto C 49 dX7_plan_108 (by decide) ?_
  refine or_sub [1, 2, 0] rfl ?_
  exact oj_back (P := pv_X7_plan_49 G o v2) (s := (h, x1))
set_option maxHeartbeats 4000000 in
set_option maxRecDepth 100000 in
theorem wb_X7_plan_49 {G : oh_G} {l : Launch} (C : oh_C G cX7_plan wsX7_plan RX7 rmX7_plan 4) (hl : G.1.2.1 = l) (h0 : oh_H) (h : oh_H) (o : Nat) (v2 : Option Nat) (v3 : Int32) : oh_J (oh_TL (pv_X7_plan_49 G o v2) (oh_TW h0 xi 0 0 (some .int) G)) (b_X7_plan_49 h o v2 v3) (oh_V G 0 0 h 49 [(0, xr (some o)), (2, xr v2), (3, xi v3)] []) := by
  unfold b_X7_plan_49
  refine or_iload_n C 2 rfl dX7_plan_49 ?_
  refine or_aload_n C 0 rfl dX7_plan_50 ?_
  refine or_getI C 7 8 rfl (by decide) rfl (by decide) u_X7_plan_7 (by decide) k_X7_plan_f58 (by decide +kernel) dX7_plan_51 (fun x1 => ?_)
  refine or_icmp_ge C 111 dX7_plan_54 (by decide) ?_ ?_
  · refine oj_inr ?_
    refine or_aload_n C 0 rfl dX7_plan_111 ?_
    refine or_getR C 7 6 rfl (by decide) rfl (by decide) u_X7_plan_7 (by decide) k_X7_plan_f50 (by decide +kernel) dX7_plan_112 (fun x2 => ?_)
    refine oj_rc (fun o3 e5 q4 => ?_)
    refine oj_bind (fun p6 z7 => ?_)
    refine oj_v (P := oh_V G 0 0 p6 118 [(0, xr (some o)), (2, xr v2), (3, xi v3)] []) (fun k => or_callV C 0 hl (m_X4_decide _ h o3 p6 z7) gX7_plan_X4_decide rfl rfl rfl (by decide +kernel) ⟨Nat.le_of_ble_eq_true rfl, Nat.le_of_ble_eq_true rfl⟩ q4 rfl (by decide) (Nat.le_of_ble_eq_true rfl) dX7_plan_115 ⟨Nat.le_of_ble_eq_true rfl, Nat.le_of_ble_eq_true rfl⟩ rfl (by rw [e5]; rfl) k) ?_
    refine or_aload_n C 0 rfl dX7_plan_118 ?_
    refine or_getR C 7 6 rfl (by decide) rfl (by decide) u_X7_plan_7 (by decide) k_X7_plan_f50 (by decide +kernel) dX7_plan_119 (fun x8 => ?_)
    refine or_getI C 4 11 rfl (by decide) rfl (by decide) u_X7_plan_4 (by decide) k_X7_plan_f327 (by decide +kernel) dX7_plan_122 (fun x9 => ?_)
    exact or_iret C ⟨Nat.le_of_ble_eq_true rfl, Nat.le_of_ble_eq_true rfl⟩ dX7_plan_125
  · refine or_aload_n C 0 rfl dX7_plan_57 ?_
    refine or_getR C 7 1 rfl (by decide) rfl (by decide) u_X7_plan_7 (by decide) k_X7_plan_f17 (by decide +kernel) dX7_plan_58 (fun x10 => ?_)
    refine or_iload_n C 2 rfl dX7_plan_61 ?_
    refine or_aald C 4 (fun _ => rfl) (by decide) rfl dX7_plan_62 (fun x11 => ?_)
    refine oj_rc (fun o12 e14 q13 => ?_)
    refine oj_bind (fun p15 z16 => ?_)
    refine oj_v (P := oh_V G 0 0 h 66 [(0, xr (some o)), (2, xr v2), (3, xi v3)] [xi p15]) (fun k => or_callV C 0 hl (m_X2_isForPlan _ h o12 p15 z16) gX7_plan_X2_isForPlan rfl rfl rfl (by decide +kernel) ⟨Nat.le_of_ble_eq_true rfl, Nat.le_of_ble_eq_true rfl⟩ q13 rfl (by decide) (Nat.le_of_ble_eq_true rfl) dX7_plan_63 ⟨Nat.le_of_ble_eq_true rfl, Nat.le_of_ble_eq_true rfl⟩ rfl (by rw [e14]; rfl) k) ?_
    refine or_if_eq C 105 dX7_plan_66 (by decide) ?_ ?_
    · refine or_sub [0, 1, 2] rfl ?_
      exact w_X7_plan_105 C hl h0 h o v2 v3
    · refine or_aload_n C 0 rfl dX7_plan_69 ?_
      refine or_getR C 7 6 rfl (by decide) rfl (by decide) u_X7_plan_7 (by decide) k_X7_plan_f50 (by decide +kernel) dX7_plan_70 (fun x17 => ?_)
      refine or_aload_n C 0 rfl dX7_plan_73 ?_
      refine or_getR C 7 1 rfl (by decide) rfl (by decide) u_X7_plan_7 (by decide) k_X7_plan_f17 (by decide +kernel) dX7_plan_74 (fun x18 => ?_)
      refine or_iload_n C 2 rfl dX7_plan_77 ?_
      refine or_aald C 4 (fun _ => rfl) (by decide) rfl dX7_plan_78 (fun x19 => ?_)
      refine or_aload_n C 1 rfl dX7_plan_79 ?_
      refine or_aload_n C 0 rfl dX7_plan_80 ?_
      refine or_getR C 7 1 rfl (by decide) rfl (by decide) u_X7_plan_7 (by decide) k_X7_plan_f17 (by decide +kernel) dX7_plan_81 (fun x20 => ?_)
      refine or_iload_n C 2 rfl dX7_plan_84 ?_
      refine or_aald C 4 (fun _ => rfl) (by decide) rfl dX7_plan_85 (fun x21 => ?_)
      refine or_getI C 2 5 rfl (by decide) rfl (by decide) u_X7_plan_2 (by decide) k_X7_plan_f120 (by decide +kernel) dX7_plan_86 (fun x22 => ?_)
      refine oj_rc (fun o23 e25 q24 => ?_)
      refine oj_bind (fun p26 z27 => ?_)
      refine oj_v (P := oh_V G 0 0 h 92 [(0, xr (some o)), (2, xr v2), (3, xi v3)] [xi p26, xr x19, xr x17]) (fun k => or_callV C 1 hl (m_X3_hoursFor _ h o23 x22 p26 z27) gX7_plan_X3_hoursFor rfl rfl rfl (by decide +kernel) ⟨Nat.le_of_ble_eq_true rfl, Nat.le_of_ble_eq_true rfl⟩ q24 rfl (by decide) (Nat.le_of_ble_eq_true rfl) dX7_plan_89 ⟨Nat.le_of_ble_eq_true rfl, Nat.le_of_ble_eq_true rfl⟩ rfl (by rw [e25]; rfl) k) ?_
      refine or_aload_n C 0 rfl dX7_plan_92 ?_
      refine or_aload_n C 0 rfl dX7_plan_93 ?_
      refine or_getR C 7 1 rfl (by decide) rfl (by decide) u_X7_plan_7 (by decide) k_X7_plan_f17 (by decide +kernel) dX7_plan_94 (fun x28 => ?_)
      refine or_iload_n C 2 rfl dX7_plan_97 ?_
      refine or_aald C 4 (fun _ => rfl) (by decide) rfl dX7_plan_98 (fun x29 => ?_)
      refine oj_rcs (fun q30 => ?_)
      refine oj_bind (fun p32 z33 => ?_)
      refine oj_v (P := oh_V G 0 0 h 102 [(0, xr (some o)), (2, xr v2), (3, xi v3)] [xi p32, xi p26, xr x19, xr x17]) (fun k => or_callV C 1 hl (m_X7_lateHour _ h o x29 p32 z33) gX7_plan_X7_lateHour rfl rfl rfl (by decide +kernel) ⟨Nat.le_of_ble_eq_true rfl, Nat.le_of_ble_eq_true rfl⟩ q30 rfl (by decide) (Nat.le_of_ble_eq_true rfl) dX7_plan_99 ⟨Nat.le_of_ble_eq_true rfl, Nat.le_of_ble_eq_true rfl⟩ rfl rfl k) ?_
      refine oj_rc (fun o34 e36 q35 => ?_)
      refine oj_bind (fun p37 z38 => ?_)
      refine oj_v (P := oh_V G 0 0 p37 105 [(0, xr (some o)), (2, xr v2), (3, xi v3)] []) (fun k => or_callV C 3 hl (m_X4_add _ h o34 x19 p26 p32 p37 z38) gX7_plan_X4_add rfl rfl rfl (by decide +kernel) ⟨Nat.le_of_ble_eq_true rfl, Nat.le_of_ble_eq_true rfl⟩ q35 rfl (by decide) (Nat.le_of_ble_eq_true rfl) dX7_plan_102 ⟨Nat.le_of_ble_eq_true rfl, Nat.le_of_ble_eq_true rfl⟩ rfl (by rw [e36]; rfl) k) ?_
      refine or_sub [0, 1, 2] rfl ?_
      exact w_X7_plan_105 C hl h0 p37 o v2 v3
theorem w_X7_plan_49 {G : oh_G} {l : Launch} (C : oh_C G cX7_plan wsX7_plan RX7 rmX7_plan 4) (hl : G.1.2.1 = l) (h0 : oh_H) (h : oh_H) (o : Nat) (v2 : Option Nat) (v3 : Int32) : oh_J (oh_TW h0 xi 0 0 (some .int) G) (f_X7_plan_49 h o v2 v3) (oh_V G 0 0 h 49 [(0, xr (some o)), (2, xr v2), (3, xi v3)] []) := by
  unfold f_X7_plan_49
  exact oj_loop (P := pv_X7_plan_49 G o v2) (fun s => wb_X7_plan_49 C hl h0 s.1 o v2 s.2) 1000000 (h, v3)
set_option maxHeartbeats 4000000 in
set_option maxRecDepth 100000 in
theorem w_X7_plan_0 {G : oh_G} {l : Launch} (C : oh_C G cX7_plan wsX7_plan RX7 rmX7_plan 4) (hl : G.1.2.1 = l) (h0 : oh_H) (h : oh_H) (o : Nat) (v1 : Int32) : oh_J (oh_TW h0 xi 0 0 (some .int) G) (f_X7_plan h o v1) (oh_V G 0 0 h 0 [(0, xr (some o)), (1, xi v1)] []) := by
  unfold f_X7_plan
  refine or_aload_n C 0 rfl dX7_plan_0 ?_
  refine or_iload_n C 1 rfl dX7_plan_1 ?_
  refine oj_rcs (fun q1 => ?_)
  refine oj_bind (fun p3 z4 => ?_)
  refine oj_v (P := oh_V G 0 0 h 5 [(0, xr (some o)), (1, xi v1)] [xr p3]) (fun k => or_callV C 1 hl (m_X7_findMill _ h o v1 p3 z4) gX7_plan_X7_findMill rfl rfl rfl (by decide +kernel) ⟨Nat.le_of_ble_eq_true rfl, Nat.le_of_ble_eq_true rfl⟩ q1 rfl (by decide) (Nat.le_of_ble_eq_true rfl) dX7_plan_2 ⟨Nat.le_of_ble_eq_true rfl, Nat.le_of_ble_eq_true rfl⟩ rfl rfl k) ?_
  refine or_astore_n C (fun x5 => [(2, xr x5), (0, xr (some o)), (1, xi v1)]) (fun _ => rfl) (by decide) dX7_plan_5 (fun x5 => ?_)
  refine or_aload_n C 0 rfl dX7_plan_6 ?_
  refine or_ifnull C 19 dX7_plan_7 (by decide) ?_ ?_
  · refine or_sub [] rfl ?_
    exact w_X7_plan_19 C hl h0 h o
  · refine or_aload_n C 1 rfl dX7_plan_10 ?_
    refine oj_rcs (fun q6 => ?_)
    refine oj_bind (fun p8 z9 => ?_)
    refine oj_v (P := oh_V G 0 0 h 14 [(2, xr x5), (0, xr (some o)), (1, xi v1)] [xi p8]) (fun k => or_callV C 0 hl (m_X7_countForPlan _ h o p8 z9) gX7_plan_X7_countForPlan rfl rfl rfl (by decide +kernel) ⟨Nat.le_of_ble_eq_true rfl, Nat.le_of_ble_eq_true rfl⟩ q6 rfl (by decide) (Nat.le_of_ble_eq_true rfl) dX7_plan_11 ⟨Nat.le_of_ble_eq_true rfl, Nat.le_of_ble_eq_true rfl⟩ rfl rfl k) ?_
    refine or_bipush C (v := (8 : Int32)) dX7_plan_14 (by decide) ?_
    refine or_icmp_le C 21 dX7_plan_16 (by decide) ?_ ?_
    · refine or_aload_n C 1 rfl dX7_plan_21 ?_
      refine or_getR C 7 6 rfl (by decide) rfl (by decide) u_X7_plan_7 (by decide) k_X7_plan_f50 (by decide +kernel) dX7_plan_22 (fun x10 => ?_)
      refine or_aload_n C 1 rfl dX7_plan_25 ?_
      refine or_getI C 7 10 rfl (by decide) rfl (by decide) u_X7_plan_7 (by decide) k_X7_plan_f64 (by decide +kernel) dX7_plan_26 (fun x11 => ?_)
      refine or_aload_n C 0 rfl dX7_plan_29 ?_
      refine or_getI C 3 6 rfl (by decide) rfl (by decide) u_X7_plan_3 (by decide) k_X7_plan_f185 (by decide +kernel) dX7_plan_30 (fun x12 => ?_)
      refine or_mmax C k_X7_plan_ml305 k_X7_plan_msmmax k_X7_plan_mi k_X7_plan_mcmmax ⟨Nat.le_of_ble_eq_true rfl, Nat.le_of_ble_eq_true rfl, Nat.le_of_ble_eq_true rfl⟩ (Nat.le_of_ble_eq_true rfl) dX7_plan_33 ?_
      refine or_aload_n C 0 rfl dX7_plan_36 ?_
      refine or_getI C 3 7 rfl (by decide) rfl (by decide) u_X7_plan_3 (by decide) k_X7_plan_f188 (by decide +kernel) dX7_plan_37 (fun x13 => ?_)
      refine or_aload_n C 0 rfl dX7_plan_40 ?_
      refine or_getI C 3 8 rfl (by decide) rfl (by decide) u_X7_plan_3 (by decide) k_X7_plan_f280 (by decide +kernel) dX7_plan_41 (fun x14 => ?_)
      refine oj_rc (fun o15 e17 q16 => ?_)
      refine oj_bind (fun p18 z19 => ?_)
      refine oj_v (P := oh_V G 0 0 p18 47 [(2, xr x5), (0, xr (some o)), (1, xi v1)] []) (fun k => or_callV C 3 hl (m_X4_start _ h o15 (if x11 < x12 then x12 else x11) x13 x14 p18 z19) gX7_plan_X4_start rfl rfl rfl (by decide +kernel) ⟨Nat.le_of_ble_eq_true rfl, Nat.le_of_ble_eq_true rfl⟩ q16 rfl (by decide) (Nat.le_of_ble_eq_true rfl) dX7_plan_44 ⟨Nat.le_of_ble_eq_true rfl, Nat.le_of_ble_eq_true rfl⟩ rfl (by rw [e17]; rfl) k) ?_
      refine or_iconst C (v := (0 : Int32)) dX7_plan_47 (by decide) ?_
      refine or_istore_n C (fun x20 => [(3, xi x20), (2, xr x5), (0, xr (some o)), (1, xi v1)]) (fun _ => rfl) (by decide) dX7_plan_48 (fun x20 => ?_)
      refine or_sub [2, 1, 0] rfl ?_
      exact w_X7_plan_49 C hl h0 p18 o x5 x20
    · refine or_sub [] rfl ?_
      exact w_X7_plan_19 C hl h0 h o
theorem m_X7_plan (l : Launch) (h : oh_H) (o : Nat) (v1 : Int32) (p : Int32 × oh_H) (hf : f_X7_plan h o v1 = some p) : oh_M l yX7_plan wsX7_plan rmX7_plan 0 0 [xr (some o), xi v1] h (some (xi p.1)) p.2 :=
  oh_met (cc := cX7_plan) (maxL := 4) (ret := (some .int)) (by decide) rfl (Nat.le_of_ble_eq_true rfl) (fun G C hl hN E => w_X7_plan_0 C hl h h o v1 p hf E)
/-! X7_planned -/
theorem k_X7_planned_f50 : Cond.fieldLink RX7 50 "OilPress" "planner" "LOilPress$Planner;" ∈ wsX7_planned := List.mem_of_getElem? (i := 1) (by decide +kernel)
theorem u_X7_planned_7 : ∀ w ∈ u_ws RX7 TX7 14, w ∈ wsX7_planned := fun w h => List.mem_cons_of_mem _ (List.mem_append_left _ (List.mem_append_right _ (h)))
theorem k_X7_planned_f328 : Cond.fieldLink RX7 328 "OilPress$Planner" "isMade" "Z" ∈ wsX7_planned := List.mem_of_getElem? (i := 2) (by decide +kernel)
theorem u_X7_planned_4 : ∀ w ∈ u_ws RX4 TX4 15, w ∈ wsX7_planned := fun w h => List.mem_cons_of_mem _ (List.mem_append_right _ (h))
theorem k_X7_planned_f327 : Cond.fieldLink RX7 327 "OilPress$Planner" "size" "I" ∈ wsX7_planned := List.mem_of_getElem? (i := 5) (by decide +kernel)
theorem k_X7_planned_f337 : Cond.fieldLink RX7 337 "OilPress$Planner" "order" "[I" ∈ wsX7_planned := List.mem_of_getElem? (i := 6) (by decide +kernel)
theorem k_X7_planned_f334 : Cond.fieldLink RX7 334 "OilPress$Planner" "end" "I" ∈ wsX7_planned := List.mem_of_getElem? (i := 4) (by decide +kernel)
theorem k_X7_planned_f331 : Cond.fieldLink RX7 331 "OilPress$Planner" "tooLate" "I" ∈ wsX7_planned := List.mem_of_getElem? (i := 3) (by decide +kernel)
abbrev rmX7_planned : Room := { frames := 1, cells := 0, slots := 0, locals := 22 }
def f_X7_planned_69 (h : oh_H) (o : Nat) (s0 : Int32) : Option (Int32) :=
  some s0
def f_X7_planned (h : oh_H) (o : Nat) (v1 : Int32) : Option (Int32) :=
  (oh_gR h (some o) 454).bind fun x1 => (oh_gI h x1 270).bind fun x2 => if x2 = 0 then (some (-1 : Int32)) else (if v1 = (-1 : Int32) then ((oh_gR h (some o) 454).bind fun x12 => (oh_gI h x12 268).bind fun x13 => some x13) else (if v1 = (-2 : Int32) then ((oh_gR h (some o) 454).bind fun x10 => (oh_gI h x10 269).bind fun x11 => some x11) else ((oh_gR h (some o) 454).bind fun x3 => (oh_gI h x3 267).bind fun x4 => (f_X7_isWithin h v1 (0 : Int32) (x4 - (1 : Int32))).bind fun p5 => if p5 = 0 then (f_X7_planned_69 h o (-1 : Int32)) else ((oh_gR h (some o) 454).bind fun x7 => (oh_gR h x7 266).bind fun x8 => (oh_aI h x8 20 v1).bind fun x9 => f_X7_planned_69 h o x9))))
set_option maxHeartbeats 4000000 in
set_option maxRecDepth 100000 in
theorem w_X7_planned_69 {G : oh_G} {l : Launch} (C : oh_C G cX7_planned wsX7_planned RX7 rmX7_planned 2) (hl : G.1.2.1 = l) (h : oh_H) (o : Nat) (s0 : Int32) : oh_J (oh_TR h xi (some .int) G) (f_X7_planned_69 h o s0) (oh_V G 0 0 h 69 [] [xi s0]) := by
  unfold f_X7_planned_69
  exact or_iretR C dX7_planned_69
set_option maxHeartbeats 4000000 in
set_option maxRecDepth 100000 in
theorem w_X7_planned_0 {G : oh_G} {l : Launch} (C : oh_C G cX7_planned wsX7_planned RX7 rmX7_planned 2) (hl : G.1.2.1 = l) (h : oh_H) (o : Nat) (v1 : Int32) : oh_J (oh_TR h xi (some .int) G) (f_X7_planned h o v1) (oh_V G 0 0 h 0 [(0, xr (some o)), (1, xi v1)] []) := by
  unfold f_X7_planned
  refine or_aload_n C 0 rfl dX7_planned_0 ?_
  refine or_getR C 7 6 rfl (by decide) rfl (by decide) u_X7_planned_7 (by decide) k_X7_planned_f50 (by decide +kernel) dX7_planned_1 (fun x1 => ?_)
  refine or_getI C 4 14 rfl (by decide) rfl (by decide) u_X7_planned_4 (by decide) k_X7_planned_f328 (by decide +kernel) dX7_planned_4 (fun x2 => ?_)
  refine or_if_ne C 12 dX7_planned_7 (by decide) ?_ ?_
  · refine or_iconst C (v := (-1 : Int32)) dX7_planned_10 (by decide) ?_
    exact or_iretR C dX7_planned_11
  · refine or_iload_n C 1 rfl dX7_planned_12 ?_
    refine or_iconst C (v := (-1 : Int32)) dX7_planned_13 (by decide) ?_
    refine or_icmp_ne C 25 dX7_planned_14 (by decide) ?_ ?_
    · refine or_aload_n C 0 rfl dX7_planned_17 ?_
      refine or_getR C 7 6 rfl (by decide) rfl (by decide) u_X7_planned_7 (by decide) k_X7_planned_f50 (by decide +kernel) dX7_planned_18 (fun x12 => ?_)
      refine or_getI C 4 12 rfl (by decide) rfl (by decide) u_X7_planned_4 (by decide) k_X7_planned_f331 (by decide +kernel) dX7_planned_21 (fun x13 => ?_)
      exact or_iretR C dX7_planned_24
    · refine or_iload_n C 1 rfl dX7_planned_25 ?_
      refine or_bipush C (v := (-2 : Int32)) dX7_planned_26 (by decide) ?_
      refine or_icmp_ne C 39 dX7_planned_28 (by decide) ?_ ?_
      · refine or_aload_n C 0 rfl dX7_planned_31 ?_
        refine or_getR C 7 6 rfl (by decide) rfl (by decide) u_X7_planned_7 (by decide) k_X7_planned_f50 (by decide +kernel) dX7_planned_32 (fun x10 => ?_)
        refine or_getI C 4 13 rfl (by decide) rfl (by decide) u_X7_planned_4 (by decide) k_X7_planned_f334 (by decide +kernel) dX7_planned_35 (fun x11 => ?_)
        exact or_iretR C dX7_planned_38
      · refine or_iload_n C 1 rfl dX7_planned_39 ?_
        refine or_iconst C (v := (0 : Int32)) dX7_planned_40 (by decide) ?_
        refine or_aload_n C 0 rfl dX7_planned_41 ?_
        refine or_getR C 7 6 rfl (by decide) rfl (by decide) u_X7_planned_7 (by decide) k_X7_planned_f50 (by decide +kernel) dX7_planned_42 (fun x3 => ?_)
        refine or_getI C 4 11 rfl (by decide) rfl (by decide) u_X7_planned_4 (by decide) k_X7_planned_f327 (by decide +kernel) dX7_planned_45 (fun x4 => ?_)
        refine or_iconst C (v := (1 : Int32)) dX7_planned_48 (by decide) ?_
        refine or_isub C dX7_planned_49 ?_
        refine oj_bind (fun p5 z6 => ?_)
        refine oj_v (P := oh_V G 0 0 h 53 [(0, xr (some o)), (1, xi v1)] [xi p5]) (fun k => or_callS C 3 hl (m_X7_isWithin _ h v1 (0 : Int32) (x4 - (1 : Int32)) p5 z6) gX7_planned_X7_isWithin rfl rfl rfl (by decide +kernel) ⟨Nat.le_of_ble_eq_true rfl, Nat.le_of_ble_eq_true rfl⟩ (Nat.le_of_ble_eq_true rfl) dX7_planned_50 ⟨Nat.le_of_ble_eq_true rfl, Nat.le_of_ble_eq_true rfl⟩ rfl rfl k) ?_
        refine or_if_eq C 68 dX7_planned_53 (by decide) ?_ ?_
        · refine or_iconst C (v := (-1 : Int32)) dX7_planned_68 (by decide) ?_
          refine or_sub [] rfl ?_
          exact w_X7_planned_69 C hl h o (-1 : Int32)
        · refine or_aload_n C 0 rfl dX7_planned_56 ?_
          refine or_getR C 7 6 rfl (by decide) rfl (by decide) u_X7_planned_7 (by decide) k_X7_planned_f50 (by decide +kernel) dX7_planned_57 (fun x7 => ?_)
          refine or_getR C 4 10 rfl (by decide) rfl (by decide) u_X7_planned_4 (by decide) k_X7_planned_f337 (by decide +kernel) dX7_planned_60 (fun x8 => ?_)
          refine or_iload_n C 1 rfl dX7_planned_63 ?_
          refine or_iald C dX7_planned_64 (fun x9 => ?_)
          refine or_goto C 69 dX7_planned_65 (by decide) ?_
          refine or_sub [] rfl ?_
          exact w_X7_planned_69 C hl h o x9
theorem m_X7_planned (l : Launch) (h : oh_H) (o : Nat) (v1 : Int32) (p : Int32) (hf : f_X7_planned h o v1 = some p) : oh_M l yX7_planned wsX7_planned rmX7_planned 0 0 [xr (some o), xi v1] h (some (xi p)) h :=
  oh_met (cc := cX7_planned) (maxL := 2) (ret := (some .int)) (by decide) rfl (Nat.le_of_ble_eq_true rfl) (fun G C hl hN E => w_X7_planned_0 C hl h o v1 p hf E)
/-! X7_balance -/
theorem k_X7_balance_f61 : Cond.fieldLink RX7 61 "OilPress" "vatCount" "I" ∈ wsX7_balance := List.mem_of_getElem? (i := 12) (by decide +kernel)
theorem u_X7_balance_7 : ∀ w ∈ u_ws RX7 TX7 14, w ∈ wsX7_balance := fun w h => List.mem_cons_of_mem _ (List.mem_append_left _ (List.mem_append_left _ (List.mem_append_left _ (List.mem_append_right _ (h)))))
theorem k_X7_balance_f29 : Cond.fieldLink RX7 29 "OilPress" "vats" "[LOilPress$Vat;" ∈ wsX7_balance := List.mem_of_getElem? (i := 13) (by decide +kernel)
theorem k_X7_balance_f232 : Cond.fieldLink RX7 232 "OilPress$Vat" "tenths" "I" ∈ wsX7_balance := List.mem_of_getElem? (i := 14) (by decide +kernel)
theorem u_X7_balance_6 : ∀ w ∈ u_ws RX6 TX6 8, w ∈ wsX7_balance := fun w h => List.mem_cons_of_mem _ (List.mem_append_right _ (h))
theorem k_X7_balance_f23 : Cond.fieldLink RX7 23 "OilPress" "mills" "[LOilPress$Mill;" ∈ wsX7_balance := List.mem_of_getElem? (i := 6) (by decide +kernel)
theorem k_X7_balance_f198 : Cond.fieldLink RX7 198 "OilPress$Mill" "given" "I" ∈ wsX7_balance := List.mem_of_getElem? (i := 7) (by decide +kernel)
theorem u_X7_balance_3 : ∀ w ∈ u_ws RX3 TX3 14, w ∈ wsX7_balance := fun w h => List.mem_cons_of_mem _ (List.mem_append_left _ (List.mem_append_right _ (h)))
theorem k_X7_balance_ml305 : Cond.methodLink RX7 305 Lib.Math.max.name ∈ wsX7_balance := List.mem_of_getElem? (i := 8) (by decide +kernel)
theorem k_X7_balance_msmmax : Cond.static Lib.Math.max.name ∈ wsX7_balance := List.mem_of_getElem? (i := 9) (by decide +kernel)
theorem k_X7_balance_mi : Cond.initialized "java/lang/Math" ∈ wsX7_balance := List.mem_of_getElem? (i := 10) (by decide +kernel)
theorem k_X7_balance_mcmmax : Cond.code Lib.Math.max.name Lib.Math.max.code 2 (some .int) ∈ wsX7_balance := List.mem_of_getElem? (i := 11) (by decide +kernel)
theorem k_X7_balance_f43 : Cond.fieldLink RX7 43 "OilPress" "totals" "LOilPress$Totals;" ∈ wsX7_balance := List.mem_of_getElem? (i := 1) (by decide +kernel)
theorem k_X7_balance_f204 : Cond.fieldLink RX7 204 "OilPress$Totals" "given" "I" ∈ wsX7_balance := List.mem_of_getElem? (i := 2) (by decide +kernel)
theorem u_X7_balance_5 : ∀ w ∈ u_ws RX5 TX5 5, w ∈ wsX7_balance := fun w h => List.mem_cons_of_mem _ (List.mem_append_left _ (List.mem_append_left _ (List.mem_append_right _ (h))))
theorem k_X7_balance_f240 : Cond.fieldLink RX7 240 "OilPress$Totals" "fetched" "I" ∈ wsX7_balance := List.mem_of_getElem? (i := 3) (by decide +kernel)
theorem k_X7_balance_f249 : Cond.fieldLink RX7 249 "OilPress$Totals" "drawn" "I" ∈ wsX7_balance := List.mem_of_getElem? (i := 4) (by decide +kernel)
theorem k_X7_balance_f252 : Cond.fieldLink RX7 252 "OilPress$Totals" "lent" "I" ∈ wsX7_balance := List.mem_of_getElem? (i := 5) (by decide +kernel)
abbrev rmX7_balance : Room := { frames := 1, cells := 0, slots := 0, locals := 23 }
abbrev pv_X7_balance_63 (G : oh_G) (h : oh_H) (o : Nat) : (Int32 × Int32) → Prop := fun s => oh_V G 0 0 h 63 [(0, xr (some o)), (1, xi s.1), (2, xi s.2)] []
def b_X7_balance_63 (h : oh_H) (o : Nat) (v1 : Int32) (v2 : Int32) : Option ((Int32 × Int32) ⊕ (Int32)) :=
  (oh_gI h (some o) 457).bind fun x1 => if x1 ≤ v2 then (Option.map Sum.inr (some v1)) else ((oh_gR h (some o) 451).bind fun x2 => (oh_aR h x2 26 v2).bind fun x3 => (oh_gI h x3 387).bind fun x4 => oh_lt (v1 - x4) fun x5 => oh_lt (v2 + (1 : Int32)) fun x6 => some (Sum.inl (x5, x6)))
def f_X7_balance_63 (h : oh_H) (o : Nat) (v1 : Int32) (v2 : Int32) : Option (Int32) := oh_loop (fun s : Int32 × Int32 => b_X7_balance_63 h o s.1 s.2) 1000000 (v1, v2)
abbrev pv_X7_balance_34 (G : oh_G) (h : oh_H) (o : Nat) : (Int32 × Int32) → Prop := fun s => oh_V G 0 0 h 34 [(0, xr (some o)), (1, xi s.1), (2, xi s.2)] []
def b_X7_balance_34 (h : oh_H) (o : Nat) (v1 : Int32) (v2 : Int32) : Option ((Int32 × Int32) ⊕ (Int32)) :=
  if (3 : Int32) ≤ v2 then (Option.map Sum.inr (oh_lt (0 : Int32) fun x1 => f_X7_balance_63 h o v1 x1)) else ((oh_gR h (some o) 450).bind fun x2 => (oh_aR h x2 25 v2).bind fun x3 => (oh_gI h x3 204).bind fun x4 => oh_lt (v1 - (if (0 : Int32) < x4 then x4 else (0 : Int32))) fun x5 => oh_lt (v2 + (1 : Int32)) fun x6 => some (Sum.inl (x5, x6)))
def f_X7_balance_34 (h : oh_H) (o : Nat) (v1 : Int32) (v2 : Int32) : Option (Int32) := oh_loop (fun s : Int32 × Int32 => b_X7_balance_34 h o s.1 s.2) 1000000 (v1, v2)
def f_X7_balance (h : oh_H) (o : Nat) : Option (Int32) :=
  (oh_gR h (some o) 453).bind fun x1 => (oh_gI h x1 320).bind fun x2 => (oh_gR h (some o) 453).bind fun x3 => (oh_gI h x3 321).bind fun x4 => (oh_gR h (some o) 453).bind fun x5 => (oh_gI h x5 322).bind fun x6 => (oh_gR h (some o) 453).bind fun x7 => (oh_gI h x7 323).bind fun x8 => oh_lt (((x2 - x4) - x6) - x8) fun x9 => oh_lt (0 : Int32) fun x10 => f_X7_balance_34 h o x9 x10
set_option maxHeartbeats 4000000 in
set_option maxRecDepth 100000 in
theorem wb_X7_balance_63 {G : oh_G} {l : Launch} (C : oh_C G cX7_balance wsX7_balance RX7 rmX7_balance 3) (hl : G.1.2.1 = l) (h : oh_H) (o : Nat) (v1 : Int32) (v2 : Int32) : oh_J (oh_TL (pv_X7_balance_63 G h o) (oh_TR h xi (some .int) G)) (b_X7_balance_63 h o v1 v2) (oh_V G 0 0 h 63 [(0, xr (some o)), (1, xi v1), (2, xi v2)] []) := by
  unfold b_X7_balance_63
  refine or_iload_n C 2 rfl dX7_balance_63 ?_
  refine or_aload_n C 0 rfl dX7_balance_64 ?_
  refine or_getI C 7 9 rfl (by decide) rfl (by decide) u_X7_balance_7 (by decide) k_X7_balance_f61 (by decide +kernel) dX7_balance_65 (fun x1 => ?_)
  refine or_icmp_ge C 89 dX7_balance_68 (by decide) ?_ ?_
  · refine oj_inr ?_
    refine or_iload_n C 1 rfl dX7_balance_89 ?_
    exact or_iretR C dX7_balance_90
  · refine or_iload_n C 1 rfl dX7_balance_71 ?_
    refine or_aload_n C 0 rfl dX7_balance_72 ?_
    refine or_getR C 7 3 rfl (by decide) rfl (by decide) u_X7_balance_7 (by decide) k_X7_balance_f29 (by decide +kernel) dX7_balance_73 (fun x2 => ?_)
    refine or_iload_n C 2 rfl dX7_balance_76 ?_
    refine or_aald C 6 (fun _ => rfl) (by decide) rfl dX7_balance_77 (fun x3 => ?_)
    refine or_getI C 6 3 rfl (by decide) rfl (by decide) u_X7_balance_6 (by decide) k_X7_balance_f232 (by decide +kernel) dX7_balance_78 (fun x4 => ?_)
    refine or_isub C dX7_balance_81 ?_
    refine or_istore_n C (fun x5 => [(1, xi x5), (0, xr (some o)), (2, xi v2)]) (fun _ => rfl) (by decide) dX7_balance_82 (fun x5 => ?_)
    refine or_iinc C (y := (1 : Int32)) 2 rfl (by decide) (fun x6 => [(2, xi x6), (1, xi x5), (0, xr (some o))]) (fun _ => rfl) (by decide) dX7_balance_83 (fun x6 => ?_)
    refine or_goto C 63 dX7_balance_86 (by decide) ?_
    refine or_sub [2, 1, 0] rfl ?_
    exact oj_back (P := pv_X7_balance_63 G h o) (s := (x5, x6))
theorem w_X7_balance_63 {G : oh_G} {l : Launch} (C : oh_C G cX7_balance wsX7_balance RX7 rmX7_balance 3) (hl : G.1.2.1 = l) (h : oh_H) (o : Nat) (v1 : Int32) (v2 : Int32) : oh_J (oh_TR h xi (some .int) G) (f_X7_balance_63 h o v1 v2) (oh_V G 0 0 h 63 [(0, xr (some o)), (1, xi v1), (2, xi v2)] []) := by
  unfold f_X7_balance_63
  exact oj_loop (P := pv_X7_balance_63 G h o) (fun s => wb_X7_balance_63 C hl h o s.1 s.2) 1000000 (v1, v2)
set_option maxHeartbeats 4000000 in
set_option maxRecDepth 100000 in
theorem wb_X7_balance_34 {G : oh_G} {l : Launch} (C : oh_C G cX7_balance wsX7_balance RX7 rmX7_balance 3) (hl : G.1.2.1 = l) (h : oh_H) (o : Nat) (v1 : Int32) (v2 : Int32) : oh_J (oh_TL (pv_X7_balance_34 G h o) (oh_TR h xi (some .int) G)) (b_X7_balance_34 h o v1 v2) (oh_V G 0 0 h 34 [(0, xr (some o)), (1, xi v1), (2, xi v2)] []) := by
  unfold b_X7_balance_34
  refine or_iload_n C 2 rfl dX7_balance_34 ?_
  refine or_iconst C (v := (3 : Int32)) dX7_balance_35 (by decide) ?_
  refine or_icmp_ge C 61 dX7_balance_36 (by decide) ?_ ?_
  · refine oj_inr ?_
    refine or_iconst C (v := (0 : Int32)) dX7_balance_61 (by decide) ?_
    refine or_istore_n C (fun x1 => [(2, xi x1), (0, xr (some o)), (1, xi v1)]) (fun _ => rfl) (by decide) dX7_balance_62 (fun x1 => ?_)
    refine or_sub [1, 2, 0] rfl ?_
    exact w_X7_balance_63 C hl h o v1 x1
  · refine or_iload_n C 1 rfl dX7_balance_39 ?_
    refine or_iconst C (v := (0 : Int32)) dX7_balance_40 (by decide) ?_
    refine or_aload_n C 0 rfl dX7_balance_41 ?_
    refine or_getR C 7 2 rfl (by decide) rfl (by decide) u_X7_balance_7 (by decide) k_X7_balance_f23 (by decide +kernel) dX7_balance_42 (fun x2 => ?_)
    refine or_iload_n C 2 rfl dX7_balance_45 ?_
    refine or_aald C 5 (fun _ => rfl) (by decide) rfl dX7_balance_46 (fun x3 => ?_)
    refine or_getI C 3 12 rfl (by decide) rfl (by decide) u_X7_balance_3 (by decide) k_X7_balance_f198 (by decide +kernel) dX7_balance_47 (fun x4 => ?_)
    refine or_mmax C k_X7_balance_ml305 k_X7_balance_msmmax k_X7_balance_mi k_X7_balance_mcmmax ⟨Nat.le_of_ble_eq_true rfl, Nat.le_of_ble_eq_true rfl, Nat.le_of_ble_eq_true rfl⟩ (Nat.le_of_ble_eq_true rfl) dX7_balance_50 ?_
    refine or_isub C dX7_balance_53 ?_
    refine or_istore_n C (fun x5 => [(1, xi x5), (0, xr (some o)), (2, xi v2)]) (fun _ => rfl) (by decide) dX7_balance_54 (fun x5 => ?_)
    refine or_iinc C (y := (1 : Int32)) 2 rfl (by decide) (fun x6 => [(2, xi x6), (1, xi x5), (0, xr (some o))]) (fun _ => rfl) (by decide) dX7_balance_55 (fun x6 => ?_)
    refine or_goto C 34 dX7_balance_58 (by decide) ?_
    refine or_sub [2, 1, 0] rfl ?_
    exact oj_back (P := pv_X7_balance_34 G h o) (s := (x5, x6))
theorem w_X7_balance_34 {G : oh_G} {l : Launch} (C : oh_C G cX7_balance wsX7_balance RX7 rmX7_balance 3) (hl : G.1.2.1 = l) (h : oh_H) (o : Nat) (v1 : Int32) (v2 : Int32) : oh_J (oh_TR h xi (some .int) G) (f_X7_balance_34 h o v1 v2) (oh_V G 0 0 h 34 [(0, xr (some o)), (1, xi v1), (2, xi v2)] []) := by
  unfold f_X7_balance_34
  exact oj_loop (P := pv_X7_balance_34 G h o) (fun s => wb_X7_balance_34 C hl h o s.1 s.2) 1000000 (v1, v2)
set_option maxHeartbeats 4000000 in
set_option maxRecDepth 100000 in
theorem w_X7_balance_0 {G : oh_G} {l : Launch} (C : oh_C G cX7_balance wsX7_balance RX7 rmX7_balance 3) (hl : G.1.2.1 = l) (h : oh_H) (o : Nat) : oh_J (oh_TR h xi (some .int) G) (f_X7_balance h o) (oh_V G 0 0 h 0 [(0, xr (some o))] []) := by
  unfold f_X7_balance
  refine or_aload_n C 0 rfl dX7_balance_0 ?_
  refine or_getR C 7 5 rfl (by decide) rfl (by decide) u_X7_balance_7 (by decide) k_X7_balance_f43 (by decide +kernel) dX7_balance_1 (fun x1 => ?_)
  refine or_getI C 5 0 rfl (by decide) rfl (by decide) u_X7_balance_5 (by decide) k_X7_balance_f204 (by decide +kernel) dX7_balance_4 (fun x2 => ?_)
  refine or_aload_n C 0 rfl dX7_balance_7 ?_
  refine or_getR C 7 5 rfl (by decide) rfl (by decide) u_X7_balance_7 (by decide) k_X7_balance_f43 (by decide +kernel) dX7_balance_8 (fun x3 => ?_)
  refine or_getI C 5 1 rfl (by decide) rfl (by decide) u_X7_balance_5 (by decide) k_X7_balance_f240 (by decide +kernel) dX7_balance_11 (fun x4 => ?_)
  refine or_isub C dX7_balance_14 ?_
  refine or_aload_n C 0 rfl dX7_balance_15 ?_
  refine or_getR C 7 5 rfl (by decide) rfl (by decide) u_X7_balance_7 (by decide) k_X7_balance_f43 (by decide +kernel) dX7_balance_16 (fun x5 => ?_)
  refine or_getI C 5 2 rfl (by decide) rfl (by decide) u_X7_balance_5 (by decide) k_X7_balance_f249 (by decide +kernel) dX7_balance_19 (fun x6 => ?_)
  refine or_isub C dX7_balance_22 ?_
  refine or_aload_n C 0 rfl dX7_balance_23 ?_
  refine or_getR C 7 5 rfl (by decide) rfl (by decide) u_X7_balance_7 (by decide) k_X7_balance_f43 (by decide +kernel) dX7_balance_24 (fun x7 => ?_)
  refine or_getI C 5 3 rfl (by decide) rfl (by decide) u_X7_balance_5 (by decide) k_X7_balance_f252 (by decide +kernel) dX7_balance_27 (fun x8 => ?_)
  refine or_isub C dX7_balance_30 ?_
  refine or_istore_n C (fun x9 => [(1, xi x9), (0, xr (some o))]) (fun _ => rfl) (by decide) dX7_balance_31 (fun x9 => ?_)
  refine or_iconst C (v := (0 : Int32)) dX7_balance_32 (by decide) ?_
  refine or_istore_n C (fun x10 => [(2, xi x10), (1, xi x9), (0, xr (some o))]) (fun _ => rfl) (by decide) dX7_balance_33 (fun x10 => ?_)
  refine or_sub [2, 1, 0] rfl ?_
  exact w_X7_balance_34 C hl h o x9 x10
theorem m_X7_balance (l : Launch) (h : oh_H) (o : Nat) (p : Int32) (hf : f_X7_balance h o = some p) : oh_M l yX7_balance wsX7_balance rmX7_balance 0 0 [xr (some o)] h (some (xi p)) h :=
  oh_met (cc := cX7_balance) (maxL := 3) (ret := (some .int)) (by decide) rfl (Nat.le_of_ble_eq_true rfl) (fun G C hl hN E => w_X7_balance_0 C hl h o p hf E)
/-! X7_count -/
theorem k_X7_count_f54 : Cond.fieldLink RX7 54 "OilPress" "groveCount" "I" ∈ wsX7_count := List.mem_of_getElem? (i := 1) (by decide +kernel)
theorem u_X7_count_7 : ∀ w ∈ u_ws RX7 TX7 14, w ∈ wsX7_count := fun w h => List.mem_cons_of_mem _ (List.mem_append_left _ (List.mem_append_right _ (h)))
theorem k_X7_count_f58 : Cond.fieldLink RX7 58 "OilPress" "lotCount" "I" ∈ wsX7_count := List.mem_of_getElem? (i := 2) (by decide +kernel)
theorem k_X7_count_f61 : Cond.fieldLink RX7 61 "OilPress" "vatCount" "I" ∈ wsX7_count := List.mem_of_getElem? (i := 3) (by decide +kernel)
theorem k_X7_count_f64 : Cond.fieldLink RX7 64 "OilPress" "now" "I" ∈ wsX7_count := List.mem_of_getElem? (i := 4) (by decide +kernel)
theorem k_X7_count_f73 : Cond.fieldLink RX7 73 "OilPress" "freePlaces" "I" ∈ wsX7_count := List.mem_of_getElem? (i := 5) (by decide +kernel)
theorem k_X7_count_f43 : Cond.fieldLink RX7 43 "OilPress" "totals" "LOilPress$Totals;" ∈ wsX7_count := List.mem_of_getElem? (i := 6) (by decide +kernel)
theorem k_X7_count_f204 : Cond.fieldLink RX7 204 "OilPress$Totals" "given" "I" ∈ wsX7_count := List.mem_of_getElem? (i := 7) (by decide +kernel)
theorem u_X7_count_5 : ∀ w ∈ u_ws RX5 TX5 5, w ∈ wsX7_count := fun w h => List.mem_cons_of_mem _ (List.mem_append_right _ (h))
theorem k_X7_count_f240 : Cond.fieldLink RX7 240 "OilPress$Totals" "fetched" "I" ∈ wsX7_count := List.mem_of_getElem? (i := 8) (by decide +kernel)
theorem k_X7_count_f249 : Cond.fieldLink RX7 249 "OilPress$Totals" "drawn" "I" ∈ wsX7_count := List.mem_of_getElem? (i := 9) (by decide +kernel)
theorem k_X7_count_f252 : Cond.fieldLink RX7 252 "OilPress$Totals" "lent" "I" ∈ wsX7_count := List.mem_of_getElem? (i := 10) (by decide +kernel)
theorem k_X7_count_f341 : Cond.fieldLink RX7 341 "OilPress$Totals" "becameLate" "I" ∈ wsX7_count := List.mem_of_getElem? (i := 11) (by decide +kernel)
abbrev rmX7_count : Room := { frames := 1, cells := 0, slots := 0, locals := 20 }
def f_X7_count (h : oh_H) (o : Nat) (v1 : Int32) : Option (Int32) :=
  if v1 = (0 : Int32) then ((oh_gI h (some o) 455).bind fun x1 => some x1) else (if v1 = (1 : Int32) then ((oh_gI h (some o) 456).bind fun x2 => some x2) else (if v1 = (2 : Int32) then ((oh_gI h (some o) 457).bind fun x3 => some x3) else (if v1 = (3 : Int32) then (oh_rc h (some o) 8 fun o5 => (f_X7_today h o5).bind fun p6 => some p6) else (if v1 = (4 : Int32) then ((oh_gI h (some o) 458).bind fun x8 => some x8) else (if v1 = (5 : Int32) then ((oh_gI h (some o) 461).bind fun x9 => some x9) else (if v1 = (6 : Int32) then ((oh_gR h (some o) 453).bind fun x10 => (oh_gI h x10 320).bind fun x11 => some x11) else (if v1 = (7 : Int32) then ((oh_gR h (some o) 453).bind fun x12 => (oh_gI h x12 321).bind fun x13 => some x13) else (if v1 = (8 : Int32) then ((oh_gR h (some o) 453).bind fun x14 => (oh_gI h x14 322).bind fun x15 => some x15) else (if v1 = (9 : Int32) then ((oh_gR h (some o) 453).bind fun x16 => (oh_gI h x16 323).bind fun x17 => some x17) else (if v1 = (10 : Int32) then ((oh_gR h (some o) 453).bind fun x18 => (oh_gI h x18 324).bind fun x19 => some x19) else (some (-1 : Int32))))))))))))
set_option maxHeartbeats 4000000 in
set_option maxRecDepth 100000 in
theorem w_X7_count_0 {G : oh_G} {l : Launch} (C : oh_C G cX7_count wsX7_count RX7 rmX7_count 2) (hl : G.1.2.1 = l) (h : oh_H) (o : Nat) (v1 : Int32) : oh_J (oh_TR h xi (some .int) G) (f_X7_count h o v1) (oh_V G 0 0 h 0 [(0, xr (some o)), (1, xi v1)] []) := by
  unfold f_X7_count
  refine or_iload_n C 1 rfl dX7_count_0 ?_
  refine or_case C (v := (0 : Int32)) 0 60 dX7_count_1 (by decide) (by decide) rfl (by decide) ?_ (fun n0 => ?_)
  · refine or_aload_n C 0 rfl dX7_count_60 ?_
    refine or_getI C 7 7 rfl (by decide) rfl (by decide) u_X7_count_7 (by decide) k_X7_count_f54 (by decide +kernel) dX7_count_61 (fun x1 => ?_)
    exact or_iretR C dX7_count_64
  refine or_case C (v := (1 : Int32)) 1 65 dX7_count_1 (by decide) (by decide) rfl (by decide) ?_ (fun n1 => ?_)
  · refine or_aload_n C 0 rfl dX7_count_65 ?_
    refine or_getI C 7 8 rfl (by decide) rfl (by decide) u_X7_count_7 (by decide) k_X7_count_f58 (by decide +kernel) dX7_count_66 (fun x2 => ?_)
    exact or_iretR C dX7_count_69
  refine or_case C (v := (2 : Int32)) 2 70 dX7_count_1 (by decide) (by decide) rfl (by decide) ?_ (fun n2 => ?_)
  · refine or_aload_n C 0 rfl dX7_count_70 ?_
    refine or_getI C 7 9 rfl (by decide) rfl (by decide) u_X7_count_7 (by decide) k_X7_count_f61 (by decide +kernel) dX7_count_71 (fun x3 => ?_)
    exact or_iretR C dX7_count_74
  refine or_case C (v := (3 : Int32)) 3 75 dX7_count_1 (by decide) (by decide) rfl (by decide) ?_ (fun n3 => ?_)
  · refine or_aload_n C 0 rfl dX7_count_75 ?_
    refine oj_rcs (fun q4 => ?_)
    refine oj_bind (fun p6 z7 => ?_)
    refine oj_v (P := oh_V G 0 0 h 79 [(0, xr (some o)), (1, xi v1)] [xi p6]) (fun k => or_callV C 0 hl (m_X7_today _ h o p6 z7) gX7_count_X7_today rfl rfl rfl (by decide +kernel) ⟨Nat.le_of_ble_eq_true rfl, Nat.le_of_ble_eq_true rfl⟩ q4 rfl (by decide) (Nat.le_of_ble_eq_true rfl) dX7_count_76 ⟨Nat.le_of_ble_eq_true rfl, Nat.le_of_ble_eq_true rfl⟩ rfl rfl k) ?_
    exact or_iretR C dX7_count_79
  refine or_case C (v := (4 : Int32)) 4 80 dX7_count_1 (by decide) (by decide) rfl (by decide) ?_ (fun n4 => ?_)
  · refine or_aload_n C 0 rfl dX7_count_80 ?_
    refine or_getI C 7 10 rfl (by decide) rfl (by decide) u_X7_count_7 (by decide) k_X7_count_f64 (by decide +kernel) dX7_count_81 (fun x8 => ?_)
    exact or_iretR C dX7_count_84
  refine or_case C (v := (5 : Int32)) 5 85 dX7_count_1 (by decide) (by decide) rfl (by decide) ?_ (fun n5 => ?_)
  · refine or_aload_n C 0 rfl dX7_count_85 ?_
    refine or_getI C 7 13 rfl (by decide) rfl (by decide) u_X7_count_7 (by decide) k_X7_count_f73 (by decide +kernel) dX7_count_86 (fun x9 => ?_)
    exact or_iretR C dX7_count_89
  refine or_case C (v := (6 : Int32)) 6 90 dX7_count_1 (by decide) (by decide) rfl (by decide) ?_ (fun n6 => ?_)
  · refine or_aload_n C 0 rfl dX7_count_90 ?_
    refine or_getR C 7 5 rfl (by decide) rfl (by decide) u_X7_count_7 (by decide) k_X7_count_f43 (by decide +kernel) dX7_count_91 (fun x10 => ?_)
    refine or_getI C 5 0 rfl (by decide) rfl (by decide) u_X7_count_5 (by decide) k_X7_count_f204 (by decide +kernel) dX7_count_94 (fun x11 => ?_)
    exact or_iretR C dX7_count_97
  refine or_case C (v := (7 : Int32)) 7 98 dX7_count_1 (by decide) (by decide) rfl (by decide) ?_ (fun n7 => ?_)
  · refine or_aload_n C 0 rfl dX7_count_98 ?_
    refine or_getR C 7 5 rfl (by decide) rfl (by decide) u_X7_count_7 (by decide) k_X7_count_f43 (by decide +kernel) dX7_count_99 (fun x12 => ?_)
    refine or_getI C 5 1 rfl (by decide) rfl (by decide) u_X7_count_5 (by decide) k_X7_count_f240 (by decide +kernel) dX7_count_102 (fun x13 => ?_)
    exact or_iretR C dX7_count_105
  refine or_case C (v := (8 : Int32)) 8 106 dX7_count_1 (by decide) (by decide) rfl (by decide) ?_ (fun n8 => ?_)
  · refine or_aload_n C 0 rfl dX7_count_106 ?_
    refine or_getR C 7 5 rfl (by decide) rfl (by decide) u_X7_count_7 (by decide) k_X7_count_f43 (by decide +kernel) dX7_count_107 (fun x14 => ?_)
    refine or_getI C 5 2 rfl (by decide) rfl (by decide) u_X7_count_5 (by decide) k_X7_count_f249 (by decide +kernel) dX7_count_110 (fun x15 => ?_)
    exact or_iretR C dX7_count_113
  refine or_case C (v := (9 : Int32)) 9 114 dX7_count_1 (by decide) (by decide) rfl (by decide) ?_ (fun n9 => ?_)
  · refine or_aload_n C 0 rfl dX7_count_114 ?_
    refine or_getR C 7 5 rfl (by decide) rfl (by decide) u_X7_count_7 (by decide) k_X7_count_f43 (by decide +kernel) dX7_count_115 (fun x16 => ?_)
    refine or_getI C 5 3 rfl (by decide) rfl (by decide) u_X7_count_5 (by decide) k_X7_count_f252 (by decide +kernel) dX7_count_118 (fun x17 => ?_)
    exact or_iretR C dX7_count_121
  refine or_case C (v := (10 : Int32)) 10 122 dX7_count_1 (by decide) (by decide) rfl (by decide) ?_ (fun n10 => ?_)
  · refine or_aload_n C 0 rfl dX7_count_122 ?_
    refine or_getR C 7 5 rfl (by decide) rfl (by decide) u_X7_count_7 (by decide) k_X7_count_f43 (by decide +kernel) dX7_count_123 (fun x18 => ?_)
    refine or_getI C 5 4 rfl (by decide) rfl (by decide) u_X7_count_5 (by decide) k_X7_count_f341 (by decide +kernel) dX7_count_126 (fun x19 => ?_)
    exact or_iretR C dX7_count_129
  refine or_dflt C 130 dX7_count_1 (by omega) (by decide) ?_
  refine or_iconst C (v := (-1 : Int32)) dX7_count_130 (by decide) ?_
  exact or_iretR C dX7_count_131
theorem m_X7_count (l : Launch) (h : oh_H) (o : Nat) (v1 : Int32) (p : Int32) (hf : f_X7_count h o v1 = some p) : oh_M l yX7_count wsX7_count rmX7_count 0 0 [xr (some o), xi v1] h (some (xi p)) h :=
  oh_met (cc := cX7_count) (maxL := 2) (ret := (some .int)) (by decide) rfl (Nat.le_of_ble_eq_true rfl) (fun G C hl hN E => w_X7_count_0 C hl h o v1 p hf E)
/-! X8_init -/
theorem k_X8_init_ol1 : Cond.methodLink RX8 1 objectInit ∈ wsX8_init := List.mem_of_getElem? (i := 1) (by decide +kernel)
theorem k_X8_init_oi : Cond.instanceMethod objectInit ∈ wsX8_init := List.mem_of_getElem? (i := 2) (by decide +kernel)
theorem k_X8_init_oc : Cond.code objectInit ⟨#[0xb1]⟩ 1 none ∈ wsX8_init := List.mem_of_getElem? (i := 3) (by decide +kernel)
theorem k_X8_init_f7 : Cond.fieldLink RX8 7 "OilPressModel" "fresh" "I" ∈ wsX8_init := List.mem_of_getElem? (i := 4) (by decide +kernel)
theorem u_X8_init_8 : ∀ w ∈ u_ws RX8 TX8 54, w ∈ wsX8_init := fun w h => List.mem_cons_of_mem _ (List.mem_append_right _ (h))
theorem k_X8_init_f13 : Cond.fieldLink RX8 13 "OilPressModel" "part" "I" ∈ wsX8_init := List.mem_of_getElem? (i := 5) (by decide +kernel)
theorem k_X8_init_f16 : Cond.fieldLink RX8 16 "OilPressModel" "places" "I" ∈ wsX8_init := List.mem_of_getElem? (i := 6) (by decide +kernel)
theorem k_X8_init_ac20 : Cond.arrayClass .int ∈ wsX8_init := List.mem_of_getElem? (i := 7) (by decide +kernel)
theorem k_X8_init_f19 : Cond.fieldLink RX8 19 "OilPressModel" "farmer" "[I" ∈ wsX8_init := List.mem_of_getElem? (i := 8) (by decide +kernel)
theorem k_X8_init_f23 : Cond.fieldLink RX8 23 "OilPressModel" "like" "[I" ∈ wsX8_init := List.mem_of_getElem? (i := 9) (by decide +kernel)
theorem k_X8_init_f26 : Cond.fieldLink RX8 26 "OilPressModel" "kind" "[I" ∈ wsX8_init := List.mem_of_getElem? (i := 10) (by decide +kernel)
theorem k_X8_init_f29 : Cond.fieldLink RX8 29 "OilPressModel" "grove" "[I" ∈ wsX8_init := List.mem_of_getElem? (i := 11) (by decide +kernel)
theorem k_X8_init_f32 : Cond.fieldLink RX8 32 "OilPressModel" "came" "[I" ∈ wsX8_init := List.mem_of_getElem? (i := 12) (by decide +kernel)
theorem k_X8_init_f35 : Cond.fieldLink RX8 35 "OilPressModel" "state" "[I" ∈ wsX8_init := List.mem_of_getElem? (i := 13) (by decide +kernel)
theorem k_X8_init_f38 : Cond.fieldLink RX8 38 "OilPressModel" "tenths" "[I" ∈ wsX8_init := List.mem_of_getElem? (i := 14) (by decide +kernel)
theorem k_X8_init_f41 : Cond.fieldLink RX8 41 "OilPressModel" "thousandths" "[I" ∈ wsX8_init := List.mem_of_getElem? (i := 15) (by decide +kernel)
theorem k_X8_init_f44 : Cond.fieldLink RX8 44 "OilPressModel" "sour" "[I" ∈ wsX8_init := List.mem_of_getElem? (i := 16) (by decide +kernel)
theorem k_X8_init_f47 : Cond.fieldLink RX8 47 "OilPressModel" "shares" "[I" ∈ wsX8_init := List.mem_of_getElem? (i := 17) (by decide +kernel)
theorem k_X8_init_f50 : Cond.fieldLink RX8 50 "OilPressModel" "left" "[I" ∈ wsX8_init := List.mem_of_getElem? (i := 18) (by decide +kernel)
theorem k_X8_init_f53 : Cond.fieldLink RX8 53 "OilPressModel" "where" "[I" ∈ wsX8_init := List.mem_of_getElem? (i := 19) (by decide +kernel)
theorem k_X8_init_ac22 : Cond.arrayClass .boolean ∈ wsX8_init := List.mem_of_getElem? (i := 20) (by decide +kernel)
theorem k_X8_init_f56 : Cond.fieldLink RX8 56 "OilPressModel" "wishes" "[Z" ∈ wsX8_init := List.mem_of_getElem? (i := 21) (by decide +kernel)
theorem k_X8_init_f60 : Cond.fieldLink RX8 60 "OilPressModel" "least" "[I" ∈ wsX8_init := List.mem_of_getElem? (i := 22) (by decide +kernel)
theorem k_X8_init_f63 : Cond.fieldLink RX8 63 "OilPressModel" "rate" "[I" ∈ wsX8_init := List.mem_of_getElem? (i := 23) (by decide +kernel)
theorem k_X8_init_f66 : Cond.fieldLink RX8 66 "OilPressModel" "busy" "[I" ∈ wsX8_init := List.mem_of_getElem? (i := 24) (by decide +kernel)
theorem k_X8_init_f69 : Cond.fieldLink RX8 69 "OilPressModel" "inBin" "[I" ∈ wsX8_init := List.mem_of_getElem? (i := 25) (by decide +kernel)
theorem k_X8_init_f72 : Cond.fieldLink RX8 72 "OilPressModel" "bin" "[I" ∈ wsX8_init := List.mem_of_getElem? (i := 26) (by decide +kernel)
theorem k_X8_init_f75 : Cond.fieldLink RX8 75 "OilPressModel" "pressing" "[Z" ∈ wsX8_init := List.mem_of_getElem? (i := 27) (by decide +kernel)
theorem k_X8_init_f78 : Cond.fieldLink RX8 78 "OilPressModel" "washed" "[Z" ∈ wsX8_init := List.mem_of_getElem? (i := 28) (by decide +kernel)
theorem k_X8_init_f81 : Cond.fieldLink RX8 81 "OilPressModel" "likeOf" "[I" ∈ wsX8_init := List.mem_of_getElem? (i := 29) (by decide +kernel)
theorem k_X8_init_f84 : Cond.fieldLink RX8 84 "OilPressModel" "given" "[I" ∈ wsX8_init := List.mem_of_getElem? (i := 30) (by decide +kernel)
theorem k_X8_init_f87 : Cond.fieldLink RX8 87 "OilPressModel" "kept" "[I" ∈ wsX8_init := List.mem_of_getElem? (i := 31) (by decide +kernel)
theorem k_X8_init_f90 : Cond.fieldLink RX8 90 "OilPressModel" "sort" "[I" ∈ wsX8_init := List.mem_of_getElem? (i := 32) (by decide +kernel)
theorem k_X8_init_f93 : Cond.fieldLink RX8 93 "OilPressModel" "isClean" "[Z" ∈ wsX8_init := List.mem_of_getElem? (i := 33) (by decide +kernel)
theorem k_X8_init_f96 : Cond.fieldLink RX8 96 "OilPressModel" "room" "[I" ∈ wsX8_init := List.mem_of_getElem? (i := 34) (by decide +kernel)
theorem k_X8_init_f99 : Cond.fieldLink RX8 99 "OilPressModel" "oil" "[I" ∈ wsX8_init := List.mem_of_getElem? (i := 35) (by decide +kernel)
theorem k_X8_init_f102 : Cond.fieldLink RX8 102 "OilPressModel" "own" "[I" ∈ wsX8_init := List.mem_of_getElem? (i := 36) (by decide +kernel)
theorem k_X8_init_f105 : Cond.fieldLink RX8 105 "OilPressModel" "tapped" "[Z" ∈ wsX8_init := List.mem_of_getElem? (i := 37) (by decide +kernel)
theorem k_X8_init_ac21 : Cond.arrayClass .long ∈ wsX8_init := List.mem_of_getElem? (i := 38) (by decide +kernel)
theorem k_X8_init_f108 : Cond.fieldLink RX8 108 "OilPressModel" "above" "[J" ∈ wsX8_init := List.mem_of_getElem? (i := 39) (by decide +kernel)
theorem k_X8_init_f112 : Cond.fieldLink RX8 112 "OilPressModel" "below" "[J" ∈ wsX8_init := List.mem_of_getElem? (i := 40) (by decide +kernel)
theorem k_X8_init_f115 : Cond.fieldLink RX8 115 "OilPressModel" "owed" "[I" ∈ wsX8_init := List.mem_of_getElem? (i := 41) (by decide +kernel)
theorem k_X8_init_f118 : Cond.fieldLink RX8 118 "OilPressModel" "plan" "[I" ∈ wsX8_init := List.mem_of_getElem? (i := 42) (by decide +kernel)
theorem k_X8_init_f121 : Cond.fieldLink RX8 121 "OilPressModel" "toPlan" "[I" ∈ wsX8_init := List.mem_of_getElem? (i := 43) (by decide +kernel)
theorem k_X8_init_f124 : Cond.fieldLink RX8 124 "OilPressModel" "order" "[I" ∈ wsX8_init := List.mem_of_getElem? (i := 44) (by decide +kernel)
abbrev rmX8_init : Room := { frames := 1, cells := 35, slots := 2623, locals := 20 }
def f_X8_init (h : oh_H) (o : Nat) : Option (oh_H) :=
  (oh_pI h (some o) 513 (3 : Int32)).bind fun h1 => (oh_pI h1 (some o) 514 (10 : Int32)).bind fun h2 => (oh_pI h2 (some o) 515 (-1 : Int32)).bind fun h3 => oh_newa h3 20 60 fun a5 h4 => (oh_pR h4 (some o) 517 (some a5)).bind fun h6 => oh_newa h6 20 60 fun a8 h7 => (oh_pR h7 (some o) 518 (some a8)).bind fun h9 => oh_newa h9 20 200 fun a11 h10 => (oh_pR h10 (some o) 520 (some a11)).bind fun h12 => oh_newa h12 20 200 fun a14 h13 => (oh_pR h13 (some o) 521 (some a14)).bind fun h15 => oh_newa h15 20 200 fun a17 h16 => (oh_pR h16 (some o) 522 (some a17)).bind fun h18 => oh_newa h18 20 200 fun a20 h19 => (oh_pR h19 (some o) 523 (some a20)).bind fun h21 => oh_newa h21 20 200 fun a23 h22 => (oh_pR h22 (some o) 524 (some a23)).bind fun h24 => oh_newa h24 20 200 fun a26 h25 => (oh_pR h25 (some o) 525 (some a26)).bind fun h27 => oh_newa h27 20 200 fun a29 h28 => (oh_pR h28 (some o) 526 (some a29)).bind fun h30 => oh_newa h30 20 200 fun a32 h31 => (oh_pR h31 (some o) 527 (some a32)).bind fun h33 => oh_newa h33 20 200 fun a35 h34 => (oh_pR h34 (some o) 528 (some a35)).bind fun h36 => oh_newa h36 20 200 fun a38 h37 => (oh_pR h37 (some o) 529 (some a38)).bind fun h39 => oh_newa h39 22 200 fun a41 h40 => (oh_pR h40 (some o) 530 (some a41)).bind fun h42 => oh_newa h42 20 3 fun a44 h43 => (oh_tI h43 (some a44) 20 (0 : Int32) (1000 : Int32)).bind fun h45 => (oh_tI h45 (some a44) 20 (1 : Int32) (1000 : Int32)).bind fun h46 => (oh_tI h46 (some a44) 20 (2 : Int32) (1000 : Int32)).bind fun h47 => (oh_pR h47 (some o) 531 (some a44)).bind fun h48 => oh_newa h48 20 3 fun a50 h49 => (oh_tI h49 (some a50) 20 (0 : Int32) (500 : Int32)).bind fun h51 => (oh_tI h51 (some a50) 20 (1 : Int32) (500 : Int32)).bind fun h52 => (oh_tI h52 (some a50) 20 (2 : Int32) (500 : Int32)).bind fun h53 => (oh_pR h53 (some o) 532 (some a50)).bind fun h54 => oh_newa h54 20 3 fun a56 h55 => (oh_pR h55 (some o) 533 (some a56)).bind fun h57 => oh_newa h57 20 3 fun a59 h58 => (oh_pR h58 (some o) 534 (some a59)).bind fun h60 => oh_newa h60 20 36 fun a62 h61 => (oh_pR h61 (some o) 535 (some a62)).bind fun h63 => oh_newa h63 22 3 fun a65 h64 => (oh_pR h64 (some o) 536 (some a65)).bind fun h66 => oh_newa h66 22 3 fun a68 h67 => (oh_pR h67 (some o) 537 (some a68)).bind fun h69 => oh_newa h69 20 3 fun a71 h70 => (oh_tI h70 (some a71) 20 (0 : Int32) (-1 : Int32)).bind fun h72 => (oh_tI h72 (some a71) 20 (1 : Int32) (-1 : Int32)).bind fun h73 => (oh_tI h73 (some a71) 20 (2 : Int32) (-1 : Int32)).bind fun h74 => (oh_pR h74 (some o) 538 (some a71)).bind fun h75 => oh_newa h75 20 3 fun a77 h76 => (oh_tI h76 (some a77) 20 (0 : Int32) (-1 : Int32)).bind fun h78 => (oh_tI h78 (some a77) 20 (1 : Int32) (-1 : Int32)).bind fun h79 => (oh_tI h79 (some a77) 20 (2 : Int32) (-1 : Int32)).bind fun h80 => (oh_pR h80 (some o) 539 (some a77)).bind fun h81 => oh_newa h81 20 3 fun a83 h82 => (oh_tI h82 (some a83) 20 (0 : Int32) (-1 : Int32)).bind fun h84 => (oh_tI h84 (some a83) 20 (1 : Int32) (-1 : Int32)).bind fun h85 => (oh_tI h85 (some a83) 20 (2 : Int32) (-1 : Int32)).bind fun h86 => (oh_pR h86 (some o) 540 (some a83)).bind fun h87 => oh_newa h87 20 12 fun a89 h88 => (oh_pR h88 (some o) 542 (some a89)).bind fun h90 => oh_newa h90 22 12 fun a92 h91 => (oh_pR h91 (some o) 543 (some a92)).bind fun h93 => oh_newa h93 20 12 fun a95 h94 => (oh_pR h94 (some o) 544 (some a95)).bind fun h96 => oh_newa h96 20 12 fun a98 h97 => (oh_pR h97 (some o) 545 (some a98)).bind fun h99 => oh_newa h99 20 12 fun a101 h100 => (oh_pR h100 (some o) 546 (some a101)).bind fun h102 => oh_newa h102 22 12 fun a104 h103 => (oh_pR h103 (some o) 547 (some a104)).bind fun h105 => oh_newa h105 21 12 fun a107 h106 => (oh_pR h106 (some o) 548 (some a107)).bind fun h108 => oh_newa h108 21 12 fun a110 h109 => (oh_pR h109 (some o) 549 (some a110)).bind fun h111 => oh_newa h111 20 120 fun a113 h112 => (oh_pR h112 (some o) 550 (some a113)).bind fun h114 => oh_newa h114 20 8 fun a116 h115 => (oh_pR h115 (some o) 560 (some a116)).bind fun h117 => oh_newa h117 20 8 fun a119 h118 => (oh_pR h118 (some o) 562 (some a119)).bind fun h120 => oh_newa h120 20 8 fun a122 h121 => (oh_pR h121 (some o) 563 (some a122)).bind fun h123 => some h123
set_option maxHeartbeats 4000000 in
set_option maxRecDepth 100000 in
theorem w_X8_init_0 {G : oh_G} {l : Launch} (C : oh_C G cX8_init wsX8_init RX8 rmX8_init 1) (hl : G.1.2.1 = l) (hN : G.2.1.2.2.2.1.name = "<init>") (h0 : oh_H) (h : oh_H) (o : Nat) : oh_J (oh_TV h0 35 2623 none G) (f_X8_init h o) (oh_V G 0 0 h 0 [(0, xr (some o))] []) := by
  unfold f_X8_init
  refine or_aload_n C 0 rfl dX8_init_0 ?_
  refine or_objinit C k_X8_init_ol1 k_X8_init_oi k_X8_init_oc (Nat.le_of_ble_eq_true rfl) (Nat.le_of_ble_eq_true rfl) dX8_init_1 ?_
  refine or_aload_n C 0 rfl dX8_init_4 ?_
  refine or_iconst C (v := (3 : Int32)) dX8_init_5 (by decide) ?_
  refine or_putI C 8 1 rfl (by decide) rfl (by decide) u_X8_init_8 tyX8 tyX8_ok nmX8 (by decide) k_X8_init_f7 (Or.inl rfl) (by decide +kernel) rfl dX8_init_6 (fun h1 => ?_)
  refine or_aload_n C 0 rfl dX8_init_9 ?_
  refine or_bipush C (v := (10 : Int32)) dX8_init_10 (by decide) ?_
  refine or_putI C 8 2 rfl (by decide) rfl (by decide) u_X8_init_8 tyX8 tyX8_ok nmX8 (by decide) k_X8_init_f13 (Or.inl rfl) (by decide +kernel) rfl dX8_init_12 (fun h2 => ?_)
  refine or_aload_n C 0 rfl dX8_init_15 ?_
  refine or_iconst C (v := (-1 : Int32)) dX8_init_16 (by decide) ?_
  refine or_putI C 8 3 rfl (by decide) rfl (by decide) u_X8_init_8 tyX8 tyX8_ok nmX8 (by decide) k_X8_init_f16 (Or.inl rfl) (by decide +kernel) rfl dX8_init_17 (fun h3 => ?_)
  refine or_aload_n C 0 rfl dX8_init_20 ?_
  refine or_bipush C (v := (60 : Int32)) dX8_init_21 (by decide) ?_
  refine or_newa (atype := .int) (ty := .int) (n := (60 : Int32)) (N := 60) (cells := 0) (slots := 0) C 0 rfl (fun _ => rfl) (by decide) k_X8_init_ac20 (fun _ _ z => z) rfl rfl (by decide) rfl (Nat.le_of_ble_eq_true rfl) ⟨Nat.le_of_ble_eq_true rfl, Nat.le_of_ble_eq_true rfl⟩ dX8_init_23 (fun a5 h4 => ?_)
  refine or_putR C 8 5 rfl (by decide) rfl (by decide) u_X8_init_8 tyX8 tyX8_ok nmX8 (by decide) k_X8_init_f19 (Or.inr ⟨rfl, hN, rfl⟩) (by decide +kernel) (fun v => by cases v <;> exact ⟨rfl, rfl⟩) dX8_init_25 (fun h6 => ?_)
  refine or_aload_n C 0 rfl dX8_init_28 ?_
  refine or_bipush C (v := (60 : Int32)) dX8_init_29 (by decide) ?_
  refine or_newa (atype := .int) (ty := .int) (n := (60 : Int32)) (N := 60) (cells := 1) (slots := 60) C 0 rfl (fun _ => rfl) (by decide) k_X8_init_ac20 (fun _ _ z => z) rfl rfl (by decide) rfl (Nat.le_of_ble_eq_true rfl) ⟨Nat.le_of_ble_eq_true rfl, Nat.le_of_ble_eq_true rfl⟩ dX8_init_31 (fun a8 h7 => ?_)
  refine or_putR C 8 6 rfl (by decide) rfl (by decide) u_X8_init_8 tyX8 tyX8_ok nmX8 (by decide) k_X8_init_f23 (Or.inr ⟨rfl, hN, rfl⟩) (by decide +kernel) (fun v => by cases v <;> exact ⟨rfl, rfl⟩) dX8_init_33 (fun h9 => ?_)
  refine or_aload_n C 0 rfl dX8_init_36 ?_
  refine or_sipush C (v := (200 : Int32)) dX8_init_37 (by decide) ?_
  refine or_newa (atype := .int) (ty := .int) (n := (200 : Int32)) (N := 200) (cells := 2) (slots := 120) C 0 rfl (fun _ => rfl) (by decide) k_X8_init_ac20 (fun _ _ z => z) rfl rfl (by decide) rfl (Nat.le_of_ble_eq_true rfl) ⟨Nat.le_of_ble_eq_true rfl, Nat.le_of_ble_eq_true rfl⟩ dX8_init_40 (fun a11 h10 => ?_)
  refine or_putR C 8 8 rfl (by decide) rfl (by decide) u_X8_init_8 tyX8 tyX8_ok nmX8 (by decide) k_X8_init_f26 (Or.inr ⟨rfl, hN, rfl⟩) (by decide +kernel) (fun v => by cases v <;> exact ⟨rfl, rfl⟩) dX8_init_42 (fun h12 => ?_)
  refine or_aload_n C 0 rfl dX8_init_45 ?_
  refine or_sipush C (v := (200 : Int32)) dX8_init_46 (by decide) ?_
  refine or_newa (atype := .int) (ty := .int) (n := (200 : Int32)) (N := 200) (cells := 3) (slots := 320) C 0 rfl (fun _ => rfl) (by decide) k_X8_init_ac20 (fun _ _ z => z) rfl rfl (by decide) rfl (Nat.le_of_ble_eq_true rfl) ⟨Nat.le_of_ble_eq_true rfl, Nat.le_of_ble_eq_true rfl⟩ dX8_init_49 (fun a14 h13 => ?_)
  refine or_putR C 8 9 rfl (by decide) rfl (by decide) u_X8_init_8 tyX8 tyX8_ok nmX8 (by decide) k_X8_init_f29 (Or.inr ⟨rfl, hN, rfl⟩) (by decide +kernel) (fun v => by cases v <;> exact ⟨rfl, rfl⟩) dX8_init_51 (fun h15 => ?_)
  refine or_aload_n C 0 rfl dX8_init_54 ?_
  refine or_sipush C (v := (200 : Int32)) dX8_init_55 (by decide) ?_
  refine or_newa (atype := .int) (ty := .int) (n := (200 : Int32)) (N := 200) (cells := 4) (slots := 520) C 0 rfl (fun _ => rfl) (by decide) k_X8_init_ac20 (fun _ _ z => z) rfl rfl (by decide) rfl (Nat.le_of_ble_eq_true rfl) ⟨Nat.le_of_ble_eq_true rfl, Nat.le_of_ble_eq_true rfl⟩ dX8_init_58 (fun a17 h16 => ?_)
  refine or_putR C 8 10 rfl (by decide) rfl (by decide) u_X8_init_8 tyX8 tyX8_ok nmX8 (by decide) k_X8_init_f32 (Or.inr ⟨rfl, hN, rfl⟩) (by decide +kernel) (fun v => by cases v <;> exact ⟨rfl, rfl⟩) dX8_init_60 (fun h18 => ?_)
  refine or_aload_n C 0 rfl dX8_init_63 ?_
  refine or_sipush C (v := (200 : Int32)) dX8_init_64 (by decide) ?_
  refine or_newa (atype := .int) (ty := .int) (n := (200 : Int32)) (N := 200) (cells := 5) (slots := 720) C 0 rfl (fun _ => rfl) (by decide) k_X8_init_ac20 (fun _ _ z => z) rfl rfl (by decide) rfl (Nat.le_of_ble_eq_true rfl) ⟨Nat.le_of_ble_eq_true rfl, Nat.le_of_ble_eq_true rfl⟩ dX8_init_67 (fun a20 h19 => ?_)
  refine or_putR C 8 11 rfl (by decide) rfl (by decide) u_X8_init_8 tyX8 tyX8_ok nmX8 (by decide) k_X8_init_f35 (Or.inr ⟨rfl, hN, rfl⟩) (by decide +kernel) (fun v => by cases v <;> exact ⟨rfl, rfl⟩) dX8_init_69 (fun h21 => ?_)
  refine or_aload_n C 0 rfl dX8_init_72 ?_
  refine or_sipush C (v := (200 : Int32)) dX8_init_73 (by decide) ?_
  refine or_newa (atype := .int) (ty := .int) (n := (200 : Int32)) (N := 200) (cells := 6) (slots := 920) C 0 rfl (fun _ => rfl) (by decide) k_X8_init_ac20 (fun _ _ z => z) rfl rfl (by decide) rfl (Nat.le_of_ble_eq_true rfl) ⟨Nat.le_of_ble_eq_true rfl, Nat.le_of_ble_eq_true rfl⟩ dX8_init_76 (fun a23 h22 => ?_)
  refine or_putR C 8 12 rfl (by decide) rfl (by decide) u_X8_init_8 tyX8 tyX8_ok nmX8 (by decide) k_X8_init_f38 (Or.inr ⟨rfl, hN, rfl⟩) (by decide +kernel) (fun v => by cases v <;> exact ⟨rfl, rfl⟩) dX8_init_78 (fun h24 => ?_)
  refine or_aload_n C 0 rfl dX8_init_81 ?_
  refine or_sipush C (v := (200 : Int32)) dX8_init_82 (by decide) ?_
  refine or_newa (atype := .int) (ty := .int) (n := (200 : Int32)) (N := 200) (cells := 7) (slots := 1120) C 0 rfl (fun _ => rfl) (by decide) k_X8_init_ac20 (fun _ _ z => z) rfl rfl (by decide) rfl (Nat.le_of_ble_eq_true rfl) ⟨Nat.le_of_ble_eq_true rfl, Nat.le_of_ble_eq_true rfl⟩ dX8_init_85 (fun a26 h25 => ?_)
  refine or_putR C 8 13 rfl (by decide) rfl (by decide) u_X8_init_8 tyX8 tyX8_ok nmX8 (by decide) k_X8_init_f41 (Or.inr ⟨rfl, hN, rfl⟩) (by decide +kernel) (fun v => by cases v <;> exact ⟨rfl, rfl⟩) dX8_init_87 (fun h27 => ?_)
  refine or_aload_n C 0 rfl dX8_init_90 ?_
  refine or_sipush C (v := (200 : Int32)) dX8_init_91 (by decide) ?_
  refine or_newa (atype := .int) (ty := .int) (n := (200 : Int32)) (N := 200) (cells := 8) (slots := 1320) C 0 rfl (fun _ => rfl) (by decide) k_X8_init_ac20 (fun _ _ z => z) rfl rfl (by decide) rfl (Nat.le_of_ble_eq_true rfl) ⟨Nat.le_of_ble_eq_true rfl, Nat.le_of_ble_eq_true rfl⟩ dX8_init_94 (fun a29 h28 => ?_)
  refine or_putR C 8 14 rfl (by decide) rfl (by decide) u_X8_init_8 tyX8 tyX8_ok nmX8 (by decide) k_X8_init_f44 (Or.inr ⟨rfl, hN, rfl⟩) (by decide +kernel) (fun v => by cases v <;> exact ⟨rfl, rfl⟩) dX8_init_96 (fun h30 => ?_)
  refine or_aload_n C 0 rfl dX8_init_99 ?_
  refine or_sipush C (v := (200 : Int32)) dX8_init_100 (by decide) ?_
  refine or_newa (atype := .int) (ty := .int) (n := (200 : Int32)) (N := 200) (cells := 9) (slots := 1520) C 0 rfl (fun _ => rfl) (by decide) k_X8_init_ac20 (fun _ _ z => z) rfl rfl (by decide) rfl (Nat.le_of_ble_eq_true rfl) ⟨Nat.le_of_ble_eq_true rfl, Nat.le_of_ble_eq_true rfl⟩ dX8_init_103 (fun a32 h31 => ?_)
  refine or_putR C 8 15 rfl (by decide) rfl (by decide) u_X8_init_8 tyX8 tyX8_ok nmX8 (by decide) k_X8_init_f47 (Or.inr ⟨rfl, hN, rfl⟩) (by decide +kernel) (fun v => by cases v <;> exact ⟨rfl, rfl⟩) dX8_init_105 (fun h33 => ?_)
  refine or_aload_n C 0 rfl dX8_init_108 ?_
  refine or_sipush C (v := (200 : Int32)) dX8_init_109 (by decide) ?_
  refine or_newa (atype := .int) (ty := .int) (n := (200 : Int32)) (N := 200) (cells := 10) (slots := 1720) C 0 rfl (fun _ => rfl) (by decide) k_X8_init_ac20 (fun _ _ z => z) rfl rfl (by decide) rfl (Nat.le_of_ble_eq_true rfl) ⟨Nat.le_of_ble_eq_true rfl, Nat.le_of_ble_eq_true rfl⟩ dX8_init_112 (fun a35 h34 => ?_)
  refine or_putR C 8 16 rfl (by decide) rfl (by decide) u_X8_init_8 tyX8 tyX8_ok nmX8 (by decide) k_X8_init_f50 (Or.inr ⟨rfl, hN, rfl⟩) (by decide +kernel) (fun v => by cases v <;> exact ⟨rfl, rfl⟩) dX8_init_114 (fun h36 => ?_)
  refine or_aload_n C 0 rfl dX8_init_117 ?_
  refine or_sipush C (v := (200 : Int32)) dX8_init_118 (by decide) ?_
  refine or_newa (atype := .int) (ty := .int) (n := (200 : Int32)) (N := 200) (cells := 11) (slots := 1920) C 0 rfl (fun _ => rfl) (by decide) k_X8_init_ac20 (fun _ _ z => z) rfl rfl (by decide) rfl (Nat.le_of_ble_eq_true rfl) ⟨Nat.le_of_ble_eq_true rfl, Nat.le_of_ble_eq_true rfl⟩ dX8_init_121 (fun a38 h37 => ?_)
  refine or_putR C 8 17 rfl (by decide) rfl (by decide) u_X8_init_8 tyX8 tyX8_ok nmX8 (by decide) k_X8_init_f53 (Or.inr ⟨rfl, hN, rfl⟩) (by decide +kernel) (fun v => by cases v <;> exact ⟨rfl, rfl⟩) dX8_init_123 (fun h39 => ?_)
  refine or_aload_n C 0 rfl dX8_init_126 ?_
  refine or_sipush C (v := (200 : Int32)) dX8_init_127 (by decide) ?_
  refine or_newa (atype := .boolean) (ty := .boolean) (n := (200 : Int32)) (N := 200) (cells := 12) (slots := 2120) C 2 rfl (fun _ => rfl) (by decide) k_X8_init_ac22 (fun _ _ z => z) rfl rfl (by decide) rfl (Nat.le_of_ble_eq_true rfl) ⟨Nat.le_of_ble_eq_true rfl, Nat.le_of_ble_eq_true rfl⟩ dX8_init_130 (fun a41 h40 => ?_)
  refine or_putR C 8 18 rfl (by decide) rfl (by decide) u_X8_init_8 tyX8 tyX8_ok nmX8 (by decide) k_X8_init_f56 (Or.inr ⟨rfl, hN, rfl⟩) (by decide +kernel) (fun v => by cases v <;> exact ⟨rfl, rfl⟩) dX8_init_132 (fun h42 => ?_)
  refine or_aload_n C 0 rfl dX8_init_135 ?_
  refine or_iconst C (v := (3 : Int32)) dX8_init_136 (by decide) ?_
  refine or_newa (atype := .int) (ty := .int) (n := (3 : Int32)) (N := 3) (cells := 13) (slots := 2320) C 0 rfl (fun _ => rfl) (by decide) k_X8_init_ac20 (fun _ _ z => z) rfl rfl (by decide) rfl (Nat.le_of_ble_eq_true rfl) ⟨Nat.le_of_ble_eq_true rfl, Nat.le_of_ble_eq_true rfl⟩ dX8_init_137 (fun a44 h43 => ?_)
  refine or_dup C rfl dX8_init_139 ?_
  refine or_iconst C (v := (0 : Int32)) dX8_init_140 (by decide) ?_
  refine or_sipush C (v := (1000 : Int32)) dX8_init_141 (by decide) ?_
  refine or_iast C dX8_init_144 (fun h45 => ?_)
  refine or_dup C rfl dX8_init_145 ?_
  refine or_iconst C (v := (1 : Int32)) dX8_init_146 (by decide) ?_
  refine or_sipush C (v := (1000 : Int32)) dX8_init_147 (by decide) ?_
  refine or_iast C dX8_init_150 (fun h46 => ?_)
  refine or_dup C rfl dX8_init_151 ?_
  refine or_iconst C (v := (2 : Int32)) dX8_init_152 (by decide) ?_
  refine or_sipush C (v := (1000 : Int32)) dX8_init_153 (by decide) ?_
  refine or_iast C dX8_init_156 (fun h47 => ?_)
  refine or_putR C 8 19 rfl (by decide) rfl (by decide) u_X8_init_8 tyX8 tyX8_ok nmX8 (by decide) k_X8_init_f60 (Or.inr ⟨rfl, hN, rfl⟩) (by decide +kernel) (fun v => by cases v <;> exact ⟨rfl, rfl⟩) dX8_init_157 (fun h48 => ?_)
  refine or_aload_n C 0 rfl dX8_init_160 ?_
  refine or_iconst C (v := (3 : Int32)) dX8_init_161 (by decide) ?_
  refine or_newa (atype := .int) (ty := .int) (n := (3 : Int32)) (N := 3) (cells := 14) (slots := 2323) C 0 rfl (fun _ => rfl) (by decide) k_X8_init_ac20 (fun _ _ z => z) rfl rfl (by decide) rfl (Nat.le_of_ble_eq_true rfl) ⟨Nat.le_of_ble_eq_true rfl, Nat.le_of_ble_eq_true rfl⟩ dX8_init_162 (fun a50 h49 => ?_)
  refine or_dup C rfl dX8_init_164 ?_
  refine or_iconst C (v := (0 : Int32)) dX8_init_165 (by decide) ?_
  refine or_sipush C (v := (500 : Int32)) dX8_init_166 (by decide) ?_
  refine or_iast C dX8_init_169 (fun h51 => ?_)
  refine or_dup C rfl dX8_init_170 ?_
  refine or_iconst C (v := (1 : Int32)) dX8_init_171 (by decide) ?_
  refine or_sipush C (v := (500 : Int32)) dX8_init_172 (by decide) ?_
  refine or_iast C dX8_init_175 (fun h52 => ?_)
  refine or_dup C rfl dX8_init_176 ?_
  refine or_iconst C (v := (2 : Int32)) dX8_init_177 (by decide) ?_
  refine or_sipush C (v := (500 : Int32)) dX8_init_178 (by decide) ?_
  refine or_iast C dX8_init_181 (fun h53 => ?_)
  refine or_putR C 8 20 rfl (by decide) rfl (by decide) u_X8_init_8 tyX8 tyX8_ok nmX8 (by decide) k_X8_init_f63 (Or.inr ⟨rfl, hN, rfl⟩) (by decide +kernel) (fun v => by cases v <;> exact ⟨rfl, rfl⟩) dX8_init_182 (fun h54 => ?_)
  refine or_aload_n C 0 rfl dX8_init_185 ?_
  refine or_iconst C (v := (3 : Int32)) dX8_init_186 (by decide) ?_
  refine or_newa (atype := .int) (ty := .int) (n := (3 : Int32)) (N := 3) (cells := 15) (slots := 2326) C 0 rfl (fun _ => rfl) (by decide) k_X8_init_ac20 (fun _ _ z => z) rfl rfl (by decide) rfl (Nat.le_of_ble_eq_true rfl) ⟨Nat.le_of_ble_eq_true rfl, Nat.le_of_ble_eq_true rfl⟩ dX8_init_187 (fun a56 h55 => ?_)
  refine or_putR C 8 21 rfl (by decide) rfl (by decide) u_X8_init_8 tyX8 tyX8_ok nmX8 (by decide) k_X8_init_f66 (Or.inr ⟨rfl, hN, rfl⟩) (by decide +kernel) (fun v => by cases v <;> exact ⟨rfl, rfl⟩) dX8_init_189 (fun h57 => ?_)
  refine or_aload_n C 0 rfl dX8_init_192 ?_
  refine or_iconst C (v := (3 : Int32)) dX8_init_193 (by decide) ?_
  refine or_newa (atype := .int) (ty := .int) (n := (3 : Int32)) (N := 3) (cells := 16) (slots := 2329) C 0 rfl (fun _ => rfl) (by decide) k_X8_init_ac20 (fun _ _ z => z) rfl rfl (by decide) rfl (Nat.le_of_ble_eq_true rfl) ⟨Nat.le_of_ble_eq_true rfl, Nat.le_of_ble_eq_true rfl⟩ dX8_init_194 (fun a59 h58 => ?_)
  refine or_putR C 8 22 rfl (by decide) rfl (by decide) u_X8_init_8 tyX8 tyX8_ok nmX8 (by decide) k_X8_init_f69 (Or.inr ⟨rfl, hN, rfl⟩) (by decide +kernel) (fun v => by cases v <;> exact ⟨rfl, rfl⟩) dX8_init_196 (fun h60 => ?_)
  refine or_aload_n C 0 rfl dX8_init_199 ?_
  refine or_bipush C (v := (36 : Int32)) dX8_init_200 (by decide) ?_
  refine or_newa (atype := .int) (ty := .int) (n := (36 : Int32)) (N := 36) (cells := 17) (slots := 2332) C 0 rfl (fun _ => rfl) (by decide) k_X8_init_ac20 (fun _ _ z => z) rfl rfl (by decide) rfl (Nat.le_of_ble_eq_true rfl) ⟨Nat.le_of_ble_eq_true rfl, Nat.le_of_ble_eq_true rfl⟩ dX8_init_202 (fun a62 h61 => ?_)
  refine or_putR C 8 23 rfl (by decide) rfl (by decide) u_X8_init_8 tyX8 tyX8_ok nmX8 (by decide) k_X8_init_f72 (Or.inr ⟨rfl, hN, rfl⟩) (by decide +kernel) (fun v => by cases v <;> exact ⟨rfl, rfl⟩) dX8_init_204 (fun h63 => ?_)
  refine or_aload_n C 0 rfl dX8_init_207 ?_
  refine or_iconst C (v := (3 : Int32)) dX8_init_208 (by decide) ?_
  refine or_newa (atype := .boolean) (ty := .boolean) (n := (3 : Int32)) (N := 3) (cells := 18) (slots := 2368) C 2 rfl (fun _ => rfl) (by decide) k_X8_init_ac22 (fun _ _ z => z) rfl rfl (by decide) rfl (Nat.le_of_ble_eq_true rfl) ⟨Nat.le_of_ble_eq_true rfl, Nat.le_of_ble_eq_true rfl⟩ dX8_init_209 (fun a65 h64 => ?_)
  refine or_putR C 8 24 rfl (by decide) rfl (by decide) u_X8_init_8 tyX8 tyX8_ok nmX8 (by decide) k_X8_init_f75 (Or.inr ⟨rfl, hN, rfl⟩) (by decide +kernel) (fun v => by cases v <;> exact ⟨rfl, rfl⟩) dX8_init_211 (fun h66 => ?_)
  refine or_aload_n C 0 rfl dX8_init_214 ?_
  refine or_iconst C (v := (3 : Int32)) dX8_init_215 (by decide) ?_
  refine or_newa (atype := .boolean) (ty := .boolean) (n := (3 : Int32)) (N := 3) (cells := 19) (slots := 2371) C 2 rfl (fun _ => rfl) (by decide) k_X8_init_ac22 (fun _ _ z => z) rfl rfl (by decide) rfl (Nat.le_of_ble_eq_true rfl) ⟨Nat.le_of_ble_eq_true rfl, Nat.le_of_ble_eq_true rfl⟩ dX8_init_216 (fun a68 h67 => ?_)
  refine or_putR C 8 25 rfl (by decide) rfl (by decide) u_X8_init_8 tyX8 tyX8_ok nmX8 (by decide) k_X8_init_f78 (Or.inr ⟨rfl, hN, rfl⟩) (by decide +kernel) (fun v => by cases v <;> exact ⟨rfl, rfl⟩) dX8_init_218 (fun h69 => ?_)
  refine or_aload_n C 0 rfl dX8_init_221 ?_
  refine or_iconst C (v := (3 : Int32)) dX8_init_222 (by decide) ?_
  refine or_newa (atype := .int) (ty := .int) (n := (3 : Int32)) (N := 3) (cells := 20) (slots := 2374) C 0 rfl (fun _ => rfl) (by decide) k_X8_init_ac20 (fun _ _ z => z) rfl rfl (by decide) rfl (Nat.le_of_ble_eq_true rfl) ⟨Nat.le_of_ble_eq_true rfl, Nat.le_of_ble_eq_true rfl⟩ dX8_init_223 (fun a71 h70 => ?_)
  refine or_dup C rfl dX8_init_225 ?_
  refine or_iconst C (v := (0 : Int32)) dX8_init_226 (by decide) ?_
  refine or_iconst C (v := (-1 : Int32)) dX8_init_227 (by decide) ?_
  refine or_iast C dX8_init_228 (fun h72 => ?_)
  refine or_dup C rfl dX8_init_229 ?_
  refine or_iconst C (v := (1 : Int32)) dX8_init_230 (by decide) ?_
  refine or_iconst C (v := (-1 : Int32)) dX8_init_231 (by decide) ?_
  refine or_iast C dX8_init_232 (fun h73 => ?_)
  refine or_dup C rfl dX8_init_233 ?_
  refine or_iconst C (v := (2 : Int32)) dX8_init_234 (by decide) ?_
  refine or_iconst C (v := (-1 : Int32)) dX8_init_235 (by decide) ?_
  refine or_iast C dX8_init_236 (fun h74 => ?_)
  refine or_putR C 8 26 rfl (by decide) rfl (by decide) u_X8_init_8 tyX8 tyX8_ok nmX8 (by decide) k_X8_init_f81 (Or.inr ⟨rfl, hN, rfl⟩) (by decide +kernel) (fun v => by cases v <;> exact ⟨rfl, rfl⟩) dX8_init_237 (fun h75 => ?_)
  refine or_aload_n C 0 rfl dX8_init_240 ?_
  refine or_iconst C (v := (3 : Int32)) dX8_init_241 (by decide) ?_
  refine or_newa (atype := .int) (ty := .int) (n := (3 : Int32)) (N := 3) (cells := 21) (slots := 2377) C 0 rfl (fun _ => rfl) (by decide) k_X8_init_ac20 (fun _ _ z => z) rfl rfl (by decide) rfl (Nat.le_of_ble_eq_true rfl) ⟨Nat.le_of_ble_eq_true rfl, Nat.le_of_ble_eq_true rfl⟩ dX8_init_242 (fun a77 h76 => ?_)
  refine or_dup C rfl dX8_init_244 ?_
  refine or_iconst C (v := (0 : Int32)) dX8_init_245 (by decide) ?_
  refine or_iconst C (v := (-1 : Int32)) dX8_init_246 (by decide) ?_
  refine or_iast C dX8_init_247 (fun h78 => ?_)
  refine or_dup C rfl dX8_init_248 ?_
  refine or_iconst C (v := (1 : Int32)) dX8_init_249 (by decide) ?_
  refine or_iconst C (v := (-1 : Int32)) dX8_init_250 (by decide) ?_
  refine or_iast C dX8_init_251 (fun h79 => ?_)
  refine or_dup C rfl dX8_init_252 ?_
  refine or_iconst C (v := (2 : Int32)) dX8_init_253 (by decide) ?_
  refine or_iconst C (v := (-1 : Int32)) dX8_init_254 (by decide) ?_
  refine or_iast C dX8_init_255 (fun h80 => ?_)
  refine or_putR C 8 27 rfl (by decide) rfl (by decide) u_X8_init_8 tyX8 tyX8_ok nmX8 (by decide) k_X8_init_f84 (Or.inr ⟨rfl, hN, rfl⟩) (by decide +kernel) (fun v => by cases v <;> exact ⟨rfl, rfl⟩) dX8_init_256 (fun h81 => ?_)
  refine or_aload_n C 0 rfl dX8_init_259 ?_
  refine or_iconst C (v := (3 : Int32)) dX8_init_260 (by decide) ?_
  refine or_newa (atype := .int) (ty := .int) (n := (3 : Int32)) (N := 3) (cells := 22) (slots := 2380) C 0 rfl (fun _ => rfl) (by decide) k_X8_init_ac20 (fun _ _ z => z) rfl rfl (by decide) rfl (Nat.le_of_ble_eq_true rfl) ⟨Nat.le_of_ble_eq_true rfl, Nat.le_of_ble_eq_true rfl⟩ dX8_init_261 (fun a83 h82 => ?_)
  refine or_dup C rfl dX8_init_263 ?_
  refine or_iconst C (v := (0 : Int32)) dX8_init_264 (by decide) ?_
  refine or_iconst C (v := (-1 : Int32)) dX8_init_265 (by decide) ?_
  refine or_iast C dX8_init_266 (fun h84 => ?_)
  refine or_dup C rfl dX8_init_267 ?_
  refine or_iconst C (v := (1 : Int32)) dX8_init_268 (by decide) ?_
  refine or_iconst C (v := (-1 : Int32)) dX8_init_269 (by decide) ?_
  refine or_iast C dX8_init_270 (fun h85 => ?_)
  refine or_dup C rfl dX8_init_271 ?_
  refine or_iconst C (v := (2 : Int32)) dX8_init_272 (by decide) ?_
  refine or_iconst C (v := (-1 : Int32)) dX8_init_273 (by decide) ?_
  refine or_iast C dX8_init_274 (fun h86 => ?_)
  refine or_putR C 8 28 rfl (by decide) rfl (by decide) u_X8_init_8 tyX8 tyX8_ok nmX8 (by decide) k_X8_init_f87 (Or.inr ⟨rfl, hN, rfl⟩) (by decide +kernel) (fun v => by cases v <;> exact ⟨rfl, rfl⟩) dX8_init_275 (fun h87 => ?_)
  refine or_aload_n C 0 rfl dX8_init_278 ?_
  refine or_bipush C (v := (12 : Int32)) dX8_init_279 (by decide) ?_
  refine or_newa (atype := .int) (ty := .int) (n := (12 : Int32)) (N := 12) (cells := 23) (slots := 2383) C 0 rfl (fun _ => rfl) (by decide) k_X8_init_ac20 (fun _ _ z => z) rfl rfl (by decide) rfl (Nat.le_of_ble_eq_true rfl) ⟨Nat.le_of_ble_eq_true rfl, Nat.le_of_ble_eq_true rfl⟩ dX8_init_281 (fun a89 h88 => ?_)
  refine or_putR C 8 30 rfl (by decide) rfl (by decide) u_X8_init_8 tyX8 tyX8_ok nmX8 (by decide) k_X8_init_f90 (Or.inr ⟨rfl, hN, rfl⟩) (by decide +kernel) (fun v => by cases v <;> exact ⟨rfl, rfl⟩) dX8_init_283 (fun h90 => ?_)
  refine or_aload_n C 0 rfl dX8_init_286 ?_
  refine or_bipush C (v := (12 : Int32)) dX8_init_287 (by decide) ?_
  refine or_newa (atype := .boolean) (ty := .boolean) (n := (12 : Int32)) (N := 12) (cells := 24) (slots := 2395) C 2 rfl (fun _ => rfl) (by decide) k_X8_init_ac22 (fun _ _ z => z) rfl rfl (by decide) rfl (Nat.le_of_ble_eq_true rfl) ⟨Nat.le_of_ble_eq_true rfl, Nat.le_of_ble_eq_true rfl⟩ dX8_init_289 (fun a92 h91 => ?_)
  refine or_putR C 8 31 rfl (by decide) rfl (by decide) u_X8_init_8 tyX8 tyX8_ok nmX8 (by decide) k_X8_init_f93 (Or.inr ⟨rfl, hN, rfl⟩) (by decide +kernel) (fun v => by cases v <;> exact ⟨rfl, rfl⟩) dX8_init_291 (fun h93 => ?_)
  refine or_aload_n C 0 rfl dX8_init_294 ?_
  refine or_bipush C (v := (12 : Int32)) dX8_init_295 (by decide) ?_
  refine or_newa (atype := .int) (ty := .int) (n := (12 : Int32)) (N := 12) (cells := 25) (slots := 2407) C 0 rfl (fun _ => rfl) (by decide) k_X8_init_ac20 (fun _ _ z => z) rfl rfl (by decide) rfl (Nat.le_of_ble_eq_true rfl) ⟨Nat.le_of_ble_eq_true rfl, Nat.le_of_ble_eq_true rfl⟩ dX8_init_297 (fun a95 h94 => ?_)
  refine or_putR C 8 32 rfl (by decide) rfl (by decide) u_X8_init_8 tyX8 tyX8_ok nmX8 (by decide) k_X8_init_f96 (Or.inr ⟨rfl, hN, rfl⟩) (by decide +kernel) (fun v => by cases v <;> exact ⟨rfl, rfl⟩) dX8_init_299 (fun h96 => ?_)
  refine or_aload_n C 0 rfl dX8_init_302 ?_
  refine or_bipush C (v := (12 : Int32)) dX8_init_303 (by decide) ?_
  refine or_newa (atype := .int) (ty := .int) (n := (12 : Int32)) (N := 12) (cells := 26) (slots := 2419) C 0 rfl (fun _ => rfl) (by decide) k_X8_init_ac20 (fun _ _ z => z) rfl rfl (by decide) rfl (Nat.le_of_ble_eq_true rfl) ⟨Nat.le_of_ble_eq_true rfl, Nat.le_of_ble_eq_true rfl⟩ dX8_init_305 (fun a98 h97 => ?_)
  refine or_putR C 8 33 rfl (by decide) rfl (by decide) u_X8_init_8 tyX8 tyX8_ok nmX8 (by decide) k_X8_init_f99 (Or.inr ⟨rfl, hN, rfl⟩) (by decide +kernel) (fun v => by cases v <;> exact ⟨rfl, rfl⟩) dX8_init_307 (fun h99 => ?_)
  refine or_aload_n C 0 rfl dX8_init_310 ?_
  refine or_bipush C (v := (12 : Int32)) dX8_init_311 (by decide) ?_
  refine or_newa (atype := .int) (ty := .int) (n := (12 : Int32)) (N := 12) (cells := 27) (slots := 2431) C 0 rfl (fun _ => rfl) (by decide) k_X8_init_ac20 (fun _ _ z => z) rfl rfl (by decide) rfl (Nat.le_of_ble_eq_true rfl) ⟨Nat.le_of_ble_eq_true rfl, Nat.le_of_ble_eq_true rfl⟩ dX8_init_313 (fun a101 h100 => ?_)
  refine or_putR C 8 34 rfl (by decide) rfl (by decide) u_X8_init_8 tyX8 tyX8_ok nmX8 (by decide) k_X8_init_f102 (Or.inr ⟨rfl, hN, rfl⟩) (by decide +kernel) (fun v => by cases v <;> exact ⟨rfl, rfl⟩) dX8_init_315 (fun h102 => ?_)
  refine or_aload_n C 0 rfl dX8_init_318 ?_
  refine or_bipush C (v := (12 : Int32)) dX8_init_319 (by decide) ?_
  refine or_newa (atype := .boolean) (ty := .boolean) (n := (12 : Int32)) (N := 12) (cells := 28) (slots := 2443) C 2 rfl (fun _ => rfl) (by decide) k_X8_init_ac22 (fun _ _ z => z) rfl rfl (by decide) rfl (Nat.le_of_ble_eq_true rfl) ⟨Nat.le_of_ble_eq_true rfl, Nat.le_of_ble_eq_true rfl⟩ dX8_init_321 (fun a104 h103 => ?_)
  refine or_putR C 8 35 rfl (by decide) rfl (by decide) u_X8_init_8 tyX8 tyX8_ok nmX8 (by decide) k_X8_init_f105 (Or.inr ⟨rfl, hN, rfl⟩) (by decide +kernel) (fun v => by cases v <;> exact ⟨rfl, rfl⟩) dX8_init_323 (fun h105 => ?_)
  refine or_aload_n C 0 rfl dX8_init_326 ?_
  refine or_bipush C (v := (12 : Int32)) dX8_init_327 (by decide) ?_
  refine or_newa (atype := .long) (ty := .long) (n := (12 : Int32)) (N := 12) (cells := 29) (slots := 2455) C 1 rfl (fun _ => rfl) (by decide) k_X8_init_ac21 (fun _ _ z => z) rfl rfl (by decide) rfl (Nat.le_of_ble_eq_true rfl) ⟨Nat.le_of_ble_eq_true rfl, Nat.le_of_ble_eq_true rfl⟩ dX8_init_329 (fun a107 h106 => ?_)
  refine or_putR C 8 36 rfl (by decide) rfl (by decide) u_X8_init_8 tyX8 tyX8_ok nmX8 (by decide) k_X8_init_f108 (Or.inr ⟨rfl, hN, rfl⟩) (by decide +kernel) (fun v => by cases v <;> exact ⟨rfl, rfl⟩) dX8_init_331 (fun h108 => ?_)
  refine or_aload_n C 0 rfl dX8_init_334 ?_
  refine or_bipush C (v := (12 : Int32)) dX8_init_335 (by decide) ?_
  refine or_newa (atype := .long) (ty := .long) (n := (12 : Int32)) (N := 12) (cells := 30) (slots := 2467) C 1 rfl (fun _ => rfl) (by decide) k_X8_init_ac21 (fun _ _ z => z) rfl rfl (by decide) rfl (Nat.le_of_ble_eq_true rfl) ⟨Nat.le_of_ble_eq_true rfl, Nat.le_of_ble_eq_true rfl⟩ dX8_init_337 (fun a110 h109 => ?_)
  refine or_putR C 8 37 rfl (by decide) rfl (by decide) u_X8_init_8 tyX8 tyX8_ok nmX8 (by decide) k_X8_init_f112 (Or.inr ⟨rfl, hN, rfl⟩) (by decide +kernel) (fun v => by cases v <;> exact ⟨rfl, rfl⟩) dX8_init_339 (fun h111 => ?_)
  refine or_aload_n C 0 rfl dX8_init_342 ?_
  refine or_bipush C (v := (120 : Int32)) dX8_init_343 (by decide) ?_
  refine or_newa (atype := .int) (ty := .int) (n := (120 : Int32)) (N := 120) (cells := 31) (slots := 2479) C 0 rfl (fun _ => rfl) (by decide) k_X8_init_ac20 (fun _ _ z => z) rfl rfl (by decide) rfl (Nat.le_of_ble_eq_true rfl) ⟨Nat.le_of_ble_eq_true rfl, Nat.le_of_ble_eq_true rfl⟩ dX8_init_345 (fun a113 h112 => ?_)
  refine or_putR C 8 38 rfl (by decide) rfl (by decide) u_X8_init_8 tyX8 tyX8_ok nmX8 (by decide) k_X8_init_f115 (Or.inr ⟨rfl, hN, rfl⟩) (by decide +kernel) (fun v => by cases v <;> exact ⟨rfl, rfl⟩) dX8_init_347 (fun h114 => ?_)
  refine or_aload_n C 0 rfl dX8_init_350 ?_
  refine or_bipush C (v := (8 : Int32)) dX8_init_351 (by decide) ?_
  refine or_newa (atype := .int) (ty := .int) (n := (8 : Int32)) (N := 8) (cells := 32) (slots := 2599) C 0 rfl (fun _ => rfl) (by decide) k_X8_init_ac20 (fun _ _ z => z) rfl rfl (by decide) rfl (Nat.le_of_ble_eq_true rfl) ⟨Nat.le_of_ble_eq_true rfl, Nat.le_of_ble_eq_true rfl⟩ dX8_init_353 (fun a116 h115 => ?_)
  refine or_putR C 8 48 rfl (by decide) rfl (by decide) u_X8_init_8 tyX8 tyX8_ok nmX8 (by decide) k_X8_init_f118 (Or.inr ⟨rfl, hN, rfl⟩) (by decide +kernel) (fun v => by cases v <;> exact ⟨rfl, rfl⟩) dX8_init_355 (fun h117 => ?_)
  refine or_aload_n C 0 rfl dX8_init_358 ?_
  refine or_bipush C (v := (8 : Int32)) dX8_init_359 (by decide) ?_
  refine or_newa (atype := .int) (ty := .int) (n := (8 : Int32)) (N := 8) (cells := 33) (slots := 2607) C 0 rfl (fun _ => rfl) (by decide) k_X8_init_ac20 (fun _ _ z => z) rfl rfl (by decide) rfl (Nat.le_of_ble_eq_true rfl) ⟨Nat.le_of_ble_eq_true rfl, Nat.le_of_ble_eq_true rfl⟩ dX8_init_361 (fun a119 h118 => ?_)
  refine or_putR C 8 50 rfl (by decide) rfl (by decide) u_X8_init_8 tyX8 tyX8_ok nmX8 (by decide) k_X8_init_f121 (Or.inr ⟨rfl, hN, rfl⟩) (by decide +kernel) (fun v => by cases v <;> exact ⟨rfl, rfl⟩) dX8_init_363 (fun h120 => ?_)
  refine or_aload_n C 0 rfl dX8_init_366 ?_
  refine or_bipush C (v := (8 : Int32)) dX8_init_367 (by decide) ?_
  refine or_newa (atype := .int) (ty := .int) (n := (8 : Int32)) (N := 8) (cells := 34) (slots := 2615) C 0 rfl (fun _ => rfl) (by decide) k_X8_init_ac20 (fun _ _ z => z) rfl rfl (by decide) rfl (Nat.le_of_ble_eq_true rfl) ⟨Nat.le_of_ble_eq_true rfl, Nat.le_of_ble_eq_true rfl⟩ dX8_init_369 (fun a122 h121 => ?_)
  refine or_putR C 8 51 rfl (by decide) rfl (by decide) u_X8_init_8 tyX8 tyX8_ok nmX8 (by decide) k_X8_init_f124 (Or.inr ⟨rfl, hN, rfl⟩) (by decide +kernel) (fun v => by cases v <;> exact ⟨rfl, rfl⟩) dX8_init_371 (fun h123 => ?_)
  exact or_vret C ⟨Nat.le_of_ble_eq_true rfl, Nat.le_of_ble_eq_true rfl⟩ dX8_init_374
theorem m_X8_init (l : Launch) (h : oh_H) (o : Nat) (p : oh_H) (hf : f_X8_init h o = some p) : oh_M l yX8_init wsX8_init rmX8_init 35 2623 [xr (some o)] h none p :=
  oh_met (cc := cX8_init) (maxL := 1) (ret := none) (by decide) rfl (Nat.le_of_ble_eq_true rfl) (fun G C hl hN E => w_X8_init_0 C hl hN h h o p hf E)
