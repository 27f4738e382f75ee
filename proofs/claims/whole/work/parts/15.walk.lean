/-! X7_sample -/
theorem k_X7_sample_f116 : Cond.fieldLink RX7 116 "OilPress$Lot" "state" "I" ∈ wsX7_sample := List.mem_of_getElem? (i := 1) (by decide +kernel)
theorem u_X7_sample_2 : ∀ w ∈ u_ws RX2 TX2 12, w ∈ wsX7_sample := fun w h => List.mem_cons_of_mem _ (List.mem_append_left _ (List.mem_append_right _ (h)))
theorem k_X7_sample_f123 : Cond.fieldLink RX7 123 "OilPress$Lot" "thousandths" "I" ∈ wsX7_sample := List.mem_of_getElem? (i := 2) (by decide +kernel)
theorem k_X7_sample_f126 : Cond.fieldLink RX7 126 "OilPress$Lot" "sourness" "I" ∈ wsX7_sample := List.mem_of_getElem? (i := 3) (by decide +kernel)
abbrev rmX7_sample : Room := { frames := 2, cells := 0, slots := 0, locals := 43 }
def f_X7_sample_21 (h : oh_H) (o : Nat) : Option (Int32 × oh_H) :=
  oh_bz (0 : Int32) (some ((0 : Int32), h))
def f_X7_sample_45 (h : oh_H) (o : Nat) : Option (Int32 × oh_H) :=
  oh_bz (0 : Int32) (some ((0 : Int32), h))
def f_X7_sample (h : oh_H) (o : Nat) (v1 : Int32) (v2 : Int32) (v3 : Int32) : Option (Int32 × oh_H) :=
  oh_rc h (some o) 8 fun o2 => (f_X7_findLot h o2 v1).bind fun p3 => oh_lt p3 fun x5 => if x5 = none then (f_X7_sample_21 h o) else ((oh_gI h x5 132).bind fun x6 => if x6 = (1 : Int32) then ((f_X7_isWithin h v2 (1 : Int32) (400 : Int32)).bind fun p7 => if p7 = 0 then (f_X7_sample_45 h o) else ((f_X7_isWithin h v3 (0 : Int32) (999 : Int32)).bind fun p9 => if p9 = 0 then (f_X7_sample_45 h o) else ((oh_pI h x5 134 v2).bind fun h11 => (oh_pI h11 x5 135 v3).bind fun h12 => (oh_pI h12 x5 132 (2 : Int32)).bind fun h13 => oh_bz (1 : Int32) (some ((1 : Int32), h13))))) else (f_X7_sample_21 h o))
set_option maxHeartbeats 4000000 in
set_option maxRecDepth 100000 in
theorem w_X7_sample_21 {G : oh_G} {l : Launch} (C : oh_C G cX7_sample wsX7_sample RX7 rmX7_sample 5) (hl : G.1.2.1 = l) (h0 : oh_H) (h : oh_H) (o : Nat) : oh_J (oh_TW h0 xi 0 0 (some .boolean) G) (f_X7_sample_21 h o) (oh_V G 0 0 h 21 [] []) := by
  unfold f_X7_sample_21
  refine or_iconst C (v := (0 : Int32)) dX7_sample_21 (by decide) ?_
  exact or_zret C ⟨Nat.le_of_ble_eq_true rfl, Nat.le_of_ble_eq_true rfl⟩ dX7_sample_22
set_option maxHeartbeats 4000000 in
set_option maxRecDepth 100000 in
theorem w_X7_sample_45 {G : oh_G} {l : Launch} (C : oh_C G cX7_sample wsX7_sample RX7 rmX7_sample 5) (hl : G.1.2.1 = l) (h0 : oh_H) (h : oh_H) (o : Nat) : oh_J (oh_TW h0 xi 0 0 (some .boolean) G) (f_X7_sample_45 h o) (oh_V G 0 0 h 45 [] []) := by
  unfold f_X7_sample_45
  refine or_iconst C (v := (0 : Int32)) dX7_sample_45 (by decide) ?_
  exact or_zret C ⟨Nat.le_of_ble_eq_true rfl, Nat.le_of_ble_eq_true rfl⟩ dX7_sample_46
set_option maxHeartbeats 4000000 in
set_option maxRecDepth 100000 in
theorem w_X7_sample_0 {G : oh_G} {l : Launch} (C : oh_C G cX7_sample wsX7_sample RX7 rmX7_sample 5) (hl : G.1.2.1 = l) (h0 : oh_H) (h : oh_H) (o : Nat) (v1 : Int32) (v2 : Int32) (v3 : Int32) : oh_J (oh_TW h0 xi 0 0 (some .boolean) G) (f_X7_sample h o v1 v2 v3) (oh_V G 0 0 h 0 [(0, xr (some o)), (1, xi v1), (2, xi v2), (3, xi v3)] []) := by
  unfold f_X7_sample
  refine or_aload_n C 0 rfl dX7_sample_0 ?_
  refine or_iload_n C 1 rfl dX7_sample_1 ?_
  refine oj_rcs (fun q1 => ?_)
  refine oj_bind (fun p3 z4 => ?_)
  refine oj_v (P := oh_V G 0 0 h 5 [(0, xr (some o)), (1, xi v1), (2, xi v2), (3, xi v3)] [xr p3]) (fun k => or_callV C 1 hl (m_X7_findLot _ h o v1 p3 z4) gX7_sample_X7_findLot rfl rfl rfl (by decide +kernel) ⟨Nat.le_of_ble_eq_true rfl, Nat.le_of_ble_eq_true rfl⟩ q1 rfl (by decide) (Nat.le_of_ble_eq_true rfl) dX7_sample_2 ⟨Nat.le_of_ble_eq_true rfl, Nat.le_of_ble_eq_true rfl⟩ rfl rfl k) ?_
  refine or_astore C (fun x5 => [(4, xr x5), (0, xr (some o)), (1, xi v1), (2, xi v2), (3, xi v3)]) (fun _ => rfl) (by decide) dX7_sample_5 (fun x5 => ?_)
  refine or_aload C 0 rfl dX7_sample_7 ?_
  refine or_ifnull C 21 dX7_sample_9 (by decide) ?_ ?_
  · refine or_sub [] rfl ?_
    exact w_X7_sample_21 C hl h0 h o
  · refine or_aload C 0 rfl dX7_sample_12 ?_
    refine or_getI C 2 4 rfl (by decide) rfl (by decide) u_X7_sample_2 (by decide) k_X7_sample_f116 (by decide +kernel) dX7_sample_14 (fun x6 => ?_)
    refine or_iconst C (v := (1 : Int32)) dX7_sample_17 (by decide) ?_
    refine or_icmp_eq C 23 dX7_sample_18 (by decide) ?_ ?_
    · refine or_iload_n C 3 rfl dX7_sample_23 ?_
      refine or_iconst C (v := (1 : Int32)) dX7_sample_24 (by decide) ?_
      refine or_sipush C (v := (400 : Int32)) dX7_sample_25 (by decide) ?_
      refine oj_bind (fun p7 z8 => ?_)
      refine oj_v (P := oh_V G 0 0 h 31 [(4, xr x5), (0, xr (some o)), (1, xi v1), (2, xi v2), (3, xi v3)] [xi p7]) (fun k => or_callS C 3 hl (m_X7_isWithin _ h v2 (1 : Int32) (400 : Int32) p7 z8) gX7_sample_X7_isWithin rfl rfl rfl (by decide +kernel) ⟨Nat.le_of_ble_eq_true rfl, Nat.le_of_ble_eq_true rfl⟩ (Nat.le_of_ble_eq_true rfl) dX7_sample_28 ⟨Nat.le_of_ble_eq_true rfl, Nat.le_of_ble_eq_true rfl⟩ rfl rfl k) ?_
      refine or_if_eq C 45 dX7_sample_31 (by decide) ?_ ?_
      · refine or_sub [] rfl ?_
        exact w_X7_sample_45 C hl h0 h o
      · refine or_iload_n C 4 rfl dX7_sample_34 ?_
        refine or_iconst C (v := (0 : Int32)) dX7_sample_35 (by decide) ?_
        refine or_sipush C (v := (999 : Int32)) dX7_sample_36 (by decide) ?_
        refine oj_bind (fun p9 z10 => ?_)
        refine oj_v (P := oh_V G 0 0 h 42 [(4, xr x5), (0, xr (some o)), (1, xi v1), (2, xi v2), (3, xi v3)] [xi p9]) (fun k => or_callS C 3 hl (m_X7_isWithin _ h v3 (0 : Int32) (999 : Int32) p9 z10) gX7_sample_X7_isWithin rfl rfl rfl (by decide +kernel) ⟨Nat.le_of_ble_eq_true rfl, Nat.le_of_ble_eq_true rfl⟩ (Nat.le_of_ble_eq_true rfl) dX7_sample_39 ⟨Nat.le_of_ble_eq_true rfl, Nat.le_of_ble_eq_true rfl⟩ rfl rfl k) ?_
        refine or_if_ne C 47 dX7_sample_42 (by decide) ?_ ?_
        · refine or_sub [] rfl ?_
          exact w_X7_sample_45 C hl h0 h o
        · refine or_aload C 0 rfl dX7_sample_47 ?_
          refine or_iload_n C 3 rfl dX7_sample_49 ?_
          refine or_putI C 2 6 rfl (by decide) rfl (by decide) u_X7_sample_2 tyX2 tyX2_ok nmX2 (by decide) k_X7_sample_f123 (Or.inl rfl) (by decide +kernel) rfl dX7_sample_50 (fun h11 => ?_)
          refine or_aload C 0 rfl dX7_sample_53 ?_
          refine or_iload_n C 4 rfl dX7_sample_55 ?_
          refine or_putI C 2 7 rfl (by decide) rfl (by decide) u_X7_sample_2 tyX2 tyX2_ok nmX2 (by decide) k_X7_sample_f126 (Or.inl rfl) (by decide +kernel) rfl dX7_sample_56 (fun h12 => ?_)
          refine or_aload C 0 rfl dX7_sample_59 ?_
          refine or_iconst C (v := (2 : Int32)) dX7_sample_61 (by decide) ?_
          refine or_putI C 2 4 rfl (by decide) rfl (by decide) u_X7_sample_2 tyX2 tyX2_ok nmX2 (by decide) k_X7_sample_f116 (Or.inl rfl) (by decide +kernel) rfl dX7_sample_62 (fun h13 => ?_)
          refine or_iconst C (v := (1 : Int32)) dX7_sample_65 (by decide) ?_
          exact or_zret C ⟨Nat.le_of_ble_eq_true rfl, Nat.le_of_ble_eq_true rfl⟩ dX7_sample_66
    · refine or_sub [] rfl ?_
      exact w_X7_sample_21 C hl h0 h o
theorem m_X7_sample (l : Launch) (h : oh_H) (o : Nat) (v1 : Int32) (v2 : Int32) (v3 : Int32) (p : Int32 × oh_H) (hf : f_X7_sample h o v1 v2 v3 = some p) : oh_M l yX7_sample wsX7_sample rmX7_sample 0 0 [xr (some o), xi v1, xi v2, xi v3] h (some (xi p.1)) p.2 :=
  oh_met (cc := cX7_sample) (maxL := 5) (ret := (some .boolean)) (by decide) rfl (Nat.le_of_ble_eq_true rfl) (fun G C hl hN E => w_X7_sample_0 C hl h h o v1 v2 v3 p hf E)
/-! X7_asNumber -/
abbrev rmX7_asNumber : Room := { frames := 0, cells := 0, slots := 0, locals := 0 }
def f_X7_asNumber_9 (h : oh_H) (s0 : Int32) : Option (Int32) :=
  some s0
def f_X7_asNumber (h : oh_H) (v0 : Int32) : Option (Int32) :=
  if v0 = 0 then (f_X7_asNumber_9 h (0 : Int32)) else (f_X7_asNumber_9 h (1 : Int32))
set_option maxHeartbeats 4000000 in
set_option maxRecDepth 100000 in
theorem w_X7_asNumber_9 {G : oh_G} {l : Launch} (C : oh_C G cX7_asNumber wsX7_asNumber RX7 rmX7_asNumber 1) (hl : G.1.2.1 = l) (h : oh_H) (s0 : Int32) : oh_J (oh_TR h xi (some .int) G) (f_X7_asNumber_9 h s0) (oh_V G 0 0 h 9 [] [xi s0]) := by
  unfold f_X7_asNumber_9
  exact or_iretR C dX7_asNumber_9
set_option maxHeartbeats 4000000 in
set_option maxRecDepth 100000 in
theorem w_X7_asNumber_0 {G : oh_G} {l : Launch} (C : oh_C G cX7_asNumber wsX7_asNumber RX7 rmX7_asNumber 1) (hl : G.1.2.1 = l) (h : oh_H) (v0 : Int32) : oh_J (oh_TR h xi (some .int) G) (f_X7_asNumber h v0) (oh_V G 0 0 h 0 [(0, xi v0)] []) := by
  unfold f_X7_asNumber
  refine or_iload_n C 0 rfl dX7_asNumber_0 ?_
  refine or_if_eq C 8 dX7_asNumber_1 (by decide) ?_ ?_
  · refine or_iconst C (v := (0 : Int32)) dX7_asNumber_8 (by decide) ?_
    refine or_sub [] rfl ?_
    exact w_X7_asNumber_9 C hl h (0 : Int32)
  · refine or_iconst C (v := (1 : Int32)) dX7_asNumber_4 (by decide) ?_
    refine or_goto C 9 dX7_asNumber_5 (by decide) ?_
    refine or_sub [] rfl ?_
    exact w_X7_asNumber_9 C hl h (1 : Int32)
theorem m_X7_asNumber (l : Launch) (h : oh_H) (v0 : Int32) (p : Int32) (hf : f_X7_asNumber h v0 = some p) : oh_M l yX7_asNumber wsX7_asNumber rmX7_asNumber 0 0 [xi v0] h (some (xi p)) h :=
  oh_met (cc := cX7_asNumber) (maxL := 1) (ret := (some .int)) (by decide) rfl (Nat.le_of_ble_eq_true rfl) (fun G C hl hN E => w_X7_asNumber_0 C hl h v0 p hf E)
/-! X7_told -/
theorem k_X7_told_f105 : Cond.fieldLink RX7 105 "OilPress$Lot" "kind" "I" ∈ wsX7_told := List.mem_of_getElem? (i := 1) (by decide +kernel)
theorem u_X7_told_2 : ∀ w ∈ u_ws RX2 TX2 12, w ∈ wsX7_told := fun w h => List.mem_cons_of_mem _ (List.mem_append_left _ (List.mem_append_left _ (List.mem_append_right _ (h))))
theorem k_X7_told_f129 : Cond.fieldLink RX7 129 "OilPress$Lot" "grove" "LOilPress$Grove;" ∈ wsX7_told := List.mem_of_getElem? (i := 2) (by decide +kernel)
theorem k_X7_told_f133 : Cond.fieldLink RX7 133 "OilPress$Grove" "number" "I" ∈ wsX7_told := List.mem_of_getElem? (i := 3) (by decide +kernel)
theorem u_X7_told_1 : ∀ w ∈ u_ws RX1 TX1 3, w ∈ wsX7_told := fun w h => List.mem_cons_of_mem _ (List.mem_append_left _ (List.mem_append_right _ (h)))
theorem k_X7_told_f136 : Cond.fieldLink RX7 136 "OilPress$Lot" "day" "I" ∈ wsX7_told := List.mem_of_getElem? (i := 4) (by decide +kernel)
theorem k_X7_told_f116 : Cond.fieldLink RX7 116 "OilPress$Lot" "state" "I" ∈ wsX7_told := List.mem_of_getElem? (i := 5) (by decide +kernel)
theorem k_X7_told_f120 : Cond.fieldLink RX7 120 "OilPress$Lot" "tenths" "I" ∈ wsX7_told := List.mem_of_getElem? (i := 6) (by decide +kernel)
theorem k_X7_told_f123 : Cond.fieldLink RX7 123 "OilPress$Lot" "thousandths" "I" ∈ wsX7_told := List.mem_of_getElem? (i := 7) (by decide +kernel)
theorem k_X7_told_f126 : Cond.fieldLink RX7 126 "OilPress$Lot" "sourness" "I" ∈ wsX7_told := List.mem_of_getElem? (i := 8) (by decide +kernel)
theorem k_X7_told_f139 : Cond.fieldLink RX7 139 "OilPress$Lot" "share" "I" ∈ wsX7_told := List.mem_of_getElem? (i := 9) (by decide +kernel)
theorem k_X7_told_f142 : Cond.fieldLink RX7 142 "OilPress$Lot" "left" "I" ∈ wsX7_told := List.mem_of_getElem? (i := 10) (by decide +kernel)
theorem k_X7_told_f145 : Cond.fieldLink RX7 145 "OilPress$Lot" "place" "I" ∈ wsX7_told := List.mem_of_getElem? (i := 11) (by decide +kernel)
abbrev rmX7_told : Room := { frames := 2, cells := 0, slots := 0, locals := 43 }
def f_X7_told (h : oh_H) (o : Nat) (v1 : Int32) (v2 : Int32) : Option (Int32) :=
  oh_rc h (some o) 8 fun o2 => (f_X7_findLot h o2 v1).bind fun p3 => oh_lt p3 fun x5 => if x5 = none then (some (-1 : Int32)) else (if v2 = (0 : Int32) then ((oh_gI h x5 131).bind fun x6 => some x6) else (if v2 = (1 : Int32) then ((oh_gR h x5 129).bind fun x7 => (oh_gI h x7 64).bind fun x8 => some x8) else (if v2 = (2 : Int32) then ((oh_gI h x5 130).bind fun x9 => some x9) else (if v2 = (3 : Int32) then ((oh_gI h x5 132).bind fun x10 => some x10) else (if v2 = (4 : Int32) then ((oh_gI h x5 133).bind fun x11 => some x11) else (if v2 = (5 : Int32) then ((oh_gI h x5 134).bind fun x12 => some x12) else (if v2 = (6 : Int32) then ((oh_gI h x5 135).bind fun x13 => some x13) else (if v2 = (7 : Int32) then ((oh_gI h x5 136).bind fun x14 => some x14) else (if v2 = (8 : Int32) then ((oh_gI h x5 137).bind fun x15 => some x15) else (if v2 = (9 : Int32) then ((oh_gI h x5 138).bind fun x16 => some x16) else (if v2 = (10 : Int32) then (oh_rc h x5 3 fun o17 => (f_X2_isPressedWithOthers h o17).bind fun p20 => (f_X7_asNumber h p20).bind fun p22 => some p22) else (some (-1 : Int32)))))))))))))
set_option maxHeartbeats 4000000 in
set_option maxRecDepth 100000 in
theorem w_X7_told_0 {G : oh_G} {l : Launch} (C : oh_C G cX7_told wsX7_told RX7 rmX7_told 4) (hl : G.1.2.1 = l) (h : oh_H) (o : Nat) (v1 : Int32) (v2 : Int32) : oh_J (oh_TR h xi (some .int) G) (f_X7_told h o v1 v2) (oh_V G 0 0 h 0 [(0, xr (some o)), (1, xi v1), (2, xi v2)] []) := by
  unfold f_X7_told
  refine or_aload_n C 0 rfl dX7_told_0 ?_
  refine or_iload_n C 1 rfl dX7_told_1 ?_
  refine oj_rcs (fun q1 => ?_)
  refine oj_bind (fun p3 z4 => ?_)
  refine oj_v (P := oh_V G 0 0 h 5 [(0, xr (some o)), (1, xi v1), (2, xi v2)] [xr p3]) (fun k => or_callV C 1 hl (m_X7_findLot _ h o v1 p3 z4) gX7_told_X7_findLot rfl rfl rfl (by decide +kernel) ⟨Nat.le_of_ble_eq_true rfl, Nat.le_of_ble_eq_true rfl⟩ q1 rfl (by decide) (Nat.le_of_ble_eq_true rfl) dX7_told_2 ⟨Nat.le_of_ble_eq_true rfl, Nat.le_of_ble_eq_true rfl⟩ rfl rfl k) ?_
  refine or_astore_n C (fun x5 => [(3, xr x5), (0, xr (some o)), (1, xi v1), (2, xi v2)]) (fun _ => rfl) (by decide) dX7_told_5 (fun x5 => ?_)
  refine or_aload_n C 0 rfl dX7_told_6 ?_
  refine or_ifnonnull C 12 dX7_told_7 (by decide) ?_ ?_
  · refine or_iconst C (v := (-1 : Int32)) dX7_told_10 (by decide) ?_
    exact or_iretR C dX7_told_11
  · refine or_iload_n C 3 rfl dX7_told_12 ?_
    refine or_case C (v := (0 : Int32)) 0 72 dX7_told_13 (by decide) (by decide) rfl (by decide) ?_ (fun n0 => ?_)
    · refine or_aload_n C 0 rfl dX7_told_72 ?_
      refine or_getI C 2 3 rfl (by decide) rfl (by decide) u_X7_told_2 (by decide) k_X7_told_f105 (by decide +kernel) dX7_told_73 (fun x6 => ?_)
      exact or_iretR C dX7_told_76
    refine or_case C (v := (1 : Int32)) 1 77 dX7_told_13 (by decide) (by decide) rfl (by decide) ?_ (fun n1 => ?_)
    · refine or_aload_n C 0 rfl dX7_told_77 ?_
      refine or_getR C 2 1 rfl (by decide) rfl (by decide) u_X7_told_2 (by decide) k_X7_told_f129 (by decide +kernel) dX7_told_78 (fun x7 => ?_)
      refine or_getI C 1 0 rfl (by decide) rfl (by decide) u_X7_told_1 (by decide) k_X7_told_f133 (by decide +kernel) dX7_told_81 (fun x8 => ?_)
      exact or_iretR C dX7_told_84
    refine or_case C (v := (2 : Int32)) 2 85 dX7_told_13 (by decide) (by decide) rfl (by decide) ?_ (fun n2 => ?_)
    · refine or_aload_n C 0 rfl dX7_told_85 ?_
      refine or_getI C 2 2 rfl (by decide) rfl (by decide) u_X7_told_2 (by decide) k_X7_told_f136 (by decide +kernel) dX7_told_86 (fun x9 => ?_)
      exact or_iretR C dX7_told_89
    refine or_case C (v := (3 : Int32)) 3 90 dX7_told_13 (by decide) (by decide) rfl (by decide) ?_ (fun n3 => ?_)
    · refine or_aload_n C 0 rfl dX7_told_90 ?_
      refine or_getI C 2 4 rfl (by decide) rfl (by decide) u_X7_told_2 (by decide) k_X7_told_f116 (by decide +kernel) dX7_told_91 (fun x10 => ?_)
      exact or_iretR C dX7_told_94
    refine or_case C (v := (4 : Int32)) 4 95 dX7_told_13 (by decide) (by decide) rfl (by decide) ?_ (fun n4 => ?_)
    · refine or_aload_n C 0 rfl dX7_told_95 ?_
      refine or_getI C 2 5 rfl (by decide) rfl (by decide) u_X7_told_2 (by decide) k_X7_told_f120 (by decide +kernel) dX7_told_96 (fun x11 => ?_)
      exact or_iretR C dX7_told_99
    refine or_case C (v := (5 : Int32)) 5 100 dX7_told_13 (by decide) (by decide) rfl (by decide) ?_ (fun n5 => ?_)
    · refine or_aload_n C 0 rfl dX7_told_100 ?_
      refine or_getI C 2 6 rfl (by decide) rfl (by decide) u_X7_told_2 (by decide) k_X7_told_f123 (by decide +kernel) dX7_told_101 (fun x12 => ?_)
      exact or_iretR C dX7_told_104
    refine or_case C (v := (6 : Int32)) 6 105 dX7_told_13 (by decide) (by decide) rfl (by decide) ?_ (fun n6 => ?_)
    · refine or_aload_n C 0 rfl dX7_told_105 ?_
      refine or_getI C 2 7 rfl (by decide) rfl (by decide) u_X7_told_2 (by decide) k_X7_told_f126 (by decide +kernel) dX7_told_106 (fun x13 => ?_)
      exact or_iretR C dX7_told_109
    refine or_case C (v := (7 : Int32)) 7 110 dX7_told_13 (by decide) (by decide) rfl (by decide) ?_ (fun n7 => ?_)
    · refine or_aload_n C 0 rfl dX7_told_110 ?_
      refine or_getI C 2 8 rfl (by decide) rfl (by decide) u_X7_told_2 (by decide) k_X7_told_f139 (by decide +kernel) dX7_told_111 (fun x14 => ?_)
      exact or_iretR C dX7_told_114
    refine or_case C (v := (8 : Int32)) 8 115 dX7_told_13 (by decide) (by decide) rfl (by decide) ?_ (fun n8 => ?_)
    · refine or_aload_n C 0 rfl dX7_told_115 ?_
      refine or_getI C 2 9 rfl (by decide) rfl (by decide) u_X7_told_2 (by decide) k_X7_told_f142 (by decide +kernel) dX7_told_116 (fun x15 => ?_)
      exact or_iretR C dX7_told_119
    refine or_case C (v := (9 : Int32)) 9 120 dX7_told_13 (by decide) (by decide) rfl (by decide) ?_ (fun n9 => ?_)
    · refine or_aload_n C 0 rfl dX7_told_120 ?_
      refine or_getI C 2 10 rfl (by decide) rfl (by decide) u_X7_told_2 (by decide) k_X7_told_f145 (by decide +kernel) dX7_told_121 (fun x16 => ?_)
      exact or_iretR C dX7_told_124
    refine or_case C (v := (10 : Int32)) 10 125 dX7_told_13 (by decide) (by decide) rfl (by decide) ?_ (fun n10 => ?_)
    · refine or_aload_n C 0 rfl dX7_told_125 ?_
      refine oj_rc (fun o17 e19 q18 => ?_)
      refine oj_bind (fun p20 z21 => ?_)
      refine oj_v (P := oh_V G 0 0 h 129 [(3, xr x5), (0, xr (some o)), (1, xi v1), (2, xi v2)] [xi p20]) (fun k => or_callV C 0 hl (m_X2_isPressedWithOthers _ h o17 p20 z21) gX7_told_X2_isPressedWithOthers rfl rfl rfl (by decide +kernel) ⟨Nat.le_of_ble_eq_true rfl, Nat.le_of_ble_eq_true rfl⟩ q18 rfl (by decide) (Nat.le_of_ble_eq_true rfl) dX7_told_126 ⟨Nat.le_of_ble_eq_true rfl, Nat.le_of_ble_eq_true rfl⟩ rfl (by rw [e19]; rfl) k) ?_
      refine oj_bind (fun p22 z23 => ?_)
      refine oj_v (P := oh_V G 0 0 h 132 [(3, xr x5), (0, xr (some o)), (1, xi v1), (2, xi v2)] [xi p22]) (fun k => or_callS C 1 hl (m_X7_asNumber _ h p20 p22 z23) gX7_told_X7_asNumber rfl rfl rfl (by decide +kernel) ⟨Nat.le_of_ble_eq_true rfl, Nat.le_of_ble_eq_true rfl⟩ (Nat.le_of_ble_eq_true rfl) dX7_told_129 ⟨Nat.le_of_ble_eq_true rfl, Nat.le_of_ble_eq_true rfl⟩ rfl rfl k) ?_
      exact or_iretR C dX7_told_132
    refine or_dflt C 133 dX7_told_13 (by omega) (by decide) ?_
    refine or_iconst C (v := (-1 : Int32)) dX7_told_133 (by decide) ?_
    exact or_iretR C dX7_told_134
theorem m_X7_told (l : Launch) (h : oh_H) (o : Nat) (v1 : Int32) (v2 : Int32) (p : Int32) (hf : f_X7_told h o v1 v2 = some p) : oh_M l yX7_told wsX7_told rmX7_told 0 0 [xr (some o), xi v1, xi v2] h (some (xi p)) h :=
  oh_met (cc := cX7_told) (maxL := 4) (ret := (some .int)) (by decide) rfl (Nat.le_of_ble_eq_true rfl) (fun G C hl hN E => w_X7_told_0 C hl h o v1 v2 p hf E)
/-! X7_findMill -/
theorem k_X7_findMill_f23 : Cond.fieldLink RX7 23 "OilPress" "mills" "[LOilPress$Mill;" ∈ wsX7_findMill := List.mem_of_getElem? (i := 1) (by decide +kernel)
theorem u_X7_findMill_7 : ∀ w ∈ u_ws RX7 TX7 14, w ∈ wsX7_findMill := fun w h => List.mem_cons_of_mem _ (List.mem_append_right _ (h))
abbrev rmX7_findMill : Room := { frames := 1, cells := 0, slots := 0, locals := 22 }
def f_X7_findMill_19 (h : oh_H) (o : Nat) (s0 : Option Nat) : Option (Option Nat) :=
  some s0
def f_X7_findMill (h : oh_H) (o : Nat) (v1 : Int32) : Option (Option Nat) :=
  (f_X7_isWithin h v1 (0 : Int32) (2 : Int32)).bind fun p1 => if p1 = 0 then (f_X7_findMill_19 h o none) else ((oh_gR h (some o) 450).bind fun x3 => (oh_aR h x3 25 v1).bind fun x4 => f_X7_findMill_19 h o x4)
set_option maxHeartbeats 4000000 in
set_option maxRecDepth 100000 in
theorem w_X7_findMill_19 {G : oh_G} {l : Launch} (C : oh_C G cX7_findMill wsX7_findMill RX7 rmX7_findMill 2) (hl : G.1.2.1 = l) (h : oh_H) (o : Nat) (s0 : Option Nat) : oh_J (oh_TR h xr (some (.object "OilPress$Mill")) G) (f_X7_findMill_19 h o s0) (oh_V G 0 0 h 19 [] [xr s0]) := by
  unfold f_X7_findMill_19
  exact or_aretR C dX7_findMill_19
set_option maxHeartbeats 4000000 in
set_option maxRecDepth 100000 in
theorem w_X7_findMill_0 {G : oh_G} {l : Launch} (C : oh_C G cX7_findMill wsX7_findMill RX7 rmX7_findMill 2) (hl : G.1.2.1 = l) (h : oh_H) (o : Nat) (v1 : Int32) : oh_J (oh_TR h xr (some (.object "OilPress$Mill")) G) (f_X7_findMill h o v1) (oh_V G 0 0 h 0 [(0, xr (some o)), (1, xi v1)] []) := by
  unfold f_X7_findMill
  refine or_iload_n C 1 rfl dX7_findMill_0 ?_
  refine or_iconst C (v := (0 : Int32)) dX7_findMill_1 (by decide) ?_
  refine or_iconst C (v := (2 : Int32)) dX7_findMill_2 (by decide) ?_
  refine oj_bind (fun p1 z2 => ?_)
  refine oj_v (P := oh_V G 0 0 h 6 [(0, xr (some o)), (1, xi v1)] [xi p1]) (fun k => or_callS C 3 hl (m_X7_isWithin _ h v1 (0 : Int32) (2 : Int32) p1 z2) gX7_findMill_X7_isWithin rfl rfl rfl (by decide +kernel) ⟨Nat.le_of_ble_eq_true rfl, Nat.le_of_ble_eq_true rfl⟩ (Nat.le_of_ble_eq_true rfl) dX7_findMill_3 ⟨Nat.le_of_ble_eq_true rfl, Nat.le_of_ble_eq_true rfl⟩ rfl rfl k) ?_
  refine or_if_eq C 18 dX7_findMill_6 (by decide) ?_ ?_
  · refine or_null C dX7_findMill_18 ?_
    refine or_sub [] rfl ?_
    exact w_X7_findMill_19 C hl h o none
  · refine or_aload_n C 0 rfl dX7_findMill_9 ?_
    refine or_getR C 7 2 rfl (by decide) rfl (by decide) u_X7_findMill_7 (by decide) k_X7_findMill_f23 (by decide +kernel) dX7_findMill_10 (fun x3 => ?_)
    refine or_iload_n C 1 rfl dX7_findMill_13 ?_
    refine or_aald C 5 (fun _ => rfl) (by decide) rfl dX7_findMill_14 (fun x4 => ?_)
    refine or_goto C 19 dX7_findMill_15 (by decide) ?_
    refine or_sub [] rfl ?_
    exact w_X7_findMill_19 C hl h o x4
theorem m_X7_findMill (l : Launch) (h : oh_H) (o : Nat) (v1 : Int32) (p : Option Nat) (hf : f_X7_findMill h o v1 = some p) : oh_M l yX7_findMill wsX7_findMill rmX7_findMill 0 0 [xr (some o), xi v1] h (some (xr p)) h :=
  oh_met (cc := cX7_findMill) (maxL := 2) (ret := (some (.object "OilPress$Mill"))) (by decide) rfl (Nat.le_of_ble_eq_true rfl) (fun G C hl hN E => w_X7_findMill_0 C hl h o v1 p hf E)
/-! X7_mill -/
theorem k_X7_mill_f159 : Cond.fieldLink RX7 159 "OilPress$Mill" "size" "I" ∈ wsX7_mill := List.mem_of_getElem? (i := 1) (by decide +kernel)
theorem u_X7_mill_3 : ∀ w ∈ u_ws RX3 TX3 14, w ∈ wsX7_mill := fun w h => List.mem_cons_of_mem _ (List.mem_append_left _ (List.mem_append_right _ (h)))
theorem k_X7_mill_f162 : Cond.fieldLink RX7 162 "OilPress$Mill" "least" "I" ∈ wsX7_mill := List.mem_of_getElem? (i := 2) (by decide +kernel)
theorem k_X7_mill_f165 : Cond.fieldLink RX7 165 "OilPress$Mill" "rate" "I" ∈ wsX7_mill := List.mem_of_getElem? (i := 3) (by decide +kernel)
abbrev rmX7_mill : Room := { frames := 2, cells := 0, slots := 0, locals := 43 }
def f_X7_mill_20 (h : oh_H) (o : Nat) : Option (Int32 × oh_H) :=
  oh_bz (0 : Int32) (some ((0 : Int32), h))
def f_X7_mill_44 (h : oh_H) (o : Nat) : Option (Int32 × oh_H) :=
  oh_bz (0 : Int32) (some ((0 : Int32), h))
def f_X7_mill (h : oh_H) (o : Nat) (v1 : Int32) (v2 : Int32) (v3 : Int32) : Option (Int32 × oh_H) :=
  oh_rc h (some o) 8 fun o2 => (f_X7_findMill h o2 v1).bind fun p3 => oh_lt p3 fun x5 => if x5 = none then (f_X7_mill_20 h o) else ((oh_gI h x5 195).bind fun x6 => if x6 ≤ 0 then ((f_X7_isWithin h v2 (0 : Int32) (20000 : Int32)).bind fun p7 => if p7 = 0 then (f_X7_mill_44 h o) else ((f_X7_isWithin h v3 (1 : Int32) (5000 : Int32)).bind fun p9 => if p9 = 0 then (f_X7_mill_44 h o) else ((oh_pI h x5 196 v2).bind fun h11 => (oh_pI h11 x5 197 v3).bind fun h12 => oh_bz (1 : Int32) (some ((1 : Int32), h12))))) else (f_X7_mill_20 h o))
set_option maxHeartbeats 4000000 in
set_option maxRecDepth 100000 in
theorem w_X7_mill_20 {G : oh_G} {l : Launch} (C : oh_C G cX7_mill wsX7_mill RX7 rmX7_mill 5) (hl : G.1.2.1 = l) (h0 : oh_H) (h : oh_H) (o : Nat) : oh_J (oh_TW h0 xi 0 0 (some .boolean) G) (f_X7_mill_20 h o) (oh_V G 0 0 h 20 [] []) := by
  unfold f_X7_mill_20
  refine or_iconst C (v := (0 : Int32)) dX7_mill_20 (by decide) ?_
  exact or_zret C ⟨Nat.le_of_ble_eq_true rfl, Nat.le_of_ble_eq_true rfl⟩ dX7_mill_21
set_option maxHeartbeats 4000000 in
set_option maxRecDepth 100000 in
theorem w_X7_mill_44 {G : oh_G} {l : Launch} (C : oh_C G cX7_mill wsX7_mill RX7 rmX7_mill 5) (hl : G.1.2.1 = l) (h0 : oh_H) (h : oh_H) (o : Nat) : oh_J (oh_TW h0 xi 0 0 (some .boolean) G) (f_X7_mill_44 h o) (oh_V G 0 0 h 44 [] []) := by
  unfold f_X7_mill_44
  refine or_iconst C (v := (0 : Int32)) dX7_mill_44 (by decide) ?_
  exact or_zret C ⟨Nat.le_of_ble_eq_true rfl, Nat.le_of_ble_eq_true rfl⟩ dX7_mill_45
set_option maxHeartbeats 4000000 in
set_option maxRecDepth 100000 in
theorem w_X7_mill_0 {G : oh_G} {l : Launch} (C : oh_C G cX7_mill wsX7_mill RX7 rmX7_mill 5) (hl : G.1.2.1 = l) (h0 : oh_H) (h : oh_H) (o : Nat) (v1 : Int32) (v2 : Int32) (v3 : Int32) : oh_J (oh_TW h0 xi 0 0 (some .boolean) G) (f_X7_mill h o v1 v2 v3) (oh_V G 0 0 h 0 [(0, xr (some o)), (1, xi v1), (2, xi v2), (3, xi v3)] []) := by
  unfold f_X7_mill
  refine or_aload_n C 0 rfl dX7_mill_0 ?_
  refine or_iload_n C 1 rfl dX7_mill_1 ?_
  refine oj_rcs (fun q1 => ?_)
  refine oj_bind (fun p3 z4 => ?_)
  refine oj_v (P := oh_V G 0 0 h 5 [(0, xr (some o)), (1, xi v1), (2, xi v2), (3, xi v3)] [xr p3]) (fun k => or_callV C 1 hl (m_X7_findMill _ h o v1 p3 z4) gX7_mill_X7_findMill rfl rfl rfl (by decide +kernel) ⟨Nat.le_of_ble_eq_true rfl, Nat.le_of_ble_eq_true rfl⟩ q1 rfl (by decide) (Nat.le_of_ble_eq_true rfl) dX7_mill_2 ⟨Nat.le_of_ble_eq_true rfl, Nat.le_of_ble_eq_true rfl⟩ rfl rfl k) ?_
  refine or_astore C (fun x5 => [(4, xr x5), (0, xr (some o)), (1, xi v1), (2, xi v2), (3, xi v3)]) (fun _ => rfl) (by decide) dX7_mill_5 (fun x5 => ?_)
  refine or_aload C 0 rfl dX7_mill_7 ?_
  refine or_ifnull C 20 dX7_mill_9 (by decide) ?_ ?_
  · refine or_sub [] rfl ?_
    exact w_X7_mill_20 C hl h0 h o
  · refine or_aload C 0 rfl dX7_mill_12 ?_
    refine or_getI C 3 3 rfl (by decide) rfl (by decide) u_X7_mill_3 (by decide) k_X7_mill_f159 (by decide +kernel) dX7_mill_14 (fun x6 => ?_)
    refine or_if_le C 22 dX7_mill_17 (by decide) ?_ ?_
    · refine or_iload_n C 3 rfl dX7_mill_22 ?_
      refine or_iconst C (v := (0 : Int32)) dX7_mill_23 (by decide) ?_
      refine or_sipush C (v := (20000 : Int32)) dX7_mill_24 (by decide) ?_
      refine oj_bind (fun p7 z8 => ?_)
      refine oj_v (P := oh_V G 0 0 h 30 [(4, xr x5), (0, xr (some o)), (1, xi v1), (2, xi v2), (3, xi v3)] [xi p7]) (fun k => or_callS C 3 hl (m_X7_isWithin _ h v2 (0 : Int32) (20000 : Int32) p7 z8) gX7_mill_X7_isWithin rfl rfl rfl (by decide +kernel) ⟨Nat.le_of_ble_eq_true rfl, Nat.le_of_ble_eq_true rfl⟩ (Nat.le_of_ble_eq_true rfl) dX7_mill_27 ⟨Nat.le_of_ble_eq_true rfl, Nat.le_of_ble_eq_true rfl⟩ rfl rfl k) ?_
      refine or_if_eq C 44 dX7_mill_30 (by decide) ?_ ?_
      · refine or_sub [] rfl ?_
        exact w_X7_mill_44 C hl h0 h o
      · refine or_iload_n C 4 rfl dX7_mill_33 ?_
        refine or_iconst C (v := (1 : Int32)) dX7_mill_34 (by decide) ?_
        refine or_sipush C (v := (5000 : Int32)) dX7_mill_35 (by decide) ?_
        refine oj_bind (fun p9 z10 => ?_)
        refine oj_v (P := oh_V G 0 0 h 41 [(4, xr x5), (0, xr (some o)), (1, xi v1), (2, xi v2), (3, xi v3)] [xi p9]) (fun k => or_callS C 3 hl (m_X7_isWithin _ h v3 (1 : Int32) (5000 : Int32) p9 z10) gX7_mill_X7_isWithin rfl rfl rfl (by decide +kernel) ⟨Nat.le_of_ble_eq_true rfl, Nat.le_of_ble_eq_true rfl⟩ (Nat.le_of_ble_eq_true rfl) dX7_mill_38 ⟨Nat.le_of_ble_eq_true rfl, Nat.le_of_ble_eq_true rfl⟩ rfl rfl k) ?_
        refine or_if_ne C 46 dX7_mill_41 (by decide) ?_ ?_
        · refine or_sub [] rfl ?_
          exact w_X7_mill_44 C hl h0 h o
        · refine or_aload C 0 rfl dX7_mill_46 ?_
          refine or_iload_n C 3 rfl dX7_mill_48 ?_
          refine or_putI C 3 4 rfl (by decide) rfl (by decide) u_X7_mill_3 tyX3 tyX3_ok nmX3 (by decide) k_X7_mill_f162 (Or.inl rfl) (by decide +kernel) rfl dX7_mill_49 (fun h11 => ?_)
          refine or_aload C 0 rfl dX7_mill_52 ?_
          refine or_iload_n C 4 rfl dX7_mill_54 ?_
          refine or_putI C 3 5 rfl (by decide) rfl (by decide) u_X7_mill_3 tyX3 tyX3_ok nmX3 (by decide) k_X7_mill_f165 (Or.inl rfl) (by decide +kernel) rfl dX7_mill_55 (fun h12 => ?_)
          refine or_iconst C (v := (1 : Int32)) dX7_mill_58 (by decide) ?_
          exact or_zret C ⟨Nat.le_of_ble_eq_true rfl, Nat.le_of_ble_eq_true rfl⟩ dX7_mill_59
    · refine or_sub [] rfl ?_
      exact w_X7_mill_20 C hl h0 h o
theorem m_X7_mill (l : Launch) (h : oh_H) (o : Nat) (v1 : Int32) (v2 : Int32) (v3 : Int32) (p : Int32 × oh_H) (hf : f_X7_mill h o v1 v2 v3 = some p) : oh_M l yX7_mill wsX7_mill rmX7_mill 0 0 [xr (some o), xi v1, xi v2, xi v3] h (some (xi p.1)) p.2 :=
  oh_met (cc := cX7_mill) (maxL := 5) (ret := (some .boolean)) (by decide) rfl (Nat.le_of_ble_eq_true rfl) (fun G C hl hN E => w_X7_mill_0 C hl h h o v1 v2 v3 p hf E)
/-! X7_put -/
theorem k_X7_put_f116 : Cond.fieldLink RX7 116 "OilPress$Lot" "state" "I" ∈ wsX7_put := List.mem_of_getElem? (i := 1) (by decide +kernel)
theorem u_X7_put_2 : ∀ w ∈ u_ws RX2 TX2 12, w ∈ wsX7_put := fun w h => List.mem_cons_of_mem _ (List.mem_append_left _ (List.mem_append_left _ (List.mem_append_left _ (List.mem_append_right _ (h)))))
theorem k_X7_put_f159 : Cond.fieldLink RX7 159 "OilPress$Mill" "size" "I" ∈ wsX7_put := List.mem_of_getElem? (i := 2) (by decide +kernel)
theorem u_X7_put_3 : ∀ w ∈ u_ws RX3 TX3 14, w ∈ wsX7_put := fun w h => List.mem_cons_of_mem _ (List.mem_append_left _ (List.mem_append_left _ (List.mem_append_right _ (h))))
abbrev rmX7_put : Room := { frames := 3, cells := 0, slots := 0, locals := 66 }
def f_X7_put_39 (h : oh_H) (o : Nat) : Option (Int32 × oh_H) :=
  some ((-1 : Int32), h)
def f_X7_put (h : oh_H) (o : Nat) (v1 : Int32) (v2 : Int32) : Option (Int32 × oh_H) :=
  oh_rc h (some o) 8 fun o2 => (f_X7_findLot h o2 v1).bind fun p3 => oh_lt p3 fun x5 => oh_rc h (some o) 8 fun o7 => (f_X7_findMill h o7 v2).bind fun p8 => oh_lt p8 fun x10 => if x5 = none then (f_X7_put_39 h o) else (if x10 = none then (f_X7_put_39 h o) else ((oh_gI h x5 132).bind fun x11 => if x11 = (2 : Int32) then (oh_rc h x10 4 fun o12 => (f_X3_admits h o12 x5).bind fun p15 => if p15 = 0 then (f_X7_put_39 h o) else (oh_rc h x10 4 fun o17 => (f_X3_add h o17 x5).bind fun p20 => (oh_gI p20 x10 195).bind fun x22 => some (x22, p20))) else (f_X7_put_39 h o)))
set_option maxHeartbeats 4000000 in
set_option maxRecDepth 100000 in
theorem w_X7_put_39 {G : oh_G} {l : Launch} (C : oh_C G cX7_put wsX7_put RX7 rmX7_put 5) (hl : G.1.2.1 = l) (h0 : oh_H) (h : oh_H) (o : Nat) : oh_J (oh_TW h0 xi 0 0 (some .int) G) (f_X7_put_39 h o) (oh_V G 0 0 h 39 [] []) := by
  unfold f_X7_put_39
  refine or_iconst C (v := (-1 : Int32)) dX7_put_39 (by decide) ?_
  exact or_iret C ⟨Nat.le_of_ble_eq_true rfl, Nat.le_of_ble_eq_true rfl⟩ dX7_put_40
set_option maxHeartbeats 4000000 in
set_option maxRecDepth 100000 in
theorem w_X7_put_0 {G : oh_G} {l : Launch} (C : oh_C G cX7_put wsX7_put RX7 rmX7_put 5) (hl : G.1.2.1 = l) (h0 : oh_H) (h : oh_H) (o : Nat) (v1 : Int32) (v2 : Int32) : oh_J (oh_TW h0 xi 0 0 (some .int) G) (f_X7_put h o v1 v2) (oh_V G 0 0 h 0 [(0, xr (some o)), (1, xi v1), (2, xi v2)] []) := by
  unfold f_X7_put
  refine or_aload_n C 0 rfl dX7_put_0 ?_
  refine or_iload_n C 1 rfl dX7_put_1 ?_
  refine oj_rcs (fun q1 => ?_)
  refine oj_bind (fun p3 z4 => ?_)
  refine oj_v (P := oh_V G 0 0 h 5 [(0, xr (some o)), (1, xi v1), (2, xi v2)] [xr p3]) (fun k => or_callV C 1 hl (m_X7_findLot _ h o v1 p3 z4) gX7_put_X7_findLot rfl rfl rfl (by decide +kernel) ⟨Nat.le_of_ble_eq_true rfl, Nat.le_of_ble_eq_true rfl⟩ q1 rfl (by decide) (Nat.le_of_ble_eq_true rfl) dX7_put_2 ⟨Nat.le_of_ble_eq_true rfl, Nat.le_of_ble_eq_true rfl⟩ rfl rfl k) ?_
  refine or_astore_n C (fun x5 => [(3, xr x5), (0, xr (some o)), (1, xi v1), (2, xi v2)]) (fun _ => rfl) (by decide) dX7_put_5 (fun x5 => ?_)
  refine or_aload_n C 1 rfl dX7_put_6 ?_
  refine or_iload_n C 3 rfl dX7_put_7 ?_
  refine oj_rcs (fun q6 => ?_)
  refine oj_bind (fun p8 z9 => ?_)
  refine oj_v (P := oh_V G 0 0 h 11 [(3, xr x5), (0, xr (some o)), (1, xi v1), (2, xi v2)] [xr p8]) (fun k => or_callV C 1 hl (m_X7_findMill _ h o v2 p8 z9) gX7_put_X7_findMill rfl rfl rfl (by decide +kernel) ⟨Nat.le_of_ble_eq_true rfl, Nat.le_of_ble_eq_true rfl⟩ q6 rfl (by decide) (Nat.le_of_ble_eq_true rfl) dX7_put_8 ⟨Nat.le_of_ble_eq_true rfl, Nat.le_of_ble_eq_true rfl⟩ rfl rfl k) ?_
  refine or_astore C (fun x10 => [(4, xr x10), (3, xr x5), (0, xr (some o)), (1, xi v1), (2, xi v2)]) (fun _ => rfl) (by decide) dX7_put_11 (fun x10 => ?_)
  refine or_aload_n C 1 rfl dX7_put_13 ?_
  refine or_ifnull C 39 dX7_put_14 (by decide) ?_ ?_
  · refine or_sub [] rfl ?_
    exact w_X7_put_39 C hl h0 h o
  · refine or_aload C 0 rfl dX7_put_17 ?_
    refine or_ifnull C 39 dX7_put_19 (by decide) ?_ ?_
    · refine or_sub [] rfl ?_
      exact w_X7_put_39 C hl h0 h o
    · refine or_aload_n C 1 rfl dX7_put_22 ?_
      refine or_getI C 2 4 rfl (by decide) rfl (by decide) u_X7_put_2 (by decide) k_X7_put_f116 (by decide +kernel) dX7_put_23 (fun x11 => ?_)
      refine or_iconst C (v := (2 : Int32)) dX7_put_26 (by decide) ?_
      refine or_icmp_ne C 39 dX7_put_27 (by decide) ?_ ?_
      · refine or_aload C 0 rfl dX7_put_30 ?_
        refine or_aload_n C 1 rfl dX7_put_32 ?_
        refine oj_rc (fun o12 e14 q13 => ?_)
        refine oj_bind (fun p15 z16 => ?_)
        refine oj_v (P := oh_V G 0 0 h 36 [(4, xr x10), (3, xr x5), (0, xr (some o)), (1, xi v1), (2, xi v2)] [xi p15]) (fun k => or_callV C 1 hl (m_X3_admits _ h o12 x5 p15 z16) gX7_put_X3_admits rfl rfl rfl (by decide +kernel) ⟨Nat.le_of_ble_eq_true rfl, Nat.le_of_ble_eq_true rfl⟩ q13 rfl (by decide) (Nat.le_of_ble_eq_true rfl) dX7_put_33 ⟨Nat.le_of_ble_eq_true rfl, Nat.le_of_ble_eq_true rfl⟩ rfl (by rw [e14]; rfl) k) ?_
        refine or_if_ne C 41 dX7_put_36 (by decide) ?_ ?_
        · refine or_sub [] rfl ?_
          exact w_X7_put_39 C hl h0 h o
        · refine or_aload C 0 rfl dX7_put_41 ?_
          refine or_aload_n C 1 rfl dX7_put_43 ?_
          refine oj_rc (fun o17 e19 q18 => ?_)
          refine oj_bind (fun p20 z21 => ?_)
          refine oj_v (P := oh_V G 0 0 p20 47 [(4, xr x10), (3, xr x5), (0, xr (some o)), (1, xi v1), (2, xi v2)] []) (fun k => or_callV C 1 hl (m_X3_add _ h o17 x5 p20 z21) gX7_put_X3_add rfl rfl rfl (by decide +kernel) ⟨Nat.le_of_ble_eq_true rfl, Nat.le_of_ble_eq_true rfl⟩ q18 rfl (by decide) (Nat.le_of_ble_eq_true rfl) dX7_put_44 ⟨Nat.le_of_ble_eq_true rfl, Nat.le_of_ble_eq_true rfl⟩ rfl (by rw [e19]; rfl) k) ?_
          refine or_aload C 0 rfl dX7_put_47 ?_
          refine or_getI C 3 3 rfl (by decide) rfl (by decide) u_X7_put_3 (by decide) k_X7_put_f159 (by decide +kernel) dX7_put_49 (fun x22 => ?_)
          exact or_iret C ⟨Nat.le_of_ble_eq_true rfl, Nat.le_of_ble_eq_true rfl⟩ dX7_put_52
      · refine or_sub [] rfl ?_
        exact w_X7_put_39 C hl h0 h o
theorem m_X7_put (l : Launch) (h : oh_H) (o : Nat) (v1 : Int32) (v2 : Int32) (p : Int32 × oh_H) (hf : f_X7_put h o v1 v2 = some p) : oh_M l yX7_put wsX7_put rmX7_put 0 0 [xr (some o), xi v1, xi v2] h (some (xi p.1)) p.2 :=
  oh_met (cc := cX7_put) (maxL := 5) (ret := (some .int)) (by decide) rfl (Nat.le_of_ble_eq_true rfl) (fun G C hl hN E => w_X7_put_0 C hl h h o v1 v2 p hf E)
/-! X7_take -/
theorem k_X7_take_f116 : Cond.fieldLink RX7 116 "OilPress$Lot" "state" "I" ∈ wsX7_take := List.mem_of_getElem? (i := 1) (by decide +kernel)
theorem u_X7_take_2 : ∀ w ∈ u_ws RX2 TX2 12, w ∈ wsX7_take := fun w h => List.mem_cons_of_mem _ (List.mem_append_left _ (List.mem_append_left _ (List.mem_append_right _ (h))))
theorem k_X7_take_f145 : Cond.fieldLink RX7 145 "OilPress$Lot" "place" "I" ∈ wsX7_take := List.mem_of_getElem? (i := 2) (by decide +kernel)
theorem k_X7_take_f176 : Cond.fieldLink RX7 176 "OilPress$Mill" "isPressing" "Z" ∈ wsX7_take := List.mem_of_getElem? (i := 3) (by decide +kernel)
theorem u_X7_take_3 : ∀ w ∈ u_ws RX3 TX3 14, w ∈ wsX7_take := fun w h => List.mem_cons_of_mem _ (List.mem_append_left _ (List.mem_append_right _ (h)))
abbrev rmX7_take : Room := { frames := 2, cells := 0, slots := 0, locals := 43 }
def f_X7_take_18 (h : oh_H) (o : Nat) : Option (Int32 × oh_H) :=
  oh_bz (0 : Int32) (some ((0 : Int32), h))
def f_X7_take_40 (h : oh_H) (o : Nat) : Option (Int32 × oh_H) :=
  oh_bz (0 : Int32) (some ((0 : Int32), h))
def f_X7_take (h : oh_H) (o : Nat) (v1 : Int32) : Option (Int32 × oh_H) :=
  oh_rc h (some o) 8 fun o2 => (f_X7_findLot h o2 v1).bind fun p3 => oh_lt p3 fun x5 => if x5 = none then (f_X7_take_18 h o) else ((oh_gI h x5 132).bind fun x6 => if x6 = (3 : Int32) then ((oh_gI h x5 138).bind fun x7 => oh_rc h (some o) 8 fun o9 => (f_X7_findMill h o9 x7).bind fun p10 => oh_lt p10 fun x12 => if x12 = none then (f_X7_take_40 h o) else ((oh_gI h x12 201).bind fun x13 => if x13 = 0 then (oh_rc h x12 4 fun o14 => (f_X3_remove h o14 x5).bind fun p17 => oh_bz (1 : Int32) (some ((1 : Int32), p17))) else (f_X7_take_40 h o))) else (f_X7_take_18 h o))
set_option maxHeartbeats 4000000 in
set_option maxRecDepth 100000 in
theorem w_X7_take_18 {G : oh_G} {l : Launch} (C : oh_C G cX7_take wsX7_take RX7 rmX7_take 4) (hl : G.1.2.1 = l) (h0 : oh_H) (h : oh_H) (o : Nat) : oh_J (oh_TW h0 xi 0 0 (some .boolean) G) (f_X7_take_18 h o) (oh_V G 0 0 h 18 [] []) := by
  unfold f_X7_take_18
  refine or_iconst C (v := (0 : Int32)) dX7_take_18 (by decide) ?_
  exact or_zret C ⟨Nat.le_of_ble_eq_true rfl, Nat.le_of_ble_eq_true rfl⟩ dX7_take_19
set_option maxHeartbeats 4000000 in
set_option maxRecDepth 100000 in
theorem w_X7_take_40 {G : oh_G} {l : Launch} (C : oh_C G cX7_take wsX7_take RX7 rmX7_take 4) (hl : G.1.2.1 = l) (h0 : oh_H) (h : oh_H) (o : Nat) : oh_J (oh_TW h0 xi 0 0 (some .boolean) G) (f_X7_take_40 h o) (oh_V G 0 0 h 40 [] []) := by
  unfold f_X7_take_40
  refine or_iconst C (v := (0 : Int32)) dX7_take_40 (by decide) ?_
  exact or_zret C ⟨Nat.le_of_ble_eq_true rfl, Nat.le_of_ble_eq_true rfl⟩ dX7_take_41
set_option maxHeartbeats 4000000 in
set_option maxRecDepth 100000 in
theorem w_X7_take_0 {G : oh_G} {l : Launch} (C : oh_C G cX7_take wsX7_take RX7 rmX7_take 4) (hl : G.1.2.1 = l) (h0 : oh_H) (h : oh_H) (o : Nat) (v1 : Int32) : oh_J (oh_TW h0 xi 0 0 (some .boolean) G) (f_X7_take h o v1) (oh_V G 0 0 h 0 [(0, xr (some o)), (1, xi v1)] []) := by
  unfold f_X7_take
  refine or_aload_n C 0 rfl dX7_take_0 ?_
  refine or_iload_n C 1 rfl dX7_take_1 ?_
  refine oj_rcs (fun q1 => ?_)
  refine oj_bind (fun p3 z4 => ?_)
  refine oj_v (P := oh_V G 0 0 h 5 [(0, xr (some o)), (1, xi v1)] [xr p3]) (fun k => or_callV C 1 hl (m_X7_findLot _ h o v1 p3 z4) gX7_take_X7_findLot rfl rfl rfl (by decide +kernel) ⟨Nat.le_of_ble_eq_true rfl, Nat.le_of_ble_eq_true rfl⟩ q1 rfl (by decide) (Nat.le_of_ble_eq_true rfl) dX7_take_2 ⟨Nat.le_of_ble_eq_true rfl, Nat.le_of_ble_eq_true rfl⟩ rfl rfl k) ?_
  refine or_astore_n C (fun x5 => [(2, xr x5), (0, xr (some o)), (1, xi v1)]) (fun _ => rfl) (by decide) dX7_take_5 (fun x5 => ?_)
  refine or_aload_n C 0 rfl dX7_take_6 ?_
  refine or_ifnull C 18 dX7_take_7 (by decide) ?_ ?_
  · refine or_sub [] rfl ?_
    exact w_X7_take_18 C hl h0 h o
  · refine or_aload_n C 0 rfl dX7_take_10 ?_
    refine or_getI C 2 4 rfl (by decide) rfl (by decide) u_X7_take_2 (by decide) k_X7_take_f116 (by decide +kernel) dX7_take_11 (fun x6 => ?_)
    refine or_iconst C (v := (3 : Int32)) dX7_take_14 (by decide) ?_
    refine or_icmp_eq C 20 dX7_take_15 (by decide) ?_ ?_
    · refine or_aload_n C 1 rfl dX7_take_20 ?_
      refine or_aload_n C 0 rfl dX7_take_21 ?_
      refine or_getI C 2 10 rfl (by decide) rfl (by decide) u_X7_take_2 (by decide) k_X7_take_f145 (by decide +kernel) dX7_take_22 (fun x7 => ?_)
      refine oj_rcs (fun q8 => ?_)
      refine oj_bind (fun p10 z11 => ?_)
      refine oj_v (P := oh_V G 0 0 h 28 [(2, xr x5), (0, xr (some o)), (1, xi v1)] [xr p10]) (fun k => or_callV C 1 hl (m_X7_findMill _ h o x7 p10 z11) gX7_take_X7_findMill rfl rfl rfl (by decide +kernel) ⟨Nat.le_of_ble_eq_true rfl, Nat.le_of_ble_eq_true rfl⟩ q8 rfl (by decide) (Nat.le_of_ble_eq_true rfl) dX7_take_25 ⟨Nat.le_of_ble_eq_true rfl, Nat.le_of_ble_eq_true rfl⟩ rfl rfl k) ?_
      refine or_astore_n C (fun x12 => [(3, xr x12), (2, xr x5), (0, xr (some o)), (1, xi v1)]) (fun _ => rfl) (by decide) dX7_take_28 (fun x12 => ?_)
      refine or_aload_n C 0 rfl dX7_take_29 ?_
      refine or_ifnull C 40 dX7_take_30 (by decide) ?_ ?_
      · refine or_sub [] rfl ?_
        exact w_X7_take_40 C hl h0 h o
      · refine or_aload_n C 0 rfl dX7_take_33 ?_
        refine or_getI C 3 9 rfl (by decide) rfl (by decide) u_X7_take_3 (by decide) k_X7_take_f176 (by decide +kernel) dX7_take_34 (fun x13 => ?_)
        refine or_if_eq C 42 dX7_take_37 (by decide) ?_ ?_
        · refine or_aload_n C 0 rfl dX7_take_42 ?_
          refine or_aload_n C 1 rfl dX7_take_43 ?_
          refine oj_rc (fun o14 e16 q15 => ?_)
          refine oj_bind (fun p17 z18 => ?_)
          refine oj_v (P := oh_V G 0 0 p17 47 [(3, xr x12), (2, xr x5), (0, xr (some o)), (1, xi v1)] []) (fun k => or_callV C 1 hl (m_X3_remove _ h o14 x5 p17 z18) gX7_take_X3_remove rfl rfl rfl (by decide +kernel) ⟨Nat.le_of_ble_eq_true rfl, Nat.le_of_ble_eq_true rfl⟩ q15 rfl (by decide) (Nat.le_of_ble_eq_true rfl) dX7_take_44 ⟨Nat.le_of_ble_eq_true rfl, Nat.le_of_ble_eq_true rfl⟩ rfl (by rw [e16]; rfl) k) ?_
          refine or_iconst C (v := (1 : Int32)) dX7_take_47 (by decide) ?_
          exact or_zret C ⟨Nat.le_of_ble_eq_true rfl, Nat.le_of_ble_eq_true rfl⟩ dX7_take_48
        · refine or_sub [] rfl ?_
          exact w_X7_take_40 C hl h0 h o
    · refine or_sub [] rfl ?_
      exact w_X7_take_18 C hl h0 h o
theorem m_X7_take (l : Launch) (h : oh_H) (o : Nat) (v1 : Int32) (p : Int32 × oh_H) (hf : f_X7_take h o v1 = some p) : oh_M l yX7_take wsX7_take rmX7_take 0 0 [xr (some o), xi v1] h (some (xi p.1)) p.2 :=
  oh_met (cc := cX7_take) (maxL := 4) (ret := (some .boolean)) (by decide) rfl (Nat.le_of_ble_eq_true rfl) (fun G C hl hN E => w_X7_take_0 C hl h h o v1 p hf E)
/-! X7_wash -/
theorem k_X7_wash_f159 : Cond.fieldLink RX7 159 "OilPress$Mill" "size" "I" ∈ wsX7_wash := List.mem_of_getElem? (i := 1) (by decide +kernel)
theorem u_X7_wash_3 : ∀ w ∈ u_ws RX3 TX3 14, w ∈ wsX7_wash := fun w h => List.mem_cons_of_mem _ (List.mem_append_left _ (List.mem_append_right _ (h)))
theorem k_X7_wash_f64 : Cond.fieldLink RX7 64 "OilPress" "now" "I" ∈ wsX7_wash := List.mem_of_getElem? (i := 2) (by decide +kernel)
theorem u_X7_wash_7 : ∀ w ∈ u_ws RX7 TX7 14, w ∈ wsX7_wash := fun w h => List.mem_cons_of_mem _ (List.mem_append_right _ (h))
theorem k_X7_wash_f185 : Cond.fieldLink RX7 185 "OilPress$Mill" "busyTill" "I" ∈ wsX7_wash := List.mem_of_getElem? (i := 3) (by decide +kernel)
theorem k_X7_wash_f188 : Cond.fieldLink RX7 188 "OilPress$Mill" "isWashed" "Z" ∈ wsX7_wash := List.mem_of_getElem? (i := 4) (by decide +kernel)
abbrev rmX7_wash : Room := { frames := 2, cells := 0, slots := 0, locals := 43 }
def f_X7_wash_28 (h : oh_H) (o : Nat) : Option (Int32 × oh_H) :=
  oh_bz (0 : Int32) (some ((0 : Int32), h))
def f_X7_wash (h : oh_H) (o : Nat) (v1 : Int32) : Option (Int32 × oh_H) :=
  oh_rc h (some o) 8 fun o2 => (f_X7_findMill h o2 v1).bind fun p3 => oh_lt p3 fun x5 => if x5 = none then (f_X7_wash_28 h o) else ((oh_gI h x5 195).bind fun x6 => if 0 < x6 then (f_X7_wash_28 h o) else ((oh_gI h (some o) 458).bind fun x7 => oh_rc h x5 4 fun o8 => (f_X3_isBusy h o8 x7).bind fun p11 => if p11 = 0 then ((oh_gI h (some o) 458).bind fun x13 => (oh_pI h x5 198 (x13 + (2 : Int32))).bind fun h14 => oh_bz (1 : Int32) ((oh_pI h14 x5 199 (1 : Int32)).bind fun h15 => oh_bz (1 : Int32) (some ((1 : Int32), h15)))) else (f_X7_wash_28 h o)))
set_option maxHeartbeats 4000000 in
set_option maxRecDepth 100000 in
theorem w_X7_wash_28 {G : oh_G} {l : Launch} (C : oh_C G cX7_wash wsX7_wash RX7 rmX7_wash 3) (hl : G.1.2.1 = l) (h0 : oh_H) (h : oh_H) (o : Nat) : oh_J (oh_TW h0 xi 0 0 (some .boolean) G) (f_X7_wash_28 h o) (oh_V G 0 0 h 28 [] []) := by
  unfold f_X7_wash_28
  refine or_iconst C (v := (0 : Int32)) dX7_wash_28 (by decide) ?_
  exact or_zret C ⟨Nat.le_of_ble_eq_true rfl, Nat.le_of_ble_eq_true rfl⟩ dX7_wash_29
set_option maxHeartbeats 4000000 in
set_option maxRecDepth 100000 in
theorem w_X7_wash_0 {G : oh_G} {l : Launch} (C : oh_C G cX7_wash wsX7_wash RX7 rmX7_wash 3) (hl : G.1.2.1 = l) (h0 : oh_H) (h : oh_H) (o : Nat) (v1 : Int32) : oh_J (oh_TW h0 xi 0 0 (some .boolean) G) (f_X7_wash h o v1) (oh_V G 0 0 h 0 [(0, xr (some o)), (1, xi v1)] []) := by
  unfold f_X7_wash
  refine or_aload_n C 0 rfl dX7_wash_0 ?_
  refine or_iload_n C 1 rfl dX7_wash_1 ?_
  refine oj_rcs (fun q1 => ?_)
  refine oj_bind (fun p3 z4 => ?_)
  refine oj_v (P := oh_V G 0 0 h 5 [(0, xr (some o)), (1, xi v1)] [xr p3]) (fun k => or_callV C 1 hl (m_X7_findMill _ h o v1 p3 z4) gX7_wash_X7_findMill rfl rfl rfl (by decide +kernel) ⟨Nat.le_of_ble_eq_true rfl, Nat.le_of_ble_eq_true rfl⟩ q1 rfl (by decide) (Nat.le_of_ble_eq_true rfl) dX7_wash_2 ⟨Nat.le_of_ble_eq_true rfl, Nat.le_of_ble_eq_true rfl⟩ rfl rfl k) ?_
  refine or_astore_n C (fun x5 => [(2, xr x5), (0, xr (some o)), (1, xi v1)]) (fun _ => rfl) (by decide) dX7_wash_5 (fun x5 => ?_)
  refine or_aload_n C 0 rfl dX7_wash_6 ?_
  refine or_ifnull C 28 dX7_wash_7 (by decide) ?_ ?_
  · refine or_sub [] rfl ?_
    exact w_X7_wash_28 C hl h0 h o
  · refine or_aload_n C 0 rfl dX7_wash_10 ?_
    refine or_getI C 3 3 rfl (by decide) rfl (by decide) u_X7_wash_3 (by decide) k_X7_wash_f159 (by decide +kernel) dX7_wash_11 (fun x6 => ?_)
    refine or_if_gt C 28 dX7_wash_14 (by decide) ?_ ?_
    · refine or_sub [] rfl ?_
      exact w_X7_wash_28 C hl h0 h o
    · refine or_aload_n C 0 rfl dX7_wash_17 ?_
      refine or_aload_n C 1 rfl dX7_wash_18 ?_
      refine or_getI C 7 10 rfl (by decide) rfl (by decide) u_X7_wash_7 (by decide) k_X7_wash_f64 (by decide +kernel) dX7_wash_19 (fun x7 => ?_)
      refine oj_rc (fun o8 e10 q9 => ?_)
      refine oj_bind (fun p11 z12 => ?_)
      refine oj_v (P := oh_V G 0 0 h 25 [(2, xr x5), (0, xr (some o)), (1, xi v1)] [xi p11]) (fun k => or_callV C 1 hl (m_X3_isBusy _ h o8 x7 p11 z12) gX7_wash_X3_isBusy rfl rfl rfl (by decide +kernel) ⟨Nat.le_of_ble_eq_true rfl, Nat.le_of_ble_eq_true rfl⟩ q9 rfl (by decide) (Nat.le_of_ble_eq_true rfl) dX7_wash_22 ⟨Nat.le_of_ble_eq_true rfl, Nat.le_of_ble_eq_true rfl⟩ rfl (by rw [e10]; rfl) k) ?_
      refine or_if_eq C 30 dX7_wash_25 (by decide) ?_ ?_
      · refine or_aload_n C 0 rfl dX7_wash_30 ?_
        refine or_aload_n C 1 rfl dX7_wash_31 ?_
        refine or_getI C 7 10 rfl (by decide) rfl (by decide) u_X7_wash_7 (by decide) k_X7_wash_f64 (by decide +kernel) dX7_wash_32 (fun x13 => ?_)
        refine or_iconst C (v := (2 : Int32)) dX7_wash_35 (by decide) ?_
        refine or_iadd C dX7_wash_36 ?_
        refine or_putI C 3 6 rfl (by decide) rfl (by decide) u_X7_wash_3 tyX3 tyX3_ok nmX3 (by decide) k_X7_wash_f185 (Or.inl rfl) (by decide +kernel) rfl dX7_wash_37 (fun h14 => ?_)
        refine or_aload_n C 0 rfl dX7_wash_40 ?_
        refine or_iconst C (v := (1 : Int32)) dX7_wash_41 (by decide) ?_
        refine or_putZ C 3 7 rfl (by decide) rfl (by decide) u_X7_wash_3 tyX3 tyX3_ok nmX3 (by decide) k_X7_wash_f188 (Or.inl rfl) (by decide +kernel) rfl dX7_wash_42 (fun h15 => ?_)
        refine or_iconst C (v := (1 : Int32)) dX7_wash_45 (by decide) ?_
        exact or_zret C ⟨Nat.le_of_ble_eq_true rfl, Nat.le_of_ble_eq_true rfl⟩ dX7_wash_46
      · refine or_sub [] rfl ?_
        exact w_X7_wash_28 C hl h0 h o
theorem m_X7_wash (l : Launch) (h : oh_H) (o : Nat) (v1 : Int32) (p : Int32 × oh_H) (hf : f_X7_wash h o v1 = some p) : oh_M l yX7_wash wsX7_wash rmX7_wash 0 0 [xr (some o), xi v1] h (some (xi p.1)) p.2 :=
  oh_met (cc := cX7_wash) (maxL := 3) (ret := (some .boolean)) (by decide) rfl (Nat.le_of_ble_eq_true rfl) (fun G C hl hN E => w_X7_wash_0 C hl h h o v1 p hf E)
/-! X7_press -/
theorem k_X7_press_f64 : Cond.fieldLink RX7 64 "OilPress" "now" "I" ∈ wsX7_press := List.mem_of_getElem? (i := 1) (by decide +kernel)
theorem u_X7_press_7 : ∀ w ∈ u_ws RX7 TX7 14, w ∈ wsX7_press := fun w h => List.mem_cons_of_mem _ (List.mem_append_left _ (List.mem_append_left _ (List.mem_append_left _ (List.mem_append_right _ (h)))))
abbrev rmX7_press : Room := { frames := 3, cells := 0, slots := 0, locals := 72 }
def f_X7_press_21 (h : oh_H) (o : Nat) : Option (Int32 × oh_H) :=
  some ((-1 : Int32), h)
def f_X7_press (h : oh_H) (o : Nat) (v1 : Int32) : Option (Int32 × oh_H) :=
  oh_rc h (some o) 8 fun o2 => (f_X7_findMill h o2 v1).bind fun p3 => oh_lt p3 fun x5 => if x5 = none then (f_X7_press_21 h o) else ((oh_gI h (some o) 458).bind fun x6 => oh_rc h x5 4 fun o7 => (f_X3_mayBegin h o7 x6).bind fun p10 => if p10 = 0 then (f_X7_press_21 h o) else ((oh_gI h (some o) 458).bind fun x12 => oh_rc h x5 4 fun o13 => (f_X3_begin h o13 x12).bind fun p16 => some (p16.1, p16.2)))
set_option maxHeartbeats 4000000 in
set_option maxRecDepth 100000 in
theorem w_X7_press_21 {G : oh_G} {l : Launch} (C : oh_C G cX7_press wsX7_press RX7 rmX7_press 3) (hl : G.1.2.1 = l) (h0 : oh_H) (h : oh_H) (o : Nat) : oh_J (oh_TW h0 xi 0 0 (some .int) G) (f_X7_press_21 h o) (oh_V G 0 0 h 21 [] []) := by
  unfold f_X7_press_21
  refine or_iconst C (v := (-1 : Int32)) dX7_press_21 (by decide) ?_
  exact or_iret C ⟨Nat.le_of_ble_eq_true rfl, Nat.le_of_ble_eq_true rfl⟩ dX7_press_22
set_option maxHeartbeats 4000000 in
set_option maxRecDepth 100000 in
theorem w_X7_press_0 {G : oh_G} {l : Launch} (C : oh_C G cX7_press wsX7_press RX7 rmX7_press 3) (hl : G.1.2.1 = l) (h0 : oh_H) (h : oh_H) (o : Nat) (v1 : Int32) : oh_J (oh_TW h0 xi 0 0 (some .int) G) (f_X7_press h o v1) (oh_V G 0 0 h 0 [(0, xr (some o)), (1, xi v1)] []) := by
  unfold f_X7_press
  refine or_aload_n C 0 rfl dX7_press_0 ?_
  refine or_iload_n C 1 rfl dX7_press_1 ?_
  refine oj_rcs (fun q1 => ?_)
  refine oj_bind (fun p3 z4 => ?_)
  refine oj_v (P := oh_V G 0 0 h 5 [(0, xr (some o)), (1, xi v1)] [xr p3]) (fun k => or_callV C 1 hl (m_X7_findMill _ h o v1 p3 z4) gX7_press_X7_findMill rfl rfl rfl (by decide +kernel) ⟨Nat.le_of_ble_eq_true rfl, Nat.le_of_ble_eq_true rfl⟩ q1 rfl (by decide) (Nat.le_of_ble_eq_true rfl) dX7_press_2 ⟨Nat.le_of_ble_eq_true rfl, Nat.le_of_ble_eq_true rfl⟩ rfl rfl k) ?_
  refine or_astore_n C (fun x5 => [(2, xr x5), (0, xr (some o)), (1, xi v1)]) (fun _ => rfl) (by decide) dX7_press_5 (fun x5 => ?_)
  refine or_aload_n C 0 rfl dX7_press_6 ?_
  refine or_ifnull C 21 dX7_press_7 (by decide) ?_ ?_
  · refine or_sub [] rfl ?_
    exact w_X7_press_21 C hl h0 h o
  · refine or_aload_n C 0 rfl dX7_press_10 ?_
    refine or_aload_n C 1 rfl dX7_press_11 ?_
    refine or_getI C 7 10 rfl (by decide) rfl (by decide) u_X7_press_7 (by decide) k_X7_press_f64 (by decide +kernel) dX7_press_12 (fun x6 => ?_)
    refine oj_rc (fun o7 e9 q8 => ?_)
    refine oj_bind (fun p10 z11 => ?_)
    refine oj_v (P := oh_V G 0 0 h 18 [(2, xr x5), (0, xr (some o)), (1, xi v1)] [xi p10]) (fun k => or_callV C 1 hl (m_X3_mayBegin _ h o7 x6 p10 z11) gX7_press_X3_mayBegin rfl rfl rfl (by decide +kernel) ⟨Nat.le_of_ble_eq_true rfl, Nat.le_of_ble_eq_true rfl⟩ q8 rfl (by decide) (Nat.le_of_ble_eq_true rfl) dX7_press_15 ⟨Nat.le_of_ble_eq_true rfl, Nat.le_of_ble_eq_true rfl⟩ rfl (by rw [e9]; rfl) k) ?_
    refine or_if_ne C 23 dX7_press_18 (by decide) ?_ ?_
    · refine or_sub [] rfl ?_
      exact w_X7_press_21 C hl h0 h o
    · refine or_aload_n C 0 rfl dX7_press_23 ?_
      refine or_aload_n C 1 rfl dX7_press_24 ?_
      refine or_getI C 7 10 rfl (by decide) rfl (by decide) u_X7_press_7 (by decide) k_X7_press_f64 (by decide +kernel) dX7_press_25 (fun x12 => ?_)
      refine oj_rc (fun o13 e15 q14 => ?_)
      refine oj_bind (fun p16 z17 => ?_)
      refine oj_v (P := oh_V G 0 0 p16.2 31 [(2, xr x5), (0, xr (some o)), (1, xi v1)] [xi p16.1]) (fun k => or_callV C 1 hl (m_X3_begin _ h o13 x12 p16 z17) gX7_press_X3_begin rfl rfl rfl (by decide +kernel) ⟨Nat.le_of_ble_eq_true rfl, Nat.le_of_ble_eq_true rfl⟩ q14 rfl (by decide) (Nat.le_of_ble_eq_true rfl) dX7_press_28 ⟨Nat.le_of_ble_eq_true rfl, Nat.le_of_ble_eq_true rfl⟩ rfl (by rw [e15]; rfl) k) ?_
      exact or_iret C ⟨Nat.le_of_ble_eq_true rfl, Nat.le_of_ble_eq_true rfl⟩ dX7_press_31
theorem m_X7_press (l : Launch) (h : oh_H) (o : Nat) (v1 : Int32) (p : Int32 × oh_H) (hf : f_X7_press h o v1 = some p) : oh_M l yX7_press wsX7_press rmX7_press 0 0 [xr (some o), xi v1] h (some (xi p.1)) p.2 :=
  oh_met (cc := cX7_press) (maxL := 3) (ret := (some .int)) (by decide) rfl (Nat.le_of_ble_eq_true rfl) (fun G C hl hN E => w_X7_press_0 C hl h h o v1 p hf E)
/-! X7_gave -/
theorem k_X7_gave_f176 : Cond.fieldLink RX7 176 "OilPress$Mill" "isPressing" "Z" ∈ wsX7_gave := List.mem_of_getElem? (i := 1) (by decide +kernel)
theorem u_X7_gave_3 : ∀ w ∈ u_ws RX3 TX3 14, w ∈ wsX7_gave := fun w h => List.mem_cons_of_mem _ (List.mem_append_left _ (List.mem_append_left _ (List.mem_append_left _ (List.mem_append_right _ (h)))))
theorem k_X7_gave_f64 : Cond.fieldLink RX7 64 "OilPress" "now" "I" ∈ wsX7_gave := List.mem_of_getElem? (i := 2) (by decide +kernel)
theorem u_X7_gave_7 : ∀ w ∈ u_ws RX7 TX7 14, w ∈ wsX7_gave := fun w h => List.mem_cons_of_mem _ (List.mem_append_left _ (List.mem_append_left _ (List.mem_append_right _ (h))))
theorem k_X7_gave_f198 : Cond.fieldLink RX7 198 "OilPress$Mill" "given" "I" ∈ wsX7_gave := List.mem_of_getElem? (i := 3) (by decide +kernel)
theorem k_X7_gave_f43 : Cond.fieldLink RX7 43 "OilPress" "totals" "LOilPress$Totals;" ∈ wsX7_gave := List.mem_of_getElem? (i := 4) (by decide +kernel)
theorem k_X7_gave_f204 : Cond.fieldLink RX7 204 "OilPress$Totals" "given" "I" ∈ wsX7_gave := List.mem_of_getElem? (i := 5) (by decide +kernel)
theorem u_X7_gave_5 : ∀ w ∈ u_ws RX5 TX5 5, w ∈ wsX7_gave := fun w h => List.mem_cons_of_mem _ (List.mem_append_left _ (List.mem_append_right _ (h)))
abbrev rmX7_gave : Room := { frames := 2, cells := 0, slots := 0, locals := 43 }
def f_X7_gave_36 (h : oh_H) (o : Nat) : Option (Int32 × oh_H) :=
  oh_bz (0 : Int32) (some ((0 : Int32), h))
def f_X7_gave (h : oh_H) (o : Nat) (v1 : Int32) (v2 : Int32) : Option (Int32 × oh_H) :=
  oh_rc h (some o) 8 fun o2 => (f_X7_findMill h o2 v1).bind fun p3 => oh_lt p3 fun x5 => if x5 = none then (f_X7_gave_36 h o) else ((oh_gI h x5 201).bind fun x6 => if x6 = 0 then (f_X7_gave_36 h o) else ((oh_gI h (some o) 458).bind fun x7 => oh_rc h x5 4 fun o8 => (f_X3_isBusy h o8 x7).bind fun p11 => if p11 = 0 then ((oh_gI h x5 204).bind fun x13 => if x13 = (-1 : Int32) then (oh_rc h x5 4 fun o14 => (f_X3_tenthsInBin h o14).bind fun p17 => (f_X7_isWithin h v2 (0 : Int32) p17).bind fun p19 => if p19 = 0 then (oh_bz (0 : Int32) (some ((0 : Int32), h))) else ((oh_pI h x5 204 v2).bind fun h21 => (oh_gR h21 (some o) 453).bind fun x22 => (oh_gI h21 x22 320).bind fun x23 => (oh_pI h21 x22 320 (x23 + v2)).bind fun h24 => oh_bz (1 : Int32) (some ((1 : Int32), h24)))) else (f_X7_gave_36 h o)) else (f_X7_gave_36 h o)))
set_option maxHeartbeats 4000000 in
set_option maxRecDepth 100000 in
theorem w_X7_gave_36 {G : oh_G} {l : Launch} (C : oh_C G cX7_gave wsX7_gave RX7 rmX7_gave 4) (hl : G.1.2.1 = l) (h0 : oh_H) (h : oh_H) (o : Nat) : oh_J (oh_TW h0 xi 0 0 (some .boolean) G) (f_X7_gave_36 h o) (oh_V G 0 0 h 36 [] []) := by
  unfold f_X7_gave_36
  refine or_iconst C (v := (0 : Int32)) dX7_gave_36 (by decide) ?_
  exact or_zret C ⟨Nat.le_of_ble_eq_true rfl, Nat.le_of_ble_eq_true rfl⟩ dX7_gave_37
set_option maxHeartbeats 4000000 in
set_option maxRecDepth 100000 in
theorem w_X7_gave_0 {G : oh_G} {l : Launch} (C : oh_C G cX7_gave wsX7_gave RX7 rmX7_gave 4) (hl : G.1.2.1 = l) (h0 : oh_H) (h : oh_H) (o : Nat) (v1 : Int32) (v2 : Int32) : oh_J (oh_TW h0 xi 0 0 (some .boolean) G) (f_X7_gave h o v1 v2) (oh_V G 0 0 h 0 [(0, xr (some o)), (1, xi v1), (2, xi v2)] []) := by
  unfold f_X7_gave
  refine or_aload_n C 0 rfl dX7_gave_0 ?_
  refine or_iload_n C 1 rfl dX7_gave_1 ?_
  refine oj_rcs (fun q1 => ?_)
  refine oj_bind (fun p3 z4 => ?_)
  refine oj_v (P := oh_V G 0 0 h 5 [(0, xr (some o)), (1, xi v1), (2, xi v2)] [xr p3]) (fun k => or_callV C 1 hl (m_X7_findMill _ h o v1 p3 z4) gX7_gave_X7_findMill rfl rfl rfl (by decide +kernel) ⟨Nat.le_of_ble_eq_true rfl, Nat.le_of_ble_eq_true rfl⟩ q1 rfl (by decide) (Nat.le_of_ble_eq_true rfl) dX7_gave_2 ⟨Nat.le_of_ble_eq_true rfl, Nat.le_of_ble_eq_true rfl⟩ rfl rfl k) ?_
  refine or_astore_n C (fun x5 => [(3, xr x5), (0, xr (some o)), (1, xi v1), (2, xi v2)]) (fun _ => rfl) (by decide) dX7_gave_5 (fun x5 => ?_)
  refine or_aload_n C 0 rfl dX7_gave_6 ?_
  refine or_ifnull C 36 dX7_gave_7 (by decide) ?_ ?_
  · refine or_sub [] rfl ?_
    exact w_X7_gave_36 C hl h0 h o
  · refine or_aload_n C 0 rfl dX7_gave_10 ?_
    refine or_getI C 3 9 rfl (by decide) rfl (by decide) u_X7_gave_3 (by decide) k_X7_gave_f176 (by decide +kernel) dX7_gave_11 (fun x6 => ?_)
    refine or_if_eq C 36 dX7_gave_14 (by decide) ?_ ?_
    · refine or_sub [] rfl ?_
      exact w_X7_gave_36 C hl h0 h o
    · refine or_aload_n C 0 rfl dX7_gave_17 ?_
      refine or_aload_n C 1 rfl dX7_gave_18 ?_
      refine or_getI C 7 10 rfl (by decide) rfl (by decide) u_X7_gave_7 (by decide) k_X7_gave_f64 (by decide +kernel) dX7_gave_19 (fun x7 => ?_)
      refine oj_rc (fun o8 e10 q9 => ?_)
      refine oj_bind (fun p11 z12 => ?_)
      refine oj_v (P := oh_V G 0 0 h 25 [(3, xr x5), (0, xr (some o)), (1, xi v1), (2, xi v2)] [xi p11]) (fun k => or_callV C 1 hl (m_X3_isBusy _ h o8 x7 p11 z12) gX7_gave_X3_isBusy rfl rfl rfl (by decide +kernel) ⟨Nat.le_of_ble_eq_true rfl, Nat.le_of_ble_eq_true rfl⟩ q9 rfl (by decide) (Nat.le_of_ble_eq_true rfl) dX7_gave_22 ⟨Nat.le_of_ble_eq_true rfl, Nat.le_of_ble_eq_true rfl⟩ rfl (by rw [e10]; rfl) k) ?_
      refine or_if_ne C 36 dX7_gave_25 (by decide) ?_ ?_
      · refine or_aload_n C 0 rfl dX7_gave_28 ?_
        refine or_getI C 3 12 rfl (by decide) rfl (by decide) u_X7_gave_3 (by decide) k_X7_gave_f198 (by decide +kernel) dX7_gave_29 (fun x13 => ?_)
        refine or_iconst C (v := (-1 : Int32)) dX7_gave_32 (by decide) ?_
        refine or_icmp_eq C 38 dX7_gave_33 (by decide) ?_ ?_
        · refine or_iload_n C 3 rfl dX7_gave_38 ?_
          refine or_iconst C (v := (0 : Int32)) dX7_gave_39 (by decide) ?_
          refine or_aload_n C 0 rfl dX7_gave_40 ?_
          refine oj_rc (fun o14 e16 q15 => ?_)
          refine oj_bind (fun p17 z18 => ?_)
          refine oj_v (P := oh_V G 0 0 h 44 [(3, xr x5), (0, xr (some o)), (1, xi v1), (2, xi v2)] [xi p17, xi (0 : Int32), xi v2]) (fun k => or_callV C 0 hl (m_X3_tenthsInBin _ h o14 p17 z18) gX7_gave_X3_tenthsInBin rfl rfl rfl (by decide +kernel) ⟨Nat.le_of_ble_eq_true rfl, Nat.le_of_ble_eq_true rfl⟩ q15 rfl (by decide) (Nat.le_of_ble_eq_true rfl) dX7_gave_41 ⟨Nat.le_of_ble_eq_true rfl, Nat.le_of_ble_eq_true rfl⟩ rfl (by rw [e16]; rfl) k) ?_
          refine oj_bind (fun p19 z20 => ?_)
          refine oj_v (P := oh_V G 0 0 h 47 [(3, xr x5), (0, xr (some o)), (1, xi v1), (2, xi v2)] [xi p19]) (fun k => or_callS C 3 hl (m_X7_isWithin _ h v2 (0 : Int32) p17 p19 z20) gX7_gave_X7_isWithin rfl rfl rfl (by decide +kernel) ⟨Nat.le_of_ble_eq_true rfl, Nat.le_of_ble_eq_true rfl⟩ (Nat.le_of_ble_eq_true rfl) dX7_gave_44 ⟨Nat.le_of_ble_eq_true rfl, Nat.le_of_ble_eq_true rfl⟩ rfl rfl k) ?_
          refine or_if_ne C 52 dX7_gave_47 (by decide) ?_ ?_
          · refine or_iconst C (v := (0 : Int32)) dX7_gave_50 (by decide) ?_
            exact or_zret C ⟨Nat.le_of_ble_eq_true rfl, Nat.le_of_ble_eq_true rfl⟩ dX7_gave_51
          · refine or_aload_n C 0 rfl dX7_gave_52 ?_
            refine or_iload_n C 3 rfl dX7_gave_53 ?_
            refine or_putI C 3 12 rfl (by decide) rfl (by decide) u_X7_gave_3 tyX3 tyX3_ok nmX3 (by decide) k_X7_gave_f198 (Or.inl rfl) (by decide +kernel) rfl dX7_gave_54 (fun h21 => ?_)
            refine or_aload_n C 1 rfl dX7_gave_57 ?_
            refine or_getR C 7 5 rfl (by decide) rfl (by decide) u_X7_gave_7 (by decide) k_X7_gave_f43 (by decide +kernel) dX7_gave_58 (fun x22 => ?_)
            refine or_dup C rfl dX7_gave_61 ?_
            refine or_getI C 5 0 rfl (by decide) rfl (by decide) u_X7_gave_5 (by decide) k_X7_gave_f204 (by decide +kernel) dX7_gave_62 (fun x23 => ?_)
            refine or_iload_n C 3 rfl dX7_gave_65 ?_
            refine or_iadd C dX7_gave_66 ?_
            refine or_putI C 5 0 rfl (by decide) rfl (by decide) u_X7_gave_5 tyX5 tyX5_ok nmX5 (by decide) k_X7_gave_f204 (Or.inl rfl) (by decide +kernel) rfl dX7_gave_67 (fun h24 => ?_)
            refine or_iconst C (v := (1 : Int32)) dX7_gave_70 (by decide) ?_
            exact or_zret C ⟨Nat.le_of_ble_eq_true rfl, Nat.le_of_ble_eq_true rfl⟩ dX7_gave_71
        · refine or_sub [] rfl ?_
          exact w_X7_gave_36 C hl h0 h o
      · refine or_sub [] rfl ?_
        exact w_X7_gave_36 C hl h0 h o
theorem m_X7_gave (l : Launch) (h : oh_H) (o : Nat) (v1 : Int32) (v2 : Int32) (p : Int32 × oh_H) (hf : f_X7_gave h o v1 v2 = some p) : oh_M l yX7_gave wsX7_gave rmX7_gave 0 0 [xr (some o), xi v1, xi v2] h (some (xi p.1)) p.2 :=
  oh_met (cc := cX7_gave) (maxL := 4) (ret := (some .boolean)) (by decide) rfl (Nat.le_of_ble_eq_true rfl) (fun G C hl hN E => w_X7_gave_0 C hl h h o v1 v2 p hf E)
/-! X7_share -/
theorem k_X7_share_f176 : Cond.fieldLink RX7 176 "OilPress$Mill" "isPressing" "Z" ∈ wsX7_share := List.mem_of_getElem? (i := 1) (by decide +kernel)
theorem u_X7_share_3 : ∀ w ∈ u_ws RX3 TX3 14, w ∈ wsX7_share := fun w h => List.mem_cons_of_mem _ (List.mem_append_left _ (List.mem_append_left _ (List.mem_append_right _ (h))))
theorem k_X7_share_f198 : Cond.fieldLink RX7 198 "OilPress$Mill" "given" "I" ∈ wsX7_share := List.mem_of_getElem? (i := 2) (by decide +kernel)
theorem k_X7_share_f205 : Cond.fieldLink RX7 205 "OilPress$Mill" "kept" "I" ∈ wsX7_share := List.mem_of_getElem? (i := 3) (by decide +kernel)
theorem k_X7_share_f70 : Cond.fieldLink RX7 70 "OilPress" "keptOf100" "I" ∈ wsX7_share := List.mem_of_getElem? (i := 4) (by decide +kernel)
theorem u_X7_share_7 : ∀ w ∈ u_ws RX7 TX7 14, w ∈ wsX7_share := fun w h => List.mem_cons_of_mem _ (List.mem_append_left _ (List.mem_append_right _ (h)))
abbrev rmX7_share : Room := { frames := 2, cells := 0, slots := 0, locals := 51 }
def f_X7_share_33 (h : oh_H) (o : Nat) : Option (Int32 × oh_H) :=
  some ((-1 : Int32), h)
def f_X7_share (h : oh_H) (o : Nat) (v1 : Int32) : Option (Int32 × oh_H) :=
  oh_rc h (some o) 8 fun o2 => (f_X7_findMill h o2 v1).bind fun p3 => oh_lt p3 fun x5 => if x5 = none then (f_X7_share_33 h o) else ((oh_gI h x5 201).bind fun x6 => if x6 = 0 then (f_X7_share_33 h o) else ((oh_gI h x5 204).bind fun x7 => if x7 = (-1 : Int32) then (f_X7_share_33 h o) else ((oh_gI h x5 205).bind fun x8 => if x8 = (-1 : Int32) then ((oh_gI h (some o) 460).bind fun x9 => oh_rc h x5 4 fun o10 => (f_X3_divide h o10 x9).bind fun p13 => (oh_gI p13 x5 205).bind fun x15 => some (x15, p13)) else (f_X7_share_33 h o))))
set_option maxHeartbeats 4000000 in
set_option maxRecDepth 100000 in
theorem w_X7_share_33 {G : oh_G} {l : Launch} (C : oh_C G cX7_share wsX7_share RX7 rmX7_share 3) (hl : G.1.2.1 = l) (h0 : oh_H) (h : oh_H) (o : Nat) : oh_J (oh_TW h0 xi 0 0 (some .int) G) (f_X7_share_33 h o) (oh_V G 0 0 h 33 [] []) := by
  unfold f_X7_share_33
  refine or_iconst C (v := (-1 : Int32)) dX7_share_33 (by decide) ?_
  exact or_iret C ⟨Nat.le_of_ble_eq_true rfl, Nat.le_of_ble_eq_true rfl⟩ dX7_share_34
set_option maxHeartbeats 4000000 in
set_option maxRecDepth 100000 in
theorem w_X7_share_0 {G : oh_G} {l : Launch} (C : oh_C G cX7_share wsX7_share RX7 rmX7_share 3) (hl : G.1.2.1 = l) (h0 : oh_H) (h : oh_H) (o : Nat) (v1 : Int32) : oh_J (oh_TW h0 xi 0 0 (some .int) G) (f_X7_share h o v1) (oh_V G 0 0 h 0 [(0, xr (some o)), (1, xi v1)] []) := by
  unfold f_X7_share
  refine or_aload_n C 0 rfl dX7_share_0 ?_
  refine or_iload_n C 1 rfl dX7_share_1 ?_
  refine oj_rcs (fun q1 => ?_)
  refine oj_bind (fun p3 z4 => ?_)
  refine oj_v (P := oh_V G 0 0 h 5 [(0, xr (some o)), (1, xi v1)] [xr p3]) (fun k => or_callV C 1 hl (m_X7_findMill _ h o v1 p3 z4) gX7_share_X7_findMill rfl rfl rfl (by decide +kernel) ⟨Nat.le_of_ble_eq_true rfl, Nat.le_of_ble_eq_true rfl⟩ q1 rfl (by decide) (Nat.le_of_ble_eq_true rfl) dX7_share_2 ⟨Nat.le_of_ble_eq_true rfl, Nat.le_of_ble_eq_true rfl⟩ rfl rfl k) ?_
  refine or_astore_n C (fun x5 => [(2, xr x5), (0, xr (some o)), (1, xi v1)]) (fun _ => rfl) (by decide) dX7_share_5 (fun x5 => ?_)
  refine or_aload_n C 0 rfl dX7_share_6 ?_
  refine or_ifnull C 33 dX7_share_7 (by decide) ?_ ?_
  · refine or_sub [] rfl ?_
    exact w_X7_share_33 C hl h0 h o
  · refine or_aload_n C 0 rfl dX7_share_10 ?_
    refine or_getI C 3 9 rfl (by decide) rfl (by decide) u_X7_share_3 (by decide) k_X7_share_f176 (by decide +kernel) dX7_share_11 (fun x6 => ?_)
    refine or_if_eq C 33 dX7_share_14 (by decide) ?_ ?_
    · refine or_sub [] rfl ?_
      exact w_X7_share_33 C hl h0 h o
    · refine or_aload_n C 0 rfl dX7_share_17 ?_
      refine or_getI C 3 12 rfl (by decide) rfl (by decide) u_X7_share_3 (by decide) k_X7_share_f198 (by decide +kernel) dX7_share_18 (fun x7 => ?_)
      refine or_iconst C (v := (-1 : Int32)) dX7_share_21 (by decide) ?_
      refine or_icmp_eq C 33 dX7_share_22 (by decide) ?_ ?_
      · refine or_sub [] rfl ?_
        exact w_X7_share_33 C hl h0 h o
      · refine or_aload_n C 0 rfl dX7_share_25 ?_
        refine or_getI C 3 13 rfl (by decide) rfl (by decide) u_X7_share_3 (by decide) k_X7_share_f205 (by decide +kernel) dX7_share_26 (fun x8 => ?_)
        refine or_iconst C (v := (-1 : Int32)) dX7_share_29 (by decide) ?_
        refine or_icmp_eq C 35 dX7_share_30 (by decide) ?_ ?_
        · refine or_aload_n C 0 rfl dX7_share_35 ?_
          refine or_aload_n C 1 rfl dX7_share_36 ?_
          refine or_getI C 7 12 rfl (by decide) rfl (by decide) u_X7_share_7 (by decide) k_X7_share_f70 (by decide +kernel) dX7_share_37 (fun x9 => ?_)
          refine oj_rc (fun o10 e12 q11 => ?_)
          refine oj_bind (fun p13 z14 => ?_)
          refine oj_v (P := oh_V G 0 0 p13 43 [(2, xr x5), (0, xr (some o)), (1, xi v1)] []) (fun k => or_callV C 1 hl (m_X3_divide _ h o10 x9 p13 z14) gX7_share_X3_divide rfl rfl rfl (by decide +kernel) ⟨Nat.le_of_ble_eq_true rfl, Nat.le_of_ble_eq_true rfl⟩ q11 rfl (by decide) (Nat.le_of_ble_eq_true rfl) dX7_share_40 ⟨Nat.le_of_ble_eq_true rfl, Nat.le_of_ble_eq_true rfl⟩ rfl (by rw [e12]; rfl) k) ?_
          refine or_aload_n C 0 rfl dX7_share_43 ?_
          refine or_getI C 3 13 rfl (by decide) rfl (by decide) u_X7_share_3 (by decide) k_X7_share_f205 (by decide +kernel) dX7_share_44 (fun x15 => ?_)
          exact or_iret C ⟨Nat.le_of_ble_eq_true rfl, Nat.le_of_ble_eq_true rfl⟩ dX7_share_47
        · refine or_sub [] rfl ?_
          exact w_X7_share_33 C hl h0 h o
theorem m_X7_share (l : Launch) (h : oh_H) (o : Nat) (v1 : Int32) (p : Int32 × oh_H) (hf : f_X7_share h o v1 = some p) : oh_M l yX7_share wsX7_share rmX7_share 0 0 [xr (some o), xi v1] h (some (xi p.1)) p.2 :=
  oh_met (cc := cX7_share) (maxL := 3) (ret := (some .int)) (by decide) rfl (Nat.le_of_ble_eq_true rfl) (fun G C hl hN E => w_X7_share_0 C hl h h o v1 p hf E)
/-! X7_keep -/
theorem k_X7_keep_f70 : Cond.fieldLink RX7 70 "OilPress" "keptOf100" "I" ∈ wsX7_keep := List.mem_of_getElem? (i := 1) (by decide +kernel)
theorem u_X7_keep_7 : ∀ w ∈ u_ws RX7 TX7 14, w ∈ wsX7_keep := fun w h => List.mem_cons_of_mem _ (List.mem_append_right _ (h))
abbrev rmX7_keep : Room := { frames := 1, cells := 0, slots := 0, locals := 22 }
def f_X7_keep (h : oh_H) (o : Nat) (v1 : Int32) : Option (Int32 × oh_H) :=
  (f_X7_isWithin h v1 (0 : Int32) (50 : Int32)).bind fun p1 => if p1 = 0 then (oh_bz (0 : Int32) (some ((0 : Int32), h))) else ((oh_pI h (some o) 460 v1).bind fun h3 => oh_bz (1 : Int32) (some ((1 : Int32), h3)))
set_option maxHeartbeats 4000000 in
set_option maxRecDepth 100000 in
theorem w_X7_keep_0 {G : oh_G} {l : Launch} (C : oh_C G cX7_keep wsX7_keep RX7 rmX7_keep 2) (hl : G.1.2.1 = l) (h0 : oh_H) (h : oh_H) (o : Nat) (v1 : Int32) : oh_J (oh_TW h0 xi 0 0 (some .boolean) G) (f_X7_keep h o v1) (oh_V G 0 0 h 0 [(0, xr (some o)), (1, xi v1)] []) := by
  unfold f_X7_keep
  refine or_iload_n C 1 rfl dX7_keep_0 ?_
  refine or_iconst C (v := (0 : Int32)) dX7_keep_1 (by decide) ?_
  refine or_bipush C (v := (50 : Int32)) dX7_keep_2 (by decide) ?_
  refine oj_bind (fun p1 z2 => ?_)
  refine oj_v (P := oh_V G 0 0 h 7 [(0, xr (some o)), (1, xi v1)] [xi p1]) (fun k => or_callS C 3 hl (m_X7_isWithin _ h v1 (0 : Int32) (50 : Int32) p1 z2) gX7_keep_X7_isWithin rfl rfl rfl (by decide +kernel) ⟨Nat.le_of_ble_eq_true rfl, Nat.le_of_ble_eq_true rfl⟩ (Nat.le_of_ble_eq_true rfl) dX7_keep_4 ⟨Nat.le_of_ble_eq_true rfl, Nat.le_of_ble_eq_true rfl⟩ rfl rfl k) ?_
  refine or_if_ne C 12 dX7_keep_7 (by decide) ?_ ?_
  · refine or_iconst C (v := (0 : Int32)) dX7_keep_10 (by decide) ?_
    exact or_zret C ⟨Nat.le_of_ble_eq_true rfl, Nat.le_of_ble_eq_true rfl⟩ dX7_keep_11
  · refine or_aload_n C 0 rfl dX7_keep_12 ?_
    refine or_iload_n C 1 rfl dX7_keep_13 ?_
    refine or_putI C 7 12 rfl (by decide) rfl (by decide) u_X7_keep_7 tyX7 tyX7_ok nmX7 (by decide) k_X7_keep_f70 (Or.inl rfl) (by decide +kernel) rfl dX7_keep_14 (fun h3 => ?_)
    refine or_iconst C (v := (1 : Int32)) dX7_keep_17 (by decide) ?_
    exact or_zret C ⟨Nat.le_of_ble_eq_true rfl, Nat.le_of_ble_eq_true rfl⟩ dX7_keep_18
theorem m_X7_keep (l : Launch) (h : oh_H) (o : Nat) (v1 : Int32) (p : Int32 × oh_H) (hf : f_X7_keep h o v1 = some p) : oh_M l yX7_keep wsX7_keep rmX7_keep 0 0 [xr (some o), xi v1] h (some (xi p.1)) p.2 :=
  oh_met (cc := cX7_keep) (maxL := 2) (ret := (some .boolean)) (by decide) rfl (Nat.le_of_ble_eq_true rfl) (fun G C hl hN E => w_X7_keep_0 C hl h h o v1 p hf E)
/-! X7_vat -/
theorem k_X7_vat_c214 : Cond.constant RX7 214 (50000) ∈ wsX7_vat := List.mem_of_getElem? (i := 1) (by decide +kernel)
theorem k_X7_vat_f61 : Cond.fieldLink RX7 61 "OilPress" "vatCount" "I" ∈ wsX7_vat := List.mem_of_getElem? (i := 2) (by decide +kernel)
theorem u_X7_vat_7 : ∀ w ∈ u_ws RX7 TX7 14, w ∈ wsX7_vat := fun w h => List.mem_cons_of_mem _ (List.mem_append_left _ (List.mem_append_right _ (h)))
theorem k_X7_vat_f29 : Cond.fieldLink RX7 29 "OilPress" "vats" "[LOilPress$Vat;" ∈ wsX7_vat := List.mem_of_getElem? (i := 3) (by decide +kernel)
theorem k_X7_vat_cl27 : Cond.classLink RX7 27 RX6 ∈ wsX7_vat := List.mem_of_getElem? (i := 4) (by decide +kernel)
theorem k_X7_vat_in6 : Cond.instantiable RX6 8 ∈ wsX7_vat := List.mem_of_getElem? (i := 5) (by decide +kernel)
theorem k_X7_vat_it6 : Cond.initialized RX6 ∈ wsX7_vat := List.mem_of_getElem? (i := 6) (by decide +kernel)
theorem k_X7_vat_ml215 : Cond.methodLink RX7 215 yX6_init ∈ wsX7_vat := List.mem_of_getElem? (i := 14) (by decide +kernel)
theorem k_X7_vat_imX6_init : Cond.instanceMethod yX6_init ∈ wsX7_vat := List.mem_of_getElem? (i := 15) (by decide +kernel)
theorem u_X7_vat_6 : ∀ w ∈ u_ws RX6 TX6 8, w ∈ wsX7_vat := fun w h => List.mem_cons_of_mem _ (List.mem_append_right _ (h))
abbrev rmX7_vat : Room := { frames := 2, cells := 1, slots := 8, locals := 43 }
def f_X7_vat_26 (h : oh_H) (o : Nat) : Option (Int32 × oh_H) :=
  some ((-1 : Int32), h)
def f_X7_vat (h : oh_H) (o : Nat) (v1 : Int32) (v2 : Int32) (v3 : Int32) : Option (Int32 × oh_H) :=
  (f_X7_isSort h v1).bind fun p1 => if p1 = 0 then (f_X7_vat_26 h o) else ((f_X7_isWithin h v3 (1 : Int32) (50000 : Int32)).bind fun p3 => if p3 = 0 then (f_X7_vat_26 h o) else ((oh_gI h (some o) 457).bind fun x5 => if x5 < (12 : Int32) then ((oh_gR h (some o) 451).bind fun x6 => (oh_gI h (some o) 457).bind fun x7 => oh_new h 7 fun a9 h8 => (f_X6_init h8 a9 v1 v2 v3).bind fun p10 => (oh_tR p10 x6 26 6 x7 (some a9)).bind fun h12 => (oh_gI h12 (some o) 457).bind fun x13 => (oh_pI h12 (some o) 457 (x13 + (1 : Int32))).bind fun h14 => (oh_gI h14 (some o) 457).bind fun x15 => some ((x15 - (1 : Int32)), h14)) else (f_X7_vat_26 h o)))
set_option maxHeartbeats 4000000 in
set_option maxRecDepth 100000 in
theorem w_X7_vat_26 {G : oh_G} {l : Launch} (C : oh_C G cX7_vat wsX7_vat RX7 rmX7_vat 4) (hl : G.1.2.1 = l) (h0 : oh_H) (h : oh_H) (o : Nat) : oh_J (oh_TW h0 xi 1 8 (some .int) G) (f_X7_vat_26 h o) (oh_V G 0 0 h 26 [] []) := by
  unfold f_X7_vat_26
  refine or_iconst C (v := (-1 : Int32)) dX7_vat_26 (by decide) ?_
  exact or_iret C ⟨Nat.le_of_ble_eq_true rfl, Nat.le_of_ble_eq_true rfl⟩ dX7_vat_27
set_option maxHeartbeats 4000000 in
set_option maxRecDepth 100000 in
theorem w_X7_vat_0 {G : oh_G} {l : Launch} (C : oh_C G cX7_vat wsX7_vat RX7 rmX7_vat 4) (hl : G.1.2.1 = l) (h0 : oh_H) (h : oh_H) (o : Nat) (v1 : Int32) (v2 : Int32) (v3 : Int32) : oh_J (oh_TW h0 xi 1 8 (some .int) G) (f_X7_vat h o v1 v2 v3) (oh_V G 0 0 h 0 [(0, xr (some o)), (1, xi v1), (2, xi v2), (3, xi v3)] []) := by
  unfold f_X7_vat
  refine or_iload_n C 1 rfl dX7_vat_0 ?_
  refine oj_bind (fun p1 z2 => ?_)
  refine oj_v (P := oh_V G 0 0 h 4 [(0, xr (some o)), (1, xi v1), (2, xi v2), (3, xi v3)] [xi p1]) (fun k => or_callS C 1 hl (m_X7_isSort _ h v1 p1 z2) gX7_vat_X7_isSort rfl rfl rfl (by decide +kernel) ⟨Nat.le_of_ble_eq_true rfl, Nat.le_of_ble_eq_true rfl⟩ (Nat.le_of_ble_eq_true rfl) dX7_vat_1 ⟨Nat.le_of_ble_eq_true rfl, Nat.le_of_ble_eq_true rfl⟩ rfl rfl k) ?_
  refine or_if_eq C 26 dX7_vat_4 (by decide) ?_ ?_
  · refine or_sub [] rfl ?_
    exact w_X7_vat_26 C hl h0 h o
  · refine or_iload_n C 3 rfl dX7_vat_7 ?_
    refine or_iconst C (v := (1 : Int32)) dX7_vat_8 (by decide) ?_
    refine or_ldc C (v := (50000 : Int32)) k_X7_vat_c214 dX7_vat_9 ?_
    refine oj_bind (fun p3 z4 => ?_)
    refine oj_v (P := oh_V G 0 0 h 14 [(0, xr (some o)), (1, xi v1), (2, xi v2), (3, xi v3)] [xi p3]) (fun k => or_callS C 3 hl (m_X7_isWithin _ h v3 (1 : Int32) (50000 : Int32) p3 z4) gX7_vat_X7_isWithin rfl rfl rfl (by decide +kernel) ⟨Nat.le_of_ble_eq_true rfl, Nat.le_of_ble_eq_true rfl⟩ (Nat.le_of_ble_eq_true rfl) dX7_vat_11 ⟨Nat.le_of_ble_eq_true rfl, Nat.le_of_ble_eq_true rfl⟩ rfl rfl k) ?_
    refine or_if_eq C 26 dX7_vat_14 (by decide) ?_ ?_
    · refine or_sub [] rfl ?_
      exact w_X7_vat_26 C hl h0 h o
    · refine or_aload_n C 0 rfl dX7_vat_17 ?_
      refine or_getI C 7 9 rfl (by decide) rfl (by decide) u_X7_vat_7 (by decide) k_X7_vat_f61 (by decide +kernel) dX7_vat_18 (fun x5 => ?_)
      refine or_bipush C (v := (12 : Int32)) dX7_vat_21 (by decide) ?_
      refine or_icmp_lt C 28 dX7_vat_23 (by decide) ?_ ?_
      · refine or_aload_n C 0 rfl dX7_vat_28 ?_
        refine or_getR C 7 3 rfl (by decide) rfl (by decide) u_X7_vat_7 (by decide) k_X7_vat_f29 (by decide +kernel) dX7_vat_29 (fun x6 => ?_)
        refine or_aload_n C 0 rfl dX7_vat_32 ?_
        refine or_getI C 7 9 rfl (by decide) rfl (by decide) u_X7_vat_7 (by decide) k_X7_vat_f61 (by decide +kernel) dX7_vat_33 (fun x7 => ?_)
        refine or_new (cells := 0) (slots := 0) C 6 rfl rfl (by decide) u_X7_vat_6 tyX6 tyX6_ok k_X7_vat_cl27 k_X7_vat_in6 k_X7_vat_it6 df_X6 ⟨Nat.le_of_ble_eq_true rfl, Nat.le_of_ble_eq_true rfl⟩ dX7_vat_36 (fun a9 h8 => ?_)
        refine or_dup C rfl dX7_vat_39 ?_
        refine or_iload_n C 1 rfl dX7_vat_40 ?_
        refine or_iload_n C 2 rfl dX7_vat_41 ?_
        refine or_iload_n C 3 rfl dX7_vat_42 ?_
        refine oj_bind (fun p10 z11 => ?_)
        refine oj_v (P := oh_V G 1 8 p10 46 [(0, xr (some o)), (1, xi v1), (2, xi v2), (3, xi v3)] [xr (some a9), xi x7, xr x6]) (fun k => or_callI C 3 hl (m_X6_init _ h8 a9 v1 v2 v3 p10 z11) gX7_vat_X6_init rfl rfl rfl k_X7_vat_it6 k_X7_vat_ml215 k_X7_vat_imX6_init rfl (by decide +kernel) ⟨Nat.le_of_ble_eq_true rfl, Nat.le_of_ble_eq_true rfl⟩ (Nat.le_of_ble_eq_true rfl) dX7_vat_43 ⟨Nat.le_of_ble_eq_true rfl, Nat.le_of_ble_eq_true rfl⟩ rfl rfl k) ?_
        refine or_aast C 6 6 (fun _ => rfl) (by decide) rfl (by decide) rfl dX7_vat_46 (fun h12 => ?_)
        refine or_aload_n C 0 rfl dX7_vat_47 ?_
        refine or_dup C rfl dX7_vat_48 ?_
        refine or_getI C 7 9 rfl (by decide) rfl (by decide) u_X7_vat_7 (by decide) k_X7_vat_f61 (by decide +kernel) dX7_vat_49 (fun x13 => ?_)
        refine or_iconst C (v := (1 : Int32)) dX7_vat_52 (by decide) ?_
        refine or_iadd C dX7_vat_53 ?_
        refine or_putI C 7 9 rfl (by decide) rfl (by decide) u_X7_vat_7 tyX7 tyX7_ok nmX7 (by decide) k_X7_vat_f61 (Or.inl rfl) (by decide +kernel) rfl dX7_vat_54 (fun h14 => ?_)
        refine or_aload_n C 0 rfl dX7_vat_57 ?_
        refine or_getI C 7 9 rfl (by decide) rfl (by decide) u_X7_vat_7 (by decide) k_X7_vat_f61 (by decide +kernel) dX7_vat_58 (fun x15 => ?_)
        refine or_iconst C (v := (1 : Int32)) dX7_vat_61 (by decide) ?_
        refine or_isub C dX7_vat_62 ?_
        exact or_iret C ⟨Nat.le_of_ble_eq_true rfl, Nat.le_of_ble_eq_true rfl⟩ dX7_vat_63
      · refine or_sub [] rfl ?_
        exact w_X7_vat_26 C hl h0 h o
theorem m_X7_vat (l : Launch) (h : oh_H) (o : Nat) (v1 : Int32) (v2 : Int32) (v3 : Int32) (p : Int32 × oh_H) (hf : f_X7_vat h o v1 v2 v3 = some p) : oh_M l yX7_vat wsX7_vat rmX7_vat 1 8 [xr (some o), xi v1, xi v2, xi v3] h (some (xi p.1)) p.2 :=
  oh_met (cc := cX7_vat) (maxL := 4) (ret := (some .int)) (by decide) rfl (Nat.le_of_ble_eq_true rfl) (fun G C hl hN E => w_X7_vat_0 C hl h h o v1 v2 v3 p hf E)
/-! X7_findVat -/
theorem k_X7_findVat_f61 : Cond.fieldLink RX7 61 "OilPress" "vatCount" "I" ∈ wsX7_findVat := List.mem_of_getElem? (i := 1) (by decide +kernel)
theorem u_X7_findVat_7 : ∀ w ∈ u_ws RX7 TX7 14, w ∈ wsX7_findVat := fun w h => List.mem_cons_of_mem _ (List.mem_append_right _ (h))
theorem k_X7_findVat_f29 : Cond.fieldLink RX7 29 "OilPress" "vats" "[LOilPress$Vat;" ∈ wsX7_findVat := List.mem_of_getElem? (i := 2) (by decide +kernel)
abbrev rmX7_findVat : Room := { frames := 1, cells := 0, slots := 0, locals := 22 }
def f_X7_findVat_24 (h : oh_H) (o : Nat) (s0 : Option Nat) : Option (Option Nat) :=
  some s0
def f_X7_findVat (h : oh_H) (o : Nat) (v1 : Int32) : Option (Option Nat) :=
  (oh_gI h (some o) 457).bind fun x1 => (f_X7_isWithin h v1 (0 : Int32) (x1 - (1 : Int32))).bind fun p2 => if p2 = 0 then (f_X7_findVat_24 h o none) else ((oh_gR h (some o) 451).bind fun x4 => (oh_aR h x4 26 v1).bind fun x5 => f_X7_findVat_24 h o x5)
set_option maxHeartbeats 4000000 in
set_option maxRecDepth 100000 in
theorem w_X7_findVat_24 {G : oh_G} {l : Launch} (C : oh_C G cX7_findVat wsX7_findVat RX7 rmX7_findVat 2) (hl : G.1.2.1 = l) (h : oh_H) (o : Nat) (s0 : Option Nat) : oh_J (oh_TR h xr (some (.object "OilPress$Vat")) G) (f_X7_findVat_24 h o s0) (oh_V G 0 0 h 24 [] [xr s0]) := by
  unfold f_X7_findVat_24
  exact or_aretR C dX7_findVat_24
set_option maxHeartbeats 4000000 in
set_option maxRecDepth 100000 in
theorem w_X7_findVat_0 {G : oh_G} {l : Launch} (C : oh_C G cX7_findVat wsX7_findVat RX7 rmX7_findVat 2) (hl : G.1.2.1 = l) (h : oh_H) (o : Nat) (v1 : Int32) : oh_J (oh_TR h xr (some (.object "OilPress$Vat")) G) (f_X7_findVat h o v1) (oh_V G 0 0 h 0 [(0, xr (some o)), (1, xi v1)] []) := by
  unfold f_X7_findVat
  refine or_iload_n C 1 rfl dX7_findVat_0 ?_
  refine or_iconst C (v := (0 : Int32)) dX7_findVat_1 (by decide) ?_
  refine or_aload_n C 0 rfl dX7_findVat_2 ?_
  refine or_getI C 7 9 rfl (by decide) rfl (by decide) u_X7_findVat_7 (by decide) k_X7_findVat_f61 (by decide +kernel) dX7_findVat_3 (fun x1 => ?_)
  refine or_iconst C (v := (1 : Int32)) dX7_findVat_6 (by decide) ?_
  refine or_isub C dX7_findVat_7 ?_
  refine oj_bind (fun p2 z3 => ?_)
  refine oj_v (P := oh_V G 0 0 h 11 [(0, xr (some o)), (1, xi v1)] [xi p2]) (fun k => or_callS C 3 hl (m_X7_isWithin _ h v1 (0 : Int32) (x1 - (1 : Int32)) p2 z3) gX7_findVat_X7_isWithin rfl rfl rfl (by decide +kernel) ⟨Nat.le_of_ble_eq_true rfl, Nat.le_of_ble_eq_true rfl⟩ (Nat.le_of_ble_eq_true rfl) dX7_findVat_8 ⟨Nat.le_of_ble_eq_true rfl, Nat.le_of_ble_eq_true rfl⟩ rfl rfl k) ?_
  refine or_if_eq C 23 dX7_findVat_11 (by decide) ?_ ?_
  · refine or_null C dX7_findVat_23 ?_
    refine or_sub [] rfl ?_
    exact w_X7_findVat_24 C hl h o none
  · refine or_aload_n C 0 rfl dX7_findVat_14 ?_
    refine or_getR C 7 3 rfl (by decide) rfl (by decide) u_X7_findVat_7 (by decide) k_X7_findVat_f29 (by decide +kernel) dX7_findVat_15 (fun x4 => ?_)
    refine or_iload_n C 1 rfl dX7_findVat_18 ?_
    refine or_aald C 6 (fun _ => rfl) (by decide) rfl dX7_findVat_19 (fun x5 => ?_)
    refine or_goto C 24 dX7_findVat_20 (by decide) ?_
    refine or_sub [] rfl ?_
    exact w_X7_findVat_24 C hl h o x5
theorem m_X7_findVat (l : Launch) (h : oh_H) (o : Nat) (v1 : Int32) (p : Option Nat) (hf : f_X7_findVat h o v1 = some p) : oh_M l yX7_findVat wsX7_findVat rmX7_findVat 0 0 [xr (some o), xi v1] h (some (xr p)) h :=
  oh_met (cc := cX7_findVat) (maxL := 2) (ret := (some (.object "OilPress$Vat"))) (by decide) rfl (Nat.le_of_ble_eq_true rfl) (fun G C hl hN E => w_X7_findVat_0 C hl h o v1 p hf E)
