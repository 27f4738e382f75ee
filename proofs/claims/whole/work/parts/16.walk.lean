/-! X7_pour -/
theorem k_X7_pour_f176 : Cond.fieldLink RX7 176 "OilPress$Mill" "isPressing" "Z" ∈ wsX7_pour := List.mem_of_getElem? (i := 1) (by decide +kernel)
theorem u_X7_pour_3 : ∀ w ∈ u_ws RX3 TX3 14, w ∈ wsX7_pour := fun w h => List.mem_cons_of_mem _ (List.mem_append_left _ (List.mem_append_left _ (List.mem_append_left _ (List.mem_append_right _ (h)))))
theorem k_X7_pour_f205 : Cond.fieldLink RX7 205 "OilPress$Mill" "kept" "I" ∈ wsX7_pour := List.mem_of_getElem? (i := 2) (by decide +kernel)
theorem k_X7_pour_f232 : Cond.fieldLink RX7 232 "OilPress$Vat" "tenths" "I" ∈ wsX7_pour := List.mem_of_getElem? (i := 3) (by decide +kernel)
theorem u_X7_pour_6 : ∀ w ∈ u_ws RX6 TX6 8, w ∈ wsX7_pour := fun w h => List.mem_cons_of_mem _ (List.mem_append_left _ (List.mem_append_left _ (List.mem_append_right _ (h))))
abbrev rmX7_pour : Room := { frames := 2, cells := 0, slots := 0, locals := 45 }
def f_X7_pour_37 (h : oh_H) (o : Nat) : Option (Int32 × oh_H) :=
  some ((-1 : Int32), h)
def f_X7_pour (h : oh_H) (o : Nat) (v1 : Int32) (v2 : Int32) : Option (Int32 × oh_H) :=
  oh_rc h (some o) 8 fun o2 => (f_X7_findMill h o2 v1).bind fun p3 => oh_lt p3 fun x5 => oh_rc h (some o) 8 fun o7 => (f_X7_findVat h o7 v2).bind fun p8 => oh_lt p8 fun x10 => if x5 = none then (f_X7_pour_37 h o) else (if x10 = none then (f_X7_pour_37 h o) else ((oh_gI h x5 201).bind fun x11 => if x11 = 0 then (f_X7_pour_37 h o) else ((oh_gI h x5 205).bind fun x12 => if x12 = (-1 : Int32) then (f_X7_pour_37 h o) else (oh_rc h x10 7 fun o13 => (f_X6_admits h o13 x5).bind fun p16 => if p16 = 0 then (some ((-1 : Int32), h)) else (oh_rc h x10 7 fun o18 => (f_X6_receive h o18 x5).bind fun p21 => oh_rc p21 x5 4 fun o23 => (f_X3_emptyTo p21 o23 v2).bind fun p26 => (oh_gI p26 x10 387).bind fun x28 => some (x28, p26))))))
set_option maxHeartbeats 4000000 in
set_option maxRecDepth 100000 in
theorem w_X7_pour_37 {G : oh_G} {l : Launch} (C : oh_C G cX7_pour wsX7_pour RX7 rmX7_pour 5) (hl : G.1.2.1 = l) (h0 : oh_H) (h : oh_H) (o : Nat) : oh_J (oh_TW h0 xi 0 0 (some .int) G) (f_X7_pour_37 h o) (oh_V G 0 0 h 37 [] []) := by
  unfold f_X7_pour_37
  refine or_iconst C (v := (-1 : Int32)) dX7_pour_37 (by decide) ?_
  exact or_iret C ⟨Nat.le_of_ble_eq_true rfl, Nat.le_of_ble_eq_true rfl⟩ dX7_pour_38
set_option maxHeartbeats 4000000 in
set_option maxRecDepth 100000 in
theorem w_X7_pour_0 {G : oh_G} {l : Launch} (C : oh_C G cX7_pour wsX7_pour RX7 rmX7_pour 5) (hl : G.1.2.1 = l) (h0 : oh_H) (h : oh_H) (o : Nat) (v1 : Int32) (v2 : Int32) : oh_J (oh_TW h0 xi 0 0 (some .int) G) (f_X7_pour h o v1 v2) (oh_V G 0 0 h 0 [(0, xr (some o)), (1, xi v1), (2, xi v2)] []) := by
  unfold f_X7_pour
  refine or_aload_n C 0 rfl dX7_pour_0 ?_
  refine or_iload_n C 1 rfl dX7_pour_1 ?_
  refine oj_rcs (fun q1 => ?_)
  refine oj_bind (fun p3 z4 => ?_)
  refine oj_v (P := oh_V G 0 0 h 5 [(0, xr (some o)), (1, xi v1), (2, xi v2)] [xr p3]) (fun k => or_callV C 1 hl (m_X7_findMill _ h o v1 p3 z4) gX7_pour_X7_findMill rfl rfl rfl (by decide +kernel) ⟨Nat.le_of_ble_eq_true rfl, Nat.le_of_ble_eq_true rfl⟩ q1 rfl (by decide) (Nat.le_of_ble_eq_true rfl) dX7_pour_2 ⟨Nat.le_of_ble_eq_true rfl, Nat.le_of_ble_eq_true rfl⟩ rfl rfl k) ?_
  refine or_astore_n C (fun x5 => [(3, xr x5), (0, xr (some o)), (1, xi v1), (2, xi v2)]) (fun _ => rfl) (by decide) dX7_pour_5 (fun x5 => ?_)
  refine or_aload_n C 1 rfl dX7_pour_6 ?_
  refine or_iload_n C 3 rfl dX7_pour_7 ?_
  refine oj_rcs (fun q6 => ?_)
  refine oj_bind (fun p8 z9 => ?_)
  refine oj_v (P := oh_V G 0 0 h 11 [(3, xr x5), (0, xr (some o)), (1, xi v1), (2, xi v2)] [xr p8]) (fun k => or_callV C 1 hl (m_X7_findVat _ h o v2 p8 z9) gX7_pour_X7_findVat rfl rfl rfl (by decide +kernel) ⟨Nat.le_of_ble_eq_true rfl, Nat.le_of_ble_eq_true rfl⟩ q6 rfl (by decide) (Nat.le_of_ble_eq_true rfl) dX7_pour_8 ⟨Nat.le_of_ble_eq_true rfl, Nat.le_of_ble_eq_true rfl⟩ rfl rfl k) ?_
  refine or_astore C (fun x10 => [(4, xr x10), (3, xr x5), (0, xr (some o)), (1, xi v1), (2, xi v2)]) (fun _ => rfl) (by decide) dX7_pour_11 (fun x10 => ?_)
  refine or_aload_n C 1 rfl dX7_pour_13 ?_
  refine or_ifnull C 37 dX7_pour_14 (by decide) ?_ ?_
  · refine or_sub [] rfl ?_
    exact w_X7_pour_37 C hl h0 h o
  · refine or_aload C 0 rfl dX7_pour_17 ?_
    refine or_ifnull C 37 dX7_pour_19 (by decide) ?_ ?_
    · refine or_sub [] rfl ?_
      exact w_X7_pour_37 C hl h0 h o
    · refine or_aload_n C 1 rfl dX7_pour_22 ?_
      refine or_getI C 3 9 rfl (by decide) rfl (by decide) u_X7_pour_3 (by decide) k_X7_pour_f176 (by decide +kernel) dX7_pour_23 (fun x11 => ?_)
      refine or_if_eq C 37 dX7_pour_26 (by decide) ?_ ?_
      · refine or_sub [] rfl ?_
        exact w_X7_pour_37 C hl h0 h o
      · refine or_aload_n C 1 rfl dX7_pour_29 ?_
        refine or_getI C 3 13 rfl (by decide) rfl (by decide) u_X7_pour_3 (by decide) k_X7_pour_f205 (by decide +kernel) dX7_pour_30 (fun x12 => ?_)
        refine or_iconst C (v := (-1 : Int32)) dX7_pour_33 (by decide) ?_
        refine or_icmp_ne C 39 dX7_pour_34 (by decide) ?_ ?_
        · refine or_sub [] rfl ?_
          exact w_X7_pour_37 C hl h0 h o
        · refine or_aload C 0 rfl dX7_pour_39 ?_
          refine or_aload_n C 1 rfl dX7_pour_41 ?_
          refine oj_rc (fun o13 e15 q14 => ?_)
          refine oj_bind (fun p16 z17 => ?_)
          refine oj_v (P := oh_V G 0 0 h 45 [(4, xr x10), (3, xr x5), (0, xr (some o)), (1, xi v1), (2, xi v2)] [xi p16]) (fun k => or_callV C 1 hl (m_X6_admits _ h o13 x5 p16 z17) gX7_pour_X6_admits rfl rfl rfl (by decide +kernel) ⟨Nat.le_of_ble_eq_true rfl, Nat.le_of_ble_eq_true rfl⟩ q14 rfl (by decide) (Nat.le_of_ble_eq_true rfl) dX7_pour_42 ⟨Nat.le_of_ble_eq_true rfl, Nat.le_of_ble_eq_true rfl⟩ rfl (by rw [e15]; rfl) k) ?_
          refine or_if_ne C 50 dX7_pour_45 (by decide) ?_ ?_
          · refine or_iconst C (v := (-1 : Int32)) dX7_pour_48 (by decide) ?_
            exact or_iret C ⟨Nat.le_of_ble_eq_true rfl, Nat.le_of_ble_eq_true rfl⟩ dX7_pour_49
          · refine or_aload C 0 rfl dX7_pour_50 ?_
            refine or_aload_n C 1 rfl dX7_pour_52 ?_
            refine oj_rc (fun o18 e20 q19 => ?_)
            refine oj_bind (fun p21 z22 => ?_)
            refine oj_v (P := oh_V G 0 0 p21 56 [(4, xr x10), (3, xr x5), (0, xr (some o)), (1, xi v1), (2, xi v2)] []) (fun k => or_callV C 1 hl (m_X6_receive _ h o18 x5 p21 z22) gX7_pour_X6_receive rfl rfl rfl (by decide +kernel) ⟨Nat.le_of_ble_eq_true rfl, Nat.le_of_ble_eq_true rfl⟩ q19 rfl (by decide) (Nat.le_of_ble_eq_true rfl) dX7_pour_53 ⟨Nat.le_of_ble_eq_true rfl, Nat.le_of_ble_eq_true rfl⟩ rfl (by rw [e20]; rfl) k) ?_
            refine or_aload_n C 1 rfl dX7_pour_56 ?_
            refine or_iload_n C 4 rfl dX7_pour_57 ?_
            refine oj_rc (fun o23 e25 q24 => ?_)
            refine oj_bind (fun p26 z27 => ?_)
            refine oj_v (P := oh_V G 0 0 p26 61 [(4, xr x10), (3, xr x5), (0, xr (some o)), (1, xi v1), (2, xi v2)] []) (fun k => or_callV C 1 hl (m_X3_emptyTo _ p21 o23 v2 p26 z27) gX7_pour_X3_emptyTo rfl rfl rfl (by decide +kernel) ⟨Nat.le_of_ble_eq_true rfl, Nat.le_of_ble_eq_true rfl⟩ q24 rfl (by decide) (Nat.le_of_ble_eq_true rfl) dX7_pour_58 ⟨Nat.le_of_ble_eq_true rfl, Nat.le_of_ble_eq_true rfl⟩ rfl (by rw [e25]; rfl) k) ?_
            refine or_aload C 0 rfl dX7_pour_61 ?_
            refine or_getI C 6 3 rfl (by decide) rfl (by decide) u_X7_pour_6 (by decide) k_X7_pour_f232 (by decide +kernel) dX7_pour_63 (fun x28 => ?_)
            exact or_iret C ⟨Nat.le_of_ble_eq_true rfl, Nat.le_of_ble_eq_true rfl⟩ dX7_pour_66
theorem m_X7_pour (l : Launch) (h : oh_H) (o : Nat) (v1 : Int32) (v2 : Int32) (p : Int32 × oh_H) (hf : f_X7_pour h o v1 v2 = some p) : oh_M l yX7_pour wsX7_pour rmX7_pour 0 0 [xr (some o), xi v1, xi v2] h (some (xi p.1)) p.2 :=
  oh_met (cc := cX7_pour) (maxL := 5) (ret := (some .int)) (by decide) rfl (Nat.le_of_ble_eq_true rfl) (fun G C hl hN E => w_X7_pour_0 C hl h h o v1 v2 p hf E)
/-! X7_vatOf -/
theorem k_X7_vatOf_f116 : Cond.fieldLink RX7 116 "OilPress$Lot" "state" "I" ∈ wsX7_vatOf := List.mem_of_getElem? (i := 1) (by decide +kernel)
theorem u_X7_vatOf_2 : ∀ w ∈ u_ws RX2 TX2 12, w ∈ wsX7_vatOf := fun w h => List.mem_cons_of_mem _ (List.mem_append_left _ (List.mem_append_right _ (h)))
theorem k_X7_vatOf_f145 : Cond.fieldLink RX7 145 "OilPress$Lot" "place" "I" ∈ wsX7_vatOf := List.mem_of_getElem? (i := 2) (by decide +kernel)
abbrev rmX7_vatOf : Room := { frames := 2, cells := 0, slots := 0, locals := 43 }
def f_X7_vatOf_25 (h : oh_H) (o : Nat) (s0 : Option Nat) : Option (Option Nat) :=
  some s0
def f_X7_vatOf_24 (h : oh_H) (o : Nat) : Option (Option Nat) :=
  f_X7_vatOf_25 h o none
def f_X7_vatOf (h : oh_H) (o : Nat) (v1 : Option Nat) : Option (Option Nat) :=
  if v1 = none then (f_X7_vatOf_24 h o) else ((oh_gI h v1 132).bind fun x1 => if x1 = (6 : Int32) then ((oh_gI h v1 138).bind fun x2 => oh_rc h (some o) 8 fun o4 => (f_X7_findVat h o4 x2).bind fun p5 => f_X7_vatOf_25 h o p5) else (f_X7_vatOf_24 h o))
set_option maxHeartbeats 4000000 in
set_option maxRecDepth 100000 in
theorem w_X7_vatOf_25 {G : oh_G} {l : Launch} (C : oh_C G cX7_vatOf wsX7_vatOf RX7 rmX7_vatOf 2) (hl : G.1.2.1 = l) (h : oh_H) (o : Nat) (s0 : Option Nat) : oh_J (oh_TR h xr (some (.object "OilPress$Vat")) G) (f_X7_vatOf_25 h o s0) (oh_V G 0 0 h 25 [] [xr s0]) := by
  unfold f_X7_vatOf_25
  exact or_aretR C dX7_vatOf_25
set_option maxHeartbeats 4000000 in
set_option maxRecDepth 100000 in
theorem w_X7_vatOf_24 {G : oh_G} {l : Launch} (C : oh_C G cX7_vatOf wsX7_vatOf RX7 rmX7_vatOf 2) (hl : G.1.2.1 = l) (h : oh_H) (o : Nat) : oh_J (oh_TR h xr (some (.object "OilPress$Vat")) G) (f_X7_vatOf_24 h o) (oh_V G 0 0 h 24 [] []) := by
  unfold f_X7_vatOf_24
  refine or_null C dX7_vatOf_24 ?_
  refine or_sub [] rfl ?_
  exact w_X7_vatOf_25 C hl h o none
set_option maxHeartbeats 4000000 in
set_option maxRecDepth 100000 in
theorem w_X7_vatOf_0 {G : oh_G} {l : Launch} (C : oh_C G cX7_vatOf wsX7_vatOf RX7 rmX7_vatOf 2) (hl : G.1.2.1 = l) (h : oh_H) (o : Nat) (v1 : Option Nat) : oh_J (oh_TR h xr (some (.object "OilPress$Vat")) G) (f_X7_vatOf h o v1) (oh_V G 0 0 h 0 [(0, xr (some o)), (1, xr v1)] []) := by
  unfold f_X7_vatOf
  refine or_aload_n C 1 rfl dX7_vatOf_0 ?_
  refine or_ifnull C 24 dX7_vatOf_1 (by decide) ?_ ?_
  · refine or_sub [] rfl ?_
    exact w_X7_vatOf_24 C hl h o
  · refine or_aload_n C 1 rfl dX7_vatOf_4 ?_
    refine or_getI C 2 4 rfl (by decide) rfl (by decide) u_X7_vatOf_2 (by decide) k_X7_vatOf_f116 (by decide +kernel) dX7_vatOf_5 (fun x1 => ?_)
    refine or_bipush C (v := (6 : Int32)) dX7_vatOf_8 (by decide) ?_
    refine or_icmp_ne C 24 dX7_vatOf_10 (by decide) ?_ ?_
    · refine or_aload_n C 0 rfl dX7_vatOf_13 ?_
      refine or_aload_n C 1 rfl dX7_vatOf_14 ?_
      refine or_getI C 2 10 rfl (by decide) rfl (by decide) u_X7_vatOf_2 (by decide) k_X7_vatOf_f145 (by decide +kernel) dX7_vatOf_15 (fun x2 => ?_)
      refine oj_rcs (fun q3 => ?_)
      refine oj_bind (fun p5 z6 => ?_)
      refine oj_v (P := oh_V G 0 0 h 21 [(0, xr (some o)), (1, xr v1)] [xr p5]) (fun k => or_callV C 1 hl (m_X7_findVat _ h o x2 p5 z6) gX7_vatOf_X7_findVat rfl rfl rfl (by decide +kernel) ⟨Nat.le_of_ble_eq_true rfl, Nat.le_of_ble_eq_true rfl⟩ q3 rfl (by decide) (Nat.le_of_ble_eq_true rfl) dX7_vatOf_18 ⟨Nat.le_of_ble_eq_true rfl, Nat.le_of_ble_eq_true rfl⟩ rfl rfl k) ?_
      refine or_goto C 25 dX7_vatOf_21 (by decide) ?_
      refine or_sub [] rfl ?_
      exact w_X7_vatOf_25 C hl h o p5
    · refine or_sub [] rfl ?_
      exact w_X7_vatOf_24 C hl h o
theorem m_X7_vatOf (l : Launch) (h : oh_H) (o : Nat) (v1 : Option Nat) (p : Option Nat) (hf : f_X7_vatOf h o v1 = some p) : oh_M l yX7_vatOf wsX7_vatOf rmX7_vatOf 0 0 [xr (some o), xr v1] h (some (xr p)) h :=
  oh_met (cc := cX7_vatOf) (maxL := 2) (ret := (some (.object "OilPress$Vat"))) (by decide) rfl (Nat.le_of_ble_eq_true rfl) (fun G C hl hN E => w_X7_vatOf_0 C hl h o v1 p hf E)
/-! X7_fetch -/
theorem k_X7_fetch_f142 : Cond.fieldLink RX7 142 "OilPress$Lot" "left" "I" ∈ wsX7_fetch := List.mem_of_getElem? (i := 1) (by decide +kernel)
theorem u_X7_fetch_2 : ∀ w ∈ u_ws RX2 TX2 12, w ∈ wsX7_fetch := fun w h => List.mem_cons_of_mem _ (List.mem_append_left _ (List.mem_append_left _ (List.mem_append_left _ (List.mem_append_right _ (h)))))
theorem k_X7_fetch_f43 : Cond.fieldLink RX7 43 "OilPress" "totals" "LOilPress$Totals;" ∈ wsX7_fetch := List.mem_of_getElem? (i := 2) (by decide +kernel)
theorem u_X7_fetch_7 : ∀ w ∈ u_ws RX7 TX7 14, w ∈ wsX7_fetch := fun w h => List.mem_cons_of_mem _ (List.mem_append_left _ (List.mem_append_left _ (List.mem_append_right _ (h))))
theorem k_X7_fetch_f240 : Cond.fieldLink RX7 240 "OilPress$Totals" "fetched" "I" ∈ wsX7_fetch := List.mem_of_getElem? (i := 3) (by decide +kernel)
theorem u_X7_fetch_5 : ∀ w ∈ u_ws RX5 TX5 5, w ∈ wsX7_fetch := fun w h => List.mem_cons_of_mem _ (List.mem_append_left _ (List.mem_append_right _ (h)))
abbrev rmX7_fetch : Room := { frames := 3, cells := 0, slots := 0, locals := 64 }
def f_X7_fetch_28 (h : oh_H) (o : Nat) : Option (Int32 × oh_H) :=
  some ((-1 : Int32), h)
def f_X7_fetch (h : oh_H) (o : Nat) (v1 : Int32) : Option (Int32 × oh_H) :=
  oh_rc h (some o) 8 fun o2 => (f_X7_findLot h o2 v1).bind fun p3 => oh_lt p3 fun x5 => oh_rc h (some o) 8 fun o7 => (f_X7_vatOf h o7 x5).bind fun p8 => oh_lt p8 fun x10 => if x5 = none then (f_X7_fetch_28 h o) else (if x10 = none then (f_X7_fetch_28 h o) else ((oh_gI h x5 137).bind fun x11 => if (1 : Int32) ≤ x11 then ((oh_gI h x5 137).bind fun x12 => oh_lt x12 fun x13 => (oh_pI h x5 137 (0 : Int32)).bind fun h14 => oh_rc h14 x10 7 fun o15 => (f_X6_lose h14 o15 x13).bind fun p18 => (oh_gR p18 (some o) 453).bind fun x20 => (oh_gI p18 x20 321).bind fun x21 => (oh_pI p18 x20 321 (x21 + x13)).bind fun h22 => some (x13, h22)) else (f_X7_fetch_28 h o)))
set_option maxHeartbeats 4000000 in
set_option maxRecDepth 100000 in
theorem w_X7_fetch_28 {G : oh_G} {l : Launch} (C : oh_C G cX7_fetch wsX7_fetch RX7 rmX7_fetch 5) (hl : G.1.2.1 = l) (h0 : oh_H) (h : oh_H) (o : Nat) : oh_J (oh_TW h0 xi 0 0 (some .int) G) (f_X7_fetch_28 h o) (oh_V G 0 0 h 28 [] []) := by
  unfold f_X7_fetch_28
  refine or_iconst C (v := (-1 : Int32)) dX7_fetch_28 (by decide) ?_
  exact or_iret C ⟨Nat.le_of_ble_eq_true rfl, Nat.le_of_ble_eq_true rfl⟩ dX7_fetch_29
set_option maxHeartbeats 4000000 in
set_option maxRecDepth 100000 in
theorem w_X7_fetch_0 {G : oh_G} {l : Launch} (C : oh_C G cX7_fetch wsX7_fetch RX7 rmX7_fetch 5) (hl : G.1.2.1 = l) (h0 : oh_H) (h : oh_H) (o : Nat) (v1 : Int32) : oh_J (oh_TW h0 xi 0 0 (some .int) G) (f_X7_fetch h o v1) (oh_V G 0 0 h 0 [(0, xr (some o)), (1, xi v1)] []) := by
  unfold f_X7_fetch
  refine or_aload_n C 0 rfl dX7_fetch_0 ?_
  refine or_iload_n C 1 rfl dX7_fetch_1 ?_
  refine oj_rcs (fun q1 => ?_)
  refine oj_bind (fun p3 z4 => ?_)
  refine oj_v (P := oh_V G 0 0 h 5 [(0, xr (some o)), (1, xi v1)] [xr p3]) (fun k => or_callV C 1 hl (m_X7_findLot _ h o v1 p3 z4) gX7_fetch_X7_findLot rfl rfl rfl (by decide +kernel) ⟨Nat.le_of_ble_eq_true rfl, Nat.le_of_ble_eq_true rfl⟩ q1 rfl (by decide) (Nat.le_of_ble_eq_true rfl) dX7_fetch_2 ⟨Nat.le_of_ble_eq_true rfl, Nat.le_of_ble_eq_true rfl⟩ rfl rfl k) ?_
  refine or_astore_n C (fun x5 => [(2, xr x5), (0, xr (some o)), (1, xi v1)]) (fun _ => rfl) (by decide) dX7_fetch_5 (fun x5 => ?_)
  refine or_aload_n C 1 rfl dX7_fetch_6 ?_
  refine or_aload_n C 0 rfl dX7_fetch_7 ?_
  refine oj_rcs (fun q6 => ?_)
  refine oj_bind (fun p8 z9 => ?_)
  refine oj_v (P := oh_V G 0 0 h 11 [(2, xr x5), (0, xr (some o)), (1, xi v1)] [xr p8]) (fun k => or_callV C 1 hl (m_X7_vatOf _ h o x5 p8 z9) gX7_fetch_X7_vatOf rfl rfl rfl (by decide +kernel) ⟨Nat.le_of_ble_eq_true rfl, Nat.le_of_ble_eq_true rfl⟩ q6 rfl (by decide) (Nat.le_of_ble_eq_true rfl) dX7_fetch_8 ⟨Nat.le_of_ble_eq_true rfl, Nat.le_of_ble_eq_true rfl⟩ rfl rfl k) ?_
  refine or_astore_n C (fun x10 => [(3, xr x10), (2, xr x5), (0, xr (some o)), (1, xi v1)]) (fun _ => rfl) (by decide) dX7_fetch_11 (fun x10 => ?_)
  refine or_aload_n C 1 rfl dX7_fetch_12 ?_
  refine or_ifnull C 28 dX7_fetch_13 (by decide) ?_ ?_
  · refine or_sub [] rfl ?_
    exact w_X7_fetch_28 C hl h0 h o
  · refine or_aload_n C 0 rfl dX7_fetch_16 ?_
    refine or_ifnull C 28 dX7_fetch_17 (by decide) ?_ ?_
    · refine or_sub [] rfl ?_
      exact w_X7_fetch_28 C hl h0 h o
    · refine or_aload_n C 1 rfl dX7_fetch_20 ?_
      refine or_getI C 2 9 rfl (by decide) rfl (by decide) u_X7_fetch_2 (by decide) k_X7_fetch_f142 (by decide +kernel) dX7_fetch_21 (fun x11 => ?_)
      refine or_iconst C (v := (1 : Int32)) dX7_fetch_24 (by decide) ?_
      refine or_icmp_ge C 30 dX7_fetch_25 (by decide) ?_ ?_
      · refine or_aload_n C 1 rfl dX7_fetch_30 ?_
        refine or_getI C 2 9 rfl (by decide) rfl (by decide) u_X7_fetch_2 (by decide) k_X7_fetch_f142 (by decide +kernel) dX7_fetch_31 (fun x12 => ?_)
        refine or_istore C (fun x13 => [(4, xi x13), (3, xr x10), (2, xr x5), (0, xr (some o)), (1, xi v1)]) (fun _ => rfl) (by decide) dX7_fetch_34 (fun x13 => ?_)
        refine or_aload_n C 2 rfl dX7_fetch_36 ?_
        refine or_iconst C (v := (0 : Int32)) dX7_fetch_37 (by decide) ?_
        refine or_putI C 2 9 rfl (by decide) rfl (by decide) u_X7_fetch_2 tyX2 tyX2_ok nmX2 (by decide) k_X7_fetch_f142 (Or.inl rfl) (by decide +kernel) rfl dX7_fetch_38 (fun h14 => ?_)
        refine or_aload_n C 1 rfl dX7_fetch_41 ?_
        refine or_iload C 0 rfl dX7_fetch_42 ?_
        refine oj_rc (fun o15 e17 q16 => ?_)
        refine oj_bind (fun p18 z19 => ?_)
        refine oj_v (P := oh_V G 0 0 p18 47 [(4, xi x13), (3, xr x10), (2, xr x5), (0, xr (some o)), (1, xi v1)] []) (fun k => or_callV C 1 hl (m_X6_lose _ h14 o15 x13 p18 z19) gX7_fetch_X6_lose rfl rfl rfl (by decide +kernel) ⟨Nat.le_of_ble_eq_true rfl, Nat.le_of_ble_eq_true rfl⟩ q16 rfl (by decide) (Nat.le_of_ble_eq_true rfl) dX7_fetch_44 ⟨Nat.le_of_ble_eq_true rfl, Nat.le_of_ble_eq_true rfl⟩ rfl (by rw [e17]; rfl) k) ?_
        refine or_aload_n C 3 rfl dX7_fetch_47 ?_
        refine or_getR C 7 5 rfl (by decide) rfl (by decide) u_X7_fetch_7 (by decide) k_X7_fetch_f43 (by decide +kernel) dX7_fetch_48 (fun x20 => ?_)
        refine or_dup C rfl dX7_fetch_51 ?_
        refine or_getI C 5 1 rfl (by decide) rfl (by decide) u_X7_fetch_5 (by decide) k_X7_fetch_f240 (by decide +kernel) dX7_fetch_52 (fun x21 => ?_)
        refine or_iload C 0 rfl dX7_fetch_55 ?_
        refine or_iadd C dX7_fetch_57 ?_
        refine or_putI C 5 1 rfl (by decide) rfl (by decide) u_X7_fetch_5 tyX5 tyX5_ok nmX5 (by decide) k_X7_fetch_f240 (Or.inl rfl) (by decide +kernel) rfl dX7_fetch_58 (fun h22 => ?_)
        refine or_iload C 0 rfl dX7_fetch_61 ?_
        exact or_iret C ⟨Nat.le_of_ble_eq_true rfl, Nat.le_of_ble_eq_true rfl⟩ dX7_fetch_63
      · refine or_sub [] rfl ?_
        exact w_X7_fetch_28 C hl h0 h o
theorem m_X7_fetch (l : Launch) (h : oh_H) (o : Nat) (v1 : Int32) (p : Int32 × oh_H) (hf : f_X7_fetch h o v1 = some p) : oh_M l yX7_fetch wsX7_fetch rmX7_fetch 0 0 [xr (some o), xi v1] h (some (xi p.1)) p.2 :=
  oh_met (cc := cX7_fetch) (maxL := 5) (ret := (some .int)) (by decide) rfl (Nat.le_of_ble_eq_true rfl) (fun G C hl hN E => w_X7_fetch_0 C hl h h o v1 p hf E)
/-! X7_draw -/
theorem k_X7_draw_f243 : Cond.fieldLink RX7 243 "OilPress$Vat" "ofPress" "I" ∈ wsX7_draw := List.mem_of_getElem? (i := 1) (by decide +kernel)
theorem u_X7_draw_6 : ∀ w ∈ u_ws RX6 TX6 8, w ∈ wsX7_draw := fun w h => List.mem_cons_of_mem _ (List.mem_append_left _ (List.mem_append_left _ (List.mem_append_right _ (h))))
theorem k_X7_draw_f43 : Cond.fieldLink RX7 43 "OilPress" "totals" "LOilPress$Totals;" ∈ wsX7_draw := List.mem_of_getElem? (i := 2) (by decide +kernel)
theorem u_X7_draw_7 : ∀ w ∈ u_ws RX7 TX7 14, w ∈ wsX7_draw := fun w h => List.mem_cons_of_mem _ (List.mem_append_left _ (List.mem_append_right _ (h)))
theorem k_X7_draw_f249 : Cond.fieldLink RX7 249 "OilPress$Totals" "drawn" "I" ∈ wsX7_draw := List.mem_of_getElem? (i := 3) (by decide +kernel)
theorem u_X7_draw_5 : ∀ w ∈ u_ws RX5 TX5 5, w ∈ wsX7_draw := fun w h => List.mem_cons_of_mem _ (List.mem_append_right _ (h))
abbrev rmX7_draw : Room := { frames := 2, cells := 0, slots := 0, locals := 43 }
def f_X7_draw_22 (h : oh_H) (o : Nat) : Option (Int32 × oh_H) :=
  some ((-1 : Int32), h)
def f_X7_draw (h : oh_H) (o : Nat) (v1 : Int32) (v2 : Int32) : Option (Int32 × oh_H) :=
  oh_rc h (some o) 8 fun o2 => (f_X7_findVat h o2 v1).bind fun p3 => oh_lt p3 fun x5 => if x5 = none then (f_X7_draw_22 h o) else ((oh_gI h x5 388).bind fun x6 => (f_X7_isWithin h v2 (1 : Int32) x6).bind fun p7 => if p7 = 0 then (f_X7_draw_22 h o) else (oh_rc h x5 7 fun o9 => (f_X6_loseOfPress h o9 v2).bind fun p12 => (oh_gR p12 (some o) 453).bind fun x14 => (oh_gI p12 x14 322).bind fun x15 => (oh_pI p12 x14 322 (x15 + v2)).bind fun h16 => (oh_gI h16 x5 388).bind fun x17 => some (x17, h16)))
set_option maxHeartbeats 4000000 in
set_option maxRecDepth 100000 in
theorem w_X7_draw_22 {G : oh_G} {l : Launch} (C : oh_C G cX7_draw wsX7_draw RX7 rmX7_draw 4) (hl : G.1.2.1 = l) (h0 : oh_H) (h : oh_H) (o : Nat) : oh_J (oh_TW h0 xi 0 0 (some .int) G) (f_X7_draw_22 h o) (oh_V G 0 0 h 22 [] []) := by
  unfold f_X7_draw_22
  refine or_iconst C (v := (-1 : Int32)) dX7_draw_22 (by decide) ?_
  exact or_iret C ⟨Nat.le_of_ble_eq_true rfl, Nat.le_of_ble_eq_true rfl⟩ dX7_draw_23
set_option maxHeartbeats 4000000 in
set_option maxRecDepth 100000 in
theorem w_X7_draw_0 {G : oh_G} {l : Launch} (C : oh_C G cX7_draw wsX7_draw RX7 rmX7_draw 4) (hl : G.1.2.1 = l) (h0 : oh_H) (h : oh_H) (o : Nat) (v1 : Int32) (v2 : Int32) : oh_J (oh_TW h0 xi 0 0 (some .int) G) (f_X7_draw h o v1 v2) (oh_V G 0 0 h 0 [(0, xr (some o)), (1, xi v1), (2, xi v2)] []) := by
  unfold f_X7_draw
  refine or_aload_n C 0 rfl dX7_draw_0 ?_
  refine or_iload_n C 1 rfl dX7_draw_1 ?_
  refine oj_rcs (fun q1 => ?_)
  refine oj_bind (fun p3 z4 => ?_)
  refine oj_v (P := oh_V G 0 0 h 5 [(0, xr (some o)), (1, xi v1), (2, xi v2)] [xr p3]) (fun k => or_callV C 1 hl (m_X7_findVat _ h o v1 p3 z4) gX7_draw_X7_findVat rfl rfl rfl (by decide +kernel) ⟨Nat.le_of_ble_eq_true rfl, Nat.le_of_ble_eq_true rfl⟩ q1 rfl (by decide) (Nat.le_of_ble_eq_true rfl) dX7_draw_2 ⟨Nat.le_of_ble_eq_true rfl, Nat.le_of_ble_eq_true rfl⟩ rfl rfl k) ?_
  refine or_astore_n C (fun x5 => [(3, xr x5), (0, xr (some o)), (1, xi v1), (2, xi v2)]) (fun _ => rfl) (by decide) dX7_draw_5 (fun x5 => ?_)
  refine or_aload_n C 0 rfl dX7_draw_6 ?_
  refine or_ifnull C 22 dX7_draw_7 (by decide) ?_ ?_
  · refine or_sub [] rfl ?_
    exact w_X7_draw_22 C hl h0 h o
  · refine or_iload_n C 3 rfl dX7_draw_10 ?_
    refine or_iconst C (v := (1 : Int32)) dX7_draw_11 (by decide) ?_
    refine or_aload_n C 0 rfl dX7_draw_12 ?_
    refine or_getI C 6 4 rfl (by decide) rfl (by decide) u_X7_draw_6 (by decide) k_X7_draw_f243 (by decide +kernel) dX7_draw_13 (fun x6 => ?_)
    refine oj_bind (fun p7 z8 => ?_)
    refine oj_v (P := oh_V G 0 0 h 19 [(3, xr x5), (0, xr (some o)), (1, xi v1), (2, xi v2)] [xi p7]) (fun k => or_callS C 3 hl (m_X7_isWithin _ h v2 (1 : Int32) x6 p7 z8) gX7_draw_X7_isWithin rfl rfl rfl (by decide +kernel) ⟨Nat.le_of_ble_eq_true rfl, Nat.le_of_ble_eq_true rfl⟩ (Nat.le_of_ble_eq_true rfl) dX7_draw_16 ⟨Nat.le_of_ble_eq_true rfl, Nat.le_of_ble_eq_true rfl⟩ rfl rfl k) ?_
    refine or_if_ne C 24 dX7_draw_19 (by decide) ?_ ?_
    · refine or_sub [] rfl ?_
      exact w_X7_draw_22 C hl h0 h o
    · refine or_aload_n C 0 rfl dX7_draw_24 ?_
      refine or_iload_n C 3 rfl dX7_draw_25 ?_
      refine oj_rc (fun o9 e11 q10 => ?_)
      refine oj_bind (fun p12 z13 => ?_)
      refine oj_v (P := oh_V G 0 0 p12 29 [(3, xr x5), (0, xr (some o)), (1, xi v1), (2, xi v2)] []) (fun k => or_callV C 1 hl (m_X6_loseOfPress _ h o9 v2 p12 z13) gX7_draw_X6_loseOfPress rfl rfl rfl (by decide +kernel) ⟨Nat.le_of_ble_eq_true rfl, Nat.le_of_ble_eq_true rfl⟩ q10 rfl (by decide) (Nat.le_of_ble_eq_true rfl) dX7_draw_26 ⟨Nat.le_of_ble_eq_true rfl, Nat.le_of_ble_eq_true rfl⟩ rfl (by rw [e11]; rfl) k) ?_
      refine or_aload_n C 1 rfl dX7_draw_29 ?_
      refine or_getR C 7 5 rfl (by decide) rfl (by decide) u_X7_draw_7 (by decide) k_X7_draw_f43 (by decide +kernel) dX7_draw_30 (fun x14 => ?_)
      refine or_dup C rfl dX7_draw_33 ?_
      refine or_getI C 5 2 rfl (by decide) rfl (by decide) u_X7_draw_5 (by decide) k_X7_draw_f249 (by decide +kernel) dX7_draw_34 (fun x15 => ?_)
      refine or_iload_n C 3 rfl dX7_draw_37 ?_
      refine or_iadd C dX7_draw_38 ?_
      refine or_putI C 5 2 rfl (by decide) rfl (by decide) u_X7_draw_5 tyX5 tyX5_ok nmX5 (by decide) k_X7_draw_f249 (Or.inl rfl) (by decide +kernel) rfl dX7_draw_39 (fun h16 => ?_)
      refine or_aload_n C 0 rfl dX7_draw_42 ?_
      refine or_getI C 6 4 rfl (by decide) rfl (by decide) u_X7_draw_6 (by decide) k_X7_draw_f243 (by decide +kernel) dX7_draw_43 (fun x17 => ?_)
      exact or_iret C ⟨Nat.le_of_ble_eq_true rfl, Nat.le_of_ble_eq_true rfl⟩ dX7_draw_46
theorem m_X7_draw (l : Launch) (h : oh_H) (o : Nat) (v1 : Int32) (v2 : Int32) (p : Int32 × oh_H) (hf : f_X7_draw h o v1 v2 = some p) : oh_M l yX7_draw wsX7_draw rmX7_draw 0 0 [xr (some o), xi v1, xi v2] h (some (xi p.1)) p.2 :=
  oh_met (cc := cX7_draw) (maxL := 4) (ret := (some .int)) (by decide) rfl (Nat.le_of_ble_eq_true rfl) (fun G C hl hN E => w_X7_draw_0 C hl h h o v1 v2 p hf E)
/-! X7_lend -/
theorem k_X7_lend_f243 : Cond.fieldLink RX7 243 "OilPress$Vat" "ofPress" "I" ∈ wsX7_lend := List.mem_of_getElem? (i := 1) (by decide +kernel)
theorem u_X7_lend_6 : ∀ w ∈ u_ws RX6 TX6 8, w ∈ wsX7_lend := fun w h => List.mem_cons_of_mem _ (List.mem_append_left _ (List.mem_append_left _ (List.mem_append_left _ (List.mem_append_right _ (h)))))
theorem k_X7_lend_f43 : Cond.fieldLink RX7 43 "OilPress" "totals" "LOilPress$Totals;" ∈ wsX7_lend := List.mem_of_getElem? (i := 2) (by decide +kernel)
theorem u_X7_lend_7 : ∀ w ∈ u_ws RX7 TX7 14, w ∈ wsX7_lend := fun w h => List.mem_cons_of_mem _ (List.mem_append_left _ (List.mem_append_left _ (List.mem_append_right _ (h))))
theorem k_X7_lend_f252 : Cond.fieldLink RX7 252 "OilPress$Totals" "lent" "I" ∈ wsX7_lend := List.mem_of_getElem? (i := 3) (by decide +kernel)
theorem u_X7_lend_5 : ∀ w ∈ u_ws RX5 TX5 5, w ∈ wsX7_lend := fun w h => List.mem_cons_of_mem _ (List.mem_append_left _ (List.mem_append_right _ (h)))
theorem k_X7_lend_f36 : Cond.fieldLink RX7 36 "OilPress" "debts" "LOilPress$Debts;" ∈ wsX7_lend := List.mem_of_getElem? (i := 4) (by decide +kernel)
theorem k_X7_lend_f255 : Cond.fieldLink RX7 255 "OilPress$Vat" "sort" "I" ∈ wsX7_lend := List.mem_of_getElem? (i := 5) (by decide +kernel)
abbrev rmX7_lend : Room := { frames := 3, cells := 0, slots := 0, locals := 65 }
def f_X7_lend_32 (h : oh_H) (o : Nat) : Option (Int32 × oh_H) :=
  some ((-1 : Int32), h)
def f_X7_lend (h : oh_H) (o : Nat) (v1 : Int32) (v2 : Int32) (v3 : Int32) : Option (Int32 × oh_H) :=
  oh_rc h (some o) 8 fun o2 => (f_X7_findVat h o2 v2).bind fun p3 => oh_lt p3 fun x5 => (f_X7_isFarmer h v1).bind fun p6 => if p6 = 0 then (f_X7_lend_32 h o) else (if x5 = none then (f_X7_lend_32 h o) else ((oh_gI h x5 388).bind fun x8 => (f_X7_isWithin h v3 (1 : Int32) x8).bind fun p9 => if p9 = 0 then (f_X7_lend_32 h o) else (oh_rc h x5 7 fun o11 => (f_X6_loseOfPress h o11 v3).bind fun p14 => (oh_gR p14 (some o) 453).bind fun x16 => (oh_gI p14 x16 323).bind fun x17 => (oh_pI p14 x16 323 (x17 + v3)).bind fun h18 => (oh_gR h18 (some o) 452).bind fun x19 => (oh_gI h18 x5 384).bind fun x20 => oh_rc h18 x19 1 fun o21 => (f_X0_change h18 o21 v1 x20 v3).bind fun p24 => (oh_gR p24 (some o) 452).bind fun x26 => (oh_gI p24 x5 384).bind fun x27 => oh_rc p24 x26 1 fun o28 => (f_X0_owed p24 o28 v1 x27).bind fun p31 => some (p31, p24))))
set_option maxHeartbeats 4000000 in
set_option maxRecDepth 100000 in
theorem w_X7_lend_32 {G : oh_G} {l : Launch} (C : oh_C G cX7_lend wsX7_lend RX7 rmX7_lend 5) (hl : G.1.2.1 = l) (h0 : oh_H) (h : oh_H) (o : Nat) : oh_J (oh_TW h0 xi 0 0 (some .int) G) (f_X7_lend_32 h o) (oh_V G 0 0 h 32 [] []) := by
  unfold f_X7_lend_32
  refine or_iconst C (v := (-1 : Int32)) dX7_lend_32 (by decide) ?_
  exact or_iret C ⟨Nat.le_of_ble_eq_true rfl, Nat.le_of_ble_eq_true rfl⟩ dX7_lend_33
set_option maxHeartbeats 4000000 in
set_option maxRecDepth 100000 in
theorem w_X7_lend_0 {G : oh_G} {l : Launch} (C : oh_C G cX7_lend wsX7_lend RX7 rmX7_lend 5) (hl : G.1.2.1 = l) (h0 : oh_H) (h : oh_H) (o : Nat) (v1 : Int32) (v2 : Int32) (v3 : Int32) : oh_J (oh_TW h0 xi 0 0 (some .int) G) (f_X7_lend h o v1 v2 v3) (oh_V G 0 0 h 0 [(0, xr (some o)), (1, xi v1), (2, xi v2), (3, xi v3)] []) := by
  unfold f_X7_lend
  refine or_aload_n C 0 rfl dX7_lend_0 ?_
  refine or_iload_n C 2 rfl dX7_lend_1 ?_
  refine oj_rcs (fun q1 => ?_)
  refine oj_bind (fun p3 z4 => ?_)
  refine oj_v (P := oh_V G 0 0 h 5 [(0, xr (some o)), (1, xi v1), (2, xi v2), (3, xi v3)] [xr p3]) (fun k => or_callV C 1 hl (m_X7_findVat _ h o v2 p3 z4) gX7_lend_X7_findVat rfl rfl rfl (by decide +kernel) ⟨Nat.le_of_ble_eq_true rfl, Nat.le_of_ble_eq_true rfl⟩ q1 rfl (by decide) (Nat.le_of_ble_eq_true rfl) dX7_lend_2 ⟨Nat.le_of_ble_eq_true rfl, Nat.le_of_ble_eq_true rfl⟩ rfl rfl k) ?_
  refine or_astore C (fun x5 => [(4, xr x5), (0, xr (some o)), (1, xi v1), (2, xi v2), (3, xi v3)]) (fun _ => rfl) (by decide) dX7_lend_5 (fun x5 => ?_)
  refine or_iload_n C 2 rfl dX7_lend_7 ?_
  refine oj_bind (fun p6 z7 => ?_)
  refine oj_v (P := oh_V G 0 0 h 11 [(4, xr x5), (0, xr (some o)), (1, xi v1), (2, xi v2), (3, xi v3)] [xi p6]) (fun k => or_callS C 1 hl (m_X7_isFarmer _ h v1 p6 z7) gX7_lend_X7_isFarmer rfl rfl rfl (by decide +kernel) ⟨Nat.le_of_ble_eq_true rfl, Nat.le_of_ble_eq_true rfl⟩ (Nat.le_of_ble_eq_true rfl) dX7_lend_8 ⟨Nat.le_of_ble_eq_true rfl, Nat.le_of_ble_eq_true rfl⟩ rfl rfl k) ?_
  refine or_if_eq C 32 dX7_lend_11 (by decide) ?_ ?_
  · refine or_sub [] rfl ?_
    exact w_X7_lend_32 C hl h0 h o
  · refine or_aload C 0 rfl dX7_lend_14 ?_
    refine or_ifnull C 32 dX7_lend_16 (by decide) ?_ ?_
    · refine or_sub [] rfl ?_
      exact w_X7_lend_32 C hl h0 h o
    · refine or_iload_n C 4 rfl dX7_lend_19 ?_
      refine or_iconst C (v := (1 : Int32)) dX7_lend_20 (by decide) ?_
      refine or_aload C 0 rfl dX7_lend_21 ?_
      refine or_getI C 6 4 rfl (by decide) rfl (by decide) u_X7_lend_6 (by decide) k_X7_lend_f243 (by decide +kernel) dX7_lend_23 (fun x8 => ?_)
      refine oj_bind (fun p9 z10 => ?_)
      refine oj_v (P := oh_V G 0 0 h 29 [(4, xr x5), (0, xr (some o)), (1, xi v1), (2, xi v2), (3, xi v3)] [xi p9]) (fun k => or_callS C 3 hl (m_X7_isWithin _ h v3 (1 : Int32) x8 p9 z10) gX7_lend_X7_isWithin rfl rfl rfl (by decide +kernel) ⟨Nat.le_of_ble_eq_true rfl, Nat.le_of_ble_eq_true rfl⟩ (Nat.le_of_ble_eq_true rfl) dX7_lend_26 ⟨Nat.le_of_ble_eq_true rfl, Nat.le_of_ble_eq_true rfl⟩ rfl rfl k) ?_
      refine or_if_ne C 34 dX7_lend_29 (by decide) ?_ ?_
      · refine or_sub [] rfl ?_
        exact w_X7_lend_32 C hl h0 h o
      · refine or_aload C 0 rfl dX7_lend_34 ?_
        refine or_iload_n C 4 rfl dX7_lend_36 ?_
        refine oj_rc (fun o11 e13 q12 => ?_)
        refine oj_bind (fun p14 z15 => ?_)
        refine oj_v (P := oh_V G 0 0 p14 40 [(4, xr x5), (0, xr (some o)), (1, xi v1), (2, xi v2), (3, xi v3)] []) (fun k => or_callV C 1 hl (m_X6_loseOfPress _ h o11 v3 p14 z15) gX7_lend_X6_loseOfPress rfl rfl rfl (by decide +kernel) ⟨Nat.le_of_ble_eq_true rfl, Nat.le_of_ble_eq_true rfl⟩ q12 rfl (by decide) (Nat.le_of_ble_eq_true rfl) dX7_lend_37 ⟨Nat.le_of_ble_eq_true rfl, Nat.le_of_ble_eq_true rfl⟩ rfl (by rw [e13]; rfl) k) ?_
        refine or_aload_n C 1 rfl dX7_lend_40 ?_
        refine or_getR C 7 5 rfl (by decide) rfl (by decide) u_X7_lend_7 (by decide) k_X7_lend_f43 (by decide +kernel) dX7_lend_41 (fun x16 => ?_)
        refine or_dup C rfl dX7_lend_44 ?_
        refine or_getI C 5 3 rfl (by decide) rfl (by decide) u_X7_lend_5 (by decide) k_X7_lend_f252 (by decide +kernel) dX7_lend_45 (fun x17 => ?_)
        refine or_iload_n C 4 rfl dX7_lend_48 ?_
        refine or_iadd C dX7_lend_49 ?_
        refine or_putI C 5 3 rfl (by decide) rfl (by decide) u_X7_lend_5 tyX5 tyX5_ok nmX5 (by decide) k_X7_lend_f252 (Or.inl rfl) (by decide +kernel) rfl dX7_lend_50 (fun h18 => ?_)
        refine or_aload_n C 1 rfl dX7_lend_53 ?_
        refine or_getR C 7 4 rfl (by decide) rfl (by decide) u_X7_lend_7 (by decide) k_X7_lend_f36 (by decide +kernel) dX7_lend_54 (fun x19 => ?_)
        refine or_iload_n C 2 rfl dX7_lend_57 ?_
        refine or_aload C 0 rfl dX7_lend_58 ?_
        refine or_getI C 6 0 rfl (by decide) rfl (by decide) u_X7_lend_6 (by decide) k_X7_lend_f255 (by decide +kernel) dX7_lend_60 (fun x20 => ?_)
        refine or_iload_n C 4 rfl dX7_lend_63 ?_
        refine oj_rc (fun o21 e23 q22 => ?_)
        refine oj_bind (fun p24 z25 => ?_)
        refine oj_v (P := oh_V G 0 0 p24 67 [(4, xr x5), (0, xr (some o)), (1, xi v1), (2, xi v2), (3, xi v3)] []) (fun k => or_callV C 3 hl (m_X0_change _ h18 o21 v1 x20 v3 p24 z25) gX7_lend_X0_change rfl rfl rfl (by decide +kernel) ⟨Nat.le_of_ble_eq_true rfl, Nat.le_of_ble_eq_true rfl⟩ q22 rfl (by decide) (Nat.le_of_ble_eq_true rfl) dX7_lend_64 ⟨Nat.le_of_ble_eq_true rfl, Nat.le_of_ble_eq_true rfl⟩ rfl (by rw [e23]; rfl) k) ?_
        refine or_aload_n C 1 rfl dX7_lend_67 ?_
        refine or_getR C 7 4 rfl (by decide) rfl (by decide) u_X7_lend_7 (by decide) k_X7_lend_f36 (by decide +kernel) dX7_lend_68 (fun x26 => ?_)
        refine or_iload_n C 2 rfl dX7_lend_71 ?_
        refine or_aload C 0 rfl dX7_lend_72 ?_
        refine or_getI C 6 0 rfl (by decide) rfl (by decide) u_X7_lend_6 (by decide) k_X7_lend_f255 (by decide +kernel) dX7_lend_74 (fun x27 => ?_)
        refine oj_rc (fun o28 e30 q29 => ?_)
        refine oj_bind (fun p31 z32 => ?_)
        refine oj_v (P := oh_V G 0 0 p24 80 [(4, xr x5), (0, xr (some o)), (1, xi v1), (2, xi v2), (3, xi v3)] [xi p31]) (fun k => or_callV C 2 hl (m_X0_owed _ p24 o28 v1 x27 p31 z32) gX7_lend_X0_owed rfl rfl rfl (by decide +kernel) ⟨Nat.le_of_ble_eq_true rfl, Nat.le_of_ble_eq_true rfl⟩ q29 rfl (by decide) (Nat.le_of_ble_eq_true rfl) dX7_lend_77 ⟨Nat.le_of_ble_eq_true rfl, Nat.le_of_ble_eq_true rfl⟩ rfl (by rw [e30]; rfl) k) ?_
        exact or_iret C ⟨Nat.le_of_ble_eq_true rfl, Nat.le_of_ble_eq_true rfl⟩ dX7_lend_80
theorem m_X7_lend (l : Launch) (h : oh_H) (o : Nat) (v1 : Int32) (v2 : Int32) (v3 : Int32) (p : Int32 × oh_H) (hf : f_X7_lend h o v1 v2 v3 = some p) : oh_M l yX7_lend wsX7_lend rmX7_lend 0 0 [xr (some o), xi v1, xi v2, xi v3] h (some (xi p.1)) p.2 :=
  oh_met (cc := cX7_lend) (maxL := 5) (ret := (some .int)) (by decide) rfl (Nat.le_of_ble_eq_true rfl) (fun G C hl hN E => w_X7_lend_0 C hl h h o v1 v2 v3 p hf E)
/-! X7_pay -/
theorem k_X7_pay_f105 : Cond.fieldLink RX7 105 "OilPress$Lot" "kind" "I" ∈ wsX7_pay := List.mem_of_getElem? (i := 1) (by decide +kernel)
theorem u_X7_pay_2 : ∀ w ∈ u_ws RX2 TX2 12, w ∈ wsX7_pay := fun w h => List.mem_cons_of_mem _ (List.mem_append_left _ (List.mem_append_left _ (List.mem_append_left _ (List.mem_append_left _ (List.mem_append_right _ (h))))))
theorem k_X7_pay_f142 : Cond.fieldLink RX7 142 "OilPress$Lot" "left" "I" ∈ wsX7_pay := List.mem_of_getElem? (i := 2) (by decide +kernel)
theorem k_X7_pay_f36 : Cond.fieldLink RX7 36 "OilPress" "debts" "LOilPress$Debts;" ∈ wsX7_pay := List.mem_of_getElem? (i := 3) (by decide +kernel)
theorem u_X7_pay_7 : ∀ w ∈ u_ws RX7 TX7 14, w ∈ wsX7_pay := fun w h => List.mem_cons_of_mem _ (List.mem_append_left _ (List.mem_append_left _ (List.mem_append_left _ (List.mem_append_right _ (h)))))
theorem k_X7_pay_f129 : Cond.fieldLink RX7 129 "OilPress$Lot" "grove" "LOilPress$Grove;" ∈ wsX7_pay := List.mem_of_getElem? (i := 4) (by decide +kernel)
theorem k_X7_pay_f265 : Cond.fieldLink RX7 265 "OilPress$Grove" "farmer" "I" ∈ wsX7_pay := List.mem_of_getElem? (i := 5) (by decide +kernel)
theorem u_X7_pay_1 : ∀ w ∈ u_ws RX1 TX1 3, w ∈ wsX7_pay := fun w h => List.mem_cons_of_mem _ (List.mem_append_left _ (List.mem_append_left _ (List.mem_append_right _ (h))))
theorem k_X7_pay_f255 : Cond.fieldLink RX7 255 "OilPress$Vat" "sort" "I" ∈ wsX7_pay := List.mem_of_getElem? (i := 6) (by decide +kernel)
theorem u_X7_pay_6 : ∀ w ∈ u_ws RX6 TX6 8, w ∈ wsX7_pay := fun w h => List.mem_cons_of_mem _ (List.mem_append_left _ (List.mem_append_right _ (h)))
theorem k_X7_pay_f243 : Cond.fieldLink RX7 243 "OilPress$Vat" "ofPress" "I" ∈ wsX7_pay := List.mem_of_getElem? (i := 7) (by decide +kernel)
abbrev rmX7_pay : Room := { frames := 4, cells := 0, slots := 0, locals := 95 }
def f_X7_pay_36 (h : oh_H) (o : Nat) : Option (Int32 × oh_H) :=
  some ((-1 : Int32), h)
def f_X7_pay (h : oh_H) (o : Nat) (v1 : Int32) : Option (Int32 × oh_H) :=
  oh_rc h (some o) 8 fun o2 => (f_X7_findLot h o2 v1).bind fun p3 => oh_lt p3 fun x5 => oh_rc h (some o) 8 fun o7 => (f_X7_vatOf h o7 x5).bind fun p8 => oh_lt p8 fun x10 => if x5 = none then (f_X7_pay_36 h o) else (if x10 = none then (f_X7_pay_36 h o) else ((oh_gI h x5 131).bind fun x11 => if x11 = (4 : Int32) then ((oh_gI h x5 137).bind fun x12 => if (1 : Int32) ≤ x12 then ((oh_gR h (some o) 452).bind fun x13 => (oh_gR h x5 129).bind fun x14 => (oh_gI h x14 65).bind fun x15 => (oh_gI h x10 384).bind fun x16 => (oh_gI h x5 137).bind fun x17 => oh_rc h x13 1 fun o18 => (f_X0_settle h o18 x15 x16 x17).bind fun p21 => oh_lt p21.1 fun x23 => (oh_gI p21.2 x5 137).bind fun x24 => (oh_pI p21.2 x5 137 (x24 - x23)).bind fun h25 => (oh_gI h25 x10 388).bind fun x26 => (oh_pI h25 x10 388 (x26 + x23)).bind fun h27 => some (x23, h27)) else (f_X7_pay_36 h o)) else (f_X7_pay_36 h o)))
set_option maxHeartbeats 4000000 in
set_option maxRecDepth 100000 in
theorem w_X7_pay_36 {G : oh_G} {l : Launch} (C : oh_C G cX7_pay wsX7_pay RX7 rmX7_pay 5) (hl : G.1.2.1 = l) (h0 : oh_H) (h : oh_H) (o : Nat) : oh_J (oh_TW h0 xi 0 0 (some .int) G) (f_X7_pay_36 h o) (oh_V G 0 0 h 36 [] []) := by
  unfold f_X7_pay_36
  refine or_iconst C (v := (-1 : Int32)) dX7_pay_36 (by decide) ?_
  exact or_iret C ⟨Nat.le_of_ble_eq_true rfl, Nat.le_of_ble_eq_true rfl⟩ dX7_pay_37
set_option maxHeartbeats 4000000 in
set_option maxRecDepth 100000 in
theorem w_X7_pay_0 {G : oh_G} {l : Launch} (C : oh_C G cX7_pay wsX7_pay RX7 rmX7_pay 5) (hl : G.1.2.1 = l) (h0 : oh_H) (h : oh_H) (o : Nat) (v1 : Int32) : oh_J (oh_TW h0 xi 0 0 (some .int) G) (f_X7_pay h o v1) (oh_V G 0 0 h 0 [(0, xr (some o)), (1, xi v1)] []) := by
  unfold f_X7_pay
  refine or_aload_n C 0 rfl dX7_pay_0 ?_
  refine or_iload_n C 1 rfl dX7_pay_1 ?_
  refine oj_rcs (fun q1 => ?_)
  refine oj_bind (fun p3 z4 => ?_)
  refine oj_v (P := oh_V G 0 0 h 5 [(0, xr (some o)), (1, xi v1)] [xr p3]) (fun k => or_callV C 1 hl (m_X7_findLot _ h o v1 p3 z4) gX7_pay_X7_findLot rfl rfl rfl (by decide +kernel) ⟨Nat.le_of_ble_eq_true rfl, Nat.le_of_ble_eq_true rfl⟩ q1 rfl (by decide) (Nat.le_of_ble_eq_true rfl) dX7_pay_2 ⟨Nat.le_of_ble_eq_true rfl, Nat.le_of_ble_eq_true rfl⟩ rfl rfl k) ?_
  refine or_astore_n C (fun x5 => [(2, xr x5), (0, xr (some o)), (1, xi v1)]) (fun _ => rfl) (by decide) dX7_pay_5 (fun x5 => ?_)
  refine or_aload_n C 1 rfl dX7_pay_6 ?_
  refine or_aload_n C 0 rfl dX7_pay_7 ?_
  refine oj_rcs (fun q6 => ?_)
  refine oj_bind (fun p8 z9 => ?_)
  refine oj_v (P := oh_V G 0 0 h 11 [(2, xr x5), (0, xr (some o)), (1, xi v1)] [xr p8]) (fun k => or_callV C 1 hl (m_X7_vatOf _ h o x5 p8 z9) gX7_pay_X7_vatOf rfl rfl rfl (by decide +kernel) ⟨Nat.le_of_ble_eq_true rfl, Nat.le_of_ble_eq_true rfl⟩ q6 rfl (by decide) (Nat.le_of_ble_eq_true rfl) dX7_pay_8 ⟨Nat.le_of_ble_eq_true rfl, Nat.le_of_ble_eq_true rfl⟩ rfl rfl k) ?_
  refine or_astore_n C (fun x10 => [(3, xr x10), (2, xr x5), (0, xr (some o)), (1, xi v1)]) (fun _ => rfl) (by decide) dX7_pay_11 (fun x10 => ?_)
  refine or_aload_n C 1 rfl dX7_pay_12 ?_
  refine or_ifnull C 36 dX7_pay_13 (by decide) ?_ ?_
  · refine or_sub [] rfl ?_
    exact w_X7_pay_36 C hl h0 h o
  · refine or_aload_n C 0 rfl dX7_pay_16 ?_
    refine or_ifnull C 36 dX7_pay_17 (by decide) ?_ ?_
    · refine or_sub [] rfl ?_
      exact w_X7_pay_36 C hl h0 h o
    · refine or_aload_n C 1 rfl dX7_pay_20 ?_
      refine or_getI C 2 3 rfl (by decide) rfl (by decide) u_X7_pay_2 (by decide) k_X7_pay_f105 (by decide +kernel) dX7_pay_21 (fun x11 => ?_)
      refine or_iconst C (v := (4 : Int32)) dX7_pay_24 (by decide) ?_
      refine or_icmp_ne C 36 dX7_pay_25 (by decide) ?_ ?_
      · refine or_aload_n C 1 rfl dX7_pay_28 ?_
        refine or_getI C 2 9 rfl (by decide) rfl (by decide) u_X7_pay_2 (by decide) k_X7_pay_f142 (by decide +kernel) dX7_pay_29 (fun x12 => ?_)
        refine or_iconst C (v := (1 : Int32)) dX7_pay_32 (by decide) ?_
        refine or_icmp_ge C 38 dX7_pay_33 (by decide) ?_ ?_
        · refine or_aload_n C 2 rfl dX7_pay_38 ?_
          refine or_getR C 7 4 rfl (by decide) rfl (by decide) u_X7_pay_7 (by decide) k_X7_pay_f36 (by decide +kernel) dX7_pay_39 (fun x13 => ?_)
          refine or_aload_n C 1 rfl dX7_pay_42 ?_
          refine or_getR C 2 1 rfl (by decide) rfl (by decide) u_X7_pay_2 (by decide) k_X7_pay_f129 (by decide +kernel) dX7_pay_43 (fun x14 => ?_)
          refine or_getI C 1 1 rfl (by decide) rfl (by decide) u_X7_pay_1 (by decide) k_X7_pay_f265 (by decide +kernel) dX7_pay_46 (fun x15 => ?_)
          refine or_aload_n C 0 rfl dX7_pay_49 ?_
          refine or_getI C 6 0 rfl (by decide) rfl (by decide) u_X7_pay_6 (by decide) k_X7_pay_f255 (by decide +kernel) dX7_pay_50 (fun x16 => ?_)
          refine or_aload_n C 1 rfl dX7_pay_53 ?_
          refine or_getI C 2 9 rfl (by decide) rfl (by decide) u_X7_pay_2 (by decide) k_X7_pay_f142 (by decide +kernel) dX7_pay_54 (fun x17 => ?_)
          refine oj_rc (fun o18 e20 q19 => ?_)
          refine oj_bind (fun p21 z22 => ?_)
          refine oj_v (P := oh_V G 0 0 p21.2 60 [(3, xr x10), (2, xr x5), (0, xr (some o)), (1, xi v1)] [xi p21.1]) (fun k => or_callV C 3 hl (m_X0_settle _ h o18 x15 x16 x17 p21 z22) gX7_pay_X0_settle rfl rfl rfl (by decide +kernel) ⟨Nat.le_of_ble_eq_true rfl, Nat.le_of_ble_eq_true rfl⟩ q19 rfl (by decide) (Nat.le_of_ble_eq_true rfl) dX7_pay_57 ⟨Nat.le_of_ble_eq_true rfl, Nat.le_of_ble_eq_true rfl⟩ rfl (by rw [e20]; rfl) k) ?_
          refine or_istore C (fun x23 => [(4, xi x23), (3, xr x10), (2, xr x5), (0, xr (some o)), (1, xi v1)]) (fun _ => rfl) (by decide) dX7_pay_60 (fun x23 => ?_)
          refine or_aload_n C 2 rfl dX7_pay_62 ?_
          refine or_dup C rfl dX7_pay_63 ?_
          refine or_getI C 2 9 rfl (by decide) rfl (by decide) u_X7_pay_2 (by decide) k_X7_pay_f142 (by decide +kernel) dX7_pay_64 (fun x24 => ?_)
          refine or_iload C 0 rfl dX7_pay_67 ?_
          refine or_isub C dX7_pay_69 ?_
          refine or_putI C 2 9 rfl (by decide) rfl (by decide) u_X7_pay_2 tyX2 tyX2_ok nmX2 (by decide) k_X7_pay_f142 (Or.inl rfl) (by decide +kernel) rfl dX7_pay_70 (fun h25 => ?_)
          refine or_aload_n C 1 rfl dX7_pay_73 ?_
          refine or_dup C rfl dX7_pay_74 ?_
          refine or_getI C 6 4 rfl (by decide) rfl (by decide) u_X7_pay_6 (by decide) k_X7_pay_f243 (by decide +kernel) dX7_pay_75 (fun x26 => ?_)
          refine or_iload C 0 rfl dX7_pay_78 ?_
          refine or_iadd C dX7_pay_80 ?_
          refine or_putI C 6 4 rfl (by decide) rfl (by decide) u_X7_pay_6 tyX6 tyX6_ok nmX6 (by decide) k_X7_pay_f243 (Or.inl rfl) (by decide +kernel) rfl dX7_pay_81 (fun h27 => ?_)
          refine or_iload C 0 rfl dX7_pay_84 ?_
          exact or_iret C ⟨Nat.le_of_ble_eq_true rfl, Nat.le_of_ble_eq_true rfl⟩ dX7_pay_86
        · refine or_sub [] rfl ?_
          exact w_X7_pay_36 C hl h0 h o
      · refine or_sub [] rfl ?_
        exact w_X7_pay_36 C hl h0 h o
theorem m_X7_pay (l : Launch) (h : oh_H) (o : Nat) (v1 : Int32) (p : Int32 × oh_H) (hf : f_X7_pay h o v1 = some p) : oh_M l yX7_pay wsX7_pay rmX7_pay 0 0 [xr (some o), xi v1] h (some (xi p.1)) p.2 :=
  oh_met (cc := cX7_pay) (maxL := 5) (ret := (some .int)) (by decide) rfl (Nat.le_of_ble_eq_true rfl) (fun G C hl hN E => w_X7_pay_0 C hl h h o v1 p hf E)
/-! X7_hand -/
theorem k_X7_hand_c214 : Cond.constant RX7 214 (50000) ∈ wsX7_hand := List.mem_of_getElem? (i := 1) (by decide +kernel)
theorem k_X7_hand_f36 : Cond.fieldLink RX7 36 "OilPress" "debts" "LOilPress$Debts;" ∈ wsX7_hand := List.mem_of_getElem? (i := 2) (by decide +kernel)
theorem u_X7_hand_7 : ∀ w ∈ u_ws RX7 TX7 14, w ∈ wsX7_hand := fun w h => List.mem_cons_of_mem _ (List.mem_append_left _ (List.mem_append_right _ (h)))
abbrev rmX7_hand : Room := { frames := 4, cells := 0, slots := 0, locals := 95 }
def f_X7_hand_24 (h : oh_H) (o : Nat) : Option (Int32 × oh_H) :=
  some ((-1 : Int32), h)
def f_X7_hand (h : oh_H) (o : Nat) (v1 : Int32) (v2 : Int32) (v3 : Int32) : Option (Int32 × oh_H) :=
  (f_X7_isFarmer h v1).bind fun p1 => if p1 = 0 then (f_X7_hand_24 h o) else ((f_X7_isSort h v2).bind fun p3 => if p3 = 0 then (f_X7_hand_24 h o) else ((f_X7_isWithin h v3 (0 : Int32) (50000 : Int32)).bind fun p5 => if p5 = 0 then (f_X7_hand_24 h o) else ((oh_gR h (some o) 452).bind fun x7 => oh_rc h x7 1 fun o8 => (f_X0_settle h o8 v1 v2 v3).bind fun p11 => some (p11.1, p11.2))))
set_option maxHeartbeats 4000000 in
set_option maxRecDepth 100000 in
theorem w_X7_hand_24 {G : oh_G} {l : Launch} (C : oh_C G cX7_hand wsX7_hand RX7 rmX7_hand 4) (hl : G.1.2.1 = l) (h0 : oh_H) (h : oh_H) (o : Nat) : oh_J (oh_TW h0 xi 0 0 (some .int) G) (f_X7_hand_24 h o) (oh_V G 0 0 h 24 [] []) := by
  unfold f_X7_hand_24
  refine or_iconst C (v := (-1 : Int32)) dX7_hand_24 (by decide) ?_
  exact or_iret C ⟨Nat.le_of_ble_eq_true rfl, Nat.le_of_ble_eq_true rfl⟩ dX7_hand_25
set_option maxHeartbeats 4000000 in
set_option maxRecDepth 100000 in
theorem w_X7_hand_0 {G : oh_G} {l : Launch} (C : oh_C G cX7_hand wsX7_hand RX7 rmX7_hand 4) (hl : G.1.2.1 = l) (h0 : oh_H) (h : oh_H) (o : Nat) (v1 : Int32) (v2 : Int32) (v3 : Int32) : oh_J (oh_TW h0 xi 0 0 (some .int) G) (f_X7_hand h o v1 v2 v3) (oh_V G 0 0 h 0 [(0, xr (some o)), (1, xi v1), (2, xi v2), (3, xi v3)] []) := by
  unfold f_X7_hand
  refine or_iload_n C 1 rfl dX7_hand_0 ?_
  refine oj_bind (fun p1 z2 => ?_)
  refine oj_v (P := oh_V G 0 0 h 4 [(0, xr (some o)), (1, xi v1), (2, xi v2), (3, xi v3)] [xi p1]) (fun k => or_callS C 1 hl (m_X7_isFarmer _ h v1 p1 z2) gX7_hand_X7_isFarmer rfl rfl rfl (by decide +kernel) ⟨Nat.le_of_ble_eq_true rfl, Nat.le_of_ble_eq_true rfl⟩ (Nat.le_of_ble_eq_true rfl) dX7_hand_1 ⟨Nat.le_of_ble_eq_true rfl, Nat.le_of_ble_eq_true rfl⟩ rfl rfl k) ?_
  refine or_if_eq C 24 dX7_hand_4 (by decide) ?_ ?_
  · refine or_sub [] rfl ?_
    exact w_X7_hand_24 C hl h0 h o
  · refine or_iload_n C 2 rfl dX7_hand_7 ?_
    refine oj_bind (fun p3 z4 => ?_)
    refine oj_v (P := oh_V G 0 0 h 11 [(0, xr (some o)), (1, xi v1), (2, xi v2), (3, xi v3)] [xi p3]) (fun k => or_callS C 1 hl (m_X7_isSort _ h v2 p3 z4) gX7_hand_X7_isSort rfl rfl rfl (by decide +kernel) ⟨Nat.le_of_ble_eq_true rfl, Nat.le_of_ble_eq_true rfl⟩ (Nat.le_of_ble_eq_true rfl) dX7_hand_8 ⟨Nat.le_of_ble_eq_true rfl, Nat.le_of_ble_eq_true rfl⟩ rfl rfl k) ?_
    refine or_if_eq C 24 dX7_hand_11 (by decide) ?_ ?_
    · refine or_sub [] rfl ?_
      exact w_X7_hand_24 C hl h0 h o
    · refine or_iload_n C 3 rfl dX7_hand_14 ?_
      refine or_iconst C (v := (0 : Int32)) dX7_hand_15 (by decide) ?_
      refine or_ldc C (v := (50000 : Int32)) k_X7_hand_c214 dX7_hand_16 ?_
      refine oj_bind (fun p5 z6 => ?_)
      refine oj_v (P := oh_V G 0 0 h 21 [(0, xr (some o)), (1, xi v1), (2, xi v2), (3, xi v3)] [xi p5]) (fun k => or_callS C 3 hl (m_X7_isWithin _ h v3 (0 : Int32) (50000 : Int32) p5 z6) gX7_hand_X7_isWithin rfl rfl rfl (by decide +kernel) ⟨Nat.le_of_ble_eq_true rfl, Nat.le_of_ble_eq_true rfl⟩ (Nat.le_of_ble_eq_true rfl) dX7_hand_18 ⟨Nat.le_of_ble_eq_true rfl, Nat.le_of_ble_eq_true rfl⟩ rfl rfl k) ?_
      refine or_if_ne C 26 dX7_hand_21 (by decide) ?_ ?_
      · refine or_sub [] rfl ?_
        exact w_X7_hand_24 C hl h0 h o
      · refine or_aload_n C 0 rfl dX7_hand_26 ?_
        refine or_getR C 7 4 rfl (by decide) rfl (by decide) u_X7_hand_7 (by decide) k_X7_hand_f36 (by decide +kernel) dX7_hand_27 (fun x7 => ?_)
        refine or_iload_n C 1 rfl dX7_hand_30 ?_
        refine or_iload_n C 2 rfl dX7_hand_31 ?_
        refine or_iload_n C 3 rfl dX7_hand_32 ?_
        refine oj_rc (fun o8 e10 q9 => ?_)
        refine oj_bind (fun p11 z12 => ?_)
        refine oj_v (P := oh_V G 0 0 p11.2 36 [(0, xr (some o)), (1, xi v1), (2, xi v2), (3, xi v3)] [xi p11.1]) (fun k => or_callV C 3 hl (m_X0_settle _ h o8 v1 v2 v3 p11 z12) gX7_hand_X0_settle rfl rfl rfl (by decide +kernel) ⟨Nat.le_of_ble_eq_true rfl, Nat.le_of_ble_eq_true rfl⟩ q9 rfl (by decide) (Nat.le_of_ble_eq_true rfl) dX7_hand_33 ⟨Nat.le_of_ble_eq_true rfl, Nat.le_of_ble_eq_true rfl⟩ rfl (by rw [e10]; rfl) k) ?_
        exact or_iret C ⟨Nat.le_of_ble_eq_true rfl, Nat.le_of_ble_eq_true rfl⟩ dX7_hand_36
theorem m_X7_hand (l : Launch) (h : oh_H) (o : Nat) (v1 : Int32) (v2 : Int32) (v3 : Int32) (p : Int32 × oh_H) (hf : f_X7_hand h o v1 v2 v3 = some p) : oh_M l yX7_hand wsX7_hand rmX7_hand 0 0 [xr (some o), xi v1, xi v2, xi v3] h (some (xi p.1)) p.2 :=
  oh_met (cc := cX7_hand) (maxL := 4) (ret := (some .int)) (by decide) rfl (Nat.le_of_ble_eq_true rfl) (fun G C hl hN E => w_X7_hand_0 C hl h h o v1 v2 v3 p hf E)
/-! X7_owes -/
theorem k_X7_owes_f36 : Cond.fieldLink RX7 36 "OilPress" "debts" "LOilPress$Debts;" ∈ wsX7_owes := List.mem_of_getElem? (i := 1) (by decide +kernel)
theorem u_X7_owes_7 : ∀ w ∈ u_ws RX7 TX7 14, w ∈ wsX7_owes := fun w h => List.mem_cons_of_mem _ (List.mem_append_left _ (List.mem_append_right _ (h)))
abbrev rmX7_owes : Room := { frames := 3, cells := 0, slots := 0, locals := 64 }
def f_X7_owes_27 (h : oh_H) (o : Nat) (s0 : Int32) : Option (Int32) :=
  some s0
def f_X7_owes_26 (h : oh_H) (o : Nat) : Option (Int32) :=
  f_X7_owes_27 h o (-1 : Int32)
def f_X7_owes (h : oh_H) (o : Nat) (v1 : Int32) (v2 : Int32) : Option (Int32) :=
  (f_X7_isFarmer h v1).bind fun p1 => if p1 = 0 then (f_X7_owes_26 h o) else ((f_X7_isSort h v2).bind fun p3 => if p3 = 0 then (f_X7_owes_26 h o) else ((oh_gR h (some o) 452).bind fun x5 => oh_rc h x5 1 fun o6 => (f_X0_owed h o6 v1 v2).bind fun p9 => f_X7_owes_27 h o p9))
set_option maxHeartbeats 4000000 in
set_option maxRecDepth 100000 in
theorem w_X7_owes_27 {G : oh_G} {l : Launch} (C : oh_C G cX7_owes wsX7_owes RX7 rmX7_owes 3) (hl : G.1.2.1 = l) (h : oh_H) (o : Nat) (s0 : Int32) : oh_J (oh_TR h xi (some .int) G) (f_X7_owes_27 h o s0) (oh_V G 0 0 h 27 [] [xi s0]) := by
  unfold f_X7_owes_27
  exact or_iretR C dX7_owes_27
set_option maxHeartbeats 4000000 in
set_option maxRecDepth 100000 in
theorem w_X7_owes_26 {G : oh_G} {l : Launch} (C : oh_C G cX7_owes wsX7_owes RX7 rmX7_owes 3) (hl : G.1.2.1 = l) (h : oh_H) (o : Nat) : oh_J (oh_TR h xi (some .int) G) (f_X7_owes_26 h o) (oh_V G 0 0 h 26 [] []) := by
  unfold f_X7_owes_26
  refine or_iconst C (v := (-1 : Int32)) dX7_owes_26 (by decide) ?_
  refine or_sub [] rfl ?_
  exact w_X7_owes_27 C hl h o (-1 : Int32)
set_option maxHeartbeats 4000000 in
set_option maxRecDepth 100000 in
theorem w_X7_owes_0 {G : oh_G} {l : Launch} (C : oh_C G cX7_owes wsX7_owes RX7 rmX7_owes 3) (hl : G.1.2.1 = l) (h : oh_H) (o : Nat) (v1 : Int32) (v2 : Int32) : oh_J (oh_TR h xi (some .int) G) (f_X7_owes h o v1 v2) (oh_V G 0 0 h 0 [(0, xr (some o)), (1, xi v1), (2, xi v2)] []) := by
  unfold f_X7_owes
  refine or_iload_n C 1 rfl dX7_owes_0 ?_
  refine oj_bind (fun p1 z2 => ?_)
  refine oj_v (P := oh_V G 0 0 h 4 [(0, xr (some o)), (1, xi v1), (2, xi v2)] [xi p1]) (fun k => or_callS C 1 hl (m_X7_isFarmer _ h v1 p1 z2) gX7_owes_X7_isFarmer rfl rfl rfl (by decide +kernel) ⟨Nat.le_of_ble_eq_true rfl, Nat.le_of_ble_eq_true rfl⟩ (Nat.le_of_ble_eq_true rfl) dX7_owes_1 ⟨Nat.le_of_ble_eq_true rfl, Nat.le_of_ble_eq_true rfl⟩ rfl rfl k) ?_
  refine or_if_eq C 26 dX7_owes_4 (by decide) ?_ ?_
  · refine or_sub [] rfl ?_
    exact w_X7_owes_26 C hl h o
  · refine or_iload_n C 2 rfl dX7_owes_7 ?_
    refine oj_bind (fun p3 z4 => ?_)
    refine oj_v (P := oh_V G 0 0 h 11 [(0, xr (some o)), (1, xi v1), (2, xi v2)] [xi p3]) (fun k => or_callS C 1 hl (m_X7_isSort _ h v2 p3 z4) gX7_owes_X7_isSort rfl rfl rfl (by decide +kernel) ⟨Nat.le_of_ble_eq_true rfl, Nat.le_of_ble_eq_true rfl⟩ (Nat.le_of_ble_eq_true rfl) dX7_owes_8 ⟨Nat.le_of_ble_eq_true rfl, Nat.le_of_ble_eq_true rfl⟩ rfl rfl k) ?_
    refine or_if_eq C 26 dX7_owes_11 (by decide) ?_ ?_
    · refine or_sub [] rfl ?_
      exact w_X7_owes_26 C hl h o
    · refine or_aload_n C 0 rfl dX7_owes_14 ?_
      refine or_getR C 7 4 rfl (by decide) rfl (by decide) u_X7_owes_7 (by decide) k_X7_owes_f36 (by decide +kernel) dX7_owes_15 (fun x5 => ?_)
      refine or_iload_n C 1 rfl dX7_owes_18 ?_
      refine or_iload_n C 2 rfl dX7_owes_19 ?_
      refine oj_rc (fun o6 e8 q7 => ?_)
      refine oj_bind (fun p9 z10 => ?_)
      refine oj_v (P := oh_V G 0 0 h 23 [(0, xr (some o)), (1, xi v1), (2, xi v2)] [xi p9]) (fun k => or_callV C 2 hl (m_X0_owed _ h o6 v1 v2 p9 z10) gX7_owes_X0_owed rfl rfl rfl (by decide +kernel) ⟨Nat.le_of_ble_eq_true rfl, Nat.le_of_ble_eq_true rfl⟩ q7 rfl (by decide) (Nat.le_of_ble_eq_true rfl) dX7_owes_20 ⟨Nat.le_of_ble_eq_true rfl, Nat.le_of_ble_eq_true rfl⟩ rfl (by rw [e8]; rfl) k) ?_
      refine or_goto C 27 dX7_owes_23 (by decide) ?_
      refine or_sub [] rfl ?_
      exact w_X7_owes_27 C hl h o p9
theorem m_X7_owes (l : Launch) (h : oh_H) (o : Nat) (v1 : Int32) (v2 : Int32) (p : Int32) (hf : f_X7_owes h o v1 v2 = some p) : oh_M l yX7_owes wsX7_owes rmX7_owes 0 0 [xr (some o), xi v1, xi v2] h (some (xi p)) h :=
  oh_met (cc := cX7_owes) (maxL := 3) (ret := (some .int)) (by decide) rfl (Nat.le_of_ble_eq_true rfl) (fun G C hl hN E => w_X7_owes_0 C hl h o v1 v2 p hf E)
/-! X7_beginDay -/
theorem k_X7_beginDay_f58 : Cond.fieldLink RX7 58 "OilPress" "lotCount" "I" ∈ wsX7_beginDay := List.mem_of_getElem? (i := 2) (by decide +kernel)
theorem u_X7_beginDay_7 : ∀ w ∈ u_ws RX7 TX7 14, w ∈ wsX7_beginDay := fun w h => List.mem_cons_of_mem _ (List.mem_append_left _ (List.mem_append_left _ (List.mem_append_right _ (h))))
theorem k_X7_beginDay_f17 : Cond.fieldLink RX7 17 "OilPress" "lots" "[LOilPress$Lot;" ∈ wsX7_beginDay := List.mem_of_getElem? (i := 3) (by decide +kernel)
theorem k_X7_beginDay_f136 : Cond.fieldLink RX7 136 "OilPress$Lot" "day" "I" ∈ wsX7_beginDay := List.mem_of_getElem? (i := 4) (by decide +kernel)
theorem u_X7_beginDay_2 : ∀ w ∈ u_ws RX2 TX2 12, w ∈ wsX7_beginDay := fun w h => List.mem_cons_of_mem _ (List.mem_append_left _ (List.mem_append_right _ (h)))
theorem k_X7_beginDay_f67 : Cond.fieldLink RX7 67 "OilPress" "freshDays" "I" ∈ wsX7_beginDay := List.mem_of_getElem? (i := 5) (by decide +kernel)
theorem k_X7_beginDay_f105 : Cond.fieldLink RX7 105 "OilPress$Lot" "kind" "I" ∈ wsX7_beginDay := List.mem_of_getElem? (i := 6) (by decide +kernel)
theorem k_X7_beginDay_f43 : Cond.fieldLink RX7 43 "OilPress" "totals" "LOilPress$Totals;" ∈ wsX7_beginDay := List.mem_of_getElem? (i := 7) (by decide +kernel)
theorem k_X7_beginDay_f341 : Cond.fieldLink RX7 341 "OilPress$Totals" "becameLate" "I" ∈ wsX7_beginDay := List.mem_of_getElem? (i := 8) (by decide +kernel)
theorem u_X7_beginDay_5 : ∀ w ∈ u_ws RX5 TX5 5, w ∈ wsX7_beginDay := fun w h => List.mem_cons_of_mem _ (List.mem_append_right _ (h))
theorem k_X7_beginDay_f73 : Cond.fieldLink RX7 73 "OilPress" "freePlaces" "I" ∈ wsX7_beginDay := List.mem_of_getElem? (i := 1) (by decide +kernel)
abbrev rmX7_beginDay : Room := { frames := 2, cells := 0, slots := 0, locals := 40 }
def f_X7_beginDay_68 (h : oh_H) (o : Nat) (v1 : Int32) (v2 : Int32) : Option ((oh_H × Int32) ⊕ (oh_H)) :=
  oh_lt (v2 + (1 : Int32)) fun x1 => some (Sum.inl (h, x1))
abbrev pv_X7_beginDay_7 (G : oh_G) (o : Nat) (v1 : Int32) : (oh_H × Int32) → Prop := fun s => oh_V G 0 0 s.1 7 [(0, xr (some o)), (1, xi v1), (2, xi s.2)] []
def b_X7_beginDay_7 (h : oh_H) (o : Nat) (v1 : Int32) (v2 : Int32) : Option ((oh_H × Int32) ⊕ (oh_H)) :=
  (oh_gI h (some o) 456).bind fun x1 => if x1 ≤ v2 then (Option.map Sum.inr (some h)) else ((oh_gR h (some o) 449).bind fun x2 => (oh_aR h x2 24 v2).bind fun x3 => oh_rc h x3 3 fun o4 => (f_X2_mayBecomeLate h o4).bind fun p7 => if p7 = 0 then (f_X7_beginDay_68 h o v1 v2) else ((oh_gR h (some o) 449).bind fun x9 => (oh_aR h x9 24 v2).bind fun x10 => (oh_gI h x10 130).bind fun x11 => (oh_gI h (some o) 459).bind fun x12 => if (v1 - x11) ≤ x12 then (f_X7_beginDay_68 h o v1 v2) else ((oh_gR h (some o) 449).bind fun x13 => (oh_aR h x13 24 v2).bind fun x14 => (oh_pI h x14 131 (3 : Int32)).bind fun h15 => (oh_gR h15 (some o) 453).bind fun x16 => (oh_gI h15 x16 324).bind fun x17 => (oh_pI h15 x16 324 (x17 + (1 : Int32))).bind fun h18 => f_X7_beginDay_68 h18 o v1 v2)))
def f_X7_beginDay_7 (h : oh_H) (o : Nat) (v1 : Int32) (v2 : Int32) : Option (oh_H) := oh_loop (fun s : oh_H × Int32 => b_X7_beginDay_7 s.1 o v1 s.2) 1000000 (h, v2)
def f_X7_beginDay (h : oh_H) (o : Nat) (v1 : Int32) : Option (oh_H) :=
  (oh_pI h (some o) 461 (-1 : Int32)).bind fun h1 => oh_lt (0 : Int32) fun x2 => f_X7_beginDay_7 h1 o v1 x2
set_option maxHeartbeats 4000000 in
set_option maxRecDepth 100000 in
theorem w_X7_beginDay_68 {G : oh_G} {l : Launch} (C : oh_C G cX7_beginDay wsX7_beginDay RX7 rmX7_beginDay 3) (hl : G.1.2.1 = l) (h0 : oh_H) (h : oh_H) (o : Nat) (v1 : Int32) (v2 : Int32) : oh_J (oh_TL (pv_X7_beginDay_7 G o v1) (oh_TV h0 0 0 none G)) (f_X7_beginDay_68 h o v1 v2) (oh_V G 0 0 h 68 [(0, xr (some o)), (1, xi v1), (2, xi v2)] []) := by
  unfold f_X7_beginDay_68
  refine or_iinc C (y := (1 : Int32)) 2 rfl (by decide) (fun x1 => [(2, xi x1), (0, xr (some o)), (1, xi v1)]) (fun _ => rfl) (by decide) dX7_beginDay_68 (fun x1 => ?_)
  refine or_goto C 7 dX7_beginDay_71 (by decide) ?_
  refine or_sub [1, 2, 0] rfl ?_
  exact oj_back (P := pv_X7_beginDay_7 G o v1) (s := (h, x1))
set_option maxHeartbeats 4000000 in
set_option maxRecDepth 100000 in
theorem wb_X7_beginDay_7 {G : oh_G} {l : Launch} (C : oh_C G cX7_beginDay wsX7_beginDay RX7 rmX7_beginDay 3) (hl : G.1.2.1 = l) (h0 : oh_H) (h : oh_H) (o : Nat) (v1 : Int32) (v2 : Int32) : oh_J (oh_TL (pv_X7_beginDay_7 G o v1) (oh_TV h0 0 0 none G)) (b_X7_beginDay_7 h o v1 v2) (oh_V G 0 0 h 7 [(0, xr (some o)), (1, xi v1), (2, xi v2)] []) := by
  unfold b_X7_beginDay_7
  refine or_iload_n C 2 rfl dX7_beginDay_7 ?_
  refine or_aload_n C 0 rfl dX7_beginDay_8 ?_
  refine or_getI C 7 8 rfl (by decide) rfl (by decide) u_X7_beginDay_7 (by decide) k_X7_beginDay_f58 (by decide +kernel) dX7_beginDay_9 (fun x1 => ?_)
  refine or_icmp_ge C 74 dX7_beginDay_12 (by decide) ?_ ?_
  · refine oj_inr ?_
    exact or_vret C ⟨Nat.le_of_ble_eq_true rfl, Nat.le_of_ble_eq_true rfl⟩ dX7_beginDay_74
  · refine or_aload_n C 0 rfl dX7_beginDay_15 ?_
    refine or_getR C 7 1 rfl (by decide) rfl (by decide) u_X7_beginDay_7 (by decide) k_X7_beginDay_f17 (by decide +kernel) dX7_beginDay_16 (fun x2 => ?_)
    refine or_iload_n C 2 rfl dX7_beginDay_19 ?_
    refine or_aald C 4 (fun _ => rfl) (by decide) rfl dX7_beginDay_20 (fun x3 => ?_)
    refine oj_rc (fun o4 e6 q5 => ?_)
    refine oj_bind (fun p7 z8 => ?_)
    refine oj_v (P := oh_V G 0 0 h 24 [(0, xr (some o)), (1, xi v1), (2, xi v2)] [xi p7]) (fun k => or_callV C 0 hl (m_X2_mayBecomeLate _ h o4 p7 z8) gX7_beginDay_X2_mayBecomeLate rfl rfl rfl (by decide +kernel) ⟨Nat.le_of_ble_eq_true rfl, Nat.le_of_ble_eq_true rfl⟩ q5 rfl (by decide) (Nat.le_of_ble_eq_true rfl) dX7_beginDay_21 ⟨Nat.le_of_ble_eq_true rfl, Nat.le_of_ble_eq_true rfl⟩ rfl (by rw [e6]; rfl) k) ?_
    refine or_if_eq C 68 dX7_beginDay_24 (by decide) ?_ ?_
    · refine or_sub [0, 1, 2] rfl ?_
      exact w_X7_beginDay_68 C hl h0 h o v1 v2
    · refine or_iload_n C 1 rfl dX7_beginDay_27 ?_
      refine or_aload_n C 0 rfl dX7_beginDay_28 ?_
      refine or_getR C 7 1 rfl (by decide) rfl (by decide) u_X7_beginDay_7 (by decide) k_X7_beginDay_f17 (by decide +kernel) dX7_beginDay_29 (fun x9 => ?_)
      refine or_iload_n C 2 rfl dX7_beginDay_32 ?_
      refine or_aald C 4 (fun _ => rfl) (by decide) rfl dX7_beginDay_33 (fun x10 => ?_)
      refine or_getI C 2 2 rfl (by decide) rfl (by decide) u_X7_beginDay_2 (by decide) k_X7_beginDay_f136 (by decide +kernel) dX7_beginDay_34 (fun x11 => ?_)
      refine or_isub C dX7_beginDay_37 ?_
      refine or_aload_n C 0 rfl dX7_beginDay_38 ?_
      refine or_getI C 7 11 rfl (by decide) rfl (by decide) u_X7_beginDay_7 (by decide) k_X7_beginDay_f67 (by decide +kernel) dX7_beginDay_39 (fun x12 => ?_)
      refine or_icmp_le C 68 dX7_beginDay_42 (by decide) ?_ ?_
      · refine or_sub [0, 1, 2] rfl ?_
        exact w_X7_beginDay_68 C hl h0 h o v1 v2
      · refine or_aload_n C 0 rfl dX7_beginDay_45 ?_
        refine or_getR C 7 1 rfl (by decide) rfl (by decide) u_X7_beginDay_7 (by decide) k_X7_beginDay_f17 (by decide +kernel) dX7_beginDay_46 (fun x13 => ?_)
        refine or_iload_n C 2 rfl dX7_beginDay_49 ?_
        refine or_aald C 4 (fun _ => rfl) (by decide) rfl dX7_beginDay_50 (fun x14 => ?_)
        refine or_iconst C (v := (3 : Int32)) dX7_beginDay_51 (by decide) ?_
        refine or_putI C 2 3 rfl (by decide) rfl (by decide) u_X7_beginDay_2 tyX2 tyX2_ok nmX2 (by decide) k_X7_beginDay_f105 (Or.inl rfl) (by decide +kernel) rfl dX7_beginDay_52 (fun h15 => ?_)
        refine or_aload_n C 0 rfl dX7_beginDay_55 ?_
        refine or_getR C 7 5 rfl (by decide) rfl (by decide) u_X7_beginDay_7 (by decide) k_X7_beginDay_f43 (by decide +kernel) dX7_beginDay_56 (fun x16 => ?_)
        refine or_dup C rfl dX7_beginDay_59 ?_
        refine or_getI C 5 4 rfl (by decide) rfl (by decide) u_X7_beginDay_5 (by decide) k_X7_beginDay_f341 (by decide +kernel) dX7_beginDay_60 (fun x17 => ?_)
        refine or_iconst C (v := (1 : Int32)) dX7_beginDay_63 (by decide) ?_
        refine or_iadd C dX7_beginDay_64 ?_
        refine or_putI C 5 4 rfl (by decide) rfl (by decide) u_X7_beginDay_5 tyX5 tyX5_ok nmX5 (by decide) k_X7_beginDay_f341 (Or.inl rfl) (by decide +kernel) rfl dX7_beginDay_65 (fun h18 => ?_)
        refine or_sub [0, 1, 2] rfl ?_
        exact w_X7_beginDay_68 C hl h0 h18 o v1 v2
theorem w_X7_beginDay_7 {G : oh_G} {l : Launch} (C : oh_C G cX7_beginDay wsX7_beginDay RX7 rmX7_beginDay 3) (hl : G.1.2.1 = l) (h0 : oh_H) (h : oh_H) (o : Nat) (v1 : Int32) (v2 : Int32) : oh_J (oh_TV h0 0 0 none G) (f_X7_beginDay_7 h o v1 v2) (oh_V G 0 0 h 7 [(0, xr (some o)), (1, xi v1), (2, xi v2)] []) := by
  unfold f_X7_beginDay_7
  exact oj_loop (P := pv_X7_beginDay_7 G o v1) (fun s => wb_X7_beginDay_7 C hl h0 s.1 o v1 s.2) 1000000 (h, v2)
set_option maxHeartbeats 4000000 in
set_option maxRecDepth 100000 in
theorem w_X7_beginDay_0 {G : oh_G} {l : Launch} (C : oh_C G cX7_beginDay wsX7_beginDay RX7 rmX7_beginDay 3) (hl : G.1.2.1 = l) (h0 : oh_H) (h : oh_H) (o : Nat) (v1 : Int32) : oh_J (oh_TV h0 0 0 none G) (f_X7_beginDay h o v1) (oh_V G 0 0 h 0 [(0, xr (some o)), (1, xi v1)] []) := by
  unfold f_X7_beginDay
  refine or_aload_n C 0 rfl dX7_beginDay_0 ?_
  refine or_iconst C (v := (-1 : Int32)) dX7_beginDay_1 (by decide) ?_
  refine or_putI C 7 13 rfl (by decide) rfl (by decide) u_X7_beginDay_7 tyX7 tyX7_ok nmX7 (by decide) k_X7_beginDay_f73 (Or.inl rfl) (by decide +kernel) rfl dX7_beginDay_2 (fun h1 => ?_)
  refine or_iconst C (v := (0 : Int32)) dX7_beginDay_5 (by decide) ?_
  refine or_istore_n C (fun x2 => [(2, xi x2), (0, xr (some o)), (1, xi v1)]) (fun _ => rfl) (by decide) dX7_beginDay_6 (fun x2 => ?_)
  refine or_sub [1, 2, 0] rfl ?_
  exact w_X7_beginDay_7 C hl h0 h1 o v1 x2
theorem m_X7_beginDay (l : Launch) (h : oh_H) (o : Nat) (v1 : Int32) (p : oh_H) (hf : f_X7_beginDay h o v1 = some p) : oh_M l yX7_beginDay wsX7_beginDay rmX7_beginDay 0 0 [xr (some o), xi v1] h none p :=
  oh_met (cc := cX7_beginDay) (maxL := 3) (ret := none) (by decide) rfl (Nat.le_of_ble_eq_true rfl) (fun G C hl hN E => w_X7_beginDay_0 C hl h h o v1 p hf E)
/-! X7_wait -/
theorem k_X7_wait_f64 : Cond.fieldLink RX7 64 "OilPress" "now" "I" ∈ wsX7_wait := List.mem_of_getElem? (i := 1) (by decide +kernel)
theorem u_X7_wait_7 : ∀ w ∈ u_ws RX7 TX7 14, w ∈ wsX7_wait := fun w h => List.mem_cons_of_mem _ (List.mem_append_left _ (List.mem_append_left _ (List.mem_append_right _ (h))))
theorem k_X7_wait_ml272 : Cond.methodLink RX7 272 Lib.Math.min.name ∈ wsX7_wait := List.mem_of_getElem? (i := 2) (by decide +kernel)
theorem k_X7_wait_msmmin : Cond.static Lib.Math.min.name ∈ wsX7_wait := List.mem_of_getElem? (i := 3) (by decide +kernel)
theorem k_X7_wait_mi : Cond.initialized "java/lang/Math" ∈ wsX7_wait := List.mem_of_getElem? (i := 4) (by decide +kernel)
theorem k_X7_wait_mcmmin : Cond.code Lib.Math.min.name Lib.Math.min.code 2 (some .int) ∈ wsX7_wait := List.mem_of_getElem? (i := 5) (by decide +kernel)
abbrev rmX7_wait : Room := { frames := 3, cells := 0, slots := 0, locals := 62 }
abbrev pv_X7_wait_37 (G : oh_G) (o : Nat) : (oh_H × Int32) → Prop := fun s => oh_V G 0 0 s.1 37 [(0, xr (some o)), (3, xi s.2)] []
def b_X7_wait_37 (h : oh_H) (o : Nat) (v3 : Int32) : Option ((oh_H × Int32) ⊕ (Int32 × oh_H)) :=
  oh_rc h (some o) 8 fun o2 => (f_X7_today h o2).bind fun p3 => if p3 < v3 then (Option.map Sum.inr ((oh_gI h (some o) 458).bind fun x5 => some (x5, h))) else (oh_rc h (some o) 8 fun o7 => (f_X7_beginDay h o7 v3).bind fun p8 => oh_lt (v3 + (1 : Int32)) fun x10 => some (Sum.inl (p8, x10)))
def f_X7_wait_37 (h : oh_H) (o : Nat) (v3 : Int32) : Option (Int32 × oh_H) := oh_loop (fun s : oh_H × Int32 => b_X7_wait_37 s.1 o s.2) 1000000 (h, v3)
def f_X7_wait (h : oh_H) (o : Nat) (v1 : Int32) : Option (Int32 × oh_H) :=
  (f_X7_isWithin h v1 (0 : Int32) (100 : Int32)).bind fun p1 => if p1 = 0 then (some ((-1 : Int32), h)) else (oh_rc h (some o) 8 fun o4 => (f_X7_today h o4).bind fun p5 => oh_lt p5 fun x7 => (oh_gI h (some o) 458).bind fun x8 => (oh_pI h (some o) 458 (if (x8 + v1) < (999 : Int32) then (x8 + v1) else (999 : Int32))).bind fun h9 => oh_lt (x7 + (1 : Int32)) fun x10 => f_X7_wait_37 h9 o x10)
set_option maxHeartbeats 4000000 in
set_option maxRecDepth 100000 in
theorem wb_X7_wait_37 {G : oh_G} {l : Launch} (C : oh_C G cX7_wait wsX7_wait RX7 rmX7_wait 4) (hl : G.1.2.1 = l) (h0 : oh_H) (h : oh_H) (o : Nat) (v3 : Int32) : oh_J (oh_TL (pv_X7_wait_37 G o) (oh_TW h0 xi 0 0 (some .int) G)) (b_X7_wait_37 h o v3) (oh_V G 0 0 h 37 [(0, xr (some o)), (3, xi v3)] []) := by
  unfold b_X7_wait_37
  refine or_iload_n C 1 rfl dX7_wait_37 ?_
  refine or_aload_n C 0 rfl dX7_wait_38 ?_
  refine oj_rcs (fun q1 => ?_)
  refine oj_bind (fun p3 z4 => ?_)
  refine oj_v (P := oh_V G 0 0 h 42 [(0, xr (some o)), (3, xi v3)] [xi p3, xi v3]) (fun k => or_callV C 0 hl (m_X7_today _ h o p3 z4) gX7_wait_X7_today rfl rfl rfl (by decide +kernel) ⟨Nat.le_of_ble_eq_true rfl, Nat.le_of_ble_eq_true rfl⟩ q1 rfl (by decide) (Nat.le_of_ble_eq_true rfl) dX7_wait_39 ⟨Nat.le_of_ble_eq_true rfl, Nat.le_of_ble_eq_true rfl⟩ rfl rfl k) ?_
  refine or_icmp_gt C 56 dX7_wait_42 (by decide) ?_ ?_
  · refine oj_inr ?_
    refine or_aload_n C 0 rfl dX7_wait_56 ?_
    refine or_getI C 7 10 rfl (by decide) rfl (by decide) u_X7_wait_7 (by decide) k_X7_wait_f64 (by decide +kernel) dX7_wait_57 (fun x5 => ?_)
    exact or_iret C ⟨Nat.le_of_ble_eq_true rfl, Nat.le_of_ble_eq_true rfl⟩ dX7_wait_60
  · refine or_aload_n C 0 rfl dX7_wait_45 ?_
    refine or_iload_n C 1 rfl dX7_wait_46 ?_
    refine oj_rcs (fun q6 => ?_)
    refine oj_bind (fun p8 z9 => ?_)
    refine oj_v (P := oh_V G 0 0 p8 50 [(0, xr (some o)), (3, xi v3)] []) (fun k => or_callV C 1 hl (m_X7_beginDay _ h o v3 p8 z9) gX7_wait_X7_beginDay rfl rfl rfl (by decide +kernel) ⟨Nat.le_of_ble_eq_true rfl, Nat.le_of_ble_eq_true rfl⟩ q6 rfl (by decide) (Nat.le_of_ble_eq_true rfl) dX7_wait_47 ⟨Nat.le_of_ble_eq_true rfl, Nat.le_of_ble_eq_true rfl⟩ rfl rfl k) ?_
    refine or_iinc C (y := (1 : Int32)) 1 rfl (by decide) (fun x10 => [(3, xi x10), (0, xr (some o))]) (fun _ => rfl) (by decide) dX7_wait_50 (fun x10 => ?_)
    refine or_goto C 37 dX7_wait_53 (by decide) ?_
    refine or_sub [1, 0] rfl ?_
    exact oj_back (P := pv_X7_wait_37 G o) (s := (p8, x10))
theorem w_X7_wait_37 {G : oh_G} {l : Launch} (C : oh_C G cX7_wait wsX7_wait RX7 rmX7_wait 4) (hl : G.1.2.1 = l) (h0 : oh_H) (h : oh_H) (o : Nat) (v3 : Int32) : oh_J (oh_TW h0 xi 0 0 (some .int) G) (f_X7_wait_37 h o v3) (oh_V G 0 0 h 37 [(0, xr (some o)), (3, xi v3)] []) := by
  unfold f_X7_wait_37
  exact oj_loop (P := pv_X7_wait_37 G o) (fun s => wb_X7_wait_37 C hl h0 s.1 o s.2) 1000000 (h, v3)
set_option maxHeartbeats 4000000 in
set_option maxRecDepth 100000 in
theorem w_X7_wait_0 {G : oh_G} {l : Launch} (C : oh_C G cX7_wait wsX7_wait RX7 rmX7_wait 4) (hl : G.1.2.1 = l) (h0 : oh_H) (h : oh_H) (o : Nat) (v1 : Int32) : oh_J (oh_TW h0 xi 0 0 (some .int) G) (f_X7_wait h o v1) (oh_V G 0 0 h 0 [(0, xr (some o)), (1, xi v1)] []) := by
  unfold f_X7_wait
  refine or_iload_n C 1 rfl dX7_wait_0 ?_
  refine or_iconst C (v := (0 : Int32)) dX7_wait_1 (by decide) ?_
  refine or_bipush C (v := (100 : Int32)) dX7_wait_2 (by decide) ?_
  refine oj_bind (fun p1 z2 => ?_)
  refine oj_v (P := oh_V G 0 0 h 7 [(0, xr (some o)), (1, xi v1)] [xi p1]) (fun k => or_callS C 3 hl (m_X7_isWithin _ h v1 (0 : Int32) (100 : Int32) p1 z2) gX7_wait_X7_isWithin rfl rfl rfl (by decide +kernel) ⟨Nat.le_of_ble_eq_true rfl, Nat.le_of_ble_eq_true rfl⟩ (Nat.le_of_ble_eq_true rfl) dX7_wait_4 ⟨Nat.le_of_ble_eq_true rfl, Nat.le_of_ble_eq_true rfl⟩ rfl rfl k) ?_
  refine or_if_ne C 12 dX7_wait_7 (by decide) ?_ ?_
  · refine or_iconst C (v := (-1 : Int32)) dX7_wait_10 (by decide) ?_
    exact or_iret C ⟨Nat.le_of_ble_eq_true rfl, Nat.le_of_ble_eq_true rfl⟩ dX7_wait_11
  · refine or_aload_n C 0 rfl dX7_wait_12 ?_
    refine oj_rcs (fun q3 => ?_)
    refine oj_bind (fun p5 z6 => ?_)
    refine oj_v (P := oh_V G 0 0 h 16 [(0, xr (some o)), (1, xi v1)] [xi p5]) (fun k => or_callV C 0 hl (m_X7_today _ h o p5 z6) gX7_wait_X7_today rfl rfl rfl (by decide +kernel) ⟨Nat.le_of_ble_eq_true rfl, Nat.le_of_ble_eq_true rfl⟩ q3 rfl (by decide) (Nat.le_of_ble_eq_true rfl) dX7_wait_13 ⟨Nat.le_of_ble_eq_true rfl, Nat.le_of_ble_eq_true rfl⟩ rfl rfl k) ?_
    refine or_istore_n C (fun x7 => [(2, xi x7), (0, xr (some o)), (1, xi v1)]) (fun _ => rfl) (by decide) dX7_wait_16 (fun x7 => ?_)
    refine or_aload_n C 1 rfl dX7_wait_17 ?_
    refine or_sipush C (v := (999 : Int32)) dX7_wait_18 (by decide) ?_
    refine or_aload_n C 1 rfl dX7_wait_21 ?_
    refine or_getI C 7 10 rfl (by decide) rfl (by decide) u_X7_wait_7 (by decide) k_X7_wait_f64 (by decide +kernel) dX7_wait_22 (fun x8 => ?_)
    refine or_iload_n C 2 rfl dX7_wait_25 ?_
    refine or_iadd C dX7_wait_26 ?_
    refine or_mmin C k_X7_wait_ml272 k_X7_wait_msmmin k_X7_wait_mi k_X7_wait_mcmmin ⟨Nat.le_of_ble_eq_true rfl, Nat.le_of_ble_eq_true rfl, Nat.le_of_ble_eq_true rfl⟩ (Nat.le_of_ble_eq_true rfl) dX7_wait_27 ?_
    refine or_putI C 7 10 rfl (by decide) rfl (by decide) u_X7_wait_7 tyX7 tyX7_ok nmX7 (by decide) k_X7_wait_f64 (Or.inl rfl) (by decide +kernel) rfl dX7_wait_30 (fun h9 => ?_)
    refine or_iload_n C 0 rfl dX7_wait_33 ?_
    refine or_iconst C (v := (1 : Int32)) dX7_wait_34 (by decide) ?_
    refine or_iadd C dX7_wait_35 ?_
    refine or_istore_n C (fun x10 => [(3, xi x10), (2, xi x7), (0, xr (some o)), (1, xi v1)]) (fun _ => rfl) (by decide) dX7_wait_36 (fun x10 => ?_)
    refine or_sub [2, 0] rfl ?_
    exact w_X7_wait_37 C hl h0 h9 o x10
theorem m_X7_wait (l : Launch) (h : oh_H) (o : Nat) (v1 : Int32) (p : Int32 × oh_H) (hf : f_X7_wait h o v1 = some p) : oh_M l yX7_wait wsX7_wait rmX7_wait 0 0 [xr (some o), xi v1] h (some (xi p.1)) p.2 :=
  oh_met (cc := cX7_wait) (maxL := 4) (ret := (some .int)) (by decide) rfl (Nat.le_of_ble_eq_true rfl) (fun G C hl hN E => w_X7_wait_0 C hl h h o v1 p hf E)
/-! X7_fresh -/
theorem k_X7_fresh_f67 : Cond.fieldLink RX7 67 "OilPress" "freshDays" "I" ∈ wsX7_fresh := List.mem_of_getElem? (i := 1) (by decide +kernel)
theorem u_X7_fresh_7 : ∀ w ∈ u_ws RX7 TX7 14, w ∈ wsX7_fresh := fun w h => List.mem_cons_of_mem _ (List.mem_append_right _ (h))
abbrev rmX7_fresh : Room := { frames := 1, cells := 0, slots := 0, locals := 22 }
def f_X7_fresh (h : oh_H) (o : Nat) (v1 : Int32) : Option (Int32 × oh_H) :=
  (f_X7_isWithin h v1 (0 : Int32) (10 : Int32)).bind fun p1 => if p1 = 0 then (oh_bz (0 : Int32) (some ((0 : Int32), h))) else ((oh_pI h (some o) 459 v1).bind fun h3 => oh_bz (1 : Int32) (some ((1 : Int32), h3)))
set_option maxHeartbeats 4000000 in
set_option maxRecDepth 100000 in
theorem w_X7_fresh_0 {G : oh_G} {l : Launch} (C : oh_C G cX7_fresh wsX7_fresh RX7 rmX7_fresh 2) (hl : G.1.2.1 = l) (h0 : oh_H) (h : oh_H) (o : Nat) (v1 : Int32) : oh_J (oh_TW h0 xi 0 0 (some .boolean) G) (f_X7_fresh h o v1) (oh_V G 0 0 h 0 [(0, xr (some o)), (1, xi v1)] []) := by
  unfold f_X7_fresh
  refine or_iload_n C 1 rfl dX7_fresh_0 ?_
  refine or_iconst C (v := (0 : Int32)) dX7_fresh_1 (by decide) ?_
  refine or_bipush C (v := (10 : Int32)) dX7_fresh_2 (by decide) ?_
  refine oj_bind (fun p1 z2 => ?_)
  refine oj_v (P := oh_V G 0 0 h 7 [(0, xr (some o)), (1, xi v1)] [xi p1]) (fun k => or_callS C 3 hl (m_X7_isWithin _ h v1 (0 : Int32) (10 : Int32) p1 z2) gX7_fresh_X7_isWithin rfl rfl rfl (by decide +kernel) ⟨Nat.le_of_ble_eq_true rfl, Nat.le_of_ble_eq_true rfl⟩ (Nat.le_of_ble_eq_true rfl) dX7_fresh_4 ⟨Nat.le_of_ble_eq_true rfl, Nat.le_of_ble_eq_true rfl⟩ rfl rfl k) ?_
  refine or_if_ne C 12 dX7_fresh_7 (by decide) ?_ ?_
  · refine or_iconst C (v := (0 : Int32)) dX7_fresh_10 (by decide) ?_
    exact or_zret C ⟨Nat.le_of_ble_eq_true rfl, Nat.le_of_ble_eq_true rfl⟩ dX7_fresh_11
  · refine or_aload_n C 0 rfl dX7_fresh_12 ?_
    refine or_iload_n C 1 rfl dX7_fresh_13 ?_
    refine or_putI C 7 11 rfl (by decide) rfl (by decide) u_X7_fresh_7 tyX7 tyX7_ok nmX7 (by decide) k_X7_fresh_f67 (Or.inl rfl) (by decide +kernel) rfl dX7_fresh_14 (fun h3 => ?_)
    refine or_iconst C (v := (1 : Int32)) dX7_fresh_17 (by decide) ?_
    exact or_zret C ⟨Nat.le_of_ble_eq_true rfl, Nat.le_of_ble_eq_true rfl⟩ dX7_fresh_18
theorem m_X7_fresh (l : Launch) (h : oh_H) (o : Nat) (v1 : Int32) (p : Int32 × oh_H) (hf : f_X7_fresh h o v1 = some p) : oh_M l yX7_fresh wsX7_fresh rmX7_fresh 0 0 [xr (some o), xi v1] h (some (xi p.1)) p.2 :=
  oh_met (cc := cX7_fresh) (maxL := 2) (ret := (some .boolean)) (by decide) rfl (Nat.le_of_ble_eq_true rfl) (fun G C hl hN E => w_X7_fresh_0 C hl h h o v1 p hf E)
/-! X7_at -/
theorem k_X7_at_f162 : Cond.fieldLink RX7 162 "OilPress$Mill" "least" "I" ∈ wsX7_at := List.mem_of_getElem? (i := 1) (by decide +kernel)
theorem u_X7_at_3 : ∀ w ∈ u_ws RX3 TX3 14, w ∈ wsX7_at := fun w h => List.mem_cons_of_mem _ (List.mem_append_left _ (List.mem_append_right _ (h)))
theorem k_X7_at_f165 : Cond.fieldLink RX7 165 "OilPress$Mill" "rate" "I" ∈ wsX7_at := List.mem_of_getElem? (i := 2) (by decide +kernel)
theorem k_X7_at_f185 : Cond.fieldLink RX7 185 "OilPress$Mill" "busyTill" "I" ∈ wsX7_at := List.mem_of_getElem? (i := 3) (by decide +kernel)
theorem k_X7_at_f159 : Cond.fieldLink RX7 159 "OilPress$Mill" "size" "I" ∈ wsX7_at := List.mem_of_getElem? (i := 4) (by decide +kernel)
theorem k_X7_at_f176 : Cond.fieldLink RX7 176 "OilPress$Mill" "isPressing" "Z" ∈ wsX7_at := List.mem_of_getElem? (i := 5) (by decide +kernel)
theorem k_X7_at_f188 : Cond.fieldLink RX7 188 "OilPress$Mill" "isWashed" "Z" ∈ wsX7_at := List.mem_of_getElem? (i := 6) (by decide +kernel)
theorem k_X7_at_f280 : Cond.fieldLink RX7 280 "OilPress$Mill" "like" "I" ∈ wsX7_at := List.mem_of_getElem? (i := 7) (by decide +kernel)
theorem k_X7_at_f283 : Cond.fieldLink RX7 283 "OilPress$Mill" "promised" "I" ∈ wsX7_at := List.mem_of_getElem? (i := 8) (by decide +kernel)
theorem k_X7_at_f198 : Cond.fieldLink RX7 198 "OilPress$Mill" "given" "I" ∈ wsX7_at := List.mem_of_getElem? (i := 9) (by decide +kernel)
theorem k_X7_at_f286 : Cond.fieldLink RX7 286 "OilPress$Mill" "sourness" "I" ∈ wsX7_at := List.mem_of_getElem? (i := 10) (by decide +kernel)
theorem k_X7_at_f205 : Cond.fieldLink RX7 205 "OilPress$Mill" "kept" "I" ∈ wsX7_at := List.mem_of_getElem? (i := 11) (by decide +kernel)
abbrev rmX7_at : Room := { frames := 2, cells := 0, slots := 0, locals := 43 }
def f_X7_at (h : oh_H) (o : Nat) (v1 : Int32) (v2 : Int32) : Option (Int32) :=
  oh_rc h (some o) 8 fun o2 => (f_X7_findMill h o2 v1).bind fun p3 => oh_lt p3 fun x5 => if x5 = none then (some (-1 : Int32)) else (if v2 = (0 : Int32) then ((oh_gI h x5 196).bind fun x6 => some x6) else (if v2 = (1 : Int32) then ((oh_gI h x5 197).bind fun x7 => some x7) else (if v2 = (2 : Int32) then ((oh_gI h x5 198).bind fun x8 => some x8) else (if v2 = (3 : Int32) then ((oh_gI h x5 195).bind fun x9 => some x9) else (if v2 = (4 : Int32) then ((oh_gI h x5 201).bind fun x10 => (f_X7_asNumber h x10).bind fun p11 => some p11) else (if v2 = (5 : Int32) then ((oh_gI h x5 199).bind fun x13 => (f_X7_asNumber h x13).bind fun p14 => some p14) else (if v2 = (6 : Int32) then ((oh_gI h x5 200).bind fun x16 => some x16) else (if v2 = (7 : Int32) then ((oh_gI h x5 202).bind fun x17 => some x17) else (if v2 = (8 : Int32) then ((oh_gI h x5 204).bind fun x18 => some x18) else (if v2 = (9 : Int32) then ((oh_gI h x5 203).bind fun x19 => some x19) else (if v2 = (10 : Int32) then ((oh_gI h x5 205).bind fun x20 => some x20) else (some (-1 : Int32)))))))))))))
set_option maxHeartbeats 4000000 in
set_option maxRecDepth 100000 in
theorem w_X7_at_0 {G : oh_G} {l : Launch} (C : oh_C G cX7_at wsX7_at RX7 rmX7_at 4) (hl : G.1.2.1 = l) (h : oh_H) (o : Nat) (v1 : Int32) (v2 : Int32) : oh_J (oh_TR h xi (some .int) G) (f_X7_at h o v1 v2) (oh_V G 0 0 h 0 [(0, xr (some o)), (1, xi v1), (2, xi v2)] []) := by
  unfold f_X7_at
  refine or_aload_n C 0 rfl dX7_at_0 ?_
  refine or_iload_n C 1 rfl dX7_at_1 ?_
  refine oj_rcs (fun q1 => ?_)
  refine oj_bind (fun p3 z4 => ?_)
  refine oj_v (P := oh_V G 0 0 h 5 [(0, xr (some o)), (1, xi v1), (2, xi v2)] [xr p3]) (fun k => or_callV C 1 hl (m_X7_findMill _ h o v1 p3 z4) gX7_at_X7_findMill rfl rfl rfl (by decide +kernel) ⟨Nat.le_of_ble_eq_true rfl, Nat.le_of_ble_eq_true rfl⟩ q1 rfl (by decide) (Nat.le_of_ble_eq_true rfl) dX7_at_2 ⟨Nat.le_of_ble_eq_true rfl, Nat.le_of_ble_eq_true rfl⟩ rfl rfl k) ?_
  refine or_astore_n C (fun x5 => [(3, xr x5), (0, xr (some o)), (1, xi v1), (2, xi v2)]) (fun _ => rfl) (by decide) dX7_at_5 (fun x5 => ?_)
  refine or_aload_n C 0 rfl dX7_at_6 ?_
  refine or_ifnonnull C 12 dX7_at_7 (by decide) ?_ ?_
  · refine or_iconst C (v := (-1 : Int32)) dX7_at_10 (by decide) ?_
    exact or_iretR C dX7_at_11
  · refine or_iload_n C 3 rfl dX7_at_12 ?_
    refine or_case C (v := (0 : Int32)) 0 72 dX7_at_13 (by decide) (by decide) rfl (by decide) ?_ (fun n0 => ?_)
    · refine or_aload_n C 0 rfl dX7_at_72 ?_
      refine or_getI C 3 4 rfl (by decide) rfl (by decide) u_X7_at_3 (by decide) k_X7_at_f162 (by decide +kernel) dX7_at_73 (fun x6 => ?_)
      exact or_iretR C dX7_at_76
    refine or_case C (v := (1 : Int32)) 1 77 dX7_at_13 (by decide) (by decide) rfl (by decide) ?_ (fun n1 => ?_)
    · refine or_aload_n C 0 rfl dX7_at_77 ?_
      refine or_getI C 3 5 rfl (by decide) rfl (by decide) u_X7_at_3 (by decide) k_X7_at_f165 (by decide +kernel) dX7_at_78 (fun x7 => ?_)
      exact or_iretR C dX7_at_81
    refine or_case C (v := (2 : Int32)) 2 82 dX7_at_13 (by decide) (by decide) rfl (by decide) ?_ (fun n2 => ?_)
    · refine or_aload_n C 0 rfl dX7_at_82 ?_
      refine or_getI C 3 6 rfl (by decide) rfl (by decide) u_X7_at_3 (by decide) k_X7_at_f185 (by decide +kernel) dX7_at_83 (fun x8 => ?_)
      exact or_iretR C dX7_at_86
    refine or_case C (v := (3 : Int32)) 3 87 dX7_at_13 (by decide) (by decide) rfl (by decide) ?_ (fun n3 => ?_)
    · refine or_aload_n C 0 rfl dX7_at_87 ?_
      refine or_getI C 3 3 rfl (by decide) rfl (by decide) u_X7_at_3 (by decide) k_X7_at_f159 (by decide +kernel) dX7_at_88 (fun x9 => ?_)
      exact or_iretR C dX7_at_91
    refine or_case C (v := (4 : Int32)) 4 92 dX7_at_13 (by decide) (by decide) rfl (by decide) ?_ (fun n4 => ?_)
    · refine or_aload_n C 0 rfl dX7_at_92 ?_
      refine or_getI C 3 9 rfl (by decide) rfl (by decide) u_X7_at_3 (by decide) k_X7_at_f176 (by decide +kernel) dX7_at_93 (fun x10 => ?_)
      refine oj_bind (fun p11 z12 => ?_)
      refine oj_v (P := oh_V G 0 0 h 99 [(3, xr x5), (0, xr (some o)), (1, xi v1), (2, xi v2)] [xi p11]) (fun k => or_callS C 1 hl (m_X7_asNumber _ h x10 p11 z12) gX7_at_X7_asNumber rfl rfl rfl (by decide +kernel) ⟨Nat.le_of_ble_eq_true rfl, Nat.le_of_ble_eq_true rfl⟩ (Nat.le_of_ble_eq_true rfl) dX7_at_96 ⟨Nat.le_of_ble_eq_true rfl, Nat.le_of_ble_eq_true rfl⟩ rfl rfl k) ?_
      exact or_iretR C dX7_at_99
    refine or_case C (v := (5 : Int32)) 5 100 dX7_at_13 (by decide) (by decide) rfl (by decide) ?_ (fun n5 => ?_)
    · refine or_aload_n C 0 rfl dX7_at_100 ?_
      refine or_getI C 3 7 rfl (by decide) rfl (by decide) u_X7_at_3 (by decide) k_X7_at_f188 (by decide +kernel) dX7_at_101 (fun x13 => ?_)
      refine oj_bind (fun p14 z15 => ?_)
      refine oj_v (P := oh_V G 0 0 h 107 [(3, xr x5), (0, xr (some o)), (1, xi v1), (2, xi v2)] [xi p14]) (fun k => or_callS C 1 hl (m_X7_asNumber _ h x13 p14 z15) gX7_at_X7_asNumber rfl rfl rfl (by decide +kernel) ⟨Nat.le_of_ble_eq_true rfl, Nat.le_of_ble_eq_true rfl⟩ (Nat.le_of_ble_eq_true rfl) dX7_at_104 ⟨Nat.le_of_ble_eq_true rfl, Nat.le_of_ble_eq_true rfl⟩ rfl rfl k) ?_
      exact or_iretR C dX7_at_107
    refine or_case C (v := (6 : Int32)) 6 108 dX7_at_13 (by decide) (by decide) rfl (by decide) ?_ (fun n6 => ?_)
    · refine or_aload_n C 0 rfl dX7_at_108 ?_
      refine or_getI C 3 8 rfl (by decide) rfl (by decide) u_X7_at_3 (by decide) k_X7_at_f280 (by decide +kernel) dX7_at_109 (fun x16 => ?_)
      exact or_iretR C dX7_at_112
    refine or_case C (v := (7 : Int32)) 7 113 dX7_at_13 (by decide) (by decide) rfl (by decide) ?_ (fun n7 => ?_)
    · refine or_aload_n C 0 rfl dX7_at_113 ?_
      refine or_getI C 3 10 rfl (by decide) rfl (by decide) u_X7_at_3 (by decide) k_X7_at_f283 (by decide +kernel) dX7_at_114 (fun x17 => ?_)
      exact or_iretR C dX7_at_117
    refine or_case C (v := (8 : Int32)) 8 118 dX7_at_13 (by decide) (by decide) rfl (by decide) ?_ (fun n8 => ?_)
    · refine or_aload_n C 0 rfl dX7_at_118 ?_
      refine or_getI C 3 12 rfl (by decide) rfl (by decide) u_X7_at_3 (by decide) k_X7_at_f198 (by decide +kernel) dX7_at_119 (fun x18 => ?_)
      exact or_iretR C dX7_at_122
    refine or_case C (v := (9 : Int32)) 9 123 dX7_at_13 (by decide) (by decide) rfl (by decide) ?_ (fun n9 => ?_)
    · refine or_aload_n C 0 rfl dX7_at_123 ?_
      refine or_getI C 3 11 rfl (by decide) rfl (by decide) u_X7_at_3 (by decide) k_X7_at_f286 (by decide +kernel) dX7_at_124 (fun x19 => ?_)
      exact or_iretR C dX7_at_127
    refine or_case C (v := (10 : Int32)) 10 128 dX7_at_13 (by decide) (by decide) rfl (by decide) ?_ (fun n10 => ?_)
    · refine or_aload_n C 0 rfl dX7_at_128 ?_
      refine or_getI C 3 13 rfl (by decide) rfl (by decide) u_X7_at_3 (by decide) k_X7_at_f205 (by decide +kernel) dX7_at_129 (fun x20 => ?_)
      exact or_iretR C dX7_at_132
    refine or_dflt C 133 dX7_at_13 (by omega) (by decide) ?_
    refine or_iconst C (v := (-1 : Int32)) dX7_at_133 (by decide) ?_
    exact or_iretR C dX7_at_134
theorem m_X7_at (l : Launch) (h : oh_H) (o : Nat) (v1 : Int32) (v2 : Int32) (p : Int32) (hf : f_X7_at h o v1 v2 = some p) : oh_M l yX7_at wsX7_at rmX7_at 0 0 [xr (some o), xi v1, xi v2] h (some (xi p)) h :=
  oh_met (cc := cX7_at) (maxL := 4) (ret := (some .int)) (by decide) rfl (Nat.le_of_ble_eq_true rfl) (fun G C hl hN E => w_X7_at_0 C hl h o v1 v2 p hf E)
