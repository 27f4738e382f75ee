/-! X4_hourAfter -/
theorem k_X4_hourAfter_f33 : Cond.fieldLink RX4 33 "OilPress$Planner" "beginning" "I" ∈ wsX4_hourAfter := List.mem_of_getElem? (i := 1) (by decide +kernel)
theorem u_X4_hourAfter_4 : ∀ w ∈ u_ws RX4 TX4 15, w ∈ wsX4_hourAfter := fun w h => List.mem_cons_of_mem _ (List.mem_append_right _ (h))
theorem k_X4_hourAfter_f24 : Cond.fieldLink RX4 24 "OilPress$Planner" "hoursOf" "[I" ∈ wsX4_hourAfter := List.mem_of_getElem? (i := 2) (by decide +kernel)
abbrev rmX4_hourAfter : Room := { frames := 0, cells := 0, slots := 0, locals := 0 }
def f_X4_hourAfter (h : oh_H) (o : Nat) (v1 : Int32) (v2 : Int32) : Option (Int32) :=
  (oh_gI h (some o) 263).bind fun x1 => (oh_gR h (some o) 260).bind fun x2 => (oh_aI h x2 20 v1).bind fun x3 => some ((x1 + x3) + ((2 : Int32) * v2))
set_option maxHeartbeats 4000000 in
set_option maxRecDepth 100000 in
theorem w_X4_hourAfter_0 {G : oh_G} {l : Launch} (C : oh_C G cX4_hourAfter wsX4_hourAfter RX4 rmX4_hourAfter 3) (hl : G.1.2.1 = l) (h : oh_H) (o : Nat) (v1 : Int32) (v2 : Int32) : oh_J (oh_TR h xi (some .int) G) (f_X4_hourAfter h o v1 v2) (oh_V G 0 0 h 0 [(0, xr (some o)), (1, xi v1), (2, xi v2)] []) := by
  unfold f_X4_hourAfter
  refine or_aload_n C 0 rfl dX4_hourAfter_0 ?_
  refine or_getI C 4 7 rfl (by decide) rfl (by decide) u_X4_hourAfter_4 (by decide) k_X4_hourAfter_f33 (by decide +kernel) dX4_hourAfter_1 (fun x1 => ?_)
  refine or_aload_n C 0 rfl dX4_hourAfter_4 ?_
  refine or_getR C 4 4 rfl (by decide) rfl (by decide) u_X4_hourAfter_4 (by decide) k_X4_hourAfter_f24 (by decide +kernel) dX4_hourAfter_5 (fun x2 => ?_)
  refine or_iload_n C 1 rfl dX4_hourAfter_8 ?_
  refine or_iald C dX4_hourAfter_9 (fun x3 => ?_)
  refine or_iadd C dX4_hourAfter_10 ?_
  refine or_iconst C (v := (2 : Int32)) dX4_hourAfter_11 (by decide) ?_
  refine or_iload_n C 2 rfl dX4_hourAfter_12 ?_
  refine or_imul C dX4_hourAfter_13 ?_
  refine or_iadd C dX4_hourAfter_14 ?_
  exact or_iretR C dX4_hourAfter_15
theorem m_X4_hourAfter (l : Launch) (h : oh_H) (o : Nat) (v1 : Int32) (v2 : Int32) (p : Int32) (hf : f_X4_hourAfter h o v1 v2 = some p) : oh_M l yX4_hourAfter wsX4_hourAfter rmX4_hourAfter 0 0 [xr (some o), xi v1, xi v2] h (some (xi p)) h :=
  oh_met (cc := cX4_hourAfter) (maxL := 3) (ret := (some .int)) (by decide) rfl (Nat.le_of_ble_eq_true rfl) (fun G C hl hN E => w_X4_hourAfter_0 C hl h o v1 v2 p hf E)
/-! X4_slot -/
abbrev rmX4_slot : Room := { frames := 0, cells := 0, slots := 0, locals := 0 }
def f_X4_slot (h : oh_H) (v0 : Int32) (v1 : Int32) (v2 : Int32) : Option (Int32) :=
  some ((((v0 * (8 : Int32)) + v1) * (9 : Int32)) + v2)
set_option maxHeartbeats 4000000 in
set_option maxRecDepth 100000 in
theorem w_X4_slot_0 {G : oh_G} {l : Launch} (C : oh_C G cX4_slot wsX4_slot RX4 rmX4_slot 3) (hl : G.1.2.1 = l) (h : oh_H) (v0 : Int32) (v1 : Int32) (v2 : Int32) : oh_J (oh_TR h xi (some .int) G) (f_X4_slot h v0 v1 v2) (oh_V G 0 0 h 0 [(0, xi v0), (1, xi v1), (2, xi v2)] []) := by
  unfold f_X4_slot
  refine or_iload_n C 0 rfl dX4_slot_0 ?_
  refine or_bipush C (v := (8 : Int32)) dX4_slot_1 (by decide) ?_
  refine or_imul C dX4_slot_3 ?_
  refine or_iload_n C 1 rfl dX4_slot_4 ?_
  refine or_iadd C dX4_slot_5 ?_
  refine or_bipush C (v := (9 : Int32)) dX4_slot_6 (by decide) ?_
  refine or_imul C dX4_slot_8 ?_
  refine or_iload_n C 2 rfl dX4_slot_9 ?_
  refine or_iadd C dX4_slot_10 ?_
  exact or_iretR C dX4_slot_11
theorem m_X4_slot (l : Launch) (h : oh_H) (v0 : Int32) (v1 : Int32) (v2 : Int32) (p : Int32) (hf : f_X4_slot h v0 v1 v2 = some p) : oh_M l yX4_slot wsX4_slot rmX4_slot 0 0 [xi v0, xi v1, xi v2] h (some (xi p)) h :=
  oh_met (cc := cX4_slot) (maxL := 3) (ret := (some .int)) (by decide) rfl (Nat.le_of_ble_eq_true rfl) (fun G C hl hN E => w_X4_slot_0 C hl h v0 v1 v2 p hf E)
/-! X4_worth -/
theorem k_X4_worth_f30 : Cond.fieldLink RX4 30 "OilPress$Planner" "best" "[I" ∈ wsX4_worth := List.mem_of_getElem? (i := 3) (by decide +kernel)
theorem u_X4_worth_4 : ∀ w ∈ u_ws RX4 TX4 15, w ∈ wsX4_worth := fun w h => List.mem_cons_of_mem _ (List.mem_append_right _ (h))
theorem k_X4_worth_f21 : Cond.fieldLink RX4 21 "OilPress$Planner" "lateHours" "[I" ∈ wsX4_worth := List.mem_of_getElem? (i := 1) (by decide +kernel)
theorem k_X4_worth_c102 : Cond.constant RX4 102 (67108864) ∈ wsX4_worth := List.mem_of_getElem? (i := 2) (by decide +kernel)
abbrev rmX4_worth : Room := { frames := 1, cells := 0, slots := 0, locals := 22 }
def f_X4_worth_42 (h : oh_H) (o : Nat) (v1 : Int32) (v4 : Int32) (v5 : Int32) (s0 : Int32) : Option (Int32) :=
  oh_lt s0 fun x1 => (oh_gR h (some o) 262).bind fun x2 => (f_X4_slot h (v1 ||| ((1 : Int32) <<< (v4 &&& 31))) v4 v5).bind fun p3 => (oh_aI h x2 20 p3).bind fun x5 => some (x1 + x5)
def f_X4_worth_16 (h : oh_H) (o : Nat) (v1 : Int32) (v4 : Int32) (s0 : Int32) (s1 : Int32) : Option (Int32) :=
  oh_lt (s1 + s0) fun x1 => oh_rc h (some o) 5 fun o3 => (f_X4_hourAfter h o3 v1 x1).bind fun p4 => (oh_gR h (some o) 259).bind fun x6 => (oh_aI h x6 20 v4).bind fun x7 => if p4 < x7 then (f_X4_worth_42 h o v1 v4 x1 (0 : Int32)) else (f_X4_worth_42 h o v1 v4 x1 (67108864 : Int32))
def f_X4_worth (h : oh_H) (o : Nat) (v1 : Int32) (v2 : Int32) (v3 : Int32) (v4 : Int32) : Option (Int32) :=
  oh_rc h (some o) 5 fun o2 => (f_X4_needsWash h o2 v2 v4).bind fun p3 => if p3 = 0 then (f_X4_worth_16 h o v1 v4 (0 : Int32) v3) else (f_X4_worth_16 h o v1 v4 (1 : Int32) v3)
set_option maxHeartbeats 4000000 in
set_option maxRecDepth 100000 in
theorem w_X4_worth_42 {G : oh_G} {l : Launch} (C : oh_C G cX4_worth wsX4_worth RX4 rmX4_worth 7) (hl : G.1.2.1 = l) (h : oh_H) (o : Nat) (v1 : Int32) (v4 : Int32) (v5 : Int32) (s0 : Int32) : oh_J (oh_TR h xi (some .int) G) (f_X4_worth_42 h o v1 v4 v5 s0) (oh_V G 0 0 h 42 [(0, xr (some o)), (1, xi v1), (4, xi v4), (5, xi v5)] [xi s0]) := by
  unfold f_X4_worth_42
  refine or_istore C (fun x1 => [(6, xi x1), (0, xr (some o)), (1, xi v1), (4, xi v4), (5, xi v5)]) (fun _ => rfl) (by decide) dX4_worth_42 (fun x1 => ?_)
  refine or_iload C 0 rfl dX4_worth_44 ?_
  refine or_aload_n C 1 rfl dX4_worth_46 ?_
  refine or_getR C 4 6 rfl (by decide) rfl (by decide) u_X4_worth_4 (by decide) k_X4_worth_f30 (by decide +kernel) dX4_worth_47 (fun x2 => ?_)
  refine or_iload_n C 2 rfl dX4_worth_50 ?_
  refine or_iconst C (v := (1 : Int32)) dX4_worth_51 (by decide) ?_
  refine or_iload C 3 rfl dX4_worth_52 ?_
  refine or_ishl C dX4_worth_54 ?_
  refine or_ior C dX4_worth_55 ?_
  refine or_iload C 3 rfl dX4_worth_56 ?_
  refine or_iload C 4 rfl dX4_worth_58 ?_
  refine oj_bind (fun p3 z4 => ?_)
  refine oj_v (P := oh_V G 0 0 h 63 [(6, xi x1), (0, xr (some o)), (1, xi v1), (4, xi v4), (5, xi v5)] [xi p3, xr x2, xi x1]) (fun k => or_callS C 3 hl (m_X4_slot _ h (v1 ||| ((1 : Int32) <<< (v4 &&& 31))) v4 v5 p3 z4) gX4_worth_X4_slot rfl rfl rfl (by decide +kernel) ⟨Nat.le_of_ble_eq_true rfl, Nat.le_of_ble_eq_true rfl⟩ (Nat.le_of_ble_eq_true rfl) dX4_worth_60 ⟨Nat.le_of_ble_eq_true rfl, Nat.le_of_ble_eq_true rfl⟩ rfl rfl k) ?_
  refine or_iald C dX4_worth_63 (fun x5 => ?_)
  refine or_iadd C dX4_worth_64 ?_
  exact or_iretR C dX4_worth_65
set_option maxHeartbeats 4000000 in
set_option maxRecDepth 100000 in
theorem w_X4_worth_16 {G : oh_G} {l : Launch} (C : oh_C G cX4_worth wsX4_worth RX4 rmX4_worth 7) (hl : G.1.2.1 = l) (h : oh_H) (o : Nat) (v1 : Int32) (v4 : Int32) (s0 : Int32) (s1 : Int32) : oh_J (oh_TR h xi (some .int) G) (f_X4_worth_16 h o v1 v4 s0 s1) (oh_V G 0 0 h 16 [(0, xr (some o)), (1, xi v1), (4, xi v4)] [xi s0, xi s1]) := by
  unfold f_X4_worth_16
  refine or_iadd C dX4_worth_16 ?_
  refine or_istore C (fun x1 => [(5, xi x1), (0, xr (some o)), (1, xi v1), (4, xi v4)]) (fun _ => rfl) (by decide) dX4_worth_17 (fun x1 => ?_)
  refine or_aload_n C 1 rfl dX4_worth_19 ?_
  refine or_iload_n C 2 rfl dX4_worth_20 ?_
  refine or_iload C 0 rfl dX4_worth_21 ?_
  refine oj_rcs (fun q2 => ?_)
  refine oj_bind (fun p4 z5 => ?_)
  refine oj_v (P := oh_V G 0 0 h 26 [(5, xi x1), (0, xr (some o)), (1, xi v1), (4, xi v4)] [xi p4]) (fun k => or_callV C 2 hl (m_X4_hourAfter _ h o v1 x1 p4 z5) gX4_worth_X4_hourAfter rfl rfl rfl (by decide +kernel) ⟨Nat.le_of_ble_eq_true rfl, Nat.le_of_ble_eq_true rfl⟩ q2 rfl (by decide) (Nat.le_of_ble_eq_true rfl) dX4_worth_23 ⟨Nat.le_of_ble_eq_true rfl, Nat.le_of_ble_eq_true rfl⟩ rfl rfl k) ?_
  refine or_aload_n C 1 rfl dX4_worth_26 ?_
  refine or_getR C 4 3 rfl (by decide) rfl (by decide) u_X4_worth_4 (by decide) k_X4_worth_f21 (by decide +kernel) dX4_worth_27 (fun x6 => ?_)
  refine or_iload C 3 rfl dX4_worth_30 ?_
  refine or_iald C dX4_worth_32 (fun x7 => ?_)
  refine or_icmp_lt C 41 dX4_worth_33 (by decide) ?_ ?_
  · refine or_iconst C (v := (0 : Int32)) dX4_worth_41 (by decide) ?_
    refine or_sub [1, 2, 3, 0] rfl ?_
    exact w_X4_worth_42 C hl h o v1 v4 x1 (0 : Int32)
  · refine or_ldc C (v := (67108864 : Int32)) k_X4_worth_c102 dX4_worth_36 ?_
    refine or_goto C 42 dX4_worth_38 (by decide) ?_
    refine or_sub [1, 2, 3, 0] rfl ?_
    exact w_X4_worth_42 C hl h o v1 v4 x1 (67108864 : Int32)
set_option maxHeartbeats 4000000 in
set_option maxRecDepth 100000 in
theorem w_X4_worth_0 {G : oh_G} {l : Launch} (C : oh_C G cX4_worth wsX4_worth RX4 rmX4_worth 7) (hl : G.1.2.1 = l) (h : oh_H) (o : Nat) (v1 : Int32) (v2 : Int32) (v3 : Int32) (v4 : Int32) : oh_J (oh_TR h xi (some .int) G) (f_X4_worth h o v1 v2 v3 v4) (oh_V G 0 0 h 0 [(0, xr (some o)), (1, xi v1), (2, xi v2), (3, xi v3), (4, xi v4)] []) := by
  unfold f_X4_worth
  refine or_iload_n C 3 rfl dX4_worth_0 ?_
  refine or_aload_n C 0 rfl dX4_worth_1 ?_
  refine or_iload_n C 2 rfl dX4_worth_2 ?_
  refine or_iload C 4 rfl dX4_worth_3 ?_
  refine oj_rcs (fun q1 => ?_)
  refine oj_bind (fun p3 z4 => ?_)
  refine oj_v (P := oh_V G 0 0 h 8 [(0, xr (some o)), (1, xi v1), (2, xi v2), (3, xi v3), (4, xi v4)] [xi p3, xi v3]) (fun k => or_callV C 2 hl (m_X4_needsWash _ h o v2 v4 p3 z4) gX4_worth_X4_needsWash rfl rfl rfl (by decide +kernel) ⟨Nat.le_of_ble_eq_true rfl, Nat.le_of_ble_eq_true rfl⟩ q1 rfl (by decide) (Nat.le_of_ble_eq_true rfl) dX4_worth_5 ⟨Nat.le_of_ble_eq_true rfl, Nat.le_of_ble_eq_true rfl⟩ rfl rfl k) ?_
  refine or_if_eq C 15 dX4_worth_8 (by decide) ?_ ?_
  · refine or_iconst C (v := (0 : Int32)) dX4_worth_15 (by decide) ?_
    refine or_sub [0, 1, 4] rfl ?_
    exact w_X4_worth_16 C hl h o v1 v4 (0 : Int32) v3
  · refine or_iconst C (v := (1 : Int32)) dX4_worth_11 (by decide) ?_
    refine or_goto C 16 dX4_worth_12 (by decide) ?_
    refine or_sub [0, 1, 4] rfl ?_
    exact w_X4_worth_16 C hl h o v1 v4 (1 : Int32) v3
theorem m_X4_worth (l : Launch) (h : oh_H) (o : Nat) (v1 : Int32) (v2 : Int32) (v3 : Int32) (v4 : Int32) (p : Int32) (hf : f_X4_worth h o v1 v2 v3 v4 = some p) : oh_M l yX4_worth wsX4_worth rmX4_worth 0 0 [xr (some o), xi v1, xi v2, xi v3, xi v4] h (some (xi p)) h :=
  oh_met (cc := cX4_worth) (maxL := 7) (ret := (some .int)) (by decide) rfl (Nat.le_of_ble_eq_true rfl) (fun G C hl hN E => w_X4_worth_0 C hl h o v1 v2 v3 v4 p hf E)
/-! X4_bestNext -/
theorem k_X4_bestNext_f47 : Cond.fieldLink RX4 47 "OilPress$Planner" "size" "I" ∈ wsX4_bestNext := List.mem_of_getElem? (i := 2) (by decide +kernel)
theorem u_X4_bestNext_4 : ∀ w ∈ u_ws RX4 TX4 15, w ∈ wsX4_bestNext := fun w h => List.mem_cons_of_mem _ (List.mem_append_right _ (h))
theorem k_X4_bestNext_c98 : Cond.constant RX4 98 (2147483647) ∈ wsX4_bestNext := List.mem_of_getElem? (i := 1) (by decide +kernel)
abbrev rmX4_bestNext : Room := { frames := 2, cells := 0, slots := 0, locals := 48 }
def f_X4_bestNext_54 (h : oh_H) (o : Nat) (v1 : Int32) (v2 : Int32) (v3 : Int32) (v4 : Int32) (v5 : Int32) (v6 : Int32) : Option ((Int32 × Int32 × Int32) ⊕ (Int32)) :=
  oh_lt (v6 + (1 : Int32)) fun x1 => some (Sum.inl (v4, v5, x1))
abbrev pv_X4_bestNext_10 (G : oh_G) (h : oh_H) (o : Nat) (v1 : Int32) (v2 : Int32) (v3 : Int32) : (Int32 × Int32 × Int32) → Prop := fun s => oh_V G 0 0 h 10 [(0, xr (some o)), (1, xi v1), (2, xi v2), (3, xi v3), (4, xi s.1), (5, xi s.2.1), (6, xi s.2.2)] []
def b_X4_bestNext_10 (h : oh_H) (o : Nat) (v1 : Int32) (v2 : Int32) (v3 : Int32) (v4 : Int32) (v5 : Int32) (v6 : Int32) : Option ((Int32 × Int32 × Int32) ⊕ (Int32)) :=
  (oh_gI h (some o) 267).bind fun x1 => if x1 ≤ v6 then (Option.map Sum.inr (some v4)) else ((f_X4_holds h v1 v6).bind fun p2 => if p2 = 0 then (oh_rc h (some o) 5 fun o5 => (f_X4_worth h o5 v1 v2 v3 v6).bind fun p6 => oh_lt p6 fun x8 => if v5 ≤ x8 then (f_X4_bestNext_54 h o v1 v2 v3 v4 v5 v6) else (oh_lt x8 fun x9 => oh_lt v6 fun x10 => f_X4_bestNext_54 h o v1 v2 v3 x10 x9 v6)) else (f_X4_bestNext_54 h o v1 v2 v3 v4 v5 v6))
def f_X4_bestNext_10 (h : oh_H) (o : Nat) (v1 : Int32) (v2 : Int32) (v3 : Int32) (v4 : Int32) (v5 : Int32) (v6 : Int32) : Option (Int32) := oh_loop (fun s : Int32 × Int32 × Int32 => b_X4_bestNext_10 h o v1 v2 v3 s.1 s.2.1 s.2.2) 1000000 (v4, v5, v6)
def f_X4_bestNext (h : oh_H) (o : Nat) (v1 : Int32) (v2 : Int32) (v3 : Int32) : Option (Int32) :=
  oh_lt (-1 : Int32) fun x1 => oh_lt (2147483647 : Int32) fun x2 => oh_lt (0 : Int32) fun x3 => f_X4_bestNext_10 h o v1 v2 v3 x1 x2 x3
set_option maxHeartbeats 4000000 in
set_option maxRecDepth 100000 in
theorem w_X4_bestNext_54 {G : oh_G} {l : Launch} (C : oh_C G cX4_bestNext wsX4_bestNext RX4 rmX4_bestNext 8) (hl : G.1.2.1 = l) (h : oh_H) (o : Nat) (v1 : Int32) (v2 : Int32) (v3 : Int32) (v4 : Int32) (v5 : Int32) (v6 : Int32) : oh_J (oh_TL (pv_X4_bestNext_10 G h o v1 v2 v3) (oh_TR h xi (some .int) G)) (f_X4_bestNext_54 h o v1 v2 v3 v4 v5 v6) (oh_V G 0 0 h 54 [(0, xr (some o)), (1, xi v1), (2, xi v2), (3, xi v3), (4, xi v4), (5, xi v5), (6, xi v6)] []) := by
  unfold f_X4_bestNext_54
  refine or_iinc C (y := (1 : Int32)) 6 rfl (by decide) (fun x1 => [(6, xi x1), (0, xr (some o)), (1, xi v1), (2, xi v2), (3, xi v3), (4, xi v4), (5, xi v5)]) (fun _ => rfl) (by decide) dX4_bestNext_54 (fun x1 => ?_)
  refine or_goto C 10 dX4_bestNext_57 (by decide) ?_
  refine or_sub [1, 2, 3, 4, 5, 6, 0] rfl ?_
  exact oj_back (P := pv_X4_bestNext_10 G h o v1 v2 v3) (s := (v4, v5, x1))
set_option maxHeartbeats 4000000 in
set_option maxRecDepth 100000 in
theorem wb_X4_bestNext_10 {G : oh_G} {l : Launch} (C : oh_C G cX4_bestNext wsX4_bestNext RX4 rmX4_bestNext 8) (hl : G.1.2.1 = l) (h : oh_H) (o : Nat) (v1 : Int32) (v2 : Int32) (v3 : Int32) (v4 : Int32) (v5 : Int32) (v6 : Int32) : oh_J (oh_TL (pv_X4_bestNext_10 G h o v1 v2 v3) (oh_TR h xi (some .int) G)) (b_X4_bestNext_10 h o v1 v2 v3 v4 v5 v6) (oh_V G 0 0 h 10 [(0, xr (some o)), (1, xi v1), (2, xi v2), (3, xi v3), (4, xi v4), (5, xi v5), (6, xi v6)] []) := by
  unfold b_X4_bestNext_10
  refine or_iload C 6 rfl dX4_bestNext_10 ?_
  refine or_aload_n C 0 rfl dX4_bestNext_12 ?_
  refine or_getI C 4 11 rfl (by decide) rfl (by decide) u_X4_bestNext_4 (by decide) k_X4_bestNext_f47 (by decide +kernel) dX4_bestNext_13 (fun x1 => ?_)
  refine or_icmp_ge C 60 dX4_bestNext_16 (by decide) ?_ ?_
  · refine oj_inr ?_
    refine or_iload C 4 rfl dX4_bestNext_60 ?_
    exact or_iretR C dX4_bestNext_62
  · refine or_iload_n C 1 rfl dX4_bestNext_19 ?_
    refine or_iload C 6 rfl dX4_bestNext_20 ?_
    refine oj_bind (fun p2 z3 => ?_)
    refine oj_v (P := oh_V G 0 0 h 25 [(0, xr (some o)), (1, xi v1), (2, xi v2), (3, xi v3), (4, xi v4), (5, xi v5), (6, xi v6)] [xi p2]) (fun k => or_callS C 2 hl (m_X4_holds _ h v1 v6 p2 z3) gX4_bestNext_X4_holds rfl rfl rfl (by decide +kernel) ⟨Nat.le_of_ble_eq_true rfl, Nat.le_of_ble_eq_true rfl⟩ (Nat.le_of_ble_eq_true rfl) dX4_bestNext_22 ⟨Nat.le_of_ble_eq_true rfl, Nat.le_of_ble_eq_true rfl⟩ rfl rfl k) ?_
    refine or_if_ne C 54 dX4_bestNext_25 (by decide) ?_ ?_
    · refine or_aload_n C 0 rfl dX4_bestNext_28 ?_
      refine or_iload_n C 1 rfl dX4_bestNext_29 ?_
      refine or_iload_n C 2 rfl dX4_bestNext_30 ?_
      refine or_iload_n C 3 rfl dX4_bestNext_31 ?_
      refine or_iload C 6 rfl dX4_bestNext_32 ?_
      refine oj_rcs (fun q4 => ?_)
      refine oj_bind (fun p6 z7 => ?_)
      refine oj_v (P := oh_V G 0 0 h 37 [(0, xr (some o)), (1, xi v1), (2, xi v2), (3, xi v3), (4, xi v4), (5, xi v5), (6, xi v6)] [xi p6]) (fun k => or_callV C 4 hl (m_X4_worth _ h o v1 v2 v3 v6 p6 z7) gX4_bestNext_X4_worth rfl rfl rfl (by decide +kernel) ⟨Nat.le_of_ble_eq_true rfl, Nat.le_of_ble_eq_true rfl⟩ q4 rfl (by decide) (Nat.le_of_ble_eq_true rfl) dX4_bestNext_34 ⟨Nat.le_of_ble_eq_true rfl, Nat.le_of_ble_eq_true rfl⟩ rfl rfl k) ?_
      refine or_istore C (fun x8 => [(7, xi x8), (0, xr (some o)), (1, xi v1), (2, xi v2), (3, xi v3), (4, xi v4), (5, xi v5), (6, xi v6)]) (fun _ => rfl) (by decide) dX4_bestNext_37 (fun x8 => ?_)
      refine or_iload C 0 rfl dX4_bestNext_39 ?_
      refine or_iload C 6 rfl dX4_bestNext_41 ?_
      refine or_icmp_ge C 54 dX4_bestNext_43 (by decide) ?_ ?_
      · refine or_sub [1, 2, 3, 4, 5, 6, 7] rfl ?_
        exact w_X4_bestNext_54 C hl h o v1 v2 v3 v4 v5 v6
      · refine or_iload C 0 rfl dX4_bestNext_46 ?_
        refine or_istore C (fun x9 => [(5, xi x9), (7, xi x8), (0, xr (some o)), (1, xi v1), (2, xi v2), (3, xi v3), (4, xi v4), (6, xi v6)]) (fun _ => rfl) (by decide) dX4_bestNext_48 (fun x9 => ?_)
        refine or_iload C 7 rfl dX4_bestNext_50 ?_
        refine or_istore C (fun x10 => [(4, xi x10), (5, xi x9), (7, xi x8), (0, xr (some o)), (1, xi v1), (2, xi v2), (3, xi v3), (6, xi v6)]) (fun _ => rfl) (by decide) dX4_bestNext_52 (fun x10 => ?_)
        refine or_sub [3, 4, 5, 6, 0, 1, 7] rfl ?_
        exact w_X4_bestNext_54 C hl h o v1 v2 v3 x10 x9 v6
    · refine or_sub [0, 1, 2, 3, 4, 5, 6] rfl ?_
      exact w_X4_bestNext_54 C hl h o v1 v2 v3 v4 v5 v6
theorem w_X4_bestNext_10 {G : oh_G} {l : Launch} (C : oh_C G cX4_bestNext wsX4_bestNext RX4 rmX4_bestNext 8) (hl : G.1.2.1 = l) (h : oh_H) (o : Nat) (v1 : Int32) (v2 : Int32) (v3 : Int32) (v4 : Int32) (v5 : Int32) (v6 : Int32) : oh_J (oh_TR h xi (some .int) G) (f_X4_bestNext_10 h o v1 v2 v3 v4 v5 v6) (oh_V G 0 0 h 10 [(0, xr (some o)), (1, xi v1), (2, xi v2), (3, xi v3), (4, xi v4), (5, xi v5), (6, xi v6)] []) := by
  unfold f_X4_bestNext_10
  exact oj_loop (P := pv_X4_bestNext_10 G h o v1 v2 v3) (fun s => wb_X4_bestNext_10 C hl h o v1 v2 v3 s.1 s.2.1 s.2.2) 1000000 (v4, v5, v6)
set_option maxHeartbeats 4000000 in
set_option maxRecDepth 100000 in
theorem w_X4_bestNext_0 {G : oh_G} {l : Launch} (C : oh_C G cX4_bestNext wsX4_bestNext RX4 rmX4_bestNext 8) (hl : G.1.2.1 = l) (h : oh_H) (o : Nat) (v1 : Int32) (v2 : Int32) (v3 : Int32) : oh_J (oh_TR h xi (some .int) G) (f_X4_bestNext h o v1 v2 v3) (oh_V G 0 0 h 0 [(0, xr (some o)), (1, xi v1), (2, xi v2), (3, xi v3)] []) := by
  unfold f_X4_bestNext
  refine or_iconst C (v := (-1 : Int32)) dX4_bestNext_0 (by decide) ?_
  refine or_istore C (fun x1 => [(4, xi x1), (0, xr (some o)), (1, xi v1), (2, xi v2), (3, xi v3)]) (fun _ => rfl) (by decide) dX4_bestNext_1 (fun x1 => ?_)
  refine or_ldc C (v := (2147483647 : Int32)) k_X4_bestNext_c98 dX4_bestNext_3 ?_
  refine or_istore C (fun x2 => [(5, xi x2), (4, xi x1), (0, xr (some o)), (1, xi v1), (2, xi v2), (3, xi v3)]) (fun _ => rfl) (by decide) dX4_bestNext_5 (fun x2 => ?_)
  refine or_iconst C (v := (0 : Int32)) dX4_bestNext_7 (by decide) ?_
  refine or_istore C (fun x3 => [(6, xi x3), (5, xi x2), (4, xi x1), (0, xr (some o)), (1, xi v1), (2, xi v2), (3, xi v3)]) (fun _ => rfl) (by decide) dX4_bestNext_8 (fun x3 => ?_)
  refine or_sub [3, 4, 5, 6, 2, 1, 0] rfl ?_
  exact w_X4_bestNext_10 C hl h o v1 v2 v3 x1 x2 x3
theorem m_X4_bestNext (l : Launch) (h : oh_H) (o : Nat) (v1 : Int32) (v2 : Int32) (v3 : Int32) (p : Int32) (hf : f_X4_bestNext h o v1 v2 v3 = some p) : oh_M l yX4_bestNext wsX4_bestNext rmX4_bestNext 0 0 [xr (some o), xi v1, xi v2, xi v3] h (some (xi p)) h :=
  oh_met (cc := cX4_bestNext) (maxL := 8) (ret := (some .int)) (by decide) rfl (Nat.le_of_ble_eq_true rfl) (fun G C hl hN E => w_X4_bestNext_0 C hl h o v1 v2 v3 p hf E)
/-! X4_judge -/
theorem k_X4_judge_f27 : Cond.fieldLink RX4 27 "OilPress$Planner" "cleanOf" "[I" ∈ wsX4_judge := List.mem_of_getElem? (i := 1) (by decide +kernel)
theorem u_X4_judge_4 : ∀ w ∈ u_ws RX4 TX4 15, w ∈ wsX4_judge := fun w h => List.mem_cons_of_mem _ (List.mem_append_right _ (h))
theorem k_X4_judge_f30 : Cond.fieldLink RX4 30 "OilPress$Planner" "best" "[I" ∈ wsX4_judge := List.mem_of_getElem? (i := 2) (by decide +kernel)
abbrev rmX4_judge : Room := { frames := 3, cells := 0, slots := 0, locals := 75 }
def f_X4_judge_55 (h : oh_H) (o : Nat) (v1 : Int32) (v2 : Int32) (v3 : Int32) (s0 : Int32) (s1 : Int32) (s2 : Option Nat) : Option ((oh_H × Int32) ⊕ (oh_H)) :=
  (oh_tI h s2 20 s1 s0).bind fun h1 => oh_lt (v3 + (1 : Int32)) fun x2 => some (Sum.inl (h1, x2))
abbrev pv_X4_judge_2 (G : oh_G) (o : Nat) (v1 : Int32) (v2 : Int32) : (oh_H × Int32) → Prop := fun s => oh_V G 0 0 s.1 2 [(0, xr (some o)), (1, xi v1), (2, xi v2), (3, xi s.2)] []
def b_X4_judge_2 (h : oh_H) (o : Nat) (v1 : Int32) (v2 : Int32) (v3 : Int32) : Option ((oh_H × Int32) ⊕ (oh_H)) :=
  (oh_gR h (some o) 261).bind fun x1 => (oh_aI h x1 20 v1).bind fun x2 => if x2 < v3 then (Option.map Sum.inr (some h)) else (oh_rc h (some o) 5 fun o4 => (f_X4_bestNext h o4 v1 v2 v3).bind fun p5 => oh_lt p5 fun x7 => (oh_gR h (some o) 262).bind fun x8 => (f_X4_slot h v1 v2 v3).bind fun p9 => if x7 = (-1 : Int32) then (oh_rc h (some o) 5 fun o16 => (f_X4_hourAfter h o16 v1 v3).bind fun p17 => f_X4_judge_55 h o v1 v2 v3 p17 p9 x8) else (oh_rc h (some o) 5 fun o12 => (f_X4_worth h o12 v1 v2 v3 x7).bind fun p13 => f_X4_judge_55 h o v1 v2 v3 p13 p9 x8))
def f_X4_judge_2 (h : oh_H) (o : Nat) (v1 : Int32) (v2 : Int32) (v3 : Int32) : Option (oh_H) := oh_loop (fun s : oh_H × Int32 => b_X4_judge_2 s.1 o v1 v2 s.2) 1000000 (h, v3)
def f_X4_judge (h : oh_H) (o : Nat) (v1 : Int32) (v2 : Int32) : Option (oh_H) :=
  oh_lt (0 : Int32) fun x1 => f_X4_judge_2 h o v1 v2 x1
set_option maxHeartbeats 4000000 in
set_option maxRecDepth 100000 in
theorem w_X4_judge_55 {G : oh_G} {l : Launch} (C : oh_C G cX4_judge wsX4_judge RX4 rmX4_judge 5) (hl : G.1.2.1 = l) (h0 : oh_H) (h : oh_H) (o : Nat) (v1 : Int32) (v2 : Int32) (v3 : Int32) (s0 : Int32) (s1 : Int32) (s2 : Option Nat) : oh_J (oh_TL (pv_X4_judge_2 G o v1 v2) (oh_TV h0 0 0 none G)) (f_X4_judge_55 h o v1 v2 v3 s0 s1 s2) (oh_V G 0 0 h 55 [(0, xr (some o)), (1, xi v1), (2, xi v2), (3, xi v3)] [xi s0, xi s1, xr s2]) := by
  unfold f_X4_judge_55
  refine or_iast C dX4_judge_55 (fun h1 => ?_)
  refine or_iinc C (y := (1 : Int32)) 3 rfl (by decide) (fun x2 => [(3, xi x2), (0, xr (some o)), (1, xi v1), (2, xi v2)]) (fun _ => rfl) (by decide) dX4_judge_56 (fun x2 => ?_)
  refine or_goto C 2 dX4_judge_59 (by decide) ?_
  refine or_sub [1, 2, 3, 0] rfl ?_
  exact oj_back (P := pv_X4_judge_2 G o v1 v2) (s := (h1, x2))
set_option maxHeartbeats 4000000 in
set_option maxRecDepth 100000 in
theorem wb_X4_judge_2 {G : oh_G} {l : Launch} (C : oh_C G cX4_judge wsX4_judge RX4 rmX4_judge 5) (hl : G.1.2.1 = l) (h0 : oh_H) (h : oh_H) (o : Nat) (v1 : Int32) (v2 : Int32) (v3 : Int32) : oh_J (oh_TL (pv_X4_judge_2 G o v1 v2) (oh_TV h0 0 0 none G)) (b_X4_judge_2 h o v1 v2 v3) (oh_V G 0 0 h 2 [(0, xr (some o)), (1, xi v1), (2, xi v2), (3, xi v3)] []) := by
  unfold b_X4_judge_2
  refine or_iload_n C 3 rfl dX4_judge_2 ?_
  refine or_aload_n C 0 rfl dX4_judge_3 ?_
  refine or_getR C 4 5 rfl (by decide) rfl (by decide) u_X4_judge_4 (by decide) k_X4_judge_f27 (by decide +kernel) dX4_judge_4 (fun x1 => ?_)
  refine or_iload_n C 1 rfl dX4_judge_7 ?_
  refine or_iald C dX4_judge_8 (fun x2 => ?_)
  refine or_icmp_gt C 62 dX4_judge_9 (by decide) ?_ ?_
  · refine oj_inr ?_
    exact or_vret C ⟨Nat.le_of_ble_eq_true rfl, Nat.le_of_ble_eq_true rfl⟩ dX4_judge_62
  · refine or_aload_n C 0 rfl dX4_judge_12 ?_
    refine or_iload_n C 1 rfl dX4_judge_13 ?_
    refine or_iload_n C 2 rfl dX4_judge_14 ?_
    refine or_iload_n C 3 rfl dX4_judge_15 ?_
    refine oj_rcs (fun q3 => ?_)
    refine oj_bind (fun p5 z6 => ?_)
    refine oj_v (P := oh_V G 0 0 h 19 [(0, xr (some o)), (1, xi v1), (2, xi v2), (3, xi v3)] [xi p5]) (fun k => or_callV C 3 hl (m_X4_bestNext _ h o v1 v2 v3 p5 z6) gX4_judge_X4_bestNext rfl rfl rfl (by decide +kernel) ⟨Nat.le_of_ble_eq_true rfl, Nat.le_of_ble_eq_true rfl⟩ q3 rfl (by decide) (Nat.le_of_ble_eq_true rfl) dX4_judge_16 ⟨Nat.le_of_ble_eq_true rfl, Nat.le_of_ble_eq_true rfl⟩ rfl rfl k) ?_
    refine or_istore C (fun x7 => [(4, xi x7), (0, xr (some o)), (1, xi v1), (2, xi v2), (3, xi v3)]) (fun _ => rfl) (by decide) dX4_judge_19 (fun x7 => ?_)
    refine or_aload_n C 1 rfl dX4_judge_21 ?_
    refine or_getR C 4 6 rfl (by decide) rfl (by decide) u_X4_judge_4 (by decide) k_X4_judge_f30 (by decide +kernel) dX4_judge_22 (fun x8 => ?_)
    refine or_iload_n C 2 rfl dX4_judge_25 ?_
    refine or_iload_n C 3 rfl dX4_judge_26 ?_
    refine or_iload_n C 4 rfl dX4_judge_27 ?_
    refine oj_bind (fun p9 z10 => ?_)
    refine oj_v (P := oh_V G 0 0 h 31 [(4, xi x7), (0, xr (some o)), (1, xi v1), (2, xi v2), (3, xi v3)] [xi p9, xr x8]) (fun k => or_callS C 3 hl (m_X4_slot _ h v1 v2 v3 p9 z10) gX4_judge_X4_slot rfl rfl rfl (by decide +kernel) ⟨Nat.le_of_ble_eq_true rfl, Nat.le_of_ble_eq_true rfl⟩ (Nat.le_of_ble_eq_true rfl) dX4_judge_28 ⟨Nat.le_of_ble_eq_true rfl, Nat.le_of_ble_eq_true rfl⟩ rfl rfl k) ?_
    refine or_iload C 0 rfl dX4_judge_31 ?_
    refine or_iconst C (v := (-1 : Int32)) dX4_judge_33 (by decide) ?_
    refine or_icmp_ne C 46 dX4_judge_34 (by decide) ?_ ?_
    · refine or_aload_n C 1 rfl dX4_judge_37 ?_
      refine or_iload_n C 2 rfl dX4_judge_38 ?_
      refine or_iload_n C 4 rfl dX4_judge_39 ?_
      refine oj_rcs (fun q15 => ?_)
      refine oj_bind (fun p17 z18 => ?_)
      refine oj_v (P := oh_V G 0 0 h 43 [(4, xi x7), (0, xr (some o)), (1, xi v1), (2, xi v2), (3, xi v3)] [xi p17, xi p9, xr x8]) (fun k => or_callV C 2 hl (m_X4_hourAfter _ h o v1 v3 p17 z18) gX4_judge_X4_hourAfter rfl rfl rfl (by decide +kernel) ⟨Nat.le_of_ble_eq_true rfl, Nat.le_of_ble_eq_true rfl⟩ q15 rfl (by decide) (Nat.le_of_ble_eq_true rfl) dX4_judge_40 ⟨Nat.le_of_ble_eq_true rfl, Nat.le_of_ble_eq_true rfl⟩ rfl rfl k) ?_
      refine or_goto C 55 dX4_judge_43 (by decide) ?_
      refine or_sub [1, 2, 3, 4] rfl ?_
      exact w_X4_judge_55 C hl h0 h o v1 v2 v3 p17 p9 x8
    · refine or_aload_n C 1 rfl dX4_judge_46 ?_
      refine or_iload_n C 2 rfl dX4_judge_47 ?_
      refine or_iload_n C 3 rfl dX4_judge_48 ?_
      refine or_iload_n C 4 rfl dX4_judge_49 ?_
      refine or_iload C 0 rfl dX4_judge_50 ?_
      refine oj_rcs (fun q11 => ?_)
      refine oj_bind (fun p13 z14 => ?_)
      refine oj_v (P := oh_V G 0 0 h 55 [(4, xi x7), (0, xr (some o)), (1, xi v1), (2, xi v2), (3, xi v3)] [xi p13, xi p9, xr x8]) (fun k => or_callV C 4 hl (m_X4_worth _ h o v1 v2 v3 x7 p13 z14) gX4_judge_X4_worth rfl rfl rfl (by decide +kernel) ⟨Nat.le_of_ble_eq_true rfl, Nat.le_of_ble_eq_true rfl⟩ q11 rfl (by decide) (Nat.le_of_ble_eq_true rfl) dX4_judge_52 ⟨Nat.le_of_ble_eq_true rfl, Nat.le_of_ble_eq_true rfl⟩ rfl rfl k) ?_
      refine or_sub [1, 2, 3, 4] rfl ?_
      exact w_X4_judge_55 C hl h0 h o v1 v2 v3 p13 p9 x8
theorem w_X4_judge_2 {G : oh_G} {l : Launch} (C : oh_C G cX4_judge wsX4_judge RX4 rmX4_judge 5) (hl : G.1.2.1 = l) (h0 : oh_H) (h : oh_H) (o : Nat) (v1 : Int32) (v2 : Int32) (v3 : Int32) : oh_J (oh_TV h0 0 0 none G) (f_X4_judge_2 h o v1 v2 v3) (oh_V G 0 0 h 2 [(0, xr (some o)), (1, xi v1), (2, xi v2), (3, xi v3)] []) := by
  unfold f_X4_judge_2
  exact oj_loop (P := pv_X4_judge_2 G o v1 v2) (fun s => wb_X4_judge_2 C hl h0 s.1 o v1 v2 s.2) 1000000 (h, v3)
set_option maxHeartbeats 4000000 in
set_option maxRecDepth 100000 in
theorem w_X4_judge_0 {G : oh_G} {l : Launch} (C : oh_C G cX4_judge wsX4_judge RX4 rmX4_judge 5) (hl : G.1.2.1 = l) (h0 : oh_H) (h : oh_H) (o : Nat) (v1 : Int32) (v2 : Int32) : oh_J (oh_TV h0 0 0 none G) (f_X4_judge h o v1 v2) (oh_V G 0 0 h 0 [(0, xr (some o)), (1, xi v1), (2, xi v2)] []) := by
  unfold f_X4_judge
  refine or_iconst C (v := (0 : Int32)) dX4_judge_0 (by decide) ?_
  refine or_istore_n C (fun x1 => [(3, xi x1), (0, xr (some o)), (1, xi v1), (2, xi v2)]) (fun _ => rfl) (by decide) dX4_judge_1 (fun x1 => ?_)
  refine or_sub [1, 2, 3, 0] rfl ?_
  exact w_X4_judge_2 C hl h0 h o v1 v2 x1
theorem m_X4_judge (l : Launch) (h : oh_H) (o : Nat) (v1 : Int32) (v2 : Int32) (p : oh_H) (hf : f_X4_judge h o v1 v2 = some p) : oh_M l yX4_judge wsX4_judge rmX4_judge 0 0 [xr (some o), xi v1, xi v2] h none p :=
  oh_met (cc := cX4_judge) (maxL := 5) (ret := none) (by decide) rfl (Nat.le_of_ble_eq_true rfl) (fun G C hl hN E => w_X4_judge_0 C hl h h o v1 v2 p hf E)
/-! X4_follow -/
theorem k_X4_follow_f53 : Cond.fieldLink RX4 53 "OilPress$Planner" "end" "I" ∈ wsX4_follow := List.mem_of_getElem? (i := 6) (by decide +kernel)
theorem u_X4_follow_4 : ∀ w ∈ u_ws RX4 TX4 15, w ∈ wsX4_follow := fun w h => List.mem_cons_of_mem _ (List.mem_append_right _ (h))
theorem k_X4_follow_f50 : Cond.fieldLink RX4 50 "OilPress$Planner" "tooLate" "I" ∈ wsX4_follow := List.mem_of_getElem? (i := 1) (by decide +kernel)
theorem k_X4_follow_f44 : Cond.fieldLink RX4 44 "OilPress$Planner" "order" "[I" ∈ wsX4_follow := List.mem_of_getElem? (i := 4) (by decide +kernel)
theorem k_X4_follow_f9 : Cond.fieldLink RX4 9 "OilPress$Planner" "numbers" "[I" ∈ wsX4_follow := List.mem_of_getElem? (i := 5) (by decide +kernel)
theorem k_X4_follow_f21 : Cond.fieldLink RX4 21 "OilPress$Planner" "lateHours" "[I" ∈ wsX4_follow := List.mem_of_getElem? (i := 3) (by decide +kernel)
theorem k_X4_follow_f47 : Cond.fieldLink RX4 47 "OilPress$Planner" "size" "I" ∈ wsX4_follow := List.mem_of_getElem? (i := 2) (by decide +kernel)
abbrev rmX4_follow : Room := { frames := 3, cells := 0, slots := 0, locals := 75 }
def f_X4_follow_119 (h : oh_H) (o : Nat) (v1 : Int32) (v3 : Int32) : Option (oh_H) :=
  oh_rc h (some o) 5 fun o2 => (f_X4_hourAfter h o2 v1 v3).bind fun p3 => (oh_pI h (some o) 269 p3).bind fun h5 => some h5
def f_X4_follow_85 (h : oh_H) (o : Nat) (v1 : Int32) (v3 : Int32) (v4 : Int32) (v5 : Int32) (s0 : Int32) (s1 : Int32) (s2 : Option Nat) : Option ((oh_H × Int32 × Int32 × Int32 × Int32) ⊕ (oh_H)) :=
  (oh_pI h s2 268 (s1 + s0)).bind fun h1 => (oh_gR h1 (some o) 266).bind fun x2 => (oh_gR h1 (some o) 256).bind fun x3 => (oh_aI h1 x3 20 v5).bind fun x4 => (oh_tI h1 x2 20 v4 x4).bind fun h5 => oh_lt (v1 ||| ((1 : Int32) <<< (v5 &&& 31))) fun x6 => oh_lt v5 fun x7 => oh_lt (v4 + (1 : Int32)) fun x8 => some (Sum.inl (h5, x6, x7, v3, x8))
def f_X4_follow_57 (h : oh_H) (o : Nat) (v1 : Int32) (v4 : Int32) (v5 : Int32) (s0 : Int32) (s1 : Int32) : Option ((oh_H × Int32 × Int32 × Int32 × Int32) ⊕ (oh_H)) :=
  oh_lt (s1 + s0) fun x1 => (oh_gI h (some o) 268).bind fun x2 => oh_rc h (some o) 5 fun o4 => (f_X4_hourAfter h o4 v1 x1).bind fun p5 => (oh_gR h (some o) 259).bind fun x7 => (oh_aI h x7 20 v5).bind fun x8 => if p5 < x8 then (f_X4_follow_85 h o v1 x1 v4 v5 (0 : Int32) x2 (some o)) else (f_X4_follow_85 h o v1 x1 v4 v5 (1 : Int32) x2 (some o))
abbrev pv_X4_follow_14 (G : oh_G) (o : Nat) : (oh_H × Int32 × Int32 × Int32 × Int32) → Prop := fun s => oh_V G 0 0 s.1 14 [(0, xr (some o)), (1, xi s.2.1), (2, xi s.2.2.1), (3, xi s.2.2.2.1), (4, xi s.2.2.2.2)] []
def b_X4_follow_14 (h : oh_H) (o : Nat) (v1 : Int32) (v2 : Int32) (v3 : Int32) (v4 : Int32) : Option ((oh_H × Int32 × Int32 × Int32 × Int32) ⊕ (oh_H)) :=
  (oh_gI h (some o) 267).bind fun x1 => if x1 ≤ v4 then (Option.map Sum.inr (f_X4_follow_119 h o v1 v3)) else (oh_rc h (some o) 5 fun o3 => (f_X4_bestNext h o3 v1 v2 v3).bind fun p4 => oh_lt p4 fun x6 => if x6 = (-1 : Int32) then (Option.map Sum.inr (f_X4_follow_119 h o v1 v3)) else (oh_rc h (some o) 5 fun o8 => (f_X4_needsWash h o8 v2 x6).bind fun p9 => if p9 = 0 then (f_X4_follow_57 h o v1 v4 x6 (0 : Int32) v3) else (f_X4_follow_57 h o v1 v4 x6 (1 : Int32) v3)))
def f_X4_follow_14 (h : oh_H) (o : Nat) (v1 : Int32) (v2 : Int32) (v3 : Int32) (v4 : Int32) : Option (oh_H) := oh_loop (fun s : oh_H × Int32 × Int32 × Int32 × Int32 => b_X4_follow_14 s.1 o s.2.1 s.2.2.1 s.2.2.2.1 s.2.2.2.2) 1000000 (h, v1, v2, v3, v4)
def f_X4_follow (h : oh_H) (o : Nat) : Option (oh_H) :=
  oh_lt (0 : Int32) fun x1 => oh_lt (-1 : Int32) fun x2 => oh_lt (0 : Int32) fun x3 => (oh_pI h (some o) 268 (0 : Int32)).bind fun h4 => oh_lt (0 : Int32) fun x5 => f_X4_follow_14 h4 o x1 x2 x3 x5
set_option maxHeartbeats 4000000 in
set_option maxRecDepth 100000 in
theorem w_X4_follow_119 {G : oh_G} {l : Launch} (C : oh_C G cX4_follow wsX4_follow RX4 rmX4_follow 6) (hl : G.1.2.1 = l) (h0 : oh_H) (h : oh_H) (o : Nat) (v1 : Int32) (v3 : Int32) : oh_J (oh_TV h0 0 0 none G) (f_X4_follow_119 h o v1 v3) (oh_V G 0 0 h 119 [(0, xr (some o)), (1, xi v1), (3, xi v3)] []) := by
  unfold f_X4_follow_119
  refine or_aload_n C 0 rfl dX4_follow_119 ?_
  refine or_aload_n C 0 rfl dX4_follow_120 ?_
  refine or_iload_n C 1 rfl dX4_follow_121 ?_
  refine or_iload_n C 2 rfl dX4_follow_122 ?_
  refine oj_rcs (fun q1 => ?_)
  refine oj_bind (fun p3 z4 => ?_)
  refine oj_v (P := oh_V G 0 0 h 126 [(0, xr (some o)), (1, xi v1), (3, xi v3)] [xi p3, xr (some o)]) (fun k => or_callV C 2 hl (m_X4_hourAfter _ h o v1 v3 p3 z4) gX4_follow_X4_hourAfter rfl rfl rfl (by decide +kernel) ⟨Nat.le_of_ble_eq_true rfl, Nat.le_of_ble_eq_true rfl⟩ q1 rfl (by decide) (Nat.le_of_ble_eq_true rfl) dX4_follow_123 ⟨Nat.le_of_ble_eq_true rfl, Nat.le_of_ble_eq_true rfl⟩ rfl rfl k) ?_
  refine or_putI C 4 13 rfl (by decide) rfl (by decide) u_X4_follow_4 tyX4 tyX4_ok nmX4 (by decide) k_X4_follow_f53 (Or.inl rfl) (by decide +kernel) rfl dX4_follow_126 (fun h5 => ?_)
  exact or_vret C ⟨Nat.le_of_ble_eq_true rfl, Nat.le_of_ble_eq_true rfl⟩ dX4_follow_129
set_option maxHeartbeats 4000000 in
set_option maxRecDepth 100000 in
theorem w_X4_follow_85 {G : oh_G} {l : Launch} (C : oh_C G cX4_follow wsX4_follow RX4 rmX4_follow 6) (hl : G.1.2.1 = l) (h0 : oh_H) (h : oh_H) (o : Nat) (v1 : Int32) (v3 : Int32) (v4 : Int32) (v5 : Int32) (s0 : Int32) (s1 : Int32) (s2 : Option Nat) : oh_J (oh_TL (pv_X4_follow_14 G o) (oh_TV h0 0 0 none G)) (f_X4_follow_85 h o v1 v3 v4 v5 s0 s1 s2) (oh_V G 0 0 h 85 [(0, xr (some o)), (1, xi v1), (3, xi v3), (4, xi v4), (5, xi v5)] [xi s0, xi s1, xr s2]) := by
  unfold f_X4_follow_85
  refine or_iadd C dX4_follow_85 ?_
  refine or_putI C 4 12 rfl (by decide) rfl (by decide) u_X4_follow_4 tyX4 tyX4_ok nmX4 (by decide) k_X4_follow_f50 (Or.inl rfl) (by decide +kernel) rfl dX4_follow_86 (fun h1 => ?_)
  refine or_aload_n C 0 rfl dX4_follow_89 ?_
  refine or_getR C 4 10 rfl (by decide) rfl (by decide) u_X4_follow_4 (by decide) k_X4_follow_f44 (by decide +kernel) dX4_follow_90 (fun x2 => ?_)
  refine or_iload C 3 rfl dX4_follow_93 ?_
  refine or_aload_n C 0 rfl dX4_follow_95 ?_
  refine or_getR C 4 0 rfl (by decide) rfl (by decide) u_X4_follow_4 (by decide) k_X4_follow_f9 (by decide +kernel) dX4_follow_96 (fun x3 => ?_)
  refine or_iload C 4 rfl dX4_follow_99 ?_
  refine or_iald C dX4_follow_101 (fun x4 => ?_)
  refine or_iast C dX4_follow_102 (fun h5 => ?_)
  refine or_iload_n C 1 rfl dX4_follow_103 ?_
  refine or_iconst C (v := (1 : Int32)) dX4_follow_104 (by decide) ?_
  refine or_iload C 4 rfl dX4_follow_105 ?_
  refine or_ishl C dX4_follow_107 ?_
  refine or_ior C dX4_follow_108 ?_
  refine or_istore_n C (fun x6 => [(1, xi x6), (0, xr (some o)), (3, xi v3), (4, xi v4), (5, xi v5)]) (fun _ => rfl) (by decide) dX4_follow_109 (fun x6 => ?_)
  refine or_iload C 4 rfl dX4_follow_110 ?_
  refine or_istore_n C (fun x7 => [(2, xi x7), (1, xi x6), (0, xr (some o)), (3, xi v3), (4, xi v4), (5, xi v5)]) (fun _ => rfl) (by decide) dX4_follow_112 (fun x7 => ?_)
  refine or_iinc C (y := (1 : Int32)) 4 rfl (by decide) (fun x8 => [(4, xi x8), (2, xi x7), (1, xi x6), (0, xr (some o)), (3, xi v3), (5, xi v5)]) (fun _ => rfl) (by decide) dX4_follow_113 (fun x8 => ?_)
  refine or_goto C 14 dX4_follow_116 (by decide) ?_
  refine or_sub [3, 2, 1, 4, 0] rfl ?_
  exact oj_back (P := pv_X4_follow_14 G o) (s := (h5, x6, x7, v3, x8))
set_option maxHeartbeats 4000000 in
set_option maxRecDepth 100000 in
theorem w_X4_follow_57 {G : oh_G} {l : Launch} (C : oh_C G cX4_follow wsX4_follow RX4 rmX4_follow 6) (hl : G.1.2.1 = l) (h0 : oh_H) (h : oh_H) (o : Nat) (v1 : Int32) (v4 : Int32) (v5 : Int32) (s0 : Int32) (s1 : Int32) : oh_J (oh_TL (pv_X4_follow_14 G o) (oh_TV h0 0 0 none G)) (f_X4_follow_57 h o v1 v4 v5 s0 s1) (oh_V G 0 0 h 57 [(0, xr (some o)), (1, xi v1), (4, xi v4), (5, xi v5)] [xi s0, xi s1]) := by
  unfold f_X4_follow_57
  refine or_iadd C dX4_follow_57 ?_
  refine or_istore_n C (fun x1 => [(3, xi x1), (0, xr (some o)), (1, xi v1), (4, xi v4), (5, xi v5)]) (fun _ => rfl) (by decide) dX4_follow_58 (fun x1 => ?_)
  refine or_aload_n C 1 rfl dX4_follow_59 ?_
  refine or_dup C rfl dX4_follow_60 ?_
  refine or_getI C 4 12 rfl (by decide) rfl (by decide) u_X4_follow_4 (by decide) k_X4_follow_f50 (by decide +kernel) dX4_follow_61 (fun x2 => ?_)
  refine or_aload_n C 1 rfl dX4_follow_64 ?_
  refine or_iload_n C 2 rfl dX4_follow_65 ?_
  refine or_iload_n C 0 rfl dX4_follow_66 ?_
  refine oj_rcs (fun q3 => ?_)
  refine oj_bind (fun p5 z6 => ?_)
  refine oj_v (P := oh_V G 0 0 h 70 [(3, xi x1), (0, xr (some o)), (1, xi v1), (4, xi v4), (5, xi v5)] [xi p5, xi x2, xr (some o)]) (fun k => or_callV C 2 hl (m_X4_hourAfter _ h o v1 x1 p5 z6) gX4_follow_X4_hourAfter rfl rfl rfl (by decide +kernel) ⟨Nat.le_of_ble_eq_true rfl, Nat.le_of_ble_eq_true rfl⟩ q3 rfl (by decide) (Nat.le_of_ble_eq_true rfl) dX4_follow_67 ⟨Nat.le_of_ble_eq_true rfl, Nat.le_of_ble_eq_true rfl⟩ rfl rfl k) ?_
  refine or_aload_n C 1 rfl dX4_follow_70 ?_
  refine or_getR C 4 3 rfl (by decide) rfl (by decide) u_X4_follow_4 (by decide) k_X4_follow_f21 (by decide +kernel) dX4_follow_71 (fun x7 => ?_)
  refine or_iload C 4 rfl dX4_follow_74 ?_
  refine or_iald C dX4_follow_76 (fun x8 => ?_)
  refine or_icmp_lt C 84 dX4_follow_77 (by decide) ?_ ?_
  · refine or_iconst C (v := (0 : Int32)) dX4_follow_84 (by decide) ?_
    refine or_sub [1, 2, 0, 3, 4] rfl ?_
    exact w_X4_follow_85 C hl h0 h o v1 x1 v4 v5 (0 : Int32) x2 (some o)
  · refine or_iconst C (v := (1 : Int32)) dX4_follow_80 (by decide) ?_
    refine or_goto C 85 dX4_follow_81 (by decide) ?_
    refine or_sub [1, 2, 0, 3, 4] rfl ?_
    exact w_X4_follow_85 C hl h0 h o v1 x1 v4 v5 (1 : Int32) x2 (some o)
set_option maxHeartbeats 4000000 in
set_option maxRecDepth 100000 in
theorem wb_X4_follow_14 {G : oh_G} {l : Launch} (C : oh_C G cX4_follow wsX4_follow RX4 rmX4_follow 6) (hl : G.1.2.1 = l) (h0 : oh_H) (h : oh_H) (o : Nat) (v1 : Int32) (v2 : Int32) (v3 : Int32) (v4 : Int32) : oh_J (oh_TL (pv_X4_follow_14 G o) (oh_TV h0 0 0 none G)) (b_X4_follow_14 h o v1 v2 v3 v4) (oh_V G 0 0 h 14 [(0, xr (some o)), (1, xi v1), (2, xi v2), (3, xi v3), (4, xi v4)] []) := by
  unfold b_X4_follow_14
  refine or_iload C 4 rfl dX4_follow_14 ?_
  refine or_aload_n C 0 rfl dX4_follow_16 ?_
  refine or_getI C 4 11 rfl (by decide) rfl (by decide) u_X4_follow_4 (by decide) k_X4_follow_f47 (by decide +kernel) dX4_follow_17 (fun x1 => ?_)
  refine or_icmp_ge C 119 dX4_follow_20 (by decide) ?_ ?_
  · refine oj_inr ?_
    refine or_sub [0, 1, 3] rfl ?_
    exact w_X4_follow_119 C hl h0 h o v1 v3
  · refine or_aload_n C 0 rfl dX4_follow_23 ?_
    refine or_iload_n C 1 rfl dX4_follow_24 ?_
    refine or_iload_n C 2 rfl dX4_follow_25 ?_
    refine or_iload_n C 3 rfl dX4_follow_26 ?_
    refine oj_rcs (fun q2 => ?_)
    refine oj_bind (fun p4 z5 => ?_)
    refine oj_v (P := oh_V G 0 0 h 30 [(0, xr (some o)), (1, xi v1), (2, xi v2), (3, xi v3), (4, xi v4)] [xi p4]) (fun k => or_callV C 3 hl (m_X4_bestNext _ h o v1 v2 v3 p4 z5) gX4_follow_X4_bestNext rfl rfl rfl (by decide +kernel) ⟨Nat.le_of_ble_eq_true rfl, Nat.le_of_ble_eq_true rfl⟩ q2 rfl (by decide) (Nat.le_of_ble_eq_true rfl) dX4_follow_27 ⟨Nat.le_of_ble_eq_true rfl, Nat.le_of_ble_eq_true rfl⟩ rfl rfl k) ?_
    refine or_istore C (fun x6 => [(5, xi x6), (0, xr (some o)), (1, xi v1), (2, xi v2), (3, xi v3), (4, xi v4)]) (fun _ => rfl) (by decide) dX4_follow_30 (fun x6 => ?_)
    refine or_iload C 0 rfl dX4_follow_32 ?_
    refine or_iconst C (v := (-1 : Int32)) dX4_follow_34 (by decide) ?_
    refine or_icmp_ne C 41 dX4_follow_35 (by decide) ?_ ?_
    · refine oj_inr ?_
      refine or_goto C 119 dX4_follow_38 (by decide) ?_
      refine or_sub [1, 2, 4] rfl ?_
      exact w_X4_follow_119 C hl h0 h o v1 v3
    · refine or_iload_n C 4 rfl dX4_follow_41 ?_
      refine or_aload_n C 1 rfl dX4_follow_42 ?_
      refine or_iload_n C 3 rfl dX4_follow_43 ?_
      refine or_iload C 0 rfl dX4_follow_44 ?_
      refine oj_rcs (fun q7 => ?_)
      refine oj_bind (fun p9 z10 => ?_)
      refine oj_v (P := oh_V G 0 0 h 49 [(5, xi x6), (0, xr (some o)), (1, xi v1), (2, xi v2), (3, xi v3), (4, xi v4)] [xi p9, xi v3]) (fun k => or_callV C 2 hl (m_X4_needsWash _ h o v2 x6 p9 z10) gX4_follow_X4_needsWash rfl rfl rfl (by decide +kernel) ⟨Nat.le_of_ble_eq_true rfl, Nat.le_of_ble_eq_true rfl⟩ q7 rfl (by decide) (Nat.le_of_ble_eq_true rfl) dX4_follow_46 ⟨Nat.le_of_ble_eq_true rfl, Nat.le_of_ble_eq_true rfl⟩ rfl rfl k) ?_
      refine or_if_eq C 56 dX4_follow_49 (by decide) ?_ ?_
      · refine or_iconst C (v := (0 : Int32)) dX4_follow_56 (by decide) ?_
        refine or_sub [1, 2, 5, 0] rfl ?_
        exact w_X4_follow_57 C hl h0 h o v1 v4 x6 (0 : Int32) v3
      · refine or_iconst C (v := (1 : Int32)) dX4_follow_52 (by decide) ?_
        refine or_goto C 57 dX4_follow_53 (by decide) ?_
        refine or_sub [1, 2, 5, 0] rfl ?_
        exact w_X4_follow_57 C hl h0 h o v1 v4 x6 (1 : Int32) v3
theorem w_X4_follow_14 {G : oh_G} {l : Launch} (C : oh_C G cX4_follow wsX4_follow RX4 rmX4_follow 6) (hl : G.1.2.1 = l) (h0 : oh_H) (h : oh_H) (o : Nat) (v1 : Int32) (v2 : Int32) (v3 : Int32) (v4 : Int32) : oh_J (oh_TV h0 0 0 none G) (f_X4_follow_14 h o v1 v2 v3 v4) (oh_V G 0 0 h 14 [(0, xr (some o)), (1, xi v1), (2, xi v2), (3, xi v3), (4, xi v4)] []) := by
  unfold f_X4_follow_14
  exact oj_loop (P := pv_X4_follow_14 G o) (fun s => wb_X4_follow_14 C hl h0 s.1 o s.2.1 s.2.2.1 s.2.2.2.1 s.2.2.2.2) 1000000 (h, v1, v2, v3, v4)
set_option maxHeartbeats 4000000 in
set_option maxRecDepth 100000 in
theorem w_X4_follow_0 {G : oh_G} {l : Launch} (C : oh_C G cX4_follow wsX4_follow RX4 rmX4_follow 6) (hl : G.1.2.1 = l) (h0 : oh_H) (h : oh_H) (o : Nat) : oh_J (oh_TV h0 0 0 none G) (f_X4_follow h o) (oh_V G 0 0 h 0 [(0, xr (some o))] []) := by
  unfold f_X4_follow
  refine or_iconst C (v := (0 : Int32)) dX4_follow_0 (by decide) ?_
  refine or_istore_n C (fun x1 => [(1, xi x1), (0, xr (some o))]) (fun _ => rfl) (by decide) dX4_follow_1 (fun x1 => ?_)
  refine or_iconst C (v := (-1 : Int32)) dX4_follow_2 (by decide) ?_
  refine or_istore_n C (fun x2 => [(2, xi x2), (1, xi x1), (0, xr (some o))]) (fun _ => rfl) (by decide) dX4_follow_3 (fun x2 => ?_)
  refine or_iconst C (v := (0 : Int32)) dX4_follow_4 (by decide) ?_
  refine or_istore_n C (fun x3 => [(3, xi x3), (2, xi x2), (1, xi x1), (0, xr (some o))]) (fun _ => rfl) (by decide) dX4_follow_5 (fun x3 => ?_)
  refine or_aload_n C 3 rfl dX4_follow_6 ?_
  refine or_iconst C (v := (0 : Int32)) dX4_follow_7 (by decide) ?_
  refine or_putI C 4 12 rfl (by decide) rfl (by decide) u_X4_follow_4 tyX4 tyX4_ok nmX4 (by decide) k_X4_follow_f50 (Or.inl rfl) (by decide +kernel) rfl dX4_follow_8 (fun h4 => ?_)
  refine or_iconst C (v := (0 : Int32)) dX4_follow_11 (by decide) ?_
  refine or_istore C (fun x5 => [(4, xi x5), (3, xi x3), (2, xi x2), (1, xi x1), (0, xr (some o))]) (fun _ => rfl) (by decide) dX4_follow_12 (fun x5 => ?_)
  refine or_sub [4, 3, 2, 1, 0] rfl ?_
  exact w_X4_follow_14 C hl h0 h4 o x1 x2 x3 x5
theorem m_X4_follow (l : Launch) (h : oh_H) (o : Nat) (p : oh_H) (hf : f_X4_follow h o = some p) : oh_M l yX4_follow wsX4_follow rmX4_follow 0 0 [xr (some o)] h none p :=
  oh_met (cc := cX4_follow) (maxL := 6) (ret := none) (by decide) rfl (Nat.le_of_ble_eq_true rfl) (fun G C hl hN E => w_X4_follow_0 C hl h h o p hf E)
/-! X4_decide -/
theorem k_X4_decide_f47 : Cond.fieldLink RX4 47 "OilPress$Planner" "size" "I" ∈ wsX4_decide := List.mem_of_getElem? (i := 1) (by decide +kernel)
theorem u_X4_decide_4 : ∀ w ∈ u_ws RX4 TX4 15, w ∈ wsX4_decide := fun w h => List.mem_cons_of_mem _ (List.mem_append_right _ (h))
abbrev rmX4_decide : Room := { frames := 4, cells := 0, slots := 0, locals := 100 }
def f_X4_decide_57 (h : oh_H) (o : Nat) (v2 : Int32) (v3 : Int32) : Option ((oh_H × Int32) ⊕ ((oh_H × Int32) ⊕ (oh_H))) :=
  oh_lt (v3 + (1 : Int32)) fun x1 => some (Sum.inl (h, x1))
abbrev pv_X4_decide_35 (G : oh_G) (o : Nat) (v2 : Int32) : (oh_H × Int32) → Prop := fun s => oh_V G 0 0 s.1 35 [(0, xr (some o)), (2, xi v2), (3, xi s.2)] []
def b_X4_decide_35 (h : oh_H) (o : Nat) (v2 : Int32) (v3 : Int32) : Option ((oh_H × Int32) ⊕ ((oh_H × Int32) ⊕ (oh_H))) :=
  (oh_gI h (some o) 267).bind fun x1 => if x1 ≤ v3 then (Option.map Sum.inr (oh_lt (v2 + (-1 : Int32)) fun x2 => some (Sum.inl (h, x2)))) else ((f_X4_holds h v2 v3).bind fun p3 => if p3 = 0 then (f_X4_decide_57 h o v2 v3) else (oh_rc h (some o) 5 fun o6 => (f_X4_judge h o6 v2 v3).bind fun p7 => f_X4_decide_57 p7 o v2 v3))
def f_X4_decide_35 (h : oh_H) (o : Nat) (v2 : Int32) (v3 : Int32) : Option ((oh_H × Int32) ⊕ (oh_H)) := oh_loop (fun s : oh_H × Int32 => b_X4_decide_35 s.1 o v2 s.2) 1000000 (h, v3)
abbrev pv_X4_decide_29 (G : oh_G) (o : Nat) : (oh_H × Int32) → Prop := fun s => oh_V G 0 0 s.1 29 [(0, xr (some o)), (2, xi s.2)] []
def b_X4_decide_29 (h : oh_H) (o : Nat) (v2 : Int32) : Option ((oh_H × Int32) ⊕ (oh_H)) :=
  if v2 ≤ 0 then (Option.map Sum.inr (oh_rc h (some o) 5 fun o2 => (f_X4_follow h o2).bind fun p3 => some p3)) else (oh_lt (0 : Int32) fun x5 => f_X4_decide_35 h o v2 x5)
def f_X4_decide_29 (h : oh_H) (o : Nat) (v2 : Int32) : Option (oh_H) := oh_loop (fun s : oh_H × Int32 => b_X4_decide_29 s.1 o s.2) 1000000 (h, v2)
abbrev pv_X4_decide_11 (G : oh_G) (o : Nat) (v1 : Int32) : (oh_H × Int32) → Prop := fun s => oh_V G 0 0 s.1 11 [(0, xr (some o)), (1, xi v1), (2, xi s.2)] []
def b_X4_decide_11 (h : oh_H) (o : Nat) (v1 : Int32) (v2 : Int32) : Option ((oh_H × Int32) ⊕ (oh_H)) :=
  if v1 < v2 then (Option.map Sum.inr (oh_lt v1 fun x1 => f_X4_decide_29 h o x1)) else (oh_rc h (some o) 5 fun o3 => (f_X4_sumUp h o3 v2).bind fun p4 => oh_lt (v2 + (1 : Int32)) fun x6 => some (Sum.inl (p4, x6)))
def f_X4_decide_11 (h : oh_H) (o : Nat) (v1 : Int32) (v2 : Int32) : Option (oh_H) := oh_loop (fun s : oh_H × Int32 => b_X4_decide_11 s.1 o v1 s.2) 1000000 (h, v2)
def f_X4_decide (h : oh_H) (o : Nat) : Option (oh_H) :=
  (oh_gI h (some o) 267).bind fun x1 => oh_lt (((1 : Int32) <<< (x1 &&& 31)) - (1 : Int32)) fun x2 => oh_lt (1 : Int32) fun x3 => f_X4_decide_11 h o x2 x3
set_option maxHeartbeats 4000000 in
set_option maxRecDepth 100000 in
theorem w_X4_decide_57 {G : oh_G} {l : Launch} (C : oh_C G cX4_decide wsX4_decide RX4 rmX4_decide 4) (hl : G.1.2.1 = l) (h0 : oh_H) (h : oh_H) (o : Nat) (v2 : Int32) (v3 : Int32) : oh_J (oh_TL (pv_X4_decide_35 G o v2) (oh_TL (pv_X4_decide_29 G o) (oh_TV h0 0 0 none G))) (f_X4_decide_57 h o v2 v3) (oh_V G 0 0 h 57 [(0, xr (some o)), (2, xi v2), (3, xi v3)] []) := by
  unfold f_X4_decide_57
  refine or_iinc C (y := (1 : Int32)) 2 rfl (by decide) (fun x1 => [(3, xi x1), (0, xr (some o)), (2, xi v2)]) (fun _ => rfl) (by decide) dX4_decide_57 (fun x1 => ?_)
  refine or_goto C 35 dX4_decide_60 (by decide) ?_
  refine or_sub [1, 2, 0] rfl ?_
  exact oj_back (P := pv_X4_decide_35 G o v2) (s := (h, x1))
set_option maxHeartbeats 4000000 in
set_option maxRecDepth 100000 in
theorem wb_X4_decide_35 {G : oh_G} {l : Launch} (C : oh_C G cX4_decide wsX4_decide RX4 rmX4_decide 4) (hl : G.1.2.1 = l) (h0 : oh_H) (h : oh_H) (o : Nat) (v2 : Int32) (v3 : Int32) : oh_J (oh_TL (pv_X4_decide_35 G o v2) (oh_TL (pv_X4_decide_29 G o) (oh_TV h0 0 0 none G))) (b_X4_decide_35 h o v2 v3) (oh_V G 0 0 h 35 [(0, xr (some o)), (2, xi v2), (3, xi v3)] []) := by
  unfold b_X4_decide_35
  refine or_iload_n C 2 rfl dX4_decide_35 ?_
  refine or_aload_n C 0 rfl dX4_decide_36 ?_
  refine or_getI C 4 11 rfl (by decide) rfl (by decide) u_X4_decide_4 (by decide) k_X4_decide_f47 (by decide +kernel) dX4_decide_37 (fun x1 => ?_)
  refine or_icmp_ge C 63 dX4_decide_40 (by decide) ?_ ?_
  · refine oj_inr ?_
    refine or_iinc C (y := (-1 : Int32)) 1 rfl (by decide) (fun x2 => [(2, xi x2), (0, xr (some o)), (3, xi v3)]) (fun _ => rfl) (by decide) dX4_decide_63 (fun x2 => ?_)
    refine or_goto C 29 dX4_decide_66 (by decide) ?_
    refine or_sub [1, 0] rfl ?_
    exact oj_back (P := pv_X4_decide_29 G o) (s := (h, x2))
  · refine or_iload_n C 1 rfl dX4_decide_43 ?_
    refine or_iload_n C 2 rfl dX4_decide_44 ?_
    refine oj_bind (fun p3 z4 => ?_)
    refine oj_v (P := oh_V G 0 0 h 48 [(0, xr (some o)), (2, xi v2), (3, xi v3)] [xi p3]) (fun k => or_callS C 2 hl (m_X4_holds _ h v2 v3 p3 z4) gX4_decide_X4_holds rfl rfl rfl (by decide +kernel) ⟨Nat.le_of_ble_eq_true rfl, Nat.le_of_ble_eq_true rfl⟩ (Nat.le_of_ble_eq_true rfl) dX4_decide_45 ⟨Nat.le_of_ble_eq_true rfl, Nat.le_of_ble_eq_true rfl⟩ rfl rfl k) ?_
    refine or_if_eq C 57 dX4_decide_48 (by decide) ?_ ?_
    · refine or_sub [0, 1, 2] rfl ?_
      exact w_X4_decide_57 C hl h0 h o v2 v3
    · refine or_aload_n C 0 rfl dX4_decide_51 ?_
      refine or_iload_n C 1 rfl dX4_decide_52 ?_
      refine or_iload_n C 2 rfl dX4_decide_53 ?_
      refine oj_rcs (fun q5 => ?_)
      refine oj_bind (fun p7 z8 => ?_)
      refine oj_v (P := oh_V G 0 0 p7 57 [(0, xr (some o)), (2, xi v2), (3, xi v3)] []) (fun k => or_callV C 2 hl (m_X4_judge _ h o v2 v3 p7 z8) gX4_decide_X4_judge rfl rfl rfl (by decide +kernel) ⟨Nat.le_of_ble_eq_true rfl, Nat.le_of_ble_eq_true rfl⟩ q5 rfl (by decide) (Nat.le_of_ble_eq_true rfl) dX4_decide_54 ⟨Nat.le_of_ble_eq_true rfl, Nat.le_of_ble_eq_true rfl⟩ rfl rfl k) ?_
      refine or_sub [0, 1, 2] rfl ?_
      exact w_X4_decide_57 C hl h0 p7 o v2 v3
theorem w_X4_decide_35 {G : oh_G} {l : Launch} (C : oh_C G cX4_decide wsX4_decide RX4 rmX4_decide 4) (hl : G.1.2.1 = l) (h0 : oh_H) (h : oh_H) (o : Nat) (v2 : Int32) (v3 : Int32) : oh_J (oh_TL (pv_X4_decide_29 G o) (oh_TV h0 0 0 none G)) (f_X4_decide_35 h o v2 v3) (oh_V G 0 0 h 35 [(0, xr (some o)), (2, xi v2), (3, xi v3)] []) := by
  unfold f_X4_decide_35
  exact oj_loop (P := pv_X4_decide_35 G o v2) (fun s => wb_X4_decide_35 C hl h0 s.1 o v2 s.2) 1000000 (h, v3)
set_option maxHeartbeats 4000000 in
set_option maxRecDepth 100000 in
theorem wb_X4_decide_29 {G : oh_G} {l : Launch} (C : oh_C G cX4_decide wsX4_decide RX4 rmX4_decide 4) (hl : G.1.2.1 = l) (h0 : oh_H) (h : oh_H) (o : Nat) (v2 : Int32) : oh_J (oh_TL (pv_X4_decide_29 G o) (oh_TV h0 0 0 none G)) (b_X4_decide_29 h o v2) (oh_V G 0 0 h 29 [(0, xr (some o)), (2, xi v2)] []) := by
  unfold b_X4_decide_29
  refine or_iload_n C 1 rfl dX4_decide_29 ?_
  refine or_if_le C 69 dX4_decide_30 (by decide) ?_ ?_
  · refine oj_inr ?_
    refine or_aload_n C 0 rfl dX4_decide_69 ?_
    refine oj_rcs (fun q1 => ?_)
    refine oj_bind (fun p3 z4 => ?_)
    refine oj_v (P := oh_V G 0 0 p3 73 [(0, xr (some o)), (2, xi v2)] []) (fun k => or_callV C 0 hl (m_X4_follow _ h o p3 z4) gX4_decide_X4_follow rfl rfl rfl (by decide +kernel) ⟨Nat.le_of_ble_eq_true rfl, Nat.le_of_ble_eq_true rfl⟩ q1 rfl (by decide) (Nat.le_of_ble_eq_true rfl) dX4_decide_70 ⟨Nat.le_of_ble_eq_true rfl, Nat.le_of_ble_eq_true rfl⟩ rfl rfl k) ?_
    exact or_vret C ⟨Nat.le_of_ble_eq_true rfl, Nat.le_of_ble_eq_true rfl⟩ dX4_decide_73
  · refine or_iconst C (v := (0 : Int32)) dX4_decide_33 (by decide) ?_
    refine or_istore_n C (fun x5 => [(3, xi x5), (0, xr (some o)), (2, xi v2)]) (fun _ => rfl) (by decide) dX4_decide_34 (fun x5 => ?_)
    refine or_sub [1, 2, 0] rfl ?_
    exact w_X4_decide_35 C hl h0 h o v2 x5
theorem w_X4_decide_29 {G : oh_G} {l : Launch} (C : oh_C G cX4_decide wsX4_decide RX4 rmX4_decide 4) (hl : G.1.2.1 = l) (h0 : oh_H) (h : oh_H) (o : Nat) (v2 : Int32) : oh_J (oh_TV h0 0 0 none G) (f_X4_decide_29 h o v2) (oh_V G 0 0 h 29 [(0, xr (some o)), (2, xi v2)] []) := by
  unfold f_X4_decide_29
  exact oj_loop (P := pv_X4_decide_29 G o) (fun s => wb_X4_decide_29 C hl h0 s.1 o s.2) 1000000 (h, v2)
set_option maxHeartbeats 4000000 in
set_option maxRecDepth 100000 in
theorem wb_X4_decide_11 {G : oh_G} {l : Launch} (C : oh_C G cX4_decide wsX4_decide RX4 rmX4_decide 4) (hl : G.1.2.1 = l) (h0 : oh_H) (h : oh_H) (o : Nat) (v1 : Int32) (v2 : Int32) : oh_J (oh_TL (pv_X4_decide_11 G o v1) (oh_TV h0 0 0 none G)) (b_X4_decide_11 h o v1 v2) (oh_V G 0 0 h 11 [(0, xr (some o)), (1, xi v1), (2, xi v2)] []) := by
  unfold b_X4_decide_11
  refine or_iload_n C 2 rfl dX4_decide_11 ?_
  refine or_iload_n C 1 rfl dX4_decide_12 ?_
  refine or_icmp_gt C 27 dX4_decide_13 (by decide) ?_ ?_
  · refine oj_inr ?_
    refine or_iload_n C 1 rfl dX4_decide_27 ?_
    refine or_istore_n C (fun x1 => [(2, xi x1), (0, xr (some o)), (1, xi v1)]) (fun _ => rfl) (by decide) dX4_decide_28 (fun x1 => ?_)
    refine or_sub [1, 0] rfl ?_
    exact w_X4_decide_29 C hl h0 h o x1
  · refine or_aload_n C 0 rfl dX4_decide_16 ?_
    refine or_iload_n C 2 rfl dX4_decide_17 ?_
    refine oj_rcs (fun q2 => ?_)
    refine oj_bind (fun p4 z5 => ?_)
    refine oj_v (P := oh_V G 0 0 p4 21 [(0, xr (some o)), (1, xi v1), (2, xi v2)] []) (fun k => or_callV C 1 hl (m_X4_sumUp _ h o v2 p4 z5) gX4_decide_X4_sumUp rfl rfl rfl (by decide +kernel) ⟨Nat.le_of_ble_eq_true rfl, Nat.le_of_ble_eq_true rfl⟩ q2 rfl (by decide) (Nat.le_of_ble_eq_true rfl) dX4_decide_18 ⟨Nat.le_of_ble_eq_true rfl, Nat.le_of_ble_eq_true rfl⟩ rfl rfl k) ?_
    refine or_iinc C (y := (1 : Int32)) 2 rfl (by decide) (fun x6 => [(2, xi x6), (0, xr (some o)), (1, xi v1)]) (fun _ => rfl) (by decide) dX4_decide_21 (fun x6 => ?_)
    refine or_goto C 11 dX4_decide_24 (by decide) ?_
    refine or_sub [1, 2, 0] rfl ?_
    exact oj_back (P := pv_X4_decide_11 G o v1) (s := (p4, x6))
theorem w_X4_decide_11 {G : oh_G} {l : Launch} (C : oh_C G cX4_decide wsX4_decide RX4 rmX4_decide 4) (hl : G.1.2.1 = l) (h0 : oh_H) (h : oh_H) (o : Nat) (v1 : Int32) (v2 : Int32) : oh_J (oh_TV h0 0 0 none G) (f_X4_decide_11 h o v1 v2) (oh_V G 0 0 h 11 [(0, xr (some o)), (1, xi v1), (2, xi v2)] []) := by
  unfold f_X4_decide_11
  exact oj_loop (P := pv_X4_decide_11 G o v1) (fun s => wb_X4_decide_11 C hl h0 s.1 o v1 s.2) 1000000 (h, v2)
set_option maxHeartbeats 4000000 in
set_option maxRecDepth 100000 in
theorem w_X4_decide_0 {G : oh_G} {l : Launch} (C : oh_C G cX4_decide wsX4_decide RX4 rmX4_decide 4) (hl : G.1.2.1 = l) (h0 : oh_H) (h : oh_H) (o : Nat) : oh_J (oh_TV h0 0 0 none G) (f_X4_decide h o) (oh_V G 0 0 h 0 [(0, xr (some o))] []) := by
  unfold f_X4_decide
  refine or_iconst C (v := (1 : Int32)) dX4_decide_0 (by decide) ?_
  refine or_aload_n C 0 rfl dX4_decide_1 ?_
  refine or_getI C 4 11 rfl (by decide) rfl (by decide) u_X4_decide_4 (by decide) k_X4_decide_f47 (by decide +kernel) dX4_decide_2 (fun x1 => ?_)
  refine or_ishl C dX4_decide_5 ?_
  refine or_iconst C (v := (1 : Int32)) dX4_decide_6 (by decide) ?_
  refine or_isub C dX4_decide_7 ?_
  refine or_istore_n C (fun x2 => [(1, xi x2), (0, xr (some o))]) (fun _ => rfl) (by decide) dX4_decide_8 (fun x2 => ?_)
  refine or_iconst C (v := (1 : Int32)) dX4_decide_9 (by decide) ?_
  refine or_istore_n C (fun x3 => [(2, xi x3), (1, xi x2), (0, xr (some o))]) (fun _ => rfl) (by decide) dX4_decide_10 (fun x3 => ?_)
  refine or_sub [2, 1, 0] rfl ?_
  exact w_X4_decide_11 C hl h0 h o x2 x3
theorem m_X4_decide (l : Launch) (h : oh_H) (o : Nat) (p : oh_H) (hf : f_X4_decide h o = some p) : oh_M l yX4_decide wsX4_decide rmX4_decide 0 0 [xr (some o)] h none p :=
  oh_met (cc := cX4_decide) (maxL := 4) (ret := none) (by decide) rfl (Nat.le_of_ble_eq_true rfl) (fun G C hl hN E => w_X4_decide_0 C hl h h o p hf E)
/-! X5_init -/
theorem k_X5_init_ol1 : Cond.methodLink RX5 1 objectInit ∈ wsX5_init := List.mem_of_getElem? (i := 1) (by decide +kernel)
theorem k_X5_init_oi : Cond.instanceMethod objectInit ∈ wsX5_init := List.mem_of_getElem? (i := 2) (by decide +kernel)
theorem k_X5_init_oc : Cond.code objectInit ⟨#[0xb1]⟩ 1 none ∈ wsX5_init := List.mem_of_getElem? (i := 3) (by decide +kernel)
theorem k_X5_init_f7 : Cond.fieldLink RX5 7 "OilPress$Totals" "given" "I" ∈ wsX5_init := List.mem_of_getElem? (i := 4) (by decide +kernel)
theorem u_X5_init_5 : ∀ w ∈ u_ws RX5 TX5 5, w ∈ wsX5_init := fun w h => List.mem_cons_of_mem _ (List.mem_append_right _ (h))
theorem k_X5_init_f13 : Cond.fieldLink RX5 13 "OilPress$Totals" "fetched" "I" ∈ wsX5_init := List.mem_of_getElem? (i := 5) (by decide +kernel)
theorem k_X5_init_f16 : Cond.fieldLink RX5 16 "OilPress$Totals" "drawn" "I" ∈ wsX5_init := List.mem_of_getElem? (i := 6) (by decide +kernel)
theorem k_X5_init_f19 : Cond.fieldLink RX5 19 "OilPress$Totals" "lent" "I" ∈ wsX5_init := List.mem_of_getElem? (i := 7) (by decide +kernel)
theorem k_X5_init_f22 : Cond.fieldLink RX5 22 "OilPress$Totals" "becameLate" "I" ∈ wsX5_init := List.mem_of_getElem? (i := 8) (by decide +kernel)
abbrev rmX5_init : Room := { frames := 1, cells := 0, slots := 0, locals := 20 }
def f_X5_init (h : oh_H) (o : Nat) : Option (oh_H) :=
  (oh_pI h (some o) 320 (0 : Int32)).bind fun h1 => (oh_pI h1 (some o) 321 (0 : Int32)).bind fun h2 => (oh_pI h2 (some o) 322 (0 : Int32)).bind fun h3 => (oh_pI h3 (some o) 323 (0 : Int32)).bind fun h4 => (oh_pI h4 (some o) 324 (0 : Int32)).bind fun h5 => some h5
set_option maxHeartbeats 4000000 in
set_option maxRecDepth 100000 in
theorem w_X5_init_0 {G : oh_G} {l : Launch} (C : oh_C G cX5_init wsX5_init RX5 rmX5_init 1) (hl : G.1.2.1 = l) (hN : G.2.1.2.2.2.1.name = "<init>") (h0 : oh_H) (h : oh_H) (o : Nat) : oh_J (oh_TV h0 0 0 none G) (f_X5_init h o) (oh_V G 0 0 h 0 [(0, xr (some o))] []) := by
  unfold f_X5_init
  refine or_aload_n C 0 rfl dX5_init_0 ?_
  refine or_objinit C k_X5_init_ol1 k_X5_init_oi k_X5_init_oc (Nat.le_of_ble_eq_true rfl) (Nat.le_of_ble_eq_true rfl) dX5_init_1 ?_
  refine or_aload_n C 0 rfl dX5_init_4 ?_
  refine or_iconst C (v := (0 : Int32)) dX5_init_5 (by decide) ?_
  refine or_putI C 5 0 rfl (by decide) rfl (by decide) u_X5_init_5 tyX5 tyX5_ok nmX5 (by decide) k_X5_init_f7 (Or.inl rfl) (by decide +kernel) rfl dX5_init_6 (fun h1 => ?_)
  refine or_aload_n C 0 rfl dX5_init_9 ?_
  refine or_iconst C (v := (0 : Int32)) dX5_init_10 (by decide) ?_
  refine or_putI C 5 1 rfl (by decide) rfl (by decide) u_X5_init_5 tyX5 tyX5_ok nmX5 (by decide) k_X5_init_f13 (Or.inl rfl) (by decide +kernel) rfl dX5_init_11 (fun h2 => ?_)
  refine or_aload_n C 0 rfl dX5_init_14 ?_
  refine or_iconst C (v := (0 : Int32)) dX5_init_15 (by decide) ?_
  refine or_putI C 5 2 rfl (by decide) rfl (by decide) u_X5_init_5 tyX5 tyX5_ok nmX5 (by decide) k_X5_init_f16 (Or.inl rfl) (by decide +kernel) rfl dX5_init_16 (fun h3 => ?_)
  refine or_aload_n C 0 rfl dX5_init_19 ?_
  refine or_iconst C (v := (0 : Int32)) dX5_init_20 (by decide) ?_
  refine or_putI C 5 3 rfl (by decide) rfl (by decide) u_X5_init_5 tyX5 tyX5_ok nmX5 (by decide) k_X5_init_f19 (Or.inl rfl) (by decide +kernel) rfl dX5_init_21 (fun h4 => ?_)
  refine or_aload_n C 0 rfl dX5_init_24 ?_
  refine or_iconst C (v := (0 : Int32)) dX5_init_25 (by decide) ?_
  refine or_putI C 5 4 rfl (by decide) rfl (by decide) u_X5_init_5 tyX5 tyX5_ok nmX5 (by decide) k_X5_init_f22 (Or.inl rfl) (by decide +kernel) rfl dX5_init_26 (fun h5 => ?_)
  exact or_vret C ⟨Nat.le_of_ble_eq_true rfl, Nat.le_of_ble_eq_true rfl⟩ dX5_init_29
theorem m_X5_init (l : Launch) (h : oh_H) (o : Nat) (p : oh_H) (hf : f_X5_init h o = some p) : oh_M l yX5_init wsX5_init rmX5_init 0 0 [xr (some o)] h none p :=
  oh_met (cc := cX5_init) (maxL := 1) (ret := none) (by decide) rfl (Nat.le_of_ble_eq_true rfl) (fun G C hl hN E => w_X5_init_0 C hl hN h h o p hf E)
/-! X6_init -/
theorem k_X6_init_ol3 : Cond.methodLink RX6 3 objectInit ∈ wsX6_init := List.mem_of_getElem? (i := 1) (by decide +kernel)
theorem k_X6_init_oi : Cond.instanceMethod objectInit ∈ wsX6_init := List.mem_of_getElem? (i := 2) (by decide +kernel)
theorem k_X6_init_oc : Cond.code objectInit ⟨#[0xb1]⟩ 1 none ∈ wsX6_init := List.mem_of_getElem? (i := 3) (by decide +kernel)
theorem k_X6_init_f9 : Cond.fieldLink RX6 9 "OilPress$Vat" "tenths" "I" ∈ wsX6_init := List.mem_of_getElem? (i := 4) (by decide +kernel)
theorem u_X6_init_6 : ∀ w ∈ u_ws RX6 TX6 8, w ∈ wsX6_init := fun w h => List.mem_cons_of_mem _ (List.mem_append_right _ (h))
theorem k_X6_init_f15 : Cond.fieldLink RX6 15 "OilPress$Vat" "ofPress" "I" ∈ wsX6_init := List.mem_of_getElem? (i := 5) (by decide +kernel)
theorem k_X6_init_f18 : Cond.fieldLink RX6 18 "OilPress$Vat" "isTapped" "Z" ∈ wsX6_init := List.mem_of_getElem? (i := 6) (by decide +kernel)
theorem k_X6_init_f22 : Cond.fieldLink RX6 22 "OilPress$Vat" "sourSum" "J" ∈ wsX6_init := List.mem_of_getElem? (i := 7) (by decide +kernel)
theorem k_X6_init_f26 : Cond.fieldLink RX6 26 "OilPress$Vat" "sourTenths" "J" ∈ wsX6_init := List.mem_of_getElem? (i := 8) (by decide +kernel)
theorem k_X6_init_f29 : Cond.fieldLink RX6 29 "OilPress$Vat" "sort" "I" ∈ wsX6_init := List.mem_of_getElem? (i := 9) (by decide +kernel)
theorem k_X6_init_f32 : Cond.fieldLink RX6 32 "OilPress$Vat" "isClean" "Z" ∈ wsX6_init := List.mem_of_getElem? (i := 10) (by decide +kernel)
theorem k_X6_init_f35 : Cond.fieldLink RX6 35 "OilPress$Vat" "room" "I" ∈ wsX6_init := List.mem_of_getElem? (i := 11) (by decide +kernel)
abbrev rmX6_init : Room := { frames := 1, cells := 0, slots := 0, locals := 20 }
def f_X6_init (h : oh_H) (o : Nat) (v1 : Int32) (v2 : Int32) (v3 : Int32) : Option (oh_H) :=
  (oh_pI h (some o) 387 (0 : Int32)).bind fun h1 => (oh_pI h1 (some o) 388 (0 : Int32)).bind fun h2 => oh_bz (0 : Int32) ((oh_pI h2 (some o) 389 (0 : Int32)).bind fun h3 => (oh_pL h3 (some o) 390 (0 : Int64)).bind fun h4 => (oh_pL h4 (some o) 391 (0 : Int64)).bind fun h5 => (oh_pI h5 (some o) 384 v1).bind fun h6 => oh_bz v2 ((oh_pI h6 (some o) 385 v2).bind fun h7 => (oh_pI h7 (some o) 386 v3).bind fun h8 => some h8))
set_option maxHeartbeats 4000000 in
set_option maxRecDepth 100000 in
theorem w_X6_init_0 {G : oh_G} {l : Launch} (C : oh_C G cX6_init wsX6_init RX6 rmX6_init 4) (hl : G.1.2.1 = l) (hN : G.2.1.2.2.2.1.name = "<init>") (h0 : oh_H) (h : oh_H) (o : Nat) (v1 : Int32) (v2 : Int32) (v3 : Int32) : oh_J (oh_TV h0 0 0 none G) (f_X6_init h o v1 v2 v3) (oh_V G 0 0 h 0 [(0, xr (some o)), (1, xi v1), (2, xi v2), (3, xi v3)] []) := by
  unfold f_X6_init
  refine or_aload_n C 0 rfl dX6_init_0 ?_
  refine or_objinit C k_X6_init_ol3 k_X6_init_oi k_X6_init_oc (Nat.le_of_ble_eq_true rfl) (Nat.le_of_ble_eq_true rfl) dX6_init_1 ?_
  refine or_aload_n C 0 rfl dX6_init_4 ?_
  refine or_iconst C (v := (0 : Int32)) dX6_init_5 (by decide) ?_
  refine or_putI C 6 3 rfl (by decide) rfl (by decide) u_X6_init_6 tyX6 tyX6_ok nmX6 (by decide) k_X6_init_f9 (Or.inl rfl) (by decide +kernel) rfl dX6_init_6 (fun h1 => ?_)
  refine or_aload_n C 0 rfl dX6_init_9 ?_
  refine or_iconst C (v := (0 : Int32)) dX6_init_10 (by decide) ?_
  refine or_putI C 6 4 rfl (by decide) rfl (by decide) u_X6_init_6 tyX6 tyX6_ok nmX6 (by decide) k_X6_init_f15 (Or.inl rfl) (by decide +kernel) rfl dX6_init_11 (fun h2 => ?_)
  refine or_aload_n C 0 rfl dX6_init_14 ?_
  refine or_iconst C (v := (0 : Int32)) dX6_init_15 (by decide) ?_
  refine or_putZ C 6 5 rfl (by decide) rfl (by decide) u_X6_init_6 tyX6 tyX6_ok nmX6 (by decide) k_X6_init_f18 (Or.inl rfl) (by decide +kernel) rfl dX6_init_16 (fun h3 => ?_)
  refine or_aload_n C 0 rfl dX6_init_19 ?_
  refine or_lconst C (v := (0 : Int64)) dX6_init_20 rfl ?_
  refine or_putL C 6 6 rfl (by decide) rfl (by decide) u_X6_init_6 tyX6 tyX6_ok nmX6 (by decide) k_X6_init_f22 (Or.inl rfl) (by decide +kernel) rfl dX6_init_21 (fun h4 => ?_)
  refine or_aload_n C 0 rfl dX6_init_24 ?_
  refine or_lconst C (v := (0 : Int64)) dX6_init_25 rfl ?_
  refine or_putL C 6 7 rfl (by decide) rfl (by decide) u_X6_init_6 tyX6 tyX6_ok nmX6 (by decide) k_X6_init_f26 (Or.inl rfl) (by decide +kernel) rfl dX6_init_26 (fun h5 => ?_)
  refine or_aload_n C 0 rfl dX6_init_29 ?_
  refine or_iload_n C 1 rfl dX6_init_30 ?_
  refine or_putI C 6 0 rfl (by decide) rfl (by decide) u_X6_init_6 tyX6 tyX6_ok nmX6 (by decide) k_X6_init_f29 (Or.inr ⟨rfl, hN, rfl⟩) (by decide +kernel) rfl dX6_init_31 (fun h6 => ?_)
  refine or_aload_n C 0 rfl dX6_init_34 ?_
  refine or_iload_n C 2 rfl dX6_init_35 ?_
  refine or_putZ C 6 1 rfl (by decide) rfl (by decide) u_X6_init_6 tyX6 tyX6_ok nmX6 (by decide) k_X6_init_f32 (Or.inr ⟨rfl, hN, rfl⟩) (by decide +kernel) rfl dX6_init_36 (fun h7 => ?_)
  refine or_aload_n C 0 rfl dX6_init_39 ?_
  refine or_iload_n C 3 rfl dX6_init_40 ?_
  refine or_putI C 6 2 rfl (by decide) rfl (by decide) u_X6_init_6 tyX6 tyX6_ok nmX6 (by decide) k_X6_init_f35 (Or.inr ⟨rfl, hN, rfl⟩) (by decide +kernel) rfl dX6_init_41 (fun h8 => ?_)
  exact or_vret C ⟨Nat.le_of_ble_eq_true rfl, Nat.le_of_ble_eq_true rfl⟩ dX6_init_44
theorem m_X6_init (l : Launch) (h : oh_H) (o : Nat) (v1 : Int32) (v2 : Int32) (v3 : Int32) (p : oh_H) (hf : f_X6_init h o v1 v2 v3 = some p) : oh_M l yX6_init wsX6_init rmX6_init 0 0 [xr (some o), xi v1, xi v2, xi v3] h none p :=
  oh_met (cc := cX6_init) (maxL := 4) (ret := none) (by decide) rfl (Nat.le_of_ble_eq_true rfl) (fun G C hl hN E => w_X6_init_0 C hl hN h h o v1 v2 v3 p hf E)
/-! X6_admits -/
theorem k_X6_admits_f22 : Cond.fieldLink RX6 22 "OilPress$Vat" "sourSum" "J" ∈ wsX6_admits := List.mem_of_getElem? (i := 7) (by decide +kernel)
theorem u_X6_admits_6 : ∀ w ∈ u_ws RX6 TX6 8, w ∈ wsX6_admits := fun w h => List.mem_cons_of_mem _ (List.mem_append_left _ (List.mem_append_left _ (List.mem_append_right _ (h))))
theorem k_X6_admits_f43 : Cond.fieldLink RX6 43 "OilPress$Mill" "given" "I" ∈ wsX6_admits := List.mem_of_getElem? (i := 3) (by decide +kernel)
theorem u_X6_admits_3 : ∀ w ∈ u_ws RX3 TX3 14, w ∈ wsX6_admits := fun w h => List.mem_cons_of_mem _ (List.mem_append_left _ (List.mem_append_right _ (h)))
theorem k_X6_admits_f49 : Cond.fieldLink RX6 49 "OilPress$Mill" "sourness" "I" ∈ wsX6_admits := List.mem_of_getElem? (i := 8) (by decide +kernel)
theorem k_X6_admits_f26 : Cond.fieldLink RX6 26 "OilPress$Vat" "sourTenths" "J" ∈ wsX6_admits := List.mem_of_getElem? (i := 9) (by decide +kernel)
theorem k_X6_admits_f29 : Cond.fieldLink RX6 29 "OilPress$Vat" "sort" "I" ∈ wsX6_admits := List.mem_of_getElem? (i := 6) (by decide +kernel)
theorem k_X6_admits_c54 : Cond.constantLong RX6 54 (200) ∈ wsX6_admits := List.mem_of_getElem? (i := 11) (by decide +kernel)
theorem k_X6_admits_c52 : Cond.constantLong RX6 52 (80) ∈ wsX6_admits := List.mem_of_getElem? (i := 10) (by decide +kernel)
theorem k_X6_admits_f18 : Cond.fieldLink RX6 18 "OilPress$Vat" "isTapped" "Z" ∈ wsX6_admits := List.mem_of_getElem? (i := 1) (by decide +kernel)
theorem k_X6_admits_f32 : Cond.fieldLink RX6 32 "OilPress$Vat" "isClean" "Z" ∈ wsX6_admits := List.mem_of_getElem? (i := 2) (by decide +kernel)
theorem k_X6_admits_f35 : Cond.fieldLink RX6 35 "OilPress$Vat" "room" "I" ∈ wsX6_admits := List.mem_of_getElem? (i := 4) (by decide +kernel)
theorem k_X6_admits_f9 : Cond.fieldLink RX6 9 "OilPress$Vat" "tenths" "I" ∈ wsX6_admits := List.mem_of_getElem? (i := 5) (by decide +kernel)
abbrev rmX6_admits : Room := { frames := 1, cells := 0, slots := 0, locals := 20 }
def f_X6_admits_34 (h : oh_H) (o : Nat) : Option (Int32) :=
  oh_bz (0 : Int32) (some (0 : Int32))
def f_X6_admits_129 (h : oh_H) (o : Nat) (s0 : Int32) : Option (Int32) :=
  oh_bz s0 (some s0)
def f_X6_admits_124 (h : oh_H) (o : Nat) : Option (Int32) :=
  f_X6_admits_129 h o (1 : Int32)
def f_X6_admits_104 (h : oh_H) (o : Nat) (s0 : Int32) : Option (Int32) :=
  oh_bz s0 (some s0)
def f_X6_admits_52 (h : oh_H) (o : Nat) (v1 : Option Nat) : Option (Int32) :=
  (oh_gL h (some o) 390).bind fun x1 => (oh_gI h v1 204).bind fun x2 => (oh_gI h v1 203).bind fun x3 => oh_lt (x1 + ((Int32.toInt64 x2) * (Int32.toInt64 x3))) fun x4 => (oh_gL h (some o) 391).bind fun x5 => (oh_gI h v1 204).bind fun x6 => oh_lt (x5 + (Int32.toInt64 x6)) fun x7 => (oh_gI h (some o) 384).bind fun x8 => if x8 = 0 then (if 0 < (lg_cmp x4 (x7 * (80 : Int64))) then (f_X6_admits_104 h o (0 : Int32)) else (f_X6_admits_104 h o (1 : Int32))) else ((oh_gI h (some o) 384).bind fun x9 => if x9 = (1 : Int32) then (if 0 < (lg_cmp x4 (x7 * (200 : Int64))) then (f_X6_admits_129 h o (0 : Int32)) else (f_X6_admits_124 h o)) else (f_X6_admits_124 h o))
def f_X6_admits (h : oh_H) (o : Nat) (v1 : Option Nat) : Option (Int32) :=
  (oh_gI h (some o) 389).bind fun x1 => if x1 = 0 then ((oh_gI h (some o) 385).bind fun x2 => oh_rc h v1 4 fun o3 => (f_X3_isClean h o3).bind fun p6 => if x2 = p6 then ((oh_gI h v1 204).bind fun x8 => (oh_gI h (some o) 386).bind fun x9 => (oh_gI h (some o) 387).bind fun x10 => if x8 ≤ (x9 - x10) then ((oh_gI h (some o) 384).bind fun x11 => if x11 = 0 then (oh_rc h v1 4 fun o12 => (f_X3_hasLate h o12).bind fun p15 => if p15 = 0 then (f_X6_admits_52 h o v1) else (oh_bz (0 : Int32) (some (0 : Int32)))) else (f_X6_admits_52 h o v1)) else (f_X6_admits_34 h o)) else (f_X6_admits_34 h o)) else (f_X6_admits_34 h o)
set_option maxHeartbeats 4000000 in
set_option maxRecDepth 100000 in
theorem w_X6_admits_34 {G : oh_G} {l : Launch} (C : oh_C G cX6_admits wsX6_admits RX6 rmX6_admits 6) (hl : G.1.2.1 = l) (h : oh_H) (o : Nat) : oh_J (oh_TR h xi (some .boolean) G) (f_X6_admits_34 h o) (oh_V G 0 0 h 34 [] []) := by
  unfold f_X6_admits_34
  refine or_iconst C (v := (0 : Int32)) dX6_admits_34 (by decide) ?_
  exact or_zretR C dX6_admits_35
set_option maxHeartbeats 4000000 in
set_option maxRecDepth 100000 in
theorem w_X6_admits_129 {G : oh_G} {l : Launch} (C : oh_C G cX6_admits wsX6_admits RX6 rmX6_admits 6) (hl : G.1.2.1 = l) (h : oh_H) (o : Nat) (s0 : Int32) : oh_J (oh_TR h xi (some .boolean) G) (f_X6_admits_129 h o s0) (oh_V G 0 0 h 129 [] [xi s0]) := by
  unfold f_X6_admits_129
  exact or_zretR C dX6_admits_129
set_option maxHeartbeats 4000000 in
set_option maxRecDepth 100000 in
theorem w_X6_admits_124 {G : oh_G} {l : Launch} (C : oh_C G cX6_admits wsX6_admits RX6 rmX6_admits 6) (hl : G.1.2.1 = l) (h : oh_H) (o : Nat) : oh_J (oh_TR h xi (some .boolean) G) (f_X6_admits_124 h o) (oh_V G 0 0 h 124 [] []) := by
  unfold f_X6_admits_124
  refine or_iconst C (v := (1 : Int32)) dX6_admits_124 (by decide) ?_
  refine or_goto C 129 dX6_admits_125 (by decide) ?_
  refine or_sub [] rfl ?_
  exact w_X6_admits_129 C hl h o (1 : Int32)
set_option maxHeartbeats 4000000 in
set_option maxRecDepth 100000 in
theorem w_X6_admits_104 {G : oh_G} {l : Launch} (C : oh_C G cX6_admits wsX6_admits RX6 rmX6_admits 6) (hl : G.1.2.1 = l) (h : oh_H) (o : Nat) (s0 : Int32) : oh_J (oh_TR h xi (some .boolean) G) (f_X6_admits_104 h o s0) (oh_V G 0 0 h 104 [] [xi s0]) := by
  unfold f_X6_admits_104
  exact or_zretR C dX6_admits_104
set_option maxHeartbeats 4000000 in
set_option maxRecDepth 100000 in
theorem w_X6_admits_52 {G : oh_G} {l : Launch} (C : oh_C G cX6_admits wsX6_admits RX6 rmX6_admits 6) (hl : G.1.2.1 = l) (h : oh_H) (o : Nat) (v1 : Option Nat) : oh_J (oh_TR h xi (some .boolean) G) (f_X6_admits_52 h o v1) (oh_V G 0 0 h 52 [(0, xr (some o)), (1, xr v1)] []) := by
  unfold f_X6_admits_52
  refine or_aload_n C 0 rfl dX6_admits_52 ?_
  refine or_getL C 6 6 rfl (by decide) rfl (by decide) u_X6_admits_6 (by decide) k_X6_admits_f22 (by decide +kernel) dX6_admits_53 (fun x1 => ?_)
  refine or_aload_n C 1 rfl dX6_admits_56 ?_
  refine or_getI C 3 12 rfl (by decide) rfl (by decide) u_X6_admits_3 (by decide) k_X6_admits_f43 (by decide +kernel) dX6_admits_57 (fun x2 => ?_)
  refine or_i2l C dX6_admits_60 ?_
  refine or_aload_n C 1 rfl dX6_admits_61 ?_
  refine or_getI C 3 11 rfl (by decide) rfl (by decide) u_X6_admits_3 (by decide) k_X6_admits_f49 (by decide +kernel) dX6_admits_62 (fun x3 => ?_)
  refine or_i2l C dX6_admits_65 ?_
  refine or_lmul C dX6_admits_66 ?_
  refine or_ladd C dX6_admits_67 ?_
  refine or_lstore_n C (fun x4 => [(2, xl x4), (0, xr (some o)), (1, xr v1)]) (fun _ => rfl) (by decide) dX6_admits_68 (fun x4 => ?_)
  refine or_aload_n C 1 rfl dX6_admits_69 ?_
  refine or_getL C 6 7 rfl (by decide) rfl (by decide) u_X6_admits_6 (by decide) k_X6_admits_f26 (by decide +kernel) dX6_admits_70 (fun x5 => ?_)
  refine or_aload_n C 2 rfl dX6_admits_73 ?_
  refine or_getI C 3 12 rfl (by decide) rfl (by decide) u_X6_admits_3 (by decide) k_X6_admits_f43 (by decide +kernel) dX6_admits_74 (fun x6 => ?_)
  refine or_i2l C dX6_admits_77 ?_
  refine or_ladd C dX6_admits_78 ?_
  refine or_lstore C (fun x7 => [(4, xl x7), (2, xl x4), (0, xr (some o)), (1, xr v1)]) (fun _ => rfl) (by decide) dX6_admits_79 (fun x7 => ?_)
  refine or_aload_n C 2 rfl dX6_admits_81 ?_
  refine or_getI C 6 0 rfl (by decide) rfl (by decide) u_X6_admits_6 (by decide) k_X6_admits_f29 (by decide +kernel) dX6_admits_82 (fun x8 => ?_)
  refine or_if_ne C 105 dX6_admits_85 (by decide) ?_ ?_
  · refine or_lload_n C 1 rfl dX6_admits_88 ?_
    refine or_lload C 0 rfl dX6_admits_89 ?_
    refine or_ldc2 C (v := (80 : Int64)) k_X6_admits_c52 dX6_admits_91 ?_
    refine or_lmul C dX6_admits_94 ?_
    refine or_lcmp C dX6_admits_95 ?_
    refine or_if_gt C 103 dX6_admits_96 (by decide) ?_ ?_
    · refine or_iconst C (v := (0 : Int32)) dX6_admits_103 (by decide) ?_
      refine or_sub [] rfl ?_
      exact w_X6_admits_104 C hl h o (0 : Int32)
    · refine or_iconst C (v := (1 : Int32)) dX6_admits_99 (by decide) ?_
      refine or_goto C 104 dX6_admits_100 (by decide) ?_
      refine or_sub [] rfl ?_
      exact w_X6_admits_104 C hl h o (1 : Int32)
  · refine or_aload_n C 2 rfl dX6_admits_105 ?_
    refine or_getI C 6 0 rfl (by decide) rfl (by decide) u_X6_admits_6 (by decide) k_X6_admits_f29 (by decide +kernel) dX6_admits_106 (fun x9 => ?_)
    refine or_iconst C (v := (1 : Int32)) dX6_admits_109 (by decide) ?_
    refine or_icmp_ne C 124 dX6_admits_110 (by decide) ?_ ?_
    · refine or_lload_n C 1 rfl dX6_admits_113 ?_
      refine or_lload C 0 rfl dX6_admits_114 ?_
      refine or_ldc2 C (v := (200 : Int64)) k_X6_admits_c54 dX6_admits_116 ?_
      refine or_lmul C dX6_admits_119 ?_
      refine or_lcmp C dX6_admits_120 ?_
      refine or_if_gt C 128 dX6_admits_121 (by decide) ?_ ?_
      · refine or_iconst C (v := (0 : Int32)) dX6_admits_128 (by decide) ?_
        refine or_sub [] rfl ?_
        exact w_X6_admits_129 C hl h o (0 : Int32)
      · refine or_sub [] rfl ?_
        exact w_X6_admits_124 C hl h o
    · refine or_sub [] rfl ?_
      exact w_X6_admits_124 C hl h o
set_option maxHeartbeats 4000000 in
set_option maxRecDepth 100000 in
theorem w_X6_admits_0 {G : oh_G} {l : Launch} (C : oh_C G cX6_admits wsX6_admits RX6 rmX6_admits 6) (hl : G.1.2.1 = l) (h : oh_H) (o : Nat) (v1 : Option Nat) : oh_J (oh_TR h xi (some .boolean) G) (f_X6_admits h o v1) (oh_V G 0 0 h 0 [(0, xr (some o)), (1, xr v1)] []) := by
  unfold f_X6_admits
  refine or_aload_n C 0 rfl dX6_admits_0 ?_
  refine or_getI C 6 5 rfl (by decide) rfl (by decide) u_X6_admits_6 (by decide) k_X6_admits_f18 (by decide +kernel) dX6_admits_1 (fun x1 => ?_)
  refine or_if_ne C 34 dX6_admits_4 (by decide) ?_ ?_
  · refine or_aload_n C 0 rfl dX6_admits_7 ?_
    refine or_getI C 6 1 rfl (by decide) rfl (by decide) u_X6_admits_6 (by decide) k_X6_admits_f32 (by decide +kernel) dX6_admits_8 (fun x2 => ?_)
    refine or_aload_n C 1 rfl dX6_admits_11 ?_
    refine oj_rc (fun o3 e5 q4 => ?_)
    refine oj_bind (fun p6 z7 => ?_)
    refine oj_v (P := oh_V G 0 0 h 15 [(0, xr (some o)), (1, xr v1)] [xi p6, xi x2]) (fun k => or_callV C 0 hl (m_X3_isClean _ h o3 p6 z7) gX6_admits_X3_isClean rfl rfl rfl (by decide +kernel) ⟨Nat.le_of_ble_eq_true rfl, Nat.le_of_ble_eq_true rfl⟩ q4 rfl (by decide) (Nat.le_of_ble_eq_true rfl) dX6_admits_12 ⟨Nat.le_of_ble_eq_true rfl, Nat.le_of_ble_eq_true rfl⟩ rfl (by rw [e5]; rfl) k) ?_
    refine or_icmp_ne C 34 dX6_admits_15 (by decide) ?_ ?_
    · refine or_aload_n C 1 rfl dX6_admits_18 ?_
      refine or_getI C 3 12 rfl (by decide) rfl (by decide) u_X6_admits_3 (by decide) k_X6_admits_f43 (by decide +kernel) dX6_admits_19 (fun x8 => ?_)
      refine or_aload_n C 0 rfl dX6_admits_22 ?_
      refine or_getI C 6 2 rfl (by decide) rfl (by decide) u_X6_admits_6 (by decide) k_X6_admits_f35 (by decide +kernel) dX6_admits_23 (fun x9 => ?_)
      refine or_aload_n C 0 rfl dX6_admits_26 ?_
      refine or_getI C 6 3 rfl (by decide) rfl (by decide) u_X6_admits_6 (by decide) k_X6_admits_f9 (by decide +kernel) dX6_admits_27 (fun x10 => ?_)
      refine or_isub C dX6_admits_30 ?_
      refine or_icmp_le C 36 dX6_admits_31 (by decide) ?_ ?_
      · refine or_aload_n C 0 rfl dX6_admits_36 ?_
        refine or_getI C 6 0 rfl (by decide) rfl (by decide) u_X6_admits_6 (by decide) k_X6_admits_f29 (by decide +kernel) dX6_admits_37 (fun x11 => ?_)
        refine or_if_ne C 52 dX6_admits_40 (by decide) ?_ ?_
        · refine or_aload_n C 1 rfl dX6_admits_43 ?_
          refine oj_rc (fun o12 e14 q13 => ?_)
          refine oj_bind (fun p15 z16 => ?_)
          refine oj_v (P := oh_V G 0 0 h 47 [(0, xr (some o)), (1, xr v1)] [xi p15]) (fun k => or_callV C 0 hl (m_X3_hasLate _ h o12 p15 z16) gX6_admits_X3_hasLate rfl rfl rfl (by decide +kernel) ⟨Nat.le_of_ble_eq_true rfl, Nat.le_of_ble_eq_true rfl⟩ q13 rfl (by decide) (Nat.le_of_ble_eq_true rfl) dX6_admits_44 ⟨Nat.le_of_ble_eq_true rfl, Nat.le_of_ble_eq_true rfl⟩ rfl (by rw [e14]; rfl) k) ?_
          refine or_if_eq C 52 dX6_admits_47 (by decide) ?_ ?_
          · refine or_sub [0, 1] rfl ?_
            exact w_X6_admits_52 C hl h o v1
          · refine or_iconst C (v := (0 : Int32)) dX6_admits_50 (by decide) ?_
            exact or_zretR C dX6_admits_51
        · refine or_sub [0, 1] rfl ?_
          exact w_X6_admits_52 C hl h o v1
      · refine or_sub [] rfl ?_
        exact w_X6_admits_34 C hl h o
    · refine or_sub [] rfl ?_
      exact w_X6_admits_34 C hl h o
  · refine or_sub [] rfl ?_
    exact w_X6_admits_34 C hl h o
theorem m_X6_admits (l : Launch) (h : oh_H) (o : Nat) (v1 : Option Nat) (p : Int32) (hf : f_X6_admits h o v1 = some p) : oh_M l yX6_admits wsX6_admits rmX6_admits 0 0 [xr (some o), xr v1] h (some (xi p)) h :=
  oh_met (cc := cX6_admits) (maxL := 6) (ret := (some .boolean)) (by decide) rfl (Nat.le_of_ble_eq_true rfl) (fun G C hl hN E => w_X6_admits_0 C hl h o v1 p hf E)
