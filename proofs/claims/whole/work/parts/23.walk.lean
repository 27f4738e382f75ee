/-! X8_hand -/
theorem k_X8_hand_c194 : Cond.constant RX8 194 (50000) ∈ wsX8_hand := List.mem_of_getElem? (i := 1) (by decide +kernel)
abbrev rmX8_hand : Room := { frames := 1, cells := 0, slots := 0, locals := 33 }
def f_X8_hand_29 (h : oh_H) (o : Nat) : Option (Int32 × oh_H) :=
  some ((-1 : Int32), h)
def f_X8_hand (h : oh_H) (o : Nat) (v1 : Int32) (v2 : Int32) (v3 : Int32) : Option (Int32 × oh_H) :=
  (f_X8_in h v1 (0 : Int32) (39 : Int32)).bind fun p1 => if p1 = 0 then (f_X8_hand_29 h o) else ((f_X8_in h v2 (0 : Int32) (2 : Int32)).bind fun p3 => if p3 = 0 then (f_X8_hand_29 h o) else ((f_X8_in h v3 (0 : Int32) (50000 : Int32)).bind fun p5 => if p5 = 0 then (f_X8_hand_29 h o) else (oh_rc h (some o) 9 fun o8 => (f_X8_pays h o8 v1 v2 v3).bind fun p9 => some (p9.1, p9.2))))
set_option maxHeartbeats 4000000 in
set_option maxRecDepth 100000 in
theorem w_X8_hand_29 {G : oh_G} {l : Launch} (C : oh_C G cX8_hand wsX8_hand RX8 rmX8_hand 4) (hl : G.1.2.1 = l) (h0 : oh_H) (h : oh_H) (o : Nat) : oh_J (oh_TW h0 xi 0 0 (some .int) G) (f_X8_hand_29 h o) (oh_V G 0 0 h 29 [] []) := by
  unfold f_X8_hand_29
  refine or_iconst C (v := (-1 : Int32)) dX8_hand_29 (by decide) ?_
  exact or_iret C ⟨Nat.le_of_ble_eq_true rfl, Nat.le_of_ble_eq_true rfl⟩ dX8_hand_30
set_option maxHeartbeats 4000000 in
set_option maxRecDepth 100000 in
theorem w_X8_hand_0 {G : oh_G} {l : Launch} (C : oh_C G cX8_hand wsX8_hand RX8 rmX8_hand 4) (hl : G.1.2.1 = l) (h0 : oh_H) (h : oh_H) (o : Nat) (v1 : Int32) (v2 : Int32) (v3 : Int32) : oh_J (oh_TW h0 xi 0 0 (some .int) G) (f_X8_hand h o v1 v2 v3) (oh_V G 0 0 h 0 [(0, xr (some o)), (1, xi v1), (2, xi v2), (3, xi v3)] []) := by
  unfold f_X8_hand
  refine or_iload_n C 1 rfl dX8_hand_0 ?_
  refine or_iconst C (v := (0 : Int32)) dX8_hand_1 (by decide) ?_
  refine or_bipush C (v := (39 : Int32)) dX8_hand_2 (by decide) ?_
  refine oj_bind (fun p1 z2 => ?_)
  refine oj_v (P := oh_V G 0 0 h 7 [(0, xr (some o)), (1, xi v1), (2, xi v2), (3, xi v3)] [xi p1]) (fun k => or_callS C 3 hl (m_X8_in _ h v1 (0 : Int32) (39 : Int32) p1 z2) gX8_hand_X8_in rfl rfl rfl (by decide +kernel) ⟨Nat.le_of_ble_eq_true rfl, Nat.le_of_ble_eq_true rfl⟩ (Nat.le_of_ble_eq_true rfl) dX8_hand_4 ⟨Nat.le_of_ble_eq_true rfl, Nat.le_of_ble_eq_true rfl⟩ rfl rfl k) ?_
  refine or_if_eq C 29 dX8_hand_7 (by decide) ?_ ?_
  · refine or_sub [] rfl ?_
    exact w_X8_hand_29 C hl h0 h o
  · refine or_iload_n C 2 rfl dX8_hand_10 ?_
    refine or_iconst C (v := (0 : Int32)) dX8_hand_11 (by decide) ?_
    refine or_iconst C (v := (2 : Int32)) dX8_hand_12 (by decide) ?_
    refine oj_bind (fun p3 z4 => ?_)
    refine oj_v (P := oh_V G 0 0 h 16 [(0, xr (some o)), (1, xi v1), (2, xi v2), (3, xi v3)] [xi p3]) (fun k => or_callS C 3 hl (m_X8_in _ h v2 (0 : Int32) (2 : Int32) p3 z4) gX8_hand_X8_in rfl rfl rfl (by decide +kernel) ⟨Nat.le_of_ble_eq_true rfl, Nat.le_of_ble_eq_true rfl⟩ (Nat.le_of_ble_eq_true rfl) dX8_hand_13 ⟨Nat.le_of_ble_eq_true rfl, Nat.le_of_ble_eq_true rfl⟩ rfl rfl k) ?_
    refine or_if_eq C 29 dX8_hand_16 (by decide) ?_ ?_
    · refine or_sub [] rfl ?_
      exact w_X8_hand_29 C hl h0 h o
    · refine or_iload_n C 3 rfl dX8_hand_19 ?_
      refine or_iconst C (v := (0 : Int32)) dX8_hand_20 (by decide) ?_
      refine or_ldc C (v := (50000 : Int32)) k_X8_hand_c194 dX8_hand_21 ?_
      refine oj_bind (fun p5 z6 => ?_)
      refine oj_v (P := oh_V G 0 0 h 26 [(0, xr (some o)), (1, xi v1), (2, xi v2), (3, xi v3)] [xi p5]) (fun k => or_callS C 3 hl (m_X8_in _ h v3 (0 : Int32) (50000 : Int32) p5 z6) gX8_hand_X8_in rfl rfl rfl (by decide +kernel) ⟨Nat.le_of_ble_eq_true rfl, Nat.le_of_ble_eq_true rfl⟩ (Nat.le_of_ble_eq_true rfl) dX8_hand_23 ⟨Nat.le_of_ble_eq_true rfl, Nat.le_of_ble_eq_true rfl⟩ rfl rfl k) ?_
      refine or_if_ne C 31 dX8_hand_26 (by decide) ?_ ?_
      · refine or_sub [] rfl ?_
        exact w_X8_hand_29 C hl h0 h o
      · refine or_aload_n C 0 rfl dX8_hand_31 ?_
        refine or_iload_n C 1 rfl dX8_hand_32 ?_
        refine or_iload_n C 2 rfl dX8_hand_33 ?_
        refine or_iload_n C 3 rfl dX8_hand_34 ?_
        refine oj_rcs (fun q7 => ?_)
        refine oj_bind (fun p9 z10 => ?_)
        refine oj_v (P := oh_V G 0 0 p9.2 38 [(0, xr (some o)), (1, xi v1), (2, xi v2), (3, xi v3)] [xi p9.1]) (fun k => or_callV C 3 hl (m_X8_pays _ h o v1 v2 v3 p9 z10) gX8_hand_X8_pays rfl rfl rfl (by decide +kernel) ⟨Nat.le_of_ble_eq_true rfl, Nat.le_of_ble_eq_true rfl⟩ q7 rfl (by decide) (Nat.le_of_ble_eq_true rfl) dX8_hand_35 ⟨Nat.le_of_ble_eq_true rfl, Nat.le_of_ble_eq_true rfl⟩ rfl rfl k) ?_
        exact or_iret C ⟨Nat.le_of_ble_eq_true rfl, Nat.le_of_ble_eq_true rfl⟩ dX8_hand_38
theorem m_X8_hand (l : Launch) (h : oh_H) (o : Nat) (v1 : Int32) (v2 : Int32) (v3 : Int32) (p : Int32 × oh_H) (hf : f_X8_hand h o v1 v2 v3 = some p) : oh_M l yX8_hand wsX8_hand rmX8_hand 0 0 [xr (some o), xi v1, xi v2, xi v3] h (some (xi p.1)) p.2 :=
  oh_met (cc := cX8_hand) (maxL := 4) (ret := (some .int)) (by decide) rfl (Nat.le_of_ble_eq_true rfl) (fun G C hl hN E => w_X8_hand_0 C hl h h o v1 v2 v3 p hf E)
/-! X8_owes -/
theorem k_X8_owes_f115 : Cond.fieldLink RX8 115 "OilPressModel" "owed" "[I" ∈ wsX8_owes := List.mem_of_getElem? (i := 1) (by decide +kernel)
theorem u_X8_owes_8 : ∀ w ∈ u_ws RX8 TX8 54, w ∈ wsX8_owes := fun w h => List.mem_cons_of_mem _ (List.mem_append_right _ (h))
abbrev rmX8_owes : Room := { frames := 1, cells := 0, slots := 0, locals := 22 }
def f_X8_owes_33 (h : oh_H) (o : Nat) (s0 : Int32) : Option (Int32) :=
  some s0
def f_X8_owes_32 (h : oh_H) (o : Nat) : Option (Int32) :=
  f_X8_owes_33 h o (-1 : Int32)
def f_X8_owes (h : oh_H) (o : Nat) (v1 : Int32) (v2 : Int32) : Option (Int32) :=
  (f_X8_in h v1 (0 : Int32) (39 : Int32)).bind fun p1 => if p1 = 0 then (f_X8_owes_32 h o) else ((f_X8_in h v2 (0 : Int32) (2 : Int32)).bind fun p3 => if p3 = 0 then (f_X8_owes_32 h o) else ((oh_gR h (some o) 550).bind fun x5 => (oh_aI h x5 20 (((3 : Int32) * v1) + v2)).bind fun x6 => f_X8_owes_33 h o x6))
set_option maxHeartbeats 4000000 in
set_option maxRecDepth 100000 in
theorem w_X8_owes_33 {G : oh_G} {l : Launch} (C : oh_C G cX8_owes wsX8_owes RX8 rmX8_owes 3) (hl : G.1.2.1 = l) (h : oh_H) (o : Nat) (s0 : Int32) : oh_J (oh_TR h xi (some .int) G) (f_X8_owes_33 h o s0) (oh_V G 0 0 h 33 [] [xi s0]) := by
  unfold f_X8_owes_33
  exact or_iretR C dX8_owes_33
set_option maxHeartbeats 4000000 in
set_option maxRecDepth 100000 in
theorem w_X8_owes_32 {G : oh_G} {l : Launch} (C : oh_C G cX8_owes wsX8_owes RX8 rmX8_owes 3) (hl : G.1.2.1 = l) (h : oh_H) (o : Nat) : oh_J (oh_TR h xi (some .int) G) (f_X8_owes_32 h o) (oh_V G 0 0 h 32 [] []) := by
  unfold f_X8_owes_32
  refine or_iconst C (v := (-1 : Int32)) dX8_owes_32 (by decide) ?_
  refine or_sub [] rfl ?_
  exact w_X8_owes_33 C hl h o (-1 : Int32)
set_option maxHeartbeats 4000000 in
set_option maxRecDepth 100000 in
theorem w_X8_owes_0 {G : oh_G} {l : Launch} (C : oh_C G cX8_owes wsX8_owes RX8 rmX8_owes 3) (hl : G.1.2.1 = l) (h : oh_H) (o : Nat) (v1 : Int32) (v2 : Int32) : oh_J (oh_TR h xi (some .int) G) (f_X8_owes h o v1 v2) (oh_V G 0 0 h 0 [(0, xr (some o)), (1, xi v1), (2, xi v2)] []) := by
  unfold f_X8_owes
  refine or_iload_n C 1 rfl dX8_owes_0 ?_
  refine or_iconst C (v := (0 : Int32)) dX8_owes_1 (by decide) ?_
  refine or_bipush C (v := (39 : Int32)) dX8_owes_2 (by decide) ?_
  refine oj_bind (fun p1 z2 => ?_)
  refine oj_v (P := oh_V G 0 0 h 7 [(0, xr (some o)), (1, xi v1), (2, xi v2)] [xi p1]) (fun k => or_callS C 3 hl (m_X8_in _ h v1 (0 : Int32) (39 : Int32) p1 z2) gX8_owes_X8_in rfl rfl rfl (by decide +kernel) ⟨Nat.le_of_ble_eq_true rfl, Nat.le_of_ble_eq_true rfl⟩ (Nat.le_of_ble_eq_true rfl) dX8_owes_4 ⟨Nat.le_of_ble_eq_true rfl, Nat.le_of_ble_eq_true rfl⟩ rfl rfl k) ?_
  refine or_if_eq C 32 dX8_owes_7 (by decide) ?_ ?_
  · refine or_sub [] rfl ?_
    exact w_X8_owes_32 C hl h o
  · refine or_iload_n C 2 rfl dX8_owes_10 ?_
    refine or_iconst C (v := (0 : Int32)) dX8_owes_11 (by decide) ?_
    refine or_iconst C (v := (2 : Int32)) dX8_owes_12 (by decide) ?_
    refine oj_bind (fun p3 z4 => ?_)
    refine oj_v (P := oh_V G 0 0 h 16 [(0, xr (some o)), (1, xi v1), (2, xi v2)] [xi p3]) (fun k => or_callS C 3 hl (m_X8_in _ h v2 (0 : Int32) (2 : Int32) p3 z4) gX8_owes_X8_in rfl rfl rfl (by decide +kernel) ⟨Nat.le_of_ble_eq_true rfl, Nat.le_of_ble_eq_true rfl⟩ (Nat.le_of_ble_eq_true rfl) dX8_owes_13 ⟨Nat.le_of_ble_eq_true rfl, Nat.le_of_ble_eq_true rfl⟩ rfl rfl k) ?_
    refine or_if_eq C 32 dX8_owes_16 (by decide) ?_ ?_
    · refine or_sub [] rfl ?_
      exact w_X8_owes_32 C hl h o
    · refine or_aload_n C 0 rfl dX8_owes_19 ?_
      refine or_getR C 8 38 rfl (by decide) rfl (by decide) u_X8_owes_8 (by decide) k_X8_owes_f115 (by decide +kernel) dX8_owes_20 (fun x5 => ?_)
      refine or_iconst C (v := (3 : Int32)) dX8_owes_23 (by decide) ?_
      refine or_iload_n C 1 rfl dX8_owes_24 ?_
      refine or_imul C dX8_owes_25 ?_
      refine or_iload_n C 2 rfl dX8_owes_26 ?_
      refine or_iadd C dX8_owes_27 ?_
      refine or_iald C dX8_owes_28 (fun x6 => ?_)
      refine or_goto C 33 dX8_owes_29 (by decide) ?_
      refine or_sub [] rfl ?_
      exact w_X8_owes_33 C hl h o x6
theorem m_X8_owes (l : Launch) (h : oh_H) (o : Nat) (v1 : Int32) (v2 : Int32) (p : Int32) (hf : f_X8_owes h o v1 v2 = some p) : oh_M l yX8_owes wsX8_owes rmX8_owes 0 0 [xr (some o), xi v1, xi v2] h (some (xi p)) h :=
  oh_met (cc := cX8_owes) (maxL := 3) (ret := (some .int)) (by decide) rfl (Nat.le_of_ble_eq_true rfl) (fun G C hl hN E => w_X8_owes_0 C hl h o v1 v2 p hf E)
/-! X8_dawns -/
theorem k_X8_dawns_f130 : Cond.fieldLink RX8 130 "OilPressModel" "lots" "I" ∈ wsX8_dawns := List.mem_of_getElem? (i := 2) (by decide +kernel)
theorem u_X8_dawns_8 : ∀ w ∈ u_ws RX8 TX8 54, w ∈ wsX8_dawns := fun w h => List.mem_cons_of_mem _ (List.mem_append_right _ (h))
theorem k_X8_dawns_f35 : Cond.fieldLink RX8 35 "OilPressModel" "state" "[I" ∈ wsX8_dawns := List.mem_of_getElem? (i := 3) (by decide +kernel)
theorem k_X8_dawns_f26 : Cond.fieldLink RX8 26 "OilPressModel" "kind" "[I" ∈ wsX8_dawns := List.mem_of_getElem? (i := 4) (by decide +kernel)
theorem k_X8_dawns_f32 : Cond.fieldLink RX8 32 "OilPressModel" "came" "[I" ∈ wsX8_dawns := List.mem_of_getElem? (i := 5) (by decide +kernel)
theorem k_X8_dawns_f7 : Cond.fieldLink RX8 7 "OilPressModel" "fresh" "I" ∈ wsX8_dawns := List.mem_of_getElem? (i := 6) (by decide +kernel)
theorem k_X8_dawns_f226 : Cond.fieldLink RX8 226 "OilPressModel" "lateAll" "I" ∈ wsX8_dawns := List.mem_of_getElem? (i := 7) (by decide +kernel)
theorem k_X8_dawns_f16 : Cond.fieldLink RX8 16 "OilPressModel" "places" "I" ∈ wsX8_dawns := List.mem_of_getElem? (i := 1) (by decide +kernel)
abbrev rmX8_dawns : Room := { frames := 1, cells := 0, slots := 0, locals := 20 }
def f_X8_dawns_73 (h : oh_H) (o : Nat) (v1 : Int32) : Option ((oh_H × Int32) ⊕ (oh_H)) :=
  oh_lt (v1 + (1 : Int32)) fun x1 => some (Sum.inl (h, x1))
abbrev pv_X8_dawns_7 (G : oh_G) (o : Nat) : (oh_H × Int32) → Prop := fun s => oh_V G 0 0 s.1 7 [(0, xr (some o)), (1, xi s.2)] []
def b_X8_dawns_7 (h : oh_H) (o : Nat) (v1 : Int32) : Option ((oh_H × Int32) ⊕ (oh_H)) :=
  (oh_gI h (some o) 519).bind fun x1 => if x1 ≤ v1 then (Option.map Sum.inr (some h)) else ((oh_gR h (some o) 523).bind fun x2 => (oh_aI h x2 20 v1).bind fun x3 => if (2 : Int32) < x3 then (f_X8_dawns_73 h o v1) else ((oh_gR h (some o) 520).bind fun x4 => (oh_aI h x4 20 v1).bind fun x5 => if (2 : Int32) < x5 then (f_X8_dawns_73 h o v1) else (oh_rc h (some o) 9 fun o7 => (f_X8_today h o7).bind fun p8 => (oh_gR h (some o) 522).bind fun x10 => (oh_aI h x10 20 v1).bind fun x11 => (oh_gI h (some o) 513).bind fun x12 => if x12 < (p8 - x11) then ((oh_gR h (some o) 520).bind fun x13 => (oh_tI h x13 20 v1 (3 : Int32)).bind fun h14 => (oh_gI h14 (some o) 555).bind fun x15 => (oh_pI h14 (some o) 555 (x15 + (1 : Int32))).bind fun h16 => f_X8_dawns_73 h16 o v1) else (f_X8_dawns_73 h o v1))))
def f_X8_dawns_7 (h : oh_H) (o : Nat) (v1 : Int32) : Option (oh_H) := oh_loop (fun s : oh_H × Int32 => b_X8_dawns_7 s.1 o s.2) 1000000 (h, v1)
def f_X8_dawns (h : oh_H) (o : Nat) : Option (oh_H) :=
  (oh_pI h (some o) 515 (-1 : Int32)).bind fun h1 => oh_lt (0 : Int32) fun x2 => f_X8_dawns_7 h1 o x2
set_option maxHeartbeats 4000000 in
set_option maxRecDepth 100000 in
theorem w_X8_dawns_73 {G : oh_G} {l : Launch} (C : oh_C G cX8_dawns wsX8_dawns RX8 rmX8_dawns 2) (hl : G.1.2.1 = l) (h0 : oh_H) (h : oh_H) (o : Nat) (v1 : Int32) : oh_J (oh_TL (pv_X8_dawns_7 G o) (oh_TV h0 0 0 none G)) (f_X8_dawns_73 h o v1) (oh_V G 0 0 h 73 [(0, xr (some o)), (1, xi v1)] []) := by
  unfold f_X8_dawns_73
  refine or_iinc C (y := (1 : Int32)) 1 rfl (by decide) (fun x1 => [(1, xi x1), (0, xr (some o))]) (fun _ => rfl) (by decide) dX8_dawns_73 (fun x1 => ?_)
  refine or_goto C 7 dX8_dawns_76 (by decide) ?_
  refine or_sub [1, 0] rfl ?_
  exact oj_back (P := pv_X8_dawns_7 G o) (s := (h, x1))
set_option maxHeartbeats 4000000 in
set_option maxRecDepth 100000 in
theorem wb_X8_dawns_7 {G : oh_G} {l : Launch} (C : oh_C G cX8_dawns wsX8_dawns RX8 rmX8_dawns 2) (hl : G.1.2.1 = l) (h0 : oh_H) (h : oh_H) (o : Nat) (v1 : Int32) : oh_J (oh_TL (pv_X8_dawns_7 G o) (oh_TV h0 0 0 none G)) (b_X8_dawns_7 h o v1) (oh_V G 0 0 h 7 [(0, xr (some o)), (1, xi v1)] []) := by
  unfold b_X8_dawns_7
  refine or_iload_n C 1 rfl dX8_dawns_7 ?_
  refine or_aload_n C 0 rfl dX8_dawns_8 ?_
  refine or_getI C 8 7 rfl (by decide) rfl (by decide) u_X8_dawns_8 (by decide) k_X8_dawns_f130 (by decide +kernel) dX8_dawns_9 (fun x1 => ?_)
  refine or_icmp_ge C 79 dX8_dawns_12 (by decide) ?_ ?_
  · refine oj_inr ?_
    exact or_vret C ⟨Nat.le_of_ble_eq_true rfl, Nat.le_of_ble_eq_true rfl⟩ dX8_dawns_79
  · refine or_aload_n C 0 rfl dX8_dawns_15 ?_
    refine or_getR C 8 11 rfl (by decide) rfl (by decide) u_X8_dawns_8 (by decide) k_X8_dawns_f35 (by decide +kernel) dX8_dawns_16 (fun x2 => ?_)
    refine or_iload_n C 1 rfl dX8_dawns_19 ?_
    refine or_iald C dX8_dawns_20 (fun x3 => ?_)
    refine or_iconst C (v := (2 : Int32)) dX8_dawns_21 (by decide) ?_
    refine or_icmp_gt C 73 dX8_dawns_22 (by decide) ?_ ?_
    · refine or_sub [0, 1] rfl ?_
      exact w_X8_dawns_73 C hl h0 h o v1
    · refine or_aload_n C 0 rfl dX8_dawns_25 ?_
      refine or_getR C 8 8 rfl (by decide) rfl (by decide) u_X8_dawns_8 (by decide) k_X8_dawns_f26 (by decide +kernel) dX8_dawns_26 (fun x4 => ?_)
      refine or_iload_n C 1 rfl dX8_dawns_29 ?_
      refine or_iald C dX8_dawns_30 (fun x5 => ?_)
      refine or_iconst C (v := (2 : Int32)) dX8_dawns_31 (by decide) ?_
      refine or_icmp_gt C 73 dX8_dawns_32 (by decide) ?_ ?_
      · refine or_sub [0, 1] rfl ?_
        exact w_X8_dawns_73 C hl h0 h o v1
      · refine or_aload_n C 0 rfl dX8_dawns_35 ?_
        refine oj_rcs (fun q6 => ?_)
        refine oj_bind (fun p8 z9 => ?_)
        refine oj_v (P := oh_V G 0 0 h 39 [(0, xr (some o)), (1, xi v1)] [xi p8]) (fun k => or_callV C 0 hl (m_X8_today _ h o p8 z9) gX8_dawns_X8_today rfl rfl rfl (by decide +kernel) ⟨Nat.le_of_ble_eq_true rfl, Nat.le_of_ble_eq_true rfl⟩ q6 rfl (by decide) (Nat.le_of_ble_eq_true rfl) dX8_dawns_36 ⟨Nat.le_of_ble_eq_true rfl, Nat.le_of_ble_eq_true rfl⟩ rfl rfl k) ?_
        refine or_aload_n C 0 rfl dX8_dawns_39 ?_
        refine or_getR C 8 10 rfl (by decide) rfl (by decide) u_X8_dawns_8 (by decide) k_X8_dawns_f32 (by decide +kernel) dX8_dawns_40 (fun x10 => ?_)
        refine or_iload_n C 1 rfl dX8_dawns_43 ?_
        refine or_iald C dX8_dawns_44 (fun x11 => ?_)
        refine or_isub C dX8_dawns_45 ?_
        refine or_aload_n C 0 rfl dX8_dawns_46 ?_
        refine or_getI C 8 1 rfl (by decide) rfl (by decide) u_X8_dawns_8 (by decide) k_X8_dawns_f7 (by decide +kernel) dX8_dawns_47 (fun x12 => ?_)
        refine or_icmp_gt C 56 dX8_dawns_50 (by decide) ?_ ?_
        · refine or_aload_n C 0 rfl dX8_dawns_56 ?_
          refine or_getR C 8 8 rfl (by decide) rfl (by decide) u_X8_dawns_8 (by decide) k_X8_dawns_f26 (by decide +kernel) dX8_dawns_57 (fun x13 => ?_)
          refine or_iload_n C 1 rfl dX8_dawns_60 ?_
          refine or_iconst C (v := (3 : Int32)) dX8_dawns_61 (by decide) ?_
          refine or_iast C dX8_dawns_62 (fun h14 => ?_)
          refine or_aload_n C 0 rfl dX8_dawns_63 ?_
          refine or_dup C rfl dX8_dawns_64 ?_
          refine or_getI C 8 43 rfl (by decide) rfl (by decide) u_X8_dawns_8 (by decide) k_X8_dawns_f226 (by decide +kernel) dX8_dawns_65 (fun x15 => ?_)
          refine or_iconst C (v := (1 : Int32)) dX8_dawns_68 (by decide) ?_
          refine or_iadd C dX8_dawns_69 ?_
          refine or_putI C 8 43 rfl (by decide) rfl (by decide) u_X8_dawns_8 tyX8 tyX8_ok nmX8 (by decide) k_X8_dawns_f226 (Or.inl rfl) (by decide +kernel) rfl dX8_dawns_70 (fun h16 => ?_)
          refine or_sub [0, 1] rfl ?_
          exact w_X8_dawns_73 C hl h0 h16 o v1
        · refine or_goto C 73 dX8_dawns_53 (by decide) ?_
          refine or_sub [0, 1] rfl ?_
          exact w_X8_dawns_73 C hl h0 h o v1
theorem w_X8_dawns_7 {G : oh_G} {l : Launch} (C : oh_C G cX8_dawns wsX8_dawns RX8 rmX8_dawns 2) (hl : G.1.2.1 = l) (h0 : oh_H) (h : oh_H) (o : Nat) (v1 : Int32) : oh_J (oh_TV h0 0 0 none G) (f_X8_dawns_7 h o v1) (oh_V G 0 0 h 7 [(0, xr (some o)), (1, xi v1)] []) := by
  unfold f_X8_dawns_7
  exact oj_loop (P := pv_X8_dawns_7 G o) (fun s => wb_X8_dawns_7 C hl h0 s.1 o s.2) 1000000 (h, v1)
set_option maxHeartbeats 4000000 in
set_option maxRecDepth 100000 in
theorem w_X8_dawns_0 {G : oh_G} {l : Launch} (C : oh_C G cX8_dawns wsX8_dawns RX8 rmX8_dawns 2) (hl : G.1.2.1 = l) (h0 : oh_H) (h : oh_H) (o : Nat) : oh_J (oh_TV h0 0 0 none G) (f_X8_dawns h o) (oh_V G 0 0 h 0 [(0, xr (some o))] []) := by
  unfold f_X8_dawns
  refine or_aload_n C 0 rfl dX8_dawns_0 ?_
  refine or_iconst C (v := (-1 : Int32)) dX8_dawns_1 (by decide) ?_
  refine or_putI C 8 3 rfl (by decide) rfl (by decide) u_X8_dawns_8 tyX8 tyX8_ok nmX8 (by decide) k_X8_dawns_f16 (Or.inl rfl) (by decide +kernel) rfl dX8_dawns_2 (fun h1 => ?_)
  refine or_iconst C (v := (0 : Int32)) dX8_dawns_5 (by decide) ?_
  refine or_istore_n C (fun x2 => [(1, xi x2), (0, xr (some o))]) (fun _ => rfl) (by decide) dX8_dawns_6 (fun x2 => ?_)
  refine or_sub [1, 0] rfl ?_
  exact w_X8_dawns_7 C hl h0 h1 o x2
theorem m_X8_dawns (l : Launch) (h : oh_H) (o : Nat) (p : oh_H) (hf : f_X8_dawns h o = some p) : oh_M l yX8_dawns wsX8_dawns rmX8_dawns 0 0 [xr (some o)] h none p :=
  oh_met (cc := cX8_dawns) (maxL := 2) (ret := none) (by decide) rfl (Nat.le_of_ble_eq_true rfl) (fun G C hl hN E => w_X8_dawns_0 C hl h h o p hf E)
/-! X8_wait -/
theorem k_X8_wait_f127 : Cond.fieldLink RX8 127 "OilPressModel" "now" "I" ∈ wsX8_wait := List.mem_of_getElem? (i := 1) (by decide +kernel)
theorem u_X8_wait_8 : ∀ w ∈ u_ws RX8 TX8 54, w ∈ wsX8_wait := fun w h => List.mem_cons_of_mem _ (List.mem_append_right _ (h))
abbrev rmX8_wait : Room := { frames := 2, cells := 0, slots := 0, locals := 41 }
def f_X8_wait_59 (h : oh_H) (o : Nat) : Option (Int32 × oh_H) :=
  (oh_gI h (some o) 512).bind fun x1 => some (x1, h)
def f_X8_wait_53 (h : oh_H) (o : Nat) (v1 : Int32) (v2 : Int32) : Option ((oh_H × Int32) ⊕ (Int32 × oh_H)) :=
  oh_lt (v2 + (1 : Int32)) fun x1 => some (Sum.inl (h, x1))
abbrev pv_X8_wait_14 (G : oh_G) (o : Nat) (v1 : Int32) : (oh_H × Int32) → Prop := fun s => oh_V G 0 0 s.1 14 [(0, xr (some o)), (1, xi v1), (2, xi s.2)] []
def b_X8_wait_14 (h : oh_H) (o : Nat) (v1 : Int32) (v2 : Int32) : Option ((oh_H × Int32) ⊕ (Int32 × oh_H)) :=
  if v1 ≤ v2 then (Option.map Sum.inr (f_X8_wait_59 h o)) else ((oh_gI h (some o) 512).bind fun x1 => if (999 : Int32) ≤ x1 then (Option.map Sum.inr (f_X8_wait_59 h o)) else ((oh_gI h (some o) 512).bind fun x2 => (oh_pI h (some o) 512 (x2 + (1 : Int32))).bind fun h3 => (oh_gI h3 (some o) 512).bind fun x4 => if (10 : Int32) = 0 then none else if (x4 - x4 / (10 : Int32) * (10 : Int32)) = 0 then (oh_rc h3 (some o) 9 fun o6 => (f_X8_dawns h3 o6).bind fun p7 => f_X8_wait_53 p7 o v1 v2) else (f_X8_wait_53 h3 o v1 v2)))
def f_X8_wait_14 (h : oh_H) (o : Nat) (v1 : Int32) (v2 : Int32) : Option (Int32 × oh_H) := oh_loop (fun s : oh_H × Int32 => b_X8_wait_14 s.1 o v1 s.2) 1000000 (h, v2)
def f_X8_wait (h : oh_H) (o : Nat) (v1 : Int32) : Option (Int32 × oh_H) :=
  (f_X8_in h v1 (0 : Int32) (100 : Int32)).bind fun p1 => if p1 = 0 then (some ((-1 : Int32), h)) else (oh_lt (0 : Int32) fun x3 => f_X8_wait_14 h o v1 x3)
set_option maxHeartbeats 4000000 in
set_option maxRecDepth 100000 in
theorem w_X8_wait_59 {G : oh_G} {l : Launch} (C : oh_C G cX8_wait wsX8_wait RX8 rmX8_wait 3) (hl : G.1.2.1 = l) (h0 : oh_H) (h : oh_H) (o : Nat) : oh_J (oh_TW h0 xi 0 0 (some .int) G) (f_X8_wait_59 h o) (oh_V G 0 0 h 59 [(0, xr (some o))] []) := by
  unfold f_X8_wait_59
  refine or_aload_n C 0 rfl dX8_wait_59 ?_
  refine or_getI C 8 0 rfl (by decide) rfl (by decide) u_X8_wait_8 (by decide) k_X8_wait_f127 (by decide +kernel) dX8_wait_60 (fun x1 => ?_)
  exact or_iret C ⟨Nat.le_of_ble_eq_true rfl, Nat.le_of_ble_eq_true rfl⟩ dX8_wait_63
set_option maxHeartbeats 4000000 in
set_option maxRecDepth 100000 in
theorem w_X8_wait_53 {G : oh_G} {l : Launch} (C : oh_C G cX8_wait wsX8_wait RX8 rmX8_wait 3) (hl : G.1.2.1 = l) (h0 : oh_H) (h : oh_H) (o : Nat) (v1 : Int32) (v2 : Int32) : oh_J (oh_TL (pv_X8_wait_14 G o v1) (oh_TW h0 xi 0 0 (some .int) G)) (f_X8_wait_53 h o v1 v2) (oh_V G 0 0 h 53 [(0, xr (some o)), (1, xi v1), (2, xi v2)] []) := by
  unfold f_X8_wait_53
  refine or_iinc C (y := (1 : Int32)) 2 rfl (by decide) (fun x1 => [(2, xi x1), (0, xr (some o)), (1, xi v1)]) (fun _ => rfl) (by decide) dX8_wait_53 (fun x1 => ?_)
  refine or_goto C 14 dX8_wait_56 (by decide) ?_
  refine or_sub [1, 2, 0] rfl ?_
  exact oj_back (P := pv_X8_wait_14 G o v1) (s := (h, x1))
set_option maxHeartbeats 4000000 in
set_option maxRecDepth 100000 in
theorem wb_X8_wait_14 {G : oh_G} {l : Launch} (C : oh_C G cX8_wait wsX8_wait RX8 rmX8_wait 3) (hl : G.1.2.1 = l) (h0 : oh_H) (h : oh_H) (o : Nat) (v1 : Int32) (v2 : Int32) : oh_J (oh_TL (pv_X8_wait_14 G o v1) (oh_TW h0 xi 0 0 (some .int) G)) (b_X8_wait_14 h o v1 v2) (oh_V G 0 0 h 14 [(0, xr (some o)), (1, xi v1), (2, xi v2)] []) := by
  unfold b_X8_wait_14
  refine or_iload_n C 2 rfl dX8_wait_14 ?_
  refine or_iload_n C 1 rfl dX8_wait_15 ?_
  refine or_icmp_ge C 59 dX8_wait_16 (by decide) ?_ ?_
  · refine oj_inr ?_
    refine or_sub [0] rfl ?_
    exact w_X8_wait_59 C hl h0 h o
  · refine or_aload_n C 0 rfl dX8_wait_19 ?_
    refine or_getI C 8 0 rfl (by decide) rfl (by decide) u_X8_wait_8 (by decide) k_X8_wait_f127 (by decide +kernel) dX8_wait_20 (fun x1 => ?_)
    refine or_sipush C (v := (999 : Int32)) dX8_wait_23 (by decide) ?_
    refine or_icmp_ge C 59 dX8_wait_26 (by decide) ?_ ?_
    · refine oj_inr ?_
      refine or_sub [0] rfl ?_
      exact w_X8_wait_59 C hl h0 h o
    · refine or_aload_n C 0 rfl dX8_wait_29 ?_
      refine or_dup C rfl dX8_wait_30 ?_
      refine or_getI C 8 0 rfl (by decide) rfl (by decide) u_X8_wait_8 (by decide) k_X8_wait_f127 (by decide +kernel) dX8_wait_31 (fun x2 => ?_)
      refine or_iconst C (v := (1 : Int32)) dX8_wait_34 (by decide) ?_
      refine or_iadd C dX8_wait_35 ?_
      refine or_putI C 8 0 rfl (by decide) rfl (by decide) u_X8_wait_8 tyX8 tyX8_ok nmX8 (by decide) k_X8_wait_f127 (Or.inl rfl) (by decide +kernel) rfl dX8_wait_36 (fun h3 => ?_)
      refine or_aload_n C 0 rfl dX8_wait_39 ?_
      refine or_getI C 8 0 rfl (by decide) rfl (by decide) u_X8_wait_8 (by decide) k_X8_wait_f127 (by decide +kernel) dX8_wait_40 (fun x4 => ?_)
      refine or_bipush C (v := (10 : Int32)) dX8_wait_43 (by decide) ?_
      refine or_irem C dX8_wait_45 ?_
      refine or_if_ne C 53 dX8_wait_46 (by decide) ?_ ?_
      · refine or_aload_n C 0 rfl dX8_wait_49 ?_
        refine oj_rcs (fun q5 => ?_)
        refine oj_bind (fun p7 z8 => ?_)
        refine oj_v (P := oh_V G 0 0 p7 53 [(0, xr (some o)), (1, xi v1), (2, xi v2)] []) (fun k => or_callV C 0 hl (m_X8_dawns _ h3 o p7 z8) gX8_wait_X8_dawns rfl rfl rfl (by decide +kernel) ⟨Nat.le_of_ble_eq_true rfl, Nat.le_of_ble_eq_true rfl⟩ q5 rfl (by decide) (Nat.le_of_ble_eq_true rfl) dX8_wait_50 ⟨Nat.le_of_ble_eq_true rfl, Nat.le_of_ble_eq_true rfl⟩ rfl rfl k) ?_
        refine or_sub [0, 1, 2] rfl ?_
        exact w_X8_wait_53 C hl h0 p7 o v1 v2
      · refine or_sub [0, 1, 2] rfl ?_
        exact w_X8_wait_53 C hl h0 h3 o v1 v2
theorem w_X8_wait_14 {G : oh_G} {l : Launch} (C : oh_C G cX8_wait wsX8_wait RX8 rmX8_wait 3) (hl : G.1.2.1 = l) (h0 : oh_H) (h : oh_H) (o : Nat) (v1 : Int32) (v2 : Int32) : oh_J (oh_TW h0 xi 0 0 (some .int) G) (f_X8_wait_14 h o v1 v2) (oh_V G 0 0 h 14 [(0, xr (some o)), (1, xi v1), (2, xi v2)] []) := by
  unfold f_X8_wait_14
  exact oj_loop (P := pv_X8_wait_14 G o v1) (fun s => wb_X8_wait_14 C hl h0 s.1 o v1 s.2) 1000000 (h, v2)
set_option maxHeartbeats 4000000 in
set_option maxRecDepth 100000 in
theorem w_X8_wait_0 {G : oh_G} {l : Launch} (C : oh_C G cX8_wait wsX8_wait RX8 rmX8_wait 3) (hl : G.1.2.1 = l) (h0 : oh_H) (h : oh_H) (o : Nat) (v1 : Int32) : oh_J (oh_TW h0 xi 0 0 (some .int) G) (f_X8_wait h o v1) (oh_V G 0 0 h 0 [(0, xr (some o)), (1, xi v1)] []) := by
  unfold f_X8_wait
  refine or_iload_n C 1 rfl dX8_wait_0 ?_
  refine or_iconst C (v := (0 : Int32)) dX8_wait_1 (by decide) ?_
  refine or_bipush C (v := (100 : Int32)) dX8_wait_2 (by decide) ?_
  refine oj_bind (fun p1 z2 => ?_)
  refine oj_v (P := oh_V G 0 0 h 7 [(0, xr (some o)), (1, xi v1)] [xi p1]) (fun k => or_callS C 3 hl (m_X8_in _ h v1 (0 : Int32) (100 : Int32) p1 z2) gX8_wait_X8_in rfl rfl rfl (by decide +kernel) ⟨Nat.le_of_ble_eq_true rfl, Nat.le_of_ble_eq_true rfl⟩ (Nat.le_of_ble_eq_true rfl) dX8_wait_4 ⟨Nat.le_of_ble_eq_true rfl, Nat.le_of_ble_eq_true rfl⟩ rfl rfl k) ?_
  refine or_if_ne C 12 dX8_wait_7 (by decide) ?_ ?_
  · refine or_iconst C (v := (-1 : Int32)) dX8_wait_10 (by decide) ?_
    exact or_iret C ⟨Nat.le_of_ble_eq_true rfl, Nat.le_of_ble_eq_true rfl⟩ dX8_wait_11
  · refine or_iconst C (v := (0 : Int32)) dX8_wait_12 (by decide) ?_
    refine or_istore_n C (fun x3 => [(2, xi x3), (0, xr (some o)), (1, xi v1)]) (fun _ => rfl) (by decide) dX8_wait_13 (fun x3 => ?_)
    refine or_sub [1, 2, 0] rfl ?_
    exact w_X8_wait_14 C hl h0 h o v1 x3
theorem m_X8_wait (l : Launch) (h : oh_H) (o : Nat) (v1 : Int32) (p : Int32 × oh_H) (hf : f_X8_wait h o v1 = some p) : oh_M l yX8_wait wsX8_wait rmX8_wait 0 0 [xr (some o), xi v1] h (some (xi p.1)) p.2 :=
  oh_met (cc := cX8_wait) (maxL := 3) (ret := (some .int)) (by decide) rfl (Nat.le_of_ble_eq_true rfl) (fun G C hl hN E => w_X8_wait_0 C hl h h o v1 p hf E)
/-! X8_fresh -/
theorem k_X8_fresh_f7 : Cond.fieldLink RX8 7 "OilPressModel" "fresh" "I" ∈ wsX8_fresh := List.mem_of_getElem? (i := 1) (by decide +kernel)
theorem u_X8_fresh_8 : ∀ w ∈ u_ws RX8 TX8 54, w ∈ wsX8_fresh := fun w h => List.mem_cons_of_mem _ (List.mem_append_right _ (h))
abbrev rmX8_fresh : Room := { frames := 1, cells := 0, slots := 0, locals := 22 }
def f_X8_fresh (h : oh_H) (o : Nat) (v1 : Int32) : Option (Int32 × oh_H) :=
  (f_X8_in h v1 (0 : Int32) (10 : Int32)).bind fun p1 => if p1 = 0 then (oh_bz (0 : Int32) (some ((0 : Int32), h))) else ((oh_pI h (some o) 513 v1).bind fun h3 => oh_bz (1 : Int32) (some ((1 : Int32), h3)))
set_option maxHeartbeats 4000000 in
set_option maxRecDepth 100000 in
theorem w_X8_fresh_0 {G : oh_G} {l : Launch} (C : oh_C G cX8_fresh wsX8_fresh RX8 rmX8_fresh 2) (hl : G.1.2.1 = l) (h0 : oh_H) (h : oh_H) (o : Nat) (v1 : Int32) : oh_J (oh_TW h0 xi 0 0 (some .boolean) G) (f_X8_fresh h o v1) (oh_V G 0 0 h 0 [(0, xr (some o)), (1, xi v1)] []) := by
  unfold f_X8_fresh
  refine or_iload_n C 1 rfl dX8_fresh_0 ?_
  refine or_iconst C (v := (0 : Int32)) dX8_fresh_1 (by decide) ?_
  refine or_bipush C (v := (10 : Int32)) dX8_fresh_2 (by decide) ?_
  refine oj_bind (fun p1 z2 => ?_)
  refine oj_v (P := oh_V G 0 0 h 7 [(0, xr (some o)), (1, xi v1)] [xi p1]) (fun k => or_callS C 3 hl (m_X8_in _ h v1 (0 : Int32) (10 : Int32) p1 z2) gX8_fresh_X8_in rfl rfl rfl (by decide +kernel) ⟨Nat.le_of_ble_eq_true rfl, Nat.le_of_ble_eq_true rfl⟩ (Nat.le_of_ble_eq_true rfl) dX8_fresh_4 ⟨Nat.le_of_ble_eq_true rfl, Nat.le_of_ble_eq_true rfl⟩ rfl rfl k) ?_
  refine or_if_ne C 12 dX8_fresh_7 (by decide) ?_ ?_
  · refine or_iconst C (v := (0 : Int32)) dX8_fresh_10 (by decide) ?_
    exact or_zret C ⟨Nat.le_of_ble_eq_true rfl, Nat.le_of_ble_eq_true rfl⟩ dX8_fresh_11
  · refine or_aload_n C 0 rfl dX8_fresh_12 ?_
    refine or_iload_n C 1 rfl dX8_fresh_13 ?_
    refine or_putI C 8 1 rfl (by decide) rfl (by decide) u_X8_fresh_8 tyX8 tyX8_ok nmX8 (by decide) k_X8_fresh_f7 (Or.inl rfl) (by decide +kernel) rfl dX8_fresh_14 (fun h3 => ?_)
    refine or_iconst C (v := (1 : Int32)) dX8_fresh_17 (by decide) ?_
    exact or_zret C ⟨Nat.le_of_ble_eq_true rfl, Nat.le_of_ble_eq_true rfl⟩ dX8_fresh_18
theorem m_X8_fresh (l : Launch) (h : oh_H) (o : Nat) (v1 : Int32) (p : Int32 × oh_H) (hf : f_X8_fresh h o v1 = some p) : oh_M l yX8_fresh wsX8_fresh rmX8_fresh 0 0 [xr (some o), xi v1] h (some (xi p.1)) p.2 :=
  oh_met (cc := cX8_fresh) (maxL := 2) (ret := (some .boolean)) (by decide) rfl (Nat.le_of_ble_eq_true rfl) (fun G C hl hN E => w_X8_fresh_0 C hl h h o v1 p hf E)
/-! X8_shared -/
abbrev rmX8_shared : Room := { frames := 0, cells := 0, slots := 0, locals := 0 }
abbrev pv_X8_shared_6 (G : oh_G) (h : oh_H) : (Int64 × Int64) → Prop := fun s => oh_V G 0 0 h 6 [(4, xl s.1), (6, xl s.2)] []
def b_X8_shared_6 (h : oh_H) (v4 : Int64) (v6 : Int64) : Option ((Int64 × Int64) ⊕ (Int64)) :=
  if (lg_cmp v6 (0 : Int64)) = 0 then (Option.map Sum.inr (some v4)) else (if v6 = 0 then none else oh_lt (v4 - v4 / v6 * v6) fun x1 => oh_lt v6 fun x2 => oh_lt x1 fun x3 => some (Sum.inl (x2, x3)))
def f_X8_shared_6 (h : oh_H) (v4 : Int64) (v6 : Int64) : Option (Int64) := oh_loop (fun s : Int64 × Int64 => b_X8_shared_6 h s.1 s.2) 1000000 (v4, v6)
def f_X8_shared (h : oh_H) (v0 : Int64) (v2 : Int64) : Option (Int64) :=
  oh_lt v0 fun x1 => oh_lt v2 fun x2 => f_X8_shared_6 h x1 x2
set_option maxHeartbeats 4000000 in
set_option maxRecDepth 100000 in
theorem wb_X8_shared_6 {G : oh_G} {l : Launch} (C : oh_C G cX8_shared wsX8_shared RX8 rmX8_shared 10) (hl : G.1.2.1 = l) (h : oh_H) (v4 : Int64) (v6 : Int64) : oh_J (oh_TL (pv_X8_shared_6 G h) (oh_TR h xl (some .long) G)) (b_X8_shared_6 h v4 v6) (oh_V G 0 0 h 6 [(4, xl v4), (6, xl v6)] []) := by
  unfold b_X8_shared_6
  refine or_lload C 1 rfl dX8_shared_6 ?_
  refine or_lconst C (v := (0 : Int64)) dX8_shared_8 rfl ?_
  refine or_lcmp C dX8_shared_9 ?_
  refine or_if_eq C 31 dX8_shared_10 (by decide) ?_ ?_
  · refine oj_inr ?_
    refine or_lload C 0 rfl dX8_shared_31 ?_
    exact or_lretR C dX8_shared_33
  · refine or_lload C 0 rfl dX8_shared_13 ?_
    refine or_lload C 1 rfl dX8_shared_15 ?_
    refine or_lrem C dX8_shared_17 ?_
    refine or_lstore C (fun x1 => [(8, xl x1), (4, xl v4), (6, xl v6)]) (fun _ => rfl) (by decide) dX8_shared_18 (fun x1 => ?_)
    refine or_lload C 2 rfl dX8_shared_20 ?_
    refine or_lstore C (fun x2 => [(4, xl x2), (8, xl x1), (6, xl v6)]) (fun _ => rfl) (by decide) dX8_shared_22 (fun x2 => ?_)
    refine or_lload C 1 rfl dX8_shared_24 ?_
    refine or_lstore C (fun x3 => [(6, xl x3), (4, xl x2), (8, xl x1)]) (fun _ => rfl) (by decide) dX8_shared_26 (fun x3 => ?_)
    refine or_goto C 6 dX8_shared_28 (by decide) ?_
    refine or_sub [1, 0] rfl ?_
    exact oj_back (P := pv_X8_shared_6 G h) (s := (x2, x3))
theorem w_X8_shared_6 {G : oh_G} {l : Launch} (C : oh_C G cX8_shared wsX8_shared RX8 rmX8_shared 10) (hl : G.1.2.1 = l) (h : oh_H) (v4 : Int64) (v6 : Int64) : oh_J (oh_TR h xl (some .long) G) (f_X8_shared_6 h v4 v6) (oh_V G 0 0 h 6 [(4, xl v4), (6, xl v6)] []) := by
  unfold f_X8_shared_6
  exact oj_loop (P := pv_X8_shared_6 G h) (fun s => wb_X8_shared_6 C hl h s.1 s.2) 1000000 (v4, v6)
set_option maxHeartbeats 4000000 in
set_option maxRecDepth 100000 in
theorem w_X8_shared_0 {G : oh_G} {l : Launch} (C : oh_C G cX8_shared wsX8_shared RX8 rmX8_shared 10) (hl : G.1.2.1 = l) (h : oh_H) (v0 : Int64) (v2 : Int64) : oh_J (oh_TR h xl (some .long) G) (f_X8_shared h v0 v2) (oh_V G 0 0 h 0 [(0, xl v0), (2, xl v2)] []) := by
  unfold f_X8_shared
  refine or_lload_n C 0 rfl dX8_shared_0 ?_
  refine or_lstore C (fun x1 => [(4, xl x1), (0, xl v0), (2, xl v2)]) (fun _ => rfl) (by decide) dX8_shared_1 (fun x1 => ?_)
  refine or_lload_n C 2 rfl dX8_shared_3 ?_
  refine or_lstore C (fun x2 => [(6, xl x2), (4, xl x1), (0, xl v0), (2, xl v2)]) (fun _ => rfl) (by decide) dX8_shared_4 (fun x2 => ?_)
  refine or_sub [1, 0] rfl ?_
  exact w_X8_shared_6 C hl h x1 x2
theorem m_X8_shared (l : Launch) (h : oh_H) (v0 : Int64) (v2 : Int64) (p : Int64) (hf : f_X8_shared h v0 v2 = some p) : oh_M l yX8_shared wsX8_shared rmX8_shared 0 0 [xl v0, xl v2] h (some (xl p)) h :=
  oh_met (cc := cX8_shared) (maxL := 10) (ret := (some .long)) (by decide) rfl (Nat.le_of_ble_eq_true rfl) (fun G C hl hN E => w_X8_shared_0 C hl h v0 v2 p hf E)
/-! X8_held -/
theorem k_X8_held_f90 : Cond.fieldLink RX8 90 "OilPressModel" "sort" "[I" ∈ wsX8_held := List.mem_of_getElem? (i := 3) (by decide +kernel)
theorem u_X8_held_8 : ∀ w ∈ u_ws RX8 TX8 54, w ∈ wsX8_held := fun w h => List.mem_cons_of_mem _ (List.mem_append_right _ (h))
theorem k_X8_held_f93 : Cond.fieldLink RX8 93 "OilPressModel" "isClean" "[Z" ∈ wsX8_held := List.mem_of_getElem? (i := 4) (by decide +kernel)
theorem k_X8_held_f96 : Cond.fieldLink RX8 96 "OilPressModel" "room" "[I" ∈ wsX8_held := List.mem_of_getElem? (i := 5) (by decide +kernel)
theorem k_X8_held_f99 : Cond.fieldLink RX8 99 "OilPressModel" "oil" "[I" ∈ wsX8_held := List.mem_of_getElem? (i := 6) (by decide +kernel)
theorem k_X8_held_f102 : Cond.fieldLink RX8 102 "OilPressModel" "own" "[I" ∈ wsX8_held := List.mem_of_getElem? (i := 7) (by decide +kernel)
theorem k_X8_held_f105 : Cond.fieldLink RX8 105 "OilPressModel" "tapped" "[Z" ∈ wsX8_held := List.mem_of_getElem? (i := 8) (by decide +kernel)
theorem k_X8_held_f108 : Cond.fieldLink RX8 108 "OilPressModel" "above" "[J" ∈ wsX8_held := List.mem_of_getElem? (i := 2) (by decide +kernel)
theorem k_X8_held_f112 : Cond.fieldLink RX8 112 "OilPressModel" "below" "[J" ∈ wsX8_held := List.mem_of_getElem? (i := 1) (by decide +kernel)
abbrev rmX8_held : Room := { frames := 2, cells := 0, slots := 0, locals := 43 }
def f_X8_held_109 (h : oh_H) (o : Nat) (s0 : Int32) : Option (Int32) :=
  some s0
def f_X8_held_145 (h : oh_H) (o : Nat) (s0 : Int32) : Option (Int32) :=
  some s0
def f_X8_held_180 (h : oh_H) (o : Nat) (s0 : Int32) : Option (Int32) :=
  some s0
def f_X8_held_39 (h : oh_H) (o : Nat) (v1 : Int32) (v2 : Int32) (v3 : Int64) : Option (Int32) :=
  if v2 = (0 : Int32) then ((oh_gR h (some o) 542).bind fun x1 => (oh_aI h x1 20 v1).bind fun x2 => some x2) else (if v2 = (1 : Int32) then ((oh_gR h (some o) 543).bind fun x3 => (oh_aI h x3 22 v1).bind fun x4 => if x4 = 0 then (f_X8_held_109 h o (0 : Int32)) else (f_X8_held_109 h o (1 : Int32))) else (if v2 = (2 : Int32) then ((oh_gR h (some o) 544).bind fun x5 => (oh_aI h x5 20 v1).bind fun x6 => some x6) else (if v2 = (3 : Int32) then ((oh_gR h (some o) 545).bind fun x7 => (oh_aI h x7 20 v1).bind fun x8 => some x8) else (if v2 = (4 : Int32) then ((oh_gR h (some o) 546).bind fun x9 => (oh_aI h x9 20 v1).bind fun x10 => some x10) else (if v2 = (5 : Int32) then ((oh_gR h (some o) 547).bind fun x11 => (oh_aI h x11 22 v1).bind fun x12 => if x12 = 0 then (f_X8_held_145 h o (0 : Int32)) else (f_X8_held_145 h o (1 : Int32))) else (if v2 = (6 : Int32) then ((oh_gR h (some o) 548).bind fun x13 => (oh_aL h x13 v1).bind fun x14 => if v3 = 0 then none else some (Int64.toInt32 (x14 / v3))) else (if v2 = (7 : Int32) then ((oh_gR h (some o) 549).bind fun x15 => (oh_aL h x15 v1).bind fun x16 => if (lg_cmp x16 (0 : Int64)) = 0 then (f_X8_held_180 h o (1 : Int32)) else ((oh_gR h (some o) 549).bind fun x17 => (oh_aL h x17 v1).bind fun x18 => if v3 = 0 then none else f_X8_held_180 h o (Int64.toInt32 (x18 / v3)))) else (some (-1 : Int32)))))))))
def f_X8_held (h : oh_H) (o : Nat) (v1 : Int32) (v2 : Int32) : Option (Int32) :=
  oh_rc h (some o) 9 fun o2 => (f_X8_isVat h o2 v1).bind fun p3 => if p3 = 0 then (some (-1 : Int32)) else (oh_lt (1 : Int64) fun x5 => (oh_gR h (some o) 549).bind fun x6 => (oh_aL h x6 v1).bind fun x7 => if (lg_cmp x7 (0 : Int64)) ≤ 0 then (f_X8_held_39 h o v1 v2 x5) else ((oh_gR h (some o) 548).bind fun x8 => (oh_aL h x8 v1).bind fun x9 => (oh_gR h (some o) 549).bind fun x10 => (oh_aL h x10 v1).bind fun x11 => (f_X8_shared h x9 x11).bind fun p12 => oh_lt p12 fun x14 => f_X8_held_39 h o v1 v2 x14))
set_option maxHeartbeats 4000000 in
set_option maxRecDepth 100000 in
theorem w_X8_held_109 {G : oh_G} {l : Launch} (C : oh_C G cX8_held wsX8_held RX8 rmX8_held 5) (hl : G.1.2.1 = l) (h : oh_H) (o : Nat) (s0 : Int32) : oh_J (oh_TR h xi (some .int) G) (f_X8_held_109 h o s0) (oh_V G 0 0 h 109 [] [xi s0]) := by
  unfold f_X8_held_109
  exact or_iretR C dX8_held_109
set_option maxHeartbeats 4000000 in
set_option maxRecDepth 100000 in
theorem w_X8_held_145 {G : oh_G} {l : Launch} (C : oh_C G cX8_held wsX8_held RX8 rmX8_held 5) (hl : G.1.2.1 = l) (h : oh_H) (o : Nat) (s0 : Int32) : oh_J (oh_TR h xi (some .int) G) (f_X8_held_145 h o s0) (oh_V G 0 0 h 145 [] [xi s0]) := by
  unfold f_X8_held_145
  exact or_iretR C dX8_held_145
set_option maxHeartbeats 4000000 in
set_option maxRecDepth 100000 in
theorem w_X8_held_180 {G : oh_G} {l : Launch} (C : oh_C G cX8_held wsX8_held RX8 rmX8_held 5) (hl : G.1.2.1 = l) (h : oh_H) (o : Nat) (s0 : Int32) : oh_J (oh_TR h xi (some .int) G) (f_X8_held_180 h o s0) (oh_V G 0 0 h 180 [] [xi s0]) := by
  unfold f_X8_held_180
  exact or_iretR C dX8_held_180
set_option maxHeartbeats 4000000 in
set_option maxRecDepth 100000 in
theorem w_X8_held_39 {G : oh_G} {l : Launch} (C : oh_C G cX8_held wsX8_held RX8 rmX8_held 5) (hl : G.1.2.1 = l) (h : oh_H) (o : Nat) (v1 : Int32) (v2 : Int32) (v3 : Int64) : oh_J (oh_TR h xi (some .int) G) (f_X8_held_39 h o v1 v2 v3) (oh_V G 0 0 h 39 [(0, xr (some o)), (1, xi v1), (2, xi v2), (3, xl v3)] []) := by
  unfold f_X8_held_39
  refine or_iload_n C 2 rfl dX8_held_39 ?_
  refine or_case C (v := (0 : Int32)) 0 88 dX8_held_40 (by decide) (by decide) rfl (by decide) ?_ (fun n0 => ?_)
  · refine or_aload_n C 0 rfl dX8_held_88 ?_
    refine or_getR C 8 30 rfl (by decide) rfl (by decide) u_X8_held_8 (by decide) k_X8_held_f90 (by decide +kernel) dX8_held_89 (fun x1 => ?_)
    refine or_iload_n C 1 rfl dX8_held_92 ?_
    refine or_iald C dX8_held_93 (fun x2 => ?_)
    exact or_iretR C dX8_held_94
  refine or_case C (v := (1 : Int32)) 1 95 dX8_held_40 (by decide) (by decide) rfl (by decide) ?_ (fun n1 => ?_)
  · refine or_aload_n C 0 rfl dX8_held_95 ?_
    refine or_getR C 8 31 rfl (by decide) rfl (by decide) u_X8_held_8 (by decide) k_X8_held_f93 (by decide +kernel) dX8_held_96 (fun x3 => ?_)
    refine or_iload_n C 1 rfl dX8_held_99 ?_
    refine or_zald C dX8_held_100 (fun x4 => ?_)
    refine or_if_eq C 108 dX8_held_101 (by decide) ?_ ?_
    · refine or_iconst C (v := (0 : Int32)) dX8_held_108 (by decide) ?_
      refine or_sub [] rfl ?_
      exact w_X8_held_109 C hl h o (0 : Int32)
    · refine or_iconst C (v := (1 : Int32)) dX8_held_104 (by decide) ?_
      refine or_goto C 109 dX8_held_105 (by decide) ?_
      refine or_sub [] rfl ?_
      exact w_X8_held_109 C hl h o (1 : Int32)
  refine or_case C (v := (2 : Int32)) 2 110 dX8_held_40 (by decide) (by decide) rfl (by decide) ?_ (fun n2 => ?_)
  · refine or_aload_n C 0 rfl dX8_held_110 ?_
    refine or_getR C 8 32 rfl (by decide) rfl (by decide) u_X8_held_8 (by decide) k_X8_held_f96 (by decide +kernel) dX8_held_111 (fun x5 => ?_)
    refine or_iload_n C 1 rfl dX8_held_114 ?_
    refine or_iald C dX8_held_115 (fun x6 => ?_)
    exact or_iretR C dX8_held_116
  refine or_case C (v := (3 : Int32)) 3 117 dX8_held_40 (by decide) (by decide) rfl (by decide) ?_ (fun n3 => ?_)
  · refine or_aload_n C 0 rfl dX8_held_117 ?_
    refine or_getR C 8 33 rfl (by decide) rfl (by decide) u_X8_held_8 (by decide) k_X8_held_f99 (by decide +kernel) dX8_held_118 (fun x7 => ?_)
    refine or_iload_n C 1 rfl dX8_held_121 ?_
    refine or_iald C dX8_held_122 (fun x8 => ?_)
    exact or_iretR C dX8_held_123
  refine or_case C (v := (4 : Int32)) 4 124 dX8_held_40 (by decide) (by decide) rfl (by decide) ?_ (fun n4 => ?_)
  · refine or_aload_n C 0 rfl dX8_held_124 ?_
    refine or_getR C 8 34 rfl (by decide) rfl (by decide) u_X8_held_8 (by decide) k_X8_held_f102 (by decide +kernel) dX8_held_125 (fun x9 => ?_)
    refine or_iload_n C 1 rfl dX8_held_128 ?_
    refine or_iald C dX8_held_129 (fun x10 => ?_)
    exact or_iretR C dX8_held_130
  refine or_case C (v := (5 : Int32)) 5 131 dX8_held_40 (by decide) (by decide) rfl (by decide) ?_ (fun n5 => ?_)
  · refine or_aload_n C 0 rfl dX8_held_131 ?_
    refine or_getR C 8 35 rfl (by decide) rfl (by decide) u_X8_held_8 (by decide) k_X8_held_f105 (by decide +kernel) dX8_held_132 (fun x11 => ?_)
    refine or_iload_n C 1 rfl dX8_held_135 ?_
    refine or_zald C dX8_held_136 (fun x12 => ?_)
    refine or_if_eq C 144 dX8_held_137 (by decide) ?_ ?_
    · refine or_iconst C (v := (0 : Int32)) dX8_held_144 (by decide) ?_
      refine or_sub [] rfl ?_
      exact w_X8_held_145 C hl h o (0 : Int32)
    · refine or_iconst C (v := (1 : Int32)) dX8_held_140 (by decide) ?_
      refine or_goto C 145 dX8_held_141 (by decide) ?_
      refine or_sub [] rfl ?_
      exact w_X8_held_145 C hl h o (1 : Int32)
  refine or_case C (v := (6 : Int32)) 6 146 dX8_held_40 (by decide) (by decide) rfl (by decide) ?_ (fun n6 => ?_)
  · refine or_aload_n C 0 rfl dX8_held_146 ?_
    refine or_getR C 8 36 rfl (by decide) rfl (by decide) u_X8_held_8 (by decide) k_X8_held_f108 (by decide +kernel) dX8_held_147 (fun x13 => ?_)
    refine or_iload_n C 1 rfl dX8_held_150 ?_
    refine or_lald C dX8_held_151 (fun x14 => ?_)
    refine or_lload_n C 3 rfl dX8_held_152 ?_
    refine or_ldiv C dX8_held_153 ?_
    refine or_l2i C dX8_held_154 ?_
    exact or_iretR C dX8_held_155
  refine or_case C (v := (7 : Int32)) 7 156 dX8_held_40 (by decide) (by decide) rfl (by decide) ?_ (fun n7 => ?_)
  · refine or_aload_n C 0 rfl dX8_held_156 ?_
    refine or_getR C 8 37 rfl (by decide) rfl (by decide) u_X8_held_8 (by decide) k_X8_held_f112 (by decide +kernel) dX8_held_157 (fun x15 => ?_)
    refine or_iload_n C 1 rfl dX8_held_160 ?_
    refine or_lald C dX8_held_161 (fun x16 => ?_)
    refine or_lconst C (v := (0 : Int64)) dX8_held_162 rfl ?_
    refine or_lcmp C dX8_held_163 ?_
    refine or_if_ne C 171 dX8_held_164 (by decide) ?_ ?_
    · refine or_iconst C (v := (1 : Int32)) dX8_held_167 (by decide) ?_
      refine or_goto C 180 dX8_held_168 (by decide) ?_
      refine or_sub [] rfl ?_
      exact w_X8_held_180 C hl h o (1 : Int32)
    · refine or_aload_n C 0 rfl dX8_held_171 ?_
      refine or_getR C 8 37 rfl (by decide) rfl (by decide) u_X8_held_8 (by decide) k_X8_held_f112 (by decide +kernel) dX8_held_172 (fun x17 => ?_)
      refine or_iload_n C 1 rfl dX8_held_175 ?_
      refine or_lald C dX8_held_176 (fun x18 => ?_)
      refine or_lload_n C 3 rfl dX8_held_177 ?_
      refine or_ldiv C dX8_held_178 ?_
      refine or_l2i C dX8_held_179 ?_
      refine or_sub [] rfl ?_
      exact w_X8_held_180 C hl h o (Int64.toInt32 (x18 / v3))
  refine or_dflt C 181 dX8_held_40 (by omega) (by decide) ?_
  refine or_iconst C (v := (-1 : Int32)) dX8_held_181 (by decide) ?_
  exact or_iretR C dX8_held_182
set_option maxHeartbeats 4000000 in
set_option maxRecDepth 100000 in
theorem w_X8_held_0 {G : oh_G} {l : Launch} (C : oh_C G cX8_held wsX8_held RX8 rmX8_held 5) (hl : G.1.2.1 = l) (h : oh_H) (o : Nat) (v1 : Int32) (v2 : Int32) : oh_J (oh_TR h xi (some .int) G) (f_X8_held h o v1 v2) (oh_V G 0 0 h 0 [(0, xr (some o)), (1, xi v1), (2, xi v2)] []) := by
  unfold f_X8_held
  refine or_aload_n C 0 rfl dX8_held_0 ?_
  refine or_iload_n C 1 rfl dX8_held_1 ?_
  refine oj_rcs (fun q1 => ?_)
  refine oj_bind (fun p3 z4 => ?_)
  refine oj_v (P := oh_V G 0 0 h 5 [(0, xr (some o)), (1, xi v1), (2, xi v2)] [xi p3]) (fun k => or_callV C 1 hl (m_X8_isVat _ h o v1 p3 z4) gX8_held_X8_isVat rfl rfl rfl (by decide +kernel) ⟨Nat.le_of_ble_eq_true rfl, Nat.le_of_ble_eq_true rfl⟩ q1 rfl (by decide) (Nat.le_of_ble_eq_true rfl) dX8_held_2 ⟨Nat.le_of_ble_eq_true rfl, Nat.le_of_ble_eq_true rfl⟩ rfl rfl k) ?_
  refine or_if_ne C 10 dX8_held_5 (by decide) ?_ ?_
  · refine or_iconst C (v := (-1 : Int32)) dX8_held_8 (by decide) ?_
    exact or_iretR C dX8_held_9
  · refine or_lconst C (v := (1 : Int64)) dX8_held_10 rfl ?_
    refine or_lstore_n C (fun x5 => [(3, xl x5), (0, xr (some o)), (1, xi v1), (2, xi v2)]) (fun _ => rfl) (by decide) dX8_held_11 (fun x5 => ?_)
    refine or_aload_n C 1 rfl dX8_held_12 ?_
    refine or_getR C 8 37 rfl (by decide) rfl (by decide) u_X8_held_8 (by decide) k_X8_held_f112 (by decide +kernel) dX8_held_13 (fun x6 => ?_)
    refine or_iload_n C 2 rfl dX8_held_16 ?_
    refine or_lald C dX8_held_17 (fun x7 => ?_)
    refine or_lconst C (v := (0 : Int64)) dX8_held_18 rfl ?_
    refine or_lcmp C dX8_held_19 ?_
    refine or_if_le C 39 dX8_held_20 (by decide) ?_ ?_
    · refine or_sub [1, 2, 3, 0] rfl ?_
      exact w_X8_held_39 C hl h o v1 v2 x5
    · refine or_aload_n C 1 rfl dX8_held_23 ?_
      refine or_getR C 8 36 rfl (by decide) rfl (by decide) u_X8_held_8 (by decide) k_X8_held_f108 (by decide +kernel) dX8_held_24 (fun x8 => ?_)
      refine or_iload_n C 2 rfl dX8_held_27 ?_
      refine or_lald C dX8_held_28 (fun x9 => ?_)
      refine or_aload_n C 1 rfl dX8_held_29 ?_
      refine or_getR C 8 37 rfl (by decide) rfl (by decide) u_X8_held_8 (by decide) k_X8_held_f112 (by decide +kernel) dX8_held_30 (fun x10 => ?_)
      refine or_iload_n C 2 rfl dX8_held_33 ?_
      refine or_lald C dX8_held_34 (fun x11 => ?_)
      refine oj_bind (fun p12 z13 => ?_)
      refine oj_v (P := oh_V G 0 0 h 38 [(3, xl x5), (0, xr (some o)), (1, xi v1), (2, xi v2)] [xl p12]) (fun k => or_callS C 2 hl (m_X8_shared _ h x9 x11 p12 z13) gX8_held_X8_shared rfl rfl rfl (by decide +kernel) ⟨Nat.le_of_ble_eq_true rfl, Nat.le_of_ble_eq_true rfl⟩ (Nat.le_of_ble_eq_true rfl) dX8_held_35 ⟨Nat.le_of_ble_eq_true rfl, Nat.le_of_ble_eq_true rfl⟩ rfl rfl k) ?_
      refine or_lstore_n C (fun x14 => [(3, xl x14), (0, xr (some o)), (1, xi v1), (2, xi v2)]) (fun _ => rfl) (by decide) dX8_held_38 (fun x14 => ?_)
      refine or_sub [1, 2, 3, 0] rfl ?_
      exact w_X8_held_39 C hl h o v1 v2 x14
theorem m_X8_held (l : Launch) (h : oh_H) (o : Nat) (v1 : Int32) (v2 : Int32) (p : Int32) (hf : f_X8_held h o v1 v2 = some p) : oh_M l yX8_held wsX8_held rmX8_held 0 0 [xr (some o), xi v1, xi v2] h (some (xi p)) h :=
  oh_met (cc := cX8_held) (maxL := 5) (ret := (some .int)) (by decide) rfl (Nat.le_of_ble_eq_true rfl) (fun G C hl hN E => w_X8_held_0 C hl h o v1 v2 p hf E)
/-! X8_tries -/
theorem k_X8_tries_f38 : Cond.fieldLink RX8 38 "OilPressModel" "tenths" "[I" ∈ wsX8_tries := List.mem_of_getElem? (i := 12) (by decide +kernel)
theorem u_X8_tries_8 : ∀ w ∈ u_ws RX8 TX8 54, w ∈ wsX8_tries := fun w h => List.mem_cons_of_mem _ (List.mem_append_right _ (h))
theorem k_X8_tries_f26 : Cond.fieldLink RX8 26 "OilPressModel" "kind" "[I" ∈ wsX8_tries := List.mem_of_getElem? (i := 5) (by decide +kernel)
theorem k_X8_tries_f32 : Cond.fieldLink RX8 32 "OilPressModel" "came" "[I" ∈ wsX8_tries := List.mem_of_getElem? (i := 10) (by decide +kernel)
theorem k_X8_tries_f7 : Cond.fieldLink RX8 7 "OilPressModel" "fresh" "I" ∈ wsX8_tries := List.mem_of_getElem? (i := 11) (by decide +kernel)
theorem k_X8_tries_f236 : Cond.fieldLink RX8 236 "OilPressModel" "lotsToPlan" "I" ∈ wsX8_tries := List.mem_of_getElem? (i := 3) (by decide +kernel)
theorem k_X8_tries_f239 : Cond.fieldLink RX8 239 "OilPressModel" "orderLate" "I" ∈ wsX8_tries := List.mem_of_getElem? (i := 13) (by decide +kernel)
theorem k_X8_tries_f242 : Cond.fieldLink RX8 242 "OilPressModel" "orderEnd" "I" ∈ wsX8_tries := List.mem_of_getElem? (i := 14) (by decide +kernel)
theorem k_X8_tries_f124 : Cond.fieldLink RX8 124 "OilPressModel" "order" "[I" ∈ wsX8_tries := List.mem_of_getElem? (i := 4) (by decide +kernel)
theorem k_X8_tries_f23 : Cond.fieldLink RX8 23 "OilPressModel" "like" "[I" ∈ wsX8_tries := List.mem_of_getElem? (i := 6) (by decide +kernel)
theorem k_X8_tries_f29 : Cond.fieldLink RX8 29 "OilPressModel" "grove" "[I" ∈ wsX8_tries := List.mem_of_getElem? (i := 7) (by decide +kernel)
theorem k_X8_tries_f78 : Cond.fieldLink RX8 78 "OilPressModel" "washed" "[Z" ∈ wsX8_tries := List.mem_of_getElem? (i := 8) (by decide +kernel)
theorem k_X8_tries_f81 : Cond.fieldLink RX8 81 "OilPressModel" "likeOf" "[I" ∈ wsX8_tries := List.mem_of_getElem? (i := 9) (by decide +kernel)
theorem k_X8_tries_f127 : Cond.fieldLink RX8 127 "OilPressModel" "now" "I" ∈ wsX8_tries := List.mem_of_getElem? (i := 1) (by decide +kernel)
theorem k_X8_tries_f66 : Cond.fieldLink RX8 66 "OilPressModel" "busy" "[I" ∈ wsX8_tries := List.mem_of_getElem? (i := 2) (by decide +kernel)
abbrev rmX8_tries : Room := { frames := 1, cells := 0, slots := 0, locals := 22 }
def f_X8_tries_223 (h : oh_H) (o : Nat) (v1 : Int32) (v2 : Int32) (v3 : Int32) (v4 : Int32) (v5 : Int32) : Option ((oh_H × Int32 × Int32 × Int32) ⊕ (oh_H)) :=
  (oh_gR h (some o) 524).bind fun x1 => (oh_aI h x1 20 v5).bind fun x2 => oh_rc h (some o) 9 fun o4 => (f_X8_hours h o4 x2 v1).bind fun p5 => oh_lt (v2 + p5) fun x7 => oh_lt (v4 + (1 : Int32)) fun x8 => some (Sum.inl (h, x7, v3, x8))
def f_X8_tries_200 (h : oh_H) (o : Nat) (v1 : Int32) (v2 : Int32) (v3 : Int32) (v4 : Int32) (v5 : Int32) (v6 : Int32) : Option ((oh_H × Int32 × Int32 × Int32) ⊕ (oh_H)) :=
  (oh_gR h (some o) 520).bind fun x1 => (oh_aI h x1 20 v5).bind fun x2 => if x2 = (3 : Int32) then (f_X8_tries_223 h o v1 v2 v3 v4 v5) else (if v2 < ((10 : Int32) * v6) then (f_X8_tries_223 h o v1 v2 v3 v4 v5) else (oh_lt (v3 + (1 : Int32)) fun x3 => f_X8_tries_223 h o v1 v2 x3 v4 v5))
def f_X8_tries_165 (h : oh_H) (o : Nat) (v1 : Int32) (v2 : Int32) (v3 : Int32) (v4 : Int32) (v5 : Int32) : Option ((oh_H × Int32 × Int32 × Int32) ⊕ (oh_H)) :=
  (oh_gR h (some o) 522).bind fun x1 => (oh_aI h x1 20 v5).bind fun x2 => (oh_gI h (some o) 513).bind fun x3 => oh_lt ((x2 + x3) + (1 : Int32)) fun x4 => oh_rc h (some o) 9 fun o6 => (f_X8_today h o6).bind fun p7 => if (p7 + (1 : Int32)) ≤ x4 then (f_X8_tries_200 h o v1 v2 v3 v4 v5 x4) else (oh_rc h (some o) 9 fun o10 => (f_X8_today h o10).bind fun p11 => oh_lt (p11 + (1 : Int32)) fun x13 => f_X8_tries_200 h o v1 v2 v3 v4 v5 x13)
def f_X8_tries_155 (h : oh_H) (o : Nat) (v1 : Int32) (v2 : Int32) (v3 : Int32) (v4 : Int32) (v5 : Int32) (s0 : Int32) : Option ((oh_H × Int32 × Int32 × Int32) ⊕ (oh_H)) :=
  oh_lt s0 fun x1 => if x1 = 0 then (oh_lt (v2 + (2 : Int32)) fun x2 => f_X8_tries_165 h o v1 x2 v3 v4 v5) else (f_X8_tries_165 h o v1 v2 v3 v4 v5)
def f_X8_tries_154 (h : oh_H) (o : Nat) (v1 : Int32) (v2 : Int32) (v3 : Int32) (v4 : Int32) (v5 : Int32) : Option ((oh_H × Int32 × Int32 × Int32) ⊕ (oh_H)) :=
  f_X8_tries_155 h o v1 v2 v3 v4 v5 (0 : Int32)
def f_X8_tries_100 (h : oh_H) (o : Nat) (v1 : Int32) (v2 : Int32) (v3 : Int32) (v4 : Int32) (v5 : Int32) : Option ((oh_H × Int32 × Int32 × Int32) ⊕ (oh_H)) :=
  f_X8_tries_155 h o v1 v2 v3 v4 v5 (1 : Int32)
abbrev pv_X8_tries_32 (G : oh_G) (o : Nat) (v1 : Int32) : (oh_H × Int32 × Int32 × Int32) → Prop := fun s => oh_V G 0 0 s.1 32 [(0, xr (some o)), (1, xi v1), (2, xi s.2.1), (3, xi s.2.2.1), (4, xi s.2.2.2)] []
def b_X8_tries_32 (h : oh_H) (o : Nat) (v1 : Int32) (v2 : Int32) (v3 : Int32) (v4 : Int32) : Option ((oh_H × Int32 × Int32 × Int32) ⊕ (oh_H)) :=
  (oh_gI h (some o) 561).bind fun x1 => if x1 ≤ v4 then (Option.map Sum.inr ((oh_pI h (some o) 564 v3).bind fun h2 => (oh_pI h2 (some o) 565 v2).bind fun h3 => some h3)) else ((oh_gR h (some o) 563).bind fun x4 => (oh_aI h x4 20 v4).bind fun x5 => oh_lt x5 fun x6 => (oh_gR h (some o) 520).bind fun x7 => (oh_aI h x7 20 x6).bind fun x8 => if x8 = (2 : Int32) then ((oh_gR h (some o) 518).bind fun x9 => (oh_gR h (some o) 521).bind fun x10 => (oh_aI h x10 20 x6).bind fun x11 => (oh_aI h x9 20 x11).bind fun x12 => oh_lt x12 fun x13 => if v4 = 0 then ((oh_gR h (some o) 537).bind fun x24 => (oh_aI h x24 22 v1).bind fun x25 => if x25 = 0 then ((oh_gR h (some o) 538).bind fun x26 => (oh_aI h x26 20 v1).bind fun x27 => if x27 = x13 then (f_X8_tries_100 h o v1 v2 v3 v4 x6) else (f_X8_tries_155 h o v1 v2 v3 v4 x6 (0 : Int32))) else (f_X8_tries_100 h o v1 v2 v3 v4 x6)) else ((oh_gR h (some o) 520).bind fun x14 => (oh_gR h (some o) 563).bind fun x15 => (oh_aI h x15 20 (v4 - (1 : Int32))).bind fun x16 => (oh_aI h x14 20 x16).bind fun x17 => if x17 = (2 : Int32) then ((oh_gR h (some o) 518).bind fun x18 => (oh_gR h (some o) 521).bind fun x19 => (oh_gR h (some o) 563).bind fun x20 => (oh_aI h x20 20 (v4 - (1 : Int32))).bind fun x21 => (oh_aI h x19 20 x21).bind fun x22 => (oh_aI h x18 20 x22).bind fun x23 => if x23 = x13 then (f_X8_tries_155 h o v1 v2 v3 v4 x6 (1 : Int32)) else (f_X8_tries_154 h o v1 v2 v3 v4 x6)) else (f_X8_tries_154 h o v1 v2 v3 v4 x6))) else (f_X8_tries_165 h o v1 v2 v3 v4 x6))
def f_X8_tries_32 (h : oh_H) (o : Nat) (v1 : Int32) (v2 : Int32) (v3 : Int32) (v4 : Int32) : Option (oh_H) := oh_loop (fun s : oh_H × Int32 × Int32 × Int32 => b_X8_tries_32 s.1 o v1 s.2.1 s.2.2.1 s.2.2.2) 1000000 (h, v2, v3, v4)
def f_X8_tries_26 (h : oh_H) (o : Nat) (v1 : Int32) (s0 : Int32) : Option (oh_H) :=
  oh_lt s0 fun x1 => oh_lt (0 : Int32) fun x2 => oh_lt (0 : Int32) fun x3 => f_X8_tries_32 h o v1 x1 x2 x3
def f_X8_tries (h : oh_H) (o : Nat) (v1 : Int32) : Option (oh_H) :=
  (oh_gI h (some o) 512).bind fun x1 => (oh_gR h (some o) 533).bind fun x2 => (oh_aI h x2 20 v1).bind fun x3 => if x1 ≤ x3 then ((oh_gR h (some o) 533).bind fun x4 => (oh_aI h x4 20 v1).bind fun x5 => f_X8_tries_26 h o v1 x5) else ((oh_gI h (some o) 512).bind fun x6 => f_X8_tries_26 h o v1 x6)
set_option maxHeartbeats 4000000 in
set_option maxRecDepth 100000 in
theorem w_X8_tries_223 {G : oh_G} {l : Launch} (C : oh_C G cX8_tries wsX8_tries RX8 rmX8_tries 8) (hl : G.1.2.1 = l) (h0 : oh_H) (h : oh_H) (o : Nat) (v1 : Int32) (v2 : Int32) (v3 : Int32) (v4 : Int32) (v5 : Int32) : oh_J (oh_TL (pv_X8_tries_32 G o v1) (oh_TV h0 0 0 none G)) (f_X8_tries_223 h o v1 v2 v3 v4 v5) (oh_V G 0 0 h 223 [(0, xr (some o)), (1, xi v1), (2, xi v2), (3, xi v3), (4, xi v4), (5, xi v5)] []) := by
  unfold f_X8_tries_223
  refine or_iload_n C 2 rfl dX8_tries_223 ?_
  refine or_aload_n C 0 rfl dX8_tries_224 ?_
  refine or_aload_n C 0 rfl dX8_tries_225 ?_
  refine or_getR C 8 12 rfl (by decide) rfl (by decide) u_X8_tries_8 (by decide) k_X8_tries_f38 (by decide +kernel) dX8_tries_226 (fun x1 => ?_)
  refine or_iload C 5 rfl dX8_tries_229 ?_
  refine or_iald C dX8_tries_231 (fun x2 => ?_)
  refine or_iload_n C 1 rfl dX8_tries_232 ?_
  refine oj_rcs (fun q3 => ?_)
  refine oj_bind (fun p5 z6 => ?_)
  refine oj_v (P := oh_V G 0 0 h 236 [(0, xr (some o)), (1, xi v1), (2, xi v2), (3, xi v3), (4, xi v4), (5, xi v5)] [xi p5, xi v2]) (fun k => or_callV C 2 hl (m_X8_hours _ h o x2 v1 p5 z6) gX8_tries_X8_hours rfl rfl rfl (by decide +kernel) ⟨Nat.le_of_ble_eq_true rfl, Nat.le_of_ble_eq_true rfl⟩ q3 rfl (by decide) (Nat.le_of_ble_eq_true rfl) dX8_tries_233 ⟨Nat.le_of_ble_eq_true rfl, Nat.le_of_ble_eq_true rfl⟩ rfl rfl k) ?_
  refine or_iadd C dX8_tries_236 ?_
  refine or_istore_n C (fun x7 => [(2, xi x7), (0, xr (some o)), (1, xi v1), (3, xi v3), (4, xi v4), (5, xi v5)]) (fun _ => rfl) (by decide) dX8_tries_237 (fun x7 => ?_)
  refine or_iinc C (y := (1 : Int32)) 4 rfl (by decide) (fun x8 => [(4, xi x8), (2, xi x7), (0, xr (some o)), (1, xi v1), (3, xi v3), (5, xi v5)]) (fun _ => rfl) (by decide) dX8_tries_238 (fun x8 => ?_)
  refine or_goto C 32 dX8_tries_241 (by decide) ?_
  refine or_sub [2, 3, 1, 4, 0] rfl ?_
  exact oj_back (P := pv_X8_tries_32 G o v1) (s := (h, x7, v3, x8))
set_option maxHeartbeats 4000000 in
set_option maxRecDepth 100000 in
theorem w_X8_tries_200 {G : oh_G} {l : Launch} (C : oh_C G cX8_tries wsX8_tries RX8 rmX8_tries 8) (hl : G.1.2.1 = l) (h0 : oh_H) (h : oh_H) (o : Nat) (v1 : Int32) (v2 : Int32) (v3 : Int32) (v4 : Int32) (v5 : Int32) (v6 : Int32) : oh_J (oh_TL (pv_X8_tries_32 G o v1) (oh_TV h0 0 0 none G)) (f_X8_tries_200 h o v1 v2 v3 v4 v5 v6) (oh_V G 0 0 h 200 [(0, xr (some o)), (1, xi v1), (2, xi v2), (3, xi v3), (4, xi v4), (5, xi v5), (6, xi v6)] []) := by
  unfold f_X8_tries_200
  refine or_aload_n C 0 rfl dX8_tries_200 ?_
  refine or_getR C 8 8 rfl (by decide) rfl (by decide) u_X8_tries_8 (by decide) k_X8_tries_f26 (by decide +kernel) dX8_tries_201 (fun x1 => ?_)
  refine or_iload C 5 rfl dX8_tries_204 ?_
  refine or_iald C dX8_tries_206 (fun x2 => ?_)
  refine or_iconst C (v := (3 : Int32)) dX8_tries_207 (by decide) ?_
  refine or_icmp_eq C 223 dX8_tries_208 (by decide) ?_ ?_
  · refine or_sub [0, 1, 2, 3, 4, 5] rfl ?_
    exact w_X8_tries_223 C hl h0 h o v1 v2 v3 v4 v5
  · refine or_iload_n C 2 rfl dX8_tries_211 ?_
    refine or_bipush C (v := (10 : Int32)) dX8_tries_212 (by decide) ?_
    refine or_iload C 6 rfl dX8_tries_214 ?_
    refine or_imul C dX8_tries_216 ?_
    refine or_icmp_lt C 223 dX8_tries_217 (by decide) ?_ ?_
    · refine or_sub [0, 1, 2, 3, 4, 5] rfl ?_
      exact w_X8_tries_223 C hl h0 h o v1 v2 v3 v4 v5
    · refine or_iinc C (y := (1 : Int32)) 3 rfl (by decide) (fun x3 => [(3, xi x3), (0, xr (some o)), (1, xi v1), (2, xi v2), (4, xi v4), (5, xi v5), (6, xi v6)]) (fun _ => rfl) (by decide) dX8_tries_220 (fun x3 => ?_)
      refine or_sub [1, 2, 3, 0, 4, 5] rfl ?_
      exact w_X8_tries_223 C hl h0 h o v1 v2 x3 v4 v5
set_option maxHeartbeats 4000000 in
set_option maxRecDepth 100000 in
theorem w_X8_tries_165 {G : oh_G} {l : Launch} (C : oh_C G cX8_tries wsX8_tries RX8 rmX8_tries 8) (hl : G.1.2.1 = l) (h0 : oh_H) (h : oh_H) (o : Nat) (v1 : Int32) (v2 : Int32) (v3 : Int32) (v4 : Int32) (v5 : Int32) : oh_J (oh_TL (pv_X8_tries_32 G o v1) (oh_TV h0 0 0 none G)) (f_X8_tries_165 h o v1 v2 v3 v4 v5) (oh_V G 0 0 h 165 [(0, xr (some o)), (1, xi v1), (2, xi v2), (3, xi v3), (4, xi v4), (5, xi v5)] []) := by
  unfold f_X8_tries_165
  refine or_aload_n C 0 rfl dX8_tries_165 ?_
  refine or_getR C 8 10 rfl (by decide) rfl (by decide) u_X8_tries_8 (by decide) k_X8_tries_f32 (by decide +kernel) dX8_tries_166 (fun x1 => ?_)
  refine or_iload C 5 rfl dX8_tries_169 ?_
  refine or_iald C dX8_tries_171 (fun x2 => ?_)
  refine or_aload_n C 0 rfl dX8_tries_172 ?_
  refine or_getI C 8 1 rfl (by decide) rfl (by decide) u_X8_tries_8 (by decide) k_X8_tries_f7 (by decide +kernel) dX8_tries_173 (fun x3 => ?_)
  refine or_iadd C dX8_tries_176 ?_
  refine or_iconst C (v := (1 : Int32)) dX8_tries_177 (by decide) ?_
  refine or_iadd C dX8_tries_178 ?_
  refine or_istore C (fun x4 => [(6, xi x4), (0, xr (some o)), (1, xi v1), (2, xi v2), (3, xi v3), (4, xi v4), (5, xi v5)]) (fun _ => rfl) (by decide) dX8_tries_179 (fun x4 => ?_)
  refine or_iload C 0 rfl dX8_tries_181 ?_
  refine or_aload_n C 1 rfl dX8_tries_183 ?_
  refine oj_rcs (fun q5 => ?_)
  refine oj_bind (fun p7 z8 => ?_)
  refine oj_v (P := oh_V G 0 0 h 187 [(6, xi x4), (0, xr (some o)), (1, xi v1), (2, xi v2), (3, xi v3), (4, xi v4), (5, xi v5)] [xi p7, xi x4]) (fun k => or_callV C 0 hl (m_X8_today _ h o p7 z8) gX8_tries_X8_today rfl rfl rfl (by decide +kernel) ⟨Nat.le_of_ble_eq_true rfl, Nat.le_of_ble_eq_true rfl⟩ q5 rfl (by decide) (Nat.le_of_ble_eq_true rfl) dX8_tries_184 ⟨Nat.le_of_ble_eq_true rfl, Nat.le_of_ble_eq_true rfl⟩ rfl rfl k) ?_
  refine or_iconst C (v := (1 : Int32)) dX8_tries_187 (by decide) ?_
  refine or_iadd C dX8_tries_188 ?_
  refine or_icmp_ge C 200 dX8_tries_189 (by decide) ?_ ?_
  · refine or_sub [1, 2, 3, 4, 5, 6, 0] rfl ?_
    exact w_X8_tries_200 C hl h0 h o v1 v2 v3 v4 v5 x4
  · refine or_aload_n C 1 rfl dX8_tries_192 ?_
    refine oj_rcs (fun q9 => ?_)
    refine oj_bind (fun p11 z12 => ?_)
    refine oj_v (P := oh_V G 0 0 h 196 [(6, xi x4), (0, xr (some o)), (1, xi v1), (2, xi v2), (3, xi v3), (4, xi v4), (5, xi v5)] [xi p11]) (fun k => or_callV C 0 hl (m_X8_today _ h o p11 z12) gX8_tries_X8_today rfl rfl rfl (by decide +kernel) ⟨Nat.le_of_ble_eq_true rfl, Nat.le_of_ble_eq_true rfl⟩ q9 rfl (by decide) (Nat.le_of_ble_eq_true rfl) dX8_tries_193 ⟨Nat.le_of_ble_eq_true rfl, Nat.le_of_ble_eq_true rfl⟩ rfl rfl k) ?_
    refine or_iconst C (v := (1 : Int32)) dX8_tries_196 (by decide) ?_
    refine or_iadd C dX8_tries_197 ?_
    refine or_istore C (fun x13 => [(6, xi x13), (0, xr (some o)), (1, xi v1), (2, xi v2), (3, xi v3), (4, xi v4), (5, xi v5)]) (fun _ => rfl) (by decide) dX8_tries_198 (fun x13 => ?_)
    refine or_sub [1, 2, 3, 4, 5, 6, 0] rfl ?_
    exact w_X8_tries_200 C hl h0 h o v1 v2 v3 v4 v5 x13
set_option maxHeartbeats 4000000 in
set_option maxRecDepth 100000 in
theorem w_X8_tries_155 {G : oh_G} {l : Launch} (C : oh_C G cX8_tries wsX8_tries RX8 rmX8_tries 8) (hl : G.1.2.1 = l) (h0 : oh_H) (h : oh_H) (o : Nat) (v1 : Int32) (v2 : Int32) (v3 : Int32) (v4 : Int32) (v5 : Int32) (s0 : Int32) : oh_J (oh_TL (pv_X8_tries_32 G o v1) (oh_TV h0 0 0 none G)) (f_X8_tries_155 h o v1 v2 v3 v4 v5 s0) (oh_V G 0 0 h 155 [(0, xr (some o)), (1, xi v1), (2, xi v2), (3, xi v3), (4, xi v4), (5, xi v5)] [xi s0]) := by
  unfold f_X8_tries_155
  refine or_istore C (fun x1 => [(7, xi x1), (0, xr (some o)), (1, xi v1), (2, xi v2), (3, xi v3), (4, xi v4), (5, xi v5)]) (fun _ => rfl) (by decide) dX8_tries_155 (fun x1 => ?_)
  refine or_iload C 0 rfl dX8_tries_157 ?_
  refine or_if_ne C 165 dX8_tries_159 (by decide) ?_ ?_
  · refine or_iinc C (y := (2 : Int32)) 3 rfl (by decide) (fun x2 => [(2, xi x2), (7, xi x1), (0, xr (some o)), (1, xi v1), (3, xi v3), (4, xi v4), (5, xi v5)]) (fun _ => rfl) (by decide) dX8_tries_162 (fun x2 => ?_)
    refine or_sub [2, 3, 0, 4, 5, 6] rfl ?_
    exact w_X8_tries_165 C hl h0 h o v1 x2 v3 v4 v5
  · refine or_sub [1, 2, 3, 4, 5, 6] rfl ?_
    exact w_X8_tries_165 C hl h0 h o v1 v2 v3 v4 v5
set_option maxHeartbeats 4000000 in
set_option maxRecDepth 100000 in
theorem w_X8_tries_154 {G : oh_G} {l : Launch} (C : oh_C G cX8_tries wsX8_tries RX8 rmX8_tries 8) (hl : G.1.2.1 = l) (h0 : oh_H) (h : oh_H) (o : Nat) (v1 : Int32) (v2 : Int32) (v3 : Int32) (v4 : Int32) (v5 : Int32) : oh_J (oh_TL (pv_X8_tries_32 G o v1) (oh_TV h0 0 0 none G)) (f_X8_tries_154 h o v1 v2 v3 v4 v5) (oh_V G 0 0 h 154 [(0, xr (some o)), (1, xi v1), (2, xi v2), (3, xi v3), (4, xi v4), (5, xi v5)] []) := by
  unfold f_X8_tries_154
  refine or_iconst C (v := (0 : Int32)) dX8_tries_154 (by decide) ?_
  refine or_sub [0, 1, 2, 3, 4, 5] rfl ?_
  exact w_X8_tries_155 C hl h0 h o v1 v2 v3 v4 v5 (0 : Int32)
set_option maxHeartbeats 4000000 in
set_option maxRecDepth 100000 in
theorem w_X8_tries_100 {G : oh_G} {l : Launch} (C : oh_C G cX8_tries wsX8_tries RX8 rmX8_tries 8) (hl : G.1.2.1 = l) (h0 : oh_H) (h : oh_H) (o : Nat) (v1 : Int32) (v2 : Int32) (v3 : Int32) (v4 : Int32) (v5 : Int32) : oh_J (oh_TL (pv_X8_tries_32 G o v1) (oh_TV h0 0 0 none G)) (f_X8_tries_100 h o v1 v2 v3 v4 v5) (oh_V G 0 0 h 100 [(0, xr (some o)), (1, xi v1), (2, xi v2), (3, xi v3), (4, xi v4), (5, xi v5)] []) := by
  unfold f_X8_tries_100
  refine or_iconst C (v := (1 : Int32)) dX8_tries_100 (by decide) ?_
  refine or_goto C 155 dX8_tries_101 (by decide) ?_
  refine or_sub [0, 1, 2, 3, 4, 5] rfl ?_
  exact w_X8_tries_155 C hl h0 h o v1 v2 v3 v4 v5 (1 : Int32)
set_option maxHeartbeats 4000000 in
set_option maxRecDepth 100000 in
theorem wb_X8_tries_32 {G : oh_G} {l : Launch} (C : oh_C G cX8_tries wsX8_tries RX8 rmX8_tries 8) (hl : G.1.2.1 = l) (h0 : oh_H) (h : oh_H) (o : Nat) (v1 : Int32) (v2 : Int32) (v3 : Int32) (v4 : Int32) : oh_J (oh_TL (pv_X8_tries_32 G o v1) (oh_TV h0 0 0 none G)) (b_X8_tries_32 h o v1 v2 v3 v4) (oh_V G 0 0 h 32 [(0, xr (some o)), (1, xi v1), (2, xi v2), (3, xi v3), (4, xi v4)] []) := by
  unfold b_X8_tries_32
  refine or_iload C 4 rfl dX8_tries_32 ?_
  refine or_aload_n C 0 rfl dX8_tries_34 ?_
  refine or_getI C 8 49 rfl (by decide) rfl (by decide) u_X8_tries_8 (by decide) k_X8_tries_f236 (by decide +kernel) dX8_tries_35 (fun x1 => ?_)
  refine or_icmp_ge C 244 dX8_tries_38 (by decide) ?_ ?_
  · refine oj_inr ?_
    refine or_aload_n C 0 rfl dX8_tries_244 ?_
    refine or_iload_n C 3 rfl dX8_tries_245 ?_
    refine or_putI C 8 52 rfl (by decide) rfl (by decide) u_X8_tries_8 tyX8 tyX8_ok nmX8 (by decide) k_X8_tries_f239 (Or.inl rfl) (by decide +kernel) rfl dX8_tries_246 (fun h2 => ?_)
    refine or_aload_n C 0 rfl dX8_tries_249 ?_
    refine or_iload_n C 2 rfl dX8_tries_250 ?_
    refine or_putI C 8 53 rfl (by decide) rfl (by decide) u_X8_tries_8 tyX8 tyX8_ok nmX8 (by decide) k_X8_tries_f242 (Or.inl rfl) (by decide +kernel) rfl dX8_tries_251 (fun h3 => ?_)
    exact or_vret C ⟨Nat.le_of_ble_eq_true rfl, Nat.le_of_ble_eq_true rfl⟩ dX8_tries_254
  · refine or_aload_n C 0 rfl dX8_tries_41 ?_
    refine or_getR C 8 51 rfl (by decide) rfl (by decide) u_X8_tries_8 (by decide) k_X8_tries_f124 (by decide +kernel) dX8_tries_42 (fun x4 => ?_)
    refine or_iload C 4 rfl dX8_tries_45 ?_
    refine or_iald C dX8_tries_47 (fun x5 => ?_)
    refine or_istore C (fun x6 => [(5, xi x6), (0, xr (some o)), (1, xi v1), (2, xi v2), (3, xi v3), (4, xi v4)]) (fun _ => rfl) (by decide) dX8_tries_48 (fun x6 => ?_)
    refine or_aload_n C 1 rfl dX8_tries_50 ?_
    refine or_getR C 8 8 rfl (by decide) rfl (by decide) u_X8_tries_8 (by decide) k_X8_tries_f26 (by decide +kernel) dX8_tries_51 (fun x7 => ?_)
    refine or_iload C 0 rfl dX8_tries_54 ?_
    refine or_iald C dX8_tries_56 (fun x8 => ?_)
    refine or_iconst C (v := (2 : Int32)) dX8_tries_57 (by decide) ?_
    refine or_icmp_ne C 165 dX8_tries_58 (by decide) ?_ ?_
    · refine or_aload_n C 1 rfl dX8_tries_61 ?_
      refine or_getR C 8 6 rfl (by decide) rfl (by decide) u_X8_tries_8 (by decide) k_X8_tries_f23 (by decide +kernel) dX8_tries_62 (fun x9 => ?_)
      refine or_aload_n C 1 rfl dX8_tries_65 ?_
      refine or_getR C 8 9 rfl (by decide) rfl (by decide) u_X8_tries_8 (by decide) k_X8_tries_f29 (by decide +kernel) dX8_tries_66 (fun x10 => ?_)
      refine or_iload C 0 rfl dX8_tries_69 ?_
      refine or_iald C dX8_tries_71 (fun x11 => ?_)
      refine or_iald C dX8_tries_72 (fun x12 => ?_)
      refine or_istore C (fun x13 => [(6, xi x13), (5, xi x6), (0, xr (some o)), (1, xi v1), (2, xi v2), (3, xi v3), (4, xi v4)]) (fun _ => rfl) (by decide) dX8_tries_73 (fun x13 => ?_)
      refine or_iload C 6 rfl dX8_tries_75 ?_
      refine or_if_ne C 108 dX8_tries_77 (by decide) ?_ ?_
      · refine or_aload_n C 2 rfl dX8_tries_80 ?_
        refine or_getR C 8 25 rfl (by decide) rfl (by decide) u_X8_tries_8 (by decide) k_X8_tries_f78 (by decide +kernel) dX8_tries_81 (fun x24 => ?_)
        refine or_iload_n C 3 rfl dX8_tries_84 ?_
        refine or_zald C dX8_tries_85 (fun x25 => ?_)
        refine or_if_ne C 100 dX8_tries_86 (by decide) ?_ ?_
        · refine or_aload_n C 2 rfl dX8_tries_89 ?_
          refine or_getR C 8 26 rfl (by decide) rfl (by decide) u_X8_tries_8 (by decide) k_X8_tries_f81 (by decide +kernel) dX8_tries_90 (fun x26 => ?_)
          refine or_iload_n C 3 rfl dX8_tries_93 ?_
          refine or_iald C dX8_tries_94 (fun x27 => ?_)
          refine or_iload C 0 rfl dX8_tries_95 ?_
          refine or_icmp_ne C 104 dX8_tries_97 (by decide) ?_ ?_
          · refine or_sub [2, 3, 4, 5, 6, 1] rfl ?_
            exact w_X8_tries_100 C hl h0 h o v1 v2 v3 v4 x6
          · refine or_iconst C (v := (0 : Int32)) dX8_tries_104 (by decide) ?_
            refine or_goto C 155 dX8_tries_105 (by decide) ?_
            refine or_sub [2, 3, 4, 5, 6, 1] rfl ?_
            exact w_X8_tries_155 C hl h0 h o v1 v2 v3 v4 x6 (0 : Int32)
        · refine or_sub [2, 3, 4, 5, 6, 1] rfl ?_
          exact w_X8_tries_100 C hl h0 h o v1 v2 v3 v4 x6
      · refine or_aload_n C 2 rfl dX8_tries_108 ?_
        refine or_getR C 8 8 rfl (by decide) rfl (by decide) u_X8_tries_8 (by decide) k_X8_tries_f26 (by decide +kernel) dX8_tries_109 (fun x14 => ?_)
        refine or_aload_n C 2 rfl dX8_tries_112 ?_
        refine or_getR C 8 51 rfl (by decide) rfl (by decide) u_X8_tries_8 (by decide) k_X8_tries_f124 (by decide +kernel) dX8_tries_113 (fun x15 => ?_)
        refine or_iload C 6 rfl dX8_tries_116 ?_
        refine or_iconst C (v := (1 : Int32)) dX8_tries_118 (by decide) ?_
        refine or_isub C dX8_tries_119 ?_
        refine or_iald C dX8_tries_120 (fun x16 => ?_)
        refine or_iald C dX8_tries_121 (fun x17 => ?_)
        refine or_iconst C (v := (2 : Int32)) dX8_tries_122 (by decide) ?_
        refine or_icmp_ne C 154 dX8_tries_123 (by decide) ?_ ?_
        · refine or_aload_n C 2 rfl dX8_tries_126 ?_
          refine or_getR C 8 6 rfl (by decide) rfl (by decide) u_X8_tries_8 (by decide) k_X8_tries_f23 (by decide +kernel) dX8_tries_127 (fun x18 => ?_)
          refine or_aload_n C 2 rfl dX8_tries_130 ?_
          refine or_getR C 8 9 rfl (by decide) rfl (by decide) u_X8_tries_8 (by decide) k_X8_tries_f29 (by decide +kernel) dX8_tries_131 (fun x19 => ?_)
          refine or_aload_n C 2 rfl dX8_tries_134 ?_
          refine or_getR C 8 51 rfl (by decide) rfl (by decide) u_X8_tries_8 (by decide) k_X8_tries_f124 (by decide +kernel) dX8_tries_135 (fun x20 => ?_)
          refine or_iload C 6 rfl dX8_tries_138 ?_
          refine or_iconst C (v := (1 : Int32)) dX8_tries_140 (by decide) ?_
          refine or_isub C dX8_tries_141 ?_
          refine or_iald C dX8_tries_142 (fun x21 => ?_)
          refine or_iald C dX8_tries_143 (fun x22 => ?_)
          refine or_iald C dX8_tries_144 (fun x23 => ?_)
          refine or_iload C 0 rfl dX8_tries_145 ?_
          refine or_icmp_ne C 154 dX8_tries_147 (by decide) ?_ ?_
          · refine or_iconst C (v := (1 : Int32)) dX8_tries_150 (by decide) ?_
            refine or_goto C 155 dX8_tries_151 (by decide) ?_
            refine or_sub [2, 3, 4, 5, 6, 1] rfl ?_
            exact w_X8_tries_155 C hl h0 h o v1 v2 v3 v4 x6 (1 : Int32)
          · refine or_sub [2, 3, 4, 5, 6, 1] rfl ?_
            exact w_X8_tries_154 C hl h0 h o v1 v2 v3 v4 x6
        · refine or_sub [2, 3, 4, 5, 6, 1] rfl ?_
          exact w_X8_tries_154 C hl h0 h o v1 v2 v3 v4 x6
    · refine or_sub [1, 2, 3, 4, 5, 0] rfl ?_
      exact w_X8_tries_165 C hl h0 h o v1 v2 v3 v4 x6
theorem w_X8_tries_32 {G : oh_G} {l : Launch} (C : oh_C G cX8_tries wsX8_tries RX8 rmX8_tries 8) (hl : G.1.2.1 = l) (h0 : oh_H) (h : oh_H) (o : Nat) (v1 : Int32) (v2 : Int32) (v3 : Int32) (v4 : Int32) : oh_J (oh_TV h0 0 0 none G) (f_X8_tries_32 h o v1 v2 v3 v4) (oh_V G 0 0 h 32 [(0, xr (some o)), (1, xi v1), (2, xi v2), (3, xi v3), (4, xi v4)] []) := by
  unfold f_X8_tries_32
  exact oj_loop (P := pv_X8_tries_32 G o v1) (fun s => wb_X8_tries_32 C hl h0 s.1 o v1 s.2.1 s.2.2.1 s.2.2.2) 1000000 (h, v2, v3, v4)
set_option maxHeartbeats 4000000 in
set_option maxRecDepth 100000 in
theorem w_X8_tries_26 {G : oh_G} {l : Launch} (C : oh_C G cX8_tries wsX8_tries RX8 rmX8_tries 8) (hl : G.1.2.1 = l) (h0 : oh_H) (h : oh_H) (o : Nat) (v1 : Int32) (s0 : Int32) : oh_J (oh_TV h0 0 0 none G) (f_X8_tries_26 h o v1 s0) (oh_V G 0 0 h 26 [(0, xr (some o)), (1, xi v1)] [xi s0]) := by
  unfold f_X8_tries_26
  refine or_istore_n C (fun x1 => [(2, xi x1), (0, xr (some o)), (1, xi v1)]) (fun _ => rfl) (by decide) dX8_tries_26 (fun x1 => ?_)
  refine or_iconst C (v := (0 : Int32)) dX8_tries_27 (by decide) ?_
  refine or_istore_n C (fun x2 => [(3, xi x2), (2, xi x1), (0, xr (some o)), (1, xi v1)]) (fun _ => rfl) (by decide) dX8_tries_28 (fun x2 => ?_)
  refine or_iconst C (v := (0 : Int32)) dX8_tries_29 (by decide) ?_
  refine or_istore C (fun x3 => [(4, xi x3), (3, xi x2), (2, xi x1), (0, xr (some o)), (1, xi v1)]) (fun _ => rfl) (by decide) dX8_tries_30 (fun x3 => ?_)
  refine or_sub [3, 4, 2, 1, 0] rfl ?_
  exact w_X8_tries_32 C hl h0 h o v1 x1 x2 x3
set_option maxHeartbeats 4000000 in
set_option maxRecDepth 100000 in
theorem w_X8_tries_0 {G : oh_G} {l : Launch} (C : oh_C G cX8_tries wsX8_tries RX8 rmX8_tries 8) (hl : G.1.2.1 = l) (h0 : oh_H) (h : oh_H) (o : Nat) (v1 : Int32) : oh_J (oh_TV h0 0 0 none G) (f_X8_tries h o v1) (oh_V G 0 0 h 0 [(0, xr (some o)), (1, xi v1)] []) := by
  unfold f_X8_tries
  refine or_aload_n C 0 rfl dX8_tries_0 ?_
  refine or_getI C 8 0 rfl (by decide) rfl (by decide) u_X8_tries_8 (by decide) k_X8_tries_f127 (by decide +kernel) dX8_tries_1 (fun x1 => ?_)
  refine or_aload_n C 0 rfl dX8_tries_4 ?_
  refine or_getR C 8 21 rfl (by decide) rfl (by decide) u_X8_tries_8 (by decide) k_X8_tries_f66 (by decide +kernel) dX8_tries_5 (fun x2 => ?_)
  refine or_iload_n C 1 rfl dX8_tries_8 ?_
  refine or_iald C dX8_tries_9 (fun x3 => ?_)
  refine or_icmp_le C 20 dX8_tries_10 (by decide) ?_ ?_
  · refine or_aload_n C 0 rfl dX8_tries_20 ?_
    refine or_getR C 8 21 rfl (by decide) rfl (by decide) u_X8_tries_8 (by decide) k_X8_tries_f66 (by decide +kernel) dX8_tries_21 (fun x4 => ?_)
    refine or_iload_n C 1 rfl dX8_tries_24 ?_
    refine or_iald C dX8_tries_25 (fun x5 => ?_)
    refine or_sub [0, 1] rfl ?_
    exact w_X8_tries_26 C hl h0 h o v1 x5
  · refine or_aload_n C 0 rfl dX8_tries_13 ?_
    refine or_getI C 8 0 rfl (by decide) rfl (by decide) u_X8_tries_8 (by decide) k_X8_tries_f127 (by decide +kernel) dX8_tries_14 (fun x6 => ?_)
    refine or_goto C 26 dX8_tries_17 (by decide) ?_
    refine or_sub [0, 1] rfl ?_
    exact w_X8_tries_26 C hl h0 h o v1 x6
theorem m_X8_tries (l : Launch) (h : oh_H) (o : Nat) (v1 : Int32) (p : oh_H) (hf : f_X8_tries h o v1 = some p) : oh_M l yX8_tries wsX8_tries rmX8_tries 0 0 [xr (some o), xi v1] h none p :=
  oh_met (cc := cX8_tries) (maxL := 8) (ret := none) (by decide) rfl (Nat.le_of_ble_eq_true rfl) (fun G C hl hN E => w_X8_tries_0 C hl h h o v1 p hf E)
