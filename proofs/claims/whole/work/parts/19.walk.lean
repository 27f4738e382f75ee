/-! X8_mill -/
theorem k_X8_mill_f69 : Cond.fieldLink RX8 69 "OilPressModel" "inBin" "[I" ∈ wsX8_mill := List.mem_of_getElem? (i := 1) (by decide +kernel)
theorem u_X8_mill_8 : ∀ w ∈ u_ws RX8 TX8 54, w ∈ wsX8_mill := fun w h => List.mem_cons_of_mem _ (List.mem_append_right _ (h))
theorem k_X8_mill_f60 : Cond.fieldLink RX8 60 "OilPressModel" "least" "[I" ∈ wsX8_mill := List.mem_of_getElem? (i := 2) (by decide +kernel)
theorem k_X8_mill_f63 : Cond.fieldLink RX8 63 "OilPressModel" "rate" "[I" ∈ wsX8_mill := List.mem_of_getElem? (i := 3) (by decide +kernel)
abbrev rmX8_mill : Room := { frames := 2, cells := 0, slots := 0, locals := 43 }
def f_X8_mill_39 (h : oh_H) (o : Nat) : Option (Int32 × oh_H) :=
  oh_bz (0 : Int32) (some ((0 : Int32), h))
def f_X8_mill (h : oh_H) (o : Nat) (v1 : Int32) (v2 : Int32) (v3 : Int32) : Option (Int32 × oh_H) :=
  oh_rc h (some o) 9 fun o2 => (f_X8_isMill h o2 v1).bind fun p3 => if p3 = 0 then (f_X8_mill_39 h o) else ((oh_gR h (some o) 534).bind fun x5 => (oh_aI h x5 20 v1).bind fun x6 => if 0 < x6 then (f_X8_mill_39 h o) else ((f_X8_in h v2 (0 : Int32) (20000 : Int32)).bind fun p7 => if p7 = 0 then (f_X8_mill_39 h o) else ((f_X8_in h v3 (1 : Int32) (5000 : Int32)).bind fun p9 => if p9 = 0 then (f_X8_mill_39 h o) else ((oh_gR h (some o) 531).bind fun x11 => (oh_tI h x11 20 v1 v2).bind fun h12 => (oh_gR h12 (some o) 532).bind fun x13 => (oh_tI h12 x13 20 v1 v3).bind fun h14 => oh_bz (1 : Int32) (some ((1 : Int32), h14))))))
set_option maxHeartbeats 4000000 in
set_option maxRecDepth 100000 in
theorem w_X8_mill_39 {G : oh_G} {l : Launch} (C : oh_C G cX8_mill wsX8_mill RX8 rmX8_mill 4) (hl : G.1.2.1 = l) (h0 : oh_H) (h : oh_H) (o : Nat) : oh_J (oh_TW h0 xi 0 0 (some .boolean) G) (f_X8_mill_39 h o) (oh_V G 0 0 h 39 [] []) := by
  unfold f_X8_mill_39
  refine or_iconst C (v := (0 : Int32)) dX8_mill_39 (by decide) ?_
  exact or_zret C ⟨Nat.le_of_ble_eq_true rfl, Nat.le_of_ble_eq_true rfl⟩ dX8_mill_40
set_option maxHeartbeats 4000000 in
set_option maxRecDepth 100000 in
theorem w_X8_mill_0 {G : oh_G} {l : Launch} (C : oh_C G cX8_mill wsX8_mill RX8 rmX8_mill 4) (hl : G.1.2.1 = l) (h0 : oh_H) (h : oh_H) (o : Nat) (v1 : Int32) (v2 : Int32) (v3 : Int32) : oh_J (oh_TW h0 xi 0 0 (some .boolean) G) (f_X8_mill h o v1 v2 v3) (oh_V G 0 0 h 0 [(0, xr (some o)), (1, xi v1), (2, xi v2), (3, xi v3)] []) := by
  unfold f_X8_mill
  refine or_aload_n C 0 rfl dX8_mill_0 ?_
  refine or_iload_n C 1 rfl dX8_mill_1 ?_
  refine oj_rcs (fun q1 => ?_)
  refine oj_bind (fun p3 z4 => ?_)
  refine oj_v (P := oh_V G 0 0 h 5 [(0, xr (some o)), (1, xi v1), (2, xi v2), (3, xi v3)] [xi p3]) (fun k => or_callV C 1 hl (m_X8_isMill _ h o v1 p3 z4) gX8_mill_X8_isMill rfl rfl rfl (by decide +kernel) ⟨Nat.le_of_ble_eq_true rfl, Nat.le_of_ble_eq_true rfl⟩ q1 rfl (by decide) (Nat.le_of_ble_eq_true rfl) dX8_mill_2 ⟨Nat.le_of_ble_eq_true rfl, Nat.le_of_ble_eq_true rfl⟩ rfl rfl k) ?_
  refine or_if_eq C 39 dX8_mill_5 (by decide) ?_ ?_
  · refine or_sub [] rfl ?_
    exact w_X8_mill_39 C hl h0 h o
  · refine or_aload_n C 0 rfl dX8_mill_8 ?_
    refine or_getR C 8 22 rfl (by decide) rfl (by decide) u_X8_mill_8 (by decide) k_X8_mill_f69 (by decide +kernel) dX8_mill_9 (fun x5 => ?_)
    refine or_iload_n C 1 rfl dX8_mill_12 ?_
    refine or_iald C dX8_mill_13 (fun x6 => ?_)
    refine or_if_gt C 39 dX8_mill_14 (by decide) ?_ ?_
    · refine or_sub [] rfl ?_
      exact w_X8_mill_39 C hl h0 h o
    · refine or_iload_n C 2 rfl dX8_mill_17 ?_
      refine or_iconst C (v := (0 : Int32)) dX8_mill_18 (by decide) ?_
      refine or_sipush C (v := (20000 : Int32)) dX8_mill_19 (by decide) ?_
      refine oj_bind (fun p7 z8 => ?_)
      refine oj_v (P := oh_V G 0 0 h 25 [(0, xr (some o)), (1, xi v1), (2, xi v2), (3, xi v3)] [xi p7]) (fun k => or_callS C 3 hl (m_X8_in _ h v2 (0 : Int32) (20000 : Int32) p7 z8) gX8_mill_X8_in rfl rfl rfl (by decide +kernel) ⟨Nat.le_of_ble_eq_true rfl, Nat.le_of_ble_eq_true rfl⟩ (Nat.le_of_ble_eq_true rfl) dX8_mill_22 ⟨Nat.le_of_ble_eq_true rfl, Nat.le_of_ble_eq_true rfl⟩ rfl rfl k) ?_
      refine or_if_eq C 39 dX8_mill_25 (by decide) ?_ ?_
      · refine or_sub [] rfl ?_
        exact w_X8_mill_39 C hl h0 h o
      · refine or_iload_n C 3 rfl dX8_mill_28 ?_
        refine or_iconst C (v := (1 : Int32)) dX8_mill_29 (by decide) ?_
        refine or_sipush C (v := (5000 : Int32)) dX8_mill_30 (by decide) ?_
        refine oj_bind (fun p9 z10 => ?_)
        refine oj_v (P := oh_V G 0 0 h 36 [(0, xr (some o)), (1, xi v1), (2, xi v2), (3, xi v3)] [xi p9]) (fun k => or_callS C 3 hl (m_X8_in _ h v3 (1 : Int32) (5000 : Int32) p9 z10) gX8_mill_X8_in rfl rfl rfl (by decide +kernel) ⟨Nat.le_of_ble_eq_true rfl, Nat.le_of_ble_eq_true rfl⟩ (Nat.le_of_ble_eq_true rfl) dX8_mill_33 ⟨Nat.le_of_ble_eq_true rfl, Nat.le_of_ble_eq_true rfl⟩ rfl rfl k) ?_
        refine or_if_ne C 41 dX8_mill_36 (by decide) ?_ ?_
        · refine or_sub [] rfl ?_
          exact w_X8_mill_39 C hl h0 h o
        · refine or_aload_n C 0 rfl dX8_mill_41 ?_
          refine or_getR C 8 19 rfl (by decide) rfl (by decide) u_X8_mill_8 (by decide) k_X8_mill_f60 (by decide +kernel) dX8_mill_42 (fun x11 => ?_)
          refine or_iload_n C 1 rfl dX8_mill_45 ?_
          refine or_iload_n C 2 rfl dX8_mill_46 ?_
          refine or_iast C dX8_mill_47 (fun h12 => ?_)
          refine or_aload_n C 0 rfl dX8_mill_48 ?_
          refine or_getR C 8 20 rfl (by decide) rfl (by decide) u_X8_mill_8 (by decide) k_X8_mill_f63 (by decide +kernel) dX8_mill_49 (fun x13 => ?_)
          refine or_iload_n C 1 rfl dX8_mill_52 ?_
          refine or_iload_n C 3 rfl dX8_mill_53 ?_
          refine or_iast C dX8_mill_54 (fun h14 => ?_)
          refine or_iconst C (v := (1 : Int32)) dX8_mill_55 (by decide) ?_
          exact or_zret C ⟨Nat.le_of_ble_eq_true rfl, Nat.le_of_ble_eq_true rfl⟩ dX8_mill_56
theorem m_X8_mill (l : Launch) (h : oh_H) (o : Nat) (v1 : Int32) (v2 : Int32) (v3 : Int32) (p : Int32 × oh_H) (hf : f_X8_mill h o v1 v2 v3 = some p) : oh_M l yX8_mill wsX8_mill rmX8_mill 0 0 [xr (some o), xi v1, xi v2, xi v3] h (some (xi p.1)) p.2 :=
  oh_met (cc := cX8_mill) (maxL := 4) (ret := (some .boolean)) (by decide) rfl (Nat.le_of_ble_eq_true rfl) (fun G C hl hN E => w_X8_mill_0 C hl h h o v1 v2 v3 p hf E)
/-! X8_isMixed -/
theorem k_X8_isMixed_f26 : Cond.fieldLink RX8 26 "OilPressModel" "kind" "[I" ∈ wsX8_isMixed := List.mem_of_getElem? (i := 1) (by decide +kernel)
theorem u_X8_isMixed_8 : ∀ w ∈ u_ws RX8 TX8 54, w ∈ wsX8_isMixed := fun w h => List.mem_cons_of_mem _ (List.mem_append_right _ (h))
theorem k_X8_isMixed_f56 : Cond.fieldLink RX8 56 "OilPressModel" "wishes" "[Z" ∈ wsX8_isMixed := List.mem_of_getElem? (i := 2) (by decide +kernel)
abbrev rmX8_isMixed : Room := { frames := 0, cells := 0, slots := 0, locals := 0 }
def f_X8_isMixed_43 (h : oh_H) (o : Nat) (s0 : Int32) : Option (Int32) :=
  oh_bz s0 (some s0)
def f_X8_isMixed_38 (h : oh_H) (o : Nat) : Option (Int32) :=
  f_X8_isMixed_43 h o (1 : Int32)
def f_X8_isMixed_42 (h : oh_H) (o : Nat) : Option (Int32) :=
  f_X8_isMixed_43 h o (0 : Int32)
def f_X8_isMixed (h : oh_H) (o : Nat) (v1 : Int32) : Option (Int32) :=
  (oh_gR h (some o) 520).bind fun x1 => (oh_aI h x1 20 v1).bind fun x2 => if x2 = (1 : Int32) then (f_X8_isMixed_38 h o) else ((oh_gR h (some o) 520).bind fun x3 => (oh_aI h x3 20 v1).bind fun x4 => if x4 = (4 : Int32) then (f_X8_isMixed_38 h o) else ((oh_gR h (some o) 520).bind fun x5 => (oh_aI h x5 20 v1).bind fun x6 => if x6 = 0 then ((oh_gR h (some o) 530).bind fun x7 => (oh_aI h x7 22 v1).bind fun x8 => if x8 = 0 then (f_X8_isMixed_42 h o) else (f_X8_isMixed_38 h o)) else (f_X8_isMixed_42 h o)))
set_option maxHeartbeats 4000000 in
set_option maxRecDepth 100000 in
theorem w_X8_isMixed_43 {G : oh_G} {l : Launch} (C : oh_C G cX8_isMixed wsX8_isMixed RX8 rmX8_isMixed 2) (hl : G.1.2.1 = l) (h : oh_H) (o : Nat) (s0 : Int32) : oh_J (oh_TR h xi (some .boolean) G) (f_X8_isMixed_43 h o s0) (oh_V G 0 0 h 43 [] [xi s0]) := by
  unfold f_X8_isMixed_43
  exact or_zretR C dX8_isMixed_43
set_option maxHeartbeats 4000000 in
set_option maxRecDepth 100000 in
theorem w_X8_isMixed_38 {G : oh_G} {l : Launch} (C : oh_C G cX8_isMixed wsX8_isMixed RX8 rmX8_isMixed 2) (hl : G.1.2.1 = l) (h : oh_H) (o : Nat) : oh_J (oh_TR h xi (some .boolean) G) (f_X8_isMixed_38 h o) (oh_V G 0 0 h 38 [] []) := by
  unfold f_X8_isMixed_38
  refine or_iconst C (v := (1 : Int32)) dX8_isMixed_38 (by decide) ?_
  refine or_goto C 43 dX8_isMixed_39 (by decide) ?_
  refine or_sub [] rfl ?_
  exact w_X8_isMixed_43 C hl h o (1 : Int32)
set_option maxHeartbeats 4000000 in
set_option maxRecDepth 100000 in
theorem w_X8_isMixed_42 {G : oh_G} {l : Launch} (C : oh_C G cX8_isMixed wsX8_isMixed RX8 rmX8_isMixed 2) (hl : G.1.2.1 = l) (h : oh_H) (o : Nat) : oh_J (oh_TR h xi (some .boolean) G) (f_X8_isMixed_42 h o) (oh_V G 0 0 h 42 [] []) := by
  unfold f_X8_isMixed_42
  refine or_iconst C (v := (0 : Int32)) dX8_isMixed_42 (by decide) ?_
  refine or_sub [] rfl ?_
  exact w_X8_isMixed_43 C hl h o (0 : Int32)
set_option maxHeartbeats 4000000 in
set_option maxRecDepth 100000 in
theorem w_X8_isMixed_0 {G : oh_G} {l : Launch} (C : oh_C G cX8_isMixed wsX8_isMixed RX8 rmX8_isMixed 2) (hl : G.1.2.1 = l) (h : oh_H) (o : Nat) (v1 : Int32) : oh_J (oh_TR h xi (some .boolean) G) (f_X8_isMixed h o v1) (oh_V G 0 0 h 0 [(0, xr (some o)), (1, xi v1)] []) := by
  unfold f_X8_isMixed
  refine or_aload_n C 0 rfl dX8_isMixed_0 ?_
  refine or_getR C 8 8 rfl (by decide) rfl (by decide) u_X8_isMixed_8 (by decide) k_X8_isMixed_f26 (by decide +kernel) dX8_isMixed_1 (fun x1 => ?_)
  refine or_iload_n C 1 rfl dX8_isMixed_4 ?_
  refine or_iald C dX8_isMixed_5 (fun x2 => ?_)
  refine or_iconst C (v := (1 : Int32)) dX8_isMixed_6 (by decide) ?_
  refine or_icmp_eq C 38 dX8_isMixed_7 (by decide) ?_ ?_
  · refine or_sub [] rfl ?_
    exact w_X8_isMixed_38 C hl h o
  · refine or_aload_n C 0 rfl dX8_isMixed_10 ?_
    refine or_getR C 8 8 rfl (by decide) rfl (by decide) u_X8_isMixed_8 (by decide) k_X8_isMixed_f26 (by decide +kernel) dX8_isMixed_11 (fun x3 => ?_)
    refine or_iload_n C 1 rfl dX8_isMixed_14 ?_
    refine or_iald C dX8_isMixed_15 (fun x4 => ?_)
    refine or_iconst C (v := (4 : Int32)) dX8_isMixed_16 (by decide) ?_
    refine or_icmp_eq C 38 dX8_isMixed_17 (by decide) ?_ ?_
    · refine or_sub [] rfl ?_
      exact w_X8_isMixed_38 C hl h o
    · refine or_aload_n C 0 rfl dX8_isMixed_20 ?_
      refine or_getR C 8 8 rfl (by decide) rfl (by decide) u_X8_isMixed_8 (by decide) k_X8_isMixed_f26 (by decide +kernel) dX8_isMixed_21 (fun x5 => ?_)
      refine or_iload_n C 1 rfl dX8_isMixed_24 ?_
      refine or_iald C dX8_isMixed_25 (fun x6 => ?_)
      refine or_if_ne C 42 dX8_isMixed_26 (by decide) ?_ ?_
      · refine or_aload_n C 0 rfl dX8_isMixed_29 ?_
        refine or_getR C 8 18 rfl (by decide) rfl (by decide) u_X8_isMixed_8 (by decide) k_X8_isMixed_f56 (by decide +kernel) dX8_isMixed_30 (fun x7 => ?_)
        refine or_iload_n C 1 rfl dX8_isMixed_33 ?_
        refine or_zald C dX8_isMixed_34 (fun x8 => ?_)
        refine or_if_eq C 42 dX8_isMixed_35 (by decide) ?_ ?_
        · refine or_sub [] rfl ?_
          exact w_X8_isMixed_42 C hl h o
        · refine or_sub [] rfl ?_
          exact w_X8_isMixed_38 C hl h o
      · refine or_sub [] rfl ?_
        exact w_X8_isMixed_42 C hl h o
theorem m_X8_isMixed (l : Launch) (h : oh_H) (o : Nat) (v1 : Int32) (p : Int32) (hf : f_X8_isMixed h o v1 = some p) : oh_M l yX8_isMixed wsX8_isMixed rmX8_isMixed 0 0 [xr (some o), xi v1] h (some (xi p)) h :=
  oh_met (cc := cX8_isMixed) (maxL := 2) (ret := (some .boolean)) (by decide) rfl (Nat.le_of_ble_eq_true rfl) (fun G C hl hN E => w_X8_isMixed_0 C hl h o v1 p hf E)
/-! X8_agree -/
theorem k_X8_agree_f32 : Cond.fieldLink RX8 32 "OilPressModel" "came" "[I" ∈ wsX8_agree := List.mem_of_getElem? (i := 5) (by decide +kernel)
theorem u_X8_agree_8 : ∀ w ∈ u_ws RX8 TX8 54, w ∈ wsX8_agree := fun w h => List.mem_cons_of_mem _ (List.mem_append_right _ (h))
theorem k_X8_agree_f26 : Cond.fieldLink RX8 26 "OilPressModel" "kind" "[I" ∈ wsX8_agree := List.mem_of_getElem? (i := 1) (by decide +kernel)
theorem k_X8_agree_f56 : Cond.fieldLink RX8 56 "OilPressModel" "wishes" "[Z" ∈ wsX8_agree := List.mem_of_getElem? (i := 4) (by decide +kernel)
theorem k_X8_agree_f23 : Cond.fieldLink RX8 23 "OilPressModel" "like" "[I" ∈ wsX8_agree := List.mem_of_getElem? (i := 2) (by decide +kernel)
theorem k_X8_agree_f29 : Cond.fieldLink RX8 29 "OilPressModel" "grove" "[I" ∈ wsX8_agree := List.mem_of_getElem? (i := 3) (by decide +kernel)
abbrev rmX8_agree : Room := { frames := 1, cells := 0, slots := 0, locals := 22 }
def f_X8_agree_140 (h : oh_H) (o : Nat) (s0 : Int32) : Option (Int32) :=
  oh_bz s0 (some s0)
def f_X8_agree_139 (h : oh_H) (o : Nat) : Option (Int32) :=
  f_X8_agree_140 h o (0 : Int32)
def f_X8_agree_95 (h : oh_H) (o : Nat) (v1 : Int32) (v2 : Int32) : Option (Int32) :=
  (oh_gR h (some o) 522).bind fun x1 => (oh_aI h x1 20 v1).bind fun x2 => (oh_gR h (some o) 522).bind fun x3 => (oh_aI h x3 20 v2).bind fun x4 => oh_lt (x2 - x4) fun x5 => oh_rc h (some o) 9 fun o7 => (f_X8_isMixed h o7 v1).bind fun p8 => if p8 = 0 then (f_X8_agree_139 h o) else (oh_rc h (some o) 9 fun o11 => (f_X8_isMixed h o11 v2).bind fun p12 => if p12 = 0 then (f_X8_agree_139 h o) else ((f_X8_in h x5 (-3 : Int32) (3 : Int32)).bind fun p14 => if p14 = 0 then (f_X8_agree_139 h o) else (f_X8_agree_140 h o (1 : Int32))))
def f_X8_agree_94 (h : oh_H) (o : Nat) (s0 : Int32) : Option (Int32) :=
  oh_bz s0 (some s0)
def f_X8_agree_93 (h : oh_H) (o : Nat) : Option (Int32) :=
  f_X8_agree_94 h o (0 : Int32)
def f_X8_agree_51 (h : oh_H) (o : Nat) (v1 : Int32) (v2 : Int32) : Option (Int32) :=
  (oh_gR h (some o) 520).bind fun x1 => (oh_aI h x1 20 v1).bind fun x2 => if x2 = (3 : Int32) then ((oh_gR h (some o) 520).bind fun x3 => (oh_aI h x3 20 v2).bind fun x4 => if x4 = (3 : Int32) then ((oh_gR h (some o) 530).bind fun x5 => (oh_aI h x5 22 v1).bind fun x6 => if x6 = 0 then (f_X8_agree_93 h o) else ((oh_gR h (some o) 530).bind fun x7 => (oh_aI h x7 22 v2).bind fun x8 => if x8 = 0 then (f_X8_agree_93 h o) else (f_X8_agree_94 h o (1 : Int32)))) else (f_X8_agree_95 h o v1 v2)) else (f_X8_agree_95 h o v1 v2)
def f_X8_agree_50 (h : oh_H) (o : Nat) (s0 : Int32) : Option (Int32) :=
  oh_bz s0 (some s0)
def f_X8_agree (h : oh_H) (o : Nat) (v1 : Int32) (v2 : Int32) : Option (Int32) :=
  (oh_gR h (some o) 520).bind fun x1 => (oh_aI h x1 20 v1).bind fun x2 => if x2 = (2 : Int32) then ((oh_gR h (some o) 520).bind fun x3 => (oh_aI h x3 20 v2).bind fun x4 => if x4 = (2 : Int32) then ((oh_gR h (some o) 518).bind fun x5 => (oh_gR h (some o) 521).bind fun x6 => (oh_aI h x6 20 v1).bind fun x7 => (oh_aI h x5 20 x7).bind fun x8 => (oh_gR h (some o) 518).bind fun x9 => (oh_gR h (some o) 521).bind fun x10 => (oh_aI h x10 20 v2).bind fun x11 => (oh_aI h x9 20 x11).bind fun x12 => if x8 = x12 then (f_X8_agree_50 h o (1 : Int32)) else (f_X8_agree_50 h o (0 : Int32))) else (f_X8_agree_51 h o v1 v2)) else (f_X8_agree_51 h o v1 v2)
set_option maxHeartbeats 4000000 in
set_option maxRecDepth 100000 in
theorem w_X8_agree_140 {G : oh_G} {l : Launch} (C : oh_C G cX8_agree wsX8_agree RX8 rmX8_agree 4) (hl : G.1.2.1 = l) (h : oh_H) (o : Nat) (s0 : Int32) : oh_J (oh_TR h xi (some .boolean) G) (f_X8_agree_140 h o s0) (oh_V G 0 0 h 140 [] [xi s0]) := by
  unfold f_X8_agree_140
  exact or_zretR C dX8_agree_140
set_option maxHeartbeats 4000000 in
set_option maxRecDepth 100000 in
theorem w_X8_agree_139 {G : oh_G} {l : Launch} (C : oh_C G cX8_agree wsX8_agree RX8 rmX8_agree 4) (hl : G.1.2.1 = l) (h : oh_H) (o : Nat) : oh_J (oh_TR h xi (some .boolean) G) (f_X8_agree_139 h o) (oh_V G 0 0 h 139 [] []) := by
  unfold f_X8_agree_139
  refine or_iconst C (v := (0 : Int32)) dX8_agree_139 (by decide) ?_
  refine or_sub [] rfl ?_
  exact w_X8_agree_140 C hl h o (0 : Int32)
set_option maxHeartbeats 4000000 in
set_option maxRecDepth 100000 in
theorem w_X8_agree_95 {G : oh_G} {l : Launch} (C : oh_C G cX8_agree wsX8_agree RX8 rmX8_agree 4) (hl : G.1.2.1 = l) (h : oh_H) (o : Nat) (v1 : Int32) (v2 : Int32) : oh_J (oh_TR h xi (some .boolean) G) (f_X8_agree_95 h o v1 v2) (oh_V G 0 0 h 95 [(0, xr (some o)), (1, xi v1), (2, xi v2)] []) := by
  unfold f_X8_agree_95
  refine or_aload_n C 0 rfl dX8_agree_95 ?_
  refine or_getR C 8 10 rfl (by decide) rfl (by decide) u_X8_agree_8 (by decide) k_X8_agree_f32 (by decide +kernel) dX8_agree_96 (fun x1 => ?_)
  refine or_iload_n C 1 rfl dX8_agree_99 ?_
  refine or_iald C dX8_agree_100 (fun x2 => ?_)
  refine or_aload_n C 0 rfl dX8_agree_101 ?_
  refine or_getR C 8 10 rfl (by decide) rfl (by decide) u_X8_agree_8 (by decide) k_X8_agree_f32 (by decide +kernel) dX8_agree_102 (fun x3 => ?_)
  refine or_iload_n C 2 rfl dX8_agree_105 ?_
  refine or_iald C dX8_agree_106 (fun x4 => ?_)
  refine or_isub C dX8_agree_107 ?_
  refine or_istore_n C (fun x5 => [(3, xi x5), (0, xr (some o)), (1, xi v1), (2, xi v2)]) (fun _ => rfl) (by decide) dX8_agree_108 (fun x5 => ?_)
  refine or_aload_n C 1 rfl dX8_agree_109 ?_
  refine or_iload_n C 2 rfl dX8_agree_110 ?_
  refine oj_rcs (fun q6 => ?_)
  refine oj_bind (fun p8 z9 => ?_)
  refine oj_v (P := oh_V G 0 0 h 114 [(3, xi x5), (0, xr (some o)), (1, xi v1), (2, xi v2)] [xi p8]) (fun k => or_callV C 1 hl (m_X8_isMixed _ h o v1 p8 z9) gX8_agree_X8_isMixed rfl rfl rfl (by decide +kernel) ⟨Nat.le_of_ble_eq_true rfl, Nat.le_of_ble_eq_true rfl⟩ q6 rfl (by decide) (Nat.le_of_ble_eq_true rfl) dX8_agree_111 ⟨Nat.le_of_ble_eq_true rfl, Nat.le_of_ble_eq_true rfl⟩ rfl rfl k) ?_
  refine or_if_eq C 139 dX8_agree_114 (by decide) ?_ ?_
  · refine or_sub [] rfl ?_
    exact w_X8_agree_139 C hl h o
  · refine or_aload_n C 1 rfl dX8_agree_117 ?_
    refine or_iload_n C 3 rfl dX8_agree_118 ?_
    refine oj_rcs (fun q10 => ?_)
    refine oj_bind (fun p12 z13 => ?_)
    refine oj_v (P := oh_V G 0 0 h 122 [(3, xi x5), (0, xr (some o)), (1, xi v1), (2, xi v2)] [xi p12]) (fun k => or_callV C 1 hl (m_X8_isMixed _ h o v2 p12 z13) gX8_agree_X8_isMixed rfl rfl rfl (by decide +kernel) ⟨Nat.le_of_ble_eq_true rfl, Nat.le_of_ble_eq_true rfl⟩ q10 rfl (by decide) (Nat.le_of_ble_eq_true rfl) dX8_agree_119 ⟨Nat.le_of_ble_eq_true rfl, Nat.le_of_ble_eq_true rfl⟩ rfl rfl k) ?_
    refine or_if_eq C 139 dX8_agree_122 (by decide) ?_ ?_
    · refine or_sub [] rfl ?_
      exact w_X8_agree_139 C hl h o
    · refine or_iload_n C 0 rfl dX8_agree_125 ?_
      refine or_bipush C (v := (-3 : Int32)) dX8_agree_126 (by decide) ?_
      refine or_iconst C (v := (3 : Int32)) dX8_agree_128 (by decide) ?_
      refine oj_bind (fun p14 z15 => ?_)
      refine oj_v (P := oh_V G 0 0 h 132 [(3, xi x5), (0, xr (some o)), (1, xi v1), (2, xi v2)] [xi p14]) (fun k => or_callS C 3 hl (m_X8_in _ h x5 (-3 : Int32) (3 : Int32) p14 z15) gX8_agree_X8_in rfl rfl rfl (by decide +kernel) ⟨Nat.le_of_ble_eq_true rfl, Nat.le_of_ble_eq_true rfl⟩ (Nat.le_of_ble_eq_true rfl) dX8_agree_129 ⟨Nat.le_of_ble_eq_true rfl, Nat.le_of_ble_eq_true rfl⟩ rfl rfl k) ?_
      refine or_if_eq C 139 dX8_agree_132 (by decide) ?_ ?_
      · refine or_sub [] rfl ?_
        exact w_X8_agree_139 C hl h o
      · refine or_iconst C (v := (1 : Int32)) dX8_agree_135 (by decide) ?_
        refine or_goto C 140 dX8_agree_136 (by decide) ?_
        refine or_sub [] rfl ?_
        exact w_X8_agree_140 C hl h o (1 : Int32)
set_option maxHeartbeats 4000000 in
set_option maxRecDepth 100000 in
theorem w_X8_agree_94 {G : oh_G} {l : Launch} (C : oh_C G cX8_agree wsX8_agree RX8 rmX8_agree 4) (hl : G.1.2.1 = l) (h : oh_H) (o : Nat) (s0 : Int32) : oh_J (oh_TR h xi (some .boolean) G) (f_X8_agree_94 h o s0) (oh_V G 0 0 h 94 [] [xi s0]) := by
  unfold f_X8_agree_94
  exact or_zretR C dX8_agree_94
set_option maxHeartbeats 4000000 in
set_option maxRecDepth 100000 in
theorem w_X8_agree_93 {G : oh_G} {l : Launch} (C : oh_C G cX8_agree wsX8_agree RX8 rmX8_agree 4) (hl : G.1.2.1 = l) (h : oh_H) (o : Nat) : oh_J (oh_TR h xi (some .boolean) G) (f_X8_agree_93 h o) (oh_V G 0 0 h 93 [] []) := by
  unfold f_X8_agree_93
  refine or_iconst C (v := (0 : Int32)) dX8_agree_93 (by decide) ?_
  refine or_sub [] rfl ?_
  exact w_X8_agree_94 C hl h o (0 : Int32)
set_option maxHeartbeats 4000000 in
set_option maxRecDepth 100000 in
theorem w_X8_agree_51 {G : oh_G} {l : Launch} (C : oh_C G cX8_agree wsX8_agree RX8 rmX8_agree 4) (hl : G.1.2.1 = l) (h : oh_H) (o : Nat) (v1 : Int32) (v2 : Int32) : oh_J (oh_TR h xi (some .boolean) G) (f_X8_agree_51 h o v1 v2) (oh_V G 0 0 h 51 [(0, xr (some o)), (1, xi v1), (2, xi v2)] []) := by
  unfold f_X8_agree_51
  refine or_aload_n C 0 rfl dX8_agree_51 ?_
  refine or_getR C 8 8 rfl (by decide) rfl (by decide) u_X8_agree_8 (by decide) k_X8_agree_f26 (by decide +kernel) dX8_agree_52 (fun x1 => ?_)
  refine or_iload_n C 1 rfl dX8_agree_55 ?_
  refine or_iald C dX8_agree_56 (fun x2 => ?_)
  refine or_iconst C (v := (3 : Int32)) dX8_agree_57 (by decide) ?_
  refine or_icmp_ne C 95 dX8_agree_58 (by decide) ?_ ?_
  · refine or_aload_n C 0 rfl dX8_agree_61 ?_
    refine or_getR C 8 8 rfl (by decide) rfl (by decide) u_X8_agree_8 (by decide) k_X8_agree_f26 (by decide +kernel) dX8_agree_62 (fun x3 => ?_)
    refine or_iload_n C 2 rfl dX8_agree_65 ?_
    refine or_iald C dX8_agree_66 (fun x4 => ?_)
    refine or_iconst C (v := (3 : Int32)) dX8_agree_67 (by decide) ?_
    refine or_icmp_ne C 95 dX8_agree_68 (by decide) ?_ ?_
    · refine or_aload_n C 0 rfl dX8_agree_71 ?_
      refine or_getR C 8 18 rfl (by decide) rfl (by decide) u_X8_agree_8 (by decide) k_X8_agree_f56 (by decide +kernel) dX8_agree_72 (fun x5 => ?_)
      refine or_iload_n C 1 rfl dX8_agree_75 ?_
      refine or_zald C dX8_agree_76 (fun x6 => ?_)
      refine or_if_eq C 93 dX8_agree_77 (by decide) ?_ ?_
      · refine or_sub [] rfl ?_
        exact w_X8_agree_93 C hl h o
      · refine or_aload_n C 0 rfl dX8_agree_80 ?_
        refine or_getR C 8 18 rfl (by decide) rfl (by decide) u_X8_agree_8 (by decide) k_X8_agree_f56 (by decide +kernel) dX8_agree_81 (fun x7 => ?_)
        refine or_iload_n C 2 rfl dX8_agree_84 ?_
        refine or_zald C dX8_agree_85 (fun x8 => ?_)
        refine or_if_eq C 93 dX8_agree_86 (by decide) ?_ ?_
        · refine or_sub [] rfl ?_
          exact w_X8_agree_93 C hl h o
        · refine or_iconst C (v := (1 : Int32)) dX8_agree_89 (by decide) ?_
          refine or_goto C 94 dX8_agree_90 (by decide) ?_
          refine or_sub [] rfl ?_
          exact w_X8_agree_94 C hl h o (1 : Int32)
    · refine or_sub [0, 1, 2] rfl ?_
      exact w_X8_agree_95 C hl h o v1 v2
  · refine or_sub [0, 1, 2] rfl ?_
    exact w_X8_agree_95 C hl h o v1 v2
set_option maxHeartbeats 4000000 in
set_option maxRecDepth 100000 in
theorem w_X8_agree_50 {G : oh_G} {l : Launch} (C : oh_C G cX8_agree wsX8_agree RX8 rmX8_agree 4) (hl : G.1.2.1 = l) (h : oh_H) (o : Nat) (s0 : Int32) : oh_J (oh_TR h xi (some .boolean) G) (f_X8_agree_50 h o s0) (oh_V G 0 0 h 50 [] [xi s0]) := by
  unfold f_X8_agree_50
  exact or_zretR C dX8_agree_50
set_option maxHeartbeats 4000000 in
set_option maxRecDepth 100000 in
theorem w_X8_agree_0 {G : oh_G} {l : Launch} (C : oh_C G cX8_agree wsX8_agree RX8 rmX8_agree 4) (hl : G.1.2.1 = l) (h : oh_H) (o : Nat) (v1 : Int32) (v2 : Int32) : oh_J (oh_TR h xi (some .boolean) G) (f_X8_agree h o v1 v2) (oh_V G 0 0 h 0 [(0, xr (some o)), (1, xi v1), (2, xi v2)] []) := by
  unfold f_X8_agree
  refine or_aload_n C 0 rfl dX8_agree_0 ?_
  refine or_getR C 8 8 rfl (by decide) rfl (by decide) u_X8_agree_8 (by decide) k_X8_agree_f26 (by decide +kernel) dX8_agree_1 (fun x1 => ?_)
  refine or_iload_n C 1 rfl dX8_agree_4 ?_
  refine or_iald C dX8_agree_5 (fun x2 => ?_)
  refine or_iconst C (v := (2 : Int32)) dX8_agree_6 (by decide) ?_
  refine or_icmp_ne C 51 dX8_agree_7 (by decide) ?_ ?_
  · refine or_aload_n C 0 rfl dX8_agree_10 ?_
    refine or_getR C 8 8 rfl (by decide) rfl (by decide) u_X8_agree_8 (by decide) k_X8_agree_f26 (by decide +kernel) dX8_agree_11 (fun x3 => ?_)
    refine or_iload_n C 2 rfl dX8_agree_14 ?_
    refine or_iald C dX8_agree_15 (fun x4 => ?_)
    refine or_iconst C (v := (2 : Int32)) dX8_agree_16 (by decide) ?_
    refine or_icmp_ne C 51 dX8_agree_17 (by decide) ?_ ?_
    · refine or_aload_n C 0 rfl dX8_agree_20 ?_
      refine or_getR C 8 6 rfl (by decide) rfl (by decide) u_X8_agree_8 (by decide) k_X8_agree_f23 (by decide +kernel) dX8_agree_21 (fun x5 => ?_)
      refine or_aload_n C 0 rfl dX8_agree_24 ?_
      refine or_getR C 8 9 rfl (by decide) rfl (by decide) u_X8_agree_8 (by decide) k_X8_agree_f29 (by decide +kernel) dX8_agree_25 (fun x6 => ?_)
      refine or_iload_n C 1 rfl dX8_agree_28 ?_
      refine or_iald C dX8_agree_29 (fun x7 => ?_)
      refine or_iald C dX8_agree_30 (fun x8 => ?_)
      refine or_aload_n C 0 rfl dX8_agree_31 ?_
      refine or_getR C 8 6 rfl (by decide) rfl (by decide) u_X8_agree_8 (by decide) k_X8_agree_f23 (by decide +kernel) dX8_agree_32 (fun x9 => ?_)
      refine or_aload_n C 0 rfl dX8_agree_35 ?_
      refine or_getR C 8 9 rfl (by decide) rfl (by decide) u_X8_agree_8 (by decide) k_X8_agree_f29 (by decide +kernel) dX8_agree_36 (fun x10 => ?_)
      refine or_iload_n C 2 rfl dX8_agree_39 ?_
      refine or_iald C dX8_agree_40 (fun x11 => ?_)
      refine or_iald C dX8_agree_41 (fun x12 => ?_)
      refine or_icmp_ne C 49 dX8_agree_42 (by decide) ?_ ?_
      · refine or_iconst C (v := (1 : Int32)) dX8_agree_45 (by decide) ?_
        refine or_goto C 50 dX8_agree_46 (by decide) ?_
        refine or_sub [] rfl ?_
        exact w_X8_agree_50 C hl h o (1 : Int32)
      · refine or_iconst C (v := (0 : Int32)) dX8_agree_49 (by decide) ?_
        refine or_sub [] rfl ?_
        exact w_X8_agree_50 C hl h o (0 : Int32)
    · refine or_sub [0, 1, 2] rfl ?_
      exact w_X8_agree_51 C hl h o v1 v2
  · refine or_sub [0, 1, 2] rfl ?_
    exact w_X8_agree_51 C hl h o v1 v2
theorem m_X8_agree (l : Launch) (h : oh_H) (o : Nat) (v1 : Int32) (v2 : Int32) (p : Int32) (hf : f_X8_agree h o v1 v2 = some p) : oh_M l yX8_agree wsX8_agree rmX8_agree 0 0 [xr (some o), xi v1, xi v2] h (some (xi p)) h :=
  oh_met (cc := cX8_agree) (maxL := 4) (ret := (some .boolean)) (by decide) rfl (Nat.le_of_ble_eq_true rfl) (fun G C hl hN E => w_X8_agree_0 C hl h o v1 v2 p hf E)
/-! X8_lotIn -/
theorem k_X8_lotIn_f72 : Cond.fieldLink RX8 72 "OilPressModel" "bin" "[I" ∈ wsX8_lotIn := List.mem_of_getElem? (i := 1) (by decide +kernel)
theorem u_X8_lotIn_8 : ∀ w ∈ u_ws RX8 TX8 54, w ∈ wsX8_lotIn := fun w h => List.mem_cons_of_mem _ (List.mem_append_right _ (h))
abbrev rmX8_lotIn : Room := { frames := 0, cells := 0, slots := 0, locals := 0 }
def f_X8_lotIn (h : oh_H) (o : Nat) (v1 : Int32) (v2 : Int32) : Option (Int32) :=
  (oh_gR h (some o) 535).bind fun x1 => (oh_aI h x1 20 (((12 : Int32) * v1) + v2)).bind fun x2 => some x2
set_option maxHeartbeats 4000000 in
set_option maxRecDepth 100000 in
theorem w_X8_lotIn_0 {G : oh_G} {l : Launch} (C : oh_C G cX8_lotIn wsX8_lotIn RX8 rmX8_lotIn 3) (hl : G.1.2.1 = l) (h : oh_H) (o : Nat) (v1 : Int32) (v2 : Int32) : oh_J (oh_TR h xi (some .int) G) (f_X8_lotIn h o v1 v2) (oh_V G 0 0 h 0 [(0, xr (some o)), (1, xi v1), (2, xi v2)] []) := by
  unfold f_X8_lotIn
  refine or_aload_n C 0 rfl dX8_lotIn_0 ?_
  refine or_getR C 8 23 rfl (by decide) rfl (by decide) u_X8_lotIn_8 (by decide) k_X8_lotIn_f72 (by decide +kernel) dX8_lotIn_1 (fun x1 => ?_)
  refine or_bipush C (v := (12 : Int32)) dX8_lotIn_4 (by decide) ?_
  refine or_iload_n C 1 rfl dX8_lotIn_6 ?_
  refine or_imul C dX8_lotIn_7 ?_
  refine or_iload_n C 2 rfl dX8_lotIn_8 ?_
  refine or_iadd C dX8_lotIn_9 ?_
  refine or_iald C dX8_lotIn_10 (fun x2 => ?_)
  exact or_iretR C dX8_lotIn_11
theorem m_X8_lotIn (l : Launch) (h : oh_H) (o : Nat) (v1 : Int32) (v2 : Int32) (p : Int32) (hf : f_X8_lotIn h o v1 v2 = some p) : oh_M l yX8_lotIn wsX8_lotIn rmX8_lotIn 0 0 [xr (some o), xi v1, xi v2] h (some (xi p)) h :=
  oh_met (cc := cX8_lotIn) (maxL := 3) (ret := (some .int)) (by decide) rfl (Nat.le_of_ble_eq_true rfl) (fun G C hl hN E => w_X8_lotIn_0 C hl h o v1 v2 p hf E)
/-! X8_put -/
theorem k_X8_put_f72 : Cond.fieldLink RX8 72 "OilPressModel" "bin" "[I" ∈ wsX8_put := List.mem_of_getElem? (i := 9) (by decide +kernel)
theorem u_X8_put_8 : ∀ w ∈ u_ws RX8 TX8 54, w ∈ wsX8_put := fun w h => List.mem_cons_of_mem _ (List.mem_append_right _ (h))
theorem k_X8_put_f69 : Cond.fieldLink RX8 69 "OilPressModel" "inBin" "[I" ∈ wsX8_put := List.mem_of_getElem? (i := 3) (by decide +kernel)
theorem k_X8_put_f35 : Cond.fieldLink RX8 35 "OilPressModel" "state" "[I" ∈ wsX8_put := List.mem_of_getElem? (i := 1) (by decide +kernel)
theorem k_X8_put_f53 : Cond.fieldLink RX8 53 "OilPressModel" "where" "[I" ∈ wsX8_put := List.mem_of_getElem? (i := 10) (by decide +kernel)
theorem k_X8_put_f26 : Cond.fieldLink RX8 26 "OilPressModel" "kind" "[I" ∈ wsX8_put := List.mem_of_getElem? (i := 4) (by decide +kernel)
theorem k_X8_put_f78 : Cond.fieldLink RX8 78 "OilPressModel" "washed" "[Z" ∈ wsX8_put := List.mem_of_getElem? (i := 5) (by decide +kernel)
theorem k_X8_put_f81 : Cond.fieldLink RX8 81 "OilPressModel" "likeOf" "[I" ∈ wsX8_put := List.mem_of_getElem? (i := 6) (by decide +kernel)
theorem k_X8_put_f23 : Cond.fieldLink RX8 23 "OilPressModel" "like" "[I" ∈ wsX8_put := List.mem_of_getElem? (i := 7) (by decide +kernel)
theorem k_X8_put_f29 : Cond.fieldLink RX8 29 "OilPressModel" "grove" "[I" ∈ wsX8_put := List.mem_of_getElem? (i := 8) (by decide +kernel)
theorem k_X8_put_f75 : Cond.fieldLink RX8 75 "OilPressModel" "pressing" "[Z" ∈ wsX8_put := List.mem_of_getElem? (i := 2) (by decide +kernel)
abbrev rmX8_put : Room := { frames := 2, cells := 0, slots := 0, locals := 45 }
def f_X8_put_46 (h : oh_H) (o : Nat) : Option (Int32 × oh_H) :=
  some ((-1 : Int32), h)
def f_X8_put_132 (h : oh_H) (o : Nat) (v1 : Int32) (v2 : Int32) : Option (Int32 × oh_H) :=
  (oh_gR h (some o) 535).bind fun x1 => (oh_gR h (some o) 534).bind fun x2 => (oh_aI h x2 20 v2).bind fun x3 => (oh_tI h x1 20 (((12 : Int32) * v2) + x3) v1).bind fun h4 => (oh_gR h4 (some o) 534).bind fun x5 => (oh_aI h4 x5 20 v2).bind fun x6 => (oh_tI h4 x5 20 v2 (x6 + (1 : Int32))).bind fun h7 => (oh_gR h7 (some o) 523).bind fun x8 => (oh_tI h7 x8 20 v1 (3 : Int32)).bind fun h9 => (oh_gR h9 (some o) 529).bind fun x10 => (oh_tI h9 x10 20 v1 v2).bind fun h11 => (oh_gR h11 (some o) 534).bind fun x12 => (oh_aI h11 x12 20 v2).bind fun x13 => some (x13, h11)
abbrev pv_X8_put_50 (G : oh_G) (o : Nat) (v1 : Int32) (v2 : Int32) : (oh_H × Int32) → Prop := fun s => oh_V G 0 0 s.1 50 [(0, xr (some o)), (1, xi v1), (2, xi v2), (3, xi s.2)] []
def b_X8_put_50 (h : oh_H) (o : Nat) (v1 : Int32) (v2 : Int32) (v3 : Int32) : Option ((oh_H × Int32) ⊕ (Int32 × oh_H)) :=
  (oh_gR h (some o) 534).bind fun x1 => (oh_aI h x1 20 v2).bind fun x2 => if x2 ≤ v3 then (Option.map Sum.inr ((oh_gR h (some o) 534).bind fun x3 => (oh_aI h x3 20 v2).bind fun x4 => if x4 = 0 then ((oh_gR h (some o) 520).bind fun x5 => (oh_aI h x5 20 v1).bind fun x6 => if x6 = (2 : Int32) then ((oh_gR h (some o) 537).bind fun x7 => (oh_aI h x7 22 v2).bind fun x8 => if x8 = 0 then ((oh_gR h (some o) 538).bind fun x9 => (oh_aI h x9 20 v2).bind fun x10 => (oh_gR h (some o) 518).bind fun x11 => (oh_gR h (some o) 521).bind fun x12 => (oh_aI h x12 20 v1).bind fun x13 => (oh_aI h x11 20 x13).bind fun x14 => if x10 = x14 then (f_X8_put_132 h o v1 v2) else (some ((-1 : Int32), h))) else (f_X8_put_132 h o v1 v2)) else (f_X8_put_132 h o v1 v2)) else (f_X8_put_132 h o v1 v2))) else (oh_rc h (some o) 9 fun o16 => (f_X8_lotIn h o16 v2 v3).bind fun p17 => oh_rc h (some o) 9 fun o20 => (f_X8_agree h o20 v1 p17).bind fun p21 => if p21 = 0 then (Option.map Sum.inr (some ((-1 : Int32), h))) else (oh_lt (v3 + (1 : Int32)) fun x23 => some (Sum.inl (h, x23))))
def f_X8_put_50 (h : oh_H) (o : Nat) (v1 : Int32) (v2 : Int32) (v3 : Int32) : Option (Int32 × oh_H) := oh_loop (fun s : oh_H × Int32 => b_X8_put_50 s.1 o v1 v2 s.2) 1000000 (h, v3)
def f_X8_put (h : oh_H) (o : Nat) (v1 : Int32) (v2 : Int32) : Option (Int32 × oh_H) :=
  oh_rc h (some o) 9 fun o2 => (f_X8_isLot h o2 v1).bind fun p3 => if p3 = 0 then (f_X8_put_46 h o) else ((oh_gR h (some o) 523).bind fun x5 => (oh_aI h x5 20 v1).bind fun x6 => if x6 = (2 : Int32) then (oh_rc h (some o) 9 fun o8 => (f_X8_isMill h o8 v2).bind fun p9 => if p9 = 0 then (f_X8_put_46 h o) else ((oh_gR h (some o) 536).bind fun x11 => (oh_aI h x11 22 v2).bind fun x12 => if x12 = 0 then ((oh_gR h (some o) 534).bind fun x13 => (oh_aI h x13 20 v2).bind fun x14 => if x14 = (12 : Int32) then (f_X8_put_46 h o) else (oh_lt (0 : Int32) fun x15 => f_X8_put_50 h o v1 v2 x15)) else (f_X8_put_46 h o))) else (f_X8_put_46 h o))
set_option maxHeartbeats 4000000 in
set_option maxRecDepth 100000 in
theorem w_X8_put_46 {G : oh_G} {l : Launch} (C : oh_C G cX8_put wsX8_put RX8 rmX8_put 4) (hl : G.1.2.1 = l) (h0 : oh_H) (h : oh_H) (o : Nat) : oh_J (oh_TW h0 xi 0 0 (some .int) G) (f_X8_put_46 h o) (oh_V G 0 0 h 46 [] []) := by
  unfold f_X8_put_46
  refine or_iconst C (v := (-1 : Int32)) dX8_put_46 (by decide) ?_
  exact or_iret C ⟨Nat.le_of_ble_eq_true rfl, Nat.le_of_ble_eq_true rfl⟩ dX8_put_47
set_option maxHeartbeats 4000000 in
set_option maxRecDepth 100000 in
theorem w_X8_put_132 {G : oh_G} {l : Launch} (C : oh_C G cX8_put wsX8_put RX8 rmX8_put 4) (hl : G.1.2.1 = l) (h0 : oh_H) (h : oh_H) (o : Nat) (v1 : Int32) (v2 : Int32) : oh_J (oh_TW h0 xi 0 0 (some .int) G) (f_X8_put_132 h o v1 v2) (oh_V G 0 0 h 132 [(0, xr (some o)), (1, xi v1), (2, xi v2)] []) := by
  unfold f_X8_put_132
  refine or_aload_n C 0 rfl dX8_put_132 ?_
  refine or_getR C 8 23 rfl (by decide) rfl (by decide) u_X8_put_8 (by decide) k_X8_put_f72 (by decide +kernel) dX8_put_133 (fun x1 => ?_)
  refine or_bipush C (v := (12 : Int32)) dX8_put_136 (by decide) ?_
  refine or_iload_n C 2 rfl dX8_put_138 ?_
  refine or_imul C dX8_put_139 ?_
  refine or_aload_n C 0 rfl dX8_put_140 ?_
  refine or_getR C 8 22 rfl (by decide) rfl (by decide) u_X8_put_8 (by decide) k_X8_put_f69 (by decide +kernel) dX8_put_141 (fun x2 => ?_)
  refine or_iload_n C 2 rfl dX8_put_144 ?_
  refine or_iald C dX8_put_145 (fun x3 => ?_)
  refine or_iadd C dX8_put_146 ?_
  refine or_iload_n C 1 rfl dX8_put_147 ?_
  refine or_iast C dX8_put_148 (fun h4 => ?_)
  refine or_aload_n C 0 rfl dX8_put_149 ?_
  refine or_getR C 8 22 rfl (by decide) rfl (by decide) u_X8_put_8 (by decide) k_X8_put_f69 (by decide +kernel) dX8_put_150 (fun x5 => ?_)
  refine or_iload_n C 2 rfl dX8_put_153 ?_
  refine or_dup2 C rfl rfl dX8_put_154 ?_
  refine or_iald C dX8_put_155 (fun x6 => ?_)
  refine or_iconst C (v := (1 : Int32)) dX8_put_156 (by decide) ?_
  refine or_iadd C dX8_put_157 ?_
  refine or_iast C dX8_put_158 (fun h7 => ?_)
  refine or_aload_n C 0 rfl dX8_put_159 ?_
  refine or_getR C 8 11 rfl (by decide) rfl (by decide) u_X8_put_8 (by decide) k_X8_put_f35 (by decide +kernel) dX8_put_160 (fun x8 => ?_)
  refine or_iload_n C 1 rfl dX8_put_163 ?_
  refine or_iconst C (v := (3 : Int32)) dX8_put_164 (by decide) ?_
  refine or_iast C dX8_put_165 (fun h9 => ?_)
  refine or_aload_n C 0 rfl dX8_put_166 ?_
  refine or_getR C 8 17 rfl (by decide) rfl (by decide) u_X8_put_8 (by decide) k_X8_put_f53 (by decide +kernel) dX8_put_167 (fun x10 => ?_)
  refine or_iload_n C 1 rfl dX8_put_170 ?_
  refine or_iload_n C 2 rfl dX8_put_171 ?_
  refine or_iast C dX8_put_172 (fun h11 => ?_)
  refine or_aload_n C 0 rfl dX8_put_173 ?_
  refine or_getR C 8 22 rfl (by decide) rfl (by decide) u_X8_put_8 (by decide) k_X8_put_f69 (by decide +kernel) dX8_put_174 (fun x12 => ?_)
  refine or_iload_n C 2 rfl dX8_put_177 ?_
  refine or_iald C dX8_put_178 (fun x13 => ?_)
  exact or_iret C ⟨Nat.le_of_ble_eq_true rfl, Nat.le_of_ble_eq_true rfl⟩ dX8_put_179
set_option maxHeartbeats 4000000 in
set_option maxRecDepth 100000 in
theorem wb_X8_put_50 {G : oh_G} {l : Launch} (C : oh_C G cX8_put wsX8_put RX8 rmX8_put 4) (hl : G.1.2.1 = l) (h0 : oh_H) (h : oh_H) (o : Nat) (v1 : Int32) (v2 : Int32) (v3 : Int32) : oh_J (oh_TL (pv_X8_put_50 G o v1 v2) (oh_TW h0 xi 0 0 (some .int) G)) (b_X8_put_50 h o v1 v2 v3) (oh_V G 0 0 h 50 [(0, xr (some o)), (1, xi v1), (2, xi v2), (3, xi v3)] []) := by
  unfold b_X8_put_50
  refine or_iload_n C 3 rfl dX8_put_50 ?_
  refine or_aload_n C 0 rfl dX8_put_51 ?_
  refine or_getR C 8 22 rfl (by decide) rfl (by decide) u_X8_put_8 (by decide) k_X8_put_f69 (by decide +kernel) dX8_put_52 (fun x1 => ?_)
  refine or_iload_n C 2 rfl dX8_put_55 ?_
  refine or_iald C dX8_put_56 (fun x2 => ?_)
  refine or_icmp_ge C 82 dX8_put_57 (by decide) ?_ ?_
  · refine oj_inr ?_
    refine or_aload_n C 0 rfl dX8_put_82 ?_
    refine or_getR C 8 22 rfl (by decide) rfl (by decide) u_X8_put_8 (by decide) k_X8_put_f69 (by decide +kernel) dX8_put_83 (fun x3 => ?_)
    refine or_iload_n C 2 rfl dX8_put_86 ?_
    refine or_iald C dX8_put_87 (fun x4 => ?_)
    refine or_if_ne C 132 dX8_put_88 (by decide) ?_ ?_
    · refine or_aload_n C 0 rfl dX8_put_91 ?_
      refine or_getR C 8 8 rfl (by decide) rfl (by decide) u_X8_put_8 (by decide) k_X8_put_f26 (by decide +kernel) dX8_put_92 (fun x5 => ?_)
      refine or_iload_n C 1 rfl dX8_put_95 ?_
      refine or_iald C dX8_put_96 (fun x6 => ?_)
      refine or_iconst C (v := (2 : Int32)) dX8_put_97 (by decide) ?_
      refine or_icmp_ne C 132 dX8_put_98 (by decide) ?_ ?_
      · refine or_aload_n C 0 rfl dX8_put_101 ?_
        refine or_getR C 8 25 rfl (by decide) rfl (by decide) u_X8_put_8 (by decide) k_X8_put_f78 (by decide +kernel) dX8_put_102 (fun x7 => ?_)
        refine or_iload_n C 2 rfl dX8_put_105 ?_
        refine or_zald C dX8_put_106 (fun x8 => ?_)
        refine or_if_ne C 132 dX8_put_107 (by decide) ?_ ?_
        · refine or_aload_n C 0 rfl dX8_put_110 ?_
          refine or_getR C 8 26 rfl (by decide) rfl (by decide) u_X8_put_8 (by decide) k_X8_put_f81 (by decide +kernel) dX8_put_111 (fun x9 => ?_)
          refine or_iload_n C 2 rfl dX8_put_114 ?_
          refine or_iald C dX8_put_115 (fun x10 => ?_)
          refine or_aload_n C 0 rfl dX8_put_116 ?_
          refine or_getR C 8 6 rfl (by decide) rfl (by decide) u_X8_put_8 (by decide) k_X8_put_f23 (by decide +kernel) dX8_put_117 (fun x11 => ?_)
          refine or_aload_n C 0 rfl dX8_put_120 ?_
          refine or_getR C 8 9 rfl (by decide) rfl (by decide) u_X8_put_8 (by decide) k_X8_put_f29 (by decide +kernel) dX8_put_121 (fun x12 => ?_)
          refine or_iload_n C 1 rfl dX8_put_124 ?_
          refine or_iald C dX8_put_125 (fun x13 => ?_)
          refine or_iald C dX8_put_126 (fun x14 => ?_)
          refine or_icmp_eq C 132 dX8_put_127 (by decide) ?_ ?_
          · refine or_sub [0, 1, 2] rfl ?_
            exact w_X8_put_132 C hl h0 h o v1 v2
          · refine or_iconst C (v := (-1 : Int32)) dX8_put_130 (by decide) ?_
            exact or_iret C ⟨Nat.le_of_ble_eq_true rfl, Nat.le_of_ble_eq_true rfl⟩ dX8_put_131
        · refine or_sub [0, 1, 2] rfl ?_
          exact w_X8_put_132 C hl h0 h o v1 v2
      · refine or_sub [0, 1, 2] rfl ?_
        exact w_X8_put_132 C hl h0 h o v1 v2
    · refine or_sub [0, 1, 2] rfl ?_
      exact w_X8_put_132 C hl h0 h o v1 v2
  · refine or_aload_n C 0 rfl dX8_put_60 ?_
    refine or_iload_n C 1 rfl dX8_put_61 ?_
    refine or_aload_n C 0 rfl dX8_put_62 ?_
    refine or_iload_n C 2 rfl dX8_put_63 ?_
    refine or_iload_n C 3 rfl dX8_put_64 ?_
    refine oj_rcs (fun q15 => ?_)
    refine oj_bind (fun p17 z18 => ?_)
    refine oj_v (P := oh_V G 0 0 h 68 [(0, xr (some o)), (1, xi v1), (2, xi v2), (3, xi v3)] [xi p17, xi v1, xr (some o)]) (fun k => or_callV C 2 hl (m_X8_lotIn _ h o v2 v3 p17 z18) gX8_put_X8_lotIn rfl rfl rfl (by decide +kernel) ⟨Nat.le_of_ble_eq_true rfl, Nat.le_of_ble_eq_true rfl⟩ q15 rfl (by decide) (Nat.le_of_ble_eq_true rfl) dX8_put_65 ⟨Nat.le_of_ble_eq_true rfl, Nat.le_of_ble_eq_true rfl⟩ rfl rfl k) ?_
    refine oj_rcs (fun q19 => ?_)
    refine oj_bind (fun p21 z22 => ?_)
    refine oj_v (P := oh_V G 0 0 h 71 [(0, xr (some o)), (1, xi v1), (2, xi v2), (3, xi v3)] [xi p21]) (fun k => or_callV C 2 hl (m_X8_agree _ h o v1 p17 p21 z22) gX8_put_X8_agree rfl rfl rfl (by decide +kernel) ⟨Nat.le_of_ble_eq_true rfl, Nat.le_of_ble_eq_true rfl⟩ q19 rfl (by decide) (Nat.le_of_ble_eq_true rfl) dX8_put_68 ⟨Nat.le_of_ble_eq_true rfl, Nat.le_of_ble_eq_true rfl⟩ rfl rfl k) ?_
    refine or_if_ne C 76 dX8_put_71 (by decide) ?_ ?_
    · refine oj_inr ?_
      refine or_iconst C (v := (-1 : Int32)) dX8_put_74 (by decide) ?_
      exact or_iret C ⟨Nat.le_of_ble_eq_true rfl, Nat.le_of_ble_eq_true rfl⟩ dX8_put_75
    · refine or_iinc C (y := (1 : Int32)) 3 rfl (by decide) (fun x23 => [(3, xi x23), (0, xr (some o)), (1, xi v1), (2, xi v2)]) (fun _ => rfl) (by decide) dX8_put_76 (fun x23 => ?_)
      refine or_goto C 50 dX8_put_79 (by decide) ?_
      refine or_sub [1, 2, 3, 0] rfl ?_
      exact oj_back (P := pv_X8_put_50 G o v1 v2) (s := (h, x23))
theorem w_X8_put_50 {G : oh_G} {l : Launch} (C : oh_C G cX8_put wsX8_put RX8 rmX8_put 4) (hl : G.1.2.1 = l) (h0 : oh_H) (h : oh_H) (o : Nat) (v1 : Int32) (v2 : Int32) (v3 : Int32) : oh_J (oh_TW h0 xi 0 0 (some .int) G) (f_X8_put_50 h o v1 v2 v3) (oh_V G 0 0 h 50 [(0, xr (some o)), (1, xi v1), (2, xi v2), (3, xi v3)] []) := by
  unfold f_X8_put_50
  exact oj_loop (P := pv_X8_put_50 G o v1 v2) (fun s => wb_X8_put_50 C hl h0 s.1 o v1 v2 s.2) 1000000 (h, v3)
set_option maxHeartbeats 4000000 in
set_option maxRecDepth 100000 in
theorem w_X8_put_0 {G : oh_G} {l : Launch} (C : oh_C G cX8_put wsX8_put RX8 rmX8_put 4) (hl : G.1.2.1 = l) (h0 : oh_H) (h : oh_H) (o : Nat) (v1 : Int32) (v2 : Int32) : oh_J (oh_TW h0 xi 0 0 (some .int) G) (f_X8_put h o v1 v2) (oh_V G 0 0 h 0 [(0, xr (some o)), (1, xi v1), (2, xi v2)] []) := by
  unfold f_X8_put
  refine or_aload_n C 0 rfl dX8_put_0 ?_
  refine or_iload_n C 1 rfl dX8_put_1 ?_
  refine oj_rcs (fun q1 => ?_)
  refine oj_bind (fun p3 z4 => ?_)
  refine oj_v (P := oh_V G 0 0 h 5 [(0, xr (some o)), (1, xi v1), (2, xi v2)] [xi p3]) (fun k => or_callV C 1 hl (m_X8_isLot _ h o v1 p3 z4) gX8_put_X8_isLot rfl rfl rfl (by decide +kernel) ⟨Nat.le_of_ble_eq_true rfl, Nat.le_of_ble_eq_true rfl⟩ q1 rfl (by decide) (Nat.le_of_ble_eq_true rfl) dX8_put_2 ⟨Nat.le_of_ble_eq_true rfl, Nat.le_of_ble_eq_true rfl⟩ rfl rfl k) ?_
  refine or_if_eq C 46 dX8_put_5 (by decide) ?_ ?_
  · refine or_sub [] rfl ?_
    exact w_X8_put_46 C hl h0 h o
  · refine or_aload_n C 0 rfl dX8_put_8 ?_
    refine or_getR C 8 11 rfl (by decide) rfl (by decide) u_X8_put_8 (by decide) k_X8_put_f35 (by decide +kernel) dX8_put_9 (fun x5 => ?_)
    refine or_iload_n C 1 rfl dX8_put_12 ?_
    refine or_iald C dX8_put_13 (fun x6 => ?_)
    refine or_iconst C (v := (2 : Int32)) dX8_put_14 (by decide) ?_
    refine or_icmp_ne C 46 dX8_put_15 (by decide) ?_ ?_
    · refine or_aload_n C 0 rfl dX8_put_18 ?_
      refine or_iload_n C 2 rfl dX8_put_19 ?_
      refine oj_rcs (fun q7 => ?_)
      refine oj_bind (fun p9 z10 => ?_)
      refine oj_v (P := oh_V G 0 0 h 23 [(0, xr (some o)), (1, xi v1), (2, xi v2)] [xi p9]) (fun k => or_callV C 1 hl (m_X8_isMill _ h o v2 p9 z10) gX8_put_X8_isMill rfl rfl rfl (by decide +kernel) ⟨Nat.le_of_ble_eq_true rfl, Nat.le_of_ble_eq_true rfl⟩ q7 rfl (by decide) (Nat.le_of_ble_eq_true rfl) dX8_put_20 ⟨Nat.le_of_ble_eq_true rfl, Nat.le_of_ble_eq_true rfl⟩ rfl rfl k) ?_
      refine or_if_eq C 46 dX8_put_23 (by decide) ?_ ?_
      · refine or_sub [] rfl ?_
        exact w_X8_put_46 C hl h0 h o
      · refine or_aload_n C 0 rfl dX8_put_26 ?_
        refine or_getR C 8 24 rfl (by decide) rfl (by decide) u_X8_put_8 (by decide) k_X8_put_f75 (by decide +kernel) dX8_put_27 (fun x11 => ?_)
        refine or_iload_n C 2 rfl dX8_put_30 ?_
        refine or_zald C dX8_put_31 (fun x12 => ?_)
        refine or_if_ne C 46 dX8_put_32 (by decide) ?_ ?_
        · refine or_aload_n C 0 rfl dX8_put_35 ?_
          refine or_getR C 8 22 rfl (by decide) rfl (by decide) u_X8_put_8 (by decide) k_X8_put_f69 (by decide +kernel) dX8_put_36 (fun x13 => ?_)
          refine or_iload_n C 2 rfl dX8_put_39 ?_
          refine or_iald C dX8_put_40 (fun x14 => ?_)
          refine or_bipush C (v := (12 : Int32)) dX8_put_41 (by decide) ?_
          refine or_icmp_ne C 48 dX8_put_43 (by decide) ?_ ?_
          · refine or_sub [] rfl ?_
            exact w_X8_put_46 C hl h0 h o
          · refine or_iconst C (v := (0 : Int32)) dX8_put_48 (by decide) ?_
            refine or_istore_n C (fun x15 => [(3, xi x15), (0, xr (some o)), (1, xi v1), (2, xi v2)]) (fun _ => rfl) (by decide) dX8_put_49 (fun x15 => ?_)
            refine or_sub [1, 2, 3, 0] rfl ?_
            exact w_X8_put_50 C hl h0 h o v1 v2 x15
        · refine or_sub [] rfl ?_
          exact w_X8_put_46 C hl h0 h o
    · refine or_sub [] rfl ?_
      exact w_X8_put_46 C hl h0 h o
theorem m_X8_put (l : Launch) (h : oh_H) (o : Nat) (v1 : Int32) (v2 : Int32) (p : Int32 × oh_H) (hf : f_X8_put h o v1 v2 = some p) : oh_M l yX8_put wsX8_put rmX8_put 0 0 [xr (some o), xi v1, xi v2] h (some (xi p.1)) p.2 :=
  oh_met (cc := cX8_put) (maxL := 4) (ret := (some .int)) (by decide) rfl (Nat.le_of_ble_eq_true rfl) (fun G C hl hN E => w_X8_put_0 C hl h h o v1 v2 p hf E)
/-! X8_take -/
theorem k_X8_take_f69 : Cond.fieldLink RX8 69 "OilPressModel" "inBin" "[I" ∈ wsX8_take := List.mem_of_getElem? (i := 4) (by decide +kernel)
theorem u_X8_take_8 : ∀ w ∈ u_ws RX8 TX8 54, w ∈ wsX8_take := fun w h => List.mem_cons_of_mem _ (List.mem_append_right _ (h))
theorem k_X8_take_f35 : Cond.fieldLink RX8 35 "OilPressModel" "state" "[I" ∈ wsX8_take := List.mem_of_getElem? (i := 1) (by decide +kernel)
theorem k_X8_take_f53 : Cond.fieldLink RX8 53 "OilPressModel" "where" "[I" ∈ wsX8_take := List.mem_of_getElem? (i := 3) (by decide +kernel)
theorem k_X8_take_f72 : Cond.fieldLink RX8 72 "OilPressModel" "bin" "[I" ∈ wsX8_take := List.mem_of_getElem? (i := 5) (by decide +kernel)
theorem k_X8_take_f75 : Cond.fieldLink RX8 75 "OilPressModel" "pressing" "[Z" ∈ wsX8_take := List.mem_of_getElem? (i := 2) (by decide +kernel)
abbrev rmX8_take : Room := { frames := 2, cells := 0, slots := 0, locals := 43 }
def f_X8_take_32 (h : oh_H) (o : Nat) : Option (Int32 × oh_H) :=
  oh_bz (0 : Int32) (some ((0 : Int32), h))
def f_X8_take_92 (h : oh_H) (o : Nat) (v1 : Int32) (v2 : Int32) (v3 : Int32) (v4 : Int32) : Option ((oh_H × Int32 × Int32) ⊕ (Int32 × oh_H)) :=
  oh_lt (v4 + (1 : Int32)) fun x1 => some (Sum.inl (h, v3, x1))
abbrev pv_X8_take_46 (G : oh_G) (o : Nat) (v1 : Int32) (v2 : Int32) : (oh_H × Int32 × Int32) → Prop := fun s => oh_V G 0 0 s.1 46 [(0, xr (some o)), (1, xi v1), (2, xi v2), (3, xi s.2.1), (4, xi s.2.2)] []
def b_X8_take_46 (h : oh_H) (o : Nat) (v1 : Int32) (v2 : Int32) (v3 : Int32) (v4 : Int32) : Option ((oh_H × Int32 × Int32) ⊕ (Int32 × oh_H)) :=
  (oh_gR h (some o) 534).bind fun x1 => (oh_aI h x1 20 v2).bind fun x2 => if x2 ≤ v4 then (Option.map Sum.inr ((oh_gR h (some o) 534).bind fun x3 => (oh_tI h x3 20 v2 v3).bind fun h4 => (oh_gR h4 (some o) 523).bind fun x5 => (oh_tI h4 x5 20 v1 (2 : Int32)).bind fun h6 => (oh_gR h6 (some o) 529).bind fun x7 => (oh_tI h6 x7 20 v1 (-1 : Int32)).bind fun h8 => oh_bz (1 : Int32) (some ((1 : Int32), h8)))) else (oh_rc h (some o) 9 fun o10 => (f_X8_lotIn h o10 v2 v4).bind fun p11 => if p11 = v1 then (f_X8_take_92 h o v1 v2 v3 v4) else ((oh_gR h (some o) 535).bind fun x13 => oh_rc h (some o) 9 fun o15 => (f_X8_lotIn h o15 v2 v4).bind fun p16 => (oh_tI h x13 20 (((12 : Int32) * v2) + v3) p16).bind fun h18 => oh_lt (v3 + (1 : Int32)) fun x19 => f_X8_take_92 h18 o v1 v2 x19 v4))
def f_X8_take_46 (h : oh_H) (o : Nat) (v1 : Int32) (v2 : Int32) (v3 : Int32) (v4 : Int32) : Option (Int32 × oh_H) := oh_loop (fun s : oh_H × Int32 × Int32 => b_X8_take_46 s.1 o v1 v2 s.2.1 s.2.2) 1000000 (h, v3, v4)
def f_X8_take (h : oh_H) (o : Nat) (v1 : Int32) : Option (Int32 × oh_H) :=
  oh_rc h (some o) 9 fun o2 => (f_X8_isLot h o2 v1).bind fun p3 => if p3 = 0 then (f_X8_take_32 h o) else ((oh_gR h (some o) 523).bind fun x5 => (oh_aI h x5 20 v1).bind fun x6 => if x6 = (3 : Int32) then ((oh_gR h (some o) 536).bind fun x7 => (oh_gR h (some o) 529).bind fun x8 => (oh_aI h x8 20 v1).bind fun x9 => (oh_aI h x7 22 x9).bind fun x10 => if x10 = 0 then ((oh_gR h (some o) 529).bind fun x11 => (oh_aI h x11 20 v1).bind fun x12 => oh_lt x12 fun x13 => oh_lt (0 : Int32) fun x14 => oh_lt (0 : Int32) fun x15 => f_X8_take_46 h o v1 x13 x14 x15) else (f_X8_take_32 h o)) else (f_X8_take_32 h o))
set_option maxHeartbeats 4000000 in
set_option maxRecDepth 100000 in
theorem w_X8_take_32 {G : oh_G} {l : Launch} (C : oh_C G cX8_take wsX8_take RX8 rmX8_take 5) (hl : G.1.2.1 = l) (h0 : oh_H) (h : oh_H) (o : Nat) : oh_J (oh_TW h0 xi 0 0 (some .boolean) G) (f_X8_take_32 h o) (oh_V G 0 0 h 32 [] []) := by
  unfold f_X8_take_32
  refine or_iconst C (v := (0 : Int32)) dX8_take_32 (by decide) ?_
  exact or_zret C ⟨Nat.le_of_ble_eq_true rfl, Nat.le_of_ble_eq_true rfl⟩ dX8_take_33
set_option maxHeartbeats 4000000 in
set_option maxRecDepth 100000 in
theorem w_X8_take_92 {G : oh_G} {l : Launch} (C : oh_C G cX8_take wsX8_take RX8 rmX8_take 5) (hl : G.1.2.1 = l) (h0 : oh_H) (h : oh_H) (o : Nat) (v1 : Int32) (v2 : Int32) (v3 : Int32) (v4 : Int32) : oh_J (oh_TL (pv_X8_take_46 G o v1 v2) (oh_TW h0 xi 0 0 (some .boolean) G)) (f_X8_take_92 h o v1 v2 v3 v4) (oh_V G 0 0 h 92 [(0, xr (some o)), (1, xi v1), (2, xi v2), (3, xi v3), (4, xi v4)] []) := by
  unfold f_X8_take_92
  refine or_iinc C (y := (1 : Int32)) 4 rfl (by decide) (fun x1 => [(4, xi x1), (0, xr (some o)), (1, xi v1), (2, xi v2), (3, xi v3)]) (fun _ => rfl) (by decide) dX8_take_92 (fun x1 => ?_)
  refine or_goto C 46 dX8_take_95 (by decide) ?_
  refine or_sub [1, 2, 3, 4, 0] rfl ?_
  exact oj_back (P := pv_X8_take_46 G o v1 v2) (s := (h, v3, x1))
set_option maxHeartbeats 4000000 in
set_option maxRecDepth 100000 in
theorem wb_X8_take_46 {G : oh_G} {l : Launch} (C : oh_C G cX8_take wsX8_take RX8 rmX8_take 5) (hl : G.1.2.1 = l) (h0 : oh_H) (h : oh_H) (o : Nat) (v1 : Int32) (v2 : Int32) (v3 : Int32) (v4 : Int32) : oh_J (oh_TL (pv_X8_take_46 G o v1 v2) (oh_TW h0 xi 0 0 (some .boolean) G)) (b_X8_take_46 h o v1 v2 v3 v4) (oh_V G 0 0 h 46 [(0, xr (some o)), (1, xi v1), (2, xi v2), (3, xi v3), (4, xi v4)] []) := by
  unfold b_X8_take_46
  refine or_iload C 4 rfl dX8_take_46 ?_
  refine or_aload_n C 0 rfl dX8_take_48 ?_
  refine or_getR C 8 22 rfl (by decide) rfl (by decide) u_X8_take_8 (by decide) k_X8_take_f69 (by decide +kernel) dX8_take_49 (fun x1 => ?_)
  refine or_iload_n C 2 rfl dX8_take_52 ?_
  refine or_iald C dX8_take_53 (fun x2 => ?_)
  refine or_icmp_ge C 98 dX8_take_54 (by decide) ?_ ?_
  · refine oj_inr ?_
    refine or_aload_n C 0 rfl dX8_take_98 ?_
    refine or_getR C 8 22 rfl (by decide) rfl (by decide) u_X8_take_8 (by decide) k_X8_take_f69 (by decide +kernel) dX8_take_99 (fun x3 => ?_)
    refine or_iload_n C 2 rfl dX8_take_102 ?_
    refine or_iload_n C 3 rfl dX8_take_103 ?_
    refine or_iast C dX8_take_104 (fun h4 => ?_)
    refine or_aload_n C 0 rfl dX8_take_105 ?_
    refine or_getR C 8 11 rfl (by decide) rfl (by decide) u_X8_take_8 (by decide) k_X8_take_f35 (by decide +kernel) dX8_take_106 (fun x5 => ?_)
    refine or_iload_n C 1 rfl dX8_take_109 ?_
    refine or_iconst C (v := (2 : Int32)) dX8_take_110 (by decide) ?_
    refine or_iast C dX8_take_111 (fun h6 => ?_)
    refine or_aload_n C 0 rfl dX8_take_112 ?_
    refine or_getR C 8 17 rfl (by decide) rfl (by decide) u_X8_take_8 (by decide) k_X8_take_f53 (by decide +kernel) dX8_take_113 (fun x7 => ?_)
    refine or_iload_n C 1 rfl dX8_take_116 ?_
    refine or_iconst C (v := (-1 : Int32)) dX8_take_117 (by decide) ?_
    refine or_iast C dX8_take_118 (fun h8 => ?_)
    refine or_iconst C (v := (1 : Int32)) dX8_take_119 (by decide) ?_
    exact or_zret C ⟨Nat.le_of_ble_eq_true rfl, Nat.le_of_ble_eq_true rfl⟩ dX8_take_120
  · refine or_aload_n C 0 rfl dX8_take_57 ?_
    refine or_iload_n C 2 rfl dX8_take_58 ?_
    refine or_iload C 4 rfl dX8_take_59 ?_
    refine oj_rcs (fun q9 => ?_)
    refine oj_bind (fun p11 z12 => ?_)
    refine oj_v (P := oh_V G 0 0 h 64 [(0, xr (some o)), (1, xi v1), (2, xi v2), (3, xi v3), (4, xi v4)] [xi p11]) (fun k => or_callV C 2 hl (m_X8_lotIn _ h o v2 v4 p11 z12) gX8_take_X8_lotIn rfl rfl rfl (by decide +kernel) ⟨Nat.le_of_ble_eq_true rfl, Nat.le_of_ble_eq_true rfl⟩ q9 rfl (by decide) (Nat.le_of_ble_eq_true rfl) dX8_take_61 ⟨Nat.le_of_ble_eq_true rfl, Nat.le_of_ble_eq_true rfl⟩ rfl rfl k) ?_
    refine or_iload_n C 1 rfl dX8_take_64 ?_
    refine or_icmp_ne C 71 dX8_take_65 (by decide) ?_ ?_
    · refine or_goto C 92 dX8_take_68 (by decide) ?_
      refine or_sub [0, 1, 2, 3, 4] rfl ?_
      exact w_X8_take_92 C hl h0 h o v1 v2 v3 v4
    · refine or_aload_n C 0 rfl dX8_take_71 ?_
      refine or_getR C 8 23 rfl (by decide) rfl (by decide) u_X8_take_8 (by decide) k_X8_take_f72 (by decide +kernel) dX8_take_72 (fun x13 => ?_)
      refine or_bipush C (v := (12 : Int32)) dX8_take_75 (by decide) ?_
      refine or_iload_n C 2 rfl dX8_take_77 ?_
      refine or_imul C dX8_take_78 ?_
      refine or_iload_n C 3 rfl dX8_take_79 ?_
      refine or_iadd C dX8_take_80 ?_
      refine or_aload_n C 0 rfl dX8_take_81 ?_
      refine or_iload_n C 2 rfl dX8_take_82 ?_
      refine or_iload C 4 rfl dX8_take_83 ?_
      refine oj_rcs (fun q14 => ?_)
      refine oj_bind (fun p16 z17 => ?_)
      refine oj_v (P := oh_V G 0 0 h 88 [(0, xr (some o)), (1, xi v1), (2, xi v2), (3, xi v3), (4, xi v4)] [xi p16, xi (((12 : Int32) * v2) + v3), xr x13]) (fun k => or_callV C 2 hl (m_X8_lotIn _ h o v2 v4 p16 z17) gX8_take_X8_lotIn rfl rfl rfl (by decide +kernel) ⟨Nat.le_of_ble_eq_true rfl, Nat.le_of_ble_eq_true rfl⟩ q14 rfl (by decide) (Nat.le_of_ble_eq_true rfl) dX8_take_85 ⟨Nat.le_of_ble_eq_true rfl, Nat.le_of_ble_eq_true rfl⟩ rfl rfl k) ?_
      refine or_iast C dX8_take_88 (fun h18 => ?_)
      refine or_iinc C (y := (1 : Int32)) 3 rfl (by decide) (fun x19 => [(3, xi x19), (0, xr (some o)), (1, xi v1), (2, xi v2), (4, xi v4)]) (fun _ => rfl) (by decide) dX8_take_89 (fun x19 => ?_)
      refine or_sub [1, 2, 3, 0, 4] rfl ?_
      exact w_X8_take_92 C hl h0 h18 o v1 v2 x19 v4
theorem w_X8_take_46 {G : oh_G} {l : Launch} (C : oh_C G cX8_take wsX8_take RX8 rmX8_take 5) (hl : G.1.2.1 = l) (h0 : oh_H) (h : oh_H) (o : Nat) (v1 : Int32) (v2 : Int32) (v3 : Int32) (v4 : Int32) : oh_J (oh_TW h0 xi 0 0 (some .boolean) G) (f_X8_take_46 h o v1 v2 v3 v4) (oh_V G 0 0 h 46 [(0, xr (some o)), (1, xi v1), (2, xi v2), (3, xi v3), (4, xi v4)] []) := by
  unfold f_X8_take_46
  exact oj_loop (P := pv_X8_take_46 G o v1 v2) (fun s => wb_X8_take_46 C hl h0 s.1 o v1 v2 s.2.1 s.2.2) 1000000 (h, v3, v4)
set_option maxHeartbeats 4000000 in
set_option maxRecDepth 100000 in
theorem w_X8_take_0 {G : oh_G} {l : Launch} (C : oh_C G cX8_take wsX8_take RX8 rmX8_take 5) (hl : G.1.2.1 = l) (h0 : oh_H) (h : oh_H) (o : Nat) (v1 : Int32) : oh_J (oh_TW h0 xi 0 0 (some .boolean) G) (f_X8_take h o v1) (oh_V G 0 0 h 0 [(0, xr (some o)), (1, xi v1)] []) := by
  unfold f_X8_take
  refine or_aload_n C 0 rfl dX8_take_0 ?_
  refine or_iload_n C 1 rfl dX8_take_1 ?_
  refine oj_rcs (fun q1 => ?_)
  refine oj_bind (fun p3 z4 => ?_)
  refine oj_v (P := oh_V G 0 0 h 5 [(0, xr (some o)), (1, xi v1)] [xi p3]) (fun k => or_callV C 1 hl (m_X8_isLot _ h o v1 p3 z4) gX8_take_X8_isLot rfl rfl rfl (by decide +kernel) ⟨Nat.le_of_ble_eq_true rfl, Nat.le_of_ble_eq_true rfl⟩ q1 rfl (by decide) (Nat.le_of_ble_eq_true rfl) dX8_take_2 ⟨Nat.le_of_ble_eq_true rfl, Nat.le_of_ble_eq_true rfl⟩ rfl rfl k) ?_
  refine or_if_eq C 32 dX8_take_5 (by decide) ?_ ?_
  · refine or_sub [] rfl ?_
    exact w_X8_take_32 C hl h0 h o
  · refine or_aload_n C 0 rfl dX8_take_8 ?_
    refine or_getR C 8 11 rfl (by decide) rfl (by decide) u_X8_take_8 (by decide) k_X8_take_f35 (by decide +kernel) dX8_take_9 (fun x5 => ?_)
    refine or_iload_n C 1 rfl dX8_take_12 ?_
    refine or_iald C dX8_take_13 (fun x6 => ?_)
    refine or_iconst C (v := (3 : Int32)) dX8_take_14 (by decide) ?_
    refine or_icmp_ne C 32 dX8_take_15 (by decide) ?_ ?_
    · refine or_aload_n C 0 rfl dX8_take_18 ?_
      refine or_getR C 8 24 rfl (by decide) rfl (by decide) u_X8_take_8 (by decide) k_X8_take_f75 (by decide +kernel) dX8_take_19 (fun x7 => ?_)
      refine or_aload_n C 0 rfl dX8_take_22 ?_
      refine or_getR C 8 17 rfl (by decide) rfl (by decide) u_X8_take_8 (by decide) k_X8_take_f53 (by decide +kernel) dX8_take_23 (fun x8 => ?_)
      refine or_iload_n C 1 rfl dX8_take_26 ?_
      refine or_iald C dX8_take_27 (fun x9 => ?_)
      refine or_zald C dX8_take_28 (fun x10 => ?_)
      refine or_if_eq C 34 dX8_take_29 (by decide) ?_ ?_
      · refine or_aload_n C 0 rfl dX8_take_34 ?_
        refine or_getR C 8 17 rfl (by decide) rfl (by decide) u_X8_take_8 (by decide) k_X8_take_f53 (by decide +kernel) dX8_take_35 (fun x11 => ?_)
        refine or_iload_n C 1 rfl dX8_take_38 ?_
        refine or_iald C dX8_take_39 (fun x12 => ?_)
        refine or_istore_n C (fun x13 => [(2, xi x13), (0, xr (some o)), (1, xi v1)]) (fun _ => rfl) (by decide) dX8_take_40 (fun x13 => ?_)
        refine or_iconst C (v := (0 : Int32)) dX8_take_41 (by decide) ?_
        refine or_istore_n C (fun x14 => [(3, xi x14), (2, xi x13), (0, xr (some o)), (1, xi v1)]) (fun _ => rfl) (by decide) dX8_take_42 (fun x14 => ?_)
        refine or_iconst C (v := (0 : Int32)) dX8_take_43 (by decide) ?_
        refine or_istore C (fun x15 => [(4, xi x15), (3, xi x14), (2, xi x13), (0, xr (some o)), (1, xi v1)]) (fun _ => rfl) (by decide) dX8_take_44 (fun x15 => ?_)
        refine or_sub [3, 4, 2, 1, 0] rfl ?_
        exact w_X8_take_46 C hl h0 h o v1 x13 x14 x15
      · refine or_sub [] rfl ?_
        exact w_X8_take_32 C hl h0 h o
    · refine or_sub [] rfl ?_
      exact w_X8_take_32 C hl h0 h o
theorem m_X8_take (l : Launch) (h : oh_H) (o : Nat) (v1 : Int32) (p : Int32 × oh_H) (hf : f_X8_take h o v1 = some p) : oh_M l yX8_take wsX8_take rmX8_take 0 0 [xr (some o), xi v1] h (some (xi p.1)) p.2 :=
  oh_met (cc := cX8_take) (maxL := 5) (ret := (some .boolean)) (by decide) rfl (Nat.le_of_ble_eq_true rfl) (fun G C hl hN E => w_X8_take_0 C hl h h o v1 p hf E)
/-! X8_wash -/
theorem k_X8_wash_f69 : Cond.fieldLink RX8 69 "OilPressModel" "inBin" "[I" ∈ wsX8_wash := List.mem_of_getElem? (i := 1) (by decide +kernel)
theorem u_X8_wash_8 : ∀ w ∈ u_ws RX8 TX8 54, w ∈ wsX8_wash := fun w h => List.mem_cons_of_mem _ (List.mem_append_right _ (h))
theorem k_X8_wash_f127 : Cond.fieldLink RX8 127 "OilPressModel" "now" "I" ∈ wsX8_wash := List.mem_of_getElem? (i := 2) (by decide +kernel)
theorem k_X8_wash_f66 : Cond.fieldLink RX8 66 "OilPressModel" "busy" "[I" ∈ wsX8_wash := List.mem_of_getElem? (i := 3) (by decide +kernel)
theorem k_X8_wash_f78 : Cond.fieldLink RX8 78 "OilPressModel" "washed" "[Z" ∈ wsX8_wash := List.mem_of_getElem? (i := 4) (by decide +kernel)
abbrev rmX8_wash : Room := { frames := 2, cells := 0, slots := 0, locals := 43 }
def f_X8_wash_30 (h : oh_H) (o : Nat) : Option (Int32 × oh_H) :=
  oh_bz (0 : Int32) (some ((0 : Int32), h))
def f_X8_wash (h : oh_H) (o : Nat) (v1 : Int32) : Option (Int32 × oh_H) :=
  oh_rc h (some o) 9 fun o2 => (f_X8_isMill h o2 v1).bind fun p3 => if p3 = 0 then (f_X8_wash_30 h o) else ((oh_gR h (some o) 534).bind fun x5 => (oh_aI h x5 20 v1).bind fun x6 => if 0 < x6 then (f_X8_wash_30 h o) else ((oh_gI h (some o) 512).bind fun x7 => (oh_gR h (some o) 533).bind fun x8 => (oh_aI h x8 20 v1).bind fun x9 => if x9 ≤ x7 then ((oh_gR h (some o) 533).bind fun x10 => (oh_gI h (some o) 512).bind fun x11 => (oh_tI h x10 20 v1 (x11 + (2 : Int32))).bind fun h12 => (oh_gR h12 (some o) 537).bind fun x13 => oh_bz (1 : Int32) ((oh_tI h12 x13 22 v1 (1 : Int32)).bind fun h14 => oh_bz (1 : Int32) (some ((1 : Int32), h14)))) else (f_X8_wash_30 h o)))
set_option maxHeartbeats 4000000 in
set_option maxRecDepth 100000 in
theorem w_X8_wash_30 {G : oh_G} {l : Launch} (C : oh_C G cX8_wash wsX8_wash RX8 rmX8_wash 2) (hl : G.1.2.1 = l) (h0 : oh_H) (h : oh_H) (o : Nat) : oh_J (oh_TW h0 xi 0 0 (some .boolean) G) (f_X8_wash_30 h o) (oh_V G 0 0 h 30 [] []) := by
  unfold f_X8_wash_30
  refine or_iconst C (v := (0 : Int32)) dX8_wash_30 (by decide) ?_
  exact or_zret C ⟨Nat.le_of_ble_eq_true rfl, Nat.le_of_ble_eq_true rfl⟩ dX8_wash_31
set_option maxHeartbeats 4000000 in
set_option maxRecDepth 100000 in
theorem w_X8_wash_0 {G : oh_G} {l : Launch} (C : oh_C G cX8_wash wsX8_wash RX8 rmX8_wash 2) (hl : G.1.2.1 = l) (h0 : oh_H) (h : oh_H) (o : Nat) (v1 : Int32) : oh_J (oh_TW h0 xi 0 0 (some .boolean) G) (f_X8_wash h o v1) (oh_V G 0 0 h 0 [(0, xr (some o)), (1, xi v1)] []) := by
  unfold f_X8_wash
  refine or_aload_n C 0 rfl dX8_wash_0 ?_
  refine or_iload_n C 1 rfl dX8_wash_1 ?_
  refine oj_rcs (fun q1 => ?_)
  refine oj_bind (fun p3 z4 => ?_)
  refine oj_v (P := oh_V G 0 0 h 5 [(0, xr (some o)), (1, xi v1)] [xi p3]) (fun k => or_callV C 1 hl (m_X8_isMill _ h o v1 p3 z4) gX8_wash_X8_isMill rfl rfl rfl (by decide +kernel) ⟨Nat.le_of_ble_eq_true rfl, Nat.le_of_ble_eq_true rfl⟩ q1 rfl (by decide) (Nat.le_of_ble_eq_true rfl) dX8_wash_2 ⟨Nat.le_of_ble_eq_true rfl, Nat.le_of_ble_eq_true rfl⟩ rfl rfl k) ?_
  refine or_if_eq C 30 dX8_wash_5 (by decide) ?_ ?_
  · refine or_sub [] rfl ?_
    exact w_X8_wash_30 C hl h0 h o
  · refine or_aload_n C 0 rfl dX8_wash_8 ?_
    refine or_getR C 8 22 rfl (by decide) rfl (by decide) u_X8_wash_8 (by decide) k_X8_wash_f69 (by decide +kernel) dX8_wash_9 (fun x5 => ?_)
    refine or_iload_n C 1 rfl dX8_wash_12 ?_
    refine or_iald C dX8_wash_13 (fun x6 => ?_)
    refine or_if_gt C 30 dX8_wash_14 (by decide) ?_ ?_
    · refine or_sub [] rfl ?_
      exact w_X8_wash_30 C hl h0 h o
    · refine or_aload_n C 0 rfl dX8_wash_17 ?_
      refine or_getI C 8 0 rfl (by decide) rfl (by decide) u_X8_wash_8 (by decide) k_X8_wash_f127 (by decide +kernel) dX8_wash_18 (fun x7 => ?_)
      refine or_aload_n C 0 rfl dX8_wash_21 ?_
      refine or_getR C 8 21 rfl (by decide) rfl (by decide) u_X8_wash_8 (by decide) k_X8_wash_f66 (by decide +kernel) dX8_wash_22 (fun x8 => ?_)
      refine or_iload_n C 1 rfl dX8_wash_25 ?_
      refine or_iald C dX8_wash_26 (fun x9 => ?_)
      refine or_icmp_ge C 32 dX8_wash_27 (by decide) ?_ ?_
      · refine or_aload_n C 0 rfl dX8_wash_32 ?_
        refine or_getR C 8 21 rfl (by decide) rfl (by decide) u_X8_wash_8 (by decide) k_X8_wash_f66 (by decide +kernel) dX8_wash_33 (fun x10 => ?_)
        refine or_iload_n C 1 rfl dX8_wash_36 ?_
        refine or_aload_n C 0 rfl dX8_wash_37 ?_
        refine or_getI C 8 0 rfl (by decide) rfl (by decide) u_X8_wash_8 (by decide) k_X8_wash_f127 (by decide +kernel) dX8_wash_38 (fun x11 => ?_)
        refine or_iconst C (v := (2 : Int32)) dX8_wash_41 (by decide) ?_
        refine or_iadd C dX8_wash_42 ?_
        refine or_iast C dX8_wash_43 (fun h12 => ?_)
        refine or_aload_n C 0 rfl dX8_wash_44 ?_
        refine or_getR C 8 25 rfl (by decide) rfl (by decide) u_X8_wash_8 (by decide) k_X8_wash_f78 (by decide +kernel) dX8_wash_45 (fun x13 => ?_)
        refine or_iload_n C 1 rfl dX8_wash_48 ?_
        refine or_iconst C (v := (1 : Int32)) dX8_wash_49 (by decide) ?_
        refine or_zast C dX8_wash_50 (fun h14 => ?_)
        refine or_iconst C (v := (1 : Int32)) dX8_wash_51 (by decide) ?_
        exact or_zret C ⟨Nat.le_of_ble_eq_true rfl, Nat.le_of_ble_eq_true rfl⟩ dX8_wash_52
      · refine or_sub [] rfl ?_
        exact w_X8_wash_30 C hl h0 h o
theorem m_X8_wash (l : Launch) (h : oh_H) (o : Nat) (v1 : Int32) (p : Int32 × oh_H) (hf : f_X8_wash h o v1 = some p) : oh_M l yX8_wash wsX8_wash rmX8_wash 0 0 [xr (some o), xi v1] h (some (xi p.1)) p.2 :=
  oh_met (cc := cX8_wash) (maxL := 2) (ret := (some .boolean)) (by decide) rfl (Nat.le_of_ble_eq_true rfl) (fun G C hl hN E => w_X8_wash_0 C hl h h o v1 p hf E)
