/-! X8_keep -/
theorem k_X8_keep_f13 : Cond.fieldLink RX8 13 "OilPressModel" "part" "I" ∈ wsX8_keep := List.mem_of_getElem? (i := 1) (by decide +kernel)
theorem u_X8_keep_8 : ∀ w ∈ u_ws RX8 TX8 54, w ∈ wsX8_keep := fun w h => List.mem_cons_of_mem _ (List.mem_append_right _ (h))
abbrev rmX8_keep : Room := { frames := 1, cells := 0, slots := 0, locals := 22 }
def f_X8_keep (h : oh_H) (o : Nat) (v1 : Int32) : Option (Int32 × oh_H) :=
  (f_X8_in h v1 (0 : Int32) (50 : Int32)).bind fun p1 => if p1 = 0 then (oh_bz (0 : Int32) (some ((0 : Int32), h))) else ((oh_pI h (some o) 514 v1).bind fun h3 => oh_bz (1 : Int32) (some ((1 : Int32), h3)))
set_option maxHeartbeats 4000000 in
set_option maxRecDepth 100000 in
theorem w_X8_keep_0 {G : oh_G} {l : Launch} (C : oh_C G cX8_keep wsX8_keep RX8 rmX8_keep 2) (hl : G.1.2.1 = l) (h0 : oh_H) (h : oh_H) (o : Nat) (v1 : Int32) : oh_J (oh_TW h0 xi 0 0 (some .boolean) G) (f_X8_keep h o v1) (oh_V G 0 0 h 0 [(0, xr (some o)), (1, xi v1)] []) := by
  unfold f_X8_keep
  refine or_iload_n C 1 rfl dX8_keep_0 ?_
  refine or_iconst C (v := (0 : Int32)) dX8_keep_1 (by decide) ?_
  refine or_bipush C (v := (50 : Int32)) dX8_keep_2 (by decide) ?_
  refine oj_bind (fun p1 z2 => ?_)
  refine oj_v (P := oh_V G 0 0 h 7 [(0, xr (some o)), (1, xi v1)] [xi p1]) (fun k => or_callS C 3 hl (m_X8_in _ h v1 (0 : Int32) (50 : Int32) p1 z2) gX8_keep_X8_in rfl rfl rfl (by decide +kernel) ⟨Nat.le_of_ble_eq_true rfl, Nat.le_of_ble_eq_true rfl⟩ (Nat.le_of_ble_eq_true rfl) dX8_keep_4 ⟨Nat.le_of_ble_eq_true rfl, Nat.le_of_ble_eq_true rfl⟩ rfl rfl k) ?_
  refine or_if_ne C 12 dX8_keep_7 (by decide) ?_ ?_
  · refine or_iconst C (v := (0 : Int32)) dX8_keep_10 (by decide) ?_
    exact or_zret C ⟨Nat.le_of_ble_eq_true rfl, Nat.le_of_ble_eq_true rfl⟩ dX8_keep_11
  · refine or_aload_n C 0 rfl dX8_keep_12 ?_
    refine or_iload_n C 1 rfl dX8_keep_13 ?_
    refine or_putI C 8 2 rfl (by decide) rfl (by decide) u_X8_keep_8 tyX8 tyX8_ok nmX8 (by decide) k_X8_keep_f13 (Or.inl rfl) (by decide +kernel) rfl dX8_keep_14 (fun h3 => ?_)
    refine or_iconst C (v := (1 : Int32)) dX8_keep_17 (by decide) ?_
    exact or_zret C ⟨Nat.le_of_ble_eq_true rfl, Nat.le_of_ble_eq_true rfl⟩ dX8_keep_18
theorem m_X8_keep (l : Launch) (h : oh_H) (o : Nat) (v1 : Int32) (p : Int32 × oh_H) (hf : f_X8_keep h o v1 = some p) : oh_M l yX8_keep wsX8_keep rmX8_keep 0 0 [xr (some o), xi v1] h (some (xi p.1)) p.2 :=
  oh_met (cc := cX8_keep) (maxL := 2) (ret := (some .boolean)) (by decide) rfl (Nat.le_of_ble_eq_true rfl) (fun G C hl hN E => w_X8_keep_0 C hl h h o v1 p hf E)
/-! X8_promised -/
theorem k_X8_promised_f69 : Cond.fieldLink RX8 69 "OilPressModel" "inBin" "[I" ∈ wsX8_promised := List.mem_of_getElem? (i := 1) (by decide +kernel)
theorem u_X8_promised_8 : ∀ w ∈ u_ws RX8 TX8 54, w ∈ wsX8_promised := fun w h => List.mem_cons_of_mem _ (List.mem_append_right _ (h))
theorem k_X8_promised_c186 : Cond.constantLong RX8 186 (1000) ∈ wsX8_promised := List.mem_of_getElem? (i := 2) (by decide +kernel)
abbrev rmX8_promised : Room := { frames := 1, cells := 0, slots := 0, locals := 22 }
abbrev pv_X8_promised_5 (G : oh_G) (h : oh_H) (o : Nat) (v1 : Int32) : (Int64 × Int32) → Prop := fun s => oh_V G 0 0 h 5 [(0, xr (some o)), (1, xi v1), (2, xl s.1), (4, xi s.2)] []
def b_X8_promised_5 (h : oh_H) (o : Nat) (v1 : Int32) (v2 : Int64) (v4 : Int32) : Option ((Int64 × Int32) ⊕ (Int64)) :=
  (oh_gR h (some o) 534).bind fun x1 => (oh_aI h x1 20 v1).bind fun x2 => if x2 ≤ v4 then (Option.map Sum.inr (if (1000 : Int64) = 0 then none else some (v2 / (1000 : Int64)))) else (oh_rc h (some o) 9 fun o4 => (f_X8_lotIn h o4 v1 v4).bind fun p5 => oh_rc h (some o) 9 fun o8 => (f_X8_weight h o8 p5).bind fun p9 => oh_lt (v2 + p9) fun x11 => oh_lt (v4 + (1 : Int32)) fun x12 => some (Sum.inl (x11, x12)))
def f_X8_promised_5 (h : oh_H) (o : Nat) (v1 : Int32) (v2 : Int64) (v4 : Int32) : Option (Int64) := oh_loop (fun s : Int64 × Int32 => b_X8_promised_5 h o v1 s.1 s.2) 1000000 (v2, v4)
def f_X8_promised (h : oh_H) (o : Nat) (v1 : Int32) : Option (Int64) :=
  oh_lt (0 : Int64) fun x1 => oh_lt (0 : Int32) fun x2 => f_X8_promised_5 h o v1 x1 x2
set_option maxHeartbeats 4000000 in
set_option maxRecDepth 100000 in
theorem wb_X8_promised_5 {G : oh_G} {l : Launch} (C : oh_C G cX8_promised wsX8_promised RX8 rmX8_promised 5) (hl : G.1.2.1 = l) (h : oh_H) (o : Nat) (v1 : Int32) (v2 : Int64) (v4 : Int32) : oh_J (oh_TL (pv_X8_promised_5 G h o v1) (oh_TR h xl (some .long) G)) (b_X8_promised_5 h o v1 v2 v4) (oh_V G 0 0 h 5 [(0, xr (some o)), (1, xi v1), (2, xl v2), (4, xi v4)] []) := by
  unfold b_X8_promised_5
  refine or_iload C 3 rfl dX8_promised_5 ?_
  refine or_aload_n C 0 rfl dX8_promised_7 ?_
  refine or_getR C 8 22 rfl (by decide) rfl (by decide) u_X8_promised_8 (by decide) k_X8_promised_f69 (by decide +kernel) dX8_promised_8 (fun x1 => ?_)
  refine or_iload_n C 1 rfl dX8_promised_11 ?_
  refine or_iald C dX8_promised_12 (fun x2 => ?_)
  refine or_icmp_ge C 36 dX8_promised_13 (by decide) ?_ ?_
  · refine oj_inr ?_
    refine or_lload_n C 2 rfl dX8_promised_36 ?_
    refine or_ldc2 C (v := (1000 : Int64)) k_X8_promised_c186 dX8_promised_37 ?_
    refine or_ldiv C dX8_promised_40 ?_
    exact or_lretR C dX8_promised_41
  · refine or_lload_n C 2 rfl dX8_promised_16 ?_
    refine or_aload_n C 0 rfl dX8_promised_17 ?_
    refine or_aload_n C 0 rfl dX8_promised_18 ?_
    refine or_iload_n C 1 rfl dX8_promised_19 ?_
    refine or_iload C 3 rfl dX8_promised_20 ?_
    refine oj_rcs (fun q3 => ?_)
    refine oj_bind (fun p5 z6 => ?_)
    refine oj_v (P := oh_V G 0 0 h 25 [(0, xr (some o)), (1, xi v1), (2, xl v2), (4, xi v4)] [xi p5, xr (some o), xl v2]) (fun k => or_callV C 2 hl (m_X8_lotIn _ h o v1 v4 p5 z6) gX8_promised_X8_lotIn rfl rfl rfl (by decide +kernel) ⟨Nat.le_of_ble_eq_true rfl, Nat.le_of_ble_eq_true rfl⟩ q3 rfl (by decide) (Nat.le_of_ble_eq_true rfl) dX8_promised_22 ⟨Nat.le_of_ble_eq_true rfl, Nat.le_of_ble_eq_true rfl⟩ rfl rfl k) ?_
    refine oj_rcs (fun q7 => ?_)
    refine oj_bind (fun p9 z10 => ?_)
    refine oj_v (P := oh_V G 0 0 h 28 [(0, xr (some o)), (1, xi v1), (2, xl v2), (4, xi v4)] [xl p9, xl v2]) (fun k => or_callV C 1 hl (m_X8_weight _ h o p5 p9 z10) gX8_promised_X8_weight rfl rfl rfl (by decide +kernel) ⟨Nat.le_of_ble_eq_true rfl, Nat.le_of_ble_eq_true rfl⟩ q7 rfl (by decide) (Nat.le_of_ble_eq_true rfl) dX8_promised_25 ⟨Nat.le_of_ble_eq_true rfl, Nat.le_of_ble_eq_true rfl⟩ rfl rfl k) ?_
    refine or_ladd C dX8_promised_28 ?_
    refine or_lstore_n C (fun x11 => [(2, xl x11), (0, xr (some o)), (1, xi v1), (4, xi v4)]) (fun _ => rfl) (by decide) dX8_promised_29 (fun x11 => ?_)
    refine or_iinc C (y := (1 : Int32)) 3 rfl (by decide) (fun x12 => [(4, xi x12), (2, xl x11), (0, xr (some o)), (1, xi v1)]) (fun _ => rfl) (by decide) dX8_promised_30 (fun x12 => ?_)
    refine or_goto C 5 dX8_promised_33 (by decide) ?_
    refine or_sub [2, 3, 1, 0] rfl ?_
    exact oj_back (P := pv_X8_promised_5 G h o v1) (s := (x11, x12))
theorem w_X8_promised_5 {G : oh_G} {l : Launch} (C : oh_C G cX8_promised wsX8_promised RX8 rmX8_promised 5) (hl : G.1.2.1 = l) (h : oh_H) (o : Nat) (v1 : Int32) (v2 : Int64) (v4 : Int32) : oh_J (oh_TR h xl (some .long) G) (f_X8_promised_5 h o v1 v2 v4) (oh_V G 0 0 h 5 [(0, xr (some o)), (1, xi v1), (2, xl v2), (4, xi v4)] []) := by
  unfold f_X8_promised_5
  exact oj_loop (P := pv_X8_promised_5 G h o v1) (fun s => wb_X8_promised_5 C hl h o v1 s.1 s.2) 1000000 (v2, v4)
set_option maxHeartbeats 4000000 in
set_option maxRecDepth 100000 in
theorem w_X8_promised_0 {G : oh_G} {l : Launch} (C : oh_C G cX8_promised wsX8_promised RX8 rmX8_promised 5) (hl : G.1.2.1 = l) (h : oh_H) (o : Nat) (v1 : Int32) : oh_J (oh_TR h xl (some .long) G) (f_X8_promised h o v1) (oh_V G 0 0 h 0 [(0, xr (some o)), (1, xi v1)] []) := by
  unfold f_X8_promised
  refine or_lconst C (v := (0 : Int64)) dX8_promised_0 rfl ?_
  refine or_lstore_n C (fun x1 => [(2, xl x1), (0, xr (some o)), (1, xi v1)]) (fun _ => rfl) (by decide) dX8_promised_1 (fun x1 => ?_)
  refine or_iconst C (v := (0 : Int32)) dX8_promised_2 (by decide) ?_
  refine or_istore C (fun x2 => [(4, xi x2), (2, xl x1), (0, xr (some o)), (1, xi v1)]) (fun _ => rfl) (by decide) dX8_promised_3 (fun x2 => ?_)
  refine or_sub [2, 3, 1, 0] rfl ?_
  exact w_X8_promised_5 C hl h o v1 x1 x2
theorem m_X8_promised (l : Launch) (h : oh_H) (o : Nat) (v1 : Int32) (p : Int64) (hf : f_X8_promised h o v1 = some p) : oh_M l yX8_promised wsX8_promised rmX8_promised 0 0 [xr (some o), xi v1] h (some (xl p)) h :=
  oh_met (cc := cX8_promised) (maxL := 5) (ret := (some .long)) (by decide) rfl (Nat.le_of_ble_eq_true rfl) (fun G C hl hN E => w_X8_promised_0 C hl h o v1 p hf E)
/-! X8_sourOf -/
theorem k_X8_sourOf_f69 : Cond.fieldLink RX8 69 "OilPressModel" "inBin" "[I" ∈ wsX8_sourOf := List.mem_of_getElem? (i := 1) (by decide +kernel)
theorem u_X8_sourOf_8 : ∀ w ∈ u_ws RX8 TX8 54, w ∈ wsX8_sourOf := fun w h => List.mem_cons_of_mem _ (List.mem_append_right _ (h))
theorem k_X8_sourOf_f38 : Cond.fieldLink RX8 38 "OilPressModel" "tenths" "[I" ∈ wsX8_sourOf := List.mem_of_getElem? (i := 2) (by decide +kernel)
theorem k_X8_sourOf_f44 : Cond.fieldLink RX8 44 "OilPressModel" "sour" "[I" ∈ wsX8_sourOf := List.mem_of_getElem? (i := 3) (by decide +kernel)
abbrev rmX8_sourOf : Room := { frames := 2, cells := 0, slots := 0, locals := 45 }
abbrev pv_X8_sourOf_5 (G : oh_G) (h : oh_H) (o : Nat) (v1 : Int32) : (Int64 × Int32) → Prop := fun s => oh_V G 0 0 h 5 [(0, xr (some o)), (1, xi v1), (2, xl s.1), (4, xi s.2)] []
def b_X8_sourOf_5 (h : oh_H) (o : Nat) (v1 : Int32) (v2 : Int64) (v4 : Int32) : Option ((Int64 × Int32) ⊕ (Int64)) :=
  (oh_gR h (some o) 534).bind fun x1 => (oh_aI h x1 20 v1).bind fun x2 => if x2 ≤ v4 then (Option.map Sum.inr (oh_rc h (some o) 9 fun o4 => (f_X8_sumOf h o4 v1).bind fun p5 => if (Int32.toInt64 p5) = 0 then none else some (v2 / (Int32.toInt64 p5)))) else ((oh_gR h (some o) 524).bind fun x7 => oh_rc h (some o) 9 fun o9 => (f_X8_lotIn h o9 v1 v4).bind fun p10 => (oh_aI h x7 20 p10).bind fun x12 => (oh_gR h (some o) 526).bind fun x13 => oh_rc h (some o) 9 fun o15 => (f_X8_lotIn h o15 v1 v4).bind fun p16 => (oh_aI h x13 20 p16).bind fun x18 => oh_lt (v2 + ((Int32.toInt64 x12) * (Int32.toInt64 x18))) fun x19 => oh_lt (v4 + (1 : Int32)) fun x20 => some (Sum.inl (x19, x20)))
def f_X8_sourOf_5 (h : oh_H) (o : Nat) (v1 : Int32) (v2 : Int64) (v4 : Int32) : Option (Int64) := oh_loop (fun s : Int64 × Int32 => b_X8_sourOf_5 h o v1 s.1 s.2) 1000000 (v2, v4)
def f_X8_sourOf (h : oh_H) (o : Nat) (v1 : Int32) : Option (Int64) :=
  oh_lt (0 : Int64) fun x1 => oh_lt (0 : Int32) fun x2 => f_X8_sourOf_5 h o v1 x1 x2
set_option maxHeartbeats 4000000 in
set_option maxRecDepth 100000 in
theorem wb_X8_sourOf_5 {G : oh_G} {l : Launch} (C : oh_C G cX8_sourOf wsX8_sourOf RX8 rmX8_sourOf 5) (hl : G.1.2.1 = l) (h : oh_H) (o : Nat) (v1 : Int32) (v2 : Int64) (v4 : Int32) : oh_J (oh_TL (pv_X8_sourOf_5 G h o v1) (oh_TR h xl (some .long) G)) (b_X8_sourOf_5 h o v1 v2 v4) (oh_V G 0 0 h 5 [(0, xr (some o)), (1, xi v1), (2, xl v2), (4, xi v4)] []) := by
  unfold b_X8_sourOf_5
  refine or_iload C 3 rfl dX8_sourOf_5 ?_
  refine or_aload_n C 0 rfl dX8_sourOf_7 ?_
  refine or_getR C 8 22 rfl (by decide) rfl (by decide) u_X8_sourOf_8 (by decide) k_X8_sourOf_f69 (by decide +kernel) dX8_sourOf_8 (fun x1 => ?_)
  refine or_iload_n C 1 rfl dX8_sourOf_11 ?_
  refine or_iald C dX8_sourOf_12 (fun x2 => ?_)
  refine or_icmp_ge C 52 dX8_sourOf_13 (by decide) ?_ ?_
  · refine oj_inr ?_
    refine or_lload_n C 2 rfl dX8_sourOf_52 ?_
    refine or_aload_n C 0 rfl dX8_sourOf_53 ?_
    refine or_iload_n C 1 rfl dX8_sourOf_54 ?_
    refine oj_rcs (fun q3 => ?_)
    refine oj_bind (fun p5 z6 => ?_)
    refine oj_v (P := oh_V G 0 0 h 58 [(0, xr (some o)), (1, xi v1), (2, xl v2), (4, xi v4)] [xi p5, xl v2]) (fun k => or_callV C 1 hl (m_X8_sumOf _ h o v1 p5 z6) gX8_sourOf_X8_sumOf rfl rfl rfl (by decide +kernel) ⟨Nat.le_of_ble_eq_true rfl, Nat.le_of_ble_eq_true rfl⟩ q3 rfl (by decide) (Nat.le_of_ble_eq_true rfl) dX8_sourOf_55 ⟨Nat.le_of_ble_eq_true rfl, Nat.le_of_ble_eq_true rfl⟩ rfl rfl k) ?_
    refine or_i2l C dX8_sourOf_58 ?_
    refine or_ldiv C dX8_sourOf_59 ?_
    exact or_lretR C dX8_sourOf_60
  · refine or_lload_n C 2 rfl dX8_sourOf_16 ?_
    refine or_aload_n C 0 rfl dX8_sourOf_17 ?_
    refine or_getR C 8 12 rfl (by decide) rfl (by decide) u_X8_sourOf_8 (by decide) k_X8_sourOf_f38 (by decide +kernel) dX8_sourOf_18 (fun x7 => ?_)
    refine or_aload_n C 0 rfl dX8_sourOf_21 ?_
    refine or_iload_n C 1 rfl dX8_sourOf_22 ?_
    refine or_iload C 3 rfl dX8_sourOf_23 ?_
    refine oj_rcs (fun q8 => ?_)
    refine oj_bind (fun p10 z11 => ?_)
    refine oj_v (P := oh_V G 0 0 h 28 [(0, xr (some o)), (1, xi v1), (2, xl v2), (4, xi v4)] [xi p10, xr x7, xl v2]) (fun k => or_callV C 2 hl (m_X8_lotIn _ h o v1 v4 p10 z11) gX8_sourOf_X8_lotIn rfl rfl rfl (by decide +kernel) ⟨Nat.le_of_ble_eq_true rfl, Nat.le_of_ble_eq_true rfl⟩ q8 rfl (by decide) (Nat.le_of_ble_eq_true rfl) dX8_sourOf_25 ⟨Nat.le_of_ble_eq_true rfl, Nat.le_of_ble_eq_true rfl⟩ rfl rfl k) ?_
    refine or_iald C dX8_sourOf_28 (fun x12 => ?_)
    refine or_i2l C dX8_sourOf_29 ?_
    refine or_aload_n C 0 rfl dX8_sourOf_30 ?_
    refine or_getR C 8 14 rfl (by decide) rfl (by decide) u_X8_sourOf_8 (by decide) k_X8_sourOf_f44 (by decide +kernel) dX8_sourOf_31 (fun x13 => ?_)
    refine or_aload_n C 0 rfl dX8_sourOf_34 ?_
    refine or_iload_n C 1 rfl dX8_sourOf_35 ?_
    refine or_iload C 3 rfl dX8_sourOf_36 ?_
    refine oj_rcs (fun q14 => ?_)
    refine oj_bind (fun p16 z17 => ?_)
    refine oj_v (P := oh_V G 0 0 h 41 [(0, xr (some o)), (1, xi v1), (2, xl v2), (4, xi v4)] [xi p16, xr x13, xl (Int32.toInt64 x12), xl v2]) (fun k => or_callV C 2 hl (m_X8_lotIn _ h o v1 v4 p16 z17) gX8_sourOf_X8_lotIn rfl rfl rfl (by decide +kernel) ⟨Nat.le_of_ble_eq_true rfl, Nat.le_of_ble_eq_true rfl⟩ q14 rfl (by decide) (Nat.le_of_ble_eq_true rfl) dX8_sourOf_38 ⟨Nat.le_of_ble_eq_true rfl, Nat.le_of_ble_eq_true rfl⟩ rfl rfl k) ?_
    refine or_iald C dX8_sourOf_41 (fun x18 => ?_)
    refine or_i2l C dX8_sourOf_42 ?_
    refine or_lmul C dX8_sourOf_43 ?_
    refine or_ladd C dX8_sourOf_44 ?_
    refine or_lstore_n C (fun x19 => [(2, xl x19), (0, xr (some o)), (1, xi v1), (4, xi v4)]) (fun _ => rfl) (by decide) dX8_sourOf_45 (fun x19 => ?_)
    refine or_iinc C (y := (1 : Int32)) 3 rfl (by decide) (fun x20 => [(4, xi x20), (2, xl x19), (0, xr (some o)), (1, xi v1)]) (fun _ => rfl) (by decide) dX8_sourOf_46 (fun x20 => ?_)
    refine or_goto C 5 dX8_sourOf_49 (by decide) ?_
    refine or_sub [2, 3, 1, 0] rfl ?_
    exact oj_back (P := pv_X8_sourOf_5 G h o v1) (s := (x19, x20))
theorem w_X8_sourOf_5 {G : oh_G} {l : Launch} (C : oh_C G cX8_sourOf wsX8_sourOf RX8 rmX8_sourOf 5) (hl : G.1.2.1 = l) (h : oh_H) (o : Nat) (v1 : Int32) (v2 : Int64) (v4 : Int32) : oh_J (oh_TR h xl (some .long) G) (f_X8_sourOf_5 h o v1 v2 v4) (oh_V G 0 0 h 5 [(0, xr (some o)), (1, xi v1), (2, xl v2), (4, xi v4)] []) := by
  unfold f_X8_sourOf_5
  exact oj_loop (P := pv_X8_sourOf_5 G h o v1) (fun s => wb_X8_sourOf_5 C hl h o v1 s.1 s.2) 1000000 (v2, v4)
set_option maxHeartbeats 4000000 in
set_option maxRecDepth 100000 in
theorem w_X8_sourOf_0 {G : oh_G} {l : Launch} (C : oh_C G cX8_sourOf wsX8_sourOf RX8 rmX8_sourOf 5) (hl : G.1.2.1 = l) (h : oh_H) (o : Nat) (v1 : Int32) : oh_J (oh_TR h xl (some .long) G) (f_X8_sourOf h o v1) (oh_V G 0 0 h 0 [(0, xr (some o)), (1, xi v1)] []) := by
  unfold f_X8_sourOf
  refine or_lconst C (v := (0 : Int64)) dX8_sourOf_0 rfl ?_
  refine or_lstore_n C (fun x1 => [(2, xl x1), (0, xr (some o)), (1, xi v1)]) (fun _ => rfl) (by decide) dX8_sourOf_1 (fun x1 => ?_)
  refine or_iconst C (v := (0 : Int32)) dX8_sourOf_2 (by decide) ?_
  refine or_istore C (fun x2 => [(4, xi x2), (2, xl x1), (0, xr (some o)), (1, xi v1)]) (fun _ => rfl) (by decide) dX8_sourOf_3 (fun x2 => ?_)
  refine or_sub [2, 3, 1, 0] rfl ?_
  exact w_X8_sourOf_5 C hl h o v1 x1 x2
theorem m_X8_sourOf (l : Launch) (h : oh_H) (o : Nat) (v1 : Int32) (p : Int64) (hf : f_X8_sourOf h o v1 = some p) : oh_M l yX8_sourOf wsX8_sourOf rmX8_sourOf 0 0 [xr (some o), xi v1] h (some (xl p)) h :=
  oh_met (cc := cX8_sourOf) (maxL := 5) (ret := (some .long)) (by decide) rfl (Nat.le_of_ble_eq_true rfl) (fun G C hl hN E => w_X8_sourOf_0 C hl h o v1 p hf E)
/-! X8_at -/
theorem k_X8_at_f60 : Cond.fieldLink RX8 60 "OilPressModel" "least" "[I" ∈ wsX8_at := List.mem_of_getElem? (i := 1) (by decide +kernel)
theorem u_X8_at_8 : ∀ w ∈ u_ws RX8 TX8 54, w ∈ wsX8_at := fun w h => List.mem_cons_of_mem _ (List.mem_append_right _ (h))
theorem k_X8_at_f63 : Cond.fieldLink RX8 63 "OilPressModel" "rate" "[I" ∈ wsX8_at := List.mem_of_getElem? (i := 2) (by decide +kernel)
theorem k_X8_at_f66 : Cond.fieldLink RX8 66 "OilPressModel" "busy" "[I" ∈ wsX8_at := List.mem_of_getElem? (i := 3) (by decide +kernel)
theorem k_X8_at_f69 : Cond.fieldLink RX8 69 "OilPressModel" "inBin" "[I" ∈ wsX8_at := List.mem_of_getElem? (i := 4) (by decide +kernel)
theorem k_X8_at_f75 : Cond.fieldLink RX8 75 "OilPressModel" "pressing" "[Z" ∈ wsX8_at := List.mem_of_getElem? (i := 5) (by decide +kernel)
theorem k_X8_at_f78 : Cond.fieldLink RX8 78 "OilPressModel" "washed" "[Z" ∈ wsX8_at := List.mem_of_getElem? (i := 6) (by decide +kernel)
theorem k_X8_at_f81 : Cond.fieldLink RX8 81 "OilPressModel" "likeOf" "[I" ∈ wsX8_at := List.mem_of_getElem? (i := 7) (by decide +kernel)
theorem k_X8_at_f84 : Cond.fieldLink RX8 84 "OilPressModel" "given" "[I" ∈ wsX8_at := List.mem_of_getElem? (i := 8) (by decide +kernel)
theorem k_X8_at_f87 : Cond.fieldLink RX8 87 "OilPressModel" "kept" "[I" ∈ wsX8_at := List.mem_of_getElem? (i := 9) (by decide +kernel)
abbrev rmX8_at : Room := { frames := 3, cells := 0, slots := 0, locals := 69 }
def f_X8_at_110 (h : oh_H) (o : Nat) (s0 : Int32) : Option (Int32) :=
  some s0
def f_X8_at_125 (h : oh_H) (o : Nat) (s0 : Int32) : Option (Int32) :=
  some s0
def f_X8_at_152 (h : oh_H) (o : Nat) (s0 : Int32) : Option (Int32) :=
  some s0
def f_X8_at_172 (h : oh_H) (o : Nat) (s0 : Int32) : Option (Int32) :=
  some s0
def f_X8_at_192 (h : oh_H) (o : Nat) (s0 : Int32) : Option (Int32) :=
  some s0
def f_X8_at_212 (h : oh_H) (o : Nat) (s0 : Int32) : Option (Int32) :=
  some s0
def f_X8_at (h : oh_H) (o : Nat) (v1 : Int32) (v2 : Int32) : Option (Int32) :=
  oh_rc h (some o) 9 fun o2 => (f_X8_isMill h o2 v1).bind fun p3 => if p3 = 0 then (some (-1 : Int32)) else (if v2 = (0 : Int32) then ((oh_gR h (some o) 531).bind fun x5 => (oh_aI h x5 20 v1).bind fun x6 => some x6) else (if v2 = (1 : Int32) then ((oh_gR h (some o) 532).bind fun x7 => (oh_aI h x7 20 v1).bind fun x8 => some x8) else (if v2 = (2 : Int32) then ((oh_gR h (some o) 533).bind fun x9 => (oh_aI h x9 20 v1).bind fun x10 => some x10) else (if v2 = (3 : Int32) then ((oh_gR h (some o) 534).bind fun x11 => (oh_aI h x11 20 v1).bind fun x12 => some x12) else (if v2 = (4 : Int32) then ((oh_gR h (some o) 536).bind fun x13 => (oh_aI h x13 22 v1).bind fun x14 => if x14 = 0 then (f_X8_at_110 h o (0 : Int32)) else (f_X8_at_110 h o (1 : Int32))) else (if v2 = (5 : Int32) then ((oh_gR h (some o) 537).bind fun x15 => (oh_aI h x15 22 v1).bind fun x16 => if x16 = 0 then (f_X8_at_125 h o (0 : Int32)) else (f_X8_at_125 h o (1 : Int32))) else (if v2 = (6 : Int32) then ((oh_gR h (some o) 538).bind fun x17 => (oh_aI h x17 20 v1).bind fun x18 => some x18) else (if v2 = (7 : Int32) then ((oh_gR h (some o) 536).bind fun x19 => (oh_aI h x19 22 v1).bind fun x20 => if x20 = 0 then (f_X8_at_152 h o (0 : Int32)) else (oh_rc h (some o) 9 fun o22 => (f_X8_promised h o22 v1).bind fun p23 => f_X8_at_152 h o (Int64.toInt32 p23))) else (if v2 = (8 : Int32) then ((oh_gR h (some o) 536).bind fun x25 => (oh_aI h x25 22 v1).bind fun x26 => if x26 = 0 then (f_X8_at_172 h o (-1 : Int32)) else ((oh_gR h (some o) 539).bind fun x27 => (oh_aI h x27 20 v1).bind fun x28 => f_X8_at_172 h o x28)) else (if v2 = (9 : Int32) then ((oh_gR h (some o) 536).bind fun x29 => (oh_aI h x29 22 v1).bind fun x30 => if x30 = 0 then (f_X8_at_192 h o (0 : Int32)) else (oh_rc h (some o) 9 fun o32 => (f_X8_sourOf h o32 v1).bind fun p33 => f_X8_at_192 h o (Int64.toInt32 p33))) else (if v2 = (10 : Int32) then ((oh_gR h (some o) 536).bind fun x35 => (oh_aI h x35 22 v1).bind fun x36 => if x36 = 0 then (f_X8_at_212 h o (-1 : Int32)) else ((oh_gR h (some o) 540).bind fun x37 => (oh_aI h x37 20 v1).bind fun x38 => f_X8_at_212 h o x38)) else (some (-1 : Int32)))))))))))))
set_option maxHeartbeats 4000000 in
set_option maxRecDepth 100000 in
theorem w_X8_at_110 {G : oh_G} {l : Launch} (C : oh_C G cX8_at wsX8_at RX8 rmX8_at 3) (hl : G.1.2.1 = l) (h : oh_H) (o : Nat) (s0 : Int32) : oh_J (oh_TR h xi (some .int) G) (f_X8_at_110 h o s0) (oh_V G 0 0 h 110 [] [xi s0]) := by
  unfold f_X8_at_110
  exact or_iretR C dX8_at_110
set_option maxHeartbeats 4000000 in
set_option maxRecDepth 100000 in
theorem w_X8_at_125 {G : oh_G} {l : Launch} (C : oh_C G cX8_at wsX8_at RX8 rmX8_at 3) (hl : G.1.2.1 = l) (h : oh_H) (o : Nat) (s0 : Int32) : oh_J (oh_TR h xi (some .int) G) (f_X8_at_125 h o s0) (oh_V G 0 0 h 125 [] [xi s0]) := by
  unfold f_X8_at_125
  exact or_iretR C dX8_at_125
set_option maxHeartbeats 4000000 in
set_option maxRecDepth 100000 in
theorem w_X8_at_152 {G : oh_G} {l : Launch} (C : oh_C G cX8_at wsX8_at RX8 rmX8_at 3) (hl : G.1.2.1 = l) (h : oh_H) (o : Nat) (s0 : Int32) : oh_J (oh_TR h xi (some .int) G) (f_X8_at_152 h o s0) (oh_V G 0 0 h 152 [] [xi s0]) := by
  unfold f_X8_at_152
  exact or_iretR C dX8_at_152
set_option maxHeartbeats 4000000 in
set_option maxRecDepth 100000 in
theorem w_X8_at_172 {G : oh_G} {l : Launch} (C : oh_C G cX8_at wsX8_at RX8 rmX8_at 3) (hl : G.1.2.1 = l) (h : oh_H) (o : Nat) (s0 : Int32) : oh_J (oh_TR h xi (some .int) G) (f_X8_at_172 h o s0) (oh_V G 0 0 h 172 [] [xi s0]) := by
  unfold f_X8_at_172
  exact or_iretR C dX8_at_172
set_option maxHeartbeats 4000000 in
set_option maxRecDepth 100000 in
theorem w_X8_at_192 {G : oh_G} {l : Launch} (C : oh_C G cX8_at wsX8_at RX8 rmX8_at 3) (hl : G.1.2.1 = l) (h : oh_H) (o : Nat) (s0 : Int32) : oh_J (oh_TR h xi (some .int) G) (f_X8_at_192 h o s0) (oh_V G 0 0 h 192 [] [xi s0]) := by
  unfold f_X8_at_192
  exact or_iretR C dX8_at_192
set_option maxHeartbeats 4000000 in
set_option maxRecDepth 100000 in
theorem w_X8_at_212 {G : oh_G} {l : Launch} (C : oh_C G cX8_at wsX8_at RX8 rmX8_at 3) (hl : G.1.2.1 = l) (h : oh_H) (o : Nat) (s0 : Int32) : oh_J (oh_TR h xi (some .int) G) (f_X8_at_212 h o s0) (oh_V G 0 0 h 212 [] [xi s0]) := by
  unfold f_X8_at_212
  exact or_iretR C dX8_at_212
set_option maxHeartbeats 4000000 in
set_option maxRecDepth 100000 in
theorem w_X8_at_0 {G : oh_G} {l : Launch} (C : oh_C G cX8_at wsX8_at RX8 rmX8_at 3) (hl : G.1.2.1 = l) (h : oh_H) (o : Nat) (v1 : Int32) (v2 : Int32) : oh_J (oh_TR h xi (some .int) G) (f_X8_at h o v1 v2) (oh_V G 0 0 h 0 [(0, xr (some o)), (1, xi v1), (2, xi v2)] []) := by
  unfold f_X8_at
  refine or_aload_n C 0 rfl dX8_at_0 ?_
  refine or_iload_n C 1 rfl dX8_at_1 ?_
  refine oj_rcs (fun q1 => ?_)
  refine oj_bind (fun p3 z4 => ?_)
  refine oj_v (P := oh_V G 0 0 h 5 [(0, xr (some o)), (1, xi v1), (2, xi v2)] [xi p3]) (fun k => or_callV C 1 hl (m_X8_isMill _ h o v1 p3 z4) gX8_at_X8_isMill rfl rfl rfl (by decide +kernel) ⟨Nat.le_of_ble_eq_true rfl, Nat.le_of_ble_eq_true rfl⟩ q1 rfl (by decide) (Nat.le_of_ble_eq_true rfl) dX8_at_2 ⟨Nat.le_of_ble_eq_true rfl, Nat.le_of_ble_eq_true rfl⟩ rfl rfl k) ?_
  refine or_if_ne C 10 dX8_at_5 (by decide) ?_ ?_
  · refine or_iconst C (v := (-1 : Int32)) dX8_at_8 (by decide) ?_
    exact or_iretR C dX8_at_9
  · refine or_iload_n C 2 rfl dX8_at_10 ?_
    refine or_case C (v := (0 : Int32)) 0 68 dX8_at_11 (by decide) (by decide) rfl (by decide) ?_ (fun n0 => ?_)
    · refine or_aload_n C 0 rfl dX8_at_68 ?_
      refine or_getR C 8 19 rfl (by decide) rfl (by decide) u_X8_at_8 (by decide) k_X8_at_f60 (by decide +kernel) dX8_at_69 (fun x5 => ?_)
      refine or_iload_n C 1 rfl dX8_at_72 ?_
      refine or_iald C dX8_at_73 (fun x6 => ?_)
      exact or_iretR C dX8_at_74
    refine or_case C (v := (1 : Int32)) 1 75 dX8_at_11 (by decide) (by decide) rfl (by decide) ?_ (fun n1 => ?_)
    · refine or_aload_n C 0 rfl dX8_at_75 ?_
      refine or_getR C 8 20 rfl (by decide) rfl (by decide) u_X8_at_8 (by decide) k_X8_at_f63 (by decide +kernel) dX8_at_76 (fun x7 => ?_)
      refine or_iload_n C 1 rfl dX8_at_79 ?_
      refine or_iald C dX8_at_80 (fun x8 => ?_)
      exact or_iretR C dX8_at_81
    refine or_case C (v := (2 : Int32)) 2 82 dX8_at_11 (by decide) (by decide) rfl (by decide) ?_ (fun n2 => ?_)
    · refine or_aload_n C 0 rfl dX8_at_82 ?_
      refine or_getR C 8 21 rfl (by decide) rfl (by decide) u_X8_at_8 (by decide) k_X8_at_f66 (by decide +kernel) dX8_at_83 (fun x9 => ?_)
      refine or_iload_n C 1 rfl dX8_at_86 ?_
      refine or_iald C dX8_at_87 (fun x10 => ?_)
      exact or_iretR C dX8_at_88
    refine or_case C (v := (3 : Int32)) 3 89 dX8_at_11 (by decide) (by decide) rfl (by decide) ?_ (fun n3 => ?_)
    · refine or_aload_n C 0 rfl dX8_at_89 ?_
      refine or_getR C 8 22 rfl (by decide) rfl (by decide) u_X8_at_8 (by decide) k_X8_at_f69 (by decide +kernel) dX8_at_90 (fun x11 => ?_)
      refine or_iload_n C 1 rfl dX8_at_93 ?_
      refine or_iald C dX8_at_94 (fun x12 => ?_)
      exact or_iretR C dX8_at_95
    refine or_case C (v := (4 : Int32)) 4 96 dX8_at_11 (by decide) (by decide) rfl (by decide) ?_ (fun n4 => ?_)
    · refine or_aload_n C 0 rfl dX8_at_96 ?_
      refine or_getR C 8 24 rfl (by decide) rfl (by decide) u_X8_at_8 (by decide) k_X8_at_f75 (by decide +kernel) dX8_at_97 (fun x13 => ?_)
      refine or_iload_n C 1 rfl dX8_at_100 ?_
      refine or_zald C dX8_at_101 (fun x14 => ?_)
      refine or_if_eq C 109 dX8_at_102 (by decide) ?_ ?_
      · refine or_iconst C (v := (0 : Int32)) dX8_at_109 (by decide) ?_
        refine or_sub [] rfl ?_
        exact w_X8_at_110 C hl h o (0 : Int32)
      · refine or_iconst C (v := (1 : Int32)) dX8_at_105 (by decide) ?_
        refine or_goto C 110 dX8_at_106 (by decide) ?_
        refine or_sub [] rfl ?_
        exact w_X8_at_110 C hl h o (1 : Int32)
    refine or_case C (v := (5 : Int32)) 5 111 dX8_at_11 (by decide) (by decide) rfl (by decide) ?_ (fun n5 => ?_)
    · refine or_aload_n C 0 rfl dX8_at_111 ?_
      refine or_getR C 8 25 rfl (by decide) rfl (by decide) u_X8_at_8 (by decide) k_X8_at_f78 (by decide +kernel) dX8_at_112 (fun x15 => ?_)
      refine or_iload_n C 1 rfl dX8_at_115 ?_
      refine or_zald C dX8_at_116 (fun x16 => ?_)
      refine or_if_eq C 124 dX8_at_117 (by decide) ?_ ?_
      · refine or_iconst C (v := (0 : Int32)) dX8_at_124 (by decide) ?_
        refine or_sub [] rfl ?_
        exact w_X8_at_125 C hl h o (0 : Int32)
      · refine or_iconst C (v := (1 : Int32)) dX8_at_120 (by decide) ?_
        refine or_goto C 125 dX8_at_121 (by decide) ?_
        refine or_sub [] rfl ?_
        exact w_X8_at_125 C hl h o (1 : Int32)
    refine or_case C (v := (6 : Int32)) 6 126 dX8_at_11 (by decide) (by decide) rfl (by decide) ?_ (fun n6 => ?_)
    · refine or_aload_n C 0 rfl dX8_at_126 ?_
      refine or_getR C 8 26 rfl (by decide) rfl (by decide) u_X8_at_8 (by decide) k_X8_at_f81 (by decide +kernel) dX8_at_127 (fun x17 => ?_)
      refine or_iload_n C 1 rfl dX8_at_130 ?_
      refine or_iald C dX8_at_131 (fun x18 => ?_)
      exact or_iretR C dX8_at_132
    refine or_case C (v := (7 : Int32)) 7 133 dX8_at_11 (by decide) (by decide) rfl (by decide) ?_ (fun n7 => ?_)
    · refine or_aload_n C 0 rfl dX8_at_133 ?_
      refine or_getR C 8 24 rfl (by decide) rfl (by decide) u_X8_at_8 (by decide) k_X8_at_f75 (by decide +kernel) dX8_at_134 (fun x19 => ?_)
      refine or_iload_n C 1 rfl dX8_at_137 ?_
      refine or_zald C dX8_at_138 (fun x20 => ?_)
      refine or_if_eq C 151 dX8_at_139 (by decide) ?_ ?_
      · refine or_iconst C (v := (0 : Int32)) dX8_at_151 (by decide) ?_
        refine or_sub [] rfl ?_
        exact w_X8_at_152 C hl h o (0 : Int32)
      · refine or_aload_n C 0 rfl dX8_at_142 ?_
        refine or_iload_n C 1 rfl dX8_at_143 ?_
        refine oj_rcs (fun q21 => ?_)
        refine oj_bind (fun p23 z24 => ?_)
        refine oj_v (P := oh_V G 0 0 h 147 [(0, xr (some o)), (1, xi v1), (2, xi v2)] [xl p23]) (fun k => or_callV C 1 hl (m_X8_promised _ h o v1 p23 z24) gX8_at_X8_promised rfl rfl rfl (by decide +kernel) ⟨Nat.le_of_ble_eq_true rfl, Nat.le_of_ble_eq_true rfl⟩ q21 rfl (by decide) (Nat.le_of_ble_eq_true rfl) dX8_at_144 ⟨Nat.le_of_ble_eq_true rfl, Nat.le_of_ble_eq_true rfl⟩ rfl rfl k) ?_
        refine or_l2i C dX8_at_147 ?_
        refine or_goto C 152 dX8_at_148 (by decide) ?_
        refine or_sub [] rfl ?_
        exact w_X8_at_152 C hl h o (Int64.toInt32 p23)
    refine or_case C (v := (8 : Int32)) 8 153 dX8_at_11 (by decide) (by decide) rfl (by decide) ?_ (fun n8 => ?_)
    · refine or_aload_n C 0 rfl dX8_at_153 ?_
      refine or_getR C 8 24 rfl (by decide) rfl (by decide) u_X8_at_8 (by decide) k_X8_at_f75 (by decide +kernel) dX8_at_154 (fun x25 => ?_)
      refine or_iload_n C 1 rfl dX8_at_157 ?_
      refine or_zald C dX8_at_158 (fun x26 => ?_)
      refine or_if_eq C 171 dX8_at_159 (by decide) ?_ ?_
      · refine or_iconst C (v := (-1 : Int32)) dX8_at_171 (by decide) ?_
        refine or_sub [] rfl ?_
        exact w_X8_at_172 C hl h o (-1 : Int32)
      · refine or_aload_n C 0 rfl dX8_at_162 ?_
        refine or_getR C 8 27 rfl (by decide) rfl (by decide) u_X8_at_8 (by decide) k_X8_at_f84 (by decide +kernel) dX8_at_163 (fun x27 => ?_)
        refine or_iload_n C 1 rfl dX8_at_166 ?_
        refine or_iald C dX8_at_167 (fun x28 => ?_)
        refine or_goto C 172 dX8_at_168 (by decide) ?_
        refine or_sub [] rfl ?_
        exact w_X8_at_172 C hl h o x28
    refine or_case C (v := (9 : Int32)) 9 173 dX8_at_11 (by decide) (by decide) rfl (by decide) ?_ (fun n9 => ?_)
    · refine or_aload_n C 0 rfl dX8_at_173 ?_
      refine or_getR C 8 24 rfl (by decide) rfl (by decide) u_X8_at_8 (by decide) k_X8_at_f75 (by decide +kernel) dX8_at_174 (fun x29 => ?_)
      refine or_iload_n C 1 rfl dX8_at_177 ?_
      refine or_zald C dX8_at_178 (fun x30 => ?_)
      refine or_if_eq C 191 dX8_at_179 (by decide) ?_ ?_
      · refine or_iconst C (v := (0 : Int32)) dX8_at_191 (by decide) ?_
        refine or_sub [] rfl ?_
        exact w_X8_at_192 C hl h o (0 : Int32)
      · refine or_aload_n C 0 rfl dX8_at_182 ?_
        refine or_iload_n C 1 rfl dX8_at_183 ?_
        refine oj_rcs (fun q31 => ?_)
        refine oj_bind (fun p33 z34 => ?_)
        refine oj_v (P := oh_V G 0 0 h 187 [(0, xr (some o)), (1, xi v1), (2, xi v2)] [xl p33]) (fun k => or_callV C 1 hl (m_X8_sourOf _ h o v1 p33 z34) gX8_at_X8_sourOf rfl rfl rfl (by decide +kernel) ⟨Nat.le_of_ble_eq_true rfl, Nat.le_of_ble_eq_true rfl⟩ q31 rfl (by decide) (Nat.le_of_ble_eq_true rfl) dX8_at_184 ⟨Nat.le_of_ble_eq_true rfl, Nat.le_of_ble_eq_true rfl⟩ rfl rfl k) ?_
        refine or_l2i C dX8_at_187 ?_
        refine or_goto C 192 dX8_at_188 (by decide) ?_
        refine or_sub [] rfl ?_
        exact w_X8_at_192 C hl h o (Int64.toInt32 p33)
    refine or_case C (v := (10 : Int32)) 10 193 dX8_at_11 (by decide) (by decide) rfl (by decide) ?_ (fun n10 => ?_)
    · refine or_aload_n C 0 rfl dX8_at_193 ?_
      refine or_getR C 8 24 rfl (by decide) rfl (by decide) u_X8_at_8 (by decide) k_X8_at_f75 (by decide +kernel) dX8_at_194 (fun x35 => ?_)
      refine or_iload_n C 1 rfl dX8_at_197 ?_
      refine or_zald C dX8_at_198 (fun x36 => ?_)
      refine or_if_eq C 211 dX8_at_199 (by decide) ?_ ?_
      · refine or_iconst C (v := (-1 : Int32)) dX8_at_211 (by decide) ?_
        refine or_sub [] rfl ?_
        exact w_X8_at_212 C hl h o (-1 : Int32)
      · refine or_aload_n C 0 rfl dX8_at_202 ?_
        refine or_getR C 8 28 rfl (by decide) rfl (by decide) u_X8_at_8 (by decide) k_X8_at_f87 (by decide +kernel) dX8_at_203 (fun x37 => ?_)
        refine or_iload_n C 1 rfl dX8_at_206 ?_
        refine or_iald C dX8_at_207 (fun x38 => ?_)
        refine or_goto C 212 dX8_at_208 (by decide) ?_
        refine or_sub [] rfl ?_
        exact w_X8_at_212 C hl h o x38
    refine or_dflt C 213 dX8_at_11 (by omega) (by decide) ?_
    refine or_iconst C (v := (-1 : Int32)) dX8_at_213 (by decide) ?_
    exact or_iretR C dX8_at_214
theorem m_X8_at (l : Launch) (h : oh_H) (o : Nat) (v1 : Int32) (v2 : Int32) (p : Int32) (hf : f_X8_at h o v1 v2 = some p) : oh_M l yX8_at wsX8_at rmX8_at 0 0 [xr (some o), xi v1, xi v2] h (some (xi p)) h :=
  oh_met (cc := cX8_at) (maxL := 3) (ret := (some .int)) (by decide) rfl (Nat.le_of_ble_eq_true rfl) (fun G C hl hN E => w_X8_at_0 C hl h o v1 v2 p hf E)
/-! X8_vat -/
theorem k_X8_vat_c194 : Cond.constant RX8 194 (50000) ∈ wsX8_vat := List.mem_of_getElem? (i := 1) (by decide +kernel)
theorem k_X8_vat_f137 : Cond.fieldLink RX8 137 "OilPressModel" "vats" "I" ∈ wsX8_vat := List.mem_of_getElem? (i := 2) (by decide +kernel)
theorem u_X8_vat_8 : ∀ w ∈ u_ws RX8 TX8 54, w ∈ wsX8_vat := fun w h => List.mem_cons_of_mem _ (List.mem_append_right _ (h))
theorem k_X8_vat_f90 : Cond.fieldLink RX8 90 "OilPressModel" "sort" "[I" ∈ wsX8_vat := List.mem_of_getElem? (i := 3) (by decide +kernel)
theorem k_X8_vat_f93 : Cond.fieldLink RX8 93 "OilPressModel" "isClean" "[Z" ∈ wsX8_vat := List.mem_of_getElem? (i := 4) (by decide +kernel)
theorem k_X8_vat_f96 : Cond.fieldLink RX8 96 "OilPressModel" "room" "[I" ∈ wsX8_vat := List.mem_of_getElem? (i := 5) (by decide +kernel)
abbrev rmX8_vat : Room := { frames := 1, cells := 0, slots := 0, locals := 22 }
def f_X8_vat_28 (h : oh_H) (o : Nat) : Option (Int32 × oh_H) :=
  some ((-1 : Int32), h)
def f_X8_vat (h : oh_H) (o : Nat) (v1 : Int32) (v2 : Int32) (v3 : Int32) : Option (Int32 × oh_H) :=
  (f_X8_in h v1 (0 : Int32) (2 : Int32)).bind fun p1 => if p1 = 0 then (f_X8_vat_28 h o) else ((f_X8_in h v3 (1 : Int32) (50000 : Int32)).bind fun p3 => if p3 = 0 then (f_X8_vat_28 h o) else ((oh_gI h (some o) 541).bind fun x5 => if x5 = (12 : Int32) then (f_X8_vat_28 h o) else ((oh_gR h (some o) 542).bind fun x6 => (oh_gI h (some o) 541).bind fun x7 => (oh_tI h x6 20 x7 v1).bind fun h8 => (oh_gR h8 (some o) 543).bind fun x9 => (oh_gI h8 (some o) 541).bind fun x10 => oh_bz v2 ((oh_tI h8 x9 22 x10 v2).bind fun h11 => (oh_gR h11 (some o) 544).bind fun x12 => (oh_gI h11 (some o) 541).bind fun x13 => (oh_tI h11 x12 20 x13 v3).bind fun h14 => (oh_gI h14 (some o) 541).bind fun x15 => (oh_pI h14 (some o) 541 (x15 + (1 : Int32))).bind fun h16 => (oh_gI h16 (some o) 541).bind fun x17 => some ((x17 - (1 : Int32)), h16)))))
set_option maxHeartbeats 4000000 in
set_option maxRecDepth 100000 in
theorem w_X8_vat_28 {G : oh_G} {l : Launch} (C : oh_C G cX8_vat wsX8_vat RX8 rmX8_vat 4) (hl : G.1.2.1 = l) (h0 : oh_H) (h : oh_H) (o : Nat) : oh_J (oh_TW h0 xi 0 0 (some .int) G) (f_X8_vat_28 h o) (oh_V G 0 0 h 28 [] []) := by
  unfold f_X8_vat_28
  refine or_iconst C (v := (-1 : Int32)) dX8_vat_28 (by decide) ?_
  exact or_iret C ⟨Nat.le_of_ble_eq_true rfl, Nat.le_of_ble_eq_true rfl⟩ dX8_vat_29
set_option maxHeartbeats 4000000 in
set_option maxRecDepth 100000 in
theorem w_X8_vat_0 {G : oh_G} {l : Launch} (C : oh_C G cX8_vat wsX8_vat RX8 rmX8_vat 4) (hl : G.1.2.1 = l) (h0 : oh_H) (h : oh_H) (o : Nat) (v1 : Int32) (v2 : Int32) (v3 : Int32) : oh_J (oh_TW h0 xi 0 0 (some .int) G) (f_X8_vat h o v1 v2 v3) (oh_V G 0 0 h 0 [(0, xr (some o)), (1, xi v1), (2, xi v2), (3, xi v3)] []) := by
  unfold f_X8_vat
  refine or_iload_n C 1 rfl dX8_vat_0 ?_
  refine or_iconst C (v := (0 : Int32)) dX8_vat_1 (by decide) ?_
  refine or_iconst C (v := (2 : Int32)) dX8_vat_2 (by decide) ?_
  refine oj_bind (fun p1 z2 => ?_)
  refine oj_v (P := oh_V G 0 0 h 6 [(0, xr (some o)), (1, xi v1), (2, xi v2), (3, xi v3)] [xi p1]) (fun k => or_callS C 3 hl (m_X8_in _ h v1 (0 : Int32) (2 : Int32) p1 z2) gX8_vat_X8_in rfl rfl rfl (by decide +kernel) ⟨Nat.le_of_ble_eq_true rfl, Nat.le_of_ble_eq_true rfl⟩ (Nat.le_of_ble_eq_true rfl) dX8_vat_3 ⟨Nat.le_of_ble_eq_true rfl, Nat.le_of_ble_eq_true rfl⟩ rfl rfl k) ?_
  refine or_if_eq C 28 dX8_vat_6 (by decide) ?_ ?_
  · refine or_sub [] rfl ?_
    exact w_X8_vat_28 C hl h0 h o
  · refine or_iload_n C 3 rfl dX8_vat_9 ?_
    refine or_iconst C (v := (1 : Int32)) dX8_vat_10 (by decide) ?_
    refine or_ldc C (v := (50000 : Int32)) k_X8_vat_c194 dX8_vat_11 ?_
    refine oj_bind (fun p3 z4 => ?_)
    refine oj_v (P := oh_V G 0 0 h 16 [(0, xr (some o)), (1, xi v1), (2, xi v2), (3, xi v3)] [xi p3]) (fun k => or_callS C 3 hl (m_X8_in _ h v3 (1 : Int32) (50000 : Int32) p3 z4) gX8_vat_X8_in rfl rfl rfl (by decide +kernel) ⟨Nat.le_of_ble_eq_true rfl, Nat.le_of_ble_eq_true rfl⟩ (Nat.le_of_ble_eq_true rfl) dX8_vat_13 ⟨Nat.le_of_ble_eq_true rfl, Nat.le_of_ble_eq_true rfl⟩ rfl rfl k) ?_
    refine or_if_eq C 28 dX8_vat_16 (by decide) ?_ ?_
    · refine or_sub [] rfl ?_
      exact w_X8_vat_28 C hl h0 h o
    · refine or_aload_n C 0 rfl dX8_vat_19 ?_
      refine or_getI C 8 29 rfl (by decide) rfl (by decide) u_X8_vat_8 (by decide) k_X8_vat_f137 (by decide +kernel) dX8_vat_20 (fun x5 => ?_)
      refine or_bipush C (v := (12 : Int32)) dX8_vat_23 (by decide) ?_
      refine or_icmp_ne C 30 dX8_vat_25 (by decide) ?_ ?_
      · refine or_sub [] rfl ?_
        exact w_X8_vat_28 C hl h0 h o
      · refine or_aload_n C 0 rfl dX8_vat_30 ?_
        refine or_getR C 8 30 rfl (by decide) rfl (by decide) u_X8_vat_8 (by decide) k_X8_vat_f90 (by decide +kernel) dX8_vat_31 (fun x6 => ?_)
        refine or_aload_n C 0 rfl dX8_vat_34 ?_
        refine or_getI C 8 29 rfl (by decide) rfl (by decide) u_X8_vat_8 (by decide) k_X8_vat_f137 (by decide +kernel) dX8_vat_35 (fun x7 => ?_)
        refine or_iload_n C 1 rfl dX8_vat_38 ?_
        refine or_iast C dX8_vat_39 (fun h8 => ?_)
        refine or_aload_n C 0 rfl dX8_vat_40 ?_
        refine or_getR C 8 31 rfl (by decide) rfl (by decide) u_X8_vat_8 (by decide) k_X8_vat_f93 (by decide +kernel) dX8_vat_41 (fun x9 => ?_)
        refine or_aload_n C 0 rfl dX8_vat_44 ?_
        refine or_getI C 8 29 rfl (by decide) rfl (by decide) u_X8_vat_8 (by decide) k_X8_vat_f137 (by decide +kernel) dX8_vat_45 (fun x10 => ?_)
        refine or_iload_n C 2 rfl dX8_vat_48 ?_
        refine or_zast C dX8_vat_49 (fun h11 => ?_)
        refine or_aload_n C 0 rfl dX8_vat_50 ?_
        refine or_getR C 8 32 rfl (by decide) rfl (by decide) u_X8_vat_8 (by decide) k_X8_vat_f96 (by decide +kernel) dX8_vat_51 (fun x12 => ?_)
        refine or_aload_n C 0 rfl dX8_vat_54 ?_
        refine or_getI C 8 29 rfl (by decide) rfl (by decide) u_X8_vat_8 (by decide) k_X8_vat_f137 (by decide +kernel) dX8_vat_55 (fun x13 => ?_)
        refine or_iload_n C 3 rfl dX8_vat_58 ?_
        refine or_iast C dX8_vat_59 (fun h14 => ?_)
        refine or_aload_n C 0 rfl dX8_vat_60 ?_
        refine or_dup C rfl dX8_vat_61 ?_
        refine or_getI C 8 29 rfl (by decide) rfl (by decide) u_X8_vat_8 (by decide) k_X8_vat_f137 (by decide +kernel) dX8_vat_62 (fun x15 => ?_)
        refine or_iconst C (v := (1 : Int32)) dX8_vat_65 (by decide) ?_
        refine or_iadd C dX8_vat_66 ?_
        refine or_putI C 8 29 rfl (by decide) rfl (by decide) u_X8_vat_8 tyX8 tyX8_ok nmX8 (by decide) k_X8_vat_f137 (Or.inl rfl) (by decide +kernel) rfl dX8_vat_67 (fun h16 => ?_)
        refine or_aload_n C 0 rfl dX8_vat_70 ?_
        refine or_getI C 8 29 rfl (by decide) rfl (by decide) u_X8_vat_8 (by decide) k_X8_vat_f137 (by decide +kernel) dX8_vat_71 (fun x17 => ?_)
        refine or_iconst C (v := (1 : Int32)) dX8_vat_74 (by decide) ?_
        refine or_isub C dX8_vat_75 ?_
        exact or_iret C ⟨Nat.le_of_ble_eq_true rfl, Nat.le_of_ble_eq_true rfl⟩ dX8_vat_76
theorem m_X8_vat (l : Launch) (h : oh_H) (o : Nat) (v1 : Int32) (v2 : Int32) (v3 : Int32) (p : Int32 × oh_H) (hf : f_X8_vat h o v1 v2 v3 = some p) : oh_M l yX8_vat wsX8_vat rmX8_vat 0 0 [xr (some o), xi v1, xi v2, xi v3] h (some (xi p.1)) p.2 :=
  oh_met (cc := cX8_vat) (maxL := 4) (ret := (some .int)) (by decide) rfl (Nat.le_of_ble_eq_true rfl) (fun G C hl hN E => w_X8_vat_0 C hl h h o v1 v2 v3 p hf E)
/-! X8_mayPour -/
theorem k_X8_mayPour_f69 : Cond.fieldLink RX8 69 "OilPressModel" "inBin" "[I" ∈ wsX8_mayPour := List.mem_of_getElem? (i := 7) (by decide +kernel)
theorem u_X8_mayPour_8 : ∀ w ∈ u_ws RX8 TX8 54, w ∈ wsX8_mayPour := fun w h => List.mem_cons_of_mem _ (List.mem_append_right _ (h))
theorem k_X8_mayPour_f108 : Cond.fieldLink RX8 108 "OilPressModel" "above" "[J" ∈ wsX8_mayPour := List.mem_of_getElem? (i := 9) (by decide +kernel)
theorem k_X8_mayPour_f84 : Cond.fieldLink RX8 84 "OilPressModel" "given" "[I" ∈ wsX8_mayPour := List.mem_of_getElem? (i := 4) (by decide +kernel)
theorem k_X8_mayPour_f112 : Cond.fieldLink RX8 112 "OilPressModel" "below" "[J" ∈ wsX8_mayPour := List.mem_of_getElem? (i := 10) (by decide +kernel)
theorem k_X8_mayPour_f90 : Cond.fieldLink RX8 90 "OilPressModel" "sort" "[I" ∈ wsX8_mayPour := List.mem_of_getElem? (i := 8) (by decide +kernel)
theorem k_X8_mayPour_c197 : Cond.constantLong RX8 197 (200) ∈ wsX8_mayPour := List.mem_of_getElem? (i := 12) (by decide +kernel)
theorem k_X8_mayPour_c195 : Cond.constantLong RX8 195 (80) ∈ wsX8_mayPour := List.mem_of_getElem? (i := 11) (by decide +kernel)
theorem k_X8_mayPour_f26 : Cond.fieldLink RX8 26 "OilPressModel" "kind" "[I" ∈ wsX8_mayPour := List.mem_of_getElem? (i := 1) (by decide +kernel)
theorem k_X8_mayPour_f93 : Cond.fieldLink RX8 93 "OilPressModel" "isClean" "[Z" ∈ wsX8_mayPour := List.mem_of_getElem? (i := 2) (by decide +kernel)
theorem k_X8_mayPour_f99 : Cond.fieldLink RX8 99 "OilPressModel" "oil" "[I" ∈ wsX8_mayPour := List.mem_of_getElem? (i := 3) (by decide +kernel)
theorem k_X8_mayPour_f96 : Cond.fieldLink RX8 96 "OilPressModel" "room" "[I" ∈ wsX8_mayPour := List.mem_of_getElem? (i := 5) (by decide +kernel)
theorem k_X8_mayPour_f105 : Cond.fieldLink RX8 105 "OilPressModel" "tapped" "[Z" ∈ wsX8_mayPour := List.mem_of_getElem? (i := 6) (by decide +kernel)
abbrev rmX8_mayPour : Room := { frames := 3, cells := 0, slots := 0, locals := 69 }
def f_X8_mayPour_62 (h : oh_H) (o : Nat) : Option (Int32) :=
  oh_bz (0 : Int32) (some (0 : Int32))
def f_X8_mayPour_191 (h : oh_H) (o : Nat) (s0 : Int32) : Option (Int32) :=
  oh_bz s0 (some s0)
def f_X8_mayPour_186 (h : oh_H) (o : Nat) : Option (Int32) :=
  f_X8_mayPour_191 h o (1 : Int32)
def f_X8_mayPour_179 (h : oh_H) (o : Nat) (v6 : Int64) (s0 : Int64) (s1 : Int64) : Option (Int32) :=
  if 0 < (lg_cmp s1 (s0 * v6)) then (f_X8_mayPour_191 h o (0 : Int32)) else (f_X8_mayPour_186 h o)
def f_X8_mayPour_105 (h : oh_H) (o : Nat) (v1 : Int32) (v2 : Int32) (v4 : Int32) : Option ((Int32) ⊕ (Int32)) :=
  oh_lt (v4 + (1 : Int32)) fun x1 => some (Sum.inl x1)
abbrev pv_X8_mayPour_67 (G : oh_G) (h : oh_H) (o : Nat) (v1 : Int32) (v2 : Int32) : (Int32) → Prop := fun s => oh_V G 0 0 h 67 [(0, xr (some o)), (1, xi v1), (2, xi v2), (4, xi s)] []
def b_X8_mayPour_67 (h : oh_H) (o : Nat) (v1 : Int32) (v2 : Int32) (v4 : Int32) : Option ((Int32) ⊕ (Int32)) :=
  (oh_gR h (some o) 534).bind fun x1 => (oh_aI h x1 20 v1).bind fun x2 => if x2 ≤ v4 then (Option.map Sum.inr ((oh_gR h (some o) 548).bind fun x3 => (oh_aL h x3 v2).bind fun x4 => (oh_gR h (some o) 539).bind fun x5 => (oh_aI h x5 20 v1).bind fun x6 => oh_rc h (some o) 9 fun o8 => (f_X8_sourOf h o8 v1).bind fun p9 => oh_lt (x4 + ((Int32.toInt64 x6) * p9)) fun x11 => (oh_gR h (some o) 549).bind fun x12 => (oh_aL h x12 v2).bind fun x13 => (oh_gR h (some o) 539).bind fun x14 => (oh_aI h x14 20 v1).bind fun x15 => oh_lt (x13 + (Int32.toInt64 x15)) fun x16 => (oh_gR h (some o) 542).bind fun x17 => (oh_aI h x17 20 v2).bind fun x18 => if x18 = (2 : Int32) then (f_X8_mayPour_186 h o) else ((oh_gR h (some o) 542).bind fun x19 => (oh_aI h x19 20 v2).bind fun x20 => if x20 = 0 then (f_X8_mayPour_179 h o x16 (80 : Int64) x11) else (f_X8_mayPour_179 h o x16 (200 : Int64) x11)))) else ((oh_gR h (some o) 542).bind fun x21 => (oh_aI h x21 20 v2).bind fun x22 => if x22 = 0 then ((oh_gR h (some o) 520).bind fun x23 => oh_rc h (some o) 9 fun o25 => (f_X8_lotIn h o25 v1 v4).bind fun p26 => (oh_aI h x23 20 p26).bind fun x28 => if x28 = (3 : Int32) then (Option.map Sum.inr (oh_bz (0 : Int32) (some (0 : Int32)))) else (f_X8_mayPour_105 h o v1 v2 v4)) else (f_X8_mayPour_105 h o v1 v2 v4))
def f_X8_mayPour_67 (h : oh_H) (o : Nat) (v1 : Int32) (v2 : Int32) (v4 : Int32) : Option (Int32) := oh_loop (fun s : Int32 => b_X8_mayPour_67 h o v1 v2 s) 1000000 (v4)
def f_X8_mayPour_20 (h : oh_H) (o : Nat) (v1 : Int32) (v2 : Int32) (s0 : Int32) : Option (Int32) :=
  oh_lt s0 fun x1 => (oh_gR h (some o) 543).bind fun x2 => (oh_aI h x2 22 v2).bind fun x3 => if x1 = x3 then ((oh_gR h (some o) 545).bind fun x4 => (oh_aI h x4 20 v2).bind fun x5 => (oh_gR h (some o) 539).bind fun x6 => (oh_aI h x6 20 v1).bind fun x7 => (oh_gR h (some o) 544).bind fun x8 => (oh_aI h x8 20 v2).bind fun x9 => if x9 < (x5 + x7) then (f_X8_mayPour_62 h o) else ((oh_gR h (some o) 547).bind fun x10 => (oh_aI h x10 22 v2).bind fun x11 => if x11 = 0 then (oh_lt (0 : Int32) fun x12 => f_X8_mayPour_67 h o v1 v2 x12) else (f_X8_mayPour_62 h o))) else (f_X8_mayPour_62 h o)
def f_X8_mayPour (h : oh_H) (o : Nat) (v1 : Int32) (v2 : Int32) : Option (Int32) :=
  (oh_gR h (some o) 520).bind fun x1 => oh_rc h (some o) 9 fun o3 => (f_X8_lotIn h o3 v1 (0 : Int32)).bind fun p4 => (oh_aI h x1 20 p4).bind fun x6 => if x6 = (2 : Int32) then (f_X8_mayPour_20 h o v1 v2 (1 : Int32)) else (f_X8_mayPour_20 h o v1 v2 (0 : Int32))
set_option maxHeartbeats 4000000 in
set_option maxRecDepth 100000 in
theorem w_X8_mayPour_62 {G : oh_G} {l : Launch} (C : oh_C G cX8_mayPour wsX8_mayPour RX8 rmX8_mayPour 8) (hl : G.1.2.1 = l) (h : oh_H) (o : Nat) : oh_J (oh_TR h xi (some .boolean) G) (f_X8_mayPour_62 h o) (oh_V G 0 0 h 62 [] []) := by
  unfold f_X8_mayPour_62
  refine or_iconst C (v := (0 : Int32)) dX8_mayPour_62 (by decide) ?_
  exact or_zretR C dX8_mayPour_63
set_option maxHeartbeats 4000000 in
set_option maxRecDepth 100000 in
theorem w_X8_mayPour_191 {G : oh_G} {l : Launch} (C : oh_C G cX8_mayPour wsX8_mayPour RX8 rmX8_mayPour 8) (hl : G.1.2.1 = l) (h : oh_H) (o : Nat) (s0 : Int32) : oh_J (oh_TR h xi (some .boolean) G) (f_X8_mayPour_191 h o s0) (oh_V G 0 0 h 191 [] [xi s0]) := by
  unfold f_X8_mayPour_191
  exact or_zretR C dX8_mayPour_191
set_option maxHeartbeats 4000000 in
set_option maxRecDepth 100000 in
theorem w_X8_mayPour_186 {G : oh_G} {l : Launch} (C : oh_C G cX8_mayPour wsX8_mayPour RX8 rmX8_mayPour 8) (hl : G.1.2.1 = l) (h : oh_H) (o : Nat) : oh_J (oh_TR h xi (some .boolean) G) (f_X8_mayPour_186 h o) (oh_V G 0 0 h 186 [] []) := by
  unfold f_X8_mayPour_186
  refine or_iconst C (v := (1 : Int32)) dX8_mayPour_186 (by decide) ?_
  refine or_goto C 191 dX8_mayPour_187 (by decide) ?_
  refine or_sub [] rfl ?_
  exact w_X8_mayPour_191 C hl h o (1 : Int32)
set_option maxHeartbeats 4000000 in
set_option maxRecDepth 100000 in
theorem w_X8_mayPour_179 {G : oh_G} {l : Launch} (C : oh_C G cX8_mayPour wsX8_mayPour RX8 rmX8_mayPour 8) (hl : G.1.2.1 = l) (h : oh_H) (o : Nat) (v6 : Int64) (s0 : Int64) (s1 : Int64) : oh_J (oh_TR h xi (some .boolean) G) (f_X8_mayPour_179 h o v6 s0 s1) (oh_V G 0 0 h 179 [(6, xl v6)] [xl s0, xl s1]) := by
  unfold f_X8_mayPour_179
  refine or_lload C 0 rfl dX8_mayPour_179 ?_
  refine or_lmul C dX8_mayPour_181 ?_
  refine or_lcmp C dX8_mayPour_182 ?_
  refine or_if_gt C 190 dX8_mayPour_183 (by decide) ?_ ?_
  · refine or_iconst C (v := (0 : Int32)) dX8_mayPour_190 (by decide) ?_
    refine or_sub [] rfl ?_
    exact w_X8_mayPour_191 C hl h o (0 : Int32)
  · refine or_sub [] rfl ?_
    exact w_X8_mayPour_186 C hl h o
set_option maxHeartbeats 4000000 in
set_option maxRecDepth 100000 in
theorem w_X8_mayPour_105 {G : oh_G} {l : Launch} (C : oh_C G cX8_mayPour wsX8_mayPour RX8 rmX8_mayPour 8) (hl : G.1.2.1 = l) (h : oh_H) (o : Nat) (v1 : Int32) (v2 : Int32) (v4 : Int32) : oh_J (oh_TL (pv_X8_mayPour_67 G h o v1 v2) (oh_TR h xi (some .boolean) G)) (f_X8_mayPour_105 h o v1 v2 v4) (oh_V G 0 0 h 105 [(0, xr (some o)), (1, xi v1), (2, xi v2), (4, xi v4)] []) := by
  unfold f_X8_mayPour_105
  refine or_iinc C (y := (1 : Int32)) 3 rfl (by decide) (fun x1 => [(4, xi x1), (0, xr (some o)), (1, xi v1), (2, xi v2)]) (fun _ => rfl) (by decide) dX8_mayPour_105 (fun x1 => ?_)
  refine or_goto C 67 dX8_mayPour_108 (by decide) ?_
  refine or_sub [1, 2, 3, 0] rfl ?_
  exact oj_back (P := pv_X8_mayPour_67 G h o v1 v2) (s := x1)
set_option maxHeartbeats 4000000 in
set_option maxRecDepth 100000 in
theorem wb_X8_mayPour_67 {G : oh_G} {l : Launch} (C : oh_C G cX8_mayPour wsX8_mayPour RX8 rmX8_mayPour 8) (hl : G.1.2.1 = l) (h : oh_H) (o : Nat) (v1 : Int32) (v2 : Int32) (v4 : Int32) : oh_J (oh_TL (pv_X8_mayPour_67 G h o v1 v2) (oh_TR h xi (some .boolean) G)) (b_X8_mayPour_67 h o v1 v2 v4) (oh_V G 0 0 h 67 [(0, xr (some o)), (1, xi v1), (2, xi v2), (4, xi v4)] []) := by
  unfold b_X8_mayPour_67
  refine or_iload C 3 rfl dX8_mayPour_67 ?_
  refine or_aload_n C 0 rfl dX8_mayPour_69 ?_
  refine or_getR C 8 22 rfl (by decide) rfl (by decide) u_X8_mayPour_8 (by decide) k_X8_mayPour_f69 (by decide +kernel) dX8_mayPour_70 (fun x1 => ?_)
  refine or_iload_n C 1 rfl dX8_mayPour_73 ?_
  refine or_iald C dX8_mayPour_74 (fun x2 => ?_)
  refine or_icmp_ge C 111 dX8_mayPour_75 (by decide) ?_ ?_
  · refine oj_inr ?_
    refine or_aload_n C 0 rfl dX8_mayPour_111 ?_
    refine or_getR C 8 36 rfl (by decide) rfl (by decide) u_X8_mayPour_8 (by decide) k_X8_mayPour_f108 (by decide +kernel) dX8_mayPour_112 (fun x3 => ?_)
    refine or_iload_n C 2 rfl dX8_mayPour_115 ?_
    refine or_lald C dX8_mayPour_116 (fun x4 => ?_)
    refine or_aload_n C 0 rfl dX8_mayPour_117 ?_
    refine or_getR C 8 27 rfl (by decide) rfl (by decide) u_X8_mayPour_8 (by decide) k_X8_mayPour_f84 (by decide +kernel) dX8_mayPour_118 (fun x5 => ?_)
    refine or_iload_n C 1 rfl dX8_mayPour_121 ?_
    refine or_iald C dX8_mayPour_122 (fun x6 => ?_)
    refine or_i2l C dX8_mayPour_123 ?_
    refine or_aload_n C 0 rfl dX8_mayPour_124 ?_
    refine or_iload_n C 1 rfl dX8_mayPour_125 ?_
    refine oj_rcs (fun q7 => ?_)
    refine oj_bind (fun p9 z10 => ?_)
    refine oj_v (P := oh_V G 0 0 h 129 [(0, xr (some o)), (1, xi v1), (2, xi v2), (4, xi v4)] [xl p9, xl (Int32.toInt64 x6), xl x4]) (fun k => or_callV C 1 hl (m_X8_sourOf _ h o v1 p9 z10) gX8_mayPour_X8_sourOf rfl rfl rfl (by decide +kernel) ⟨Nat.le_of_ble_eq_true rfl, Nat.le_of_ble_eq_true rfl⟩ q7 rfl (by decide) (Nat.le_of_ble_eq_true rfl) dX8_mayPour_126 ⟨Nat.le_of_ble_eq_true rfl, Nat.le_of_ble_eq_true rfl⟩ rfl rfl k) ?_
    refine or_lmul C dX8_mayPour_129 ?_
    refine or_ladd C dX8_mayPour_130 ?_
    refine or_lstore C (fun x11 => [(4, xl x11), (0, xr (some o)), (1, xi v1), (2, xi v2)]) (fun _ => rfl) (by decide) dX8_mayPour_131 (fun x11 => ?_)
    refine or_aload_n C 1 rfl dX8_mayPour_133 ?_
    refine or_getR C 8 37 rfl (by decide) rfl (by decide) u_X8_mayPour_8 (by decide) k_X8_mayPour_f112 (by decide +kernel) dX8_mayPour_134 (fun x12 => ?_)
    refine or_iload_n C 3 rfl dX8_mayPour_137 ?_
    refine or_lald C dX8_mayPour_138 (fun x13 => ?_)
    refine or_aload_n C 1 rfl dX8_mayPour_139 ?_
    refine or_getR C 8 27 rfl (by decide) rfl (by decide) u_X8_mayPour_8 (by decide) k_X8_mayPour_f84 (by decide +kernel) dX8_mayPour_140 (fun x14 => ?_)
    refine or_iload_n C 2 rfl dX8_mayPour_143 ?_
    refine or_iald C dX8_mayPour_144 (fun x15 => ?_)
    refine or_i2l C dX8_mayPour_145 ?_
    refine or_ladd C dX8_mayPour_146 ?_
    refine or_lstore C (fun x16 => [(6, xl x16), (4, xl x11), (0, xr (some o)), (1, xi v1), (2, xi v2)]) (fun _ => rfl) (by decide) dX8_mayPour_147 (fun x16 => ?_)
    refine or_aload_n C 2 rfl dX8_mayPour_149 ?_
    refine or_getR C 8 30 rfl (by decide) rfl (by decide) u_X8_mayPour_8 (by decide) k_X8_mayPour_f90 (by decide +kernel) dX8_mayPour_150 (fun x17 => ?_)
    refine or_iload_n C 4 rfl dX8_mayPour_153 ?_
    refine or_iald C dX8_mayPour_154 (fun x18 => ?_)
    refine or_iconst C (v := (2 : Int32)) dX8_mayPour_155 (by decide) ?_
    refine or_icmp_eq C 186 dX8_mayPour_156 (by decide) ?_ ?_
    · refine or_sub [] rfl ?_
      exact w_X8_mayPour_186 C hl h o
    · refine or_lload C 1 rfl dX8_mayPour_159 ?_
      refine or_aload_n C 2 rfl dX8_mayPour_161 ?_
      refine or_getR C 8 30 rfl (by decide) rfl (by decide) u_X8_mayPour_8 (by decide) k_X8_mayPour_f90 (by decide +kernel) dX8_mayPour_162 (fun x19 => ?_)
      refine or_iload_n C 4 rfl dX8_mayPour_165 ?_
      refine or_iald C dX8_mayPour_166 (fun x20 => ?_)
      refine or_if_ne C 176 dX8_mayPour_167 (by decide) ?_ ?_
      · refine or_ldc2 C (v := (80 : Int64)) k_X8_mayPour_c195 dX8_mayPour_170 ?_
        refine or_goto C 179 dX8_mayPour_173 (by decide) ?_
        refine or_sub [0] rfl ?_
        exact w_X8_mayPour_179 C hl h o x16 (80 : Int64) x11
      · refine or_ldc2 C (v := (200 : Int64)) k_X8_mayPour_c197 dX8_mayPour_176 ?_
        refine or_sub [0] rfl ?_
        exact w_X8_mayPour_179 C hl h o x16 (200 : Int64) x11
  · refine or_aload_n C 0 rfl dX8_mayPour_78 ?_
    refine or_getR C 8 30 rfl (by decide) rfl (by decide) u_X8_mayPour_8 (by decide) k_X8_mayPour_f90 (by decide +kernel) dX8_mayPour_79 (fun x21 => ?_)
    refine or_iload_n C 2 rfl dX8_mayPour_82 ?_
    refine or_iald C dX8_mayPour_83 (fun x22 => ?_)
    refine or_if_ne C 105 dX8_mayPour_84 (by decide) ?_ ?_
    · refine or_aload_n C 0 rfl dX8_mayPour_87 ?_
      refine or_getR C 8 8 rfl (by decide) rfl (by decide) u_X8_mayPour_8 (by decide) k_X8_mayPour_f26 (by decide +kernel) dX8_mayPour_88 (fun x23 => ?_)
      refine or_aload_n C 0 rfl dX8_mayPour_91 ?_
      refine or_iload_n C 1 rfl dX8_mayPour_92 ?_
      refine or_iload C 3 rfl dX8_mayPour_93 ?_
      refine oj_rcs (fun q24 => ?_)
      refine oj_bind (fun p26 z27 => ?_)
      refine oj_v (P := oh_V G 0 0 h 98 [(0, xr (some o)), (1, xi v1), (2, xi v2), (4, xi v4)] [xi p26, xr x23]) (fun k => or_callV C 2 hl (m_X8_lotIn _ h o v1 v4 p26 z27) gX8_mayPour_X8_lotIn rfl rfl rfl (by decide +kernel) ⟨Nat.le_of_ble_eq_true rfl, Nat.le_of_ble_eq_true rfl⟩ q24 rfl (by decide) (Nat.le_of_ble_eq_true rfl) dX8_mayPour_95 ⟨Nat.le_of_ble_eq_true rfl, Nat.le_of_ble_eq_true rfl⟩ rfl rfl k) ?_
      refine or_iald C dX8_mayPour_98 (fun x28 => ?_)
      refine or_iconst C (v := (3 : Int32)) dX8_mayPour_99 (by decide) ?_
      refine or_icmp_ne C 105 dX8_mayPour_100 (by decide) ?_ ?_
      · refine oj_inr ?_
        refine or_iconst C (v := (0 : Int32)) dX8_mayPour_103 (by decide) ?_
        exact or_zretR C dX8_mayPour_104
      · refine or_sub [0, 1, 2, 3] rfl ?_
        exact w_X8_mayPour_105 C hl h o v1 v2 v4
    · refine or_sub [0, 1, 2, 3] rfl ?_
      exact w_X8_mayPour_105 C hl h o v1 v2 v4
theorem w_X8_mayPour_67 {G : oh_G} {l : Launch} (C : oh_C G cX8_mayPour wsX8_mayPour RX8 rmX8_mayPour 8) (hl : G.1.2.1 = l) (h : oh_H) (o : Nat) (v1 : Int32) (v2 : Int32) (v4 : Int32) : oh_J (oh_TR h xi (some .boolean) G) (f_X8_mayPour_67 h o v1 v2 v4) (oh_V G 0 0 h 67 [(0, xr (some o)), (1, xi v1), (2, xi v2), (4, xi v4)] []) := by
  unfold f_X8_mayPour_67
  exact oj_loop (P := pv_X8_mayPour_67 G h o v1 v2) (fun s => wb_X8_mayPour_67 C hl h o v1 v2 s) 1000000 (v4)
set_option maxHeartbeats 4000000 in
set_option maxRecDepth 100000 in
theorem w_X8_mayPour_20 {G : oh_G} {l : Launch} (C : oh_C G cX8_mayPour wsX8_mayPour RX8 rmX8_mayPour 8) (hl : G.1.2.1 = l) (h : oh_H) (o : Nat) (v1 : Int32) (v2 : Int32) (s0 : Int32) : oh_J (oh_TR h xi (some .boolean) G) (f_X8_mayPour_20 h o v1 v2 s0) (oh_V G 0 0 h 20 [(0, xr (some o)), (1, xi v1), (2, xi v2)] [xi s0]) := by
  unfold f_X8_mayPour_20
  refine or_istore_n C (fun x1 => [(3, xi x1), (0, xr (some o)), (1, xi v1), (2, xi v2)]) (fun _ => rfl) (by decide) dX8_mayPour_20 (fun x1 => ?_)
  refine or_iload_n C 0 rfl dX8_mayPour_21 ?_
  refine or_aload_n C 1 rfl dX8_mayPour_22 ?_
  refine or_getR C 8 31 rfl (by decide) rfl (by decide) u_X8_mayPour_8 (by decide) k_X8_mayPour_f93 (by decide +kernel) dX8_mayPour_23 (fun x2 => ?_)
  refine or_iload_n C 3 rfl dX8_mayPour_26 ?_
  refine or_zald C dX8_mayPour_27 (fun x3 => ?_)
  refine or_icmp_ne C 62 dX8_mayPour_28 (by decide) ?_ ?_
  · refine or_aload_n C 1 rfl dX8_mayPour_31 ?_
    refine or_getR C 8 33 rfl (by decide) rfl (by decide) u_X8_mayPour_8 (by decide) k_X8_mayPour_f99 (by decide +kernel) dX8_mayPour_32 (fun x4 => ?_)
    refine or_iload_n C 3 rfl dX8_mayPour_35 ?_
    refine or_iald C dX8_mayPour_36 (fun x5 => ?_)
    refine or_aload_n C 1 rfl dX8_mayPour_37 ?_
    refine or_getR C 8 27 rfl (by decide) rfl (by decide) u_X8_mayPour_8 (by decide) k_X8_mayPour_f84 (by decide +kernel) dX8_mayPour_38 (fun x6 => ?_)
    refine or_iload_n C 2 rfl dX8_mayPour_41 ?_
    refine or_iald C dX8_mayPour_42 (fun x7 => ?_)
    refine or_iadd C dX8_mayPour_43 ?_
    refine or_aload_n C 1 rfl dX8_mayPour_44 ?_
    refine or_getR C 8 32 rfl (by decide) rfl (by decide) u_X8_mayPour_8 (by decide) k_X8_mayPour_f96 (by decide +kernel) dX8_mayPour_45 (fun x8 => ?_)
    refine or_iload_n C 3 rfl dX8_mayPour_48 ?_
    refine or_iald C dX8_mayPour_49 (fun x9 => ?_)
    refine or_icmp_gt C 62 dX8_mayPour_50 (by decide) ?_ ?_
    · refine or_sub [] rfl ?_
      exact w_X8_mayPour_62 C hl h o
    · refine or_aload_n C 1 rfl dX8_mayPour_53 ?_
      refine or_getR C 8 35 rfl (by decide) rfl (by decide) u_X8_mayPour_8 (by decide) k_X8_mayPour_f105 (by decide +kernel) dX8_mayPour_54 (fun x10 => ?_)
      refine or_iload_n C 3 rfl dX8_mayPour_57 ?_
      refine or_zald C dX8_mayPour_58 (fun x11 => ?_)
      refine or_if_eq C 64 dX8_mayPour_59 (by decide) ?_ ?_
      · refine or_iconst C (v := (0 : Int32)) dX8_mayPour_64 (by decide) ?_
        refine or_istore C (fun x12 => [(4, xi x12), (3, xi x1), (0, xr (some o)), (1, xi v1), (2, xi v2)]) (fun _ => rfl) (by decide) dX8_mayPour_65 (fun x12 => ?_)
        refine or_sub [2, 3, 4, 0] rfl ?_
        exact w_X8_mayPour_67 C hl h o v1 v2 x12
      · refine or_sub [] rfl ?_
        exact w_X8_mayPour_62 C hl h o
  · refine or_sub [] rfl ?_
    exact w_X8_mayPour_62 C hl h o
set_option maxHeartbeats 4000000 in
set_option maxRecDepth 100000 in
theorem w_X8_mayPour_0 {G : oh_G} {l : Launch} (C : oh_C G cX8_mayPour wsX8_mayPour RX8 rmX8_mayPour 8) (hl : G.1.2.1 = l) (h : oh_H) (o : Nat) (v1 : Int32) (v2 : Int32) : oh_J (oh_TR h xi (some .boolean) G) (f_X8_mayPour h o v1 v2) (oh_V G 0 0 h 0 [(0, xr (some o)), (1, xi v1), (2, xi v2)] []) := by
  unfold f_X8_mayPour
  refine or_aload_n C 0 rfl dX8_mayPour_0 ?_
  refine or_getR C 8 8 rfl (by decide) rfl (by decide) u_X8_mayPour_8 (by decide) k_X8_mayPour_f26 (by decide +kernel) dX8_mayPour_1 (fun x1 => ?_)
  refine or_aload_n C 0 rfl dX8_mayPour_4 ?_
  refine or_iload_n C 1 rfl dX8_mayPour_5 ?_
  refine or_iconst C (v := (0 : Int32)) dX8_mayPour_6 (by decide) ?_
  refine oj_rcs (fun q2 => ?_)
  refine oj_bind (fun p4 z5 => ?_)
  refine oj_v (P := oh_V G 0 0 h 10 [(0, xr (some o)), (1, xi v1), (2, xi v2)] [xi p4, xr x1]) (fun k => or_callV C 2 hl (m_X8_lotIn _ h o v1 (0 : Int32) p4 z5) gX8_mayPour_X8_lotIn rfl rfl rfl (by decide +kernel) ⟨Nat.le_of_ble_eq_true rfl, Nat.le_of_ble_eq_true rfl⟩ q2 rfl (by decide) (Nat.le_of_ble_eq_true rfl) dX8_mayPour_7 ⟨Nat.le_of_ble_eq_true rfl, Nat.le_of_ble_eq_true rfl⟩ rfl rfl k) ?_
  refine or_iald C dX8_mayPour_10 (fun x6 => ?_)
  refine or_iconst C (v := (2 : Int32)) dX8_mayPour_11 (by decide) ?_
  refine or_icmp_ne C 19 dX8_mayPour_12 (by decide) ?_ ?_
  · refine or_iconst C (v := (1 : Int32)) dX8_mayPour_15 (by decide) ?_
    refine or_goto C 20 dX8_mayPour_16 (by decide) ?_
    refine or_sub [0, 1, 2] rfl ?_
    exact w_X8_mayPour_20 C hl h o v1 v2 (1 : Int32)
  · refine or_iconst C (v := (0 : Int32)) dX8_mayPour_19 (by decide) ?_
    refine or_sub [0, 1, 2] rfl ?_
    exact w_X8_mayPour_20 C hl h o v1 v2 (0 : Int32)
theorem m_X8_mayPour (l : Launch) (h : oh_H) (o : Nat) (v1 : Int32) (v2 : Int32) (p : Int32) (hf : f_X8_mayPour h o v1 v2 = some p) : oh_M l yX8_mayPour wsX8_mayPour rmX8_mayPour 0 0 [xr (some o), xi v1, xi v2] h (some (xi p)) h :=
  oh_met (cc := cX8_mayPour) (maxL := 8) (ret := (some .boolean)) (by decide) rfl (Nat.le_of_ble_eq_true rfl) (fun G C hl hN E => w_X8_mayPour_0 C hl h o v1 v2 p hf E)
/-! X8_pour -/
theorem k_X8_pour_f69 : Cond.fieldLink RX8 69 "OilPressModel" "inBin" "[I" ∈ wsX8_pour := List.mem_of_getElem? (i := 8) (by decide +kernel)
theorem u_X8_pour_8 : ∀ w ∈ u_ws RX8 TX8 54, w ∈ wsX8_pour := fun w h => List.mem_cons_of_mem _ (List.mem_append_right _ (h))
theorem k_X8_pour_f75 : Cond.fieldLink RX8 75 "OilPressModel" "pressing" "[Z" ∈ wsX8_pour := List.mem_of_getElem? (i := 1) (by decide +kernel)
theorem k_X8_pour_f84 : Cond.fieldLink RX8 84 "OilPressModel" "given" "[I" ∈ wsX8_pour := List.mem_of_getElem? (i := 4) (by decide +kernel)
theorem k_X8_pour_f87 : Cond.fieldLink RX8 87 "OilPressModel" "kept" "[I" ∈ wsX8_pour := List.mem_of_getElem? (i := 2) (by decide +kernel)
theorem k_X8_pour_f99 : Cond.fieldLink RX8 99 "OilPressModel" "oil" "[I" ∈ wsX8_pour := List.mem_of_getElem? (i := 6) (by decide +kernel)
theorem k_X8_pour_f35 : Cond.fieldLink RX8 35 "OilPressModel" "state" "[I" ∈ wsX8_pour := List.mem_of_getElem? (i := 9) (by decide +kernel)
theorem k_X8_pour_f50 : Cond.fieldLink RX8 50 "OilPressModel" "left" "[I" ∈ wsX8_pour := List.mem_of_getElem? (i := 10) (by decide +kernel)
theorem k_X8_pour_f47 : Cond.fieldLink RX8 47 "OilPressModel" "shares" "[I" ∈ wsX8_pour := List.mem_of_getElem? (i := 11) (by decide +kernel)
theorem k_X8_pour_f53 : Cond.fieldLink RX8 53 "OilPressModel" "where" "[I" ∈ wsX8_pour := List.mem_of_getElem? (i := 12) (by decide +kernel)
theorem k_X8_pour_f108 : Cond.fieldLink RX8 108 "OilPressModel" "above" "[J" ∈ wsX8_pour := List.mem_of_getElem? (i := 3) (by decide +kernel)
theorem k_X8_pour_f112 : Cond.fieldLink RX8 112 "OilPressModel" "below" "[J" ∈ wsX8_pour := List.mem_of_getElem? (i := 5) (by decide +kernel)
theorem k_X8_pour_f102 : Cond.fieldLink RX8 102 "OilPressModel" "own" "[I" ∈ wsX8_pour := List.mem_of_getElem? (i := 7) (by decide +kernel)
abbrev rmX8_pour : Room := { frames := 4, cells := 0, slots := 0, locals := 96 }
def f_X8_pour_44 (h : oh_H) (o : Nat) : Option (Int32 × oh_H) :=
  some ((-1 : Int32), h)
abbrev pv_X8_pour_116 (G : oh_G) (o : Nat) (v1 : Int32) (v2 : Int32) : (oh_H × Int32) → Prop := fun s => oh_V G 0 0 s.1 116 [(0, xr (some o)), (1, xi v1), (2, xi v2), (3, xi s.2)] []
def b_X8_pour_116 (h : oh_H) (o : Nat) (v1 : Int32) (v2 : Int32) (v3 : Int32) : Option ((oh_H × Int32) ⊕ (Int32 × oh_H)) :=
  (oh_gR h (some o) 534).bind fun x1 => (oh_aI h x1 20 v1).bind fun x2 => if x2 ≤ v3 then (Option.map Sum.inr ((oh_gR h (some o) 534).bind fun x3 => (oh_tI h x3 20 v1 (0 : Int32)).bind fun h4 => (oh_gR h4 (some o) 536).bind fun x5 => oh_bz (0 : Int32) ((oh_tI h4 x5 22 v1 (0 : Int32)).bind fun h6 => (oh_gR h6 (some o) 539).bind fun x7 => (oh_tI h6 x7 20 v1 (-1 : Int32)).bind fun h8 => (oh_gR h8 (some o) 540).bind fun x9 => (oh_tI h8 x9 20 v1 (-1 : Int32)).bind fun h10 => (oh_gR h10 (some o) 545).bind fun x11 => (oh_aI h10 x11 20 v2).bind fun x12 => some (x12, h10)))) else (oh_rc h (some o) 9 fun o14 => (f_X8_lotIn h o14 v1 v3).bind fun p15 => oh_lt p15 fun x17 => (oh_gR h (some o) 523).bind fun x18 => (oh_tI h x18 20 x17 (6 : Int32)).bind fun h19 => (oh_gR h19 (some o) 528).bind fun x20 => (oh_gR h19 (some o) 527).bind fun x21 => (oh_aI h19 x21 20 x17).bind fun x22 => (oh_tI h19 x20 20 x17 x22).bind fun h23 => (oh_gR h23 (some o) 529).bind fun x24 => (oh_tI h23 x24 20 x17 v2).bind fun h25 => oh_lt (v3 + (1 : Int32)) fun x26 => some (Sum.inl (h25, x26)))
def f_X8_pour_116 (h : oh_H) (o : Nat) (v1 : Int32) (v2 : Int32) (v3 : Int32) : Option (Int32 × oh_H) := oh_loop (fun s : oh_H × Int32 => b_X8_pour_116 s.1 o v1 v2 s.2) 1000000 (h, v3)
def f_X8_pour (h : oh_H) (o : Nat) (v1 : Int32) (v2 : Int32) : Option (Int32 × oh_H) :=
  oh_rc h (some o) 9 fun o2 => (f_X8_isMill h o2 v1).bind fun p3 => if p3 = 0 then (f_X8_pour_44 h o) else ((oh_gR h (some o) 536).bind fun x5 => (oh_aI h x5 22 v1).bind fun x6 => if x6 = 0 then (f_X8_pour_44 h o) else ((oh_gR h (some o) 540).bind fun x7 => (oh_aI h x7 20 v1).bind fun x8 => if x8 = (-1 : Int32) then (f_X8_pour_44 h o) else (oh_rc h (some o) 9 fun o10 => (f_X8_isVat h o10 v2).bind fun p11 => if p11 = 0 then (f_X8_pour_44 h o) else (oh_rc h (some o) 9 fun o14 => (f_X8_mayPour h o14 v1 v2).bind fun p15 => if p15 = 0 then (f_X8_pour_44 h o) else ((oh_gR h (some o) 548).bind fun x17 => (oh_aL h x17 v2).bind fun x18 => (oh_gR h (some o) 539).bind fun x19 => (oh_aI h x19 20 v1).bind fun x20 => oh_rc h (some o) 9 fun o22 => (f_X8_sourOf h o22 v1).bind fun p23 => (oh_tL h x17 v2 (x18 + ((Int32.toInt64 x20) * p23))).bind fun h25 => (oh_gR h25 (some o) 549).bind fun x26 => (oh_aL h25 x26 v2).bind fun x27 => (oh_gR h25 (some o) 539).bind fun x28 => (oh_aI h25 x28 20 v1).bind fun x29 => (oh_tL h25 x26 v2 (x27 + (Int32.toInt64 x29))).bind fun h30 => (oh_gR h30 (some o) 545).bind fun x31 => (oh_aI h30 x31 20 v2).bind fun x32 => (oh_gR h30 (some o) 539).bind fun x33 => (oh_aI h30 x33 20 v1).bind fun x34 => (oh_tI h30 x31 20 v2 (x32 + x34)).bind fun h35 => (oh_gR h35 (some o) 546).bind fun x36 => (oh_aI h35 x36 20 v2).bind fun x37 => (oh_gR h35 (some o) 540).bind fun x38 => (oh_aI h35 x38 20 v1).bind fun x39 => (oh_tI h35 x36 20 v2 (x37 + x39)).bind fun h40 => oh_lt (0 : Int32) fun x41 => f_X8_pour_116 h40 o v1 v2 x41)))))
set_option maxHeartbeats 4000000 in
set_option maxRecDepth 100000 in
theorem w_X8_pour_44 {G : oh_G} {l : Launch} (C : oh_C G cX8_pour wsX8_pour RX8 rmX8_pour 5) (hl : G.1.2.1 = l) (h0 : oh_H) (h : oh_H) (o : Nat) : oh_J (oh_TW h0 xi 0 0 (some .int) G) (f_X8_pour_44 h o) (oh_V G 0 0 h 44 [] []) := by
  unfold f_X8_pour_44
  refine or_iconst C (v := (-1 : Int32)) dX8_pour_44 (by decide) ?_
  exact or_iret C ⟨Nat.le_of_ble_eq_true rfl, Nat.le_of_ble_eq_true rfl⟩ dX8_pour_45
set_option maxHeartbeats 4000000 in
set_option maxRecDepth 100000 in
theorem wb_X8_pour_116 {G : oh_G} {l : Launch} (C : oh_C G cX8_pour wsX8_pour RX8 rmX8_pour 5) (hl : G.1.2.1 = l) (h0 : oh_H) (h : oh_H) (o : Nat) (v1 : Int32) (v2 : Int32) (v3 : Int32) : oh_J (oh_TL (pv_X8_pour_116 G o v1 v2) (oh_TW h0 xi 0 0 (some .int) G)) (b_X8_pour_116 h o v1 v2 v3) (oh_V G 0 0 h 116 [(0, xr (some o)), (1, xi v1), (2, xi v2), (3, xi v3)] []) := by
  unfold b_X8_pour_116
  refine or_iload_n C 3 rfl dX8_pour_116 ?_
  refine or_aload_n C 0 rfl dX8_pour_117 ?_
  refine or_getR C 8 22 rfl (by decide) rfl (by decide) u_X8_pour_8 (by decide) k_X8_pour_f69 (by decide +kernel) dX8_pour_118 (fun x1 => ?_)
  refine or_iload_n C 1 rfl dX8_pour_121 ?_
  refine or_iald C dX8_pour_122 (fun x2 => ?_)
  refine or_icmp_ge C 171 dX8_pour_123 (by decide) ?_ ?_
  · refine oj_inr ?_
    refine or_aload_n C 0 rfl dX8_pour_171 ?_
    refine or_getR C 8 22 rfl (by decide) rfl (by decide) u_X8_pour_8 (by decide) k_X8_pour_f69 (by decide +kernel) dX8_pour_172 (fun x3 => ?_)
    refine or_iload_n C 1 rfl dX8_pour_175 ?_
    refine or_iconst C (v := (0 : Int32)) dX8_pour_176 (by decide) ?_
    refine or_iast C dX8_pour_177 (fun h4 => ?_)
    refine or_aload_n C 0 rfl dX8_pour_178 ?_
    refine or_getR C 8 24 rfl (by decide) rfl (by decide) u_X8_pour_8 (by decide) k_X8_pour_f75 (by decide +kernel) dX8_pour_179 (fun x5 => ?_)
    refine or_iload_n C 1 rfl dX8_pour_182 ?_
    refine or_iconst C (v := (0 : Int32)) dX8_pour_183 (by decide) ?_
    refine or_zast C dX8_pour_184 (fun h6 => ?_)
    refine or_aload_n C 0 rfl dX8_pour_185 ?_
    refine or_getR C 8 27 rfl (by decide) rfl (by decide) u_X8_pour_8 (by decide) k_X8_pour_f84 (by decide +kernel) dX8_pour_186 (fun x7 => ?_)
    refine or_iload_n C 1 rfl dX8_pour_189 ?_
    refine or_iconst C (v := (-1 : Int32)) dX8_pour_190 (by decide) ?_
    refine or_iast C dX8_pour_191 (fun h8 => ?_)
    refine or_aload_n C 0 rfl dX8_pour_192 ?_
    refine or_getR C 8 28 rfl (by decide) rfl (by decide) u_X8_pour_8 (by decide) k_X8_pour_f87 (by decide +kernel) dX8_pour_193 (fun x9 => ?_)
    refine or_iload_n C 1 rfl dX8_pour_196 ?_
    refine or_iconst C (v := (-1 : Int32)) dX8_pour_197 (by decide) ?_
    refine or_iast C dX8_pour_198 (fun h10 => ?_)
    refine or_aload_n C 0 rfl dX8_pour_199 ?_
    refine or_getR C 8 33 rfl (by decide) rfl (by decide) u_X8_pour_8 (by decide) k_X8_pour_f99 (by decide +kernel) dX8_pour_200 (fun x11 => ?_)
    refine or_iload_n C 2 rfl dX8_pour_203 ?_
    refine or_iald C dX8_pour_204 (fun x12 => ?_)
    exact or_iret C ⟨Nat.le_of_ble_eq_true rfl, Nat.le_of_ble_eq_true rfl⟩ dX8_pour_205
  · refine or_aload_n C 0 rfl dX8_pour_126 ?_
    refine or_iload_n C 1 rfl dX8_pour_127 ?_
    refine or_iload_n C 3 rfl dX8_pour_128 ?_
    refine oj_rcs (fun q13 => ?_)
    refine oj_bind (fun p15 z16 => ?_)
    refine oj_v (P := oh_V G 0 0 h 132 [(0, xr (some o)), (1, xi v1), (2, xi v2), (3, xi v3)] [xi p15]) (fun k => or_callV C 2 hl (m_X8_lotIn _ h o v1 v3 p15 z16) gX8_pour_X8_lotIn rfl rfl rfl (by decide +kernel) ⟨Nat.le_of_ble_eq_true rfl, Nat.le_of_ble_eq_true rfl⟩ q13 rfl (by decide) (Nat.le_of_ble_eq_true rfl) dX8_pour_129 ⟨Nat.le_of_ble_eq_true rfl, Nat.le_of_ble_eq_true rfl⟩ rfl rfl k) ?_
    refine or_istore C (fun x17 => [(4, xi x17), (0, xr (some o)), (1, xi v1), (2, xi v2), (3, xi v3)]) (fun _ => rfl) (by decide) dX8_pour_132 (fun x17 => ?_)
    refine or_aload_n C 1 rfl dX8_pour_134 ?_
    refine or_getR C 8 11 rfl (by decide) rfl (by decide) u_X8_pour_8 (by decide) k_X8_pour_f35 (by decide +kernel) dX8_pour_135 (fun x18 => ?_)
    refine or_iload C 0 rfl dX8_pour_138 ?_
    refine or_bipush C (v := (6 : Int32)) dX8_pour_140 (by decide) ?_
    refine or_iast C dX8_pour_142 (fun h19 => ?_)
    refine or_aload_n C 1 rfl dX8_pour_143 ?_
    refine or_getR C 8 16 rfl (by decide) rfl (by decide) u_X8_pour_8 (by decide) k_X8_pour_f50 (by decide +kernel) dX8_pour_144 (fun x20 => ?_)
    refine or_iload C 0 rfl dX8_pour_147 ?_
    refine or_aload_n C 1 rfl dX8_pour_149 ?_
    refine or_getR C 8 15 rfl (by decide) rfl (by decide) u_X8_pour_8 (by decide) k_X8_pour_f47 (by decide +kernel) dX8_pour_150 (fun x21 => ?_)
    refine or_iload C 0 rfl dX8_pour_153 ?_
    refine or_iald C dX8_pour_155 (fun x22 => ?_)
    refine or_iast C dX8_pour_156 (fun h23 => ?_)
    refine or_aload_n C 1 rfl dX8_pour_157 ?_
    refine or_getR C 8 17 rfl (by decide) rfl (by decide) u_X8_pour_8 (by decide) k_X8_pour_f53 (by decide +kernel) dX8_pour_158 (fun x24 => ?_)
    refine or_iload C 0 rfl dX8_pour_161 ?_
    refine or_iload_n C 3 rfl dX8_pour_163 ?_
    refine or_iast C dX8_pour_164 (fun h25 => ?_)
    refine or_iinc C (y := (1 : Int32)) 4 rfl (by decide) (fun x26 => [(3, xi x26), (4, xi x17), (0, xr (some o)), (1, xi v1), (2, xi v2)]) (fun _ => rfl) (by decide) dX8_pour_165 (fun x26 => ?_)
    refine or_goto C 116 dX8_pour_168 (by decide) ?_
    refine or_sub [2, 3, 4, 0] rfl ?_
    exact oj_back (P := pv_X8_pour_116 G o v1 v2) (s := (h25, x26))
theorem w_X8_pour_116 {G : oh_G} {l : Launch} (C : oh_C G cX8_pour wsX8_pour RX8 rmX8_pour 5) (hl : G.1.2.1 = l) (h0 : oh_H) (h : oh_H) (o : Nat) (v1 : Int32) (v2 : Int32) (v3 : Int32) : oh_J (oh_TW h0 xi 0 0 (some .int) G) (f_X8_pour_116 h o v1 v2 v3) (oh_V G 0 0 h 116 [(0, xr (some o)), (1, xi v1), (2, xi v2), (3, xi v3)] []) := by
  unfold f_X8_pour_116
  exact oj_loop (P := pv_X8_pour_116 G o v1 v2) (fun s => wb_X8_pour_116 C hl h0 s.1 o v1 v2 s.2) 1000000 (h, v3)
set_option maxHeartbeats 4000000 in
set_option maxRecDepth 100000 in
theorem w_X8_pour_0 {G : oh_G} {l : Launch} (C : oh_C G cX8_pour wsX8_pour RX8 rmX8_pour 5) (hl : G.1.2.1 = l) (h0 : oh_H) (h : oh_H) (o : Nat) (v1 : Int32) (v2 : Int32) : oh_J (oh_TW h0 xi 0 0 (some .int) G) (f_X8_pour h o v1 v2) (oh_V G 0 0 h 0 [(0, xr (some o)), (1, xi v1), (2, xi v2)] []) := by
  unfold f_X8_pour
  refine or_aload_n C 0 rfl dX8_pour_0 ?_
  refine or_iload_n C 1 rfl dX8_pour_1 ?_
  refine oj_rcs (fun q1 => ?_)
  refine oj_bind (fun p3 z4 => ?_)
  refine oj_v (P := oh_V G 0 0 h 5 [(0, xr (some o)), (1, xi v1), (2, xi v2)] [xi p3]) (fun k => or_callV C 1 hl (m_X8_isMill _ h o v1 p3 z4) gX8_pour_X8_isMill rfl rfl rfl (by decide +kernel) ⟨Nat.le_of_ble_eq_true rfl, Nat.le_of_ble_eq_true rfl⟩ q1 rfl (by decide) (Nat.le_of_ble_eq_true rfl) dX8_pour_2 ⟨Nat.le_of_ble_eq_true rfl, Nat.le_of_ble_eq_true rfl⟩ rfl rfl k) ?_
  refine or_if_eq C 44 dX8_pour_5 (by decide) ?_ ?_
  · refine or_sub [] rfl ?_
    exact w_X8_pour_44 C hl h0 h o
  · refine or_aload_n C 0 rfl dX8_pour_8 ?_
    refine or_getR C 8 24 rfl (by decide) rfl (by decide) u_X8_pour_8 (by decide) k_X8_pour_f75 (by decide +kernel) dX8_pour_9 (fun x5 => ?_)
    refine or_iload_n C 1 rfl dX8_pour_12 ?_
    refine or_zald C dX8_pour_13 (fun x6 => ?_)
    refine or_if_eq C 44 dX8_pour_14 (by decide) ?_ ?_
    · refine or_sub [] rfl ?_
      exact w_X8_pour_44 C hl h0 h o
    · refine or_aload_n C 0 rfl dX8_pour_17 ?_
      refine or_getR C 8 28 rfl (by decide) rfl (by decide) u_X8_pour_8 (by decide) k_X8_pour_f87 (by decide +kernel) dX8_pour_18 (fun x7 => ?_)
      refine or_iload_n C 1 rfl dX8_pour_21 ?_
      refine or_iald C dX8_pour_22 (fun x8 => ?_)
      refine or_iconst C (v := (-1 : Int32)) dX8_pour_23 (by decide) ?_
      refine or_icmp_eq C 44 dX8_pour_24 (by decide) ?_ ?_
      · refine or_sub [] rfl ?_
        exact w_X8_pour_44 C hl h0 h o
      · refine or_aload_n C 0 rfl dX8_pour_27 ?_
        refine or_iload_n C 2 rfl dX8_pour_28 ?_
        refine oj_rcs (fun q9 => ?_)
        refine oj_bind (fun p11 z12 => ?_)
        refine oj_v (P := oh_V G 0 0 h 32 [(0, xr (some o)), (1, xi v1), (2, xi v2)] [xi p11]) (fun k => or_callV C 1 hl (m_X8_isVat _ h o v2 p11 z12) gX8_pour_X8_isVat rfl rfl rfl (by decide +kernel) ⟨Nat.le_of_ble_eq_true rfl, Nat.le_of_ble_eq_true rfl⟩ q9 rfl (by decide) (Nat.le_of_ble_eq_true rfl) dX8_pour_29 ⟨Nat.le_of_ble_eq_true rfl, Nat.le_of_ble_eq_true rfl⟩ rfl rfl k) ?_
        refine or_if_eq C 44 dX8_pour_32 (by decide) ?_ ?_
        · refine or_sub [] rfl ?_
          exact w_X8_pour_44 C hl h0 h o
        · refine or_aload_n C 0 rfl dX8_pour_35 ?_
          refine or_iload_n C 1 rfl dX8_pour_36 ?_
          refine or_iload_n C 2 rfl dX8_pour_37 ?_
          refine oj_rcs (fun q13 => ?_)
          refine oj_bind (fun p15 z16 => ?_)
          refine oj_v (P := oh_V G 0 0 h 41 [(0, xr (some o)), (1, xi v1), (2, xi v2)] [xi p15]) (fun k => or_callV C 2 hl (m_X8_mayPour _ h o v1 v2 p15 z16) gX8_pour_X8_mayPour rfl rfl rfl (by decide +kernel) ⟨Nat.le_of_ble_eq_true rfl, Nat.le_of_ble_eq_true rfl⟩ q13 rfl (by decide) (Nat.le_of_ble_eq_true rfl) dX8_pour_38 ⟨Nat.le_of_ble_eq_true rfl, Nat.le_of_ble_eq_true rfl⟩ rfl rfl k) ?_
          refine or_if_ne C 46 dX8_pour_41 (by decide) ?_ ?_
          · refine or_sub [] rfl ?_
            exact w_X8_pour_44 C hl h0 h o
          · refine or_aload_n C 0 rfl dX8_pour_46 ?_
            refine or_getR C 8 36 rfl (by decide) rfl (by decide) u_X8_pour_8 (by decide) k_X8_pour_f108 (by decide +kernel) dX8_pour_47 (fun x17 => ?_)
            refine or_iload_n C 2 rfl dX8_pour_50 ?_
            refine or_dup2 C rfl rfl dX8_pour_51 ?_
            refine or_lald C dX8_pour_52 (fun x18 => ?_)
            refine or_aload_n C 0 rfl dX8_pour_53 ?_
            refine or_getR C 8 27 rfl (by decide) rfl (by decide) u_X8_pour_8 (by decide) k_X8_pour_f84 (by decide +kernel) dX8_pour_54 (fun x19 => ?_)
            refine or_iload_n C 1 rfl dX8_pour_57 ?_
            refine or_iald C dX8_pour_58 (fun x20 => ?_)
            refine or_i2l C dX8_pour_59 ?_
            refine or_aload_n C 0 rfl dX8_pour_60 ?_
            refine or_iload_n C 1 rfl dX8_pour_61 ?_
            refine oj_rcs (fun q21 => ?_)
            refine oj_bind (fun p23 z24 => ?_)
            refine oj_v (P := oh_V G 0 0 h 65 [(0, xr (some o)), (1, xi v1), (2, xi v2)] [xl p23, xl (Int32.toInt64 x20), xl x18, xi v2, xr x17]) (fun k => or_callV C 1 hl (m_X8_sourOf _ h o v1 p23 z24) gX8_pour_X8_sourOf rfl rfl rfl (by decide +kernel) ⟨Nat.le_of_ble_eq_true rfl, Nat.le_of_ble_eq_true rfl⟩ q21 rfl (by decide) (Nat.le_of_ble_eq_true rfl) dX8_pour_62 ⟨Nat.le_of_ble_eq_true rfl, Nat.le_of_ble_eq_true rfl⟩ rfl rfl k) ?_
            refine or_lmul C dX8_pour_65 ?_
            refine or_ladd C dX8_pour_66 ?_
            refine or_last C dX8_pour_67 (fun h25 => ?_)
            refine or_aload_n C 0 rfl dX8_pour_68 ?_
            refine or_getR C 8 37 rfl (by decide) rfl (by decide) u_X8_pour_8 (by decide) k_X8_pour_f112 (by decide +kernel) dX8_pour_69 (fun x26 => ?_)
            refine or_iload_n C 2 rfl dX8_pour_72 ?_
            refine or_dup2 C rfl rfl dX8_pour_73 ?_
            refine or_lald C dX8_pour_74 (fun x27 => ?_)
            refine or_aload_n C 0 rfl dX8_pour_75 ?_
            refine or_getR C 8 27 rfl (by decide) rfl (by decide) u_X8_pour_8 (by decide) k_X8_pour_f84 (by decide +kernel) dX8_pour_76 (fun x28 => ?_)
            refine or_iload_n C 1 rfl dX8_pour_79 ?_
            refine or_iald C dX8_pour_80 (fun x29 => ?_)
            refine or_i2l C dX8_pour_81 ?_
            refine or_ladd C dX8_pour_82 ?_
            refine or_last C dX8_pour_83 (fun h30 => ?_)
            refine or_aload_n C 0 rfl dX8_pour_84 ?_
            refine or_getR C 8 33 rfl (by decide) rfl (by decide) u_X8_pour_8 (by decide) k_X8_pour_f99 (by decide +kernel) dX8_pour_85 (fun x31 => ?_)
            refine or_iload_n C 2 rfl dX8_pour_88 ?_
            refine or_dup2 C rfl rfl dX8_pour_89 ?_
            refine or_iald C dX8_pour_90 (fun x32 => ?_)
            refine or_aload_n C 0 rfl dX8_pour_91 ?_
            refine or_getR C 8 27 rfl (by decide) rfl (by decide) u_X8_pour_8 (by decide) k_X8_pour_f84 (by decide +kernel) dX8_pour_92 (fun x33 => ?_)
            refine or_iload_n C 1 rfl dX8_pour_95 ?_
            refine or_iald C dX8_pour_96 (fun x34 => ?_)
            refine or_iadd C dX8_pour_97 ?_
            refine or_iast C dX8_pour_98 (fun h35 => ?_)
            refine or_aload_n C 0 rfl dX8_pour_99 ?_
            refine or_getR C 8 34 rfl (by decide) rfl (by decide) u_X8_pour_8 (by decide) k_X8_pour_f102 (by decide +kernel) dX8_pour_100 (fun x36 => ?_)
            refine or_iload_n C 2 rfl dX8_pour_103 ?_
            refine or_dup2 C rfl rfl dX8_pour_104 ?_
            refine or_iald C dX8_pour_105 (fun x37 => ?_)
            refine or_aload_n C 0 rfl dX8_pour_106 ?_
            refine or_getR C 8 28 rfl (by decide) rfl (by decide) u_X8_pour_8 (by decide) k_X8_pour_f87 (by decide +kernel) dX8_pour_107 (fun x38 => ?_)
            refine or_iload_n C 1 rfl dX8_pour_110 ?_
            refine or_iald C dX8_pour_111 (fun x39 => ?_)
            refine or_iadd C dX8_pour_112 ?_
            refine or_iast C dX8_pour_113 (fun h40 => ?_)
            refine or_iconst C (v := (0 : Int32)) dX8_pour_114 (by decide) ?_
            refine or_istore_n C (fun x41 => [(3, xi x41), (0, xr (some o)), (1, xi v1), (2, xi v2)]) (fun _ => rfl) (by decide) dX8_pour_115 (fun x41 => ?_)
            refine or_sub [1, 2, 3, 0] rfl ?_
            exact w_X8_pour_116 C hl h0 h40 o v1 v2 x41
theorem m_X8_pour (l : Launch) (h : oh_H) (o : Nat) (v1 : Int32) (v2 : Int32) (p : Int32 × oh_H) (hf : f_X8_pour h o v1 v2 = some p) : oh_M l yX8_pour wsX8_pour rmX8_pour 0 0 [xr (some o), xi v1, xi v2] h (some (xi p.1)) p.2 :=
  oh_met (cc := cX8_pour) (maxL := 5) (ret := (some .int)) (by decide) rfl (Nat.le_of_ble_eq_true rfl) (fun G C hl hN E => w_X8_pour_0 C hl h h o v1 v2 p hf E)
