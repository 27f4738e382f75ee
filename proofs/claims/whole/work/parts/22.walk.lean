/-! X8_leaves -/
theorem k_X8_leaves_f99 : Cond.fieldLink RX8 99 "OilPressModel" "oil" "[I" ∈ wsX8_leaves := List.mem_of_getElem? (i := 1) (by decide +kernel)
theorem u_X8_leaves_8 : ∀ w ∈ u_ws RX8 TX8 54, w ∈ wsX8_leaves := fun w h => List.mem_cons_of_mem _ (List.mem_append_right _ (h))
theorem k_X8_leaves_f108 : Cond.fieldLink RX8 108 "OilPressModel" "above" "[J" ∈ wsX8_leaves := List.mem_of_getElem? (i := 3) (by decide +kernel)
theorem k_X8_leaves_f112 : Cond.fieldLink RX8 112 "OilPressModel" "below" "[J" ∈ wsX8_leaves := List.mem_of_getElem? (i := 4) (by decide +kernel)
theorem k_X8_leaves_f105 : Cond.fieldLink RX8 105 "OilPressModel" "tapped" "[Z" ∈ wsX8_leaves := List.mem_of_getElem? (i := 2) (by decide +kernel)
abbrev rmX8_leaves : Room := { frames := 0, cells := 0, slots := 0, locals := 0 }
def f_X8_leaves_29 (h : oh_H) (o : Nat) (v1 : Int32) (s0 : Int32) (s1 : Int32) (s2 : Option Nat) : Option (oh_H) :=
  oh_bz s0 ((oh_tI h s2 22 s1 s0).bind fun h1 => (oh_gR h1 (some o) 545).bind fun x2 => (oh_aI h1 x2 20 v1).bind fun x3 => if x3 ≤ 0 then ((oh_gR h1 (some o) 548).bind fun x4 => (oh_tL h1 x4 v1 (0 : Int64)).bind fun h5 => (oh_gR h5 (some o) 549).bind fun x6 => (oh_tL h5 x6 v1 (0 : Int64)).bind fun h7 => some h7) else (some h1))
def f_X8_leaves (h : oh_H) (o : Nat) (v1 : Int32) (v2 : Int32) : Option (oh_H) :=
  (oh_gR h (some o) 545).bind fun x1 => (oh_aI h x1 20 v1).bind fun x2 => (oh_tI h x1 20 v1 (x2 - v2)).bind fun h3 => (oh_gR h3 (some o) 547).bind fun x4 => (oh_gR h3 (some o) 545).bind fun x5 => (oh_aI h3 x5 20 v1).bind fun x6 => if x6 ≤ 0 then (f_X8_leaves_29 h3 o v1 (0 : Int32) v1 x4) else (f_X8_leaves_29 h3 o v1 (1 : Int32) v1 x4)
set_option maxHeartbeats 4000000 in
set_option maxRecDepth 100000 in
theorem w_X8_leaves_29 {G : oh_G} {l : Launch} (C : oh_C G cX8_leaves wsX8_leaves RX8 rmX8_leaves 3) (hl : G.1.2.1 = l) (h0 : oh_H) (h : oh_H) (o : Nat) (v1 : Int32) (s0 : Int32) (s1 : Int32) (s2 : Option Nat) : oh_J (oh_TV h0 0 0 none G) (f_X8_leaves_29 h o v1 s0 s1 s2) (oh_V G 0 0 h 29 [(0, xr (some o)), (1, xi v1)] [xi s0, xi s1, xr s2]) := by
  unfold f_X8_leaves_29
  refine or_zast C dX8_leaves_29 (fun h1 => ?_)
  refine or_aload_n C 0 rfl dX8_leaves_30 ?_
  refine or_getR C 8 33 rfl (by decide) rfl (by decide) u_X8_leaves_8 (by decide) k_X8_leaves_f99 (by decide +kernel) dX8_leaves_31 (fun x2 => ?_)
  refine or_iload_n C 1 rfl dX8_leaves_34 ?_
  refine or_iald C dX8_leaves_35 (fun x3 => ?_)
  refine or_if_le C 40 dX8_leaves_36 (by decide) ?_ ?_
  · refine or_aload_n C 0 rfl dX8_leaves_40 ?_
    refine or_getR C 8 36 rfl (by decide) rfl (by decide) u_X8_leaves_8 (by decide) k_X8_leaves_f108 (by decide +kernel) dX8_leaves_41 (fun x4 => ?_)
    refine or_iload_n C 1 rfl dX8_leaves_44 ?_
    refine or_lconst C (v := (0 : Int64)) dX8_leaves_45 rfl ?_
    refine or_last C dX8_leaves_46 (fun h5 => ?_)
    refine or_aload_n C 0 rfl dX8_leaves_47 ?_
    refine or_getR C 8 37 rfl (by decide) rfl (by decide) u_X8_leaves_8 (by decide) k_X8_leaves_f112 (by decide +kernel) dX8_leaves_48 (fun x6 => ?_)
    refine or_iload_n C 1 rfl dX8_leaves_51 ?_
    refine or_lconst C (v := (0 : Int64)) dX8_leaves_52 rfl ?_
    refine or_last C dX8_leaves_53 (fun h7 => ?_)
    exact or_vret C ⟨Nat.le_of_ble_eq_true rfl, Nat.le_of_ble_eq_true rfl⟩ dX8_leaves_54
  · exact or_vret C ⟨Nat.le_of_ble_eq_true rfl, Nat.le_of_ble_eq_true rfl⟩ dX8_leaves_39
set_option maxHeartbeats 4000000 in
set_option maxRecDepth 100000 in
theorem w_X8_leaves_0 {G : oh_G} {l : Launch} (C : oh_C G cX8_leaves wsX8_leaves RX8 rmX8_leaves 3) (hl : G.1.2.1 = l) (h0 : oh_H) (h : oh_H) (o : Nat) (v1 : Int32) (v2 : Int32) : oh_J (oh_TV h0 0 0 none G) (f_X8_leaves h o v1 v2) (oh_V G 0 0 h 0 [(0, xr (some o)), (1, xi v1), (2, xi v2)] []) := by
  unfold f_X8_leaves
  refine or_aload_n C 0 rfl dX8_leaves_0 ?_
  refine or_getR C 8 33 rfl (by decide) rfl (by decide) u_X8_leaves_8 (by decide) k_X8_leaves_f99 (by decide +kernel) dX8_leaves_1 (fun x1 => ?_)
  refine or_iload_n C 1 rfl dX8_leaves_4 ?_
  refine or_dup2 C rfl rfl dX8_leaves_5 ?_
  refine or_iald C dX8_leaves_6 (fun x2 => ?_)
  refine or_iload_n C 2 rfl dX8_leaves_7 ?_
  refine or_isub C dX8_leaves_8 ?_
  refine or_iast C dX8_leaves_9 (fun h3 => ?_)
  refine or_aload_n C 0 rfl dX8_leaves_10 ?_
  refine or_getR C 8 35 rfl (by decide) rfl (by decide) u_X8_leaves_8 (by decide) k_X8_leaves_f105 (by decide +kernel) dX8_leaves_11 (fun x4 => ?_)
  refine or_iload_n C 1 rfl dX8_leaves_14 ?_
  refine or_aload_n C 0 rfl dX8_leaves_15 ?_
  refine or_getR C 8 33 rfl (by decide) rfl (by decide) u_X8_leaves_8 (by decide) k_X8_leaves_f99 (by decide +kernel) dX8_leaves_16 (fun x5 => ?_)
  refine or_iload_n C 1 rfl dX8_leaves_19 ?_
  refine or_iald C dX8_leaves_20 (fun x6 => ?_)
  refine or_if_le C 28 dX8_leaves_21 (by decide) ?_ ?_
  · refine or_iconst C (v := (0 : Int32)) dX8_leaves_28 (by decide) ?_
    refine or_sub [0, 1] rfl ?_
    exact w_X8_leaves_29 C hl h0 h3 o v1 (0 : Int32) v1 x4
  · refine or_iconst C (v := (1 : Int32)) dX8_leaves_24 (by decide) ?_
    refine or_goto C 29 dX8_leaves_25 (by decide) ?_
    refine or_sub [0, 1] rfl ?_
    exact w_X8_leaves_29 C hl h0 h3 o v1 (1 : Int32) v1 x4
theorem m_X8_leaves (l : Launch) (h : oh_H) (o : Nat) (v1 : Int32) (v2 : Int32) (p : oh_H) (hf : f_X8_leaves h o v1 v2 = some p) : oh_M l yX8_leaves wsX8_leaves rmX8_leaves 0 0 [xr (some o), xi v1, xi v2] h none p :=
  oh_met (cc := cX8_leaves) (maxL := 3) (ret := none) (by decide) rfl (Nat.le_of_ble_eq_true rfl) (fun G C hl hN E => w_X8_leaves_0 C hl h h o v1 v2 p hf E)
/-! X8_fetch -/
theorem k_X8_fetch_f35 : Cond.fieldLink RX8 35 "OilPressModel" "state" "[I" ∈ wsX8_fetch := List.mem_of_getElem? (i := 1) (by decide +kernel)
theorem u_X8_fetch_8 : ∀ w ∈ u_ws RX8 TX8 54, w ∈ wsX8_fetch := fun w h => List.mem_cons_of_mem _ (List.mem_append_right _ (h))
theorem k_X8_fetch_f50 : Cond.fieldLink RX8 50 "OilPressModel" "left" "[I" ∈ wsX8_fetch := List.mem_of_getElem? (i := 2) (by decide +kernel)
theorem k_X8_fetch_f205 : Cond.fieldLink RX8 205 "OilPressModel" "fetchedAll" "I" ∈ wsX8_fetch := List.mem_of_getElem? (i := 3) (by decide +kernel)
theorem k_X8_fetch_f53 : Cond.fieldLink RX8 53 "OilPressModel" "where" "[I" ∈ wsX8_fetch := List.mem_of_getElem? (i := 4) (by decide +kernel)
abbrev rmX8_fetch : Room := { frames := 2, cells := 0, slots := 0, locals := 43 }
def f_X8_fetch_28 (h : oh_H) (o : Nat) : Option (Int32 × oh_H) :=
  some ((-1 : Int32), h)
def f_X8_fetch (h : oh_H) (o : Nat) (v1 : Int32) : Option (Int32 × oh_H) :=
  oh_rc h (some o) 9 fun o2 => (f_X8_isLot h o2 v1).bind fun p3 => if p3 = 0 then (f_X8_fetch_28 h o) else ((oh_gR h (some o) 523).bind fun x5 => (oh_aI h x5 20 v1).bind fun x6 => if x6 = (6 : Int32) then ((oh_gR h (some o) 528).bind fun x7 => (oh_aI h x7 20 v1).bind fun x8 => if x8 = 0 then (f_X8_fetch_28 h o) else ((oh_gR h (some o) 528).bind fun x9 => (oh_aI h x9 20 v1).bind fun x10 => oh_lt x10 fun x11 => (oh_gR h (some o) 528).bind fun x12 => (oh_tI h x12 20 v1 (0 : Int32)).bind fun h13 => (oh_gI h13 (some o) 552).bind fun x14 => (oh_pI h13 (some o) 552 (x14 + x11)).bind fun h15 => (oh_gR h15 (some o) 529).bind fun x16 => (oh_aI h15 x16 20 v1).bind fun x17 => oh_rc h15 (some o) 9 fun o19 => (f_X8_leaves h15 o19 x17 x11).bind fun p20 => some (x11, p20))) else (f_X8_fetch_28 h o))
set_option maxHeartbeats 4000000 in
set_option maxRecDepth 100000 in
theorem w_X8_fetch_28 {G : oh_G} {l : Launch} (C : oh_C G cX8_fetch wsX8_fetch RX8 rmX8_fetch 3) (hl : G.1.2.1 = l) (h0 : oh_H) (h : oh_H) (o : Nat) : oh_J (oh_TW h0 xi 0 0 (some .int) G) (f_X8_fetch_28 h o) (oh_V G 0 0 h 28 [] []) := by
  unfold f_X8_fetch_28
  refine or_iconst C (v := (-1 : Int32)) dX8_fetch_28 (by decide) ?_
  exact or_iret C ⟨Nat.le_of_ble_eq_true rfl, Nat.le_of_ble_eq_true rfl⟩ dX8_fetch_29
set_option maxHeartbeats 4000000 in
set_option maxRecDepth 100000 in
theorem w_X8_fetch_0 {G : oh_G} {l : Launch} (C : oh_C G cX8_fetch wsX8_fetch RX8 rmX8_fetch 3) (hl : G.1.2.1 = l) (h0 : oh_H) (h : oh_H) (o : Nat) (v1 : Int32) : oh_J (oh_TW h0 xi 0 0 (some .int) G) (f_X8_fetch h o v1) (oh_V G 0 0 h 0 [(0, xr (some o)), (1, xi v1)] []) := by
  unfold f_X8_fetch
  refine or_aload_n C 0 rfl dX8_fetch_0 ?_
  refine or_iload_n C 1 rfl dX8_fetch_1 ?_
  refine oj_rcs (fun q1 => ?_)
  refine oj_bind (fun p3 z4 => ?_)
  refine oj_v (P := oh_V G 0 0 h 5 [(0, xr (some o)), (1, xi v1)] [xi p3]) (fun k => or_callV C 1 hl (m_X8_isLot _ h o v1 p3 z4) gX8_fetch_X8_isLot rfl rfl rfl (by decide +kernel) ⟨Nat.le_of_ble_eq_true rfl, Nat.le_of_ble_eq_true rfl⟩ q1 rfl (by decide) (Nat.le_of_ble_eq_true rfl) dX8_fetch_2 ⟨Nat.le_of_ble_eq_true rfl, Nat.le_of_ble_eq_true rfl⟩ rfl rfl k) ?_
  refine or_if_eq C 28 dX8_fetch_5 (by decide) ?_ ?_
  · refine or_sub [] rfl ?_
    exact w_X8_fetch_28 C hl h0 h o
  · refine or_aload_n C 0 rfl dX8_fetch_8 ?_
    refine or_getR C 8 11 rfl (by decide) rfl (by decide) u_X8_fetch_8 (by decide) k_X8_fetch_f35 (by decide +kernel) dX8_fetch_9 (fun x5 => ?_)
    refine or_iload_n C 1 rfl dX8_fetch_12 ?_
    refine or_iald C dX8_fetch_13 (fun x6 => ?_)
    refine or_bipush C (v := (6 : Int32)) dX8_fetch_14 (by decide) ?_
    refine or_icmp_ne C 28 dX8_fetch_16 (by decide) ?_ ?_
    · refine or_aload_n C 0 rfl dX8_fetch_19 ?_
      refine or_getR C 8 16 rfl (by decide) rfl (by decide) u_X8_fetch_8 (by decide) k_X8_fetch_f50 (by decide +kernel) dX8_fetch_20 (fun x7 => ?_)
      refine or_iload_n C 1 rfl dX8_fetch_23 ?_
      refine or_iald C dX8_fetch_24 (fun x8 => ?_)
      refine or_if_ne C 30 dX8_fetch_25 (by decide) ?_ ?_
      · refine or_sub [] rfl ?_
        exact w_X8_fetch_28 C hl h0 h o
      · refine or_aload_n C 0 rfl dX8_fetch_30 ?_
        refine or_getR C 8 16 rfl (by decide) rfl (by decide) u_X8_fetch_8 (by decide) k_X8_fetch_f50 (by decide +kernel) dX8_fetch_31 (fun x9 => ?_)
        refine or_iload_n C 1 rfl dX8_fetch_34 ?_
        refine or_iald C dX8_fetch_35 (fun x10 => ?_)
        refine or_istore_n C (fun x11 => [(2, xi x11), (0, xr (some o)), (1, xi v1)]) (fun _ => rfl) (by decide) dX8_fetch_36 (fun x11 => ?_)
        refine or_aload_n C 1 rfl dX8_fetch_37 ?_
        refine or_getR C 8 16 rfl (by decide) rfl (by decide) u_X8_fetch_8 (by decide) k_X8_fetch_f50 (by decide +kernel) dX8_fetch_38 (fun x12 => ?_)
        refine or_iload_n C 2 rfl dX8_fetch_41 ?_
        refine or_iconst C (v := (0 : Int32)) dX8_fetch_42 (by decide) ?_
        refine or_iast C dX8_fetch_43 (fun h13 => ?_)
        refine or_aload_n C 1 rfl dX8_fetch_44 ?_
        refine or_dup C rfl dX8_fetch_45 ?_
        refine or_getI C 8 40 rfl (by decide) rfl (by decide) u_X8_fetch_8 (by decide) k_X8_fetch_f205 (by decide +kernel) dX8_fetch_46 (fun x14 => ?_)
        refine or_iload_n C 0 rfl dX8_fetch_49 ?_
        refine or_iadd C dX8_fetch_50 ?_
        refine or_putI C 8 40 rfl (by decide) rfl (by decide) u_X8_fetch_8 tyX8 tyX8_ok nmX8 (by decide) k_X8_fetch_f205 (Or.inl rfl) (by decide +kernel) rfl dX8_fetch_51 (fun h15 => ?_)
        refine or_aload_n C 1 rfl dX8_fetch_54 ?_
        refine or_aload_n C 1 rfl dX8_fetch_55 ?_
        refine or_getR C 8 17 rfl (by decide) rfl (by decide) u_X8_fetch_8 (by decide) k_X8_fetch_f53 (by decide +kernel) dX8_fetch_56 (fun x16 => ?_)
        refine or_iload_n C 2 rfl dX8_fetch_59 ?_
        refine or_iald C dX8_fetch_60 (fun x17 => ?_)
        refine or_iload_n C 0 rfl dX8_fetch_61 ?_
        refine oj_rcs (fun q18 => ?_)
        refine oj_bind (fun p20 z21 => ?_)
        refine oj_v (P := oh_V G 0 0 p20 65 [(2, xi x11), (0, xr (some o)), (1, xi v1)] []) (fun k => or_callV C 2 hl (m_X8_leaves _ h15 o x17 x11 p20 z21) gX8_fetch_X8_leaves rfl rfl rfl (by decide +kernel) ⟨Nat.le_of_ble_eq_true rfl, Nat.le_of_ble_eq_true rfl⟩ q18 rfl (by decide) (Nat.le_of_ble_eq_true rfl) dX8_fetch_62 ⟨Nat.le_of_ble_eq_true rfl, Nat.le_of_ble_eq_true rfl⟩ rfl rfl k) ?_
        refine or_iload_n C 0 rfl dX8_fetch_65 ?_
        exact or_iret C ⟨Nat.le_of_ble_eq_true rfl, Nat.le_of_ble_eq_true rfl⟩ dX8_fetch_66
    · refine or_sub [] rfl ?_
      exact w_X8_fetch_28 C hl h0 h o
theorem m_X8_fetch (l : Launch) (h : oh_H) (o : Nat) (v1 : Int32) (p : Int32 × oh_H) (hf : f_X8_fetch h o v1 = some p) : oh_M l yX8_fetch wsX8_fetch rmX8_fetch 0 0 [xr (some o), xi v1] h (some (xi p.1)) p.2 :=
  oh_met (cc := cX8_fetch) (maxL := 3) (ret := (some .int)) (by decide) rfl (Nat.le_of_ble_eq_true rfl) (fun G C hl hN E => w_X8_fetch_0 C hl h h o v1 p hf E)
/-! X8_draw -/
theorem k_X8_draw_f102 : Cond.fieldLink RX8 102 "OilPressModel" "own" "[I" ∈ wsX8_draw := List.mem_of_getElem? (i := 1) (by decide +kernel)
theorem u_X8_draw_8 : ∀ w ∈ u_ws RX8 TX8 54, w ∈ wsX8_draw := fun w h => List.mem_cons_of_mem _ (List.mem_append_right _ (h))
theorem k_X8_draw_f212 : Cond.fieldLink RX8 212 "OilPressModel" "drawnAll" "I" ∈ wsX8_draw := List.mem_of_getElem? (i := 2) (by decide +kernel)
abbrev rmX8_draw : Room := { frames := 2, cells := 0, slots := 0, locals := 43 }
def f_X8_draw_23 (h : oh_H) (o : Nat) : Option (Int32 × oh_H) :=
  some ((-1 : Int32), h)
def f_X8_draw (h : oh_H) (o : Nat) (v1 : Int32) (v2 : Int32) : Option (Int32 × oh_H) :=
  oh_rc h (some o) 9 fun o2 => (f_X8_isVat h o2 v1).bind fun p3 => if p3 = 0 then (f_X8_draw_23 h o) else (if v2 < (1 : Int32) then (f_X8_draw_23 h o) else ((oh_gR h (some o) 546).bind fun x5 => (oh_aI h x5 20 v1).bind fun x6 => if v2 ≤ x6 then ((oh_gR h (some o) 546).bind fun x7 => (oh_aI h x7 20 v1).bind fun x8 => (oh_tI h x7 20 v1 (x8 - v2)).bind fun h9 => (oh_gI h9 (some o) 553).bind fun x10 => (oh_pI h9 (some o) 553 (x10 + v2)).bind fun h11 => oh_rc h11 (some o) 9 fun o13 => (f_X8_leaves h11 o13 v1 v2).bind fun p14 => (oh_gR p14 (some o) 546).bind fun x16 => (oh_aI p14 x16 20 v1).bind fun x17 => some (x17, p14)) else (f_X8_draw_23 h o)))
set_option maxHeartbeats 4000000 in
set_option maxRecDepth 100000 in
theorem w_X8_draw_23 {G : oh_G} {l : Launch} (C : oh_C G cX8_draw wsX8_draw RX8 rmX8_draw 3) (hl : G.1.2.1 = l) (h0 : oh_H) (h : oh_H) (o : Nat) : oh_J (oh_TW h0 xi 0 0 (some .int) G) (f_X8_draw_23 h o) (oh_V G 0 0 h 23 [] []) := by
  unfold f_X8_draw_23
  refine or_iconst C (v := (-1 : Int32)) dX8_draw_23 (by decide) ?_
  exact or_iret C ⟨Nat.le_of_ble_eq_true rfl, Nat.le_of_ble_eq_true rfl⟩ dX8_draw_24
set_option maxHeartbeats 4000000 in
set_option maxRecDepth 100000 in
theorem w_X8_draw_0 {G : oh_G} {l : Launch} (C : oh_C G cX8_draw wsX8_draw RX8 rmX8_draw 3) (hl : G.1.2.1 = l) (h0 : oh_H) (h : oh_H) (o : Nat) (v1 : Int32) (v2 : Int32) : oh_J (oh_TW h0 xi 0 0 (some .int) G) (f_X8_draw h o v1 v2) (oh_V G 0 0 h 0 [(0, xr (some o)), (1, xi v1), (2, xi v2)] []) := by
  unfold f_X8_draw
  refine or_aload_n C 0 rfl dX8_draw_0 ?_
  refine or_iload_n C 1 rfl dX8_draw_1 ?_
  refine oj_rcs (fun q1 => ?_)
  refine oj_bind (fun p3 z4 => ?_)
  refine oj_v (P := oh_V G 0 0 h 5 [(0, xr (some o)), (1, xi v1), (2, xi v2)] [xi p3]) (fun k => or_callV C 1 hl (m_X8_isVat _ h o v1 p3 z4) gX8_draw_X8_isVat rfl rfl rfl (by decide +kernel) ⟨Nat.le_of_ble_eq_true rfl, Nat.le_of_ble_eq_true rfl⟩ q1 rfl (by decide) (Nat.le_of_ble_eq_true rfl) dX8_draw_2 ⟨Nat.le_of_ble_eq_true rfl, Nat.le_of_ble_eq_true rfl⟩ rfl rfl k) ?_
  refine or_if_eq C 23 dX8_draw_5 (by decide) ?_ ?_
  · refine or_sub [] rfl ?_
    exact w_X8_draw_23 C hl h0 h o
  · refine or_iload_n C 2 rfl dX8_draw_8 ?_
    refine or_iconst C (v := (1 : Int32)) dX8_draw_9 (by decide) ?_
    refine or_icmp_lt C 23 dX8_draw_10 (by decide) ?_ ?_
    · refine or_sub [] rfl ?_
      exact w_X8_draw_23 C hl h0 h o
    · refine or_iload_n C 2 rfl dX8_draw_13 ?_
      refine or_aload_n C 0 rfl dX8_draw_14 ?_
      refine or_getR C 8 34 rfl (by decide) rfl (by decide) u_X8_draw_8 (by decide) k_X8_draw_f102 (by decide +kernel) dX8_draw_15 (fun x5 => ?_)
      refine or_iload_n C 1 rfl dX8_draw_18 ?_
      refine or_iald C dX8_draw_19 (fun x6 => ?_)
      refine or_icmp_le C 25 dX8_draw_20 (by decide) ?_ ?_
      · refine or_aload_n C 0 rfl dX8_draw_25 ?_
        refine or_getR C 8 34 rfl (by decide) rfl (by decide) u_X8_draw_8 (by decide) k_X8_draw_f102 (by decide +kernel) dX8_draw_26 (fun x7 => ?_)
        refine or_iload_n C 1 rfl dX8_draw_29 ?_
        refine or_dup2 C rfl rfl dX8_draw_30 ?_
        refine or_iald C dX8_draw_31 (fun x8 => ?_)
        refine or_iload_n C 2 rfl dX8_draw_32 ?_
        refine or_isub C dX8_draw_33 ?_
        refine or_iast C dX8_draw_34 (fun h9 => ?_)
        refine or_aload_n C 0 rfl dX8_draw_35 ?_
        refine or_dup C rfl dX8_draw_36 ?_
        refine or_getI C 8 41 rfl (by decide) rfl (by decide) u_X8_draw_8 (by decide) k_X8_draw_f212 (by decide +kernel) dX8_draw_37 (fun x10 => ?_)
        refine or_iload_n C 2 rfl dX8_draw_40 ?_
        refine or_iadd C dX8_draw_41 ?_
        refine or_putI C 8 41 rfl (by decide) rfl (by decide) u_X8_draw_8 tyX8 tyX8_ok nmX8 (by decide) k_X8_draw_f212 (Or.inl rfl) (by decide +kernel) rfl dX8_draw_42 (fun h11 => ?_)
        refine or_aload_n C 0 rfl dX8_draw_45 ?_
        refine or_iload_n C 1 rfl dX8_draw_46 ?_
        refine or_iload_n C 2 rfl dX8_draw_47 ?_
        refine oj_rcs (fun q12 => ?_)
        refine oj_bind (fun p14 z15 => ?_)
        refine oj_v (P := oh_V G 0 0 p14 51 [(0, xr (some o)), (1, xi v1), (2, xi v2)] []) (fun k => or_callV C 2 hl (m_X8_leaves _ h11 o v1 v2 p14 z15) gX8_draw_X8_leaves rfl rfl rfl (by decide +kernel) ⟨Nat.le_of_ble_eq_true rfl, Nat.le_of_ble_eq_true rfl⟩ q12 rfl (by decide) (Nat.le_of_ble_eq_true rfl) dX8_draw_48 ⟨Nat.le_of_ble_eq_true rfl, Nat.le_of_ble_eq_true rfl⟩ rfl rfl k) ?_
        refine or_aload_n C 0 rfl dX8_draw_51 ?_
        refine or_getR C 8 34 rfl (by decide) rfl (by decide) u_X8_draw_8 (by decide) k_X8_draw_f102 (by decide +kernel) dX8_draw_52 (fun x16 => ?_)
        refine or_iload_n C 1 rfl dX8_draw_55 ?_
        refine or_iald C dX8_draw_56 (fun x17 => ?_)
        exact or_iret C ⟨Nat.le_of_ble_eq_true rfl, Nat.le_of_ble_eq_true rfl⟩ dX8_draw_57
      · refine or_sub [] rfl ?_
        exact w_X8_draw_23 C hl h0 h o
theorem m_X8_draw (l : Launch) (h : oh_H) (o : Nat) (v1 : Int32) (v2 : Int32) (p : Int32 × oh_H) (hf : f_X8_draw h o v1 v2 = some p) : oh_M l yX8_draw wsX8_draw rmX8_draw 0 0 [xr (some o), xi v1, xi v2] h (some (xi p.1)) p.2 :=
  oh_met (cc := cX8_draw) (maxL := 3) (ret := (some .int)) (by decide) rfl (Nat.le_of_ble_eq_true rfl) (fun G C hl hN E => w_X8_draw_0 C hl h h o v1 v2 p hf E)
/-! X8_lend -/
theorem k_X8_lend_f102 : Cond.fieldLink RX8 102 "OilPressModel" "own" "[I" ∈ wsX8_lend := List.mem_of_getElem? (i := 1) (by decide +kernel)
theorem u_X8_lend_8 : ∀ w ∈ u_ws RX8 TX8 54, w ∈ wsX8_lend := fun w h => List.mem_cons_of_mem _ (List.mem_append_right _ (h))
theorem k_X8_lend_f215 : Cond.fieldLink RX8 215 "OilPressModel" "lentAll" "I" ∈ wsX8_lend := List.mem_of_getElem? (i := 2) (by decide +kernel)
theorem k_X8_lend_f115 : Cond.fieldLink RX8 115 "OilPressModel" "owed" "[I" ∈ wsX8_lend := List.mem_of_getElem? (i := 3) (by decide +kernel)
theorem k_X8_lend_f90 : Cond.fieldLink RX8 90 "OilPressModel" "sort" "[I" ∈ wsX8_lend := List.mem_of_getElem? (i := 4) (by decide +kernel)
abbrev rmX8_lend : Room := { frames := 2, cells := 0, slots := 0, locals := 43 }
def f_X8_lend_33 (h : oh_H) (o : Nat) : Option (Int32 × oh_H) :=
  some ((-1 : Int32), h)
def f_X8_lend (h : oh_H) (o : Nat) (v1 : Int32) (v2 : Int32) (v3 : Int32) : Option (Int32 × oh_H) :=
  (f_X8_in h v1 (0 : Int32) (39 : Int32)).bind fun p1 => if p1 = 0 then (f_X8_lend_33 h o) else (oh_rc h (some o) 9 fun o4 => (f_X8_isVat h o4 v2).bind fun p5 => if p5 = 0 then (f_X8_lend_33 h o) else (if v3 < (1 : Int32) then (f_X8_lend_33 h o) else ((oh_gR h (some o) 546).bind fun x7 => (oh_aI h x7 20 v2).bind fun x8 => if v3 ≤ x8 then ((oh_gR h (some o) 546).bind fun x9 => (oh_aI h x9 20 v2).bind fun x10 => (oh_tI h x9 20 v2 (x10 - v3)).bind fun h11 => (oh_gI h11 (some o) 554).bind fun x12 => (oh_pI h11 (some o) 554 (x12 + v3)).bind fun h13 => oh_rc h13 (some o) 9 fun o15 => (f_X8_leaves h13 o15 v2 v3).bind fun p16 => (oh_gR p16 (some o) 550).bind fun x18 => (oh_gR p16 (some o) 542).bind fun x19 => (oh_aI p16 x19 20 v2).bind fun x20 => (oh_aI p16 x18 20 (((3 : Int32) * v1) + x20)).bind fun x21 => (oh_tI p16 x18 20 (((3 : Int32) * v1) + x20) (x21 + v3)).bind fun h22 => (oh_gR h22 (some o) 550).bind fun x23 => (oh_gR h22 (some o) 542).bind fun x24 => (oh_aI h22 x24 20 v2).bind fun x25 => (oh_aI h22 x23 20 (((3 : Int32) * v1) + x25)).bind fun x26 => some (x26, h22)) else (f_X8_lend_33 h o))))
set_option maxHeartbeats 4000000 in
set_option maxRecDepth 100000 in
theorem w_X8_lend_33 {G : oh_G} {l : Launch} (C : oh_C G cX8_lend wsX8_lend RX8 rmX8_lend 4) (hl : G.1.2.1 = l) (h0 : oh_H) (h : oh_H) (o : Nat) : oh_J (oh_TW h0 xi 0 0 (some .int) G) (f_X8_lend_33 h o) (oh_V G 0 0 h 33 [] []) := by
  unfold f_X8_lend_33
  refine or_iconst C (v := (-1 : Int32)) dX8_lend_33 (by decide) ?_
  exact or_iret C ⟨Nat.le_of_ble_eq_true rfl, Nat.le_of_ble_eq_true rfl⟩ dX8_lend_34
set_option maxHeartbeats 4000000 in
set_option maxRecDepth 100000 in
theorem w_X8_lend_0 {G : oh_G} {l : Launch} (C : oh_C G cX8_lend wsX8_lend RX8 rmX8_lend 4) (hl : G.1.2.1 = l) (h0 : oh_H) (h : oh_H) (o : Nat) (v1 : Int32) (v2 : Int32) (v3 : Int32) : oh_J (oh_TW h0 xi 0 0 (some .int) G) (f_X8_lend h o v1 v2 v3) (oh_V G 0 0 h 0 [(0, xr (some o)), (1, xi v1), (2, xi v2), (3, xi v3)] []) := by
  unfold f_X8_lend
  refine or_iload_n C 1 rfl dX8_lend_0 ?_
  refine or_iconst C (v := (0 : Int32)) dX8_lend_1 (by decide) ?_
  refine or_bipush C (v := (39 : Int32)) dX8_lend_2 (by decide) ?_
  refine oj_bind (fun p1 z2 => ?_)
  refine oj_v (P := oh_V G 0 0 h 7 [(0, xr (some o)), (1, xi v1), (2, xi v2), (3, xi v3)] [xi p1]) (fun k => or_callS C 3 hl (m_X8_in _ h v1 (0 : Int32) (39 : Int32) p1 z2) gX8_lend_X8_in rfl rfl rfl (by decide +kernel) ⟨Nat.le_of_ble_eq_true rfl, Nat.le_of_ble_eq_true rfl⟩ (Nat.le_of_ble_eq_true rfl) dX8_lend_4 ⟨Nat.le_of_ble_eq_true rfl, Nat.le_of_ble_eq_true rfl⟩ rfl rfl k) ?_
  refine or_if_eq C 33 dX8_lend_7 (by decide) ?_ ?_
  · refine or_sub [] rfl ?_
    exact w_X8_lend_33 C hl h0 h o
  · refine or_aload_n C 0 rfl dX8_lend_10 ?_
    refine or_iload_n C 2 rfl dX8_lend_11 ?_
    refine oj_rcs (fun q3 => ?_)
    refine oj_bind (fun p5 z6 => ?_)
    refine oj_v (P := oh_V G 0 0 h 15 [(0, xr (some o)), (1, xi v1), (2, xi v2), (3, xi v3)] [xi p5]) (fun k => or_callV C 1 hl (m_X8_isVat _ h o v2 p5 z6) gX8_lend_X8_isVat rfl rfl rfl (by decide +kernel) ⟨Nat.le_of_ble_eq_true rfl, Nat.le_of_ble_eq_true rfl⟩ q3 rfl (by decide) (Nat.le_of_ble_eq_true rfl) dX8_lend_12 ⟨Nat.le_of_ble_eq_true rfl, Nat.le_of_ble_eq_true rfl⟩ rfl rfl k) ?_
    refine or_if_eq C 33 dX8_lend_15 (by decide) ?_ ?_
    · refine or_sub [] rfl ?_
      exact w_X8_lend_33 C hl h0 h o
    · refine or_iload_n C 3 rfl dX8_lend_18 ?_
      refine or_iconst C (v := (1 : Int32)) dX8_lend_19 (by decide) ?_
      refine or_icmp_lt C 33 dX8_lend_20 (by decide) ?_ ?_
      · refine or_sub [] rfl ?_
        exact w_X8_lend_33 C hl h0 h o
      · refine or_iload_n C 3 rfl dX8_lend_23 ?_
        refine or_aload_n C 0 rfl dX8_lend_24 ?_
        refine or_getR C 8 34 rfl (by decide) rfl (by decide) u_X8_lend_8 (by decide) k_X8_lend_f102 (by decide +kernel) dX8_lend_25 (fun x7 => ?_)
        refine or_iload_n C 2 rfl dX8_lend_28 ?_
        refine or_iald C dX8_lend_29 (fun x8 => ?_)
        refine or_icmp_le C 35 dX8_lend_30 (by decide) ?_ ?_
        · refine or_aload_n C 0 rfl dX8_lend_35 ?_
          refine or_getR C 8 34 rfl (by decide) rfl (by decide) u_X8_lend_8 (by decide) k_X8_lend_f102 (by decide +kernel) dX8_lend_36 (fun x9 => ?_)
          refine or_iload_n C 2 rfl dX8_lend_39 ?_
          refine or_dup2 C rfl rfl dX8_lend_40 ?_
          refine or_iald C dX8_lend_41 (fun x10 => ?_)
          refine or_iload_n C 3 rfl dX8_lend_42 ?_
          refine or_isub C dX8_lend_43 ?_
          refine or_iast C dX8_lend_44 (fun h11 => ?_)
          refine or_aload_n C 0 rfl dX8_lend_45 ?_
          refine or_dup C rfl dX8_lend_46 ?_
          refine or_getI C 8 42 rfl (by decide) rfl (by decide) u_X8_lend_8 (by decide) k_X8_lend_f215 (by decide +kernel) dX8_lend_47 (fun x12 => ?_)
          refine or_iload_n C 3 rfl dX8_lend_50 ?_
          refine or_iadd C dX8_lend_51 ?_
          refine or_putI C 8 42 rfl (by decide) rfl (by decide) u_X8_lend_8 tyX8 tyX8_ok nmX8 (by decide) k_X8_lend_f215 (Or.inl rfl) (by decide +kernel) rfl dX8_lend_52 (fun h13 => ?_)
          refine or_aload_n C 0 rfl dX8_lend_55 ?_
          refine or_iload_n C 2 rfl dX8_lend_56 ?_
          refine or_iload_n C 3 rfl dX8_lend_57 ?_
          refine oj_rcs (fun q14 => ?_)
          refine oj_bind (fun p16 z17 => ?_)
          refine oj_v (P := oh_V G 0 0 p16 61 [(0, xr (some o)), (1, xi v1), (2, xi v2), (3, xi v3)] []) (fun k => or_callV C 2 hl (m_X8_leaves _ h13 o v2 v3 p16 z17) gX8_lend_X8_leaves rfl rfl rfl (by decide +kernel) ⟨Nat.le_of_ble_eq_true rfl, Nat.le_of_ble_eq_true rfl⟩ q14 rfl (by decide) (Nat.le_of_ble_eq_true rfl) dX8_lend_58 ⟨Nat.le_of_ble_eq_true rfl, Nat.le_of_ble_eq_true rfl⟩ rfl rfl k) ?_
          refine or_aload_n C 0 rfl dX8_lend_61 ?_
          refine or_getR C 8 38 rfl (by decide) rfl (by decide) u_X8_lend_8 (by decide) k_X8_lend_f115 (by decide +kernel) dX8_lend_62 (fun x18 => ?_)
          refine or_iconst C (v := (3 : Int32)) dX8_lend_65 (by decide) ?_
          refine or_iload_n C 1 rfl dX8_lend_66 ?_
          refine or_imul C dX8_lend_67 ?_
          refine or_aload_n C 0 rfl dX8_lend_68 ?_
          refine or_getR C 8 30 rfl (by decide) rfl (by decide) u_X8_lend_8 (by decide) k_X8_lend_f90 (by decide +kernel) dX8_lend_69 (fun x19 => ?_)
          refine or_iload_n C 2 rfl dX8_lend_72 ?_
          refine or_iald C dX8_lend_73 (fun x20 => ?_)
          refine or_iadd C dX8_lend_74 ?_
          refine or_dup2 C rfl rfl dX8_lend_75 ?_
          refine or_iald C dX8_lend_76 (fun x21 => ?_)
          refine or_iload_n C 3 rfl dX8_lend_77 ?_
          refine or_iadd C dX8_lend_78 ?_
          refine or_iast C dX8_lend_79 (fun h22 => ?_)
          refine or_aload_n C 0 rfl dX8_lend_80 ?_
          refine or_getR C 8 38 rfl (by decide) rfl (by decide) u_X8_lend_8 (by decide) k_X8_lend_f115 (by decide +kernel) dX8_lend_81 (fun x23 => ?_)
          refine or_iconst C (v := (3 : Int32)) dX8_lend_84 (by decide) ?_
          refine or_iload_n C 1 rfl dX8_lend_85 ?_
          refine or_imul C dX8_lend_86 ?_
          refine or_aload_n C 0 rfl dX8_lend_87 ?_
          refine or_getR C 8 30 rfl (by decide) rfl (by decide) u_X8_lend_8 (by decide) k_X8_lend_f90 (by decide +kernel) dX8_lend_88 (fun x24 => ?_)
          refine or_iload_n C 2 rfl dX8_lend_91 ?_
          refine or_iald C dX8_lend_92 (fun x25 => ?_)
          refine or_iadd C dX8_lend_93 ?_
          refine or_iald C dX8_lend_94 (fun x26 => ?_)
          exact or_iret C ⟨Nat.le_of_ble_eq_true rfl, Nat.le_of_ble_eq_true rfl⟩ dX8_lend_95
        · refine or_sub [] rfl ?_
          exact w_X8_lend_33 C hl h0 h o
theorem m_X8_lend (l : Launch) (h : oh_H) (o : Nat) (v1 : Int32) (v2 : Int32) (v3 : Int32) (p : Int32 × oh_H) (hf : f_X8_lend h o v1 v2 v3 = some p) : oh_M l yX8_lend wsX8_lend rmX8_lend 0 0 [xr (some o), xi v1, xi v2, xi v3] h (some (xi p.1)) p.2 :=
  oh_met (cc := cX8_lend) (maxL := 4) (ret := (some .int)) (by decide) rfl (Nat.le_of_ble_eq_true rfl) (fun G C hl hN E => w_X8_lend_0 C hl h h o v1 v2 v3 p hf E)
/-! X8_pays -/
theorem k_X8_pays_c218 : Cond.constantLong RX8 218 (100) ∈ wsX8_pays := List.mem_of_getElem? (i := 2) (by decide +kernel)
theorem k_X8_pays_f115 : Cond.fieldLink RX8 115 "OilPressModel" "owed" "[I" ∈ wsX8_pays := List.mem_of_getElem? (i := 1) (by decide +kernel)
theorem u_X8_pays_8 : ∀ w ∈ u_ws RX8 TX8 54, w ∈ wsX8_pays := fun w h => List.mem_cons_of_mem _ (List.mem_append_right _ (h))
theorem k_X8_pays_c220 : Cond.constantLong RX8 220 (10) ∈ wsX8_pays := List.mem_of_getElem? (i := 3) (by decide +kernel)
abbrev rmX8_pays : Room := { frames := 0, cells := 0, slots := 0, locals := 0 }
def f_X8_pays_197 (h : oh_H) (o : Nat) (v1 : Int32) (v2 : Int32) (v3 : Int32) (v4 : Int32) (v5 : Int32) : Option ((oh_H × Int32 × Int32) ⊕ (Int32 × oh_H)) :=
  oh_lt (v5 + (1 : Int32)) fun x1 => some (Sum.inl (h, v4, x1))
def f_X8_pays_189 (h : oh_H) (o : Nat) (v1 : Int32) (v2 : Int32) (v3 : Int32) (v4 : Int32) (v5 : Int32) (v11 : Int32) (s0 : Int32) (s1 : Int32) (s2 : Option Nat) : Option ((oh_H × Int32 × Int32) ⊕ (Int32 × oh_H)) :=
  (oh_tI h s2 20 s1 s0).bind fun h1 => oh_lt (v4 - v11) fun x2 => f_X8_pays_197 h1 o v1 v2 v3 x2 v5
def f_X8_pays_146 (h : oh_H) (o : Nat) (v1 : Int32) (v2 : Int32) (v3 : Int32) (v4 : Int32) (v5 : Int32) (v6 : Int32) (v7 : Int64) (s0 : Int32) : Option ((oh_H × Int32 × Int32) ⊕ (Int32 × oh_H)) :=
  oh_lt s0 fun x1 => if (100 : Int64) = 0 then none else oh_lt (((Int32.toInt64 x1) * v7) / (100 : Int64)) fun x2 => (oh_gR h (some o) 550).bind fun x3 => if (lg_cmp x2 (Int32.toInt64 v6)) ≤ 0 then (f_X8_pays_189 h o v1 v2 v3 v4 v5 x1 (v6 - (Int64.toInt32 x2)) (((3 : Int32) * v1) + v5) x3) else (f_X8_pays_189 h o v1 v2 v3 v4 v5 x1 (0 : Int32) (((3 : Int32) * v1) + v5) x3)
def f_X8_pays_129 (h : oh_H) (o : Nat) (v1 : Int32) (v2 : Int32) (v3 : Int32) (v4 : Int32) (v5 : Int32) (v6 : Int32) (v7 : Int64) (v9 : Int64) : Option ((oh_H × Int32 × Int32) ⊕ (Int32 × oh_H)) :=
  if 0 ≤ (lg_cmp v9 (Int32.toInt64 v4)) then (f_X8_pays_146 h o v1 v2 v3 v4 v5 v6 v7 v4) else (f_X8_pays_146 h o v1 v2 v3 v4 v5 v6 v7 (Int64.toInt32 v9))
abbrev pv_X8_pays_95 (G : oh_G) (o : Nat) (v1 : Int32) (v2 : Int32) (v3 : Int32) (v4 : Int32) (v5 : Int32) (v6 : Int32) (v7 : Int64) : (oh_H × Int64) → Prop := fun s => oh_V G 0 0 s.1 95 [(0, xr (some o)), (1, xi v1), (2, xi v2), (3, xi v3), (4, xi v4), (5, xi v5), (6, xi v6), (7, xl v7), (9, xl s.2)] []
def b_X8_pays_95 (h : oh_H) (o : Nat) (v1 : Int32) (v2 : Int32) (v3 : Int32) (v4 : Int32) (v5 : Int32) (v6 : Int32) (v7 : Int64) (v9 : Int64) : Option ((oh_H × Int64) ⊕ ((oh_H × Int32 × Int32) ⊕ (Int32 × oh_H))) :=
  if (lg_cmp v9 (0 : Int64)) ≤ 0 then (Option.map Sum.inr (f_X8_pays_129 h o v1 v2 v3 v4 v5 v6 v7 v9)) else (if (100 : Int64) = 0 then none else if (lg_cmp (((v9 - (1 : Int64)) * v7) / (100 : Int64)) (Int32.toInt64 v6)) < 0 then (Option.map Sum.inr (f_X8_pays_129 h o v1 v2 v3 v4 v5 v6 v7 v9)) else (oh_lt (v9 - (1 : Int64)) fun x1 => some (Sum.inl (h, x1))))
def f_X8_pays_95 (h : oh_H) (o : Nat) (v1 : Int32) (v2 : Int32) (v3 : Int32) (v4 : Int32) (v5 : Int32) (v6 : Int32) (v7 : Int64) (v9 : Int64) : Option ((oh_H × Int32 × Int32) ⊕ (Int32 × oh_H)) := oh_loop (fun s : oh_H × Int64 => b_X8_pays_95 s.1 o v1 v2 v3 v4 v5 v6 v7 s.2) 1000000 (h, v9)
abbrev pv_X8_pays_70 (G : oh_G) (o : Nat) (v1 : Int32) (v2 : Int32) (v3 : Int32) (v4 : Int32) (v5 : Int32) (v6 : Int32) (v7 : Int64) : (oh_H × Int64) → Prop := fun s => oh_V G 0 0 s.1 70 [(0, xr (some o)), (1, xi v1), (2, xi v2), (3, xi v3), (4, xi v4), (5, xi v5), (6, xi v6), (7, xl v7), (9, xl s.2)] []
def b_X8_pays_70 (h : oh_H) (o : Nat) (v1 : Int32) (v2 : Int32) (v3 : Int32) (v4 : Int32) (v5 : Int32) (v6 : Int32) (v7 : Int64) (v9 : Int64) : Option ((oh_H × Int64) ⊕ ((oh_H × Int32 × Int32) ⊕ (Int32 × oh_H))) :=
  if (100 : Int64) = 0 then none else if 0 ≤ (lg_cmp ((v9 * v7) / (100 : Int64)) (Int32.toInt64 v6)) then (Option.map Sum.inr (f_X8_pays_95 h o v1 v2 v3 v4 v5 v6 v7 v9)) else (oh_lt (v9 + (1 : Int64)) fun x1 => some (Sum.inl (h, x1)))
def f_X8_pays_70 (h : oh_H) (o : Nat) (v1 : Int32) (v2 : Int32) (v3 : Int32) (v4 : Int32) (v5 : Int32) (v6 : Int32) (v7 : Int64) (v9 : Int64) : Option ((oh_H × Int32 × Int32) ⊕ (Int32 × oh_H)) := oh_loop (fun s : oh_H × Int64 => b_X8_pays_70 s.1 o v1 v2 v3 v4 v5 v6 v7 s.2) 1000000 (h, v9)
abbrev pv_X8_pays_6 (G : oh_G) (o : Nat) (v1 : Int32) (v2 : Int32) (v3 : Int32) : (oh_H × Int32 × Int32) → Prop := fun s => oh_V G 0 0 s.1 6 [(0, xr (some o)), (1, xi v1), (2, xi v2), (3, xi v3), (4, xi s.2.1), (5, xi s.2.2)] []
def b_X8_pays_6 (h : oh_H) (o : Nat) (v1 : Int32) (v2 : Int32) (v3 : Int32) (v4 : Int32) (v5 : Int32) : Option ((oh_H × Int32 × Int32) ⊕ (Int32 × oh_H)) :=
  if (3 : Int32) ≤ v5 then (Option.map Sum.inr (some ((v3 - v4), h))) else ((oh_gR h (some o) 550).bind fun x1 => (oh_aI h x1 20 (((3 : Int32) * v1) + v5)).bind fun x2 => oh_lt x2 fun x3 => if x3 = 0 then (f_X8_pays_197 h o v1 v2 v3 v4 v5) else (if v4 = 0 then (f_X8_pays_197 h o v1 v2 v3 v4 v5) else (oh_lt ((100 : Int64) + ((10 : Int64) * (Int32.toInt64 (v5 - v2)))) fun x4 => if x4 = 0 then none else oh_lt (((((100 : Int64) * (Int32.toInt64 x3)) + x4) - (1 : Int64)) / x4) fun x5 => f_X8_pays_70 h o v1 v2 v3 v4 v5 x3 x4 x5)))
def f_X8_pays_6 (h : oh_H) (o : Nat) (v1 : Int32) (v2 : Int32) (v3 : Int32) (v4 : Int32) (v5 : Int32) : Option (Int32 × oh_H) := oh_loop (fun s : oh_H × Int32 × Int32 => b_X8_pays_6 s.1 o v1 v2 v3 s.2.1 s.2.2) 1000000 (h, v4, v5)
def f_X8_pays (h : oh_H) (o : Nat) (v1 : Int32) (v2 : Int32) (v3 : Int32) : Option (Int32 × oh_H) :=
  oh_lt v3 fun x1 => oh_lt v2 fun x2 => f_X8_pays_6 h o v1 v2 v3 x1 x2
set_option maxHeartbeats 4000000 in
set_option maxRecDepth 100000 in
theorem w_X8_pays_197 {G : oh_G} {l : Launch} (C : oh_C G cX8_pays wsX8_pays RX8 rmX8_pays 14) (hl : G.1.2.1 = l) (h0 : oh_H) (h : oh_H) (o : Nat) (v1 : Int32) (v2 : Int32) (v3 : Int32) (v4 : Int32) (v5 : Int32) : oh_J (oh_TL (pv_X8_pays_6 G o v1 v2 v3) (oh_TW h0 xi 0 0 (some .int) G)) (f_X8_pays_197 h o v1 v2 v3 v4 v5) (oh_V G 0 0 h 197 [(0, xr (some o)), (1, xi v1), (2, xi v2), (3, xi v3), (4, xi v4), (5, xi v5)] []) := by
  unfold f_X8_pays_197
  refine or_iinc C (y := (1 : Int32)) 5 rfl (by decide) (fun x1 => [(5, xi x1), (0, xr (some o)), (1, xi v1), (2, xi v2), (3, xi v3), (4, xi v4)]) (fun _ => rfl) (by decide) dX8_pays_197 (fun x1 => ?_)
  refine or_goto C 6 dX8_pays_200 (by decide) ?_
  refine or_sub [1, 2, 3, 4, 5, 0] rfl ?_
  exact oj_back (P := pv_X8_pays_6 G o v1 v2 v3) (s := (h, v4, x1))
set_option maxHeartbeats 4000000 in
set_option maxRecDepth 100000 in
theorem w_X8_pays_189 {G : oh_G} {l : Launch} (C : oh_C G cX8_pays wsX8_pays RX8 rmX8_pays 14) (hl : G.1.2.1 = l) (h0 : oh_H) (h : oh_H) (o : Nat) (v1 : Int32) (v2 : Int32) (v3 : Int32) (v4 : Int32) (v5 : Int32) (v11 : Int32) (s0 : Int32) (s1 : Int32) (s2 : Option Nat) : oh_J (oh_TL (pv_X8_pays_6 G o v1 v2 v3) (oh_TW h0 xi 0 0 (some .int) G)) (f_X8_pays_189 h o v1 v2 v3 v4 v5 v11 s0 s1 s2) (oh_V G 0 0 h 189 [(0, xr (some o)), (1, xi v1), (2, xi v2), (3, xi v3), (4, xi v4), (5, xi v5), (11, xi v11)] [xi s0, xi s1, xr s2]) := by
  unfold f_X8_pays_189
  refine or_iast C dX8_pays_189 (fun h1 => ?_)
  refine or_iload C 4 rfl dX8_pays_190 ?_
  refine or_iload C 6 rfl dX8_pays_192 ?_
  refine or_isub C dX8_pays_194 ?_
  refine or_istore C (fun x2 => [(4, xi x2), (0, xr (some o)), (1, xi v1), (2, xi v2), (3, xi v3), (5, xi v5), (11, xi v11)]) (fun _ => rfl) (by decide) dX8_pays_195 (fun x2 => ?_)
  refine or_sub [1, 2, 3, 4, 0, 5] rfl ?_
  exact w_X8_pays_197 C hl h0 h1 o v1 v2 v3 x2 v5
set_option maxHeartbeats 4000000 in
set_option maxRecDepth 100000 in
theorem w_X8_pays_146 {G : oh_G} {l : Launch} (C : oh_C G cX8_pays wsX8_pays RX8 rmX8_pays 14) (hl : G.1.2.1 = l) (h0 : oh_H) (h : oh_H) (o : Nat) (v1 : Int32) (v2 : Int32) (v3 : Int32) (v4 : Int32) (v5 : Int32) (v6 : Int32) (v7 : Int64) (s0 : Int32) : oh_J (oh_TL (pv_X8_pays_6 G o v1 v2 v3) (oh_TW h0 xi 0 0 (some .int) G)) (f_X8_pays_146 h o v1 v2 v3 v4 v5 v6 v7 s0) (oh_V G 0 0 h 146 [(0, xr (some o)), (1, xi v1), (2, xi v2), (3, xi v3), (4, xi v4), (5, xi v5), (6, xi v6), (7, xl v7)] [xi s0]) := by
  unfold f_X8_pays_146
  refine or_istore C (fun x1 => [(11, xi x1), (0, xr (some o)), (1, xi v1), (2, xi v2), (3, xi v3), (4, xi v4), (5, xi v5), (6, xi v6), (7, xl v7)]) (fun _ => rfl) (by decide) dX8_pays_146 (fun x1 => ?_)
  refine or_iload C 0 rfl dX8_pays_148 ?_
  refine or_i2l C dX8_pays_150 ?_
  refine or_lload C 8 rfl dX8_pays_151 ?_
  refine or_lmul C dX8_pays_153 ?_
  refine or_ldc2 C (v := (100 : Int64)) k_X8_pays_c218 dX8_pays_154 ?_
  refine or_ldiv C dX8_pays_157 ?_
  refine or_lstore C (fun x2 => [(12, xl x2), (11, xi x1), (0, xr (some o)), (1, xi v1), (2, xi v2), (3, xi v3), (4, xi v4), (5, xi v5), (6, xi v6), (7, xl v7)]) (fun _ => rfl) (by decide) dX8_pays_158 (fun x2 => ?_)
  refine or_aload_n C 2 rfl dX8_pays_160 ?_
  refine or_getR C 8 38 rfl (by decide) rfl (by decide) u_X8_pays_8 (by decide) k_X8_pays_f115 (by decide +kernel) dX8_pays_161 (fun x3 => ?_)
  refine or_iconst C (v := (3 : Int32)) dX8_pays_164 (by decide) ?_
  refine or_iload_n C 3 rfl dX8_pays_165 ?_
  refine or_imul C dX8_pays_166 ?_
  refine or_iload C 7 rfl dX8_pays_167 ?_
  refine or_iadd C dX8_pays_169 ?_
  refine or_lload C 0 rfl dX8_pays_170 ?_
  refine or_iload C 8 rfl dX8_pays_172 ?_
  refine or_i2l C dX8_pays_174 ?_
  refine or_lcmp C dX8_pays_175 ?_
  refine or_if_le C 183 dX8_pays_176 (by decide) ?_ ?_
  · refine or_iload C 8 rfl dX8_pays_183 ?_
    refine or_lload C 0 rfl dX8_pays_185 ?_
    refine or_l2i C dX8_pays_187 ?_
    refine or_isub C dX8_pays_188 ?_
    refine or_sub [2, 3, 4, 5, 6, 7, 1] rfl ?_
    exact w_X8_pays_189 C hl h0 h o v1 v2 v3 v4 v5 x1 (v6 - (Int64.toInt32 x2)) (((3 : Int32) * v1) + v5) x3
  · refine or_iconst C (v := (0 : Int32)) dX8_pays_179 (by decide) ?_
    refine or_goto C 189 dX8_pays_180 (by decide) ?_
    refine or_sub [2, 3, 4, 5, 6, 7, 1] rfl ?_
    exact w_X8_pays_189 C hl h0 h o v1 v2 v3 v4 v5 x1 (0 : Int32) (((3 : Int32) * v1) + v5) x3
set_option maxHeartbeats 4000000 in
set_option maxRecDepth 100000 in
theorem w_X8_pays_129 {G : oh_G} {l : Launch} (C : oh_C G cX8_pays wsX8_pays RX8 rmX8_pays 14) (hl : G.1.2.1 = l) (h0 : oh_H) (h : oh_H) (o : Nat) (v1 : Int32) (v2 : Int32) (v3 : Int32) (v4 : Int32) (v5 : Int32) (v6 : Int32) (v7 : Int64) (v9 : Int64) : oh_J (oh_TL (pv_X8_pays_6 G o v1 v2 v3) (oh_TW h0 xi 0 0 (some .int) G)) (f_X8_pays_129 h o v1 v2 v3 v4 v5 v6 v7 v9) (oh_V G 0 0 h 129 [(0, xr (some o)), (1, xi v1), (2, xi v2), (3, xi v3), (4, xi v4), (5, xi v5), (6, xi v6), (7, xl v7), (9, xl v9)] []) := by
  unfold f_X8_pays_129
  refine or_lload C 8 rfl dX8_pays_129 ?_
  refine or_iload C 4 rfl dX8_pays_131 ?_
  refine or_i2l C dX8_pays_133 ?_
  refine or_lcmp C dX8_pays_134 ?_
  refine or_if_ge C 144 dX8_pays_135 (by decide) ?_ ?_
  · refine or_iload C 4 rfl dX8_pays_144 ?_
    refine or_sub [0, 1, 2, 3, 4, 5, 6, 7] rfl ?_
    exact w_X8_pays_146 C hl h0 h o v1 v2 v3 v4 v5 v6 v7 v4
  · refine or_lload C 8 rfl dX8_pays_138 ?_
    refine or_l2i C dX8_pays_140 ?_
    refine or_goto C 146 dX8_pays_141 (by decide) ?_
    refine or_sub [0, 1, 2, 3, 4, 5, 6, 7] rfl ?_
    exact w_X8_pays_146 C hl h0 h o v1 v2 v3 v4 v5 v6 v7 (Int64.toInt32 v9)
set_option maxHeartbeats 4000000 in
set_option maxRecDepth 100000 in
theorem wb_X8_pays_95 {G : oh_G} {l : Launch} (C : oh_C G cX8_pays wsX8_pays RX8 rmX8_pays 14) (hl : G.1.2.1 = l) (h0 : oh_H) (h : oh_H) (o : Nat) (v1 : Int32) (v2 : Int32) (v3 : Int32) (v4 : Int32) (v5 : Int32) (v6 : Int32) (v7 : Int64) (v9 : Int64) : oh_J (oh_TL (pv_X8_pays_95 G o v1 v2 v3 v4 v5 v6 v7) (oh_TL (pv_X8_pays_6 G o v1 v2 v3) (oh_TW h0 xi 0 0 (some .int) G))) (b_X8_pays_95 h o v1 v2 v3 v4 v5 v6 v7 v9) (oh_V G 0 0 h 95 [(0, xr (some o)), (1, xi v1), (2, xi v2), (3, xi v3), (4, xi v4), (5, xi v5), (6, xi v6), (7, xl v7), (9, xl v9)] []) := by
  unfold b_X8_pays_95
  refine or_lload C 8 rfl dX8_pays_95 ?_
  refine or_lconst C (v := (0 : Int64)) dX8_pays_97 rfl ?_
  refine or_lcmp C dX8_pays_98 ?_
  refine or_if_le C 129 dX8_pays_99 (by decide) ?_ ?_
  · refine oj_inr ?_
    refine or_sub [0, 1, 2, 3, 4, 5, 6, 7, 8] rfl ?_
    exact w_X8_pays_129 C hl h0 h o v1 v2 v3 v4 v5 v6 v7 v9
  · refine or_lload C 8 rfl dX8_pays_102 ?_
    refine or_lconst C (v := (1 : Int64)) dX8_pays_104 rfl ?_
    refine or_lsub C dX8_pays_105 ?_
    refine or_lload C 7 rfl dX8_pays_106 ?_
    refine or_lmul C dX8_pays_108 ?_
    refine or_ldc2 C (v := (100 : Int64)) k_X8_pays_c218 dX8_pays_109 ?_
    refine or_ldiv C dX8_pays_112 ?_
    refine or_iload C 6 rfl dX8_pays_113 ?_
    refine or_i2l C dX8_pays_115 ?_
    refine or_lcmp C dX8_pays_116 ?_
    refine or_if_lt C 129 dX8_pays_117 (by decide) ?_ ?_
    · refine oj_inr ?_
      refine or_sub [0, 1, 2, 3, 4, 5, 6, 7, 8] rfl ?_
      exact w_X8_pays_129 C hl h0 h o v1 v2 v3 v4 v5 v6 v7 v9
    · refine or_lload C 8 rfl dX8_pays_120 ?_
      refine or_lconst C (v := (1 : Int64)) dX8_pays_122 rfl ?_
      refine or_lsub C dX8_pays_123 ?_
      refine or_lstore C (fun x1 => [(9, xl x1), (0, xr (some o)), (1, xi v1), (2, xi v2), (3, xi v3), (4, xi v4), (5, xi v5), (6, xi v6), (7, xl v7)]) (fun _ => rfl) (by decide) dX8_pays_124 (fun x1 => ?_)
      refine or_goto C 95 dX8_pays_126 (by decide) ?_
      refine or_sub [1, 2, 3, 4, 5, 6, 7, 8, 0] rfl ?_
      exact oj_back (P := pv_X8_pays_95 G o v1 v2 v3 v4 v5 v6 v7) (s := (h, x1))
theorem w_X8_pays_95 {G : oh_G} {l : Launch} (C : oh_C G cX8_pays wsX8_pays RX8 rmX8_pays 14) (hl : G.1.2.1 = l) (h0 : oh_H) (h : oh_H) (o : Nat) (v1 : Int32) (v2 : Int32) (v3 : Int32) (v4 : Int32) (v5 : Int32) (v6 : Int32) (v7 : Int64) (v9 : Int64) : oh_J (oh_TL (pv_X8_pays_6 G o v1 v2 v3) (oh_TW h0 xi 0 0 (some .int) G)) (f_X8_pays_95 h o v1 v2 v3 v4 v5 v6 v7 v9) (oh_V G 0 0 h 95 [(0, xr (some o)), (1, xi v1), (2, xi v2), (3, xi v3), (4, xi v4), (5, xi v5), (6, xi v6), (7, xl v7), (9, xl v9)] []) := by
  unfold f_X8_pays_95
  exact oj_loop (P := pv_X8_pays_95 G o v1 v2 v3 v4 v5 v6 v7) (fun s => wb_X8_pays_95 C hl h0 s.1 o v1 v2 v3 v4 v5 v6 v7 s.2) 1000000 (h, v9)
set_option maxHeartbeats 4000000 in
set_option maxRecDepth 100000 in
theorem wb_X8_pays_70 {G : oh_G} {l : Launch} (C : oh_C G cX8_pays wsX8_pays RX8 rmX8_pays 14) (hl : G.1.2.1 = l) (h0 : oh_H) (h : oh_H) (o : Nat) (v1 : Int32) (v2 : Int32) (v3 : Int32) (v4 : Int32) (v5 : Int32) (v6 : Int32) (v7 : Int64) (v9 : Int64) : oh_J (oh_TL (pv_X8_pays_70 G o v1 v2 v3 v4 v5 v6 v7) (oh_TL (pv_X8_pays_6 G o v1 v2 v3) (oh_TW h0 xi 0 0 (some .int) G))) (b_X8_pays_70 h o v1 v2 v3 v4 v5 v6 v7 v9) (oh_V G 0 0 h 70 [(0, xr (some o)), (1, xi v1), (2, xi v2), (3, xi v3), (4, xi v4), (5, xi v5), (6, xi v6), (7, xl v7), (9, xl v9)] []) := by
  unfold b_X8_pays_70
  refine or_lload C 8 rfl dX8_pays_70 ?_
  refine or_lload C 7 rfl dX8_pays_72 ?_
  refine or_lmul C dX8_pays_74 ?_
  refine or_ldc2 C (v := (100 : Int64)) k_X8_pays_c218 dX8_pays_75 ?_
  refine or_ldiv C dX8_pays_78 ?_
  refine or_iload C 6 rfl dX8_pays_79 ?_
  refine or_i2l C dX8_pays_81 ?_
  refine or_lcmp C dX8_pays_82 ?_
  refine or_if_ge C 95 dX8_pays_83 (by decide) ?_ ?_
  · refine oj_inr ?_
    refine or_sub [0, 1, 2, 3, 4, 5, 6, 7, 8] rfl ?_
    exact w_X8_pays_95 C hl h0 h o v1 v2 v3 v4 v5 v6 v7 v9
  · refine or_lload C 8 rfl dX8_pays_86 ?_
    refine or_lconst C (v := (1 : Int64)) dX8_pays_88 rfl ?_
    refine or_ladd C dX8_pays_89 ?_
    refine or_lstore C (fun x1 => [(9, xl x1), (0, xr (some o)), (1, xi v1), (2, xi v2), (3, xi v3), (4, xi v4), (5, xi v5), (6, xi v6), (7, xl v7)]) (fun _ => rfl) (by decide) dX8_pays_90 (fun x1 => ?_)
    refine or_goto C 70 dX8_pays_92 (by decide) ?_
    refine or_sub [1, 2, 3, 4, 5, 6, 7, 8, 0] rfl ?_
    exact oj_back (P := pv_X8_pays_70 G o v1 v2 v3 v4 v5 v6 v7) (s := (h, x1))
theorem w_X8_pays_70 {G : oh_G} {l : Launch} (C : oh_C G cX8_pays wsX8_pays RX8 rmX8_pays 14) (hl : G.1.2.1 = l) (h0 : oh_H) (h : oh_H) (o : Nat) (v1 : Int32) (v2 : Int32) (v3 : Int32) (v4 : Int32) (v5 : Int32) (v6 : Int32) (v7 : Int64) (v9 : Int64) : oh_J (oh_TL (pv_X8_pays_6 G o v1 v2 v3) (oh_TW h0 xi 0 0 (some .int) G)) (f_X8_pays_70 h o v1 v2 v3 v4 v5 v6 v7 v9) (oh_V G 0 0 h 70 [(0, xr (some o)), (1, xi v1), (2, xi v2), (3, xi v3), (4, xi v4), (5, xi v5), (6, xi v6), (7, xl v7), (9, xl v9)] []) := by
  unfold f_X8_pays_70
  exact oj_loop (P := pv_X8_pays_70 G o v1 v2 v3 v4 v5 v6 v7) (fun s => wb_X8_pays_70 C hl h0 s.1 o v1 v2 v3 v4 v5 v6 v7 s.2) 1000000 (h, v9)
set_option maxHeartbeats 4000000 in
set_option maxRecDepth 100000 in
theorem wb_X8_pays_6 {G : oh_G} {l : Launch} (C : oh_C G cX8_pays wsX8_pays RX8 rmX8_pays 14) (hl : G.1.2.1 = l) (h0 : oh_H) (h : oh_H) (o : Nat) (v1 : Int32) (v2 : Int32) (v3 : Int32) (v4 : Int32) (v5 : Int32) : oh_J (oh_TL (pv_X8_pays_6 G o v1 v2 v3) (oh_TW h0 xi 0 0 (some .int) G)) (b_X8_pays_6 h o v1 v2 v3 v4 v5) (oh_V G 0 0 h 6 [(0, xr (some o)), (1, xi v1), (2, xi v2), (3, xi v3), (4, xi v4), (5, xi v5)] []) := by
  unfold b_X8_pays_6
  refine or_iload C 5 rfl dX8_pays_6 ?_
  refine or_iconst C (v := (3 : Int32)) dX8_pays_8 (by decide) ?_
  refine or_icmp_ge C 203 dX8_pays_9 (by decide) ?_ ?_
  · refine oj_inr ?_
    refine or_iload_n C 3 rfl dX8_pays_203 ?_
    refine or_iload C 4 rfl dX8_pays_204 ?_
    refine or_isub C dX8_pays_206 ?_
    exact or_iret C ⟨Nat.le_of_ble_eq_true rfl, Nat.le_of_ble_eq_true rfl⟩ dX8_pays_207
  · refine or_aload_n C 0 rfl dX8_pays_12 ?_
    refine or_getR C 8 38 rfl (by decide) rfl (by decide) u_X8_pays_8 (by decide) k_X8_pays_f115 (by decide +kernel) dX8_pays_13 (fun x1 => ?_)
    refine or_iconst C (v := (3 : Int32)) dX8_pays_16 (by decide) ?_
    refine or_iload_n C 1 rfl dX8_pays_17 ?_
    refine or_imul C dX8_pays_18 ?_
    refine or_iload C 5 rfl dX8_pays_19 ?_
    refine or_iadd C dX8_pays_21 ?_
    refine or_iald C dX8_pays_22 (fun x2 => ?_)
    refine or_istore C (fun x3 => [(6, xi x3), (0, xr (some o)), (1, xi v1), (2, xi v2), (3, xi v3), (4, xi v4), (5, xi v5)]) (fun _ => rfl) (by decide) dX8_pays_23 (fun x3 => ?_)
    refine or_iload C 0 rfl dX8_pays_25 ?_
    refine or_if_eq C 197 dX8_pays_27 (by decide) ?_ ?_
    · refine or_sub [1, 2, 3, 4, 5, 6] rfl ?_
      exact w_X8_pays_197 C hl h0 h o v1 v2 v3 v4 v5
    · refine or_iload C 5 rfl dX8_pays_30 ?_
      refine or_if_ne C 38 dX8_pays_32 (by decide) ?_ ?_
      · refine or_goto C 197 dX8_pays_35 (by decide) ?_
        refine or_sub [1, 2, 3, 4, 5, 6] rfl ?_
        exact w_X8_pays_197 C hl h0 h o v1 v2 v3 v4 v5
      · refine or_ldc2 C (v := (100 : Int64)) k_X8_pays_c218 dX8_pays_38 ?_
        refine or_ldc2 C (v := (10 : Int64)) k_X8_pays_c220 dX8_pays_41 ?_
        refine or_iload C 6 rfl dX8_pays_44 ?_
        refine or_iload_n C 3 rfl dX8_pays_46 ?_
        refine or_isub C dX8_pays_47 ?_
        refine or_i2l C dX8_pays_48 ?_
        refine or_lmul C dX8_pays_49 ?_
        refine or_ladd C dX8_pays_50 ?_
        refine or_lstore C (fun x4 => [(7, xl x4), (6, xi x3), (0, xr (some o)), (1, xi v1), (2, xi v2), (3, xi v3), (4, xi v4), (5, xi v5)]) (fun _ => rfl) (by decide) dX8_pays_51 (fun x4 => ?_)
        refine or_ldc2 C (v := (100 : Int64)) k_X8_pays_c218 dX8_pays_53 ?_
        refine or_iload C 1 rfl dX8_pays_56 ?_
        refine or_i2l C dX8_pays_58 ?_
        refine or_lmul C dX8_pays_59 ?_
        refine or_lload C 0 rfl dX8_pays_60 ?_
        refine or_ladd C dX8_pays_62 ?_
        refine or_lconst C (v := (1 : Int64)) dX8_pays_63 rfl ?_
        refine or_lsub C dX8_pays_64 ?_
        refine or_lload C 0 rfl dX8_pays_65 ?_
        refine or_ldiv C dX8_pays_67 ?_
        refine or_lstore C (fun x5 => [(9, xl x5), (7, xl x4), (6, xi x3), (0, xr (some o)), (1, xi v1), (2, xi v2), (3, xi v3), (4, xi v4), (5, xi v5)]) (fun _ => rfl) (by decide) dX8_pays_68 (fun x5 => ?_)
        refine or_sub [3, 4, 5, 6, 7, 8, 2, 1, 0] rfl ?_
        exact w_X8_pays_70 C hl h0 h o v1 v2 v3 v4 v5 x3 x4 x5
theorem w_X8_pays_6 {G : oh_G} {l : Launch} (C : oh_C G cX8_pays wsX8_pays RX8 rmX8_pays 14) (hl : G.1.2.1 = l) (h0 : oh_H) (h : oh_H) (o : Nat) (v1 : Int32) (v2 : Int32) (v3 : Int32) (v4 : Int32) (v5 : Int32) : oh_J (oh_TW h0 xi 0 0 (some .int) G) (f_X8_pays_6 h o v1 v2 v3 v4 v5) (oh_V G 0 0 h 6 [(0, xr (some o)), (1, xi v1), (2, xi v2), (3, xi v3), (4, xi v4), (5, xi v5)] []) := by
  unfold f_X8_pays_6
  exact oj_loop (P := pv_X8_pays_6 G o v1 v2 v3) (fun s => wb_X8_pays_6 C hl h0 s.1 o v1 v2 v3 s.2.1 s.2.2) 1000000 (h, v4, v5)
set_option maxHeartbeats 4000000 in
set_option maxRecDepth 100000 in
theorem w_X8_pays_0 {G : oh_G} {l : Launch} (C : oh_C G cX8_pays wsX8_pays RX8 rmX8_pays 14) (hl : G.1.2.1 = l) (h0 : oh_H) (h : oh_H) (o : Nat) (v1 : Int32) (v2 : Int32) (v3 : Int32) : oh_J (oh_TW h0 xi 0 0 (some .int) G) (f_X8_pays h o v1 v2 v3) (oh_V G 0 0 h 0 [(0, xr (some o)), (1, xi v1), (2, xi v2), (3, xi v3)] []) := by
  unfold f_X8_pays
  refine or_iload_n C 3 rfl dX8_pays_0 ?_
  refine or_istore C (fun x1 => [(4, xi x1), (0, xr (some o)), (1, xi v1), (2, xi v2), (3, xi v3)]) (fun _ => rfl) (by decide) dX8_pays_1 (fun x1 => ?_)
  refine or_iload_n C 3 rfl dX8_pays_3 ?_
  refine or_istore C (fun x2 => [(5, xi x2), (4, xi x1), (0, xr (some o)), (1, xi v1), (2, xi v2), (3, xi v3)]) (fun _ => rfl) (by decide) dX8_pays_4 (fun x2 => ?_)
  refine or_sub [2, 3, 4, 5, 1, 0] rfl ?_
  exact w_X8_pays_6 C hl h0 h o v1 v2 v3 x1 x2
theorem m_X8_pays (l : Launch) (h : oh_H) (o : Nat) (v1 : Int32) (v2 : Int32) (v3 : Int32) (p : Int32 × oh_H) (hf : f_X8_pays h o v1 v2 v3 = some p) : oh_M l yX8_pays wsX8_pays rmX8_pays 0 0 [xr (some o), xi v1, xi v2, xi v3] h (some (xi p.1)) p.2 :=
  oh_met (cc := cX8_pays) (maxL := 14) (ret := (some .int)) (by decide) rfl (Nat.le_of_ble_eq_true rfl) (fun G C hl hN E => w_X8_pays_0 C hl h h o v1 v2 v3 p hf E)
/-! X8_pay -/
theorem k_X8_pay_f26 : Cond.fieldLink RX8 26 "OilPressModel" "kind" "[I" ∈ wsX8_pay := List.mem_of_getElem? (i := 1) (by decide +kernel)
theorem u_X8_pay_8 : ∀ w ∈ u_ws RX8 TX8 54, w ∈ wsX8_pay := fun w h => List.mem_cons_of_mem _ (List.mem_append_right _ (h))
theorem k_X8_pay_f35 : Cond.fieldLink RX8 35 "OilPressModel" "state" "[I" ∈ wsX8_pay := List.mem_of_getElem? (i := 2) (by decide +kernel)
theorem k_X8_pay_f50 : Cond.fieldLink RX8 50 "OilPressModel" "left" "[I" ∈ wsX8_pay := List.mem_of_getElem? (i := 3) (by decide +kernel)
theorem k_X8_pay_f53 : Cond.fieldLink RX8 53 "OilPressModel" "where" "[I" ∈ wsX8_pay := List.mem_of_getElem? (i := 4) (by decide +kernel)
theorem k_X8_pay_f19 : Cond.fieldLink RX8 19 "OilPressModel" "farmer" "[I" ∈ wsX8_pay := List.mem_of_getElem? (i := 5) (by decide +kernel)
theorem k_X8_pay_f29 : Cond.fieldLink RX8 29 "OilPressModel" "grove" "[I" ∈ wsX8_pay := List.mem_of_getElem? (i := 6) (by decide +kernel)
theorem k_X8_pay_f90 : Cond.fieldLink RX8 90 "OilPressModel" "sort" "[I" ∈ wsX8_pay := List.mem_of_getElem? (i := 7) (by decide +kernel)
theorem k_X8_pay_f102 : Cond.fieldLink RX8 102 "OilPressModel" "own" "[I" ∈ wsX8_pay := List.mem_of_getElem? (i := 8) (by decide +kernel)
abbrev rmX8_pay : Room := { frames := 2, cells := 0, slots := 0, locals := 43 }
def f_X8_pay_38 (h : oh_H) (o : Nat) : Option (Int32 × oh_H) :=
  some ((-1 : Int32), h)
def f_X8_pay (h : oh_H) (o : Nat) (v1 : Int32) : Option (Int32 × oh_H) :=
  oh_rc h (some o) 9 fun o2 => (f_X8_isLot h o2 v1).bind fun p3 => if p3 = 0 then (f_X8_pay_38 h o) else ((oh_gR h (some o) 520).bind fun x5 => (oh_aI h x5 20 v1).bind fun x6 => if x6 = (4 : Int32) then ((oh_gR h (some o) 523).bind fun x7 => (oh_aI h x7 20 v1).bind fun x8 => if x8 = (6 : Int32) then ((oh_gR h (some o) 528).bind fun x9 => (oh_aI h x9 20 v1).bind fun x10 => if x10 = 0 then (f_X8_pay_38 h o) else ((oh_gR h (some o) 529).bind fun x11 => (oh_aI h x11 20 v1).bind fun x12 => oh_lt x12 fun x13 => (oh_gR h (some o) 517).bind fun x14 => (oh_gR h (some o) 521).bind fun x15 => (oh_aI h x15 20 v1).bind fun x16 => (oh_aI h x14 20 x16).bind fun x17 => (oh_gR h (some o) 542).bind fun x18 => (oh_aI h x18 20 x13).bind fun x19 => (oh_gR h (some o) 528).bind fun x20 => (oh_aI h x20 20 v1).bind fun x21 => oh_rc h (some o) 9 fun o23 => (f_X8_pays h o23 x17 x19 x21).bind fun p24 => oh_lt p24.1 fun x26 => (oh_gR p24.2 (some o) 528).bind fun x27 => (oh_aI p24.2 x27 20 v1).bind fun x28 => (oh_tI p24.2 x27 20 v1 (x28 - x26)).bind fun h29 => (oh_gR h29 (some o) 546).bind fun x30 => (oh_aI h29 x30 20 x13).bind fun x31 => (oh_tI h29 x30 20 x13 (x31 + x26)).bind fun h32 => some (x26, h32))) else (f_X8_pay_38 h o)) else (f_X8_pay_38 h o))
set_option maxHeartbeats 4000000 in
set_option maxRecDepth 100000 in
theorem w_X8_pay_38 {G : oh_G} {l : Launch} (C : oh_C G cX8_pay wsX8_pay RX8 rmX8_pay 4) (hl : G.1.2.1 = l) (h0 : oh_H) (h : oh_H) (o : Nat) : oh_J (oh_TW h0 xi 0 0 (some .int) G) (f_X8_pay_38 h o) (oh_V G 0 0 h 38 [] []) := by
  unfold f_X8_pay_38
  refine or_iconst C (v := (-1 : Int32)) dX8_pay_38 (by decide) ?_
  exact or_iret C ⟨Nat.le_of_ble_eq_true rfl, Nat.le_of_ble_eq_true rfl⟩ dX8_pay_39
set_option maxHeartbeats 4000000 in
set_option maxRecDepth 100000 in
theorem w_X8_pay_0 {G : oh_G} {l : Launch} (C : oh_C G cX8_pay wsX8_pay RX8 rmX8_pay 4) (hl : G.1.2.1 = l) (h0 : oh_H) (h : oh_H) (o : Nat) (v1 : Int32) : oh_J (oh_TW h0 xi 0 0 (some .int) G) (f_X8_pay h o v1) (oh_V G 0 0 h 0 [(0, xr (some o)), (1, xi v1)] []) := by
  unfold f_X8_pay
  refine or_aload_n C 0 rfl dX8_pay_0 ?_
  refine or_iload_n C 1 rfl dX8_pay_1 ?_
  refine oj_rcs (fun q1 => ?_)
  refine oj_bind (fun p3 z4 => ?_)
  refine oj_v (P := oh_V G 0 0 h 5 [(0, xr (some o)), (1, xi v1)] [xi p3]) (fun k => or_callV C 1 hl (m_X8_isLot _ h o v1 p3 z4) gX8_pay_X8_isLot rfl rfl rfl (by decide +kernel) ⟨Nat.le_of_ble_eq_true rfl, Nat.le_of_ble_eq_true rfl⟩ q1 rfl (by decide) (Nat.le_of_ble_eq_true rfl) dX8_pay_2 ⟨Nat.le_of_ble_eq_true rfl, Nat.le_of_ble_eq_true rfl⟩ rfl rfl k) ?_
  refine or_if_eq C 38 dX8_pay_5 (by decide) ?_ ?_
  · refine or_sub [] rfl ?_
    exact w_X8_pay_38 C hl h0 h o
  · refine or_aload_n C 0 rfl dX8_pay_8 ?_
    refine or_getR C 8 8 rfl (by decide) rfl (by decide) u_X8_pay_8 (by decide) k_X8_pay_f26 (by decide +kernel) dX8_pay_9 (fun x5 => ?_)
    refine or_iload_n C 1 rfl dX8_pay_12 ?_
    refine or_iald C dX8_pay_13 (fun x6 => ?_)
    refine or_iconst C (v := (4 : Int32)) dX8_pay_14 (by decide) ?_
    refine or_icmp_ne C 38 dX8_pay_15 (by decide) ?_ ?_
    · refine or_aload_n C 0 rfl dX8_pay_18 ?_
      refine or_getR C 8 11 rfl (by decide) rfl (by decide) u_X8_pay_8 (by decide) k_X8_pay_f35 (by decide +kernel) dX8_pay_19 (fun x7 => ?_)
      refine or_iload_n C 1 rfl dX8_pay_22 ?_
      refine or_iald C dX8_pay_23 (fun x8 => ?_)
      refine or_bipush C (v := (6 : Int32)) dX8_pay_24 (by decide) ?_
      refine or_icmp_ne C 38 dX8_pay_26 (by decide) ?_ ?_
      · refine or_aload_n C 0 rfl dX8_pay_29 ?_
        refine or_getR C 8 16 rfl (by decide) rfl (by decide) u_X8_pay_8 (by decide) k_X8_pay_f50 (by decide +kernel) dX8_pay_30 (fun x9 => ?_)
        refine or_iload_n C 1 rfl dX8_pay_33 ?_
        refine or_iald C dX8_pay_34 (fun x10 => ?_)
        refine or_if_ne C 40 dX8_pay_35 (by decide) ?_ ?_
        · refine or_sub [] rfl ?_
          exact w_X8_pay_38 C hl h0 h o
        · refine or_aload_n C 0 rfl dX8_pay_40 ?_
          refine or_getR C 8 17 rfl (by decide) rfl (by decide) u_X8_pay_8 (by decide) k_X8_pay_f53 (by decide +kernel) dX8_pay_41 (fun x11 => ?_)
          refine or_iload_n C 1 rfl dX8_pay_44 ?_
          refine or_iald C dX8_pay_45 (fun x12 => ?_)
          refine or_istore_n C (fun x13 => [(2, xi x13), (0, xr (some o)), (1, xi v1)]) (fun _ => rfl) (by decide) dX8_pay_46 (fun x13 => ?_)
          refine or_aload_n C 1 rfl dX8_pay_47 ?_
          refine or_aload_n C 1 rfl dX8_pay_48 ?_
          refine or_getR C 8 5 rfl (by decide) rfl (by decide) u_X8_pay_8 (by decide) k_X8_pay_f19 (by decide +kernel) dX8_pay_49 (fun x14 => ?_)
          refine or_aload_n C 1 rfl dX8_pay_52 ?_
          refine or_getR C 8 9 rfl (by decide) rfl (by decide) u_X8_pay_8 (by decide) k_X8_pay_f29 (by decide +kernel) dX8_pay_53 (fun x15 => ?_)
          refine or_iload_n C 2 rfl dX8_pay_56 ?_
          refine or_iald C dX8_pay_57 (fun x16 => ?_)
          refine or_iald C dX8_pay_58 (fun x17 => ?_)
          refine or_aload_n C 1 rfl dX8_pay_59 ?_
          refine or_getR C 8 30 rfl (by decide) rfl (by decide) u_X8_pay_8 (by decide) k_X8_pay_f90 (by decide +kernel) dX8_pay_60 (fun x18 => ?_)
          refine or_iload_n C 0 rfl dX8_pay_63 ?_
          refine or_iald C dX8_pay_64 (fun x19 => ?_)
          refine or_aload_n C 1 rfl dX8_pay_65 ?_
          refine or_getR C 8 16 rfl (by decide) rfl (by decide) u_X8_pay_8 (by decide) k_X8_pay_f50 (by decide +kernel) dX8_pay_66 (fun x20 => ?_)
          refine or_iload_n C 2 rfl dX8_pay_69 ?_
          refine or_iald C dX8_pay_70 (fun x21 => ?_)
          refine oj_rcs (fun q22 => ?_)
          refine oj_bind (fun p24 z25 => ?_)
          refine oj_v (P := oh_V G 0 0 p24.2 74 [(2, xi x13), (0, xr (some o)), (1, xi v1)] [xi p24.1]) (fun k => or_callV C 3 hl (m_X8_pays _ h o x17 x19 x21 p24 z25) gX8_pay_X8_pays rfl rfl rfl (by decide +kernel) ⟨Nat.le_of_ble_eq_true rfl, Nat.le_of_ble_eq_true rfl⟩ q22 rfl (by decide) (Nat.le_of_ble_eq_true rfl) dX8_pay_71 ⟨Nat.le_of_ble_eq_true rfl, Nat.le_of_ble_eq_true rfl⟩ rfl rfl k) ?_
          refine or_istore_n C (fun x26 => [(3, xi x26), (2, xi x13), (0, xr (some o)), (1, xi v1)]) (fun _ => rfl) (by decide) dX8_pay_74 (fun x26 => ?_)
          refine or_aload_n C 2 rfl dX8_pay_75 ?_
          refine or_getR C 8 16 rfl (by decide) rfl (by decide) u_X8_pay_8 (by decide) k_X8_pay_f50 (by decide +kernel) dX8_pay_76 (fun x27 => ?_)
          refine or_iload_n C 3 rfl dX8_pay_79 ?_
          refine or_dup2 C rfl rfl dX8_pay_80 ?_
          refine or_iald C dX8_pay_81 (fun x28 => ?_)
          refine or_iload_n C 0 rfl dX8_pay_82 ?_
          refine or_isub C dX8_pay_83 ?_
          refine or_iast C dX8_pay_84 (fun h29 => ?_)
          refine or_aload_n C 2 rfl dX8_pay_85 ?_
          refine or_getR C 8 34 rfl (by decide) rfl (by decide) u_X8_pay_8 (by decide) k_X8_pay_f102 (by decide +kernel) dX8_pay_86 (fun x30 => ?_)
          refine or_iload_n C 1 rfl dX8_pay_89 ?_
          refine or_dup2 C rfl rfl dX8_pay_90 ?_
          refine or_iald C dX8_pay_91 (fun x31 => ?_)
          refine or_iload_n C 0 rfl dX8_pay_92 ?_
          refine or_iadd C dX8_pay_93 ?_
          refine or_iast C dX8_pay_94 (fun h32 => ?_)
          refine or_iload_n C 0 rfl dX8_pay_95 ?_
          exact or_iret C ⟨Nat.le_of_ble_eq_true rfl, Nat.le_of_ble_eq_true rfl⟩ dX8_pay_96
      · refine or_sub [] rfl ?_
        exact w_X8_pay_38 C hl h0 h o
    · refine or_sub [] rfl ?_
      exact w_X8_pay_38 C hl h0 h o
theorem m_X8_pay (l : Launch) (h : oh_H) (o : Nat) (v1 : Int32) (p : Int32 × oh_H) (hf : f_X8_pay h o v1 = some p) : oh_M l yX8_pay wsX8_pay rmX8_pay 0 0 [xr (some o), xi v1] h (some (xi p.1)) p.2 :=
  oh_met (cc := cX8_pay) (maxL := 4) (ret := (some .int)) (by decide) rfl (Nat.le_of_ble_eq_true rfl) (fun G C hl hN E => w_X8_pay_0 C hl h h o v1 p hf E)
