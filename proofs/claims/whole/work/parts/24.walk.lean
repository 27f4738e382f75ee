/-! X8_nextOrder -/
theorem k_X8_nextOrder_f124 : Cond.fieldLink RX8 124 "OilPressModel" "order" "[I" ∈ wsX8_nextOrder := List.mem_of_getElem? (i := 2) (by decide +kernel)
theorem u_X8_nextOrder_8 : ∀ w ∈ u_ws RX8 TX8 54, w ∈ wsX8_nextOrder := fun w h => List.mem_cons_of_mem _ (List.mem_append_right _ (h))
theorem k_X8_nextOrder_f236 : Cond.fieldLink RX8 236 "OilPressModel" "lotsToPlan" "I" ∈ wsX8_nextOrder := List.mem_of_getElem? (i := 1) (by decide +kernel)
abbrev rmX8_nextOrder : Room := { frames := 0, cells := 0, slots := 0, locals := 0 }
abbrev pv_X8_nextOrder_107 (G : oh_G) (o : Nat) : (oh_H × Int32 × Int32) → Prop := fun s => oh_V G 0 0 s.1 107 [(0, xr (some o)), (4, xi s.2.1), (5, xi s.2.2)] []
def b_X8_nextOrder_107 (h : oh_H) (o : Nat) (v4 : Int32) (v5 : Int32) : Option ((oh_H × Int32 × Int32) ⊕ (Int32 × oh_H)) :=
  if v5 ≤ v4 then (Option.map Sum.inr (oh_bz (1 : Int32) (some ((1 : Int32), h)))) else ((oh_gR h (some o) 563).bind fun x1 => (oh_aI h x1 20 v4).bind fun x2 => oh_lt x2 fun x3 => (oh_gR h (some o) 563).bind fun x4 => (oh_gR h (some o) 563).bind fun x5 => (oh_aI h x5 20 v5).bind fun x6 => (oh_tI h x4 20 v4 x6).bind fun h7 => (oh_gR h7 (some o) 563).bind fun x8 => (oh_tI h7 x8 20 v5 x3).bind fun h9 => oh_lt (v4 + (1 : Int32)) fun x10 => oh_lt (v5 + (-1 : Int32)) fun x11 => some (Sum.inl (h9, x10, x11)))
def f_X8_nextOrder_107 (h : oh_H) (o : Nat) (v4 : Int32) (v5 : Int32) : Option (Int32 × oh_H) := oh_loop (fun s : oh_H × Int32 × Int32 => b_X8_nextOrder_107 s.1 o s.2.1 s.2.2) 1000000 (h, v4, v5)
abbrev pv_X8_nextOrder_47 (G : oh_G) (o : Nat) (v1 : Int32) : (oh_H × Int32) → Prop := fun s => oh_V G 0 0 s.1 47 [(0, xr (some o)), (1, xi v1), (2, xi s.2)] []
def b_X8_nextOrder_47 (h : oh_H) (o : Nat) (v1 : Int32) (v2 : Int32) : Option ((oh_H × Int32) ⊕ (Int32 × oh_H)) :=
  (oh_gR h (some o) 563).bind fun x1 => (oh_aI h x1 20 v2).bind fun x2 => (oh_gR h (some o) 563).bind fun x3 => (oh_aI h x3 20 v1).bind fun x4 => if x4 ≤ x2 then (Option.map Sum.inr ((oh_gR h (some o) 563).bind fun x5 => (oh_aI h x5 20 v1).bind fun x6 => oh_lt x6 fun x7 => (oh_gR h (some o) 563).bind fun x8 => (oh_gR h (some o) 563).bind fun x9 => (oh_aI h x9 20 v2).bind fun x10 => (oh_tI h x8 20 v1 x10).bind fun h11 => (oh_gR h11 (some o) 563).bind fun x12 => (oh_tI h11 x12 20 v2 x7).bind fun h13 => oh_lt (v1 + (1 : Int32)) fun x14 => (oh_gI h13 (some o) 561).bind fun x15 => oh_lt (x15 - (1 : Int32)) fun x16 => f_X8_nextOrder_107 h13 o x14 x16)) else (oh_lt (v2 + (-1 : Int32)) fun x17 => some (Sum.inl (h, x17)))
def f_X8_nextOrder_47 (h : oh_H) (o : Nat) (v1 : Int32) (v2 : Int32) : Option (Int32 × oh_H) := oh_loop (fun s : oh_H × Int32 => b_X8_nextOrder_47 s.1 o v1 s.2) 1000000 (h, v2)
def f_X8_nextOrder_34 (h : oh_H) (o : Nat) (v1 : Int32) : Option (Int32 × oh_H) :=
  if 0 ≤ v1 then ((oh_gI h (some o) 561).bind fun x1 => oh_lt (x1 - (1 : Int32)) fun x2 => f_X8_nextOrder_47 h o v1 x2) else (oh_bz (0 : Int32) (some ((0 : Int32), h)))
abbrev pv_X8_nextOrder_7 (G : oh_G) (o : Nat) : (oh_H × Int32) → Prop := fun s => oh_V G 0 0 s.1 7 [(0, xr (some o)), (1, xi s.2)] []
def b_X8_nextOrder_7 (h : oh_H) (o : Nat) (v1 : Int32) : Option ((oh_H × Int32) ⊕ (Int32 × oh_H)) :=
  if v1 < 0 then (Option.map Sum.inr (f_X8_nextOrder_34 h o v1)) else ((oh_gR h (some o) 563).bind fun x1 => (oh_aI h x1 20 v1).bind fun x2 => (oh_gR h (some o) 563).bind fun x3 => (oh_aI h x3 20 (v1 + (1 : Int32))).bind fun x4 => if x2 ≤ x4 then (Option.map Sum.inr (f_X8_nextOrder_34 h o v1)) else (oh_lt (v1 + (-1 : Int32)) fun x5 => some (Sum.inl (h, x5))))
def f_X8_nextOrder_7 (h : oh_H) (o : Nat) (v1 : Int32) : Option (Int32 × oh_H) := oh_loop (fun s : oh_H × Int32 => b_X8_nextOrder_7 s.1 o s.2) 1000000 (h, v1)
def f_X8_nextOrder (h : oh_H) (o : Nat) : Option (Int32 × oh_H) :=
  (oh_gI h (some o) 561).bind fun x1 => oh_lt (x1 - (2 : Int32)) fun x2 => f_X8_nextOrder_7 h o x2
set_option maxHeartbeats 4000000 in
set_option maxRecDepth 100000 in
theorem wb_X8_nextOrder_107 {G : oh_G} {l : Launch} (C : oh_C G cX8_nextOrder wsX8_nextOrder RX8 rmX8_nextOrder 6) (hl : G.1.2.1 = l) (h0 : oh_H) (h : oh_H) (o : Nat) (v4 : Int32) (v5 : Int32) : oh_J (oh_TL (pv_X8_nextOrder_107 G o) (oh_TW h0 xi 0 0 (some .boolean) G)) (b_X8_nextOrder_107 h o v4 v5) (oh_V G 0 0 h 107 [(0, xr (some o)), (4, xi v4), (5, xi v5)] []) := by
  unfold b_X8_nextOrder_107
  refine or_iload C 1 rfl dX8_nextOrder_107 ?_
  refine or_iload C 2 rfl dX8_nextOrder_109 ?_
  refine or_icmp_ge C 153 dX8_nextOrder_111 (by decide) ?_ ?_
  · refine oj_inr ?_
    refine or_iconst C (v := (1 : Int32)) dX8_nextOrder_153 (by decide) ?_
    exact or_zret C ⟨Nat.le_of_ble_eq_true rfl, Nat.le_of_ble_eq_true rfl⟩ dX8_nextOrder_154
  · refine or_aload_n C 0 rfl dX8_nextOrder_114 ?_
    refine or_getR C 8 51 rfl (by decide) rfl (by decide) u_X8_nextOrder_8 (by decide) k_X8_nextOrder_f124 (by decide +kernel) dX8_nextOrder_115 (fun x1 => ?_)
    refine or_iload C 1 rfl dX8_nextOrder_118 ?_
    refine or_iald C dX8_nextOrder_120 (fun x2 => ?_)
    refine or_istore_n C (fun x3 => [(3, xi x3), (0, xr (some o)), (4, xi v4), (5, xi v5)]) (fun _ => rfl) (by decide) dX8_nextOrder_121 (fun x3 => ?_)
    refine or_aload_n C 1 rfl dX8_nextOrder_122 ?_
    refine or_getR C 8 51 rfl (by decide) rfl (by decide) u_X8_nextOrder_8 (by decide) k_X8_nextOrder_f124 (by decide +kernel) dX8_nextOrder_123 (fun x4 => ?_)
    refine or_iload C 2 rfl dX8_nextOrder_126 ?_
    refine or_aload_n C 1 rfl dX8_nextOrder_128 ?_
    refine or_getR C 8 51 rfl (by decide) rfl (by decide) u_X8_nextOrder_8 (by decide) k_X8_nextOrder_f124 (by decide +kernel) dX8_nextOrder_129 (fun x5 => ?_)
    refine or_iload C 3 rfl dX8_nextOrder_132 ?_
    refine or_iald C dX8_nextOrder_134 (fun x6 => ?_)
    refine or_iast C dX8_nextOrder_135 (fun h7 => ?_)
    refine or_aload_n C 1 rfl dX8_nextOrder_136 ?_
    refine or_getR C 8 51 rfl (by decide) rfl (by decide) u_X8_nextOrder_8 (by decide) k_X8_nextOrder_f124 (by decide +kernel) dX8_nextOrder_137 (fun x8 => ?_)
    refine or_iload C 3 rfl dX8_nextOrder_140 ?_
    refine or_iload_n C 0 rfl dX8_nextOrder_142 ?_
    refine or_iast C dX8_nextOrder_143 (fun h9 => ?_)
    refine or_iinc C (y := (1 : Int32)) 2 rfl (by decide) (fun x10 => [(4, xi x10), (3, xi x3), (0, xr (some o)), (5, xi v5)]) (fun _ => rfl) (by decide) dX8_nextOrder_144 (fun x10 => ?_)
    refine or_iinc C (y := (-1 : Int32)) 3 rfl (by decide) (fun x11 => [(5, xi x11), (4, xi x10), (3, xi x3), (0, xr (some o))]) (fun _ => rfl) (by decide) dX8_nextOrder_147 (fun x11 => ?_)
    refine or_goto C 107 dX8_nextOrder_150 (by decide) ?_
    refine or_sub [3, 1, 0] rfl ?_
    exact oj_back (P := pv_X8_nextOrder_107 G o) (s := (h9, x10, x11))
theorem w_X8_nextOrder_107 {G : oh_G} {l : Launch} (C : oh_C G cX8_nextOrder wsX8_nextOrder RX8 rmX8_nextOrder 6) (hl : G.1.2.1 = l) (h0 : oh_H) (h : oh_H) (o : Nat) (v4 : Int32) (v5 : Int32) : oh_J (oh_TW h0 xi 0 0 (some .boolean) G) (f_X8_nextOrder_107 h o v4 v5) (oh_V G 0 0 h 107 [(0, xr (some o)), (4, xi v4), (5, xi v5)] []) := by
  unfold f_X8_nextOrder_107
  exact oj_loop (P := pv_X8_nextOrder_107 G o) (fun s => wb_X8_nextOrder_107 C hl h0 s.1 o s.2.1 s.2.2) 1000000 (h, v4, v5)
set_option maxHeartbeats 4000000 in
set_option maxRecDepth 100000 in
theorem wb_X8_nextOrder_47 {G : oh_G} {l : Launch} (C : oh_C G cX8_nextOrder wsX8_nextOrder RX8 rmX8_nextOrder 6) (hl : G.1.2.1 = l) (h0 : oh_H) (h : oh_H) (o : Nat) (v1 : Int32) (v2 : Int32) : oh_J (oh_TL (pv_X8_nextOrder_47 G o v1) (oh_TW h0 xi 0 0 (some .boolean) G)) (b_X8_nextOrder_47 h o v1 v2) (oh_V G 0 0 h 47 [(0, xr (some o)), (1, xi v1), (2, xi v2)] []) := by
  unfold b_X8_nextOrder_47
  refine or_aload_n C 0 rfl dX8_nextOrder_47 ?_
  refine or_getR C 8 51 rfl (by decide) rfl (by decide) u_X8_nextOrder_8 (by decide) k_X8_nextOrder_f124 (by decide +kernel) dX8_nextOrder_48 (fun x1 => ?_)
  refine or_iload_n C 2 rfl dX8_nextOrder_51 ?_
  refine or_iald C dX8_nextOrder_52 (fun x2 => ?_)
  refine or_aload_n C 0 rfl dX8_nextOrder_53 ?_
  refine or_getR C 8 51 rfl (by decide) rfl (by decide) u_X8_nextOrder_8 (by decide) k_X8_nextOrder_f124 (by decide +kernel) dX8_nextOrder_54 (fun x3 => ?_)
  refine or_iload_n C 1 rfl dX8_nextOrder_57 ?_
  refine or_iald C dX8_nextOrder_58 (fun x4 => ?_)
  refine or_icmp_ge C 68 dX8_nextOrder_59 (by decide) ?_ ?_
  · refine oj_inr ?_
    refine or_aload_n C 0 rfl dX8_nextOrder_68 ?_
    refine or_getR C 8 51 rfl (by decide) rfl (by decide) u_X8_nextOrder_8 (by decide) k_X8_nextOrder_f124 (by decide +kernel) dX8_nextOrder_69 (fun x5 => ?_)
    refine or_iload_n C 1 rfl dX8_nextOrder_72 ?_
    refine or_iald C dX8_nextOrder_73 (fun x6 => ?_)
    refine or_istore_n C (fun x7 => [(3, xi x7), (0, xr (some o)), (1, xi v1), (2, xi v2)]) (fun _ => rfl) (by decide) dX8_nextOrder_74 (fun x7 => ?_)
    refine or_aload_n C 1 rfl dX8_nextOrder_75 ?_
    refine or_getR C 8 51 rfl (by decide) rfl (by decide) u_X8_nextOrder_8 (by decide) k_X8_nextOrder_f124 (by decide +kernel) dX8_nextOrder_76 (fun x8 => ?_)
    refine or_iload_n C 2 rfl dX8_nextOrder_79 ?_
    refine or_aload_n C 1 rfl dX8_nextOrder_80 ?_
    refine or_getR C 8 51 rfl (by decide) rfl (by decide) u_X8_nextOrder_8 (by decide) k_X8_nextOrder_f124 (by decide +kernel) dX8_nextOrder_81 (fun x9 => ?_)
    refine or_iload_n C 3 rfl dX8_nextOrder_84 ?_
    refine or_iald C dX8_nextOrder_85 (fun x10 => ?_)
    refine or_iast C dX8_nextOrder_86 (fun h11 => ?_)
    refine or_aload_n C 1 rfl dX8_nextOrder_87 ?_
    refine or_getR C 8 51 rfl (by decide) rfl (by decide) u_X8_nextOrder_8 (by decide) k_X8_nextOrder_f124 (by decide +kernel) dX8_nextOrder_88 (fun x12 => ?_)
    refine or_iload_n C 3 rfl dX8_nextOrder_91 ?_
    refine or_iload_n C 0 rfl dX8_nextOrder_92 ?_
    refine or_iast C dX8_nextOrder_93 (fun h13 => ?_)
    refine or_iload_n C 2 rfl dX8_nextOrder_94 ?_
    refine or_iconst C (v := (1 : Int32)) dX8_nextOrder_95 (by decide) ?_
    refine or_iadd C dX8_nextOrder_96 ?_
    refine or_istore C (fun x14 => [(4, xi x14), (3, xi x7), (0, xr (some o)), (1, xi v1), (2, xi v2)]) (fun _ => rfl) (by decide) dX8_nextOrder_97 (fun x14 => ?_)
    refine or_aload_n C 2 rfl dX8_nextOrder_99 ?_
    refine or_getI C 8 49 rfl (by decide) rfl (by decide) u_X8_nextOrder_8 (by decide) k_X8_nextOrder_f236 (by decide +kernel) dX8_nextOrder_100 (fun x15 => ?_)
    refine or_iconst C (v := (1 : Int32)) dX8_nextOrder_103 (by decide) ?_
    refine or_isub C dX8_nextOrder_104 ?_
    refine or_istore C (fun x16 => [(5, xi x16), (4, xi x14), (3, xi x7), (0, xr (some o)), (1, xi v1), (2, xi v2)]) (fun _ => rfl) (by decide) dX8_nextOrder_105 (fun x16 => ?_)
    refine or_sub [3, 1, 0] rfl ?_
    exact w_X8_nextOrder_107 C hl h0 h13 o x14 x16
  · refine or_iinc C (y := (-1 : Int32)) 2 rfl (by decide) (fun x17 => [(2, xi x17), (0, xr (some o)), (1, xi v1)]) (fun _ => rfl) (by decide) dX8_nextOrder_62 (fun x17 => ?_)
    refine or_goto C 47 dX8_nextOrder_65 (by decide) ?_
    refine or_sub [1, 2, 0] rfl ?_
    exact oj_back (P := pv_X8_nextOrder_47 G o v1) (s := (h, x17))
theorem w_X8_nextOrder_47 {G : oh_G} {l : Launch} (C : oh_C G cX8_nextOrder wsX8_nextOrder RX8 rmX8_nextOrder 6) (hl : G.1.2.1 = l) (h0 : oh_H) (h : oh_H) (o : Nat) (v1 : Int32) (v2 : Int32) : oh_J (oh_TW h0 xi 0 0 (some .boolean) G) (f_X8_nextOrder_47 h o v1 v2) (oh_V G 0 0 h 47 [(0, xr (some o)), (1, xi v1), (2, xi v2)] []) := by
  unfold f_X8_nextOrder_47
  exact oj_loop (P := pv_X8_nextOrder_47 G o v1) (fun s => wb_X8_nextOrder_47 C hl h0 s.1 o v1 s.2) 1000000 (h, v2)
set_option maxHeartbeats 4000000 in
set_option maxRecDepth 100000 in
theorem w_X8_nextOrder_34 {G : oh_G} {l : Launch} (C : oh_C G cX8_nextOrder wsX8_nextOrder RX8 rmX8_nextOrder 6) (hl : G.1.2.1 = l) (h0 : oh_H) (h : oh_H) (o : Nat) (v1 : Int32) : oh_J (oh_TW h0 xi 0 0 (some .boolean) G) (f_X8_nextOrder_34 h o v1) (oh_V G 0 0 h 34 [(0, xr (some o)), (1, xi v1)] []) := by
  unfold f_X8_nextOrder_34
  refine or_iload_n C 1 rfl dX8_nextOrder_34 ?_
  refine or_if_ge C 40 dX8_nextOrder_35 (by decide) ?_ ?_
  · refine or_aload_n C 0 rfl dX8_nextOrder_40 ?_
    refine or_getI C 8 49 rfl (by decide) rfl (by decide) u_X8_nextOrder_8 (by decide) k_X8_nextOrder_f236 (by decide +kernel) dX8_nextOrder_41 (fun x1 => ?_)
    refine or_iconst C (v := (1 : Int32)) dX8_nextOrder_44 (by decide) ?_
    refine or_isub C dX8_nextOrder_45 ?_
    refine or_istore_n C (fun x2 => [(2, xi x2), (0, xr (some o)), (1, xi v1)]) (fun _ => rfl) (by decide) dX8_nextOrder_46 (fun x2 => ?_)
    refine or_sub [1, 2, 0] rfl ?_
    exact w_X8_nextOrder_47 C hl h0 h o v1 x2
  · refine or_iconst C (v := (0 : Int32)) dX8_nextOrder_38 (by decide) ?_
    exact or_zret C ⟨Nat.le_of_ble_eq_true rfl, Nat.le_of_ble_eq_true rfl⟩ dX8_nextOrder_39
set_option maxHeartbeats 4000000 in
set_option maxRecDepth 100000 in
theorem wb_X8_nextOrder_7 {G : oh_G} {l : Launch} (C : oh_C G cX8_nextOrder wsX8_nextOrder RX8 rmX8_nextOrder 6) (hl : G.1.2.1 = l) (h0 : oh_H) (h : oh_H) (o : Nat) (v1 : Int32) : oh_J (oh_TL (pv_X8_nextOrder_7 G o) (oh_TW h0 xi 0 0 (some .boolean) G)) (b_X8_nextOrder_7 h o v1) (oh_V G 0 0 h 7 [(0, xr (some o)), (1, xi v1)] []) := by
  unfold b_X8_nextOrder_7
  refine or_iload_n C 1 rfl dX8_nextOrder_7 ?_
  refine or_if_lt C 34 dX8_nextOrder_8 (by decide) ?_ ?_
  · refine oj_inr ?_
    refine or_sub [0, 1] rfl ?_
    exact w_X8_nextOrder_34 C hl h0 h o v1
  · refine or_aload_n C 0 rfl dX8_nextOrder_11 ?_
    refine or_getR C 8 51 rfl (by decide) rfl (by decide) u_X8_nextOrder_8 (by decide) k_X8_nextOrder_f124 (by decide +kernel) dX8_nextOrder_12 (fun x1 => ?_)
    refine or_iload_n C 1 rfl dX8_nextOrder_15 ?_
    refine or_iald C dX8_nextOrder_16 (fun x2 => ?_)
    refine or_aload_n C 0 rfl dX8_nextOrder_17 ?_
    refine or_getR C 8 51 rfl (by decide) rfl (by decide) u_X8_nextOrder_8 (by decide) k_X8_nextOrder_f124 (by decide +kernel) dX8_nextOrder_18 (fun x3 => ?_)
    refine or_iload_n C 1 rfl dX8_nextOrder_21 ?_
    refine or_iconst C (v := (1 : Int32)) dX8_nextOrder_22 (by decide) ?_
    refine or_iadd C dX8_nextOrder_23 ?_
    refine or_iald C dX8_nextOrder_24 (fun x4 => ?_)
    refine or_icmp_le C 34 dX8_nextOrder_25 (by decide) ?_ ?_
    · refine oj_inr ?_
      refine or_sub [0, 1] rfl ?_
      exact w_X8_nextOrder_34 C hl h0 h o v1
    · refine or_iinc C (y := (-1 : Int32)) 1 rfl (by decide) (fun x5 => [(1, xi x5), (0, xr (some o))]) (fun _ => rfl) (by decide) dX8_nextOrder_28 (fun x5 => ?_)
      refine or_goto C 7 dX8_nextOrder_31 (by decide) ?_
      refine or_sub [1, 0] rfl ?_
      exact oj_back (P := pv_X8_nextOrder_7 G o) (s := (h, x5))
theorem w_X8_nextOrder_7 {G : oh_G} {l : Launch} (C : oh_C G cX8_nextOrder wsX8_nextOrder RX8 rmX8_nextOrder 6) (hl : G.1.2.1 = l) (h0 : oh_H) (h : oh_H) (o : Nat) (v1 : Int32) : oh_J (oh_TW h0 xi 0 0 (some .boolean) G) (f_X8_nextOrder_7 h o v1) (oh_V G 0 0 h 7 [(0, xr (some o)), (1, xi v1)] []) := by
  unfold f_X8_nextOrder_7
  exact oj_loop (P := pv_X8_nextOrder_7 G o) (fun s => wb_X8_nextOrder_7 C hl h0 s.1 o s.2) 1000000 (h, v1)
set_option maxHeartbeats 4000000 in
set_option maxRecDepth 100000 in
theorem w_X8_nextOrder_0 {G : oh_G} {l : Launch} (C : oh_C G cX8_nextOrder wsX8_nextOrder RX8 rmX8_nextOrder 6) (hl : G.1.2.1 = l) (h0 : oh_H) (h : oh_H) (o : Nat) : oh_J (oh_TW h0 xi 0 0 (some .boolean) G) (f_X8_nextOrder h o) (oh_V G 0 0 h 0 [(0, xr (some o))] []) := by
  unfold f_X8_nextOrder
  refine or_aload_n C 0 rfl dX8_nextOrder_0 ?_
  refine or_getI C 8 49 rfl (by decide) rfl (by decide) u_X8_nextOrder_8 (by decide) k_X8_nextOrder_f236 (by decide +kernel) dX8_nextOrder_1 (fun x1 => ?_)
  refine or_iconst C (v := (2 : Int32)) dX8_nextOrder_4 (by decide) ?_
  refine or_isub C dX8_nextOrder_5 ?_
  refine or_istore_n C (fun x2 => [(1, xi x2), (0, xr (some o))]) (fun _ => rfl) (by decide) dX8_nextOrder_6 (fun x2 => ?_)
  refine or_sub [1, 0] rfl ?_
  exact w_X8_nextOrder_7 C hl h0 h o x2
theorem m_X8_nextOrder (l : Launch) (h : oh_H) (o : Nat) (p : Int32 × oh_H) (hf : f_X8_nextOrder h o = some p) : oh_M l yX8_nextOrder wsX8_nextOrder rmX8_nextOrder 0 0 [xr (some o)] h (some (xi p.1)) p.2 :=
  oh_met (cc := cX8_nextOrder) (maxL := 6) (ret := (some .boolean)) (by decide) rfl (Nat.le_of_ble_eq_true rfl) (fun G C hl hN E => w_X8_nextOrder_0 C hl h h o p hf E)
/-! X8_plan -/
theorem k_X8_plan_f118 : Cond.fieldLink RX8 118 "OilPressModel" "plan" "[I" ∈ wsX8_plan := List.mem_of_getElem? (i := 13) (by decide +kernel)
theorem u_X8_plan_8 : ∀ w ∈ u_ws RX8 TX8 54, w ∈ wsX8_plan := fun w h => List.mem_cons_of_mem _ (List.mem_append_right _ (h))
theorem k_X8_plan_f124 : Cond.fieldLink RX8 124 "OilPressModel" "order" "[I" ∈ wsX8_plan := List.mem_of_getElem? (i := 6) (by decide +kernel)
theorem k_X8_plan_f239 : Cond.fieldLink RX8 239 "OilPressModel" "orderLate" "I" ∈ wsX8_plan := List.mem_of_getElem? (i := 9) (by decide +kernel)
theorem k_X8_plan_f256 : Cond.fieldLink RX8 256 "OilPressModel" "planLate" "I" ∈ wsX8_plan := List.mem_of_getElem? (i := 10) (by decide +kernel)
theorem k_X8_plan_f242 : Cond.fieldLink RX8 242 "OilPressModel" "orderEnd" "I" ∈ wsX8_plan := List.mem_of_getElem? (i := 11) (by decide +kernel)
theorem k_X8_plan_f259 : Cond.fieldLink RX8 259 "OilPressModel" "planEnd" "I" ∈ wsX8_plan := List.mem_of_getElem? (i := 12) (by decide +kernel)
theorem k_X8_plan_f245 : Cond.fieldLink RX8 245 "OilPressModel" "isPlanned" "Z" ∈ wsX8_plan := List.mem_of_getElem? (i := 7) (by decide +kernel)
theorem k_X8_plan_f249 : Cond.fieldLink RX8 249 "OilPressModel" "planMany" "I" ∈ wsX8_plan := List.mem_of_getElem? (i := 8) (by decide +kernel)
theorem k_X8_plan_f121 : Cond.fieldLink RX8 121 "OilPressModel" "toPlan" "[I" ∈ wsX8_plan := List.mem_of_getElem? (i := 4) (by decide +kernel)
theorem k_X8_plan_f130 : Cond.fieldLink RX8 130 "OilPressModel" "lots" "I" ∈ wsX8_plan := List.mem_of_getElem? (i := 1) (by decide +kernel)
theorem k_X8_plan_f236 : Cond.fieldLink RX8 236 "OilPressModel" "lotsToPlan" "I" ∈ wsX8_plan := List.mem_of_getElem? (i := 5) (by decide +kernel)
theorem k_X8_plan_f35 : Cond.fieldLink RX8 35 "OilPressModel" "state" "[I" ∈ wsX8_plan := List.mem_of_getElem? (i := 2) (by decide +kernel)
theorem k_X8_plan_f26 : Cond.fieldLink RX8 26 "OilPressModel" "kind" "[I" ∈ wsX8_plan := List.mem_of_getElem? (i := 3) (by decide +kernel)
abbrev rmX8_plan : Room := { frames := 2, cells := 0, slots := 0, locals := 49 }
def f_X8_plan_242 (h : oh_H) (o : Nat) (v1 : Int32) (v2 : Int32) : Option ((oh_H × Int32 × Int32) ⊕ (Int32 × oh_H)) :=
  oh_lt (0 : Int32) fun x1 => oh_rc h (some o) 9 fun o3 => (f_X8_nextOrder h o3).bind fun p4 => oh_lt p4.1 fun x6 => some (Sum.inl (p4.2, x1, x6))
abbrev pv_X8_plan_216 (G : oh_G) (o : Nat) (v1 : Int32) (v2 : Int32) : (oh_H × Int32) → Prop := fun s => oh_V G 0 0 s.1 216 [(0, xr (some o)), (1, xi v1), (2, xi v2), (5, xi s.2)] []
def b_X8_plan_216 (h : oh_H) (o : Nat) (v1 : Int32) (v2 : Int32) (v5 : Int32) : Option ((oh_H × Int32) ⊕ ((oh_H × Int32 × Int32) ⊕ (Int32 × oh_H))) :=
  if v2 ≤ v5 then (Option.map Sum.inr (f_X8_plan_242 h o v1 v2)) else ((oh_gR h (some o) 560).bind fun x1 => (oh_gR h (some o) 563).bind fun x2 => (oh_aI h x2 20 v5).bind fun x3 => (oh_tI h x1 20 v5 x3).bind fun h4 => oh_lt (v5 + (1 : Int32)) fun x5 => some (Sum.inl (h4, x5)))
def f_X8_plan_216 (h : oh_H) (o : Nat) (v1 : Int32) (v2 : Int32) (v5 : Int32) : Option ((oh_H × Int32 × Int32) ⊕ (Int32 × oh_H)) := oh_loop (fun s : oh_H × Int32 => b_X8_plan_216 s.1 o v1 v2 s.2) 1000000 (h, v5)
def f_X8_plan_197 (h : oh_H) (o : Nat) (v1 : Int32) (v2 : Int32) : Option ((oh_H × Int32 × Int32) ⊕ (Int32 × oh_H)) :=
  (oh_gI h (some o) 564).bind fun x1 => (oh_pI h (some o) 558 x1).bind fun h2 => (oh_gI h2 (some o) 565).bind fun x3 => (oh_pI h2 (some o) 559 x3).bind fun h4 => oh_lt (0 : Int32) fun x5 => f_X8_plan_216 h4 o v1 v2 x5
abbrev pv_X8_plan_150 (G : oh_G) (o : Nat) (v1 : Int32) (v2 : Int32) : (oh_H × Int32 × Int32) → Prop := fun s => oh_V G 0 0 s.1 150 [(0, xr (some o)), (1, xi v1), (2, xi v2), (3, xi s.2.1), (4, xi s.2.2)] []
def b_X8_plan_150 (h : oh_H) (o : Nat) (v1 : Int32) (v2 : Int32) (v3 : Int32) (v4 : Int32) : Option ((oh_H × Int32 × Int32) ⊕ (Int32 × oh_H)) :=
  if v4 = 0 then (Option.map Sum.inr (some (v2, h))) else (oh_rc h (some o) 9 fun o2 => (f_X8_tries h o2 v1).bind fun p3 => if v3 = 0 then ((oh_gI p3 (some o) 564).bind fun x5 => (oh_gI p3 (some o) 558).bind fun x6 => if x5 < x6 then (f_X8_plan_197 p3 o v1 v2) else ((oh_gI p3 (some o) 564).bind fun x7 => (oh_gI p3 (some o) 558).bind fun x8 => if x7 = x8 then ((oh_gI p3 (some o) 565).bind fun x9 => (oh_gI p3 (some o) 559).bind fun x10 => if x10 ≤ x9 then (f_X8_plan_242 p3 o v1 v2) else (f_X8_plan_197 p3 o v1 v2)) else (f_X8_plan_242 p3 o v1 v2))) else (f_X8_plan_197 p3 o v1 v2))
def f_X8_plan_150 (h : oh_H) (o : Nat) (v1 : Int32) (v2 : Int32) (v3 : Int32) (v4 : Int32) : Option (Int32 × oh_H) := oh_loop (fun s : oh_H × Int32 × Int32 => b_X8_plan_150 s.1 o v1 v2 s.2.1 s.2.2) 1000000 (h, v3, v4)
abbrev pv_X8_plan_112 (G : oh_G) (o : Nat) (v1 : Int32) (v2 : Int32) : (oh_H × Int32) → Prop := fun s => oh_V G 0 0 s.1 112 [(0, xr (some o)), (1, xi v1), (2, xi v2), (3, xi s.2)] []
def b_X8_plan_112 (h : oh_H) (o : Nat) (v1 : Int32) (v2 : Int32) (v3 : Int32) : Option ((oh_H × Int32) ⊕ (Int32 × oh_H)) :=
  if v2 ≤ v3 then (Option.map Sum.inr (oh_bz (1 : Int32) ((oh_pI h (some o) 556 (1 : Int32)).bind fun h1 => (oh_pI h1 (some o) 557 v2).bind fun h2 => oh_lt (1 : Int32) fun x3 => oh_lt (1 : Int32) fun x4 => f_X8_plan_150 h2 o v1 v2 x3 x4))) else ((oh_gR h (some o) 563).bind fun x5 => (oh_gR h (some o) 562).bind fun x6 => (oh_aI h x6 20 v3).bind fun x7 => (oh_tI h x5 20 v3 x7).bind fun h8 => oh_lt (v3 + (1 : Int32)) fun x9 => some (Sum.inl (h8, x9)))
def f_X8_plan_112 (h : oh_H) (o : Nat) (v1 : Int32) (v2 : Int32) (v3 : Int32) : Option (Int32 × oh_H) := oh_loop (fun s : oh_H × Int32 => b_X8_plan_112 s.1 o v1 v2 s.2) 1000000 (h, v3)
def f_X8_plan_99 (h : oh_H) (o : Nat) (v1 : Int32) (v2 : Int32) (v3 : Int32) : Option ((oh_H × Int32 × Int32) ⊕ (Int32 × oh_H)) :=
  oh_lt (v3 + (1 : Int32)) fun x1 => some (Sum.inl (h, v2, x1))
def f_X8_plan_81 (h : oh_H) (o : Nat) (v1 : Int32) (v2 : Int32) (v3 : Int32) (v4 : Int32) : Option ((oh_H × Int32 × Int32) ⊕ (Int32 × oh_H)) :=
  if v4 = 0 then (f_X8_plan_99 h o v1 v2 v3) else ((oh_gR h (some o) 562).bind fun x1 => (oh_tI h x1 20 v2 v3).bind fun h2 => oh_lt (v2 + (1 : Int32)) fun x3 => f_X8_plan_99 h2 o v1 x3 v3)
def f_X8_plan_66 (h : oh_H) (o : Nat) (v1 : Int32) (v2 : Int32) (v3 : Int32) (s0 : Int32) : Option ((oh_H × Int32 × Int32) ⊕ (Int32 × oh_H)) :=
  oh_lt s0 fun x1 => if x1 = 0 then (f_X8_plan_81 h o v1 v2 v3 x1) else (if v2 = (8 : Int32) then (Option.map Sum.inr (some ((-1 : Int32), h))) else (f_X8_plan_81 h o v1 v2 v3 x1))
def f_X8_plan_65 (h : oh_H) (o : Nat) (v1 : Int32) (v2 : Int32) (v3 : Int32) : Option ((oh_H × Int32 × Int32) ⊕ (Int32 × oh_H)) :=
  f_X8_plan_66 h o v1 v2 v3 (0 : Int32)
def f_X8_plan_61 (h : oh_H) (o : Nat) (v1 : Int32) (v2 : Int32) (v3 : Int32) : Option ((oh_H × Int32 × Int32) ⊕ (Int32 × oh_H)) :=
  f_X8_plan_66 h o v1 v2 v3 (1 : Int32)
abbrev pv_X8_plan_14 (G : oh_G) (o : Nat) (v1 : Int32) : (oh_H × Int32 × Int32) → Prop := fun s => oh_V G 0 0 s.1 14 [(0, xr (some o)), (1, xi v1), (2, xi s.2.1), (3, xi s.2.2)] []
def b_X8_plan_14 (h : oh_H) (o : Nat) (v1 : Int32) (v2 : Int32) (v3 : Int32) : Option ((oh_H × Int32 × Int32) ⊕ (Int32 × oh_H)) :=
  (oh_gI h (some o) 519).bind fun x1 => if x1 ≤ v3 then (Option.map Sum.inr ((oh_pI h (some o) 561 v2).bind fun h2 => oh_lt (0 : Int32) fun x3 => f_X8_plan_112 h2 o v1 v2 x3)) else ((oh_gR h (some o) 523).bind fun x4 => (oh_aI h x4 20 v3).bind fun x5 => if x5 = (2 : Int32) then ((oh_gR h (some o) 520).bind fun x6 => (oh_aI h x6 20 v3).bind fun x7 => if x7 = 0 then (f_X8_plan_61 h o v1 v2 v3) else ((oh_gR h (some o) 520).bind fun x8 => (oh_aI h x8 20 v3).bind fun x9 => if x9 = (2 : Int32) then (f_X8_plan_61 h o v1 v2 v3) else ((oh_gR h (some o) 520).bind fun x10 => (oh_aI h x10 20 v3).bind fun x11 => if x11 = (3 : Int32) then (f_X8_plan_61 h o v1 v2 v3) else (f_X8_plan_65 h o v1 v2 v3)))) else (f_X8_plan_65 h o v1 v2 v3))
def f_X8_plan_14 (h : oh_H) (o : Nat) (v1 : Int32) (v2 : Int32) (v3 : Int32) : Option (Int32 × oh_H) := oh_loop (fun s : oh_H × Int32 × Int32 => b_X8_plan_14 s.1 o v1 s.2.1 s.2.2) 1000000 (h, v2, v3)
def f_X8_plan (h : oh_H) (o : Nat) (v1 : Int32) : Option (Int32 × oh_H) :=
  oh_rc h (some o) 9 fun o2 => (f_X8_isMill h o2 v1).bind fun p3 => if p3 = 0 then (some ((-1 : Int32), h)) else (oh_lt (0 : Int32) fun x5 => oh_lt (0 : Int32) fun x6 => f_X8_plan_14 h o v1 x5 x6)
set_option maxHeartbeats 4000000 in
set_option maxRecDepth 100000 in
theorem w_X8_plan_242 {G : oh_G} {l : Launch} (C : oh_C G cX8_plan wsX8_plan RX8 rmX8_plan 6) (hl : G.1.2.1 = l) (h0 : oh_H) (h : oh_H) (o : Nat) (v1 : Int32) (v2 : Int32) : oh_J (oh_TL (pv_X8_plan_150 G o v1 v2) (oh_TW h0 xi 0 0 (some .int) G)) (f_X8_plan_242 h o v1 v2) (oh_V G 0 0 h 242 [(0, xr (some o)), (1, xi v1), (2, xi v2)] []) := by
  unfold f_X8_plan_242
  refine or_iconst C (v := (0 : Int32)) dX8_plan_242 (by decide) ?_
  refine or_istore_n C (fun x1 => [(3, xi x1), (0, xr (some o)), (1, xi v1), (2, xi v2)]) (fun _ => rfl) (by decide) dX8_plan_243 (fun x1 => ?_)
  refine or_aload_n C 1 rfl dX8_plan_244 ?_
  refine oj_rcs (fun q2 => ?_)
  refine oj_bind (fun p4 z5 => ?_)
  refine oj_v (P := oh_V G 0 0 p4.2 248 [(3, xi x1), (0, xr (some o)), (1, xi v1), (2, xi v2)] [xi p4.1]) (fun k => or_callV C 0 hl (m_X8_nextOrder _ h o p4 z5) gX8_plan_X8_nextOrder rfl rfl rfl (by decide +kernel) ⟨Nat.le_of_ble_eq_true rfl, Nat.le_of_ble_eq_true rfl⟩ q2 rfl (by decide) (Nat.le_of_ble_eq_true rfl) dX8_plan_245 ⟨Nat.le_of_ble_eq_true rfl, Nat.le_of_ble_eq_true rfl⟩ rfl rfl k) ?_
  refine or_istore C (fun x6 => [(4, xi x6), (3, xi x1), (0, xr (some o)), (1, xi v1), (2, xi v2)]) (fun _ => rfl) (by decide) dX8_plan_248 (fun x6 => ?_)
  refine or_goto C 150 dX8_plan_250 (by decide) ?_
  refine or_sub [2, 3, 4, 1, 0] rfl ?_
  exact oj_back (P := pv_X8_plan_150 G o v1 v2) (s := (p4.2, x1, x6))
set_option maxHeartbeats 4000000 in
set_option maxRecDepth 100000 in
theorem wb_X8_plan_216 {G : oh_G} {l : Launch} (C : oh_C G cX8_plan wsX8_plan RX8 rmX8_plan 6) (hl : G.1.2.1 = l) (h0 : oh_H) (h : oh_H) (o : Nat) (v1 : Int32) (v2 : Int32) (v5 : Int32) : oh_J (oh_TL (pv_X8_plan_216 G o v1 v2) (oh_TL (pv_X8_plan_150 G o v1 v2) (oh_TW h0 xi 0 0 (some .int) G))) (b_X8_plan_216 h o v1 v2 v5) (oh_V G 0 0 h 216 [(0, xr (some o)), (1, xi v1), (2, xi v2), (5, xi v5)] []) := by
  unfold b_X8_plan_216
  refine or_iload C 3 rfl dX8_plan_216 ?_
  refine or_iload_n C 2 rfl dX8_plan_218 ?_
  refine or_icmp_ge C 242 dX8_plan_219 (by decide) ?_ ?_
  · refine oj_inr ?_
    refine or_sub [0, 1, 2] rfl ?_
    exact w_X8_plan_242 C hl h0 h o v1 v2
  · refine or_aload_n C 0 rfl dX8_plan_222 ?_
    refine or_getR C 8 48 rfl (by decide) rfl (by decide) u_X8_plan_8 (by decide) k_X8_plan_f118 (by decide +kernel) dX8_plan_223 (fun x1 => ?_)
    refine or_iload C 3 rfl dX8_plan_226 ?_
    refine or_aload_n C 0 rfl dX8_plan_228 ?_
    refine or_getR C 8 51 rfl (by decide) rfl (by decide) u_X8_plan_8 (by decide) k_X8_plan_f124 (by decide +kernel) dX8_plan_229 (fun x2 => ?_)
    refine or_iload C 3 rfl dX8_plan_232 ?_
    refine or_iald C dX8_plan_234 (fun x3 => ?_)
    refine or_iast C dX8_plan_235 (fun h4 => ?_)
    refine or_iinc C (y := (1 : Int32)) 3 rfl (by decide) (fun x5 => [(5, xi x5), (0, xr (some o)), (1, xi v1), (2, xi v2)]) (fun _ => rfl) (by decide) dX8_plan_236 (fun x5 => ?_)
    refine or_goto C 216 dX8_plan_239 (by decide) ?_
    refine or_sub [1, 2, 3, 0] rfl ?_
    exact oj_back (P := pv_X8_plan_216 G o v1 v2) (s := (h4, x5))
theorem w_X8_plan_216 {G : oh_G} {l : Launch} (C : oh_C G cX8_plan wsX8_plan RX8 rmX8_plan 6) (hl : G.1.2.1 = l) (h0 : oh_H) (h : oh_H) (o : Nat) (v1 : Int32) (v2 : Int32) (v5 : Int32) : oh_J (oh_TL (pv_X8_plan_150 G o v1 v2) (oh_TW h0 xi 0 0 (some .int) G)) (f_X8_plan_216 h o v1 v2 v5) (oh_V G 0 0 h 216 [(0, xr (some o)), (1, xi v1), (2, xi v2), (5, xi v5)] []) := by
  unfold f_X8_plan_216
  exact oj_loop (P := pv_X8_plan_216 G o v1 v2) (fun s => wb_X8_plan_216 C hl h0 s.1 o v1 v2 s.2) 1000000 (h, v5)
set_option maxHeartbeats 4000000 in
set_option maxRecDepth 100000 in
theorem w_X8_plan_197 {G : oh_G} {l : Launch} (C : oh_C G cX8_plan wsX8_plan RX8 rmX8_plan 6) (hl : G.1.2.1 = l) (h0 : oh_H) (h : oh_H) (o : Nat) (v1 : Int32) (v2 : Int32) : oh_J (oh_TL (pv_X8_plan_150 G o v1 v2) (oh_TW h0 xi 0 0 (some .int) G)) (f_X8_plan_197 h o v1 v2) (oh_V G 0 0 h 197 [(0, xr (some o)), (1, xi v1), (2, xi v2)] []) := by
  unfold f_X8_plan_197
  refine or_aload_n C 0 rfl dX8_plan_197 ?_
  refine or_aload_n C 0 rfl dX8_plan_198 ?_
  refine or_getI C 8 52 rfl (by decide) rfl (by decide) u_X8_plan_8 (by decide) k_X8_plan_f239 (by decide +kernel) dX8_plan_199 (fun x1 => ?_)
  refine or_putI C 8 46 rfl (by decide) rfl (by decide) u_X8_plan_8 tyX8 tyX8_ok nmX8 (by decide) k_X8_plan_f256 (Or.inl rfl) (by decide +kernel) rfl dX8_plan_202 (fun h2 => ?_)
  refine or_aload_n C 0 rfl dX8_plan_205 ?_
  refine or_aload_n C 0 rfl dX8_plan_206 ?_
  refine or_getI C 8 53 rfl (by decide) rfl (by decide) u_X8_plan_8 (by decide) k_X8_plan_f242 (by decide +kernel) dX8_plan_207 (fun x3 => ?_)
  refine or_putI C 8 47 rfl (by decide) rfl (by decide) u_X8_plan_8 tyX8 tyX8_ok nmX8 (by decide) k_X8_plan_f259 (Or.inl rfl) (by decide +kernel) rfl dX8_plan_210 (fun h4 => ?_)
  refine or_iconst C (v := (0 : Int32)) dX8_plan_213 (by decide) ?_
  refine or_istore C (fun x5 => [(5, xi x5), (0, xr (some o)), (1, xi v1), (2, xi v2)]) (fun _ => rfl) (by decide) dX8_plan_214 (fun x5 => ?_)
  refine or_sub [1, 2, 3, 0] rfl ?_
  exact w_X8_plan_216 C hl h0 h4 o v1 v2 x5
set_option maxHeartbeats 4000000 in
set_option maxRecDepth 100000 in
theorem wb_X8_plan_150 {G : oh_G} {l : Launch} (C : oh_C G cX8_plan wsX8_plan RX8 rmX8_plan 6) (hl : G.1.2.1 = l) (h0 : oh_H) (h : oh_H) (o : Nat) (v1 : Int32) (v2 : Int32) (v3 : Int32) (v4 : Int32) : oh_J (oh_TL (pv_X8_plan_150 G o v1 v2) (oh_TW h0 xi 0 0 (some .int) G)) (b_X8_plan_150 h o v1 v2 v3 v4) (oh_V G 0 0 h 150 [(0, xr (some o)), (1, xi v1), (2, xi v2), (3, xi v3), (4, xi v4)] []) := by
  unfold b_X8_plan_150
  refine or_iload C 4 rfl dX8_plan_150 ?_
  refine or_if_eq C 253 dX8_plan_152 (by decide) ?_ ?_
  · refine oj_inr ?_
    refine or_iload_n C 2 rfl dX8_plan_253 ?_
    exact or_iret C ⟨Nat.le_of_ble_eq_true rfl, Nat.le_of_ble_eq_true rfl⟩ dX8_plan_254
  · refine or_aload_n C 0 rfl dX8_plan_155 ?_
    refine or_iload_n C 1 rfl dX8_plan_156 ?_
    refine oj_rcs (fun q1 => ?_)
    refine oj_bind (fun p3 z4 => ?_)
    refine oj_v (P := oh_V G 0 0 p3 160 [(0, xr (some o)), (1, xi v1), (2, xi v2), (3, xi v3), (4, xi v4)] []) (fun k => or_callV C 1 hl (m_X8_tries _ h o v1 p3 z4) gX8_plan_X8_tries rfl rfl rfl (by decide +kernel) ⟨Nat.le_of_ble_eq_true rfl, Nat.le_of_ble_eq_true rfl⟩ q1 rfl (by decide) (Nat.le_of_ble_eq_true rfl) dX8_plan_157 ⟨Nat.le_of_ble_eq_true rfl, Nat.le_of_ble_eq_true rfl⟩ rfl rfl k) ?_
    refine or_iload_n C 3 rfl dX8_plan_160 ?_
    refine or_if_ne C 197 dX8_plan_161 (by decide) ?_ ?_
    · refine or_aload_n C 0 rfl dX8_plan_164 ?_
      refine or_getI C 8 52 rfl (by decide) rfl (by decide) u_X8_plan_8 (by decide) k_X8_plan_f239 (by decide +kernel) dX8_plan_165 (fun x5 => ?_)
      refine or_aload_n C 0 rfl dX8_plan_168 ?_
      refine or_getI C 8 46 rfl (by decide) rfl (by decide) u_X8_plan_8 (by decide) k_X8_plan_f256 (by decide +kernel) dX8_plan_169 (fun x6 => ?_)
      refine or_icmp_lt C 197 dX8_plan_172 (by decide) ?_ ?_
      · refine or_sub [0, 1, 2] rfl ?_
        exact w_X8_plan_197 C hl h0 p3 o v1 v2
      · refine or_aload_n C 0 rfl dX8_plan_175 ?_
        refine or_getI C 8 52 rfl (by decide) rfl (by decide) u_X8_plan_8 (by decide) k_X8_plan_f239 (by decide +kernel) dX8_plan_176 (fun x7 => ?_)
        refine or_aload_n C 0 rfl dX8_plan_179 ?_
        refine or_getI C 8 46 rfl (by decide) rfl (by decide) u_X8_plan_8 (by decide) k_X8_plan_f256 (by decide +kernel) dX8_plan_180 (fun x8 => ?_)
        refine or_icmp_ne C 242 dX8_plan_183 (by decide) ?_ ?_
        · refine or_aload_n C 0 rfl dX8_plan_186 ?_
          refine or_getI C 8 53 rfl (by decide) rfl (by decide) u_X8_plan_8 (by decide) k_X8_plan_f242 (by decide +kernel) dX8_plan_187 (fun x9 => ?_)
          refine or_aload_n C 0 rfl dX8_plan_190 ?_
          refine or_getI C 8 47 rfl (by decide) rfl (by decide) u_X8_plan_8 (by decide) k_X8_plan_f259 (by decide +kernel) dX8_plan_191 (fun x10 => ?_)
          refine or_icmp_ge C 242 dX8_plan_194 (by decide) ?_ ?_
          · refine or_sub [0, 1, 2] rfl ?_
            exact w_X8_plan_242 C hl h0 p3 o v1 v2
          · refine or_sub [0, 1, 2] rfl ?_
            exact w_X8_plan_197 C hl h0 p3 o v1 v2
        · refine or_sub [0, 1, 2] rfl ?_
          exact w_X8_plan_242 C hl h0 p3 o v1 v2
    · refine or_sub [0, 1, 2] rfl ?_
      exact w_X8_plan_197 C hl h0 p3 o v1 v2
theorem w_X8_plan_150 {G : oh_G} {l : Launch} (C : oh_C G cX8_plan wsX8_plan RX8 rmX8_plan 6) (hl : G.1.2.1 = l) (h0 : oh_H) (h : oh_H) (o : Nat) (v1 : Int32) (v2 : Int32) (v3 : Int32) (v4 : Int32) : oh_J (oh_TW h0 xi 0 0 (some .int) G) (f_X8_plan_150 h o v1 v2 v3 v4) (oh_V G 0 0 h 150 [(0, xr (some o)), (1, xi v1), (2, xi v2), (3, xi v3), (4, xi v4)] []) := by
  unfold f_X8_plan_150
  exact oj_loop (P := pv_X8_plan_150 G o v1 v2) (fun s => wb_X8_plan_150 C hl h0 s.1 o v1 v2 s.2.1 s.2.2) 1000000 (h, v3, v4)
set_option maxHeartbeats 4000000 in
set_option maxRecDepth 100000 in
theorem wb_X8_plan_112 {G : oh_G} {l : Launch} (C : oh_C G cX8_plan wsX8_plan RX8 rmX8_plan 6) (hl : G.1.2.1 = l) (h0 : oh_H) (h : oh_H) (o : Nat) (v1 : Int32) (v2 : Int32) (v3 : Int32) : oh_J (oh_TL (pv_X8_plan_112 G o v1 v2) (oh_TW h0 xi 0 0 (some .int) G)) (b_X8_plan_112 h o v1 v2 v3) (oh_V G 0 0 h 112 [(0, xr (some o)), (1, xi v1), (2, xi v2), (3, xi v3)] []) := by
  unfold b_X8_plan_112
  refine or_iload_n C 3 rfl dX8_plan_112 ?_
  refine or_iload_n C 2 rfl dX8_plan_113 ?_
  refine or_icmp_ge C 135 dX8_plan_114 (by decide) ?_ ?_
  · refine oj_inr ?_
    refine or_aload_n C 0 rfl dX8_plan_135 ?_
    refine or_iconst C (v := (1 : Int32)) dX8_plan_136 (by decide) ?_
    refine or_putZ C 8 44 rfl (by decide) rfl (by decide) u_X8_plan_8 tyX8 tyX8_ok nmX8 (by decide) k_X8_plan_f245 (Or.inl rfl) (by decide +kernel) rfl dX8_plan_137 (fun h1 => ?_)
    refine or_aload_n C 0 rfl dX8_plan_140 ?_
    refine or_iload_n C 2 rfl dX8_plan_141 ?_
    refine or_putI C 8 45 rfl (by decide) rfl (by decide) u_X8_plan_8 tyX8 tyX8_ok nmX8 (by decide) k_X8_plan_f249 (Or.inl rfl) (by decide +kernel) rfl dX8_plan_142 (fun h2 => ?_)
    refine or_iconst C (v := (1 : Int32)) dX8_plan_145 (by decide) ?_
    refine or_istore_n C (fun x3 => [(3, xi x3), (0, xr (some o)), (1, xi v1), (2, xi v2)]) (fun _ => rfl) (by decide) dX8_plan_146 (fun x3 => ?_)
    refine or_iconst C (v := (1 : Int32)) dX8_plan_147 (by decide) ?_
    refine or_istore C (fun x4 => [(4, xi x4), (3, xi x3), (0, xr (some o)), (1, xi v1), (2, xi v2)]) (fun _ => rfl) (by decide) dX8_plan_148 (fun x4 => ?_)
    refine or_sub [2, 3, 4, 1, 0] rfl ?_
    exact w_X8_plan_150 C hl h0 h2 o v1 v2 x3 x4
  · refine or_aload_n C 0 rfl dX8_plan_117 ?_
    refine or_getR C 8 51 rfl (by decide) rfl (by decide) u_X8_plan_8 (by decide) k_X8_plan_f124 (by decide +kernel) dX8_plan_118 (fun x5 => ?_)
    refine or_iload_n C 3 rfl dX8_plan_121 ?_
    refine or_aload_n C 0 rfl dX8_plan_122 ?_
    refine or_getR C 8 50 rfl (by decide) rfl (by decide) u_X8_plan_8 (by decide) k_X8_plan_f121 (by decide +kernel) dX8_plan_123 (fun x6 => ?_)
    refine or_iload_n C 3 rfl dX8_plan_126 ?_
    refine or_iald C dX8_plan_127 (fun x7 => ?_)
    refine or_iast C dX8_plan_128 (fun h8 => ?_)
    refine or_iinc C (y := (1 : Int32)) 3 rfl (by decide) (fun x9 => [(3, xi x9), (0, xr (some o)), (1, xi v1), (2, xi v2)]) (fun _ => rfl) (by decide) dX8_plan_129 (fun x9 => ?_)
    refine or_goto C 112 dX8_plan_132 (by decide) ?_
    refine or_sub [1, 2, 3, 0] rfl ?_
    exact oj_back (P := pv_X8_plan_112 G o v1 v2) (s := (h8, x9))
theorem w_X8_plan_112 {G : oh_G} {l : Launch} (C : oh_C G cX8_plan wsX8_plan RX8 rmX8_plan 6) (hl : G.1.2.1 = l) (h0 : oh_H) (h : oh_H) (o : Nat) (v1 : Int32) (v2 : Int32) (v3 : Int32) : oh_J (oh_TW h0 xi 0 0 (some .int) G) (f_X8_plan_112 h o v1 v2 v3) (oh_V G 0 0 h 112 [(0, xr (some o)), (1, xi v1), (2, xi v2), (3, xi v3)] []) := by
  unfold f_X8_plan_112
  exact oj_loop (P := pv_X8_plan_112 G o v1 v2) (fun s => wb_X8_plan_112 C hl h0 s.1 o v1 v2 s.2) 1000000 (h, v3)
set_option maxHeartbeats 4000000 in
set_option maxRecDepth 100000 in
theorem w_X8_plan_99 {G : oh_G} {l : Launch} (C : oh_C G cX8_plan wsX8_plan RX8 rmX8_plan 6) (hl : G.1.2.1 = l) (h0 : oh_H) (h : oh_H) (o : Nat) (v1 : Int32) (v2 : Int32) (v3 : Int32) : oh_J (oh_TL (pv_X8_plan_14 G o v1) (oh_TW h0 xi 0 0 (some .int) G)) (f_X8_plan_99 h o v1 v2 v3) (oh_V G 0 0 h 99 [(0, xr (some o)), (1, xi v1), (2, xi v2), (3, xi v3)] []) := by
  unfold f_X8_plan_99
  refine or_iinc C (y := (1 : Int32)) 3 rfl (by decide) (fun x1 => [(3, xi x1), (0, xr (some o)), (1, xi v1), (2, xi v2)]) (fun _ => rfl) (by decide) dX8_plan_99 (fun x1 => ?_)
  refine or_goto C 14 dX8_plan_102 (by decide) ?_
  refine or_sub [1, 2, 3, 0] rfl ?_
  exact oj_back (P := pv_X8_plan_14 G o v1) (s := (h, v2, x1))
set_option maxHeartbeats 4000000 in
set_option maxRecDepth 100000 in
theorem w_X8_plan_81 {G : oh_G} {l : Launch} (C : oh_C G cX8_plan wsX8_plan RX8 rmX8_plan 6) (hl : G.1.2.1 = l) (h0 : oh_H) (h : oh_H) (o : Nat) (v1 : Int32) (v2 : Int32) (v3 : Int32) (v4 : Int32) : oh_J (oh_TL (pv_X8_plan_14 G o v1) (oh_TW h0 xi 0 0 (some .int) G)) (f_X8_plan_81 h o v1 v2 v3 v4) (oh_V G 0 0 h 81 [(0, xr (some o)), (1, xi v1), (2, xi v2), (3, xi v3), (4, xi v4)] []) := by
  unfold f_X8_plan_81
  refine or_iload C 4 rfl dX8_plan_81 ?_
  refine or_if_ne C 89 dX8_plan_83 (by decide) ?_ ?_
  · refine or_goto C 99 dX8_plan_86 (by decide) ?_
    refine or_sub [0, 1, 2, 3] rfl ?_
    exact w_X8_plan_99 C hl h0 h o v1 v2 v3
  · refine or_aload_n C 0 rfl dX8_plan_89 ?_
    refine or_getR C 8 50 rfl (by decide) rfl (by decide) u_X8_plan_8 (by decide) k_X8_plan_f121 (by decide +kernel) dX8_plan_90 (fun x1 => ?_)
    refine or_iload_n C 2 rfl dX8_plan_93 ?_
    refine or_iload_n C 3 rfl dX8_plan_94 ?_
    refine or_iast C dX8_plan_95 (fun h2 => ?_)
    refine or_iinc C (y := (1 : Int32)) 2 rfl (by decide) (fun x3 => [(2, xi x3), (0, xr (some o)), (1, xi v1), (3, xi v3), (4, xi v4)]) (fun _ => rfl) (by decide) dX8_plan_96 (fun x3 => ?_)
    refine or_sub [1, 2, 0, 3] rfl ?_
    exact w_X8_plan_99 C hl h0 h2 o v1 x3 v3
set_option maxHeartbeats 4000000 in
set_option maxRecDepth 100000 in
theorem w_X8_plan_66 {G : oh_G} {l : Launch} (C : oh_C G cX8_plan wsX8_plan RX8 rmX8_plan 6) (hl : G.1.2.1 = l) (h0 : oh_H) (h : oh_H) (o : Nat) (v1 : Int32) (v2 : Int32) (v3 : Int32) (s0 : Int32) : oh_J (oh_TL (pv_X8_plan_14 G o v1) (oh_TW h0 xi 0 0 (some .int) G)) (f_X8_plan_66 h o v1 v2 v3 s0) (oh_V G 0 0 h 66 [(0, xr (some o)), (1, xi v1), (2, xi v2), (3, xi v3)] [xi s0]) := by
  unfold f_X8_plan_66
  refine or_istore C (fun x1 => [(4, xi x1), (0, xr (some o)), (1, xi v1), (2, xi v2), (3, xi v3)]) (fun _ => rfl) (by decide) dX8_plan_66 (fun x1 => ?_)
  refine or_iload C 0 rfl dX8_plan_68 ?_
  refine or_if_eq C 81 dX8_plan_70 (by decide) ?_ ?_
  · refine or_sub [1, 2, 3, 4, 0] rfl ?_
    exact w_X8_plan_81 C hl h0 h o v1 v2 v3 x1
  · refine or_iload_n C 3 rfl dX8_plan_73 ?_
    refine or_bipush C (v := (8 : Int32)) dX8_plan_74 (by decide) ?_
    refine or_icmp_ne C 81 dX8_plan_76 (by decide) ?_ ?_
    · refine oj_inr ?_
      refine or_iconst C (v := (-1 : Int32)) dX8_plan_79 (by decide) ?_
      exact or_iret C ⟨Nat.le_of_ble_eq_true rfl, Nat.le_of_ble_eq_true rfl⟩ dX8_plan_80
    · refine or_sub [1, 2, 3, 4, 0] rfl ?_
      exact w_X8_plan_81 C hl h0 h o v1 v2 v3 x1
set_option maxHeartbeats 4000000 in
set_option maxRecDepth 100000 in
theorem w_X8_plan_65 {G : oh_G} {l : Launch} (C : oh_C G cX8_plan wsX8_plan RX8 rmX8_plan 6) (hl : G.1.2.1 = l) (h0 : oh_H) (h : oh_H) (o : Nat) (v1 : Int32) (v2 : Int32) (v3 : Int32) : oh_J (oh_TL (pv_X8_plan_14 G o v1) (oh_TW h0 xi 0 0 (some .int) G)) (f_X8_plan_65 h o v1 v2 v3) (oh_V G 0 0 h 65 [(0, xr (some o)), (1, xi v1), (2, xi v2), (3, xi v3)] []) := by
  unfold f_X8_plan_65
  refine or_iconst C (v := (0 : Int32)) dX8_plan_65 (by decide) ?_
  refine or_sub [0, 1, 2, 3] rfl ?_
  exact w_X8_plan_66 C hl h0 h o v1 v2 v3 (0 : Int32)
set_option maxHeartbeats 4000000 in
set_option maxRecDepth 100000 in
theorem w_X8_plan_61 {G : oh_G} {l : Launch} (C : oh_C G cX8_plan wsX8_plan RX8 rmX8_plan 6) (hl : G.1.2.1 = l) (h0 : oh_H) (h : oh_H) (o : Nat) (v1 : Int32) (v2 : Int32) (v3 : Int32) : oh_J (oh_TL (pv_X8_plan_14 G o v1) (oh_TW h0 xi 0 0 (some .int) G)) (f_X8_plan_61 h o v1 v2 v3) (oh_V G 0 0 h 61 [(0, xr (some o)), (1, xi v1), (2, xi v2), (3, xi v3)] []) := by
  unfold f_X8_plan_61
  refine or_iconst C (v := (1 : Int32)) dX8_plan_61 (by decide) ?_
  refine or_goto C 66 dX8_plan_62 (by decide) ?_
  refine or_sub [0, 1, 2, 3] rfl ?_
  exact w_X8_plan_66 C hl h0 h o v1 v2 v3 (1 : Int32)
set_option maxHeartbeats 4000000 in
set_option maxRecDepth 100000 in
theorem wb_X8_plan_14 {G : oh_G} {l : Launch} (C : oh_C G cX8_plan wsX8_plan RX8 rmX8_plan 6) (hl : G.1.2.1 = l) (h0 : oh_H) (h : oh_H) (o : Nat) (v1 : Int32) (v2 : Int32) (v3 : Int32) : oh_J (oh_TL (pv_X8_plan_14 G o v1) (oh_TW h0 xi 0 0 (some .int) G)) (b_X8_plan_14 h o v1 v2 v3) (oh_V G 0 0 h 14 [(0, xr (some o)), (1, xi v1), (2, xi v2), (3, xi v3)] []) := by
  unfold b_X8_plan_14
  refine or_iload_n C 3 rfl dX8_plan_14 ?_
  refine or_aload_n C 0 rfl dX8_plan_15 ?_
  refine or_getI C 8 7 rfl (by decide) rfl (by decide) u_X8_plan_8 (by decide) k_X8_plan_f130 (by decide +kernel) dX8_plan_16 (fun x1 => ?_)
  refine or_icmp_ge C 105 dX8_plan_19 (by decide) ?_ ?_
  · refine oj_inr ?_
    refine or_aload_n C 0 rfl dX8_plan_105 ?_
    refine or_iload_n C 2 rfl dX8_plan_106 ?_
    refine or_putI C 8 49 rfl (by decide) rfl (by decide) u_X8_plan_8 tyX8 tyX8_ok nmX8 (by decide) k_X8_plan_f236 (Or.inl rfl) (by decide +kernel) rfl dX8_plan_107 (fun h2 => ?_)
    refine or_iconst C (v := (0 : Int32)) dX8_plan_110 (by decide) ?_
    refine or_istore_n C (fun x3 => [(3, xi x3), (0, xr (some o)), (1, xi v1), (2, xi v2)]) (fun _ => rfl) (by decide) dX8_plan_111 (fun x3 => ?_)
    refine or_sub [1, 2, 3, 0] rfl ?_
    exact w_X8_plan_112 C hl h0 h2 o v1 v2 x3
  · refine or_aload_n C 0 rfl dX8_plan_22 ?_
    refine or_getR C 8 11 rfl (by decide) rfl (by decide) u_X8_plan_8 (by decide) k_X8_plan_f35 (by decide +kernel) dX8_plan_23 (fun x4 => ?_)
    refine or_iload_n C 3 rfl dX8_plan_26 ?_
    refine or_iald C dX8_plan_27 (fun x5 => ?_)
    refine or_iconst C (v := (2 : Int32)) dX8_plan_28 (by decide) ?_
    refine or_icmp_ne C 65 dX8_plan_29 (by decide) ?_ ?_
    · refine or_aload_n C 0 rfl dX8_plan_32 ?_
      refine or_getR C 8 8 rfl (by decide) rfl (by decide) u_X8_plan_8 (by decide) k_X8_plan_f26 (by decide +kernel) dX8_plan_33 (fun x6 => ?_)
      refine or_iload_n C 3 rfl dX8_plan_36 ?_
      refine or_iald C dX8_plan_37 (fun x7 => ?_)
      refine or_if_eq C 61 dX8_plan_38 (by decide) ?_ ?_
      · refine or_sub [0, 1, 2, 3] rfl ?_
        exact w_X8_plan_61 C hl h0 h o v1 v2 v3
      · refine or_aload_n C 0 rfl dX8_plan_41 ?_
        refine or_getR C 8 8 rfl (by decide) rfl (by decide) u_X8_plan_8 (by decide) k_X8_plan_f26 (by decide +kernel) dX8_plan_42 (fun x8 => ?_)
        refine or_iload_n C 3 rfl dX8_plan_45 ?_
        refine or_iald C dX8_plan_46 (fun x9 => ?_)
        refine or_iconst C (v := (2 : Int32)) dX8_plan_47 (by decide) ?_
        refine or_icmp_eq C 61 dX8_plan_48 (by decide) ?_ ?_
        · refine or_sub [0, 1, 2, 3] rfl ?_
          exact w_X8_plan_61 C hl h0 h o v1 v2 v3
        · refine or_aload_n C 0 rfl dX8_plan_51 ?_
          refine or_getR C 8 8 rfl (by decide) rfl (by decide) u_X8_plan_8 (by decide) k_X8_plan_f26 (by decide +kernel) dX8_plan_52 (fun x10 => ?_)
          refine or_iload_n C 3 rfl dX8_plan_55 ?_
          refine or_iald C dX8_plan_56 (fun x11 => ?_)
          refine or_iconst C (v := (3 : Int32)) dX8_plan_57 (by decide) ?_
          refine or_icmp_ne C 65 dX8_plan_58 (by decide) ?_ ?_
          · refine or_sub [0, 1, 2, 3] rfl ?_
            exact w_X8_plan_61 C hl h0 h o v1 v2 v3
          · refine or_sub [0, 1, 2, 3] rfl ?_
            exact w_X8_plan_65 C hl h0 h o v1 v2 v3
    · refine or_sub [0, 1, 2, 3] rfl ?_
      exact w_X8_plan_65 C hl h0 h o v1 v2 v3
theorem w_X8_plan_14 {G : oh_G} {l : Launch} (C : oh_C G cX8_plan wsX8_plan RX8 rmX8_plan 6) (hl : G.1.2.1 = l) (h0 : oh_H) (h : oh_H) (o : Nat) (v1 : Int32) (v2 : Int32) (v3 : Int32) : oh_J (oh_TW h0 xi 0 0 (some .int) G) (f_X8_plan_14 h o v1 v2 v3) (oh_V G 0 0 h 14 [(0, xr (some o)), (1, xi v1), (2, xi v2), (3, xi v3)] []) := by
  unfold f_X8_plan_14
  exact oj_loop (P := pv_X8_plan_14 G o v1) (fun s => wb_X8_plan_14 C hl h0 s.1 o v1 s.2.1 s.2.2) 1000000 (h, v2, v3)
set_option maxHeartbeats 4000000 in
set_option maxRecDepth 100000 in
theorem w_X8_plan_0 {G : oh_G} {l : Launch} (C : oh_C G cX8_plan wsX8_plan RX8 rmX8_plan 6) (hl : G.1.2.1 = l) (h0 : oh_H) (h : oh_H) (o : Nat) (v1 : Int32) : oh_J (oh_TW h0 xi 0 0 (some .int) G) (f_X8_plan h o v1) (oh_V G 0 0 h 0 [(0, xr (some o)), (1, xi v1)] []) := by
  unfold f_X8_plan
  refine or_aload_n C 0 rfl dX8_plan_0 ?_
  refine or_iload_n C 1 rfl dX8_plan_1 ?_
  refine oj_rcs (fun q1 => ?_)
  refine oj_bind (fun p3 z4 => ?_)
  refine oj_v (P := oh_V G 0 0 h 5 [(0, xr (some o)), (1, xi v1)] [xi p3]) (fun k => or_callV C 1 hl (m_X8_isMill _ h o v1 p3 z4) gX8_plan_X8_isMill rfl rfl rfl (by decide +kernel) ⟨Nat.le_of_ble_eq_true rfl, Nat.le_of_ble_eq_true rfl⟩ q1 rfl (by decide) (Nat.le_of_ble_eq_true rfl) dX8_plan_2 ⟨Nat.le_of_ble_eq_true rfl, Nat.le_of_ble_eq_true rfl⟩ rfl rfl k) ?_
  refine or_if_ne C 10 dX8_plan_5 (by decide) ?_ ?_
  · refine or_iconst C (v := (-1 : Int32)) dX8_plan_8 (by decide) ?_
    exact or_iret C ⟨Nat.le_of_ble_eq_true rfl, Nat.le_of_ble_eq_true rfl⟩ dX8_plan_9
  · refine or_iconst C (v := (0 : Int32)) dX8_plan_10 (by decide) ?_
    refine or_istore_n C (fun x5 => [(2, xi x5), (0, xr (some o)), (1, xi v1)]) (fun _ => rfl) (by decide) dX8_plan_11 (fun x5 => ?_)
    refine or_iconst C (v := (0 : Int32)) dX8_plan_12 (by decide) ?_
    refine or_istore_n C (fun x6 => [(3, xi x6), (2, xi x5), (0, xr (some o)), (1, xi v1)]) (fun _ => rfl) (by decide) dX8_plan_13 (fun x6 => ?_)
    refine or_sub [2, 3, 1, 0] rfl ?_
    exact w_X8_plan_14 C hl h0 h o v1 x5 x6
theorem m_X8_plan (l : Launch) (h : oh_H) (o : Nat) (v1 : Int32) (p : Int32 × oh_H) (hf : f_X8_plan h o v1 = some p) : oh_M l yX8_plan wsX8_plan rmX8_plan 0 0 [xr (some o), xi v1] h (some (xi p.1)) p.2 :=
  oh_met (cc := cX8_plan) (maxL := 6) (ret := (some .int)) (by decide) rfl (Nat.le_of_ble_eq_true rfl) (fun G C hl hN E => w_X8_plan_0 C hl h h o v1 p hf E)
/-! X8_planned -/
theorem k_X8_planned_f245 : Cond.fieldLink RX8 245 "OilPressModel" "isPlanned" "Z" ∈ wsX8_planned := List.mem_of_getElem? (i := 1) (by decide +kernel)
theorem u_X8_planned_8 : ∀ w ∈ u_ws RX8 TX8 54, w ∈ wsX8_planned := fun w h => List.mem_cons_of_mem _ (List.mem_append_right _ (h))
theorem k_X8_planned_f249 : Cond.fieldLink RX8 249 "OilPressModel" "planMany" "I" ∈ wsX8_planned := List.mem_of_getElem? (i := 4) (by decide +kernel)
theorem k_X8_planned_f118 : Cond.fieldLink RX8 118 "OilPressModel" "plan" "[I" ∈ wsX8_planned := List.mem_of_getElem? (i := 5) (by decide +kernel)
theorem k_X8_planned_f259 : Cond.fieldLink RX8 259 "OilPressModel" "planEnd" "I" ∈ wsX8_planned := List.mem_of_getElem? (i := 3) (by decide +kernel)
theorem k_X8_planned_f256 : Cond.fieldLink RX8 256 "OilPressModel" "planLate" "I" ∈ wsX8_planned := List.mem_of_getElem? (i := 2) (by decide +kernel)
abbrev rmX8_planned : Room := { frames := 1, cells := 0, slots := 0, locals := 22 }
def f_X8_planned_54 (h : oh_H) (o : Nat) (s0 : Int32) : Option (Int32) :=
  some s0
def f_X8_planned (h : oh_H) (o : Nat) (v1 : Int32) : Option (Int32) :=
  (oh_gI h (some o) 556).bind fun x1 => if x1 = 0 then (some (-1 : Int32)) else (if v1 = (-1 : Int32) then ((oh_gI h (some o) 558).bind fun x8 => some x8) else (if v1 = (-2 : Int32) then ((oh_gI h (some o) 559).bind fun x7 => some x7) else ((oh_gI h (some o) 557).bind fun x2 => (f_X8_in h v1 (0 : Int32) (x2 - (1 : Int32))).bind fun p3 => if p3 = 0 then (f_X8_planned_54 h o (-1 : Int32)) else ((oh_gR h (some o) 560).bind fun x5 => (oh_aI h x5 20 v1).bind fun x6 => f_X8_planned_54 h o x6))))
set_option maxHeartbeats 4000000 in
set_option maxRecDepth 100000 in
theorem w_X8_planned_54 {G : oh_G} {l : Launch} (C : oh_C G cX8_planned wsX8_planned RX8 rmX8_planned 2) (hl : G.1.2.1 = l) (h : oh_H) (o : Nat) (s0 : Int32) : oh_J (oh_TR h xi (some .int) G) (f_X8_planned_54 h o s0) (oh_V G 0 0 h 54 [] [xi s0]) := by
  unfold f_X8_planned_54
  exact or_iretR C dX8_planned_54
set_option maxHeartbeats 4000000 in
set_option maxRecDepth 100000 in
theorem w_X8_planned_0 {G : oh_G} {l : Launch} (C : oh_C G cX8_planned wsX8_planned RX8 rmX8_planned 2) (hl : G.1.2.1 = l) (h : oh_H) (o : Nat) (v1 : Int32) : oh_J (oh_TR h xi (some .int) G) (f_X8_planned h o v1) (oh_V G 0 0 h 0 [(0, xr (some o)), (1, xi v1)] []) := by
  unfold f_X8_planned
  refine or_aload_n C 0 rfl dX8_planned_0 ?_
  refine or_getI C 8 44 rfl (by decide) rfl (by decide) u_X8_planned_8 (by decide) k_X8_planned_f245 (by decide +kernel) dX8_planned_1 (fun x1 => ?_)
  refine or_if_ne C 9 dX8_planned_4 (by decide) ?_ ?_
  · refine or_iconst C (v := (-1 : Int32)) dX8_planned_7 (by decide) ?_
    exact or_iretR C dX8_planned_8
  · refine or_iload_n C 1 rfl dX8_planned_9 ?_
    refine or_iconst C (v := (-1 : Int32)) dX8_planned_10 (by decide) ?_
    refine or_icmp_ne C 19 dX8_planned_11 (by decide) ?_ ?_
    · refine or_aload_n C 0 rfl dX8_planned_14 ?_
      refine or_getI C 8 46 rfl (by decide) rfl (by decide) u_X8_planned_8 (by decide) k_X8_planned_f256 (by decide +kernel) dX8_planned_15 (fun x8 => ?_)
      exact or_iretR C dX8_planned_18
    · refine or_iload_n C 1 rfl dX8_planned_19 ?_
      refine or_bipush C (v := (-2 : Int32)) dX8_planned_20 (by decide) ?_
      refine or_icmp_ne C 30 dX8_planned_22 (by decide) ?_ ?_
      · refine or_aload_n C 0 rfl dX8_planned_25 ?_
        refine or_getI C 8 47 rfl (by decide) rfl (by decide) u_X8_planned_8 (by decide) k_X8_planned_f259 (by decide +kernel) dX8_planned_26 (fun x7 => ?_)
        exact or_iretR C dX8_planned_29
      · refine or_iload_n C 1 rfl dX8_planned_30 ?_
        refine or_iconst C (v := (0 : Int32)) dX8_planned_31 (by decide) ?_
        refine or_aload_n C 0 rfl dX8_planned_32 ?_
        refine or_getI C 8 45 rfl (by decide) rfl (by decide) u_X8_planned_8 (by decide) k_X8_planned_f249 (by decide +kernel) dX8_planned_33 (fun x2 => ?_)
        refine or_iconst C (v := (1 : Int32)) dX8_planned_36 (by decide) ?_
        refine or_isub C dX8_planned_37 ?_
        refine oj_bind (fun p3 z4 => ?_)
        refine oj_v (P := oh_V G 0 0 h 41 [(0, xr (some o)), (1, xi v1)] [xi p3]) (fun k => or_callS C 3 hl (m_X8_in _ h v1 (0 : Int32) (x2 - (1 : Int32)) p3 z4) gX8_planned_X8_in rfl rfl rfl (by decide +kernel) ⟨Nat.le_of_ble_eq_true rfl, Nat.le_of_ble_eq_true rfl⟩ (Nat.le_of_ble_eq_true rfl) dX8_planned_38 ⟨Nat.le_of_ble_eq_true rfl, Nat.le_of_ble_eq_true rfl⟩ rfl rfl k) ?_
        refine or_if_eq C 53 dX8_planned_41 (by decide) ?_ ?_
        · refine or_iconst C (v := (-1 : Int32)) dX8_planned_53 (by decide) ?_
          refine or_sub [] rfl ?_
          exact w_X8_planned_54 C hl h o (-1 : Int32)
        · refine or_aload_n C 0 rfl dX8_planned_44 ?_
          refine or_getR C 8 48 rfl (by decide) rfl (by decide) u_X8_planned_8 (by decide) k_X8_planned_f118 (by decide +kernel) dX8_planned_45 (fun x5 => ?_)
          refine or_iload_n C 1 rfl dX8_planned_48 ?_
          refine or_iald C dX8_planned_49 (fun x6 => ?_)
          refine or_goto C 54 dX8_planned_50 (by decide) ?_
          refine or_sub [] rfl ?_
          exact w_X8_planned_54 C hl h o x6
theorem m_X8_planned (l : Launch) (h : oh_H) (o : Nat) (v1 : Int32) (p : Int32) (hf : f_X8_planned h o v1 = some p) : oh_M l yX8_planned wsX8_planned rmX8_planned 0 0 [xr (some o), xi v1] h (some (xi p)) h :=
  oh_met (cc := cX8_planned) (maxL := 2) (ret := (some .int)) (by decide) rfl (Nat.le_of_ble_eq_true rfl) (fun G C hl hN E => w_X8_planned_0 C hl h o v1 p hf E)
/-! X8_balance -/
theorem k_X8_balance_f137 : Cond.fieldLink RX8 137 "OilPressModel" "vats" "I" ∈ wsX8_balance := List.mem_of_getElem? (i := 6) (by decide +kernel)
theorem u_X8_balance_8 : ∀ w ∈ u_ws RX8 TX8 54, w ∈ wsX8_balance := fun w h => List.mem_cons_of_mem _ (List.mem_append_right _ (h))
theorem k_X8_balance_f99 : Cond.fieldLink RX8 99 "OilPressModel" "oil" "[I" ∈ wsX8_balance := List.mem_of_getElem? (i := 7) (by decide +kernel)
theorem k_X8_balance_f84 : Cond.fieldLink RX8 84 "OilPressModel" "given" "[I" ∈ wsX8_balance := List.mem_of_getElem? (i := 5) (by decide +kernel)
theorem k_X8_balance_f179 : Cond.fieldLink RX8 179 "OilPressModel" "gaveAll" "I" ∈ wsX8_balance := List.mem_of_getElem? (i := 1) (by decide +kernel)
theorem k_X8_balance_f205 : Cond.fieldLink RX8 205 "OilPressModel" "fetchedAll" "I" ∈ wsX8_balance := List.mem_of_getElem? (i := 2) (by decide +kernel)
theorem k_X8_balance_f212 : Cond.fieldLink RX8 212 "OilPressModel" "drawnAll" "I" ∈ wsX8_balance := List.mem_of_getElem? (i := 3) (by decide +kernel)
theorem k_X8_balance_f215 : Cond.fieldLink RX8 215 "OilPressModel" "lentAll" "I" ∈ wsX8_balance := List.mem_of_getElem? (i := 4) (by decide +kernel)
abbrev rmX8_balance : Room := { frames := 0, cells := 0, slots := 0, locals := 0 }
abbrev pv_X8_balance_58 (G : oh_G) (h : oh_H) (o : Nat) : (Int32 × Int32) → Prop := fun s => oh_V G 0 0 h 58 [(0, xr (some o)), (1, xi s.1), (2, xi s.2)] []
def b_X8_balance_58 (h : oh_H) (o : Nat) (v1 : Int32) (v2 : Int32) : Option ((Int32 × Int32) ⊕ (Int32)) :=
  (oh_gI h (some o) 541).bind fun x1 => if x1 ≤ v2 then (Option.map Sum.inr (some v1)) else ((oh_gR h (some o) 545).bind fun x2 => (oh_aI h x2 20 v2).bind fun x3 => oh_lt (v1 - x3) fun x4 => oh_lt (v2 + (1 : Int32)) fun x5 => some (Sum.inl (x4, x5)))
def f_X8_balance_58 (h : oh_H) (o : Nat) (v1 : Int32) (v2 : Int32) : Option (Int32) := oh_loop (fun s : Int32 × Int32 => b_X8_balance_58 h o s.1 s.2) 1000000 (v1, v2)
def f_X8_balance_48 (h : oh_H) (o : Nat) (v2 : Int32) (s0 : Int32) (s1 : Int32) : Option ((Int32 × Int32) ⊕ (Int32)) :=
  oh_lt (s1 - s0) fun x1 => oh_lt (v2 + (1 : Int32)) fun x2 => some (Sum.inl (x1, x2))
abbrev pv_X8_balance_22 (G : oh_G) (h : oh_H) (o : Nat) : (Int32 × Int32) → Prop := fun s => oh_V G 0 0 h 22 [(0, xr (some o)), (1, xi s.1), (2, xi s.2)] []
def b_X8_balance_22 (h : oh_H) (o : Nat) (v1 : Int32) (v2 : Int32) : Option ((Int32 × Int32) ⊕ (Int32)) :=
  if (3 : Int32) ≤ v2 then (Option.map Sum.inr (oh_lt (0 : Int32) fun x1 => f_X8_balance_58 h o v1 x1)) else ((oh_gR h (some o) 539).bind fun x2 => (oh_aI h x2 20 v2).bind fun x3 => if x3 = (-1 : Int32) then (f_X8_balance_48 h o v2 (0 : Int32) v1) else ((oh_gR h (some o) 539).bind fun x4 => (oh_aI h x4 20 v2).bind fun x5 => f_X8_balance_48 h o v2 x5 v1))
def f_X8_balance_22 (h : oh_H) (o : Nat) (v1 : Int32) (v2 : Int32) : Option (Int32) := oh_loop (fun s : Int32 × Int32 => b_X8_balance_22 h o s.1 s.2) 1000000 (v1, v2)
def f_X8_balance (h : oh_H) (o : Nat) : Option (Int32) :=
  (oh_gI h (some o) 551).bind fun x1 => (oh_gI h (some o) 552).bind fun x2 => (oh_gI h (some o) 553).bind fun x3 => (oh_gI h (some o) 554).bind fun x4 => oh_lt (((x1 - x2) - x3) - x4) fun x5 => oh_lt (0 : Int32) fun x6 => f_X8_balance_22 h o x5 x6
set_option maxHeartbeats 4000000 in
set_option maxRecDepth 100000 in
theorem wb_X8_balance_58 {G : oh_G} {l : Launch} (C : oh_C G cX8_balance wsX8_balance RX8 rmX8_balance 3) (hl : G.1.2.1 = l) (h : oh_H) (o : Nat) (v1 : Int32) (v2 : Int32) : oh_J (oh_TL (pv_X8_balance_58 G h o) (oh_TR h xi (some .int) G)) (b_X8_balance_58 h o v1 v2) (oh_V G 0 0 h 58 [(0, xr (some o)), (1, xi v1), (2, xi v2)] []) := by
  unfold b_X8_balance_58
  refine or_iload_n C 2 rfl dX8_balance_58 ?_
  refine or_aload_n C 0 rfl dX8_balance_59 ?_
  refine or_getI C 8 29 rfl (by decide) rfl (by decide) u_X8_balance_8 (by decide) k_X8_balance_f137 (by decide +kernel) dX8_balance_60 (fun x1 => ?_)
  refine or_icmp_ge C 81 dX8_balance_63 (by decide) ?_ ?_
  · refine oj_inr ?_
    refine or_iload_n C 1 rfl dX8_balance_81 ?_
    exact or_iretR C dX8_balance_82
  · refine or_iload_n C 1 rfl dX8_balance_66 ?_
    refine or_aload_n C 0 rfl dX8_balance_67 ?_
    refine or_getR C 8 33 rfl (by decide) rfl (by decide) u_X8_balance_8 (by decide) k_X8_balance_f99 (by decide +kernel) dX8_balance_68 (fun x2 => ?_)
    refine or_iload_n C 2 rfl dX8_balance_71 ?_
    refine or_iald C dX8_balance_72 (fun x3 => ?_)
    refine or_isub C dX8_balance_73 ?_
    refine or_istore_n C (fun x4 => [(1, xi x4), (0, xr (some o)), (2, xi v2)]) (fun _ => rfl) (by decide) dX8_balance_74 (fun x4 => ?_)
    refine or_iinc C (y := (1 : Int32)) 2 rfl (by decide) (fun x5 => [(2, xi x5), (1, xi x4), (0, xr (some o))]) (fun _ => rfl) (by decide) dX8_balance_75 (fun x5 => ?_)
    refine or_goto C 58 dX8_balance_78 (by decide) ?_
    refine or_sub [2, 1, 0] rfl ?_
    exact oj_back (P := pv_X8_balance_58 G h o) (s := (x4, x5))
theorem w_X8_balance_58 {G : oh_G} {l : Launch} (C : oh_C G cX8_balance wsX8_balance RX8 rmX8_balance 3) (hl : G.1.2.1 = l) (h : oh_H) (o : Nat) (v1 : Int32) (v2 : Int32) : oh_J (oh_TR h xi (some .int) G) (f_X8_balance_58 h o v1 v2) (oh_V G 0 0 h 58 [(0, xr (some o)), (1, xi v1), (2, xi v2)] []) := by
  unfold f_X8_balance_58
  exact oj_loop (P := pv_X8_balance_58 G h o) (fun s => wb_X8_balance_58 C hl h o s.1 s.2) 1000000 (v1, v2)
set_option maxHeartbeats 4000000 in
set_option maxRecDepth 100000 in
theorem w_X8_balance_48 {G : oh_G} {l : Launch} (C : oh_C G cX8_balance wsX8_balance RX8 rmX8_balance 3) (hl : G.1.2.1 = l) (h : oh_H) (o : Nat) (v2 : Int32) (s0 : Int32) (s1 : Int32) : oh_J (oh_TL (pv_X8_balance_22 G h o) (oh_TR h xi (some .int) G)) (f_X8_balance_48 h o v2 s0 s1) (oh_V G 0 0 h 48 [(0, xr (some o)), (2, xi v2)] [xi s0, xi s1]) := by
  unfold f_X8_balance_48
  refine or_isub C dX8_balance_48 ?_
  refine or_istore_n C (fun x1 => [(1, xi x1), (0, xr (some o)), (2, xi v2)]) (fun _ => rfl) (by decide) dX8_balance_49 (fun x1 => ?_)
  refine or_iinc C (y := (1 : Int32)) 2 rfl (by decide) (fun x2 => [(2, xi x2), (1, xi x1), (0, xr (some o))]) (fun _ => rfl) (by decide) dX8_balance_50 (fun x2 => ?_)
  refine or_goto C 22 dX8_balance_53 (by decide) ?_
  refine or_sub [2, 1, 0] rfl ?_
  exact oj_back (P := pv_X8_balance_22 G h o) (s := (x1, x2))
set_option maxHeartbeats 4000000 in
set_option maxRecDepth 100000 in
theorem wb_X8_balance_22 {G : oh_G} {l : Launch} (C : oh_C G cX8_balance wsX8_balance RX8 rmX8_balance 3) (hl : G.1.2.1 = l) (h : oh_H) (o : Nat) (v1 : Int32) (v2 : Int32) : oh_J (oh_TL (pv_X8_balance_22 G h o) (oh_TR h xi (some .int) G)) (b_X8_balance_22 h o v1 v2) (oh_V G 0 0 h 22 [(0, xr (some o)), (1, xi v1), (2, xi v2)] []) := by
  unfold b_X8_balance_22
  refine or_iload_n C 2 rfl dX8_balance_22 ?_
  refine or_iconst C (v := (3 : Int32)) dX8_balance_23 (by decide) ?_
  refine or_icmp_ge C 56 dX8_balance_24 (by decide) ?_ ?_
  · refine oj_inr ?_
    refine or_iconst C (v := (0 : Int32)) dX8_balance_56 (by decide) ?_
    refine or_istore_n C (fun x1 => [(2, xi x1), (0, xr (some o)), (1, xi v1)]) (fun _ => rfl) (by decide) dX8_balance_57 (fun x1 => ?_)
    refine or_sub [1, 2, 0] rfl ?_
    exact w_X8_balance_58 C hl h o v1 x1
  · refine or_iload_n C 1 rfl dX8_balance_27 ?_
    refine or_aload_n C 0 rfl dX8_balance_28 ?_
    refine or_getR C 8 27 rfl (by decide) rfl (by decide) u_X8_balance_8 (by decide) k_X8_balance_f84 (by decide +kernel) dX8_balance_29 (fun x2 => ?_)
    refine or_iload_n C 2 rfl dX8_balance_32 ?_
    refine or_iald C dX8_balance_33 (fun x3 => ?_)
    refine or_iconst C (v := (-1 : Int32)) dX8_balance_34 (by decide) ?_
    refine or_icmp_ne C 42 dX8_balance_35 (by decide) ?_ ?_
    · refine or_iconst C (v := (0 : Int32)) dX8_balance_38 (by decide) ?_
      refine or_goto C 48 dX8_balance_39 (by decide) ?_
      refine or_sub [0, 2] rfl ?_
      exact w_X8_balance_48 C hl h o v2 (0 : Int32) v1
    · refine or_aload_n C 0 rfl dX8_balance_42 ?_
      refine or_getR C 8 27 rfl (by decide) rfl (by decide) u_X8_balance_8 (by decide) k_X8_balance_f84 (by decide +kernel) dX8_balance_43 (fun x4 => ?_)
      refine or_iload_n C 2 rfl dX8_balance_46 ?_
      refine or_iald C dX8_balance_47 (fun x5 => ?_)
      refine or_sub [0, 2] rfl ?_
      exact w_X8_balance_48 C hl h o v2 x5 v1
theorem w_X8_balance_22 {G : oh_G} {l : Launch} (C : oh_C G cX8_balance wsX8_balance RX8 rmX8_balance 3) (hl : G.1.2.1 = l) (h : oh_H) (o : Nat) (v1 : Int32) (v2 : Int32) : oh_J (oh_TR h xi (some .int) G) (f_X8_balance_22 h o v1 v2) (oh_V G 0 0 h 22 [(0, xr (some o)), (1, xi v1), (2, xi v2)] []) := by
  unfold f_X8_balance_22
  exact oj_loop (P := pv_X8_balance_22 G h o) (fun s => wb_X8_balance_22 C hl h o s.1 s.2) 1000000 (v1, v2)
set_option maxHeartbeats 4000000 in
set_option maxRecDepth 100000 in
theorem w_X8_balance_0 {G : oh_G} {l : Launch} (C : oh_C G cX8_balance wsX8_balance RX8 rmX8_balance 3) (hl : G.1.2.1 = l) (h : oh_H) (o : Nat) : oh_J (oh_TR h xi (some .int) G) (f_X8_balance h o) (oh_V G 0 0 h 0 [(0, xr (some o))] []) := by
  unfold f_X8_balance
  refine or_aload_n C 0 rfl dX8_balance_0 ?_
  refine or_getI C 8 39 rfl (by decide) rfl (by decide) u_X8_balance_8 (by decide) k_X8_balance_f179 (by decide +kernel) dX8_balance_1 (fun x1 => ?_)
  refine or_aload_n C 0 rfl dX8_balance_4 ?_
  refine or_getI C 8 40 rfl (by decide) rfl (by decide) u_X8_balance_8 (by decide) k_X8_balance_f205 (by decide +kernel) dX8_balance_5 (fun x2 => ?_)
  refine or_isub C dX8_balance_8 ?_
  refine or_aload_n C 0 rfl dX8_balance_9 ?_
  refine or_getI C 8 41 rfl (by decide) rfl (by decide) u_X8_balance_8 (by decide) k_X8_balance_f212 (by decide +kernel) dX8_balance_10 (fun x3 => ?_)
  refine or_isub C dX8_balance_13 ?_
  refine or_aload_n C 0 rfl dX8_balance_14 ?_
  refine or_getI C 8 42 rfl (by decide) rfl (by decide) u_X8_balance_8 (by decide) k_X8_balance_f215 (by decide +kernel) dX8_balance_15 (fun x4 => ?_)
  refine or_isub C dX8_balance_18 ?_
  refine or_istore_n C (fun x5 => [(1, xi x5), (0, xr (some o))]) (fun _ => rfl) (by decide) dX8_balance_19 (fun x5 => ?_)
  refine or_iconst C (v := (0 : Int32)) dX8_balance_20 (by decide) ?_
  refine or_istore_n C (fun x6 => [(2, xi x6), (1, xi x5), (0, xr (some o))]) (fun _ => rfl) (by decide) dX8_balance_21 (fun x6 => ?_)
  refine or_sub [2, 1, 0] rfl ?_
  exact w_X8_balance_22 C hl h o x5 x6
theorem m_X8_balance (l : Launch) (h : oh_H) (o : Nat) (p : Int32) (hf : f_X8_balance h o = some p) : oh_M l yX8_balance wsX8_balance rmX8_balance 0 0 [xr (some o)] h (some (xi p)) h :=
  oh_met (cc := cX8_balance) (maxL := 3) (ret := (some .int)) (by decide) rfl (Nat.le_of_ble_eq_true rfl) (fun G C hl hN E => w_X8_balance_0 C hl h o p hf E)
/-! X8_count -/
theorem k_X8_count_f140 : Cond.fieldLink RX8 140 "OilPressModel" "groves" "I" ∈ wsX8_count := List.mem_of_getElem? (i := 1) (by decide +kernel)
theorem u_X8_count_8 : ∀ w ∈ u_ws RX8 TX8 54, w ∈ wsX8_count := fun w h => List.mem_cons_of_mem _ (List.mem_append_right _ (h))
theorem k_X8_count_f130 : Cond.fieldLink RX8 130 "OilPressModel" "lots" "I" ∈ wsX8_count := List.mem_of_getElem? (i := 2) (by decide +kernel)
theorem k_X8_count_f137 : Cond.fieldLink RX8 137 "OilPressModel" "vats" "I" ∈ wsX8_count := List.mem_of_getElem? (i := 3) (by decide +kernel)
theorem k_X8_count_f127 : Cond.fieldLink RX8 127 "OilPressModel" "now" "I" ∈ wsX8_count := List.mem_of_getElem? (i := 4) (by decide +kernel)
theorem k_X8_count_f16 : Cond.fieldLink RX8 16 "OilPressModel" "places" "I" ∈ wsX8_count := List.mem_of_getElem? (i := 5) (by decide +kernel)
theorem k_X8_count_f179 : Cond.fieldLink RX8 179 "OilPressModel" "gaveAll" "I" ∈ wsX8_count := List.mem_of_getElem? (i := 6) (by decide +kernel)
theorem k_X8_count_f205 : Cond.fieldLink RX8 205 "OilPressModel" "fetchedAll" "I" ∈ wsX8_count := List.mem_of_getElem? (i := 7) (by decide +kernel)
theorem k_X8_count_f212 : Cond.fieldLink RX8 212 "OilPressModel" "drawnAll" "I" ∈ wsX8_count := List.mem_of_getElem? (i := 8) (by decide +kernel)
theorem k_X8_count_f215 : Cond.fieldLink RX8 215 "OilPressModel" "lentAll" "I" ∈ wsX8_count := List.mem_of_getElem? (i := 9) (by decide +kernel)
theorem k_X8_count_f226 : Cond.fieldLink RX8 226 "OilPressModel" "lateAll" "I" ∈ wsX8_count := List.mem_of_getElem? (i := 10) (by decide +kernel)
abbrev rmX8_count : Room := { frames := 1, cells := 0, slots := 0, locals := 20 }
def f_X8_count (h : oh_H) (o : Nat) (v1 : Int32) : Option (Int32) :=
  if v1 = (0 : Int32) then ((oh_gI h (some o) 516).bind fun x1 => some x1) else (if v1 = (1 : Int32) then ((oh_gI h (some o) 519).bind fun x2 => some x2) else (if v1 = (2 : Int32) then ((oh_gI h (some o) 541).bind fun x3 => some x3) else (if v1 = (3 : Int32) then (oh_rc h (some o) 9 fun o5 => (f_X8_today h o5).bind fun p6 => some p6) else (if v1 = (4 : Int32) then ((oh_gI h (some o) 512).bind fun x8 => some x8) else (if v1 = (5 : Int32) then ((oh_gI h (some o) 515).bind fun x9 => some x9) else (if v1 = (6 : Int32) then ((oh_gI h (some o) 551).bind fun x10 => some x10) else (if v1 = (7 : Int32) then ((oh_gI h (some o) 552).bind fun x11 => some x11) else (if v1 = (8 : Int32) then ((oh_gI h (some o) 553).bind fun x12 => some x12) else (if v1 = (9 : Int32) then ((oh_gI h (some o) 554).bind fun x13 => some x13) else (if v1 = (10 : Int32) then ((oh_gI h (some o) 555).bind fun x14 => some x14) else (some (-1 : Int32))))))))))))
set_option maxHeartbeats 4000000 in
set_option maxRecDepth 100000 in
theorem w_X8_count_0 {G : oh_G} {l : Launch} (C : oh_C G cX8_count wsX8_count RX8 rmX8_count 2) (hl : G.1.2.1 = l) (h : oh_H) (o : Nat) (v1 : Int32) : oh_J (oh_TR h xi (some .int) G) (f_X8_count h o v1) (oh_V G 0 0 h 0 [(0, xr (some o)), (1, xi v1)] []) := by
  unfold f_X8_count
  refine or_iload_n C 1 rfl dX8_count_0 ?_
  refine or_case C (v := (0 : Int32)) 0 60 dX8_count_1 (by decide) (by decide) rfl (by decide) ?_ (fun n0 => ?_)
  · refine or_aload_n C 0 rfl dX8_count_60 ?_
    refine or_getI C 8 4 rfl (by decide) rfl (by decide) u_X8_count_8 (by decide) k_X8_count_f140 (by decide +kernel) dX8_count_61 (fun x1 => ?_)
    exact or_iretR C dX8_count_64
  refine or_case C (v := (1 : Int32)) 1 65 dX8_count_1 (by decide) (by decide) rfl (by decide) ?_ (fun n1 => ?_)
  · refine or_aload_n C 0 rfl dX8_count_65 ?_
    refine or_getI C 8 7 rfl (by decide) rfl (by decide) u_X8_count_8 (by decide) k_X8_count_f130 (by decide +kernel) dX8_count_66 (fun x2 => ?_)
    exact or_iretR C dX8_count_69
  refine or_case C (v := (2 : Int32)) 2 70 dX8_count_1 (by decide) (by decide) rfl (by decide) ?_ (fun n2 => ?_)
  · refine or_aload_n C 0 rfl dX8_count_70 ?_
    refine or_getI C 8 29 rfl (by decide) rfl (by decide) u_X8_count_8 (by decide) k_X8_count_f137 (by decide +kernel) dX8_count_71 (fun x3 => ?_)
    exact or_iretR C dX8_count_74
  refine or_case C (v := (3 : Int32)) 3 75 dX8_count_1 (by decide) (by decide) rfl (by decide) ?_ (fun n3 => ?_)
  · refine or_aload_n C 0 rfl dX8_count_75 ?_
    refine oj_rcs (fun q4 => ?_)
    refine oj_bind (fun p6 z7 => ?_)
    refine oj_v (P := oh_V G 0 0 h 79 [(0, xr (some o)), (1, xi v1)] [xi p6]) (fun k => or_callV C 0 hl (m_X8_today _ h o p6 z7) gX8_count_X8_today rfl rfl rfl (by decide +kernel) ⟨Nat.le_of_ble_eq_true rfl, Nat.le_of_ble_eq_true rfl⟩ q4 rfl (by decide) (Nat.le_of_ble_eq_true rfl) dX8_count_76 ⟨Nat.le_of_ble_eq_true rfl, Nat.le_of_ble_eq_true rfl⟩ rfl rfl k) ?_
    exact or_iretR C dX8_count_79
  refine or_case C (v := (4 : Int32)) 4 80 dX8_count_1 (by decide) (by decide) rfl (by decide) ?_ (fun n4 => ?_)
  · refine or_aload_n C 0 rfl dX8_count_80 ?_
    refine or_getI C 8 0 rfl (by decide) rfl (by decide) u_X8_count_8 (by decide) k_X8_count_f127 (by decide +kernel) dX8_count_81 (fun x8 => ?_)
    exact or_iretR C dX8_count_84
  refine or_case C (v := (5 : Int32)) 5 85 dX8_count_1 (by decide) (by decide) rfl (by decide) ?_ (fun n5 => ?_)
  · refine or_aload_n C 0 rfl dX8_count_85 ?_
    refine or_getI C 8 3 rfl (by decide) rfl (by decide) u_X8_count_8 (by decide) k_X8_count_f16 (by decide +kernel) dX8_count_86 (fun x9 => ?_)
    exact or_iretR C dX8_count_89
  refine or_case C (v := (6 : Int32)) 6 90 dX8_count_1 (by decide) (by decide) rfl (by decide) ?_ (fun n6 => ?_)
  · refine or_aload_n C 0 rfl dX8_count_90 ?_
    refine or_getI C 8 39 rfl (by decide) rfl (by decide) u_X8_count_8 (by decide) k_X8_count_f179 (by decide +kernel) dX8_count_91 (fun x10 => ?_)
    exact or_iretR C dX8_count_94
  refine or_case C (v := (7 : Int32)) 7 95 dX8_count_1 (by decide) (by decide) rfl (by decide) ?_ (fun n7 => ?_)
  · refine or_aload_n C 0 rfl dX8_count_95 ?_
    refine or_getI C 8 40 rfl (by decide) rfl (by decide) u_X8_count_8 (by decide) k_X8_count_f205 (by decide +kernel) dX8_count_96 (fun x11 => ?_)
    exact or_iretR C dX8_count_99
  refine or_case C (v := (8 : Int32)) 8 100 dX8_count_1 (by decide) (by decide) rfl (by decide) ?_ (fun n8 => ?_)
  · refine or_aload_n C 0 rfl dX8_count_100 ?_
    refine or_getI C 8 41 rfl (by decide) rfl (by decide) u_X8_count_8 (by decide) k_X8_count_f212 (by decide +kernel) dX8_count_101 (fun x12 => ?_)
    exact or_iretR C dX8_count_104
  refine or_case C (v := (9 : Int32)) 9 105 dX8_count_1 (by decide) (by decide) rfl (by decide) ?_ (fun n9 => ?_)
  · refine or_aload_n C 0 rfl dX8_count_105 ?_
    refine or_getI C 8 42 rfl (by decide) rfl (by decide) u_X8_count_8 (by decide) k_X8_count_f215 (by decide +kernel) dX8_count_106 (fun x13 => ?_)
    exact or_iretR C dX8_count_109
  refine or_case C (v := (10 : Int32)) 10 110 dX8_count_1 (by decide) (by decide) rfl (by decide) ?_ (fun n10 => ?_)
  · refine or_aload_n C 0 rfl dX8_count_110 ?_
    refine or_getI C 8 43 rfl (by decide) rfl (by decide) u_X8_count_8 (by decide) k_X8_count_f226 (by decide +kernel) dX8_count_111 (fun x14 => ?_)
    exact or_iretR C dX8_count_114
  refine or_dflt C 115 dX8_count_1 (by omega) (by decide) ?_
  refine or_iconst C (v := (-1 : Int32)) dX8_count_115 (by decide) ?_
  exact or_iretR C dX8_count_116
theorem m_X8_count (l : Launch) (h : oh_H) (o : Nat) (v1 : Int32) (p : Int32) (hf : f_X8_count h o v1 = some p) : oh_M l yX8_count wsX8_count rmX8_count 0 0 [xr (some o), xi v1] h (some (xi p)) h :=
  oh_met (cc := cX8_count) (maxL := 2) (ret := (some .int)) (by decide) rfl (Nat.le_of_ble_eq_true rfl) (fun G C hl hN E => w_X8_count_0 C hl h o v1 p hf E)
