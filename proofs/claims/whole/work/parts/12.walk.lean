/-! X3_divide -/
theorem k_X3_divide_f21 : Cond.fieldLink RX3 21 "OilPress$Mill" "size" "I" ∈ wsX3_divide := List.mem_of_getElem? (i := 4) (by decide +kernel)
theorem u_X3_divide_3 : ∀ w ∈ u_ws RX3 TX3 14, w ∈ wsX3_divide := fun w h => List.mem_cons_of_mem _ (List.mem_append_left _ (List.mem_append_right _ (h)))
theorem k_X3_divide_f11 : Cond.fieldLink RX3 11 "OilPress$Mill" "bin" "[LOilPress$Lot;" ∈ wsX3_divide := List.mem_of_getElem? (i := 5) (by decide +kernel)
theorem k_X3_divide_f114 : Cond.fieldLink RX3 114 "OilPress$Lot" "share" "I" ∈ wsX3_divide := List.mem_of_getElem? (i := 6) (by decide +kernel)
theorem u_X3_divide_2 : ∀ w ∈ u_ws RX2 TX2 12, w ∈ wsX3_divide := fun w h => List.mem_cons_of_mem _ (List.mem_append_right _ (h))
theorem k_X3_divide_f80 : Cond.fieldLink RX3 80 "OilPress$Lot" "state" "I" ∈ wsX3_divide := List.mem_of_getElem? (i := 7) (by decide +kernel)
theorem k_X3_divide_f17 : Cond.fieldLink RX3 17 "OilPress$Mill" "cutOff" "[J" ∈ wsX3_divide := List.mem_of_getElem? (i := 8) (by decide +kernel)
theorem k_X3_divide_f50 : Cond.fieldLink RX3 50 "OilPress$Mill" "given" "I" ∈ wsX3_divide := List.mem_of_getElem? (i := 1) (by decide +kernel)
theorem k_X3_divide_c112 : Cond.constantLong RX3 112 (100) ∈ wsX3_divide := List.mem_of_getElem? (i := 2) (by decide +kernel)
theorem k_X3_divide_f53 : Cond.fieldLink RX3 53 "OilPress$Mill" "kept" "I" ∈ wsX3_divide := List.mem_of_getElem? (i := 3) (by decide +kernel)
abbrev rmX3_divide : Room := { frames := 1, cells := 0, slots := 0, locals := 23 }
def f_X3_divide_186 (h : oh_H) (o : Nat) : Option (oh_H) :=
  some h
abbrev pv_X3_divide_160 (G : oh_G) (o : Nat) : (oh_H × Int32 × Int32) → Prop := fun s => oh_V G 0 0 s.1 160 [(0, xr (some o)), (3, xi s.2.1), (6, xi s.2.2)] []
def b_X3_divide_160 (h : oh_H) (o : Nat) (v3 : Int32) (v6 : Int32) : Option ((oh_H × Int32 × Int32) ⊕ (oh_H)) :=
  (oh_gI h (some o) 195).bind fun x1 => if x1 ≤ v6 then (Option.map Sum.inr (f_X3_divide_186 h o)) else (if v3 ≤ 0 then (Option.map Sum.inr (f_X3_divide_186 h o)) else (oh_rc h (some o) 4 fun o3 => (f_X3_giveOneOver h o3).bind fun p4 => oh_lt (v3 + (-1 : Int32)) fun x6 => oh_lt (v6 + (1 : Int32)) fun x7 => some (Sum.inl (p4, x6, x7))))
def f_X3_divide_160 (h : oh_H) (o : Nat) (v3 : Int32) (v6 : Int32) : Option (oh_H) := oh_loop (fun s : oh_H × Int32 × Int32 => b_X3_divide_160 s.1 o s.2.1 s.2.2) 1000000 (h, v3, v6)
def f_X3_divide_157 (h : oh_H) (o : Nat) (v3 : Int32) : Option (oh_H) :=
  oh_lt (0 : Int32) fun x1 => f_X3_divide_160 h o v3 x1
abbrev pv_X3_divide_68 (G : oh_G) (o : Nat) (v2 : Int32) (v4 : Int64) : (oh_H × Int32 × Int32) → Prop := fun s => oh_V G 0 0 s.1 68 [(0, xr (some o)), (2, xi v2), (3, xi s.2.1), (4, xl v4), (6, xi s.2.2)] []
def b_X3_divide_68 (h : oh_H) (o : Nat) (v2 : Int32) (v3 : Int32) (v4 : Int64) (v6 : Int32) : Option ((oh_H × Int32 × Int32) ⊕ (oh_H)) :=
  (oh_gI h (some o) 195).bind fun x1 => if x1 ≤ v6 then (Option.map Sum.inr (f_X3_divide_157 h o v3)) else (if (lg_cmp v4 (0 : Int64)) ≤ 0 then (Option.map Sum.inr (f_X3_divide_157 h o v3)) else ((oh_gR h (some o) 193).bind fun x2 => (oh_aR h x2 24 v6).bind fun x3 => oh_rc h x3 3 fun o4 => (f_X2_oil h o4).bind fun p7 => oh_lt ((Int32.toInt64 v2) * p7) fun x9 => (oh_gR h (some o) 193).bind fun x10 => (oh_aR h x10 24 v6).bind fun x11 => if v4 = 0 then none else (oh_pI h x11 136 (Int64.toInt32 (x9 / v4))).bind fun h12 => (oh_gR h12 (some o) 193).bind fun x13 => (oh_aR h12 x13 24 v6).bind fun x14 => (oh_pI h12 x14 132 (5 : Int32)).bind fun h15 => (oh_gR h15 (some o) 194).bind fun x16 => if v4 = 0 then none else (oh_tL h15 x16 v6 (x9 - x9 / v4 * v4)).bind fun h17 => (oh_gR h17 (some o) 193).bind fun x18 => (oh_aR h17 x18 24 v6).bind fun x19 => (oh_gI h17 x19 136).bind fun x20 => oh_lt (v3 - x20) fun x21 => oh_lt (v6 + (1 : Int32)) fun x22 => some (Sum.inl (h17, x21, x22))))
def f_X3_divide_68 (h : oh_H) (o : Nat) (v2 : Int32) (v3 : Int32) (v4 : Int64) (v6 : Int32) : Option (oh_H) := oh_loop (fun s : oh_H × Int32 × Int32 => b_X3_divide_68 s.1 o v2 s.2.1 v4 s.2.2) 1000000 (h, v3, v6)
abbrev pv_X3_divide_35 (G : oh_G) (o : Nat) (v2 : Int32) (v3 : Int32) : (oh_H × Int64 × Int32) → Prop := fun s => oh_V G 0 0 s.1 35 [(0, xr (some o)), (2, xi v2), (3, xi v3), (4, xl s.2.1), (6, xi s.2.2)] []
def b_X3_divide_35 (h : oh_H) (o : Nat) (v2 : Int32) (v3 : Int32) (v4 : Int64) (v6 : Int32) : Option ((oh_H × Int64 × Int32) ⊕ (oh_H)) :=
  (oh_gI h (some o) 195).bind fun x1 => if x1 ≤ v6 then (Option.map Sum.inr (oh_lt (0 : Int32) fun x2 => f_X3_divide_68 h o v2 v3 v4 x2)) else ((oh_gR h (some o) 193).bind fun x3 => (oh_aR h x3 24 v6).bind fun x4 => oh_rc h x4 3 fun o5 => (f_X2_oil h o5).bind fun p8 => oh_lt (v4 + p8) fun x10 => oh_lt (v6 + (1 : Int32)) fun x11 => some (Sum.inl (h, x10, x11)))
def f_X3_divide_35 (h : oh_H) (o : Nat) (v2 : Int32) (v3 : Int32) (v4 : Int64) (v6 : Int32) : Option (oh_H) := oh_loop (fun s : oh_H × Int64 × Int32 => b_X3_divide_35 s.1 o v2 v3 s.2.1 s.2.2) 1000000 (h, v4, v6)
def f_X3_divide (h : oh_H) (o : Nat) (v1 : Int32) : Option (oh_H) :=
  (oh_gI h (some o) 204).bind fun x1 => if (100 : Int64) = 0 then none else (oh_pI h (some o) 205 (Int64.toInt32 (((Int32.toInt64 x1) * (Int32.toInt64 v1)) / (100 : Int64)))).bind fun h2 => (oh_gI h2 (some o) 204).bind fun x3 => (oh_gI h2 (some o) 205).bind fun x4 => oh_lt (x3 - x4) fun x5 => oh_lt x5 fun x6 => oh_lt (0 : Int64) fun x7 => oh_lt (0 : Int32) fun x8 => f_X3_divide_35 h2 o x5 x6 x7 x8
set_option maxHeartbeats 4000000 in
set_option maxRecDepth 100000 in
theorem w_X3_divide_186 {G : oh_G} {l : Launch} (C : oh_C G cX3_divide wsX3_divide RX3 rmX3_divide 9) (hl : G.1.2.1 = l) (h0 : oh_H) (h : oh_H) (o : Nat) : oh_J (oh_TV h0 0 0 none G) (f_X3_divide_186 h o) (oh_V G 0 0 h 186 [] []) := by
  unfold f_X3_divide_186
  exact or_vret C ⟨Nat.le_of_ble_eq_true rfl, Nat.le_of_ble_eq_true rfl⟩ dX3_divide_186
set_option maxHeartbeats 4000000 in
set_option maxRecDepth 100000 in
theorem wb_X3_divide_160 {G : oh_G} {l : Launch} (C : oh_C G cX3_divide wsX3_divide RX3 rmX3_divide 9) (hl : G.1.2.1 = l) (h0 : oh_H) (h : oh_H) (o : Nat) (v3 : Int32) (v6 : Int32) : oh_J (oh_TL (pv_X3_divide_160 G o) (oh_TV h0 0 0 none G)) (b_X3_divide_160 h o v3 v6) (oh_V G 0 0 h 160 [(0, xr (some o)), (3, xi v3), (6, xi v6)] []) := by
  unfold b_X3_divide_160
  refine or_iload C 2 rfl dX3_divide_160 ?_
  refine or_aload_n C 0 rfl dX3_divide_162 ?_
  refine or_getI C 3 3 rfl (by decide) rfl (by decide) u_X3_divide_3 (by decide) k_X3_divide_f21 (by decide +kernel) dX3_divide_163 (fun x1 => ?_)
  refine or_icmp_ge C 186 dX3_divide_166 (by decide) ?_ ?_
  · refine oj_inr ?_
    refine or_sub [] rfl ?_
    exact w_X3_divide_186 C hl h0 h o
  · refine or_iload_n C 1 rfl dX3_divide_169 ?_
    refine or_if_le C 186 dX3_divide_170 (by decide) ?_ ?_
    · refine oj_inr ?_
      refine or_sub [] rfl ?_
      exact w_X3_divide_186 C hl h0 h o
    · refine or_aload_n C 0 rfl dX3_divide_173 ?_
      refine oj_rcs (fun q2 => ?_)
      refine oj_bind (fun p4 z5 => ?_)
      refine oj_v (P := oh_V G 0 0 p4 177 [(0, xr (some o)), (3, xi v3), (6, xi v6)] []) (fun k => or_callV C 0 hl (m_X3_giveOneOver _ h o p4 z5) gX3_divide_X3_giveOneOver rfl rfl rfl (by decide +kernel) ⟨Nat.le_of_ble_eq_true rfl, Nat.le_of_ble_eq_true rfl⟩ q2 rfl (by decide) (Nat.le_of_ble_eq_true rfl) dX3_divide_174 ⟨Nat.le_of_ble_eq_true rfl, Nat.le_of_ble_eq_true rfl⟩ rfl rfl k) ?_
      refine or_iinc C (y := (-1 : Int32)) 1 rfl (by decide) (fun x6 => [(3, xi x6), (0, xr (some o)), (6, xi v6)]) (fun _ => rfl) (by decide) dX3_divide_177 (fun x6 => ?_)
      refine or_iinc C (y := (1 : Int32)) 2 rfl (by decide) (fun x7 => [(6, xi x7), (3, xi x6), (0, xr (some o))]) (fun _ => rfl) (by decide) dX3_divide_180 (fun x7 => ?_)
      refine or_goto C 160 dX3_divide_183 (by decide) ?_
      refine or_sub [2, 1, 0] rfl ?_
      exact oj_back (P := pv_X3_divide_160 G o) (s := (p4, x6, x7))
theorem w_X3_divide_160 {G : oh_G} {l : Launch} (C : oh_C G cX3_divide wsX3_divide RX3 rmX3_divide 9) (hl : G.1.2.1 = l) (h0 : oh_H) (h : oh_H) (o : Nat) (v3 : Int32) (v6 : Int32) : oh_J (oh_TV h0 0 0 none G) (f_X3_divide_160 h o v3 v6) (oh_V G 0 0 h 160 [(0, xr (some o)), (3, xi v3), (6, xi v6)] []) := by
  unfold f_X3_divide_160
  exact oj_loop (P := pv_X3_divide_160 G o) (fun s => wb_X3_divide_160 C hl h0 s.1 o s.2.1 s.2.2) 1000000 (h, v3, v6)
set_option maxHeartbeats 4000000 in
set_option maxRecDepth 100000 in
theorem w_X3_divide_157 {G : oh_G} {l : Launch} (C : oh_C G cX3_divide wsX3_divide RX3 rmX3_divide 9) (hl : G.1.2.1 = l) (h0 : oh_H) (h : oh_H) (o : Nat) (v3 : Int32) : oh_J (oh_TV h0 0 0 none G) (f_X3_divide_157 h o v3) (oh_V G 0 0 h 157 [(0, xr (some o)), (3, xi v3)] []) := by
  unfold f_X3_divide_157
  refine or_iconst C (v := (0 : Int32)) dX3_divide_157 (by decide) ?_
  refine or_istore C (fun x1 => [(6, xi x1), (0, xr (some o)), (3, xi v3)]) (fun _ => rfl) (by decide) dX3_divide_158 (fun x1 => ?_)
  refine or_sub [1, 2, 0] rfl ?_
  exact w_X3_divide_160 C hl h0 h o v3 x1
set_option maxHeartbeats 4000000 in
set_option maxRecDepth 100000 in
theorem wb_X3_divide_68 {G : oh_G} {l : Launch} (C : oh_C G cX3_divide wsX3_divide RX3 rmX3_divide 9) (hl : G.1.2.1 = l) (h0 : oh_H) (h : oh_H) (o : Nat) (v2 : Int32) (v3 : Int32) (v4 : Int64) (v6 : Int32) : oh_J (oh_TL (pv_X3_divide_68 G o v2 v4) (oh_TV h0 0 0 none G)) (b_X3_divide_68 h o v2 v3 v4 v6) (oh_V G 0 0 h 68 [(0, xr (some o)), (2, xi v2), (3, xi v3), (4, xl v4), (6, xi v6)] []) := by
  unfold b_X3_divide_68
  refine or_iload C 4 rfl dX3_divide_68 ?_
  refine or_aload_n C 0 rfl dX3_divide_70 ?_
  refine or_getI C 3 3 rfl (by decide) rfl (by decide) u_X3_divide_3 (by decide) k_X3_divide_f21 (by decide +kernel) dX3_divide_71 (fun x1 => ?_)
  refine or_icmp_ge C 157 dX3_divide_74 (by decide) ?_ ?_
  · refine oj_inr ?_
    refine or_sub [0, 2] rfl ?_
    exact w_X3_divide_157 C hl h0 h o v3
  · refine or_lload C 3 rfl dX3_divide_77 ?_
    refine or_lconst C (v := (0 : Int64)) dX3_divide_79 rfl ?_
    refine or_lcmp C dX3_divide_80 ?_
    refine or_if_le C 157 dX3_divide_81 (by decide) ?_ ?_
    · refine oj_inr ?_
      refine or_sub [0, 2] rfl ?_
      exact w_X3_divide_157 C hl h0 h o v3
    · refine or_iload_n C 1 rfl dX3_divide_84 ?_
      refine or_i2l C dX3_divide_85 ?_
      refine or_aload_n C 0 rfl dX3_divide_86 ?_
      refine or_getR C 3 1 rfl (by decide) rfl (by decide) u_X3_divide_3 (by decide) k_X3_divide_f11 (by decide +kernel) dX3_divide_87 (fun x2 => ?_)
      refine or_iload C 4 rfl dX3_divide_90 ?_
      refine or_aald C 4 (fun _ => rfl) (by decide) rfl dX3_divide_92 (fun x3 => ?_)
      refine oj_rc (fun o4 e6 q5 => ?_)
      refine oj_bind (fun p7 z8 => ?_)
      refine oj_v (P := oh_V G 0 0 h 96 [(0, xr (some o)), (2, xi v2), (3, xi v3), (4, xl v4), (6, xi v6)] [xl p7, xl (Int32.toInt64 v2)]) (fun k => or_callV C 0 hl (m_X2_oil _ h o4 p7 z8) gX3_divide_X2_oil rfl rfl rfl (by decide +kernel) ⟨Nat.le_of_ble_eq_true rfl, Nat.le_of_ble_eq_true rfl⟩ q5 rfl (by decide) (Nat.le_of_ble_eq_true rfl) dX3_divide_93 ⟨Nat.le_of_ble_eq_true rfl, Nat.le_of_ble_eq_true rfl⟩ rfl (by rw [e6]; rfl) k) ?_
      refine or_lmul C dX3_divide_96 ?_
      refine or_lstore C (fun x9 => [(7, xl x9), (0, xr (some o)), (2, xi v2), (3, xi v3), (4, xl v4), (6, xi v6)]) (fun _ => rfl) (by decide) dX3_divide_97 (fun x9 => ?_)
      refine or_aload_n C 1 rfl dX3_divide_99 ?_
      refine or_getR C 3 1 rfl (by decide) rfl (by decide) u_X3_divide_3 (by decide) k_X3_divide_f11 (by decide +kernel) dX3_divide_100 (fun x10 => ?_)
      refine or_iload C 5 rfl dX3_divide_103 ?_
      refine or_aald C 4 (fun _ => rfl) (by decide) rfl dX3_divide_105 (fun x11 => ?_)
      refine or_lload C 0 rfl dX3_divide_106 ?_
      refine or_lload C 4 rfl dX3_divide_108 ?_
      refine or_ldiv C dX3_divide_110 ?_
      refine or_l2i C dX3_divide_111 ?_
      refine or_putI C 2 8 rfl (by decide) rfl (by decide) u_X3_divide_2 tyX2 tyX2_ok nmX2 (by decide) k_X3_divide_f114 (Or.inl rfl) (by decide +kernel) rfl dX3_divide_112 (fun h12 => ?_)
      refine or_aload_n C 1 rfl dX3_divide_115 ?_
      refine or_getR C 3 1 rfl (by decide) rfl (by decide) u_X3_divide_3 (by decide) k_X3_divide_f11 (by decide +kernel) dX3_divide_116 (fun x13 => ?_)
      refine or_iload C 5 rfl dX3_divide_119 ?_
      refine or_aald C 4 (fun _ => rfl) (by decide) rfl dX3_divide_121 (fun x14 => ?_)
      refine or_iconst C (v := (5 : Int32)) dX3_divide_122 (by decide) ?_
      refine or_putI C 2 4 rfl (by decide) rfl (by decide) u_X3_divide_2 tyX2 tyX2_ok nmX2 (by decide) k_X3_divide_f80 (Or.inl rfl) (by decide +kernel) rfl dX3_divide_123 (fun h15 => ?_)
      refine or_aload_n C 1 rfl dX3_divide_126 ?_
      refine or_getR C 3 2 rfl (by decide) rfl (by decide) u_X3_divide_3 (by decide) k_X3_divide_f17 (by decide +kernel) dX3_divide_127 (fun x16 => ?_)
      refine or_iload C 5 rfl dX3_divide_130 ?_
      refine or_lload C 0 rfl dX3_divide_132 ?_
      refine or_lload C 4 rfl dX3_divide_134 ?_
      refine or_lrem C dX3_divide_136 ?_
      refine or_last C dX3_divide_137 (fun h17 => ?_)
      refine or_iload_n C 3 rfl dX3_divide_138 ?_
      refine or_aload_n C 1 rfl dX3_divide_139 ?_
      refine or_getR C 3 1 rfl (by decide) rfl (by decide) u_X3_divide_3 (by decide) k_X3_divide_f11 (by decide +kernel) dX3_divide_140 (fun x18 => ?_)
      refine or_iload C 5 rfl dX3_divide_143 ?_
      refine or_aald C 4 (fun _ => rfl) (by decide) rfl dX3_divide_145 (fun x19 => ?_)
      refine or_getI C 2 8 rfl (by decide) rfl (by decide) u_X3_divide_2 (by decide) k_X3_divide_f114 (by decide +kernel) dX3_divide_146 (fun x20 => ?_)
      refine or_isub C dX3_divide_149 ?_
      refine or_istore_n C (fun x21 => [(3, xi x21), (7, xl x9), (0, xr (some o)), (2, xi v2), (4, xl v4), (6, xi v6)]) (fun _ => rfl) (by decide) dX3_divide_150 (fun x21 => ?_)
      refine or_iinc C (y := (1 : Int32)) 5 rfl (by decide) (fun x22 => [(6, xi x22), (3, xi x21), (7, xl x9), (0, xr (some o)), (2, xi v2), (4, xl v4)]) (fun _ => rfl) (by decide) dX3_divide_151 (fun x22 => ?_)
      refine or_goto C 68 dX3_divide_154 (by decide) ?_
      refine or_sub [3, 4, 1, 5, 0] rfl ?_
      exact oj_back (P := pv_X3_divide_68 G o v2 v4) (s := (h17, x21, x22))
theorem w_X3_divide_68 {G : oh_G} {l : Launch} (C : oh_C G cX3_divide wsX3_divide RX3 rmX3_divide 9) (hl : G.1.2.1 = l) (h0 : oh_H) (h : oh_H) (o : Nat) (v2 : Int32) (v3 : Int32) (v4 : Int64) (v6 : Int32) : oh_J (oh_TV h0 0 0 none G) (f_X3_divide_68 h o v2 v3 v4 v6) (oh_V G 0 0 h 68 [(0, xr (some o)), (2, xi v2), (3, xi v3), (4, xl v4), (6, xi v6)] []) := by
  unfold f_X3_divide_68
  exact oj_loop (P := pv_X3_divide_68 G o v2 v4) (fun s => wb_X3_divide_68 C hl h0 s.1 o v2 s.2.1 v4 s.2.2) 1000000 (h, v3, v6)
set_option maxHeartbeats 4000000 in
set_option maxRecDepth 100000 in
theorem wb_X3_divide_35 {G : oh_G} {l : Launch} (C : oh_C G cX3_divide wsX3_divide RX3 rmX3_divide 9) (hl : G.1.2.1 = l) (h0 : oh_H) (h : oh_H) (o : Nat) (v2 : Int32) (v3 : Int32) (v4 : Int64) (v6 : Int32) : oh_J (oh_TL (pv_X3_divide_35 G o v2 v3) (oh_TV h0 0 0 none G)) (b_X3_divide_35 h o v2 v3 v4 v6) (oh_V G 0 0 h 35 [(0, xr (some o)), (2, xi v2), (3, xi v3), (4, xl v4), (6, xi v6)] []) := by
  unfold b_X3_divide_35
  refine or_iload C 4 rfl dX3_divide_35 ?_
  refine or_aload_n C 0 rfl dX3_divide_37 ?_
  refine or_getI C 3 3 rfl (by decide) rfl (by decide) u_X3_divide_3 (by decide) k_X3_divide_f21 (by decide +kernel) dX3_divide_38 (fun x1 => ?_)
  refine or_icmp_ge C 65 dX3_divide_41 (by decide) ?_ ?_
  · refine oj_inr ?_
    refine or_iconst C (v := (0 : Int32)) dX3_divide_65 (by decide) ?_
    refine or_istore C (fun x2 => [(6, xi x2), (0, xr (some o)), (2, xi v2), (3, xi v3), (4, xl v4)]) (fun _ => rfl) (by decide) dX3_divide_66 (fun x2 => ?_)
    refine or_sub [1, 2, 3, 4, 0] rfl ?_
    exact w_X3_divide_68 C hl h0 h o v2 v3 v4 x2
  · refine or_lload C 3 rfl dX3_divide_44 ?_
    refine or_aload_n C 0 rfl dX3_divide_46 ?_
    refine or_getR C 3 1 rfl (by decide) rfl (by decide) u_X3_divide_3 (by decide) k_X3_divide_f11 (by decide +kernel) dX3_divide_47 (fun x3 => ?_)
    refine or_iload C 4 rfl dX3_divide_50 ?_
    refine or_aald C 4 (fun _ => rfl) (by decide) rfl dX3_divide_52 (fun x4 => ?_)
    refine oj_rc (fun o5 e7 q6 => ?_)
    refine oj_bind (fun p8 z9 => ?_)
    refine oj_v (P := oh_V G 0 0 h 56 [(0, xr (some o)), (2, xi v2), (3, xi v3), (4, xl v4), (6, xi v6)] [xl p8, xl v4]) (fun k => or_callV C 0 hl (m_X2_oil _ h o5 p8 z9) gX3_divide_X2_oil rfl rfl rfl (by decide +kernel) ⟨Nat.le_of_ble_eq_true rfl, Nat.le_of_ble_eq_true rfl⟩ q6 rfl (by decide) (Nat.le_of_ble_eq_true rfl) dX3_divide_53 ⟨Nat.le_of_ble_eq_true rfl, Nat.le_of_ble_eq_true rfl⟩ rfl (by rw [e7]; rfl) k) ?_
    refine or_ladd C dX3_divide_56 ?_
    refine or_lstore C (fun x10 => [(4, xl x10), (0, xr (some o)), (2, xi v2), (3, xi v3), (6, xi v6)]) (fun _ => rfl) (by decide) dX3_divide_57 (fun x10 => ?_)
    refine or_iinc C (y := (1 : Int32)) 4 rfl (by decide) (fun x11 => [(6, xi x11), (4, xl x10), (0, xr (some o)), (2, xi v2), (3, xi v3)]) (fun _ => rfl) (by decide) dX3_divide_59 (fun x11 => ?_)
    refine or_goto C 35 dX3_divide_62 (by decide) ?_
    refine or_sub [2, 3, 4, 1, 0] rfl ?_
    exact oj_back (P := pv_X3_divide_35 G o v2 v3) (s := (h, x10, x11))
theorem w_X3_divide_35 {G : oh_G} {l : Launch} (C : oh_C G cX3_divide wsX3_divide RX3 rmX3_divide 9) (hl : G.1.2.1 = l) (h0 : oh_H) (h : oh_H) (o : Nat) (v2 : Int32) (v3 : Int32) (v4 : Int64) (v6 : Int32) : oh_J (oh_TV h0 0 0 none G) (f_X3_divide_35 h o v2 v3 v4 v6) (oh_V G 0 0 h 35 [(0, xr (some o)), (2, xi v2), (3, xi v3), (4, xl v4), (6, xi v6)] []) := by
  unfold f_X3_divide_35
  exact oj_loop (P := pv_X3_divide_35 G o v2 v3) (fun s => wb_X3_divide_35 C hl h0 s.1 o v2 v3 s.2.1 s.2.2) 1000000 (h, v4, v6)
set_option maxHeartbeats 4000000 in
set_option maxRecDepth 100000 in
theorem w_X3_divide_0 {G : oh_G} {l : Launch} (C : oh_C G cX3_divide wsX3_divide RX3 rmX3_divide 9) (hl : G.1.2.1 = l) (h0 : oh_H) (h : oh_H) (o : Nat) (v1 : Int32) : oh_J (oh_TV h0 0 0 none G) (f_X3_divide h o v1) (oh_V G 0 0 h 0 [(0, xr (some o)), (1, xi v1)] []) := by
  unfold f_X3_divide
  refine or_aload_n C 0 rfl dX3_divide_0 ?_
  refine or_aload_n C 0 rfl dX3_divide_1 ?_
  refine or_getI C 3 12 rfl (by decide) rfl (by decide) u_X3_divide_3 (by decide) k_X3_divide_f50 (by decide +kernel) dX3_divide_2 (fun x1 => ?_)
  refine or_i2l C dX3_divide_5 ?_
  refine or_iload_n C 1 rfl dX3_divide_6 ?_
  refine or_i2l C dX3_divide_7 ?_
  refine or_lmul C dX3_divide_8 ?_
  refine or_ldc2 C (v := (100 : Int64)) k_X3_divide_c112 dX3_divide_9 ?_
  refine or_ldiv C dX3_divide_12 ?_
  refine or_l2i C dX3_divide_13 ?_
  refine or_putI C 3 13 rfl (by decide) rfl (by decide) u_X3_divide_3 tyX3 tyX3_ok nmX3 (by decide) k_X3_divide_f53 (Or.inl rfl) (by decide +kernel) rfl dX3_divide_14 (fun h2 => ?_)
  refine or_aload_n C 0 rfl dX3_divide_17 ?_
  refine or_getI C 3 12 rfl (by decide) rfl (by decide) u_X3_divide_3 (by decide) k_X3_divide_f50 (by decide +kernel) dX3_divide_18 (fun x3 => ?_)
  refine or_aload_n C 0 rfl dX3_divide_21 ?_
  refine or_getI C 3 13 rfl (by decide) rfl (by decide) u_X3_divide_3 (by decide) k_X3_divide_f53 (by decide +kernel) dX3_divide_22 (fun x4 => ?_)
  refine or_isub C dX3_divide_25 ?_
  refine or_istore_n C (fun x5 => [(2, xi x5), (0, xr (some o)), (1, xi v1)]) (fun _ => rfl) (by decide) dX3_divide_26 (fun x5 => ?_)
  refine or_iload_n C 0 rfl dX3_divide_27 ?_
  refine or_istore_n C (fun x6 => [(3, xi x6), (2, xi x5), (0, xr (some o)), (1, xi v1)]) (fun _ => rfl) (by decide) dX3_divide_28 (fun x6 => ?_)
  refine or_lconst C (v := (0 : Int64)) dX3_divide_29 rfl ?_
  refine or_lstore C (fun x7 => [(4, xl x7), (3, xi x6), (2, xi x5), (0, xr (some o)), (1, xi v1)]) (fun _ => rfl) (by decide) dX3_divide_30 (fun x7 => ?_)
  refine or_iconst C (v := (0 : Int32)) dX3_divide_32 (by decide) ?_
  refine or_istore C (fun x8 => [(6, xi x8), (4, xl x7), (3, xi x6), (2, xi x5), (0, xr (some o)), (1, xi v1)]) (fun _ => rfl) (by decide) dX3_divide_33 (fun x8 => ?_)
  refine or_sub [4, 3, 2, 1, 0] rfl ?_
  exact w_X3_divide_35 C hl h0 h2 o x5 x6 x7 x8
theorem m_X3_divide (l : Launch) (h : oh_H) (o : Nat) (v1 : Int32) (p : oh_H) (hf : f_X3_divide h o v1 = some p) : oh_M l yX3_divide wsX3_divide rmX3_divide 0 0 [xr (some o), xi v1] h none p :=
  oh_met (cc := cX3_divide) (maxL := 9) (ret := none) (by decide) rfl (Nat.le_of_ble_eq_true rfl) (fun G C hl hN E => w_X3_divide_0 C hl h h o v1 p hf E)
/-! X3_emptyTo -/
theorem k_X3_emptyTo_f21 : Cond.fieldLink RX3 21 "OilPress$Mill" "size" "I" ∈ wsX3_emptyTo := List.mem_of_getElem? (i := 1) (by decide +kernel)
theorem u_X3_emptyTo_3 : ∀ w ∈ u_ws RX3 TX3 14, w ∈ wsX3_emptyTo := fun w h => List.mem_cons_of_mem _ (List.mem_append_left _ (List.mem_append_right _ (h)))
theorem k_X3_emptyTo_f41 : Cond.fieldLink RX3 41 "OilPress$Mill" "isPressing" "Z" ∈ wsX3_emptyTo := List.mem_of_getElem? (i := 7) (by decide +kernel)
theorem k_X3_emptyTo_f44 : Cond.fieldLink RX3 44 "OilPress$Mill" "promised" "I" ∈ wsX3_emptyTo := List.mem_of_getElem? (i := 8) (by decide +kernel)
theorem k_X3_emptyTo_f47 : Cond.fieldLink RX3 47 "OilPress$Mill" "sourness" "I" ∈ wsX3_emptyTo := List.mem_of_getElem? (i := 9) (by decide +kernel)
theorem k_X3_emptyTo_f50 : Cond.fieldLink RX3 50 "OilPress$Mill" "given" "I" ∈ wsX3_emptyTo := List.mem_of_getElem? (i := 10) (by decide +kernel)
theorem k_X3_emptyTo_f53 : Cond.fieldLink RX3 53 "OilPress$Mill" "kept" "I" ∈ wsX3_emptyTo := List.mem_of_getElem? (i := 11) (by decide +kernel)
theorem k_X3_emptyTo_f11 : Cond.fieldLink RX3 11 "OilPress$Mill" "bin" "[LOilPress$Lot;" ∈ wsX3_emptyTo := List.mem_of_getElem? (i := 2) (by decide +kernel)
theorem k_X3_emptyTo_f80 : Cond.fieldLink RX3 80 "OilPress$Lot" "state" "I" ∈ wsX3_emptyTo := List.mem_of_getElem? (i := 3) (by decide +kernel)
theorem u_X3_emptyTo_2 : ∀ w ∈ u_ws RX2 TX2 12, w ∈ wsX3_emptyTo := fun w h => List.mem_cons_of_mem _ (List.mem_append_right _ (h))
theorem k_X3_emptyTo_f114 : Cond.fieldLink RX3 114 "OilPress$Lot" "share" "I" ∈ wsX3_emptyTo := List.mem_of_getElem? (i := 4) (by decide +kernel)
theorem k_X3_emptyTo_f123 : Cond.fieldLink RX3 123 "OilPress$Lot" "left" "I" ∈ wsX3_emptyTo := List.mem_of_getElem? (i := 5) (by decide +kernel)
theorem k_X3_emptyTo_f83 : Cond.fieldLink RX3 83 "OilPress$Lot" "place" "I" ∈ wsX3_emptyTo := List.mem_of_getElem? (i := 6) (by decide +kernel)
abbrev rmX3_emptyTo : Room := { frames := 0, cells := 0, slots := 0, locals := 0 }
abbrev pv_X3_emptyTo_2 (G : oh_G) (o : Nat) (v1 : Int32) : (oh_H × Int32) → Prop := fun s => oh_V G 0 0 s.1 2 [(0, xr (some o)), (1, xi v1), (2, xi s.2)] []
def b_X3_emptyTo_2 (h : oh_H) (o : Nat) (v1 : Int32) (v2 : Int32) : Option ((oh_H × Int32) ⊕ (oh_H)) :=
  (oh_gI h (some o) 195).bind fun x1 => if x1 ≤ v2 then (Option.map Sum.inr ((oh_pI h (some o) 195 (0 : Int32)).bind fun h2 => oh_bz (0 : Int32) ((oh_pI h2 (some o) 201 (0 : Int32)).bind fun h3 => (oh_pI h3 (some o) 202 (0 : Int32)).bind fun h4 => (oh_pI h4 (some o) 203 (0 : Int32)).bind fun h5 => (oh_pI h5 (some o) 204 (-1 : Int32)).bind fun h6 => (oh_pI h6 (some o) 205 (-1 : Int32)).bind fun h7 => some h7))) else ((oh_gR h (some o) 193).bind fun x8 => (oh_aR h x8 24 v2).bind fun x9 => (oh_pI h x9 132 (6 : Int32)).bind fun h10 => (oh_gR h10 (some o) 193).bind fun x11 => (oh_aR h10 x11 24 v2).bind fun x12 => (oh_gR h10 (some o) 193).bind fun x13 => (oh_aR h10 x13 24 v2).bind fun x14 => (oh_gI h10 x14 136).bind fun x15 => (oh_pI h10 x12 137 x15).bind fun h16 => (oh_gR h16 (some o) 193).bind fun x17 => (oh_aR h16 x17 24 v2).bind fun x18 => (oh_pI h16 x18 138 v1).bind fun h19 => oh_lt (v2 + (1 : Int32)) fun x20 => some (Sum.inl (h19, x20)))
def f_X3_emptyTo_2 (h : oh_H) (o : Nat) (v1 : Int32) (v2 : Int32) : Option (oh_H) := oh_loop (fun s : oh_H × Int32 => b_X3_emptyTo_2 s.1 o v1 s.2) 1000000 (h, v2)
def f_X3_emptyTo (h : oh_H) (o : Nat) (v1 : Int32) : Option (oh_H) :=
  oh_lt (0 : Int32) fun x1 => f_X3_emptyTo_2 h o v1 x1
set_option maxHeartbeats 4000000 in
set_option maxRecDepth 100000 in
theorem wb_X3_emptyTo_2 {G : oh_G} {l : Launch} (C : oh_C G cX3_emptyTo wsX3_emptyTo RX3 rmX3_emptyTo 3) (hl : G.1.2.1 = l) (h0 : oh_H) (h : oh_H) (o : Nat) (v1 : Int32) (v2 : Int32) : oh_J (oh_TL (pv_X3_emptyTo_2 G o v1) (oh_TV h0 0 0 none G)) (b_X3_emptyTo_2 h o v1 v2) (oh_V G 0 0 h 2 [(0, xr (some o)), (1, xi v1), (2, xi v2)] []) := by
  unfold b_X3_emptyTo_2
  refine or_iload_n C 2 rfl dX3_emptyTo_2 ?_
  refine or_aload_n C 0 rfl dX3_emptyTo_3 ?_
  refine or_getI C 3 3 rfl (by decide) rfl (by decide) u_X3_emptyTo_3 (by decide) k_X3_emptyTo_f21 (by decide +kernel) dX3_emptyTo_4 (fun x1 => ?_)
  refine or_icmp_ge C 55 dX3_emptyTo_7 (by decide) ?_ ?_
  · refine oj_inr ?_
    refine or_aload_n C 0 rfl dX3_emptyTo_55 ?_
    refine or_iconst C (v := (0 : Int32)) dX3_emptyTo_56 (by decide) ?_
    refine or_putI C 3 3 rfl (by decide) rfl (by decide) u_X3_emptyTo_3 tyX3 tyX3_ok nmX3 (by decide) k_X3_emptyTo_f21 (Or.inl rfl) (by decide +kernel) rfl dX3_emptyTo_57 (fun h2 => ?_)
    refine or_aload_n C 0 rfl dX3_emptyTo_60 ?_
    refine or_iconst C (v := (0 : Int32)) dX3_emptyTo_61 (by decide) ?_
    refine or_putZ C 3 9 rfl (by decide) rfl (by decide) u_X3_emptyTo_3 tyX3 tyX3_ok nmX3 (by decide) k_X3_emptyTo_f41 (Or.inl rfl) (by decide +kernel) rfl dX3_emptyTo_62 (fun h3 => ?_)
    refine or_aload_n C 0 rfl dX3_emptyTo_65 ?_
    refine or_iconst C (v := (0 : Int32)) dX3_emptyTo_66 (by decide) ?_
    refine or_putI C 3 10 rfl (by decide) rfl (by decide) u_X3_emptyTo_3 tyX3 tyX3_ok nmX3 (by decide) k_X3_emptyTo_f44 (Or.inl rfl) (by decide +kernel) rfl dX3_emptyTo_67 (fun h4 => ?_)
    refine or_aload_n C 0 rfl dX3_emptyTo_70 ?_
    refine or_iconst C (v := (0 : Int32)) dX3_emptyTo_71 (by decide) ?_
    refine or_putI C 3 11 rfl (by decide) rfl (by decide) u_X3_emptyTo_3 tyX3 tyX3_ok nmX3 (by decide) k_X3_emptyTo_f47 (Or.inl rfl) (by decide +kernel) rfl dX3_emptyTo_72 (fun h5 => ?_)
    refine or_aload_n C 0 rfl dX3_emptyTo_75 ?_
    refine or_iconst C (v := (-1 : Int32)) dX3_emptyTo_76 (by decide) ?_
    refine or_putI C 3 12 rfl (by decide) rfl (by decide) u_X3_emptyTo_3 tyX3 tyX3_ok nmX3 (by decide) k_X3_emptyTo_f50 (Or.inl rfl) (by decide +kernel) rfl dX3_emptyTo_77 (fun h6 => ?_)
    refine or_aload_n C 0 rfl dX3_emptyTo_80 ?_
    refine or_iconst C (v := (-1 : Int32)) dX3_emptyTo_81 (by decide) ?_
    refine or_putI C 3 13 rfl (by decide) rfl (by decide) u_X3_emptyTo_3 tyX3 tyX3_ok nmX3 (by decide) k_X3_emptyTo_f53 (Or.inl rfl) (by decide +kernel) rfl dX3_emptyTo_82 (fun h7 => ?_)
    exact or_vret C ⟨Nat.le_of_ble_eq_true rfl, Nat.le_of_ble_eq_true rfl⟩ dX3_emptyTo_85
  · refine or_aload_n C 0 rfl dX3_emptyTo_10 ?_
    refine or_getR C 3 1 rfl (by decide) rfl (by decide) u_X3_emptyTo_3 (by decide) k_X3_emptyTo_f11 (by decide +kernel) dX3_emptyTo_11 (fun x8 => ?_)
    refine or_iload_n C 2 rfl dX3_emptyTo_14 ?_
    refine or_aald C 4 (fun _ => rfl) (by decide) rfl dX3_emptyTo_15 (fun x9 => ?_)
    refine or_bipush C (v := (6 : Int32)) dX3_emptyTo_16 (by decide) ?_
    refine or_putI C 2 4 rfl (by decide) rfl (by decide) u_X3_emptyTo_2 tyX2 tyX2_ok nmX2 (by decide) k_X3_emptyTo_f80 (Or.inl rfl) (by decide +kernel) rfl dX3_emptyTo_18 (fun h10 => ?_)
    refine or_aload_n C 0 rfl dX3_emptyTo_21 ?_
    refine or_getR C 3 1 rfl (by decide) rfl (by decide) u_X3_emptyTo_3 (by decide) k_X3_emptyTo_f11 (by decide +kernel) dX3_emptyTo_22 (fun x11 => ?_)
    refine or_iload_n C 2 rfl dX3_emptyTo_25 ?_
    refine or_aald C 4 (fun _ => rfl) (by decide) rfl dX3_emptyTo_26 (fun x12 => ?_)
    refine or_aload_n C 0 rfl dX3_emptyTo_27 ?_
    refine or_getR C 3 1 rfl (by decide) rfl (by decide) u_X3_emptyTo_3 (by decide) k_X3_emptyTo_f11 (by decide +kernel) dX3_emptyTo_28 (fun x13 => ?_)
    refine or_iload_n C 2 rfl dX3_emptyTo_31 ?_
    refine or_aald C 4 (fun _ => rfl) (by decide) rfl dX3_emptyTo_32 (fun x14 => ?_)
    refine or_getI C 2 8 rfl (by decide) rfl (by decide) u_X3_emptyTo_2 (by decide) k_X3_emptyTo_f114 (by decide +kernel) dX3_emptyTo_33 (fun x15 => ?_)
    refine or_putI C 2 9 rfl (by decide) rfl (by decide) u_X3_emptyTo_2 tyX2 tyX2_ok nmX2 (by decide) k_X3_emptyTo_f123 (Or.inl rfl) (by decide +kernel) rfl dX3_emptyTo_36 (fun h16 => ?_)
    refine or_aload_n C 0 rfl dX3_emptyTo_39 ?_
    refine or_getR C 3 1 rfl (by decide) rfl (by decide) u_X3_emptyTo_3 (by decide) k_X3_emptyTo_f11 (by decide +kernel) dX3_emptyTo_40 (fun x17 => ?_)
    refine or_iload_n C 2 rfl dX3_emptyTo_43 ?_
    refine or_aald C 4 (fun _ => rfl) (by decide) rfl dX3_emptyTo_44 (fun x18 => ?_)
    refine or_iload_n C 1 rfl dX3_emptyTo_45 ?_
    refine or_putI C 2 10 rfl (by decide) rfl (by decide) u_X3_emptyTo_2 tyX2 tyX2_ok nmX2 (by decide) k_X3_emptyTo_f83 (Or.inl rfl) (by decide +kernel) rfl dX3_emptyTo_46 (fun h19 => ?_)
    refine or_iinc C (y := (1 : Int32)) 2 rfl (by decide) (fun x20 => [(2, xi x20), (0, xr (some o)), (1, xi v1)]) (fun _ => rfl) (by decide) dX3_emptyTo_49 (fun x20 => ?_)
    refine or_goto C 2 dX3_emptyTo_52 (by decide) ?_
    refine or_sub [1, 2, 0] rfl ?_
    exact oj_back (P := pv_X3_emptyTo_2 G o v1) (s := (h19, x20))
theorem w_X3_emptyTo_2 {G : oh_G} {l : Launch} (C : oh_C G cX3_emptyTo wsX3_emptyTo RX3 rmX3_emptyTo 3) (hl : G.1.2.1 = l) (h0 : oh_H) (h : oh_H) (o : Nat) (v1 : Int32) (v2 : Int32) : oh_J (oh_TV h0 0 0 none G) (f_X3_emptyTo_2 h o v1 v2) (oh_V G 0 0 h 2 [(0, xr (some o)), (1, xi v1), (2, xi v2)] []) := by
  unfold f_X3_emptyTo_2
  exact oj_loop (P := pv_X3_emptyTo_2 G o v1) (fun s => wb_X3_emptyTo_2 C hl h0 s.1 o v1 s.2) 1000000 (h, v2)
set_option maxHeartbeats 4000000 in
set_option maxRecDepth 100000 in
theorem w_X3_emptyTo_0 {G : oh_G} {l : Launch} (C : oh_C G cX3_emptyTo wsX3_emptyTo RX3 rmX3_emptyTo 3) (hl : G.1.2.1 = l) (h0 : oh_H) (h : oh_H) (o : Nat) (v1 : Int32) : oh_J (oh_TV h0 0 0 none G) (f_X3_emptyTo h o v1) (oh_V G 0 0 h 0 [(0, xr (some o)), (1, xi v1)] []) := by
  unfold f_X3_emptyTo
  refine or_iconst C (v := (0 : Int32)) dX3_emptyTo_0 (by decide) ?_
  refine or_istore_n C (fun x1 => [(2, xi x1), (0, xr (some o)), (1, xi v1)]) (fun _ => rfl) (by decide) dX3_emptyTo_1 (fun x1 => ?_)
  refine or_sub [1, 2, 0] rfl ?_
  exact w_X3_emptyTo_2 C hl h0 h o v1 x1
theorem m_X3_emptyTo (l : Launch) (h : oh_H) (o : Nat) (v1 : Int32) (p : oh_H) (hf : f_X3_emptyTo h o v1 = some p) : oh_M l yX3_emptyTo wsX3_emptyTo rmX3_emptyTo 0 0 [xr (some o), xi v1] h none p :=
  oh_met (cc := cX3_emptyTo) (maxL := 3) (ret := none) (by decide) rfl (Nat.le_of_ble_eq_true rfl) (fun G C hl hN E => w_X3_emptyTo_0 C hl h h o v1 p hf E)
/-! X4_init -/
theorem k_X4_init_ol3 : Cond.methodLink RX4 3 objectInit ∈ wsX4_init := List.mem_of_getElem? (i := 1) (by decide +kernel)
theorem k_X4_init_oi : Cond.instanceMethod objectInit ∈ wsX4_init := List.mem_of_getElem? (i := 2) (by decide +kernel)
theorem k_X4_init_oc : Cond.code objectInit ⟨#[0xb1]⟩ 1 none ∈ wsX4_init := List.mem_of_getElem? (i := 3) (by decide +kernel)
theorem k_X4_init_ac20 : Cond.arrayClass .int ∈ wsX4_init := List.mem_of_getElem? (i := 4) (by decide +kernel)
theorem k_X4_init_f9 : Cond.fieldLink RX4 9 "OilPress$Planner" "numbers" "[I" ∈ wsX4_init := List.mem_of_getElem? (i := 5) (by decide +kernel)
theorem u_X4_init_4 : ∀ w ∈ u_ws RX4 TX4 15, w ∈ wsX4_init := fun w h => List.mem_cons_of_mem _ (List.mem_append_right _ (h))
theorem k_X4_init_f15 : Cond.fieldLink RX4 15 "OilPress$Planner" "likes" "[I" ∈ wsX4_init := List.mem_of_getElem? (i := 6) (by decide +kernel)
theorem k_X4_init_f18 : Cond.fieldLink RX4 18 "OilPress$Planner" "hours" "[I" ∈ wsX4_init := List.mem_of_getElem? (i := 7) (by decide +kernel)
theorem k_X4_init_f21 : Cond.fieldLink RX4 21 "OilPress$Planner" "lateHours" "[I" ∈ wsX4_init := List.mem_of_getElem? (i := 8) (by decide +kernel)
theorem k_X4_init_f24 : Cond.fieldLink RX4 24 "OilPress$Planner" "hoursOf" "[I" ∈ wsX4_init := List.mem_of_getElem? (i := 9) (by decide +kernel)
theorem k_X4_init_f27 : Cond.fieldLink RX4 27 "OilPress$Planner" "cleanOf" "[I" ∈ wsX4_init := List.mem_of_getElem? (i := 10) (by decide +kernel)
theorem k_X4_init_f30 : Cond.fieldLink RX4 30 "OilPress$Planner" "best" "[I" ∈ wsX4_init := List.mem_of_getElem? (i := 11) (by decide +kernel)
theorem k_X4_init_f33 : Cond.fieldLink RX4 33 "OilPress$Planner" "beginning" "I" ∈ wsX4_init := List.mem_of_getElem? (i := 12) (by decide +kernel)
theorem k_X4_init_f37 : Cond.fieldLink RX4 37 "OilPress$Planner" "isWashed" "Z" ∈ wsX4_init := List.mem_of_getElem? (i := 13) (by decide +kernel)
theorem k_X4_init_f41 : Cond.fieldLink RX4 41 "OilPress$Planner" "millLike" "I" ∈ wsX4_init := List.mem_of_getElem? (i := 14) (by decide +kernel)
theorem k_X4_init_f44 : Cond.fieldLink RX4 44 "OilPress$Planner" "order" "[I" ∈ wsX4_init := List.mem_of_getElem? (i := 15) (by decide +kernel)
theorem k_X4_init_f47 : Cond.fieldLink RX4 47 "OilPress$Planner" "size" "I" ∈ wsX4_init := List.mem_of_getElem? (i := 16) (by decide +kernel)
theorem k_X4_init_f50 : Cond.fieldLink RX4 50 "OilPress$Planner" "tooLate" "I" ∈ wsX4_init := List.mem_of_getElem? (i := 17) (by decide +kernel)
theorem k_X4_init_f53 : Cond.fieldLink RX4 53 "OilPress$Planner" "end" "I" ∈ wsX4_init := List.mem_of_getElem? (i := 18) (by decide +kernel)
theorem k_X4_init_f56 : Cond.fieldLink RX4 56 "OilPress$Planner" "isMade" "Z" ∈ wsX4_init := List.mem_of_getElem? (i := 19) (by decide +kernel)
abbrev rmX4_init : Room := { frames := 1, cells := 8, slots := 18984, locals := 20 }
def f_X4_init (h : oh_H) (o : Nat) : Option (oh_H) :=
  oh_newa h 20 8 fun a2 h1 => (oh_pR h1 (some o) 256 (some a2)).bind fun h3 => oh_newa h3 20 8 fun a5 h4 => (oh_pR h4 (some o) 257 (some a5)).bind fun h6 => oh_newa h6 20 8 fun a8 h7 => (oh_pR h7 (some o) 258 (some a8)).bind fun h9 => oh_newa h9 20 8 fun a11 h10 => (oh_pR h10 (some o) 259 (some a11)).bind fun h12 => oh_newa h12 20 256 fun a14 h13 => (oh_pR h13 (some o) 260 (some a14)).bind fun h15 => oh_newa h15 20 256 fun a17 h16 => (oh_pR h16 (some o) 261 (some a17)).bind fun h18 => oh_newa h18 20 18432 fun a20 h19 => (oh_pR h19 (some o) 262 (some a20)).bind fun h21 => (oh_pI h21 (some o) 263 (0 : Int32)).bind fun h22 => oh_bz (0 : Int32) ((oh_pI h22 (some o) 264 (0 : Int32)).bind fun h23 => (oh_pI h23 (some o) 265 (-1 : Int32)).bind fun h24 => oh_newa h24 20 8 fun a26 h25 => (oh_pR h25 (some o) 266 (some a26)).bind fun h27 => (oh_pI h27 (some o) 267 (0 : Int32)).bind fun h28 => (oh_pI h28 (some o) 268 (0 : Int32)).bind fun h29 => (oh_pI h29 (some o) 269 (0 : Int32)).bind fun h30 => oh_bz (0 : Int32) ((oh_pI h30 (some o) 270 (0 : Int32)).bind fun h31 => some h31))
set_option maxHeartbeats 4000000 in
set_option maxRecDepth 100000 in
theorem w_X4_init_0 {G : oh_G} {l : Launch} (C : oh_C G cX4_init wsX4_init RX4 rmX4_init 1) (hl : G.1.2.1 = l) (hN : G.2.1.2.2.2.1.name = "<init>") (h0 : oh_H) (h : oh_H) (o : Nat) : oh_J (oh_TV h0 8 18984 none G) (f_X4_init h o) (oh_V G 0 0 h 0 [(0, xr (some o))] []) := by
  unfold f_X4_init
  refine or_aload_n C 0 rfl dX4_init_0 ?_
  refine or_objinit C k_X4_init_ol3 k_X4_init_oi k_X4_init_oc (Nat.le_of_ble_eq_true rfl) (Nat.le_of_ble_eq_true rfl) dX4_init_1 ?_
  refine or_aload_n C 0 rfl dX4_init_4 ?_
  refine or_bipush C (v := (8 : Int32)) dX4_init_5 (by decide) ?_
  refine or_newa (atype := .int) (ty := .int) (n := (8 : Int32)) (N := 8) (cells := 0) (slots := 0) C 0 rfl (fun _ => rfl) (by decide) k_X4_init_ac20 (fun _ _ z => z) rfl rfl (by decide) rfl (Nat.le_of_ble_eq_true rfl) ⟨Nat.le_of_ble_eq_true rfl, Nat.le_of_ble_eq_true rfl⟩ dX4_init_7 (fun a2 h1 => ?_)
  refine or_putR C 4 0 rfl (by decide) rfl (by decide) u_X4_init_4 tyX4 tyX4_ok nmX4 (by decide) k_X4_init_f9 (Or.inr ⟨rfl, hN, rfl⟩) (by decide +kernel) (fun v => by cases v <;> exact ⟨rfl, rfl⟩) dX4_init_9 (fun h3 => ?_)
  refine or_aload_n C 0 rfl dX4_init_12 ?_
  refine or_bipush C (v := (8 : Int32)) dX4_init_13 (by decide) ?_
  refine or_newa (atype := .int) (ty := .int) (n := (8 : Int32)) (N := 8) (cells := 1) (slots := 8) C 0 rfl (fun _ => rfl) (by decide) k_X4_init_ac20 (fun _ _ z => z) rfl rfl (by decide) rfl (Nat.le_of_ble_eq_true rfl) ⟨Nat.le_of_ble_eq_true rfl, Nat.le_of_ble_eq_true rfl⟩ dX4_init_15 (fun a5 h4 => ?_)
  refine or_putR C 4 1 rfl (by decide) rfl (by decide) u_X4_init_4 tyX4 tyX4_ok nmX4 (by decide) k_X4_init_f15 (Or.inr ⟨rfl, hN, rfl⟩) (by decide +kernel) (fun v => by cases v <;> exact ⟨rfl, rfl⟩) dX4_init_17 (fun h6 => ?_)
  refine or_aload_n C 0 rfl dX4_init_20 ?_
  refine or_bipush C (v := (8 : Int32)) dX4_init_21 (by decide) ?_
  refine or_newa (atype := .int) (ty := .int) (n := (8 : Int32)) (N := 8) (cells := 2) (slots := 16) C 0 rfl (fun _ => rfl) (by decide) k_X4_init_ac20 (fun _ _ z => z) rfl rfl (by decide) rfl (Nat.le_of_ble_eq_true rfl) ⟨Nat.le_of_ble_eq_true rfl, Nat.le_of_ble_eq_true rfl⟩ dX4_init_23 (fun a8 h7 => ?_)
  refine or_putR C 4 2 rfl (by decide) rfl (by decide) u_X4_init_4 tyX4 tyX4_ok nmX4 (by decide) k_X4_init_f18 (Or.inr ⟨rfl, hN, rfl⟩) (by decide +kernel) (fun v => by cases v <;> exact ⟨rfl, rfl⟩) dX4_init_25 (fun h9 => ?_)
  refine or_aload_n C 0 rfl dX4_init_28 ?_
  refine or_bipush C (v := (8 : Int32)) dX4_init_29 (by decide) ?_
  refine or_newa (atype := .int) (ty := .int) (n := (8 : Int32)) (N := 8) (cells := 3) (slots := 24) C 0 rfl (fun _ => rfl) (by decide) k_X4_init_ac20 (fun _ _ z => z) rfl rfl (by decide) rfl (Nat.le_of_ble_eq_true rfl) ⟨Nat.le_of_ble_eq_true rfl, Nat.le_of_ble_eq_true rfl⟩ dX4_init_31 (fun a11 h10 => ?_)
  refine or_putR C 4 3 rfl (by decide) rfl (by decide) u_X4_init_4 tyX4 tyX4_ok nmX4 (by decide) k_X4_init_f21 (Or.inr ⟨rfl, hN, rfl⟩) (by decide +kernel) (fun v => by cases v <;> exact ⟨rfl, rfl⟩) dX4_init_33 (fun h12 => ?_)
  refine or_aload_n C 0 rfl dX4_init_36 ?_
  refine or_sipush C (v := (256 : Int32)) dX4_init_37 (by decide) ?_
  refine or_newa (atype := .int) (ty := .int) (n := (256 : Int32)) (N := 256) (cells := 4) (slots := 32) C 0 rfl (fun _ => rfl) (by decide) k_X4_init_ac20 (fun _ _ z => z) rfl rfl (by decide) rfl (Nat.le_of_ble_eq_true rfl) ⟨Nat.le_of_ble_eq_true rfl, Nat.le_of_ble_eq_true rfl⟩ dX4_init_40 (fun a14 h13 => ?_)
  refine or_putR C 4 4 rfl (by decide) rfl (by decide) u_X4_init_4 tyX4 tyX4_ok nmX4 (by decide) k_X4_init_f24 (Or.inr ⟨rfl, hN, rfl⟩) (by decide +kernel) (fun v => by cases v <;> exact ⟨rfl, rfl⟩) dX4_init_42 (fun h15 => ?_)
  refine or_aload_n C 0 rfl dX4_init_45 ?_
  refine or_sipush C (v := (256 : Int32)) dX4_init_46 (by decide) ?_
  refine or_newa (atype := .int) (ty := .int) (n := (256 : Int32)) (N := 256) (cells := 5) (slots := 288) C 0 rfl (fun _ => rfl) (by decide) k_X4_init_ac20 (fun _ _ z => z) rfl rfl (by decide) rfl (Nat.le_of_ble_eq_true rfl) ⟨Nat.le_of_ble_eq_true rfl, Nat.le_of_ble_eq_true rfl⟩ dX4_init_49 (fun a17 h16 => ?_)
  refine or_putR C 4 5 rfl (by decide) rfl (by decide) u_X4_init_4 tyX4 tyX4_ok nmX4 (by decide) k_X4_init_f27 (Or.inr ⟨rfl, hN, rfl⟩) (by decide +kernel) (fun v => by cases v <;> exact ⟨rfl, rfl⟩) dX4_init_51 (fun h18 => ?_)
  refine or_aload_n C 0 rfl dX4_init_54 ?_
  refine or_sipush C (v := (18432 : Int32)) dX4_init_55 (by decide) ?_
  refine or_newa (atype := .int) (ty := .int) (n := (18432 : Int32)) (N := 18432) (cells := 6) (slots := 544) C 0 rfl (fun _ => rfl) (by decide) k_X4_init_ac20 (fun _ _ z => z) rfl rfl (by decide) rfl (Nat.le_of_ble_eq_true rfl) ⟨Nat.le_of_ble_eq_true rfl, Nat.le_of_ble_eq_true rfl⟩ dX4_init_58 (fun a20 h19 => ?_)
  refine or_putR C 4 6 rfl (by decide) rfl (by decide) u_X4_init_4 tyX4 tyX4_ok nmX4 (by decide) k_X4_init_f30 (Or.inr ⟨rfl, hN, rfl⟩) (by decide +kernel) (fun v => by cases v <;> exact ⟨rfl, rfl⟩) dX4_init_60 (fun h21 => ?_)
  refine or_aload_n C 0 rfl dX4_init_63 ?_
  refine or_iconst C (v := (0 : Int32)) dX4_init_64 (by decide) ?_
  refine or_putI C 4 7 rfl (by decide) rfl (by decide) u_X4_init_4 tyX4 tyX4_ok nmX4 (by decide) k_X4_init_f33 (Or.inl rfl) (by decide +kernel) rfl dX4_init_65 (fun h22 => ?_)
  refine or_aload_n C 0 rfl dX4_init_68 ?_
  refine or_iconst C (v := (0 : Int32)) dX4_init_69 (by decide) ?_
  refine or_putZ C 4 8 rfl (by decide) rfl (by decide) u_X4_init_4 tyX4 tyX4_ok nmX4 (by decide) k_X4_init_f37 (Or.inl rfl) (by decide +kernel) rfl dX4_init_70 (fun h23 => ?_)
  refine or_aload_n C 0 rfl dX4_init_73 ?_
  refine or_iconst C (v := (-1 : Int32)) dX4_init_74 (by decide) ?_
  refine or_putI C 4 9 rfl (by decide) rfl (by decide) u_X4_init_4 tyX4 tyX4_ok nmX4 (by decide) k_X4_init_f41 (Or.inl rfl) (by decide +kernel) rfl dX4_init_75 (fun h24 => ?_)
  refine or_aload_n C 0 rfl dX4_init_78 ?_
  refine or_bipush C (v := (8 : Int32)) dX4_init_79 (by decide) ?_
  refine or_newa (atype := .int) (ty := .int) (n := (8 : Int32)) (N := 8) (cells := 7) (slots := 18976) C 0 rfl (fun _ => rfl) (by decide) k_X4_init_ac20 (fun _ _ z => z) rfl rfl (by decide) rfl (Nat.le_of_ble_eq_true rfl) ⟨Nat.le_of_ble_eq_true rfl, Nat.le_of_ble_eq_true rfl⟩ dX4_init_81 (fun a26 h25 => ?_)
  refine or_putR C 4 10 rfl (by decide) rfl (by decide) u_X4_init_4 tyX4 tyX4_ok nmX4 (by decide) k_X4_init_f44 (Or.inr ⟨rfl, hN, rfl⟩) (by decide +kernel) (fun v => by cases v <;> exact ⟨rfl, rfl⟩) dX4_init_83 (fun h27 => ?_)
  refine or_aload_n C 0 rfl dX4_init_86 ?_
  refine or_iconst C (v := (0 : Int32)) dX4_init_87 (by decide) ?_
  refine or_putI C 4 11 rfl (by decide) rfl (by decide) u_X4_init_4 tyX4 tyX4_ok nmX4 (by decide) k_X4_init_f47 (Or.inl rfl) (by decide +kernel) rfl dX4_init_88 (fun h28 => ?_)
  refine or_aload_n C 0 rfl dX4_init_91 ?_
  refine or_iconst C (v := (0 : Int32)) dX4_init_92 (by decide) ?_
  refine or_putI C 4 12 rfl (by decide) rfl (by decide) u_X4_init_4 tyX4 tyX4_ok nmX4 (by decide) k_X4_init_f50 (Or.inl rfl) (by decide +kernel) rfl dX4_init_93 (fun h29 => ?_)
  refine or_aload_n C 0 rfl dX4_init_96 ?_
  refine or_iconst C (v := (0 : Int32)) dX4_init_97 (by decide) ?_
  refine or_putI C 4 13 rfl (by decide) rfl (by decide) u_X4_init_4 tyX4 tyX4_ok nmX4 (by decide) k_X4_init_f53 (Or.inl rfl) (by decide +kernel) rfl dX4_init_98 (fun h30 => ?_)
  refine or_aload_n C 0 rfl dX4_init_101 ?_
  refine or_iconst C (v := (0 : Int32)) dX4_init_102 (by decide) ?_
  refine or_putZ C 4 14 rfl (by decide) rfl (by decide) u_X4_init_4 tyX4 tyX4_ok nmX4 (by decide) k_X4_init_f56 (Or.inl rfl) (by decide +kernel) rfl dX4_init_103 (fun h31 => ?_)
  exact or_vret C ⟨Nat.le_of_ble_eq_true rfl, Nat.le_of_ble_eq_true rfl⟩ dX4_init_106
theorem m_X4_init (l : Launch) (h : oh_H) (o : Nat) (p : oh_H) (hf : f_X4_init h o = some p) : oh_M l yX4_init wsX4_init rmX4_init 8 18984 [xr (some o)] h none p :=
  oh_met (cc := cX4_init) (maxL := 1) (ret := none) (by decide) rfl (Nat.le_of_ble_eq_true rfl) (fun G C hl hN E => w_X4_init_0 C hl hN h h o p hf E)
/-! X4_start -/
theorem k_X4_start_f33 : Cond.fieldLink RX4 33 "OilPress$Planner" "beginning" "I" ∈ wsX4_start := List.mem_of_getElem? (i := 1) (by decide +kernel)
theorem u_X4_start_4 : ∀ w ∈ u_ws RX4 TX4 15, w ∈ wsX4_start := fun w h => List.mem_cons_of_mem _ (List.mem_append_right _ (h))
theorem k_X4_start_f37 : Cond.fieldLink RX4 37 "OilPress$Planner" "isWashed" "Z" ∈ wsX4_start := List.mem_of_getElem? (i := 2) (by decide +kernel)
theorem k_X4_start_f41 : Cond.fieldLink RX4 41 "OilPress$Planner" "millLike" "I" ∈ wsX4_start := List.mem_of_getElem? (i := 3) (by decide +kernel)
theorem k_X4_start_f47 : Cond.fieldLink RX4 47 "OilPress$Planner" "size" "I" ∈ wsX4_start := List.mem_of_getElem? (i := 4) (by decide +kernel)
theorem k_X4_start_f56 : Cond.fieldLink RX4 56 "OilPress$Planner" "isMade" "Z" ∈ wsX4_start := List.mem_of_getElem? (i := 5) (by decide +kernel)
abbrev rmX4_start : Room := { frames := 0, cells := 0, slots := 0, locals := 0 }
def f_X4_start (h : oh_H) (o : Nat) (v1 : Int32) (v2 : Int32) (v3 : Int32) : Option (oh_H) :=
  (oh_pI h (some o) 263 v1).bind fun h1 => oh_bz v2 ((oh_pI h1 (some o) 264 v2).bind fun h2 => (oh_pI h2 (some o) 265 v3).bind fun h3 => (oh_pI h3 (some o) 267 (0 : Int32)).bind fun h4 => oh_bz (1 : Int32) ((oh_pI h4 (some o) 270 (1 : Int32)).bind fun h5 => some h5))
set_option maxHeartbeats 4000000 in
set_option maxRecDepth 100000 in
theorem w_X4_start_0 {G : oh_G} {l : Launch} (C : oh_C G cX4_start wsX4_start RX4 rmX4_start 4) (hl : G.1.2.1 = l) (h0 : oh_H) (h : oh_H) (o : Nat) (v1 : Int32) (v2 : Int32) (v3 : Int32) : oh_J (oh_TV h0 0 0 none G) (f_X4_start h o v1 v2 v3) (oh_V G 0 0 h 0 [(0, xr (some o)), (1, xi v1), (2, xi v2), (3, xi v3)] []) := by
  unfold f_X4_start
  refine or_aload_n C 0 rfl dX4_start_0 ?_
  refine or_iload_n C 1 rfl dX4_start_1 ?_
  refine or_putI C 4 7 rfl (by decide) rfl (by decide) u_X4_start_4 tyX4 tyX4_ok nmX4 (by decide) k_X4_start_f33 (Or.inl rfl) (by decide +kernel) rfl dX4_start_2 (fun h1 => ?_)
  refine or_aload_n C 0 rfl dX4_start_5 ?_
  refine or_iload_n C 2 rfl dX4_start_6 ?_
  refine or_putZ C 4 8 rfl (by decide) rfl (by decide) u_X4_start_4 tyX4 tyX4_ok nmX4 (by decide) k_X4_start_f37 (Or.inl rfl) (by decide +kernel) rfl dX4_start_7 (fun h2 => ?_)
  refine or_aload_n C 0 rfl dX4_start_10 ?_
  refine or_iload_n C 3 rfl dX4_start_11 ?_
  refine or_putI C 4 9 rfl (by decide) rfl (by decide) u_X4_start_4 tyX4 tyX4_ok nmX4 (by decide) k_X4_start_f41 (Or.inl rfl) (by decide +kernel) rfl dX4_start_12 (fun h3 => ?_)
  refine or_aload_n C 0 rfl dX4_start_15 ?_
  refine or_iconst C (v := (0 : Int32)) dX4_start_16 (by decide) ?_
  refine or_putI C 4 11 rfl (by decide) rfl (by decide) u_X4_start_4 tyX4 tyX4_ok nmX4 (by decide) k_X4_start_f47 (Or.inl rfl) (by decide +kernel) rfl dX4_start_17 (fun h4 => ?_)
  refine or_aload_n C 0 rfl dX4_start_20 ?_
  refine or_iconst C (v := (1 : Int32)) dX4_start_21 (by decide) ?_
  refine or_putZ C 4 14 rfl (by decide) rfl (by decide) u_X4_start_4 tyX4 tyX4_ok nmX4 (by decide) k_X4_start_f56 (Or.inl rfl) (by decide +kernel) rfl dX4_start_22 (fun h5 => ?_)
  exact or_vret C ⟨Nat.le_of_ble_eq_true rfl, Nat.le_of_ble_eq_true rfl⟩ dX4_start_25
theorem m_X4_start (l : Launch) (h : oh_H) (o : Nat) (v1 : Int32) (v2 : Int32) (v3 : Int32) (p : oh_H) (hf : f_X4_start h o v1 v2 v3 = some p) : oh_M l yX4_start wsX4_start rmX4_start 0 0 [xr (some o), xi v1, xi v2, xi v3] h none p :=
  oh_met (cc := cX4_start) (maxL := 4) (ret := none) (by decide) rfl (Nat.le_of_ble_eq_true rfl) (fun G C hl hN E => w_X4_start_0 C hl h h o v1 v2 v3 p hf E)
/-! X4_add -/
theorem k_X4_add_f47 : Cond.fieldLink RX4 47 "OilPress$Planner" "size" "I" ∈ wsX4_add := List.mem_of_getElem? (i := 1) (by decide +kernel)
theorem u_X4_add_4 : ∀ w ∈ u_ws RX4 TX4 15, w ∈ wsX4_add := fun w h => List.mem_cons_of_mem _ (List.mem_append_left _ (List.mem_append_left _ (List.mem_append_right _ (h))))
theorem k_X4_add_f9 : Cond.fieldLink RX4 9 "OilPress$Planner" "numbers" "[I" ∈ wsX4_add := List.mem_of_getElem? (i := 2) (by decide +kernel)
theorem k_X4_add_f59 : Cond.fieldLink RX4 59 "OilPress$Lot" "number" "I" ∈ wsX4_add := List.mem_of_getElem? (i := 3) (by decide +kernel)
theorem u_X4_add_2 : ∀ w ∈ u_ws RX2 TX2 12, w ∈ wsX4_add := fun w h => List.mem_cons_of_mem _ (List.mem_append_left _ (List.mem_append_right _ (h)))
theorem k_X4_add_f15 : Cond.fieldLink RX4 15 "OilPress$Planner" "likes" "[I" ∈ wsX4_add := List.mem_of_getElem? (i := 4) (by decide +kernel)
theorem k_X4_add_f18 : Cond.fieldLink RX4 18 "OilPress$Planner" "hours" "[I" ∈ wsX4_add := List.mem_of_getElem? (i := 5) (by decide +kernel)
theorem k_X4_add_f21 : Cond.fieldLink RX4 21 "OilPress$Planner" "lateHours" "[I" ∈ wsX4_add := List.mem_of_getElem? (i := 6) (by decide +kernel)
abbrev rmX4_add : Room := { frames := 1, cells := 0, slots := 0, locals := 20 }
def f_X4_add (h : oh_H) (o : Nat) (v1 : Option Nat) (v2 : Int32) (v3 : Int32) : Option (oh_H) :=
  (oh_gI h (some o) 267).bind fun x1 => if x1 < (8 : Int32) then ((oh_gR h (some o) 256).bind fun x2 => (oh_gI h (some o) 267).bind fun x3 => (oh_gI h v1 128).bind fun x4 => (oh_tI h x2 20 x3 x4).bind fun h5 => (oh_gR h5 (some o) 257).bind fun x6 => (oh_gI h5 (some o) 267).bind fun x7 => oh_rc h5 v1 3 fun o8 => (f_X2_likeIfClean h5 o8).bind fun p11 => (oh_tI h5 x6 20 x7 p11).bind fun h13 => (oh_gR h13 (some o) 258).bind fun x14 => (oh_gI h13 (some o) 267).bind fun x15 => (oh_tI h13 x14 20 x15 v2).bind fun h16 => (oh_gR h16 (some o) 259).bind fun x17 => (oh_gI h16 (some o) 267).bind fun x18 => (oh_tI h16 x17 20 x18 v3).bind fun h19 => (oh_gI h19 (some o) 267).bind fun x20 => (oh_pI h19 (some o) 267 (x20 + (1 : Int32))).bind fun h21 => some h21) else (some h)
set_option maxHeartbeats 4000000 in
set_option maxRecDepth 100000 in
theorem w_X4_add_0 {G : oh_G} {l : Launch} (C : oh_C G cX4_add wsX4_add RX4 rmX4_add 4) (hl : G.1.2.1 = l) (h0 : oh_H) (h : oh_H) (o : Nat) (v1 : Option Nat) (v2 : Int32) (v3 : Int32) : oh_J (oh_TV h0 0 0 none G) (f_X4_add h o v1 v2 v3) (oh_V G 0 0 h 0 [(0, xr (some o)), (1, xr v1), (2, xi v2), (3, xi v3)] []) := by
  unfold f_X4_add
  refine or_aload_n C 0 rfl dX4_add_0 ?_
  refine or_getI C 4 11 rfl (by decide) rfl (by decide) u_X4_add_4 (by decide) k_X4_add_f47 (by decide +kernel) dX4_add_1 (fun x1 => ?_)
  refine or_bipush C (v := (8 : Int32)) dX4_add_4 (by decide) ?_
  refine or_icmp_lt C 10 dX4_add_6 (by decide) ?_ ?_
  · refine or_aload_n C 0 rfl dX4_add_10 ?_
    refine or_getR C 4 0 rfl (by decide) rfl (by decide) u_X4_add_4 (by decide) k_X4_add_f9 (by decide +kernel) dX4_add_11 (fun x2 => ?_)
    refine or_aload_n C 0 rfl dX4_add_14 ?_
    refine or_getI C 4 11 rfl (by decide) rfl (by decide) u_X4_add_4 (by decide) k_X4_add_f47 (by decide +kernel) dX4_add_15 (fun x3 => ?_)
    refine or_aload_n C 1 rfl dX4_add_18 ?_
    refine or_getI C 2 0 rfl (by decide) rfl (by decide) u_X4_add_2 (by decide) k_X4_add_f59 (by decide +kernel) dX4_add_19 (fun x4 => ?_)
    refine or_iast C dX4_add_22 (fun h5 => ?_)
    refine or_aload_n C 0 rfl dX4_add_23 ?_
    refine or_getR C 4 1 rfl (by decide) rfl (by decide) u_X4_add_4 (by decide) k_X4_add_f15 (by decide +kernel) dX4_add_24 (fun x6 => ?_)
    refine or_aload_n C 0 rfl dX4_add_27 ?_
    refine or_getI C 4 11 rfl (by decide) rfl (by decide) u_X4_add_4 (by decide) k_X4_add_f47 (by decide +kernel) dX4_add_28 (fun x7 => ?_)
    refine or_aload_n C 1 rfl dX4_add_31 ?_
    refine oj_rc (fun o8 e10 q9 => ?_)
    refine oj_bind (fun p11 z12 => ?_)
    refine oj_v (P := oh_V G 0 0 h5 35 [(0, xr (some o)), (1, xr v1), (2, xi v2), (3, xi v3)] [xi p11, xi x7, xr x6]) (fun k => or_callV C 0 hl (m_X2_likeIfClean _ h5 o8 p11 z12) gX4_add_X2_likeIfClean rfl rfl rfl (by decide +kernel) ⟨Nat.le_of_ble_eq_true rfl, Nat.le_of_ble_eq_true rfl⟩ q9 rfl (by decide) (Nat.le_of_ble_eq_true rfl) dX4_add_32 ⟨Nat.le_of_ble_eq_true rfl, Nat.le_of_ble_eq_true rfl⟩ rfl (by rw [e10]; rfl) k) ?_
    refine or_iast C dX4_add_35 (fun h13 => ?_)
    refine or_aload_n C 0 rfl dX4_add_36 ?_
    refine or_getR C 4 2 rfl (by decide) rfl (by decide) u_X4_add_4 (by decide) k_X4_add_f18 (by decide +kernel) dX4_add_37 (fun x14 => ?_)
    refine or_aload_n C 0 rfl dX4_add_40 ?_
    refine or_getI C 4 11 rfl (by decide) rfl (by decide) u_X4_add_4 (by decide) k_X4_add_f47 (by decide +kernel) dX4_add_41 (fun x15 => ?_)
    refine or_iload_n C 2 rfl dX4_add_44 ?_
    refine or_iast C dX4_add_45 (fun h16 => ?_)
    refine or_aload_n C 0 rfl dX4_add_46 ?_
    refine or_getR C 4 3 rfl (by decide) rfl (by decide) u_X4_add_4 (by decide) k_X4_add_f21 (by decide +kernel) dX4_add_47 (fun x17 => ?_)
    refine or_aload_n C 0 rfl dX4_add_50 ?_
    refine or_getI C 4 11 rfl (by decide) rfl (by decide) u_X4_add_4 (by decide) k_X4_add_f47 (by decide +kernel) dX4_add_51 (fun x18 => ?_)
    refine or_iload_n C 3 rfl dX4_add_54 ?_
    refine or_iast C dX4_add_55 (fun h19 => ?_)
    refine or_aload_n C 0 rfl dX4_add_56 ?_
    refine or_dup C rfl dX4_add_57 ?_
    refine or_getI C 4 11 rfl (by decide) rfl (by decide) u_X4_add_4 (by decide) k_X4_add_f47 (by decide +kernel) dX4_add_58 (fun x20 => ?_)
    refine or_iconst C (v := (1 : Int32)) dX4_add_61 (by decide) ?_
    refine or_iadd C dX4_add_62 ?_
    refine or_putI C 4 11 rfl (by decide) rfl (by decide) u_X4_add_4 tyX4 tyX4_ok nmX4 (by decide) k_X4_add_f47 (Or.inl rfl) (by decide +kernel) rfl dX4_add_63 (fun h21 => ?_)
    exact or_vret C ⟨Nat.le_of_ble_eq_true rfl, Nat.le_of_ble_eq_true rfl⟩ dX4_add_66
  · exact or_vret C ⟨Nat.le_of_ble_eq_true rfl, Nat.le_of_ble_eq_true rfl⟩ dX4_add_9
theorem m_X4_add (l : Launch) (h : oh_H) (o : Nat) (v1 : Option Nat) (v2 : Int32) (v3 : Int32) (p : oh_H) (hf : f_X4_add h o v1 v2 v3 = some p) : oh_M l yX4_add wsX4_add rmX4_add 0 0 [xr (some o), xr v1, xi v2, xi v3] h none p :=
  oh_met (cc := cX4_add) (maxL := 4) (ret := none) (by decide) rfl (Nat.le_of_ble_eq_true rfl) (fun G C hl hN E => w_X4_add_0 C hl h h o v1 v2 v3 p hf E)
/-! X4_holds -/
abbrev rmX4_holds : Room := { frames := 0, cells := 0, slots := 0, locals := 0 }
def f_X4_holds_14 (h : oh_H) (s0 : Int32) : Option (Int32) :=
  oh_bz s0 (some s0)
def f_X4_holds (h : oh_H) (v0 : Int32) (v1 : Int32) : Option (Int32) :=
  if ((v0 >>> (v1 &&& 31)) &&& (1 : Int32)) = (1 : Int32) then (f_X4_holds_14 h (1 : Int32)) else (f_X4_holds_14 h (0 : Int32))
set_option maxHeartbeats 4000000 in
set_option maxRecDepth 100000 in
theorem w_X4_holds_14 {G : oh_G} {l : Launch} (C : oh_C G cX4_holds wsX4_holds RX4 rmX4_holds 2) (hl : G.1.2.1 = l) (h : oh_H) (s0 : Int32) : oh_J (oh_TR h xi (some .boolean) G) (f_X4_holds_14 h s0) (oh_V G 0 0 h 14 [] [xi s0]) := by
  unfold f_X4_holds_14
  exact or_zretR C dX4_holds_14
set_option maxHeartbeats 4000000 in
set_option maxRecDepth 100000 in
theorem w_X4_holds_0 {G : oh_G} {l : Launch} (C : oh_C G cX4_holds wsX4_holds RX4 rmX4_holds 2) (hl : G.1.2.1 = l) (h : oh_H) (v0 : Int32) (v1 : Int32) : oh_J (oh_TR h xi (some .boolean) G) (f_X4_holds h v0 v1) (oh_V G 0 0 h 0 [(0, xi v0), (1, xi v1)] []) := by
  unfold f_X4_holds
  refine or_iload_n C 0 rfl dX4_holds_0 ?_
  refine or_iload_n C 1 rfl dX4_holds_1 ?_
  refine or_ishr C dX4_holds_2 ?_
  refine or_iconst C (v := (1 : Int32)) dX4_holds_3 (by decide) ?_
  refine or_iand C dX4_holds_4 ?_
  refine or_iconst C (v := (1 : Int32)) dX4_holds_5 (by decide) ?_
  refine or_icmp_ne C 13 dX4_holds_6 (by decide) ?_ ?_
  · refine or_iconst C (v := (1 : Int32)) dX4_holds_9 (by decide) ?_
    refine or_goto C 14 dX4_holds_10 (by decide) ?_
    refine or_sub [] rfl ?_
    exact w_X4_holds_14 C hl h (1 : Int32)
  · refine or_iconst C (v := (0 : Int32)) dX4_holds_13 (by decide) ?_
    refine or_sub [] rfl ?_
    exact w_X4_holds_14 C hl h (0 : Int32)
theorem m_X4_holds (l : Launch) (h : oh_H) (v0 : Int32) (v1 : Int32) (p : Int32) (hf : f_X4_holds h v0 v1 = some p) : oh_M l yX4_holds wsX4_holds rmX4_holds 0 0 [xi v0, xi v1] h (some (xi p)) h :=
  oh_met (cc := cX4_holds) (maxL := 2) (ret := (some .boolean)) (by decide) rfl (Nat.le_of_ble_eq_true rfl) (fun G C hl hN E => w_X4_holds_0 C hl h v0 v1 p hf E)
/-! X4_sumUp -/
theorem k_X4_sumUp_f47 : Cond.fieldLink RX4 47 "OilPress$Planner" "size" "I" ∈ wsX4_sumUp := List.mem_of_getElem? (i := 3) (by decide +kernel)
theorem u_X4_sumUp_4 : ∀ w ∈ u_ws RX4 TX4 15, w ∈ wsX4_sumUp := fun w h => List.mem_cons_of_mem _ (List.mem_append_right _ (h))
theorem k_X4_sumUp_f24 : Cond.fieldLink RX4 24 "OilPress$Planner" "hoursOf" "[I" ∈ wsX4_sumUp := List.mem_of_getElem? (i := 1) (by decide +kernel)
theorem k_X4_sumUp_f18 : Cond.fieldLink RX4 18 "OilPress$Planner" "hours" "[I" ∈ wsX4_sumUp := List.mem_of_getElem? (i := 4) (by decide +kernel)
theorem k_X4_sumUp_f27 : Cond.fieldLink RX4 27 "OilPress$Planner" "cleanOf" "[I" ∈ wsX4_sumUp := List.mem_of_getElem? (i := 2) (by decide +kernel)
theorem k_X4_sumUp_f15 : Cond.fieldLink RX4 15 "OilPress$Planner" "likes" "[I" ∈ wsX4_sumUp := List.mem_of_getElem? (i := 5) (by decide +kernel)
abbrev rmX4_sumUp : Room := { frames := 1, cells := 0, slots := 0, locals := 21 }
def f_X4_sumUp_71 (h : oh_H) (o : Nat) (v1 : Int32) (v2 : Int32) : Option ((oh_H × Int32) ⊕ (oh_H)) :=
  oh_lt (v2 + (1 : Int32)) fun x1 => some (Sum.inl (h, x1))
def f_X4_sumUp_69 (h : oh_H) (o : Nat) (v1 : Int32) (v2 : Int32) (s0 : Int32) (s1 : Int32) (s2 : Int32) (s3 : Option Nat) : Option ((oh_H × Int32) ⊕ (oh_H)) :=
  (oh_tI h s3 20 s2 (s1 + s0)).bind fun h1 => f_X4_sumUp_71 h1 o v1 v2
abbrev pv_X4_sumUp_16 (G : oh_G) (o : Nat) (v1 : Int32) : (oh_H × Int32) → Prop := fun s => oh_V G 0 0 s.1 16 [(0, xr (some o)), (1, xi v1), (2, xi s.2)] []
def b_X4_sumUp_16 (h : oh_H) (o : Nat) (v1 : Int32) (v2 : Int32) : Option ((oh_H × Int32) ⊕ (oh_H)) :=
  (oh_gI h (some o) 267).bind fun x1 => if x1 ≤ v2 then (Option.map Sum.inr (some h)) else ((f_X4_holds h v1 v2).bind fun p2 => if p2 = 0 then (f_X4_sumUp_71 h o v1 v2) else ((oh_gR h (some o) 260).bind fun x4 => (oh_aI h x4 20 v1).bind fun x5 => (oh_gR h (some o) 258).bind fun x6 => (oh_aI h x6 20 v2).bind fun x7 => (oh_tI h x4 20 v1 (x5 + x7)).bind fun h8 => (oh_gR h8 (some o) 261).bind fun x9 => (oh_aI h8 x9 20 v1).bind fun x10 => (oh_gR h8 (some o) 257).bind fun x11 => (oh_aI h8 x11 20 v2).bind fun x12 => if x12 = (-1 : Int32) then (f_X4_sumUp_69 h8 o v1 v2 (0 : Int32) x10 v1 x9) else (f_X4_sumUp_69 h8 o v1 v2 (1 : Int32) x10 v1 x9)))
def f_X4_sumUp_16 (h : oh_H) (o : Nat) (v1 : Int32) (v2 : Int32) : Option (oh_H) := oh_loop (fun s : oh_H × Int32 => b_X4_sumUp_16 s.1 o v1 s.2) 1000000 (h, v2)
def f_X4_sumUp (h : oh_H) (o : Nat) (v1 : Int32) : Option (oh_H) :=
  (oh_gR h (some o) 260).bind fun x1 => (oh_tI h x1 20 v1 (0 : Int32)).bind fun h2 => (oh_gR h2 (some o) 261).bind fun x3 => (oh_tI h2 x3 20 v1 (0 : Int32)).bind fun h4 => oh_lt (0 : Int32) fun x5 => f_X4_sumUp_16 h4 o v1 x5
set_option maxHeartbeats 4000000 in
set_option maxRecDepth 100000 in
theorem w_X4_sumUp_71 {G : oh_G} {l : Launch} (C : oh_C G cX4_sumUp wsX4_sumUp RX4 rmX4_sumUp 3) (hl : G.1.2.1 = l) (h0 : oh_H) (h : oh_H) (o : Nat) (v1 : Int32) (v2 : Int32) : oh_J (oh_TL (pv_X4_sumUp_16 G o v1) (oh_TV h0 0 0 none G)) (f_X4_sumUp_71 h o v1 v2) (oh_V G 0 0 h 71 [(0, xr (some o)), (1, xi v1), (2, xi v2)] []) := by
  unfold f_X4_sumUp_71
  refine or_iinc C (y := (1 : Int32)) 2 rfl (by decide) (fun x1 => [(2, xi x1), (0, xr (some o)), (1, xi v1)]) (fun _ => rfl) (by decide) dX4_sumUp_71 (fun x1 => ?_)
  refine or_goto C 16 dX4_sumUp_74 (by decide) ?_
  refine or_sub [1, 2, 0] rfl ?_
  exact oj_back (P := pv_X4_sumUp_16 G o v1) (s := (h, x1))
set_option maxHeartbeats 4000000 in
set_option maxRecDepth 100000 in
theorem w_X4_sumUp_69 {G : oh_G} {l : Launch} (C : oh_C G cX4_sumUp wsX4_sumUp RX4 rmX4_sumUp 3) (hl : G.1.2.1 = l) (h0 : oh_H) (h : oh_H) (o : Nat) (v1 : Int32) (v2 : Int32) (s0 : Int32) (s1 : Int32) (s2 : Int32) (s3 : Option Nat) : oh_J (oh_TL (pv_X4_sumUp_16 G o v1) (oh_TV h0 0 0 none G)) (f_X4_sumUp_69 h o v1 v2 s0 s1 s2 s3) (oh_V G 0 0 h 69 [(0, xr (some o)), (1, xi v1), (2, xi v2)] [xi s0, xi s1, xi s2, xr s3]) := by
  unfold f_X4_sumUp_69
  refine or_iadd C dX4_sumUp_69 ?_
  refine or_iast C dX4_sumUp_70 (fun h1 => ?_)
  refine or_sub [0, 1, 2] rfl ?_
  exact w_X4_sumUp_71 C hl h0 h1 o v1 v2
set_option maxHeartbeats 4000000 in
set_option maxRecDepth 100000 in
theorem wb_X4_sumUp_16 {G : oh_G} {l : Launch} (C : oh_C G cX4_sumUp wsX4_sumUp RX4 rmX4_sumUp 3) (hl : G.1.2.1 = l) (h0 : oh_H) (h : oh_H) (o : Nat) (v1 : Int32) (v2 : Int32) : oh_J (oh_TL (pv_X4_sumUp_16 G o v1) (oh_TV h0 0 0 none G)) (b_X4_sumUp_16 h o v1 v2) (oh_V G 0 0 h 16 [(0, xr (some o)), (1, xi v1), (2, xi v2)] []) := by
  unfold b_X4_sumUp_16
  refine or_iload_n C 2 rfl dX4_sumUp_16 ?_
  refine or_aload_n C 0 rfl dX4_sumUp_17 ?_
  refine or_getI C 4 11 rfl (by decide) rfl (by decide) u_X4_sumUp_4 (by decide) k_X4_sumUp_f47 (by decide +kernel) dX4_sumUp_18 (fun x1 => ?_)
  refine or_icmp_ge C 77 dX4_sumUp_21 (by decide) ?_ ?_
  · refine oj_inr ?_
    exact or_vret C ⟨Nat.le_of_ble_eq_true rfl, Nat.le_of_ble_eq_true rfl⟩ dX4_sumUp_77
  · refine or_iload_n C 1 rfl dX4_sumUp_24 ?_
    refine or_iload_n C 2 rfl dX4_sumUp_25 ?_
    refine oj_bind (fun p2 z3 => ?_)
    refine oj_v (P := oh_V G 0 0 h 29 [(0, xr (some o)), (1, xi v1), (2, xi v2)] [xi p2]) (fun k => or_callS C 2 hl (m_X4_holds _ h v1 v2 p2 z3) gX4_sumUp_X4_holds rfl rfl rfl (by decide +kernel) ⟨Nat.le_of_ble_eq_true rfl, Nat.le_of_ble_eq_true rfl⟩ (Nat.le_of_ble_eq_true rfl) dX4_sumUp_26 ⟨Nat.le_of_ble_eq_true rfl, Nat.le_of_ble_eq_true rfl⟩ rfl rfl k) ?_
    refine or_if_eq C 71 dX4_sumUp_29 (by decide) ?_ ?_
    · refine or_sub [0, 1, 2] rfl ?_
      exact w_X4_sumUp_71 C hl h0 h o v1 v2
    · refine or_aload_n C 0 rfl dX4_sumUp_32 ?_
      refine or_getR C 4 4 rfl (by decide) rfl (by decide) u_X4_sumUp_4 (by decide) k_X4_sumUp_f24 (by decide +kernel) dX4_sumUp_33 (fun x4 => ?_)
      refine or_iload_n C 1 rfl dX4_sumUp_36 ?_
      refine or_dup2 C rfl rfl dX4_sumUp_37 ?_
      refine or_iald C dX4_sumUp_38 (fun x5 => ?_)
      refine or_aload_n C 0 rfl dX4_sumUp_39 ?_
      refine or_getR C 4 2 rfl (by decide) rfl (by decide) u_X4_sumUp_4 (by decide) k_X4_sumUp_f18 (by decide +kernel) dX4_sumUp_40 (fun x6 => ?_)
      refine or_iload_n C 2 rfl dX4_sumUp_43 ?_
      refine or_iald C dX4_sumUp_44 (fun x7 => ?_)
      refine or_iadd C dX4_sumUp_45 ?_
      refine or_iast C dX4_sumUp_46 (fun h8 => ?_)
      refine or_aload_n C 0 rfl dX4_sumUp_47 ?_
      refine or_getR C 4 5 rfl (by decide) rfl (by decide) u_X4_sumUp_4 (by decide) k_X4_sumUp_f27 (by decide +kernel) dX4_sumUp_48 (fun x9 => ?_)
      refine or_iload_n C 1 rfl dX4_sumUp_51 ?_
      refine or_dup2 C rfl rfl dX4_sumUp_52 ?_
      refine or_iald C dX4_sumUp_53 (fun x10 => ?_)
      refine or_aload_n C 0 rfl dX4_sumUp_54 ?_
      refine or_getR C 4 1 rfl (by decide) rfl (by decide) u_X4_sumUp_4 (by decide) k_X4_sumUp_f15 (by decide +kernel) dX4_sumUp_55 (fun x11 => ?_)
      refine or_iload_n C 2 rfl dX4_sumUp_58 ?_
      refine or_iald C dX4_sumUp_59 (fun x12 => ?_)
      refine or_iconst C (v := (-1 : Int32)) dX4_sumUp_60 (by decide) ?_
      refine or_icmp_ne C 68 dX4_sumUp_61 (by decide) ?_ ?_
      · refine or_iconst C (v := (0 : Int32)) dX4_sumUp_64 (by decide) ?_
        refine or_goto C 69 dX4_sumUp_65 (by decide) ?_
        refine or_sub [0, 1, 2] rfl ?_
        exact w_X4_sumUp_69 C hl h0 h8 o v1 v2 (0 : Int32) x10 v1 x9
      · refine or_iconst C (v := (1 : Int32)) dX4_sumUp_68 (by decide) ?_
        refine or_sub [0, 1, 2] rfl ?_
        exact w_X4_sumUp_69 C hl h0 h8 o v1 v2 (1 : Int32) x10 v1 x9
theorem w_X4_sumUp_16 {G : oh_G} {l : Launch} (C : oh_C G cX4_sumUp wsX4_sumUp RX4 rmX4_sumUp 3) (hl : G.1.2.1 = l) (h0 : oh_H) (h : oh_H) (o : Nat) (v1 : Int32) (v2 : Int32) : oh_J (oh_TV h0 0 0 none G) (f_X4_sumUp_16 h o v1 v2) (oh_V G 0 0 h 16 [(0, xr (some o)), (1, xi v1), (2, xi v2)] []) := by
  unfold f_X4_sumUp_16
  exact oj_loop (P := pv_X4_sumUp_16 G o v1) (fun s => wb_X4_sumUp_16 C hl h0 s.1 o v1 s.2) 1000000 (h, v2)
set_option maxHeartbeats 4000000 in
set_option maxRecDepth 100000 in
theorem w_X4_sumUp_0 {G : oh_G} {l : Launch} (C : oh_C G cX4_sumUp wsX4_sumUp RX4 rmX4_sumUp 3) (hl : G.1.2.1 = l) (h0 : oh_H) (h : oh_H) (o : Nat) (v1 : Int32) : oh_J (oh_TV h0 0 0 none G) (f_X4_sumUp h o v1) (oh_V G 0 0 h 0 [(0, xr (some o)), (1, xi v1)] []) := by
  unfold f_X4_sumUp
  refine or_aload_n C 0 rfl dX4_sumUp_0 ?_
  refine or_getR C 4 4 rfl (by decide) rfl (by decide) u_X4_sumUp_4 (by decide) k_X4_sumUp_f24 (by decide +kernel) dX4_sumUp_1 (fun x1 => ?_)
  refine or_iload_n C 1 rfl dX4_sumUp_4 ?_
  refine or_iconst C (v := (0 : Int32)) dX4_sumUp_5 (by decide) ?_
  refine or_iast C dX4_sumUp_6 (fun h2 => ?_)
  refine or_aload_n C 0 rfl dX4_sumUp_7 ?_
  refine or_getR C 4 5 rfl (by decide) rfl (by decide) u_X4_sumUp_4 (by decide) k_X4_sumUp_f27 (by decide +kernel) dX4_sumUp_8 (fun x3 => ?_)
  refine or_iload_n C 1 rfl dX4_sumUp_11 ?_
  refine or_iconst C (v := (0 : Int32)) dX4_sumUp_12 (by decide) ?_
  refine or_iast C dX4_sumUp_13 (fun h4 => ?_)
  refine or_iconst C (v := (0 : Int32)) dX4_sumUp_14 (by decide) ?_
  refine or_istore_n C (fun x5 => [(2, xi x5), (0, xr (some o)), (1, xi v1)]) (fun _ => rfl) (by decide) dX4_sumUp_15 (fun x5 => ?_)
  refine or_sub [1, 2, 0] rfl ?_
  exact w_X4_sumUp_16 C hl h0 h4 o v1 x5
theorem m_X4_sumUp (l : Launch) (h : oh_H) (o : Nat) (v1 : Int32) (p : oh_H) (hf : f_X4_sumUp h o v1 = some p) : oh_M l yX4_sumUp wsX4_sumUp rmX4_sumUp 0 0 [xr (some o), xi v1] h none p :=
  oh_met (cc := cX4_sumUp) (maxL := 3) (ret := none) (by decide) rfl (Nat.le_of_ble_eq_true rfl) (fun G C hl hN E => w_X4_sumUp_0 C hl h h o v1 p hf E)
/-! X4_needsWash -/
theorem k_X4_needsWash_f15 : Cond.fieldLink RX4 15 "OilPress$Planner" "likes" "[I" ∈ wsX4_needsWash := List.mem_of_getElem? (i := 1) (by decide +kernel)
theorem u_X4_needsWash_4 : ∀ w ∈ u_ws RX4 TX4 15, w ∈ wsX4_needsWash := fun w h => List.mem_cons_of_mem _ (List.mem_append_right _ (h))
theorem k_X4_needsWash_f37 : Cond.fieldLink RX4 37 "OilPress$Planner" "isWashed" "Z" ∈ wsX4_needsWash := List.mem_of_getElem? (i := 2) (by decide +kernel)
theorem k_X4_needsWash_f41 : Cond.fieldLink RX4 41 "OilPress$Planner" "millLike" "I" ∈ wsX4_needsWash := List.mem_of_getElem? (i := 3) (by decide +kernel)
abbrev rmX4_needsWash : Room := { frames := 0, cells := 0, slots := 0, locals := 0 }
def f_X4_needsWash_63 (h : oh_H) (o : Nat) (s0 : Int32) : Option (Int32) :=
  oh_bz s0 (some s0)
def f_X4_needsWash_42 (h : oh_H) (o : Nat) (s0 : Int32) : Option (Int32) :=
  oh_bz s0 (some s0)
def f_X4_needsWash_41 (h : oh_H) (o : Nat) : Option (Int32) :=
  f_X4_needsWash_42 h o (0 : Int32)
def f_X4_needsWash (h : oh_H) (o : Nat) (v1 : Int32) (v2 : Int32) : Option (Int32) :=
  (oh_gR h (some o) 257).bind fun x1 => (oh_aI h x1 20 v2).bind fun x2 => if x2 = (-1 : Int32) then (oh_bz (0 : Int32) (some (0 : Int32))) else (if v1 = (-1 : Int32) then ((oh_gI h (some o) 264).bind fun x7 => if x7 = 0 then ((oh_gI h (some o) 265).bind fun x8 => (oh_gR h (some o) 257).bind fun x9 => (oh_aI h x9 20 v2).bind fun x10 => if x8 = x10 then (f_X4_needsWash_41 h o) else (f_X4_needsWash_42 h o (1 : Int32))) else (f_X4_needsWash_41 h o)) else ((oh_gR h (some o) 257).bind fun x3 => (oh_aI h x3 20 v1).bind fun x4 => (oh_gR h (some o) 257).bind fun x5 => (oh_aI h x5 20 v2).bind fun x6 => if x4 = x6 then (f_X4_needsWash_63 h o (0 : Int32)) else (f_X4_needsWash_63 h o (1 : Int32))))
set_option maxHeartbeats 4000000 in
set_option maxRecDepth 100000 in
theorem w_X4_needsWash_63 {G : oh_G} {l : Launch} (C : oh_C G cX4_needsWash wsX4_needsWash RX4 rmX4_needsWash 3) (hl : G.1.2.1 = l) (h : oh_H) (o : Nat) (s0 : Int32) : oh_J (oh_TR h xi (some .boolean) G) (f_X4_needsWash_63 h o s0) (oh_V G 0 0 h 63 [] [xi s0]) := by
  unfold f_X4_needsWash_63
  exact or_zretR C dX4_needsWash_63
set_option maxHeartbeats 4000000 in
set_option maxRecDepth 100000 in
theorem w_X4_needsWash_42 {G : oh_G} {l : Launch} (C : oh_C G cX4_needsWash wsX4_needsWash RX4 rmX4_needsWash 3) (hl : G.1.2.1 = l) (h : oh_H) (o : Nat) (s0 : Int32) : oh_J (oh_TR h xi (some .boolean) G) (f_X4_needsWash_42 h o s0) (oh_V G 0 0 h 42 [] [xi s0]) := by
  unfold f_X4_needsWash_42
  exact or_zretR C dX4_needsWash_42
set_option maxHeartbeats 4000000 in
set_option maxRecDepth 100000 in
theorem w_X4_needsWash_41 {G : oh_G} {l : Launch} (C : oh_C G cX4_needsWash wsX4_needsWash RX4 rmX4_needsWash 3) (hl : G.1.2.1 = l) (h : oh_H) (o : Nat) : oh_J (oh_TR h xi (some .boolean) G) (f_X4_needsWash_41 h o) (oh_V G 0 0 h 41 [] []) := by
  unfold f_X4_needsWash_41
  refine or_iconst C (v := (0 : Int32)) dX4_needsWash_41 (by decide) ?_
  refine or_sub [] rfl ?_
  exact w_X4_needsWash_42 C hl h o (0 : Int32)
set_option maxHeartbeats 4000000 in
set_option maxRecDepth 100000 in
theorem w_X4_needsWash_0 {G : oh_G} {l : Launch} (C : oh_C G cX4_needsWash wsX4_needsWash RX4 rmX4_needsWash 3) (hl : G.1.2.1 = l) (h : oh_H) (o : Nat) (v1 : Int32) (v2 : Int32) : oh_J (oh_TR h xi (some .boolean) G) (f_X4_needsWash h o v1 v2) (oh_V G 0 0 h 0 [(0, xr (some o)), (1, xi v1), (2, xi v2)] []) := by
  unfold f_X4_needsWash
  refine or_aload_n C 0 rfl dX4_needsWash_0 ?_
  refine or_getR C 4 1 rfl (by decide) rfl (by decide) u_X4_needsWash_4 (by decide) k_X4_needsWash_f15 (by decide +kernel) dX4_needsWash_1 (fun x1 => ?_)
  refine or_iload_n C 2 rfl dX4_needsWash_4 ?_
  refine or_iald C dX4_needsWash_5 (fun x2 => ?_)
  refine or_iconst C (v := (-1 : Int32)) dX4_needsWash_6 (by decide) ?_
  refine or_icmp_ne C 12 dX4_needsWash_7 (by decide) ?_ ?_
  · refine or_iconst C (v := (0 : Int32)) dX4_needsWash_10 (by decide) ?_
    exact or_zretR C dX4_needsWash_11
  · refine or_iload_n C 1 rfl dX4_needsWash_12 ?_
    refine or_iconst C (v := (-1 : Int32)) dX4_needsWash_13 (by decide) ?_
    refine or_icmp_ne C 43 dX4_needsWash_14 (by decide) ?_ ?_
    · refine or_aload_n C 0 rfl dX4_needsWash_17 ?_
      refine or_getI C 4 8 rfl (by decide) rfl (by decide) u_X4_needsWash_4 (by decide) k_X4_needsWash_f37 (by decide +kernel) dX4_needsWash_18 (fun x7 => ?_)
      refine or_if_ne C 41 dX4_needsWash_21 (by decide) ?_ ?_
      · refine or_aload_n C 0 rfl dX4_needsWash_24 ?_
        refine or_getI C 4 9 rfl (by decide) rfl (by decide) u_X4_needsWash_4 (by decide) k_X4_needsWash_f41 (by decide +kernel) dX4_needsWash_25 (fun x8 => ?_)
        refine or_aload_n C 0 rfl dX4_needsWash_28 ?_
        refine or_getR C 4 1 rfl (by decide) rfl (by decide) u_X4_needsWash_4 (by decide) k_X4_needsWash_f15 (by decide +kernel) dX4_needsWash_29 (fun x9 => ?_)
        refine or_iload_n C 2 rfl dX4_needsWash_32 ?_
        refine or_iald C dX4_needsWash_33 (fun x10 => ?_)
        refine or_icmp_eq C 41 dX4_needsWash_34 (by decide) ?_ ?_
        · refine or_sub [] rfl ?_
          exact w_X4_needsWash_41 C hl h o
        · refine or_iconst C (v := (1 : Int32)) dX4_needsWash_37 (by decide) ?_
          refine or_goto C 42 dX4_needsWash_38 (by decide) ?_
          refine or_sub [] rfl ?_
          exact w_X4_needsWash_42 C hl h o (1 : Int32)
      · refine or_sub [] rfl ?_
        exact w_X4_needsWash_41 C hl h o
    · refine or_aload_n C 0 rfl dX4_needsWash_43 ?_
      refine or_getR C 4 1 rfl (by decide) rfl (by decide) u_X4_needsWash_4 (by decide) k_X4_needsWash_f15 (by decide +kernel) dX4_needsWash_44 (fun x3 => ?_)
      refine or_iload_n C 1 rfl dX4_needsWash_47 ?_
      refine or_iald C dX4_needsWash_48 (fun x4 => ?_)
      refine or_aload_n C 0 rfl dX4_needsWash_49 ?_
      refine or_getR C 4 1 rfl (by decide) rfl (by decide) u_X4_needsWash_4 (by decide) k_X4_needsWash_f15 (by decide +kernel) dX4_needsWash_50 (fun x5 => ?_)
      refine or_iload_n C 2 rfl dX4_needsWash_53 ?_
      refine or_iald C dX4_needsWash_54 (fun x6 => ?_)
      refine or_icmp_eq C 62 dX4_needsWash_55 (by decide) ?_ ?_
      · refine or_iconst C (v := (0 : Int32)) dX4_needsWash_62 (by decide) ?_
        refine or_sub [] rfl ?_
        exact w_X4_needsWash_63 C hl h o (0 : Int32)
      · refine or_iconst C (v := (1 : Int32)) dX4_needsWash_58 (by decide) ?_
        refine or_goto C 63 dX4_needsWash_59 (by decide) ?_
        refine or_sub [] rfl ?_
        exact w_X4_needsWash_63 C hl h o (1 : Int32)
theorem m_X4_needsWash (l : Launch) (h : oh_H) (o : Nat) (v1 : Int32) (v2 : Int32) (p : Int32) (hf : f_X4_needsWash h o v1 v2 = some p) : oh_M l yX4_needsWash wsX4_needsWash rmX4_needsWash 0 0 [xr (some o), xi v1, xi v2] h (some (xi p)) h :=
  oh_met (cc := cX4_needsWash) (maxL := 3) (ret := (some .boolean)) (by decide) rfl (Nat.le_of_ble_eq_true rfl) (fun G C hl hN E => w_X4_needsWash_0 C hl h o v1 v2 p hf E)
