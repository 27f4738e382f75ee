theorem df_X0 : ∀ j, j < 1 → defaultValue (tyX0 j) = oh_v (if oh_tag (64 * 0 + j) = 0 then xi 0 else if oh_tag (64 * 0 + j) = 1 then xl 0 else xr none) := fun j hj => match j, hj with
  | 0, _ => rfl
  | n + 1, h => absurd h (by omega)
theorem df_X1 : ∀ j, j < 3 → defaultValue (tyX1 j) = oh_v (if oh_tag (64 * 1 + j) = 0 then xi 0 else if oh_tag (64 * 1 + j) = 1 then xl 0 else xr none) := fun j hj => match j, hj with
  | 0, _ => rfl
  | 1, _ => rfl
  | 2, _ => rfl
  | n + 3, h => absurd h (by omega)
theorem df_X2 : ∀ j, j < 12 → defaultValue (tyX2 j) = oh_v (if oh_tag (64 * 2 + j) = 0 then xi 0 else if oh_tag (64 * 2 + j) = 1 then xl 0 else xr none) := fun j hj => match j, hj with
  | 0, _ => rfl
  | 1, _ => rfl
  | 2, _ => rfl
  | 3, _ => rfl
  | 4, _ => rfl
  | 5, _ => rfl
  | 6, _ => rfl
  | 7, _ => rfl
  | 8, _ => rfl
  | 9, _ => rfl
  | 10, _ => rfl
  | 11, _ => rfl
  | n + 12, h => absurd h (by omega)
theorem df_X3 : ∀ j, j < 14 → defaultValue (tyX3 j) = oh_v (if oh_tag (64 * 3 + j) = 0 then xi 0 else if oh_tag (64 * 3 + j) = 1 then xl 0 else xr none) := fun j hj => match j, hj with
  | 0, _ => rfl
  | 1, _ => rfl
  | 2, _ => rfl
  | 3, _ => rfl
  | 4, _ => rfl
  | 5, _ => rfl
  | 6, _ => rfl
  | 7, _ => rfl
  | 8, _ => rfl
  | 9, _ => rfl
  | 10, _ => rfl
  | 11, _ => rfl
  | 12, _ => rfl
  | 13, _ => rfl
  | n + 14, h => absurd h (by omega)
theorem df_X4 : ∀ j, j < 15 → defaultValue (tyX4 j) = oh_v (if oh_tag (64 * 4 + j) = 0 then xi 0 else if oh_tag (64 * 4 + j) = 1 then xl 0 else xr none) := fun j hj => match j, hj with
  | 0, _ => rfl
  | 1, _ => rfl
  | 2, _ => rfl
  | 3, _ => rfl
  | 4, _ => rfl
  | 5, _ => rfl
  | 6, _ => rfl
  | 7, _ => rfl
  | 8, _ => rfl
  | 9, _ => rfl
  | 10, _ => rfl
  | 11, _ => rfl
  | 12, _ => rfl
  | 13, _ => rfl
  | 14, _ => rfl
  | n + 15, h => absurd h (by omega)
theorem df_X5 : ∀ j, j < 5 → defaultValue (tyX5 j) = oh_v (if oh_tag (64 * 5 + j) = 0 then xi 0 else if oh_tag (64 * 5 + j) = 1 then xl 0 else xr none) := fun j hj => match j, hj with
  | 0, _ => rfl
  | 1, _ => rfl
  | 2, _ => rfl
  | 3, _ => rfl
  | 4, _ => rfl
  | n + 5, h => absurd h (by omega)
theorem df_X6 : ∀ j, j < 8 → defaultValue (tyX6 j) = oh_v (if oh_tag (64 * 6 + j) = 0 then xi 0 else if oh_tag (64 * 6 + j) = 1 then xl 0 else xr none) := fun j hj => match j, hj with
  | 0, _ => rfl
  | 1, _ => rfl
  | 2, _ => rfl
  | 3, _ => rfl
  | 4, _ => rfl
  | 5, _ => rfl
  | 6, _ => rfl
  | 7, _ => rfl
  | n + 8, h => absurd h (by omega)
theorem df_X7 : ∀ j, j < 14 → defaultValue (tyX7 j) = oh_v (if oh_tag (64 * 7 + j) = 0 then xi 0 else if oh_tag (64 * 7 + j) = 1 then xl 0 else xr none) := fun j hj => match j, hj with
  | 0, _ => rfl
  | 1, _ => rfl
  | 2, _ => rfl
  | 3, _ => rfl
  | 4, _ => rfl
  | 5, _ => rfl
  | 6, _ => rfl
  | 7, _ => rfl
  | 8, _ => rfl
  | 9, _ => rfl
  | 10, _ => rfl
  | 11, _ => rfl
  | 12, _ => rfl
  | 13, _ => rfl
  | n + 14, h => absurd h (by omega)
theorem df_X8 : ∀ j, j < 54 → defaultValue (tyX8 j) = oh_v (if oh_tag (64 * 8 + j) = 0 then xi 0 else if oh_tag (64 * 8 + j) = 1 then xl 0 else xr none) := fun j hj => match j, hj with
  | 0, _ => rfl
  | 1, _ => rfl
  | 2, _ => rfl
  | 3, _ => rfl
  | 4, _ => rfl
  | 5, _ => rfl
  | 6, _ => rfl
  | 7, _ => rfl
  | 8, _ => rfl
  | 9, _ => rfl
  | 10, _ => rfl
  | 11, _ => rfl
  | 12, _ => rfl
  | 13, _ => rfl
  | 14, _ => rfl
  | 15, _ => rfl
  | 16, _ => rfl
  | 17, _ => rfl
  | 18, _ => rfl
  | 19, _ => rfl
  | 20, _ => rfl
  | 21, _ => rfl
  | 22, _ => rfl
  | 23, _ => rfl
  | 24, _ => rfl
  | 25, _ => rfl
  | 26, _ => rfl
  | 27, _ => rfl
  | 28, _ => rfl
  | 29, _ => rfl
  | 30, _ => rfl
  | 31, _ => rfl
  | 32, _ => rfl
  | 33, _ => rfl
  | 34, _ => rfl
  | 35, _ => rfl
  | 36, _ => rfl
  | 37, _ => rfl
  | 38, _ => rfl
  | 39, _ => rfl
  | 40, _ => rfl
  | 41, _ => rfl
  | 42, _ => rfl
  | 43, _ => rfl
  | 44, _ => rfl
  | 45, _ => rfl
  | 46, _ => rfl
  | 47, _ => rfl
  | 48, _ => rfl
  | 49, _ => rfl
  | 50, _ => rfl
  | 51, _ => rfl
  | 52, _ => rfl
  | 53, _ => rfl
  | n + 54, h => absurd h (by omega)
/-! X0_init -/
theorem k_X0_init_ol3 : Cond.methodLink RX0 3 objectInit ∈ wsX0_init := List.mem_of_getElem? (i := 1) (by decide +kernel)
theorem k_X0_init_oi : Cond.instanceMethod objectInit ∈ wsX0_init := List.mem_of_getElem? (i := 2) (by decide +kernel)
theorem k_X0_init_oc : Cond.code objectInit ⟨#[0xb1]⟩ 1 none ∈ wsX0_init := List.mem_of_getElem? (i := 3) (by decide +kernel)
theorem k_X0_init_ac20 : Cond.arrayClass .int ∈ wsX0_init := List.mem_of_getElem? (i := 4) (by decide +kernel)
theorem k_X0_init_f9 : Cond.fieldLink RX0 9 "OilPress$Debts" "rows" "[I" ∈ wsX0_init := List.mem_of_getElem? (i := 5) (by decide +kernel)
theorem u_X0_init_0 : ∀ w ∈ u_ws RX0 TX0 1, w ∈ wsX0_init := fun w h => List.mem_cons_of_mem _ (List.mem_append_right _ (h))
abbrev rmX0_init : Room := { frames := 1, cells := 1, slots := 120, locals := 20 }
def f_X0_init (h : oh_H) (o : Nat) : Option (oh_H) :=
  oh_newa h 20 120 fun a2 h1 => (oh_pR h1 (some o) 0 (some a2)).bind fun h3 => some h3
set_option maxHeartbeats 4000000 in
set_option maxRecDepth 100000 in
theorem w_X0_init_0 {G : oh_G} {l : Launch} (C : oh_C G cX0_init wsX0_init RX0 rmX0_init 1) (hl : G.1.2.1 = l) (hN : G.2.1.2.2.2.1.name = "<init>") (h0 : oh_H) (h : oh_H) (o : Nat) : oh_J (oh_TV h0 1 120 none G) (f_X0_init h o) (oh_V G 0 0 h 0 [(0, xr (some o))] []) := by
  unfold f_X0_init
  refine or_aload_n C 0 rfl dX0_init_0 ?_
  refine or_objinit C k_X0_init_ol3 k_X0_init_oi k_X0_init_oc (Nat.le_of_ble_eq_true rfl) (Nat.le_of_ble_eq_true rfl) dX0_init_1 ?_
  refine or_aload_n C 0 rfl dX0_init_4 ?_
  refine or_bipush C (v := (120 : Int32)) dX0_init_5 (by decide) ?_
  refine or_newa (atype := .int) (ty := .int) (n := (120 : Int32)) (N := 120) (cells := 0) (slots := 0) C 0 rfl (fun _ => rfl) (by decide) k_X0_init_ac20 (fun _ _ z => z) rfl rfl (by decide) rfl (Nat.le_of_ble_eq_true rfl) ⟨Nat.le_of_ble_eq_true rfl, Nat.le_of_ble_eq_true rfl⟩ dX0_init_7 (fun a2 h1 => ?_)
  refine or_putR C 0 0 rfl (by decide) rfl (by decide) u_X0_init_0 tyX0 tyX0_ok nmX0 (by decide) k_X0_init_f9 (Or.inr ⟨rfl, hN, rfl⟩) (by decide +kernel) (fun v => by cases v <;> exact ⟨rfl, rfl⟩) dX0_init_9 (fun h3 => ?_)
  exact or_vret C ⟨Nat.le_of_ble_eq_true rfl, Nat.le_of_ble_eq_true rfl⟩ dX0_init_12
theorem m_X0_init (l : Launch) (h : oh_H) (o : Nat) (p : oh_H) (hf : f_X0_init h o = some p) : oh_M l yX0_init wsX0_init rmX0_init 1 120 [xr (some o)] h none p :=
  oh_met (cc := cX0_init) (maxL := 1) (ret := none) (by decide) rfl (Nat.le_of_ble_eq_true rfl) (fun G C hl hN E => w_X0_init_0 C hl hN h h o p hf E)
/-! X7_isWithin -/
abbrev rmX7_isWithin : Room := { frames := 0, cells := 0, slots := 0, locals := 0 }
def f_X7_isWithin_15 (h : oh_H) (s0 : Int32) : Option (Int32) :=
  oh_bz s0 (some s0)
def f_X7_isWithin_14 (h : oh_H) : Option (Int32) :=
  f_X7_isWithin_15 h (0 : Int32)
def f_X7_isWithin (h : oh_H) (v0 : Int32) (v1 : Int32) (v2 : Int32) : Option (Int32) :=
  if v0 < v1 then (f_X7_isWithin_14 h) else (if v2 < v0 then (f_X7_isWithin_14 h) else (f_X7_isWithin_15 h (1 : Int32)))
set_option maxHeartbeats 4000000 in
set_option maxRecDepth 100000 in
theorem w_X7_isWithin_15 {G : oh_G} {l : Launch} (C : oh_C G cX7_isWithin wsX7_isWithin RX7 rmX7_isWithin 3) (hl : G.1.2.1 = l) (h : oh_H) (s0 : Int32) : oh_J (oh_TR h xi (some .boolean) G) (f_X7_isWithin_15 h s0) (oh_V G 0 0 h 15 [] [xi s0]) := by
  unfold f_X7_isWithin_15
  exact or_zretR C dX7_isWithin_15
set_option maxHeartbeats 4000000 in
set_option maxRecDepth 100000 in
theorem w_X7_isWithin_14 {G : oh_G} {l : Launch} (C : oh_C G cX7_isWithin wsX7_isWithin RX7 rmX7_isWithin 3) (hl : G.1.2.1 = l) (h : oh_H) : oh_J (oh_TR h xi (some .boolean) G) (f_X7_isWithin_14 h) (oh_V G 0 0 h 14 [] []) := by
  unfold f_X7_isWithin_14
  refine or_iconst C (v := (0 : Int32)) dX7_isWithin_14 (by decide) ?_
  refine or_sub [] rfl ?_
  exact w_X7_isWithin_15 C hl h (0 : Int32)
set_option maxHeartbeats 4000000 in
set_option maxRecDepth 100000 in
theorem w_X7_isWithin_0 {G : oh_G} {l : Launch} (C : oh_C G cX7_isWithin wsX7_isWithin RX7 rmX7_isWithin 3) (hl : G.1.2.1 = l) (h : oh_H) (v0 : Int32) (v1 : Int32) (v2 : Int32) : oh_J (oh_TR h xi (some .boolean) G) (f_X7_isWithin h v0 v1 v2) (oh_V G 0 0 h 0 [(0, xi v0), (1, xi v1), (2, xi v2)] []) := by
  unfold f_X7_isWithin
  refine or_iload_n C 1 rfl dX7_isWithin_0 ?_
  refine or_iload_n C 0 rfl dX7_isWithin_1 ?_
  refine or_icmp_gt C 14 dX7_isWithin_2 (by decide) ?_ ?_
  · refine or_sub [] rfl ?_
    exact w_X7_isWithin_14 C hl h
  · refine or_iload_n C 0 rfl dX7_isWithin_5 ?_
    refine or_iload_n C 2 rfl dX7_isWithin_6 ?_
    refine or_icmp_gt C 14 dX7_isWithin_7 (by decide) ?_ ?_
    · refine or_sub [] rfl ?_
      exact w_X7_isWithin_14 C hl h
    · refine or_iconst C (v := (1 : Int32)) dX7_isWithin_10 (by decide) ?_
      refine or_goto C 15 dX7_isWithin_11 (by decide) ?_
      refine or_sub [] rfl ?_
      exact w_X7_isWithin_15 C hl h (1 : Int32)
theorem m_X7_isWithin (l : Launch) (h : oh_H) (v0 : Int32) (v1 : Int32) (v2 : Int32) (p : Int32) (hf : f_X7_isWithin h v0 v1 v2 = some p) : oh_M l yX7_isWithin wsX7_isWithin rmX7_isWithin 0 0 [xi v0, xi v1, xi v2] h (some (xi p)) h :=
  oh_met (cc := cX7_isWithin) (maxL := 3) (ret := (some .boolean)) (by decide) rfl (Nat.le_of_ble_eq_true rfl) (fun G C hl hN E => w_X7_isWithin_0 C hl h v0 v1 v2 p hf E)
/-! X7_isFarmer -/
abbrev rmX7_isFarmer : Room := { frames := 1, cells := 0, slots := 0, locals := 22 }
def f_X7_isFarmer (h : oh_H) (v0 : Int32) : Option (Int32) :=
  (f_X7_isWithin h v0 (0 : Int32) (39 : Int32)).bind fun p1 => oh_bz p1 (some p1)
set_option maxHeartbeats 4000000 in
set_option maxRecDepth 100000 in
theorem w_X7_isFarmer_0 {G : oh_G} {l : Launch} (C : oh_C G cX7_isFarmer wsX7_isFarmer RX7 rmX7_isFarmer 1) (hl : G.1.2.1 = l) (h : oh_H) (v0 : Int32) : oh_J (oh_TR h xi (some .boolean) G) (f_X7_isFarmer h v0) (oh_V G 0 0 h 0 [(0, xi v0)] []) := by
  unfold f_X7_isFarmer
  refine or_iload_n C 0 rfl dX7_isFarmer_0 ?_
  refine or_iconst C (v := (0 : Int32)) dX7_isFarmer_1 (by decide) ?_
  refine or_bipush C (v := (39 : Int32)) dX7_isFarmer_2 (by decide) ?_
  refine oj_bind (fun p1 z2 => ?_)
  refine oj_v (P := oh_V G 0 0 h 7 [(0, xi v0)] [xi p1]) (fun k => or_callS C 3 hl (m_X7_isWithin _ h v0 (0 : Int32) (39 : Int32) p1 z2) gX7_isFarmer_X7_isWithin rfl rfl rfl (by decide +kernel) ⟨Nat.le_of_ble_eq_true rfl, Nat.le_of_ble_eq_true rfl⟩ (Nat.le_of_ble_eq_true rfl) dX7_isFarmer_4 ⟨Nat.le_of_ble_eq_true rfl, Nat.le_of_ble_eq_true rfl⟩ rfl rfl k) ?_
  exact or_zretR C dX7_isFarmer_7
theorem m_X7_isFarmer (l : Launch) (h : oh_H) (v0 : Int32) (p : Int32) (hf : f_X7_isFarmer h v0 = some p) : oh_M l yX7_isFarmer wsX7_isFarmer rmX7_isFarmer 0 0 [xi v0] h (some (xi p)) h :=
  oh_met (cc := cX7_isFarmer) (maxL := 1) (ret := (some .boolean)) (by decide) rfl (Nat.le_of_ble_eq_true rfl) (fun G C hl hN E => w_X7_isFarmer_0 C hl h v0 p hf E)
/-! X7_isSort -/
abbrev rmX7_isSort : Room := { frames := 1, cells := 0, slots := 0, locals := 22 }
def f_X7_isSort (h : oh_H) (v0 : Int32) : Option (Int32) :=
  (f_X7_isWithin h v0 (0 : Int32) (2 : Int32)).bind fun p1 => oh_bz p1 (some p1)
set_option maxHeartbeats 4000000 in
set_option maxRecDepth 100000 in
theorem w_X7_isSort_0 {G : oh_G} {l : Launch} (C : oh_C G cX7_isSort wsX7_isSort RX7 rmX7_isSort 1) (hl : G.1.2.1 = l) (h : oh_H) (v0 : Int32) : oh_J (oh_TR h xi (some .boolean) G) (f_X7_isSort h v0) (oh_V G 0 0 h 0 [(0, xi v0)] []) := by
  unfold f_X7_isSort
  refine or_iload_n C 0 rfl dX7_isSort_0 ?_
  refine or_iconst C (v := (0 : Int32)) dX7_isSort_1 (by decide) ?_
  refine or_iconst C (v := (2 : Int32)) dX7_isSort_2 (by decide) ?_
  refine oj_bind (fun p1 z2 => ?_)
  refine oj_v (P := oh_V G 0 0 h 6 [(0, xi v0)] [xi p1]) (fun k => or_callS C 3 hl (m_X7_isWithin _ h v0 (0 : Int32) (2 : Int32) p1 z2) gX7_isSort_X7_isWithin rfl rfl rfl (by decide +kernel) ⟨Nat.le_of_ble_eq_true rfl, Nat.le_of_ble_eq_true rfl⟩ (Nat.le_of_ble_eq_true rfl) dX7_isSort_3 ⟨Nat.le_of_ble_eq_true rfl, Nat.le_of_ble_eq_true rfl⟩ rfl rfl k) ?_
  exact or_zretR C dX7_isSort_6
theorem m_X7_isSort (l : Launch) (h : oh_H) (v0 : Int32) (p : Int32) (hf : f_X7_isSort h v0 = some p) : oh_M l yX7_isSort wsX7_isSort rmX7_isSort 0 0 [xi v0] h (some (xi p)) h :=
  oh_met (cc := cX7_isSort) (maxL := 1) (ret := (some .boolean)) (by decide) rfl (Nat.le_of_ble_eq_true rfl) (fun G C hl hN E => w_X7_isSort_0 C hl h v0 p hf E)
/-! X0_owed -/
theorem k_X0_owed_it7 : Cond.initialized RX7 ∈ wsX0_owed := List.mem_of_getElem? (i := 3) (by decide +kernel)
theorem k_X0_owed_stX7_isFarmer : Cond.static yX7_isFarmer ∈ wsX0_owed := List.mem_of_getElem? (i := 2) (by decide +kernel)
theorem k_X0_owed_stX7_isSort : Cond.static yX7_isSort ∈ wsX0_owed := List.mem_of_getElem? (i := 8) (by decide +kernel)
theorem k_X0_owed_f9 : Cond.fieldLink RX0 9 "OilPress$Debts" "rows" "[I" ∈ wsX0_owed := List.mem_of_getElem? (i := 1) (by decide +kernel)
theorem u_X0_owed_0 : ∀ w ∈ u_ws RX0 TX0 1, w ∈ wsX0_owed := fun w h => List.mem_cons_of_mem _ (List.mem_append_right _ (h))
abbrev rmX0_owed : Room := { frames := 2, cells := 0, slots := 0, locals := 42 }
def f_X0_owed_28 (h : oh_H) (o : Nat) (s0 : Int32) : Option (Int32) :=
  some s0
def f_X0_owed_27 (h : oh_H) (o : Nat) : Option (Int32) :=
  f_X0_owed_28 h o (0 : Int32)
def f_X0_owed (h : oh_H) (o : Nat) (v1 : Int32) (v2 : Int32) : Option (Int32) :=
  (f_X7_isFarmer h v1).bind fun p1 => if p1 = 0 then (f_X0_owed_27 h o) else ((f_X7_isSort h v2).bind fun p3 => if p3 = 0 then (f_X0_owed_27 h o) else ((oh_gR h (some o) 0).bind fun x5 => (oh_aI h x5 20 ((v1 * (3 : Int32)) + v2)).bind fun x6 => f_X0_owed_28 h o x6))
set_option maxHeartbeats 4000000 in
set_option maxRecDepth 100000 in
theorem w_X0_owed_28 {G : oh_G} {l : Launch} (C : oh_C G cX0_owed wsX0_owed RX0 rmX0_owed 3) (hl : G.1.2.1 = l) (h : oh_H) (o : Nat) (s0 : Int32) : oh_J (oh_TR h xi (some .int) G) (f_X0_owed_28 h o s0) (oh_V G 0 0 h 28 [] [xi s0]) := by
  unfold f_X0_owed_28
  exact or_iretR C dX0_owed_28
set_option maxHeartbeats 4000000 in
set_option maxRecDepth 100000 in
theorem w_X0_owed_27 {G : oh_G} {l : Launch} (C : oh_C G cX0_owed wsX0_owed RX0 rmX0_owed 3) (hl : G.1.2.1 = l) (h : oh_H) (o : Nat) : oh_J (oh_TR h xi (some .int) G) (f_X0_owed_27 h o) (oh_V G 0 0 h 27 [] []) := by
  unfold f_X0_owed_27
  refine or_iconst C (v := (0 : Int32)) dX0_owed_27 (by decide) ?_
  refine or_sub [] rfl ?_
  exact w_X0_owed_28 C hl h o (0 : Int32)
set_option maxHeartbeats 4000000 in
set_option maxRecDepth 100000 in
theorem w_X0_owed_0 {G : oh_G} {l : Launch} (C : oh_C G cX0_owed wsX0_owed RX0 rmX0_owed 3) (hl : G.1.2.1 = l) (h : oh_H) (o : Nat) (v1 : Int32) (v2 : Int32) : oh_J (oh_TR h xi (some .int) G) (f_X0_owed h o v1 v2) (oh_V G 0 0 h 0 [(0, xr (some o)), (1, xi v1), (2, xi v2)] []) := by
  unfold f_X0_owed
  refine or_iload_n C 1 rfl dX0_owed_0 ?_
  refine oj_bind (fun p1 z2 => ?_)
  refine oj_v (P := oh_V G 0 0 h 4 [(0, xr (some o)), (1, xi v1), (2, xi v2)] [xi p1]) (fun k => or_callSN C 1 hl (m_X7_isFarmer _ h v1 p1 z2) gX0_owed_X7_isFarmer_n15 rfl rfl rfl (List.mem_of_getElem? (i := 0) rfl) k_X0_owed_it7 k_X0_owed_stX7_isFarmer (by decide +kernel) ⟨Nat.le_of_ble_eq_true rfl, Nat.le_of_ble_eq_true rfl⟩ (Nat.le_of_ble_eq_true rfl) dX0_owed_1 ⟨Nat.le_of_ble_eq_true rfl, Nat.le_of_ble_eq_true rfl⟩ rfl rfl k) ?_
  refine or_if_eq C 27 dX0_owed_4 (by decide) ?_ ?_
  · refine or_sub [] rfl ?_
    exact w_X0_owed_27 C hl h o
  · refine or_iload_n C 2 rfl dX0_owed_7 ?_
    refine oj_bind (fun p3 z4 => ?_)
    refine oj_v (P := oh_V G 0 0 h 11 [(0, xr (some o)), (1, xi v1), (2, xi v2)] [xi p3]) (fun k => or_callSN C 1 hl (m_X7_isSort _ h v2 p3 z4) gX0_owed_X7_isSort_n19 rfl rfl rfl (List.mem_of_getElem? (i := 1) rfl) k_X0_owed_it7 k_X0_owed_stX7_isSort (by decide +kernel) ⟨Nat.le_of_ble_eq_true rfl, Nat.le_of_ble_eq_true rfl⟩ (Nat.le_of_ble_eq_true rfl) dX0_owed_8 ⟨Nat.le_of_ble_eq_true rfl, Nat.le_of_ble_eq_true rfl⟩ rfl rfl k) ?_
    refine or_if_eq C 27 dX0_owed_11 (by decide) ?_ ?_
    · refine or_sub [] rfl ?_
      exact w_X0_owed_27 C hl h o
    · refine or_aload_n C 0 rfl dX0_owed_14 ?_
      refine or_getR C 0 0 rfl (by decide) rfl (by decide) u_X0_owed_0 (by decide) k_X0_owed_f9 (by decide +kernel) dX0_owed_15 (fun x5 => ?_)
      refine or_iload_n C 1 rfl dX0_owed_18 ?_
      refine or_iconst C (v := (3 : Int32)) dX0_owed_19 (by decide) ?_
      refine or_imul C dX0_owed_20 ?_
      refine or_iload_n C 2 rfl dX0_owed_21 ?_
      refine or_iadd C dX0_owed_22 ?_
      refine or_iald C dX0_owed_23 (fun x6 => ?_)
      refine or_goto C 28 dX0_owed_24 (by decide) ?_
      refine or_sub [] rfl ?_
      exact w_X0_owed_28 C hl h o x6
theorem m_X0_owed (l : Launch) (h : oh_H) (o : Nat) (v1 : Int32) (v2 : Int32) (p : Int32) (hf : f_X0_owed h o v1 v2 = some p) : oh_M l yX0_owed wsX0_owed rmX0_owed 0 0 [xr (some o), xi v1, xi v2] h (some (xi p)) h :=
  oh_met (cc := cX0_owed) (maxL := 3) (ret := (some .int)) (by decide) rfl (Nat.le_of_ble_eq_true rfl) (fun G C hl hN E => w_X0_owed_0 C hl h o v1 v2 p hf E)
/-! X0_change -/
theorem k_X0_change_it7 : Cond.initialized RX7 ∈ wsX0_change := List.mem_of_getElem? (i := 3) (by decide +kernel)
theorem k_X0_change_stX7_isFarmer : Cond.static yX7_isFarmer ∈ wsX0_change := List.mem_of_getElem? (i := 2) (by decide +kernel)
theorem k_X0_change_stX7_isSort : Cond.static yX7_isSort ∈ wsX0_change := List.mem_of_getElem? (i := 8) (by decide +kernel)
theorem k_X0_change_f9 : Cond.fieldLink RX0 9 "OilPress$Debts" "rows" "[I" ∈ wsX0_change := List.mem_of_getElem? (i := 1) (by decide +kernel)
theorem u_X0_change_0 : ∀ w ∈ u_ws RX0 TX0 1, w ∈ wsX0_change := fun w h => List.mem_cons_of_mem _ (List.mem_append_right _ (h))
abbrev rmX0_change : Room := { frames := 2, cells := 0, slots := 0, locals := 42 }
def f_X0_change_28 (h : oh_H) (o : Nat) : Option (oh_H) :=
  some h
def f_X0_change (h : oh_H) (o : Nat) (v1 : Int32) (v2 : Int32) (v3 : Int32) : Option (oh_H) :=
  (f_X7_isFarmer h v1).bind fun p1 => if p1 = 0 then (f_X0_change_28 h o) else ((f_X7_isSort h v2).bind fun p3 => if p3 = 0 then (f_X0_change_28 h o) else ((oh_gR h (some o) 0).bind fun x5 => (oh_aI h x5 20 ((v1 * (3 : Int32)) + v2)).bind fun x6 => (oh_tI h x5 20 ((v1 * (3 : Int32)) + v2) (x6 + v3)).bind fun h7 => f_X0_change_28 h7 o))
set_option maxHeartbeats 4000000 in
set_option maxRecDepth 100000 in
theorem w_X0_change_28 {G : oh_G} {l : Launch} (C : oh_C G cX0_change wsX0_change RX0 rmX0_change 4) (hl : G.1.2.1 = l) (h0 : oh_H) (h : oh_H) (o : Nat) : oh_J (oh_TV h0 0 0 none G) (f_X0_change_28 h o) (oh_V G 0 0 h 28 [] []) := by
  unfold f_X0_change_28
  exact or_vret C ⟨Nat.le_of_ble_eq_true rfl, Nat.le_of_ble_eq_true rfl⟩ dX0_change_28
set_option maxHeartbeats 4000000 in
set_option maxRecDepth 100000 in
theorem w_X0_change_0 {G : oh_G} {l : Launch} (C : oh_C G cX0_change wsX0_change RX0 rmX0_change 4) (hl : G.1.2.1 = l) (h0 : oh_H) (h : oh_H) (o : Nat) (v1 : Int32) (v2 : Int32) (v3 : Int32) : oh_J (oh_TV h0 0 0 none G) (f_X0_change h o v1 v2 v3) (oh_V G 0 0 h 0 [(0, xr (some o)), (1, xi v1), (2, xi v2), (3, xi v3)] []) := by
  unfold f_X0_change
  refine or_iload_n C 1 rfl dX0_change_0 ?_
  refine oj_bind (fun p1 z2 => ?_)
  refine oj_v (P := oh_V G 0 0 h 4 [(0, xr (some o)), (1, xi v1), (2, xi v2), (3, xi v3)] [xi p1]) (fun k => or_callSN C 1 hl (m_X7_isFarmer _ h v1 p1 z2) gX0_change_X7_isFarmer_n15 rfl rfl rfl (List.mem_of_getElem? (i := 0) rfl) k_X0_change_it7 k_X0_change_stX7_isFarmer (by decide +kernel) ⟨Nat.le_of_ble_eq_true rfl, Nat.le_of_ble_eq_true rfl⟩ (Nat.le_of_ble_eq_true rfl) dX0_change_1 ⟨Nat.le_of_ble_eq_true rfl, Nat.le_of_ble_eq_true rfl⟩ rfl rfl k) ?_
  refine or_if_eq C 28 dX0_change_4 (by decide) ?_ ?_
  · refine or_sub [] rfl ?_
    exact w_X0_change_28 C hl h0 h o
  · refine or_iload_n C 2 rfl dX0_change_7 ?_
    refine oj_bind (fun p3 z4 => ?_)
    refine oj_v (P := oh_V G 0 0 h 11 [(0, xr (some o)), (1, xi v1), (2, xi v2), (3, xi v3)] [xi p3]) (fun k => or_callSN C 1 hl (m_X7_isSort _ h v2 p3 z4) gX0_change_X7_isSort_n19 rfl rfl rfl (List.mem_of_getElem? (i := 1) rfl) k_X0_change_it7 k_X0_change_stX7_isSort (by decide +kernel) ⟨Nat.le_of_ble_eq_true rfl, Nat.le_of_ble_eq_true rfl⟩ (Nat.le_of_ble_eq_true rfl) dX0_change_8 ⟨Nat.le_of_ble_eq_true rfl, Nat.le_of_ble_eq_true rfl⟩ rfl rfl k) ?_
    refine or_if_eq C 28 dX0_change_11 (by decide) ?_ ?_
    · refine or_sub [] rfl ?_
      exact w_X0_change_28 C hl h0 h o
    · refine or_aload_n C 0 rfl dX0_change_14 ?_
      refine or_getR C 0 0 rfl (by decide) rfl (by decide) u_X0_change_0 (by decide) k_X0_change_f9 (by decide +kernel) dX0_change_15 (fun x5 => ?_)
      refine or_iload_n C 1 rfl dX0_change_18 ?_
      refine or_iconst C (v := (3 : Int32)) dX0_change_19 (by decide) ?_
      refine or_imul C dX0_change_20 ?_
      refine or_iload_n C 2 rfl dX0_change_21 ?_
      refine or_iadd C dX0_change_22 ?_
      refine or_dup2 C rfl rfl dX0_change_23 ?_
      refine or_iald C dX0_change_24 (fun x6 => ?_)
      refine or_iload_n C 3 rfl dX0_change_25 ?_
      refine or_iadd C dX0_change_26 ?_
      refine or_iast C dX0_change_27 (fun h7 => ?_)
      refine or_sub [] rfl ?_
      exact w_X0_change_28 C hl h0 h7 o
theorem m_X0_change (l : Launch) (h : oh_H) (o : Nat) (v1 : Int32) (v2 : Int32) (v3 : Int32) (p : oh_H) (hf : f_X0_change h o v1 v2 v3 = some p) : oh_M l yX0_change wsX0_change rmX0_change 0 0 [xr (some o), xi v1, xi v2, xi v3] h none p :=
  oh_met (cc := cX0_change) (maxL := 4) (ret := none) (by decide) rfl (Nat.le_of_ble_eq_true rfl) (fun G C hl hN E => w_X0_change_0 C hl h h o v1 v2 v3 p hf E)
/-! X7_divideUp -/
abbrev rmX7_divideUp : Room := { frames := 0, cells := 0, slots := 0, locals := 0 }
def f_X7_divideUp_17 (h : oh_H) (s0 : Int64) : Option (Int64) :=
  some s0
def f_X7_divideUp (h : oh_H) (v0 : Int64) (v2 : Int64) : Option (Int64) :=
  if 0 ≤ (lg_cmp v2 (1 : Int64)) then (if v2 = 0 then none else f_X7_divideUp_17 h (((v0 + v2) - (1 : Int64)) / v2)) else (f_X7_divideUp_17 h (0 : Int64))
set_option maxHeartbeats 4000000 in
set_option maxRecDepth 100000 in
theorem w_X7_divideUp_17 {G : oh_G} {l : Launch} (C : oh_C G cX7_divideUp wsX7_divideUp RX7 rmX7_divideUp 4) (hl : G.1.2.1 = l) (h : oh_H) (s0 : Int64) : oh_J (oh_TR h xl (some .long) G) (f_X7_divideUp_17 h s0) (oh_V G 0 0 h 17 [] [xl s0]) := by
  unfold f_X7_divideUp_17
  exact or_lretR C dX7_divideUp_17
set_option maxHeartbeats 4000000 in
set_option maxRecDepth 100000 in
theorem w_X7_divideUp_0 {G : oh_G} {l : Launch} (C : oh_C G cX7_divideUp wsX7_divideUp RX7 rmX7_divideUp 4) (hl : G.1.2.1 = l) (h : oh_H) (v0 : Int64) (v2 : Int64) : oh_J (oh_TR h xl (some .long) G) (f_X7_divideUp h v0 v2) (oh_V G 0 0 h 0 [(0, xl v0), (2, xl v2)] []) := by
  unfold f_X7_divideUp
  refine or_lload_n C 1 rfl dX7_divideUp_0 ?_
  refine or_lconst C (v := (1 : Int64)) dX7_divideUp_1 rfl ?_
  refine or_lcmp C dX7_divideUp_2 ?_
  refine or_if_ge C 10 dX7_divideUp_3 (by decide) ?_ ?_
  · refine or_lload_n C 0 rfl dX7_divideUp_10 ?_
    refine or_lload_n C 1 rfl dX7_divideUp_11 ?_
    refine or_ladd C dX7_divideUp_12 ?_
    refine or_lconst C (v := (1 : Int64)) dX7_divideUp_13 rfl ?_
    refine or_lsub C dX7_divideUp_14 ?_
    refine or_lload_n C 1 rfl dX7_divideUp_15 ?_
    refine or_ldiv C dX7_divideUp_16 ?_
    refine or_sub [] rfl ?_
    exact w_X7_divideUp_17 C hl h (((v0 + v2) - (1 : Int64)) / v2)
  · refine or_lconst C (v := (0 : Int64)) dX7_divideUp_6 rfl ?_
    refine or_goto C 17 dX7_divideUp_7 (by decide) ?_
    refine or_sub [] rfl ?_
    exact w_X7_divideUp_17 C hl h (0 : Int64)
theorem m_X7_divideUp (l : Launch) (h : oh_H) (v0 : Int64) (v2 : Int64) (p : Int64) (hf : f_X7_divideUp h v0 v2 = some p) : oh_M l yX7_divideUp wsX7_divideUp rmX7_divideUp 0 0 [xl v0, xl v2] h (some (xl p)) h :=
  oh_met (cc := cX7_divideUp) (maxL := 4) (ret := (some .long)) (by decide) rfl (Nat.le_of_ble_eq_true rfl) (fun G C hl hN E => w_X7_divideUp_0 C hl h v0 v2 p hf E)
/-! X0_settle -/
theorem k_X0_settle_c26 : Cond.constantLong RX0 26 (100) ∈ wsX0_settle := List.mem_of_getElem? (i := 1) (by decide +kernel)
theorem k_X0_settle_it7 : Cond.initialized RX7 ∈ wsX0_settle := List.mem_of_getElem? (i := 13) (by decide +kernel)
theorem k_X0_settle_stX7_divideUp : Cond.static yX7_divideUp ∈ wsX0_settle := List.mem_of_getElem? (i := 20) (by decide +kernel)
theorem k_X0_settle_ml32 : Cond.methodLink RX0 32 Lib.MathLoose.min_long.x ∈ wsX0_settle := List.mem_of_getElem? (i := 2) (by decide +kernel)
theorem k_X0_settle_msmminL : Cond.static Lib.MathLoose.min_long.x ∈ wsX0_settle := List.mem_of_getElem? (i := 3) (by decide +kernel)
theorem k_X0_settle_mi : Cond.initialized "java/lang/Math" ∈ wsX0_settle := List.mem_of_getElem? (i := 4) (by decide +kernel)
theorem k_X0_settle_mcmminL : Cond.code Lib.MathLoose.min_long.x Lib.MathLoose.min_long.code 4 (some .long) ∈ wsX0_settle := List.mem_of_getElem? (i := 5) (by decide +kernel)
abbrev rmX0_settle : Room := { frames := 3, cells := 0, slots := 0, locals := 65 }
def f_X0_settle_97 (h : oh_H) (o : Nat) (v3 : Int32) (v4 : Int32) : Option (Int32 × oh_H) :=
  some ((v3 - v4), h)
abbrev pv_X0_settle_6 (G : oh_G) (o : Nat) (v1 : Int32) (v2 : Int32) (v3 : Int32) : (oh_H × Int32 × Int32) → Prop := fun s => oh_V G 0 0 s.1 6 [(0, xr (some o)), (1, xi v1), (2, xi v2), (3, xi v3), (4, xi s.2.1), (5, xi s.2.2)] []
def b_X0_settle_6 (h : oh_H) (o : Nat) (v1 : Int32) (v2 : Int32) (v3 : Int32) (v4 : Int32) (v5 : Int32) : Option ((oh_H × Int32 × Int32) ⊕ (Int32 × oh_H)) :=
  if (3 : Int32) ≤ v5 then (Option.map Sum.inr (f_X0_settle_97 h o v3 v4)) else (if v4 ≤ 0 then (Option.map Sum.inr (f_X0_settle_97 h o v3 v4)) else (oh_lt ((100 : Int32) + ((10 : Int32) * (v5 - v2))) fun x1 => oh_rc h (some o) 1 fun o3 => (f_X0_owed h o3 v1 v5).bind fun p4 => oh_lt (Int32.toInt64 p4) fun x6 => (f_X7_divideUp h ((100 : Int64) * x6) (Int32.toInt64 x1)).bind fun p7 => oh_lt (if p7 < (Int32.toInt64 v4) then p7 else (Int32.toInt64 v4)) fun x9 => if (100 : Int64) = 0 then none else oh_rc h (some o) 1 fun o11 => (f_X0_change h o11 v1 v5 (Int64.toInt32 (-(if ((x9 * (Int32.toInt64 x1)) / (100 : Int64)) < x6 then ((x9 * (Int32.toInt64 x1)) / (100 : Int64)) else x6)))).bind fun p12 => oh_lt (v4 - (Int64.toInt32 x9)) fun x14 => oh_lt (v5 + (1 : Int32)) fun x15 => some (Sum.inl (p12, x14, x15))))
def f_X0_settle_6 (h : oh_H) (o : Nat) (v1 : Int32) (v2 : Int32) (v3 : Int32) (v4 : Int32) (v5 : Int32) : Option (Int32 × oh_H) := oh_loop (fun s : oh_H × Int32 × Int32 => b_X0_settle_6 s.1 o v1 v2 v3 s.2.1 s.2.2) 1000000 (h, v4, v5)
def f_X0_settle (h : oh_H) (o : Nat) (v1 : Int32) (v2 : Int32) (v3 : Int32) : Option (Int32 × oh_H) :=
  oh_lt v3 fun x1 => oh_lt v2 fun x2 => f_X0_settle_6 h o v1 v2 v3 x1 x2
set_option maxHeartbeats 4000000 in
set_option maxRecDepth 100000 in
theorem w_X0_settle_97 {G : oh_G} {l : Launch} (C : oh_C G cX0_settle wsX0_settle RX0 rmX0_settle 11) (hl : G.1.2.1 = l) (h0 : oh_H) (h : oh_H) (o : Nat) (v3 : Int32) (v4 : Int32) : oh_J (oh_TW h0 xi 0 0 (some .int) G) (f_X0_settle_97 h o v3 v4) (oh_V G 0 0 h 97 [(3, xi v3), (4, xi v4)] []) := by
  unfold f_X0_settle_97
  refine or_iload_n C 0 rfl dX0_settle_97 ?_
  refine or_iload C 1 rfl dX0_settle_98 ?_
  refine or_isub C dX0_settle_100 ?_
  exact or_iret C ⟨Nat.le_of_ble_eq_true rfl, Nat.le_of_ble_eq_true rfl⟩ dX0_settle_101
set_option maxHeartbeats 4000000 in
set_option maxRecDepth 100000 in
theorem wb_X0_settle_6 {G : oh_G} {l : Launch} (C : oh_C G cX0_settle wsX0_settle RX0 rmX0_settle 11) (hl : G.1.2.1 = l) (h0 : oh_H) (h : oh_H) (o : Nat) (v1 : Int32) (v2 : Int32) (v3 : Int32) (v4 : Int32) (v5 : Int32) : oh_J (oh_TL (pv_X0_settle_6 G o v1 v2 v3) (oh_TW h0 xi 0 0 (some .int) G)) (b_X0_settle_6 h o v1 v2 v3 v4 v5) (oh_V G 0 0 h 6 [(0, xr (some o)), (1, xi v1), (2, xi v2), (3, xi v3), (4, xi v4), (5, xi v5)] []) := by
  unfold b_X0_settle_6
  refine or_iload C 5 rfl dX0_settle_6 ?_
  refine or_iconst C (v := (3 : Int32)) dX0_settle_8 (by decide) ?_
  refine or_icmp_ge C 97 dX0_settle_9 (by decide) ?_ ?_
  · refine oj_inr ?_
    refine or_sub [3, 4] rfl ?_
    exact w_X0_settle_97 C hl h0 h o v3 v4
  · refine or_iload C 4 rfl dX0_settle_12 ?_
    refine or_if_le C 97 dX0_settle_14 (by decide) ?_ ?_
    · refine oj_inr ?_
      refine or_sub [3, 4] rfl ?_
      exact w_X0_settle_97 C hl h0 h o v3 v4
    · refine or_bipush C (v := (100 : Int32)) dX0_settle_17 (by decide) ?_
      refine or_bipush C (v := (10 : Int32)) dX0_settle_19 (by decide) ?_
      refine or_iload C 5 rfl dX0_settle_21 ?_
      refine or_iload_n C 2 rfl dX0_settle_23 ?_
      refine or_isub C dX0_settle_24 ?_
      refine or_imul C dX0_settle_25 ?_
      refine or_iadd C dX0_settle_26 ?_
      refine or_istore C (fun x1 => [(6, xi x1), (0, xr (some o)), (1, xi v1), (2, xi v2), (3, xi v3), (4, xi v4), (5, xi v5)]) (fun _ => rfl) (by decide) dX0_settle_27 (fun x1 => ?_)
      refine or_aload_n C 1 rfl dX0_settle_29 ?_
      refine or_iload_n C 2 rfl dX0_settle_30 ?_
      refine or_iload C 6 rfl dX0_settle_31 ?_
      refine oj_rcs (fun q2 => ?_)
      refine oj_bind (fun p4 z5 => ?_)
      refine oj_v (P := oh_V G 0 0 h 36 [(6, xi x1), (0, xr (some o)), (1, xi v1), (2, xi v2), (3, xi v3), (4, xi v4), (5, xi v5)] [xi p4]) (fun k => or_callV C 2 hl (m_X0_owed _ h o v1 v5 p4 z5) gX0_settle_X0_owed rfl rfl rfl (by decide +kernel) ⟨Nat.le_of_ble_eq_true rfl, Nat.le_of_ble_eq_true rfl⟩ q2 rfl (by decide) (Nat.le_of_ble_eq_true rfl) dX0_settle_33 ⟨Nat.le_of_ble_eq_true rfl, Nat.le_of_ble_eq_true rfl⟩ rfl rfl k) ?_
      refine or_i2l C dX0_settle_36 ?_
      refine or_lstore C (fun x6 => [(7, xl x6), (6, xi x1), (0, xr (some o)), (1, xi v1), (2, xi v2), (3, xi v3), (4, xi v4), (5, xi v5)]) (fun _ => rfl) (by decide) dX0_settle_37 (fun x6 => ?_)
      refine or_iload C 6 rfl dX0_settle_39 ?_
      refine or_i2l C dX0_settle_41 ?_
      refine or_ldc2 C (v := (100 : Int64)) k_X0_settle_c26 dX0_settle_42 ?_
      refine or_lload C 0 rfl dX0_settle_45 ?_
      refine or_lmul C dX0_settle_47 ?_
      refine or_iload C 1 rfl dX0_settle_48 ?_
      refine or_i2l C dX0_settle_50 ?_
      refine oj_bind (fun p7 z8 => ?_)
      refine oj_v (P := oh_V G 0 0 h 54 [(7, xl x6), (6, xi x1), (0, xr (some o)), (1, xi v1), (2, xi v2), (3, xi v3), (4, xi v4), (5, xi v5)] [xl p7, xl (Int32.toInt64 v4)]) (fun k => or_callSN C 2 hl (m_X7_divideUp _ h ((100 : Int64) * x6) (Int32.toInt64 x1) p7 z8) gX0_settle_X7_divideUp_n28 rfl rfl rfl (List.mem_of_getElem? (i := 2) rfl) k_X0_settle_it7 k_X0_settle_stX7_divideUp (by decide +kernel) ⟨Nat.le_of_ble_eq_true rfl, Nat.le_of_ble_eq_true rfl⟩ (Nat.le_of_ble_eq_true rfl) dX0_settle_51 ⟨Nat.le_of_ble_eq_true rfl, Nat.le_of_ble_eq_true rfl⟩ rfl rfl k) ?_
      refine or_mminL C k_X0_settle_ml32 k_X0_settle_msmminL k_X0_settle_mi k_X0_settle_mcmminL ⟨Nat.le_of_ble_eq_true rfl, Nat.le_of_ble_eq_true rfl, Nat.le_of_ble_eq_true rfl⟩ (Nat.le_of_ble_eq_true rfl) dX0_settle_54 ?_
      refine or_lstore C (fun x9 => [(9, xl x9), (7, xl x6), (6, xi x1), (0, xr (some o)), (1, xi v1), (2, xi v2), (3, xi v3), (4, xi v4), (5, xi v5)]) (fun _ => rfl) (by decide) dX0_settle_57 (fun x9 => ?_)
      refine or_aload_n C 3 rfl dX0_settle_59 ?_
      refine or_iload_n C 4 rfl dX0_settle_60 ?_
      refine or_iload C 8 rfl dX0_settle_61 ?_
      refine or_lload C 1 rfl dX0_settle_63 ?_
      refine or_lload C 0 rfl dX0_settle_65 ?_
      refine or_iload C 2 rfl dX0_settle_67 ?_
      refine or_i2l C dX0_settle_69 ?_
      refine or_lmul C dX0_settle_70 ?_
      refine or_ldc2 C (v := (100 : Int64)) k_X0_settle_c26 dX0_settle_71 ?_
      refine or_ldiv C dX0_settle_74 ?_
      refine or_mminL C k_X0_settle_ml32 k_X0_settle_msmminL k_X0_settle_mi k_X0_settle_mcmminL ⟨Nat.le_of_ble_eq_true rfl, Nat.le_of_ble_eq_true rfl, Nat.le_of_ble_eq_true rfl⟩ (Nat.le_of_ble_eq_true rfl) dX0_settle_75 ?_
      refine or_lneg C dX0_settle_78 ?_
      refine or_l2i C dX0_settle_79 ?_
      refine oj_rcs (fun q10 => ?_)
      refine oj_bind (fun p12 z13 => ?_)
      refine oj_v (P := oh_V G 0 0 p12 83 [(9, xl x9), (7, xl x6), (6, xi x1), (0, xr (some o)), (1, xi v1), (2, xi v2), (3, xi v3), (4, xi v4), (5, xi v5)] []) (fun k => or_callV C 3 hl (m_X0_change _ h o v1 v5 (Int64.toInt32 (-(if ((x9 * (Int32.toInt64 x1)) / (100 : Int64)) < x6 then ((x9 * (Int32.toInt64 x1)) / (100 : Int64)) else x6))) p12 z13) gX0_settle_X0_change rfl rfl rfl (by decide +kernel) ⟨Nat.le_of_ble_eq_true rfl, Nat.le_of_ble_eq_true rfl⟩ q10 rfl (by decide) (Nat.le_of_ble_eq_true rfl) dX0_settle_80 ⟨Nat.le_of_ble_eq_true rfl, Nat.le_of_ble_eq_true rfl⟩ rfl rfl k) ?_
      refine or_iload C 7 rfl dX0_settle_83 ?_
      refine or_lload C 0 rfl dX0_settle_85 ?_
      refine or_l2i C dX0_settle_87 ?_
      refine or_isub C dX0_settle_88 ?_
      refine or_istore C (fun x14 => [(4, xi x14), (9, xl x9), (7, xl x6), (6, xi x1), (0, xr (some o)), (1, xi v1), (2, xi v2), (3, xi v3), (5, xi v5)]) (fun _ => rfl) (by decide) dX0_settle_89 (fun x14 => ?_)
      refine or_iinc C (y := (1 : Int32)) 8 rfl (by decide) (fun x15 => [(5, xi x15), (4, xi x14), (9, xl x9), (7, xl x6), (6, xi x1), (0, xr (some o)), (1, xi v1), (2, xi v2), (3, xi v3)]) (fun _ => rfl) (by decide) dX0_settle_91 (fun x15 => ?_)
      refine or_goto C 6 dX0_settle_94 (by decide) ?_
      refine or_sub [5, 6, 7, 8, 1, 0] rfl ?_
      exact oj_back (P := pv_X0_settle_6 G o v1 v2 v3) (s := (p12, x14, x15))
theorem w_X0_settle_6 {G : oh_G} {l : Launch} (C : oh_C G cX0_settle wsX0_settle RX0 rmX0_settle 11) (hl : G.1.2.1 = l) (h0 : oh_H) (h : oh_H) (o : Nat) (v1 : Int32) (v2 : Int32) (v3 : Int32) (v4 : Int32) (v5 : Int32) : oh_J (oh_TW h0 xi 0 0 (some .int) G) (f_X0_settle_6 h o v1 v2 v3 v4 v5) (oh_V G 0 0 h 6 [(0, xr (some o)), (1, xi v1), (2, xi v2), (3, xi v3), (4, xi v4), (5, xi v5)] []) := by
  unfold f_X0_settle_6
  exact oj_loop (P := pv_X0_settle_6 G o v1 v2 v3) (fun s => wb_X0_settle_6 C hl h0 s.1 o v1 v2 v3 s.2.1 s.2.2) 1000000 (h, v4, v5)
set_option maxHeartbeats 4000000 in
set_option maxRecDepth 100000 in
theorem w_X0_settle_0 {G : oh_G} {l : Launch} (C : oh_C G cX0_settle wsX0_settle RX0 rmX0_settle 11) (hl : G.1.2.1 = l) (h0 : oh_H) (h : oh_H) (o : Nat) (v1 : Int32) (v2 : Int32) (v3 : Int32) : oh_J (oh_TW h0 xi 0 0 (some .int) G) (f_X0_settle h o v1 v2 v3) (oh_V G 0 0 h 0 [(0, xr (some o)), (1, xi v1), (2, xi v2), (3, xi v3)] []) := by
  unfold f_X0_settle
  refine or_iload_n C 3 rfl dX0_settle_0 ?_
  refine or_istore C (fun x1 => [(4, xi x1), (0, xr (some o)), (1, xi v1), (2, xi v2), (3, xi v3)]) (fun _ => rfl) (by decide) dX0_settle_1 (fun x1 => ?_)
  refine or_iload_n C 3 rfl dX0_settle_3 ?_
  refine or_istore C (fun x2 => [(5, xi x2), (4, xi x1), (0, xr (some o)), (1, xi v1), (2, xi v2), (3, xi v3)]) (fun _ => rfl) (by decide) dX0_settle_4 (fun x2 => ?_)
  refine or_sub [2, 3, 4, 5, 1, 0] rfl ?_
  exact w_X0_settle_6 C hl h0 h o v1 v2 v3 x1 x2
theorem m_X0_settle (l : Launch) (h : oh_H) (o : Nat) (v1 : Int32) (v2 : Int32) (v3 : Int32) (p : Int32 × oh_H) (hf : f_X0_settle h o v1 v2 v3 = some p) : oh_M l yX0_settle wsX0_settle rmX0_settle 0 0 [xr (some o), xi v1, xi v2, xi v3] h (some (xi p.1)) p.2 :=
  oh_met (cc := cX0_settle) (maxL := 11) (ret := (some .int)) (by decide) rfl (Nat.le_of_ble_eq_true rfl) (fun G C hl hN E => w_X0_settle_0 C hl h h o v1 v2 v3 p hf E)
/-! X1_init -/
theorem k_X1_init_ol1 : Cond.methodLink RX1 1 objectInit ∈ wsX1_init := List.mem_of_getElem? (i := 1) (by decide +kernel)
theorem k_X1_init_oi : Cond.instanceMethod objectInit ∈ wsX1_init := List.mem_of_getElem? (i := 2) (by decide +kernel)
theorem k_X1_init_oc : Cond.code objectInit ⟨#[0xb1]⟩ 1 none ∈ wsX1_init := List.mem_of_getElem? (i := 3) (by decide +kernel)
theorem k_X1_init_f7 : Cond.fieldLink RX1 7 "OilPress$Grove" "number" "I" ∈ wsX1_init := List.mem_of_getElem? (i := 4) (by decide +kernel)
theorem u_X1_init_1 : ∀ w ∈ u_ws RX1 TX1 3, w ∈ wsX1_init := fun w h => List.mem_cons_of_mem _ (List.mem_append_right _ (h))
theorem k_X1_init_f13 : Cond.fieldLink RX1 13 "OilPress$Grove" "farmer" "I" ∈ wsX1_init := List.mem_of_getElem? (i := 5) (by decide +kernel)
theorem k_X1_init_f16 : Cond.fieldLink RX1 16 "OilPress$Grove" "like" "I" ∈ wsX1_init := List.mem_of_getElem? (i := 6) (by decide +kernel)
abbrev rmX1_init : Room := { frames := 1, cells := 0, slots := 0, locals := 20 }
def f_X1_init (h : oh_H) (o : Nat) (v1 : Int32) (v2 : Int32) (v3 : Int32) : Option (oh_H) :=
  (oh_pI h (some o) 64 v1).bind fun h1 => (oh_pI h1 (some o) 65 v2).bind fun h2 => (oh_pI h2 (some o) 66 v3).bind fun h3 => some h3
set_option maxHeartbeats 4000000 in
set_option maxRecDepth 100000 in
theorem w_X1_init_0 {G : oh_G} {l : Launch} (C : oh_C G cX1_init wsX1_init RX1 rmX1_init 4) (hl : G.1.2.1 = l) (hN : G.2.1.2.2.2.1.name = "<init>") (h0 : oh_H) (h : oh_H) (o : Nat) (v1 : Int32) (v2 : Int32) (v3 : Int32) : oh_J (oh_TV h0 0 0 none G) (f_X1_init h o v1 v2 v3) (oh_V G 0 0 h 0 [(0, xr (some o)), (1, xi v1), (2, xi v2), (3, xi v3)] []) := by
  unfold f_X1_init
  refine or_aload_n C 0 rfl dX1_init_0 ?_
  refine or_objinit C k_X1_init_ol1 k_X1_init_oi k_X1_init_oc (Nat.le_of_ble_eq_true rfl) (Nat.le_of_ble_eq_true rfl) dX1_init_1 ?_
  refine or_aload_n C 0 rfl dX1_init_4 ?_
  refine or_iload_n C 1 rfl dX1_init_5 ?_
  refine or_putI C 1 0 rfl (by decide) rfl (by decide) u_X1_init_1 tyX1 tyX1_ok nmX1 (by decide) k_X1_init_f7 (Or.inr ⟨rfl, hN, rfl⟩) (by decide +kernel) rfl dX1_init_6 (fun h1 => ?_)
  refine or_aload_n C 0 rfl dX1_init_9 ?_
  refine or_iload_n C 2 rfl dX1_init_10 ?_
  refine or_putI C 1 1 rfl (by decide) rfl (by decide) u_X1_init_1 tyX1 tyX1_ok nmX1 (by decide) k_X1_init_f13 (Or.inr ⟨rfl, hN, rfl⟩) (by decide +kernel) rfl dX1_init_11 (fun h2 => ?_)
  refine or_aload_n C 0 rfl dX1_init_14 ?_
  refine or_iload_n C 3 rfl dX1_init_15 ?_
  refine or_putI C 1 2 rfl (by decide) rfl (by decide) u_X1_init_1 tyX1 tyX1_ok nmX1 (by decide) k_X1_init_f16 (Or.inr ⟨rfl, hN, rfl⟩) (by decide +kernel) rfl dX1_init_16 (fun h3 => ?_)
  exact or_vret C ⟨Nat.le_of_ble_eq_true rfl, Nat.le_of_ble_eq_true rfl⟩ dX1_init_19
theorem m_X1_init (l : Launch) (h : oh_H) (o : Nat) (v1 : Int32) (v2 : Int32) (v3 : Int32) (p : oh_H) (hf : f_X1_init h o v1 v2 v3 = some p) : oh_M l yX1_init wsX1_init rmX1_init 0 0 [xr (some o), xi v1, xi v2, xi v3] h none p :=
  oh_met (cc := cX1_init) (maxL := 4) (ret := none) (by decide) rfl (Nat.le_of_ble_eq_true rfl) (fun G C hl hN E => w_X1_init_0 C hl hN h h o v1 v2 v3 p hf E)
/-! X2_init -/
theorem k_X2_init_ol3 : Cond.methodLink RX2 3 objectInit ∈ wsX2_init := List.mem_of_getElem? (i := 1) (by decide +kernel)
theorem k_X2_init_oi : Cond.instanceMethod objectInit ∈ wsX2_init := List.mem_of_getElem? (i := 2) (by decide +kernel)
theorem k_X2_init_oc : Cond.code objectInit ⟨#[0xb1]⟩ 1 none ∈ wsX2_init := List.mem_of_getElem? (i := 3) (by decide +kernel)
theorem k_X2_init_f9 : Cond.fieldLink RX2 9 "OilPress$Lot" "state" "I" ∈ wsX2_init := List.mem_of_getElem? (i := 4) (by decide +kernel)
theorem u_X2_init_2 : ∀ w ∈ u_ws RX2 TX2 12, w ∈ wsX2_init := fun w h => List.mem_cons_of_mem _ (List.mem_append_right _ (h))
theorem k_X2_init_f15 : Cond.fieldLink RX2 15 "OilPress$Lot" "tenths" "I" ∈ wsX2_init := List.mem_of_getElem? (i := 5) (by decide +kernel)
theorem k_X2_init_f18 : Cond.fieldLink RX2 18 "OilPress$Lot" "thousandths" "I" ∈ wsX2_init := List.mem_of_getElem? (i := 6) (by decide +kernel)
theorem k_X2_init_f21 : Cond.fieldLink RX2 21 "OilPress$Lot" "sourness" "I" ∈ wsX2_init := List.mem_of_getElem? (i := 7) (by decide +kernel)
theorem k_X2_init_f24 : Cond.fieldLink RX2 24 "OilPress$Lot" "share" "I" ∈ wsX2_init := List.mem_of_getElem? (i := 8) (by decide +kernel)
theorem k_X2_init_f27 : Cond.fieldLink RX2 27 "OilPress$Lot" "left" "I" ∈ wsX2_init := List.mem_of_getElem? (i := 9) (by decide +kernel)
theorem k_X2_init_f30 : Cond.fieldLink RX2 30 "OilPress$Lot" "place" "I" ∈ wsX2_init := List.mem_of_getElem? (i := 10) (by decide +kernel)
theorem k_X2_init_f33 : Cond.fieldLink RX2 33 "OilPress$Lot" "wishesOthers" "Z" ∈ wsX2_init := List.mem_of_getElem? (i := 11) (by decide +kernel)
theorem k_X2_init_f37 : Cond.fieldLink RX2 37 "OilPress$Lot" "number" "I" ∈ wsX2_init := List.mem_of_getElem? (i := 12) (by decide +kernel)
theorem k_X2_init_f40 : Cond.fieldLink RX2 40 "OilPress$Lot" "kind" "I" ∈ wsX2_init := List.mem_of_getElem? (i := 13) (by decide +kernel)
theorem k_X2_init_f43 : Cond.fieldLink RX2 43 "OilPress$Lot" "grove" "LOilPress$Grove;" ∈ wsX2_init := List.mem_of_getElem? (i := 14) (by decide +kernel)
theorem k_X2_init_f47 : Cond.fieldLink RX2 47 "OilPress$Lot" "day" "I" ∈ wsX2_init := List.mem_of_getElem? (i := 15) (by decide +kernel)
abbrev rmX2_init : Room := { frames := 1, cells := 0, slots := 0, locals := 20 }
def f_X2_init (h : oh_H) (o : Nat) (v1 : Int32) (v2 : Int32) (v3 : Option Nat) (v4 : Int32) : Option (oh_H) :=
  (oh_pI h (some o) 132 (0 : Int32)).bind fun h1 => (oh_pI h1 (some o) 133 (0 : Int32)).bind fun h2 => (oh_pI h2 (some o) 134 (0 : Int32)).bind fun h3 => (oh_pI h3 (some o) 135 (0 : Int32)).bind fun h4 => (oh_pI h4 (some o) 136 (0 : Int32)).bind fun h5 => (oh_pI h5 (some o) 137 (0 : Int32)).bind fun h6 => (oh_pI h6 (some o) 138 (-1 : Int32)).bind fun h7 => oh_bz (0 : Int32) ((oh_pI h7 (some o) 139 (0 : Int32)).bind fun h8 => (oh_pI h8 (some o) 128 v1).bind fun h9 => (oh_pI h9 (some o) 131 v2).bind fun h10 => (oh_pR h10 (some o) 129 v3).bind fun h11 => (oh_pI h11 (some o) 130 v4).bind fun h12 => some h12)
set_option maxHeartbeats 4000000 in
set_option maxRecDepth 100000 in
theorem w_X2_init_0 {G : oh_G} {l : Launch} (C : oh_C G cX2_init wsX2_init RX2 rmX2_init 5) (hl : G.1.2.1 = l) (hN : G.2.1.2.2.2.1.name = "<init>") (h0 : oh_H) (h : oh_H) (o : Nat) (v1 : Int32) (v2 : Int32) (v3 : Option Nat) (v4 : Int32) : oh_J (oh_TV h0 0 0 none G) (f_X2_init h o v1 v2 v3 v4) (oh_V G 0 0 h 0 [(0, xr (some o)), (1, xi v1), (2, xi v2), (3, xr v3), (4, xi v4)] []) := by
  unfold f_X2_init
  refine or_aload_n C 0 rfl dX2_init_0 ?_
  refine or_objinit C k_X2_init_ol3 k_X2_init_oi k_X2_init_oc (Nat.le_of_ble_eq_true rfl) (Nat.le_of_ble_eq_true rfl) dX2_init_1 ?_
  refine or_aload_n C 0 rfl dX2_init_4 ?_
  refine or_iconst C (v := (0 : Int32)) dX2_init_5 (by decide) ?_
  refine or_putI C 2 4 rfl (by decide) rfl (by decide) u_X2_init_2 tyX2 tyX2_ok nmX2 (by decide) k_X2_init_f9 (Or.inl rfl) (by decide +kernel) rfl dX2_init_6 (fun h1 => ?_)
  refine or_aload_n C 0 rfl dX2_init_9 ?_
  refine or_iconst C (v := (0 : Int32)) dX2_init_10 (by decide) ?_
  refine or_putI C 2 5 rfl (by decide) rfl (by decide) u_X2_init_2 tyX2 tyX2_ok nmX2 (by decide) k_X2_init_f15 (Or.inl rfl) (by decide +kernel) rfl dX2_init_11 (fun h2 => ?_)
  refine or_aload_n C 0 rfl dX2_init_14 ?_
  refine or_iconst C (v := (0 : Int32)) dX2_init_15 (by decide) ?_
  refine or_putI C 2 6 rfl (by decide) rfl (by decide) u_X2_init_2 tyX2 tyX2_ok nmX2 (by decide) k_X2_init_f18 (Or.inl rfl) (by decide +kernel) rfl dX2_init_16 (fun h3 => ?_)
  refine or_aload_n C 0 rfl dX2_init_19 ?_
  refine or_iconst C (v := (0 : Int32)) dX2_init_20 (by decide) ?_
  refine or_putI C 2 7 rfl (by decide) rfl (by decide) u_X2_init_2 tyX2 tyX2_ok nmX2 (by decide) k_X2_init_f21 (Or.inl rfl) (by decide +kernel) rfl dX2_init_21 (fun h4 => ?_)
  refine or_aload_n C 0 rfl dX2_init_24 ?_
  refine or_iconst C (v := (0 : Int32)) dX2_init_25 (by decide) ?_
  refine or_putI C 2 8 rfl (by decide) rfl (by decide) u_X2_init_2 tyX2 tyX2_ok nmX2 (by decide) k_X2_init_f24 (Or.inl rfl) (by decide +kernel) rfl dX2_init_26 (fun h5 => ?_)
  refine or_aload_n C 0 rfl dX2_init_29 ?_
  refine or_iconst C (v := (0 : Int32)) dX2_init_30 (by decide) ?_
  refine or_putI C 2 9 rfl (by decide) rfl (by decide) u_X2_init_2 tyX2 tyX2_ok nmX2 (by decide) k_X2_init_f27 (Or.inl rfl) (by decide +kernel) rfl dX2_init_31 (fun h6 => ?_)
  refine or_aload_n C 0 rfl dX2_init_34 ?_
  refine or_iconst C (v := (-1 : Int32)) dX2_init_35 (by decide) ?_
  refine or_putI C 2 10 rfl (by decide) rfl (by decide) u_X2_init_2 tyX2 tyX2_ok nmX2 (by decide) k_X2_init_f30 (Or.inl rfl) (by decide +kernel) rfl dX2_init_36 (fun h7 => ?_)
  refine or_aload_n C 0 rfl dX2_init_39 ?_
  refine or_iconst C (v := (0 : Int32)) dX2_init_40 (by decide) ?_
  refine or_putZ C 2 11 rfl (by decide) rfl (by decide) u_X2_init_2 tyX2 tyX2_ok nmX2 (by decide) k_X2_init_f33 (Or.inl rfl) (by decide +kernel) rfl dX2_init_41 (fun h8 => ?_)
  refine or_aload_n C 0 rfl dX2_init_44 ?_
  refine or_iload_n C 1 rfl dX2_init_45 ?_
  refine or_putI C 2 0 rfl (by decide) rfl (by decide) u_X2_init_2 tyX2 tyX2_ok nmX2 (by decide) k_X2_init_f37 (Or.inr ⟨rfl, hN, rfl⟩) (by decide +kernel) rfl dX2_init_46 (fun h9 => ?_)
  refine or_aload_n C 0 rfl dX2_init_49 ?_
  refine or_iload_n C 2 rfl dX2_init_50 ?_
  refine or_putI C 2 3 rfl (by decide) rfl (by decide) u_X2_init_2 tyX2 tyX2_ok nmX2 (by decide) k_X2_init_f40 (Or.inl rfl) (by decide +kernel) rfl dX2_init_51 (fun h10 => ?_)
  refine or_aload_n C 0 rfl dX2_init_54 ?_
  refine or_aload_n C 3 rfl dX2_init_55 ?_
  refine or_putR C 2 1 rfl (by decide) rfl (by decide) u_X2_init_2 tyX2 tyX2_ok nmX2 (by decide) k_X2_init_f43 (Or.inr ⟨rfl, hN, rfl⟩) (by decide +kernel) (fun v => by cases v <;> exact ⟨rfl, rfl⟩) dX2_init_56 (fun h11 => ?_)
  refine or_aload_n C 0 rfl dX2_init_59 ?_
  refine or_iload C 4 rfl dX2_init_60 ?_
  refine or_putI C 2 2 rfl (by decide) rfl (by decide) u_X2_init_2 tyX2 tyX2_ok nmX2 (by decide) k_X2_init_f47 (Or.inr ⟨rfl, hN, rfl⟩) (by decide +kernel) rfl dX2_init_62 (fun h12 => ?_)
  exact or_vret C ⟨Nat.le_of_ble_eq_true rfl, Nat.le_of_ble_eq_true rfl⟩ dX2_init_65
theorem m_X2_init (l : Launch) (h : oh_H) (o : Nat) (v1 : Int32) (v2 : Int32) (v3 : Option Nat) (v4 : Int32) (p : oh_H) (hf : f_X2_init h o v1 v2 v3 v4 = some p) : oh_M l yX2_init wsX2_init rmX2_init 0 0 [xr (some o), xi v1, xi v2, xr v3, xi v4] h none p :=
  oh_met (cc := cX2_init) (maxL := 5) (ret := none) (by decide) rfl (Nat.le_of_ble_eq_true rfl) (fun G C hl hN E => w_X2_init_0 C hl hN h h o v1 v2 v3 v4 p hf E)
/-! X2_isWaiting -/
theorem k_X2_isWaiting_f9 : Cond.fieldLink RX2 9 "OilPress$Lot" "state" "I" ∈ wsX2_isWaiting := List.mem_of_getElem? (i := 1) (by decide +kernel)
theorem u_X2_isWaiting_2 : ∀ w ∈ u_ws RX2 TX2 12, w ∈ wsX2_isWaiting := fun w h => List.mem_cons_of_mem _ (List.mem_append_right _ (h))
abbrev rmX2_isWaiting : Room := { frames := 0, cells := 0, slots := 0, locals := 0 }
def f_X2_isWaiting_13 (h : oh_H) (o : Nat) (s0 : Int32) : Option (Int32) :=
  oh_bz s0 (some s0)
def f_X2_isWaiting (h : oh_H) (o : Nat) : Option (Int32) :=
  (oh_gI h (some o) 132).bind fun x1 => if (2 : Int32) < x1 then (f_X2_isWaiting_13 h o (0 : Int32)) else (f_X2_isWaiting_13 h o (1 : Int32))
set_option maxHeartbeats 4000000 in
set_option maxRecDepth 100000 in
theorem w_X2_isWaiting_13 {G : oh_G} {l : Launch} (C : oh_C G cX2_isWaiting wsX2_isWaiting RX2 rmX2_isWaiting 1) (hl : G.1.2.1 = l) (h : oh_H) (o : Nat) (s0 : Int32) : oh_J (oh_TR h xi (some .boolean) G) (f_X2_isWaiting_13 h o s0) (oh_V G 0 0 h 13 [] [xi s0]) := by
  unfold f_X2_isWaiting_13
  exact or_zretR C dX2_isWaiting_13
set_option maxHeartbeats 4000000 in
set_option maxRecDepth 100000 in
theorem w_X2_isWaiting_0 {G : oh_G} {l : Launch} (C : oh_C G cX2_isWaiting wsX2_isWaiting RX2 rmX2_isWaiting 1) (hl : G.1.2.1 = l) (h : oh_H) (o : Nat) : oh_J (oh_TR h xi (some .boolean) G) (f_X2_isWaiting h o) (oh_V G 0 0 h 0 [(0, xr (some o))] []) := by
  unfold f_X2_isWaiting
  refine or_aload_n C 0 rfl dX2_isWaiting_0 ?_
  refine or_getI C 2 4 rfl (by decide) rfl (by decide) u_X2_isWaiting_2 (by decide) k_X2_isWaiting_f9 (by decide +kernel) dX2_isWaiting_1 (fun x1 => ?_)
  refine or_iconst C (v := (2 : Int32)) dX2_isWaiting_4 (by decide) ?_
  refine or_icmp_gt C 12 dX2_isWaiting_5 (by decide) ?_ ?_
  · refine or_iconst C (v := (0 : Int32)) dX2_isWaiting_12 (by decide) ?_
    refine or_sub [] rfl ?_
    exact w_X2_isWaiting_13 C hl h o (0 : Int32)
  · refine or_iconst C (v := (1 : Int32)) dX2_isWaiting_8 (by decide) ?_
    refine or_goto C 13 dX2_isWaiting_9 (by decide) ?_
    refine or_sub [] rfl ?_
    exact w_X2_isWaiting_13 C hl h o (1 : Int32)
theorem m_X2_isWaiting (l : Launch) (h : oh_H) (o : Nat) (p : Int32) (hf : f_X2_isWaiting h o = some p) : oh_M l yX2_isWaiting wsX2_isWaiting rmX2_isWaiting 0 0 [xr (some o)] h (some (xi p)) h :=
  oh_met (cc := cX2_isWaiting) (maxL := 1) (ret := (some .boolean)) (by decide) rfl (Nat.le_of_ble_eq_true rfl) (fun G C hl hN E => w_X2_isWaiting_0 C hl h o p hf E)
/-! X2_mayBecomeLate -/
theorem k_X2_mayBecomeLate_f40 : Cond.fieldLink RX2 40 "OilPress$Lot" "kind" "I" ∈ wsX2_mayBecomeLate := List.mem_of_getElem? (i := 1) (by decide +kernel)
theorem u_X2_mayBecomeLate_2 : ∀ w ∈ u_ws RX2 TX2 12, w ∈ wsX2_mayBecomeLate := fun w h => List.mem_cons_of_mem _ (List.mem_append_right _ (h))
abbrev rmX2_mayBecomeLate : Room := { frames := 1, cells := 0, slots := 0, locals := 20 }
def f_X2_mayBecomeLate_35 (h : oh_H) (o : Nat) (s0 : Int32) : Option (Int32) :=
  oh_bz s0 (some s0)
def f_X2_mayBecomeLate_34 (h : oh_H) (o : Nat) : Option (Int32) :=
  f_X2_mayBecomeLate_35 h o (0 : Int32)
def f_X2_mayBecomeLate_30 (h : oh_H) (o : Nat) : Option (Int32) :=
  f_X2_mayBecomeLate_35 h o (1 : Int32)
def f_X2_mayBecomeLate (h : oh_H) (o : Nat) : Option (Int32) :=
  oh_rc h (some o) 3 fun o2 => (f_X2_isWaiting h o2).bind fun p3 => if p3 = 0 then (f_X2_mayBecomeLate_34 h o) else ((oh_gI h (some o) 131).bind fun x5 => if x5 = 0 then (f_X2_mayBecomeLate_30 h o) else ((oh_gI h (some o) 131).bind fun x6 => if x6 = (1 : Int32) then (f_X2_mayBecomeLate_30 h o) else ((oh_gI h (some o) 131).bind fun x7 => if x7 = (2 : Int32) then (f_X2_mayBecomeLate_30 h o) else (f_X2_mayBecomeLate_34 h o))))
set_option maxHeartbeats 4000000 in
set_option maxRecDepth 100000 in
theorem w_X2_mayBecomeLate_35 {G : oh_G} {l : Launch} (C : oh_C G cX2_mayBecomeLate wsX2_mayBecomeLate RX2 rmX2_mayBecomeLate 1) (hl : G.1.2.1 = l) (h : oh_H) (o : Nat) (s0 : Int32) : oh_J (oh_TR h xi (some .boolean) G) (f_X2_mayBecomeLate_35 h o s0) (oh_V G 0 0 h 35 [] [xi s0]) := by
  unfold f_X2_mayBecomeLate_35
  exact or_zretR C dX2_mayBecomeLate_35
set_option maxHeartbeats 4000000 in
set_option maxRecDepth 100000 in
theorem w_X2_mayBecomeLate_34 {G : oh_G} {l : Launch} (C : oh_C G cX2_mayBecomeLate wsX2_mayBecomeLate RX2 rmX2_mayBecomeLate 1) (hl : G.1.2.1 = l) (h : oh_H) (o : Nat) : oh_J (oh_TR h xi (some .boolean) G) (f_X2_mayBecomeLate_34 h o) (oh_V G 0 0 h 34 [] []) := by
  unfold f_X2_mayBecomeLate_34
  refine or_iconst C (v := (0 : Int32)) dX2_mayBecomeLate_34 (by decide) ?_
  refine or_sub [] rfl ?_
  exact w_X2_mayBecomeLate_35 C hl h o (0 : Int32)
set_option maxHeartbeats 4000000 in
set_option maxRecDepth 100000 in
theorem w_X2_mayBecomeLate_30 {G : oh_G} {l : Launch} (C : oh_C G cX2_mayBecomeLate wsX2_mayBecomeLate RX2 rmX2_mayBecomeLate 1) (hl : G.1.2.1 = l) (h : oh_H) (o : Nat) : oh_J (oh_TR h xi (some .boolean) G) (f_X2_mayBecomeLate_30 h o) (oh_V G 0 0 h 30 [] []) := by
  unfold f_X2_mayBecomeLate_30
  refine or_iconst C (v := (1 : Int32)) dX2_mayBecomeLate_30 (by decide) ?_
  refine or_goto C 35 dX2_mayBecomeLate_31 (by decide) ?_
  refine or_sub [] rfl ?_
  exact w_X2_mayBecomeLate_35 C hl h o (1 : Int32)
set_option maxHeartbeats 4000000 in
set_option maxRecDepth 100000 in
theorem w_X2_mayBecomeLate_0 {G : oh_G} {l : Launch} (C : oh_C G cX2_mayBecomeLate wsX2_mayBecomeLate RX2 rmX2_mayBecomeLate 1) (hl : G.1.2.1 = l) (h : oh_H) (o : Nat) : oh_J (oh_TR h xi (some .boolean) G) (f_X2_mayBecomeLate h o) (oh_V G 0 0 h 0 [(0, xr (some o))] []) := by
  unfold f_X2_mayBecomeLate
  refine or_aload_n C 0 rfl dX2_mayBecomeLate_0 ?_
  refine oj_rcs (fun q1 => ?_)
  refine oj_bind (fun p3 z4 => ?_)
  refine oj_v (P := oh_V G 0 0 h 4 [(0, xr (some o))] [xi p3]) (fun k => or_callV C 0 hl (m_X2_isWaiting _ h o p3 z4) gX2_mayBecomeLate_X2_isWaiting rfl rfl rfl (by decide +kernel) ⟨Nat.le_of_ble_eq_true rfl, Nat.le_of_ble_eq_true rfl⟩ q1 rfl (by decide) (Nat.le_of_ble_eq_true rfl) dX2_mayBecomeLate_1 ⟨Nat.le_of_ble_eq_true rfl, Nat.le_of_ble_eq_true rfl⟩ rfl rfl k) ?_
  refine or_if_eq C 34 dX2_mayBecomeLate_4 (by decide) ?_ ?_
  · refine or_sub [] rfl ?_
    exact w_X2_mayBecomeLate_34 C hl h o
  · refine or_aload_n C 0 rfl dX2_mayBecomeLate_7 ?_
    refine or_getI C 2 3 rfl (by decide) rfl (by decide) u_X2_mayBecomeLate_2 (by decide) k_X2_mayBecomeLate_f40 (by decide +kernel) dX2_mayBecomeLate_8 (fun x5 => ?_)
    refine or_if_eq C 30 dX2_mayBecomeLate_11 (by decide) ?_ ?_
    · refine or_sub [] rfl ?_
      exact w_X2_mayBecomeLate_30 C hl h o
    · refine or_aload_n C 0 rfl dX2_mayBecomeLate_14 ?_
      refine or_getI C 2 3 rfl (by decide) rfl (by decide) u_X2_mayBecomeLate_2 (by decide) k_X2_mayBecomeLate_f40 (by decide +kernel) dX2_mayBecomeLate_15 (fun x6 => ?_)
      refine or_iconst C (v := (1 : Int32)) dX2_mayBecomeLate_18 (by decide) ?_
      refine or_icmp_eq C 30 dX2_mayBecomeLate_19 (by decide) ?_ ?_
      · refine or_sub [] rfl ?_
        exact w_X2_mayBecomeLate_30 C hl h o
      · refine or_aload_n C 0 rfl dX2_mayBecomeLate_22 ?_
        refine or_getI C 2 3 rfl (by decide) rfl (by decide) u_X2_mayBecomeLate_2 (by decide) k_X2_mayBecomeLate_f40 (by decide +kernel) dX2_mayBecomeLate_23 (fun x7 => ?_)
        refine or_iconst C (v := (2 : Int32)) dX2_mayBecomeLate_26 (by decide) ?_
        refine or_icmp_ne C 34 dX2_mayBecomeLate_27 (by decide) ?_ ?_
        · refine or_sub [] rfl ?_
          exact w_X2_mayBecomeLate_30 C hl h o
        · refine or_sub [] rfl ?_
          exact w_X2_mayBecomeLate_34 C hl h o
theorem m_X2_mayBecomeLate (l : Launch) (h : oh_H) (o : Nat) (p : Int32) (hf : f_X2_mayBecomeLate h o = some p) : oh_M l yX2_mayBecomeLate wsX2_mayBecomeLate rmX2_mayBecomeLate 0 0 [xr (some o)] h (some (xi p)) h :=
  oh_met (cc := cX2_mayBecomeLate) (maxL := 1) (ret := (some .boolean)) (by decide) rfl (Nat.le_of_ble_eq_true rfl) (fun G C hl hN E => w_X2_mayBecomeLate_0 C hl h o p hf E)
/-! X2_isPressedWithOthers -/
theorem k_X2_isPressedWithOthers_f33 : Cond.fieldLink RX2 33 "OilPress$Lot" "wishesOthers" "Z" ∈ wsX2_isPressedWithOthers := List.mem_of_getElem? (i := 2) (by decide +kernel)
theorem u_X2_isPressedWithOthers_2 : ∀ w ∈ u_ws RX2 TX2 12, w ∈ wsX2_isPressedWithOthers := fun w h => List.mem_cons_of_mem _ (List.mem_append_right _ (h))
theorem k_X2_isPressedWithOthers_f40 : Cond.fieldLink RX2 40 "OilPress$Lot" "kind" "I" ∈ wsX2_isPressedWithOthers := List.mem_of_getElem? (i := 1) (by decide +kernel)
abbrev rmX2_isPressedWithOthers : Room := { frames := 0, cells := 0, slots := 0, locals := 0 }
def f_X2_isPressedWithOthers_27 (h : oh_H) (o : Nat) (s0 : Int32) : Option (Int32) :=
  oh_bz s0 (some s0)
def f_X2_isPressedWithOthers_22 (h : oh_H) (o : Nat) : Option (Int32) :=
  f_X2_isPressedWithOthers_27 h o (1 : Int32)
def f_X2_isPressedWithOthers_15 (h : oh_H) (o : Nat) : Option (Int32) :=
  (oh_gI h (some o) 139).bind fun x1 => if x1 = 0 then (f_X2_isPressedWithOthers_27 h o (0 : Int32)) else (f_X2_isPressedWithOthers_22 h o)
def f_X2_isPressedWithOthers (h : oh_H) (o : Nat) : Option (Int32) :=
  (oh_gI h (some o) 131).bind fun x1 => if x1 = 0 then (f_X2_isPressedWithOthers_15 h o) else ((oh_gI h (some o) 131).bind fun x2 => if x2 = (3 : Int32) then (f_X2_isPressedWithOthers_15 h o) else (f_X2_isPressedWithOthers_22 h o))
set_option maxHeartbeats 4000000 in
set_option maxRecDepth 100000 in
theorem w_X2_isPressedWithOthers_27 {G : oh_G} {l : Launch} (C : oh_C G cX2_isPressedWithOthers wsX2_isPressedWithOthers RX2 rmX2_isPressedWithOthers 1) (hl : G.1.2.1 = l) (h : oh_H) (o : Nat) (s0 : Int32) : oh_J (oh_TR h xi (some .boolean) G) (f_X2_isPressedWithOthers_27 h o s0) (oh_V G 0 0 h 27 [] [xi s0]) := by
  unfold f_X2_isPressedWithOthers_27
  exact or_zretR C dX2_isPressedWithOthers_27
set_option maxHeartbeats 4000000 in
set_option maxRecDepth 100000 in
theorem w_X2_isPressedWithOthers_22 {G : oh_G} {l : Launch} (C : oh_C G cX2_isPressedWithOthers wsX2_isPressedWithOthers RX2 rmX2_isPressedWithOthers 1) (hl : G.1.2.1 = l) (h : oh_H) (o : Nat) : oh_J (oh_TR h xi (some .boolean) G) (f_X2_isPressedWithOthers_22 h o) (oh_V G 0 0 h 22 [] []) := by
  unfold f_X2_isPressedWithOthers_22
  refine or_iconst C (v := (1 : Int32)) dX2_isPressedWithOthers_22 (by decide) ?_
  refine or_goto C 27 dX2_isPressedWithOthers_23 (by decide) ?_
  refine or_sub [] rfl ?_
  exact w_X2_isPressedWithOthers_27 C hl h o (1 : Int32)
set_option maxHeartbeats 4000000 in
set_option maxRecDepth 100000 in
theorem w_X2_isPressedWithOthers_15 {G : oh_G} {l : Launch} (C : oh_C G cX2_isPressedWithOthers wsX2_isPressedWithOthers RX2 rmX2_isPressedWithOthers 1) (hl : G.1.2.1 = l) (h : oh_H) (o : Nat) : oh_J (oh_TR h xi (some .boolean) G) (f_X2_isPressedWithOthers_15 h o) (oh_V G 0 0 h 15 [(0, xr (some o))] []) := by
  unfold f_X2_isPressedWithOthers_15
  refine or_aload_n C 0 rfl dX2_isPressedWithOthers_15 ?_
  refine or_getI C 2 11 rfl (by decide) rfl (by decide) u_X2_isPressedWithOthers_2 (by decide) k_X2_isPressedWithOthers_f33 (by decide +kernel) dX2_isPressedWithOthers_16 (fun x1 => ?_)
  refine or_if_eq C 26 dX2_isPressedWithOthers_19 (by decide) ?_ ?_
  · refine or_iconst C (v := (0 : Int32)) dX2_isPressedWithOthers_26 (by decide) ?_
    refine or_sub [] rfl ?_
    exact w_X2_isPressedWithOthers_27 C hl h o (0 : Int32)
  · refine or_sub [] rfl ?_
    exact w_X2_isPressedWithOthers_22 C hl h o
set_option maxHeartbeats 4000000 in
set_option maxRecDepth 100000 in
theorem w_X2_isPressedWithOthers_0 {G : oh_G} {l : Launch} (C : oh_C G cX2_isPressedWithOthers wsX2_isPressedWithOthers RX2 rmX2_isPressedWithOthers 1) (hl : G.1.2.1 = l) (h : oh_H) (o : Nat) : oh_J (oh_TR h xi (some .boolean) G) (f_X2_isPressedWithOthers h o) (oh_V G 0 0 h 0 [(0, xr (some o))] []) := by
  unfold f_X2_isPressedWithOthers
  refine or_aload_n C 0 rfl dX2_isPressedWithOthers_0 ?_
  refine or_getI C 2 3 rfl (by decide) rfl (by decide) u_X2_isPressedWithOthers_2 (by decide) k_X2_isPressedWithOthers_f40 (by decide +kernel) dX2_isPressedWithOthers_1 (fun x1 => ?_)
  refine or_if_eq C 15 dX2_isPressedWithOthers_4 (by decide) ?_ ?_
  · refine or_sub [0] rfl ?_
    exact w_X2_isPressedWithOthers_15 C hl h o
  · refine or_aload_n C 0 rfl dX2_isPressedWithOthers_7 ?_
    refine or_getI C 2 3 rfl (by decide) rfl (by decide) u_X2_isPressedWithOthers_2 (by decide) k_X2_isPressedWithOthers_f40 (by decide +kernel) dX2_isPressedWithOthers_8 (fun x2 => ?_)
    refine or_iconst C (v := (3 : Int32)) dX2_isPressedWithOthers_11 (by decide) ?_
    refine or_icmp_ne C 22 dX2_isPressedWithOthers_12 (by decide) ?_ ?_
    · refine or_sub [0] rfl ?_
      exact w_X2_isPressedWithOthers_15 C hl h o
    · refine or_sub [] rfl ?_
      exact w_X2_isPressedWithOthers_22 C hl h o
theorem m_X2_isPressedWithOthers (l : Launch) (h : oh_H) (o : Nat) (p : Int32) (hf : f_X2_isPressedWithOthers h o = some p) : oh_M l yX2_isPressedWithOthers wsX2_isPressedWithOthers rmX2_isPressedWithOthers 0 0 [xr (some o)] h (some (xi p)) h :=
  oh_met (cc := cX2_isPressedWithOthers) (maxL := 1) (ret := (some .boolean)) (by decide) rfl (Nat.le_of_ble_eq_true rfl) (fun G C hl hN E => w_X2_isPressedWithOthers_0 C hl h o p hf E)
/-! X2_mayBeAlone -/
theorem k_X2_mayBeAlone_f40 : Cond.fieldLink RX2 40 "OilPress$Lot" "kind" "I" ∈ wsX2_mayBeAlone := List.mem_of_getElem? (i := 1) (by decide +kernel)
theorem u_X2_mayBeAlone_2 : ∀ w ∈ u_ws RX2 TX2 12, w ∈ wsX2_mayBeAlone := fun w h => List.mem_cons_of_mem _ (List.mem_append_right _ (h))
abbrev rmX2_mayBeAlone : Room := { frames := 0, cells := 0, slots := 0, locals := 0 }
def f_X2_mayBeAlone_28 (h : oh_H) (o : Nat) (s0 : Int32) : Option (Int32) :=
  oh_bz s0 (some s0)
def f_X2_mayBeAlone_23 (h : oh_H) (o : Nat) : Option (Int32) :=
  f_X2_mayBeAlone_28 h o (1 : Int32)
def f_X2_mayBeAlone (h : oh_H) (o : Nat) : Option (Int32) :=
  (oh_gI h (some o) 131).bind fun x1 => if x1 = 0 then (f_X2_mayBeAlone_23 h o) else ((oh_gI h (some o) 131).bind fun x2 => if x2 = (2 : Int32) then (f_X2_mayBeAlone_23 h o) else ((oh_gI h (some o) 131).bind fun x3 => if x3 = (3 : Int32) then (f_X2_mayBeAlone_23 h o) else (f_X2_mayBeAlone_28 h o (0 : Int32))))
set_option maxHeartbeats 4000000 in
set_option maxRecDepth 100000 in
theorem w_X2_mayBeAlone_28 {G : oh_G} {l : Launch} (C : oh_C G cX2_mayBeAlone wsX2_mayBeAlone RX2 rmX2_mayBeAlone 1) (hl : G.1.2.1 = l) (h : oh_H) (o : Nat) (s0 : Int32) : oh_J (oh_TR h xi (some .boolean) G) (f_X2_mayBeAlone_28 h o s0) (oh_V G 0 0 h 28 [] [xi s0]) := by
  unfold f_X2_mayBeAlone_28
  exact or_zretR C dX2_mayBeAlone_28
set_option maxHeartbeats 4000000 in
set_option maxRecDepth 100000 in
theorem w_X2_mayBeAlone_23 {G : oh_G} {l : Launch} (C : oh_C G cX2_mayBeAlone wsX2_mayBeAlone RX2 rmX2_mayBeAlone 1) (hl : G.1.2.1 = l) (h : oh_H) (o : Nat) : oh_J (oh_TR h xi (some .boolean) G) (f_X2_mayBeAlone_23 h o) (oh_V G 0 0 h 23 [] []) := by
  unfold f_X2_mayBeAlone_23
  refine or_iconst C (v := (1 : Int32)) dX2_mayBeAlone_23 (by decide) ?_
  refine or_goto C 28 dX2_mayBeAlone_24 (by decide) ?_
  refine or_sub [] rfl ?_
  exact w_X2_mayBeAlone_28 C hl h o (1 : Int32)
set_option maxHeartbeats 4000000 in
set_option maxRecDepth 100000 in
theorem w_X2_mayBeAlone_0 {G : oh_G} {l : Launch} (C : oh_C G cX2_mayBeAlone wsX2_mayBeAlone RX2 rmX2_mayBeAlone 1) (hl : G.1.2.1 = l) (h : oh_H) (o : Nat) : oh_J (oh_TR h xi (some .boolean) G) (f_X2_mayBeAlone h o) (oh_V G 0 0 h 0 [(0, xr (some o))] []) := by
  unfold f_X2_mayBeAlone
  refine or_aload_n C 0 rfl dX2_mayBeAlone_0 ?_
  refine or_getI C 2 3 rfl (by decide) rfl (by decide) u_X2_mayBeAlone_2 (by decide) k_X2_mayBeAlone_f40 (by decide +kernel) dX2_mayBeAlone_1 (fun x1 => ?_)
  refine or_if_eq C 23 dX2_mayBeAlone_4 (by decide) ?_ ?_
  · refine or_sub [] rfl ?_
    exact w_X2_mayBeAlone_23 C hl h o
  · refine or_aload_n C 0 rfl dX2_mayBeAlone_7 ?_
    refine or_getI C 2 3 rfl (by decide) rfl (by decide) u_X2_mayBeAlone_2 (by decide) k_X2_mayBeAlone_f40 (by decide +kernel) dX2_mayBeAlone_8 (fun x2 => ?_)
    refine or_iconst C (v := (2 : Int32)) dX2_mayBeAlone_11 (by decide) ?_
    refine or_icmp_eq C 23 dX2_mayBeAlone_12 (by decide) ?_ ?_
    · refine or_sub [] rfl ?_
      exact w_X2_mayBeAlone_23 C hl h o
    · refine or_aload_n C 0 rfl dX2_mayBeAlone_15 ?_
      refine or_getI C 2 3 rfl (by decide) rfl (by decide) u_X2_mayBeAlone_2 (by decide) k_X2_mayBeAlone_f40 (by decide +kernel) dX2_mayBeAlone_16 (fun x3 => ?_)
      refine or_iconst C (v := (3 : Int32)) dX2_mayBeAlone_19 (by decide) ?_
      refine or_icmp_ne C 27 dX2_mayBeAlone_20 (by decide) ?_ ?_
      · refine or_sub [] rfl ?_
        exact w_X2_mayBeAlone_23 C hl h o
      · refine or_iconst C (v := (0 : Int32)) dX2_mayBeAlone_27 (by decide) ?_
        refine or_sub [] rfl ?_
        exact w_X2_mayBeAlone_28 C hl h o (0 : Int32)
theorem m_X2_mayBeAlone (l : Launch) (h : oh_H) (o : Nat) (p : Int32) (hf : f_X2_mayBeAlone h o = some p) : oh_M l yX2_mayBeAlone wsX2_mayBeAlone rmX2_mayBeAlone 0 0 [xr (some o)] h (some (xi p)) h :=
  oh_met (cc := cX2_mayBeAlone) (maxL := 1) (ret := (some .boolean)) (by decide) rfl (Nat.le_of_ble_eq_true rfl) (fun G C hl hN E => w_X2_mayBeAlone_0 C hl h o p hf E)
/-! X2_isForPlan -/
theorem k_X2_isForPlan_f9 : Cond.fieldLink RX2 9 "OilPress$Lot" "state" "I" ∈ wsX2_isForPlan := List.mem_of_getElem? (i := 1) (by decide +kernel)
theorem u_X2_isForPlan_2 : ∀ w ∈ u_ws RX2 TX2 12, w ∈ wsX2_isForPlan := fun w h => List.mem_cons_of_mem _ (List.mem_append_right _ (h))
abbrev rmX2_isForPlan : Room := { frames := 1, cells := 0, slots := 0, locals := 20 }
def f_X2_isForPlan_20 (h : oh_H) (o : Nat) (s0 : Int32) : Option (Int32) :=
  oh_bz s0 (some s0)
def f_X2_isForPlan_19 (h : oh_H) (o : Nat) : Option (Int32) :=
  f_X2_isForPlan_20 h o (0 : Int32)
def f_X2_isForPlan (h : oh_H) (o : Nat) : Option (Int32) :=
  (oh_gI h (some o) 132).bind fun x1 => if x1 = (2 : Int32) then (oh_rc h (some o) 3 fun o3 => (f_X2_mayBeAlone h o3).bind fun p4 => if p4 = 0 then (f_X2_isForPlan_19 h o) else (f_X2_isForPlan_20 h o (1 : Int32))) else (f_X2_isForPlan_19 h o)
set_option maxHeartbeats 4000000 in
set_option maxRecDepth 100000 in
theorem w_X2_isForPlan_20 {G : oh_G} {l : Launch} (C : oh_C G cX2_isForPlan wsX2_isForPlan RX2 rmX2_isForPlan 1) (hl : G.1.2.1 = l) (h : oh_H) (o : Nat) (s0 : Int32) : oh_J (oh_TR h xi (some .boolean) G) (f_X2_isForPlan_20 h o s0) (oh_V G 0 0 h 20 [] [xi s0]) := by
  unfold f_X2_isForPlan_20
  exact or_zretR C dX2_isForPlan_20
set_option maxHeartbeats 4000000 in
set_option maxRecDepth 100000 in
theorem w_X2_isForPlan_19 {G : oh_G} {l : Launch} (C : oh_C G cX2_isForPlan wsX2_isForPlan RX2 rmX2_isForPlan 1) (hl : G.1.2.1 = l) (h : oh_H) (o : Nat) : oh_J (oh_TR h xi (some .boolean) G) (f_X2_isForPlan_19 h o) (oh_V G 0 0 h 19 [] []) := by
  unfold f_X2_isForPlan_19
  refine or_iconst C (v := (0 : Int32)) dX2_isForPlan_19 (by decide) ?_
  refine or_sub [] rfl ?_
  exact w_X2_isForPlan_20 C hl h o (0 : Int32)
set_option maxHeartbeats 4000000 in
set_option maxRecDepth 100000 in
theorem w_X2_isForPlan_0 {G : oh_G} {l : Launch} (C : oh_C G cX2_isForPlan wsX2_isForPlan RX2 rmX2_isForPlan 1) (hl : G.1.2.1 = l) (h : oh_H) (o : Nat) : oh_J (oh_TR h xi (some .boolean) G) (f_X2_isForPlan h o) (oh_V G 0 0 h 0 [(0, xr (some o))] []) := by
  unfold f_X2_isForPlan
  refine or_aload_n C 0 rfl dX2_isForPlan_0 ?_
  refine or_getI C 2 4 rfl (by decide) rfl (by decide) u_X2_isForPlan_2 (by decide) k_X2_isForPlan_f9 (by decide +kernel) dX2_isForPlan_1 (fun x1 => ?_)
  refine or_iconst C (v := (2 : Int32)) dX2_isForPlan_4 (by decide) ?_
  refine or_icmp_ne C 19 dX2_isForPlan_5 (by decide) ?_ ?_
  · refine or_aload_n C 0 rfl dX2_isForPlan_8 ?_
    refine oj_rcs (fun q2 => ?_)
    refine oj_bind (fun p4 z5 => ?_)
    refine oj_v (P := oh_V G 0 0 h 12 [(0, xr (some o))] [xi p4]) (fun k => or_callV C 0 hl (m_X2_mayBeAlone _ h o p4 z5) gX2_isForPlan_X2_mayBeAlone rfl rfl rfl (by decide +kernel) ⟨Nat.le_of_ble_eq_true rfl, Nat.le_of_ble_eq_true rfl⟩ q2 rfl (by decide) (Nat.le_of_ble_eq_true rfl) dX2_isForPlan_9 ⟨Nat.le_of_ble_eq_true rfl, Nat.le_of_ble_eq_true rfl⟩ rfl rfl k) ?_
    refine or_if_eq C 19 dX2_isForPlan_12 (by decide) ?_ ?_
    · refine or_sub [] rfl ?_
      exact w_X2_isForPlan_19 C hl h o
    · refine or_iconst C (v := (1 : Int32)) dX2_isForPlan_15 (by decide) ?_
      refine or_goto C 20 dX2_isForPlan_16 (by decide) ?_
      refine or_sub [] rfl ?_
      exact w_X2_isForPlan_20 C hl h o (1 : Int32)
  · refine or_sub [] rfl ?_
    exact w_X2_isForPlan_19 C hl h o
theorem m_X2_isForPlan (l : Launch) (h : oh_H) (o : Nat) (p : Int32) (hf : f_X2_isForPlan h o = some p) : oh_M l yX2_isForPlan wsX2_isForPlan rmX2_isForPlan 0 0 [xr (some o)] h (some (xi p)) h :=
  oh_met (cc := cX2_isForPlan) (maxL := 1) (ret := (some .boolean)) (by decide) rfl (Nat.le_of_ble_eq_true rfl) (fun G C hl hN E => w_X2_isForPlan_0 C hl h o p hf E)
/-! X2_likeIfClean -/
theorem k_X2_likeIfClean_f40 : Cond.fieldLink RX2 40 "OilPress$Lot" "kind" "I" ∈ wsX2_likeIfClean := List.mem_of_getElem? (i := 1) (by decide +kernel)
theorem u_X2_likeIfClean_2 : ∀ w ∈ u_ws RX2 TX2 12, w ∈ wsX2_likeIfClean := fun w h => List.mem_cons_of_mem _ (List.mem_append_left _ (List.mem_append_right _ (h)))
theorem k_X2_likeIfClean_f43 : Cond.fieldLink RX2 43 "OilPress$Lot" "grove" "LOilPress$Grove;" ∈ wsX2_likeIfClean := List.mem_of_getElem? (i := 2) (by decide +kernel)
theorem k_X2_likeIfClean_f57 : Cond.fieldLink RX2 57 "OilPress$Grove" "like" "I" ∈ wsX2_likeIfClean := List.mem_of_getElem? (i := 3) (by decide +kernel)
theorem u_X2_likeIfClean_1 : ∀ w ∈ u_ws RX1 TX1 3, w ∈ wsX2_likeIfClean := fun w h => List.mem_cons_of_mem _ (List.mem_append_right _ (h))
abbrev rmX2_likeIfClean : Room := { frames := 0, cells := 0, slots := 0, locals := 0 }
def f_X2_likeIfClean_19 (h : oh_H) (o : Nat) (s0 : Int32) : Option (Int32) :=
  some s0
def f_X2_likeIfClean (h : oh_H) (o : Nat) : Option (Int32) :=
  (oh_gI h (some o) 131).bind fun x1 => if x1 = (2 : Int32) then ((oh_gR h (some o) 129).bind fun x2 => (oh_gI h x2 66).bind fun x3 => f_X2_likeIfClean_19 h o x3) else (f_X2_likeIfClean_19 h o (-1 : Int32))
set_option maxHeartbeats 4000000 in
set_option maxRecDepth 100000 in
theorem w_X2_likeIfClean_19 {G : oh_G} {l : Launch} (C : oh_C G cX2_likeIfClean wsX2_likeIfClean RX2 rmX2_likeIfClean 1) (hl : G.1.2.1 = l) (h : oh_H) (o : Nat) (s0 : Int32) : oh_J (oh_TR h xi (some .int) G) (f_X2_likeIfClean_19 h o s0) (oh_V G 0 0 h 19 [] [xi s0]) := by
  unfold f_X2_likeIfClean_19
  exact or_iretR C dX2_likeIfClean_19
set_option maxHeartbeats 4000000 in
set_option maxRecDepth 100000 in
theorem w_X2_likeIfClean_0 {G : oh_G} {l : Launch} (C : oh_C G cX2_likeIfClean wsX2_likeIfClean RX2 rmX2_likeIfClean 1) (hl : G.1.2.1 = l) (h : oh_H) (o : Nat) : oh_J (oh_TR h xi (some .int) G) (f_X2_likeIfClean h o) (oh_V G 0 0 h 0 [(0, xr (some o))] []) := by
  unfold f_X2_likeIfClean
  refine or_aload_n C 0 rfl dX2_likeIfClean_0 ?_
  refine or_getI C 2 3 rfl (by decide) rfl (by decide) u_X2_likeIfClean_2 (by decide) k_X2_likeIfClean_f40 (by decide +kernel) dX2_likeIfClean_1 (fun x1 => ?_)
  refine or_iconst C (v := (2 : Int32)) dX2_likeIfClean_4 (by decide) ?_
  refine or_icmp_ne C 18 dX2_likeIfClean_5 (by decide) ?_ ?_
  · refine or_aload_n C 0 rfl dX2_likeIfClean_8 ?_
    refine or_getR C 2 1 rfl (by decide) rfl (by decide) u_X2_likeIfClean_2 (by decide) k_X2_likeIfClean_f43 (by decide +kernel) dX2_likeIfClean_9 (fun x2 => ?_)
    refine or_getI C 1 2 rfl (by decide) rfl (by decide) u_X2_likeIfClean_1 (by decide) k_X2_likeIfClean_f57 (by decide +kernel) dX2_likeIfClean_12 (fun x3 => ?_)
    refine or_goto C 19 dX2_likeIfClean_15 (by decide) ?_
    refine or_sub [] rfl ?_
    exact w_X2_likeIfClean_19 C hl h o x3
  · refine or_iconst C (v := (-1 : Int32)) dX2_likeIfClean_18 (by decide) ?_
    refine or_sub [] rfl ?_
    exact w_X2_likeIfClean_19 C hl h o (-1 : Int32)
theorem m_X2_likeIfClean (l : Launch) (h : oh_H) (o : Nat) (p : Int32) (hf : f_X2_likeIfClean h o = some p) : oh_M l yX2_likeIfClean wsX2_likeIfClean rmX2_likeIfClean 0 0 [xr (some o)] h (some (xi p)) h :=
  oh_met (cc := cX2_likeIfClean) (maxL := 1) (ret := (some .int)) (by decide) rfl (Nat.le_of_ble_eq_true rfl) (fun G C hl hN E => w_X2_likeIfClean_0 C hl h o p hf E)
/-! X2_oil -/
theorem k_X2_oil_f15 : Cond.fieldLink RX2 15 "OilPress$Lot" "tenths" "I" ∈ wsX2_oil := List.mem_of_getElem? (i := 1) (by decide +kernel)
theorem u_X2_oil_2 : ∀ w ∈ u_ws RX2 TX2 12, w ∈ wsX2_oil := fun w h => List.mem_cons_of_mem _ (List.mem_append_right _ (h))
theorem k_X2_oil_f18 : Cond.fieldLink RX2 18 "OilPress$Lot" "thousandths" "I" ∈ wsX2_oil := List.mem_of_getElem? (i := 2) (by decide +kernel)
abbrev rmX2_oil : Room := { frames := 0, cells := 0, slots := 0, locals := 0 }
def f_X2_oil (h : oh_H) (o : Nat) : Option (Int64) :=
  (oh_gI h (some o) 133).bind fun x1 => (oh_gI h (some o) 134).bind fun x2 => some ((Int32.toInt64 x1) * (Int32.toInt64 x2))
set_option maxHeartbeats 4000000 in
set_option maxRecDepth 100000 in
theorem w_X2_oil_0 {G : oh_G} {l : Launch} (C : oh_C G cX2_oil wsX2_oil RX2 rmX2_oil 1) (hl : G.1.2.1 = l) (h : oh_H) (o : Nat) : oh_J (oh_TR h xl (some .long) G) (f_X2_oil h o) (oh_V G 0 0 h 0 [(0, xr (some o))] []) := by
  unfold f_X2_oil
  refine or_aload_n C 0 rfl dX2_oil_0 ?_
  refine or_getI C 2 5 rfl (by decide) rfl (by decide) u_X2_oil_2 (by decide) k_X2_oil_f15 (by decide +kernel) dX2_oil_1 (fun x1 => ?_)
  refine or_i2l C dX2_oil_4 ?_
  refine or_aload_n C 0 rfl dX2_oil_5 ?_
  refine or_getI C 2 6 rfl (by decide) rfl (by decide) u_X2_oil_2 (by decide) k_X2_oil_f18 (by decide +kernel) dX2_oil_6 (fun x2 => ?_)
  refine or_i2l C dX2_oil_9 ?_
  refine or_lmul C dX2_oil_10 ?_
  exact or_lretR C dX2_oil_11
theorem m_X2_oil (l : Launch) (h : oh_H) (o : Nat) (p : Int64) (hf : f_X2_oil h o = some p) : oh_M l yX2_oil wsX2_oil rmX2_oil 0 0 [xr (some o)] h (some (xl p)) h :=
  oh_met (cc := cX2_oil) (maxL := 1) (ret := (some .long)) (by decide) rfl (Nat.le_of_ble_eq_true rfl) (fun G C hl hN E => w_X2_oil_0 C hl h o p hf E)
/-! X2_agreesWith -/
theorem k_X2_agreesWith_f40 : Cond.fieldLink RX2 40 "OilPress$Lot" "kind" "I" ∈ wsX2_agreesWith := List.mem_of_getElem? (i := 1) (by decide +kernel)
theorem u_X2_agreesWith_2 : ∀ w ∈ u_ws RX2 TX2 12, w ∈ wsX2_agreesWith := fun w h => List.mem_cons_of_mem _ (List.mem_append_left _ (List.mem_append_right _ (h)))
theorem k_X2_agreesWith_f43 : Cond.fieldLink RX2 43 "OilPress$Lot" "grove" "LOilPress$Grove;" ∈ wsX2_agreesWith := List.mem_of_getElem? (i := 2) (by decide +kernel)
theorem k_X2_agreesWith_f57 : Cond.fieldLink RX2 57 "OilPress$Grove" "like" "I" ∈ wsX2_agreesWith := List.mem_of_getElem? (i := 3) (by decide +kernel)
theorem u_X2_agreesWith_1 : ∀ w ∈ u_ws RX1 TX1 3, w ∈ wsX2_agreesWith := fun w h => List.mem_cons_of_mem _ (List.mem_append_right _ (h))
theorem k_X2_agreesWith_f47 : Cond.fieldLink RX2 47 "OilPress$Lot" "day" "I" ∈ wsX2_agreesWith := List.mem_of_getElem? (i := 4) (by decide +kernel)
theorem k_X2_agreesWith_ml65 : Cond.methodLink RX2 65 Lib.Math.abs.name ∈ wsX2_agreesWith := List.mem_of_getElem? (i := 5) (by decide +kernel)
theorem k_X2_agreesWith_msmabs : Cond.static Lib.Math.abs.name ∈ wsX2_agreesWith := List.mem_of_getElem? (i := 6) (by decide +kernel)
theorem k_X2_agreesWith_mi : Cond.initialized "java/lang/Math" ∈ wsX2_agreesWith := List.mem_of_getElem? (i := 7) (by decide +kernel)
theorem k_X2_agreesWith_mcmabs : Cond.code Lib.Math.abs.name Lib.Math.abs.code 1 (some .int) ∈ wsX2_agreesWith := List.mem_of_getElem? (i := 8) (by decide +kernel)
abbrev rmX2_agreesWith : Room := { frames := 1, cells := 0, slots := 0, locals := 23 }
def f_X2_agreesWith_49 (h : oh_H) (o : Nat) (s0 : Int32) : Option (Int32) :=
  oh_bz s0 (some s0)
def f_X2_agreesWith_48 (h : oh_H) (o : Nat) : Option (Int32) :=
  f_X2_agreesWith_49 h o (0 : Int32)
def f_X2_agreesWith_16 (h : oh_H) (o : Nat) (v1 : Option Nat) : Option (Int32) :=
  (oh_gI h (some o) 131).bind fun x1 => (oh_gI h v1 131).bind fun x2 => if x1 = x2 then ((oh_gR h (some o) 129).bind fun x3 => (oh_gI h x3 66).bind fun x4 => (oh_gR h v1 129).bind fun x5 => (oh_gI h x5 66).bind fun x6 => if x4 = x6 then (f_X2_agreesWith_49 h o (1 : Int32)) else (f_X2_agreesWith_48 h o)) else (f_X2_agreesWith_48 h o)
def f_X2_agreesWith_64 (h : oh_H) (o : Nat) : Option (Int32) :=
  oh_bz (0 : Int32) (some (0 : Int32))
def f_X2_agreesWith_98 (h : oh_H) (o : Nat) (s0 : Int32) : Option (Int32) :=
  oh_bz s0 (some s0)
def f_X2_agreesWith_82 (h : oh_H) (o : Nat) (v1 : Option Nat) : Option (Int32) :=
  (oh_gI h (some o) 131).bind fun x1 => (oh_gI h v1 131).bind fun x2 => if x1 = x2 then (f_X2_agreesWith_98 h o (1 : Int32)) else (f_X2_agreesWith_98 h o (0 : Int32))
def f_X2_agreesWith_120 (h : oh_H) (o : Nat) (s0 : Int32) : Option (Int32) :=
  oh_bz s0 (some s0)
def f_X2_agreesWith (h : oh_H) (o : Nat) (v1 : Option Nat) : Option (Int32) :=
  (oh_gI h (some o) 131).bind fun x1 => if x1 = (2 : Int32) then (f_X2_agreesWith_16 h o v1) else ((oh_gI h v1 131).bind fun x2 => if x2 = (2 : Int32) then (f_X2_agreesWith_16 h o v1) else (oh_rc h (some o) 3 fun o4 => (f_X2_isPressedWithOthers h o4).bind fun p5 => if p5 = 0 then (f_X2_agreesWith_64 h o) else (oh_rc h v1 3 fun o7 => (f_X2_isPressedWithOthers h o7).bind fun p10 => if p10 = 0 then (f_X2_agreesWith_64 h o) else ((oh_gI h (some o) 131).bind fun x12 => if x12 = (3 : Int32) then (f_X2_agreesWith_82 h o v1) else ((oh_gI h v1 131).bind fun x13 => if x13 = (3 : Int32) then (f_X2_agreesWith_82 h o v1) else ((oh_gI h (some o) 130).bind fun x14 => (oh_gI h v1 130).bind fun x15 => if (3 : Int32) < (if 0 ≤ (x14 - x15) then (x14 - x15) else 0 - (x14 - x15)) then (f_X2_agreesWith_120 h o (0 : Int32)) else (f_X2_agreesWith_120 h o (1 : Int32))))))))
set_option maxHeartbeats 4000000 in
set_option maxRecDepth 100000 in
theorem w_X2_agreesWith_49 {G : oh_G} {l : Launch} (C : oh_C G cX2_agreesWith wsX2_agreesWith RX2 rmX2_agreesWith 2) (hl : G.1.2.1 = l) (h : oh_H) (o : Nat) (s0 : Int32) : oh_J (oh_TR h xi (some .boolean) G) (f_X2_agreesWith_49 h o s0) (oh_V G 0 0 h 49 [] [xi s0]) := by
  unfold f_X2_agreesWith_49
  exact or_zretR C dX2_agreesWith_49
set_option maxHeartbeats 4000000 in
set_option maxRecDepth 100000 in
theorem w_X2_agreesWith_48 {G : oh_G} {l : Launch} (C : oh_C G cX2_agreesWith wsX2_agreesWith RX2 rmX2_agreesWith 2) (hl : G.1.2.1 = l) (h : oh_H) (o : Nat) : oh_J (oh_TR h xi (some .boolean) G) (f_X2_agreesWith_48 h o) (oh_V G 0 0 h 48 [] []) := by
  unfold f_X2_agreesWith_48
  refine or_iconst C (v := (0 : Int32)) dX2_agreesWith_48 (by decide) ?_
  refine or_sub [] rfl ?_
  exact w_X2_agreesWith_49 C hl h o (0 : Int32)
set_option maxHeartbeats 4000000 in
set_option maxRecDepth 100000 in
theorem w_X2_agreesWith_16 {G : oh_G} {l : Launch} (C : oh_C G cX2_agreesWith wsX2_agreesWith RX2 rmX2_agreesWith 2) (hl : G.1.2.1 = l) (h : oh_H) (o : Nat) (v1 : Option Nat) : oh_J (oh_TR h xi (some .boolean) G) (f_X2_agreesWith_16 h o v1) (oh_V G 0 0 h 16 [(0, xr (some o)), (1, xr v1)] []) := by
  unfold f_X2_agreesWith_16
  refine or_aload_n C 0 rfl dX2_agreesWith_16 ?_
  refine or_getI C 2 3 rfl (by decide) rfl (by decide) u_X2_agreesWith_2 (by decide) k_X2_agreesWith_f40 (by decide +kernel) dX2_agreesWith_17 (fun x1 => ?_)
  refine or_aload_n C 1 rfl dX2_agreesWith_20 ?_
  refine or_getI C 2 3 rfl (by decide) rfl (by decide) u_X2_agreesWith_2 (by decide) k_X2_agreesWith_f40 (by decide +kernel) dX2_agreesWith_21 (fun x2 => ?_)
  refine or_icmp_ne C 48 dX2_agreesWith_24 (by decide) ?_ ?_
  · refine or_aload_n C 0 rfl dX2_agreesWith_27 ?_
    refine or_getR C 2 1 rfl (by decide) rfl (by decide) u_X2_agreesWith_2 (by decide) k_X2_agreesWith_f43 (by decide +kernel) dX2_agreesWith_28 (fun x3 => ?_)
    refine or_getI C 1 2 rfl (by decide) rfl (by decide) u_X2_agreesWith_1 (by decide) k_X2_agreesWith_f57 (by decide +kernel) dX2_agreesWith_31 (fun x4 => ?_)
    refine or_aload_n C 1 rfl dX2_agreesWith_34 ?_
    refine or_getR C 2 1 rfl (by decide) rfl (by decide) u_X2_agreesWith_2 (by decide) k_X2_agreesWith_f43 (by decide +kernel) dX2_agreesWith_35 (fun x5 => ?_)
    refine or_getI C 1 2 rfl (by decide) rfl (by decide) u_X2_agreesWith_1 (by decide) k_X2_agreesWith_f57 (by decide +kernel) dX2_agreesWith_38 (fun x6 => ?_)
    refine or_icmp_ne C 48 dX2_agreesWith_41 (by decide) ?_ ?_
    · refine or_iconst C (v := (1 : Int32)) dX2_agreesWith_44 (by decide) ?_
      refine or_goto C 49 dX2_agreesWith_45 (by decide) ?_
      refine or_sub [] rfl ?_
      exact w_X2_agreesWith_49 C hl h o (1 : Int32)
    · refine or_sub [] rfl ?_
      exact w_X2_agreesWith_48 C hl h o
  · refine or_sub [] rfl ?_
    exact w_X2_agreesWith_48 C hl h o
set_option maxHeartbeats 4000000 in
set_option maxRecDepth 100000 in
theorem w_X2_agreesWith_64 {G : oh_G} {l : Launch} (C : oh_C G cX2_agreesWith wsX2_agreesWith RX2 rmX2_agreesWith 2) (hl : G.1.2.1 = l) (h : oh_H) (o : Nat) : oh_J (oh_TR h xi (some .boolean) G) (f_X2_agreesWith_64 h o) (oh_V G 0 0 h 64 [] []) := by
  unfold f_X2_agreesWith_64
  refine or_iconst C (v := (0 : Int32)) dX2_agreesWith_64 (by decide) ?_
  exact or_zretR C dX2_agreesWith_65
set_option maxHeartbeats 4000000 in
set_option maxRecDepth 100000 in
theorem w_X2_agreesWith_98 {G : oh_G} {l : Launch} (C : oh_C G cX2_agreesWith wsX2_agreesWith RX2 rmX2_agreesWith 2) (hl : G.1.2.1 = l) (h : oh_H) (o : Nat) (s0 : Int32) : oh_J (oh_TR h xi (some .boolean) G) (f_X2_agreesWith_98 h o s0) (oh_V G 0 0 h 98 [] [xi s0]) := by
  unfold f_X2_agreesWith_98
  exact or_zretR C dX2_agreesWith_98
set_option maxHeartbeats 4000000 in
set_option maxRecDepth 100000 in
theorem w_X2_agreesWith_82 {G : oh_G} {l : Launch} (C : oh_C G cX2_agreesWith wsX2_agreesWith RX2 rmX2_agreesWith 2) (hl : G.1.2.1 = l) (h : oh_H) (o : Nat) (v1 : Option Nat) : oh_J (oh_TR h xi (some .boolean) G) (f_X2_agreesWith_82 h o v1) (oh_V G 0 0 h 82 [(0, xr (some o)), (1, xr v1)] []) := by
  unfold f_X2_agreesWith_82
  refine or_aload_n C 0 rfl dX2_agreesWith_82 ?_
  refine or_getI C 2 3 rfl (by decide) rfl (by decide) u_X2_agreesWith_2 (by decide) k_X2_agreesWith_f40 (by decide +kernel) dX2_agreesWith_83 (fun x1 => ?_)
  refine or_aload_n C 1 rfl dX2_agreesWith_86 ?_
  refine or_getI C 2 3 rfl (by decide) rfl (by decide) u_X2_agreesWith_2 (by decide) k_X2_agreesWith_f40 (by decide +kernel) dX2_agreesWith_87 (fun x2 => ?_)
  refine or_icmp_ne C 97 dX2_agreesWith_90 (by decide) ?_ ?_
  · refine or_iconst C (v := (1 : Int32)) dX2_agreesWith_93 (by decide) ?_
    refine or_goto C 98 dX2_agreesWith_94 (by decide) ?_
    refine or_sub [] rfl ?_
    exact w_X2_agreesWith_98 C hl h o (1 : Int32)
  · refine or_iconst C (v := (0 : Int32)) dX2_agreesWith_97 (by decide) ?_
    refine or_sub [] rfl ?_
    exact w_X2_agreesWith_98 C hl h o (0 : Int32)
set_option maxHeartbeats 4000000 in
set_option maxRecDepth 100000 in
theorem w_X2_agreesWith_120 {G : oh_G} {l : Launch} (C : oh_C G cX2_agreesWith wsX2_agreesWith RX2 rmX2_agreesWith 2) (hl : G.1.2.1 = l) (h : oh_H) (o : Nat) (s0 : Int32) : oh_J (oh_TR h xi (some .boolean) G) (f_X2_agreesWith_120 h o s0) (oh_V G 0 0 h 120 [] [xi s0]) := by
  unfold f_X2_agreesWith_120
  exact or_zretR C dX2_agreesWith_120
set_option maxHeartbeats 4000000 in
set_option maxRecDepth 100000 in
theorem w_X2_agreesWith_0 {G : oh_G} {l : Launch} (C : oh_C G cX2_agreesWith wsX2_agreesWith RX2 rmX2_agreesWith 2) (hl : G.1.2.1 = l) (h : oh_H) (o : Nat) (v1 : Option Nat) : oh_J (oh_TR h xi (some .boolean) G) (f_X2_agreesWith h o v1) (oh_V G 0 0 h 0 [(0, xr (some o)), (1, xr v1)] []) := by
  unfold f_X2_agreesWith
  refine or_aload_n C 0 rfl dX2_agreesWith_0 ?_
  refine or_getI C 2 3 rfl (by decide) rfl (by decide) u_X2_agreesWith_2 (by decide) k_X2_agreesWith_f40 (by decide +kernel) dX2_agreesWith_1 (fun x1 => ?_)
  refine or_iconst C (v := (2 : Int32)) dX2_agreesWith_4 (by decide) ?_
  refine or_icmp_eq C 16 dX2_agreesWith_5 (by decide) ?_ ?_
  · refine or_sub [0, 1] rfl ?_
    exact w_X2_agreesWith_16 C hl h o v1
  · refine or_aload_n C 1 rfl dX2_agreesWith_8 ?_
    refine or_getI C 2 3 rfl (by decide) rfl (by decide) u_X2_agreesWith_2 (by decide) k_X2_agreesWith_f40 (by decide +kernel) dX2_agreesWith_9 (fun x2 => ?_)
    refine or_iconst C (v := (2 : Int32)) dX2_agreesWith_12 (by decide) ?_
    refine or_icmp_ne C 50 dX2_agreesWith_13 (by decide) ?_ ?_
    · refine or_sub [0, 1] rfl ?_
      exact w_X2_agreesWith_16 C hl h o v1
    · refine or_aload_n C 0 rfl dX2_agreesWith_50 ?_
      refine oj_rcs (fun q3 => ?_)
      refine oj_bind (fun p5 z6 => ?_)
      refine oj_v (P := oh_V G 0 0 h 54 [(0, xr (some o)), (1, xr v1)] [xi p5]) (fun k => or_callV C 0 hl (m_X2_isPressedWithOthers _ h o p5 z6) gX2_agreesWith_X2_isPressedWithOthers rfl rfl rfl (by decide +kernel) ⟨Nat.le_of_ble_eq_true rfl, Nat.le_of_ble_eq_true rfl⟩ q3 rfl (by decide) (Nat.le_of_ble_eq_true rfl) dX2_agreesWith_51 ⟨Nat.le_of_ble_eq_true rfl, Nat.le_of_ble_eq_true rfl⟩ rfl rfl k) ?_
      refine or_if_eq C 64 dX2_agreesWith_54 (by decide) ?_ ?_
      · refine or_sub [] rfl ?_
        exact w_X2_agreesWith_64 C hl h o
      · refine or_aload_n C 1 rfl dX2_agreesWith_57 ?_
        refine oj_rc (fun o7 e9 q8 => ?_)
        refine oj_bind (fun p10 z11 => ?_)
        refine oj_v (P := oh_V G 0 0 h 61 [(0, xr (some o)), (1, xr v1)] [xi p10]) (fun k => or_callV C 0 hl (m_X2_isPressedWithOthers _ h o7 p10 z11) gX2_agreesWith_X2_isPressedWithOthers rfl rfl rfl (by decide +kernel) ⟨Nat.le_of_ble_eq_true rfl, Nat.le_of_ble_eq_true rfl⟩ q8 rfl (by decide) (Nat.le_of_ble_eq_true rfl) dX2_agreesWith_58 ⟨Nat.le_of_ble_eq_true rfl, Nat.le_of_ble_eq_true rfl⟩ rfl (by rw [e9]; rfl) k) ?_
        refine or_if_ne C 66 dX2_agreesWith_61 (by decide) ?_ ?_
        · refine or_sub [] rfl ?_
          exact w_X2_agreesWith_64 C hl h o
        · refine or_aload_n C 0 rfl dX2_agreesWith_66 ?_
          refine or_getI C 2 3 rfl (by decide) rfl (by decide) u_X2_agreesWith_2 (by decide) k_X2_agreesWith_f40 (by decide +kernel) dX2_agreesWith_67 (fun x12 => ?_)
          refine or_iconst C (v := (3 : Int32)) dX2_agreesWith_70 (by decide) ?_
          refine or_icmp_eq C 82 dX2_agreesWith_71 (by decide) ?_ ?_
          · refine or_sub [0, 1] rfl ?_
            exact w_X2_agreesWith_82 C hl h o v1
          · refine or_aload_n C 1 rfl dX2_agreesWith_74 ?_
            refine or_getI C 2 3 rfl (by decide) rfl (by decide) u_X2_agreesWith_2 (by decide) k_X2_agreesWith_f40 (by decide +kernel) dX2_agreesWith_75 (fun x13 => ?_)
            refine or_iconst C (v := (3 : Int32)) dX2_agreesWith_78 (by decide) ?_
            refine or_icmp_ne C 99 dX2_agreesWith_79 (by decide) ?_ ?_
            · refine or_sub [0, 1] rfl ?_
              exact w_X2_agreesWith_82 C hl h o v1
            · refine or_aload_n C 0 rfl dX2_agreesWith_99 ?_
              refine or_getI C 2 2 rfl (by decide) rfl (by decide) u_X2_agreesWith_2 (by decide) k_X2_agreesWith_f47 (by decide +kernel) dX2_agreesWith_100 (fun x14 => ?_)
              refine or_aload_n C 1 rfl dX2_agreesWith_103 ?_
              refine or_getI C 2 2 rfl (by decide) rfl (by decide) u_X2_agreesWith_2 (by decide) k_X2_agreesWith_f47 (by decide +kernel) dX2_agreesWith_104 (fun x15 => ?_)
              refine or_isub C dX2_agreesWith_107 ?_
              refine or_mabs C k_X2_agreesWith_ml65 k_X2_agreesWith_msmabs k_X2_agreesWith_mi k_X2_agreesWith_mcmabs ⟨Nat.le_of_ble_eq_true rfl, Nat.le_of_ble_eq_true rfl, Nat.le_of_ble_eq_true rfl⟩ (Nat.le_of_ble_eq_true rfl) dX2_agreesWith_108 ?_
              refine or_iconst C (v := (3 : Int32)) dX2_agreesWith_111 (by decide) ?_
              refine or_icmp_gt C 119 dX2_agreesWith_112 (by decide) ?_ ?_
              · refine or_iconst C (v := (0 : Int32)) dX2_agreesWith_119 (by decide) ?_
                refine or_sub [] rfl ?_
                exact w_X2_agreesWith_120 C hl h o (0 : Int32)
              · refine or_iconst C (v := (1 : Int32)) dX2_agreesWith_115 (by decide) ?_
                refine or_goto C 120 dX2_agreesWith_116 (by decide) ?_
                refine or_sub [] rfl ?_
                exact w_X2_agreesWith_120 C hl h o (1 : Int32)
theorem m_X2_agreesWith (l : Launch) (h : oh_H) (o : Nat) (v1 : Option Nat) (p : Int32) (hf : f_X2_agreesWith h o v1 = some p) : oh_M l yX2_agreesWith wsX2_agreesWith rmX2_agreesWith 0 0 [xr (some o), xr v1] h (some (xi p)) h :=
  oh_met (cc := cX2_agreesWith) (maxL := 2) (ret := (some .boolean)) (by decide) rfl (Nat.le_of_ble_eq_true rfl) (fun G C hl hN E => w_X2_agreesWith_0 C hl h o v1 p hf E)
/-! X3_init -/
theorem k_X3_init_ol3 : Cond.methodLink RX3 3 objectInit ∈ wsX3_init := List.mem_of_getElem? (i := 1) (by decide +kernel)
theorem k_X3_init_oi : Cond.instanceMethod objectInit ∈ wsX3_init := List.mem_of_getElem? (i := 2) (by decide +kernel)
theorem k_X3_init_oc : Cond.code objectInit ⟨#[0xb1]⟩ 1 none ∈ wsX3_init := List.mem_of_getElem? (i := 3) (by decide +kernel)
theorem k_X3_init_cl9 : Cond.classLink RX3 9 RX2 ∈ wsX3_init := List.mem_of_getElem? (i := 4) (by decide +kernel)
theorem k_X3_init_f11 : Cond.fieldLink RX3 11 "OilPress$Mill" "bin" "[LOilPress$Lot;" ∈ wsX3_init := List.mem_of_getElem? (i := 5) (by decide +kernel)
theorem u_X3_init_3 : ∀ w ∈ u_ws RX3 TX3 14, w ∈ wsX3_init := fun w h => List.mem_cons_of_mem _ (List.mem_append_right _ (h))
theorem k_X3_init_ac21 : Cond.arrayClass .long ∈ wsX3_init := List.mem_of_getElem? (i := 6) (by decide +kernel)
theorem k_X3_init_f17 : Cond.fieldLink RX3 17 "OilPress$Mill" "cutOff" "[J" ∈ wsX3_init := List.mem_of_getElem? (i := 7) (by decide +kernel)
theorem k_X3_init_f21 : Cond.fieldLink RX3 21 "OilPress$Mill" "size" "I" ∈ wsX3_init := List.mem_of_getElem? (i := 8) (by decide +kernel)
theorem k_X3_init_f25 : Cond.fieldLink RX3 25 "OilPress$Mill" "least" "I" ∈ wsX3_init := List.mem_of_getElem? (i := 9) (by decide +kernel)
theorem k_X3_init_f28 : Cond.fieldLink RX3 28 "OilPress$Mill" "rate" "I" ∈ wsX3_init := List.mem_of_getElem? (i := 10) (by decide +kernel)
theorem k_X3_init_f31 : Cond.fieldLink RX3 31 "OilPress$Mill" "busyTill" "I" ∈ wsX3_init := List.mem_of_getElem? (i := 11) (by decide +kernel)
theorem k_X3_init_f34 : Cond.fieldLink RX3 34 "OilPress$Mill" "isWashed" "Z" ∈ wsX3_init := List.mem_of_getElem? (i := 12) (by decide +kernel)
theorem k_X3_init_f38 : Cond.fieldLink RX3 38 "OilPress$Mill" "like" "I" ∈ wsX3_init := List.mem_of_getElem? (i := 13) (by decide +kernel)
theorem k_X3_init_f41 : Cond.fieldLink RX3 41 "OilPress$Mill" "isPressing" "Z" ∈ wsX3_init := List.mem_of_getElem? (i := 14) (by decide +kernel)
theorem k_X3_init_f44 : Cond.fieldLink RX3 44 "OilPress$Mill" "promised" "I" ∈ wsX3_init := List.mem_of_getElem? (i := 15) (by decide +kernel)
theorem k_X3_init_f47 : Cond.fieldLink RX3 47 "OilPress$Mill" "sourness" "I" ∈ wsX3_init := List.mem_of_getElem? (i := 16) (by decide +kernel)
theorem k_X3_init_f50 : Cond.fieldLink RX3 50 "OilPress$Mill" "given" "I" ∈ wsX3_init := List.mem_of_getElem? (i := 17) (by decide +kernel)
theorem k_X3_init_f53 : Cond.fieldLink RX3 53 "OilPress$Mill" "kept" "I" ∈ wsX3_init := List.mem_of_getElem? (i := 18) (by decide +kernel)
theorem k_X3_init_f56 : Cond.fieldLink RX3 56 "OilPress$Mill" "number" "I" ∈ wsX3_init := List.mem_of_getElem? (i := 19) (by decide +kernel)
abbrev rmX3_init : Room := { frames := 1, cells := 2, slots := 24, locals := 20 }
def f_X3_init (h : oh_H) (o : Nat) (v1 : Int32) : Option (oh_H) :=
  oh_newa h 24 12 fun a2 h1 => (oh_pR h1 (some o) 193 (some a2)).bind fun h3 => oh_newa h3 21 12 fun a5 h4 => (oh_pR h4 (some o) 194 (some a5)).bind fun h6 => (oh_pI h6 (some o) 195 (0 : Int32)).bind fun h7 => (oh_pI h7 (some o) 196 (1000 : Int32)).bind fun h8 => (oh_pI h8 (some o) 197 (500 : Int32)).bind fun h9 => (oh_pI h9 (some o) 198 (0 : Int32)).bind fun h10 => oh_bz (0 : Int32) ((oh_pI h10 (some o) 199 (0 : Int32)).bind fun h11 => (oh_pI h11 (some o) 200 (-1 : Int32)).bind fun h12 => oh_bz (0 : Int32) ((oh_pI h12 (some o) 201 (0 : Int32)).bind fun h13 => (oh_pI h13 (some o) 202 (0 : Int32)).bind fun h14 => (oh_pI h14 (some o) 203 (0 : Int32)).bind fun h15 => (oh_pI h15 (some o) 204 (-1 : Int32)).bind fun h16 => (oh_pI h16 (some o) 205 (-1 : Int32)).bind fun h17 => (oh_pI h17 (some o) 192 v1).bind fun h18 => some h18))
set_option maxHeartbeats 4000000 in
set_option maxRecDepth 100000 in
theorem w_X3_init_0 {G : oh_G} {l : Launch} (C : oh_C G cX3_init wsX3_init RX3 rmX3_init 2) (hl : G.1.2.1 = l) (hN : G.2.1.2.2.2.1.name = "<init>") (h0 : oh_H) (h : oh_H) (o : Nat) (v1 : Int32) : oh_J (oh_TV h0 2 24 none G) (f_X3_init h o v1) (oh_V G 0 0 h 0 [(0, xr (some o)), (1, xi v1)] []) := by
  unfold f_X3_init
  refine or_aload_n C 0 rfl dX3_init_0 ?_
  refine or_objinit C k_X3_init_ol3 k_X3_init_oi k_X3_init_oc (Nat.le_of_ble_eq_true rfl) (Nat.le_of_ble_eq_true rfl) dX3_init_1 ?_
  refine or_aload_n C 0 rfl dX3_init_4 ?_
  refine or_bipush C (v := (12 : Int32)) dX3_init_5 (by decide) ?_
  refine or_anewa (n := (12 : Int32)) (N := 12) (cells := 0) (slots := 0) C 4 (fun _ => rfl) (by decide) (by decide) k_X3_init_cl9 rfl (by decide) rfl (Nat.le_of_ble_eq_true rfl) ⟨Nat.le_of_ble_eq_true rfl, Nat.le_of_ble_eq_true rfl⟩ dX3_init_7 (fun a2 h1 => ?_)
  refine or_putR C 3 1 rfl (by decide) rfl (by decide) u_X3_init_3 tyX3 tyX3_ok nmX3 (by decide) k_X3_init_f11 (Or.inr ⟨rfl, hN, rfl⟩) (by decide +kernel) (fun v => by cases v <;> exact ⟨rfl, rfl⟩) dX3_init_10 (fun h3 => ?_)
  refine or_aload_n C 0 rfl dX3_init_13 ?_
  refine or_bipush C (v := (12 : Int32)) dX3_init_14 (by decide) ?_
  refine or_newa (atype := .long) (ty := .long) (n := (12 : Int32)) (N := 12) (cells := 1) (slots := 12) C 1 rfl (fun _ => rfl) (by decide) k_X3_init_ac21 (fun _ _ z => z) rfl rfl (by decide) rfl (Nat.le_of_ble_eq_true rfl) ⟨Nat.le_of_ble_eq_true rfl, Nat.le_of_ble_eq_true rfl⟩ dX3_init_16 (fun a5 h4 => ?_)
  refine or_putR C 3 2 rfl (by decide) rfl (by decide) u_X3_init_3 tyX3 tyX3_ok nmX3 (by decide) k_X3_init_f17 (Or.inr ⟨rfl, hN, rfl⟩) (by decide +kernel) (fun v => by cases v <;> exact ⟨rfl, rfl⟩) dX3_init_18 (fun h6 => ?_)
  refine or_aload_n C 0 rfl dX3_init_21 ?_
  refine or_iconst C (v := (0 : Int32)) dX3_init_22 (by decide) ?_
  refine or_putI C 3 3 rfl (by decide) rfl (by decide) u_X3_init_3 tyX3 tyX3_ok nmX3 (by decide) k_X3_init_f21 (Or.inl rfl) (by decide +kernel) rfl dX3_init_23 (fun h7 => ?_)
  refine or_aload_n C 0 rfl dX3_init_26 ?_
  refine or_sipush C (v := (1000 : Int32)) dX3_init_27 (by decide) ?_
  refine or_putI C 3 4 rfl (by decide) rfl (by decide) u_X3_init_3 tyX3 tyX3_ok nmX3 (by decide) k_X3_init_f25 (Or.inl rfl) (by decide +kernel) rfl dX3_init_30 (fun h8 => ?_)
  refine or_aload_n C 0 rfl dX3_init_33 ?_
  refine or_sipush C (v := (500 : Int32)) dX3_init_34 (by decide) ?_
  refine or_putI C 3 5 rfl (by decide) rfl (by decide) u_X3_init_3 tyX3 tyX3_ok nmX3 (by decide) k_X3_init_f28 (Or.inl rfl) (by decide +kernel) rfl dX3_init_37 (fun h9 => ?_)
  refine or_aload_n C 0 rfl dX3_init_40 ?_
  refine or_iconst C (v := (0 : Int32)) dX3_init_41 (by decide) ?_
  refine or_putI C 3 6 rfl (by decide) rfl (by decide) u_X3_init_3 tyX3 tyX3_ok nmX3 (by decide) k_X3_init_f31 (Or.inl rfl) (by decide +kernel) rfl dX3_init_42 (fun h10 => ?_)
  refine or_aload_n C 0 rfl dX3_init_45 ?_
  refine or_iconst C (v := (0 : Int32)) dX3_init_46 (by decide) ?_
  refine or_putZ C 3 7 rfl (by decide) rfl (by decide) u_X3_init_3 tyX3 tyX3_ok nmX3 (by decide) k_X3_init_f34 (Or.inl rfl) (by decide +kernel) rfl dX3_init_47 (fun h11 => ?_)
  refine or_aload_n C 0 rfl dX3_init_50 ?_
  refine or_iconst C (v := (-1 : Int32)) dX3_init_51 (by decide) ?_
  refine or_putI C 3 8 rfl (by decide) rfl (by decide) u_X3_init_3 tyX3 tyX3_ok nmX3 (by decide) k_X3_init_f38 (Or.inl rfl) (by decide +kernel) rfl dX3_init_52 (fun h12 => ?_)
  refine or_aload_n C 0 rfl dX3_init_55 ?_
  refine or_iconst C (v := (0 : Int32)) dX3_init_56 (by decide) ?_
  refine or_putZ C 3 9 rfl (by decide) rfl (by decide) u_X3_init_3 tyX3 tyX3_ok nmX3 (by decide) k_X3_init_f41 (Or.inl rfl) (by decide +kernel) rfl dX3_init_57 (fun h13 => ?_)
  refine or_aload_n C 0 rfl dX3_init_60 ?_
  refine or_iconst C (v := (0 : Int32)) dX3_init_61 (by decide) ?_
  refine or_putI C 3 10 rfl (by decide) rfl (by decide) u_X3_init_3 tyX3 tyX3_ok nmX3 (by decide) k_X3_init_f44 (Or.inl rfl) (by decide +kernel) rfl dX3_init_62 (fun h14 => ?_)
  refine or_aload_n C 0 rfl dX3_init_65 ?_
  refine or_iconst C (v := (0 : Int32)) dX3_init_66 (by decide) ?_
  refine or_putI C 3 11 rfl (by decide) rfl (by decide) u_X3_init_3 tyX3 tyX3_ok nmX3 (by decide) k_X3_init_f47 (Or.inl rfl) (by decide +kernel) rfl dX3_init_67 (fun h15 => ?_)
  refine or_aload_n C 0 rfl dX3_init_70 ?_
  refine or_iconst C (v := (-1 : Int32)) dX3_init_71 (by decide) ?_
  refine or_putI C 3 12 rfl (by decide) rfl (by decide) u_X3_init_3 tyX3 tyX3_ok nmX3 (by decide) k_X3_init_f50 (Or.inl rfl) (by decide +kernel) rfl dX3_init_72 (fun h16 => ?_)
  refine or_aload_n C 0 rfl dX3_init_75 ?_
  refine or_iconst C (v := (-1 : Int32)) dX3_init_76 (by decide) ?_
  refine or_putI C 3 13 rfl (by decide) rfl (by decide) u_X3_init_3 tyX3 tyX3_ok nmX3 (by decide) k_X3_init_f53 (Or.inl rfl) (by decide +kernel) rfl dX3_init_77 (fun h17 => ?_)
  refine or_aload_n C 0 rfl dX3_init_80 ?_
  refine or_iload_n C 1 rfl dX3_init_81 ?_
  refine or_putI C 3 0 rfl (by decide) rfl (by decide) u_X3_init_3 tyX3 tyX3_ok nmX3 (by decide) k_X3_init_f56 (Or.inr ⟨rfl, hN, rfl⟩) (by decide +kernel) rfl dX3_init_82 (fun h18 => ?_)
  exact or_vret C ⟨Nat.le_of_ble_eq_true rfl, Nat.le_of_ble_eq_true rfl⟩ dX3_init_85
theorem m_X3_init (l : Launch) (h : oh_H) (o : Nat) (v1 : Int32) (p : oh_H) (hf : f_X3_init h o v1 = some p) : oh_M l yX3_init wsX3_init rmX3_init 2 24 [xr (some o), xi v1] h none p :=
  oh_met (cc := cX3_init) (maxL := 2) (ret := none) (by decide) rfl (Nat.le_of_ble_eq_true rfl) (fun G C hl hN E => w_X3_init_0 C hl hN h h o v1 p hf E)
