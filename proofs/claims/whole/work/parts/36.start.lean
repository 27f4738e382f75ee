theorem k_L_law_inst0 : Cond.instantiable RX0 1 ∈ wsL_law := List.mem_of_getElem? (i := 21) (by decide +kernel)
theorem k_L_law_inst1 : Cond.instantiable RX1 3 ∈ wsL_law := List.mem_of_getElem? (i := 139) (by decide +kernel)
theorem k_L_law_inst2 : Cond.instantiable RX2 12 ∈ wsL_law := List.mem_of_getElem? (i := 166) (by decide +kernel)
theorem k_L_law_inst3 : Cond.instantiable RX3 14 ∈ wsL_law := List.mem_of_getElem? (i := 39) (by decide +kernel)
theorem k_L_law_inst4 : Cond.instantiable RX4 15 ∈ wsL_law := List.mem_of_getElem? (i := 29) (by decide +kernel)
theorem k_L_law_inst5 : Cond.instantiable RX5 5 ∈ wsL_law := List.mem_of_getElem? (i := 25) (by decide +kernel)
theorem k_L_law_inst6 : Cond.instantiable RX6 8 ∈ wsL_law := List.mem_of_getElem? (i := 472) (by decide +kernel)
theorem k_L_law_inst7 : Cond.instantiable RX7 14 ∈ wsL_law := List.mem_of_getElem? (i := 1) (by decide +kernel)
theorem k_L_law_inst8 : Cond.instantiable RX8 54 ∈ wsL_law := List.mem_of_getElem? (i := 4) (by decide +kernel)
theorem k_L_law_arr0 : Cond.arrayClass .int ∈ wsL_law := List.mem_of_getElem? (i := 44) (by decide +kernel)
theorem k_L_law_arr1 : Cond.arrayClass .long ∈ wsL_law := List.mem_of_getElem? (i := 78) (by decide +kernel)
theorem k_L_law_arr2 : Cond.arrayClass .boolean ∈ wsL_law := List.mem_of_getElem? (i := 111) (by decide +kernel)
theorem ol_over0 : Cond.arrayOver (.object "OilPress$Grove") ∈ lw_tbl := List.mem_append_right _ (List.mem_of_getElem? (i := 20) (by decide +kernel))
theorem ol_over1 : Cond.arrayOver (.object "OilPress$Lot") ∈ lw_tbl := List.mem_append_right _ (List.mem_of_getElem? (i := 22) (by decide +kernel))
theorem ol_over2 : Cond.arrayOver (.object "OilPress$Mill") ∈ lw_tbl := List.mem_append_right _ (List.mem_of_getElem? (i := 24) (by decide +kernel))
theorem ol_over3 : Cond.arrayOver (.object "OilPress$Vat") ∈ lw_tbl := List.mem_append_right _ (List.mem_of_getElem? (i := 26) (by decide +kernel))
theorem ol_nest0 : Cond.methodLinkNest "OilPress$Debts" 15 yX7_isFarmer "OilPress" ∈ lw_tbl := List.mem_append_right _ (List.mem_of_getElem? (i := 576) (by decide +kernel))
theorem ol_nest1 : Cond.methodLinkNest "OilPress$Debts" 19 yX7_isSort "OilPress" ∈ lw_tbl := List.mem_append_right _ (List.mem_of_getElem? (i := 577) (by decide +kernel))
theorem ol_nest2 : Cond.methodLinkNest "OilPress$Debts" 28 yX7_divideUp "OilPress" ∈ lw_tbl := List.mem_append_right _ (List.mem_of_getElem? (i := 592) (by decide +kernel))
theorem ol_nest3 : Cond.methodLinkNest "OilPress$Mill" 59 yX7_divideUp "OilPress" ∈ lw_tbl := List.mem_append_right _ (List.mem_of_getElem? (i := 438) (by decide +kernel))
theorem ol_nest4 : Cond.methodLinkNest "OilPress" 35 yX0_init "OilPress" ∈ lw_tbl := List.mem_append_right _ (List.mem_of_getElem? (i := 29) (by decide +kernel))
theorem ol_nest5 : Cond.methodLinkNest "OilPress" 49 yX4_init "OilPress" ∈ lw_tbl := List.mem_append_right _ (List.mem_of_getElem? (i := 67) (by decide +kernel))
theorem ol_nest6 : Cond.methodLinkNest "OilPress" 42 yX5_init "OilPress" ∈ lw_tbl := List.mem_append_right _ (List.mem_of_getElem? (i := 40) (by decide +kernel))
theorem ol_nest : ∀ q ∈ oh_nest, Cond.methodLinkNest q.1 q.2.1 q.2.2 "OilPress" ∈ lw_tbl := by
  intro q hq
  simp only [oh_nest, List.mem_cons, List.not_mem_nil, or_false] at hq
  rcases hq with rfl | rfl | rfl | rfl | rfl | rfl | rfl
  · exact ol_nest0
  · exact ol_nest1
  · exact ol_nest2
  · exact ol_nest3
  · exact ol_nest4
  · exact ol_nest5
  · exact ol_nest6
theorem wsL_law_in : ∀ w ∈ wsL_law, w ∈ lw_tbl := ol_app (ol_app (ol_app (ol_app (ol_app (ol_app (ol_app (ol_app (ol_app (ol_app (ol_app (li_wsL_law_r1) (ol_app (li_wsL_law_r2) (ol_app (li_wsL_law_r3) (ol_app (li_wsL_law_r4) (ol_app (li_wsL_law_r5) (ol_app (li_wsL_law_r6) (ol_app (li_wsL_law_r7) (ol_app (li_wsL_law_r8) (ol_app (li_wsL_law_r9) (ol_app (li_wsL_law_r10) (ol_app (li_wsL_law_r11) (ol_app (li_wsL_law_r12) (ol_app (li_wsL_law_r13) (ol_app (li_wsL_law_r14) (ol_app (li_wsL_law_r15) (ol_app (li_wsL_law_r16) (ol_app (li_wsL_law_r17) (ol_app (li_wsL_law_r18) (ol_app (li_wsL_law_r19) (ol_app (li_wsL_law_r20) (ol_app (li_wsL_law_r21) (ol_app (li_wsL_law_r22) (ol_app (li_wsL_law_r23) (ol_app (li_wsL_law_r24) (ol_app (li_wsL_law_r25) (ol_app (li_wsL_law_r26) (ol_app (li_wsL_law_r27) (ol_app (li_wsL_law_r28) (ol_app (li_wsL_law_r29) (ol_app (li_wsL_law_r30) (ol_app (li_wsL_law_r31) (ol_app (li_wsL_law_r32) (ol_app (li_wsL_law_r33) (ol_app (li_wsL_law_r34) (ol_app (li_wsL_law_r35) (li_wsL_law_r36)))))))))))))))))))))))))))))))))))) (li_wsX70)) (li_wsX80)) (li_wsX00)) (li_wsX50)) (li_wsX40)) (li_wsX30)) (li_wsX10)) (li_wsX20)) (li_wsX60)) (fun _ h => absurd h List.not_mem_nil)
theorem inX0 : ∀ w ∈ wsX00, w ∈ lw_tbl := li_wsX00
theorem inX1 : ∀ w ∈ wsX10, w ∈ lw_tbl := li_wsX10
theorem inX2 : ∀ w ∈ wsX20, w ∈ lw_tbl := li_wsX20
theorem inX3 : ∀ w ∈ wsX30, w ∈ lw_tbl := li_wsX30
theorem inX4 : ∀ w ∈ wsX40, w ∈ lw_tbl := li_wsX40
theorem inX5 : ∀ w ∈ wsX50, w ∈ lw_tbl := li_wsX50
theorem inX6 : ∀ w ∈ wsX60, w ∈ lw_tbl := li_wsX60
theorem inX7 : ∀ w ∈ wsX70, w ∈ lw_tbl := li_wsX70
theorem inX8 : ∀ w ∈ wsX80, w ∈ lw_tbl := li_wsX80
theorem ol_start {args : Array Value} {s : State} (hts : ∀ w ∈ lw_tbl, w.before args s = true) : ∃ (D : va_G) (dA : Nat → ClassId), oh_KK D dA s := by
  obtain ⟨c0, i0, hKn0⟩ := u_known (C := RX0) (T := TX0) (N := 1) (n := 1) hts inX0 (hts (.instantiable RX0 1) (wsL_law_in _ k_L_law_inst0))
  obtain ⟨c1, i1, hKn1⟩ := u_known (C := RX1) (T := TX1) (N := 3) (n := 3) hts inX1 (hts (.instantiable RX1 3) (wsL_law_in _ k_L_law_inst1))
  obtain ⟨c2, i2, hKn2⟩ := u_known (C := RX2) (T := TX2) (N := 12) (n := 12) hts inX2 (hts (.instantiable RX2 12) (wsL_law_in _ k_L_law_inst2))
  obtain ⟨c3, i3, hKn3⟩ := u_known (C := RX3) (T := TX3) (N := 14) (n := 14) hts inX3 (hts (.instantiable RX3 14) (wsL_law_in _ k_L_law_inst3))
  obtain ⟨c4, i4, hKn4⟩ := u_known (C := RX4) (T := TX4) (N := 15) (n := 15) hts inX4 (hts (.instantiable RX4 15) (wsL_law_in _ k_L_law_inst4))
  obtain ⟨c5, i5, hKn5⟩ := u_known (C := RX5) (T := TX5) (N := 5) (n := 5) hts inX5 (hts (.instantiable RX5 5) (wsL_law_in _ k_L_law_inst5))
  obtain ⟨c6, i6, hKn6⟩ := u_known (C := RX6) (T := TX6) (N := 8) (n := 8) hts inX6 (hts (.instantiable RX6 8) (wsL_law_in _ k_L_law_inst6))
  obtain ⟨c7, i7, hKn7⟩ := u_known (C := RX7) (T := TX7) (N := 14) (n := 14) hts inX7 (hts (.instantiable RX7 14) (wsL_law_in _ k_L_law_inst7))
  obtain ⟨c8, i8, hKn8⟩ := u_known (C := RX8) (T := TX8) (N := 54) (n := 54) hts inX8 (hts (.instantiable RX8 54) (wsL_law_in _ k_L_law_inst8))
  obtain ⟨a0, hA0⟩ := ol_arr (ty := .int) (hts (.arrayClass .int) (wsL_law_in _ k_L_law_arr0)) (fun _ z => z)
  obtain ⟨a1, hA1⟩ := ol_arr (ty := .long) (hts (.arrayClass .long) (wsL_law_in _ k_L_law_arr1)) (fun _ z => z)
  obtain ⟨a2, hA2⟩ := ol_arr (ty := .boolean) (hts (.arrayClass .boolean) (wsL_law_in _ k_L_law_arr2)) (fun _ z => z)
  have hq0 := hts (.arrayOver (.object "OilPress$Grove")) ol_over0
  obtain ⟨a3, hA3⟩ := ol_arrq hq0
  have hq1 := hts (.arrayOver (.object "OilPress$Lot")) ol_over1
  obtain ⟨a4, hA4⟩ := ol_arrq hq1
  have hq2 := hts (.arrayOver (.object "OilPress$Mill")) ol_over2
  obtain ⟨a5, hA5⟩ := ol_arrq hq2
  have hq3 := hts (.arrayOver (.object "OilPress$Vat")) ol_over3
  obtain ⟨a6, hA6⟩ := ol_arrq hq3
  refine ⟨(fun k => match k with | 0 => c0 | 1 => c1 | 2 => c2 | 3 => c3 | 4 => c4 | 5 => c5 | 6 => c6 | 7 => c7 | _ => c8, fun k => match k with | 0 => i0 | 1 => i1 | 2 => i2 | 3 => i3 | 4 => i4 | 5 => i5 | 6 => i6 | 7 => i7 | _ => i8), fun k => match k with | 0 => a0 | 1 => a1 | 2 => a2 | 3 => a3 | 4 => a4 | 5 => a5 | _ => a6, ⟨?_, ?_⟩, ?_, ?_⟩
  · intro k q hq
    match k, hq with
    | 0, hq => cases hq; exact hKn0
    | 1, hq => cases hq; exact hKn1
    | 2, hq => cases hq; exact hKn2
    | 3, hq => cases hq; exact hKn3
    | 4, hq => cases hq; exact hKn4
    | 5, hq => cases hq; exact hKn5
    | 6, hq => cases hq; exact hKn6
    | 7, hq => cases hq; exact hKn7
    | 8, hq => cases hq; exact hKn8
    | k + 9, hq => simp [vwCl] at hq
  · intro k q hq
    match k, hq with
    | 0, hq => cases hq; exact hA0
    | 1, hq => cases hq; exact hA1
    | 2, hq => cases hq; exact hA2
    | 3, hq => cases hq; exact hA3
    | 4, hq => cases hq; exact hA4
    | 5, hq => cases hq; exact hA5
    | 6, hq => cases hq; exact hA6
    | k + 7, hq => simp [oh_tys] at hq
  · intro q hq
    exact va_Nw.of rfl (hts _ (ol_nest q hq))
  · intro C hC
    simp only [List.mem_cons, List.not_mem_nil, or_false] at hC
    rcases hC with rfl | rfl | rfl | rfl
    · exact va_AO.of hq0
    · exact va_AO.of hq1
    · exact va_AO.of hq2
    · exact va_AO.of hq3
/-- the heap at the start: nothing of ours in it -/
def oh_0 (n : Nat) : oh_H := (n, fun _ => 0, fun _ _ => 0, fun _ _ => 0, fun _ _ => none, fun _ => 0, fun _ _ => 0, fun _ _ => 0, fun _ _ => none)
set_option maxHeartbeats 4000000 in
theorem whole_of (hp : ∀ (n : Nat) (xs : Nat → Int32) (L o : Nat), L ≤ 2048 → f_L_law xs L (oh_0 n) o = some 1) {p : Program} {e : Env} {s : State} {m : MethodId} {below : List Frame} {meth : Method} {c : Code} (l : Launch) {b L : Nat} {xs : Nat → Int32} (hL : L ≤ 2048) (C0 : lw_At p s m meth c b L xs) : W p l e room_1 s m #[Value.ref b] below meth c s.heap [] 0 0 (lw_Z below #[Value.ref b] s) (entryFrame m ([Value.ref b] : List Value).toArray 4) := by
  obtain ⟨hx, hb, hr, hml, hown, hts, hX, hbl, hlocks, hgv⟩ := id C0
  obtain ⟨D, dA, hKK⟩ := ol_start hts
  have hl := lv_entry ([.ref b]) (n := 4) (Nat.le_of_ble_eq_true rfl)
  rw [lg_entry_eq]
  have C : oh_C ((p, l, e, room_1, s), (m, #[Value.ref b], below, meth, c), (lw_Z below #[Value.ref b] s, D, dA, (fun q => s.heap.size ≤ q), 4)) cL_law wsL_law RL room_1 4 := ⟨hx, hb, hml, hown, fun w h => hts w (wsL_law_in w h), hKK, rfl, rfl⟩
  have E : ol_E ((p, l, e, room_1, s), (m, #[Value.ref b], below, meth, c), (lw_Z below #[Value.ref b] s, D, dA, (fun q => s.heap.size ≤ q), 4)) b L xs := ⟨rfl, rfl, rfl, hr, hlocks, hX, hbl⟩
  exact w_L_law_0 C rfl E (oh_0 s.heap.size) 1 (hp s.heap.size xs L b hL) rfl s.heap [] _ ⟨rfl, fun q hq => absurd rfl hq⟩ va_S.rf hl (fun q hq => hq.elim (fun z => absurd rfl z) (fun z => z))
