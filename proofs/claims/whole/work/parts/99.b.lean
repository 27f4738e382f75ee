/-! the law: whose call finds no model at its place changes nothing -/
theorem n_rc {h : oh_H} {o : Nat} (hK : ¬ oh_K h o = 9) {α : Type} (F : Nat → Option α) : oh_rc h (some o) 9 F = none := by
  simp only [oh_rc, Option.bind_some, hK, if_false]
theorem n_gI {h : oh_H} {o c : Nat} (hK : ¬ oh_K h o = 9) (hc : c / 64 + 1 = 9) : oh_gI h (some o) c = none := by
  simp only [oh_gI, Option.bind_some, hc, hK, if_false]
theorem n_gR {h : oh_H} {o c : Nat} (hK : ¬ oh_K h o = 9) (hc : c / 64 + 1 = 9) : oh_gR h (some o) c = none := by
  simp only [oh_gR, Option.bind_some, hc, hK, if_false]
theorem n_pI {h : oh_H} {o c : Nat} {x : Int32} (hK : ¬ oh_K h o = 9) (hc : c / 64 + 1 = 9) : oh_pI h (some o) c x = none := by
  simp only [oh_pI, Option.bind_some, hc, hK, if_false]
theorem loop_none {S X : Type} {body : S → Option (S ⊕ X)} {s : S} {n : Nat} (h : body s = none) : oh_loop body n s = none := by
  cases n with
  | zero => rfl
  | succ n => simp only [oh_loop, h]
theorem same_of {h h2 : oh_H} {r r' : Int32} (e : some (r', h) = some (r, h2)) : h2 = h := by
  cases e
  rfl
theorem z_grove {h h2 : oh_H} {o : Nat} {x y r : Int32} (hK : ¬ oh_K h o = 9) (e : f_X8_grove h o x y = some (r, h2)) : h2 = h := by
  revert e
  simp only [f_X8_grove, f_X8_grove_29, n_rc hK, n_gI hK (c := 516) rfl, n_gI hK (c := 517) rfl, n_gI hK (c := 518) rfl, n_gR hK (c := 516) rfl, n_gR hK (c := 517) rfl, n_gR hK (c := 518) rfl, n_pI hK (c := 516) rfl, n_pI hK (c := 517) rfl, n_pI hK (c := 518) rfl, Option.bind_none, Option.bind_some, e_in, e_bz0, oh_lt_eq, ite01]
  intro e
  first
    | exact same_of e
    | exact absurd e (by intro z; cases z)
    | (split at e <;> first | exact same_of e | exact absurd e (by intro z; cases z) | (split at e <;> first | exact same_of e | exact absurd e (by intro z; cases z) | (split at e <;> first | exact same_of e | exact absurd e (by intro z; cases z))))
theorem z_lot {h h2 : oh_H} {o : Nat} {x y r : Int32} (hK : ¬ oh_K h o = 9) (e : f_X8_lot h o x y = some (r, h2)) : h2 = h := by
  revert e
  simp only [f_X8_lot, f_X8_lot_33, n_rc hK, n_gI hK (c := 516) rfl, n_gI hK (c := 519) rfl, n_gI hK (c := 520) rfl, n_gI hK (c := 521) rfl, n_gI hK (c := 522) rfl, n_gI hK (c := 529) rfl, n_gR hK (c := 516) rfl, n_gR hK (c := 519) rfl, n_gR hK (c := 520) rfl, n_gR hK (c := 521) rfl, n_gR hK (c := 522) rfl, n_gR hK (c := 529) rfl, n_pI hK (c := 516) rfl, n_pI hK (c := 519) rfl, n_pI hK (c := 520) rfl, n_pI hK (c := 521) rfl, n_pI hK (c := 522) rfl, n_pI hK (c := 529) rfl, Option.bind_none, Option.bind_some, e_in, e_bz0, oh_lt_eq, ite01]
  intro e
  first
    | exact same_of e
    | exact absurd e (by intro z; cases z)
    | (split at e <;> first | exact same_of e | exact absurd e (by intro z; cases z) | (split at e <;> first | exact same_of e | exact absurd e (by intro z; cases z) | (split at e <;> first | exact same_of e | exact absurd e (by intro z; cases z))))
theorem z_wish {h h2 : oh_H} {o : Nat} {x y r : Int32} (hK : ¬ oh_K h o = 9) (e : f_X8_wish h o x y = some (r, h2)) : h2 = h := by
  revert e
  simp only [f_X8_wish, f_X8_wish_28, n_rc hK, n_gI hK (c := 520) rfl, n_gI hK (c := 523) rfl, n_gI hK (c := 530) rfl, n_gR hK (c := 520) rfl, n_gR hK (c := 523) rfl, n_gR hK (c := 530) rfl, n_pI hK (c := 520) rfl, n_pI hK (c := 523) rfl, n_pI hK (c := 530) rfl, Option.bind_none, Option.bind_some, e_in, e_bz0, oh_lt_eq, ite01]
  intro e
  first
    | exact same_of e
    | exact absurd e (by intro z; cases z)
    | (split at e <;> first | exact same_of e | exact absurd e (by intro z; cases z) | (split at e <;> first | exact same_of e | exact absurd e (by intro z; cases z) | (split at e <;> first | exact same_of e | exact absurd e (by intro z; cases z))))
theorem z_scale {h h2 : oh_H} {o : Nat} {x r : Int32} (hK : ¬ oh_K h o = 9) (e : f_X8_scale h o x = some (r, h2)) : h2 = h := by
  revert e
  simp only [f_X8_scale, n_rc hK, n_gI hK (c := 515) rfl, n_gR hK (c := 515) rfl, n_pI hK (c := 515) rfl, Option.bind_none, Option.bind_some, e_in, e_bz0, oh_lt_eq, ite01]
  intro e
  first
    | exact same_of e
    | exact absurd e (by intro z; cases z)
    | (split at e <;> first | exact same_of e | exact absurd e (by intro z; cases z) | (split at e <;> first | exact same_of e | exact absurd e (by intro z; cases z) | (split at e <;> first | exact same_of e | exact absurd e (by intro z; cases z))))
theorem z_weigh {h h2 : oh_H} {o : Nat} {x y r : Int32} (hK : ¬ oh_K h o = 9) (e : f_X8_weigh h o x y = some (r, h2)) : h2 = h := by
  revert e
  simp only [f_X8_weigh, f_X8_weigh_32, f_X8_weigh_34, f_X8_weigh_70, n_rc hK, n_gI hK (c := 515) rfl, n_gI hK (c := 523) rfl, n_gI hK (c := 524) rfl, n_gR hK (c := 515) rfl, n_gR hK (c := 523) rfl, n_gR hK (c := 524) rfl, n_pI hK (c := 515) rfl, n_pI hK (c := 523) rfl, n_pI hK (c := 524) rfl, Option.bind_none, Option.bind_some, e_in, e_bz0, oh_lt_eq, ite01]
  intro e
  first
    | exact same_of e
    | exact absurd e (by intro z; cases z)
    | (split at e <;> first | exact same_of e | exact absurd e (by intro z; cases z) | (split at e <;> first | exact same_of e | exact absurd e (by intro z; cases z) | (split at e <;> first | exact same_of e | exact absurd e (by intro z; cases z))))
theorem z_sample {h h2 : oh_H} {o : Nat} {x y z r : Int32} (hK : ¬ oh_K h o = 9) (e : f_X8_sample h o x y z = some (r, h2)) : h2 = h := by
  revert e
  simp only [f_X8_sample, f_X8_sample_40, n_rc hK, n_gI hK (c := 523) rfl, n_gI hK (c := 525) rfl, n_gI hK (c := 526) rfl, n_gR hK (c := 523) rfl, n_gR hK (c := 525) rfl, n_gR hK (c := 526) rfl, n_pI hK (c := 523) rfl, n_pI hK (c := 525) rfl, n_pI hK (c := 526) rfl, Option.bind_none, Option.bind_some, e_in, e_bz0, oh_lt_eq, ite01]
  intro e
  first
    | exact same_of e
    | exact absurd e (by intro z; cases z)
    | (split at e <;> first | exact same_of e | exact absurd e (by intro z; cases z) | (split at e <;> first | exact same_of e | exact absurd e (by intro z; cases z) | (split at e <;> first | exact same_of e | exact absurd e (by intro z; cases z))))
theorem z_mill {h h2 : oh_H} {o : Nat} {x y z r : Int32} (hK : ¬ oh_K h o = 9) (e : f_X8_mill h o x y z = some (r, h2)) : h2 = h := by
  revert e
  simp only [f_X8_mill, f_X8_mill_39, n_rc hK, n_gI hK (c := 531) rfl, n_gI hK (c := 532) rfl, n_gI hK (c := 534) rfl, n_gR hK (c := 531) rfl, n_gR hK (c := 532) rfl, n_gR hK (c := 534) rfl, n_pI hK (c := 531) rfl, n_pI hK (c := 532) rfl, n_pI hK (c := 534) rfl, Option.bind_none, Option.bind_some, e_in, e_bz0, oh_lt_eq, ite01]
  intro e
  first
    | exact same_of e
    | exact absurd e (by intro z; cases z)
    | (split at e <;> first | exact same_of e | exact absurd e (by intro z; cases z) | (split at e <;> first | exact same_of e | exact absurd e (by intro z; cases z) | (split at e <;> first | exact same_of e | exact absurd e (by intro z; cases z))))
theorem z_put {h h2 : oh_H} {o : Nat} {x y r : Int32} (hK : ¬ oh_K h o = 9) (e : f_X8_put h o x y = some (r, h2)) : h2 = h := by
  revert e
  simp only [f_X8_put, f_X8_put_132, f_X8_put_46, n_rc hK, n_gI hK (c := 523) rfl, n_gI hK (c := 529) rfl, n_gI hK (c := 534) rfl, n_gI hK (c := 535) rfl, n_gI hK (c := 536) rfl, n_gR hK (c := 523) rfl, n_gR hK (c := 529) rfl, n_gR hK (c := 534) rfl, n_gR hK (c := 535) rfl, n_gR hK (c := 536) rfl, n_pI hK (c := 523) rfl, n_pI hK (c := 529) rfl, n_pI hK (c := 534) rfl, n_pI hK (c := 535) rfl, n_pI hK (c := 536) rfl, Option.bind_none, Option.bind_some, e_in, e_bz0, oh_lt_eq, ite01]
  intro e
  first
    | exact same_of e
    | exact absurd e (by intro z; cases z)
    | (split at e <;> first | exact same_of e | exact absurd e (by intro z; cases z) | (split at e <;> first | exact same_of e | exact absurd e (by intro z; cases z) | (split at e <;> first | exact same_of e | exact absurd e (by intro z; cases z))))
theorem z_take {h h2 : oh_H} {o : Nat} {x r : Int32} (hK : ¬ oh_K h o = 9) (e : f_X8_take h o x = some (r, h2)) : h2 = h := by
  revert e
  simp only [f_X8_take, f_X8_take_32, f_X8_take_92, n_rc hK, n_gI hK (c := 523) rfl, n_gI hK (c := 529) rfl, n_gI hK (c := 536) rfl, n_gR hK (c := 523) rfl, n_gR hK (c := 529) rfl, n_gR hK (c := 536) rfl, n_pI hK (c := 523) rfl, n_pI hK (c := 529) rfl, n_pI hK (c := 536) rfl, Option.bind_none, Option.bind_some, e_in, e_bz0, oh_lt_eq, ite01]
  intro e
  first
    | exact same_of e
    | exact absurd e (by intro z; cases z)
    | (split at e <;> first | exact same_of e | exact absurd e (by intro z; cases z) | (split at e <;> first | exact same_of e | exact absurd e (by intro z; cases z) | (split at e <;> first | exact same_of e | exact absurd e (by intro z; cases z))))
theorem z_wash {h h2 : oh_H} {o : Nat} {x r : Int32} (hK : ¬ oh_K h o = 9) (e : f_X8_wash h o x = some (r, h2)) : h2 = h := by
  revert e
  simp only [f_X8_wash, f_X8_wash_30, n_rc hK, n_gI hK (c := 512) rfl, n_gI hK (c := 533) rfl, n_gI hK (c := 534) rfl, n_gI hK (c := 537) rfl, n_gR hK (c := 512) rfl, n_gR hK (c := 533) rfl, n_gR hK (c := 534) rfl, n_gR hK (c := 537) rfl, n_pI hK (c := 512) rfl, n_pI hK (c := 533) rfl, n_pI hK (c := 534) rfl, n_pI hK (c := 537) rfl, Option.bind_none, Option.bind_some, e_in, e_bz0, oh_lt_eq, ite01]
  intro e
  first
    | exact same_of e
    | exact absurd e (by intro z; cases z)
    | (split at e <;> first | exact same_of e | exact absurd e (by intro z; cases z) | (split at e <;> first | exact same_of e | exact absurd e (by intro z; cases z) | (split at e <;> first | exact same_of e | exact absurd e (by intro z; cases z))))
theorem z_press {h h2 : oh_H} {o : Nat} {x r : Int32} (hK : ¬ oh_K h o = 9) (e : f_X8_press h o x = some (r, h2)) : h2 = h := by
  revert e
  simp only [f_X8_press, f_X8_press_16, f_X8_press_92, n_rc hK, n_gI hK (c := 512) rfl, n_gI hK (c := 518) rfl, n_gI hK (c := 520) rfl, n_gI hK (c := 521) rfl, n_gI hK (c := 533) rfl, n_gI hK (c := 536) rfl, n_gI hK (c := 537) rfl, n_gI hK (c := 538) rfl, n_gI hK (c := 539) rfl, n_gI hK (c := 540) rfl, n_gR hK (c := 512) rfl, n_gR hK (c := 518) rfl, n_gR hK (c := 520) rfl, n_gR hK (c := 521) rfl, n_gR hK (c := 533) rfl, n_gR hK (c := 536) rfl, n_gR hK (c := 537) rfl, n_gR hK (c := 538) rfl, n_gR hK (c := 539) rfl, n_gR hK (c := 540) rfl, n_pI hK (c := 512) rfl, n_pI hK (c := 518) rfl, n_pI hK (c := 520) rfl, n_pI hK (c := 521) rfl, n_pI hK (c := 533) rfl, n_pI hK (c := 536) rfl, n_pI hK (c := 537) rfl, n_pI hK (c := 538) rfl, n_pI hK (c := 539) rfl, n_pI hK (c := 540) rfl, Option.bind_none, Option.bind_some, e_in, e_bz0, oh_lt_eq, ite01]
  intro e
  first
    | exact same_of e
    | exact absurd e (by intro z; cases z)
    | (split at e <;> first | exact same_of e | exact absurd e (by intro z; cases z) | (split at e <;> first | exact same_of e | exact absurd e (by intro z; cases z) | (split at e <;> first | exact same_of e | exact absurd e (by intro z; cases z))))
theorem z_gave {h h2 : oh_H} {o : Nat} {x y r : Int32} (hK : ¬ oh_K h o = 9) (e : f_X8_gave h o x y = some (r, h2)) : h2 = h := by
  revert e
  simp only [f_X8_gave, f_X8_gave_53, n_rc hK, n_gI hK (c := 512) rfl, n_gI hK (c := 533) rfl, n_gI hK (c := 536) rfl, n_gI hK (c := 539) rfl, n_gI hK (c := 551) rfl, n_gR hK (c := 512) rfl, n_gR hK (c := 533) rfl, n_gR hK (c := 536) rfl, n_gR hK (c := 539) rfl, n_gR hK (c := 551) rfl, n_pI hK (c := 512) rfl, n_pI hK (c := 533) rfl, n_pI hK (c := 536) rfl, n_pI hK (c := 539) rfl, n_pI hK (c := 551) rfl, Option.bind_none, Option.bind_some, e_in, e_bz0, oh_lt_eq, ite01]
  intro e
  first
    | exact same_of e
    | exact absurd e (by intro z; cases z)
    | (split at e <;> first | exact same_of e | exact absurd e (by intro z; cases z) | (split at e <;> first | exact same_of e | exact absurd e (by intro z; cases z) | (split at e <;> first | exact same_of e | exact absurd e (by intro z; cases z))))
theorem z_share {h h2 : oh_H} {o : Nat} {x r : Int32} (hK : ¬ oh_K h o = 9) (e : f_X8_share h o x = some (r, h2)) : h2 = h := by
  revert e
  simp only [f_X8_share, f_X8_share_273, f_X8_share_277, f_X8_share_278, f_X8_share_305, f_X8_share_37, n_rc hK, n_gI hK (c := 514) rfl, n_gI hK (c := 534) rfl, n_gI hK (c := 536) rfl, n_gI hK (c := 539) rfl, n_gI hK (c := 540) rfl, n_gR hK (c := 514) rfl, n_gR hK (c := 534) rfl, n_gR hK (c := 536) rfl, n_gR hK (c := 539) rfl, n_gR hK (c := 540) rfl, n_pI hK (c := 514) rfl, n_pI hK (c := 534) rfl, n_pI hK (c := 536) rfl, n_pI hK (c := 539) rfl, n_pI hK (c := 540) rfl, Option.bind_none, Option.bind_some, e_in, e_bz0, oh_lt_eq, ite01]
  intro e
  first
    | exact same_of e
    | exact absurd e (by intro z; cases z)
    | (split at e <;> first | exact same_of e | exact absurd e (by intro z; cases z) | (split at e <;> first | exact same_of e | exact absurd e (by intro z; cases z) | (split at e <;> first | exact same_of e | exact absurd e (by intro z; cases z))))
theorem z_keep {h h2 : oh_H} {o : Nat} {x r : Int32} (hK : ¬ oh_K h o = 9) (e : f_X8_keep h o x = some (r, h2)) : h2 = h := by
  revert e
  simp only [f_X8_keep, n_rc hK, n_gI hK (c := 514) rfl, n_gR hK (c := 514) rfl, n_pI hK (c := 514) rfl, Option.bind_none, Option.bind_some, e_in, e_bz0, oh_lt_eq, ite01]
  intro e
  first
    | exact same_of e
    | exact absurd e (by intro z; cases z)
    | (split at e <;> first | exact same_of e | exact absurd e (by intro z; cases z) | (split at e <;> first | exact same_of e | exact absurd e (by intro z; cases z) | (split at e <;> first | exact same_of e | exact absurd e (by intro z; cases z))))
theorem z_vat {h h2 : oh_H} {o : Nat} {x y z r : Int32} (hK : ¬ oh_K h o = 9) (e : f_X8_vat h o x y z = some (r, h2)) : h2 = h := by
  revert e
  simp only [f_X8_vat, f_X8_vat_28, n_rc hK, n_gI hK (c := 541) rfl, n_gI hK (c := 542) rfl, n_gI hK (c := 543) rfl, n_gI hK (c := 544) rfl, n_gR hK (c := 541) rfl, n_gR hK (c := 542) rfl, n_gR hK (c := 543) rfl, n_gR hK (c := 544) rfl, n_pI hK (c := 541) rfl, n_pI hK (c := 542) rfl, n_pI hK (c := 543) rfl, n_pI hK (c := 544) rfl, Option.bind_none, Option.bind_some, e_in, e_bz0, oh_lt_eq, ite01]
  intro e
  first
    | exact same_of e
    | exact absurd e (by intro z; cases z)
    | (split at e <;> first | exact same_of e | exact absurd e (by intro z; cases z) | (split at e <;> first | exact same_of e | exact absurd e (by intro z; cases z) | (split at e <;> first | exact same_of e | exact absurd e (by intro z; cases z))))
theorem z_pour {h h2 : oh_H} {o : Nat} {x y r : Int32} (hK : ¬ oh_K h o = 9) (e : f_X8_pour h o x y = some (r, h2)) : h2 = h := by
  revert e
  simp only [f_X8_pour, f_X8_pour_44, n_rc hK, n_gI hK (c := 536) rfl, n_gI hK (c := 539) rfl, n_gI hK (c := 540) rfl, n_gI hK (c := 545) rfl, n_gI hK (c := 546) rfl, n_gI hK (c := 548) rfl, n_gI hK (c := 549) rfl, n_gR hK (c := 536) rfl, n_gR hK (c := 539) rfl, n_gR hK (c := 540) rfl, n_gR hK (c := 545) rfl, n_gR hK (c := 546) rfl, n_gR hK (c := 548) rfl, n_gR hK (c := 549) rfl, n_pI hK (c := 536) rfl, n_pI hK (c := 539) rfl, n_pI hK (c := 540) rfl, n_pI hK (c := 545) rfl, n_pI hK (c := 546) rfl, n_pI hK (c := 548) rfl, n_pI hK (c := 549) rfl, Option.bind_none, Option.bind_some, e_in, e_bz0, oh_lt_eq, ite01]
  intro e
  first
    | exact same_of e
    | exact absurd e (by intro z; cases z)
    | (split at e <;> first | exact same_of e | exact absurd e (by intro z; cases z) | (split at e <;> first | exact same_of e | exact absurd e (by intro z; cases z) | (split at e <;> first | exact same_of e | exact absurd e (by intro z; cases z))))
theorem z_fetch {h h2 : oh_H} {o : Nat} {x r : Int32} (hK : ¬ oh_K h o = 9) (e : f_X8_fetch h o x = some (r, h2)) : h2 = h := by
  revert e
  simp only [f_X8_fetch, f_X8_fetch_28, n_rc hK, n_gI hK (c := 523) rfl, n_gI hK (c := 528) rfl, n_gI hK (c := 529) rfl, n_gI hK (c := 552) rfl, n_gR hK (c := 523) rfl, n_gR hK (c := 528) rfl, n_gR hK (c := 529) rfl, n_gR hK (c := 552) rfl, n_pI hK (c := 523) rfl, n_pI hK (c := 528) rfl, n_pI hK (c := 529) rfl, n_pI hK (c := 552) rfl, Option.bind_none, Option.bind_some, e_in, e_bz0, oh_lt_eq, ite01]
  intro e
  first
    | exact same_of e
    | exact absurd e (by intro z; cases z)
    | (split at e <;> first | exact same_of e | exact absurd e (by intro z; cases z) | (split at e <;> first | exact same_of e | exact absurd e (by intro z; cases z) | (split at e <;> first | exact same_of e | exact absurd e (by intro z; cases z))))
theorem z_draw {h h2 : oh_H} {o : Nat} {x y r : Int32} (hK : ¬ oh_K h o = 9) (e : f_X8_draw h o x y = some (r, h2)) : h2 = h := by
  revert e
  simp only [f_X8_draw, f_X8_draw_23, n_rc hK, n_gI hK (c := 546) rfl, n_gI hK (c := 553) rfl, n_gR hK (c := 546) rfl, n_gR hK (c := 553) rfl, n_pI hK (c := 546) rfl, n_pI hK (c := 553) rfl, Option.bind_none, Option.bind_some, e_in, e_bz0, oh_lt_eq, ite01]
  intro e
  first
    | exact same_of e
    | exact absurd e (by intro z; cases z)
    | (split at e <;> first | exact same_of e | exact absurd e (by intro z; cases z) | (split at e <;> first | exact same_of e | exact absurd e (by intro z; cases z) | (split at e <;> first | exact same_of e | exact absurd e (by intro z; cases z))))
theorem z_lend {h h2 : oh_H} {o : Nat} {x y z r : Int32} (hK : ¬ oh_K h o = 9) (e : f_X8_lend h o x y z = some (r, h2)) : h2 = h := by
  revert e
  simp only [f_X8_lend, f_X8_lend_33, n_rc hK, n_gI hK (c := 542) rfl, n_gI hK (c := 546) rfl, n_gI hK (c := 550) rfl, n_gI hK (c := 554) rfl, n_gR hK (c := 542) rfl, n_gR hK (c := 546) rfl, n_gR hK (c := 550) rfl, n_gR hK (c := 554) rfl, n_pI hK (c := 542) rfl, n_pI hK (c := 546) rfl, n_pI hK (c := 550) rfl, n_pI hK (c := 554) rfl, Option.bind_none, Option.bind_some, e_in, e_bz0, oh_lt_eq, ite01]
  intro e
  first
    | exact same_of e
    | exact absurd e (by intro z; cases z)
    | (split at e <;> first | exact same_of e | exact absurd e (by intro z; cases z) | (split at e <;> first | exact same_of e | exact absurd e (by intro z; cases z) | (split at e <;> first | exact same_of e | exact absurd e (by intro z; cases z))))
theorem z_pay {h h2 : oh_H} {o : Nat} {x r : Int32} (hK : ¬ oh_K h o = 9) (e : f_X8_pay h o x = some (r, h2)) : h2 = h := by
  revert e
  simp only [f_X8_pay, f_X8_pay_38, n_rc hK, n_gI hK (c := 517) rfl, n_gI hK (c := 520) rfl, n_gI hK (c := 521) rfl, n_gI hK (c := 523) rfl, n_gI hK (c := 528) rfl, n_gI hK (c := 529) rfl, n_gI hK (c := 542) rfl, n_gI hK (c := 546) rfl, n_gR hK (c := 517) rfl, n_gR hK (c := 520) rfl, n_gR hK (c := 521) rfl, n_gR hK (c := 523) rfl, n_gR hK (c := 528) rfl, n_gR hK (c := 529) rfl, n_gR hK (c := 542) rfl, n_gR hK (c := 546) rfl, n_pI hK (c := 517) rfl, n_pI hK (c := 520) rfl, n_pI hK (c := 521) rfl, n_pI hK (c := 523) rfl, n_pI hK (c := 528) rfl, n_pI hK (c := 529) rfl, n_pI hK (c := 542) rfl, n_pI hK (c := 546) rfl, Option.bind_none, Option.bind_some, e_in, e_bz0, oh_lt_eq, ite01]
  intro e
  first
    | exact same_of e
    | exact absurd e (by intro z; cases z)
    | (split at e <;> first | exact same_of e | exact absurd e (by intro z; cases z) | (split at e <;> first | exact same_of e | exact absurd e (by intro z; cases z) | (split at e <;> first | exact same_of e | exact absurd e (by intro z; cases z))))
theorem z_hand {h h2 : oh_H} {o : Nat} {x y z r : Int32} (hK : ¬ oh_K h o = 9) (e : f_X8_hand h o x y z = some (r, h2)) : h2 = h := by
  revert e
  simp only [f_X8_hand, f_X8_hand_29, n_rc hK, Option.bind_none, Option.bind_some, e_in, e_bz0, oh_lt_eq, ite01]
  intro e
  first
    | exact same_of e
    | exact absurd e (by intro z; cases z)
    | (split at e <;> first | exact same_of e | exact absurd e (by intro z; cases z) | (split at e <;> first | exact same_of e | exact absurd e (by intro z; cases z) | (split at e <;> first | exact same_of e | exact absurd e (by intro z; cases z))))
theorem z_wait {h h2 : oh_H} {o : Nat} {x r : Int32} (hK : ¬ oh_K h o = 9) (e : f_X8_wait h o x = some (r, h2)) : h2 = h := by
  have l : f_X8_wait_14 h o x 0 = none := by
    unfold f_X8_wait_14
    refine loop_none ?_
    by_cases q : x ≤ 0
    · simp only [b_X8_wait_14, f_X8_wait_59, q, if_true, n_gI hK (c := 512) rfl, Option.bind_none, Option.map_none]
    · simp only [b_X8_wait_14, q, if_false, n_gI hK (c := 512) rfl, Option.bind_none]
  revert e
  simp only [f_X8_wait, f_X8_wait_53, f_X8_wait_59, l, n_rc hK, n_gI hK (c := 512) rfl, n_gR hK (c := 512) rfl, n_pI hK (c := 512) rfl, Option.bind_none, Option.bind_some, e_in, e_bz0, oh_lt_eq, ite01]
  intro e
  first
    | exact same_of e
    | exact absurd e (by intro z; cases z)
    | (split at e <;> first | exact same_of e | exact absurd e (by intro z; cases z) | (split at e <;> first | exact same_of e | exact absurd e (by intro z; cases z) | (split at e <;> first | exact same_of e | exact absurd e (by intro z; cases z))))
theorem z_fresh {h h2 : oh_H} {o : Nat} {x r : Int32} (hK : ¬ oh_K h o = 9) (e : f_X8_fresh h o x = some (r, h2)) : h2 = h := by
  revert e
  simp only [f_X8_fresh, n_rc hK, n_gI hK (c := 513) rfl, n_gR hK (c := 513) rfl, n_pI hK (c := 513) rfl, Option.bind_none, Option.bind_some, e_in, e_bz0, oh_lt_eq, ite01]
  intro e
  first
    | exact same_of e
    | exact absurd e (by intro z; cases z)
    | (split at e <;> first | exact same_of e | exact absurd e (by intro z; cases z) | (split at e <;> first | exact same_of e | exact absurd e (by intro z; cases z) | (split at e <;> first | exact same_of e | exact absurd e (by intro z; cases z))))
theorem z_plan {h h2 : oh_H} {o : Nat} {x r : Int32} (hK : ¬ oh_K h o = 9) (e : f_X8_plan h o x = some (r, h2)) : h2 = h := by
  revert e
  simp only [f_X8_plan, f_X8_plan_197, f_X8_plan_242, f_X8_plan_61, f_X8_plan_65, f_X8_plan_66, f_X8_plan_81, f_X8_plan_99, n_rc hK, n_gI hK (c := 558) rfl, n_gI hK (c := 559) rfl, n_gI hK (c := 562) rfl, n_gI hK (c := 564) rfl, n_gI hK (c := 565) rfl, n_gR hK (c := 558) rfl, n_gR hK (c := 559) rfl, n_gR hK (c := 562) rfl, n_gR hK (c := 564) rfl, n_gR hK (c := 565) rfl, n_pI hK (c := 558) rfl, n_pI hK (c := 559) rfl, n_pI hK (c := 562) rfl, n_pI hK (c := 564) rfl, n_pI hK (c := 565) rfl, Option.bind_none, Option.bind_some, e_in, e_bz0, oh_lt_eq, ite01]
  intro e
  first
    | exact same_of e
    | exact absurd e (by intro z; cases z)
    | (split at e <;> first | exact same_of e | exact absurd e (by intro z; cases z) | (split at e <;> first | exact same_of e | exact absurd e (by intro z; cases z) | (split at e <;> first | exact same_of e | exact absurd e (by intro z; cases z))))
