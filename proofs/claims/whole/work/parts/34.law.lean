theorem k_L_law_cl7 : Cond.classLink RL 7 RX7 ∈ wsL_law := List.mem_of_getElem? (i := 0) (by decide +kernel)
theorem k_L_law_in7 : Cond.instantiable RX7 14 ∈ wsL_law := List.mem_of_getElem? (i := 1) (by decide +kernel)
theorem k_L_law_it7 : Cond.initialized RX7 ∈ wsL_law := List.mem_of_getElem? (i := 2) (by decide +kernel)
theorem k_L_law_ml9 : Cond.methodLink RL 9 yX7_init ∈ wsL_law := List.mem_of_getElem? (i := 6) (by decide +kernel)
theorem k_L_law_imX7_init : Cond.instanceMethod yX7_init ∈ wsL_law := List.mem_of_getElem? (i := 7) (by decide +kernel)
theorem k_L_law_cl10 : Cond.classLink RL 10 RX8 ∈ wsL_law := List.mem_of_getElem? (i := 3) (by decide +kernel)
theorem k_L_law_in8 : Cond.instantiable RX8 54 ∈ wsL_law := List.mem_of_getElem? (i := 4) (by decide +kernel)
theorem k_L_law_it8 : Cond.initialized RX8 ∈ wsL_law := List.mem_of_getElem? (i := 5) (by decide +kernel)
theorem k_L_law_ml12 : Cond.methodLink RL 12 yX8_init ∈ wsL_law := List.mem_of_getElem? (i := 92) (by decide +kernel)
theorem k_L_law_imX8_init : Cond.instanceMethod yX8_init ∈ wsL_law := List.mem_of_getElem? (i := 93) (by decide +kernel)
theorem u_L_law_8 : ∀ w ∈ u_ws RX8 TX8 54, w ∈ wsL_law := fun w h => List.mem_append_left _ (List.mem_append_left _ (List.mem_append_left _ (List.mem_append_left _ (List.mem_append_left _ (List.mem_append_left _ (List.mem_append_left _ (List.mem_append_left _ (List.mem_append_right _ (h)))))))))
theorem u_L_law_7 : ∀ w ∈ u_ws RX7 TX7 14, w ∈ wsL_law := fun w h => List.mem_append_left _ (List.mem_append_left _ (List.mem_append_left _ (List.mem_append_left _ (List.mem_append_left _ (List.mem_append_left _ (List.mem_append_left _ (List.mem_append_left _ (List.mem_append_left _ (List.mem_append_right _ (h))))))))))
def f_L_law_1127 (xs : Nat → Int32) (L : Nat) (h : oh_H) (o : Nat) (v1 : Option Nat) (v2 : Option Nat) (v3 : Int32) : Option ((oh_H × Int32) ⊕ Int32) :=
  oh_lt (v3 + (4 : Int32)) fun x1 => some (Sum.inl (h, x1))
def f_L_law_279 (xs : Nat → Int32) (L : Nat) (h : oh_H) (o : Nat) (v1 : Option Nat) (v2 : Option Nat) (v3 : Int32) (s0 : Int32) (s1 : Int32) (s2 : Option Nat) (s3 : Int32) : Option ((oh_H × Int32) ⊕ Int32) :=
  oh_rc h s2 9 fun o1 => (f_X8_wish h o1 s1 s0).bind fun p4 => if s3 = p4.1 then (f_L_law_1127 xs L p4.2 o v1 v2 v3) else (Option.map Sum.inr (some (0 : Int32)))
def f_L_law_257 (xs : Nat → Int32) (L : Nat) (h : oh_H) (o : Nat) (v1 : Option Nat) (v2 : Option Nat) (v3 : Int32) (s0 : Int32) (s1 : Int32) (s2 : Option Nat) : Option ((oh_H × Int32) ⊕ Int32) :=
  oh_rc h s2 8 fun o1 => (f_X7_wish h o1 s1 s0).bind fun p4 => (oh_scr xs L (v3 + (1 : Int32))).bind fun x6 => (oh_scr xs L (v3 + (2 : Int32))).bind fun x7 => if x7 = 0 then (f_L_law_279 xs L p4.2 o v1 v2 v3 (0 : Int32) x6 v2 p4.1) else (f_L_law_279 xs L p4.2 o v1 v2 v3 (1 : Int32) x6 v2 p4.1)
def f_L_law_689 (xs : Nat → Int32) (L : Nat) (h : oh_H) (o : Nat) (v1 : Option Nat) (v2 : Option Nat) (v3 : Int32) (s0 : Int32) (s1 : Int32) (s2 : Option Nat) (s3 : Int32) : Option ((oh_H × Int32) ⊕ Int32) :=
  (oh_scr xs L (v3 + (3 : Int32))).bind fun x1 => oh_rc h s2 9 fun o2 => (f_X8_vat h o2 s1 s0 x1).bind fun p5 => if s3 = p5.1 then (f_L_law_1127 xs L p5.2 o v1 v2 v3) else (Option.map Sum.inr (some (0 : Int32)))
def f_L_law_662 (xs : Nat → Int32) (L : Nat) (h : oh_H) (o : Nat) (v1 : Option Nat) (v2 : Option Nat) (v3 : Int32) (s0 : Int32) (s1 : Int32) (s2 : Option Nat) : Option ((oh_H × Int32) ⊕ Int32) :=
  (oh_scr xs L (v3 + (3 : Int32))).bind fun x1 => oh_rc h s2 8 fun o2 => (f_X7_vat h o2 s1 s0 x1).bind fun p5 => (oh_scr xs L (v3 + (1 : Int32))).bind fun x7 => (oh_scr xs L (v3 + (2 : Int32))).bind fun x8 => if x8 = 0 then (f_L_law_689 xs L p5.2 o v1 v2 v3 (0 : Int32) x7 v2 p5.1) else (f_L_law_689 xs L p5.2 o v1 v2 v3 (1 : Int32) x7 v2 p5.1)
abbrev pv_L_law_18 (G : oh_G) (o : Nat) (v1 : Option Nat) (v2 : Option Nat) (n : Nat) : (oh_H × Int32) → Prop := fun s => oh_V G (65 + (513 - n)) (22243 + 12 * (513 - n)) s.1 18 [(0, xr (some o)), (1, xr v1), (2, xr v2), (3, xi s.2)] []
def b_L_law_18 (xs : Nat → Int32) (L : Nat) (h : oh_H) (o : Nat) (v1 : Option Nat) (v2 : Option Nat) (v3 : Int32) : Option ((oh_H × Int32) ⊕ Int32) :=
  if ((Int32.ofNat L) - (4 : Int32)) < v3 then (Option.map Sum.inr (some (1 : Int32))) else ((oh_scr xs L v3).bind fun x1 => if (x1 &&& (31 : Int32)) = (0 : Int32) then ((oh_scr xs L (v3 + (1 : Int32))).bind fun x2 => (oh_scr xs L (v3 + (2 : Int32))).bind fun x3 => oh_rc h v1 8 fun o4 => (f_X7_grove h o4 x2 x3).bind fun p7 => (oh_scr xs L (v3 + (1 : Int32))).bind fun x9 => (oh_scr xs L (v3 + (2 : Int32))).bind fun x10 => oh_rc p7.2 v2 9 fun o11 => (f_X8_grove p7.2 o11 x9 x10).bind fun p14 => if p7.1 = p14.1 then (f_L_law_1127 xs L p14.2 o v1 v2 v3) else (Option.map Sum.inr (some (0 : Int32)))) else (if (x1 &&& (31 : Int32)) = (1 : Int32) then ((oh_scr xs L (v3 + (1 : Int32))).bind fun x16 => (oh_scr xs L (v3 + (2 : Int32))).bind fun x17 => oh_rc h v1 8 fun o18 => (f_X7_lot h o18 x16 x17).bind fun p21 => (oh_scr xs L (v3 + (1 : Int32))).bind fun x23 => (oh_scr xs L (v3 + (2 : Int32))).bind fun x24 => oh_rc p21.2 v2 9 fun o25 => (f_X8_lot p21.2 o25 x23 x24).bind fun p28 => if p21.1 = p28.1 then (f_L_law_1127 xs L p28.2 o v1 v2 v3) else (Option.map Sum.inr (some (0 : Int32)))) else (if (x1 &&& (31 : Int32)) = (2 : Int32) then ((oh_scr xs L (v3 + (1 : Int32))).bind fun x30 => (oh_scr xs L (v3 + (2 : Int32))).bind fun x31 => if x31 = 0 then (f_L_law_257 xs L h o v1 v2 v3 (0 : Int32) x30 v1) else (f_L_law_257 xs L h o v1 v2 v3 (1 : Int32) x30 v1)) else (if (x1 &&& (31 : Int32)) = (3 : Int32) then ((oh_scr xs L (v3 + (1 : Int32))).bind fun x32 => oh_rc h v1 8 fun o33 => (f_X7_scale h o33 x32).bind fun p36 => (oh_scr xs L (v3 + (1 : Int32))).bind fun x38 => oh_rc p36.2 v2 9 fun o39 => (f_X8_scale p36.2 o39 x38).bind fun p42 => if p36.1 = p42.1 then (f_L_law_1127 xs L p42.2 o v1 v2 v3) else (Option.map Sum.inr (some (0 : Int32)))) else (if (x1 &&& (31 : Int32)) = (4 : Int32) then ((oh_scr xs L (v3 + (1 : Int32))).bind fun x44 => (oh_scr xs L (v3 + (2 : Int32))).bind fun x45 => oh_rc h v1 8 fun o46 => (f_X7_weigh h o46 x44 x45).bind fun p49 => (oh_scr xs L (v3 + (1 : Int32))).bind fun x51 => (oh_scr xs L (v3 + (2 : Int32))).bind fun x52 => oh_rc p49.2 v2 9 fun o53 => (f_X8_weigh p49.2 o53 x51 x52).bind fun p56 => if p49.1 = p56.1 then (f_L_law_1127 xs L p56.2 o v1 v2 v3) else (Option.map Sum.inr (some (0 : Int32)))) else (if (x1 &&& (31 : Int32)) = (5 : Int32) then ((oh_scr xs L (v3 + (1 : Int32))).bind fun x58 => (oh_scr xs L (v3 + (2 : Int32))).bind fun x59 => (oh_scr xs L (v3 + (3 : Int32))).bind fun x60 => oh_rc h v1 8 fun o61 => (f_X7_sample h o61 x58 x59 x60).bind fun p64 => (oh_scr xs L (v3 + (1 : Int32))).bind fun x66 => (oh_scr xs L (v3 + (2 : Int32))).bind fun x67 => (oh_scr xs L (v3 + (3 : Int32))).bind fun x68 => oh_rc p64.2 v2 9 fun o69 => (f_X8_sample p64.2 o69 x66 x67 x68).bind fun p72 => if p64.1 = p72.1 then (f_L_law_1127 xs L p72.2 o v1 v2 v3) else (Option.map Sum.inr (some (0 : Int32)))) else (if (x1 &&& (31 : Int32)) = (6 : Int32) then ((oh_scr xs L (v3 + (1 : Int32))).bind fun x74 => (oh_scr xs L (v3 + (2 : Int32))).bind fun x75 => oh_rc h v1 8 fun o76 => (f_X7_told h o76 x74 x75).bind fun p79 => (oh_scr xs L (v3 + (1 : Int32))).bind fun x81 => (oh_scr xs L (v3 + (2 : Int32))).bind fun x82 => oh_rc h v2 9 fun o83 => (f_X8_told h o83 x81 x82).bind fun p86 => if p79 = p86 then (f_L_law_1127 xs L h o v1 v2 v3) else (Option.map Sum.inr (some (0 : Int32)))) else (if (x1 &&& (31 : Int32)) = (7 : Int32) then ((oh_scr xs L (v3 + (1 : Int32))).bind fun x88 => (oh_scr xs L (v3 + (2 : Int32))).bind fun x89 => (oh_scr xs L (v3 + (3 : Int32))).bind fun x90 => oh_rc h v1 8 fun o91 => (f_X7_mill h o91 x88 x89 x90).bind fun p94 => (oh_scr xs L (v3 + (1 : Int32))).bind fun x96 => (oh_scr xs L (v3 + (2 : Int32))).bind fun x97 => (oh_scr xs L (v3 + (3 : Int32))).bind fun x98 => oh_rc p94.2 v2 9 fun o99 => (f_X8_mill p94.2 o99 x96 x97 x98).bind fun p102 => if p94.1 = p102.1 then (f_L_law_1127 xs L p102.2 o v1 v2 v3) else (Option.map Sum.inr (some (0 : Int32)))) else (if (x1 &&& (31 : Int32)) = (8 : Int32) then ((oh_scr xs L (v3 + (1 : Int32))).bind fun x104 => (oh_scr xs L (v3 + (2 : Int32))).bind fun x105 => oh_rc h v1 8 fun o106 => (f_X7_put h o106 x104 x105).bind fun p109 => (oh_scr xs L (v3 + (1 : Int32))).bind fun x111 => (oh_scr xs L (v3 + (2 : Int32))).bind fun x112 => oh_rc p109.2 v2 9 fun o113 => (f_X8_put p109.2 o113 x111 x112).bind fun p116 => if p109.1 = p116.1 then (f_L_law_1127 xs L p116.2 o v1 v2 v3) else (Option.map Sum.inr (some (0 : Int32)))) else (if (x1 &&& (31 : Int32)) = (9 : Int32) then ((oh_scr xs L (v3 + (1 : Int32))).bind fun x118 => oh_rc h v1 8 fun o119 => (f_X7_take h o119 x118).bind fun p122 => (oh_scr xs L (v3 + (1 : Int32))).bind fun x124 => oh_rc p122.2 v2 9 fun o125 => (f_X8_take p122.2 o125 x124).bind fun p128 => if p122.1 = p128.1 then (f_L_law_1127 xs L p128.2 o v1 v2 v3) else (Option.map Sum.inr (some (0 : Int32)))) else (if (x1 &&& (31 : Int32)) = (10 : Int32) then ((oh_scr xs L (v3 + (1 : Int32))).bind fun x130 => oh_rc h v1 8 fun o131 => (f_X7_wash h o131 x130).bind fun p134 => (oh_scr xs L (v3 + (1 : Int32))).bind fun x136 => oh_rc p134.2 v2 9 fun o137 => (f_X8_wash p134.2 o137 x136).bind fun p140 => if p134.1 = p140.1 then (f_L_law_1127 xs L p140.2 o v1 v2 v3) else (Option.map Sum.inr (some (0 : Int32)))) else (if (x1 &&& (31 : Int32)) = (11 : Int32) then ((oh_scr xs L (v3 + (1 : Int32))).bind fun x142 => oh_rc h v1 8 fun o143 => (f_X7_press h o143 x142).bind fun p146 => (oh_scr xs L (v3 + (1 : Int32))).bind fun x148 => oh_rc p146.2 v2 9 fun o149 => (f_X8_press p146.2 o149 x148).bind fun p152 => if p146.1 = p152.1 then (f_L_law_1127 xs L p152.2 o v1 v2 v3) else (Option.map Sum.inr (some (0 : Int32)))) else (if (x1 &&& (31 : Int32)) = (12 : Int32) then ((oh_scr xs L (v3 + (1 : Int32))).bind fun x154 => (oh_scr xs L (v3 + (2 : Int32))).bind fun x155 => oh_rc h v1 8 fun o156 => (f_X7_gave h o156 x154 x155).bind fun p159 => (oh_scr xs L (v3 + (1 : Int32))).bind fun x161 => (oh_scr xs L (v3 + (2 : Int32))).bind fun x162 => oh_rc p159.2 v2 9 fun o163 => (f_X8_gave p159.2 o163 x161 x162).bind fun p166 => if p159.1 = p166.1 then (f_L_law_1127 xs L p166.2 o v1 v2 v3) else (Option.map Sum.inr (some (0 : Int32)))) else (if (x1 &&& (31 : Int32)) = (13 : Int32) then ((oh_scr xs L (v3 + (1 : Int32))).bind fun x168 => oh_rc h v1 8 fun o169 => (f_X7_share h o169 x168).bind fun p172 => (oh_scr xs L (v3 + (1 : Int32))).bind fun x174 => oh_rc p172.2 v2 9 fun o175 => (f_X8_share p172.2 o175 x174).bind fun p178 => if p172.1 = p178.1 then (f_L_law_1127 xs L p178.2 o v1 v2 v3) else (Option.map Sum.inr (some (0 : Int32)))) else (if (x1 &&& (31 : Int32)) = (14 : Int32) then ((oh_scr xs L (v3 + (1 : Int32))).bind fun x180 => oh_rc h v1 8 fun o181 => (f_X7_keep h o181 x180).bind fun p184 => (oh_scr xs L (v3 + (1 : Int32))).bind fun x186 => oh_rc p184.2 v2 9 fun o187 => (f_X8_keep p184.2 o187 x186).bind fun p190 => if p184.1 = p190.1 then (f_L_law_1127 xs L p190.2 o v1 v2 v3) else (Option.map Sum.inr (some (0 : Int32)))) else (if (x1 &&& (31 : Int32)) = (15 : Int32) then ((oh_scr xs L (v3 + (1 : Int32))).bind fun x192 => (oh_scr xs L (v3 + (2 : Int32))).bind fun x193 => if x193 = 0 then (f_L_law_662 xs L h o v1 v2 v3 (0 : Int32) x192 v1) else (f_L_law_662 xs L h o v1 v2 v3 (1 : Int32) x192 v1)) else (if (x1 &&& (31 : Int32)) = (16 : Int32) then ((oh_scr xs L (v3 + (1 : Int32))).bind fun x194 => (oh_scr xs L (v3 + (2 : Int32))).bind fun x195 => oh_rc h v1 8 fun o196 => (f_X7_pour h o196 x194 x195).bind fun p199 => (oh_scr xs L (v3 + (1 : Int32))).bind fun x201 => (oh_scr xs L (v3 + (2 : Int32))).bind fun x202 => oh_rc p199.2 v2 9 fun o203 => (f_X8_pour p199.2 o203 x201 x202).bind fun p206 => if p199.1 = p206.1 then (f_L_law_1127 xs L p206.2 o v1 v2 v3) else (Option.map Sum.inr (some (0 : Int32)))) else (if (x1 &&& (31 : Int32)) = (17 : Int32) then ((oh_scr xs L (v3 + (1 : Int32))).bind fun x208 => oh_rc h v1 8 fun o209 => (f_X7_fetch h o209 x208).bind fun p212 => (oh_scr xs L (v3 + (1 : Int32))).bind fun x214 => oh_rc p212.2 v2 9 fun o215 => (f_X8_fetch p212.2 o215 x214).bind fun p218 => if p212.1 = p218.1 then (f_L_law_1127 xs L p218.2 o v1 v2 v3) else (Option.map Sum.inr (some (0 : Int32)))) else (if (x1 &&& (31 : Int32)) = (18 : Int32) then ((oh_scr xs L (v3 + (1 : Int32))).bind fun x220 => (oh_scr xs L (v3 + (2 : Int32))).bind fun x221 => oh_rc h v1 8 fun o222 => (f_X7_draw h o222 x220 x221).bind fun p225 => (oh_scr xs L (v3 + (1 : Int32))).bind fun x227 => (oh_scr xs L (v3 + (2 : Int32))).bind fun x228 => oh_rc p225.2 v2 9 fun o229 => (f_X8_draw p225.2 o229 x227 x228).bind fun p232 => if p225.1 = p232.1 then (f_L_law_1127 xs L p232.2 o v1 v2 v3) else (Option.map Sum.inr (some (0 : Int32)))) else (if (x1 &&& (31 : Int32)) = (19 : Int32) then ((oh_scr xs L (v3 + (1 : Int32))).bind fun x234 => (oh_scr xs L (v3 + (2 : Int32))).bind fun x235 => (oh_scr xs L (v3 + (3 : Int32))).bind fun x236 => oh_rc h v1 8 fun o237 => (f_X7_lend h o237 x234 x235 x236).bind fun p240 => (oh_scr xs L (v3 + (1 : Int32))).bind fun x242 => (oh_scr xs L (v3 + (2 : Int32))).bind fun x243 => (oh_scr xs L (v3 + (3 : Int32))).bind fun x244 => oh_rc p240.2 v2 9 fun o245 => (f_X8_lend p240.2 o245 x242 x243 x244).bind fun p248 => if p240.1 = p248.1 then (f_L_law_1127 xs L p248.2 o v1 v2 v3) else (Option.map Sum.inr (some (0 : Int32)))) else (if (x1 &&& (31 : Int32)) = (20 : Int32) then ((oh_scr xs L (v3 + (1 : Int32))).bind fun x250 => oh_rc h v1 8 fun o251 => (f_X7_pay h o251 x250).bind fun p254 => (oh_scr xs L (v3 + (1 : Int32))).bind fun x256 => oh_rc p254.2 v2 9 fun o257 => (f_X8_pay p254.2 o257 x256).bind fun p260 => if p254.1 = p260.1 then (f_L_law_1127 xs L p260.2 o v1 v2 v3) else (Option.map Sum.inr (some (0 : Int32)))) else (if (x1 &&& (31 : Int32)) = (21 : Int32) then ((oh_scr xs L (v3 + (1 : Int32))).bind fun x262 => (oh_scr xs L (v3 + (2 : Int32))).bind fun x263 => (oh_scr xs L (v3 + (3 : Int32))).bind fun x264 => oh_rc h v1 8 fun o265 => (f_X7_hand h o265 x262 x263 x264).bind fun p268 => (oh_scr xs L (v3 + (1 : Int32))).bind fun x270 => (oh_scr xs L (v3 + (2 : Int32))).bind fun x271 => (oh_scr xs L (v3 + (3 : Int32))).bind fun x272 => oh_rc p268.2 v2 9 fun o273 => (f_X8_hand p268.2 o273 x270 x271 x272).bind fun p276 => if p268.1 = p276.1 then (f_L_law_1127 xs L p276.2 o v1 v2 v3) else (Option.map Sum.inr (some (0 : Int32)))) else (if (x1 &&& (31 : Int32)) = (22 : Int32) then ((oh_scr xs L (v3 + (1 : Int32))).bind fun x278 => (oh_scr xs L (v3 + (2 : Int32))).bind fun x279 => oh_rc h v1 8 fun o280 => (f_X7_owes h o280 x278 x279).bind fun p283 => (oh_scr xs L (v3 + (1 : Int32))).bind fun x285 => (oh_scr xs L (v3 + (2 : Int32))).bind fun x286 => oh_rc h v2 9 fun o287 => (f_X8_owes h o287 x285 x286).bind fun p290 => if p283 = p290 then (f_L_law_1127 xs L h o v1 v2 v3) else (Option.map Sum.inr (some (0 : Int32)))) else (if (x1 &&& (31 : Int32)) = (23 : Int32) then ((oh_scr xs L (v3 + (1 : Int32))).bind fun x292 => oh_rc h v1 8 fun o293 => (f_X7_wait h o293 x292).bind fun p296 => (oh_scr xs L (v3 + (1 : Int32))).bind fun x298 => oh_rc p296.2 v2 9 fun o299 => (f_X8_wait p296.2 o299 x298).bind fun p302 => if p296.1 = p302.1 then (f_L_law_1127 xs L p302.2 o v1 v2 v3) else (Option.map Sum.inr (some (0 : Int32)))) else (if (x1 &&& (31 : Int32)) = (24 : Int32) then ((oh_scr xs L (v3 + (1 : Int32))).bind fun x304 => oh_rc h v1 8 fun o305 => (f_X7_fresh h o305 x304).bind fun p308 => (oh_scr xs L (v3 + (1 : Int32))).bind fun x310 => oh_rc p308.2 v2 9 fun o311 => (f_X8_fresh p308.2 o311 x310).bind fun p314 => if p308.1 = p314.1 then (f_L_law_1127 xs L p314.2 o v1 v2 v3) else (Option.map Sum.inr (some (0 : Int32)))) else (if (x1 &&& (31 : Int32)) = (25 : Int32) then ((oh_scr xs L (v3 + (1 : Int32))).bind fun x316 => (oh_scr xs L (v3 + (2 : Int32))).bind fun x317 => oh_rc h v1 8 fun o318 => (f_X7_at h o318 x316 x317).bind fun p321 => (oh_scr xs L (v3 + (1 : Int32))).bind fun x323 => (oh_scr xs L (v3 + (2 : Int32))).bind fun x324 => oh_rc h v2 9 fun o325 => (f_X8_at h o325 x323 x324).bind fun p328 => if p321 = p328 then (f_L_law_1127 xs L h o v1 v2 v3) else (Option.map Sum.inr (some (0 : Int32)))) else (if (x1 &&& (31 : Int32)) = (26 : Int32) then ((oh_scr xs L (v3 + (1 : Int32))).bind fun x330 => (oh_scr xs L (v3 + (2 : Int32))).bind fun x331 => oh_rc h v1 8 fun o332 => (f_X7_held h o332 x330 x331).bind fun p335 => (oh_scr xs L (v3 + (1 : Int32))).bind fun x337 => (oh_scr xs L (v3 + (2 : Int32))).bind fun x338 => oh_rc h v2 9 fun o339 => (f_X8_held h o339 x337 x338).bind fun p342 => if p335 = p342 then (f_L_law_1127 xs L h o v1 v2 v3) else (Option.map Sum.inr (some (0 : Int32)))) else (if (x1 &&& (31 : Int32)) = (27 : Int32) then ((oh_scr xs L (v3 + (1 : Int32))).bind fun x344 => oh_rc h v1 8 fun o345 => (f_X7_plan h o345 x344).bind fun p348 => (oh_scr xs L (v3 + (1 : Int32))).bind fun x350 => oh_rc p348.2 v2 9 fun o351 => (f_X8_plan p348.2 o351 x350).bind fun p354 => if p348.1 = p354.1 then (f_L_law_1127 xs L p354.2 o v1 v2 v3) else (Option.map Sum.inr (some (0 : Int32)))) else (if (x1 &&& (31 : Int32)) = (28 : Int32) then ((oh_scr xs L (v3 + (1 : Int32))).bind fun x356 => oh_rc h v1 8 fun o357 => (f_X7_planned h o357 x356).bind fun p360 => (oh_scr xs L (v3 + (1 : Int32))).bind fun x362 => oh_rc h v2 9 fun o363 => (f_X8_planned h o363 x362).bind fun p366 => if p360 = p366 then (f_L_law_1127 xs L h o v1 v2 v3) else (Option.map Sum.inr (some (0 : Int32)))) else (if (x1 &&& (31 : Int32)) = (29 : Int32) then (oh_rc h v1 8 fun o368 => (f_X7_balance h o368).bind fun p371 => oh_rc h v2 9 fun o373 => (f_X8_balance h o373).bind fun p376 => if p371 = p376 then (f_L_law_1127 xs L h o v1 v2 v3) else (Option.map Sum.inr (some (0 : Int32)))) else (if (x1 &&& (31 : Int32)) = (30 : Int32) then ((oh_scr xs L (v3 + (1 : Int32))).bind fun x378 => oh_rc h v1 8 fun o379 => (f_X7_count h o379 x378).bind fun p382 => (oh_scr xs L (v3 + (1 : Int32))).bind fun x384 => oh_rc h v2 9 fun o385 => (f_X8_count h o385 x384).bind fun p388 => if p382 = p388 then (f_L_law_1127 xs L h o v1 v2 v3) else (Option.map Sum.inr (some (0 : Int32)))) else (f_L_law_1127 xs L h o v1 v2 v3))))))))))))))))))))))))))))))))
def f_L_law_18 (xs : Nat → Int32) (L : Nat) (h : oh_H) (o : Nat) (v1 : Option Nat) (v2 : Option Nat) (v3 : Int32) : Option Int32 := oh_loop (fun s : oh_H × Int32 => b_L_law_18 xs L s.1 o v1 v2 s.2) 513 (h, v3)
def f_L_law (xs : Nat → Int32) (L : Nat) (h : oh_H) (o : Nat) : Option (Int32) :=
  oh_new h 8 fun a2 h1 => (f_X7_init h1 a2).bind fun p3 => oh_lt (some a2) fun x5 => oh_new p3 9 fun a7 h6 => (f_X8_init h6 a7).bind fun p8 => oh_lt (some a7) fun x10 => oh_lt (0 : Int32) fun x11 => f_L_law_18 xs L p8 o x5 x10 x11
set_option maxHeartbeats 4000000 in
set_option maxRecDepth 100000 in
theorem w_L_law_1127 {G : oh_G} {l : Launch} (C : oh_C G cL_law wsL_law RL room_1 4) (hl : G.1.2.1 = l) {xs : Nat → Int32} {L o : Nat} (E : ol_E G o L xs) (n : Nat) (hn : n < 513) (h : oh_H) (v1 : Option Nat) (v2 : Option Nat) (v3 : Int32) : oh_J (oh_TL (pv_L_law_18 G o v1 v2 n) (fun x : Int32 => x = 1)) (f_L_law_1127 xs L h o v1 v2 v3) (oh_V G (65 + (513 - (n + 1)) + 1) (22243 + 12 * (513 - (n + 1)) + 12) h 1127 [(0, xr (some o)), (1, xr v1), (2, xr v2), (3, xi v3)] []) := by
  unfold f_L_law_1127
  refine or_iinc C (y := (4 : Int32)) 3 rfl (by decide) (fun x1 => [(3, xi x1), (0, xr (some o)), (1, xr v1), (2, xr v2)]) (fun _ => rfl) (by decide) dL_law_1127 (fun x1 => ?_)
  refine or_goto C 18 dL_law_1130 (by decide) ?_
  refine or_sub [1, 2, 3, 0] rfl ?_
  refine oj_v (fun k => ol_widen (cells' := 65 + (513 - n)) (slots' := 22243 + 12 * (513 - n)) (by omega) (by omega) k) ?_
  exact oj_back (P := pv_L_law_18 G o v1 v2 n) (s := (h, x1))
set_option maxHeartbeats 4000000 in
set_option maxRecDepth 100000 in
theorem w_L_law_279 {G : oh_G} {l : Launch} (C : oh_C G cL_law wsL_law RL room_1 4) (hl : G.1.2.1 = l) {xs : Nat → Int32} {L o : Nat} (E : ol_E G o L xs) (n : Nat) (hn : n < 513) (h : oh_H) (v1 : Option Nat) (v2 : Option Nat) (v3 : Int32) (s0 : Int32) (s1 : Int32) (s2 : Option Nat) (s3 : Int32) : oh_J (oh_TL (pv_L_law_18 G o v1 v2 n) (fun x : Int32 => x = 1)) (f_L_law_279 xs L h o v1 v2 v3 s0 s1 s2 s3) (oh_V G (65 + (513 - (n + 1))) (22243 + 12 * (513 - (n + 1))) h 279 [(0, xr (some o)), (1, xr v1), (2, xr v2), (3, xi v3)] [xi s0, xi s1, xr s2, xi s3]) := by
  unfold f_L_law_279
  refine oj_rc (fun o1 e3 q2 => ?_)
  refine oj_bind (fun p4 z5 => ?_)
  refine oj_v (P := oh_V G (65 + (513 - (n + 1))) (22243 + 12 * (513 - (n + 1))) p4.2 282 [(0, xr (some o)), (1, xr v1), (2, xr v2), (3, xi v3)] [xi p4.1, xi s3]) (fun k => or_callV C 2 hl (m_X8_wish _ h o1 s1 s0 p4 z5) gL_law_X8_wish rfl rfl rfl (by decide +kernel) ⟨Nat.le_of_ble_eq_true rfl, Nat.le_of_ble_eq_true rfl⟩ q2 rfl (by decide) (Nat.le_of_ble_eq_true rfl) dL_law_279 ⟨by show _ ≤ 600000; omega, by show _ ≤ 7302250; omega⟩ rfl (by rw [e3]; rfl) k) ?_
  refine or_icmp_eq C 1127 dL_law_282 (by decide) ?_ ?_
  · refine or_sub [0, 1, 2, 3] rfl ?_
    refine oj_v (fun k => ol_widen (cells' := (65 + (513 - (n + 1)) + 1)) (slots' := (22243 + 12 * (513 - (n + 1)) + 12)) (by omega) (by omega) k) ?_
    exact w_L_law_1127 C hl E n hn p4.2 v1 v2 v3
  · refine oj_inr ?_
    refine or_iconst C (v := (0 : Int32)) dL_law_285 (by decide) ?_
    exact ol_ret C E ⟨by omega, by omega⟩ dL_law_286
set_option maxHeartbeats 4000000 in
set_option maxRecDepth 100000 in
theorem w_L_law_257 {G : oh_G} {l : Launch} (C : oh_C G cL_law wsL_law RL room_1 4) (hl : G.1.2.1 = l) {xs : Nat → Int32} {L o : Nat} (E : ol_E G o L xs) (n : Nat) (hn : n < 513) (h : oh_H) (v1 : Option Nat) (v2 : Option Nat) (v3 : Int32) (s0 : Int32) (s1 : Int32) (s2 : Option Nat) : oh_J (oh_TL (pv_L_law_18 G o v1 v2 n) (fun x : Int32 => x = 1)) (f_L_law_257 xs L h o v1 v2 v3 s0 s1 s2) (oh_V G (65 + (513 - (n + 1))) (22243 + 12 * (513 - (n + 1))) h 257 [(0, xr (some o)), (1, xr v1), (2, xr v2), (3, xi v3)] [xi s0, xi s1, xr s2]) := by
  unfold f_L_law_257
  refine oj_rc (fun o1 e3 q2 => ?_)
  refine oj_bind (fun p4 z5 => ?_)
  refine oj_v (P := oh_V G (65 + (513 - (n + 1))) (22243 + 12 * (513 - (n + 1))) p4.2 260 [(0, xr (some o)), (1, xr v1), (2, xr v2), (3, xi v3)] [xi p4.1]) (fun k => or_callV C 2 hl (m_X7_wish _ h o1 s1 s0 p4 z5) gL_law_X7_wish rfl rfl rfl (by decide +kernel) ⟨Nat.le_of_ble_eq_true rfl, Nat.le_of_ble_eq_true rfl⟩ q2 rfl (by decide) (Nat.le_of_ble_eq_true rfl) dL_law_257 ⟨by show _ ≤ 600000; omega, by show _ ≤ 7302250; omega⟩ rfl (by rw [e3]; rfl) k) ?_
  refine or_aload_n C 2 rfl dL_law_260 ?_
  refine or_aload_n C 0 rfl dL_law_261 ?_
  refine or_iload_n C 3 rfl dL_law_262 ?_
  refine or_iconst C (v := (1 : Int32)) dL_law_263 (by decide) ?_
  refine or_iadd C dL_law_264 ?_
  refine ol_ld C E dL_law_265 (fun x6 => ?_)
  refine or_aload_n C 0 rfl dL_law_266 ?_
  refine or_iload_n C 3 rfl dL_law_267 ?_
  refine or_iconst C (v := (2 : Int32)) dL_law_268 (by decide) ?_
  refine or_iadd C dL_law_269 ?_
  refine ol_ld C E dL_law_270 (fun x7 => ?_)
  refine or_if_eq C 278 dL_law_271 (by decide) ?_ ?_
  · refine or_iconst C (v := (0 : Int32)) dL_law_278 (by decide) ?_
    refine or_sub [0, 1, 2, 3] rfl ?_
    exact w_L_law_279 C hl E n hn p4.2 v1 v2 v3 (0 : Int32) x6 v2 p4.1
  · refine or_iconst C (v := (1 : Int32)) dL_law_274 (by decide) ?_
    refine or_goto C 279 dL_law_275 (by decide) ?_
    refine or_sub [0, 1, 2, 3] rfl ?_
    exact w_L_law_279 C hl E n hn p4.2 v1 v2 v3 (1 : Int32) x6 v2 p4.1
set_option maxHeartbeats 4000000 in
set_option maxRecDepth 100000 in
theorem w_L_law_689 {G : oh_G} {l : Launch} (C : oh_C G cL_law wsL_law RL room_1 4) (hl : G.1.2.1 = l) {xs : Nat → Int32} {L o : Nat} (E : ol_E G o L xs) (n : Nat) (hn : n < 513) (h : oh_H) (v1 : Option Nat) (v2 : Option Nat) (v3 : Int32) (s0 : Int32) (s1 : Int32) (s2 : Option Nat) (s3 : Int32) : oh_J (oh_TL (pv_L_law_18 G o v1 v2 n) (fun x : Int32 => x = 1)) (f_L_law_689 xs L h o v1 v2 v3 s0 s1 s2 s3) (oh_V G (65 + (513 - (n + 1)) + 1) (22243 + 12 * (513 - (n + 1)) + 8) h 689 [(0, xr (some o)), (1, xr v1), (2, xr v2), (3, xi v3)] [xi s0, xi s1, xr s2, xi s3]) := by
  unfold f_L_law_689
  refine or_aload_n C 0 rfl dL_law_689 ?_
  refine or_iload_n C 3 rfl dL_law_690 ?_
  refine or_iconst C (v := (3 : Int32)) dL_law_691 (by decide) ?_
  refine or_iadd C dL_law_692 ?_
  refine ol_ld C E dL_law_693 (fun x1 => ?_)
  refine oj_rc (fun o2 e4 q3 => ?_)
  refine oj_bind (fun p5 z6 => ?_)
  refine oj_v (P := oh_V G (65 + (513 - (n + 1)) + 1) (22243 + 12 * (513 - (n + 1)) + 8) p5.2 697 [(0, xr (some o)), (1, xr v1), (2, xr v2), (3, xi v3)] [xi p5.1, xi s3]) (fun k => or_callV C 3 hl (m_X8_vat _ h o2 s1 s0 x1 p5 z6) gL_law_X8_vat rfl rfl rfl (by decide +kernel) ⟨Nat.le_of_ble_eq_true rfl, Nat.le_of_ble_eq_true rfl⟩ q3 rfl (by decide) (Nat.le_of_ble_eq_true rfl) dL_law_694 ⟨by show _ ≤ 600000; omega, by show _ ≤ 7302250; omega⟩ rfl (by rw [e4]; rfl) k) ?_
  refine or_icmp_eq C 1127 dL_law_697 (by decide) ?_ ?_
  · refine or_sub [0, 1, 2, 3] rfl ?_
    refine oj_v (fun k => ol_widen (cells' := (65 + (513 - (n + 1)) + 1)) (slots' := (22243 + 12 * (513 - (n + 1)) + 12)) (by omega) (by omega) k) ?_
    exact w_L_law_1127 C hl E n hn p5.2 v1 v2 v3
  · refine oj_inr ?_
    refine or_iconst C (v := (0 : Int32)) dL_law_700 (by decide) ?_
    exact ol_ret C E ⟨by omega, by omega⟩ dL_law_701
set_option maxHeartbeats 4000000 in
set_option maxRecDepth 100000 in
theorem w_L_law_662 {G : oh_G} {l : Launch} (C : oh_C G cL_law wsL_law RL room_1 4) (hl : G.1.2.1 = l) {xs : Nat → Int32} {L o : Nat} (E : ol_E G o L xs) (n : Nat) (hn : n < 513) (h : oh_H) (v1 : Option Nat) (v2 : Option Nat) (v3 : Int32) (s0 : Int32) (s1 : Int32) (s2 : Option Nat) : oh_J (oh_TL (pv_L_law_18 G o v1 v2 n) (fun x : Int32 => x = 1)) (f_L_law_662 xs L h o v1 v2 v3 s0 s1 s2) (oh_V G (65 + (513 - (n + 1))) (22243 + 12 * (513 - (n + 1))) h 662 [(0, xr (some o)), (1, xr v1), (2, xr v2), (3, xi v3)] [xi s0, xi s1, xr s2]) := by
  unfold f_L_law_662
  refine or_aload_n C 0 rfl dL_law_662 ?_
  refine or_iload_n C 3 rfl dL_law_663 ?_
  refine or_iconst C (v := (3 : Int32)) dL_law_664 (by decide) ?_
  refine or_iadd C dL_law_665 ?_
  refine ol_ld C E dL_law_666 (fun x1 => ?_)
  refine oj_rc (fun o2 e4 q3 => ?_)
  refine oj_bind (fun p5 z6 => ?_)
  refine oj_v (P := oh_V G (65 + (513 - (n + 1)) + 1) (22243 + 12 * (513 - (n + 1)) + 8) p5.2 670 [(0, xr (some o)), (1, xr v1), (2, xr v2), (3, xi v3)] [xi p5.1]) (fun k => or_callV C 3 hl (m_X7_vat _ h o2 s1 s0 x1 p5 z6) gL_law_X7_vat rfl rfl rfl (by decide +kernel) ⟨Nat.le_of_ble_eq_true rfl, Nat.le_of_ble_eq_true rfl⟩ q3 rfl (by decide) (Nat.le_of_ble_eq_true rfl) dL_law_667 ⟨by show _ ≤ 600000; omega, by show _ ≤ 7302250; omega⟩ rfl (by rw [e4]; rfl) k) ?_
  refine or_aload_n C 2 rfl dL_law_670 ?_
  refine or_aload_n C 0 rfl dL_law_671 ?_
  refine or_iload_n C 3 rfl dL_law_672 ?_
  refine or_iconst C (v := (1 : Int32)) dL_law_673 (by decide) ?_
  refine or_iadd C dL_law_674 ?_
  refine ol_ld C E dL_law_675 (fun x7 => ?_)
  refine or_aload_n C 0 rfl dL_law_676 ?_
  refine or_iload_n C 3 rfl dL_law_677 ?_
  refine or_iconst C (v := (2 : Int32)) dL_law_678 (by decide) ?_
  refine or_iadd C dL_law_679 ?_
  refine ol_ld C E dL_law_680 (fun x8 => ?_)
  refine or_if_eq C 688 dL_law_681 (by decide) ?_ ?_
  · refine or_iconst C (v := (0 : Int32)) dL_law_688 (by decide) ?_
    refine or_sub [0, 1, 2, 3] rfl ?_
    exact w_L_law_689 C hl E n hn p5.2 v1 v2 v3 (0 : Int32) x7 v2 p5.1
  · refine or_iconst C (v := (1 : Int32)) dL_law_684 (by decide) ?_
    refine or_goto C 689 dL_law_685 (by decide) ?_
    refine or_sub [0, 1, 2, 3] rfl ?_
    exact w_L_law_689 C hl E n hn p5.2 v1 v2 v3 (1 : Int32) x7 v2 p5.1
set_option maxHeartbeats 4000000 in
set_option maxRecDepth 100000 in
theorem wb_L_law_18 {G : oh_G} {l : Launch} (C : oh_C G cL_law wsL_law RL room_1 4) (hl : G.1.2.1 = l) {xs : Nat → Int32} {L o : Nat} (E : ol_E G o L xs) (n : Nat) (hn : n < 513) (h : oh_H) (v1 : Option Nat) (v2 : Option Nat) (v3 : Int32) : oh_J (oh_TL (pv_L_law_18 G o v1 v2 n) (fun x : Int32 => x = 1)) (b_L_law_18 xs L h o v1 v2 v3) (oh_V G (65 + (513 - (n + 1))) (22243 + 12 * (513 - (n + 1))) h 18 [(0, xr (some o)), (1, xr v1), (2, xr v2), (3, xi v3)] []) := by
  unfold b_L_law_18
  refine or_iload_n C 3 rfl dL_law_18 ?_
  refine or_aload_n C 0 rfl dL_law_19 ?_
  refine ol_len C E dL_law_20 ?_
  refine or_iconst C (v := (4 : Int32)) dL_law_21 (by decide) ?_
  refine or_isub C dL_law_22 ?_
  refine or_icmp_gt C 1133 dL_law_23 (by decide) ?_ ?_
  · refine oj_inr ?_
    refine or_iconst C (v := (1 : Int32)) dL_law_1133 (by decide) ?_
    exact ol_ret C E ⟨by omega, by omega⟩ dL_law_1134
  · refine or_aload_n C 0 rfl dL_law_26 ?_
    refine or_iload_n C 3 rfl dL_law_27 ?_
    refine ol_ld C E dL_law_28 (fun x1 => ?_)
    refine or_bipush C (v := (31 : Int32)) dL_law_29 (by decide) ?_
    refine or_iand C dL_law_31 ?_
    refine or_case C (v := (0 : Int32)) 0 172 dL_law_32 (by decide) (by decide) rfl (by decide) ?_ (fun n0 => ?_)
    · refine or_aload_n C 1 rfl dL_law_172 ?_
      refine or_aload_n C 0 rfl dL_law_173 ?_
      refine or_iload_n C 3 rfl dL_law_174 ?_
      refine or_iconst C (v := (1 : Int32)) dL_law_175 (by decide) ?_
      refine or_iadd C dL_law_176 ?_
      refine ol_ld C E dL_law_177 (fun x2 => ?_)
      refine or_aload_n C 0 rfl dL_law_178 ?_
      refine or_iload_n C 3 rfl dL_law_179 ?_
      refine or_iconst C (v := (2 : Int32)) dL_law_180 (by decide) ?_
      refine or_iadd C dL_law_181 ?_
      refine ol_ld C E dL_law_182 (fun x3 => ?_)
      refine oj_rc (fun o4 e6 q5 => ?_)
      refine oj_bind (fun p7 z8 => ?_)
      refine oj_v (P := oh_V G (65 + (513 - (n + 1)) + 1) (22243 + 12 * (513 - (n + 1)) + 3) p7.2 186 [(0, xr (some o)), (1, xr v1), (2, xr v2), (3, xi v3)] [xi p7.1]) (fun k => or_callV C 2 hl (m_X7_grove _ h o4 x2 x3 p7 z8) gL_law_X7_grove rfl rfl rfl (by decide +kernel) ⟨Nat.le_of_ble_eq_true rfl, Nat.le_of_ble_eq_true rfl⟩ q5 rfl (by decide) (Nat.le_of_ble_eq_true rfl) dL_law_183 ⟨by show _ ≤ 600000; omega, by show _ ≤ 7302250; omega⟩ rfl (by rw [e6]; rfl) k) ?_
      refine or_aload_n C 2 rfl dL_law_186 ?_
      refine or_aload_n C 0 rfl dL_law_187 ?_
      refine or_iload_n C 3 rfl dL_law_188 ?_
      refine or_iconst C (v := (1 : Int32)) dL_law_189 (by decide) ?_
      refine or_iadd C dL_law_190 ?_
      refine ol_ld C E dL_law_191 (fun x9 => ?_)
      refine or_aload_n C 0 rfl dL_law_192 ?_
      refine or_iload_n C 3 rfl dL_law_193 ?_
      refine or_iconst C (v := (2 : Int32)) dL_law_194 (by decide) ?_
      refine or_iadd C dL_law_195 ?_
      refine ol_ld C E dL_law_196 (fun x10 => ?_)
      refine oj_rc (fun o11 e13 q12 => ?_)
      refine oj_bind (fun p14 z15 => ?_)
      refine oj_v (P := oh_V G (65 + (513 - (n + 1)) + 1) (22243 + 12 * (513 - (n + 1)) + 3) p14.2 200 [(0, xr (some o)), (1, xr v1), (2, xr v2), (3, xi v3)] [xi p14.1, xi p7.1]) (fun k => or_callV C 2 hl (m_X8_grove _ p7.2 o11 x9 x10 p14 z15) gL_law_X8_grove rfl rfl rfl (by decide +kernel) ⟨Nat.le_of_ble_eq_true rfl, Nat.le_of_ble_eq_true rfl⟩ q12 rfl (by decide) (Nat.le_of_ble_eq_true rfl) dL_law_197 ⟨by show _ ≤ 600000; omega, by show _ ≤ 7302250; omega⟩ rfl (by rw [e13]; rfl) k) ?_
      refine or_icmp_eq C 1127 dL_law_200 (by decide) ?_ ?_
      · refine or_sub [0, 1, 2, 3] rfl ?_
        refine oj_v (fun k => ol_widen (cells' := (65 + (513 - (n + 1)) + 1)) (slots' := (22243 + 12 * (513 - (n + 1)) + 12)) (by omega) (by omega) k) ?_
        exact w_L_law_1127 C hl E n hn p14.2 v1 v2 v3
      · refine oj_inr ?_
        refine or_iconst C (v := (0 : Int32)) dL_law_203 (by decide) ?_
        exact ol_ret C E ⟨by omega, by omega⟩ dL_law_204
    refine or_case C (v := (1 : Int32)) 1 205 dL_law_32 (by decide) (by decide) rfl (by decide) ?_ (fun n1 => ?_)
    · refine or_aload_n C 1 rfl dL_law_205 ?_
      refine or_aload_n C 0 rfl dL_law_206 ?_
      refine or_iload_n C 3 rfl dL_law_207 ?_
      refine or_iconst C (v := (1 : Int32)) dL_law_208 (by decide) ?_
      refine or_iadd C dL_law_209 ?_
      refine ol_ld C E dL_law_210 (fun x16 => ?_)
      refine or_aload_n C 0 rfl dL_law_211 ?_
      refine or_iload_n C 3 rfl dL_law_212 ?_
      refine or_iconst C (v := (2 : Int32)) dL_law_213 (by decide) ?_
      refine or_iadd C dL_law_214 ?_
      refine ol_ld C E dL_law_215 (fun x17 => ?_)
      refine oj_rc (fun o18 e20 q19 => ?_)
      refine oj_bind (fun p21 z22 => ?_)
      refine oj_v (P := oh_V G (65 + (513 - (n + 1)) + 1) (22243 + 12 * (513 - (n + 1)) + 12) p21.2 219 [(0, xr (some o)), (1, xr v1), (2, xr v2), (3, xi v3)] [xi p21.1]) (fun k => or_callV C 2 hl (m_X7_lot _ h o18 x16 x17 p21 z22) gL_law_X7_lot rfl rfl rfl (by decide +kernel) ⟨Nat.le_of_ble_eq_true rfl, Nat.le_of_ble_eq_true rfl⟩ q19 rfl (by decide) (Nat.le_of_ble_eq_true rfl) dL_law_216 ⟨by show _ ≤ 600000; omega, by show _ ≤ 7302250; omega⟩ rfl (by rw [e20]; rfl) k) ?_
      refine or_aload_n C 2 rfl dL_law_219 ?_
      refine or_aload_n C 0 rfl dL_law_220 ?_
      refine or_iload_n C 3 rfl dL_law_221 ?_
      refine or_iconst C (v := (1 : Int32)) dL_law_222 (by decide) ?_
      refine or_iadd C dL_law_223 ?_
      refine ol_ld C E dL_law_224 (fun x23 => ?_)
      refine or_aload_n C 0 rfl dL_law_225 ?_
      refine or_iload_n C 3 rfl dL_law_226 ?_
      refine or_iconst C (v := (2 : Int32)) dL_law_227 (by decide) ?_
      refine or_iadd C dL_law_228 ?_
      refine ol_ld C E dL_law_229 (fun x24 => ?_)
      refine oj_rc (fun o25 e27 q26 => ?_)
      refine oj_bind (fun p28 z29 => ?_)
      refine oj_v (P := oh_V G (65 + (513 - (n + 1)) + 1) (22243 + 12 * (513 - (n + 1)) + 12) p28.2 233 [(0, xr (some o)), (1, xr v1), (2, xr v2), (3, xi v3)] [xi p28.1, xi p21.1]) (fun k => or_callV C 2 hl (m_X8_lot _ p21.2 o25 x23 x24 p28 z29) gL_law_X8_lot rfl rfl rfl (by decide +kernel) ⟨Nat.le_of_ble_eq_true rfl, Nat.le_of_ble_eq_true rfl⟩ q26 rfl (by decide) (Nat.le_of_ble_eq_true rfl) dL_law_230 ⟨by show _ ≤ 600000; omega, by show _ ≤ 7302250; omega⟩ rfl (by rw [e27]; rfl) k) ?_
      refine or_icmp_eq C 1127 dL_law_233 (by decide) ?_ ?_
      · refine or_sub [0, 1, 2, 3] rfl ?_
        exact w_L_law_1127 C hl E n hn p28.2 v1 v2 v3
      · refine oj_inr ?_
        refine or_iconst C (v := (0 : Int32)) dL_law_236 (by decide) ?_
        exact ol_ret C E ⟨by omega, by omega⟩ dL_law_237
    refine or_case C (v := (2 : Int32)) 2 238 dL_law_32 (by decide) (by decide) rfl (by decide) ?_ (fun n2 => ?_)
    · refine or_aload_n C 1 rfl dL_law_238 ?_
      refine or_aload_n C 0 rfl dL_law_239 ?_
      refine or_iload_n C 3 rfl dL_law_240 ?_
      refine or_iconst C (v := (1 : Int32)) dL_law_241 (by decide) ?_
      refine or_iadd C dL_law_242 ?_
      refine ol_ld C E dL_law_243 (fun x30 => ?_)
      refine or_aload_n C 0 rfl dL_law_244 ?_
      refine or_iload_n C 3 rfl dL_law_245 ?_
      refine or_iconst C (v := (2 : Int32)) dL_law_246 (by decide) ?_
      refine or_iadd C dL_law_247 ?_
      refine ol_ld C E dL_law_248 (fun x31 => ?_)
      refine or_if_eq C 256 dL_law_249 (by decide) ?_ ?_
      · refine or_iconst C (v := (0 : Int32)) dL_law_256 (by decide) ?_
        refine or_sub [0, 1, 2, 3] rfl ?_
        exact w_L_law_257 C hl E n hn h v1 v2 v3 (0 : Int32) x30 v1
      · refine or_iconst C (v := (1 : Int32)) dL_law_252 (by decide) ?_
        refine or_goto C 257 dL_law_253 (by decide) ?_
        refine or_sub [0, 1, 2, 3] rfl ?_
        exact w_L_law_257 C hl E n hn h v1 v2 v3 (1 : Int32) x30 v1
    refine or_case C (v := (3 : Int32)) 3 287 dL_law_32 (by decide) (by decide) rfl (by decide) ?_ (fun n3 => ?_)
    · refine or_aload_n C 1 rfl dL_law_287 ?_
      refine or_aload_n C 0 rfl dL_law_288 ?_
      refine or_iload_n C 3 rfl dL_law_289 ?_
      refine or_iconst C (v := (1 : Int32)) dL_law_290 (by decide) ?_
      refine or_iadd C dL_law_291 ?_
      refine ol_ld C E dL_law_292 (fun x32 => ?_)
      refine oj_rc (fun o33 e35 q34 => ?_)
      refine oj_bind (fun p36 z37 => ?_)
      refine oj_v (P := oh_V G (65 + (513 - (n + 1))) (22243 + 12 * (513 - (n + 1))) p36.2 296 [(0, xr (some o)), (1, xr v1), (2, xr v2), (3, xi v3)] [xi p36.1]) (fun k => or_callV C 1 hl (m_X7_scale _ h o33 x32 p36 z37) gL_law_X7_scale rfl rfl rfl (by decide +kernel) ⟨Nat.le_of_ble_eq_true rfl, Nat.le_of_ble_eq_true rfl⟩ q34 rfl (by decide) (Nat.le_of_ble_eq_true rfl) dL_law_293 ⟨by show _ ≤ 600000; omega, by show _ ≤ 7302250; omega⟩ rfl (by rw [e35]; rfl) k) ?_
      refine or_aload_n C 2 rfl dL_law_296 ?_
      refine or_aload_n C 0 rfl dL_law_297 ?_
      refine or_iload_n C 3 rfl dL_law_298 ?_
      refine or_iconst C (v := (1 : Int32)) dL_law_299 (by decide) ?_
      refine or_iadd C dL_law_300 ?_
      refine ol_ld C E dL_law_301 (fun x38 => ?_)
      refine oj_rc (fun o39 e41 q40 => ?_)
      refine oj_bind (fun p42 z43 => ?_)
      refine oj_v (P := oh_V G (65 + (513 - (n + 1))) (22243 + 12 * (513 - (n + 1))) p42.2 305 [(0, xr (some o)), (1, xr v1), (2, xr v2), (3, xi v3)] [xi p42.1, xi p36.1]) (fun k => or_callV C 1 hl (m_X8_scale _ p36.2 o39 x38 p42 z43) gL_law_X8_scale rfl rfl rfl (by decide +kernel) ⟨Nat.le_of_ble_eq_true rfl, Nat.le_of_ble_eq_true rfl⟩ q40 rfl (by decide) (Nat.le_of_ble_eq_true rfl) dL_law_302 ⟨by show _ ≤ 600000; omega, by show _ ≤ 7302250; omega⟩ rfl (by rw [e41]; rfl) k) ?_
      refine or_icmp_eq C 1127 dL_law_305 (by decide) ?_ ?_
      · refine or_sub [0, 1, 2, 3] rfl ?_
        refine oj_v (fun k => ol_widen (cells' := (65 + (513 - (n + 1)) + 1)) (slots' := (22243 + 12 * (513 - (n + 1)) + 12)) (by omega) (by omega) k) ?_
        exact w_L_law_1127 C hl E n hn p42.2 v1 v2 v3
      · refine oj_inr ?_
        refine or_iconst C (v := (0 : Int32)) dL_law_308 (by decide) ?_
        exact ol_ret C E ⟨by omega, by omega⟩ dL_law_309
    refine or_case C (v := (4 : Int32)) 4 310 dL_law_32 (by decide) (by decide) rfl (by decide) ?_ (fun n4 => ?_)
    · refine or_aload_n C 1 rfl dL_law_310 ?_
      refine or_aload_n C 0 rfl dL_law_311 ?_
      refine or_iload_n C 3 rfl dL_law_312 ?_
      refine or_iconst C (v := (1 : Int32)) dL_law_313 (by decide) ?_
      refine or_iadd C dL_law_314 ?_
      refine ol_ld C E dL_law_315 (fun x44 => ?_)
      refine or_aload_n C 0 rfl dL_law_316 ?_
      refine or_iload_n C 3 rfl dL_law_317 ?_
      refine or_iconst C (v := (2 : Int32)) dL_law_318 (by decide) ?_
      refine or_iadd C dL_law_319 ?_
      refine ol_ld C E dL_law_320 (fun x45 => ?_)
      refine oj_rc (fun o46 e48 q47 => ?_)
      refine oj_bind (fun p49 z50 => ?_)
      refine oj_v (P := oh_V G (65 + (513 - (n + 1))) (22243 + 12 * (513 - (n + 1))) p49.2 324 [(0, xr (some o)), (1, xr v1), (2, xr v2), (3, xi v3)] [xi p49.1]) (fun k => or_callV C 2 hl (m_X7_weigh _ h o46 x44 x45 p49 z50) gL_law_X7_weigh rfl rfl rfl (by decide +kernel) ⟨Nat.le_of_ble_eq_true rfl, Nat.le_of_ble_eq_true rfl⟩ q47 rfl (by decide) (Nat.le_of_ble_eq_true rfl) dL_law_321 ⟨by show _ ≤ 600000; omega, by show _ ≤ 7302250; omega⟩ rfl (by rw [e48]; rfl) k) ?_
      refine or_aload_n C 2 rfl dL_law_324 ?_
      refine or_aload_n C 0 rfl dL_law_325 ?_
      refine or_iload_n C 3 rfl dL_law_326 ?_
      refine or_iconst C (v := (1 : Int32)) dL_law_327 (by decide) ?_
      refine or_iadd C dL_law_328 ?_
      refine ol_ld C E dL_law_329 (fun x51 => ?_)
      refine or_aload_n C 0 rfl dL_law_330 ?_
      refine or_iload_n C 3 rfl dL_law_331 ?_
      refine or_iconst C (v := (2 : Int32)) dL_law_332 (by decide) ?_
      refine or_iadd C dL_law_333 ?_
      refine ol_ld C E dL_law_334 (fun x52 => ?_)
      refine oj_rc (fun o53 e55 q54 => ?_)
      refine oj_bind (fun p56 z57 => ?_)
      refine oj_v (P := oh_V G (65 + (513 - (n + 1))) (22243 + 12 * (513 - (n + 1))) p56.2 338 [(0, xr (some o)), (1, xr v1), (2, xr v2), (3, xi v3)] [xi p56.1, xi p49.1]) (fun k => or_callV C 2 hl (m_X8_weigh _ p49.2 o53 x51 x52 p56 z57) gL_law_X8_weigh rfl rfl rfl (by decide +kernel) ⟨Nat.le_of_ble_eq_true rfl, Nat.le_of_ble_eq_true rfl⟩ q54 rfl (by decide) (Nat.le_of_ble_eq_true rfl) dL_law_335 ⟨by show _ ≤ 600000; omega, by show _ ≤ 7302250; omega⟩ rfl (by rw [e55]; rfl) k) ?_
      refine or_icmp_eq C 1127 dL_law_338 (by decide) ?_ ?_
      · refine or_sub [0, 1, 2, 3] rfl ?_
        refine oj_v (fun k => ol_widen (cells' := (65 + (513 - (n + 1)) + 1)) (slots' := (22243 + 12 * (513 - (n + 1)) + 12)) (by omega) (by omega) k) ?_
        exact w_L_law_1127 C hl E n hn p56.2 v1 v2 v3
      · refine oj_inr ?_
        refine or_iconst C (v := (0 : Int32)) dL_law_341 (by decide) ?_
        exact ol_ret C E ⟨by omega, by omega⟩ dL_law_342
    refine or_case C (v := (5 : Int32)) 5 343 dL_law_32 (by decide) (by decide) rfl (by decide) ?_ (fun n5 => ?_)
    · refine or_aload_n C 1 rfl dL_law_343 ?_
      refine or_aload_n C 0 rfl dL_law_344 ?_
      refine or_iload_n C 3 rfl dL_law_345 ?_
      refine or_iconst C (v := (1 : Int32)) dL_law_346 (by decide) ?_
      refine or_iadd C dL_law_347 ?_
      refine ol_ld C E dL_law_348 (fun x58 => ?_)
      refine or_aload_n C 0 rfl dL_law_349 ?_
      refine or_iload_n C 3 rfl dL_law_350 ?_
      refine or_iconst C (v := (2 : Int32)) dL_law_351 (by decide) ?_
      refine or_iadd C dL_law_352 ?_
      refine ol_ld C E dL_law_353 (fun x59 => ?_)
      refine or_aload_n C 0 rfl dL_law_354 ?_
      refine or_iload_n C 3 rfl dL_law_355 ?_
      refine or_iconst C (v := (3 : Int32)) dL_law_356 (by decide) ?_
      refine or_iadd C dL_law_357 ?_
      refine ol_ld C E dL_law_358 (fun x60 => ?_)
      refine oj_rc (fun o61 e63 q62 => ?_)
      refine oj_bind (fun p64 z65 => ?_)
      refine oj_v (P := oh_V G (65 + (513 - (n + 1))) (22243 + 12 * (513 - (n + 1))) p64.2 362 [(0, xr (some o)), (1, xr v1), (2, xr v2), (3, xi v3)] [xi p64.1]) (fun k => or_callV C 3 hl (m_X7_sample _ h o61 x58 x59 x60 p64 z65) gL_law_X7_sample rfl rfl rfl (by decide +kernel) ⟨Nat.le_of_ble_eq_true rfl, Nat.le_of_ble_eq_true rfl⟩ q62 rfl (by decide) (Nat.le_of_ble_eq_true rfl) dL_law_359 ⟨by show _ ≤ 600000; omega, by show _ ≤ 7302250; omega⟩ rfl (by rw [e63]; rfl) k) ?_
      refine or_aload_n C 2 rfl dL_law_362 ?_
      refine or_aload_n C 0 rfl dL_law_363 ?_
      refine or_iload_n C 3 rfl dL_law_364 ?_
      refine or_iconst C (v := (1 : Int32)) dL_law_365 (by decide) ?_
      refine or_iadd C dL_law_366 ?_
      refine ol_ld C E dL_law_367 (fun x66 => ?_)
      refine or_aload_n C 0 rfl dL_law_368 ?_
      refine or_iload_n C 3 rfl dL_law_369 ?_
      refine or_iconst C (v := (2 : Int32)) dL_law_370 (by decide) ?_
      refine or_iadd C dL_law_371 ?_
      refine ol_ld C E dL_law_372 (fun x67 => ?_)
      refine or_aload_n C 0 rfl dL_law_373 ?_
      refine or_iload_n C 3 rfl dL_law_374 ?_
      refine or_iconst C (v := (3 : Int32)) dL_law_375 (by decide) ?_
      refine or_iadd C dL_law_376 ?_
      refine ol_ld C E dL_law_377 (fun x68 => ?_)
      refine oj_rc (fun o69 e71 q70 => ?_)
      refine oj_bind (fun p72 z73 => ?_)
      refine oj_v (P := oh_V G (65 + (513 - (n + 1))) (22243 + 12 * (513 - (n + 1))) p72.2 381 [(0, xr (some o)), (1, xr v1), (2, xr v2), (3, xi v3)] [xi p72.1, xi p64.1]) (fun k => or_callV C 3 hl (m_X8_sample _ p64.2 o69 x66 x67 x68 p72 z73) gL_law_X8_sample rfl rfl rfl (by decide +kernel) ⟨Nat.le_of_ble_eq_true rfl, Nat.le_of_ble_eq_true rfl⟩ q70 rfl (by decide) (Nat.le_of_ble_eq_true rfl) dL_law_378 ⟨by show _ ≤ 600000; omega, by show _ ≤ 7302250; omega⟩ rfl (by rw [e71]; rfl) k) ?_
      refine or_icmp_eq C 1127 dL_law_381 (by decide) ?_ ?_
      · refine or_sub [0, 1, 2, 3] rfl ?_
        refine oj_v (fun k => ol_widen (cells' := (65 + (513 - (n + 1)) + 1)) (slots' := (22243 + 12 * (513 - (n + 1)) + 12)) (by omega) (by omega) k) ?_
        exact w_L_law_1127 C hl E n hn p72.2 v1 v2 v3
      · refine oj_inr ?_
        refine or_iconst C (v := (0 : Int32)) dL_law_384 (by decide) ?_
        exact ol_ret C E ⟨by omega, by omega⟩ dL_law_385
    refine or_case C (v := (6 : Int32)) 6 386 dL_law_32 (by decide) (by decide) rfl (by decide) ?_ (fun n6 => ?_)
    · refine or_aload_n C 1 rfl dL_law_386 ?_
      refine or_aload_n C 0 rfl dL_law_387 ?_
      refine or_iload_n C 3 rfl dL_law_388 ?_
      refine or_iconst C (v := (1 : Int32)) dL_law_389 (by decide) ?_
      refine or_iadd C dL_law_390 ?_
      refine ol_ld C E dL_law_391 (fun x74 => ?_)
      refine or_aload_n C 0 rfl dL_law_392 ?_
      refine or_iload_n C 3 rfl dL_law_393 ?_
      refine or_iconst C (v := (2 : Int32)) dL_law_394 (by decide) ?_
      refine or_iadd C dL_law_395 ?_
      refine ol_ld C E dL_law_396 (fun x75 => ?_)
      refine oj_rc (fun o76 e78 q77 => ?_)
      refine oj_bind (fun p79 z80 => ?_)
      refine oj_v (P := oh_V G (65 + (513 - (n + 1))) (22243 + 12 * (513 - (n + 1))) h 400 [(0, xr (some o)), (1, xr v1), (2, xr v2), (3, xi v3)] [xi p79]) (fun k => or_callV C 2 hl (m_X7_told _ h o76 x74 x75 p79 z80) gL_law_X7_told rfl rfl rfl (by decide +kernel) ⟨Nat.le_of_ble_eq_true rfl, Nat.le_of_ble_eq_true rfl⟩ q77 rfl (by decide) (Nat.le_of_ble_eq_true rfl) dL_law_397 ⟨by show _ ≤ 600000; omega, by show _ ≤ 7302250; omega⟩ rfl (by rw [e78]; rfl) k) ?_
      refine or_aload_n C 2 rfl dL_law_400 ?_
      refine or_aload_n C 0 rfl dL_law_401 ?_
      refine or_iload_n C 3 rfl dL_law_402 ?_
      refine or_iconst C (v := (1 : Int32)) dL_law_403 (by decide) ?_
      refine or_iadd C dL_law_404 ?_
      refine ol_ld C E dL_law_405 (fun x81 => ?_)
      refine or_aload_n C 0 rfl dL_law_406 ?_
      refine or_iload_n C 3 rfl dL_law_407 ?_
      refine or_iconst C (v := (2 : Int32)) dL_law_408 (by decide) ?_
      refine or_iadd C dL_law_409 ?_
      refine ol_ld C E dL_law_410 (fun x82 => ?_)
      refine oj_rc (fun o83 e85 q84 => ?_)
      refine oj_bind (fun p86 z87 => ?_)
      refine oj_v (P := oh_V G (65 + (513 - (n + 1))) (22243 + 12 * (513 - (n + 1))) h 414 [(0, xr (some o)), (1, xr v1), (2, xr v2), (3, xi v3)] [xi p86, xi p79]) (fun k => or_callV C 2 hl (m_X8_told _ h o83 x81 x82 p86 z87) gL_law_X8_told rfl rfl rfl (by decide +kernel) ⟨Nat.le_of_ble_eq_true rfl, Nat.le_of_ble_eq_true rfl⟩ q84 rfl (by decide) (Nat.le_of_ble_eq_true rfl) dL_law_411 ⟨by show _ ≤ 600000; omega, by show _ ≤ 7302250; omega⟩ rfl (by rw [e85]; rfl) k) ?_
      refine or_icmp_eq C 1127 dL_law_414 (by decide) ?_ ?_
      · refine or_sub [0, 1, 2, 3] rfl ?_
        refine oj_v (fun k => ol_widen (cells' := (65 + (513 - (n + 1)) + 1)) (slots' := (22243 + 12 * (513 - (n + 1)) + 12)) (by omega) (by omega) k) ?_
        exact w_L_law_1127 C hl E n hn h v1 v2 v3
      · refine oj_inr ?_
        refine or_iconst C (v := (0 : Int32)) dL_law_417 (by decide) ?_
        exact ol_ret C E ⟨by omega, by omega⟩ dL_law_418
    refine or_case C (v := (7 : Int32)) 7 419 dL_law_32 (by decide) (by decide) rfl (by decide) ?_ (fun n7 => ?_)
    · refine or_aload_n C 1 rfl dL_law_419 ?_
      refine or_aload_n C 0 rfl dL_law_420 ?_
      refine or_iload_n C 3 rfl dL_law_421 ?_
      refine or_iconst C (v := (1 : Int32)) dL_law_422 (by decide) ?_
      refine or_iadd C dL_law_423 ?_
      refine ol_ld C E dL_law_424 (fun x88 => ?_)
      refine or_aload_n C 0 rfl dL_law_425 ?_
      refine or_iload_n C 3 rfl dL_law_426 ?_
      refine or_iconst C (v := (2 : Int32)) dL_law_427 (by decide) ?_
      refine or_iadd C dL_law_428 ?_
      refine ol_ld C E dL_law_429 (fun x89 => ?_)
      refine or_aload_n C 0 rfl dL_law_430 ?_
      refine or_iload_n C 3 rfl dL_law_431 ?_
      refine or_iconst C (v := (3 : Int32)) dL_law_432 (by decide) ?_
      refine or_iadd C dL_law_433 ?_
      refine ol_ld C E dL_law_434 (fun x90 => ?_)
      refine oj_rc (fun o91 e93 q92 => ?_)
      refine oj_bind (fun p94 z95 => ?_)
      refine oj_v (P := oh_V G (65 + (513 - (n + 1))) (22243 + 12 * (513 - (n + 1))) p94.2 438 [(0, xr (some o)), (1, xr v1), (2, xr v2), (3, xi v3)] [xi p94.1]) (fun k => or_callV C 3 hl (m_X7_mill _ h o91 x88 x89 x90 p94 z95) gL_law_X7_mill rfl rfl rfl (by decide +kernel) ⟨Nat.le_of_ble_eq_true rfl, Nat.le_of_ble_eq_true rfl⟩ q92 rfl (by decide) (Nat.le_of_ble_eq_true rfl) dL_law_435 ⟨by show _ ≤ 600000; omega, by show _ ≤ 7302250; omega⟩ rfl (by rw [e93]; rfl) k) ?_
      refine or_aload_n C 2 rfl dL_law_438 ?_
      refine or_aload_n C 0 rfl dL_law_439 ?_
      refine or_iload_n C 3 rfl dL_law_440 ?_
      refine or_iconst C (v := (1 : Int32)) dL_law_441 (by decide) ?_
      refine or_iadd C dL_law_442 ?_
      refine ol_ld C E dL_law_443 (fun x96 => ?_)
      refine or_aload_n C 0 rfl dL_law_444 ?_
      refine or_iload_n C 3 rfl dL_law_445 ?_
      refine or_iconst C (v := (2 : Int32)) dL_law_446 (by decide) ?_
      refine or_iadd C dL_law_447 ?_
      refine ol_ld C E dL_law_448 (fun x97 => ?_)
      refine or_aload_n C 0 rfl dL_law_449 ?_
      refine or_iload_n C 3 rfl dL_law_450 ?_
      refine or_iconst C (v := (3 : Int32)) dL_law_451 (by decide) ?_
      refine or_iadd C dL_law_452 ?_
      refine ol_ld C E dL_law_453 (fun x98 => ?_)
      refine oj_rc (fun o99 e101 q100 => ?_)
      refine oj_bind (fun p102 z103 => ?_)
      refine oj_v (P := oh_V G (65 + (513 - (n + 1))) (22243 + 12 * (513 - (n + 1))) p102.2 457 [(0, xr (some o)), (1, xr v1), (2, xr v2), (3, xi v3)] [xi p102.1, xi p94.1]) (fun k => or_callV C 3 hl (m_X8_mill _ p94.2 o99 x96 x97 x98 p102 z103) gL_law_X8_mill rfl rfl rfl (by decide +kernel) ⟨Nat.le_of_ble_eq_true rfl, Nat.le_of_ble_eq_true rfl⟩ q100 rfl (by decide) (Nat.le_of_ble_eq_true rfl) dL_law_454 ⟨by show _ ≤ 600000; omega, by show _ ≤ 7302250; omega⟩ rfl (by rw [e101]; rfl) k) ?_
      refine or_icmp_eq C 1127 dL_law_457 (by decide) ?_ ?_
      · refine or_sub [0, 1, 2, 3] rfl ?_
        refine oj_v (fun k => ol_widen (cells' := (65 + (513 - (n + 1)) + 1)) (slots' := (22243 + 12 * (513 - (n + 1)) + 12)) (by omega) (by omega) k) ?_
        exact w_L_law_1127 C hl E n hn p102.2 v1 v2 v3
      · refine oj_inr ?_
        refine or_iconst C (v := (0 : Int32)) dL_law_460 (by decide) ?_
        exact ol_ret C E ⟨by omega, by omega⟩ dL_law_461
    refine or_case C (v := (8 : Int32)) 8 462 dL_law_32 (by decide) (by decide) rfl (by decide) ?_ (fun n8 => ?_)
    · refine or_aload_n C 1 rfl dL_law_462 ?_
      refine or_aload_n C 0 rfl dL_law_463 ?_
      refine or_iload_n C 3 rfl dL_law_464 ?_
      refine or_iconst C (v := (1 : Int32)) dL_law_465 (by decide) ?_
      refine or_iadd C dL_law_466 ?_
      refine ol_ld C E dL_law_467 (fun x104 => ?_)
      refine or_aload_n C 0 rfl dL_law_468 ?_
      refine or_iload_n C 3 rfl dL_law_469 ?_
      refine or_iconst C (v := (2 : Int32)) dL_law_470 (by decide) ?_
      refine or_iadd C dL_law_471 ?_
      refine ol_ld C E dL_law_472 (fun x105 => ?_)
      refine oj_rc (fun o106 e108 q107 => ?_)
      refine oj_bind (fun p109 z110 => ?_)
      refine oj_v (P := oh_V G (65 + (513 - (n + 1))) (22243 + 12 * (513 - (n + 1))) p109.2 476 [(0, xr (some o)), (1, xr v1), (2, xr v2), (3, xi v3)] [xi p109.1]) (fun k => or_callV C 2 hl (m_X7_put _ h o106 x104 x105 p109 z110) gL_law_X7_put rfl rfl rfl (by decide +kernel) ⟨Nat.le_of_ble_eq_true rfl, Nat.le_of_ble_eq_true rfl⟩ q107 rfl (by decide) (Nat.le_of_ble_eq_true rfl) dL_law_473 ⟨by show _ ≤ 600000; omega, by show _ ≤ 7302250; omega⟩ rfl (by rw [e108]; rfl) k) ?_
      refine or_aload_n C 2 rfl dL_law_476 ?_
      refine or_aload_n C 0 rfl dL_law_477 ?_
      refine or_iload_n C 3 rfl dL_law_478 ?_
      refine or_iconst C (v := (1 : Int32)) dL_law_479 (by decide) ?_
      refine or_iadd C dL_law_480 ?_
      refine ol_ld C E dL_law_481 (fun x111 => ?_)
      refine or_aload_n C 0 rfl dL_law_482 ?_
      refine or_iload_n C 3 rfl dL_law_483 ?_
      refine or_iconst C (v := (2 : Int32)) dL_law_484 (by decide) ?_
      refine or_iadd C dL_law_485 ?_
      refine ol_ld C E dL_law_486 (fun x112 => ?_)
      refine oj_rc (fun o113 e115 q114 => ?_)
      refine oj_bind (fun p116 z117 => ?_)
      refine oj_v (P := oh_V G (65 + (513 - (n + 1))) (22243 + 12 * (513 - (n + 1))) p116.2 490 [(0, xr (some o)), (1, xr v1), (2, xr v2), (3, xi v3)] [xi p116.1, xi p109.1]) (fun k => or_callV C 2 hl (m_X8_put _ p109.2 o113 x111 x112 p116 z117) gL_law_X8_put rfl rfl rfl (by decide +kernel) ⟨Nat.le_of_ble_eq_true rfl, Nat.le_of_ble_eq_true rfl⟩ q114 rfl (by decide) (Nat.le_of_ble_eq_true rfl) dL_law_487 ⟨by show _ ≤ 600000; omega, by show _ ≤ 7302250; omega⟩ rfl (by rw [e115]; rfl) k) ?_
      refine or_icmp_eq C 1127 dL_law_490 (by decide) ?_ ?_
      · refine or_sub [0, 1, 2, 3] rfl ?_
        refine oj_v (fun k => ol_widen (cells' := (65 + (513 - (n + 1)) + 1)) (slots' := (22243 + 12 * (513 - (n + 1)) + 12)) (by omega) (by omega) k) ?_
        exact w_L_law_1127 C hl E n hn p116.2 v1 v2 v3
      · refine oj_inr ?_
        refine or_iconst C (v := (0 : Int32)) dL_law_493 (by decide) ?_
        exact ol_ret C E ⟨by omega, by omega⟩ dL_law_494
    refine or_case C (v := (9 : Int32)) 9 495 dL_law_32 (by decide) (by decide) rfl (by decide) ?_ (fun n9 => ?_)
    · refine or_aload_n C 1 rfl dL_law_495 ?_
      refine or_aload_n C 0 rfl dL_law_496 ?_
      refine or_iload_n C 3 rfl dL_law_497 ?_
      refine or_iconst C (v := (1 : Int32)) dL_law_498 (by decide) ?_
      refine or_iadd C dL_law_499 ?_
      refine ol_ld C E dL_law_500 (fun x118 => ?_)
      refine oj_rc (fun o119 e121 q120 => ?_)
      refine oj_bind (fun p122 z123 => ?_)
      refine oj_v (P := oh_V G (65 + (513 - (n + 1))) (22243 + 12 * (513 - (n + 1))) p122.2 504 [(0, xr (some o)), (1, xr v1), (2, xr v2), (3, xi v3)] [xi p122.1]) (fun k => or_callV C 1 hl (m_X7_take _ h o119 x118 p122 z123) gL_law_X7_take rfl rfl rfl (by decide +kernel) ⟨Nat.le_of_ble_eq_true rfl, Nat.le_of_ble_eq_true rfl⟩ q120 rfl (by decide) (Nat.le_of_ble_eq_true rfl) dL_law_501 ⟨by show _ ≤ 600000; omega, by show _ ≤ 7302250; omega⟩ rfl (by rw [e121]; rfl) k) ?_
      refine or_aload_n C 2 rfl dL_law_504 ?_
      refine or_aload_n C 0 rfl dL_law_505 ?_
      refine or_iload_n C 3 rfl dL_law_506 ?_
      refine or_iconst C (v := (1 : Int32)) dL_law_507 (by decide) ?_
      refine or_iadd C dL_law_508 ?_
      refine ol_ld C E dL_law_509 (fun x124 => ?_)
      refine oj_rc (fun o125 e127 q126 => ?_)
      refine oj_bind (fun p128 z129 => ?_)
      refine oj_v (P := oh_V G (65 + (513 - (n + 1))) (22243 + 12 * (513 - (n + 1))) p128.2 513 [(0, xr (some o)), (1, xr v1), (2, xr v2), (3, xi v3)] [xi p128.1, xi p122.1]) (fun k => or_callV C 1 hl (m_X8_take _ p122.2 o125 x124 p128 z129) gL_law_X8_take rfl rfl rfl (by decide +kernel) ⟨Nat.le_of_ble_eq_true rfl, Nat.le_of_ble_eq_true rfl⟩ q126 rfl (by decide) (Nat.le_of_ble_eq_true rfl) dL_law_510 ⟨by show _ ≤ 600000; omega, by show _ ≤ 7302250; omega⟩ rfl (by rw [e127]; rfl) k) ?_
      refine or_icmp_eq C 1127 dL_law_513 (by decide) ?_ ?_
      · refine or_sub [0, 1, 2, 3] rfl ?_
        refine oj_v (fun k => ol_widen (cells' := (65 + (513 - (n + 1)) + 1)) (slots' := (22243 + 12 * (513 - (n + 1)) + 12)) (by omega) (by omega) k) ?_
        exact w_L_law_1127 C hl E n hn p128.2 v1 v2 v3
      · refine oj_inr ?_
        refine or_iconst C (v := (0 : Int32)) dL_law_516 (by decide) ?_
        exact ol_ret C E ⟨by omega, by omega⟩ dL_law_517
    refine or_case C (v := (10 : Int32)) 10 518 dL_law_32 (by decide) (by decide) rfl (by decide) ?_ (fun n10 => ?_)
    · refine or_aload_n C 1 rfl dL_law_518 ?_
      refine or_aload_n C 0 rfl dL_law_519 ?_
      refine or_iload_n C 3 rfl dL_law_520 ?_
      refine or_iconst C (v := (1 : Int32)) dL_law_521 (by decide) ?_
      refine or_iadd C dL_law_522 ?_
      refine ol_ld C E dL_law_523 (fun x130 => ?_)
      refine oj_rc (fun o131 e133 q132 => ?_)
      refine oj_bind (fun p134 z135 => ?_)
      refine oj_v (P := oh_V G (65 + (513 - (n + 1))) (22243 + 12 * (513 - (n + 1))) p134.2 527 [(0, xr (some o)), (1, xr v1), (2, xr v2), (3, xi v3)] [xi p134.1]) (fun k => or_callV C 1 hl (m_X7_wash _ h o131 x130 p134 z135) gL_law_X7_wash rfl rfl rfl (by decide +kernel) ⟨Nat.le_of_ble_eq_true rfl, Nat.le_of_ble_eq_true rfl⟩ q132 rfl (by decide) (Nat.le_of_ble_eq_true rfl) dL_law_524 ⟨by show _ ≤ 600000; omega, by show _ ≤ 7302250; omega⟩ rfl (by rw [e133]; rfl) k) ?_
      refine or_aload_n C 2 rfl dL_law_527 ?_
      refine or_aload_n C 0 rfl dL_law_528 ?_
      refine or_iload_n C 3 rfl dL_law_529 ?_
      refine or_iconst C (v := (1 : Int32)) dL_law_530 (by decide) ?_
      refine or_iadd C dL_law_531 ?_
      refine ol_ld C E dL_law_532 (fun x136 => ?_)
      refine oj_rc (fun o137 e139 q138 => ?_)
      refine oj_bind (fun p140 z141 => ?_)
      refine oj_v (P := oh_V G (65 + (513 - (n + 1))) (22243 + 12 * (513 - (n + 1))) p140.2 536 [(0, xr (some o)), (1, xr v1), (2, xr v2), (3, xi v3)] [xi p140.1, xi p134.1]) (fun k => or_callV C 1 hl (m_X8_wash _ p134.2 o137 x136 p140 z141) gL_law_X8_wash rfl rfl rfl (by decide +kernel) ⟨Nat.le_of_ble_eq_true rfl, Nat.le_of_ble_eq_true rfl⟩ q138 rfl (by decide) (Nat.le_of_ble_eq_true rfl) dL_law_533 ⟨by show _ ≤ 600000; omega, by show _ ≤ 7302250; omega⟩ rfl (by rw [e139]; rfl) k) ?_
      refine or_icmp_eq C 1127 dL_law_536 (by decide) ?_ ?_
      · refine or_sub [0, 1, 2, 3] rfl ?_
        refine oj_v (fun k => ol_widen (cells' := (65 + (513 - (n + 1)) + 1)) (slots' := (22243 + 12 * (513 - (n + 1)) + 12)) (by omega) (by omega) k) ?_
        exact w_L_law_1127 C hl E n hn p140.2 v1 v2 v3
      · refine oj_inr ?_
        refine or_iconst C (v := (0 : Int32)) dL_law_539 (by decide) ?_
        exact ol_ret C E ⟨by omega, by omega⟩ dL_law_540
    refine or_case C (v := (11 : Int32)) 11 541 dL_law_32 (by decide) (by decide) rfl (by decide) ?_ (fun n11 => ?_)
    · refine or_aload_n C 1 rfl dL_law_541 ?_
      refine or_aload_n C 0 rfl dL_law_542 ?_
      refine or_iload_n C 3 rfl dL_law_543 ?_
      refine or_iconst C (v := (1 : Int32)) dL_law_544 (by decide) ?_
      refine or_iadd C dL_law_545 ?_
      refine ol_ld C E dL_law_546 (fun x142 => ?_)
      refine oj_rc (fun o143 e145 q144 => ?_)
      refine oj_bind (fun p146 z147 => ?_)
      refine oj_v (P := oh_V G (65 + (513 - (n + 1))) (22243 + 12 * (513 - (n + 1))) p146.2 550 [(0, xr (some o)), (1, xr v1), (2, xr v2), (3, xi v3)] [xi p146.1]) (fun k => or_callV C 1 hl (m_X7_press _ h o143 x142 p146 z147) gL_law_X7_press rfl rfl rfl (by decide +kernel) ⟨Nat.le_of_ble_eq_true rfl, Nat.le_of_ble_eq_true rfl⟩ q144 rfl (by decide) (Nat.le_of_ble_eq_true rfl) dL_law_547 ⟨by show _ ≤ 600000; omega, by show _ ≤ 7302250; omega⟩ rfl (by rw [e145]; rfl) k) ?_
      refine or_aload_n C 2 rfl dL_law_550 ?_
      refine or_aload_n C 0 rfl dL_law_551 ?_
      refine or_iload_n C 3 rfl dL_law_552 ?_
      refine or_iconst C (v := (1 : Int32)) dL_law_553 (by decide) ?_
      refine or_iadd C dL_law_554 ?_
      refine ol_ld C E dL_law_555 (fun x148 => ?_)
      refine oj_rc (fun o149 e151 q150 => ?_)
      refine oj_bind (fun p152 z153 => ?_)
      refine oj_v (P := oh_V G (65 + (513 - (n + 1))) (22243 + 12 * (513 - (n + 1))) p152.2 559 [(0, xr (some o)), (1, xr v1), (2, xr v2), (3, xi v3)] [xi p152.1, xi p146.1]) (fun k => or_callV C 1 hl (m_X8_press _ p146.2 o149 x148 p152 z153) gL_law_X8_press rfl rfl rfl (by decide +kernel) ⟨Nat.le_of_ble_eq_true rfl, Nat.le_of_ble_eq_true rfl⟩ q150 rfl (by decide) (Nat.le_of_ble_eq_true rfl) dL_law_556 ⟨by show _ ≤ 600000; omega, by show _ ≤ 7302250; omega⟩ rfl (by rw [e151]; rfl) k) ?_
      refine or_icmp_eq C 1127 dL_law_559 (by decide) ?_ ?_
      · refine or_sub [0, 1, 2, 3] rfl ?_
        refine oj_v (fun k => ol_widen (cells' := (65 + (513 - (n + 1)) + 1)) (slots' := (22243 + 12 * (513 - (n + 1)) + 12)) (by omega) (by omega) k) ?_
        exact w_L_law_1127 C hl E n hn p152.2 v1 v2 v3
      · refine oj_inr ?_
        refine or_iconst C (v := (0 : Int32)) dL_law_562 (by decide) ?_
        exact ol_ret C E ⟨by omega, by omega⟩ dL_law_563
    refine or_case C (v := (12 : Int32)) 12 564 dL_law_32 (by decide) (by decide) rfl (by decide) ?_ (fun n12 => ?_)
    · refine or_aload_n C 1 rfl dL_law_564 ?_
      refine or_aload_n C 0 rfl dL_law_565 ?_
      refine or_iload_n C 3 rfl dL_law_566 ?_
      refine or_iconst C (v := (1 : Int32)) dL_law_567 (by decide) ?_
      refine or_iadd C dL_law_568 ?_
      refine ol_ld C E dL_law_569 (fun x154 => ?_)
      refine or_aload_n C 0 rfl dL_law_570 ?_
      refine or_iload_n C 3 rfl dL_law_571 ?_
      refine or_iconst C (v := (2 : Int32)) dL_law_572 (by decide) ?_
      refine or_iadd C dL_law_573 ?_
      refine ol_ld C E dL_law_574 (fun x155 => ?_)
      refine oj_rc (fun o156 e158 q157 => ?_)
      refine oj_bind (fun p159 z160 => ?_)
      refine oj_v (P := oh_V G (65 + (513 - (n + 1))) (22243 + 12 * (513 - (n + 1))) p159.2 578 [(0, xr (some o)), (1, xr v1), (2, xr v2), (3, xi v3)] [xi p159.1]) (fun k => or_callV C 2 hl (m_X7_gave _ h o156 x154 x155 p159 z160) gL_law_X7_gave rfl rfl rfl (by decide +kernel) ⟨Nat.le_of_ble_eq_true rfl, Nat.le_of_ble_eq_true rfl⟩ q157 rfl (by decide) (Nat.le_of_ble_eq_true rfl) dL_law_575 ⟨by show _ ≤ 600000; omega, by show _ ≤ 7302250; omega⟩ rfl (by rw [e158]; rfl) k) ?_
      refine or_aload_n C 2 rfl dL_law_578 ?_
      refine or_aload_n C 0 rfl dL_law_579 ?_
      refine or_iload_n C 3 rfl dL_law_580 ?_
      refine or_iconst C (v := (1 : Int32)) dL_law_581 (by decide) ?_
      refine or_iadd C dL_law_582 ?_
      refine ol_ld C E dL_law_583 (fun x161 => ?_)
      refine or_aload_n C 0 rfl dL_law_584 ?_
      refine or_iload_n C 3 rfl dL_law_585 ?_
      refine or_iconst C (v := (2 : Int32)) dL_law_586 (by decide) ?_
      refine or_iadd C dL_law_587 ?_
      refine ol_ld C E dL_law_588 (fun x162 => ?_)
      refine oj_rc (fun o163 e165 q164 => ?_)
      refine oj_bind (fun p166 z167 => ?_)
      refine oj_v (P := oh_V G (65 + (513 - (n + 1))) (22243 + 12 * (513 - (n + 1))) p166.2 592 [(0, xr (some o)), (1, xr v1), (2, xr v2), (3, xi v3)] [xi p166.1, xi p159.1]) (fun k => or_callV C 2 hl (m_X8_gave _ p159.2 o163 x161 x162 p166 z167) gL_law_X8_gave rfl rfl rfl (by decide +kernel) ⟨Nat.le_of_ble_eq_true rfl, Nat.le_of_ble_eq_true rfl⟩ q164 rfl (by decide) (Nat.le_of_ble_eq_true rfl) dL_law_589 ⟨by show _ ≤ 600000; omega, by show _ ≤ 7302250; omega⟩ rfl (by rw [e165]; rfl) k) ?_
      refine or_icmp_eq C 1127 dL_law_592 (by decide) ?_ ?_
      · refine or_sub [0, 1, 2, 3] rfl ?_
        refine oj_v (fun k => ol_widen (cells' := (65 + (513 - (n + 1)) + 1)) (slots' := (22243 + 12 * (513 - (n + 1)) + 12)) (by omega) (by omega) k) ?_
        exact w_L_law_1127 C hl E n hn p166.2 v1 v2 v3
      · refine oj_inr ?_
        refine or_iconst C (v := (0 : Int32)) dL_law_595 (by decide) ?_
        exact ol_ret C E ⟨by omega, by omega⟩ dL_law_596
    refine or_case C (v := (13 : Int32)) 13 597 dL_law_32 (by decide) (by decide) rfl (by decide) ?_ (fun n13 => ?_)
    · refine or_aload_n C 1 rfl dL_law_597 ?_
      refine or_aload_n C 0 rfl dL_law_598 ?_
      refine or_iload_n C 3 rfl dL_law_599 ?_
      refine or_iconst C (v := (1 : Int32)) dL_law_600 (by decide) ?_
      refine or_iadd C dL_law_601 ?_
      refine ol_ld C E dL_law_602 (fun x168 => ?_)
      refine oj_rc (fun o169 e171 q170 => ?_)
      refine oj_bind (fun p172 z173 => ?_)
      refine oj_v (P := oh_V G (65 + (513 - (n + 1))) (22243 + 12 * (513 - (n + 1))) p172.2 606 [(0, xr (some o)), (1, xr v1), (2, xr v2), (3, xi v3)] [xi p172.1]) (fun k => or_callV C 1 hl (m_X7_share _ h o169 x168 p172 z173) gL_law_X7_share rfl rfl rfl (by decide +kernel) ⟨Nat.le_of_ble_eq_true rfl, Nat.le_of_ble_eq_true rfl⟩ q170 rfl (by decide) (Nat.le_of_ble_eq_true rfl) dL_law_603 ⟨by show _ ≤ 600000; omega, by show _ ≤ 7302250; omega⟩ rfl (by rw [e171]; rfl) k) ?_
      refine or_aload_n C 2 rfl dL_law_606 ?_
      refine or_aload_n C 0 rfl dL_law_607 ?_
      refine or_iload_n C 3 rfl dL_law_608 ?_
      refine or_iconst C (v := (1 : Int32)) dL_law_609 (by decide) ?_
      refine or_iadd C dL_law_610 ?_
      refine ol_ld C E dL_law_611 (fun x174 => ?_)
      refine oj_rc (fun o175 e177 q176 => ?_)
      refine oj_bind (fun p178 z179 => ?_)
      refine oj_v (P := oh_V G (65 + (513 - (n + 1))) (22243 + 12 * (513 - (n + 1))) p178.2 615 [(0, xr (some o)), (1, xr v1), (2, xr v2), (3, xi v3)] [xi p178.1, xi p172.1]) (fun k => or_callV C 1 hl (m_X8_share _ p172.2 o175 x174 p178 z179) gL_law_X8_share rfl rfl rfl (by decide +kernel) ⟨Nat.le_of_ble_eq_true rfl, Nat.le_of_ble_eq_true rfl⟩ q176 rfl (by decide) (Nat.le_of_ble_eq_true rfl) dL_law_612 ⟨by show _ ≤ 600000; omega, by show _ ≤ 7302250; omega⟩ rfl (by rw [e177]; rfl) k) ?_
      refine or_icmp_eq C 1127 dL_law_615 (by decide) ?_ ?_
      · refine or_sub [0, 1, 2, 3] rfl ?_
        refine oj_v (fun k => ol_widen (cells' := (65 + (513 - (n + 1)) + 1)) (slots' := (22243 + 12 * (513 - (n + 1)) + 12)) (by omega) (by omega) k) ?_
        exact w_L_law_1127 C hl E n hn p178.2 v1 v2 v3
      · refine oj_inr ?_
        refine or_iconst C (v := (0 : Int32)) dL_law_618 (by decide) ?_
        exact ol_ret C E ⟨by omega, by omega⟩ dL_law_619
    refine or_case C (v := (14 : Int32)) 14 620 dL_law_32 (by decide) (by decide) rfl (by decide) ?_ (fun n14 => ?_)
    · refine or_aload_n C 1 rfl dL_law_620 ?_
      refine or_aload_n C 0 rfl dL_law_621 ?_
      refine or_iload_n C 3 rfl dL_law_622 ?_
      refine or_iconst C (v := (1 : Int32)) dL_law_623 (by decide) ?_
      refine or_iadd C dL_law_624 ?_
      refine ol_ld C E dL_law_625 (fun x180 => ?_)
      refine oj_rc (fun o181 e183 q182 => ?_)
      refine oj_bind (fun p184 z185 => ?_)
      refine oj_v (P := oh_V G (65 + (513 - (n + 1))) (22243 + 12 * (513 - (n + 1))) p184.2 629 [(0, xr (some o)), (1, xr v1), (2, xr v2), (3, xi v3)] [xi p184.1]) (fun k => or_callV C 1 hl (m_X7_keep _ h o181 x180 p184 z185) gL_law_X7_keep rfl rfl rfl (by decide +kernel) ⟨Nat.le_of_ble_eq_true rfl, Nat.le_of_ble_eq_true rfl⟩ q182 rfl (by decide) (Nat.le_of_ble_eq_true rfl) dL_law_626 ⟨by show _ ≤ 600000; omega, by show _ ≤ 7302250; omega⟩ rfl (by rw [e183]; rfl) k) ?_
      refine or_aload_n C 2 rfl dL_law_629 ?_
      refine or_aload_n C 0 rfl dL_law_630 ?_
      refine or_iload_n C 3 rfl dL_law_631 ?_
      refine or_iconst C (v := (1 : Int32)) dL_law_632 (by decide) ?_
      refine or_iadd C dL_law_633 ?_
      refine ol_ld C E dL_law_634 (fun x186 => ?_)
      refine oj_rc (fun o187 e189 q188 => ?_)
      refine oj_bind (fun p190 z191 => ?_)
      refine oj_v (P := oh_V G (65 + (513 - (n + 1))) (22243 + 12 * (513 - (n + 1))) p190.2 638 [(0, xr (some o)), (1, xr v1), (2, xr v2), (3, xi v3)] [xi p190.1, xi p184.1]) (fun k => or_callV C 1 hl (m_X8_keep _ p184.2 o187 x186 p190 z191) gL_law_X8_keep rfl rfl rfl (by decide +kernel) ⟨Nat.le_of_ble_eq_true rfl, Nat.le_of_ble_eq_true rfl⟩ q188 rfl (by decide) (Nat.le_of_ble_eq_true rfl) dL_law_635 ⟨by show _ ≤ 600000; omega, by show _ ≤ 7302250; omega⟩ rfl (by rw [e189]; rfl) k) ?_
      refine or_icmp_eq C 1127 dL_law_638 (by decide) ?_ ?_
      · refine or_sub [0, 1, 2, 3] rfl ?_
        refine oj_v (fun k => ol_widen (cells' := (65 + (513 - (n + 1)) + 1)) (slots' := (22243 + 12 * (513 - (n + 1)) + 12)) (by omega) (by omega) k) ?_
        exact w_L_law_1127 C hl E n hn p190.2 v1 v2 v3
      · refine oj_inr ?_
        refine or_iconst C (v := (0 : Int32)) dL_law_641 (by decide) ?_
        exact ol_ret C E ⟨by omega, by omega⟩ dL_law_642
    refine or_case C (v := (15 : Int32)) 15 643 dL_law_32 (by decide) (by decide) rfl (by decide) ?_ (fun n15 => ?_)
    · refine or_aload_n C 1 rfl dL_law_643 ?_
      refine or_aload_n C 0 rfl dL_law_644 ?_
      refine or_iload_n C 3 rfl dL_law_645 ?_
      refine or_iconst C (v := (1 : Int32)) dL_law_646 (by decide) ?_
      refine or_iadd C dL_law_647 ?_
      refine ol_ld C E dL_law_648 (fun x192 => ?_)
      refine or_aload_n C 0 rfl dL_law_649 ?_
      refine or_iload_n C 3 rfl dL_law_650 ?_
      refine or_iconst C (v := (2 : Int32)) dL_law_651 (by decide) ?_
      refine or_iadd C dL_law_652 ?_
      refine ol_ld C E dL_law_653 (fun x193 => ?_)
      refine or_if_eq C 661 dL_law_654 (by decide) ?_ ?_
      · refine or_iconst C (v := (0 : Int32)) dL_law_661 (by decide) ?_
        refine or_sub [0, 1, 2, 3] rfl ?_
        exact w_L_law_662 C hl E n hn h v1 v2 v3 (0 : Int32) x192 v1
      · refine or_iconst C (v := (1 : Int32)) dL_law_657 (by decide) ?_
        refine or_goto C 662 dL_law_658 (by decide) ?_
        refine or_sub [0, 1, 2, 3] rfl ?_
        exact w_L_law_662 C hl E n hn h v1 v2 v3 (1 : Int32) x192 v1
    refine or_case C (v := (16 : Int32)) 16 702 dL_law_32 (by decide) (by decide) rfl (by decide) ?_ (fun n16 => ?_)
    · refine or_aload_n C 1 rfl dL_law_702 ?_
      refine or_aload_n C 0 rfl dL_law_703 ?_
      refine or_iload_n C 3 rfl dL_law_704 ?_
      refine or_iconst C (v := (1 : Int32)) dL_law_705 (by decide) ?_
      refine or_iadd C dL_law_706 ?_
      refine ol_ld C E dL_law_707 (fun x194 => ?_)
      refine or_aload_n C 0 rfl dL_law_708 ?_
      refine or_iload_n C 3 rfl dL_law_709 ?_
      refine or_iconst C (v := (2 : Int32)) dL_law_710 (by decide) ?_
      refine or_iadd C dL_law_711 ?_
      refine ol_ld C E dL_law_712 (fun x195 => ?_)
      refine oj_rc (fun o196 e198 q197 => ?_)
      refine oj_bind (fun p199 z200 => ?_)
      refine oj_v (P := oh_V G (65 + (513 - (n + 1))) (22243 + 12 * (513 - (n + 1))) p199.2 716 [(0, xr (some o)), (1, xr v1), (2, xr v2), (3, xi v3)] [xi p199.1]) (fun k => or_callV C 2 hl (m_X7_pour _ h o196 x194 x195 p199 z200) gL_law_X7_pour rfl rfl rfl (by decide +kernel) ⟨Nat.le_of_ble_eq_true rfl, Nat.le_of_ble_eq_true rfl⟩ q197 rfl (by decide) (Nat.le_of_ble_eq_true rfl) dL_law_713 ⟨by show _ ≤ 600000; omega, by show _ ≤ 7302250; omega⟩ rfl (by rw [e198]; rfl) k) ?_
      refine or_aload_n C 2 rfl dL_law_716 ?_
      refine or_aload_n C 0 rfl dL_law_717 ?_
      refine or_iload_n C 3 rfl dL_law_718 ?_
      refine or_iconst C (v := (1 : Int32)) dL_law_719 (by decide) ?_
      refine or_iadd C dL_law_720 ?_
      refine ol_ld C E dL_law_721 (fun x201 => ?_)
      refine or_aload_n C 0 rfl dL_law_722 ?_
      refine or_iload_n C 3 rfl dL_law_723 ?_
      refine or_iconst C (v := (2 : Int32)) dL_law_724 (by decide) ?_
      refine or_iadd C dL_law_725 ?_
      refine ol_ld C E dL_law_726 (fun x202 => ?_)
      refine oj_rc (fun o203 e205 q204 => ?_)
      refine oj_bind (fun p206 z207 => ?_)
      refine oj_v (P := oh_V G (65 + (513 - (n + 1))) (22243 + 12 * (513 - (n + 1))) p206.2 730 [(0, xr (some o)), (1, xr v1), (2, xr v2), (3, xi v3)] [xi p206.1, xi p199.1]) (fun k => or_callV C 2 hl (m_X8_pour _ p199.2 o203 x201 x202 p206 z207) gL_law_X8_pour rfl rfl rfl (by decide +kernel) ⟨Nat.le_of_ble_eq_true rfl, Nat.le_of_ble_eq_true rfl⟩ q204 rfl (by decide) (Nat.le_of_ble_eq_true rfl) dL_law_727 ⟨by show _ ≤ 600000; omega, by show _ ≤ 7302250; omega⟩ rfl (by rw [e205]; rfl) k) ?_
      refine or_icmp_eq C 1127 dL_law_730 (by decide) ?_ ?_
      · refine or_sub [0, 1, 2, 3] rfl ?_
        refine oj_v (fun k => ol_widen (cells' := (65 + (513 - (n + 1)) + 1)) (slots' := (22243 + 12 * (513 - (n + 1)) + 12)) (by omega) (by omega) k) ?_
        exact w_L_law_1127 C hl E n hn p206.2 v1 v2 v3
      · refine oj_inr ?_
        refine or_iconst C (v := (0 : Int32)) dL_law_733 (by decide) ?_
        exact ol_ret C E ⟨by omega, by omega⟩ dL_law_734
    refine or_case C (v := (17 : Int32)) 17 735 dL_law_32 (by decide) (by decide) rfl (by decide) ?_ (fun n17 => ?_)
    · refine or_aload_n C 1 rfl dL_law_735 ?_
      refine or_aload_n C 0 rfl dL_law_736 ?_
      refine or_iload_n C 3 rfl dL_law_737 ?_
      refine or_iconst C (v := (1 : Int32)) dL_law_738 (by decide) ?_
      refine or_iadd C dL_law_739 ?_
      refine ol_ld C E dL_law_740 (fun x208 => ?_)
      refine oj_rc (fun o209 e211 q210 => ?_)
      refine oj_bind (fun p212 z213 => ?_)
      refine oj_v (P := oh_V G (65 + (513 - (n + 1))) (22243 + 12 * (513 - (n + 1))) p212.2 744 [(0, xr (some o)), (1, xr v1), (2, xr v2), (3, xi v3)] [xi p212.1]) (fun k => or_callV C 1 hl (m_X7_fetch _ h o209 x208 p212 z213) gL_law_X7_fetch rfl rfl rfl (by decide +kernel) ⟨Nat.le_of_ble_eq_true rfl, Nat.le_of_ble_eq_true rfl⟩ q210 rfl (by decide) (Nat.le_of_ble_eq_true rfl) dL_law_741 ⟨by show _ ≤ 600000; omega, by show _ ≤ 7302250; omega⟩ rfl (by rw [e211]; rfl) k) ?_
      refine or_aload_n C 2 rfl dL_law_744 ?_
      refine or_aload_n C 0 rfl dL_law_745 ?_
      refine or_iload_n C 3 rfl dL_law_746 ?_
      refine or_iconst C (v := (1 : Int32)) dL_law_747 (by decide) ?_
      refine or_iadd C dL_law_748 ?_
      refine ol_ld C E dL_law_749 (fun x214 => ?_)
      refine oj_rc (fun o215 e217 q216 => ?_)
      refine oj_bind (fun p218 z219 => ?_)
      refine oj_v (P := oh_V G (65 + (513 - (n + 1))) (22243 + 12 * (513 - (n + 1))) p218.2 753 [(0, xr (some o)), (1, xr v1), (2, xr v2), (3, xi v3)] [xi p218.1, xi p212.1]) (fun k => or_callV C 1 hl (m_X8_fetch _ p212.2 o215 x214 p218 z219) gL_law_X8_fetch rfl rfl rfl (by decide +kernel) ⟨Nat.le_of_ble_eq_true rfl, Nat.le_of_ble_eq_true rfl⟩ q216 rfl (by decide) (Nat.le_of_ble_eq_true rfl) dL_law_750 ⟨by show _ ≤ 600000; omega, by show _ ≤ 7302250; omega⟩ rfl (by rw [e217]; rfl) k) ?_
      refine or_icmp_eq C 1127 dL_law_753 (by decide) ?_ ?_
      · refine or_sub [0, 1, 2, 3] rfl ?_
        refine oj_v (fun k => ol_widen (cells' := (65 + (513 - (n + 1)) + 1)) (slots' := (22243 + 12 * (513 - (n + 1)) + 12)) (by omega) (by omega) k) ?_
        exact w_L_law_1127 C hl E n hn p218.2 v1 v2 v3
      · refine oj_inr ?_
        refine or_iconst C (v := (0 : Int32)) dL_law_756 (by decide) ?_
        exact ol_ret C E ⟨by omega, by omega⟩ dL_law_757
    refine or_case C (v := (18 : Int32)) 18 758 dL_law_32 (by decide) (by decide) rfl (by decide) ?_ (fun n18 => ?_)
    · refine or_aload_n C 1 rfl dL_law_758 ?_
      refine or_aload_n C 0 rfl dL_law_759 ?_
      refine or_iload_n C 3 rfl dL_law_760 ?_
      refine or_iconst C (v := (1 : Int32)) dL_law_761 (by decide) ?_
      refine or_iadd C dL_law_762 ?_
      refine ol_ld C E dL_law_763 (fun x220 => ?_)
      refine or_aload_n C 0 rfl dL_law_764 ?_
      refine or_iload_n C 3 rfl dL_law_765 ?_
      refine or_iconst C (v := (2 : Int32)) dL_law_766 (by decide) ?_
      refine or_iadd C dL_law_767 ?_
      refine ol_ld C E dL_law_768 (fun x221 => ?_)
      refine oj_rc (fun o222 e224 q223 => ?_)
      refine oj_bind (fun p225 z226 => ?_)
      refine oj_v (P := oh_V G (65 + (513 - (n + 1))) (22243 + 12 * (513 - (n + 1))) p225.2 772 [(0, xr (some o)), (1, xr v1), (2, xr v2), (3, xi v3)] [xi p225.1]) (fun k => or_callV C 2 hl (m_X7_draw _ h o222 x220 x221 p225 z226) gL_law_X7_draw rfl rfl rfl (by decide +kernel) ⟨Nat.le_of_ble_eq_true rfl, Nat.le_of_ble_eq_true rfl⟩ q223 rfl (by decide) (Nat.le_of_ble_eq_true rfl) dL_law_769 ⟨by show _ ≤ 600000; omega, by show _ ≤ 7302250; omega⟩ rfl (by rw [e224]; rfl) k) ?_
      refine or_aload_n C 2 rfl dL_law_772 ?_
      refine or_aload_n C 0 rfl dL_law_773 ?_
      refine or_iload_n C 3 rfl dL_law_774 ?_
      refine or_iconst C (v := (1 : Int32)) dL_law_775 (by decide) ?_
      refine or_iadd C dL_law_776 ?_
      refine ol_ld C E dL_law_777 (fun x227 => ?_)
      refine or_aload_n C 0 rfl dL_law_778 ?_
      refine or_iload_n C 3 rfl dL_law_779 ?_
      refine or_iconst C (v := (2 : Int32)) dL_law_780 (by decide) ?_
      refine or_iadd C dL_law_781 ?_
      refine ol_ld C E dL_law_782 (fun x228 => ?_)
      refine oj_rc (fun o229 e231 q230 => ?_)
      refine oj_bind (fun p232 z233 => ?_)
      refine oj_v (P := oh_V G (65 + (513 - (n + 1))) (22243 + 12 * (513 - (n + 1))) p232.2 786 [(0, xr (some o)), (1, xr v1), (2, xr v2), (3, xi v3)] [xi p232.1, xi p225.1]) (fun k => or_callV C 2 hl (m_X8_draw _ p225.2 o229 x227 x228 p232 z233) gL_law_X8_draw rfl rfl rfl (by decide +kernel) ⟨Nat.le_of_ble_eq_true rfl, Nat.le_of_ble_eq_true rfl⟩ q230 rfl (by decide) (Nat.le_of_ble_eq_true rfl) dL_law_783 ⟨by show _ ≤ 600000; omega, by show _ ≤ 7302250; omega⟩ rfl (by rw [e231]; rfl) k) ?_
      refine or_icmp_eq C 1127 dL_law_786 (by decide) ?_ ?_
      · refine or_sub [0, 1, 2, 3] rfl ?_
        refine oj_v (fun k => ol_widen (cells' := (65 + (513 - (n + 1)) + 1)) (slots' := (22243 + 12 * (513 - (n + 1)) + 12)) (by omega) (by omega) k) ?_
        exact w_L_law_1127 C hl E n hn p232.2 v1 v2 v3
      · refine oj_inr ?_
        refine or_iconst C (v := (0 : Int32)) dL_law_789 (by decide) ?_
        exact ol_ret C E ⟨by omega, by omega⟩ dL_law_790
    refine or_case C (v := (19 : Int32)) 19 791 dL_law_32 (by decide) (by decide) rfl (by decide) ?_ (fun n19 => ?_)
    · refine or_aload_n C 1 rfl dL_law_791 ?_
      refine or_aload_n C 0 rfl dL_law_792 ?_
      refine or_iload_n C 3 rfl dL_law_793 ?_
      refine or_iconst C (v := (1 : Int32)) dL_law_794 (by decide) ?_
      refine or_iadd C dL_law_795 ?_
      refine ol_ld C E dL_law_796 (fun x234 => ?_)
      refine or_aload_n C 0 rfl dL_law_797 ?_
      refine or_iload_n C 3 rfl dL_law_798 ?_
      refine or_iconst C (v := (2 : Int32)) dL_law_799 (by decide) ?_
      refine or_iadd C dL_law_800 ?_
      refine ol_ld C E dL_law_801 (fun x235 => ?_)
      refine or_aload_n C 0 rfl dL_law_802 ?_
      refine or_iload_n C 3 rfl dL_law_803 ?_
      refine or_iconst C (v := (3 : Int32)) dL_law_804 (by decide) ?_
      refine or_iadd C dL_law_805 ?_
      refine ol_ld C E dL_law_806 (fun x236 => ?_)
      refine oj_rc (fun o237 e239 q238 => ?_)
      refine oj_bind (fun p240 z241 => ?_)
      refine oj_v (P := oh_V G (65 + (513 - (n + 1))) (22243 + 12 * (513 - (n + 1))) p240.2 810 [(0, xr (some o)), (1, xr v1), (2, xr v2), (3, xi v3)] [xi p240.1]) (fun k => or_callV C 3 hl (m_X7_lend _ h o237 x234 x235 x236 p240 z241) gL_law_X7_lend rfl rfl rfl (by decide +kernel) ⟨Nat.le_of_ble_eq_true rfl, Nat.le_of_ble_eq_true rfl⟩ q238 rfl (by decide) (Nat.le_of_ble_eq_true rfl) dL_law_807 ⟨by show _ ≤ 600000; omega, by show _ ≤ 7302250; omega⟩ rfl (by rw [e239]; rfl) k) ?_
      refine or_aload_n C 2 rfl dL_law_810 ?_
      refine or_aload_n C 0 rfl dL_law_811 ?_
      refine or_iload_n C 3 rfl dL_law_812 ?_
      refine or_iconst C (v := (1 : Int32)) dL_law_813 (by decide) ?_
      refine or_iadd C dL_law_814 ?_
      refine ol_ld C E dL_law_815 (fun x242 => ?_)
      refine or_aload_n C 0 rfl dL_law_816 ?_
      refine or_iload_n C 3 rfl dL_law_817 ?_
      refine or_iconst C (v := (2 : Int32)) dL_law_818 (by decide) ?_
      refine or_iadd C dL_law_819 ?_
      refine ol_ld C E dL_law_820 (fun x243 => ?_)
      refine or_aload_n C 0 rfl dL_law_821 ?_
      refine or_iload_n C 3 rfl dL_law_822 ?_
      refine or_iconst C (v := (3 : Int32)) dL_law_823 (by decide) ?_
      refine or_iadd C dL_law_824 ?_
      refine ol_ld C E dL_law_825 (fun x244 => ?_)
      refine oj_rc (fun o245 e247 q246 => ?_)
      refine oj_bind (fun p248 z249 => ?_)
      refine oj_v (P := oh_V G (65 + (513 - (n + 1))) (22243 + 12 * (513 - (n + 1))) p248.2 829 [(0, xr (some o)), (1, xr v1), (2, xr v2), (3, xi v3)] [xi p248.1, xi p240.1]) (fun k => or_callV C 3 hl (m_X8_lend _ p240.2 o245 x242 x243 x244 p248 z249) gL_law_X8_lend rfl rfl rfl (by decide +kernel) ⟨Nat.le_of_ble_eq_true rfl, Nat.le_of_ble_eq_true rfl⟩ q246 rfl (by decide) (Nat.le_of_ble_eq_true rfl) dL_law_826 ⟨by show _ ≤ 600000; omega, by show _ ≤ 7302250; omega⟩ rfl (by rw [e247]; rfl) k) ?_
      refine or_icmp_eq C 1127 dL_law_829 (by decide) ?_ ?_
      · refine or_sub [0, 1, 2, 3] rfl ?_
        refine oj_v (fun k => ol_widen (cells' := (65 + (513 - (n + 1)) + 1)) (slots' := (22243 + 12 * (513 - (n + 1)) + 12)) (by omega) (by omega) k) ?_
        exact w_L_law_1127 C hl E n hn p248.2 v1 v2 v3
      · refine oj_inr ?_
        refine or_iconst C (v := (0 : Int32)) dL_law_832 (by decide) ?_
        exact ol_ret C E ⟨by omega, by omega⟩ dL_law_833
    refine or_case C (v := (20 : Int32)) 20 834 dL_law_32 (by decide) (by decide) rfl (by decide) ?_ (fun n20 => ?_)
    · refine or_aload_n C 1 rfl dL_law_834 ?_
      refine or_aload_n C 0 rfl dL_law_835 ?_
      refine or_iload_n C 3 rfl dL_law_836 ?_
      refine or_iconst C (v := (1 : Int32)) dL_law_837 (by decide) ?_
      refine or_iadd C dL_law_838 ?_
      refine ol_ld C E dL_law_839 (fun x250 => ?_)
      refine oj_rc (fun o251 e253 q252 => ?_)
      refine oj_bind (fun p254 z255 => ?_)
      refine oj_v (P := oh_V G (65 + (513 - (n + 1))) (22243 + 12 * (513 - (n + 1))) p254.2 843 [(0, xr (some o)), (1, xr v1), (2, xr v2), (3, xi v3)] [xi p254.1]) (fun k => or_callV C 1 hl (m_X7_pay _ h o251 x250 p254 z255) gL_law_X7_pay rfl rfl rfl (by decide +kernel) ⟨Nat.le_of_ble_eq_true rfl, Nat.le_of_ble_eq_true rfl⟩ q252 rfl (by decide) (Nat.le_of_ble_eq_true rfl) dL_law_840 ⟨by show _ ≤ 600000; omega, by show _ ≤ 7302250; omega⟩ rfl (by rw [e253]; rfl) k) ?_
      refine or_aload_n C 2 rfl dL_law_843 ?_
      refine or_aload_n C 0 rfl dL_law_844 ?_
      refine or_iload_n C 3 rfl dL_law_845 ?_
      refine or_iconst C (v := (1 : Int32)) dL_law_846 (by decide) ?_
      refine or_iadd C dL_law_847 ?_
      refine ol_ld C E dL_law_848 (fun x256 => ?_)
      refine oj_rc (fun o257 e259 q258 => ?_)
      refine oj_bind (fun p260 z261 => ?_)
      refine oj_v (P := oh_V G (65 + (513 - (n + 1))) (22243 + 12 * (513 - (n + 1))) p260.2 852 [(0, xr (some o)), (1, xr v1), (2, xr v2), (3, xi v3)] [xi p260.1, xi p254.1]) (fun k => or_callV C 1 hl (m_X8_pay _ p254.2 o257 x256 p260 z261) gL_law_X8_pay rfl rfl rfl (by decide +kernel) ⟨Nat.le_of_ble_eq_true rfl, Nat.le_of_ble_eq_true rfl⟩ q258 rfl (by decide) (Nat.le_of_ble_eq_true rfl) dL_law_849 ⟨by show _ ≤ 600000; omega, by show _ ≤ 7302250; omega⟩ rfl (by rw [e259]; rfl) k) ?_
      refine or_icmp_eq C 1127 dL_law_852 (by decide) ?_ ?_
      · refine or_sub [0, 1, 2, 3] rfl ?_
        refine oj_v (fun k => ol_widen (cells' := (65 + (513 - (n + 1)) + 1)) (slots' := (22243 + 12 * (513 - (n + 1)) + 12)) (by omega) (by omega) k) ?_
        exact w_L_law_1127 C hl E n hn p260.2 v1 v2 v3
      · refine oj_inr ?_
        refine or_iconst C (v := (0 : Int32)) dL_law_855 (by decide) ?_
        exact ol_ret C E ⟨by omega, by omega⟩ dL_law_856
    refine or_case C (v := (21 : Int32)) 21 857 dL_law_32 (by decide) (by decide) rfl (by decide) ?_ (fun n21 => ?_)
    · refine or_aload_n C 1 rfl dL_law_857 ?_
      refine or_aload_n C 0 rfl dL_law_858 ?_
      refine or_iload_n C 3 rfl dL_law_859 ?_
      refine or_iconst C (v := (1 : Int32)) dL_law_860 (by decide) ?_
      refine or_iadd C dL_law_861 ?_
      refine ol_ld C E dL_law_862 (fun x262 => ?_)
      refine or_aload_n C 0 rfl dL_law_863 ?_
      refine or_iload_n C 3 rfl dL_law_864 ?_
      refine or_iconst C (v := (2 : Int32)) dL_law_865 (by decide) ?_
      refine or_iadd C dL_law_866 ?_
      refine ol_ld C E dL_law_867 (fun x263 => ?_)
      refine or_aload_n C 0 rfl dL_law_868 ?_
      refine or_iload_n C 3 rfl dL_law_869 ?_
      refine or_iconst C (v := (3 : Int32)) dL_law_870 (by decide) ?_
      refine or_iadd C dL_law_871 ?_
      refine ol_ld C E dL_law_872 (fun x264 => ?_)
      refine oj_rc (fun o265 e267 q266 => ?_)
      refine oj_bind (fun p268 z269 => ?_)
      refine oj_v (P := oh_V G (65 + (513 - (n + 1))) (22243 + 12 * (513 - (n + 1))) p268.2 876 [(0, xr (some o)), (1, xr v1), (2, xr v2), (3, xi v3)] [xi p268.1]) (fun k => or_callV C 3 hl (m_X7_hand _ h o265 x262 x263 x264 p268 z269) gL_law_X7_hand rfl rfl rfl (by decide +kernel) ⟨Nat.le_of_ble_eq_true rfl, Nat.le_of_ble_eq_true rfl⟩ q266 rfl (by decide) (Nat.le_of_ble_eq_true rfl) dL_law_873 ⟨by show _ ≤ 600000; omega, by show _ ≤ 7302250; omega⟩ rfl (by rw [e267]; rfl) k) ?_
      refine or_aload_n C 2 rfl dL_law_876 ?_
      refine or_aload_n C 0 rfl dL_law_877 ?_
      refine or_iload_n C 3 rfl dL_law_878 ?_
      refine or_iconst C (v := (1 : Int32)) dL_law_879 (by decide) ?_
      refine or_iadd C dL_law_880 ?_
      refine ol_ld C E dL_law_881 (fun x270 => ?_)
      refine or_aload_n C 0 rfl dL_law_882 ?_
      refine or_iload_n C 3 rfl dL_law_883 ?_
      refine or_iconst C (v := (2 : Int32)) dL_law_884 (by decide) ?_
      refine or_iadd C dL_law_885 ?_
      refine ol_ld C E dL_law_886 (fun x271 => ?_)
      refine or_aload_n C 0 rfl dL_law_887 ?_
      refine or_iload_n C 3 rfl dL_law_888 ?_
      refine or_iconst C (v := (3 : Int32)) dL_law_889 (by decide) ?_
      refine or_iadd C dL_law_890 ?_
      refine ol_ld C E dL_law_891 (fun x272 => ?_)
      refine oj_rc (fun o273 e275 q274 => ?_)
      refine oj_bind (fun p276 z277 => ?_)
      refine oj_v (P := oh_V G (65 + (513 - (n + 1))) (22243 + 12 * (513 - (n + 1))) p276.2 895 [(0, xr (some o)), (1, xr v1), (2, xr v2), (3, xi v3)] [xi p276.1, xi p268.1]) (fun k => or_callV C 3 hl (m_X8_hand _ p268.2 o273 x270 x271 x272 p276 z277) gL_law_X8_hand rfl rfl rfl (by decide +kernel) ⟨Nat.le_of_ble_eq_true rfl, Nat.le_of_ble_eq_true rfl⟩ q274 rfl (by decide) (Nat.le_of_ble_eq_true rfl) dL_law_892 ⟨by show _ ≤ 600000; omega, by show _ ≤ 7302250; omega⟩ rfl (by rw [e275]; rfl) k) ?_
      refine or_icmp_eq C 1127 dL_law_895 (by decide) ?_ ?_
      · refine or_sub [0, 1, 2, 3] rfl ?_
        refine oj_v (fun k => ol_widen (cells' := (65 + (513 - (n + 1)) + 1)) (slots' := (22243 + 12 * (513 - (n + 1)) + 12)) (by omega) (by omega) k) ?_
        exact w_L_law_1127 C hl E n hn p276.2 v1 v2 v3
      · refine oj_inr ?_
        refine or_iconst C (v := (0 : Int32)) dL_law_898 (by decide) ?_
        exact ol_ret C E ⟨by omega, by omega⟩ dL_law_899
    refine or_case C (v := (22 : Int32)) 22 900 dL_law_32 (by decide) (by decide) rfl (by decide) ?_ (fun n22 => ?_)
    · refine or_aload_n C 1 rfl dL_law_900 ?_
      refine or_aload_n C 0 rfl dL_law_901 ?_
      refine or_iload_n C 3 rfl dL_law_902 ?_
      refine or_iconst C (v := (1 : Int32)) dL_law_903 (by decide) ?_
      refine or_iadd C dL_law_904 ?_
      refine ol_ld C E dL_law_905 (fun x278 => ?_)
      refine or_aload_n C 0 rfl dL_law_906 ?_
      refine or_iload_n C 3 rfl dL_law_907 ?_
      refine or_iconst C (v := (2 : Int32)) dL_law_908 (by decide) ?_
      refine or_iadd C dL_law_909 ?_
      refine ol_ld C E dL_law_910 (fun x279 => ?_)
      refine oj_rc (fun o280 e282 q281 => ?_)
      refine oj_bind (fun p283 z284 => ?_)
      refine oj_v (P := oh_V G (65 + (513 - (n + 1))) (22243 + 12 * (513 - (n + 1))) h 914 [(0, xr (some o)), (1, xr v1), (2, xr v2), (3, xi v3)] [xi p283]) (fun k => or_callV C 2 hl (m_X7_owes _ h o280 x278 x279 p283 z284) gL_law_X7_owes rfl rfl rfl (by decide +kernel) ⟨Nat.le_of_ble_eq_true rfl, Nat.le_of_ble_eq_true rfl⟩ q281 rfl (by decide) (Nat.le_of_ble_eq_true rfl) dL_law_911 ⟨by show _ ≤ 600000; omega, by show _ ≤ 7302250; omega⟩ rfl (by rw [e282]; rfl) k) ?_
      refine or_aload_n C 2 rfl dL_law_914 ?_
      refine or_aload_n C 0 rfl dL_law_915 ?_
      refine or_iload_n C 3 rfl dL_law_916 ?_
      refine or_iconst C (v := (1 : Int32)) dL_law_917 (by decide) ?_
      refine or_iadd C dL_law_918 ?_
      refine ol_ld C E dL_law_919 (fun x285 => ?_)
      refine or_aload_n C 0 rfl dL_law_920 ?_
      refine or_iload_n C 3 rfl dL_law_921 ?_
      refine or_iconst C (v := (2 : Int32)) dL_law_922 (by decide) ?_
      refine or_iadd C dL_law_923 ?_
      refine ol_ld C E dL_law_924 (fun x286 => ?_)
      refine oj_rc (fun o287 e289 q288 => ?_)
      refine oj_bind (fun p290 z291 => ?_)
      refine oj_v (P := oh_V G (65 + (513 - (n + 1))) (22243 + 12 * (513 - (n + 1))) h 928 [(0, xr (some o)), (1, xr v1), (2, xr v2), (3, xi v3)] [xi p290, xi p283]) (fun k => or_callV C 2 hl (m_X8_owes _ h o287 x285 x286 p290 z291) gL_law_X8_owes rfl rfl rfl (by decide +kernel) ⟨Nat.le_of_ble_eq_true rfl, Nat.le_of_ble_eq_true rfl⟩ q288 rfl (by decide) (Nat.le_of_ble_eq_true rfl) dL_law_925 ⟨by show _ ≤ 600000; omega, by show _ ≤ 7302250; omega⟩ rfl (by rw [e289]; rfl) k) ?_
      refine or_icmp_eq C 1127 dL_law_928 (by decide) ?_ ?_
      · refine or_sub [0, 1, 2, 3] rfl ?_
        refine oj_v (fun k => ol_widen (cells' := (65 + (513 - (n + 1)) + 1)) (slots' := (22243 + 12 * (513 - (n + 1)) + 12)) (by omega) (by omega) k) ?_
        exact w_L_law_1127 C hl E n hn h v1 v2 v3
      · refine oj_inr ?_
        refine or_iconst C (v := (0 : Int32)) dL_law_931 (by decide) ?_
        exact ol_ret C E ⟨by omega, by omega⟩ dL_law_932
    refine or_case C (v := (23 : Int32)) 23 933 dL_law_32 (by decide) (by decide) rfl (by decide) ?_ (fun n23 => ?_)
    · refine or_aload_n C 1 rfl dL_law_933 ?_
      refine or_aload_n C 0 rfl dL_law_934 ?_
      refine or_iload_n C 3 rfl dL_law_935 ?_
      refine or_iconst C (v := (1 : Int32)) dL_law_936 (by decide) ?_
      refine or_iadd C dL_law_937 ?_
      refine ol_ld C E dL_law_938 (fun x292 => ?_)
      refine oj_rc (fun o293 e295 q294 => ?_)
      refine oj_bind (fun p296 z297 => ?_)
      refine oj_v (P := oh_V G (65 + (513 - (n + 1))) (22243 + 12 * (513 - (n + 1))) p296.2 942 [(0, xr (some o)), (1, xr v1), (2, xr v2), (3, xi v3)] [xi p296.1]) (fun k => or_callV C 1 hl (m_X7_wait _ h o293 x292 p296 z297) gL_law_X7_wait rfl rfl rfl (by decide +kernel) ⟨Nat.le_of_ble_eq_true rfl, Nat.le_of_ble_eq_true rfl⟩ q294 rfl (by decide) (Nat.le_of_ble_eq_true rfl) dL_law_939 ⟨by show _ ≤ 600000; omega, by show _ ≤ 7302250; omega⟩ rfl (by rw [e295]; rfl) k) ?_
      refine or_aload_n C 2 rfl dL_law_942 ?_
      refine or_aload_n C 0 rfl dL_law_943 ?_
      refine or_iload_n C 3 rfl dL_law_944 ?_
      refine or_iconst C (v := (1 : Int32)) dL_law_945 (by decide) ?_
      refine or_iadd C dL_law_946 ?_
      refine ol_ld C E dL_law_947 (fun x298 => ?_)
      refine oj_rc (fun o299 e301 q300 => ?_)
      refine oj_bind (fun p302 z303 => ?_)
      refine oj_v (P := oh_V G (65 + (513 - (n + 1))) (22243 + 12 * (513 - (n + 1))) p302.2 951 [(0, xr (some o)), (1, xr v1), (2, xr v2), (3, xi v3)] [xi p302.1, xi p296.1]) (fun k => or_callV C 1 hl (m_X8_wait _ p296.2 o299 x298 p302 z303) gL_law_X8_wait rfl rfl rfl (by decide +kernel) ⟨Nat.le_of_ble_eq_true rfl, Nat.le_of_ble_eq_true rfl⟩ q300 rfl (by decide) (Nat.le_of_ble_eq_true rfl) dL_law_948 ⟨by show _ ≤ 600000; omega, by show _ ≤ 7302250; omega⟩ rfl (by rw [e301]; rfl) k) ?_
      refine or_icmp_eq C 1127 dL_law_951 (by decide) ?_ ?_
      · refine or_sub [0, 1, 2, 3] rfl ?_
        refine oj_v (fun k => ol_widen (cells' := (65 + (513 - (n + 1)) + 1)) (slots' := (22243 + 12 * (513 - (n + 1)) + 12)) (by omega) (by omega) k) ?_
        exact w_L_law_1127 C hl E n hn p302.2 v1 v2 v3
      · refine oj_inr ?_
        refine or_iconst C (v := (0 : Int32)) dL_law_954 (by decide) ?_
        exact ol_ret C E ⟨by omega, by omega⟩ dL_law_955
    refine or_case C (v := (24 : Int32)) 24 956 dL_law_32 (by decide) (by decide) rfl (by decide) ?_ (fun n24 => ?_)
    · refine or_aload_n C 1 rfl dL_law_956 ?_
      refine or_aload_n C 0 rfl dL_law_957 ?_
      refine or_iload_n C 3 rfl dL_law_958 ?_
      refine or_iconst C (v := (1 : Int32)) dL_law_959 (by decide) ?_
      refine or_iadd C dL_law_960 ?_
      refine ol_ld C E dL_law_961 (fun x304 => ?_)
      refine oj_rc (fun o305 e307 q306 => ?_)
      refine oj_bind (fun p308 z309 => ?_)
      refine oj_v (P := oh_V G (65 + (513 - (n + 1))) (22243 + 12 * (513 - (n + 1))) p308.2 965 [(0, xr (some o)), (1, xr v1), (2, xr v2), (3, xi v3)] [xi p308.1]) (fun k => or_callV C 1 hl (m_X7_fresh _ h o305 x304 p308 z309) gL_law_X7_fresh rfl rfl rfl (by decide +kernel) ⟨Nat.le_of_ble_eq_true rfl, Nat.le_of_ble_eq_true rfl⟩ q306 rfl (by decide) (Nat.le_of_ble_eq_true rfl) dL_law_962 ⟨by show _ ≤ 600000; omega, by show _ ≤ 7302250; omega⟩ rfl (by rw [e307]; rfl) k) ?_
      refine or_aload_n C 2 rfl dL_law_965 ?_
      refine or_aload_n C 0 rfl dL_law_966 ?_
      refine or_iload_n C 3 rfl dL_law_967 ?_
      refine or_iconst C (v := (1 : Int32)) dL_law_968 (by decide) ?_
      refine or_iadd C dL_law_969 ?_
      refine ol_ld C E dL_law_970 (fun x310 => ?_)
      refine oj_rc (fun o311 e313 q312 => ?_)
      refine oj_bind (fun p314 z315 => ?_)
      refine oj_v (P := oh_V G (65 + (513 - (n + 1))) (22243 + 12 * (513 - (n + 1))) p314.2 974 [(0, xr (some o)), (1, xr v1), (2, xr v2), (3, xi v3)] [xi p314.1, xi p308.1]) (fun k => or_callV C 1 hl (m_X8_fresh _ p308.2 o311 x310 p314 z315) gL_law_X8_fresh rfl rfl rfl (by decide +kernel) ⟨Nat.le_of_ble_eq_true rfl, Nat.le_of_ble_eq_true rfl⟩ q312 rfl (by decide) (Nat.le_of_ble_eq_true rfl) dL_law_971 ⟨by show _ ≤ 600000; omega, by show _ ≤ 7302250; omega⟩ rfl (by rw [e313]; rfl) k) ?_
      refine or_icmp_eq C 1127 dL_law_974 (by decide) ?_ ?_
      · refine or_sub [0, 1, 2, 3] rfl ?_
        refine oj_v (fun k => ol_widen (cells' := (65 + (513 - (n + 1)) + 1)) (slots' := (22243 + 12 * (513 - (n + 1)) + 12)) (by omega) (by omega) k) ?_
        exact w_L_law_1127 C hl E n hn p314.2 v1 v2 v3
      · refine oj_inr ?_
        refine or_iconst C (v := (0 : Int32)) dL_law_977 (by decide) ?_
        exact ol_ret C E ⟨by omega, by omega⟩ dL_law_978
    refine or_case C (v := (25 : Int32)) 25 979 dL_law_32 (by decide) (by decide) rfl (by decide) ?_ (fun n25 => ?_)
    · refine or_aload_n C 1 rfl dL_law_979 ?_
      refine or_aload_n C 0 rfl dL_law_980 ?_
      refine or_iload_n C 3 rfl dL_law_981 ?_
      refine or_iconst C (v := (1 : Int32)) dL_law_982 (by decide) ?_
      refine or_iadd C dL_law_983 ?_
      refine ol_ld C E dL_law_984 (fun x316 => ?_)
      refine or_aload_n C 0 rfl dL_law_985 ?_
      refine or_iload_n C 3 rfl dL_law_986 ?_
      refine or_iconst C (v := (2 : Int32)) dL_law_987 (by decide) ?_
      refine or_iadd C dL_law_988 ?_
      refine ol_ld C E dL_law_989 (fun x317 => ?_)
      refine oj_rc (fun o318 e320 q319 => ?_)
      refine oj_bind (fun p321 z322 => ?_)
      refine oj_v (P := oh_V G (65 + (513 - (n + 1))) (22243 + 12 * (513 - (n + 1))) h 993 [(0, xr (some o)), (1, xr v1), (2, xr v2), (3, xi v3)] [xi p321]) (fun k => or_callV C 2 hl (m_X7_at _ h o318 x316 x317 p321 z322) gL_law_X7_at rfl rfl rfl (by decide +kernel) ⟨Nat.le_of_ble_eq_true rfl, Nat.le_of_ble_eq_true rfl⟩ q319 rfl (by decide) (Nat.le_of_ble_eq_true rfl) dL_law_990 ⟨by show _ ≤ 600000; omega, by show _ ≤ 7302250; omega⟩ rfl (by rw [e320]; rfl) k) ?_
      refine or_aload_n C 2 rfl dL_law_993 ?_
      refine or_aload_n C 0 rfl dL_law_994 ?_
      refine or_iload_n C 3 rfl dL_law_995 ?_
      refine or_iconst C (v := (1 : Int32)) dL_law_996 (by decide) ?_
      refine or_iadd C dL_law_997 ?_
      refine ol_ld C E dL_law_998 (fun x323 => ?_)
      refine or_aload_n C 0 rfl dL_law_999 ?_
      refine or_iload_n C 3 rfl dL_law_1000 ?_
      refine or_iconst C (v := (2 : Int32)) dL_law_1001 (by decide) ?_
      refine or_iadd C dL_law_1002 ?_
      refine ol_ld C E dL_law_1003 (fun x324 => ?_)
      refine oj_rc (fun o325 e327 q326 => ?_)
      refine oj_bind (fun p328 z329 => ?_)
      refine oj_v (P := oh_V G (65 + (513 - (n + 1))) (22243 + 12 * (513 - (n + 1))) h 1007 [(0, xr (some o)), (1, xr v1), (2, xr v2), (3, xi v3)] [xi p328, xi p321]) (fun k => or_callV C 2 hl (m_X8_at _ h o325 x323 x324 p328 z329) gL_law_X8_at rfl rfl rfl (by decide +kernel) ⟨Nat.le_of_ble_eq_true rfl, Nat.le_of_ble_eq_true rfl⟩ q326 rfl (by decide) (Nat.le_of_ble_eq_true rfl) dL_law_1004 ⟨by show _ ≤ 600000; omega, by show _ ≤ 7302250; omega⟩ rfl (by rw [e327]; rfl) k) ?_
      refine or_icmp_eq C 1127 dL_law_1007 (by decide) ?_ ?_
      · refine or_sub [0, 1, 2, 3] rfl ?_
        refine oj_v (fun k => ol_widen (cells' := (65 + (513 - (n + 1)) + 1)) (slots' := (22243 + 12 * (513 - (n + 1)) + 12)) (by omega) (by omega) k) ?_
        exact w_L_law_1127 C hl E n hn h v1 v2 v3
      · refine oj_inr ?_
        refine or_iconst C (v := (0 : Int32)) dL_law_1010 (by decide) ?_
        exact ol_ret C E ⟨by omega, by omega⟩ dL_law_1011
    refine or_case C (v := (26 : Int32)) 26 1012 dL_law_32 (by decide) (by decide) rfl (by decide) ?_ (fun n26 => ?_)
    · refine or_aload_n C 1 rfl dL_law_1012 ?_
      refine or_aload_n C 0 rfl dL_law_1013 ?_
      refine or_iload_n C 3 rfl dL_law_1014 ?_
      refine or_iconst C (v := (1 : Int32)) dL_law_1015 (by decide) ?_
      refine or_iadd C dL_law_1016 ?_
      refine ol_ld C E dL_law_1017 (fun x330 => ?_)
      refine or_aload_n C 0 rfl dL_law_1018 ?_
      refine or_iload_n C 3 rfl dL_law_1019 ?_
      refine or_iconst C (v := (2 : Int32)) dL_law_1020 (by decide) ?_
      refine or_iadd C dL_law_1021 ?_
      refine ol_ld C E dL_law_1022 (fun x331 => ?_)
      refine oj_rc (fun o332 e334 q333 => ?_)
      refine oj_bind (fun p335 z336 => ?_)
      refine oj_v (P := oh_V G (65 + (513 - (n + 1))) (22243 + 12 * (513 - (n + 1))) h 1026 [(0, xr (some o)), (1, xr v1), (2, xr v2), (3, xi v3)] [xi p335]) (fun k => or_callV C 2 hl (m_X7_held _ h o332 x330 x331 p335 z336) gL_law_X7_held rfl rfl rfl (by decide +kernel) ⟨Nat.le_of_ble_eq_true rfl, Nat.le_of_ble_eq_true rfl⟩ q333 rfl (by decide) (Nat.le_of_ble_eq_true rfl) dL_law_1023 ⟨by show _ ≤ 600000; omega, by show _ ≤ 7302250; omega⟩ rfl (by rw [e334]; rfl) k) ?_
      refine or_aload_n C 2 rfl dL_law_1026 ?_
      refine or_aload_n C 0 rfl dL_law_1027 ?_
      refine or_iload_n C 3 rfl dL_law_1028 ?_
      refine or_iconst C (v := (1 : Int32)) dL_law_1029 (by decide) ?_
      refine or_iadd C dL_law_1030 ?_
      refine ol_ld C E dL_law_1031 (fun x337 => ?_)
      refine or_aload_n C 0 rfl dL_law_1032 ?_
      refine or_iload_n C 3 rfl dL_law_1033 ?_
      refine or_iconst C (v := (2 : Int32)) dL_law_1034 (by decide) ?_
      refine or_iadd C dL_law_1035 ?_
      refine ol_ld C E dL_law_1036 (fun x338 => ?_)
      refine oj_rc (fun o339 e341 q340 => ?_)
      refine oj_bind (fun p342 z343 => ?_)
      refine oj_v (P := oh_V G (65 + (513 - (n + 1))) (22243 + 12 * (513 - (n + 1))) h 1040 [(0, xr (some o)), (1, xr v1), (2, xr v2), (3, xi v3)] [xi p342, xi p335]) (fun k => or_callV C 2 hl (m_X8_held _ h o339 x337 x338 p342 z343) gL_law_X8_held rfl rfl rfl (by decide +kernel) ⟨Nat.le_of_ble_eq_true rfl, Nat.le_of_ble_eq_true rfl⟩ q340 rfl (by decide) (Nat.le_of_ble_eq_true rfl) dL_law_1037 ⟨by show _ ≤ 600000; omega, by show _ ≤ 7302250; omega⟩ rfl (by rw [e341]; rfl) k) ?_
      refine or_icmp_eq C 1127 dL_law_1040 (by decide) ?_ ?_
      · refine or_sub [0, 1, 2, 3] rfl ?_
        refine oj_v (fun k => ol_widen (cells' := (65 + (513 - (n + 1)) + 1)) (slots' := (22243 + 12 * (513 - (n + 1)) + 12)) (by omega) (by omega) k) ?_
        exact w_L_law_1127 C hl E n hn h v1 v2 v3
      · refine oj_inr ?_
        refine or_iconst C (v := (0 : Int32)) dL_law_1043 (by decide) ?_
        exact ol_ret C E ⟨by omega, by omega⟩ dL_law_1044
    refine or_case C (v := (27 : Int32)) 27 1045 dL_law_32 (by decide) (by decide) rfl (by decide) ?_ (fun n27 => ?_)
    · refine or_aload_n C 1 rfl dL_law_1045 ?_
      refine or_aload_n C 0 rfl dL_law_1046 ?_
      refine or_iload_n C 3 rfl dL_law_1047 ?_
      refine or_iconst C (v := (1 : Int32)) dL_law_1048 (by decide) ?_
      refine or_iadd C dL_law_1049 ?_
      refine ol_ld C E dL_law_1050 (fun x344 => ?_)
      refine oj_rc (fun o345 e347 q346 => ?_)
      refine oj_bind (fun p348 z349 => ?_)
      refine oj_v (P := oh_V G (65 + (513 - (n + 1))) (22243 + 12 * (513 - (n + 1))) p348.2 1054 [(0, xr (some o)), (1, xr v1), (2, xr v2), (3, xi v3)] [xi p348.1]) (fun k => or_callV C 1 hl (m_X7_plan _ h o345 x344 p348 z349) gL_law_X7_plan rfl rfl rfl (by decide +kernel) ⟨Nat.le_of_ble_eq_true rfl, Nat.le_of_ble_eq_true rfl⟩ q346 rfl (by decide) (Nat.le_of_ble_eq_true rfl) dL_law_1051 ⟨by show _ ≤ 600000; omega, by show _ ≤ 7302250; omega⟩ rfl (by rw [e347]; rfl) k) ?_
      refine or_aload_n C 2 rfl dL_law_1054 ?_
      refine or_aload_n C 0 rfl dL_law_1055 ?_
      refine or_iload_n C 3 rfl dL_law_1056 ?_
      refine or_iconst C (v := (1 : Int32)) dL_law_1057 (by decide) ?_
      refine or_iadd C dL_law_1058 ?_
      refine ol_ld C E dL_law_1059 (fun x350 => ?_)
      refine oj_rc (fun o351 e353 q352 => ?_)
      refine oj_bind (fun p354 z355 => ?_)
      refine oj_v (P := oh_V G (65 + (513 - (n + 1))) (22243 + 12 * (513 - (n + 1))) p354.2 1063 [(0, xr (some o)), (1, xr v1), (2, xr v2), (3, xi v3)] [xi p354.1, xi p348.1]) (fun k => or_callV C 1 hl (m_X8_plan _ p348.2 o351 x350 p354 z355) gL_law_X8_plan rfl rfl rfl (by decide +kernel) ⟨Nat.le_of_ble_eq_true rfl, Nat.le_of_ble_eq_true rfl⟩ q352 rfl (by decide) (Nat.le_of_ble_eq_true rfl) dL_law_1060 ⟨by show _ ≤ 600000; omega, by show _ ≤ 7302250; omega⟩ rfl (by rw [e353]; rfl) k) ?_
      refine or_icmp_eq C 1127 dL_law_1063 (by decide) ?_ ?_
      · refine or_sub [0, 1, 2, 3] rfl ?_
        refine oj_v (fun k => ol_widen (cells' := (65 + (513 - (n + 1)) + 1)) (slots' := (22243 + 12 * (513 - (n + 1)) + 12)) (by omega) (by omega) k) ?_
        exact w_L_law_1127 C hl E n hn p354.2 v1 v2 v3
      · refine oj_inr ?_
        refine or_iconst C (v := (0 : Int32)) dL_law_1066 (by decide) ?_
        exact ol_ret C E ⟨by omega, by omega⟩ dL_law_1067
    refine or_case C (v := (28 : Int32)) 28 1068 dL_law_32 (by decide) (by decide) rfl (by decide) ?_ (fun n28 => ?_)
    · refine or_aload_n C 1 rfl dL_law_1068 ?_
      refine or_aload_n C 0 rfl dL_law_1069 ?_
      refine or_iload_n C 3 rfl dL_law_1070 ?_
      refine or_iconst C (v := (1 : Int32)) dL_law_1071 (by decide) ?_
      refine or_iadd C dL_law_1072 ?_
      refine ol_ld C E dL_law_1073 (fun x356 => ?_)
      refine oj_rc (fun o357 e359 q358 => ?_)
      refine oj_bind (fun p360 z361 => ?_)
      refine oj_v (P := oh_V G (65 + (513 - (n + 1))) (22243 + 12 * (513 - (n + 1))) h 1077 [(0, xr (some o)), (1, xr v1), (2, xr v2), (3, xi v3)] [xi p360]) (fun k => or_callV C 1 hl (m_X7_planned _ h o357 x356 p360 z361) gL_law_X7_planned rfl rfl rfl (by decide +kernel) ⟨Nat.le_of_ble_eq_true rfl, Nat.le_of_ble_eq_true rfl⟩ q358 rfl (by decide) (Nat.le_of_ble_eq_true rfl) dL_law_1074 ⟨by show _ ≤ 600000; omega, by show _ ≤ 7302250; omega⟩ rfl (by rw [e359]; rfl) k) ?_
      refine or_aload_n C 2 rfl dL_law_1077 ?_
      refine or_aload_n C 0 rfl dL_law_1078 ?_
      refine or_iload_n C 3 rfl dL_law_1079 ?_
      refine or_iconst C (v := (1 : Int32)) dL_law_1080 (by decide) ?_
      refine or_iadd C dL_law_1081 ?_
      refine ol_ld C E dL_law_1082 (fun x362 => ?_)
      refine oj_rc (fun o363 e365 q364 => ?_)
      refine oj_bind (fun p366 z367 => ?_)
      refine oj_v (P := oh_V G (65 + (513 - (n + 1))) (22243 + 12 * (513 - (n + 1))) h 1086 [(0, xr (some o)), (1, xr v1), (2, xr v2), (3, xi v3)] [xi p366, xi p360]) (fun k => or_callV C 1 hl (m_X8_planned _ h o363 x362 p366 z367) gL_law_X8_planned rfl rfl rfl (by decide +kernel) ⟨Nat.le_of_ble_eq_true rfl, Nat.le_of_ble_eq_true rfl⟩ q364 rfl (by decide) (Nat.le_of_ble_eq_true rfl) dL_law_1083 ⟨by show _ ≤ 600000; omega, by show _ ≤ 7302250; omega⟩ rfl (by rw [e365]; rfl) k) ?_
      refine or_icmp_eq C 1127 dL_law_1086 (by decide) ?_ ?_
      · refine or_sub [0, 1, 2, 3] rfl ?_
        refine oj_v (fun k => ol_widen (cells' := (65 + (513 - (n + 1)) + 1)) (slots' := (22243 + 12 * (513 - (n + 1)) + 12)) (by omega) (by omega) k) ?_
        exact w_L_law_1127 C hl E n hn h v1 v2 v3
      · refine oj_inr ?_
        refine or_iconst C (v := (0 : Int32)) dL_law_1089 (by decide) ?_
        exact ol_ret C E ⟨by omega, by omega⟩ dL_law_1090
    refine or_case C (v := (29 : Int32)) 29 1091 dL_law_32 (by decide) (by decide) rfl (by decide) ?_ (fun n29 => ?_)
    · refine or_aload_n C 1 rfl dL_law_1091 ?_
      refine oj_rc (fun o368 e370 q369 => ?_)
      refine oj_bind (fun p371 z372 => ?_)
      refine oj_v (P := oh_V G (65 + (513 - (n + 1))) (22243 + 12 * (513 - (n + 1))) h 1095 [(0, xr (some o)), (1, xr v1), (2, xr v2), (3, xi v3)] [xi p371]) (fun k => or_callV C 0 hl (m_X7_balance _ h o368 p371 z372) gL_law_X7_balance rfl rfl rfl (by decide +kernel) ⟨Nat.le_of_ble_eq_true rfl, Nat.le_of_ble_eq_true rfl⟩ q369 rfl (by decide) (Nat.le_of_ble_eq_true rfl) dL_law_1092 ⟨by show _ ≤ 600000; omega, by show _ ≤ 7302250; omega⟩ rfl (by rw [e370]; rfl) k) ?_
      refine or_aload_n C 2 rfl dL_law_1095 ?_
      refine oj_rc (fun o373 e375 q374 => ?_)
      refine oj_bind (fun p376 z377 => ?_)
      refine oj_v (P := oh_V G (65 + (513 - (n + 1))) (22243 + 12 * (513 - (n + 1))) h 1099 [(0, xr (some o)), (1, xr v1), (2, xr v2), (3, xi v3)] [xi p376, xi p371]) (fun k => or_callV C 0 hl (m_X8_balance _ h o373 p376 z377) gL_law_X8_balance rfl rfl rfl (by decide +kernel) ⟨Nat.le_of_ble_eq_true rfl, Nat.le_of_ble_eq_true rfl⟩ q374 rfl (by decide) (Nat.le_of_ble_eq_true rfl) dL_law_1096 ⟨by show _ ≤ 600000; omega, by show _ ≤ 7302250; omega⟩ rfl (by rw [e375]; rfl) k) ?_
      refine or_icmp_eq C 1127 dL_law_1099 (by decide) ?_ ?_
      · refine or_sub [0, 1, 2, 3] rfl ?_
        refine oj_v (fun k => ol_widen (cells' := (65 + (513 - (n + 1)) + 1)) (slots' := (22243 + 12 * (513 - (n + 1)) + 12)) (by omega) (by omega) k) ?_
        exact w_L_law_1127 C hl E n hn h v1 v2 v3
      · refine oj_inr ?_
        refine or_iconst C (v := (0 : Int32)) dL_law_1102 (by decide) ?_
        exact ol_ret C E ⟨by omega, by omega⟩ dL_law_1103
    refine or_case C (v := (30 : Int32)) 30 1104 dL_law_32 (by decide) (by decide) rfl (by decide) ?_ (fun n30 => ?_)
    · refine or_aload_n C 1 rfl dL_law_1104 ?_
      refine or_aload_n C 0 rfl dL_law_1105 ?_
      refine or_iload_n C 3 rfl dL_law_1106 ?_
      refine or_iconst C (v := (1 : Int32)) dL_law_1107 (by decide) ?_
      refine or_iadd C dL_law_1108 ?_
      refine ol_ld C E dL_law_1109 (fun x378 => ?_)
      refine oj_rc (fun o379 e381 q380 => ?_)
      refine oj_bind (fun p382 z383 => ?_)
      refine oj_v (P := oh_V G (65 + (513 - (n + 1))) (22243 + 12 * (513 - (n + 1))) h 1113 [(0, xr (some o)), (1, xr v1), (2, xr v2), (3, xi v3)] [xi p382]) (fun k => or_callV C 1 hl (m_X7_count _ h o379 x378 p382 z383) gL_law_X7_count rfl rfl rfl (by decide +kernel) ⟨Nat.le_of_ble_eq_true rfl, Nat.le_of_ble_eq_true rfl⟩ q380 rfl (by decide) (Nat.le_of_ble_eq_true rfl) dL_law_1110 ⟨by show _ ≤ 600000; omega, by show _ ≤ 7302250; omega⟩ rfl (by rw [e381]; rfl) k) ?_
      refine or_aload_n C 2 rfl dL_law_1113 ?_
      refine or_aload_n C 0 rfl dL_law_1114 ?_
      refine or_iload_n C 3 rfl dL_law_1115 ?_
      refine or_iconst C (v := (1 : Int32)) dL_law_1116 (by decide) ?_
      refine or_iadd C dL_law_1117 ?_
      refine ol_ld C E dL_law_1118 (fun x384 => ?_)
      refine oj_rc (fun o385 e387 q386 => ?_)
      refine oj_bind (fun p388 z389 => ?_)
      refine oj_v (P := oh_V G (65 + (513 - (n + 1))) (22243 + 12 * (513 - (n + 1))) h 1122 [(0, xr (some o)), (1, xr v1), (2, xr v2), (3, xi v3)] [xi p388, xi p382]) (fun k => or_callV C 1 hl (m_X8_count _ h o385 x384 p388 z389) gL_law_X8_count rfl rfl rfl (by decide +kernel) ⟨Nat.le_of_ble_eq_true rfl, Nat.le_of_ble_eq_true rfl⟩ q386 rfl (by decide) (Nat.le_of_ble_eq_true rfl) dL_law_1119 ⟨by show _ ≤ 600000; omega, by show _ ≤ 7302250; omega⟩ rfl (by rw [e387]; rfl) k) ?_
      refine or_icmp_eq C 1127 dL_law_1122 (by decide) ?_ ?_
      · refine or_sub [0, 1, 2, 3] rfl ?_
        refine oj_v (fun k => ol_widen (cells' := (65 + (513 - (n + 1)) + 1)) (slots' := (22243 + 12 * (513 - (n + 1)) + 12)) (by omega) (by omega) k) ?_
        exact w_L_law_1127 C hl E n hn h v1 v2 v3
      · refine oj_inr ?_
        refine or_iconst C (v := (0 : Int32)) dL_law_1125 (by decide) ?_
        exact ol_ret C E ⟨by omega, by omega⟩ dL_law_1126
    refine or_dflt C 1127 dL_law_32 (by omega) (by decide) ?_
    refine or_sub [0, 1, 2, 3] rfl ?_
    refine oj_v (fun k => ol_widen (cells' := (65 + (513 - (n + 1)) + 1)) (slots' := (22243 + 12 * (513 - (n + 1)) + 12)) (by omega) (by omega) k) ?_
    exact w_L_law_1127 C hl E n hn h v1 v2 v3
theorem w_L_law_18 {G : oh_G} {l : Launch} {xs : Nat → Int32} {L o : Nat} (C : oh_C G cL_law wsL_law RL room_1 4) (hl : G.1.2.1 = l) (E : ol_E G o L xs) (h : oh_H) (v1 : Option Nat) (v2 : Option Nat) (v3 : Int32) : oh_J (fun x : Int32 => x = 1) (f_L_law_18 xs L h o v1 v2 v3) (oh_V G 65 22243 h 18 [(0, xr (some o)), (1, xr v1), (2, xr v2), (3, xi v3)] []) := by
  unfold f_L_law_18
  exact oj_loopN (P := fun n => pv_L_law_18 G o v1 v2 n) (fun n s hn => wb_L_law_18 C hl E n hn s.1 v1 v2 s.2) 513 (Nat.le_refl _) (h, v3)
set_option maxHeartbeats 4000000 in
set_option maxRecDepth 100000 in
theorem w_L_law_0 {G : oh_G} {l : Launch} (C : oh_C G cL_law wsL_law RL room_1 4) (hl : G.1.2.1 = l) {xs : Nat → Int32} {L o : Nat} (E : ol_E G o L xs) (h : oh_H) : oh_J (fun x : Int32 => x = 1) (f_L_law xs L h o) (oh_V G 0 0 h 0 [(0, xr (some o))] []) := by
  unfold f_L_law
  refine or_new (cells := 0) (slots := 0) C 7 rfl rfl (by decide) u_L_law_7 tyX7 tyX7_ok k_L_law_cl7 k_L_law_in7 k_L_law_it7 df_X7 ⟨Nat.le_of_ble_eq_true rfl, Nat.le_of_ble_eq_true rfl⟩ dL_law_0 (fun a2 h1 => ?_)
  refine or_dup C rfl dL_law_3 ?_
  refine oj_bind (fun p3 z4 => ?_)
  refine oj_v (P := oh_V G 29 19566 p3 7 [(0, xr (some o))] [xr (some a2)]) (fun k => or_callI C 0 hl (m_X7_init _ h1 a2 p3 z4) gL_law_X7_init rfl rfl rfl k_L_law_it7 k_L_law_ml9 k_L_law_imX7_init rfl (by decide +kernel) ⟨Nat.le_of_ble_eq_true rfl, Nat.le_of_ble_eq_true rfl⟩ (Nat.le_of_ble_eq_true rfl) dL_law_4 ⟨Nat.le_of_ble_eq_true rfl, Nat.le_of_ble_eq_true rfl⟩ rfl rfl k) ?_
  refine or_astore_n C (fun x5 => [(1, xr x5), (0, xr (some o))]) (fun _ => rfl) (by decide) dL_law_7 (fun x5 => ?_)
  refine or_new (cells := 29) (slots := 19566) C 8 rfl rfl (by decide) u_L_law_8 tyX8 tyX8_ok k_L_law_cl10 k_L_law_in8 k_L_law_it8 df_X8 ⟨Nat.le_of_ble_eq_true rfl, Nat.le_of_ble_eq_true rfl⟩ dL_law_8 (fun a7 h6 => ?_)
  refine or_dup C rfl dL_law_11 ?_
  refine oj_bind (fun p8 z9 => ?_)
  refine oj_v (P := oh_V G 65 22243 p8 15 [(1, xr x5), (0, xr (some o))] [xr (some a7)]) (fun k => or_callI C 0 hl (m_X8_init _ h6 a7 p8 z9) gL_law_X8_init rfl rfl rfl k_L_law_it8 k_L_law_ml12 k_L_law_imX8_init rfl (by decide +kernel) ⟨Nat.le_of_ble_eq_true rfl, Nat.le_of_ble_eq_true rfl⟩ (Nat.le_of_ble_eq_true rfl) dL_law_12 ⟨Nat.le_of_ble_eq_true rfl, Nat.le_of_ble_eq_true rfl⟩ rfl rfl k) ?_
  refine or_astore_n C (fun x10 => [(2, xr x10), (1, xr x5), (0, xr (some o))]) (fun _ => rfl) (by decide) dL_law_15 (fun x10 => ?_)
  refine or_iconst C (v := (0 : Int32)) dL_law_16 (by decide) ?_
  refine or_istore_n C (fun x11 => [(3, xi x11), (2, xr x10), (1, xr x5), (0, xr (some o))]) (fun _ => rfl) (by decide) dL_law_17 (fun x11 => ?_)
  refine or_sub [3, 2, 1, 0] rfl ?_
  exact w_L_law_18 C hl E p8 x5 x10 x11
