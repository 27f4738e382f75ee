/-! the beginning -/
theorem u1_ne {α : Type} {f : Nat → α} {a b : Nat} {v : α} (q : b ≠ a) : oh_u1 f a v b = f b := if_neg q
theorem u1_at {α : Type} {f : Nat → α} {a : Nat} {v : α} : oh_u1 f a v a = v := if_pos rfl
section STEPS
variable {s s' : Nat} {K K' N N' : Nat → Nat} {FI FI' AI AI' : Nat → Nat → Int32} {FL FL' AL AL' : Nat → Nat → Int64} {FR FR' AR AR' : Nat → Nat → Option Nat} {α : Type} {r : Option α}
theorem st_newa {kd n : Nat} {P : Nat → oh_H → Option α} (s' : Nat) (eK : K' = oh_u1 K s kd) (eN : N' = oh_u1 N s n) (eA : AI' = oh_z1 AI s 0) (eB : AL' = oh_z1 AL s 0) (eC : AR' = oh_z1 AR s none) (es : s' = s + 1) (k : P s (s', K', FI, FL, FR, N', AI', AL', AR') = r) : oh_newa (s, K, FI, FL, FR, N, AI, AL, AR) kd n P = r := by
  subst eK; subst eN; subst eA; subst eB; subst eC; subst es
  exact k
theorem st_new {kd : Nat} {P : Nat → oh_H → Option α} (s' : Nat) (eK : K' = oh_u1 K s kd) (eA : FI' = oh_z2 FI s 0) (eB : FL' = oh_z2 FL s 0) (eC : FR' = oh_z2 FR s none) (es : s' = s + 1) (k : P s (s', K', FI', FL', FR', N, AI, AL, AR) = r) : oh_new (s, K, FI, FL, FR, N, AI, AL, AR) kd P = r := by
  subst eK; subst eA; subst eB; subst eC; subst es
  exact k
theorem st_pR {c o : Nat} {v : Option Nat} {P : oh_H → Option α} (e : FR' = oh_u2 FR c o v) {kd : Nat} (hK : K o = kd) (k : P (s, K, FI, FL, FR', N, AI, AL, AR) = r) (hc : kd = c / 64 + 1 := by rfl) : (oh_pR (s, K, FI, FL, FR, N, AI, AL, AR) (some o) c v).bind P = r := by
  subst e
  subst hc
  rw [e_pR (h := (s, K, FI, FL, FR, N, AI, AL, AR)) hK]
  exact k
theorem st_pI {c o : Nat} {v : Int32} {P : oh_H → Option α} (e : FI' = oh_u2 FI c o v) {kd : Nat} (hK : K o = kd) (k : P (s, K, FI', FL, FR, N, AI, AL, AR) = r) (hc : kd = c / 64 + 1 := by rfl) : (oh_pI (s, K, FI, FL, FR, N, AI, AL, AR) (some o) c v).bind P = r := by
  subst e
  subst hc
  rw [e_pI (h := (s, K, FI, FL, FR, N, AI, AL, AR)) hK]
  exact k
theorem st_bz {X : Option α} (k : X = r) : oh_bz 0 X = r := k
theorem st_lt {β : Type} {x : β} {P : β → Option α} (k : P x = r) : oh_lt x P = r := k
theorem st_if {c : Prop} {A : Decidable c} {X Y : Option α} (h : ¬ c) (k : Y = r) : (if c then X else Y) = r := by
  rw [if_neg h]
  exact k
theorem st_ifT {c : Prop} {A : Decidable c} {X Y : Option α} (h : c) (k : X = r) : (if c then X else Y) = r := by
  rw [if_pos h]
  exact k
theorem st_gR {c o kd : Nat} {y : Option Nat} {P : Option Nat → Option α} (k : K o = kd) (hy : FR c o = y) (q : P y = r) (hc : kd = c / 64 + 1 := by rfl) : (oh_gR (s, K, FI, FL, FR, N, AI, AL, AR) (some o) c).bind P = r := by
  subst hc
  subst hy
  rw [e_gR (h := (s, K, FI, FL, FR, N, AI, AL, AR)) k]
  exact q
theorem st_call {f : Option oh_H} {x : oh_H} {P : oh_H → Option α} (e : f = some x) (k : P x = r) : f.bind P = r := by
  rw [e]
  exact k
theorem st_tI {b j n : Nat} {i v : Int32} {P : oh_H → Option α} (e : AI' = oh_u2 AI b j v) (hK : K b = 20) (hN : N b = n) (hi : i = nI j) (hj : j < n ∧ n < 2 ^ 31) (k : P (s, K, FI, FL, FR, N, AI', AL, AR) = r) : (oh_tI (s, K, FI, FL, FR, N, AI, AL, AR) (some b) 20 i v).bind P = r := by
  subst e
  subst hi
  rw [e_tI (h := (s, K, FI, FL, FR, N, AI, AL, AR)) hK hN hj.1 hj.2]
  exact k
theorem st_tR {t b j n kd ci : Nat} {i : Int32} {P : oh_H → Option α} (e : AR' = oh_u2 AR t j (some b)) (hK : K t = kd) (hN : N t = n) (hi : i = nI j) (hj : j < n ∧ n < 2 ^ 31) (hb : K b = ci + 1) (k : P (s, K, FI, FL, FR, N, AI, AL, AR') = r) : (oh_tR (s, K, FI, FL, FR, N, AI, AL, AR) (some t) kd ci i (some b)).bind P = r := by
  subst e
  subst hi
  rw [e_tR (h := (s, K, FI, FL, FR, N, AI, AL, AR)) hK hN hj.1 hj.2 (fun c z => by rw [← Option.some.inj z]; exact hb)]
  exact k
end STEPS
set_option maxHeartbeats 8000000 in
set_option maxRecDepth 20000 in
theorem w_start (n : Nat) : ∃ h1 h2 : oh_H, f_X7_init (oh_nO (oh_0 n) 8) n = some h1 ∧ oh_sz h1 = n + 26 ∧ f_X8_init (oh_nO h1 9) (n + 26) = some h2 ∧ RR h2 n 0 0 0 0 := by
  obtain ⟨K0, eK0⟩ : ∃ K0 : Nat → Nat, K0 = fun _ => 0 := ⟨_, rfl⟩
  obtain ⟨F0, eF0⟩ : ∃ F0 : Nat → Nat → Int32, F0 = fun _ _ => 0 := ⟨_, rfl⟩
  obtain ⟨L0, eL0⟩ : ∃ L0 : Nat → Nat → Int64, L0 = fun _ _ => 0 := ⟨_, rfl⟩
  obtain ⟨R0, eR0⟩ : ∃ R0 : Nat → Nat → Option Nat, R0 = fun _ _ => none := ⟨_, rfl⟩
  obtain ⟨N0, eN0⟩ : ∃ N0 : Nat → Nat, N0 = fun _ => 0 := ⟨_, rfl⟩
  obtain ⟨A0, eA0⟩ : ∃ A0 : Nat → Nat → Int32, A0 = fun _ _ => 0 := ⟨_, rfl⟩
  obtain ⟨B0, eB0⟩ : ∃ B0 : Nat → Nat → Int64, B0 = fun _ _ => 0 := ⟨_, rfl⟩
  obtain ⟨C0, eC0⟩ : ∃ C0 : Nat → Nat → Option Nat, C0 = fun _ _ => none := ⟨_, rfl⟩
  obtain ⟨K1, eK1⟩ : ∃ K1, K1 = oh_u1 K0 n 8 := ⟨_, rfl⟩
  obtain ⟨F1, eF1⟩ : ∃ F1, F1 = oh_z2 F0 n 0 := ⟨_, rfl⟩
  obtain ⟨L1, eL1⟩ : ∃ L1, L1 = oh_z2 L0 n 0 := ⟨_, rfl⟩
  obtain ⟨R1, eR1⟩ : ∃ R1, R1 = oh_z2 R0 n none := ⟨_, rfl⟩
  have kK1_0 : K1 n = 8 := by rw [eK1]; exact u1_at
  obtain ⟨K2, eK2⟩ : ∃ K2, K2 = oh_u1 K1 (n + 1) 23 := ⟨_, rfl⟩
  have kK2_0 : K2 n = 8 := by rw [eK2, u1_ne (by omega)]; exact kK1_0
  obtain ⟨N1, eN1⟩ : ∃ N1, N1 = oh_u1 N0 (n + 1) 60 := ⟨_, rfl⟩
  obtain ⟨A1, eA1⟩ : ∃ A1, A1 = oh_z1 A0 (n + 1) 0 := ⟨_, rfl⟩
  obtain ⟨B1, eB1⟩ : ∃ B1, B1 = oh_z1 B0 (n + 1) 0 := ⟨_, rfl⟩
  obtain ⟨C1, eC1⟩ : ∃ C1, C1 = oh_z1 C0 (n + 1) none := ⟨_, rfl⟩
  obtain ⟨R2, eR2⟩ : ∃ R2, R2 = oh_u2 R1 448 n (some (n + 1)) := ⟨_, rfl⟩
  obtain ⟨K3, eK3⟩ : ∃ K3, K3 = oh_u1 K2 (n + 2) 24 := ⟨_, rfl⟩
  have kK3_0 : K3 n = 8 := by rw [eK3, u1_ne (by omega)]; exact kK2_0
  obtain ⟨N2, eN2⟩ : ∃ N2, N2 = oh_u1 N1 (n + 2) 200 := ⟨_, rfl⟩
  obtain ⟨A2, eA2⟩ : ∃ A2, A2 = oh_z1 A1 (n + 2) 0 := ⟨_, rfl⟩
  obtain ⟨B2, eB2⟩ : ∃ B2, B2 = oh_z1 B1 (n + 2) 0 := ⟨_, rfl⟩
  obtain ⟨C2, eC2⟩ : ∃ C2, C2 = oh_z1 C1 (n + 2) none := ⟨_, rfl⟩
  obtain ⟨R3, eR3⟩ : ∃ R3, R3 = oh_u2 R2 449 n (some (n + 2)) := ⟨_, rfl⟩
  obtain ⟨K4, eK4⟩ : ∃ K4, K4 = oh_u1 K3 (n + 3) 25 := ⟨_, rfl⟩
  have kK4_0 : K4 n = 8 := by rw [eK4, u1_ne (by omega)]; exact kK3_0
  obtain ⟨N3, eN3⟩ : ∃ N3, N3 = oh_u1 N2 (n + 3) 3 := ⟨_, rfl⟩
  obtain ⟨A3, eA3⟩ : ∃ A3, A3 = oh_z1 A2 (n + 3) 0 := ⟨_, rfl⟩
  obtain ⟨B3, eB3⟩ : ∃ B3, B3 = oh_z1 B2 (n + 3) 0 := ⟨_, rfl⟩
  obtain ⟨C3, eC3⟩ : ∃ C3, C3 = oh_z1 C2 (n + 3) none := ⟨_, rfl⟩
  obtain ⟨R4, eR4⟩ : ∃ R4, R4 = oh_u2 R3 450 n (some (n + 3)) := ⟨_, rfl⟩
  obtain ⟨K5, eK5⟩ : ∃ K5, K5 = oh_u1 K4 (n + 4) 26 := ⟨_, rfl⟩
  have kK5_0 : K5 n = 8 := by rw [eK5, u1_ne (by omega)]; exact kK4_0
  obtain ⟨N4, eN4⟩ : ∃ N4, N4 = oh_u1 N3 (n + 4) 12 := ⟨_, rfl⟩
  obtain ⟨A4, eA4⟩ : ∃ A4, A4 = oh_z1 A3 (n + 4) 0 := ⟨_, rfl⟩
  obtain ⟨B4, eB4⟩ : ∃ B4, B4 = oh_z1 B3 (n + 4) 0 := ⟨_, rfl⟩
  obtain ⟨C4, eC4⟩ : ∃ C4, C4 = oh_z1 C3 (n + 4) none := ⟨_, rfl⟩
  obtain ⟨R5, eR5⟩ : ∃ R5, R5 = oh_u2 R4 451 n (some (n + 4)) := ⟨_, rfl⟩
  obtain ⟨K6, eK6⟩ : ∃ K6, K6 = oh_u1 K5 (n + 5) 1 := ⟨_, rfl⟩
  have kK6_0 : K6 n = 8 := by rw [eK6, u1_ne (by omega)]; exact kK5_0
  obtain ⟨F2, eF2⟩ : ∃ F2, F2 = oh_z2 F1 (n + 5) 0 := ⟨_, rfl⟩
  obtain ⟨L2, eL2⟩ : ∃ L2, L2 = oh_z2 L1 (n + 5) 0 := ⟨_, rfl⟩
  obtain ⟨R6, eR6⟩ : ∃ R6, R6 = oh_z2 R5 (n + 5) none := ⟨_, rfl⟩
  have kK6_5 : K6 (n + 5) = 1 := by rw [eK6]; exact u1_at
  obtain ⟨K7, eK7⟩ : ∃ K7, K7 = oh_u1 K6 (n + 6) 20 := ⟨_, rfl⟩
  have kK7_0 : K7 n = 8 := by rw [eK7, u1_ne (by omega)]; exact kK6_0
  have kK7_5 : K7 (n + 5) = 1 := by rw [eK7, u1_ne (by omega)]; exact kK6_5
  obtain ⟨N5, eN5⟩ : ∃ N5, N5 = oh_u1 N4 (n + 6) 120 := ⟨_, rfl⟩
  obtain ⟨A5, eA5⟩ : ∃ A5, A5 = oh_z1 A4 (n + 6) 0 := ⟨_, rfl⟩
  obtain ⟨B5, eB5⟩ : ∃ B5, B5 = oh_z1 B4 (n + 6) 0 := ⟨_, rfl⟩
  obtain ⟨C5, eC5⟩ : ∃ C5, C5 = oh_z1 C4 (n + 6) none := ⟨_, rfl⟩
  obtain ⟨R7, eR7⟩ : ∃ R7, R7 = oh_u2 R6 0 (n + 5) (some (n + 6)) := ⟨_, rfl⟩
  obtain ⟨R8, eR8⟩ : ∃ R8, R8 = oh_u2 R7 452 n (some (n + 5)) := ⟨_, rfl⟩
  obtain ⟨K8, eK8⟩ : ∃ K8, K8 = oh_u1 K7 (n + 7) 6 := ⟨_, rfl⟩
  have kK8_0 : K8 n = 8 := by rw [eK8, u1_ne (by omega)]; exact kK7_0
  obtain ⟨F3, eF3⟩ : ∃ F3, F3 = oh_z2 F2 (n + 7) 0 := ⟨_, rfl⟩
  obtain ⟨L3, eL3⟩ : ∃ L3, L3 = oh_z2 L2 (n + 7) 0 := ⟨_, rfl⟩
  obtain ⟨R9, eR9⟩ : ∃ R9, R9 = oh_z2 R8 (n + 7) none := ⟨_, rfl⟩
  have kK8_7 : K8 (n + 7) = 6 := by rw [eK8]; exact u1_at
  obtain ⟨F4, eF4⟩ : ∃ F4, F4 = oh_u2 F3 320 (n + 7) (0 : Int32) := ⟨_, rfl⟩
  obtain ⟨F5, eF5⟩ : ∃ F5, F5 = oh_u2 F4 321 (n + 7) (0 : Int32) := ⟨_, rfl⟩
  obtain ⟨F6, eF6⟩ : ∃ F6, F6 = oh_u2 F5 322 (n + 7) (0 : Int32) := ⟨_, rfl⟩
  obtain ⟨F7, eF7⟩ : ∃ F7, F7 = oh_u2 F6 323 (n + 7) (0 : Int32) := ⟨_, rfl⟩
  obtain ⟨F8, eF8⟩ : ∃ F8, F8 = oh_u2 F7 324 (n + 7) (0 : Int32) := ⟨_, rfl⟩
  obtain ⟨R10, eR10⟩ : ∃ R10, R10 = oh_u2 R9 453 n (some (n + 7)) := ⟨_, rfl⟩
  obtain ⟨K9, eK9⟩ : ∃ K9, K9 = oh_u1 K8 (n + 8) 5 := ⟨_, rfl⟩
  have kK9_0 : K9 n = 8 := by rw [eK9, u1_ne (by omega)]; exact kK8_0
  obtain ⟨F9, eF9⟩ : ∃ F9, F9 = oh_z2 F8 (n + 8) 0 := ⟨_, rfl⟩
  obtain ⟨L4, eL4⟩ : ∃ L4, L4 = oh_z2 L3 (n + 8) 0 := ⟨_, rfl⟩
  obtain ⟨R11, eR11⟩ : ∃ R11, R11 = oh_z2 R10 (n + 8) none := ⟨_, rfl⟩
  have kK9_8 : K9 (n + 8) = 5 := by rw [eK9]; exact u1_at
  obtain ⟨K10, eK10⟩ : ∃ K10, K10 = oh_u1 K9 (n + 9) 20 := ⟨_, rfl⟩
  have kK10_0 : K10 n = 8 := by rw [eK10, u1_ne (by omega)]; exact kK9_0
  have kK10_8 : K10 (n + 8) = 5 := by rw [eK10, u1_ne (by omega)]; exact kK9_8
  obtain ⟨N6, eN6⟩ : ∃ N6, N6 = oh_u1 N5 (n + 9) 8 := ⟨_, rfl⟩
  obtain ⟨A6, eA6⟩ : ∃ A6, A6 = oh_z1 A5 (n + 9) 0 := ⟨_, rfl⟩
  obtain ⟨B6, eB6⟩ : ∃ B6, B6 = oh_z1 B5 (n + 9) 0 := ⟨_, rfl⟩
  obtain ⟨C6, eC6⟩ : ∃ C6, C6 = oh_z1 C5 (n + 9) none := ⟨_, rfl⟩
  obtain ⟨R12, eR12⟩ : ∃ R12, R12 = oh_u2 R11 256 (n + 8) (some (n + 9)) := ⟨_, rfl⟩
  obtain ⟨K11, eK11⟩ : ∃ K11, K11 = oh_u1 K10 (n + 10) 20 := ⟨_, rfl⟩
  have kK11_0 : K11 n = 8 := by rw [eK11, u1_ne (by omega)]; exact kK10_0
  have kK11_8 : K11 (n + 8) = 5 := by rw [eK11, u1_ne (by omega)]; exact kK10_8
  obtain ⟨N7, eN7⟩ : ∃ N7, N7 = oh_u1 N6 (n + 10) 8 := ⟨_, rfl⟩
  obtain ⟨A7, eA7⟩ : ∃ A7, A7 = oh_z1 A6 (n + 10) 0 := ⟨_, rfl⟩
  obtain ⟨B7, eB7⟩ : ∃ B7, B7 = oh_z1 B6 (n + 10) 0 := ⟨_, rfl⟩
  obtain ⟨C7, eC7⟩ : ∃ C7, C7 = oh_z1 C6 (n + 10) none := ⟨_, rfl⟩
  obtain ⟨R13, eR13⟩ : ∃ R13, R13 = oh_u2 R12 257 (n + 8) (some (n + 10)) := ⟨_, rfl⟩
  obtain ⟨K12, eK12⟩ : ∃ K12, K12 = oh_u1 K11 (n + 11) 20 := ⟨_, rfl⟩
  have kK12_0 : K12 n = 8 := by rw [eK12, u1_ne (by omega)]; exact kK11_0
  have kK12_8 : K12 (n + 8) = 5 := by rw [eK12, u1_ne (by omega)]; exact kK11_8
  obtain ⟨N8, eN8⟩ : ∃ N8, N8 = oh_u1 N7 (n + 11) 8 := ⟨_, rfl⟩
  obtain ⟨A8, eA8⟩ : ∃ A8, A8 = oh_z1 A7 (n + 11) 0 := ⟨_, rfl⟩
  obtain ⟨B8, eB8⟩ : ∃ B8, B8 = oh_z1 B7 (n + 11) 0 := ⟨_, rfl⟩
  obtain ⟨C8, eC8⟩ : ∃ C8, C8 = oh_z1 C7 (n + 11) none := ⟨_, rfl⟩
  obtain ⟨R14, eR14⟩ : ∃ R14, R14 = oh_u2 R13 258 (n + 8) (some (n + 11)) := ⟨_, rfl⟩
  obtain ⟨K13, eK13⟩ : ∃ K13, K13 = oh_u1 K12 (n + 12) 20 := ⟨_, rfl⟩
  have kK13_0 : K13 n = 8 := by rw [eK13, u1_ne (by omega)]; exact kK12_0
  have kK13_8 : K13 (n + 8) = 5 := by rw [eK13, u1_ne (by omega)]; exact kK12_8
  obtain ⟨N9, eN9⟩ : ∃ N9, N9 = oh_u1 N8 (n + 12) 8 := ⟨_, rfl⟩
  obtain ⟨A9, eA9⟩ : ∃ A9, A9 = oh_z1 A8 (n + 12) 0 := ⟨_, rfl⟩
  obtain ⟨B9, eB9⟩ : ∃ B9, B9 = oh_z1 B8 (n + 12) 0 := ⟨_, rfl⟩
  obtain ⟨C9, eC9⟩ : ∃ C9, C9 = oh_z1 C8 (n + 12) none := ⟨_, rfl⟩
  obtain ⟨R15, eR15⟩ : ∃ R15, R15 = oh_u2 R14 259 (n + 8) (some (n + 12)) := ⟨_, rfl⟩
  obtain ⟨K14, eK14⟩ : ∃ K14, K14 = oh_u1 K13 (n + 13) 20 := ⟨_, rfl⟩
  have kK14_0 : K14 n = 8 := by rw [eK14, u1_ne (by omega)]; exact kK13_0
  have kK14_8 : K14 (n + 8) = 5 := by rw [eK14, u1_ne (by omega)]; exact kK13_8
  obtain ⟨N10, eN10⟩ : ∃ N10, N10 = oh_u1 N9 (n + 13) 256 := ⟨_, rfl⟩
  obtain ⟨A10, eA10⟩ : ∃ A10, A10 = oh_z1 A9 (n + 13) 0 := ⟨_, rfl⟩
  obtain ⟨B10, eB10⟩ : ∃ B10, B10 = oh_z1 B9 (n + 13) 0 := ⟨_, rfl⟩
  obtain ⟨C10, eC10⟩ : ∃ C10, C10 = oh_z1 C9 (n + 13) none := ⟨_, rfl⟩
  obtain ⟨R16, eR16⟩ : ∃ R16, R16 = oh_u2 R15 260 (n + 8) (some (n + 13)) := ⟨_, rfl⟩
  obtain ⟨K15, eK15⟩ : ∃ K15, K15 = oh_u1 K14 (n + 14) 20 := ⟨_, rfl⟩
  have kK15_0 : K15 n = 8 := by rw [eK15, u1_ne (by omega)]; exact kK14_0
  have kK15_8 : K15 (n + 8) = 5 := by rw [eK15, u1_ne (by omega)]; exact kK14_8
  obtain ⟨N11, eN11⟩ : ∃ N11, N11 = oh_u1 N10 (n + 14) 256 := ⟨_, rfl⟩
  obtain ⟨A11, eA11⟩ : ∃ A11, A11 = oh_z1 A10 (n + 14) 0 := ⟨_, rfl⟩
  obtain ⟨B11, eB11⟩ : ∃ B11, B11 = oh_z1 B10 (n + 14) 0 := ⟨_, rfl⟩
  obtain ⟨C11, eC11⟩ : ∃ C11, C11 = oh_z1 C10 (n + 14) none := ⟨_, rfl⟩
  obtain ⟨R17, eR17⟩ : ∃ R17, R17 = oh_u2 R16 261 (n + 8) (some (n + 14)) := ⟨_, rfl⟩
  obtain ⟨K16, eK16⟩ : ∃ K16, K16 = oh_u1 K15 (n + 15) 20 := ⟨_, rfl⟩
  have kK16_0 : K16 n = 8 := by rw [eK16, u1_ne (by omega)]; exact kK15_0
  have kK16_8 : K16 (n + 8) = 5 := by rw [eK16, u1_ne (by omega)]; exact kK15_8
  obtain ⟨N12, eN12⟩ : ∃ N12, N12 = oh_u1 N11 (n + 15) 18432 := ⟨_, rfl⟩
  obtain ⟨A12, eA12⟩ : ∃ A12, A12 = oh_z1 A11 (n + 15) 0 := ⟨_, rfl⟩
  obtain ⟨B12, eB12⟩ : ∃ B12, B12 = oh_z1 B11 (n + 15) 0 := ⟨_, rfl⟩
  obtain ⟨C12, eC12⟩ : ∃ C12, C12 = oh_z1 C11 (n + 15) none := ⟨_, rfl⟩
  obtain ⟨R18, eR18⟩ : ∃ R18, R18 = oh_u2 R17 262 (n + 8) (some (n + 15)) := ⟨_, rfl⟩
  obtain ⟨F10, eF10⟩ : ∃ F10, F10 = oh_u2 F9 263 (n + 8) (0 : Int32) := ⟨_, rfl⟩
  obtain ⟨F11, eF11⟩ : ∃ F11, F11 = oh_u2 F10 264 (n + 8) (0 : Int32) := ⟨_, rfl⟩
  obtain ⟨F12, eF12⟩ : ∃ F12, F12 = oh_u2 F11 265 (n + 8) (-1 : Int32) := ⟨_, rfl⟩
  obtain ⟨K17, eK17⟩ : ∃ K17, K17 = oh_u1 K16 (n + 16) 20 := ⟨_, rfl⟩
  have kK17_0 : K17 n = 8 := by rw [eK17, u1_ne (by omega)]; exact kK16_0
  have kK17_8 : K17 (n + 8) = 5 := by rw [eK17, u1_ne (by omega)]; exact kK16_8
  obtain ⟨N13, eN13⟩ : ∃ N13, N13 = oh_u1 N12 (n + 16) 8 := ⟨_, rfl⟩
  obtain ⟨A13, eA13⟩ : ∃ A13, A13 = oh_z1 A12 (n + 16) 0 := ⟨_, rfl⟩
  obtain ⟨B13, eB13⟩ : ∃ B13, B13 = oh_z1 B12 (n + 16) 0 := ⟨_, rfl⟩
  obtain ⟨C13, eC13⟩ : ∃ C13, C13 = oh_z1 C12 (n + 16) none := ⟨_, rfl⟩
  obtain ⟨R19, eR19⟩ : ∃ R19, R19 = oh_u2 R18 266 (n + 8) (some (n + 16)) := ⟨_, rfl⟩
  obtain ⟨F13, eF13⟩ : ∃ F13, F13 = oh_u2 F12 267 (n + 8) (0 : Int32) := ⟨_, rfl⟩
  obtain ⟨F14, eF14⟩ : ∃ F14, F14 = oh_u2 F13 268 (n + 8) (0 : Int32) := ⟨_, rfl⟩
  obtain ⟨F15, eF15⟩ : ∃ F15, F15 = oh_u2 F14 269 (n + 8) (0 : Int32) := ⟨_, rfl⟩
  obtain ⟨F16, eF16⟩ : ∃ F16, F16 = oh_u2 F15 270 (n + 8) (0 : Int32) := ⟨_, rfl⟩
  obtain ⟨R20, eR20⟩ : ∃ R20, R20 = oh_u2 R19 454 n (some (n + 8)) := ⟨_, rfl⟩
  obtain ⟨F17, eF17⟩ : ∃ F17, F17 = oh_u2 F16 455 n (0 : Int32) := ⟨_, rfl⟩
  obtain ⟨F18, eF18⟩ : ∃ F18, F18 = oh_u2 F17 456 n (0 : Int32) := ⟨_, rfl⟩
  obtain ⟨F19, eF19⟩ : ∃ F19, F19 = oh_u2 F18 457 n (0 : Int32) := ⟨_, rfl⟩
  obtain ⟨F20, eF20⟩ : ∃ F20, F20 = oh_u2 F19 458 n (0 : Int32) := ⟨_, rfl⟩
  obtain ⟨F21, eF21⟩ : ∃ F21, F21 = oh_u2 F20 459 n (3 : Int32) := ⟨_, rfl⟩
  obtain ⟨F22, eF22⟩ : ∃ F22, F22 = oh_u2 F21 460 n (10 : Int32) := ⟨_, rfl⟩
  obtain ⟨F23, eF23⟩ : ∃ F23, F23 = oh_u2 F22 461 n (-1 : Int32) := ⟨_, rfl⟩
  have r450_0 : R20 450 n = some (n + 3) := by simp only [eR20, eR19, eR18, eR17, eR16, eR15, eR14, eR13, eR12, eR11, eR10, eR9, eR8, eR7, eR6, eR5, eR4, eR3, eR2, eR1, oh_u2, oh_z2, oh_u2, Nat.add_left_cancel_iff, Nat.reduceEqDiff, Nat.add_eq_left, Nat.left_eq_add, reduceCtorEq, false_and, true_and, and_true, and_false, if_false, if_true, Nat.left_eq_add]
  obtain ⟨K18, eK18⟩ : ∃ K18, K18 = oh_u1 K17 (n + 17) 4 := ⟨_, rfl⟩
  have kK18_0 : K18 n = 8 := by rw [eK18, u1_ne (by omega)]; exact kK17_0
  obtain ⟨F24, eF24⟩ : ∃ F24, F24 = oh_z2 F23 (n + 17) 0 := ⟨_, rfl⟩
  obtain ⟨L5, eL5⟩ : ∃ L5, L5 = oh_z2 L4 (n + 17) 0 := ⟨_, rfl⟩
  obtain ⟨R21, eR21⟩ : ∃ R21, R21 = oh_z2 R20 (n + 17) none := ⟨_, rfl⟩
  have kK18_17 : K18 (n + 17) = 4 := by rw [eK18]; exact u1_at
  obtain ⟨K19, eK19⟩ : ∃ K19, K19 = oh_u1 K18 (n + 18) 24 := ⟨_, rfl⟩
  have kK19_0 : K19 n = 8 := by rw [eK19, u1_ne (by omega)]; exact kK18_0
  have kK19_17 : K19 (n + 17) = 4 := by rw [eK19, u1_ne (by omega)]; exact kK18_17
  obtain ⟨N14, eN14⟩ : ∃ N14, N14 = oh_u1 N13 (n + 18) 12 := ⟨_, rfl⟩
  obtain ⟨A14, eA14⟩ : ∃ A14, A14 = oh_z1 A13 (n + 18) 0 := ⟨_, rfl⟩
  obtain ⟨B14, eB14⟩ : ∃ B14, B14 = oh_z1 B13 (n + 18) 0 := ⟨_, rfl⟩
  obtain ⟨C14, eC14⟩ : ∃ C14, C14 = oh_z1 C13 (n + 18) none := ⟨_, rfl⟩
  obtain ⟨R22, eR22⟩ : ∃ R22, R22 = oh_u2 R21 193 (n + 17) (some (n + 18)) := ⟨_, rfl⟩
  obtain ⟨K20, eK20⟩ : ∃ K20, K20 = oh_u1 K19 (n + 19) 21 := ⟨_, rfl⟩
  have kK20_0 : K20 n = 8 := by rw [eK20, u1_ne (by omega)]; exact kK19_0
  have kK20_17 : K20 (n + 17) = 4 := by rw [eK20, u1_ne (by omega)]; exact kK19_17
  obtain ⟨N15, eN15⟩ : ∃ N15, N15 = oh_u1 N14 (n + 19) 12 := ⟨_, rfl⟩
  obtain ⟨A15, eA15⟩ : ∃ A15, A15 = oh_z1 A14 (n + 19) 0 := ⟨_, rfl⟩
  obtain ⟨B15, eB15⟩ : ∃ B15, B15 = oh_z1 B14 (n + 19) 0 := ⟨_, rfl⟩
  obtain ⟨C15, eC15⟩ : ∃ C15, C15 = oh_z1 C14 (n + 19) none := ⟨_, rfl⟩
  obtain ⟨R23, eR23⟩ : ∃ R23, R23 = oh_u2 R22 194 (n + 17) (some (n + 19)) := ⟨_, rfl⟩
  obtain ⟨F25, eF25⟩ : ∃ F25, F25 = oh_u2 F24 195 (n + 17) (0 : Int32) := ⟨_, rfl⟩
  obtain ⟨F26, eF26⟩ : ∃ F26, F26 = oh_u2 F25 196 (n + 17) (1000 : Int32) := ⟨_, rfl⟩
  obtain ⟨F27, eF27⟩ : ∃ F27, F27 = oh_u2 F26 197 (n + 17) (500 : Int32) := ⟨_, rfl⟩
  obtain ⟨F28, eF28⟩ : ∃ F28, F28 = oh_u2 F27 198 (n + 17) (0 : Int32) := ⟨_, rfl⟩
  obtain ⟨F29, eF29⟩ : ∃ F29, F29 = oh_u2 F28 199 (n + 17) (0 : Int32) := ⟨_, rfl⟩
  obtain ⟨F30, eF30⟩ : ∃ F30, F30 = oh_u2 F29 200 (n + 17) (-1 : Int32) := ⟨_, rfl⟩
  obtain ⟨F31, eF31⟩ : ∃ F31, F31 = oh_u2 F30 201 (n + 17) (0 : Int32) := ⟨_, rfl⟩
  obtain ⟨F32, eF32⟩ : ∃ F32, F32 = oh_u2 F31 202 (n + 17) (0 : Int32) := ⟨_, rfl⟩
  obtain ⟨F33, eF33⟩ : ∃ F33, F33 = oh_u2 F32 203 (n + 17) (0 : Int32) := ⟨_, rfl⟩
  obtain ⟨F34, eF34⟩ : ∃ F34, F34 = oh_u2 F33 204 (n + 17) (-1 : Int32) := ⟨_, rfl⟩
  obtain ⟨F35, eF35⟩ : ∃ F35, F35 = oh_u2 F34 205 (n + 17) (-1 : Int32) := ⟨_, rfl⟩
  obtain ⟨F36, eF36⟩ : ∃ F36, F36 = oh_u2 F35 192 (n + 17) (nI 0) := ⟨_, rfl⟩
  obtain ⟨C16, eC16⟩ : ∃ C16, C16 = oh_u2 C15 (n + 3) 0 (some (n + 17)) := ⟨_, rfl⟩
  have k3_0 : K20 (n + 3) = 25 := by simp only [eK20, eK19, eK18, eK17, eK16, eK15, eK14, eK13, eK12, eK11, eK10, eK9, eK8, eK7, eK6, eK5, eK4, eK3, eK2, eK1, oh_u1, oh_u2, Nat.add_left_cancel_iff, Nat.reduceEqDiff, Nat.add_eq_left, Nat.left_eq_add, reduceCtorEq, false_and, true_and, and_true, and_false, if_false, if_true]
  have n3_0 : N15 (n + 3) = 3 := by simp only [eN15, eN14, eN13, eN12, eN11, eN10, eN9, eN8, eN7, eN6, eN5, eN4, eN3, eN2, eN1, oh_u1, oh_u2, Nat.add_left_cancel_iff, Nat.reduceEqDiff, Nat.add_eq_left, Nat.left_eq_add, reduceCtorEq, false_and, true_and, and_true, and_false, if_false, if_true]
  have r450_1 : R23 450 n = some (n + 3) := by simp only [eR23, eR22, eR21, eR20, eR19, eR18, eR17, eR16, eR15, eR14, eR13, eR12, eR11, eR10, eR9, eR8, eR7, eR6, eR5, eR4, eR3, eR2, eR1, oh_u2, oh_z2, oh_u2, Nat.add_left_cancel_iff, Nat.reduceEqDiff, Nat.add_eq_left, Nat.left_eq_add, reduceCtorEq, false_and, true_and, and_true, and_false, if_false, if_true, Nat.left_eq_add]
  obtain ⟨K21, eK21⟩ : ∃ K21, K21 = oh_u1 K20 (n + 20) 4 := ⟨_, rfl⟩
  have kK21_0 : K21 n = 8 := by rw [eK21, u1_ne (by omega)]; exact kK20_0
  obtain ⟨F37, eF37⟩ : ∃ F37, F37 = oh_z2 F36 (n + 20) 0 := ⟨_, rfl⟩
  obtain ⟨L6, eL6⟩ : ∃ L6, L6 = oh_z2 L5 (n + 20) 0 := ⟨_, rfl⟩
  obtain ⟨R24, eR24⟩ : ∃ R24, R24 = oh_z2 R23 (n + 20) none := ⟨_, rfl⟩
  have kK21_20 : K21 (n + 20) = 4 := by rw [eK21]; exact u1_at
  obtain ⟨K22, eK22⟩ : ∃ K22, K22 = oh_u1 K21 (n + 21) 24 := ⟨_, rfl⟩
  have kK22_0 : K22 n = 8 := by rw [eK22, u1_ne (by omega)]; exact kK21_0
  have kK22_20 : K22 (n + 20) = 4 := by rw [eK22, u1_ne (by omega)]; exact kK21_20
  obtain ⟨N16, eN16⟩ : ∃ N16, N16 = oh_u1 N15 (n + 21) 12 := ⟨_, rfl⟩
  obtain ⟨A16, eA16⟩ : ∃ A16, A16 = oh_z1 A15 (n + 21) 0 := ⟨_, rfl⟩
  obtain ⟨B16, eB16⟩ : ∃ B16, B16 = oh_z1 B15 (n + 21) 0 := ⟨_, rfl⟩
  obtain ⟨C17, eC17⟩ : ∃ C17, C17 = oh_z1 C16 (n + 21) none := ⟨_, rfl⟩
  obtain ⟨R25, eR25⟩ : ∃ R25, R25 = oh_u2 R24 193 (n + 20) (some (n + 21)) := ⟨_, rfl⟩
  obtain ⟨K23, eK23⟩ : ∃ K23, K23 = oh_u1 K22 (n + 22) 21 := ⟨_, rfl⟩
  have kK23_0 : K23 n = 8 := by rw [eK23, u1_ne (by omega)]; exact kK22_0
  have kK23_20 : K23 (n + 20) = 4 := by rw [eK23, u1_ne (by omega)]; exact kK22_20
  obtain ⟨N17, eN17⟩ : ∃ N17, N17 = oh_u1 N16 (n + 22) 12 := ⟨_, rfl⟩
  obtain ⟨A17, eA17⟩ : ∃ A17, A17 = oh_z1 A16 (n + 22) 0 := ⟨_, rfl⟩
  obtain ⟨B17, eB17⟩ : ∃ B17, B17 = oh_z1 B16 (n + 22) 0 := ⟨_, rfl⟩
  obtain ⟨C18, eC18⟩ : ∃ C18, C18 = oh_z1 C17 (n + 22) none := ⟨_, rfl⟩
  obtain ⟨R26, eR26⟩ : ∃ R26, R26 = oh_u2 R25 194 (n + 20) (some (n + 22)) := ⟨_, rfl⟩
  obtain ⟨F38, eF38⟩ : ∃ F38, F38 = oh_u2 F37 195 (n + 20) (0 : Int32) := ⟨_, rfl⟩
  obtain ⟨F39, eF39⟩ : ∃ F39, F39 = oh_u2 F38 196 (n + 20) (1000 : Int32) := ⟨_, rfl⟩
  obtain ⟨F40, eF40⟩ : ∃ F40, F40 = oh_u2 F39 197 (n + 20) (500 : Int32) := ⟨_, rfl⟩
  obtain ⟨F41, eF41⟩ : ∃ F41, F41 = oh_u2 F40 198 (n + 20) (0 : Int32) := ⟨_, rfl⟩
  obtain ⟨F42, eF42⟩ : ∃ F42, F42 = oh_u2 F41 199 (n + 20) (0 : Int32) := ⟨_, rfl⟩
  obtain ⟨F43, eF43⟩ : ∃ F43, F43 = oh_u2 F42 200 (n + 20) (-1 : Int32) := ⟨_, rfl⟩
  obtain ⟨F44, eF44⟩ : ∃ F44, F44 = oh_u2 F43 201 (n + 20) (0 : Int32) := ⟨_, rfl⟩
  obtain ⟨F45, eF45⟩ : ∃ F45, F45 = oh_u2 F44 202 (n + 20) (0 : Int32) := ⟨_, rfl⟩
  obtain ⟨F46, eF46⟩ : ∃ F46, F46 = oh_u2 F45 203 (n + 20) (0 : Int32) := ⟨_, rfl⟩
  obtain ⟨F47, eF47⟩ : ∃ F47, F47 = oh_u2 F46 204 (n + 20) (-1 : Int32) := ⟨_, rfl⟩
  obtain ⟨F48, eF48⟩ : ∃ F48, F48 = oh_u2 F47 205 (n + 20) (-1 : Int32) := ⟨_, rfl⟩
  obtain ⟨F49, eF49⟩ : ∃ F49, F49 = oh_u2 F48 192 (n + 20) (nI 1) := ⟨_, rfl⟩
  obtain ⟨C19, eC19⟩ : ∃ C19, C19 = oh_u2 C18 (n + 3) 1 (some (n + 20)) := ⟨_, rfl⟩
  have k3_1 : K23 (n + 3) = 25 := by simp only [eK23, eK22, eK21, eK20, eK19, eK18, eK17, eK16, eK15, eK14, eK13, eK12, eK11, eK10, eK9, eK8, eK7, eK6, eK5, eK4, eK3, eK2, eK1, oh_u1, oh_u2, Nat.add_left_cancel_iff, Nat.reduceEqDiff, Nat.add_eq_left, Nat.left_eq_add, reduceCtorEq, false_and, true_and, and_true, and_false, if_false, if_true]
  have n3_1 : N17 (n + 3) = 3 := by simp only [eN17, eN16, eN15, eN14, eN13, eN12, eN11, eN10, eN9, eN8, eN7, eN6, eN5, eN4, eN3, eN2, eN1, oh_u1, oh_u2, Nat.add_left_cancel_iff, Nat.reduceEqDiff, Nat.add_eq_left, Nat.left_eq_add, reduceCtorEq, false_and, true_and, and_true, and_false, if_false, if_true]
  have r450_2 : R26 450 n = some (n + 3) := by simp only [eR26, eR25, eR24, eR23, eR22, eR21, eR20, eR19, eR18, eR17, eR16, eR15, eR14, eR13, eR12, eR11, eR10, eR9, eR8, eR7, eR6, eR5, eR4, eR3, eR2, eR1, oh_u2, oh_z2, oh_u2, Nat.add_left_cancel_iff, Nat.reduceEqDiff, Nat.add_eq_left, Nat.left_eq_add, reduceCtorEq, false_and, true_and, and_true, and_false, if_false, if_true, Nat.left_eq_add]
  obtain ⟨K24, eK24⟩ : ∃ K24, K24 = oh_u1 K23 (n + 23) 4 := ⟨_, rfl⟩
  have kK24_0 : K24 n = 8 := by rw [eK24, u1_ne (by omega)]; exact kK23_0
  obtain ⟨F50, eF50⟩ : ∃ F50, F50 = oh_z2 F49 (n + 23) 0 := ⟨_, rfl⟩
  obtain ⟨L7, eL7⟩ : ∃ L7, L7 = oh_z2 L6 (n + 23) 0 := ⟨_, rfl⟩
  obtain ⟨R27, eR27⟩ : ∃ R27, R27 = oh_z2 R26 (n + 23) none := ⟨_, rfl⟩
  have kK24_23 : K24 (n + 23) = 4 := by rw [eK24]; exact u1_at
  obtain ⟨K25, eK25⟩ : ∃ K25, K25 = oh_u1 K24 (n + 24) 24 := ⟨_, rfl⟩
  have kK25_0 : K25 n = 8 := by rw [eK25, u1_ne (by omega)]; exact kK24_0
  have kK25_23 : K25 (n + 23) = 4 := by rw [eK25, u1_ne (by omega)]; exact kK24_23
  obtain ⟨N18, eN18⟩ : ∃ N18, N18 = oh_u1 N17 (n + 24) 12 := ⟨_, rfl⟩
  obtain ⟨A18, eA18⟩ : ∃ A18, A18 = oh_z1 A17 (n + 24) 0 := ⟨_, rfl⟩
  obtain ⟨B18, eB18⟩ : ∃ B18, B18 = oh_z1 B17 (n + 24) 0 := ⟨_, rfl⟩
  obtain ⟨C20, eC20⟩ : ∃ C20, C20 = oh_z1 C19 (n + 24) none := ⟨_, rfl⟩
  obtain ⟨R28, eR28⟩ : ∃ R28, R28 = oh_u2 R27 193 (n + 23) (some (n + 24)) := ⟨_, rfl⟩
  obtain ⟨K26, eK26⟩ : ∃ K26, K26 = oh_u1 K25 (n + 25) 21 := ⟨_, rfl⟩
  have kK26_0 : K26 n = 8 := by rw [eK26, u1_ne (by omega)]; exact kK25_0
  have kK26_23 : K26 (n + 23) = 4 := by rw [eK26, u1_ne (by omega)]; exact kK25_23
  obtain ⟨N19, eN19⟩ : ∃ N19, N19 = oh_u1 N18 (n + 25) 12 := ⟨_, rfl⟩
  obtain ⟨A19, eA19⟩ : ∃ A19, A19 = oh_z1 A18 (n + 25) 0 := ⟨_, rfl⟩
  obtain ⟨B19, eB19⟩ : ∃ B19, B19 = oh_z1 B18 (n + 25) 0 := ⟨_, rfl⟩
  obtain ⟨C21, eC21⟩ : ∃ C21, C21 = oh_z1 C20 (n + 25) none := ⟨_, rfl⟩
  obtain ⟨R29, eR29⟩ : ∃ R29, R29 = oh_u2 R28 194 (n + 23) (some (n + 25)) := ⟨_, rfl⟩
  obtain ⟨F51, eF51⟩ : ∃ F51, F51 = oh_u2 F50 195 (n + 23) (0 : Int32) := ⟨_, rfl⟩
  obtain ⟨F52, eF52⟩ : ∃ F52, F52 = oh_u2 F51 196 (n + 23) (1000 : Int32) := ⟨_, rfl⟩
  obtain ⟨F53, eF53⟩ : ∃ F53, F53 = oh_u2 F52 197 (n + 23) (500 : Int32) := ⟨_, rfl⟩
  obtain ⟨F54, eF54⟩ : ∃ F54, F54 = oh_u2 F53 198 (n + 23) (0 : Int32) := ⟨_, rfl⟩
  obtain ⟨F55, eF55⟩ : ∃ F55, F55 = oh_u2 F54 199 (n + 23) (0 : Int32) := ⟨_, rfl⟩
  obtain ⟨F56, eF56⟩ : ∃ F56, F56 = oh_u2 F55 200 (n + 23) (-1 : Int32) := ⟨_, rfl⟩
  obtain ⟨F57, eF57⟩ : ∃ F57, F57 = oh_u2 F56 201 (n + 23) (0 : Int32) := ⟨_, rfl⟩
  obtain ⟨F58, eF58⟩ : ∃ F58, F58 = oh_u2 F57 202 (n + 23) (0 : Int32) := ⟨_, rfl⟩
  obtain ⟨F59, eF59⟩ : ∃ F59, F59 = oh_u2 F58 203 (n + 23) (0 : Int32) := ⟨_, rfl⟩
  obtain ⟨F60, eF60⟩ : ∃ F60, F60 = oh_u2 F59 204 (n + 23) (-1 : Int32) := ⟨_, rfl⟩
  obtain ⟨F61, eF61⟩ : ∃ F61, F61 = oh_u2 F60 205 (n + 23) (-1 : Int32) := ⟨_, rfl⟩
  obtain ⟨F62, eF62⟩ : ∃ F62, F62 = oh_u2 F61 192 (n + 23) (nI 2) := ⟨_, rfl⟩
  obtain ⟨C22, eC22⟩ : ∃ C22, C22 = oh_u2 C21 (n + 3) 2 (some (n + 23)) := ⟨_, rfl⟩
  have k3_2 : K26 (n + 3) = 25 := by simp only [eK26, eK25, eK24, eK23, eK22, eK21, eK20, eK19, eK18, eK17, eK16, eK15, eK14, eK13, eK12, eK11, eK10, eK9, eK8, eK7, eK6, eK5, eK4, eK3, eK2, eK1, oh_u1, oh_u2, Nat.add_left_cancel_iff, Nat.reduceEqDiff, Nat.add_eq_left, Nat.left_eq_add, reduceCtorEq, false_and, true_and, and_true, and_false, if_false, if_true]
  have n3_2 : N19 (n + 3) = 3 := by simp only [eN19, eN18, eN17, eN16, eN15, eN14, eN13, eN12, eN11, eN10, eN9, eN8, eN7, eN6, eN5, eN4, eN3, eN2, eN1, oh_u1, oh_u2, Nat.add_left_cancel_iff, Nat.reduceEqDiff, Nat.add_eq_left, Nat.left_eq_add, reduceCtorEq, false_and, true_and, and_true, and_false, if_false, if_true]
  obtain ⟨K27, eK27⟩ : ∃ K27, K27 = oh_u1 K26 (n + 26) 9 := ⟨_, rfl⟩
  obtain ⟨F63, eF63⟩ : ∃ F63, F63 = oh_z2 F62 (n + 26) 0 := ⟨_, rfl⟩
  obtain ⟨L8, eL8⟩ : ∃ L8, L8 = oh_z2 L7 (n + 26) 0 := ⟨_, rfl⟩
  obtain ⟨R30, eR30⟩ : ∃ R30, R30 = oh_z2 R29 (n + 26) none := ⟨_, rfl⟩
  have kK27_26 : K27 (n + 26) = 9 := by rw [eK27]; exact u1_at
  obtain ⟨F64, eF64⟩ : ∃ F64, F64 = oh_u2 F63 513 (n + 26) (3 : Int32) := ⟨_, rfl⟩
  obtain ⟨F65, eF65⟩ : ∃ F65, F65 = oh_u2 F64 514 (n + 26) (10 : Int32) := ⟨_, rfl⟩
  obtain ⟨F66, eF66⟩ : ∃ F66, F66 = oh_u2 F65 515 (n + 26) (-1 : Int32) := ⟨_, rfl⟩
  obtain ⟨K28, eK28⟩ : ∃ K28, K28 = oh_u1 K27 (n + 27) 20 := ⟨_, rfl⟩
  have kK28_26 : K28 (n + 26) = 9 := by rw [eK28, u1_ne (by omega)]; exact kK27_26
  obtain ⟨N20, eN20⟩ : ∃ N20, N20 = oh_u1 N19 (n + 27) 60 := ⟨_, rfl⟩
  obtain ⟨A20, eA20⟩ : ∃ A20, A20 = oh_z1 A19 (n + 27) 0 := ⟨_, rfl⟩
  obtain ⟨B20, eB20⟩ : ∃ B20, B20 = oh_z1 B19 (n + 27) 0 := ⟨_, rfl⟩
  obtain ⟨C23, eC23⟩ : ∃ C23, C23 = oh_z1 C22 (n + 27) none := ⟨_, rfl⟩
  obtain ⟨R31, eR31⟩ : ∃ R31, R31 = oh_u2 R30 517 (n + 26) (some (n + 27)) := ⟨_, rfl⟩
  obtain ⟨K29, eK29⟩ : ∃ K29, K29 = oh_u1 K28 (n + 28) 20 := ⟨_, rfl⟩
  have kK29_26 : K29 (n + 26) = 9 := by rw [eK29, u1_ne (by omega)]; exact kK28_26
  obtain ⟨N21, eN21⟩ : ∃ N21, N21 = oh_u1 N20 (n + 28) 60 := ⟨_, rfl⟩
  obtain ⟨A21, eA21⟩ : ∃ A21, A21 = oh_z1 A20 (n + 28) 0 := ⟨_, rfl⟩
  obtain ⟨B21, eB21⟩ : ∃ B21, B21 = oh_z1 B20 (n + 28) 0 := ⟨_, rfl⟩
  obtain ⟨C24, eC24⟩ : ∃ C24, C24 = oh_z1 C23 (n + 28) none := ⟨_, rfl⟩
  obtain ⟨R32, eR32⟩ : ∃ R32, R32 = oh_u2 R31 518 (n + 26) (some (n + 28)) := ⟨_, rfl⟩
  obtain ⟨K30, eK30⟩ : ∃ K30, K30 = oh_u1 K29 (n + 29) 20 := ⟨_, rfl⟩
  have kK30_26 : K30 (n + 26) = 9 := by rw [eK30, u1_ne (by omega)]; exact kK29_26
  obtain ⟨N22, eN22⟩ : ∃ N22, N22 = oh_u1 N21 (n + 29) 200 := ⟨_, rfl⟩
  obtain ⟨A22, eA22⟩ : ∃ A22, A22 = oh_z1 A21 (n + 29) 0 := ⟨_, rfl⟩
  obtain ⟨B22, eB22⟩ : ∃ B22, B22 = oh_z1 B21 (n + 29) 0 := ⟨_, rfl⟩
  obtain ⟨C25, eC25⟩ : ∃ C25, C25 = oh_z1 C24 (n + 29) none := ⟨_, rfl⟩
  obtain ⟨R33, eR33⟩ : ∃ R33, R33 = oh_u2 R32 520 (n + 26) (some (n + 29)) := ⟨_, rfl⟩
  obtain ⟨K31, eK31⟩ : ∃ K31, K31 = oh_u1 K30 (n + 30) 20 := ⟨_, rfl⟩
  have kK31_26 : K31 (n + 26) = 9 := by rw [eK31, u1_ne (by omega)]; exact kK30_26
  obtain ⟨N23, eN23⟩ : ∃ N23, N23 = oh_u1 N22 (n + 30) 200 := ⟨_, rfl⟩
  obtain ⟨A23, eA23⟩ : ∃ A23, A23 = oh_z1 A22 (n + 30) 0 := ⟨_, rfl⟩
  obtain ⟨B23, eB23⟩ : ∃ B23, B23 = oh_z1 B22 (n + 30) 0 := ⟨_, rfl⟩
  obtain ⟨C26, eC26⟩ : ∃ C26, C26 = oh_z1 C25 (n + 30) none := ⟨_, rfl⟩
  obtain ⟨R34, eR34⟩ : ∃ R34, R34 = oh_u2 R33 521 (n + 26) (some (n + 30)) := ⟨_, rfl⟩
  obtain ⟨K32, eK32⟩ : ∃ K32, K32 = oh_u1 K31 (n + 31) 20 := ⟨_, rfl⟩
  have kK32_26 : K32 (n + 26) = 9 := by rw [eK32, u1_ne (by omega)]; exact kK31_26
  obtain ⟨N24, eN24⟩ : ∃ N24, N24 = oh_u1 N23 (n + 31) 200 := ⟨_, rfl⟩
  obtain ⟨A24, eA24⟩ : ∃ A24, A24 = oh_z1 A23 (n + 31) 0 := ⟨_, rfl⟩
  obtain ⟨B24, eB24⟩ : ∃ B24, B24 = oh_z1 B23 (n + 31) 0 := ⟨_, rfl⟩
  obtain ⟨C27, eC27⟩ : ∃ C27, C27 = oh_z1 C26 (n + 31) none := ⟨_, rfl⟩
  obtain ⟨R35, eR35⟩ : ∃ R35, R35 = oh_u2 R34 522 (n + 26) (some (n + 31)) := ⟨_, rfl⟩
  obtain ⟨K33, eK33⟩ : ∃ K33, K33 = oh_u1 K32 (n + 32) 20 := ⟨_, rfl⟩
  have kK33_26 : K33 (n + 26) = 9 := by rw [eK33, u1_ne (by omega)]; exact kK32_26
  obtain ⟨N25, eN25⟩ : ∃ N25, N25 = oh_u1 N24 (n + 32) 200 := ⟨_, rfl⟩
  obtain ⟨A25, eA25⟩ : ∃ A25, A25 = oh_z1 A24 (n + 32) 0 := ⟨_, rfl⟩
  obtain ⟨B25, eB25⟩ : ∃ B25, B25 = oh_z1 B24 (n + 32) 0 := ⟨_, rfl⟩
  obtain ⟨C28, eC28⟩ : ∃ C28, C28 = oh_z1 C27 (n + 32) none := ⟨_, rfl⟩
  obtain ⟨R36, eR36⟩ : ∃ R36, R36 = oh_u2 R35 523 (n + 26) (some (n + 32)) := ⟨_, rfl⟩
  obtain ⟨K34, eK34⟩ : ∃ K34, K34 = oh_u1 K33 (n + 33) 20 := ⟨_, rfl⟩
  have kK34_26 : K34 (n + 26) = 9 := by rw [eK34, u1_ne (by omega)]; exact kK33_26
  obtain ⟨N26, eN26⟩ : ∃ N26, N26 = oh_u1 N25 (n + 33) 200 := ⟨_, rfl⟩
  obtain ⟨A26, eA26⟩ : ∃ A26, A26 = oh_z1 A25 (n + 33) 0 := ⟨_, rfl⟩
  obtain ⟨B26, eB26⟩ : ∃ B26, B26 = oh_z1 B25 (n + 33) 0 := ⟨_, rfl⟩
  obtain ⟨C29, eC29⟩ : ∃ C29, C29 = oh_z1 C28 (n + 33) none := ⟨_, rfl⟩
  obtain ⟨R37, eR37⟩ : ∃ R37, R37 = oh_u2 R36 524 (n + 26) (some (n + 33)) := ⟨_, rfl⟩
  obtain ⟨K35, eK35⟩ : ∃ K35, K35 = oh_u1 K34 (n + 34) 20 := ⟨_, rfl⟩
  have kK35_26 : K35 (n + 26) = 9 := by rw [eK35, u1_ne (by omega)]; exact kK34_26
  obtain ⟨N27, eN27⟩ : ∃ N27, N27 = oh_u1 N26 (n + 34) 200 := ⟨_, rfl⟩
  obtain ⟨A27, eA27⟩ : ∃ A27, A27 = oh_z1 A26 (n + 34) 0 := ⟨_, rfl⟩
  obtain ⟨B27, eB27⟩ : ∃ B27, B27 = oh_z1 B26 (n + 34) 0 := ⟨_, rfl⟩
  obtain ⟨C30, eC30⟩ : ∃ C30, C30 = oh_z1 C29 (n + 34) none := ⟨_, rfl⟩
  obtain ⟨R38, eR38⟩ : ∃ R38, R38 = oh_u2 R37 525 (n + 26) (some (n + 34)) := ⟨_, rfl⟩
  obtain ⟨K36, eK36⟩ : ∃ K36, K36 = oh_u1 K35 (n + 35) 20 := ⟨_, rfl⟩
  have kK36_26 : K36 (n + 26) = 9 := by rw [eK36, u1_ne (by omega)]; exact kK35_26
  obtain ⟨N28, eN28⟩ : ∃ N28, N28 = oh_u1 N27 (n + 35) 200 := ⟨_, rfl⟩
  obtain ⟨A28, eA28⟩ : ∃ A28, A28 = oh_z1 A27 (n + 35) 0 := ⟨_, rfl⟩
  obtain ⟨B28, eB28⟩ : ∃ B28, B28 = oh_z1 B27 (n + 35) 0 := ⟨_, rfl⟩
  obtain ⟨C31, eC31⟩ : ∃ C31, C31 = oh_z1 C30 (n + 35) none := ⟨_, rfl⟩
  obtain ⟨R39, eR39⟩ : ∃ R39, R39 = oh_u2 R38 526 (n + 26) (some (n + 35)) := ⟨_, rfl⟩
  obtain ⟨K37, eK37⟩ : ∃ K37, K37 = oh_u1 K36 (n + 36) 20 := ⟨_, rfl⟩
  have kK37_26 : K37 (n + 26) = 9 := by rw [eK37, u1_ne (by omega)]; exact kK36_26
  obtain ⟨N29, eN29⟩ : ∃ N29, N29 = oh_u1 N28 (n + 36) 200 := ⟨_, rfl⟩
  obtain ⟨A29, eA29⟩ : ∃ A29, A29 = oh_z1 A28 (n + 36) 0 := ⟨_, rfl⟩
  obtain ⟨B29, eB29⟩ : ∃ B29, B29 = oh_z1 B28 (n + 36) 0 := ⟨_, rfl⟩
  obtain ⟨C32, eC32⟩ : ∃ C32, C32 = oh_z1 C31 (n + 36) none := ⟨_, rfl⟩
  obtain ⟨R40, eR40⟩ : ∃ R40, R40 = oh_u2 R39 527 (n + 26) (some (n + 36)) := ⟨_, rfl⟩
  obtain ⟨K38, eK38⟩ : ∃ K38, K38 = oh_u1 K37 (n + 37) 20 := ⟨_, rfl⟩
  have kK38_26 : K38 (n + 26) = 9 := by rw [eK38, u1_ne (by omega)]; exact kK37_26
  obtain ⟨N30, eN30⟩ : ∃ N30, N30 = oh_u1 N29 (n + 37) 200 := ⟨_, rfl⟩
  obtain ⟨A30, eA30⟩ : ∃ A30, A30 = oh_z1 A29 (n + 37) 0 := ⟨_, rfl⟩
  obtain ⟨B30, eB30⟩ : ∃ B30, B30 = oh_z1 B29 (n + 37) 0 := ⟨_, rfl⟩
  obtain ⟨C33, eC33⟩ : ∃ C33, C33 = oh_z1 C32 (n + 37) none := ⟨_, rfl⟩
  obtain ⟨R41, eR41⟩ : ∃ R41, R41 = oh_u2 R40 528 (n + 26) (some (n + 37)) := ⟨_, rfl⟩
  obtain ⟨K39, eK39⟩ : ∃ K39, K39 = oh_u1 K38 (n + 38) 20 := ⟨_, rfl⟩
  have kK39_26 : K39 (n + 26) = 9 := by rw [eK39, u1_ne (by omega)]; exact kK38_26
  obtain ⟨N31, eN31⟩ : ∃ N31, N31 = oh_u1 N30 (n + 38) 200 := ⟨_, rfl⟩
  obtain ⟨A31, eA31⟩ : ∃ A31, A31 = oh_z1 A30 (n + 38) 0 := ⟨_, rfl⟩
  obtain ⟨B31, eB31⟩ : ∃ B31, B31 = oh_z1 B30 (n + 38) 0 := ⟨_, rfl⟩
  obtain ⟨C34, eC34⟩ : ∃ C34, C34 = oh_z1 C33 (n + 38) none := ⟨_, rfl⟩
  obtain ⟨R42, eR42⟩ : ∃ R42, R42 = oh_u2 R41 529 (n + 26) (some (n + 38)) := ⟨_, rfl⟩
  obtain ⟨K40, eK40⟩ : ∃ K40, K40 = oh_u1 K39 (n + 39) 22 := ⟨_, rfl⟩
  have kK40_26 : K40 (n + 26) = 9 := by rw [eK40, u1_ne (by omega)]; exact kK39_26
  obtain ⟨N32, eN32⟩ : ∃ N32, N32 = oh_u1 N31 (n + 39) 200 := ⟨_, rfl⟩
  obtain ⟨A32, eA32⟩ : ∃ A32, A32 = oh_z1 A31 (n + 39) 0 := ⟨_, rfl⟩
  obtain ⟨B32, eB32⟩ : ∃ B32, B32 = oh_z1 B31 (n + 39) 0 := ⟨_, rfl⟩
  obtain ⟨C35, eC35⟩ : ∃ C35, C35 = oh_z1 C34 (n + 39) none := ⟨_, rfl⟩
  obtain ⟨R43, eR43⟩ : ∃ R43, R43 = oh_u2 R42 530 (n + 26) (some (n + 39)) := ⟨_, rfl⟩
  obtain ⟨K41, eK41⟩ : ∃ K41, K41 = oh_u1 K40 (n + 40) 20 := ⟨_, rfl⟩
  have kK41_26 : K41 (n + 26) = 9 := by rw [eK41, u1_ne (by omega)]; exact kK40_26
  obtain ⟨N33, eN33⟩ : ∃ N33, N33 = oh_u1 N32 (n + 40) 3 := ⟨_, rfl⟩
  obtain ⟨A33, eA33⟩ : ∃ A33, A33 = oh_z1 A32 (n + 40) 0 := ⟨_, rfl⟩
  obtain ⟨B33, eB33⟩ : ∃ B33, B33 = oh_z1 B32 (n + 40) 0 := ⟨_, rfl⟩
  obtain ⟨C36, eC36⟩ : ∃ C36, C36 = oh_z1 C35 (n + 40) none := ⟨_, rfl⟩
  obtain ⟨A34, eA34⟩ : ∃ A34, A34 = oh_u2 A33 (n + 40) 0 (1000) := ⟨_, rfl⟩
  have aA34 : K41 (n + 40) = 20 := by rw [eK41]; exact u1_at
  have bA34 : N33 (n + 40) = 3 := by rw [eN33]; exact u1_at
  obtain ⟨A35, eA35⟩ : ∃ A35, A35 = oh_u2 A34 (n + 40) 1 (1000) := ⟨_, rfl⟩
  have aA35 : K41 (n + 40) = 20 := by rw [eK41]; exact u1_at
  have bA35 : N33 (n + 40) = 3 := by rw [eN33]; exact u1_at
  obtain ⟨A36, eA36⟩ : ∃ A36, A36 = oh_u2 A35 (n + 40) 2 (1000) := ⟨_, rfl⟩
  have aA36 : K41 (n + 40) = 20 := by rw [eK41]; exact u1_at
  have bA36 : N33 (n + 40) = 3 := by rw [eN33]; exact u1_at
  obtain ⟨R44, eR44⟩ : ∃ R44, R44 = oh_u2 R43 531 (n + 26) (some (n + 40)) := ⟨_, rfl⟩
  obtain ⟨K42, eK42⟩ : ∃ K42, K42 = oh_u1 K41 (n + 41) 20 := ⟨_, rfl⟩
  have kK42_26 : K42 (n + 26) = 9 := by rw [eK42, u1_ne (by omega)]; exact kK41_26
  obtain ⟨N34, eN34⟩ : ∃ N34, N34 = oh_u1 N33 (n + 41) 3 := ⟨_, rfl⟩
  obtain ⟨A37, eA37⟩ : ∃ A37, A37 = oh_z1 A36 (n + 41) 0 := ⟨_, rfl⟩
  obtain ⟨B34, eB34⟩ : ∃ B34, B34 = oh_z1 B33 (n + 41) 0 := ⟨_, rfl⟩
  obtain ⟨C37, eC37⟩ : ∃ C37, C37 = oh_z1 C36 (n + 41) none := ⟨_, rfl⟩
  obtain ⟨A38, eA38⟩ : ∃ A38, A38 = oh_u2 A37 (n + 41) 0 (500) := ⟨_, rfl⟩
  have aA38 : K42 (n + 41) = 20 := by rw [eK42]; exact u1_at
  have bA38 : N34 (n + 41) = 3 := by rw [eN34]; exact u1_at
  obtain ⟨A39, eA39⟩ : ∃ A39, A39 = oh_u2 A38 (n + 41) 1 (500) := ⟨_, rfl⟩
  have aA39 : K42 (n + 41) = 20 := by rw [eK42]; exact u1_at
  have bA39 : N34 (n + 41) = 3 := by rw [eN34]; exact u1_at
  obtain ⟨A40, eA40⟩ : ∃ A40, A40 = oh_u2 A39 (n + 41) 2 (500) := ⟨_, rfl⟩
  have aA40 : K42 (n + 41) = 20 := by rw [eK42]; exact u1_at
  have bA40 : N34 (n + 41) = 3 := by rw [eN34]; exact u1_at
  obtain ⟨R45, eR45⟩ : ∃ R45, R45 = oh_u2 R44 532 (n + 26) (some (n + 41)) := ⟨_, rfl⟩
  obtain ⟨K43, eK43⟩ : ∃ K43, K43 = oh_u1 K42 (n + 42) 20 := ⟨_, rfl⟩
  have kK43_26 : K43 (n + 26) = 9 := by rw [eK43, u1_ne (by omega)]; exact kK42_26
  obtain ⟨N35, eN35⟩ : ∃ N35, N35 = oh_u1 N34 (n + 42) 3 := ⟨_, rfl⟩
  obtain ⟨A41, eA41⟩ : ∃ A41, A41 = oh_z1 A40 (n + 42) 0 := ⟨_, rfl⟩
  obtain ⟨B35, eB35⟩ : ∃ B35, B35 = oh_z1 B34 (n + 42) 0 := ⟨_, rfl⟩
  obtain ⟨C38, eC38⟩ : ∃ C38, C38 = oh_z1 C37 (n + 42) none := ⟨_, rfl⟩
  obtain ⟨R46, eR46⟩ : ∃ R46, R46 = oh_u2 R45 533 (n + 26) (some (n + 42)) := ⟨_, rfl⟩
  obtain ⟨K44, eK44⟩ : ∃ K44, K44 = oh_u1 K43 (n + 43) 20 := ⟨_, rfl⟩
  have kK44_26 : K44 (n + 26) = 9 := by rw [eK44, u1_ne (by omega)]; exact kK43_26
  obtain ⟨N36, eN36⟩ : ∃ N36, N36 = oh_u1 N35 (n + 43) 3 := ⟨_, rfl⟩
  obtain ⟨A42, eA42⟩ : ∃ A42, A42 = oh_z1 A41 (n + 43) 0 := ⟨_, rfl⟩
  obtain ⟨B36, eB36⟩ : ∃ B36, B36 = oh_z1 B35 (n + 43) 0 := ⟨_, rfl⟩
  obtain ⟨C39, eC39⟩ : ∃ C39, C39 = oh_z1 C38 (n + 43) none := ⟨_, rfl⟩
  obtain ⟨R47, eR47⟩ : ∃ R47, R47 = oh_u2 R46 534 (n + 26) (some (n + 43)) := ⟨_, rfl⟩
  obtain ⟨K45, eK45⟩ : ∃ K45, K45 = oh_u1 K44 (n + 44) 20 := ⟨_, rfl⟩
  have kK45_26 : K45 (n + 26) = 9 := by rw [eK45, u1_ne (by omega)]; exact kK44_26
  obtain ⟨N37, eN37⟩ : ∃ N37, N37 = oh_u1 N36 (n + 44) 36 := ⟨_, rfl⟩
  obtain ⟨A43, eA43⟩ : ∃ A43, A43 = oh_z1 A42 (n + 44) 0 := ⟨_, rfl⟩
  obtain ⟨B37, eB37⟩ : ∃ B37, B37 = oh_z1 B36 (n + 44) 0 := ⟨_, rfl⟩
  obtain ⟨C40, eC40⟩ : ∃ C40, C40 = oh_z1 C39 (n + 44) none := ⟨_, rfl⟩
  obtain ⟨R48, eR48⟩ : ∃ R48, R48 = oh_u2 R47 535 (n + 26) (some (n + 44)) := ⟨_, rfl⟩
  obtain ⟨K46, eK46⟩ : ∃ K46, K46 = oh_u1 K45 (n + 45) 22 := ⟨_, rfl⟩
  have kK46_26 : K46 (n + 26) = 9 := by rw [eK46, u1_ne (by omega)]; exact kK45_26
  obtain ⟨N38, eN38⟩ : ∃ N38, N38 = oh_u1 N37 (n + 45) 3 := ⟨_, rfl⟩
  obtain ⟨A44, eA44⟩ : ∃ A44, A44 = oh_z1 A43 (n + 45) 0 := ⟨_, rfl⟩
  obtain ⟨B38, eB38⟩ : ∃ B38, B38 = oh_z1 B37 (n + 45) 0 := ⟨_, rfl⟩
  obtain ⟨C41, eC41⟩ : ∃ C41, C41 = oh_z1 C40 (n + 45) none := ⟨_, rfl⟩
  obtain ⟨R49, eR49⟩ : ∃ R49, R49 = oh_u2 R48 536 (n + 26) (some (n + 45)) := ⟨_, rfl⟩
  obtain ⟨K47, eK47⟩ : ∃ K47, K47 = oh_u1 K46 (n + 46) 22 := ⟨_, rfl⟩
  have kK47_26 : K47 (n + 26) = 9 := by rw [eK47, u1_ne (by omega)]; exact kK46_26
  obtain ⟨N39, eN39⟩ : ∃ N39, N39 = oh_u1 N38 (n + 46) 3 := ⟨_, rfl⟩
  obtain ⟨A45, eA45⟩ : ∃ A45, A45 = oh_z1 A44 (n + 46) 0 := ⟨_, rfl⟩
  obtain ⟨B39, eB39⟩ : ∃ B39, B39 = oh_z1 B38 (n + 46) 0 := ⟨_, rfl⟩
  obtain ⟨C42, eC42⟩ : ∃ C42, C42 = oh_z1 C41 (n + 46) none := ⟨_, rfl⟩
  obtain ⟨R50, eR50⟩ : ∃ R50, R50 = oh_u2 R49 537 (n + 26) (some (n + 46)) := ⟨_, rfl⟩
  obtain ⟨K48, eK48⟩ : ∃ K48, K48 = oh_u1 K47 (n + 47) 20 := ⟨_, rfl⟩
  have kK48_26 : K48 (n + 26) = 9 := by rw [eK48, u1_ne (by omega)]; exact kK47_26
  obtain ⟨N40, eN40⟩ : ∃ N40, N40 = oh_u1 N39 (n + 47) 3 := ⟨_, rfl⟩
  obtain ⟨A46, eA46⟩ : ∃ A46, A46 = oh_z1 A45 (n + 47) 0 := ⟨_, rfl⟩
  obtain ⟨B40, eB40⟩ : ∃ B40, B40 = oh_z1 B39 (n + 47) 0 := ⟨_, rfl⟩
  obtain ⟨C43, eC43⟩ : ∃ C43, C43 = oh_z1 C42 (n + 47) none := ⟨_, rfl⟩
  obtain ⟨A47, eA47⟩ : ∃ A47, A47 = oh_u2 A46 (n + 47) 0 (-1) := ⟨_, rfl⟩
  have aA47 : K48 (n + 47) = 20 := by rw [eK48]; exact u1_at
  have bA47 : N40 (n + 47) = 3 := by rw [eN40]; exact u1_at
  obtain ⟨A48, eA48⟩ : ∃ A48, A48 = oh_u2 A47 (n + 47) 1 (-1) := ⟨_, rfl⟩
  have aA48 : K48 (n + 47) = 20 := by rw [eK48]; exact u1_at
  have bA48 : N40 (n + 47) = 3 := by rw [eN40]; exact u1_at
  obtain ⟨A49, eA49⟩ : ∃ A49, A49 = oh_u2 A48 (n + 47) 2 (-1) := ⟨_, rfl⟩
  have aA49 : K48 (n + 47) = 20 := by rw [eK48]; exact u1_at
  have bA49 : N40 (n + 47) = 3 := by rw [eN40]; exact u1_at
  obtain ⟨R51, eR51⟩ : ∃ R51, R51 = oh_u2 R50 538 (n + 26) (some (n + 47)) := ⟨_, rfl⟩
  obtain ⟨K49, eK49⟩ : ∃ K49, K49 = oh_u1 K48 (n + 48) 20 := ⟨_, rfl⟩
  have kK49_26 : K49 (n + 26) = 9 := by rw [eK49, u1_ne (by omega)]; exact kK48_26
  obtain ⟨N41, eN41⟩ : ∃ N41, N41 = oh_u1 N40 (n + 48) 3 := ⟨_, rfl⟩
  obtain ⟨A50, eA50⟩ : ∃ A50, A50 = oh_z1 A49 (n + 48) 0 := ⟨_, rfl⟩
  obtain ⟨B41, eB41⟩ : ∃ B41, B41 = oh_z1 B40 (n + 48) 0 := ⟨_, rfl⟩
  obtain ⟨C44, eC44⟩ : ∃ C44, C44 = oh_z1 C43 (n + 48) none := ⟨_, rfl⟩
  obtain ⟨A51, eA51⟩ : ∃ A51, A51 = oh_u2 A50 (n + 48) 0 (-1) := ⟨_, rfl⟩
  have aA51 : K49 (n + 48) = 20 := by rw [eK49]; exact u1_at
  have bA51 : N41 (n + 48) = 3 := by rw [eN41]; exact u1_at
  obtain ⟨A52, eA52⟩ : ∃ A52, A52 = oh_u2 A51 (n + 48) 1 (-1) := ⟨_, rfl⟩
  have aA52 : K49 (n + 48) = 20 := by rw [eK49]; exact u1_at
  have bA52 : N41 (n + 48) = 3 := by rw [eN41]; exact u1_at
  obtain ⟨A53, eA53⟩ : ∃ A53, A53 = oh_u2 A52 (n + 48) 2 (-1) := ⟨_, rfl⟩
  have aA53 : K49 (n + 48) = 20 := by rw [eK49]; exact u1_at
  have bA53 : N41 (n + 48) = 3 := by rw [eN41]; exact u1_at
  obtain ⟨R52, eR52⟩ : ∃ R52, R52 = oh_u2 R51 539 (n + 26) (some (n + 48)) := ⟨_, rfl⟩
  obtain ⟨K50, eK50⟩ : ∃ K50, K50 = oh_u1 K49 (n + 49) 20 := ⟨_, rfl⟩
  have kK50_26 : K50 (n + 26) = 9 := by rw [eK50, u1_ne (by omega)]; exact kK49_26
  obtain ⟨N42, eN42⟩ : ∃ N42, N42 = oh_u1 N41 (n + 49) 3 := ⟨_, rfl⟩
  obtain ⟨A54, eA54⟩ : ∃ A54, A54 = oh_z1 A53 (n + 49) 0 := ⟨_, rfl⟩
  obtain ⟨B42, eB42⟩ : ∃ B42, B42 = oh_z1 B41 (n + 49) 0 := ⟨_, rfl⟩
  obtain ⟨C45, eC45⟩ : ∃ C45, C45 = oh_z1 C44 (n + 49) none := ⟨_, rfl⟩
  obtain ⟨A55, eA55⟩ : ∃ A55, A55 = oh_u2 A54 (n + 49) 0 (-1) := ⟨_, rfl⟩
  have aA55 : K50 (n + 49) = 20 := by rw [eK50]; exact u1_at
  have bA55 : N42 (n + 49) = 3 := by rw [eN42]; exact u1_at
  obtain ⟨A56, eA56⟩ : ∃ A56, A56 = oh_u2 A55 (n + 49) 1 (-1) := ⟨_, rfl⟩
  have aA56 : K50 (n + 49) = 20 := by rw [eK50]; exact u1_at
  have bA56 : N42 (n + 49) = 3 := by rw [eN42]; exact u1_at
  obtain ⟨A57, eA57⟩ : ∃ A57, A57 = oh_u2 A56 (n + 49) 2 (-1) := ⟨_, rfl⟩
  have aA57 : K50 (n + 49) = 20 := by rw [eK50]; exact u1_at
  have bA57 : N42 (n + 49) = 3 := by rw [eN42]; exact u1_at
  obtain ⟨R53, eR53⟩ : ∃ R53, R53 = oh_u2 R52 540 (n + 26) (some (n + 49)) := ⟨_, rfl⟩
  obtain ⟨K51, eK51⟩ : ∃ K51, K51 = oh_u1 K50 (n + 50) 20 := ⟨_, rfl⟩
  have kK51_26 : K51 (n + 26) = 9 := by rw [eK51, u1_ne (by omega)]; exact kK50_26
  obtain ⟨N43, eN43⟩ : ∃ N43, N43 = oh_u1 N42 (n + 50) 12 := ⟨_, rfl⟩
  obtain ⟨A58, eA58⟩ : ∃ A58, A58 = oh_z1 A57 (n + 50) 0 := ⟨_, rfl⟩
  obtain ⟨B43, eB43⟩ : ∃ B43, B43 = oh_z1 B42 (n + 50) 0 := ⟨_, rfl⟩
  obtain ⟨C46, eC46⟩ : ∃ C46, C46 = oh_z1 C45 (n + 50) none := ⟨_, rfl⟩
  obtain ⟨R54, eR54⟩ : ∃ R54, R54 = oh_u2 R53 542 (n + 26) (some (n + 50)) := ⟨_, rfl⟩
  obtain ⟨K52, eK52⟩ : ∃ K52, K52 = oh_u1 K51 (n + 51) 22 := ⟨_, rfl⟩
  have kK52_26 : K52 (n + 26) = 9 := by rw [eK52, u1_ne (by omega)]; exact kK51_26
  obtain ⟨N44, eN44⟩ : ∃ N44, N44 = oh_u1 N43 (n + 51) 12 := ⟨_, rfl⟩
  obtain ⟨A59, eA59⟩ : ∃ A59, A59 = oh_z1 A58 (n + 51) 0 := ⟨_, rfl⟩
  obtain ⟨B44, eB44⟩ : ∃ B44, B44 = oh_z1 B43 (n + 51) 0 := ⟨_, rfl⟩
  obtain ⟨C47, eC47⟩ : ∃ C47, C47 = oh_z1 C46 (n + 51) none := ⟨_, rfl⟩
  obtain ⟨R55, eR55⟩ : ∃ R55, R55 = oh_u2 R54 543 (n + 26) (some (n + 51)) := ⟨_, rfl⟩
  obtain ⟨K53, eK53⟩ : ∃ K53, K53 = oh_u1 K52 (n + 52) 20 := ⟨_, rfl⟩
  have kK53_26 : K53 (n + 26) = 9 := by rw [eK53, u1_ne (by omega)]; exact kK52_26
  obtain ⟨N45, eN45⟩ : ∃ N45, N45 = oh_u1 N44 (n + 52) 12 := ⟨_, rfl⟩
  obtain ⟨A60, eA60⟩ : ∃ A60, A60 = oh_z1 A59 (n + 52) 0 := ⟨_, rfl⟩
  obtain ⟨B45, eB45⟩ : ∃ B45, B45 = oh_z1 B44 (n + 52) 0 := ⟨_, rfl⟩
  obtain ⟨C48, eC48⟩ : ∃ C48, C48 = oh_z1 C47 (n + 52) none := ⟨_, rfl⟩
  obtain ⟨R56, eR56⟩ : ∃ R56, R56 = oh_u2 R55 544 (n + 26) (some (n + 52)) := ⟨_, rfl⟩
  obtain ⟨K54, eK54⟩ : ∃ K54, K54 = oh_u1 K53 (n + 53) 20 := ⟨_, rfl⟩
  have kK54_26 : K54 (n + 26) = 9 := by rw [eK54, u1_ne (by omega)]; exact kK53_26
  obtain ⟨N46, eN46⟩ : ∃ N46, N46 = oh_u1 N45 (n + 53) 12 := ⟨_, rfl⟩
  obtain ⟨A61, eA61⟩ : ∃ A61, A61 = oh_z1 A60 (n + 53) 0 := ⟨_, rfl⟩
  obtain ⟨B46, eB46⟩ : ∃ B46, B46 = oh_z1 B45 (n + 53) 0 := ⟨_, rfl⟩
  obtain ⟨C49, eC49⟩ : ∃ C49, C49 = oh_z1 C48 (n + 53) none := ⟨_, rfl⟩
  obtain ⟨R57, eR57⟩ : ∃ R57, R57 = oh_u2 R56 545 (n + 26) (some (n + 53)) := ⟨_, rfl⟩
  obtain ⟨K55, eK55⟩ : ∃ K55, K55 = oh_u1 K54 (n + 54) 20 := ⟨_, rfl⟩
  have kK55_26 : K55 (n + 26) = 9 := by rw [eK55, u1_ne (by omega)]; exact kK54_26
  obtain ⟨N47, eN47⟩ : ∃ N47, N47 = oh_u1 N46 (n + 54) 12 := ⟨_, rfl⟩
  obtain ⟨A62, eA62⟩ : ∃ A62, A62 = oh_z1 A61 (n + 54) 0 := ⟨_, rfl⟩
  obtain ⟨B47, eB47⟩ : ∃ B47, B47 = oh_z1 B46 (n + 54) 0 := ⟨_, rfl⟩
  obtain ⟨C50, eC50⟩ : ∃ C50, C50 = oh_z1 C49 (n + 54) none := ⟨_, rfl⟩
  obtain ⟨R58, eR58⟩ : ∃ R58, R58 = oh_u2 R57 546 (n + 26) (some (n + 54)) := ⟨_, rfl⟩
  obtain ⟨K56, eK56⟩ : ∃ K56, K56 = oh_u1 K55 (n + 55) 22 := ⟨_, rfl⟩
  have kK56_26 : K56 (n + 26) = 9 := by rw [eK56, u1_ne (by omega)]; exact kK55_26
  obtain ⟨N48, eN48⟩ : ∃ N48, N48 = oh_u1 N47 (n + 55) 12 := ⟨_, rfl⟩
  obtain ⟨A63, eA63⟩ : ∃ A63, A63 = oh_z1 A62 (n + 55) 0 := ⟨_, rfl⟩
  obtain ⟨B48, eB48⟩ : ∃ B48, B48 = oh_z1 B47 (n + 55) 0 := ⟨_, rfl⟩
  obtain ⟨C51, eC51⟩ : ∃ C51, C51 = oh_z1 C50 (n + 55) none := ⟨_, rfl⟩
  obtain ⟨R59, eR59⟩ : ∃ R59, R59 = oh_u2 R58 547 (n + 26) (some (n + 55)) := ⟨_, rfl⟩
  obtain ⟨K57, eK57⟩ : ∃ K57, K57 = oh_u1 K56 (n + 56) 21 := ⟨_, rfl⟩
  have kK57_26 : K57 (n + 26) = 9 := by rw [eK57, u1_ne (by omega)]; exact kK56_26
  obtain ⟨N49, eN49⟩ : ∃ N49, N49 = oh_u1 N48 (n + 56) 12 := ⟨_, rfl⟩
  obtain ⟨A64, eA64⟩ : ∃ A64, A64 = oh_z1 A63 (n + 56) 0 := ⟨_, rfl⟩
  obtain ⟨B49, eB49⟩ : ∃ B49, B49 = oh_z1 B48 (n + 56) 0 := ⟨_, rfl⟩
  obtain ⟨C52, eC52⟩ : ∃ C52, C52 = oh_z1 C51 (n + 56) none := ⟨_, rfl⟩
  obtain ⟨R60, eR60⟩ : ∃ R60, R60 = oh_u2 R59 548 (n + 26) (some (n + 56)) := ⟨_, rfl⟩
  obtain ⟨K58, eK58⟩ : ∃ K58, K58 = oh_u1 K57 (n + 57) 21 := ⟨_, rfl⟩
  have kK58_26 : K58 (n + 26) = 9 := by rw [eK58, u1_ne (by omega)]; exact kK57_26
  obtain ⟨N50, eN50⟩ : ∃ N50, N50 = oh_u1 N49 (n + 57) 12 := ⟨_, rfl⟩
  obtain ⟨A65, eA65⟩ : ∃ A65, A65 = oh_z1 A64 (n + 57) 0 := ⟨_, rfl⟩
  obtain ⟨B50, eB50⟩ : ∃ B50, B50 = oh_z1 B49 (n + 57) 0 := ⟨_, rfl⟩
  obtain ⟨C53, eC53⟩ : ∃ C53, C53 = oh_z1 C52 (n + 57) none := ⟨_, rfl⟩
  obtain ⟨R61, eR61⟩ : ∃ R61, R61 = oh_u2 R60 549 (n + 26) (some (n + 57)) := ⟨_, rfl⟩
  obtain ⟨K59, eK59⟩ : ∃ K59, K59 = oh_u1 K58 (n + 58) 20 := ⟨_, rfl⟩
  have kK59_26 : K59 (n + 26) = 9 := by rw [eK59, u1_ne (by omega)]; exact kK58_26
  obtain ⟨N51, eN51⟩ : ∃ N51, N51 = oh_u1 N50 (n + 58) 120 := ⟨_, rfl⟩
  obtain ⟨A66, eA66⟩ : ∃ A66, A66 = oh_z1 A65 (n + 58) 0 := ⟨_, rfl⟩
  obtain ⟨B51, eB51⟩ : ∃ B51, B51 = oh_z1 B50 (n + 58) 0 := ⟨_, rfl⟩
  obtain ⟨C54, eC54⟩ : ∃ C54, C54 = oh_z1 C53 (n + 58) none := ⟨_, rfl⟩
  obtain ⟨R62, eR62⟩ : ∃ R62, R62 = oh_u2 R61 550 (n + 26) (some (n + 58)) := ⟨_, rfl⟩
  obtain ⟨K60, eK60⟩ : ∃ K60, K60 = oh_u1 K59 (n + 59) 20 := ⟨_, rfl⟩
  have kK60_26 : K60 (n + 26) = 9 := by rw [eK60, u1_ne (by omega)]; exact kK59_26
  obtain ⟨N52, eN52⟩ : ∃ N52, N52 = oh_u1 N51 (n + 59) 8 := ⟨_, rfl⟩
  obtain ⟨A67, eA67⟩ : ∃ A67, A67 = oh_z1 A66 (n + 59) 0 := ⟨_, rfl⟩
  obtain ⟨B52, eB52⟩ : ∃ B52, B52 = oh_z1 B51 (n + 59) 0 := ⟨_, rfl⟩
  obtain ⟨C55, eC55⟩ : ∃ C55, C55 = oh_z1 C54 (n + 59) none := ⟨_, rfl⟩
  obtain ⟨R63, eR63⟩ : ∃ R63, R63 = oh_u2 R62 560 (n + 26) (some (n + 59)) := ⟨_, rfl⟩
  obtain ⟨K61, eK61⟩ : ∃ K61, K61 = oh_u1 K60 (n + 60) 20 := ⟨_, rfl⟩
  have kK61_26 : K61 (n + 26) = 9 := by rw [eK61, u1_ne (by omega)]; exact kK60_26
  obtain ⟨N53, eN53⟩ : ∃ N53, N53 = oh_u1 N52 (n + 60) 8 := ⟨_, rfl⟩
  obtain ⟨A68, eA68⟩ : ∃ A68, A68 = oh_z1 A67 (n + 60) 0 := ⟨_, rfl⟩
  obtain ⟨B53, eB53⟩ : ∃ B53, B53 = oh_z1 B52 (n + 60) 0 := ⟨_, rfl⟩
  obtain ⟨C56, eC56⟩ : ∃ C56, C56 = oh_z1 C55 (n + 60) none := ⟨_, rfl⟩
  obtain ⟨R64, eR64⟩ : ∃ R64, R64 = oh_u2 R63 562 (n + 26) (some (n + 60)) := ⟨_, rfl⟩
  obtain ⟨K62, eK62⟩ : ∃ K62, K62 = oh_u1 K61 (n + 61) 20 := ⟨_, rfl⟩
  have kK62_26 : K62 (n + 26) = 9 := by rw [eK62, u1_ne (by omega)]; exact kK61_26
  obtain ⟨N54, eN54⟩ : ∃ N54, N54 = oh_u1 N53 (n + 61) 8 := ⟨_, rfl⟩
  obtain ⟨A69, eA69⟩ : ∃ A69, A69 = oh_z1 A68 (n + 61) 0 := ⟨_, rfl⟩
  obtain ⟨B54, eB54⟩ : ∃ B54, B54 = oh_z1 B53 (n + 61) 0 := ⟨_, rfl⟩
  obtain ⟨C57, eC57⟩ : ∃ C57, C57 = oh_z1 C56 (n + 61) none := ⟨_, rfl⟩
  obtain ⟨R65, eR65⟩ : ∃ R65, R65 = oh_u2 R64 563 (n + 26) (some (n + 61)) := ⟨_, rfl⟩
  refine ⟨(n + 26, K26, F62, L7, R29, N19, A19, B19, C22), (n + 62, K62, F66, L8, R65, N54, A69, B54, C57), ?_, rfl, ?_, ?_⟩
  · have e0 : oh_nO (oh_0 n) 8 = (n + 1, K1, F1, L1, R1, N0, A0, B0, C0) := by
      rw [eK1, eF1, eL1, eR1, eK0, eF0, eL0, eR0, eN0, eA0, eB0, eC0]
      rfl
    rw [e0]
    unfold f_X7_init
    refine st_newa  (n + 2) eK2 eN1 eA1 eB1 eC1 rfl ?_
    refine st_pR eR2 kK2_0 ?_
    refine st_newa  (n + 3) eK3 eN2 eA2 eB2 eC2 rfl ?_
    refine st_pR eR3 kK3_0 ?_
    refine st_newa  (n + 4) eK4 eN3 eA3 eB3 eC3 rfl ?_
    refine st_pR eR4 kK4_0 ?_
    refine st_newa  (n + 5) eK5 eN4 eA4 eB4 eC4 rfl ?_
    refine st_pR eR5 kK5_0 ?_
    refine st_new (n + 6) eK6 eF2 eL2 eR6 rfl ?_
    refine st_call (x := (n + 7, K7, F2, L2, R7, N5, A5, B5, C5)) ?_ ?_
    · unfold f_X0_init
      refine st_newa  (n + 7) eK7 eN5 eA5 eB5 eC5 rfl ?_
      refine st_pR eR7 kK7_5 ?_
      exact rfl
    refine st_pR eR8 kK7_0 ?_
    refine st_new (n + 8) eK8 eF3 eL3 eR9 rfl ?_
    refine st_call (x := (n + 8, K8, F8, L3, R9, N5, A5, B5, C5)) ?_ ?_
    · unfold f_X5_init
      refine st_pI eF4 kK8_7 ?_
      refine st_pI eF5 kK8_7 ?_
      refine st_pI eF6 kK8_7 ?_
      refine st_pI eF7 kK8_7 ?_
      refine st_pI eF8 kK8_7 ?_
      exact rfl
    refine st_pR eR10 kK8_0 ?_
    refine st_new (n + 9) eK9 eF9 eL4 eR11 rfl ?_
    refine st_call (x := (n + 17, K17, F16, L4, R19, N13, A13, B13, C13)) ?_ ?_
    · unfold f_X4_init
      refine st_newa  (n + 10) eK10 eN6 eA6 eB6 eC6 rfl ?_
      refine st_pR eR12 kK10_8 ?_
      refine st_newa  (n + 11) eK11 eN7 eA7 eB7 eC7 rfl ?_
      refine st_pR eR13 kK11_8 ?_
      refine st_newa  (n + 12) eK12 eN8 eA8 eB8 eC8 rfl ?_
      refine st_pR eR14 kK12_8 ?_
      refine st_newa  (n + 13) eK13 eN9 eA9 eB9 eC9 rfl ?_
      refine st_pR eR15 kK13_8 ?_
      refine st_newa  (n + 14) eK14 eN10 eA10 eB10 eC10 rfl ?_
      refine st_pR eR16 kK14_8 ?_
      refine st_newa  (n + 15) eK15 eN11 eA11 eB11 eC11 rfl ?_
      refine st_pR eR17 kK15_8 ?_
      refine st_newa  (n + 16) eK16 eN12 eA12 eB12 eC12 rfl ?_
      refine st_pR eR18 kK16_8 ?_
      refine st_pI eF10 kK16_8 ?_
      refine st_bz ?_
      refine st_pI eF11 kK16_8 ?_
      refine st_pI eF12 kK16_8 ?_
      refine st_newa  (n + 17) eK17 eN13 eA13 eB13 eC13 rfl ?_
      refine st_pR eR19 kK17_8 ?_
      refine st_pI eF13 kK17_8 ?_
      refine st_pI eF14 kK17_8 ?_
      refine st_pI eF15 kK17_8 ?_
      refine st_bz ?_
      refine st_pI eF16 kK17_8 ?_
      exact rfl
    refine st_pR eR20 kK17_0 ?_
    refine st_pI eF17 kK17_0 ?_
    refine st_pI eF18 kK17_0 ?_
    refine st_pI eF19 kK17_0 ?_
    refine st_pI eF20 kK17_0 ?_
    refine st_pI eF21 kK17_0 ?_
    refine st_pI eF22 kK17_0 ?_
    refine st_pI eF23 kK17_0 ?_
    refine st_lt ?_
    refine st_if (by decide) ?_
    refine st_gR (k := kK17_0) (y := some (n + 3)) r450_0 ?_
    refine st_new (n + 18) eK18 eF24 eL5 eR21 rfl ?_
    refine st_call (x := (n + 20, K20, F36, L5, R23, N15, A15, B15, C15)) ?_ ?_
    · unfold f_X3_init
      refine st_newa  (n + 19) eK19 eN14 eA14 eB14 eC14 rfl ?_
      refine st_pR eR22 kK19_17 ?_
      refine st_newa  (n + 20) eK20 eN15 eA15 eB15 eC15 rfl ?_
      refine st_pR eR23 kK20_17 ?_
      refine st_pI eF25 kK20_17 ?_
      refine st_pI eF26 kK20_17 ?_
      refine st_pI eF27 kK20_17 ?_
      refine st_pI eF28 kK20_17 ?_
      refine st_bz ?_
      refine st_pI eF29 kK20_17 ?_
      refine st_pI eF30 kK20_17 ?_
      refine st_bz ?_
      refine st_pI eF31 kK20_17 ?_
      refine st_pI eF32 kK20_17 ?_
      refine st_pI eF33 kK20_17 ?_
      refine st_pI eF34 kK20_17 ?_
      refine st_pI eF35 kK20_17 ?_
      refine st_pI eF36 kK20_17 ?_
      exact rfl
    refine st_tR (j := 0) (b := (n + 17)) eC16 k3_0 n3_0 (by decide) (by decide) kK20_17 ?_
    refine st_lt ?_
    refine st_if (by decide) ?_
    refine st_gR (k := kK20_0) (y := some (n + 3)) r450_1 ?_
    refine st_new (n + 21) eK21 eF37 eL6 eR24 rfl ?_
    refine st_call (x := (n + 23, K23, F49, L6, R26, N17, A17, B17, C18)) ?_ ?_
    · unfold f_X3_init
      refine st_newa  (n + 22) eK22 eN16 eA16 eB16 eC17 rfl ?_
      refine st_pR eR25 kK22_20 ?_
      refine st_newa  (n + 23) eK23 eN17 eA17 eB17 eC18 rfl ?_
      refine st_pR eR26 kK23_20 ?_
      refine st_pI eF38 kK23_20 ?_
      refine st_pI eF39 kK23_20 ?_
      refine st_pI eF40 kK23_20 ?_
      refine st_pI eF41 kK23_20 ?_
      refine st_bz ?_
      refine st_pI eF42 kK23_20 ?_
      refine st_pI eF43 kK23_20 ?_
      refine st_bz ?_
      refine st_pI eF44 kK23_20 ?_
      refine st_pI eF45 kK23_20 ?_
      refine st_pI eF46 kK23_20 ?_
      refine st_pI eF47 kK23_20 ?_
      refine st_pI eF48 kK23_20 ?_
      refine st_pI eF49 kK23_20 ?_
      exact rfl
    refine st_tR (j := 1) (b := (n + 20)) eC19 k3_1 n3_1 (by decide) (by decide) kK23_20 ?_
    refine st_lt ?_
    refine st_if (by decide) ?_
    refine st_gR (k := kK23_0) (y := some (n + 3)) r450_2 ?_
    refine st_new (n + 24) eK24 eF50 eL7 eR27 rfl ?_
    refine st_call (x := (n + 26, K26, F62, L7, R29, N19, A19, B19, C21)) ?_ ?_
    · unfold f_X3_init
      refine st_newa  (n + 25) eK25 eN18 eA18 eB18 eC20 rfl ?_
      refine st_pR eR28 kK25_23 ?_
      refine st_newa  (n + 26) eK26 eN19 eA19 eB19 eC21 rfl ?_
      refine st_pR eR29 kK26_23 ?_
      refine st_pI eF51 kK26_23 ?_
      refine st_pI eF52 kK26_23 ?_
      refine st_pI eF53 kK26_23 ?_
      refine st_pI eF54 kK26_23 ?_
      refine st_bz ?_
      refine st_pI eF55 kK26_23 ?_
      refine st_pI eF56 kK26_23 ?_
      refine st_bz ?_
      refine st_pI eF57 kK26_23 ?_
      refine st_pI eF58 kK26_23 ?_
      refine st_pI eF59 kK26_23 ?_
      refine st_pI eF60 kK26_23 ?_
      refine st_pI eF61 kK26_23 ?_
      refine st_pI eF62 kK26_23 ?_
      exact rfl
    refine st_tR (j := 2) (b := (n + 23)) eC22 k3_2 n3_2 (by decide) (by decide) kK26_23 ?_
    refine st_lt ?_
    refine st_ifT (by decide) ?_
    exact rfl
  · have e0 : oh_nO (n + 26, K26, F62, L7, R29, N19, A19, B19, C22) 9 = (n + 27, K27, F63, L8, R30, N19, A19, B19, C22) := by
      rw [eK27, eF63, eL8, eR30]
      rfl
    rw [e0]
    unfold f_X8_init
    refine st_pI eF64 kK27_26 ?_
    refine st_pI eF65 kK27_26 ?_
    refine st_pI eF66 kK27_26 ?_
    refine st_newa  (n + 28) eK28 eN20 eA20 eB20 eC23 rfl ?_
    refine st_pR eR31 kK28_26 ?_
    refine st_newa  (n + 29) eK29 eN21 eA21 eB21 eC24 rfl ?_
    refine st_pR eR32 kK29_26 ?_
    refine st_newa  (n + 30) eK30 eN22 eA22 eB22 eC25 rfl ?_
    refine st_pR eR33 kK30_26 ?_
    refine st_newa  (n + 31) eK31 eN23 eA23 eB23 eC26 rfl ?_
    refine st_pR eR34 kK31_26 ?_
    refine st_newa  (n + 32) eK32 eN24 eA24 eB24 eC27 rfl ?_
    refine st_pR eR35 kK32_26 ?_
    refine st_newa  (n + 33) eK33 eN25 eA25 eB25 eC28 rfl ?_
    refine st_pR eR36 kK33_26 ?_
    refine st_newa  (n + 34) eK34 eN26 eA26 eB26 eC29 rfl ?_
    refine st_pR eR37 kK34_26 ?_
    refine st_newa  (n + 35) eK35 eN27 eA27 eB27 eC30 rfl ?_
    refine st_pR eR38 kK35_26 ?_
    refine st_newa  (n + 36) eK36 eN28 eA28 eB28 eC31 rfl ?_
    refine st_pR eR39 kK36_26 ?_
    refine st_newa  (n + 37) eK37 eN29 eA29 eB29 eC32 rfl ?_
    refine st_pR eR40 kK37_26 ?_
    refine st_newa  (n + 38) eK38 eN30 eA30 eB30 eC33 rfl ?_
    refine st_pR eR41 kK38_26 ?_
    refine st_newa  (n + 39) eK39 eN31 eA31 eB31 eC34 rfl ?_
    refine st_pR eR42 kK39_26 ?_
    refine st_newa  (n + 40) eK40 eN32 eA32 eB32 eC35 rfl ?_
    refine st_pR eR43 kK40_26 ?_
    refine st_newa  (n + 41) eK41 eN33 eA33 eB33 eC36 rfl ?_
    refine st_tI (j := 0) eA34 aA34 bA34 rfl (by decide) ?_
    refine st_tI (j := 1) eA35 aA35 bA35 rfl (by decide) ?_
    refine st_tI (j := 2) eA36 aA36 bA36 rfl (by decide) ?_
    refine st_pR eR44 kK41_26 ?_
    refine st_newa  (n + 42) eK42 eN34 eA37 eB34 eC37 rfl ?_
    refine st_tI (j := 0) eA38 aA38 bA38 rfl (by decide) ?_
    refine st_tI (j := 1) eA39 aA39 bA39 rfl (by decide) ?_
    refine st_tI (j := 2) eA40 aA40 bA40 rfl (by decide) ?_
    refine st_pR eR45 kK42_26 ?_
    refine st_newa  (n + 43) eK43 eN35 eA41 eB35 eC38 rfl ?_
    refine st_pR eR46 kK43_26 ?_
    refine st_newa  (n + 44) eK44 eN36 eA42 eB36 eC39 rfl ?_
    refine st_pR eR47 kK44_26 ?_
    refine st_newa  (n + 45) eK45 eN37 eA43 eB37 eC40 rfl ?_
    refine st_pR eR48 kK45_26 ?_
    refine st_newa  (n + 46) eK46 eN38 eA44 eB38 eC41 rfl ?_
    refine st_pR eR49 kK46_26 ?_
    refine st_newa  (n + 47) eK47 eN39 eA45 eB39 eC42 rfl ?_
    refine st_pR eR50 kK47_26 ?_
    refine st_newa  (n + 48) eK48 eN40 eA46 eB40 eC43 rfl ?_
    refine st_tI (j := 0) eA47 aA47 bA47 rfl (by decide) ?_
    refine st_tI (j := 1) eA48 aA48 bA48 rfl (by decide) ?_
    refine st_tI (j := 2) eA49 aA49 bA49 rfl (by decide) ?_
    refine st_pR eR51 kK48_26 ?_
    refine st_newa  (n + 49) eK49 eN41 eA50 eB41 eC44 rfl ?_
    refine st_tI (j := 0) eA51 aA51 bA51 rfl (by decide) ?_
    refine st_tI (j := 1) eA52 aA52 bA52 rfl (by decide) ?_
    refine st_tI (j := 2) eA53 aA53 bA53 rfl (by decide) ?_
    refine st_pR eR52 kK49_26 ?_
    refine st_newa  (n + 50) eK50 eN42 eA54 eB42 eC45 rfl ?_
    refine st_tI (j := 0) eA55 aA55 bA55 rfl (by decide) ?_
    refine st_tI (j := 1) eA56 aA56 bA56 rfl (by decide) ?_
    refine st_tI (j := 2) eA57 aA57 bA57 rfl (by decide) ?_
    refine st_pR eR53 kK50_26 ?_
    refine st_newa  (n + 51) eK51 eN43 eA58 eB43 eC46 rfl ?_
    refine st_pR eR54 kK51_26 ?_
    refine st_newa  (n + 52) eK52 eN44 eA59 eB44 eC47 rfl ?_
    refine st_pR eR55 kK52_26 ?_
    refine st_newa  (n + 53) eK53 eN45 eA60 eB45 eC48 rfl ?_
    refine st_pR eR56 kK53_26 ?_
    refine st_newa  (n + 54) eK54 eN46 eA61 eB46 eC49 rfl ?_
    refine st_pR eR57 kK54_26 ?_
    refine st_newa  (n + 55) eK55 eN47 eA62 eB47 eC50 rfl ?_
    refine st_pR eR58 kK55_26 ?_
    refine st_newa  (n + 56) eK56 eN48 eA63 eB48 eC51 rfl ?_
    refine st_pR eR59 kK56_26 ?_
    refine st_newa  (n + 57) eK57 eN49 eA64 eB49 eC52 rfl ?_
    refine st_pR eR60 kK57_26 ?_
    refine st_newa  (n + 58) eK58 eN50 eA65 eB50 eC53 rfl ?_
    refine st_pR eR61 kK58_26 ?_
    refine st_newa  (n + 59) eK59 eN51 eA66 eB51 eC54 rfl ?_
    refine st_pR eR62 kK59_26 ?_
    refine st_newa  (n + 60) eK60 eN52 eA67 eB52 eC55 rfl ?_
    refine st_pR eR63 kK60_26 ?_
    refine st_newa  (n + 61) eK61 eN53 eA68 eB53 eC56 rfl ?_
    refine st_pR eR64 kK61_26 ?_
    refine st_newa  (n + 62) eK62 eN54 eA69 eB54 eC57 rfl ?_
    refine st_pR eR65 kK62_26 ?_
    exact rfl
  · have hK : pS_K K62 n := by
      unfold pS_K
      simp only [eK62, eK61, eK60, eK59, eK58, eK57, eK56, eK55, eK54, eK53, eK52, eK51, eK50, eK49, eK48, eK47, eK46, eK45, eK44, eK43, eK42, eK41, eK40, eK39, eK38, eK37, eK36, eK35, eK34, eK33, eK32, eK31, eK30, eK29, eK28, eK27, eK26, eK25, eK24, eK23, eK22, eK21, eK20, eK19, eK18, eK17, eK16, eK15, eK14, eK13, eK12, eK11, eK10, eK9, eK8, eK7, eK6, eK5, eK4, eK3, eK2, eK1, eK0, oh_u1, oh_u2, Nat.add_left_cancel_iff, Nat.reduceEqDiff, Nat.add_eq_left, Nat.left_eq_add, reduceCtorEq, false_and, true_and, and_true, and_false, if_false, if_true, Nat.left_eq_add, Nat.add_left_cancel_iff, Nat.reduceEqDiff]
    have hN : pS_N N54 n := by
      unfold pS_N
      simp only [eN54, eN53, eN52, eN51, eN50, eN49, eN48, eN47, eN46, eN45, eN44, eN43, eN42, eN41, eN40, eN39, eN38, eN37, eN36, eN35, eN34, eN33, eN32, eN31, eN30, eN29, eN28, eN27, eN26, eN25, eN24, eN23, eN22, eN21, eN20, eN19, eN18, eN17, eN16, eN15, eN14, eN13, eN12, eN11, eN10, eN9, eN8, eN7, eN6, eN5, eN4, eN3, eN2, eN1, eN0, oh_u1, oh_u2, Nat.add_left_cancel_iff, Nat.reduceEqDiff, Nat.add_eq_left, Nat.left_eq_add, reduceCtorEq, false_and, true_and, and_true, and_false, if_false, if_true, Nat.left_eq_add, Nat.add_left_cancel_iff, Nat.reduceEqDiff]
    have hR : pS_R R65 n := by
      unfold pS_R
      simp only [eR65, eR64, eR63, eR62, eR61, eR60, eR59, eR58, eR57, eR56, eR55, eR54, eR53, eR52, eR51, eR50, eR49, eR48, eR47, eR46, eR45, eR44, eR43, eR42, eR41, eR40, eR39, eR38, eR37, eR36, eR35, eR34, eR33, eR32, eR31, eR30, eR29, eR28, eR27, eR26, eR25, eR24, eR23, eR22, eR21, eR20, eR19, eR18, eR17, eR16, eR15, eR14, eR13, eR12, eR11, eR10, eR9, eR8, eR7, eR6, eR5, eR4, eR3, eR2, eR1, eR0, oh_u2, oh_z2, oh_u2, Nat.add_left_cancel_iff, Nat.reduceEqDiff, Nat.add_eq_left, Nat.left_eq_add, reduceCtorEq, false_and, true_and, and_true, and_false, if_false, if_true, Nat.left_eq_add, Nat.add_left_cancel_iff, Nat.reduceEqDiff]
    have hA : pS_A C57 n := by
      unfold pS_A
      simp only [eC57, eC56, eC55, eC54, eC53, eC52, eC51, eC50, eC49, eC48, eC47, eC46, eC45, eC44, eC43, eC42, eC41, eC40, eC39, eC38, eC37, eC36, eC35, eC34, eC33, eC32, eC31, eC30, eC29, eC28, eC27, eC26, eC25, eC24, eC23, eC22, eC21, eC20, eC19, eC18, eC17, eC16, eC15, eC14, eC13, eC12, eC11, eC10, eC9, eC8, eC7, eC6, eC5, eC4, eC3, eC2, eC1, eC0, oh_u2, oh_z1, oh_u2, Nat.add_left_cancel_iff, Nat.reduceEqDiff, Nat.add_eq_left, Nat.left_eq_add, reduceCtorEq, false_and, true_and, and_true, and_false, if_false, if_true, Nat.left_eq_add, Nat.add_left_cancel_iff, Nat.reduceEqDiff]
    have a6 : ∀ b, A69 (n + 6) b = 0 := fun b => by
      simp only [eA69, eA68, eA67, eA66, eA65, eA64, eA63, eA62, eA61, eA60, eA59, eA58, eA57, eA56, eA55, eA54, eA53, eA52, eA51, eA50, eA49, eA48, eA47, eA46, eA45, eA44, eA43, eA42, eA41, eA40, eA39, eA38, eA37, eA36, eA35, eA34, eA33, eA32, eA31, eA30, eA29, eA28, eA27, eA26, eA25, eA24, eA23, eA22, eA21, eA20, eA19, eA18, eA17, eA16, eA15, eA14, eA13, eA12, eA11, eA10, eA9, eA8, eA7, eA6, eA5, eA4, eA3, eA2, eA1, eA0, oh_u2, oh_z1, oh_u2, Nat.add_left_cancel_iff, Nat.reduceEqDiff, Nat.add_eq_left, Nat.left_eq_add, reduceCtorEq, false_and, true_and, and_true, and_false, if_false, if_true, Nat.left_eq_add, Nat.add_left_cancel_iff, Nat.reduceEqDiff]
    have a13 : ∀ b, A69 (n + 13) b = 0 := fun b => by
      simp only [eA69, eA68, eA67, eA66, eA65, eA64, eA63, eA62, eA61, eA60, eA59, eA58, eA57, eA56, eA55, eA54, eA53, eA52, eA51, eA50, eA49, eA48, eA47, eA46, eA45, eA44, eA43, eA42, eA41, eA40, eA39, eA38, eA37, eA36, eA35, eA34, eA33, eA32, eA31, eA30, eA29, eA28, eA27, eA26, eA25, eA24, eA23, eA22, eA21, eA20, eA19, eA18, eA17, eA16, eA15, eA14, eA13, eA12, eA11, eA10, eA9, eA8, eA7, eA6, eA5, eA4, eA3, eA2, eA1, eA0, oh_u2, oh_z1, oh_u2, Nat.add_left_cancel_iff, Nat.reduceEqDiff, Nat.add_eq_left, Nat.left_eq_add, reduceCtorEq, false_and, true_and, and_true, and_false, if_false, if_true, Nat.left_eq_add, Nat.add_left_cancel_iff, Nat.reduceEqDiff]
    have a16 : ∀ b, A69 (n + 16) b = 0 := fun b => by
      simp only [eA69, eA68, eA67, eA66, eA65, eA64, eA63, eA62, eA61, eA60, eA59, eA58, eA57, eA56, eA55, eA54, eA53, eA52, eA51, eA50, eA49, eA48, eA47, eA46, eA45, eA44, eA43, eA42, eA41, eA40, eA39, eA38, eA37, eA36, eA35, eA34, eA33, eA32, eA31, eA30, eA29, eA28, eA27, eA26, eA25, eA24, eA23, eA22, eA21, eA20, eA19, eA18, eA17, eA16, eA15, eA14, eA13, eA12, eA11, eA10, eA9, eA8, eA7, eA6, eA5, eA4, eA3, eA2, eA1, eA0, oh_u2, oh_z1, oh_u2, Nat.add_left_cancel_iff, Nat.reduceEqDiff, Nat.add_eq_left, Nat.left_eq_add, reduceCtorEq, false_and, true_and, and_true, and_false, if_false, if_true, Nat.left_eq_add, Nat.add_left_cancel_iff, Nat.reduceEqDiff]
    have a32 : ∀ b, A69 (n + 32) b = 0 := fun b => by
      simp only [eA69, eA68, eA67, eA66, eA65, eA64, eA63, eA62, eA61, eA60, eA59, eA58, eA57, eA56, eA55, eA54, eA53, eA52, eA51, eA50, eA49, eA48, eA47, eA46, eA45, eA44, eA43, eA42, eA41, eA40, eA39, eA38, eA37, eA36, eA35, eA34, eA33, eA32, eA31, eA30, eA29, eA28, eA27, eA26, eA25, eA24, eA23, eA22, eA21, eA20, eA19, eA18, eA17, eA16, eA15, eA14, eA13, eA12, eA11, eA10, eA9, eA8, eA7, eA6, eA5, eA4, eA3, eA2, eA1, eA0, oh_u2, oh_z1, oh_u2, Nat.add_left_cancel_iff, Nat.reduceEqDiff, Nat.add_eq_left, Nat.left_eq_add, reduceCtorEq, false_and, true_and, and_true, and_false, if_false, if_true, Nat.left_eq_add, Nat.add_left_cancel_iff, Nat.reduceEqDiff]
    have a33 : ∀ b, A69 (n + 33) b = 0 := fun b => by
      simp only [eA69, eA68, eA67, eA66, eA65, eA64, eA63, eA62, eA61, eA60, eA59, eA58, eA57, eA56, eA55, eA54, eA53, eA52, eA51, eA50, eA49, eA48, eA47, eA46, eA45, eA44, eA43, eA42, eA41, eA40, eA39, eA38, eA37, eA36, eA35, eA34, eA33, eA32, eA31, eA30, eA29, eA28, eA27, eA26, eA25, eA24, eA23, eA22, eA21, eA20, eA19, eA18, eA17, eA16, eA15, eA14, eA13, eA12, eA11, eA10, eA9, eA8, eA7, eA6, eA5, eA4, eA3, eA2, eA1, eA0, oh_u2, oh_z1, oh_u2, Nat.add_left_cancel_iff, Nat.reduceEqDiff, Nat.add_eq_left, Nat.left_eq_add, reduceCtorEq, false_and, true_and, and_true, and_false, if_false, if_true, Nat.left_eq_add, Nat.add_left_cancel_iff, Nat.reduceEqDiff]
    have a34 : ∀ b, A69 (n + 34) b = 0 := fun b => by
      simp only [eA69, eA68, eA67, eA66, eA65, eA64, eA63, eA62, eA61, eA60, eA59, eA58, eA57, eA56, eA55, eA54, eA53, eA52, eA51, eA50, eA49, eA48, eA47, eA46, eA45, eA44, eA43, eA42, eA41, eA40, eA39, eA38, eA37, eA36, eA35, eA34, eA33, eA32, eA31, eA30, eA29, eA28, eA27, eA26, eA25, eA24, eA23, eA22, eA21, eA20, eA19, eA18, eA17, eA16, eA15, eA14, eA13, eA12, eA11, eA10, eA9, eA8, eA7, eA6, eA5, eA4, eA3, eA2, eA1, eA0, oh_u2, oh_z1, oh_u2, Nat.add_left_cancel_iff, Nat.reduceEqDiff, Nat.add_eq_left, Nat.left_eq_add, reduceCtorEq, false_and, true_and, and_true, and_false, if_false, if_true, Nat.left_eq_add, Nat.add_left_cancel_iff, Nat.reduceEqDiff]
    have a35 : ∀ b, A69 (n + 35) b = 0 := fun b => by
      simp only [eA69, eA68, eA67, eA66, eA65, eA64, eA63, eA62, eA61, eA60, eA59, eA58, eA57, eA56, eA55, eA54, eA53, eA52, eA51, eA50, eA49, eA48, eA47, eA46, eA45, eA44, eA43, eA42, eA41, eA40, eA39, eA38, eA37, eA36, eA35, eA34, eA33, eA32, eA31, eA30, eA29, eA28, eA27, eA26, eA25, eA24, eA23, eA22, eA21, eA20, eA19, eA18, eA17, eA16, eA15, eA14, eA13, eA12, eA11, eA10, eA9, eA8, eA7, eA6, eA5, eA4, eA3, eA2, eA1, eA0, oh_u2, oh_z1, oh_u2, Nat.add_left_cancel_iff, Nat.reduceEqDiff, Nat.add_eq_left, Nat.left_eq_add, reduceCtorEq, false_and, true_and, and_true, and_false, if_false, if_true, Nat.left_eq_add, Nat.add_left_cancel_iff, Nat.reduceEqDiff]
    have a36 : ∀ b, A69 (n + 36) b = 0 := fun b => by
      simp only [eA69, eA68, eA67, eA66, eA65, eA64, eA63, eA62, eA61, eA60, eA59, eA58, eA57, eA56, eA55, eA54, eA53, eA52, eA51, eA50, eA49, eA48, eA47, eA46, eA45, eA44, eA43, eA42, eA41, eA40, eA39, eA38, eA37, eA36, eA35, eA34, eA33, eA32, eA31, eA30, eA29, eA28, eA27, eA26, eA25, eA24, eA23, eA22, eA21, eA20, eA19, eA18, eA17, eA16, eA15, eA14, eA13, eA12, eA11, eA10, eA9, eA8, eA7, eA6, eA5, eA4, eA3, eA2, eA1, eA0, oh_u2, oh_z1, oh_u2, Nat.add_left_cancel_iff, Nat.reduceEqDiff, Nat.add_eq_left, Nat.left_eq_add, reduceCtorEq, false_and, true_and, and_true, and_false, if_false, if_true, Nat.left_eq_add, Nat.add_left_cancel_iff, Nat.reduceEqDiff]
    have a37 : ∀ b, A69 (n + 37) b = 0 := fun b => by
      simp only [eA69, eA68, eA67, eA66, eA65, eA64, eA63, eA62, eA61, eA60, eA59, eA58, eA57, eA56, eA55, eA54, eA53, eA52, eA51, eA50, eA49, eA48, eA47, eA46, eA45, eA44, eA43, eA42, eA41, eA40, eA39, eA38, eA37, eA36, eA35, eA34, eA33, eA32, eA31, eA30, eA29, eA28, eA27, eA26, eA25, eA24, eA23, eA22, eA21, eA20, eA19, eA18, eA17, eA16, eA15, eA14, eA13, eA12, eA11, eA10, eA9, eA8, eA7, eA6, eA5, eA4, eA3, eA2, eA1, eA0, oh_u2, oh_z1, oh_u2, Nat.add_left_cancel_iff, Nat.reduceEqDiff, Nat.add_eq_left, Nat.left_eq_add, reduceCtorEq, false_and, true_and, and_true, and_false, if_false, if_true, Nat.left_eq_add, Nat.add_left_cancel_iff, Nat.reduceEqDiff]
    have a39 : ∀ b, A69 (n + 39) b = 0 := fun b => by
      simp only [eA69, eA68, eA67, eA66, eA65, eA64, eA63, eA62, eA61, eA60, eA59, eA58, eA57, eA56, eA55, eA54, eA53, eA52, eA51, eA50, eA49, eA48, eA47, eA46, eA45, eA44, eA43, eA42, eA41, eA40, eA39, eA38, eA37, eA36, eA35, eA34, eA33, eA32, eA31, eA30, eA29, eA28, eA27, eA26, eA25, eA24, eA23, eA22, eA21, eA20, eA19, eA18, eA17, eA16, eA15, eA14, eA13, eA12, eA11, eA10, eA9, eA8, eA7, eA6, eA5, eA4, eA3, eA2, eA1, eA0, oh_u2, oh_z1, oh_u2, Nat.add_left_cancel_iff, Nat.reduceEqDiff, Nat.add_eq_left, Nat.left_eq_add, reduceCtorEq, false_and, true_and, and_true, and_false, if_false, if_true, Nat.left_eq_add, Nat.add_left_cancel_iff, Nat.reduceEqDiff]
    have a42 : ∀ b, A69 (n + 42) b = 0 := fun b => by
      simp only [eA69, eA68, eA67, eA66, eA65, eA64, eA63, eA62, eA61, eA60, eA59, eA58, eA57, eA56, eA55, eA54, eA53, eA52, eA51, eA50, eA49, eA48, eA47, eA46, eA45, eA44, eA43, eA42, eA41, eA40, eA39, eA38, eA37, eA36, eA35, eA34, eA33, eA32, eA31, eA30, eA29, eA28, eA27, eA26, eA25, eA24, eA23, eA22, eA21, eA20, eA19, eA18, eA17, eA16, eA15, eA14, eA13, eA12, eA11, eA10, eA9, eA8, eA7, eA6, eA5, eA4, eA3, eA2, eA1, eA0, oh_u2, oh_z1, oh_u2, Nat.add_left_cancel_iff, Nat.reduceEqDiff, Nat.add_eq_left, Nat.left_eq_add, reduceCtorEq, false_and, true_and, and_true, and_false, if_false, if_true, Nat.left_eq_add, Nat.add_left_cancel_iff, Nat.reduceEqDiff]
    have a43 : ∀ b, A69 (n + 43) b = 0 := fun b => by
      simp only [eA69, eA68, eA67, eA66, eA65, eA64, eA63, eA62, eA61, eA60, eA59, eA58, eA57, eA56, eA55, eA54, eA53, eA52, eA51, eA50, eA49, eA48, eA47, eA46, eA45, eA44, eA43, eA42, eA41, eA40, eA39, eA38, eA37, eA36, eA35, eA34, eA33, eA32, eA31, eA30, eA29, eA28, eA27, eA26, eA25, eA24, eA23, eA22, eA21, eA20, eA19, eA18, eA17, eA16, eA15, eA14, eA13, eA12, eA11, eA10, eA9, eA8, eA7, eA6, eA5, eA4, eA3, eA2, eA1, eA0, oh_u2, oh_z1, oh_u2, Nat.add_left_cancel_iff, Nat.reduceEqDiff, Nat.add_eq_left, Nat.left_eq_add, reduceCtorEq, false_and, true_and, and_true, and_false, if_false, if_true, Nat.left_eq_add, Nat.add_left_cancel_iff, Nat.reduceEqDiff]
    have a45 : ∀ b, A69 (n + 45) b = 0 := fun b => by
      simp only [eA69, eA68, eA67, eA66, eA65, eA64, eA63, eA62, eA61, eA60, eA59, eA58, eA57, eA56, eA55, eA54, eA53, eA52, eA51, eA50, eA49, eA48, eA47, eA46, eA45, eA44, eA43, eA42, eA41, eA40, eA39, eA38, eA37, eA36, eA35, eA34, eA33, eA32, eA31, eA30, eA29, eA28, eA27, eA26, eA25, eA24, eA23, eA22, eA21, eA20, eA19, eA18, eA17, eA16, eA15, eA14, eA13, eA12, eA11, eA10, eA9, eA8, eA7, eA6, eA5, eA4, eA3, eA2, eA1, eA0, oh_u2, oh_z1, oh_u2, Nat.add_left_cancel_iff, Nat.reduceEqDiff, Nat.add_eq_left, Nat.left_eq_add, reduceCtorEq, false_and, true_and, and_true, and_false, if_false, if_true, Nat.left_eq_add, Nat.add_left_cancel_iff, Nat.reduceEqDiff]
    have a46 : ∀ b, A69 (n + 46) b = 0 := fun b => by
      simp only [eA69, eA68, eA67, eA66, eA65, eA64, eA63, eA62, eA61, eA60, eA59, eA58, eA57, eA56, eA55, eA54, eA53, eA52, eA51, eA50, eA49, eA48, eA47, eA46, eA45, eA44, eA43, eA42, eA41, eA40, eA39, eA38, eA37, eA36, eA35, eA34, eA33, eA32, eA31, eA30, eA29, eA28, eA27, eA26, eA25, eA24, eA23, eA22, eA21, eA20, eA19, eA18, eA17, eA16, eA15, eA14, eA13, eA12, eA11, eA10, eA9, eA8, eA7, eA6, eA5, eA4, eA3, eA2, eA1, eA0, oh_u2, oh_z1, oh_u2, Nat.add_left_cancel_iff, Nat.reduceEqDiff, Nat.add_eq_left, Nat.left_eq_add, reduceCtorEq, false_and, true_and, and_true, and_false, if_false, if_true, Nat.left_eq_add, Nat.add_left_cancel_iff, Nat.reduceEqDiff]
    have a53 : ∀ b, A69 (n + 53) b = 0 := fun b => by
      simp only [eA69, eA68, eA67, eA66, eA65, eA64, eA63, eA62, eA61, eA60, eA59, eA58, eA57, eA56, eA55, eA54, eA53, eA52, eA51, eA50, eA49, eA48, eA47, eA46, eA45, eA44, eA43, eA42, eA41, eA40, eA39, eA38, eA37, eA36, eA35, eA34, eA33, eA32, eA31, eA30, eA29, eA28, eA27, eA26, eA25, eA24, eA23, eA22, eA21, eA20, eA19, eA18, eA17, eA16, eA15, eA14, eA13, eA12, eA11, eA10, eA9, eA8, eA7, eA6, eA5, eA4, eA3, eA2, eA1, eA0, oh_u2, oh_z1, oh_u2, Nat.add_left_cancel_iff, Nat.reduceEqDiff, Nat.add_eq_left, Nat.left_eq_add, reduceCtorEq, false_and, true_and, and_true, and_false, if_false, if_true, Nat.left_eq_add, Nat.add_left_cancel_iff, Nat.reduceEqDiff]
    have a54 : ∀ b, A69 (n + 54) b = 0 := fun b => by
      simp only [eA69, eA68, eA67, eA66, eA65, eA64, eA63, eA62, eA61, eA60, eA59, eA58, eA57, eA56, eA55, eA54, eA53, eA52, eA51, eA50, eA49, eA48, eA47, eA46, eA45, eA44, eA43, eA42, eA41, eA40, eA39, eA38, eA37, eA36, eA35, eA34, eA33, eA32, eA31, eA30, eA29, eA28, eA27, eA26, eA25, eA24, eA23, eA22, eA21, eA20, eA19, eA18, eA17, eA16, eA15, eA14, eA13, eA12, eA11, eA10, eA9, eA8, eA7, eA6, eA5, eA4, eA3, eA2, eA1, eA0, oh_u2, oh_z1, oh_u2, Nat.add_left_cancel_iff, Nat.reduceEqDiff, Nat.add_eq_left, Nat.left_eq_add, reduceCtorEq, false_and, true_and, and_true, and_false, if_false, if_true, Nat.left_eq_add, Nat.add_left_cancel_iff, Nat.reduceEqDiff]
    have a55 : ∀ b, A69 (n + 55) b = 0 := fun b => by
      simp only [eA69, eA68, eA67, eA66, eA65, eA64, eA63, eA62, eA61, eA60, eA59, eA58, eA57, eA56, eA55, eA54, eA53, eA52, eA51, eA50, eA49, eA48, eA47, eA46, eA45, eA44, eA43, eA42, eA41, eA40, eA39, eA38, eA37, eA36, eA35, eA34, eA33, eA32, eA31, eA30, eA29, eA28, eA27, eA26, eA25, eA24, eA23, eA22, eA21, eA20, eA19, eA18, eA17, eA16, eA15, eA14, eA13, eA12, eA11, eA10, eA9, eA8, eA7, eA6, eA5, eA4, eA3, eA2, eA1, eA0, oh_u2, oh_z1, oh_u2, Nat.add_left_cancel_iff, Nat.reduceEqDiff, Nat.add_eq_left, Nat.left_eq_add, reduceCtorEq, false_and, true_and, and_true, and_false, if_false, if_true, Nat.left_eq_add, Nat.add_left_cancel_iff, Nat.reduceEqDiff]
    have a58 : ∀ b, A69 (n + 58) b = 0 := fun b => by
      simp only [eA69, eA68, eA67, eA66, eA65, eA64, eA63, eA62, eA61, eA60, eA59, eA58, eA57, eA56, eA55, eA54, eA53, eA52, eA51, eA50, eA49, eA48, eA47, eA46, eA45, eA44, eA43, eA42, eA41, eA40, eA39, eA38, eA37, eA36, eA35, eA34, eA33, eA32, eA31, eA30, eA29, eA28, eA27, eA26, eA25, eA24, eA23, eA22, eA21, eA20, eA19, eA18, eA17, eA16, eA15, eA14, eA13, eA12, eA11, eA10, eA9, eA8, eA7, eA6, eA5, eA4, eA3, eA2, eA1, eA0, oh_u2, oh_z1, oh_u2, Nat.add_left_cancel_iff, Nat.reduceEqDiff, Nat.add_eq_left, Nat.left_eq_add, reduceCtorEq, false_and, true_and, and_true, and_false, if_false, if_true, Nat.left_eq_add, Nat.add_left_cancel_iff, Nat.reduceEqDiff]
    have a40 : ∀ m, m < 3 → A69 (n + 40) m = 1000 := fun m hm => by
      have : m = 0 ∨ m = 1 ∨ m = 2 := by omega
      rcases this with e | e | e <;> subst e <;> simp only [eA69, eA68, eA67, eA66, eA65, eA64, eA63, eA62, eA61, eA60, eA59, eA58, eA57, eA56, eA55, eA54, eA53, eA52, eA51, eA50, eA49, eA48, eA47, eA46, eA45, eA44, eA43, eA42, eA41, eA40, eA39, eA38, eA37, eA36, eA35, eA34, eA33, eA32, eA31, eA30, eA29, eA28, eA27, eA26, eA25, eA24, eA23, eA22, eA21, eA20, eA19, eA18, eA17, eA16, eA15, eA14, eA13, eA12, eA11, eA10, eA9, eA8, eA7, eA6, eA5, eA4, eA3, eA2, eA1, eA0, oh_u2, oh_z1, oh_u2, Nat.add_left_cancel_iff, Nat.reduceEqDiff, Nat.add_eq_left, Nat.left_eq_add, reduceCtorEq, false_and, true_and, and_true, and_false, if_false, if_true, Nat.left_eq_add, Nat.add_left_cancel_iff, Nat.reduceEqDiff]
    have a41 : ∀ m, m < 3 → A69 (n + 41) m = 500 := fun m hm => by
      have : m = 0 ∨ m = 1 ∨ m = 2 := by omega
      rcases this with e | e | e <;> subst e <;> simp only [eA69, eA68, eA67, eA66, eA65, eA64, eA63, eA62, eA61, eA60, eA59, eA58, eA57, eA56, eA55, eA54, eA53, eA52, eA51, eA50, eA49, eA48, eA47, eA46, eA45, eA44, eA43, eA42, eA41, eA40, eA39, eA38, eA37, eA36, eA35, eA34, eA33, eA32, eA31, eA30, eA29, eA28, eA27, eA26, eA25, eA24, eA23, eA22, eA21, eA20, eA19, eA18, eA17, eA16, eA15, eA14, eA13, eA12, eA11, eA10, eA9, eA8, eA7, eA6, eA5, eA4, eA3, eA2, eA1, eA0, oh_u2, oh_z1, oh_u2, Nat.add_left_cancel_iff, Nat.reduceEqDiff, Nat.add_eq_left, Nat.left_eq_add, reduceCtorEq, false_and, true_and, and_true, and_false, if_false, if_true, Nat.left_eq_add, Nat.add_left_cancel_iff, Nat.reduceEqDiff]
    have a47 : ∀ m, m < 3 → A69 (n + 47) m = -1 := fun m hm => by
      have : m = 0 ∨ m = 1 ∨ m = 2 := by omega
      rcases this with e | e | e <;> subst e <;> simp only [eA69, eA68, eA67, eA66, eA65, eA64, eA63, eA62, eA61, eA60, eA59, eA58, eA57, eA56, eA55, eA54, eA53, eA52, eA51, eA50, eA49, eA48, eA47, eA46, eA45, eA44, eA43, eA42, eA41, eA40, eA39, eA38, eA37, eA36, eA35, eA34, eA33, eA32, eA31, eA30, eA29, eA28, eA27, eA26, eA25, eA24, eA23, eA22, eA21, eA20, eA19, eA18, eA17, eA16, eA15, eA14, eA13, eA12, eA11, eA10, eA9, eA8, eA7, eA6, eA5, eA4, eA3, eA2, eA1, eA0, oh_u2, oh_z1, oh_u2, Nat.add_left_cancel_iff, Nat.reduceEqDiff, Nat.add_eq_left, Nat.left_eq_add, reduceCtorEq, false_and, true_and, and_true, and_false, if_false, if_true, Nat.left_eq_add, Nat.add_left_cancel_iff, Nat.reduceEqDiff]
    have a48 : ∀ m, m < 3 → A69 (n + 48) m = -1 := fun m hm => by
      have : m = 0 ∨ m = 1 ∨ m = 2 := by omega
      rcases this with e | e | e <;> subst e <;> simp only [eA69, eA68, eA67, eA66, eA65, eA64, eA63, eA62, eA61, eA60, eA59, eA58, eA57, eA56, eA55, eA54, eA53, eA52, eA51, eA50, eA49, eA48, eA47, eA46, eA45, eA44, eA43, eA42, eA41, eA40, eA39, eA38, eA37, eA36, eA35, eA34, eA33, eA32, eA31, eA30, eA29, eA28, eA27, eA26, eA25, eA24, eA23, eA22, eA21, eA20, eA19, eA18, eA17, eA16, eA15, eA14, eA13, eA12, eA11, eA10, eA9, eA8, eA7, eA6, eA5, eA4, eA3, eA2, eA1, eA0, oh_u2, oh_z1, oh_u2, Nat.add_left_cancel_iff, Nat.reduceEqDiff, Nat.add_eq_left, Nat.left_eq_add, reduceCtorEq, false_and, true_and, and_true, and_false, if_false, if_true, Nat.left_eq_add, Nat.add_left_cancel_iff, Nat.reduceEqDiff]
    have a49 : ∀ m, m < 3 → A69 (n + 49) m = -1 := fun m hm => by
      have : m = 0 ∨ m = 1 ∨ m = 2 := by omega
      rcases this with e | e | e <;> subst e <;> simp only [eA69, eA68, eA67, eA66, eA65, eA64, eA63, eA62, eA61, eA60, eA59, eA58, eA57, eA56, eA55, eA54, eA53, eA52, eA51, eA50, eA49, eA48, eA47, eA46, eA45, eA44, eA43, eA42, eA41, eA40, eA39, eA38, eA37, eA36, eA35, eA34, eA33, eA32, eA31, eA30, eA29, eA28, eA27, eA26, eA25, eA24, eA23, eA22, eA21, eA20, eA19, eA18, eA17, eA16, eA15, eA14, eA13, eA12, eA11, eA10, eA9, eA8, eA7, eA6, eA5, eA4, eA3, eA2, eA1, eA0, oh_u2, oh_z1, oh_u2, Nat.add_left_cancel_iff, Nat.reduceEqDiff, Nat.add_eq_left, Nat.left_eq_add, reduceCtorEq, false_and, true_and, and_true, and_false, if_false, if_true, Nat.left_eq_add, Nat.add_left_cancel_iff, Nat.reduceEqDiff]
    have b56 : ∀ b, B54 (n + 56) b = 0 := fun b => by
      simp only [eB54, eB53, eB52, eB51, eB50, eB49, eB48, eB47, eB46, eB45, eB44, eB43, eB42, eB41, eB40, eB39, eB38, eB37, eB36, eB35, eB34, eB33, eB32, eB31, eB30, eB29, eB28, eB27, eB26, eB25, eB24, eB23, eB22, eB21, eB20, eB19, eB18, eB17, eB16, eB15, eB14, eB13, eB12, eB11, eB10, eB9, eB8, eB7, eB6, eB5, eB4, eB3, eB2, eB1, eB0, oh_u2, oh_z1, oh_u2, Nat.add_left_cancel_iff, Nat.reduceEqDiff, Nat.add_eq_left, Nat.left_eq_add, reduceCtorEq, false_and, true_and, and_true, and_false, if_false, if_true, Nat.left_eq_add, Nat.add_left_cancel_iff, Nat.reduceEqDiff]
    have b57 : ∀ b, B54 (n + 57) b = 0 := fun b => by
      simp only [eB54, eB53, eB52, eB51, eB50, eB49, eB48, eB47, eB46, eB45, eB44, eB43, eB42, eB41, eB40, eB39, eB38, eB37, eB36, eB35, eB34, eB33, eB32, eB31, eB30, eB29, eB28, eB27, eB26, eB25, eB24, eB23, eB22, eB21, eB20, eB19, eB18, eB17, eB16, eB15, eB14, eB13, eB12, eB11, eB10, eB9, eB8, eB7, eB6, eB5, eB4, eB3, eB2, eB1, eB0, oh_u2, oh_z1, oh_u2, Nat.add_left_cancel_iff, Nat.reduceEqDiff, Nat.add_eq_left, Nat.left_eq_add, reduceCtorEq, false_and, true_and, and_true, and_false, if_false, if_true, Nat.left_eq_add, Nat.add_left_cancel_iff, Nat.reduceEqDiff]
    have f192 : ∀ m, m < 3 → F66 192 (ml n m) = nI m := fun m hm => by
      have : m = 0 ∨ m = 1 ∨ m = 2 := by omega
      rcases this with e | e | e <;> subst e <;> simp only [ml, Nat.mul_zero, Nat.mul_one, Nat.reduceMul, Nat.add_zero, Nat.add_assoc, Nat.reduceAdd] <;> simp only [eF66, eF65, eF64, eF63, eF62, eF61, eF60, eF59, eF58, eF57, eF56, eF55, eF54, eF53, eF52, eF51, eF50, eF49, eF48, eF47, eF46, eF45, eF44, eF43, eF42, eF41, eF40, eF39, eF38, eF37, eF36, eF35, eF34, eF33, eF32, eF31, eF30, eF29, eF28, eF27, eF26, eF25, eF24, eF23, eF22, eF21, eF20, eF19, eF18, eF17, eF16, eF15, eF14, eF13, eF12, eF11, eF10, eF9, eF8, eF7, eF6, eF5, eF4, eF3, eF2, eF1, eF0, oh_u2, oh_z2, oh_u2, Nat.add_left_cancel_iff, Nat.reduceEqDiff, Nat.add_eq_left, Nat.left_eq_add, reduceCtorEq, false_and, true_and, and_true, and_false, if_false, if_true, Nat.left_eq_add, Nat.add_left_cancel_iff, Nat.reduceEqDiff]
    have f195 : ∀ m, m < 3 → F66 195 (ml n m) = 0 := fun m hm => by
      have : m = 0 ∨ m = 1 ∨ m = 2 := by omega
      rcases this with e | e | e <;> subst e <;> simp only [ml, Nat.mul_zero, Nat.mul_one, Nat.reduceMul, Nat.add_zero, Nat.add_assoc, Nat.reduceAdd] <;> simp only [eF66, eF65, eF64, eF63, eF62, eF61, eF60, eF59, eF58, eF57, eF56, eF55, eF54, eF53, eF52, eF51, eF50, eF49, eF48, eF47, eF46, eF45, eF44, eF43, eF42, eF41, eF40, eF39, eF38, eF37, eF36, eF35, eF34, eF33, eF32, eF31, eF30, eF29, eF28, eF27, eF26, eF25, eF24, eF23, eF22, eF21, eF20, eF19, eF18, eF17, eF16, eF15, eF14, eF13, eF12, eF11, eF10, eF9, eF8, eF7, eF6, eF5, eF4, eF3, eF2, eF1, eF0, oh_u2, oh_z2, oh_u2, Nat.add_left_cancel_iff, Nat.reduceEqDiff, Nat.add_eq_left, Nat.left_eq_add, reduceCtorEq, false_and, true_and, and_true, and_false, if_false, if_true, Nat.left_eq_add, Nat.add_left_cancel_iff, Nat.reduceEqDiff]
    have f196 : ∀ m, m < 3 → F66 196 (ml n m) = 1000 := fun m hm => by
      have : m = 0 ∨ m = 1 ∨ m = 2 := by omega
      rcases this with e | e | e <;> subst e <;> simp only [ml, Nat.mul_zero, Nat.mul_one, Nat.reduceMul, Nat.add_zero, Nat.add_assoc, Nat.reduceAdd] <;> simp only [eF66, eF65, eF64, eF63, eF62, eF61, eF60, eF59, eF58, eF57, eF56, eF55, eF54, eF53, eF52, eF51, eF50, eF49, eF48, eF47, eF46, eF45, eF44, eF43, eF42, eF41, eF40, eF39, eF38, eF37, eF36, eF35, eF34, eF33, eF32, eF31, eF30, eF29, eF28, eF27, eF26, eF25, eF24, eF23, eF22, eF21, eF20, eF19, eF18, eF17, eF16, eF15, eF14, eF13, eF12, eF11, eF10, eF9, eF8, eF7, eF6, eF5, eF4, eF3, eF2, eF1, eF0, oh_u2, oh_z2, oh_u2, Nat.add_left_cancel_iff, Nat.reduceEqDiff, Nat.add_eq_left, Nat.left_eq_add, reduceCtorEq, false_and, true_and, and_true, and_false, if_false, if_true, Nat.left_eq_add, Nat.add_left_cancel_iff, Nat.reduceEqDiff]
    have f197 : ∀ m, m < 3 → F66 197 (ml n m) = 500 := fun m hm => by
      have : m = 0 ∨ m = 1 ∨ m = 2 := by omega
      rcases this with e | e | e <;> subst e <;> simp only [ml, Nat.mul_zero, Nat.mul_one, Nat.reduceMul, Nat.add_zero, Nat.add_assoc, Nat.reduceAdd] <;> simp only [eF66, eF65, eF64, eF63, eF62, eF61, eF60, eF59, eF58, eF57, eF56, eF55, eF54, eF53, eF52, eF51, eF50, eF49, eF48, eF47, eF46, eF45, eF44, eF43, eF42, eF41, eF40, eF39, eF38, eF37, eF36, eF35, eF34, eF33, eF32, eF31, eF30, eF29, eF28, eF27, eF26, eF25, eF24, eF23, eF22, eF21, eF20, eF19, eF18, eF17, eF16, eF15, eF14, eF13, eF12, eF11, eF10, eF9, eF8, eF7, eF6, eF5, eF4, eF3, eF2, eF1, eF0, oh_u2, oh_z2, oh_u2, Nat.add_left_cancel_iff, Nat.reduceEqDiff, Nat.add_eq_left, Nat.left_eq_add, reduceCtorEq, false_and, true_and, and_true, and_false, if_false, if_true, Nat.left_eq_add, Nat.add_left_cancel_iff, Nat.reduceEqDiff]
    have f198 : ∀ m, m < 3 → F66 198 (ml n m) = 0 := fun m hm => by
      have : m = 0 ∨ m = 1 ∨ m = 2 := by omega
      rcases this with e | e | e <;> subst e <;> simp only [ml, Nat.mul_zero, Nat.mul_one, Nat.reduceMul, Nat.add_zero, Nat.add_assoc, Nat.reduceAdd] <;> simp only [eF66, eF65, eF64, eF63, eF62, eF61, eF60, eF59, eF58, eF57, eF56, eF55, eF54, eF53, eF52, eF51, eF50, eF49, eF48, eF47, eF46, eF45, eF44, eF43, eF42, eF41, eF40, eF39, eF38, eF37, eF36, eF35, eF34, eF33, eF32, eF31, eF30, eF29, eF28, eF27, eF26, eF25, eF24, eF23, eF22, eF21, eF20, eF19, eF18, eF17, eF16, eF15, eF14, eF13, eF12, eF11, eF10, eF9, eF8, eF7, eF6, eF5, eF4, eF3, eF2, eF1, eF0, oh_u2, oh_z2, oh_u2, Nat.add_left_cancel_iff, Nat.reduceEqDiff, Nat.add_eq_left, Nat.left_eq_add, reduceCtorEq, false_and, true_and, and_true, and_false, if_false, if_true, Nat.left_eq_add, Nat.add_left_cancel_iff, Nat.reduceEqDiff]
    have f199 : ∀ m, m < 3 → F66 199 (ml n m) = 0 := fun m hm => by
      have : m = 0 ∨ m = 1 ∨ m = 2 := by omega
      rcases this with e | e | e <;> subst e <;> simp only [ml, Nat.mul_zero, Nat.mul_one, Nat.reduceMul, Nat.add_zero, Nat.add_assoc, Nat.reduceAdd] <;> simp only [eF66, eF65, eF64, eF63, eF62, eF61, eF60, eF59, eF58, eF57, eF56, eF55, eF54, eF53, eF52, eF51, eF50, eF49, eF48, eF47, eF46, eF45, eF44, eF43, eF42, eF41, eF40, eF39, eF38, eF37, eF36, eF35, eF34, eF33, eF32, eF31, eF30, eF29, eF28, eF27, eF26, eF25, eF24, eF23, eF22, eF21, eF20, eF19, eF18, eF17, eF16, eF15, eF14, eF13, eF12, eF11, eF10, eF9, eF8, eF7, eF6, eF5, eF4, eF3, eF2, eF1, eF0, oh_u2, oh_z2, oh_u2, Nat.add_left_cancel_iff, Nat.reduceEqDiff, Nat.add_eq_left, Nat.left_eq_add, reduceCtorEq, false_and, true_and, and_true, and_false, if_false, if_true, Nat.left_eq_add, Nat.add_left_cancel_iff, Nat.reduceEqDiff]
    have f200 : ∀ m, m < 3 → F66 200 (ml n m) = -1 := fun m hm => by
      have : m = 0 ∨ m = 1 ∨ m = 2 := by omega
      rcases this with e | e | e <;> subst e <;> simp only [ml, Nat.mul_zero, Nat.mul_one, Nat.reduceMul, Nat.add_zero, Nat.add_assoc, Nat.reduceAdd] <;> simp only [eF66, eF65, eF64, eF63, eF62, eF61, eF60, eF59, eF58, eF57, eF56, eF55, eF54, eF53, eF52, eF51, eF50, eF49, eF48, eF47, eF46, eF45, eF44, eF43, eF42, eF41, eF40, eF39, eF38, eF37, eF36, eF35, eF34, eF33, eF32, eF31, eF30, eF29, eF28, eF27, eF26, eF25, eF24, eF23, eF22, eF21, eF20, eF19, eF18, eF17, eF16, eF15, eF14, eF13, eF12, eF11, eF10, eF9, eF8, eF7, eF6, eF5, eF4, eF3, eF2, eF1, eF0, oh_u2, oh_z2, oh_u2, Nat.add_left_cancel_iff, Nat.reduceEqDiff, Nat.add_eq_left, Nat.left_eq_add, reduceCtorEq, false_and, true_and, and_true, and_false, if_false, if_true, Nat.left_eq_add, Nat.add_left_cancel_iff, Nat.reduceEqDiff]
    have f201 : ∀ m, m < 3 → F66 201 (ml n m) = 0 := fun m hm => by
      have : m = 0 ∨ m = 1 ∨ m = 2 := by omega
      rcases this with e | e | e <;> subst e <;> simp only [ml, Nat.mul_zero, Nat.mul_one, Nat.reduceMul, Nat.add_zero, Nat.add_assoc, Nat.reduceAdd] <;> simp only [eF66, eF65, eF64, eF63, eF62, eF61, eF60, eF59, eF58, eF57, eF56, eF55, eF54, eF53, eF52, eF51, eF50, eF49, eF48, eF47, eF46, eF45, eF44, eF43, eF42, eF41, eF40, eF39, eF38, eF37, eF36, eF35, eF34, eF33, eF32, eF31, eF30, eF29, eF28, eF27, eF26, eF25, eF24, eF23, eF22, eF21, eF20, eF19, eF18, eF17, eF16, eF15, eF14, eF13, eF12, eF11, eF10, eF9, eF8, eF7, eF6, eF5, eF4, eF3, eF2, eF1, eF0, oh_u2, oh_z2, oh_u2, Nat.add_left_cancel_iff, Nat.reduceEqDiff, Nat.add_eq_left, Nat.left_eq_add, reduceCtorEq, false_and, true_and, and_true, and_false, if_false, if_true, Nat.left_eq_add, Nat.add_left_cancel_iff, Nat.reduceEqDiff]
    have f202 : ∀ m, m < 3 → F66 202 (ml n m) = 0 := fun m hm => by
      have : m = 0 ∨ m = 1 ∨ m = 2 := by omega
      rcases this with e | e | e <;> subst e <;> simp only [ml, Nat.mul_zero, Nat.mul_one, Nat.reduceMul, Nat.add_zero, Nat.add_assoc, Nat.reduceAdd] <;> simp only [eF66, eF65, eF64, eF63, eF62, eF61, eF60, eF59, eF58, eF57, eF56, eF55, eF54, eF53, eF52, eF51, eF50, eF49, eF48, eF47, eF46, eF45, eF44, eF43, eF42, eF41, eF40, eF39, eF38, eF37, eF36, eF35, eF34, eF33, eF32, eF31, eF30, eF29, eF28, eF27, eF26, eF25, eF24, eF23, eF22, eF21, eF20, eF19, eF18, eF17, eF16, eF15, eF14, eF13, eF12, eF11, eF10, eF9, eF8, eF7, eF6, eF5, eF4, eF3, eF2, eF1, eF0, oh_u2, oh_z2, oh_u2, Nat.add_left_cancel_iff, Nat.reduceEqDiff, Nat.add_eq_left, Nat.left_eq_add, reduceCtorEq, false_and, true_and, and_true, and_false, if_false, if_true, Nat.left_eq_add, Nat.add_left_cancel_iff, Nat.reduceEqDiff]
    have f203 : ∀ m, m < 3 → F66 203 (ml n m) = 0 := fun m hm => by
      have : m = 0 ∨ m = 1 ∨ m = 2 := by omega
      rcases this with e | e | e <;> subst e <;> simp only [ml, Nat.mul_zero, Nat.mul_one, Nat.reduceMul, Nat.add_zero, Nat.add_assoc, Nat.reduceAdd] <;> simp only [eF66, eF65, eF64, eF63, eF62, eF61, eF60, eF59, eF58, eF57, eF56, eF55, eF54, eF53, eF52, eF51, eF50, eF49, eF48, eF47, eF46, eF45, eF44, eF43, eF42, eF41, eF40, eF39, eF38, eF37, eF36, eF35, eF34, eF33, eF32, eF31, eF30, eF29, eF28, eF27, eF26, eF25, eF24, eF23, eF22, eF21, eF20, eF19, eF18, eF17, eF16, eF15, eF14, eF13, eF12, eF11, eF10, eF9, eF8, eF7, eF6, eF5, eF4, eF3, eF2, eF1, eF0, oh_u2, oh_z2, oh_u2, Nat.add_left_cancel_iff, Nat.reduceEqDiff, Nat.add_eq_left, Nat.left_eq_add, reduceCtorEq, false_and, true_and, and_true, and_false, if_false, if_true, Nat.left_eq_add, Nat.add_left_cancel_iff, Nat.reduceEqDiff]
    have f204 : ∀ m, m < 3 → F66 204 (ml n m) = -1 := fun m hm => by
      have : m = 0 ∨ m = 1 ∨ m = 2 := by omega
      rcases this with e | e | e <;> subst e <;> simp only [ml, Nat.mul_zero, Nat.mul_one, Nat.reduceMul, Nat.add_zero, Nat.add_assoc, Nat.reduceAdd] <;> simp only [eF66, eF65, eF64, eF63, eF62, eF61, eF60, eF59, eF58, eF57, eF56, eF55, eF54, eF53, eF52, eF51, eF50, eF49, eF48, eF47, eF46, eF45, eF44, eF43, eF42, eF41, eF40, eF39, eF38, eF37, eF36, eF35, eF34, eF33, eF32, eF31, eF30, eF29, eF28, eF27, eF26, eF25, eF24, eF23, eF22, eF21, eF20, eF19, eF18, eF17, eF16, eF15, eF14, eF13, eF12, eF11, eF10, eF9, eF8, eF7, eF6, eF5, eF4, eF3, eF2, eF1, eF0, oh_u2, oh_z2, oh_u2, Nat.add_left_cancel_iff, Nat.reduceEqDiff, Nat.add_eq_left, Nat.left_eq_add, reduceCtorEq, false_and, true_and, and_true, and_false, if_false, if_true, Nat.left_eq_add, Nat.add_left_cancel_iff, Nat.reduceEqDiff]
    have f205 : ∀ m, m < 3 → F66 205 (ml n m) = -1 := fun m hm => by
      have : m = 0 ∨ m = 1 ∨ m = 2 := by omega
      rcases this with e | e | e <;> subst e <;> simp only [ml, Nat.mul_zero, Nat.mul_one, Nat.reduceMul, Nat.add_zero, Nat.add_assoc, Nat.reduceAdd] <;> simp only [eF66, eF65, eF64, eF63, eF62, eF61, eF60, eF59, eF58, eF57, eF56, eF55, eF54, eF53, eF52, eF51, eF50, eF49, eF48, eF47, eF46, eF45, eF44, eF43, eF42, eF41, eF40, eF39, eF38, eF37, eF36, eF35, eF34, eF33, eF32, eF31, eF30, eF29, eF28, eF27, eF26, eF25, eF24, eF23, eF22, eF21, eF20, eF19, eF18, eF17, eF16, eF15, eF14, eF13, eF12, eF11, eF10, eF9, eF8, eF7, eF6, eF5, eF4, eF3, eF2, eF1, eF0, oh_u2, oh_z2, oh_u2, Nat.add_left_cancel_iff, Nat.reduceEqDiff, Nat.add_eq_left, Nat.left_eq_add, reduceCtorEq, false_and, true_and, and_true, and_false, if_false, if_true, Nat.left_eq_add, Nat.add_left_cancel_iff, Nat.reduceEqDiff]
    have f455 : F66 455 n = 0 := by
      simp only [eF66, eF65, eF64, eF63, eF62, eF61, eF60, eF59, eF58, eF57, eF56, eF55, eF54, eF53, eF52, eF51, eF50, eF49, eF48, eF47, eF46, eF45, eF44, eF43, eF42, eF41, eF40, eF39, eF38, eF37, eF36, eF35, eF34, eF33, eF32, eF31, eF30, eF29, eF28, eF27, eF26, eF25, eF24, eF23, eF22, eF21, eF20, eF19, eF18, eF17, eF16, eF15, eF14, eF13, eF12, eF11, eF10, eF9, eF8, eF7, eF6, eF5, eF4, eF3, eF2, eF1, eF0, oh_u2, oh_z2, oh_u2, Nat.add_left_cancel_iff, Nat.reduceEqDiff, Nat.add_eq_left, Nat.left_eq_add, reduceCtorEq, false_and, true_and, and_true, and_false, if_false, if_true, Nat.left_eq_add, Nat.add_left_cancel_iff, Nat.reduceEqDiff]
    have f456 : F66 456 n = 0 := by
      simp only [eF66, eF65, eF64, eF63, eF62, eF61, eF60, eF59, eF58, eF57, eF56, eF55, eF54, eF53, eF52, eF51, eF50, eF49, eF48, eF47, eF46, eF45, eF44, eF43, eF42, eF41, eF40, eF39, eF38, eF37, eF36, eF35, eF34, eF33, eF32, eF31, eF30, eF29, eF28, eF27, eF26, eF25, eF24, eF23, eF22, eF21, eF20, eF19, eF18, eF17, eF16, eF15, eF14, eF13, eF12, eF11, eF10, eF9, eF8, eF7, eF6, eF5, eF4, eF3, eF2, eF1, eF0, oh_u2, oh_z2, oh_u2, Nat.add_left_cancel_iff, Nat.reduceEqDiff, Nat.add_eq_left, Nat.left_eq_add, reduceCtorEq, false_and, true_and, and_true, and_false, if_false, if_true, Nat.left_eq_add, Nat.add_left_cancel_iff, Nat.reduceEqDiff]
    have f457 : F66 457 n = 0 := by
      simp only [eF66, eF65, eF64, eF63, eF62, eF61, eF60, eF59, eF58, eF57, eF56, eF55, eF54, eF53, eF52, eF51, eF50, eF49, eF48, eF47, eF46, eF45, eF44, eF43, eF42, eF41, eF40, eF39, eF38, eF37, eF36, eF35, eF34, eF33, eF32, eF31, eF30, eF29, eF28, eF27, eF26, eF25, eF24, eF23, eF22, eF21, eF20, eF19, eF18, eF17, eF16, eF15, eF14, eF13, eF12, eF11, eF10, eF9, eF8, eF7, eF6, eF5, eF4, eF3, eF2, eF1, eF0, oh_u2, oh_z2, oh_u2, Nat.add_left_cancel_iff, Nat.reduceEqDiff, Nat.add_eq_left, Nat.left_eq_add, reduceCtorEq, false_and, true_and, and_true, and_false, if_false, if_true, Nat.left_eq_add, Nat.add_left_cancel_iff, Nat.reduceEqDiff]
    have f458 : F66 458 n = 0 := by
      simp only [eF66, eF65, eF64, eF63, eF62, eF61, eF60, eF59, eF58, eF57, eF56, eF55, eF54, eF53, eF52, eF51, eF50, eF49, eF48, eF47, eF46, eF45, eF44, eF43, eF42, eF41, eF40, eF39, eF38, eF37, eF36, eF35, eF34, eF33, eF32, eF31, eF30, eF29, eF28, eF27, eF26, eF25, eF24, eF23, eF22, eF21, eF20, eF19, eF18, eF17, eF16, eF15, eF14, eF13, eF12, eF11, eF10, eF9, eF8, eF7, eF6, eF5, eF4, eF3, eF2, eF1, eF0, oh_u2, oh_z2, oh_u2, Nat.add_left_cancel_iff, Nat.reduceEqDiff, Nat.add_eq_left, Nat.left_eq_add, reduceCtorEq, false_and, true_and, and_true, and_false, if_false, if_true, Nat.left_eq_add, Nat.add_left_cancel_iff, Nat.reduceEqDiff]
    have f459 : F66 459 n = 3 := by
      simp only [eF66, eF65, eF64, eF63, eF62, eF61, eF60, eF59, eF58, eF57, eF56, eF55, eF54, eF53, eF52, eF51, eF50, eF49, eF48, eF47, eF46, eF45, eF44, eF43, eF42, eF41, eF40, eF39, eF38, eF37, eF36, eF35, eF34, eF33, eF32, eF31, eF30, eF29, eF28, eF27, eF26, eF25, eF24, eF23, eF22, eF21, eF20, eF19, eF18, eF17, eF16, eF15, eF14, eF13, eF12, eF11, eF10, eF9, eF8, eF7, eF6, eF5, eF4, eF3, eF2, eF1, eF0, oh_u2, oh_z2, oh_u2, Nat.add_left_cancel_iff, Nat.reduceEqDiff, Nat.add_eq_left, Nat.left_eq_add, reduceCtorEq, false_and, true_and, and_true, and_false, if_false, if_true, Nat.left_eq_add, Nat.add_left_cancel_iff, Nat.reduceEqDiff]
    have f460 : F66 460 n = 10 := by
      simp only [eF66, eF65, eF64, eF63, eF62, eF61, eF60, eF59, eF58, eF57, eF56, eF55, eF54, eF53, eF52, eF51, eF50, eF49, eF48, eF47, eF46, eF45, eF44, eF43, eF42, eF41, eF40, eF39, eF38, eF37, eF36, eF35, eF34, eF33, eF32, eF31, eF30, eF29, eF28, eF27, eF26, eF25, eF24, eF23, eF22, eF21, eF20, eF19, eF18, eF17, eF16, eF15, eF14, eF13, eF12, eF11, eF10, eF9, eF8, eF7, eF6, eF5, eF4, eF3, eF2, eF1, eF0, oh_u2, oh_z2, oh_u2, Nat.add_left_cancel_iff, Nat.reduceEqDiff, Nat.add_eq_left, Nat.left_eq_add, reduceCtorEq, false_and, true_and, and_true, and_false, if_false, if_true, Nat.left_eq_add, Nat.add_left_cancel_iff, Nat.reduceEqDiff]
    have f461 : F66 461 n = -1 := by
      simp only [eF66, eF65, eF64, eF63, eF62, eF61, eF60, eF59, eF58, eF57, eF56, eF55, eF54, eF53, eF52, eF51, eF50, eF49, eF48, eF47, eF46, eF45, eF44, eF43, eF42, eF41, eF40, eF39, eF38, eF37, eF36, eF35, eF34, eF33, eF32, eF31, eF30, eF29, eF28, eF27, eF26, eF25, eF24, eF23, eF22, eF21, eF20, eF19, eF18, eF17, eF16, eF15, eF14, eF13, eF12, eF11, eF10, eF9, eF8, eF7, eF6, eF5, eF4, eF3, eF2, eF1, eF0, oh_u2, oh_z2, oh_u2, Nat.add_left_cancel_iff, Nat.reduceEqDiff, Nat.add_eq_left, Nat.left_eq_add, reduceCtorEq, false_and, true_and, and_true, and_false, if_false, if_true, Nat.left_eq_add, Nat.add_left_cancel_iff, Nat.reduceEqDiff]
    have f320 : F66 320 (n + 7) = 0 := by
      simp only [eF66, eF65, eF64, eF63, eF62, eF61, eF60, eF59, eF58, eF57, eF56, eF55, eF54, eF53, eF52, eF51, eF50, eF49, eF48, eF47, eF46, eF45, eF44, eF43, eF42, eF41, eF40, eF39, eF38, eF37, eF36, eF35, eF34, eF33, eF32, eF31, eF30, eF29, eF28, eF27, eF26, eF25, eF24, eF23, eF22, eF21, eF20, eF19, eF18, eF17, eF16, eF15, eF14, eF13, eF12, eF11, eF10, eF9, eF8, eF7, eF6, eF5, eF4, eF3, eF2, eF1, eF0, oh_u2, oh_z2, oh_u2, Nat.add_left_cancel_iff, Nat.reduceEqDiff, Nat.add_eq_left, Nat.left_eq_add, reduceCtorEq, false_and, true_and, and_true, and_false, if_false, if_true, Nat.left_eq_add, Nat.add_left_cancel_iff, Nat.reduceEqDiff]
    have f321 : F66 321 (n + 7) = 0 := by
      simp only [eF66, eF65, eF64, eF63, eF62, eF61, eF60, eF59, eF58, eF57, eF56, eF55, eF54, eF53, eF52, eF51, eF50, eF49, eF48, eF47, eF46, eF45, eF44, eF43, eF42, eF41, eF40, eF39, eF38, eF37, eF36, eF35, eF34, eF33, eF32, eF31, eF30, eF29, eF28, eF27, eF26, eF25, eF24, eF23, eF22, eF21, eF20, eF19, eF18, eF17, eF16, eF15, eF14, eF13, eF12, eF11, eF10, eF9, eF8, eF7, eF6, eF5, eF4, eF3, eF2, eF1, eF0, oh_u2, oh_z2, oh_u2, Nat.add_left_cancel_iff, Nat.reduceEqDiff, Nat.add_eq_left, Nat.left_eq_add, reduceCtorEq, false_and, true_and, and_true, and_false, if_false, if_true, Nat.left_eq_add, Nat.add_left_cancel_iff, Nat.reduceEqDiff]
    have f322 : F66 322 (n + 7) = 0 := by
      simp only [eF66, eF65, eF64, eF63, eF62, eF61, eF60, eF59, eF58, eF57, eF56, eF55, eF54, eF53, eF52, eF51, eF50, eF49, eF48, eF47, eF46, eF45, eF44, eF43, eF42, eF41, eF40, eF39, eF38, eF37, eF36, eF35, eF34, eF33, eF32, eF31, eF30, eF29, eF28, eF27, eF26, eF25, eF24, eF23, eF22, eF21, eF20, eF19, eF18, eF17, eF16, eF15, eF14, eF13, eF12, eF11, eF10, eF9, eF8, eF7, eF6, eF5, eF4, eF3, eF2, eF1, eF0, oh_u2, oh_z2, oh_u2, Nat.add_left_cancel_iff, Nat.reduceEqDiff, Nat.add_eq_left, Nat.left_eq_add, reduceCtorEq, false_and, true_and, and_true, and_false, if_false, if_true, Nat.left_eq_add, Nat.add_left_cancel_iff, Nat.reduceEqDiff]
    have f323 : F66 323 (n + 7) = 0 := by
      simp only [eF66, eF65, eF64, eF63, eF62, eF61, eF60, eF59, eF58, eF57, eF56, eF55, eF54, eF53, eF52, eF51, eF50, eF49, eF48, eF47, eF46, eF45, eF44, eF43, eF42, eF41, eF40, eF39, eF38, eF37, eF36, eF35, eF34, eF33, eF32, eF31, eF30, eF29, eF28, eF27, eF26, eF25, eF24, eF23, eF22, eF21, eF20, eF19, eF18, eF17, eF16, eF15, eF14, eF13, eF12, eF11, eF10, eF9, eF8, eF7, eF6, eF5, eF4, eF3, eF2, eF1, eF0, oh_u2, oh_z2, oh_u2, Nat.add_left_cancel_iff, Nat.reduceEqDiff, Nat.add_eq_left, Nat.left_eq_add, reduceCtorEq, false_and, true_and, and_true, and_false, if_false, if_true, Nat.left_eq_add, Nat.add_left_cancel_iff, Nat.reduceEqDiff]
    have f324 : F66 324 (n + 7) = 0 := by
      simp only [eF66, eF65, eF64, eF63, eF62, eF61, eF60, eF59, eF58, eF57, eF56, eF55, eF54, eF53, eF52, eF51, eF50, eF49, eF48, eF47, eF46, eF45, eF44, eF43, eF42, eF41, eF40, eF39, eF38, eF37, eF36, eF35, eF34, eF33, eF32, eF31, eF30, eF29, eF28, eF27, eF26, eF25, eF24, eF23, eF22, eF21, eF20, eF19, eF18, eF17, eF16, eF15, eF14, eF13, eF12, eF11, eF10, eF9, eF8, eF7, eF6, eF5, eF4, eF3, eF2, eF1, eF0, oh_u2, oh_z2, oh_u2, Nat.add_left_cancel_iff, Nat.reduceEqDiff, Nat.add_eq_left, Nat.left_eq_add, reduceCtorEq, false_and, true_and, and_true, and_false, if_false, if_true, Nat.left_eq_add, Nat.add_left_cancel_iff, Nat.reduceEqDiff]
    have f267 : F66 267 (n + 8) = 0 := by
      simp only [eF66, eF65, eF64, eF63, eF62, eF61, eF60, eF59, eF58, eF57, eF56, eF55, eF54, eF53, eF52, eF51, eF50, eF49, eF48, eF47, eF46, eF45, eF44, eF43, eF42, eF41, eF40, eF39, eF38, eF37, eF36, eF35, eF34, eF33, eF32, eF31, eF30, eF29, eF28, eF27, eF26, eF25, eF24, eF23, eF22, eF21, eF20, eF19, eF18, eF17, eF16, eF15, eF14, eF13, eF12, eF11, eF10, eF9, eF8, eF7, eF6, eF5, eF4, eF3, eF2, eF1, eF0, oh_u2, oh_z2, oh_u2, Nat.add_left_cancel_iff, Nat.reduceEqDiff, Nat.add_eq_left, Nat.left_eq_add, reduceCtorEq, false_and, true_and, and_true, and_false, if_false, if_true, Nat.left_eq_add, Nat.add_left_cancel_iff, Nat.reduceEqDiff]
    have f268 : F66 268 (n + 8) = 0 := by
      simp only [eF66, eF65, eF64, eF63, eF62, eF61, eF60, eF59, eF58, eF57, eF56, eF55, eF54, eF53, eF52, eF51, eF50, eF49, eF48, eF47, eF46, eF45, eF44, eF43, eF42, eF41, eF40, eF39, eF38, eF37, eF36, eF35, eF34, eF33, eF32, eF31, eF30, eF29, eF28, eF27, eF26, eF25, eF24, eF23, eF22, eF21, eF20, eF19, eF18, eF17, eF16, eF15, eF14, eF13, eF12, eF11, eF10, eF9, eF8, eF7, eF6, eF5, eF4, eF3, eF2, eF1, eF0, oh_u2, oh_z2, oh_u2, Nat.add_left_cancel_iff, Nat.reduceEqDiff, Nat.add_eq_left, Nat.left_eq_add, reduceCtorEq, false_and, true_and, and_true, and_false, if_false, if_true, Nat.left_eq_add, Nat.add_left_cancel_iff, Nat.reduceEqDiff]
    have f269 : F66 269 (n + 8) = 0 := by
      simp only [eF66, eF65, eF64, eF63, eF62, eF61, eF60, eF59, eF58, eF57, eF56, eF55, eF54, eF53, eF52, eF51, eF50, eF49, eF48, eF47, eF46, eF45, eF44, eF43, eF42, eF41, eF40, eF39, eF38, eF37, eF36, eF35, eF34, eF33, eF32, eF31, eF30, eF29, eF28, eF27, eF26, eF25, eF24, eF23, eF22, eF21, eF20, eF19, eF18, eF17, eF16, eF15, eF14, eF13, eF12, eF11, eF10, eF9, eF8, eF7, eF6, eF5, eF4, eF3, eF2, eF1, eF0, oh_u2, oh_z2, oh_u2, Nat.add_left_cancel_iff, Nat.reduceEqDiff, Nat.add_eq_left, Nat.left_eq_add, reduceCtorEq, false_and, true_and, and_true, and_false, if_false, if_true, Nat.left_eq_add, Nat.add_left_cancel_iff, Nat.reduceEqDiff]
    have f270 : F66 270 (n + 8) = 0 := by
      simp only [eF66, eF65, eF64, eF63, eF62, eF61, eF60, eF59, eF58, eF57, eF56, eF55, eF54, eF53, eF52, eF51, eF50, eF49, eF48, eF47, eF46, eF45, eF44, eF43, eF42, eF41, eF40, eF39, eF38, eF37, eF36, eF35, eF34, eF33, eF32, eF31, eF30, eF29, eF28, eF27, eF26, eF25, eF24, eF23, eF22, eF21, eF20, eF19, eF18, eF17, eF16, eF15, eF14, eF13, eF12, eF11, eF10, eF9, eF8, eF7, eF6, eF5, eF4, eF3, eF2, eF1, eF0, oh_u2, oh_z2, oh_u2, Nat.add_left_cancel_iff, Nat.reduceEqDiff, Nat.add_eq_left, Nat.left_eq_add, reduceCtorEq, false_and, true_and, and_true, and_false, if_false, if_true, Nat.left_eq_add, Nat.add_left_cancel_iff, Nat.reduceEqDiff]
    have f512 : F66 512 (n + 26) = 0 := by
      simp only [eF66, eF65, eF64, eF63, eF62, eF61, eF60, eF59, eF58, eF57, eF56, eF55, eF54, eF53, eF52, eF51, eF50, eF49, eF48, eF47, eF46, eF45, eF44, eF43, eF42, eF41, eF40, eF39, eF38, eF37, eF36, eF35, eF34, eF33, eF32, eF31, eF30, eF29, eF28, eF27, eF26, eF25, eF24, eF23, eF22, eF21, eF20, eF19, eF18, eF17, eF16, eF15, eF14, eF13, eF12, eF11, eF10, eF9, eF8, eF7, eF6, eF5, eF4, eF3, eF2, eF1, eF0, oh_u2, oh_z2, oh_u2, Nat.add_left_cancel_iff, Nat.reduceEqDiff, Nat.add_eq_left, Nat.left_eq_add, reduceCtorEq, false_and, true_and, and_true, and_false, if_false, if_true, Nat.left_eq_add, Nat.add_left_cancel_iff, Nat.reduceEqDiff]
    have f516 : F66 516 (n + 26) = 0 := by
      simp only [eF66, eF65, eF64, eF63, eF62, eF61, eF60, eF59, eF58, eF57, eF56, eF55, eF54, eF53, eF52, eF51, eF50, eF49, eF48, eF47, eF46, eF45, eF44, eF43, eF42, eF41, eF40, eF39, eF38, eF37, eF36, eF35, eF34, eF33, eF32, eF31, eF30, eF29, eF28, eF27, eF26, eF25, eF24, eF23, eF22, eF21, eF20, eF19, eF18, eF17, eF16, eF15, eF14, eF13, eF12, eF11, eF10, eF9, eF8, eF7, eF6, eF5, eF4, eF3, eF2, eF1, eF0, oh_u2, oh_z2, oh_u2, Nat.add_left_cancel_iff, Nat.reduceEqDiff, Nat.add_eq_left, Nat.left_eq_add, reduceCtorEq, false_and, true_and, and_true, and_false, if_false, if_true, Nat.left_eq_add, Nat.add_left_cancel_iff, Nat.reduceEqDiff]
    have f519 : F66 519 (n + 26) = 0 := by
      simp only [eF66, eF65, eF64, eF63, eF62, eF61, eF60, eF59, eF58, eF57, eF56, eF55, eF54, eF53, eF52, eF51, eF50, eF49, eF48, eF47, eF46, eF45, eF44, eF43, eF42, eF41, eF40, eF39, eF38, eF37, eF36, eF35, eF34, eF33, eF32, eF31, eF30, eF29, eF28, eF27, eF26, eF25, eF24, eF23, eF22, eF21, eF20, eF19, eF18, eF17, eF16, eF15, eF14, eF13, eF12, eF11, eF10, eF9, eF8, eF7, eF6, eF5, eF4, eF3, eF2, eF1, eF0, oh_u2, oh_z2, oh_u2, Nat.add_left_cancel_iff, Nat.reduceEqDiff, Nat.add_eq_left, Nat.left_eq_add, reduceCtorEq, false_and, true_and, and_true, and_false, if_false, if_true, Nat.left_eq_add, Nat.add_left_cancel_iff, Nat.reduceEqDiff]
    have f541 : F66 541 (n + 26) = 0 := by
      simp only [eF66, eF65, eF64, eF63, eF62, eF61, eF60, eF59, eF58, eF57, eF56, eF55, eF54, eF53, eF52, eF51, eF50, eF49, eF48, eF47, eF46, eF45, eF44, eF43, eF42, eF41, eF40, eF39, eF38, eF37, eF36, eF35, eF34, eF33, eF32, eF31, eF30, eF29, eF28, eF27, eF26, eF25, eF24, eF23, eF22, eF21, eF20, eF19, eF18, eF17, eF16, eF15, eF14, eF13, eF12, eF11, eF10, eF9, eF8, eF7, eF6, eF5, eF4, eF3, eF2, eF1, eF0, oh_u2, oh_z2, oh_u2, Nat.add_left_cancel_iff, Nat.reduceEqDiff, Nat.add_eq_left, Nat.left_eq_add, reduceCtorEq, false_and, true_and, and_true, and_false, if_false, if_true, Nat.left_eq_add, Nat.add_left_cancel_iff, Nat.reduceEqDiff]
    have f551 : F66 551 (n + 26) = 0 := by
      simp only [eF66, eF65, eF64, eF63, eF62, eF61, eF60, eF59, eF58, eF57, eF56, eF55, eF54, eF53, eF52, eF51, eF50, eF49, eF48, eF47, eF46, eF45, eF44, eF43, eF42, eF41, eF40, eF39, eF38, eF37, eF36, eF35, eF34, eF33, eF32, eF31, eF30, eF29, eF28, eF27, eF26, eF25, eF24, eF23, eF22, eF21, eF20, eF19, eF18, eF17, eF16, eF15, eF14, eF13, eF12, eF11, eF10, eF9, eF8, eF7, eF6, eF5, eF4, eF3, eF2, eF1, eF0, oh_u2, oh_z2, oh_u2, Nat.add_left_cancel_iff, Nat.reduceEqDiff, Nat.add_eq_left, Nat.left_eq_add, reduceCtorEq, false_and, true_and, and_true, and_false, if_false, if_true, Nat.left_eq_add, Nat.add_left_cancel_iff, Nat.reduceEqDiff]
    have f552 : F66 552 (n + 26) = 0 := by
      simp only [eF66, eF65, eF64, eF63, eF62, eF61, eF60, eF59, eF58, eF57, eF56, eF55, eF54, eF53, eF52, eF51, eF50, eF49, eF48, eF47, eF46, eF45, eF44, eF43, eF42, eF41, eF40, eF39, eF38, eF37, eF36, eF35, eF34, eF33, eF32, eF31, eF30, eF29, eF28, eF27, eF26, eF25, eF24, eF23, eF22, eF21, eF20, eF19, eF18, eF17, eF16, eF15, eF14, eF13, eF12, eF11, eF10, eF9, eF8, eF7, eF6, eF5, eF4, eF3, eF2, eF1, eF0, oh_u2, oh_z2, oh_u2, Nat.add_left_cancel_iff, Nat.reduceEqDiff, Nat.add_eq_left, Nat.left_eq_add, reduceCtorEq, false_and, true_and, and_true, and_false, if_false, if_true, Nat.left_eq_add, Nat.add_left_cancel_iff, Nat.reduceEqDiff]
    have f553 : F66 553 (n + 26) = 0 := by
      simp only [eF66, eF65, eF64, eF63, eF62, eF61, eF60, eF59, eF58, eF57, eF56, eF55, eF54, eF53, eF52, eF51, eF50, eF49, eF48, eF47, eF46, eF45, eF44, eF43, eF42, eF41, eF40, eF39, eF38, eF37, eF36, eF35, eF34, eF33, eF32, eF31, eF30, eF29, eF28, eF27, eF26, eF25, eF24, eF23, eF22, eF21, eF20, eF19, eF18, eF17, eF16, eF15, eF14, eF13, eF12, eF11, eF10, eF9, eF8, eF7, eF6, eF5, eF4, eF3, eF2, eF1, eF0, oh_u2, oh_z2, oh_u2, Nat.add_left_cancel_iff, Nat.reduceEqDiff, Nat.add_eq_left, Nat.left_eq_add, reduceCtorEq, false_and, true_and, and_true, and_false, if_false, if_true, Nat.left_eq_add, Nat.add_left_cancel_iff, Nat.reduceEqDiff]
    have f554 : F66 554 (n + 26) = 0 := by
      simp only [eF66, eF65, eF64, eF63, eF62, eF61, eF60, eF59, eF58, eF57, eF56, eF55, eF54, eF53, eF52, eF51, eF50, eF49, eF48, eF47, eF46, eF45, eF44, eF43, eF42, eF41, eF40, eF39, eF38, eF37, eF36, eF35, eF34, eF33, eF32, eF31, eF30, eF29, eF28, eF27, eF26, eF25, eF24, eF23, eF22, eF21, eF20, eF19, eF18, eF17, eF16, eF15, eF14, eF13, eF12, eF11, eF10, eF9, eF8, eF7, eF6, eF5, eF4, eF3, eF2, eF1, eF0, oh_u2, oh_z2, oh_u2, Nat.add_left_cancel_iff, Nat.reduceEqDiff, Nat.add_eq_left, Nat.left_eq_add, reduceCtorEq, false_and, true_and, and_true, and_false, if_false, if_true, Nat.left_eq_add, Nat.add_left_cancel_iff, Nat.reduceEqDiff]
    have f555 : F66 555 (n + 26) = 0 := by
      simp only [eF66, eF65, eF64, eF63, eF62, eF61, eF60, eF59, eF58, eF57, eF56, eF55, eF54, eF53, eF52, eF51, eF50, eF49, eF48, eF47, eF46, eF45, eF44, eF43, eF42, eF41, eF40, eF39, eF38, eF37, eF36, eF35, eF34, eF33, eF32, eF31, eF30, eF29, eF28, eF27, eF26, eF25, eF24, eF23, eF22, eF21, eF20, eF19, eF18, eF17, eF16, eF15, eF14, eF13, eF12, eF11, eF10, eF9, eF8, eF7, eF6, eF5, eF4, eF3, eF2, eF1, eF0, oh_u2, oh_z2, oh_u2, Nat.add_left_cancel_iff, Nat.reduceEqDiff, Nat.add_eq_left, Nat.left_eq_add, reduceCtorEq, false_and, true_and, and_true, and_false, if_false, if_true, Nat.left_eq_add, Nat.add_left_cancel_iff, Nat.reduceEqDiff]
    have f556 : F66 556 (n + 26) = 0 := by
      simp only [eF66, eF65, eF64, eF63, eF62, eF61, eF60, eF59, eF58, eF57, eF56, eF55, eF54, eF53, eF52, eF51, eF50, eF49, eF48, eF47, eF46, eF45, eF44, eF43, eF42, eF41, eF40, eF39, eF38, eF37, eF36, eF35, eF34, eF33, eF32, eF31, eF30, eF29, eF28, eF27, eF26, eF25, eF24, eF23, eF22, eF21, eF20, eF19, eF18, eF17, eF16, eF15, eF14, eF13, eF12, eF11, eF10, eF9, eF8, eF7, eF6, eF5, eF4, eF3, eF2, eF1, eF0, oh_u2, oh_z2, oh_u2, Nat.add_left_cancel_iff, Nat.reduceEqDiff, Nat.add_eq_left, Nat.left_eq_add, reduceCtorEq, false_and, true_and, and_true, and_false, if_false, if_true, Nat.left_eq_add, Nat.add_left_cancel_iff, Nat.reduceEqDiff]
    have f557 : F66 557 (n + 26) = 0 := by
      simp only [eF66, eF65, eF64, eF63, eF62, eF61, eF60, eF59, eF58, eF57, eF56, eF55, eF54, eF53, eF52, eF51, eF50, eF49, eF48, eF47, eF46, eF45, eF44, eF43, eF42, eF41, eF40, eF39, eF38, eF37, eF36, eF35, eF34, eF33, eF32, eF31, eF30, eF29, eF28, eF27, eF26, eF25, eF24, eF23, eF22, eF21, eF20, eF19, eF18, eF17, eF16, eF15, eF14, eF13, eF12, eF11, eF10, eF9, eF8, eF7, eF6, eF5, eF4, eF3, eF2, eF1, eF0, oh_u2, oh_z2, oh_u2, Nat.add_left_cancel_iff, Nat.reduceEqDiff, Nat.add_eq_left, Nat.left_eq_add, reduceCtorEq, false_and, true_and, and_true, and_false, if_false, if_true, Nat.left_eq_add, Nat.add_left_cancel_iff, Nat.reduceEqDiff]
    have f558 : F66 558 (n + 26) = 0 := by
      simp only [eF66, eF65, eF64, eF63, eF62, eF61, eF60, eF59, eF58, eF57, eF56, eF55, eF54, eF53, eF52, eF51, eF50, eF49, eF48, eF47, eF46, eF45, eF44, eF43, eF42, eF41, eF40, eF39, eF38, eF37, eF36, eF35, eF34, eF33, eF32, eF31, eF30, eF29, eF28, eF27, eF26, eF25, eF24, eF23, eF22, eF21, eF20, eF19, eF18, eF17, eF16, eF15, eF14, eF13, eF12, eF11, eF10, eF9, eF8, eF7, eF6, eF5, eF4, eF3, eF2, eF1, eF0, oh_u2, oh_z2, oh_u2, Nat.add_left_cancel_iff, Nat.reduceEqDiff, Nat.add_eq_left, Nat.left_eq_add, reduceCtorEq, false_and, true_and, and_true, and_false, if_false, if_true, Nat.left_eq_add, Nat.add_left_cancel_iff, Nat.reduceEqDiff]
    have f559 : F66 559 (n + 26) = 0 := by
      simp only [eF66, eF65, eF64, eF63, eF62, eF61, eF60, eF59, eF58, eF57, eF56, eF55, eF54, eF53, eF52, eF51, eF50, eF49, eF48, eF47, eF46, eF45, eF44, eF43, eF42, eF41, eF40, eF39, eF38, eF37, eF36, eF35, eF34, eF33, eF32, eF31, eF30, eF29, eF28, eF27, eF26, eF25, eF24, eF23, eF22, eF21, eF20, eF19, eF18, eF17, eF16, eF15, eF14, eF13, eF12, eF11, eF10, eF9, eF8, eF7, eF6, eF5, eF4, eF3, eF2, eF1, eF0, oh_u2, oh_z2, oh_u2, Nat.add_left_cancel_iff, Nat.reduceEqDiff, Nat.add_eq_left, Nat.left_eq_add, reduceCtorEq, false_and, true_and, and_true, and_false, if_false, if_true, Nat.left_eq_add, Nat.add_left_cancel_iff, Nat.reduceEqDiff]
    have f513 : F66 513 (n + 26) = 3 := by
      simp only [eF66, eF65, eF64, eF63, eF62, eF61, eF60, eF59, eF58, eF57, eF56, eF55, eF54, eF53, eF52, eF51, eF50, eF49, eF48, eF47, eF46, eF45, eF44, eF43, eF42, eF41, eF40, eF39, eF38, eF37, eF36, eF35, eF34, eF33, eF32, eF31, eF30, eF29, eF28, eF27, eF26, eF25, eF24, eF23, eF22, eF21, eF20, eF19, eF18, eF17, eF16, eF15, eF14, eF13, eF12, eF11, eF10, eF9, eF8, eF7, eF6, eF5, eF4, eF3, eF2, eF1, eF0, oh_u2, oh_z2, oh_u2, Nat.add_left_cancel_iff, Nat.reduceEqDiff, Nat.add_eq_left, Nat.left_eq_add, reduceCtorEq, false_and, true_and, and_true, and_false, if_false, if_true, Nat.left_eq_add, Nat.add_left_cancel_iff, Nat.reduceEqDiff]
    have f514 : F66 514 (n + 26) = 10 := by
      simp only [eF66, eF65, eF64, eF63, eF62, eF61, eF60, eF59, eF58, eF57, eF56, eF55, eF54, eF53, eF52, eF51, eF50, eF49, eF48, eF47, eF46, eF45, eF44, eF43, eF42, eF41, eF40, eF39, eF38, eF37, eF36, eF35, eF34, eF33, eF32, eF31, eF30, eF29, eF28, eF27, eF26, eF25, eF24, eF23, eF22, eF21, eF20, eF19, eF18, eF17, eF16, eF15, eF14, eF13, eF12, eF11, eF10, eF9, eF8, eF7, eF6, eF5, eF4, eF3, eF2, eF1, eF0, oh_u2, oh_z2, oh_u2, Nat.add_left_cancel_iff, Nat.reduceEqDiff, Nat.add_eq_left, Nat.left_eq_add, reduceCtorEq, false_and, true_and, and_true, and_false, if_false, if_true, Nat.left_eq_add, Nat.add_left_cancel_iff, Nat.reduceEqDiff]
    have f515 : F66 515 (n + 26) = -1 := by
      simp only [eF66, eF65, eF64, eF63, eF62, eF61, eF60, eF59, eF58, eF57, eF56, eF55, eF54, eF53, eF52, eF51, eF50, eF49, eF48, eF47, eF46, eF45, eF44, eF43, eF42, eF41, eF40, eF39, eF38, eF37, eF36, eF35, eF34, eF33, eF32, eF31, eF30, eF29, eF28, eF27, eF26, eF25, eF24, eF23, eF22, eF21, eF20, eF19, eF18, eF17, eF16, eF15, eF14, eF13, eF12, eF11, eF10, eF9, eF8, eF7, eF6, eF5, eF4, eF3, eF2, eF1, eF0, oh_u2, oh_z2, oh_u2, Nat.add_left_cancel_iff, Nat.reduceEqDiff, Nat.add_eq_left, Nat.left_eq_add, reduceCtorEq, false_and, true_and, and_true, and_false, if_false, if_true, Nat.left_eq_add, Nat.add_left_cancel_iff, Nat.reduceEqDiff]
    have hz : pZ (n + 62) K62 := fun q hq => by
      simp only [eK62, eK61, eK60, eK59, eK58, eK57, eK56, eK55, eK54, eK53, eK52, eK51, eK50, eK49, eK48, eK47, eK46, eK45, eK44, eK43, eK42, eK41, eK40, eK39, eK38, eK37, eK36, eK35, eK34, eK33, eK32, eK31, eK30, eK29, eK28, eK27, eK26, eK25, eK24, eK23, eK22, eK21, eK20, eK19, eK18, eK17, eK16, eK15, eK14, eK13, eK12, eK11, eK10, eK9, eK8, eK7, eK6, eK5, eK4, eK3, eK2, eK1, eK0]
      simp only [oh_u1]
      repeat rw [if_neg (by omega)]
    refine ⟨⟨hK, hN, hR, hA⟩, ⟨fun j hj => absurd hj (Nat.not_lt_zero _), fun j hj => absurd hj (Nat.not_lt_zero _), fun j hj => absurd hj (Nat.not_lt_zero _), fun i j hi => absurd hi (Nat.not_lt_zero _), fun i j hi => absurd hi (Nat.not_lt_zero _)⟩, hz, fun j hj => absurd hj (Nat.not_lt_zero _), fun j hj => absurd hj (Nat.not_lt_zero _), fun m hm => ?_, fun m hm => ⟨0, Nat.zero_le _, a43 m, fun k hk => absurd hk (Nat.not_lt_zero _)⟩, fun j hj => absurd hj (Nat.not_lt_zero _), fun k hk => (a6 k).trans (a58 k).symm, ?_, ⟨a13 0, f270.trans f556.symm, f268.trans f558.symm, f269.trans f559.symm, 0, Nat.zero_le _, f267, f557, fun k hk => absurd hk (Nat.not_lt_zero _)⟩, fun m hm => ?_, ⟨by decide, by decide, by decide⟩, ?_, fun j hj => absurd hj (Nat.not_lt_zero _), fun j hj => absurd hj (Nat.not_lt_zero _), ⟨fun i _ _ => ⟨a32 i, a33 i, a34 i, a35 i, a36 i, a37 i, a39 i⟩, fun v _ _ => ⟨a53 v, a54 v, a55 v, b56 v, b57 v⟩⟩, fun m hm => ?_, fun m hm => ?_, fun j hj => absurd hj (Nat.not_lt_zero _), ⟨fun v hv => ?_, fun k hk => ?_⟩, fun v hv => ?_⟩
    · exact ⟨f192 m hm, (f195 m hm).trans (a43 m).symm, (f196 m hm).trans (a40 m hm).symm, (f197 m hm).trans (a41 m hm).symm, (f198 m hm).trans (a42 m).symm, (f199 m hm).trans (a46 m).symm, (f200 m hm).trans (a47 m hm).symm, (f201 m hm).trans (a45 m).symm, (f204 m hm).trans (a48 m hm).symm, (f205 m hm).trans (a49 m hm).symm⟩
    · exact ⟨f455, f516, f456, f519, f457, f541, f458.trans f512.symm, f459.trans f513.symm, f460.trans f514.symm, f461.trans f515.symm, f320.trans f551.symm, f321.trans f552.symm, f322.trans f553.symm, f323.trans f554.symm, f324.trans f555.symm⟩
    · show F66 202 (ml n m) = (if A69 (n + 45) m = 1 then _ else 0) ∧ F66 203 (ml n m) = (if A69 (n + 45) m = 1 then _ else 0)
      rw [a45 m, if_neg (by decide), if_neg (by decide)]
      exact ⟨f202 m hm, f203 m hm⟩
    · show (0 ≤ (F66 512 (n + 26)).toInt ∧ (F66 512 (n + 26)).toInt ≤ 999) ∧ (0 ≤ (F66 513 (n + 26)).toInt ∧ (F66 513 (n + 26)).toInt ≤ 10) ∧ (0 ≤ (F66 514 (n + 26)).toInt ∧ (F66 514 (n + 26)).toInt ≤ 50) ∧ (-1 ≤ (F66 515 (n + 26)).toInt ∧ (F66 515 (n + 26)).toInt ≤ 30)
      rw [f512, f513, f514, f515]
      decide
    · have e : bn A69 n m = 0 := by
        unfold bn
        rw [a43 m]
        rfl
      show (∀ k, k < bn A69 n m → _) ∧ (∀ k k', k < bn A69 n m → k' < bn A69 n m → _) ∧ (∀ k k', k < bn A69 n m → k' < bn A69 n m → _) ∧ (A69 (n + 45) m = 1 → _)
      rw [e, a45 m]
      exact ⟨fun k hk => absurd hk (Nat.not_lt_zero _), fun k k' hk => absurd hk (Nat.not_lt_zero _), fun k k' hk => absurd hk (Nat.not_lt_zero _), fun z => absurd z (by decide)⟩
    · show (0 ≤ (A69 (n + 40) m).toInt ∧ (A69 (n + 40) m).toInt ≤ 20000) ∧ (1 ≤ (A69 (n + 41) m).toInt ∧ (A69 (n + 41) m).toInt ≤ 5000) ∧ (0 ≤ (A69 (n + 42) m).toInt ∧ (A69 (n + 42) m).toInt ≤ 1201000) ∧ (A69 (n + 45) m = 0 ∨ A69 (n + 45) m = 1) ∧ (A69 (n + 46) m = 0 ∨ A69 (n + 46) m = 1) ∧ (-1 ≤ (A69 (n + 47) m).toInt ∧ (A69 (n + 47) m).toInt ≤ 9) ∧ (-1 ≤ (A69 (n + 48) m).toInt ∧ (A69 (n + 48) m).toInt ≤ 1200000) ∧ (-1 ≤ (A69 (n + 49) m).toInt ∧ (A69 (n + 49) m).toInt ≤ 1200000) ∧ (A69 (n + 45) m = 0 → A69 (n + 48) m = -1) ∧ (A69 (n + 48) m = -1 → A69 (n + 49) m = -1) ∧ (A69 (n + 49) m).toInt ≤ (A69 (n + 48) m).toInt
      rw [a40 m hm, a41 m hm, a42 m, a45 m, a46 m, a47 m hm, a48 m hm, a49 m hm]
      decide
    · show 0 ≤ (A69 (n + 54) v).toInt
      rw [a54]
      decide
    · show 0 ≤ (A69 (n + 58) k).toInt ∧ (A69 (n + 58) k).toInt + sumO A69 n 12 ≤ 2000000 * ((0 : Nat) : Int)
      rw [a58]
      simp only [sumO, a54]
      decide
    · show (A69 (n + 53) v).toInt ≤ 50000 ∧ (A69 (n + 54) v).toInt - 2000000 * ((0 : Nat) : Int) ≤ (A69 (n + 53) v).toInt ∧ (B54 (n + 56) v).toInt ≤ 2000000000 * ((0 : Nat) : Int) ∧ (B54 (n + 57) v).toInt ≤ 2000000 * ((0 : Nat) : Int)
      rw [a53, a54, b56, b57]
      decide
