/-! the fixed cells: what reads and writes of them give -/
def PS (h : oh_H) (a : Nat) : Prop := pS_K (oh_K h) a ∧ pS_N (oh_N h) a ∧ pS_R (oh_FR h) a ∧ pS_A (oh_AR h) a
theorem sK_0 {h : oh_H} {a : Nat} (P : PS h a) : oh_K h a = 8 := P.1.1
theorem sK_1 {h : oh_H} {a : Nat} (P : PS h a) : oh_K h (a + 1) = 23 := P.1.2.1
theorem sK_2 {h : oh_H} {a : Nat} (P : PS h a) : oh_K h (a + 2) = 24 := P.1.2.2.1
theorem sK_3 {h : oh_H} {a : Nat} (P : PS h a) : oh_K h (a + 3) = 25 := P.1.2.2.2.1
theorem sK_4 {h : oh_H} {a : Nat} (P : PS h a) : oh_K h (a + 4) = 26 := P.1.2.2.2.2.1
theorem sK_5 {h : oh_H} {a : Nat} (P : PS h a) : oh_K h (a + 5) = 1 := P.1.2.2.2.2.2.1
theorem sK_6 {h : oh_H} {a : Nat} (P : PS h a) : oh_K h (a + 6) = 20 := P.1.2.2.2.2.2.2.1
theorem sK_7 {h : oh_H} {a : Nat} (P : PS h a) : oh_K h (a + 7) = 6 := P.1.2.2.2.2.2.2.2.1
theorem sK_8 {h : oh_H} {a : Nat} (P : PS h a) : oh_K h (a + 8) = 5 := P.1.2.2.2.2.2.2.2.2.1
theorem sK_9 {h : oh_H} {a : Nat} (P : PS h a) : oh_K h (a + 9) = 20 := P.1.2.2.2.2.2.2.2.2.2.1
theorem sK_10 {h : oh_H} {a : Nat} (P : PS h a) : oh_K h (a + 10) = 20 := P.1.2.2.2.2.2.2.2.2.2.2.1
theorem sK_11 {h : oh_H} {a : Nat} (P : PS h a) : oh_K h (a + 11) = 20 := P.1.2.2.2.2.2.2.2.2.2.2.2.1
theorem sK_12 {h : oh_H} {a : Nat} (P : PS h a) : oh_K h (a + 12) = 20 := P.1.2.2.2.2.2.2.2.2.2.2.2.2.1
theorem sK_13 {h : oh_H} {a : Nat} (P : PS h a) : oh_K h (a + 13) = 20 := P.1.2.2.2.2.2.2.2.2.2.2.2.2.2.1
theorem sK_14 {h : oh_H} {a : Nat} (P : PS h a) : oh_K h (a + 14) = 20 := P.1.2.2.2.2.2.2.2.2.2.2.2.2.2.2.1
theorem sK_15 {h : oh_H} {a : Nat} (P : PS h a) : oh_K h (a + 15) = 20 := P.1.2.2.2.2.2.2.2.2.2.2.2.2.2.2.2.1
theorem sK_16 {h : oh_H} {a : Nat} (P : PS h a) : oh_K h (a + 16) = 20 := P.1.2.2.2.2.2.2.2.2.2.2.2.2.2.2.2.2.1
theorem sK_17 {h : oh_H} {a : Nat} (P : PS h a) : oh_K h (a + 17) = 4 := P.1.2.2.2.2.2.2.2.2.2.2.2.2.2.2.2.2.2.1
theorem sK_18 {h : oh_H} {a : Nat} (P : PS h a) : oh_K h (a + 18) = 24 := P.1.2.2.2.2.2.2.2.2.2.2.2.2.2.2.2.2.2.2.1
theorem sK_19 {h : oh_H} {a : Nat} (P : PS h a) : oh_K h (a + 19) = 21 := P.1.2.2.2.2.2.2.2.2.2.2.2.2.2.2.2.2.2.2.2.1
theorem sK_20 {h : oh_H} {a : Nat} (P : PS h a) : oh_K h (a + 20) = 4 := P.1.2.2.2.2.2.2.2.2.2.2.2.2.2.2.2.2.2.2.2.2.1
theorem sK_21 {h : oh_H} {a : Nat} (P : PS h a) : oh_K h (a + 21) = 24 := P.1.2.2.2.2.2.2.2.2.2.2.2.2.2.2.2.2.2.2.2.2.2.1
theorem sK_22 {h : oh_H} {a : Nat} (P : PS h a) : oh_K h (a + 22) = 21 := P.1.2.2.2.2.2.2.2.2.2.2.2.2.2.2.2.2.2.2.2.2.2.2.1
theorem sK_23 {h : oh_H} {a : Nat} (P : PS h a) : oh_K h (a + 23) = 4 := P.1.2.2.2.2.2.2.2.2.2.2.2.2.2.2.2.2.2.2.2.2.2.2.2.1
theorem sK_24 {h : oh_H} {a : Nat} (P : PS h a) : oh_K h (a + 24) = 24 := P.1.2.2.2.2.2.2.2.2.2.2.2.2.2.2.2.2.2.2.2.2.2.2.2.2.1
theorem sK_25 {h : oh_H} {a : Nat} (P : PS h a) : oh_K h (a + 25) = 21 := P.1.2.2.2.2.2.2.2.2.2.2.2.2.2.2.2.2.2.2.2.2.2.2.2.2.2.1
theorem sK_26 {h : oh_H} {a : Nat} (P : PS h a) : oh_K h (a + 26) = 9 := P.1.2.2.2.2.2.2.2.2.2.2.2.2.2.2.2.2.2.2.2.2.2.2.2.2.2.2.1
theorem sK_27 {h : oh_H} {a : Nat} (P : PS h a) : oh_K h (a + 27) = 20 := P.1.2.2.2.2.2.2.2.2.2.2.2.2.2.2.2.2.2.2.2.2.2.2.2.2.2.2.2.1
theorem sK_28 {h : oh_H} {a : Nat} (P : PS h a) : oh_K h (a + 28) = 20 := P.1.2.2.2.2.2.2.2.2.2.2.2.2.2.2.2.2.2.2.2.2.2.2.2.2.2.2.2.2.1
theorem sK_29 {h : oh_H} {a : Nat} (P : PS h a) : oh_K h (a + 29) = 20 := P.1.2.2.2.2.2.2.2.2.2.2.2.2.2.2.2.2.2.2.2.2.2.2.2.2.2.2.2.2.2.1
theorem sK_30 {h : oh_H} {a : Nat} (P : PS h a) : oh_K h (a + 30) = 20 := P.1.2.2.2.2.2.2.2.2.2.2.2.2.2.2.2.2.2.2.2.2.2.2.2.2.2.2.2.2.2.2.1
theorem sK_31 {h : oh_H} {a : Nat} (P : PS h a) : oh_K h (a + 31) = 20 := P.1.2.2.2.2.2.2.2.2.2.2.2.2.2.2.2.2.2.2.2.2.2.2.2.2.2.2.2.2.2.2.2.1
theorem sK_32 {h : oh_H} {a : Nat} (P : PS h a) : oh_K h (a + 32) = 20 := P.1.2.2.2.2.2.2.2.2.2.2.2.2.2.2.2.2.2.2.2.2.2.2.2.2.2.2.2.2.2.2.2.2.1
theorem sK_33 {h : oh_H} {a : Nat} (P : PS h a) : oh_K h (a + 33) = 20 := P.1.2.2.2.2.2.2.2.2.2.2.2.2.2.2.2.2.2.2.2.2.2.2.2.2.2.2.2.2.2.2.2.2.2.1
theorem sK_34 {h : oh_H} {a : Nat} (P : PS h a) : oh_K h (a + 34) = 20 := P.1.2.2.2.2.2.2.2.2.2.2.2.2.2.2.2.2.2.2.2.2.2.2.2.2.2.2.2.2.2.2.2.2.2.2.1
theorem sK_35 {h : oh_H} {a : Nat} (P : PS h a) : oh_K h (a + 35) = 20 := P.1.2.2.2.2.2.2.2.2.2.2.2.2.2.2.2.2.2.2.2.2.2.2.2.2.2.2.2.2.2.2.2.2.2.2.2.1
theorem sK_36 {h : oh_H} {a : Nat} (P : PS h a) : oh_K h (a + 36) = 20 := P.1.2.2.2.2.2.2.2.2.2.2.2.2.2.2.2.2.2.2.2.2.2.2.2.2.2.2.2.2.2.2.2.2.2.2.2.2.1
theorem sK_37 {h : oh_H} {a : Nat} (P : PS h a) : oh_K h (a + 37) = 20 := P.1.2.2.2.2.2.2.2.2.2.2.2.2.2.2.2.2.2.2.2.2.2.2.2.2.2.2.2.2.2.2.2.2.2.2.2.2.2.1
theorem sK_38 {h : oh_H} {a : Nat} (P : PS h a) : oh_K h (a + 38) = 20 := P.1.2.2.2.2.2.2.2.2.2.2.2.2.2.2.2.2.2.2.2.2.2.2.2.2.2.2.2.2.2.2.2.2.2.2.2.2.2.2.1
theorem sK_39 {h : oh_H} {a : Nat} (P : PS h a) : oh_K h (a + 39) = 22 := P.1.2.2.2.2.2.2.2.2.2.2.2.2.2.2.2.2.2.2.2.2.2.2.2.2.2.2.2.2.2.2.2.2.2.2.2.2.2.2.2.1
theorem sK_40 {h : oh_H} {a : Nat} (P : PS h a) : oh_K h (a + 40) = 20 := P.1.2.2.2.2.2.2.2.2.2.2.2.2.2.2.2.2.2.2.2.2.2.2.2.2.2.2.2.2.2.2.2.2.2.2.2.2.2.2.2.2.1
theorem sK_41 {h : oh_H} {a : Nat} (P : PS h a) : oh_K h (a + 41) = 20 := P.1.2.2.2.2.2.2.2.2.2.2.2.2.2.2.2.2.2.2.2.2.2.2.2.2.2.2.2.2.2.2.2.2.2.2.2.2.2.2.2.2.2.1
theorem sK_42 {h : oh_H} {a : Nat} (P : PS h a) : oh_K h (a + 42) = 20 := P.1.2.2.2.2.2.2.2.2.2.2.2.2.2.2.2.2.2.2.2.2.2.2.2.2.2.2.2.2.2.2.2.2.2.2.2.2.2.2.2.2.2.2.1
theorem sK_43 {h : oh_H} {a : Nat} (P : PS h a) : oh_K h (a + 43) = 20 := P.1.2.2.2.2.2.2.2.2.2.2.2.2.2.2.2.2.2.2.2.2.2.2.2.2.2.2.2.2.2.2.2.2.2.2.2.2.2.2.2.2.2.2.2.1
theorem sK_44 {h : oh_H} {a : Nat} (P : PS h a) : oh_K h (a + 44) = 20 := P.1.2.2.2.2.2.2.2.2.2.2.2.2.2.2.2.2.2.2.2.2.2.2.2.2.2.2.2.2.2.2.2.2.2.2.2.2.2.2.2.2.2.2.2.2.1
theorem sK_45 {h : oh_H} {a : Nat} (P : PS h a) : oh_K h (a + 45) = 22 := P.1.2.2.2.2.2.2.2.2.2.2.2.2.2.2.2.2.2.2.2.2.2.2.2.2.2.2.2.2.2.2.2.2.2.2.2.2.2.2.2.2.2.2.2.2.2.1
theorem sK_46 {h : oh_H} {a : Nat} (P : PS h a) : oh_K h (a + 46) = 22 := P.1.2.2.2.2.2.2.2.2.2.2.2.2.2.2.2.2.2.2.2.2.2.2.2.2.2.2.2.2.2.2.2.2.2.2.2.2.2.2.2.2.2.2.2.2.2.2.1
theorem sK_47 {h : oh_H} {a : Nat} (P : PS h a) : oh_K h (a + 47) = 20 := P.1.2.2.2.2.2.2.2.2.2.2.2.2.2.2.2.2.2.2.2.2.2.2.2.2.2.2.2.2.2.2.2.2.2.2.2.2.2.2.2.2.2.2.2.2.2.2.2.1
theorem sK_48 {h : oh_H} {a : Nat} (P : PS h a) : oh_K h (a + 48) = 20 := P.1.2.2.2.2.2.2.2.2.2.2.2.2.2.2.2.2.2.2.2.2.2.2.2.2.2.2.2.2.2.2.2.2.2.2.2.2.2.2.2.2.2.2.2.2.2.2.2.2.1
theorem sK_49 {h : oh_H} {a : Nat} (P : PS h a) : oh_K h (a + 49) = 20 := P.1.2.2.2.2.2.2.2.2.2.2.2.2.2.2.2.2.2.2.2.2.2.2.2.2.2.2.2.2.2.2.2.2.2.2.2.2.2.2.2.2.2.2.2.2.2.2.2.2.2.1
theorem sK_50 {h : oh_H} {a : Nat} (P : PS h a) : oh_K h (a + 50) = 20 := P.1.2.2.2.2.2.2.2.2.2.2.2.2.2.2.2.2.2.2.2.2.2.2.2.2.2.2.2.2.2.2.2.2.2.2.2.2.2.2.2.2.2.2.2.2.2.2.2.2.2.2.1
theorem sK_51 {h : oh_H} {a : Nat} (P : PS h a) : oh_K h (a + 51) = 22 := P.1.2.2.2.2.2.2.2.2.2.2.2.2.2.2.2.2.2.2.2.2.2.2.2.2.2.2.2.2.2.2.2.2.2.2.2.2.2.2.2.2.2.2.2.2.2.2.2.2.2.2.2.1
theorem sK_52 {h : oh_H} {a : Nat} (P : PS h a) : oh_K h (a + 52) = 20 := P.1.2.2.2.2.2.2.2.2.2.2.2.2.2.2.2.2.2.2.2.2.2.2.2.2.2.2.2.2.2.2.2.2.2.2.2.2.2.2.2.2.2.2.2.2.2.2.2.2.2.2.2.2.1
theorem sK_53 {h : oh_H} {a : Nat} (P : PS h a) : oh_K h (a + 53) = 20 := P.1.2.2.2.2.2.2.2.2.2.2.2.2.2.2.2.2.2.2.2.2.2.2.2.2.2.2.2.2.2.2.2.2.2.2.2.2.2.2.2.2.2.2.2.2.2.2.2.2.2.2.2.2.2.1
theorem sK_54 {h : oh_H} {a : Nat} (P : PS h a) : oh_K h (a + 54) = 20 := P.1.2.2.2.2.2.2.2.2.2.2.2.2.2.2.2.2.2.2.2.2.2.2.2.2.2.2.2.2.2.2.2.2.2.2.2.2.2.2.2.2.2.2.2.2.2.2.2.2.2.2.2.2.2.2.1
theorem sK_55 {h : oh_H} {a : Nat} (P : PS h a) : oh_K h (a + 55) = 22 := P.1.2.2.2.2.2.2.2.2.2.2.2.2.2.2.2.2.2.2.2.2.2.2.2.2.2.2.2.2.2.2.2.2.2.2.2.2.2.2.2.2.2.2.2.2.2.2.2.2.2.2.2.2.2.2.2.1
theorem sK_56 {h : oh_H} {a : Nat} (P : PS h a) : oh_K h (a + 56) = 21 := P.1.2.2.2.2.2.2.2.2.2.2.2.2.2.2.2.2.2.2.2.2.2.2.2.2.2.2.2.2.2.2.2.2.2.2.2.2.2.2.2.2.2.2.2.2.2.2.2.2.2.2.2.2.2.2.2.2.1
theorem sK_57 {h : oh_H} {a : Nat} (P : PS h a) : oh_K h (a + 57) = 21 := P.1.2.2.2.2.2.2.2.2.2.2.2.2.2.2.2.2.2.2.2.2.2.2.2.2.2.2.2.2.2.2.2.2.2.2.2.2.2.2.2.2.2.2.2.2.2.2.2.2.2.2.2.2.2.2.2.2.2.1
theorem sK_58 {h : oh_H} {a : Nat} (P : PS h a) : oh_K h (a + 58) = 20 := P.1.2.2.2.2.2.2.2.2.2.2.2.2.2.2.2.2.2.2.2.2.2.2.2.2.2.2.2.2.2.2.2.2.2.2.2.2.2.2.2.2.2.2.2.2.2.2.2.2.2.2.2.2.2.2.2.2.2.2.1
theorem sK_59 {h : oh_H} {a : Nat} (P : PS h a) : oh_K h (a + 59) = 20 := P.1.2.2.2.2.2.2.2.2.2.2.2.2.2.2.2.2.2.2.2.2.2.2.2.2.2.2.2.2.2.2.2.2.2.2.2.2.2.2.2.2.2.2.2.2.2.2.2.2.2.2.2.2.2.2.2.2.2.2.2.1
theorem sK_60 {h : oh_H} {a : Nat} (P : PS h a) : oh_K h (a + 60) = 20 := P.1.2.2.2.2.2.2.2.2.2.2.2.2.2.2.2.2.2.2.2.2.2.2.2.2.2.2.2.2.2.2.2.2.2.2.2.2.2.2.2.2.2.2.2.2.2.2.2.2.2.2.2.2.2.2.2.2.2.2.2.2.1
theorem sK_61 {h : oh_H} {a : Nat} (P : PS h a) : oh_K h (a + 61) = 20 := P.1.2.2.2.2.2.2.2.2.2.2.2.2.2.2.2.2.2.2.2.2.2.2.2.2.2.2.2.2.2.2.2.2.2.2.2.2.2.2.2.2.2.2.2.2.2.2.2.2.2.2.2.2.2.2.2.2.2.2.2.2.2
theorem sN_1 {h : oh_H} {a : Nat} (P : PS h a) : oh_N h (a + 1) = 60 := P.2.1.1
theorem sN_2 {h : oh_H} {a : Nat} (P : PS h a) : oh_N h (a + 2) = 200 := P.2.1.2.1
theorem sN_3 {h : oh_H} {a : Nat} (P : PS h a) : oh_N h (a + 3) = 3 := P.2.1.2.2.1
theorem sN_4 {h : oh_H} {a : Nat} (P : PS h a) : oh_N h (a + 4) = 12 := P.2.1.2.2.2.1
theorem sN_6 {h : oh_H} {a : Nat} (P : PS h a) : oh_N h (a + 6) = 120 := P.2.1.2.2.2.2.1
theorem sN_9 {h : oh_H} {a : Nat} (P : PS h a) : oh_N h (a + 9) = 8 := P.2.1.2.2.2.2.2.1
theorem sN_10 {h : oh_H} {a : Nat} (P : PS h a) : oh_N h (a + 10) = 8 := P.2.1.2.2.2.2.2.2.1
theorem sN_11 {h : oh_H} {a : Nat} (P : PS h a) : oh_N h (a + 11) = 8 := P.2.1.2.2.2.2.2.2.2.1
theorem sN_12 {h : oh_H} {a : Nat} (P : PS h a) : oh_N h (a + 12) = 8 := P.2.1.2.2.2.2.2.2.2.2.1
theorem sN_13 {h : oh_H} {a : Nat} (P : PS h a) : oh_N h (a + 13) = 256 := P.2.1.2.2.2.2.2.2.2.2.2.1
theorem sN_14 {h : oh_H} {a : Nat} (P : PS h a) : oh_N h (a + 14) = 256 := P.2.1.2.2.2.2.2.2.2.2.2.2.1
theorem sN_15 {h : oh_H} {a : Nat} (P : PS h a) : oh_N h (a + 15) = 18432 := P.2.1.2.2.2.2.2.2.2.2.2.2.2.1
theorem sN_16 {h : oh_H} {a : Nat} (P : PS h a) : oh_N h (a + 16) = 8 := P.2.1.2.2.2.2.2.2.2.2.2.2.2.2.1
theorem sN_18 {h : oh_H} {a : Nat} (P : PS h a) : oh_N h (a + 18) = 12 := P.2.1.2.2.2.2.2.2.2.2.2.2.2.2.2.1
theorem sN_19 {h : oh_H} {a : Nat} (P : PS h a) : oh_N h (a + 19) = 12 := P.2.1.2.2.2.2.2.2.2.2.2.2.2.2.2.2.1
theorem sN_21 {h : oh_H} {a : Nat} (P : PS h a) : oh_N h (a + 21) = 12 := P.2.1.2.2.2.2.2.2.2.2.2.2.2.2.2.2.2.1
theorem sN_22 {h : oh_H} {a : Nat} (P : PS h a) : oh_N h (a + 22) = 12 := P.2.1.2.2.2.2.2.2.2.2.2.2.2.2.2.2.2.2.1
theorem sN_24 {h : oh_H} {a : Nat} (P : PS h a) : oh_N h (a + 24) = 12 := P.2.1.2.2.2.2.2.2.2.2.2.2.2.2.2.2.2.2.2.1
theorem sN_25 {h : oh_H} {a : Nat} (P : PS h a) : oh_N h (a + 25) = 12 := P.2.1.2.2.2.2.2.2.2.2.2.2.2.2.2.2.2.2.2.2.1
theorem sN_27 {h : oh_H} {a : Nat} (P : PS h a) : oh_N h (a + 27) = 60 := P.2.1.2.2.2.2.2.2.2.2.2.2.2.2.2.2.2.2.2.2.2.1
theorem sN_28 {h : oh_H} {a : Nat} (P : PS h a) : oh_N h (a + 28) = 60 := P.2.1.2.2.2.2.2.2.2.2.2.2.2.2.2.2.2.2.2.2.2.2.1
theorem sN_29 {h : oh_H} {a : Nat} (P : PS h a) : oh_N h (a + 29) = 200 := P.2.1.2.2.2.2.2.2.2.2.2.2.2.2.2.2.2.2.2.2.2.2.2.1
theorem sN_30 {h : oh_H} {a : Nat} (P : PS h a) : oh_N h (a + 30) = 200 := P.2.1.2.2.2.2.2.2.2.2.2.2.2.2.2.2.2.2.2.2.2.2.2.2.1
theorem sN_31 {h : oh_H} {a : Nat} (P : PS h a) : oh_N h (a + 31) = 200 := P.2.1.2.2.2.2.2.2.2.2.2.2.2.2.2.2.2.2.2.2.2.2.2.2.2.1
theorem sN_32 {h : oh_H} {a : Nat} (P : PS h a) : oh_N h (a + 32) = 200 := P.2.1.2.2.2.2.2.2.2.2.2.2.2.2.2.2.2.2.2.2.2.2.2.2.2.2.1
theorem sN_33 {h : oh_H} {a : Nat} (P : PS h a) : oh_N h (a + 33) = 200 := P.2.1.2.2.2.2.2.2.2.2.2.2.2.2.2.2.2.2.2.2.2.2.2.2.2.2.2.1
theorem sN_34 {h : oh_H} {a : Nat} (P : PS h a) : oh_N h (a + 34) = 200 := P.2.1.2.2.2.2.2.2.2.2.2.2.2.2.2.2.2.2.2.2.2.2.2.2.2.2.2.2.1
theorem sN_35 {h : oh_H} {a : Nat} (P : PS h a) : oh_N h (a + 35) = 200 := P.2.1.2.2.2.2.2.2.2.2.2.2.2.2.2.2.2.2.2.2.2.2.2.2.2.2.2.2.2.1
theorem sN_36 {h : oh_H} {a : Nat} (P : PS h a) : oh_N h (a + 36) = 200 := P.2.1.2.2.2.2.2.2.2.2.2.2.2.2.2.2.2.2.2.2.2.2.2.2.2.2.2.2.2.2.1
theorem sN_37 {h : oh_H} {a : Nat} (P : PS h a) : oh_N h (a + 37) = 200 := P.2.1.2.2.2.2.2.2.2.2.2.2.2.2.2.2.2.2.2.2.2.2.2.2.2.2.2.2.2.2.2.1
theorem sN_38 {h : oh_H} {a : Nat} (P : PS h a) : oh_N h (a + 38) = 200 := P.2.1.2.2.2.2.2.2.2.2.2.2.2.2.2.2.2.2.2.2.2.2.2.2.2.2.2.2.2.2.2.2.1
theorem sN_39 {h : oh_H} {a : Nat} (P : PS h a) : oh_N h (a + 39) = 200 := P.2.1.2.2.2.2.2.2.2.2.2.2.2.2.2.2.2.2.2.2.2.2.2.2.2.2.2.2.2.2.2.2.2.1
theorem sN_40 {h : oh_H} {a : Nat} (P : PS h a) : oh_N h (a + 40) = 3 := P.2.1.2.2.2.2.2.2.2.2.2.2.2.2.2.2.2.2.2.2.2.2.2.2.2.2.2.2.2.2.2.2.2.2.1
theorem sN_41 {h : oh_H} {a : Nat} (P : PS h a) : oh_N h (a + 41) = 3 := P.2.1.2.2.2.2.2.2.2.2.2.2.2.2.2.2.2.2.2.2.2.2.2.2.2.2.2.2.2.2.2.2.2.2.2.1
theorem sN_42 {h : oh_H} {a : Nat} (P : PS h a) : oh_N h (a + 42) = 3 := P.2.1.2.2.2.2.2.2.2.2.2.2.2.2.2.2.2.2.2.2.2.2.2.2.2.2.2.2.2.2.2.2.2.2.2.2.1
theorem sN_43 {h : oh_H} {a : Nat} (P : PS h a) : oh_N h (a + 43) = 3 := P.2.1.2.2.2.2.2.2.2.2.2.2.2.2.2.2.2.2.2.2.2.2.2.2.2.2.2.2.2.2.2.2.2.2.2.2.2.1
theorem sN_44 {h : oh_H} {a : Nat} (P : PS h a) : oh_N h (a + 44) = 36 := P.2.1.2.2.2.2.2.2.2.2.2.2.2.2.2.2.2.2.2.2.2.2.2.2.2.2.2.2.2.2.2.2.2.2.2.2.2.2.1
theorem sN_45 {h : oh_H} {a : Nat} (P : PS h a) : oh_N h (a + 45) = 3 := P.2.1.2.2.2.2.2.2.2.2.2.2.2.2.2.2.2.2.2.2.2.2.2.2.2.2.2.2.2.2.2.2.2.2.2.2.2.2.2.1
theorem sN_46 {h : oh_H} {a : Nat} (P : PS h a) : oh_N h (a + 46) = 3 := P.2.1.2.2.2.2.2.2.2.2.2.2.2.2.2.2.2.2.2.2.2.2.2.2.2.2.2.2.2.2.2.2.2.2.2.2.2.2.2.2.1
theorem sN_47 {h : oh_H} {a : Nat} (P : PS h a) : oh_N h (a + 47) = 3 := P.2.1.2.2.2.2.2.2.2.2.2.2.2.2.2.2.2.2.2.2.2.2.2.2.2.2.2.2.2.2.2.2.2.2.2.2.2.2.2.2.2.1
theorem sN_48 {h : oh_H} {a : Nat} (P : PS h a) : oh_N h (a + 48) = 3 := P.2.1.2.2.2.2.2.2.2.2.2.2.2.2.2.2.2.2.2.2.2.2.2.2.2.2.2.2.2.2.2.2.2.2.2.2.2.2.2.2.2.2.1
theorem sN_49 {h : oh_H} {a : Nat} (P : PS h a) : oh_N h (a + 49) = 3 := P.2.1.2.2.2.2.2.2.2.2.2.2.2.2.2.2.2.2.2.2.2.2.2.2.2.2.2.2.2.2.2.2.2.2.2.2.2.2.2.2.2.2.2.1
theorem sN_50 {h : oh_H} {a : Nat} (P : PS h a) : oh_N h (a + 50) = 12 := P.2.1.2.2.2.2.2.2.2.2.2.2.2.2.2.2.2.2.2.2.2.2.2.2.2.2.2.2.2.2.2.2.2.2.2.2.2.2.2.2.2.2.2.2.1
theorem sN_51 {h : oh_H} {a : Nat} (P : PS h a) : oh_N h (a + 51) = 12 := P.2.1.2.2.2.2.2.2.2.2.2.2.2.2.2.2.2.2.2.2.2.2.2.2.2.2.2.2.2.2.2.2.2.2.2.2.2.2.2.2.2.2.2.2.2.1
theorem sN_52 {h : oh_H} {a : Nat} (P : PS h a) : oh_N h (a + 52) = 12 := P.2.1.2.2.2.2.2.2.2.2.2.2.2.2.2.2.2.2.2.2.2.2.2.2.2.2.2.2.2.2.2.2.2.2.2.2.2.2.2.2.2.2.2.2.2.2.1
theorem sN_53 {h : oh_H} {a : Nat} (P : PS h a) : oh_N h (a + 53) = 12 := P.2.1.2.2.2.2.2.2.2.2.2.2.2.2.2.2.2.2.2.2.2.2.2.2.2.2.2.2.2.2.2.2.2.2.2.2.2.2.2.2.2.2.2.2.2.2.2.1
theorem sN_54 {h : oh_H} {a : Nat} (P : PS h a) : oh_N h (a + 54) = 12 := P.2.1.2.2.2.2.2.2.2.2.2.2.2.2.2.2.2.2.2.2.2.2.2.2.2.2.2.2.2.2.2.2.2.2.2.2.2.2.2.2.2.2.2.2.2.2.2.2.1
theorem sN_55 {h : oh_H} {a : Nat} (P : PS h a) : oh_N h (a + 55) = 12 := P.2.1.2.2.2.2.2.2.2.2.2.2.2.2.2.2.2.2.2.2.2.2.2.2.2.2.2.2.2.2.2.2.2.2.2.2.2.2.2.2.2.2.2.2.2.2.2.2.2.1
theorem sN_56 {h : oh_H} {a : Nat} (P : PS h a) : oh_N h (a + 56) = 12 := P.2.1.2.2.2.2.2.2.2.2.2.2.2.2.2.2.2.2.2.2.2.2.2.2.2.2.2.2.2.2.2.2.2.2.2.2.2.2.2.2.2.2.2.2.2.2.2.2.2.2.1
theorem sN_57 {h : oh_H} {a : Nat} (P : PS h a) : oh_N h (a + 57) = 12 := P.2.1.2.2.2.2.2.2.2.2.2.2.2.2.2.2.2.2.2.2.2.2.2.2.2.2.2.2.2.2.2.2.2.2.2.2.2.2.2.2.2.2.2.2.2.2.2.2.2.2.2.1
theorem sN_58 {h : oh_H} {a : Nat} (P : PS h a) : oh_N h (a + 58) = 120 := P.2.1.2.2.2.2.2.2.2.2.2.2.2.2.2.2.2.2.2.2.2.2.2.2.2.2.2.2.2.2.2.2.2.2.2.2.2.2.2.2.2.2.2.2.2.2.2.2.2.2.2.2.1
theorem sN_59 {h : oh_H} {a : Nat} (P : PS h a) : oh_N h (a + 59) = 8 := P.2.1.2.2.2.2.2.2.2.2.2.2.2.2.2.2.2.2.2.2.2.2.2.2.2.2.2.2.2.2.2.2.2.2.2.2.2.2.2.2.2.2.2.2.2.2.2.2.2.2.2.2.2.1
theorem sN_60 {h : oh_H} {a : Nat} (P : PS h a) : oh_N h (a + 60) = 8 := P.2.1.2.2.2.2.2.2.2.2.2.2.2.2.2.2.2.2.2.2.2.2.2.2.2.2.2.2.2.2.2.2.2.2.2.2.2.2.2.2.2.2.2.2.2.2.2.2.2.2.2.2.2.2.1
theorem sN_61 {h : oh_H} {a : Nat} (P : PS h a) : oh_N h (a + 61) = 8 := P.2.1.2.2.2.2.2.2.2.2.2.2.2.2.2.2.2.2.2.2.2.2.2.2.2.2.2.2.2.2.2.2.2.2.2.2.2.2.2.2.2.2.2.2.2.2.2.2.2.2.2.2.2.2.2
theorem sR_0_5 {h : oh_H} {a : Nat} (P : PS h a) : oh_FR h 0 (a + 5) = some (a + 6) := P.2.2.1.1
theorem sR_193_17 {h : oh_H} {a : Nat} (P : PS h a) : oh_FR h 193 (a + 17) = some (a + 18) := P.2.2.1.2.1
theorem sR_193_20 {h : oh_H} {a : Nat} (P : PS h a) : oh_FR h 193 (a + 20) = some (a + 21) := P.2.2.1.2.2.1
theorem sR_193_23 {h : oh_H} {a : Nat} (P : PS h a) : oh_FR h 193 (a + 23) = some (a + 24) := P.2.2.1.2.2.2.1
theorem sR_194_17 {h : oh_H} {a : Nat} (P : PS h a) : oh_FR h 194 (a + 17) = some (a + 19) := P.2.2.1.2.2.2.2.1
theorem sR_194_20 {h : oh_H} {a : Nat} (P : PS h a) : oh_FR h 194 (a + 20) = some (a + 22) := P.2.2.1.2.2.2.2.2.1
theorem sR_194_23 {h : oh_H} {a : Nat} (P : PS h a) : oh_FR h 194 (a + 23) = some (a + 25) := P.2.2.1.2.2.2.2.2.2.1
theorem sR_256_8 {h : oh_H} {a : Nat} (P : PS h a) : oh_FR h 256 (a + 8) = some (a + 9) := P.2.2.1.2.2.2.2.2.2.2.1
theorem sR_257_8 {h : oh_H} {a : Nat} (P : PS h a) : oh_FR h 257 (a + 8) = some (a + 10) := P.2.2.1.2.2.2.2.2.2.2.2.1
theorem sR_258_8 {h : oh_H} {a : Nat} (P : PS h a) : oh_FR h 258 (a + 8) = some (a + 11) := P.2.2.1.2.2.2.2.2.2.2.2.2.1
theorem sR_259_8 {h : oh_H} {a : Nat} (P : PS h a) : oh_FR h 259 (a + 8) = some (a + 12) := P.2.2.1.2.2.2.2.2.2.2.2.2.2.1
theorem sR_260_8 {h : oh_H} {a : Nat} (P : PS h a) : oh_FR h 260 (a + 8) = some (a + 13) := P.2.2.1.2.2.2.2.2.2.2.2.2.2.2.1
theorem sR_261_8 {h : oh_H} {a : Nat} (P : PS h a) : oh_FR h 261 (a + 8) = some (a + 14) := P.2.2.1.2.2.2.2.2.2.2.2.2.2.2.2.1
theorem sR_262_8 {h : oh_H} {a : Nat} (P : PS h a) : oh_FR h 262 (a + 8) = some (a + 15) := P.2.2.1.2.2.2.2.2.2.2.2.2.2.2.2.2.1
theorem sR_266_8 {h : oh_H} {a : Nat} (P : PS h a) : oh_FR h 266 (a + 8) = some (a + 16) := P.2.2.1.2.2.2.2.2.2.2.2.2.2.2.2.2.2.1
theorem sR_448_0 {h : oh_H} {a : Nat} (P : PS h a) : oh_FR h 448 a = some (a + 1) := P.2.2.1.2.2.2.2.2.2.2.2.2.2.2.2.2.2.2.1
theorem sR_449_0 {h : oh_H} {a : Nat} (P : PS h a) : oh_FR h 449 a = some (a + 2) := P.2.2.1.2.2.2.2.2.2.2.2.2.2.2.2.2.2.2.2.1
theorem sR_450_0 {h : oh_H} {a : Nat} (P : PS h a) : oh_FR h 450 a = some (a + 3) := P.2.2.1.2.2.2.2.2.2.2.2.2.2.2.2.2.2.2.2.2.1
theorem sR_451_0 {h : oh_H} {a : Nat} (P : PS h a) : oh_FR h 451 a = some (a + 4) := P.2.2.1.2.2.2.2.2.2.2.2.2.2.2.2.2.2.2.2.2.2.1
theorem sR_452_0 {h : oh_H} {a : Nat} (P : PS h a) : oh_FR h 452 a = some (a + 5) := P.2.2.1.2.2.2.2.2.2.2.2.2.2.2.2.2.2.2.2.2.2.2.1
theorem sR_453_0 {h : oh_H} {a : Nat} (P : PS h a) : oh_FR h 453 a = some (a + 7) := P.2.2.1.2.2.2.2.2.2.2.2.2.2.2.2.2.2.2.2.2.2.2.2.1
theorem sR_454_0 {h : oh_H} {a : Nat} (P : PS h a) : oh_FR h 454 a = some (a + 8) := P.2.2.1.2.2.2.2.2.2.2.2.2.2.2.2.2.2.2.2.2.2.2.2.2.1
theorem sR_517_26 {h : oh_H} {a : Nat} (P : PS h a) : oh_FR h 517 (a + 26) = some (a + 27) := P.2.2.1.2.2.2.2.2.2.2.2.2.2.2.2.2.2.2.2.2.2.2.2.2.2.1
theorem sR_518_26 {h : oh_H} {a : Nat} (P : PS h a) : oh_FR h 518 (a + 26) = some (a + 28) := P.2.2.1.2.2.2.2.2.2.2.2.2.2.2.2.2.2.2.2.2.2.2.2.2.2.2.1
theorem sR_520_26 {h : oh_H} {a : Nat} (P : PS h a) : oh_FR h 520 (a + 26) = some (a + 29) := P.2.2.1.2.2.2.2.2.2.2.2.2.2.2.2.2.2.2.2.2.2.2.2.2.2.2.2.1
theorem sR_521_26 {h : oh_H} {a : Nat} (P : PS h a) : oh_FR h 521 (a + 26) = some (a + 30) := P.2.2.1.2.2.2.2.2.2.2.2.2.2.2.2.2.2.2.2.2.2.2.2.2.2.2.2.2.1
theorem sR_522_26 {h : oh_H} {a : Nat} (P : PS h a) : oh_FR h 522 (a + 26) = some (a + 31) := P.2.2.1.2.2.2.2.2.2.2.2.2.2.2.2.2.2.2.2.2.2.2.2.2.2.2.2.2.2.1
theorem sR_523_26 {h : oh_H} {a : Nat} (P : PS h a) : oh_FR h 523 (a + 26) = some (a + 32) := P.2.2.1.2.2.2.2.2.2.2.2.2.2.2.2.2.2.2.2.2.2.2.2.2.2.2.2.2.2.2.1
theorem sR_524_26 {h : oh_H} {a : Nat} (P : PS h a) : oh_FR h 524 (a + 26) = some (a + 33) := P.2.2.1.2.2.2.2.2.2.2.2.2.2.2.2.2.2.2.2.2.2.2.2.2.2.2.2.2.2.2.2.1
theorem sR_525_26 {h : oh_H} {a : Nat} (P : PS h a) : oh_FR h 525 (a + 26) = some (a + 34) := P.2.2.1.2.2.2.2.2.2.2.2.2.2.2.2.2.2.2.2.2.2.2.2.2.2.2.2.2.2.2.2.2.1
theorem sR_526_26 {h : oh_H} {a : Nat} (P : PS h a) : oh_FR h 526 (a + 26) = some (a + 35) := P.2.2.1.2.2.2.2.2.2.2.2.2.2.2.2.2.2.2.2.2.2.2.2.2.2.2.2.2.2.2.2.2.2.1
theorem sR_527_26 {h : oh_H} {a : Nat} (P : PS h a) : oh_FR h 527 (a + 26) = some (a + 36) := P.2.2.1.2.2.2.2.2.2.2.2.2.2.2.2.2.2.2.2.2.2.2.2.2.2.2.2.2.2.2.2.2.2.2.1
theorem sR_528_26 {h : oh_H} {a : Nat} (P : PS h a) : oh_FR h 528 (a + 26) = some (a + 37) := P.2.2.1.2.2.2.2.2.2.2.2.2.2.2.2.2.2.2.2.2.2.2.2.2.2.2.2.2.2.2.2.2.2.2.2.1
theorem sR_529_26 {h : oh_H} {a : Nat} (P : PS h a) : oh_FR h 529 (a + 26) = some (a + 38) := P.2.2.1.2.2.2.2.2.2.2.2.2.2.2.2.2.2.2.2.2.2.2.2.2.2.2.2.2.2.2.2.2.2.2.2.2.1
theorem sR_530_26 {h : oh_H} {a : Nat} (P : PS h a) : oh_FR h 530 (a + 26) = some (a + 39) := P.2.2.1.2.2.2.2.2.2.2.2.2.2.2.2.2.2.2.2.2.2.2.2.2.2.2.2.2.2.2.2.2.2.2.2.2.2.1
theorem sR_531_26 {h : oh_H} {a : Nat} (P : PS h a) : oh_FR h 531 (a + 26) = some (a + 40) := P.2.2.1.2.2.2.2.2.2.2.2.2.2.2.2.2.2.2.2.2.2.2.2.2.2.2.2.2.2.2.2.2.2.2.2.2.2.2.1
theorem sR_532_26 {h : oh_H} {a : Nat} (P : PS h a) : oh_FR h 532 (a + 26) = some (a + 41) := P.2.2.1.2.2.2.2.2.2.2.2.2.2.2.2.2.2.2.2.2.2.2.2.2.2.2.2.2.2.2.2.2.2.2.2.2.2.2.2.1
theorem sR_533_26 {h : oh_H} {a : Nat} (P : PS h a) : oh_FR h 533 (a + 26) = some (a + 42) := P.2.2.1.2.2.2.2.2.2.2.2.2.2.2.2.2.2.2.2.2.2.2.2.2.2.2.2.2.2.2.2.2.2.2.2.2.2.2.2.2.1
theorem sR_534_26 {h : oh_H} {a : Nat} (P : PS h a) : oh_FR h 534 (a + 26) = some (a + 43) := P.2.2.1.2.2.2.2.2.2.2.2.2.2.2.2.2.2.2.2.2.2.2.2.2.2.2.2.2.2.2.2.2.2.2.2.2.2.2.2.2.2.1
theorem sR_535_26 {h : oh_H} {a : Nat} (P : PS h a) : oh_FR h 535 (a + 26) = some (a + 44) := P.2.2.1.2.2.2.2.2.2.2.2.2.2.2.2.2.2.2.2.2.2.2.2.2.2.2.2.2.2.2.2.2.2.2.2.2.2.2.2.2.2.2.1
theorem sR_536_26 {h : oh_H} {a : Nat} (P : PS h a) : oh_FR h 536 (a + 26) = some (a + 45) := P.2.2.1.2.2.2.2.2.2.2.2.2.2.2.2.2.2.2.2.2.2.2.2.2.2.2.2.2.2.2.2.2.2.2.2.2.2.2.2.2.2.2.2.1
theorem sR_537_26 {h : oh_H} {a : Nat} (P : PS h a) : oh_FR h 537 (a + 26) = some (a + 46) := P.2.2.1.2.2.2.2.2.2.2.2.2.2.2.2.2.2.2.2.2.2.2.2.2.2.2.2.2.2.2.2.2.2.2.2.2.2.2.2.2.2.2.2.2.1
theorem sR_538_26 {h : oh_H} {a : Nat} (P : PS h a) : oh_FR h 538 (a + 26) = some (a + 47) := P.2.2.1.2.2.2.2.2.2.2.2.2.2.2.2.2.2.2.2.2.2.2.2.2.2.2.2.2.2.2.2.2.2.2.2.2.2.2.2.2.2.2.2.2.2.1
theorem sR_539_26 {h : oh_H} {a : Nat} (P : PS h a) : oh_FR h 539 (a + 26) = some (a + 48) := P.2.2.1.2.2.2.2.2.2.2.2.2.2.2.2.2.2.2.2.2.2.2.2.2.2.2.2.2.2.2.2.2.2.2.2.2.2.2.2.2.2.2.2.2.2.2.1
theorem sR_540_26 {h : oh_H} {a : Nat} (P : PS h a) : oh_FR h 540 (a + 26) = some (a + 49) := P.2.2.1.2.2.2.2.2.2.2.2.2.2.2.2.2.2.2.2.2.2.2.2.2.2.2.2.2.2.2.2.2.2.2.2.2.2.2.2.2.2.2.2.2.2.2.2.1
theorem sR_542_26 {h : oh_H} {a : Nat} (P : PS h a) : oh_FR h 542 (a + 26) = some (a + 50) := P.2.2.1.2.2.2.2.2.2.2.2.2.2.2.2.2.2.2.2.2.2.2.2.2.2.2.2.2.2.2.2.2.2.2.2.2.2.2.2.2.2.2.2.2.2.2.2.2.1
theorem sR_543_26 {h : oh_H} {a : Nat} (P : PS h a) : oh_FR h 543 (a + 26) = some (a + 51) := P.2.2.1.2.2.2.2.2.2.2.2.2.2.2.2.2.2.2.2.2.2.2.2.2.2.2.2.2.2.2.2.2.2.2.2.2.2.2.2.2.2.2.2.2.2.2.2.2.2.1
theorem sR_544_26 {h : oh_H} {a : Nat} (P : PS h a) : oh_FR h 544 (a + 26) = some (a + 52) := P.2.2.1.2.2.2.2.2.2.2.2.2.2.2.2.2.2.2.2.2.2.2.2.2.2.2.2.2.2.2.2.2.2.2.2.2.2.2.2.2.2.2.2.2.2.2.2.2.2.2.1
theorem sR_545_26 {h : oh_H} {a : Nat} (P : PS h a) : oh_FR h 545 (a + 26) = some (a + 53) := P.2.2.1.2.2.2.2.2.2.2.2.2.2.2.2.2.2.2.2.2.2.2.2.2.2.2.2.2.2.2.2.2.2.2.2.2.2.2.2.2.2.2.2.2.2.2.2.2.2.2.2.1
theorem sR_546_26 {h : oh_H} {a : Nat} (P : PS h a) : oh_FR h 546 (a + 26) = some (a + 54) := P.2.2.1.2.2.2.2.2.2.2.2.2.2.2.2.2.2.2.2.2.2.2.2.2.2.2.2.2.2.2.2.2.2.2.2.2.2.2.2.2.2.2.2.2.2.2.2.2.2.2.2.2.1
theorem sR_547_26 {h : oh_H} {a : Nat} (P : PS h a) : oh_FR h 547 (a + 26) = some (a + 55) := P.2.2.1.2.2.2.2.2.2.2.2.2.2.2.2.2.2.2.2.2.2.2.2.2.2.2.2.2.2.2.2.2.2.2.2.2.2.2.2.2.2.2.2.2.2.2.2.2.2.2.2.2.2.1
theorem sR_548_26 {h : oh_H} {a : Nat} (P : PS h a) : oh_FR h 548 (a + 26) = some (a + 56) := P.2.2.1.2.2.2.2.2.2.2.2.2.2.2.2.2.2.2.2.2.2.2.2.2.2.2.2.2.2.2.2.2.2.2.2.2.2.2.2.2.2.2.2.2.2.2.2.2.2.2.2.2.2.2.1
theorem sR_549_26 {h : oh_H} {a : Nat} (P : PS h a) : oh_FR h 549 (a + 26) = some (a + 57) := P.2.2.1.2.2.2.2.2.2.2.2.2.2.2.2.2.2.2.2.2.2.2.2.2.2.2.2.2.2.2.2.2.2.2.2.2.2.2.2.2.2.2.2.2.2.2.2.2.2.2.2.2.2.2.2.1
theorem sR_550_26 {h : oh_H} {a : Nat} (P : PS h a) : oh_FR h 550 (a + 26) = some (a + 58) := P.2.2.1.2.2.2.2.2.2.2.2.2.2.2.2.2.2.2.2.2.2.2.2.2.2.2.2.2.2.2.2.2.2.2.2.2.2.2.2.2.2.2.2.2.2.2.2.2.2.2.2.2.2.2.2.2.1
theorem sR_560_26 {h : oh_H} {a : Nat} (P : PS h a) : oh_FR h 560 (a + 26) = some (a + 59) := P.2.2.1.2.2.2.2.2.2.2.2.2.2.2.2.2.2.2.2.2.2.2.2.2.2.2.2.2.2.2.2.2.2.2.2.2.2.2.2.2.2.2.2.2.2.2.2.2.2.2.2.2.2.2.2.2.2.1
theorem sR_562_26 {h : oh_H} {a : Nat} (P : PS h a) : oh_FR h 562 (a + 26) = some (a + 60) := P.2.2.1.2.2.2.2.2.2.2.2.2.2.2.2.2.2.2.2.2.2.2.2.2.2.2.2.2.2.2.2.2.2.2.2.2.2.2.2.2.2.2.2.2.2.2.2.2.2.2.2.2.2.2.2.2.2.2.1
theorem sR_563_26 {h : oh_H} {a : Nat} (P : PS h a) : oh_FR h 563 (a + 26) = some (a + 61) := P.2.2.1.2.2.2.2.2.2.2.2.2.2.2.2.2.2.2.2.2.2.2.2.2.2.2.2.2.2.2.2.2.2.2.2.2.2.2.2.2.2.2.2.2.2.2.2.2.2.2.2.2.2.2.2.2.2.2.2
theorem sA_3_0 {h : oh_H} {a : Nat} (P : PS h a) : oh_AR h (a + 3) 0 = some (a + 17) := P.2.2.2.1
theorem sA_3_1 {h : oh_H} {a : Nat} (P : PS h a) : oh_AR h (a + 3) 1 = some (a + 20) := P.2.2.2.2.1
theorem sA_3_2 {h : oh_H} {a : Nat} (P : PS h a) : oh_AR h (a + 3) 2 = some (a + 23) := P.2.2.2.2.2
theorem g_448_0 {h : oh_H} {a : Nat} (P : PS h a) : oh_gR h (some a) 448 = some (some (a + 1)) := (e_gR (sK_0 P)).trans (congrArg some (sR_448_0 P))
theorem g_449_0 {h : oh_H} {a : Nat} (P : PS h a) : oh_gR h (some a) 449 = some (some (a + 2)) := (e_gR (sK_0 P)).trans (congrArg some (sR_449_0 P))
theorem g_450_0 {h : oh_H} {a : Nat} (P : PS h a) : oh_gR h (some a) 450 = some (some (a + 3)) := (e_gR (sK_0 P)).trans (congrArg some (sR_450_0 P))
theorem g_451_0 {h : oh_H} {a : Nat} (P : PS h a) : oh_gR h (some a) 451 = some (some (a + 4)) := (e_gR (sK_0 P)).trans (congrArg some (sR_451_0 P))
theorem g_452_0 {h : oh_H} {a : Nat} (P : PS h a) : oh_gR h (some a) 452 = some (some (a + 5)) := (e_gR (sK_0 P)).trans (congrArg some (sR_452_0 P))
theorem g_453_0 {h : oh_H} {a : Nat} (P : PS h a) : oh_gR h (some a) 453 = some (some (a + 7)) := (e_gR (sK_0 P)).trans (congrArg some (sR_453_0 P))
theorem g_454_0 {h : oh_H} {a : Nat} (P : PS h a) : oh_gR h (some a) 454 = some (some (a + 8)) := (e_gR (sK_0 P)).trans (congrArg some (sR_454_0 P))
theorem g_455_0 {h : oh_H} {a : Nat} (P : PS h a) : oh_gI h (some a) 455 = some (oh_FI h 455 a) := e_gI (sK_0 P)
theorem p_455_0 {h : oh_H} {a : Nat} (P : PS h a) (x : Int32) : oh_pI h (some a) 455 x = some (oh_wI h 455 a x) := e_pI (sK_0 P)
theorem g_456_0 {h : oh_H} {a : Nat} (P : PS h a) : oh_gI h (some a) 456 = some (oh_FI h 456 a) := e_gI (sK_0 P)
theorem p_456_0 {h : oh_H} {a : Nat} (P : PS h a) (x : Int32) : oh_pI h (some a) 456 x = some (oh_wI h 456 a x) := e_pI (sK_0 P)
theorem g_457_0 {h : oh_H} {a : Nat} (P : PS h a) : oh_gI h (some a) 457 = some (oh_FI h 457 a) := e_gI (sK_0 P)
theorem p_457_0 {h : oh_H} {a : Nat} (P : PS h a) (x : Int32) : oh_pI h (some a) 457 x = some (oh_wI h 457 a x) := e_pI (sK_0 P)
theorem g_458_0 {h : oh_H} {a : Nat} (P : PS h a) : oh_gI h (some a) 458 = some (oh_FI h 458 a) := e_gI (sK_0 P)
theorem p_458_0 {h : oh_H} {a : Nat} (P : PS h a) (x : Int32) : oh_pI h (some a) 458 x = some (oh_wI h 458 a x) := e_pI (sK_0 P)
theorem g_459_0 {h : oh_H} {a : Nat} (P : PS h a) : oh_gI h (some a) 459 = some (oh_FI h 459 a) := e_gI (sK_0 P)
theorem p_459_0 {h : oh_H} {a : Nat} (P : PS h a) (x : Int32) : oh_pI h (some a) 459 x = some (oh_wI h 459 a x) := e_pI (sK_0 P)
theorem g_460_0 {h : oh_H} {a : Nat} (P : PS h a) : oh_gI h (some a) 460 = some (oh_FI h 460 a) := e_gI (sK_0 P)
theorem p_460_0 {h : oh_H} {a : Nat} (P : PS h a) (x : Int32) : oh_pI h (some a) 460 x = some (oh_wI h 460 a x) := e_pI (sK_0 P)
theorem g_461_0 {h : oh_H} {a : Nat} (P : PS h a) : oh_gI h (some a) 461 = some (oh_FI h 461 a) := e_gI (sK_0 P)
theorem p_461_0 {h : oh_H} {a : Nat} (P : PS h a) (x : Int32) : oh_pI h (some a) 461 x = some (oh_wI h 461 a x) := e_pI (sK_0 P)
theorem rc_0 {h : oh_H} {a : Nat} (P : PS h a) {α : Type} (F : Nat → Option α) : oh_rc h (some a) 8 F = F a := e_rc (sK_0 P)
theorem g_0_5 {h : oh_H} {a : Nat} (P : PS h a) : oh_gR h (some (a + 5)) 0 = some (some (a + 6)) := (e_gR (sK_5 P)).trans (congrArg some (sR_0_5 P))
theorem rc_5 {h : oh_H} {a : Nat} (P : PS h a) {α : Type} (F : Nat → Option α) : oh_rc h (some (a + 5)) 1 F = F (a + 5) := e_rc (sK_5 P)
theorem g_320_7 {h : oh_H} {a : Nat} (P : PS h a) : oh_gI h (some (a + 7)) 320 = some (oh_FI h 320 (a + 7)) := e_gI (sK_7 P)
theorem p_320_7 {h : oh_H} {a : Nat} (P : PS h a) (x : Int32) : oh_pI h (some (a + 7)) 320 x = some (oh_wI h 320 (a + 7) x) := e_pI (sK_7 P)
theorem g_321_7 {h : oh_H} {a : Nat} (P : PS h a) : oh_gI h (some (a + 7)) 321 = some (oh_FI h 321 (a + 7)) := e_gI (sK_7 P)
theorem p_321_7 {h : oh_H} {a : Nat} (P : PS h a) (x : Int32) : oh_pI h (some (a + 7)) 321 x = some (oh_wI h 321 (a + 7) x) := e_pI (sK_7 P)
theorem g_322_7 {h : oh_H} {a : Nat} (P : PS h a) : oh_gI h (some (a + 7)) 322 = some (oh_FI h 322 (a + 7)) := e_gI (sK_7 P)
theorem p_322_7 {h : oh_H} {a : Nat} (P : PS h a) (x : Int32) : oh_pI h (some (a + 7)) 322 x = some (oh_wI h 322 (a + 7) x) := e_pI (sK_7 P)
theorem g_323_7 {h : oh_H} {a : Nat} (P : PS h a) : oh_gI h (some (a + 7)) 323 = some (oh_FI h 323 (a + 7)) := e_gI (sK_7 P)
theorem p_323_7 {h : oh_H} {a : Nat} (P : PS h a) (x : Int32) : oh_pI h (some (a + 7)) 323 x = some (oh_wI h 323 (a + 7) x) := e_pI (sK_7 P)
theorem g_324_7 {h : oh_H} {a : Nat} (P : PS h a) : oh_gI h (some (a + 7)) 324 = some (oh_FI h 324 (a + 7)) := e_gI (sK_7 P)
theorem p_324_7 {h : oh_H} {a : Nat} (P : PS h a) (x : Int32) : oh_pI h (some (a + 7)) 324 x = some (oh_wI h 324 (a + 7) x) := e_pI (sK_7 P)
theorem rc_7 {h : oh_H} {a : Nat} (P : PS h a) {α : Type} (F : Nat → Option α) : oh_rc h (some (a + 7)) 6 F = F (a + 7) := e_rc (sK_7 P)
theorem g_256_8 {h : oh_H} {a : Nat} (P : PS h a) : oh_gR h (some (a + 8)) 256 = some (some (a + 9)) := (e_gR (sK_8 P)).trans (congrArg some (sR_256_8 P))
theorem g_257_8 {h : oh_H} {a : Nat} (P : PS h a) : oh_gR h (some (a + 8)) 257 = some (some (a + 10)) := (e_gR (sK_8 P)).trans (congrArg some (sR_257_8 P))
theorem g_258_8 {h : oh_H} {a : Nat} (P : PS h a) : oh_gR h (some (a + 8)) 258 = some (some (a + 11)) := (e_gR (sK_8 P)).trans (congrArg some (sR_258_8 P))
theorem g_259_8 {h : oh_H} {a : Nat} (P : PS h a) : oh_gR h (some (a + 8)) 259 = some (some (a + 12)) := (e_gR (sK_8 P)).trans (congrArg some (sR_259_8 P))
theorem g_260_8 {h : oh_H} {a : Nat} (P : PS h a) : oh_gR h (some (a + 8)) 260 = some (some (a + 13)) := (e_gR (sK_8 P)).trans (congrArg some (sR_260_8 P))
theorem g_261_8 {h : oh_H} {a : Nat} (P : PS h a) : oh_gR h (some (a + 8)) 261 = some (some (a + 14)) := (e_gR (sK_8 P)).trans (congrArg some (sR_261_8 P))
theorem g_262_8 {h : oh_H} {a : Nat} (P : PS h a) : oh_gR h (some (a + 8)) 262 = some (some (a + 15)) := (e_gR (sK_8 P)).trans (congrArg some (sR_262_8 P))
theorem g_263_8 {h : oh_H} {a : Nat} (P : PS h a) : oh_gI h (some (a + 8)) 263 = some (oh_FI h 263 (a + 8)) := e_gI (sK_8 P)
theorem p_263_8 {h : oh_H} {a : Nat} (P : PS h a) (x : Int32) : oh_pI h (some (a + 8)) 263 x = some (oh_wI h 263 (a + 8) x) := e_pI (sK_8 P)
theorem g_264_8 {h : oh_H} {a : Nat} (P : PS h a) : oh_gI h (some (a + 8)) 264 = some (oh_FI h 264 (a + 8)) := e_gI (sK_8 P)
theorem p_264_8 {h : oh_H} {a : Nat} (P : PS h a) (x : Int32) : oh_pI h (some (a + 8)) 264 x = some (oh_wI h 264 (a + 8) x) := e_pI (sK_8 P)
theorem g_265_8 {h : oh_H} {a : Nat} (P : PS h a) : oh_gI h (some (a + 8)) 265 = some (oh_FI h 265 (a + 8)) := e_gI (sK_8 P)
theorem p_265_8 {h : oh_H} {a : Nat} (P : PS h a) (x : Int32) : oh_pI h (some (a + 8)) 265 x = some (oh_wI h 265 (a + 8) x) := e_pI (sK_8 P)
theorem g_266_8 {h : oh_H} {a : Nat} (P : PS h a) : oh_gR h (some (a + 8)) 266 = some (some (a + 16)) := (e_gR (sK_8 P)).trans (congrArg some (sR_266_8 P))
theorem g_267_8 {h : oh_H} {a : Nat} (P : PS h a) : oh_gI h (some (a + 8)) 267 = some (oh_FI h 267 (a + 8)) := e_gI (sK_8 P)
theorem p_267_8 {h : oh_H} {a : Nat} (P : PS h a) (x : Int32) : oh_pI h (some (a + 8)) 267 x = some (oh_wI h 267 (a + 8) x) := e_pI (sK_8 P)
theorem g_268_8 {h : oh_H} {a : Nat} (P : PS h a) : oh_gI h (some (a + 8)) 268 = some (oh_FI h 268 (a + 8)) := e_gI (sK_8 P)
theorem p_268_8 {h : oh_H} {a : Nat} (P : PS h a) (x : Int32) : oh_pI h (some (a + 8)) 268 x = some (oh_wI h 268 (a + 8) x) := e_pI (sK_8 P)
theorem g_269_8 {h : oh_H} {a : Nat} (P : PS h a) : oh_gI h (some (a + 8)) 269 = some (oh_FI h 269 (a + 8)) := e_gI (sK_8 P)
theorem p_269_8 {h : oh_H} {a : Nat} (P : PS h a) (x : Int32) : oh_pI h (some (a + 8)) 269 x = some (oh_wI h 269 (a + 8) x) := e_pI (sK_8 P)
theorem g_270_8 {h : oh_H} {a : Nat} (P : PS h a) : oh_gI h (some (a + 8)) 270 = some (oh_FI h 270 (a + 8)) := e_gI (sK_8 P)
theorem p_270_8 {h : oh_H} {a : Nat} (P : PS h a) (x : Int32) : oh_pI h (some (a + 8)) 270 x = some (oh_wI h 270 (a + 8) x) := e_pI (sK_8 P)
theorem rc_8 {h : oh_H} {a : Nat} (P : PS h a) {α : Type} (F : Nat → Option α) : oh_rc h (some (a + 8)) 5 F = F (a + 8) := e_rc (sK_8 P)
theorem g_192_17 {h : oh_H} {a : Nat} (P : PS h a) : oh_gI h (some (a + 17)) 192 = some (oh_FI h 192 (a + 17)) := e_gI (sK_17 P)
theorem p_192_17 {h : oh_H} {a : Nat} (P : PS h a) (x : Int32) : oh_pI h (some (a + 17)) 192 x = some (oh_wI h 192 (a + 17) x) := e_pI (sK_17 P)
theorem g_193_17 {h : oh_H} {a : Nat} (P : PS h a) : oh_gR h (some (a + 17)) 193 = some (some (a + 18)) := (e_gR (sK_17 P)).trans (congrArg some (sR_193_17 P))
theorem g_194_17 {h : oh_H} {a : Nat} (P : PS h a) : oh_gR h (some (a + 17)) 194 = some (some (a + 19)) := (e_gR (sK_17 P)).trans (congrArg some (sR_194_17 P))
theorem g_195_17 {h : oh_H} {a : Nat} (P : PS h a) : oh_gI h (some (a + 17)) 195 = some (oh_FI h 195 (a + 17)) := e_gI (sK_17 P)
theorem p_195_17 {h : oh_H} {a : Nat} (P : PS h a) (x : Int32) : oh_pI h (some (a + 17)) 195 x = some (oh_wI h 195 (a + 17) x) := e_pI (sK_17 P)
theorem g_196_17 {h : oh_H} {a : Nat} (P : PS h a) : oh_gI h (some (a + 17)) 196 = some (oh_FI h 196 (a + 17)) := e_gI (sK_17 P)
theorem p_196_17 {h : oh_H} {a : Nat} (P : PS h a) (x : Int32) : oh_pI h (some (a + 17)) 196 x = some (oh_wI h 196 (a + 17) x) := e_pI (sK_17 P)
theorem g_197_17 {h : oh_H} {a : Nat} (P : PS h a) : oh_gI h (some (a + 17)) 197 = some (oh_FI h 197 (a + 17)) := e_gI (sK_17 P)
theorem p_197_17 {h : oh_H} {a : Nat} (P : PS h a) (x : Int32) : oh_pI h (some (a + 17)) 197 x = some (oh_wI h 197 (a + 17) x) := e_pI (sK_17 P)
theorem g_198_17 {h : oh_H} {a : Nat} (P : PS h a) : oh_gI h (some (a + 17)) 198 = some (oh_FI h 198 (a + 17)) := e_gI (sK_17 P)
theorem p_198_17 {h : oh_H} {a : Nat} (P : PS h a) (x : Int32) : oh_pI h (some (a + 17)) 198 x = some (oh_wI h 198 (a + 17) x) := e_pI (sK_17 P)
theorem g_199_17 {h : oh_H} {a : Nat} (P : PS h a) : oh_gI h (some (a + 17)) 199 = some (oh_FI h 199 (a + 17)) := e_gI (sK_17 P)
theorem p_199_17 {h : oh_H} {a : Nat} (P : PS h a) (x : Int32) : oh_pI h (some (a + 17)) 199 x = some (oh_wI h 199 (a + 17) x) := e_pI (sK_17 P)
theorem g_200_17 {h : oh_H} {a : Nat} (P : PS h a) : oh_gI h (some (a + 17)) 200 = some (oh_FI h 200 (a + 17)) := e_gI (sK_17 P)
theorem p_200_17 {h : oh_H} {a : Nat} (P : PS h a) (x : Int32) : oh_pI h (some (a + 17)) 200 x = some (oh_wI h 200 (a + 17) x) := e_pI (sK_17 P)
theorem g_201_17 {h : oh_H} {a : Nat} (P : PS h a) : oh_gI h (some (a + 17)) 201 = some (oh_FI h 201 (a + 17)) := e_gI (sK_17 P)
theorem p_201_17 {h : oh_H} {a : Nat} (P : PS h a) (x : Int32) : oh_pI h (some (a + 17)) 201 x = some (oh_wI h 201 (a + 17) x) := e_pI (sK_17 P)
theorem g_202_17 {h : oh_H} {a : Nat} (P : PS h a) : oh_gI h (some (a + 17)) 202 = some (oh_FI h 202 (a + 17)) := e_gI (sK_17 P)
theorem p_202_17 {h : oh_H} {a : Nat} (P : PS h a) (x : Int32) : oh_pI h (some (a + 17)) 202 x = some (oh_wI h 202 (a + 17) x) := e_pI (sK_17 P)
theorem g_203_17 {h : oh_H} {a : Nat} (P : PS h a) : oh_gI h (some (a + 17)) 203 = some (oh_FI h 203 (a + 17)) := e_gI (sK_17 P)
theorem p_203_17 {h : oh_H} {a : Nat} (P : PS h a) (x : Int32) : oh_pI h (some (a + 17)) 203 x = some (oh_wI h 203 (a + 17) x) := e_pI (sK_17 P)
theorem g_204_17 {h : oh_H} {a : Nat} (P : PS h a) : oh_gI h (some (a + 17)) 204 = some (oh_FI h 204 (a + 17)) := e_gI (sK_17 P)
theorem p_204_17 {h : oh_H} {a : Nat} (P : PS h a) (x : Int32) : oh_pI h (some (a + 17)) 204 x = some (oh_wI h 204 (a + 17) x) := e_pI (sK_17 P)
theorem g_205_17 {h : oh_H} {a : Nat} (P : PS h a) : oh_gI h (some (a + 17)) 205 = some (oh_FI h 205 (a + 17)) := e_gI (sK_17 P)
theorem p_205_17 {h : oh_H} {a : Nat} (P : PS h a) (x : Int32) : oh_pI h (some (a + 17)) 205 x = some (oh_wI h 205 (a + 17) x) := e_pI (sK_17 P)
theorem rc_17 {h : oh_H} {a : Nat} (P : PS h a) {α : Type} (F : Nat → Option α) : oh_rc h (some (a + 17)) 4 F = F (a + 17) := e_rc (sK_17 P)
theorem g_192_20 {h : oh_H} {a : Nat} (P : PS h a) : oh_gI h (some (a + 20)) 192 = some (oh_FI h 192 (a + 20)) := e_gI (sK_20 P)
theorem p_192_20 {h : oh_H} {a : Nat} (P : PS h a) (x : Int32) : oh_pI h (some (a + 20)) 192 x = some (oh_wI h 192 (a + 20) x) := e_pI (sK_20 P)
theorem g_193_20 {h : oh_H} {a : Nat} (P : PS h a) : oh_gR h (some (a + 20)) 193 = some (some (a + 21)) := (e_gR (sK_20 P)).trans (congrArg some (sR_193_20 P))
theorem g_194_20 {h : oh_H} {a : Nat} (P : PS h a) : oh_gR h (some (a + 20)) 194 = some (some (a + 22)) := (e_gR (sK_20 P)).trans (congrArg some (sR_194_20 P))
theorem g_195_20 {h : oh_H} {a : Nat} (P : PS h a) : oh_gI h (some (a + 20)) 195 = some (oh_FI h 195 (a + 20)) := e_gI (sK_20 P)
theorem p_195_20 {h : oh_H} {a : Nat} (P : PS h a) (x : Int32) : oh_pI h (some (a + 20)) 195 x = some (oh_wI h 195 (a + 20) x) := e_pI (sK_20 P)
theorem g_196_20 {h : oh_H} {a : Nat} (P : PS h a) : oh_gI h (some (a + 20)) 196 = some (oh_FI h 196 (a + 20)) := e_gI (sK_20 P)
theorem p_196_20 {h : oh_H} {a : Nat} (P : PS h a) (x : Int32) : oh_pI h (some (a + 20)) 196 x = some (oh_wI h 196 (a + 20) x) := e_pI (sK_20 P)
theorem g_197_20 {h : oh_H} {a : Nat} (P : PS h a) : oh_gI h (some (a + 20)) 197 = some (oh_FI h 197 (a + 20)) := e_gI (sK_20 P)
theorem p_197_20 {h : oh_H} {a : Nat} (P : PS h a) (x : Int32) : oh_pI h (some (a + 20)) 197 x = some (oh_wI h 197 (a + 20) x) := e_pI (sK_20 P)
theorem g_198_20 {h : oh_H} {a : Nat} (P : PS h a) : oh_gI h (some (a + 20)) 198 = some (oh_FI h 198 (a + 20)) := e_gI (sK_20 P)
theorem p_198_20 {h : oh_H} {a : Nat} (P : PS h a) (x : Int32) : oh_pI h (some (a + 20)) 198 x = some (oh_wI h 198 (a + 20) x) := e_pI (sK_20 P)
theorem g_199_20 {h : oh_H} {a : Nat} (P : PS h a) : oh_gI h (some (a + 20)) 199 = some (oh_FI h 199 (a + 20)) := e_gI (sK_20 P)
theorem p_199_20 {h : oh_H} {a : Nat} (P : PS h a) (x : Int32) : oh_pI h (some (a + 20)) 199 x = some (oh_wI h 199 (a + 20) x) := e_pI (sK_20 P)
theorem g_200_20 {h : oh_H} {a : Nat} (P : PS h a) : oh_gI h (some (a + 20)) 200 = some (oh_FI h 200 (a + 20)) := e_gI (sK_20 P)
theorem p_200_20 {h : oh_H} {a : Nat} (P : PS h a) (x : Int32) : oh_pI h (some (a + 20)) 200 x = some (oh_wI h 200 (a + 20) x) := e_pI (sK_20 P)
theorem g_201_20 {h : oh_H} {a : Nat} (P : PS h a) : oh_gI h (some (a + 20)) 201 = some (oh_FI h 201 (a + 20)) := e_gI (sK_20 P)
theorem p_201_20 {h : oh_H} {a : Nat} (P : PS h a) (x : Int32) : oh_pI h (some (a + 20)) 201 x = some (oh_wI h 201 (a + 20) x) := e_pI (sK_20 P)
theorem g_202_20 {h : oh_H} {a : Nat} (P : PS h a) : oh_gI h (some (a + 20)) 202 = some (oh_FI h 202 (a + 20)) := e_gI (sK_20 P)
theorem p_202_20 {h : oh_H} {a : Nat} (P : PS h a) (x : Int32) : oh_pI h (some (a + 20)) 202 x = some (oh_wI h 202 (a + 20) x) := e_pI (sK_20 P)
theorem g_203_20 {h : oh_H} {a : Nat} (P : PS h a) : oh_gI h (some (a + 20)) 203 = some (oh_FI h 203 (a + 20)) := e_gI (sK_20 P)
theorem p_203_20 {h : oh_H} {a : Nat} (P : PS h a) (x : Int32) : oh_pI h (some (a + 20)) 203 x = some (oh_wI h 203 (a + 20) x) := e_pI (sK_20 P)
theorem g_204_20 {h : oh_H} {a : Nat} (P : PS h a) : oh_gI h (some (a + 20)) 204 = some (oh_FI h 204 (a + 20)) := e_gI (sK_20 P)
theorem p_204_20 {h : oh_H} {a : Nat} (P : PS h a) (x : Int32) : oh_pI h (some (a + 20)) 204 x = some (oh_wI h 204 (a + 20) x) := e_pI (sK_20 P)
theorem g_205_20 {h : oh_H} {a : Nat} (P : PS h a) : oh_gI h (some (a + 20)) 205 = some (oh_FI h 205 (a + 20)) := e_gI (sK_20 P)
theorem p_205_20 {h : oh_H} {a : Nat} (P : PS h a) (x : Int32) : oh_pI h (some (a + 20)) 205 x = some (oh_wI h 205 (a + 20) x) := e_pI (sK_20 P)
theorem rc_20 {h : oh_H} {a : Nat} (P : PS h a) {α : Type} (F : Nat → Option α) : oh_rc h (some (a + 20)) 4 F = F (a + 20) := e_rc (sK_20 P)
theorem g_192_23 {h : oh_H} {a : Nat} (P : PS h a) : oh_gI h (some (a + 23)) 192 = some (oh_FI h 192 (a + 23)) := e_gI (sK_23 P)
theorem p_192_23 {h : oh_H} {a : Nat} (P : PS h a) (x : Int32) : oh_pI h (some (a + 23)) 192 x = some (oh_wI h 192 (a + 23) x) := e_pI (sK_23 P)
theorem g_193_23 {h : oh_H} {a : Nat} (P : PS h a) : oh_gR h (some (a + 23)) 193 = some (some (a + 24)) := (e_gR (sK_23 P)).trans (congrArg some (sR_193_23 P))
theorem g_194_23 {h : oh_H} {a : Nat} (P : PS h a) : oh_gR h (some (a + 23)) 194 = some (some (a + 25)) := (e_gR (sK_23 P)).trans (congrArg some (sR_194_23 P))
theorem g_195_23 {h : oh_H} {a : Nat} (P : PS h a) : oh_gI h (some (a + 23)) 195 = some (oh_FI h 195 (a + 23)) := e_gI (sK_23 P)
theorem p_195_23 {h : oh_H} {a : Nat} (P : PS h a) (x : Int32) : oh_pI h (some (a + 23)) 195 x = some (oh_wI h 195 (a + 23) x) := e_pI (sK_23 P)
theorem g_196_23 {h : oh_H} {a : Nat} (P : PS h a) : oh_gI h (some (a + 23)) 196 = some (oh_FI h 196 (a + 23)) := e_gI (sK_23 P)
theorem p_196_23 {h : oh_H} {a : Nat} (P : PS h a) (x : Int32) : oh_pI h (some (a + 23)) 196 x = some (oh_wI h 196 (a + 23) x) := e_pI (sK_23 P)
theorem g_197_23 {h : oh_H} {a : Nat} (P : PS h a) : oh_gI h (some (a + 23)) 197 = some (oh_FI h 197 (a + 23)) := e_gI (sK_23 P)
theorem p_197_23 {h : oh_H} {a : Nat} (P : PS h a) (x : Int32) : oh_pI h (some (a + 23)) 197 x = some (oh_wI h 197 (a + 23) x) := e_pI (sK_23 P)
theorem g_198_23 {h : oh_H} {a : Nat} (P : PS h a) : oh_gI h (some (a + 23)) 198 = some (oh_FI h 198 (a + 23)) := e_gI (sK_23 P)
theorem p_198_23 {h : oh_H} {a : Nat} (P : PS h a) (x : Int32) : oh_pI h (some (a + 23)) 198 x = some (oh_wI h 198 (a + 23) x) := e_pI (sK_23 P)
theorem g_199_23 {h : oh_H} {a : Nat} (P : PS h a) : oh_gI h (some (a + 23)) 199 = some (oh_FI h 199 (a + 23)) := e_gI (sK_23 P)
theorem p_199_23 {h : oh_H} {a : Nat} (P : PS h a) (x : Int32) : oh_pI h (some (a + 23)) 199 x = some (oh_wI h 199 (a + 23) x) := e_pI (sK_23 P)
theorem g_200_23 {h : oh_H} {a : Nat} (P : PS h a) : oh_gI h (some (a + 23)) 200 = some (oh_FI h 200 (a + 23)) := e_gI (sK_23 P)
theorem p_200_23 {h : oh_H} {a : Nat} (P : PS h a) (x : Int32) : oh_pI h (some (a + 23)) 200 x = some (oh_wI h 200 (a + 23) x) := e_pI (sK_23 P)
theorem g_201_23 {h : oh_H} {a : Nat} (P : PS h a) : oh_gI h (some (a + 23)) 201 = some (oh_FI h 201 (a + 23)) := e_gI (sK_23 P)
theorem p_201_23 {h : oh_H} {a : Nat} (P : PS h a) (x : Int32) : oh_pI h (some (a + 23)) 201 x = some (oh_wI h 201 (a + 23) x) := e_pI (sK_23 P)
theorem g_202_23 {h : oh_H} {a : Nat} (P : PS h a) : oh_gI h (some (a + 23)) 202 = some (oh_FI h 202 (a + 23)) := e_gI (sK_23 P)
theorem p_202_23 {h : oh_H} {a : Nat} (P : PS h a) (x : Int32) : oh_pI h (some (a + 23)) 202 x = some (oh_wI h 202 (a + 23) x) := e_pI (sK_23 P)
theorem g_203_23 {h : oh_H} {a : Nat} (P : PS h a) : oh_gI h (some (a + 23)) 203 = some (oh_FI h 203 (a + 23)) := e_gI (sK_23 P)
theorem p_203_23 {h : oh_H} {a : Nat} (P : PS h a) (x : Int32) : oh_pI h (some (a + 23)) 203 x = some (oh_wI h 203 (a + 23) x) := e_pI (sK_23 P)
theorem g_204_23 {h : oh_H} {a : Nat} (P : PS h a) : oh_gI h (some (a + 23)) 204 = some (oh_FI h 204 (a + 23)) := e_gI (sK_23 P)
theorem p_204_23 {h : oh_H} {a : Nat} (P : PS h a) (x : Int32) : oh_pI h (some (a + 23)) 204 x = some (oh_wI h 204 (a + 23) x) := e_pI (sK_23 P)
theorem g_205_23 {h : oh_H} {a : Nat} (P : PS h a) : oh_gI h (some (a + 23)) 205 = some (oh_FI h 205 (a + 23)) := e_gI (sK_23 P)
theorem p_205_23 {h : oh_H} {a : Nat} (P : PS h a) (x : Int32) : oh_pI h (some (a + 23)) 205 x = some (oh_wI h 205 (a + 23) x) := e_pI (sK_23 P)
theorem rc_23 {h : oh_H} {a : Nat} (P : PS h a) {α : Type} (F : Nat → Option α) : oh_rc h (some (a + 23)) 4 F = F (a + 23) := e_rc (sK_23 P)
theorem g_512_26 {h : oh_H} {a : Nat} (P : PS h a) : oh_gI h (some (a + 26)) 512 = some (oh_FI h 512 (a + 26)) := e_gI (sK_26 P)
theorem p_512_26 {h : oh_H} {a : Nat} (P : PS h a) (x : Int32) : oh_pI h (some (a + 26)) 512 x = some (oh_wI h 512 (a + 26) x) := e_pI (sK_26 P)
theorem g_513_26 {h : oh_H} {a : Nat} (P : PS h a) : oh_gI h (some (a + 26)) 513 = some (oh_FI h 513 (a + 26)) := e_gI (sK_26 P)
theorem p_513_26 {h : oh_H} {a : Nat} (P : PS h a) (x : Int32) : oh_pI h (some (a + 26)) 513 x = some (oh_wI h 513 (a + 26) x) := e_pI (sK_26 P)
theorem g_514_26 {h : oh_H} {a : Nat} (P : PS h a) : oh_gI h (some (a + 26)) 514 = some (oh_FI h 514 (a + 26)) := e_gI (sK_26 P)
theorem p_514_26 {h : oh_H} {a : Nat} (P : PS h a) (x : Int32) : oh_pI h (some (a + 26)) 514 x = some (oh_wI h 514 (a + 26) x) := e_pI (sK_26 P)
theorem g_515_26 {h : oh_H} {a : Nat} (P : PS h a) : oh_gI h (some (a + 26)) 515 = some (oh_FI h 515 (a + 26)) := e_gI (sK_26 P)
theorem p_515_26 {h : oh_H} {a : Nat} (P : PS h a) (x : Int32) : oh_pI h (some (a + 26)) 515 x = some (oh_wI h 515 (a + 26) x) := e_pI (sK_26 P)
theorem g_516_26 {h : oh_H} {a : Nat} (P : PS h a) : oh_gI h (some (a + 26)) 516 = some (oh_FI h 516 (a + 26)) := e_gI (sK_26 P)
theorem p_516_26 {h : oh_H} {a : Nat} (P : PS h a) (x : Int32) : oh_pI h (some (a + 26)) 516 x = some (oh_wI h 516 (a + 26) x) := e_pI (sK_26 P)
theorem g_517_26 {h : oh_H} {a : Nat} (P : PS h a) : oh_gR h (some (a + 26)) 517 = some (some (a + 27)) := (e_gR (sK_26 P)).trans (congrArg some (sR_517_26 P))
theorem g_518_26 {h : oh_H} {a : Nat} (P : PS h a) : oh_gR h (some (a + 26)) 518 = some (some (a + 28)) := (e_gR (sK_26 P)).trans (congrArg some (sR_518_26 P))
theorem g_519_26 {h : oh_H} {a : Nat} (P : PS h a) : oh_gI h (some (a + 26)) 519 = some (oh_FI h 519 (a + 26)) := e_gI (sK_26 P)
theorem p_519_26 {h : oh_H} {a : Nat} (P : PS h a) (x : Int32) : oh_pI h (some (a + 26)) 519 x = some (oh_wI h 519 (a + 26) x) := e_pI (sK_26 P)
theorem g_520_26 {h : oh_H} {a : Nat} (P : PS h a) : oh_gR h (some (a + 26)) 520 = some (some (a + 29)) := (e_gR (sK_26 P)).trans (congrArg some (sR_520_26 P))
theorem g_521_26 {h : oh_H} {a : Nat} (P : PS h a) : oh_gR h (some (a + 26)) 521 = some (some (a + 30)) := (e_gR (sK_26 P)).trans (congrArg some (sR_521_26 P))
theorem g_522_26 {h : oh_H} {a : Nat} (P : PS h a) : oh_gR h (some (a + 26)) 522 = some (some (a + 31)) := (e_gR (sK_26 P)).trans (congrArg some (sR_522_26 P))
theorem g_523_26 {h : oh_H} {a : Nat} (P : PS h a) : oh_gR h (some (a + 26)) 523 = some (some (a + 32)) := (e_gR (sK_26 P)).trans (congrArg some (sR_523_26 P))
theorem g_524_26 {h : oh_H} {a : Nat} (P : PS h a) : oh_gR h (some (a + 26)) 524 = some (some (a + 33)) := (e_gR (sK_26 P)).trans (congrArg some (sR_524_26 P))
theorem g_525_26 {h : oh_H} {a : Nat} (P : PS h a) : oh_gR h (some (a + 26)) 525 = some (some (a + 34)) := (e_gR (sK_26 P)).trans (congrArg some (sR_525_26 P))
theorem g_526_26 {h : oh_H} {a : Nat} (P : PS h a) : oh_gR h (some (a + 26)) 526 = some (some (a + 35)) := (e_gR (sK_26 P)).trans (congrArg some (sR_526_26 P))
theorem g_527_26 {h : oh_H} {a : Nat} (P : PS h a) : oh_gR h (some (a + 26)) 527 = some (some (a + 36)) := (e_gR (sK_26 P)).trans (congrArg some (sR_527_26 P))
theorem g_528_26 {h : oh_H} {a : Nat} (P : PS h a) : oh_gR h (some (a + 26)) 528 = some (some (a + 37)) := (e_gR (sK_26 P)).trans (congrArg some (sR_528_26 P))
theorem g_529_26 {h : oh_H} {a : Nat} (P : PS h a) : oh_gR h (some (a + 26)) 529 = some (some (a + 38)) := (e_gR (sK_26 P)).trans (congrArg some (sR_529_26 P))
theorem g_530_26 {h : oh_H} {a : Nat} (P : PS h a) : oh_gR h (some (a + 26)) 530 = some (some (a + 39)) := (e_gR (sK_26 P)).trans (congrArg some (sR_530_26 P))
theorem g_531_26 {h : oh_H} {a : Nat} (P : PS h a) : oh_gR h (some (a + 26)) 531 = some (some (a + 40)) := (e_gR (sK_26 P)).trans (congrArg some (sR_531_26 P))
theorem g_532_26 {h : oh_H} {a : Nat} (P : PS h a) : oh_gR h (some (a + 26)) 532 = some (some (a + 41)) := (e_gR (sK_26 P)).trans (congrArg some (sR_532_26 P))
theorem g_533_26 {h : oh_H} {a : Nat} (P : PS h a) : oh_gR h (some (a + 26)) 533 = some (some (a + 42)) := (e_gR (sK_26 P)).trans (congrArg some (sR_533_26 P))
theorem g_534_26 {h : oh_H} {a : Nat} (P : PS h a) : oh_gR h (some (a + 26)) 534 = some (some (a + 43)) := (e_gR (sK_26 P)).trans (congrArg some (sR_534_26 P))
theorem g_535_26 {h : oh_H} {a : Nat} (P : PS h a) : oh_gR h (some (a + 26)) 535 = some (some (a + 44)) := (e_gR (sK_26 P)).trans (congrArg some (sR_535_26 P))
theorem g_536_26 {h : oh_H} {a : Nat} (P : PS h a) : oh_gR h (some (a + 26)) 536 = some (some (a + 45)) := (e_gR (sK_26 P)).trans (congrArg some (sR_536_26 P))
theorem g_537_26 {h : oh_H} {a : Nat} (P : PS h a) : oh_gR h (some (a + 26)) 537 = some (some (a + 46)) := (e_gR (sK_26 P)).trans (congrArg some (sR_537_26 P))
theorem g_538_26 {h : oh_H} {a : Nat} (P : PS h a) : oh_gR h (some (a + 26)) 538 = some (some (a + 47)) := (e_gR (sK_26 P)).trans (congrArg some (sR_538_26 P))
theorem g_539_26 {h : oh_H} {a : Nat} (P : PS h a) : oh_gR h (some (a + 26)) 539 = some (some (a + 48)) := (e_gR (sK_26 P)).trans (congrArg some (sR_539_26 P))
theorem g_540_26 {h : oh_H} {a : Nat} (P : PS h a) : oh_gR h (some (a + 26)) 540 = some (some (a + 49)) := (e_gR (sK_26 P)).trans (congrArg some (sR_540_26 P))
theorem g_541_26 {h : oh_H} {a : Nat} (P : PS h a) : oh_gI h (some (a + 26)) 541 = some (oh_FI h 541 (a + 26)) := e_gI (sK_26 P)
theorem p_541_26 {h : oh_H} {a : Nat} (P : PS h a) (x : Int32) : oh_pI h (some (a + 26)) 541 x = some (oh_wI h 541 (a + 26) x) := e_pI (sK_26 P)
theorem g_542_26 {h : oh_H} {a : Nat} (P : PS h a) : oh_gR h (some (a + 26)) 542 = some (some (a + 50)) := (e_gR (sK_26 P)).trans (congrArg some (sR_542_26 P))
theorem g_543_26 {h : oh_H} {a : Nat} (P : PS h a) : oh_gR h (some (a + 26)) 543 = some (some (a + 51)) := (e_gR (sK_26 P)).trans (congrArg some (sR_543_26 P))
theorem g_544_26 {h : oh_H} {a : Nat} (P : PS h a) : oh_gR h (some (a + 26)) 544 = some (some (a + 52)) := (e_gR (sK_26 P)).trans (congrArg some (sR_544_26 P))
theorem g_545_26 {h : oh_H} {a : Nat} (P : PS h a) : oh_gR h (some (a + 26)) 545 = some (some (a + 53)) := (e_gR (sK_26 P)).trans (congrArg some (sR_545_26 P))
theorem g_546_26 {h : oh_H} {a : Nat} (P : PS h a) : oh_gR h (some (a + 26)) 546 = some (some (a + 54)) := (e_gR (sK_26 P)).trans (congrArg some (sR_546_26 P))
theorem g_547_26 {h : oh_H} {a : Nat} (P : PS h a) : oh_gR h (some (a + 26)) 547 = some (some (a + 55)) := (e_gR (sK_26 P)).trans (congrArg some (sR_547_26 P))
theorem g_548_26 {h : oh_H} {a : Nat} (P : PS h a) : oh_gR h (some (a + 26)) 548 = some (some (a + 56)) := (e_gR (sK_26 P)).trans (congrArg some (sR_548_26 P))
theorem g_549_26 {h : oh_H} {a : Nat} (P : PS h a) : oh_gR h (some (a + 26)) 549 = some (some (a + 57)) := (e_gR (sK_26 P)).trans (congrArg some (sR_549_26 P))
theorem g_550_26 {h : oh_H} {a : Nat} (P : PS h a) : oh_gR h (some (a + 26)) 550 = some (some (a + 58)) := (e_gR (sK_26 P)).trans (congrArg some (sR_550_26 P))
theorem g_551_26 {h : oh_H} {a : Nat} (P : PS h a) : oh_gI h (some (a + 26)) 551 = some (oh_FI h 551 (a + 26)) := e_gI (sK_26 P)
theorem p_551_26 {h : oh_H} {a : Nat} (P : PS h a) (x : Int32) : oh_pI h (some (a + 26)) 551 x = some (oh_wI h 551 (a + 26) x) := e_pI (sK_26 P)
theorem g_552_26 {h : oh_H} {a : Nat} (P : PS h a) : oh_gI h (some (a + 26)) 552 = some (oh_FI h 552 (a + 26)) := e_gI (sK_26 P)
theorem p_552_26 {h : oh_H} {a : Nat} (P : PS h a) (x : Int32) : oh_pI h (some (a + 26)) 552 x = some (oh_wI h 552 (a + 26) x) := e_pI (sK_26 P)
theorem g_553_26 {h : oh_H} {a : Nat} (P : PS h a) : oh_gI h (some (a + 26)) 553 = some (oh_FI h 553 (a + 26)) := e_gI (sK_26 P)
theorem p_553_26 {h : oh_H} {a : Nat} (P : PS h a) (x : Int32) : oh_pI h (some (a + 26)) 553 x = some (oh_wI h 553 (a + 26) x) := e_pI (sK_26 P)
theorem g_554_26 {h : oh_H} {a : Nat} (P : PS h a) : oh_gI h (some (a + 26)) 554 = some (oh_FI h 554 (a + 26)) := e_gI (sK_26 P)
theorem p_554_26 {h : oh_H} {a : Nat} (P : PS h a) (x : Int32) : oh_pI h (some (a + 26)) 554 x = some (oh_wI h 554 (a + 26) x) := e_pI (sK_26 P)
theorem g_555_26 {h : oh_H} {a : Nat} (P : PS h a) : oh_gI h (some (a + 26)) 555 = some (oh_FI h 555 (a + 26)) := e_gI (sK_26 P)
theorem p_555_26 {h : oh_H} {a : Nat} (P : PS h a) (x : Int32) : oh_pI h (some (a + 26)) 555 x = some (oh_wI h 555 (a + 26) x) := e_pI (sK_26 P)
theorem g_556_26 {h : oh_H} {a : Nat} (P : PS h a) : oh_gI h (some (a + 26)) 556 = some (oh_FI h 556 (a + 26)) := e_gI (sK_26 P)
theorem p_556_26 {h : oh_H} {a : Nat} (P : PS h a) (x : Int32) : oh_pI h (some (a + 26)) 556 x = some (oh_wI h 556 (a + 26) x) := e_pI (sK_26 P)
theorem g_557_26 {h : oh_H} {a : Nat} (P : PS h a) : oh_gI h (some (a + 26)) 557 = some (oh_FI h 557 (a + 26)) := e_gI (sK_26 P)
theorem p_557_26 {h : oh_H} {a : Nat} (P : PS h a) (x : Int32) : oh_pI h (some (a + 26)) 557 x = some (oh_wI h 557 (a + 26) x) := e_pI (sK_26 P)
theorem g_558_26 {h : oh_H} {a : Nat} (P : PS h a) : oh_gI h (some (a + 26)) 558 = some (oh_FI h 558 (a + 26)) := e_gI (sK_26 P)
theorem p_558_26 {h : oh_H} {a : Nat} (P : PS h a) (x : Int32) : oh_pI h (some (a + 26)) 558 x = some (oh_wI h 558 (a + 26) x) := e_pI (sK_26 P)
theorem g_559_26 {h : oh_H} {a : Nat} (P : PS h a) : oh_gI h (some (a + 26)) 559 = some (oh_FI h 559 (a + 26)) := e_gI (sK_26 P)
theorem p_559_26 {h : oh_H} {a : Nat} (P : PS h a) (x : Int32) : oh_pI h (some (a + 26)) 559 x = some (oh_wI h 559 (a + 26) x) := e_pI (sK_26 P)
theorem g_560_26 {h : oh_H} {a : Nat} (P : PS h a) : oh_gR h (some (a + 26)) 560 = some (some (a + 59)) := (e_gR (sK_26 P)).trans (congrArg some (sR_560_26 P))
theorem g_561_26 {h : oh_H} {a : Nat} (P : PS h a) : oh_gI h (some (a + 26)) 561 = some (oh_FI h 561 (a + 26)) := e_gI (sK_26 P)
theorem p_561_26 {h : oh_H} {a : Nat} (P : PS h a) (x : Int32) : oh_pI h (some (a + 26)) 561 x = some (oh_wI h 561 (a + 26) x) := e_pI (sK_26 P)
theorem g_562_26 {h : oh_H} {a : Nat} (P : PS h a) : oh_gR h (some (a + 26)) 562 = some (some (a + 60)) := (e_gR (sK_26 P)).trans (congrArg some (sR_562_26 P))
theorem g_563_26 {h : oh_H} {a : Nat} (P : PS h a) : oh_gR h (some (a + 26)) 563 = some (some (a + 61)) := (e_gR (sK_26 P)).trans (congrArg some (sR_563_26 P))
theorem g_564_26 {h : oh_H} {a : Nat} (P : PS h a) : oh_gI h (some (a + 26)) 564 = some (oh_FI h 564 (a + 26)) := e_gI (sK_26 P)
theorem p_564_26 {h : oh_H} {a : Nat} (P : PS h a) (x : Int32) : oh_pI h (some (a + 26)) 564 x = some (oh_wI h 564 (a + 26) x) := e_pI (sK_26 P)
theorem g_565_26 {h : oh_H} {a : Nat} (P : PS h a) : oh_gI h (some (a + 26)) 565 = some (oh_FI h 565 (a + 26)) := e_gI (sK_26 P)
theorem p_565_26 {h : oh_H} {a : Nat} (P : PS h a) (x : Int32) : oh_pI h (some (a + 26)) 565 x = some (oh_wI h 565 (a + 26) x) := e_pI (sK_26 P)
theorem rc_26 {h : oh_H} {a : Nat} (P : PS h a) {α : Type} (F : Nat → Option α) : oh_rc h (some (a + 26)) 9 F = F (a + 26) := e_rc (sK_26 P)
theorem ai_1 {h : oh_H} {a : Nat} (P : PS h a) {i : Nat} (hi : i < 60) : oh_aR h (some (a + 1)) 23 (nI i) = some (oh_AR h (a + 1) i) := e_aR (sK_1 P) (sN_1 P) hi (by decide)
theorem ai_2 {h : oh_H} {a : Nat} (P : PS h a) {i : Nat} (hi : i < 200) : oh_aR h (some (a + 2)) 24 (nI i) = some (oh_AR h (a + 2) i) := e_aR (sK_2 P) (sN_2 P) hi (by decide)
theorem ai_3 {h : oh_H} {a : Nat} (P : PS h a) {i : Nat} (hi : i < 3) : oh_aR h (some (a + 3)) 25 (nI i) = some (oh_AR h (a + 3) i) := e_aR (sK_3 P) (sN_3 P) hi (by decide)
theorem ai_4 {h : oh_H} {a : Nat} (P : PS h a) {i : Nat} (hi : i < 12) : oh_aR h (some (a + 4)) 26 (nI i) = some (oh_AR h (a + 4) i) := e_aR (sK_4 P) (sN_4 P) hi (by decide)
theorem ai_6 {h : oh_H} {a : Nat} (P : PS h a) {i : Nat} (hi : i < 120) : oh_aI h (some (a + 6)) 20 (nI i) = some (oh_AI h (a + 6) i) := e_aI (sK_6 P) (sN_6 P) hi (by decide)
theorem ti_6 {h : oh_H} {a : Nat} (P : PS h a) {i : Nat} (hi : i < 120) (x : Int32) : oh_tI h (some (a + 6)) 20 (nI i) x = some (oh_sI h (a + 6) i x) := e_tI (sK_6 P) (sN_6 P) hi (by decide)
theorem ai_9 {h : oh_H} {a : Nat} (P : PS h a) {i : Nat} (hi : i < 8) : oh_aI h (some (a + 9)) 20 (nI i) = some (oh_AI h (a + 9) i) := e_aI (sK_9 P) (sN_9 P) hi (by decide)
theorem ti_9 {h : oh_H} {a : Nat} (P : PS h a) {i : Nat} (hi : i < 8) (x : Int32) : oh_tI h (some (a + 9)) 20 (nI i) x = some (oh_sI h (a + 9) i x) := e_tI (sK_9 P) (sN_9 P) hi (by decide)
theorem ai_10 {h : oh_H} {a : Nat} (P : PS h a) {i : Nat} (hi : i < 8) : oh_aI h (some (a + 10)) 20 (nI i) = some (oh_AI h (a + 10) i) := e_aI (sK_10 P) (sN_10 P) hi (by decide)
theorem ti_10 {h : oh_H} {a : Nat} (P : PS h a) {i : Nat} (hi : i < 8) (x : Int32) : oh_tI h (some (a + 10)) 20 (nI i) x = some (oh_sI h (a + 10) i x) := e_tI (sK_10 P) (sN_10 P) hi (by decide)
theorem ai_11 {h : oh_H} {a : Nat} (P : PS h a) {i : Nat} (hi : i < 8) : oh_aI h (some (a + 11)) 20 (nI i) = some (oh_AI h (a + 11) i) := e_aI (sK_11 P) (sN_11 P) hi (by decide)
theorem ti_11 {h : oh_H} {a : Nat} (P : PS h a) {i : Nat} (hi : i < 8) (x : Int32) : oh_tI h (some (a + 11)) 20 (nI i) x = some (oh_sI h (a + 11) i x) := e_tI (sK_11 P) (sN_11 P) hi (by decide)
theorem ai_12 {h : oh_H} {a : Nat} (P : PS h a) {i : Nat} (hi : i < 8) : oh_aI h (some (a + 12)) 20 (nI i) = some (oh_AI h (a + 12) i) := e_aI (sK_12 P) (sN_12 P) hi (by decide)
theorem ti_12 {h : oh_H} {a : Nat} (P : PS h a) {i : Nat} (hi : i < 8) (x : Int32) : oh_tI h (some (a + 12)) 20 (nI i) x = some (oh_sI h (a + 12) i x) := e_tI (sK_12 P) (sN_12 P) hi (by decide)
theorem ai_13 {h : oh_H} {a : Nat} (P : PS h a) {i : Nat} (hi : i < 256) : oh_aI h (some (a + 13)) 20 (nI i) = some (oh_AI h (a + 13) i) := e_aI (sK_13 P) (sN_13 P) hi (by decide)
theorem ti_13 {h : oh_H} {a : Nat} (P : PS h a) {i : Nat} (hi : i < 256) (x : Int32) : oh_tI h (some (a + 13)) 20 (nI i) x = some (oh_sI h (a + 13) i x) := e_tI (sK_13 P) (sN_13 P) hi (by decide)
theorem ai_14 {h : oh_H} {a : Nat} (P : PS h a) {i : Nat} (hi : i < 256) : oh_aI h (some (a + 14)) 20 (nI i) = some (oh_AI h (a + 14) i) := e_aI (sK_14 P) (sN_14 P) hi (by decide)
theorem ti_14 {h : oh_H} {a : Nat} (P : PS h a) {i : Nat} (hi : i < 256) (x : Int32) : oh_tI h (some (a + 14)) 20 (nI i) x = some (oh_sI h (a + 14) i x) := e_tI (sK_14 P) (sN_14 P) hi (by decide)
theorem ai_15 {h : oh_H} {a : Nat} (P : PS h a) {i : Nat} (hi : i < 18432) : oh_aI h (some (a + 15)) 20 (nI i) = some (oh_AI h (a + 15) i) := e_aI (sK_15 P) (sN_15 P) hi (by decide)
theorem ti_15 {h : oh_H} {a : Nat} (P : PS h a) {i : Nat} (hi : i < 18432) (x : Int32) : oh_tI h (some (a + 15)) 20 (nI i) x = some (oh_sI h (a + 15) i x) := e_tI (sK_15 P) (sN_15 P) hi (by decide)
theorem ai_16 {h : oh_H} {a : Nat} (P : PS h a) {i : Nat} (hi : i < 8) : oh_aI h (some (a + 16)) 20 (nI i) = some (oh_AI h (a + 16) i) := e_aI (sK_16 P) (sN_16 P) hi (by decide)
theorem ti_16 {h : oh_H} {a : Nat} (P : PS h a) {i : Nat} (hi : i < 8) (x : Int32) : oh_tI h (some (a + 16)) 20 (nI i) x = some (oh_sI h (a + 16) i x) := e_tI (sK_16 P) (sN_16 P) hi (by decide)
theorem ai_18 {h : oh_H} {a : Nat} (P : PS h a) {i : Nat} (hi : i < 12) : oh_aR h (some (a + 18)) 24 (nI i) = some (oh_AR h (a + 18) i) := e_aR (sK_18 P) (sN_18 P) hi (by decide)
theorem ai_19 {h : oh_H} {a : Nat} (P : PS h a) {i : Nat} (hi : i < 12) : oh_aL h (some (a + 19)) (nI i) = some (oh_AL h (a + 19) i) := e_aL (sK_19 P) (sN_19 P) hi (by decide)
theorem ti_19 {h : oh_H} {a : Nat} (P : PS h a) {i : Nat} (hi : i < 12) (x : Int64) : oh_tL h (some (a + 19)) (nI i) x = some (oh_sL h (a + 19) i x) := e_tL (sK_19 P) (sN_19 P) hi (by decide)
theorem ai_21 {h : oh_H} {a : Nat} (P : PS h a) {i : Nat} (hi : i < 12) : oh_aR h (some (a + 21)) 24 (nI i) = some (oh_AR h (a + 21) i) := e_aR (sK_21 P) (sN_21 P) hi (by decide)
theorem ai_22 {h : oh_H} {a : Nat} (P : PS h a) {i : Nat} (hi : i < 12) : oh_aL h (some (a + 22)) (nI i) = some (oh_AL h (a + 22) i) := e_aL (sK_22 P) (sN_22 P) hi (by decide)
theorem ti_22 {h : oh_H} {a : Nat} (P : PS h a) {i : Nat} (hi : i < 12) (x : Int64) : oh_tL h (some (a + 22)) (nI i) x = some (oh_sL h (a + 22) i x) := e_tL (sK_22 P) (sN_22 P) hi (by decide)
theorem ai_24 {h : oh_H} {a : Nat} (P : PS h a) {i : Nat} (hi : i < 12) : oh_aR h (some (a + 24)) 24 (nI i) = some (oh_AR h (a + 24) i) := e_aR (sK_24 P) (sN_24 P) hi (by decide)
theorem ai_25 {h : oh_H} {a : Nat} (P : PS h a) {i : Nat} (hi : i < 12) : oh_aL h (some (a + 25)) (nI i) = some (oh_AL h (a + 25) i) := e_aL (sK_25 P) (sN_25 P) hi (by decide)
theorem ti_25 {h : oh_H} {a : Nat} (P : PS h a) {i : Nat} (hi : i < 12) (x : Int64) : oh_tL h (some (a + 25)) (nI i) x = some (oh_sL h (a + 25) i x) := e_tL (sK_25 P) (sN_25 P) hi (by decide)
theorem ai_27 {h : oh_H} {a : Nat} (P : PS h a) {i : Nat} (hi : i < 60) : oh_aI h (some (a + 27)) 20 (nI i) = some (oh_AI h (a + 27) i) := e_aI (sK_27 P) (sN_27 P) hi (by decide)
theorem ti_27 {h : oh_H} {a : Nat} (P : PS h a) {i : Nat} (hi : i < 60) (x : Int32) : oh_tI h (some (a + 27)) 20 (nI i) x = some (oh_sI h (a + 27) i x) := e_tI (sK_27 P) (sN_27 P) hi (by decide)
theorem ai_28 {h : oh_H} {a : Nat} (P : PS h a) {i : Nat} (hi : i < 60) : oh_aI h (some (a + 28)) 20 (nI i) = some (oh_AI h (a + 28) i) := e_aI (sK_28 P) (sN_28 P) hi (by decide)
theorem ti_28 {h : oh_H} {a : Nat} (P : PS h a) {i : Nat} (hi : i < 60) (x : Int32) : oh_tI h (some (a + 28)) 20 (nI i) x = some (oh_sI h (a + 28) i x) := e_tI (sK_28 P) (sN_28 P) hi (by decide)
theorem ai_29 {h : oh_H} {a : Nat} (P : PS h a) {i : Nat} (hi : i < 200) : oh_aI h (some (a + 29)) 20 (nI i) = some (oh_AI h (a + 29) i) := e_aI (sK_29 P) (sN_29 P) hi (by decide)
theorem ti_29 {h : oh_H} {a : Nat} (P : PS h a) {i : Nat} (hi : i < 200) (x : Int32) : oh_tI h (some (a + 29)) 20 (nI i) x = some (oh_sI h (a + 29) i x) := e_tI (sK_29 P) (sN_29 P) hi (by decide)
theorem ai_30 {h : oh_H} {a : Nat} (P : PS h a) {i : Nat} (hi : i < 200) : oh_aI h (some (a + 30)) 20 (nI i) = some (oh_AI h (a + 30) i) := e_aI (sK_30 P) (sN_30 P) hi (by decide)
theorem ti_30 {h : oh_H} {a : Nat} (P : PS h a) {i : Nat} (hi : i < 200) (x : Int32) : oh_tI h (some (a + 30)) 20 (nI i) x = some (oh_sI h (a + 30) i x) := e_tI (sK_30 P) (sN_30 P) hi (by decide)
theorem ai_31 {h : oh_H} {a : Nat} (P : PS h a) {i : Nat} (hi : i < 200) : oh_aI h (some (a + 31)) 20 (nI i) = some (oh_AI h (a + 31) i) := e_aI (sK_31 P) (sN_31 P) hi (by decide)
theorem ti_31 {h : oh_H} {a : Nat} (P : PS h a) {i : Nat} (hi : i < 200) (x : Int32) : oh_tI h (some (a + 31)) 20 (nI i) x = some (oh_sI h (a + 31) i x) := e_tI (sK_31 P) (sN_31 P) hi (by decide)
theorem ai_32 {h : oh_H} {a : Nat} (P : PS h a) {i : Nat} (hi : i < 200) : oh_aI h (some (a + 32)) 20 (nI i) = some (oh_AI h (a + 32) i) := e_aI (sK_32 P) (sN_32 P) hi (by decide)
theorem ti_32 {h : oh_H} {a : Nat} (P : PS h a) {i : Nat} (hi : i < 200) (x : Int32) : oh_tI h (some (a + 32)) 20 (nI i) x = some (oh_sI h (a + 32) i x) := e_tI (sK_32 P) (sN_32 P) hi (by decide)
theorem ai_33 {h : oh_H} {a : Nat} (P : PS h a) {i : Nat} (hi : i < 200) : oh_aI h (some (a + 33)) 20 (nI i) = some (oh_AI h (a + 33) i) := e_aI (sK_33 P) (sN_33 P) hi (by decide)
theorem ti_33 {h : oh_H} {a : Nat} (P : PS h a) {i : Nat} (hi : i < 200) (x : Int32) : oh_tI h (some (a + 33)) 20 (nI i) x = some (oh_sI h (a + 33) i x) := e_tI (sK_33 P) (sN_33 P) hi (by decide)
theorem ai_34 {h : oh_H} {a : Nat} (P : PS h a) {i : Nat} (hi : i < 200) : oh_aI h (some (a + 34)) 20 (nI i) = some (oh_AI h (a + 34) i) := e_aI (sK_34 P) (sN_34 P) hi (by decide)
theorem ti_34 {h : oh_H} {a : Nat} (P : PS h a) {i : Nat} (hi : i < 200) (x : Int32) : oh_tI h (some (a + 34)) 20 (nI i) x = some (oh_sI h (a + 34) i x) := e_tI (sK_34 P) (sN_34 P) hi (by decide)
theorem ai_35 {h : oh_H} {a : Nat} (P : PS h a) {i : Nat} (hi : i < 200) : oh_aI h (some (a + 35)) 20 (nI i) = some (oh_AI h (a + 35) i) := e_aI (sK_35 P) (sN_35 P) hi (by decide)
theorem ti_35 {h : oh_H} {a : Nat} (P : PS h a) {i : Nat} (hi : i < 200) (x : Int32) : oh_tI h (some (a + 35)) 20 (nI i) x = some (oh_sI h (a + 35) i x) := e_tI (sK_35 P) (sN_35 P) hi (by decide)
theorem ai_36 {h : oh_H} {a : Nat} (P : PS h a) {i : Nat} (hi : i < 200) : oh_aI h (some (a + 36)) 20 (nI i) = some (oh_AI h (a + 36) i) := e_aI (sK_36 P) (sN_36 P) hi (by decide)
theorem ti_36 {h : oh_H} {a : Nat} (P : PS h a) {i : Nat} (hi : i < 200) (x : Int32) : oh_tI h (some (a + 36)) 20 (nI i) x = some (oh_sI h (a + 36) i x) := e_tI (sK_36 P) (sN_36 P) hi (by decide)
theorem ai_37 {h : oh_H} {a : Nat} (P : PS h a) {i : Nat} (hi : i < 200) : oh_aI h (some (a + 37)) 20 (nI i) = some (oh_AI h (a + 37) i) := e_aI (sK_37 P) (sN_37 P) hi (by decide)
theorem ti_37 {h : oh_H} {a : Nat} (P : PS h a) {i : Nat} (hi : i < 200) (x : Int32) : oh_tI h (some (a + 37)) 20 (nI i) x = some (oh_sI h (a + 37) i x) := e_tI (sK_37 P) (sN_37 P) hi (by decide)
theorem ai_38 {h : oh_H} {a : Nat} (P : PS h a) {i : Nat} (hi : i < 200) : oh_aI h (some (a + 38)) 20 (nI i) = some (oh_AI h (a + 38) i) := e_aI (sK_38 P) (sN_38 P) hi (by decide)
theorem ti_38 {h : oh_H} {a : Nat} (P : PS h a) {i : Nat} (hi : i < 200) (x : Int32) : oh_tI h (some (a + 38)) 20 (nI i) x = some (oh_sI h (a + 38) i x) := e_tI (sK_38 P) (sN_38 P) hi (by decide)
theorem ai_39 {h : oh_H} {a : Nat} (P : PS h a) {i : Nat} (hi : i < 200) : oh_aI h (some (a + 39)) 22 (nI i) = some (oh_AI h (a + 39) i) := e_aI (sK_39 P) (sN_39 P) hi (by decide)
theorem ti_39 {h : oh_H} {a : Nat} (P : PS h a) {i : Nat} (hi : i < 200) (x : Int32) : oh_tI h (some (a + 39)) 22 (nI i) x = some (oh_sI h (a + 39) i x) := e_tI (sK_39 P) (sN_39 P) hi (by decide)
theorem ai_40 {h : oh_H} {a : Nat} (P : PS h a) {i : Nat} (hi : i < 3) : oh_aI h (some (a + 40)) 20 (nI i) = some (oh_AI h (a + 40) i) := e_aI (sK_40 P) (sN_40 P) hi (by decide)
theorem ti_40 {h : oh_H} {a : Nat} (P : PS h a) {i : Nat} (hi : i < 3) (x : Int32) : oh_tI h (some (a + 40)) 20 (nI i) x = some (oh_sI h (a + 40) i x) := e_tI (sK_40 P) (sN_40 P) hi (by decide)
theorem ai_41 {h : oh_H} {a : Nat} (P : PS h a) {i : Nat} (hi : i < 3) : oh_aI h (some (a + 41)) 20 (nI i) = some (oh_AI h (a + 41) i) := e_aI (sK_41 P) (sN_41 P) hi (by decide)
theorem ti_41 {h : oh_H} {a : Nat} (P : PS h a) {i : Nat} (hi : i < 3) (x : Int32) : oh_tI h (some (a + 41)) 20 (nI i) x = some (oh_sI h (a + 41) i x) := e_tI (sK_41 P) (sN_41 P) hi (by decide)
theorem ai_42 {h : oh_H} {a : Nat} (P : PS h a) {i : Nat} (hi : i < 3) : oh_aI h (some (a + 42)) 20 (nI i) = some (oh_AI h (a + 42) i) := e_aI (sK_42 P) (sN_42 P) hi (by decide)
theorem ti_42 {h : oh_H} {a : Nat} (P : PS h a) {i : Nat} (hi : i < 3) (x : Int32) : oh_tI h (some (a + 42)) 20 (nI i) x = some (oh_sI h (a + 42) i x) := e_tI (sK_42 P) (sN_42 P) hi (by decide)
theorem ai_43 {h : oh_H} {a : Nat} (P : PS h a) {i : Nat} (hi : i < 3) : oh_aI h (some (a + 43)) 20 (nI i) = some (oh_AI h (a + 43) i) := e_aI (sK_43 P) (sN_43 P) hi (by decide)
theorem ti_43 {h : oh_H} {a : Nat} (P : PS h a) {i : Nat} (hi : i < 3) (x : Int32) : oh_tI h (some (a + 43)) 20 (nI i) x = some (oh_sI h (a + 43) i x) := e_tI (sK_43 P) (sN_43 P) hi (by decide)
theorem ai_44 {h : oh_H} {a : Nat} (P : PS h a) {i : Nat} (hi : i < 36) : oh_aI h (some (a + 44)) 20 (nI i) = some (oh_AI h (a + 44) i) := e_aI (sK_44 P) (sN_44 P) hi (by decide)
theorem ti_44 {h : oh_H} {a : Nat} (P : PS h a) {i : Nat} (hi : i < 36) (x : Int32) : oh_tI h (some (a + 44)) 20 (nI i) x = some (oh_sI h (a + 44) i x) := e_tI (sK_44 P) (sN_44 P) hi (by decide)
theorem ai_45 {h : oh_H} {a : Nat} (P : PS h a) {i : Nat} (hi : i < 3) : oh_aI h (some (a + 45)) 22 (nI i) = some (oh_AI h (a + 45) i) := e_aI (sK_45 P) (sN_45 P) hi (by decide)
theorem ti_45 {h : oh_H} {a : Nat} (P : PS h a) {i : Nat} (hi : i < 3) (x : Int32) : oh_tI h (some (a + 45)) 22 (nI i) x = some (oh_sI h (a + 45) i x) := e_tI (sK_45 P) (sN_45 P) hi (by decide)
theorem ai_46 {h : oh_H} {a : Nat} (P : PS h a) {i : Nat} (hi : i < 3) : oh_aI h (some (a + 46)) 22 (nI i) = some (oh_AI h (a + 46) i) := e_aI (sK_46 P) (sN_46 P) hi (by decide)
theorem ti_46 {h : oh_H} {a : Nat} (P : PS h a) {i : Nat} (hi : i < 3) (x : Int32) : oh_tI h (some (a + 46)) 22 (nI i) x = some (oh_sI h (a + 46) i x) := e_tI (sK_46 P) (sN_46 P) hi (by decide)
theorem ai_47 {h : oh_H} {a : Nat} (P : PS h a) {i : Nat} (hi : i < 3) : oh_aI h (some (a + 47)) 20 (nI i) = some (oh_AI h (a + 47) i) := e_aI (sK_47 P) (sN_47 P) hi (by decide)
theorem ti_47 {h : oh_H} {a : Nat} (P : PS h a) {i : Nat} (hi : i < 3) (x : Int32) : oh_tI h (some (a + 47)) 20 (nI i) x = some (oh_sI h (a + 47) i x) := e_tI (sK_47 P) (sN_47 P) hi (by decide)
theorem ai_48 {h : oh_H} {a : Nat} (P : PS h a) {i : Nat} (hi : i < 3) : oh_aI h (some (a + 48)) 20 (nI i) = some (oh_AI h (a + 48) i) := e_aI (sK_48 P) (sN_48 P) hi (by decide)
theorem ti_48 {h : oh_H} {a : Nat} (P : PS h a) {i : Nat} (hi : i < 3) (x : Int32) : oh_tI h (some (a + 48)) 20 (nI i) x = some (oh_sI h (a + 48) i x) := e_tI (sK_48 P) (sN_48 P) hi (by decide)
theorem ai_49 {h : oh_H} {a : Nat} (P : PS h a) {i : Nat} (hi : i < 3) : oh_aI h (some (a + 49)) 20 (nI i) = some (oh_AI h (a + 49) i) := e_aI (sK_49 P) (sN_49 P) hi (by decide)
theorem ti_49 {h : oh_H} {a : Nat} (P : PS h a) {i : Nat} (hi : i < 3) (x : Int32) : oh_tI h (some (a + 49)) 20 (nI i) x = some (oh_sI h (a + 49) i x) := e_tI (sK_49 P) (sN_49 P) hi (by decide)
theorem ai_50 {h : oh_H} {a : Nat} (P : PS h a) {i : Nat} (hi : i < 12) : oh_aI h (some (a + 50)) 20 (nI i) = some (oh_AI h (a + 50) i) := e_aI (sK_50 P) (sN_50 P) hi (by decide)
theorem ti_50 {h : oh_H} {a : Nat} (P : PS h a) {i : Nat} (hi : i < 12) (x : Int32) : oh_tI h (some (a + 50)) 20 (nI i) x = some (oh_sI h (a + 50) i x) := e_tI (sK_50 P) (sN_50 P) hi (by decide)
theorem ai_51 {h : oh_H} {a : Nat} (P : PS h a) {i : Nat} (hi : i < 12) : oh_aI h (some (a + 51)) 22 (nI i) = some (oh_AI h (a + 51) i) := e_aI (sK_51 P) (sN_51 P) hi (by decide)
theorem ti_51 {h : oh_H} {a : Nat} (P : PS h a) {i : Nat} (hi : i < 12) (x : Int32) : oh_tI h (some (a + 51)) 22 (nI i) x = some (oh_sI h (a + 51) i x) := e_tI (sK_51 P) (sN_51 P) hi (by decide)
theorem ai_52 {h : oh_H} {a : Nat} (P : PS h a) {i : Nat} (hi : i < 12) : oh_aI h (some (a + 52)) 20 (nI i) = some (oh_AI h (a + 52) i) := e_aI (sK_52 P) (sN_52 P) hi (by decide)
theorem ti_52 {h : oh_H} {a : Nat} (P : PS h a) {i : Nat} (hi : i < 12) (x : Int32) : oh_tI h (some (a + 52)) 20 (nI i) x = some (oh_sI h (a + 52) i x) := e_tI (sK_52 P) (sN_52 P) hi (by decide)
theorem ai_53 {h : oh_H} {a : Nat} (P : PS h a) {i : Nat} (hi : i < 12) : oh_aI h (some (a + 53)) 20 (nI i) = some (oh_AI h (a + 53) i) := e_aI (sK_53 P) (sN_53 P) hi (by decide)
theorem ti_53 {h : oh_H} {a : Nat} (P : PS h a) {i : Nat} (hi : i < 12) (x : Int32) : oh_tI h (some (a + 53)) 20 (nI i) x = some (oh_sI h (a + 53) i x) := e_tI (sK_53 P) (sN_53 P) hi (by decide)
theorem ai_54 {h : oh_H} {a : Nat} (P : PS h a) {i : Nat} (hi : i < 12) : oh_aI h (some (a + 54)) 20 (nI i) = some (oh_AI h (a + 54) i) := e_aI (sK_54 P) (sN_54 P) hi (by decide)
theorem ti_54 {h : oh_H} {a : Nat} (P : PS h a) {i : Nat} (hi : i < 12) (x : Int32) : oh_tI h (some (a + 54)) 20 (nI i) x = some (oh_sI h (a + 54) i x) := e_tI (sK_54 P) (sN_54 P) hi (by decide)
theorem ai_55 {h : oh_H} {a : Nat} (P : PS h a) {i : Nat} (hi : i < 12) : oh_aI h (some (a + 55)) 22 (nI i) = some (oh_AI h (a + 55) i) := e_aI (sK_55 P) (sN_55 P) hi (by decide)
theorem ti_55 {h : oh_H} {a : Nat} (P : PS h a) {i : Nat} (hi : i < 12) (x : Int32) : oh_tI h (some (a + 55)) 22 (nI i) x = some (oh_sI h (a + 55) i x) := e_tI (sK_55 P) (sN_55 P) hi (by decide)
theorem ai_56 {h : oh_H} {a : Nat} (P : PS h a) {i : Nat} (hi : i < 12) : oh_aL h (some (a + 56)) (nI i) = some (oh_AL h (a + 56) i) := e_aL (sK_56 P) (sN_56 P) hi (by decide)
theorem ti_56 {h : oh_H} {a : Nat} (P : PS h a) {i : Nat} (hi : i < 12) (x : Int64) : oh_tL h (some (a + 56)) (nI i) x = some (oh_sL h (a + 56) i x) := e_tL (sK_56 P) (sN_56 P) hi (by decide)
theorem ai_57 {h : oh_H} {a : Nat} (P : PS h a) {i : Nat} (hi : i < 12) : oh_aL h (some (a + 57)) (nI i) = some (oh_AL h (a + 57) i) := e_aL (sK_57 P) (sN_57 P) hi (by decide)
theorem ti_57 {h : oh_H} {a : Nat} (P : PS h a) {i : Nat} (hi : i < 12) (x : Int64) : oh_tL h (some (a + 57)) (nI i) x = some (oh_sL h (a + 57) i x) := e_tL (sK_57 P) (sN_57 P) hi (by decide)
theorem ai_58 {h : oh_H} {a : Nat} (P : PS h a) {i : Nat} (hi : i < 120) : oh_aI h (some (a + 58)) 20 (nI i) = some (oh_AI h (a + 58) i) := e_aI (sK_58 P) (sN_58 P) hi (by decide)
theorem ti_58 {h : oh_H} {a : Nat} (P : PS h a) {i : Nat} (hi : i < 120) (x : Int32) : oh_tI h (some (a + 58)) 20 (nI i) x = some (oh_sI h (a + 58) i x) := e_tI (sK_58 P) (sN_58 P) hi (by decide)
theorem ai_59 {h : oh_H} {a : Nat} (P : PS h a) {i : Nat} (hi : i < 8) : oh_aI h (some (a + 59)) 20 (nI i) = some (oh_AI h (a + 59) i) := e_aI (sK_59 P) (sN_59 P) hi (by decide)
theorem ti_59 {h : oh_H} {a : Nat} (P : PS h a) {i : Nat} (hi : i < 8) (x : Int32) : oh_tI h (some (a + 59)) 20 (nI i) x = some (oh_sI h (a + 59) i x) := e_tI (sK_59 P) (sN_59 P) hi (by decide)
theorem ai_60 {h : oh_H} {a : Nat} (P : PS h a) {i : Nat} (hi : i < 8) : oh_aI h (some (a + 60)) 20 (nI i) = some (oh_AI h (a + 60) i) := e_aI (sK_60 P) (sN_60 P) hi (by decide)
theorem ti_60 {h : oh_H} {a : Nat} (P : PS h a) {i : Nat} (hi : i < 8) (x : Int32) : oh_tI h (some (a + 60)) 20 (nI i) x = some (oh_sI h (a + 60) i x) := e_tI (sK_60 P) (sN_60 P) hi (by decide)
theorem ai_61 {h : oh_H} {a : Nat} (P : PS h a) {i : Nat} (hi : i < 8) : oh_aI h (some (a + 61)) 20 (nI i) = some (oh_AI h (a + 61) i) := e_aI (sK_61 P) (sN_61 P) hi (by decide)
theorem ti_61 {h : oh_H} {a : Nat} (P : PS h a) {i : Nat} (hi : i < 8) (x : Int32) : oh_tI h (some (a + 61)) 20 (nI i) x = some (oh_sI h (a + 61) i x) := e_tI (sK_61 P) (sN_61 P) hi (by decide)
theorem PS.wI {h : oh_H} {a : Nat} (P : PS h a) (c b : Nat) (x : Int32) : PS (oh_wI h c b x) a := P
theorem PS.wL {h : oh_H} {a : Nat} (P : PS h a) (c b : Nat) (x : Int64) : PS (oh_wL h c b x) a := P
theorem PS.sI {h : oh_H} {a : Nat} (P : PS h a) (c b : Nat) (x : Int32) : PS (oh_sI h c b x) a := P
theorem PS.sL {h : oh_H} {a : Nat} (P : PS h a) (c b : Nat) (x : Int64) : PS (oh_sL h c b x) a := P
