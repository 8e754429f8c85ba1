/-! Bounds of the class's cells and what stands at the base's places, one lemma each; the tables of bounds as trees. -/
def gc_tl (r : Nat) : Nat × List Int × Int := cond (Nat.blt r 39) (cond (Nat.blt r 19) (cond (Nat.blt r 9) (cond (Nat.blt r 4) (cond (Nat.blt r 2) (cond (Nat.blt r 1) ((0, [], -2147483648)) ((0, [], -128))) (cond (Nat.blt r 3) ((0, [], 0)) ((0, [-2147483648, 0, -2147483648, -2147483648, 0, 0, 0, 0, 0, -2147483648], -2147483648)))) (cond (Nat.blt r 6) (cond (Nat.blt r 5) ((0, [], 0)) ((0, [], 0))) (cond (Nat.blt r 7) ((0, [-2147483648, 0], -2147483648)) (cond (Nat.blt r 8) ((0, [-2147483648, 0], -2147483648)) ((0, [-2147483648, 0], -2147483648)))))) (cond (Nat.blt r 14) (cond (Nat.blt r 11) (cond (Nat.blt r 10) ((0, [-2147483648, 0], -2147483648)) ((0, [-2147483648, 0], -2147483648))) (cond (Nat.blt r 12) ((0, [-2147483648, 0], -2147483648)) (cond (Nat.blt r 13) ((0, [-2147483648, 0], -2147483648)) ((0, [], 0))))) (cond (Nat.blt r 16) (cond (Nat.blt r 15) ((0, [0, 0, 0, 0, 0, -2147483648, -2147483648, -2147483648, 0, -2147483648, -2147483648, -2147483648, 0, -2147483648, 0, -2147483648], -2147483648)) ((0, [], -1))) (cond (Nat.blt r 17) ((0, [], 0)) (cond (Nat.blt r 18) ((0, [], 0)) ((0, [], 0))))))) (cond (Nat.blt r 29) (cond (Nat.blt r 24) (cond (Nat.blt r 21) (cond (Nat.blt r 20) ((0, [], -1)) ((3, [0, 0, 0], 0))) (cond (Nat.blt r 22) ((3, [-1, 0, 0], 0)) (cond (Nat.blt r 23) ((0, [-2147483648, -2147483648, -2147483648, -2147483648, -2147483648, -1, -2147483648, -2147483648, -2147483648, -2147483648, -2147483648, -2147483648, -2147483648, 0, -2147483648, -2147483648, -2147483648, 0, 0, -2147483648, -2147483648], -2147483648)) ((0, [-2147483648, -2147483648, -2147483648, -2147483648, -2147483648, -2147483648, 0, -2147483648, -2147483648, -2147483648, -2147483648, 0, -2147483648, 0, -2147483648, -2147483648], -2147483648))))) (cond (Nat.blt r 26) (cond (Nat.blt r 25) ((0, [-2147483648, -2147483648, -2147483648, -2147483648, -2147483648, -2147483648, 0, 0, 0, 0], -2147483648)) ((0, [], 0))) (cond (Nat.blt r 27) ((0, [], 0)) (cond (Nat.blt r 28) ((0, [], 0)) ((0, [], 0)))))) (cond (Nat.blt r 34) (cond (Nat.blt r 31) (cond (Nat.blt r 30) ((0, [], -1)) ((0, [], 0))) (cond (Nat.blt r 32) ((0, [], 0)) (cond (Nat.blt r 33) ((0, [], 0)) ((0, [], -1))))) (cond (Nat.blt r 36) (cond (Nat.blt r 35) ((0, [], -1)) ((0, [], 0))) (cond (Nat.blt r 37) ((0, [], 0)) (cond (Nat.blt r 38) ((0, [], 0)) ((0, [], 0)))))))) (cond (Nat.blt r 59) (cond (Nat.blt r 49) (cond (Nat.blt r 44) (cond (Nat.blt r 41) (cond (Nat.blt r 40) ((3, [0, 0, -1], 0)) ((11, [0, 0, 0, 0, 0, 0, 0, 0, 0, 0, 0], 0))) (cond (Nat.blt r 42) ((25, [0, 0, 0, 0, 0, 0, 0, 0, 0, 0, 0, 0, 0, 0, 0, 0, 0, 0, 0, 0, 0, 0, 0, 0, 0], 0)) (cond (Nat.blt r 43) ((0, [-2147483648, -2147483648, -1, 0, 0, 0, 0, 0, 0, -2147483648, -2147483648, -2147483648, 0, -2147483648, -2147483648, 0, -2147483648, -2147483648, -2147483648], -2147483648)) ((0, [], 0))))) (cond (Nat.blt r 46) (cond (Nat.blt r 45) ((0, [], 0)) ((0, [], 0))) (cond (Nat.blt r 47) ((0, [], -384)) (cond (Nat.blt r 48) ((0, [], 0)) ((0, [], 0)))))) (cond (Nat.blt r 54) (cond (Nat.blt r 51) (cond (Nat.blt r 50) ((0, [-2147483648, -2147483648, -2147483648, 0, -2147483648, -2147483648, 0, -2147483648, -2147483648, -2147483648, 0, 0, 0, -1, -1, -2147483648, -2147483648, 0, 0, -2147483648, -2147483648, -2147483648], -2147483648)) ((0, [], -7))) (cond (Nat.blt r 52) ((0, [], 0)) (cond (Nat.blt r 53) ((0, [], 0)) ((0, [], 0))))) (cond (Nat.blt r 56) (cond (Nat.blt r 55) ((0, [], 0)) ((0, [], 0))) (cond (Nat.blt r 57) ((0, [], 0)) (cond (Nat.blt r 58) ((0, [], -1)) ((0, [], 0))))))) (cond (Nat.blt r 69) (cond (Nat.blt r 64) (cond (Nat.blt r 61) (cond (Nat.blt r 60) ((0, [], 0)) ((0, [], 0))) (cond (Nat.blt r 62) ((0, [], -1)) (cond (Nat.blt r 63) ((0, [], 0)) ((0, [], 0))))) (cond (Nat.blt r 66) (cond (Nat.blt r 65) ((0, [], 0)) ((0, [], 0))) (cond (Nat.blt r 67) ((0, [], 0)) (cond (Nat.blt r 68) ((0, [], 0)) ((0, [], 0)))))) (cond (Nat.blt r 74) (cond (Nat.blt r 71) (cond (Nat.blt r 70) ((0, [], 0)) ((0, [], -1))) (cond (Nat.blt r 72) ((3, [0, 0, -2147483648], 0)) (cond (Nat.blt r 73) ((0, [-2147483648, -2147483648, -1, 0, 0, -2147483648, -2147483648, -2147483648, 0, 0, 0, -2147483648, -2147483648, -2147483648, -2147483648, 0, -2147483648, -2147483648, -2147483648], -2147483648)) ((0, [-2147483648, -1, -2147483648, -2147483648, -2147483648, -2147483648, -2147483648, -2147483648, -2147483648, -1, -2147483648, -2147483648, -2147483648, -2147483648], -2147483648))))) (cond (Nat.blt r 76) (cond (Nat.blt r 75) ((0, [-2147483648, 0, 0, 0, 0, 0, -2147483648, -2147483648, -2147483648, 0, -2147483648, -2147483648, -2147483648, -2147483648, -2147483648, -2147483648, -1, 0, 0], -2147483648)) ((0, [-2147483648, 0, 0, -2147483648, 0, -2147483648, -2147483648, 0, 0, 0, -2147483648, -2147483648, -2147483648, -2147483648, 0, -2147483648, -2147483648, 0, -2147483648], -2147483648))) (cond (Nat.blt r 77) ((0, [-2147483648, -2147483648, -2147483648, -2147483648, -2147483648, -2147483648, -2147483648, -2147483648, -2147483648, -2147483648, -2147483648, -2147483648, -2147483648, -2147483648, -2147483648, 0, -2147483648], -2147483648)) (cond (Nat.blt r 78) ((0, [], -3)) ((0, [], 0))))))))
theorem gc_tl_ok : ∀ r, r < 79 → gc_tl r = gc_np gc_rl r := by decide +kernel
def gc_th (r : Nat) : Nat × List Int × Int := cond (Nat.blt r 39) (cond (Nat.blt r 19) (cond (Nat.blt r 9) (cond (Nat.blt r 4) (cond (Nat.blt r 2) (cond (Nat.blt r 1) ((0, [], 2147483647)) ((0, [], 127))) (cond (Nat.blt r 3) ((0, [], 1)) ((0, [2147483647, 1000, 2147483647, 2147483647, 24, 1000, 1001, 125, 999999, 2147483647], 2147483647)))) (cond (Nat.blt r 6) (cond (Nat.blt r 5) ((0, [], 1000)) ((0, [], 24))) (cond (Nat.blt r 7) ((0, [2147483647, 8], 2147483647)) (cond (Nat.blt r 8) ((0, [2147483647, 16], 2147483647)) ((0, [2147483647, 24], 2147483647)))))) (cond (Nat.blt r 14) (cond (Nat.blt r 11) (cond (Nat.blt r 10) ((0, [2147483647, 32], 2147483647)) ((0, [2147483647, 48], 2147483647))) (cond (Nat.blt r 12) ((0, [2147483647, 96], 2147483647)) (cond (Nat.blt r 13) ((0, [2147483647, 384], 2147483647)) ((0, [], 16777215))))) (cond (Nat.blt r 16) (cond (Nat.blt r 15) ((0, [384, 95, 384, 10000, 6, 2147483647, 2147483647, 2147483647, 4, 2147483647, 2147483647, 2147483647, 6, 2147483647, 6, 2147483647], 2147483647)) ((0, [], 3))) (cond (Nat.blt r 17) ((0, [], 2000)) (cond (Nat.blt r 18) ((0, [], 24)) ((0, [], 3))))))) (cond (Nat.blt r 29) (cond (Nat.blt r 24) (cond (Nat.blt r 21) (cond (Nat.blt r 20) ((0, [], 3)) ((3, [3, 3, 21], 0))) (cond (Nat.blt r 22) ((3, [3, 21, 7], 0)) (cond (Nat.blt r 23) ((0, [2147483647, 2147483647, 2147483647, 2147483647, 2147483647, 7, 2147483647, 2147483647, 2147483647, 2147483647, 2147483647, 2147483647, 2147483647, 64, 2147483647, 2147483647, 2147483647, 12000, 1, 2147483647, 2147483647], 2147483647)) ((0, [2147483647, 2147483647, 2147483647, 2147483647, 2147483647, 2147483647, 24, 2147483647, 2147483647, 2147483647, 2147483647, 64, 2147483647, 384, 2147483647, 2147483647], 2147483647))))) (cond (Nat.blt r 26) (cond (Nat.blt r 25) ((0, [2147483647, 2147483647, 2147483647, 2147483647, 2147483647, 2147483647, 1, 1, 64, 24], 2147483647)) ((0, [], 31))) (cond (Nat.blt r 27) ((0, [], 4)) (cond (Nat.blt r 28) ((0, [], 10000)) ((0, [], 40)))))) (cond (Nat.blt r 34) (cond (Nat.blt r 31) (cond (Nat.blt r 30) ((0, [], 7)) ((0, [], 7))) (cond (Nat.blt r 32) ((0, [], 6)) (cond (Nat.blt r 33) ((0, [], 24)) ((0, [], 24))))) (cond (Nat.blt r 36) (cond (Nat.blt r 35) ((0, [], 1535)) ((0, [], 1535))) (cond (Nat.blt r 37) ((0, [], 127)) (cond (Nat.blt r 38) ((0, [], 95)) ((0, [], 59)))))))) (cond (Nat.blt r 59) (cond (Nat.blt r 49) (cond (Nat.blt r 44) (cond (Nat.blt r 41) (cond (Nat.blt r 40) ((3, [16777215, 2000, 2000], 0)) ((11, [95, 23, 16777215, 10000, 3, 2000, 12, 2000, 12, 2000, 12], 0))) (cond (Nat.blt r 42) ((25, [2, 2000, 12, 2000, 12, 3, 3, 2, 2000, 12, 2, 2000, 12, 2, 2000, 12, 2, 2000, 12, 2, 2000, 12, 2, 2000, 12], 0)) (cond (Nat.blt r 43) ((0, [2147483647, 2147483647, 999999, 6, 1000, 1000, 16777215, 10000, 24, 2147483647, 2147483647, 2147483647, 2000, 2147483647, 2147483647, 41, 2147483647, 2147483647, 2147483647], 2147483647)) ((0, [], 3000))))) (cond (Nat.blt r 46) (cond (Nat.blt r 45) ((0, [], 2999)) ((0, [], 24))) (cond (Nat.blt r 47) ((0, [], 1535)) (cond (Nat.blt r 48) ((0, [], 384)) ((0, [], 383)))))) (cond (Nat.blt r 54) (cond (Nat.blt r 51) (cond (Nat.blt r 50) ((0, [2147483647, 2147483647, 2147483647, 3000, 2147483647, 2147483647, 9000, 2147483647, 2147483647, 2147483647, 18431, 1000000, 1, 999999, 999999, 2147483647, 2147483647, 3000, 24, 2147483647, 2147483647, 2147483647], 2147483647)) ((0, [], 41))) (cond (Nat.blt r 52) ((0, [], 8999)) (cond (Nat.blt r 53) ((0, [], 16)) ((0, [], 65535))))) (cond (Nat.blt r 56) (cond (Nat.blt r 55) ((0, [], 47999)) ((0, [], 1000))) (cond (Nat.blt r 57) ((0, [], 1048575)) (cond (Nat.blt r 58) ((0, [], 16777215)) ((0, [], 1439))))))) (cond (Nat.blt r 69) (cond (Nat.blt r 64) (cond (Nat.blt r 61) (cond (Nat.blt r 60) ((0, [], 7)) ((0, [], 400))) (cond (Nat.blt r 62) ((0, [], 300)) (cond (Nat.blt r 63) ((0, [], 9)) ((0, [], 300))))) (cond (Nat.blt r 66) (cond (Nat.blt r 65) ((0, [], 8)) ((0, [], 23))) (cond (Nat.blt r 67) ((0, [], 1536)) (cond (Nat.blt r 68) ((0, [], 99)) ((0, [], 60)))))) (cond (Nat.blt r 74) (cond (Nat.blt r 71) (cond (Nat.blt r 70) ((0, [], 200)) ((0, [], 12000))) (cond (Nat.blt r 72) ((3, [125, 1001, 2147483647], 0)) (cond (Nat.blt r 73) ((0, [2147483647, 2147483647, 999999, 1, 1, 2147483647, 2147483647, 2147483647, 9000, 1, 1, 2147483647, 2147483647, 2147483647, 2147483647, 16, 2147483647, 2147483647, 2147483647], 2147483647)) ((0, [2147483647, 999999, 2147483647, 2147483647, 2147483647, 2147483647, 2147483647, 2147483647, 2147483647, 59, 2147483647, 2147483647, 2147483647, 2147483647], 2147483647))))) (cond (Nat.blt r 76) (cond (Nat.blt r 75) ((0, [2147483647, 300, 1, 1, 1, 1, 2147483647, 2147483647, 2147483647, 300, 2147483647, 2147483647, 2147483647, 2147483647, 2147483647, 2147483647, 301, 300, 1], 2147483647)) ((0, [2147483647, 7, 1536, 2147483647, 24, 2147483647, 2147483647, 1536, 4, 100, 2147483647, 2147483647, 2147483647, 2147483647, 2400, 2147483647, 2147483647, 8, 2147483647], 2147483647))) (cond (Nat.blt r 77) ((0, [2147483647, 2147483647, 2147483647, 2147483647, 2147483647, 2147483647, 2147483647, 2147483647, 2147483647, 2147483647, 2147483647, 2147483647, 2147483647, 2147483647, 2147483647, 16, 2147483647], 2147483647)) (cond (Nat.blt r 78) ((0, [], 1000000)) ((0, [], 1))))))))
theorem gc_th_ok : ∀ r, r < 79 → gc_th r = gc_np gc_rh r := by decide +kernel
theorem gc_in2 {ro : Nat → Nat} {I : gr_I} {p k r : Nat} {lo hi : Int} (hI : gc_Inv ro I) (hr : ro p = r) (hb : Nat.blt r 79 = true) (hl : gc_at (gc_tl r) k = lo) (hh : gc_at (gc_th r) k = hi) : lo ≤ I p k ∧ I p k ≤ hi := by
  have hr9 : r < 79 := Nat.le_of_ble_eq_true hb
  rw [gc_tl_ok r hr9] at hl
  rw [gc_th_ok r hr9] at hh
  exact gc_in hI hr hl hh
theorem gc_b_0 {ro : Nat → Nat} {I : gr_I} {p : Nat} (hI : gc_Inv ro I) (hr : ro p = 0) (k : Nat) : (-2147483648) ≤ I p k ∧ I p k ≤ 2147483647 := gc_in hI hr rfl rfl
theorem gc_b_0_0 {ro : Nat → Nat} {I : gr_I} {p : Nat} (hI : gc_Inv ro I) (hr : ro p = 0) : (-2147483648) ≤ I p 0 ∧ I p 0 ≤ 2147483647 := gc_in hI hr rfl rfl
theorem gc_b_0_1 {ro : Nat → Nat} {I : gr_I} {p : Nat} (hI : gc_Inv ro I) (hr : ro p = 0) : (-2147483648) ≤ I p 1 ∧ I p 1 ≤ 2147483647 := gc_in hI hr rfl rfl
theorem gc_b_0_2 {ro : Nat → Nat} {I : gr_I} {p : Nat} (hI : gc_Inv ro I) (hr : ro p = 0) : (-2147483648) ≤ I p 2 ∧ I p 2 ≤ 2147483647 := gc_in hI hr rfl rfl
theorem gc_b_1 {ro : Nat → Nat} {I : gr_I} {p : Nat} (hI : gc_Inv ro I) (hr : ro p = 1) (k : Nat) : (-128) ≤ I p k ∧ I p k ≤ 127 := gc_in hI hr rfl rfl
theorem gc_b_2 {ro : Nat → Nat} {I : gr_I} {p : Nat} (hI : gc_Inv ro I) (hr : ro p = 2) (k : Nat) : 0 ≤ I p k ∧ I p k ≤ 1 := gc_in hI hr rfl rfl
theorem gc_b_3_1 {ro : Nat → Nat} {I : gr_I} {p : Nat} (hI : gc_Inv ro I) (hr : ro p = 3) : 0 ≤ I p 1 ∧ I p 1 ≤ 1000 := gc_in hI hr rfl rfl
theorem gc_b_3_4 {ro : Nat → Nat} {I : gr_I} {p : Nat} (hI : gc_Inv ro I) (hr : ro p = 3) : 0 ≤ I p 4 ∧ I p 4 ≤ 24 := gc_in hI hr rfl rfl
theorem gc_b_3_5 {ro : Nat → Nat} {I : gr_I} {p : Nat} (hI : gc_Inv ro I) (hr : ro p = 3) : 0 ≤ I p 5 ∧ I p 5 ≤ 1000 := gc_in hI hr rfl rfl
theorem gc_b_3_6 {ro : Nat → Nat} {I : gr_I} {p : Nat} (hI : gc_Inv ro I) (hr : ro p = 3) : 0 ≤ I p 6 ∧ I p 6 ≤ 1001 := gc_in hI hr rfl rfl
theorem gc_b_3_7 {ro : Nat → Nat} {I : gr_I} {p : Nat} (hI : gc_Inv ro I) (hr : ro p = 3) : 0 ≤ I p 7 ∧ I p 7 ≤ 125 := gc_in hI hr rfl rfl
theorem gc_b_3_8 {ro : Nat → Nat} {I : gr_I} {p : Nat} (hI : gc_Inv ro I) (hr : ro p = 3) : 0 ≤ I p 8 ∧ I p 8 ≤ 999999 := gc_in hI hr rfl rfl
theorem gc_b_4 {ro : Nat → Nat} {I : gr_I} {p : Nat} (hI : gc_Inv ro I) (hr : ro p = 4) (k : Nat) : 0 ≤ I p k ∧ I p k ≤ 1000 := gc_in hI hr rfl rfl
theorem gc_b_5 {ro : Nat → Nat} {I : gr_I} {p : Nat} (hI : gc_Inv ro I) (hr : ro p = 5) (k : Nat) : 0 ≤ I p k ∧ I p k ≤ 24 := gc_in hI hr rfl rfl
theorem gc_b_6_1 {ro : Nat → Nat} {I : gr_I} {p : Nat} (hI : gc_Inv ro I) (hr : ro p = 6) : 0 ≤ I p 1 ∧ I p 1 ≤ 8 := gc_in hI hr rfl rfl
theorem gc_b_9_1 {ro : Nat → Nat} {I : gr_I} {p : Nat} (hI : gc_Inv ro I) (hr : ro p = 9) : 0 ≤ I p 1 ∧ I p 1 ≤ 32 := gc_in hI hr rfl rfl
theorem gc_b_11_1 {ro : Nat → Nat} {I : gr_I} {p : Nat} (hI : gc_Inv ro I) (hr : ro p = 11) : 0 ≤ I p 1 ∧ I p 1 ≤ 96 := gc_in hI hr rfl rfl
theorem gc_b_13 {ro : Nat → Nat} {I : gr_I} {p : Nat} (hI : gc_Inv ro I) (hr : ro p = 13) (k : Nat) : 0 ≤ I p k ∧ I p k ≤ 16777215 := gc_in hI hr rfl rfl
theorem gc_b_22_5 {ro : Nat → Nat} {I : gr_I} {p : Nat} (hI : gc_Inv ro I) (hr : ro p = 22) : (-1) ≤ I p 5 ∧ I p 5 ≤ 7 := gc_in hI hr rfl rfl
theorem gc_b_22_13 {ro : Nat → Nat} {I : gr_I} {p : Nat} (hI : gc_Inv ro I) (hr : ro p = 22) : 0 ≤ I p 13 ∧ I p 13 ≤ 64 := gc_in hI hr rfl rfl
theorem gc_b_22_17 {ro : Nat → Nat} {I : gr_I} {p : Nat} (hI : gc_Inv ro I) (hr : ro p = 22) : 0 ≤ I p 17 ∧ I p 17 ≤ 12000 := gc_in hI hr rfl rfl
theorem gc_b_22_18 {ro : Nat → Nat} {I : gr_I} {p : Nat} (hI : gc_Inv ro I) (hr : ro p = 22) : 0 ≤ I p 18 ∧ I p 18 ≤ 1 := gc_in hI hr rfl rfl
theorem gc_b_25 {ro : Nat → Nat} {I : gr_I} {p : Nat} (hI : gc_Inv ro I) (hr : ro p = 25) (k : Nat) : 0 ≤ I p k ∧ I p k ≤ 31 := gc_in hI hr rfl rfl
theorem gc_b_26 {ro : Nat → Nat} {I : gr_I} {p : Nat} (hI : gc_Inv ro I) (hr : ro p = 26) (k : Nat) : 0 ≤ I p k ∧ I p k ≤ 4 := gc_in hI hr rfl rfl
theorem gc_b_27 {ro : Nat → Nat} {I : gr_I} {p : Nat} (hI : gc_Inv ro I) (hr : ro p = 27) (k : Nat) : 0 ≤ I p k ∧ I p k ≤ 10000 := gc_in hI hr rfl rfl
theorem gc_b_28 {ro : Nat → Nat} {I : gr_I} {p : Nat} (hI : gc_Inv ro I) (hr : ro p = 28) (k : Nat) : 0 ≤ I p k ∧ I p k ≤ 40 := gc_in hI hr rfl rfl
theorem gc_b_29 {ro : Nat → Nat} {I : gr_I} {p : Nat} (hI : gc_Inv ro I) (hr : ro p = 29) (k : Nat) : (-1) ≤ I p k ∧ I p k ≤ 7 := gc_in hI hr rfl rfl
theorem gc_b_35 {ro : Nat → Nat} {I : gr_I} {p : Nat} (hI : gc_Inv ro I) (hr : ro p = 35) (k : Nat) : 0 ≤ I p k ∧ I p k ≤ 1535 := gc_in hI hr rfl rfl
theorem gc_b_36 {ro : Nat → Nat} {I : gr_I} {p : Nat} (hI : gc_Inv ro I) (hr : ro p = 36) (k : Nat) : 0 ≤ I p k ∧ I p k ≤ 127 := gc_in hI hr rfl rfl
theorem gc_b_37 {ro : Nat → Nat} {I : gr_I} {p : Nat} (hI : gc_Inv ro I) (hr : ro p = 37) (k : Nat) : 0 ≤ I p k ∧ I p k ≤ 95 := gc_in hI hr rfl rfl
theorem gc_b_38 {ro : Nat → Nat} {I : gr_I} {p : Nat} (hI : gc_Inv ro I) (hr : ro p = 38) (k : Nat) : 0 ≤ I p k ∧ I p k ≤ 59 := gc_in hI hr rfl rfl
theorem gc_b_42_2 {ro : Nat → Nat} {I : gr_I} {p : Nat} (hI : gc_Inv ro I) (hr : ro p = 42) : (-1) ≤ I p 2 ∧ I p 2 ≤ 999999 := gc_in hI hr rfl rfl
theorem gc_b_42_3 {ro : Nat → Nat} {I : gr_I} {p : Nat} (hI : gc_Inv ro I) (hr : ro p = 42) : 0 ≤ I p 3 ∧ I p 3 ≤ 6 := gc_in hI hr rfl rfl
theorem gc_b_42_5 {ro : Nat → Nat} {I : gr_I} {p : Nat} (hI : gc_Inv ro I) (hr : ro p = 42) : 0 ≤ I p 5 ∧ I p 5 ≤ 1000 := gc_in hI hr rfl rfl
theorem gc_b_42_6 {ro : Nat → Nat} {I : gr_I} {p : Nat} (hI : gc_Inv ro I) (hr : ro p = 42) : 0 ≤ I p 6 ∧ I p 6 ≤ 16777215 := gc_in hI hr rfl rfl
theorem gc_b_42_7 {ro : Nat → Nat} {I : gr_I} {p : Nat} (hI : gc_Inv ro I) (hr : ro p = 42) : 0 ≤ I p 7 ∧ I p 7 ≤ 10000 := gc_in hI hr rfl rfl
theorem gc_b_42_8 {ro : Nat → Nat} {I : gr_I} {p : Nat} (hI : gc_Inv ro I) (hr : ro p = 42) : 0 ≤ I p 8 ∧ I p 8 ≤ 24 := gc_in hI hr rfl rfl
theorem gc_b_42_12 {ro : Nat → Nat} {I : gr_I} {p : Nat} (hI : gc_Inv ro I) (hr : ro p = 42) : 0 ≤ I p 12 ∧ I p 12 ≤ 2000 := gc_in hI hr rfl rfl
theorem gc_b_42_15 {ro : Nat → Nat} {I : gr_I} {p : Nat} (hI : gc_Inv ro I) (hr : ro p = 42) : 0 ≤ I p 15 ∧ I p 15 ≤ 41 := gc_in hI hr rfl rfl
theorem gc_b_43 {ro : Nat → Nat} {I : gr_I} {p : Nat} (hI : gc_Inv ro I) (hr : ro p = 43) (k : Nat) : 0 ≤ I p k ∧ I p k ≤ 3000 := gc_in hI hr rfl rfl
theorem gc_b_44 {ro : Nat → Nat} {I : gr_I} {p : Nat} (hI : gc_Inv ro I) (hr : ro p = 44) (k : Nat) : 0 ≤ I p k ∧ I p k ≤ 2999 := gc_in hI hr rfl rfl
theorem gc_b_45 {ro : Nat → Nat} {I : gr_I} {p : Nat} (hI : gc_Inv ro I) (hr : ro p = 45) (k : Nat) : 0 ≤ I p k ∧ I p k ≤ 24 := gc_in hI hr rfl rfl
theorem gc_b_45_0 {ro : Nat → Nat} {I : gr_I} {p : Nat} (hI : gc_Inv ro I) (hr : ro p = 45) : 0 ≤ I p 0 ∧ I p 0 ≤ 24 := gc_in hI hr rfl rfl
theorem gc_b_46 {ro : Nat → Nat} {I : gr_I} {p : Nat} (hI : gc_Inv ro I) (hr : ro p = 46) (k : Nat) : (-384) ≤ I p k ∧ I p k ≤ 1535 := gc_in hI hr rfl rfl
theorem gc_b_47 {ro : Nat → Nat} {I : gr_I} {p : Nat} (hI : gc_Inv ro I) (hr : ro p = 47) (k : Nat) : 0 ≤ I p k ∧ I p k ≤ 384 := gc_in hI hr rfl rfl
theorem gc_b_48 {ro : Nat → Nat} {I : gr_I} {p : Nat} (hI : gc_Inv ro I) (hr : ro p = 48) (k : Nat) : 0 ≤ I p k ∧ I p k ≤ 383 := gc_in hI hr rfl rfl
theorem gc_b_49_3 {ro : Nat → Nat} {I : gr_I} {p : Nat} (hI : gc_Inv ro I) (hr : ro p = 49) : 0 ≤ I p 3 ∧ I p 3 ≤ 3000 := gc_in hI hr rfl rfl
theorem gc_b_49_6 {ro : Nat → Nat} {I : gr_I} {p : Nat} (hI : gc_Inv ro I) (hr : ro p = 49) : 0 ≤ I p 6 ∧ I p 6 ≤ 9000 := gc_in hI hr rfl rfl
theorem gc_b_49_10 {ro : Nat → Nat} {I : gr_I} {p : Nat} (hI : gc_Inv ro I) (hr : ro p = 49) : 0 ≤ I p 10 ∧ I p 10 ≤ 18431 := gc_in hI hr rfl rfl
theorem gc_b_49_11 {ro : Nat → Nat} {I : gr_I} {p : Nat} (hI : gc_Inv ro I) (hr : ro p = 49) : 0 ≤ I p 11 ∧ I p 11 ≤ 1000000 := gc_in hI hr rfl rfl
theorem gc_b_49_12 {ro : Nat → Nat} {I : gr_I} {p : Nat} (hI : gc_Inv ro I) (hr : ro p = 49) : 0 ≤ I p 12 ∧ I p 12 ≤ 1 := gc_in hI hr rfl rfl
theorem gc_b_49_13 {ro : Nat → Nat} {I : gr_I} {p : Nat} (hI : gc_Inv ro I) (hr : ro p = 49) : (-1) ≤ I p 13 ∧ I p 13 ≤ 999999 := gc_in hI hr rfl rfl
theorem gc_b_49_14 {ro : Nat → Nat} {I : gr_I} {p : Nat} (hI : gc_Inv ro I) (hr : ro p = 49) : (-1) ≤ I p 14 ∧ I p 14 ≤ 999999 := gc_in hI hr rfl rfl
theorem gc_b_49_17 {ro : Nat → Nat} {I : gr_I} {p : Nat} (hI : gc_Inv ro I) (hr : ro p = 49) : 0 ≤ I p 17 ∧ I p 17 ≤ 3000 := gc_in hI hr rfl rfl
theorem gc_b_49_18 {ro : Nat → Nat} {I : gr_I} {p : Nat} (hI : gc_Inv ro I) (hr : ro p = 49) : 0 ≤ I p 18 ∧ I p 18 ≤ 24 := gc_in hI hr rfl rfl
theorem gc_b_50 {ro : Nat → Nat} {I : gr_I} {p : Nat} (hI : gc_Inv ro I) (hr : ro p = 50) (k : Nat) : (-7) ≤ I p k ∧ I p k ≤ 41 := gc_in hI hr rfl rfl
theorem gc_b_51 {ro : Nat → Nat} {I : gr_I} {p : Nat} (hI : gc_Inv ro I) (hr : ro p = 51) (k : Nat) : 0 ≤ I p k ∧ I p k ≤ 8999 := gc_in hI hr rfl rfl
theorem gc_b_52 {ro : Nat → Nat} {I : gr_I} {p : Nat} (hI : gc_Inv ro I) (hr : ro p = 52) (k : Nat) : 0 ≤ I p k ∧ I p k ≤ 16 := gc_in hI hr rfl rfl
theorem gc_b_53 {ro : Nat → Nat} {I : gr_I} {p : Nat} (hI : gc_Inv ro I) (hr : ro p = 53) (k : Nat) : 0 ≤ I p k ∧ I p k ≤ 65535 := gc_in hI hr rfl rfl
theorem gc_b_54 {ro : Nat → Nat} {I : gr_I} {p : Nat} (hI : gc_Inv ro I) (hr : ro p = 54) (k : Nat) : 0 ≤ I p k ∧ I p k ≤ 47999 := gc_in hI hr rfl rfl
theorem gc_b_55 {ro : Nat → Nat} {I : gr_I} {p : Nat} (hI : gc_Inv ro I) (hr : ro p = 55) (k : Nat) : 0 ≤ I p k ∧ I p k ≤ 1000 := gc_in hI hr rfl rfl
theorem gc_b_56 {ro : Nat → Nat} {I : gr_I} {p : Nat} (hI : gc_Inv ro I) (hr : ro p = 56) (k : Nat) : 0 ≤ I p k ∧ I p k ≤ 1048575 := gc_in hI hr rfl rfl
theorem gc_b_57 {ro : Nat → Nat} {I : gr_I} {p : Nat} (hI : gc_Inv ro I) (hr : ro p = 57) (k : Nat) : (-1) ≤ I p k ∧ I p k ≤ 16777215 := gc_in hI hr rfl rfl
theorem gc_b_58 {ro : Nat → Nat} {I : gr_I} {p : Nat} (hI : gc_Inv ro I) (hr : ro p = 58) (k : Nat) : 0 ≤ I p k ∧ I p k ≤ 1439 := gc_in hI hr rfl rfl
theorem gc_b_59 {ro : Nat → Nat} {I : gr_I} {p : Nat} (hI : gc_Inv ro I) (hr : ro p = 59) (k : Nat) : 0 ≤ I p k ∧ I p k ≤ 7 := gc_in hI hr rfl rfl
theorem gc_b_60 {ro : Nat → Nat} {I : gr_I} {p : Nat} (hI : gc_Inv ro I) (hr : ro p = 60) (k : Nat) : 0 ≤ I p k ∧ I p k ≤ 400 := gc_in hI hr rfl rfl
theorem gc_b_61 {ro : Nat → Nat} {I : gr_I} {p : Nat} (hI : gc_Inv ro I) (hr : ro p = 61) (k : Nat) : (-1) ≤ I p k ∧ I p k ≤ 300 := gc_in hI hr rfl rfl
theorem gc_b_62 {ro : Nat → Nat} {I : gr_I} {p : Nat} (hI : gc_Inv ro I) (hr : ro p = 62) (k : Nat) : 0 ≤ I p k ∧ I p k ≤ 9 := gc_in hI hr rfl rfl
theorem gc_b_63 {ro : Nat → Nat} {I : gr_I} {p : Nat} (hI : gc_Inv ro I) (hr : ro p = 63) (k : Nat) : 0 ≤ I p k ∧ I p k ≤ 300 := gc_in hI hr rfl rfl
theorem gc_b_64 {ro : Nat → Nat} {I : gr_I} {p : Nat} (hI : gc_Inv ro I) (hr : ro p = 64) (k : Nat) : 0 ≤ I p k ∧ I p k ≤ 8 := gc_in hI hr rfl rfl
theorem gc_b_65 {ro : Nat → Nat} {I : gr_I} {p : Nat} (hI : gc_Inv ro I) (hr : ro p = 65) (k : Nat) : 0 ≤ I p k ∧ I p k ≤ 23 := gc_in hI hr rfl rfl
theorem gc_b_66 {ro : Nat → Nat} {I : gr_I} {p : Nat} (hI : gc_Inv ro I) (hr : ro p = 66) (k : Nat) : 0 ≤ I p k ∧ I p k ≤ 1536 := gc_in hI hr rfl rfl
theorem gc_b_67 {ro : Nat → Nat} {I : gr_I} {p : Nat} (hI : gc_Inv ro I) (hr : ro p = 67) (k : Nat) : 0 ≤ I p k ∧ I p k ≤ 99 := gc_in hI hr rfl rfl
theorem gc_b_68 {ro : Nat → Nat} {I : gr_I} {p : Nat} (hI : gc_Inv ro I) (hr : ro p = 68) (k : Nat) : 0 ≤ I p k ∧ I p k ≤ 60 := gc_in hI hr rfl rfl
theorem gc_b_69 {ro : Nat → Nat} {I : gr_I} {p : Nat} (hI : gc_Inv ro I) (hr : ro p = 69) (k : Nat) : 0 ≤ I p k ∧ I p k ≤ 200 := gc_in hI hr rfl rfl
theorem gc_b_70_0 {ro : Nat → Nat} {I : gr_I} {p : Nat} (hI : gc_Inv ro I) (hr : ro p = 70) : (-1) ≤ I p 0 ∧ I p 0 ≤ 12000 := gc_in hI hr rfl rfl
theorem gc_b_70_1 {ro : Nat → Nat} {I : gr_I} {p : Nat} (hI : gc_Inv ro I) (hr : ro p = 70) : (-1) ≤ I p 1 ∧ I p 1 ≤ 12000 := gc_in hI hr rfl rfl
theorem gc_b_70_2 {ro : Nat → Nat} {I : gr_I} {p : Nat} (hI : gc_Inv ro I) (hr : ro p = 70) : (-1) ≤ I p 2 ∧ I p 2 ≤ 12000 := gc_in hI hr rfl rfl
theorem gc_b_70_3 {ro : Nat → Nat} {I : gr_I} {p : Nat} (hI : gc_Inv ro I) (hr : ro p = 70) : (-1) ≤ I p 3 ∧ I p 3 ≤ 12000 := gc_in hI hr rfl rfl
theorem gc_b_70_4 {ro : Nat → Nat} {I : gr_I} {p : Nat} (hI : gc_Inv ro I) (hr : ro p = 70) : (-1) ≤ I p 4 ∧ I p 4 ≤ 12000 := gc_in hI hr rfl rfl
theorem gc_b_70_5 {ro : Nat → Nat} {I : gr_I} {p : Nat} (hI : gc_Inv ro I) (hr : ro p = 70) : (-1) ≤ I p 5 ∧ I p 5 ≤ 12000 := gc_in hI hr rfl rfl
theorem gc_b_70_6 {ro : Nat → Nat} {I : gr_I} {p : Nat} (hI : gc_Inv ro I) (hr : ro p = 70) : (-1) ≤ I p 6 ∧ I p 6 ≤ 12000 := gc_in hI hr rfl rfl
theorem gc_b_72_2 {ro : Nat → Nat} {I : gr_I} {p : Nat} (hI : gc_Inv ro I) (hr : ro p = 72) : (-1) ≤ I p 2 ∧ I p 2 ≤ 999999 := gc_in hI hr rfl rfl
theorem gc_b_72_3 {ro : Nat → Nat} {I : gr_I} {p : Nat} (hI : gc_Inv ro I) (hr : ro p = 72) : 0 ≤ I p 3 ∧ I p 3 ≤ 1 := gc_in hI hr rfl rfl
theorem gc_b_72_4 {ro : Nat → Nat} {I : gr_I} {p : Nat} (hI : gc_Inv ro I) (hr : ro p = 72) : 0 ≤ I p 4 ∧ I p 4 ≤ 1 := gc_in hI hr rfl rfl
theorem gc_b_72_8 {ro : Nat → Nat} {I : gr_I} {p : Nat} (hI : gc_Inv ro I) (hr : ro p = 72) : 0 ≤ I p 8 ∧ I p 8 ≤ 9000 := gc_in hI hr rfl rfl
theorem gc_b_72_9 {ro : Nat → Nat} {I : gr_I} {p : Nat} (hI : gc_Inv ro I) (hr : ro p = 72) : 0 ≤ I p 9 ∧ I p 9 ≤ 1 := gc_in hI hr rfl rfl
theorem gc_b_72_10 {ro : Nat → Nat} {I : gr_I} {p : Nat} (hI : gc_Inv ro I) (hr : ro p = 72) : 0 ≤ I p 10 ∧ I p 10 ≤ 1 := gc_in hI hr rfl rfl
theorem gc_b_72_15 {ro : Nat → Nat} {I : gr_I} {p : Nat} (hI : gc_Inv ro I) (hr : ro p = 72) : 0 ≤ I p 15 ∧ I p 15 ≤ 16 := gc_in hI hr rfl rfl
theorem gc_b_73_1 {ro : Nat → Nat} {I : gr_I} {p : Nat} (hI : gc_Inv ro I) (hr : ro p = 73) : (-1) ≤ I p 1 ∧ I p 1 ≤ 999999 := gc_in hI hr rfl rfl
theorem gc_b_73_9 {ro : Nat → Nat} {I : gr_I} {p : Nat} (hI : gc_Inv ro I) (hr : ro p = 73) : (-1) ≤ I p 9 ∧ I p 9 ≤ 59 := gc_in hI hr rfl rfl
theorem gc_b_74_1 {ro : Nat → Nat} {I : gr_I} {p : Nat} (hI : gc_Inv ro I) (hr : ro p = 74) : 0 ≤ I p 1 ∧ I p 1 ≤ 300 := gc_in hI hr rfl rfl
theorem gc_b_74_2 {ro : Nat → Nat} {I : gr_I} {p : Nat} (hI : gc_Inv ro I) (hr : ro p = 74) : 0 ≤ I p 2 ∧ I p 2 ≤ 1 := gc_in hI hr rfl rfl
theorem gc_b_74_3 {ro : Nat → Nat} {I : gr_I} {p : Nat} (hI : gc_Inv ro I) (hr : ro p = 74) : 0 ≤ I p 3 ∧ I p 3 ≤ 1 := gc_in hI hr rfl rfl
theorem gc_b_74_4 {ro : Nat → Nat} {I : gr_I} {p : Nat} (hI : gc_Inv ro I) (hr : ro p = 74) : 0 ≤ I p 4 ∧ I p 4 ≤ 1 := gc_in hI hr rfl rfl
theorem gc_b_74_5 {ro : Nat → Nat} {I : gr_I} {p : Nat} (hI : gc_Inv ro I) (hr : ro p = 74) : 0 ≤ I p 5 ∧ I p 5 ≤ 1 := gc_in hI hr rfl rfl
theorem gc_b_74_9 {ro : Nat → Nat} {I : gr_I} {p : Nat} (hI : gc_Inv ro I) (hr : ro p = 74) : 0 ≤ I p 9 ∧ I p 9 ≤ 300 := gc_in hI hr rfl rfl
theorem gc_b_74_16 {ro : Nat → Nat} {I : gr_I} {p : Nat} (hI : gc_Inv ro I) (hr : ro p = 74) : (-1) ≤ I p 16 ∧ I p 16 ≤ 301 := gc_in hI hr rfl rfl
theorem gc_b_74_17 {ro : Nat → Nat} {I : gr_I} {p : Nat} (hI : gc_Inv ro I) (hr : ro p = 74) : 0 ≤ I p 17 ∧ I p 17 ≤ 300 := gc_in hI hr rfl rfl
theorem gc_b_74_18 {ro : Nat → Nat} {I : gr_I} {p : Nat} (hI : gc_Inv ro I) (hr : ro p = 74) : 0 ≤ I p 18 ∧ I p 18 ≤ 1 := gc_in hI hr rfl rfl
theorem gc_b_75_1 {ro : Nat → Nat} {I : gr_I} {p : Nat} (hI : gc_Inv ro I) (hr : ro p = 75) : 0 ≤ I p 1 ∧ I p 1 ≤ 7 := gc_in hI hr rfl rfl
theorem gc_b_75_2 {ro : Nat → Nat} {I : gr_I} {p : Nat} (hI : gc_Inv ro I) (hr : ro p = 75) : 0 ≤ I p 2 ∧ I p 2 ≤ 1536 := gc_in hI hr rfl rfl
theorem gc_b_75_4 {ro : Nat → Nat} {I : gr_I} {p : Nat} (hI : gc_Inv ro I) (hr : ro p = 75) : 0 ≤ I p 4 ∧ I p 4 ≤ 24 := gc_in hI hr rfl rfl
theorem gc_b_75_7 {ro : Nat → Nat} {I : gr_I} {p : Nat} (hI : gc_Inv ro I) (hr : ro p = 75) : 0 ≤ I p 7 ∧ I p 7 ≤ 1536 := gc_in hI hr rfl rfl
theorem gc_b_75_8 {ro : Nat → Nat} {I : gr_I} {p : Nat} (hI : gc_Inv ro I) (hr : ro p = 75) : 0 ≤ I p 8 ∧ I p 8 ≤ 4 := gc_in hI hr rfl rfl
theorem gc_b_75_9 {ro : Nat → Nat} {I : gr_I} {p : Nat} (hI : gc_Inv ro I) (hr : ro p = 75) : 0 ≤ I p 9 ∧ I p 9 ≤ 100 := gc_in hI hr rfl rfl
theorem gc_b_75_14 {ro : Nat → Nat} {I : gr_I} {p : Nat} (hI : gc_Inv ro I) (hr : ro p = 75) : 0 ≤ I p 14 ∧ I p 14 ≤ 2400 := gc_in hI hr rfl rfl
theorem gc_b_75_17 {ro : Nat → Nat} {I : gr_I} {p : Nat} (hI : gc_Inv ro I) (hr : ro p = 75) : 0 ≤ I p 17 ∧ I p 17 ≤ 8 := gc_in hI hr rfl rfl
theorem gc_b_76_15 {ro : Nat → Nat} {I : gr_I} {p : Nat} (hI : gc_Inv ro I) (hr : ro p = 76) : 0 ≤ I p 15 ∧ I p 15 ≤ 16 := gc_in hI hr rfl rfl
theorem gc_b_78 {ro : Nat → Nat} {I : gr_I} {p : Nat} (hI : gc_Inv ro I) (hr : ro p = 78) (k : Nat) : 0 ≤ I p k ∧ I p k ≤ 1 := gc_in hI hr rfl rfl
theorem gc_bR_0 {sh : gz_Sh} {ro : Nat → Nat} {A : gc_A} (hb : gc_Base sh ro A) : ro 0 = 76 := gc_bR hb (by decide) rfl
theorem gc_bR_1 {sh : gz_Sh} {ro : Nat → Nat} {A : gc_A} (hb : gc_Base sh ro A) : ro 1 = 22 := gc_bR hb (by decide) rfl
theorem gc_bR_2 {sh : gz_Sh} {ro : Nat → Nat} {A : gc_A} (hb : gc_Base sh ro A) : ro 2 = 9 := gc_bR hb (by decide) rfl
theorem gc_bR_4 {sh : gz_Sh} {ro : Nat → Nat} {A : gc_A} (hb : gc_Base sh ro A) : ro 4 = 11 := gc_bR hb (by decide) rfl
theorem gc_bR_6 {sh : gz_Sh} {ro : Nat → Nat} {A : gc_A} (hb : gc_Base sh ro A) : ro 6 = 6 := gc_bR hb (by decide) rfl
theorem gc_bR_8 {sh : gz_Sh} {ro : Nat → Nat} {A : gc_A} (hb : gc_Base sh ro A) : ro 8 = 6 := gc_bR hb (by decide) rfl
theorem gc_bR_11 {sh : gz_Sh} {ro : Nat → Nat} {A : gc_A} (hb : gc_Base sh ro A) : ro 11 = 25 := gc_bR hb (by decide) rfl
theorem gc_bR_12 {sh : gz_Sh} {ro : Nat → Nat} {A : gc_A} (hb : gc_Base sh ro A) : ro 12 = 26 := gc_bR hb (by decide) rfl
theorem gc_bR_13 {sh : gz_Sh} {ro : Nat → Nat} {A : gc_A} (hb : gc_Base sh ro A) : ro 13 = 25 := gc_bR hb (by decide) rfl
theorem gc_bR_14 {sh : gz_Sh} {ro : Nat → Nat} {A : gc_A} (hb : gc_Base sh ro A) : ro 14 = 27 := gc_bR hb (by decide) rfl
theorem gc_bR_15 {sh : gz_Sh} {ro : Nat → Nat} {A : gc_A} (hb : gc_Base sh ro A) : ro 15 = 28 := gc_bR hb (by decide) rfl
theorem gc_bR_16 {sh : gz_Sh} {ro : Nat → Nat} {A : gc_A} (hb : gc_Base sh ro A) : ro 16 = 50 := gc_bR hb (by decide) rfl
theorem gc_bR_17 {sh : gz_Sh} {ro : Nat → Nat} {A : gc_A} (hb : gc_Base sh ro A) : ro 17 = 0 := gc_bR hb (by decide) rfl
theorem gc_bR_19 {sh : gz_Sh} {ro : Nat → Nat} {A : gc_A} (hb : gc_Base sh ro A) : ro 19 = 29 := gc_bR hb (by decide) rfl
theorem gc_bR_20 {sh : gz_Sh} {ro : Nat → Nat} {A : gc_A} (hb : gc_Base sh ro A) : ro 20 = 36 := gc_bR hb (by decide) rfl
theorem gc_bR_21 {sh : gz_Sh} {ro : Nat → Nat} {A : gc_A} (hb : gc_Base sh ro A) : ro 21 = 70 := gc_bR hb (by decide) rfl
theorem gc_bR_22 {sh : gz_Sh} {ro : Nat → Nat} {A : gc_A} (hb : gc_Base sh ro A) : ro 22 = 38 := gc_bR hb (by decide) rfl
theorem gc_bR_23 {sh : gz_Sh} {ro : Nat → Nat} {A : gc_A} (hb : gc_Base sh ro A) : ro 23 = 3 := gc_bR hb (by decide) rfl
theorem gc_bR_24 {sh : gz_Sh} {ro : Nat → Nat} {A : gc_A} (hb : gc_Base sh ro A) : ro 24 = 1 := gc_bR hb (by decide) rfl
theorem gc_bR_27 {sh : gz_Sh} {ro : Nat → Nat} {A : gc_A} (hb : gc_Base sh ro A) : ro 27 = 3 := gc_bR hb (by decide) rfl
theorem gc_bR_28 {sh : gz_Sh} {ro : Nat → Nat} {A : gc_A} (hb : gc_Base sh ro A) : ro 28 = 1 := gc_bR hb (by decide) rfl
theorem gc_bR_31 {sh : gz_Sh} {ro : Nat → Nat} {A : gc_A} (hb : gc_Base sh ro A) : ro 31 = 3 := gc_bR hb (by decide) rfl
theorem gc_bR_32 {sh : gz_Sh} {ro : Nat → Nat} {A : gc_A} (hb : gc_Base sh ro A) : ro 32 = 1 := gc_bR hb (by decide) rfl
theorem gc_bR_33 {sh : gz_Sh} {ro : Nat → Nat} {A : gc_A} (hb : gc_Base sh ro A) : ro 33 = 4 := gc_bR hb (by decide) rfl
theorem gc_bR_34 {sh : gz_Sh} {ro : Nat → Nat} {A : gc_A} (hb : gc_Base sh ro A) : ro 34 = 5 := gc_bR hb (by decide) rfl
theorem gc_bR_35 {sh : gz_Sh} {ro : Nat → Nat} {A : gc_A} (hb : gc_Base sh ro A) : ro 35 = 3 := gc_bR hb (by decide) rfl
theorem gc_bR_36 {sh : gz_Sh} {ro : Nat → Nat} {A : gc_A} (hb : gc_Base sh ro A) : ro 36 = 1 := gc_bR hb (by decide) rfl
theorem gc_bR_39 {sh : gz_Sh} {ro : Nat → Nat} {A : gc_A} (hb : gc_Base sh ro A) : ro 39 = 42 := gc_bR hb (by decide) rfl
theorem gc_bR_40 {sh : gz_Sh} {ro : Nat → Nat} {A : gc_A} (hb : gc_Base sh ro A) : ro 40 = 39 := gc_bR hb (by decide) rfl
theorem gc_bR_41 {sh : gz_Sh} {ro : Nat → Nat} {A : gc_A} (hb : gc_Base sh ro A) : ro 41 = 0 := gc_bR hb (by decide) rfl
theorem gc_bR_43 {sh : gz_Sh} {ro : Nat → Nat} {A : gc_A} (hb : gc_Base sh ro A) : ro 43 = 50 := gc_bR hb (by decide) rfl
theorem gc_bR_44 {sh : gz_Sh} {ro : Nat → Nat} {A : gc_A} (hb : gc_Base sh ro A) : ro 44 = 0 := gc_bR hb (by decide) rfl
theorem gc_bR_46 {sh : gz_Sh} {ro : Nat → Nat} {A : gc_A} (hb : gc_Base sh ro A) : ro 46 = 37 := gc_bR hb (by decide) rfl
theorem gc_bR_47 {sh : gz_Sh} {ro : Nat → Nat} {A : gc_A} (hb : gc_Base sh ro A) : ro 47 = 0 := gc_bR hb (by decide) rfl
theorem gc_bR_48 {sh : gz_Sh} {ro : Nat → Nat} {A : gc_A} (hb : gc_Base sh ro A) : ro 48 = 49 := gc_bR hb (by decide) rfl
theorem gc_bR_49 {sh : gz_Sh} {ro : Nat → Nat} {A : gc_A} (hb : gc_Base sh ro A) : ro 49 = 43 := gc_bR hb (by decide) rfl
theorem gc_bR_50 {sh : gz_Sh} {ro : Nat → Nat} {A : gc_A} (hb : gc_Base sh ro A) : ro 50 = 43 := gc_bR hb (by decide) rfl
theorem gc_bR_51 {sh : gz_Sh} {ro : Nat → Nat} {A : gc_A} (hb : gc_Base sh ro A) : ro 51 = 45 := gc_bR hb (by decide) rfl
theorem gc_bR_52 {sh : gz_Sh} {ro : Nat → Nat} {A : gc_A} (hb : gc_Base sh ro A) : ro 52 = 13 := gc_bR hb (by decide) rfl
theorem gc_bR_53 {sh : gz_Sh} {ro : Nat → Nat} {A : gc_A} (hb : gc_Base sh ro A) : ro 53 = 44 := gc_bR hb (by decide) rfl
theorem gc_bR_54 {sh : gz_Sh} {ro : Nat → Nat} {A : gc_A} (hb : gc_Base sh ro A) : ro 54 = 46 := gc_bR hb (by decide) rfl
theorem gc_bR_55 {sh : gz_Sh} {ro : Nat → Nat} {A : gc_A} (hb : gc_Base sh ro A) : ro 55 = 44 := gc_bR hb (by decide) rfl
theorem gc_bR_56 {sh : gz_Sh} {ro : Nat → Nat} {A : gc_A} (hb : gc_Base sh ro A) : ro 56 = 47 := gc_bR hb (by decide) rfl
theorem gc_bR_57 {sh : gz_Sh} {ro : Nat → Nat} {A : gc_A} (hb : gc_Base sh ro A) : ro 57 = 48 := gc_bR hb (by decide) rfl
theorem gc_bR_58 {sh : gz_Sh} {ro : Nat → Nat} {A : gc_A} (hb : gc_Base sh ro A) : ro 58 = 44 := gc_bR hb (by decide) rfl
theorem gc_bR_59 {sh : gz_Sh} {ro : Nat → Nat} {A : gc_A} (hb : gc_Base sh ro A) : ro 59 = 13 := gc_bR hb (by decide) rfl
theorem gc_bR_60 {sh : gz_Sh} {ro : Nat → Nat} {A : gc_A} (hb : gc_Base sh ro A) : ro 60 = 13 := gc_bR hb (by decide) rfl
theorem gc_bR_61 {sh : gz_Sh} {ro : Nat → Nat} {A : gc_A} (hb : gc_Base sh ro A) : ro 61 = 72 := gc_bR hb (by decide) rfl
theorem gc_bR_62 {sh : gz_Sh} {ro : Nat → Nat} {A : gc_A} (hb : gc_Base sh ro A) : ro 62 = 2 := gc_bR hb (by decide) rfl
theorem gc_bR_64 {sh : gz_Sh} {ro : Nat → Nat} {A : gc_A} (hb : gc_Base sh ro A) : ro 64 = 2 := gc_bR hb (by decide) rfl
theorem gc_bR_65 {sh : gz_Sh} {ro : Nat → Nat} {A : gc_A} (hb : gc_Base sh ro A) : ro 65 = 51 := gc_bR hb (by decide) rfl
theorem gc_bR_66 {sh : gz_Sh} {ro : Nat → Nat} {A : gc_A} (hb : gc_Base sh ro A) : ro 66 = 51 := gc_bR hb (by decide) rfl
theorem gc_bR_67 {sh : gz_Sh} {ro : Nat → Nat} {A : gc_A} (hb : gc_Base sh ro A) : ro 67 = 52 := gc_bR hb (by decide) rfl
theorem gc_bR_68 {sh : gz_Sh} {ro : Nat → Nat} {A : gc_A} (hb : gc_Base sh ro A) : ro 68 = 0 := gc_bR hb (by decide) rfl
theorem gc_bR_69 {sh : gz_Sh} {ro : Nat → Nat} {A : gc_A} (hb : gc_Base sh ro A) : ro 69 = 51 := gc_bR hb (by decide) rfl
theorem gc_bR_70 {sh : gz_Sh} {ro : Nat → Nat} {A : gc_A} (hb : gc_Base sh ro A) : ro 70 = 53 := gc_bR hb (by decide) rfl
theorem gc_bR_71 {sh : gz_Sh} {ro : Nat → Nat} {A : gc_A} (hb : gc_Base sh ro A) : ro 71 = 0 := gc_bR hb (by decide) rfl
theorem gc_bR_72 {sh : gz_Sh} {ro : Nat → Nat} {A : gc_A} (hb : gc_Base sh ro A) : ro 72 = 54 := gc_bR hb (by decide) rfl
theorem gc_bR_73 {sh : gz_Sh} {ro : Nat → Nat} {A : gc_A} (hb : gc_Base sh ro A) : ro 73 = 54 := gc_bR hb (by decide) rfl
theorem gc_bR_74 {sh : gz_Sh} {ro : Nat → Nat} {A : gc_A} (hb : gc_Base sh ro A) : ro 74 = 73 := gc_bR hb (by decide) rfl
theorem gc_bR_75 {sh : gz_Sh} {ro : Nat → Nat} {A : gc_A} (hb : gc_Base sh ro A) : ro 75 = 38 := gc_bR hb (by decide) rfl
theorem gc_bR_76 {sh : gz_Sh} {ro : Nat → Nat} {A : gc_A} (hb : gc_Base sh ro A) : ro 76 = 45 := gc_bR hb (by decide) rfl
theorem gc_bR_77 {sh : gz_Sh} {ro : Nat → Nat} {A : gc_A} (hb : gc_Base sh ro A) : ro 77 = 0 := gc_bR hb (by decide) rfl
theorem gc_bR_78 {sh : gz_Sh} {ro : Nat → Nat} {A : gc_A} (hb : gc_Base sh ro A) : ro 78 = 13 := gc_bR hb (by decide) rfl
theorem gc_bR_79 {sh : gz_Sh} {ro : Nat → Nat} {A : gc_A} (hb : gc_Base sh ro A) : ro 79 = 55 := gc_bR hb (by decide) rfl
theorem gc_bR_80 {sh : gz_Sh} {ro : Nat → Nat} {A : gc_A} (hb : gc_Base sh ro A) : ro 80 = 46 := gc_bR hb (by decide) rfl
theorem gc_bR_81 {sh : gz_Sh} {ro : Nat → Nat} {A : gc_A} (hb : gc_Base sh ro A) : ro 81 = 56 := gc_bR hb (by decide) rfl
theorem gc_bR_82 {sh : gz_Sh} {ro : Nat → Nat} {A : gc_A} (hb : gc_Base sh ro A) : ro 82 = 57 := gc_bR hb (by decide) rfl
theorem gc_bR_83 {sh : gz_Sh} {ro : Nat → Nat} {A : gc_A} (hb : gc_Base sh ro A) : ro 83 = 13 := gc_bR hb (by decide) rfl
theorem gc_bR_84 {sh : gz_Sh} {ro : Nat → Nat} {A : gc_A} (hb : gc_Base sh ro A) : ro 84 = 58 := gc_bR hb (by decide) rfl
theorem gc_bR_85 {sh : gz_Sh} {ro : Nat → Nat} {A : gc_A} (hb : gc_Base sh ro A) : ro 85 = 59 := gc_bR hb (by decide) rfl
theorem gc_bR_86 {sh : gz_Sh} {ro : Nat → Nat} {A : gc_A} (hb : gc_Base sh ro A) : ro 86 = 74 := gc_bR hb (by decide) rfl
theorem gc_bR_87 {sh : gz_Sh} {ro : Nat → Nat} {A : gc_A} (hb : gc_Base sh ro A) : ro 87 = 77 := gc_bR hb (by decide) rfl
theorem gc_bR_88 {sh : gz_Sh} {ro : Nat → Nat} {A : gc_A} (hb : gc_Base sh ro A) : ro 88 = 0 := gc_bR hb (by decide) rfl
theorem gc_bR_89 {sh : gz_Sh} {ro : Nat → Nat} {A : gc_A} (hb : gc_Base sh ro A) : ro 89 = 77 := gc_bR hb (by decide) rfl
theorem gc_bR_90 {sh : gz_Sh} {ro : Nat → Nat} {A : gc_A} (hb : gc_Base sh ro A) : ro 90 = 0 := gc_bR hb (by decide) rfl
theorem gc_bR_91 {sh : gz_Sh} {ro : Nat → Nat} {A : gc_A} (hb : gc_Base sh ro A) : ro 91 = 38 := gc_bR hb (by decide) rfl
theorem gc_bR_92 {sh : gz_Sh} {ro : Nat → Nat} {A : gc_A} (hb : gc_Base sh ro A) : ro 92 = 60 := gc_bR hb (by decide) rfl
theorem gc_bR_93 {sh : gz_Sh} {ro : Nat → Nat} {A : gc_A} (hb : gc_Base sh ro A) : ro 93 = 60 := gc_bR hb (by decide) rfl
theorem gc_bR_95 {sh : gz_Sh} {ro : Nat → Nat} {A : gc_A} (hb : gc_Base sh ro A) : ro 95 = 61 := gc_bR hb (by decide) rfl
theorem gc_bR_96 {sh : gz_Sh} {ro : Nat → Nat} {A : gc_A} (hb : gc_Base sh ro A) : ro 96 = 62 := gc_bR hb (by decide) rfl
theorem gc_bR_97 {sh : gz_Sh} {ro : Nat → Nat} {A : gc_A} (hb : gc_Base sh ro A) : ro 97 = 78 := gc_bR hb (by decide) rfl
theorem gc_bR_98 {sh : gz_Sh} {ro : Nat → Nat} {A : gc_A} (hb : gc_Base sh ro A) : ro 98 = 63 := gc_bR hb (by decide) rfl
theorem gc_bR_99 {sh : gz_Sh} {ro : Nat → Nat} {A : gc_A} (hb : gc_Base sh ro A) : ro 99 = 64 := gc_bR hb (by decide) rfl
theorem gc_bR_100 {sh : gz_Sh} {ro : Nat → Nat} {A : gc_A} (hb : gc_Base sh ro A) : ro 100 = 75 := gc_bR hb (by decide) rfl
theorem gc_bR_101 {sh : gz_Sh} {ro : Nat → Nat} {A : gc_A} (hb : gc_Base sh ro A) : ro 101 = 35 := gc_bR hb (by decide) rfl
theorem gc_bR_102 {sh : gz_Sh} {ro : Nat → Nat} {A : gc_A} (hb : gc_Base sh ro A) : ro 102 = 65 := gc_bR hb (by decide) rfl
theorem gc_bR_103 {sh : gz_Sh} {ro : Nat → Nat} {A : gc_A} (hb : gc_Base sh ro A) : ro 103 = 66 := gc_bR hb (by decide) rfl
theorem gc_bR_105 {sh : gz_Sh} {ro : Nat → Nat} {A : gc_A} (hb : gc_Base sh ro A) : ro 105 = 59 := gc_bR hb (by decide) rfl
theorem gc_bR_106 {sh : gz_Sh} {ro : Nat → Nat} {A : gc_A} (hb : gc_Base sh ro A) : ro 106 = 3 := gc_bR hb (by decide) rfl
theorem gc_bR_107 {sh : gz_Sh} {ro : Nat → Nat} {A : gc_A} (hb : gc_Base sh ro A) : ro 107 = 1 := gc_bR hb (by decide) rfl
theorem gc_bR_108 {sh : gz_Sh} {ro : Nat → Nat} {A : gc_A} (hb : gc_Base sh ro A) : ro 108 = 4 := gc_bR hb (by decide) rfl
theorem gc_bR_109 {sh : gz_Sh} {ro : Nat → Nat} {A : gc_A} (hb : gc_Base sh ro A) : ro 109 = 5 := gc_bR hb (by decide) rfl
theorem gc_bR_110 {sh : gz_Sh} {ro : Nat → Nat} {A : gc_A} (hb : gc_Base sh ro A) : ro 110 = 0 := gc_bR hb (by decide) rfl
theorem gc_bR_111 {sh : gz_Sh} {ro : Nat → Nat} {A : gc_A} (hb : gc_Base sh ro A) : ro 111 = 67 := gc_bR hb (by decide) rfl
theorem gc_bR_112 {sh : gz_Sh} {ro : Nat → Nat} {A : gc_A} (hb : gc_Base sh ro A) : ro 112 = 65 := gc_bR hb (by decide) rfl
theorem gc_bR_113 {sh : gz_Sh} {ro : Nat → Nat} {A : gc_A} (hb : gc_Base sh ro A) : ro 113 = 71 := gc_bR hb (by decide) rfl
theorem gc_bR_123 {sh : gz_Sh} {ro : Nat → Nat} {A : gc_A} (hb : gc_Base sh ro A) : ro 123 = 37 := gc_bR hb (by decide) rfl
theorem gc_bR_124 {sh : gz_Sh} {ro : Nat → Nat} {A : gc_A} (hb : gc_Base sh ro A) : ro 124 = 68 := gc_bR hb (by decide) rfl
theorem gc_bR_142 {sh : gz_Sh} {ro : Nat → Nat} {A : gc_A} (hb : gc_Base sh ro A) : ro 142 = 69 := gc_bR hb (by decide) rfl
theorem gc_bR_143 {sh : gz_Sh} {ro : Nat → Nat} {A : gc_A} (hb : gc_Base sh ro A) : ro 143 = 0 := gc_bR hb (by decide) rfl
theorem gc_bS_0 {sh : gz_Sh} {ro : Nat → Nat} {A : gc_A} (hb : gc_Base sh ro A) : sh[0]? = some (false, 12, 17) := gc_bS hb rfl
theorem gc_bS_1 {sh : gz_Sh} {ro : Nat → Nat} {A : gc_A} (hb : gc_Base sh ro A) : sh[1]? = some (false, 8, 21) := gc_bS hb rfl
theorem gc_bS_2 {sh : gz_Sh} {ro : Nat → Nat} {A : gc_A} (hb : gc_Base sh ro A) : sh[2]? = some (false, 4, 2) := gc_bS hb rfl
theorem gc_bS_4 {sh : gz_Sh} {ro : Nat → Nat} {A : gc_A} (hb : gc_Base sh ro A) : sh[4]? = some (false, 4, 2) := gc_bS hb rfl
theorem gc_bS_5 {sh : gz_Sh} {ro : Nat → Nat} {A : gc_A} (hb : gc_Base sh ro A) : sh[5]? = some (true, 2, 96) := gc_bS hb rfl
theorem gc_bS_6 {sh : gz_Sh} {ro : Nat → Nat} {A : gc_A} (hb : gc_Base sh ro A) : sh[6]? = some (false, 4, 2) := gc_bS hb rfl
theorem gc_bS_8 {sh : gz_Sh} {ro : Nat → Nat} {A : gc_A} (hb : gc_Base sh ro A) : sh[8]? = some (false, 4, 2) := gc_bS hb rfl
theorem gc_bS_10 {sh : gz_Sh} {ro : Nat → Nat} {A : gc_A} (hb : gc_Base sh ro A) : sh[10]? = some (true, 5, 8) := gc_bS hb rfl
theorem gc_bS_11 {sh : gz_Sh} {ro : Nat → Nat} {A : gc_A} (hb : gc_Base sh ro A) : sh[11]? = some (true, 1, 96) := gc_bS hb rfl
theorem gc_bS_12 {sh : gz_Sh} {ro : Nat → Nat} {A : gc_A} (hb : gc_Base sh ro A) : sh[12]? = some (true, 1, 96) := gc_bS hb rfl
theorem gc_bS_13 {sh : gz_Sh} {ro : Nat → Nat} {A : gc_A} (hb : gc_Base sh ro A) : sh[13]? = some (true, 1, 384) := gc_bS hb rfl
theorem gc_bS_14 {sh : gz_Sh} {ro : Nat → Nat} {A : gc_A} (hb : gc_Base sh ro A) : sh[14]? = some (true, 1, 96) := gc_bS hb rfl
theorem gc_bS_15 {sh : gz_Sh} {ro : Nat → Nat} {A : gc_A} (hb : gc_Base sh ro A) : sh[15]? = some (true, 1, 96) := gc_bS hb rfl
theorem gc_bS_16 {sh : gz_Sh} {ro : Nat → Nat} {A : gc_A} (hb : gc_Base sh ro A) : sh[16]? = some (true, 1, 3840) := gc_bS hb rfl
theorem gc_bS_17 {sh : gz_Sh} {ro : Nat → Nat} {A : gc_A} (hb : gc_Base sh ro A) : sh[17]? = some (true, 2, 3840) := gc_bS hb rfl
theorem gc_bS_18 {sh : gz_Sh} {ro : Nat → Nat} {A : gc_A} (hb : gc_Base sh ro A) : sh[18]? = some (true, 2, 64) := gc_bS hb rfl
theorem gc_bS_19 {sh : gz_Sh} {ro : Nat → Nat} {A : gc_A} (hb : gc_Base sh ro A) : sh[19]? = some (true, 1, 128) := gc_bS hb rfl
theorem gc_bS_20 {sh : gz_Sh} {ro : Nat → Nat} {A : gc_A} (hb : gc_Base sh ro A) : sh[20]? = some (true, 0, 12000) := gc_bS hb rfl
theorem gc_bS_21 {sh : gz_Sh} {ro : Nat → Nat} {A : gc_A} (hb : gc_Base sh ro A) : sh[21]? = some (true, 1, 159) := gc_bS hb rfl
theorem gc_bS_22 {sh : gz_Sh} {ro : Nat → Nat} {A : gc_A} (hb : gc_Base sh ro A) : sh[22]? = some (true, 1, 60) := gc_bS hb rfl
theorem gc_bS_23 {sh : gz_Sh} {ro : Nat → Nat} {A : gc_A} (hb : gc_Base sh ro A) : sh[23]? = some (false, 9, 10) := gc_bS hb rfl
theorem gc_bS_24 {sh : gz_Sh} {ro : Nat → Nat} {A : gc_A} (hb : gc_Base sh ro A) : sh[24]? = some (true, 0, 1000) := gc_bS hb rfl
theorem gc_bS_27 {sh : gz_Sh} {ro : Nat → Nat} {A : gc_A} (hb : gc_Base sh ro A) : sh[27]? = some (false, 9, 10) := gc_bS hb rfl
theorem gc_bS_28 {sh : gz_Sh} {ro : Nat → Nat} {A : gc_A} (hb : gc_Base sh ro A) : sh[28]? = some (true, 0, 1000) := gc_bS hb rfl
theorem gc_bS_31 {sh : gz_Sh} {ro : Nat → Nat} {A : gc_A} (hb : gc_Base sh ro A) : sh[31]? = some (false, 9, 10) := gc_bS hb rfl
theorem gc_bS_32 {sh : gz_Sh} {ro : Nat → Nat} {A : gc_A} (hb : gc_Base sh ro A) : sh[32]? = some (true, 0, 1000) := gc_bS hb rfl
theorem gc_bS_33 {sh : gz_Sh} {ro : Nat → Nat} {A : gc_A} (hb : gc_Base sh ro A) : sh[33]? = some (true, 1, 24) := gc_bS hb rfl
theorem gc_bS_34 {sh : gz_Sh} {ro : Nat → Nat} {A : gc_A} (hb : gc_Base sh ro A) : sh[34]? = some (true, 1, 24) := gc_bS hb rfl
theorem gc_bS_35 {sh : gz_Sh} {ro : Nat → Nat} {A : gc_A} (hb : gc_Base sh ro A) : sh[35]? = some (false, 9, 10) := gc_bS hb rfl
theorem gc_bS_36 {sh : gz_Sh} {ro : Nat → Nat} {A : gc_A} (hb : gc_Base sh ro A) : sh[36]? = some (true, 0, 1000) := gc_bS hb rfl
theorem gc_bS_39 {sh : gz_Sh} {ro : Nat → Nat} {A : gc_A} (hb : gc_Base sh ro A) : sh[39]? = some (false, 6, 19) := gc_bS hb rfl
theorem gc_bS_40 {sh : gz_Sh} {ro : Nat → Nat} {A : gc_A} (hb : gc_Base sh ro A) : sh[40]? = some (true, 1, 72) := gc_bS hb rfl
theorem gc_bS_41 {sh : gz_Sh} {ro : Nat → Nat} {A : gc_A} (hb : gc_Base sh ro A) : sh[41]? = some (true, 1, 25) := gc_bS hb rfl
theorem gc_bS_42 {sh : gz_Sh} {ro : Nat → Nat} {A : gc_A} (hb : gc_Base sh ro A) : sh[42]? = some (true, 2, 6) := gc_bS hb rfl
theorem gc_bS_43 {sh : gz_Sh} {ro : Nat → Nat} {A : gc_A} (hb : gc_Base sh ro A) : sh[43]? = some (true, 1, 40) := gc_bS hb rfl
theorem gc_bS_44 {sh : gz_Sh} {ro : Nat → Nat} {A : gc_A} (hb : gc_Base sh ro A) : sh[44]? = some (true, 2, 40) := gc_bS hb rfl
theorem gc_bS_45 {sh : gz_Sh} {ro : Nat → Nat} {A : gc_A} (hb : gc_Base sh ro A) : sh[45]? = some (true, 2, 41) := gc_bS hb rfl
theorem gc_bS_46 {sh : gz_Sh} {ro : Nat → Nat} {A : gc_A} (hb : gc_Base sh ro A) : sh[46]? = some (true, 1, 60) := gc_bS hb rfl
theorem gc_bS_47 {sh : gz_Sh} {ro : Nat → Nat} {A : gc_A} (hb : gc_Base sh ro A) : sh[47]? = some (true, 1, 60) := gc_bS hb rfl
theorem gc_bS_48 {sh : gz_Sh} {ro : Nat → Nat} {A : gc_A} (hb : gc_Base sh ro A) : sh[48]? = some (false, 0, 22) := gc_bS hb rfl
theorem gc_bS_49 {sh : gz_Sh} {ro : Nat → Nat} {A : gc_A} (hb : gc_Base sh ro A) : sh[49]? = some (true, 1, 18432) := gc_bS hb rfl
theorem gc_bS_50 {sh : gz_Sh} {ro : Nat → Nat} {A : gc_A} (hb : gc_Base sh ro A) : sh[50]? = some (true, 1, 18432) := gc_bS hb rfl
theorem gc_bS_51 {sh : gz_Sh} {ro : Nat → Nat} {A : gc_A} (hb : gc_Base sh ro A) : sh[51]? = some (true, 1, 3000) := gc_bS hb rfl
theorem gc_bS_52 {sh : gz_Sh} {ro : Nat → Nat} {A : gc_A} (hb : gc_Base sh ro A) : sh[52]? = some (true, 1, 3000) := gc_bS hb rfl
theorem gc_bS_53 {sh : gz_Sh} {ro : Nat → Nat} {A : gc_A} (hb : gc_Base sh ro A) : sh[53]? = some (true, 1, 9000) := gc_bS hb rfl
theorem gc_bS_54 {sh : gz_Sh} {ro : Nat → Nat} {A : gc_A} (hb : gc_Base sh ro A) : sh[54]? = some (true, 1, 9000) := gc_bS hb rfl
theorem gc_bS_55 {sh : gz_Sh} {ro : Nat → Nat} {A : gc_A} (hb : gc_Base sh ro A) : sh[55]? = some (true, 1, 36000) := gc_bS hb rfl
theorem gc_bS_56 {sh : gz_Sh} {ro : Nat → Nat} {A : gc_A} (hb : gc_Base sh ro A) : sh[56]? = some (true, 1, 33) := gc_bS hb rfl
theorem gc_bS_57 {sh : gz_Sh} {ro : Nat → Nat} {A : gc_A} (hb : gc_Base sh ro A) : sh[57]? = some (true, 1, 384) := gc_bS hb rfl
theorem gc_bS_58 {sh : gz_Sh} {ro : Nat → Nat} {A : gc_A} (hb : gc_Base sh ro A) : sh[58]? = some (true, 1, 4) := gc_bS hb rfl
theorem gc_bS_59 {sh : gz_Sh} {ro : Nat → Nat} {A : gc_A} (hb : gc_Base sh ro A) : sh[59]? = some (true, 1, 4) := gc_bS hb rfl
theorem gc_bS_60 {sh : gz_Sh} {ro : Nat → Nat} {A : gc_A} (hb : gc_Base sh ro A) : sh[60]? = some (true, 1, 4) := gc_bS hb rfl
theorem gc_bS_61 {sh : gz_Sh} {ro : Nat → Nat} {A : gc_A} (hb : gc_Base sh ro A) : sh[61]? = some (false, 5, 19) := gc_bS hb rfl
theorem gc_bS_62 {sh : gz_Sh} {ro : Nat → Nat} {A : gc_A} (hb : gc_Base sh ro A) : sh[62]? = some (true, 3, 96) := gc_bS hb rfl
theorem gc_bS_63 {sh : gz_Sh} {ro : Nat → Nat} {A : gc_A} (hb : gc_Base sh ro A) : sh[63]? = some (true, 2, 3000) := gc_bS hb rfl
theorem gc_bS_64 {sh : gz_Sh} {ro : Nat → Nat} {A : gc_A} (hb : gc_Base sh ro A) : sh[64]? = some (true, 3, 3000) := gc_bS hb rfl
theorem gc_bS_65 {sh : gz_Sh} {ro : Nat → Nat} {A : gc_A} (hb : gc_Base sh ro A) : sh[65]? = some (true, 1, 9000) := gc_bS hb rfl
theorem gc_bS_66 {sh : gz_Sh} {ro : Nat → Nat} {A : gc_A} (hb : gc_Base sh ro A) : sh[66]? = some (true, 1, 9000) := gc_bS hb rfl
theorem gc_bS_67 {sh : gz_Sh} {ro : Nat → Nat} {A : gc_A} (hb : gc_Base sh ro A) : sh[67]? = some (true, 1, 3000) := gc_bS hb rfl
theorem gc_bS_68 {sh : gz_Sh} {ro : Nat → Nat} {A : gc_A} (hb : gc_Base sh ro A) : sh[68]? = some (true, 1, 48000) := gc_bS hb rfl
theorem gc_bS_69 {sh : gz_Sh} {ro : Nat → Nat} {A : gc_A} (hb : gc_Base sh ro A) : sh[69]? = some (true, 1, 48000) := gc_bS hb rfl
theorem gc_bS_70 {sh : gz_Sh} {ro : Nat → Nat} {A : gc_A} (hb : gc_Base sh ro A) : sh[70]? = some (true, 1, 48000) := gc_bS hb rfl
theorem gc_bS_71 {sh : gz_Sh} {ro : Nat → Nat} {A : gc_A} (hb : gc_Base sh ro A) : sh[71]? = some (true, 1, 16) := gc_bS hb rfl
theorem gc_bS_72 {sh : gz_Sh} {ro : Nat → Nat} {A : gc_A} (hb : gc_Base sh ro A) : sh[72]? = some (true, 1, 16) := gc_bS hb rfl
theorem gc_bS_73 {sh : gz_Sh} {ro : Nat → Nat} {A : gc_A} (hb : gc_Base sh ro A) : sh[73]? = some (true, 1, 244) := gc_bS hb rfl
theorem gc_bS_74 {sh : gz_Sh} {ro : Nat → Nat} {A : gc_A} (hb : gc_Base sh ro A) : sh[74]? = some (false, 7, 14) := gc_bS hb rfl
theorem gc_bS_75 {sh : gz_Sh} {ro : Nat → Nat} {A : gc_A} (hb : gc_Base sh ro A) : sh[75]? = some (true, 1, 240) := gc_bS hb rfl
theorem gc_bS_76 {sh : gz_Sh} {ro : Nat → Nat} {A : gc_A} (hb : gc_Base sh ro A) : sh[76]? = some (true, 1, 60) := gc_bS hb rfl
theorem gc_bS_77 {sh : gz_Sh} {ro : Nat → Nat} {A : gc_A} (hb : gc_Base sh ro A) : sh[77]? = some (true, 1, 1440) := gc_bS hb rfl
theorem gc_bS_78 {sh : gz_Sh} {ro : Nat → Nat} {A : gc_A} (hb : gc_Base sh ro A) : sh[78]? = some (true, 1, 1440) := gc_bS hb rfl
theorem gc_bS_79 {sh : gz_Sh} {ro : Nat → Nat} {A : gc_A} (hb : gc_Base sh ro A) : sh[79]? = some (true, 1, 1440) := gc_bS hb rfl
theorem gc_bS_80 {sh : gz_Sh} {ro : Nat → Nat} {A : gc_A} (hb : gc_Base sh ro A) : sh[80]? = some (true, 1, 1440) := gc_bS hb rfl
theorem gc_bS_81 {sh : gz_Sh} {ro : Nat → Nat} {A : gc_A} (hb : gc_Base sh ro A) : sh[81]? = some (true, 1, 1440) := gc_bS hb rfl
theorem gc_bS_82 {sh : gz_Sh} {ro : Nat → Nat} {A : gc_A} (hb : gc_Base sh ro A) : sh[82]? = some (true, 1, 4) := gc_bS hb rfl
theorem gc_bS_83 {sh : gz_Sh} {ro : Nat → Nat} {A : gc_A} (hb : gc_Base sh ro A) : sh[83]? = some (true, 1, 4) := gc_bS hb rfl
theorem gc_bS_84 {sh : gz_Sh} {ro : Nat → Nat} {A : gc_A} (hb : gc_Base sh ro A) : sh[84]? = some (true, 1, 60) := gc_bS hb rfl
theorem gc_bS_85 {sh : gz_Sh} {ro : Nat → Nat} {A : gc_A} (hb : gc_Base sh ro A) : sh[85]? = some (true, 1, 60) := gc_bS hb rfl
theorem gc_bS_86 {sh : gz_Sh} {ro : Nat → Nat} {A : gc_A} (hb : gc_Base sh ro A) : sh[86]? = some (false, 10, 19) := gc_bS hb rfl
theorem gc_bS_87 {sh : gz_Sh} {ro : Nat → Nat} {A : gc_A} (hb : gc_Base sh ro A) : sh[87]? = some (true, 1, 300) := gc_bS hb rfl
theorem gc_bS_88 {sh : gz_Sh} {ro : Nat → Nat} {A : gc_A} (hb : gc_Base sh ro A) : sh[88]? = some (true, 2, 300) := gc_bS hb rfl
theorem gc_bS_89 {sh : gz_Sh} {ro : Nat → Nat} {A : gc_A} (hb : gc_Base sh ro A) : sh[89]? = some (true, 1, 300) := gc_bS hb rfl
theorem gc_bS_90 {sh : gz_Sh} {ro : Nat → Nat} {A : gc_A} (hb : gc_Base sh ro A) : sh[90]? = some (true, 2, 300) := gc_bS hb rfl
theorem gc_bS_91 {sh : gz_Sh} {ro : Nat → Nat} {A : gc_A} (hb : gc_Base sh ro A) : sh[91]? = some (true, 1, 240) := gc_bS hb rfl
theorem gc_bS_92 {sh : gz_Sh} {ro : Nat → Nat} {A : gc_A} (hb : gc_Base sh ro A) : sh[92]? = some (true, 1, 300) := gc_bS hb rfl
theorem gc_bS_93 {sh : gz_Sh} {ro : Nat → Nat} {A : gc_A} (hb : gc_Base sh ro A) : sh[93]? = some (true, 1, 300) := gc_bS hb rfl
theorem gc_bS_94 {sh : gz_Sh} {ro : Nat → Nat} {A : gc_A} (hb : gc_Base sh ro A) : sh[94]? = some (true, 2, 300) := gc_bS hb rfl
theorem gc_bS_95 {sh : gz_Sh} {ro : Nat → Nat} {A : gc_A} (hb : gc_Base sh ro A) : sh[95]? = some (true, 1, 300) := gc_bS hb rfl
theorem gc_bS_96 {sh : gz_Sh} {ro : Nat → Nat} {A : gc_A} (hb : gc_Base sh ro A) : sh[96]? = some (true, 1, 300) := gc_bS hb rfl
theorem gc_bS_97 {sh : gz_Sh} {ro : Nat → Nat} {A : gc_A} (hb : gc_Base sh ro A) : sh[97]? = some (true, 1, 300) := gc_bS hb rfl
theorem gc_bS_98 {sh : gz_Sh} {ro : Nat → Nat} {A : gc_A} (hb : gc_Base sh ro A) : sh[98]? = some (true, 1, 300) := gc_bS hb rfl
theorem gc_bS_99 {sh : gz_Sh} {ro : Nat → Nat} {A : gc_A} (hb : gc_Base sh ro A) : sh[99]? = some (true, 1, 301) := gc_bS hb rfl
theorem gc_bS_100 {sh : gz_Sh} {ro : Nat → Nat} {A : gc_A} (hb : gc_Base sh ro A) : sh[100]? = some (false, 1, 19) := gc_bS hb rfl
theorem gc_bS_101 {sh : gz_Sh} {ro : Nat → Nat} {A : gc_A} (hb : gc_Base sh ro A) : sh[101]? = some (true, 1, 1536) := gc_bS hb rfl
theorem gc_bS_102 {sh : gz_Sh} {ro : Nat → Nat} {A : gc_A} (hb : gc_Base sh ro A) : sh[102]? = some (true, 1, 24) := gc_bS hb rfl
theorem gc_bS_103 {sh : gz_Sh} {ro : Nat → Nat} {A : gc_A} (hb : gc_Base sh ro A) : sh[103]? = some (true, 1, 24) := gc_bS hb rfl
theorem gc_bS_104 {sh : gz_Sh} {ro : Nat → Nat} {A : gc_A} (hb : gc_Base sh ro A) : sh[104]? = some (true, 6, 100) := gc_bS hb rfl
theorem gc_bS_105 {sh : gz_Sh} {ro : Nat → Nat} {A : gc_A} (hb : gc_Base sh ro A) : sh[105]? = some (true, 1, 100) := gc_bS hb rfl
theorem gc_bS_106 {sh : gz_Sh} {ro : Nat → Nat} {A : gc_A} (hb : gc_Base sh ro A) : sh[106]? = some (false, 9, 10) := gc_bS hb rfl
theorem gc_bS_107 {sh : gz_Sh} {ro : Nat → Nat} {A : gc_A} (hb : gc_Base sh ro A) : sh[107]? = some (true, 0, 1000) := gc_bS hb rfl
theorem gc_bS_108 {sh : gz_Sh} {ro : Nat → Nat} {A : gc_A} (hb : gc_Base sh ro A) : sh[108]? = some (true, 1, 24) := gc_bS hb rfl
theorem gc_bS_109 {sh : gz_Sh} {ro : Nat → Nat} {A : gc_A} (hb : gc_Base sh ro A) : sh[109]? = some (true, 1, 24) := gc_bS hb rfl
theorem gc_bS_110 {sh : gz_Sh} {ro : Nat → Nat} {A : gc_A} (hb : gc_Base sh ro A) : sh[110]? = some (true, 1, 24) := gc_bS hb rfl
theorem gc_bS_111 {sh : gz_Sh} {ro : Nat → Nat} {A : gc_A} (hb : gc_Base sh ro A) : sh[111]? = some (true, 1, 2400) := gc_bS hb rfl
theorem gc_bS_112 {sh : gz_Sh} {ro : Nat → Nat} {A : gc_A} (hb : gc_Base sh ro A) : sh[112]? = some (true, 1, 2400) := gc_bS hb rfl
theorem gc_bS_113 {sh : gz_Sh} {ro : Nat → Nat} {A : gc_A} (hb : gc_Base sh ro A) : sh[113]? = some (true, 1, 24) := gc_bS hb rfl
theorem gc_bS_114 {sh : gz_Sh} {ro : Nat → Nat} {A : gc_A} (hb : gc_Base sh ro A) : sh[114]? = some (true, 7, 9) := gc_bS hb rfl
theorem gc_bS_123 {sh : gz_Sh} {ro : Nat → Nat} {A : gc_A} (hb : gc_Base sh ro A) : sh[123]? = some (true, 1, 60) := gc_bS hb rfl
theorem gc_bS_124 {sh : gz_Sh} {ro : Nat → Nat} {A : gc_A} (hb : gc_Base sh ro A) : sh[124]? = some (true, 1, 9) := gc_bS hb rfl
theorem gc_bS_125 {sh : gz_Sh} {ro : Nat → Nat} {A : gc_A} (hb : gc_Base sh ro A) : sh[125]? = some (true, 6, 16) := gc_bS hb rfl
theorem gc_bS_142 {sh : gz_Sh} {ro : Nat → Nat} {A : gc_A} (hb : gc_Base sh ro A) : sh[142]? = some (true, 1, 16) := gc_bS hb rfl
theorem gc_bS_143 {sh : gz_Sh} {ro : Nat → Nat} {A : gc_A} (hb : gc_Base sh ro A) : sh[143]? = some (true, 1, 1000) := gc_bS hb rfl
theorem gc_bA_0_0 {sh : gz_Sh} {ro : Nat → Nat} {A : gc_A} (hb : gc_Base sh ro A) : A 0 0 = some 1 := gc_bA hb rfl
theorem gc_bA_0_1 {sh : gz_Sh} {ro : Nat → Nat} {A : gc_A} (hb : gc_Base sh ro A) : A 0 1 = some 23 := gc_bA hb rfl
theorem gc_bA_0_2 {sh : gz_Sh} {ro : Nat → Nat} {A : gc_A} (hb : gc_Base sh ro A) : A 0 2 = some 27 := gc_bA hb rfl
theorem gc_bA_0_3 {sh : gz_Sh} {ro : Nat → Nat} {A : gc_A} (hb : gc_Base sh ro A) : A 0 3 = some 31 := gc_bA hb rfl
theorem gc_bA_0_4 {sh : gz_Sh} {ro : Nat → Nat} {A : gc_A} (hb : gc_Base sh ro A) : A 0 4 = some 35 := gc_bA hb rfl
theorem gc_bA_0_5 {sh : gz_Sh} {ro : Nat → Nat} {A : gc_A} (hb : gc_Base sh ro A) : A 0 5 = some 39 := gc_bA hb rfl
theorem gc_bA_0_6 {sh : gz_Sh} {ro : Nat → Nat} {A : gc_A} (hb : gc_Base sh ro A) : A 0 6 = some 48 := gc_bA hb rfl
theorem gc_bA_0_7 {sh : gz_Sh} {ro : Nat → Nat} {A : gc_A} (hb : gc_Base sh ro A) : A 0 7 = some 61 := gc_bA hb rfl
theorem gc_bA_0_8 {sh : gz_Sh} {ro : Nat → Nat} {A : gc_A} (hb : gc_Base sh ro A) : A 0 8 = some 74 := gc_bA hb rfl
theorem gc_bA_0_9 {sh : gz_Sh} {ro : Nat → Nat} {A : gc_A} (hb : gc_Base sh ro A) : A 0 9 = some 86 := gc_bA hb rfl
theorem gc_bA_0_10 {sh : gz_Sh} {ro : Nat → Nat} {A : gc_A} (hb : gc_Base sh ro A) : A 0 10 = some 100 := gc_bA hb rfl
theorem gc_bA_0_11 {sh : gz_Sh} {ro : Nat → Nat} {A : gc_A} (hb : gc_Base sh ro A) : A 0 11 = some 114 := gc_bA hb rfl
theorem gc_bA_0_12 {sh : gz_Sh} {ro : Nat → Nat} {A : gc_A} (hb : gc_Base sh ro A) : A 0 12 = some 124 := gc_bA hb rfl
theorem gc_bA_0_13 {sh : gz_Sh} {ro : Nat → Nat} {A : gc_A} (hb : gc_Base sh ro A) : A 0 13 = some 125 := gc_bA hb rfl
theorem gc_bA_0_14 {sh : gz_Sh} {ro : Nat → Nat} {A : gc_A} (hb : gc_Base sh ro A) : A 0 14 = some 142 := gc_bA hb rfl
theorem gc_bA_0_16 {sh : gz_Sh} {ro : Nat → Nat} {A : gc_A} (hb : gc_Base sh ro A) : A 0 16 = some 143 := gc_bA hb rfl
theorem gc_bA_1_0 {sh : gz_Sh} {ro : Nat → Nat} {A : gc_A} (hb : gc_Base sh ro A) : A 1 0 = some 2 := gc_bA hb rfl
theorem gc_bA_1_1 {sh : gz_Sh} {ro : Nat → Nat} {A : gc_A} (hb : gc_Base sh ro A) : A 1 1 = some 4 := gc_bA hb rfl
theorem gc_bA_1_2 {sh : gz_Sh} {ro : Nat → Nat} {A : gc_A} (hb : gc_Base sh ro A) : A 1 2 = some 6 := gc_bA hb rfl
theorem gc_bA_1_3 {sh : gz_Sh} {ro : Nat → Nat} {A : gc_A} (hb : gc_Base sh ro A) : A 1 3 = some 8 := gc_bA hb rfl
theorem gc_bA_1_4 {sh : gz_Sh} {ro : Nat → Nat} {A : gc_A} (hb : gc_Base sh ro A) : A 1 4 = some 10 := gc_bA hb rfl
theorem gc_bA_1_6 {sh : gz_Sh} {ro : Nat → Nat} {A : gc_A} (hb : gc_Base sh ro A) : A 1 6 = some 11 := gc_bA hb rfl
theorem gc_bA_1_7 {sh : gz_Sh} {ro : Nat → Nat} {A : gc_A} (hb : gc_Base sh ro A) : A 1 7 = some 12 := gc_bA hb rfl
theorem gc_bA_1_8 {sh : gz_Sh} {ro : Nat → Nat} {A : gc_A} (hb : gc_Base sh ro A) : A 1 8 = some 13 := gc_bA hb rfl
theorem gc_bA_1_9 {sh : gz_Sh} {ro : Nat → Nat} {A : gc_A} (hb : gc_Base sh ro A) : A 1 9 = some 14 := gc_bA hb rfl
theorem gc_bA_1_10 {sh : gz_Sh} {ro : Nat → Nat} {A : gc_A} (hb : gc_Base sh ro A) : A 1 10 = some 15 := gc_bA hb rfl
theorem gc_bA_1_11 {sh : gz_Sh} {ro : Nat → Nat} {A : gc_A} (hb : gc_Base sh ro A) : A 1 11 = some 16 := gc_bA hb rfl
theorem gc_bA_1_12 {sh : gz_Sh} {ro : Nat → Nat} {A : gc_A} (hb : gc_Base sh ro A) : A 1 12 = some 17 := gc_bA hb rfl
theorem gc_bA_1_14 {sh : gz_Sh} {ro : Nat → Nat} {A : gc_A} (hb : gc_Base sh ro A) : A 1 14 = some 18 := gc_bA hb rfl
theorem gc_bA_1_15 {sh : gz_Sh} {ro : Nat → Nat} {A : gc_A} (hb : gc_Base sh ro A) : A 1 15 = some 19 := gc_bA hb rfl
theorem gc_bA_1_16 {sh : gz_Sh} {ro : Nat → Nat} {A : gc_A} (hb : gc_Base sh ro A) : A 1 16 = some 20 := gc_bA hb rfl
theorem gc_bA_1_19 {sh : gz_Sh} {ro : Nat → Nat} {A : gc_A} (hb : gc_Base sh ro A) : A 1 19 = some 21 := gc_bA hb rfl
theorem gc_bA_1_20 {sh : gz_Sh} {ro : Nat → Nat} {A : gc_A} (hb : gc_Base sh ro A) : A 1 20 = some 22 := gc_bA hb rfl
theorem gc_bA_4_0 {sh : gz_Sh} {ro : Nat → Nat} {A : gc_A} (hb : gc_Base sh ro A) : A 4 0 = some 5 := gc_bA hb rfl
theorem gc_bA_23_0 {sh : gz_Sh} {ro : Nat → Nat} {A : gc_A} (hb : gc_Base sh ro A) : A 23 0 = some 24 := gc_bA hb rfl
theorem gc_bA_27_0 {sh : gz_Sh} {ro : Nat → Nat} {A : gc_A} (hb : gc_Base sh ro A) : A 27 0 = some 28 := gc_bA hb rfl
theorem gc_bA_31_0 {sh : gz_Sh} {ro : Nat → Nat} {A : gc_A} (hb : gc_Base sh ro A) : A 31 0 = some 32 := gc_bA hb rfl
theorem gc_bA_31_2 {sh : gz_Sh} {ro : Nat → Nat} {A : gc_A} (hb : gc_Base sh ro A) : A 31 2 = some 33 := gc_bA hb rfl
theorem gc_bA_31_3 {sh : gz_Sh} {ro : Nat → Nat} {A : gc_A} (hb : gc_Base sh ro A) : A 31 3 = some 34 := gc_bA hb rfl
theorem gc_bA_35_0 {sh : gz_Sh} {ro : Nat → Nat} {A : gc_A} (hb : gc_Base sh ro A) : A 35 0 = some 36 := gc_bA hb rfl
theorem gc_bA_39_0 {sh : gz_Sh} {ro : Nat → Nat} {A : gc_A} (hb : gc_Base sh ro A) : A 39 0 = some 1 := gc_bA hb rfl
theorem gc_bA_39_1 {sh : gz_Sh} {ro : Nat → Nat} {A : gc_A} (hb : gc_Base sh ro A) : A 39 1 = some 23 := gc_bA hb rfl
theorem gc_bA_39_9 {sh : gz_Sh} {ro : Nat → Nat} {A : gc_A} (hb : gc_Base sh ro A) : A 39 9 = some 40 := gc_bA hb rfl
theorem gc_bA_39_10 {sh : gz_Sh} {ro : Nat → Nat} {A : gc_A} (hb : gc_Base sh ro A) : A 39 10 = some 41 := gc_bA hb rfl
theorem gc_bA_39_11 {sh : gz_Sh} {ro : Nat → Nat} {A : gc_A} (hb : gc_Base sh ro A) : A 39 11 = some 42 := gc_bA hb rfl
theorem gc_bA_39_13 {sh : gz_Sh} {ro : Nat → Nat} {A : gc_A} (hb : gc_Base sh ro A) : A 39 13 = some 43 := gc_bA hb rfl
theorem gc_bA_39_14 {sh : gz_Sh} {ro : Nat → Nat} {A : gc_A} (hb : gc_Base sh ro A) : A 39 14 = some 44 := gc_bA hb rfl
theorem gc_bA_39_16 {sh : gz_Sh} {ro : Nat → Nat} {A : gc_A} (hb : gc_Base sh ro A) : A 39 16 = some 45 := gc_bA hb rfl
theorem gc_bA_39_17 {sh : gz_Sh} {ro : Nat → Nat} {A : gc_A} (hb : gc_Base sh ro A) : A 39 17 = some 46 := gc_bA hb rfl
theorem gc_bA_39_18 {sh : gz_Sh} {ro : Nat → Nat} {A : gc_A} (hb : gc_Base sh ro A) : A 39 18 = some 47 := gc_bA hb rfl
theorem gc_bA_48_0 {sh : gz_Sh} {ro : Nat → Nat} {A : gc_A} (hb : gc_Base sh ro A) : A 48 0 = some 1 := gc_bA hb rfl
theorem gc_bA_48_1 {sh : gz_Sh} {ro : Nat → Nat} {A : gc_A} (hb : gc_Base sh ro A) : A 48 1 = some 49 := gc_bA hb rfl
theorem gc_bA_48_2 {sh : gz_Sh} {ro : Nat → Nat} {A : gc_A} (hb : gc_Base sh ro A) : A 48 2 = some 50 := gc_bA hb rfl
theorem gc_bA_48_4 {sh : gz_Sh} {ro : Nat → Nat} {A : gc_A} (hb : gc_Base sh ro A) : A 48 4 = some 51 := gc_bA hb rfl
theorem gc_bA_48_5 {sh : gz_Sh} {ro : Nat → Nat} {A : gc_A} (hb : gc_Base sh ro A) : A 48 5 = some 52 := gc_bA hb rfl
theorem gc_bA_48_7 {sh : gz_Sh} {ro : Nat → Nat} {A : gc_A} (hb : gc_Base sh ro A) : A 48 7 = some 53 := gc_bA hb rfl
theorem gc_bA_48_8 {sh : gz_Sh} {ro : Nat → Nat} {A : gc_A} (hb : gc_Base sh ro A) : A 48 8 = some 54 := gc_bA hb rfl
theorem gc_bA_48_9 {sh : gz_Sh} {ro : Nat → Nat} {A : gc_A} (hb : gc_Base sh ro A) : A 48 9 = some 55 := gc_bA hb rfl
theorem gc_bA_48_15 {sh : gz_Sh} {ro : Nat → Nat} {A : gc_A} (hb : gc_Base sh ro A) : A 48 15 = some 56 := gc_bA hb rfl
theorem gc_bA_48_16 {sh : gz_Sh} {ro : Nat → Nat} {A : gc_A} (hb : gc_Base sh ro A) : A 48 16 = some 57 := gc_bA hb rfl
theorem gc_bA_48_19 {sh : gz_Sh} {ro : Nat → Nat} {A : gc_A} (hb : gc_Base sh ro A) : A 48 19 = some 58 := gc_bA hb rfl
theorem gc_bA_48_20 {sh : gz_Sh} {ro : Nat → Nat} {A : gc_A} (hb : gc_Base sh ro A) : A 48 20 = some 59 := gc_bA hb rfl
theorem gc_bA_48_21 {sh : gz_Sh} {ro : Nat → Nat} {A : gc_A} (hb : gc_Base sh ro A) : A 48 21 = some 60 := gc_bA hb rfl
theorem gc_bA_61_0 {sh : gz_Sh} {ro : Nat → Nat} {A : gc_A} (hb : gc_Base sh ro A) : A 61 0 = some 1 := gc_bA hb rfl
theorem gc_bA_61_1 {sh : gz_Sh} {ro : Nat → Nat} {A : gc_A} (hb : gc_Base sh ro A) : A 61 1 = some 48 := gc_bA hb rfl
theorem gc_bA_61_5 {sh : gz_Sh} {ro : Nat → Nat} {A : gc_A} (hb : gc_Base sh ro A) : A 61 5 = some 62 := gc_bA hb rfl
theorem gc_bA_61_6 {sh : gz_Sh} {ro : Nat → Nat} {A : gc_A} (hb : gc_Base sh ro A) : A 61 6 = some 63 := gc_bA hb rfl
theorem gc_bA_61_7 {sh : gz_Sh} {ro : Nat → Nat} {A : gc_A} (hb : gc_Base sh ro A) : A 61 7 = some 64 := gc_bA hb rfl
theorem gc_bA_61_11 {sh : gz_Sh} {ro : Nat → Nat} {A : gc_A} (hb : gc_Base sh ro A) : A 61 11 = some 67 := gc_bA hb rfl
theorem gc_bA_61_12 {sh : gz_Sh} {ro : Nat → Nat} {A : gc_A} (hb : gc_Base sh ro A) : A 61 12 = some 68 := gc_bA hb rfl
theorem gc_bA_61_13 {sh : gz_Sh} {ro : Nat → Nat} {A : gc_A} (hb : gc_Base sh ro A) : A 61 13 = some 69 := gc_bA hb rfl
theorem gc_bA_61_14 {sh : gz_Sh} {ro : Nat → Nat} {A : gc_A} (hb : gc_Base sh ro A) : A 61 14 = some 70 := gc_bA hb rfl
theorem gc_bA_61_16 {sh : gz_Sh} {ro : Nat → Nat} {A : gc_A} (hb : gc_Base sh ro A) : A 61 16 = some 71 := gc_bA hb rfl
theorem gc_bA_61_17 {sh : gz_Sh} {ro : Nat → Nat} {A : gc_A} (hb : gc_Base sh ro A) : A 61 17 = some 72 := gc_bA hb rfl
theorem gc_bA_61_18 {sh : gz_Sh} {ro : Nat → Nat} {A : gc_A} (hb : gc_Base sh ro A) : A 61 18 = some 73 := gc_bA hb rfl
theorem gc_bA_74_0 {sh : gz_Sh} {ro : Nat → Nat} {A : gc_A} (hb : gc_Base sh ro A) : A 74 0 = some 1 := gc_bA hb rfl
theorem gc_bA_74_2 {sh : gz_Sh} {ro : Nat → Nat} {A : gc_A} (hb : gc_Base sh ro A) : A 74 2 = some 75 := gc_bA hb rfl
theorem gc_bA_74_3 {sh : gz_Sh} {ro : Nat → Nat} {A : gc_A} (hb : gc_Base sh ro A) : A 74 3 = some 76 := gc_bA hb rfl
theorem gc_bA_74_4 {sh : gz_Sh} {ro : Nat → Nat} {A : gc_A} (hb : gc_Base sh ro A) : A 74 4 = some 77 := gc_bA hb rfl
theorem gc_bA_74_5 {sh : gz_Sh} {ro : Nat → Nat} {A : gc_A} (hb : gc_Base sh ro A) : A 74 5 = some 78 := gc_bA hb rfl
theorem gc_bA_74_6 {sh : gz_Sh} {ro : Nat → Nat} {A : gc_A} (hb : gc_Base sh ro A) : A 74 6 = some 79 := gc_bA hb rfl
theorem gc_bA_74_7 {sh : gz_Sh} {ro : Nat → Nat} {A : gc_A} (hb : gc_Base sh ro A) : A 74 7 = some 80 := gc_bA hb rfl
theorem gc_bA_74_8 {sh : gz_Sh} {ro : Nat → Nat} {A : gc_A} (hb : gc_Base sh ro A) : A 74 8 = some 81 := gc_bA hb rfl
theorem gc_bA_74_10 {sh : gz_Sh} {ro : Nat → Nat} {A : gc_A} (hb : gc_Base sh ro A) : A 74 10 = some 82 := gc_bA hb rfl
theorem gc_bA_74_11 {sh : gz_Sh} {ro : Nat → Nat} {A : gc_A} (hb : gc_Base sh ro A) : A 74 11 = some 83 := gc_bA hb rfl
theorem gc_bA_74_12 {sh : gz_Sh} {ro : Nat → Nat} {A : gc_A} (hb : gc_Base sh ro A) : A 74 12 = some 84 := gc_bA hb rfl
theorem gc_bA_74_13 {sh : gz_Sh} {ro : Nat → Nat} {A : gc_A} (hb : gc_Base sh ro A) : A 74 13 = some 85 := gc_bA hb rfl
theorem gc_bA_86_0 {sh : gz_Sh} {ro : Nat → Nat} {A : gc_A} (hb : gc_Base sh ro A) : A 86 0 = some 1 := gc_bA hb rfl
theorem gc_bA_86_6 {sh : gz_Sh} {ro : Nat → Nat} {A : gc_A} (hb : gc_Base sh ro A) : A 86 6 = some 91 := gc_bA hb rfl
theorem gc_bA_86_7 {sh : gz_Sh} {ro : Nat → Nat} {A : gc_A} (hb : gc_Base sh ro A) : A 86 7 = some 92 := gc_bA hb rfl
theorem gc_bA_86_8 {sh : gz_Sh} {ro : Nat → Nat} {A : gc_A} (hb : gc_Base sh ro A) : A 86 8 = some 93 := gc_bA hb rfl
theorem gc_bA_86_10 {sh : gz_Sh} {ro : Nat → Nat} {A : gc_A} (hb : gc_Base sh ro A) : A 86 10 = some 94 := gc_bA hb rfl
theorem gc_bA_86_11 {sh : gz_Sh} {ro : Nat → Nat} {A : gc_A} (hb : gc_Base sh ro A) : A 86 11 = some 95 := gc_bA hb rfl
theorem gc_bA_86_12 {sh : gz_Sh} {ro : Nat → Nat} {A : gc_A} (hb : gc_Base sh ro A) : A 86 12 = some 96 := gc_bA hb rfl
theorem gc_bA_86_13 {sh : gz_Sh} {ro : Nat → Nat} {A : gc_A} (hb : gc_Base sh ro A) : A 86 13 = some 97 := gc_bA hb rfl
theorem gc_bA_86_14 {sh : gz_Sh} {ro : Nat → Nat} {A : gc_A} (hb : gc_Base sh ro A) : A 86 14 = some 98 := gc_bA hb rfl
theorem gc_bA_86_15 {sh : gz_Sh} {ro : Nat → Nat} {A : gc_A} (hb : gc_Base sh ro A) : A 86 15 = some 99 := gc_bA hb rfl
theorem gc_bA_100_0 {sh : gz_Sh} {ro : Nat → Nat} {A : gc_A} (hb : gc_Base sh ro A) : A 100 0 = some 1 := gc_bA hb rfl
theorem gc_bA_100_3 {sh : gz_Sh} {ro : Nat → Nat} {A : gc_A} (hb : gc_Base sh ro A) : A 100 3 = some 101 := gc_bA hb rfl
theorem gc_bA_100_5 {sh : gz_Sh} {ro : Nat → Nat} {A : gc_A} (hb : gc_Base sh ro A) : A 100 5 = some 102 := gc_bA hb rfl
theorem gc_bA_100_6 {sh : gz_Sh} {ro : Nat → Nat} {A : gc_A} (hb : gc_Base sh ro A) : A 100 6 = some 103 := gc_bA hb rfl
theorem gc_bA_100_10 {sh : gz_Sh} {ro : Nat → Nat} {A : gc_A} (hb : gc_Base sh ro A) : A 100 10 = some 104 := gc_bA hb rfl
theorem gc_bA_100_11 {sh : gz_Sh} {ro : Nat → Nat} {A : gc_A} (hb : gc_Base sh ro A) : A 100 11 = some 105 := gc_bA hb rfl
theorem gc_bA_100_12 {sh : gz_Sh} {ro : Nat → Nat} {A : gc_A} (hb : gc_Base sh ro A) : A 100 12 = some 106 := gc_bA hb rfl
theorem gc_bA_100_13 {sh : gz_Sh} {ro : Nat → Nat} {A : gc_A} (hb : gc_Base sh ro A) : A 100 13 = some 110 := gc_bA hb rfl
theorem gc_bA_100_15 {sh : gz_Sh} {ro : Nat → Nat} {A : gc_A} (hb : gc_Base sh ro A) : A 100 15 = some 111 := gc_bA hb rfl
theorem gc_bA_100_16 {sh : gz_Sh} {ro : Nat → Nat} {A : gc_A} (hb : gc_Base sh ro A) : A 100 16 = some 112 := gc_bA hb rfl
theorem gc_bA_100_18 {sh : gz_Sh} {ro : Nat → Nat} {A : gc_A} (hb : gc_Base sh ro A) : A 100 18 = some 113 := gc_bA hb rfl
theorem gc_bA_106_0 {sh : gz_Sh} {ro : Nat → Nat} {A : gc_A} (hb : gc_Base sh ro A) : A 106 0 = some 107 := gc_bA hb rfl
theorem gc_bA_106_2 {sh : gz_Sh} {ro : Nat → Nat} {A : gc_A} (hb : gc_Base sh ro A) : A 106 2 = some 108 := gc_bA hb rfl
theorem gc_bA_106_3 {sh : gz_Sh} {ro : Nat → Nat} {A : gc_A} (hb : gc_Base sh ro A) : A 106 3 = some 109 := gc_bA hb rfl
