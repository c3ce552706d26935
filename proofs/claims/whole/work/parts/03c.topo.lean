def TOPO : List (Nat × Int × Nat) := [(0, 0, 1), (0, 1, 75), (0, 4, 80), (0, 5, 81), (0, 6, 85), (0, 7, 107), (0, 8, 111), (0, 9, 135), (1, 0, 2), (75, 0, 79), (75, 1, 76), (75, 2, 77), (75, 3, 78), (79, 0, 1), (81, 0, 82), (81, 2, 83), (81, 4, 84), (107, 0, 85), (107, 1, 108), (107, 2, 109), (107, 5, 110), (111, 1, 113), (111, 2, 112), (135, 0, 136), (135, 2, 137), (138, 1, 139), (138, 12, 140), (138, 15, 141), (138, 16, 142), (138, 17, 143), (138, 18, 144), (138, 19, 145), (138, 20, 146), (138, 21, 147), (138, 25, 148), (138, 26, 149), (138, 27, 150), (138, 28, 151), (138, 29, 152), (138, 31, 153), (138, 32, 154), (138, 33, 155), (138, 34, 156), (138, 35, 157), (138, 36, 158), (138, 37, 159), (3, 12, 4), (3, 13, 12), (3, 14, 27), (3, 15, 35), (3, 16, 36), (3, 17, 37), (3, 18, 38), (4, 0, 5), (4, 1, 6), (4, 2, 7), (4, 3, 8), (4, 4, 9), (4, 5, 10), (4, 6, 11), (12, 0, 13), (12, 1, 14), (12, 2, 15), (12, 3, 16), (12, 4, 17), (12, 5, 18), (12, 6, 19), (12, 7, 20), (12, 8, 21), (12, 9, 22), (12, 10, 23), (12, 11, 24), (12, 12, 25), (12, 13, 26), (27, 0, 28), (27, 1, 29), (27, 2, 30), (27, 3, 31), (27, 4, 32), (27, 5, 33), (27, 6, 34), (39, 12, 40), (39, 13, 48), (39, 14, 63), (39, 15, 71), (39, 16, 72), (39, 17, 73), (39, 18, 74), (40, 0, 41), (40, 1, 42), (40, 2, 43), (40, 3, 44), (40, 4, 45), (40, 5, 46), (40, 6, 47), (48, 0, 49), (48, 1, 50), (48, 2, 51), (48, 3, 52), (48, 4, 53), (48, 5, 54), (48, 6, 55), (48, 7, 56), (48, 8, 57), (48, 9, 58), (48, 10, 59), (48, 11, 60), (48, 12, 61), (48, 13, 62), (63, 0, 64), (63, 1, 65), (63, 2, 66), (63, 3, 67), (63, 4, 68), (63, 5, 69), (63, 6, 70), (85, 0, 86), (85, 2, 87), (85, 3, 102), (85, 4, 103), (85, 5, 104), (85, 6, 105), (85, 7, 106), (87, 0, 88), (87, 1, 89), (87, 2, 90), (87, 3, 91), (87, 4, 92), (87, 5, 93), (87, 6, 94), (87, 7, 95), (87, 8, 96), (87, 9, 97), (87, 10, 98), (87, 11, 99), (87, 12, 100), (87, 13, 101), (113, 0, 114), (113, 2, 115), (113, 3, 130), (113, 4, 131), (113, 5, 132), (113, 6, 133), (113, 7, 134), (115, 0, 116), (115, 1, 117), (115, 2, 118), (115, 3, 119), (115, 4, 120), (115, 5, 121), (115, 6, 122), (115, 7, 123), (115, 8, 124), (115, 9, 125), (115, 10, 126), (115, 11, 127), (115, 12, 128), (115, 13, 129)]
/-- what the references that never change hold -/
def Topo (R : MR) : Prop := ∀ (a : Nat) (k : Int) (b : Nat), (a, k, b) ∈ TOPO → R a k = some b
theorem Topo_up {R : MR} (h : Topo R) {a : Nat} {k : Int} {v : Option Nat} (hk : ∀ b, (a, k, b) ∉ TOPO) : Topo (up R a k v) := by
  intro a' k' b hm
  unfold up
  split
  · next e =>
    subst e
    dsimp only
    split
    · next e2 => subst e2; exact absurd hm (hk b)
    · exact h _ _ _ hm
  · exact h _ _ _ hm
theorem T_X11_tape {R : MR} (hT : Topo R) : R 0 0 = some 1 := hT 0 0 1 (List.mem_of_getElem? (i := 0) (by decide +kernel))
theorem T_X11_reader {R : MR} (hT : Topo R) : R 0 1 = some 75 := hT 0 1 75 (List.mem_of_getElem? (i := 1) (by decide +kernel))
theorem T_X11_evening {R : MR} (hT : Topo R) : R 0 4 = some 80 := hT 0 4 80 (List.mem_of_getElem? (i := 2) (by decide +kernel))
theorem T_X11_acts {R : MR} (hT : Topo R) : R 0 5 = some 81 := hT 0 5 81 (List.mem_of_getElem? (i := 3) (by decide +kernel))
theorem T_X11_night {R : MR} (hT : Topo R) : R 0 6 = some 85 := hT 0 6 85 (List.mem_of_getElem? (i := 4) (by decide +kernel))
theorem T_X11_casting {R : MR} (hT : Topo R) : R 0 7 = some 107 := hT 0 7 107 (List.mem_of_getElem? (i := 5) (by decide +kernel))
theorem T_X11_search {R : MR} (hT : Topo R) : R 0 8 = some 111 := hT 0 8 111 (List.mem_of_getElem? (i := 6) (by decide +kernel))
theorem T_X11_sightings {R : MR} (hT : Topo R) : R 0 9 = some 135 := hT 0 9 135 (List.mem_of_getElem? (i := 7) (by decide +kernel))
theorem T_X9_bytes {R : MR} (hT : Topo R) : R 1 0 = some 2 := hT 1 0 2 (List.mem_of_getElem? (i := 8) (by decide +kernel))
theorem T_X6_tokens {R : MR} (hT : Topo R) : R 75 0 = some 79 := hT 75 0 79 (List.mem_of_getElem? (i := 9) (by decide +kernel))
theorem T_X6_partNames {R : MR} (hT : Topo R) : R 75 1 = some 76 := hT 75 1 76 (List.mem_of_getElem? (i := 10) (by decide +kernel))
theorem T_X6_sceneNames {R : MR} (hT : Topo R) : R 75 2 = some 77 := hT 75 2 77 (List.mem_of_getElem? (i := 11) (by decide +kernel))
theorem T_X6_values {R : MR} (hT : Topo R) : R 75 3 = some 78 := hT 75 3 78 (List.mem_of_getElem? (i := 12) (by decide +kernel))
theorem T_X10_tape {R : MR} (hT : Topo R) : R 79 0 = some 1 := hT 79 0 1 (List.mem_of_getElem? (i := 13) (by decide +kernel))
theorem T_X0_past {R : MR} (hT : Topo R) : R 81 0 = some 82 := hT 81 0 82 (List.mem_of_getElem? (i := 14) (by decide +kernel))
theorem T_X0_future {R : MR} (hT : Topo R) : R 81 2 = some 83 := hT 81 2 83 (List.mem_of_getElem? (i := 15) (by decide +kernel))
theorem T_X0_images {R : MR} (hT : Topo R) : R 81 4 = some 84 := hT 81 4 84 (List.mem_of_getElem? (i := 16) (by decide +kernel))
theorem T_X1_night {R : MR} (hT : Topo R) : R 107 0 = some 85 := hT 107 0 85 (List.mem_of_getElem? (i := 17) (by decide +kernel))
theorem T_X1_groups {R : MR} (hT : Topo R) : R 107 1 = some 108 := hT 107 1 108 (List.mem_of_getElem? (i := 18) (by decide +kernel))
theorem T_X1_players {R : MR} (hT : Topo R) : R 107 2 = some 109 := hT 107 2 109 (List.mem_of_getElem? (i := 19) (by decide +kernel))
theorem T_X1_leastCuts {R : MR} (hT : Topo R) : R 107 5 = some 110 := hT 107 5 110 (List.mem_of_getElem? (i := 20) (by decide +kernel))
theorem T_X7_trial {R : MR} (hT : Topo R) : R 111 1 = some 113 := hT 111 1 113 (List.mem_of_getElem? (i := 21) (by decide +kernel))
theorem T_X7_steps {R : MR} (hT : Topo R) : R 111 2 = some 112 := hT 111 2 112 (List.mem_of_getElem? (i := 22) (by decide +kernel))
theorem T_X8_known {R : MR} (hT : Topo R) : R 135 0 = some 136 := hT 135 0 136 (List.mem_of_getElem? (i := 23) (by decide +kernel))
theorem T_X8_row {R : MR} (hT : Topo R) : R 135 2 = some 137 := hT 135 2 137 (List.mem_of_getElem? (i := 24) (by decide +kernel))
theorem T_X12_tape {R : MR} (hT : Topo R) : R 138 1 = some 139 := hT 138 1 139 (List.mem_of_getElem? (i := 25) (by decide +kernel))
theorem T_X12_letters {R : MR} (hT : Topo R) : R 138 12 = some 140 := hT 138 12 140 (List.mem_of_getElem? (i := 26) (by decide +kernel))
theorem T_X12_r {R : MR} (hT : Topo R) : R 138 15 = some 141 := hT 138 15 141 (List.mem_of_getElem? (i := 27) (by decide +kernel))
theorem T_X12_fresh {R : MR} (hT : Topo R) : R 138 16 = some 142 := hT 138 16 142 (List.mem_of_getElem? (i := 28) (by decide +kernel))
theorem T_X12_st {R : MR} (hT : Topo R) : R 138 17 = some 143 := hT 138 17 143 (List.mem_of_getElem? (i := 29) (by decide +kernel))
theorem T_X12_was {R : MR} (hT : Topo R) : R 138 18 = some 144 := hT 138 18 144 (List.mem_of_getElem? (i := 30) (by decide +kernel))
theorem T_X12_undone {R : MR} (hT : Topo R) : R 138 19 = some 145 := hT 138 19 145 (List.mem_of_getElem? (i := 31) (by decide +kernel))
theorem T_X12_redone {R : MR} (hT : Topo R) : R 138 20 = some 146 := hT 138 20 146 (List.mem_of_getElem? (i := 32) (by decide +kernel))
theorem T_X12_kept {R : MR} (hT : Topo R) : R 138 21 = some 147 := hT 138 21 147 (List.mem_of_getElem? (i := 33) (by decide +kernel))
theorem T_X12_row {R : MR} (hT : Topo R) : R 138 25 = some 148 := hT 138 25 148 (List.mem_of_getElem? (i := 34) (by decide +kernel))
theorem T_X12_opens {R : MR} (hT : Topo R) : R 138 26 = some 149 := hT 138 26 149 (List.mem_of_getElem? (i := 35) (by decide +kernel))
theorem T_X12_begin {R : MR} (hT : Topo R) : R 138 27 = some 150 := hT 138 27 150 (List.mem_of_getElem? (i := 36) (by decide +kernel))
theorem T_X12_close {R : MR} (hT : Topo R) : R 138 28 = some 151 := hT 138 28 151 (List.mem_of_getElem? (i := 37) (by decide +kernel))
theorem T_X12_inTime {R : MR} (hT : Topo R) : R 138 29 = some 152 := hT 138 29 152 (List.mem_of_getElem? (i := 38) (by decide +kernel))
theorem T_X12_may {R : MR} (hT : Topo R) : R 138 31 = some 153 := hT 138 31 153 (List.mem_of_getElem? (i := 39) (by decide +kernel))
theorem T_X12_covers {R : MR} (hT : Topo R) : R 138 32 = some 154 := hT 138 32 154 (List.mem_of_getElem? (i := 40) (by decide +kernel))
theorem T_X12_given {R : MR} (hT : Topo R) : R 138 33 = some 155 := hT 138 33 155 (List.mem_of_getElem? (i := 41) (by decide +kernel))
theorem T_X12_best {R : MR} (hT : Topo R) : R 138 34 = some 156 := hT 138 34 156 (List.mem_of_getElem? (i := 42) (by decide +kernel))
theorem T_X12_bestRow {R : MR} (hT : Topo R) : R 138 35 = some 157 := hT 138 35 157 (List.mem_of_getElem? (i := 43) (by decide +kernel))
theorem T_X12_swapped {R : MR} (hT : Topo R) : R 138 36 = some 158 := hT 138 36 158 (List.mem_of_getElem? (i := 44) (by decide +kernel))
theorem T_X12_waiting {R : MR} (hT : Topo R) : R 138 37 = some 159 := hT 138 37 159 (List.mem_of_getElem? (i := 45) (by decide +kernel))
def isP (P : Nat) : Prop := P = 3 ∨ P = 39
def isN (N : Nat) : Prop := N = 85 ∨ N = 113
theorem isP_3 : isP 3 := Or.inl rfl
theorem isP_39 : isP 39 := Or.inr rfl
theorem isN_85 : isN 85 := Or.inl rfl
theorem isN_113 : isN 113 := Or.inr rfl
theorem isP_sh {P : Nat} (h : isP P) : sh P = (4, 19) := by rcases h with rfl | rfl <;> decide +kernel
theorem isP_lt {P : Nat} (h : isP P) : P < 161 := by rcases h with rfl | rfl <;> decide
theorem isN_sh {P : Nat} (h : isN P) : sh P = (3, 13) := by rcases h with rfl | rfl <;> decide +kernel
theorem isN_lt {P : Nat} (h : isN P) : P < 161 := by rcases h with rfl | rfl <;> decide
theorem T_X5_parts {R : MR} (hT : Topo R) {P : Nat} (h : isP P) : R P 12 = some (P + 1) := by
  rcases h with rfl | rfl
  · exact hT 3 12 4 (List.mem_of_getElem? (i := 46) (by decide +kernel))
  · exact hT 39 12 40 (List.mem_of_getElem? (i := 81) (by decide +kernel))
theorem shP_parts {P : Nat} (h : isP P) : sh (P + 1) = (23, 7) := by rcases h with rfl | rfl <;> decide +kernel
theorem ltP_parts {P : Nat} (h : isP P) : P + 1 < 161 := by rcases h with rfl | rfl <;> decide
theorem T_X5_ons {R : MR} (hT : Topo R) {P : Nat} (h : isP P) : R P 13 = some (P + 9) := by
  rcases h with rfl | rfl
  · exact hT 3 13 12 (List.mem_of_getElem? (i := 47) (by decide +kernel))
  · exact hT 39 13 48 (List.mem_of_getElem? (i := 82) (by decide +kernel))
theorem shP_ons {P : Nat} (h : isP P) : sh (P + 9) = (23, 14) := by rcases h with rfl | rfl <;> decide +kernel
theorem ltP_ons {P : Nat} (h : isP P) : P + 9 < 161 := by rcases h with rfl | rfl <;> decide
theorem T_X5_saws {R : MR} (hT : Topo R) {P : Nat} (h : isP P) : R P 14 = some (P + 24) := by
  rcases h with rfl | rfl
  · exact hT 3 14 27 (List.mem_of_getElem? (i := 48) (by decide +kernel))
  · exact hT 39 14 63 (List.mem_of_getElem? (i := 83) (by decide +kernel))
theorem shP_saws {P : Nat} (h : isP P) : sh (P + 24) = (23, 7) := by rcases h with rfl | rfl <;> decide +kernel
theorem ltP_saws {P : Nat} (h : isP P) : P + 24 < 161 := by rcases h with rfl | rfl <;> decide
theorem T_X5_lasts {R : MR} (hT : Topo R) {P : Nat} (h : isP P) : R P 15 = some (P + 32) := by
  rcases h with rfl | rfl
  · exact hT 3 15 35 (List.mem_of_getElem? (i := 49) (by decide +kernel))
  · exact hT 39 15 71 (List.mem_of_getElem? (i := 84) (by decide +kernel))
theorem shP_lasts {P : Nat} (h : isP P) : sh (P + 32) = (20, 5) := by rcases h with rfl | rfl <;> decide +kernel
theorem ltP_lasts {P : Nat} (h : isP P) : P + 32 < 161 := by rcases h with rfl | rfl <;> decide
theorem T_X5_ahead {R : MR} (hT : Topo R) {P : Nat} (h : isP P) : R P 16 = some (P + 33) := by
  rcases h with rfl | rfl
  · exact hT 3 16 36 (List.mem_of_getElem? (i := 50) (by decide +kernel))
  · exact hT 39 16 72 (List.mem_of_getElem? (i := 85) (by decide +kernel))
theorem shP_ahead {P : Nat} (h : isP P) : sh (P + 33) = (20, 5) := by rcases h with rfl | rfl <;> decide +kernel
theorem ltP_ahead {P : Nat} (h : isP P) : P + 33 < 161 := by rcases h with rfl | rfl <;> decide
theorem T_X5_onsOfPart {R : MR} (hT : Topo R) {P : Nat} (h : isP P) : R P 17 = some (P + 34) := by
  rcases h with rfl | rfl
  · exact hT 3 17 37 (List.mem_of_getElem? (i := 51) (by decide +kernel))
  · exact hT 39 17 73 (List.mem_of_getElem? (i := 86) (by decide +kernel))
theorem shP_onsOfPart {P : Nat} (h : isP P) : sh (P + 34) = (20, 7) := by rcases h with rfl | rfl <;> decide +kernel
theorem ltP_onsOfPart {P : Nat} (h : isP P) : P + 34 < 161 := by rcases h with rfl | rfl <;> decide
theorem T_X5_orderList {R : MR} (hT : Topo R) {P : Nat} (h : isP P) : R P 18 = some (P + 35) := by
  rcases h with rfl | rfl
  · exact hT 3 18 38 (List.mem_of_getElem? (i := 52) (by decide +kernel))
  · exact hT 39 18 74 (List.mem_of_getElem? (i := 87) (by decide +kernel))
theorem shP_orderList {P : Nat} (h : isP P) : sh (P + 35) = (20, 120) := by rcases h with rfl | rfl <;> decide +kernel
theorem ltP_orderList {P : Nat} (h : isP P) : P + 35 < 161 := by rcases h with rfl | rfl <;> decide
theorem T_X5_parts_row {R : MR} (hT : Topo R) {P : Nat} (h : isP P) {p : Int} (hp : 0 ≤ p ∧ p < 7) : R (P + 1) p = some (P + 2 + p.toNat) := by
  have hc : p = 0 ∨ p = 1 ∨ p = 2 ∨ p = 3 ∨ p = 4 ∨ p = 5 ∨ p = 6 := by omega
  rcases h with rfl | rfl
  · rcases hc with rfl | rfl | rfl | rfl | rfl | rfl | rfl
    · exact hT 4 0 5 (List.mem_of_getElem? (i := 53) (by decide +kernel))
    · exact hT 4 1 6 (List.mem_of_getElem? (i := 54) (by decide +kernel))
    · exact hT 4 2 7 (List.mem_of_getElem? (i := 55) (by decide +kernel))
    · exact hT 4 3 8 (List.mem_of_getElem? (i := 56) (by decide +kernel))
    · exact hT 4 4 9 (List.mem_of_getElem? (i := 57) (by decide +kernel))
    · exact hT 4 5 10 (List.mem_of_getElem? (i := 58) (by decide +kernel))
    · exact hT 4 6 11 (List.mem_of_getElem? (i := 59) (by decide +kernel))
  · rcases hc with rfl | rfl | rfl | rfl | rfl | rfl | rfl
    · exact hT 40 0 41 (List.mem_of_getElem? (i := 88) (by decide +kernel))
    · exact hT 40 1 42 (List.mem_of_getElem? (i := 89) (by decide +kernel))
    · exact hT 40 2 43 (List.mem_of_getElem? (i := 90) (by decide +kernel))
    · exact hT 40 3 44 (List.mem_of_getElem? (i := 91) (by decide +kernel))
    · exact hT 40 4 45 (List.mem_of_getElem? (i := 92) (by decide +kernel))
    · exact hT 40 5 46 (List.mem_of_getElem? (i := 93) (by decide +kernel))
    · exact hT 40 6 47 (List.mem_of_getElem? (i := 94) (by decide +kernel))
theorem shP_parts_row {P : Nat} (h : isP P) {p : Int} (hp : 0 ≤ p ∧ p < 7) : sh (P + 2 + p.toNat) = (20, 5) := by
  have hc : p = 0 ∨ p = 1 ∨ p = 2 ∨ p = 3 ∨ p = 4 ∨ p = 5 ∨ p = 6 := by omega
  rcases h with rfl | rfl <;> rcases hc with rfl | rfl | rfl | rfl | rfl | rfl | rfl <;> decide +kernel
theorem ltP_parts_row {P : Nat} (h : isP P) {p : Int} (hp : 0 ≤ p ∧ p < 7) : P + 2 + p.toNat < 161 := by
  rcases h with rfl | rfl <;> omega
theorem T_X5_ons_row {R : MR} (hT : Topo R) {P : Nat} (h : isP P) {p : Int} (hp : 0 ≤ p ∧ p < 14) : R (P + 9) p = some (P + 10 + p.toNat) := by
  have hc : p = 0 ∨ p = 1 ∨ p = 2 ∨ p = 3 ∨ p = 4 ∨ p = 5 ∨ p = 6 ∨ p = 7 ∨ p = 8 ∨ p = 9 ∨ p = 10 ∨ p = 11 ∨ p = 12 ∨ p = 13 := by omega
  rcases h with rfl | rfl
  · rcases hc with rfl | rfl | rfl | rfl | rfl | rfl | rfl | rfl | rfl | rfl | rfl | rfl | rfl | rfl
    · exact hT 12 0 13 (List.mem_of_getElem? (i := 60) (by decide +kernel))
    · exact hT 12 1 14 (List.mem_of_getElem? (i := 61) (by decide +kernel))
    · exact hT 12 2 15 (List.mem_of_getElem? (i := 62) (by decide +kernel))
    · exact hT 12 3 16 (List.mem_of_getElem? (i := 63) (by decide +kernel))
    · exact hT 12 4 17 (List.mem_of_getElem? (i := 64) (by decide +kernel))
    · exact hT 12 5 18 (List.mem_of_getElem? (i := 65) (by decide +kernel))
    · exact hT 12 6 19 (List.mem_of_getElem? (i := 66) (by decide +kernel))
    · exact hT 12 7 20 (List.mem_of_getElem? (i := 67) (by decide +kernel))
    · exact hT 12 8 21 (List.mem_of_getElem? (i := 68) (by decide +kernel))
    · exact hT 12 9 22 (List.mem_of_getElem? (i := 69) (by decide +kernel))
    · exact hT 12 10 23 (List.mem_of_getElem? (i := 70) (by decide +kernel))
    · exact hT 12 11 24 (List.mem_of_getElem? (i := 71) (by decide +kernel))
    · exact hT 12 12 25 (List.mem_of_getElem? (i := 72) (by decide +kernel))
    · exact hT 12 13 26 (List.mem_of_getElem? (i := 73) (by decide +kernel))
  · rcases hc with rfl | rfl | rfl | rfl | rfl | rfl | rfl | rfl | rfl | rfl | rfl | rfl | rfl | rfl
    · exact hT 48 0 49 (List.mem_of_getElem? (i := 95) (by decide +kernel))
    · exact hT 48 1 50 (List.mem_of_getElem? (i := 96) (by decide +kernel))
    · exact hT 48 2 51 (List.mem_of_getElem? (i := 97) (by decide +kernel))
    · exact hT 48 3 52 (List.mem_of_getElem? (i := 98) (by decide +kernel))
    · exact hT 48 4 53 (List.mem_of_getElem? (i := 99) (by decide +kernel))
    · exact hT 48 5 54 (List.mem_of_getElem? (i := 100) (by decide +kernel))
    · exact hT 48 6 55 (List.mem_of_getElem? (i := 101) (by decide +kernel))
    · exact hT 48 7 56 (List.mem_of_getElem? (i := 102) (by decide +kernel))
    · exact hT 48 8 57 (List.mem_of_getElem? (i := 103) (by decide +kernel))
    · exact hT 48 9 58 (List.mem_of_getElem? (i := 104) (by decide +kernel))
    · exact hT 48 10 59 (List.mem_of_getElem? (i := 105) (by decide +kernel))
    · exact hT 48 11 60 (List.mem_of_getElem? (i := 106) (by decide +kernel))
    · exact hT 48 12 61 (List.mem_of_getElem? (i := 107) (by decide +kernel))
    · exact hT 48 13 62 (List.mem_of_getElem? (i := 108) (by decide +kernel))
theorem shP_ons_row {P : Nat} (h : isP P) {p : Int} (hp : 0 ≤ p ∧ p < 14) : sh (P + 10 + p.toNat) = (20, 7) := by
  have hc : p = 0 ∨ p = 1 ∨ p = 2 ∨ p = 3 ∨ p = 4 ∨ p = 5 ∨ p = 6 ∨ p = 7 ∨ p = 8 ∨ p = 9 ∨ p = 10 ∨ p = 11 ∨ p = 12 ∨ p = 13 := by omega
  rcases h with rfl | rfl <;> rcases hc with rfl | rfl | rfl | rfl | rfl | rfl | rfl | rfl | rfl | rfl | rfl | rfl | rfl | rfl <;> decide +kernel
theorem ltP_ons_row {P : Nat} (h : isP P) {p : Int} (hp : 0 ≤ p ∧ p < 14) : P + 10 + p.toNat < 161 := by
  rcases h with rfl | rfl <;> omega
theorem T_X5_saws_row {R : MR} (hT : Topo R) {P : Nat} (h : isP P) {p : Int} (hp : 0 ≤ p ∧ p < 7) : R (P + 24) p = some (P + 25 + p.toNat) := by
  have hc : p = 0 ∨ p = 1 ∨ p = 2 ∨ p = 3 ∨ p = 4 ∨ p = 5 ∨ p = 6 := by omega
  rcases h with rfl | rfl
  · rcases hc with rfl | rfl | rfl | rfl | rfl | rfl | rfl
    · exact hT 27 0 28 (List.mem_of_getElem? (i := 74) (by decide +kernel))
    · exact hT 27 1 29 (List.mem_of_getElem? (i := 75) (by decide +kernel))
    · exact hT 27 2 30 (List.mem_of_getElem? (i := 76) (by decide +kernel))
    · exact hT 27 3 31 (List.mem_of_getElem? (i := 77) (by decide +kernel))
    · exact hT 27 4 32 (List.mem_of_getElem? (i := 78) (by decide +kernel))
    · exact hT 27 5 33 (List.mem_of_getElem? (i := 79) (by decide +kernel))
    · exact hT 27 6 34 (List.mem_of_getElem? (i := 80) (by decide +kernel))
  · rcases hc with rfl | rfl | rfl | rfl | rfl | rfl | rfl
    · exact hT 63 0 64 (List.mem_of_getElem? (i := 109) (by decide +kernel))
    · exact hT 63 1 65 (List.mem_of_getElem? (i := 110) (by decide +kernel))
    · exact hT 63 2 66 (List.mem_of_getElem? (i := 111) (by decide +kernel))
    · exact hT 63 3 67 (List.mem_of_getElem? (i := 112) (by decide +kernel))
    · exact hT 63 4 68 (List.mem_of_getElem? (i := 113) (by decide +kernel))
    · exact hT 63 5 69 (List.mem_of_getElem? (i := 114) (by decide +kernel))
    · exact hT 63 6 70 (List.mem_of_getElem? (i := 115) (by decide +kernel))
theorem shP_saws_row {P : Nat} (h : isP P) {p : Int} (hp : 0 ≤ p ∧ p < 7) : sh (P + 25 + p.toNat) = (20, 3) := by
  have hc : p = 0 ∨ p = 1 ∨ p = 2 ∨ p = 3 ∨ p = 4 ∨ p = 5 ∨ p = 6 := by omega
  rcases h with rfl | rfl <;> rcases hc with rfl | rfl | rfl | rfl | rfl | rfl | rfl <;> decide +kernel
theorem ltP_saws_row {P : Nat} (h : isP P) {p : Int} (hp : 0 ≤ p ∧ p < 7) : P + 25 + p.toNat < 161 := by
  rcases h with rfl | rfl <;> omega
theorem T_X4_known {R : MR} (hT : Topo R) {N : Nat} (h : isN N) : R N 0 = some (N + 1) := by
  rcases h with rfl | rfl
  · exact hT 85 0 86 (List.mem_of_getElem? (i := 116) (by decide +kernel))
  · exact hT 113 0 114 (List.mem_of_getElem? (i := 137) (by decide +kernel))
theorem shN_known {N : Nat} (h : isN N) : sh (N + 1) = (20, 128) := by rcases h with rfl | rfl <;> decide +kernel
theorem ltN_known {N : Nat} (h : isN N) : N + 1 < 161 := by rcases h with rfl | rfl <;> decide
theorem T_X4_needs {R : MR} (hT : Topo R) {N : Nat} (h : isN N) : R N 2 = some (N + 2) := by
  rcases h with rfl | rfl
  · exact hT 85 2 87 (List.mem_of_getElem? (i := 117) (by decide +kernel))
  · exact hT 113 2 115 (List.mem_of_getElem? (i := 138) (by decide +kernel))
theorem shN_needs {N : Nat} (h : isN N) : sh (N + 2) = (23, 14) := by rcases h with rfl | rfl <;> decide +kernel
theorem ltN_needs {N : Nat} (h : isN N) : N + 2 < 161 := by rcases h with rfl | rfl <;> decide
theorem T_X4_meetings {R : MR} (hT : Topo R) {N : Nat} (h : isN N) : R N 3 = some (N + 17) := by
  rcases h with rfl | rfl
  · exact hT 85 3 102 (List.mem_of_getElem? (i := 118) (by decide +kernel))
  · exact hT 113 3 130 (List.mem_of_getElem? (i := 139) (by decide +kernel))
theorem shN_meetings {N : Nat} (h : isN N) : sh (N + 17) = (20, 14) := by rcases h with rfl | rfl <;> decide +kernel
theorem ltN_meetings {N : Nat} (h : isN N) : N + 17 < 161 := by rcases h with rfl | rfl <;> decide
theorem T_X4_sceneBegins {R : MR} (hT : Topo R) {N : Nat} (h : isN N) : R N 4 = some (N + 18) := by
  rcases h with rfl | rfl
  · exact hT 85 4 103 (List.mem_of_getElem? (i := 119) (by decide +kernel))
  · exact hT 113 4 131 (List.mem_of_getElem? (i := 140) (by decide +kernel))
theorem shN_sceneBegins {N : Nat} (h : isN N) : sh (N + 18) = (20, 5) := by rcases h with rfl | rfl <;> decide +kernel
theorem ltN_sceneBegins {N : Nat} (h : isN N) : N + 18 < 161 := by rcases h with rfl | rfl <;> decide
theorem T_X4_onBegins {R : MR} (hT : Topo R) {N : Nat} (h : isN N) : R N 5 = some (N + 19) := by
  rcases h with rfl | rfl
  · exact hT 85 5 104 (List.mem_of_getElem? (i := 120) (by decide +kernel))
  · exact hT 113 5 132 (List.mem_of_getElem? (i := 141) (by decide +kernel))
theorem shN_onBegins {N : Nat} (h : isN N) : sh (N + 19) = (20, 14) := by rcases h with rfl | rfl <;> decide +kernel
theorem ltN_onBegins {N : Nat} (h : isN N) : N + 19 < 161 := by rcases h with rfl | rfl <;> decide
theorem T_X4_onEnds {R : MR} (hT : Topo R) {N : Nat} (h : isN N) : R N 6 = some (N + 20) := by
  rcases h with rfl | rfl
  · exact hT 85 6 105 (List.mem_of_getElem? (i := 121) (by decide +kernel))
  · exact hT 113 6 133 (List.mem_of_getElem? (i := 142) (by decide +kernel))
theorem shN_onEnds {N : Nat} (h : isN N) : sh (N + 20) = (20, 14) := by rcases h with rfl | rfl <;> decide +kernel
theorem ltN_onEnds {N : Nat} (h : isN N) : N + 20 < 161 := by rcases h with rfl | rfl <;> decide
theorem T_X4_row {R : MR} (hT : Topo R) {N : Nat} (h : isN N) : R N 7 = some (N + 21) := by
  rcases h with rfl | rfl
  · exact hT 85 7 106 (List.mem_of_getElem? (i := 122) (by decide +kernel))
  · exact hT 113 7 134 (List.mem_of_getElem? (i := 143) (by decide +kernel))
theorem shN_row {N : Nat} (h : isN N) : sh (N + 21) = (20, 14) := by rcases h with rfl | rfl <;> decide +kernel
theorem ltN_row {N : Nat} (h : isN N) : N + 21 < 161 := by rcases h with rfl | rfl <;> decide
theorem T_X4_needs_row {R : MR} (hT : Topo R) {N : Nat} (h : isN N) {p : Int} (hp : 0 ≤ p ∧ p < 14) : R (N + 2) p = some (N + 3 + p.toNat) := by
  have hc : p = 0 ∨ p = 1 ∨ p = 2 ∨ p = 3 ∨ p = 4 ∨ p = 5 ∨ p = 6 ∨ p = 7 ∨ p = 8 ∨ p = 9 ∨ p = 10 ∨ p = 11 ∨ p = 12 ∨ p = 13 := by omega
  rcases h with rfl | rfl
  · rcases hc with rfl | rfl | rfl | rfl | rfl | rfl | rfl | rfl | rfl | rfl | rfl | rfl | rfl | rfl
    · exact hT 87 0 88 (List.mem_of_getElem? (i := 123) (by decide +kernel))
    · exact hT 87 1 89 (List.mem_of_getElem? (i := 124) (by decide +kernel))
    · exact hT 87 2 90 (List.mem_of_getElem? (i := 125) (by decide +kernel))
    · exact hT 87 3 91 (List.mem_of_getElem? (i := 126) (by decide +kernel))
    · exact hT 87 4 92 (List.mem_of_getElem? (i := 127) (by decide +kernel))
    · exact hT 87 5 93 (List.mem_of_getElem? (i := 128) (by decide +kernel))
    · exact hT 87 6 94 (List.mem_of_getElem? (i := 129) (by decide +kernel))
    · exact hT 87 7 95 (List.mem_of_getElem? (i := 130) (by decide +kernel))
    · exact hT 87 8 96 (List.mem_of_getElem? (i := 131) (by decide +kernel))
    · exact hT 87 9 97 (List.mem_of_getElem? (i := 132) (by decide +kernel))
    · exact hT 87 10 98 (List.mem_of_getElem? (i := 133) (by decide +kernel))
    · exact hT 87 11 99 (List.mem_of_getElem? (i := 134) (by decide +kernel))
    · exact hT 87 12 100 (List.mem_of_getElem? (i := 135) (by decide +kernel))
    · exact hT 87 13 101 (List.mem_of_getElem? (i := 136) (by decide +kernel))
  · rcases hc with rfl | rfl | rfl | rfl | rfl | rfl | rfl | rfl | rfl | rfl | rfl | rfl | rfl | rfl
    · exact hT 115 0 116 (List.mem_of_getElem? (i := 144) (by decide +kernel))
    · exact hT 115 1 117 (List.mem_of_getElem? (i := 145) (by decide +kernel))
    · exact hT 115 2 118 (List.mem_of_getElem? (i := 146) (by decide +kernel))
    · exact hT 115 3 119 (List.mem_of_getElem? (i := 147) (by decide +kernel))
    · exact hT 115 4 120 (List.mem_of_getElem? (i := 148) (by decide +kernel))
    · exact hT 115 5 121 (List.mem_of_getElem? (i := 149) (by decide +kernel))
    · exact hT 115 6 122 (List.mem_of_getElem? (i := 150) (by decide +kernel))
    · exact hT 115 7 123 (List.mem_of_getElem? (i := 151) (by decide +kernel))
    · exact hT 115 8 124 (List.mem_of_getElem? (i := 152) (by decide +kernel))
    · exact hT 115 9 125 (List.mem_of_getElem? (i := 153) (by decide +kernel))
    · exact hT 115 10 126 (List.mem_of_getElem? (i := 154) (by decide +kernel))
    · exact hT 115 11 127 (List.mem_of_getElem? (i := 155) (by decide +kernel))
    · exact hT 115 12 128 (List.mem_of_getElem? (i := 156) (by decide +kernel))
    · exact hT 115 13 129 (List.mem_of_getElem? (i := 157) (by decide +kernel))
theorem shN_needs_row {N : Nat} (h : isN N) {p : Int} (hp : 0 ≤ p ∧ p < 14) : sh (N + 3 + p.toNat) = (20, 14) := by
  have hc : p = 0 ∨ p = 1 ∨ p = 2 ∨ p = 3 ∨ p = 4 ∨ p = 5 ∨ p = 6 ∨ p = 7 ∨ p = 8 ∨ p = 9 ∨ p = 10 ∨ p = 11 ∨ p = 12 ∨ p = 13 := by omega
  rcases h with rfl | rfl <;> rcases hc with rfl | rfl | rfl | rfl | rfl | rfl | rfl | rfl | rfl | rfl | rfl | rfl | rfl | rfl <;> decide +kernel
theorem ltN_needs_row {N : Nat} (h : isN N) {p : Int} (hp : 0 ≤ p ∧ p < 14) : N + 3 + p.toNat < 161 := by
  rcases h with rfl | rfl <;> omega
/-- ends -/
theorem ret_t {Q : Option AV → MI → ML → MR → Prop} {b : Prop} {I : MI} {L : ML} {R : MR} (hb : b) (h : Q (some (vi (bI b))) I L R) : Q (some (vi 1)) I L R := by
  rw [bI_t hb] at h
  exact h
theorem ret_f {Q : Option AV → MI → ML → MR → Prop} {b : Prop} {I : MI} {L : ML} {R : MR} (hb : ¬ b) (h : Q (some (vi (bI b))) I L R) : Q (some (vi 0)) I L R := by
  rw [bI_f hb] at h
  exact h
/-- bit k of a set -/
abbrev hasI (s k : Int) : Prop := iand (ishr s k) 1 = 1
