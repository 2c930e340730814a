/-! THE WHOLE MEMORY once both objects are made -/
def SALL : xTS := [(9, 13), (8, 9), (13, 1000), (7, 3), (4, 3), (11, 1000), (11, 24), (2, 12), (12, 6), (12, 6), (11, 8), (11, 8), (11, 6), (11, 6), (11, 6), (11, 192), (2, 12), (12, 6), (12, 6), (11, 8), (11, 8), (11, 6), (11, 6), (11, 6), (11, 192), (1, 4), (11, 40), (11, 40), (11, 40), (1, 4), (11, 40), (11, 40), (11, 40), (3, 7), (11, 8), (11, 36), (11, 6), (3, 7), (11, 8), (11, 36), (11, 6), (6, 3), (15, 16), (3, 7), (11, 8), (11, 36), (11, 6), (3, 7), (11, 8), (11, 36), (11, 6), (3, 7), (11, 8), (11, 36), (11, 6), (3, 7), (11, 8), (11, 36), (11, 6), (3, 7), (11, 8), (11, 36), (11, 6), (3, 7), (11, 8), (11, 36), (11, 6), (3, 7), (11, 8), (11, 36), (11, 6), (3, 7), (11, 8), (11, 36), (11, 6), (3, 7), (11, 8), (11, 36), (11, 6), (3, 7), (11, 8), (11, 36), (11, 6), (3, 7), (11, 8), (11, 36), (11, 6), (3, 7), (11, 8), (11, 36), (11, 6), (3, 7), (11, 8), (11, 36), (11, 6), (3, 7), (11, 8), (11, 36), (11, 6), (3, 7), (11, 8), (11, 36), (11, 6), (3, 7), (11, 8), (11, 36), (11, 6), (16, 4), (11, 36), (11, 108), (0, 1), (5, 3), (3, 7), (11, 8), (11, 36), (11, 6), (11, 36), (5, 3), (3, 7), (11, 8), (11, 36), (11, 6), (11, 36), (5, 3), (3, 7), (11, 8), (11, 36), (11, 6), (11, 36), (5, 3), (3, 7), (11, 8), (11, 36), (11, 6), (11, 36), (10, 30), (11, 1000), (11, 1002), (11, 1002), (12, 1002), (12, 26), (11, 120), (11, 2200), (11, 2200), (12, 12), (12, 12), (11, 12), (11, 12), (11, 330), (11, 4), (11, 1100), (11, 2254), (14, 4), (11, 6), (11, 108), (12, 1)]
def RTAB : List (Nat × Nat × Nat) := [(0, 0, 1), (1, 0, 2), (0, 1, 3), (3, 0, 4), (4, 0, 5), (4, 2, 6), (7, 4, 8), (7, 5, 9), (7, 6, 10), (7, 7, 11), (7, 8, 12), (7, 9, 13), (7, 10, 14), (7, 11, 15), (16, 4, 17), (16, 5, 18), (16, 6, 19), (16, 7, 20), (16, 8, 21), (16, 9, 22), (16, 10, 23), (16, 11, 24), (25, 1, 26), (25, 2, 27), (25, 3, 28), (29, 1, 30), (29, 2, 31), (29, 3, 32), (33, 4, 34), (33, 5, 35), (33, 6, 36), (0, 6, 33), (37, 4, 38), (37, 5, 39), (37, 6, 40), (0, 7, 37), (0, 8, 41), (41, 0, 42), (43, 4, 44), (43, 5, 45), (43, 6, 46), (42, 0, 43), (47, 4, 48), (47, 5, 49), (47, 6, 50), (42, 1, 47), (51, 4, 52), (51, 5, 53), (51, 6, 54), (42, 2, 51), (55, 4, 56), (55, 5, 57), (55, 6, 58), (42, 3, 55), (59, 4, 60), (59, 5, 61), (59, 6, 62), (42, 4, 59), (63, 4, 64), (63, 5, 65), (63, 6, 66), (42, 5, 63), (67, 4, 68), (67, 5, 69), (67, 6, 70), (42, 6, 67), (71, 4, 72), (71, 5, 73), (71, 6, 74), (42, 7, 71), (75, 4, 76), (75, 5, 77), (75, 6, 78), (42, 8, 75), (79, 4, 80), (79, 5, 81), (79, 6, 82), (42, 9, 79), (83, 4, 84), (83, 5, 85), (83, 6, 86), (42, 10, 83), (87, 4, 88), (87, 5, 89), (87, 6, 90), (42, 11, 87), (91, 4, 92), (91, 5, 93), (91, 6, 94), (42, 12, 91), (95, 4, 96), (95, 5, 97), (95, 6, 98), (42, 13, 95), (99, 4, 100), (99, 5, 101), (99, 6, 102), (42, 14, 99), (103, 4, 104), (103, 5, 105), (103, 6, 106), (42, 15, 103), (0, 9, 107), (0, 10, 108), (0, 11, 109), (0, 12, 110), (107, 0, 111), (112, 4, 113), (112, 5, 114), (112, 6, 115), (111, 1, 112), (111, 2, 116), (107, 1, 117), (118, 4, 119), (118, 5, 120), (118, 6, 121), (117, 1, 118), (117, 2, 122), (107, 2, 123), (124, 4, 125), (124, 5, 126), (124, 6, 127), (123, 1, 124), (123, 2, 128), (107, 3, 129), (130, 4, 131), (130, 5, 132), (130, 6, 133), (129, 1, 130), (129, 2, 134), (135, 1, 136), (135, 4, 137), (135, 5, 138), (135, 6, 139), (135, 9, 140), (135, 10, 141), (135, 11, 142), (135, 12, 143), (135, 14, 144), (135, 15, 145), (135, 16, 146), (135, 17, 147), (135, 21, 148), (135, 22, 149), (135, 23, 150), (135, 24, 151), (135, 26, 152), (135, 27, 153), (135, 28, 154)]
def fixd (S : xTS) (R : xTR) : Prop := S = SALL ∧ ∀ q ∈ RTAB, R q.1 q.2.1 = some q.2.2
theorem fixd.s {S : xTS} {R : xTR} (h : fixd S R) {a : Nat} {v : Nat × Nat} (e : SALL[a]? = some v) : S[a]? = some v := by rw [h.1]; exact e
theorem fixd.r {S : xTS} {R : xTR} (h : fixd S R) {a k v : Nat} (e : (a, k, v) ∈ RTAB) : R a k = some v := h.2 _ e
def halls : List Nat := 33 :: 37 :: ((List.range 16).map (fun j => 43 + 4 * j) ++ (List.range 4).map (fun m => 112 + 6 * m))
theorem halls_ok : ∀ h ∈ halls, (SALL[h]? = some (3, 7) ∧ SALL[h + 1]? = some (11, 8) ∧ SALL[h + 2]? = some (11, 36) ∧ SALL[h + 3]? = some (11, 6)) ∧ ((h, 4, h + 1) ∈ RTAB ∧ (h, 5, h + 2) ∈ RTAB ∧ (h, 6, h + 3) ∈ RTAB) := by decide +kernel
theorem fixd.hall {S : xTS} {R : xTR} (h : fixd S R) {q : Nat} (e : q ∈ halls) : isHall S R q := by
  obtain ⟨⟨a0, a1, a2, a3⟩, b4, b5, b6⟩ := halls_ok q e
  exact ⟨h.s a0, h.s a1, h.s a2, h.s a3, h.r b4, h.r b5, h.r b6⟩
theorem films_ok : ∀ f ∈ [7, 16], (SALL[f]? = some (2, 12) ∧ SALL[f + 1]? = some (12, 6) ∧ SALL[f + 2]? = some (12, 6) ∧ SALL[f + 3]? = some (11, 8) ∧ SALL[f + 4]? = some (11, 8) ∧ SALL[f + 5]? = some (11, 6) ∧ SALL[f + 6]? = some (11, 6) ∧ SALL[f + 7]? = some (11, 6) ∧ SALL[f + 8]? = some (11, 192)) ∧
    ((f, 4, f + 1) ∈ RTAB ∧ (f, 5, f + 2) ∈ RTAB ∧ (f, 6, f + 3) ∈ RTAB ∧ (f, 7, f + 4) ∈ RTAB ∧ (f, 8, f + 5) ∈ RTAB ∧ (f, 9, f + 6) ∈ RTAB ∧ (f, 10, f + 7) ∈ RTAB ∧ (f, 11, f + 8) ∈ RTAB) := by
  intro f hf
  rcases List.mem_cons.mp hf with rfl | hf
  · exact ⟨⟨by decide +kernel, by decide +kernel, by decide +kernel, by decide +kernel, by decide +kernel, by decide +kernel, by decide +kernel, by decide +kernel, by decide +kernel⟩, by decide +kernel, by decide +kernel, by decide +kernel, by decide +kernel, by decide +kernel, by decide +kernel, by decide +kernel, by decide +kernel⟩
  · rcases List.mem_cons.mp hf with rfl | hf
    · exact ⟨⟨by decide +kernel, by decide +kernel, by decide +kernel, by decide +kernel, by decide +kernel, by decide +kernel, by decide +kernel, by decide +kernel, by decide +kernel⟩, by decide +kernel, by decide +kernel, by decide +kernel, by decide +kernel, by decide +kernel, by decide +kernel, by decide +kernel, by decide +kernel⟩
    · cases hf
theorem fixd.film {S : xTS} {R : xTR} (h : fixd S R) {f : Nat} (e : f ∈ [7, 16]) : isFilm S R f := by
  obtain ⟨⟨a0, a1, a2, a3, a4, a5, a6, a7, a8⟩, b4, b5, b6, b7, b8, b9, b10, b11⟩ := films_ok f e
  exact ⟨h.s a0, h.s a1, h.s a2, h.s a3, h.s a4, h.s a5, h.s a6, h.s a7, h.s a8, h.r b4, h.r b5, h.r b6, h.r b7, h.r b8, h.r b9, h.r b10, h.r b11⟩
theorem hf_apart : ∀ h ∈ halls, ∀ f ∈ [7, 16], ∀ i, i < 9 → ∀ j, j < 4 → f + i ≠ h + j := by decide +kernel
theorem hh_apart : ∀ h ∈ halls, ∀ g ∈ halls, h ≠ g → ∀ i, i < 4 → ∀ j, j < 4 → h + i ≠ g + j := by decide +kernel
theorem fixd.model {S : xTS} {R : xTR} (h : fixd S R) : isModel S R := ⟨h.s (by decide +kernel), h.s (by decide +kernel), h.s (by decide +kernel), h.s (by decide +kernel), h.s (by decide +kernel), h.s (by decide +kernel), h.s (by decide +kernel), h.s (by decide +kernel), h.s (by decide +kernel), h.s (by decide +kernel), h.s (by decide +kernel), h.s (by decide +kernel), h.s (by decide +kernel), h.s (by decide +kernel), h.s (by decide +kernel), h.s (by decide +kernel), h.s (by decide +kernel), h.s (by decide +kernel), h.s (by decide +kernel), h.s (by decide +kernel), h.r (by decide +kernel), h.r (by decide +kernel), h.r (by decide +kernel), h.r (by decide +kernel), h.r (by decide +kernel), h.r (by decide +kernel), h.r (by decide +kernel), h.r (by decide +kernel), h.r (by decide +kernel), h.r (by decide +kernel), h.r (by decide +kernel), h.r (by decide +kernel), h.r (by decide +kernel), h.r (by decide +kernel), h.r (by decide +kernel), h.r (by decide +kernel), h.r (by decide +kernel), h.r (by decide +kernel), h.r (by decide +kernel)⟩
theorem fixd.k0 {S : xTS} {R : xTR} (h : fixd S R) : S[0]? = some (9, 13) := h.s (by decide +kernel)
theorem fixd.tape {S : xTS} {R : xTR} (h : fixd S R) : R 0 0 = some 1 := h.r (by decide +kernel)
theorem fixd.reader {S : xTS} {R : xTR} (h : fixd S R) : R 0 1 = some 3 := h.r (by decide +kernel)
theorem fixd.now {S : xTS} {R : xTR} (h : fixd S R) : R 0 6 = some 33 := h.r (by decide +kernel)
theorem fixd.trial {S : xTS} {R : xTR} (h : fixd S R) : R 0 7 = some 37 := h.r (by decide +kernel)
theorem fixd.past {S : xTS} {R : xTR} (h : fixd S R) : R 0 8 = some 41 := h.r (by decide +kernel)
theorem fixd.marks {S : xTS} {R : xTR} (h : fixd S R) : R 0 9 = some 107 := h.r (by decide +kernel)
theorem fixd.told {S : xTS} {R : xTR} (h : fixd S R) : R 0 10 = some 108 := h.r (by decide +kernel)
theorem fixd.tally {S : xTS} {R : xTR} (h : fixd S R) : R 0 11 = some 109 := h.r (by decide +kernel)
theorem fixd.draw {S : xTS} {R : xTR} (h : fixd S R) : R 0 12 = some 110 := h.r (by decide +kernel)
theorem fixd.sTape {S : xTS} {R : xTR} (h : fixd S R) : S[1]? = some (8, 9) := h.s (by decide +kernel)
theorem fixd.sSigns {S : xTS} {R : xTR} (h : fixd S R) : S[2]? = some (13, 1000) := h.s (by decide +kernel)
theorem fixd.rSigns {S : xTS} {R : xTR} (h : fixd S R) : R 1 0 = some 2 := h.r (by decide +kernel)
theorem fixd.sReader {S : xTS} {R : xTR} (h : fixd S R) : S[3]? = some (7, 3) := h.s (by decide +kernel)
theorem fixd.rLaw {S : xTS} {R : xTR} (h : fixd S R) : R 3 0 = some 4 := h.r (by decide +kernel)
theorem fixd.sLaw {S : xTS} {R : xTR} (h : fixd S R) : S[4]? = some (4, 3) := h.s (by decide +kernel)
theorem fixd.rCode {S : xTS} {R : xTR} (h : fixd S R) : R 4 0 = some 5 := h.r (by decide +kernel)
theorem fixd.rVals {S : xTS} {R : xTR} (h : fixd S R) : R 4 2 = some 6 := h.r (by decide +kernel)
theorem fixd.sCode {S : xTS} {R : xTR} (h : fixd S R) : S[5]? = some (11, 1000) := h.s (by decide +kernel)
theorem fixd.sVals {S : xTS} {R : xTR} (h : fixd S R) : S[6]? = some (11, 24) := h.s (by decide +kernel)
theorem fixd.sPast {S : xTS} {R : xTR} (h : fixd S R) : S[41]? = some (6, 3) := h.s (by decide +kernel)
theorem fixd.rHalls {S : xTS} {R : xTR} (h : fixd S R) : R 41 0 = some 42 := h.r (by decide +kernel)
theorem fixd.sHalls {S : xTS} {R : xTR} (h : fixd S R) : S[42]? = some (15, 16) := h.s (by decide +kernel)
theorem fixd.sMarks {S : xTS} {R : xTR} (h : fixd S R) : S[107]? = some (16, 4) := h.s (by decide +kernel)
theorem fixd.sTold {S : xTS} {R : xTR} (h : fixd S R) : S[108]? = some (11, 36) := h.s (by decide +kernel)
theorem fixd.sTally {S : xTS} {R : xTR} (h : fixd S R) : S[109]? = some (11, 108) := h.s (by decide +kernel)
theorem fixd.sDraw {S : xTS} {R : xTR} (h : fixd S R) : S[110]? = some (0, 1) := h.s (by decide +kernel)
theorem fixd.eve {S : xTS} {R : xTR} (h : fixd S R) {e : Nat} (q : e = 25 ∨ e = 29) : S[e]? = some (1, 4) ∧ S[e + 1]? = some (11, 40) ∧ S[e + 2]? = some (11, 40) ∧ S[e + 3]? = some (11, 40) ∧ R e 1 = some (e + 1) ∧ R e 2 = some (e + 2) ∧ R e 3 = some (e + 3) := by
  rcases q with rfl | rfl <;> exact ⟨h.s (by decide +kernel), h.s (by decide +kernel), h.s (by decide +kernel), h.s (by decide +kernel), h.r (by decide +kernel), h.r (by decide +kernel), h.r (by decide +kernel)⟩
theorem fixd.pastH {S : xTS} {R : xTR} (h : fixd S R) {j : Nat} (hj : j < 16) : R 42 j = some (43 + 4 * j) := by
  have : ∀ j, j < 16 → (42, j, 43 + 4 * j) ∈ RTAB := by decide +kernel
  exact h.r (this j hj)
theorem fixd.mark {S : xTS} {R : xTR} (h : fixd S R) {m : Nat} (hm : m < 4) : R 107 m = some (111 + 6 * m) ∧ S[111 + 6 * m]? = some (5, 3) ∧ R (111 + 6 * m) 1 = some (112 + 6 * m) ∧ R (111 + 6 * m) 2 = some (116 + 6 * m) ∧ S[116 + 6 * m]? = some (11, 36) := by
  have : ∀ m, m < 4 → ((107, m, 111 + 6 * m) ∈ RTAB ∧ SALL[111 + 6 * m]? = some (5, 3) ∧ (111 + 6 * m, 1, 112 + 6 * m) ∈ RTAB ∧ (111 + 6 * m, 2, 116 + 6 * m) ∈ RTAB ∧ SALL[116 + 6 * m]? = some (11, 36)) := fun m hm => by
    rcases (show m = 0 ∨ m = 1 ∨ m = 2 ∨ m = 3 by omega) with rfl | rfl | rfl | rfl <;> exact ⟨by decide +kernel, by decide +kernel, by decide +kernel, by decide +kernel, by decide +kernel⟩
  obtain ⟨a, b, c, d, e⟩ := this m hm
  exact ⟨h.r a, h.s b, h.r c, h.r d, h.s e⟩
theorem halls_past {j : Nat} (hj : j < 16) : 43 + 4 * j ∈ halls := by
  have : ∀ j, j < 16 → 43 + 4 * j ∈ halls := by decide +kernel
  exact this j hj
theorem halls_mark {m : Nat} (hm : m < 4) : 112 + 6 * m ∈ halls := by
  have : ∀ m, m < 4 → 112 + 6 * m ∈ halls := by decide +kernel
  exact this m hm
