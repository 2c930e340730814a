/-! WHAT A SHOWING DOES, and what the class makes of claims -/
def xlow (x y : xRow) : Prop := ∀ i, i < 20 → y i = x i
theorem xlow.cut {x y : xRow} (h : xlow x y) : y 3 = x 3 := h 3 (by omega)
theorem sThing_low {fl x y : xRow} {k : Nat} (h : xlow x y) : sThing fl y k = sThing fl x k := by unfold sThing; rw [h.cut]
theorem sLast_low {x y : xRow} {t : Int32} (h : xlow x y) : ∀ (e : Nat) (is : Int32), e ≤ 8 → sLast y t e is = sLast x t e is
  | 0, _, _ => rfl
  | e + 1, is, he => by
    unfold sLast
    rw [h (4 + e) (by omega), h (12 + e) (by omega), sLast_low h e is (by omega)]
theorem sIs_low {fl x y : xRow} {k : Nat} (h : xlow x y) (hk : k ≤ 8) : sIs fl y k = sIs fl x k := by unfold sIs; rw [sThing_low h, sLast_low h k _ hk]
theorem sReads_low {fl x y : xRow} {w k : Nat} (h : xlow x y) : sReads fl y w k ↔ sReads fl x w k := by unfold sReads; rw [h.cut]
theorem sTakes_low {fl x y : xRow} {w k : Nat} (h : xlow x y) (hk : k < 8) : sTakes fl y w k ↔ sTakes fl x w k := by
  unfold sTakes; rw [sReads_low h, h.cut, sThing_low h, sIs_low h (by omega), h (4 + k) (by omega), h (12 + k) (by omega)]
theorem sT_low {fl x y : xRow} {w k : Nat} (h : xlow x y) (hk : k < 8) : sT fl y w k = sT fl x w k := by
  unfold sT
  rw [sThing_low h, h (4 + k) (by omega)]
  by_cases q : sReads fl x w k
  · rw [if_pos q, if_pos ((sReads_low h).mpr q)]
  · rw [if_neg q, if_neg (fun z => q ((sReads_low h).mp z))]
theorem sB_low {fl x y : xRow} {w k : Nat} (h : xlow x y) (hk : k < 8) : sB fl y w k = sB fl x w k := by
  unfold sB
  rw [sIs_low h (by omega), h (12 + k) (by omega)]
  by_cases q : sReads fl x w k
  · rw [if_pos q, if_pos ((sReads_low h).mpr q)]
  · rw [if_neg q, if_neg (fun z => q ((sReads_low h).mp z))]
theorem upd_ne {f : xRow} {i j : Nat} {v : Int32} (h : j ≠ i) : upd f i v j = f j := by simp [upd, h]
theorem upd_eq {f : xRow} {i : Nat} {v : Int32} : upd f i v i = v := by simp [upd]
theorem sOne_low {fl : xRow} {dq : xDq} {k cl w : Nat} {x : xRow} : xlow x (sOne fl dq k cl w x) := by
  intro i hi
  unfold sOne
  split
  · rw [upd_ne (by omega), upd_ne (by omega)]
  · rw [upd_ne (by omega)]
theorem xlow.trans {x y z : xRow} (h : xlow x y) (g : xlow y z) : xlow x z := fun i hi => (g i hi).trans (h i hi)
theorem sAll_low {fl : xRow} {dq : xDq} {k cl : Nat} {x : xRow} : ∀ w, xlow x (sAll fl dq k cl x w).1
  | 0 => fun _ _ => rfl
  | w + 1 => by
    unfold sAll
    split
    · exact (sAll_low w).trans sOne_low
    · exact sAll_low w
/-- what a watcher takes, as the class has it -/
theorem taken_spec {fl x : xRow} {T N V k w : Nat} {hd rd : Int32} (wl : WFl fl T N V) (wx : WFx x T N V) (hk : k < N) (hw : w < V)
    (hhd : (xbit (x 3) k ∧ hd = -1) ∨ (¬ xbit (x 3) k ∧ ∃ t b, t < T ∧ b < 2 ∧ sThing fl x k = nI t ∧ sIs fl x k = nI b ∧ hd = nI (2 * t + b))) {tr br : Nat} (htr : tr < T) (hbr : br < 2) (e1 : x (4 + k) = nI tr) (e2 : x (12 + k) = nI br) (hrd : rd = nI (2 * tr + br)) :
    (sTakes fl x w k → ∃ t b, t < T ∧ b < 2 ∧ sT fl x w k = nI t ∧ sB fl x w k = nI b ∧ cTaken (fl (37 + 3 * w)) (fl (38 + 3 * w)) hd rd = nI (2 * t + b)) ∧ (¬ sTakes fl x w k → cTaken (fl (37 + 3 * w)) (fl (38 + 3 * w)) hd rd = -1) := by
  have hT6 := wl.2.1
  obtain ⟨kd, tw, wk, hkd, htw, -, f1, f2, -⟩ := wl.2.2.2.2.2.2.2.2.2 w hw
  have hm : ∀ n, n < 100 → ¬ nI n = -1 := fun n hn => nI_ne_m1 (by omega)
  have h5 : nI tw < 5 ↔ ¬ 4 < nI tw := by
    rw [show (5 : Int32) = nI 5 from rfl, show (4 : Int32) = nI 4 from rfl, nI_lt_iff (by omega) (by decide), nI_lt_iff (by decide) (by omega)]
    omega
  have hrd1 : ¬ rd = -1 := by rw [hrd]; exact hm _ (by omega)
  unfold sTakes sReads sT sB sReads
  rw [f1, f2, e1, e2]
  rcases (show kd = 0 ∨ kd = 1 ∨ kd = 2 ∨ kd = 3 by omega) with rfl | rfl | rfl | rfl
  · have c1 : ¬ nI 0 = 1 := by decide
    have c2 : ¬ nI 0 = 2 := by decide
    have c3 : ¬ nI 0 = 3 := by decide
    have ct : cTaken (nI 0) (nI tw) hd rd = hd := by unfold cTaken; rw [if_pos nI_0]
    rw [ct]
    simp only [c1, c2, c3, false_and, or_false, false_or, not_false_iff, and_true, if_false, true_or]
    rcases hhd with ⟨hc0, rfl⟩ | ⟨hc0, t, b, ht, hb, s1, s2, rfl⟩
    · exact ⟨fun q => absurd hc0 q, fun _ => rfl⟩
    · exact ⟨fun _ => ⟨t, b, ht, hb, s1, s2, rfl⟩, fun q => absurd hc0 q⟩
  · have ct : cTaken (nI 1) (nI tw) hd rd = rd := by unfold cTaken; rw [if_neg (by decide), if_pos (show nI 1 = 1 from rfl)]
    have c1 : nI 1 = 1 := rfl
    rw [ct]
    simp only [c1, true_or, if_true, not_true_eq_false, not_false_eq_true, false_imp_iff, and_true]
    exact fun _ => ⟨tr, br, htr, hbr, rfl, rfl, hrd⟩
  · have c1 : (nI 2 = 1) = False := eq_false (by decide)
    have c2 : (nI 2 = 2) = True := eq_true rfl
    have c3 : (nI 2 = 3) = False := eq_false (by decide)
    have ct : cTaken (nI 2) (nI tw) hd rd = if ¬ hd = -1 ∧ nI tw < 5 then hd else rd := by unfold cTaken; rw [if_neg (by decide), if_neg (by decide), if_pos (show nI 2 = 2 from rfl)]
    rw [ct]
    rcases hhd with ⟨hc0, rfl⟩ | ⟨hc0, t, b, ht, hb, s1, s2, rfl⟩
    · have hc := eq_true hc0
      simp only [c1, c2, c3, hc, true_and, or_true, if_true, true_or, not_true_eq_false, not_false_eq_true, false_imp_iff, and_true, false_and, if_false, false_or, or_false]
      exact fun _ => ⟨tr, br, htr, hbr, rfl, rfl, hrd⟩
    · have hc := eq_false hc0
      by_cases h4 : 4 < nI tw
      · have h6 : ¬ nI tw < 5 := fun q => (h5.mp q) h4
        simp only [c1, c2, c3, hc, h4, h6, true_and, or_true, if_true, true_or, not_true_eq_false, not_false_eq_true, false_imp_iff, and_true, false_and, if_false, false_or, or_false, and_false]
        exact fun _ => ⟨tr, br, htr, hbr, rfl, rfl, hrd⟩
      · have h6 : nI tw < 5 := h5.mpr h4
        have h7 : ¬ nI (2 * t + b) = -1 := hm _ (by omega)
        simp only [c1, c2, c3, hc, h4, h6, h7, true_and, or_true, if_true, true_or, not_true_eq_false, not_false_eq_true, false_imp_iff, and_true, false_and, if_false, false_or, or_false, and_false, not_false_iff]
        exact fun _ => ⟨t, b, ht, hb, s1, s2, rfl⟩
  · have c1 : (nI 3 = 1) = False := eq_false (by decide)
    have c2 : (nI 3 = 2) = False := eq_false (by decide)
    have c3 : (nI 3 = 3) = True := eq_true rfl
    have ct : cTaken (nI 3) (nI tw) hd rd = if hd = rd then hd else -1 := by unfold cTaken; rw [if_neg (by decide), if_neg (by decide), if_neg (by decide)]
    rw [ct]
    rcases hhd with ⟨hc0, rfl⟩ | ⟨hc0, t, b, ht, hb, s1, s2, rfl⟩
    · have hc := eq_true hc0
      simp only [c1, c2, c3, hc, true_and, or_true, if_true, true_or, not_true_eq_false, not_false_eq_true, false_imp_iff, and_true, false_and, if_false, false_or, or_false, and_false]
      exact fun _ => ite_self _
    · have hc := eq_false hc0
      rw [s1, s2, hrd]
      have g : nI (2 * t + b) = nI (2 * tr + br) ↔ nI t = nI tr ∧ nI b = nI br := by
        rw [nI_eq (by omega) (by omega), nI_eq (by omega) (by omega), nI_eq (by omega) (by omega)]
        omega
      simp only [c1, c2, c3, hc, true_and, or_true, if_true, true_or, not_true_eq_false, not_false_eq_true, false_imp_iff, and_true, false_and, if_false, false_or, or_false, and_false, not_false_iff]
      by_cases q : nI t = nI tr ∧ nI b = nI br
      · rw [if_pos (g.mpr q)]
        exact ⟨fun _ => ⟨t, b, ht, hb, rfl, rfl, rfl⟩, fun z => absurd q z⟩
      · rw [if_neg (fun z => q (g.mp z))]
        exact ⟨fun z => absurd z q, fun _ => rfl⟩
theorem clash_spec {fl x : xRow} {T N V k : Nat} {hd rd : Int32} (wl : WFl fl T N V)
    (hhd : (xbit (x 3) k ∧ hd = -1) ∨ (¬ xbit (x 3) k ∧ ∃ t b, t < T ∧ b < 2 ∧ sThing fl x k = nI t ∧ sIs fl x k = nI b ∧ hd = nI (2 * t + b))) {tr br : Nat} (htr : tr < T) (hbr : br < 2) (e1 : x (4 + k) = nI tr) (e2 : x (12 + k) = nI br) (hrd : rd = nI (2 * tr + br)) :
    cClash hd rd = nI (sClN fl x k) := by
  have hT6 := wl.2.1
  unfold cClash sClN sClash
  rw [hrd, cThing_nI (by omega) hbr, e1, e2]
  rcases hhd with ⟨hc, rfl⟩ | ⟨hc, t, b, ht, hb, s1, s2, rfl⟩
  · have e3 : sThing fl x k = -1 := by unfold sThing; rw [if_pos hc]
    have e4 : cThing (-1) = -1 := rfl
    rw [e3, e4, if_neg (fun q => nI_ne_m1 (by omega) q.1.symm), if_neg (fun q => absurd q.1 (by decide))]
    rfl
  · rw [s1, s2, cThing_nI (by omega) hb]
    have g : nI (2 * t + b) = nI (2 * tr + br) ↔ nI t = nI tr ∧ nI b = nI br := by
      rw [nI_eq (by omega) (by omega), nI_eq (by omega) (by omega), nI_eq (by omega) (by omega)]
      omega
    by_cases q : nI t = nI tr ∧ ¬ nI b = nI br
    · rw [if_pos ⟨q.1, fun z => q.2 (g.mp z).2⟩, if_pos ⟨nI_pos' (by omega), q.1, q.2⟩]; rfl
    · rw [if_neg (fun z => q ⟨z.1, fun y => z.2 (g.mpr ⟨z.1, y⟩)⟩), if_neg (fun z => q ⟨z.2.1, z.2.2⟩)]; rfl
theorem odd_spec {fl x : xRow} {T N V k w t b : Nat} (wx : WFx x T N V) (hT : T ≤ 6) (hw : w < 6) (ht : t < T) (htk : sTakes fl x w k) (e1 : sT fl x w k = nI t) (e2 : sB fl x w k = nI b) : cOdd (x (20 + 6 * w + t)) (nI b) = nI (sOddN fl x w k) := by
  have e3 : sTh fl x w k = x (20 + 6 * w + t) := by unfold sTh; rw [e1, nI_clamp (by omega)]
  unfold sOddN cOdd
  rw [e3, e2]
  have h1 : (0 ≤ x (20 + 6 * w + t)) ↔ ¬ x (20 + 6 * w + t) = -1 := by
    rcases wx.2.2.2.2 w t hw (by omega) with h | ⟨-, -, h | h⟩ <;> rw [h] <;> decide
  by_cases q : ¬ x (20 + 6 * w + t) = -1 ∧ ¬ x (20 + 6 * w + t) = nI b
  · rw [if_pos q, if_pos ⟨htk, h1.mpr q.1, q.2⟩]; rfl
  · rw [if_neg q, if_neg (fun z => q ⟨h1.mp z.2.1, z.2.2⟩)]; rfl
