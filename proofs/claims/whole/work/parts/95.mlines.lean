/-! READING: the reference, the lines of a film -/
def MFi (I : xTI) (F : pF) (lo : Bool) : Prop := ∀ i, i < 60 → I 141 (60 + i) = fRow F lo i
def RSt (I : xTI) (J : xTJ) (F : pF) (lo : Bool) : Prop := FOk F ∧ FDj F ∧ MFi I F lo ∧ I 135 19 = nI (F.1.1 + F.1.2.2.1) ∧ MNm I J 145 147 (F.1.1 + F.1.2.2.1) F
def FrR (I : xTI) (J : xTJ) (I' : xTI) (J' : xTJ) : Prop := (∀ a, a ≠ 135 → a ≠ 141 → a ≠ 142 → a ≠ 143 → a ≠ 147 → I' a = I a) ∧ (∀ k, k ≠ 7 → k ≠ 8 → k ≠ 13 → k ≠ 19 → k ≠ 20 → I' 135 k = I 135 k) ∧ (∀ j, j < 60 → I' 141 j = I 141 j) ∧ (∀ j, j < 1100 → I' 142 j = I 142 j ∧ I' 143 j = I 143 j) ∧ (∀ a, a ≠ 145 → J' a = J a)
theorem FrR.of {I I' : xTI} {J : xTJ} (f : RFr I I') : FrR I J I' J := ⟨fun a h _ _ _ _ => f.1 a h, fun k h1 h2 _ _ _ => f.2 k h1 h2, fun j _ => by rw [f.1 141 (by decide)], fun j _ => by rw [f.1 142 (by decide), f.1 143 (by decide)]; exact ⟨rfl, rfl⟩, fun _ _ => rfl⟩
theorem FrR.trans {I I1 I2 : xTI} {J J1 J2 : xTJ} (a : FrR I J I1 J1) (b : FrR I1 J1 I2 J2) : FrR I J I2 J2 := ⟨fun q h1 h2 h3 h4 h5 => (b.1 q h1 h2 h3 h4 h5).trans (a.1 q h1 h2 h3 h4 h5), fun k h1 h2 h3 h4 h5 => (b.2.1 k h1 h2 h3 h4 h5).trans (a.2.1 k h1 h2 h3 h4 h5), fun j h => (b.2.2.1 j h).trans (a.2.2.1 j h), fun j h => ⟨((b.2.2.2.1 j h).1).trans (a.2.2.2.1 j h).1, ((b.2.2.2.1 j h).2).trans (a.2.2.2.1 j h).2⟩, fun q h => (b.2.2.2.2 q h).trans (a.2.2.2.2 q h)⟩
theorem MRd.frr {I I' : xTI} {J J' : xTJ} {tp : Nat → Nat} {n c : Nat} (h : MRd I J tp n c) (f : FrR I J I' J') : MRd I' J' tp n c := by
  obtain ⟨h1, h2⟩ := h
  refine ⟨?_, fun i hi => by rw [f.2.2.2.2 140 (by decide)]; exact h2 i hi⟩
  unfold MTk MTi at h1 ⊢
  rw [f.1 137 (by decide) (by decide) (by decide) (by decide) (by decide), f.1 138 (by decide) (by decide) (by decide) (by decide) (by decide), f.2.2.2.2 139 (by decide)]
  exact h1
theorem RSt.rfr {I I' : xTI} {J : xTJ} {F : pF} {lo : Bool} (h : RSt I J F lo) (f : RFr I I') : RSt I' J F lo := by
  obtain ⟨h1, h2, h3, h4, h5⟩ := h
  refine ⟨h1, h2, fun i hi => ?_, ?_, h5.congr (f.1 147 (by decide)) rfl⟩
  · rw [f.1 141 (by decide)]; exact h3 i hi
  · rw [f.2 19 (by decide) (by decide)]; exact h4
theorem fRow_thing {F : pF} {lo : Bool} {v i : Nat} : fRow (fThing F v) lo i = if i = 0 then nI (F.1.1 + 1) else fRow F lo i := by
  by_cases h : i = 0
  · rw [if_pos h, h]; rfl
  · rw [if_neg h]
    unfold fRow
    rw [if_neg h, if_neg h]
    rfl
theorem fRow_star {F : pF} {lo : Bool} {v i : Nat} : fRow (fStar F v) lo i = if i = 3 then nI v else fRow F lo i := by
  by_cases h : i = 3
  · rw [if_pos h, h]; rfl
  · rw [if_neg h]
    unfold fRow
    rw [if_neg h, if_neg h]
    rfl
theorem fRow_law {F : pF} {lo : Bool} {i : Nat} : fRow F true i = if i = 4 then 0 else fRow F lo i := by
  by_cases h : i = 4
  · rw [if_pos h, h]; rfl
  · rw [if_neg h]
    unfold fRow
    rw [if_neg h, if_neg h]
theorem fRow_mid {F : pF} {lo : Bool} {i : Nat} (h : 5 ≤ i) (h2 : i < 37) : fRow F lo i = if (i - 5) / 4 < F.1.2.1 then (if (i - 5) % 4 = 0 then nI (F.2.2.2.1 ((i - 5) / 4)).1 else if (i - 5) % 4 = 1 then nI (F.2.2.2.1 ((i - 5) / 4)).2.1 else if (i - 5) % 4 = 2 then nI (F.2.2.2.1 ((i - 5) / 4)).2.2.1 else nI (F.2.2.2.1 ((i - 5) / 4)).2.2.2) else 0 := by
  unfold fRow
  rw [if_neg (by omega), if_neg (by omega), if_neg (by omega), if_neg (by omega), if_neg (by omega), if_pos (by omega)]
theorem fRow_hi {F : pF} {lo : Bool} {i : Nat} (h : 37 ≤ i) : fRow F lo i = if (i - 37) / 3 < F.1.2.2.1 then (if (i - 37) % 3 = 0 then nI (F.2.2.2.2 ((i - 37) / 3)).1 else if (i - 37) % 3 = 1 then nI (F.2.2.2.2 ((i - 37) / 3)).2.1 else nI (F.2.2.2.2 ((i - 37) / 3)).2.2) else 0 := by
  unfold fRow
  rw [if_neg (by omega), if_neg (by omega), if_neg (by omega), if_neg (by omega), if_neg (by omega), if_neg (by omega)]
theorem fRow_scene {F : pF} {lo : Bool} {c : Nat × Nat × Nat × Nat} {i : Nat} (hN : F.1.2.1 < 8) : fRow (fScene F c) lo i = if i = 1 then nI (F.1.2.1 + 1) else if i = 5 + 4 * F.1.2.1 then nI c.1 else if i = 6 + 4 * F.1.2.1 then nI c.2.1 else if i = 7 + 4 * F.1.2.1 then nI c.2.2.1 else if i = 8 + 4 * F.1.2.1 then nI c.2.2.2 else fRow F lo i := by
  by_cases h1 : i = 1
  · rw [if_pos h1, h1]; rfl
  rw [if_neg h1]
  by_cases h5 : i < 5 ∨ 37 ≤ i
  · rw [if_neg (by omega), if_neg (by omega), if_neg (by omega), if_neg (by omega)]
    rcases h5 with h5 | h5
    · rcases (show i = 0 ∨ i = 2 ∨ i = 3 ∨ i = 4 by omega) with rfl | rfl | rfl | rfl <;> rfl
    · rw [fRow_hi h5, fRow_hi h5]
      rfl
  · have e1 : fRow (fScene F c) lo i = if (i - 5) / 4 < F.1.2.1 + 1 then (if (i - 5) % 4 = 0 then nI (mUp F.2.2.2.1 F.1.2.1 c ((i - 5) / 4)).1 else if (i - 5) % 4 = 1 then nI (mUp F.2.2.2.1 F.1.2.1 c ((i - 5) / 4)).2.1 else if (i - 5) % 4 = 2 then nI (mUp F.2.2.2.1 F.1.2.1 c ((i - 5) / 4)).2.2.1 else nI (mUp F.2.2.2.1 F.1.2.1 c ((i - 5) / 4)).2.2.2) else 0 := fRow_mid (F := fScene F c) (by omega) (by omega)
    by_cases hk : (i - 5) / 4 = F.1.2.1
    · rw [e1, hk, mUp_same, if_pos (show F.1.2.1 < F.1.2.1 + 1 by omega)]
      by_cases r0 : (i - 5) % 4 = 0
      · rw [if_pos r0, if_pos (show i = 5 + 4 * F.1.2.1 by omega)]
      rw [if_neg r0, if_neg (show ¬ i = 5 + 4 * F.1.2.1 by omega)]
      by_cases r1 : (i - 5) % 4 = 1
      · rw [if_pos r1, if_pos (show i = 6 + 4 * F.1.2.1 by omega)]
      rw [if_neg r1, if_neg (show ¬ i = 6 + 4 * F.1.2.1 by omega)]
      by_cases r2 : (i - 5) % 4 = 2
      · rw [if_pos r2, if_pos (show i = 7 + 4 * F.1.2.1 by omega)]
      rw [if_neg r2, if_neg (show ¬ i = 7 + 4 * F.1.2.1 by omega), if_pos (show i = 8 + 4 * F.1.2.1 by omega)]
    · rw [if_neg (show ¬ i = 5 + 4 * F.1.2.1 by omega), if_neg (show ¬ i = 6 + 4 * F.1.2.1 by omega), if_neg (show ¬ i = 7 + 4 * F.1.2.1 by omega), if_neg (show ¬ i = 8 + 4 * F.1.2.1 by omega), e1, fRow_mid (F := F) (by omega) (by omega), mUp_off _ _ hk]
      by_cases hl : (i - 5) / 4 < F.1.2.1
      · rw [if_pos hl, if_pos (show (i - 5) / 4 < F.1.2.1 + 1 by omega)]
      · rw [if_neg hl, if_neg (show ¬ (i - 5) / 4 < F.1.2.1 + 1 by omega)]
theorem fRow_watch {F : pF} {lo : Bool} {v : Nat} {c : Nat × Nat × Nat} {i : Nat} : fRow (fWatch F v c) lo i = if i = 2 then nI (F.1.2.2.1 + 1) else if i = 37 + 3 * F.1.2.2.1 then nI c.1 else if i = 38 + 3 * F.1.2.2.1 then nI c.2.1 else if i = 39 + 3 * F.1.2.2.1 then nI c.2.2 else fRow F lo i := by
  by_cases h1 : i = 2
  · rw [if_pos h1, h1]; rfl
  rw [if_neg h1]
  by_cases h5 : i < 37
  · rw [if_neg (by omega), if_neg (by omega), if_neg (by omega)]
    by_cases h6 : i < 5
    · rcases (show i = 0 ∨ i = 1 ∨ i = 3 ∨ i = 4 by omega) with rfl | rfl | rfl | rfl <;> rfl
    · rw [fRow_mid (by omega) h5, fRow_mid (by omega) h5]
      rfl
  · have e1 : fRow (fWatch F v c) lo i = if (i - 37) / 3 < F.1.2.2.1 + 1 then (if (i - 37) % 3 = 0 then nI (mUp F.2.2.2.2 F.1.2.2.1 c ((i - 37) / 3)).1 else if (i - 37) % 3 = 1 then nI (mUp F.2.2.2.2 F.1.2.2.1 c ((i - 37) / 3)).2.1 else nI (mUp F.2.2.2.2 F.1.2.2.1 c ((i - 37) / 3)).2.2) else 0 := fRow_hi (F := fWatch F v c) (by omega)
    by_cases hk : (i - 37) / 3 = F.1.2.2.1
    · rw [e1, hk, mUp_same, if_pos (show F.1.2.2.1 < F.1.2.2.1 + 1 by omega)]
      by_cases r0 : (i - 37) % 3 = 0
      · rw [if_pos r0, if_pos (show i = 37 + 3 * F.1.2.2.1 by omega)]
      rw [if_neg r0, if_neg (show ¬ i = 37 + 3 * F.1.2.2.1 by omega)]
      by_cases r1 : (i - 37) % 3 = 1
      · rw [if_pos r1, if_pos (show i = 38 + 3 * F.1.2.2.1 by omega)]
      rw [if_neg r1, if_neg (show ¬ i = 38 + 3 * F.1.2.2.1 by omega), if_pos (show i = 39 + 3 * F.1.2.2.1 by omega)]
    · rw [if_neg (show ¬ i = 37 + 3 * F.1.2.2.1 by omega), if_neg (show ¬ i = 38 + 3 * F.1.2.2.1 by omega), if_neg (show ¬ i = 39 + 3 * F.1.2.2.1 by omega), e1, fRow_hi (F := F) (by omega), mUp_off _ _ hk]
      by_cases hl : (i - 37) / 3 < F.1.2.2.1
      · rw [if_pos hl, if_pos (show (i - 37) / 3 < F.1.2.2.1 + 1 by omega)]
      · rw [if_neg hl, if_neg (show ¬ (i - 37) / 3 < F.1.2.2.1 + 1 by omega)]
/-- what is told stays apart: THINGS' names, WATCHERS' names -/
theorem FDj_thing {F : pF} {v : Nat} (h : FDj F) (h6 : F.1.1 < 6) (hv : ¬ pTold F v) : FDj (fThing F v) := by
  have h2 := Decidable.of_not_not hv
  refine ⟨h6, h.2.1, fun u hu => ?_⟩
  by_cases e : u = v
  · rw [e]; exact h2.2
  · refine h.2.2 u (fun z => hu ?_)
    have e1 : xIdx (fThing F v).2.1 u (fThing F v).1.1 = xIdx F.2.1 u F.1.1 := xIdx_addN e
    rw [e1]; exact z
theorem FDj_watch {F : pF} {v : Nat} {c : Nat × Nat × Nat} (h : FDj F) (h6 : F.1.2.2.1 < 6) (hv : ¬ pTold F v) : FDj (fWatch F v c) := by
  have h2 := Decidable.of_not_not hv
  refine ⟨h.1, h6, fun u hu => ?_⟩
  have hu2 : ¬ xIdx F.2.1 u F.1.1 = none := hu
  have e : u ≠ v := fun e => hu2 (by rw [e]; exact h2.1)
  have e1 : xIdx (fWatch F v c).2.2.1 u (fWatch F v c).1.2.2.1 = xIdx F.2.2.1 u F.1.2.2.1 := xIdx_addN e
  rw [e1]
  exact h.2.2 u hu2
/-- the line thing, but for its end -/
def rThing (q : xTok) (F : pF) (s : pS) : pS := pNew q F (pFull q (F.1.1 < 6) s)
def rScene (q : xTok) (F : pF) (s : pS) : pS := pClm q F (pNeed q 4 (pClm q F (pFull q (F.1.2.1 < 8) s)))
def rWatch (q : xTok) (F : pF) (s : pS) : pS := pNum q 1 30 (pNeed q 7 (pNum q 0 9 (pNeed q 6 (pOne q 15 4 (pNew q F (pFull q (F.1.2.2.1 < 6) s))))))
theorem RSt.thing {I I' : xTI} {J : xTJ} {F : pF} {lo : Bool} {v : Nat} (h : RSt I J F lo) (h6 : F.1.1 < 6) (hv : v < 2 ^ 40) (ht : ¬ pTold F v) (e1 : I' 141 = u2 I 141 60 (nI (F.1.1 + 1)) 141) (e2 : I' 147 = u2 I 147 (F.1.1 + F.1.2.2.1) (nI F.1.1) 147) (e3 : I' 135 19 = nI (F.1.1 + F.1.2.2.1 + 1)) : RSt I' (u2 J 145 (F.1.1 + F.1.2.2.1) (Int64.ofNat (cv v))) (fThing F v) lo := by
  obtain ⟨h1, h2, h3, h4, h5⟩ := h
  have hc : (fThing F v).1.1 + (fThing F v).1.2.2.1 = F.1.1 + F.1.2.2.1 + 1 := by
    show F.1.1 + 1 + F.1.2.2.1 = _
    omega
  refine ⟨fThing_ok h1 h6 hv, FDj_thing h2 h6 ht, fun i hi => ?_, by rw [hc]; exact e3, ?_⟩
  · rw [e1, fRow_thing]
    by_cases e : i = 0
    · rw [if_pos e, e, u2_same]
    · rw [if_neg e, u2_off _ _ (by omega)]; exact h3 i hi
  · rw [hc]
    have h9 := h5.add (F' := fThing F v) (v := v) (d := F.1.1) (by have := h1.2.2.1; omega) hv (by omega) ((nmA_told h2.1 h2.2.1).mpr ht) (fun u => nmA_thing ht)
    exact h9.congr e2 rfl
