/-! READING: the reference, one name more -/
theorem xIdx_congr {α : Type} [DecidableEq α] {f g : Nat → α} {v : α} : ∀ n, (∀ i, i < n → f i = g i) → xIdx f v n = xIdx g v n
  | 0, _ => rfl
  | n + 1, h => by
    rw [xIdx_up, xIdx_up, xIdx_congr n (fun i hi => h i (by omega)), h n (by omega)]
theorem xIdx_add {f : Nat → Nat} {v u m : Nat} : xIdx (mUp f m v) u (m + 1) = match xIdx f u m with
    | some i => some i
    | none => if v = u then some m else none := by
  rw [xIdx_up, xIdx_congr (g := f) m (fun i hi => mUp_off _ _ (by omega)), mUp_same]
  all_goals (cases xIdx f u m <;> rfl)
theorem xIdx_addN {f : Nat → Nat} {v u m : Nat} (h : u ≠ v) : xIdx (mUp f m v) u (m + 1) = xIdx f u m := by
  rw [xIdx_add]
  cases xIdx f u m with
  | some i => rfl
  | none => exact if_neg (fun z => h z.symm)
theorem xIdx_addY {f : Nat → Nat} {v m : Nat} (h : xIdx f v m = none) : xIdx (mUp f m v) v (m + 1) = some m := by
  rw [xIdx_add, h]
  exact if_pos rfl
theorem nmA_thing {F : pF} {v u : Nat} (h : ¬ pTold F v) : nmA (fThing F v) u = if u = v then nI F.1.1 else nmA F u := by
  have h2 := Decidable.of_not_not h
  by_cases e : u = v
  · rw [if_pos e, e]
    have e1 : xIdx (fThing F v).2.1 v (fThing F v).1.1 = some F.1.1 := xIdx_addY h2.1
    unfold nmA
    rw [e1]
  · rw [if_neg e]
    have e1 : xIdx (fThing F v).2.1 u (fThing F v).1.1 = xIdx F.2.1 u F.1.1 := xIdx_addN e
    unfold nmA
    rw [e1]
    rfl
theorem nmA_watch {F : pF} {v u : Nat} {k : Nat × Nat × Nat} (h : ¬ pTold F v) : nmA (fWatch F v k) u = if u = v then nI (20 + F.1.2.2.1) else nmA F u := by
  have h2 := Decidable.of_not_not h
  by_cases e : u = v
  · rw [if_pos e, e]
    have e0 : xIdx (fWatch F v k).2.1 v (fWatch F v k).1.1 = none := h2.1
    have e1 : xIdx (fWatch F v k).2.2.1 v (fWatch F v k).1.2.2.1 = some F.1.2.2.1 := xIdx_addY h2.2
    unfold nmA
    rw [e0, e1]
  · rw [if_neg e]
    have e0 : xIdx (fWatch F v k).2.1 u (fWatch F v k).1.1 = xIdx F.2.1 u F.1.1 := rfl
    have e1 : xIdx (fWatch F v k).2.2.1 u (fWatch F v k).1.2.2.1 = xIdx F.2.2.1 u F.1.2.2.1 := xIdx_addN e
    unfold nmA
    rw [e0, e1]
theorem nmA_told {F : pF} {v : Nat} (h6 : F.1.1 ≤ 6) (h7 : F.1.2.2.1 ≤ 6) : nmA F v = -1 ↔ ¬ pTold F v := by
  unfold nmA
  constructor
  · intro h z
    cases e1 : xIdx F.2.1 v F.1.1 with
    | some t => rw [e1] at h; exact absurd h (nI_ne_m1 (n := t) (by have := (xIdx_some _ e1).1; omega))
    | none =>
      rw [e1] at h
      cases e2 : xIdx F.2.2.1 v F.1.2.2.1 with
      | some w => rw [e2] at h; exact absurd h (nI_ne_m1 (n := 20 + w) (by have := (xIdx_some _ e2).1; omega))
      | none => exact z ⟨e1, e2⟩
  · intro h
    have h2 := Decidable.of_not_not h
    rw [h2.1, h2.2]
theorem MNm.add {I : xTI} {J : xTJ} {a b m : Nat} {F F' : pF} {v d : Nat} (h : MNm I J a b m F) (hm : m < 12) (hv : v < 2 ^ 40) (hd : d < 100) (hu : nmA F v = -1) (hF : ∀ u, nmA F' u = if u = v then nI d else nmA F u) : MNm (u2 I b m (nI d)) (u2 J a m (Int64.ofNat (cv v))) a b (m + 1) F' := by
  obtain ⟨-, nm, of, hl, hn⟩ := h
  have hx : xIdx nm v m = none := by
    have h1 := hn v hv
    rw [hu] at h1
    unfold nmL at h1
    cases e : xIdx nm v m with
    | none => rfl
    | some k =>
      rw [e] at h1
      exact absurd h1.symm (nI_ne_m1 (n := of k) (by have := (hl k (xIdx_some _ e).1).2.2.2; omega))
  refine ⟨hm, mUp nm m v, mUp of m d, fun k hk => ?_, fun u hu2 => ?_⟩
  · by_cases e : k = m
    · rw [e, u2_same, u2_same, mUp_same, mUp_same]
      exact ⟨rfl, hv, rfl, hd⟩
    · rw [u2_off _ _ e, u2_off _ _ e, mUp_off _ _ e, mUp_off _ _ e]
      exact hl k (by omega)
  · rw [hF u]
    by_cases e : u = v
    · rw [if_pos e, e]
      unfold nmL
      rw [xIdx_addY hx]
      exact congrArg nI (mUp_same _ _ _).symm
    · rw [if_neg e, hn u hu2]
      unfold nmL
      rw [xIdx_addN e]
      cases e2 : xIdx nm u m with
      | none => rfl
      | some k => exact congrArg nI (mUp_off _ _ (by have := (xIdx_some _ e2).1; omega)).symm
