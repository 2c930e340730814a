/-! THE LAW OF DOUBT AS IT IS READ -/
abbrev pE : Type := pS × List (Nat × Nat)
def eS (f : pS → pS) (e : pE) : pE := (f e.1, e.2)
def eEm (c : Nat × Nat) (e : pE) : pE := (e.1, e.2 ++ [c])
def lp (c : pE → Prop) [DecidablePred c] (f : pE → pE) : Nat → pE → pE
  | 0, e => e
  | j + 1, e => if c e then lp c f j (f e) else e
def pProd (q : xTok) (P : pE → pE) (e : pE) : pE := lp (fun e => pIsC q 42 e.1) (fun e => eEm (6, 0) (P (eS pNext e))) 1000 (P e)
def pSum (q : xTok) (P : pE → pE) (e : pE) : pE := lp (fun e => pIsC q 43 e.1 ∨ pIsC q 45 e.1) (fun e => eEm (if pIsC q 43 e.1 then (4, 0) else (5, 0)) (pProd q P (eS pNext e))) 1000 (pProd q P e)
def pTst (q : xTok) (P : pE → pE) (e : pE) : pE := if pIsC q 60 (pSum q P e).1 ∨ pIsC q 61 (pSum q P e).1 then eEm (if pIsC q 60 (pSum q P e).1 then (7, 0) else (8, 0)) (pSum q P (eS pNext (pSum q P e))) else pSum q P e
def pAll (q : xTok) (P : pE → pE) (e : pE) : pE := lp (fun e => pIsW q 20 e.1 ∨ pIsW q 21 e.1) (fun e => eEm (if pIsW q 20 e.1 then (9, 0) else (10, 0)) (pTst q P (eS pNext e))) 1000 (pTst q P e)
abbrev pStart (q : xTok) (s : pS) : Prop := s.2 = 0 ∧ ((q s.1).1 = 2 ∨ wHr q 22 4 s ≠ none ∨ pIsW q 19 s ∨ pIsC q 40 s)
def pPart (q : xTok) : Nat → pE → pE
  | 0, e => eS (fun s => pRef q 5 (if pStart q s then s else pRef q 1 s)) e
  | d + 1, e => if ¬ e.1.2 = 0 then e else if (q e.1.1).1 = 2 then eEm (1, (q e.1.1).2.1) (eS pNext e) else if wHr q 22 4 e.1 ≠ none then eEm (2, (wHr q 22 4 e.1).getD 0) (eS pNext e)
    else if pIsW q 19 e.1 then eEm (3, 0) (pPart q d (eS pNext e)) else if pIsC q 40 e.1 then eS (pSign q 41) (pAll q (pPart q d) (eS pNext e)) else eS (pRef q 1) e
/-- what it keeps to: behind a fault nothing happens; no more is emitted than is read -/
def Fx (P : pE → pE) : Prop := ∀ e, ¬ e.1.2 = 0 → P e = e
def Gr (P : pE → pE) : Prop := ∀ e, e.1.2 = 0 → (P e).1.2 = 0 → (P e).2.length + e.1.1 ≤ (P e).1.1 + e.2.length
theorem lp_up {c : pE → Prop} [DecidablePred c] {f : pE → pE} {j : Nat} {e : pE} : lp c f (j + 1) e = if c e then lp c f j (f e) else e := rfl
theorem lp_fx {c : pE → Prop} [DecidablePred c] {f : pE → pE} (hc : ∀ e, c e → e.1.2 = 0) : ∀ j, Fx (lp c f j)
  | 0 => fun _ _ => rfl
  | j + 1 => fun e h => by
    rw [lp_up, if_neg (fun z => h (hc e z))]
theorem lp_gr {c : pE → Prop} [DecidablePred c] {f : pE → pE} (hc : ∀ e, c e → e.1.2 = 0) (hf : ∀ e, c e → (f e).1.2 = 0 → (f e).2.length + e.1.1 ≤ (f e).1.1 + e.2.length) : ∀ j, Gr (lp c f j)
  | 0 => fun e _ _ => by
    show e.2.length + e.1.1 ≤ e.1.1 + e.2.length
    omega
  | j + 1 => fun e h0 h1 => by
    rw [lp_up] at h1 ⊢
    by_cases g : c e
    · rw [if_pos g] at h1 ⊢
      have z : (f e).1.2 = 0 := Decidable.of_not_not (fun y => y (by rw [lp_fx hc j _ y] at h1; exact h1))
      have := lp_gr hc hf j _ z h1
      have := hf e g z
      omega
    · rw [if_neg g] at h1 ⊢
      omega
theorem eNext {e : pE} (h : e.1.2 = 0) : eS pNext e = ((e.1.1 + 1, 0), e.2) := by unfold eS; rw [pNext_0 h]
theorem pProd_fx {q : xTok} {P : pE → pE} (h : Fx P) : Fx (pProd q P) := fun e g => by
  unfold pProd
  rw [h e g, lp_fx (fun e z => z.1) 1000 e g]
theorem step_gr {P : pE → pE} {c : Nat × Nat} (h : Gr P) {e : pE} (h0 : e.1.2 = 0) (h1 : (eEm c (P (eS pNext e))).1.2 = 0) : (eEm c (P (eS pNext e))).2.length + e.1.1 ≤ (eEm c (P (eS pNext e))).1.1 + e.2.length := by
  rw [eNext h0] at h1 ⊢
  have := h ((e.1.1 + 1, 0), e.2) rfl h1
  show (_ ++ [c]).length + e.1.1 ≤ _
  rw [List.length_append, List.length_singleton]
  have e1 : ((e.1.1 + 1, 0), e.2).1.1 = e.1.1 + 1 := rfl
  have e2 : (((e.1.1 + 1, 0), e.2) : pE).2.length = e.2.length := rfl
  show (P ((e.1.1 + 1, 0), e.2)).2.length + 1 + e.1.1 ≤ (P ((e.1.1 + 1, 0), e.2)).1.1 + e.2.length
  have t : (P ((e.1.1 + 1, 0), e.2)).2.length + (e.1.1 + 1) ≤ (P ((e.1.1 + 1, 0), e.2)).1.1 + e.2.length := this
  omega
theorem Gr.seq {P L : pE → pE} (hP : Gr P) (hL : Gr L) (fL : Fx L) : Gr (fun e => L (P e)) := fun e h0 h1 => by
  have z : (P e).1.2 = 0 := Decidable.of_not_not (fun y => y (by have h2 : (L (P e)).1.2 = 0 := h1; rw [fL _ y] at h2; exact h2))
  have a := hP e h0 z
  have b := hL _ z h1
  show (L (P e)).2.length + e.1.1 ≤ (L (P e)).1.1 + e.2.length
  omega
theorem pProd_gr {q : xTok} {P : pE → pE} (h : Gr P) : Gr (pProd q P) :=
  Gr.seq (P := P) (L := lp (fun e => pIsC q 42 e.1) (fun e => eEm (6, 0) (P (eS pNext e))) 1000) h (lp_gr (c := fun e => pIsC q 42 e.1) (f := fun e => eEm (6, 0) (P (eS pNext e))) (fun e z => z.1) (fun e z y => step_gr h z.1 y) 1000) (lp_fx (fun e z => z.1) 1000)
theorem or0 {q : xTok} {a b : Nat} {s : pS} (h : pIsC q a s ∨ pIsC q b s) : s.2 = 0 := h.elim (fun z => z.1) (fun z => z.1)
theorem orW0 {q : xTok} {a b : Nat} {s : pS} (h : pIsW q a s ∨ pIsW q b s) : s.2 = 0 := h.elim (fun z => z.1) (fun z => z.1)
theorem pSum_fx {q : xTok} {P : pE → pE} (h : Fx P) : Fx (pSum q P) := fun e g => by
  unfold pSum
  rw [pProd_fx h e g, lp_fx (fun e z => or0 z) 1000 e g]
theorem pSum_gr {q : xTok} {P : pE → pE} (h : Gr P) : Gr (pSum q P) :=
  Gr.seq (P := pProd q P) (L := lp (fun e => pIsC q 43 e.1 ∨ pIsC q 45 e.1) (fun e => eEm (if pIsC q 43 e.1 then (4, 0) else (5, 0)) (pProd q P (eS pNext e))) 1000) (pProd_gr h) (lp_gr (c := fun e => pIsC q 43 e.1 ∨ pIsC q 45 e.1) (f := fun e => eEm (if pIsC q 43 e.1 then (4, 0) else (5, 0)) (pProd q P (eS pNext e))) (fun e z => or0 z) (fun e z y => step_gr (pProd_gr h) (or0 z) y) 1000) (lp_fx (fun e z => or0 z) 1000)
theorem pTst_fx {q : xTok} {P : pE → pE} (h : Fx P) : Fx (pTst q P) := fun e g => by
  unfold pTst
  rw [pSum_fx h e g, if_neg (fun z => g (or0 z))]
theorem pTst_gr {q : xTok} {P : pE → pE} (h : Gr P) (hx : Fx P) : Gr (pTst q P) := fun e h0 h1 => by
  unfold pTst at h1 ⊢
  by_cases g : pIsC q 60 (pSum q P e).1 ∨ pIsC q 61 (pSum q P e).1
  · rw [if_pos g] at h1 ⊢
    have z := or0 g
    have a := pSum_gr h e h0 z
    have b := step_gr (pSum_gr h) z h1
    omega
  · rw [if_neg g] at h1 ⊢
    exact pSum_gr h e h0 h1
theorem pAll_fx {q : xTok} {P : pE → pE} (h : Fx P) : Fx (pAll q P) := fun e g => by
  unfold pAll
  rw [pTst_fx h e g, lp_fx (fun e z => orW0 z) 1000 e g]
theorem pAll_gr {q : xTok} {P : pE → pE} (h : Gr P) (hx : Fx P) : Gr (pAll q P) :=
  Gr.seq (P := pTst q P) (L := lp (fun e => pIsW q 20 e.1 ∨ pIsW q 21 e.1) (fun e => eEm (if pIsW q 20 e.1 then (9, 0) else (10, 0)) (pTst q P (eS pNext e))) 1000) (pTst_gr h hx) (lp_gr (c := fun e => pIsW q 20 e.1 ∨ pIsW q 21 e.1) (f := fun e => eEm (if pIsW q 20 e.1 then (9, 0) else (10, 0)) (pTst q P (eS pNext e))) (fun e z => orW0 z) (fun e z y => step_gr (pTst_gr h hx) (orW0 z) y) 1000) (lp_fx (fun e z => orW0 z) 1000)
theorem pPart_fx {q : xTok} : ∀ d, Fx (pPart q d)
  | 0 => fun e g => by
    unfold pPart eS
    dsimp only
    rw [if_neg (fun z => g z.1), pRef_f g, pRef_f g]
  | d + 1 => fun e g => by
    unfold pPart
    rw [if_pos g]
theorem pPart_gr {q : xTok} : ∀ d, Gr (pPart q d)
  | 0 => fun e h0 h1 => by
    exfalso
    have h2 : (pRef q 5 (if pStart q e.1 then e.1 else pRef q 1 e.1)).2 = 0 := h1
    exact pRef_ne (by decide) h2
  | d + 1 => fun e h0 h1 => by
    have ih := pPart_gr (q := q) d
    unfold pPart at h1 ⊢
    rw [if_neg (fun z => z h0)] at h1 ⊢
    split at h1
    · rename_i g
      rw [if_pos g, eNext h0]
      show (e.2 ++ [_]).length + e.1.1 ≤ e.1.1 + 1 + e.2.length
      rw [List.length_append, List.length_singleton]; omega
    · rename_i g
      rw [if_neg g]
      split at h1
      · rename_i g2
        rw [if_pos g2, eNext h0]
        show (e.2 ++ [_]).length + e.1.1 ≤ e.1.1 + 1 + e.2.length
        rw [List.length_append, List.length_singleton]; omega
      · rename_i g2
        rw [if_neg g2]
        split at h1
        · rename_i g3
          rw [if_pos g3]
          exact step_gr ih h0 h1
        · rename_i g3
          rw [if_neg g3]
          split at h1
          · rename_i g4
            rw [if_pos g4]
            rw [eNext h0] at h1 ⊢
            have h2 : (pSign q 41 (pAll q (pPart q d) ((e.1.1 + 1, 0), e.2)).1).2 = 0 := h1
            have z := pz (f := pSign q 41) (fun y => pSign_f y) h2
            have a := pAll_gr ih (pPart_fx d) ((e.1.1 + 1, 0), e.2) rfl z
            have k : (pAll q (pPart q d) ((e.1.1 + 1, 0), e.2)).1.1 ≤ (pSign q 41 (pAll q (pPart q d) ((e.1.1 + 1, 0), e.2)).1).1 := by
              unfold pSign
              split
              · rw [pNext_0 z]; exact Nat.le_succ _
              · rw [pRef_0 z]; exact Nat.le_refl _
            show (pAll q (pPart q d) ((e.1.1 + 1, 0), e.2)).2.length + e.1.1 ≤ (pSign q 41 (pAll q (pPart q d) ((e.1.1 + 1, 0), e.2)).1).1 + e.2.length
            have a' : (pAll q (pPart q d) ((e.1.1 + 1, 0), e.2)).2.length + (e.1.1 + 1) ≤ (pAll q (pPart q d) ((e.1.1 + 1, 0), e.2)).1.1 + e.2.length := a
            omega
          · exact absurd h1 (pRef_ne (by decide))
/-! what is emitted leaves one value more, with so much room above -/
def lPc (mx : Nat) (c : List (Nat × Nat)) : Prop := ∀ h r, h + mx ≤ 24 → lSafe 24 r (h + 1) → lSafe 24 (c ++ r) h
def Nt (mx : Nat) (P : pE → pE) : Prop := ∀ e, e.1.2 = 0 → (P e).1.2 = 0 → ∃ c, (P e).2 = e.2 ++ c ∧ lPc mx c
theorem lPc_op {m1 m2 o : Nat} {c1 c2 : List (Nat × Nat)} (h1 : lPc m1 c1) (h2 : lPc m2 c2) (h12 : m1 ≤ m2 + 1) (ho : 4 ≤ o) (ho2 : o ≤ 10) : lPc (m2 + 1) (c1 ++ (c2 ++ [(o, 0)])) := fun h r hm hr => by
  rw [List.append_assoc, List.append_assoc]
  refine h1 h _ (by omega) (h2 (h + 1) _ (by omega) ?_)
  show 1 ≤ o ∧ o ≤ 10 ∧ (o = 1 → 0 < 10000) ∧ (o = 2 → 0 < 4) ∧ if o ≤ 2 then _ else if o = 3 then _ else 2 ≤ h + 1 + 1 ∧ lSafe 24 r (h + 1 + 1 - 1)
  rw [if_neg (by omega), if_neg (by omega)]
  exact ⟨by omega, ho2, fun _ => by decide, fun _ => by decide, by omega, hr⟩
theorem lPc_up {m1 m2 : Nat} {c : List (Nat × Nat)} (h : lPc m1 c) (h12 : m1 ≤ m2) : lPc m2 c := fun a r hm hr => h a r (by omega) hr
theorem lp_nt {mx : Nat} {c : pE → Prop} [DecidablePred c] {P : pE → pE} {o : pE → Nat} (hc : ∀ e, c e → e.1.2 = 0) (hP : Nt mx P) (ho : ∀ e, 4 ≤ o e ∧ o e ≤ 10) : ∀ j e, e.1.2 = 0 → ∀ b c0, e.2 = b ++ c0 → lPc (mx + 1) c0 → (lp c (fun e => eEm (o e, 0) (P (eS pNext e))) j e).1.2 = 0 → ∃ c1, (lp c (fun e => eEm (o e, 0) (P (eS pNext e))) j e).2 = b ++ c1 ∧ lPc (mx + 1) c1
  | 0, e, h0, b, c0, e0, l0, h1 => ⟨c0, e0, l0⟩
  | j + 1, e, h0, b, c0, e0, l0, h1 => by
    rw [lp_up] at h1 ⊢
    by_cases g : c e
    · rw [if_pos g] at h1 ⊢
      have z : (eEm (o e, 0) (P (eS pNext e))).1.2 = 0 := Decidable.of_not_not (fun y => y (by rw [lp_fx hc j _ y] at h1; exact h1))
      have z2 : (P (eS pNext e)).1.2 = 0 := z
      obtain ⟨c2, e2, l2⟩ := hP (eS pNext e) (by rw [eNext h0]) z2
      have e3 : (eEm (o e, 0) (P (eS pNext e))).2 = b ++ (c0 ++ (c2 ++ [(o e, 0)])) := by
        show (P (eS pNext e)).2 ++ [(o e, 0)] = _
        rw [e2, show (eS pNext e).2 = e.2 from rfl, e0]
        simp only [List.append_assoc]
      exact lp_nt hc hP ho j _ z b _ e3 (lPc_op l0 l2 (Nat.le_refl _) (ho e).1 (ho e).2) h1
    · rw [if_neg g] at h1 ⊢
      exact ⟨c0, e0, l0⟩
theorem pProd_nt {q : xTok} {P : pE → pE} {mx : Nat} (h : Nt mx P) : Nt (mx + 1) (pProd q P) := fun e h0 h1 => by
  unfold pProd at h1 ⊢
  have z : (P e).1.2 = 0 := Decidable.of_not_not (fun y => y (by rw [lp_fx (fun e z => z.1) 1000 _ y] at h1; exact h1))
  obtain ⟨c, e1, l1⟩ := h e h0 z
  exact lp_nt (c := fun e => pIsC q 42 e.1) (o := fun _ => 6) (fun e z => z.1) h (fun _ => by decide) 1000 (P e) z e.2 c e1 (lPc_up l1 (Nat.le_succ _)) h1
theorem em_if {c : Prop} [Decidable c] {a b : Nat} : (if c then ((a, 0) : Nat × Nat) else (b, 0)) = (if c then a else b, 0) := by split <;> rfl
theorem pSum_nt {q : xTok} {P : pE → pE} {mx : Nat} (h : Nt mx P) : Nt (mx + 2) (pSum q P) := fun e h0 h1 => by
  unfold pSum at h1 ⊢
  simp only [em_if] at h1 ⊢
  have z : (pProd q P e).1.2 = 0 := Decidable.of_not_not (fun y => y (by rw [lp_fx (fun e z => or0 z) 1000 _ y] at h1; exact h1))
  obtain ⟨c, e1, l1⟩ := pProd_nt h e h0 z
  exact lp_nt (c := fun e => pIsC q 43 e.1 ∨ pIsC q 45 e.1) (o := fun e => if pIsC q 43 e.1 then 4 else 5) (fun e z => or0 z) (pProd_nt h) (fun e => by split <;> decide) 1000 (pProd q P e) z e.2 c e1 (lPc_up l1 (Nat.le_succ _)) h1
theorem pTst_nt {q : xTok} {P : pE → pE} {mx : Nat} (h : Nt mx P) : Nt (mx + 3) (pTst q P) := fun e h0 h1 => by
  unfold pTst at h1 ⊢
  by_cases g : pIsC q 60 (pSum q P e).1 ∨ pIsC q 61 (pSum q P e).1
  · rw [if_pos g] at h1 ⊢
    have z := or0 g
    obtain ⟨c, e1, l1⟩ := pSum_nt h e h0 z
    have z2 : (pSum q P (eS pNext (pSum q P e))).1.2 = 0 := h1
    obtain ⟨c2, e2, l2⟩ := pSum_nt h (eS pNext (pSum q P e)) (by rw [eNext z]) z2
    refine ⟨c ++ (c2 ++ [(if pIsC q 60 (pSum q P e).1 then 7 else 8, 0)]), ?_, lPc_op l1 l2 (by omega) (by split <;> decide) (by split <;> decide)⟩
    rw [em_if]
    show (pSum q P (eS pNext (pSum q P e))).2 ++ [_] = _
    rw [e2, show (eS pNext (pSum q P e)).2 = (pSum q P e).2 from rfl, e1]
    simp only [List.append_assoc]
  · rw [if_neg g] at h1 ⊢
    obtain ⟨c, e1, l1⟩ := pSum_nt h e h0 h1
    exact ⟨c, e1, lPc_up l1 (Nat.le_succ _)⟩
theorem pAll_nt {q : xTok} {P : pE → pE} {mx : Nat} (h : Nt mx P) : Nt (mx + 4) (pAll q P) := fun e h0 h1 => by
  unfold pAll at h1 ⊢
  simp only [em_if] at h1 ⊢
  have z : (pTst q P e).1.2 = 0 := Decidable.of_not_not (fun y => y (by rw [lp_fx (fun e z => orW0 z) 1000 _ y] at h1; exact h1))
  obtain ⟨c, e1, l1⟩ := pTst_nt h e h0 z
  exact lp_nt (c := fun e => pIsW q 20 e.1 ∨ pIsW q 21 e.1) (o := fun e => if pIsW q 20 e.1 then 9 else 10) (fun e z => orW0 z) (pTst_nt h) (fun e => by split <;> decide) 1000 (pTst q P e) z e.2 c e1 (lPc_up l1 (Nat.le_succ _)) h1
theorem lPc_1 {o a mx : Nat} (ho : o = 1 ∨ o = 2) (h1 : o = 1 → a < 10000) (h2 : o = 2 → a < 4) (hm : 1 ≤ mx) : lPc mx [(o, a)] := fun h r hh hr => by
  show 1 ≤ o ∧ o ≤ 10 ∧ (o = 1 → a < 10000) ∧ (o = 2 → a < 4) ∧ if o ≤ 2 then h + 1 ≤ 24 ∧ lSafe 24 r (h + 1) else _
  rw [if_pos (by omega)]
  exact ⟨by omega, by omega, h1, h2, by omega, hr⟩
theorem pAll_first {q : xTok} {P : pE → pE} (hx : Fx P) {e : pE} (h : (pAll q P e).1.2 = 0) : (P e).1.2 = 0 := by
  have z1 : (pTst q P e).1.2 = 0 := Decidable.of_not_not (fun y => y (by unfold pAll at h; rw [lp_fx (fun e z => orW0 z) 1000 _ y] at h; exact h))
  have z2 : (pSum q P e).1.2 = 0 := by
    unfold pTst at z1
    by_cases g : pIsC q 60 (pSum q P e).1 ∨ pIsC q 61 (pSum q P e).1
    · exact or0 g
    · rw [if_neg g] at z1; exact z1
  have z3 : (pProd q P e).1.2 = 0 := Decidable.of_not_not (fun y => y (by unfold pSum at z2; rw [lp_fx (fun e z => or0 z) 1000 _ y] at z2; exact z2))
  exact Decidable.of_not_not (fun y => y (by unfold pProd at z3; rw [lp_fx (fun e z => z.1) 1000 _ y] at z3; exact z3))
theorem pPart_nt {q : xTok} (hq : ∀ i, (q i).1 = 2 → (q i).2.1 < 10000) : ∀ d, Nt (4 * d - 3) (pPart q d)
  | 0 => fun e h0 h1 => by
    exfalso
    have h2 : (pRef q 5 (if pStart q e.1 then e.1 else pRef q 1 e.1)).2 = 0 := h1
    exact pRef_ne (by decide) h2
  | d + 1 => fun e h0 h1 => by
    have ih := pPart_nt hq d
    unfold pPart at h1 ⊢
    rw [if_neg (fun z => z h0)] at h1 ⊢
    split at h1
    · rename_i g
      rw [if_pos g]
      exact ⟨[(1, (q e.1.1).2.1)], rfl, lPc_1 (Or.inl rfl) (fun _ => hq _ g) (fun z => (by cases z)) (by omega)⟩
    · rename_i g
      rw [if_neg g]
      split at h1
      · rename_i g2
        rw [if_pos g2]
        refine ⟨[(2, (wHr q 22 4 e.1).getD 0)], rfl, lPc_1 (Or.inr rfl) (fun z => by cases z) (fun _ => ?_) (by omega)⟩
        cases e9 : wHr q 22 4 e.1 with
        | none => exact absurd e9 g2
        | some f => exact (wHr_is e9).1
      · rename_i g2
        rw [if_neg g2]
        split at h1
        · rename_i g3
          rw [if_pos g3]
          have z2 : (pPart q d (eS pNext e)).1.2 = 0 := h1
          obtain ⟨c, e1, l1⟩ := ih (eS pNext e) (by rw [eNext h0]) z2
          refine ⟨c ++ [(3, 0)], ?_, fun h r hm hr => ?_⟩
          · show (pPart q d (eS pNext e)).2 ++ [(3, 0)] = _
            rw [e1, show (eS pNext e).2 = e.2 from rfl, List.append_assoc]
          · rw [List.append_assoc]
            refine l1 h _ (by omega) ?_
            show 1 ≤ 3 ∧ 3 ≤ 10 ∧ (3 = 1 → 0 < 10000) ∧ (3 = 2 → 0 < 4) ∧ (1 ≤ h + 1 ∧ lSafe 24 r (h + 1))
            exact ⟨by decide, by decide, fun z => (by cases z), fun z => (by cases z), by omega, hr⟩
        · rename_i g3
          rw [if_neg g3]
          split at h1
          · rename_i g4
            rw [if_pos g4]
            have h2 : (pSign q 41 (pAll q (pPart q d) (eS pNext e)).1).2 = 0 := h1
            have z := pz (f := pSign q 41) (fun y => pSign_f y) h2
            obtain ⟨c, e1, l1⟩ := pAll_nt ih (eS pNext e) (by rw [eNext h0]) z
            cases d with
            | zero =>
              exfalso
              have z3 : (pRef q 5 (if pStart q (eS pNext e).1 then (eS pNext e).1 else pRef q 1 (eS pNext e).1)).2 = 0 := pAll_first (pPart_fx 0) z
              exact pRef_ne (by decide) z3
            | succ d => exact ⟨c, e1, lPc_up l1 (by omega)⟩
          · exact absurd h1 (pRef_ne (by decide))
