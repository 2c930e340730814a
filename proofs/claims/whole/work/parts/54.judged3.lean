/-! THE QUESTION judged: walked, the reference -/
def eMd (I : xTI) (T N V ev : Nat) (ln : Nat → Nat × Nat × Nat × Nat) : Prop := ev ≤ 40 ∧ I 148 0 = nI ev ∧ ∀ i, i < ev → dOk T N V (ln i).1 (ln i).2.1 (ln i).2.2.1 (ln i).2.2.2 ∧ I 148 (1 + 4 * i) = nI (ln i).1 ∧ ((ln i).1 = 1 ∨ (ln i).1 = 2 ∨ (ln i).1 = 3 → I 148 (2 + 4 * i) = nI (ln i).2.1) ∧ ((ln i).1 = 1 ∨ (ln i).1 = 3 → I 148 (3 + 4 * i) = nI (ln i).2.2.1) ∧ ((ln i).1 = 1 → I 148 (4 + 4 * i) = nI (ln i).2.2.2)
theorem eMd.mq {I I' : xTI} {T N V ev : Nat} {ln : Nat → Nat × Nat × Nat × Nat} (h : eMd I T N V ev ln) (q : MQs I I') : eMd I' T N V ev ln := by
  unfold eMd
  rw [q.1 148 (by decide) (by decide) (by decide) (by decide) (by decide) (by decide)]
  exact h
theorem jR_or {fl : xRow} {dq : xDq} {T N V : Nat} {ln : Nat → Nat × Nat × Nat × Nat} : ∀ i, jR fl dq T N V ln i = -1 ∨ ∃ m, m < i ∧ jR fl dq T N V ln i = nI m
  | 0 => Or.inl rfl
  | i + 1 => by
    have ih := jR_or (fl := fl) (dq := dq) (T := T) (N := N) (V := V) (ln := ln) i
    have up := ih.imp id (fun ⟨m, hm, e⟩ => (⟨m, by omega, e⟩ : ∃ m, m < i + 1 ∧ jR fl dq T N V ln i = nI m))
    unfold jR
    split
    · exact up
    · split
      · exact Or.inr ⟨i, by omega, rfl⟩
      · exact up
theorem jL_or {fl : xRow} {dq : xDq} {T N V : Nat} {ln : Nat → Nat × Nat × Nat × Nat} : ∀ i, jL fl dq T N V ln i = -1 ∨ ∃ m, m < i ∧ jL fl dq T N V ln i = nI m
  | 0 => Or.inl rfl
  | i + 1 => by
    have ih := jL_or (fl := fl) (dq := dq) (T := T) (N := N) (V := V) (ln := ln) i
    have up := ih.imp id (fun ⟨m, hm, e⟩ => (⟨m, by omega, e⟩ : ∃ m, m < i + 1 ∧ jL fl dq T N V ln i = nI m))
    unfold jL
    split
    · split
      · exact Or.inr ⟨i, by omega, rfl⟩
      · exact up
    · exact up
theorem m1_ge {v : Int32} {i : Nat} (hi : i < 2 ^ 31) (h : v = -1 ∨ ∃ m, m < i ∧ v = nI m) : 0 ≤ v ↔ ¬ v = -1 := by
  rcases h with rfl | ⟨m, hm, rfl⟩
  · decide
  · have h0 := nI_pos' (n := m) (by omega)
    exact ⟨fun _ q => by rw [q] at h0; exact absurd h0 (by decide), fun _ => h0⟩
