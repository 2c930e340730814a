/-! WHAT A CALL FINDS AND LEAVES -/
def FCore (I : xTI) (f : Nat) (fl : xRow) (lw : Option (List (Nat × Nat))) (T N V : Nat) (x : xRow) : Prop := f ∈ [7, 16] ∧ WFl fl T N V ∧ RFilm I f fl (sDq fl lw) N V ∧ RHall I 33 x N ∧ WFx x T N V
def MCore (I : xTI) (fl : xRow) (lw : Option (List (Nat × Nat))) (T N V : Nat) (x : xRow) : Prop := WFl fl T N V ∧ MFilm I fl ∧ MLaw I fl lw ∧ MHall I 0 x ∧ WFx x T N V
/-- a question of the class leaves all but its scratch rows as they were -/
def FQ (I I' : xTI) : Prop := ∀ a, a ≠ 37 → a ≠ 38 → a ≠ 39 → a ≠ 40 → a ≠ 109 → I' a = I a
/-- so does one of the reference -/
def MQs (I I' : xTI) : Prop := (∀ a, a ≠ 135 → a ≠ 149 → a ≠ 150 → a ≠ 151 → a ≠ 153 → a ≠ 154 → I' a = I a) ∧ (∀ k, k ≠ 0 → I' 135 k = I 135 k) ∧ (∀ j, j < 2058 → I' 151 j = I 151 j)
theorem FQ.rf {I : xTI} : FQ I I := fun _ _ _ _ _ _ => rfl
theorem FQ.trans {I I1 I2 : xTI} (a : FQ I I1) (b : FQ I1 I2) : FQ I I2 := fun q h1 h2 h3 h4 h5 => (b q h1 h2 h3 h4 h5).trans (a q h1 h2 h3 h4 h5)
theorem FQ.hall {I I' : xTI} (h : xSame I I' 37) : FQ I I' := fun a h1 _ h3 h4 _ => h a h1 h3 h4
theorem FQ.copy {I : xTI} : FQ I (uhall I 37 33) := fun a h1 h2 h3 h4 _ => uhall_row I h1 h2 h3 h4
theorem MQs.rf {I : xTI} : MQs I I := ⟨fun _ _ _ _ _ _ _ => rfl, fun _ _ => rfl, fun _ _ => rfl⟩
theorem MQs.trans {I I1 I2 : xTI} (a : MQs I I1) (b : MQs I1 I2) : MQs I I2 := ⟨fun q h1 h2 h3 h4 h5 h6 => (b.1 q h1 h2 h3 h4 h5 h6).trans (a.1 q h1 h2 h3 h4 h5 h6), fun k h => (b.2.1 k h).trans (a.2.1 k h), fun j h => (b.2.2 j h).trans (a.2.2 j h)⟩
theorem MQs.thrown {I : xTI} {v : Int32} : MQs I (u2 I 135 0 v) := ⟨fun a h _ _ _ _ _ => u2_row _ _ _ h, fun k h => u2_off _ _ h, fun j _ => by rw [u2_row _ _ _ (by decide)]⟩
theorem MQs.same {I I' : xTI} {b : Nat} (h : MSame I I' b) (hb : 2058 ≤ b) : MQs I I' := ⟨fun a h1 h2 h3 h4 h5 _ => h.1 a h2 h3 h4 h5, fun k _ => by rw [h.1 135 (by decide) (by decide) (by decide) (by decide)], fun j hj => h.2 j (Or.inl (by omega))⟩
theorem MQs.copy {I : xTI} {fr to n : Nat} (hb : 2058 ≤ to) : MQs I (ucp I fr to n) := ⟨fun a _ _ _ h _ _ => ucp_row I h, fun k _ => by rw [ucp_row I (by decide)], fun j hj => by unfold ucp; rw [if_neg (by omega)]⟩
theorem FCore.fq {I I' : xTI} {f : Nat} {fl : xRow} {lw : Option (List (Nat × Nat))} {T N V : Nat} {x : xRow} (h : FCore I f fl lw T N V x) (q : FQ I I') : FCore I' f fl lw T N V x := by
  obtain ⟨h1, h2, h3, h4, h5⟩ := h
  refine ⟨h1, h2, h3.congr fun i hi => ?_, h4.congr fun i hi => q _ (by omega) (by omega) (by omega) (by omega) (by omega), h5⟩
  rcases List.mem_cons.mp h1 with rfl | h1
  · exact q _ (by omega) (by omega) (by omega) (by omega) (by omega)
  · rcases List.mem_cons.mp h1 with rfl | h1
    · exact q _ (by omega) (by omega) (by omega) (by omega) (by omega)
    · cases h1
theorem MCore.mq {I I' : xTI} {fl : xRow} {lw : Option (List (Nat × Nat))} {T N V : Nat} {x : xRow} (h : MCore I fl lw T N V x) (q : MQs I I') : MCore I' fl lw T N V x := by
  obtain ⟨h1, h2, h3, h4, h5⟩ := h
  refine ⟨h1, fun i hi => ?_, ?_, fun i hi => ?_, h5⟩
  · rw [q.1 141 (by decide) (by decide) (by decide) (by decide) (by decide) (by decide)]; exact h2 i hi
  · cases lw with
    | none => exact h3
    | some cl =>
      refine ⟨h3.1, ?_⟩
      unfold MCode
      rw [q.1 142 (by decide) (by decide) (by decide) (by decide) (by decide) (by decide), q.1 143 (by decide) (by decide) (by decide) (by decide) (by decide) (by decide)]
      exact h3.2
  · rw [q.2.2 _ (by omega)]; exact h4 i hi
theorem nI_ofi' {i : Int32} {n : Nat} {v : Int32} (e : v = nI n) (hn : n < 2 ^ 31) (h : 0 ≤ i ∧ i < v) : ∃ k, k < n ∧ i = nI k := nI_ofi hn h.1 (e ▸ h.2)
theorem nI_val {k n : Nat} {v : Int32} (e : v = nI n) (hk : k < n) (hn : n < 2 ^ 31) : 0 ≤ nI k ∧ nI k < v := ⟨nI_pos' (by omega), e ▸ nI_lt hk hn⟩
