/-! WHAT HOLDS BETWEEN TWO CALLS -/
def RI (R : xTR) (f g e h : Nat) : Prop := (f ∈ [7, 16] ∧ g ∈ [7, 16] ∧ f ≠ g) ∧ (e = 25 ∨ e = 29) ∧ (h = 25 ∨ h = 29) ∧ e ≠ h ∧ R 0 2 = some f ∧ R 0 3 = some g ∧ R 0 4 = some e ∧ R 0 5 = some h ∧ wOr (R 1 7) ∧ ∀ q ∈ RTAB, R q.1 q.2.1 = some q.2.2
/-- the class's side -/
def CI (R : xTR) (I : xTI) (J : xTJ) (f g e h : Nat) (tp : Nat → Nat) (n : Nat) (F : pF) (lw : Option (List (Nat × Nat))) (x : xRow) (us : Nat → xRow) (u : Nat) (td : xRow) (mk : Nat → Bool) (mx mt : Nat → xRow) (ev : Nat) (ln : Nat → Nat × Nat × Nat × Nat) : Prop := RI R f g e h ∧ FOk F ∧ FCore I f (fRow F lw.isSome) lw F.1.1 F.1.2.1 F.1.2.2.1 x ∧ CFm I J f F ∧ CTp I tp n ∧ CPast I F.1.2.1 us u ∧ tFd I td ∧ CMarks I F.1.2.1 mk mx mt ∧ CEv I e F ev ln
/-- the reference's side -/
def MI (I : xTI) (J : xTJ) (tp : Nat → Nat) (n : Nat) (F : pF) (lw : Option (List (Nat × Nat))) (x : xRow) (us : Nat → xRow) (u : Nat) (td : xRow) (mk : Nat → Bool) (mx mt : Nat → xRow) (ev : Nat) (ln : Nat → Nat × Nat × Nat × Nat) : Prop := MCore I (fRow F lw.isSome) lw F.1.1 F.1.2.1 F.1.2.2.1 x ∧ MTp I tp n ∧ (∀ i, i < 26 → J 140 i = Int64.ofNat (cv (wCd i))) ∧ NmN I J (F.1.1 + F.1.2.2.1) F ∧ MPast I us u ∧ tMd I td ∧ MMarks I mk mx mt ∧ I 148 0 = nI ev ∧ ∀ i, i < ev → RLn I (1 + 4 * i) F (ln i)
/-- a hall as it may be after so many calls -/
def okH (F : pF) (q : Nat) (x : xRow) : Prop := WFx x F.1.1 F.1.2.1 F.1.2.2.1 ∧ ∃ r, r ≤ q ∧ x 1 = nI r
def WS (q : Nat) (F : pF) (x : xRow) (us : Nat → xRow) (u : Nat) (td : xRow) (mk : Nat → Bool) (mx mt : Nat → xRow) (ev : Nat) : Prop := okH F q x ∧ (∀ j, j < u → okH F q (us j)) ∧ hTd td ∧ (∀ m, m < 4 → mk m = true → okH F q (mx m) ∧ hTd (mt m)) ∧ ev ≤ 40
theorem okH.up {F : pF} {q : Nat} {x : xRow} (h : okH F q x) : okH F (q + 1) x := by
  obtain ⟨h1_, r, h2_, h3_⟩ := h
  exact ⟨h1_, r, by omega, h3_⟩
theorem WS.up {q : Nat} {F : pF} {x : xRow} {us : Nat → xRow} {u : Nat} {td : xRow} {mk : Nat → Bool} {mx mt : Nat → xRow} {ev : Nat} (h : WS q F x us u td mk mx mt ev) : WS (q + 1) F x us u td mk mx mt ev := ⟨h.1.up, fun j hj => (h.2.1 j hj).up, h.2.2.1, fun m h1_ h2_ => ⟨(h.2.2.2.1 m h1_ h2_).1.up, (h.2.2.2.1 m h1_ h2_).2⟩, h.2.2.2.2⟩
theorem f_small {f : Nat} (h : f ∈ [7, 16]) : f = 7 ∨ f = 16 := by
  rcases List.mem_cons.mp h with h | h
  · exact Or.inl h
  · rcases List.mem_cons.mp h with h | h
    · exact Or.inr h
    · cases h
theorem FCore.hall2 {I I' : xTI} {f T N V : Nat} {fl x y : xRow} {lw : Option (List (Nat × Nat))} (h : FCore I f fl lw T N V x) (q : FD I I') (r : RHall I' 33 y N) (w : WFx y T N V) : FCore I' f fl lw T N V y := by
  obtain ⟨h1_, h2_, h3_, h4_, h5_⟩ := h
  have hf := f_small h1_
  exact ⟨h1_, h2_, h3_.congr (fun i hi => q _ (Or.inl (by omega)) (by omega)), r, w⟩
theorem CI.fd {R : xTR} {I I' : xTI} {J J' : xTJ} {f g e h : Nat} {tp : Nat → Nat} {n : Nat} {F : pF} {lw : Option (List (Nat × Nat))} {x : xRow} {us : Nat → xRow} {u : Nat} {td : xRow} {mk : Nat → Bool} {mx mt : Nat → xRow} {ev : Nat} {ln : Nat → Nat × Nat × Nat × Nat} {y : xRow} {us2_ : Nat → xRow} {u2n : Nat} (H : CI R I J f g e h tp n F lw x us u td mk mx mt ev ln) (q : FD I I') (j : ∀ a, a < 33 → J' a = J a) (r : RHall I' 33 y F.1.2.1) (p : CPast I' F.1.2.1 us2_ u2n) (w : WFx y F.1.1 F.1.2.1 F.1.2.2.1) : CI R I' J' f g e h tp n F lw y us2_ u2n td mk mx mt ev ln := by
  obtain ⟨h1_, h2_, h3_, h4_, h5_, h6_, h7_, h8_, h9_⟩ := H
  have hf := f_small h1_.1.1
  have he := h1_.2.1
  refine ⟨h1_, h2_, h3_.hall2 q r w, h4_.congr ?_ ?_ ?_ (fun k h1_ h2_ => q _ (Or.inl (by omega)) (by omega)) (j _ (by omega)) (j _ (by omega)), ⟨?_, h5_.2.1, fun i hi => ?_⟩, p, fun i hi => ?_, h8_.fd q, h9_.congr (fun k hk => q _ (Or.inl (by omega)) (by omega))⟩
  · rw [q f (Or.inl (by omega)) (by omega)]
  · rw [q f (Or.inl (by omega)) (by omega)]
  · rw [q f (Or.inl (by omega)) (by omega)]
  · rw [q 1 (Or.inl (by omega)) (by omega)]; exact h5_.1
  · rw [q 2 (Or.inl (by omega)) (by omega)]; exact h5_.2.2 i hi
  · rw [q 108 (Or.inr (by omega)) (by omega)]; exact h7_ i hi
theorem CI.fq {R : xTR} {I I' : xTI} {J J' : xTJ} {f g e h : Nat} {tp : Nat → Nat} {n : Nat} {F : pF} {lw : Option (List (Nat × Nat))} {x : xRow} {us : Nat → xRow} {u : Nat} {td : xRow} {mk : Nat → Bool} {mx mt : Nat → xRow} {ev : Nat} {ln : Nat → Nat × Nat × Nat × Nat} (H : CI R I J f g e h tp n F lw x us u td mk mx mt ev ln) (q : FQ I I') (j : ∀ a, a < 33 → J' a = J a) : CI R I' J' f g e h tp n F lw x us u td mk mx mt ev ln := by
  have h3_ := H.2.2.1
  exact H.fd (FD.fq q) j (h3_.2.2.2.1.congr fun i hi => q _ (by omega) (by omega) (by omega) (by omega) (by omega)) (H.2.2.2.2.2.1.fq q) h3_.2.2.2.2
theorem CI.lo {R : xTR} {I I' : xTI} {J J' : xTJ} {f g e h : Nat} {tp : Nat → Nat} {n : Nat} {F : pF} {lw : Option (List (Nat × Nat))} {x : xRow} {us : Nat → xRow} {u : Nat} {td : xRow} {mk : Nat → Bool} {mx mt : Nat → xRow} {ev : Nat} {ln : Nat → Nat × Nat × Nat × Nat} (H : CI R I J f g e h tp n F lw x us u td mk mx mt ev ln) (q : ∀ a, a < 135 → I' a = I a) (j : ∀ a, a < 33 → J' a = J a) : CI R I' J' f g e h tp n F lw x us u td mk mx mt ev ln := by
  obtain ⟨h1_, h2_, h3_, h4_, h5_, h6_, h7_, h8_, h9_⟩ := H
  have hf := f_small h1_.1.1
  have he := h1_.2.1
  refine ⟨h1_, h2_, ⟨h3_.1, h3_.2.1, h3_.2.2.1.congr (fun i hi => q _ (by omega)), h3_.2.2.2.1.congr (fun i hi => q _ (by omega)), h3_.2.2.2.2⟩, h4_.congr ?_ ?_ ?_ (fun k h1_ h2_ => q _ (by omega)) (j _ (by omega)) (j _ (by omega)), ⟨?_, h5_.2.1, fun i hi => ?_⟩, h6_.congr (fun a h1_ h2_ => q a (by omega)), fun i hi => ?_, h8_.congr (fun a h1_ h2_ => q a h2_), h9_.congr (fun k hk => q _ (by omega))⟩
  · rw [q f (by omega)]
  · rw [q f (by omega)]
  · rw [q f (by omega)]
  · rw [q 1 (by omega)]; exact h5_.1
  · rw [q 2 (by omega)]; exact h5_.2.2 i hi
  · rw [q 108 (by omega)]; exact h7_ i hi
theorem MLaw.congr2 {I I' : xTI} {fl : xRow} {lw : Option (List (Nat × Nat))} (h : MLaw I fl lw) (e1_ : I' 142 = I 142) (e2_ : I' 143 = I 143) : MLaw I' fl lw := by
  cases lw with
  | none => exact h
  | some cl =>
    refine ⟨h.1, ?_⟩
    have h2_ := h.2
    unfold MCode at h2_ ⊢
    rw [e1_, e2_]
    exact h2_
theorem MI.md {I I' : xTI} {J J' : xTJ} {tp : Nat → Nat} {n : Nat} {F : pF} {lw : Option (List (Nat × Nat))} {x : xRow} {us : Nat → xRow} {u : Nat} {td : xRow} {mk : Nat → Bool} {mx mt : Nat → xRow} {ev : Nat} {ln : Nat → Nat × Nat × Nat × Nat} {y : xRow} {us2_ : Nat → xRow} {u2n : Nat} (H : MI I J tp n F lw x us u td mk mx mt ev ln) (q : MD I I') (j : ∀ a, 136 ≤ a → J' a = J a) (r : MHall I' 0 y) (p : MPast I' us2_ u2n) (w : WFx y F.1.1 F.1.2.1 F.1.2.2.1) : MI I' J' tp n F lw y us2_ u2n td mk mx mt ev ln := by
  obtain ⟨h1_, h2_, h3_, h4_, h5_, h6_, h7_, h8_, h9_⟩ := H
  have e : ∀ a, a ≠ 135 → a ≠ 149 → a ≠ 150 → a ≠ 151 → a ≠ 153 → a ≠ 154 → I' a = I a := q.1
  refine ⟨⟨h1_.1, fun i hi => ?_, h1_.2.2.1.congr2 (e 142 (by decide) (by decide) (by decide) (by decide) (by decide) (by decide)) (e 143 (by decide) (by decide) (by decide) (by decide) (by decide) (by decide)), r, w⟩, ⟨?_, h2_.2.1, fun i hi => ?_⟩, fun i hi => ?_, ⟨?_, h4_.2.1.congr (e 146 (by decide) (by decide) (by decide) (by decide) (by decide) (by decide)) (j 144 (by decide)), h4_.2.2⟩, p, fun i hi => ?_, h7_.md q, ?_, fun i hi => (h9_ i hi).congr (fun k hk => ?_)⟩
  · rw [e 141 (by decide) (by decide) (by decide) (by decide) (by decide) (by decide)]; exact h1_.2.1 i hi
  · rw [q.2.1 2 (by decide) (by decide)]; exact h2_.1
  · rw [e 136 (by decide) (by decide) (by decide) (by decide) (by decide) (by decide)]; exact h2_.2.2 i hi
  · rw [j 140 (by decide)]; exact h3_ i hi
  · rw [q.2.1 18 (by decide) (by decide)]; exact h4_.1
  · rw [q.2.2 (62 + i) (by omega) (by omega)]; exact h6_ i hi
  · rw [e 148 (by decide) (by decide) (by decide) (by decide) (by decide) (by decide)]; exact h8_
  · rw [e 148 (by decide) (by decide) (by decide) (by decide) (by decide) (by decide)]
theorem MI.mq {I I' : xTI} {J J' : xTJ} {tp : Nat → Nat} {n : Nat} {F : pF} {lw : Option (List (Nat × Nat))} {x : xRow} {us : Nat → xRow} {u : Nat} {td : xRow} {mk : Nat → Bool} {mx mt : Nat → xRow} {ev : Nat} {ln : Nat → Nat × Nat × Nat × Nat} (H : MI I J tp n F lw x us u td mk mx mt ev ln) (q : MQs I I') (j : ∀ a, 136 ≤ a → J' a = J a) : MI I' J' tp n F lw x us u td mk mx mt ev ln := by
  have h1_ := H.1
  exact H.md (MD.mq q) j (fun i hi => by rw [q.2.2 _ (by omega)]; exact h1_.2.2.2.1 i hi) (H.2.2.2.2.1.mq q) h1_.2.2.2.2
theorem MI.hi {I I' : xTI} {J J' : xTJ} {tp : Nat → Nat} {n : Nat} {F : pF} {lw : Option (List (Nat × Nat))} {x : xRow} {us : Nat → xRow} {u : Nat} {td : xRow} {mk : Nat → Bool} {mx mt : Nat → xRow} {ev : Nat} {ln : Nat → Nat × Nat × Nat × Nat} (H : MI I J tp n F lw x us u td mk mx mt ev ln) (q : ∀ a, 135 ≤ a → I' a = I a) (j : ∀ a, 136 ≤ a → J' a = J a) : MI I' J' tp n F lw x us u td mk mx mt ev ln := by
  obtain ⟨h1_, h2_, h3_, h4_, h5_, h6_, h7_, h8_, h9_⟩ := H
  refine ⟨⟨h1_.1, fun i hi => ?_, h1_.2.2.1.congr2 (q 142 (by decide)) (q 143 (by decide)), fun i hi => ?_, h1_.2.2.2.2⟩, ⟨?_, h2_.2.1, fun i hi => ?_⟩, fun i hi => ?_, ⟨?_, h4_.2.1.congr (q 146 (by decide)) (j 144 (by decide)), h4_.2.2⟩, h5_.congr (by rw [q 135 (by decide)]) (fun k _ _ => by rw [q 151 (by decide)]), fun i hi => ?_, h7_.congr (q 152 (by decide)) (fun k _ _ => by rw [q 151 (by decide)]), ?_, fun i hi => (h9_ i hi).congr (fun k hk => ?_)⟩
  · rw [q 141 (by decide)]; exact h1_.2.1 i hi
  · rw [q 151 (by decide)]; exact h1_.2.2.2.1 i hi
  · rw [q 135 (by decide)]; exact h2_.1
  · rw [q 136 (by decide)]; exact h2_.2.2 i hi
  · rw [j 140 (by decide)]; exact h3_ i hi
  · rw [q 135 (by decide)]; exact h4_.1
  · rw [q 151 (by decide)]; exact h6_ i hi
  · rw [q 148 (by decide)]; exact h8_
  · rw [q 148 (by decide)]
/-- evenings as the questions want them -/
theorem dOk_l {F : pF} {N : Nat} {c : Nat × Nat × Nat × Nat} (h : lOk F c) : dOk F.1.1 N F.1.2.2.1 c.1 c.2.1 c.2.2.1 c.2.2.2 := h
theorem CEv.eFd {I : xTI} {e N ev : Nat} {F : pF} {ln : Nat → Nat × Nat × Nat × Nat} (h : CEv I e F ev ln) (he : e = 25 ∨ e = 29) : eFd I e F.1.1 N F.1.2.2.1 ev ln := ⟨he, h.1, h.2.1, fun i hi => by
  obtain ⟨a1_, a2_, a3_, a4_, a5_⟩ := h.2.2 i hi
  exact ⟨dOk_l a1_, a2_, a3_, a4_, a5_⟩⟩
theorem RLn_eMd {I : xTI} {N ev : Nat} {F : pF} {ln : Nat → Nat × Nat × Nat × Nat} (h4_ : ev ≤ 40) (h0_ : I 148 0 = nI ev) (h : ∀ i, i < ev → RLn I (1 + 4 * i) F (ln i)) : eMd I F.1.1 N F.1.2.2.1 ev ln := ⟨h4_, h0_, fun i hi => by
  obtain ⟨a1_, a2_, a3_, a4_, a5_⟩ := h i hi
  rw [show 1 + 4 * i + 1 = 2 + 4 * i by omega] at a3_
  rw [show 1 + 4 * i + 2 = 3 + 4 * i by omega] at a4_
  rw [show 1 + 4 * i + 3 = 4 + 4 * i by omega] at a5_
  exact ⟨dOk_l a1_, a2_, a3_, fun z => a4_ z, a5_⟩⟩
/-- the deeds: what comes of a hall -/
def dGood (F : pF) (q : Nat) (d : xDd) : Prop := okH F (q + 1) d.2.1
theorem WS.deed {q : Nat} {F : pF} {x : xRow} {us : Nat → xRow} {u : Nat} {td : xRow} {mk : Nat → Bool} {mx mt : Nat → xRow} {ev : Nat} {d : xDd} (h : WS q F x us u td mk mx mt ev) (g : dGood F q d) : WS (q + 1) F d.2.1 (dU d x us) (dN d u) td mk mx mt ev := by
  have h' := h.up
  refine ⟨g, fun j hj => ?_, h'.2.2.1, h'.2.2.2.1, h'.2.2.2.2⟩
  unfold dU
  unfold dN at hj
  by_cases hd : d.2.2 = true
  · rw [if_pos hd] at hj ⊢
    unfold uPush
    by_cases h0_ : j = 0
    · rw [if_pos h0_]; exact h'.1
    · rw [if_neg h0_]
      refine h'.2.1 (j - 1) ?_
      unfold uUp at hj
      split at hj <;> omega
  · rw [if_neg hd] at hj ⊢
    exact h'.2.1 j hj
theorem sShowK_1 {fl x : xRow} {dq : xDq} {k V : Nat} : (sShowK fl dq k V x).1 1 = x 1 := by
  unfold sShowK
  dsimp only
  rw [upd_ne (by decide), upd_ne (by decide)]
  exact sAll_low V 1 (by decide)
theorem WFx_n {x : xRow} {T N V : Nat} (w : WFx x T N V) (hN : N ≤ 8) (h : ¬ x 0 = nI N) : (x 0).toNatClampNeg < N := by
  obtain ⟨⟨s, hs, e⟩, -⟩ := w
  rw [e] at h ⊢
  rw [nI_clamp (by omega)]
  rcases Nat.lt_or_eq_of_le hs with g | g
  · exact g
  · exact absurd (by rw [g]) h
theorem dShow_good {F : pF} {q : Nat} {x : xRow} {lo : Bool} {dq : xDq} (ok : FOk F) (h : okH F q x) : dGood F q (dShow (fRow F lo) dq x F.1.2.1 F.1.2.2.1) := by
  unfold dGood dShow
  by_cases g : x 0 = nI F.1.2.1
  · rw [if_pos g]; exact h.up
  · rw [if_neg g]
    obtain ⟨w, r, hr, e⟩ := h
    exact ⟨sShowK_WFx (fRow_WFl ok) w (WFx_n w ok.2.1 g), r, by omega, sShowK_1.trans e⟩
theorem i_ofr {k : Int32} {N : Nat} (hN : N < 100) (h : 0 ≤ k ∧ k < nI N) : k.toNatClampNeg < N ∧ k = nI k.toNatClampNeg := by
  obtain ⟨a, ha, e⟩ := nI_ofi (by omega) h.1 h.2
  rw [e, nI_clamp (by omega)]
  exact ⟨ha, rfl⟩
theorem dWrite_good {F : pF} {q : Nat} {x : xRow} {k t y : Int32} (ok : FOk F) (h : okH F q x) : dGood F q (dWrite x F.1.1 F.1.2.1 k t y) := by
  have k6_ := ok.1
  have k8_ := ok.2.1
  unfold dGood dWrite
  split
  · rename_i g
    obtain ⟨w, r, hr, e⟩ := h
    have g1_ := i_ofr (N := F.1.1) (by omega) g.1
    have g2_ := i_ofr (N := F.1.2.1) (by omega) g.2.1
    refine ⟨WFx_wr w (by omega) k8_ g1_.1 (by unfold bN; split <;> omega), r, by omega, ?_⟩
    show upd (upd x (4 + k.toNatClampNeg) _) (12 + k.toNatClampNeg) _ 1 = _
    rw [upd_ne (by omega), upd_ne (by omega)]
    exact e
  · exact h.up
theorem dCut_good {F : pF} {q : Nat} {x : xRow} {k : Int32} (ok : FOk F) (h : okH F q x) : dGood F q (dCut x F.1.2.1 k) := by
  have k8_ := ok.2.1
  unfold dGood dCut
  split
  · rename_i g
    obtain ⟨w, r, hr, e⟩ := h
    have g2_ := i_ofr (N := F.1.2.1) (by omega) g.1.1
    refine ⟨?_, r, by omega, ?_⟩
    · show WFx (upd x 3 (x 3 ||| (1 : Int32) <<< (k &&& 31))) _ _ _
      rw [g2_.2]
      exact WFx_bit w k8_ g2_.1
    · show upd x 3 (x 3 ||| (1 : Int32) <<< (k &&& 31)) 1 = _
      rw [upd_ne (by decide)]
      exact e
  · exact h.up
theorem dTalk_good {F : pF} {q : Nat} {x : xRow} {lo : Bool} {i j : Int32} (ok : FOk F) (h : okH F q x) : dGood F q (dTalk (fRow F lo) x F.1.1 F.1.2.2.1 i j) := by
  have k6_ := ok.1
  have k7_ := ok.2.2.1
  unfold dGood dTalk
  split
  · rename_i g
    obtain ⟨w, r, hr, e⟩ := h
    have g1_ := i_ofr (N := F.1.2.2.1) (by omega) g.1
    have g2_ := i_ofr (N := F.1.2.2.1) (by omega) g.2.1
    refine ⟨sTalk_WFx (fRow_WFl ok) w g1_.1 g2_.1 _ (Nat.le_refl _), r, by omega, ?_⟩
    show sTalk _ x _ _ _ 1 = _
    rw [sTalk_out _ _ _ _ _ _ (fun z hz => by omega)]
    exact e
  · exact h.up
theorem dAgain_good {F : pF} {q : Nat} {x : xRow} (h : okH F q x) : dGood F q (dAgain x F.1.2.1) := by
  unfold dGood dAgain
  split
  · obtain ⟨w, r, hr, e⟩ := h
    refine ⟨WFx_again w, r + 1, by omega, ?_⟩
    show upd (upd x 0 0) 1 (x 1 + 1) 1 = _
    rw [upd_eq, e]
    exact nI_add r 1
  · exact h.up
