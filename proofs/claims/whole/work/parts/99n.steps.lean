/-! FROM ONE CALL TO THE NEXT -/
def WL (R : xTR) (I : xTI) (J : xTJ) (f g e h : Nat) (tp : Nat → Nat) (n : Nat) (F : pF) (lw : Option (List (Nat × Nat))) (x : xRow) (us : Nat → xRow) (u : Nat) (td : xRow) (mk : Nat → Bool) (mx mt : Nat → xRow) (ev : Nat) (ln : Nat → Nat × Nat × Nat × Nat) (q : Nat) : Prop := CI R I J f g e h tp n F lw x us u td mk mx mt ev ln ∧ MI I J tp n F lw x us u td mk mx mt ev ln ∧ WS q F x us u td mk mx mt ev
theorem CI.re {R : xTR} {I : xTI} {J : xTJ} {f g e h : Nat} {tp : Nat → Nat} {n : Nat} {F : pF} {lw : Option (List (Nat × Nat))} {x : xRow} {us : Nat → xRow} {u : Nat} {td : xRow} {mk : Nat → Bool} {mx mt : Nat → xRow} {ev : Nat} {ln : Nat → Nat × Nat × Nat × Nat} {R' : xTR} {I' : xTI} {J' : xTJ} {e' h' : Nat} {tp' : Nat → Nat} {n' : Nat} {x' : xRow} {us' : Nat → xRow} {u' : Nat} {td' : xRow} {mk' : Nat → Bool} {mx' mt' : Nat → xRow} {ev' : Nat} {ln' : Nat → Nat × Nat × Nat × Nat} (H : CI R I J f g e h tp n F lw x us u td mk mx mt ev ln) (hR : RI R' f g e' h') (qf : ∀ a, f ≤ a → a < f + 9 → I' a = I a) (jf : ∀ a, f ≤ a → a < f + 9 → J' a = J a)
    (r : RHall I' 33 x' F.1.2.1) (w : WFx x' F.1.1 F.1.2.1 F.1.2.2.1) (t : CTp I' tp' n') (p : CPast I' F.1.2.1 us' u') (d : tFd I' td') (m : CMarks I' F.1.2.1 mk' mx' mt') (v : CEv I' e' F ev' ln') : CI R' I' J' f g e' h' tp' n' F lw x' us' u' td' mk' mx' mt' ev' ln' := by
  obtain ⟨h1_, h2_, h3_, h4_, h5_, h6_, h7_, h8_, h9_⟩ := H
  refine ⟨hR, h2_, ⟨h3_.1, h3_.2.1, h3_.2.2.1.congr (fun i hi => qf _ (by omega) (by omega)), r, w⟩, h4_.congr ?_ ?_ ?_ (fun k h1_ h2_ => qf _ (by omega) (by omega)) (jf _ (by omega) (by omega)) (jf _ (by omega) (by omega)), t, p, d, m, v⟩
  · rw [qf f (by omega) (by omega)]
  · rw [qf f (by omega) (by omega)]
  · rw [qf f (by omega) (by omega)]
theorem MI.re {I : xTI} {J : xTJ} {tp : Nat → Nat} {n : Nat} {F : pF} {lw : Option (List (Nat × Nat))} {x : xRow} {us : Nat → xRow} {u : Nat} {td : xRow} {mk : Nat → Bool} {mx mt : Nat → xRow} {ev : Nat} {ln : Nat → Nat × Nat × Nat × Nat} {I' : xTI} {J' : xTJ} {tp' : Nat → Nat} {n' : Nat} {x' : xRow} {us' : Nat → xRow} {u' : Nat} {td' : xRow} {mk' : Nat → Bool} {mx' mt' : Nat → xRow} (H : MI I J tp n F lw x us u td mk mx mt ev ln) (q141_ : ∀ i, i < 60 → I' 141 i = I 141 i) (q142_ : ∀ i, i < 1100 → I' 142 i = I 142 i ∧ I' 143 i = I 143 i) (q18_ : I' 135 18 = I 135 18) (q146_ : I' 146 = I 146) (j144_ : J' 144 = J 144) (j140_ : J' 140 = J 140) (hev : ev ≤ 40) (q148_ : ∀ i, i < 165 → I' 148 i = I 148 i)
    (t : MTp I' tp' n') (r : MHall I' 0 x') (w : WFx x' F.1.1 F.1.2.1 F.1.2.2.1) (p : MPast I' us' u') (d : tMd I' td') (m : MMarks I' mk' mx' mt') : MI I' J' tp' n' F lw x' us' u' td' mk' mx' mt' ev ln := by
  obtain ⟨h1_, h2_, h3_, h4_, h5_, h6_, h7_, h8_, h9_⟩ := H
  have hl : MLaw I' (fRow F lw.isSome) lw := by
    have a := h1_.2.2.1
    cases lw with
    | none => exact a
    | some cl =>
      refine ⟨a.1, ?_⟩
      obtain ⟨b1_, b2_, b3_, b4_⟩ := a.2
      exact ⟨fun i hi => by rw [(q142_ i (by omega)).1, (q142_ i (by omega)).2]; exact b1_ i hi, by rw [(q142_ _ (by omega)).1]; exact b2_, b3_, b4_⟩
  refine ⟨⟨h1_.1, fun i hi => by rw [q141_ i hi]; exact h1_.2.1 i hi, hl, r, w⟩, t, fun i hi => by rw [j140_]; exact h3_ i hi, ⟨by rw [q18_]; exact h4_.1, h4_.2.1.congr q146_ j144_, h4_.2.2⟩, p, d, m, by rw [q148_ 0 (by decide)]; exact h8_, fun i hi => (h9_ i hi).congr (fun k hk => q148_ _ (by omega))⟩
theorem WL.fqJ {R : xTR} {I : xTI} {J : xTJ} {f g e h : Nat} {tp : Nat → Nat} {n : Nat} {F : pF} {lw : Option (List (Nat × Nat))} {x : xRow} {us : Nat → xRow} {u : Nat} {td : xRow} {mk : Nat → Bool} {mx mt : Nat → xRow} {ev : Nat} {ln : Nat → Nat × Nat × Nat × Nat} {q : Nat} {I' : xTI} {J' : xTJ} (H : WL R I J f g e h tp n F lw x us u td mk mx mt ev ln q) (a : FQ I I') (j : ∀ a, a ≠ 110 → J' a = J a) : WL R I' J' f g e h tp n F lw x us u td mk mx mt ev ln q := ⟨H.1.fq a (fun z hz => j z (by omega)), H.2.1.hi (fun z hz => a z (by omega) (by omega) (by omega) (by omega) (by omega)) (fun z hz => j z (by omega)), H.2.2⟩
theorem WL.fq {R : xTR} {I : xTI} {J : xTJ} {f g e h : Nat} {tp : Nat → Nat} {n : Nat} {F : pF} {lw : Option (List (Nat × Nat))} {x : xRow} {us : Nat → xRow} {u : Nat} {td : xRow} {mk : Nat → Bool} {mx mt : Nat → xRow} {ev : Nat} {ln : Nat → Nat × Nat × Nat × Nat} {q : Nat} {I' : xTI} (H : WL R I J f g e h tp n F lw x us u td mk mx mt ev ln q) (a : FQ I I') : WL R I' J f g e h tp n F lw x us u td mk mx mt ev ln q := H.fqJ a (fun _ _ => rfl)
theorem WL.mqJ {R : xTR} {I : xTI} {J : xTJ} {f g e h : Nat} {tp : Nat → Nat} {n : Nat} {F : pF} {lw : Option (List (Nat × Nat))} {x : xRow} {us : Nat → xRow} {u : Nat} {td : xRow} {mk : Nat → Bool} {mx mt : Nat → xRow} {ev : Nat} {ln : Nat → Nat × Nat × Nat × Nat} {q : Nat} {I' : xTI} {J' : xTJ} (H : WL R I J f g e h tp n F lw x us u td mk mx mt ev ln q) (a : MQs I I') (j : ∀ a, a ≠ 135 → J' a = J a) : WL R I' J' f g e h tp n F lw x us u td mk mx mt ev ln q := ⟨H.1.lo (fun z hz => a.1 z (by omega) (by omega) (by omega) (by omega) (by omega) (by omega)) (fun z hz => j z (by omega)), H.2.1.mq a (fun z hz => j z (by omega)), H.2.2⟩
theorem WL.mq {R : xTR} {I : xTI} {J : xTJ} {f g e h : Nat} {tp : Nat → Nat} {n : Nat} {F : pF} {lw : Option (List (Nat × Nat))} {x : xRow} {us : Nat → xRow} {u : Nat} {td : xRow} {mk : Nat → Bool} {mx mt : Nat → xRow} {ev : Nat} {ln : Nat → Nat × Nat × Nat × Nat} {q : Nat} {I' : xTI} (H : WL R I J f g e h tp n F lw x us u td mk mx mt ev ln q) (a : MQs I I') : WL R I' J f g e h tp n F lw x us u td mk mx mt ev ln q := H.mqJ a (fun _ _ => rfl)
theorem WL.up {R : xTR} {I : xTI} {J : xTJ} {f g e h : Nat} {tp : Nat → Nat} {n : Nat} {F : pF} {lw : Option (List (Nat × Nat))} {x : xRow} {us : Nat → xRow} {u : Nat} {td : xRow} {mk : Nat → Bool} {mx mt : Nat → xRow} {ev : Nat} {ln : Nat → Nat × Nat × Nat × Nat} {q : Nat} (H : WL R I J f g e h tp n F lw x us u td mk mx mt ev ln q) : WL R I J f g e h tp n F lw x us u td mk mx mt ev ln (q + 1) := ⟨H.1, H.2.1, H.2.2.up⟩
/-- the row 155 is the law's own -/
theorem WL.out {R : xTR} {I : xTI} {J : xTJ} {f g e h : Nat} {tp : Nat → Nat} {n : Nat} {F : pF} {lw : Option (List (Nat × Nat))} {x : xRow} {us : Nat → xRow} {u : Nat} {td : xRow} {mk : Nat → Bool} {mx mt : Nat → xRow} {ev : Nat} {ln : Nat → Nat × Nat × Nat × Nat} {q : Nat} {J' : xTJ} (H : WL R I J f g e h tp n F lw x us u td mk mx mt ev ln q) (j : ∀ a, a ≠ 155 → J' a = J a) : WL R I J' f g e h tp n F lw x us u td mk mx mt ev ln q := by
  obtain ⟨H1_, H2_, H3_⟩ := H
  refine ⟨H1_.lo (fun _ _ => rfl) (fun z hz => j z (by omega)), ?_, H3_⟩
  exact H2_.re (fun _ _ => rfl) (fun _ _ => ⟨rfl, rfl⟩) rfl rfl (j 144 (by decide)) (j 140 (by decide)) H3_.2.2.2.2 (fun _ _ => rfl) H2_.2.1 H2_.1.2.2.2.1 H2_.1.2.2.2.2 H2_.2.2.2.2.1 H2_.2.2.2.2.2.1 H2_.2.2.2.2.2.2.1
/-- a deed -/
theorem FD.hi {I I' : xTI} (a : FD I I') : ∀ z, 135 ≤ z → I' z = I z := fun z hz => a z (Or.inr (by omega)) (by omega)
theorem MD.lo {I I' : xTI} (a : MD I I') : ∀ z, z < 135 → I' z = I z := fun z hz => a.1 z (by omega) (by omega) (by omega) (by omega) (by omega) (by omega)
theorem WL.hiFD {R : xTR} {I : xTI} {J : xTJ} {f g e h : Nat} {tp : Nat → Nat} {n : Nat} {F : pF} {lw : Option (List (Nat × Nat))} {x : xRow} {us : Nat → xRow} {u : Nat} {td : xRow} {mk : Nat → Bool} {mx mt : Nat → xRow} {ev : Nat} {ln : Nat → Nat × Nat × Nat × Nat} {q : Nat} {I' : xTI} (H : WL R I J f g e h tp n F lw x us u td mk mx mt ev ln q) (a : FD I I') : MI I' J tp n F lw x us u td mk mx mt ev ln := H.2.1.hi a.hi (fun _ _ => rfl)
theorem WL.deed {R : xTR} {I : xTI} {J : xTJ} {f g e h : Nat} {tp : Nat → Nat} {n : Nat} {F : pF} {lw : Option (List (Nat × Nat))} {x : xRow} {us : Nat → xRow} {u : Nat} {td : xRow} {mk : Nat → Bool} {mx mt : Nat → xRow} {ev : Nat} {ln : Nat → Nat × Nat × Nat × Nat} {q : Nat} {I1_ I2_ : xTI} {d : xDd} (H : WL R I J f g e h tp n F lw x us u td mk mx mt ev ln q) (gd : dGood F q d) (a : FDp I F.1.2.1 us u x d I1_) (b : MDp I1_ us u x d I2_) : WL R I2_ J f g e h tp n F lw d.2.1 (dU d x us) (dN d u) td mk mx mt ev ln (q + 1) :=
  ⟨(H.1.fd a.1 (fun _ _ => rfl) a.2.1 a.2.2 gd.1).lo b.1.lo (fun _ _ => rfl), (H.hiFD a.1).md b.1 (fun _ _ => rfl) b.2.1 b.2.2 gd.1, H.2.2.deed gd⟩
theorem WL.undo {R : xTR} {I : xTI} {J : xTJ} {f g e h : Nat} {tp : Nat → Nat} {n : Nat} {F : pF} {lw : Option (List (Nat × Nat))} {x : xRow} {us : Nat → xRow} {u : Nat} {td : xRow} {mk : Nat → Bool} {mx mt : Nat → xRow} {ev : Nat} {ln : Nat → Nat × Nat × Nat × Nat} {q : Nat} {I1_ I2_ : xTI} {v : Nat} (H : WL R I J f g e h tp n F lw x us u td mk mx mt ev ln q) (hu : u = v + 1) (a1_ : FD I I1_) (a2_ : RHall I1_ 33 (us 0) F.1.2.1) (a3_ : CPast I1_ F.1.2.1 (fun j => us (j + 1)) v) (b1_ : MD I1_ I2_) (b2_ : MHall I2_ 0 (us 0)) (b3_ : MPast I2_ (fun j => us (j + 1)) v) : WL R I2_ J f g e h tp n F lw (us 0) (fun j => us (j + 1)) v td mk mx mt ev ln (q + 1) := by
  have hw := H.2.2
  have w := hw.2.1 0 (by omega)
  exact ⟨(H.1.fd a1_ (fun _ _ => rfl) a2_ a3_ w.1).lo b1_.lo (fun _ _ => rfl), (H.hiFD a1_).md b1_ (fun _ _ => rfl) b2_ b3_ w.1, w.up, fun j hj => (hw.2.1 (j + 1) (by omega)).up, hw.up.2.2⟩
/-- told -/
theorem WL.tell {R : xTR} {I : xTI} {J : xTJ} {f g e h : Nat} {tp : Nat → Nat} {n : Nat} {F : pF} {lw : Option (List (Nat × Nat))} {x : xRow} {us : Nat → xRow} {u : Nat} {td : xRow} {mk : Nat → Bool} {mx mt : Nat → xRow} {ev : Nat} {ln : Nat → Nat × Nat × Nat × Nat} {q : Nat} {I2_ : xTI} {k : Nat} {c : Int32} (H : WL R I J f g e h tp n F lw x us u td mk mx mt ev ln q) (hk : k < 36) (hc : -1 ≤ c ∧ c ≤ 1) (b : MQs (u2 I 108 k (c + 2)) I2_) : WL R (u2 I2_ 151 (62 + k) c) J f g e h tp n F lw x us u (upd td k c) mk mx mt ev ln (q + 1) := by
  obtain ⟨H1_, H2_, H3_⟩ := H
  have hf := f_small H1_.1.1.1
  have he := H1_.1.2.1
  have a : ∀ z, z ≠ 108 → z < 135 → u2 I2_ 151 (62 + k) c z = I z := fun z h1_ h2_ => by
    rw [u2_row _ _ _ (show z ≠ 151 by omega), b.1 z (by omega) (by omega) (by omega) (by omega) (by omega) (by omega), u2_row _ _ _ h1_]
  have a8_ : u2 I2_ 151 (62 + k) c 108 = u2 I 108 k (c + 2) 108 := by rw [u2_row _ _ _ (show (108 : Nat) ≠ 151 by decide), b.1 108 (by decide) (by decide) (by decide) (by decide) (by decide) (by decide)]
  have ei : ∀ z, z ≠ 108 → u2 I 108 k (c + 2) z = I z := fun z hz => u2_row _ _ _ hz
  have ew : ∀ z, z ≠ 151 → u2 I2_ 151 (62 + k) c z = I2_ z := fun z hz => u2_row _ _ _ hz
  have ek : ∀ z, z ≠ 62 + k → u2 I2_ 151 (62 + k) c 151 z = I2_ 151 z := fun z hz => u2_off _ _ hz
  have bh : ∀ z, z ≠ 108 → z ≠ 135 → z ≠ 149 → z ≠ 150 → z ≠ 151 → z ≠ 153 → z ≠ 154 → u2 I2_ 151 (62 + k) c z = I z := fun z h0_ h1_ h2_ h3_ h4_ h5_ h6_ => by rw [ew z h4_, b.1 z h1_ h2_ h3_ h4_ h5_ h6_, ei z h0_]
  have b135_ : ∀ z, z ≠ 0 → u2 I2_ 151 (62 + k) c 135 z = I 135 z := fun z hz => by rw [ew 135 (by decide), b.2.1 z hz, ei 135 (by decide)]
  have b151_ : ∀ z, z < 2058 → z ≠ 62 + k → u2 I2_ 151 (62 + k) c 151 z = I 151 z := fun z h1_ h2_ => by rw [ek z h2_, b.2.2 z h1_, ei 151 (by decide)]
  obtain ⟨h1_, h2_, h3_, h4_, h5_, h6_, h7_, h8_, h9_⟩ := id H1_
  obtain ⟨g1_, g2_, g3_, g4_, g5_, g6_, g7_, g8_, g9_⟩ := id H2_
  refine ⟨H1_.re h1_ (fun z _ _ => a z (by omega) (by omega)) (fun _ _ _ => rfl) (h3_.2.2.2.1.congr (fun i hi => a _ (by omega) (by omega))) h3_.2.2.2.2 ⟨by rw [a 1 (by decide) (by decide)]; exact h5_.1, h5_.2.1, fun i hi => by rw [a 2 (by decide) (by decide)]; exact h5_.2.2 i hi⟩ (h6_.congr (fun z _ _ => a z (by omega) (by omega))) (fun i hi => ?_) (h8_.congr (fun z _ _ => a z (by omega) (by omega))) (h9_.congr (fun j hj => a _ (by omega) (by omega))), ?_, ?_⟩
  · rw [a8_]
    exact tFd_tell h7_ i hi
  · refine H2_.re (fun i _ => by rw [bh 141 (by decide) (by decide) (by decide) (by decide) (by decide) (by decide) (by decide)]) (fun i _ => by rw [bh 142 (by decide) (by decide) (by decide) (by decide) (by decide) (by decide) (by decide), bh 143 (by decide) (by decide) (by decide) (by decide) (by decide) (by decide) (by decide)]; exact ⟨rfl, rfl⟩) (b135_ 18 (by decide)) (bh 146 (by decide) (by decide) (by decide) (by decide) (by decide) (by decide) (by decide)) rfl rfl H3_.2.2.2.2 (fun i _ => by rw [bh 148 (by decide) (by decide) (by decide) (by decide) (by decide) (by decide) (by decide)]) ⟨by rw [b135_ 2 (by decide)]; exact g2_.1, g2_.2.1, fun i hi => by rw [bh 136 (by decide) (by decide) (by decide) (by decide) (by decide) (by decide) (by decide)]; exact g2_.2.2 i hi⟩
      (fun i hi => by rw [b151_ _ (by omega) (by omega)]; exact g1_.2.2.2.1 i hi) g1_.2.2.2.2 (g5_.congr (b135_ 25 (by decide)) (fun j h1_ h2_ => b151_ j h2_ (by omega))) ?_ (g7_.congr (bh 152 (by decide) (by decide) (by decide) (by decide) (by decide) (by decide) (by decide)) (fun j h1_ h2_ => b151_ j (by omega) (by omega)))
    have t2_ : tMd I2_ td := fun i hi => by rw [b.2.2 _ (by omega), ei 151 (by decide)]; exact g6_ i hi
    exact tMd_tell t2_
  · exact ⟨H3_.1.up, H3_.up.2.1, hTd_tell H3_.2.2.1 hc, H3_.up.2.2.2⟩
/-- a mark laid -/
theorem WL.mark {R : xTR} {I : xTI} {J : xTJ} {f g e h : Nat} {tp : Nat → Nat} {n : Nat} {F : pF} {lw : Option (List (Nat × Nat))} {x : xRow} {us : Nat → xRow} {u : Nat} {td : xRow} {mk : Nat → Bool} {mx mt : Nat → xRow} {ev : Nat} {ln : Nat → Nat × Nat × Nat × Nat} {q : Nat} {I1_ I2_ : xTI} {k : Nat} (H : WL R I J f g e h tp n F lw x us u td mk mx mt ev ln q) (hk : k < 4) (a1_ : ∀ a, (a < 111 ∨ 135 ≤ a) → I1_ a = I a) (a2_ : CMarks I1_ F.1.2.1 (mUp mk k true) (mUp mx k x) (mUp mt k td)) (b1_ : ∀ a, a ≠ 135 → a ≠ 151 → a ≠ 152 → I2_ a = I1_ a) (b2_ : ∀ j, j ≠ 0 → I2_ 135 j = I1_ 135 j) (b3_ : ∀ j, (j < 98 ∨ 490 ≤ j) → I2_ 151 j = I1_ 151 j) (b4_ : MMarks I2_ (mUp mk k true) (mUp mx k x) (mUp mt k td)) : WL R I2_ J f g e h tp n F lw x us u td (mUp mk k true) (mUp mx k x) (mUp mt k td) ev ln (q + 1) := by
  obtain ⟨H1_, H2_, H3_⟩ := H
  have hf := f_small H1_.1.1.1
  have he := H1_.1.2.1
  have a : ∀ z, z < 111 → I2_ z = I z := fun z hz => by rw [b1_ z (by omega) (by omega) (by omega), a1_ z (by omega)]
  have bh : ∀ z, 136 ≤ z → z ≠ 151 → z ≠ 152 → I2_ z = I z := fun z h0_ h1_ h2_ => by rw [b1_ z (by omega) h1_ h2_, a1_ z (by omega)]
  have b135_ : ∀ z, z ≠ 0 → I2_ 135 z = I 135 z := fun z hz => by rw [b2_ z hz, a1_ 135 (by omega)]
  have b151_ : ∀ z, (z < 98 ∨ 490 ≤ z) → I2_ 151 z = I 151 z := fun z hz => by rw [b3_ z hz, a1_ 151 (by omega)]
  obtain ⟨h1_, h2_, h3_, h4_, h5_, h6_, h7_, h8_, h9_⟩ := id H1_
  obtain ⟨g1_, g2_, g3_, g4_, g5_, g6_, g7_, g8_, g9_⟩ := id H2_
  refine ⟨H1_.re h1_ (fun z _ _ => a z (by omega)) (fun _ _ _ => rfl) (h3_.2.2.2.1.congr (fun i hi => a _ (by omega))) h3_.2.2.2.2 ⟨by rw [a 1 (by decide)]; exact h5_.1, h5_.2.1, fun i hi => by rw [a 2 (by decide)]; exact h5_.2.2 i hi⟩ (h6_.congr (fun z _ _ => a z (by omega))) (fun i hi => by rw [a 108 (by decide)]; exact h7_ i hi) (a2_.congr (fun z _ _ => b1_ z (by omega) (by omega) (by omega))) (h9_.congr (fun j hj => a _ (by omega))), ?_, ?_⟩
  · exact H2_.re (fun i _ => by rw [bh 141 (by decide) (by decide) (by decide)]) (fun i _ => by rw [bh 142 (by decide) (by decide) (by decide), bh 143 (by decide) (by decide) (by decide)]; exact ⟨rfl, rfl⟩) (b135_ 18 (by decide)) (bh 146 (by decide) (by decide) (by decide)) rfl rfl H3_.2.2.2.2 (fun i _ => by rw [bh 148 (by decide) (by decide) (by decide)]) ⟨by rw [b135_ 2 (by decide)]; exact g2_.1, g2_.2.1, fun i hi => by rw [bh 136 (by decide) (by decide) (by decide)]; exact g2_.2.2 i hi⟩
      (fun i hi => by rw [b151_ _ (by omega)]; exact g1_.2.2.2.1 i hi) g1_.2.2.2.2 (g5_.congr (b135_ 25 (by decide)) (fun j h1_ h2_ => b151_ j (by omega))) (fun i hi => by rw [b151_ _ (by omega)]; exact g6_ i hi) b4_
  · refine ⟨H3_.1.up, H3_.up.2.1, H3_.2.2.1, fun m hm hk2_ => ?_, H3_.2.2.2.2⟩
    unfold mUp at hk2_ ⊢
    by_cases hm2_ : m = k
    · rw [if_pos hm2_, if_pos hm2_]
      exact ⟨H3_.1.up, H3_.2.2.1⟩
    · rw [if_neg hm2_] at hk2_
      rw [if_neg hm2_, if_neg hm2_]
      exact H3_.up.2.2.2.1 m hm hk2_
/-- back to a mark -/
theorem WL.back {R : xTR} {I : xTI} {J : xTJ} {f g e h : Nat} {tp : Nat → Nat} {n : Nat} {F : pF} {lw : Option (List (Nat × Nat))} {x : xRow} {us : Nat → xRow} {u : Nat} {td : xRow} {mk : Nat → Bool} {mx mt : Nat → xRow} {ev : Nat} {ln : Nat → Nat × Nat × Nat × Nat} {q : Nat} {I1_ I2_ : xTI} {k : Nat} (H : WL R I J f g e h tp n F lw x us u td mk mx mt ev ln q) (hk : k < 4) (hm : mk k = true) (a1_ : ∀ a, (a < 33 ∨ 36 < a) → a ≠ 41 → a ≠ 108 → I1_ a = I a) (a2_ : I1_ 41 1 = I 41 1) (a3_ : I1_ 41 2 = 0) (a4_ : RHall I1_ 33 (mx k) F.1.2.1) (a5_ : tFd I1_ (mt k)) (b1_ : ∀ a, a ≠ 135 → a ≠ 151 → I2_ a = I1_ a) (b2_ : ∀ j, j ≠ 0 → j ≠ 25 → I2_ 135 j = I1_ 135 j) (b3_ : I2_ 135 25 = 0) (b4_ : ∀ j, 98 ≤ j → I2_ 151 j = I1_ 151 j) (b5_ : MHall I2_ 0 (mx k)) (b6_ : tMd I2_ (mt k)) : WL R I2_ J f g e h tp n F lw (mx k) us 0 (mt k) mk mx mt ev ln (q + 1) := by
  obtain ⟨H1_, H2_, H3_⟩ := H
  have hf := f_small H1_.1.1.1
  have he := H1_.1.2.1
  have lo : ∀ z, z < 135 → I2_ z = I1_ z := fun z hz => b1_ z (by omega) (by omega)
  have a : ∀ z, z < 135 → (z < 33 ∨ 36 < z) → z ≠ 41 → z ≠ 108 → I2_ z = I z := fun z h1_ h2_ h3_ h4_ => by rw [lo z h1_, a1_ z h2_ h3_ h4_]
  have bh : ∀ z, 136 ≤ z → z ≠ 151 → I2_ z = I z := fun z h0_ h1_ => by rw [b1_ z (by omega) h1_, a1_ z (by omega) (by omega) (by omega)]
  have b135_ : ∀ z, z ≠ 0 → z ≠ 25 → I2_ 135 z = I 135 z := fun z h1_ h2_ => by rw [b2_ z h1_ h2_, a1_ 135 (by omega) (by omega) (by omega)]
  have b151_ : ∀ z, 98 ≤ z → I2_ 151 z = I 151 z := fun z hz => by rw [b4_ z hz, a1_ 151 (by omega) (by omega) (by omega)]
  obtain ⟨h1_, h2_, h3_, h4_, h5_, h6_, h7_, h8_, h9_⟩ := id H1_
  obtain ⟨g1_, g2_, g3_, g4_, g5_, g6_, g7_, g8_, g9_⟩ := id H2_
  have ok := H3_.2.2.2.1 k hk hm
  obtain ⟨nx, p1_, p2_, -⟩ := h6_
  refine ⟨H1_.re h1_ (fun z _ _ => a z (by omega) (by omega) (by omega) (by omega)) (fun _ _ _ => rfl) (a4_.congr (fun i hi => lo _ (by omega))) ok.1.1 ⟨by rw [a 1 (by decide) (by decide) (by decide) (by decide)]; exact h5_.1, h5_.2.1, fun i hi => by rw [a 2 (by decide) (by decide) (by decide) (by decide)]; exact h5_.2.2 i hi⟩ ⟨nx, p1_, by rw [lo 41 (by decide), a2_]; exact p2_, by rw [lo 41 (by decide)]; exact a3_, by decide, fun j hj => absurd hj (Nat.not_lt_zero j)⟩ (fun i hi => by rw [lo 108 (by decide)]; exact a5_ i hi) (h8_.congr (fun z _ _ => a z (by omega) (by omega) (by omega) (by omega))) (h9_.congr (fun j hj => a _ (by omega) (by omega) (by omega) (by omega))), ?_, ?_⟩
  · exact H2_.re (fun i _ => by rw [bh 141 (by decide) (by decide)]) (fun i _ => by rw [bh 142 (by decide) (by decide), bh 143 (by decide) (by decide)]; exact ⟨rfl, rfl⟩) (b135_ 18 (by decide) (by decide)) (bh 146 (by decide) (by decide)) rfl rfl H3_.2.2.2.2 (fun i _ => by rw [bh 148 (by decide) (by decide)]) ⟨by rw [b135_ 2 (by decide) (by decide)]; exact g2_.1, g2_.2.1, fun i hi => by rw [bh 136 (by decide) (by decide)]; exact g2_.2.2 i hi⟩
      b5_ ok.1.1 ⟨b3_, by decide, fun j hj => absurd hj (Nat.not_lt_zero j)⟩ b6_ (g7_.congr (bh 152 (by decide) (by decide)) (fun j h1_ h2_ => b151_ j h1_))
  · exact ⟨ok.1.up, fun j hj => absurd hj (Nat.not_lt_zero j), ok.2, H3_.up.2.2.2⟩
/-- the tape fed -/
theorem WL.feed {R : xTR} {I : xTI} {J : xTJ} {f g e h : Nat} {tp : Nat → Nat} {n : Nat} {F : pF} {lw : Option (List (Nat × Nat))} {x : xRow} {us : Nat → xRow} {u : Nat} {td : xRow} {mk : Nat → Bool} {mx mt : Nat → xRow} {ev : Nat} {ln : Nat → Nat × Nat × Nat × Nat} {q : Nat} {I1_ I2_ : xTI} {t : pT} (H : WL R I J f g e h tp n F lw x us u td mk mx mt ev ln q) (a1_ : ∀ a, a ≠ 1 → a ≠ 2 → I1_ a = I a) (a3_ : CTp I1_ t.1 t.2) (b1_ : ∀ a, a ≠ 135 → a ≠ 136 → I2_ a = I1_ a) (b2_ : ∀ k, k ≠ 0 → k ≠ 2 → I2_ 135 k = I1_ 135 k) (b3_ : MTp I2_ t.1 t.2) : WL R I2_ J f g e h t.1 t.2 F lw x us u td mk mx mt ev ln (q + 1) := by
  obtain ⟨H1_, H2_, H3_⟩ := H
  have hf := f_small H1_.1.1.1
  have he := H1_.1.2.1
  have lo : ∀ z, z < 135 → I2_ z = I1_ z := fun z hz => b1_ z (by omega) (by omega)
  have a : ∀ z, z < 135 → 3 ≤ z → I2_ z = I z := fun z h1_ h2_ => by rw [lo z h1_, a1_ z (by omega) (by omega)]
  have bh : ∀ z, 137 ≤ z → I2_ z = I z := fun z h0_ => by rw [b1_ z (by omega) (by omega), a1_ z (by omega) (by omega)]
  have b135_ : ∀ z, z ≠ 0 → z ≠ 2 → I2_ 135 z = I 135 z := fun z h1_ h2_ => by rw [b2_ z h1_ h2_, a1_ 135 (by omega) (by omega)]
  obtain ⟨h1_, h2_, h3_, h4_, h5_, h6_, h7_, h8_, h9_⟩ := id H1_
  obtain ⟨g1_, g2_, g3_, g4_, g5_, g6_, g7_, g8_, g9_⟩ := id H2_
  refine ⟨H1_.re h1_ (fun z _ _ => a z (by omega) (by omega)) (fun _ _ _ => rfl) (h3_.2.2.2.1.congr (fun i hi => a _ (by omega) (by omega))) h3_.2.2.2.2 ⟨by rw [lo 1 (by decide)]; exact a3_.1, a3_.2.1, fun i hi => by rw [lo 2 (by decide)]; exact a3_.2.2 i hi⟩ (h6_.congr (fun z _ _ => a z (by omega) (by omega))) (fun i hi => by rw [a 108 (by decide) (by decide)]; exact h7_ i hi) (h8_.congr (fun z _ _ => a z (by omega) (by omega))) (h9_.congr (fun j hj => a _ (by omega) (by omega))), ?_, H3_.up⟩
  exact H2_.re (fun i _ => by rw [bh 141 (by decide)]) (fun i _ => by rw [bh 142 (by decide), bh 143 (by decide)]; exact ⟨rfl, rfl⟩) (b135_ 18 (by decide) (by decide)) (bh 146 (by decide)) rfl rfl H3_.2.2.2.2 (fun i _ => by rw [bh 148 (by decide)]) b3_
      (g1_.2.2.2.1.congr (bh 151 (by decide))) g1_.2.2.2.2 (g5_.congr (b135_ 25 (by decide) (by decide)) (fun j _ _ => by rw [bh 151 (by decide)])) (fun i hi => by rw [bh 151 (by decide)]; exact g6_ i hi) (g7_.congr (bh 152 (by decide)) (fun j _ _ => by rw [bh 151 (by decide)]))
