/-! FROM ONE CALL TO THE NEXT: a film, an evening -/
theorem MI.re2 {I : xTI} {J : xTJ} {tp : Nat → Nat} {n : Nat} {F : pF} {lw : Option (List (Nat × Nat))} {x : xRow} {us : Nat → xRow} {u : Nat} {td : xRow} {mk : Nat → Bool} {mx mt : Nat → xRow} {ev : Nat} {ln : Nat → Nat × Nat × Nat × Nat} {I' : xTI} {J' : xTJ} {tp' : Nat → Nat} {n' : Nat} {ev' : Nat} {ln' : Nat → Nat × Nat × Nat × Nat} (H : MI I J tp n F lw x us u td mk mx mt ev ln) (q141_ : I' 141 = I 141) (q142_ : I' 142 = I 142) (q143_ : I' 143 = I 143) (q135_ : ∀ k, k ≠ 0 → k ≠ 2 → k ≠ 3 → k ≠ 7 → k ≠ 8 → I' 135 k = I 135 k) (q146_ : I' 146 = I 146) (q151_ : I' 151 = I 151) (q152_ : I' 152 = I 152) (j144_ : J' 144 = J 144) (j140_ : J' 140 = J 140) (t : MTp I' tp' n') (v0_ : I' 148 0 = nI ev') (vl : ∀ i, i < ev' → RLn I' (1 + 4 * i) F (ln' i)) : MI I' J' tp' n' F lw x us u td mk mx mt ev' ln' := by
  obtain ⟨h1_, h2_, h3_, h4_, h5_, h6_, h7_, h8_, h9_⟩ := H
  exact ⟨⟨h1_.1, fun i hi => by rw [q141_]; exact h1_.2.1 i hi, h1_.2.2.1.congr2 q142_ q143_, h1_.2.2.2.1.congr q151_, h1_.2.2.2.2⟩, t, fun i hi => by rw [j140_]; exact h3_ i hi, ⟨by rw [q135_ 18 (by decide) (by decide) (by decide) (by decide) (by decide)]; exact h4_.1, h4_.2.1.congr q146_ j144_, h4_.2.2⟩, h5_.congr (q135_ 25 (by decide) (by decide) (by decide) (by decide) (by decide)) (fun j _ _ => by rw [q151_]), fun i hi => by rw [q151_]; exact h6_ i hi, h7_.congr q152_ (fun j _ _ => by rw [q151_]), v0_, vl⟩
theorem RI.at {R R' : xTR} {f g e h f' g' e' h' : Nat} (H : RI R f g e h) (r : ∀ a k, (a ≠ 1 ∨ k ≠ 7) → (a ≠ 0 ∨ (k < 2 ∨ 5 < k)) → R' a k = R a k) (w : wOr (R' 1 7)) (c : (f' ∈ [7, 16] ∧ g' ∈ [7, 16] ∧ f' ≠ g') ∧ (e' = 25 ∨ e' = 29) ∧ (h' = 25 ∨ h' = 29) ∧ e' ≠ h') (r2_ : R' 0 2 = some f') (r3_ : R' 0 3 = some g') (r4_ : R' 0 4 = some e') (r5_ : R' 0 5 = some h') : RI R' f' g' e' h' :=
  ⟨c.1, c.2.1, c.2.2.1, c.2.2.2, r2_, r3_, r4_, r5_, w, fun q hq => (r _ _ (rtab_17 q hq) (rtab_02 q hq)).trans (H.2.2.2.2.2.2.2.2.2 q hq)⟩
theorem CTp_0 {I : xTI} {tp : Nat → Nat} (h : I 1 1 = 0) : CTp I tp 0 := ⟨h, by decide, fun i hi => absurd hi (Nat.not_lt_zero i)⟩
theorem MTp_0 {I : xTI} {tp : Nat → Nat} (h : I 135 2 = nI 0) : MTp I tp 0 := ⟨h, by decide, fun i hi => absurd hi (Nat.not_lt_zero i)⟩
theorem WL.film0 {R : xTR} {I : xTI} {J : xTJ} {f g e h : Nat} {tp : Nat → Nat} {n : Nat} {F : pF} {lw : Option (List (Nat × Nat))} {x : xRow} {us : Nat → xRow} {u : Nat} {td : xRow} {mk : Nat → Bool} {mx mt : Nat → xRow} {ev : Nat} {ln : Nat → Nat × Nat × Nat × Nat} {q : Nat} {R1_ : xTR} {I1_ I2_ : xTI} {J1_ J2_ : xTJ} (H : WL R I J f g e h tp n F lw x us u td mk mx mt ev ln q) (a1_ : ∀ a, a ≠ 1 → a ≠ 3 → a ≠ 4 → a ≠ 5 → a ≠ 6 → (a < g ∨ g + 9 ≤ a) → I1_ a = I a) (a2_ : I1_ 1 1 = 0) (a3_ : ∀ a, a ≠ 1 → a ≠ g + 1 → a ≠ g + 2 → J1_ a = J a) (a4_ : ∀ a k, a ≠ 1 ∨ k ≠ 7 → R1_ a k = R a k) (a5_ : wOr (R1_ 1 7)) (b1_ : FmR I1_ J1_ I2_ J2_) (b2_ : I2_ 135 2 = nI 0) : WL R1_ I2_ J2_ f g e h tp 0 F lw x us u td mk mx mt ev ln (q + 1) := by
  obtain ⟨H1_, H2_, H3_⟩ := H
  have hr := H1_.1
  have hf := f_small hr.1.1
  have hg := f_small hr.1.2.1
  have hfg := hr.1.2.2
  have he := hr.2.1
  have lo : ∀ z, z < 135 → I2_ z = I1_ z := fun z hz => b1_.1 z (by omega) (by omega) (by omega) (by omega) (by omega) (by omega) (by omega)
  have a : ∀ z, z < 135 → z ≠ 1 → z ≠ 3 → z ≠ 4 → z ≠ 5 → z ≠ 6 → (z < g ∨ g + 9 ≤ z) → I2_ z = I z := fun z h1_ h2_ h3_ h4_ h5_ h6_ h7_ => by rw [lo z h1_, a1_ z h2_ h3_ h4_ h5_ h6_ h7_]
  have ah : ∀ z, 25 ≤ z → I1_ z = I z := fun z hz => a1_ z (by omega) (by omega) (by omega) (by omega) (by omega) (by omega)
  have bh : ∀ z, 136 ≤ z → z ≠ 137 → z ≠ 138 → z ≠ 141 → z ≠ 142 → z ≠ 143 → z ≠ 147 → I2_ z = I z := fun z h0_ h1_ h2_ h3_ h4_ h5_ h6_ => by rw [b1_.1 z (by omega) h1_ h2_ h3_ h4_ h5_ h6_, ah z (by omega)]
  have jl : ∀ z, z ≠ 139 → z ≠ 145 → z ≠ 1 → z ≠ g + 1 → z ≠ g + 2 → J2_ z = J z := fun z h1_ h2_ h3_ h4_ h5_ => by rw [b1_.2.2.2.2 z h1_ h2_, a3_ z h3_ h4_ h5_]
  obtain ⟨h1_, h2_, h3_, h4_, h5_, h6_, h7_, h8_, h9_⟩ := id H1_
  obtain ⟨g1_, g2_, g3_, g4_, g5_, g6_, g7_, g8_, g9_⟩ := id H2_
  have hR : RI R1_ f g e h := hr.at (fun a k h1_ _ => a4_ a k h1_) a5_ ⟨hr.1, hr.2.1, hr.2.2.1, hr.2.2.2.1⟩ ((a4_ 0 2 (by decide)).trans hr.2.2.2.2.1) ((a4_ 0 3 (by decide)).trans hr.2.2.2.2.2.1) ((a4_ 0 4 (by decide)).trans hr.2.2.2.2.2.2.1) ((a4_ 0 5 (by decide)).trans hr.2.2.2.2.2.2.2.1)
  refine ⟨H1_.re hR (fun z _ _ => a z (by omega) (by omega) (by omega) (by omega) (by omega) (by omega) (by omega)) (fun z _ _ => jl z (by omega) (by omega) (by omega) (by omega) (by omega)) (h3_.2.2.2.1.congr (fun i hi => a _ (by omega) (by omega) (by omega) (by omega) (by omega) (by omega) (by omega))) h3_.2.2.2.2 (CTp_0 (by rw [lo 1 (by decide)]; exact a2_)) (h6_.congr (fun z _ _ => a z (by omega) (by omega) (by omega) (by omega) (by omega) (by omega) (by omega))) (fun i hi => by rw [a 108 (by omega) (by omega) (by omega) (by omega) (by omega) (by omega) (by omega)]; exact h7_ i hi) (h8_.congr (fun z _ _ => a z (by omega) (by omega) (by omega) (by omega) (by omega) (by omega) (by omega))) (h9_.congr (fun j hj => a _ (by omega) (by omega) (by omega) (by omega) (by omega) (by omega) (by omega))), ?_, H3_.up⟩
  have e135_ : ∀ k, k ≠ 0 → k ≠ 2 → k ≠ 3 → k ≠ 7 → k ≠ 8 → k ≠ 13 → k ≠ 19 → k ≠ 20 → I2_ 135 k = I 135 k := fun k h1_ h2_ h3_ h4_ h5_ h6_ h7_ h8_ => by rw [b1_.2.1 k h1_ h2_ h3_ h4_ h5_ h6_ h7_ h8_, ah 135 (by decide)]
  have e151_ : I2_ 151 = I 151 := bh 151 (by decide) (by decide) (by decide) (by decide) (by decide) (by decide) (by decide)
  exact H2_.re (fun i hi => by rw [b1_.2.2.1 i hi, ah 141 (by decide)]) (fun i hi => by rw [(b1_.2.2.2.1 i hi).1, (b1_.2.2.2.1 i hi).2, ah 142 (by decide), ah 143 (by decide)]; exact ⟨rfl, rfl⟩) (e135_ 18 (by decide) (by decide) (by decide) (by decide) (by decide) (by decide) (by decide) (by decide)) (bh 146 (by decide) (by decide) (by decide) (by decide) (by decide) (by decide) (by decide)) (jl 144 (by omega) (by omega) (by omega) (by omega) (by omega)) (jl 140 (by omega) (by omega) (by omega) (by omega) (by omega)) H3_.2.2.2.2 (fun i _ => by rw [bh 148 (by decide) (by decide) (by decide) (by decide) (by decide) (by decide) (by decide)]) (MTp_0 b2_)
      (g1_.2.2.2.1.congr e151_) g1_.2.2.2.2 (g5_.congr (e135_ 25 (by decide) (by decide) (by decide) (by decide) (by decide) (by decide) (by decide) (by decide)) (fun j _ _ => by rw [e151_])) (fun i hi => by rw [e151_]; exact g6_ i hi) (g7_.congr (bh 152 (by decide) (by decide) (by decide) (by decide) (by decide) (by decide) (by decide)) (fun j _ _ => by rw [e151_]))
theorem WL.film1 {R : xTR} {I : xTI} {J : xTJ} {f g e h : Nat} {tp : Nat → Nat} {n : Nat} {F : pF} {lw : Option (List (Nat × Nat))} {x : xRow} {us : Nat → xRow} {u : Nat} {td : xRow} {mk : Nat → Bool} {mx mt : Nat → xRow} {ev : Nat} {ln : Nat → Nat × Nat × Nat × Nat} {q : Nat} {R1_ : xTR} {I1_ I1'_ I2_ : xTI} {J1_ J2_ : xTJ} {F1_ : pF} {lw1_ : Option (List (Nat × Nat))} (H : WL R I J f g e h tp n F lw x us u td mk mx mt ev ln q) (a1_ : ∀ a, a ≠ 1 → a ≠ 3 → a ≠ 4 → a ≠ 5 → a ≠ 6 → (a < g ∨ g + 9 ≤ a) → I1'_ a = I a) (a2_ : I1'_ 1 1 = 0) (ab : Begun I1'_ I1_ g e) (a3_ : ∀ a, a ≠ 1 → a ≠ g + 1 → a ≠ g + 2 → J1_ a = J a) (a4_ : ∀ a k, (a ≠ 1 ∨ k ≠ 7) → (a ≠ 0 ∨ (k ≠ 2 ∧ k ≠ 3)) → R1_ a k = R a k) (a42_ : R1_ 0 2 = some g) (a43_ : R1_ 0 3 = some f) (a5_ : wOr (R1_ 1 7)) (ok : FOk F1_) (cf : CFm I1'_ J1_ g F1_) (rf : RFilm I1'_ g (fRow F1_ lw1_.isSome) (sDq (fRow F1_ lw1_.isSome) lw1_) F1_.1.2.1 F1_.1.2.2.1)
    (b1_ : ∀ a, a ≠ 135 → a ≠ 137 → a ≠ 138 → a ≠ 141 → a ≠ 142 → a ≠ 143 → a ≠ 146 → a ≠ 147 → a ≠ 148 → a ≠ 151 → a ≠ 152 → I2_ a = I1_ a) (bj : ∀ a, a ≠ 139 → a ≠ 144 → a ≠ 145 → J2_ a = J1_ a) (b2_ : I2_ 135 2 = nI 0) (dj : FDj F1_) (mf : MFilm I2_ (fRow F1_ lw1_.isSome)) (ml : MLaw I2_ (fRow F1_ lw1_.isSome) lw1_) (m18_ : I2_ 135 18 = nI (F1_.1.1 + F1_.1.2.2.1)) (mn : MNm I2_ J2_ 144 146 (F1_.1.1 + F1_.1.2.2.1) F1_) (m25_ : I2_ 135 25 = nI 0) (m148_ : I2_ 148 0 = nI 0) (mh : MHall I2_ 0 (sStart (fRow F1_ lw1_.isSome) F1_.1.2.1)) (mtd : ∀ i, i < 36 → I2_ 151 (62 + i) = -2) (mm : ∀ k, k < 4 → I2_ 152 k = nI 0) : WL R1_ I2_ J2_ g f e h tp 0 F1_ lw1_ (sStart (fRow F1_ lw1_.isSome) F1_.1.2.1) us 0 (fun _ => -2) (fun _ => false) mx mt 0 ln (q + 1) := by
  obtain ⟨H1_, H2_, H3_⟩ := H
  have hr := H1_.1
  have hf := f_small hr.1.1
  have hg := f_small hr.1.2.1
  have he := hr.2.1
  have lo : ∀ z, z < 135 → I2_ z = I1_ z := fun z hz => b1_ z (by omega) (by omega) (by omega) (by omega) (by omega) (by omega) (by omega) (by omega) (by omega) (by omega) (by omega)
  have af : ∀ i, i < 9 → I1_ (g + i) = I1'_ (g + i) := fun i hi => ab.1 _ (by omega) (by omega) (by omega) (by omega) (by omega) (by omega) (by omega) (fun m hm => by omega)
  have lf : ∀ i, i < 9 → I2_ (g + i) = I1'_ (g + i) := fun i hi => (lo _ (by omega)).trans (af i hi)
  have wl : WFl (fRow F1_ lw1_.isSome) F1_.1.1 F1_.1.2.1 F1_.1.2.2.1 := fRow_WFl ok
  have wx := sStart_WFx (T := F1_.1.1) (N := F1_.1.2.1) (V := F1_.1.2.2.1) wl
  have hR : RI R1_ g f e h := hr.at (fun a k h1_ h2_ => a4_ a k h1_ (by omega)) a5_ ⟨⟨hr.1.2.1, hr.1.1, fun z => hr.1.2.2 z.symm⟩, hr.2.1, hr.2.2.1, hr.2.2.2.1⟩ a42_ a43_ ((a4_ 0 4 (by decide) (by decide)).trans hr.2.2.2.2.2.2.1) ((a4_ 0 5 (by decide) (by decide)).trans hr.2.2.2.2.2.2.2.1)
  have j12_ : ∀ z, z < 33 → J2_ z = J1_ z := fun z hz => bj z (by omega) (by omega) (by omega)
  have l0_ : I2_ g = I1'_ g := lf 0 (by decide)
  obtain ⟨nx, p1_, p2_, -⟩ := H1_.2.2.2.2.2.1
  have i41_ : I1'_ 41 = I 41 := a1_ 41 (by decide) (by decide) (by decide) (by decide) (by decide) (by omega)
  have t2_ : (-2 : Int32) + 2 = 0 := by decide
  refine ⟨⟨hR, ok, ⟨hr.1.2.1, wl, rf.congr lf, (uopen_hall (h := 33) (fun i j _ _ => by omega) wl rf).congr (fun i hi => (lo _ (by omega)).trans (ab.2.1 i hi)), wx⟩, cf.congr (by rw [l0_]) (by rw [l0_]) (by rw [l0_]) (fun j _ _ => lf j (by omega)) (j12_ _ (by omega)) (j12_ _ (by omega)), CTp_0 ?_, ⟨nx, p1_, ?_, ?_, by decide, fun j hj => absurd hj (Nat.not_lt_zero j)⟩, fun i hi => ?_, fun m hm => ⟨?_, fun z => by cases z⟩, ⟨by decide, ?_, fun i hi => absurd hi (Nat.not_lt_zero i)⟩⟩, ?_, ?_⟩
  · rw [lo 1 (by decide), ab.1 1 (by decide) (by decide) (by decide) (by decide) (by omega) (by decide) (by decide) (fun m hm => by omega)]
    exact a2_
  · rw [lo 41 (by decide), ab.2.2.2.1.2 1 (by decide), i41_]
    exact p2_
  · rw [lo 41 (by decide)]
    exact ab.2.2.2.1.1
  · show I2_ 108 i = -2 + 2
    rw [lo 108 (by decide), ab.2.2.2.2.1 i hi, t2_]
  · rw [lo _ (by omega), ab.2.2.2.2.2 m hm]
    rfl
  · rw [lo e (by omega)]
    exact ab.2.2.1.1
  · refine ⟨⟨wl, mf, ml, mh, wx⟩, MTp_0 b2_, fun i hi => ?_, ⟨m18_, mn, dj⟩, ⟨m25_, by decide, fun j hj => absurd hj (Nat.not_lt_zero j)⟩, mtd, fun m hm => ⟨by rw [mm m hm]; rfl, fun z => by cases z⟩, m148_, fun i hi => absurd hi (Nat.not_lt_zero i)⟩
    rw [bj 140 (by decide) (by decide) (by decide), a3_ 140 (by decide) (by omega) (by omega)]
    exact H2_.2.2.1 i hi
  · exact ⟨⟨wx, 0, Nat.zero_le _, rfl⟩, fun j hj => absurd hj (Nat.not_lt_zero j), fun _ _ => Or.inl rfl, fun m _ z => Bool.noConfusion z, Nat.zero_le _⟩
theorem WL.eve0 {R : xTR} {I : xTI} {J : xTJ} {f g e h : Nat} {tp : Nat → Nat} {n : Nat} {F : pF} {lw : Option (List (Nat × Nat))} {x : xRow} {us : Nat → xRow} {u : Nat} {td : xRow} {mk : Nat → Bool} {mx mt : Nat → xRow} {ev : Nat} {ln : Nat → Nat × Nat × Nat × Nat} {q : Nat} {R1_ : xTR} {I1_ I2_ : xTI} {J1_ J2_ : xTJ} (H : WL R I J f g e h tp n F lw x us u td mk mx mt ev ln q) (a1_ : ∀ a, a ≠ 1 → (a < h ∨ h + 4 ≤ a) → I1_ a = I a) (a2_ : I1_ 1 1 = 0) (a3_ : ∀ a, a ≠ 1 → J1_ a = J a) (a4_ : ∀ a k, a ≠ 1 ∨ k ≠ 7 → R1_ a k = R a k) (a5_ : wOr (R1_ 1 7)) (b1_ : ∀ a, a ≠ 135 → a ≠ 137 → a ≠ 138 → a ≠ 148 → I2_ a = I1_ a) (b2_ : ∀ k, k ≠ 0 → k ≠ 2 → k ≠ 3 → k ≠ 7 → k ≠ 8 → I2_ 135 k = I1_ 135 k) (b3_ : ∀ j, j < 165 → I2_ 148 j = I1_ 148 j) (bj : ∀ a, a ≠ 139 → J2_ a = J1_ a) (b4_ : I2_ 135 2 = nI 0) : WL R1_ I2_ J2_ f g e h tp 0 F lw x us u td mk mx mt ev ln (q + 1) := by
  obtain ⟨H1_, H2_, H3_⟩ := H
  have hr := H1_.1
  have hf := f_small hr.1.1
  have he := hr.2.1
  have hh := hr.2.2.1
  have heh := hr.2.2.2.1
  have lo : ∀ z, z < 135 → I2_ z = I1_ z := fun z hz => b1_ z (by omega) (by omega) (by omega) (by omega)
  have a : ∀ z, z < 135 → z ≠ 1 → (z < h ∨ h + 4 ≤ z) → I2_ z = I z := fun z h1_ h2_ h3_ => by rw [lo z h1_, a1_ z h2_ h3_]
  have ah : ∀ z, 33 ≤ z → I1_ z = I z := fun z hz => a1_ z (by omega) (by omega)
  have bh : ∀ z, 136 ≤ z → z ≠ 137 → z ≠ 138 → z ≠ 148 → I2_ z = I z := fun z h0_ h1_ h2_ h3_ => by rw [b1_ z (by omega) h1_ h2_ h3_, ah z (by omega)]
  have jl : ∀ z, z ≠ 1 → z ≠ 139 → J2_ z = J z := fun z h1_ h2_ => by rw [bj z h2_, a3_ z h1_]
  obtain ⟨h1_, h2_, h3_, h4_, h5_, h6_, h7_, h8_, h9_⟩ := id H1_
  obtain ⟨g1_, g2_, g3_, g4_, g5_, g6_, g7_, g8_, g9_⟩ := id H2_
  have hR : RI R1_ f g e h := hr.at (fun a k h1_ _ => a4_ a k h1_) a5_ ⟨hr.1, hr.2.1, hr.2.2.1, hr.2.2.2.1⟩ ((a4_ 0 2 (by decide)).trans hr.2.2.2.2.1) ((a4_ 0 3 (by decide)).trans hr.2.2.2.2.2.1) ((a4_ 0 4 (by decide)).trans hr.2.2.2.2.2.2.1) ((a4_ 0 5 (by decide)).trans hr.2.2.2.2.2.2.2.1)
  refine ⟨H1_.re hR (fun z _ _ => a z (by omega) (by omega) (by omega)) (fun z _ _ => jl z (by omega) (by omega)) (h3_.2.2.2.1.congr (fun i hi => a _ (by omega) (by omega) (by omega))) h3_.2.2.2.2 (CTp_0 (by rw [lo 1 (by decide)]; exact a2_)) (h6_.congr (fun z _ _ => a z (by omega) (by omega) (by omega))) (fun i hi => by rw [a 108 (by omega) (by omega) (by omega)]; exact h7_ i hi) (h8_.congr (fun z _ _ => a z (by omega) (by omega) (by omega))) (h9_.congr (fun j hj => a _ (by omega) (by omega) (by omega))), ?_, H3_.up⟩
  have e135_ : ∀ k, k ≠ 0 → k ≠ 2 → k ≠ 3 → k ≠ 7 → k ≠ 8 → I2_ 135 k = I 135 k := fun k h1_ h2_ h3_ h4_ h5_ => by rw [b2_ k h1_ h2_ h3_ h4_ h5_, ah 135 (by decide)]
  have e148_ : ∀ j, j < 165 → I2_ 148 j = I 148 j := fun j hj => by rw [b3_ j hj, ah 148 (by decide)]
  exact H2_.re2 (bh 141 (by decide) (by decide) (by decide) (by decide)) (bh 142 (by decide) (by decide) (by decide) (by decide)) (bh 143 (by decide) (by decide) (by decide) (by decide)) e135_ (bh 146 (by decide) (by decide) (by decide) (by decide)) (bh 151 (by decide) (by decide) (by decide) (by decide)) (bh 152 (by decide) (by decide) (by decide) (by decide)) (jl 144 (by decide) (by decide)) (jl 140 (by decide) (by decide)) (MTp_0 b4_) (by rw [e148_ 0 (by decide)]; exact g8_) (fun i hi => (g9_ i hi).congr (fun k hk => e148_ _ (by have := H3_.2.2.2.2; omega)))
theorem WL.eve1 {R : xTR} {I : xTI} {J : xTJ} {f g e h : Nat} {tp : Nat → Nat} {n : Nat} {F : pF} {lw : Option (List (Nat × Nat))} {x : xRow} {us : Nat → xRow} {u : Nat} {td : xRow} {mk : Nat → Bool} {mx mt : Nat → xRow} {ev : Nat} {ln : Nat → Nat × Nat × Nat × Nat} {q : Nat} {R1_ : xTR} {I1_ I2_ : xTI} {J1_ J2_ : xTJ} {ev' : Nat} {ln' : Nat → Nat × Nat × Nat × Nat} (H : WL R I J f g e h tp n F lw x us u td mk mx mt ev ln q) (a1_ : ∀ a, a ≠ 1 → (a < h ∨ h + 4 ≤ a) → I1_ a = I a) (a2_ : I1_ 1 1 = 0) (a3_ : ∀ a, a ≠ 1 → J1_ a = J a) (a4_ : ∀ a k, (a ≠ 1 ∨ k ≠ 7) → (a ≠ 0 ∨ (k ≠ 4 ∧ k ≠ 5)) → R1_ a k = R a k) (a44_ : R1_ 0 4 = some h) (a45_ : R1_ 0 5 = some e) (a5_ : wOr (R1_ 1 7)) (av : CEv I1_ h F ev' ln') (b1_ : ∀ a, a ≠ 135 → a ≠ 137 → a ≠ 138 → a ≠ 148 → I2_ a = I1_ a) (b2_ : ∀ k, k ≠ 0 → k ≠ 2 → k ≠ 3 → k ≠ 7 → k ≠ 8 → I2_ 135 k = I1_ 135 k) (bj : ∀ a, a ≠ 139 → J2_ a = J1_ a) (b4_ : I2_ 135 2 = nI 0) (v40_ : ev' ≤ 40) (v0_ : I2_ 148 0 = nI ev') (vl : ∀ i, i < ev' → RLn I2_ (1 + 4 * i) F (ln' i)) : WL R1_ I2_ J2_ f g h e tp 0 F lw x us u td mk mx mt ev' ln' (q + 1) := by
  obtain ⟨H1_, H2_, H3_⟩ := H
  have hr := H1_.1
  have hf := f_small hr.1.1
  have he := hr.2.1
  have hh := hr.2.2.1
  have heh := hr.2.2.2.1
  have lo : ∀ z, z < 135 → I2_ z = I1_ z := fun z hz => b1_ z (by omega) (by omega) (by omega) (by omega)
  have a : ∀ z, z < 135 → z ≠ 1 → (z < h ∨ h + 4 ≤ z) → I2_ z = I z := fun z h1_ h2_ h3_ => by rw [lo z h1_, a1_ z h2_ h3_]
  have ah : ∀ z, 33 ≤ z → I1_ z = I z := fun z hz => a1_ z (by omega) (by omega)
  have bh : ∀ z, 136 ≤ z → z ≠ 137 → z ≠ 138 → z ≠ 148 → I2_ z = I z := fun z h0_ h1_ h2_ h3_ => by rw [b1_ z (by omega) h1_ h2_ h3_, ah z (by omega)]
  have jl : ∀ z, z ≠ 1 → z ≠ 139 → J2_ z = J z := fun z h1_ h2_ => by rw [bj z h2_, a3_ z h1_]
  obtain ⟨h1_, h2_, h3_, h4_, h5_, h6_, h7_, h8_, h9_⟩ := id H1_
  have hR : RI R1_ f g h e := hr.at (fun a k h1_ h2_ => a4_ a k h1_ (by omega)) a5_ ⟨hr.1, hr.2.2.1, hr.2.1, fun z => heh z.symm⟩ ((a4_ 0 2 (by decide) (by decide)).trans hr.2.2.2.2.1) ((a4_ 0 3 (by decide) (by decide)).trans hr.2.2.2.2.2.1) a44_ a45_
  refine ⟨H1_.re hR (fun z _ _ => a z (by omega) (by omega) (by omega)) (fun z _ _ => jl z (by omega) (by omega)) (h3_.2.2.2.1.congr (fun i hi => a _ (by omega) (by omega) (by omega))) h3_.2.2.2.2 (CTp_0 (by rw [lo 1 (by decide)]; exact a2_)) (h6_.congr (fun z _ _ => a z (by omega) (by omega) (by omega))) (fun i hi => by rw [a 108 (by omega) (by omega) (by omega)]; exact h7_ i hi) (h8_.congr (fun z _ _ => a z (by omega) (by omega) (by omega))) (av.congr (fun j hj => lo _ (by omega))), ?_, H3_.up.1, H3_.up.2.1, H3_.2.2.1, H3_.up.2.2.2.1, v40_⟩
  have e135_ : ∀ k, k ≠ 0 → k ≠ 2 → k ≠ 3 → k ≠ 7 → k ≠ 8 → I2_ 135 k = I 135 k := fun k h1_ h2_ h3_ h4_ h5_ => by rw [b2_ k h1_ h2_ h3_ h4_ h5_, ah 135 (by decide)]
  exact H2_.re2 (bh 141 (by decide) (by decide) (by decide) (by decide)) (bh 142 (by decide) (by decide) (by decide) (by decide)) (bh 143 (by decide) (by decide) (by decide) (by decide)) e135_ (bh 146 (by decide) (by decide) (by decide) (by decide)) (bh 151 (by decide) (by decide) (by decide) (by decide)) (bh 152 (by decide) (by decide) (by decide) (by decide)) (jl 144 (by decide) (by decide)) (jl 140 (by decide) (by decide)) (MTp_0 b4_) v0_ vl
