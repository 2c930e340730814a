/-! A FILM AS IT IS READ: the class's rows -/
def xIdx {α : Type} [DecidableEq α] (f : Nat → α) (v : α) : Nat → Option Nat
  | 0 => none
  | n + 1 => match xIdx f v n with
    | some i => some i
    | none => if f n = v then some n else none
theorem xIdx_hit {α : Type} [DecidableEq α] {f : Nat → α} {v : α} {n : Nat} (h : xIdx f v n = none) (g : f n = v) : ∀ p, xIdx f v (n + 1 + p) = some n
  | 0 => by
    unfold xIdx
    rw [h]
    exact if_pos g
  | p + 1 => by
    rw [← Nat.add_assoc]
    unfold xIdx
    rw [xIdx_hit h g p]
theorem xIdx_no {α : Type} [DecidableEq α] {f : Nat → α} {v : α} {n : Nat} (h : xIdx f v n = none) (g : ¬ f n = v) : xIdx f v (n + 1) = none := by
  unfold xIdx
  rw [h]
  exact if_neg g
theorem xIdx_up {α : Type} [DecidableEq α] {f : Nat → α} {v : α} {n : Nat} : xIdx f v (n + 1) = match xIdx f v n with
    | some i => some i
    | none => if f n = v then some n else none := rfl
theorem xIdx_some {α : Type} [DecidableEq α] {f : Nat → α} {v : α} {i : Nat} : ∀ n, xIdx f v n = some i → i < n ∧ f i = v
  | 0, h => by cases h
  | n + 1, h => by
    rw [xIdx_up] at h
    cases e : xIdx f v n with
    | some j =>
      rw [e] at h
      cases h
      have := xIdx_some n e
      exact ⟨by omega, this.2⟩
    | none =>
      rw [e] at h
      by_cases g : f n = v
      · have h2 : (if f n = v then some n else none) = some i := h
        rw [if_pos g] at h2
        cases h2
        exact ⟨by omega, g⟩
      · have h2 : (if f n = v then some n else none) = some i := h
        rw [if_neg g] at h2
        cases h2
theorem xIdx_none {α : Type} [DecidableEq α] {f : Nat → α} {v : α} : ∀ n, xIdx f v n = none → ∀ i, i < n → ¬ f i = v
  | 0, _, i, hi => absurd hi (by omega)
  | n + 1, h, i, hi => by
    rw [xIdx_up] at h
    cases e : xIdx f v n with
    | some j => rw [e] at h; cases h
    | none =>
      rw [e] at h
      by_cases z : i = n
      · rw [z]
        intro g
        have h2 : (if f n = v then some n else none) = none := h
        rw [if_pos g] at h2
        cases h2
      · exact xIdx_none n e i (by omega)
/-- names as longs: found where the names are -/
theorem xIdx_long {nm : Nat → Nat} {f : Nat → Int64} {v : Nat} (hv : v < 2 ^ 40) : ∀ n, (∀ i, i < n → f i = Int64.ofNat (nm i) ∧ nm i < 2 ^ 40) → xIdx f (Int64.ofNat v) n = xIdx nm v n
  | 0, _ => rfl
  | n + 1, h => by
    rw [xIdx_up, xIdx_up, xIdx_long hv n (fun i hi => h i (by omega))]
    obtain ⟨h1, h2⟩ := h n (by omega)
    cases xIdx nm v n with
    | some j => rfl
    | none =>
      show (if f n = Int64.ofNat v then some n else none) = (if nm n = v then some n else none)
      by_cases g : nm n = v
      · rw [if_pos g, if_pos (by rw [h1, g])]
      · rw [if_neg g, if_neg (fun z => g (by rw [h1, l_inj (by omega) (by omega)] at z; exact z))]
def oI (o : Option Nat) : Int32 := match o with
  | some i => nI i
  | none => -1
/-- a film: how many things, scenes, watchers; the star; names of things, of watchers; scenes, watchers -/
abbrev pF : Type := (Nat × Nat × Nat × Nat) × (Nat → Nat) × (Nat → Nat) × (Nat → Nat × Nat × Nat × Nat) × (Nat → Nat × Nat × Nat)
def FOk (F : pF) : Prop := F.1.1 ≤ 6 ∧ F.1.2.1 ≤ 8 ∧ F.1.2.2.1 ≤ 6 ∧ F.1.2.2.2 ≤ 8 ∧ (∀ t, t < F.1.1 → F.2.1 t < 2 ^ 40) ∧ (∀ w, w < F.1.2.2.1 → F.2.2.1 w < 2 ^ 40) ∧
  (∀ k, k < F.1.2.1 → (F.2.2.2.1 k).1 < F.1.1 ∧ (F.2.2.2.1 k).2.1 < 2 ∧ (F.2.2.2.1 k).2.2.1 < F.1.1 ∧ (F.2.2.2.1 k).2.2.2 < 2) ∧ (∀ w, w < F.1.2.2.1 → (F.2.2.2.2 w).1 < 4 ∧ (F.2.2.2.2 w).2.1 < 10 ∧ (F.2.2.2.2 w).2.2 ≤ 30)
def CFm (I : xTI) (J : xTJ) (g : Nat) (F : pF) : Prop := I g 0 = nI F.1.1 ∧ I g 1 = nI F.1.2.1 ∧ I g 2 = nI F.1.2.2.1 ∧ (∀ t, t < F.1.1 → J (g + 1) t = Int64.ofNat (F.2.1 t)) ∧ (∀ w, w < F.1.2.2.1 → J (g + 2) w = Int64.ofNat (F.2.2.1 w)) ∧
  (∀ k, k < F.1.2.1 → I (g + 3) k = nI (2 * (F.2.2.2.1 k).1 + (F.2.2.2.1 k).2.1) ∧ I (g + 4) k = nI (2 * (F.2.2.2.1 k).2.2.1 + (F.2.2.2.1 k).2.2.2)) ∧ (∀ w, w < F.1.2.2.1 → I (g + 5) w = nI (F.2.2.2.2 w).1 ∧ I (g + 6) w = nI (F.2.2.2.2 w).2.1 ∧ I (g + 7) w = nI (F.2.2.2.2 w).2.2)
theorem CFm.congr {I I' : xTI} {J J' : xTJ} {g : Nat} {F : pF} (h : CFm I J g F) (e0 : I' g 0 = I g 0) (e1 : I' g 1 = I g 1) (e2 : I' g 2 = I g 2) (e3 : ∀ j, 3 ≤ j → j < 8 → I' (g + j) = I (g + j)) (f1 : J' (g + 1) = J (g + 1)) (f2 : J' (g + 2) = J (g + 2)) : CFm I' J' g F := by
  unfold CFm at h ⊢
  rw [e0, e1, e2, f1, f2, e3 3 (by decide) (by decide), e3 4 (by decide) (by decide), e3 5 (by decide) (by decide), e3 6 (by decide) (by decide), e3 7 (by decide) (by decide)]
  exact h
def fThing (F : pF) (v : Nat) : pF := ((F.1.1 + 1, F.1.2), mUp F.2.1 F.1.1 v, F.2.2)
def fScene (F : pF) (c : Nat × Nat × Nat × Nat) : pF := ((F.1.1, F.1.2.1 + 1, F.1.2.2), F.2.1, F.2.2.1, mUp F.2.2.2.1 F.1.2.1 c, F.2.2.2.2)
def fWatch (F : pF) (v : Nat) (c : Nat × Nat × Nat) : pF := ((F.1.1, F.1.2.1, F.1.2.2.1 + 1, F.1.2.2.2), F.2.1, mUp F.2.2.1 F.1.2.2.1 v, F.2.2.2.1, mUp F.2.2.2.2 F.1.2.2.1 c)
def fStar (F : pF) (v : Nat) : pF := ((F.1.1, F.1.2.1, F.1.2.2.1, v), F.2)
theorem mUp_same {α : Type} (f : Nat → α) (k : Nat) (v : α) : mUp f k v k = v := if_pos rfl
theorem mUp_off {α : Type} (f : Nat → α) {k j : Nat} (v : α) (h : j ≠ k) : mUp f k v j = f j := if_neg h
theorem fThing_ok {F : pF} {v : Nat} (h : FOk F) (h6 : F.1.1 < 6) (hv : v < 2 ^ 40) : FOk (fThing F v) := by
  obtain ⟨a1, a2, a3, a4, a5, a6, a7, a8⟩ := h
  refine ⟨h6, a2, a3, a4, fun t ht => ?_, a6, fun k hk => ?_, a8⟩
  · have ht' : t < F.1.1 + 1 := ht
    show mUp F.2.1 F.1.1 v t < 2 ^ 40
    by_cases e : t = F.1.1
    · rw [e, mUp_same]; exact hv
    · rw [mUp_off _ _ e]; exact a5 t (by omega)
  · obtain ⟨b1, b2, b3, b4⟩ := a7 k hk
    exact ⟨Nat.lt_succ_of_lt b1, b2, Nat.lt_succ_of_lt b3, b4⟩
theorem fScene_ok {F : pF} {c : Nat × Nat × Nat × Nat} (h : FOk F) (h8 : F.1.2.1 < 8) (hc : c.1 < F.1.1 ∧ c.2.1 < 2 ∧ c.2.2.1 < F.1.1 ∧ c.2.2.2 < 2) : FOk (fScene F c) := by
  obtain ⟨a1, a2, a3, a4, a5, a6, a7, a8⟩ := h
  refine ⟨a1, h8, a3, a4, a5, a6, fun k hk => ?_, a8⟩
  have hk' : k < F.1.2.1 + 1 := hk
  show (mUp F.2.2.2.1 F.1.2.1 c k).1 < F.1.1 ∧ (mUp F.2.2.2.1 F.1.2.1 c k).2.1 < 2 ∧ (mUp F.2.2.2.1 F.1.2.1 c k).2.2.1 < F.1.1 ∧ (mUp F.2.2.2.1 F.1.2.1 c k).2.2.2 < 2
  by_cases e : k = F.1.2.1
  · rw [e, mUp_same]; exact hc
  · rw [mUp_off _ _ e]; exact a7 k (by omega)
theorem fWatch_ok {F : pF} {v : Nat} {c : Nat × Nat × Nat} (h : FOk F) (h6 : F.1.2.2.1 < 6) (hv : v < 2 ^ 40) (hc : c.1 < 4 ∧ c.2.1 < 10 ∧ c.2.2 ≤ 30) : FOk (fWatch F v c) := by
  obtain ⟨a1, a2, a3, a4, a5, a6, a7, a8⟩ := h
  refine ⟨a1, a2, h6, a4, a5, fun w hw => ?_, a7, fun w hw => ?_⟩
  · have hw' : w < F.1.2.2.1 + 1 := hw
    show mUp F.2.2.1 F.1.2.2.1 v w < 2 ^ 40
    by_cases e : w = F.1.2.2.1
    · rw [e, mUp_same]; exact hv
    · rw [mUp_off _ _ e]; exact a6 w (by omega)
  · have hw' : w < F.1.2.2.1 + 1 := hw
    show (mUp F.2.2.2.2 F.1.2.2.1 c w).1 < 4 ∧ (mUp F.2.2.2.2 F.1.2.2.1 c w).2.1 < 10 ∧ (mUp F.2.2.2.2 F.1.2.2.1 c w).2.2 ≤ 30
    by_cases e : w = F.1.2.2.1
    · rw [e, mUp_same]; exact hc
    · rw [mUp_off _ _ e]; exact a8 w (by omega)
def F0' : pF := ((0, 0, 0, 8), fun _ => 0, fun _ => 0, fun _ => (0, 0, 0, 0), fun _ => (0, 0, 0))
theorem F0_ok : FOk F0' := ⟨by decide, by decide, by decide, by decide, fun t h => absurd h (Nat.not_lt_zero t), fun t h => absurd h (Nat.not_lt_zero t), fun t h => absurd h (Nat.not_lt_zero t), fun t h => absurd h (Nat.not_lt_zero t)⟩
theorem c_X2_clear {S : xTS} {R : xTR} {I : xTI} {J : xTJ} {post : xPost} {g : Nat} (hF : isFilm S R g) (hp : ∀ I', (∀ a, a ≠ g → I' a = I a) → CFm I' J g F0' → I' g 3 = nI 8 → post none S R I' J) : xSpec 1 yX2_clear cX2_clear 1 none 0 0 [.ref g] S R I J post := by
  refine xSpec_of mt_X2_clear (Nat.le_of_ble_eq_true rfl) (fun G C0 hN hR E hI hZ => ?_)
  change XX G 0 0 0 [some (.ref g)] [] S R I J
  obtain ⟨z0, z1, z2, z3, z4, z5, z6, z7, z8, y4, y5, y6, y7, y8, y9, y10, y11⟩ := id hF
  refine x_aload_n C0 rfl dX2_clear_0 ?_
  refine x_iconst (v := nI 0) C0 rfl dX2_clear_1 ?_
  refine x_putI C0 wf_X2_41 (by assumption) rfl dX2_clear_2 ?_
  refine x_aload_n C0 rfl dX2_clear_5 ?_
  refine x_iconst (v := nI 0) C0 rfl dX2_clear_6 ?_
  refine x_putI C0 wf_X2_44 (by assumption) rfl dX2_clear_7 ?_
  refine x_aload_n C0 rfl dX2_clear_10 ?_
  refine x_iconst (v := nI 0) C0 rfl dX2_clear_11 ?_
  refine x_putI C0 wf_X2_47 (by assumption) rfl dX2_clear_12 ?_
  refine x_aload_n C0 rfl dX2_clear_15 ?_
  refine x_bipush (v := nI 8) C0 rfl dX2_clear_16 ?_
  refine x_putI C0 wf_X2_9 (by assumption) rfl dX2_clear_18 ?_
  refine x_vret C0 E (by decide) (by decide) dX2_clear_21 ?_
  refine hp _ (fun a h => ?_) ⟨?_, ?_, ?_, fun t h => absurd h (Nat.not_lt_zero t), fun t h => absurd h (Nat.not_lt_zero t), fun t h => absurd h (Nat.not_lt_zero t), fun t h => absurd h (Nat.not_lt_zero t)⟩ (u2_same _ _ _ _)
  · rw [u2_row _ _ _ h, u2_row _ _ _ h, u2_row _ _ _ h, u2_row _ _ _ h]
  · rw [u2_off _ _ (by decide), u2_off _ _ (by decide), u2_off _ _ (by decide), u2_same]; rfl
  · rw [u2_off _ _ (by decide), u2_off _ _ (by decide), u2_same]; rfl
  · rw [u2_off _ _ (by decide), u2_same]; rfl
theorem c_X2_thingNamed {S : xTS} {R : xTR} {I : xTI} {J : xTJ} {post : xPost} {g : Nat} (hF : isFilm S R g) {F : pF} (ok : FOk F) (C : CFm I J g F) {v : Int64} (hp : post (some (.int (oI (xIdx (J (g + 1)) v F.1.1)))) S R I J) : xSpec 1 yX2_thingNamed cX2_thingNamed 4 (some .int) 0 0 [.ref g, .long v] S R I J post := by
  refine xSpec_of mt_X2_thingNamed (Nat.le_of_ble_eq_true rfl) (fun G C0 hN hR E hI hZ => ?_)
  change XX G 0 0 0 [some (.ref g), some (.long v), none, none] [] S R I J
  obtain ⟨z0, z1, z2, z3, z4, z5, z6, z7, z8, y4, y5, y6, y7, y8, y9, y10, y11⟩ := id hF
  obtain ⟨c0, c1, c2, c3, c4, c5, c6⟩ := id C
  obtain ⟨k6, k8, k6v, k8s, kn, kw, kq, kr⟩ := id ok
  have h2 : ∀ q k, k + q = F.1.1 → xIdx (J (g + 1)) v k = none → XX G 0 0 2 [some (.ref g), some (.long v), none, some (.int (nI k))] [] S R I J := by
    intro q
    induction q with
    | zero =>
      intro k hk hd
      have hk8 : k = F.1.1 := by omega
      refine x_iload_n C0 rfl dX2_thingNamed_2 ?_
      refine x_aload_n C0 rfl dX2_thingNamed_3 ?_
      refine x_getI C0 wf_X2_41 (by assumption) rfl dX2_thingNamed_4 ?_
      refine x_topi c0 ?_
      refine x_icmp_ge (tgt := 38) C0 (by decide) dX2_thingNamed_7 (fun _ => ?_) (fun hkk => absurd ((by rw [hk8]; exact Int32.le_refl _)) hkk)
      refine x_iconst (v := -1) C0 rfl dX2_thingNamed_38 ?_
      refine x_iret C0 E (by decide) (by decide) dX2_thingNamed_39 ?_
      rw [← hk8, hd] at hp
      exact hp
    | succ q ih =>
      intro k hk hd
      refine x_iload_n C0 rfl dX2_thingNamed_2 ?_
      refine x_aload_n C0 rfl dX2_thingNamed_3 ?_
      refine x_getI C0 wf_X2_41 (by assumption) rfl dX2_thingNamed_4 ?_
      refine x_topi c0 ?_
      refine x_icmp_ge (tgt := 38) C0 (by decide) dX2_thingNamed_7 (fun hkk => absurd hkk (nI_ge (by omega) (by omega))) (fun _ => ?_)
      refine x_iload_n C0 rfl dX2_thingNamed_10 ?_
      refine x_aload_n C0 rfl dX2_thingNamed_11 ?_
      refine x_getR C0 wf_X2_15 (by assumption) rfl rfl (by assumption) dX2_thingNamed_12 ?_
      refine x_alen C0 (by assumption) (by decide) (by decide) rfl dX2_thingNamed_15 ?_
      refine x_icmp_ge (tgt := 38) C0 (by decide) dX2_thingNamed_16 (fun hkk => absurd hkk (nI_ge (b := 6) (by omega) (by omega))) (fun _ => ?_)
      refine x_aload_n C0 rfl dX2_thingNamed_19 ?_
      refine x_getR C0 wf_X2_15 (by assumption) rfl rfl (by assumption) dX2_thingNamed_20 ?_
      refine x_iload_n C0 rfl dX2_thingNamed_23 ?_
      refine x_laloadN C0 (by assumption) (by omega) (by omega) dX2_thingNamed_24 ?_
      refine x_lload_n C0 rfl dX2_thingNamed_25 ?_
      refine x_lcmp C0 dX2_thingNamed_26 ?_
      refine x_if_ne (tgt := 32) C0 (by decide) dX2_thingNamed_27 (fun g27 => ?_) (fun g27 => ?_)
      · refine x_iinc (v := nI (k + 1)) (L' := [_, _, _, _]) C0 hN rfl (by decide) (nI_inc k) rfl dX2_thingNamed_32 ?_
        refine x_goto (tgt := 2) C0 (by decide) dX2_thingNamed_35 ?_
        exact ih (k + 1) (by omega) (xIdx_no hd (fun z => g27 ((lg_cmp_eq _ _).mpr z)))
      · refine x_iload_n C0 rfl dX2_thingNamed_30 ?_
        refine x_iret C0 E (by decide) (by decide) dX2_thingNamed_31 ?_
        have e := xIdx_hit hd ((lg_cmp_eq _ _).mp g27) (F.1.1 - k - 1)
        rw [show k + 1 + (F.1.1 - k - 1) = F.1.1 by omega] at e
        rw [e] at hp
        exact hp
  refine x_iconst (v := nI 0) C0 rfl dX2_thingNamed_0 ?_
  refine x_istore_n (L' := [_, _, _, _]) C0 hN (by decide) rfl dX2_thingNamed_1 ?_
  exact h2 F.1.1 0 (by omega) rfl
theorem c_X2_watcherNamed {S : xTS} {R : xTR} {I : xTI} {J : xTJ} {post : xPost} {g : Nat} (hF : isFilm S R g) {F : pF} (ok : FOk F) (C : CFm I J g F) {v : Int64} (hp : post (some (.int (oI (xIdx (J (g + 2)) v F.1.2.2.1)))) S R I J) : xSpec 1 yX2_watcherNamed cX2_watcherNamed 4 (some .int) 0 0 [.ref g, .long v] S R I J post := by
  refine xSpec_of mt_X2_watcherNamed (Nat.le_of_ble_eq_true rfl) (fun G C0 hN hR E hI hZ => ?_)
  change XX G 0 0 0 [some (.ref g), some (.long v), none, none] [] S R I J
  obtain ⟨z0, z1, z2, z3, z4, z5, z6, z7, z8, y4, y5, y6, y7, y8, y9, y10, y11⟩ := id hF
  obtain ⟨c0, c1, c2, c3, c4, c5, c6⟩ := id C
  obtain ⟨k6, k8, k6v, k8s, kn, kw, kq, kr⟩ := id ok
  have h2 : ∀ q k, k + q = F.1.2.2.1 → xIdx (J (g + 2)) v k = none → XX G 0 0 2 [some (.ref g), some (.long v), none, some (.int (nI k))] [] S R I J := by
    intro q
    induction q with
    | zero =>
      intro k hk hd
      have hk8 : k = F.1.2.2.1 := by omega
      refine x_iload_n C0 rfl dX2_watcherNamed_2 ?_
      refine x_aload_n C0 rfl dX2_watcherNamed_3 ?_
      refine x_getI C0 wf_X2_47 (by assumption) rfl dX2_watcherNamed_4 ?_
      refine x_topi c2 ?_
      refine x_icmp_ge (tgt := 38) C0 (by decide) dX2_watcherNamed_7 (fun _ => ?_) (fun hkk => absurd ((by rw [hk8]; exact Int32.le_refl _)) hkk)
      refine x_iconst (v := -1) C0 rfl dX2_watcherNamed_38 ?_
      refine x_iret C0 E (by decide) (by decide) dX2_watcherNamed_39 ?_
      rw [← hk8, hd] at hp
      exact hp
    | succ q ih =>
      intro k hk hd
      refine x_iload_n C0 rfl dX2_watcherNamed_2 ?_
      refine x_aload_n C0 rfl dX2_watcherNamed_3 ?_
      refine x_getI C0 wf_X2_47 (by assumption) rfl dX2_watcherNamed_4 ?_
      refine x_topi c2 ?_
      refine x_icmp_ge (tgt := 38) C0 (by decide) dX2_watcherNamed_7 (fun hkk => absurd hkk (nI_ge (by omega) (by omega))) (fun _ => ?_)
      refine x_iload_n C0 rfl dX2_watcherNamed_10 ?_
      refine x_aload_n C0 rfl dX2_watcherNamed_11 ?_
      refine x_getR C0 wf_X2_19 (by assumption) rfl rfl (by assumption) dX2_watcherNamed_12 ?_
      refine x_alen C0 (by assumption) (by decide) (by decide) rfl dX2_watcherNamed_15 ?_
      refine x_icmp_ge (tgt := 38) C0 (by decide) dX2_watcherNamed_16 (fun hkk => absurd hkk (nI_ge (b := 6) (by omega) (by omega))) (fun _ => ?_)
      refine x_aload_n C0 rfl dX2_watcherNamed_19 ?_
      refine x_getR C0 wf_X2_19 (by assumption) rfl rfl (by assumption) dX2_watcherNamed_20 ?_
      refine x_iload_n C0 rfl dX2_watcherNamed_23 ?_
      refine x_laloadN C0 (by assumption) (by omega) (by omega) dX2_watcherNamed_24 ?_
      refine x_lload_n C0 rfl dX2_watcherNamed_25 ?_
      refine x_lcmp C0 dX2_watcherNamed_26 ?_
      refine x_if_ne (tgt := 32) C0 (by decide) dX2_watcherNamed_27 (fun g27 => ?_) (fun g27 => ?_)
      · refine x_iinc (v := nI (k + 1)) (L' := [_, _, _, _]) C0 hN rfl (by decide) (nI_inc k) rfl dX2_watcherNamed_32 ?_
        refine x_goto (tgt := 2) C0 (by decide) dX2_watcherNamed_35 ?_
        exact ih (k + 1) (by omega) (xIdx_no hd (fun z => g27 ((lg_cmp_eq _ _).mpr z)))
      · refine x_iload_n C0 rfl dX2_watcherNamed_30 ?_
        refine x_iret C0 E (by decide) (by decide) dX2_watcherNamed_31 ?_
        have e := xIdx_hit hd ((lg_cmp_eq _ _).mp g27) (F.1.2.2.1 - k - 1)
        rw [show k + 1 + (F.1.2.2.1 - k - 1) = F.1.2.2.1 by omega] at e
        rw [e] at hp
        exact hp
  refine x_iconst (v := nI 0) C0 rfl dX2_watcherNamed_0 ?_
  refine x_istore_n (L' := [_, _, _, _]) C0 hN (by decide) rfl dX2_watcherNamed_1 ?_
  exact h2 F.1.2.2.1 0 (by omega) rfl
theorem c_X2_addThing {S : xTS} {R : xTR} {I : xTI} {J : xTJ} {post : xPost} {g : Nat} (hF : isFilm S R g) {F : pF} (ok : FOk F) (C : CFm I J g F) (h6 : F.1.1 < 6) {v : Nat} (hp : ∀ I' J', (∀ a, a ≠ g → I' a = I a) → (∀ k, k ≠ 0 → I' g k = I g k) → (∀ a, a ≠ g + 1 → J' a = J a) → CFm I' J' g (fThing F v) → post none S R I' J') : xSpec 1 yX2_addThing cX2_addThing 3 none 0 0 [.ref g, .long (Int64.ofNat v)] S R I J post := by
  refine xSpec_of mt_X2_addThing (Nat.le_of_ble_eq_true rfl) (fun G C0 hN hR E hI hZ => ?_)
  change XX G 0 0 0 [some (.ref g), some (.long (Int64.ofNat v)), none] [] S R I J
  obtain ⟨z0, z1, z2, z3, z4, z5, z6, z7, z8, y4, y5, y6, y7, y8, y9, y10, y11⟩ := id hF
  obtain ⟨c0, c1, c2, c3, c4, c5, c6⟩ := id C
  obtain ⟨k6, k8, k6v, k8s, kn, kw, kq, kr⟩ := id ok
  refine x_aload_n C0 rfl dX2_addThing_0 ?_
  refine x_getI C0 wf_X2_41 (by assumption) rfl dX2_addThing_1 ?_
  refine x_topi c0 ?_
  refine x_aload_n C0 rfl dX2_addThing_4 ?_
  refine x_getR C0 wf_X2_15 (by assumption) rfl rfl (by assumption) dX2_addThing_5 ?_
  refine x_alen C0 (by assumption) (by decide) (by decide) rfl dX2_addThing_8 ?_
  refine x_icmp_ge (tgt := 32) C0 (by decide) dX2_addThing_9 (fun hkk => absurd hkk (nI_ge (b := 6) (by omega) (by omega))) (fun _ => ?_)
  refine x_aload_n C0 rfl dX2_addThing_12 ?_
  refine x_getR C0 wf_X2_15 (by assumption) rfl rfl (by assumption) dX2_addThing_13 ?_
  refine x_aload_n C0 rfl dX2_addThing_16 ?_
  refine x_getI C0 wf_X2_41 (by assumption) rfl dX2_addThing_17 ?_
  refine x_topi c0 ?_
  refine x_lload_n C0 rfl dX2_addThing_20 ?_
  refine x_lastoreN C0 (by assumption) (by omega) (by omega) dX2_addThing_21 ?_
  refine x_aload_n C0 rfl dX2_addThing_22 ?_
  refine x_dup C0 rfl dX2_addThing_23 ?_
  refine x_getI C0 wf_X2_41 (by assumption) rfl dX2_addThing_24 ?_
  refine x_topi c0 ?_
  refine x_iconst (v := nI 1) C0 rfl dX2_addThing_27 ?_
  refine x_iadd C0 dX2_addThing_28 ?_
  refine x_topi (nI_add _ 1) ?_
  refine x_putI C0 wf_X2_41 (by assumption) rfl dX2_addThing_29 ?_
  refine x_vret C0 E (by decide) (by decide) dX2_addThing_32 ?_
  refine hp _ _ (fun a h => u2_row _ _ _ h) (fun k h => u2_off _ _ h) (fun a h => u2_row _ _ _ h) ⟨u2_same _ _ _ _, ?_, ?_, fun t ht => ?_, fun w hw => ?_, fun k hk => ?_, fun w hw => ?_⟩
  · rw [u2_off _ _ (by decide)]; exact c1
  · rw [u2_off _ _ (by decide)]; exact c2
  · have ht' : t < F.1.1 + 1 := ht
    show _ = Int64.ofNat (mUp F.2.1 F.1.1 v t)
    by_cases e : t = F.1.1
    · rw [e, u2_same, mUp_same]
    · rw [u2_off _ _ e, mUp_off _ _ e]; exact c3 t (by omega)
  · rw [u2_row _ _ _ (by omega)]; exact c4 w hw
  · rw [u2_row _ _ _ (by omega), u2_row _ _ _ (by omega)]; exact c5 k hk
  · rw [u2_row _ _ _ (by omega), u2_row _ _ _ (by omega), u2_row _ _ _ (by omega)]; exact c6 w hw
theorem c_X2_addScene {S : xTS} {R : xTR} {I : xTI} {J : xTJ} {post : xPost} {g : Nat} (hF : isFilm S R g) {F : pF} (ok : FOk F) (C : CFm I J g F) (h8 : F.1.2.1 < 8) {t b t2 b2 : Nat} (hp : ∀ I', (∀ a, (a < g ∨ g + 9 ≤ a) → I' a = I a) → (∀ k, k ≠ 1 → I' g k = I g k) → CFm I' J g (fScene F (t, b, t2, b2)) → post none S R I' J) : xSpec 2 yX2_addScene cX2_addScene 3 none 0 0 [.ref g, .int (nI (2 * t + b)), .int (nI (2 * t2 + b2))] S R I J post := by
  refine xSpec_of mt_X2_addScene (Nat.le_of_ble_eq_true rfl) (fun G C0 hN hR E hI hZ => ?_)
  change XX G 0 0 0 [some (.ref g), some (.int (nI (2 * t + b))), some (.int (nI (2 * t2 + b2)))] [] S R I J
  obtain ⟨z0, z1, z2, z3, z4, z5, z6, z7, z8, y4, y5, y6, y7, y8, y9, y10, y11⟩ := id hF
  obtain ⟨c0, c1, c2, c3, c4, c5, c6⟩ := id C
  obtain ⟨k6, k8, k6v, k8s, kn, kw, kq, kr⟩ := id ok
  refine x_aload_n C0 rfl dX2_addScene_0 ?_
  refine x_getI C0 wf_X2_44 (by assumption) rfl dX2_addScene_1 ?_
  refine x_topi c1 ?_
  refine x_bipush (v := nI 8) C0 rfl dX2_addScene_4 ?_
  refine x_icmp_ge (tgt := 43) C0 (by decide) dX2_addScene_6 (fun hkk => absurd hkk (nI_ge (b := 8) (by omega) (by omega))) (fun _ => ?_)
  refine x_aload_n C0 rfl dX2_addScene_9 ?_
  refine x_getR C0 wf_X2_22 (by assumption) rfl rfl (by assumption) dX2_addScene_10 ?_
  refine x_aload_n C0 rfl dX2_addScene_13 ?_
  refine x_getI C0 wf_X2_44 (by assumption) rfl dX2_addScene_14 ?_
  refine x_topi c1 ?_
  refine x_iload_n C0 rfl dX2_addScene_17 ?_
  refine x_callS [_, _, _] C0 (xRf_of hR (by decide) (Nat.zero_le _) (Nat.zero_le _)) ms_X8_set wm_X2_50 dX2_addScene_18 rfl rfl (Nat.le_of_ble_eq_true rfl) (c_X8_set z3 (by omega) (by decide) ?_)
  refine x_aload_n C0 rfl dX2_addScene_21 ?_
  refine x_getR C0 wf_X2_26 (by assumption) rfl rfl (by assumption) dX2_addScene_22 ?_
  refine x_aload_n C0 rfl dX2_addScene_25 ?_
  refine x_getI C0 wf_X2_44 (by assumption) rfl dX2_addScene_26 ?_
  refine x_topi (show u2 I (g + 3) F.1.2.1 (nI (2 * t + b)) g 1 = nI F.1.2.1 by rw [u2_row _ _ _ (by omega)]; exact c1) ?_
  refine x_iload_n C0 rfl dX2_addScene_29 ?_
  refine x_callS [_, _, _] C0 (xRf_of hR (by decide) (Nat.zero_le _) (Nat.zero_le _)) ms_X8_set wm_X2_50 dX2_addScene_30 rfl rfl (Nat.le_of_ble_eq_true rfl) (c_X8_set z4 (by omega) (by decide) ?_)
  refine x_aload_n C0 rfl dX2_addScene_33 ?_
  refine x_dup C0 rfl dX2_addScene_34 ?_
  refine x_getI C0 wf_X2_44 (by assumption) rfl dX2_addScene_35 ?_
  refine x_topi (show u2 (u2 I (g + 3) F.1.2.1 (nI (2 * t + b))) (g + 4) F.1.2.1 (nI (2 * t2 + b2)) g 1 = nI F.1.2.1 by rw [u2_row _ _ _ (by omega), u2_row _ _ _ (by omega)]; exact c1) ?_
  refine x_iconst (v := nI 1) C0 rfl dX2_addScene_38 ?_
  refine x_iadd C0 dX2_addScene_39 ?_
  refine x_topi (nI_add _ 1) ?_
  refine x_putI C0 wf_X2_44 (by assumption) rfl dX2_addScene_40 ?_
  refine x_vret C0 E (by decide) (by decide) dX2_addScene_43 ?_
  refine hp _ (fun a h => ?_) (fun k h => ?_) ⟨?_, u2_same _ _ _ _, ?_, c3, c4, fun k hk => ?_, fun w hw => ?_⟩
  · rw [u2_row _ _ _ (by omega), u2_row _ _ _ (by omega), u2_row _ _ _ (by omega)]
  · rw [u2_off _ _ h, u2_row _ _ _ (by omega), u2_row _ _ _ (by omega)]
  · rw [u2_off _ _ (by decide), u2_row _ _ _ (by omega), u2_row _ _ _ (by omega)]; exact c0
  · rw [u2_off _ _ (by decide), u2_row _ _ _ (by omega), u2_row _ _ _ (by omega)]; exact c2
  · have hk' : k < F.1.2.1 + 1 := hk
    show _ = nI (2 * (mUp F.2.2.2.1 F.1.2.1 (t, b, t2, b2) k).1 + (mUp F.2.2.2.1 F.1.2.1 (t, b, t2, b2) k).2.1) ∧ _ = nI (2 * (mUp F.2.2.2.1 F.1.2.1 (t, b, t2, b2) k).2.2.1 + (mUp F.2.2.2.1 F.1.2.1 (t, b, t2, b2) k).2.2.2)
    have e3 : (u2 (u2 (u2 I (g + 3) F.1.2.1 (nI (2 * t + b))) (g + 4) F.1.2.1 (nI (2 * t2 + b2))) g 1 (nI (F.1.2.1 + 1))) (g + 3) k = (u2 I (g + 3) F.1.2.1 (nI (2 * t + b))) (g + 3) k := by rw [u2_row _ _ _ (by omega), u2_row _ _ _ (by omega)]
    have e4 : (u2 (u2 (u2 I (g + 3) F.1.2.1 (nI (2 * t + b))) (g + 4) F.1.2.1 (nI (2 * t2 + b2))) g 1 (nI (F.1.2.1 + 1))) (g + 4) k = (u2 I (g + 4) F.1.2.1 (nI (2 * t2 + b2))) (g + 4) k := by
      rw [u2_row _ _ _ (by omega)]
      by_cases e : k = F.1.2.1
      · rw [e, u2_same, u2_same]
      · rw [u2_off _ _ e, u2_off _ _ e, u2_row _ _ _ (by omega)]
    rw [e3, e4]
    by_cases e : k = F.1.2.1
    · rw [e, u2_same, u2_same, mUp_same]; exact ⟨rfl, rfl⟩
    · rw [u2_off _ _ e, u2_off _ _ e, mUp_off _ _ e]
      exact c5 k (by omega)
  · rw [u2_row _ _ _ (by omega), u2_row _ _ _ (by omega), u2_row _ _ _ (by omega), u2_row _ _ _ (by omega), u2_row _ _ _ (by omega), u2_row _ _ _ (by omega), u2_row _ _ _ (by omega), u2_row _ _ _ (by omega), u2_row _ _ _ (by omega)]; exact c6 w hw
theorem c_X2_addWatcher {S : xTS} {R : xTR} {I : xTI} {J : xTJ} {post : xPost} {g : Nat} (hF : isFilm S R g) {F : pF} (ok : FOk F) (C : CFm I J g F) (h6 : F.1.2.2.1 < 6) {v kd tr wk : Nat} (hp : ∀ I' J', (∀ a, (a < g ∨ g + 9 ≤ a) → I' a = I a) → (∀ k, k ≠ 2 → I' g k = I g k) → (∀ a, a ≠ g + 2 → J' a = J a) → CFm I' J' g (fWatch F v (kd, tr, wk)) → post none S R I' J') : xSpec 2 yX2_addWatcher cX2_addWatcher 6 none 0 0 [.ref g, .long (Int64.ofNat v), .int (nI kd), .int (nI tr), .int (nI wk)] S R I J post := by
  refine xSpec_of mt_X2_addWatcher (Nat.le_of_ble_eq_true rfl) (fun G C0 hN hR E hI hZ => ?_)
  change XX G 0 0 0 [some (.ref g), some (.long (Int64.ofNat v)), none, some (.int (nI kd)), some (.int (nI tr)), some (.int (nI wk))] [] S R I J
  obtain ⟨z0, z1, z2, z3, z4, z5, z6, z7, z8, y4, y5, y6, y7, y8, y9, y10, y11⟩ := id hF
  obtain ⟨c0, c1, c2, c3, c4, c5, c6⟩ := id C
  obtain ⟨k6, k8, k6v, k8s, kn, kw, kq, kr⟩ := id ok
  refine x_aload_n C0 rfl dX2_addWatcher_0 ?_
  refine x_getI C0 wf_X2_47 (by assumption) rfl dX2_addWatcher_1 ?_
  refine x_topi c2 ?_
  refine x_aload_n C0 rfl dX2_addWatcher_4 ?_
  refine x_getR C0 wf_X2_19 (by assumption) rfl rfl (by assumption) dX2_addWatcher_5 ?_
  refine x_alen C0 (by assumption) (by decide) (by decide) rfl dX2_addWatcher_8 ?_
  refine x_icmp_ge (tgt := 70) C0 (by decide) dX2_addWatcher_9 (fun hkk => absurd hkk (nI_ge (b := 6) (by omega) (by omega))) (fun _ => ?_)
  refine x_aload_n C0 rfl dX2_addWatcher_12 ?_
  refine x_getR C0 wf_X2_19 (by assumption) rfl rfl (by assumption) dX2_addWatcher_13 ?_
  refine x_aload_n C0 rfl dX2_addWatcher_16 ?_
  refine x_getI C0 wf_X2_47 (by assumption) rfl dX2_addWatcher_17 ?_
  refine x_topi c2 ?_
  refine x_lload_n C0 rfl dX2_addWatcher_20 ?_
  refine x_lastoreN C0 (by assumption) (by omega) (by omega) dX2_addWatcher_21 ?_
  refine x_aload_n C0 rfl dX2_addWatcher_22 ?_
  refine x_getR C0 wf_X2_29 (by assumption) rfl rfl (by assumption) dX2_addWatcher_23 ?_
  refine x_aload_n C0 rfl dX2_addWatcher_26 ?_
  refine x_getI C0 wf_X2_47 (by assumption) rfl dX2_addWatcher_27 ?_
  refine x_topi c2 ?_
  refine x_iload_n C0 rfl dX2_addWatcher_30 ?_
  refine x_callS [_, _, _] C0 (xRf_of hR (by decide) (Nat.zero_le _) (Nat.zero_le _)) ms_X8_set wm_X2_50 dX2_addWatcher_31 rfl rfl (Nat.le_of_ble_eq_true rfl) (c_X8_set z5 (by omega) (by decide) ?_)
  refine x_aload_n C0 rfl dX2_addWatcher_34 ?_
  refine x_getR C0 wf_X2_32 (by assumption) rfl rfl (by assumption) dX2_addWatcher_35 ?_
  refine x_aload_n C0 rfl dX2_addWatcher_38 ?_
  refine x_getI C0 wf_X2_47 (by assumption) rfl dX2_addWatcher_39 ?_
  refine x_topi (show (u2 I (g + 5) F.1.2.2.1 (nI kd)) g 2 = nI F.1.2.2.1 by rw [u2_row _ _ _ (by omega)]; exact c2) ?_
  refine x_iload C0 rfl dX2_addWatcher_42 ?_
  refine x_callS [_, _, _] C0 (xRf_of hR (by decide) (Nat.zero_le _) (Nat.zero_le _)) ms_X8_set wm_X2_50 dX2_addWatcher_44 rfl rfl (Nat.le_of_ble_eq_true rfl) (c_X8_set z6 (by omega) (by decide) ?_)
  refine x_aload_n C0 rfl dX2_addWatcher_47 ?_
  refine x_getR C0 wf_X2_35 (by assumption) rfl rfl (by assumption) dX2_addWatcher_48 ?_
  refine x_aload_n C0 rfl dX2_addWatcher_51 ?_
  refine x_getI C0 wf_X2_47 (by assumption) rfl dX2_addWatcher_52 ?_
  refine x_topi (show (u2 (u2 I (g + 5) F.1.2.2.1 (nI kd)) (g + 6) F.1.2.2.1 (nI tr)) g 2 = nI F.1.2.2.1 by rw [u2_row _ _ _ (by omega), u2_row _ _ _ (by omega)]; exact c2) ?_
  refine x_iload C0 rfl dX2_addWatcher_55 ?_
  refine x_callS [_, _, _] C0 (xRf_of hR (by decide) (Nat.zero_le _) (Nat.zero_le _)) ms_X8_set wm_X2_50 dX2_addWatcher_57 rfl rfl (Nat.le_of_ble_eq_true rfl) (c_X8_set z7 (by omega) (by decide) ?_)
  refine x_aload_n C0 rfl dX2_addWatcher_60 ?_
  refine x_dup C0 rfl dX2_addWatcher_61 ?_
  refine x_getI C0 wf_X2_47 (by assumption) rfl dX2_addWatcher_62 ?_
  refine x_topi (show (u2 (u2 (u2 I (g + 5) F.1.2.2.1 (nI kd)) (g + 6) F.1.2.2.1 (nI tr)) (g + 7) F.1.2.2.1 (nI wk)) g 2 = nI F.1.2.2.1 by rw [u2_row _ _ _ (by omega), u2_row _ _ _ (by omega), u2_row _ _ _ (by omega)]; exact c2) ?_
  refine x_iconst (v := nI 1) C0 rfl dX2_addWatcher_65 ?_
  refine x_iadd C0 dX2_addWatcher_66 ?_
  refine x_topi (nI_add _ 1) ?_
  refine x_putI C0 wf_X2_47 (by assumption) rfl dX2_addWatcher_67 ?_
  refine x_vret C0 E (by decide) (by decide) dX2_addWatcher_70 ?_
  refine hp _ _ (fun a h => ?_) (fun k h => ?_) (fun a h => u2_row _ _ _ h) ⟨?_, ?_, u2_same _ _ _ _, fun t ht => ?_, fun w hw => ?_, fun k hk => ?_, fun w hw => ?_⟩
  · rw [u2_row _ _ _ (by omega), u2_row _ _ _ (by omega), u2_row _ _ _ (by omega), u2_row _ _ _ (by omega)]
  · rw [u2_off _ _ h, u2_row _ _ _ (by omega), u2_row _ _ _ (by omega), u2_row _ _ _ (by omega)]
  · rw [u2_off _ _ (by decide), u2_row _ _ _ (by omega), u2_row _ _ _ (by omega), u2_row _ _ _ (by omega)]; exact c0
  · rw [u2_off _ _ (by decide), u2_row _ _ _ (by omega), u2_row _ _ _ (by omega), u2_row _ _ _ (by omega)]; exact c1
  · rw [u2_row _ _ _ (by omega)]; exact c3 t ht
  · have hw' : w < F.1.2.2.1 + 1 := hw
    show _ = Int64.ofNat (mUp F.2.2.1 F.1.2.2.1 v w)
    by_cases e : w = F.1.2.2.1
    · rw [e, u2_same, mUp_same]
    · rw [u2_off _ _ e, mUp_off _ _ e]; exact c4 w (by omega)
  · have : ∀ j, (j = 3 ∨ j = 4) → (u2 (u2 (u2 (u2 I (g + 5) F.1.2.2.1 (nI kd)) (g + 6) F.1.2.2.1 (nI tr)) (g + 7) F.1.2.2.1 (nI wk)) g 2 (nI (F.1.2.2.1 + 1))) (g + j) = I (g + j) := fun j hj => by rw [u2_row _ _ _ (by omega), u2_row _ _ _ (by omega), u2_row _ _ _ (by omega), u2_row _ _ _ (by omega)]
    rw [this 3 (Or.inl rfl), this 4 (Or.inr rfl)]; exact c5 k hk
  · have hw' : w < F.1.2.2.1 + 1 := hw
    show _ = nI (mUp F.2.2.2.2 F.1.2.2.1 (kd, tr, wk) w).1 ∧ _ = nI (mUp F.2.2.2.2 F.1.2.2.1 (kd, tr, wk) w).2.1 ∧ _ = nI (mUp F.2.2.2.2 F.1.2.2.1 (kd, tr, wk) w).2.2
    have e5 : (u2 (u2 (u2 (u2 I (g + 5) F.1.2.2.1 (nI kd)) (g + 6) F.1.2.2.1 (nI tr)) (g + 7) F.1.2.2.1 (nI wk)) g 2 (nI (F.1.2.2.1 + 1))) (g + 5) w = (u2 I (g + 5) F.1.2.2.1 (nI kd)) (g + 5) w := by rw [u2_row _ _ _ (by omega), u2_row _ _ _ (by omega), u2_row _ _ _ (by omega)]
    have e6 : (u2 (u2 (u2 (u2 I (g + 5) F.1.2.2.1 (nI kd)) (g + 6) F.1.2.2.1 (nI tr)) (g + 7) F.1.2.2.1 (nI wk)) g 2 (nI (F.1.2.2.1 + 1))) (g + 6) w = (u2 I (g + 6) F.1.2.2.1 (nI tr)) (g + 6) w := by
      rw [u2_row _ _ _ (by omega), u2_row _ _ _ (by omega)]
      by_cases e : w = F.1.2.2.1
      · rw [e, u2_same, u2_same]
      · rw [u2_off _ _ e, u2_off _ _ e, u2_row _ _ _ (by omega)]
    have e7 : (u2 (u2 (u2 (u2 I (g + 5) F.1.2.2.1 (nI kd)) (g + 6) F.1.2.2.1 (nI tr)) (g + 7) F.1.2.2.1 (nI wk)) g 2 (nI (F.1.2.2.1 + 1))) (g + 7) w = (u2 I (g + 7) F.1.2.2.1 (nI wk)) (g + 7) w := by
      rw [u2_row _ _ _ (by omega)]
      by_cases e : w = F.1.2.2.1
      · rw [e, u2_same, u2_same]
      · rw [u2_off _ _ e, u2_off _ _ e, u2_row _ _ _ (by omega), u2_row _ _ _ (by omega)]
    rw [e5, e6, e7]
    by_cases e : w = F.1.2.2.1
    · rw [e, u2_same, u2_same, u2_same, mUp_same]; exact ⟨rfl, rfl, rfl⟩
    · rw [u2_off _ _ e, u2_off _ _ e, u2_off _ _ e, mUp_off _ _ e]
      exact c6 w (by omega)
