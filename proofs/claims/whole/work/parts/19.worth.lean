/-! THE LAW OF DOUBT -/
def lBoth (c : Nat) (a b : Int32) : Int32 := if c = 4 then a + b else if c = 5 then a - b else if c = 6 then a * b else if c = 7 then (if a < b then 1 else 0) else if c = 8 then (if a = b then 1 else 0) else if c = 9 then (if ¬ a = 0 ∧ ¬ b = 0 then 1 else 0) else (if ¬ a = 0 ∨ ¬ b = 0 then 1 else 0)
def lStep (fa : xRow) (c : Nat × Nat) (s : xRow × Nat) : xRow × Nat :=
  if c.1 = 1 then (upd s.1 s.2 (nI c.2), s.2 + 1) else if c.1 = 2 then (upd s.1 s.2 (fa c.2), s.2 + 1) else if c.1 = 3 then (upd s.1 (s.2 - 1) (if s.1 (s.2 - 1) = 0 then 1 else 0), s.2)
  else (upd s.1 (s.2 - 2) (lBoth c.1 (s.1 (s.2 - 2)) (s.1 (s.2 - 1))), s.2 - 1)
def lRun (fa : xRow) : List (Nat × Nat) → xRow × Nat → xRow × Nat
  | [], s => s
  | c :: r, s => lRun fa r (lStep fa c s)
/-- the pile never falls below what a deed takes, nor rises above mx; at the end one value lies there -/
def lSafe (mx : Nat) : List (Nat × Nat) → Nat → Prop
  | [], h => h = 1
  | c :: r, h => 1 ≤ c.1 ∧ c.1 ≤ 10 ∧ (c.1 = 1 → c.2 < 10000) ∧ (c.1 = 2 → c.2 < 4) ∧ if c.1 ≤ 2 then h + 1 ≤ mx ∧ lSafe mx r (h + 1) else if c.1 = 3 then 1 ≤ h ∧ lSafe mx r h else 2 ≤ h ∧ lSafe mx r (h - 1)
def lVal (fa : xRow) (cl : List (Nat × Nat)) : Int32 := (lRun fa cl (fun _ => 0, 0)).1 0
def lFacts (fl : xRow) (w k c o : Nat) : xRow := fun i => if i = 0 then nI c else if i = 1 then fl (38 + 3 * w) else if i = 2 then nI o else nI k
def lClamp (v : Int32) : Int32 := if v < 0 then 0 else if 9 < v then 9 else v
def sDq (fl : xRow) (lw : Option (List (Nat × Nat))) : xDq := fun w k c o => match lw with
  | none => lClamp (if fl (37 + 3 * w) = 2 then 2 * nI c + nI o else nI o)
  | some cl => lClamp (lVal (lFacts fl w k c o) cl)
/-- the reference's code of the law -/
def MCode (I : xTI) (cl : List (Nat × Nat)) : Prop := (∀ i (h : i < cl.length), I 142 i = nI cl[i].1 ∧ I 143 i = nI cl[i].2) ∧ I 142 cl.length = 0 ∧ cl.length ≤ 1000 ∧ lSafe 24 cl 0
def MLaw (I : xTI) (fl : xRow) (lw : Option (List (Nat × Nat))) : Prop := match lw with
  | none => fl 4 = -1
  | some cl => fl 4 = 0 ∧ MCode I cl
theorem c_X12_both {S : xTS} {R : xTR} {I : xTI} {J : xTJ} {post : xPost} {c : Nat} {a b : Int32} (h4 : 4 ≤ c) (h10 : c ≤ 10) (hp : post (some (.int (lBoth c a b))) S R I J) : xSpec 1 yX12_both cX12_both 3 (some .int) 0 0 [.int (nI c), .int a, .int b] S R I J post := by
  refine xSpec_of mt_X12_both (Nat.le_of_ble_eq_true rfl) (fun G C0 hN hR E hI hZ => ?_)
  change XX G 0 0 0 [some (.int (nI c)), some (.int a), some (.int b)] [] S R I J
  refine x_iload_n C0 rfl dX12_both_0 ?_
  by_cases g0 : c = 4
  · refine x_tabIn (tgt := 40) C0 (by rw [g0]; decide) (by rw [g0]; decide) (by rw [g0]; rfl) (by decide) dX12_both_1 ?_
    refine x_iload_n C0 rfl dX12_both_40 ?_
    refine x_iload_n C0 rfl dX12_both_41 ?_
    refine x_iadd C0 dX12_both_42 ?_
    refine x_iret C0 E (by decide) (by decide) dX12_both_43 ?_
    rw [lBoth, if_pos g0] at hp
    exact hp
  by_cases g1 : c = 5
  · refine x_tabIn (tgt := 44) C0 (by rw [g1]; decide) (by rw [g1]; decide) (by rw [g1]; rfl) (by decide) dX12_both_1 ?_
    refine x_iload_n C0 rfl dX12_both_44 ?_
    refine x_iload_n C0 rfl dX12_both_45 ?_
    refine x_isub C0 dX12_both_46 ?_
    refine x_iret C0 E (by decide) (by decide) dX12_both_47 ?_
    rw [lBoth, if_neg g0, if_pos g1] at hp
    exact hp
  by_cases g2 : c = 6
  · refine x_tabIn (tgt := 48) C0 (by rw [g2]; decide) (by rw [g2]; decide) (by rw [g2]; rfl) (by decide) dX12_both_1 ?_
    refine x_iload_n C0 rfl dX12_both_48 ?_
    refine x_iload_n C0 rfl dX12_both_49 ?_
    refine x_imul C0 dX12_both_50 ?_
    refine x_iret C0 E (by decide) (by decide) dX12_both_51 ?_
    rw [lBoth, if_neg g0, if_neg g1, if_pos g2] at hp
    exact hp
  by_cases g3 : c = 7
  · refine x_tabIn (tgt := 52) C0 (by rw [g3]; decide) (by rw [g3]; decide) (by rw [g3]; rfl) (by decide) dX12_both_1 ?_
    refine x_iload_n C0 rfl dX12_both_52 ?_
    refine x_iload_n C0 rfl dX12_both_53 ?_
    refine x_icmp_ge (tgt := 61) C0 (by decide) dX12_both_54 (fun e1 => ?_) (fun e1 => ?_)
    · refine x_iconst (v := 0) C0 rfl dX12_both_61 ?_
      refine x_iret C0 E (by decide) (by decide) dX12_both_62 ?_
      rw [lBoth, if_neg g0, if_neg g1, if_neg g2, if_pos g3, if_neg (i_nlt.mpr e1)] at hp
      exact hp
    · refine x_iconst (v := 1) C0 rfl dX12_both_57 ?_
      refine x_goto (tgt := 62) C0 (by decide) dX12_both_58 ?_
      refine x_iret C0 E (by decide) (by decide) dX12_both_62 ?_
      rw [lBoth, if_neg g0, if_neg g1, if_neg g2, if_pos g3, if_pos (i_nle.mp e1)] at hp
      exact hp
  by_cases g4 : c = 8
  · refine x_tabIn (tgt := 63) C0 (by rw [g4]; decide) (by rw [g4]; decide) (by rw [g4]; rfl) (by decide) dX12_both_1 ?_
    refine x_iload_n C0 rfl dX12_both_63 ?_
    refine x_iload_n C0 rfl dX12_both_64 ?_
    refine x_icmp_ne (tgt := 72) C0 (by decide) dX12_both_65 (fun e1 => ?_) (fun e1 => ?_)
    · refine x_iconst (v := 0) C0 rfl dX12_both_72 ?_
      refine x_iret C0 E (by decide) (by decide) dX12_both_73 ?_
      rw [lBoth, if_neg g0, if_neg g1, if_neg g2, if_neg g3, if_pos g4, if_neg e1] at hp
      exact hp
    · refine x_iconst (v := 1) C0 rfl dX12_both_68 ?_
      refine x_goto (tgt := 73) C0 (by decide) dX12_both_69 ?_
      refine x_iret C0 E (by decide) (by decide) dX12_both_73 ?_
      rw [lBoth, if_neg g0, if_neg g1, if_neg g2, if_neg g3, if_pos g4, if_pos e1] at hp
      exact hp
  by_cases g5 : c = 9
  · refine x_tabIn (tgt := 74) C0 (by rw [g5]; decide) (by rw [g5]; decide) (by rw [g5]; rfl) (by decide) dX12_both_1 ?_
    refine x_iload_n C0 rfl dX12_both_74 ?_
    refine x_if_eq (tgt := 86) C0 (by decide) dX12_both_75 (fun e1 => ?_) (fun e1 => ?_)
    · refine x_iconst (v := 0) C0 rfl dX12_both_86 ?_
      refine x_iret C0 E (by decide) (by decide) dX12_both_87 ?_
      rw [lBoth, if_neg g0, if_neg g1, if_neg g2, if_neg g3, if_neg g4, if_pos g5, if_neg (fun q => q.1 e1)] at hp
      exact hp
    · refine x_iload_n C0 rfl dX12_both_78 ?_
      refine x_if_eq (tgt := 86) C0 (by decide) dX12_both_79 (fun e2 => ?_) (fun e2 => ?_)
      · refine x_iconst (v := 0) C0 rfl dX12_both_86 ?_
        refine x_iret C0 E (by decide) (by decide) dX12_both_87 ?_
        rw [lBoth, if_neg g0, if_neg g1, if_neg g2, if_neg g3, if_neg g4, if_pos g5, if_neg (fun q => q.2 e2)] at hp
        exact hp
      · refine x_iconst (v := 1) C0 rfl dX12_both_82 ?_
        refine x_goto (tgt := 87) C0 (by decide) dX12_both_83 ?_
        refine x_iret C0 E (by decide) (by decide) dX12_both_87 ?_
        rw [lBoth, if_neg g0, if_neg g1, if_neg g2, if_neg g3, if_neg g4, if_pos g5, if_pos ⟨e1, e2⟩] at hp
        exact hp
  refine x_tabOut (tgt := 88) C0 (by rw [show c = 10 by omega]; decide) (by decide) dX12_both_1 ?_
  refine x_iload_n C0 rfl dX12_both_88 ?_
  refine x_if_ne (tgt := 96) C0 (by decide) dX12_both_89 (fun e1 => ?_) (fun e1 => ?_)
  · refine x_iconst (v := 1) C0 rfl dX12_both_96 ?_
    refine x_goto (tgt := 101) C0 (by decide) dX12_both_97 ?_
    refine x_iret C0 E (by decide) (by decide) dX12_both_101 ?_
    rw [lBoth, if_neg g0, if_neg g1, if_neg g2, if_neg g3, if_neg g4, if_neg g5, if_pos (Or.inl e1)] at hp
    exact hp
  · refine x_iload_n C0 rfl dX12_both_92 ?_
    refine x_if_eq (tgt := 100) C0 (by decide) dX12_both_93 (fun e2 => ?_) (fun e2 => ?_)
    · refine x_iconst (v := 0) C0 rfl dX12_both_100 ?_
      refine x_iret C0 E (by decide) (by decide) dX12_both_101 ?_
      rw [lBoth, if_neg g0, if_neg g1, if_neg g2, if_neg g3, if_neg g4, if_neg g5, if_neg (fun q => q.elim (fun z => z e1) (fun z => z e2))] at hp
      exact hp
    · refine x_iconst (v := 1) C0 rfl dX12_both_96 ?_
      refine x_goto (tgt := 101) C0 (by decide) dX12_both_97 ?_
      refine x_iret C0 E (by decide) (by decide) dX12_both_101 ?_
      rw [lBoth, if_neg g0, if_neg g1, if_neg g2, if_neg g3, if_neg g4, if_neg g5, if_pos (Or.inr e2)] at hp
      exact hp
theorem c_X12_worthAt {S : xTS} {R : xTR} {I : xTI} {J : xTJ} {post : xPost} (hM : isModel S R) {cl : List (Nat × Nat)} (hc : MCode I cl) (fa : xRow) (hfa : ∀ i, i < 4 → I 149 i = fa i) (hp : ∀ I', (∀ a, a ≠ 150 → I' a = I a) → post (some (.int (lVal fa cl))) S R I' J) : xSpec 2 yX12_worthAt cX12_worthAt 5 (some .int) 0 0 [.ref 135, .int (nI 0)] S R I J post := by
  refine xSpec_of mt_X12_worthAt (Nat.le_of_ble_eq_true rfl) (fun G C0 hN hR E hI hZ => ?_)
  change XX G 0 0 0 [some (.ref 135), some (.int (nI 0)), none, none, none] [] S R I J
  have hloop : ∀ (r : List (Nat × Nat)) (j h : Nat) (p : xRow) (I1 : xTI) (q4 : Option Value), (∀ i (hi : i < r.length), I 142 (j + i) = nI r[i].1 ∧ I 143 (j + i) = nI r[i].2) → I 142 (j + r.length) = 0 → lSafe 24 r h → (∀ i, i < h → I1 150 i = p i) → (∀ a, a ≠ 150 → I1 a = I a) → j + r.length ≤ 1000 → h ≤ 24 → (lRun fa r (p, h)).1 0 = lVal fa cl → XX G 0 0 4 [some (.ref 135), some (.int (nI 0)), some (.int (nI h)), some (.int (nI j)), q4] [] S R I1 J := by
    intro r
    induction r with
    | nil =>
      intro j h p I1 q4 hr hend hs hp1 hI1 hj hh hv
      have hh1 : h = 1 := hs
      subst hh1
      have e0 : I1 142 j = 0 := by rw [hI1 142 (by decide)]; exact hend
      have ep : I1 150 0 = lVal fa cl := by rw [hp1 0 (by decide)]; exact hv
      have hj2 : j ≤ 1000 := hj
      refine x_aload_n C0 rfl dX12_worthAt_4 ?_
      refine x_getR C0 wf_X12_92 (isModel.k0 hM) rfl rfl (isModel.r11 hM) dX12_worthAt_5 ?_
      refine x_iload_n C0 rfl dX12_worthAt_8 ?_
      refine x_ialoadN C0 (isModel.s11 hM) (by omega) (by omega) dX12_worthAt_9 ?_
      refine x_if_eq (tgt := 140) C0 (by decide) dX12_worthAt_10 (fun _ => ?_) (fun hkk => absurd (e0) hkk)
      refine x_aload_n C0 rfl dX12_worthAt_140 ?_
      refine x_getR C0 wf_X12_116 (isModel.k0 hM) rfl rfl (isModel.r23 hM) dX12_worthAt_141 ?_
      refine x_iconst (v := nI 0) C0 rfl dX12_worthAt_144 ?_
      refine x_ialoadN C0 (isModel.s23 hM) (by omega) (by omega) dX12_worthAt_145 ?_
      refine x_iret C0 E (by decide) (by decide) dX12_worthAt_146 ?_
      rw [ep]
      exact hp I1 hI1
    | cons c r ih =>
      intro j h p I1 q4 hr hend hs hp1 hI1 hj hh hv
      obtain ⟨hc1, hc10, hcn, hcf, hs⟩ := hs
      have hjl : j + (r.length + 1) ≤ 1000 := hj
      have h0 := hr 0 (by simp)
      have eop : I1 142 j = nI c.1 := by rw [hI1 142 (by decide)]; exact h0.1
      have earg : I1 143 j = nI c.2 := by rw [hI1 143 (by decide)]; exact h0.2
      have hr2 : ∀ i (hi : i < r.length), I 142 (j + 1 + i) = nI r[i].1 ∧ I 143 (j + 1 + i) = nI r[i].2 := fun i hi => by
        have := hr (i + 1) (by simp; omega)
        rw [show j + (i + 1) = j + 1 + i by omega] at this
        exact this
      have hend2 : I 142 (j + 1 + r.length) = 0 := by rw [show j + 1 + r.length = j + (c :: r).length by simp; omega]; exact hend
      have hne : ¬ I1 142 j = 0 := by rw [eop, show (0 : Int32) = nI 0 from rfl, nI_eq (by omega) (by decide)]; omega
      have hfa1 : ∀ i, i < 4 → I1 149 i = fa i := fun i hi => by rw [hI1 149 (by decide)]; exact hfa i hi
      have key : ∀ m, m < 10 → (nI c.1 = nI m ↔ c.1 = m) := fun m hm => nI_eq (by omega) (by omega)
      have hstep : ∀ (p2 : xRow) (h2 : Nat) (I2 : xTI), lStep fa c (p, h) = (p2, h2) → lSafe 24 r h2 → h2 ≤ 24 → (∀ i, i < h2 → I2 150 i = p2 i) → (∀ a, a ≠ 150 → I2 a = I a) → XX G 0 0 134 [some (.ref 135), some (.int (nI 0)), some (.int (nI h2)), some (.int (nI j)), some (.int (nI c.1))] [] S R I2 J := by
        intro p2 h2 I2 e1 e2 e3 e4 e5
        refine x_iinc (v := nI (j + 1)) (L' := [_, _, _, _, _]) C0 hN rfl (by decide) (nI_inc j) rfl dX12_worthAt_134 ?_
        refine x_goto (tgt := 4) C0 (by decide) dX12_worthAt_137 ?_
        exact ih (j + 1) h2 p2 I2 _ hr2 hend2 e2 e4 e5 (by omega) e3 (by rw [← e1]; exact hv)
      rcases (show c.1 = 1 ∨ c.1 = 2 ∨ c.1 = 3 ∨ 4 ≤ c.1 by omega) with g | g | g | g
      · rw [g, if_pos (by decide)] at hs
        rw [g] at eop
        refine x_aload_n C0 rfl dX12_worthAt_4 ?_
        refine x_getR C0 wf_X12_92 (isModel.k0 hM) rfl rfl (isModel.r11 hM) dX12_worthAt_5 ?_
        refine x_iload_n C0 rfl dX12_worthAt_8 ?_
        refine x_ialoadN C0 (isModel.s11 hM) (by omega) (by omega) dX12_worthAt_9 ?_
        refine x_if_eq (tgt := 140) C0 (by decide) dX12_worthAt_10 (fun hkk => absurd hkk (hne)) (fun _ => ?_)
        refine x_aload_n C0 rfl dX12_worthAt_13 ?_
        refine x_getR C0 wf_X12_92 (isModel.k0 hM) rfl rfl (isModel.r11 hM) dX12_worthAt_14 ?_
        refine x_iload_n C0 rfl dX12_worthAt_17 ?_
        refine x_ialoadN C0 (isModel.s11 hM) (by omega) (by omega) dX12_worthAt_18 ?_
        refine x_topi eop ?_
        refine x_istore (L' := [_, _, _, _, _]) C0 hN (by decide) rfl dX12_worthAt_19 ?_
        refine x_iload C0 rfl dX12_worthAt_21 ?_
        refine x_iconst (v := nI 1) C0 rfl dX12_worthAt_23 ?_
        refine x_icmp_eq (tgt := 33) C0 (by decide) dX12_worthAt_24 (fun _ => ?_) (fun hkk => absurd (rfl) hkk)
        refine x_aload_n C0 rfl dX12_worthAt_33 ?_
        refine x_getR C0 wf_X12_116 (isModel.k0 hM) rfl rfl (isModel.r23 hM) dX12_worthAt_34 ?_
        refine x_iload_n C0 rfl dX12_worthAt_37 ?_
        refine x_iload C0 rfl dX12_worthAt_38 ?_
        refine x_iconst (v := nI 1) C0 rfl dX12_worthAt_40 ?_
        refine x_icmp_ne (tgt := 53) C0 (by decide) dX12_worthAt_41 (fun hkk => absurd (rfl) hkk) (fun _ => ?_)
        refine x_aload_n C0 rfl dX12_worthAt_44 ?_
        refine x_getR C0 wf_X12_95 (isModel.k0 hM) rfl rfl (isModel.r12 hM) dX12_worthAt_45 ?_
        refine x_iload_n C0 rfl dX12_worthAt_48 ?_
        refine x_ialoadN C0 (isModel.s12 hM) (by omega) (by omega) dX12_worthAt_49 ?_
        refine x_topi earg ?_
        refine x_goto (tgt := 64) C0 (by decide) dX12_worthAt_50 ?_
        refine x_iastoreN C0 (isModel.s23 hM) (by omega) (by omega) dX12_worthAt_64 ?_
        refine x_iinc (v := nI (h + 1)) (L' := [_, _, _, _, _]) C0 hN rfl (by decide) (nI_inc h) rfl dX12_worthAt_65 ?_
        refine x_goto (tgt := 134) C0 (by decide) dX12_worthAt_68 ?_
        rw [g] at hstep
        exact hstep (upd p h (nI c.2)) (h + 1) _ (by unfold lStep; rw [if_pos g]) hs.2 hs.1 (fun i hi => by by_cases e : i = h; subst e; rw [u2_same, upd_eq]; rw [u2_at, upd_ne e]; simp only [e, if_false]; exact hp1 i (by omega)) (fun a ha => by rw [u2_row _ _ _ ha]; exact hI1 a ha)
      · rw [g, if_pos (by decide)] at hs
        rw [g] at eop
        have hc4 := hcf g
        refine x_aload_n C0 rfl dX12_worthAt_4 ?_
        refine x_getR C0 wf_X12_92 (isModel.k0 hM) rfl rfl (isModel.r11 hM) dX12_worthAt_5 ?_
        refine x_iload_n C0 rfl dX12_worthAt_8 ?_
        refine x_ialoadN C0 (isModel.s11 hM) (by omega) (by omega) dX12_worthAt_9 ?_
        refine x_if_eq (tgt := 140) C0 (by decide) dX12_worthAt_10 (fun hkk => absurd hkk (hne)) (fun _ => ?_)
        refine x_aload_n C0 rfl dX12_worthAt_13 ?_
        refine x_getR C0 wf_X12_92 (isModel.k0 hM) rfl rfl (isModel.r11 hM) dX12_worthAt_14 ?_
        refine x_iload_n C0 rfl dX12_worthAt_17 ?_
        refine x_ialoadN C0 (isModel.s11 hM) (by omega) (by omega) dX12_worthAt_18 ?_
        refine x_topi eop ?_
        refine x_istore (L' := [_, _, _, _, _]) C0 hN (by decide) rfl dX12_worthAt_19 ?_
        refine x_iload C0 rfl dX12_worthAt_21 ?_
        refine x_iconst (v := nI 1) C0 rfl dX12_worthAt_23 ?_
        refine x_icmp_eq (tgt := 33) C0 (by decide) dX12_worthAt_24 (fun hkk => absurd hkk ((by decide))) (fun _ => ?_)
        refine x_iload C0 rfl dX12_worthAt_27 ?_
        refine x_iconst (v := nI 2) C0 rfl dX12_worthAt_29 ?_
        refine x_icmp_ne (tgt := 71) C0 (by decide) dX12_worthAt_30 (fun hkk => absurd (rfl) hkk) (fun _ => ?_)
        refine x_aload_n C0 rfl dX12_worthAt_33 ?_
        refine x_getR C0 wf_X12_116 (isModel.k0 hM) rfl rfl (isModel.r23 hM) dX12_worthAt_34 ?_
        refine x_iload_n C0 rfl dX12_worthAt_37 ?_
        refine x_iload C0 rfl dX12_worthAt_38 ?_
        refine x_iconst (v := nI 1) C0 rfl dX12_worthAt_40 ?_
        refine x_icmp_ne (tgt := 53) C0 (by decide) dX12_worthAt_41 (fun _ => ?_) (fun hkk => absurd hkk ((by decide)))
        refine x_aload_n C0 rfl dX12_worthAt_53 ?_
        refine x_getR C0 wf_X12_113 (isModel.k0 hM) rfl rfl (isModel.r22 hM) dX12_worthAt_54 ?_
        refine x_aload_n C0 rfl dX12_worthAt_57 ?_
        refine x_getR C0 wf_X12_95 (isModel.k0 hM) rfl rfl (isModel.r12 hM) dX12_worthAt_58 ?_
        refine x_iload_n C0 rfl dX12_worthAt_61 ?_
        refine x_ialoadN C0 (isModel.s12 hM) (by omega) (by omega) dX12_worthAt_62 ?_
        refine x_topi earg ?_
        refine x_ialoadN C0 (isModel.s22 hM) (by omega) (by omega) dX12_worthAt_63 ?_
        refine x_topi (hfa1 c.2 hc4) ?_
        refine x_iastoreN C0 (isModel.s23 hM) (by omega) (by omega) dX12_worthAt_64 ?_
        refine x_iinc (v := nI (h + 1)) (L' := [_, _, _, _, _]) C0 hN rfl (by decide) (nI_inc h) rfl dX12_worthAt_65 ?_
        refine x_goto (tgt := 134) C0 (by decide) dX12_worthAt_68 ?_
        rw [g] at hstep
        exact hstep (upd p h (fa c.2)) (h + 1) _ (by unfold lStep; rw [if_neg (by omega), if_pos g]) hs.2 hs.1 (fun i hi => by by_cases e : i = h; subst e; rw [u2_same, upd_eq]; rw [u2_at, upd_ne e]; simp only [e, if_false]; exact hp1 i (by omega)) (fun a ha => by rw [u2_row _ _ _ ha]; exact hI1 a ha)
      · rw [g, if_neg (by decide), if_pos rfl] at hs
        rw [g] at eop
        obtain ⟨h9, rfl⟩ : ∃ h9, h = h9 + 1 := ⟨h - 1, by omega⟩
        have ep := hp1 h9 (by omega)
        refine x_aload_n C0 rfl dX12_worthAt_4 ?_
        refine x_getR C0 wf_X12_92 (isModel.k0 hM) rfl rfl (isModel.r11 hM) dX12_worthAt_5 ?_
        refine x_iload_n C0 rfl dX12_worthAt_8 ?_
        refine x_ialoadN C0 (isModel.s11 hM) (by omega) (by omega) dX12_worthAt_9 ?_
        refine x_if_eq (tgt := 140) C0 (by decide) dX12_worthAt_10 (fun hkk => absurd hkk (hne)) (fun _ => ?_)
        refine x_aload_n C0 rfl dX12_worthAt_13 ?_
        refine x_getR C0 wf_X12_92 (isModel.k0 hM) rfl rfl (isModel.r11 hM) dX12_worthAt_14 ?_
        refine x_iload_n C0 rfl dX12_worthAt_17 ?_
        refine x_ialoadN C0 (isModel.s11 hM) (by omega) (by omega) dX12_worthAt_18 ?_
        refine x_topi eop ?_
        refine x_istore (L' := [_, _, _, _, _]) C0 hN (by decide) rfl dX12_worthAt_19 ?_
        refine x_iload C0 rfl dX12_worthAt_21 ?_
        refine x_iconst (v := nI 1) C0 rfl dX12_worthAt_23 ?_
        refine x_icmp_eq (tgt := 33) C0 (by decide) dX12_worthAt_24 (fun hkk => absurd hkk ((by decide))) (fun _ => ?_)
        refine x_iload C0 rfl dX12_worthAt_27 ?_
        refine x_iconst (v := nI 2) C0 rfl dX12_worthAt_29 ?_
        refine x_icmp_ne (tgt := 71) C0 (by decide) dX12_worthAt_30 (fun _ => ?_) (fun hkk => absurd hkk ((by decide)))
        refine x_iload C0 rfl dX12_worthAt_71 ?_
        refine x_iconst (v := nI 3) C0 rfl dX12_worthAt_73 ?_
        refine x_icmp_ne (tgt := 104) C0 (by decide) dX12_worthAt_74 (fun hkk => absurd (rfl) hkk) (fun _ => ?_)
        refine x_aload_n C0 rfl dX12_worthAt_77 ?_
        refine x_getR C0 wf_X12_116 (isModel.k0 hM) rfl rfl (isModel.r23 hM) dX12_worthAt_78 ?_
        refine x_iload_n C0 rfl dX12_worthAt_81 ?_
        refine x_iconst (v := 1) C0 rfl dX12_worthAt_82 ?_
        refine x_isub C0 dX12_worthAt_83 ?_
        refine x_topi (nI_pred h9) ?_
        refine x_aload_n C0 rfl dX12_worthAt_84 ?_
        refine x_getR C0 wf_X12_116 (isModel.k0 hM) rfl rfl (isModel.r23 hM) dX12_worthAt_85 ?_
        refine x_iload_n C0 rfl dX12_worthAt_88 ?_
        refine x_iconst (v := 1) C0 rfl dX12_worthAt_89 ?_
        refine x_isub C0 dX12_worthAt_90 ?_
        refine x_topi (nI_pred h9) ?_
        refine x_ialoadN C0 (isModel.s23 hM) (by omega) (by omega) dX12_worthAt_91 ?_
        refine x_topi ep ?_
        refine x_if_ne (tgt := 99) C0 (by decide) dX12_worthAt_92 (fun g92 => ?_) (fun g92 => ?_)
        · refine x_iconst (v := 0) C0 rfl dX12_worthAt_99 ?_
          refine x_iastoreN C0 (isModel.s23 hM) (by omega) (by omega) dX12_worthAt_100 ?_
          refine x_goto (tgt := 134) C0 (by decide) dX12_worthAt_101 ?_
          rw [g] at hstep
          exact hstep (upd p h9 0) (h9 + 1) _ (by unfold lStep; rw [if_neg (by omega), if_neg (by omega), if_pos g]; simp only [Nat.add_sub_cancel]; rw [if_neg g92]) hs.2 hh (fun i hi => by by_cases e : i = h9; subst e; rw [u2_same, upd_eq]; rw [u2_at, upd_ne e]; simp only [e, if_false]; exact hp1 i (by omega)) (fun a ha => by rw [u2_row _ _ _ ha]; exact hI1 a ha)
        · refine x_iconst (v := 1) C0 rfl dX12_worthAt_95 ?_
          refine x_goto (tgt := 100) C0 (by decide) dX12_worthAt_96 ?_
          refine x_iastoreN C0 (isModel.s23 hM) (by omega) (by omega) dX12_worthAt_100 ?_
          refine x_goto (tgt := 134) C0 (by decide) dX12_worthAt_101 ?_
          rw [g] at hstep
          exact hstep (upd p h9 1) (h9 + 1) _ (by unfold lStep; rw [if_neg (by omega), if_neg (by omega), if_pos g]; simp only [Nat.add_sub_cancel]; rw [if_pos g92]) hs.2 hh (fun i hi => by by_cases e : i = h9; subst e; rw [u2_same, upd_eq]; rw [u2_at, upd_ne e]; simp only [e, if_false]; exact hp1 i (by omega)) (fun a ha => by rw [u2_row _ _ _ ha]; exact hI1 a ha)
      · rw [if_neg (by omega), if_neg (by omega)] at hs
        obtain ⟨h9, rfl⟩ : ∃ h9, h = h9 + 2 := ⟨h - 2, by omega⟩
        have ep1 := hp1 h9 (by omega)
        have ep2 := hp1 (h9 + 1) (by omega)
        refine x_aload_n C0 rfl dX12_worthAt_4 ?_
        refine x_getR C0 wf_X12_92 (isModel.k0 hM) rfl rfl (isModel.r11 hM) dX12_worthAt_5 ?_
        refine x_iload_n C0 rfl dX12_worthAt_8 ?_
        refine x_ialoadN C0 (isModel.s11 hM) (by omega) (by omega) dX12_worthAt_9 ?_
        refine x_if_eq (tgt := 140) C0 (by decide) dX12_worthAt_10 (fun hkk => absurd hkk (hne)) (fun _ => ?_)
        refine x_aload_n C0 rfl dX12_worthAt_13 ?_
        refine x_getR C0 wf_X12_92 (isModel.k0 hM) rfl rfl (isModel.r11 hM) dX12_worthAt_14 ?_
        refine x_iload_n C0 rfl dX12_worthAt_17 ?_
        refine x_ialoadN C0 (isModel.s11 hM) (by omega) (by omega) dX12_worthAt_18 ?_
        refine x_topi eop ?_
        refine x_istore (L' := [_, _, _, _, _]) C0 hN (by decide) rfl dX12_worthAt_19 ?_
        refine x_iload C0 rfl dX12_worthAt_21 ?_
        refine x_iconst (v := nI 1) C0 rfl dX12_worthAt_23 ?_
        refine x_icmp_eq (tgt := 33) C0 (by decide) dX12_worthAt_24 (fun hkk => absurd hkk ((fun q => by have := (key 1 (by decide)).mp q; omega))) (fun _ => ?_)
        refine x_iload C0 rfl dX12_worthAt_27 ?_
        refine x_iconst (v := nI 2) C0 rfl dX12_worthAt_29 ?_
        refine x_icmp_ne (tgt := 71) C0 (by decide) dX12_worthAt_30 (fun _ => ?_) (fun hkk => absurd hkk ((fun q => by have := (key 2 (by decide)).mp q; omega)))
        refine x_iload C0 rfl dX12_worthAt_71 ?_
        refine x_iconst (v := nI 3) C0 rfl dX12_worthAt_73 ?_
        refine x_icmp_ne (tgt := 104) C0 (by decide) dX12_worthAt_74 (fun _ => ?_) (fun hkk => absurd hkk ((fun q => by have := (key 3 (by decide)).mp q; omega)))
        refine x_iinc (v := nI (h9 + 1)) (L' := [_, _, _, _, _]) C0 hN rfl (by decide) (nI_decr (h9 + 1)) rfl dX12_worthAt_104 ?_
        refine x_aload_n C0 rfl dX12_worthAt_107 ?_
        refine x_getR C0 wf_X12_116 (isModel.k0 hM) rfl rfl (isModel.r23 hM) dX12_worthAt_108 ?_
        refine x_iload_n C0 rfl dX12_worthAt_111 ?_
        refine x_iconst (v := 1) C0 rfl dX12_worthAt_112 ?_
        refine x_isub C0 dX12_worthAt_113 ?_
        refine x_topi (nI_pred h9) ?_
        refine x_iload C0 rfl dX12_worthAt_114 ?_
        refine x_aload_n C0 rfl dX12_worthAt_116 ?_
        refine x_getR C0 wf_X12_116 (isModel.k0 hM) rfl rfl (isModel.r23 hM) dX12_worthAt_117 ?_
        refine x_iload_n C0 rfl dX12_worthAt_120 ?_
        refine x_iconst (v := 1) C0 rfl dX12_worthAt_121 ?_
        refine x_isub C0 dX12_worthAt_122 ?_
        refine x_topi (nI_pred h9) ?_
        refine x_ialoadN C0 (isModel.s23 hM) (by omega) (by omega) dX12_worthAt_123 ?_
        refine x_topi ep1 ?_
        refine x_aload_n C0 rfl dX12_worthAt_124 ?_
        refine x_getR C0 wf_X12_116 (isModel.k0 hM) rfl rfl (isModel.r23 hM) dX12_worthAt_125 ?_
        refine x_iload_n C0 rfl dX12_worthAt_128 ?_
        refine x_ialoadN C0 (isModel.s23 hM) (by omega) (by omega) dX12_worthAt_129 ?_
        refine x_topi ep2 ?_
        refine x_callS [_, _, _] C0 (xRf_of hR (by decide) (Nat.zero_le _) (Nat.zero_le _)) ms_X12_both wm_X12_279 dX12_worthAt_130 rfl rfl (Nat.le_of_ble_eq_true rfl) (c_X12_both g hc10 ?_)
        refine x_iastoreN C0 (isModel.s23 hM) (by omega) (by omega) dX12_worthAt_133 ?_
        exact hstep (upd p h9 (lBoth c.1 (p h9) (p (h9 + 1)))) (h9 + 1) _ (by unfold lStep; rw [if_neg (by omega), if_neg (by omega), if_neg (by omega)]; rfl) hs.2 (by omega) (fun i hi => by by_cases e : i = h9; subst e; rw [u2_same, upd_eq]; rw [u2_at, upd_ne e]; simp only [e, if_false]; exact hp1 i (by omega)) (fun a ha => by rw [u2_row _ _ _ ha]; exact hI1 a ha)
  refine x_iconst (v := nI 0) C0 rfl dX12_worthAt_0 ?_
  refine x_istore_n (L' := [_, _, _, _, _]) C0 hN (by decide) rfl dX12_worthAt_1 ?_
  refine x_iload_n C0 rfl dX12_worthAt_2 ?_
  refine x_istore_n (L' := [_, _, _, _, _]) C0 hN (by decide) rfl dX12_worthAt_3 ?_
  exact hloop cl 0 0 (fun _ => 0) I none (fun i hi => by rw [Nat.zero_add]; exact hc.1 i hi) (by rw [Nat.zero_add]; exact hc.2.1) hc.2.2.2 (fun i hi => absurd hi (by omega)) (fun _ _ => rfl) (by have := hc.2.2.1; omega) (by decide) rfl
