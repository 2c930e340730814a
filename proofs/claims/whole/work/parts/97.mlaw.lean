/-! THE LAW OF DOUBT IS READ: the reference -/
def Mn (P : pE → pE) : Prop := ∀ e, e.1.1 ≤ (P e).1.1
theorem pNext_mn (s : pS) : s.1 ≤ (pNext s).1 := by
  unfold pNext
  split
  · exact Nat.le_succ _
  · exact Nat.le_refl _
theorem pRef_mn (q : xTok) (d : Nat) (s : pS) : s.1 ≤ (pRef q d s).1 := by
  unfold pRef
  split <;> exact Nat.le_refl _
theorem pSign_mn (q : xTok) (d : Nat) (s : pS) : s.1 ≤ (pSign q d s).1 := by
  unfold pSign
  split
  · exact pNext_mn s
  · exact pRef_mn q 1 s
theorem lp_mn {c : pE → Prop} [DecidablePred c] {f : pE → pE} (hf : Mn f) : ∀ j, Mn (lp c f j)
  | 0 => fun _ => Nat.le_refl _
  | j + 1 => fun e => by
    rw [lp_up]
    split
    · exact Nat.le_trans (hf e) (lp_mn hf j _)
    · exact Nat.le_refl _
theorem step_mn {P : pE → pE} {o : pE → Nat × Nat} (h : Mn P) : Mn (fun e => eEm (o e) (P (eS pNext e))) := fun e => Nat.le_trans (pNext_mn e.1) (h (eS pNext e))
theorem pProd_mn {q : xTok} {P : pE → pE} (h : Mn P) : Mn (pProd q P) := fun e => Nat.le_trans (h e) (lp_mn (step_mn (o := fun _ => (6, 0)) h) 1000 (P e))
theorem pSum_mn {q : xTok} {P : pE → pE} (h : Mn P) : Mn (pSum q P) := fun e => Nat.le_trans (pProd_mn h e) (lp_mn (step_mn (o := fun e => if pIsC q 43 e.1 then (4, 0) else (5, 0)) (pProd_mn h)) 1000 (pProd q P e))
theorem pTst_mn {q : xTok} {P : pE → pE} (h : Mn P) : Mn (pTst q P) := fun e => by
  unfold pTst
  split
  · exact Nat.le_trans (pSum_mn h e) (Nat.le_trans (pNext_mn _) (pSum_mn h (eS pNext (pSum q P e))))
  · exact pSum_mn h e
theorem pAll_mn {q : xTok} {P : pE → pE} (h : Mn P) : Mn (pAll q P) := fun e => Nat.le_trans (pTst_mn h e) (lp_mn (step_mn (o := fun e => if pIsW q 20 e.1 then (9, 0) else (10, 0)) (pTst_mn h)) 1000 (pTst q P e))
theorem pPart_mn {q : xTok} : ∀ d, Mn (pPart q d)
  | 0 => fun e => by
    show e.1.1 ≤ (pRef q 5 (if pStart q e.1 then e.1 else pRef q 1 e.1)).1
    refine Nat.le_trans ?_ (pRef_mn q 5 _)
    split
    · exact Nat.le_refl _
    · exact pRef_mn q 1 _
  | d + 1 => fun e => by
    rw [pPart_up]
    split
    · exact Nat.le_refl _
    · split
      · exact pNext_mn e.1
      · split
        · exact pNext_mn e.1
        · split
          · exact Nat.le_trans (pNext_mn e.1) (pPart_mn d (eS pNext e))
          · split
            · exact Nat.le_trans (pNext_mn e.1) (Nat.le_trans (pAll_mn (pPart_mn d) (eS pNext e)) (pSign_mn q 41 _))
            · exact pRef_mn q 1 e.1
/-- what has been emitted: behind a fault its number alone is held -/
def QE (I : xTI) (x : Nat) (e : pE) : Prop := ∃ z, I 135 13 = nI z ∧ z ≤ 1000 + x ∧ (e.1.2 = 0 → z = e.2.length ∧ e.2.length ≤ e.1.1 ∧ ∀ i (h : i < e.2.length), I 142 (1100 + i) = nI e.2[i].1 ∧ I 143 (1100 + i) = nI e.2[i].2)
def FrQ (I I' : xTI) : Prop := (∀ a, a ≠ 135 → a ≠ 142 → a ≠ 143 → I' a = I a) ∧ (∀ k, k ≠ 7 → k ≠ 8 → k ≠ 13 → I' 135 k = I 135 k) ∧ ∀ j, j < 1100 → I' 142 j = I 142 j ∧ I' 143 j = I 143 j
theorem FrQ.of {I I' : xTI} (f : RFr I I') : FrQ I I' := ⟨fun a h _ _ => f.1 a h, fun k h1 h2 _ => f.2 k h1 h2, fun j _ => by rw [f.1 142 (by decide), f.1 143 (by decide)]; exact ⟨rfl, rfl⟩⟩
theorem FrQ.rf {I : xTI} : FrQ I I := FrQ.of RFr.rf
theorem FrQ.trans {I I1 I2 : xTI} (a : FrQ I I1) (b : FrQ I1 I2) : FrQ I I2 := ⟨fun q h1 h2 h3 => (b.1 q h1 h2 h3).trans (a.1 q h1 h2 h3), fun k h1 h2 h3 => (b.2.1 k h1 h2 h3).trans (a.2.1 k h1 h2 h3), fun j h => ⟨((b.2.2 j h).1).trans (a.2.2 j h).1, ((b.2.2 j h).2).trans (a.2.2 j h).2⟩⟩
theorem MRd.frq {I I' : xTI} {J : xTJ} {tp : Nat → Nat} {n c : Nat} (h : MRd I J tp n c) (f : FrQ I I') : MRd I' J tp n c := ⟨h.1.congr (f.1 _ (by decide) (by decide) (by decide)) (f.1 _ (by decide) (by decide) (by decide)), h.2⟩
theorem QE.up {I : xTI} {x y : Nat} {e : pE} (h : QE I x e) (hxy : x ≤ y) : QE I y e := by
  obtain ⟨z, h1, h2, h3⟩ := h
  exact ⟨z, h1, by omega, h3⟩
theorem QE.fr {I I' : xTI} {x : Nat} {e : pE} {s : pS} (h : QE I x e) (f : RFr I I') (hs : s.2 = 0 → e.1.2 = 0 ∧ e.1.1 ≤ s.1) : QE I' x (s, e.2) := by
  obtain ⟨z, h1, h2, h3⟩ := h
  refine ⟨z, by rw [f.2 13 (by decide) (by decide)]; exact h1, h2, fun y => ?_⟩
  obtain ⟨y1, y2⟩ := hs y
  obtain ⟨a1, a2, a3⟩ := h3 y1
  exact ⟨a1, Nat.le_trans a2 y2, by rw [f.1 142 (by decide), f.1 143 (by decide)]; exact a3⟩
/-- without a fault the bound is the place's -/
theorem QE.go {I I' : xTI} {x y c : Nat} {e : pE} (h : QE I x e) (h0 : e.1.2 = 0) (hc : e.1.1 ≤ c) (hc2 : c ≤ 1000) (f : RFr I I') : QE I' y (eS pNext e) := by
  obtain ⟨z, h1, h2, h3⟩ := h
  obtain ⟨a1, a2, a3⟩ := h3 h0
  refine ⟨z, by rw [f.2 13 (by decide) (by decide)]; exact h1, by omega, fun _ => ?_⟩
  rw [eNext h0]
  exact ⟨a1, Nat.le_succ_of_le a2, by rw [f.1 142 (by decide), f.1 143 (by decide)]; exact a3⟩
abbrev qPut (I : xTI) (z : Nat) (v w : Int32) : xTI := u2 (u2 (u2 I 142 (1100 + z) v) 143 (1100 + z) w) 135 13 (nI (z + 1))
theorem qPut_fr {I : xTI} {z : Nat} {v w : Int32} : FrQ I (qPut I z v w) := ⟨fun a h1 h2 h3 => by unfold qPut; rw [u2_row _ _ _ h1, u2_row _ _ _ h3, u2_row _ _ _ h2], fun k h1 h2 h3 => by unfold qPut; rw [u2_off _ _ h3, u2_row _ _ _ (by decide), u2_row _ _ _ (by decide)], fun j hj => ⟨by unfold qPut; rw [u2_row _ _ _ (by decide), u2_row _ _ _ (by decide), u2_off _ _ (by omega)], by unfold qPut; rw [u2_row _ _ _ (by decide), u2_off _ _ (by omega), u2_row _ _ _ (by decide)]⟩⟩
theorem qPut_142 {I : xTI} {z : Nat} {v w : Int32} : qPut I z v w 142 = u2 I 142 (1100 + z) v 142 := by unfold qPut; rw [u2_row _ _ _ (by decide), u2_row _ _ _ (by decide)]
theorem qPut_143 {I : xTI} {z : Nat} {v w : Int32} : qPut I z v w 143 = u2 I 143 (1100 + z) w 143 := by unfold qPut; rw [u2_row _ _ _ (by decide), u2_at, u2_at, u2_row _ _ _ (by decide)]
theorem qPut_fr7 {I : xTI} {z : Nat} {v w : Int32} : qPut I z v w 135 7 = I 135 7 := by unfold qPut; rw [u2_off _ _ (by decide), u2_row _ _ _ (by decide), u2_row _ _ _ (by decide)]
theorem qPut_fr8 {I : xTI} {z : Nat} {v w : Int32} : qPut I z v w 135 8 = I 135 8 := by unfold qPut; rw [u2_off _ _ (by decide), u2_row _ _ _ (by decide), u2_row _ _ _ (by decide)]
theorem qPut_at {I : xTI} {z c : Nat} {v w : Int32} {s : pS} (A : MAt I c s) : MAt (qPut I z v w) c s := ⟨by rw [qPut_fr7] ; exact A.1, by rw [qPut_fr8]; exact A.2.1, A.2.2.1, A.2.2.2⟩
theorem QE.put {I : xTI} {x z : Nat} {e : pE} {o : Nat × Nat} {v w : Int32} (h : QE I x e) (ez : I 135 13 = nI z) (hz : z < 1100) (hx : x ≤ 90) (hl : e.1.2 = 0 → e.2.length + 1 ≤ e.1.1 ∧ e.1.1 ≤ 1000) (hv : v = nI o.1) (hw : w = nI o.2) : QE (qPut I z v w) (x + 1) (eEm o e) := by
  obtain ⟨z2, h1, h2, h3⟩ := h
  have hzz : z2 = z := (nI_eq (by omega) (by omega)).mp (h1.symm.trans ez)
  subst hzz
  refine ⟨z2 + 1, u2_same _ _ _ _, by omega, fun y => ?_⟩
  obtain ⟨a1, a2, a3⟩ := h3 y
  have e8 : (eEm o e).2 = e.2 ++ [o] := rfl
  have e9 : (eEm o e).2.length = e.2.length + 1 := by rw [e8, List.length_append, List.length_singleton]
  refine ⟨by rw [e9, a1], by rw [e9]; exact (hl y).1, fun i hi => ?_⟩
  rw [qPut_142, qPut_143]
  by_cases q : i = z2
  · have q2 : (eEm o e).2[i] = o := by
      simp only [e8]
      rw [List.getElem_append_right (by omega)]
      simp [q, a1]
    rw [q2, q, u2_same, u2_same]
    exact ⟨hv, hw⟩
  · have q3 : i < e.2.length := by omega
    have q2 : (eEm o e).2[i] = e.2[i] := by
      simp only [e8]
      exact List.getElem_append_left q3
    rw [q2, u2_off _ _ (by omega), u2_off _ _ (by omega)]
    exact a3 i q3
def MPt (S : xTS) (R : xTR) (tp : Nat → Nat) (n c : Nat) (y : MethodName) (bytes : ByteArray) (maxL w d : Nat) (P : pE → pE) (x : Nat) : Prop := ∀ (I : xTI) (J : xTJ) (post : xPost) (e : pE), MRd I J tp n c → MAt I c e.1 → e.1.2 = 0 → QE I 0 e → (∀ I', FrQ I I' → MAt I' c (P e).1 → QE I' x (P e) → post none S R I' J) → xSpec d y bytes maxL none 0 0 [.ref 135, .int (nI w)] S R I J post
theorem c_X12_emit {S : xTS} {R : xTR} {I : xTI} {J : xTJ} {post : xPost} (hM : isModel S R) {z : Nat} {v w : Int32} (ez : I 135 13 = nI z) (hz : z < 1100) (hp : post none S R (qPut I z v w) J) : xSpec 1 yX12_emit cX12_emit 3 none 0 0 [.ref 135, .int v, .int w] S R I J post := by
  refine xSpec_of mt_X12_emit (Nat.le_of_ble_eq_true rfl) (fun G C0 hN hR E hI hZ => ?_)
  change XX G 0 0 0 [some (.ref 135), some (.int v), some (.int w)] [] S R I J
  refine x_aload_n C0 rfl dX12_emit_0 ?_
  refine x_getR C0 wf_X12_92 (isModel.k0 hM) rfl rfl (isModel.r11 hM) dX12_emit_1 ?_
  refine x_sipush (v := nI 1100) C0 rfl dX12_emit_4 ?_
  refine x_aload_n C0 rfl dX12_emit_7 ?_
  refine x_getI C0 wf_X12_218 (isModel.k0 hM) rfl dX12_emit_8 ?_
  refine x_topi ez ?_
  refine x_iadd C0 dX12_emit_11 ?_
  refine x_topi (nI_add 1100 z) ?_
  refine x_iload_n C0 rfl dX12_emit_12 ?_
  refine x_iastoreN C0 (isModel.s11 hM) (by omega) (by omega) dX12_emit_13 ?_
  refine x_aload_n C0 rfl dX12_emit_14 ?_
  refine x_getR C0 wf_X12_95 (isModel.k0 hM) rfl rfl (isModel.r12 hM) dX12_emit_15 ?_
  refine x_sipush (v := nI 1100) C0 rfl dX12_emit_18 ?_
  refine x_aload_n C0 rfl dX12_emit_21 ?_
  refine x_getI C0 wf_X12_218 (isModel.k0 hM) rfl dX12_emit_22 ?_
  refine x_topi (v := nI z) (by rw [u2_row _ _ _ (by decide)]; exact ez) ?_
  refine x_iadd C0 dX12_emit_25 ?_
  refine x_topi (nI_add 1100 z) ?_
  refine x_iload_n C0 rfl dX12_emit_26 ?_
  refine x_iastoreN C0 (isModel.s12 hM) (by omega) (by omega) dX12_emit_27 ?_
  refine x_aload_n C0 rfl dX12_emit_28 ?_
  refine x_dup C0 rfl dX12_emit_29 ?_
  refine x_getI C0 wf_X12_218 (isModel.k0 hM) rfl dX12_emit_30 ?_
  refine x_topi (v := nI z) (by rw [u2_row _ _ _ (by decide), u2_row _ _ _ (by decide)]; exact ez) ?_
  refine x_iconst (v := nI 1) C0 rfl dX12_emit_33 ?_
  refine x_iadd C0 dX12_emit_34 ?_
  refine x_topi (nI_add z 1) ?_
  refine x_putI C0 wf_X12_218 (isModel.k0 hM) rfl dX12_emit_35 ?_
  refine x_vret C0 E (by decide) (by decide) dX12_emit_38 ?_
  exact hp
