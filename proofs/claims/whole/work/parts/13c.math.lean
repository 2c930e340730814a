/-! HALLS KEPT IN STEP -/
theorem RHall_db {I : xTI} {h N w : Nat} {y : xRow} {D : Int32} (r : RHall I h y N) (hw : w < 6) (hN : N ≤ 8) : RHall (u2 I (h + 3) w D) h (upd y (56 + w) D) N := by
  obtain ⟨r0, r1, r2, r3, r4, r5, r6⟩ := r
  refine ⟨?_, ?_, ?_, ?_, fun k hk => ?_, fun i hi => ?_, fun v hv => ?_⟩
  · rw [u2_row _ _ _ (by omega), upd_ne (by omega)]; exact r0
  · rw [u2_row _ _ _ (by omega), upd_ne (by omega)]; exact r1
  · rw [u2_row _ _ _ (by omega), upd_ne (by omega)]; exact r2
  · rw [u2_row _ _ _ (by omega), upd_ne (by omega)]; exact r3
  · rw [u2_row _ _ _ (by omega), upd_ne (by omega), upd_ne (by omega)]; exact r4 k hk
  · rw [u2_row _ _ _ (by omega), upd_ne (by omega)]; exact r5 i hi
  · by_cases e : v = w
    · subst e; rw [u2_same, upd_eq]
    · rw [u2_at, upd_ne (by omega)]; simp only [e, if_false]; exact r6 v hv
theorem RHall_th {I : xTI} {h N w t : Nat} {y : xRow} {v : Int32} (r : RHall I h y N) (hw : w < 6) (ht : t < 6) (hN : N ≤ 8) : RHall (u2 I (h + 2) (6 * w + t) v) h (upd y (20 + 6 * w + t) v) N := by
  obtain ⟨r0, r1, r2, r3, r4, r5, r6⟩ := r
  refine ⟨?_, ?_, ?_, ?_, fun k hk => ?_, fun i hi => ?_, fun u hu => ?_⟩
  · rw [u2_row _ _ _ (by omega), upd_ne (by omega)]; exact r0
  · rw [u2_row _ _ _ (by omega), upd_ne (by omega)]; exact r1
  · rw [u2_row _ _ _ (by omega), upd_ne (by omega)]; exact r2
  · rw [u2_row _ _ _ (by omega), upd_ne (by omega)]; exact r3
  · rw [u2_row _ _ _ (by omega), upd_ne (by omega), upd_ne (by omega)]; exact r4 k hk
  · by_cases e : i = 6 * w + t
    · subst e; rw [u2_same, show 20 + (6 * w + t) = 20 + 6 * w + t by omega, upd_eq]
    · rw [u2_at, upd_ne (by omega)]; simp only [e, if_false]; exact r5 i hi
  · rw [u2_row _ _ _ (by omega), upd_ne (by omega)]; exact r6 u hu
theorem RHall_fld {I : xTI} {h N j : Nat} {y : xRow} {v : Int32} (r : RHall I h y N) (hj : j < 4) (hN : N ≤ 8) : RHall (u2 I h j v) h (upd y j v) N := by
  obtain ⟨r0, r1, r2, r3, r4, r5, r6⟩ := r
  have key : ∀ i, i < 4 → I h i = y i → u2 I h j v h i = upd y j v i := by
    intro i hi e
    by_cases q : i = j
    · subst q; rw [u2_same, upd_eq]
    · rw [u2_at, upd_ne q]; simp only [q, if_false]; exact e
  refine ⟨key 0 (by omega) r0, key 1 (by omega) r1, key 2 (by omega) r2, key 3 (by omega) r3, fun k hk => ?_, fun i hi => ?_, fun u hu => ?_⟩
  · rw [u2_row _ _ _ (by omega), upd_ne (by omega), upd_ne (by omega)]; exact r4 k hk
  · rw [u2_row _ _ _ (by omega), upd_ne (by omega)]; exact r5 i hi
  · rw [u2_row _ _ _ (by omega), upd_ne (by omega)]; exact r6 u hu
theorem WFx_db {y : xRow} {T N V w : Nat} {D : Int32} (h : WFx y T N V) (hN : N ≤ 8) : WFx (upd y (56 + w) D) T N V := by
  obtain ⟨h0, h2, h3, h4, h5⟩ := h
  refine ⟨by rw [upd_ne (by omega)]; exact h0, by rw [upd_ne (by omega)]; exact h2, by rw [upd_ne (by omega)]; exact h3, fun k hk => ?_, fun u t hu ht => ?_⟩
  · rw [upd_ne (by omega), upd_ne (by omega)]; exact h4 k hk
  · rw [upd_ne (by omega)]; exact h5 u t hu ht
theorem WFx_th {y : xRow} {T N V w t b : Nat} (h : WFx y T N V) (hN : N ≤ 8) (hw : w < V) (hV : V ≤ 6) (ht : t < T) (hT : T ≤ 6) (hb : b < 2) : WFx (upd y (20 + 6 * w + t) (nI b)) T N V := by
  obtain ⟨h0, h2, h3, h4, h5⟩ := h
  refine ⟨by rw [upd_ne (by omega)]; exact h0, by rw [upd_ne (by omega)]; exact h2, by rw [upd_ne (by omega)]; exact h3, fun k hk => ?_, fun u q hu hq => ?_⟩
  · rw [upd_ne (by omega), upd_ne (by omega)]; exact h4 k hk
  · by_cases e : 20 + 6 * u + q = 20 + 6 * w + t
    · have e1 : u = w := by omega
      have e2 : q = t := by omega
      subst e1; subst e2
      rw [upd_eq]
      exact Or.inr ⟨hw, ht, by rcases (show b = 0 ∨ b = 1 by omega) with rfl | rfl; exact Or.inl rfl; exact Or.inr rfl⟩
    · rw [upd_ne e]; exact h5 u q hu hq
theorem sTB {fl x : xRow} {T N V k w : Nat} (wl : WFl fl T N V) (wx : WFx x T N V) (hk : k < N) (hw : w < V) (h : sTakes fl x w k) : ∃ t b, t < T ∧ b < 2 ∧ sT fl x w k = nI t ∧ sB fl x w k = nI b := by
  obtain ⟨tr, br, htr, hbr, e1, e2⟩ := wx.2.2.2.1 k hk
  by_cases hc : xbit (x 3) k
  · obtain ⟨t, b, h1, h2, h3, h4, -⟩ := (taken_spec (hd := -1) wl wx hk hw (Or.inl ⟨hc, rfl⟩) htr hbr e1 e2 rfl).1 h
    exact ⟨t, b, h1, h2, h3, h4⟩
  · obtain ⟨t, b, h1, h2, h3, h4⟩ := say_some wl wx hk hc
    obtain ⟨t', b', g1, g2, g3, g4, -⟩ := (taken_spec wl wx hk hw (Or.inr ⟨hc, t, b, h1, h2, h3, h4, rfl⟩) htr hbr e1 e2 rfl).1 h
    exact ⟨t', b', g1, g2, g3, g4⟩
theorem sOne_WFx {fl x : xRow} {dq : xDq} {T N V k w cl : Nat} (wl : WFl fl T N V) (wx : WFx x T N V) (hk : k < N) (hw : w < V) : WFx (sOne fl dq k cl w x) T N V := by
  have hN := wl.2.2.2.1
  unfold sOne
  split
  · rename_i h
    obtain ⟨t, b, h1, h2, h3, h4⟩ := sTB wl wx hk hw h
    have hT := wl.2.1
    rw [h3, h4, nI_clamp (by omega)]
    exact WFx_th (WFx_db wx hN) hN hw wl.2.2.2.2.2.1 h1 hT h2
  · exact WFx_db wx hN
theorem sAll_WFx {fl x : xRow} {dq : xDq} {T N V k cl : Nat} (wl : WFl fl T N V) (wx : WFx x T N V) (hk : k < N) : ∀ w, w ≤ V → WFx (sAll fl dq k cl x w).1 T N V
  | 0, _ => wx
  | w + 1, hw => by
    unfold sAll
    split
    · exact sOne_WFx wl (sAll_WFx wl wx hk w (by omega)) hk (by omega)
    · exact sAll_WFx wl wx hk w (by omega)
theorem nI_and {m V : Nat} (z : Int32) (h : m < 2 ^ V) : ∃ m', m' < 2 ^ V ∧ nI m &&& z = nI m' := by
  refine ⟨(nI m).toBitVec.toNat &&& z.toBitVec.toNat, ?_, ?_⟩
  · rw [Nat.and_comm]
    refine Nat.and_lt_two_pow _ (Nat.lt_of_le_of_lt ?_ h)
    show (BitVec.ofNat 32 m).toNat ≤ m
    rw [BitVec.toNat_ofNat]
    exact Nat.mod_le _ _
  · apply Int32.toBitVec_inj.mp
    show (nI m).toBitVec &&& z.toBitVec = BitVec.ofNat 32 _
    apply BitVec.eq_of_toNat_eq
    rw [BitVec.toNat_and, BitVec.toNat_ofNat, Nat.mod_eq_of_lt]
    exact Nat.lt_of_le_of_lt Nat.and_le_left (nI m).toBitVec.isLt
theorem sShowK_WFx {fl x : xRow} {dq : xDq} {T N V k : Nat} (wl : WFl fl T N V) (wx : WFx x T N V) (hk : k < N) : WFx (sShowK fl dq k V x).1 T N V := by
  have hN := wl.2.2.2.1
  obtain ⟨h0, ⟨m, hm, e2⟩, h3, h4, h5⟩ := sAll_WFx (dq := dq) (cl := sClN fl x k) wl wx hk V (Nat.le_refl V)
  unfold sShowK
  dsimp only
  rw [e2]
  obtain ⟨m', hm', e2'⟩ := nI_and ((sAll fl dq k (sClN fl x k) x V).2 ^^^ -1) hm
  refine ⟨⟨k + 1, by omega, by rw [upd_eq]⟩, ⟨m', hm', by rw [upd_ne (by omega), upd_eq, e2']⟩, by rw [upd_ne (by omega), upd_ne (by omega)]; exact h3, fun j hj => ?_, fun u t hu ht => ?_⟩
  · rw [upd_ne (by omega), upd_ne (by omega), upd_ne (by omega), upd_ne (by omega)]; exact h4 j hj
  · rw [upd_ne (by omega), upd_ne (by omega)]; exact h5 u t hu ht
theorem sShowK_0 {fl x : xRow} {dq : xDq} {k V : Nat} : (sShowK fl dq k V x).1 0 = nI (k + 1) := by unfold sShowK; dsimp only; rw [upd_eq]
theorem sEnd_WFx {fl : xRow} {dq : xDq} {T N V : Nat} (wl : WFl fl T N V) : ∀ (n k : Nat) (x : xRow), WFx x T N V → k + n ≤ N → WFx (sEnd fl dq V n k x) T N V
  | 0, _, _, wx, _ => wx
  | n + 1, k, x, wx, h => sEnd_WFx wl n (k + 1) _ (sShowK_WFx wl wx (by omega)) (by omega)
