/-! THE QUESTION judged, the class -/
/-- the hall after the first i lines, who is refused first, where the first leaves -/
def jS (fl : xRow) (dq : xDq) (T N V : Nat) (ln : Nat → Nat × Nat × Nat × Nat) : Nat → xRow
  | 0 => sStart fl N
  | i + 1 => if dMay N (jS fl dq T N V ln i) (ln i).1 (ln i).2.1 (ln i).2.2.1 then dDo fl dq T V (jS fl dq T N V ln i) (ln i).1 (ln i).2.1 (ln i).2.2.1 (ln i).2.2.2 else jS fl dq T N V ln i
def jR (fl : xRow) (dq : xDq) (T N V : Nat) (ln : Nat → Nat × Nat × Nat × Nat) : Nat → Int32
  | 0 => -1
  | i + 1 => if dMay N (jS fl dq T N V ln i) (ln i).1 (ln i).2.1 (ln i).2.2.1 then jR fl dq T N V ln i else if jR fl dq T N V ln i = -1 then nI i else jR fl dq T N V ln i
def jL (fl : xRow) (dq : xDq) (T N V : Nat) (ln : Nat → Nat × Nat × Nat × Nat) : Nat → Int32
  | 0 => -1
  | i + 1 => if dMay N (jS fl dq T N V ln i) (ln i).1 (ln i).2.1 (ln i).2.2.1 ∧ ¬ dMask fl dq V (jS fl dq T N V ln i) (ln i).1 = 0 then (if jL fl dq T N V ln i = -1 then nI i else jL fl dq T N V ln i) else jL fl dq T N V ln i
theorem dDo_1 {fl y : xRow} {dq : xDq} {T N V act a v b r : Nat} (wl : WFl fl T N V) (ok : dOk T N V act a v b) (h : y 1 = nI r) : ∃ q, q ≤ r + 1 ∧ dDo fl dq T V y act a v b 1 = nI q := by
  have hN := wl.2.2.2.1
  have hV := wl.2.2.2.2.2.1
  obtain ⟨o5, o1, o2, o3⟩ := ok
  unfold dDo
  split
  · refine ⟨r, by omega, ?_⟩
    unfold sShowK
    dsimp only
    rw [upd_ne (by omega), upd_ne (by omega), ← h]
    exact sAll_low V 1 (by omega)
  · split
    · refine ⟨r, by omega, ?_⟩
      unfold sWr
      rw [upd_ne (by omega), upd_ne (by omega), h]
    · split
      · exact ⟨r, by omega, by rw [upd_ne (by omega), h]⟩
      · split
        · exact ⟨r, by omega, by rw [sTalk_out fl y a v T 1 (fun q _ => by omega), h]⟩
        · refine ⟨r + 1, by omega, ?_⟩
          unfold sAgain
          rw [upd_eq, h]
          exact (nI_succ r).symm
theorem dDo_WFx {fl y : xRow} {dq : xDq} {T N V act a v b : Nat} (wl : WFl fl T N V) (wy : WFx y T N V) (ok : dOk T N V act a v b) (may : dMay N y act a v) : WFx (dDo fl dq T V y act a v b) T N V := by
  have hN := wl.2.2.2.1
  obtain ⟨o5, o1, o2, o3⟩ := ok
  obtain ⟨k, hk, ek⟩ := wy.1
  unfold dDo
  rcases may with ⟨rfl, m⟩ | ⟨rfl, m⟩ | ⟨rfl, m⟩ | ⟨rfl, m⟩ | ⟨rfl, m⟩
  · rw [if_pos rfl, ek, nI_clamp (by omega)]
    refine sShowK_WFx wl wy ?_
    have : k ≠ N := fun q => m (by rw [ek, q])
    omega
  · have o := o1 rfl
    have m1 := m.1
    rw [if_neg (by decide), if_pos rfl]
    exact WFx_wr wy (by omega) hN o.2.1 o.2.2
  · have o := o2 rfl
    have m1 := m.1
    rw [if_neg (by decide), if_neg (by decide), if_pos rfl]
    have h : ∀ k, k < 8 → (1 : Int32) <<< (nI k &&& 31) = nI (2 ^ k) := by decide +kernel
    have hp : 2 ^ a < 2 ^ N := Nat.pow_lt_pow_right (by decide) m.1
    rw [h a (by omega)]
    exact WFx_cut wy hN hp
  · have o := o3 rfl
    rw [if_neg (by decide), if_neg (by decide), if_neg (by decide), if_pos rfl]
    exact sTalk_WFx wl wy o.1 o.2.1 T (Nat.le_refl T)
  · rw [if_neg (by decide), if_neg (by decide), if_neg (by decide), if_neg (by decide)]
    exact WFx_again wy
theorem jS_ok {fl : xRow} {dq : xDq} {T N V ev : Nat} {ln : Nat → Nat × Nat × Nat × Nat} (wl : WFl fl T N V) (ok : ∀ i, i < ev → dOk T N V (ln i).1 (ln i).2.1 (ln i).2.2.1 (ln i).2.2.2) : ∀ i, i ≤ ev → WFx (jS fl dq T N V ln i) T N V ∧ ∃ r, r ≤ i ∧ jS fl dq T N V ln i 1 = nI r
  | 0, _ => ⟨sStart_WFx wl, 0, Nat.le_refl 0, by
      show sStart fl N 1 = nI 0
      unfold sStart
      rw [if_neg (by omega), if_neg (by omega), if_neg (by omega), if_neg (by omega)]
      rfl⟩
  | i + 1, h => by
    obtain ⟨w, r, hr, er⟩ := jS_ok (dq := dq) wl ok i (by omega)
    unfold jS
    split
    · rename_i m
      obtain ⟨q, hq, eq⟩ := dDo_1 (dq := dq) wl (ok i (by omega)) er
      exact ⟨dDo_WFx wl w (ok i (by omega)) m, q, by omega, eq⟩
    · exact ⟨w, r, by omega, er⟩
