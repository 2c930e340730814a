/-! THE PLAIN MEANING, in the rows that the reference keeps: fl a film (0 things, 1 scenes, 2 watchers, 3 star, 5 + 4k a scene, 37 + 3w a watcher), x a hall (0 shown, 1 reissues, 2 who is in, 3 cut, 4 + k and 12 + k written, 20 + 6w + t thought, 56 + w doubt), dq the law of doubt -/
abbrev xRow : Type := Nat → Int32
abbrev xDq : Type := Nat → Nat → Nat → Nat → Int32
def sThing (fl x : xRow) (k : Nat) : Int32 := if xbit (x 3) k then -1 else fl (5 + 4 * k)
def sLast (x : xRow) (t : Int32) : Nat → Int32 → Int32
  | 0, is => is
  | e + 1, is => if x (4 + e) = t then x (12 + e) else sLast x t e is
def sIs (fl x : xRow) (k : Nat) : Int32 := if sThing fl x k < 0 then -1 else if fl 3 ≤ nI k then sLast x (sThing fl x k) k (fl (6 + 4 * k)) else fl (6 + 4 * k)
abbrev sClash (fl x : xRow) (k : Nat) : Prop := 0 ≤ sThing fl x k ∧ sThing fl x k = x (4 + k) ∧ ¬ sIs fl x k = x (12 + k)
abbrev sReads (fl x : xRow) (w k : Nat) : Prop := fl (37 + 3 * w) = 1 ∨ (fl (37 + 3 * w) = 2 ∧ (4 < fl (38 + 3 * w) ∨ xbit (x 3) k))
abbrev sTakes (fl x : xRow) (w k : Nat) : Prop := sReads fl x w k ∨ (¬ xbit (x 3) k ∧ (¬ fl (37 + 3 * w) = 3 ∨ (sThing fl x k = x (4 + k) ∧ sIs fl x k = x (12 + k))))
def sT (fl x : xRow) (w k : Nat) : Int32 := if sReads fl x w k then x (4 + k) else sThing fl x k
def sB (fl x : xRow) (w k : Nat) : Int32 := if sReads fl x w k then x (12 + k) else sIs fl x k
def sTh (fl x : xRow) (w k : Nat) : Int32 := x (20 + 6 * w + (sT fl x w k).toNatClampNeg)
def sOddN (fl x : xRow) (w k : Nat) : Nat := if sTakes fl x w k ∧ 0 ≤ sTh fl x w k ∧ ¬ sTh fl x w k = sB fl x w k then 1 else 0
def sClN (fl x : xRow) (k : Nat) : Nat := if sClash fl x k then 1 else 0
/-- a watcher who is in sees scene k -/
def sOne (fl : xRow) (dq : xDq) (k cl w : Nat) (x : xRow) : xRow :=
  if sTakes fl x w k then upd (upd x (56 + w) (x (56 + w) + dq w k cl (sOddN fl x w k))) (20 + 6 * w + (sT fl x w k).toNatClampNeg) (sB fl x w k)
  else upd x (56 + w) (x (56 + w) + dq w k cl (sOddN fl x w k))
/-- the first watchers see scene k: the hall, and who leaves -/
def sAll (fl : xRow) (dq : xDq) (k cl : Nat) (x : xRow) : Nat → xRow × Int32
  | 0 => (x, 0)
  | w + 1 => if xbit ((sAll fl dq k cl x w).1 2) w then
      (sOne fl dq k cl w (sAll fl dq k cl x w).1, if fl (39 + 3 * w) ≤ (sOne fl dq k cl w (sAll fl dq k cl x w).1) (56 + w) then (sAll fl dq k cl x w).2 ||| ((1 : Int32) <<< (nI w &&& 31)) else (sAll fl dq k cl x w).2)
    else sAll fl dq k cl x w
/-- a showing of scene k -/
def sShowK (fl : xRow) (dq : xDq) (k V : Nat) (x : xRow) : xRow × Int32 :=
  (upd (upd (sAll fl dq k (sClN fl x k) x V).1 2 ((sAll fl dq k (sClN fl x k) x V).1 2 &&& ((sAll fl dq k (sClN fl x k) x V).2 ^^^ (-1)))) 0 (nI (k + 1)), (sAll fl dq k (sClN fl x k) x V).2)
/-- the scenes from k on are shown -/
def sEnd (fl : xRow) (dq : xDq) (V : Nat) : Nat → Nat → xRow → xRow
  | 0, _, x => x
  | n + 1, k, x => sEnd fl dq V n (k + 1) (sShowK fl dq k V x).1
/-- what a film keeps to -/
def WFl (fl : xRow) (T N V : Nat) : Prop := fl 0 = nI T ∧ T ≤ 6 ∧ fl 1 = nI N ∧ N ≤ 8 ∧ fl 2 = nI V ∧ V ≤ 6 ∧ (∃ s, s ≤ 8 ∧ fl 3 = nI s) ∧
  (∀ k, k < N → ∃ t b, t < T ∧ b < 2 ∧ fl (5 + 4 * k) = nI t ∧ fl (6 + 4 * k) = nI b) ∧ (∀ k, k < N → ∃ t b, t < T ∧ b < 2 ∧ fl (7 + 4 * k) = nI t ∧ fl (8 + 4 * k) = nI b) ∧
  (∀ w, w < V → ∃ kd tr wk, kd < 4 ∧ tr < 10 ∧ wk ≤ 30 ∧ fl (37 + 3 * w) = nI kd ∧ fl (38 + 3 * w) = nI tr ∧ fl (39 + 3 * w) = nI wk)
/-- what a hall keeps to -/
def WFx (x : xRow) (T N V : Nat) : Prop := (∃ s, s ≤ N ∧ x 0 = nI s) ∧ (∃ m, m < 2 ^ V ∧ x 2 = nI m) ∧ (∃ m, m < 2 ^ N ∧ x 3 = nI m) ∧
  (∀ k, k < N → ∃ t b, t < T ∧ b < 2 ∧ x (4 + k) = nI t ∧ x (12 + k) = nI b) ∧ (∀ w t, w < 6 → t < 6 → x (20 + 6 * w + t) = -1 ∨ (w < V ∧ t < T ∧ (x (20 + 6 * w + t) = 0 ∨ x (20 + 6 * w + t) = 1)))
/-- the class's film at f is this one -/
def RFilm (I : xTI) (f : Nat) (fl : xRow) (dq : xDq) (N V : Nat) : Prop := I f 0 = fl 0 ∧ I f 1 = fl 1 ∧ I f 2 = fl 2 ∧ I f 3 = fl 3 ∧
  (∀ k, k < N → I (f + 3) k = 2 * fl (5 + 4 * k) + fl (6 + 4 * k)) ∧ (∀ k, k < N → I (f + 4) k = 2 * fl (7 + 4 * k) + fl (8 + 4 * k)) ∧
  (∀ w, w < V → I (f + 5) w = fl (37 + 3 * w) ∧ I (f + 6) w = fl (38 + 3 * w) ∧ I (f + 7) w = fl (39 + 3 * w)) ∧
  (∀ w k c o, w < V → k < N → c < 2 → o < 2 → I (f + 8) ((w * 8 + k) * 4 + 2 * c + o) = dq w k c o)
/-- the class's hall at h is this one -/
def RHall (I : xTI) (h : Nat) (x : xRow) (N : Nat) : Prop := I h 0 = x 0 ∧ I h 1 = x 1 ∧ I h 2 = x 2 ∧ I h 3 = x 3 ∧ (∀ k, k < N → I (h + 1) k = 2 * x (4 + k) + x (12 + k)) ∧
  (∀ i, i < 36 → I (h + 2) i = x (20 + i)) ∧ (∀ w, w < 6 → I (h + 3) w = x (56 + w))
theorem RFilm.congr {I I' : xTI} {f N V : Nat} {fl : xRow} {dq : xDq} (h : RFilm I f fl dq N V) (e : ∀ i, i < 9 → I' (f + i) = I (f + i)) : RFilm I' f fl dq N V := by
  unfold RFilm at h ⊢
  have e0 := e 0 (by omega); have e3 := e 3 (by omega); have e4 := e 4 (by omega); have e5 := e 5 (by omega); have e6 := e 6 (by omega); have e7 := e 7 (by omega); have e8 := e 8 (by omega)
  rw [Nat.add_zero] at e0
  rw [e0, e3, e4, e5, e6, e7, e8]
  exact h
theorem RHall.congr {I I' : xTI} {h N : Nat} {x : xRow} (hh : RHall I h x N) (e : ∀ i, i < 4 → I' (h + i) = I (h + i)) : RHall I' h x N := by
  unfold RHall at hh ⊢
  have e0 := e 0 (by omega); have e1 := e 1 (by omega); have e2 := e 2 (by omega); have e3 := e 3 (by omega)
  rw [Nat.add_zero] at e0
  rw [e0, e1, e2, e3]
  exact hh
/-- claims as the class keeps them -/
def cThing (c : Int32) : Int32 := if c = -1 then -1 else c >>> (1 &&& 31)
def cIs (c : Int32) : Int32 := if c = -1 then -1 else c &&& 1
def cTaken (kd tr hd rd : Int32) : Int32 := if kd = 0 then hd else if kd = 1 then rd else if kd = 2 then (if ¬ hd = -1 ∧ tr < 5 then hd else rd) else if hd = rd then hd else -1
def cClash (a b : Int32) : Int32 := if cThing a = cThing b ∧ ¬ a = b then 1 else 0
theorem two_nI (t b : Nat) : 2 * nI t + nI b = nI (2 * t + b) := by rw [show (2 : Int32) = nI 2 from rfl, nI_mul, nI_add]
theorem cThing_nI {t b : Nat} (ht : t < 8) (hb : b < 2) : cThing (nI (2 * t + b)) = nI t := by
  have : ∀ t, t < 8 → ∀ b, b < 2 → cThing (nI (2 * t + b)) = nI t := by decide +kernel
  exact this t ht b hb
theorem cIs_nI {t b : Nat} (ht : t < 8) (hb : b < 2) : cIs (nI (2 * t + b)) = nI b := by
  have : ∀ t, t < 8 → ∀ b, b < 2 → cIs (nI (2 * t + b)) = nI b := by decide +kernel
  exact this t ht b hb
theorem nI_ne_m1 {n : Nat} (h : n < 2 ^ 31) : ¬ nI n = -1 := by
  intro e
  have := nI_toInt h
  rw [e] at this
  have e2 : (-1 : Int32).toInt = -1 := by decide
  omega
/-- what a scene that is not cut says -/
theorem say_some {fl x : xRow} {T N V k : Nat} (hl : WFl fl T N V) (hx : WFx x T N V) (hk : k < N) (hc : ¬ xbit (x 3) k) : ∃ t b, t < T ∧ b < 2 ∧ sThing fl x k = nI t ∧ sIs fl x k = nI b := by
  obtain ⟨-, hT, -, hN, -, -, -, hs, -, -⟩ := hl
  obtain ⟨-, -, -, hw, -⟩ := hx
  obtain ⟨t, b, ht, hb, e1, e2⟩ := hs k hk
  have e3 : sThing fl x k = nI t := by unfold sThing; rw [if_neg hc, e1]
  have hlast : ∀ e, e ≤ k → ∃ b', b' < 2 ∧ sLast x (nI t) e (nI b) = nI b' := by
    intro e
    induction e with
    | zero => intro _; exact ⟨b, hb, rfl⟩
    | succ e ih =>
      intro he
      unfold sLast
      split
      · obtain ⟨t2, b2, -, h2, -, h4⟩ := hw e (by omega)
        exact ⟨b2, h2, h4⟩
      · exact ih (by omega)
  have e4 : ¬ nI t < 0 := nI_pos (by omega)
  unfold sIs
  rw [e3, if_neg e4, e2]
  split
  · obtain ⟨b', h1, h2⟩ := hlast k (Nat.le_refl k)
    exact ⟨t, b', ht, h1, rfl, h2⟩
  · exact ⟨t, b, ht, hb, rfl, rfl⟩
