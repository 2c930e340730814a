/-! THE PLAIN MEMORY: cells by small numbers; S: kinds and lengths, R: references, I: ints, J: longs -/
abbrev xTS : Type := List (Nat × Nat)
abbrev xTR : Type := Nat → Nat → Option Nat
abbrev xTI : Type := Nat → Nat → Int32
abbrev xTJ : Type := Nat → Nat → Int64
def xv (ad : Nat → Nat) (v : Value) : Value := match v with
  | .ref a => .ref (ad a)
  | v => v
theorem xv_cat (ad : Nat → Nat) (v : Value) : (xv ad v).category = v.category := by cases v <;> rfl
theorem xv_rf (ad : Nat → Nat) (r : Option Nat) : xv ad (va_rf r) = va_rf (r.map ad) := by cases r <;> rfl
/-- one place of a table of rows is written -/
def u2 {α : Type} (f : Nat → Nat → α) (a k : Nat) (v : α) : Nat → Nat → α := fun a' k' => if a' = a ∧ k' = k then v else f a' k'
theorem u2_same {α : Type} (f : Nat → Nat → α) (a k : Nat) (v : α) : u2 f a k v a k = v := by simp [u2]
theorem u2_row {α : Type} (f : Nat → Nat → α) {a i : Nat} (k : Nat) (v : α) (h : i ≠ a) : u2 f a k v i = f i := by funext j; simp [u2, h]
theorem u2_at {α : Type} (f : Nat → Nat → α) (a k : Nat) (v : α) : u2 f a k v a = fun j => if j = k then v else f a j := by funext j; simp [u2]
/-- the fields' kinds by class: 0 int, 1 boolean, 2 long, 3 a reference -/
def xft (ci : Nat) : List Nat := match ci with
  | 0 => [2]
  | 1 => [0, 3, 3, 3]
  | 2 => [0, 0, 0, 0, 3, 3, 3, 3, 3, 3, 3, 3]
  | 3 => [0, 0, 0, 0, 3, 3, 3]
  | 4 => [3, 0, 3]
  | 5 => [1, 3, 3]
  | 6 => [3, 0, 0]
  | 7 => [3, 1, 1]
  | 8 => [3, 0, 0, 0, 0, 0, 2, 3, 0]
  | 9 => [3, 3, 3, 3, 3, 3, 3, 3, 3, 3, 3, 3, 3]
  | 10 => [0, 3, 0, 0, 3, 3, 3, 0, 0, 3, 3, 3, 3, 0, 3, 3, 3, 3, 0, 0, 0, 3, 3, 3, 3, 0, 3, 3, 3, 2]
  | _ => []
def xfv (ad : Nat → Nat) (Ra : Nat → Option Nat) (Ia : Nat → Int32) (Ja : Nat → Int64) (t k : Nat) : Value := match t with
  | 0 => .int (Ia k)
  | 1 => .int (Ia k)
  | 2 => .long (Ja k)
  | _ => va_rf ((Ra k).map ad)
def xfields (ad : Nat → Nat) (Ra : Nat → Option Nat) (Ia : Nat → Int32) (Ja : Nat → Int64) (ci : Nat) : List Value := (xft ci).mapIdx fun k t => xfv ad Ra Ia Ja t k
/-- kinds: 0 to 10 the classes of vwCl; 11 int[], 12 long[], 13 char[], 14 boolean[], 15 Hall[], 16 Mark[] -/
def xcell (ad : Nat → Nat) (cs : Nat → ClassId) (Ra : Nat → Option Nat) (Ia : Nat → Int32) (Ja : Nat → Int64) (kd n : Nat) : va_E :=
  if kd < 11 then .inr (kd, xfields ad Ra Ia Ja kd)
  else if kd = 12 then .inl (cs kd, n, .inr (.inl Ja))
  else if 15 ≤ kd then .inl (cs kd, n, .inr (.inr (.inr (.inr (fun k => (Ra k).map ad)))))
  else .inl (cs kd, n, .inl Ia)
def xW (ad : Nat → Nat) (cs : Nat → ClassId) (S : xTS) (R : xTR) (I : xTI) (J : xTJ) : va_W := S.mapIdx fun a q => (ad a, xcell ad cs (R a) (I a) (J a) q.1 q.2)
theorem xW_get {ad : Nat → Nat} {cs : Nat → ClassId} {S : xTS} {R : xTR} {I : xTI} {J : xTJ} {a kd n : Nat} (h : S[a]? = some (kd, n)) : (xW ad cs S R I J)[a]? = some (ad a, xcell ad cs (R a) (I a) (J a) kd n) := by
  simp [xW, h]
theorem xW_set {ad : Nat → Nat} {cs : Nat → ClassId} {S : xTS} {R R' : xTR} {I I' : xTI} {J J' : xTJ} {a kd n : Nat} (h : S[a]? = some (kd, n)) (hR : ∀ i, i ≠ a → R' i = R i) (hI : ∀ i, i ≠ a → I' i = I i) (hJ : ∀ i, i ≠ a → J' i = J i) :
    (xW ad cs S R I J).set a (ad a, xcell ad cs (R' a) (I' a) (J' a) kd n) = xW ad cs S R' I' J' := by
  apply List.ext_getElem?
  intro i
  rw [List.getElem?_set]
  by_cases hi : a = i
  · subst hi
    rw [if_pos rfl, xW_get h, if_pos]
    have := (List.getElem?_eq_some_iff.mp h).1
    simpa [xW] using this
  · rw [if_neg hi]
    simp [xW, hR i (fun e => hi e.symm), hI i (fun e => hi e.symm), hJ i (fun e => hi e.symm)]
theorem xcell_obj {ad : Nat → Nat} {cs : Nat → ClassId} {Ra : Nat → Option Nat} {Ia : Nat → Int32} {Ja : Nat → Int64} {kd n : Nat} (h : kd < 11) : xcell ad cs Ra Ia Ja kd n = .inr (kd, xfields ad Ra Ia Ja kd) := by
  simp [xcell, h]
theorem xcell_ints {ad : Nat → Nat} {cs : Nat → ClassId} {Ra : Nat → Option Nat} {Ia : Nat → Int32} {Ja : Nat → Int64} {kd n : Nat} (h : kd = 11 ∨ kd = 13 ∨ kd = 14) : xcell ad cs Ra Ia Ja kd n = .inl (cs kd, n, .inl Ia) := by
  rcases h with rfl | rfl | rfl <;> simp [xcell]
theorem xcell_longs {ad : Nat → Nat} {cs : Nat → ClassId} {Ra : Nat → Option Nat} {Ia : Nat → Int32} {Ja : Nat → Int64} {n : Nat} : xcell ad cs Ra Ia Ja 12 n = .inl (cs 12, n, .inr (.inl Ja)) := by
  simp [xcell]
theorem xcell_refs {ad : Nat → Nat} {cs : Nat → ClassId} {Ra : Nat → Option Nat} {Ia : Nat → Int32} {Ja : Nat → Int64} {kd n : Nat} (h : kd = 15 ∨ kd = 16) : xcell ad cs Ra Ia Ja kd n = .inl (cs kd, n, .inr (.inr (.inr (.inr (fun k => (Ra k).map ad))))) := by
  rcases h with rfl | rfl <;> simp [xcell]
theorem xfields_get {ad : Nat → Nat} {Ra : Nat → Option Nat} {Ia : Nat → Int32} {Ja : Nat → Int64} {ci k t : Nat} (h : (xft ci)[k]? = some t) : (xfields ad Ra Ia Ja ci)[k]? = some (xfv ad Ra Ia Ja t k) := by
  simp [xfields, h]
theorem xfields_len {ad : Nat → Nat} {Ra : Nat → Option Nat} {Ia : Nat → Int32} {Ja : Nat → Int64} {ci k t : Nat} (h : (xft ci)[k]? = some t) : k < (xfields ad Ra Ia Ja ci).length := by
  simpa [xfields] using (List.getElem?_eq_some_iff.mp h).1
theorem xfields_set {ad : Nat → Nat} {Ra Ra' : Nat → Option Nat} {Ia Ia' : Nat → Int32} {Ja Ja' : Nat → Int64} {ci k t : Nat} (h : (xft ci)[k]? = some t) (hR : ∀ i, i ≠ k → Ra' i = Ra i) (hI : ∀ i, i ≠ k → Ia' i = Ia i) (hJ : ∀ i, i ≠ k → Ja' i = Ja i) :
    (xfields ad Ra Ia Ja ci).set k (xfv ad Ra' Ia' Ja' t k) = xfields ad Ra' Ia' Ja' ci := by
  apply List.ext_getElem?
  intro i
  rw [List.getElem?_set]
  by_cases hi : k = i
  · subst hi
    rw [if_pos rfl, if_pos (xfields_len h), xfields_get h]
  · rw [if_neg hi]
    have e : ∀ t, xfv ad Ra' Ia' Ja' t i = xfv ad Ra Ia Ja t i := fun t => by
      unfold xfv
      rw [hR i (fun e => hi e.symm), hI i (fun e => hi e.symm), hJ i (fun e => hi e.symm)]
    simp [xfields, e]
/-- the good words of the tables -/
def xT : List Cond := lw_tbl.filter goodWord
theorem xT_in {w : Cond} (h : w ∈ tables_1) (g : goodWord w = true) : w ∈ xT := List.mem_filter.mpr ⟨List.mem_append_right _ h, g⟩
theorem xT_sel {w : Cond} (h : w ∈ k2_sels lw_privs) (g : goodWord w = true) : w ∈ xT := List.mem_filter.mpr ⟨List.mem_append_left _ h, g⟩
theorem xT_good : ∀ w ∈ xT, goodWord w = true := fun _ h => (List.mem_filter.mp h).2
theorem xT_hts {args : Array Value} {s : State} (h : ∀ w ∈ lw_tbl, w.before args s = true) : ∀ w ∈ xT, w.before args s = true := fun w hw => h w (List.mem_filter.mp hw).1
theorem xT_goodIn {y : MethodName} {bytes : ByteArray} {maxL : Nat} {ret : Option FieldType} (h : Cond.code y bytes maxL ret ∈ xT) : GoodIn xT (Cond.code y bytes maxL ret :: xT) := fun w hw => by
  rcases List.mem_cons.mp hw with rfl | hw
  · exact ⟨h, good_of_word (xT_good _ h)⟩
  · exact ⟨hw, good_of_word (xT_good _ hw)⟩
/-- the words of nest mates: they move otherwise -/
def xN : List Cond := tables_1.filter fun w => match w with
  | .fieldLinkNest .. => true
  | .methodLinkNest .. => true
  | .arrayOver (.object _) => true
  | _ => false
theorem xN_warm {s U : State} (hW : s.WarmedH U.vm) (h : ∀ w ∈ xN, va_Nw w s) : ∀ w ∈ xN, va_Nw w U := by
  intro w hw
  have h1 := h w hw
  have h2 := (List.mem_filter.mp hw).2
  cases w <;> first | (exact va_Nw.warmF hW h1) | (exact va_Nw.warmM hW h1) | (simp at h2; done) | (rename_i ty; cases ty <;> first | (simp at h2; done) | exact va_AO.moved hW.alike h1)
theorem xN_vm {u U : State} (hv : u.vm = U.vm) (h : ∀ w ∈ xN, va_Nw w u) : ∀ w ∈ xN, va_Nw w U := by
  intro w hw
  have h1 := h w hw
  have h2 := (List.mem_filter.mp hw).2
  cases w <;> first | (exact va_Nw.same rfl hv h1) | (simp at h2; done) | (rename_i ty; cases ty <;> first | (simp at h2; done) | exact va_AO.moved (hv ▸ Vm.Alike.refl u.vm) h1)
