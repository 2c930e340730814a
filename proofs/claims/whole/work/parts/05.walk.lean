/-! THE WALK OVER THE PLAIN MEMORY: XX G cells slots pc L st S R I J: from this frame, with this memory, the machine comes to Q -/
abbrev xG : Type := Program × Launch × Env × Room × State × MethodId × Array Value × List Frame × Method × Code × va_G × (Nat → ClassId) × (Nat → Nat) × Nat × Nat × (State → Prop)
def xWnm : List String := ["THING", "SCENE", "YES", "NO", "UNDER", "WATCHER", "TRUST", "WALKS", "STAR", "DOUBTS", "SHOW", "WRITE", "CUT", "TALK", "AGAIN", "EAR", "EYE", "BOTH", "CHILD", "NOT", "AND", "OR", "CLASH", "BELIEF", "ODD", "SEEN"]
def xWc : String := "FilmFoot$Word"
def xWd : String := "LFilmFoot$Word;"
def xWF : List (String × String × String × List Int32) := [("java/lang/Enum", "ordinal", "I", [0, 1, 2, 3, 4, 5, 6, 7, 8, 9, 10, 11, 12, 13, 14, 15, 16, 17, 18, 19, 20, 21, 22, 23, 24, 25])]
def xSb : List Int32 := [40, 41, 60, 61, 43, 45, 42, 59]
def xWcode (i : Nat) : Int64 := ([21243335, 20026821, 25779, 463, 22483122, 24750694578, 21583476, 24162675, 643122, 150637203, 631287, 24716933, 3764, 656779, 1279278, 5170, 5925, 81544, 3417476, 14836, 1476, 498, 3540584, 72754342, 15492, 627886] : List Int64).getD i 0
def xWkept (i : Nat) : Int32 := if i < 22 then 1 else 0
/-- what stands from the start and is never written: the WORDS' constants, their row, the text of the signs -/
def xZ (ad : Nat → Nat) (b : Nat) (U : State) (H : Heap) : Prop :=
  va_En xWc xWd xWnm xWF (fun i => ad (10000 + i)) (fun q => b ≤ q) U H ∧ va_Z xWc "ALL" "[LFilmFoot$Word;" (.ref (ad 10100)) (fun q => b ≤ q) U H ∧
  va_T (.object xWc) (ad 10100) 26 (fun j => .ref (ad (10000 + j))) (fun q => b ≤ q) U H ∧
  va_Ef 26 xWc "code" "J" (fun i => .long (xWcode i)) (fun i => ad (10000 + i)) (fun q => b ≤ q) U H ∧
  va_Ef 26 xWc "kept" "Z" (fun i => .int (xWkept i)) (fun i => ad (10000 + i)) (fun q => b ≤ q) U H ∧
  vk_S 1 [8] [xSb] (fun _ => ad 10200) (fun _ => ad 10201) (fun q => b ≤ q) U H ∧ vk_R "FilmFoot$Tape" 57 "()<=+-*;" (ad 10200) U ∧
  va_Z "java/lang/String" "COMPACT_STRINGS" "Z" (.int 1) (fun q => b ≤ q) U H
theorem xZ.warm {ad : Nat → Nat} {b : Nat} {s U : State} {H : Heap} (hW : s.WarmedH U.vm) (h : xZ ad b s H) : xZ ad b U H := by
  obtain ⟨h1, h2, h3, h4, h5, h6, h7, h8⟩ := h
  have hvm := hW.alike
  exact ⟨va_En.moved hvm h1, va_Z.moved hvm h2, va_T.moved hvm h3, va_Ef.moved hvm h4, va_Ef.moved hvm h5, vk_S.moved hvm h6, vk_R.warm hW h7, va_Z.moved hvm h8⟩
theorem xZ.same {ad : Nat → Nat} {b : Nat} {u U : State} {H : Heap} (hv : u.vm = U.vm) (h : xZ ad b u H) : xZ ad b U H := by
  obtain ⟨h1, h2, h3, h4, h5, h6, h7, h8⟩ := h
  have hvm : u.vm.Alike U.vm := hv ▸ Vm.Alike.refl u.vm
  exact ⟨va_En.moved hvm h1, va_Z.moved hvm h2, va_T.moved hvm h3, va_Ef.moved hvm h4, va_Ef.moved hvm h5, vk_S.moved hvm h6, vk_R.same hv.symm h7, va_Z.moved hvm h8⟩
theorem xZ.kept {ad : Nat → Nat} {b : Nat} {U : State} {H H1 : Heap} (h : xZ ad b U H) (hq : ∀ a : Nat, a < H.size → ¬ b ≤ a → H1[a]? = H[a]?) : xZ ad b U H1 := by
  obtain ⟨h1, h2, h3, h4, h5, h6, h7, h8⟩ := h
  exact ⟨h1.kept hq, h2.kept hq, h3.kept hq, h4.kept hq, h5.kept hq, h6.kept hq, h7, h8.kept hq⟩
def xtys (cs : Nat → ClassId) : List (ClassId × FieldType) := [(cs 11, .int), (cs 12, .long), (cs 13, .char), (cs 14, .boolean), (cs 15, .object "FilmFoot$Hall"), (cs 16, .object "FilmFoot$Mark")]
def xhas (ad : Nat → Nat) (ls : Array Slot) (nL : Nat) (L : List (Option Value)) : Prop := lv_wf ls ∧ ls.size = nL ∧ ∀ (i : Nat) (v : Value), L[i]? = some (some v) → ls[i]? = some (.val (xv ad v))
def XX (G : xG) (cells slots pc : Nat) (L : List (Option Value)) (st : List Value) (S : xTS) (R : xTR) (I : xTI) (J : xTJ) : Prop := match G with
  | (p, l, e, Rm, s, m, args, below, meth, c, D, cs, ad, b, nL, Q) => ∀ (H : Heap) (locs : List Loc) (ls : Array Slot), S.length ≤ 10000 → xhas ad ls nL L → va_P D vwCl (xW ad cs S R I J) H → va_S (fun q => b ≤ q) s.heap H locs → W p l e Rm s m args below meth c H locs cells slots Q (F0 m pc ls (st.map (xv ad)))
def XC (G : xG) (own : String) (cc : ByteArray) (ret : Option FieldType) : Prop := match G with
  | (p, l, e, Rm, s, m, args, below, meth, c, D, cs, ad, b, nL, Q) => p.tables.exec = Jvm.exec ∧ c.code = cc ∧ c.maxLocals = nL ∧ s.vm.findClass own = some m.cls ∧ (∀ w ∈ xT, w.before args s = true) ∧ va_K D vwCl (xtys cs) s ∧ meth.locks = false ∧ meth.sig.returnType = ret ∧ b ≤ s.heap.size ∧ (∀ a, a < 10000 → ad a = b + a) ∧ (∀ w ∈ xN, va_Nw w s) ∧ xZ ad b s s.heap
def xQc (D : va_G) (cs : Nat → ClassId) (ad : Nat → Nat) (b : Nat) (post : Option Value → xTS → xTR → xTI → xTJ → Prop) : Array Value → State → Outcome → State → Prop := fun _ st o t =>
  (∃ (r : Option Value) (S : xTS) (R : xTR) (I : xTI) (J : xTJ), o = .returned (r.map (xv ad)) ∧ post r S R I J ∧ va_P D vwCl (xW ad cs S R I J) t.heap ∧ S.length ≤ 10000) ∧ va_F (fun q => b ≤ q) st t
def xEnd (G : xG) (post : Option Value → xTS → xTR → xTI → xTJ → Prop) (mc ms : Nat) : Prop := match G with
  | (p, l, e, Rm, s, m, args, below, meth, c, D, cs, ad, b, nL, Q) => Q = MQ below (xQc D cs ad b post) args s mc ms (fun q => b ≤ q)
def xRoom (G : xG) (Rm0 : Room) : Prop := match G with
  | (p, l, e, Rm, s, m, args, below, meth, c, D, cs, ad, b, nL, Q) => Rm = Rm0
def xIn (G : xG) (nm : String) : Prop := match G with
  | (p, l, e, Rm, s, m, args, below, meth, c, D, cs, ad, b, nL, Q) => meth.name = nm
def xnL (G : xG) (n : Nat) : Prop := match G with
  | (p, l, e, Rm, s, m, args, below, meth, c, D, cs, ad, b, nL, Q) => nL = n
/-- the heap began with so many cells of ours -/
def xSz (G : xG) (n : Nat) : Prop := match G with
  | (p, l, e, Rm, s, m, args, below, meth, c, D, cs, ad, b, nL, Q) => s.heap.size = b + n
theorem xW_D {ad : Nat → Nat} {cs : Nat → ClassId} {S : xTS} {R : xTR} {I : xTI} {J : xTJ} {b : Nat} (hn : S.length ≤ 10000) (had : ∀ a, a < 10000 → ad a = b + a) : va_D (fun q => b ≤ q) (xW ad cs S R I J) := by
  have key : ∀ (i : Nat) (p : Nat × va_E), (xW ad cs S R I J)[i]? = some p → p.1 = b + i ∧ i < S.length := by
    intro i p hp
    have hi : i < S.length := by
      have := (List.getElem?_eq_some_iff.mp hp).1
      simpa [xW] using this
    have h1 : S[i]? = some S[i] := List.getElem?_eq_getElem hi
    rw [xW_get (kd := S[i].1) (n := S[i].2) h1] at hp
    cases hp
    exact ⟨had i (by omega), hi⟩
  refine ⟨fun i j p q hp hq h => ?_, fun k q hq => ?_⟩
  · have a1 := (key i p hp).1
    have a2 := (key j q hq).1
    omega
  · have a1 := (key k q hq).1
    show b ≤ q.1
    omega
section XRW
variable {G : xG} {own : String} {cc : ByteArray} {ret : Option FieldType} {cells slots pc : Nat} {L : List (Option Value)} {st : List Value} {S : xTS} {R : xTR} {I : xTI} {J : xTJ}
theorem x_iconst (C0 : XC G own cc ret) {n : Int} {v : Int32} (hv : Int32.ofInt n = v) (hd : decode cc pc = .ok (.iconst n, 1)) (k : XX G cells slots (pc + 1) L (.int v :: st) S R I J) : XX G cells slots pc L st S R I J := by
  obtain ⟨p, l, e, Rm, s, m, args, below, meth, c, D, cs, ad, b, nL, Q⟩ := G
  intro H locs ls hn hl hP hS
  exact lv_iconst C0.1 C0.2.1 hd hv (k H locs ls hn hl hP hS)
theorem x_bipush (C0 : XC G own cc ret) {n : Int} {v : Int32} (hv : (Int8.ofInt n).toInt32 = v) (hd : decode cc pc = .ok (.bipush n, 2)) (k : XX G cells slots (pc + 2) L (.int v :: st) S R I J) : XX G cells slots pc L st S R I J := by
  obtain ⟨p, l, e, Rm, s, m, args, below, meth, c, D, cs, ad, b, nL, Q⟩ := G
  intro H locs ls hn hl hP hS
  exact lv_bipush C0.1 C0.2.1 hd hv (k H locs ls hn hl hP hS)
theorem x_sipush (C0 : XC G own cc ret) {n : Int} {v : Int32} (hv : (Int16.ofInt n).toInt32 = v) (hd : decode cc pc = .ok (.sipush n, 3)) (k : XX G cells slots (pc + 3) L (.int v :: st) S R I J) : XX G cells slots pc L st S R I J := by
  obtain ⟨p, l, e, Rm, s, m, args, below, meth, c, D, cs, ad, b, nL, Q⟩ := G
  intro H locs ls hn hl hP hS
  exact lv_sipush C0.1 C0.2.1 hd hv (k H locs ls hn hl hP hS)
theorem x_lconst (C0 : XC G own cc ret) {n : Fin 2} {v : Int64} (hv : Int64.ofNat (n : Nat) = v) (hd : decode cc pc = .ok (.lconst n, 1)) (k : XX G cells slots (pc + 1) L (.long v :: st) S R I J) : XX G cells slots pc L st S R I J := by
  obtain ⟨p, l, e, Rm, s, m, args, below, meth, c, D, cs, ad, b, nL, Q⟩ := G
  intro H locs ls hn hl hP hS
  exact lv_lconst C0.1 C0.2.1 hd hv (k H locs ls hn hl hP hS)
theorem x_null (C0 : XC G own cc ret)  (hd : decode cc pc = .ok (.aconst_null, 1)) (k : XX G cells slots (pc + 1) L (.null :: st) S R I J) : XX G cells slots pc L st S R I J := by
  obtain ⟨p, l, e, Rm, s, m, args, below, meth, c, D, cs, ad, b, nL, Q⟩ := G
  intro H locs ls hn hl hP hS
  exact lv_null C0.1 C0.2.1 hd (k H locs ls hn hl hP hS)
theorem x_iload_n (C0 : XC G own cc ret) {i : Fin 4} {x : Int32} (hx : L[(i : Nat)]? = some (some (.int x))) (hd : decode cc pc = .ok (.iload_n i, 1)) (k : XX G cells slots (pc + 1) L (.int x :: st) S R I J) : XX G cells slots pc L st S R I J := by
  obtain ⟨p, l, e, Rm, s, m, args, below, meth, c, D, cs, ad, b, nL, Q⟩ := G
  intro H locs ls hn hl hP hS
  exact lv_iload_n C0.1 C0.2.1 hd rfl (hl.2.2 _ _ hx) (k H locs ls hn hl hP hS)
theorem x_iload (C0 : XC G own cc ret) {i : Nat} {x : Int32} (hx : L[i]? = some (some (.int x))) (hd : decode cc pc = .ok (.iload i, 2)) (k : XX G cells slots (pc + 2) L (.int x :: st) S R I J) : XX G cells slots pc L st S R I J := by
  obtain ⟨p, l, e, Rm, s, m, args, below, meth, c, D, cs, ad, b, nL, Q⟩ := G
  intro H locs ls hn hl hP hS
  exact lv_iload C0.1 C0.2.1 hd (hl.2.2 _ _ hx) (k H locs ls hn hl hP hS)
theorem x_lload_n (C0 : XC G own cc ret) {i : Fin 4} {x : Int64} (hx : L[(i : Nat)]? = some (some (.long x))) (hd : decode cc pc = .ok (.lload_n i, 1)) (k : XX G cells slots (pc + 1) L (.long x :: st) S R I J) : XX G cells slots pc L st S R I J := by
  obtain ⟨p, l, e, Rm, s, m, args, below, meth, c, D, cs, ad, b, nL, Q⟩ := G
  intro H locs ls hn hl hP hS
  exact lv_lload_n C0.1 C0.2.1 hd rfl (hl.2.2 _ _ hx) (k H locs ls hn hl hP hS)
theorem x_lload (C0 : XC G own cc ret) {i : Nat} {x : Int64} (hx : L[i]? = some (some (.long x))) (hd : decode cc pc = .ok (.lload i, 2)) (k : XX G cells slots (pc + 2) L (.long x :: st) S R I J) : XX G cells slots pc L st S R I J := by
  obtain ⟨p, l, e, Rm, s, m, args, below, meth, c, D, cs, ad, b, nL, Q⟩ := G
  intro H locs ls hn hl hP hS
  exact lv_lload C0.1 C0.2.1 hd (hl.2.2 _ _ hx) (k H locs ls hn hl hP hS)
theorem x_aload_n (C0 : XC G own cc ret) {i : Fin 4} {x : Nat} (hx : L[(i : Nat)]? = some (some (.ref x))) (hd : decode cc pc = .ok (.aload_n i, 1)) (k : XX G cells slots (pc + 1) L (.ref x :: st) S R I J) : XX G cells slots pc L st S R I J := by
  obtain ⟨p, l, e, Rm, s, m, args, below, meth, c, D, cs, ad, b, nL, Q⟩ := G
  intro H locs ls hn hl hP hS
  exact lv_aload_n C0.1 C0.2.1 hd rfl (hl.2.2 _ _ hx) (k H locs ls hn hl hP hS)
theorem x_aload (C0 : XC G own cc ret) {i : Nat} {x : Nat} (hx : L[i]? = some (some (.ref x))) (hd : decode cc pc = .ok (.aload i, 2)) (k : XX G cells slots (pc + 2) L (.ref x :: st) S R I J) : XX G cells slots pc L st S R I J := by
  obtain ⟨p, l, e, Rm, s, m, args, below, meth, c, D, cs, ad, b, nL, Q⟩ := G
  intro H locs ls hn hl hP hS
  exact lv_aload C0.1 C0.2.1 hd (hl.2.2 _ _ hx) (k H locs ls hn hl hP hS)
theorem x_aload_nN (C0 : XC G own cc ret) {i : Fin 4} (hx : L[(i : Nat)]? = some (some .null)) (hd : decode cc pc = .ok (.aload_n i, 1)) (k : XX G cells slots (pc + 1) L (.null :: st) S R I J) : XX G cells slots pc L st S R I J := by
  obtain ⟨p, l, e, Rm, s, m, args, below, meth, c, D, cs, ad, b, nL, Q⟩ := G
  intro H locs ls hn hl hP hS
  exact lv_aload_nN C0.1 C0.2.1 hd rfl (hl.2.2 _ _ hx) (k H locs ls hn hl hP hS)
end XRW
/-- the locals with one more stored -/
def xkill (L : List (Option Value)) (i : Nat) : List (Option Value) := match i with
  | 0 => L
  | k + 1 => match L[k]? with
    | some (some v) => if v.category = 2 then L.set k none else L
    | _ => L
def xst1 (L : List (Option Value)) (i : Nat) (v : Value) : List (Option Value) := (xkill L i).set i (some v)
def xst2 (L : List (Option Value)) (i : Nat) (v : Value) : List (Option Value) := ((xkill L i).set i (some v)).set (i + 1) none
theorem xkill_in {L : List (Option Value)} {i j : Nat} {v : Value} (h : (xkill L i)[j]? = some (some v)) : L[j]? = some (some v) ∧ ¬ (j + 1 = i ∧ v.category = 2) := by
  unfold xkill at h
  match i with
  | 0 => exact ⟨h, fun q => absurd q.1 (by omega)⟩
  | k + 1 =>
    dsimp only at h
    split at h
    · rename_i w hw
      split at h
      · rename_i hc
        rw [List.getElem?_set] at h
        split at h
        · split at h <;> simp at h
        · rename_i hne
          exact ⟨h, fun q => hne (by omega)⟩
      · rename_i hc
        refine ⟨h, fun q => ?_⟩
        have : j = k := by omega
        subst this
        rw [hw] at h
        cases h
        exact hc q.2
    · rename_i hno
      refine ⟨h, fun q => ?_⟩
      have : j = k := by omega
      subst this
      exact hno v h
theorem xhas_to {ad : Nat → Nat} {ls : Array Slot} {nL : Nat} {L : List (Option Value)} (h : xhas ad ls nL L) : lv_has ls nL (L.zipIdx.filterMap fun q => q.1.map fun v => (q.2, xv ad v)) := by
  refine ⟨h.2.1, h.1, fun q hq => ?_⟩
  obtain ⟨⟨o, i⟩, h1, h2⟩ := List.mem_filterMap.mp hq
  cases o with
  | none => simp at h2
  | some v =>
    simp only [Option.map_some, Option.some.injEq] at h2
    subst h2
    refine h.2.2 i v ?_
    exact List.mem_zipIdx_iff_getElem?.mp h1
theorem xhas_mem {ad : Nat → Nat} {L : List (Option Value)} {i : Nat} {v : Value} (h : L[i]? = some (some v)) : (i, xv ad v) ∈ (L.zipIdx.filterMap fun q => q.1.map fun v => (q.2, xv ad v)) := by
  refine List.mem_filterMap.mpr ⟨(some v, i), ?_, rfl⟩
  exact List.mem_zipIdx_iff_getElem?.mpr h
theorem xhas_st1 {ad : Nat → Nat} {ls : Array Slot} {nL i : Nat} {L : List (Option Value)} {v : Value} (h : lv_has ls nL ((i, xv ad v) :: (L.zipIdx.filterMap fun q => q.1.map fun v => (q.2, xv ad v)).filter (fun q => !(q.1 == i) && !(q.1 + 1 == i && q.2.category == 2)))) : xhas ad ls nL (xst1 L i v) := by
  refine ⟨h.2.1, h.1, fun j w hj => ?_⟩
  unfold xst1 at hj
  rw [List.getElem?_set] at hj
  split at hj
  · rename_i he
    split at hj
    · cases hj
      subst he
      exact h.2.2 (i, xv ad v) List.mem_cons_self
    · cases hj
  · rename_i he
    obtain ⟨h1, h2⟩ := xkill_in hj
    refine h.2.2 (j, xv ad w) (List.mem_cons_of_mem _ (List.mem_filter.mpr ⟨xhas_mem h1, ?_⟩))
    rw [xv_cat]
    have a1 : (j == i) = false := by simpa using fun q => he q.symm
    by_cases a2 : j + 1 = i
    · have a3 : ¬ w.category = 2 := fun q => h2 ⟨a2, q⟩
      simp [a1, a3]
    · simp [a1, a2]
theorem xhas_st2 {ad : Nat → Nat} {ls : Array Slot} {nL i : Nat} {L : List (Option Value)} {v : Value} (h : lv_has ls nL ((i, xv ad v) :: (L.zipIdx.filterMap fun q => q.1.map fun v => (q.2, xv ad v)).filter (fun q => !(q.1 == i) && (!(q.1 == i + 1) && !(q.1 + 1 == i && q.2.category == 2))))) : xhas ad ls nL (xst2 L i v) := by
  refine ⟨h.2.1, h.1, fun j w hj => ?_⟩
  unfold xst2 at hj
  rw [List.getElem?_set] at hj
  split at hj
  · split at hj <;> simp at hj
  · rename_i he2
    rw [List.getElem?_set] at hj
    split at hj
    · rename_i he
      split at hj
      · cases hj
        subst he
        exact h.2.2 (i, xv ad v) List.mem_cons_self
      · cases hj
    · rename_i he
      obtain ⟨h1, h2⟩ := xkill_in hj
      refine h.2.2 (j, xv ad w) (List.mem_cons_of_mem _ (List.mem_filter.mpr ⟨xhas_mem h1, ?_⟩))
      rw [xv_cat]
      have a1 : (j == i) = false := by simpa using fun q => he q.symm
      have a4 : (j == i + 1) = false := by simpa using fun q => he2 q.symm
      by_cases a2 : j + 1 = i
      · have a3 : ¬ w.category = 2 := fun q => h2 ⟨a2, q⟩
        simp [a1, a4, a3]
      · simp [a1, a4, a2]
section XRW
variable {G : xG} {own : String} {cc : ByteArray} {ret : Option FieldType} {cells slots pc : Nat} {L L' : List (Option Value)} {st : List Value} {S : xTS} {R : xTR} {I : xTI} {J : xTJ}
theorem x_istore_n (C0 : XC G own cc ret) {i : Fin 4} {x : Int32} {N : Nat} (hN : xnL G N) (hi : (i : Nat) < N) (hL : xst1 L i (.int x) = L') (hd : decode cc pc = .ok (.istore_n i, 1)) (k : XX G cells slots (pc + 1) L' st S R I J) : XX G cells slots pc L (.int x :: st) S R I J := by
  obtain ⟨p, l, e, Rm, s, m, args, below, meth, c, D, cs, ad, b, nL, Q⟩ := G
  intro H locs ls hn hl hP hS
  cases hN
  subst hL
  exact lv_istore_n C0.1 C0.2.1 hd rfl (xhas_to hl) hi rfl (fun ls' hl' => k H locs ls' hn (xhas_st1 (v := .int x) hl') hP hS)
theorem x_istore (C0 : XC G own cc ret) {i : Nat} {x : Int32} {N : Nat} (hN : xnL G N) (hi : (i : Nat) < N) (hL : xst1 L i (.int x) = L') (hd : decode cc pc = .ok (.istore i, 2)) (k : XX G cells slots (pc + 2) L' st S R I J) : XX G cells slots pc L (.int x :: st) S R I J := by
  obtain ⟨p, l, e, Rm, s, m, args, below, meth, c, D, cs, ad, b, nL, Q⟩ := G
  intro H locs ls hn hl hP hS
  cases hN
  subst hL
  exact lv_istore C0.1 C0.2.1 hd (xhas_to hl) hi rfl (fun ls' hl' => k H locs ls' hn (xhas_st1 (v := .int x) hl') hP hS)
theorem x_lstore_n (C0 : XC G own cc ret) {i : Fin 4} {x : Int64} {N : Nat} (hN : xnL G N) (hi : (i : Nat) + 1 < N) (hL : xst2 L i (.long x) = L') (hd : decode cc pc = .ok (.lstore_n i, 1)) (k : XX G cells slots (pc + 1) L' st S R I J) : XX G cells slots pc L (.long x :: st) S R I J := by
  obtain ⟨p, l, e, Rm, s, m, args, below, meth, c, D, cs, ad, b, nL, Q⟩ := G
  intro H locs ls hn hl hP hS
  cases hN
  subst hL
  exact lv_lstore_n C0.1 C0.2.1 hd rfl (xhas_to hl) hi rfl (fun ls' hl' => k H locs ls' hn (xhas_st2 (v := .long x) hl') hP hS)
theorem x_lstore (C0 : XC G own cc ret) {i : Nat} {x : Int64} {N : Nat} (hN : xnL G N) (hi : (i : Nat) + 1 < N) (hL : xst2 L i (.long x) = L') (hd : decode cc pc = .ok (.lstore i, 2)) (k : XX G cells slots (pc + 2) L' st S R I J) : XX G cells slots pc L (.long x :: st) S R I J := by
  obtain ⟨p, l, e, Rm, s, m, args, below, meth, c, D, cs, ad, b, nL, Q⟩ := G
  intro H locs ls hn hl hP hS
  cases hN
  subst hL
  exact lv_lstore C0.1 C0.2.1 hd (xhas_to hl) hi rfl (fun ls' hl' => k H locs ls' hn (xhas_st2 (v := .long x) hl') hP hS)
theorem x_astore_n (C0 : XC G own cc ret) {i : Fin 4} {x : Nat} {N : Nat} (hN : xnL G N) (hi : (i : Nat) < N) (hL : xst1 L i (.ref x) = L') (hd : decode cc pc = .ok (.astore_n i, 1)) (k : XX G cells slots (pc + 1) L' st S R I J) : XX G cells slots pc L (.ref x :: st) S R I J := by
  obtain ⟨p, l, e, Rm, s, m, args, below, meth, c, D, cs, ad, b, nL, Q⟩ := G
  intro H locs ls hn hl hP hS
  cases hN
  subst hL
  exact lv_astore_n C0.1 C0.2.1 hd rfl (xhas_to hl) hi rfl (fun ls' hl' => k H locs ls' hn (xhas_st1 (v := .ref x) hl') hP hS)
theorem x_astore (C0 : XC G own cc ret) {i : Nat} {x : Nat} {N : Nat} (hN : xnL G N) (hi : (i : Nat) < N) (hL : xst1 L i (.ref x) = L') (hd : decode cc pc = .ok (.astore i, 2)) (k : XX G cells slots (pc + 2) L' st S R I J) : XX G cells slots pc L (.ref x :: st) S R I J := by
  obtain ⟨p, l, e, Rm, s, m, args, below, meth, c, D, cs, ad, b, nL, Q⟩ := G
  intro H locs ls hn hl hP hS
  cases hN
  subst hL
  exact lv_astore C0.1 C0.2.1 hd (xhas_to hl) hi rfl (fun ls' hl' => k H locs ls' hn (xhas_st1 (v := .ref x) hl') hP hS)
theorem x_iinc (C0 : XC G own cc ret) {i N : Nat} {n : Int} {x v : Int32} (hN : xnL G N) (hx : L[i]? = some (some (.int x))) (hi : i < N) (hv : x + Int32.ofInt n = v) (hL : xst1 L i (.int v) = L') (hd : decode cc pc = .ok (.iinc i n, 3)) (k : XX G cells slots (pc + 3) L' st S R I J) : XX G cells slots pc L st S R I J := by
  obtain ⟨p, l, e, Rm, s, m, args, below, meth, c, D, cs, ad, b, nL, Q⟩ := G
  intro H locs ls hn hl hP hS
  cases hN
  subst hL
  obtain ⟨q, hq⟩ := List.getElem?_of_mem (xhas_mem (ad := ad) hx)
  exact lv_iinc C0.1 C0.2.1 hd (xhas_to hl) hq hv hi rfl (fun ls' hl' => k H locs ls' hn (xhas_st1 (v := .int v) hl') hP hS)
theorem x_iadd (C0 : XC G own cc ret) {x y : Int32} (hd : decode cc pc = .ok (.iadd, 1)) (k : XX G cells slots (pc + 1) L (.int (x + y) :: st) S R I J) : XX G cells slots pc L (.int y :: .int x :: st) S R I J := by
  obtain ⟨p, l, e, Rm, s, m, args, below, meth, c, D, cs, ad, b, nL, Q⟩ := G
  intro H locs ls hn hl hP hS
  exact lv_iadd C0.1 C0.2.1 hd (k H locs ls hn hl hP hS)
theorem x_isub (C0 : XC G own cc ret) {x y : Int32} (hd : decode cc pc = .ok (.isub, 1)) (k : XX G cells slots (pc + 1) L (.int (x - y) :: st) S R I J) : XX G cells slots pc L (.int y :: .int x :: st) S R I J := by
  obtain ⟨p, l, e, Rm, s, m, args, below, meth, c, D, cs, ad, b, nL, Q⟩ := G
  intro H locs ls hn hl hP hS
  exact lv_isub C0.1 C0.2.1 hd (k H locs ls hn hl hP hS)
theorem x_imul (C0 : XC G own cc ret) {x y : Int32} (hd : decode cc pc = .ok (.imul, 1)) (k : XX G cells slots (pc + 1) L (.int (x * y) :: st) S R I J) : XX G cells slots pc L (.int y :: .int x :: st) S R I J := by
  obtain ⟨p, l, e, Rm, s, m, args, below, meth, c, D, cs, ad, b, nL, Q⟩ := G
  intro H locs ls hn hl hP hS
  exact lv_imul C0.1 C0.2.1 hd (k H locs ls hn hl hP hS)
theorem x_iand (C0 : XC G own cc ret) {x y : Int32} (hd : decode cc pc = .ok (.iand, 1)) (k : XX G cells slots (pc + 1) L (.int (x &&& y) :: st) S R I J) : XX G cells slots pc L (.int y :: .int x :: st) S R I J := by
  obtain ⟨p, l, e, Rm, s, m, args, below, meth, c, D, cs, ad, b, nL, Q⟩ := G
  intro H locs ls hn hl hP hS
  exact lv_iand C0.1 C0.2.1 hd (k H locs ls hn hl hP hS)
theorem x_ior (C0 : XC G own cc ret) {x y : Int32} (hd : decode cc pc = .ok (.ior, 1)) (k : XX G cells slots (pc + 1) L (.int (x ||| y) :: st) S R I J) : XX G cells slots pc L (.int y :: .int x :: st) S R I J := by
  obtain ⟨p, l, e, Rm, s, m, args, below, meth, c, D, cs, ad, b, nL, Q⟩ := G
  intro H locs ls hn hl hP hS
  exact lv_ior C0.1 C0.2.1 hd (k H locs ls hn hl hP hS)
theorem x_ixor (C0 : XC G own cc ret) {x y : Int32} (hd : decode cc pc = .ok (.ixor, 1)) (k : XX G cells slots (pc + 1) L (.int (x ^^^ y) :: st) S R I J) : XX G cells slots pc L (.int y :: .int x :: st) S R I J := by
  obtain ⟨p, l, e, Rm, s, m, args, below, meth, c, D, cs, ad, b, nL, Q⟩ := G
  intro H locs ls hn hl hP hS
  exact lv_ixor C0.1 C0.2.1 hd (k H locs ls hn hl hP hS)
theorem x_ishl (C0 : XC G own cc ret) {x y : Int32} (hd : decode cc pc = .ok (.ishl, 1)) (k : XX G cells slots (pc + 1) L (.int (x <<< (y &&& 31)) :: st) S R I J) : XX G cells slots pc L (.int y :: .int x :: st) S R I J := by
  obtain ⟨p, l, e, Rm, s, m, args, below, meth, c, D, cs, ad, b, nL, Q⟩ := G
  intro H locs ls hn hl hP hS
  exact lv_ishl C0.1 C0.2.1 hd (k H locs ls hn hl hP hS)
theorem x_ishr (C0 : XC G own cc ret) {x y : Int32} (hd : decode cc pc = .ok (.ishr, 1)) (k : XX G cells slots (pc + 1) L (.int (x >>> (y &&& 31)) :: st) S R I J) : XX G cells slots pc L (.int y :: .int x :: st) S R I J := by
  obtain ⟨p, l, e, Rm, s, m, args, below, meth, c, D, cs, ad, b, nL, Q⟩ := G
  intro H locs ls hn hl hP hS
  exact lv_ishr C0.1 C0.2.1 hd (k H locs ls hn hl hP hS)
theorem x_idiv (C0 : XC G own cc ret) {x y : Int32} (hne : ¬ y = 0) (hd : decode cc pc = .ok (.idiv, 1)) (k : XX G cells slots (pc + 1) L (.int (x / y) :: st) S R I J) : XX G cells slots pc L (.int y :: .int x :: st) S R I J := by
  obtain ⟨p, l, e, Rm, s, m, args, below, meth, c, D, cs, ad, b, nL, Q⟩ := G
  intro H locs ls hn hl hP hS
  exact lv_idiv C0.1 C0.2.1 hd hne (k H locs ls hn hl hP hS)
theorem x_irem (C0 : XC G own cc ret) {x y : Int32} (hne : ¬ y = 0) (hd : decode cc pc = .ok (.irem, 1)) (k : XX G cells slots (pc + 1) L (.int (x - x / y * y) :: st) S R I J) : XX G cells slots pc L (.int y :: .int x :: st) S R I J := by
  obtain ⟨p, l, e, Rm, s, m, args, below, meth, c, D, cs, ad, b, nL, Q⟩ := G
  intro H locs ls hn hl hP hS
  exact lv_irem C0.1 C0.2.1 hd hne (k H locs ls hn hl hP hS)
theorem x_ladd (C0 : XC G own cc ret) {x y : Int64} (hd : decode cc pc = .ok (.ladd, 1)) (k : XX G cells slots (pc + 1) L (.long (x + y) :: st) S R I J) : XX G cells slots pc L (.long y :: .long x :: st) S R I J := by
  obtain ⟨p, l, e, Rm, s, m, args, below, meth, c, D, cs, ad, b, nL, Q⟩ := G
  intro H locs ls hn hl hP hS
  exact lv_ladd C0.1 C0.2.1 hd (k H locs ls hn hl hP hS)
theorem x_lsub (C0 : XC G own cc ret) {x y : Int64} (hd : decode cc pc = .ok (.lsub, 1)) (k : XX G cells slots (pc + 1) L (.long (x - y) :: st) S R I J) : XX G cells slots pc L (.long y :: .long x :: st) S R I J := by
  obtain ⟨p, l, e, Rm, s, m, args, below, meth, c, D, cs, ad, b, nL, Q⟩ := G
  intro H locs ls hn hl hP hS
  exact lv_lsub C0.1 C0.2.1 hd (k H locs ls hn hl hP hS)
theorem x_lmul (C0 : XC G own cc ret) {x y : Int64} (hd : decode cc pc = .ok (.lmul, 1)) (k : XX G cells slots (pc + 1) L (.long (x * y) :: st) S R I J) : XX G cells slots pc L (.long y :: .long x :: st) S R I J := by
  obtain ⟨p, l, e, Rm, s, m, args, below, meth, c, D, cs, ad, b, nL, Q⟩ := G
  intro H locs ls hn hl hP hS
  exact lv_lmul C0.1 C0.2.1 hd (k H locs ls hn hl hP hS)
theorem x_land (C0 : XC G own cc ret) {x y : Int64} (hd : decode cc pc = .ok (.land, 1)) (k : XX G cells slots (pc + 1) L (.long (x &&& y) :: st) S R I J) : XX G cells slots pc L (.long y :: .long x :: st) S R I J := by
  obtain ⟨p, l, e, Rm, s, m, args, below, meth, c, D, cs, ad, b, nL, Q⟩ := G
  intro H locs ls hn hl hP hS
  exact lv_land C0.1 C0.2.1 hd (k H locs ls hn hl hP hS)
theorem x_lor (C0 : XC G own cc ret) {x y : Int64} (hd : decode cc pc = .ok (.lor, 1)) (k : XX G cells slots (pc + 1) L (.long (x ||| y) :: st) S R I J) : XX G cells slots pc L (.long y :: .long x :: st) S R I J := by
  obtain ⟨p, l, e, Rm, s, m, args, below, meth, c, D, cs, ad, b, nL, Q⟩ := G
  intro H locs ls hn hl hP hS
  exact lv_lor C0.1 C0.2.1 hd (k H locs ls hn hl hP hS)
theorem x_ldiv (C0 : XC G own cc ret) {x y : Int64} (hne : ¬ y = 0) (hd : decode cc pc = .ok (.ldiv, 1)) (k : XX G cells slots (pc + 1) L (.long (x / y) :: st) S R I J) : XX G cells slots pc L (.long y :: .long x :: st) S R I J := by
  obtain ⟨p, l, e, Rm, s, m, args, below, meth, c, D, cs, ad, b, nL, Q⟩ := G
  intro H locs ls hn hl hP hS
  exact lv_ldiv C0.1 C0.2.1 hd hne (k H locs ls hn hl hP hS)
theorem x_lrem (C0 : XC G own cc ret) {x y : Int64} (hne : ¬ y = 0) (hd : decode cc pc = .ok (.lrem, 1)) (k : XX G cells slots (pc + 1) L (.long (x - x / y * y) :: st) S R I J) : XX G cells slots pc L (.long y :: .long x :: st) S R I J := by
  obtain ⟨p, l, e, Rm, s, m, args, below, meth, c, D, cs, ad, b, nL, Q⟩ := G
  intro H locs ls hn hl hP hS
  exact lv_lrem C0.1 C0.2.1 hd hne (k H locs ls hn hl hP hS)
theorem x_ineg (C0 : XC G own cc ret) {x : Int32} (hd : decode cc pc = .ok (.ineg, 1)) (k : XX G cells slots (pc + 1) L (.int (-x) :: st) S R I J) : XX G cells slots pc L (.int x :: st) S R I J := by
  obtain ⟨p, l, e, Rm, s, m, args, below, meth, c, D, cs, ad, b, nL, Q⟩ := G
  intro H locs ls hn hl hP hS
  exact lv_ineg C0.1 C0.2.1 hd (k H locs ls hn hl hP hS)
theorem x_lcmp (C0 : XC G own cc ret) {x y : Int64} (hd : decode cc pc = .ok (.lcmp, 1)) (k : XX G cells slots (pc + 1) L (.int (lg_cmp x y) :: st) S R I J) : XX G cells slots pc L (.long y :: .long x :: st) S R I J := by
  obtain ⟨p, l, e, Rm, s, m, args, below, meth, c, D, cs, ad, b, nL, Q⟩ := G
  intro H locs ls hn hl hP hS
  exact W.lcmp C0.1 C0.2.1 hd (k H locs ls hn hl hP hS)
theorem x_i2l (C0 : XC G own cc ret) {x : Int32} (hd : decode cc pc = .ok (.i2l, 1)) (k : XX G cells slots (pc + 1) L (.long x.toInt64 :: st) S R I J) : XX G cells slots pc L (.int x :: st) S R I J := by
  obtain ⟨p, l, e, Rm, s, m, args, below, meth, c, D, cs, ad, b, nL, Q⟩ := G
  intro H locs ls hn hl hP hS
  exact lv_i2l C0.1 C0.2.1 hd rfl (k H locs ls hn hl hP hS)
theorem x_l2i (C0 : XC G own cc ret) {x : Int64} (hd : decode cc pc = .ok (.l2i, 1)) (k : XX G cells slots (pc + 1) L (.int x.toInt32 :: st) S R I J) : XX G cells slots pc L (.long x :: st) S R I J := by
  obtain ⟨p, l, e, Rm, s, m, args, below, meth, c, D, cs, ad, b, nL, Q⟩ := G
  intro H locs ls hn hl hP hS
  exact lv_l2i C0.1 C0.2.1 hd rfl (k H locs ls hn hl hP hS)
theorem x_i2c (C0 : XC G own cc ret) {x : Int32} (hd : decode cc pc = .ok (.i2c, 1)) (k : XX G cells slots (pc + 1) L (.int (x.toUInt32 % 65536).toInt32 :: st) S R I J) : XX G cells slots pc L (.int x :: st) S R I J := by
  obtain ⟨p, l, e, Rm, s, m, args, below, meth, c, D, cs, ad, b, nL, Q⟩ := G
  intro H locs ls hn hl hP hS
  exact lv_i2c C0.1 C0.2.1 hd rfl (k H locs ls hn hl hP hS)
theorem x_lshl (C0 : XC G own cc ret) {x : Int64} {y : Int32} (hd : decode cc pc = .ok (.lshl, 1)) (k : XX G cells slots (pc + 1) L (.long (x <<< (y.toInt64 &&& 63)) :: st) S R I J) : XX G cells slots pc L (.int y :: .long x :: st) S R I J := by
  obtain ⟨p, l, e, Rm, s, m, args, below, meth, c, D, cs, ad, b, nL, Q⟩ := G
  intro H locs ls hn hl hP hS
  exact lv_lshl C0.1 C0.2.1 hd rfl (k H locs ls hn hl hP hS)
theorem x_lshr (C0 : XC G own cc ret) {x : Int64} {y : Int32} (hd : decode cc pc = .ok (.lshr, 1)) (k : XX G cells slots (pc + 1) L (.long (x >>> (y.toInt64 &&& 63)) :: st) S R I J) : XX G cells slots pc L (.int y :: .long x :: st) S R I J := by
  obtain ⟨p, l, e, Rm, s, m, args, below, meth, c, D, cs, ad, b, nL, Q⟩ := G
  intro H locs ls hn hl hP hS
  exact lv_lshr C0.1 C0.2.1 hd rfl (k H locs ls hn hl hP hS)
theorem x_lushr (C0 : XC G own cc ret) {x : Int64} {y : Int32} (hd : decode cc pc = .ok (.lushr, 1)) (k : XX G cells slots (pc + 1) L (.long (x.toUInt64 >>> (y.toInt64.toUInt64 &&& Int64.toUInt64 63)).toInt64 :: st) S R I J) : XX G cells slots pc L (.int y :: .long x :: st) S R I J := by
  obtain ⟨p, l, e, Rm, s, m, args, below, meth, c, D, cs, ad, b, nL, Q⟩ := G
  intro H locs ls hn hl hP hS
  exact lv_lushr C0.1 C0.2.1 hd rfl (k H locs ls hn hl hP hS)
theorem x_dup (C0 : XC G own cc ret) {v : Value} (hv : v.category = 1) (hd : decode cc pc = .ok (.dup, 1)) (k : XX G cells slots (pc + 1) L (v :: v :: st) S R I J) : XX G cells slots pc L (v :: st) S R I J := by
  obtain ⟨p, l, e, Rm, s, m, args, below, meth, c, D, cs, ad, b, nL, Q⟩ := G
  intro H locs ls hn hl hP hS
  exact lv_dup C0.1 C0.2.1 hd ((xv_cat ad v).trans hv) (k H locs ls hn hl hP hS)
theorem x_pop (C0 : XC G own cc ret) {v : Value} (hv : v.category = 1) (hd : decode cc pc = .ok (.pop, 1)) (k : XX G cells slots (pc + 1) L st S R I J) : XX G cells slots pc L (v :: st) S R I J := by
  obtain ⟨p, l, e, Rm, s, m, args, below, meth, c, D, cs, ad, b, nL, Q⟩ := G
  intro H locs ls hn hl hP hS
  exact lv_pop C0.1 C0.2.1 hd ((xv_cat ad v).trans hv) (k H locs ls hn hl hP hS)
theorem x_dup2 (C0 : XC G own cc ret) {v w : Value} (hv : v.category = 1) (hw : w.category = 1) (hd : decode cc pc = .ok (.dup2, 1)) (k : XX G cells slots (pc + 1) L (v :: w :: v :: w :: st) S R I J) : XX G cells slots pc L (v :: w :: st) S R I J := by
  obtain ⟨p, l, e, Rm, s, m, args, below, meth, c, D, cs, ad, b, nL, Q⟩ := G
  intro H locs ls hn hl hP hS
  exact lv_dup2_11 C0.1 C0.2.1 hd ((xv_cat ad v).trans hv) ((xv_cat ad w).trans hw) (k H locs ls hn hl hP hS)
theorem x_if_eq (C0 : XC G own cc ret) {x : Int32} {off : Int} {tgt : Nat} (ht : (pc : Int) + off = (tgt : Int)) (hd : decode cc pc = .ok (.ifCond .eq off, 3)) (kt : x = 0 → XX G cells slots tgt L st S R I J) (kf : ¬ x = 0 → XX G cells slots (pc + 3) L st S R I J) : XX G cells slots pc L (.int x :: st) S R I J := by
  obtain ⟨p, l, e, Rm, s, m, args, below, meth, c, D, cs, ad, b, nL, Q⟩ := G
  intro H locs ls hn hl hP hS
  exact lv_if_eq C0.1 C0.2.1 hd ht (fun h => kt h H locs ls hn hl hP hS) (fun h => kf h H locs ls hn hl hP hS)
theorem x_icmp_eq (C0 : XC G own cc ret) {x y : Int32} {off : Int} {tgt : Nat} (ht : (pc : Int) + off = (tgt : Int)) (hd : decode cc pc = .ok (.if_icmp .eq off, 3)) (kt : x = y → XX G cells slots tgt L st S R I J) (kf : ¬ x = y → XX G cells slots (pc + 3) L st S R I J) : XX G cells slots pc L (.int y :: .int x :: st) S R I J := by
  obtain ⟨p, l, e, Rm, s, m, args, below, meth, c, D, cs, ad, b, nL, Q⟩ := G
  intro H locs ls hn hl hP hS
  exact lv_icmp_eq C0.1 C0.2.1 hd ht (fun h => kt h H locs ls hn hl hP hS) (fun h => kf h H locs ls hn hl hP hS)
theorem x_if_ne (C0 : XC G own cc ret) {x : Int32} {off : Int} {tgt : Nat} (ht : (pc : Int) + off = (tgt : Int)) (hd : decode cc pc = .ok (.ifCond .ne off, 3)) (kt : ¬ x = 0 → XX G cells slots tgt L st S R I J) (kf : x = 0 → XX G cells slots (pc + 3) L st S R I J) : XX G cells slots pc L (.int x :: st) S R I J := by
  obtain ⟨p, l, e, Rm, s, m, args, below, meth, c, D, cs, ad, b, nL, Q⟩ := G
  intro H locs ls hn hl hP hS
  exact lv_if_ne C0.1 C0.2.1 hd ht (fun h => kt h H locs ls hn hl hP hS) (fun h => kf h H locs ls hn hl hP hS)
theorem x_icmp_ne (C0 : XC G own cc ret) {x y : Int32} {off : Int} {tgt : Nat} (ht : (pc : Int) + off = (tgt : Int)) (hd : decode cc pc = .ok (.if_icmp .ne off, 3)) (kt : ¬ x = y → XX G cells slots tgt L st S R I J) (kf : x = y → XX G cells slots (pc + 3) L st S R I J) : XX G cells slots pc L (.int y :: .int x :: st) S R I J := by
  obtain ⟨p, l, e, Rm, s, m, args, below, meth, c, D, cs, ad, b, nL, Q⟩ := G
  intro H locs ls hn hl hP hS
  exact lv_icmp_ne C0.1 C0.2.1 hd ht (fun h => kt h H locs ls hn hl hP hS) (fun h => kf h H locs ls hn hl hP hS)
theorem x_if_lt (C0 : XC G own cc ret) {x : Int32} {off : Int} {tgt : Nat} (ht : (pc : Int) + off = (tgt : Int)) (hd : decode cc pc = .ok (.ifCond .lt off, 3)) (kt : x < 0 → XX G cells slots tgt L st S R I J) (kf : ¬ x < 0 → XX G cells slots (pc + 3) L st S R I J) : XX G cells slots pc L (.int x :: st) S R I J := by
  obtain ⟨p, l, e, Rm, s, m, args, below, meth, c, D, cs, ad, b, nL, Q⟩ := G
  intro H locs ls hn hl hP hS
  exact lv_if_lt C0.1 C0.2.1 hd ht (fun h => kt h H locs ls hn hl hP hS) (fun h => kf h H locs ls hn hl hP hS)
theorem x_icmp_lt (C0 : XC G own cc ret) {x y : Int32} {off : Int} {tgt : Nat} (ht : (pc : Int) + off = (tgt : Int)) (hd : decode cc pc = .ok (.if_icmp .lt off, 3)) (kt : x < y → XX G cells slots tgt L st S R I J) (kf : ¬ x < y → XX G cells slots (pc + 3) L st S R I J) : XX G cells slots pc L (.int y :: .int x :: st) S R I J := by
  obtain ⟨p, l, e, Rm, s, m, args, below, meth, c, D, cs, ad, b, nL, Q⟩ := G
  intro H locs ls hn hl hP hS
  exact lv_icmp_lt C0.1 C0.2.1 hd ht (fun h => kt h H locs ls hn hl hP hS) (fun h => kf h H locs ls hn hl hP hS)
theorem x_if_ge (C0 : XC G own cc ret) {x : Int32} {off : Int} {tgt : Nat} (ht : (pc : Int) + off = (tgt : Int)) (hd : decode cc pc = .ok (.ifCond .ge off, 3)) (kt : 0 ≤ x → XX G cells slots tgt L st S R I J) (kf : ¬ 0 ≤ x → XX G cells slots (pc + 3) L st S R I J) : XX G cells slots pc L (.int x :: st) S R I J := by
  obtain ⟨p, l, e, Rm, s, m, args, below, meth, c, D, cs, ad, b, nL, Q⟩ := G
  intro H locs ls hn hl hP hS
  exact lv_if_ge C0.1 C0.2.1 hd ht (fun h => kt h H locs ls hn hl hP hS) (fun h => kf h H locs ls hn hl hP hS)
theorem x_icmp_ge (C0 : XC G own cc ret) {x y : Int32} {off : Int} {tgt : Nat} (ht : (pc : Int) + off = (tgt : Int)) (hd : decode cc pc = .ok (.if_icmp .ge off, 3)) (kt : y ≤ x → XX G cells slots tgt L st S R I J) (kf : ¬ y ≤ x → XX G cells slots (pc + 3) L st S R I J) : XX G cells slots pc L (.int y :: .int x :: st) S R I J := by
  obtain ⟨p, l, e, Rm, s, m, args, below, meth, c, D, cs, ad, b, nL, Q⟩ := G
  intro H locs ls hn hl hP hS
  exact lv_icmp_ge C0.1 C0.2.1 hd ht (fun h => kt h H locs ls hn hl hP hS) (fun h => kf h H locs ls hn hl hP hS)
theorem x_if_gt (C0 : XC G own cc ret) {x : Int32} {off : Int} {tgt : Nat} (ht : (pc : Int) + off = (tgt : Int)) (hd : decode cc pc = .ok (.ifCond .gt off, 3)) (kt : 0 < x → XX G cells slots tgt L st S R I J) (kf : ¬ 0 < x → XX G cells slots (pc + 3) L st S R I J) : XX G cells slots pc L (.int x :: st) S R I J := by
  obtain ⟨p, l, e, Rm, s, m, args, below, meth, c, D, cs, ad, b, nL, Q⟩ := G
  intro H locs ls hn hl hP hS
  exact lv_if_gt C0.1 C0.2.1 hd ht (fun h => kt h H locs ls hn hl hP hS) (fun h => kf h H locs ls hn hl hP hS)
theorem x_icmp_gt (C0 : XC G own cc ret) {x y : Int32} {off : Int} {tgt : Nat} (ht : (pc : Int) + off = (tgt : Int)) (hd : decode cc pc = .ok (.if_icmp .gt off, 3)) (kt : y < x → XX G cells slots tgt L st S R I J) (kf : ¬ y < x → XX G cells slots (pc + 3) L st S R I J) : XX G cells slots pc L (.int y :: .int x :: st) S R I J := by
  obtain ⟨p, l, e, Rm, s, m, args, below, meth, c, D, cs, ad, b, nL, Q⟩ := G
  intro H locs ls hn hl hP hS
  exact lv_icmp_gt C0.1 C0.2.1 hd ht (fun h => kt h H locs ls hn hl hP hS) (fun h => kf h H locs ls hn hl hP hS)
theorem x_if_le (C0 : XC G own cc ret) {x : Int32} {off : Int} {tgt : Nat} (ht : (pc : Int) + off = (tgt : Int)) (hd : decode cc pc = .ok (.ifCond .le off, 3)) (kt : x ≤ 0 → XX G cells slots tgt L st S R I J) (kf : ¬ x ≤ 0 → XX G cells slots (pc + 3) L st S R I J) : XX G cells slots pc L (.int x :: st) S R I J := by
  obtain ⟨p, l, e, Rm, s, m, args, below, meth, c, D, cs, ad, b, nL, Q⟩ := G
  intro H locs ls hn hl hP hS
  exact lv_if_le C0.1 C0.2.1 hd ht (fun h => kt h H locs ls hn hl hP hS) (fun h => kf h H locs ls hn hl hP hS)
theorem x_icmp_le (C0 : XC G own cc ret) {x y : Int32} {off : Int} {tgt : Nat} (ht : (pc : Int) + off = (tgt : Int)) (hd : decode cc pc = .ok (.if_icmp .le off, 3)) (kt : x ≤ y → XX G cells slots tgt L st S R I J) (kf : ¬ x ≤ y → XX G cells slots (pc + 3) L st S R I J) : XX G cells slots pc L (.int y :: .int x :: st) S R I J := by
  obtain ⟨p, l, e, Rm, s, m, args, below, meth, c, D, cs, ad, b, nL, Q⟩ := G
  intro H locs ls hn hl hP hS
  exact lv_icmp_le C0.1 C0.2.1 hd ht (fun h => kt h H locs ls hn hl hP hS) (fun h => kf h H locs ls hn hl hP hS)
theorem x_goto (C0 : XC G own cc ret) {off : Int} {tgt : Nat} (ht : (pc : Int) + off = (tgt : Int)) (hd : decode cc pc = .ok (.goto off, 3)) (k : XX G cells slots tgt L st S R I J) : XX G cells slots pc L st S R I J := by
  obtain ⟨p, l, e, Rm, s, m, args, below, meth, c, D, cs, ad, b, nL, Q⟩ := G
  intro H locs ls hn hl hP hS
  exact lv_goto C0.1 C0.2.1 hd ht (k H locs ls hn hl hP hS)
theorem x_ifnull (C0 : XC G own cc ret) {x : Nat} {off : Int} (hd : decode cc pc = .ok (.ifnull off, 3)) (k : XX G cells slots (pc + 3) L st S R I J) : XX G cells slots pc L (.ref x :: st) S R I J := by
  obtain ⟨p, l, e, Rm, s, m, args, below, meth, c, D, cs, ad, b, nL, Q⟩ := G
  intro H locs ls hn hl hP hS
  exact lv_ifnull C0.1 C0.2.1 hd (k H locs ls hn hl hP hS)
theorem x_ifnullN (C0 : XC G own cc ret) {off : Int} {tgt : Nat} (ht : (pc : Int) + off = (tgt : Int)) (hd : decode cc pc = .ok (.ifnull off, 3)) (k : XX G cells slots tgt L st S R I J) : XX G cells slots pc L (.null :: st) S R I J := by
  obtain ⟨p, l, e, Rm, s, m, args, below, meth, c, D, cs, ad, b, nL, Q⟩ := G
  intro H locs ls hn hl hP hS
  exact lv_ifnullN C0.1 C0.2.1 hd ht (k H locs ls hn hl hP hS)
theorem x_ifnonnull (C0 : XC G own cc ret) {x : Nat} {off : Int} {tgt : Nat} (ht : (pc : Int) + off = (tgt : Int)) (hd : decode cc pc = .ok (.ifnonnull off, 3)) (k : XX G cells slots tgt L st S R I J) : XX G cells slots pc L (.ref x :: st) S R I J := by
  obtain ⟨p, l, e, Rm, s, m, args, below, meth, c, D, cs, ad, b, nL, Q⟩ := G
  intro H locs ls hn hl hP hS
  exact lv_ifnonnull C0.1 C0.2.1 hd ht (k H locs ls hn hl hP hS)
theorem x_ifnonnullN (C0 : XC G own cc ret) {off : Int} (hd : decode cc pc = .ok (.ifnonnull off, 3)) (k : XX G cells slots (pc + 3) L st S R I J) : XX G cells slots pc L (.null :: st) S R I J := by
  obtain ⟨p, l, e, Rm, s, m, args, below, meth, c, D, cs, ad, b, nL, Q⟩ := G
  intro H locs ls hn hl hP hS
  exact lv_ifnonnullN C0.1 C0.2.1 hd (k H locs ls hn hl hP hS)
theorem x_tabOut (C0 : XC G own cc ret) {dflt lo hi : Int} {offs : Array Int} {len tgt : Nat} {x : Int32} (h : x.toInt < lo ∨ hi < x.toInt) (ht : (pc : Int) + dflt = (tgt : Int)) (hd : decode cc pc = .ok (.tableswitch dflt lo hi offs, len)) (k : XX G cells slots tgt L st S R I J) : XX G cells slots pc L (.int x :: st) S R I J := by
  obtain ⟨p, l, e, Rm, s, m, args, below, meth, c, D, cs, ad, b, nL, Q⟩ := G
  intro H locs ls hn hl hP hS
  exact lv_tableOut C0.1 C0.2.1 hd h ht (k H locs ls hn hl hP hS)
theorem x_tabIn (C0 : XC G own cc ret) {dflt lo hi off : Int} {offs : Array Int} {len tgt : Nat} {x : Int32} (h1 : ¬ x.toInt < lo) (h2 : ¬ hi < x.toInt) (ho : offs[(x.toInt - lo).toNat]? = some off) (ht : (pc : Int) + off = (tgt : Int)) (hd : decode cc pc = .ok (.tableswitch dflt lo hi offs, len)) (k : XX G cells slots tgt L st S R I J) : XX G cells slots pc L (.int x :: st) S R I J := by
  obtain ⟨p, l, e, Rm, s, m, args, below, meth, c, D, cs, ad, b, nL, Q⟩ := G
  intro H locs ls hn hl hP hS
  exact lv_tableIn C0.1 C0.2.1 hd h1 h2 ho ht (k H locs ls hn hl hP hS)
end XRW
