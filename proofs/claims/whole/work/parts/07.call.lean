/-! CALLS AND CONTRACTS OVER THE PLAIN MEMORY -/
def xPc (D : va_G) (cs : Nat → ClassId) (ad : Nat → Nat) (b mc : Nat) (As : List Value) (S : xTS) (R : xTR) (I : xTI) (J : xTJ) : Array Value → State → Prop :=
  va_Pc (As.map (xv ad)) (fun U => S.length ≤ 10000 ∧ va_P D vwCl (xW ad cs S R I J) U.heap ∧ va_K D vwCl (xtys cs) U ∧ (∀ w ∈ xN, va_Nw w U) ∧ xZ ad b U U.heap ∧ b ≤ U.heap.size ∧ (∀ a, a < 10000 → ad a = b + a) ∧ (0 < mc → U.heap.size = b + S.length))
abbrev xPost : Type := Option Value → xTS → xTR → xTI → xTJ → Prop
abbrev xrm (d mc ms : Nat) : Room := { frames := d, cells := mc, slots := ms, locals := 64 * d }
/-- the contract: from every state that holds this memory, the method with these arguments returns, and post holds of what it answers and of the memory behind it -/
def xSpec (d : Nat) (y : MethodName) (bytes : ByteArray) (maxL : Nat) (ret : Option FieldType) (mc ms : Nat) (As : List Value) (S : xTS) (R : xTR) (I : xTI) (J : xTJ) (post : xPost) : Prop :=
  ∀ (l : Launch) (D : va_G) (cs : Nat → ClassId) (ad : Nat → Nat) (b : Nat), Met l y (Cond.code y bytes maxL ret :: xT) (xrm d mc ms) (xPc D cs ad b mc As S R I J) (xQc D cs ad b post) mc ms (fun q => b ≤ q)
/-- what the tables say of a method -/
def xMth (y : MethodName) (bytes : ByteArray) (maxL : Nat) (ret : Option FieldType) (n : Nat) : Prop := Cond.code y bytes maxL ret ∈ xT ∧ Cond.initialized y.cls ∈ xT ∧ (y.cls ≠ "java/lang/invoke/MethodHandle" ∧ y.cls ≠ "java/lang/invoke/VarHandle" ∧ (parseMethodDescriptor y.desc).map (fun d => d.parameters.length) = some n) ∧ plainName y.cls = true ∧ maxL ≤ 40
def xVir (y : MethodName) (bytes : ByteArray) (maxL : Nat) (ret : Option FieldType) (n ci : Nat) : Prop := xMth y bytes maxL ret n ∧ Cond.instanceMethod y ∈ xT ∧ Cond.selects y.cls y y ∈ xT ∧ ci < 11 ∧ ∃ (C : String) (T : u_T) (N : Nat), vwCl[ci]? = some (C, T, N) ∧ C = y.cls
def xSta (y : MethodName) (bytes : ByteArray) (maxL : Nat) (ret : Option FieldType) (n : Nat) : Prop := xMth y bytes maxL ret n ∧ Cond.static y ∈ xT
def xCon (y : MethodName) (bytes : ByteArray) (maxL : Nat) (n : Nat) : Prop := xMth y bytes maxL none n ∧ y.name = "<init>" ∧ Cond.instanceMethod y ∈ xT
theorem xPc_blind {D : va_G} {cs : Nat → ClassId} {ad : Nat → Nat} {b mc : Nat} {As : List Value} {S : xTS} {R : xTR} {I : xTI} {J : xTJ} : FrameBlind (xPc D cs ad b mc As S R I J) := by
  intro a U g mk h
  obtain ⟨h0, h1, h2, h3, h4, h5, h6, h7, h8⟩ := h
  exact ⟨h0, h1, h2, va_K.moved (u := U) (U := U.calling g mk a) (Vm.Alike.refl U.vm) h3, xN_vm (u := U) rfl h4, xZ.same (u := U) rfl h5, h6, h7, h8⟩
section XRC
variable {G : xG} {own : String} {cc : ByteArray} {ret : Option FieldType} {cells slots pc : Nat} {L : List (Option Value)} {st : List Value} {S : xTS} {R : xTR} {I : xTI} {J : xTJ}
theorem x_room {Rm Rm' : Room} {mc ms d d' maxL : Nat} (hd : d' + 1 ≤ d) (hm : maxL ≤ 40) (hR : Rm' = xrm d' mc ms) (hf : Rm.frames = d ∧ Rm.locals = 64 * d) : Rm'.frames + 1 ≤ Rm.frames ∧ 8 + (maxL + 11) + Rm'.locals ≤ Rm.locals := by
  subst hR
  rw [hf.1, hf.2]
  refine ⟨hd, ?_⟩
  show 8 + (maxL + 11) + 64 * d' ≤ 64 * d
  omega
/-- what comes behind a call -/
theorem x_after {p : Program} {l : Launch} {e : Env} {Rm : Room} {s : State} {m : MethodId} {args : Array Value} {below : List Frame} {meth : Method} {c : Code} {D : va_G} {cs : Nat → ClassId} {ad : Nat → Nat} {b nL : Nat} {Q : State → Prop} {mc ms : Nat} {a0 : Array Value} {free : Addr → Prop} {rest st0 : List Value} {H : Heap} {locs : List Loc} {ls : Array Slot}
    (hr : va_Run p l e Rm s m args below meth c H locs cells slots mc ms (F0 m pc ls st0) (rest.map (xv ad)) (xQc D cs ad b (fun r S' R' I' J' => XX (p, l, e, Rm, s, m, args, below, meth, c, D, cs, ad, b, nL, Q) (cells + mc) (slots + ms) (pc + 3) L (r.toList ++ rest) S' R' I' J') a0) free)
    (hfree : ∀ q, free q → b ≤ q) (hl : xhas ad ls nL L) (hS : va_S (fun q => b ≤ q) s.heap H locs) : W p l e Rm s m args below meth c H locs cells slots Q (F0 m pc ls st0) := by
  intro T hT X
  obtain ⟨v, st₀, t, T', Lc, h0, X', hL, e1, e2, ⟨⟨r, S', R', I', J', hv, hp, hP', hn'⟩, hz, hk⟩, stp⟩ := hr T hT X
  cases hv
  rw [h0] at hz hk
  obtain ⟨t2, a1, b1⟩ := hp T'.heap (locs ++ Lc) ls hn' hl (by rw [e1]; exact hP')
    ⟨Nat.le_trans hS.1 (by rw [e1]; exact hz), fun q h1 h2 => by rw [e1, hk q (Nat.lt_of_lt_of_le h1 hS.1) h2]; exact hS.2.1 q h1 h2, fun q hq => by
      rcases List.mem_append.mp hq with h | h
      · exact hS.2.2 q h
      · exact hfree _ (hL q h)⟩ T' rfl X'
  refine ⟨t2, stp t2 ?_, b1⟩
  have hst : ((r.map (xv ad)).toList ++ rest.map (xv ad)) = (r.toList ++ rest).map (xv ad) := by cases r <;> rfl
  rw [hst]
  exact a1
theorem x_pcs {p : Program} {l : Launch} {e : Env} {Rm : Room} {s : State} {m : MethodId} {args : Array Value} {below : List Frame} {meth : Method} {c : Code} {D : va_G} {cs : Nat → ClassId} {ad : Nat → Nat} {b nL mc : Nat} {Q : State → Prop} {As : List Value} {H : Heap} {locs : List Loc}
    (C0 : XC (p, l, e, Rm, s, m, args, below, meth, c, D, cs, ad, b, nL, Q) own cc ret) (hn : S.length ≤ 10000) (hP : va_P D vwCl (xW ad cs S R I J) H) (hS : va_S (fun q => b ≤ q) s.heap H locs) (hz : 0 < mc → H.size = b + S.length) :
    ∀ U : State, U.heap = H → s.WarmedH U.vm → xPc D cs ad b mc As S R I J (As.map (xv ad)).toArray U := by
  intro U hU hW
  refine ⟨rfl, hn, by rw [hU]; exact hP, va_K.moved hW.alike C0.2.2.2.2.2.1, xN_warm hW C0.2.2.2.2.2.2.2.2.2.2.1, ?_, by rw [hU]; exact Nat.le_trans C0.2.2.2.2.2.2.2.2.1 hS.1, C0.2.2.2.2.2.2.2.2.2.1, by rw [hU]; exact hz⟩
  rw [hU]
  exact xZ.warm hW (C0.2.2.2.2.2.2.2.2.2.2.2.kept fun a h1 h2 => hS.2.1 a h1 h2)
def xRf (G : xG) (d cells slots : Nat) : Prop := match G with
  | (p, l, e, Rm, s, m, args, below, meth, c, D, cs, ad, b, nL, Q) => d + 1 ≤ Rm.frames ∧ 64 * d + 64 ≤ Rm.locals ∧ cells ≤ Rm.cells ∧ slots ≤ Rm.slots
theorem xRf_of {dd d mc ms cells slots : Nat} (h : xRoom G (xrm dd mc ms)) (hd : d + 1 ≤ dd) (hc : cells ≤ mc) (hs : slots ≤ ms) : xRf G d cells slots := by
  obtain ⟨p, l, e, Rm, s, m, args, below, meth, c, D, cs, ad, b, nL, Q⟩ := G
  cases h
  refine ⟨hd, ?_, hc, hs⟩
  show 64 * d + 64 ≤ 64 * dd
  omega
theorem x_callV {y : MethodName} {bytes : ByteArray} {maxL idx d n a ci nf : Nat} {rt : Option FieldType} {rest : List Value} (As : List Value) (C0 : XC G own cc ret) {NL : Nat} (hN : xnL G NL) (hL : L.length = NL) (hrm : xRf G d cells slots) (hy : xVir y bytes maxL rt n ci) (hlk : Cond.methodLink own idx y ∈ xT) (hd : decode cc pc = .ok (.invokevirtual idx, 3))
    (hs : S[a]? = some (ci, nf)) (hst : st = As.reverse ++ .ref a :: rest) (hlen : As.length = n) (hcat : (rest.map fun v => v.category).sum ≤ 8)
    (hsp : xSpec d y bytes maxL rt 0 0 (.ref a :: As) S R I J (fun r S' R' I' J' => XX G cells slots (pc + 3) L (r.toList ++ rest) S' R' I' J')) : XX G cells slots pc L st S R I J := by
  obtain ⟨p, l, e, Rm, s, m, args, below, meth, c, D, cs, ad, b, nL, Q⟩ := G
  intro H locs ls hn hl hP hS
  subst hst
  obtain ⟨hm, hin, hsel, hci, C, Tc, N, hcl, hC⟩ := hy
  have he := xW_get (ad := ad) (cs := cs) (R := R) (I := I) (J := J) hs
  rw [xcell_obj hci] at he
  have hM := hsp l D cs ad b
  have hR2 : (xrm d 0 0).frames + 1 ≤ Rm.frames ∧ 8 + (maxL + 11) + (xrm d 0 0).locals ≤ Rm.locals := ⟨hrm.1, by have := hrm.2.1; have := hm.2.2.2.2; show 8 + (maxL + 11) + 64 * d ≤ Rm.locals; omega⟩
  have hrec := va_recv C0.2.2.2.2.2.1 hP hcl he
  rw [show (C, Tc, N).1 = y.cls from hC] at hrec
  refine x_after (mc := 0) (ms := 0) (va_runV (n := n) (As := As.map (xv ad)) (rest := rest.map (xv ad)) ⟨C0.1, C0.2.1, C0.2.2.1, C0.2.2.2.1, C0.2.2.2.2.1⟩ hM ⟨callB_of n C0.2.2.2.2.1 (xT_goodIn hm.1) rfl rfl rfl (C0.2.2.2.2.1 _ hm.2.1) (C0.2.2.2.2.1 _ hlk) hm.2.2.1 hR2, C0.2.2.2.2.1 _ hin, C0.2.2.2.2.1 _ hsel⟩ ⟨xPc_blind, hrec, x_pcs C0 hn hP hS (fun h => absurd h (by decide))⟩ rfl (by rw [List.length_map]; exact hlen) hl.2.1 (by simp [xv]) (lv_room ?_) hd hrm.2.2) (fun q h => h) hl hS
  rw [List.map_map]
  have : (fun v => Value.category v) ∘ xv ad = fun v => Value.category v := by funext v; exact xv_cat ad v
  rw [this]
  exact hcat
theorem x_callS {y : MethodName} {bytes : ByteArray} {maxL idx d n : Nat} {rt : Option FieldType} {rest : List Value} (As : List Value) (C0 : XC G own cc ret) (hrm : xRf G d cells slots) (hy : xSta y bytes maxL rt n) (hlk : Cond.methodLink own idx y ∈ xT) (hd : decode cc pc = .ok (.invokestatic idx, 3))
    (hst : st = As.reverse ++ rest) (hlen : As.length = n) (hcat : (rest.map fun v => v.category).sum ≤ 8)
    (hsp : xSpec d y bytes maxL rt 0 0 As S R I J (fun r S' R' I' J' => XX G cells slots (pc + 3) L (r.toList ++ rest) S' R' I' J')) : XX G cells slots pc L st S R I J := by
  obtain ⟨p, l, e, Rm, s, m, args, below, meth, c, D, cs, ad, b, nL, Q⟩ := G
  intro H locs ls hn hl hP hS
  subst hst
  obtain ⟨hm, hsta⟩ := hy
  have hM := hsp l D cs ad b
  have hR2 : (xrm d 0 0).frames + 1 ≤ Rm.frames ∧ 8 + (maxL + 11) + (xrm d 0 0).locals ≤ Rm.locals := ⟨hrm.1, by have := hrm.2.1; have := hm.2.2.2.2; show 8 + (maxL + 11) + 64 * d ≤ Rm.locals; omega⟩
  refine x_after (mc := 0) (ms := 0) (va_runS (n := n) (As := As.map (xv ad)) (rest := rest.map (xv ad)) ⟨C0.1, C0.2.1, C0.2.2.1, C0.2.2.2.1, C0.2.2.2.2.1⟩ hM ⟨callB_of n C0.2.2.2.2.1 (xT_goodIn hm.1) rfl rfl rfl (C0.2.2.2.2.1 _ hm.2.1) (C0.2.2.2.2.1 _ hlk) hm.2.2.1 hR2, C0.2.2.2.2.1 _ hsta⟩ ⟨xPc_blind, x_pcs C0 hn hP hS (fun h => absurd h (by decide))⟩ rfl (by rw [List.length_map]; exact hlen) hl.2.1 (by simp) (lv_room ?_) hd hrm.2.2) (fun q h => h) hl hS
  rw [List.map_map]
  have : (fun v => Value.category v) ∘ xv ad = fun v => Value.category v := by funext v; exact xv_cat ad v
  rw [this]
  exact hcat
/-- a constructor: it may make cells; ours end where the heap ends -/
theorem x_callI {y : MethodName} {bytes : ByteArray} {maxL idx d n a k0 mc ms : Nat} {rest : List Value} (As : List Value) (C0 : XC G own cc ret) (hz : 0 < mc → xSz G k0 ∧ k0 + cells = S.length) (hrm : xRf G d (cells + mc) (slots + ms)) (hy : xCon y bytes maxL n) (hlk : Cond.methodLink own idx y ∈ xT ∨ ∃ host, Cond.methodLinkNest own idx y host ∈ xN) (hd : decode cc pc = .ok (.invokespecial idx, 3))
    (hst : st = As.reverse ++ .ref a :: rest) (hlen : As.length = n) (hcat : (rest.map fun v => v.category).sum ≤ 8)
    (hsp : xSpec d y bytes maxL none mc ms (.ref a :: As) S R I J (fun r S' R' I' J' => XX G (cells + mc) (slots + ms) (pc + 3) L (r.toList ++ rest) S' R' I' J')) : XX G cells slots pc L st S R I J := by
  obtain ⟨p, l, e, Rm, s, m, args, below, meth, c, D, cs, ad, b, nL, Q⟩ := G
  intro H locs ls hn hl hP hS T hT X
  subst hst
  obtain ⟨hm, hnm, hin⟩ := hy
  have hM := hsp l D cs ad b
  have hR2 : (xrm d mc ms).frames + 1 ≤ Rm.frames ∧ 8 + (maxL + 11) + (xrm d mc ms).locals ≤ Rm.locals := ⟨hrm.1, by have := hrm.2.1; have := hm.2.2.2.2; show 8 + (maxL + 11) + 64 * d ≤ Rm.locals; omega⟩
  have hcat' : ((rest.map (xv ad)).map fun v => v.category).sum ≤ 8 := by
    rw [List.map_map]
    have : (fun v => Value.category v) ∘ xv ad = fun v => Value.category v := by funext v; exact xv_cat ad v
    rw [this]
    exact hcat
  have hH : 0 < mc → H.size = b + S.length := by
    intro h0
    obtain ⟨z1, z2⟩ := hz h0
    have h1 : H.size ≤ s.heap.size + cells := by rw [← hT]; exact X.same.2.2.1
    have h2 : s.heap.size = b + k0 := z1
    have h3 : b + S.length ≤ H.size := by
      by_cases h4 : S.length = 0
      · rw [h4]
        have h5 := hS.1
        have h6 := C0.2.2.2.2.2.2.2.2.1
        omega
      · have h5 : S.length - 1 < S.length := by omega
        have h6 : S[S.length - 1]? = some S[S.length - 1] := List.getElem?_eq_getElem h5
        have h7 := (hP _ _ (xW_get (ad := ad) (cs := cs) (R := R) (I := I) (J := J) (kd := S[S.length - 1].1) (n := S[S.length - 1].2) h6)).lt
        rw [show (ad (S.length - 1), xcell ad cs (R (S.length - 1)) (I (S.length - 1)) (J (S.length - 1)) S[S.length - 1].1 S[S.length - 1].2).1 = ad (S.length - 1) from rfl, C0.2.2.2.2.2.2.2.2.2.1 _ (by omega)] at h7
        omega
    omega
  have hpcs := x_pcs (mc := mc) (As := .ref a :: As) C0 hn hP hS hH
  rcases hlk with hlk | ⟨host, hlk⟩
  · exact x_after (mc := mc) (ms := ms) (va_runI (n := n) (As := As.map (xv ad)) (rest := rest.map (xv ad)) ⟨C0.1, C0.2.1, C0.2.2.1, C0.2.2.2.1, C0.2.2.2.2.1⟩ hM ⟨callB_of n C0.2.2.2.2.1 (xT_goodIn hm.1) rfl rfl rfl (C0.2.2.2.2.1 _ hm.2.1) (C0.2.2.2.2.1 _ hlk) hm.2.2.1 hR2, hnm, C0.2.2.2.2.1 _ hin⟩ ⟨xPc_blind, hpcs⟩ rfl (by rw [List.length_map]; exact hlen) hl.2.1 (by simp [xv]) (lv_room hcat') hd hrm.2.2) (fun q h => h) hl hS T hT X
  · exact x_after (mc := mc) (ms := ms) (va_runIN (n := n) (As := As.map (xv ad)) (rest := rest.map (xv ad)) ⟨C0.1, C0.2.1, C0.2.2.1, C0.2.2.2.1, C0.2.2.2.2.1⟩ hM ⟨va_cnB n C0.2.2.2.2.1 (xT_goodIn hm.1) rfl rfl rfl (C0.2.2.2.2.2.2.2.2.2.2.1 _ hlk) (C0.2.2.2.2.1 _ hm.2.1) hm.2.2.1 hR2, hnm, C0.2.2.2.2.1 _ hin⟩ ⟨xPc_blind, hpcs⟩ rfl (by rw [List.length_map]; exact hlen) hl.2.1 (by simp [xv]) (lv_room hcat') hd hrm.2.2) (fun q h => h) hl hS T hT X
/-- Object's own constructor -/
theorem x_objInit {idx a : Nat} (C0 : XC G own cc ret) (hR : xRf G 1 cells slots) (hw1 : Cond.methodLink own idx objectInit ∈ xT) (hw2 : Cond.instanceMethod objectInit ∈ xT) (hw3 : Cond.code objectInit ⟨#[0xb1]⟩ 1 none ∈ xT) (hcat : (st.map fun v => v.category).sum ≤ 8) (hd : decode cc pc = .ok (.invokespecial idx, 3)) (k : XX G cells slots (pc + 3) L st S R I J) : XX G cells slots pc L (.ref a :: st) S R I J := by
  obtain ⟨p, l, e, Rm, s, m, args, below, meth, c, D, cs, ad, b, nL, Q⟩ := G
  intro H locs ls hn hl hP hS
  have hcat' : ((st.map (xv ad)).map fun v => v.category).sum ≤ 8 := by
    rw [List.map_map]
    have : (fun v => Value.category v) ∘ xv ad = fun v => Value.category v := by funext v; exact xv_cat ad v
    rw [this]
    exact hcat
  have h1 := lv_room (m := m) (pc := pc) (ls := ls) (rest := Value.ref (ad a) :: st.map (xv ad)) hcat'
  have h2 := hR.2.1
  have h3 := hR.1
  exact W.objInit (a := ad a) (rest := st.map (xv ad)) C0.1 C0.2.1 C0.2.2.2.1 (C0.2.2.2.2.1 _ hw1) (C0.2.2.2.2.1 _ hw2) (C0.2.2.2.2.1 _ hw3) rfl (hl.2.1.trans C0.2.2.1.symm) rfl hd (by omega) (by
    show 2 * (F0 m pc ls (Value.ref (ad a) :: st.map (xv ad))).monitorRoom + ((st.map (xv ad)).map fun v => v.category).sum + 12 ≤ Rm.locals
    omega) (k H locs ls hn hl hP hS)
/-- the heap ends where our cells end -/
theorem x_end {p : Program} {l : Launch} {e : Env} {Rm : Room} {s : State} {m : MethodId} {args : Array Value} {below : List Frame} {meth : Method} {c : Code} {D : va_G} {cs : Nat → ClassId} {ad : Nat → Nat} {b nL k0 : Nat} {Q : State → Prop} {H : Heap} {locs : List Loc} {T : State}
    (C0 : XC (p, l, e, Rm, s, m, args, below, meth, c, D, cs, ad, b, nL, Q) own cc ret) (hz : xSz (p, l, e, Rm, s, m, args, below, meth, c, D, cs, ad, b, nL, Q) k0 ∧ k0 + cells = S.length) (hn : S.length ≤ 10000) (hP : va_P D vwCl (xW ad cs S R I J) H) (hS : va_S (fun q => b ≤ q) s.heap H locs) (hT : T.heap = H) (X : Stand p l e Rm s m args below meth c T locs cells slots) : H.size = b + S.length := by
  obtain ⟨z1, z2⟩ := hz
  have h1 : H.size ≤ s.heap.size + cells := by rw [← hT]; exact X.same.2.2.1
  have h2 : s.heap.size = b + k0 := z1
  have h3 : b + S.length ≤ H.size := by
    by_cases h4 : S.length = 0
    · rw [h4]
      have h5 := hS.1
      have h6 := C0.2.2.2.2.2.2.2.2.1
      omega
    · have h5 : S.length - 1 < S.length := by omega
      have h6 : S[S.length - 1]? = some S[S.length - 1] := List.getElem?_eq_getElem h5
      have h7 := (hP _ _ (xW_get (ad := ad) (cs := cs) (R := R) (I := I) (J := J) (kd := S[S.length - 1].1) (n := S[S.length - 1].2) h6)).lt
      rw [show (ad (S.length - 1), xcell ad cs (R (S.length - 1)) (I (S.length - 1)) (J (S.length - 1)) S[S.length - 1].1 S[S.length - 1].2).1 = ad (S.length - 1) from rfl, C0.2.2.2.2.2.2.2.2.2.1 _ (by omega)] at h7
      omega
  omega
theorem xW_push {ad : Nat → Nat} {cs : Nat → ClassId} {S : xTS} {R : xTR} {I : xTI} {J : xTJ} {kd n : Nat} : xW ad cs (S ++ [(kd, n)]) R I J = xW ad cs S R I J ++ [(ad S.length, xcell ad cs (R S.length) (I S.length) (J S.length) kd n)] := by
  simp [xW, List.mapIdx_append]
/-- a new object: its fields are 0 and null, which our rows say ahead of it -/
theorem x_new {idx ci k0 : Nat} {C : String} {T : u_T} {N : Nat} (C0 : XC G own cc ret) (hz : xSz G k0 ∧ k0 + cells = S.length) (hR : xRf G 0 (cells + 1) (slots + N)) (hc : xCls ci C T N) (hw1 : Cond.classLink own idx C ∈ xT) (hw2 : Cond.instantiable C N ∈ xT) (hw3 : Cond.initialized C ∈ xT) (hn1 : S.length + 1 ≤ 10000)
    (hft : ∀ j, j < N → ∃ ty, parseFieldDescriptor (T j).2.2.1 = some ty ∧ (xft ci)[j]? = some (xtag ty) ∧ defaultValue ty = (if xtag ty = 2 then .long 0 else if xtag ty = 3 then .null else .int 0)) (hN0 : (xft ci).length = N) (hI : ∀ j, I S.length j = 0) (hJ : ∀ j, J S.length j = 0) (hRr : ∀ j, R S.length j = none)
    (hd : decode cc pc = .ok (.new idx, 3)) (kk : XX G (cells + 1) (slots + N) (pc + 3) L (.ref S.length :: st) (S ++ [(ci, N)]) R I J) : XX G cells slots pc L st S R I J := by
  obtain ⟨p, l, e, Rm, s, m, args, below, meth, c, D, cs, ad, b, nL, Q⟩ := G
  intro H locs ls hn hl hP hS T0 hT X
  have hsz := x_end C0 hz hn hP hS hT X
  obtain ⟨h11, hcl, hin, ⟨ty0, hty⟩, hnm⟩ := hc
  have hK := C0.2.2.2.2.2.1
  have hKn := hK.1 ci _ hcl
  have had := C0.2.2.2.2.2.2.2.2.2.1
  have hgo := fun kk => W.newcK (g := F0 m pc ls (st.map (xv ad))) (Q := Q) C0.1 C0.2.1 C0.2.2.2.1 (C0.2.2.2.2.1 _ hw1) (C0.2.2.2.2.1 _ hw2) (C0.2.2.2.2.1 _ hw3) rfl hd hR.2.2.1 hR.2.2.2 hKn.2.1 rfl kk T0 hT X
  refine hgo (fun H1 kC hkC e1 z1 o1 => ?_)
  have hk : ∀ (k : Nat) (x : Nat × va_E), (xW ad cs S R I J)[k]? = some x → H1[x.1]? = H[x.1]? := fun k x hx => o1 x.1 ((hP k x hx).lt)
  have hq : ad S.length = H.size := by rw [had _ (by omega), hsz]
  have hfs : ∀ j, j < N → defaultValue (ty0 j) = vp_V (xfields ad (R S.length) (I S.length) (J S.length) ci) j := by
    intro j hj
    obtain ⟨ty, t1, t2, t3⟩ := hft j hj
    have t4 : ty0 j = ty := Option.some.inj ((hty j hj).symm.trans t1)
    rw [t4, t3]
    unfold vp_V
    rw [List.getD_eq_getElem?_getD, xfields_get t2, Option.getD_some]
    unfold xfv
    rw [hI j, hJ j, hRr j]
    cases ty <;> simp [xtag, va_rf]
  have hP1 : va_P D vwCl (xW ad cs (S ++ [(ci, N)]) R I J) H1 := by
    rw [xW_push]
    refine (hP.kept hk).app (fun k x hx => ?_)
    have hz : k < 1 := (List.getElem?_eq_some_iff.mp hx).1
    rw [show k = 0 by omega] at hx
    cases hx
    rw [xcell_obj h11, hq]
    exact ⟨_, hcl, (u_born ty0 C0.2.2.2.2.1 hin hKn hkC e1 hty).to hfs⟩
  have hn2 : (S ++ [(ci, N)]).length ≤ 10000 := by
    rw [List.length_append, List.length_singleton]
    exact hn1
  have hS1 : va_S (fun q => b ≤ q) s.heap H1 locs := ⟨Nat.le_trans hS.1 (by omega), fun x h1 h2 => (o1 x (Nat.lt_of_lt_of_le h1 hS.1)).trans (hS.2.1 x h1 h2), hS.2.2⟩
  have h9 : W p l e Rm s m args below meth c H1 locs (cells + 1) (slots + N) Q (F0 m (pc + 3) ls ((Value.ref S.length :: st).map (xv ad))) := kk H1 locs ls hn2 hl hP1 hS1
  have h8 : (Value.ref S.length :: st).map (xv ad) = Value.ref H.size :: st.map (xv ad) := by
    show Value.ref (ad S.length) :: st.map (xv ad) = _
    rw [hq]
  rw [h8] at h9
  exact h9
/-- a new row of numbers -/
theorem x_newarray {kd k0 N : Nat} {ty : FieldType} {n : Int32} {atype : ArrayType} (C0 : XC G own cc ret) (hz : xSz G k0 ∧ k0 + cells = S.length) (hR : xRf G 0 (cells + 1) (slots + N)) (hty : newarray.typeOf atype = ty) (hkd : (kd = 11 ∧ ty = .int) ∨ (kd = 12 ∧ ty = .long) ∨ (kd = 13 ∧ ty = .char) ∨ (kd = 14 ∧ ty = .boolean)) (hw : Cond.arrayClass ty ∈ xT) (hn1 : S.length + 1 ≤ 10000)
    (hn0 : ¬ n < 0) (hN : n.toNatClampNeg = N) (hb : N ≤ 10000) (hI : ∀ j, I S.length j = 0) (hJ : ∀ j, J S.length j = 0)
    (hd : decode cc pc = .ok (.newarray atype, 2)) (kk : XX G (cells + 1) (slots + N) (pc + 2) L (.ref S.length :: st) (S ++ [(kd, N)]) R I J) : XX G cells slots pc L (.int n :: st) S R I J := by
  obtain ⟨p, l, e, Rm, s, m, args, below, meth, c, D, cs, ad, b, nL, Q⟩ := G
  intro H locs ls hn hl hP hS T0 hT X
  have hsz := x_end C0 hz hn hP hS hT X
  have hK := C0.2.2.2.2.2.1
  have had := C0.2.2.2.2.2.2.2.2.2.1
  subst hty
  have hbytes : N * componentBytes (newarray.typeOf atype) ≤ 536870912 := by
    rcases hkd with ⟨-, h⟩ | ⟨-, h⟩ | ⟨-, h⟩ | ⟨-, h⟩ <;> rw [h] <;> simp only [componentBytes] <;> omega
  have hgo := fun kk => va_newaK (g := F0 m pc ls ((Value.int n :: st).map (xv ad))) (Q := Q) C0.1 C0.2.1 (C0.2.2.2.2.1 _ hw) rfl hd (n := n) (rest := st.map (xv ad)) rfl hn0 hN hbytes hR.2.2.1 hR.2.2.2 rfl kk T0 hT X
  refine hgo (fun H1 cA e1 z1 o1 hAr hNm => ?_)
  have hk : ∀ (k : Nat) (x : Nat × va_E), (xW ad cs S R I J)[k]? = some x → H1[x.1]? = H[x.1]? := fun k x hx => o1 x.1 ((hP k x hx).lt)
  have hq : ad S.length = H.size := by rw [had _ (by omega), hsz]
  have hcA : ∀ t0 : Nat, (xtys cs)[t0]? = some (cs kd, newarray.typeOf atype) → cA = cs kd := by
    intro t0 ht
    have h1 := (hK.2 t0 _ ht).2
    rcases hkd with ⟨-, h⟩ | ⟨-, h⟩ | ⟨-, h⟩ | ⟨-, h⟩ <;> rw [h] at h1 hNm <;> exact Option.some.inj (hNm.symm.trans h1)
  have hP1 : va_P D vwCl (xW ad cs (S ++ [(kd, N)]) R I J) H1 := by
    rw [xW_push]
    refine (hP.kept hk).app (fun k x hx => ?_)
    have hz : k < 1 := (List.getElem?_eq_some_iff.mp hx).1
    rw [show k = 0 by omega] at hx
    cases hx
    rw [hq]
    rcases hkd with ⟨h0, h⟩ | ⟨h0, h⟩ | ⟨h0, h⟩ | ⟨h0, h⟩
    · subst h0
      rw [xcell_ints (by decide), ← hcA 0 (by rw [h]; rfl)]
      show H1[H.size]? = some (vp_cell _ _)
      rw [vp_cell_i, e1, h]
      exact congrArg (fun f => some (arrV cA N f)) (by funext j; rw [hI j]; rfl)
    · subst h0
      rw [xcell_longs, ← hcA 1 (by rw [h]; rfl)]
      show H1[H.size]? = some (vp_cell _ _)
      rw [vp_cell_l, e1, h]
      exact congrArg (fun f => some (arrV cA N f)) (by funext j; rw [hJ j]; rfl)
    · subst h0
      rw [xcell_ints (by decide), ← hcA 2 (by rw [h]; rfl)]
      show H1[H.size]? = some (vp_cell _ _)
      rw [vp_cell_i, e1, h]
      exact congrArg (fun f => some (arrV cA N f)) (by funext j; rw [hI j]; rfl)
    · subst h0
      rw [xcell_ints (by decide), ← hcA 3 (by rw [h]; rfl)]
      show H1[H.size]? = some (vp_cell _ _)
      rw [vp_cell_i, e1, h]
      exact congrArg (fun f => some (arrV cA N f)) (by funext j; rw [hI j]; rfl)
  have hn2 : (S ++ [(kd, N)]).length ≤ 10000 := by
    rw [List.length_append, List.length_singleton]
    exact hn1
  have hS1 : va_S (fun q => b ≤ q) s.heap H1 locs := ⟨Nat.le_trans hS.1 (by omega), fun x h1 h2 => (o1 x (Nat.lt_of_lt_of_le h1 hS.1)).trans (hS.2.1 x h1 h2), hS.2.2⟩
  have h9 : W p l e Rm s m args below meth c H1 locs (cells + 1) (slots + N) Q (F0 m (pc + 2) ls ((Value.ref S.length :: st).map (xv ad))) := kk H1 locs ls hn2 hl hP1 hS1
  have h8 : (Value.ref S.length :: st).map (xv ad) = Value.ref H.size :: st.map (xv ad) := by
    show Value.ref (ad S.length) :: st.map (xv ad) = _
    rw [hq]
  rw [h8] at h9
  exact h9
/-- a new row of halls, of marks -/
theorem x_anewarray {kd k0 N idx : Nat} {C : String} {n : Int32} (C0 : XC G own cc ret) (hz : xSz G k0 ∧ k0 + cells = S.length) (hR : xRf G 0 (cells + 1) (slots + N)) (hkd : (kd = 15 ∧ C = "FilmFoot$Hall") ∨ (kd = 16 ∧ C = "FilmFoot$Mark")) (hw : Cond.classLink own idx C ∈ xT) (hw2 : Cond.arrayOver (.object C) ∈ xN) (hn1 : S.length + 1 ≤ 10000)
    (hn0 : ¬ n < 0) (hN : n.toNatClampNeg = N) (hb : N ≤ 10000) (hRr : ∀ j, R S.length j = none)
    (hd : decode cc pc = .ok (.anewarray idx, 3)) (kk : XX G (cells + 1) (slots + N) (pc + 3) L (.ref S.length :: st) (S ++ [(kd, N)]) R I J) : XX G cells slots pc L (.int n :: st) S R I J := by
  obtain ⟨p, l, e, Rm, s, m, args, below, meth, c, D, cs, ad, b, nL, Q⟩ := G
  intro H locs ls hn hl hP hS T0 hT X
  have hsz := x_end C0 hz hn hP hS hT X
  have hK := C0.2.2.2.2.2.1
  have had := C0.2.2.2.2.2.2.2.2.2.1
  subst hN
  have hgo := fun kk => W.anew (g := F0 m pc ls ((Value.int n :: st).map (xv ad))) (Q := Q) C0.1 C0.2.1 C0.2.2.2.1 (C0.2.2.2.2.1 _ hw) (va_AO.use (C0.2.2.2.2.2.2.2.2.2.2.1 _ hw2)) rfl hd (n := n) (rest := st.map (xv ad)) rfl hn0 (by omega) hR.2.2.1 hR.2.2.2 kk T0 hT X
  refine hgo (fun cA kA comp f1 f2 f3 f4 => ?_)
  have hq : ad S.length = H.size := by rw [had _ (by omega), hsz]
  generalize hH1 : H.push ({ cls := cA, slots := Array.replicate n.toNatClampNeg .null, vm := .none } : Cell) = H1
  have z1 : H1.size = H.size + 1 := by rw [← hH1, Array.size_push]
  have e1 : H1[H.size]? = some (arrV cA n.toNatClampNeg (fun _ => .null)) := by rw [← hH1, Array.getElem?_push_size, ← arrV_new]
  have o1 : ∀ q, q < H.size → H1[q]? = H[q]? := fun q hq => by rw [← hH1, Array.getElem?_push, if_neg (Nat.ne_of_lt hq)]
  have hk : ∀ (k : Nat) (x : Nat × va_E), (xW ad cs S R I J)[k]? = some x → H1[x.1]? = H[x.1]? := fun k x hx => o1 x.1 ((hP k x hx).lt)
  have hcA : ∀ t0 : Nat, (xtys cs)[t0]? = some (cs kd, FieldType.object C) → cA = cs kd := by
    intro t0 ht
    obtain ⟨-, -, -, -, -, h1⟩ := (hK.2 t0 _ ht).2
    first | exact Option.some.inj (f4.symm.trans h1) | exact Option.some.inj (f1.symm.trans h1) | exact Option.some.inj (f2.symm.trans h1) | exact Option.some.inj (f3.symm.trans h1)
  have hP1 : va_P D vwCl (xW ad cs (S ++ [(kd, n.toNatClampNeg)]) R I J) H1 := by
    rw [xW_push]
    refine (hP.kept hk).app (fun k x hx => ?_)
    have hz : k < 1 := (List.getElem?_eq_some_iff.mp hx).1
    rw [show k = 0 by omega] at hx
    cases hx
    rw [hq]
    rcases hkd with ⟨h0, h⟩ | ⟨h0, h⟩
    · subst h0
      rw [xcell_refs (by decide), ← hcA 4 (by rw [h]; rfl)]
      show H1[H.size]? = some (vp_cell _ _)
      rw [vp_cell_q, e1]
      exact congrArg (fun f => some (arrV cA _ f)) (by funext j; rw [hRr j]; rfl)
    · subst h0
      rw [xcell_refs (by decide), ← hcA 5 (by rw [h]; rfl)]
      show H1[H.size]? = some (vp_cell _ _)
      rw [vp_cell_q, e1]
      exact congrArg (fun f => some (arrV cA _ f)) (by funext j; rw [hRr j]; rfl)
  have hn2 : (S ++ [(kd, n.toNatClampNeg)]).length ≤ 10000 := by
    rw [List.length_append, List.length_singleton]
    exact hn1
  have hS1 : va_S (fun q => b ≤ q) s.heap H1 locs := ⟨Nat.le_trans hS.1 (by omega), fun x h1 h2 => (o1 x (Nat.lt_of_lt_of_le h1 hS.1)).trans (hS.2.1 x h1 h2), hS.2.2⟩
  have h9 : W p l e Rm s m args below meth c H1 locs (cells + 1) (slots + n.toNatClampNeg) Q (F0 m (pc + 3) ls ((Value.ref S.length :: st).map (xv ad))) := kk H1 locs ls hn2 hl hP1 hS1
  have h8 : (Value.ref S.length :: st).map (xv ad) = Value.ref H.size :: st.map (xv ad) := by
    show Value.ref (ad S.length) :: st.map (xv ad) = _
    rw [hq]
  rw [h8] at h9
  exact h9
/-- a new object laid into a row of its class -/
theorem x_aastore {kd ci n nf a v : Nat} {i : Int32} (C0 : XC G own cc ret) (hs : S[a]? = some (kd, n)) (hv : S[v]? = some (ci, nf)) (hk : (kd = 15 ∧ ci = 3) ∨ (kd = 16 ∧ ci = 5)) (hi : vp_in i n) (hd : decode cc pc = .ok (.aastore, 1)) (kk : XX G cells slots (pc + 1) L st S (u2 R a i.toNatClampNeg (some v)) I J) : XX G cells slots pc L (.ref v :: .int i :: .ref a :: st) S R I J := by
  obtain ⟨p, l, e, Rm, s, m, args, below, meth, c, D, cs, ad, b, nL, Q⟩ := G
  intro H locs ls hn hl hP hS
  have he := xW_get (ad := ad) (cs := cs) (R := R) (I := I) (J := J) hs
  have he2 := xW_get (ad := ad) (cs := cs) (R := R) (I := I) (J := J) hv
  have hD := xW_D (cs := cs) (S := S) (R := R) (I := I) (J := J) hn C0.2.2.2.2.2.2.2.2.2.1
  have hset := xW_set (ad := ad) (cs := cs) (I := I) (J := J) (R := R) (R' := u2 R a i.toNatClampNeg (some v)) (I' := I) (J' := J) hs (fun j h => u2_row R _ _ h) (fun _ _ => rfl) (fun _ _ => rfl)
  have hu : (fun k => (u2 R a i.toNatClampNeg (some v) a k).map ad) = va_up (fun k => (R a k).map ad) i.toNatClampNeg (some (ad v)) := by
    funext k
    by_cases h : k = i.toNatClampNeg
    · simp [u2, va_up, h]
    · simp [u2, va_up, h]
  rcases hk with ⟨rfl, rfl⟩ | ⟨rfl, rfl⟩
  · rw [xcell_refs (by decide)] at he hset
    rw [xcell_obj (by decide)] at he2
    rw [hu] at hset
    exact va_astq (ci := 3) (r := (RX3, TX3, 7)) C0.1 C0.2.1 C0.2.2.2.2.2.1 hP hD hS a 4 v he rfl he2 rfl hi hd (fun H1 locs1 hP1 _ hS1 => kk H1 locs1 ls hn hl (by rw [hset] at hP1; exact hP1) hS1)
  · rw [xcell_refs (by decide)] at he hset
    rw [xcell_obj (by decide)] at he2
    rw [hu] at hset
    exact va_astq (ci := 5) (r := (RX5, TX5, 3)) C0.1 C0.2.1 C0.2.2.2.2.2.1 hP hD hS a 5 v he rfl he2 rfl hi hd (fun H1 locs1 hP1 _ hS1 => kk H1 locs1 ls hn hl (by rw [hset] at hP1; exact hP1) hS1)
end XRC
/-- the locals at the entry -/
def xspread : List Value → List (Option Value)
  | [] => []
  | v :: vs => if v.category = 2 then some v :: none :: xspread vs else some v :: xspread vs
def xentry (n : Nat) (As : List Value) : List (Option Value) := xspread As ++ List.replicate (n - (xspread As).length) none
theorem xspread_len (ad : Nat → Nat) (As : List Value) : (lg_sl (As.map (xv ad))).length = (xspread As).length := by
  induction As with
  | nil => rfl
  | cons v vs ih =>
    have e : lg_sl ((v :: vs).map (xv ad)) = (if (xv ad v).category = 2 then [Slot.val (xv ad v), Slot.second] else [Slot.val (xv ad v)]) ++ lg_sl (vs.map (xv ad)) := rfl
    rw [e, xv_cat]
    unfold xspread
    by_cases h : v.category = 2
    · rw [if_pos h, if_pos h]; simp [ih]
    · rw [if_neg h, if_neg h]; simp [ih]
theorem xspread_in (ad : Nat → Nat) (As : List Value) : ∀ (k i : Nat) (v : Value), (xspread As)[i]? = some (some v) → (k + i, xv ad v) ∈ lv_args k (As.map (xv ad)) := by
  induction As with
  | nil => intro k i v h; simp [xspread] at h
  | cons w vs ih =>
    intro k i v h
    unfold xspread at h
    show (k + i, xv ad v) ∈ (k, xv ad w) :: lv_args (if (xv ad w).category = 2 then k + 2 else k + 1) (vs.map (xv ad))
    rw [xv_cat]
    by_cases hc : w.category = 2
    · rw [if_pos hc] at h
      rw [if_pos hc]
      match i, h with
      | 0, h => simp at h; subst h; exact List.mem_cons_self
      | 1, h => simp at h
      | i + 2, h =>
        simp only [List.getElem?_cons_succ] at h
        have h1 := ih (k + 2) i v h
        rw [show k + 2 + i = k + (i + 2) by omega] at h1
        exact List.mem_cons_of_mem _ h1
    · rw [if_neg hc] at h
      rw [if_neg hc]
      match i, h with
      | 0, h => simp at h; subst h; exact List.mem_cons_self
      | i + 1, h =>
        simp only [List.getElem?_cons_succ] at h
        have h1 := ih (k + 1) i v h
        rw [show k + 1 + i = k + (i + 1) by omega] at h1
        exact List.mem_cons_of_mem _ h1
/-- a contract out of a walk -/
theorem xSpec_of {d maxL mc ms n : Nat} {y : MethodName} {bytes : ByteArray} {rt : Option FieldType} {As : List Value} {S : xTS} {R : xTR} {I : xTI} {J : xTJ} {post : xPost} (hm : xMth y bytes maxL rt n) (hlen : (xspread As).length ≤ maxL)
    (body : ∀ G : xG, XC G y.cls bytes rt → xnL G maxL → xRoom G (xrm d mc ms) → xEnd G post mc ms → xIn G y.name → (0 < mc → xSz G S.length) → XX G 0 0 0 (xentry maxL As) [] S R I J) : xSpec d y bytes maxL rt mc ms As S R I J post := by
  intro l D cs ad b
  refine Met.ofW (cc := bytes) (maxL := maxL) (ret := rt) hm.2.2.2.1 rfl ?_
  intro p e s m args below meth c s₁ B hml hv
  obtain ⟨rfl, hn, hP, hK, hN, hZ, hb, had, hz⟩ := hv
  have hts := atoms_spec (ws := Cond.code y bytes maxL rt :: xT) B.pre
  have hl := lv_entry (As.map (xv ad)) (n := maxL) (by rw [xspread_len]; exact hlen)
  rw [lg_entry_eq]
  generalize (lg_sl (As.map (xv ad)) ++ List.replicate (maxL - (lg_sl (As.map (xv ad))).length) Slot.unset).toArray = ls at hl ⊢
  have hl2 : xhas ad ls maxL (xentry maxL As) := by
    refine ⟨hl.2.1, hl.1, fun i v h => ?_⟩
    unfold xentry at h
    rw [List.getElem?_append] at h
    split at h
    · have h1 := xspread_in ad As 0 i v h
      rw [Nat.zero_add] at h1
      exact hl.2.2 _ h1
    · rw [List.getElem?_replicate] at h
      split at h <;> cases h
  exact body (p, l, e, (headSpec (Cond.code y bytes maxL rt :: xT) (xrm d mc ms)).room, s, m, (As.map (xv ad)).toArray, below, meth, c, D, cs, ad, b, maxL, MQ below (xQc D cs ad b post) (As.map (xv ad)).toArray s mc ms (fun q => b ≤ q))
    ⟨B.exec, B.bytes, hml, findClass_of_methodNamed B.named, fun w hw => hts w (List.mem_cons_of_mem _ hw), hK, B.notSynchronized, B.returns, hb, had, hN, hZ⟩ rfl rfl rfl (name_of_methodNamed B.named B.method).1 (fun h => hz h) s.heap [] ls hn hl2 hP va_S.rf
