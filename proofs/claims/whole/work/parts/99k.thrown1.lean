/-! A METHOD THAT MAY THROW, over the plain memory -/
abbrev xNse : String := "java/util/NoSuchElementException"
abbrev xNms : List String := ["java/lang/RuntimeException", "java/lang/Exception"]
def vx_ws : List Cond := vx_at0 "FilmFoot" 348 xNse xNms
def vx_ca : List Cond := Cond.classLink "FilmFoot" 346 xNse :: Cond.initialized xNse :: vx_ws
def vx_dc : Cond → Bool
  | .declares _ => true
  | .castable .. => true
  | _ => false
theorem vx_wo : ∀ w ∈ vx_ca, vx_ot w = true := by decide +kernel
theorem vx_cai : ∀ w ∈ vx_ca, w ∈ lw_tbl := by decide +kernel
theorem vx_caw : ∀ w ∈ vx_ca, (goodWord w || vx_dc w) = true := by decide +kernel
theorem vx_cac : Cond.castable xNse xNse ∈ vx_ca := by decide +kernel
theorem vx_ca_warm {a a' : Array Value} {s U : State} (hW : s.WarmedH U.vm) (h : ∀ w ∈ vx_ca, w.before a s = true) : ∀ w ∈ vx_ca, w.before a' U = true := by
  intro w hw
  have ha := h w hw
  have hb := vx_caw w hw
  rw [Bool.or_eq_true] at hb
  rcases hb with hb | hb
  · exact word_at hW (good_of_word hb) ha
  · cases w with
    | declares x =>
      have e := Cond.onTables_vm (A := a') (A' := a) (U := U) (U' := s) U.vm (.declares x) rfl
      exact e.trans ((Cond.declares_setVm hW.alike x).trans ha)
    | castable x y =>
      have e := Cond.onTables_vm (A := a') (A' := a) (U := U) (U' := s) U.vm (.castable x y) rfl
      exact e.trans ((Cond.castable_setVm hW.alike x y).trans ha)
    | _ => simp [vx_dc] at hb
def xEx (b : Nat) (U : State) : Prop := (∀ w ∈ vx_ca, w.before #[] U = true) ∧ vx_Zq Bundle.tN "UNASSIGNED_STACK" Bundle.steD (fun q => b ≤ q) U U.heap ∧ vx_Zq Bundle.tN "SUPPRESSED_SENTINEL" Bundle.listD (fun q => b ≤ q) U U.heap
theorem xEx.of {b : Nat} {s U : State} {H : Heap} {locs : List Loc} (h : xEx b s) (hS : va_S (fun q => b ≤ q) s.heap H locs) (hU : U.heap = H) (hW : s.WarmedH U.vm) : xEx b U :=
  ⟨vx_ca_warm hW h.1, by rw [hU]; exact vx_Zq.moved hW.alike (h.2.1.kept hS.2.1), by rw [hU]; exact vx_Zq.moved hW.alike (h.2.2.kept hS.2.1)⟩
def xPcE (D : va_G) (cs : Nat → ClassId) (ad : Nat → Nat) (b : Nat) (As : List Value) (S : xTS) (R : xTR) (I : xTI) (J : xTJ) : Array Value → State → Prop := fun a U => xPc D cs ad b 0 As S R I J a U ∧ xEx b U
theorem xPcE_blind {D : va_G} {cs : Nat → ClassId} {ad : Nat → Nat} {b : Nat} {As : List Value} {S : xTS} {R : xTR} {I : xTI} {J : xTJ} : FrameBlind (xPcE D cs ad b As S R I J) := by
  intro a U g mk h
  exact ⟨xPc_blind _ _ _ _ h.1, xEx.of (U := U.calling g mk a) (H := U.heap) (locs := []) h.2 ⟨Nat.le_refl _, fun _ _ _ => rfl, fun _ h => nomatch h⟩ rfl (State.WarmedH.refl U)⟩
def xX (D : va_G) (cs : Nat → ClassId) (ad : Nat → Nat) (b : Nat) (S : xTS) (R : xTR) (I : xTI) (J : xTJ) (px : Prop) : String → State → State → Prop :=
  vx_X (S := Unit) (fun _ => px) (fun E _ t => E = xNse ∧ va_P D vwCl (xW ad cs S R I J) t.heap ∧ S.length ≤ 10000) (fun q => b ≤ q)
/-- the contract of a method that returns or throws, its memory as it was -/
def vSpec (d : Nat) (y : MethodName) (bytes : ByteArray) (maxL : Nat) (ret : Option FieldType) (As : List Value) (S : xTS) (R : xTR) (I : xTI) (J : xTJ) (post : xPost) (px : Prop) : Prop :=
  ∀ (l : Launch) (D : va_G) (cs : Nat → ClassId) (ad : Nat → Nat) (b : Nat), l.stackTraces = false → vx_Met l y (Cond.code y bytes maxL ret :: xT) (xrm d 1 6) (xPcE D cs ad b As S R I J) (xQc D cs ad b post) (xX D cs ad b S R I J px) 1 6 (fun q => b ≤ q)
/-- the contract of a method with a table of its own -/
def wSpec (d : Nat) (y : MethodName) (bytes : ByteArray) (maxL : Nat) (ret : Option FieldType) (hh : List (Nat × Nat × Nat × Nat)) (As : List Value) (S : xTS) (R : xTR) (I : xTI) (J : xTJ) (post : xPost) : Prop :=
  ∀ (l : Launch) (D : va_G) (cs : Nat → ClassId) (ad : Nat → Nat) (b : Nat), l.stackTraces = false → Met l y (Cond.codeWith y bytes maxL ret hh :: xT) (xrm d 1 6) (xPcE D cs ad b As S R I J) (xQc D cs ad b post) 1 6 (fun q => b ≤ q)
def xEndX (G : xG) (post : xPost) (S : xTS) (R : xTR) (I : xTI) (J : xTJ) (px : Prop) : Prop := match G with
  | (p, l, e, Rm, s, m, args, below, meth, c, D, cs, ad, b, nL, Q) => Q = vx_MQ below (xQc D cs ad b post) (xX D cs ad b S R I J px) args s 1 6 (fun q => b ≤ q)
def xThr (G : xG) (hh : List (Nat × Nat × Nat × Nat)) : Prop := match G with
  | (p, l, e, Rm, s, m, args, below, meth, c, D, cs, ad, b, nL, Q) => l.stackTraces = false ∧ xEx b s ∧ c.exceptionTable.toList = tableOf hh
theorem xentry_has (ad : Nat → Nat) (As : List Value) {maxL : Nat} (hlen : (xspread As).length ≤ maxL) : xhas ad (lg_sl (As.map (xv ad)) ++ List.replicate (maxL - (lg_sl (As.map (xv ad))).length) Slot.unset).toArray maxL (xentry maxL As) := by
  have hl := lv_entry (As.map (xv ad)) (n := maxL) (by rw [xspread_len]; exact hlen)
  generalize (lg_sl (As.map (xv ad)) ++ List.replicate (maxL - (lg_sl (As.map (xv ad))).length) Slot.unset).toArray = ls at hl ⊢
  refine ⟨hl.2.1, hl.1, fun i v h => ?_⟩
  unfold xentry at h
  rw [List.getElem?_append] at h
  split at h
  · have h1_ := xspread_in ad As 0 i v h
    rw [Nat.zero_add] at h1_
    exact hl.2.2 _ h1_
  · rw [List.getElem?_replicate] at h
    split at h <;> cases h
theorem vSpec_of {d maxL n : Nat} {y : MethodName} {bytes : ByteArray} {rt : Option FieldType} {As : List Value} {S : xTS} {R : xTR} {I : xTI} {J : xTJ} {post : xPost} {px : Prop} (hm : xMth y bytes maxL rt n) (hlen : (xspread As).length ≤ maxL)
    (body : ∀ G : xG, XC G y.cls bytes rt → xnL G maxL → xRoom G (xrm d 1 6) → xEndX G post S R I J px → xThr G [] → XX G 0 0 0 (xentry maxL As) [] S R I J) : vSpec d y bytes maxL rt As S R I J post px := by
  intro l D cs ad b hfl
  refine vx_ofW (cc := bytes) (maxL := maxL) (ret := rt) hm.2.2.2.1 rfl ?_
  intro p e s m args below meth c s₁ B hml ht hv
  obtain ⟨⟨rfl, hn, hP, hK, hN, hZ, hb, had, hz⟩, hX⟩ := hv
  have hts := atoms_spec (ws := Cond.code y bytes maxL rt :: xT) B.pre
  have htb : c.exceptionTable.toList = tableOf [] := by
    cases hq : c.exceptionTable.toList with
    | nil => rfl
    | cons x r => exact (ht x (by rw [hq]; exact List.mem_cons_self)).elim
  have hl2_ := xentry_has ad As hlen
  rw [lg_entry_eq]
  generalize (lg_sl (As.map (xv ad)) ++ List.replicate (maxL - (lg_sl (As.map (xv ad))).length) Slot.unset).toArray = ls at hl2_ ⊢
  exact body (p, l, e, (headSpec (Cond.code y bytes maxL rt :: xT) (xrm d 1 6)).room, s, m, (As.map (xv ad)).toArray, below, meth, c, D, cs, ad, b, maxL, vx_MQ below (xQc D cs ad b post) (xX D cs ad b S R I J px) (As.map (xv ad)).toArray s 1 6 (fun q => b ≤ q))
    ⟨B.exec, B.bytes, hml, findClass_of_methodNamed B.named, fun w hw => hts w (List.mem_cons_of_mem _ hw), hK, B.notSynchronized, B.returns, hb, had, hN, hZ⟩ rfl rfl rfl ⟨hfl, hX, htb⟩ s.heap [] ls hn hl2_ hP va_S.rf
theorem wSpec_of {d maxL n : Nat} {y : MethodName} {bytes : ByteArray} {rt : Option FieldType} {hh : List (Nat × Nat × Nat × Nat)} {As : List Value} {S : xTS} {R : xTR} {I : xTI} {J : xTJ} {post : xPost} (hy : plainName y.cls = true) (hlen : (xspread As).length ≤ maxL)
    (body : ∀ G : xG, XC G y.cls bytes rt → xnL G maxL → xRoom G (xrm d 1 6) → xEnd G post 1 6 → xThr G hh → XX G 0 0 0 (xentry maxL As) [] S R I J) : wSpec d y bytes maxL rt hh As S R I J post := by
  intro l D cs ad b hfl
  refine va_MetW (cc := bytes) (maxL := maxL) (ret := rt) (hh := hh) hy rfl ?_
  intro p e s m args below meth c s₁ B hml hv
  obtain ⟨⟨rfl, hn, hP, hK, hN, hZ, hb, had, hz⟩, hX⟩ := hv
  have hts := atoms_spec (ws := Cond.codeWith y bytes maxL rt hh :: xT) B.pre
  have htb : c.exceptionTable.toList = tableOf hh := vx_table (x := y) B (hts _ List.mem_cons_self)
  have hl2_ := xentry_has ad As hlen
  rw [lg_entry_eq]
  generalize (lg_sl (As.map (xv ad)) ++ List.replicate (maxL - (lg_sl (As.map (xv ad))).length) Slot.unset).toArray = ls at hl2_ ⊢
  exact body (p, l, e, (headSpec (Cond.codeWith y bytes maxL rt hh :: xT) (xrm d 1 6)).room, s, m, (As.map (xv ad)).toArray, below, meth, c, D, cs, ad, b, maxL, MQ below (xQc D cs ad b post) (As.map (xv ad)).toArray s 1 6 (fun q => b ≤ q))
    ⟨B.exec, B.bytes, hml, findClass_of_methodNamed B.named, fun w hw => hts w (List.mem_cons_of_mem _ hw), hK, B.notSynchronized, B.returns, hb, had, hN, hZ⟩ rfl rfl rfl ⟨hfl, hX, htb⟩ s.heap [] ls hn hl2_ hP va_S.rf
section XRX
variable {G : xG} {own : String} {cc : ByteArray} {ret : Option FieldType} {cells slots pc : Nat} {L : List (Option Value)} {st : List Value} {S : xTS} {R : xTR} {I : xTI} {J : xTJ} {S' : xTS} {R' : xTR} {I' : xTI} {J' : xTJ}
theorem x_iretX {post : xPost} {px : Prop} {x : Int32} (C0_ : XC G own cc (some .int)) (E : xEndX G post S' R' I' J' px) (hc : cells ≤ 1) (hk : slots ≤ 6) (hd : decode cc pc = .ok (.ireturn, 1)) (hp : post (some (.int x)) S R I J) : XX G cells slots pc L [.int x] S R I J := by
  obtain ⟨p, l, e, Rm, s, m, args, below, meth, c, D, cs, ad, b, nL, Q⟩ := G
  intro H locs ls hn hl hP hS
  cases E
  refine vx_ret (W.widen hc hk ?_)
  exact W.iret (v := x) C0_.1 C0_.2.1 C0_.2.2.2.2.2.2.2.1 (fun t ht hW => ⟨⟨(some (.int x)), S, R, I, J, rfl, hp, by rw [ht]; exact hP, hn⟩, hS.F ht⟩) hS.2.2 hd C0_.2.2.2.2.2.2.1
theorem x_throwX {post : xPost} {px : Prop} (C0_ : XC G "FilmFoot" cc (some .int)) (E : xEndX G post S R I J px) (hT : xThr G []) (hR : xRoom G (xrm 6 1 6)) (hp : px)
    (d0_ : decode cc pc = .ok (.new 346, 3)) (d3_ : decode cc (pc + 3) = .ok (.dup, 1)) (d4_ : decode cc (pc + 4) = .ok (.invokespecial 348, 3)) (d7_ : decode cc (pc + 7) = .ok (.athrow, 1)) : XX G 0 0 pc L [] S R I J := by
  obtain ⟨p, l, e, Rm, s, m, args, below, meth, c, D, cs, ad, b, nL, Q⟩ := G
  intro H locs ls hn hl hP hS
  cases E
  cases hR
  have hw := vx_ca_warm (a' := args) (State.WarmedH.refl s) hT.2.1.1
  refine vx_throw0 (cc := cc) C0_.1 C0_.2.1 hT.1 (own := "FilmFoot") (cls := xNse) (names := xNms) (ik := 346) (ic := 348) (A := fun q => b ≤ q) C0_.2.2.2.1 (by decide) (by decide) (hw _ List.mem_cons_self) (hw _ (List.mem_cons_of_mem _ List.mem_cons_self)) (fun w h => hw w (List.mem_cons_of_mem _ (List.mem_cons_of_mem _ h))) vx_wo
    hT.2.1.2.1 hT.2.1.2.2 hS (hl.2.1.trans C0_.2.2.1.symm) d0_ d3_ d4_ d7_ (fun x hx => ?_) (by decide) (Nat.le_of_ble_eq_true rfl) (by decide) (by decide) C0_.2.2.2.2.2.2.1 ?_ hS.2.2 (by decide) (by decide)
  · rw [hT.2.2] at hx
    cases hx
  · intro t _ hz hk
    exact ⟨(), hp, ⟨rfl, hP.kept (fun k x hx => hk _ (hP k x hx).lt), hn⟩, Nat.le_trans hS.1 hz, fun q h1_ h2_ => (hk q (Nat.lt_of_lt_of_le h1_ hS.1)).trans (hS.2.1 q h1_ h2_)⟩
end XRX
