/-! THE JDK's own: Math.min, Math.max, System.arraycopy -/
theorem wjm1 : Cond.static Lib.Math.min.name ∈ xT := xT_in (xt2 50 rfl) rfl
theorem wjm2 : Cond.code Lib.Math.min.name Lib.Math.min.code 2 (some .int) ∈ xT := xT_in (xt2 51 rfl) rfl
theorem wjx1 : Cond.static Lib.Math.max.name ∈ xT := xT_in (xt2 185 rfl) rfl
theorem wjx2 : Cond.code Lib.Math.max.name Lib.Math.max.code 2 (some .int) ∈ xT := xT_in (xt2 186 rfl) rfl
theorem wjm0 : Cond.initialized "java/lang/Math" ∈ xT := xT_in (xt1 12 rfl) rfl
theorem wja1 : Cond.native arraycopyName ∈ xT := xT_in (xt2 54 rfl) rfl
theorem wja2 : Cond.static arraycopyName ∈ xT := xT_in (xt2 53 rfl) rfl
theorem wja0 : Cond.initialized "java/lang/System" ∈ xT := xT_in (xt1 13 rfl) rfl
theorem wk_X8_9 : Cond.methodLink RX8 9 Lib.Math.min.name ∈ xT := xT_in (xt2 49 rfl) rfl
theorem wk_X8_15 : Cond.methodLink RX8 15 arraycopyName ∈ xT := xT_in (xt2 52 rfl) rfl
theorem wk_X2_73 : Cond.methodLink RX2 73 Lib.Math.min.name ∈ xT := xT_in (xt3 191 rfl) rfl
theorem wk_X2_79 : Cond.methodLink RX2 79 Lib.Math.max.name ∈ xT := xT_in (xt3 192 rfl) rfl
theorem wk_X6_29 : Cond.methodLink RX6 29 Lib.Math.min.name ∈ xT := xT_in (xt4 96 rfl) rfl
theorem wk_X11_317 : Cond.methodLink RX11 317 Lib.Math.max.name ∈ xT := xT_in (xt5 49 rfl) rfl
section XRJ
variable {G : xG} {own : String} {cc : ByteArray} {ret : Option FieldType} {cells slots pc : Nat} {L : List (Option Value)} {st : List Value} {S : xTS} {R : xTR} {I : xTI} {J : xTJ}
theorem x_cats {ad : Nat → Nat} {st : List Value} {n : Nat} (h : (st.map fun v => v.category).sum ≤ n) : ((st.map (xv ad)).map fun v => v.category).sum ≤ n := by
  rw [List.map_map]
  have : (fun v => Value.category v) ∘ xv ad = fun v => Value.category v := by funext v; exact xv_cat ad v
  rw [this]
  exact h
theorem x_mmin {idx : Nat} {x y v : Int32} (C0 : XC G own cc ret) (hR : xRf G 0 cells slots) (hlk : Cond.methodLink own idx Lib.Math.min.name ∈ xT) (hcat : (st.map fun v => v.category).sum ≤ 8) (hv : (if y < x then y else x) = v) (hd : decode cc pc = .ok (.invokestatic idx, 3)) (k : XX G cells slots (pc + 3) L (.int v :: st) S R I J) : XX G cells slots pc L (.int y :: .int x :: st) S R I J := by
  obtain ⟨p, l, e, Rm, s, m, args, below, meth, c, D, cs, ad, b, nL, Q⟩ := G
  intro H locs ls hn hl hP hS
  subst hv
  have h2 := hR.2.1
  have h1 := hR.1
  have h3 := x_cats (ad := ad) hcat
  exact va_mmin C0.1 C0.2.1 (C0.2.2.1.trans hl.2.1.symm) C0.2.2.2.1 (C0.2.2.2.2.1 _ hlk) (C0.2.2.2.2.1 _ wjm1) (C0.2.2.2.2.1 _ wjm0) (C0.2.2.2.2.1 _ wjm2) (by omega) (by omega) hR.2.2.1 hR.2.2.2 hd (k H locs ls hn hl hP hS)
theorem x_mmax {idx : Nat} {x y v : Int32} (C0 : XC G own cc ret) (hR : xRf G 0 cells slots) (hlk : Cond.methodLink own idx Lib.Math.max.name ∈ xT) (hcat : (st.map fun v => v.category).sum ≤ 8) (hv : (if x < y then y else x) = v) (hd : decode cc pc = .ok (.invokestatic idx, 3)) (k : XX G cells slots (pc + 3) L (.int v :: st) S R I J) : XX G cells slots pc L (.int y :: .int x :: st) S R I J := by
  obtain ⟨p, l, e, Rm, s, m, args, below, meth, c, D, cs, ad, b, nL, Q⟩ := G
  intro H locs ls hn hl hP hS
  subst hv
  have h2 := hR.2.1
  have h1 := hR.1
  have h3 := x_cats (ad := ad) hcat
  exact va_mmax C0.1 C0.2.1 (C0.2.2.1.trans hl.2.1.symm) C0.2.2.2.1 (C0.2.2.2.2.1 _ hlk) (C0.2.2.2.2.1 _ wjx1) (C0.2.2.2.2.1 _ wjm0) (C0.2.2.2.2.1 _ wjx2) (by omega) (by omega) hR.2.2.1 hR.2.2.2 hd (k H locs ls hn hl hP hS)
/-- a row of ints is written over by another one of that length -/
def ucopy (I : xTI) (a b n : Nat) : xTI := fun x k => if x = b ∧ k < n then I a k else I x k
theorem x_copy {idx a b2 n : Nat} (C0 : XC G own cc ret) (hR : xRf G 0 cells slots) (hlk : Cond.methodLink own idx arraycopyName ∈ xT) (hcat : (st.map fun v => v.category).sum ≤ 8) (ha : S[a]? = some (11, n)) (hb : S[b2]? = some (11, n)) (hn : n < 2 ^ 31) (hd : decode cc pc = .ok (.invokestatic idx, 3)) (kk : XX G cells slots (pc + 3) L st S R (ucopy I a b2 n) J) : XX G cells slots pc L (.int (nI n) :: .int 0 :: .ref b2 :: .int 0 :: .ref a :: st) S R I J := by
  obtain ⟨p, l, e, Rm, s, m, args, below, meth, c, D, cs, ad, b, nL, Q⟩ := G
  intro H locs ls hn0 hl hP hS
  have h2 := hR.2.1
  have h1 := hR.1
  have h3 := x_cats (ad := ad) hcat
  have he := xW_get (ad := ad) (cs := cs) (R := R) (I := I) (J := J) ha
  have he2 := xW_get (ad := ad) (cs := cs) (R := R) (I := I) (J := J) hb
  rw [xcell_ints (by decide)] at he he2
  have hD := xW_D (cs := cs) (S := S) (R := R) (I := I) (J := J) hn0 C0.2.2.2.2.2.2.2.2.2.1
  have hset := xW_set (ad := ad) (cs := cs) (R := R) (J := J) (R' := R) (I := I) (I' := ucopy I a b2 n) (J' := J) hb (fun _ _ => rfl) (fun j h => by funext k; simp [ucopy, h]) (fun _ _ => rfl)
  rw [xcell_ints (by decide)] at hset
  have z0 : (0 : Int32).toNatClampNeg = 0 := by decide
  have zn : (nI n).toNatClampNeg = n := nI_clamp hn
  have hu : ucopy I a b2 n b2 = va_cpy (I a) (I b2) (0 : Int32).toNatClampNeg (0 : Int32).toNatClampNeg (nI n).toNatClampNeg := by
    rw [z0, zn]
    funext k
    simp [ucopy, va_cpy]
  rw [hu] at hset
  refine va_copyi C0.1 C0.2.1 (C0.2.2.1.trans hl.2.1.symm) C0.2.2.2.1 (C0.2.2.2.2.1 _ hlk) (C0.2.2.2.2.1 _ wja1) (C0.2.2.2.2.1 _ wja2) (C0.2.2.2.2.1 _ wja0) C0.2.2.2.2.2.1 hP hD hS a b2 0 0 he he2 (ty := .int) rfl rfl rfl (by decide) (by decide) (nI_pos hn) (by rw [z0, zn]; omega) (by rw [z0, zn]; omega) (fun _ _ => rfl) (by omega) ?_ hd (fun H1 locs1 hP1 _ hS1 => kk H1 locs1 ls hn0 hl (by rw [hset] at hP1; exact hP1) hS1)
  show _ + (5 + 2 + 11) ≤ _
  omega
/-- a nest mate's private static method -/
theorem x_callSN {y : MethodName} {bytes : ByteArray} {maxL idx d n : Nat} {host : String} {rt : Option FieldType} {rest : List Value} (As : List Value) (C0 : XC G own cc ret) (hrm : xRf G d cells slots) (hy : xSta y bytes maxL rt n) (hlk : Cond.methodLinkNest own idx y host ∈ xN) (hd : decode cc pc = .ok (.invokestatic idx, 3))
    (hst : st = As.reverse ++ rest) (hlen : As.length = n) (hcat : (rest.map fun v => v.category).sum ≤ 8)
    (hsp : xSpec d y bytes maxL rt 0 0 As S R I J (fun r S' R' I' J' => XX G cells slots (pc + 3) L (r.toList ++ rest) S' R' I' J')) : XX G cells slots pc L st S R I J := by
  obtain ⟨p, l, e, Rm, s, m, args, below, meth, c, D, cs, ad, b, nL, Q⟩ := G
  intro H locs ls hn hl hP hS
  subst hst
  obtain ⟨hm, hsta⟩ := hy
  have hM := hsp l D cs ad b
  have hR2 : (xrm d 0 0).frames + 1 ≤ Rm.frames ∧ 8 + (maxL + 11) + (xrm d 0 0).locals ≤ Rm.locals := ⟨hrm.1, by have := hrm.2.1; have := hm.2.2.2.2; show 8 + (maxL + 11) + 64 * d ≤ Rm.locals; omega⟩
  exact x_after (mc := 0) (ms := 0) (va_runSN (n := n) (As := As.map (xv ad)) (rest := rest.map (xv ad)) ⟨C0.1, C0.2.1, C0.2.2.1, C0.2.2.2.1, C0.2.2.2.2.1⟩ hM ⟨va_cnB n C0.2.2.2.2.1 (xT_goodIn hm.1) rfl rfl rfl (C0.2.2.2.2.2.2.2.2.2.2.1 _ hlk) (C0.2.2.2.2.1 _ hm.2.1) hm.2.2.1 hR2, C0.2.2.2.2.1 _ hsta, trivial⟩ ⟨xPc_blind, x_pcs C0 hn hP hS (fun h => absurd h (by decide))⟩ rfl (by rw [List.length_map]; exact hlen) hl.2.1 (by simp) (lv_room (x_cats hcat)) hd hrm.2.2) (fun q h => h) hl hS
/-- a nest mate's private method of an object -/
theorem x_callVN {y : MethodName} {bytes : ByteArray} {maxL idx d n a ci nf : Nat} {host : String} {rt : Option FieldType} {rest : List Value} (As : List Value) (C0 : XC G own cc ret) {NL : Nat} (hN : xnL G NL) (hL : L.length = NL) (hrm : xRf G d cells slots) (hy : xVir y bytes maxL rt n ci) (hlk : Cond.methodLinkNest own idx y host ∈ xN) (hd : decode cc pc = .ok (.invokevirtual idx, 3))
    (hs : S[a]? = some (ci, nf)) (hst : st = As.reverse ++ .ref a :: rest) (hlen : As.length = n) (hcat : (rest.map fun v => v.category).sum ≤ 8)
    (hsp : xSpec d y bytes maxL rt 0 0 (.ref a :: As) S R I J (fun r S' R' I' J' => XX G cells slots (pc + 3) L (r.toList ++ rest) S' R' I' J')) : XX G cells slots pc L st S R I J := by
  obtain ⟨p, l, e, Rm, s, m, args, below, meth, c, D, cs, ad, b, nL, Q⟩ := G
  intro H locs ls hn hl hP hS
  subst hst
  obtain ⟨hm, hin, hsel, hci, C, Tc, N, hcl, hC⟩ := hy
  have he := xW_get (ad := ad) (cs := cs) (R := R) (I := I) (J := J) hs
  rw [xcell_obj hci] at he
  have hM := hsp l D cs ad b
  have hR2 : (xrm d 0 0).frames + 1 ≤ Rm.frames ∧ 8 + (maxL + 11) + (xrm d 0 0).locals ≤ Rm.locals := ⟨hrm.1, by have := hrm.2.1; have := hm.2.2.2.2; show 8 + (maxL + 11) + 64 * d ≤ Rm.locals; omega⟩
  have hrec := va_recv C0.2.2.2.2.2.1 hP hcl he
  rw [show (C, Tc, N).1 = y.cls from hC] at hrec
  exact x_after (mc := 0) (ms := 0) (va_runVN (n := n) (As := As.map (xv ad)) (rest := rest.map (xv ad)) ⟨C0.1, C0.2.1, C0.2.2.1, C0.2.2.2.1, C0.2.2.2.2.1⟩ hM ⟨va_cnB n C0.2.2.2.2.1 (xT_goodIn hm.1) rfl rfl rfl (C0.2.2.2.2.2.2.2.2.2.2.1 _ hlk) (C0.2.2.2.2.1 _ hm.2.1) hm.2.2.1 hR2, C0.2.2.2.2.1 _ hin, C0.2.2.2.2.1 _ hsel⟩ ⟨xPc_blind, hrec, x_pcs C0 hn hP hS (fun h => absurd h (by decide))⟩ rfl (by rw [List.length_map]; exact hlen) hl.2.1 (by simp [xv]) (lv_room (x_cats hcat)) hd hrm.2.2) (fun q h => h) hl hS
end XRJ
