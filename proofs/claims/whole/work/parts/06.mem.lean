/-! ROWS THAT READ AND WRITE THE PLAIN MEMORY -/
/-- what the tables say of class ci -/
def xCls (ci : Nat) (C : String) (T : u_T) (N : Nat) : Prop := ci < 11 ∧ vwCl[ci]? = some (C, T, N) ∧ (∀ w ∈ u_ws C T N, w ∈ xT) ∧ (∃ ty0 : Nat → FieldType, ∀ k, k < N → parseFieldDescriptor (T k).2.2.1 = some (ty0 k)) ∧ ∀ a, a < N → ∀ b, b < N → a ≠ b → (T a).2.1 ≠ (T b).2.1
/-- a place of a class's constant pool is field k of class ci -/
def xFL (own : String) (idx ci k : Nat) (ty : FieldType) (fin : Bool) : Prop := ∃ (C : String) (T : u_T) (N : Nat), xCls ci C T N ∧ k < N ∧ (Cond.fieldLink own idx (T k).1 (T k).2.1 (T k).2.2.1 ∈ xT ∨ ∃ host, Cond.fieldLinkNest own idx (T k).1 (T k).2.1 (T k).2.2.1 host ∈ xN) ∧ parseFieldDescriptor (T k).2.2.1 = some ty ∧ (T k).2.2.2 = fin
/-- the same of a final field, written in a constructor of its own class -/
def xFF (own : String) (idx ci k : Nat) (ty : FieldType) : Prop := ∃ (C : String) (T : u_T) (N : Nat), xCls ci C T N ∧ k < N ∧ Cond.fieldLink own idx (T k).1 (T k).2.1 (T k).2.2.1 ∈ xT ∧ parseFieldDescriptor (T k).2.2.1 = some ty ∧ (T k).2.2.2 = true ∧ (T k).1 = own
def xtag (ty : FieldType) : Nat := match ty with
  | .int => 0
  | .boolean => 1
  | .long => 2
  | _ => 3
section XRM
variable {G : xG} {own : String} {cc : ByteArray} {ret : Option FieldType} {cells slots pc : Nat} {L : List (Option Value)} {st : List Value} {S : xTS} {R : xTR} {I : xTI} {J : xTJ}
theorem x_get {ty : FieldType} {fin : Bool} {idx ci k a n : Nat} (C0 : XC G own cc ret) (hF : xFL own idx ci k ty fin) (hs : S[a]? = some (ci, n)) (hg : (xft ci)[k]? = some (xtag ty)) (hd : decode cc pc = .ok (.getfield idx, 3)) {v : Value} (hv : ∀ ad, xfv ad (R a) (I a) (J a) (xtag ty) k = xv ad v) (kk : XX G cells slots (pc + 3) L (v :: st) S R I J) : XX G cells slots pc L (.ref a :: st) S R I J := by
  obtain ⟨p, l, e, Rm, s, m, args, below, meth, c, D, cs, ad, b, nL, Q⟩ := G
  intro H locs ls hn hl hP hS
  obtain ⟨C, T, N, ⟨h11, hcl, hin, -, -⟩, hk, hlink, -, -⟩ := hF
  have he := xW_get (ad := ad) (cs := cs) (R := R) (I := I) (J := J) hs
  rw [xcell_obj h11] at he
  have hf := xfields_get (ad := ad) (Ra := R a) (Ia := I a) (Ja := J a) hg
  rw [hv ad] at hf
  rcases hlink with hlink | ⟨host, hlink⟩
  · exact va_get C0.1 C0.2.1 C0.2.2.2.2.1 hin C0.2.2.2.1 C0.2.2.2.2.2.1 hP a he hcl k hk (C0.2.2.2.2.1 _ hlink) (fun _ h => h) hf hd (kk H locs ls hn hl hP hS)
  · exact va_getN C0.1 C0.2.1 C0.2.2.2.2.1 hin C0.2.2.2.1 C0.2.2.2.2.2.1 hP a he hcl k hk (va_Nw.use rfl (C0.2.2.2.2.2.2.2.2.2.2.1 _ hlink)) (fun _ h => h) hf hd (kk H locs ls hn hl hP hS)
theorem x_getI {fin : Bool} {idx ci k a n : Nat} (C0 : XC G own cc ret) (hF : xFL own idx ci k .int fin) (hs : S[a]? = some (ci, n)) (hg : (xft ci)[k]? = some (xtag .int)) (hd : decode cc pc = .ok (.getfield idx, 3)) (kk : XX G cells slots (pc + 3) L ((.int (I a k)) :: st) S R I J) : XX G cells slots pc L (.ref a :: st) S R I J := x_get C0 hF hs hg hd (fun _ => rfl) kk
theorem x_getZ {fin : Bool} {idx ci k a n : Nat} (C0 : XC G own cc ret) (hF : xFL own idx ci k .boolean fin) (hs : S[a]? = some (ci, n)) (hg : (xft ci)[k]? = some (xtag .boolean)) (hd : decode cc pc = .ok (.getfield idx, 3)) (kk : XX G cells slots (pc + 3) L ((.int (I a k)) :: st) S R I J) : XX G cells slots pc L (.ref a :: st) S R I J := x_get C0 hF hs hg hd (fun _ => rfl) kk
theorem x_getJ {fin : Bool} {idx ci k a n : Nat} (C0 : XC G own cc ret) (hF : xFL own idx ci k .long fin) (hs : S[a]? = some (ci, n)) (hg : (xft ci)[k]? = some (xtag .long)) (hd : decode cc pc = .ok (.getfield idx, 3)) (kk : XX G cells slots (pc + 3) L ((.long (J a k)) :: st) S R I J) : XX G cells slots pc L (.ref a :: st) S R I J := x_get C0 hF hs hg hd (fun _ => rfl) kk
theorem x_getR {ty : FieldType} {fin : Bool} {idx ci k a n a2 : Nat} (C0 : XC G own cc ret) (hF : xFL own idx ci k ty fin) (hs : S[a]? = some (ci, n)) (hg : (xft ci)[k]? = some 3) (ht : xtag ty = 3) (hr : R a k = some a2) (hd : decode cc pc = .ok (.getfield idx, 3)) (kk : XX G cells slots (pc + 3) L (.ref a2 :: st) S R I J) : XX G cells slots pc L (.ref a :: st) S R I J := x_get C0 hF hs (by rw [ht]; exact hg) hd (v := .ref a2) (fun ad => by rw [ht]; simp [xfv, hr, xv, va_rf]) kk
theorem x_getQ {ty : FieldType} {fin : Bool} {idx ci k a n : Nat} (C0 : XC G own cc ret) (hF : xFL own idx ci k ty fin) (hs : S[a]? = some (ci, n)) (hg : (xft ci)[k]? = some 3) (ht : xtag ty = 3) (hd : decode cc pc = .ok (.getfield idx, 3)) (kk : XX G cells slots (pc + 3) L (va_rf (R a k) :: st) S R I J) : XX G cells slots pc L (.ref a :: st) S R I J := x_get C0 hF hs (by rw [ht]; exact hg) hd (v := va_rf (R a k)) (fun ad => by rw [ht]; simp [xfv, xv_rf]) kk
theorem x_put {ty : FieldType} {idx ci k a n : Nat} {v : Value} {R' : xTR} {I' : xTI} {J' : xTJ} (C0 : XC G own cc ret) (hF : xFL own idx ci k ty false) (hs : S[a]? = some (ci, n)) (hg : (xft ci)[k]? = some (xtag ty)) (hd : decode cc pc = .ok (.putfield idx, 3)) (hnar : ∀ ad, narrow ty (xv ad v) = xv ad v) (hfit : ∀ ad, fits ty (xv ad v) = true)
    (hv : ∀ ad, xfv ad (R' a) (I' a) (J' a) (xtag ty) k = xv ad v) (hR : ∀ i, i ≠ a → R' i = R i) (hI : ∀ i, i ≠ a → I' i = I i) (hJ : ∀ i, i ≠ a → J' i = J i) (hRa : ∀ i, i ≠ k → R' a i = R a i) (hIa : ∀ i, i ≠ k → I' a i = I a i) (hJa : ∀ i, i ≠ k → J' a i = J a i)
    (kk : XX G cells slots (pc + 3) L st S R' I' J') : XX G cells slots pc L (v :: .ref a :: st) S R I J := by
  obtain ⟨p, l, e, Rm, s, m, args, below, meth, c, D, cs, ad, b, nL, Q⟩ := G
  intro H locs ls hn hl hP hS
  obtain ⟨C, T, N, ⟨h11, hcl, hin, ⟨ty0, hty⟩, hnm⟩, hk, hlink, hpd, hfin⟩ := hF
  have he := xW_get (ad := ad) (cs := cs) (R := R) (I := I) (J := J) hs
  rw [xcell_obj h11] at he
  have hD := xW_D (cs := cs) (S := S) (R := R) (I := I) (J := J) hn C0.2.2.2.2.2.2.2.2.2.1
  have hset : (xW ad cs S R I J).set a (ad a, .inr (ci, (xfields ad (R a) (I a) (J a) ci).set k (xv ad v))) = xW ad cs S R' I' J' := by
    rw [← xW_set hs hR hI hJ, xcell_obj h11, ← hv ad, xfields_set hg hRa hIa hJa]
  rcases hlink with hlink | ⟨host, hlink⟩
  · exact va_put C0.1 C0.2.1 C0.2.2.2.2.1 hin ty0 hty hnm C0.2.2.2.1 C0.2.2.2.2.2.1 hP hD hS a he hcl k hk (C0.2.2.2.2.1 _ hlink) (fun _ h => h) hfin hpd (hnar ad) (hfit ad) (xfields_len hg) hd (fun H1 locs1 hP1 _ hS1 => kk H1 locs1 ls hn hl (by rw [hset] at hP1; exact hP1) hS1)
  · exact va_putN C0.1 C0.2.1 C0.2.2.2.2.1 hin ty0 hty hnm C0.2.2.2.1 C0.2.2.2.2.2.1 hP hD hS a he hcl k hk (va_Nw.use rfl (C0.2.2.2.2.2.2.2.2.2.2.1 _ hlink)) (fun _ h => h) hfin hpd (hnar ad) (hfit ad) (xfields_len hg) hd (fun H1 locs1 hP1 _ hS1 => kk H1 locs1 ls hn hl (by rw [hset] at hP1; exact hP1) hS1)
theorem x_putI {idx ci k a n : Nat} {x : Int32} (C0 : XC G own cc ret) (hF : xFL own idx ci k .int false) (hs : S[a]? = some (ci, n)) (hg : (xft ci)[k]? = some (xtag .int)) (hd : decode cc pc = .ok (.putfield idx, 3)) (kk : XX G cells slots (pc + 3) L st S R (u2 I a k x) J) : XX G cells slots pc L (.int x :: .ref a :: st) S R I J :=
  x_put C0 hF hs hg hd (fun _ => rfl) (fun _ => rfl) (fun _ => by simp [xfv, xtag, u2, xv]) (fun _ _ => rfl) (fun i h => u2_row I k x h) (fun _ _ => rfl) (fun _ _ => rfl) (fun i h => by simp [u2, h]) (fun _ _ => rfl) kk
theorem x_putZ {idx ci k a n : Nat} {x : Int32} (C0 : XC G own cc ret) (hF : xFL own idx ci k .boolean false) (hs : S[a]? = some (ci, n)) (hg : (xft ci)[k]? = some (xtag .boolean)) (hx : x = 0 ∨ x = 1) (hd : decode cc pc = .ok (.putfield idx, 3)) (kk : XX G cells slots (pc + 3) L st S R (u2 I a k x) J) : XX G cells slots pc L (.int x :: .ref a :: st) S R I J :=
  x_put C0 hF hs hg hd (fun _ => by rcases hx with rfl | rfl <;> rfl) (fun _ => by rcases hx with rfl | rfl <;> rfl) (fun _ => by simp [xfv, xtag, u2, xv]) (fun _ _ => rfl) (fun i h => u2_row I k x h) (fun _ _ => rfl) (fun _ _ => rfl) (fun i h => by simp [u2, h]) (fun _ _ => rfl) kk
theorem x_putJ {idx ci k a n : Nat} {x : Int64} (C0 : XC G own cc ret) (hF : xFL own idx ci k .long false) (hs : S[a]? = some (ci, n)) (hg : (xft ci)[k]? = some (xtag .long)) (hd : decode cc pc = .ok (.putfield idx, 3)) (kk : XX G cells slots (pc + 3) L st S R I (u2 J a k x)) : XX G cells slots pc L (.long x :: .ref a :: st) S R I J :=
  x_put C0 hF hs hg hd (fun _ => rfl) (fun _ => rfl) (fun _ => by simp [xfv, xtag, u2, xv]) (fun _ _ => rfl) (fun _ _ => rfl) (fun i h => u2_row J k x h) (fun _ _ => rfl) (fun _ _ => rfl) (fun i h => by simp [u2, h]) kk
theorem x_putQ {nm : String} {idx ci k a n : Nat} {r : Option Nat} (C0 : XC G own cc ret) (hF : xFL own idx ci k (.object nm) false) (hs : S[a]? = some (ci, n)) (hg : (xft ci)[k]? = some 3) (hd : decode cc pc = .ok (.putfield idx, 3)) (kk : XX G cells slots (pc + 3) L st S (u2 R a k r) I J) : XX G cells slots pc L (va_rf r :: .ref a :: st) S R I J :=
  x_put C0 hF hs hg hd (fun ad => by cases r <;> rfl) (fun ad => by cases r <;> rfl) (fun ad => by simp [xfv, xtag, u2, xv_rf]) (fun i h => u2_row R k r h) (fun _ _ => rfl) (fun _ _ => rfl) (fun i h => by simp [u2, h]) (fun _ _ => rfl) (fun _ _ => rfl) kk
/-- a final field, in a constructor -/
theorem x_putF {ty : FieldType} {idx ci k a n r : Nat} (C0 : XC G own cc ret) (hin : xIn G "<init>") (hF : xFF own idx ci k ty) (hs : S[a]? = some (ci, n)) (hg : (xft ci)[k]? = some 3) (ht : (∃ nm, ty = .object nm) ∨ ∃ t, ty = .array t) (hd : decode cc pc = .ok (.putfield idx, 3)) (kk : XX G cells slots (pc + 3) L st S (u2 R a k (some r)) I J) : XX G cells slots pc L (.ref r :: .ref a :: st) S R I J := by
  obtain ⟨p, l, e, Rm, s, m, args, below, meth, c, D, cs, ad, b, nL, Q⟩ := G
  intro H locs ls hn hl hP hS
  obtain ⟨C, T, N, ⟨h11, hcl, hinT, ⟨ty0, hty⟩, hnm⟩, hk, hlink, hpd, hfin, hdecl⟩ := hF
  have he := xW_get (ad := ad) (cs := cs) (R := R) (I := I) (J := J) hs
  rw [xcell_obj h11] at he
  have hD := xW_D (cs := cs) (S := S) (R := R) (I := I) (J := J) hn C0.2.2.2.2.2.2.2.2.2.1
  have hv : xfv ad (u2 R a k (some r) a) (I a) (J a) 3 k = .ref (ad r) := by simp [xfv, u2, va_rf]
  have hset : (xW ad cs S R I J).set a (ad a, .inr (ci, (xfields ad (R a) (I a) (J a) ci).set k (.ref (ad r)))) = xW ad cs S (u2 R a k (some r)) I J := by
    rw [← xW_set (R' := u2 R a k (some r)) (I' := I) (J' := J) hs (fun i h => u2_row R k _ h) (fun _ _ => rfl) (fun _ _ => rfl), xcell_obj h11, ← hv, xfields_set hg (fun i h => by simp [u2, h]) (fun _ _ => rfl) (fun _ _ => rfl)]
  refine va_putF (v := .ref (ad r)) C0.1 C0.2.1 C0.2.2.2.2.1 hinT ty0 hty hnm C0.2.2.2.1 C0.2.2.2.2.2.1 hP hD hS a he hcl k hk (C0.2.2.2.2.1 _ hlink) (fun _ h => h) hfin hin hdecl hpd ?_ ?_ (xfields_len hg) hd (fun H1 locs1 hP1 _ hS1 => kk H1 locs1 ls hn hl (by rw [hset] at hP1; exact hP1) hS1)
  · rcases ht with ⟨nm, rfl⟩ | ⟨t, rfl⟩ <;> rfl
  · rcases ht with ⟨nm, rfl⟩ | ⟨t, rfl⟩ <;> rfl
theorem x_iaload {a n : Nat} {i : Int32} (C0 : XC G own cc ret) (hs : S[a]? = some (11, n)) (hi : vp_in i n) (hd : decode cc pc = .ok (.iaload, 1)) (kk : XX G cells slots (pc + 1) L (.int (I a i.toNatClampNeg) :: st) S R I J) : XX G cells slots pc L (.int i :: .ref a :: st) S R I J := by
  obtain ⟨p, l, e, Rm, s, m, args, below, meth, c, D, cs, ad, b, nL, Q⟩ := G
  intro H locs ls hn hl hP hS
  have he := xW_get (ad := ad) (cs := cs) (R := R) (I := I) (J := J) hs
  rw [xcell_ints (by decide)] at he
  exact va_iald C0.1 C0.2.1 C0.2.2.2.2.2.1 hP a 0 he rfl hi hd (kk H locs ls hn hl hP hS)
theorem x_caload {a n : Nat} {i : Int32} (C0 : XC G own cc ret) (hs : S[a]? = some (13, n)) (hi : vp_in i n) (hd : decode cc pc = .ok (.caload, 1)) (kk : XX G cells slots (pc + 1) L (.int (I a i.toNatClampNeg) :: st) S R I J) : XX G cells slots pc L (.int i :: .ref a :: st) S R I J := by
  obtain ⟨p, l, e, Rm, s, m, args, below, meth, c, D, cs, ad, b, nL, Q⟩ := G
  intro H locs ls hn hl hP hS
  have he := xW_get (ad := ad) (cs := cs) (R := R) (I := I) (J := J) hs
  rw [xcell_ints (by decide)] at he
  exact va_cald C0.1 C0.2.1 C0.2.2.2.2.2.1 hP a 2 he rfl hi hd (kk H locs ls hn hl hP hS)
theorem x_baload {a n : Nat} {i : Int32} (C0 : XC G own cc ret) (hs : S[a]? = some (14, n)) (hi : vp_in i n) (hd : decode cc pc = .ok (.baload, 1)) (kk : XX G cells slots (pc + 1) L (.int (I a i.toNatClampNeg) :: st) S R I J) : XX G cells slots pc L (.int i :: .ref a :: st) S R I J := by
  obtain ⟨p, l, e, Rm, s, m, args, below, meth, c, D, cs, ad, b, nL, Q⟩ := G
  intro H locs ls hn hl hP hS
  have he := xW_get (ad := ad) (cs := cs) (R := R) (I := I) (J := J) hs
  rw [xcell_ints (by decide)] at he
  exact va_zald C0.1 C0.2.1 C0.2.2.2.2.2.1 hP a 3 he rfl hi hd (kk H locs ls hn hl hP hS)
theorem x_laload {a n : Nat} {i : Int32} (C0 : XC G own cc ret) (hs : S[a]? = some (12, n)) (hi : vp_in i n) (hd : decode cc pc = .ok (.laload, 1)) (kk : XX G cells slots (pc + 1) L (.long (J a i.toNatClampNeg) :: st) S R I J) : XX G cells slots pc L (.int i :: .ref a :: st) S R I J := by
  obtain ⟨p, l, e, Rm, s, m, args, below, meth, c, D, cs, ad, b, nL, Q⟩ := G
  intro H locs ls hn hl hP hS
  have he := xW_get (ad := ad) (cs := cs) (R := R) (I := I) (J := J) hs
  rw [xcell_longs] at he
  exact va_lald C0.1 C0.2.1 C0.2.2.2.2.2.1 hP a 1 he rfl hi hd (kk H locs ls hn hl hP hS)
theorem x_aaloadH {a n : Nat} {i : Int32} (C0 : XC G own cc ret) (hs : S[a]? = some (15, n)) (hi : vp_in i n) {r : Option Nat} (hr : R a i.toNatClampNeg = r) (hd : decode cc pc = .ok (.aaload, 1)) (kk : XX G cells slots (pc + 1) L (va_rf r :: st) S R I J) : XX G cells slots pc L (.int i :: .ref a :: st) S R I J := by
  obtain ⟨p, l, e, Rm, s, m, args, below, meth, c, D, cs, ad, b, nL, Q⟩ := G
  intro H locs ls hn hl hP hS
  subst hr
  have he := xW_get (ad := ad) (cs := cs) (R := R) (I := I) (J := J) hs
  rw [xcell_refs (by decide)] at he
  refine va_aldq C0.1 C0.2.1 C0.2.2.2.2.2.1 hP a 4 he rfl hi hd ?_
  rw [← xv_rf]
  exact kk H locs ls hn hl hP hS
theorem x_aaloadM {a n : Nat} {i : Int32} (C0 : XC G own cc ret) (hs : S[a]? = some (16, n)) (hi : vp_in i n) {r : Option Nat} (hr : R a i.toNatClampNeg = r) (hd : decode cc pc = .ok (.aaload, 1)) (kk : XX G cells slots (pc + 1) L (va_rf r :: st) S R I J) : XX G cells slots pc L (.int i :: .ref a :: st) S R I J := by
  obtain ⟨p, l, e, Rm, s, m, args, below, meth, c, D, cs, ad, b, nL, Q⟩ := G
  intro H locs ls hn hl hP hS
  subst hr
  have he := xW_get (ad := ad) (cs := cs) (R := R) (I := I) (J := J) hs
  rw [xcell_refs (by decide)] at he
  refine va_aldq C0.1 C0.2.1 C0.2.2.2.2.2.1 hP a 5 he rfl hi hd ?_
  rw [← xv_rf]
  exact kk H locs ls hn hl hP hS
theorem x_iastore {a n : Nat} {i x : Int32} (C0 : XC G own cc ret) (hs : S[a]? = some (11, n)) (hi : vp_in i n) (hd : decode cc pc = .ok (.iastore, 1)) (kk : XX G cells slots (pc + 1) L st S R (u2 I a i.toNatClampNeg x) J) : XX G cells slots pc L (.int x :: .int i :: .ref a :: st) S R I J := by
  obtain ⟨p, l, e, Rm, s, m, args, below, meth, c, D, cs, ad, b, nL, Q⟩ := G
  intro H locs ls hn hl hP hS
  have he := xW_get (ad := ad) (cs := cs) (R := R) (I := I) (J := J) hs
  rw [xcell_ints (by decide)] at he
  have hD := xW_D (cs := cs) (S := S) (R := R) (I := I) (J := J) hn C0.2.2.2.2.2.2.2.2.2.1
  have hset := xW_set (ad := ad) (cs := cs) (R := R) (J := J) (R' := R) (I' := u2 I a i.toNatClampNeg x) (J' := J) hs (fun _ _ => rfl) (fun j h => u2_row I _ _ h) (fun _ _ => rfl)
  rw [xcell_ints (by decide)] at hset
  have hu : u2 I a i.toNatClampNeg x a = upd (I a) i.toNatClampNeg x := by funext j; simp [u2, upd]
  rw [hu] at hset
  exact va_iast C0.1 C0.2.1 C0.2.2.2.2.2.1 hP hD hS a 0 he rfl hi hd (fun H1 locs1 hP1 _ hS1 => kk H1 locs1 ls hn hl (by rw [hset] at hP1; exact hP1) hS1)
theorem x_castore {a n : Nat} {i x : Int32} (C0 : XC G own cc ret) (hs : S[a]? = some (13, n)) (hi : vp_in i n) (hd : decode cc pc = .ok (.castore, 1)) (kk : XX G cells slots (pc + 1) L st S R (u2 I a i.toNatClampNeg (vp_nar .char x)) J) : XX G cells slots pc L (.int x :: .int i :: .ref a :: st) S R I J := by
  obtain ⟨p, l, e, Rm, s, m, args, below, meth, c, D, cs, ad, b, nL, Q⟩ := G
  intro H locs ls hn hl hP hS
  have he := xW_get (ad := ad) (cs := cs) (R := R) (I := I) (J := J) hs
  rw [xcell_ints (by decide)] at he
  have hD := xW_D (cs := cs) (S := S) (R := R) (I := I) (J := J) hn C0.2.2.2.2.2.2.2.2.2.1
  have hset := xW_set (ad := ad) (cs := cs) (R := R) (J := J) (R' := R) (I' := u2 I a i.toNatClampNeg (vp_nar .char x)) (J' := J) hs (fun _ _ => rfl) (fun j h => u2_row I _ _ h) (fun _ _ => rfl)
  rw [xcell_ints (by decide)] at hset
  have hu : u2 I a i.toNatClampNeg (vp_nar .char x) a = upd (I a) i.toNatClampNeg (vp_nar .char x) := by funext j; simp [u2, upd]
  rw [hu] at hset
  exact va_cast C0.1 C0.2.1 C0.2.2.2.2.2.1 hP hD hS a 2 he rfl hi hd (fun H1 locs1 hP1 _ hS1 => kk H1 locs1 ls hn hl (by rw [hset] at hP1; exact hP1) hS1)
theorem x_bastore {a n : Nat} {i x : Int32} (C0 : XC G own cc ret) (hs : S[a]? = some (14, n)) (hi : vp_in i n) (hd : decode cc pc = .ok (.bastore, 1)) (kk : XX G cells slots (pc + 1) L st S R (u2 I a i.toNatClampNeg (vp_nar .boolean x)) J) : XX G cells slots pc L (.int x :: .int i :: .ref a :: st) S R I J := by
  obtain ⟨p, l, e, Rm, s, m, args, below, meth, c, D, cs, ad, b, nL, Q⟩ := G
  intro H locs ls hn hl hP hS
  have he := xW_get (ad := ad) (cs := cs) (R := R) (I := I) (J := J) hs
  rw [xcell_ints (by decide)] at he
  have hD := xW_D (cs := cs) (S := S) (R := R) (I := I) (J := J) hn C0.2.2.2.2.2.2.2.2.2.1
  have hset := xW_set (ad := ad) (cs := cs) (R := R) (J := J) (R' := R) (I' := u2 I a i.toNatClampNeg (vp_nar .boolean x)) (J' := J) hs (fun _ _ => rfl) (fun j h => u2_row I _ _ h) (fun _ _ => rfl)
  rw [xcell_ints (by decide)] at hset
  have hu : u2 I a i.toNatClampNeg (vp_nar .boolean x) a = upd (I a) i.toNatClampNeg (vp_nar .boolean x) := by funext j; simp [u2, upd]
  rw [hu] at hset
  exact va_zast C0.1 C0.2.1 C0.2.2.2.2.2.1 hP hD hS a 3 he rfl hi hd (fun H1 locs1 hP1 _ hS1 => kk H1 locs1 ls hn hl (by rw [hset] at hP1; exact hP1) hS1)
theorem x_lastore {a n : Nat} {i : Int32} {x : Int64} (C0 : XC G own cc ret) (hs : S[a]? = some (12, n)) (hi : vp_in i n) (hd : decode cc pc = .ok (.lastore, 1)) (kk : XX G cells slots (pc + 1) L st S R I (u2 J a i.toNatClampNeg x)) : XX G cells slots pc L (.long x :: .int i :: .ref a :: st) S R I J := by
  obtain ⟨p, l, e, Rm, s, m, args, below, meth, c, D, cs, ad, b, nL, Q⟩ := G
  intro H locs ls hn hl hP hS
  have he := xW_get (ad := ad) (cs := cs) (R := R) (I := I) (J := J) hs
  rw [xcell_longs] at he
  have hD := xW_D (cs := cs) (S := S) (R := R) (I := I) (J := J) hn C0.2.2.2.2.2.2.2.2.2.1
  have hset := xW_set (ad := ad) (cs := cs) (R := R) (I := I) (R' := R) (I' := I) (J' := u2 J a i.toNatClampNeg x) hs (fun _ _ => rfl) (fun _ _ => rfl) (fun j h => u2_row J _ _ h)
  rw [xcell_longs] at hset
  have hu : u2 J a i.toNatClampNeg x a = vp_updL (J a) i.toNatClampNeg x := by funext j; simp [u2, vp_updL]
  rw [hu] at hset
  exact va_last C0.1 C0.2.1 C0.2.2.2.2.2.1 hP hD hS a 1 he rfl hi hd (fun H1 locs1 hP1 _ hS1 => kk H1 locs1 ls hn hl (by rw [hset] at hP1; exact hP1) hS1)
theorem x_alen {a kd n : Nat} (C0 : XC G own cc ret) (hs : S[a]? = some (kd, n)) (hk : 11 ≤ kd) (hk2 : kd ≤ 16) {v : Int32} (hv : Int32.ofNat n = v) (hd : decode cc pc = .ok (.arraylength, 1)) (kk : XX G cells slots (pc + 1) L (.int v :: st) S R I J) : XX G cells slots pc L (.ref a :: st) S R I J := by
  obtain ⟨p, l, e, Rm, s, m, args, below, meth, c, D, cs, ad, b, nL, Q⟩ := G
  intro H locs ls hn hl hP hS
  have he := xW_get (ad := ad) (cs := cs) (R := R) (I := I) (J := J) hs
  obtain ⟨x, hx, h1⟩ : ∃ x : vp_A, xcell ad cs (R a) (I a) (J a) kd n = .inl (cs kd, x) ∧ x.1 = n := by
    rcases (show kd = 11 ∨ kd = 12 ∨ kd = 13 ∨ kd = 14 ∨ kd = 15 ∨ kd = 16 by omega) with h | h | h | h | h | h
    · exact ⟨_, xcell_ints (Or.inl h), rfl⟩
    · subst h; exact ⟨_, xcell_longs, rfl⟩
    · exact ⟨_, xcell_ints (Or.inr (Or.inl h)), rfl⟩
    · exact ⟨_, xcell_ints (Or.inr (Or.inr h)), rfl⟩
    · exact ⟨_, xcell_refs (Or.inl h), rfl⟩
    · exact ⟨_, xcell_refs (Or.inr h), rfl⟩
  rw [hx] at he
  have hk3 := kk H locs ls hn hl hP hS
  rcases (show kd = 11 ∨ kd = 12 ∨ kd = 13 ∨ kd = 14 ∨ kd = 15 ∨ kd = 16 by omega) with rfl | rfl | rfl | rfl | rfl | rfl
  · exact va_alen C0.1 C0.2.1 C0.2.2.2.2.2.1 hP a 0 he (ty := .int) rfl (by rw [h1]; exact hv) hd hk3
  · exact va_alen C0.1 C0.2.1 C0.2.2.2.2.2.1 hP a 1 he (ty := .long) rfl (by rw [h1]; exact hv) hd hk3
  · exact va_alen C0.1 C0.2.1 C0.2.2.2.2.2.1 hP a 2 he (ty := .char) rfl (by rw [h1]; exact hv) hd hk3
  · exact va_alen C0.1 C0.2.1 C0.2.2.2.2.2.1 hP a 3 he (ty := .boolean) rfl (by rw [h1]; exact hv) hd hk3
  · exact va_alen C0.1 C0.2.1 C0.2.2.2.2.2.1 hP a 4 he (ty := .object "FilmFoot$Hall") rfl (by rw [h1]; exact hv) hd hk3
  · exact va_alen C0.1 C0.2.1 C0.2.2.2.2.2.1 hP a 5 he (ty := .object "FilmFoot$Mark") rfl (by rw [h1]; exact hv) hd hk3
theorem x_ldc2 {idx : Nat} {v : Int64} (C0 : XC G own cc ret) (hw : Cond.constantLong own idx v ∈ xT) (hd : decode cc pc = .ok (.ldc2_w idx, 3)) (kk : XX G cells slots (pc + 3) L (.long v :: st) S R I J) : XX G cells slots pc L st S R I J := by
  obtain ⟨p, l, e, Rm, s, m, args, below, meth, c, D, cs, ad, b, nL, Q⟩ := G
  intro H locs ls hn hl hP hS
  exact lv_ldc2 C0.1 C0.2.1 C0.2.2.2.1 (C0.2.2.2.2.1 _ hw) hd (kk H locs ls hn hl hP hS)
theorem x_ldc {idx : Nat} {v : Int32} (C0 : XC G own cc ret) (hw : Cond.constant own idx v ∈ xT) (hd : decode cc pc = .ok (.ldc idx, 2)) (kk : XX G cells slots (pc + 2) L (.int v :: st) S R I J) : XX G cells slots pc L st S R I J := by
  obtain ⟨p, l, e, Rm, s, m, args, below, meth, c, D, cs, ad, b, nL, Q⟩ := G
  intro H locs ls hn hl hP hS
  exact lv_ldc C0.1 C0.2.1 C0.2.2.2.1 (C0.2.2.2.2.1 _ hw) hd (kk H locs ls hn hl hP hS)
/-- a WORD's constant -/
theorem x_word {idx : Nat} (i : Nat) (C0 : XC G own cc ret) (hi : i < 26) (hw : Cond.fieldLink own idx xWc (xWnm.getD i "") xWd ∈ xT) (hd : decode cc pc = .ok (.getstatic idx, 3)) (kk : XX G cells slots (pc + 3) L (.ref (10000 + i) :: st) S R I J) : XX G cells slots pc L st S R I J := by
  obtain ⟨p, l, e, Rm, s, m, args, below, meth, c, D, cs, ad, b, nL, Q⟩ := G
  intro H locs ls hn hl hP hS
  have hZ := (C0.2.2.2.2.2.2.2.2.2.2.2.1.1 i hi).1
  exact va_gets C0.1 C0.2.1 hZ hS C0.2.2.2.1 (C0.2.2.2.2.1 _ hw) (fun _ h => h) hd (kk H locs ls hn hl hP hS)
theorem x_iret {post : Option Value → xTS → xTR → xTI → xTJ → Prop} {mc ms : Nat} {x : Int32} (C0 : XC G own cc (some .int)) (E : xEnd G post mc ms) (hc : cells ≤ mc) (hk : slots ≤ ms) (hd : decode cc pc = .ok (.ireturn, 1)) (hp : post (some (.int x)) S R I J) : XX G cells slots pc L [.int x] S R I J := by
  obtain ⟨p, l, e, Rm, s, m, args, below, meth, c, D, cs, ad, b, nL, Q⟩ := G
  intro H locs ls hn hl hP hS
  cases E
  refine W.widen hc hk ?_
  exact W.iret (v := x) C0.1 C0.2.1 C0.2.2.2.2.2.2.2.1 (fun t ht hW => ⟨⟨(some (.int x)), S, R, I, J, rfl, hp, by rw [ht]; exact hP, hn⟩, hS.F ht⟩) hS.2.2 hd C0.2.2.2.2.2.2.1
theorem x_lret {post : Option Value → xTS → xTR → xTI → xTJ → Prop} {mc ms : Nat} {x : Int64} (C0 : XC G own cc (some .long)) (E : xEnd G post mc ms) (hc : cells ≤ mc) (hk : slots ≤ ms) (hd : decode cc pc = .ok (.lreturn, 1)) (hp : post (some (.long x)) S R I J) : XX G cells slots pc L [.long x] S R I J := by
  obtain ⟨p, l, e, Rm, s, m, args, below, meth, c, D, cs, ad, b, nL, Q⟩ := G
  intro H locs ls hn hl hP hS
  cases E
  refine W.widen hc hk ?_
  exact W.lret (v := x) C0.1 C0.2.1 C0.2.2.2.2.2.2.2.1 (fun t ht hW => ⟨⟨(some (.long x)), S, R, I, J, rfl, hp, by rw [ht]; exact hP, hn⟩, hS.F ht⟩) hS.2.2 hd C0.2.2.2.2.2.2.1
theorem x_zret {post : Option Value → xTS → xTR → xTI → xTJ → Prop} {mc ms : Nat} {ty : FieldType} {x : Int32} (C0 : XC G own cc (some ty)) (E : xEnd G post mc ms) (hc : cells ≤ mc) (hk : slots ≤ ms) (hx : narrow ty (.int x) = .int x) (hd : decode cc pc = .ok (.ireturn, 1)) (hp : post (some (.int x)) S R I J) : XX G cells slots pc L [.int x] S R I J := by
  obtain ⟨p, l, e, Rm, s, m, args, below, meth, c, D, cs, ad, b, nL, Q⟩ := G
  intro H locs ls hn hl hP hS
  cases E
  refine W.widen hc hk ?_
  exact W.zret (v := x) C0.1 C0.2.1 C0.2.2.2.2.2.2.2.1 hx (fun t ht hW => ⟨⟨some (.int x), S, R, I, J, rfl, hp, by rw [ht]; exact hP, hn⟩, hS.F ht⟩) hS.2.2 hd C0.2.2.2.2.2.2.1
theorem x_vret {post : Option Value → xTS → xTR → xTI → xTJ → Prop} {mc ms : Nat} (C0 : XC G own cc none) (E : xEnd G post mc ms) (hc : cells ≤ mc) (hk : slots ≤ ms) (hd : decode cc pc = .ok (.return_, 1)) (hp : post none S R I J) : XX G cells slots pc L [] S R I J := by
  obtain ⟨p, l, e, Rm, s, m, args, below, meth, c, D, cs, ad, b, nL, Q⟩ := G
  intro H locs ls hn hl hP hS
  cases E
  refine W.widen hc hk ?_
  exact W.vret C0.1 C0.2.1 C0.2.2.2.2.2.2.2.1 (fun t ht hW => ⟨⟨none, S, R, I, J, rfl, hp, by rw [ht]; exact hP, hn⟩, hS.F ht⟩) hS.2.2 hd C0.2.2.2.2.2.2.1
theorem x_aret {post : Option Value → xTS → xTR → xTI → xTJ → Prop} {mc ms : Nat} {nm : String} {r : Option Nat} (C0 : XC G own cc (some (.object nm))) (E : xEnd G post mc ms) (hc : cells ≤ mc) (hk : slots ≤ ms) (hd : decode cc pc = .ok (.areturn, 1)) (hp : post (some (va_rf r)) S R I J) : XX G cells slots pc L [va_rf r] S R I J := by
  obtain ⟨p, l, e, Rm, s, m, args, below, meth, c, D, cs, ad, b, nL, Q⟩ := G
  intro H locs ls hn hl hP hS
  cases E
  refine W.widen hc hk ?_
  exact W.aret (v := xv ad (va_rf r)) (Qc := xQc D cs ad b post) C0.1 C0.2.1 C0.2.2.2.2.2.2.2.1 (Or.inl ⟨_, rfl⟩) (by rw [xv_rf]; exact va_rf_or _) (fun t ht hW => ⟨⟨some (va_rf r), S, R, I, J, rfl, hp, by rw [ht]; exact hP, hn⟩, hS.F ht⟩) hS.2.2 hd C0.2.2.2.2.2.2.1
end XRM
