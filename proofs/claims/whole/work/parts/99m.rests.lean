/-! THE LAW'S OWN RESTS: it catches -/
def xFl (G : xG) : Prop := match G with
  | (p, l, e, Rm, s, m, args, below, meth, c, D, cs, ad, b, nL, Q) => l.stackTraces = false ∧ xEx b s
def xCatch (G : xG) (cells slots pc : Nat) (L : List (Option Value)) (rest : List Value) (S : xTS) (R : xTR) (I : xTI) (J : xTJ) : Prop := match G with
  | (p, l, e, Rm, s, m, args, below, meth, c, D, cs, ad, b, nL, Q) => ∀ (H : Heap) (locs : List Loc) (ls : Array Slot) (q : Addr) (ce : Cell), S.length ≤ 10000 → xhas ad ls nL L → va_P D vwCl (xW ad cs S R I J) H → va_S (fun q => b ≤ q) s.heap H locs → H[q]? = some ce → ce.vm = .none → s.vm.findClass xNse = some ce.cls → vx_W p l e Rm s m args below meth c H locs cells slots Q (F0 m pc ls (rest.map (xv ad))) q
section XRX
variable {G : xG} {own : String} {cc : ByteArray} {ret : Option FieldType} {cells slots pc : Nat} {L : List (Option Value)} {st : List Value} {S : xTS} {R : xTR} {I : xTI} {J : xTJ}
theorem x_catsum (ad : Nat → Nat) {rest : List Value} (hcat : (rest.map fun v => v.category).sum ≤ 8) : ((rest.map (xv ad)).map fun v => v.category).sum ≤ 8 := by
  rw [List.map_map]
  have : (fun v => Value.category v) ∘ xv ad = fun v => Value.category v := by funext v; exact xv_cat ad v
  rw [this]
  exact hcat
theorem x_callVX {y : MethodName} {bytes : ByteArray} {maxL idx d n a ci nf : Nat} {rt : Option FieldType} {rest : List Value} {hh : List (Nat × Nat × Nat × Nat)} {px : Prop} (As : List Value) (C0 : XC G own cc ret) (hrm : xRf G d (cells + 1) (slots + 6)) (hT : xThr G hh) (hy : xVir y bytes maxL rt n ci) (hlk : Cond.methodLink own idx y ∈ xT) (hd : decode cc pc = .ok (.invokevirtual idx, 3))
    (hs : S[a]? = some (ci, nf)) (hst : st = As.reverse ++ .ref a :: rest) (hlen : As.length = n) (hcat : (rest.map fun v => v.category).sum ≤ 8)
    (hsp : vSpec d y bytes maxL rt (.ref a :: As) S R I J (fun r S' R' I' J' => XX G (cells + 1) (slots + 6) (pc + 3) L (r.toList ++ rest) S' R' I' J') px) (kx : px → xCatch G (cells + 1) (slots + 6) pc L rest S R I J) : XX G cells slots pc L st S R I J := by
  obtain ⟨p, l, e, Rm, s, m, args, below, meth, c, D, cs, ad, b, nL, Q⟩ := G
  intro H locs ls hn hl hP hS T hT0 X
  subst hst
  obtain ⟨hm, hin, hsel, hci, C, Tc, N, hcl, hC⟩ := hy
  have he := xW_get (ad := ad) (cs := cs) (R := R) (I := I) (J := J) hs
  rw [xcell_obj hci] at he
  have hM := hsp l D cs ad b hT.1
  have hR2 : (xrm d 1 6).frames + 1 ≤ Rm.frames ∧ 8 + (maxL + 11) + (xrm d 1 6).locals ≤ Rm.locals := ⟨hrm.1, by have := hrm.2.1; have := hm.2.2.2.2; show 8 + (maxL + 11) + 64 * d ≤ Rm.locals; omega⟩
  have hrec := va_recv C0.2.2.2.2.2.1 hP hcl he
  rw [show (C, Tc, N).1 = y.cls from hC] at hrec
  have hpc := x_pcs (mc := 0) (As := .ref a :: As) C0 hn hP hS (fun h => absurd h (by decide))
  have hr := vx_runV (e := e) (meth := meth) (below := below) (n := n) (As := As.map (xv ad)) (rest := rest.map (xv ad)) (g := F0 m pc ls ((As.reverse ++ .ref a :: rest).map (xv ad))) (locs := locs) (cells := cells) (slots := slots) ⟨C0.1, C0.2.1, C0.2.2.1, C0.2.2.2.1, C0.2.2.2.2.1⟩ hM ⟨callB_of n C0.2.2.2.2.1 (xT_goodIn hm.1) rfl rfl rfl (C0.2.2.2.2.1 _ hm.2.1) (C0.2.2.2.2.1 _ hlk) hm.2.2.1 hR2, C0.2.2.2.2.1 _ hin, C0.2.2.2.2.1 _ hsel⟩ ⟨xPcE_blind, hrec, fun U hU hW => ⟨hpc U hU hW, xEx.of hT.2.1 hS hU hW⟩⟩ rfl (by rw [List.length_map]; exact hlen) hl.2.1 (by simp [xv]) (lv_room (x_catsum ad hcat)) hd hrm.2.2
  rcases hr T hT0 X with ⟨v, st₀, t, T', Lc, h0, X', hL, e1, e2, ⟨⟨r, S', R', I', J', hv, hp, hP', hn'⟩, hz, hk⟩, stp⟩ | ⟨q, st₀, t, T', Lc, E, ce, h0, X', hL, e1, e2, ⟨u, hp, ⟨hE, hP', hn'⟩, hz, hk⟩, hce, hcv, hcl', stp⟩
  · cases hv
    rw [h0] at hz hk
    obtain ⟨t2, a1, b1⟩ := hp T'.heap (locs ++ Lc) ls hn' hl (by rw [e1]; exact hP')
      ⟨Nat.le_trans hS.1 (by rw [e1]; exact hz), fun q h1 h2 => by rw [e1, hk q (Nat.lt_of_lt_of_le h1 hS.1) h2]; exact hS.2.1 q h1 h2, fun q hq => by
        rcases List.mem_append.mp hq with h | h
        · exact hS.2.2 q h
        · exact hL q h⟩ T' rfl X'
    refine ⟨t2, stp t2 ?_, b1⟩
    have hst : ((r.map (xv ad)).toList ++ rest.map (xv ad)) = (r.toList ++ rest).map (xv ad) := by cases r <;> rfl
    rw [hst]
    exact a1
  · rw [h0] at hz hk
    obtain ⟨t2, a1, b1⟩ := kx hp T'.heap (locs ++ Lc) ls q ce hn' hl (by rw [e1]; exact hP')
      ⟨Nat.le_trans hS.1 (by rw [e1]; exact hz), fun q h1 h2 => by rw [e1, hk q (Nat.lt_of_lt_of_le h1 hS.1) h2]; exact hS.2.1 q h1 h2, fun q hq => by
        rcases List.mem_append.mp hq with h | h
        · exact hS.2.2 q h
        · exact hL q h⟩ (by rw [e1]; exact hce) hcv (hE ▸ hcl') T' rfl X'
    exact ⟨t2, stp.trans a1, b1⟩
theorem x_catchL {rest : List Value} (C0 : XC G RL cL_rests (some .int)) (hN : xnL G 7) (hT : xThr G [(0, 14, 17, 13)]) (hL6 : ∀ v, L[6]? ≠ some (some v)) (hL5 : ∀ v, L[5]? = some (some v) → v.category = 1) (k : XX G cells slots 19 L [] S R I J) : xCatch G cells slots 9 L rest S R I J := by
  obtain ⟨p, l, e, Rm, s, m, args, below, meth, c, D, cs, ad, b, nL, Q⟩ := G
  intro H locs ls q ce hn hl hP hS hce hcv hcl
  cases hN
  refine vx_catch (pc := 9) (own := RL) (name := xNse) (E := xNse) C0.2.2.2.1 [] ⟨0, 14, 17, 13⟩ [] (by rw [hT.2.2]; rfl) (fun z hz => nomatch hz) (by decide) (by decide) (C0.2.2.2.2.1 _ (xT_in (xt5 145 rfl) rfl)) (vx_ca_warm (a' := args) (State.WarmedH.refl s) hT.2.1.1 _ vx_cac) hce hcv hcl ?_
  refine lv_astore C0.1 C0.2.1 dL_rests_17 (xhas_to hl) (by decide) rfl (fun ls' hl' => ?_)
  refine k H locs ls' hn ⟨hl'.2.1, hl'.1, fun i v h => hl'.2.2 (i, xv ad v) (List.mem_cons_of_mem _ (List.mem_filter.mpr ⟨xhas_mem h, ?_⟩))⟩ hP hS
  rw [xv_cat]
  have h6 : ¬ i = 6 := fun z => hL6 v (z ▸ h)
  by_cases h5 : i = 5
  · have := hL5 v (h5 ▸ h)
    simp [h5, this]
  · have g6 : (i == 6) = false := by simpa using h6
    have g5 : (i + 1 == 6) = false := by
      simp only [beq_eq_false_iff_ne, ne_eq]
      omega
    simp [g6, g5]
/-- the law calls it -/
theorem x_callSW {y : MethodName} {bytes : ByteArray} {maxL idx d n : Nat} {rt : Option FieldType} {rest : List Value} {hh : List (Nat × Nat × Nat × Nat)} (As : List Value) (C0 : XC G own cc ret) (hT : xFl G) (hrm : xRf G d (cells + 1) (slots + 6)) (hm : Cond.codeWith y bytes maxL rt hh ∈ xT) (hmax : maxL ≤ 40) (hi : Cond.initialized y.cls ∈ xT) (hsta : Cond.static y ∈ xT)
    (hy : y.cls ≠ "java/lang/invoke/MethodHandle" ∧ y.cls ≠ "java/lang/invoke/VarHandle" ∧ (parseMethodDescriptor y.desc).map (fun d => d.parameters.length) = some n) (hlk : Cond.methodLink own idx y ∈ xT) (hd : decode cc pc = .ok (.invokestatic idx, 3))
    (hst : st = As.reverse ++ rest) (hlen : As.length = n) (hcat : (rest.map fun v => v.category).sum ≤ 8)
    (hsp : wSpec d y bytes maxL rt hh As S R I J (fun r S' R' I' J' => XX G (cells + 1) (slots + 6) (pc + 3) L (r.toList ++ rest) S' R' I' J')) : XX G cells slots pc L st S R I J := by
  obtain ⟨p, l, e, Rm, s, m, args, below, meth, c, D, cs, ad, b, nL, Q⟩ := G
  intro H locs ls hn hl hP hS
  subst hst
  have hM := hsp l D cs ad b hT.1
  have hR2 : (xrm d 1 6).frames + 1 ≤ Rm.frames ∧ 8 + (maxL + 11) + (xrm d 1 6).locals ≤ Rm.locals := ⟨hrm.1, by have := hrm.2.1; show 8 + (maxL + 11) + 64 * d ≤ Rm.locals; omega⟩
  have hG : GoodIn xT (Cond.codeWith y bytes maxL rt hh :: xT) := fun w hw => by
    rcases List.mem_cons.mp hw with rfl | hw
    · exact ⟨hm, good_of_word (xT_good _ hm)⟩
    · exact ⟨hw, good_of_word (xT_good _ hw)⟩
  have cw : vx_CSW Rm s args own idx y bytes maxL rt hh (Cond.codeWith y bytes maxL rt hh :: xT) (xrm d 1 6) 1 6 n := by
    refine ⟨⟨rfl, rfl, hR2.1, hR2.2, pay_in C0.2.2.2.2.1 hG, List.mem_cons_self⟩, C0.2.2.2.2.1 _ hm, C0.2.2.2.2.1 _ hi, ⟨hy.1, hy.2.1⟩, fun sig h => ?_, C0.2.2.2.2.1 _ hlk, C0.2.2.2.2.1 _ hsta⟩
    have h2 := hy.2.2
    rw [h] at h2
    exact (Option.some.inj h2).symm
  have hpc := x_pcs (mc := 0) (As := As) C0 hn hP hS (fun h => absurd h (by decide))
  exact x_after (mc := 1) (ms := 6) (vx_runSW (n := n) (As := As.map (xv ad)) (rest := rest.map (xv ad)) ⟨C0.1, C0.2.1, C0.2.2.1, C0.2.2.2.1, C0.2.2.2.2.1⟩ hM cw ⟨xPcE_blind, fun U hU hW => ⟨hpc U hU hW, xEx.of hT.2 hS hU hW⟩⟩ rfl (by rw [List.length_map]; exact hlen) hl.2.1 (by simp) (lv_room (x_catsum ad hcat)) hd hrm.2.2) (fun q h => h) hl hS
end XRX
theorem w_L_rests {S : xTS} {R : xTR} {I : xTI} {J : xTJ} {post : xPost} {nf : Nat} {le cu lo wh : Int32} (hk0 : S[0]? = some (9, nf)) (hk155 : S[155]? = some (12, 1)) (hg : rGood le cu lo wh → post (some (.int 0)) S R I (u2 J 155 0 (rAns le cu lo wh).toInt64)) (hb : ¬ rGood le cu lo wh → post (some (.int 1)) S R I J) : wSpec 7 yL_rests cL_rests 7 (some .int) [(0, 14, 17, 13)] [.ref 0, .int le, .int cu, .int lo, .int wh, .ref 155] S R I J post := by
  refine wSpec_of (n := 6) (by decide) (Nat.le_of_ble_eq_true rfl) (fun G C0 hN hR E hT => ?_)
  change XX G 0 0 0 [some (.ref 0), some (.int le), some (.int cu), some (.int lo), some (.int wh), some (.ref 155), none] [] S R I J
  refine x_aload C0 rfl dL_rests_0 ?_
  refine x_iconst (v := nI 0) C0 rfl dL_rests_2 ?_
  refine x_aload_n C0 rfl dL_rests_3 ?_
  refine x_iload_n C0 rfl dL_rests_4 ?_
  refine x_iload_n C0 rfl dL_rests_5 ?_
  refine x_iload_n C0 rfl dL_rests_6 ?_
  refine x_iload C0 rfl dL_rests_7 ?_
  refine x_callVX [_, _, _, _] C0 (xRf_of hR (by decide) (by decide) (by decide)) hT mv_X11_rests (xT_in (xt5 146 rfl) rfl) dL_rests_9 hk0 rfl rfl (Nat.le_of_ble_eq_true rfl) (v_X11_rests (fun h => ?_)) (fun h => ?_)
  · refine x_i2l C0 dL_rests_12 ?_
    refine x_lastoreN C0 hk155 (by decide) (by decide) dL_rests_13 ?_
    refine x_goto (tgt := 21) C0 (by decide) dL_rests_14 ?_
    refine x_iconst (v := 0) C0 rfl dL_rests_21 ?_
    exact x_iret C0 E (by decide) (by decide) dL_rests_22 (hg h)
  · refine x_catchL C0 hN hT (fun v => by simp) (fun v hv => by cases hv; rfl) ?_
    refine x_iconst (v := 1) C0 rfl dL_rests_19 ?_
    exact x_iret C0 E (by decide) (by decide) dL_rests_20 (hb h)
