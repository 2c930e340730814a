/-! THE WORDS AND THE TEXT OF THE SIGNS: rows that read them -/
section XRS
variable {G : xG} {own : String} {cc : ByteArray} {ret : Option FieldType} {cells slots pc : Nat} {L : List (Option Value)} {st : List Value} {S : xTS} {R : xTR} {I : xTI} {J : xTJ}
theorem x_wall {idx : Nat} (C0 : XC G own cc ret) (hw : Cond.fieldLink own idx xWc "ALL" "[LFilmFoot$Word;" ∈ xT) (hd : decode cc pc = .ok (.getstatic idx, 3)) (kk : XX G cells slots (pc + 3) L (.ref 10100 :: st) S R I J) : XX G cells slots pc L st S R I J := by
  obtain ⟨p, l, e, Rm, s, m, args, below, meth, c, D, cs, ad, b, nL, Q⟩ := G
  intro H locs ls hn hl hP hS
  exact va_gets C0.1 C0.2.1 C0.2.2.2.2.2.2.2.2.2.2.2.2.1 hS C0.2.2.2.1 (C0.2.2.2.2.1 _ hw) (fun _ h => h) hd (kk H locs ls hn hl hP hS)
theorem x_wlen (C0 : XC G own cc ret) (hd : decode cc pc = .ok (.arraylength, 1)) (kk : XX G cells slots (pc + 1) L (.int (nI 26) :: st) S R I J) : XX G cells slots pc L (.ref 10100 :: st) S R I J := by
  obtain ⟨p, l, e, Rm, s, m, args, below, meth, c, D, cs, ad, b, nL, Q⟩ := G
  intro H locs ls hn hl hP hS
  exact va_tlen C0.1 C0.2.1 C0.2.2.2.2.2.2.2.2.2.2.2.2.2.1 hS rfl hd (kk H locs ls hn hl hP hS)
theorem x_wat {i : Nat} (C0 : XC G own cc ret) (hi : i < 26) (hd : decode cc pc = .ok (.aaload, 1)) (kk : XX G cells slots (pc + 1) L (.ref (10000 + i) :: st) S R I J) : XX G cells slots pc L (.int (nI i) :: .ref 10100 :: st) S R I J := by
  obtain ⟨p, l, e, Rm, s, m, args, below, meth, c, D, cs, ad, b, nL, Q⟩ := G
  intro H locs ls hn hl hP hS
  exact vb_tq C0.1 C0.2.1 C0.2.2.2.2.2.2.2.2.2.2.2.2.2.1 hS (vp_in_nI hi (by decide)) (by rw [nI_clamp (by omega)]; rfl) hd (kk H locs ls hn hl hP hS)
theorem x_wcode {i idx : Nat} (C0 : XC G own cc ret) (hi : i < 26) (hw : Cond.fieldLink own idx xWc "code" "J" ∈ xT) (hd : decode cc pc = .ok (.getfield idx, 3)) (kk : XX G cells slots (pc + 3) L (.long (xWcode i) :: st) S R I J) : XX G cells slots pc L (.ref (10000 + i) :: st) S R I J := by
  obtain ⟨p, l, e, Rm, s, m, args, below, meth, c, D, cs, ad, b, nL, Q⟩ := G
  intro H locs ls hn hl hP hS
  exact va_getX (N := 26) (v := fun i => .long (xWcode i)) (ad := fun i => ad (10000 + i)) (i := i) C0.1 C0.2.1 C0.2.2.2.2.2.2.2.2.2.2.2.2.2.2.1 hi hS C0.2.2.2.1 (C0.2.2.2.2.1 _ hw) (fun _ h => h) hd (kk H locs ls hn hl hP hS)
theorem x_wkept {i idx : Nat} {host : String} (C0 : XC G own cc ret) (hi : i < 26) (hw : Cond.fieldLinkNest own idx xWc "kept" "Z" host ∈ xN) (hd : decode cc pc = .ok (.getfield idx, 3)) (kk : XX G cells slots (pc + 3) L (.int (xWkept i) :: st) S R I J) : XX G cells slots pc L (.ref (10000 + i) :: st) S R I J := by
  obtain ⟨p, l, e, Rm, s, m, args, below, meth, c, D, cs, ad, b, nL, Q⟩ := G
  intro H locs ls hn hl hP hS
  obtain ⟨cf, k, fi, f, cell, h1, h2, h3, h4, h5, h6⟩ := (C0.2.2.2.2.2.2.2.2.2.2.2.2.2.2.2.1 i hi).kept hS.2.1
  exact va_Wgetf C0.1 C0.2.1 C0.2.2.2.1 (va_Nw.use rfl (C0.2.2.2.2.2.2.2.2.2.2.1 _ hw)) h1 h2 h3 h4 (v := .int (xWkept i)) h5 rfl rfl hd (kk H locs ls hn hl hP hS)
theorem x_ldcS {idx : Nat} (C0 : XC G own cc ret) (ho : own = "FilmFoot$Tape" ∧ idx = 57) (hd : decode cc pc = .ok (.ldc idx, 2)) (kk : XX G cells slots (pc + 2) L (.ref 10200 :: st) S R I J) : XX G cells slots pc L st S R I J := by
  obtain ⟨p, l, e, Rm, s, m, args, below, meth, c, D, cs, ad, b, nL, Q⟩ := G
  intro H locs ls hn hl hP hS
  obtain ⟨rfl, rfl⟩ := ho
  exact va_ldcS C0.1 C0.2.1 C0.2.2.2.1 C0.2.2.2.2.2.2.2.2.2.2.2.2.2.2.2.2.2.1 hd (kk H locs ls hn hl hP hS)
theorem x_acmpW {rx : Option Nat} {j : Nat} {off : Int} {tgt : Nat} (C0 : XC G own cc ret) (hr : rx = none ∨ ∃ i, i < 26 ∧ rx = some (10000 + i)) (hj : j < 26) (ht : (pc : Int) + off = (tgt : Int)) (hd : decode cc pc = .ok (.if_acmp .ne off, 3)) (kt : ¬ rx = some (10000 + j) → XX G cells slots tgt L st S R I J) (kf : rx = some (10000 + j) → XX G cells slots (pc + 3) L st S R I J) : XX G cells slots pc L (.ref (10000 + j) :: va_rf rx :: st) S R I J := by
  obtain ⟨p, l, e, Rm, s, m, args, below, meth, c, D, cs, ad, b, nL, Q⟩ := G
  intro H locs ls hn hl hP hS
  have h0 : (Value.ref (10000 + j) :: va_rf rx :: st).map (xv ad) = va_rf (some (ad (10000 + j))) :: va_rf (rx.map ad) :: st.map (xv ad) := by
    rw [List.map_cons, List.map_cons, xv_rf]; rfl
  have hq : rx.map ad = some (ad (10000 + j)) ↔ rx = some (10000 + j) := by
    rcases hr with rfl | ⟨i, hi, rfl⟩
    · simp
    · constructor
      · intro h
        have h2 := C0.2.2.2.2.2.2.2.2.2.2.2.1.2 i j hi hj (Option.some.inj h)
        rw [h2]
      · intro h
        rw [Option.some.inj h]; rfl
  rw [h0]
  exact lv_acmp_ne C0.1 C0.2.1 hd ht (fun h => kt (fun z => h (hq.mpr z)) H locs ls hn hl hP hS) (fun h => kf (hq.mp h) H locs ls hn hl hP hS)
theorem x_tcoder {idx : Nat} (C0 : XC G own cc ret) (hw : Cond.fieldLink own idx "java/lang/String" "coder" "B" ∈ xT) (hd : decode cc pc = .ok (.getfield idx, 3)) (kk : XX G cells slots (pc + 3) L (.int 0 :: st) S R I J) : XX G cells slots pc L (.ref 10200 :: st) S R I J := by
  obtain ⟨p, l, e, Rm, s, m, args, below, meth, c, D, cs, ad, b, nL, Q⟩ := G
  intro H locs ls hn hl hP hS
  exact vk_getf C0.1 C0.2.1 (C0.2.2.2.2.2.2.2.2.2.2.2.2.2.2.2.2.1.1 0 (by decide)).2.1 hS C0.2.2.2.1 (C0.2.2.2.2.1 _ hw) (fun _ h => h) hd (kk H locs ls hn hl hP hS)
theorem x_tvalue {idx : Nat} (C0 : XC G own cc ret) (hw : Cond.fieldLink own idx "java/lang/String" "value" "[B" ∈ xT) (hd : decode cc pc = .ok (.getfield idx, 3)) (kk : XX G cells slots (pc + 3) L (.ref 10201 :: st) S R I J) : XX G cells slots pc L (.ref 10200 :: st) S R I J := by
  obtain ⟨p, l, e, Rm, s, m, args, below, meth, c, D, cs, ad, b, nL, Q⟩ := G
  intro H locs ls hn hl hP hS
  exact vk_getf C0.1 C0.2.1 (C0.2.2.2.2.2.2.2.2.2.2.2.2.2.2.2.2.1.1 0 (by decide)).2.2.1 hS C0.2.2.2.1 (C0.2.2.2.2.1 _ hw) (fun _ h => h) hd (kk H locs ls hn hl hP hS)
theorem x_tlen (C0 : XC G own cc ret) (hd : decode cc pc = .ok (.arraylength, 1)) (kk : XX G cells slots (pc + 1) L (.int (nI 8) :: st) S R I J) : XX G cells slots pc L (.ref 10201 :: st) S R I J := by
  obtain ⟨p, l, e, Rm, s, m, args, below, meth, c, D, cs, ad, b, nL, Q⟩ := G
  intro H locs ls hn hl hP hS
  exact va_tlen C0.1 C0.2.1 (C0.2.2.2.2.2.2.2.2.2.2.2.2.2.2.2.2.1.1 0 (by decide)).2.2.2 hS rfl hd (kk H locs ls hn hl hP hS)
theorem x_tat {k : Nat} (C0 : XC G own cc ret) (hk : k < 8) (hd : decode cc pc = .ok (.baload, 1)) (kk : XX G cells slots (pc + 1) L (.int (xSb.getD k 0) :: st) S R I J) : XX G cells slots pc L (.int (nI k) :: .ref 10201 :: st) S R I J := by
  obtain ⟨p, l, e, Rm, s, m, args, below, meth, c, D, cs, ad, b, nL, Q⟩ := G
  intro H locs ls hn hl hP hS
  exact va_tb C0.1 C0.2.1 (C0.2.2.2.2.2.2.2.2.2.2.2.2.2.2.2.2.1.1 0 (by decide)).2.2.2 hS (vp_in_nI (by simpa using hk) (by decide)) (by rw [nI_clamp (by omega)]; rfl) hd (kk H locs ls hn hl hP hS)
theorem x_compact {idx : Nat} (C0 : XC G own cc ret) (hw : Cond.fieldLink own idx "java/lang/String" "COMPACT_STRINGS" "Z" ∈ xT) (hd : decode cc pc = .ok (.getstatic idx, 3)) (kk : XX G cells slots (pc + 3) L (.int 1 :: st) S R I J) : XX G cells slots pc L st S R I J := by
  obtain ⟨p, l, e, Rm, s, m, args, below, meth, c, D, cs, ad, b, nL, Q⟩ := G
  intro H locs ls hn hl hP hS
  exact va_gets C0.1 C0.2.1 C0.2.2.2.2.2.2.2.2.2.2.2.2.2.2.2.2.2.2 hS C0.2.2.2.1 (C0.2.2.2.2.1 _ hw) (fun _ h => h) hd (kk H locs ls hn hl hP hS)
theorem x_i2b (C0 : XC G own cc ret) {x : Int32} (hd : decode cc pc = .ok (.i2b, 1)) (k : XX G cells slots (pc + 1) L (.int x.toInt8.toInt32 :: st) S R I J) : XX G cells slots pc L (.int x :: st) S R I J := by
  obtain ⟨p, l, e, Rm, s, m, args, below, meth, c, D, cs, ad, b, nL, Q⟩ := G
  intro H locs ls hn hl hP hS
  exact lv_i2b C0.1 C0.2.1 hd rfl (k H locs ls hn hl hP hS)
/-- a method of String, of the text of the signs -/
def xTxt (y : MethodName) (bytes : ByteArray) (maxL : Nat) (ret : Option FieldType) (n : Nat) : Prop := xMth y bytes maxL ret n ∧ Cond.instanceMethod y ∈ xT ∧ Cond.selects "java/lang/String" y y ∈ xT
theorem x_callT {y : MethodName} {bytes : ByteArray} {maxL idx d n : Nat} {rt : Option FieldType} {rest : List Value} (As : List Value) (C0 : XC G own cc ret) (hrm : xRf G d cells slots) (hy : xTxt y bytes maxL rt n) (hlk : Cond.methodLink own idx y ∈ xT) (hd : decode cc pc = .ok (.invokevirtual idx, 3))
    (hst : st = As.reverse ++ .ref 10200 :: rest) (hlen : As.length = n) (hcat : (rest.map fun v => v.category).sum ≤ 8)
    (hsp : xSpec d y bytes maxL rt 0 0 (.ref 10200 :: As) S R I J (fun r S' R' I' J' => XX G cells slots (pc + 3) L (r.toList ++ rest) S' R' I' J')) : XX G cells slots pc L st S R I J := by
  obtain ⟨p, l, e, Rm, s, m, args, below, meth, c, D, cs, ad, b, nL, Q⟩ := G
  intro H locs ls hn hl hP hS
  subst hst
  obtain ⟨hm, hin, hsel⟩ := hy
  have hM := hsp l D cs ad b
  have hR2 : (xrm d 0 0).frames + 1 ≤ Rm.frames ∧ 8 + (maxL + 11) + (xrm d 0 0).locals ≤ Rm.locals := ⟨hrm.1, by have := hrm.2.1; have := hm.2.2.2.2; show 8 + (maxL + 11) + 64 * d ≤ Rm.locals; omega⟩
  have hrec := vk_recv (i := 0) C0.2.2.2.2.2.2.2.2.2.2.2.2.2.2.2.2.1 (by decide) hS
  refine x_after (mc := 0) (ms := 0) (va_runV (n := n) (As := As.map (xv ad)) (rest := rest.map (xv ad)) ⟨C0.1, C0.2.1, C0.2.2.1, C0.2.2.2.1, C0.2.2.2.2.1⟩ hM ⟨callB_of n C0.2.2.2.2.1 (xT_goodIn hm.1) rfl rfl rfl (C0.2.2.2.2.1 _ hm.2.1) (C0.2.2.2.2.1 _ hlk) hm.2.2.1 hR2, C0.2.2.2.2.1 _ hin, C0.2.2.2.2.1 _ hsel⟩ ⟨xPc_blind, hrec, x_pcs C0 hn hP hS (fun h => absurd h (by decide))⟩ rfl (by rw [List.length_map]; exact hlen) hl.2.1 (by simp [xv]) (lv_room ?_) hd hrm.2.2) (fun q h => h) hl hS
  exact x_cats hcat
end XRS
theorem ww_all : Cond.fieldLink RX10 125 xWc "ALL" "[LFilmFoot$Word;" ∈ xT := xT_in (xt2 146 rfl) rfl
theorem ww_code : Cond.fieldLink RX10 117 xWc "code" "J" ∈ xT := xT_in (xt8 117 rfl) rfl
theorem ww_kept : Cond.fieldLinkNest RX9 86 xWc "kept" "Z" "FilmFoot" ∈ xN := List.mem_filter.mpr ⟨xt8 120 rfl, rfl⟩
theorem wt_compact : Cond.fieldLink RJ0 38 "java/lang/String" "COMPACT_STRINGS" "Z" ∈ xT := xT_in (xt2 168 rfl) rfl
theorem wt_value : Cond.fieldLink RJ0 9 "java/lang/String" "value" "[B" ∈ xT := xT_in (xt8 119 rfl) rfl
theorem wt_coder : Cond.fieldLink RJ0 15 "java/lang/String" "coder" "B" ∈ xT := xT_in (xt8 118 rfl) rfl
theorem mx_J0_indexOf_0f7a4 : xTxt yJ0_indexOf_0f7a4 cJ0_indexOf_0f7a4 2 (some .int) 1 := ⟨mt_J0_indexOf_0f7a4, xT_in (xt2 157 rfl) rfl, xT_in (xt2 158 rfl) rfl⟩
theorem mx_J0_indexOf_7cf53 : xTxt yJ0_indexOf_7cf53 cJ0_indexOf_7cf53 3 (some .int) 2 := ⟨mt_J0_indexOf_7cf53, xT_in (xt2 161 rfl) rfl, xT_in (xt2 162 rfl) rfl⟩
theorem mx_J0_isLatin1_aae02 : xTxt yJ0_isLatin1_aae02 cJ0_isLatin1_aae02 1 (some .boolean) 0 := ⟨mt_J0_isLatin1_aae02, xT_in (xt2 165 rfl) rfl, xT_in (xt2 166 rfl) rfl⟩
theorem mx_J0_length_8abf5 : xTxt yJ0_length_8abf5 cJ0_length_8abf5 1 (some .int) 0 := ⟨mt_J0_length_8abf5, xT_in (xt2 171 rfl) rfl, xT_in (xt2 172 rfl) rfl⟩
theorem mx_J0_coder_7d493 : xTxt yJ0_coder_7d493 cJ0_coder_7d493 1 (some .byte) 0 := ⟨mt_J0_coder_7d493, xT_in (xt2 175 rfl) rfl, xT_in (xt2 176 rfl) rfl⟩
