/-! THE QUESTIONS: ask, the reference -/
abbrev tlM (I : xTI) (c : Nat → Nat → Nat) : Prop := ∀ i j, i < 36 → j < 3 → I 154 (3 * i + j) = nI (c i j)
theorem MQs.tal {I I' : xTI} (h : ∀ a, a ≠ 154 → I' a = I a) : MQs I I' := ⟨fun a _ _ _ _ _ h6 => h a h6, fun k _ => by rw [h 135 (by decide)], fun j _ => by rw [h 151 (by decide)]⟩
theorem fill_up {I : xTI} {a k : Nat} {v : Int32} : u2 (ufill I a k v) a k v = ufill I a (k + 1) v := by
  funext x i
  unfold u2 ufill
  by_cases h1 : x = a
  · by_cases h2 : i = k
    · simp [h1, h2]
    · simp only [h1, h2, true_and, and_false, if_false]
      by_cases h3 : i < k
      · rw [if_pos h3, if_pos (by omega)]
      · rw [if_neg h3, if_neg (by omega)]
  · simp [h1]
theorem fill_0 {I : xTI} {a : Nat} {v : Int32} : ufill I a 0 v = I := by funext x i; simp [ufill]
def mxU (f : Nat → Nat) : Nat → Nat
  | 0 => 0
  | j + 1 => max (mxU f j) (f j)
theorem mxU_3 (f : Nat → Nat) : mxU f 3 = mx3 f := by
  show max (max (max 0 (f 0)) (f 1)) (f 2) = max (f 0) (max (f 1) (f 2))
  rw [Nat.zero_max, Nat.max_assoc]
theorem mxU_le {f : Nat → Nat} {B : Nat} (h : ∀ j, f j ≤ B) : ∀ j, mxU f j ≤ B
  | 0 => Nat.zero_le _
  | j + 1 => Nat.max_le.mpr ⟨mxU_le h j, h j⟩
theorem c_X12_ask {S : xTS} {R : xTR} {I : xTI} {J : xTJ} {post : xPost} {T N V : Nat} {fl x : xRow} {lw : Option (List (Nat × Nat))} (hM : isModel S R) (C : MCore I fl lw T N V x) {td : xRow} (htd : hTd td) (tM : tMd I td) (hp : ∀ I', MQs I I' → post (some (.int (aAsk fl (sDq fl lw) x td T N V))) S R I' J) : xSpec 9 yX12_ask cX12_ask 9 (some .int) 0 0 [.ref 135] S R I J post := by
  refine xSpec_of mt_X12_ask (Nat.le_of_ble_eq_true rfl) (fun G C0 hN hR E hI hZ => ?_)
  change XX G 0 0 0 [some (.ref 135), none, none, none, none, none, none, none, none] [] S R I J
  refine x_aload_n C0 rfl dX12_ask_0 ?_
  refine x_iconst (v := nI 0) C0 rfl dX12_ask_1 ?_
  refine x_putI C0 wf_X12_1 (isModel.k0 hM) rfl dX12_ask_2 ?_
  have q1 := MQs.thrown (I := I) (v := nI 0)
  have C := C.mq q1
  generalize u2 I 135 0 (nI 0) = I1 at q1 C ⊢
  obtain ⟨wl, mF, mL, mH, wx⟩ := id C
  have hT6 := wl.2.1
  have hN8 := wl.2.2.2.1
  have hV6 := wl.2.2.2.2.2.1
  have eT : I1 141 0 = nI T := (mF 0 (by decide)).trans wl.1
  have eN : I1 141 1 = nI N := (mF 1 (by decide)).trans wl.2.2.1
  have eV : I1 141 2 = nI V := (mF 2 (by decide)).trans wl.2.2.2.2.1
  have hb0 : 0 ≤ 2192 := by decide
  unfold aAsk at hp
  have tM := tM.mq q1
  have h256 := shl_le hN8
  have htN : ∀ i j, talN fl (sDq fl lw) x td T N V i j (2 ^ N) ≤ 2 ^ N := fun i j => talN_le i j _
  have hsN := seN_le (fl := fl) (dq := sDq fl lw) (x := x) (td := td) (T := T) (N := N) (V := V) (2 ^ N)
  have hout : ∀ I2, MQs I1 I2 → tlM I2 (fun i j => talN fl (sDq fl lw) x td T N V i j (2 ^ N)) → ∀ n w v5 v6 v7 v8, w + n = V → XX G 0 0 103 [some (.ref 135), some (.int (nI (seN fl (sDq fl lw) x td T N V (2 ^ N)))), some (.int (akA td (fun i => mx3 (fun j => talN fl (sDq fl lw) x td T N V i j (2 ^ N))) T (seN fl (sDq fl lw) x td T N V (2 ^ N)) w).2), some (.int (nI (akA td (fun i => mx3 (fun j => talN fl (sDq fl lw) x td T N V i j (2 ^ N))) T (seN fl (sDq fl lw) x td T N V (2 ^ N)) w).1)), some (.int (nI w)), v5, v6, v7, v8] [] S R I2 J := by
    intro I2 s1 t1 n
    have CC := C.mq s1
    have eT1 : I2 141 0 = nI T := by rw [CC.2.1 0 (by decide), wl.1]
    have eV1 : I2 141 2 = nI V := by rw [CC.2.1 2 (by decide), wl.2.2.2.2.1]
    have tM1 := tM.mq s1
    induction n with
    | zero =>
      intro w v5 v6 v7 v8 hn9
      have hn8 : w = V := by omega
      subst hn8
      refine x_iload C0 rfl dX12_ask_103 ?_
      refine x_aload_n C0 rfl dX12_ask_105 ?_
      refine x_callV [] C0 hN rfl (xRf_of hR (by decide) (Nat.zero_le _) (Nat.zero_le _)) mv_X12_watchers wm_X12_282 dX12_ask_106 (isModel.k0 hM) rfl rfl (Nat.le_of_ble_eq_true rfl) (c_X12_watchers hM ?_)
      refine x_topi eV1 ?_
      refine x_icmp_ge (tgt := 258) C0 (by decide) dX12_ask_109 (fun _ => ?_) (fun hkk => absurd ((Int32.le_refl _)) hkk)
      refine x_iload_n C0 rfl dX12_ask_258 ?_
      refine x_iret C0 E (by decide) (by decide) dX12_ask_259 ?_
      exact hp I2 (q1.trans s1)
    | succ n ih =>
      intro w v5 v6 v7 v8 hn9
      have hin : ∀ p t v6 v7 v8, t + p = T → XX G 0 0 115 [some (.ref 135), some (.int (nI (seN fl (sDq fl lw) x td T N V (2 ^ N)))), some (.int (akB td (fun i => mx3 (fun j => talN fl (sDq fl lw) x td T N V i j (2 ^ N))) w (akA td (fun i => mx3 (fun j => talN fl (sDq fl lw) x td T N V i j (2 ^ N))) T (seN fl (sDq fl lw) x td T N V (2 ^ N)) w) t).2), some (.int (nI (akB td (fun i => mx3 (fun j => talN fl (sDq fl lw) x td T N V i j (2 ^ N))) w (akA td (fun i => mx3 (fun j => talN fl (sDq fl lw) x td T N V i j (2 ^ N))) T (seN fl (sDq fl lw) x td T N V (2 ^ N)) w) t).1)), some (.int (nI w)), some (.int (nI t)), v6, v7, v8] [] S R I2 J := by
        intro p
        induction p with
        | zero =>
          intro t v6 v7 v8 hm9
          have hm8 : t = T := by omega
          subst hm8
          refine x_iload C0 rfl dX12_ask_115 ?_
          refine x_aload_n C0 rfl dX12_ask_117 ?_
          refine x_callV [] C0 hN rfl (xRf_of hR (by decide) (Nat.zero_le _) (Nat.zero_le _)) mv_X12_things wm_X12_297 dX12_ask_118 (isModel.k0 hM) rfl rfl (Nat.le_of_ble_eq_true rfl) (c_X12_things hM ?_)
          refine x_topi eT1 ?_
          refine x_icmp_ge (tgt := 252) C0 (by decide) dX12_ask_121 (fun _ => ?_) (fun hkk => absurd ((Int32.le_refl _)) hkk)
          refine x_iinc (v := nI (w + 1)) (L' := [_, _, _, _, _, _, _, _, _]) C0 hN rfl (by decide) (nI_inc w) rfl dX12_ask_252 ?_
          refine x_goto (tgt := 103) C0 (by decide) dX12_ask_255 ?_
          exact ih (w + 1) _ _ _ _ (by omega)
        | succ p ihp =>
          intro t v6 v7 v8 hm9
          have hb1 : (akB td (fun i => mx3 (fun j => talN fl (sDq fl lw) x td T N V i j (2 ^ N))) w (akA td (fun i => mx3 (fun j => talN fl (sDq fl lw) x td T N V i j (2 ^ N))) T (seN fl (sDq fl lw) x td T N V (2 ^ N)) w) t).1 ≤ seN fl (sDq fl lw) x td T N V (2 ^ N) := akB_le (akA_le w) t
          have hmU : ∀ j, mxU (fun j => talN fl (sDq fl lw) x td T N V (6 * w + t) j (2 ^ N)) j ≤ 2 ^ N := mxU_le (fun j => htN _ j)
          have e62 : I2 151 (62 + (6 * w + t)) = td (6 * w + t) := tM1 _ (by omega)
          have h188 : XX G 0 0 188 [some (.ref 135), some (.int (nI (seN fl (sDq fl lw) x td T N V (2 ^ N)))), some (.int (akB td (fun i => mx3 (fun j => talN fl (sDq fl lw) x td T N V i j (2 ^ N))) w (akA td (fun i => mx3 (fun j => talN fl (sDq fl lw) x td T N V i j (2 ^ N))) T (seN fl (sDq fl lw) x td T N V (2 ^ N)) w) t).2), some (.int (nI (akB td (fun i => mx3 (fun j => talN fl (sDq fl lw) x td T N V i j (2 ^ N))) w (akA td (fun i => mx3 (fun j => talN fl (sDq fl lw) x td T N V i j (2 ^ N))) T (seN fl (sDq fl lw) x td T N V (2 ^ N)) w) t).1)), some (.int (nI w)), some (.int (nI t)), some (.int (nI (6 * w + t))), some (.int (nI (mx3 (fun j => talN fl (sDq fl lw) x td T N V (6 * w + t) j (2 ^ N))))), some (.int (nI 3))] [] S R I2 J := by
            have hm3 : mx3 (fun j => talN fl (sDq fl lw) x td T N V (6 * w + t) j (2 ^ N)) ≤ 2 ^ N := by rw [← mxU_3]; exact hmU 3
            refine x_aload_n C0 rfl dX12_ask_188 ?_
            refine x_getR C0 wf_X12_119 (isModel.k0 hM) rfl rfl (isModel.r24 hM) dX12_ask_189 ?_
            refine x_bipush (v := nI 62) C0 rfl dX12_ask_192 ?_
            refine x_iload C0 rfl dX12_ask_194 ?_
            refine x_iaddN C0 dX12_ask_196 ?_
            refine x_ialoadN C0 (isModel.s24 hM) (by omega) (by omega) dX12_ask_197 ?_
            refine x_topi e62 ?_
            refine x_bipush (v := -2) C0 rfl dX12_ask_198 ?_
            refine x_icmp_ne (tgt := 213) C0 (by decide) dX12_ask_200 (fun g200 => ?_) (fun g200 => ?_)
            · refine x_iconst (v := nI 0) C0 rfl dX12_ask_213 ?_
              refine x_istore (L' := [_, _, _, _, _, _, _, _, _]) C0 hN (by decide) rfl dX12_ask_214 ?_
              refine x_iload C0 rfl dX12_ask_216 ?_
              refine x_if_eq (tgt := 232) C0 (by decide) dX12_ask_218 (fun _ => ?_) (fun hkk => absurd (by decide) hkk)
              refine x_iload_n C0 rfl dX12_ask_232 ?_
              refine x_istore_n (L' := [_, _, _, _, _, _, _, _, _]) C0 hN (by decide) rfl dX12_ask_233 ?_
              refine x_iload C0 rfl dX12_ask_234 ?_
              refine x_if_eq (tgt := 244) C0 (by decide) dX12_ask_236 (fun _ => ?_) (fun hkk => absurd (by decide) hkk)
              refine x_iload_n C0 rfl dX12_ask_244 ?_
              refine x_istore_n (L' := [_, _, _, _, _, _, _, _, _]) C0 hN (by decide) rfl dX12_ask_245 ?_
              refine x_iinc (v := nI (t + 1)) (L' := [_, _, _, _, _, _, _, _, _]) C0 hN rfl (by decide) (nI_inc t) rfl dX12_ask_246 ?_
              refine x_goto (tgt := 115) C0 (by decide) dX12_ask_249 ?_
              have := ihp (t + 1) (some (.int (nI (6 * w + t)))) (some (.int (nI (mx3 (fun j => talN fl (sDq fl lw) x td T N V (6 * w + t) j (2 ^ N)))))) (some (.int (nI 0))) (by omega)
              rw [akB_no (fun z => g200 z.1)] at this
              exact this
            · refine x_iload C0 rfl dX12_ask_203 ?_
              refine x_iload_n C0 rfl dX12_ask_205 ?_
              refine x_icmp_ge (tgt := 213) C0 (by decide) dX12_ask_206 (fun g206 => ?_) (fun g206 => ?_)
              · refine x_iconst (v := nI 0) C0 rfl dX12_ask_213 ?_
                refine x_istore (L' := [_, _, _, _, _, _, _, _, _]) C0 hN (by decide) rfl dX12_ask_214 ?_
                refine x_iload C0 rfl dX12_ask_216 ?_
                refine x_if_eq (tgt := 232) C0 (by decide) dX12_ask_218 (fun _ => ?_) (fun hkk => absurd (by decide) hkk)
                refine x_iload_n C0 rfl dX12_ask_232 ?_
                refine x_istore_n (L' := [_, _, _, _, _, _, _, _, _]) C0 hN (by decide) rfl dX12_ask_233 ?_
                refine x_iload C0 rfl dX12_ask_234 ?_
                refine x_if_eq (tgt := 244) C0 (by decide) dX12_ask_236 (fun _ => ?_) (fun hkk => absurd (by decide) hkk)
                refine x_iload_n C0 rfl dX12_ask_244 ?_
                refine x_istore_n (L' := [_, _, _, _, _, _, _, _, _]) C0 hN (by decide) rfl dX12_ask_245 ?_
                refine x_iinc (v := nI (t + 1)) (L' := [_, _, _, _, _, _, _, _, _]) C0 hN rfl (by decide) (nI_inc t) rfl dX12_ask_246 ?_
                refine x_goto (tgt := 115) C0 (by decide) dX12_ask_249 ?_
                have := ihp (t + 1) (some (.int (nI (6 * w + t)))) (some (.int (nI (mx3 (fun j => talN fl (sDq fl lw) x td T N V (6 * w + t) j (2 ^ N)))))) (some (.int (nI 0))) (by omega)
                rw [akB_no (fun z => absurd z.2 (Nat.not_lt.mpr ((nI_le_iff (by omega) (by omega)).mp g206)))] at this
                exact this
              · refine x_iconst (v := nI 1) C0 rfl dX12_ask_209 ?_
                refine x_goto (tgt := 214) C0 (by decide) dX12_ask_210 ?_
                refine x_istore (L' := [_, _, _, _, _, _, _, _, _]) C0 hN (by decide) rfl dX12_ask_214 ?_
                refine x_iload C0 rfl dX12_ask_216 ?_
                refine x_if_eq (tgt := 232) C0 (by decide) dX12_ask_218 (fun hkk => absurd hkk (by decide)) (fun _ => ?_)
                refine x_bipush (v := nI 8) C0 rfl dX12_ask_221 ?_
                refine x_iload C0 rfl dX12_ask_223 ?_
                refine x_imulN C0 dX12_ask_225 ?_
                refine x_iload C0 rfl dX12_ask_226 ?_
                refine x_iaddN C0 dX12_ask_228 ?_
                refine x_goto (tgt := 233) C0 (by decide) dX12_ask_229 ?_
                refine x_istore_n (L' := [_, _, _, _, _, _, _, _, _]) C0 hN (by decide) rfl dX12_ask_233 ?_
                refine x_iload C0 rfl dX12_ask_234 ?_
                refine x_if_eq (tgt := 244) C0 (by decide) dX12_ask_236 (fun hkk => absurd hkk (by decide)) (fun _ => ?_)
                refine x_iload C0 rfl dX12_ask_239 ?_
                refine x_goto (tgt := 245) C0 (by decide) dX12_ask_241 ?_
                refine x_istore_n (L' := [_, _, _, _, _, _, _, _, _]) C0 hN (by decide) rfl dX12_ask_245 ?_
                refine x_iinc (v := nI (t + 1)) (L' := [_, _, _, _, _, _, _, _, _]) C0 hN rfl (by decide) (nI_inc t) rfl dX12_ask_246 ?_
                refine x_goto (tgt := 115) C0 (by decide) dX12_ask_249 ?_
                have := ihp (t + 1) (some (.int (nI (6 * w + t)))) (some (.int (nI (mx3 (fun j => talN fl (sDq fl lw) x td T N V (6 * w + t) j (2 ^ N)))))) (some (.int (nI 1))) (by omega)
                rw [akB_yes ⟨g200, Nat.lt_of_not_le (fun z => g206 ((nI_le_iff (by omega) (by omega)).mpr z))⟩] at this
                exact this
          have h140 : ∀ p j, j + p = 3 → XX G 0 0 140 [some (.ref 135), some (.int (nI (seN fl (sDq fl lw) x td T N V (2 ^ N)))), some (.int (akB td (fun i => mx3 (fun j => talN fl (sDq fl lw) x td T N V i j (2 ^ N))) w (akA td (fun i => mx3 (fun j => talN fl (sDq fl lw) x td T N V i j (2 ^ N))) T (seN fl (sDq fl lw) x td T N V (2 ^ N)) w) t).2), some (.int (nI (akB td (fun i => mx3 (fun j => talN fl (sDq fl lw) x td T N V i j (2 ^ N))) w (akA td (fun i => mx3 (fun j => talN fl (sDq fl lw) x td T N V i j (2 ^ N))) T (seN fl (sDq fl lw) x td T N V (2 ^ N)) w) t).1)), some (.int (nI w)), some (.int (nI t)), some (.int (nI (6 * w + t))), some (.int (nI (mxU (fun j => talN fl (sDq fl lw) x td T N V (6 * w + t) j (2 ^ N)) j))), some (.int (nI j))] [] S R I2 J := by
            intro p
            induction p with
            | zero =>
              intro j hj
              have hj8 : j = 3 := by omega
              subst hj8
              rw [mxU_3]
              refine x_iload C0 rfl dX12_ask_140 ?_
              refine x_iconst (v := nI 3) C0 rfl dX12_ask_142 ?_
              refine x_icmp_ge (tgt := 188) C0 (by decide) dX12_ask_143 (fun _ => ?_) (fun hkk => absurd ((Int32.le_refl _)) hkk)
              exact h188
            | succ p ihj =>
              intro j hj
              have e3 : I2 154 (3 * (6 * w + t) + j) = nI (talN fl (sDq fl lw) x td T N V (6 * w + t) j (2 ^ N)) := t1 _ _ (by omega) (by omega)
              have hj1 := htN (6 * w + t) j
              have hj2 := hmU j
              refine x_iload C0 rfl dX12_ask_140 ?_
              refine x_iconst (v := nI 3) C0 rfl dX12_ask_142 ?_
              refine x_icmp_ge (tgt := 188) C0 (by decide) dX12_ask_143 (fun hkk => absurd hkk (nI_ge (by omega) (by omega))) (fun _ => ?_)
              refine x_aload_n C0 rfl dX12_ask_146 ?_
              refine x_getR C0 wf_X12_129 (isModel.k0 hM) rfl rfl (isModel.r28 hM) dX12_ask_147 ?_
              refine x_iconst (v := nI 3) C0 rfl dX12_ask_150 ?_
              refine x_iload C0 rfl dX12_ask_151 ?_
              refine x_imulN C0 dX12_ask_153 ?_
              refine x_iload C0 rfl dX12_ask_154 ?_
              refine x_iaddN C0 dX12_ask_156 ?_
              refine x_ialoadN C0 (isModel.s28 hM) (by omega) (by omega) dX12_ask_157 ?_
              refine x_topi e3 ?_
              refine x_iload C0 rfl dX12_ask_158 ?_
              refine x_icmp_le (tgt := 178) C0 (by decide) dX12_ask_160 (fun g160 => ?_) (fun g160 => ?_)
              · refine x_iload C0 rfl dX12_ask_178 ?_
                refine x_istore (L' := [_, _, _, _, _, _, _, _, _]) C0 hN (by decide) rfl dX12_ask_180 ?_
                refine x_iinc (v := nI (j + 1)) (L' := [_, _, _, _, _, _, _, _, _]) C0 hN rfl (by decide) (nI_inc j) rfl dX12_ask_182 ?_
                refine x_goto (tgt := 140) C0 (by decide) dX12_ask_185 ?_
                have := ihj (j + 1) (by omega)
                have gz := (nI_le_iff (by omega) (by omega)).mp g160
                rw [show mxU (fun j => talN fl (sDq fl lw) x td T N V (6 * w + t) j (2 ^ N)) (j + 1) = mxU (fun j => talN fl (sDq fl lw) x td T N V (6 * w + t) j (2 ^ N)) j from Nat.max_eq_left gz] at this
                exact this
              · refine x_aload_n C0 rfl dX12_ask_163 ?_
                refine x_getR C0 wf_X12_129 (isModel.k0 hM) rfl rfl (isModel.r28 hM) dX12_ask_164 ?_
                refine x_iconst (v := nI 3) C0 rfl dX12_ask_167 ?_
                refine x_iload C0 rfl dX12_ask_168 ?_
                refine x_imulN C0 dX12_ask_170 ?_
                refine x_iload C0 rfl dX12_ask_171 ?_
                refine x_iaddN C0 dX12_ask_173 ?_
                refine x_ialoadN C0 (isModel.s28 hM) (by omega) (by omega) dX12_ask_174 ?_
                refine x_topi e3 ?_
                refine x_goto (tgt := 180) C0 (by decide) dX12_ask_175 ?_
                refine x_istore (L' := [_, _, _, _, _, _, _, _, _]) C0 hN (by decide) rfl dX12_ask_180 ?_
                refine x_iinc (v := nI (j + 1)) (L' := [_, _, _, _, _, _, _, _, _]) C0 hN rfl (by decide) (nI_inc j) rfl dX12_ask_182 ?_
                refine x_goto (tgt := 140) C0 (by decide) dX12_ask_185 ?_
                have := ihj (j + 1) (by omega)
                rw [show mxU (fun j => talN fl (sDq fl lw) x td T N V (6 * w + t) j (2 ^ N)) (j + 1) = talN fl (sDq fl lw) x td T N V (6 * w + t) j (2 ^ N) from Nat.max_eq_right (Nat.le_of_lt (Nat.lt_of_not_le (fun z => g160 ((nI_le_iff (by omega) (by omega)).mpr z))))] at this
                exact this
          refine x_iload C0 rfl dX12_ask_115 ?_
          refine x_aload_n C0 rfl dX12_ask_117 ?_
          refine x_callV [] C0 hN rfl (xRf_of hR (by decide) (Nat.zero_le _) (Nat.zero_le _)) mv_X12_things wm_X12_297 dX12_ask_118 (isModel.k0 hM) rfl rfl (Nat.le_of_ble_eq_true rfl) (c_X12_things hM ?_)
          refine x_topi eT1 ?_
          refine x_icmp_ge (tgt := 252) C0 (by decide) dX12_ask_121 (fun hkk => absurd hkk (nI_ge (by omega) (by omega))) (fun _ => ?_)
          refine x_bipush (v := nI 6) C0 rfl dX12_ask_124 ?_
          refine x_iload C0 rfl dX12_ask_126 ?_
          refine x_imulN C0 dX12_ask_128 ?_
          refine x_iload C0 rfl dX12_ask_129 ?_
          refine x_iaddN C0 dX12_ask_131 ?_
          refine x_istore (L' := [_, _, _, _, _, _, _, _, _]) C0 hN (by decide) rfl dX12_ask_132 ?_
          refine x_iconst (v := nI 0) C0 rfl dX12_ask_134 ?_
          refine x_istore (L' := [_, _, _, _, _, _, _, _, _]) C0 hN (by decide) rfl dX12_ask_135 ?_
          refine x_iconst (v := nI 0) C0 rfl dX12_ask_137 ?_
          refine x_istore (L' := [_, _, _, _, _, _, _, _, _]) C0 hN (by decide) rfl dX12_ask_138 ?_
          exact h140 3 0 (by omega)
      refine x_iload C0 rfl dX12_ask_103 ?_
      refine x_aload_n C0 rfl dX12_ask_105 ?_
      refine x_callV [] C0 hN rfl (xRf_of hR (by decide) (Nat.zero_le _) (Nat.zero_le _)) mv_X12_watchers wm_X12_282 dX12_ask_106 (isModel.k0 hM) rfl rfl (Nat.le_of_ble_eq_true rfl) (c_X12_watchers hM ?_)
      refine x_topi eV1 ?_
      refine x_icmp_ge (tgt := 258) C0 (by decide) dX12_ask_109 (fun hkk => absurd hkk (nI_ge (by omega) (by omega))) (fun _ => ?_)
      refine x_iconst (v := nI 0) C0 rfl dX12_ask_112 ?_
      refine x_istore (L' := [_, _, _, _, _, _, _, _, _]) C0 hN (by decide) rfl dX12_ask_113 ?_
      exact hin T 0 v6 v7 v8 (by omega)
  have h30 : ∀ n s I2 v3, s + n = 2 ^ N → MQs I1 I2 → tlM I2 (fun i j => talN fl (sDq fl lw) x td T N V i j s) → XX G 0 0 30 [some (.ref 135), some (.int (nI (seN fl (sDq fl lw) x td T N V s))), some (.int (nI s)), v3, none, none, none, none, none] [] S R I2 J := by
    intro n
    induction n with
    | zero =>
      intro s I2 v3 hn9 s1 t1
      have hn8 : s = 2 ^ N := by omega
      have eN2 : I2 141 1 = nI N := by rw [(C.mq s1).2.1 1 (by decide), wl.2.2.1]
      subst hn8
      refine x_iload_n C0 rfl dX12_ask_30 ?_
      refine x_iconst (v := 1) C0 rfl dX12_ask_31 ?_
      refine x_aload_n C0 rfl dX12_ask_32 ?_
      refine x_callV [] C0 hN rfl (xRf_of hR (by decide) (Nat.zero_le _) (Nat.zero_le _)) mv_X12_scenes wm_X12_285 dX12_ask_33 (isModel.k0 hM) rfl rfl (Nat.le_of_ble_eq_true rfl) (c_X12_scenes hM ?_)
      refine x_topi eN2 ?_
      refine x_ishl C0 dX12_ask_36 ?_
      refine x_topi (pow_shl N hN8) ?_
      refine x_icmp_ge (tgt := 96) C0 (by decide) dX12_ask_37 (fun _ => ?_) (fun hkk => absurd ((Int32.le_refl _)) hkk)
      refine x_iconst (v := -1) C0 rfl dX12_ask_96 ?_
      refine x_istore_n (L' := [_, _, _, _, _, _, _, _, _]) C0 hN (by decide) rfl dX12_ask_97 ?_
      refine x_iload_n C0 rfl dX12_ask_98 ?_
      refine x_istore_n (L' := [_, _, _, _, _, _, _, _, _]) C0 hN (by decide) rfl dX12_ask_99 ?_
      refine x_iconst (v := nI 0) C0 rfl dX12_ask_100 ?_
      refine x_istore (L' := [_, _, _, _, _, _, _, _, _]) C0 hN (by decide) rfl dX12_ask_101 ?_
      exact hout I2 s1 t1 V 0 none none none none (by omega)
    | succ n ih =>
      intro s I2 v3 hn9 s1 t1
      have CC := C.mq s1
      have eN2 : I2 141 1 = nI N := by rw [CC.2.1 1 (by decide), wl.2.2.1]
      have hyes : ∀ I3, MQs I2 I3 → I3 154 = I2 154 → MHall I3 2058 (sEndCut fl (sDq fl lw) x V N s) → sHit fl (sDq fl lw) x td T N V s → XX G 0 0 45 [some (.ref 135), some (.int (nI (seN fl (sDq fl lw) x td T N V s))), some (.int (nI s)), v3, none, none, none, none, none] [.int 1] S R I3 J := by
        intro I3 s3 e154 r3 hh
        have wE : WFx (sEndCut fl (sDq fl lw) x V N s) T N V := by
          obtain ⟨k, hk, ek⟩ := wx.1
          unfold sEndCut
          exact sEnd_WFx wl _ _ _ (WFx_cut wx hN8 (by omega)) (by rw [ek, nI_clamp (by omega)]; omega)
        have hfl : ∀ p i I4, i + p = 36 → (∀ a, a ≠ 154 → I4 a = I3 a) → tlM I4 (fun i' j => talN fl (sDq fl lw) x td T N V i' j s + if i' < i ∧ sEndCut fl (sDq fl lw) x V N s (20 + i') + 1 = nI j then 1 else 0) → XX G 0 0 53 [some (.ref 135), some (.int (nI (seN fl (sDq fl lw) x td T N V s + 1))), some (.int (nI s)), some (.int (nI i)), none, none, none, none, none] [] S R I4 J := by
          intro p
          induction p with
          | zero =>
            intro i I4 hi s4 t4
            have hi8 : i = 36 := by omega
            subst hi8
            refine x_iload_n C0 rfl dX12_ask_53 ?_
            refine x_bipush (v := nI 36) C0 rfl dX12_ask_54 ?_
            refine x_icmp_ge (tgt := 90) C0 (by decide) dX12_ask_56 (fun _ => ?_) (fun hkk => absurd ((Int32.le_refl _)) hkk)
            refine x_iinc (v := nI (s + 1)) (L' := [_, _, _, _, _, _, _, _, _]) C0 hN rfl (by decide) (nI_inc s) rfl dX12_ask_90 ?_
            refine x_goto (tgt := 30) C0 (by decide) dX12_ask_93 ?_
            have := ih (s + 1) I4 (some (.int (nI 36))) (by omega) ((s1.trans s3).trans (MQs.tal s4)) (fun i j h1 h2 => by
              refine (t4 i j h1 h2).trans (congrArg nI ?_)
              refine Eq.trans ?_ (talN_yes hh).symm
              simp only [h1, true_and])
            rw [(se_yes (l0 := 0) hh).1] at this
            exact this
          | succ p ihp =>
            intro i I4 hi s4 t4
            have ey : I4 151 (2078 + i) = sEndCut fl (sDq fl lw) x V N s (20 + i) := by
              rw [s4 151 (by decide)]
              exact r3.at (by omega) (by omega)
            obtain ⟨j0, hj0, ej⟩ := three_nI (th_three wE (w := i / 6) (t := i % 6) (by omega) (by omega))
            rw [show 20 + 6 * (i / 6) + i % 6 = 20 + i by omega] at ej
            have ek : nI (3 * i + 1) + sEndCut fl (sDq fl lw) x V N s (20 + i) = nI (3 * i + j0) := by
              rw [show nI (3 * i + 1) = nI (3 * i) + 1 from nI_succ _, Int32.add_assoc, Int32.add_comm 1, ej, nI_add]
            refine x_iload_n C0 rfl dX12_ask_53 ?_
            refine x_bipush (v := nI 36) C0 rfl dX12_ask_54 ?_
            refine x_icmp_ge (tgt := 90) C0 (by decide) dX12_ask_56 (fun hkk => absurd hkk ((nI_ge (b := 36) (by omega) (by omega)))) (fun _ => ?_)
            refine x_aload_n C0 rfl dX12_ask_59 ?_
            refine x_getR C0 wf_X12_129 (isModel.k0 hM) rfl rfl (isModel.r28 hM) dX12_ask_60 ?_
            refine x_iconst (v := nI 3) C0 rfl dX12_ask_63 ?_
            refine x_iload_n C0 rfl dX12_ask_64 ?_
            refine x_imulN C0 dX12_ask_65 ?_
            refine x_iconst (v := nI 1) C0 rfl dX12_ask_66 ?_
            refine x_iaddN C0 dX12_ask_67 ?_
            refine x_aload_n C0 rfl dX12_ask_68 ?_
            refine x_getR C0 wf_X12_119 (isModel.k0 hM) rfl rfl (isModel.r24 hM) dX12_ask_69 ?_
            refine x_sipush (v := nI 2078) C0 rfl dX12_ask_72 ?_
            refine x_iload_n C0 rfl dX12_ask_75 ?_
            refine x_iaddN C0 dX12_ask_76 ?_
            refine x_ialoadN C0 (isModel.s24 hM) (by omega) (by omega) dX12_ask_77 ?_
            refine x_topi ey ?_
            refine x_iadd C0 dX12_ask_78 ?_
            refine x_topi ek ?_
            refine x_dup2 C0 rfl rfl dX12_ask_79 ?_
            refine x_ialoadN C0 (isModel.s28 hM) (by omega) (by omega) dX12_ask_80 ?_
            refine x_topi (t4 i j0 (by omega) hj0) ?_
            refine x_iconst (v := nI 1) C0 rfl dX12_ask_81 ?_
            refine x_iadd C0 dX12_ask_82 ?_
            refine x_iastoreN C0 (isModel.s28 hM) (by omega) (by omega) dX12_ask_83 ?_
            refine x_iinc (v := nI (i + 1)) (L' := [_, _, _, _, _, _, _, _, _]) C0 hN rfl (by decide) (nI_inc i) rfl dX12_ask_84 ?_
            refine x_goto (tgt := 53) C0 (by decide) dX12_ask_87 ?_
            refine ihp (i + 1) _ (by omega) (fun a ha => (u2_row _ _ _ ha).trans (s4 a ha)) (fun i2 j h1 h2 => ?_)
            by_cases e : 3 * i2 + j = 3 * i + j0
            · have e1 : i2 = i := by omega
              have e2 : j = j0 := by omega
              subst e2
              rw [e, u2_same, e1]
              have e3 : ¬ i < i := by omega
              have e4 : i < i + 1 := by omega
              simp only [e3, e4, false_and, true_and, if_pos ej, if_false, Nat.add_zero]
              exact (nI_succ _).symm
            · rw [u2_off _ _ e, t4 i2 j h1 h2]
              by_cases e1 : i2 = i
              · have e5 : ¬ sEndCut fl (sDq fl lw) x V N s (20 + i2) + 1 = nI j := fun q => by
                  rw [e1, ej] at q
                  have := (nI_eq (by omega) (by omega)).mp q
                  omega
                simp only [e5, and_false]
              · have e6 : (i2 < i) = (i2 < i + 1) := propext (by omega)
                simp only [e6]
        refine x_if_eq (tgt := 90) C0 (by decide) dX12_ask_45 (fun hkk => absurd hkk (by decide)) (fun _ => ?_)
        refine x_iinc (v := nI (seN fl (sDq fl lw) x td T N V s + 1)) (L' := [_, _, _, _, _, _, _, _, _]) C0 hN rfl (by decide) (nI_inc _) rfl dX12_ask_48 ?_
        refine x_iconst (v := nI 0) C0 rfl dX12_ask_51 ?_
        refine x_istore_n (L' := [_, _, _, _, _, _, _, _, _]) C0 hN (by decide) rfl dX12_ask_52 ?_
        refine hfl 36 0 I3 (by omega) (fun _ _ => rfl) (fun i j h1 h2 => ?_)
        rw [e154, t1 i j h1 h2]
        have e : ¬ i < 0 := by omega
        simp only [e, false_and, if_false, Nat.add_zero]
      have hno : ∀ I3, MQs I2 I3 → I3 154 = I2 154 → ¬ sHit fl (sDq fl lw) x td T N V s → XX G 0 0 45 [some (.ref 135), some (.int (nI (seN fl (sDq fl lw) x td T N V s))), some (.int (nI s)), v3, none, none, none, none, none] [.int 0] S R I3 J := by
        intro I3 s3 e154 hh
        refine x_if_eq (tgt := 90) C0 (by decide) dX12_ask_45 (fun _ => ?_) (fun hkk => absurd (by decide) hkk)
        refine x_iinc (v := nI (s + 1)) (L' := [_, _, _, _, _, _, _, _, _]) C0 hN rfl (by decide) (nI_inc s) rfl dX12_ask_90 ?_
        refine x_goto (tgt := 30) C0 (by decide) dX12_ask_93 ?_
        have := ih (s + 1) I3 v3 (by omega) (s1.trans s3) (fun i j h1 h2 => by rw [e154, t1 i j h1 h2]; exact congrArg nI (talN_no hh).symm)
        rw [(se_no (l0 := 0) hh).1] at this
        exact this
      refine x_iload_n C0 rfl dX12_ask_30 ?_
      refine x_iconst (v := 1) C0 rfl dX12_ask_31 ?_
      refine x_aload_n C0 rfl dX12_ask_32 ?_
      refine x_callV [] C0 hN rfl (xRf_of hR (by decide) (Nat.zero_le _) (Nat.zero_le _)) mv_X12_scenes wm_X12_285 dX12_ask_33 (isModel.k0 hM) rfl rfl (Nat.le_of_ble_eq_true rfl) (c_X12_scenes hM ?_)
      refine x_topi eN2 ?_
      refine x_ishl C0 dX12_ask_36 ?_
      refine x_topi (pow_shl N hN8) ?_
      refine x_icmp_ge (tgt := 96) C0 (by decide) dX12_ask_37 (fun hkk => absurd hkk (nI_ge (by omega) (by omega))) (fun _ => ?_)
      refine x_aload_n C0 rfl dX12_ask_40 ?_
      refine x_iload_n C0 rfl dX12_ask_41 ?_
      refine x_callV [_] C0 hN rfl (xRf_of hR (by decide) (Nat.zero_le _) (Nat.zero_le _)) mv_X12_isTold wm_X12_393 dX12_ask_42 (isModel.k0 hM) rfl rfl (Nat.le_of_ble_eq_true rfl) (c_X12_isTold hM CC (tM.mq s1) (by omega) (fun I3 s3 e154 r3 hh => ?_) (fun I3 s3 e154 hh => ?_))
      · exact hyes I3 s3 e154 r3 hh
      · exact hno I3 s3 e154 hh
  have h7 : ∀ m k, k + m = 108 → XX G 0 0 7 [some (.ref 135), some (.int (nI k)), none, none, none, none, none, none, none] [] S R (ufill I1 154 k 0) J := by
    intro m
    induction m with
    | zero =>
      intro k hk
      have hk8 : k = 108 := by omega
      subst hk8
      refine x_iload_n C0 rfl dX12_ask_7 ?_
      refine x_bipush (v := nI 108) C0 rfl dX12_ask_8 ?_
      refine x_icmp_ge (tgt := 26) C0 (by decide) dX12_ask_10 (fun _ => ?_) (fun hkk => absurd ((Int32.le_refl _)) hkk)
      refine x_iconst (v := nI 0) C0 rfl dX12_ask_26 ?_
      refine x_istore_n (L' := [_, _, _, _, _, _, _, _, _]) C0 hN (by decide) rfl dX12_ask_27 ?_
      refine x_iconst (v := nI 0) C0 rfl dX12_ask_28 ?_
      refine x_istore_n (L' := [_, _, _, _, _, _, _, _, _]) C0 hN (by decide) rfl dX12_ask_29 ?_
      exact h30 (2 ^ N) 0 _ none (by omega) (MQs.tal (fun a ha => ufill_row I1 108 0 ha)) (fun i j h1 h2 => ufill_in I1 0 (by omega))
    | succ m ih =>
      intro k hk
      refine x_iload_n C0 rfl dX12_ask_7 ?_
      refine x_bipush (v := nI 108) C0 rfl dX12_ask_8 ?_
      refine x_icmp_ge (tgt := 26) C0 (by decide) dX12_ask_10 (fun hkk => absurd hkk ((nI_ge (b := 108) (by omega) (by omega)))) (fun _ => ?_)
      refine x_aload_n C0 rfl dX12_ask_13 ?_
      refine x_getR C0 wf_X12_129 (isModel.k0 hM) rfl rfl (isModel.r28 hM) dX12_ask_14 ?_
      refine x_iload_n C0 rfl dX12_ask_17 ?_
      refine x_iconst (v := nI 0) C0 rfl dX12_ask_18 ?_
      refine x_iastoreN C0 (isModel.s28 hM) (by omega) (by omega) dX12_ask_19 ?_
      refine x_I fill_up ?_
      refine x_iinc (v := nI (k + 1)) (L' := [_, _, _, _, _, _, _, _, _]) C0 hN rfl (by decide) (nI_inc k) rfl dX12_ask_20 ?_
      refine x_goto (tgt := 7) C0 (by decide) dX12_ask_23 ?_
      exact ih (k + 1) (by omega)
  refine x_iconst (v := nI 0) C0 rfl dX12_ask_5 ?_
  refine x_istore_n (L' := [_, _, _, _, _, _, _, _, _]) C0 hN (by decide) rfl dX12_ask_6 ?_
  have := h7 108 0 (by omega)
  rw [fill_0] at this
  exact this
