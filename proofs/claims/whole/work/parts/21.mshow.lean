/-! THE REFERENCE: a showing -/
theorem u2_off {α : Type} (f : Nat → Nat → α) {a k k' : Nat} (v : α) (h : k' ≠ k) : u2 f a k v a k' = f a k' := by simp [u2, h]
theorem MHall.upd {I : xTI} {b i j : Nat} {y : xRow} {v : Int32} (h : MHall I b y) (hi : i < 62) (e : j = b + i) : MHall (u2 I 151 j v) b (upd y i v) := by
  intro q hq
  subst e
  by_cases e2 : q = i
  · subst e2; rw [u2_same, upd_eq]
  · rw [u2_off _ _ (by omega), upd_ne e2]; exact h q hq
theorem MHall.congr {I I' : xTI} {b : Nat} {y : xRow} (h : MHall I b y) (e : I' 151 = I 151) : MHall I' b y := fun i hi => by rw [e]; exact h i hi
def MSame (I I' : xTI) (b : Nat) : Prop := (∀ a, a ≠ 149 → a ≠ 150 → a ≠ 151 → a ≠ 153 → I' a = I a) ∧ (∀ j, (j < b ∨ b + 62 ≤ j) → I' 151 j = I 151 j)
theorem MSame.rf {I : xTI} {b : Nat} : MSame I I b := ⟨fun _ _ _ _ _ => rfl, fun _ _ => rfl⟩
theorem MSame.trans {I I1 I2 : xTI} {b : Nat} (h : MSame I I1 b) (g : MSame I1 I2 b) : MSame I I2 b := ⟨fun a a1 a2 a3 a4 => (g.1 a a1 a2 a3 a4).trans (h.1 a a1 a2 a3 a4), fun j hj => (g.2 j hj).trans (h.2 j hj)⟩
theorem MSame.st {I : xTI} {b j : Nat} {v : Int32} (h : b ≤ j) (h2 : j < b + 62) : MSame I (u2 I 151 j v) b := ⟨fun a _ _ a3 _ => u2_row _ _ _ a3, fun i hi => u2_off _ _ (by omega)⟩
theorem MSame.wv {I : xTI} {b j : Nat} {v : Int32} : MSame I (u2 I 153 j v) b := ⟨fun a _ _ _ a4 => u2_row _ _ _ a4, fun i hi => by rw [u2_row _ _ _ (by decide)]⟩
theorem MSame.fs {I I' : xTI} {b : Nat} (h : ∀ a, a ≠ 149 → a ≠ 150 → I' a = I a) : MSame I I' b := ⟨fun a a1 a2 _ _ => h a a1 a2, fun j _ => by rw [h 151 (by decide) (by decide)]⟩
theorem MSame.film {I I' : xTI} {b : Nat} {fl : xRow} (h : MSame I I' b) (hf : MFilm I fl) : MFilm I' fl := fun i hi => by rw [h.1 141 (by decide) (by decide) (by decide) (by decide)]; exact hf i hi
theorem MSame.law {I I' : xTI} {b : Nat} {fl : xRow} {lw : Option (List (Nat × Nat))} (h : MSame I I' b) (hl : MLaw I fl lw) : MLaw I' fl lw := by
  cases lw with
  | none => exact hl
  | some cl =>
    refine ⟨hl.1, ?_⟩
    unfold MCode
    rw [h.1 142 (by decide) (by decide) (by decide) (by decide), h.1 143 (by decide) (by decide) (by decide) (by decide)]
    exact hl.2
/-- earlier watchers leave a later one's thoughts alone -/
theorem sAll_hi {fl : xRow} {dq : xDq} {x : xRow} {T N V k cl : Nat} (wl : WFl fl T N V) (wx : WFx x T N V) (hk : k < N) : ∀ w, w ≤ V → ∀ i, 20 + 6 * w ≤ i → i < 56 → (sAll fl dq k cl x w).1 i = x i
  | 0, _, _, _, _ => rfl
  | w + 1, hw, i, h1, h2 => by
    have ih := sAll_hi (dq := dq) (cl := cl) wl wx hk w (by omega) i (by omega) h2
    have hT := wl.2.1
    unfold sAll
    split
    · dsimp only
      unfold sOne
      split
      · rename_i h
        obtain ⟨t, b, ht, hb, e1, e2⟩ := sTB wl (sAll_WFx (dq := dq) (cl := cl) wl wx hk w (by omega)) hk (by omega) h
        rw [e1, nI_clamp (by omega), upd_ne (by omega), upd_ne (by omega)]; exact ih
      · rw [upd_ne (by omega)]; exact ih
    · exact ih
theorem sOdd_all {fl : xRow} {dq : xDq} {x : xRow} {T N V k cl w : Nat} (wl : WFl fl T N V) (wx : WFx x T N V) (hk : k < N) (hw : w < V) : sOddN fl (sAll fl dq k cl x w).1 w k = sOddN fl x w k := by
  have hT := wl.2.1
  have hN := wl.2.2.2.1
  have hV := wl.2.2.2.2.2.1
  have hlow := sAll_low (fl := fl) (dq := dq) (k := k) (cl := cl) (x := x) w
  unfold sOddN
  by_cases h : sTakes fl x w k
  · have h' := (sTakes_low hlow (by omega)).mpr h
    obtain ⟨t, b, ht, hb, e1, e2⟩ := sTB wl wx hk hw h
    have e3 : sTh fl (sAll fl dq k cl x w).1 w k = sTh fl x w k := by
      unfold sTh
      rw [sT_low hlow (by omega), e1, nI_clamp (by omega)]
      exact sAll_hi wl wx hk w (by omega) _ (by omega) (by omega)
    rw [e3, sB_low hlow (by omega)]
    simp only [eq_true h, eq_true h']
  · have h' : ¬ sTakes fl (sAll fl dq k cl x w).1 w k := fun q => h ((sTakes_low hlow (by omega)).mp q)
    rw [if_neg (fun q => h' q.1), if_neg (fun q => h q.1)]
def sWv (fl x : xRow) (V k w : Nat) : Int32 := if w < V ∧ xbit (x 2) w then nI (sOddN fl x w k) else 0
set_option maxHeartbeats 1000000 in
theorem c_X12_shows {S : xTS} {R : xTR} {I : xTI} {J : xTJ} {post : xPost} (hM : isModel S R) {b k T N V : Nat} {fl x : xRow} {lw : Option (List (Nat × Nat))} (hb : b ≤ 2192) (wl : WFl fl T N V) (wx : WFx x T N V) (hf : MFilm I fl) (hl : MLaw I fl lw) (hx : MHall I b x) (hkN : k < N) (hx0 : x 0 = nI k) (hp : ∀ I', MSame I I' b → MHall I' b (sShowK fl (sDq fl lw) k V x).1 → (∀ w, w < 6 → I' 153 w = I 153 w + sWv fl x V k w) → post (some (.int (sShowK fl (sDq fl lw) k V x).2)) S R I' J) : xSpec 5 yX12_shows cX12_shows 11 (some .int) 0 0 [.ref 135, .int (nI b)] S R I J post := by
  refine xSpec_of mt_X12_shows (Nat.le_of_ble_eq_true rfl) (fun G C0 hN hR E hI hZ => ?_)
  change XX G 0 0 0 [some (.ref 135), some (.int (nI b)), none, none, none, none, none, none, none, none, none] [] S R I J
  have hN8 := wl.2.2.2.1
  have hT6 := wl.2.1
  have hV6 := wl.2.2.2.2.2.1
  have hk : k < 8 := by omega
  generalize hdq : sDq fl lw = dq at hp
  have hcl2 : sClN fl x k < 2 := by unfold sClN; split <;> decide
  generalize hcle : sClN fl x k = cl at hcl2
  have hsh : sShowK fl dq k V x = (upd (upd (sAll fl dq k cl x V).1 2 ((sAll fl dq k cl x V).1 2 &&& ((sAll fl dq k cl x V).2 ^^^ (-1)))) 0 (nI (k + 1)), (sAll fl dq k cl x V).2) := by unfold sShowK; rw [hcle]
  have hloop : ∀ n w (I1 : xTI) (q6 q7 q8 q9 q10 : Option Value), w + n = V → MSame I I1 b → MHall I1 b (sAll fl dq k cl x w).1 → (∀ u, u < 6 → I1 153 u = I 153 u + (if u < w then sWv fl x V k u else 0)) → XX G 0 0 30 [some (.ref 135), some (.int (nI b)), some (.int (nI k)), some (.int (nI cl)), some (.int (sAll fl dq k cl x w).2), some (.int (nI w)), q6, q7, q8, q9, q10] [] S R I1 J := by
    intro n
    induction n with
    | zero =>
      intro w I1 q6 q7 q8 q9 q10 hw s1 h1 v1
      have hw' : w = V := by omega
      subst hw'
      have e2 : I1 141 2 = nI w := (s1.film hf 2 (by decide)).trans wl.2.2.2.2.1
      have y2 : I1 151 (b + 2) = (sAll fl dq k cl x w).1 2 := h1 2 (by decide)
      have y0 : I1 151 (b + 0) = nI k := (h1 0 (by decide)).trans ((sAll_low w 0 (by decide)).trans hx0)
      refine x_iload C0 rfl dX12_shows_30 ?_
      refine x_aload_n C0 rfl dX12_shows_32 ?_
      refine x_callV [] C0 hN rfl (xRf_of hR (by decide) (Nat.zero_le _) (Nat.zero_le _)) mv_X12_watchers wm_X12_282 dX12_shows_33 (isModel.k0 hM) rfl rfl (Nat.le_of_ble_eq_true rfl) (c_X12_watchers hM ?_)
      refine x_topi e2 ?_
      refine x_icmp_ge (tgt := 263) C0 (by decide) dX12_shows_36 (fun _ => ?_) (fun hkk => absurd ((Int32.le_refl _)) hkk)
      refine x_aload_n C0 rfl dX12_shows_263 ?_
      refine x_getR C0 wf_X12_119 (isModel.k0 hM) rfl rfl (isModel.r24 hM) dX12_shows_264 ?_
      refine x_iload_n C0 rfl dX12_shows_267 ?_
      refine x_iconst (v := nI 2) C0 rfl dX12_shows_268 ?_
      refine x_iaddN C0 dX12_shows_269 ?_
      refine x_dup2 C0 rfl rfl dX12_shows_270 ?_
      refine x_ialoadN C0 (isModel.s24 hM) (by omega) (by omega) dX12_shows_271 ?_
      refine x_topi y2 ?_
      refine x_iload C0 rfl dX12_shows_272 ?_
      refine x_iconst (v := -1) C0 rfl dX12_shows_274 ?_
      refine x_ixor C0 dX12_shows_275 ?_
      refine x_iand C0 dX12_shows_276 ?_
      refine x_iastoreN C0 (isModel.s24 hM) (by omega) (by omega) dX12_shows_277 ?_
      refine x_aload_n C0 rfl dX12_shows_278 ?_
      refine x_getR C0 wf_X12_119 (isModel.k0 hM) rfl rfl (isModel.r24 hM) dX12_shows_279 ?_
      refine x_iload_n C0 rfl dX12_shows_282 ?_
      refine x_iconst (v := nI 0) C0 rfl dX12_shows_283 ?_
      refine x_iaddN C0 dX12_shows_284 ?_
      refine x_dup2 C0 rfl rfl dX12_shows_285 ?_
      refine x_ialoadN C0 (isModel.s24 hM) (by omega) (by omega) dX12_shows_286 ?_
      refine x_topi (v := nI k) (by rw [u2_off _ _ (by omega)]; exact y0) ?_
      refine x_iconst (v := nI 1) C0 rfl dX12_shows_287 ?_
      refine x_iadd C0 dX12_shows_288 ?_
      refine x_topi (nI_add k 1) ?_
      refine x_iastoreN C0 (isModel.s24 hM) (by omega) (by omega) dX12_shows_289 ?_
      refine x_iload C0 rfl dX12_shows_290 ?_
      refine x_iret C0 E (by decide) (by decide) dX12_shows_292 ?_
      rw [hsh] at hp
      refine hp _ ((s1.trans (MSame.st (by omega) (by omega))).trans (MSame.st (by omega) (by omega))) ((h1.upd (i := 2) (by decide) rfl).upd (i := 0) (by decide) rfl) (fun u hu => ?_)
      rw [u2_row _ _ _ (by decide), u2_row _ _ _ (by decide), v1 u hu]
      by_cases q : u < w
      · rw [if_pos q]
      · rw [if_neg q, sWv, if_neg (fun z => q z.1)]
    | succ n ih =>
      intro w I1 q6 q7 q8 q9 q10 hw s1 h1 v1
      have hwV : w < V := by omega
      have e2 : I1 141 2 = nI V := (s1.film hf 2 (by decide)).trans wl.2.2.2.2.1
      have hf1 := s1.film hf
      have hl1 := s1.law hl
      have wy := sAll_WFx (dq := dq) (cl := cl) wl wx hkN w (by omega)
      have hlow := sAll_low (fl := fl) (dq := dq) (k := k) (cl := cl) (x := x) w
      have hoa := sOdd_all (dq := dq) (cl := cl) wl wx hkN hwV
      have hS1 : sAll fl dq k cl x (w + 1) = if xbit ((sAll fl dq k cl x w).1 2) w then
      (sOne fl dq k cl w (sAll fl dq k cl x w).1, if fl (39 + 3 * w) ≤ (sOne fl dq k cl w (sAll fl dq k cl x w).1) (56 + w) then (sAll fl dq k cl x w).2 ||| ((1 : Int32) <<< (nI w &&& 31)) else (sAll fl dq k cl x w).2)
    else sAll fl dq k cl x w := rfl
      have hx2 : (sAll fl dq k cl x w).1 2 = x 2 := hlow 2 (by decide)
      generalize hlf : (sAll fl dq k cl x w).2 = lf at hS1
      generalize hy : (sAll fl dq k cl x w).1 = y at h1 hlow wy hS1 hoa hx2
      have hbody : xbit (y 2) w → XX G 0 0 49 [some (.ref 135), some (.int (nI b)), some (.int (nI k)), some (.int (nI cl)), some (.int lf), some (.int (nI w)), q6, q7, q8, q9, q10] [] S R I1 J := by
        intro hin
        rw [if_pos hin] at hS1
        have hwv : sWv fl x V k w = nI (sOddN fl y w k) := by rw [sWv, if_pos ⟨hwV, by rw [← hx2]; exact hin⟩, hoa]
        have hon : sOddN fl y w k < 2 := by unfold sOddN; split <;> decide
        -- the last stretch: doubt, waver, thought, who leaves
        have hlast : ∀ tk : Int32, (¬ tk = 0 ↔ sTakes fl y w k) → ∀ q6 : Option Value, XX G 0 0 160 [some (.ref 135), some (.int (nI b)), some (.int (nI k)), some (.int (nI cl)), some (.int lf), some (.int (nI w)), q6, some (.int tk), some (.int (sT fl y w k)), some (.int (sB fl y w k)), some (.int (nI (sOddN fl y w k)))] [] S R I1 J := by
          intro tk htk q6
          have y56 : I1 151 (b + 56 + w) = y (56 + w) := h1.at (by omega) (by omega)
          have hgo : ∀ I2 : xTI, (∀ a, a ≠ 149 → a ≠ 150 → I2 a = I1 a) → XX G 0 0 185 [some (.ref 135), some (.int (nI b)), some (.int (nI k)), some (.int (nI cl)), some (.int lf), some (.int (nI w)), q6, some (.int tk), some (.int (sT fl y w k)), some (.int (sB fl y w k)), some (.int (nI (sOddN fl y w k)))] [] S R (u2 I2 151 (b + 56 + w) (y (56 + w) + dq w k cl (sOddN fl y w k))) J := by
            intro I2 hI2
            have m2 : MHall (u2 I2 151 (b + 56 + w) (y (56 + w) + dq w k cl (sOddN fl y w k))) b (upd y (56 + w) (y (56 + w) + dq w k cl (sOddN fl y w k))) := (h1.congr (hI2 151 (by decide) (by decide))).upd (by omega) (by omega)
            have s2 : MSame I (u2 I2 151 (b + 56 + w) (y (56 + w) + dq w k cl (sOddN fl y w k))) b := (s1.trans (MSame.fs hI2)).trans (MSame.st (by omega) (by omega))
            have v2 : ∀ u, u < 6 → u2 I2 151 (b + 56 + w) (y (56 + w) + dq w k cl (sOddN fl y w k)) 153 u = I 153 u + (if u < w then sWv fl x V k u else 0) := fun u hu => by
              rw [u2_row _ _ _ (by decide), hI2 153 (by decide) (by decide)]; exact v1 u hu
            generalize u2 I2 151 (b + 56 + w) (y (56 + w) + dq w k cl (sOddN fl y w k)) = I3 at m2 s2 v2 ⊢
            have hfin : ∀ (I4 : xTI) (q6 q7 q8 q9 q10 : Option Value), MSame I I4 b → MHall I4 b (sOne fl dq k cl w y) → (∀ u, u < 6 → I4 153 u = I 153 u + (if u < w + 1 then sWv fl x V k u else 0)) → XX G 0 0 222 [some (.ref 135), some (.int (nI b)), some (.int (nI k)), some (.int (nI cl)), some (.int lf), some (.int (nI w)), q6, q7, q8, q9, q10] [] S R I4 J := by
              intro I4 q6 q7 q8 q9 q10 s4 m4 v4
              have z56 : I4 151 (b + 56 + w) = sOne fl dq k cl w y (56 + w) := m4.at (by omega) (by omega)
              have hf4 := s4.film hf
              refine x_iload C0 rfl dX12_shows_222 ?_
              refine x_aload_n C0 rfl dX12_shows_224 ?_
              refine x_getR C0 wf_X12_119 (isModel.k0 hM) rfl rfl (isModel.r24 hM) dX12_shows_225 ?_
              refine x_iload_n C0 rfl dX12_shows_228 ?_
              refine x_bipush (v := nI 56) C0 rfl dX12_shows_229 ?_
              refine x_iaddN C0 dX12_shows_231 ?_
              refine x_iload C0 rfl dX12_shows_232 ?_
              refine x_iaddN C0 dX12_shows_234 ?_
              refine x_ialoadN C0 (isModel.s24 hM) (by omega) (by omega) dX12_shows_235 ?_
              refine x_topi z56 ?_
              refine x_aload_n C0 rfl dX12_shows_236 ?_
              refine x_iload C0 rfl dX12_shows_237 ?_
              refine x_iconst (v := nI 2) C0 rfl dX12_shows_239 ?_
              refine x_callV [_, _] C0 hN rfl (xRf_of hR (by decide) (Nat.zero_le _) (Nat.zero_le _)) mv_X12_watcherOf wm_X12_310 dX12_shows_240 (isModel.k0 hM) rfl rfl (Nat.le_of_ble_eq_true rfl) (c_X12_watcherOf hM (by omega) (by omega) ?_)
              refine x_topi (v := fl (39 + 3 * w)) (by rw [hf4 (37 + 3 * w + 2) (by omega), show 37 + 3 * w + 2 = 39 + 3 * w by omega]) ?_
              refine x_icmp_lt (tgt := 253) C0 (by decide) dX12_shows_243 (fun g243 => ?_) (fun g243 => ?_)
              · refine x_iconst (v := 0) C0 rfl dX12_shows_253 ?_
                refine x_ior C0 dX12_shows_254 ?_
                refine x_istore (L' := [_, _, _, _, _, _, _, _, _, _, _]) C0 hN (by decide) rfl dX12_shows_255 ?_
                refine x_iinc (v := nI (w + 1)) (L' := [_, _, _, _, _, _, _, _, _, _, _]) C0 hN rfl (by decide) (nI_inc w) rfl dX12_shows_257 ?_
                refine x_goto (tgt := 30) C0 (by decide) dX12_shows_260 ?_
                rw [if_neg (fun z => absurd g243 (i_nlt.mpr z))] at hS1
                have := ih (w + 1) I4 q6 q7 q8 q9 q10 (by omega) s4 (by rw [hS1]; exact m4) v4
                rw [hS1] at this
                refine x_I rfl ?_
                rw [show lf ||| 0 = lf from Int32.or_zero]
                exact this
              · refine x_iconst (v := 1) C0 rfl dX12_shows_246 ?_
                refine x_iload C0 rfl dX12_shows_247 ?_
                refine x_ishl C0 dX12_shows_249 ?_
                refine x_goto (tgt := 254) C0 (by decide) dX12_shows_250 ?_
                refine x_ior C0 dX12_shows_254 ?_
                refine x_istore (L' := [_, _, _, _, _, _, _, _, _, _, _]) C0 hN (by decide) rfl dX12_shows_255 ?_
                refine x_iinc (v := nI (w + 1)) (L' := [_, _, _, _, _, _, _, _, _, _, _]) C0 hN rfl (by decide) (nI_inc w) rfl dX12_shows_257 ?_
                refine x_goto (tgt := 30) C0 (by decide) dX12_shows_260 ?_
                rw [if_pos (i_nlt.mp g243)] at hS1
                have := ih (w + 1) I4 q6 q7 q8 q9 q10 (by omega) s4 (by rw [hS1]; exact m4) v4
                rw [hS1] at this
                exact this
            have v3 : ∀ u, u < 6 → u2 I3 153 w (I3 153 w + nI (sOddN fl y w k)) 153 u = I 153 u + (if u < w + 1 then sWv fl x V k u else 0) := fun u hu => by
              by_cases q : u = w
              · subst q
                rw [u2_same, v2 u hu, if_neg (by omega), if_pos (by omega), hwv, Int32.add_zero]
              · rw [u2_off _ _ q, v2 u hu]
                by_cases z : u < w
                · rw [if_pos z, if_pos (by omega)]
                · rw [if_neg z, if_neg (by omega)]
            have m3 : MHall (u2 I3 153 w (I3 153 w + nI (sOddN fl y w k))) b (upd y (56 + w) (y (56 + w) + dq w k cl (sOddN fl y w k))) := m2.congr (u2_row _ _ _ (by decide))
            have s3 : MSame I (u2 I3 153 w (I3 153 w + nI (sOddN fl y w k))) b := s2.trans MSame.wv
            refine x_aload_n C0 rfl dX12_shows_185 ?_
            refine x_getR C0 wf_X12_126 (isModel.k0 hM) rfl rfl (isModel.r27 hM) dX12_shows_186 ?_
            refine x_iload C0 rfl dX12_shows_189 ?_
            refine x_dup2 C0 rfl rfl dX12_shows_191 ?_
            refine x_ialoadN C0 (isModel.s27 hM) (by omega) (by omega) dX12_shows_192 ?_
            refine x_iload C0 rfl dX12_shows_193 ?_
            refine x_iadd C0 dX12_shows_195 ?_
            refine x_iastoreN C0 (isModel.s27 hM) (by omega) (by omega) dX12_shows_196 ?_
            refine x_iload C0 rfl dX12_shows_197 ?_
            refine x_if_eq (tgt := 222) C0 (by decide) dX12_shows_199 (fun g199 => ?_) (fun g199 => ?_)
            · refine hfin _ _ _ _ _ _ s3 ?_ v3
              unfold sOne
              rw [if_neg (fun q => (htk.mpr q) g199)]
              exact m3
            · obtain ⟨t, b2, ht, hb2, st, sb⟩ := sTB wl wy hkN hwV (htk.mp g199)
              rw [st, sb]
              refine x_aload_n C0 rfl dX12_shows_202 ?_
              refine x_getR C0 wf_X12_119 (isModel.k0 hM) rfl rfl (isModel.r24 hM) dX12_shows_203 ?_
              refine x_iload_n C0 rfl dX12_shows_206 ?_
              refine x_bipush (v := nI 20) C0 rfl dX12_shows_207 ?_
              refine x_iaddN C0 dX12_shows_209 ?_
              refine x_bipush (v := nI 6) C0 rfl dX12_shows_210 ?_
              refine x_iload C0 rfl dX12_shows_212 ?_
              refine x_imulN C0 dX12_shows_214 ?_
              refine x_iaddN C0 dX12_shows_215 ?_
              refine x_iload C0 rfl dX12_shows_216 ?_
              refine x_iaddN C0 dX12_shows_218 ?_
              refine x_iload C0 rfl dX12_shows_219 ?_
              refine x_iastoreN C0 (isModel.s24 hM) (by omega) (by omega) dX12_shows_221 ?_
              refine hfin _ _ _ _ _ _ (s3.trans (MSame.st (by omega) (by omega))) ?_ (fun u hu => by rw [u2_row _ _ _ (by decide)]; exact v3 u hu)
              unfold sOne
              rw [if_pos (htk.mp g199), st, sb, nI_clamp (by omega)]
              exact m3.upd (by omega) (by omega)
          refine x_aload_n C0 rfl dX12_shows_160 ?_
          refine x_getR C0 wf_X12_119 (isModel.k0 hM) rfl rfl (isModel.r24 hM) dX12_shows_161 ?_
          refine x_iload_n C0 rfl dX12_shows_164 ?_
          refine x_bipush (v := nI 56) C0 rfl dX12_shows_165 ?_
          refine x_iaddN C0 dX12_shows_167 ?_
          refine x_iload C0 rfl dX12_shows_168 ?_
          refine x_iaddN C0 dX12_shows_170 ?_
          refine x_dup2 C0 rfl rfl dX12_shows_171 ?_
          refine x_ialoadN C0 (isModel.s24 hM) (by omega) (by omega) dX12_shows_172 ?_
          refine x_topi y56 ?_
          refine x_aload_n C0 rfl dX12_shows_173 ?_
          refine x_iload C0 rfl dX12_shows_174 ?_
          refine x_iload_n C0 rfl dX12_shows_176 ?_
          refine x_iload C0 rfl dX12_shows_177 ?_
          refine x_iload_n C0 rfl dX12_shows_179 ?_
          refine x_callV [_, _, _, _] C0 hN rfl (xRf_of hR (by decide) (Nat.zero_le _) (Nat.zero_le _)) mv_X12_doubtBy wm_X12_328 dX12_shows_180 (isModel.k0 hM) rfl rfl (Nat.le_of_ble_eq_true rfl) (c_X12_doubtBy hM (by omega) hcl2 hon hk hf1 hl1 (fun I2 hI2 => ?_))
          rw [hdq]
          refine x_iadd C0 dX12_shows_183 ?_
          refine x_iastoreN C0 (isModel.s24 hM) (by omega) (by omega) dX12_shows_184 ?_
          exact hgo I2 hI2
        have hodd : ∀ tk : Int32, (¬ tk = 0 ↔ sTakes fl y w k) → ∀ q6 q10 : Option Value, XX G 0 0 122 [some (.ref 135), some (.int (nI b)), some (.int (nI k)), some (.int (nI cl)), some (.int lf), some (.int (nI w)), q6, some (.int tk), some (.int (sT fl y w k)), some (.int (sB fl y w k)), q10] [] S R I1 J := by
          intro tk htk q6 q10
          have hl3 := hlast tk htk q6
          by_cases tt : sTakes fl y w k
          · obtain ⟨t, b2, ht, hb2, st, sb⟩ := sTB wl wy hkN hwV tt
            have yth : I1 151 (b + 20 + 6 * w + t) = y (20 + 6 * w + t) := h1.at (by omega) (by omega)
            have eth : sTh fl y w k = y (20 + 6 * w + t) := by unfold sTh; rw [st, nI_clamp (by omega)]
            have hne := htk.mpr tt
            unfold sOddN at hl3
            rw [eth, sb, st] at hl3
            rw [sb, st]
            refine x_iload C0 rfl dX12_shows_122 ?_
            refine x_if_eq (tgt := 157) C0 (by decide) dX12_shows_124 (fun hkk => absurd hkk (hne)) (fun _ => ?_)
            refine x_aload_n C0 rfl dX12_shows_127 ?_
            refine x_iload_n C0 rfl dX12_shows_128 ?_
            refine x_iload C0 rfl dX12_shows_129 ?_
            refine x_iload C0 rfl dX12_shows_131 ?_
            refine x_callV [_, _, _] C0 hN rfl (xRf_of hR (by decide) (Nat.zero_le _) (Nat.zero_le _)) mv_X12_thoughtOf wm_X12_325 dX12_shows_133 (isModel.k0 hM) rfl rfl (Nat.le_of_ble_eq_true rfl) (c_X12_thoughtOf hM (by omega) (by omega) (by omega) ?_)
            refine x_topi yth ?_
            refine x_if_lt (tgt := 157) C0 (by decide) dX12_shows_136 (fun g136 => ?_) (fun g136 => ?_)
            · refine x_iconst (v := nI 0) C0 rfl dX12_shows_157 ?_
              refine x_istore (L' := [_, _, _, _, _, _, _, _, _, _, _]) C0 hN (by decide) rfl dX12_shows_158 ?_
              rw [if_neg (fun q => (i_nlt.mpr q.2.1) g136)] at hl3
              exact hl3
            · refine x_aload_n C0 rfl dX12_shows_139 ?_
              refine x_iload_n C0 rfl dX12_shows_140 ?_
              refine x_iload C0 rfl dX12_shows_141 ?_
              refine x_iload C0 rfl dX12_shows_143 ?_
              refine x_callV [_, _, _] C0 hN rfl (xRf_of hR (by decide) (Nat.zero_le _) (Nat.zero_le _)) mv_X12_thoughtOf wm_X12_325 dX12_shows_145 (isModel.k0 hM) rfl rfl (Nat.le_of_ble_eq_true rfl) (c_X12_thoughtOf hM (by omega) (by omega) (by omega) ?_)
              refine x_topi yth ?_
              refine x_iload C0 rfl dX12_shows_148 ?_
              refine x_icmp_eq (tgt := 157) C0 (by decide) dX12_shows_150 (fun g150 => ?_) (fun g150 => ?_)
              · refine x_iconst (v := nI 0) C0 rfl dX12_shows_157 ?_
                refine x_istore (L' := [_, _, _, _, _, _, _, _, _, _, _]) C0 hN (by decide) rfl dX12_shows_158 ?_
                rw [if_neg (fun q => q.2.2 g150)] at hl3
                exact hl3
              · refine x_iconst (v := nI 1) C0 rfl dX12_shows_153 ?_
                refine x_goto (tgt := 158) C0 (by decide) dX12_shows_154 ?_
                refine x_istore (L' := [_, _, _, _, _, _, _, _, _, _, _]) C0 hN (by decide) rfl dX12_shows_158 ?_
                rw [if_pos ⟨tt, i_nlt.mp g136, g150⟩] at hl3
                exact hl3
          · have h0 : tk = 0 := Decidable.byContradiction (fun q => tt (htk.mp q))
            have hon0 : sOddN fl y w k = 0 := by unfold sOddN; rw [if_neg (fun q => tt q.1)]
            rw [hon0] at hl3
            refine x_iload C0 rfl dX12_shows_122 ?_
            refine x_if_eq (tgt := 157) C0 (by decide) dX12_shows_124 (fun _ => ?_) (fun hkk => absurd (h0) hkk)
            refine x_iconst (v := nI 0) C0 rfl dX12_shows_157 ?_
            refine x_istore (L' := [_, _, _, _, _, _, _, _, _, _, _]) C0 hN (by decide) rfl dX12_shows_158 ?_
            exact hl3
        have hmid : ∀ r tk : Int32, (¬ r = 0 ↔ sReads fl y w k) → (¬ tk = 0 ↔ sTakes fl y w k) → XX G 0 0 69 [some (.ref 135), some (.int (nI b)), some (.int (nI k)), some (.int (nI cl)), some (.int lf), some (.int (nI w)), some (.int r), some (.int tk), q8, q9, q10] [] S R I1 J := by
          intro r tk hr htk
          have hod := hodd tk htk (some (.int r)) q10
          have yt : I1 151 (b + 4 + k) = y (4 + k) := h1.at (by omega) (by omega)
          have yb : I1 151 (b + 12 + k) = y (12 + k) := h1.at (by omega) (by omega)
          by_cases rr : sReads fl y w k
          · have hne := hr.mpr rr
            unfold sT sB at hod
            rw [if_pos rr, if_pos rr] at hod
            refine x_iload C0 rfl dX12_shows_69 ?_
            refine x_if_eq (tgt := 87) C0 (by decide) dX12_shows_71 (fun hkk => absurd hkk (hne)) (fun _ => ?_)
            refine x_aload_n C0 rfl dX12_shows_74 ?_
            refine x_getR C0 wf_X12_119 (isModel.k0 hM) rfl rfl (isModel.r24 hM) dX12_shows_75 ?_
            refine x_iload_n C0 rfl dX12_shows_78 ?_
            refine x_iconst (v := nI 4) C0 rfl dX12_shows_79 ?_
            refine x_iaddN C0 dX12_shows_80 ?_
            refine x_iload_n C0 rfl dX12_shows_81 ?_
            refine x_iaddN C0 dX12_shows_82 ?_
            refine x_ialoadN C0 (isModel.s24 hM) (by omega) (by omega) dX12_shows_83 ?_
            refine x_topi yt ?_
            refine x_goto (tgt := 93) C0 (by decide) dX12_shows_84 ?_
            refine x_istore (L' := [_, _, _, _, _, _, _, _, _, _, _]) C0 hN (by decide) rfl dX12_shows_93 ?_
            refine x_iload C0 rfl dX12_shows_95 ?_
            refine x_if_eq (tgt := 114) C0 (by decide) dX12_shows_97 (fun hkk => absurd hkk (hne)) (fun _ => ?_)
            refine x_aload_n C0 rfl dX12_shows_100 ?_
            refine x_getR C0 wf_X12_119 (isModel.k0 hM) rfl rfl (isModel.r24 hM) dX12_shows_101 ?_
            refine x_iload_n C0 rfl dX12_shows_104 ?_
            refine x_bipush (v := nI 12) C0 rfl dX12_shows_105 ?_
            refine x_iaddN C0 dX12_shows_107 ?_
            refine x_iload_n C0 rfl dX12_shows_108 ?_
            refine x_iaddN C0 dX12_shows_109 ?_
            refine x_ialoadN C0 (isModel.s24 hM) (by omega) (by omega) dX12_shows_110 ?_
            refine x_topi yb ?_
            refine x_goto (tgt := 120) C0 (by decide) dX12_shows_111 ?_
            refine x_istore (L' := [_, _, _, _, _, _, _, _, _, _, _]) C0 hN (by decide) rfl dX12_shows_120 ?_
            exact hod
          · have h0 : r = 0 := Decidable.byContradiction (fun q => rr (hr.mp q))
            unfold sT sB at hod
            rw [if_neg rr, if_neg rr] at hod
            refine x_iload C0 rfl dX12_shows_69 ?_
            refine x_if_eq (tgt := 87) C0 (by decide) dX12_shows_71 (fun _ => ?_) (fun hkk => absurd (h0) hkk)
            refine x_aload_n C0 rfl dX12_shows_87 ?_
            refine x_iload_n C0 rfl dX12_shows_88 ?_
            refine x_iload_n C0 rfl dX12_shows_89 ?_
            refine x_callV [_, _] C0 hN rfl (xRf_of hR (by decide) (Nat.zero_le _) (Nat.zero_le _)) mv_X12_saidThing wm_X12_304 dX12_shows_90 (isModel.k0 hM) rfl rfl (Nat.le_of_ble_eq_true rfl) (c_X12_saidThing hM hb hk hf1 h1 ?_)
            refine x_istore (L' := [_, _, _, _, _, _, _, _, _, _, _]) C0 hN (by decide) rfl dX12_shows_93 ?_
            refine x_iload C0 rfl dX12_shows_95 ?_
            refine x_if_eq (tgt := 114) C0 (by decide) dX12_shows_97 (fun _ => ?_) (fun hkk => absurd (h0) hkk)
            refine x_aload_n C0 rfl dX12_shows_114 ?_
            refine x_iload_n C0 rfl dX12_shows_115 ?_
            refine x_iload_n C0 rfl dX12_shows_116 ?_
            refine x_callV [_, _] C0 hN rfl (xRf_of hR (by decide) (Nat.zero_le _) (Nat.zero_le _)) mv_X12_saidIs wm_X12_307 dX12_shows_117 (isModel.k0 hM) rfl rfl (Nat.le_of_ble_eq_true rfl) (c_X12_saidIs hM hb hk hf1 h1 ?_)
            refine x_istore (L' := [_, _, _, _, _, _, _, _, _, _, _]) C0 hN (by decide) rfl dX12_shows_120 ?_
            exact hod
        refine x_aload_n C0 rfl dX12_shows_49 ?_
        refine x_iload_n C0 rfl dX12_shows_50 ?_
        refine x_iload C0 rfl dX12_shows_51 ?_
        refine x_iload_n C0 rfl dX12_shows_53 ?_
        refine x_callV [_, _, _] C0 hN rfl (xRf_of hR (by decide) (Nat.zero_le _) (Nat.zero_le _)) mv_X12_doesRead wm_X12_313 dX12_shows_54 (isModel.k0 hM) rfl rfl (Nat.le_of_ble_eq_true rfl) (c_X12_doesRead hM hb hk (by omega) hf1 h1 (fun g54 => ?_) (fun g54 => ?_))
        · refine x_istore (L' := [_, _, _, _, _, _, _, _, _, _, _]) C0 hN (by decide) rfl dX12_shows_57 ?_
          refine x_aload_n C0 rfl dX12_shows_59 ?_
          refine x_iload_n C0 rfl dX12_shows_60 ?_
          refine x_iload C0 rfl dX12_shows_61 ?_
          refine x_iload_n C0 rfl dX12_shows_63 ?_
          refine x_callV [_, _, _] C0 hN rfl (xRf_of hR (by decide) (Nat.zero_le _) (Nat.zero_le _)) mv_X12_doesTake wm_X12_322 dX12_shows_64 (isModel.k0 hM) rfl rfl (Nat.le_of_ble_eq_true rfl) (c_X12_doesTake hM hb hk (by omega) hf1 h1 (fun g64 => ?_) (fun g64 => ?_))
          · refine x_istore (L' := [_, _, _, _, _, _, _, _, _, _, _]) C0 hN (by decide) rfl dX12_shows_67 ?_
            exact hmid 1 1 ⟨fun _ => g54, fun _ => by decide⟩ ⟨fun _ => g64, fun _ => by decide⟩
          · refine x_istore (L' := [_, _, _, _, _, _, _, _, _, _, _]) C0 hN (by decide) rfl dX12_shows_67 ?_
            exact hmid 1 0 ⟨fun _ => g54, fun _ => by decide⟩ ⟨fun q => absurd rfl q, fun q => absurd q g64⟩
        · refine x_istore (L' := [_, _, _, _, _, _, _, _, _, _, _]) C0 hN (by decide) rfl dX12_shows_57 ?_
          refine x_aload_n C0 rfl dX12_shows_59 ?_
          refine x_iload_n C0 rfl dX12_shows_60 ?_
          refine x_iload C0 rfl dX12_shows_61 ?_
          refine x_iload_n C0 rfl dX12_shows_63 ?_
          refine x_callV [_, _, _] C0 hN rfl (xRf_of hR (by decide) (Nat.zero_le _) (Nat.zero_le _)) mv_X12_doesTake wm_X12_322 dX12_shows_64 (isModel.k0 hM) rfl rfl (Nat.le_of_ble_eq_true rfl) (c_X12_doesTake hM hb hk (by omega) hf1 h1 (fun g64 => ?_) (fun g64 => ?_))
          · refine x_istore (L' := [_, _, _, _, _, _, _, _, _, _, _]) C0 hN (by decide) rfl dX12_shows_67 ?_
            exact hmid 0 1 ⟨fun q => absurd rfl q, fun q => absurd q g54⟩ ⟨fun _ => g64, fun _ => by decide⟩
          · refine x_istore (L' := [_, _, _, _, _, _, _, _, _, _, _]) C0 hN (by decide) rfl dX12_shows_67 ?_
            exact hmid 0 0 ⟨fun q => absurd rfl q, fun q => absurd q g54⟩ ⟨fun q => absurd rfl q, fun q => absurd q g64⟩
      have y2 : I1 151 (b + 2) = y 2 := h1 2 (by decide)
      refine x_iload C0 rfl dX12_shows_30 ?_
      refine x_aload_n C0 rfl dX12_shows_32 ?_
      refine x_callV [] C0 hN rfl (xRf_of hR (by decide) (Nat.zero_le _) (Nat.zero_le _)) mv_X12_watchers wm_X12_282 dX12_shows_33 (isModel.k0 hM) rfl rfl (Nat.le_of_ble_eq_true rfl) (c_X12_watchers hM ?_)
      refine x_topi e2 ?_
      refine x_icmp_ge (tgt := 263) C0 (by decide) dX12_shows_36 (fun hkk => absurd hkk (nI_ge hwV (by omega))) (fun _ => ?_)
      refine x_aload_n C0 rfl dX12_shows_39 ?_
      refine x_iload_n C0 rfl dX12_shows_40 ?_
      refine x_iload C0 rfl dX12_shows_41 ?_
      refine x_callV [_, _] C0 hN rfl (xRf_of hR (by decide) (Nat.zero_le _) (Nat.zero_le _)) mv_X12_isIn wm_X12_319 dX12_shows_43 (isModel.k0 hM) rfl rfl (Nat.le_of_ble_eq_true rfl) (c_X12_isIn hM hb (fun g43 => ?_) (fun g43 => ?_))
      · refine x_if_eq (tgt := 257) C0 (by decide) dX12_shows_46 (fun hkk => absurd hkk (by decide)) (fun _ => ?_)
        exact hbody (by rw [← y2]; exact g43)
      · refine x_if_eq (tgt := 257) C0 (by decide) dX12_shows_46 (fun _ => ?_) (fun hkk => absurd (by decide) hkk)
        refine x_iinc (v := nI (w + 1)) (L' := [_, _, _, _, _, _, _, _, _, _, _]) C0 hN rfl (by decide) (nI_inc w) rfl dX12_shows_257 ?_
        refine x_goto (tgt := 30) C0 (by decide) dX12_shows_260 ?_
        have hns : ¬ xbit (y 2) w := by rw [← y2]; exact g43
        rw [if_neg hns] at hS1
        have hwv : sWv fl x V k w = 0 := by rw [sWv, if_neg (fun q => hns (by rw [hx2]; exact q.2))]
        have := ih (w + 1) I1 q6 q7 q8 q9 q10 (by omega) s1 (by rw [hS1, hy]; exact h1) (fun u hu => by
          rw [v1 u hu]
          by_cases q : u = w
          · subst q; rw [if_neg (by omega), if_pos (by omega), hwv]
          · by_cases z : u < w
            · rw [if_pos z, if_pos (by omega)]
            · rw [if_neg z, if_neg (by omega)])
        rw [hS1, hlf] at this
        exact this
  have y0 : I 151 (b + 0) = nI k := (hx 0 (by decide)).trans hx0
  have hst : ∀ v : Int32, v = nI cl → XX G 0 0 23 [some (.ref 135), some (.int (nI b)), some (.int (nI k)), none, none, none, none, none, none, none, none] [.int v] S R I J := by
    intro v hv
    subst hv
    refine x_istore_n (L' := [_, _, _, _, _, _, _, _, _, _, _]) C0 hN (by decide) rfl dX12_shows_23 ?_
    refine x_iconst (v := 0) C0 rfl dX12_shows_24 ?_
    refine x_istore (L' := [_, _, _, _, _, _, _, _, _, _, _]) C0 hN (by decide) rfl dX12_shows_25 ?_
    refine x_iconst (v := nI 0) C0 rfl dX12_shows_27 ?_
    refine x_istore (L' := [_, _, _, _, _, _, _, _, _, _, _]) C0 hN (by decide) rfl dX12_shows_28 ?_
    exact hloop V 0 I none none none none none (by omega) MSame.rf hx (fun u hu => by rw [if_neg (by omega), Int32.add_zero])
  refine x_aload_n C0 rfl dX12_shows_0 ?_
  refine x_getR C0 wf_X12_119 (isModel.k0 hM) rfl rfl (isModel.r24 hM) dX12_shows_1 ?_
  refine x_iload_n C0 rfl dX12_shows_4 ?_
  refine x_iconst (v := nI 0) C0 rfl dX12_shows_5 ?_
  refine x_iaddN C0 dX12_shows_6 ?_
  refine x_ialoadN C0 (isModel.s24 hM) (by omega) (by omega) dX12_shows_7 ?_
  refine x_topi y0 ?_
  refine x_istore_n (L' := [_, _, _, _, _, _, _, _, _, _, _]) C0 hN (by decide) rfl dX12_shows_8 ?_
  refine x_aload_n C0 rfl dX12_shows_9 ?_
  refine x_iload_n C0 rfl dX12_shows_10 ?_
  refine x_iload_n C0 rfl dX12_shows_11 ?_
  refine x_callV [_, _] C0 hN rfl (xRf_of hR (by decide) (Nat.zero_le _) (Nat.zero_le _)) mv_X12_doesClash wm_X12_316 dX12_shows_12 (isModel.k0 hM) rfl rfl (Nat.le_of_ble_eq_true rfl) (c_X12_doesClash hM hb hk hf hx (fun g12 => ?_) (fun g12 => ?_))
  · refine x_if_eq (tgt := 22) C0 (by decide) dX12_shows_15 (fun hkk => absurd hkk (by decide)) (fun _ => ?_)
    refine x_iconst (v := 1) C0 rfl dX12_shows_18 ?_
    refine x_goto (tgt := 23) C0 (by decide) dX12_shows_19 ?_
    exact hst 1 (by rw [← hcle, sClN, if_pos g12]; rfl)
  · refine x_if_eq (tgt := 22) C0 (by decide) dX12_shows_15 (fun _ => ?_) (fun hkk => absurd (by decide) hkk)
    refine x_iconst (v := 0) C0 rfl dX12_shows_22 ?_
    exact hst 0 (by rw [← hcle, sClN, if_neg g12]; rfl)
