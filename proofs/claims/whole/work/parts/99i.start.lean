/-! THE CLAIM OUT OF ONE WALK OF THE LAW'S BODY. Your part is whole_start (and what it stands on); all else here is the same for every law, but numbers. -/
def R_law : String := "FilmFootLaw"
def lw_P (b : Addr) (xs : List Int32) (args : Array Value) (s : State) : Prop := args = #[.ref b] ∧ s.IntsAt b xs ∧ xs.length ≤ 3584 ∧ (Jvm.Cond.and given_1 narrow_1).before args s = true
def lw_Q (_ : Array Value) (s : State) (o : Outcome) (t : State) : Prop := o = .returned (some (.int 1)) ∧ Framed s o t [] 601024 7293034
def lw_Z (below : List Frame) (a : Array Value) (s : State) : State → Prop := fun t => ∃ o, t.status = .running ∧ Ended t below o ∧ lw_Q a s o t
/-- the law's own end, with 1 on the stack, nothing written that was there before, its room as the claim has it -/
theorem lw_ret {p : Program} {l : Launch} {e : Env} {s : State} {m : MethodId} {below : List Frame} {meth : Method} {c : Code} {b : Nat} (hx : p.tables.exec = Jvm.exec) (hb : c.code = code) (hr : meth.sig.returnType = ret) (hlocks : meth.locks = false) {pc : Nat} {H : Heap} {ls : Array Slot} (hdg : decode code pc = .ok (.ireturn, 1)) : W p l e room_1 s m #[Value.ref b] below meth c H [] 601024 7293034 (lw_Z below #[Value.ref b] s) (F0 m pc ls [.int 1]) := by
  intro T hT X
  obtain ⟨fs, hret, hrun, hended, hW, hframe⟩ := X.leave (v := some (.int 1)) (hlocks := hlocks) (fun h => by rw [hr] at h; cases h)
  have hmeth' : T.vm.method? m = some meth := X.method'
  refine ⟨T.setFrames fs, ?_, .returned (some (.int 1)), hrun, hended, rfl, ⟨_, rfl⟩, hW, hframe⟩
  jvm_step X.here [X.here.top, hx, hb, hdg, hmeth', hr, ret, narrow_b1]
  (try refine ⟨rfl, ?_⟩); (try refine ⟨rfl, ?_⟩)
  first | (intro acts; rw [hret _ acts rfl rfl rfl]) | rw [hret _ _ rfl rfl rfl]
  exact Steps.refl _
/-- what holds at the law's entry: the machine, the code, the tables' words (any of lw_tbl by 'hts w (by decide +kernel)'), the script of L ints xs at the cell b, what the Statement gives of the start (any of its parts by flat_of_before) -/
def lw_At (p : Program) (s : State) (m : MethodId) (meth : Method) (c : Code) (b L : Nat) (xs : Nat → Int32) : Prop :=
  p.tables.exec = Jvm.exec ∧ c.code = code ∧ meth.sig.returnType = ret ∧ c.maxLocals = 7 ∧ s.vm.findClass R_law = some m.cls ∧ (∀ w ∈ lw_tbl, w.before #[Value.ref b] s = true) ∧ va_X b L xs s s.heap ∧ b < s.heap.size ∧ meth.locks = false ∧ (Jvm.Cond.and given_1 narrow_1).before #[Value.ref b] s = true
/-! WHAT THE STATEMENT GIVES OF THE START -/
theorem xk_arr {args : Array Value} {s : State} {t : FieldType} (h : (Cond.arrayClass t).before args s = true) (ho : ∀ C, t ≠ .object C) : ∃ c : ClassId, ArrOfT s c t ∧ va_RA s c t := by
  obtain ⟨c, k, comp, h1, h2, h3⟩ := Cond.arrayClass_spec h
  refine ⟨c, fun N z => ⟨(fun q hq => by cases hq), k, h2, comp, h3⟩, ?_⟩
  cases t with
  | object C => exact absurd rfl (ho C)
  | _ => exact h1
theorem xk_obj {args : Array Value} {s : State} {C : String} (h : (Cond.arrayOver (.object C)).before args s = true) : ∃ c : ClassId, ArrOfT s c (.object C) ∧ va_RA s c (.object C) := by
  obtain ⟨comp, c, k, h1, -, h2, h3, h4⟩ := Cond.arrayOver_spec h
  exact ⟨c, fun N z => ⟨(fun q hq => by cases hq), k, h2, comp, h3⟩, k, comp, h2, h3, h1, h4⟩
def xNar : List Cond := flatC (Jvm.Cond.and given_1 narrow_1)
theorem xn_ex : ∀ i, i < 26 → Cond.exactly (.static xWc (xWnm.getD i "") xWd) xWc ∈ xNar := by decide +kernel
theorem xn_or : ∀ i, i < 26 → Cond.eq (.field (.static xWc (xWnm.getD i "") xWd) "java/lang/Enum" "ordinal" "I") (.int (Int32.ofNat i)) ∈ xNar := by decide +kernel
theorem xn_co : ∀ i, i < 26 → Cond.eq (.field (.static xWc (xWnm.getD i "") xWd) xWc "code" "J") (.long (xWcode i)) ∈ xNar := by decide +kernel
theorem xn_ke : ∀ i, i < 26 → Cond.eq (.field (.static xWc (xWnm.getD i "") xWd) xWc "kept" "Z") (.int (xWkept i)) ∈ xNar := by decide +kernel
theorem xn_el : ∀ i, i < 26 → Cond.eq (.elem (.static xWc "ALL" "[LFilmFoot$Word;") (.int (Int32.ofNat i))) (.static xWc (xWnm.getD i "") xWd) ∈ xNar := by decide +kernel
theorem xn_sb : ∀ j, j < 8 → Cond.eq (.elem (.field (.string "FilmFoot$Tape" 57) "java/lang/String" "value" "[B") (.int (Int32.ofNat j))) (.int (xSb.getD j 0)) ∈ xNar := by decide +kernel
theorem xo_at : ∀ i, i < 26 → ([0, 1, 2, 3, 4, 5, 6, 7, 8, 9, 10, 11, 12, 13, 14, 15, 16, 17, 18, 19, 20, 21, 22, 23, 24, 25] : List Int32).getD i 0 = Int32.ofNat i := by decide +kernel
theorem xl_st : ∀ i, i < 26 → Cond.laysStatic xWc (xWnm.getD i "") xWd ∈ lw_tbl := fun i hi => match i, hi with
  | 0, _ => (List.mem_append_right _ (xt3 5 rfl))
  | 1, _ => (List.mem_append_right _ (xt3 48 rfl))
  | 2, _ => (List.mem_append_right _ (xt3 57 rfl))
  | 3, _ => (List.mem_append_right _ (xt3 59 rfl))
  | 4, _ => (List.mem_append_right _ (xt3 64 rfl))
  | 5, _ => (List.mem_append_right _ (xt3 78 rfl))
  | 6, _ => (List.mem_append_right _ (xt3 95 rfl))
  | 7, _ => (List.mem_append_right _ (xt3 101 rfl))
  | 8, _ => (List.mem_append_right _ (xt3 107 rfl))
  | 9, _ => (List.mem_append_right _ (xt3 113 rfl))
  | 10, _ => (List.mem_append_right _ (xt3 214 rfl))
  | 11, _ => (List.mem_append_right _ (xt3 216 rfl))
  | 12, _ => (List.mem_append_right _ (xt3 218 rfl))
  | 13, _ => (List.mem_append_right _ (xt3 220 rfl))
  | 14, _ => (List.mem_append_right _ (xt3 222 rfl))
  | 15, _ => (List.mem_append_right _ (xt3 87 rfl))
  | 16, _ => (List.mem_append_right _ (xt3 89 rfl))
  | 17, _ => (List.mem_append_right _ (xt3 91 rfl))
  | 18, _ => (List.mem_append_right _ (xt3 93 rfl))
  | 19, _ => (List.mem_append_right _ (xt3 151 rfl))
  | 20, _ => (List.mem_append_right _ (xt3 163 rfl))
  | 21, _ => (List.mem_append_right _ (xt3 165 rfl))
  | 22, _ => (List.mem_append_right _ (xt3 142 rfl))
  | 23, _ => (List.mem_append_right _ (xt3 145 rfl))
  | 24, _ => (List.mem_append_right _ (xt3 147 rfl))
  | 25, _ => (List.mem_append_right _ (xt3 149 rfl))
  | i + 26, h => absurd h (by omega)
theorem xk_en {s : State} {args : Array Value} (hts : ∀ w ∈ lw_tbl, w.before args s = true) (hs : ∀ w ∈ xNar, w.before args s = true) : ∃ ad : Nat → Nat, va_En xWc xWd xWnm xWF ad (fun q => s.heap.size ≤ q) s s.heap ∧ ∀ i, i < 26 → (Term.static xWc (xWnm.getD i "") xWd).eval args s none [] s = some (.ref (ad i)) := by
  have hA : ∀ a : Nat, a < s.heap.size → ¬ s.heap.size ≤ a := fun a h => Nat.not_le.mpr h
  have hini : (Cond.initialized xWc).before args s = true := hts _ (List.mem_append_right _ (xt1 17 rfl))
  have h0 : ∀ i : Nat, ∃ t : Nat, i < 26 → (Term.static xWc (xWnm.getD i "") xWd).eval args s none [] s = some (.ref t) ∧ va_O xWc t (fun q => s.heap.size ≤ q) s s.heap := by
    intro i
    by_cases hi : i < 26
    · obtain ⟨a, c, cell, k, q1, q2, q3, q4, q5, q6, -⟩ := Cond.exactly_spec (hs _ (xn_ex i hi))
      exact ⟨a, fun _ => ⟨q1, cell, q3, q5, by rw [q6]; exact q2, hA a (Array.getElem?_eq_some_iff.mp q3).1⟩⟩
    · exact ⟨0, fun h => absurd h hi⟩
  obtain ⟨ad, had⟩ := Classical.axiomOfChoice h0
  have hof : ∀ i, i < 26 → va_OF "java/lang/Enum" "ordinal" "I" (.int (Int32.ofNat i)) (ad i) (fun q => s.heap.size ≤ q) s s.heap := fun i hi => by
    have hv := va_eqt (hs _ (xn_or i hi))
    exact vk_OFof (had i hi).1 hv hA
  refine ⟨ad, ⟨fun i hi => ⟨va_Zref (hts _ (xl_st i hi)) hini (had i hi).1 hA, (had i hi).2, fun q hq => ?_⟩, fun i j hi hj e => ?_⟩, fun i hi => (had i hi).1⟩
  · have hi' : i < 26 := hi
    rcases List.mem_cons.mp hq with rfl | h
    · show va_OF _ _ _ (.int (([0, 1, 2, 3, 4, 5, 6, 7, 8, 9, 10, 11, 12, 13, 14, 15, 16, 17, 18, 19, 20, 21, 22, 23, 24, 25] : List Int32).getD i 0)) _ _ _ _
      rw [xo_at i hi']
      exact hof i hi'
    · cases h
  · have hi' : i < 26 := hi
    have hj' : j < 26 := hj
    obtain ⟨cf, k, n, f, cell, a1, a2, a3, a4, a5, a6⟩ := hof i hi'
    obtain ⟨cf2, k2, n2, f2, cell2, b1, b2, b3, b4, b5, b6⟩ := hof j hj'
    rw [a1] at b1
    cases b1
    rw [e] at a3
    rw [a3] at b3
    cases b3
    rw [a5] at b5
    have e9 : Int32.ofNat i = Int32.ofNat j := Value.int.inj (Option.some.inj b5)
    exact (nI_eq (by omega) (by omega)).mp e9
/-- words, constants, the text of the signs, all that a start gives -/
theorem xk_z {s : State} {args : Array Value} (hts : ∀ w ∈ lw_tbl, w.before args s = true) (hgv : (Jvm.Cond.and given_1 narrow_1).before args s = true) (b : Nat) : ∃ ad : Nat → Nat, (∀ a, a < 10000 → ad a = s.heap.size + a) ∧ ad 10300 = b ∧ xZ ad s.heap.size s s.heap := by
  have hs : ∀ w ∈ xNar, w.before args s = true := flat_of_before _ hgv
  have hA : ∀ a : Nat, a < s.heap.size → ¬ s.heap.size ≤ a := fun a h => Nat.not_le.mpr h
  have hini : (Cond.initialized xWc).before args s = true := hts _ (List.mem_append_right _ (xt1 17 rfl))
  have hinS : (Cond.initialized "java/lang/String").before args s = true := hts _ (List.mem_append_right _ (xt1 18 rfl))
  obtain ⟨adW, hE, hEv⟩ := xk_en hts hs
  obtain ⟨tA, hA1, hA2⟩ := va_Tof (A := fun q => s.heap.size ≤ q) (ty := .object xWc) (N := 26) (f := fun j => .ref (adW j)) (tm := .static xWc "ALL" "[LFilmFoot$Word;") (by decide) (hs _ (by decide +kernel)) (va_eqt (hs _ (by decide +kernel))) (fun j hj => va_eqv (hs _ (xn_el j hj)) (hEv j hj)) hA
  have hZ : va_Z xWc "ALL" "[LFilmFoot$Word;" (.ref tA) (fun q => s.heap.size ≤ q) s s.heap := va_Zref (hts _ (List.mem_append_right _ (xt2 147 rfl))) hini hA1 hA
  have hC : va_Ef 26 xWc "code" "J" (fun i => .long (xWcode i)) adW (fun q => s.heap.size ≤ q) s s.heap := va_Efof (E := xWc) (d0 := xWd) (nm := xWnm) (tm := fun i => .long (xWcode i)) hEv (fun i hi => hs _ (xn_co i hi)) (fun i _ => rfl) hA
  have hK : va_Ef 26 xWc "kept" "Z" (fun i => .int (xWkept i)) adW (fun q => s.heap.size ≤ q) s s.heap := va_Efof (E := xWc) (d0 := xWd) (nm := xWnm) (tm := fun i => .int (xWkept i)) hEv (fun i hi => hs _ (xn_ke i hi)) (fun i _ => rfl) hA
  obtain ⟨adK, adV, hS1, hS2⟩ := vk_Sof (A := fun q => s.heap.size ≤ q) (N := 1) (tm := fun _ => .string "FilmFoot$Tape" 57) (len := [8]) (byt := [xSb]) (fun i hi => by rw [show i = 0 by omega]; decide) (fun i _ => hs _ (by decide +kernel)) (fun i _ => hs _ (by decide +kernel)) (fun i _ => hs _ (by decide +kernel)) (fun i hi => by rw [show i = 0 by omega]; exact hs _ (by decide +kernel)) (fun i hi j hj => by rw [show i = 0 by omega] at hj ⊢; exact hs _ (xn_sb j hj)) (fun i j hi hj hij => absurd (show i = j by omega) hij) hA
  have hR : vk_R "FilmFoot$Tape" 57 "()<=+-*;" (adK 0) s := vk_R.of (hts _ (List.mem_append_right _ (xt2 155 rfl))) (hS2 0 (by decide))
  have hCS : va_Z "java/lang/String" "COMPACT_STRINGS" "Z" (.int 1) (fun q => s.heap.size ≤ q) s s.heap := va_Zof (hts _ (List.mem_append_right _ (xt2 169 rfl))) hinS (va_eqt (hs _ (by decide +kernel))) hA
  refine ⟨fun a => if a < 10000 then s.heap.size + a else if a < 10026 then adW (a - 10000) else if a = 10100 then tA else if a = 10200 then adK 0 else if a = 10201 then adV 0 else b, fun a h => if_pos h, rfl, ?_⟩
  have e1 : ∀ i, i < 26 → (if 10000 + i < 10000 then s.heap.size + (10000 + i) else if 10000 + i < 10026 then adW (10000 + i - 10000) else if 10000 + i = 10100 then tA else if 10000 + i = 10200 then adK 0 else if 10000 + i = 10201 then adV 0 else b) = adW i := fun i hi => by
    rw [if_neg (by omega), if_pos (by omega), Nat.add_sub_cancel_left]
  refine ⟨⟨fun i hi => ?_, fun i j hi hj e => ?_⟩, hZ, ?_, fun i hi => ?_, fun i hi => ?_, ?_, hR, hCS⟩
  · have hi' : i < 26 := hi
    show va_Z _ _ _ (.ref (if 10000 + i < 10000 then _ else _)) _ _ _ ∧ va_O _ (if 10000 + i < 10000 then _ else _) _ _ _ ∧ ∀ q ∈ xWF, va_OF _ _ _ _ (if 10000 + i < 10000 then _ else _) _ _ _
    rw [e1 i hi']
    exact hE.1 i hi
  · have hi' : i < 26 := hi
    have hj' : j < 26 := hj
    refine hE.2 i j hi hj ?_
    have e2 : (if 10000 + i < 10000 then s.heap.size + (10000 + i) else if 10000 + i < 10026 then adW (10000 + i - 10000) else if 10000 + i = 10100 then tA else if 10000 + i = 10200 then adK 0 else if 10000 + i = 10201 then adV 0 else b) = (if 10000 + j < 10000 then s.heap.size + (10000 + j) else if 10000 + j < 10026 then adW (10000 + j - 10000) else if 10000 + j = 10100 then tA else if 10000 + j = 10200 then adK 0 else if 10000 + j = 10201 then adV 0 else b) := e
    rw [e1 i hi', e1 j hj'] at e2
    exact e2
  · obtain ⟨cell, c1, c2, c3, c4, c5, c6, c7⟩ := hA2
    refine ⟨cell, c1, c2, c3, c4, c5, fun j hj => ?_, c7⟩
    show cell.slots[j]? = some (.ref (if 10000 + j < 10000 then _ else _))
    rw [e1 j hj]
    exact c6 j hj
  · show va_OF _ _ _ _ (if 10000 + i < 10000 then _ else _) _ _ _
    rw [e1 i hi]
    exact hC i hi
  · show va_OF _ _ _ _ (if 10000 + i < 10000 then _ else _) _ _ _
    rw [e1 i hi]
    exact hK i hi
  · refine ⟨fun i hi => ?_, fun i j hi hj _ => by omega⟩
    have h9 := hS1.1 0 (by decide)
    rw [show i = 0 by omega]
    exact h9
/-- the classes' numbers, the rows' -/
theorem xk_k {s : State} {args : Array Value} (hts : ∀ w ∈ lw_tbl, w.before args s = true) : ∃ (D : va_G) (cs : Nat → ClassId), va_K D vwCl (xtys cs) s := by
  obtain ⟨c0, iS0, hKn0⟩ := u_known (C := RX0) (T := TX0) (N := 1) (n := 1) hts (fun w h => (List.mem_filter.mp (cl_X0.2.2.1 w h)).1) (hts _ ((List.mem_filter.mp wi_X0).1))
  obtain ⟨c1, iS1, hKn1⟩ := u_known (C := RX1) (T := TX1) (N := 4) (n := 4) hts (fun w h => (List.mem_filter.mp (cl_X1.2.2.1 w h)).1) (hts _ ((List.mem_filter.mp wi_X1).1))
  obtain ⟨c2, iS2, hKn2⟩ := u_known (C := RX2) (T := TX2) (N := 12) (n := 12) hts (fun w h => (List.mem_filter.mp (cl_X2.2.2.1 w h)).1) (hts _ ((List.mem_filter.mp wi_X2).1))
  obtain ⟨c3, iS3, hKn3⟩ := u_known (C := RX3) (T := TX3) (N := 7) (n := 7) hts (fun w h => (List.mem_filter.mp (cl_X3.2.2.1 w h)).1) (hts _ ((List.mem_filter.mp wi_X3).1))
  obtain ⟨c4, iS4, hKn4⟩ := u_known (C := RX4) (T := TX4) (N := 3) (n := 3) hts (fun w h => (List.mem_filter.mp (cl_X4.2.2.1 w h)).1) (hts _ ((List.mem_filter.mp wi_X4).1))
  obtain ⟨c5, iS5, hKn5⟩ := u_known (C := RX5) (T := TX5) (N := 3) (n := 3) hts (fun w h => (List.mem_filter.mp (cl_X5.2.2.1 w h)).1) (hts _ ((List.mem_filter.mp wi_X5).1))
  obtain ⟨c6, iS6, hKn6⟩ := u_known (C := RX6) (T := TX6) (N := 3) (n := 3) hts (fun w h => (List.mem_filter.mp (cl_X6.2.2.1 w h)).1) (hts _ ((List.mem_filter.mp wi_X6).1))
  obtain ⟨c7, iS7, hKn7⟩ := u_known (C := RX7) (T := TX7) (N := 3) (n := 3) hts (fun w h => (List.mem_filter.mp (cl_X7.2.2.1 w h)).1) (hts _ ((List.mem_filter.mp wi_X7).1))
  obtain ⟨c8, iS8, hKn8⟩ := u_known (C := RX9) (T := TX9) (N := 9) (n := 9) hts (fun w h => (List.mem_filter.mp (cl_X9.2.2.1 w h)).1) (hts _ ((List.mem_filter.mp wi_X9).1))
  obtain ⟨c9, iS9, hKn9⟩ := u_known (C := RX11) (T := TX11) (N := 13) (n := 13) hts (fun w h => (List.mem_filter.mp (cl_X11.2.2.1 w h)).1) (hts _ ((List.mem_filter.mp wi_X11).1))
  obtain ⟨c10, iS10, hKn10⟩ := u_known (C := RX12) (T := TX12) (N := 30) (n := 30) hts (fun w h => (List.mem_filter.mp (cl_X12.2.2.1 w h)).1) (hts _ ((List.mem_filter.mp wi_X12).1))
  obtain ⟨a11, hT11⟩ := xk_arr (hts _ ((List.mem_filter.mp wa_int).1)) (fun _ h => by cases h)
  obtain ⟨a12, hT12⟩ := xk_arr (hts _ ((List.mem_filter.mp wa_long).1)) (fun _ h => by cases h)
  obtain ⟨a13, hT13⟩ := xk_arr (hts _ ((List.mem_filter.mp wa_char).1)) (fun _ h => by cases h)
  obtain ⟨a14, hT14⟩ := xk_arr (hts _ ((List.mem_filter.mp wa_boolean).1)) (fun _ h => by cases h)
  obtain ⟨a15, hT15⟩ := xk_obj (hts _ (List.mem_append_right _ ((List.mem_filter.mp wv_Hall).1)))
  obtain ⟨a16, hT16⟩ := xk_obj (hts _ (List.mem_append_right _ ((List.mem_filter.mp wv_Mark).1)))
  refine ⟨(fun k => if k = 0 then c0 else if k = 1 then c1 else if k = 2 then c2 else if k = 3 then c3 else if k = 4 then c4 else if k = 5 then c5 else if k = 6 then c6 else if k = 7 then c7 else if k = 8 then c8 else if k = 9 then c9 else c10, fun k => if k = 0 then iS0 else if k = 1 then iS1 else if k = 2 then iS2 else if k = 3 then iS3 else if k = 4 then iS4 else if k = 5 then iS5 else if k = 6 then iS6 else if k = 7 then iS7 else if k = 8 then iS8 else if k = 9 then iS9 else iS10), fun k => if k = 11 then a11 else if k = 12 then a12 else if k = 13 then a13 else if k = 14 then a14 else if k = 15 then a15 else a16, ?_, ?_⟩
  · intro k q hq
    match k, hq with
    | 0, hq => cases hq; exact hKn0
    | 1, hq => cases hq; exact hKn1
    | 2, hq => cases hq; exact hKn2
    | 3, hq => cases hq; exact hKn3
    | 4, hq => cases hq; exact hKn4
    | 5, hq => cases hq; exact hKn5
    | 6, hq => cases hq; exact hKn6
    | 7, hq => cases hq; exact hKn7
    | 8, hq => cases hq; exact hKn8
    | 9, hq => cases hq; exact hKn9
    | 10, hq => cases hq; exact hKn10
    | k + 11, hq => simp [vwCl] at hq
  · intro k q hq
    match k, hq with
    | 0, hq => cases hq; exact hT11
    | 1, hq => cases hq; exact hT12
    | 2, hq => cases hq; exact hT13
    | 3, hq => cases hq; exact hT14
    | 4, hq => cases hq; exact hT15
    | 5, hq => cases hq; exact hT16
    | k + 6, hq => simp [xtys] at hq
