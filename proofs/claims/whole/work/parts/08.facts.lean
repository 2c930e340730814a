/-! WHAT THE TABLES SAY, place by place (laid by wip/whole/gen_facts.py) -/
theorem xt1 {w : Cond} (i : Nat) (h : tables_1_1[i]? = some w) : w ∈ tables_1 := List.mem_append_left _ (List.mem_of_getElem? h)
theorem xt2 {w : Cond} (i : Nat) (h : tables_1_2[i]? = some w) : w ∈ tables_1 := List.mem_append_right _ (List.mem_append_left _ (List.mem_of_getElem? h))
theorem xt3 {w : Cond} (i : Nat) (h : tables_1_3[i]? = some w) : w ∈ tables_1 := List.mem_append_right _ (List.mem_append_right _ (List.mem_append_left _ (List.mem_of_getElem? h)))
theorem xt4 {w : Cond} (i : Nat) (h : tables_1_4[i]? = some w) : w ∈ tables_1 := List.mem_append_right _ (List.mem_append_right _ (List.mem_append_right _ (List.mem_append_left _ (List.mem_of_getElem? h))))
theorem xt5 {w : Cond} (i : Nat) (h : tables_1_5[i]? = some w) : w ∈ tables_1 := List.mem_append_right _ (List.mem_append_right _ (List.mem_append_right _ (List.mem_append_right _ (List.mem_append_left _ (List.mem_of_getElem? h)))))
theorem xt6 {w : Cond} (i : Nat) (h : tables_1_6[i]? = some w) : w ∈ tables_1 := List.mem_append_right _ (List.mem_append_right _ (List.mem_append_right _ (List.mem_append_right _ (List.mem_append_right _ (List.mem_append_left _ (List.mem_of_getElem? h))))))
theorem xt7 {w : Cond} (i : Nat) (h : tables_1_7[i]? = some w) : w ∈ tables_1 := List.mem_append_right _ (List.mem_append_right _ (List.mem_append_right _ (List.mem_append_right _ (List.mem_append_right _ (List.mem_append_right _ (List.mem_append_left _ (List.mem_of_getElem? h)))))))
theorem xt8 {w : Cond} (i : Nat) (h : tables_1_8[i]? = some w) : w ∈ tables_1 := List.mem_append_right _ (List.mem_append_right _ (List.mem_append_right _ (List.mem_append_right _ (List.mem_append_right _ (List.mem_append_right _ (List.mem_append_right _ (List.mem_of_getElem? h)))))))
theorem cl_X0 : xCls 0 RX0 TX0 1 := ⟨by decide, rfl, fun w h => xT_in ((by decide +kernel : ∀ w ∈ u_ws RX0 TX0 1, w ∈ tables_1) w h) ((by decide +kernel : ∀ w ∈ u_ws RX0 TX0 1, goodWord w = true) w h), ⟨tyX0, tyX0_ok⟩, nmX0⟩
theorem cl_X1 : xCls 1 RX1 TX1 4 := ⟨by decide, rfl, fun w h => xT_in ((by decide +kernel : ∀ w ∈ u_ws RX1 TX1 4, w ∈ tables_1) w h) ((by decide +kernel : ∀ w ∈ u_ws RX1 TX1 4, goodWord w = true) w h), ⟨tyX1, tyX1_ok⟩, nmX1⟩
theorem cl_X2 : xCls 2 RX2 TX2 12 := ⟨by decide, rfl, fun w h => xT_in ((by decide +kernel : ∀ w ∈ u_ws RX2 TX2 12, w ∈ tables_1) w h) ((by decide +kernel : ∀ w ∈ u_ws RX2 TX2 12, goodWord w = true) w h), ⟨tyX2, tyX2_ok⟩, nmX2⟩
theorem cl_X3 : xCls 3 RX3 TX3 7 := ⟨by decide, rfl, fun w h => xT_in ((by decide +kernel : ∀ w ∈ u_ws RX3 TX3 7, w ∈ tables_1) w h) ((by decide +kernel : ∀ w ∈ u_ws RX3 TX3 7, goodWord w = true) w h), ⟨tyX3, tyX3_ok⟩, nmX3⟩
theorem cl_X4 : xCls 4 RX4 TX4 3 := ⟨by decide, rfl, fun w h => xT_in ((by decide +kernel : ∀ w ∈ u_ws RX4 TX4 3, w ∈ tables_1) w h) ((by decide +kernel : ∀ w ∈ u_ws RX4 TX4 3, goodWord w = true) w h), ⟨tyX4, tyX4_ok⟩, nmX4⟩
theorem cl_X5 : xCls 5 RX5 TX5 3 := ⟨by decide, rfl, fun w h => xT_in ((by decide +kernel : ∀ w ∈ u_ws RX5 TX5 3, w ∈ tables_1) w h) ((by decide +kernel : ∀ w ∈ u_ws RX5 TX5 3, goodWord w = true) w h), ⟨tyX5, tyX5_ok⟩, nmX5⟩
theorem cl_X6 : xCls 6 RX6 TX6 3 := ⟨by decide, rfl, fun w h => xT_in ((by decide +kernel : ∀ w ∈ u_ws RX6 TX6 3, w ∈ tables_1) w h) ((by decide +kernel : ∀ w ∈ u_ws RX6 TX6 3, goodWord w = true) w h), ⟨tyX6, tyX6_ok⟩, nmX6⟩
theorem cl_X7 : xCls 7 RX7 TX7 3 := ⟨by decide, rfl, fun w h => xT_in ((by decide +kernel : ∀ w ∈ u_ws RX7 TX7 3, w ∈ tables_1) w h) ((by decide +kernel : ∀ w ∈ u_ws RX7 TX7 3, goodWord w = true) w h), ⟨tyX7, tyX7_ok⟩, nmX7⟩
theorem cl_X9 : xCls 8 RX9 TX9 9 := ⟨by decide, rfl, fun w h => xT_in ((by decide +kernel : ∀ w ∈ u_ws RX9 TX9 9, w ∈ tables_1) w h) ((by decide +kernel : ∀ w ∈ u_ws RX9 TX9 9, goodWord w = true) w h), ⟨tyX9, tyX9_ok⟩, nmX9⟩
theorem cl_X11 : xCls 9 RX11 TX11 13 := ⟨by decide, rfl, fun w h => xT_in ((by decide +kernel : ∀ w ∈ u_ws RX11 TX11 13, w ∈ tables_1) w h) ((by decide +kernel : ∀ w ∈ u_ws RX11 TX11 13, goodWord w = true) w h), ⟨tyX11, tyX11_ok⟩, nmX11⟩
theorem cl_X12 : xCls 10 RX12 TX12 30 := ⟨by decide, rfl, fun w h => xT_in ((by decide +kernel : ∀ w ∈ u_ws RX12 TX12 30, w ∈ tables_1) w h) ((by decide +kernel : ∀ w ∈ u_ws RX12 TX12 30, goodWord w = true) w h), ⟨tyX12, tyX12_ok⟩, nmX12⟩
theorem wf_X9_9 : xFL RX9 9 8 0 (.array .char) true := ⟨_, _, _, cl_X9, by decide, Or.inl (xT_in (xt1 42 rfl) rfl), by decide +kernel, rfl⟩
theorem wq_X9_9 : xFF RX9 9 8 0 (.array .char) := ⟨_, _, _, cl_X9, by decide, xT_in (xt1 42 rfl) rfl, by decide +kernel, rfl, rfl⟩
theorem wf_X11_89 : xFL RX11 89 8 1 .int false := ⟨_, _, _, cl_X9, by decide, Or.inr ⟨"FilmFoot", List.mem_filter.mpr ⟨xt1 43 rfl, rfl⟩⟩, by decide +kernel, rfl⟩
theorem wf_X9_17 : xFL RX9 17 8 1 .int false := ⟨_, _, _, cl_X9, by decide, Or.inl (xT_in (xt1 44 rfl) rfl), by decide +kernel, rfl⟩
theorem wf_X9_21 : xFL RX9 21 8 2 .int false := ⟨_, _, _, cl_X9, by decide, Or.inl (xT_in (xt1 45 rfl) rfl), by decide +kernel, rfl⟩
theorem wf_X9_30 : xFL RX9 30 8 3 .int false := ⟨_, _, _, cl_X9, by decide, Or.inl (xT_in (xt1 46 rfl) rfl), by decide +kernel, rfl⟩
theorem wf_X9_41 : xFL RX9 41 8 4 .int false := ⟨_, _, _, cl_X9, by decide, Or.inl (xT_in (xt1 47 rfl) rfl), by decide +kernel, rfl⟩
theorem wf_X4_71 : xFL RX4 71 8 4 .int false := ⟨_, _, _, cl_X9, by decide, Or.inr ⟨"FilmFoot", List.mem_filter.mpr ⟨xt1 48 rfl, rfl⟩⟩, by decide +kernel, rfl⟩
theorem wf_X9_65 : xFL RX9 65 8 5 .int false := ⟨_, _, _, cl_X9, by decide, Or.inl (xT_in (xt1 49 rfl) rfl), by decide +kernel, rfl⟩
theorem wf_X4_83 : xFL RX4 83 8 5 .int false := ⟨_, _, _, cl_X9, by decide, Or.inr ⟨"FilmFoot", List.mem_filter.mpr ⟨xt1 50 rfl, rfl⟩⟩, by decide +kernel, rfl⟩
theorem wf_X9_68 : xFL RX9 68 8 6 .long false := ⟨_, _, _, cl_X9, by decide, Or.inl (xT_in (xt1 51 rfl) rfl), by decide +kernel, rfl⟩
theorem wf_X7_157 : xFL RX7 157 8 6 .long false := ⟨_, _, _, cl_X9, by decide, Or.inr ⟨"FilmFoot", List.mem_filter.mpr ⟨xt1 52 rfl, rfl⟩⟩, by decide +kernel, rfl⟩
theorem wf_X9_37 : xFL RX9 37 8 7 (.object "FilmFoot$Word") false := ⟨_, _, _, cl_X9, by decide, Or.inl (xT_in (xt1 53 rfl) rfl), by decide +kernel, rfl⟩
theorem wf_X7_82 : xFL RX7 82 8 8 .int false := ⟨_, _, _, cl_X9, by decide, Or.inr ⟨"FilmFoot", List.mem_filter.mpr ⟨xt1 54 rfl, rfl⟩⟩, by decide +kernel, rfl⟩
theorem wf_X9_24 : xFL RX9 24 8 8 .int false := ⟨_, _, _, cl_X9, by decide, Or.inl (xT_in (xt1 55 rfl) rfl), by decide +kernel, rfl⟩
theorem wf_X4_80 : xFL RX4 80 8 8 .int false := ⟨_, _, _, cl_X9, by decide, Or.inr ⟨"FilmFoot", List.mem_filter.mpr ⟨xt1 56 rfl, rfl⟩⟩, by decide +kernel, rfl⟩
theorem wf_X4_9 : xFL RX4 9 4 0 (.array .int) true := ⟨_, _, _, cl_X4, by decide, Or.inl (xT_in (xt1 89 rfl) rfl), by decide +kernel, rfl⟩
theorem wq_X4_9 : xFF RX4 9 4 0 (.array .int) := ⟨_, _, _, cl_X4, by decide, xT_in (xt1 89 rfl) rfl, by decide +kernel, rfl, rfl⟩
theorem wf_X4_18 : xFL RX4 18 4 1 .int false := ⟨_, _, _, cl_X4, by decide, Or.inl (xT_in (xt1 90 rfl) rfl), by decide +kernel, rfl⟩
theorem wf_X7_150 : xFL RX7 150 4 1 .int false := ⟨_, _, _, cl_X4, by decide, Or.inr ⟨"FilmFoot", List.mem_filter.mpr ⟨xt1 91 rfl, rfl⟩⟩, by decide +kernel, rfl⟩
theorem wf_X4_15 : xFL RX4 15 4 2 (.array .int) true := ⟨_, _, _, cl_X4, by decide, Or.inl (xT_in (xt1 92 rfl) rfl), by decide +kernel, rfl⟩
theorem wq_X4_15 : xFF RX4 15 4 2 (.array .int) := ⟨_, _, _, cl_X4, by decide, xT_in (xt1 92 rfl) rfl, by decide +kernel, rfl, rfl⟩
theorem wf_X7_12 : xFL RX7 12 7 0 (.object "FilmFoot$Law") true := ⟨_, _, _, cl_X7, by decide, Or.inl (xT_in (xt1 101 rfl) rfl), by decide +kernel, rfl⟩
theorem wq_X7_12 : xFF RX7 12 7 0 (.object "FilmFoot$Law") := ⟨_, _, _, cl_X7, by decide, xT_in (xt1 101 rfl) rfl, by decide +kernel, rfl, rfl⟩
theorem wf_X7_23 : xFL RX7 23 7 1 .boolean false := ⟨_, _, _, cl_X7, by decide, Or.inl (xT_in (xt1 102 rfl) rfl), by decide +kernel, rfl⟩
theorem wf_X7_27 : xFL RX7 27 7 2 .boolean false := ⟨_, _, _, cl_X7, by decide, Or.inl (xT_in (xt1 103 rfl) rfl), by decide +kernel, rfl⟩
theorem wf_X2_41 : xFL RX2 41 2 0 .int false := ⟨_, _, _, cl_X2, by decide, Or.inl (xT_in (xt1 117 rfl) rfl), by decide +kernel, rfl⟩
theorem wf_X7_90 : xFL RX7 90 2 0 .int false := ⟨_, _, _, cl_X2, by decide, Or.inr ⟨"FilmFoot", List.mem_filter.mpr ⟨xt1 118 rfl, rfl⟩⟩, by decide +kernel, rfl⟩
theorem wf_X11_280 : xFL RX11 280 2 0 .int false := ⟨_, _, _, cl_X2, by decide, Or.inr ⟨"FilmFoot", List.mem_filter.mpr ⟨xt1 119 rfl, rfl⟩⟩, by decide +kernel, rfl⟩
theorem wf_X2_44 : xFL RX2 44 2 1 .int false := ⟨_, _, _, cl_X2, by decide, Or.inl (xT_in (xt1 120 rfl) rfl), by decide +kernel, rfl⟩
theorem wf_X7_108 : xFL RX7 108 2 1 .int false := ⟨_, _, _, cl_X2, by decide, Or.inr ⟨"FilmFoot", List.mem_filter.mpr ⟨xt1 121 rfl, rfl⟩⟩, by decide +kernel, rfl⟩
theorem wf_X11_239 : xFL RX11 239 2 1 .int false := ⟨_, _, _, cl_X2, by decide, Or.inr ⟨"FilmFoot", List.mem_filter.mpr ⟨xt1 122 rfl, rfl⟩⟩, by decide +kernel, rfl⟩
theorem wf_X2_47 : xFL RX2 47 2 2 .int false := ⟨_, _, _, cl_X2, by decide, Or.inl (xT_in (xt1 123 rfl) rfl), by decide +kernel, rfl⟩
theorem wf_X7_126 : xFL RX7 126 2 2 .int false := ⟨_, _, _, cl_X2, by decide, Or.inr ⟨"FilmFoot", List.mem_filter.mpr ⟨xt1 124 rfl, rfl⟩⟩, by decide +kernel, rfl⟩
theorem wf_X11_289 : xFL RX11 289 2 2 .int false := ⟨_, _, _, cl_X2, by decide, Or.inr ⟨"FilmFoot", List.mem_filter.mpr ⟨xt1 125 rfl, rfl⟩⟩, by decide +kernel, rfl⟩
theorem wf_X2_9 : xFL RX2 9 2 3 .int false := ⟨_, _, _, cl_X2, by decide, Or.inl (xT_in (xt1 126 rfl) rfl), by decide +kernel, rfl⟩
theorem wf_X7_147 : xFL RX7 147 2 3 .int false := ⟨_, _, _, cl_X2, by decide, Or.inr ⟨"FilmFoot", List.mem_filter.mpr ⟨xt1 127 rfl, rfl⟩⟩, by decide +kernel, rfl⟩
theorem wf_X11_381 : xFL RX11 381 2 3 .int false := ⟨_, _, _, cl_X2, by decide, Or.inr ⟨"FilmFoot", List.mem_filter.mpr ⟨xt1 128 rfl, rfl⟩⟩, by decide +kernel, rfl⟩
theorem wf_X2_15 : xFL RX2 15 2 4 (.array .long) true := ⟨_, _, _, cl_X2, by decide, Or.inl (xT_in (xt1 129 rfl) rfl), by decide +kernel, rfl⟩
theorem wq_X2_15 : xFF RX2 15 2 4 (.array .long) := ⟨_, _, _, cl_X2, by decide, xT_in (xt1 129 rfl) rfl, by decide +kernel, rfl, rfl⟩
theorem wf_X2_19 : xFL RX2 19 2 5 (.array .long) true := ⟨_, _, _, cl_X2, by decide, Or.inl (xT_in (xt1 130 rfl) rfl), by decide +kernel, rfl⟩
theorem wq_X2_19 : xFF RX2 19 2 5 (.array .long) := ⟨_, _, _, cl_X2, by decide, xT_in (xt1 130 rfl) rfl, by decide +kernel, rfl, rfl⟩
theorem wf_X2_22 : xFL RX2 22 2 6 (.array .int) true := ⟨_, _, _, cl_X2, by decide, Or.inl (xT_in (xt1 131 rfl) rfl), by decide +kernel, rfl⟩
theorem wq_X2_22 : xFF RX2 22 2 6 (.array .int) := ⟨_, _, _, cl_X2, by decide, xT_in (xt1 131 rfl) rfl, by decide +kernel, rfl, rfl⟩
theorem wf_X2_26 : xFL RX2 26 2 7 (.array .int) true := ⟨_, _, _, cl_X2, by decide, Or.inl (xT_in (xt1 132 rfl) rfl), by decide +kernel, rfl⟩
theorem wq_X2_26 : xFF RX2 26 2 7 (.array .int) := ⟨_, _, _, cl_X2, by decide, xT_in (xt1 132 rfl) rfl, by decide +kernel, rfl, rfl⟩
theorem wf_X2_29 : xFL RX2 29 2 8 (.array .int) true := ⟨_, _, _, cl_X2, by decide, Or.inl (xT_in (xt1 133 rfl) rfl), by decide +kernel, rfl⟩
theorem wq_X2_29 : xFF RX2 29 2 8 (.array .int) := ⟨_, _, _, cl_X2, by decide, xT_in (xt1 133 rfl) rfl, by decide +kernel, rfl, rfl⟩
theorem wf_X11_147 : xFL RX11 147 2 8 (.array .int) true := ⟨_, _, _, cl_X2, by decide, Or.inr ⟨"FilmFoot", List.mem_filter.mpr ⟨xt1 134 rfl, rfl⟩⟩, by decide +kernel, rfl⟩
theorem wf_X2_32 : xFL RX2 32 2 9 (.array .int) true := ⟨_, _, _, cl_X2, by decide, Or.inl (xT_in (xt1 135 rfl) rfl), by decide +kernel, rfl⟩
theorem wq_X2_32 : xFF RX2 32 2 9 (.array .int) := ⟨_, _, _, cl_X2, by decide, xT_in (xt1 135 rfl) rfl, by decide +kernel, rfl, rfl⟩
theorem wf_X11_156 : xFL RX11 156 2 9 (.array .int) true := ⟨_, _, _, cl_X2, by decide, Or.inr ⟨"FilmFoot", List.mem_filter.mpr ⟨xt1 136 rfl, rfl⟩⟩, by decide +kernel, rfl⟩
theorem wf_X2_35 : xFL RX2 35 2 10 (.array .int) true := ⟨_, _, _, cl_X2, by decide, Or.inl (xT_in (xt1 137 rfl) rfl), by decide +kernel, rfl⟩
theorem wq_X2_35 : xFF RX2 35 2 10 (.array .int) := ⟨_, _, _, cl_X2, by decide, xT_in (xt1 137 rfl) rfl, by decide +kernel, rfl, rfl⟩
theorem wf_X11_159 : xFL RX11 159 2 10 (.array .int) true := ⟨_, _, _, cl_X2, by decide, Or.inr ⟨"FilmFoot", List.mem_filter.mpr ⟨xt1 138 rfl, rfl⟩⟩, by decide +kernel, rfl⟩
theorem wf_X2_38 : xFL RX2 38 2 11 (.array .int) true := ⟨_, _, _, cl_X2, by decide, Or.inl (xT_in (xt1 139 rfl) rfl), by decide +kernel, rfl⟩
theorem wq_X2_38 : xFF RX2 38 2 11 (.array .int) := ⟨_, _, _, cl_X2, by decide, xT_in (xt1 139 rfl) rfl, by decide +kernel, rfl, rfl⟩
theorem wf_X1_21 : xFL RX1 21 1 0 .int false := ⟨_, _, _, cl_X1, by decide, Or.inl (xT_in (xt1 172 rfl) rfl), by decide +kernel, rfl⟩
theorem wf_X11_100 : xFL RX11 100 1 0 .int false := ⟨_, _, _, cl_X1, by decide, Or.inr ⟨"FilmFoot", List.mem_filter.mpr ⟨xt1 173 rfl, rfl⟩⟩, by decide +kernel, rfl⟩
theorem wf_X7_193 : xFL RX7 193 1 0 .int false := ⟨_, _, _, cl_X1, by decide, Or.inr ⟨"FilmFoot", List.mem_filter.mpr ⟨xt1 174 rfl, rfl⟩⟩, by decide +kernel, rfl⟩
theorem wf_X1_9 : xFL RX1 9 1 1 (.array .int) true := ⟨_, _, _, cl_X1, by decide, Or.inl (xT_in (xt1 175 rfl) rfl), by decide +kernel, rfl⟩
theorem wq_X1_9 : xFF RX1 9 1 1 (.array .int) := ⟨_, _, _, cl_X1, by decide, xT_in (xt1 175 rfl) rfl, by decide +kernel, rfl, rfl⟩
theorem wf_X11_233 : xFL RX11 233 1 1 (.array .int) true := ⟨_, _, _, cl_X1, by decide, Or.inr ⟨"FilmFoot", List.mem_filter.mpr ⟨xt1 176 rfl, rfl⟩⟩, by decide +kernel, rfl⟩
theorem wf_X1_15 : xFL RX1 15 1 2 (.array .int) true := ⟨_, _, _, cl_X1, by decide, Or.inl (xT_in (xt1 177 rfl) rfl), by decide +kernel, rfl⟩
theorem wq_X1_15 : xFF RX1 15 1 2 (.array .int) := ⟨_, _, _, cl_X1, by decide, xT_in (xt1 177 rfl) rfl, by decide +kernel, rfl, rfl⟩
theorem wf_X11_227 : xFL RX11 227 1 2 (.array .int) true := ⟨_, _, _, cl_X1, by decide, Or.inr ⟨"FilmFoot", List.mem_filter.mpr ⟨xt1 178 rfl, rfl⟩⟩, by decide +kernel, rfl⟩
theorem wf_X1_18 : xFL RX1 18 1 3 (.array .int) true := ⟨_, _, _, cl_X1, by decide, Or.inl (xT_in (xt1 179 rfl) rfl), by decide +kernel, rfl⟩
theorem wq_X1_18 : xFF RX1 18 1 3 (.array .int) := ⟨_, _, _, cl_X1, by decide, xT_in (xt1 179 rfl) rfl, by decide +kernel, rfl, rfl⟩
theorem wf_X11_230 : xFL RX11 230 1 3 (.array .int) true := ⟨_, _, _, cl_X1, by decide, Or.inr ⟨"FilmFoot", List.mem_filter.mpr ⟨xt1 180 rfl, rfl⟩⟩, by decide +kernel, rfl⟩
theorem wf_X3_21 : xFL RX3 21 3 0 .int false := ⟨_, _, _, cl_X3, by decide, Or.inl (xT_in (xt1 196 rfl) rfl), by decide +kernel, rfl⟩
theorem wf_X11_141 : xFL RX11 141 3 0 .int false := ⟨_, _, _, cl_X3, by decide, Or.inr ⟨"FilmFoot", List.mem_filter.mpr ⟨xt1 197 rfl, rfl⟩⟩, by decide +kernel, rfl⟩
theorem wf_X2_89 : xFL RX2 89 3 0 .int false := ⟨_, _, _, cl_X3, by decide, Or.inr ⟨"FilmFoot", List.mem_filter.mpr ⟨xt1 198 rfl, rfl⟩⟩, by decide +kernel, rfl⟩
theorem wf_X3_25 : xFL RX3 25 3 1 .int false := ⟨_, _, _, cl_X3, by decide, Or.inl (xT_in (xt1 199 rfl) rfl), by decide +kernel, rfl⟩
theorem wf_X2_94 : xFL RX2 94 3 1 .int false := ⟨_, _, _, cl_X3, by decide, Or.inr ⟨"FilmFoot", List.mem_filter.mpr ⟨xt1 200 rfl, rfl⟩⟩, by decide +kernel, rfl⟩
theorem wf_X11_378 : xFL RX11 378 3 1 .int false := ⟨_, _, _, cl_X3, by decide, Or.inr ⟨"FilmFoot", List.mem_filter.mpr ⟨xt1 201 rfl, rfl⟩⟩, by decide +kernel, rfl⟩
theorem wf_X3_28 : xFL RX3 28 3 2 .int false := ⟨_, _, _, cl_X3, by decide, Or.inl (xT_in (xt1 202 rfl) rfl), by decide +kernel, rfl⟩
theorem wf_X2_97 : xFL RX2 97 3 2 .int false := ⟨_, _, _, cl_X3, by decide, Or.inr ⟨"FilmFoot", List.mem_filter.mpr ⟨xt1 203 rfl, rfl⟩⟩, by decide +kernel, rfl⟩
theorem wf_X11_219 : xFL RX11 219 3 2 .int false := ⟨_, _, _, cl_X3, by decide, Or.inr ⟨"FilmFoot", List.mem_filter.mpr ⟨xt1 204 rfl, rfl⟩⟩, by decide +kernel, rfl⟩
theorem wf_X3_31 : xFL RX3 31 3 3 .int false := ⟨_, _, _, cl_X3, by decide, Or.inl (xT_in (xt1 205 rfl) rfl), by decide +kernel, rfl⟩
theorem wf_X2_100 : xFL RX2 100 3 3 .int false := ⟨_, _, _, cl_X3, by decide, Or.inr ⟨"FilmFoot", List.mem_filter.mpr ⟨xt1 206 rfl, rfl⟩⟩, by decide +kernel, rfl⟩
theorem wf_X11_263 : xFL RX11 263 3 3 .int false := ⟨_, _, _, cl_X3, by decide, Or.inr ⟨"FilmFoot", List.mem_filter.mpr ⟨xt1 207 rfl, rfl⟩⟩, by decide +kernel, rfl⟩
theorem wf_X3_9 : xFL RX3 9 3 4 (.array .int) true := ⟨_, _, _, cl_X3, by decide, Or.inl (xT_in (xt1 208 rfl) rfl), by decide +kernel, rfl⟩
theorem wq_X3_9 : xFF RX3 9 3 4 (.array .int) := ⟨_, _, _, cl_X3, by decide, xT_in (xt1 208 rfl) rfl, by decide +kernel, rfl, rfl⟩
theorem wf_X2_103 : xFL RX2 103 3 4 (.array .int) true := ⟨_, _, _, cl_X3, by decide, Or.inr ⟨"FilmFoot", List.mem_filter.mpr ⟨xt1 209 rfl, rfl⟩⟩, by decide +kernel, rfl⟩
theorem wf_X11_256 : xFL RX11 256 3 4 (.array .int) true := ⟨_, _, _, cl_X3, by decide, Or.inr ⟨"FilmFoot", List.mem_filter.mpr ⟨xt1 210 rfl, rfl⟩⟩, by decide +kernel, rfl⟩
theorem wf_X3_15 : xFL RX3 15 3 5 (.array .int) true := ⟨_, _, _, cl_X3, by decide, Or.inl (xT_in (xt1 211 rfl) rfl), by decide +kernel, rfl⟩
theorem wq_X3_15 : xFF RX3 15 3 5 (.array .int) := ⟨_, _, _, cl_X3, by decide, xT_in (xt1 211 rfl) rfl, by decide +kernel, rfl, rfl⟩
theorem wf_X2_110 : xFL RX2 110 3 5 (.array .int) true := ⟨_, _, _, cl_X3, by decide, Or.inr ⟨"FilmFoot", List.mem_filter.mpr ⟨xt1 212 rfl, rfl⟩⟩, by decide +kernel, rfl⟩
theorem wf_X3_18 : xFL RX3 18 3 6 (.array .int) true := ⟨_, _, _, cl_X3, by decide, Or.inl (xT_in (xt1 213 rfl) rfl), by decide +kernel, rfl⟩
theorem wq_X3_18 : xFF RX3 18 3 6 (.array .int) := ⟨_, _, _, cl_X3, by decide, xT_in (xt1 213 rfl) rfl, by decide +kernel, rfl, rfl⟩
theorem wf_X11_162 : xFL RX11 162 3 6 (.array .int) true := ⟨_, _, _, cl_X3, by decide, Or.inr ⟨"FilmFoot", List.mem_filter.mpr ⟨xt1 214 rfl, rfl⟩⟩, by decide +kernel, rfl⟩
theorem wf_X2_119 : xFL RX2 119 3 6 (.array .int) true := ⟨_, _, _, cl_X3, by decide, Or.inr ⟨"FilmFoot", List.mem_filter.mpr ⟨xt1 215 rfl, rfl⟩⟩, by decide +kernel, rfl⟩
theorem wf_X6_11 : xFL RX6 11 6 0 (.array (.object "FilmFoot$Hall")) true := ⟨_, _, _, cl_X6, by decide, Or.inl (xT_in (xt2 0 rfl) rfl), by decide +kernel, rfl⟩
theorem wq_X6_11 : xFF RX6 11 6 0 (.array (.object "FilmFoot$Hall")) := ⟨_, _, _, cl_X6, by decide, xT_in (xt2 0 rfl) rfl, by decide +kernel, rfl, rfl⟩
theorem wf_X6_18 : xFL RX6 18 6 1 .int false := ⟨_, _, _, cl_X6, by decide, Or.inl (xT_in (xt2 1 rfl) rfl), by decide +kernel, rfl⟩
theorem wf_X6_26 : xFL RX6 26 6 2 .int false := ⟨_, _, _, cl_X6, by decide, Or.inl (xT_in (xt2 2 rfl) rfl), by decide +kernel, rfl⟩
theorem wf_X11_103 : xFL RX11 103 6 2 .int false := ⟨_, _, _, cl_X6, by decide, Or.inr ⟨"FilmFoot", List.mem_filter.mpr ⟨xt2 3 rfl, rfl⟩⟩, by decide +kernel, rfl⟩
theorem wf_X0_7 : xFL RX0 7 0 0 .long false := ⟨_, _, _, cl_X0, by decide, Or.inl (xT_in (xt2 19 rfl) rfl), by decide +kernel, rfl⟩
theorem wf_X11_357 : xFL RX11 357 0 0 .long false := ⟨_, _, _, cl_X0, by decide, Or.inr ⟨"FilmFoot", List.mem_filter.mpr ⟨xt2 20 rfl, rfl⟩⟩, by decide +kernel, rfl⟩
theorem wf_X5_22 : xFL RX5 22 5 0 .boolean false := ⟨_, _, _, cl_X5, by decide, Or.inl (xT_in (xt2 31 rfl) rfl), by decide +kernel, rfl⟩
theorem wf_X11_112 : xFL RX11 112 5 0 .boolean false := ⟨_, _, _, cl_X5, by decide, Or.inr ⟨"FilmFoot", List.mem_filter.mpr ⟨xt2 32 rfl, rfl⟩⟩, by decide +kernel, rfl⟩
theorem wf_X5_12 : xFL RX5 12 5 1 (.object "FilmFoot$Hall") true := ⟨_, _, _, cl_X5, by decide, Or.inl (xT_in (xt2 33 rfl) rfl), by decide +kernel, rfl⟩
theorem wq_X5_12 : xFF RX5 12 5 1 (.object "FilmFoot$Hall") := ⟨_, _, _, cl_X5, by decide, xT_in (xt2 33 rfl) rfl, by decide +kernel, rfl, rfl⟩
theorem wf_X5_18 : xFL RX5 18 5 2 (.array .int) true := ⟨_, _, _, cl_X5, by decide, Or.inl (xT_in (xt2 34 rfl) rfl), by decide +kernel, rfl⟩
theorem wq_X5_18 : xFF RX5 18 5 2 (.array .int) := ⟨_, _, _, cl_X5, by decide, xT_in (xt2 34 rfl) rfl, by decide +kernel, rfl, rfl⟩
theorem wf_X11_12 : xFL RX11 12 9 0 (.object "FilmFoot$Tape") true := ⟨_, _, _, cl_X11, by decide, Or.inl (xT_in (xt2 58 rfl) rfl), by decide +kernel, rfl⟩
theorem wq_X11_12 : xFF RX11 12 9 0 (.object "FilmFoot$Tape") := ⟨_, _, _, cl_X11, by decide, xT_in (xt2 58 rfl) rfl, by decide +kernel, rfl, rfl⟩
theorem wf_X11_19 : xFL RX11 19 9 1 (.object "FilmFoot$Reader") true := ⟨_, _, _, cl_X11, by decide, Or.inl (xT_in (xt2 59 rfl) rfl), by decide +kernel, rfl⟩
theorem wq_X11_19 : xFF RX11 19 9 1 (.object "FilmFoot$Reader") := ⟨_, _, _, cl_X11, by decide, xT_in (xt2 59 rfl) rfl, by decide +kernel, rfl, rfl⟩
theorem wf_X11_26 : xFL RX11 26 9 2 (.object "FilmFoot$Film") false := ⟨_, _, _, cl_X11, by decide, Or.inl (xT_in (xt2 60 rfl) rfl), by decide +kernel, rfl⟩
theorem wf_X11_30 : xFL RX11 30 9 3 (.object "FilmFoot$Film") false := ⟨_, _, _, cl_X11, by decide, Or.inl (xT_in (xt2 61 rfl) rfl), by decide +kernel, rfl⟩
theorem wf_X11_36 : xFL RX11 36 9 4 (.object "FilmFoot$Evening") false := ⟨_, _, _, cl_X11, by decide, Or.inl (xT_in (xt2 62 rfl) rfl), by decide +kernel, rfl⟩
theorem wf_X11_40 : xFL RX11 40 9 5 (.object "FilmFoot$Evening") false := ⟨_, _, _, cl_X11, by decide, Or.inl (xT_in (xt2 63 rfl) rfl), by decide +kernel, rfl⟩
theorem wf_X11_46 : xFL RX11 46 9 6 (.object "FilmFoot$Hall") true := ⟨_, _, _, cl_X11, by decide, Or.inl (xT_in (xt2 64 rfl) rfl), by decide +kernel, rfl⟩
theorem wq_X11_46 : xFF RX11 46 9 6 (.object "FilmFoot$Hall") := ⟨_, _, _, cl_X11, by decide, xT_in (xt2 64 rfl) rfl, by decide +kernel, rfl, rfl⟩
theorem wf_X11_50 : xFL RX11 50 9 7 (.object "FilmFoot$Hall") true := ⟨_, _, _, cl_X11, by decide, Or.inl (xT_in (xt2 65 rfl) rfl), by decide +kernel, rfl⟩
theorem wq_X11_50 : xFF RX11 50 9 7 (.object "FilmFoot$Hall") := ⟨_, _, _, cl_X11, by decide, xT_in (xt2 65 rfl) rfl, by decide +kernel, rfl, rfl⟩
theorem wf_X11_56 : xFL RX11 56 9 8 (.object "FilmFoot$Past") true := ⟨_, _, _, cl_X11, by decide, Or.inl (xT_in (xt2 66 rfl) rfl), by decide +kernel, rfl⟩
theorem wq_X11_56 : xFF RX11 56 9 8 (.object "FilmFoot$Past") := ⟨_, _, _, cl_X11, by decide, xT_in (xt2 66 rfl) rfl, by decide +kernel, rfl, rfl⟩
theorem wf_X11_62 : xFL RX11 62 9 9 (.array (.object "FilmFoot$Mark")) true := ⟨_, _, _, cl_X11, by decide, Or.inl (xT_in (xt2 67 rfl) rfl), by decide +kernel, rfl⟩
theorem wq_X11_62 : xFF RX11 62 9 9 (.array (.object "FilmFoot$Mark")) := ⟨_, _, _, cl_X11, by decide, xT_in (xt2 67 rfl) rfl, by decide +kernel, rfl, rfl⟩
theorem wf_X11_66 : xFL RX11 66 9 10 (.array .int) true := ⟨_, _, _, cl_X11, by decide, Or.inl (xT_in (xt2 68 rfl) rfl), by decide +kernel, rfl⟩
theorem wq_X11_66 : xFF RX11 66 9 10 (.array .int) := ⟨_, _, _, cl_X11, by decide, xT_in (xt2 68 rfl) rfl, by decide +kernel, rfl, rfl⟩
theorem wf_X11_70 : xFL RX11 70 9 11 (.array .int) true := ⟨_, _, _, cl_X11, by decide, Or.inl (xT_in (xt2 69 rfl) rfl), by decide +kernel, rfl⟩
theorem wq_X11_70 : xFF RX11 70 9 11 (.array .int) := ⟨_, _, _, cl_X11, by decide, xT_in (xt2 69 rfl) rfl, by decide +kernel, rfl, rfl⟩
theorem wf_X11_76 : xFL RX11 76 9 12 (.object "FilmFoot$Draw") true := ⟨_, _, _, cl_X11, by decide, Or.inl (xT_in (xt2 70 rfl) rfl), by decide +kernel, rfl⟩
theorem wq_X11_76 : xFF RX11 76 9 12 (.object "FilmFoot$Draw") := ⟨_, _, _, cl_X11, by decide, xT_in (xt2 70 rfl) rfl, by decide +kernel, rfl, rfl⟩
theorem wh_X10_125 : Cond.fieldLink RX10 125 "FilmFoot$Word" "ALL" "[LFilmFoot$Word;" ∈ xT := xT_in (xt2 146 rfl) rfl
theorem wg_X7_39 : Cond.fieldLink RX7 39 xWc (xWnm.getD 0 "") xWd ∈ xT := xT_in (xt3 4 rfl) rfl
theorem wg_X7_53 : Cond.fieldLink RX7 53 xWc (xWnm.getD 1 "") xWd ∈ xT := xT_in (xt3 47 rfl) rfl
theorem wg_X7_183 : Cond.fieldLink RX7 183 xWc (xWnm.getD 2 "") xWd ∈ xT := xT_in (xt3 56 rfl) rfl
theorem wg_X7_186 : Cond.fieldLink RX7 186 xWc (xWnm.getD 3 "") xWd ∈ xT := xT_in (xt3 58 rfl) rfl
theorem wg_X7_115 : Cond.fieldLink RX7 115 xWc (xWnm.getD 4 "") xWd ∈ xT := xT_in (xt3 63 rfl) rfl
theorem wg_X7_59 : Cond.fieldLink RX7 59 xWc (xWnm.getD 5 "") xWd ∈ xT := xT_in (xt3 77 rfl) rfl
theorem wg_X7_171 : Cond.fieldLink RX7 171 xWc (xWnm.getD 15 "") xWd ∈ xT := xT_in (xt3 86 rfl) rfl
theorem wg_X7_174 : Cond.fieldLink RX7 174 xWc (xWnm.getD 16 "") xWd ∈ xT := xT_in (xt3 88 rfl) rfl
theorem wg_X7_177 : Cond.fieldLink RX7 177 xWc (xWnm.getD 17 "") xWd ∈ xT := xT_in (xt3 90 rfl) rfl
theorem wg_X7_180 : Cond.fieldLink RX7 180 xWc (xWnm.getD 18 "") xWd ∈ xT := xT_in (xt3 92 rfl) rfl
theorem wg_X7_133 : Cond.fieldLink RX7 133 xWc (xWnm.getD 6 "") xWd ∈ xT := xT_in (xt3 94 rfl) rfl
theorem wg_X7_140 : Cond.fieldLink RX7 140 xWc (xWnm.getD 7 "") xWd ∈ xT := xT_in (xt3 100 rfl) rfl
theorem wg_X7_65 : Cond.fieldLink RX7 65 xWc (xWnm.getD 8 "") xWd ∈ xT := xT_in (xt3 106 rfl) rfl
theorem wg_X7_71 : Cond.fieldLink RX7 71 xWc (xWnm.getD 9 "") xWd ∈ xT := xT_in (xt3 112 rfl) rfl
theorem wg_X4_93 : Cond.fieldLink RX4 93 xWc (xWnm.getD 22 "") xWd ∈ xT := xT_in (xt3 141 rfl) rfl
theorem wg_X4_96 : Cond.fieldLink RX4 96 xWc (xWnm.getD 23 "") xWd ∈ xT := xT_in (xt3 144 rfl) rfl
theorem wg_X4_99 : Cond.fieldLink RX4 99 xWc (xWnm.getD 24 "") xWd ∈ xT := xT_in (xt3 146 rfl) rfl
theorem wg_X4_102 : Cond.fieldLink RX4 102 xWc (xWnm.getD 25 "") xWd ∈ xT := xT_in (xt3 148 rfl) rfl
theorem wg_X4_74 : Cond.fieldLink RX4 74 xWc (xWnm.getD 19 "") xWd ∈ xT := xT_in (xt3 150 rfl) rfl
theorem wg_X4_32 : Cond.fieldLink RX4 32 xWc (xWnm.getD 20 "") xWd ∈ xT := xT_in (xt3 162 rfl) rfl
theorem wg_X4_44 : Cond.fieldLink RX4 44 xWc (xWnm.getD 21 "") xWd ∈ xT := xT_in (xt3 164 rfl) rfl
theorem wg_X7_213 : Cond.fieldLink RX7 213 xWc (xWnm.getD 10 "") xWd ∈ xT := xT_in (xt3 213 rfl) rfl
theorem wg_X7_216 : Cond.fieldLink RX7 216 xWc (xWnm.getD 11 "") xWd ∈ xT := xT_in (xt3 215 rfl) rfl
theorem wg_X7_219 : Cond.fieldLink RX7 219 xWc (xWnm.getD 12 "") xWd ∈ xT := xT_in (xt3 217 rfl) rfl
theorem wg_X7_222 : Cond.fieldLink RX7 222 xWc (xWnm.getD 13 "") xWd ∈ xT := xT_in (xt3 219 rfl) rfl
theorem wg_X7_225 : Cond.fieldLink RX7 225 xWc (xWnm.getD 14 "") xWd ∈ xT := xT_in (xt3 221 rfl) rfl
theorem wf_X12_1 : xFL RX12 1 10 0 .int false := ⟨_, _, _, cl_X12, by decide, Or.inl (xT_in (xt6 44 rfl) rfl), by decide +kernel, rfl⟩
theorem wf_X12_14 : xFL RX12 14 10 1 (.array .int) true := ⟨_, _, _, cl_X12, by decide, Or.inl (xT_in (xt6 45 rfl) rfl), by decide +kernel, rfl⟩
theorem wq_X12_14 : xFF RX12 14 10 1 (.array .int) := ⟨_, _, _, cl_X12, by decide, xT_in (xt6 45 rfl) rfl, by decide +kernel, rfl, rfl⟩
theorem wf_X12_11 : xFL RX12 11 10 2 .int false := ⟨_, _, _, cl_X12, by decide, Or.inl (xT_in (xt6 46 rfl) rfl), by decide +kernel, rfl⟩
theorem wf_X12_143 : xFL RX12 143 10 3 .int false := ⟨_, _, _, cl_X12, by decide, Or.inl (xT_in (xt6 47 rfl) rfl), by decide +kernel, rfl⟩
theorem wf_X12_24 : xFL RX12 24 10 4 (.array .int) true := ⟨_, _, _, cl_X12, by decide, Or.inl (xT_in (xt6 48 rfl) rfl), by decide +kernel, rfl⟩
theorem wq_X12_24 : xFF RX12 24 10 4 (.array .int) := ⟨_, _, _, cl_X12, by decide, xT_in (xt6 48 rfl) rfl, by decide +kernel, rfl, rfl⟩
theorem wf_X12_27 : xFL RX12 27 10 5 (.array .int) true := ⟨_, _, _, cl_X12, by decide, Or.inl (xT_in (xt6 49 rfl) rfl), by decide +kernel, rfl⟩
theorem wq_X12_27 : xFF RX12 27 10 5 (.array .int) := ⟨_, _, _, cl_X12, by decide, xT_in (xt6 49 rfl) rfl, by decide +kernel, rfl, rfl⟩
theorem wf_X12_30 : xFL RX12 30 10 6 (.array .long) true := ⟨_, _, _, cl_X12, by decide, Or.inl (xT_in (xt6 50 rfl) rfl), by decide +kernel, rfl⟩
theorem wq_X12_30 : xFF RX12 30 10 6 (.array .long) := ⟨_, _, _, cl_X12, by decide, xT_in (xt6 50 rfl) rfl, by decide +kernel, rfl, rfl⟩
theorem wf_X12_162 : xFL RX12 162 10 7 .int false := ⟨_, _, _, cl_X12, by decide, Or.inl (xT_in (xt6 51 rfl) rfl), by decide +kernel, rfl⟩
theorem wf_X12_165 : xFL RX12 165 10 8 .int false := ⟨_, _, _, cl_X12, by decide, Or.inl (xT_in (xt6 52 rfl) rfl), by decide +kernel, rfl⟩
theorem wf_X12_86 : xFL RX12 86 10 9 (.array .long) true := ⟨_, _, _, cl_X12, by decide, Or.inl (xT_in (xt6 53 rfl) rfl), by decide +kernel, rfl⟩
theorem wq_X12_86 : xFF RX12 86 10 9 (.array .long) := ⟨_, _, _, cl_X12, by decide, xT_in (xt6 53 rfl) rfl, by decide +kernel, rfl, rfl⟩
theorem wf_X12_89 : xFL RX12 89 10 10 (.array .int) true := ⟨_, _, _, cl_X12, by decide, Or.inl (xT_in (xt6 54 rfl) rfl), by decide +kernel, rfl⟩
theorem wq_X12_89 : xFF RX12 89 10 10 (.array .int) := ⟨_, _, _, cl_X12, by decide, xT_in (xt6 54 rfl) rfl, by decide +kernel, rfl, rfl⟩
theorem wf_X12_92 : xFL RX12 92 10 11 (.array .int) true := ⟨_, _, _, cl_X12, by decide, Or.inl (xT_in (xt6 55 rfl) rfl), by decide +kernel, rfl⟩
theorem wq_X12_92 : xFF RX12 92 10 11 (.array .int) := ⟨_, _, _, cl_X12, by decide, xT_in (xt6 55 rfl) rfl, by decide +kernel, rfl, rfl⟩
theorem wf_X12_95 : xFL RX12 95 10 12 (.array .int) true := ⟨_, _, _, cl_X12, by decide, Or.inl (xT_in (xt6 56 rfl) rfl), by decide +kernel, rfl⟩
theorem wq_X12_95 : xFF RX12 95 10 12 (.array .int) := ⟨_, _, _, cl_X12, by decide, xT_in (xt6 56 rfl) rfl, by decide +kernel, rfl, rfl⟩
theorem wf_X12_218 : xFL RX12 218 10 13 .int false := ⟨_, _, _, cl_X12, by decide, Or.inl (xT_in (xt6 57 rfl) rfl), by decide +kernel, rfl⟩
theorem wf_X12_98 : xFL RX12 98 10 14 (.array .long) true := ⟨_, _, _, cl_X12, by decide, Or.inl (xT_in (xt6 58 rfl) rfl), by decide +kernel, rfl⟩
theorem wq_X12_98 : xFF RX12 98 10 14 (.array .long) := ⟨_, _, _, cl_X12, by decide, xT_in (xt6 58 rfl) rfl, by decide +kernel, rfl, rfl⟩
theorem wf_X12_101 : xFL RX12 101 10 15 (.array .long) true := ⟨_, _, _, cl_X12, by decide, Or.inl (xT_in (xt6 59 rfl) rfl), by decide +kernel, rfl⟩
theorem wq_X12_101 : xFF RX12 101 10 15 (.array .long) := ⟨_, _, _, cl_X12, by decide, xT_in (xt6 59 rfl) rfl, by decide +kernel, rfl, rfl⟩
theorem wf_X12_104 : xFL RX12 104 10 16 (.array .int) true := ⟨_, _, _, cl_X12, by decide, Or.inl (xT_in (xt6 60 rfl) rfl), by decide +kernel, rfl⟩
theorem wq_X12_104 : xFF RX12 104 10 16 (.array .int) := ⟨_, _, _, cl_X12, by decide, xT_in (xt6 60 rfl) rfl, by decide +kernel, rfl, rfl⟩
theorem wf_X12_107 : xFL RX12 107 10 17 (.array .int) true := ⟨_, _, _, cl_X12, by decide, Or.inl (xT_in (xt6 61 rfl) rfl), by decide +kernel, rfl⟩
theorem wq_X12_107 : xFF RX12 107 10 17 (.array .int) := ⟨_, _, _, cl_X12, by decide, xT_in (xt6 61 rfl) rfl, by decide +kernel, rfl, rfl⟩
theorem wf_X12_196 : xFL RX12 196 10 18 .int false := ⟨_, _, _, cl_X12, by decide, Or.inl (xT_in (xt6 62 rfl) rfl), by decide +kernel, rfl⟩
theorem wf_X12_193 : xFL RX12 193 10 19 .int false := ⟨_, _, _, cl_X12, by decide, Or.inl (xT_in (xt6 63 rfl) rfl), by decide +kernel, rfl⟩
theorem wf_X12_221 : xFL RX12 221 10 20 .int false := ⟨_, _, _, cl_X12, by decide, Or.inl (xT_in (xt6 64 rfl) rfl), by decide +kernel, rfl⟩
theorem wf_X12_110 : xFL RX12 110 10 21 (.array .int) true := ⟨_, _, _, cl_X12, by decide, Or.inl (xT_in (xt6 65 rfl) rfl), by decide +kernel, rfl⟩
theorem wq_X12_110 : xFF RX12 110 10 21 (.array .int) := ⟨_, _, _, cl_X12, by decide, xT_in (xt6 65 rfl) rfl, by decide +kernel, rfl, rfl⟩
theorem wf_X12_113 : xFL RX12 113 10 22 (.array .int) true := ⟨_, _, _, cl_X12, by decide, Or.inl (xT_in (xt6 66 rfl) rfl), by decide +kernel, rfl⟩
theorem wq_X12_113 : xFF RX12 113 10 22 (.array .int) := ⟨_, _, _, cl_X12, by decide, xT_in (xt6 66 rfl) rfl, by decide +kernel, rfl, rfl⟩
theorem wf_X12_116 : xFL RX12 116 10 23 (.array .int) true := ⟨_, _, _, cl_X12, by decide, Or.inl (xT_in (xt6 67 rfl) rfl), by decide +kernel, rfl⟩
theorem wq_X12_116 : xFF RX12 116 10 23 (.array .int) := ⟨_, _, _, cl_X12, by decide, xT_in (xt6 67 rfl) rfl, by decide +kernel, rfl, rfl⟩
theorem wf_X12_119 : xFL RX12 119 10 24 (.array .int) true := ⟨_, _, _, cl_X12, by decide, Or.inl (xT_in (xt6 68 rfl) rfl), by decide +kernel, rfl⟩
theorem wq_X12_119 : xFF RX12 119 10 24 (.array .int) := ⟨_, _, _, cl_X12, by decide, xT_in (xt6 68 rfl) rfl, by decide +kernel, rfl, rfl⟩
theorem wf_X12_291 : xFL RX12 291 10 25 .int false := ⟨_, _, _, cl_X12, by decide, Or.inl (xT_in (xt6 69 rfl) rfl), by decide +kernel, rfl⟩
theorem wf_X12_122 : xFL RX12 122 10 26 (.array .boolean) true := ⟨_, _, _, cl_X12, by decide, Or.inl (xT_in (xt6 70 rfl) rfl), by decide +kernel, rfl⟩
theorem wq_X12_122 : xFF RX12 122 10 26 (.array .boolean) := ⟨_, _, _, cl_X12, by decide, xT_in (xt6 70 rfl) rfl, by decide +kernel, rfl, rfl⟩
theorem wf_X12_126 : xFL RX12 126 10 27 (.array .int) true := ⟨_, _, _, cl_X12, by decide, Or.inl (xT_in (xt6 71 rfl) rfl), by decide +kernel, rfl⟩
theorem wq_X12_126 : xFF RX12 126 10 27 (.array .int) := ⟨_, _, _, cl_X12, by decide, xT_in (xt6 71 rfl) rfl, by decide +kernel, rfl, rfl⟩
theorem wf_X12_129 : xFL RX12 129 10 28 (.array .int) true := ⟨_, _, _, cl_X12, by decide, Or.inl (xT_in (xt6 72 rfl) rfl), by decide +kernel, rfl⟩
theorem wq_X12_129 : xFF RX12 129 10 28 (.array .int) := ⟨_, _, _, cl_X12, by decide, xT_in (xt6 72 rfl) rfl, by decide +kernel, rfl, rfl⟩
theorem wf_X12_402 : xFL RX12 402 10 29 .long false := ⟨_, _, _, cl_X12, by decide, Or.inl (xT_in (xt6 73 rfl) rfl), by decide +kernel, rfl⟩
theorem wh_X10_117 : Cond.fieldLink RX10 117 "FilmFoot$Word" "code" "J" ∈ xT := xT_in (xt8 117 rfl) rfl
theorem wh_X9_86 : Cond.fieldLinkNest RX9 86 "FilmFoot$Word" "kept" "Z" "FilmFoot" ∈ xN := List.mem_filter.mpr ⟨xt8 120 rfl, rfl⟩
theorem mt_X11_init : xMth yX11_init cX11_init 2 none 0 := ⟨xT_in (xt1 32 rfl) rfl, xT_in (xt1 1 rfl) rfl, ⟨by decide +kernel, by decide +kernel, by decide +kernel⟩, by decide +kernel, by decide⟩
theorem mi_X11_init : xCon yX11_init cX11_init 2 0 := ⟨mt_X11_init, rfl, xT_in (xt1 31 rfl) rfl⟩
theorem mt_X9_init : xMth yX9_init cX9_init 1 none 0 := ⟨xT_in (xt1 40 rfl) rfl, xT_in (xt1 2 rfl) rfl, ⟨by decide +kernel, by decide +kernel, by decide +kernel⟩, by decide +kernel, by decide⟩
theorem mi_X9_init : xCon yX9_init cX9_init 1 0 := ⟨mt_X9_init, rfl, xT_in (xt1 39 rfl) rfl⟩
theorem mt_X7_init : xMth yX7_init cX7_init 1 none 0 := ⟨xT_in (xt1 81 rfl) rfl, xT_in (xt1 3 rfl) rfl, ⟨by decide +kernel, by decide +kernel, by decide +kernel⟩, by decide +kernel, by decide⟩
theorem mi_X7_init : xCon yX7_init cX7_init 1 0 := ⟨mt_X7_init, rfl, xT_in (xt1 80 rfl) rfl⟩
theorem mt_X4_init : xMth yX4_init cX4_init 1 none 0 := ⟨xT_in (xt1 87 rfl) rfl, xT_in (xt1 4 rfl) rfl, ⟨by decide +kernel, by decide +kernel, by decide +kernel⟩, by decide +kernel, by decide⟩
theorem mi_X4_init : xCon yX4_init cX4_init 1 0 := ⟨mt_X4_init, rfl, xT_in (xt1 86 rfl) rfl⟩
theorem mt_X2_init : xMth yX2_init cX2_init 1 none 0 := ⟨xT_in (xt1 115 rfl) rfl, xT_in (xt1 5 rfl) rfl, ⟨by decide +kernel, by decide +kernel, by decide +kernel⟩, by decide +kernel, by decide⟩
theorem mi_X2_init : xCon yX2_init cX2_init 1 0 := ⟨mt_X2_init, rfl, xT_in (xt1 114 rfl) rfl⟩
theorem mt_X1_init : xMth yX1_init cX1_init 1 none 0 := ⟨xT_in (xt1 170 rfl) rfl, xT_in (xt1 6 rfl) rfl, ⟨by decide +kernel, by decide +kernel, by decide +kernel⟩, by decide +kernel, by decide⟩
theorem mi_X1_init : xCon yX1_init cX1_init 1 0 := ⟨mt_X1_init, rfl, xT_in (xt1 169 rfl) rfl⟩
theorem mt_X3_init : xMth yX3_init cX3_init 1 none 0 := ⟨xT_in (xt1 194 rfl) rfl, xT_in (xt1 7 rfl) rfl, ⟨by decide +kernel, by decide +kernel, by decide +kernel⟩, by decide +kernel, by decide⟩
theorem mi_X3_init : xCon yX3_init cX3_init 1 0 := ⟨mt_X3_init, rfl, xT_in (xt1 193 rfl) rfl⟩
theorem mt_X6_init : xMth yX6_init cX6_init 2 none 0 := ⟨xT_in (xt1 235 rfl) rfl, xT_in (xt1 8 rfl) rfl, ⟨by decide +kernel, by decide +kernel, by decide +kernel⟩, by decide +kernel, by decide⟩
theorem mi_X6_init : xCon yX6_init cX6_init 2 0 := ⟨mt_X6_init, rfl, xT_in (xt1 234 rfl) rfl⟩
theorem mt_X0_init : xMth yX0_init cX0_init 1 none 0 := ⟨xT_in (xt2 17 rfl) rfl, xT_in (xt1 9 rfl) rfl, ⟨by decide +kernel, by decide +kernel, by decide +kernel⟩, by decide +kernel, by decide⟩
theorem mi_X0_init : xCon yX0_init cX0_init 1 0 := ⟨mt_X0_init, rfl, xT_in (xt2 16 rfl) rfl⟩
theorem mt_X5_init : xMth yX5_init cX5_init 1 none 0 := ⟨xT_in (xt2 27 rfl) rfl, xT_in (xt1 10 rfl) rfl, ⟨by decide +kernel, by decide +kernel, by decide +kernel⟩, by decide +kernel, by decide⟩
theorem mi_X5_init : xCon yX5_init cX5_init 1 0 := ⟨mt_X5_init, rfl, xT_in (xt2 26 rfl) rfl⟩
theorem mt_X2_open : xMth yX2_open cX2_open 2 none 1 := ⟨xT_in (xt2 45 rfl) rfl, xT_in (xt1 5 rfl) rfl, ⟨by decide +kernel, by decide +kernel, by decide +kernel⟩, by decide +kernel, by decide⟩
theorem mv_X2_open : xVir yX2_open cX2_open 2 none 1 2 := ⟨mt_X2_open, xT_in (xt2 43 rfl) rfl, xT_in (xt2 44 rfl) rfl, by decide, RX2, TX2, 12, rfl, rfl⟩
theorem mt_X8_copy : xMth yX8_copy cX8_copy 2 none 2 := ⟨xT_in (xt2 48 rfl) rfl, xT_in (xt1 11 rfl) rfl, ⟨by decide +kernel, by decide +kernel, by decide +kernel⟩, by decide +kernel, by decide⟩
theorem ms_X8_copy : xSta yX8_copy cX8_copy 2 none 2 := ⟨mt_X8_copy, xT_in (xt2 47 rfl) rfl⟩
theorem mt_J7_fill_53178 : xMth yJ7_fill_53178 cJ7_fill_53178 4 none 2 := ⟨xT_in (xt2 57 rfl) rfl, xT_in (xt1 14 rfl) rfl, ⟨by decide +kernel, by decide +kernel, by decide +kernel⟩, by decide +kernel, by decide⟩
theorem ms_J7_fill_53178 : xSta yJ7_fill_53178 cJ7_fill_53178 4 none 2 := ⟨mt_J7_fill_53178, xT_in (xt2 56 rfl) rfl⟩
theorem mt_X11_feed : xMth yX11_feed cX11_feed 7 (some .int) 3 := ⟨xT_in (xt2 101 rfl) rfl, xT_in (xt1 1 rfl) rfl, ⟨by decide +kernel, by decide +kernel, by decide +kernel⟩, by decide +kernel, by decide⟩
theorem mv_X11_feed : xVir yX11_feed cX11_feed 7 (some .int) 3 9 := ⟨mt_X11_feed, xT_in (xt2 99 rfl) rfl, xT_in (xt2 100 rfl) rfl, by decide, RX11, TX11, 13, rfl, rfl⟩
theorem mt_X9_add : xMth yX9_add cX9_add 5 none 1 := ⟨xT_in (xt2 105 rfl) rfl, xT_in (xt1 2 rfl) rfl, ⟨by decide +kernel, by decide +kernel, by decide +kernel⟩, by decide +kernel, by decide⟩
theorem mv_X9_add : xVir yX9_add cX9_add 5 none 1 8 := ⟨mt_X9_add, xT_in (xt2 103 rfl) rfl, xT_in (xt2 104 rfl) rfl, by decide, RX9, TX9, 9, rfl, rfl⟩
theorem mt_X11_film : xMth yX11_film cX11_film 3 (some .int) 0 := ⟨xT_in (xt2 110 rfl) rfl, xT_in (xt1 1 rfl) rfl, ⟨by decide +kernel, by decide +kernel, by decide +kernel⟩, by decide +kernel, by decide⟩
theorem mv_X11_film : xVir yX11_film cX11_film 3 (some .int) 0 9 := ⟨mt_X11_film, xT_in (xt2 108 rfl) rfl, xT_in (xt2 109 rfl) rfl, by decide, RX11, TX11, 13, rfl, rfl⟩
theorem mt_X7_readFilm : xMth yX7_readFilm cX7_readFilm 4 (some .int) 2 := ⟨xT_in (xt2 114 rfl) rfl, xT_in (xt1 3 rfl) rfl, ⟨by decide +kernel, by decide +kernel, by decide +kernel⟩, by decide +kernel, by decide⟩
theorem mv_X7_readFilm : xVir yX7_readFilm cX7_readFilm 4 (some .int) 2 7 := ⟨mt_X7_readFilm, xT_in (xt2 112 rfl) rfl, xT_in (xt2 113 rfl) rfl, by decide, RX7, TX7, 3, rfl, rfl⟩
theorem mt_X2_clear : xMth yX2_clear cX2_clear 1 none 0 := ⟨xT_in (xt2 118 rfl) rfl, xT_in (xt1 5 rfl) rfl, ⟨by decide +kernel, by decide +kernel, by decide +kernel⟩, by decide +kernel, by decide⟩
theorem mv_X2_clear : xVir yX2_clear cX2_clear 1 none 0 2 := ⟨mt_X2_clear, xT_in (xt2 116 rfl) rfl, xT_in (xt2 117 rfl) rfl, by decide, RX2, TX2, 12, rfl, rfl⟩
theorem mt_X9_begin : xMth yX9_begin cX9_begin 1 none 0 := ⟨xT_in (xt2 122 rfl) rfl, xT_in (xt1 2 rfl) rfl, ⟨by decide +kernel, by decide +kernel, by decide +kernel⟩, by decide +kernel, by decide⟩
theorem mv_X9_begin : xVir yX9_begin cX9_begin 1 none 0 8 := ⟨mt_X9_begin, xT_in (xt2 120 rfl) rfl, xT_in (xt2 121 rfl) rfl, by decide, RX9, TX9, 9, rfl, rfl⟩
theorem mt_X9_step : xMth yX9_step cX9_step 2 none 0 := ⟨xT_in (xt2 126 rfl) rfl, xT_in (xt1 2 rfl) rfl, ⟨by decide +kernel, by decide +kernel, by decide +kernel⟩, by decide +kernel, by decide⟩
theorem mv_X9_step : xVir yX9_step cX9_step 2 none 0 8 := ⟨mt_X9_step, xT_in (xt2 124 rfl) rfl, xT_in (xt2 125 rfl) rfl, by decide, RX9, TX9, 9, rfl, rfl⟩
theorem mt_X9_signAt : xMth yX9_signAt cX9_signAt 2 (some .char) 1 := ⟨xT_in (xt2 130 rfl) rfl, xT_in (xt1 2 rfl) rfl, ⟨by decide +kernel, by decide +kernel, by decide +kernel⟩, by decide +kernel, by decide⟩
theorem mv_X9_signAt : xVir yX9_signAt cX9_signAt 2 (some .char) 1 8 := ⟨mt_X9_signAt, xT_in (xt2 129 rfl) rfl, xT_sel (List.mem_of_getElem? (i := 0) rfl) rfl, by decide, RX9, TX9, 9, rfl, rfl⟩
theorem mt_X9_isLetter : xMth yX9_isLetter cX9_isLetter 1 (some .boolean) 1 := ⟨xT_in (xt2 133 rfl) rfl, xT_in (xt1 2 rfl) rfl, ⟨by decide +kernel, by decide +kernel, by decide +kernel⟩, by decide +kernel, by decide⟩
theorem ms_X9_isLetter : xSta yX9_isLetter cX9_isLetter 1 (some .boolean) 1 := ⟨mt_X9_isLetter, xT_in (xt2 132 rfl) rfl⟩
theorem mt_X9_readWord : xMth yX9_readWord cX9_readWord 1 none 0 := ⟨xT_in (xt2 137 rfl) rfl, xT_in (xt1 2 rfl) rfl, ⟨by decide +kernel, by decide +kernel, by decide +kernel⟩, by decide +kernel, by decide⟩
theorem mv_X9_readWord : xVir yX9_readWord cX9_readWord 1 none 0 8 := ⟨mt_X9_readWord, xT_in (xt2 136 rfl) rfl, xT_sel (List.mem_of_getElem? (i := 1) rfl) rfl, by decide, RX9, TX9, 9, rfl, rfl⟩
theorem mt_X9_longer : xMth yX9_longer cX9_longer 3 (some .long) 2 := ⟨xT_in (xt2 140 rfl) rfl, xT_in (xt1 2 rfl) rfl, ⟨by decide +kernel, by decide +kernel, by decide +kernel⟩, by decide +kernel, by decide⟩
theorem ms_X9_longer : xSta yX9_longer cX9_longer 3 (some .long) 2 := ⟨mt_X9_longer, xT_in (xt2 139 rfl) rfl⟩
theorem mt_X10_named : xMth yX10_named cX10_named 3 (some (.object "FilmFoot$Word")) 1 := ⟨xT_in (xt2 145 rfl) rfl, xT_in (xt1 17 rfl) rfl, ⟨by decide +kernel, by decide +kernel, by decide +kernel⟩, by decide +kernel, by decide⟩
theorem ms_X10_named : xSta yX10_named cX10_named 3 (some (.object "FilmFoot$Word")) 1 := ⟨mt_X10_named, xT_in (xt2 144 rfl) rfl⟩
theorem mt_X9_isDigit : xMth yX9_isDigit cX9_isDigit 1 (some .boolean) 1 := ⟨xT_in (xt2 150 rfl) rfl, xT_in (xt1 2 rfl) rfl, ⟨by decide +kernel, by decide +kernel, by decide +kernel⟩, by decide +kernel, by decide⟩
theorem ms_X9_isDigit : xSta yX9_isDigit cX9_isDigit 1 (some .boolean) 1 := ⟨mt_X9_isDigit, xT_in (xt2 149 rfl) rfl⟩
theorem mt_X9_readNumber : xMth yX9_readNumber cX9_readNumber 1 none 0 := ⟨xT_in (xt2 154 rfl) rfl, xT_in (xt1 2 rfl) rfl, ⟨by decide +kernel, by decide +kernel, by decide +kernel⟩, by decide +kernel, by decide⟩
theorem mv_X9_readNumber : xVir yX9_readNumber cX9_readNumber 1 none 0 8 := ⟨mt_X9_readNumber, xT_in (xt2 153 rfl) rfl, xT_sel (List.mem_of_getElem? (i := 2) rfl) rfl, by decide, RX9, TX9, 9, rfl, rfl⟩
theorem mt_J0_indexOf_0f7a4 : xMth yJ0_indexOf_0f7a4 cJ0_indexOf_0f7a4 2 (some .int) 1 := ⟨xT_in (xt2 159 rfl) rfl, xT_in (xt1 18 rfl) rfl, ⟨by decide +kernel, by decide +kernel, by decide +kernel⟩, by decide +kernel, by decide⟩
theorem mt_J0_indexOf_7cf53 : xMth yJ0_indexOf_7cf53 cJ0_indexOf_7cf53 3 (some .int) 2 := ⟨xT_in (xt2 163 rfl) rfl, xT_in (xt1 18 rfl) rfl, ⟨by decide +kernel, by decide +kernel, by decide +kernel⟩, by decide +kernel, by decide⟩
theorem mt_J0_isLatin1_aae02 : xMth yJ0_isLatin1_aae02 cJ0_isLatin1_aae02 1 (some .boolean) 0 := ⟨xT_in (xt2 167 rfl) rfl, xT_in (xt1 18 rfl) rfl, ⟨by decide +kernel, by decide +kernel, by decide +kernel⟩, by decide +kernel, by decide⟩
theorem mt_J0_length_8abf5 : xMth yJ0_length_8abf5 cJ0_length_8abf5 1 (some .int) 0 := ⟨xT_in (xt2 173 rfl) rfl, xT_in (xt1 18 rfl) rfl, ⟨by decide +kernel, by decide +kernel, by decide +kernel⟩, by decide +kernel, by decide⟩
theorem mt_J0_coder_7d493 : xMth yJ0_coder_7d493 cJ0_coder_7d493 1 (some .byte) 0 := ⟨xT_in (xt2 177 rfl) rfl, xT_in (xt1 18 rfl) rfl, ⟨by decide +kernel, by decide +kernel, by decide +kernel⟩, by decide +kernel, by decide⟩
theorem mt_J1_indexOf_4cfef : xMth yJ1_indexOf_4cfef cJ1_indexOf_4cfef 4 (some .int) 4 := ⟨xT_in (xt2 180 rfl) rfl, xT_in (xt1 19 rfl) rfl, ⟨by decide +kernel, by decide +kernel, by decide +kernel⟩, by decide +kernel, by decide⟩
theorem ms_J1_indexOf_4cfef : xSta yJ1_indexOf_4cfef cJ1_indexOf_4cfef 4 (some .int) 4 := ⟨mt_J1_indexOf_4cfef, xT_in (xt2 179 rfl) rfl⟩
theorem mt_J1_canEncode_9a6ad : xMth yJ1_canEncode_9a6ad cJ1_canEncode_9a6ad 1 (some .boolean) 1 := ⟨xT_in (xt2 183 rfl) rfl, xT_in (xt1 19 rfl) rfl, ⟨by decide +kernel, by decide +kernel, by decide +kernel⟩, by decide +kernel, by decide⟩
theorem ms_J1_canEncode_9a6ad : xSta yJ1_canEncode_9a6ad cJ1_canEncode_9a6ad 1 (some .boolean) 1 := ⟨mt_J1_canEncode_9a6ad, xT_in (xt2 182 rfl) rfl⟩
theorem mt_J1_indexOfChar_4cfef : xMth yJ1_indexOfChar_4cfef cJ1_indexOfChar_4cfef 6 (some .int) 4 := ⟨xT_in (xt2 190 rfl) rfl, xT_in (xt1 19 rfl) rfl, ⟨by decide +kernel, by decide +kernel, by decide +kernel⟩, by decide +kernel, by decide⟩
theorem ms_J1_indexOfChar_4cfef : xSta yJ1_indexOfChar_4cfef cJ1_indexOfChar_4cfef 6 (some .int) 4 := ⟨mt_J1_indexOfChar_4cfef, xT_in (xt2 189 rfl) rfl⟩
theorem mt_J0_checkBoundsBeginEnd_23922 : xMth yJ0_checkBoundsBeginEnd_23922 cJ0_checkBoundsBeginEnd_23922 3 none 3 := ⟨xT_in (xt2 208 rfl) rfl, xT_in (xt1 18 rfl) rfl, ⟨by decide +kernel, by decide +kernel, by decide +kernel⟩, by decide +kernel, by decide⟩
theorem ms_J0_checkBoundsBeginEnd_23922 : xSta yJ0_checkBoundsBeginEnd_23922 cJ0_checkBoundsBeginEnd_23922 3 none 3 := ⟨mt_J0_checkBoundsBeginEnd_23922, xT_in (xt2 207 rfl) rfl⟩
theorem mt_X9_goesOn : xMth yX9_goesOn cX9_goesOn 1 (some .boolean) 0 := ⟨xT_in (xt3 3 rfl) rfl, xT_in (xt1 2 rfl) rfl, ⟨by decide +kernel, by decide +kernel, by decide +kernel⟩, by decide +kernel, by decide⟩
theorem mv_X9_goesOn : xVir yX9_goesOn cX9_goesOn 1 (some .boolean) 0 8 := ⟨mt_X9_goesOn, xT_in (xt3 1 rfl) rfl, xT_in (xt3 2 rfl) rfl, by decide, RX9, TX9, 9, rfl, rfl⟩
theorem mt_X9_isWord : xMth yX9_isWord cX9_isWord 2 (some .boolean) 1 := ⟨xT_in (xt3 9 rfl) rfl, xT_in (xt1 2 rfl) rfl, ⟨by decide +kernel, by decide +kernel, by decide +kernel⟩, by decide +kernel, by decide⟩
theorem mv_X9_isWord : xVir yX9_isWord cX9_isWord 2 (some .boolean) 1 8 := ⟨mt_X9_isWord, xT_in (xt3 7 rfl) rfl, xT_in (xt3 8 rfl) rfl, by decide, RX9, TX9, 9, rfl, rfl⟩
theorem mt_X7_readThing : xMth yX7_readThing cX7_readThing 5 none 2 := ⟨xT_in (xt3 13 rfl) rfl, xT_in (xt1 3 rfl) rfl, ⟨by decide +kernel, by decide +kernel, by decide +kernel⟩, by decide +kernel, by decide⟩
theorem mv_X7_readThing : xVir yX7_readThing cX7_readThing 5 none 2 7 := ⟨mt_X7_readThing, xT_in (xt3 12 rfl) rfl, xT_sel (List.mem_of_getElem? (i := 3) rfl) rfl, by decide, RX7, TX7, 3, rfl, rfl⟩
theorem mt_X9_refuse : xMth yX9_refuse cX9_refuse 2 none 1 := ⟨xT_in (xt3 17 rfl) rfl, xT_in (xt1 2 rfl) rfl, ⟨by decide +kernel, by decide +kernel, by decide +kernel⟩, by decide +kernel, by decide⟩
theorem mv_X9_refuse : xVir yX9_refuse cX9_refuse 2 none 1 8 := ⟨mt_X9_refuse, xT_in (xt3 15 rfl) rfl, xT_in (xt3 16 rfl) rfl, by decide, RX9, TX9, 9, rfl, rfl⟩
theorem mt_X7_newName : xMth yX7_newName cX7_newName 4 (some .long) 2 := ⟨xT_in (xt3 21 rfl) rfl, xT_in (xt1 3 rfl) rfl, ⟨by decide +kernel, by decide +kernel, by decide +kernel⟩, by decide +kernel, by decide⟩
theorem ms_X7_newName : xSta yX7_newName cX7_newName 4 (some .long) 2 := ⟨mt_X7_newName, xT_in (xt3 20 rfl) rfl⟩
theorem mt_X9_isName : xMth yX9_isName cX9_isName 1 (some .boolean) 0 := ⟨xT_in (xt3 25 rfl) rfl, xT_in (xt1 2 rfl) rfl, ⟨by decide +kernel, by decide +kernel, by decide +kernel⟩, by decide +kernel, by decide⟩
theorem mv_X9_isName : xVir yX9_isName cX9_isName 1 (some .boolean) 0 8 := ⟨mt_X9_isName, xT_in (xt3 23 rfl) rfl, xT_in (xt3 24 rfl) rfl, by decide, RX9, TX9, 9, rfl, rfl⟩
theorem mt_X2_thingNamed : xMth yX2_thingNamed cX2_thingNamed 4 (some .int) 1 := ⟨xT_in (xt3 29 rfl) rfl, xT_in (xt1 5 rfl) rfl, ⟨by decide +kernel, by decide +kernel, by decide +kernel⟩, by decide +kernel, by decide⟩
theorem mv_X2_thingNamed : xVir yX2_thingNamed cX2_thingNamed 4 (some .int) 1 2 := ⟨mt_X2_thingNamed, xT_in (xt3 27 rfl) rfl, xT_in (xt3 28 rfl) rfl, by decide, RX2, TX2, 12, rfl, rfl⟩
theorem mt_X2_watcherNamed : xMth yX2_watcherNamed cX2_watcherNamed 4 (some .int) 1 := ⟨xT_in (xt3 33 rfl) rfl, xT_in (xt1 5 rfl) rfl, ⟨by decide +kernel, by decide +kernel, by decide +kernel⟩, by decide +kernel, by decide⟩
theorem mv_X2_watcherNamed : xVir yX2_watcherNamed cX2_watcherNamed 4 (some .int) 1 2 := ⟨mt_X2_watcherNamed, xT_in (xt3 31 rfl) rfl, xT_in (xt3 32 rfl) rfl, by decide, RX2, TX2, 12, rfl, rfl⟩
theorem mt_X9_needSign : xMth yX9_needSign cX9_needSign 2 none 1 := ⟨xT_in (xt3 37 rfl) rfl, xT_in (xt1 2 rfl) rfl, ⟨by decide +kernel, by decide +kernel, by decide +kernel⟩, by decide +kernel, by decide⟩
theorem mv_X9_needSign : xVir yX9_needSign cX9_needSign 2 none 1 8 := ⟨mt_X9_needSign, xT_in (xt3 35 rfl) rfl, xT_in (xt3 36 rfl) rfl, by decide, RX9, TX9, 9, rfl, rfl⟩
theorem mt_X9_isSign : xMth yX9_isSign cX9_isSign 2 (some .boolean) 1 := ⟨xT_in (xt3 41 rfl) rfl, xT_in (xt1 2 rfl) rfl, ⟨by decide +kernel, by decide +kernel, by decide +kernel⟩, by decide +kernel, by decide⟩
theorem mv_X9_isSign : xVir yX9_isSign cX9_isSign 2 (some .boolean) 1 8 := ⟨mt_X9_isSign, xT_in (xt3 39 rfl) rfl, xT_in (xt3 40 rfl) rfl, by decide, RX9, TX9, 9, rfl, rfl⟩
theorem mt_X2_addThing : xMth yX2_addThing cX2_addThing 3 none 1 := ⟨xT_in (xt3 46 rfl) rfl, xT_in (xt1 5 rfl) rfl, ⟨by decide +kernel, by decide +kernel, by decide +kernel⟩, by decide +kernel, by decide⟩
theorem mv_X2_addThing : xVir yX2_addThing cX2_addThing 3 none 1 2 := ⟨mt_X2_addThing, xT_in (xt3 44 rfl) rfl, xT_in (xt3 45 rfl) rfl, by decide, RX2, TX2, 12, rfl, rfl⟩
theorem mt_X7_readScene : xMth yX7_readScene cX7_readScene 5 none 2 := ⟨xT_in (xt3 52 rfl) rfl, xT_in (xt1 3 rfl) rfl, ⟨by decide +kernel, by decide +kernel, by decide +kernel⟩, by decide +kernel, by decide⟩
theorem mv_X7_readScene : xVir yX7_readScene cX7_readScene 5 none 2 7 := ⟨mt_X7_readScene, xT_in (xt3 51 rfl) rfl, xT_sel (List.mem_of_getElem? (i := 4) rfl) rfl, by decide, RX7, TX7, 3, rfl, rfl⟩
theorem mt_X7_readClaim : xMth yX7_readClaim cX7_readClaim 4 (some .int) 2 := ⟨xT_in (xt3 55 rfl) rfl, xT_in (xt1 3 rfl) rfl, ⟨by decide +kernel, by decide +kernel, by decide +kernel⟩, by decide +kernel, by decide⟩
theorem ms_X7_readClaim : xSta yX7_readClaim cX7_readClaim 4 (some .int) 2 := ⟨mt_X7_readClaim, xT_in (xt3 54 rfl) rfl⟩
theorem mt_X11_claim : xMth yX11_claim cX11_claim 2 (some .int) 2 := ⟨xT_in (xt3 62 rfl) rfl, xT_in (xt1 1 rfl) rfl, ⟨by decide +kernel, by decide +kernel, by decide +kernel⟩, by decide +kernel, by decide⟩
theorem ms_X11_claim : xSta yX11_claim cX11_claim 2 (some .int) 2 := ⟨mt_X11_claim, xT_in (xt3 61 rfl) rfl⟩
theorem mt_X9_need : xMth yX9_need cX9_need 2 none 1 := ⟨xT_in (xt3 68 rfl) rfl, xT_in (xt1 2 rfl) rfl, ⟨by decide +kernel, by decide +kernel, by decide +kernel⟩, by decide +kernel, by decide⟩
theorem mv_X9_need : xVir yX9_need cX9_need 2 none 1 8 := ⟨mt_X9_need, xT_in (xt3 66 rfl) rfl, xT_in (xt3 67 rfl) rfl, by decide, RX9, TX9, 9, rfl, rfl⟩
theorem mt_X2_addScene : xMth yX2_addScene cX2_addScene 3 none 2 := ⟨xT_in (xt3 73 rfl) rfl, xT_in (xt1 5 rfl) rfl, ⟨by decide +kernel, by decide +kernel, by decide +kernel⟩, by decide +kernel, by decide⟩
theorem mv_X2_addScene : xVir yX2_addScene cX2_addScene 3 none 2 2 := ⟨mt_X2_addScene, xT_in (xt3 71 rfl) rfl, xT_in (xt3 72 rfl) rfl, by decide, RX2, TX2, 12, rfl, rfl⟩
theorem mt_X8_set : xMth yX8_set cX8_set 3 none 3 := ⟨xT_in (xt3 76 rfl) rfl, xT_in (xt1 11 rfl) rfl, ⟨by decide +kernel, by decide +kernel, by decide +kernel⟩, by decide +kernel, by decide⟩
theorem ms_X8_set : xSta yX8_set cX8_set 3 none 3 := ⟨mt_X8_set, xT_in (xt3 75 rfl) rfl⟩
theorem mt_X7_readWatcher : xMth yX7_readWatcher cX7_readWatcher 8 none 2 := ⟨xT_in (xt3 82 rfl) rfl, xT_in (xt1 3 rfl) rfl, ⟨by decide +kernel, by decide +kernel, by decide +kernel⟩, by decide +kernel, by decide⟩
theorem mv_X7_readWatcher : xVir yX7_readWatcher cX7_readWatcher 8 none 2 7 := ⟨mt_X7_readWatcher, xT_in (xt3 81 rfl) rfl, xT_sel (List.mem_of_getElem? (i := 5) rfl) rfl, by decide, RX7, TX7, 3, rfl, rfl⟩
theorem mt_X7_readKind : xMth yX7_readKind cX7_readKind 2 (some .int) 1 := ⟨xT_in (xt3 85 rfl) rfl, xT_in (xt1 3 rfl) rfl, ⟨by decide +kernel, by decide +kernel, by decide +kernel⟩, by decide +kernel, by decide⟩
theorem ms_X7_readKind : xSta yX7_readKind cX7_readKind 2 (some .int) 1 := ⟨mt_X7_readKind, xT_in (xt3 84 rfl) rfl⟩
theorem mt_X9_number : xMth yX9_number cX9_number 4 (some .int) 2 := ⟨xT_in (xt3 99 rfl) rfl, xT_in (xt1 2 rfl) rfl, ⟨by decide +kernel, by decide +kernel, by decide +kernel⟩, by decide +kernel, by decide⟩
theorem mv_X9_number : xVir yX9_number cX9_number 4 (some .int) 2 8 := ⟨mt_X9_number, xT_in (xt3 97 rfl) rfl, xT_in (xt3 98 rfl) rfl, by decide, RX9, TX9, 9, rfl, rfl⟩
theorem mt_X2_addWatcher : xMth yX2_addWatcher cX2_addWatcher 6 none 4 := ⟨xT_in (xt3 105 rfl) rfl, xT_in (xt1 5 rfl) rfl, ⟨by decide +kernel, by decide +kernel, by decide +kernel⟩, by decide +kernel, by decide⟩
theorem mv_X2_addWatcher : xVir yX2_addWatcher cX2_addWatcher 6 none 4 2 := ⟨mt_X2_addWatcher, xT_in (xt3 103 rfl) rfl, xT_in (xt3 104 rfl) rfl, by decide, RX2, TX2, 12, rfl, rfl⟩
theorem mt_X7_readStar : xMth yX7_readStar cX7_readStar 3 none 2 := ⟨xT_in (xt3 111 rfl) rfl, xT_in (xt1 3 rfl) rfl, ⟨by decide +kernel, by decide +kernel, by decide +kernel⟩, by decide +kernel, by decide⟩
theorem mv_X7_readStar : xVir yX7_readStar cX7_readStar 3 none 2 7 := ⟨mt_X7_readStar, xT_in (xt3 110 rfl) rfl, xT_sel (List.mem_of_getElem? (i := 6) rfl) rfl, by decide, RX7, TX7, 3, rfl, rfl⟩
theorem mt_X7_readDoubts : xMth yX7_readDoubts cX7_readDoubts 2 none 1 := ⟨xT_in (xt3 117 rfl) rfl, xT_in (xt1 3 rfl) rfl, ⟨by decide +kernel, by decide +kernel, by decide +kernel⟩, by decide +kernel, by decide⟩
theorem mv_X7_readDoubts : xVir yX7_readDoubts cX7_readDoubts 2 none 1 7 := ⟨mt_X7_readDoubts, xT_in (xt3 116 rfl) rfl, xT_sel (List.mem_of_getElem? (i := 7) rfl) rfl, by decide, RX7, TX7, 3, rfl, rfl⟩
theorem mt_X4_readAll : xMth yX4_readAll cX4_readAll 5 none 2 := ⟨xT_in (xt3 121 rfl) rfl, xT_in (xt1 4 rfl) rfl, ⟨by decide +kernel, by decide +kernel, by decide +kernel⟩, by decide +kernel, by decide⟩
theorem mv_X4_readAll : xVir yX4_readAll cX4_readAll 5 none 2 4 := ⟨mt_X4_readAll, xT_in (xt3 120 rfl) rfl, xT_sel (List.mem_of_getElem? (i := 8) rfl) rfl, by decide, RX4, TX4, 3, rfl, rfl⟩
theorem mt_X4_readTest : xMth yX4_readTest cX4_readTest 4 none 2 := ⟨xT_in (xt3 125 rfl) rfl, xT_in (xt1 4 rfl) rfl, ⟨by decide +kernel, by decide +kernel, by decide +kernel⟩, by decide +kernel, by decide⟩
theorem mv_X4_readTest : xVir yX4_readTest cX4_readTest 4 none 2 4 := ⟨mt_X4_readTest, xT_in (xt3 124 rfl) rfl, xT_sel (List.mem_of_getElem? (i := 9) rfl) rfl, by decide, RX4, TX4, 3, rfl, rfl⟩
theorem mt_X4_readSum : xMth yX4_readSum cX4_readSum 5 none 2 := ⟨xT_in (xt3 129 rfl) rfl, xT_in (xt1 4 rfl) rfl, ⟨by decide +kernel, by decide +kernel, by decide +kernel⟩, by decide +kernel, by decide⟩
theorem mv_X4_readSum : xVir yX4_readSum cX4_readSum 5 none 2 4 := ⟨mt_X4_readSum, xT_in (xt3 128 rfl) rfl, xT_sel (List.mem_of_getElem? (i := 10) rfl) rfl, by decide, RX4, TX4, 3, rfl, rfl⟩
theorem mt_X4_readProduct : xMth yX4_readProduct cX4_readProduct 4 none 2 := ⟨xT_in (xt3 133 rfl) rfl, xT_in (xt1 4 rfl) rfl, ⟨by decide +kernel, by decide +kernel, by decide +kernel⟩, by decide +kernel, by decide⟩
theorem mv_X4_readProduct : xVir yX4_readProduct cX4_readProduct 4 none 2 4 := ⟨mt_X4_readProduct, xT_in (xt3 132 rfl) rfl, xT_sel (List.mem_of_getElem? (i := 11) rfl) rfl, by decide, RX4, TX4, 3, rfl, rfl⟩
theorem mt_X4_readPart : xMth yX4_readPart cX4_readPart 7 none 2 := ⟨xT_in (xt3 137 rfl) rfl, xT_in (xt1 4 rfl) rfl, ⟨by decide +kernel, by decide +kernel, by decide +kernel⟩, by decide +kernel, by decide⟩
theorem mv_X4_readPart : xVir yX4_readPart cX4_readPart 7 none 2 4 := ⟨mt_X4_readPart, xT_in (xt3 136 rfl) rfl, xT_sel (List.mem_of_getElem? (i := 12) rfl) rfl, by decide, RX4, TX4, 3, rfl, rfl⟩
theorem mt_X4_factAt : xMth yX4_factAt cX4_factAt 1 (some .int) 1 := ⟨xT_in (xt3 140 rfl) rfl, xT_in (xt1 4 rfl) rfl, ⟨by decide +kernel, by decide +kernel, by decide +kernel⟩, by decide +kernel, by decide⟩
theorem ms_X4_factAt : xSta yX4_factAt cX4_factAt 1 (some .int) 1 := ⟨mt_X4_factAt, xT_in (xt3 139 rfl) rfl⟩
theorem mt_X4_emit : xMth yX4_emit cX4_emit 2 none 1 := ⟨xT_in (xt3 158 rfl) rfl, xT_in (xt1 4 rfl) rfl, ⟨by decide +kernel, by decide +kernel, by decide +kernel⟩, by decide +kernel, by decide⟩
theorem mv_X4_emit : xVir yX4_emit cX4_emit 2 none 1 4 := ⟨mt_X4_emit, xT_in (xt3 157 rfl) rfl, xT_sel (List.mem_of_getElem? (i := 13) rfl) rfl, by decide, RX4, TX4, 3, rfl, rfl⟩
theorem mt_X2_setDoubts : xMth yX2_setDoubts cX2_setDoubts 7 none 1 := ⟨xT_in (xt3 169 rfl) rfl, xT_in (xt1 5 rfl) rfl, ⟨by decide +kernel, by decide +kernel, by decide +kernel⟩, by decide +kernel, by decide⟩
theorem mv_X2_setDoubts : xVir yX2_setDoubts cX2_setDoubts 7 none 1 2 := ⟨mt_X2_setDoubts, xT_in (xt3 167 rfl) rfl, xT_in (xt3 168 rfl) rfl, by decide, RX2, TX2, 12, rfl, rfl⟩
theorem mt_X2_plainDoubt : xMth yX2_plainDoubt cX2_plainDoubt 4 (some .int) 3 := ⟨xT_in (xt3 173 rfl) rfl, xT_in (xt1 5 rfl) rfl, ⟨by decide +kernel, by decide +kernel, by decide +kernel⟩, by decide +kernel, by decide⟩
theorem mv_X2_plainDoubt : xVir yX2_plainDoubt cX2_plainDoubt 4 (some .int) 3 2 := ⟨mt_X2_plainDoubt, xT_in (xt3 172 rfl) rfl, xT_sel (List.mem_of_getElem? (i := 14) rfl) rfl, by decide, RX2, TX2, 12, rfl, rfl⟩
theorem mt_X8_get : xMth yX8_get cX8_get 2 (some .int) 2 := ⟨xT_in (xt3 176 rfl) rfl, xT_in (xt1 11 rfl) rfl, ⟨by decide +kernel, by decide +kernel, by decide +kernel⟩, by decide +kernel, by decide⟩
theorem ms_X8_get : xSta yX8_get cX8_get 2 (some .int) 2 := ⟨mt_X8_get, xT_in (xt3 175 rfl) rfl⟩
theorem mt_X4_value : xMth yX4_value cX4_value 8 (some .int) 4 := ⟨xT_in (xt3 180 rfl) rfl, xT_in (xt1 4 rfl) rfl, ⟨by decide +kernel, by decide +kernel, by decide +kernel⟩, by decide +kernel, by decide⟩
theorem mv_X4_value : xVir yX4_value cX4_value 8 (some .int) 4 4 := ⟨mt_X4_value, xT_in (xt3 178 rfl) rfl, xT_in (xt3 179 rfl) rfl, by decide, RX4, TX4, 3, rfl, rfl⟩
theorem mt_X4_fact : xMth yX4_fact cX4_fact 5 (some .int) 5 := ⟨xT_in (xt3 184 rfl) rfl, xT_in (xt1 4 rfl) rfl, ⟨by decide +kernel, by decide +kernel, by decide +kernel⟩, by decide +kernel, by decide⟩
theorem ms_X4_fact : xSta yX4_fact cX4_fact 5 (some .int) 5 := ⟨mt_X4_fact, xT_in (xt3 183 rfl) rfl⟩
theorem mt_X4_both : xMth yX4_both cX4_both 3 (some .int) 3 := ⟨xT_in (xt3 187 rfl) rfl, xT_in (xt1 4 rfl) rfl, ⟨by decide +kernel, by decide +kernel, by decide +kernel⟩, by decide +kernel, by decide⟩
theorem ms_X4_both : xSta yX4_both cX4_both 3 (some .int) 3 := ⟨mt_X4_both, xT_in (xt3 186 rfl) rfl⟩
theorem mt_X2_doubtAt : xMth yX2_doubtAt cX2_doubtAt 4 (some .int) 4 := ⟨xT_in (xt3 190 rfl) rfl, xT_in (xt1 5 rfl) rfl, ⟨by decide +kernel, by decide +kernel, by decide +kernel⟩, by decide +kernel, by decide⟩
theorem ms_X2_doubtAt : xSta yX2_doubtAt cX2_doubtAt 4 (some .int) 4 := ⟨mt_X2_doubtAt, xT_in (xt3 189 rfl) rfl⟩
theorem mt_X11_begin : xMth yX11_begin cX11_begin 2 none 0 := ⟨xT_in (xt3 196 rfl) rfl, xT_in (xt1 1 rfl) rfl, ⟨by decide +kernel, by decide +kernel, by decide +kernel⟩, by decide +kernel, by decide⟩
theorem mv_X11_begin : xVir yX11_begin cX11_begin 2 none 0 9 := ⟨mt_X11_begin, xT_in (xt3 195 rfl) rfl, xT_sel (List.mem_of_getElem? (i := 15) rfl) rfl, by decide, RX11, TX11, 13, rfl, rfl⟩
theorem mt_X11_evening : xMth yX11_evening cX11_evening 3 (some .int) 0 := ⟨xT_in (xt3 202 rfl) rfl, xT_in (xt1 1 rfl) rfl, ⟨by decide +kernel, by decide +kernel, by decide +kernel⟩, by decide +kernel, by decide⟩
theorem mv_X11_evening : xVir yX11_evening cX11_evening 3 (some .int) 0 9 := ⟨mt_X11_evening, xT_in (xt3 200 rfl) rfl, xT_in (xt3 201 rfl) rfl, by decide, RX11, TX11, 13, rfl, rfl⟩
theorem mt_X7_readEvening : xMth yX7_readEvening cX7_readEvening 5 (some .int) 3 := ⟨xT_in (xt3 206 rfl) rfl, xT_in (xt1 3 rfl) rfl, ⟨by decide +kernel, by decide +kernel, by decide +kernel⟩, by decide +kernel, by decide⟩
theorem mv_X7_readEvening : xVir yX7_readEvening cX7_readEvening 5 (some .int) 3 7 := ⟨mt_X7_readEvening, xT_in (xt3 204 rfl) rfl, xT_in (xt3 205 rfl) rfl, by decide, RX7, TX7, 3, rfl, rfl⟩
theorem mt_X7_readEveningLine : xMth yX7_readEveningLine cX7_readEveningLine 6 none 3 := ⟨xT_in (xt3 209 rfl) rfl, xT_in (xt1 3 rfl) rfl, ⟨by decide +kernel, by decide +kernel, by decide +kernel⟩, by decide +kernel, by decide⟩
theorem ms_X7_readEveningLine : xSta yX7_readEveningLine cX7_readEveningLine 6 none 3 := ⟨mt_X7_readEveningLine, xT_in (xt3 208 rfl) rfl⟩
theorem mt_X7_deedAt : xMth yX7_deedAt cX7_deedAt 1 (some .int) 1 := ⟨xT_in (xt3 212 rfl) rfl, xT_in (xt1 3 rfl) rfl, ⟨by decide +kernel, by decide +kernel, by decide +kernel⟩, by decide +kernel, by decide⟩
theorem ms_X7_deedAt : xSta yX7_deedAt cX7_deedAt 1 (some .int) 1 := ⟨mt_X7_deedAt, xT_in (xt3 211 rfl) rfl⟩
theorem mt_X7_readTalker : xMth yX7_readTalker cX7_readTalker 4 (some .int) 3 := ⟨xT_in (xt3 225 rfl) rfl, xT_in (xt1 3 rfl) rfl, ⟨by decide +kernel, by decide +kernel, by decide +kernel⟩, by decide +kernel, by decide⟩
theorem ms_X7_readTalker : xSta yX7_readTalker cX7_readTalker 4 (some .int) 3 := ⟨mt_X7_readTalker, xT_in (xt3 224 rfl) rfl⟩
theorem mt_X1_add : xMth yX1_add cX1_add 4 none 3 := ⟨xT_in (xt3 229 rfl) rfl, xT_in (xt1 6 rfl) rfl, ⟨by decide +kernel, by decide +kernel, by decide +kernel⟩, by decide +kernel, by decide⟩
theorem mv_X1_add : xVir yX1_add cX1_add 4 none 3 1 := ⟨mt_X1_add, xT_in (xt3 227 rfl) rfl, xT_in (xt3 228 rfl) rfl, by decide, RX1, TX1, 4, rfl, rfl⟩
theorem mt_X11_scene : xMth yX11_scene cX11_scene 3 (some .int) 2 := ⟨xT_in (xt3 234 rfl) rfl, xT_in (xt1 1 rfl) rfl, ⟨by decide +kernel, by decide +kernel, by decide +kernel⟩, by decide +kernel, by decide⟩
theorem mv_X11_scene : xVir yX11_scene cX11_scene 3 (some .int) 2 9 := ⟨mt_X11_scene, xT_in (xt3 232 rfl) rfl, xT_in (xt3 233 rfl) rfl, by decide, RX11, TX11, 13, rfl, rfl⟩
theorem mt_X2_hasScene : xMth yX2_hasScene cX2_hasScene 2 (some .boolean) 1 := ⟨xT_in (xt3 238 rfl) rfl, xT_in (xt1 5 rfl) rfl, ⟨by decide +kernel, by decide +kernel, by decide +kernel⟩, by decide +kernel, by decide⟩
theorem mv_X2_hasScene : xVir yX2_hasScene cX2_hasScene 2 (some .boolean) 1 2 := ⟨mt_X2_hasScene, xT_in (xt3 236 rfl) rfl, xT_in (xt3 237 rfl) rfl, by decide, RX2, TX2, 12, rfl, rfl⟩
theorem mt_X2_saying : xMth yX2_saying cX2_saying 5 (some .int) 2 := ⟨xT_in (xt4 2 rfl) rfl, xT_in (xt1 5 rfl) rfl, ⟨by decide +kernel, by decide +kernel, by decide +kernel⟩, by decide +kernel, by decide⟩
theorem mv_X2_saying : xVir yX2_saying cX2_saying 5 (some .int) 2 2 := ⟨mt_X2_saying, xT_in (xt4 0 rfl) rfl, xT_in (xt4 1 rfl) rfl, by decide, RX2, TX2, 12, rfl, rfl⟩
theorem mt_X3_isCut : xMth yX3_isCut cX3_isCut 2 (some .boolean) 1 := ⟨xT_in (xt4 6 rfl) rfl, xT_in (xt1 7 rfl) rfl, ⟨by decide +kernel, by decide +kernel, by decide +kernel⟩, by decide +kernel, by decide⟩
theorem mv_X3_isCut : xVir yX3_isCut cX3_isCut 2 (some .boolean) 1 3 := ⟨mt_X3_isCut, xT_in (xt4 4 rfl) rfl, xT_in (xt4 5 rfl) rfl, by decide, RX3, TX3, 7, rfl, rfl⟩
theorem mt_X3_writing : xMth yX3_writing cX3_writing 2 (some .int) 1 := ⟨xT_in (xt4 10 rfl) rfl, xT_in (xt1 7 rfl) rfl, ⟨by decide +kernel, by decide +kernel, by decide +kernel⟩, by decide +kernel, by decide⟩
theorem mv_X3_writing : xVir yX3_writing cX3_writing 2 (some .int) 1 3 := ⟨mt_X3_writing, xT_in (xt4 8 rfl) rfl, xT_in (xt4 9 rfl) rfl, by decide, RX3, TX3, 7, rfl, rfl⟩
theorem mt_X11_thingOf : xMth yX11_thingOf cX11_thingOf 1 (some .int) 1 := ⟨xT_in (xt4 14 rfl) rfl, xT_in (xt1 1 rfl) rfl, ⟨by decide +kernel, by decide +kernel, by decide +kernel⟩, by decide +kernel, by decide⟩
theorem ms_X11_thingOf : xSta yX11_thingOf cX11_thingOf 1 (some .int) 1 := ⟨mt_X11_thingOf, xT_in (xt4 13 rfl) rfl⟩
theorem mt_X11_isOf : xMth yX11_isOf cX11_isOf 1 (some .int) 1 := ⟨xT_in (xt4 18 rfl) rfl, xT_in (xt1 1 rfl) rfl, ⟨by decide +kernel, by decide +kernel, by decide +kernel⟩, by decide +kernel, by decide⟩
theorem ms_X11_isOf : xSta yX11_isOf cX11_isOf 1 (some .int) 1 := ⟨mt_X11_isOf, xT_in (xt4 17 rfl) rfl⟩
theorem mt_X11_watcher : xMth yX11_watcher cX11_watcher 3 (some .int) 2 := ⟨xT_in (xt4 24 rfl) rfl, xT_in (xt1 1 rfl) rfl, ⟨by decide +kernel, by decide +kernel, by decide +kernel⟩, by decide +kernel, by decide⟩
theorem mv_X11_watcher : xVir yX11_watcher cX11_watcher 3 (some .int) 2 9 := ⟨mt_X11_watcher, xT_in (xt4 22 rfl) rfl, xT_in (xt4 23 rfl) rfl, by decide, RX11, TX11, 13, rfl, rfl⟩
theorem mt_X2_hasWatcher : xMth yX2_hasWatcher cX2_hasWatcher 2 (some .boolean) 1 := ⟨xT_in (xt4 28 rfl) rfl, xT_in (xt1 5 rfl) rfl, ⟨by decide +kernel, by decide +kernel, by decide +kernel⟩, by decide +kernel, by decide⟩
theorem mv_X2_hasWatcher : xVir yX2_hasWatcher cX2_hasWatcher 2 (some .boolean) 1 2 := ⟨mt_X2_hasWatcher, xT_in (xt4 26 rfl) rfl, xT_in (xt4 27 rfl) rfl, by decide, RX2, TX2, 12, rfl, rfl⟩
theorem mt_X3_isIn : xMth yX3_isIn cX3_isIn 2 (some .boolean) 1 := ⟨xT_in (xt4 33 rfl) rfl, xT_in (xt1 7 rfl) rfl, ⟨by decide +kernel, by decide +kernel, by decide +kernel⟩, by decide +kernel, by decide⟩
theorem mv_X3_isIn : xVir yX3_isIn cX3_isIn 2 (some .boolean) 1 3 := ⟨mt_X3_isIn, xT_in (xt4 31 rfl) rfl, xT_in (xt4 32 rfl) rfl, by decide, RX3, TX3, 7, rfl, rfl⟩
theorem mt_X11_thinks : xMth yX11_thinks cX11_thinks 3 (some .int) 2 := ⟨xT_in (xt4 37 rfl) rfl, xT_in (xt1 1 rfl) rfl, ⟨by decide +kernel, by decide +kernel, by decide +kernel⟩, by decide +kernel, by decide⟩
theorem mv_X11_thinks : xVir yX11_thinks cX11_thinks 3 (some .int) 2 9 := ⟨mt_X11_thinks, xT_in (xt4 35 rfl) rfl, xT_in (xt4 36 rfl) rfl, by decide, RX11, TX11, 13, rfl, rfl⟩
theorem mt_X2_hasView : xMth yX2_hasView cX2_hasView 3 (some .boolean) 2 := ⟨xT_in (xt4 41 rfl) rfl, xT_in (xt1 5 rfl) rfl, ⟨by decide +kernel, by decide +kernel, by decide +kernel⟩, by decide +kernel, by decide⟩
theorem mv_X2_hasView : xVir yX2_hasView cX2_hasView 3 (some .boolean) 2 2 := ⟨mt_X2_hasView, xT_in (xt4 39 rfl) rfl, xT_in (xt4 40 rfl) rfl, by decide, RX2, TX2, 12, rfl, rfl⟩
theorem mt_X2_hasThing : xMth yX2_hasThing cX2_hasThing 2 (some .boolean) 1 := ⟨xT_in (xt4 46 rfl) rfl, xT_in (xt1 5 rfl) rfl, ⟨by decide +kernel, by decide +kernel, by decide +kernel⟩, by decide +kernel, by decide⟩
theorem mv_X2_hasThing : xVir yX2_hasThing cX2_hasThing 2 (some .boolean) 1 2 := ⟨mt_X2_hasThing, xT_in (xt4 44 rfl) rfl, xT_in (xt4 45 rfl) rfl, by decide, RX2, TX2, 12, rfl, rfl⟩
theorem mt_X3_thought : xMth yX3_thought cX3_thought 4 (some .int) 2 := ⟨xT_in (xt4 50 rfl) rfl, xT_in (xt1 7 rfl) rfl, ⟨by decide +kernel, by decide +kernel, by decide +kernel⟩, by decide +kernel, by decide⟩
theorem mv_X3_thought : xVir yX3_thought cX3_thought 4 (some .int) 2 3 := ⟨mt_X3_thought, xT_in (xt4 48 rfl) rfl, xT_in (xt4 49 rfl) rfl, by decide, RX3, TX3, 7, rfl, rfl⟩
theorem mt_X11_show : xMth yX11_show cX11_show 2 (some .int) 0 := ⟨xT_in (xt4 54 rfl) rfl, xT_in (xt1 1 rfl) rfl, ⟨by decide +kernel, by decide +kernel, by decide +kernel⟩, by decide +kernel, by decide⟩
theorem mv_X11_show : xVir yX11_show cX11_show 2 (some .int) 0 9 := ⟨mt_X11_show, xT_in (xt4 52 rfl) rfl, xT_in (xt4 53 rfl) rfl, by decide, RX11, TX11, 13, rfl, rfl⟩
theorem mt_X3_copy : xMth yX3_copy cX3_copy 2 none 1 := ⟨xT_in (xt4 58 rfl) rfl, xT_in (xt1 7 rfl) rfl, ⟨by decide +kernel, by decide +kernel, by decide +kernel⟩, by decide +kernel, by decide⟩
theorem mv_X3_copy : xVir yX3_copy cX3_copy 2 none 1 3 := ⟨mt_X3_copy, xT_in (xt4 56 rfl) rfl, xT_in (xt4 57 rfl) rfl, by decide, RX3, TX3, 7, rfl, rfl⟩
theorem mt_X2_screen : xMth yX2_screen cX2_screen 6 (some .int) 1 := ⟨xT_in (xt4 63 rfl) rfl, xT_in (xt1 5 rfl) rfl, ⟨by decide +kernel, by decide +kernel, by decide +kernel⟩, by decide +kernel, by decide⟩
theorem mv_X2_screen : xVir yX2_screen cX2_screen 6 (some .int) 1 2 := ⟨mt_X2_screen, xT_in (xt4 61 rfl) rfl, xT_in (xt4 62 rfl) rfl, by decide, RX2, TX2, 12, rfl, rfl⟩
theorem mt_X2_watch : xMth yX2_watch cX2_watch 8 (some .boolean) 4 := ⟨xT_in (xt4 69 rfl) rfl, xT_in (xt1 5 rfl) rfl, ⟨by decide +kernel, by decide +kernel, by decide +kernel⟩, by decide +kernel, by decide⟩
theorem mv_X2_watch : xVir yX2_watch cX2_watch 8 (some .boolean) 4 2 := ⟨mt_X2_watch, xT_in (xt4 68 rfl) rfl, xT_sel (List.mem_of_getElem? (i := 16) rfl) rfl, by decide, RX2, TX2, 12, rfl, rfl⟩
theorem mt_X2_taken : xMth yX2_taken cX2_taken 4 (some .int) 3 := ⟨xT_in (xt4 73 rfl) rfl, xT_in (xt1 5 rfl) rfl, ⟨by decide +kernel, by decide +kernel, by decide +kernel⟩, by decide +kernel, by decide⟩
theorem mv_X2_taken : xVir yX2_taken cX2_taken 4 (some .int) 3 2 := ⟨mt_X2_taken, xT_in (xt4 71 rfl) rfl, xT_in (xt4 72 rfl) rfl, by decide, RX2, TX2, 12, rfl, rfl⟩
theorem mt_X2_clash : xMth yX2_clash cX2_clash 2 (some .int) 2 := ⟨xT_in (xt4 76 rfl) rfl, xT_in (xt1 5 rfl) rfl, ⟨by decide +kernel, by decide +kernel, by decide +kernel⟩, by decide +kernel, by decide⟩
theorem ms_X2_clash : xSta yX2_clash cX2_clash 2 (some .int) 2 := ⟨mt_X2_clash, xT_in (xt4 75 rfl) rfl⟩
theorem mt_X2_odd : xMth yX2_odd cX2_odd 4 (some .int) 3 := ⟨xT_in (xt4 79 rfl) rfl, xT_in (xt1 5 rfl) rfl, ⟨by decide +kernel, by decide +kernel, by decide +kernel⟩, by decide +kernel, by decide⟩
theorem ms_X2_odd : xSta yX2_odd cX2_odd 4 (some .int) 3 := ⟨mt_X2_odd, xT_in (xt4 78 rfl) rfl⟩
theorem mt_X3_think : xMth yX3_think cX3_think 4 none 3 := ⟨xT_in (xt4 85 rfl) rfl, xT_in (xt1 7 rfl) rfl, ⟨by decide +kernel, by decide +kernel, by decide +kernel⟩, by decide +kernel, by decide⟩
theorem mv_X3_think : xVir yX3_think cX3_think 4 none 3 3 := ⟨mt_X3_think, xT_in (xt4 83 rfl) rfl, xT_in (xt4 84 rfl) rfl, by decide, RX3, TX3, 7, rfl, rfl⟩
theorem mt_X11_keepPast : xMth yX11_keepPast cX11_keepPast 2 none 1 := ⟨xT_in (xt4 90 rfl) rfl, xT_in (xt1 1 rfl) rfl, ⟨by decide +kernel, by decide +kernel, by decide +kernel⟩, by decide +kernel, by decide⟩
theorem mv_X11_keepPast : xVir yX11_keepPast cX11_keepPast 2 none 1 9 := ⟨mt_X11_keepPast, xT_in (xt4 89 rfl) rfl, xT_sel (List.mem_of_getElem? (i := 17) rfl) rfl, by decide, RX11, TX11, 13, rfl, rfl⟩
theorem mt_X6_keep : xMth yX6_keep cX6_keep 2 none 1 := ⟨xT_in (xt4 94 rfl) rfl, xT_in (xt1 8 rfl) rfl, ⟨by decide +kernel, by decide +kernel, by decide +kernel⟩, by decide +kernel, by decide⟩
theorem mv_X6_keep : xVir yX6_keep cX6_keep 2 none 1 6 := ⟨mt_X6_keep, xT_in (xt4 92 rfl) rfl, xT_in (xt4 93 rfl) rfl, by decide, RX6, TX6, 3, rfl, rfl⟩
theorem mt_X11_write : xMth yX11_write cX11_write 5 (some .boolean) 3 := ⟨xT_in (xt4 100 rfl) rfl, xT_in (xt1 1 rfl) rfl, ⟨by decide +kernel, by decide +kernel, by decide +kernel⟩, by decide +kernel, by decide⟩
theorem mv_X11_write : xVir yX11_write cX11_write 5 (some .boolean) 3 9 := ⟨mt_X11_write, xT_in (xt4 98 rfl) rfl, xT_in (xt4 99 rfl) rfl, by decide, RX11, TX11, 13, rfl, rfl⟩
theorem mt_X2_rewrite : xMth yX2_rewrite cX2_rewrite 4 (some .boolean) 3 := ⟨xT_in (xt4 106 rfl) rfl, xT_in (xt1 5 rfl) rfl, ⟨by decide +kernel, by decide +kernel, by decide +kernel⟩, by decide +kernel, by decide⟩
theorem mv_X2_rewrite : xVir yX2_rewrite cX2_rewrite 4 (some .boolean) 3 2 := ⟨mt_X2_rewrite, xT_in (xt4 104 rfl) rfl, xT_in (xt4 105 rfl) rfl, by decide, RX2, TX2, 12, rfl, rfl⟩
theorem mt_X11_cut : xMth yX11_cut cX11_cut 3 (some .boolean) 1 := ⟨xT_in (xt4 111 rfl) rfl, xT_in (xt1 1 rfl) rfl, ⟨by decide +kernel, by decide +kernel, by decide +kernel⟩, by decide +kernel, by decide⟩
theorem mv_X11_cut : xVir yX11_cut cX11_cut 3 (some .boolean) 1 9 := ⟨mt_X11_cut, xT_in (xt4 109 rfl) rfl, xT_in (xt4 110 rfl) rfl, by decide, RX11, TX11, 13, rfl, rfl⟩
theorem mt_X2_takeAway : xMth yX2_takeAway cX2_takeAway 3 (some .boolean) 2 := ⟨xT_in (xt4 115 rfl) rfl, xT_in (xt1 5 rfl) rfl, ⟨by decide +kernel, by decide +kernel, by decide +kernel⟩, by decide +kernel, by decide⟩
theorem mv_X2_takeAway : xVir yX2_takeAway cX2_takeAway 3 (some .boolean) 2 2 := ⟨mt_X2_takeAway, xT_in (xt4 113 rfl) rfl, xT_in (xt4 114 rfl) rfl, by decide, RX2, TX2, 12, rfl, rfl⟩
theorem mt_X11_talk : xMth yX11_talk cX11_talk 4 (some .int) 2 := ⟨xT_in (xt4 119 rfl) rfl, xT_in (xt1 1 rfl) rfl, ⟨by decide +kernel, by decide +kernel, by decide +kernel⟩, by decide +kernel, by decide⟩
theorem mv_X11_talk : xVir yX11_talk cX11_talk 4 (some .int) 2 9 := ⟨mt_X11_talk, xT_in (xt4 117 rfl) rfl, xT_in (xt4 118 rfl) rfl, by decide, RX11, TX11, 13, rfl, rfl⟩
theorem mt_X2_persuade : xMth yX2_persuade cX2_persuade 6 (some .int) 3 := ⟨xT_in (xt4 123 rfl) rfl, xT_in (xt1 5 rfl) rfl, ⟨by decide +kernel, by decide +kernel, by decide +kernel⟩, by decide +kernel, by decide⟩
theorem mv_X2_persuade : xVir yX2_persuade cX2_persuade 6 (some .int) 3 2 := ⟨mt_X2_persuade, xT_in (xt4 121 rfl) rfl, xT_in (xt4 122 rfl) rfl, by decide, RX2, TX2, 12, rfl, rfl⟩
theorem mt_X2_persuasions : xMth yX2_persuasions cX2_persuasions 6 (some .int) 3 := ⟨xT_in (xt4 127 rfl) rfl, xT_in (xt1 5 rfl) rfl, ⟨by decide +kernel, by decide +kernel, by decide +kernel⟩, by decide +kernel, by decide⟩
theorem mv_X2_persuasions : xVir yX2_persuasions cX2_persuasions 6 (some .int) 3 2 := ⟨mt_X2_persuasions, xT_in (xt4 125 rfl) rfl, xT_in (xt4 126 rfl) rfl, by decide, RX2, TX2, 12, rfl, rfl⟩
theorem mt_X2_persuades : xMth yX2_persuades cX2_persuades 7 (some .boolean) 4 := ⟨xT_in (xt4 131 rfl) rfl, xT_in (xt1 5 rfl) rfl, ⟨by decide +kernel, by decide +kernel, by decide +kernel⟩, by decide +kernel, by decide⟩
theorem mv_X2_persuades : xVir yX2_persuades cX2_persuades 7 (some .boolean) 4 2 := ⟨mt_X2_persuades, xT_in (xt4 130 rfl) rfl, xT_sel (List.mem_of_getElem? (i := 18) rfl) rfl, by decide, RX2, TX2, 12, rfl, rfl⟩
theorem mt_X11_again : xMth yX11_again cX11_again 2 (some .int) 0 := ⟨xT_in (xt4 135 rfl) rfl, xT_in (xt1 1 rfl) rfl, ⟨by decide +kernel, by decide +kernel, by decide +kernel⟩, by decide +kernel, by decide⟩
theorem mv_X11_again : xVir yX11_again cX11_again 2 (some .int) 0 9 := ⟨mt_X11_again, xT_in (xt4 133 rfl) rfl, xT_in (xt4 134 rfl) rfl, by decide, RX11, TX11, 13, rfl, rfl⟩
theorem mt_X2_reissue : xMth yX2_reissue cX2_reissue 2 (some .int) 1 := ⟨xT_in (xt4 139 rfl) rfl, xT_in (xt1 5 rfl) rfl, ⟨by decide +kernel, by decide +kernel, by decide +kernel⟩, by decide +kernel, by decide⟩
theorem mv_X2_reissue : xVir yX2_reissue cX2_reissue 2 (some .int) 1 2 := ⟨mt_X2_reissue, xT_in (xt4 137 rfl) rfl, xT_in (xt4 138 rfl) rfl, by decide, RX2, TX2, 12, rfl, rfl⟩
theorem mt_X11_undo : xMth yX11_undo cX11_undo 1 (some .boolean) 0 := ⟨xT_in (xt4 143 rfl) rfl, xT_in (xt1 1 rfl) rfl, ⟨by decide +kernel, by decide +kernel, by decide +kernel⟩, by decide +kernel, by decide⟩
theorem mv_X11_undo : xVir yX11_undo cX11_undo 1 (some .boolean) 0 9 := ⟨mt_X11_undo, xT_in (xt4 141 rfl) rfl, xT_in (xt4 142 rfl) rfl, by decide, RX11, TX11, 13, rfl, rfl⟩
theorem mt_X6_bringBack : xMth yX6_bringBack cX6_bringBack 3 (some .boolean) 1 := ⟨xT_in (xt4 147 rfl) rfl, xT_in (xt1 8 rfl) rfl, ⟨by decide +kernel, by decide +kernel, by decide +kernel⟩, by decide +kernel, by decide⟩
theorem mv_X6_bringBack : xVir yX6_bringBack cX6_bringBack 3 (some .boolean) 1 6 := ⟨mt_X6_bringBack, xT_in (xt4 145 rfl) rfl, xT_in (xt4 146 rfl) rfl, by decide, RX6, TX6, 3, rfl, rfl⟩
theorem mt_X11_judged : xMth yX11_judged cX11_judged 6 (some .int) 1 := ⟨xT_in (xt4 151 rfl) rfl, xT_in (xt1 1 rfl) rfl, ⟨by decide +kernel, by decide +kernel, by decide +kernel⟩, by decide +kernel, by decide⟩
theorem mv_X11_judged : xVir yX11_judged cX11_judged 6 (some .int) 1 9 := ⟨mt_X11_judged, xT_in (xt4 149 rfl) rfl, xT_in (xt4 150 rfl) rfl, by decide, RX11, TX11, 13, rfl, rfl⟩
theorem mt_X11_play : xMth yX11_play cX11_play 4 (some .int) 1 := ⟨xT_in (xt4 155 rfl) rfl, xT_in (xt1 1 rfl) rfl, ⟨by decide +kernel, by decide +kernel, by decide +kernel⟩, by decide +kernel, by decide⟩
theorem mv_X11_play : xVir yX11_play cX11_play 4 (some .int) 1 9 := ⟨mt_X11_play, xT_in (xt4 154 rfl) rfl, xT_sel (List.mem_of_getElem? (i := 19) rfl) rfl, by decide, RX11, TX11, 13, rfl, rfl⟩
theorem mt_J6_bitCount_0f7a4 : xMth yJ6_bitCount_0f7a4 cJ6_bitCount_0f7a4 1 (some .int) 1 := ⟨xT_in (xt4 158 rfl) rfl, xT_in (xt1 23 rfl) rfl, ⟨by decide +kernel, by decide +kernel, by decide +kernel⟩, by decide +kernel, by decide⟩
theorem ms_J6_bitCount_0f7a4 : xSta yJ6_bitCount_0f7a4 cJ6_bitCount_0f7a4 1 (some .int) 1 := ⟨mt_J6_bitCount_0f7a4, xT_in (xt4 157 rfl) rfl⟩
theorem mt_X11_end : xMth yX11_end cX11_end 3 (some .int) 2 := ⟨xT_in (xt4 165 rfl) rfl, xT_in (xt1 1 rfl) rfl, ⟨by decide +kernel, by decide +kernel, by decide +kernel⟩, by decide +kernel, by decide⟩
theorem mv_X11_end : xVir yX11_end cX11_end 3 (some .int) 2 9 := ⟨mt_X11_end, xT_in (xt4 163 rfl) rfl, xT_in (xt4 164 rfl) rfl, by decide, RX11, TX11, 13, rfl, rfl⟩
theorem mt_X2_finish : xMth yX2_finish cX2_finish 3 none 1 := ⟨xT_in (xt4 169 rfl) rfl, xT_in (xt1 5 rfl) rfl, ⟨by decide +kernel, by decide +kernel, by decide +kernel⟩, by decide +kernel, by decide⟩
theorem mv_X2_finish : xVir yX2_finish cX2_finish 3 none 1 2 := ⟨mt_X2_finish, xT_in (xt4 167 rfl) rfl, xT_in (xt4 168 rfl) rfl, by decide, RX2, TX2, 12, rfl, rfl⟩
theorem mt_X11_first : xMth yX11_first cX11_first 4 (some .int) 1 := ⟨xT_in (xt4 174 rfl) rfl, xT_in (xt1 1 rfl) rfl, ⟨by decide +kernel, by decide +kernel, by decide +kernel⟩, by decide +kernel, by decide⟩
theorem mv_X11_first : xVir yX11_first cX11_first 4 (some .int) 1 9 := ⟨mt_X11_first, xT_in (xt4 172 rfl) rfl, xT_in (xt4 173 rfl) rfl, by decide, RX11, TX11, 13, rfl, rfl⟩
theorem mt_J6_numberOfTrailingZeros_0f7a4 : xMth yJ6_numberOfTrailingZeros_0f7a4 cJ6_numberOfTrailingZeros_0f7a4 2 (some .int) 1 := ⟨xT_in (xt4 177 rfl) rfl, xT_in (xt1 23 rfl) rfl, ⟨by decide +kernel, by decide +kernel, by decide +kernel⟩, by decide +kernel, by decide⟩
theorem ms_J6_numberOfTrailingZeros_0f7a4 : xSta yJ6_numberOfTrailingZeros_0f7a4 cJ6_numberOfTrailingZeros_0f7a4 2 (some .int) 1 := ⟨mt_J6_numberOfTrailingZeros_0f7a4, xT_in (xt4 176 rfl) rfl⟩
theorem mt_X11_forge : xMth yX11_forge cX11_forge 8 (some .int) 3 := ⟨xT_in (xt4 182 rfl) rfl, xT_in (xt1 1 rfl) rfl, ⟨by decide +kernel, by decide +kernel, by decide +kernel⟩, by decide +kernel, by decide⟩
theorem mv_X11_forge : xVir yX11_forge cX11_forge 8 (some .int) 3 9 := ⟨mt_X11_forge, xT_in (xt4 180 rfl) rfl, xT_in (xt4 181 rfl) rfl, by decide, RX11, TX11, 13, rfl, rfl⟩
theorem mt_X11_notShown : xMth yX11_notShown cX11_notShown 1 (some .int) 0 := ⟨xT_in (xt4 186 rfl) rfl, xT_in (xt1 1 rfl) rfl, ⟨by decide +kernel, by decide +kernel, by decide +kernel⟩, by decide +kernel, by decide⟩
theorem mv_X11_notShown : xVir yX11_notShown cX11_notShown 1 (some .int) 0 9 := ⟨mt_X11_notShown, xT_in (xt4 185 rfl) rfl, xT_sel (List.mem_of_getElem? (i := 20) rfl) rfl, by decide, RX11, TX11, 13, rfl, rfl⟩
theorem mt_X2_allScenes : xMth yX2_allScenes cX2_allScenes 1 (some .int) 0 := ⟨xT_in (xt4 190 rfl) rfl, xT_in (xt1 5 rfl) rfl, ⟨by decide +kernel, by decide +kernel, by decide +kernel⟩, by decide +kernel, by decide⟩
theorem mv_X2_allScenes : xVir yX2_allScenes cX2_allScenes 1 (some .int) 0 2 := ⟨mt_X2_allScenes, xT_in (xt4 188 rfl) rfl, xT_in (xt4 189 rfl) rfl, by decide, RX2, TX2, 12, rfl, rfl⟩
theorem mt_X11_isFewer : xMth yX11_isFewer cX11_isFewer 2 (some .boolean) 2 := ⟨xT_in (xt4 193 rfl) rfl, xT_in (xt1 1 rfl) rfl, ⟨by decide +kernel, by decide +kernel, by decide +kernel⟩, by decide +kernel, by decide⟩
theorem ms_X11_isFewer : xSta yX11_isFewer cX11_isFewer 2 (some .boolean) 2 := ⟨mt_X11_isFewer, xT_in (xt4 192 rfl) rfl⟩
theorem mt_X11_finishWritten : xMth yX11_finishWritten cX11_finishWritten 4 none 2 := ⟨xT_in (xt4 197 rfl) rfl, xT_in (xt1 1 rfl) rfl, ⟨by decide +kernel, by decide +kernel, by decide +kernel⟩, by decide +kernel, by decide⟩
theorem mv_X11_finishWritten : xVir yX11_finishWritten cX11_finishWritten 4 none 2 9 := ⟨mt_X11_finishWritten, xT_in (xt4 196 rfl) rfl, xT_sel (List.mem_of_getElem? (i := 21) rfl) rfl, by decide, RX11, TX11, 13, rfl, rfl⟩
theorem mt_X11_spare : xMth yX11_spare cX11_spare 5 (some .int) 1 := ⟨xT_in (xt4 202 rfl) rfl, xT_in (xt1 1 rfl) rfl, ⟨by decide +kernel, by decide +kernel, by decide +kernel⟩, by decide +kernel, by decide⟩
theorem mv_X11_spare : xVir yX11_spare cX11_spare 5 (some .int) 1 9 := ⟨mt_X11_spare, xT_in (xt4 200 rfl) rfl, xT_in (xt4 201 rfl) rfl, by decide, RX11, TX11, 13, rfl, rfl⟩
theorem mt_X11_cuttable : xMth yX11_cuttable cX11_cuttable 1 (some .int) 0 := ⟨xT_in (xt4 206 rfl) rfl, xT_in (xt1 1 rfl) rfl, ⟨by decide +kernel, by decide +kernel, by decide +kernel⟩, by decide +kernel, by decide⟩
theorem mv_X11_cuttable : xVir yX11_cuttable cX11_cuttable 1 (some .int) 0 9 := ⟨mt_X11_cuttable, xT_in (xt4 205 rfl) rfl, xT_sel (List.mem_of_getElem? (i := 22) rfl) rfl, by decide, RX11, TX11, 13, rfl, rfl⟩
theorem mt_X11_finishCut : xMth yX11_finishCut cX11_finishCut 2 none 1 := ⟨xT_in (xt4 210 rfl) rfl, xT_in (xt1 1 rfl) rfl, ⟨by decide +kernel, by decide +kernel, by decide +kernel⟩, by decide +kernel, by decide⟩
theorem mv_X11_finishCut : xVir yX11_finishCut cX11_finishCut 2 none 1 9 := ⟨mt_X11_finishCut, xT_in (xt4 209 rfl) rfl, xT_sel (List.mem_of_getElem? (i := 23) rfl) rfl, by decide, RX11, TX11, 13, rfl, rfl⟩
theorem mt_X11_takes : xMth yX11_takes cX11_takes 3 (some .int) 2 := ⟨xT_in (xt4 214 rfl) rfl, xT_in (xt1 1 rfl) rfl, ⟨by decide +kernel, by decide +kernel, by decide +kernel⟩, by decide +kernel, by decide⟩
theorem mv_X11_takes : xVir yX11_takes cX11_takes 3 (some .int) 2 9 := ⟨mt_X11_takes, xT_in (xt4 212 rfl) rfl, xT_in (xt4 213 rfl) rfl, by decide, RX11, TX11, 13, rfl, rfl⟩
theorem mt_X11_blank : xMth yX11_blank cX11_blank 4 (some .int) 1 := ⟨xT_in (xt4 219 rfl) rfl, xT_in (xt1 1 rfl) rfl, ⟨by decide +kernel, by decide +kernel, by decide +kernel⟩, by decide +kernel, by decide⟩
theorem mv_X11_blank : xVir yX11_blank cX11_blank 4 (some .int) 1 9 := ⟨mt_X11_blank, xT_in (xt4 217 rfl) rfl, xT_in (xt4 218 rfl) rfl, by decide, RX11, TX11, 13, rfl, rfl⟩
theorem mt_X11_mentions : xMth yX11_mentions cX11_mentions 5 (some .int) 2 := ⟨xT_in (xt4 223 rfl) rfl, xT_in (xt1 1 rfl) rfl, ⟨by decide +kernel, by decide +kernel, by decide +kernel⟩, by decide +kernel, by decide⟩
theorem mv_X11_mentions : xVir yX11_mentions cX11_mentions 5 (some .int) 2 9 := ⟨mt_X11_mentions, xT_in (xt4 221 rfl) rfl, xT_in (xt4 222 rfl) rfl, by decide, RX11, TX11, 13, rfl, rfl⟩
theorem mt_X11_claimOf : xMth yX11_claimOf cX11_claimOf 3 (some .int) 2 := ⟨xT_in (xt4 227 rfl) rfl, xT_in (xt1 1 rfl) rfl, ⟨by decide +kernel, by decide +kernel, by decide +kernel⟩, by decide +kernel, by decide⟩
theorem mv_X11_claimOf : xVir yX11_claimOf cX11_claimOf 3 (some .int) 2 9 := ⟨mt_X11_claimOf, xT_in (xt4 226 rfl) rfl, xT_sel (List.mem_of_getElem? (i := 24) rfl) rfl, by decide, RX11, TX11, 13, rfl, rfl⟩
theorem mt_X11_fooled : xMth yX11_fooled cX11_fooled 6 (some .int) 1 := ⟨xT_in (xt4 231 rfl) rfl, xT_in (xt1 1 rfl) rfl, ⟨by decide +kernel, by decide +kernel, by decide +kernel⟩, by decide +kernel, by decide⟩
theorem mv_X11_fooled : xVir yX11_fooled cX11_fooled 6 (some .int) 1 9 := ⟨mt_X11_fooled, xT_in (xt4 229 rfl) rfl, xT_in (xt4 230 rfl) rfl, by decide, RX11, TX11, 13, rfl, rfl⟩
theorem mt_X11_last : xMth yX11_last cX11_last 5 (some .int) 2 := ⟨xT_in (xt4 235 rfl) rfl, xT_in (xt1 1 rfl) rfl, ⟨by decide +kernel, by decide +kernel, by decide +kernel⟩, by decide +kernel, by decide⟩
theorem mv_X11_last : xVir yX11_last cX11_last 5 (some .int) 2 9 := ⟨mt_X11_last, xT_in (xt4 234 rfl) rfl, xT_sel (List.mem_of_getElem? (i := 25) rfl) rfl, by decide, RX11, TX11, 13, rfl, rfl⟩
theorem mt_X11_sway : xMth yX11_sway cX11_sway 6 (some .int) 0 := ⟨xT_in (xt4 239 rfl) rfl, xT_in (xt1 1 rfl) rfl, ⟨by decide +kernel, by decide +kernel, by decide +kernel⟩, by decide +kernel, by decide⟩
theorem mv_X11_sway : xVir yX11_sway cX11_sway 6 (some .int) 0 9 := ⟨mt_X11_sway, xT_in (xt4 237 rfl) rfl, xT_in (xt4 238 rfl) rfl, by decide, RX11, TX11, 13, rfl, rfl⟩
theorem mt_X11_quarrels : xMth yX11_quarrels cX11_quarrels 4 (some .int) 0 := ⟨xT_in (xt5 4 rfl) rfl, xT_in (xt1 1 rfl) rfl, ⟨by decide +kernel, by decide +kernel, by decide +kernel⟩, by decide +kernel, by decide⟩
theorem mv_X11_quarrels : xVir yX11_quarrels cX11_quarrels 4 (some .int) 0 9 := ⟨mt_X11_quarrels, xT_in (xt5 2 rfl) rfl, xT_in (xt5 3 rfl) rfl, by decide, RX11, TX11, 13, rfl, rfl⟩
theorem mt_X11_quarrel : xMth yX11_quarrel cX11_quarrel 6 (some .boolean) 2 := ⟨xT_in (xt5 8 rfl) rfl, xT_in (xt1 1 rfl) rfl, ⟨by decide +kernel, by decide +kernel, by decide +kernel⟩, by decide +kernel, by decide⟩
theorem mv_X11_quarrel : xVir yX11_quarrel cX11_quarrel 6 (some .boolean) 2 9 := ⟨mt_X11_quarrel, xT_in (xt5 7 rfl) rfl, xT_sel (List.mem_of_getElem? (i := 26) rfl) rfl, by decide, RX11, TX11, 13, rfl, rfl⟩
theorem mt_X11_couples : xMth yX11_couples cX11_couples 5 (some .int) 0 := ⟨xT_in (xt5 12 rfl) rfl, xT_in (xt1 1 rfl) rfl, ⟨by decide +kernel, by decide +kernel, by decide +kernel⟩, by decide +kernel, by decide⟩
theorem mv_X11_couples : xVir yX11_couples cX11_couples 5 (some .int) 0 9 := ⟨mt_X11_couples, xT_in (xt5 10 rfl) rfl, xT_in (xt5 11 rfl) rfl, by decide, RX11, TX11, 13, rfl, rfl⟩
theorem mt_X11_partner : xMth yX11_partner cX11_partner 4 (some .int) 2 := ⟨xT_in (xt5 16 rfl) rfl, xT_in (xt1 1 rfl) rfl, ⟨by decide +kernel, by decide +kernel, by decide +kernel⟩, by decide +kernel, by decide⟩
theorem mv_X11_partner : xVir yX11_partner cX11_partner 4 (some .int) 2 9 := ⟨mt_X11_partner, xT_in (xt5 15 rfl) rfl, xT_sel (List.mem_of_getElem? (i := 27) rfl) rfl, by decide, RX11, TX11, 13, rfl, rfl⟩
theorem mt_X11_alike : xMth yX11_alike cX11_alike 4 (some .boolean) 2 := ⟨xT_in (xt5 20 rfl) rfl, xT_in (xt1 1 rfl) rfl, ⟨by decide +kernel, by decide +kernel, by decide +kernel⟩, by decide +kernel, by decide⟩
theorem mv_X11_alike : xVir yX11_alike cX11_alike 4 (some .boolean) 2 9 := ⟨mt_X11_alike, xT_in (xt5 19 rfl) rfl, xT_sel (List.mem_of_getElem? (i := 28) rfl) rfl, by decide, RX11, TX11, 13, rfl, rfl⟩
theorem mt_X11_tell : xMth yX11_tell cX11_tell 4 (some .boolean) 3 := ⟨xT_in (xt5 24 rfl) rfl, xT_in (xt1 1 rfl) rfl, ⟨by decide +kernel, by decide +kernel, by decide +kernel⟩, by decide +kernel, by decide⟩
theorem mv_X11_tell : xVir yX11_tell cX11_tell 4 (some .boolean) 3 9 := ⟨mt_X11_tell, xT_in (xt5 22 rfl) rfl, xT_in (xt5 23 rfl) rfl, by decide, RX11, TX11, 13, rfl, rfl⟩
theorem mt_X11_sets : xMth yX11_sets cX11_sets 7 (some .int) 1 := ⟨xT_in (xt5 28 rfl) rfl, xT_in (xt1 1 rfl) rfl, ⟨by decide +kernel, by decide +kernel, by decide +kernel⟩, by decide +kernel, by decide⟩
theorem mv_X11_sets : xVir yX11_sets cX11_sets 7 (some .int) 1 9 := ⟨mt_X11_sets, xT_in (xt5 26 rfl) rfl, xT_in (xt5 27 rfl) rfl, by decide, RX11, TX11, 13, rfl, rfl⟩
theorem mt_X11_isAsTold : xMth yX11_isAsTold cX11_isAsTold 4 (some .boolean) 0 := ⟨xT_in (xt5 32 rfl) rfl, xT_in (xt1 1 rfl) rfl, ⟨by decide +kernel, by decide +kernel, by decide +kernel⟩, by decide +kernel, by decide⟩
theorem mv_X11_isAsTold : xVir yX11_isAsTold cX11_isAsTold 4 (some .boolean) 0 9 := ⟨mt_X11_isAsTold, xT_in (xt5 31 rfl) rfl, xT_sel (List.mem_of_getElem? (i := 29) rfl) rfl, by decide, RX11, TX11, 13, rfl, rfl⟩
theorem mt_X11_isTold : xMth yX11_isTold cX11_isTold 3 (some .boolean) 2 := ⟨xT_in (xt5 36 rfl) rfl, xT_in (xt1 1 rfl) rfl, ⟨by decide +kernel, by decide +kernel, by decide +kernel⟩, by decide +kernel, by decide⟩
theorem mv_X11_isTold : xVir yX11_isTold cX11_isTold 3 (some .boolean) 2 9 := ⟨mt_X11_isTold, xT_in (xt5 35 rfl) rfl, xT_sel (List.mem_of_getElem? (i := 30) rfl) rfl, by decide, RX11, TX11, 13, rfl, rfl⟩
theorem mt_X11_ask : xMth yX11_ask cX11_ask 7 (some .int) 0 := ⟨xT_in (xt5 40 rfl) rfl, xT_in (xt1 1 rfl) rfl, ⟨by decide +kernel, by decide +kernel, by decide +kernel⟩, by decide +kernel, by decide⟩
theorem mv_X11_ask : xVir yX11_ask cX11_ask 7 (some .int) 0 9 := ⟨mt_X11_ask, xT_in (xt5 38 rfl) rfl, xT_in (xt5 39 rfl) rfl, by decide, RX11, TX11, 13, rfl, rfl⟩
theorem mt_X11_tallyEnd : xMth yX11_tallyEnd cX11_tallyEnd 5 none 0 := ⟨xT_in (xt5 44 rfl) rfl, xT_in (xt1 1 rfl) rfl, ⟨by decide +kernel, by decide +kernel, by decide +kernel⟩, by decide +kernel, by decide⟩
theorem mv_X11_tallyEnd : xVir yX11_tallyEnd cX11_tallyEnd 5 none 0 9 := ⟨mt_X11_tallyEnd, xT_in (xt5 43 rfl) rfl, xT_sel (List.mem_of_getElem? (i := 31) rfl) rfl, by decide, RX11, TX11, 13, rfl, rfl⟩
theorem mt_X11_greatestTally : xMth yX11_greatestTally cX11_greatestTally 5 (some .int) 1 := ⟨xT_in (xt5 48 rfl) rfl, xT_in (xt1 1 rfl) rfl, ⟨by decide +kernel, by decide +kernel, by decide +kernel⟩, by decide +kernel, by decide⟩
theorem mv_X11_greatestTally : xVir yX11_greatestTally cX11_greatestTally 5 (some .int) 1 9 := ⟨mt_X11_greatestTally, xT_in (xt5 47 rfl) rfl, xT_sel (List.mem_of_getElem? (i := 32) rfl) rfl, by decide, RX11, TX11, 13, rfl, rfl⟩
theorem mt_X11_clashes : xMth yX11_clashes cX11_clashes 3 (some .int) 0 := ⟨xT_in (xt5 53 rfl) rfl, xT_in (xt1 1 rfl) rfl, ⟨by decide +kernel, by decide +kernel, by decide +kernel⟩, by decide +kernel, by decide⟩
theorem mv_X11_clashes : xVir yX11_clashes cX11_clashes 3 (some .int) 0 9 := ⟨mt_X11_clashes, xT_in (xt5 51 rfl) rfl, xT_in (xt5 52 rfl) rfl, by decide, RX11, TX11, 13, rfl, rfl⟩
theorem mt_X11_wavers : xMth yX11_wavers cX11_wavers 5 (some .int) 1 := ⟨xT_in (xt5 58 rfl) rfl, xT_in (xt1 1 rfl) rfl, ⟨by decide +kernel, by decide +kernel, by decide +kernel⟩, by decide +kernel, by decide⟩
theorem mv_X11_wavers : xVir yX11_wavers cX11_wavers 5 (some .int) 1 9 := ⟨mt_X11_wavers, xT_in (xt5 56 rfl) rfl, xT_in (xt5 57 rfl) rfl, by decide, RX11, TX11, 13, rfl, rfl⟩
theorem mt_X11_lone : xMth yX11_lone cX11_lone 5 (some .int) 1 := ⟨xT_in (xt5 63 rfl) rfl, xT_in (xt1 1 rfl) rfl, ⟨by decide +kernel, by decide +kernel, by decide +kernel⟩, by decide +kernel, by decide⟩
theorem mv_X11_lone : xVir yX11_lone cX11_lone 5 (some .int) 1 9 := ⟨mt_X11_lone, xT_in (xt5 61 rfl) rfl, xT_in (xt5 62 rfl) rfl, by decide, RX11, TX11, 13, rfl, rfl⟩
theorem mt_X11_thinkers : xMth yX11_thinkers cX11_thinkers 5 (some .int) 2 := ⟨xT_in (xt5 67 rfl) rfl, xT_in (xt1 1 rfl) rfl, ⟨by decide +kernel, by decide +kernel, by decide +kernel⟩, by decide +kernel, by decide⟩
theorem mv_X11_thinkers : xVir yX11_thinkers cX11_thinkers 5 (some .int) 2 9 := ⟨mt_X11_thinkers, xT_in (xt5 66 rfl) rfl, xT_sel (List.mem_of_getElem? (i := 33) rfl) rfl, by decide, RX11, TX11, 13, rfl, rfl⟩
theorem mt_X11_moves : xMth yX11_moves cX11_moves 3 (some .int) 0 := ⟨xT_in (xt5 71 rfl) rfl, xT_in (xt1 1 rfl) rfl, ⟨by decide +kernel, by decide +kernel, by decide +kernel⟩, by decide +kernel, by decide⟩
theorem mv_X11_moves : xVir yX11_moves cX11_moves 3 (some .int) 0 9 := ⟨mt_X11_moves, xT_in (xt5 69 rfl) rfl, xT_in (xt5 70 rfl) rfl, by decide, RX11, TX11, 13, rfl, rfl⟩
theorem mt_X11_agree : xMth yX11_agree cX11_agree 2 (some .int) 0 := ⟨xT_in (xt5 75 rfl) rfl, xT_in (xt1 1 rfl) rfl, ⟨by decide +kernel, by decide +kernel, by decide +kernel⟩, by decide +kernel, by decide⟩
theorem mv_X11_agree : xVir yX11_agree cX11_agree 2 (some .int) 0 9 := ⟨mt_X11_agree, xT_in (xt5 73 rfl) rfl, xT_in (xt5 74 rfl) rfl, by decide, RX11, TX11, 13, rfl, rfl⟩
theorem mt_X11_talkRound : xMth yX11_talkRound cX11_talkRound 3 (some .boolean) 0 := ⟨xT_in (xt5 79 rfl) rfl, xT_in (xt1 1 rfl) rfl, ⟨by decide +kernel, by decide +kernel, by decide +kernel⟩, by decide +kernel, by decide⟩
theorem mv_X11_talkRound : xVir yX11_talkRound cX11_talkRound 3 (some .boolean) 0 9 := ⟨mt_X11_talkRound, xT_in (xt5 78 rfl) rfl, xT_sel (List.mem_of_getElem? (i := 34) rfl) rfl, by decide, RX11, TX11, 13, rfl, rfl⟩
theorem mt_X11_nextIn : xMth yX11_nextIn cX11_nextIn 4 (some .int) 1 := ⟨xT_in (xt5 83 rfl) rfl, xT_in (xt1 1 rfl) rfl, ⟨by decide +kernel, by decide +kernel, by decide +kernel⟩, by decide +kernel, by decide⟩
theorem mv_X11_nextIn : xVir yX11_nextIn cX11_nextIn 4 (some .int) 1 9 := ⟨mt_X11_nextIn, xT_in (xt5 82 rfl) rfl, xT_sel (List.mem_of_getElem? (i := 35) rfl) rfl, by decide, RX11, TX11, 13, rfl, rfl⟩
theorem mt_X11_chance : xMth yX11_chance cX11_chance 12 (some .int) 3 := ⟨xT_in (xt5 87 rfl) rfl, xT_in (xt1 1 rfl) rfl, ⟨by decide +kernel, by decide +kernel, by decide +kernel⟩, by decide +kernel, by decide⟩
theorem mv_X11_chance : xVir yX11_chance cX11_chance 12 (some .int) 3 9 := ⟨mt_X11_chance, xT_in (xt5 85 rfl) rfl, xT_in (xt5 86 rfl) rfl, by decide, RX11, TX11, 13, rfl, rfl⟩
theorem mt_X11_weight : xMth yX11_weight cX11_weight 6 (some .long) 3 := ⟨xT_in (xt5 90 rfl) rfl, xT_in (xt1 1 rfl) rfl, ⟨by decide +kernel, by decide +kernel, by decide +kernel⟩, by decide +kernel, by decide⟩
theorem ms_X11_weight : xSta yX11_weight cX11_weight 6 (some .long) 3 := ⟨mt_X11_weight, xT_in (xt5 89 rfl) rfl⟩
theorem mt_X11_who : xMth yX11_who cX11_who 3 (some .int) 2 := ⟨xT_in (xt5 95 rfl) rfl, xT_in (xt1 1 rfl) rfl, ⟨by decide +kernel, by decide +kernel, by decide +kernel⟩, by decide +kernel, by decide⟩
theorem mv_X11_who : xVir yX11_who cX11_who 3 (some .int) 2 9 := ⟨mt_X11_who, xT_in (xt5 93 rfl) rfl, xT_in (xt5 94 rfl) rfl, by decide, RX11, TX11, 13, rfl, rfl⟩
theorem mt_X11_years : xMth yX11_years cX11_years 5 (some .int) 3 := ⟨xT_in (xt5 99 rfl) rfl, xT_in (xt1 1 rfl) rfl, ⟨by decide +kernel, by decide +kernel, by decide +kernel⟩, by decide +kernel, by decide⟩
theorem mv_X11_years : xVir yX11_years cX11_years 5 (some .int) 3 9 := ⟨mt_X11_years, xT_in (xt5 97 rfl) rfl, xT_in (xt5 98 rfl) rfl, by decide, RX11, TX11, 13, rfl, rfl⟩
theorem mt_X11_passYear : xMth yX11_passYear cX11_passYear 4 none 0 := ⟨xT_in (xt5 103 rfl) rfl, xT_in (xt1 1 rfl) rfl, ⟨by decide +kernel, by decide +kernel, by decide +kernel⟩, by decide +kernel, by decide⟩
theorem mv_X11_passYear : xVir yX11_passYear cX11_passYear 4 none 0 9 := ⟨mt_X11_passYear, xT_in (xt5 102 rfl) rfl, xT_sel (List.mem_of_getElem? (i := 36) rfl) rfl, by decide, RX11, TX11, 13, rfl, rfl⟩
theorem mt_X0_below : xMth yX0_below cX0_below 2 (some .int) 1 := ⟨xT_in (xt5 107 rfl) rfl, xT_in (xt1 9 rfl) rfl, ⟨by decide +kernel, by decide +kernel, by decide +kernel⟩, by decide +kernel, by decide⟩
theorem mv_X0_below : xVir yX0_below cX0_below 2 (some .int) 1 0 := ⟨mt_X0_below, xT_in (xt5 105 rfl) rfl, xT_in (xt5 106 rfl) rfl, by decide, RX0, TX0, 1, rfl, rfl⟩
theorem mt_X11_doubtOfAll : xMth yX11_doubtOfAll cX11_doubtOfAll 4 (some .int) 1 := ⟨xT_in (xt5 115 rfl) rfl, xT_in (xt1 1 rfl) rfl, ⟨by decide +kernel, by decide +kernel, by decide +kernel⟩, by decide +kernel, by decide⟩
theorem mv_X11_doubtOfAll : xVir yX11_doubtOfAll cX11_doubtOfAll 4 (some .int) 1 9 := ⟨mt_X11_doubtOfAll, xT_in (xt5 114 rfl) rfl, xT_sel (List.mem_of_getElem? (i := 37) rfl) rfl, by decide, RX11, TX11, 13, rfl, rfl⟩
theorem mt_X11_yesOfAll : xMth yX11_yesOfAll cX11_yesOfAll 4 (some .int) 0 := ⟨xT_in (xt5 119 rfl) rfl, xT_in (xt1 1 rfl) rfl, ⟨by decide +kernel, by decide +kernel, by decide +kernel⟩, by decide +kernel, by decide⟩
theorem mv_X11_yesOfAll : xVir yX11_yesOfAll cX11_yesOfAll 4 (some .int) 0 9 := ⟨mt_X11_yesOfAll, xT_in (xt5 118 rfl) rfl, xT_sel (List.mem_of_getElem? (i := 38) rfl) rfl, by decide, RX11, TX11, 13, rfl, rfl⟩
theorem mt_X11_mark : xMth yX11_mark cX11_mark 4 (some .boolean) 2 := ⟨xT_in (xt5 123 rfl) rfl, xT_in (xt1 1 rfl) rfl, ⟨by decide +kernel, by decide +kernel, by decide +kernel⟩, by decide +kernel, by decide⟩
theorem mv_X11_mark : xVir yX11_mark cX11_mark 4 (some .boolean) 2 9 := ⟨mt_X11_mark, xT_in (xt5 121 rfl) rfl, xT_in (xt5 122 rfl) rfl, by decide, RX11, TX11, 13, rfl, rfl⟩
theorem mt_X5_lay : xMth yX5_lay cX5_lay 3 none 2 := ⟨xT_in (xt5 127 rfl) rfl, xT_in (xt1 10 rfl) rfl, ⟨by decide +kernel, by decide +kernel, by decide +kernel⟩, by decide +kernel, by decide⟩
theorem mv_X5_lay : xVir yX5_lay cX5_lay 3 none 2 5 := ⟨mt_X5_lay, xT_in (xt5 125 rfl) rfl, xT_in (xt5 126 rfl) rfl, by decide, RX5, TX5, 3, rfl, rfl⟩
theorem mt_X5_bringBack : xMth yX5_bringBack cX5_bringBack 3 none 2 := ⟨xT_in (xt5 133 rfl) rfl, xT_in (xt1 10 rfl) rfl, ⟨by decide +kernel, by decide +kernel, by decide +kernel⟩, by decide +kernel, by decide⟩
theorem mv_X5_bringBack : xVir yX5_bringBack cX5_bringBack 3 none 2 5 := ⟨mt_X5_bringBack, xT_in (xt5 131 rfl) rfl, xT_in (xt5 132 rfl) rfl, by decide, RX5, TX5, 3, rfl, rfl⟩
theorem mt_X11_count : xMth yX11_count cX11_count 2 (some .int) 1 := ⟨xT_in (xt5 137 rfl) rfl, xT_in (xt1 1 rfl) rfl, ⟨by decide +kernel, by decide +kernel, by decide +kernel⟩, by decide +kernel, by decide⟩
theorem mv_X11_count : xVir yX11_count cX11_count 2 (some .int) 1 9 := ⟨mt_X11_count, xT_in (xt5 135 rfl) rfl, xT_in (xt5 136 rfl) rfl, by decide, RX11, TX11, 13, rfl, rfl⟩
theorem mt_X11_toldCount : xMth yX11_toldCount cX11_toldCount 3 (some .int) 0 := ⟨xT_in (xt5 141 rfl) rfl, xT_in (xt1 1 rfl) rfl, ⟨by decide +kernel, by decide +kernel, by decide +kernel⟩, by decide +kernel, by decide⟩
theorem mv_X11_toldCount : xVir yX11_toldCount cX11_toldCount 3 (some .int) 0 9 := ⟨mt_X11_toldCount, xT_in (xt5 140 rfl) rfl, xT_sel (List.mem_of_getElem? (i := 39) rfl) rfl, by decide, RX11, TX11, 13, rfl, rfl⟩
theorem mt_X11_rests : xMth yX11_rests cX11_rests 7 (some .int) 4 := ⟨xT_in (xt5 149 rfl) rfl, xT_in (xt1 1 rfl) rfl, ⟨by decide +kernel, by decide +kernel, by decide +kernel⟩, by decide +kernel, by decide⟩
theorem mv_X11_rests : xVir yX11_rests cX11_rests 7 (some .int) 4 9 := ⟨mt_X11_rests, xT_in (xt5 147 rfl) rfl, xT_in (xt5 148 rfl) rfl, by decide, RX11, TX11, 13, rfl, rfl⟩
theorem mt_X11_isDigit : xMth yX11_isDigit cX11_isDigit 1 (some .boolean) 1 := ⟨xT_in (xt5 152 rfl) rfl, xT_in (xt1 1 rfl) rfl, ⟨by decide +kernel, by decide +kernel, by decide +kernel⟩, by decide +kernel, by decide⟩
theorem ms_X11_isDigit : xSta yX11_isDigit cX11_isDigit 1 (some .boolean) 1 := ⟨mt_X11_isDigit, xT_in (xt5 151 rfl) rfl⟩
theorem mt_X11_rest : xMth yX11_rest cX11_rest 5 (some .boolean) 5 := ⟨xT_in (xt5 216 rfl) rfl, xT_in (xt1 1 rfl) rfl, ⟨by decide +kernel, by decide +kernel, by decide +kernel⟩, by decide +kernel, by decide⟩
theorem ms_X11_rest : xSta yX11_rest cX11_rest 5 (some .boolean) 5 := ⟨mt_X11_rest, xT_in (xt5 215 rfl) rfl⟩
theorem mt_X11_gain : xMth yX11_gain cX11_gain 5 (some .int) 5 := ⟨xT_in (xt5 219 rfl) rfl, xT_in (xt1 1 rfl) rfl, ⟨by decide +kernel, by decide +kernel, by decide +kernel⟩, by decide +kernel, by decide⟩
theorem ms_X11_gain : xSta yX11_gain cX11_gain 5 (some .int) 5 := ⟨mt_X11_gain, xT_in (xt5 218 rfl) rfl⟩
theorem mt_X12_thrown : xMth yX12_thrown cX12_thrown 1 (some .int) 0 := ⟨xT_in (xt5 223 rfl) rfl, xT_in (xt1 15 rfl) rfl, ⟨by decide +kernel, by decide +kernel, by decide +kernel⟩, by decide +kernel, by decide⟩
theorem mv_X12_thrown : xVir yX12_thrown cX12_thrown 1 (some .int) 0 10 := ⟨mt_X12_thrown, xT_in (xt5 221 rfl) rfl, xT_in (xt5 222 rfl) rfl, by decide, RX12, TX12, 30, rfl, rfl⟩
theorem mt_X12_feed : xMth yX12_feed cX12_feed 7 (some .int) 3 := ⟨xT_in (xt5 227 rfl) rfl, xT_in (xt1 15 rfl) rfl, ⟨by decide +kernel, by decide +kernel, by decide +kernel⟩, by decide +kernel, by decide⟩
theorem mv_X12_feed : xVir yX12_feed cX12_feed 7 (some .int) 3 10 := ⟨mt_X12_feed, xT_in (xt5 225 rfl) rfl, xT_in (xt5 226 rfl) rfl, by decide, RX12, TX12, 30, rfl, rfl⟩
theorem mt_X12_lay : xMth yX12_lay cX12_lay 5 none 1 := ⟨xT_in (xt5 232 rfl) rfl, xT_in (xt1 15 rfl) rfl, ⟨by decide +kernel, by decide +kernel, by decide +kernel⟩, by decide +kernel, by decide⟩
theorem mv_X12_lay : xVir yX12_lay cX12_lay 5 none 1 10 := ⟨mt_X12_lay, xT_in (xt5 230 rfl) rfl, xT_sel (List.mem_of_getElem? (i := 41) rfl) rfl, by decide, RX12, TX12, 30, rfl, rfl⟩
theorem mt_X12_init : xMth yX12_init cX12_init 1 none 0 := ⟨xT_in (xt5 236 rfl) rfl, xT_in (xt1 15 rfl) rfl, ⟨by decide +kernel, by decide +kernel, by decide +kernel⟩, by decide +kernel, by decide⟩
theorem mi_X12_init : xCon yX12_init cX12_init 1 0 := ⟨mt_X12_init, rfl, xT_in (xt5 235 rfl) rfl⟩
theorem mt_X12_standsAsAlways : xMth yX12_standsAsAlways cX12_standsAsAlways 3 none 1 := ⟨xT_in (xt6 27 rfl) rfl, xT_in (xt1 15 rfl) rfl, ⟨by decide +kernel, by decide +kernel, by decide +kernel⟩, by decide +kernel, by decide⟩
theorem mv_X12_standsAsAlways : xVir yX12_standsAsAlways cX12_standsAsAlways 3 none 1 10 := ⟨mt_X12_standsAsAlways, xT_in (xt6 26 rfl) rfl, xT_sel (List.mem_of_getElem? (i := 42) rfl) rfl, by decide, RX12, TX12, 30, rfl, rfl⟩
theorem mt_X12_begins : xMth yX12_begins cX12_begins 2 none 0 := ⟨xT_in (xt6 31 rfl) rfl, xT_in (xt1 15 rfl) rfl, ⟨by decide +kernel, by decide +kernel, by decide +kernel⟩, by decide +kernel, by decide⟩
theorem mv_X12_begins : xVir yX12_begins cX12_begins 2 none 0 10 := ⟨mt_X12_begins, xT_in (xt6 30 rfl) rfl, xT_sel (List.mem_of_getElem? (i := 43) rfl) rfl, by decide, RX12, TX12, 30, rfl, rfl⟩
theorem mt_X12_starts : xMth yX12_starts cX12_starts 3 none 1 := ⟨xT_in (xt6 35 rfl) rfl, xT_in (xt1 15 rfl) rfl, ⟨by decide +kernel, by decide +kernel, by decide +kernel⟩, by decide +kernel, by decide⟩
theorem mv_X12_starts : xVir yX12_starts cX12_starts 3 none 1 10 := ⟨mt_X12_starts, xT_in (xt6 34 rfl) rfl, xT_sel (List.mem_of_getElem? (i := 44) rfl) rfl, by decide, RX12, TX12, 30, rfl, rfl⟩
theorem mt_X12_watchers : xMth yX12_watchers cX12_watchers 1 (some .int) 0 := ⟨xT_in (xt6 39 rfl) rfl, xT_in (xt1 15 rfl) rfl, ⟨by decide +kernel, by decide +kernel, by decide +kernel⟩, by decide +kernel, by decide⟩
theorem mv_X12_watchers : xVir yX12_watchers cX12_watchers 1 (some .int) 0 10 := ⟨mt_X12_watchers, xT_in (xt6 38 rfl) rfl, xT_sel (List.mem_of_getElem? (i := 45) rfl) rfl, by decide, RX12, TX12, 30, rfl, rfl⟩
theorem mt_X12_scenes : xMth yX12_scenes cX12_scenes 1 (some .int) 0 := ⟨xT_in (xt6 43 rfl) rfl, xT_in (xt1 15 rfl) rfl, ⟨by decide +kernel, by decide +kernel, by decide +kernel⟩, by decide +kernel, by decide⟩
theorem mv_X12_scenes : xVir yX12_scenes cX12_scenes 1 (some .int) 0 10 := ⟨mt_X12_scenes, xT_in (xt6 42 rfl) rfl, xT_sel (List.mem_of_getElem? (i := 46) rfl) rfl, by decide, RX12, TX12, 30, rfl, rfl⟩
theorem mt_X12_film : xMth yX12_film cX12_film 2 (some .int) 0 := ⟨xT_in (xt6 139 rfl) rfl, xT_in (xt1 15 rfl) rfl, ⟨by decide +kernel, by decide +kernel, by decide +kernel⟩, by decide +kernel, by decide⟩
theorem mv_X12_film : xVir yX12_film cX12_film 2 (some .int) 0 10 := ⟨mt_X12_film, xT_in (xt6 137 rfl) rfl, xT_in (xt6 138 rfl) rfl, by decide, RX12, TX12, 30, rfl, rfl⟩
theorem mt_X12_cutAll : xMth yX12_cutAll cX12_cutAll 7 none 0 := ⟨xT_in (xt6 143 rfl) rfl, xT_in (xt1 15 rfl) rfl, ⟨by decide +kernel, by decide +kernel, by decide +kernel⟩, by decide +kernel, by decide⟩
theorem mv_X12_cutAll : xVir yX12_cutAll cX12_cutAll 7 none 0 10 := ⟨mt_X12_cutAll, xT_in (xt6 142 rfl) rfl, xT_sel (List.mem_of_getElem? (i := 47) rfl) rfl, by decide, RX12, TX12, 30, rfl, rfl⟩
theorem mt_X12_isLetter : xMth yX12_isLetter cX12_isLetter 1 (some .boolean) 1 := ⟨xT_in (xt6 146 rfl) rfl, xT_in (xt1 15 rfl) rfl, ⟨by decide +kernel, by decide +kernel, by decide +kernel⟩, by decide +kernel, by decide⟩
theorem ms_X12_isLetter : xSta yX12_isLetter cX12_isLetter 1 (some .boolean) 1 := ⟨mt_X12_isLetter, xT_in (xt6 145 rfl) rfl⟩
theorem mt_X12_rank : xMth yX12_rank cX12_rank 1 (some .int) 1 := ⟨xT_in (xt6 150 rfl) rfl, xT_in (xt1 15 rfl) rfl, ⟨by decide +kernel, by decide +kernel, by decide +kernel⟩, by decide +kernel, by decide⟩
theorem ms_X12_rank : xSta yX12_rank cX12_rank 1 (some .int) 1 := ⟨mt_X12_rank, xT_in (xt6 149 rfl) rfl⟩
theorem mt_X12_isDigit : xMth yX12_isDigit cX12_isDigit 1 (some .boolean) 1 := ⟨xT_in (xt6 153 rfl) rfl, xT_in (xt1 15 rfl) rfl, ⟨by decide +kernel, by decide +kernel, by decide +kernel⟩, by decide +kernel, by decide⟩
theorem ms_X12_isDigit : xSta yX12_isDigit cX12_isDigit 1 (some .boolean) 1 := ⟨mt_X12_isDigit, xT_in (xt6 152 rfl) rfl⟩
theorem mt_X12_isSignOf : xMth yX12_isSignOf cX12_isSignOf 1 (some .boolean) 1 := ⟨xT_in (xt6 158 rfl) rfl, xT_in (xt1 15 rfl) rfl, ⟨by decide +kernel, by decide +kernel, by decide +kernel⟩, by decide +kernel, by decide⟩
theorem ms_X12_isSignOf : xSta yX12_isSignOf cX12_isSignOf 1 (some .boolean) 1 := ⟨mt_X12_isSignOf, xT_in (xt6 157 rfl) rfl⟩
theorem mt_X12_readLine : xMth yX12_readLine cX12_readLine 1 none 0 := ⟨xT_in (xt6 162 rfl) rfl, xT_in (xt1 15 rfl) rfl, ⟨by decide +kernel, by decide +kernel, by decide +kernel⟩, by decide +kernel, by decide⟩
theorem mv_X12_readLine : xVir yX12_readLine cX12_readLine 1 none 0 10 := ⟨mt_X12_readLine, xT_in (xt6 161 rfl) rfl, xT_sel (List.mem_of_getElem? (i := 48) rfl) rfl, by decide, RX12, TX12, 30, rfl, rfl⟩
theorem mt_X12_isWord : xMth yX12_isWord cX12_isWord 2 (some .boolean) 1 := ⟨xT_in (xt6 166 rfl) rfl, xT_in (xt1 15 rfl) rfl, ⟨by decide +kernel, by decide +kernel, by decide +kernel⟩, by decide +kernel, by decide⟩
theorem mv_X12_isWord : xVir yX12_isWord cX12_isWord 2 (some .boolean) 1 10 := ⟨mt_X12_isWord, xT_in (xt6 165 rfl) rfl, xT_sel (List.mem_of_getElem? (i := 49) rfl) rfl, by decide, RX12, TX12, 30, rfl, rfl⟩
theorem mt_X12_readName : xMth yX12_readName cX12_readName 5 none 3 := ⟨xT_in (xt6 170 rfl) rfl, xT_in (xt1 15 rfl) rfl, ⟨by decide +kernel, by decide +kernel, by decide +kernel⟩, by decide +kernel, by decide⟩
theorem mv_X12_readName : xVir yX12_readName cX12_readName 5 none 3 10 := ⟨mt_X12_readName, xT_in (xt6 169 rfl) rfl, xT_sel (List.mem_of_getElem? (i := 50) rfl) rfl, by decide, RX12, TX12, 30, rfl, rfl⟩
theorem mt_X12_wrong : xMth yX12_wrong cX12_wrong 2 none 1 := ⟨xT_in (xt6 174 rfl) rfl, xT_in (xt1 15 rfl) rfl, ⟨by decide +kernel, by decide +kernel, by decide +kernel⟩, by decide +kernel, by decide⟩
theorem mv_X12_wrong : xVir yX12_wrong cX12_wrong 2 none 1 10 := ⟨mt_X12_wrong, xT_in (xt6 173 rfl) rfl, xT_sel (List.mem_of_getElem? (i := 51) rfl) rfl, by decide, RX12, TX12, 30, rfl, rfl⟩
theorem mt_X12_isName : xMth yX12_isName cX12_isName 1 (some .boolean) 0 := ⟨xT_in (xt6 178 rfl) rfl, xT_in (xt1 15 rfl) rfl, ⟨by decide +kernel, by decide +kernel, by decide +kernel⟩, by decide +kernel, by decide⟩
theorem mv_X12_isName : xVir yX12_isName cX12_isName 1 (some .boolean) 0 10 := ⟨mt_X12_isName, xT_in (xt6 177 rfl) rfl, xT_sel (List.mem_of_getElem? (i := 52) rfl) rfl, by decide, RX12, TX12, 30, rfl, rfl⟩
theorem mt_X12_wordHere : xMth yX12_wordHere cX12_wordHere 5 (some .int) 2 := ⟨xT_in (xt6 182 rfl) rfl, xT_in (xt1 15 rfl) rfl, ⟨by decide +kernel, by decide +kernel, by decide +kernel⟩, by decide +kernel, by decide⟩
theorem mv_X12_wordHere : xVir yX12_wordHere cX12_wordHere 5 (some .int) 2 10 := ⟨mt_X12_wordHere, xT_in (xt6 181 rfl) rfl, xT_sel (List.mem_of_getElem? (i := 53) rfl) rfl, by decide, RX12, TX12, 30, rfl, rfl⟩
theorem mt_X12_nameAt : xMth yX12_nameAt cX12_nameAt 3 (some .int) 1 := ⟨xT_in (xt6 186 rfl) rfl, xT_in (xt1 15 rfl) rfl, ⟨by decide +kernel, by decide +kernel, by decide +kernel⟩, by decide +kernel, by decide⟩
theorem mv_X12_nameAt : xVir yX12_nameAt cX12_nameAt 3 (some .int) 1 10 := ⟨mt_X12_nameAt, xT_in (xt6 185 rfl) rfl, xT_sel (List.mem_of_getElem? (i := 54) rfl) rfl, by decide, RX12, TX12, 30, rfl, rfl⟩
theorem mt_X12_readScene : xMth yX12_readScene cX12_readScene 7 none 0 := ⟨xT_in (xt6 190 rfl) rfl, xT_in (xt1 15 rfl) rfl, ⟨by decide +kernel, by decide +kernel, by decide +kernel⟩, by decide +kernel, by decide⟩
theorem mv_X12_readScene : xVir yX12_readScene cX12_readScene 7 none 0 10 := ⟨mt_X12_readScene, xT_in (xt6 189 rfl) rfl, xT_sel (List.mem_of_getElem? (i := 55) rfl) rfl, by decide, RX12, TX12, 30, rfl, rfl⟩
theorem mt_X12_takeTold : xMth yX12_takeTold cX12_takeTold 4 (some .int) 2 := ⟨xT_in (xt6 194 rfl) rfl, xT_in (xt1 15 rfl) rfl, ⟨by decide +kernel, by decide +kernel, by decide +kernel⟩, by decide +kernel, by decide⟩
theorem mv_X12_takeTold : xVir yX12_takeTold cX12_takeTold 4 (some .int) 2 10 := ⟨mt_X12_takeTold, xT_in (xt6 193 rfl) rfl, xT_sel (List.mem_of_getElem? (i := 56) rfl) rfl, by decide, RX12, TX12, 30, rfl, rfl⟩
theorem mt_X12_toldHere : xMth yX12_toldHere cX12_toldHere 4 (some .int) 2 := ⟨xT_in (xt6 198 rfl) rfl, xT_in (xt1 15 rfl) rfl, ⟨by decide +kernel, by decide +kernel, by decide +kernel⟩, by decide +kernel, by decide⟩
theorem mv_X12_toldHere : xVir yX12_toldHere cX12_toldHere 4 (some .int) 2 10 := ⟨mt_X12_toldHere, xT_in (xt6 197 rfl) rfl, xT_sel (List.mem_of_getElem? (i := 57) rfl) rfl, by decide, RX12, TX12, 30, rfl, rfl⟩
theorem mt_X12_within : xMth yX12_within cX12_within 3 (some .boolean) 3 := ⟨xT_in (xt6 201 rfl) rfl, xT_in (xt1 15 rfl) rfl, ⟨by decide +kernel, by decide +kernel, by decide +kernel⟩, by decide +kernel, by decide⟩
theorem ms_X12_within : xSta yX12_within cX12_within 3 (some .boolean) 3 := ⟨mt_X12_within, xT_in (xt6 200 rfl) rfl⟩
theorem mt_X12_takeIs : xMth yX12_takeIs cX12_takeIs 1 (some .int) 0 := ⟨xT_in (xt6 205 rfl) rfl, xT_in (xt1 15 rfl) rfl, ⟨by decide +kernel, by decide +kernel, by decide +kernel⟩, by decide +kernel, by decide⟩
theorem mv_X12_takeIs : xVir yX12_takeIs cX12_takeIs 1 (some .int) 0 10 := ⟨mt_X12_takeIs, xT_in (xt6 204 rfl) rfl, xT_sel (List.mem_of_getElem? (i := 58) rfl) rfl, by decide, RX12, TX12, 30, rfl, rfl⟩
theorem mt_X12_takeOne : xMth yX12_takeOne cX12_takeOne 4 (some .int) 2 := ⟨xT_in (xt6 209 rfl) rfl, xT_in (xt1 15 rfl) rfl, ⟨by decide +kernel, by decide +kernel, by decide +kernel⟩, by decide +kernel, by decide⟩
theorem mv_X12_takeOne : xVir yX12_takeOne cX12_takeOne 4 (some .int) 2 10 := ⟨mt_X12_takeOne, xT_in (xt6 208 rfl) rfl, xT_sel (List.mem_of_getElem? (i := 59) rfl) rfl, by decide, RX12, TX12, 30, rfl, rfl⟩
theorem mt_X12_takeWord : xMth yX12_takeWord cX12_takeWord 2 none 1 := ⟨xT_in (xt6 213 rfl) rfl, xT_in (xt1 15 rfl) rfl, ⟨by decide +kernel, by decide +kernel, by decide +kernel⟩, by decide +kernel, by decide⟩
theorem mv_X12_takeWord : xVir yX12_takeWord cX12_takeWord 2 none 1 10 := ⟨mt_X12_takeWord, xT_in (xt6 212 rfl) rfl, xT_sel (List.mem_of_getElem? (i := 60) rfl) rfl, by decide, RX12, TX12, 30, rfl, rfl⟩
theorem mt_X12_hasWord : xMth yX12_hasWord cX12_hasWord 3 (some .boolean) 1 := ⟨xT_in (xt6 217 rfl) rfl, xT_in (xt1 15 rfl) rfl, ⟨by decide +kernel, by decide +kernel, by decide +kernel⟩, by decide +kernel, by decide⟩
theorem mv_X12_hasWord : xVir yX12_hasWord cX12_hasWord 3 (some .boolean) 1 10 := ⟨mt_X12_hasWord, xT_in (xt6 216 rfl) rfl, xT_sel (List.mem_of_getElem? (i := 61) rfl) rfl, by decide, RX12, TX12, 30, rfl, rfl⟩
theorem mt_X12_readWatcher : xMth yX12_readWatcher cX12_readWatcher 5 none 0 := ⟨xT_in (xt6 221 rfl) rfl, xT_in (xt1 15 rfl) rfl, ⟨by decide +kernel, by decide +kernel, by decide +kernel⟩, by decide +kernel, by decide⟩
theorem mv_X12_readWatcher : xVir yX12_readWatcher cX12_readWatcher 5 none 0 10 := ⟨mt_X12_readWatcher, xT_in (xt6 220 rfl) rfl, xT_sel (List.mem_of_getElem? (i := 62) rfl) rfl, by decide, RX12, TX12, 30, rfl, rfl⟩
theorem mt_X12_takeAfter : xMth yX12_takeAfter cX12_takeAfter 4 (some .int) 3 := ⟨xT_in (xt6 225 rfl) rfl, xT_in (xt1 15 rfl) rfl, ⟨by decide +kernel, by decide +kernel, by decide +kernel⟩, by decide +kernel, by decide⟩
theorem mv_X12_takeAfter : xVir yX12_takeAfter cX12_takeAfter 4 (some .int) 3 10 := ⟨mt_X12_takeAfter, xT_in (xt6 224 rfl) rfl, xT_sel (List.mem_of_getElem? (i := 63) rfl) rfl, by decide, RX12, TX12, 30, rfl, rfl⟩
theorem mt_X12_takeNumber : xMth yX12_takeNumber cX12_takeNumber 3 (some .int) 2 := ⟨xT_in (xt6 229 rfl) rfl, xT_in (xt1 15 rfl) rfl, ⟨by decide +kernel, by decide +kernel, by decide +kernel⟩, by decide +kernel, by decide⟩
theorem mv_X12_takeNumber : xVir yX12_takeNumber cX12_takeNumber 3 (some .int) 2 10 := ⟨mt_X12_takeNumber, xT_in (xt6 228 rfl) rfl, xT_sel (List.mem_of_getElem? (i := 64) rfl) rfl, by decide, RX12, TX12, 30, rfl, rfl⟩
theorem mt_X12_readOnce : xMth yX12_readOnce cX12_readOnce 2 none 0 := ⟨xT_in (xt6 233 rfl) rfl, xT_in (xt1 15 rfl) rfl, ⟨by decide +kernel, by decide +kernel, by decide +kernel⟩, by decide +kernel, by decide⟩
theorem mv_X12_readOnce : xVir yX12_readOnce cX12_readOnce 2 none 0 10 := ⟨mt_X12_readOnce, xT_in (xt6 232 rfl) rfl, xT_sel (List.mem_of_getElem? (i := 65) rfl) rfl, by decide, RX12, TX12, 30, rfl, rfl⟩
theorem mt_X12_whole : xMth yX12_whole cX12_whole 3 none 1 := ⟨xT_in (xt6 237 rfl) rfl, xT_in (xt1 15 rfl) rfl, ⟨by decide +kernel, by decide +kernel, by decide +kernel⟩, by decide +kernel, by decide⟩
theorem mv_X12_whole : xVir yX12_whole cX12_whole 3 none 1 10 := ⟨mt_X12_whole, xT_in (xt6 236 rfl) rfl, xT_sel (List.mem_of_getElem? (i := 66) rfl) rfl, by decide, RX12, TX12, 30, rfl, rfl⟩
theorem mt_X12_test : xMth yX12_test cX12_test 3 none 1 := ⟨xT_in (xt7 1 rfl) rfl, xT_in (xt1 15 rfl) rfl, ⟨by decide +kernel, by decide +kernel, by decide +kernel⟩, by decide +kernel, by decide⟩
theorem mv_X12_test : xVir yX12_test cX12_test 3 none 1 10 := ⟨mt_X12_test, xT_in (xt7 0 rfl) rfl, xT_sel (List.mem_of_getElem? (i := 67) rfl) rfl, by decide, RX12, TX12, 30, rfl, rfl⟩
theorem mt_X12_sums : xMth yX12_sums cX12_sums 3 none 1 := ⟨xT_in (xt7 5 rfl) rfl, xT_in (xt1 15 rfl) rfl, ⟨by decide +kernel, by decide +kernel, by decide +kernel⟩, by decide +kernel, by decide⟩
theorem mv_X12_sums : xVir yX12_sums cX12_sums 3 none 1 10 := ⟨mt_X12_sums, xT_in (xt7 4 rfl) rfl, xT_sel (List.mem_of_getElem? (i := 68) rfl) rfl, by decide, RX12, TX12, 30, rfl, rfl⟩
theorem mt_X12_products : xMth yX12_products cX12_products 2 none 1 := ⟨xT_in (xt7 9 rfl) rfl, xT_in (xt1 15 rfl) rfl, ⟨by decide +kernel, by decide +kernel, by decide +kernel⟩, by decide +kernel, by decide⟩
theorem mv_X12_products : xVir yX12_products cX12_products 2 none 1 10 := ⟨mt_X12_products, xT_in (xt7 8 rfl) rfl, xT_sel (List.mem_of_getElem? (i := 69) rfl) rfl, by decide, RX12, TX12, 30, rfl, rfl⟩
theorem mt_X12_takePart : xMth yX12_takePart cX12_takePart 4 none 1 := ⟨xT_in (xt7 13 rfl) rfl, xT_in (xt1 15 rfl) rfl, ⟨by decide +kernel, by decide +kernel, by decide +kernel⟩, by decide +kernel, by decide⟩
theorem mv_X12_takePart : xVir yX12_takePart cX12_takePart 4 none 1 10 := ⟨mt_X12_takePart, xT_in (xt7 12 rfl) rfl, xT_sel (List.mem_of_getElem? (i := 70) rfl) rfl, by decide, RX12, TX12, 30, rfl, rfl⟩
theorem mt_X12_isSign : xMth yX12_isSign cX12_isSign 2 (some .boolean) 1 := ⟨xT_in (xt7 17 rfl) rfl, xT_in (xt1 15 rfl) rfl, ⟨by decide +kernel, by decide +kernel, by decide +kernel⟩, by decide +kernel, by decide⟩
theorem mv_X12_isSign : xVir yX12_isSign cX12_isSign 2 (some .boolean) 1 10 := ⟨mt_X12_isSign, xT_in (xt7 16 rfl) rfl, xT_sel (List.mem_of_getElem? (i := 71) rfl) rfl, by decide, RX12, TX12, 30, rfl, rfl⟩
theorem mt_X12_emit : xMth yX12_emit cX12_emit 3 none 2 := ⟨xT_in (xt7 21 rfl) rfl, xT_in (xt1 15 rfl) rfl, ⟨by decide +kernel, by decide +kernel, by decide +kernel⟩, by decide +kernel, by decide⟩
theorem mv_X12_emit : xVir yX12_emit cX12_emit 3 none 2 10 := ⟨mt_X12_emit, xT_in (xt7 20 rfl) rfl, xT_sel (List.mem_of_getElem? (i := 72) rfl) rfl, by decide, RX12, TX12, 30, rfl, rfl⟩
theorem mt_X12_hasSign : xMth yX12_hasSign cX12_hasSign 3 (some .boolean) 1 := ⟨xT_in (xt7 25 rfl) rfl, xT_in (xt1 15 rfl) rfl, ⟨by decide +kernel, by decide +kernel, by decide +kernel⟩, by decide +kernel, by decide⟩
theorem mv_X12_hasSign : xVir yX12_hasSign cX12_hasSign 3 (some .boolean) 1 10 := ⟨mt_X12_hasSign, xT_in (xt7 24 rfl) rfl, xT_sel (List.mem_of_getElem? (i := 73) rfl) rfl, by decide, RX12, TX12, 30, rfl, rfl⟩
theorem mt_X12_takeSign : xMth yX12_takeSign cX12_takeSign 2 none 1 := ⟨xT_in (xt7 29 rfl) rfl, xT_in (xt1 15 rfl) rfl, ⟨by decide +kernel, by decide +kernel, by decide +kernel⟩, by decide +kernel, by decide⟩
theorem mv_X12_takeSign : xVir yX12_takeSign cX12_takeSign 2 none 1 10 := ⟨mt_X12_takeSign, xT_in (xt7 28 rfl) rfl, xT_sel (List.mem_of_getElem? (i := 74) rfl) rfl, by decide, RX12, TX12, 30, rfl, rfl⟩
theorem mt_X12_evening : xMth yX12_evening cX12_evening 3 (some .int) 0 := ⟨xT_in (xt7 33 rfl) rfl, xT_in (xt1 15 rfl) rfl, ⟨by decide +kernel, by decide +kernel, by decide +kernel⟩, by decide +kernel, by decide⟩
theorem mv_X12_evening : xVir yX12_evening cX12_evening 3 (some .int) 0 10 := ⟨mt_X12_evening, xT_in (xt7 31 rfl) rfl, xT_in (xt7 32 rfl) rfl, by decide, RX12, TX12, 30, rfl, rfl⟩
theorem mt_X12_readEvening : xMth yX12_readEvening cX12_readEvening 3 none 2 := ⟨xT_in (xt7 37 rfl) rfl, xT_in (xt1 15 rfl) rfl, ⟨by decide +kernel, by decide +kernel, by decide +kernel⟩, by decide +kernel, by decide⟩
theorem mv_X12_readEvening : xVir yX12_readEvening cX12_readEvening 3 none 2 10 := ⟨mt_X12_readEvening, xT_in (xt7 36 rfl) rfl, xT_sel (List.mem_of_getElem? (i := 75) rfl) rfl, by decide, RX12, TX12, 30, rfl, rfl⟩
theorem mt_X12_scene : xMth yX12_scene cX12_scene 3 (some .int) 2 := ⟨xT_in (xt7 41 rfl) rfl, xT_in (xt1 15 rfl) rfl, ⟨by decide +kernel, by decide +kernel, by decide +kernel⟩, by decide +kernel, by decide⟩
theorem mv_X12_scene : xVir yX12_scene cX12_scene 3 (some .int) 2 10 := ⟨mt_X12_scene, xT_in (xt7 39 rfl) rfl, xT_in (xt7 40 rfl) rfl, by decide, RX12, TX12, 30, rfl, rfl⟩
theorem mt_X12_isScene : xMth yX12_isScene cX12_isScene 2 (some .boolean) 1 := ⟨xT_in (xt7 45 rfl) rfl, xT_in (xt1 15 rfl) rfl, ⟨by decide +kernel, by decide +kernel, by decide +kernel⟩, by decide +kernel, by decide⟩
theorem mv_X12_isScene : xVir yX12_isScene cX12_isScene 2 (some .boolean) 1 10 := ⟨mt_X12_isScene, xT_in (xt7 44 rfl) rfl, xT_sel (List.mem_of_getElem? (i := 76) rfl) rfl, by decide, RX12, TX12, 30, rfl, rfl⟩
theorem mt_X12_saidThing : xMth yX12_saidThing cX12_saidThing 3 (some .int) 2 := ⟨xT_in (xt7 49 rfl) rfl, xT_in (xt1 15 rfl) rfl, ⟨by decide +kernel, by decide +kernel, by decide +kernel⟩, by decide +kernel, by decide⟩
theorem mv_X12_saidThing : xVir yX12_saidThing cX12_saidThing 3 (some .int) 2 10 := ⟨mt_X12_saidThing, xT_in (xt7 48 rfl) rfl, xT_sel (List.mem_of_getElem? (i := 77) rfl) rfl, by decide, RX12, TX12, 30, rfl, rfl⟩
theorem mt_X12_isCut : xMth yX12_isCut cX12_isCut 3 (some .boolean) 2 := ⟨xT_in (xt7 53 rfl) rfl, xT_in (xt1 15 rfl) rfl, ⟨by decide +kernel, by decide +kernel, by decide +kernel⟩, by decide +kernel, by decide⟩
theorem mv_X12_isCut : xVir yX12_isCut cX12_isCut 3 (some .boolean) 2 10 := ⟨mt_X12_isCut, xT_in (xt7 52 rfl) rfl, xT_sel (List.mem_of_getElem? (i := 78) rfl) rfl, by decide, RX12, TX12, 30, rfl, rfl⟩
theorem mt_X12_saidIs : xMth yX12_saidIs cX12_saidIs 6 (some .int) 2 := ⟨xT_in (xt7 57 rfl) rfl, xT_in (xt1 15 rfl) rfl, ⟨by decide +kernel, by decide +kernel, by decide +kernel⟩, by decide +kernel, by decide⟩
theorem mv_X12_saidIs : xVir yX12_saidIs cX12_saidIs 6 (some .int) 2 10 := ⟨mt_X12_saidIs, xT_in (xt7 56 rfl) rfl, xT_sel (List.mem_of_getElem? (i := 79) rfl) rfl, by decide, RX12, TX12, 30, rfl, rfl⟩
theorem mt_X12_watcher : xMth yX12_watcher cX12_watcher 3 (some .int) 2 := ⟨xT_in (xt7 61 rfl) rfl, xT_in (xt1 15 rfl) rfl, ⟨by decide +kernel, by decide +kernel, by decide +kernel⟩, by decide +kernel, by decide⟩
theorem mv_X12_watcher : xVir yX12_watcher cX12_watcher 3 (some .int) 2 10 := ⟨mt_X12_watcher, xT_in (xt7 59 rfl) rfl, xT_in (xt7 60 rfl) rfl, by decide, RX12, TX12, 30, rfl, rfl⟩
theorem mt_X12_isWatcher : xMth yX12_isWatcher cX12_isWatcher 2 (some .boolean) 1 := ⟨xT_in (xt7 65 rfl) rfl, xT_in (xt1 15 rfl) rfl, ⟨by decide +kernel, by decide +kernel, by decide +kernel⟩, by decide +kernel, by decide⟩
theorem mv_X12_isWatcher : xVir yX12_isWatcher cX12_isWatcher 2 (some .boolean) 1 10 := ⟨mt_X12_isWatcher, xT_in (xt7 64 rfl) rfl, xT_sel (List.mem_of_getElem? (i := 80) rfl) rfl, by decide, RX12, TX12, 30, rfl, rfl⟩
theorem mt_X12_watcherOf : xMth yX12_watcherOf cX12_watcherOf 3 (some .int) 2 := ⟨xT_in (xt7 69 rfl) rfl, xT_in (xt1 15 rfl) rfl, ⟨by decide +kernel, by decide +kernel, by decide +kernel⟩, by decide +kernel, by decide⟩
theorem mv_X12_watcherOf : xVir yX12_watcherOf cX12_watcherOf 3 (some .int) 2 10 := ⟨mt_X12_watcherOf, xT_in (xt7 68 rfl) rfl, xT_sel (List.mem_of_getElem? (i := 81) rfl) rfl, by decide, RX12, TX12, 30, rfl, rfl⟩
theorem mt_X12_isIn : xMth yX12_isIn cX12_isIn 3 (some .boolean) 2 := ⟨xT_in (xt7 73 rfl) rfl, xT_in (xt1 15 rfl) rfl, ⟨by decide +kernel, by decide +kernel, by decide +kernel⟩, by decide +kernel, by decide⟩
theorem mv_X12_isIn : xVir yX12_isIn cX12_isIn 3 (some .boolean) 2 10 := ⟨mt_X12_isIn, xT_in (xt7 72 rfl) rfl, xT_sel (List.mem_of_getElem? (i := 82) rfl) rfl, by decide, RX12, TX12, 30, rfl, rfl⟩
theorem mt_X12_thinks : xMth yX12_thinks cX12_thinks 3 (some .int) 2 := ⟨xT_in (xt7 77 rfl) rfl, xT_in (xt1 15 rfl) rfl, ⟨by decide +kernel, by decide +kernel, by decide +kernel⟩, by decide +kernel, by decide⟩
theorem mv_X12_thinks : xVir yX12_thinks cX12_thinks 3 (some .int) 2 10 := ⟨mt_X12_thinks, xT_in (xt7 75 rfl) rfl, xT_in (xt7 76 rfl) rfl, by decide, RX12, TX12, 30, rfl, rfl⟩
theorem mt_X12_isThing : xMth yX12_isThing cX12_isThing 2 (some .boolean) 1 := ⟨xT_in (xt7 81 rfl) rfl, xT_in (xt1 15 rfl) rfl, ⟨by decide +kernel, by decide +kernel, by decide +kernel⟩, by decide +kernel, by decide⟩
theorem mv_X12_isThing : xVir yX12_isThing cX12_isThing 2 (some .boolean) 1 10 := ⟨mt_X12_isThing, xT_in (xt7 80 rfl) rfl, xT_sel (List.mem_of_getElem? (i := 83) rfl) rfl, by decide, RX12, TX12, 30, rfl, rfl⟩
theorem mt_X12_things : xMth yX12_things cX12_things 1 (some .int) 0 := ⟨xT_in (xt7 85 rfl) rfl, xT_in (xt1 15 rfl) rfl, ⟨by decide +kernel, by decide +kernel, by decide +kernel⟩, by decide +kernel, by decide⟩
theorem mv_X12_things : xVir yX12_things cX12_things 1 (some .int) 0 10 := ⟨mt_X12_things, xT_in (xt7 84 rfl) rfl, xT_sel (List.mem_of_getElem? (i := 84) rfl) rfl, by decide, RX12, TX12, 30, rfl, rfl⟩
theorem mt_X12_thoughtOf : xMth yX12_thoughtOf cX12_thoughtOf 4 (some .int) 3 := ⟨xT_in (xt7 89 rfl) rfl, xT_in (xt1 15 rfl) rfl, ⟨by decide +kernel, by decide +kernel, by decide +kernel⟩, by decide +kernel, by decide⟩
theorem mv_X12_thoughtOf : xVir yX12_thoughtOf cX12_thoughtOf 4 (some .int) 3 10 := ⟨mt_X12_thoughtOf, xT_in (xt7 88 rfl) rfl, xT_sel (List.mem_of_getElem? (i := 85) rfl) rfl, by decide, RX12, TX12, 30, rfl, rfl⟩
theorem mt_X12_takes : xMth yX12_takes cX12_takes 6 (some .int) 2 := ⟨xT_in (xt7 93 rfl) rfl, xT_in (xt1 15 rfl) rfl, ⟨by decide +kernel, by decide +kernel, by decide +kernel⟩, by decide +kernel, by decide⟩
theorem mv_X12_takes : xVir yX12_takes cX12_takes 6 (some .int) 2 10 := ⟨mt_X12_takes, xT_in (xt7 91 rfl) rfl, xT_in (xt7 92 rfl) rfl, by decide, RX12, TX12, 30, rfl, rfl⟩
theorem mt_X12_doesRead : xMth yX12_doesRead cX12_doesRead 5 (some .boolean) 3 := ⟨xT_in (xt7 97 rfl) rfl, xT_in (xt1 15 rfl) rfl, ⟨by decide +kernel, by decide +kernel, by decide +kernel⟩, by decide +kernel, by decide⟩
theorem mv_X12_doesRead : xVir yX12_doesRead cX12_doesRead 5 (some .boolean) 3 10 := ⟨mt_X12_doesRead, xT_in (xt7 96 rfl) rfl, xT_sel (List.mem_of_getElem? (i := 86) rfl) rfl, by decide, RX12, TX12, 30, rfl, rfl⟩
theorem mt_X12_doesTake : xMth yX12_doesTake cX12_doesTake 5 (some .boolean) 3 := ⟨xT_in (xt7 101 rfl) rfl, xT_in (xt1 15 rfl) rfl, ⟨by decide +kernel, by decide +kernel, by decide +kernel⟩, by decide +kernel, by decide⟩
theorem mv_X12_doesTake : xVir yX12_doesTake cX12_doesTake 5 (some .boolean) 3 10 := ⟨mt_X12_doesTake, xT_in (xt7 100 rfl) rfl, xT_sel (List.mem_of_getElem? (i := 87) rfl) rfl, by decide, RX12, TX12, 30, rfl, rfl⟩
theorem mt_X12_blank : xMth yX12_blank cX12_blank 4 (some .int) 1 := ⟨xT_in (xt7 105 rfl) rfl, xT_in (xt1 15 rfl) rfl, ⟨by decide +kernel, by decide +kernel, by decide +kernel⟩, by decide +kernel, by decide⟩
theorem mv_X12_blank : xVir yX12_blank cX12_blank 4 (some .int) 1 10 := ⟨mt_X12_blank, xT_in (xt7 103 rfl) rfl, xT_in (xt7 104 rfl) rfl, by decide, RX12, TX12, 30, rfl, rfl⟩
theorem mt_X12_show : xMth yX12_show cX12_show 1 (some .int) 0 := ⟨xT_in (xt7 109 rfl) rfl, xT_in (xt1 15 rfl) rfl, ⟨by decide +kernel, by decide +kernel, by decide +kernel⟩, by decide +kernel, by decide⟩
theorem mv_X12_show : xVir yX12_show cX12_show 1 (some .int) 0 10 := ⟨mt_X12_show, xT_in (xt7 107 rfl) rfl, xT_in (xt7 108 rfl) rfl, by decide, RX12, TX12, 30, rfl, rfl⟩
theorem mt_X12_keeps : xMth yX12_keeps cX12_keeps 2 none 0 := ⟨xT_in (xt7 113 rfl) rfl, xT_in (xt1 15 rfl) rfl, ⟨by decide +kernel, by decide +kernel, by decide +kernel⟩, by decide +kernel, by decide⟩
theorem mv_X12_keeps : xVir yX12_keeps cX12_keeps 2 none 0 10 := ⟨mt_X12_keeps, xT_in (xt7 112 rfl) rfl, xT_sel (List.mem_of_getElem? (i := 88) rfl) rfl, by decide, RX12, TX12, 30, rfl, rfl⟩
theorem mt_X12_copies : xMth yX12_copies cX12_copies 5 none 3 := ⟨xT_in (xt7 117 rfl) rfl, xT_in (xt1 15 rfl) rfl, ⟨by decide +kernel, by decide +kernel, by decide +kernel⟩, by decide +kernel, by decide⟩
theorem mv_X12_copies : xVir yX12_copies cX12_copies 5 none 3 10 := ⟨mt_X12_copies, xT_in (xt7 116 rfl) rfl, xT_sel (List.mem_of_getElem? (i := 89) rfl) rfl, by decide, RX12, TX12, 30, rfl, rfl⟩
theorem mt_X12_shows : xMth yX12_shows cX12_shows 11 (some .int) 1 := ⟨xT_in (xt7 121 rfl) rfl, xT_in (xt1 15 rfl) rfl, ⟨by decide +kernel, by decide +kernel, by decide +kernel⟩, by decide +kernel, by decide⟩
theorem mv_X12_shows : xVir yX12_shows cX12_shows 11 (some .int) 1 10 := ⟨mt_X12_shows, xT_in (xt7 120 rfl) rfl, xT_sel (List.mem_of_getElem? (i := 90) rfl) rfl, by decide, RX12, TX12, 30, rfl, rfl⟩
theorem mt_X12_doesClash : xMth yX12_doesClash cX12_doesClash 3 (some .boolean) 2 := ⟨xT_in (xt7 125 rfl) rfl, xT_in (xt1 15 rfl) rfl, ⟨by decide +kernel, by decide +kernel, by decide +kernel⟩, by decide +kernel, by decide⟩
theorem mv_X12_doesClash : xVir yX12_doesClash cX12_doesClash 3 (some .boolean) 2 10 := ⟨mt_X12_doesClash, xT_in (xt7 124 rfl) rfl, xT_sel (List.mem_of_getElem? (i := 91) rfl) rfl, by decide, RX12, TX12, 30, rfl, rfl⟩
theorem mt_X12_doubtBy : xMth yX12_doubtBy cX12_doubtBy 6 (some .int) 4 := ⟨xT_in (xt7 129 rfl) rfl, xT_in (xt1 15 rfl) rfl, ⟨by decide +kernel, by decide +kernel, by decide +kernel⟩, by decide +kernel, by decide⟩
theorem mv_X12_doubtBy : xVir yX12_doubtBy cX12_doubtBy 6 (some .int) 4 10 := ⟨mt_X12_doubtBy, xT_in (xt7 128 rfl) rfl, xT_sel (List.mem_of_getElem? (i := 92) rfl) rfl, by decide, RX12, TX12, 30, rfl, rfl⟩
theorem mt_X12_worthAt : xMth yX12_worthAt cX12_worthAt 5 (some .int) 1 := ⟨xT_in (xt7 133 rfl) rfl, xT_in (xt1 15 rfl) rfl, ⟨by decide +kernel, by decide +kernel, by decide +kernel⟩, by decide +kernel, by decide⟩
theorem mv_X12_worthAt : xVir yX12_worthAt cX12_worthAt 5 (some .int) 1 10 := ⟨mt_X12_worthAt, xT_in (xt7 132 rfl) rfl, xT_sel (List.mem_of_getElem? (i := 93) rfl) rfl, by decide, RX12, TX12, 30, rfl, rfl⟩
theorem mt_X12_both : xMth yX12_both cX12_both 3 (some .int) 3 := ⟨xT_in (xt7 136 rfl) rfl, xT_in (xt1 15 rfl) rfl, ⟨by decide +kernel, by decide +kernel, by decide +kernel⟩, by decide +kernel, by decide⟩
theorem ms_X12_both : xSta yX12_both cX12_both 3 (some .int) 3 := ⟨mt_X12_both, xT_in (xt7 135 rfl) rfl⟩
theorem mt_X12_write : xMth yX12_write cX12_write 4 (some .boolean) 3 := ⟨xT_in (xt7 140 rfl) rfl, xT_in (xt1 15 rfl) rfl, ⟨by decide +kernel, by decide +kernel, by decide +kernel⟩, by decide +kernel, by decide⟩
theorem mv_X12_write : xVir yX12_write cX12_write 4 (some .boolean) 3 10 := ⟨mt_X12_write, xT_in (xt7 138 rfl) rfl, xT_in (xt7 139 rfl) rfl, by decide, RX12, TX12, 30, rfl, rfl⟩
theorem mt_X12_isToCome : xMth yX12_isToCome cX12_isToCome 3 (some .boolean) 2 := ⟨xT_in (xt7 144 rfl) rfl, xT_in (xt1 15 rfl) rfl, ⟨by decide +kernel, by decide +kernel, by decide +kernel⟩, by decide +kernel, by decide⟩
theorem mv_X12_isToCome : xVir yX12_isToCome cX12_isToCome 3 (some .boolean) 2 10 := ⟨mt_X12_isToCome, xT_in (xt7 143 rfl) rfl, xT_sel (List.mem_of_getElem? (i := 94) rfl) rfl, by decide, RX12, TX12, 30, rfl, rfl⟩
theorem mt_X12_writes : xMth yX12_writes cX12_writes 5 none 4 := ⟨xT_in (xt7 148 rfl) rfl, xT_in (xt1 15 rfl) rfl, ⟨by decide +kernel, by decide +kernel, by decide +kernel⟩, by decide +kernel, by decide⟩
theorem mv_X12_writes : xVir yX12_writes cX12_writes 5 none 4 10 := ⟨mt_X12_writes, xT_in (xt7 147 rfl) rfl, xT_sel (List.mem_of_getElem? (i := 95) rfl) rfl, by decide, RX12, TX12, 30, rfl, rfl⟩
theorem mt_X12_cut : xMth yX12_cut cX12_cut 2 (some .boolean) 1 := ⟨xT_in (xt7 152 rfl) rfl, xT_in (xt1 15 rfl) rfl, ⟨by decide +kernel, by decide +kernel, by decide +kernel⟩, by decide +kernel, by decide⟩
theorem mv_X12_cut : xVir yX12_cut cX12_cut 2 (some .boolean) 1 10 := ⟨mt_X12_cut, xT_in (xt7 150 rfl) rfl, xT_in (xt7 151 rfl) rfl, by decide, RX12, TX12, 30, rfl, rfl⟩
theorem mt_X12_talk : xMth yX12_talk cX12_talk 3 (some .int) 2 := ⟨xT_in (xt7 156 rfl) rfl, xT_in (xt1 15 rfl) rfl, ⟨by decide +kernel, by decide +kernel, by decide +kernel⟩, by decide +kernel, by decide⟩
theorem mv_X12_talk : xVir yX12_talk cX12_talk 3 (some .int) 2 10 := ⟨mt_X12_talk, xT_in (xt7 154 rfl) rfl, xT_in (xt7 155 rfl) rfl, by decide, RX12, TX12, 30, rfl, rfl⟩
theorem mt_X12_talks : xMth yX12_talks cX12_talks 9 (some .int) 3 := ⟨xT_in (xt7 160 rfl) rfl, xT_in (xt1 15 rfl) rfl, ⟨by decide +kernel, by decide +kernel, by decide +kernel⟩, by decide +kernel, by decide⟩
theorem mv_X12_talks : xVir yX12_talks cX12_talks 9 (some .int) 3 10 := ⟨mt_X12_talks, xT_in (xt7 159 rfl) rfl, xT_sel (List.mem_of_getElem? (i := 96) rfl) rfl, by decide, RX12, TX12, 30, rfl, rfl⟩
theorem mt_X12_again : xMth yX12_again cX12_again 1 (some .int) 0 := ⟨xT_in (xt7 164 rfl) rfl, xT_in (xt1 15 rfl) rfl, ⟨by decide +kernel, by decide +kernel, by decide +kernel⟩, by decide +kernel, by decide⟩
theorem mv_X12_again : xVir yX12_again cX12_again 1 (some .int) 0 10 := ⟨mt_X12_again, xT_in (xt7 162 rfl) rfl, xT_in (xt7 163 rfl) rfl, by decide, RX12, TX12, 30, rfl, rfl⟩
theorem mt_X12_begunAgain : xMth yX12_begunAgain cX12_begunAgain 2 none 1 := ⟨xT_in (xt7 168 rfl) rfl, xT_in (xt1 15 rfl) rfl, ⟨by decide +kernel, by decide +kernel, by decide +kernel⟩, by decide +kernel, by decide⟩
theorem mv_X12_begunAgain : xVir yX12_begunAgain cX12_begunAgain 2 none 1 10 := ⟨mt_X12_begunAgain, xT_in (xt7 167 rfl) rfl, xT_sel (List.mem_of_getElem? (i := 97) rfl) rfl, by decide, RX12, TX12, 30, rfl, rfl⟩
theorem mt_X12_undo : xMth yX12_undo cX12_undo 1 (some .boolean) 0 := ⟨xT_in (xt7 172 rfl) rfl, xT_in (xt1 15 rfl) rfl, ⟨by decide +kernel, by decide +kernel, by decide +kernel⟩, by decide +kernel, by decide⟩
theorem mv_X12_undo : xVir yX12_undo cX12_undo 1 (some .boolean) 0 10 := ⟨mt_X12_undo, xT_in (xt7 170 rfl) rfl, xT_in (xt7 171 rfl) rfl, by decide, RX12, TX12, 30, rfl, rfl⟩
theorem mt_X12_judged : xMth yX12_judged cX12_judged 9 (some .int) 1 := ⟨xT_in (xt7 176 rfl) rfl, xT_in (xt1 15 rfl) rfl, ⟨by decide +kernel, by decide +kernel, by decide +kernel⟩, by decide +kernel, by decide⟩
theorem mv_X12_judged : xVir yX12_judged cX12_judged 9 (some .int) 1 10 := ⟨mt_X12_judged, xT_in (xt7 174 rfl) rfl, xT_in (xt7 175 rfl) rfl, by decide, RX12, TX12, 30, rfl, rfl⟩
theorem mt_X12_may : xMth yX12_may cX12_may 4 (some .boolean) 3 := ⟨xT_in (xt7 180 rfl) rfl, xT_in (xt1 15 rfl) rfl, ⟨by decide +kernel, by decide +kernel, by decide +kernel⟩, by decide +kernel, by decide⟩
theorem mv_X12_may : xVir yX12_may cX12_may 4 (some .boolean) 3 10 := ⟨mt_X12_may, xT_in (xt7 179 rfl) rfl, xT_sel (List.mem_of_getElem? (i := 98) rfl) rfl, by decide, RX12, TX12, 30, rfl, rfl⟩
theorem mt_X12_bits : xMth yX12_bits cX12_bits 3 (some .int) 1 := ⟨xT_in (xt7 183 rfl) rfl, xT_in (xt1 15 rfl) rfl, ⟨by decide +kernel, by decide +kernel, by decide +kernel⟩, by decide +kernel, by decide⟩
theorem ms_X12_bits : xSta yX12_bits cX12_bits 3 (some .int) 1 := ⟨mt_X12_bits, xT_in (xt7 182 rfl) rfl⟩
theorem mt_X12_end : xMth yX12_end cX12_end 3 (some .int) 2 := ⟨xT_in (xt7 187 rfl) rfl, xT_in (xt1 15 rfl) rfl, ⟨by decide +kernel, by decide +kernel, by decide +kernel⟩, by decide +kernel, by decide⟩
theorem mv_X12_end : xVir yX12_end cX12_end 3 (some .int) 2 10 := ⟨mt_X12_end, xT_in (xt7 185 rfl) rfl, xT_in (xt7 186 rfl) rfl, by decide, RX12, TX12, 30, rfl, rfl⟩
theorem mt_X12_ends : xMth yX12_ends cX12_ends 2 none 1 := ⟨xT_in (xt7 191 rfl) rfl, xT_in (xt1 15 rfl) rfl, ⟨by decide +kernel, by decide +kernel, by decide +kernel⟩, by decide +kernel, by decide⟩
theorem mv_X12_ends : xVir yX12_ends cX12_ends 2 none 1 10 := ⟨mt_X12_ends, xT_in (xt7 190 rfl) rfl, xT_sel (List.mem_of_getElem? (i := 99) rfl) rfl, by decide, RX12, TX12, 30, rfl, rfl⟩
theorem mt_X12_clearWavers : xMth yX12_clearWavers cX12_clearWavers 2 none 0 := ⟨xT_in (xt7 195 rfl) rfl, xT_in (xt1 15 rfl) rfl, ⟨by decide +kernel, by decide +kernel, by decide +kernel⟩, by decide +kernel, by decide⟩
theorem mv_X12_clearWavers : xVir yX12_clearWavers cX12_clearWavers 2 none 0 10 := ⟨mt_X12_clearWavers, xT_in (xt7 194 rfl) rfl, xT_sel (List.mem_of_getElem? (i := 100) rfl) rfl, by decide, RX12, TX12, 30, rfl, rfl⟩
theorem mt_X12_first : xMth yX12_first cX12_first 4 (some .int) 1 := ⟨xT_in (xt7 199 rfl) rfl, xT_in (xt1 15 rfl) rfl, ⟨by decide +kernel, by decide +kernel, by decide +kernel⟩, by decide +kernel, by decide⟩
theorem mv_X12_first : xVir yX12_first cX12_first 4 (some .int) 1 10 := ⟨mt_X12_first, xT_in (xt7 197 rfl) rfl, xT_in (xt7 198 rfl) rfl, by decide, RX12, TX12, 30, rfl, rfl⟩
theorem mt_X12_wavers : xMth yX12_wavers cX12_wavers 2 (some .int) 1 := ⟨xT_in (xt7 203 rfl) rfl, xT_in (xt1 15 rfl) rfl, ⟨by decide +kernel, by decide +kernel, by decide +kernel⟩, by decide +kernel, by decide⟩
theorem mv_X12_wavers : xVir yX12_wavers cX12_wavers 2 (some .int) 1 10 := ⟨mt_X12_wavers, xT_in (xt7 201 rfl) rfl, xT_in (xt7 202 rfl) rfl, by decide, RX12, TX12, 30, rfl, rfl⟩
theorem mt_X12_forge : xMth yX12_forge cX12_forge 8 (some .int) 3 := ⟨xT_in (xt7 207 rfl) rfl, xT_in (xt1 15 rfl) rfl, ⟨by decide +kernel, by decide +kernel, by decide +kernel⟩, by decide +kernel, by decide⟩
theorem mv_X12_forge : xVir yX12_forge cX12_forge 8 (some .int) 3 10 := ⟨mt_X12_forge, xT_in (xt7 205 rfl) rfl, xT_in (xt7 206 rfl) rfl, by decide, RX12, TX12, 30, rfl, rfl⟩
theorem mt_X12_toCome : xMth yX12_toCome cX12_toCome 1 (some .int) 0 := ⟨xT_in (xt7 211 rfl) rfl, xT_in (xt1 15 rfl) rfl, ⟨by decide +kernel, by decide +kernel, by decide +kernel⟩, by decide +kernel, by decide⟩
theorem mv_X12_toCome : xVir yX12_toCome cX12_toCome 1 (some .int) 0 10 := ⟨mt_X12_toCome, xT_in (xt7 210 rfl) rfl, xT_sel (List.mem_of_getElem? (i := 101) rfl) rfl, by decide, RX12, TX12, 30, rfl, rfl⟩
theorem mt_X12_spare : xMth yX12_spare cX12_spare 5 (some .int) 1 := ⟨xT_in (xt7 215 rfl) rfl, xT_in (xt1 15 rfl) rfl, ⟨by decide +kernel, by decide +kernel, by decide +kernel⟩, by decide +kernel, by decide⟩
theorem mv_X12_spare : xVir yX12_spare cX12_spare 5 (some .int) 1 10 := ⟨mt_X12_spare, xT_in (xt7 213 rfl) rfl, xT_in (xt7 214 rfl) rfl, by decide, RX12, TX12, 30, rfl, rfl⟩
theorem mt_X12_endsCut : xMth yX12_endsCut cX12_endsCut 2 none 1 := ⟨xT_in (xt7 219 rfl) rfl, xT_in (xt1 15 rfl) rfl, ⟨by decide +kernel, by decide +kernel, by decide +kernel⟩, by decide +kernel, by decide⟩
theorem mv_X12_endsCut : xVir yX12_endsCut cX12_endsCut 2 none 1 10 := ⟨mt_X12_endsCut, xT_in (xt7 218 rfl) rfl, xT_sel (List.mem_of_getElem? (i := 102) rfl) rfl, by decide, RX12, TX12, 30, rfl, rfl⟩
theorem mt_X12_mentions : xMth yX12_mentions cX12_mentions 5 (some .int) 2 := ⟨xT_in (xt7 223 rfl) rfl, xT_in (xt1 15 rfl) rfl, ⟨by decide +kernel, by decide +kernel, by decide +kernel⟩, by decide +kernel, by decide⟩
theorem mv_X12_mentions : xVir yX12_mentions cX12_mentions 5 (some .int) 2 10 := ⟨mt_X12_mentions, xT_in (xt7 221 rfl) rfl, xT_in (xt7 222 rfl) rfl, by decide, RX12, TX12, 30, rfl, rfl⟩
theorem mt_X12_fooled : xMth yX12_fooled cX12_fooled 5 (some .int) 1 := ⟨xT_in (xt7 227 rfl) rfl, xT_in (xt1 15 rfl) rfl, ⟨by decide +kernel, by decide +kernel, by decide +kernel⟩, by decide +kernel, by decide⟩
theorem mv_X12_fooled : xVir yX12_fooled cX12_fooled 5 (some .int) 1 10 := ⟨mt_X12_fooled, xT_in (xt7 225 rfl) rfl, xT_in (xt7 226 rfl) rfl, by decide, RX12, TX12, 30, rfl, rfl⟩
theorem mt_X12_lastSaid : xMth yX12_lastSaid cX12_lastSaid 4 (some .int) 1 := ⟨xT_in (xt7 231 rfl) rfl, xT_in (xt1 15 rfl) rfl, ⟨by decide +kernel, by decide +kernel, by decide +kernel⟩, by decide +kernel, by decide⟩
theorem mv_X12_lastSaid : xVir yX12_lastSaid cX12_lastSaid 4 (some .int) 1 10 := ⟨mt_X12_lastSaid, xT_in (xt7 230 rfl) rfl, xT_sel (List.mem_of_getElem? (i := 103) rfl) rfl, by decide, RX12, TX12, 30, rfl, rfl⟩
theorem mt_X12_moves : xMth yX12_moves cX12_moves 3 (some .int) 0 := ⟨xT_in (xt7 235 rfl) rfl, xT_in (xt1 15 rfl) rfl, ⟨by decide +kernel, by decide +kernel, by decide +kernel⟩, by decide +kernel, by decide⟩
theorem mv_X12_moves : xVir yX12_moves cX12_moves 3 (some .int) 0 10 := ⟨mt_X12_moves, xT_in (xt7 233 rfl) rfl, xT_in (xt7 234 rfl) rfl, by decide, RX12, TX12, 30, rfl, rfl⟩
theorem mt_X12_lastWritten : xMth yX12_lastWritten cX12_lastWritten 4 (some .int) 1 := ⟨xT_in (xt7 239 rfl) rfl, xT_in (xt1 15 rfl) rfl, ⟨by decide +kernel, by decide +kernel, by decide +kernel⟩, by decide +kernel, by decide⟩
theorem mv_X12_lastWritten : xVir yX12_lastWritten cX12_lastWritten 4 (some .int) 1 10 := ⟨mt_X12_lastWritten, xT_in (xt7 238 rfl) rfl, xT_sel (List.mem_of_getElem? (i := 104) rfl) rfl, by decide, RX12, TX12, 30, rfl, rfl⟩
theorem mt_X12_sway : xMth yX12_sway cX12_sway 6 (some .int) 0 := ⟨xT_in (xt8 3 rfl) rfl, xT_in (xt1 15 rfl) rfl, ⟨by decide +kernel, by decide +kernel, by decide +kernel⟩, by decide +kernel, by decide⟩
theorem mv_X12_sway : xVir yX12_sway cX12_sway 6 (some .int) 0 10 := ⟨mt_X12_sway, xT_in (xt8 1 rfl) rfl, xT_in (xt8 2 rfl) rfl, by decide, RX12, TX12, 30, rfl, rfl⟩
theorem mt_X12_quarrels : xMth yX12_quarrels cX12_quarrels 6 (some .int) 0 := ⟨xT_in (xt8 7 rfl) rfl, xT_in (xt1 15 rfl) rfl, ⟨by decide +kernel, by decide +kernel, by decide +kernel⟩, by decide +kernel, by decide⟩
theorem mv_X12_quarrels : xVir yX12_quarrels cX12_quarrels 6 (some .int) 0 10 := ⟨mt_X12_quarrels, xT_in (xt8 5 rfl) rfl, xT_in (xt8 6 rfl) rfl, by decide, RX12, TX12, 30, rfl, rfl⟩
theorem mt_X12_couples : xMth yX12_couples cX12_couples 6 (some .int) 0 := ⟨xT_in (xt8 11 rfl) rfl, xT_in (xt1 15 rfl) rfl, ⟨by decide +kernel, by decide +kernel, by decide +kernel⟩, by decide +kernel, by decide⟩
theorem mv_X12_couples : xVir yX12_couples cX12_couples 6 (some .int) 0 10 := ⟨mt_X12_couples, xT_in (xt8 9 rfl) rfl, xT_in (xt8 10 rfl) rfl, by decide, RX12, TX12, 30, rfl, rfl⟩
theorem mt_X12_areAlike : xMth yX12_areAlike cX12_areAlike 5 (some .boolean) 2 := ⟨xT_in (xt8 15 rfl) rfl, xT_in (xt1 15 rfl) rfl, ⟨by decide +kernel, by decide +kernel, by decide +kernel⟩, by decide +kernel, by decide⟩
theorem mv_X12_areAlike : xVir yX12_areAlike cX12_areAlike 5 (some .boolean) 2 10 := ⟨mt_X12_areAlike, xT_in (xt8 14 rfl) rfl, xT_sel (List.mem_of_getElem? (i := 105) rfl) rfl, by decide, RX12, TX12, 30, rfl, rfl⟩
theorem mt_X12_lone : xMth yX12_lone cX12_lone 6 (some .int) 1 := ⟨xT_in (xt8 19 rfl) rfl, xT_in (xt1 15 rfl) rfl, ⟨by decide +kernel, by decide +kernel, by decide +kernel⟩, by decide +kernel, by decide⟩
theorem mv_X12_lone : xVir yX12_lone cX12_lone 6 (some .int) 1 10 := ⟨mt_X12_lone, xT_in (xt8 17 rfl) rfl, xT_in (xt8 18 rfl) rfl, by decide, RX12, TX12, 30, rfl, rfl⟩
theorem mt_X12_who : xMth yX12_who cX12_who 5 (some .int) 2 := ⟨xT_in (xt8 23 rfl) rfl, xT_in (xt1 15 rfl) rfl, ⟨by decide +kernel, by decide +kernel, by decide +kernel⟩, by decide +kernel, by decide⟩
theorem mv_X12_who : xVir yX12_who cX12_who 5 (some .int) 2 10 := ⟨mt_X12_who, xT_in (xt8 21 rfl) rfl, xT_in (xt8 22 rfl) rfl, by decide, RX12, TX12, 30, rfl, rfl⟩
theorem mt_X12_clashes : xMth yX12_clashes cX12_clashes 3 (some .int) 0 := ⟨xT_in (xt8 27 rfl) rfl, xT_in (xt1 15 rfl) rfl, ⟨by decide +kernel, by decide +kernel, by decide +kernel⟩, by decide +kernel, by decide⟩
theorem mv_X12_clashes : xVir yX12_clashes cX12_clashes 3 (some .int) 0 10 := ⟨mt_X12_clashes, xT_in (xt8 25 rfl) rfl, xT_in (xt8 26 rfl) rfl, by decide, RX12, TX12, 30, rfl, rfl⟩
theorem mt_X12_agree : xMth yX12_agree cX12_agree 4 (some .int) 0 := ⟨xT_in (xt8 31 rfl) rfl, xT_in (xt1 15 rfl) rfl, ⟨by decide +kernel, by decide +kernel, by decide +kernel⟩, by decide +kernel, by decide⟩
theorem mv_X12_agree : xVir yX12_agree cX12_agree 4 (some .int) 0 10 := ⟨mt_X12_agree, xT_in (xt8 29 rfl) rfl, xT_in (xt8 30 rfl) rfl, by decide, RX12, TX12, 30, rfl, rfl⟩
theorem mt_X12_nextIn : xMth yX12_nextIn cX12_nextIn 3 (some .int) 1 := ⟨xT_in (xt8 35 rfl) rfl, xT_in (xt1 15 rfl) rfl, ⟨by decide +kernel, by decide +kernel, by decide +kernel⟩, by decide +kernel, by decide⟩
theorem mv_X12_nextIn : xVir yX12_nextIn cX12_nextIn 3 (some .int) 1 10 := ⟨mt_X12_nextIn, xT_in (xt8 34 rfl) rfl, xT_sel (List.mem_of_getElem? (i := 106) rfl) rfl, by decide, RX12, TX12, 30, rfl, rfl⟩
theorem mt_X12_tell : xMth yX12_tell cX12_tell 4 (some .boolean) 3 := ⟨xT_in (xt8 39 rfl) rfl, xT_in (xt1 15 rfl) rfl, ⟨by decide +kernel, by decide +kernel, by decide +kernel⟩, by decide +kernel, by decide⟩
theorem mv_X12_tell : xVir yX12_tell cX12_tell 4 (some .boolean) 3 10 := ⟨mt_X12_tell, xT_in (xt8 37 rfl) rfl, xT_in (xt8 38 rfl) rfl, by decide, RX12, TX12, 30, rfl, rfl⟩
theorem mt_X12_sets : xMth yX12_sets cX12_sets 6 (some .int) 1 := ⟨xT_in (xt8 43 rfl) rfl, xT_in (xt1 15 rfl) rfl, ⟨by decide +kernel, by decide +kernel, by decide +kernel⟩, by decide +kernel, by decide⟩
theorem mv_X12_sets : xVir yX12_sets cX12_sets 6 (some .int) 1 10 := ⟨mt_X12_sets, xT_in (xt8 41 rfl) rfl, xT_in (xt8 42 rfl) rfl, by decide, RX12, TX12, 30, rfl, rfl⟩
theorem mt_X12_isTold : xMth yX12_isTold cX12_isTold 6 (some .boolean) 1 := ⟨xT_in (xt8 47 rfl) rfl, xT_in (xt1 15 rfl) rfl, ⟨by decide +kernel, by decide +kernel, by decide +kernel⟩, by decide +kernel, by decide⟩
theorem mv_X12_isTold : xVir yX12_isTold cX12_isTold 6 (some .boolean) 1 10 := ⟨mt_X12_isTold, xT_in (xt8 46 rfl) rfl, xT_sel (List.mem_of_getElem? (i := 107) rfl) rfl, by decide, RX12, TX12, 30, rfl, rfl⟩
theorem mt_X12_ask : xMth yX12_ask cX12_ask 9 (some .int) 0 := ⟨xT_in (xt8 51 rfl) rfl, xT_in (xt1 15 rfl) rfl, ⟨by decide +kernel, by decide +kernel, by decide +kernel⟩, by decide +kernel, by decide⟩
theorem mv_X12_ask : xVir yX12_ask cX12_ask 9 (some .int) 0 10 := ⟨mt_X12_ask, xT_in (xt8 49 rfl) rfl, xT_in (xt8 50 rfl) rfl, by decide, RX12, TX12, 30, rfl, rfl⟩
theorem mt_X12_chance : xMth yX12_chance cX12_chance 13 (some .int) 3 := ⟨xT_in (xt8 55 rfl) rfl, xT_in (xt1 15 rfl) rfl, ⟨by decide +kernel, by decide +kernel, by decide +kernel⟩, by decide +kernel, by decide⟩
theorem mv_X12_chance : xVir yX12_chance cX12_chance 13 (some .int) 3 10 := ⟨mt_X12_chance, xT_in (xt8 53 rfl) rfl, xT_in (xt8 54 rfl) rfl, by decide, RX12, TX12, 30, rfl, rfl⟩
theorem mt_X12_rests : xMth yX12_rests cX12_rests 12 (some .int) 4 := ⟨xT_in (xt8 60 rfl) rfl, xT_in (xt1 15 rfl) rfl, ⟨by decide +kernel, by decide +kernel, by decide +kernel⟩, by decide +kernel, by decide⟩
theorem mv_X12_rests : xVir yX12_rests cX12_rests 12 (some .int) 4 10 := ⟨mt_X12_rests, xT_in (xt8 58 rfl) rfl, xT_in (xt8 59 rfl) rfl, by decide, RX12, TX12, 30, rfl, rfl⟩
theorem mt_X12_getsBy : xMth yX12_getsBy cX12_getsBy 5 (some .int) 5 := ⟨xT_in (xt8 63 rfl) rfl, xT_in (xt1 15 rfl) rfl, ⟨by decide +kernel, by decide +kernel, by decide +kernel⟩, by decide +kernel, by decide⟩
theorem ms_X12_getsBy : xSta yX12_getsBy cX12_getsBy 5 (some .int) 5 := ⟨mt_X12_getsBy, xT_in (xt8 62 rfl) rfl⟩
theorem mt_X12_years : xMth yX12_years cX12_years 6 (some .int) 3 := ⟨xT_in (xt8 67 rfl) rfl, xT_in (xt1 15 rfl) rfl, ⟨by decide +kernel, by decide +kernel, by decide +kernel⟩, by decide +kernel, by decide⟩
theorem mv_X12_years : xVir yX12_years cX12_years 6 (some .int) 3 10 := ⟨mt_X12_years, xT_in (xt8 65 rfl) rfl, xT_in (xt8 66 rfl) rfl, by decide, RX12, TX12, 30, rfl, rfl⟩
theorem mt_X12_drawsTalk : xMth yX12_drawsTalk cX12_drawsTalk 3 none 0 := ⟨xT_in (xt8 71 rfl) rfl, xT_in (xt1 15 rfl) rfl, ⟨by decide +kernel, by decide +kernel, by decide +kernel⟩, by decide +kernel, by decide⟩
theorem mv_X12_drawsTalk : xVir yX12_drawsTalk cX12_drawsTalk 3 none 0 10 := ⟨mt_X12_drawsTalk, xT_in (xt8 70 rfl) rfl, xT_sel (List.mem_of_getElem? (i := 108) rfl) rfl, by decide, RX12, TX12, 30, rfl, rfl⟩
theorem mt_X12_draw : xMth yX12_draw cX12_draw 2 (some .int) 1 := ⟨xT_in (xt8 75 rfl) rfl, xT_in (xt1 15 rfl) rfl, ⟨by decide +kernel, by decide +kernel, by decide +kernel⟩, by decide +kernel, by decide⟩
theorem mv_X12_draw : xVir yX12_draw cX12_draw 2 (some .int) 1 10 := ⟨mt_X12_draw, xT_in (xt8 74 rfl) rfl, xT_sel (List.mem_of_getElem? (i := 109) rfl) rfl, by decide, RX12, TX12, 30, rfl, rfl⟩
theorem mt_X12_drawsWriting : xMth yX12_drawsWriting cX12_drawsWriting 4 none 0 := ⟨xT_in (xt8 83 rfl) rfl, xT_in (xt1 15 rfl) rfl, ⟨by decide +kernel, by decide +kernel, by decide +kernel⟩, by decide +kernel, by decide⟩
theorem mv_X12_drawsWriting : xVir yX12_drawsWriting cX12_drawsWriting 4 none 0 10 := ⟨mt_X12_drawsWriting, xT_in (xt8 82 rfl) rfl, xT_sel (List.mem_of_getElem? (i := 110) rfl) rfl, by decide, RX12, TX12, 30, rfl, rfl⟩
theorem mt_X12_doubtsOf : xMth yX12_doubtsOf cX12_doubtsOf 4 (some .int) 1 := ⟨xT_in (xt8 87 rfl) rfl, xT_in (xt1 15 rfl) rfl, ⟨by decide +kernel, by decide +kernel, by decide +kernel⟩, by decide +kernel, by decide⟩
theorem mv_X12_doubtsOf : xVir yX12_doubtsOf cX12_doubtsOf 4 (some .int) 1 10 := ⟨mt_X12_doubtsOf, xT_in (xt8 86 rfl) rfl, xT_sel (List.mem_of_getElem? (i := 111) rfl) rfl, by decide, RX12, TX12, 30, rfl, rfl⟩
theorem mt_X12_mark : xMth yX12_mark cX12_mark 3 (some .boolean) 2 := ⟨xT_in (xt8 91 rfl) rfl, xT_in (xt1 15 rfl) rfl, ⟨by decide +kernel, by decide +kernel, by decide +kernel⟩, by decide +kernel, by decide⟩
theorem mv_X12_mark : xVir yX12_mark cX12_mark 3 (some .boolean) 2 10 := ⟨mt_X12_mark, xT_in (xt8 89 rfl) rfl, xT_in (xt8 90 rfl) rfl, by decide, RX12, TX12, 30, rfl, rfl⟩
theorem mt_X12_count : xMth yX12_count cX12_count 2 (some .int) 1 := ⟨xT_in (xt8 95 rfl) rfl, xT_in (xt1 15 rfl) rfl, ⟨by decide +kernel, by decide +kernel, by decide +kernel⟩, by decide +kernel, by decide⟩
theorem mv_X12_count : xVir yX12_count cX12_count 2 (some .int) 1 10 := ⟨mt_X12_count, xT_in (xt8 93 rfl) rfl, xT_in (xt8 94 rfl) rfl, by decide, RX12, TX12, 30, rfl, rfl⟩
theorem mt_X12_toldMany : xMth yX12_toldMany cX12_toldMany 3 (some .int) 0 := ⟨xT_in (xt8 99 rfl) rfl, xT_in (xt1 15 rfl) rfl, ⟨by decide +kernel, by decide +kernel, by decide +kernel⟩, by decide +kernel, by decide⟩
theorem mv_X12_toldMany : xVir yX12_toldMany cX12_toldMany 3 (some .int) 0 10 := ⟨mt_X12_toldMany, xT_in (xt8 98 rfl) rfl, xT_sel (List.mem_of_getElem? (i := 112) rfl) rfl, by decide, RX12, TX12, 30, rfl, rfl⟩
theorem wm_L_15 : Cond.methodLink RL 15 yX11_init ∈ xT := xT_in (xt1 30 rfl) rfl
theorem wo_X11_3 : Cond.methodLink RX11 3 objectInit ∈ xT := xT_in (xt1 33 rfl) rfl
theorem wm_X11_11 : Cond.methodLinkNest RX11 11 yX9_init "FilmFoot" ∈ xN := List.mem_filter.mpr ⟨xt1 38 rfl, rfl⟩
theorem wo_X9_3 : Cond.methodLink RX9 3 objectInit ∈ xT := xT_in (xt1 41 rfl) rfl
theorem wm_X11_18 : Cond.methodLinkNest RX11 18 yX7_init "FilmFoot" ∈ xN := List.mem_filter.mpr ⟨xt1 79 rfl, rfl⟩
theorem wo_X7_3 : Cond.methodLink RX7 3 objectInit ∈ xT := xT_in (xt1 82 rfl) rfl
theorem wm_X7_11 : Cond.methodLinkNest RX7 11 yX4_init "FilmFoot" ∈ xN := List.mem_filter.mpr ⟨xt1 85 rfl, rfl⟩
theorem wo_X4_3 : Cond.methodLink RX4 3 objectInit ∈ xT := xT_in (xt1 88 rfl) rfl
theorem wm_X11_25 : Cond.methodLinkNest RX11 25 yX2_init "FilmFoot" ∈ xN := List.mem_filter.mpr ⟨xt1 113 rfl, rfl⟩
theorem wo_X2_3 : Cond.methodLink RX2 3 objectInit ∈ xT := xT_in (xt1 116 rfl) rfl
theorem wm_X11_35 : Cond.methodLinkNest RX11 35 yX1_init "FilmFoot" ∈ xN := List.mem_filter.mpr ⟨xt1 168 rfl, rfl⟩
theorem wo_X1_3 : Cond.methodLink RX1 3 objectInit ∈ xT := xT_in (xt1 171 rfl) rfl
theorem wm_X11_45 : Cond.methodLinkNest RX11 45 yX3_init "FilmFoot" ∈ xN := List.mem_filter.mpr ⟨xt1 192 rfl, rfl⟩
theorem wo_X3_3 : Cond.methodLink RX3 3 objectInit ∈ xT := xT_in (xt1 195 rfl) rfl
theorem wm_X11_55 : Cond.methodLink RX11 55 yX6_init ∈ xT := xT_in (xt1 233 rfl) rfl
theorem wo_X6_3 : Cond.methodLink RX6 3 objectInit ∈ xT := xT_in (xt1 236 rfl) rfl
theorem wm_X6_17 : Cond.methodLinkNest RX6 17 yX3_init "FilmFoot" ∈ xN := List.mem_filter.mpr ⟨xt1 239 rfl, rfl⟩
theorem wm_X11_75 : Cond.methodLinkNest RX11 75 yX0_init "FilmFoot" ∈ xN := List.mem_filter.mpr ⟨xt2 15 rfl, rfl⟩
theorem wo_X0_1 : Cond.methodLink RX0 1 objectInit ∈ xT := xT_in (xt2 18 rfl) rfl
theorem wm_X11_80 : Cond.methodLinkNest RX11 80 yX5_init "FilmFoot" ∈ xN := List.mem_filter.mpr ⟨xt2 25 rfl, rfl⟩
theorem wo_X5_3 : Cond.methodLink RX5 3 objectInit ∈ xT := xT_in (xt2 28 rfl) rfl
theorem wm_X5_11 : Cond.methodLinkNest RX5 11 yX3_init "FilmFoot" ∈ xN := List.mem_filter.mpr ⟨xt2 30 rfl, rfl⟩
theorem wm_X11_81 : Cond.methodLink RX11 81 yX2_open ∈ xT := xT_in (xt2 42 rfl) rfl
theorem wm_X2_106 : Cond.methodLink RX2 106 yX8_copy ∈ xT := xT_in (xt2 46 rfl) rfl
theorem wm_X8_9 : Cond.methodLink RX8 9 yJ9_min_7cf53 ∈ xT := xT_in (xt2 49 rfl) rfl
theorem wm_X2_113 : Cond.methodLink RX2 113 yJ7_fill_53178 ∈ xT := xT_in (xt2 55 rfl) rfl
theorem wm_L_21 : Cond.methodLink RL 21 yX11_feed ∈ xT := xT_in (xt2 98 rfl) rfl
theorem wm_X11_85 : Cond.methodLink RX11 85 yX9_add ∈ xT := xT_in (xt2 102 rfl) rfl
theorem wm_L_26 : Cond.methodLink RL 26 yX11_film ∈ xT := xT_in (xt2 107 rfl) rfl
theorem wm_X11_93 : Cond.methodLink RX11 93 yX7_readFilm ∈ xT := xT_in (xt2 111 rfl) rfl
theorem wm_X7_18 : Cond.methodLink RX7 18 yX2_clear ∈ xT := xT_in (xt2 115 rfl) rfl
theorem wm_X7_30 : Cond.methodLink RX7 30 yX9_begin ∈ xT := xT_in (xt2 119 rfl) rfl
theorem wm_X9_27 : Cond.methodLink RX9 27 yX9_step ∈ xT := xT_in (xt2 123 rfl) rfl
theorem wm_X9_33 : Cond.methodLink RX9 33 yX9_signAt ∈ xT := xT_in (xt2 127 rfl) rfl
theorem wm_X9_44 : Cond.methodLink RX9 44 yX9_isLetter ∈ xT := xT_in (xt2 131 rfl) rfl
theorem wm_X9_48 : Cond.methodLink RX9 48 yX9_readWord ∈ xT := xT_in (xt2 134 rfl) rfl
theorem wm_X9_72 : Cond.methodLink RX9 72 yX9_longer ∈ xT := xT_in (xt2 138 rfl) rfl
theorem wm_X9_76 : Cond.methodLink RX9 76 yX10_named ∈ xT := xT_in (xt2 143 rfl) rfl
theorem wm_X9_51 : Cond.methodLink RX9 51 yX9_isDigit ∈ xT := xT_in (xt2 148 rfl) rfl
theorem wm_X9_54 : Cond.methodLink RX9 54 yX9_readNumber ∈ xT := xT_in (xt2 151 rfl) rfl
theorem wm_X9_59 : Cond.methodLink RX9 59 yJ0_indexOf_0f7a4 ∈ xT := xT_in (xt2 156 rfl) rfl
theorem wm_J0_633 : Cond.methodLink RJ0 633 yJ0_indexOf_7cf53 ∈ xT := xT_in (xt2 160 rfl) rfl
theorem wm_J0_492 : Cond.methodLink RJ0 492 yJ0_isLatin1_aae02 ∈ xT := xT_in (xt2 164 rfl) rfl
theorem wm_J0_505 : Cond.methodLink RJ0 505 yJ0_length_8abf5 ∈ xT := xT_in (xt2 170 rfl) rfl
theorem wm_J0_335 : Cond.methodLink RJ0 335 yJ0_coder_7d493 ∈ xT := xT_in (xt2 174 rfl) rfl
theorem wm_J0_637 : Cond.methodLink RJ0 637 yJ1_indexOf_4cfef ∈ xT := xT_in (xt2 178 rfl) rfl
theorem wm_J1_88 : Cond.methodLink RJ1 88 yJ1_canEncode_9a6ad ∈ xT := xT_in (xt2 181 rfl) rfl
theorem wm_J1_92 : Cond.methodLink RJ1 92 yJ9_max_7cf53 ∈ xT := xT_in (xt2 184 rfl) rfl
theorem wm_J1_38 : Cond.methodLink RJ1 38 yJ9_min_7cf53 ∈ xT := xT_in (xt2 187 rfl) rfl
theorem wm_J1_95 : Cond.methodLink RJ1 95 yJ1_indexOfChar_4cfef ∈ xT := xT_in (xt2 188 rfl) rfl
theorem wm_J0_640 : Cond.methodLink RJ0 640 yJ2_indexOf_4cfef ∈ xT := xT_in (xt2 191 rfl) rfl
theorem wm_J0_1062 : Cond.methodLink RJ0 1062 yJ3_checkFromToIndex_8c36e ∈ xT := xT_in (xt2 211 rfl) rfl
theorem wm_X7_35 : Cond.methodLink RX7 35 yX9_goesOn ∈ xT := xT_in (xt3 0 rfl) rfl
theorem wm_X7_45 : Cond.methodLink RX7 45 yX9_isWord ∈ xT := xT_in (xt3 6 rfl) rfl
theorem wm_X7_49 : Cond.methodLink RX7 49 yX7_readThing ∈ xT := xT_in (xt3 10 rfl) rfl
theorem wm_X7_78 : Cond.methodLink RX7 78 yX9_refuse ∈ xT := xT_in (xt3 14 rfl) rfl
theorem wm_X7_93 : Cond.methodLink RX7 93 yX9_step ∈ xT := xT_in (xt3 18 rfl) rfl
theorem wm_X7_96 : Cond.methodLink RX7 96 yX7_newName ∈ xT := xT_in (xt3 19 rfl) rfl
theorem wm_X7_161 : Cond.methodLink RX7 161 yX9_isName ∈ xT := xT_in (xt3 22 rfl) rfl
theorem wm_X7_164 : Cond.methodLink RX7 164 yX2_thingNamed ∈ xT := xT_in (xt3 26 rfl) rfl
theorem wm_X7_168 : Cond.methodLink RX7 168 yX2_watcherNamed ∈ xT := xT_in (xt3 30 rfl) rfl
theorem wm_X7_100 : Cond.methodLink RX7 100 yX9_needSign ∈ xT := xT_in (xt3 34 rfl) rfl
theorem wm_X9_98 : Cond.methodLink RX9 98 yX9_isSign ∈ xT := xT_in (xt3 38 rfl) rfl
theorem wm_X9_94 : Cond.methodLink RX9 94 yX9_refuse ∈ xT := xT_in (xt3 42 rfl) rfl
theorem wm_X7_104 : Cond.methodLink RX7 104 yX2_addThing ∈ xT := xT_in (xt3 43 rfl) rfl
theorem wm_X7_56 : Cond.methodLink RX7 56 yX7_readScene ∈ xT := xT_in (xt3 49 rfl) rfl
theorem wm_X7_111 : Cond.methodLink RX7 111 yX7_readClaim ∈ xT := xT_in (xt3 53 rfl) rfl
theorem wm_X7_189 : Cond.methodLinkNest RX7 189 yX11_claim "FilmFoot" ∈ xN := List.mem_filter.mpr ⟨xt3 60 rfl, rfl⟩
theorem wm_X7_118 : Cond.methodLink RX7 118 yX9_need ∈ xT := xT_in (xt3 65 rfl) rfl
theorem wm_X9_90 : Cond.methodLink RX9 90 yX9_isWord ∈ xT := xT_in (xt3 69 rfl) rfl
theorem wm_X7_122 : Cond.methodLink RX7 122 yX2_addScene ∈ xT := xT_in (xt3 70 rfl) rfl
theorem wm_X2_50 : Cond.methodLink RX2 50 yX8_set ∈ xT := xT_in (xt3 74 rfl) rfl
theorem wm_X7_62 : Cond.methodLink RX7 62 yX7_readWatcher ∈ xT := xT_in (xt3 79 rfl) rfl
theorem wm_X7_129 : Cond.methodLink RX7 129 yX7_readKind ∈ xT := xT_in (xt3 83 rfl) rfl
theorem wm_X7_136 : Cond.methodLink RX7 136 yX9_number ∈ xT := xT_in (xt3 96 rfl) rfl
theorem wm_X7_143 : Cond.methodLink RX7 143 yX2_addWatcher ∈ xT := xT_in (xt3 102 rfl) rfl
theorem wm_X7_68 : Cond.methodLink RX7 68 yX7_readStar ∈ xT := xT_in (xt3 108 rfl) rfl
theorem wm_X7_74 : Cond.methodLink RX7 74 yX7_readDoubts ∈ xT := xT_in (xt3 114 rfl) rfl
theorem wm_X7_153 : Cond.methodLinkNest RX7 153 yX4_readAll "FilmFoot" ∈ xN := List.mem_filter.mpr ⟨xt3 118 rfl, rfl⟩
theorem wm_X4_28 : Cond.methodLink RX4 28 yX4_readTest ∈ xT := xT_in (xt3 122 rfl) rfl
theorem wm_X4_54 : Cond.methodLink RX4 54 yX4_readSum ∈ xT := xT_in (xt3 126 rfl) rfl
theorem wm_X4_61 : Cond.methodLink RX4 61 yX4_readProduct ∈ xT := xT_in (xt3 130 rfl) rfl
theorem wm_X4_64 : Cond.methodLink RX4 64 yX4_readPart ∈ xT := xT_in (xt3 134 rfl) rfl
theorem wm_X4_67 : Cond.methodLink RX4 67 yX4_factAt ∈ xT := xT_in (xt3 138 rfl) rfl
theorem wm_X4_38 : Cond.methodLink RX4 38 yX9_isWord ∈ xT := xT_in (xt3 143 rfl) rfl
theorem wm_X4_57 : Cond.methodLink RX4 57 yX9_isSign ∈ xT := xT_in (xt3 152 rfl) rfl
theorem wm_X4_77 : Cond.methodLink RX4 77 yX9_refuse ∈ xT := xT_in (xt3 153 rfl) rfl
theorem wm_X4_47 : Cond.methodLink RX4 47 yX9_step ∈ xT := xT_in (xt3 154 rfl) rfl
theorem wm_X4_50 : Cond.methodLink RX4 50 yX4_emit ∈ xT := xT_in (xt3 155 rfl) rfl
theorem wm_X4_22 : Cond.methodLink RX4 22 yX8_set ∈ xT := xT_in (xt3 159 rfl) rfl
theorem wm_X4_86 : Cond.methodLink RX4 86 yX4_readAll ∈ xT := xT_in (xt3 160 rfl) rfl
theorem wm_X4_89 : Cond.methodLink RX4 89 yX9_needSign ∈ xT := xT_in (xt3 161 rfl) rfl
theorem wm_X7_86 : Cond.methodLink RX7 86 yX2_setDoubts ∈ xT := xT_in (xt3 166 rfl) rfl
theorem wm_X2_56 : Cond.methodLink RX2 56 yX2_plainDoubt ∈ xT := xT_in (xt3 170 rfl) rfl
theorem wm_X2_60 : Cond.methodLink RX2 60 yX8_get ∈ xT := xT_in (xt3 174 rfl) rfl
theorem wm_X2_64 : Cond.methodLink RX2 64 yX4_value ∈ xT := xT_in (xt3 177 rfl) rfl
theorem wm_X4_105 : Cond.methodLink RX4 105 yX8_get ∈ xT := xT_in (xt3 181 rfl) rfl
theorem wm_X4_109 : Cond.methodLink RX4 109 yX4_fact ∈ xT := xT_in (xt3 182 rfl) rfl
theorem wm_X4_113 : Cond.methodLink RX4 113 yX4_both ∈ xT := xT_in (xt3 185 rfl) rfl
theorem wm_X2_70 : Cond.methodLink RX2 70 yX2_doubtAt ∈ xT := xT_in (xt3 188 rfl) rfl
theorem wm_X2_73 : Cond.methodLink RX2 73 yJ9_min_7cf53 ∈ xT := xT_in (xt3 191 rfl) rfl
theorem wm_X2_79 : Cond.methodLink RX2 79 yJ9_max_7cf53 ∈ xT := xT_in (xt3 192 rfl) rfl
theorem wm_X11_97 : Cond.methodLink RX11 97 yX11_begin ∈ xT := xT_in (xt3 193 rfl) rfl
theorem wm_X11_106 : Cond.methodLink RX11 106 yJ7_fill_53178 ∈ xT := xT_in (xt3 197 rfl) rfl
theorem wm_L_31 : Cond.methodLink RL 31 yX11_evening ∈ xT := xT_in (xt3 199 rfl) rfl
theorem wm_X11_116 : Cond.methodLink RX11 116 yX7_readEvening ∈ xT := xT_in (xt3 203 rfl) rfl
theorem wm_X7_198 : Cond.methodLink RX7 198 yX7_readEveningLine ∈ xT := xT_in (xt3 207 rfl) rfl
theorem wm_X7_202 : Cond.methodLink RX7 202 yX7_deedAt ∈ xT := xT_in (xt3 210 rfl) rfl
theorem wm_X7_205 : Cond.methodLink RX7 205 yX7_readTalker ∈ xT := xT_in (xt3 223 rfl) rfl
theorem wm_X7_209 : Cond.methodLink RX7 209 yX1_add ∈ xT := xT_in (xt3 226 rfl) rfl
theorem wm_X1_25 : Cond.methodLink RX1 25 yX8_set ∈ xT := xT_in (xt3 230 rfl) rfl
theorem wm_L_35 : Cond.methodLink RL 35 yX11_scene ∈ xT := xT_in (xt3 231 rfl) rfl
theorem wm_X11_120 : Cond.methodLink RX11 120 yX2_hasScene ∈ xT := xT_in (xt3 235 rfl) rfl
theorem wm_X11_124 : Cond.methodLink RX11 124 yX2_saying ∈ xT := xT_in (xt3 239 rfl) rfl
theorem wm_X2_122 : Cond.methodLink RX2 122 yX3_isCut ∈ xT := xT_in (xt4 3 rfl) rfl
theorem wm_X2_125 : Cond.methodLink RX2 125 yX3_writing ∈ xT := xT_in (xt4 7 rfl) rfl
theorem wm_X3_40 : Cond.methodLink RX3 40 yX8_get ∈ xT := xT_in (xt4 11 rfl) rfl
theorem wm_X2_129 : Cond.methodLinkNest RX2 129 yX11_thingOf "FilmFoot" ∈ xN := List.mem_filter.mpr ⟨xt4 12 rfl, rfl⟩
theorem wm_X11_128 : Cond.methodLink RX11 128 yX11_thingOf ∈ xT := xT_in (xt4 15 rfl) rfl
theorem wm_X11_132 : Cond.methodLink RX11 132 yX11_isOf ∈ xT := xT_in (xt4 16 rfl) rfl
theorem wm_X11_135 : Cond.methodLink RX11 135 yX3_writing ∈ xT := xT_in (xt4 19 rfl) rfl
theorem wm_X11_138 : Cond.methodLink RX11 138 yX3_isCut ∈ xT := xT_in (xt4 20 rfl) rfl
theorem wm_L_40 : Cond.methodLink RL 40 yX11_watcher ∈ xT := xT_in (xt4 21 rfl) rfl
theorem wm_X11_144 : Cond.methodLink RX11 144 yX2_hasWatcher ∈ xT := xT_in (xt4 25 rfl) rfl
theorem wm_X11_150 : Cond.methodLink RX11 150 yX8_get ∈ xT := xT_in (xt4 29 rfl) rfl
theorem wm_X11_165 : Cond.methodLink RX11 165 yX3_isIn ∈ xT := xT_in (xt4 30 rfl) rfl
theorem wm_L_44 : Cond.methodLink RL 44 yX11_thinks ∈ xT := xT_in (xt4 34 rfl) rfl
theorem wm_X11_168 : Cond.methodLink RX11 168 yX2_hasView ∈ xT := xT_in (xt4 38 rfl) rfl
theorem wm_X2_82 : Cond.methodLink RX2 82 yX2_hasWatcher ∈ xT := xT_in (xt4 42 rfl) rfl
theorem wm_X2_86 : Cond.methodLink RX2 86 yX2_hasThing ∈ xT := xT_in (xt4 43 rfl) rfl
theorem wm_X11_172 : Cond.methodLink RX11 172 yX3_thought ∈ xT := xT_in (xt4 47 rfl) rfl
theorem wm_L_48 : Cond.methodLink RL 48 yX11_show ∈ xT := xT_in (xt4 51 rfl) rfl
theorem wm_X11_176 : Cond.methodLink RX11 176 yX3_copy ∈ xT := xT_in (xt4 55 rfl) rfl
theorem wm_X3_34 : Cond.methodLink RX3 34 yX8_copy ∈ xT := xT_in (xt4 59 rfl) rfl
theorem wm_X11_179 : Cond.methodLink RX11 179 yX2_screen ∈ xT := xT_in (xt4 60 rfl) rfl
theorem wm_X2_138 : Cond.methodLink RX2 138 yX2_saying ∈ xT := xT_in (xt4 64 rfl) rfl
theorem wm_X2_142 : Cond.methodLink RX2 142 yX3_isIn ∈ xT := xT_in (xt4 65 rfl) rfl
theorem wm_X2_145 : Cond.methodLink RX2 145 yX2_watch ∈ xT := xT_in (xt4 66 rfl) rfl
theorem wm_X2_149 : Cond.methodLink RX2 149 yX2_taken ∈ xT := xT_in (xt4 70 rfl) rfl
theorem wm_X2_152 : Cond.methodLink RX2 152 yX2_clash ∈ xT := xT_in (xt4 74 rfl) rfl
theorem wm_X2_155 : Cond.methodLink RX2 155 yX2_odd ∈ xT := xT_in (xt4 77 rfl) rfl
theorem wm_X2_132 : Cond.methodLink RX2 132 yX3_thought ∈ xT := xT_in (xt4 80 rfl) rfl
theorem wm_X2_135 : Cond.methodLinkNest RX2 135 yX11_isOf "FilmFoot" ∈ xN := List.mem_filter.mpr ⟨xt4 81 rfl, rfl⟩
theorem wm_X2_159 : Cond.methodLink RX2 159 yX3_think ∈ xT := xT_in (xt4 82 rfl) rfl
theorem wm_X3_44 : Cond.methodLink RX3 44 yX8_set ∈ xT := xT_in (xt4 86 rfl) rfl
theorem wm_X11_183 : Cond.methodLink RX11 183 yX11_keepPast ∈ xT := xT_in (xt4 87 rfl) rfl
theorem wm_X11_209 : Cond.methodLink RX11 209 yX6_keep ∈ xT := xT_in (xt4 91 rfl) rfl
theorem wm_X6_22 : Cond.methodLink RX6 22 yX3_copy ∈ xT := xT_in (xt4 95 rfl) rfl
theorem wm_X6_29 : Cond.methodLink RX6 29 yJ9_min_7cf53 ∈ xT := xT_in (xt4 96 rfl) rfl
theorem wm_L_52 : Cond.methodLink RL 52 yX11_write ∈ xT := xT_in (xt4 97 rfl) rfl
theorem wm_X11_187 : Cond.methodLink RX11 187 yX2_hasThing ∈ xT := xT_in (xt4 101 rfl) rfl
theorem wm_X11_190 : Cond.methodLink RX11 190 yX11_claim ∈ xT := xT_in (xt4 102 rfl) rfl
theorem wm_X11_194 : Cond.methodLink RX11 194 yX2_rewrite ∈ xT := xT_in (xt4 103 rfl) rfl
theorem wm_X2_167 : Cond.methodLink RX2 167 yX2_hasScene ∈ xT := xT_in (xt4 107 rfl) rfl
theorem wm_L_57 : Cond.methodLink RL 57 yX11_cut ∈ xT := xT_in (xt4 108 rfl) rfl
theorem wm_X11_198 : Cond.methodLink RX11 198 yX2_takeAway ∈ xT := xT_in (xt4 112 rfl) rfl
theorem wm_L_62 : Cond.methodLink RL 62 yX11_talk ∈ xT := xT_in (xt4 116 rfl) rfl
theorem wm_X11_202 : Cond.methodLink RX11 202 yX2_persuade ∈ xT := xT_in (xt4 120 rfl) rfl
theorem wm_X2_173 : Cond.methodLink RX2 173 yX2_persuasions ∈ xT := xT_in (xt4 124 rfl) rfl
theorem wm_X2_170 : Cond.methodLink RX2 170 yX2_persuades ∈ xT := xT_in (xt4 128 rfl) rfl
theorem wm_L_66 : Cond.methodLink RL 66 yX11_again ∈ xT := xT_in (xt4 132 rfl) rfl
theorem wm_X11_206 : Cond.methodLink RX11 206 yX2_reissue ∈ xT := xT_in (xt4 136 rfl) rfl
theorem wm_L_70 : Cond.methodLink RL 70 yX11_undo ∈ xT := xT_in (xt4 140 rfl) rfl
theorem wm_X11_212 : Cond.methodLink RX11 212 yX6_bringBack ∈ xT := xT_in (xt4 144 rfl) rfl
theorem wm_L_75 : Cond.methodLink RL 75 yX11_judged ∈ xT := xT_in (xt4 148 rfl) rfl
theorem wm_X11_216 : Cond.methodLink RX11 216 yX11_play ∈ xT := xT_in (xt4 152 rfl) rfl
theorem wm_X11_222 : Cond.methodLink RX11 222 yJ6_bitCount_0f7a4 ∈ xT := xT_in (xt4 156 rfl) rfl
theorem wm_L_80 : Cond.methodLink RL 80 yX11_end ∈ xT := xT_in (xt4 162 rfl) rfl
theorem wm_X11_236 : Cond.methodLink RX11 236 yX2_finish ∈ xT := xT_in (xt4 166 rfl) rfl
theorem wm_X2_163 : Cond.methodLink RX2 163 yX2_screen ∈ xT := xT_in (xt4 170 rfl) rfl
theorem wm_L_84 : Cond.methodLink RL 84 yX11_first ∈ xT := xT_in (xt4 171 rfl) rfl
theorem wm_X11_242 : Cond.methodLink RX11 242 yJ6_numberOfTrailingZeros_0f7a4 ∈ xT := xT_in (xt4 175 rfl) rfl
theorem wm_L_88 : Cond.methodLink RL 88 yX11_forge ∈ xT := xT_in (xt4 179 rfl) rfl
theorem wm_X11_245 : Cond.methodLink RX11 245 yX11_notShown ∈ xT := xT_in (xt4 183 rfl) rfl
theorem wm_X11_266 : Cond.methodLink RX11 266 yX2_allScenes ∈ xT := xT_in (xt4 187 rfl) rfl
theorem wm_X11_249 : Cond.methodLink RX11 249 yX11_isFewer ∈ xT := xT_in (xt4 191 rfl) rfl
theorem wm_X11_252 : Cond.methodLink RX11 252 yX11_finishWritten ∈ xT := xT_in (xt4 194 rfl) rfl
theorem wm_X11_259 : Cond.methodLink RX11 259 yX8_set ∈ xT := xT_in (xt4 198 rfl) rfl
theorem wm_L_93 : Cond.methodLink RL 93 yX11_spare ∈ xT := xT_in (xt4 199 rfl) rfl
theorem wm_X11_269 : Cond.methodLink RX11 269 yX11_cuttable ∈ xT := xT_in (xt4 203 rfl) rfl
theorem wm_X11_272 : Cond.methodLink RX11 272 yX11_finishCut ∈ xT := xT_in (xt4 207 rfl) rfl
theorem wm_L_97 : Cond.methodLink RL 97 yX11_takes ∈ xT := xT_in (xt4 211 rfl) rfl
theorem wm_X11_276 : Cond.methodLink RX11 276 yX2_taken ∈ xT := xT_in (xt4 215 rfl) rfl
theorem wm_L_101 : Cond.methodLink RL 101 yX11_blank ∈ xT := xT_in (xt4 216 rfl) rfl
theorem wm_L_105 : Cond.methodLink RL 105 yX11_mentions ∈ xT := xT_in (xt4 220 rfl) rfl
theorem wm_X11_283 : Cond.methodLink RX11 283 yX11_claimOf ∈ xT := xT_in (xt4 224 rfl) rfl
theorem wm_L_109 : Cond.methodLink RL 109 yX11_fooled ∈ xT := xT_in (xt4 228 rfl) rfl
theorem wm_X11_286 : Cond.methodLink RX11 286 yX11_last ∈ xT := xT_in (xt4 232 rfl) rfl
theorem wm_L_113 : Cond.methodLink RL 113 yX11_sway ∈ xT := xT_in (xt4 236 rfl) rfl
theorem wm_X11_292 : Cond.methodLink RX11 292 yX2_persuasions ∈ xT := xT_in (xt5 0 rfl) rfl
theorem wm_L_117 : Cond.methodLink RL 117 yX11_quarrels ∈ xT := xT_in (xt5 1 rfl) rfl
theorem wm_X11_295 : Cond.methodLink RX11 295 yX11_quarrel ∈ xT := xT_in (xt5 5 rfl) rfl
theorem wm_L_121 : Cond.methodLink RL 121 yX11_couples ∈ xT := xT_in (xt5 9 rfl) rfl
theorem wm_X11_298 : Cond.methodLink RX11 298 yX11_partner ∈ xT := xT_in (xt5 13 rfl) rfl
theorem wm_X11_301 : Cond.methodLink RX11 301 yX11_alike ∈ xT := xT_in (xt5 17 rfl) rfl
theorem wm_L_125 : Cond.methodLink RL 125 yX11_tell ∈ xT := xT_in (xt5 21 rfl) rfl
theorem wm_L_130 : Cond.methodLink RL 130 yX11_sets ∈ xT := xT_in (xt5 25 rfl) rfl
theorem wm_X11_304 : Cond.methodLink RX11 304 yX11_isAsTold ∈ xT := xT_in (xt5 29 rfl) rfl
theorem wm_X11_308 : Cond.methodLink RX11 308 yX11_isTold ∈ xT := xT_in (xt5 33 rfl) rfl
theorem wm_L_134 : Cond.methodLink RL 134 yX11_ask ∈ xT := xT_in (xt5 37 rfl) rfl
theorem wm_X11_311 : Cond.methodLink RX11 311 yX11_tallyEnd ∈ xT := xT_in (xt5 41 rfl) rfl
theorem wm_X11_314 : Cond.methodLink RX11 314 yX11_greatestTally ∈ xT := xT_in (xt5 45 rfl) rfl
theorem wm_X11_317 : Cond.methodLink RX11 317 yJ9_max_7cf53 ∈ xT := xT_in (xt5 49 rfl) rfl
theorem wm_L_138 : Cond.methodLink RL 138 yX11_clashes ∈ xT := xT_in (xt5 50 rfl) rfl
theorem wm_X11_322 : Cond.methodLink RX11 322 yX2_clash ∈ xT := xT_in (xt5 54 rfl) rfl
theorem wm_L_142 : Cond.methodLink RL 142 yX11_wavers ∈ xT := xT_in (xt5 55 rfl) rfl
theorem wm_X11_325 : Cond.methodLink RX11 325 yX2_odd ∈ xT := xT_in (xt5 59 rfl) rfl
theorem wm_L_146 : Cond.methodLink RL 146 yX11_lone ∈ xT := xT_in (xt5 60 rfl) rfl
theorem wm_X11_328 : Cond.methodLink RX11 328 yX11_thinkers ∈ xT := xT_in (xt5 64 rfl) rfl
theorem wm_L_150 : Cond.methodLink RL 150 yX11_moves ∈ xT := xT_in (xt5 68 rfl) rfl
theorem wm_L_154 : Cond.methodLink RL 154 yX11_agree ∈ xT := xT_in (xt5 72 rfl) rfl
theorem wm_X11_331 : Cond.methodLink RX11 331 yX11_talkRound ∈ xT := xT_in (xt5 76 rfl) rfl
theorem wm_X11_334 : Cond.methodLink RX11 334 yX11_nextIn ∈ xT := xT_in (xt5 80 rfl) rfl
theorem wm_L_158 : Cond.methodLink RL 158 yX11_chance ∈ xT := xT_in (xt5 84 rfl) rfl
theorem wm_X11_337 : Cond.methodLink RX11 337 yX11_weight ∈ xT := xT_in (xt5 88 rfl) rfl
theorem wm_L_163 : Cond.methodLink RL 163 yX11_who ∈ xT := xT_in (xt5 92 rfl) rfl
theorem wm_L_176 : Cond.methodLink RL 176 yX11_years ∈ xT := xT_in (xt5 96 rfl) rfl
theorem wm_X11_360 : Cond.methodLink RX11 360 yX11_passYear ∈ xT := xT_in (xt5 100 rfl) rfl
theorem wm_X11_369 : Cond.methodLink RX11 369 yX0_below ∈ xT := xT_in (xt5 104 rfl) rfl
theorem wm_X11_363 : Cond.methodLink RX11 363 yX11_doubtOfAll ∈ xT := xT_in (xt5 112 rfl) rfl
theorem wm_X11_366 : Cond.methodLink RX11 366 yX11_yesOfAll ∈ xT := xT_in (xt5 116 rfl) rfl
theorem wm_L_180 : Cond.methodLink RL 180 yX11_mark ∈ xT := xT_in (xt5 120 rfl) rfl
theorem wm_X11_372 : Cond.methodLink RX11 372 yX5_lay ∈ xT := xT_in (xt5 124 rfl) rfl
theorem wm_X5_26 : Cond.methodLink RX5 26 yX3_copy ∈ xT := xT_in (xt5 128 rfl) rfl
theorem wm_X5_30 : Cond.methodLink RX5 30 yX8_copy ∈ xT := xT_in (xt5 129 rfl) rfl
theorem wm_X11_376 : Cond.methodLink RX11 376 yX5_bringBack ∈ xT := xT_in (xt5 130 rfl) rfl
theorem wm_L_185 : Cond.methodLink RL 185 yX11_count ∈ xT := xT_in (xt5 134 rfl) rfl
theorem wm_X11_384 : Cond.methodLink RX11 384 yX11_toldCount ∈ xT := xT_in (xt5 138 rfl) rfl
theorem wm_L_167 : Cond.methodLink RL 167 yL_rests ∈ xT := xT_in (xt5 142 rfl) rfl
theorem wm_L_7 : Cond.methodLink RL 7 yX11_rests ∈ xT := xT_in (xt5 146 rfl) rfl
theorem wm_X11_343 : Cond.methodLink RX11 343 yX11_isDigit ∈ xT := xT_in (xt5 150 rfl) rfl
theorem wm_X11_349 : Cond.methodLink RX11 349 yX11_rest ∈ xT := xT_in (xt5 214 rfl) rfl
theorem wm_X11_353 : Cond.methodLink RX11 353 yX11_gain ∈ xT := xT_in (xt5 217 rfl) rfl
theorem wm_L_173 : Cond.methodLink RL 173 yX12_thrown ∈ xT := xT_in (xt5 220 rfl) rfl
theorem wm_L_25 : Cond.methodLink RL 25 yX12_feed ∈ xT := xT_in (xt5 224 rfl) rfl
theorem wm_X12_7 : Cond.methodLink RX12 7 yX12_lay ∈ xT := xT_in (xt5 228 rfl) rfl
theorem wm_L_18 : Cond.methodLink RL 18 yX12_init ∈ xT := xT_in (xt5 234 rfl) rfl
theorem wo_X12_18 : Cond.methodLink RX12 18 objectInit ∈ xT := xT_in (xt5 237 rfl) rfl
theorem wm_X12_132 : Cond.methodLink RX12 132 yX12_standsAsAlways ∈ xT := xT_in (xt6 24 rfl) rfl
theorem wm_X12_136 : Cond.methodLink RX12 136 yX12_begins ∈ xT := xT_in (xt6 28 rfl) rfl
theorem wm_X12_288 : Cond.methodLink RX12 288 yX12_starts ∈ xT := xT_in (xt6 32 rfl) rfl
theorem wm_X12_282 : Cond.methodLink RX12 282 yX12_watchers ∈ xT := xT_in (xt6 36 rfl) rfl
theorem wm_X12_285 : Cond.methodLink RX12 285 yX12_scenes ∈ xT := xT_in (xt6 40 rfl) rfl
theorem wm_L_30 : Cond.methodLink RL 30 yX12_film ∈ xT := xT_in (xt6 136 rfl) rfl
theorem wm_X12_215 : Cond.methodLink RX12 215 yX12_cutAll ∈ xT := xT_in (xt6 140 rfl) rfl
theorem wm_X12_139 : Cond.methodLink RX12 139 yX12_isLetter ∈ xT := xT_in (xt6 144 rfl) rfl
theorem wm_X12_148 : Cond.methodLink RX12 148 yX12_rank ∈ xT := xT_in (xt6 148 rfl) rfl
theorem wm_X12_152 : Cond.methodLink RX12 152 yX12_isDigit ∈ xT := xT_in (xt6 151 rfl) rfl
theorem wm_X12_159 : Cond.methodLink RX12 159 yX12_isSignOf ∈ xT := xT_in (xt6 156 rfl) rfl
theorem wm_X12_224 : Cond.methodLink RX12 224 yX12_readLine ∈ xT := xT_in (xt6 159 rfl) rfl
theorem wm_X12_174 : Cond.methodLink RX12 174 yX12_isWord ∈ xT := xT_in (xt6 163 rfl) rfl
theorem wm_X12_230 : Cond.methodLink RX12 230 yX12_readName ∈ xT := xT_in (xt6 167 rfl) rfl
theorem wm_X12_171 : Cond.methodLink RX12 171 yX12_wrong ∈ xT := xT_in (xt6 171 rfl) rfl
theorem wm_X12_199 : Cond.methodLink RX12 199 yX12_isName ∈ xT := xT_in (xt6 175 rfl) rfl
theorem wm_X12_187 : Cond.methodLink RX12 187 yX12_wordHere ∈ xT := xT_in (xt6 179 rfl) rfl
theorem wm_X12_203 : Cond.methodLink RX12 203 yX12_nameAt ∈ xT := xT_in (xt6 183 rfl) rfl
theorem wm_X12_234 : Cond.methodLink RX12 234 yX12_readScene ∈ xT := xT_in (xt6 187 rfl) rfl
theorem wm_X12_243 : Cond.methodLink RX12 243 yX12_takeTold ∈ xT := xT_in (xt6 191 rfl) rfl
theorem wm_X12_211 : Cond.methodLink RX12 211 yX12_toldHere ∈ xT := xT_in (xt6 195 rfl) rfl
theorem wm_X12_207 : Cond.methodLink RX12 207 yX12_within ∈ xT := xT_in (xt6 199 rfl) rfl
theorem wm_X12_246 : Cond.methodLink RX12 246 yX12_takeIs ∈ xT := xT_in (xt6 202 rfl) rfl
theorem wm_X12_190 : Cond.methodLink RX12 190 yX12_takeOne ∈ xT := xT_in (xt6 206 rfl) rfl
theorem wm_X12_180 : Cond.methodLink RX12 180 yX12_takeWord ∈ xT := xT_in (xt6 210 rfl) rfl
theorem wm_X12_177 : Cond.methodLink RX12 177 yX12_hasWord ∈ xT := xT_in (xt6 214 rfl) rfl
theorem wm_X12_237 : Cond.methodLink RX12 237 yX12_readWatcher ∈ xT := xT_in (xt6 218 rfl) rfl
theorem wm_X12_250 : Cond.methodLink RX12 250 yX12_takeAfter ∈ xT := xT_in (xt6 222 rfl) rfl
theorem wm_X12_183 : Cond.methodLink RX12 183 yX12_takeNumber ∈ xT := xT_in (xt6 226 rfl) rfl
theorem wm_X12_240 : Cond.methodLink RX12 240 yX12_readOnce ∈ xT := xT_in (xt6 230 rfl) rfl
theorem wm_X12_254 : Cond.methodLink RX12 254 yX12_whole ∈ xT := xT_in (xt6 234 rfl) rfl
theorem wm_X12_264 : Cond.methodLink RX12 264 yX12_test ∈ xT := xT_in (xt6 238 rfl) rfl
theorem wm_X12_267 : Cond.methodLink RX12 267 yX12_sums ∈ xT := xT_in (xt7 2 rfl) rfl
theorem wm_X12_273 : Cond.methodLink RX12 273 yX12_products ∈ xT := xT_in (xt7 6 rfl) rfl
theorem wm_X12_276 : Cond.methodLink RX12 276 yX12_takePart ∈ xT := xT_in (xt7 10 rfl) rfl
theorem wm_X12_168 : Cond.methodLink RX12 168 yX12_isSign ∈ xT := xT_in (xt7 14 rfl) rfl
theorem wm_X12_257 : Cond.methodLink RX12 257 yX12_emit ∈ xT := xT_in (xt7 18 rfl) rfl
theorem wm_X12_270 : Cond.methodLink RX12 270 yX12_hasSign ∈ xT := xT_in (xt7 22 rfl) rfl
theorem wm_X12_227 : Cond.methodLink RX12 227 yX12_takeSign ∈ xT := xT_in (xt7 26 rfl) rfl
theorem wm_L_34 : Cond.methodLink RL 34 yX12_evening ∈ xT := xT_in (xt7 30 rfl) rfl
theorem wm_X12_261 : Cond.methodLink RX12 261 yX12_readEvening ∈ xT := xT_in (xt7 34 rfl) rfl
theorem wm_L_39 : Cond.methodLink RL 39 yX12_scene ∈ xT := xT_in (xt7 38 rfl) rfl
theorem wm_X12_341 : Cond.methodLink RX12 341 yX12_isScene ∈ xT := xT_in (xt7 42 rfl) rfl
theorem wm_X12_304 : Cond.methodLink RX12 304 yX12_saidThing ∈ xT := xT_in (xt7 46 rfl) rfl
theorem wm_X12_300 : Cond.methodLink RX12 300 yX12_isCut ∈ xT := xT_in (xt7 50 rfl) rfl
theorem wm_X12_307 : Cond.methodLink RX12 307 yX12_saidIs ∈ xT := xT_in (xt7 54 rfl) rfl
theorem wm_L_43 : Cond.methodLink RL 43 yX12_watcher ∈ xT := xT_in (xt7 58 rfl) rfl
theorem wm_X12_344 : Cond.methodLink RX12 344 yX12_isWatcher ∈ xT := xT_in (xt7 62 rfl) rfl
theorem wm_X12_310 : Cond.methodLink RX12 310 yX12_watcherOf ∈ xT := xT_in (xt7 66 rfl) rfl
theorem wm_X12_319 : Cond.methodLink RX12 319 yX12_isIn ∈ xT := xT_in (xt7 70 rfl) rfl
theorem wm_L_47 : Cond.methodLink RL 47 yX12_thinks ∈ xT := xT_in (xt7 74 rfl) rfl
theorem wm_X12_347 : Cond.methodLink RX12 347 yX12_isThing ∈ xT := xT_in (xt7 78 rfl) rfl
theorem wm_X12_297 : Cond.methodLink RX12 297 yX12_things ∈ xT := xT_in (xt7 82 rfl) rfl
theorem wm_X12_325 : Cond.methodLink RX12 325 yX12_thoughtOf ∈ xT := xT_in (xt7 86 rfl) rfl
theorem wm_L_100 : Cond.methodLink RL 100 yX12_takes ∈ xT := xT_in (xt7 90 rfl) rfl
theorem wm_X12_313 : Cond.methodLink RX12 313 yX12_doesRead ∈ xT := xT_in (xt7 94 rfl) rfl
theorem wm_X12_322 : Cond.methodLink RX12 322 yX12_doesTake ∈ xT := xT_in (xt7 98 rfl) rfl
theorem wm_L_104 : Cond.methodLink RL 104 yX12_blank ∈ xT := xT_in (xt7 102 rfl) rfl
theorem wm_L_51 : Cond.methodLink RL 51 yX12_show ∈ xT := xT_in (xt7 106 rfl) rfl
theorem wm_X12_350 : Cond.methodLink RX12 350 yX12_keeps ∈ xT := xT_in (xt7 110 rfl) rfl
theorem wm_X12_294 : Cond.methodLink RX12 294 yX12_copies ∈ xT := xT_in (xt7 114 rfl) rfl
theorem wm_X12_338 : Cond.methodLink RX12 338 yX12_shows ∈ xT := xT_in (xt7 118 rfl) rfl
theorem wm_X12_316 : Cond.methodLink RX12 316 yX12_doesClash ∈ xT := xT_in (xt7 122 rfl) rfl
theorem wm_X12_328 : Cond.methodLink RX12 328 yX12_doubtBy ∈ xT := xT_in (xt7 126 rfl) rfl
theorem wm_X12_332 : Cond.methodLink RX12 332 yX12_worthAt ∈ xT := xT_in (xt7 130 rfl) rfl
theorem wm_X12_279 : Cond.methodLink RX12 279 yX12_both ∈ xT := xT_in (xt7 134 rfl) rfl
theorem wm_L_56 : Cond.methodLink RL 56 yX12_write ∈ xT := xT_in (xt7 137 rfl) rfl
theorem wm_X12_353 : Cond.methodLink RX12 353 yX12_isToCome ∈ xT := xT_in (xt7 141 rfl) rfl
theorem wm_X12_356 : Cond.methodLink RX12 356 yX12_writes ∈ xT := xT_in (xt7 145 rfl) rfl
theorem wm_L_61 : Cond.methodLink RL 61 yX12_cut ∈ xT := xT_in (xt7 149 rfl) rfl
theorem wm_L_65 : Cond.methodLink RL 65 yX12_talk ∈ xT := xT_in (xt7 153 rfl) rfl
theorem wm_X12_360 : Cond.methodLink RX12 360 yX12_talks ∈ xT := xT_in (xt7 157 rfl) rfl
theorem wm_L_69 : Cond.methodLink RL 69 yX12_again ∈ xT := xT_in (xt7 161 rfl) rfl
theorem wm_X12_363 : Cond.methodLink RX12 363 yX12_begunAgain ∈ xT := xT_in (xt7 165 rfl) rfl
theorem wm_L_74 : Cond.methodLink RL 74 yX12_undo ∈ xT := xT_in (xt7 169 rfl) rfl
theorem wm_L_79 : Cond.methodLink RL 79 yX12_judged ∈ xT := xT_in (xt7 173 rfl) rfl
theorem wm_X12_366 : Cond.methodLink RX12 366 yX12_may ∈ xT := xT_in (xt7 177 rfl) rfl
theorem wm_X12_369 : Cond.methodLink RX12 369 yX12_bits ∈ xT := xT_in (xt7 181 rfl) rfl
theorem wm_L_83 : Cond.methodLink RL 83 yX12_end ∈ xT := xT_in (xt7 184 rfl) rfl
theorem wm_X12_372 : Cond.methodLink RX12 372 yX12_ends ∈ xT := xT_in (xt7 188 rfl) rfl
theorem wm_X12_335 : Cond.methodLink RX12 335 yX12_clearWavers ∈ xT := xT_in (xt7 192 rfl) rfl
theorem wm_L_87 : Cond.methodLink RL 87 yX12_first ∈ xT := xT_in (xt7 196 rfl) rfl
theorem wm_L_145 : Cond.methodLink RL 145 yX12_wavers ∈ xT := xT_in (xt7 200 rfl) rfl
theorem wm_L_92 : Cond.methodLink RL 92 yX12_forge ∈ xT := xT_in (xt7 204 rfl) rfl
theorem wm_X12_375 : Cond.methodLink RX12 375 yX12_toCome ∈ xT := xT_in (xt7 208 rfl) rfl
theorem wm_L_96 : Cond.methodLink RL 96 yX12_spare ∈ xT := xT_in (xt7 212 rfl) rfl
theorem wm_X12_378 : Cond.methodLink RX12 378 yX12_endsCut ∈ xT := xT_in (xt7 216 rfl) rfl
theorem wm_L_108 : Cond.methodLink RL 108 yX12_mentions ∈ xT := xT_in (xt7 220 rfl) rfl
theorem wm_L_112 : Cond.methodLink RL 112 yX12_fooled ∈ xT := xT_in (xt7 224 rfl) rfl
theorem wm_X12_381 : Cond.methodLink RX12 381 yX12_lastSaid ∈ xT := xT_in (xt7 228 rfl) rfl
theorem wm_L_153 : Cond.methodLink RL 153 yX12_moves ∈ xT := xT_in (xt7 232 rfl) rfl
theorem wm_X12_384 : Cond.methodLink RX12 384 yX12_lastWritten ∈ xT := xT_in (xt7 236 rfl) rfl
theorem wm_L_116 : Cond.methodLink RL 116 yX12_sway ∈ xT := xT_in (xt8 0 rfl) rfl
theorem wm_L_120 : Cond.methodLink RL 120 yX12_quarrels ∈ xT := xT_in (xt8 4 rfl) rfl
theorem wm_L_124 : Cond.methodLink RL 124 yX12_couples ∈ xT := xT_in (xt8 8 rfl) rfl
theorem wm_X12_387 : Cond.methodLink RX12 387 yX12_areAlike ∈ xT := xT_in (xt8 12 rfl) rfl
theorem wm_L_149 : Cond.methodLink RL 149 yX12_lone ∈ xT := xT_in (xt8 16 rfl) rfl
theorem wm_L_166 : Cond.methodLink RL 166 yX12_who ∈ xT := xT_in (xt8 20 rfl) rfl
theorem wm_L_141 : Cond.methodLink RL 141 yX12_clashes ∈ xT := xT_in (xt8 24 rfl) rfl
theorem wm_L_157 : Cond.methodLink RL 157 yX12_agree ∈ xT := xT_in (xt8 28 rfl) rfl
theorem wm_X12_390 : Cond.methodLink RX12 390 yX12_nextIn ∈ xT := xT_in (xt8 32 rfl) rfl
theorem wm_L_129 : Cond.methodLink RL 129 yX12_tell ∈ xT := xT_in (xt8 36 rfl) rfl
theorem wm_L_133 : Cond.methodLink RL 133 yX12_sets ∈ xT := xT_in (xt8 40 rfl) rfl
theorem wm_X12_393 : Cond.methodLink RX12 393 yX12_isTold ∈ xT := xT_in (xt8 44 rfl) rfl
theorem wm_L_137 : Cond.methodLink RL 137 yX12_ask ∈ xT := xT_in (xt8 48 rfl) rfl
theorem wm_L_162 : Cond.methodLink RL 162 yX12_chance ∈ xT := xT_in (xt8 52 rfl) rfl
theorem wm_L_172 : Cond.methodLink RL 172 yX12_rests ∈ xT := xT_in (xt8 57 rfl) rfl
theorem wm_X12_398 : Cond.methodLink RX12 398 yX12_getsBy ∈ xT := xT_in (xt8 61 rfl) rfl
theorem wm_L_179 : Cond.methodLink RL 179 yX12_years ∈ xT := xT_in (xt8 64 rfl) rfl
theorem wm_X12_417 : Cond.methodLink RX12 417 yX12_drawsTalk ∈ xT := xT_in (xt8 68 rfl) rfl
theorem wm_X12_414 : Cond.methodLink RX12 414 yX12_draw ∈ xT := xT_in (xt8 72 rfl) rfl
theorem wm_X12_420 : Cond.methodLink RX12 420 yX12_drawsWriting ∈ xT := xT_in (xt8 80 rfl) rfl
theorem wm_X12_423 : Cond.methodLink RX12 423 yX12_doubtsOf ∈ xT := xT_in (xt8 84 rfl) rfl
theorem wm_L_184 : Cond.methodLink RL 184 yX12_mark ∈ xT := xT_in (xt8 88 rfl) rfl
theorem wm_L_188 : Cond.methodLink RL 188 yX12_count ∈ xT := xT_in (xt8 92 rfl) rfl
theorem wm_X12_426 : Cond.methodLink RX12 426 yX12_toldMany ∈ xT := xT_in (xt8 96 rfl) rfl
theorem wz_X11 : Cond.initialized RX11 ∈ xT := xT_in (xt1 1 rfl) rfl
theorem wz_X9 : Cond.initialized RX9 ∈ xT := xT_in (xt1 2 rfl) rfl
theorem wz_X7 : Cond.initialized RX7 ∈ xT := xT_in (xt1 3 rfl) rfl
theorem wz_X4 : Cond.initialized RX4 ∈ xT := xT_in (xt1 4 rfl) rfl
theorem wz_X2 : Cond.initialized RX2 ∈ xT := xT_in (xt1 5 rfl) rfl
theorem wz_X1 : Cond.initialized RX1 ∈ xT := xT_in (xt1 6 rfl) rfl
theorem wz_X3 : Cond.initialized RX3 ∈ xT := xT_in (xt1 7 rfl) rfl
theorem wz_X6 : Cond.initialized RX6 ∈ xT := xT_in (xt1 8 rfl) rfl
theorem wz_X0 : Cond.initialized RX0 ∈ xT := xT_in (xt1 9 rfl) rfl
theorem wz_X5 : Cond.initialized RX5 ∈ xT := xT_in (xt1 10 rfl) rfl
theorem wz_X12 : Cond.initialized RX12 ∈ xT := xT_in (xt1 15 rfl) rfl
theorem wc_L_8 : Cond.classLink RL 8 RX11 ∈ xT := xT_in (xt1 28 rfl) rfl
theorem wi_X11 : Cond.instantiable RX11 13 ∈ xT := xT_in (xt1 29 rfl) rfl
theorem wc_X11_9 : Cond.classLink RX11 9 RX9 ∈ xT := xT_in (xt1 36 rfl) rfl
theorem wi_X9 : Cond.instantiable RX9 9 ∈ xT := xT_in (xt1 37 rfl) rfl
theorem wa_char : Cond.arrayClass .char ∈ xT := xT_in (xt1 76 rfl) rfl
theorem wc_X11_16 : Cond.classLink RX11 16 RX7 ∈ xT := xT_in (xt1 77 rfl) rfl
theorem wi_X7 : Cond.instantiable RX7 3 ∈ xT := xT_in (xt1 78 rfl) rfl
theorem wc_X7_9 : Cond.classLink RX7 9 RX4 ∈ xT := xT_in (xt1 83 rfl) rfl
theorem wi_X4 : Cond.instantiable RX4 3 ∈ xT := xT_in (xt1 84 rfl) rfl
theorem wa_int : Cond.arrayClass .int ∈ xT := xT_in (xt1 100 rfl) rfl
theorem wc_X11_23 : Cond.classLink RX11 23 RX2 ∈ xT := xT_in (xt1 111 rfl) rfl
theorem wi_X2 : Cond.instantiable RX2 12 ∈ xT := xT_in (xt1 112 rfl) rfl
theorem wa_long : Cond.arrayClass .long ∈ xT := xT_in (xt1 165 rfl) rfl
theorem wc_X11_33 : Cond.classLink RX11 33 RX1 ∈ xT := xT_in (xt1 166 rfl) rfl
theorem wi_X1 : Cond.instantiable RX1 4 ∈ xT := xT_in (xt1 167 rfl) rfl
theorem wc_X11_43 : Cond.classLink RX11 43 RX3 ∈ xT := xT_in (xt1 190 rfl) rfl
theorem wi_X3 : Cond.instantiable RX3 7 ∈ xT := xT_in (xt1 191 rfl) rfl
theorem wc_X11_53 : Cond.classLink RX11 53 RX6 ∈ xT := xT_in (xt1 231 rfl) rfl
theorem wi_X6 : Cond.instantiable RX6 3 ∈ xT := xT_in (xt1 232 rfl) rfl
theorem wc_X6_9 : Cond.classLink RX6 9 RX3 ∈ xT := xT_in (xt1 237 rfl) rfl
theorem wv_Hall : Cond.arrayOver (.object "FilmFoot$Hall") ∈ xN := List.mem_filter.mpr ⟨xt1 238 rfl, rfl⟩
theorem wc_X11_60 : Cond.classLink RX11 60 RX5 ∈ xT := xT_in (xt2 11 rfl) rfl
theorem wv_Mark : Cond.arrayOver (.object "FilmFoot$Mark") ∈ xN := List.mem_filter.mpr ⟨xt2 12 rfl, rfl⟩
theorem wc_X11_73 : Cond.classLink RX11 73 RX0 ∈ xT := xT_in (xt2 13 rfl) rfl
theorem wi_X0 : Cond.instantiable RX0 1 ∈ xT := xT_in (xt2 14 rfl) rfl
theorem wi_X5 : Cond.instantiable RX5 3 ∈ xT := xT_in (xt2 24 rfl) rfl
theorem wc_X5_9 : Cond.classLink RX5 9 RX3 ∈ xT := xT_in (xt2 29 rfl) rfl
theorem wl_X9_15 : Cond.constantLong RX9 15 (255) ∈ xT := xT_in (xt2 106 rfl) rfl
theorem wl_X9_82 : Cond.constantLong RX9 82 (32) ∈ xT := xT_in (xt2 141 rfl) rfl
theorem wl_X9_84 : Cond.constantLong RX9 84 (97) ∈ xT := xT_in (xt2 142 rfl) rfl
theorem wa_byte : Cond.arrayClass .byte ∈ xT := xT_in (xt3 198 rfl) rfl
theorem wl_J6_265 : Cond.constant RJ6 265 (1431655765) ∈ xT := xT_in (xt4 159 rfl) rfl
theorem wl_J6_266 : Cond.constant RJ6 266 (858993459) ∈ xT := xT_in (xt4 160 rfl) rfl
theorem wl_J6_267 : Cond.constant RJ6 267 (252645135) ∈ xT := xT_in (xt4 161 rfl) rfl
theorem wl_J6_264 : Cond.constant RJ6 264 (65536) ∈ xT := xT_in (xt4 178 rfl) rfl
theorem wl_X11_341 : Cond.constantLong RX11 341 (1000000) ∈ xT := xT_in (xt5 91 rfl) rfl
theorem wl_X0_13 : Cond.constantLong RX0 13 (1103515245) ∈ xT := xT_in (xt5 108 rfl) rfl
theorem wl_X0_15 : Cond.constantLong RX0 15 (12345) ∈ xT := xT_in (xt5 109 rfl) rfl
theorem wl_X0_17 : Cond.constantLong RX0 17 (2147483648) ∈ xT := xT_in (xt5 110 rfl) rfl
theorem wl_X0_19 : Cond.constantLong RX0 19 (65536) ∈ xT := xT_in (xt5 111 rfl) rfl
theorem wi_X12 : Cond.instantiable RX12 30 ∈ xT := xT_in (xt5 231 rfl) rfl
theorem wc_L_16 : Cond.classLink RL 16 RX12 ∈ xT := xT_in (xt5 233 rfl) rfl
theorem wl_X12_34 : Cond.constantLong RX12 34 (37901290) ∈ xT := xT_in (xt5 238 rfl) rfl
theorem wl_X12_36 : Cond.constantLong RX12 36 (35768386) ∈ xT := xT_in (xt5 239 rfl) rfl
theorem wl_X12_38 : Cond.constantLong RX12 38 (34429) ∈ xT := xT_in (xt6 0 rfl) rfl
theorem wl_X12_40 : Cond.constantLong RX12 40 (533) ∈ xT := xT_in (xt6 1 rfl) rfl
theorem wl_X12_42 : Cond.constantLong RX12 42 (40072202) ∈ xT := xT_in (xt6 2 rfl) rfl
theorem wl_X12_44 : Cond.constantLong RX12 44 (59118697698) ∈ xT := xT_in (xt6 3 rfl) rfl
theorem wl_X12_46 : Cond.constantLong RX12 46 (38424446) ∈ xT := xT_in (xt6 4 rfl) rfl
theorem wl_X12_48 : Cond.constantLong RX12 48 (43173210) ∈ xT := xT_in (xt6 5 rfl) rfl
theorem wl_X12_50 : Cond.constantLong RX12 50 (989842) ∈ xT := xT_in (xt6 6 rfl) rfl
theorem wl_X12_52 : Cond.constantLong RX12 52 (306555453) ∈ xT := xT_in (xt6 7 rfl) rfl
theorem wl_X12_54 : Cond.constantLong RX12 54 (973937) ∈ xT := xT_in (xt6 8 rfl) rfl
theorem wl_X12_56 : Cond.constantLong RX12 56 (44030523) ∈ xT := xT_in (xt6 9 rfl) rfl
theorem wl_X12_58 : Cond.constantLong RX12 58 (4904) ∈ xT := xT_in (xt6 10 rfl) rfl
theorem wl_X12_60 : Cond.constantLong RX12 60 (1014884) ∈ xT := xT_in (xt6 11 rfl) rfl
theorem wl_X12_62 : Cond.constantLong RX12 62 (2230448) ∈ xT := xT_in (xt6 12 rfl) rfl
theorem wl_X12_64 : Cond.constantLong RX12 64 (6900) ∈ xT := xT_in (xt6 13 rfl) rfl
theorem wl_X12_66 : Cond.constantLong RX12 66 (7775) ∈ xT := xT_in (xt6 14 rfl) rfl
theorem wl_X12_68 : Cond.constantLong RX12 68 (122589) ∈ xT := xT_in (xt6 15 rfl) rfl
theorem wl_X12_70 : Cond.constantLong RX12 70 (6040476) ∈ xT := xT_in (xt6 16 rfl) rfl
theorem wl_X12_72 : Cond.constantLong RX12 72 (19741) ∈ xT := xT_in (xt6 17 rfl) rfl
theorem wl_X12_74 : Cond.constantLong RX12 74 (1891) ∈ xT := xT_in (xt6 18 rfl) rfl
theorem wl_X12_76 : Cond.constantLong RX12 76 (573) ∈ xT := xT_in (xt6 19 rfl) rfl
theorem wl_X12_78 : Cond.constantLong RX12 78 (6232399) ∈ xT := xT_in (xt6 20 rfl) rfl
theorem wl_X12_80 : Cond.constantLong RX12 80 (148679067) ∈ xT := xT_in (xt6 21 rfl) rfl
theorem wl_X12_82 : Cond.constantLong RX12 82 (20687) ∈ xT := xT_in (xt6 22 rfl) rfl
theorem wl_X12_84 : Cond.constantLong RX12 84 (969451) ∈ xT := xT_in (xt6 23 rfl) rfl
theorem wa_boolean : Cond.arrayClass .boolean ∈ xT := xT_in (xt6 135 rfl) rfl
theorem wl_X12_146 : Cond.constantLong RX12 146 (37) ∈ xT := xT_in (xt6 147 rfl) rfl
theorem wl_X12_155 : Cond.constantLong RX12 155 (10) ∈ xT := xT_in (xt6 154 rfl) rfl
theorem wl_X12_157 : Cond.constantLong RX12 157 (48) ∈ xT := xT_in (xt6 155 rfl) rfl
theorem wl_X12_396 : Cond.constantLong RX12 396 (1000000) ∈ xT := xT_in (xt8 56 rfl) rfl
theorem wl_X12_406 : Cond.constantLong RX12 406 (1103515245) ∈ xT := xT_in (xt8 76 rfl) rfl
theorem wl_X12_408 : Cond.constantLong RX12 408 (12345) ∈ xT := xT_in (xt8 77 rfl) rfl
theorem wl_X12_410 : Cond.constantLong RX12 410 (2147483648) ∈ xT := xT_in (xt8 78 rfl) rfl
theorem wl_X12_412 : Cond.constantLong RX12 412 (65536) ∈ xT := xT_in (xt8 79 rfl) rfl
theorem wl_L_19 : Cond.constantLong RL 19 (4294967295) ∈ xT := xT_in (xt8 100 rfl) rfl
theorem woI : Cond.instanceMethod objectInit ∈ xT := xT_in (xt1 34 rfl) rfl
theorem woC : Cond.code objectInit ⟨#[0xb1]⟩ 1 none ∈ xT := xT_in (xt1 35 rfl) rfl
