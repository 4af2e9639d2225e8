/-! the law's own words -/
theorem lk_cLA : (Jvm.Cond.classLink "LoanArrowsLaw" (8 : Nat) "LoanArrows") ∈ mm_ws := List.mem_filter.mpr ⟨List.mem_append_right _ (List.mem_append_left _ (List.mem_of_getElem? (l := tables_1_1) (i := 17) rfl)), rfl⟩
theorem lk_iLA : (Jvm.Cond.instantiable "LoanArrows" (6 : Nat)) ∈ mm_ws := List.mem_filter.mpr ⟨List.mem_append_right _ (List.mem_append_left _ (List.mem_of_getElem? (l := tables_1_1) (i := 18) rfl)), rfl⟩
theorem lk_mcell : (Jvm.Cond.methodLink "LoanArrowsLaw" (76 : Nat) ({ cls := "LoanArrowsLaw", name := "cell", desc := "([II)I" } : Jvm.MethodName)) ∈ mm_ws := List.mem_filter.mpr ⟨List.mem_append_right _ (List.mem_append_left _ (List.mem_of_getElem? (l := tables_1_1) (i := 191) rfl)), rfl⟩
theorem lk_scell : (Jvm.Cond.static ({ cls := "LoanArrowsLaw", name := "cell", desc := "([II)I" } : Jvm.MethodName)) ∈ mm_ws := List.mem_filter.mpr ⟨List.mem_append_right _ (List.mem_append_left _ (List.mem_of_getElem? (l := tables_1_1) (i := 192) rfl)), rfl⟩
theorem lk_mLA : (Jvm.Cond.methodLink "LoanArrowsLaw" (82 : Nat) ({ cls := "LoanArrows", name := "<init>", desc := "(II)V" } : Jvm.MethodName)) ∈ mm_ws := List.mem_filter.mpr ⟨List.mem_append_right _ (List.mem_append_left _ (List.mem_of_getElem? (l := tables_1_1) (i := 19) rfl)), rfl⟩
theorem lk_nLA : (Jvm.Cond.instanceMethod ({ cls := "LoanArrows", name := "<init>", desc := "(II)V" } : Jvm.MethodName)) ∈ mm_ws := List.mem_filter.mpr ⟨List.mem_append_right _ (List.mem_append_left _ (List.mem_of_getElem? (l := tables_1_1) (i := 20) rfl)), rfl⟩
theorem lk_kLA : (Jvm.Cond.code ({ cls := "LoanArrows", name := "<init>", desc := "(II)V" } : Jvm.MethodName) prog_1_method_1_code (4 : Nat) (Option.none : Option Jvm.ClassFile.FieldType)) ∈ mm_ws := List.mem_filter.mpr ⟨List.mem_append_right _ (List.mem_append_left _ (List.mem_of_getElem? (l := tables_1_1) (i := 21) rfl)), rfl⟩
theorem lk_cMo : (Jvm.Cond.classLink "LoanArrowsLaw" (84 : Nat) "LoanArrowsModel") ∈ mm_ws := List.mem_filter.mpr ⟨List.mem_append_right _ (List.mem_append_right _ (List.mem_append_right _ (List.mem_append_left _ (List.mem_of_getElem? (l := tables_1_3) (i := 126) rfl)))), rfl⟩
theorem lk_iMo : (Jvm.Cond.instantiable "LoanArrowsModel" (27 : Nat)) ∈ mm_ws := List.mem_filter.mpr ⟨List.mem_append_right _ (List.mem_append_right _ (List.mem_append_right _ (List.mem_append_left _ (List.mem_of_getElem? (l := tables_1_3) (i := 127) rfl)))), rfl⟩
theorem lk_mMo : (Jvm.Cond.methodLink "LoanArrowsLaw" (86 : Nat) ({ cls := "LoanArrowsModel", name := "<init>", desc := "(II)V" } : Jvm.MethodName)) ∈ mm_ws := List.mem_filter.mpr ⟨List.mem_append_right _ (List.mem_append_right _ (List.mem_append_right _ (List.mem_append_left _ (List.mem_of_getElem? (l := tables_1_3) (i := 128) rfl)))), rfl⟩
theorem lk_nMo : (Jvm.Cond.instanceMethod ({ cls := "LoanArrowsModel", name := "<init>", desc := "(II)V" } : Jvm.MethodName)) ∈ mm_ws := List.mem_filter.mpr ⟨List.mem_append_right _ (List.mem_append_right _ (List.mem_append_right _ (List.mem_append_left _ (List.mem_of_getElem? (l := tables_1_3) (i := 129) rfl)))), rfl⟩
theorem lk_kMo : (Jvm.Cond.code ({ cls := "LoanArrowsModel", name := "<init>", desc := "(II)V" } : Jvm.MethodName) prog_9_method_1_code (4 : Nat) (Option.none : Option Jvm.ClassFile.FieldType)) ∈ mm_ws := List.mem_filter.mpr ⟨List.mem_append_right _ (List.mem_append_right _ (List.mem_append_right _ (List.mem_append_left _ (List.mem_of_getElem? (l := tables_1_3) (i := 130) rfl)))), rfl⟩
theorem lk_aJ : (Jvm.Cond.arrayClass Jvm.ClassFile.FieldType.long) ∈ mm_ws := List.mem_filter.mpr ⟨List.mem_append_right _ (List.mem_append_right _ (List.mem_append_right _ (List.mem_append_right _ (List.mem_of_getElem? (l := tables_1_4) (i := 128) rfl)))), rfl⟩
theorem lk_iCopy : (Jvm.Cond.instantiable "LoanArrows$Copy" (5 : Nat)) ∈ mm_ws := List.mem_filter.mpr ⟨List.mem_append_right _ (List.mem_append_left _ (List.mem_of_getElem? (l := tables_1_1) (i := 42) rfl)), rfl⟩
theorem lk_iDesk : (Jvm.Cond.instantiable "LoanArrows$Desk" (6 : Nat)) ∈ mm_ws := List.mem_filter.mpr ⟨List.mem_append_right _ (List.mem_append_left _ (List.mem_of_getElem? (l := tables_1_1) (i := 49) rfl)), rfl⟩
theorem lk_iLine : (Jvm.Cond.instantiable "LoanArrows$Line" (5 : Nat)) ∈ mm_ws := List.mem_filter.mpr ⟨List.mem_append_right _ (List.mem_append_left _ (List.mem_of_getElem? (l := tables_1_1) (i := 121) rfl)), rfl⟩
theorem lk_iMail : (Jvm.Cond.instantiable "LoanArrows$Mail" (4 : Nat)) ∈ mm_ws := List.mem_filter.mpr ⟨List.mem_append_right _ (List.mem_append_left _ (List.mem_of_getElem? (l := tables_1_1) (i := 114) rfl)), rfl⟩
theorem lk_iPost : (Jvm.Cond.instantiable "LoanArrows$Post" (2 : Nat)) ∈ mm_ws := List.mem_filter.mpr ⟨List.mem_append_right _ (List.mem_append_left _ (List.mem_of_getElem? (l := tables_1_1) (i := 100) rfl)), rfl⟩
theorem lk_iTree : (Jvm.Cond.instantiable "LoanArrows$Tree" (1 : Nat)) ∈ mm_ws := List.mem_filter.mpr ⟨List.mem_append_right _ (List.mem_append_left _ (List.mem_of_getElem? (l := tables_1_1) (i := 26) rfl)), rfl⟩
theorem yw_LA_init : mm_yw y_LA_init prog_1_method_1_code 4 none 2 := ⟨lk_kLA, by decide +kernel, ⟨by decide +kernel, by decide +kernel⟩, by decide +kernel⟩
theorem yw_Mo_init : mm_yw y_Mo_init prog_9_method_1_code 4 none 2 := ⟨lk_kMo, by decide +kernel, ⟨by decide +kernel, by decide +kernel⟩, by decide +kernel⟩
theorem tb_Copy : (Jvm.Cond.arrayOver (Jvm.ClassFile.FieldType.object "LoanArrows$Copy")) ∈ lw_tbl := List.mem_append_right _ (List.mem_append_left _ (List.mem_of_getElem? (l := tables_1_1) (i := 41) rfl))
theorem tb_Desk : (Jvm.Cond.arrayOver (Jvm.ClassFile.FieldType.object "LoanArrows$Desk")) ∈ lw_tbl := List.mem_append_right _ (List.mem_append_left _ (List.mem_of_getElem? (l := tables_1_1) (i := 48) rfl))
theorem tb_Line : (Jvm.Cond.arrayOver (Jvm.ClassFile.FieldType.object "LoanArrows$Line")) ∈ lw_tbl := List.mem_append_right _ (List.mem_append_left _ (List.mem_of_getElem? (l := tables_1_1) (i := 120) rfl))
theorem tb_s216 : (Jvm.Cond.stringRef "LoanArrows" (216 : Nat) "no such copy") ∈ lw_tbl := List.mem_append_right _ (List.mem_append_right _ (List.mem_append_left _ (List.mem_of_getElem? (l := tables_1_2) (i := 8) rfl)))
theorem tb_s214 : (Jvm.Cond.stringRef "LoanArrows" (214 : Nat) "no such library") ∈ lw_tbl := List.mem_append_right _ (List.mem_append_right _ (List.mem_append_left _ (List.mem_of_getElem? (l := tables_1_2) (i := 39) rfl)))
theorem tb_s63 : (Jvm.Cond.stringRef "LoanArrows" (63 : Nat) "the copy is placed already") ∈ lw_tbl := List.mem_append_right _ (List.mem_append_right _ (List.mem_append_left _ (List.mem_of_getElem? (l := tables_1_2) (i := 53) rfl)))
theorem tb_s74 : (Jvm.Cond.stringRef "LoanArrows" (74 : Nat) "no such reader") ∈ lw_tbl := List.mem_append_right _ (List.mem_append_right _ (List.mem_append_left _ (List.mem_of_getElem? (l := tables_1_2) (i := 85) rfl)))
theorem tb_s220 : (Jvm.Cond.stringRef "LoanArrows" (220 : Nat) "the copy is not placed") ∈ lw_tbl := List.mem_append_right _ (List.mem_append_right _ (List.mem_append_left _ (List.mem_of_getElem? (l := tables_1_2) (i := 96) rfl)))
theorem tb_s222 : (Jvm.Cond.stringRef "LoanArrows" (222 : Nat) "the library is down") ∈ lw_tbl := List.mem_append_right _ (List.mem_append_right _ (List.mem_append_left _ (List.mem_of_getElem? (l := tables_1_2) (i := 101) rfl)))
theorem tb_s96 : (Jvm.Cond.stringRef "LoanArrows" (96 : Nat) "the queue is full or has the reader") ∈ lw_tbl := List.mem_append_right _ (List.mem_append_right _ (List.mem_append_left _ (List.mem_of_getElem? (l := tables_1_2) (i := 110) rfl)))
theorem tb_s224 : (Jvm.Cond.stringRef "LoanArrows" (224 : Nat) "the library's state does not allow it") ∈ lw_tbl := List.mem_append_right _ (List.mem_append_right _ (List.mem_append_left _ (List.mem_of_getElem? (l := tables_1_2) (i := 161) rfl)))
theorem tb_s134 : (Jvm.Cond.stringRef "LoanArrows" (134 : Nat) "the copy is in no van") ∈ lw_tbl := List.mem_append_right _ (List.mem_append_right _ (List.mem_append_left _ (List.mem_of_getElem? (l := tables_1_2) (i := 195) rfl)))
theorem tb_s218 : (Jvm.Cond.stringRef "LoanArrows" (218 : Nat) "no such packet") ∈ lw_tbl := List.mem_append_right _ (List.mem_append_right _ (List.mem_append_left _ (List.mem_of_getElem? (l := tables_1_2) (i := 227) rfl)))
theorem tb_s151 : (Jvm.Cond.stringRef "LoanArrows" (151 : Nat) "no such part of a packet") ∈ lw_tbl := List.mem_append_right _ (List.mem_append_right _ (List.mem_append_left _ (List.mem_of_getElem? (l := tables_1_2) (i := 228) rfl)))
theorem tb_s172 : (Jvm.Cond.stringRef "LoanArrows" (172 : Nat) "the library is up") ∈ lw_tbl := List.mem_append_right _ (List.mem_append_right _ (List.mem_append_right _ (List.mem_append_left _ (List.mem_of_getElem? (l := tables_1_3) (i := 65) rfl))))
theorem tb_s174 : (Jvm.Cond.stringRef "LoanArrows" (174 : Nat) "no such fact of a library") ∈ lw_tbl := List.mem_append_right _ (List.mem_append_right _ (List.mem_append_right _ (List.mem_append_left _ (List.mem_of_getElem? (l := tables_1_3) (i := 73) rfl))))
theorem tb_l1 : (Jvm.Cond.laysStatic "java/lang/Throwable" "UNASSIGNED_STACK" "[Ljava/lang/StackTraceElement;") ∈ lw_tbl := List.mem_append_right _ (List.mem_append_left _ (List.mem_of_getElem? (l := tables_1_1) (i := 234) rfl))
theorem tb_l2 : (Jvm.Cond.laysStatic "java/lang/Throwable" "SUPPRESSED_SENTINEL" "Ljava/util/List;") ∈ lw_tbl := List.mem_append_right _ (List.mem_append_left _ (List.mem_of_getElem? (l := tables_1_1) (i := 236) rfl))
theorem wn_tbl {w : Cond} (h : w ∈ mm_wn) : w ∈ lw_tbl := List.mem_append_right _ (List.mem_filter.mp h).1
theorem ws_tbl {w : Cond} (h : w ∈ mm_ws) : w ∈ lw_tbl := (List.mem_filter.mp h).1
theorem str_at {own tx : String} {k cur : Nat} {args : Array Value} {s : State} (hcur : s.vm.findClass own = some cur) (h : (Cond.stringRef own k tx).before args s = true) : ∃ a : Nat, vk_R own k tx a s := by
  obtain ⟨_, _, _, a, _, _, _, _, _, hev⟩ := Cond.stringRef_spec hcur h
  exact ⟨a, vk_R.of h hev⟩
theorem sw_at {f d : String} {args : Array Value} {s : State} (h1 : (Cond.laysStatic "java/lang/Throwable" f d).before args s = true) (h2 : (Cond.isRef (.static "java/lang/Throwable" f d)).before args s = true) : mm_SW f d s := fun a => mm_sw_same (s := s) (U := s) rfl (fun _ _ h _ => h) h1 h2
theorem cls_at {args : Array Value} {s : State} (hts : ∀ w ∈ mm_ws, w.before args s = true) : ∃ D : va_G, ∀ (c : Nat) (q : vw_C), vwCl[c]? = some q → u_Kn s q.1 q.2.1 q.2.2 (D.1 c) (D.2 c) := by
  obtain ⟨c0, i0, k0⟩ := u_known hts uin_0 (hts _ lk_iLA)
  obtain ⟨c1, i1, k1⟩ := u_known hts uin_5 (hts _ lk_iCopy)
  obtain ⟨c2, i2, k2⟩ := u_known hts uin_8 (hts _ lk_iDesk)
  obtain ⟨c3, i3, k3⟩ := u_known hts uin_14 (hts _ lk_iLine)
  obtain ⟨c4, i4, k4⟩ := u_known hts uin_12 (hts _ lk_iMail)
  obtain ⟨c5, i5, k5⟩ := u_known hts uin_10 (hts _ lk_iPost)
  obtain ⟨c6, i6, k6⟩ := u_known hts uin_2 (hts _ lk_iTree)
  obtain ⟨c7, i7, k7⟩ := u_known hts uin_20 (hts _ lk_iMo)
  refine ⟨(fun c => match c with | 0 => c0 | 1 => c1 | 2 => c2 | 3 => c3 | 4 => c4 | 5 => c5 | 6 => c6 | _ => c7, fun c => match c with | 0 => i0 | 1 => i1 | 2 => i2 | 3 => i3 | 4 => i4 | 5 => i5 | 6 => i6 | _ => i7), fun c q hq => ?_⟩
  match c, hq with
  | 0, hq => cases hq; exact k0
  | 1, hq => cases hq; exact k1
  | 2, hq => cases hq; exact k2
  | 3, hq => cases hq; exact k3
  | 4, hq => cases hq; exact k4
  | 5, hq => cases hq; exact k5
  | 6, hq => cases hq; exact k6
  | 7, hq => cases hq; exact k7
  | c + 8, hq => cases hq
theorem arr_at {args : Array Value} {s : State} (hts : ∀ w ∈ lw_tbl, w.before args s = true) : ∃ dA : Nat → ClassId, (ArrOfT s (dA 0) .int ∧ va_RA s (dA 0) .int) ∧ (ArrOfT s (dA 1) .boolean ∧ va_RA s (dA 1) .boolean) ∧ (ArrOfT s (dA 2) (.object "LoanArrows$Copy") ∧ va_RA s (dA 2) (.object "LoanArrows$Copy")) ∧ (ArrOfT s (dA 3) (.object "LoanArrows$Desk") ∧ va_RA s (dA 3) (.object "LoanArrows$Desk")) ∧ (ArrOfT s (dA 4) (.object "LoanArrows$Line") ∧ va_RA s (dA 4) (.object "LoanArrows$Line")) ∧ (ArrOfT s (dA 5) .long ∧ va_RA s (dA 5) .long) := by
  obtain ⟨c0, a0, b0⟩ := arr_p (hts _ (ws_tbl wt_39))
  obtain ⟨c1, a1, b1⟩ := arr_p (hts _ (ws_tbl wt_38))
  obtain ⟨c2, a2, b2⟩ := arr_o (hts _ tb_Copy)
  obtain ⟨c3, a3, b3⟩ := arr_o (hts _ tb_Desk)
  obtain ⟨c4, a4, b4⟩ := arr_o (hts _ tb_Line)
  obtain ⟨c5, a5, b5⟩ := arr_p (hts _ (ws_tbl lk_aJ))
  exact ⟨fun k => match k with | 0 => c0 | 1 => c1 | 2 => c2 | 3 => c3 | 4 => c4 | _ => c5, ⟨a0, b0⟩, ⟨a1, b1⟩, ⟨a2, b2⟩, ⟨a3, b3⟩, ⟨a4, b4⟩, ⟨a5, b5⟩⟩
theorem cell_ok (xs : Nat → Int32) {Ln k : Nat} (hL : Ln ≤ 2050) (hk : k < 100) : ∃ v, p_Lw_cell xs Ln (nI k) = some v := by
  unfold p_Lw_cell
  by_cases h : Int32.ofNat Ln ≤ nI k
  · exact ⟨0, if_pos h⟩
  · rw [if_neg h]
    have hlt : k < Ln := by
      have q : ¬ nI Ln ≤ nI k := h
      rw [nI_L (by omega) (by omega)] at q
      omega
    exact ⟨_, ix_n hlt (by omega)⟩
theorem E0_k {n sh : Nat} {g g' : mm_M} (h : E0 n sh g) (k : ∀ h, h < 20 → g' h = g h) : E0 n sh g' := by
  obtain ⟨hB, hC, r⟩ := h
  refine ⟨B0_k hB (fun h hh => k h (by omega)), CD_k hC (fun h _ hh => k h (by omega)), ?_⟩
  rw [k 0 (by decide), k 10 (by decide), k 11 (by decide), k 12 (by decide), k 13 (by decide), k 14 (by decide), k 15 (by decide), k 16 (by decide)]
  exact r
theorem E1_k {n sh : Nat} {g g' : mm_M} (h : E1 n sh g) (k : ∀ h, 20 ≤ h → h < 45 → g' h = g h) : E1 n sh g' := by
  obtain ⟨c0, c1, c20, cr, c21, c30, cz⟩ := h
  have k20 := k 20 (by decide) (by decide)
  refine ⟨by rw [k20, c0], by rw [k20, c1], by rw [k20, c20], fun h h1 h2 => by rw [k20, cr h h1 h2], fun j hj => by rw [k 21 (by decide) (by decide), c21 j hj], fun j hj => by rw [k 30 (by decide) (by decide), c30 j hj], fun h h1 h2 h3 h4 => by rw [k h (by omega) h2, cz h h1 h2 h3 h4]⟩
