/-! the law makes the class's object and the reference -/
def mm_Yl (L : mm_L) (cc : ByteArray) (nL : Nat) (own : String) (fr lo zm ym B : Nat) (p : Program) (l : Launch) (R : Room) (s : State) (m : MethodId) (c : Code) : Prop :=
  p.tables.exec = Jvm.exec ∧ c.code = cc ∧ c.maxLocals = nL ∧ s.vm.findClass own = some m.cls ∧ fr ≤ R.frames ∧ lo ≤ R.locals ∧ mm_J L ∧ mm_K L s ∧ s.heap.size = B ∧ zm ≤ B + R.cells ∧ ym ≤ R.slots ∧ ∀ C ∈ mm_ao, va_AO C s
section MLW
variable {p : Program} {l : Launch} {e : Env} {R : Room} {s : State} {m : MethodId} {args : Array Value} {below : List Frame} {meth : Method} {c : Code} {H : Heap} {locs : List Loc} {cells slots : Nat} {Q : State → Prop}
variable {cc cc' : ByteArray} {own : String} {nL nL' fr lo fr' lo' zm ym B : Nat} {L : mm_L} {g g' : mm_M} {pc index h i : Nat} {ls : Array Slot} {rest st As : List Value} {y : MethodName}
theorem mm_keep {q : Nat} {cell : Cell} {f : JFrame} (hF : ∀ z ∈ locs, s.heap.size ≤ z.base) (hc : s.heap[q]? = some cell) (kk : H[q]? = some cell → W p l e R s m args below meth c H locs cells slots Q f) : W p l e R s m args below meth c H locs cells slots Q f := by
  intro T hT X
  have hs : s.sameButNew ({ T with vm := s.vm } : State) locs cells slots := X.same
  have hl : q < s.heap.size := (Array.getElem?_eq_some_iff.mp hc).1
  have h1 : T.heap[q]? = some cell := mm_frame hs (fun z hz e1 => by
    have h2 := hF z hz
    rw [e1] at h2
    exact absurd hl (Nat.not_lt.mpr h2)) hc
  rw [hT] at h1
  exact kk h1 T hT X
theorem mm_lnew {C : String} {T : u_T} {N ci : Nat} {fs : List Value} (ty : Nat → FieldType) (hX : mm_Yl L cc nL own fr lo zm ym B p l R s m c) (hP : mm_V B L g H) (hlv : mm_lv L.1 h i) (had : L.2.1 h i = H.size) (hcz : mm_cv L h i (fun _ => 0) = .inr (ci, fs)) (hc : vwCl[ci]? = some (C, T, N)) (hin : ∀ w ∈ u_ws C T N, w ∈ mm_ws) (hty : ∀ k, k < N → parseFieldDescriptor (T k).2.2.1 = some (ty k)) (hfs : ∀ j, j < N → defaultValue (ty j) = vp_V fs j) (hcl : Cond.classLink own index C ∈ mm_ws) (hinst : Cond.instantiable C N ∈ mm_ws) (hini : Cond.initialized C ∈ mm_ws) (hcells : cells + 1 ≤ R.cells) (hslots : slots + N ≤ R.slots) (hdg : decode cc pc = .ok (.new index, 3))
    (kk : ∀ H1 : Heap, H1.size = H.size + 1 → mm_V B L (mm_row g h i (fun _ => 0)) H1 → W p l e R s m args below meth c H1 locs (cells + 1) (slots + N) Q (F0 m (pc + 3) ls (.ref (L.2.1 h i) :: rest))) : W p l e R s m args below meth c H locs cells slots Q (F0 m pc ls rest) := by
  obtain ⟨hexec, hb, hml, hown, -, -, hJ, hK, -⟩ := hX
  have hts : ∀ w ∈ mm_ws, w.before args s = true := fun w hw => hK.2.1 w hw args
  have hKn := hK.1.1 ci _ hc
  refine W.newcK hexec hb hown (hts _ hcl) (hts _ hinst) (hts _ hini) rfl hdg hcells hslots hKn.2.1 rfl fun H1 kC hkC e1 z1 o1 => ?_
  have := kk H1 z1 (hP.new hJ hlv had (by rw [hcz, had]; exact ⟨_, hc, (u_born ty hts hin hKn hkC e1 hty).to hfs⟩) z1 o1)
  rw [had] at this
  exact this
theorem mm_lnewj (hX : mm_Yl L cc nL own fr lo zm ym B p l R s m c) (hP : mm_V B L g H) (had : L.2.1 50 0 = H.size) (harr : Cond.arrayClass (newarray.typeOf .long) ∈ mm_ws) (hcells : cells + 1 ≤ R.cells) (hslots : slots + 1 ≤ R.slots) (hdg : decode cc pc = .ok (.newarray .long, 2))
    (kk : ∀ H1 : Heap, H1.size = H.size + 1 → mm_V B L (mm_row g 50 0 (fun _ => 0)) H1 → W p l e R s m args below meth c H1 locs (cells + 1) (slots + 1) Q (F0 m (pc + 2) ls (.ref (L.2.1 50 0) :: rest))) : W p l e R s m args below meth c H locs cells slots Q (F0 m pc ls (.int 1 :: rest)) := by
  obtain ⟨hexec, hb, hml, hown, -, -, hJ, hK, -⟩ := hX
  refine va_newaK hexec hb (hK.2.1 _ harr args) rfl hdg rfl (show ¬ (1 : Int32) < 0 by decide) (show (1 : Int32).toNatClampNeg = 1 from rfl) (by decide) hcells hslots rfl fun H1 cA e1 z1 o1 hAr hNm => ?_
  have h9 : s.vm.findClass ("[" ++ FieldType.long.toString) = some (L.2.2.2 5) := (hK.1.2 5 _ rfl).2
  have hcA : cA = L.2.2.2 5 := Option.some.inj (hNm.symm.trans h9)
  subst hcA
  have := kk H1 z1 (hP.new hJ (h := 50) (i := 0) mm_ls50 had (by rw [had]; exact e1) z1 o1)
  rw [had] at this
  exact this
theorem mm_lI {a : Nat} {z yb z' y' : Nat} (hX : mm_Yl L cc nL own fr lo zm ym B p l R s m c) (hC : mm_CV l y cc' nL' fr' lo' zm ym B L (.ref a :: As) g z yb g' z' y') (hy : mm_yw y cc' nL' none As.length) (hy1 : y.name = "<init>") (hlink : Cond.methodLink own index y ∈ mm_ws) (hinst : Cond.instanceMethod y ∈ mm_ws) (hP : mm_V B L g H) (hz : H.size = z) (hcs : cells + B = z) (hsy : slots = yb) (hF : ∀ q ∈ locs, B ≤ q.base) (hzm : z ≤ zm) (hym : yb ≤ ym) (hstack : st = As.reverse ++ .ref a :: rest) (hsz : ls.size = nL) (hW : (rest.map fun v => v.category).sum ≤ 8) (hfr : fr' + 1 ≤ fr) (hlo : 8 + (nL' + 11) + lo' ≤ lo) (hdg : decode cc pc = .ok (.invokespecial index, 3))
    (kk : ∀ (H1 : Heap) (locs1 : List Loc) (cells1 : Nat), mm_V B L g' H1 → H1.size = z' → cells1 + B = z' → (∀ q ∈ locs1, B ≤ q.base) → W p l e R s m args below meth c H1 locs1 cells1 y' Q (F0 m (pc + 3) ls rest)) : W p l e R s m args below meth c H locs cells slots Q (F0 m pc ls st) := by
  obtain ⟨hexec, hb, hml, hown, hRf, hRl, hJ, hK, hB, hRc, hRs, hA⟩ := hX
  obtain ⟨hc0, hpl, hnm, hln⟩ := hy
  intro T hT X0
  have hpl9 : e.platform.magicAccessors = ({} : Platform).magicAccessors := by rw [X0.admits.platform]
  have hcode := hK.2.1 _ hc0 args
  obtain ⟨mk, methM, cM, kP, vm₁, hnamed, hmethM, hcodeM, -, hlocalsM, -, hkP, -, hW₁, hstep₁⟩ := Steps.initColdArgs (e := e) X0.here hexec X0.warmed hpl9 hown hy1 hnm (hK.2.1 _ hlink args) (hK.2.1 _ hinst args) hcode (f := F0 m pc ls st) rfl (fun sig h => by rw [h] at hln; exact (Option.some.inj hln).symm) hstack (by rw [hb]; exact hdg)
  have X := X0.noted hW₁
  have hsize : (F0 m pc ls rest).locals.size = c.maxLocals := by rw [hml]; exact hsz
  have hdg' : decode c.code (F0 m pc ls rest).pc = .ok (.invokespecial index, 3) := by rw [hb]; exact hdg
  have hnT : (T.setVm vm₁).methodNamed? y = some mk := X.named hnamed
  obtain ⟨methk, ck, hmk0, hck, hbk, hlk2, hrk, hlocks, hexk, -⟩ := Cond.code_spec hnamed hcode
  have hmk : (T.setVm vm₁).vm.method? mk = some methk := by rw [X.warmed.alike.method?]; exact hmk0
  have hpk : (T.setVm vm₁).plainMethod mk := State.plainMethod.of_named (plainFor_of_name hpl) hnT hmk
  obtain ⟨Y, hin⟩ := X.into (g := F0 m pc ls rest) rfl hsize hdg' (Value.ref a :: As).toArray (R' := { frames := fr', cells := zm - z, slots := ym - yb, locals := lo' }) hmk hck hlocks hpk (by show fr' + 1 ≤ _; omega) (by rw [hlk2]; show 2 * 0 + (rest.map fun v => v.category).sum + (nL' + 11) + lo' ≤ _; omega) (by show cells + (zm - z) ≤ _; omega) (by show slots + (ym - yb) ≤ _; omega)
  have hstill : ∀ (q : Nat) (cell : Cell), s.heap[q]? = some cell → cell.vm.isStatics = true → (T.setVm vm₁).heap[q]? = some cell := by
    intro q cell hc _
    have hs : s.sameButNew ({ (T.setVm vm₁) with vm := s.vm } : State) locs cells slots := X.same
    have hl : q < s.heap.size := (Array.getElem?_eq_some_iff.mp hc).1
    exact mm_frame hs (fun w hw e1 => by
      have h2 := hF w hw
      rw [e1, ← hB] at h2
      exact absurd hl (Nat.not_lt.mpr h2)) hc
  have hK' : mm_K L ((T.setVm vm₁).calling (F0 m pc ls rest) mk (Value.ref a :: As).toArray) := hK.to (U := (T.setVm vm₁).calling (F0 m pc ls rest) mk (Value.ref a :: As).toArray) X.warmed hstill
  have hfc : ((T.setVm vm₁).calling (F0 m pc ls rest) mk (Value.ref a :: As).toArray).vm.findClass y.cls = some mk.cls := findClass_of_methodNamed (s := T.setVm vm₁) hnT
  have hnm9 : methk.name = "<init>" := by rw [(name_of_methodNamed hnamed hmk0).1]; exact hy1
  have hzT : ((T.setVm vm₁).calling (F0 m pc ls rest) mk (Value.ref a :: As).toArray).heap.size = z := by
    show T.heap.size = z
    rw [hT]
    exact hz
  have hPT : mm_V B L g ((T.setVm vm₁).calling (F0 m pc ls rest) mk (Value.ref a :: As).toArray).heap := by
    show mm_V B L g T.heap
    rw [hT]
    exact hP
  have hXk : mm_Y L cc' nL' y.cls fr' lo' zm ym yb B p l { frames := fr', cells := zm - z, slots := ym - yb, locals := lo' } ((T.setVm vm₁).calling (F0 m pc ls rest) mk (Value.ref a :: As).toArray) mk methk ck := ⟨hexec, hbk, hlk2, hfc, hrk, hlocks, Nat.le_refl _, Nat.le_refl _, hJ, hK', hnm9, by rw [hzT]; omega, by rw [hzT]; show zm ≤ z + (zm - z); omega, by show ym ≤ yb + (ym - yb); omega, fun C hC => va_AO.moved X.warmed.alike (hA C hC), hPT.2⟩
  obtain ⟨t, hs, hq1, hq2, hq3, hq3z, hend, ks, k, n, hq4, hq5, hq6, hq7⟩ := hC p e _ _ mk (.java (F0 m pc ls rest) :: below) methk ck hXk hPT hzT (((T.setVm vm₁).setTop (F0 m pc ls rest)).pushFrame (.java (entryFrame mk (Value.ref a :: As).toArray ck.maxLocals))) rfl Y
  rw [hlk2] at hin hs
  obtain ⟨T', X', -, -, ht⟩ := X.outOf (g := F0 m pc ls rest) rfl hdg' hend hq2 hq4
  have hh9 : T'.heap = t.heap := by rw [ht, mm_heap_top]
  rw [hzT] at hq6
  have hn9 : slots + n = y' := by omega
  rw [hn9] at X'
  obtain ⟨t2, a1, b1⟩ := kk T'.heap (locs ++ ks) (cells + k) (by rw [hh9]; exact hq3) (by rw [hh9]; exact hq3z) (by omega) (mm_apB hF hq5) T' rfl X'
  refine ⟨t2, hstep₁ t2 fun acts => ?_, b1⟩
  rw [hin acts]
  have h8 := Steps.weaken (mid := [.java (F0 m pc ls rest)]) hs
  rw [ht] at h8
  exact h8.trans a1
end MLW
theorem arrV_ext {cA : ClassId} {n : Nat} {f f' : Nat → Value} (h : ∀ j, j < n → f j = f' j) : arrV cA n f = arrV cA n f' := by
  unfold arrV
  congr 2
  funext j
  exact h j.val j.isLt
/-- all is made: the system's world -/
theorem V_P {B : Nat} {L : mm_L} {g : mm_M} {H : Heap} {sh : Nat} (hV : mm_V B L g H) (hz : ∀ h i, mm_lv L.1 h i → L.2.1 h i < H.size) (h0 : E0 L.1 sh g) (h1 : E1 L.1 sh g) : mm_P L g H := by
  obtain ⟨⟨b0, b1, b2, b3, b4, b5, b6⟩, hC, a4, a5, a10, a11, a12, a121, a122, a123, a13, a14⟩ := h0
  obtain ⟨c0, c1, c20, cr, c21, c30, cz⟩ := h1
  intro h i hlv
  have w := hV.1 h i hlv (hz h i hlv)
  have hl := hlv
  unfold mm_lv at hl
  split at hl
  · subst hl
    have e : mm_cv L 0 0 (g 0 0) = mm_cz L 0 0 (g 0 0) := by simp [mm_cv, mm_cz, b1, b2, b3, a4, a5]
    rw [e] at w
    exact w
  · exact w
  · subst hl
    have e : mm_cv L 2 0 (g 2 0) = mm_cz L 2 0 (g 2 0) := by simp [mm_cv, mm_cz, b5]
    rw [e] at w
    exact w
  · exact w
  · subst hl
    have e : vp_cell (L.2.2.2 2) (3, .inr (.inr (.inr (.inr (fun j => if g 4 0 j = 0 then none else some (L.2.1 5 j)))))) = vp_cell (L.2.2.2 2) (3, .inr (.inr (.inr (.inr (fun j => some (L.2.1 5 j)))))) := by
      rw [vp_cell_q, vp_cell_q]
      exact arrV_ext (fun j hj => by rw [(hC j hj).2.2.1, if_neg (by decide)])
    have w : H[L.2.1 4 0]? = some (vp_cell (L.2.2.2 2) (3, .inr (.inr (.inr (.inr (fun j => if g 4 0 j = 0 then none else some (L.2.1 5 j))))))) := w
    rw [e] at w
    exact w
  · obtain ⟨q1, -⟩ := hC i hl
    have e : mm_cv L 5 i (g 5 i) = mm_cz L 5 i (g 5 i) := by
      rw [q1]
      simp [mm_cv, mm_cz, r5]
    rw [e] at w
    exact w
  · obtain ⟨-, -, -, q4, -⟩ := hC i hl
    have e : vp_cell (L.2.2.2 3) (L.1, .inr (.inr (.inr (.inr (fun j => if g 6 i j = 0 then none else some (L.2.1 8 (12 * i + j))))))) = vp_cell (L.2.2.2 3) (L.1, .inr (.inr (.inr (.inr (fun j => some (L.2.1 8 (12 * i + j))))))) := by
      rw [vp_cell_q, vp_cell_q]
      exact arrV_ext (fun j hj => by rw [q4 j hj, if_neg (by decide)])
    have w : H[L.2.1 6 i]? = some (vp_cell (L.2.2.2 3) (L.1, .inr (.inr (.inr (.inr (fun j => if g 6 i j = 0 then none else some (L.2.1 8 (12 * i + j)))))))) := w
    rw [e] at w
    exact w
  · exact w
  · obtain ⟨c, l, hc, hll, rfl⟩ := hl
    obtain ⟨-, -, -, -, q5⟩ := hC c hc
    have e : mm_cv L 8 (12 * c + l) (g 8 (12 * c + l)) = mm_cz L 8 (12 * c + l) (g 8 (12 * c + l)) := by
      rw [(q5 l hll).1]
      simp [mm_cv, mm_cz, r8]
    rw [e] at w
    exact w
  · exact w
  · subst hl
    have e : mm_cv L 10 0 (g 10 0) = mm_cz L 10 0 (g 10 0) := by
      rw [a10]
      simp [mm_cv, mm_cz, r10]
    rw [e] at w
    exact w
  · exact w
  · subst hl
    have e : mm_cv L 12 0 (g 12 0) = mm_cz L 12 0 (g 12 0) := by simp [mm_cv, mm_cz, a121, a122, a123]
    rw [e] at w
    exact w
  · subst hl
    have e : vp_cell (L.2.2.2 4) (2 * L.1, .inr (.inr (.inr (.inr (fun j => if g 13 0 j = 0 then none else some (L.2.1 14 j)))))) = vp_cell (L.2.2.2 4) (2 * L.1, .inr (.inr (.inr (.inr (fun j => some (L.2.1 14 j)))))) := by
      rw [vp_cell_q, vp_cell_q]
      exact arrV_ext (fun j hj => by rw [a13 j hj, if_neg (by decide)])
    have w : H[L.2.1 13 0]? = some (vp_cell (L.2.2.2 4) (2 * L.1, .inr (.inr (.inr (.inr (fun j => if g 13 0 j = 0 then none else some (L.2.1 14 j))))))) := w
    rw [e] at w
    exact w
  · have e : mm_cv L 14 i (g 14 i) = mm_cz L 14 i (g 14 i) := by
      rw [(a14 i hl).1]
      simp [mm_cv, mm_cz, r14]
    rw [e] at w
    exact w
  · exact w
  · exact w
  · subst hl
    have k21 : g 20 0 2 = 1 := cr 21 (by decide) (by decide)
    have k22 : g 20 0 3 = 1 := cr 22 (by decide) (by decide)
    have k23 : g 20 0 4 = 1 := cr 23 (by decide) (by decide)
    have k24 : g 20 0 5 = 1 := cr 24 (by decide) (by decide)
    have k25 : g 20 0 6 = 1 := cr 25 (by decide) (by decide)
    have k26 : g 20 0 7 = 1 := cr 26 (by decide) (by decide)
    have k27 : g 20 0 8 = 1 := cr 27 (by decide) (by decide)
    have k28 : g 20 0 9 = 1 := cr 28 (by decide) (by decide)
    have k29 : g 20 0 10 = 1 := cr 29 (by decide) (by decide)
    have k30 : g 20 0 11 = 1 := cr 30 (by decide) (by decide)
    have k31 : g 20 0 12 = 1 := cr 31 (by decide) (by decide)
    have k32 : g 20 0 13 = 1 := cr 32 (by decide) (by decide)
    have k33 : g 20 0 14 = 1 := cr 33 (by decide) (by decide)
    have k34 : g 20 0 15 = 1 := cr 34 (by decide) (by decide)
    have k35 : g 20 0 16 = 1 := cr 35 (by decide) (by decide)
    have k36 : g 20 0 17 = 1 := cr 36 (by decide) (by decide)
    have k37 : g 20 0 18 = 1 := cr 37 (by decide) (by decide)
    have k38 : g 20 0 19 = 1 := cr 38 (by decide) (by decide)
    have k39 : g 20 0 21 = 1 := cr 39 (by decide) (by decide)
    have k40 : g 20 0 22 = 1 := cr 40 (by decide) (by decide)
    have k41 : g 20 0 23 = 1 := cr 41 (by decide) (by decide)
    have k42 : g 20 0 24 = 1 := cr 42 (by decide) (by decide)
    have k43 : g 20 0 25 = 1 := cr 43 (by decide) (by decide)
    have k44 : g 20 0 26 = 1 := cr 44 (by decide) (by decide)
    have e : mm_cv L 20 0 (g 20 0) = mm_cz L 20 0 (g 20 0) := by simp [mm_cv, mm_cz, k21, k22, k23, k24, k25, k26, k27, k28, k29, k30, k31, k32, k33, k34, k35, k36, k37, k38, k39, k40, k41, k42, k43, k44]
    rw [e] at w
    exact w
  · exact w
  · exact w
  · exact w
  · exact w
  · exact w
  · exact w
  · exact w
  · exact w
  · exact w
  · exact w
  · exact w
  · exact w
  · exact w
  · exact w
  · exact w
  · exact w
  · exact w
  · exact w
  · exact w
  · exact w
  · exact w
  · exact w
  · exact w
  · exact w
  · exact w
  · exact absurd hl id
theorem arr_p {args : Array Value} {s : State} {ty : FieldType} (h : (Cond.arrayClass ty).before args s = true) : ∃ cA : ClassId, ArrOfT s cA ty ∧ s.vm.findClass ("[" ++ ty.toString) = some cA := by
  obtain ⟨cA, kA, comp, h1, h2, h3⟩ := Cond.arrayClass_spec h
  exact ⟨cA, fun n z => ⟨fun k h => (by cases h), kA, h2, comp, h3⟩, h1⟩
theorem arr_o {args : Array Value} {s : State} {C : String} (h : (Cond.arrayOver (.object C)).before args s = true) : ∃ cA : ClassId, ArrOfT s cA (.object C) ∧ va_RA s cA (.object C) := by
  obtain ⟨comp, cA, kA, h1, h2, h3, h4, h5⟩ := Cond.arrayOver_spec h
  exact ⟨cA, fun n z => ⟨fun k h => (by cases h), kA, h3, comp, h4⟩, kA, comp, h3, h4, h1, h5⟩
