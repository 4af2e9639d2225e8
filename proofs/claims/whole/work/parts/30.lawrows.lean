/-! The law's helpers: they catch what the class throws; one cell of six slots at the most is new. -/
def mm_Q1 (below : List Frame) (L : mm_L) (s : State) (v : Int32) (g : mm_M) : State → Prop := fun t =>
  t.status = .running ∧ s.WarmedH t.vm ∧ mm_P L g t.heap ∧ Ended t below (.returned (some (.int v))) ∧ ∃ ks : List Loc, s.sameButNew ({ t with vm := s.vm } : State) ks 1 6 ∧ ∀ q ∈ ks, mm_F L q.base
def mm_C1 (l : Launch) (y : MethodName) (cc : ByteArray) (nL : Nat) (ret : Option FieldType) (hh : List (Nat × Nat × Nat × Nat)) (fr lo : Nat) (L : mm_L) (av : List Value) (g : mm_M) (v : Int32) (g' : mm_M) : Prop :=
  ∀ (p : Program) (e : Env) (R : Room) (s : State) (m : MethodId) (below : List Frame) (meth : Method) (c : Code), mm_Xh hh L cc nL y.cls ret fr lo p l R s m meth c → mm_P L g s.heap →
    W p l e R s m av.toArray below meth c s.heap [] 0 0 (mm_Q1 below L s v g') (entryFrame m av.toArray nL)
/-- what a call ended with, where a handler may be -/
def mm_tc {α β : Type} (x : Option (Nat × α × mm_M)) (k : α → mm_M → Option β) (hd : Nat → mm_M → Option β) : Option β := match x with
  | none => none
  | some (0, v, g) => k v g
  | some (e + 1, _, g) => hd (e + 1) g
theorem mm_tc_some {α β : Type} {x : Option (Nat × α × mm_M)} {k : α → mm_M → Option β} {hd : Nat → mm_M → Option β} {y : β} (h : mm_tc x k hd = some y) : (∃ v g, x = some (0, v, g) ∧ k v g = some y) ∨ (∃ e v g, x = some (e + 1, v, g) ∧ hd (e + 1) g = some y) := by
  rcases x with _ | ⟨_ | e, v, g⟩
  · cases h
  · exact Or.inl ⟨v, g, rfl, h⟩
  · exact Or.inr ⟨e, v, g, rfl, h⟩
theorem mm_arr1 (cA : ClassId) (f : Nat → Value) (v : Value) (h : f 0 = v) : arrV cA 1 f = arrV cA 1 (fun _ => v) := by
  unfold arrV
  congr 2
  funext j
  have hj : j.val = 0 := by omega
  rw [hj, h]
section MML
variable {p : Program} {l : Launch} {e : Env} {R : Room} {s : State} {m : MethodId} {args : Array Value} {below : List Frame} {meth : Method} {c : Code} {H : Heap} {locs : List Loc} {cells slots : Nat} {Q : State → Prop}
variable {hh : List (Nat × Nat × Nat × Nat)} {cc cc' : ByteArray} {own : String} {ret ret' : Option FieldType} {nL nL' fr lo fr' lo' : Nat} {L : mm_L} {y : MethodName} {As rest st : List Value} {g g' : mm_M} {pc index : Nat} {ls : Array Slot}
theorem mm_ret1 {v : Int32} (hexec : p.tables.exec = Jvm.exec) (hb : c.code = cc) (hr : meth.sig.returnType = some .int) (hlk : meth.locks = false) (hP : mm_P L g H) (hF : ∀ q ∈ locs, mm_F L q.base) (hc : cells ≤ 1) (hs : slots ≤ 6) (hdg : decode cc pc = .ok (.ireturn, 1)) :
    W p l e R s m args below meth c H locs cells slots (mm_Q1 below L s v g) (F0 m pc ls [.int v]) := by
  refine W.widen hc hs ?_
  refine mm_mono ?_ (W.iret (Qc := fun _ _ o t => o = .returned (some (.int v)) ∧ t.heap = H) (free := mm_F L) hexec hb hr (fun t ht _ => ⟨rfl, ht⟩) hF hdg hlk)
  rintro t ⟨o, h1, h2, ⟨rfl, h3⟩, ks, ⟨-, h4, h5⟩, h6⟩
  exact ⟨h1, h4, by rw [h3]; exact hP, h2, ks, h5, h6⟩
theorem mm_goC {x sp ep hp ct : Nat} {pre suf : List (Nat × Nat × Nat × Nat)} (hX : mm_Xh hh L cc nL own ret fr lo p l R s m meth c) (h : mm_go p l e R s m args below meth c L H locs 0 0 (F0 m pc ls st) (F0 m pc ls rest) (.inr x) g') (hF : ∀ q ∈ locs, mm_F L q.base)
    (hhe : hh = pre ++ (sp, ep, hp, ct) :: suf) (hpre : ∀ z ∈ pre, z.2.2.2 ≠ 0 ∧ ∃ nm : String, Cond.classLink own z.2.2.2 nm ∈ mm_ws ∧ (mm_ex x, nm) ∈ mm_nc) (hsp : sp ≤ pc) (hep : pc < ep) (hct : ct ≠ 0) (hlink : Cond.classLink own ct (mm_ex x) ∈ mm_ws) (hcast : Cond.castable (mm_ex x) (mm_ex x) ∈ mm_ws)
    (kk : ∀ (q : Addr) (H1 : Heap) (locs1 : List Loc), mm_P L g' H1 → (∀ z ∈ locs1, mm_F L z.base) → W p l e R s m args below meth c H1 locs1 1 6 Q (F0 m hp ls [.ref q])) : W p l e R s m args below meth c H locs 0 0 Q (F0 m pc ls st) := by
  obtain ⟨hexec, hb, hml, hown, hr, hlk, hex, hRf, hRl, hRc, hRs, hJ, hK, hst, h0⟩ := hX
  intro T hT X
  obtain ⟨T', ks, k, n, X', hks, hP', hO, q, ce, h1, h2, h3, rfl, rfl, hs⟩ := h T hT X
  have hpl : e.platform.magicAccessors = ({} : Platform).magicAccessors := by rw [X.admits.platform]
  rw [hhe] at hex
  unfold mm_tab at hex
  obtain ⟨l1, l2, e1, e2, e3⟩ := List.map_eq_append_iff.mp hex
  obtain ⟨x0, l3, e4, e5, e6⟩ := List.map_eq_cons_iff.mp e3
  have hsplit : c.exceptionTable.toList = l1 ++ x0 :: l3 := by rw [e1, e4]
  obtain ⟨f1, f2, f3, f4⟩ : x0.startPc = sp ∧ x0.endPc = ep ∧ x0.handlerPc = hp ∧ x0.catchType = ct := by simpa [Prod.ext_iff] using e5
  obtain ⟨c3, c4, hc3, hc4, hasg⟩ := Cond.castable_spec (hK.2.1 _ hcast args)
  cases Option.some.inj (hc3.symm.trans h3)
  obtain ⟨c5, hc5, hcl5⟩ := Cond.classLink_spec hown (hK.2.1 _ hlink args) e.platform hpl
  cases Option.some.inj (hc4.symm.trans hc5)
  obtain ⟨vm', X2, st2⟩ := X'.thenCaughtThrough q (g := F0 m pc ls rest) rfl (Steps.refl _) h1 (by rw [h2]; rfl) (by obtain ⟨k9, h9, -⟩ := Vm.findClass_spec h3; exact ⟨k9, h9⟩) l1 x0 l3 hsplit
    (fun z hz => by
      have hz1 : (z.startPc, z.endPc, z.handlerPc, z.catchType) ∈ pre := by rw [← e2]; exact List.mem_map.mpr ⟨z, hz, rfl⟩
      obtain ⟨hz0, nm, hl1, hn1⟩ := hpre _ hz1
      obtain ⟨c6, hc6, hcl6⟩ := Cond.classLink_spec hown (hK.2.1 _ hl1 args) e.platform hpl
      obtain ⟨a8, b8, g1, g2, g3⟩ := hK.2.2.2.2.2.2 _ hn1
      cases Option.some.inj (g1.symm.trans h3)
      cases Option.some.inj (g2.symm.trans hc6)
      exact Or.inr ⟨hz0, _, hcl6, g3⟩)
    (by simp [covers, f1, f2, hsp, hep]) (Or.inr ⟨by rw [f4]; exact hct, c4, by rw [f4]; exact hcl5, hasg⟩)
  rw [f3] at st2
  obtain ⟨t, a1, b1⟩ := kk q _ (locs ++ ks) hP' (mm_ap hF hks) (T'.setVm vm') rfl X2
  exact ⟨t, hs t (st2.trans a1), b1⟩
/-- the long cell: it holds an int's value -/
theorem mm_last {x : Int32} (hX : mm_Xh hh L cc nL own ret fr lo p l R s m meth c) (hP : mm_P L g H) (hF : ∀ q ∈ locs, mm_F L q.base) (hdg : decode cc pc = .ok (.lastore, 1))
    (kk : ∀ (H1 : Heap) (locs1 : List Loc), mm_P L (mm_st g 50 0 0 x) H1 → (∀ q ∈ locs1, mm_F L q.base) → W p l e R s m args below meth c H1 locs1 cells slots Q (F0 m (pc + 1) ls rest)) : W p l e R s m args below meth c H locs cells slots Q (F0 m pc ls (.long x.toInt64 :: .int 0 :: .ref (L.2.1 50 0) :: rest)) := by
  obtain ⟨hexec, hb, hml, hown, -, -, -, -, -, -, -, hJ, hK, -⟩ := hX
  have h1 : H[L.2.1 50 0]? = some (arrV (L.2.2.2 5) 1 (fun _ => .long (g 50 0 0).toInt64)) := hP 50 0 mm_ls50
  refine W.last hexec hb h1 ((hK.1.2 5 _ rfl).1 1 (fun _ => .long (g 50 0 0).toInt64)) (fun q => by cases q) (by rw [arrV_size]; decide) rfl rfl hdg fun H1 e z oq => ?_
  refine kk H1 _ (hP.set hJ mm_ls50 ?_ oq) (mm_ap hF (fun q hq => by rw [List.mem_singleton.mp hq]; exact ⟨50, 0, mm_ls50, rfl⟩))
  show H1[L.2.1 50 0]? = some (arrV (L.2.2.2 5) 1 (fun _ => .long (upd (g 50 0) 0 x 0).toInt64))
  rw [e, arrV_store]
  congr 1
theorem mm_lald (hX : mm_Xh hh L cc nL own ret fr lo p l R s m meth c) (hP : mm_P L g H) (hdg : decode cc pc = .ok (.laload, 1))
    (kk : W p l e R s m args below meth c H locs cells slots Q (F0 m (pc + 1) ls (.long (g 50 0 0).toInt64 :: rest))) : W p l e R s m args below meth c H locs cells slots Q (F0 m pc ls (.int 0 :: .ref (L.2.1 50 0) :: rest)) := by
  obtain ⟨hexec, hb, hml, hown, -, -, -, -, -, -, -, -, hK, -⟩ := hX
  exact va_lald hexec hb hK.1 (mm_one hP mm_ls50 rfl) 0 5 rfl rfl (show ¬ ((0 : Int32) < 0 ∨ 1 ≤ (0 : Int32).toNatClampNeg) by decide) hdg kk
/-- a helper is called -/
theorem mm_run1 {hh' : List (Nat × Nat × Nat × Nat)} {av : List Value} {v : Int32} {T : State} (hC : mm_C1 l y cc' nL' ret' hh' fr' lo' L av g v g')
    (X : Stand p l e R s m args below meth c T locs cells slots) (hexec : p.tables.exec = Jvm.exec) (hJ : mm_J L) (hK : mm_K L s) (hst : ∀ e : Env, l.admits e → e.platform.stackTraces = false) (h0 : mm_ns L s) (hP : mm_P L g T.heap) (hF : ∀ q ∈ locs, mm_F L q.base)
    {f : JFrame} (hg : f.method = m) (hsize : f.locals.size = c.maxLocals) {ig : Instr} {len : Nat} (hdg : decode c.code f.pc = .ok (ig, len)) {mk : MethodId} (hn : s.methodNamed? y = some mk) (hcode : (Cond.codeWith y cc' nL' ret' hh').before args s = true) (hpl : plainName y.cls = true)
    (hfr : fr' + 1 ≤ R.frames) (hlo : 8 + (nL' + 11) + lo' ≤ R.locals) (hW : 2 * f.monitorRoom + (f.stack.map fun v => v.category).sum ≤ 8) (hce : cells + 1 ≤ R.cells) (hsl : slots + 6 ≤ R.slots) :
    ∃ (T' : State) (ks : List Loc), Stand p l e R s m args below meth c T' (locs ++ ks) (cells + 1) (slots + 6) ∧ (∀ q ∈ ks, mm_F L q.base) ∧ mm_P L g' T'.heap ∧ (∀ (q : Nat) (cell : Cell), ¬ mm_F L q → T.heap[q]? = some cell → T'.heap[q]? = some cell) ∧
      ∀ acts, Steps p.tables e below (doInvoke e (T.setTop f) acts mk av.toArray).1 (T'.setTop { f with pc := f.pc + len, stack := .int v :: f.stack }) := by
  have hnT : T.methodNamed? y = some mk := X.named hn
  obtain ⟨m9, methk, ck, hn9, hmk0, hck, hbk, hlk, htab, hrk, hlocks, -⟩ := Cond.codeWith_spec hcode
  cases Option.some.inj (hn.symm.trans hn9)
  have hmk : T.vm.method? mk = some methk := by rw [X.warmed.alike.method?]; exact hmk0
  have hpk : T.plainMethod mk := State.plainMethod.of_named (plainFor_of_name hpl) hnT hmk
  obtain ⟨Y, hin⟩ := X.into hg hsize hdg av.toArray (R' := { frames := fr', cells := 1, slots := 6, locals := lo' }) hmk hck hlocks hpk hfr (by rw [hlk]; show _ + _ + (nL' + 11) + lo' ≤ _; omega) hce hsl
  have hstill : ∀ (q : Nat) (cell : Cell), s.heap[q]? = some cell → cell.vm.isStatics = true → T.heap[q]? = some cell := mm_still X h0 hF
  have hK' : mm_K L (T.calling f mk av.toArray) := hK.to (U := T.calling f mk av.toArray) X.warmed hstill
  have hfc : (T.calling f mk av.toArray).vm.findClass y.cls = some mk.cls := findClass_of_methodNamed (s := T) hnT
  have hXk : mm_Xh hh' L cc' nL' y.cls ret' fr' lo' p l { frames := fr', cells := 1, slots := 6, locals := lo' } (T.calling f mk av.toArray) mk methk ck := ⟨hexec, hbk, hlk, hfc, hrk, hlocks, htab, Nat.le_refl _, Nat.le_refl _, Nat.le_refl _, Nat.le_refl _, hJ, hK', hst, fun q cell hq hc => hP.not_statics hq hc⟩
  obtain ⟨t, hs, hq1, hq2, hq3, hend, ks, hq4, hq5⟩ := hC p e _ _ mk (.java f :: below) methk ck hXk hP ((T.setTop f).pushFrame (.java (entryFrame mk av.toArray ck.maxLocals))) rfl Y
  rw [hlk] at hin hs
  have hs' : ∀ acts, Steps p.tables e below (doInvoke e (T.setTop f) acts mk av.toArray).1 t := fun acts => by rw [hin acts]; exact Steps.weaken (mid := [.java f]) hs
  have hO : ∀ (q : Nat) (cell : Cell), ¬ mm_F L q → T.heap[q]? = some cell → t.heap[q]? = some cell := fun q cell hq hc => mm_frame (q := q) hq4 (fun z hz (e1 : z.base = q) => hq (e1 ▸ hq5 z hz)) hc
  obtain ⟨T', X', -, -, ht⟩ := X.outOf hg hdg hend hq2 hq4
  have hh9 : T'.heap = t.heap := by rw [ht, mm_heap_top]
  exact ⟨T', ks, X', hq5, by rw [hh9]; exact hq3, by rw [hh9]; exact hO, fun acts => ht ▸ hs' acts⟩
theorem mm_goS1 {hh' : List (Nat × Nat × Nat × Nat)} {v : Int32} (hX : mm_Xh hh L cc nL own ret fr lo p l R s m meth c) (hC : mm_C1 l y cc' nL' ret' hh' fr' lo' L As g v g') (hcw : Cond.codeWith y cc' nL' ret' hh' ∈ mm_ws) (hpl : plainName y.cls = true) (hnm : y.cls ≠ "java/lang/invoke/MethodHandle" ∧ y.cls ≠ "java/lang/invoke/VarHandle") (hln : (parseMethodDescriptor y.desc).map (fun d => d.parameters.length) = some As.length)
    (hlink : Cond.methodLink own index y ∈ mm_ws) (hstat : Cond.static y ∈ mm_ws) (hini : Cond.initialized y.cls ∈ mm_ws) (hP : mm_P L g H) (hF : ∀ q ∈ locs, mm_F L q.base) (hstack : st = As.reverse ++ rest) (hsz : ls.size = nL) (hW : (rest.map fun v => v.category).sum ≤ 8) (hfr : fr' + 1 ≤ fr) (hlo : 8 + (nL' + 11) + lo' ≤ lo) (hce : cells + 1 ≤ R.cells) (hsl : slots + 6 ≤ R.slots) (hdg : decode cc pc = .ok (.invokestatic index, 3))
    (kk : ∀ (H1 : Heap) (locs1 : List Loc), mm_P L g' H1 → (∀ q ∈ locs1, mm_F L q.base) → (∀ (q : Nat) (cell : Cell), ¬ mm_F L q → H[q]? = some cell → H1[q]? = some cell) → W p l e R s m args below meth c H1 locs1 (cells + 1) (slots + 6) Q (F0 m (pc + 3) ls (.int v :: rest))) : W p l e R s m args below meth c H locs cells slots Q (F0 m pc ls st) := by
  obtain ⟨hexec, hb, hml, hown, hr, hlk, hex, hRf, hRl, hRc, hRs, hJ, hK, hst, h0⟩ := hX
  intro T hT X
  have hcode := hK.2.1 _ hcw args
  obtain ⟨mk, methM, cM, hnamed, hmethM, -, -, -, -, -, -, hsigM⟩ := Cond.codeWith_spec hcode
  have hstatic : methM.isStatic = true := Cond.static_spec hnamed hmethM (hK.2.1 _ hstat args)
  obtain ⟨kP, hkP, -⟩ := className_of_methodNamed hnamed
  have hinitP : kP.init = .initialized := Cond.initialized_spec (findClass_of_methodNamed hnamed) hkP (hK.2.1 _ hini args)
  have hlen : As.length = methM.sig.parameters.length := by rw [hsigM] at hln; exact (Option.some.inj hln).symm
  subst hb
  obtain ⟨vm₁, X₁, hstep₁⟩ := X.invokestatic hexec hown (hK.2.1 _ hlink args) hnamed hmethM hstatic hkP hinitP hnm (g := F0 m pc ls st) rfl (argsL := As) (rest := rest) hlen hstack hdg
  obtain ⟨T', ks, X', hks, hP', hO, ho⟩ := mm_run1 hC X₁ hexec hJ hK hst h0 (by show mm_P L g T.heap; rw [hT]; exact hP) hF (f := F0 m pc ls rest) rfl (by rw [hml]; exact hsz) hdg hnamed hcode hpl (by omega) (by omega) (by show 2 * 0 + (rest.map fun v => v.category).sum ≤ 8; omega) hce hsl
  obtain ⟨t, a1, b1⟩ := kk T'.heap (locs ++ ks) hP' (mm_ap hF hks) (by rw [← hT]; exact hO) T' rfl X'
  exact ⟨t, hstep₁ t fun acts => (ho acts).trans a1, b1⟩
end MML
