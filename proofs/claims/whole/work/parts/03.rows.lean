section MMC
variable {p : Program} {l : Launch} {e : Env} {R : Room} {s : State} {m : MethodId} {args : Array Value} {below : List Frame} {meth : Method} {c : Code} {H : Heap} {locs : List Loc} {cells slots : Nat} {Q : State → Prop}
/-- a call instruction at the frame f0 (its operands on the stack; f: without them) -/
def mm_go (p : Program) (l : Launch) (e : Env) (R : Room) (s : State) (m : MethodId) (args : Array Value) (below : List Frame) (meth : Method) (c : Code) (L : mm_L) (H : Heap) (locs : List Loc) (cells slots : Nat) (f0 f : JFrame) (oc : Option Value ⊕ Nat) (g' : mm_M) : Prop :=
  ∀ T : State, T.heap = H → Stand p l e R s m args below meth c T locs cells slots → ∃ (T' : State) (ks : List Loc) (k n : Nat), Stand p l e R s m args below meth c T' (locs ++ ks) (cells + k) (slots + n) ∧ (∀ q ∈ ks, mm_F L q.base) ∧ mm_P L g' T'.heap ∧ (∀ (q : Nat) (cell : Cell), ¬ mm_F L q → T.heap[q]? = some cell → T'.heap[q]? = some cell) ∧
    match oc with
    | .inl v => k = 0 ∧ n = 0 ∧ ∀ tg, Steps p.tables e below (T'.setTop { f with pc := f.pc + 3, stack := v.toList ++ f.stack }) tg → Steps p.tables e below (T.setTop f0) tg
    | .inr x => ∃ (q : Addr) (ce : Cell), T'.heap[q]? = some ce ∧ ce.vm = .none ∧ s.vm.findClass (mm_ex x) = some ce.cls ∧ k = 1 ∧ n = 6 ∧ ∀ tg, Steps p.tables e below ((T'.setTop f).pushFrame (.throwing q)) tg → Steps p.tables e below (T.setTop f0) tg
theorem mm_ap {P : Loc → Prop} {a b : List Loc} (h1 : ∀ q ∈ a, P q) (h2 : ∀ q ∈ b, P q) : ∀ q ∈ a ++ b, P q := fun q hq => (List.mem_append.mp hq).elim (h1 q) (h2 q)
theorem mm_goR {L : mm_L} {g' : mm_M} {v : Option Value} {pc : Nat} {ls : Array Slot} {st rest : List Value} (h : mm_go p l e R s m args below meth c L H locs cells slots (F0 m pc ls st) (F0 m pc ls rest) (.inl v) g') (hF : ∀ q ∈ locs, mm_F L q.base)
    (kk : ∀ (H1 : Heap) (locs1 : List Loc), mm_P L g' H1 → (∀ q ∈ locs1, mm_F L q.base) → (∀ (q : Nat) (cell : Cell), ¬ mm_F L q → H[q]? = some cell → H1[q]? = some cell) → W p l e R s m args below meth c H1 locs1 cells slots Q (F0 m (pc + 3) ls (v.toList ++ rest))) : W p l e R s m args below meth c H locs cells slots Q (F0 m pc ls st) := by
  intro T hT X
  obtain ⟨T', ks, k, n, X', hks, hP', hO, rfl, rfl, hs⟩ := h T hT X
  obtain ⟨t, a1, b1⟩ := kk T'.heap (locs ++ ks) hP' (mm_ap hF hks) (by rw [← hT]; exact hO) T' rfl X'
  exact ⟨t, hs t a1, b1⟩
theorem mm_goT {L : mm_L} {g' : mm_M} {x : Nat} {pc : Nat} {ls : Array Slot} {st rest : List Value} (h : mm_go p l e R s m args below meth c L H locs 0 0 (F0 m pc ls st) (F0 m pc ls rest) (.inr x) g') (hF : ∀ q ∈ locs, mm_F L q.base) (hex : mm_tab c = []) (hlk : meth.locks = false) : W p l e R s m args below meth c H locs 0 0 (mm_Q below L s (.inr x) g') (F0 m pc ls st) := by
  intro T hT X
  obtain ⟨T', ks, k, n, X', hks, hP', hO, q, ce, h1, h2, h3, rfl, rfl, hs⟩ := h T hT X
  have he : c.exceptionTable.toList = [] := List.map_eq_nil_iff.mp hex
  obtain ⟨w1, w2, w3, w4, w5⟩ := X'.leaveThrown q (g := F0 m pc ls rest) rfl rfl rfl (by rw [he]; intro z hz; cases hz) hlk
  exact ⟨_, hs _ w1, w2, w4, hP', locs ++ ks, 1, 6, w5, mm_ap hF hks, q, ce, w3, h1, h2, h3, rfl, rfl⟩
/-- what is known of a callee by its name -/
def mm_yw (y : MethodName) (cc : ByteArray) (nL : Nat) (ret : Option FieldType) (n : Nat) : Prop := Cond.code y cc nL ret ∈ mm_ws ∧ plainName y.cls = true ∧ (y.cls ≠ "java/lang/invoke/MethodHandle" ∧ y.cls ≠ "java/lang/invoke/VarHandle") ∧ (parseMethodDescriptor y.desc).map (fun d => d.parameters.length) = some n
variable {hh : List (Nat × Nat × Nat × Nat)} {cc cc' : ByteArray} {own : String} {ret ret' : Option FieldType} {nL nL' fr lo fr' lo' : Nat} {L : mm_L} {y : MethodName} {av As rest : List Value} {g g' : mm_M} {oc : Option Value ⊕ Nat} {pc index : Nat} {ls : Array Slot} {st : List Value} {b : Addr}
theorem mm_goV (hX : mm_Xh hh L cc nL own ret fr lo p l R s m meth c) (hC : mm_C l y cc' nL' ret' fr' lo' L (.ref b :: As) g oc g') (hy : mm_yw y cc' nL' ret' As.length) (hlink : Cond.methodLink own index y ∈ mm_ws) (hinst : Cond.instanceMethod y ∈ mm_ws) (hsel : Cond.selects y.cls y y ∈ mm_ws)
    (hP : mm_P L g H) (hF : ∀ q ∈ locs, mm_F L q.base) (hB : ∃ cellB : Cell, H[b]? = some cellB ∧ cellB.vm.isStatics = false ∧ s.vm.findClass y.cls = some cellB.cls) (hstack : st = As.reverse ++ .ref b :: rest) (hsz : ls.size = nL) (hW : (rest.map fun v => v.category).sum ≤ 8) (hfr : fr' + 1 ≤ fr) (hlo : 8 + (nL' + 11) + lo' ≤ lo) (hce : cells + 1 ≤ R.cells) (hsl : slots + 6 ≤ R.slots) (hdg : decode cc pc = .ok (.invokevirtual index, 3)) :
    mm_go p l e R s m args below meth c L H locs cells slots (F0 m pc ls st) (F0 m pc ls rest) oc g' := by
  obtain ⟨hexec, hb, hml, hown, hr, hlk, hex, hRf, hRl, hRc, hRs, hJ, hK, hst, h0⟩ := hX
  obtain ⟨hc0, hpl, hnm, hln⟩ := hy
  intro T hT X
  obtain ⟨cellB, hcB, hoB, hclB⟩ := hB
  have hcode := hK.2.1 _ hc0 args
  obtain ⟨mk, methM, hnamed, hmethM, hstM, habM⟩ := Cond.instanceMethod_spec (hK.2.1 _ hinst args)
  obtain ⟨methM', cM, hmethM', -, -, -, -, -, -, hsigM⟩ := Cond.code_spec hnamed hcode
  cases hmethM.symm.trans hmethM'
  obtain ⟨c2, r2, m2, q1, q2, q3, q4, kP, hkP, hkPi⟩ := Cond.selects_spec (hK.2.1 _ hsel args)
  cases hclB.symm.trans q1
  cases (State.methodFound?_of_named hnamed hnm).symm.trans q2
  cases hnamed.symm.trans q3
  have hselP : selectMethod e.platform s.vm cellB.cls mk = .method mk := by rw [Launch.admits_selectMethod X.admits]; exact q4
  have hlen : As.length = methM.sig.parameters.length := by rw [hsigM] at hln; exact (Option.some.inj hln).symm
  subst hb
  obtain ⟨vm₁, X₁, hstep₁⟩ := X.invokevirtual hexec hown (hK.2.1 _ hlink args) hnamed hmethM hstM hkP hkPi hnm (a := b) (cell := cellB) (by rw [hT]; exact hcB)
    (fun z h => by rw [h] at hoB; cases hoB) hselP hmethM habM hkP hkPi (g := F0 m pc ls st) rfl (argsL := As) (rest := rest) hlen hstack hdg
  obtain ⟨T', ks, k, n, X', hks, hP', hO, ho⟩ := mm_run hC X₁ hexec hJ hK hst h0 (by show mm_P L g T.heap; rw [hT]; exact hP) hF (f := F0 m pc ls rest) rfl (by rw [hml]; exact hsz) hdg hnamed hcode hpl (by omega) (by omega) (by show 2 * 0 + (rest.map fun v => v.category).sum ≤ 8; omega) hce hsl
  refine ⟨T', ks, k, n, X', hks, hP', hO, ?_⟩
  cases oc with
  | inl v => exact ⟨ho.1, ho.2.1, fun tg h => hstep₁ tg fun acts => (ho.2.2 acts).trans h⟩
  | inr x =>
    obtain ⟨q, ce, e1, e2, e3, e4, e5, e6⟩ := ho
    exact ⟨q, ce, e1, e2, e3, e4, e5, fun tg h => hstep₁ tg fun acts => (e6 acts).trans h⟩
theorem mm_goVN {host : String} (hX : mm_Xh hh L cc nL own ret fr lo p l R s m meth c) (hC : mm_C l y cc' nL' ret' fr' lo' L (.ref b :: As) g oc g') (hy : mm_yw y cc' nL' ret' As.length) (hlink : Cond.methodLinkNest own index y host ∈ mm_wn) (hinst : Cond.instanceMethod y ∈ mm_ws) (hsel : Cond.selects y.cls y y ∈ mm_ws)
    (hP : mm_P L g H) (hF : ∀ q ∈ locs, mm_F L q.base) (hB : ∃ cellB : Cell, H[b]? = some cellB ∧ cellB.vm.isStatics = false ∧ s.vm.findClass y.cls = some cellB.cls) (hstack : st = As.reverse ++ .ref b :: rest) (hsz : ls.size = nL) (hW : (rest.map fun v => v.category).sum ≤ 8) (hfr : fr' + 1 ≤ fr) (hlo : 8 + (nL' + 11) + lo' ≤ lo) (hce : cells + 1 ≤ R.cells) (hsl : slots + 6 ≤ R.slots) (hdg : decode cc pc = .ok (.invokevirtual index, 3)) :
    mm_go p l e R s m args below meth c L H locs cells slots (F0 m pc ls st) (F0 m pc ls rest) oc g' := by
  obtain ⟨hexec, hb, hml, hown, hr, hlk, hex, hRf, hRl, hRc, hRs, hJ, hK, hst, h0⟩ := hX
  obtain ⟨hc0, hpl, hnm, hln⟩ := hy
  intro T hT X
  obtain ⟨cellB, hcB, hoB, hclB⟩ := hB
  have hcode := hK.2.1 _ hc0 args
  obtain ⟨mk, methM, hnamed, hmethM, hstM, habM⟩ := Cond.instanceMethod_spec (hK.2.1 _ hinst args)
  obtain ⟨methM', cM, hmethM', -, -, -, -, -, -, hsigM⟩ := Cond.code_spec hnamed hcode
  cases hmethM.symm.trans hmethM'
  obtain ⟨c2, r2, m2, q1, q2, q3, q4, kP, hkP, hkPi⟩ := Cond.selects_spec (hK.2.1 _ hsel args)
  cases hclB.symm.trans q1
  cases (State.methodFound?_of_named hnamed hnm).symm.trans q2
  cases hnamed.symm.trans q3
  have hselP : selectMethod e.platform s.vm cellB.cls mk = .method mk := by rw [Launch.admits_selectMethod X.admits]; exact q4
  have hlen : As.length = methM.sig.parameters.length := by rw [hsigM] at hln; exact (Option.some.inj hln).symm
  subst hb
  obtain ⟨vm₁, X₁, hstep₁⟩ := X.invokevirtualNest hexec hown (hK.2.2.1 _ hlink args) hnamed hmethM hstM hkP hkPi hnm (a := b) (cell := cellB) (by rw [hT]; exact hcB)
    (fun z h => by rw [h] at hoB; cases hoB) hselP hmethM habM hkP hkPi (g := F0 m pc ls st) rfl (argsL := As) (rest := rest) hlen hstack hdg
  obtain ⟨T', ks, k, n, X', hks, hP', hO, ho⟩ := mm_run hC X₁ hexec hJ hK hst h0 (by show mm_P L g T.heap; rw [hT]; exact hP) hF (f := F0 m pc ls rest) rfl (by rw [hml]; exact hsz) hdg hnamed hcode hpl (by omega) (by omega) (by show 2 * 0 + (rest.map fun v => v.category).sum ≤ 8; omega) hce hsl
  refine ⟨T', ks, k, n, X', hks, hP', hO, ?_⟩
  cases oc with
  | inl v => exact ⟨ho.1, ho.2.1, fun tg h => hstep₁ tg fun acts => (ho.2.2 acts).trans h⟩
  | inr x =>
    obtain ⟨q, ce, e1, e2, e3, e4, e5, e6⟩ := ho
    exact ⟨q, ce, e1, e2, e3, e4, e5, fun tg h => hstep₁ tg fun acts => (e6 acts).trans h⟩
theorem mm_goS (hX : mm_Xh hh L cc nL own ret fr lo p l R s m meth c) (hC : mm_C l y cc' nL' ret' fr' lo' L As g oc g') (hy : mm_yw y cc' nL' ret' As.length) (hlink : Cond.methodLink own index y ∈ mm_ws) (hstat : Cond.static y ∈ mm_ws) (hini : Cond.initialized y.cls ∈ mm_ws)
    (hP : mm_P L g H) (hF : ∀ q ∈ locs, mm_F L q.base) (hstack : st = As.reverse ++ rest) (hsz : ls.size = nL) (hW : (rest.map fun v => v.category).sum ≤ 8) (hfr : fr' + 1 ≤ fr) (hlo : 8 + (nL' + 11) + lo' ≤ lo) (hce : cells + 1 ≤ R.cells) (hsl : slots + 6 ≤ R.slots) (hdg : decode cc pc = .ok (.invokestatic index, 3)) :
    mm_go p l e R s m args below meth c L H locs cells slots (F0 m pc ls st) (F0 m pc ls rest) oc g' := by
  obtain ⟨hexec, hb, hml, hown, hr, hlk, hex, hRf, hRl, hRc, hRs, hJ, hK, hst, h0⟩ := hX
  obtain ⟨hc0, hpl, hnm, hln⟩ := hy
  intro T hT X
  have hcode := hK.2.1 _ hc0 args
  obtain ⟨mk, hnamed⟩ := Cond.code_named hcode
  obtain ⟨methM, cM, hmethM, -, -, -, -, -, -, hsigM⟩ := Cond.code_spec hnamed hcode
  have hstatic : methM.isStatic = true := Cond.static_spec hnamed hmethM (hK.2.1 _ hstat args)
  obtain ⟨kP, hkP, -⟩ := className_of_methodNamed hnamed
  have hinitP : kP.init = .initialized := Cond.initialized_spec (findClass_of_methodNamed hnamed) hkP (hK.2.1 _ hini args)
  have hlen : As.length = methM.sig.parameters.length := by rw [hsigM] at hln; exact (Option.some.inj hln).symm
  subst hb
  obtain ⟨vm₁, X₁, hstep₁⟩ := X.invokestatic hexec hown (hK.2.1 _ hlink args) hnamed hmethM hstatic hkP hinitP hnm (g := F0 m pc ls st) rfl (argsL := As) (rest := rest) hlen hstack hdg
  obtain ⟨T', ks, k, n, X', hks, hP', hO, ho⟩ := mm_run hC X₁ hexec hJ hK hst h0 (by show mm_P L g T.heap; rw [hT]; exact hP) hF (f := F0 m pc ls rest) rfl (by rw [hml]; exact hsz) hdg hnamed hcode hpl (by omega) (by omega) (by show 2 * 0 + (rest.map fun v => v.category).sum ≤ 8; omega) hce hsl
  refine ⟨T', ks, k, n, X', hks, hP', hO, ?_⟩
  cases oc with
  | inl v => exact ⟨ho.1, ho.2.1, fun tg h => hstep₁ tg fun acts => (ho.2.2 acts).trans h⟩
  | inr x =>
    obtain ⟨q, ce, e1, e2, e3, e4, e5, e6⟩ := ho
    exact ⟨q, ce, e1, e2, e3, e4, e5, fun tg h => hstep₁ tg fun acts => (e6 acts).trans h⟩
end MMC
section MMT
variable {p : Program} {l : Launch} {e : Env} {R : Room} {s : State} {m : MethodId} {args : Array Value} {below : List Frame} {meth : Method} {c : Code} {H : Heap} {locs : List Loc} {cells slots : Nat} {Q : State → Prop}
/-- the walk begun anew where it stands -/
theorem mm_rebase {T : State} (X : Stand p l e R s m args below meth c T locs cells slots) {R' : Room} (h1 : R'.frames ≤ R.frames) (h2 : R'.locals ≤ R.locals) (h3 : cells + R'.cells ≤ R.cells) (h4 : slots + R'.slots ≤ R.slots) :
    Stand p l e R' (T.setFrames (.invoking m args :: below)) m args below meth c T [] 0 0 := by
  obtain ⟨f0, hfr⟩ := X.frames_eq
  have hcur : T.cur < T.threads.size := State.cur_lt_of_frames hfr
  have hF : (T.setFrames (.invoking m args :: below)).frames = .invoking m args :: below := State.frames_setFrames _ hcur
  obtain ⟨th, hth, -⟩ := State.frames_cons hfr
  have hm : (T.setFrames (.invoking m args :: below)).vm.method? m = some meth := X.method'
  refine ⟨X.admits, X.cas, X.clock, hF, ?_, ?_, hm, X.code, X.here, X.tail, State.WarmedH.refl _, by rw [State.stackLimits_setFrames], by rw [State.stackBytes_setFrames], ?_⟩
  · obtain ⟨r1, r2, r3, r4⟩ := State.hasRoom_stack X.room
    have r5 := State.hasRoom_real X.room
    have h := X.room
    simp only [State.hasRoom, Bool.and_eq_true, decide_eq_true_eq] at h
    rw [State.localsInUse_invoking X.frames X.method X.code] at r3 r4 r5
    rw [X.frames, List.length_cons] at r1 r2
    have hU := State.localsInUse_invoking hF hm X.code
    have z1 := X.heapSize
    have z2 := X.used
    simp only [State.hasRoom, Bool.and_eq_true, decide_eq_true_eq, hF, hU, List.length_cons, State.stackLimits_setFrames, State.stackBytes_setFrames, X.limits, X.bytes]
    refine ⟨⟨⟨⟨by omega, by omega, by omega, by omega, by omega, h.1.1.1.2.2.2.2.2⟩, ?_⟩, ?_⟩, X.book⟩
    · have := h.1.1.2
      show T.heap.size + R'.cells ≤ e.platform.maxCells
      omega
    · have := h.1.2
      show T.slotsUsed + R'.slots ≤ e.platform.maxSlots
      omega
  · have hh := X.hears
    have hm' : T.vm.method? m = some meth := X.method'
    rcases below with _ | ⟨y, r⟩
    · simpa [State.hears, X.method, hm'] using hh
    · have e1 : ∀ z, T.vm.method? z = s.vm.method? z := fun z => X.warmed.alike.method? z
      cases y <;> first | rfl | (simpa [State.hears, X.method, hm'] using hh) | skip
      · simp only [State.hears, State.code?_eq] at hh ⊢
        show (((T.vm.method? _).bind _).bind _).isSome = true
        rw [e1]
        exact hh
  · have h := (State.sameButNew.refl (T.setFrames (.invoking m args :: below)) (x := { th with frames := .invoking m args :: below }) (by simp [State.setFrames, Array.getElem?_modify, hth])).setFrames T.frames (by simpa [State.setFrames] using hcur)
    rw [State.setFrames_setFrames, State.setFrames_self hth] at h
    exact h
/-- what the walk begun anew has moved, counted from the first start -/
theorem mm_since {T t : State} {fs : List Frame} {ks : List Loc} {k n : Nat} (h1 : s.sameButNew (T.setVm s.vm) locs cells slots) (h2 : (T.setFrames fs).sameButNew ({ t with vm := (T.setFrames fs).vm } : State) ks k n) : s.sameButNew ({ t with vm := s.vm } : State) (locs ++ ks) (cells + k) (slots + n) := by
  refine h1.trans ?_
  obtain ⟨e2, q2, q3, q4, q5, q6⟩ := h2
  refine ⟨?_, q2, q3, q4, q5, q6⟩
  have e3 := congrArg (fun z : State => z.setVm s.vm) e2
  have e4 : ({ t with vm := s.vm } : State) = ({ t with vm := (T.setFrames fs).vm } : State).setVm s.vm := rfl
  rw [e4]
  refine e3.trans ?_
  rw [State.setFrames_setFrames]
  rfl
/-- 'new X(text)', thrown -/
theorem mm_throw {cc : ByteArray} {nL fr lo : Nat} {own : String} {ret : Option FieldType} {L : mm_L} {g : mm_M} {pc x ia ib ic : Nat} {ls : Array Slot} {tx : String} {names : List String} (hX : mm_X L cc nL own ret fr lo p l R s m meth c) (hP : mm_P L g H) (hF : ∀ q ∈ locs, mm_F L q.base)
    (hcl : Cond.classLink own ia (mm_ex x) ∈ mm_ws) (hins : Cond.instantiable (mm_ex x) 6 ∈ mm_ws) (hini : Cond.initialized (mm_ex x) ∈ mm_ws) (hstr : (own, ib, tx) ∈ mm_str) (hat : ∀ w ∈ Bundle.ownAtoms own ic (mm_ex x) names, w ∈ mm_ws ∨ w ∈ mm_sw) (hfit : Bundle.fit (mm_ex x) = true) (hfits : ∀ n ∈ names, Bundle.fit n = true)
    (hsz : ls.size = nL) (hfr : names.length + 3 < fr) (hlo : 1 + (13 * (names.length + 1) + 42) ≤ lo) (d0 : decode cc pc = .ok (.new ia, 3)) (d3 : decode cc (pc + 3) = .ok (.dup, 1)) (d4 : decode cc (pc + 4) = .ok (.ldc ib, 2)) (d6 : decode cc (pc + 6) = .ok (.invokespecial ic, 3)) (d9 : decode cc (pc + 9) = .ok (.athrow, 1)) :
    W p l e R s m args below meth c H locs 0 0 (mm_Q below L s (.inr x) g) (F0 m pc ls []) := by
  obtain ⟨hexec, hb, hml, hown, hr, hlk, hex, hRf, hRl, hRc, hRs, hJ, hK, hst, h0⟩ := hX
  intro T hT X
  have X0 := mm_rebase X (R' := R) (Nat.le_refl _) (Nat.le_refl _) (by omega) (by omega)
  have hstill : ∀ (q : Nat) (cell : Cell), s.heap[q]? = some cell → cell.vm.isStatics = true → T.heap[q]? = some cell := mm_still X h0 hF
  have hK0 : mm_K L (T.setFrames (.invoking m args :: below)) := hK.to (U := T.setFrames (.invoking m args :: below)) X.warmed hstill
  have hown0 : (T.setFrames (.invoking m args :: below)).vm.findClass own = some m.cls := by
    show T.vm.findClass own = _
    rw [X.warmed.alike.findClass]
    exact hown
  have hP0 : mm_P L g (T.setFrames (.invoking m args :: below)).heap := by show mm_P L g T.heap; rw [hT]; exact hP
  have hfind : ∀ n : String, (T.setFrames (.invoking m args :: below)).vm.findClass n = s.vm.findClass n := fun n => X.warmed.alike.findClass n _
  have hsame := X.same
  have hwarm : s.WarmedH (T.setFrames (.invoking m args :: below)).vm := X.warmed
  have hTH : (T.setFrames (.invoking m args :: below)).heap = H := hT
  have key : W p l e R (T.setFrames (.invoking m args :: below)) m args below meth c H [] 0 0 (mm_Q below L (T.setFrames (.invoking m args :: below)) (.inr x) g) (F0 m pc ls []) := by
    generalize hS0 : T.setFrames (.invoking m args :: below) = S0 at hK0 hown0 hP0 hTH
    obtain ⟨qs, hqs⟩ := hK0.2.2.2.1 _ hstr
    obtain ⟨cX, kX, hcX, hkX, -⟩ := Cond.instantiable_spec (hK0.2.1 _ hins args)
    refine W.newcK hexec hb hown0 (hK0.2.1 _ hcl args) (hK0.2.1 _ hins args) (hK0.2.1 _ hini args) rfl d0 (by omega) (by omega) hcX rfl fun H1 kC hkC e1 z1 o1 => ?_
    cases hkX.symm.trans hkC
    refine lv_dup hexec hb d3 rfl ?_
    refine va_ldcS hexec hb hown0 hqs d4 ?_
    intro T1 hT1 X1
    have hW1 : T1.heap[H.size]? = some (freshCell cX kX) := by rw [hT1]; exact e1
    obtain ⟨U, u1, u2, u3, u4, u5, ce, u6, u7⟩ := X1.ctorThrowS hexec (hst e X1.admits) (ic := ic) (cls := mm_ex x) (names := names) hown0 hfit hfits
      (fun w hw => by
        rcases hat w hw with h | h
        · exact hK0.2.1 w h args
        · simp only [mm_sw, List.mem_cons, List.not_mem_nil, or_false] at h
          rcases h with rfl | rfl | rfl | rfl
          · exact (hK0.2.2.2.2.1 args).1
          · exact (hK0.2.2.2.2.1 args).2
          · exact (hK0.2.2.2.2.2.1 args).1
          · exact (hK0.2.2.2.2.2.1 args).2)
      (fun z hz => by cases hz) hcX hkX hW1 (by rw [← hTH]; exact Nat.le_refl _) (msg := .ref qs) rfl (g := F0 m (pc + 3 + 1 + 2) ls (.ref qs :: .ref H.size :: .ref H.size :: [])) rfl (by rw [hml]; exact hsz) rfl rfl (rest := []) rfl (by rw [hb]; exact d6) (by rw [hb]; exact d9)
      (by have he : c.exceptionTable.toList = [] := List.map_eq_nil_iff.mp hex
          rw [he]; intro z hz; cases hz) (by omega) (by show 2 * 0 + (1 + 0) + _ ≤ _; omega) hlk
    refine ⟨U, u1, u2, u4, hP0.kept (fun q hq => ?_), [], 0 + 1, 0 + 6, u5, (fun z hz => by cases hz), H.size, ce, u3, u6, u7.vm, u7.cls, rfl, rfl⟩
    obtain ⟨c1, k1⟩ : ∃ c1, S0.heap[q]? = some c1 := ⟨_, Array.getElem?_eq_getElem (hP0.lt hq)⟩
    rw [k1]
    exact mm_frame u5 (fun z hz => by cases hz) k1
  obtain ⟨t, a1, w1, w2, w3, ks, k, n, w4, w5, q, ce, w6, w7, w8, w9, rfl, rfl⟩ := key T hT X0
  exact ⟨t, a1, w1, State.WarmedH.trans hwarm w2, w3, locs ++ ks, 0 + 1, 0 + 6, mm_since hsame w4, mm_ap hF w5, q, ce, w6, w7, w8, by rw [← hfind]; exact w9, rfl, rfl⟩
end MMT
section MMR
variable {p : Program} {l : Launch} {e : Env} {R : Room} {s : State} {m : MethodId} {args : Array Value} {below : List Frame} {meth : Method} {c : Code} {H : Heap} {locs : List Loc} {cells slots : Nat} {Q : State → Prop}
variable {hh : List (Nat × Nat × Nat × Nat)} {cc : ByteArray} {own : String} {ret : Option FieldType} {nL fr lo : Nat} {L : mm_L} {g : mm_M} {pc index h i : Nat} {ls : Array Slot} {rest : List Value}
theorem mm_one (hP : mm_P L g H) (hlv : mm_lv L.1 h i) {x : va_E} (hcz : mm_cz L h i (g h i) = x) : va_P L.2.2.1 vwCl [(L.2.1 h i, x)] H := by
  intro k q hk
  have hz : k < 1 := (List.getElem?_eq_some_iff.mp hk).1
  rw [show k = 0 by omega] at hk
  cases hk
  rw [← hcz]
  exact hP h i hlv
theorem mm_get {C ref name desc : String} {T : u_T} {N ci : Nat} {fs : List Value} {v : Value} (k : Nat) (hX : mm_Xh hh L cc nL own ret fr lo p l R s m meth c) (hP : mm_P L g H) (hlv : mm_lv L.1 h i) (hcz : mm_cz L h i (g h i) = .inr (ci, fs)) (hc : vwCl[ci]? = some (C, T, N)) (hin : ∀ w ∈ u_ws C T N, w ∈ mm_ws) (hk : k < N) (hT : (T k).1 = ref ∧ (T k).2.1 = name ∧ (T k).2.2.1 = desc) (hlink : Cond.fieldLink own index ref name desc ∈ mm_ws) (hv : fs[k]? = some v) (hdg : decode cc pc = .ok (.getfield index, 3))
    (kk : W p l e R s m args below meth c H locs cells slots Q (F0 m (pc + 3) ls (v :: rest))) : W p l e R s m args below meth c H locs cells slots Q (F0 m pc ls (.ref (L.2.1 h i) :: rest)) := by
  obtain ⟨hexec, hb, hml, hown, -, -, -, -, -, -, -, -, hK, -⟩ := hX
  obtain ⟨rfl, rfl, rfl⟩ := hT
  exact va_get hexec hb (Ts := mm_ws) (fun w hw => hK.2.1 w hw args) hin hown hK.1 (mm_one hP hlv hcz) 0 rfl hc k hk (hK.2.1 _ hlink args) (fun _ z => z) hv hdg kk
theorem mm_getN {C ref name desc host : String} {T : u_T} {N ci : Nat} {fs : List Value} {v : Value} (k : Nat) (hX : mm_Xh hh L cc nL own ret fr lo p l R s m meth c) (hP : mm_P L g H) (hlv : mm_lv L.1 h i) (hcz : mm_cz L h i (g h i) = .inr (ci, fs)) (hc : vwCl[ci]? = some (C, T, N)) (hin : ∀ w ∈ u_ws C T N, w ∈ mm_ws) (hk : k < N) (hT : (T k).1 = ref ∧ (T k).2.1 = name ∧ (T k).2.2.1 = desc) (hlink : Cond.fieldLinkNest own index ref name desc host ∈ mm_wn) (hv : fs[k]? = some v) (hdg : decode cc pc = .ok (.getfield index, 3))
    (kk : W p l e R s m args below meth c H locs cells slots Q (F0 m (pc + 3) ls (v :: rest))) : W p l e R s m args below meth c H locs cells slots Q (F0 m pc ls (.ref (L.2.1 h i) :: rest)) := by
  obtain ⟨hexec, hb, hml, hown, -, -, -, -, -, -, -, -, hK, -⟩ := hX
  obtain ⟨rfl, rfl, rfl⟩ := hT
  exact va_getN hexec hb (Ts := mm_ws) (fun w hw => hK.2.1 w hw args) hin hown hK.1 (mm_one hP hlv hcz) 0 rfl hc k hk (hK.2.2.1 _ hlink args) (fun _ z => z) hv hdg kk
theorem mm_put {C ref name desc : String} {T : u_T} {N ci : Nat} {fs : List Value} {ty : FieldType} {x : Int32} (k : Nat) (hX : mm_Xh hh L cc nL own ret fr lo p l R s m meth c) (hP : mm_P L g H) (hF : ∀ q ∈ locs, mm_F L q.base) (hlv : mm_lv L.1 h i) (hcz : mm_cz L h i (g h i) = .inr (ci, fs)) (hcz' : mm_cz L h i (upd (g h i) k x) = .inr (ci, fs.set k (.int x))) (hc : vwCl[ci]? = some (C, T, N)) (hin : ∀ w ∈ u_ws C T N, w ∈ mm_ws) (ty0 : Nat → FieldType) (hty : ∀ k, k < N → parseFieldDescriptor (T k).2.2.1 = some (ty0 k)) (hnm : ∀ a, a < N → ∀ b, b < N → a ≠ b → (T a).2.1 ≠ (T b).2.1) (hk : k < N) (hT : (T k).1 = ref ∧ (T k).2.1 = name ∧ (T k).2.2.1 = desc) (hfin : (T k).2.2.2 = false) (hlink : Cond.fieldLink own index ref name desc ∈ mm_ws) (ht : ty0 k = ty) (hn : narrow ty (.int x) = .int x) (hfit : fits ty (.int x) = true) (hl : k < fs.length) (hdg : decode cc pc = .ok (.putfield index, 3))
    (kk : ∀ (H1 : Heap) (locs1 : List Loc), mm_P L (mm_st g h i k x) H1 → (∀ q ∈ locs1, mm_F L q.base) → W p l e R s m args below meth c H1 locs1 cells slots Q (F0 m (pc + 3) ls rest)) : W p l e R s m args below meth c H locs cells slots Q (F0 m pc ls (.int x :: .ref (L.2.1 h i) :: rest)) := by
  obtain ⟨hexec, hb, hml, hown, -, -, -, -, -, -, -, hJ, hK, -⟩ := hX
  obtain ⟨rfl, rfl, rfl⟩ := hT
  subst ht
  have hts : ∀ w ∈ mm_ws, w.before args s = true := fun w hw => hK.2.1 w hw args
  have hap := va_apart (own := own) hts hin ty0 hty hnm hK.1 hc
  obtain ⟨r, h1, cell, q1, q2, q3, q4⟩ := mm_one hP hlv hcz 0 _ rfl
  have hr : r = (C, T, N) := Option.some.inj (h1.symm.trans hc)
  subst hr
  obtain ⟨hS, hfc, kC, hkC, hkind⟩ := hK.1.1 ci _ hc
  obtain ⟨cf, kf, fi, f, hi, hsl⟩ := hS k hk
  have hlay := hts _ (hin _ (u_in_lay hk))
  unfold u_lay at hlay
  rw [if_neg (by rw [hfin]; decide)] at hlay
  have hst := (u_facts hfc hkC (u_lays hts hin hk) hi).1
  have h6 := u_store hfc hkC hkind hlay hi (hty k hk) hn hfit
  refine W.putK hexec hb (f := f) ⟨hown, hts _ hlink, ⟨_, _, _, hi⟩, hst⟩ (by rw [q2]; exact h6) q1 q3 (by rw [hsl]; exact k2_hasslot (q4 k hk)) rfl rfl hdg fun H' e1 e2 e3 => ?_
  rw [hsl] at e1 ⊢
  refine kk H' _ (hP.set hJ hlv ?_ e3) (mm_ap hF (fun q hq => by rw [List.mem_singleton.mp hq]; exact ⟨h, i, hlv, rfl⟩))
  rw [hcz']
  exact ⟨_, hc, t_OB.to (V := updV (vp_V fs) k (.int x)) ⟨_, e1, q2, q3, t_set q4 hap hk (.int x)⟩ (fun j _ => vp_updV_set hl (.int x) j)⟩
theorem mm_putN {C ref name desc host : String} {T : u_T} {N ci : Nat} {fs : List Value} {ty : FieldType} {x : Int32} (k : Nat) (hX : mm_Xh hh L cc nL own ret fr lo p l R s m meth c) (hP : mm_P L g H) (hF : ∀ q ∈ locs, mm_F L q.base) (hlv : mm_lv L.1 h i) (hcz : mm_cz L h i (g h i) = .inr (ci, fs)) (hcz' : mm_cz L h i (upd (g h i) k x) = .inr (ci, fs.set k (.int x))) (hc : vwCl[ci]? = some (C, T, N)) (hin : ∀ w ∈ u_ws C T N, w ∈ mm_ws) (ty0 : Nat → FieldType) (hty : ∀ k, k < N → parseFieldDescriptor (T k).2.2.1 = some (ty0 k)) (hnm : ∀ a, a < N → ∀ b, b < N → a ≠ b → (T a).2.1 ≠ (T b).2.1) (hk : k < N) (hT : (T k).1 = ref ∧ (T k).2.1 = name ∧ (T k).2.2.1 = desc) (hfin : (T k).2.2.2 = false) (hlink : Cond.fieldLinkNest own index ref name desc host ∈ mm_wn) (ht : ty0 k = ty) (hn : narrow ty (.int x) = .int x) (hfit : fits ty (.int x) = true) (hl : k < fs.length) (hdg : decode cc pc = .ok (.putfield index, 3))
    (kk : ∀ (H1 : Heap) (locs1 : List Loc), mm_P L (mm_st g h i k x) H1 → (∀ q ∈ locs1, mm_F L q.base) → W p l e R s m args below meth c H1 locs1 cells slots Q (F0 m (pc + 3) ls rest)) : W p l e R s m args below meth c H locs cells slots Q (F0 m pc ls (.int x :: .ref (L.2.1 h i) :: rest)) := by
  obtain ⟨hexec, hb, hml, hown, -, -, -, -, -, -, -, hJ, hK, -⟩ := hX
  obtain ⟨rfl, rfl, rfl⟩ := hT
  subst ht
  have hts : ∀ w ∈ mm_ws, w.before args s = true := fun w hw => hK.2.1 w hw args
  have hap := va_apart (own := own) hts hin ty0 hty hnm hK.1 hc
  obtain ⟨r, h1, cell, q1, q2, q3, q4⟩ := mm_one hP hlv hcz 0 _ rfl
  have hr : r = (C, T, N) := Option.some.inj (h1.symm.trans hc)
  subst hr
  obtain ⟨hS, hfc, kC, hkC, hkind⟩ := hK.1.1 ci _ hc
  obtain ⟨cf, kf, fi, f, hi, hsl⟩ := hS k hk
  have hlay := hts _ (hin _ (u_in_lay hk))
  unfold u_lay at hlay
  rw [if_neg (by rw [hfin]; decide)] at hlay
  have hst := (u_facts hfc hkC (u_lays hts hin hk) hi).1
  have h6 := u_store hfc hkC hkind hlay hi (hty k hk) hn hfit
  refine va_WputK hexec hb (f := f) hown (hK.2.2.1 _ hlink args) hi hst (by rw [q2]; exact h6) q1 q3 (by rw [hsl]; exact k2_hasslot (q4 k hk)) rfl rfl hdg fun H' e1 e2 e3 => ?_
  rw [hsl] at e1 ⊢
  refine kk H' _ (hP.set hJ hlv ?_ e3) (mm_ap hF (fun q hq => by rw [List.mem_singleton.mp hq]; exact ⟨h, i, hlv, rfl⟩))
  rw [hcz']
  exact ⟨_, hc, t_OB.to (V := updV (vp_V fs) k (.int x)) ⟨_, e1, q2, q3, t_set q4 hap hk (.int x)⟩ (fun j _ => vp_updV_set hl (.int x) j)⟩
theorem mm_iald {cA : ClassId} {n : Nat} {x : Int32} (hX : mm_Xh hh L cc nL own ret fr lo p l R s m meth c) (hP : mm_P L g H) (hlv : mm_lv L.1 h i) (hcz : ∀ w, mm_cz L h i w = .inl (cA, n, .inl w)) (ht : (mm_tys L)[0]? = some (cA, .int)) (hin : vp_in x n) (hdg : decode cc pc = .ok (.iaload, 1))
    (kk : W p l e R s m args below meth c H locs cells slots Q (F0 m (pc + 1) ls (.int (g h i x.toNatClampNeg) :: rest))) : W p l e R s m args below meth c H locs cells slots Q (F0 m pc ls (.int x :: .ref (L.2.1 h i) :: rest)) := by
  obtain ⟨hexec, hb, hml, hown, -, -, -, -, -, -, -, -, hK, -⟩ := hX
  exact va_iald hexec hb hK.1 (mm_one hP hlv (hcz _)) 0 0 rfl ht hin hdg kk
theorem mm_zald {cA : ClassId} {n : Nat} {x : Int32} (hX : mm_Xh hh L cc nL own ret fr lo p l R s m meth c) (hP : mm_P L g H) (hlv : mm_lv L.1 h i) (hcz : ∀ w, mm_cz L h i w = .inl (cA, n, .inl w)) (ht : (mm_tys L)[1]? = some (cA, .boolean)) (hin : vp_in x n) (hdg : decode cc pc = .ok (.baload, 1))
    (kk : W p l e R s m args below meth c H locs cells slots Q (F0 m (pc + 1) ls (.int (g h i x.toNatClampNeg) :: rest))) : W p l e R s m args below meth c H locs cells slots Q (F0 m pc ls (.int x :: .ref (L.2.1 h i) :: rest)) := by
  obtain ⟨hexec, hb, hml, hown, -, -, -, -, -, -, -, -, hK, -⟩ := hX
  exact va_zald hexec hb hK.1 (mm_one hP hlv (hcz _)) 0 1 rfl ht hin hdg kk
theorem mm_aald {cA : ClassId} {n t : Nat} {x : Int32} {C : String} {f : Nat → Option Nat} {b : Nat} (hX : mm_Xh hh L cc nL own ret fr lo p l R s m meth c) (hP : mm_P L g H) (hlv : mm_lv L.1 h i) (hcz : mm_cz L h i (g h i) = .inl (cA, n, .inr (.inr (.inr (.inr f))))) (ht : (mm_tys L)[t]? = some (cA, .object C)) (hf : f x.toNatClampNeg = some b) (hin : vp_in x n) (hdg : decode cc pc = .ok (.aaload, 1))
    (kk : W p l e R s m args below meth c H locs cells slots Q (F0 m (pc + 1) ls (.ref b :: rest))) : W p l e R s m args below meth c H locs cells slots Q (F0 m pc ls (.int x :: .ref (L.2.1 h i) :: rest)) := by
  obtain ⟨hexec, hb, hml, hown, -, -, -, -, -, -, -, -, hK, -⟩ := hX
  refine va_aldq hexec hb hK.1 (mm_one hP hlv hcz) 0 t rfl ht hin hdg ?_
  rw [hf]
  exact kk
theorem mm_alen {cA : ClassId} {t : Nat} {ty : FieldType} {x : vp_A} {v : Int32} (hX : mm_Xh hh L cc nL own ret fr lo p l R s m meth c) (hP : mm_P L g H) (hlv : mm_lv L.1 h i) (hcz : mm_cz L h i (g h i) = .inl (cA, x)) (ht : (mm_tys L)[t]? = some (cA, ty)) (hv : Int32.ofNat x.1 = v) (hdg : decode cc pc = .ok (.arraylength, 1))
    (kk : W p l e R s m args below meth c H locs cells slots Q (F0 m (pc + 1) ls (.int v :: rest))) : W p l e R s m args below meth c H locs cells slots Q (F0 m pc ls (.ref (L.2.1 h i) :: rest)) := by
  obtain ⟨hexec, hb, hml, hown, -, -, -, -, -, -, -, -, hK, -⟩ := hX
  exact va_alen hexec hb hK.1 (mm_one hP hlv hcz) 0 t rfl ht hv hdg kk
theorem mm_iast {cA : ClassId} {n : Nat} {x v : Int32} (hX : mm_Xh hh L cc nL own ret fr lo p l R s m meth c) (hP : mm_P L g H) (hF : ∀ q ∈ locs, mm_F L q.base) (hlv : mm_lv L.1 h i) (hcz : ∀ w, mm_cz L h i w = .inl (cA, n, .inl w)) (ht : (mm_tys L)[0]? = some (cA, .int)) (hin : vp_in x n) (hdg : decode cc pc = .ok (.iastore, 1))
    (kk : ∀ (H1 : Heap) (locs1 : List Loc), mm_P L (mm_st g h i x.toNatClampNeg v) H1 → (∀ q ∈ locs1, mm_F L q.base) → W p l e R s m args below meth c H1 locs1 cells slots Q (F0 m (pc + 1) ls rest)) : W p l e R s m args below meth c H locs cells slots Q (F0 m pc ls (.int v :: .int x :: .ref (L.2.1 h i) :: rest)) := by
  obtain ⟨hexec, hb, hml, hown, -, -, -, -, -, -, -, hJ, hK, -⟩ := hX
  have h1 := hP h i hlv
  rw [hcz] at h1
  refine W.iast hexec hb h1 ((hK.1.2 0 _ ht).1 n (fun j => .int (g h i j))) (fun q => by cases q) (by show ¬ (x < 0 ∨ (arrV _ _ _).slots.size ≤ _); rw [arrV_size]; exact hin) rfl rfl hdg fun H1 e z oq => ?_
  refine kk H1 _ (hP.set hJ hlv ?_ oq) (mm_ap hF (fun q hq => by rw [List.mem_singleton.mp hq]; exact ⟨h, i, hlv, rfl⟩))
  rw [hcz]
  show H1[L.2.1 h i]? = some (vp_cell _ _)
  rw [e, vp_cell_i, vp_cell_i, arrV_store]
  congr 2
  funext q
  by_cases hq : q = x.toNatClampNeg
  · subst hq
    simp [updV, upd]
  · simp [updV, upd, hq]
theorem mm_zast {cA : ClassId} {n : Nat} {x v : Int32} (hX : mm_Xh hh L cc nL own ret fr lo p l R s m meth c) (hP : mm_P L g H) (hF : ∀ q ∈ locs, mm_F L q.base) (hlv : mm_lv L.1 h i) (hcz : ∀ w, mm_cz L h i w = .inl (cA, n, .inl w)) (ht : (mm_tys L)[1]? = some (cA, .boolean)) (hin : vp_in x n) (hdg : decode cc pc = .ok (.bastore, 1))
    (kk : ∀ (H1 : Heap) (locs1 : List Loc), mm_P L (mm_st g h i x.toNatClampNeg (vp_nar .boolean v)) H1 → (∀ q ∈ locs1, mm_F L q.base) → W p l e R s m args below meth c H1 locs1 cells slots Q (F0 m (pc + 1) ls rest)) : W p l e R s m args below meth c H locs cells slots Q (F0 m pc ls (.int v :: .int x :: .ref (L.2.1 h i) :: rest)) := by
  obtain ⟨hexec, hb, hml, hown, -, -, -, -, -, -, -, hJ, hK, -⟩ := hX
  have h1 := hP h i hlv
  rw [hcz] at h1
  refine W.zast hexec hb h1 ((hK.1.2 1 _ ht).1 n (fun j => .int (g h i j))) (fun q => by cases q) (by show ¬ (x < 0 ∨ (arrV _ _ _).slots.size ≤ _); rw [arrV_size]; exact hin) rfl rfl hdg fun H1 e z oq => ?_
  refine kk H1 _ (hP.set hJ hlv ?_ oq) (mm_ap hF (fun q hq => by rw [List.mem_singleton.mp hq]; exact ⟨h, i, hlv, rfl⟩))
  rw [hcz]
  show H1[L.2.1 h i]? = some (vp_cell _ _)
  rw [e, vp_cell_i, vp_cell_i, arrV_store]
  congr 2
  funext q
  by_cases hq : q = x.toNatClampNeg
  · subst hq
    simp [updV, upd, vp_nar]
    try rfl
  · simp [updV, upd, hq]
/-- the receiver of a call -/
theorem mm_recv {C : String} {T : u_T} {N ci : Nat} {fs : List Value} (hX : mm_Xh hh L cc nL own ret fr lo p l R s m meth c) (hP : mm_P L g H) (hlv : mm_lv L.1 h i) (hcz : mm_cz L h i (g h i) = .inr (ci, fs)) (hc : vwCl[ci]? = some (C, T, N)) : ∃ cellB : Cell, H[L.2.1 h i]? = some cellB ∧ cellB.vm.isStatics = false ∧ s.vm.findClass C = some cellB.cls := by
  obtain ⟨hexec, hb, hml, hown, -, -, -, -, -, -, -, -, hK, -⟩ := hX
  exact va_recv hK.1 (mm_one hP hlv hcz) hc (q0 := 0) rfl
end MMR
def mm_cp {α : Type} (sp dp n : Int32) (n0 n1 : Nat) (k : Option α) : Option α := if ¬ sp < 0 ∧ ¬ dp < 0 ∧ ¬ n < 0 ∧ sp.toNatClampNeg + n.toNatClampNeg ≤ n0 ∧ dp.toNatClampNeg + n.toNatClampNeg ≤ n1 then k else none
theorem mm_cp_some {α : Type} {sp dp n : Int32} {n0 n1 : Nat} {k : Option α} {y : α} (h : mm_cp sp dp n n0 n1 k = some y) : ¬ sp < 0 ∧ ¬ dp < 0 ∧ ¬ n < 0 ∧ sp.toNatClampNeg + n.toNatClampNeg ≤ n0 ∧ dp.toNatClampNeg + n.toNatClampNeg ≤ n1 ∧ k = some y := by
  unfold mm_cp at h
  by_cases hc : ¬ sp < 0 ∧ ¬ dp < 0 ∧ ¬ n < 0 ∧ sp.toNatClampNeg + n.toNatClampNeg ≤ n0 ∧ dp.toNatClampNeg + n.toNatClampNeg ≤ n1
  · rw [if_pos hc] at h
    exact ⟨hc.1, hc.2.1, hc.2.2.1, hc.2.2.2.1, hc.2.2.2.2, h⟩
  · rw [if_neg hc] at h
    cases h
section MMZ
variable {p : Program} {l : Launch} {e : Env} {R : Room} {s : State} {m : MethodId} {args : Array Value} {below : List Frame} {meth : Method} {c : Code} {H : Heap} {locs : List Loc} {cells slots : Nat} {Q : State → Prop}
variable {hh : List (Nat × Nat × Nat × Nat)} {cc : ByteArray} {own : String} {ret : Option FieldType} {nL fr lo : Nat} {L : mm_L} {g : mm_M} {pc index h i : Nat} {ls : Array Slot} {rest : List Value}
theorem mm_acopy {cA : ClassId} {n0 : Nat} {sp dp n : Int32} (hX : mm_Xh hh L cc nL own ret fr lo p l R s m meth c) (hP : mm_P L g H) (hF : ∀ q ∈ locs, mm_F L q.base) (hlv : mm_lv L.1 h i) (hcz : ∀ w, mm_cz L h i w = .inl (cA, n0, .inl w)) (ht : (mm_tys L)[0]? = some (cA, .int))
    (hlink : Cond.methodLink own index arraycopyName ∈ mm_ws) (hnat : Cond.native arraycopyName ∈ mm_ws) (hstat : Cond.static arraycopyName ∈ mm_ws) (hini : Cond.initialized "java/lang/System" ∈ mm_ws)
    (h1 : ¬ sp < 0) (h2 : ¬ dp < 0) (h3 : ¬ n < 0) (h4 : sp.toNatClampNeg + n.toNatClampNeg ≤ n0) (h5 : dp.toNatClampNeg + n.toNatClampNeg ≤ n0) (hsz : ls.size = nL) (hfr : 1 ≤ fr) (hlo : (rest.map fun v => v.category).sum + (nativeFrameWords "java/lang/System" "arraycopy" 5 + 11) ≤ lo) (hdg : decode cc pc = .ok (.invokestatic index, 3))
    (kk : ∀ (H1 : Heap) (locs1 : List Loc), mm_P L (mm_row g h i (va_cpy (g h i) (g h i) sp.toNatClampNeg dp.toNatClampNeg n.toNatClampNeg)) H1 → (∀ q ∈ locs1, mm_F L q.base) → W p l e R s m args below meth c H1 locs1 cells slots Q (F0 m (pc + 3) ls rest)) :
    W p l e R s m args below meth c H locs cells slots Q (F0 m pc ls (.int n :: .int dp :: .ref (L.2.1 h i) :: .int sp :: .ref (L.2.1 h i) :: rest)) := by
  obtain ⟨hexec, hb, hml, hown, -, -, -, hRf, hRl, -, -, hJ, hK, -⟩ := hX
  have hc1 := hP h i hlv
  rw [hcz] at hc1
  have hc1 : H[L.2.1 h i]? = some (vp_cell cA (n0, .inl (g h i))) := hc1
  intro T hT X
  have nn : ∀ z : Int32, ¬ z < 0 → z.toInt = (z.toNatClampNeg : Int) := by
    intro z hz
    have hz0 : (0 : Int) ≤ z.toInt := by
      have := Int32.not_lt.mp hz
      simpa using Int32.le_iff_toInt_le.mp this
    show z.toInt = ((z.toInt.toNat : Nat) : Int)
    omega
  obtain ⟨-, k0, hk0, cm0, hkk0⟩ := (hK.1.2 0 _ ht).1 n0 (fun j => .int (g h i j))
  obtain ⟨vm', X', step⟩ := X.arraycopy hexec hown (hK.2.1 _ hlink args) (hK.2.1 _ hnat args) (hK.2.1 _ hstat args) (hK.2.1 _ hini args) (src := L.2.1 h i) (dst := L.2.1 h i) (cs := vp_cell cA (n0, .inl (g h i))) (cd := vp_cell cA (n0, .inl (g h i))) (srcPos := sp) (destPos := dp) (n := n) (by rw [hT]; exact hc1) (by rw [hT]; exact hc1)
    (fun _ h => by cases h) (fun _ h => by cases h) (fun h => by cases h) (fun h => by cases h) hk0 hk0 hkk0 hkk0 (by simp [refKind]) h1 h2 h3
    (by rw [nn sp h1, nn n h3]; show ¬ _ > ((arrV cA n0 (fun j => .int (g h i j))).slots.size : Int); rw [arrV_size]; omega)
    (by rw [nn dp h2, nn n h3]; show ¬ _ > ((arrV cA n0 (fun j => .int (g h i j))).slots.size : Int); rw [arrV_size]; omega)
    (fun vm₁ _ j hj => by
      have e1 : (vp_cell cA (n0, .inl (g h i))).slots.getD (sp.toNatClampNeg + j) .null = .int (g h i (sp.toNatClampNeg + j)) := by
        show (arrV cA n0 (fun j => .int (g h i j))).slots.getD _ _ = _
        rw [Array.getD_eq_getD_getElem?, arrV_read _ _ (by omega)]
        rfl
      refine ⟨?_, ?_⟩
      · rw [e1]
        rfl
      · rw [e1]
        exact trivial)
    (g := F0 m pc ls (.int n :: .int dp :: .ref (L.2.1 h i) :: .int sp :: .ref (L.2.1 h i) :: rest)) rfl (by rw [hml]; exact hsz) (rest := rest) rfl (by rw [hb]; exact hdg) (by omega) (by show 2 * 0 + _ + _ ≤ _; omega)
  have e1 : copied (vp_cell cA (n0, .inl (g h i))) (vp_cell cA (n0, .inl (g h i))) sp dp n = vp_cell cA (n0, .inl (va_cpy (g h i) (g h i) sp.toNatClampNeg dp.toNatClampNeg n.toNatClampNeg)) := va_copied (fun z => .int z) cA cA (g h i) (g h i) h4
  rw [e1] at X' step
  have hl : L.2.1 h i < H.size := (Array.getElem?_eq_some_iff.mp hc1).1
  have hheap : ((T.setVm vm').setCell (L.2.1 h i) (vp_cell cA (n0, .inl (va_cpy (g h i) (g h i) sp.toNatClampNeg dp.toNatClampNeg n.toNatClampNeg)))).heap = H.setIfInBounds (L.2.1 h i) (vp_cell cA (n0, .inl (va_cpy (g h i) (g h i) sp.toNatClampNeg dp.toNatClampNeg n.toNatClampNeg))) := by rw [← hT]; rfl
  have oq : ∀ q : Nat, q ≠ L.2.1 h i → (H.setIfInBounds (L.2.1 h i) (vp_cell cA (n0, .inl (va_cpy (g h i) (g h i) sp.toNatClampNeg dp.toNatClampNeg n.toNatClampNeg))))[q]? = H[q]? := fun q hq => by simp [Array.getElem?_setIfInBounds, Ne.symm hq]
  have hnew : va_at L.2.2.1 vwCl (L.2.1 h i, mm_cz L h i (va_cpy (g h i) (g h i) sp.toNatClampNeg dp.toNatClampNeg n.toNatClampNeg)) (H.setIfInBounds (L.2.1 h i) (vp_cell cA (n0, .inl (va_cpy (g h i) (g h i) sp.toNatClampNeg dp.toNatClampNeg n.toNatClampNeg)))) := by
    rw [hcz]
    show (H.setIfInBounds (L.2.1 h i) _)[L.2.1 h i]? = some _
    simp [Array.getElem?_setIfInBounds, hl]
  obtain ⟨t, a1, b1⟩ := kk _ _ (hP.set hJ hlv hnew oq) (fun q hq => by
      rcases List.mem_append.mp hq with h9 | h9
      · exact hF q h9
      · obtain ⟨z, -, hz⟩ := List.mem_map.mp h9
        rw [← hz]
        exact ⟨h, i, hlv, rfl⟩) _ hheap X'
  exact ⟨t, step t a1, b1⟩
theorem mm_mmax {x y : Int32} (hX : mm_Xh hh L cc nL own ret fr lo p l R s m meth c) (hlink : Cond.methodLink own index Lib.Math.max.name ∈ mm_ws) (hstat : Cond.static Lib.Math.max.name ∈ mm_ws) (hini : Cond.initialized "java/lang/Math" ∈ mm_ws) (hcode : Cond.code Lib.Math.max.name Lib.Math.max.code 2 (some .int) ∈ mm_ws) (hsz : ls.size = nL) (hfr : 1 ≤ fr) (hlo : (rest.map fun v => v.category).sum + 13 ≤ lo) (hdg : decode cc pc = .ok (.invokestatic index, 3))
    (kk : W p l e R s m args below meth c H locs 0 0 Q (F0 m (pc + 3) ls (.int (if x < y then y else x) :: rest))) : W p l e R s m args below meth c H locs 0 0 Q (F0 m pc ls (.int y :: .int x :: rest)) := by
  obtain ⟨hexec, hb, hml, hown, -, -, -, hRf, hRl, -, -, hJ, hK, -⟩ := hX
  exact va_mmax hexec hb (hml.trans hsz.symm) hown (hK.2.1 _ hlink args) (hK.2.1 _ hstat args) (hK.2.1 _ hini args) (hK.2.1 _ hcode args) (by omega) (by omega) (Nat.zero_le _) (Nat.zero_le _) hdg kk
end MMZ
theorem mm_out0_3 {x : Int32} (h0 : ¬ x = 0) (h1 : ¬ x = 1) (h2 : ¬ x = 2) (h3 : ¬ x = 3) : x.toInt < 0 ∨ 3 < x.toInt := by
  have a0 := lv_neT (a := 0) h0 (by decide)
  have a1 := lv_neT (a := 1) h1 (by decide)
  have a2 := lv_neT (a := 2) h2 (by decide)
  have a3 := lv_neT (a := 3) h3 (by decide)
  omega
theorem mm_out0_4 {x : Int32} (h0 : ¬ x = 0) (h1 : ¬ x = 1) (h2 : ¬ x = 2) (h3 : ¬ x = 3) (h4 : ¬ x = 4) : x.toInt < 0 ∨ 4 < x.toInt := by
  have a0 := lv_neT (a := 0) h0 (by decide)
  have a1 := lv_neT (a := 1) h1 (by decide)
  have a2 := lv_neT (a := 2) h2 (by decide)
  have a3 := lv_neT (a := 3) h3 (by decide)
  have a4 := lv_neT (a := 4) h4 (by decide)
  omega
theorem mm_out0_19 {x : Int32} (h0 : ¬ x = 0) (h1 : ¬ x = 1) (h2 : ¬ x = 2) (h3 : ¬ x = 3) (h4 : ¬ x = 4) (h5 : ¬ x = 5) (h6 : ¬ x = 6) (h7 : ¬ x = 7) (h8 : ¬ x = 8) (h9 : ¬ x = 9) (h10 : ¬ x = 10) (h11 : ¬ x = 11) (h12 : ¬ x = 12) (h13 : ¬ x = 13) (h14 : ¬ x = 14) (h15 : ¬ x = 15) (h16 : ¬ x = 16) (h17 : ¬ x = 17) (h18 : ¬ x = 18) (h19 : ¬ x = 19) : x.toInt < 0 ∨ 19 < x.toInt := by
  have a0 := lv_neT (a := 0) h0 (by decide)
  have a1 := lv_neT (a := 1) h1 (by decide)
  have a2 := lv_neT (a := 2) h2 (by decide)
  have a3 := lv_neT (a := 3) h3 (by decide)
  have a4 := lv_neT (a := 4) h4 (by decide)
  have a5 := lv_neT (a := 5) h5 (by decide)
  have a6 := lv_neT (a := 6) h6 (by decide)
  have a7 := lv_neT (a := 7) h7 (by decide)
  have a8 := lv_neT (a := 8) h8 (by decide)
  have a9 := lv_neT (a := 9) h9 (by decide)
  have a10 := lv_neT (a := 10) h10 (by decide)
  have a11 := lv_neT (a := 11) h11 (by decide)
  have a12 := lv_neT (a := 12) h12 (by decide)
  have a13 := lv_neT (a := 13) h13 (by decide)
  have a14 := lv_neT (a := 14) h14 (by decide)
  have a15 := lv_neT (a := 15) h15 (by decide)
  have a16 := lv_neT (a := 16) h16 (by decide)
  have a17 := lv_neT (a := 17) h17 (by decide)
  have a18 := lv_neT (a := 18) h18 (by decide)
  have a19 := lv_neT (a := 19) h19 (by decide)
  omega
