/-! Throwing: contracts of methods that throw, calls of them, 'throw new X()' with no arguments. -/
def zx_QT (G : zx_G) (cls : String) (post : zx_H → Nat → Prop) : Array Value → State → Outcome → State → Prop := fun _ st o t =>
  ∃ (a : Addr) (cell : Cell) (h' : zx_H) (n' : Nat), o = .threw a ∧ post h' n' ∧ zx_R (zx_gD G) (zx_gC G) (zx_gB G) h' n' t.heap ∧ va_F (zx_A G) st t ∧ t.heap[a]? = some cell ∧ cell.vm.isStatics = false ∧ t.vm.findClass cls = some cell.cls
def zx_FT (G : zx_G) (mc ms : Nat) (cls : String) (post : zx_H → Nat → Prop) : List Frame → Array Value → State → State → Prop := fun below args s t =>
  ∃ o, t.status = .running ∧ Ended t below o ∧ zx_QT G cls post args s o t ∧ ∃ L, FramedT s o t L mc ms ∧ ∀ q ∈ L, zx_A G q.base
def zT (G : zx_G) (y : zx_Y) (rm : Room) (av : List Value) (h : zx_H) (n : Nat) (cls : String) (post : zx_H → Nat → Prop) : Prop :=
  MetFree (zx_gL G) y.1 (headSpec (zx_c y :: zx_gW G) rm) (va_Pc av (zx_P G h n)) (fun _ _ _ _ _ => True) (fun a st o t => zx_QT G cls post a st o t ∧ ∃ L, FramedT st o t L rm.cells rm.slots ∧ ∀ q ∈ L, zx_A G q.base)
theorem zx_entryT {G : zx_G} {y : zx_Y} {L : zx_L} {h : zx_H} {n : Nat} {rm : Room} {av : List Value} {cls : String} {post : zx_H → Nat → Prop} (hh : y.2.2.2.2 = []) (hy : plainName y.1.cls = true) (hlen : (lg_sl av).length ≤ y.2.2.1) (h1 : L.length = y.2.2.1) (h2 : zx_ps L = lv_args 0 av) (kk : zX G y rm (zx_FT G rm.cells rm.slots cls post) 0 L [] h n 0 0) : zT G y rm av h n cls post := by
  refine MetFree.of_bodyS (code := y.2.1) (maxLocals := y.2.2.1) (ret := y.2.2.2.1) hy ?_ ?_
  · intro args s m hp hn
    obtain ⟨meth, c, a1, a2, a3, a4, a5, a6, -, -⟩ := Cond.code_spec hn (atoms_spec (ws := zx_c y :: zx_gW G) hp _ List.mem_cons_self)
    exact ⟨meth, c, a1, a2, a3, a4, a5, a6⟩
  · intro p e s m args below meth c s₁ B hml hv _
    obtain ⟨rfl, hR, hbn, hK, hZ, hZk⟩ := hv
    have hts := atoms_spec (ws := zx_c y :: zx_gW G) B.pre
    have hown : s.vm.findClass y.1.cls = some m.cls := findClass_of_methodNamed B.named
    have hnm : meth.name = y.1.name := (name_of_methodNamed B.named B.method).1
    have hl := lv_entry av (n := y.2.2.1) hlen
    have h0 := B.noHandlers (hts _ List.mem_cons_self)
    have h1' : c.exceptionTable.size = 0 := by simpa [Array.isEmpty] using h0
    have h2' : c.exceptionTable.toList = [] := List.eq_nil_of_length_eq_zero (by simpa using h1')
    have hh0 : s₁.heap = s.heap := by rw [B.state]; rfl
    rw [lg_entry_eq]
    obtain ⟨t, a1, o, b1, b2, b3, b4⟩ := kk p e s m _ below meth c ⟨B.exec, B.bytes, hml, hown, fun w hw => hts w (List.mem_cons_of_mem _ hw), hK, by rw [hR.1]; exact hbn, hZ, hZk, B.returns, B.notSynchronized, hnm, by rw [h2', hh]; rfl⟩ _ s.heap [] ⟨hl.1, h1, hl.2.1, fun i v q => hl.2.2 (i, v) (by rw [← h2]; exact zx_ps_mem.mpr q)⟩ hR va_S.rf s₁ hh0 (Stand.of_body B)
    exact ⟨t, o, a1, b1, b2, b3, b4⟩
theorem zx_backT {G : zx_G} {y1 : zx_Y} {rm R : Room} {av : List Value} {h : zx_H} {n : Nat} {cls : String} {post : zx_H → Nat → Prop} {p : Program} {e : Env} {s : State} {m : MethodId} {sargs : Array Value} {below : List Frame} {meth : Method} {c : Code} {U : State} {Ls : List Loc} {k j : Nat}
    (X : Stand p (zx_gL G) e R s m sargs below meth c U Ls k j) (hM : zT G y1 rm av h n cls post) (hws : ∀ w ∈ zx_c y1 :: zx_gW G, w.before av.toArray U = true) (hini : (Cond.initialized y1.1.cls).before av.toArray U = true) (hP : va_Pc av (zx_P G h n) av.toArray U)
    (hfr : rm.frames + 1 ≤ R.frames) (hlo : 8 + (y1.2.2.1 + 11) + rm.locals ≤ R.locals) (hc1 : k + rm.cells ≤ R.cells) (hc2 : j + rm.slots ≤ R.slots) {g : JFrame} (hg : g.method = m) (hsize : g.locals.size = c.maxLocals) {ig : Instr} {len : Nat} (hdg : decode c.code g.pc = .ok (ig, len)) (hW : 2 * g.monitorRoom + (g.stack.map fun v => v.category).sum ≤ 8) {mk : MethodId} (hn : U.methodNamed? y1.1 = some mk) :
    ∃ (x : Addr) (T' : State) (L : List Loc), Stand p (zx_gL G) e R s m sargs below meth c T' (Ls ++ L) (k + rm.cells) (j + rm.slots) ∧ (∀ q ∈ L, zx_A G q.base) ∧ zx_QT G cls post av.toArray (U.calling g mk av.toArray) (.threw x) ((T'.setTop g).pushFrame (.throwing x)) ∧ Steps p.tables e below (doInvoke e (U.setTop g) [] mk av.toArray).1 ((T'.setTop g).pushFrame (.throwing x)) := by
  obtain ⟨methY, cY, hmY, hcY, -, hlY, -, -, -, -⟩ := Cond.code_spec hn (hws _ List.mem_cons_self)
  obtain ⟨kY, hkY, -⟩ := className_of_methodNamed hn
  have hinitY : kY.init = .initialized := Cond.initialized_spec (findClass_of_methodNamed hn) hkY hini
  have ha : At U g.method c below := by rw [hg]; exact X.here
  have happ : (headSpec (zx_c y1 :: zx_gW G) rm).appliesLoose y1.1 e.platform (U.calling g mk av.toArray) = true :=
    Spec.appliesLoose_calling (g := g) ha hdg hn hkY hinitY (X.room_calling (g := g) (R' := rm) hsize hmY hcY hfr (by rw [hlY]; omega) hc1 hc2) (atoms_intro hws)
  obtain ⟨mid, hmid⟩ := ha.above
  have hfr2 : (U.setTop g).frames = (.java g :: mid) ++ below := by rw [State.frames_setTop' g ha.top, hmid]; rfl
  obtain ⟨o, s₂, hsteps, -, hend, hq, L, hF, hL⟩ := Steps.callFree hM p X.admits X.cas X.clock (acts := []) hfr2 happ (zx_blind _ _ g mk hP) trivial
  rw [State.frames_setTop' g ha.top, X.tail] at hend
  obtain ⟨⟨x, rfl⟩, hW2, hsame⟩ := hF
  obtain ⟨T', X', -, -, ht⟩ := X.outOfThrown hg hend hW2 hsame
  rw [ht] at hsteps hq
  exact ⟨x, T', L, X', hL, hq, hsteps⟩
theorem zx_leaveT {G : zx_G} {R : Room} {cls : String} {post1 post : zx_H → Nat → Prop} {p : Program} {e : Env} {s U : State} {m mk : MethodId} {args as : Array Value} {below : List Frame} {meth : Method} {c : Code} {T' : State} {locs L : List Loc} {k j : Nat} {g : JFrame} {x : Addr} {H : Heap}
    (X' : Stand p (zx_gL G) e R s m args below meth c T' (locs ++ L) k j) (hg : g.method = m) (hlocked : g.locked = none) (hent : g.entered = []) (hout : ∀ z ∈ c.exceptionTable.toList, covers z g.pc = false) (hlk : meth.locks = false) (hL : ∀ q ∈ L, zx_A G q.base) (hS : va_S (zx_A G) s.heap H locs) (hU : U.heap = H)
    (hq : zx_QT G cls post1 as (U.calling g mk as) (.threw x) ((T'.setTop g).pushFrame (.throwing x))) (kk : ∀ h' n', post1 h' n' → post h' n') : ∃ t, Steps p.tables e below ((T'.setTop g).pushFrame (.throwing x)) t ∧ zx_FT G k j cls post below args s t := by
  obtain ⟨hw, hrun, hend, hW, hsame⟩ := X'.leaveThrown x (g := g) hg hlocked hent hout hlk
  obtain ⟨a, cell, h', n', ha, hp, hR, hF, hc, hst, hcl⟩ := hq
  cases ha
  rw [Stand.throwing_heap] at hR hc
  rw [Stand.throwing_vm] at hcl
  obtain ⟨hz, hk⟩ := hF
  rw [Stand.throwing_heap] at hz hk
  have hcal : (U.calling g mk as).heap = H := hU
  rw [hcal] at hz hk
  refine ⟨_, hw, .threw x, hrun, hend, ⟨x, cell, h', n', rfl, kk h' n' hp, hR, ⟨Nat.le_trans hS.1 hz, fun q h1 h2 => ?_⟩, hc, hst, hcl⟩, locs ++ L, ⟨⟨x, rfl⟩, hW, hsame⟩, fun q hq => ?_⟩
  · show T'.heap[q]? = _
    rw [hk q (Nat.lt_of_lt_of_le h1 hS.1) h2]
    exact hS.2.1 q h1 h2
  · rcases List.mem_append.mp hq with h1 | h1
    · exact hS.2.2 q h1
    · exact hL q h1
section ZCALLT
variable {G : zx_G} {y y1 : zx_Y} {R rm : Room} {pc ix np : Nat} {L : zx_L} {st0 av rest : List Value} {h : zx_H} {n k j : Nat} {cls : String} {post1 post : zx_H → Nat → Prop}
theorem zx_callST (f : zx_s G y.1.cls ix y1 np) (fs : Cond.static y1.1 ∈ zx_gW G) (hM : zT G y1 rm av h n cls post1) (d : decode y.2.1 pc = .ok (.invokestatic ix, 3)) (hst : st0 = av.reverse ++ rest) (hnp : av.length = np) (hsum : (rest.map fun v => v.category).sum ≤ 8) (hfr : rm.frames + 1 ≤ R.frames) (hlo : 8 + (y1.2.2.1 + 11) + rm.locals ≤ R.locals) (hc1 : k + rm.cells ≤ R.cells) (hc2 : j + rm.slots ≤ R.slots) (hno : y.2.2.2.2 = [])
    (kk : ∀ h' n', post1 h' n' → post h' n') : zX G y R (zx_FT G (k + rm.cells) (j + rm.slots) cls post) pc L st0 h n k j := by
  subst hst; intro p e s m args below meth c C ls H locs hl hR hS T hT X
  have hx := C.1; have hb := C.2.1; have hml := C.2.2.1; have ho := C.2.2.2.1; have hts := C.2.2.2.2.1; have hZ := C.2.2.2.2.2.2.2.1; have hlk := C.2.2.2.2.2.2.2.2.2.2.1
  have htab := C.2.2.2.2.2.2.2.2.2.2.2.2
  rw [hno] at htab
  have htab0 : c.exceptionTable.toList = [] := List.map_eq_nil_iff.mp htab
  obtain ⟨f1, f2, f3, f4, f5⟩ := f
  have hG : GoodIn (zx_gW G) (zx_c y1 :: zx_gW G) := zx_good f1 f2
  have hpay := pay_in hts hG
  have hcode := hts _ f2
  obtain ⟨mk, hnamed⟩ := Cond.code_named hcode
  obtain ⟨methM, cM, hmethM, -, -, -, -, -, -, hsigM⟩ := Cond.code_spec hnamed hcode
  have hstatic : methM.isStatic = true := Cond.static_spec hnamed hmethM (hts _ fs)
  obtain ⟨kP, hkP, -⟩ := className_of_methodNamed hnamed
  have hinitP : kP.init = .initialized := Cond.initialized_spec (findClass_of_methodNamed hnamed) hkP (hts _ f3)
  have hlen : ∀ sig, parseMethodDescriptor y1.1.desc = some sig → av.length = sig.parameters.length := fun sig q => by
    have h2 := f4.2.2
    rw [q] at h2
    rw [hnp]
    exact (Option.some.inj h2).symm
  have fin : ∀ vm₁ : Vm, Stand p (zx_gL G) e R s m args below meth c (T.setVm vm₁) locs k j → (∀ target, (∀ acts, Steps p.tables e below (doInvoke e ((T.setVm vm₁).setTop { (F0 m pc ls (av.reverse ++ rest)) with stack := rest }) acts mk av.toArray).1 target) → Steps p.tables e below (T.setTop (F0 m pc ls (av.reverse ++ rest))) target) → ∃ t, Steps p.tables e below (T.setTop (F0 m pc ls (av.reverse ++ rest))) t ∧ zx_FT G (k + rm.cells) (j + rm.slots) cls post below args s t := by
    intro vm₁ X₁ hstep
    obtain ⟨x, T', L', X', hL', hq, hsteps⟩ := zx_backT X₁ hM (fun w hw => hpay w hw _ _ X₁.warmed) (hpay _ (List.mem_cons_of_mem _ f3) _ _ X₁.warmed) (zx_pre C hR hS (show (T.setVm vm₁).heap = H from hT) X₁.warmed) hfr hlo hc1 hc2 (g := { (F0 m pc ls (av.reverse ++ rest)) with stack := rest }) rfl (hl.1.trans hml.symm) (by rw [hb]; exact d) (lv_room hsum) (X₁.named hnamed)
    obtain ⟨t, a1, a2⟩ := zx_leaveT X' rfl rfl rfl (fun z hz => by rw [htab0] at hz; cases hz) hlk hL' hS (show (T.setVm vm₁).heap = H from hT) hq kk
    exact ⟨t, hstep t (fun acts => by rw [doInvoke_state]; exact hsteps.trans a1), a2⟩
  rcases f5 with f5 | ⟨host, f5⟩
  · obtain ⟨vm₁, X₁, hstep₁⟩ := X.invokestatic hx ho (hts _ f5) hnamed hmethM hstatic hkP hinitP ⟨f4.1, f4.2.1⟩ (g := F0 m pc ls (av.reverse ++ rest)) rfl (argsL := av) (rest := rest) (hlen _ hsigM) rfl (by rw [hb]; exact d)
    exact fin vm₁ X₁ hstep₁
  · obtain ⟨vm₁, X₁, hstep₁⟩ := X.invokestaticNest hx ho (va_Nw.use rfl (f5 s hZ)) hnamed hmethM hstatic hkP hinitP ⟨f4.1, f4.2.1⟩ (g := F0 m pc ls (av.reverse ++ rest)) rfl (argsL := av) (rest := rest) (hlen _ hsigM) rfl (by rw [hb]; exact d)
    exact fin vm₁ X₁ hstep₁
end ZCALLT
/-- the walk begun anew where it stands: what is written from here on is counted from here -/
theorem zx_rebase {p : Program} {l : Launch} {e : Env} {R : Room} {s : State} {m : MethodId} {args : Array Value} {below : List Frame} {meth : Method} {c : Code} {T : State} {locs : List Loc} {k j : Nat} (X : Stand p l e R s m args below meth c T locs k j) (hk : k ≤ R.cells) (hj : j ≤ R.slots) :
    Stand p l e { frames := R.frames, cells := R.cells - k, slots := R.slots - j, locals := R.locals } (T.setFrames (.invoking m args :: below)) m args below meth c T [] 0 0 := by
  obtain ⟨g₀, hfr⟩ := X.frames_eq
  obtain ⟨th, hth, -⟩ := State.frames_cons hfr
  have hcur : T.cur < T.threads.size := State.cur_lt_of_frames hfr
  have hf0 : (T.setFrames (.invoking m args :: below)).frames = .invoking m args :: below := State.frames_setFrames _ hcur
  have hm0 : (T.setFrames (.invoking m args :: below)).vm.method? m = some meth := X.method'
  refine ⟨X.admits, X.cas, X.clock, hf0, ?_, ?_, hm0, X.code, X.here, X.tail, State.WarmedH.refl _, by rw [State.stackLimits_setFrames], by rw [State.stackBytes_setFrames], ?_⟩
  · have h0 := X.room
    have hloc := State.localsInUse_invoking X.frames X.method X.code
    have hloc0 := State.localsInUse_invoking hf0 hm0 X.code
    have hsz := X.heapSize
    have hus := X.used
    have hbk := X.book
    have hb1 := X.bytes
    have hl1 := X.limits
    simp only [State.hasRoom, Bool.and_eq_true, decide_eq_true_eq] at h0 ⊢
    rw [hloc0, hf0, State.stackLimits_setFrames, State.stackBytes_setFrames, hl1, hb1]
    rw [hloc, X.frames] at h0
    refine ⟨⟨⟨⟨h0.1.1.1.1, h0.1.1.1.2⟩, ?_⟩, ?_⟩, hbk⟩
    · show T.heap.size + (R.cells - k) ≤ _
      have := h0.1.1.2
      omega
    · show T.slotsUsed + (R.slots - j) ≤ _
      have := h0.1.2
      omega
  · have hh := X.hears
    have hal := X.warmed.alike
    have hm' : T.vm.method? m = some meth := X.method'
    cases below with
    | nil => simpa [State.hears, X.method, hm'] using hh
    | cons f r =>
      cases f with
      | java g =>
        have hcd : (T.setFrames (.invoking m args :: .java g :: r)).code? g.method = s.code? g.method := by
          rw [State.code?_eq, State.code?_eq]
          show (T.vm.method? g.method).bind _ = _
          rw [hal.method?]
        simp only [State.hears] at hh ⊢
        rw [hcd]
        exact hh
      | _ => first | rfl | (simpa [State.hears, X.method, hm'] using hh)
  · have h := (State.sameButNew.refl T hth).setFrames T.frames hcur
    refine ⟨?_, Nat.le_refl _, Nat.le_refl _, ?_, ?_, fun a c hc => ⟨c, hc, rfl, rfl, fun _ _ => rfl⟩⟩
    · show T.setVm _ = _
      rw [State.setFrames_setFrames]
      exact (State.setFrames_self hth).symm
    · show T.slotsUsed = T.slotsUsed + ((T.heap.toList.drop T.heap.size).map (fun x => x.slots.size)).sum
      rw [List.drop_eq_nil_of_le (by simp)]
      rfl
    · show ((T.heap.toList.drop T.heap.size).map (fun x => x.slots.size)).sum ≤ 0
      rw [List.drop_eq_nil_of_le (by simp)]
      exact Nat.le_refl _
theorem zx_cellsame {a b : Cell} (h1 : b = { a with slots := b.slots }) (h2 : b.slots.size = a.slots.size) (h3 : ∀ i : Nat, b.slots[i]? = a.slots[i]?) : b = a := by
  have e : b.slots = a.slots := Array.ext_getElem? h3
  rw [h1, e]
/-- throw new X(): new, dup, the constructor, athrow -/
theorem zx_throw0 {G : zx_G} {y : zx_Y} {R : Room} {pc ix ic : Nat} {L : zx_L} {st : List Value} {h : zx_H} {n k j : Nat} {cls : String} {names : List String} {post : zx_H → Nat → Prop}
    (hfl : (zx_gL G).flags = pinnedFlags ++ [noTraceFlag]) (hok : ∀ w ∈ zx_gW G, zx_ok w) (ht : ∀ (U : State) (as : Array Value), zx_gZ G U → ∀ a ∈ Bundle.ownAtoms0 y.1.cls ic cls names, a.before as U = true) (hcls : Bundle.fit cls = true) (hnames : ∀ q ∈ names, Bundle.fit q = true)
    (h1 : Cond.classLink y.1.cls ix cls ∈ zx_gW G) (h2 : Cond.instantiable cls 6 ∈ zx_gW G) (h3 : Cond.initialized cls ∈ zx_gW G) (d0 : decode y.2.1 pc = .ok (.new ix, 3)) (d3 : decode y.2.1 (pc + 3) = .ok (.dup, 1)) (d4 : decode y.2.1 (pc + 4) = .ok (.invokespecial ic, 3)) (d7 : decode y.2.1 (pc + 7) = .ok (.athrow, 1)) (hno : y.2.2.2.2 = [])
    (hRf : names.length + 3 < R.frames) (hRl : 1 + (st.map fun v => v.category).sum + (13 * (names.length + 1) + 41) ≤ R.locals) (hc1 : k + 1 ≤ R.cells) (hc2 : j + 6 ≤ R.slots) (hp : post h (n + 1)) : zX G y R (zx_FT G (k + 1) (j + 6) cls post) pc L st h n k j := by
  intro p e s m args below meth c C ls H locs hl hR hS T hT X
  have hx := C.1; have hb := C.2.1; have hml := C.2.2.1; have ho := C.2.2.2.1; have hts := C.2.2.2.2.1; have hB := C.2.2.2.2.2.2.1; have hZ := C.2.2.2.2.2.2.2.1; have hZk := C.2.2.2.2.2.2.2.2.1; have hlk := C.2.2.2.2.2.2.2.2.2.2.1
  have htab := C.2.2.2.2.2.2.2.2.2.2.2.2
  rw [hno] at htab
  have htab0 : c.exceptionTable.toList = [] := List.map_eq_nil_iff.mp htab
  have htr : e.platform.stackTraces = false := Launch.traces_off hfl X.admits
  have X0 := zx_rebase X (by omega) (by omega)
  have hs0 : (T.setFrames (.invoking m args :: below)).heap = H := hT
  have hv0 : (T.setFrames (.invoking m args :: below)).vm = T.vm := rfl
  have hW0 : s.WarmedH (T.setFrames (.invoking m args :: below)).vm := X.warmed
  generalize hs0e : T.setFrames (.invoking m args :: below) = s0 at X0 hs0 hv0 hW0
  have hZ0 : zx_gZ G s0 := hZk s s0 hW0 hB (fun q hq => by rw [hs0]; exact hS.2.1 q (Nat.lt_of_lt_of_le hq hB) (Nat.not_le.mpr hq)) hZ
  have hw0 : ∀ w ∈ zx_gW G, w.before args s0 = true := fun w hw => word_at hW0 (hok w hw) (hts w hw)
  have ho0 : s0.vm.findClass y.1.cls = some m.cls := by rw [hW0.alike.findClass]; exact ho
  have hTn : T.heap.size = n := by rw [hT]; exact hR.1
  obtain ⟨vm', cC, kC, f1, f2, f3, f4, X1, st1⟩ := X0.newCold hx ho0 (hw0 _ h1) (hw0 _ h2) (hw0 _ h3) (g := F0 m pc ls st) rfl (by rw [hb]; exact d0) (show 0 + 1 ≤ R.cells - k by omega) (show 0 + 6 ≤ R.slots - j by omega)
  rw [hTn] at st1
  have key : W p (zx_gL G) e { frames := R.frames, cells := R.cells - k, slots := R.slots - j, locals := R.locals } s0 m args below meth c ((T.setVm vm').pushCell { cls := cC, slots := kC.instanceTypes.map defaultValue, vm := .none }).heap [] (0 + 1) (0 + 6) (fun U => U.status = .running ∧ Ended U below (.threw n) ∧ s0.WarmedH U.vm ∧ s0.sameButNew ({ U with vm := s0.vm } : State) [] (0 + 1) (0 + 6) ∧ ∃ ce, U.heap[n]? = some ce ∧ Bundle.OwnCell args s0 cls n .null ce) (F0 m (pc + 3) ls (.ref n :: st)) := by
    refine lv_dup hx hb d3 rfl ?_
    intro T2 hT2 X2
    obtain ⟨U, a1, a2, a3, a4, a5, a6⟩ := X2.ctorThrow0 hx htr (own := y.1.cls) (cls := cls) (names := names) (ic := ic) ho0 hcls hnames (ht s0 args hZ0) (fun x hx => by cases hx) (a := n) f1 f2 (by rw [hT2]; show (T.heap.push _)[n]? = _; rw [← hTn]; simp) (by rw [hs0, ← hT, hTn]; exact Nat.le_refl _) (g := F0 m (pc + 3 + 1) ls (.ref n :: .ref n :: st)) rfl (hl.1.trans hml.symm) rfl rfl (rest := st) rfl (by rw [hb]; exact d4) (by rw [hb]; exact d7) (fun z hz => by rw [htab0] at hz; cases hz) hRf (by
        show 2 * 0 + ((Value.ref n :: st).map fun v => v.category).sum + _ ≤ R.locals
        have h1 : (Value.ref n).category = 1 := rfl
        simp only [List.map_cons, List.sum_cons, h1]
        omega) hlk
    exact ⟨U, a1, a2, a3, a4, a5, a6⟩
  obtain ⟨U, a1, a2, a3, a4, a5, ce, a6, a7⟩ := key _ rfl X1
  obtain ⟨b1, b2, b3, b4, b5, b6⟩ := id a5
  have hold : ∀ q : Nat, q < n → U.heap[q]? = H[q]? := by
    intro q hq
    have hlt : q < s0.heap.size := by rw [hs0, hR.1]; exact hq
    obtain ⟨c', e1, e2, e3, e4⟩ := b6 q _ (Array.getElem?_eq_getElem hlt)
    have e5 : U.heap[q]? = some c' := e1
    rw [e5, zx_cellsame e2 e3 (fun i => e4 i (by simp)), ← Array.getElem?_eq_getElem hlt, hs0]
  have hsz : U.heap.size = n + 1 := by
    have hlt : n < U.heap.size := (Array.getElem?_eq_some_iff.mp a6).1
    have h2' : U.heap.size ≤ s0.heap.size + (0 + 1) := b3
    rw [hs0, hR.1] at h2'
    omega
  refine ⟨U, st1 U a1, .threw n, a2, a3, ⟨n, ce, h, n + 1, rfl, hp, ⟨hsz, fun a e' he => ?_, fun q cell hq hc => ?_⟩, ⟨?_, fun q q1 q2 => ?_⟩, a6, by rw [a7.vm]; rfl, by rw [a4.alike.findClass]; exact a7.cls⟩, locs, ⟨⟨n, rfl⟩, ?_, ?_⟩, hS.2.2⟩
  · obtain ⟨g1, g2⟩ := hR.2.1 a e' he
    have hlt : a < n := by have := g2.lt; rw [hR.1] at this; exact this
    exact ⟨g1, g2.kept (hold a hlt)⟩
  · by_cases hqn : q = n
    · subst hqn
      have e9 := hc.symm.trans a6
      cases e9
      rw [a7.vm]
      rfl
    · have hlt : q < n := by have := (Array.getElem?_eq_some_iff.mp hc).1; omega
      rw [hold q hlt] at hc
      exact hR.2.2 q cell hq hc
  · rw [hsz]
    have := hS.1
    rw [hR.1] at this
    omega
  · have := hS.1
    rw [hR.1] at this
    rw [hold q (by omega)]
    exact hS.2.1 q q1 q2
  · subst hs0e
    have a4' : T.WarmedH U.vm := a4
    exact State.WarmedH.trans X.warmed a4'
  · subst hs0e
    have h5 : T.sameButNew (U.setVm T.vm) [] (0 + 1) (0 + 6) := by
      refine ⟨?_, b2, b3, b4, b5, b6⟩
      have b1' := b1
      rw [State.setFrames_setFrames] at b1'
      exact b1'
    have h6 := X.same.trans (h5.setVm s.vm)
    rw [List.append_nil] at h6
    exact h6
