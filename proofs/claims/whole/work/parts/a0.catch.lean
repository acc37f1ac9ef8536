/-! An exception caught where the handlers' classes may not be resolved yet -/
section COLD
variable {E : CtlPost} {e : Env} {d : Bool} {acts : List Action} {s : State} {f : JFrame} {a : Addr} {Q : Handler → Pre}
theorem ct_go {x : ExceptionTableEntry} {t : List ExceptionTableEntry} {c : ClassId} {vm' : Vm} (hx : covers x f.pc = true) (h0 : x.catchType ≠ 0) (hg : (Jvm.resolveClass f.method.cls x.catchType).Gives e.toSetting s.vm (.ok c) vm') (hr : vm'.classReady f.method.cls x.catchType c) (hsz : vm'.classes.size ≤ s.vm.classes.size) :
    wp (findHandler.go f a (x :: t)) Q E e d acts s ↔ wp (findHandler.go f a (x :: t)) Q E e d acts (s.setVm vm') := by
  simp only [covers] at hx
  obtain ⟨ha, ht⟩ := hg.op (op := VmOp.resolveClass f.method.cls x.catchType) rfl
  obtain ⟨k, hkd, hres⟩ := hr
  simp [findHandler.go, hx, h0, ha, ht, hsz, resolveClass_memo e hkd hres, VmOp.dirties, VmOp.acts]
  exact Iff.rfl
end COLD
/-- the search through a table, ending in h with the tables vm' -/
def ct_F (e : Env) (s : State) (f : JFrame) (a : Addr) (t : List ExceptionTableEntry) (h : Handler) (vm' : Vm) : Prop := ∀ (Q : Handler → Pre) (E : CtlPost) (d : Bool) (acts : List Action), wp (findHandler.go f a t) Q E e d acts s ↔ Q h d acts (s.setVm vm')
theorem ct_found {e : Env} {s : State} {f : JFrame} {a : Addr} {x : ExceptionTableEntry} {t : List ExceptionTableEntry} {c : ClassId} {vm' : Vm} {cell : Cell} (hx : covers x f.pc = true) (h0 : x.catchType ≠ 0) (hg : (Jvm.resolveClass f.method.cls x.catchType).Gives e.toSetting s.vm (.ok c) vm') (hr : vm'.classReady f.method.cls x.catchType c) (hsz : vm'.classes.size ≤ s.vm.classes.size) (hcell : s.heap[a]? = some cell) (hobj : ∀ k, cell.vm ≠ .statics k) (hk : ∃ k, vm'.classes[cell.cls]? = some k) (hc : ∃ k, vm'.classes[c]? = some k) (hfit : vm'.assignable cell.cls c = true) : ct_F e s f a (x :: t) (.found x.handlerPc) vm' := fun Q E d acts =>
  (ct_go hx h0 hg hr hsz).trans (by rw [Jvm.W.findHandler_go_class (s := s.setVm vm') hx h0 hr hcell hobj hk hc, if_pos (show (s.setVm vm').vm.assignable cell.cls c = true from hfit)])
theorem ct_pass {e : Env} {s : State} {f : JFrame} {a : Addr} {x : ExceptionTableEntry} {t : List ExceptionTableEntry} {c : ClassId} {vm' vm'' : Vm} {cell : Cell} {h : Handler} (hx : covers x f.pc = true) (h0 : x.catchType ≠ 0) (hg : (Jvm.resolveClass f.method.cls x.catchType).Gives e.toSetting s.vm (.ok c) vm') (hr : vm'.classReady f.method.cls x.catchType c) (hsz : vm'.classes.size ≤ s.vm.classes.size) (hcell : s.heap[a]? = some cell) (hobj : ∀ k, cell.vm ≠ .statics k) (hk : ∃ k, vm'.classes[cell.cls]? = some k) (hc : ∃ k, vm'.classes[c]? = some k) (hfit : vm'.assignable cell.cls c = false) (hrest : ct_F e (s.setVm vm') f a t h vm'') : ct_F e s f a (x :: t) h vm'' := fun Q E d acts =>
  (ct_go hx h0 hg hr hsz).trans (by rw [Jvm.W.findHandler_go_class (s := s.setVm vm') hx h0 hr hcell hobj hk hc, if_neg (show ¬ (s.setVm vm').vm.assignable cell.cls c = true from by rw [show (s.setVm vm').vm.assignable cell.cls c = false from hfit]; decide)]; exact hrest Q E d acts)
theorem ct_catch {e : Env} {s : State} {a : Addr} {f : JFrame} {r : List Frame} {pc : Nat} {vm' : Vm} {meth : Method} {code : Code} (hm : s.vm.method? f.method = some meth) (hc : meth.code = some code) (hfind : ct_F e s f a code.exceptionTable.toList (.found pc) vm') :
    (stepThrowing e s a (.java f :: r)).Is ((s.setVm vm').setFrames (.java { f with pc := pc, stack := [.ref a] } :: r)) [] := by
  have hf : ∀ (Q : Handler → Pre) (E : CtlPost) (d : Bool) (acts : List Action), wp (findHandler f a) Q E e d acts s ↔ Q (.found pc) d acts (s.setVm vm') := fun Q E d acts => (Jvm.W.findHandler_eq hm hc).trans (hfind Q E d acts)
  simp only [stepThrowing, searchFrame, vmDo]
  generalize hr : Sem.go _ e false [] s = res
  obtain ⟨as, rfl, ha⟩ := Sem.eq_ok_of hr (a := Handler.found pc) (s' := s.setVm vm') (acts' := []) (by simp [hf _ _ _ _])
  exact ⟨rfl, ha⟩
theorem ct_steps {p : Program} {l : Launch} {e : Env} {R : Room} {s : State} {m : MethodId} {args : Array Value} {below : List Frame} {meth : Method} {c : Code} {T target : State} {locs : List Loc} {k j : Nat} (X : Stand p l e R s m args below meth c T locs k j) {g : JFrame} (hg : g.method = m) {a : Addr} {pc : Nat} {vm' : Vm} (hF : ct_F e ((T.setTop g).pushFrame (.throwing a)) g a c.exceptionTable.toList (.found pc) vm') (hrest : Steps p.tables e below ((T.setVm vm').setTop { g with pc := pc, stack := [.ref a] }) target) : Steps p.tables e below ((T.setTop g).pushFrame (.throwing a)) target := by
  have h : At T g.method c below := by rw [hg]; exact X.here
  obtain ⟨hgo, hw⟩ := h.throwing a
  refine Steps.head hgo hw ?_
  have hm : ((T.setTop g).pushFrame (.throwing a)).vm.method? g.method = some meth := by rw [Stand.throwing_vm, hg]; exact X.method'
  rw [stepThread_throwing (frames_entered h.top _), (ct_catch (s := (T.setTop g).pushFrame (.throwing a)) hm X.code hF).1]
  obtain ⟨g₀, hg0⟩ := Option.isSome_iff_exists.mp h.top
  obtain ⟨r, hr⟩ := State.topJava?_eq_some.mp hg0
  have hr2 : (T.setVm vm').frames = .java g₀ :: r := hr
  rw [State.setTop_of_frames _ hr2] at hrest
  rw [State.pushFrame, State.setTop_of_frames _ hr]
  show Steps p.tables e below ((((T.setFrames (.java g :: r)).setFrames (.throwing a :: (T.setFrames (.java g :: r)).frames)).setFrames (.java { g with pc := pc, stack := [.ref a] } :: T.frames.tail)).setVm vm') target
  rw [State.setFrames_setFrames, State.setFrames_setFrames, hr]
  exact hrest
/-- the search, through handlers that do not fit to the one that does -/
theorem ct_chain {l : Launch} {e : Env} {s S : State} {g : JFrame} {a : Addr} {args : Array Value} {own cls : String} {cell : Cell} (hpl : e.platform.magicAccessors = ({} : Platform).magicAccessors) (hown : s.vm.findClass own = some g.method.cls) (hcell : S.heap[a]? = some cell) (hst : cell.vm.isStatics = false) (hcls : s.vm.findClass cls = some cell.cls) {x : ExceptionTableEntry} {rest : List ExceptionTableEntry} (hx : covers x g.pc = true) (h0 : x.catchType ≠ 0) (hl : (Cond.classLink own x.catchType cls).before args s = true) : ∀ (pre : List (ExceptionTableEntry × String)) (vm0 : Vm), s.WarmedH vm0 → (∀ q ∈ pre, covers q.1 g.pc = true ∧ q.1.catchType ≠ 0 ∧ (Cond.classLink own q.1.catchType q.2).before args s = true ∧ va_Nc cls q.2 s) → ∃ vm', s.WarmedH vm' ∧ ct_F e (S.setVm vm0) g a (pre.map (fun q => q.1) ++ x :: rest) (.found x.handlerPc) vm' := by
  have hobj : ∀ k, cell.vm ≠ .statics k := VmData.ne_statics_of hst
  have hin : ∀ {vm' : Vm} {nm : String} {c : ClassId}, s.WarmedH vm' → s.vm.findClass nm = some c → ∃ k, vm'.classes[c]? = some k := fun hW hf => Vm.classAt_of_findClass (by rw [hW.alike.findClass]; exact hf)
  intro pre
  induction pre with
  | nil =>
    intro vm0 hW _
    obtain ⟨c, hfc, hcl⟩ := Cond.classLink_spec hown hl e.platform hpl
    cases hcls.symm.trans hfc
    obtain ⟨hg, hw, hr⟩ := State.classEntry (e := e) hW hcl
    refine ⟨_, hw, ct_found (s := S.setVm vm0) hx h0 hg hr (by no_record) hcell hobj (hin hw hcls) (hin hw hcls) ?_⟩
    show Vm.assignableAux _ (255 + 1) cell.cls cell.cls = true
    rw [Vm.assignableAux, Bool.or_eq_true, beq_iff_eq]
    exact Or.inl rfl
  | cons q pre ih =>
    intro vm0 hW hq
    obtain ⟨q1, q2, q3, q4⟩ := hq q List.mem_cons_self
    obtain ⟨c, hfc, hcl⟩ := Cond.classLink_spec hown q3 e.platform hpl
    obtain ⟨hg, hw, hr⟩ := State.classEntry (e := e) hW hcl
    obtain ⟨vm', hw', hF⟩ := ih _ hw (fun z hz => hq z (List.mem_cons_of_mem _ hz))
    obtain ⟨c1, t1, n1, n2, n3⟩ := va_Nc.moved (U := s.setVm (vm0.noted g.method.cls q.1.catchType (.cls c))) hw.alike q4
    have e1 : c1 = cell.cls := by
      have h1 : (vm0.noted g.method.cls q.1.catchType (.cls c)).findClass cls = some c1 := n1
      rw [hw.alike.findClass, hcls] at h1
      exact (Option.some.inj h1).symm
    have e2 : t1 = c := by
      have h1 : (vm0.noted g.method.cls q.1.catchType (.cls c)).findClass q.2 = some t1 := n2
      rw [hw.alike.findClass, hfc] at h1
      exact (Option.some.inj h1).symm
    subst e1 e2
    exact ⟨vm', hw', ct_pass (s := S.setVm vm0) q1 q2 hg hr (by no_record) hcell hobj (hin hw hcls) (hin hw hfc) n3 hF⟩
