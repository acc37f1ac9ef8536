/-! Methods with handlers: their contracts, calls of them, a call in them that throws and is caught -/
abbrev zx_cW (y : zx_Y) : Cond := Cond.codeWith y.1 y.2.1 y.2.2.1 y.2.2.2.1 y.2.2.2.2
def zMW (G : zx_G) (y : zx_Y) (rm : Room) (av : List Value) (h : zx_H) (n : Nat) (post : Option Value → zx_H → Nat → Prop) : Prop :=
  Met (zx_gL G) y.1 (zx_cW y :: zx_gW G) rm (va_Pc av (zx_P G h n)) (zx_Q G post) rm.cells rm.slots (zx_A G)
theorem zx_entryW {G : zx_G} {y : zx_Y} {L : zx_L} {h : zx_H} {n : Nat} {rm : Room} {av : List Value} {post : Option Value → zx_H → Nat → Prop} (hy : plainName y.1.cls = true) (hlen : (lg_sl av).length ≤ y.2.2.1) (h1 : L.length = y.2.2.1) (h2 : zx_ps L = lv_args 0 av) (kk : zX G y rm (zx_F G rm.cells rm.slots post) 0 L [] h n 0 0) : zMW G y rm av h n post := by
  refine va_MetW (cc := y.2.1) (maxL := y.2.2.1) (ret := y.2.2.2.1) (hh := y.2.2.2.2) hy rfl ?_
  intro p e s m args below meth c s₁ B hml hv
  obtain ⟨rfl, hR, hbn, hK, hZ, hZk⟩ := hv
  have hts := atoms_spec (ws := zx_cW y :: zx_gW G) B.pre
  have hown : s.vm.findClass y.1.cls = some m.cls := findClass_of_methodNamed B.named
  have hnm : meth.name = y.1.name := (name_of_methodNamed B.named B.method).1
  have hl := lv_entry av (n := y.2.2.1) hlen
  obtain ⟨m9, meth9, c9, hn9, hm9, hc9, -, -, ht9, -⟩ := Cond.codeWith_spec (hts _ List.mem_cons_self)
  cases B.named.symm.trans hn9
  cases B.method.symm.trans hm9
  cases (Stand.of_body B).code.symm.trans hc9
  rw [lg_entry_eq]
  refine kk p e s m _ below meth c ⟨B.exec, B.bytes, hml, hown, fun w hw => hts w (List.mem_cons_of_mem _ hw), hK, ?_, hZ, hZk, B.returns, B.notSynchronized, hnm, ht9⟩ _ s.heap [] ⟨hl.1, h1, hl.2.1, fun i v q => hl.2.2 (i, v) ?_⟩ hR va_S.rf
  · rw [hR.1]; exact hbn
  · rw [← h2]; exact zx_ps_mem.mpr q
section ZCW
variable {G : zx_G} {y y1 : zx_Y} {R rm : Room} {F : List Frame → Array Value → State → State → Prop} {pc pc2 ix np : Nat} {L : zx_L} {st0 av rest : List Value} {h : zx_H} {n k j : Nat} {post : Option Value → zx_H → Nat → Prop}
theorem zx_callSW (f1 : ∀ w ∈ zx_gW G, zx_ok w) (f2 : zx_cW y1 ∈ zx_gW G) (f3 : Cond.initialized y1.1.cls ∈ zx_gW G) (f4 : y1.1.cls ≠ "java/lang/invoke/MethodHandle" ∧ y1.1.cls ≠ "java/lang/invoke/VarHandle" ∧ (parseMethodDescriptor y1.1.desc).map (fun d => d.parameters.length) = some np) (f5 : Cond.methodLink y.1.cls ix y1.1 ∈ zx_gW G) (fs : Cond.static y1.1 ∈ zx_gW G) (hM : zMW G y1 rm av h n post) (d : decode y.2.1 pc = .ok (.invokestatic ix, 3)) (e0 : pc + 3 = pc2) (hst : st0 = av.reverse ++ rest) (hnp : av.length = np) (hsum : (rest.map fun v => v.category).sum ≤ 8) (hfr : rm.frames + 1 ≤ R.frames) (hlo : 8 + (y1.2.2.1 + 11) + rm.locals ≤ R.locals) (hc1 : k + rm.cells ≤ R.cells) (hc2 : j + rm.slots ≤ R.slots)
    (kk : ∀ r h' n', post r h' n' → zX G y R F pc2 L (r.toList ++ rest) h' n' (k + rm.cells) (j + rm.slots)) : zX G y R F pc L st0 h n k j := by
  subst e0; subst hst; intro p e s m args below meth c C ls H locs hl hR hS
  have hx := C.1; have hb := C.2.1; have hml := C.2.2.1; have ho := C.2.2.2.1; have hts := C.2.2.2.2.1
  have hG : GoodIn (zx_gW G) (zx_cW y1 :: zx_gW G) := zx_good f1 f2
  have hpay := pay_in hts hG
  have run : va_Run p (zx_gL G) e R s m args below meth c H locs k j rm.cells rm.slots (F0 m pc ls (av.reverse ++ rest)) rest (zx_Q G post av.toArray) (zx_A G) := by
    intro T hT X
    have hK : Back (zx_gL G) R p e below s args y1.1 3 8 (PreOf R rm.cells rm.slots (va_Pc av (zx_P G h n))) (PostOf (zx_Q G post) rm.cells rm.slots (zx_A G)) := va_backW (hh := y1.2.2.2.2) (bytes := y1.2.1) (maxL := y1.2.2.1) (ret := y1.2.2.2.1) hM zx_blind rfl rfl hfr hlo hpay List.mem_cons_self (fun a' U hW => hpay _ (List.mem_cons_of_mem _ f3) a' U hW)
    obtain ⟨mk, methM, cM, hnamed, hmethM, -, -, -, -, -, -, hsigM⟩ := Cond.codeWith_spec (hts _ f2)
    have hstatic : methM.isStatic = true := Cond.static_spec hnamed hmethM (hts _ fs)
    obtain ⟨kP, hkP, -⟩ := className_of_methodNamed hnamed
    have hinitP : kP.init = .initialized := Cond.initialized_spec (findClass_of_methodNamed hnamed) hkP (hts _ f3)
    have hlen : ∀ sig, parseMethodDescriptor y1.1.desc = some sig → av.length = sig.parameters.length := fun sig q => by
      have h2 := f4.2.2
      rw [q] at h2
      rw [hnp]
      exact (Option.some.inj h2).symm
    obtain ⟨vm₁, X₁, hstep₁⟩ := X.invokestatic hx ho (hts _ f5) hnamed hmethM hstatic hkP hinitP ⟨f4.1, f4.2.1⟩ (g := F0 m pc ls (av.reverse ++ rest)) rfl (argsL := av) (rest := rest) (hlen _ hsigM) rfl (by rw [hb]; exact d)
    obtain ⟨v, ⟨U', l2, c2, s2⟩, X', ⟨g', mk', t, L', e1, e2, hq, h1, hL, h2, h3⟩, hsteps⟩ := hK m meth c ⟨T.setVm vm₁, locs, k, j⟩ { (F0 m pc ls (av.reverse ++ rest)) with stack := rest } (.invokestatic ix) mk av.toArray X₁ rfl (hl.1.trans hml.symm) (by rw [hb]; exact d) (lv_room hsum) (X₁.named hnamed) ⟨hc1, hc2, zx_pre C hR hS (show (T.setVm vm₁).heap = H from hT) X₁.warmed⟩
    dsimp only [Pt.U, Pt.locs, Pt.cells, Pt.slots] at X' e1 e2 h1 h2 h3 hsteps
    subst h1; subst h2; subst h3
    exact ⟨v, (T.setVm vm₁).calling g' mk' av.toArray, t, U', L', hT, X', hL, e1, e2, hq, fun target h => hstep₁ _ fun acts => by rw [doInvoke_state]; exact hsteps.trans h⟩
  exact zx_run run hS (fun r h' n' H' locs' hp' hR' hS' => kk r h' n' hp' p e s m args below meth c C ls H' locs' hl hR' hS')
/-- a call that throws, caught by a handler of the method's own -/
theorem zx_callVH {b ci : Nat} {vs : List Value} {r0 : vw_C} {cls : String} {post1 : zx_H → Nat → Prop} {pre : List (ExceptionTableEntry × String)} {x : ExceptionTableEntry} {rest' : List ExceptionTableEntry} (f : zx_s G y.1.cls ix y1 np) (flk : Cond.methodLink y.1.cls ix y1.1 ∈ zx_gW G) (fs : Cond.instanceMethod y1.1 ∈ zx_gW G ∧ Cond.selects y1.1.cls y1.1 y1.1 ∈ zx_gW G ∧ (zx_gC G)[ci]? = some r0 ∧ r0.1 = y1.1.cls) (hob : h b = some (.inr (ci, vs))) (hM : zT G y1 rm (.ref b :: av) h n cls post1) (d : decode y.2.1 pc = .ok (.invokevirtual ix, 3)) (hst : st0 = av.reverse ++ .ref b :: rest) (hnp : av.length = np) (hsum : (rest.map fun v => v.category).sum ≤ 8) (hfr : rm.frames + 1 ≤ R.frames) (hlo : 8 + (y1.2.2.1 + 11) + rm.locals ≤ R.locals) (hc1 : k + rm.cells ≤ R.cells) (hc2 : j + rm.slots ≤ R.slots)
    (hsplit : tableOf y.2.2.2.2 = pre.map (fun q => q.1) ++ x :: rest') (hcx : covers x pc = true) (h0 : x.catchType ≠ 0) (hlx : Cond.classLink y.1.cls x.catchType cls ∈ zx_gW G) (hpre : ∀ q ∈ pre, covers q.1 pc = true ∧ q.1.catchType ≠ 0 ∧ Cond.classLink y.1.cls q.1.catchType q.2 ∈ zx_gW G ∧ ∀ U, zx_gZ G U → va_Nc cls q.2 U)
    (kk : ∀ a h' n', post1 h' n' → zX G y R F x.handlerPc L [.ref a] h' n' (k + rm.cells) (j + rm.slots)) : zX G y R F pc L st0 h n k j := by
  subst hst; intro p e s m args below meth c C ls H locs hl hR hS T hT X
  have hx := C.1; have hb := C.2.1; have hml := C.2.2.1; have ho := C.2.2.2.1; have hts := C.2.2.2.2.1; have hZ := C.2.2.2.2.2.2.2.1; have hK := C.2.2.2.2.2.1; have hlk := C.2.2.2.2.2.2.2.2.2.2.1
  have htab := C.2.2.2.2.2.2.2.2.2.2.2.2
  have htab0 : c.exceptionTable.toList = pre.map (fun q => q.1) ++ x :: rest' := by rw [← hsplit, ← htab]; exact (table_eq _).symm
  obtain ⟨f1, f2, f3, f4, -⟩ := f
  obtain ⟨g1, g2, g3, g4⟩ := fs
  have hG : GoodIn (zx_gW G) (zx_c y1 :: zx_gW G) := zx_good f1 f2
  have hpay := pay_in hts hG
  have hcode := hts _ f2
  obtain ⟨cellB, hcB, hoB, hclB⟩ := va_recv (s := s) hK (hR.get hob) g3 (q0 := 0) rfl
  rw [g4] at hclB
  obtain ⟨mk, methM, hnamed, hmethM, hstM, habM⟩ := Cond.instanceMethod_spec (hts _ g1)
  obtain ⟨methM', cM, hmethM', -, -, -, -, -, -, hsigM⟩ := Cond.code_spec hnamed hcode
  cases hmethM.symm.trans hmethM'
  obtain ⟨c2, r2, m2, q1, q2, q3, q4, kP, hkP, hkPi⟩ := Cond.selects_spec (hts _ g2)
  cases hclB.symm.trans q1
  cases (State.methodFound?_of_named hnamed ⟨f4.1, f4.2.1⟩).symm.trans q2
  cases hnamed.symm.trans q3
  have hselP : selectMethod e.platform s.vm cellB.cls mk = .method mk := by rw [Launch.admits_selectMethod X.admits]; exact q4
  have hlen : ∀ sig, parseMethodDescriptor y1.1.desc = some sig → av.length = sig.parameters.length := fun sig q => by
    have h2 := f4.2.2
    rw [q] at h2
    rw [hnp]
    exact (Option.some.inj h2).symm
  obtain ⟨vm₁, X₁, hstep₁⟩ := X.invokevirtual hx ho (hts _ flk) hnamed hmethM hstM hkP hkPi ⟨f4.1, f4.2.1⟩ (a := b) (cell := cellB) (by rw [hT]; exact hcB)
    (fun z h => by rw [h] at hoB; cases hoB) hselP hmethM habM hkP hkPi (g := F0 m pc ls (av.reverse ++ .ref b :: rest)) rfl (argsL := av) (rest := rest) (hlen _ hsigM) rfl (by rw [hb]; exact d)
  obtain ⟨a, T', L', X', hL', hq, hsteps⟩ := zx_backT X₁ hM (fun w hw => hpay w hw _ _ X₁.warmed) (hpay _ (List.mem_cons_of_mem _ f3) _ _ X₁.warmed) (zx_pre C hR hS (show (T.setVm vm₁).heap = H from hT) X₁.warmed) hfr hlo hc1 hc2 (g := { (F0 m pc ls (av.reverse ++ .ref b :: rest)) with stack := rest }) rfl (hl.1.trans hml.symm) (by rw [hb]; exact d) (lv_room hsum) (X₁.named hnamed)
  obtain ⟨a', cell, h', n', ha, hp, hR', hFr, hc, hst', hcl⟩ := hq
  cases ha
  rw [Stand.throwing_heap] at hR'
  rw [Stand.throwing_vm] at hcl
  obtain ⟨hz, hkeep⟩ := hFr
  rw [Stand.throwing_heap] at hz hkeep
  have hcal : ((T.setVm vm₁).calling { (F0 m pc ls (av.reverse ++ .ref b :: rest)) with stack := rest } mk (Value.ref b :: av).toArray).heap = H := hT
  rw [hcal] at hz hkeep
  have hcl' : s.vm.findClass cls = some cell.cls := by rw [← X'.warmed.alike.findClass]; exact hcl
  have hpl : e.platform.magicAccessors = ({} : Platform).magicAccessors := by rw [X.admits.platform]
  obtain ⟨vm', hw', hFd⟩ := ct_chain (l := zx_gL G) (S := (T'.setTop { (F0 m pc ls (av.reverse ++ .ref b :: rest)) with stack := rest }).pushFrame (.throwing a)) (g := { (F0 m pc ls (av.reverse ++ .ref b :: rest)) with stack := rest }) (rest := rest') hpl ho hc hst' hcl' hcx h0 (hts _ hlx) pre T'.vm X'.warmed (fun q hq => ⟨(hpre q hq).1, (hpre q hq).2.1, hts _ (hpre q hq).2.2.1, (hpre q hq).2.2.2 s hZ⟩)
  have eS : ((T'.setTop { (F0 m pc ls (av.reverse ++ .ref b :: rest)) with stack := rest }).pushFrame (.throwing a)).setVm T'.vm = (T'.setTop { (F0 m pc ls (av.reverse ++ .ref b :: rest)) with stack := rest }).pushFrame (.throwing a) := by
    rw [← Stand.throwing_vm T' { (F0 m pc ls (av.reverse ++ .ref b :: rest)) with stack := rest } a]
    rfl
  rw [eS, ← htab0] at hFd
  obtain ⟨t, a1, b1⟩ := kk a h' n' hp p e s m args below meth c C ls T'.heap (locs ++ L') hl hR' ⟨Nat.le_trans hS.1 hz, fun q h1 h2 => by rw [hkeep q (Nat.lt_of_lt_of_le h1 hS.1) h2]; exact hS.2.1 q h1 h2, fun q hq => by
      rcases List.mem_append.mp hq with h | h
      · exact hS.2.2 q h
      · exact hL' q h⟩ (T'.setVm vm') rfl (X'.noted hw')
  exact ⟨t, hstep₁ t (fun acts => by rw [doInvoke_state]; exact hsteps.trans (ct_steps X' rfl hFd a1)), b1⟩
end ZCW
