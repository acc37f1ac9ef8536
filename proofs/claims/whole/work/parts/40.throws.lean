/-! Throwing at the level of the memory; the calls of LogHouse that throw -/
theorem zx_callVT {G : zx_G} {y y1 : zx_Y} {R rm : Room} {pc ix np : Nat} {L : zx_L} {st0 av rest : List Value} {h : zx_H} {n k j : Nat} {cls : String} {post1 post : zx_H → Nat → Prop} {b ci : Nat} {vs : List Value} {r0 : vw_C} (f : zx_s G y.1.cls ix y1 np) (flk : Cond.methodLink y.1.cls ix y1.1 ∈ zx_gW G) (fs : Cond.instanceMethod y1.1 ∈ zx_gW G ∧ Cond.selects y1.1.cls y1.1 y1.1 ∈ zx_gW G ∧ (zx_gC G)[ci]? = some r0 ∧ r0.1 = y1.1.cls) (hob : h b = some (.inr (ci, vs))) (hM : zT G y1 rm (.ref b :: av) h n cls post1) (d : decode y.2.1 pc = .ok (.invokevirtual ix, 3)) (hst : st0 = av.reverse ++ .ref b :: rest) (hnp : av.length = np) (hsum : (rest.map fun v => v.category).sum ≤ 8) (hfr : rm.frames + 1 ≤ R.frames) (hlo : 8 + (y1.2.2.1 + 11) + rm.locals ≤ R.locals) (hc1 : k + rm.cells ≤ R.cells) (hc2 : j + rm.slots ≤ R.slots) (hno : y.2.2.2.2 = [])
    (kk : ∀ h' n', post1 h' n' → post h' n') : zX G y R (zx_FT G (k + rm.cells) (j + rm.slots) cls post) pc L st0 h n k j := by
  subst hst; intro p e s m args below meth c C ls H locs hl hR hS T hT X
  have hx := C.1; have hb := C.2.1; have hml := C.2.2.1; have ho := C.2.2.2.1; have hts := C.2.2.2.2.1; have hZ := C.2.2.2.2.2.2.2.1; have hK := C.2.2.2.2.2.1; have hlk := C.2.2.2.2.2.2.2.2.2.2.1
  have htab := C.2.2.2.2.2.2.2.2.2.2.2.2
  rw [hno] at htab
  have htab0 : c.exceptionTable.toList = [] := List.map_eq_nil_iff.mp htab
  obtain ⟨f1, f2, f3, f4, -⟩ := f
  obtain ⟨g1, g2, g3, g4⟩ := fs
  have hG : GoodIn (zx_gW G) (zx_c y1 :: zx_gW G) := zx_good f1 f2
  have hpay := pay_in hts hG
  have hcode := hts _ f2
  obtain ⟨cellB, hcB, hoB, hclB⟩ := va_recv (s := s) hK (hR.get hob) g3 (q0 := 0) rfl
  rw [g4] at hclB
  obtain ⟨mk, methM, hnamed, hmethM, hstM, habM⟩ := Cond.instanceMethod_spec (hts _ g1)
  obtain ⟨methM', cM, hmethM', -, -, -, -, -, -, hsigM⟩ := Cond.code_spec hnamed hcode
  cases hmethM.symm.trans hmethM'
  obtain ⟨c2, r2, m2, q1, q2, q3, q4, kP, hkP, hkPi⟩ := Cond.selects_spec (hts _ g2)
  cases hclB.symm.trans q1
  cases (State.methodFound?_of_named hnamed ⟨f4.1, f4.2.1⟩).symm.trans q2
  cases hnamed.symm.trans q3
  have hselP : selectMethod e.platform s.vm cellB.cls mk = .method mk := by rw [Launch.admits_selectMethod X.admits]; exact q4
  have hlen : ∀ sig, parseMethodDescriptor y1.1.desc = some sig → av.length = sig.parameters.length := fun sig q => by
    have h2 := f4.2.2
    rw [q] at h2
    rw [hnp]
    exact (Option.some.inj h2).symm
  obtain ⟨vm₁, X₁, hstep₁⟩ := X.invokevirtual hx ho (hts _ flk) hnamed hmethM hstM hkP hkPi ⟨f4.1, f4.2.1⟩ (a := b) (cell := cellB) (by rw [hT]; exact hcB)
    (fun z h => by rw [h] at hoB; cases hoB) hselP hmethM habM hkP hkPi (g := F0 m pc ls (av.reverse ++ .ref b :: rest)) rfl (argsL := av) (rest := rest) (hlen _ hsigM) rfl (by rw [hb]; exact d)
  obtain ⟨x, T', L', X', hL', hq, hsteps⟩ := zx_backT X₁ hM (fun w hw => hpay w hw _ _ X₁.warmed) (hpay _ (List.mem_cons_of_mem _ f3) _ _ X₁.warmed) (zx_pre C hR hS (show (T.setVm vm₁).heap = H from hT) X₁.warmed) hfr hlo hc1 hc2 (g := { (F0 m pc ls (av.reverse ++ .ref b :: rest)) with stack := rest }) rfl (hl.1.trans hml.symm) (by rw [hb]; exact d) (lv_room hsum) (X₁.named hnamed)
  obtain ⟨t, a1, a2⟩ := zx_leaveT X' rfl rfl rfl (fun z hz => by rw [htab0] at hz; cases hz) hlk hL' hS (show (T.setVm vm₁).heap = H from hT) hq kk
  exact ⟨t, hstep₁ t (fun acts => by rw [doInvoke_state]; exact hsteps.trans a1), a2⟩
def zx_rmT (d : Nat) : Room := { frames := d, cells := 1, slots := 6, locals := 36 * d }
def zt_po (b : Nat) (ar : Nat → ClassId) (M : zm_M) (n : Nat) : zx_H → Nat → Prop := fun h' n' => h' = zm_h b ar zl M ∧ n' = n + 1
def zKT (l : Launch) (D : va_G) (ar : Nat → ClassId) (b : Nat) (Z : State → Prop) (y : zx_Y) (d : Nat) (av : List Value) (M : zm_M) (n : Nat) (cls : String) (M' : zm_M) : Prop := zT (zn_G l D ar b Z) y (zx_rmT d) av (zm_h b ar zl M) n cls (zt_po b ar M' n)
def zt_nm : List String := ["java/lang/RuntimeException", "java/lang/Exception"]
def zt_at (Z : State → Prop) (ic : Nat) (cls : String) : Prop := ∀ (U : State) (as : Array Value), Z U → ∀ a ∈ Bundle.ownAtoms0 "LogHouse" ic cls zt_nm, a.before as U = true
def zt_ok (Z : State → Prop) : Prop := zt_at Z 151 "java/lang/IllegalArgumentException" ∧ zt_at Z 83 "java/lang/IllegalStateException" ∧ zt_at Z 209 "java/lang/IndexOutOfBoundsException" ∧ zt_at Z 206 "java/util/NoSuchElementException"
section ZKT
variable {l : Launch} {D : va_G} {ar : Nat → ClassId} {b : Nat} {Z : State → Prop} {y y1 : zx_Y} {d d1 : Nat} {F : List Frame → Array Value → State → State → Prop} {pc pc2 : Nat} {L : zx_L} {st st0 av rest : List Value} {M M2 : zm_M} {n ix np : Nat} {cls : String}
theorem zt_entry (hh : y.2.2.2.2 = []) (hy : plainName y.1.cls = true) (hlen : (lg_sl av).length ≤ y.2.2.1) (h1 : L.length = y.2.2.1) (h2 : zx_ps L = lv_args 0 av) (kk : zX (zn_G l D ar b Z) y (zx_rmT d) (zx_FT (zn_G l D ar b Z) 1 6 cls (zt_po b ar M2 n)) 0 L [] (zm_h b ar zl M) n 0 0) : zKT l D ar b Z y d av M n cls M2 := zx_entryT hh hy hlen h1 h2 kk
theorem zt_throw {ic : Nat} (hfl : l.flags = pinnedFlags ++ [noTraceFlag]) (hT : zt_at Z ic cls) (h1 : Cond.classLink "LogHouse" ix cls ∈ zn_W) (h2 : Cond.instantiable cls 6 ∈ zn_W) (h3 : Cond.initialized cls ∈ zn_W) (d0 : decode y.2.1 pc = .ok (.new ix, 3)) (d3 : decode y.2.1 (pc + 3) = .ok (.dup, 1)) (d4 : decode y.2.1 (pc + 4) = .ok (.invokespecial ic, 3)) (d7 : decode y.2.1 (pc + 7) = .ok (.athrow, 1)) (hno : y.2.2.2.2 = []) (hy : y.1.cls = "LogHouse") (hd : 6 ≤ d) (hcls : Bundle.fit cls = true := by decide) : zX (zn_G l D ar b Z) y (zx_rmT d) (zx_FT (zn_G l D ar b Z) 1 6 cls (zt_po b ar M n)) pc L [] (zm_h b ar zl M) n 0 0 :=
  zx_throw0 (names := zt_nm) hfl zn_ok (fun U as hU a ha => hT U as hU.2 a (by rw [hy] at ha; exact ha)) hcls (by decide) (by rw [hy]; exact h1) h2 h3 d0 d3 d4 d7 hno (show 2 + 3 < d by omega) (show 1 + 0 + (13 * (2 + 1) + 41) ≤ 36 * d by omega) (Nat.le_refl 1) (Nat.le_refl 6) ⟨rfl, rfl⟩
theorem zt_callST (f : zx_s (zn_G l D ar b Z) y.1.cls ix y1 np) (fs : Cond.static y1.1 ∈ zx_gW (zn_G l D ar b Z)) (hM : zKT l D ar b Z y1 d1 av M n cls M2) (dd : decode y.2.1 pc = .ok (.invokestatic ix, 3)) (hst : st0 = av.reverse ++ rest) (hnp : av.length = np) (hsum : (rest.map fun v => v.category).sum ≤ 8) (hd : d1 < d) (hm : y1.2.2.1 ≤ 17) (hno : y.2.2.2.2 = []) : zX (zn_G l D ar b Z) y (zx_rmT d) (zx_FT (zn_G l D ar b Z) 1 6 cls (zt_po b ar M2 n)) pc L st0 (zm_h b ar zl M) n 0 0 :=
  zx_callST f fs hM dd hst hnp hsum (by show d1 + 1 ≤ d; omega) (by show 8 + (y1.2.2.1 + 11) + 36 * d1 ≤ 36 * d; omega) (Nat.le_refl 1) (Nat.le_refl 6) hno (fun _ _ q => q)
theorem zt_callVT {r1 ci : Nat} {r0 : vw_C} {fk : List (Option (Option Nat))} (f : zx_s (zn_G l D ar b Z) y.1.cls ix y1 np) (flk : Cond.methodLink y.1.cls ix y1.1 ∈ zn_W) (fs : Cond.instanceMethod y1.1 ∈ zx_gW (zn_G l D ar b Z) ∧ Cond.selects y1.1.cls y1.1 y1.1 ∈ zx_gW (zn_G l D ar b Z) ∧ (zx_gC (zn_G l D ar b Z))[ci]? = some r0 ∧ r0.1 = y1.1.cls) (hl : zl r1 = some (.inr (ci, fk))) (hM : zKT l D ar b Z y1 d1 (.ref (b + r1) :: av) M n cls M2) (dd : decode y.2.1 pc = .ok (.invokevirtual ix, 3)) (hst : st0 = av.reverse ++ .ref (b + r1) :: rest) (hnp : av.length = np) (hsum : (rest.map fun v => v.category).sum ≤ 8) (hd : d1 < d) (hm : y1.2.2.1 ≤ 17) (hno : y.2.2.2.2 = []) : zX (zn_G l D ar b Z) y (zx_rmT d) (zx_FT (zn_G l D ar b Z) 1 6 cls (zt_po b ar M2 n)) pc L st0 (zm_h b ar zl M) n 0 0 :=
  zx_callVT f flk fs (zm_at hl) hM dd hst hnp hsum (by show d1 + 1 ≤ d; omega) (by show 8 + (y1.2.2.1 + 11) + 36 * d1 ≤ 36 * d; omega) (Nat.le_refl 1) (Nat.le_refl 6) hno (fun _ _ q => q)
theorem zt_callS {v : Value} (f : zx_s (zn_G l D ar b Z) y.1.cls ix y1 np) (fs : Cond.static y1.1 ∈ zx_gW (zn_G l D ar b Z)) (hM : zK l D ar b Z y1 d1 (av) M n (some v) M2) (dd : decode y.2.1 pc = .ok (.invokestatic ix, 3)) (e0 : pc + 3 = pc2) (hst : st0 = av.reverse ++ rest) (hnp : av.length = np) (hsum : (rest.map fun v => v.category).sum ≤ 8) (hd : d1 < d) (hm : y1.2.2.1 ≤ 17) (kk : zX (zn_G l D ar b Z) y (zx_rmT d) F pc2 L (v :: rest) (zm_h b ar zl M2) n 0 0) : zX (zn_G l D ar b Z) y (zx_rmT d) F pc L st0 (zm_h b ar zl M) n 0 0 :=
  zx_callS f fs hM dd e0 hst hnp hsum (by show d1 + 1 ≤ d; omega) (by show 8 + (y1.2.2.1 + 11) + 36 * d1 ≤ 36 * d; omega) (Nat.zero_le _) (Nat.zero_le _) (by rintro _ _ _ ⟨rfl, rfl, rfl⟩; exact kk)
theorem zt_callSv (f : zx_s (zn_G l D ar b Z) y.1.cls ix y1 np) (fs : Cond.static y1.1 ∈ zx_gW (zn_G l D ar b Z)) (hM : zK l D ar b Z y1 d1 (av) M n none M2) (dd : decode y.2.1 pc = .ok (.invokestatic ix, 3)) (e0 : pc + 3 = pc2) (hst : st0 = av.reverse ++ rest) (hnp : av.length = np) (hsum : (rest.map fun v => v.category).sum ≤ 8) (hd : d1 < d) (hm : y1.2.2.1 ≤ 17) (kk : zX (zn_G l D ar b Z) y (zx_rmT d) F pc2 L rest (zm_h b ar zl M2) n 0 0) : zX (zn_G l D ar b Z) y (zx_rmT d) F pc L st0 (zm_h b ar zl M) n 0 0 :=
  zx_callS f fs hM dd e0 hst hnp hsum (by show d1 + 1 ≤ d; omega) (by show 8 + (y1.2.2.1 + 11) + 36 * d1 ≤ 36 * d; omega) (Nat.zero_le _) (Nat.zero_le _) (by rintro _ _ _ ⟨rfl, rfl, rfl⟩; exact kk)
theorem zt_callV {v : Value} (f : zx_s (zn_G l D ar b Z) y.1.cls ix y1 np) {r1 ci : Nat} {r0 : vw_C} {fk : List (Option (Option Nat))} (fs : Cond.instanceMethod y1.1 ∈ zx_gW (zn_G l D ar b Z) ∧ Cond.selects y1.1.cls y1.1 y1.1 ∈ zx_gW (zn_G l D ar b Z) ∧ (zx_gC (zn_G l D ar b Z))[ci]? = some r0 ∧ r0.1 = y1.1.cls) (hl : zl r1 = some (.inr (ci, fk))) (hM : zK l D ar b Z y1 d1 (.ref (b + r1) :: av) M n (some v) M2) (dd : decode y.2.1 pc = .ok (.invokevirtual ix, 3)) (e0 : pc + 3 = pc2) (hst : st0 = av.reverse ++ .ref (b + r1) :: rest) (hnp : av.length = np) (hsum : (rest.map fun v => v.category).sum ≤ 8) (hd : d1 < d) (hm : y1.2.2.1 ≤ 17) (kk : zX (zn_G l D ar b Z) y (zx_rmT d) F pc2 L (v :: rest) (zm_h b ar zl M2) n 0 0) : zX (zn_G l D ar b Z) y (zx_rmT d) F pc L st0 (zm_h b ar zl M) n 0 0 :=
  zx_callV f fs (zm_at hl) hM dd e0 hst hnp hsum (by show d1 + 1 ≤ d; omega) (by show 8 + (y1.2.2.1 + 11) + 36 * d1 ≤ 36 * d; omega) (Nat.zero_le _) (Nat.zero_le _) (by rintro _ _ _ ⟨rfl, rfl, rfl⟩; exact kk)
theorem zt_callVv (f : zx_s (zn_G l D ar b Z) y.1.cls ix y1 np) {r1 ci : Nat} {r0 : vw_C} {fk : List (Option (Option Nat))} (fs : Cond.instanceMethod y1.1 ∈ zx_gW (zn_G l D ar b Z) ∧ Cond.selects y1.1.cls y1.1 y1.1 ∈ zx_gW (zn_G l D ar b Z) ∧ (zx_gC (zn_G l D ar b Z))[ci]? = some r0 ∧ r0.1 = y1.1.cls) (hl : zl r1 = some (.inr (ci, fk))) (hM : zK l D ar b Z y1 d1 (.ref (b + r1) :: av) M n none M2) (dd : decode y.2.1 pc = .ok (.invokevirtual ix, 3)) (e0 : pc + 3 = pc2) (hst : st0 = av.reverse ++ .ref (b + r1) :: rest) (hnp : av.length = np) (hsum : (rest.map fun v => v.category).sum ≤ 8) (hd : d1 < d) (hm : y1.2.2.1 ≤ 17) (kk : zX (zn_G l D ar b Z) y (zx_rmT d) F pc2 L rest (zm_h b ar zl M2) n 0 0) : zX (zn_G l D ar b Z) y (zx_rmT d) F pc L st0 (zm_h b ar zl M) n 0 0 :=
  zx_callV f fs (zm_at hl) hM dd e0 hst hnp hsum (by show d1 + 1 ≤ d; omega) (by show 8 + (y1.2.2.1 + 11) + 36 * d1 ≤ 36 * d; omega) (Nat.zero_le _) (Nat.zero_le _) (by rintro _ _ _ ⟨rfl, rfl, rfl⟩; exact kk)
end ZKT
section C40
variable {l : Launch} {D : va_G} {ar : Nat → ClassId} {b : Nat} {Z : State → Prop} {M : zm_M} {n : Nat}
theorem e_Ho_checkProposer (hfl : l.flags = pinnedFlags ++ [noTraceFlag]) (hT : zt_ok Z) {x : Int32} (hx : x < 0 ∨ nI 2 ≤ x) : zKT l D ar b Z y_Ho_checkProposer 6 [.int x] M n "java/lang/IllegalArgumentException" M := by
  have hI := c_Ho_isProposer (l := l) (D := D) (ar := ar) (b := b) (Z := Z) (M := M) (n := n) (x := x)
  rw [if_pos hx] at hI
  refine zt_entry (L := [some (.int x)]) rfl rfl (Nat.le_of_ble_eq_true rfl) rfl rfl ?_
  refine zx_iload_n (pc2 := 1) d_Ho_checkProposer_0 rfl rfl ?_
  refine zt_callS (pc2 := 4) s_Ho_49 t_Ho_isProposer (hI) d_Ho_checkProposer_1 rfl rfl rfl (Nat.le_of_ble_eq_true rfl) (by decide) (by decide) ?_
  refine zx_if_ne (pc2 := 7) d_Ho_checkProposer_4 rfl (tgt := 15) (by decide) (fun cz => absurd (by decide) cz) (fun _ => ?_)
  exact zt_throw (cls := "java/lang/IllegalArgumentException") (ic := 151) hfl (hT.1) zn_w298 zn_w299 zn_w14 d_Ho_checkProposer_7 d_Ho_checkProposer_10 d_Ho_checkProposer_11 d_Ho_checkProposer_14 rfl rfl (by decide)
theorem e_Ho_checkStation (hfl : l.flags = pinnedFlags ++ [noTraceFlag]) (hT : zt_ok Z) {x : Int32} (hx : x < 0 ∨ nI 7 ≤ x) : zKT l D ar b Z y_Ho_checkStation 6 [.int x] M n "java/lang/IllegalArgumentException" M := by
  refine zt_entry (L := [some (.int x)]) rfl rfl (Nat.le_of_ble_eq_true rfl) rfl rfl ?_
  by_cases c : x < 0
  · refine zx_iload_n (pc2 := 1) d_Ho_checkStation_0 rfl rfl ?_
    refine zx_if_lt (pc2 := 4) d_Ho_checkStation_1 rfl (tgt := 10) (by decide) (fun _ => ?_) (fun cz => absurd (c) cz)
    exact zt_throw (cls := "java/lang/IllegalArgumentException") (ic := 151) hfl (hT.1) zn_w298 zn_w299 zn_w14 d_Ho_checkStation_10 d_Ho_checkStation_13 d_Ho_checkStation_14 d_Ho_checkStation_17 rfl rfl (by decide)
  · refine zx_iload_n (pc2 := 1) d_Ho_checkStation_0 rfl rfl ?_
    refine zx_if_lt (pc2 := 4) d_Ho_checkStation_1 rfl (tgt := 10) (by decide) (fun cz => absurd cz (c)) (fun _ => ?_)
    refine zx_iload_n (pc2 := 5) d_Ho_checkStation_4 rfl rfl ?_
    refine zx_bipush (pc2 := 7) (v := nI 7) d_Ho_checkStation_5 rfl (by decide) ?_
    refine zx_icmp_lt (pc2 := 10) d_Ho_checkStation_7 rfl (tgt := 18) (by decide) (fun cz => absurd cz (Int32.not_lt.mpr (hx.resolve_left c))) (fun _ => ?_)
    exact zt_throw (cls := "java/lang/IllegalArgumentException") (ic := 151) hfl (hT.1) zn_w298 zn_w299 zn_w14 d_Ho_checkStation_10 d_Ho_checkStation_13 d_Ho_checkStation_14 d_Ho_checkStation_17 rfl rfl (by decide)
theorem e_Ho_checkPlace (hfl : l.flags = pinnedFlags ++ [noTraceFlag]) (hT : zt_ok Z) {x : Int32} (hx : x < 0 ∨ nI 8 ≤ x) : zKT l D ar b Z y_Ho_checkPlace 6 [.int x] M n "java/lang/IllegalArgumentException" M := by
  refine zt_entry (L := [some (.int x)]) rfl rfl (Nat.le_of_ble_eq_true rfl) rfl rfl ?_
  by_cases c : x < 0
  · refine zx_iload_n (pc2 := 1) d_Ho_checkPlace_0 rfl rfl ?_
    refine zx_if_lt (pc2 := 4) d_Ho_checkPlace_1 rfl (tgt := 10) (by decide) (fun _ => ?_) (fun cz => absurd (c) cz)
    exact zt_throw (cls := "java/lang/IllegalArgumentException") (ic := 151) hfl (hT.1) zn_w298 zn_w299 zn_w14 d_Ho_checkPlace_10 d_Ho_checkPlace_13 d_Ho_checkPlace_14 d_Ho_checkPlace_17 rfl rfl (by decide)
  · refine zx_iload_n (pc2 := 1) d_Ho_checkPlace_0 rfl rfl ?_
    refine zx_if_lt (pc2 := 4) d_Ho_checkPlace_1 rfl (tgt := 10) (by decide) (fun cz => absurd cz (c)) (fun _ => ?_)
    refine zx_iload_n (pc2 := 5) d_Ho_checkPlace_4 rfl rfl ?_
    refine zx_bipush (pc2 := 7) (v := nI 8) d_Ho_checkPlace_5 rfl (by decide) ?_
    refine zx_icmp_lt (pc2 := 10) d_Ho_checkPlace_7 rfl (tgt := 18) (by decide) (fun cz => absurd cz (Int32.not_lt.mpr (hx.resolve_left c))) (fun _ => ?_)
    exact zt_throw (cls := "java/lang/IllegalArgumentException") (ic := 151) hfl (hT.1) zn_w298 zn_w299 zn_w14 d_Ho_checkPlace_10 d_Ho_checkPlace_13 d_Ho_checkPlace_14 d_Ho_checkPlace_17 rfl rfl (by decide)
theorem e_Ho_checkLetter (hfl : l.flags = pinnedFlags ++ [noTraceFlag]) (hT : zt_ok Z) {x : Int32} (hx : x < 0 ∨ zm_I M 171 0 ≤ x) : zKT l D ar b Z y_Ho_checkLetter 6 [.ref (b + 0), .int x] M n "java/lang/IndexOutOfBoundsException" M := by
  refine zt_entry (L := [some (.ref (b + 0)), some (.int x)]) rfl rfl (Nat.le_of_ble_eq_true rfl) rfl rfl ?_
  by_cases c : x < 0
  · refine zx_iload_n (pc2 := 1) d_Ho_checkLetter_0 rfl rfl ?_
    refine zx_if_lt (pc2 := 4) d_Ho_checkLetter_1 rfl (tgt := 15) (by decide) (fun _ => ?_) (fun cz => absurd (c) cz)
    exact zt_throw (cls := "java/lang/IndexOutOfBoundsException") (ic := 209) hfl (hT.2.2.1) zn_w503 zn_w504 zn_w18 d_Ho_checkLetter_15 d_Ho_checkLetter_18 d_Ho_checkLetter_19 d_Ho_checkLetter_22 rfl rfl (by decide)
  · refine zx_iload_n (pc2 := 1) d_Ho_checkLetter_0 rfl rfl ?_
    refine zx_if_lt (pc2 := 4) d_Ho_checkLetter_1 rfl (tgt := 15) (by decide) (fun cz => absurd cz (c)) (fun _ => ?_)
    refine zx_iload_n (pc2 := 5) d_Ho_checkLetter_4 rfl rfl ?_
    refine zx_aload_n (pc2 := 6) d_Ho_checkLetter_5 rfl rfl ?_
    refine zm_getR (pc2 := 9) f_Ho_28 d_Ho_checkLetter_6 rfl (zl_c0) rfl ?_
    refine zm_getI (pc2 := 12) f_Ho_91 d_Ho_checkLetter_9 rfl (zl_c171) rfl ?_
    refine zx_icmp_lt (pc2 := 15) d_Ho_checkLetter_12 rfl (tgt := 23) (by decide) (fun cz => absurd cz (Int32.not_lt.mpr (hx.resolve_left c))) (fun _ => ?_)
    exact zt_throw (cls := "java/lang/IndexOutOfBoundsException") (ic := 209) hfl (hT.2.2.1) zn_w503 zn_w504 zn_w18 d_Ho_checkLetter_15 d_Ho_checkLetter_18 d_Ho_checkLetter_19 d_Ho_checkLetter_22 rfl rfl (by decide)
end C40
