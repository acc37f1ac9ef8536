/-! What is said of the state beside the words -/
theorem lw_at {w : Cond} {i : Nat} (h : tables_1[i]? = some w) : w ∈ lw_tbl := List.mem_append_right _ (List.mem_of_getElem? h)
abbrev zq_d1 : Cond := .declares (Bundle.init0 "java/lang/RuntimeException")
abbrev zq_d2 : Cond := .declares (Bundle.init0 "java/lang/Exception")
abbrev zq_d3 : Cond := .declares (Bundle.init0 Bundle.tN)
abbrev zq_c (X : String) : Cond := .castable X X
/-- the atoms of a throw that the words alone don't pay -/
def zt_V (X : String) : List Cond := [.isRef (.static Bundle.tN "UNASSIGNED_STACK" Bundle.steD), .isRef (.static Bundle.tN "SUPPRESSED_SENTINEL" Bundle.listD), .laysStatic Bundle.tN "UNASSIGNED_STACK" Bundle.steD, .laysStatic Bundle.tN "SUPPRESSED_SENTINEL" Bundle.listD, zq_d1, zq_d2, zq_d3, zq_c X]
def zw_T (b : Nat) (U : State) : Prop := (va_Zq Bundle.tN "UNASSIGNED_STACK" Bundle.steD (fun q => b ≤ q) U U.heap ∧ va_Zq Bundle.tN "SUPPRESSED_SENTINEL" Bundle.listD (fun q => b ≤ q) U U.heap) ∧ ((∀ as : Array Value, (Cond.laysStatic Bundle.tN "UNASSIGNED_STACK" Bundle.steD).before as U = true) ∧ ∀ as : Array Value, (Cond.laysStatic Bundle.tN "SUPPRESSED_SENTINEL" Bundle.listD).before as U = true) ∧ (va_Nw zq_d1 U ∧ va_Nw zq_d2 U ∧ va_Nw zq_d3 U) ∧ va_Nw (zq_c "java/lang/IllegalArgumentException") U ∧ va_Nw (zq_c "java/lang/IllegalStateException") U ∧ va_Nw (zq_c "java/lang/IndexOutOfBoundsException") U ∧ va_Nw (zq_c "java/util/NoSuchElementException") U
def zw_N (U : State) : Prop := va_Nc "java/lang/IllegalStateException" "java/lang/IllegalArgumentException" U ∧ va_Nc "java/lang/IllegalStateException" "java/lang/IndexOutOfBoundsException" U ∧ va_Nc "java/lang/IllegalArgumentException" "java/lang/IndexOutOfBoundsException" U ∧ va_Nc "java/util/NoSuchElementException" "java/lang/IllegalArgumentException" U ∧ va_Nc "java/lang/IllegalStateException" "java/util/NoSuchElementException" U
def zw_Z (b b0 N t : Nat) (xs : Nat → Int32) (U : State) : Prop := va_X b0 N xs U U.heap ∧ zs_I b t U ∧ zw_T b U ∧ (∀ (as : Array Value), ∀ w ∈ zn_W, w.before as U = true) ∧ zw_N U
theorem zq_use {C n d : String} {A : Nat → Prop} {U : State} {as : Array Value} (h : va_Zq C n d A U U.heap) : (Cond.isRef (.static C n d)).before as U = true := by
  rcases h with ⟨cf, kf, fi, f, a, cell, h1, h2, h3, h4, h5, h6, h7, h8⟩ | ⟨t, cf, kf, fi, f, a, cell, h1, h2, h3, h4, h5, h6, h7, h8⟩
  · have e : (Term.static C n d).eval as U none [] U = some .null := Term.static_eval h1 h2 h4 h5 h6 h7
    simp [Cond.before, Cond.holds, Cond.value, e]
  · have e : (Term.static C n d).eval as U none [] U = some (.ref t) := Term.static_eval h1 h2 h4 h5 h6 h7
    simp [Cond.before, Cond.holds, Cond.value, e]
theorem ls_lt {b : Nat} {C n d : String} {U : State} {c : ClassId} {k : Class} {i : Nat} {f : Field} {a : Nat} (hz : va_Zq C n d (fun q => b ≤ q) U U.heap) (hi : U.fieldFound? C n d = some (c, k, i, f)) (ha : k.statics = some a) : a < b := by
  rcases hz with ⟨cf, kf, fi, f', a', cell, h1, h2, h3, h4, h5, h6, h7, h8⟩ | ⟨t, cf, kf, fi, f', a', cell, h1, h2, h3, h4, h5, h6, h7, h8⟩
  · cases hi.symm.trans h1
    cases ha.symm.trans h4
    exact Nat.not_le.mp h8
  · cases hi.symm.trans h1
    cases ha.symm.trans h4
    exact Nat.not_le.mp h8
theorem ls_moved {b : Nat} {C n d : String} {U U' : State} {as as' : Array Value} (hvm : U.vm.Alike U'.vm) (hq : ∀ q : Nat, q < b → U'.heap[q]? = U.heap[q]?) (hz : va_Zq C n d (fun q => b ≤ q) U U.heap) (h : (Cond.laysStatic C n d).before as U = true) : (Cond.laysStatic C n d).before as' U' = true := by
  obtain ⟨c, k, i, f, a, cell, hc, hi, hst, ha, hcell, hs, hcls, hlt, hty⟩ := Cond.laysStatic_spec h
  have hab := ls_lt hz hi ha
  obtain ⟨k', hi', hek⟩ := State.fieldFound?_setVm hvm hi
  exact Cond.laysStatic_of (s := U') (by rw [hvm.findClass]; exact hc) hi' hst (by rw [hek]; exact ha) (by rw [hq a hab]; exact hcell) hs hcls hlt (by rw [hek]; exact hty)
theorem zw_ok {b b0 N t : Nat} {xs : Nat → Int32} (hb0 : b0 < b) : zx_Zok b (fun U => zn_N U ∧ zw_Z b b0 N t xs U) := by
  intro U U' hW hb hq hZ
  have hvm := hW.alike
  have hq' : ∀ a : Nat, a < U.heap.size → ¬ b ≤ a → U'.heap[a]? = U.heap[a]? := fun a _ h => hq a (Nat.not_le.mp h)
  obtain ⟨⟨a1, a2, a3, a4, a5, a6, a7, a8, a9, a10, a11, a12, a13, a14⟩, x1, ⟨x2, x3⟩, ⟨⟨x4, x5⟩, ⟨y1, y2⟩, ⟨y3, y4, y5⟩, y6, y7, y8, y9⟩, x6, x7, x8, x9, x10, x11⟩ := hZ
  refine ⟨⟨va_Nw.warmM hW a1, va_Nw.warmM hW a2, va_Nw.warmM hW a3, va_Nw.warmM hW a4, va_Nw.warmM hW a5, va_Nw.warmM hW a6, va_Nw.warmM hW a7, va_Nw.warmM hW a8, va_Nw.warmM hW a9, va_AO.moved hvm a10, va_AO.moved hvm a11, va_AO.moved hvm a12, va_AO.moved hvm a13, va_AO.moved hvm a14⟩, (va_X.moved hvm x1).kept (hq b0 hb0), ⟨(va_Z.moved hvm x2).kept hq', (va_T.moved hvm x3).kept hq'⟩, ⟨⟨(va_Zq.moved hvm x4).kept hq', (va_Zq.moved hvm x5).kept hq'⟩, ⟨fun as => ls_moved hvm hq x4 (y1 as), fun as => ls_moved hvm hq x5 (y2 as)⟩, ⟨va_Nw.warmD hW y3, va_Nw.warmD hW y4, va_Nw.warmD hW y5⟩, va_Nw.warmC hW y6, va_Nw.warmC hW y7, va_Nw.warmC hW y8, va_Nw.warmC hW y9⟩, fun as w hw => ?_, va_Nc.moved hvm x7, va_Nc.moved hvm x8, va_Nc.moved hvm x9, va_Nc.moved hvm x10, va_Nc.moved hvm x11⟩
  exact pay_in (x6 #[]) (fun w hw => ⟨hw, zn_ok w hw⟩) w hw as U' hW
def zt_all (ic : Nat) (X : String) : Bool := (Bundle.ownAtoms0 "LogHouse" ic X zt_nm).all (fun a => (decide (a ∈ lw_tbl) && goodWord a) || decide (a ∈ zt_V X))
theorem zt_b1 : zt_all 151 "java/lang/IllegalArgumentException" = true := by decide +kernel
theorem zt_b2 : zt_all 83 "java/lang/IllegalStateException" = true := by decide +kernel
theorem zt_b3 : zt_all 209 "java/lang/IndexOutOfBoundsException" = true := by decide +kernel
theorem zt_b4 : zt_all 206 "java/util/NoSuchElementException" = true := by decide +kernel
theorem zt_of {b b0 N t ic : Nat} {xs : Nat → Int32} {X : String} (h : zt_all ic X = true) (hc : ∀ U, zw_T b U → va_Nw (zq_c X) U) : zt_at (zw_Z b b0 N t xs) ic X := by
  intro U as hZ a ha
  obtain ⟨x1, x2, xT, x6, x7⟩ := hZ
  have h1 := List.all_eq_true.mp h a ha
  simp only [Bool.or_eq_true, Bool.and_eq_true, decide_eq_true_eq] at h1
  rcases h1 with ⟨q1, q2⟩ | q
  · exact x6 as a (List.mem_filter.mpr ⟨q1, q2⟩)
  · have hcX := hc U xT
    obtain ⟨⟨x4, x5⟩, ⟨y1, y2⟩, ⟨y3, y4, y5⟩, _⟩ := xT
    simp only [zt_V, List.mem_cons, List.not_mem_nil, or_false] at q
    rcases q with rfl | rfl | rfl | rfl | rfl | rfl | rfl | rfl
    · exact zq_use x4
    · exact zq_use x5
    · exact y1 as
    · exact y2 as
    · exact va_Nw.use rfl y3
    · exact va_Nw.use rfl y4
    · exact va_Nw.use rfl y5
    · exact va_Nw.use rfl hcX
theorem zw_tok {b b0 N t : Nat} {xs : Nat → Int32} : zt_ok (zw_Z b b0 N t xs) := ⟨zt_of zt_b1 (fun _ h => h.2.2.2.1), zt_of zt_b2 (fun _ h => h.2.2.2.2.1), zt_of zt_b3 (fun _ h => h.2.2.2.2.2.1), zt_of zt_b4 (fun _ h => h.2.2.2.2.2.2)⟩
theorem zw_nc {b b0 N t : Nat} {xs : Nat → Int32} : zt_nc (zw_Z b b0 N t xs) := ⟨fun _ h => h.2.2.2.2.1, fun _ h => h.2.2.2.2.2.1, fun _ h => h.2.2.2.2.2.2.1, fun _ h => h.2.2.2.2.2.2.2.1, fun _ h => h.2.2.2.2.2.2.2.2⟩
