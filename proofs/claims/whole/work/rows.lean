section
/-! The layer: the heap as a function of addresses (zx_H), locals as a list (zx_L); a judgement zX that holds for every walk of a method; a rule an instruction. -/
abbrev zx_H : Type := Nat → Option va_E
abbrev zx_L : Type := List (Option Value)
/-- launch, class numbers and slots, classes, array classes, base, what the tables and the low heap say, words -/
abbrev zx_G : Type := Launch × va_G × List vw_C × List (ClassId × FieldType) × Nat × (State → Prop) × List Cond
abbrev zx_gL (G : zx_G) : Launch := G.1
abbrev zx_gD (G : zx_G) : va_G := G.2.1
abbrev zx_gC (G : zx_G) : List vw_C := G.2.2.1
abbrev zx_gT (G : zx_G) : List (ClassId × FieldType) := G.2.2.2.1
abbrev zx_gB (G : zx_G) : Nat := G.2.2.2.2.1
abbrev zx_gZ (G : zx_G) : State → Prop := G.2.2.2.2.2.1
abbrev zx_gW (G : zx_G) : List Cond := G.2.2.2.2.2.2
/-- a method: name, code, locals, return type, handlers -/
abbrev zx_Y : Type := MethodName × ByteArray × Nat × Option FieldType × List (Nat × Nat × Nat × Nat)
abbrev zx_c (y : zx_Y) : Cond := Cond.code y.1 y.2.1 y.2.2.1 y.2.2.2.1
abbrev zx_A (G : zx_G) : Nat → Prop := fun q => zx_gB G ≤ q
def zx_R (D : va_G) (cl : List vw_C) (b : Nat) (h : zx_H) (n : Nat) (H : Heap) : Prop := H.size = n ∧ (∀ (a : Nat) (e : va_E), h a = some e → b ≤ a ∧ va_at D cl (a, e) H) ∧ ∀ (q : Nat) (cell : Cell), b ≤ q → H[q]? = some cell → cell.vm.isStatics = false
def zx_l (nL : Nat) (ls : Array Slot) (L : zx_L) : Prop := ls.size = nL ∧ L.length = nL ∧ lv_wf ls ∧ ∀ (i : Nat) (v : Value), L[i]? = some (some v) → ls[i]? = some (.val v)
def zx_Zok (b : Nat) (Z : State → Prop) : Prop := ∀ U U' : State, U.WarmedH U'.vm → b ≤ U.heap.size → (∀ q : Nat, q < b → U'.heap[q]? = U.heap[q]?) → Z U → Z U'
def zx_C (G : zx_G) (y : zx_Y) (p : Program) (s : State) (m : MethodId) (args : Array Value) (meth : Method) (c : Code) : Prop :=
  p.tables.exec = Jvm.exec ∧ c.code = y.2.1 ∧ c.maxLocals = y.2.2.1 ∧ s.vm.findClass y.1.cls = some m.cls ∧ (∀ w ∈ zx_gW G, w.before args s = true) ∧ va_K (zx_gD G) (zx_gC G) (zx_gT G) s ∧ zx_gB G ≤ s.heap.size ∧ zx_gZ G s ∧ zx_Zok (zx_gB G) (zx_gZ G) ∧ meth.sig.returnType = y.2.2.2.1 ∧ meth.locks = false ∧ meth.name = y.1.name ∧ c.exceptionTable.toList.map (fun h => (h.startPc, h.endPc, h.handlerPc, h.catchType)) = y.2.2.2.2
def zX (G : zx_G) (y : zx_Y) (R : Room) (F : List Frame → Array Value → State → State → Prop) (pc : Nat) (L : zx_L) (st : List Value) (h : zx_H) (n k j : Nat) : Prop :=
  ∀ (p : Program) (e : Env) (s : State) (m : MethodId) (args : Array Value) (below : List Frame) (meth : Method) (c : Code), zx_C G y p s m args meth c → ∀ (ls : Array Slot) (H : Heap) (locs : List Loc), zx_l y.2.2.1 ls L → zx_R (zx_gD G) (zx_gC G) (zx_gB G) h n H → va_S (zx_A G) s.heap H locs → W p (zx_gL G) e R s m args below meth c H locs k j (F below args s) (F0 m pc ls st)
/-- a contract's end: it returned -/
def zx_Q (G : zx_G) (post : Option Value → zx_H → Nat → Prop) : Array Value → State → Outcome → State → Prop := fun _ st o t =>
  (∃ (r : Option Value) (h' : zx_H) (n' : Nat), o = .returned r ∧ post r h' n' ∧ zx_R (zx_gD G) (zx_gC G) (zx_gB G) h' n' t.heap) ∧ va_F (zx_A G) st t
def zx_F (G : zx_G) (mc ms : Nat) (post : Option Value → zx_H → Nat → Prop) : List Frame → Array Value → State → State → Prop := fun below args s => MQ below (zx_Q G post) args s mc ms (zx_A G)
def zx_P (G : zx_G) (h : zx_H) (n : Nat) (U : State) : Prop := zx_R (zx_gD G) (zx_gC G) (zx_gB G) h n U.heap ∧ zx_gB G ≤ n ∧ va_K (zx_gD G) (zx_gC G) (zx_gT G) U ∧ zx_gZ G U ∧ zx_Zok (zx_gB G) (zx_gZ G)
/-- a contract: from arguments av and heap h it returns, and post holds -/
def zM (G : zx_G) (y : zx_Y) (rm : Room) (av : List Value) (h : zx_H) (n : Nat) (post : Option Value → zx_H → Nat → Prop) : Prop :=
  Met (zx_gL G) y.1 (zx_c y :: zx_gW G) rm (va_Pc av (zx_P G h n)) (zx_Q G post) rm.cells rm.slots (zx_A G)
/-! locals -/
def zx_cl (L : zx_L) (i : Nat) : zx_L := match i with
  | 0 => L
  | k + 1 => match L[k]? with
    | some (some w) => if w.category = 2 then L.set k none else L
    | _ => L
def zx_s1 (L : zx_L) (i : Nat) (v : Value) : zx_L := (zx_cl L i).set i (some v)
def zx_s2 (L : zx_L) (i : Nat) (v : Value) : zx_L := ((zx_cl L i).set i (some v)).set (i + 1) none
def zx_ps (L : zx_L) : List (Nat × Value) := L.zipIdx.filterMap (fun q => q.1.map (fun v => (q.2, v)))
theorem zx_ps_mem {L : zx_L} {i : Nat} {v : Value} : (i, v) ∈ zx_ps L ↔ L[i]? = some (some v) := by
  constructor
  · intro h
    obtain ⟨⟨a, k⟩, h1, h2⟩ := List.mem_filterMap.mp h
    cases a with
    | none => simp at h2
    | some w =>
      simp only [Option.map_some, Option.some.injEq, Prod.mk.injEq] at h2
      obtain ⟨rfl, rfl⟩ := h2
      exact List.mk_mem_zipIdx_iff_getElem?.mp h1
  · intro h
    exact List.mem_filterMap.mpr ⟨(some v, i), List.mk_mem_zipIdx_iff_getElem?.mpr h, rfl⟩
theorem zx_l.has {nL : Nat} {ls : Array Slot} {L : zx_L} (h : zx_l nL ls L) : lv_has ls nL (zx_ps L) := ⟨h.1, h.2.2.1, fun q hq => h.2.2.2 q.1 q.2 (zx_ps_mem.mp hq)⟩
theorem zx_cl_len (L : zx_L) (i : Nat) : (zx_cl L i).length = L.length := by
  unfold zx_cl
  split
  · rfl
  · split
    · split
      · simp
      · rfl
    · rfl
theorem zx_cl_get {L : zx_L} {i j : Nat} {w : Value} (h : (zx_cl L i)[j]? = some (some w)) : L[j]? = some (some w) ∧ ¬ (j + 1 = i ∧ w.category = 2) := by
  unfold zx_cl at h
  split at h
  · exact ⟨h, fun q => by omega⟩
  · rename_i k
    split at h
    · rename_i w' hw'
      split at h
      · rename_i hc
        by_cases hj : j = k
        · subst hj
          rw [List.getElem?_set] at h
          simp only [if_true] at h
          split at h <;> simp at h
        · rw [List.getElem?_set_ne (Ne.symm hj)] at h
          exact ⟨h, fun q => hj (by omega)⟩
      · rename_i hc
        refine ⟨h, fun q => ?_⟩
        have : j = k := by omega
        subst this
        rw [hw'] at h
        cases h
        exact hc q.2
    · rename_i hn
      refine ⟨h, fun q => ?_⟩
      have : j = k := by omega
      subst this
      exact hn w h
theorem zx_l.s1 {nL : Nat} {ls ls' : Array Slot} {L : zx_L} {i : Nat} {v : Value} (h : zx_l nL ls L) (h' : lv_has ls' nL ((i, v) :: (zx_ps L).filter (fun q => !(q.1 == i) && !(q.1 + 1 == i && q.2.category == 2)))) : zx_l nL ls' (zx_s1 L i v) := by
  refine ⟨h'.1, by simp [zx_s1, zx_cl_len, h.2.1], h'.2.1, fun j w hj => ?_⟩
  unfold zx_s1 at hj
  by_cases e : j = i
  · subst e
    rw [List.getElem?_set] at hj
    simp only [if_true] at hj
    split at hj
    · cases hj
      exact h'.2.2 (j, v) List.mem_cons_self
    · cases hj
  · rw [List.getElem?_set_ne (Ne.symm e)] at hj
    obtain ⟨h1, h2⟩ := zx_cl_get hj
    refine h'.2.2 (j, w) (List.mem_cons_of_mem _ (List.mem_filter.mpr ⟨zx_ps_mem.mpr h1, ?_⟩))
    simp only [Bool.and_eq_true, Bool.not_eq_true', beq_eq_false_iff_ne, ne_eq, Bool.and_eq_false_iff]
    refine ⟨e, ?_⟩
    by_cases q : j + 1 = i
    · exact Or.inr (fun z => h2 ⟨q, z⟩)
    · exact Or.inl q
theorem zx_l.s2 {nL : Nat} {ls ls' : Array Slot} {L : zx_L} {i : Nat} {v : Value} (h : zx_l nL ls L) (h' : lv_has ls' nL ((i, v) :: (zx_ps L).filter (fun q => !(q.1 == i) && (!(q.1 == i + 1) && !(q.1 + 1 == i && q.2.category == 2))))) : zx_l nL ls' (zx_s2 L i v) := by
  refine ⟨h'.1, by simp [zx_s2, zx_cl_len, h.2.1], h'.2.1, fun j w hj => ?_⟩
  unfold zx_s2 at hj
  by_cases e1 : j = i + 1
  · subst e1
    rw [List.getElem?_set] at hj
    simp only [if_true] at hj
    split at hj <;> simp at hj
  · rw [List.getElem?_set_ne (Ne.symm e1)] at hj
    by_cases e : j = i
    · subst e
      rw [List.getElem?_set] at hj
      simp only [if_true] at hj
      split at hj
      · cases hj
        exact h'.2.2 (j, v) List.mem_cons_self
      · cases hj
    · rw [List.getElem?_set_ne (Ne.symm e)] at hj
      obtain ⟨h1, h2⟩ := zx_cl_get hj
      refine h'.2.2 (j, w) (List.mem_cons_of_mem _ (List.mem_filter.mpr ⟨zx_ps_mem.mpr h1, ?_⟩))
      simp only [Bool.and_eq_true, Bool.not_eq_true', beq_eq_false_iff_ne, ne_eq, Bool.and_eq_false_iff]
      refine ⟨e, e1, ?_⟩
      by_cases q : j + 1 = i
      · exact Or.inr (fun z => h2 ⟨q, z⟩)
      · exact Or.inl q
/-! the heap -/
theorem zx_ns {D : va_G} {cl : List vw_C} {a : Nat} {e : va_E} {H : Heap} (h : va_at D cl (a, e) H) {cell : Cell} (hc : H[a]? = some cell) : cell.vm.isStatics = false := by
  cases e with
  | inl x =>
    have h1 : H[a]? = some (vp_cell x.1 x.2) := h
    rw [h1] at hc
    cases hc
    obtain ⟨c, n, f | f | f | f | f⟩ := x <;> rfl
  | inr o =>
    obtain ⟨r, h1, cell2, h2, h3, h4, h5⟩ := h
    have e1 := h2.symm.trans hc
    cases e1
    rw [h4]
    rfl
theorem zx_R.get {D : va_G} {cl : List vw_C} {b : Nat} {h : zx_H} {n : Nat} {H : Heap} (hR : zx_R D cl b h n H) {a : Nat} {e : va_E} (he : h a = some e) : va_P D cl [(a, e)] H := by
  intro k q hk
  have hz : k < 1 := (List.getElem?_eq_some_iff.mp hk).1
  rw [show k = 0 by omega] at hk
  cases hk
  exact (hR.2.1 a e he).2
theorem zx_R.set {D : va_G} {cl : List vw_C} {b : Nat} {h : zx_H} {n : Nat} {H H1 : Heap} (hR : zx_R D cl b h n H) {a : Nat} {e0 e : va_E} (he : h a = some e0) (h1 : va_at D cl (a, e) H1) (z : H1.size = H.size) (oq : ∀ q : Nat, q ≠ a → H1[q]? = H[q]?) : zx_R D cl b (va_up h a (some e)) n H1 := by
  refine ⟨z.trans hR.1, fun x f hx => ?_, fun q cell hq hc => ?_⟩
  · unfold va_up at hx
    split at hx
    · rename_i hq
      subst hq
      cases hx
      exact ⟨(hR.2.1 x e0 he).1, h1⟩
    · rename_i hq
      obtain ⟨g1, g2⟩ := hR.2.1 x f hx
      exact ⟨g1, g2.kept (oq x hq)⟩
  · by_cases hqa : q = a
    · subst hqa
      exact zx_ns h1 hc
    · rw [oq q hqa] at hc
      exact hR.2.2 q cell hq hc
theorem zx_R.push {D : va_G} {cl : List vw_C} {b : Nat} {h : zx_H} {n : Nat} {H H1 : Heap} (hR : zx_R D cl b h n H) (hb : b ≤ n) {e : va_E} (h1 : va_at D cl (n, e) H1) (z : H1.size = n + 1) (oq : ∀ q : Nat, q < n → H1[q]? = H[q]?) : zx_R D cl b (va_up h n (some e)) (n + 1) H1 := by
  refine ⟨z, fun x f hx => ?_, fun q cell hq hc => ?_⟩
  · unfold va_up at hx
    split at hx
    · rename_i hq
      subst hq
      cases hx
      exact ⟨hb, h1⟩
    · rename_i hq
      obtain ⟨g1, g2⟩ := hR.2.1 x f hx
      have hlt : x < n := by have := g2.lt; rw [hR.1] at this; exact this
      exact ⟨g1, g2.kept (oq x hlt)⟩
  · by_cases hqa : q = n
    · subst hqa
      exact zx_ns h1 hc
    · have hlt : q < n + 1 := by rw [← z]; exact (Array.getElem?_eq_some_iff.mp hc).1
      rw [oq q (by omega)] at hc
      exact hR.2.2 q cell hq hc
theorem zx_R.fresh {D : va_G} {cl : List vw_C} {b : Nat} {h : zx_H} {n : Nat} {H : Heap} (hR : zx_R D cl b h n H) {a : Nat} (ha : n ≤ a) : h a = none := by
  cases e : h a with
  | none => rfl
  | some x =>
    have := (hR.2.1 a x e).2.lt
    rw [hR.1] at this
    exact absurd ha (Nat.not_le.mpr this)
theorem zx_R.forget {D : va_G} {cl : List vw_C} {b : Nat} {h h' : zx_H} {n : Nat} {H : Heap} (hR : zx_R D cl b h n H) (hs : ∀ a e, h' a = some e → h a = some e) : zx_R D cl b h' n H := ⟨hR.1, fun a e he => hR.2.1 a e (hs a e he), hR.2.2⟩

section ZX
variable {G : zx_G} {y : zx_Y} {R : Room} {F : List Frame → Array Value → State → State → Prop} {pc pc2 : Nat} {L : zx_L} {st : List Value} {h : zx_H} {n k j : Nat}
theorem zx_iadd {a b : Int32} (d : decode y.2.1 pc = .ok (.iadd, 1)) (e0 : pc + 1 = pc2)  (kk : zX G y R F pc2 L (.int (a + b) :: st) h n k j) : zX G y R F pc L (.int b :: .int a :: st) h n k j := by
  subst e0; intro p e s m args below meth c C ls H locs hl hR hS; exact lv_iadd C.1 C.2.1 d (kk p e s m args below meth c C ls H locs hl hR hS)
theorem zx_isub {a b : Int32} (d : decode y.2.1 pc = .ok (.isub, 1)) (e0 : pc + 1 = pc2)  (kk : zX G y R F pc2 L (.int (a - b) :: st) h n k j) : zX G y R F pc L (.int b :: .int a :: st) h n k j := by
  subst e0; intro p e s m args below meth c C ls H locs hl hR hS; exact lv_isub C.1 C.2.1 d (kk p e s m args below meth c C ls H locs hl hR hS)
theorem zx_imul {a b : Int32} (d : decode y.2.1 pc = .ok (.imul, 1)) (e0 : pc + 1 = pc2)  (kk : zX G y R F pc2 L (.int (a * b) :: st) h n k j) : zX G y R F pc L (.int b :: .int a :: st) h n k j := by
  subst e0; intro p e s m args below meth c C ls H locs hl hR hS; exact lv_imul C.1 C.2.1 d (kk p e s m args below meth c C ls H locs hl hR hS)
theorem zx_iand {a b : Int32} (d : decode y.2.1 pc = .ok (.iand, 1)) (e0 : pc + 1 = pc2)  (kk : zX G y R F pc2 L (.int (a &&& b) :: st) h n k j) : zX G y R F pc L (.int b :: .int a :: st) h n k j := by
  subst e0; intro p e s m args below meth c C ls H locs hl hR hS; exact lv_iand C.1 C.2.1 d (kk p e s m args below meth c C ls H locs hl hR hS)
theorem zx_ior {a b : Int32} (d : decode y.2.1 pc = .ok (.ior, 1)) (e0 : pc + 1 = pc2)  (kk : zX G y R F pc2 L (.int (a ||| b) :: st) h n k j) : zX G y R F pc L (.int b :: .int a :: st) h n k j := by
  subst e0; intro p e s m args below meth c C ls H locs hl hR hS; exact lv_ior C.1 C.2.1 d (kk p e s m args below meth c C ls H locs hl hR hS)
theorem zx_ixor {a b : Int32} (d : decode y.2.1 pc = .ok (.ixor, 1)) (e0 : pc + 1 = pc2)  (kk : zX G y R F pc2 L (.int (a ^^^ b) :: st) h n k j) : zX G y R F pc L (.int b :: .int a :: st) h n k j := by
  subst e0; intro p e s m args below meth c C ls H locs hl hR hS; exact lv_ixor C.1 C.2.1 d (kk p e s m args below meth c C ls H locs hl hR hS)
theorem zx_ladd {a b : Int64} (d : decode y.2.1 pc = .ok (.ladd, 1)) (e0 : pc + 1 = pc2)  (kk : zX G y R F pc2 L (.long (a + b) :: st) h n k j) : zX G y R F pc L (.long b :: .long a :: st) h n k j := by
  subst e0; intro p e s m args below meth c C ls H locs hl hR hS; exact lv_ladd C.1 C.2.1 d (kk p e s m args below meth c C ls H locs hl hR hS)
theorem zx_lsub {a b : Int64} (d : decode y.2.1 pc = .ok (.lsub, 1)) (e0 : pc + 1 = pc2)  (kk : zX G y R F pc2 L (.long (a - b) :: st) h n k j) : zX G y R F pc L (.long b :: .long a :: st) h n k j := by
  subst e0; intro p e s m args below meth c C ls H locs hl hR hS; exact lv_lsub C.1 C.2.1 d (kk p e s m args below meth c C ls H locs hl hR hS)
theorem zx_lmul {a b : Int64} (d : decode y.2.1 pc = .ok (.lmul, 1)) (e0 : pc + 1 = pc2)  (kk : zX G y R F pc2 L (.long (a * b) :: st) h n k j) : zX G y R F pc L (.long b :: .long a :: st) h n k j := by
  subst e0; intro p e s m args below meth c C ls H locs hl hR hS; exact lv_lmul C.1 C.2.1 d (kk p e s m args below meth c C ls H locs hl hR hS)
theorem zx_land {a b : Int64} (d : decode y.2.1 pc = .ok (.land, 1)) (e0 : pc + 1 = pc2)  (kk : zX G y R F pc2 L (.long (a &&& b) :: st) h n k j) : zX G y R F pc L (.long b :: .long a :: st) h n k j := by
  subst e0; intro p e s m args below meth c C ls H locs hl hR hS; exact lv_land C.1 C.2.1 d (kk p e s m args below meth c C ls H locs hl hR hS)
theorem zx_lor {a b : Int64} (d : decode y.2.1 pc = .ok (.lor, 1)) (e0 : pc + 1 = pc2)  (kk : zX G y R F pc2 L (.long (a ||| b) :: st) h n k j) : zX G y R F pc L (.long b :: .long a :: st) h n k j := by
  subst e0; intro p e s m args below meth c C ls H locs hl hR hS; exact lv_lor C.1 C.2.1 d (kk p e s m args below meth c C ls H locs hl hR hS)
theorem zx_lxor {a b : Int64} (d : decode y.2.1 pc = .ok (.lxor, 1)) (e0 : pc + 1 = pc2)  (kk : zX G y R F pc2 L (.long (a ^^^ b) :: st) h n k j) : zX G y R F pc L (.long b :: .long a :: st) h n k j := by
  subst e0; intro p e s m args below meth c C ls H locs hl hR hS; exact lv_lxor C.1 C.2.1 d (kk p e s m args below meth c C ls H locs hl hR hS)
theorem zx_idiv {a b : Int32} (d : decode y.2.1 pc = .ok (.idiv, 1)) (e0 : pc + 1 = pc2) (hne : ¬ b = 0) (kk : zX G y R F pc2 L (.int (a / b) :: st) h n k j) : zX G y R F pc L (.int b :: .int a :: st) h n k j := by
  subst e0; intro p e s m args below meth c C ls H locs hl hR hS; exact lv_idiv C.1 C.2.1 d hne (kk p e s m args below meth c C ls H locs hl hR hS)
theorem zx_irem {a b : Int32} (d : decode y.2.1 pc = .ok (.irem, 1)) (e0 : pc + 1 = pc2) (hne : ¬ b = 0) (kk : zX G y R F pc2 L (.int (a - a / b * b) :: st) h n k j) : zX G y R F pc L (.int b :: .int a :: st) h n k j := by
  subst e0; intro p e s m args below meth c C ls H locs hl hR hS; exact lv_irem C.1 C.2.1 d hne (kk p e s m args below meth c C ls H locs hl hR hS)
theorem zx_ishl {a b : Int32} (d : decode y.2.1 pc = .ok (.ishl, 1)) (e0 : pc + 1 = pc2)  (kk : zX G y R F pc2 L (.int (a <<< (b &&& 31)) :: st) h n k j) : zX G y R F pc L (.int b :: .int a :: st) h n k j := by
  subst e0; intro p e s m args below meth c C ls H locs hl hR hS; exact lv_ishl C.1 C.2.1 d (kk p e s m args below meth c C ls H locs hl hR hS)
theorem zx_ishr {a b : Int32} (d : decode y.2.1 pc = .ok (.ishr, 1)) (e0 : pc + 1 = pc2)  (kk : zX G y R F pc2 L (.int (a >>> (b &&& 31)) :: st) h n k j) : zX G y R F pc L (.int b :: .int a :: st) h n k j := by
  subst e0; intro p e s m args below meth c C ls H locs hl hR hS; exact lv_ishr C.1 C.2.1 d (kk p e s m args below meth c C ls H locs hl hR hS)
theorem zx_iushr {a b : Int32} (d : decode y.2.1 pc = .ok (.iushr, 1)) (e0 : pc + 1 = pc2)  (kk : zX G y R F pc2 L (.int ((a.toUInt32 >>> (b.toUInt32 &&& Int32.toUInt32 31)).toInt32) :: st) h n k j) : zX G y R F pc L (.int b :: .int a :: st) h n k j := by
  subst e0; intro p e s m args below meth c C ls H locs hl hR hS; exact lv_iushr C.1 C.2.1 d rfl (kk p e s m args below meth c C ls H locs hl hR hS)
theorem zx_ineg {a : Int32} (d : decode y.2.1 pc = .ok (.ineg, 1)) (e0 : pc + 1 = pc2)  (kk : zX G y R F pc2 L (.int (-a) :: st) h n k j) : zX G y R F pc L (.int a :: st) h n k j := by
  subst e0; intro p e s m args below meth c C ls H locs hl hR hS; exact lv_ineg C.1 C.2.1 d (kk p e s m args below meth c C ls H locs hl hR hS)
theorem zx_lshl {a : Int64} {b : Int32} (d : decode y.2.1 pc = .ok (.lshl, 1)) (e0 : pc + 1 = pc2)  (kk : zX G y R F pc2 L (.long (a <<< (b.toInt64 &&& 63)) :: st) h n k j) : zX G y R F pc L (.int b :: .long a :: st) h n k j := by
  subst e0; intro p e s m args below meth c C ls H locs hl hR hS; exact lv_lshl C.1 C.2.1 d rfl (kk p e s m args below meth c C ls H locs hl hR hS)
theorem zx_lushr {a : Int64} {b : Int32} (d : decode y.2.1 pc = .ok (.lushr, 1)) (e0 : pc + 1 = pc2)  (kk : zX G y R F pc2 L (.long ((a.toUInt64 >>> (b.toInt64.toUInt64 &&& Int64.toUInt64 63)).toInt64) :: st) h n k j) : zX G y R F pc L (.int b :: .long a :: st) h n k j := by
  subst e0; intro p e s m args below meth c C ls H locs hl hR hS; exact lv_lushr C.1 C.2.1 d rfl (kk p e s m args below meth c C ls H locs hl hR hS)
theorem zx_i2l {a : Int32} (d : decode y.2.1 pc = .ok (.i2l, 1)) (e0 : pc + 1 = pc2)  (kk : zX G y R F pc2 L (.long a.toInt64 :: st) h n k j) : zX G y R F pc L (.int a :: st) h n k j := by
  subst e0; intro p e s m args below meth c C ls H locs hl hR hS; exact lv_i2l C.1 C.2.1 d rfl (kk p e s m args below meth c C ls H locs hl hR hS)
theorem zx_l2i {a : Int64} (d : decode y.2.1 pc = .ok (.l2i, 1)) (e0 : pc + 1 = pc2)  (kk : zX G y R F pc2 L (.int a.toInt32 :: st) h n k j) : zX G y R F pc L (.long a :: st) h n k j := by
  subst e0; intro p e s m args below meth c C ls H locs hl hR hS; exact lv_l2i C.1 C.2.1 d rfl (kk p e s m args below meth c C ls H locs hl hR hS)
theorem zx_i2b {a : Int32} (d : decode y.2.1 pc = .ok (.i2b, 1)) (e0 : pc + 1 = pc2)  (kk : zX G y R F pc2 L (.int a.toInt8.toInt32 :: st) h n k j) : zX G y R F pc L (.int a :: st) h n k j := by
  subst e0; intro p e s m args below meth c C ls H locs hl hR hS; exact lv_i2b C.1 C.2.1 d rfl (kk p e s m args below meth c C ls H locs hl hR hS)
theorem zx_iconst {c0 : Int} {v : Int32} (d : decode y.2.1 pc = .ok (.iconst c0, 1)) (e0 : pc + 1 = pc2) (hv : Int32.ofInt c0 = v) (kk : zX G y R F pc2 L (.int v :: st) h n k j) : zX G y R F pc L (st) h n k j := by
  subst e0; intro p e s m args below meth c C ls H locs hl hR hS; exact lv_iconst C.1 C.2.1 d hv (kk p e s m args below meth c C ls H locs hl hR hS)
theorem zx_bipush {c0 : Int} {v : Int32} (d : decode y.2.1 pc = .ok (.bipush c0, 2)) (e0 : pc + 2 = pc2) (hv : (Int8.ofInt c0).toInt32 = v) (kk : zX G y R F pc2 L (.int v :: st) h n k j) : zX G y R F pc L (st) h n k j := by
  subst e0; intro p e s m args below meth c C ls H locs hl hR hS; exact lv_bipush C.1 C.2.1 d hv (kk p e s m args below meth c C ls H locs hl hR hS)
theorem zx_sipush {c0 : Int} {v : Int32} (d : decode y.2.1 pc = .ok (.sipush c0, 3)) (e0 : pc + 3 = pc2) (hv : (Int16.ofInt c0).toInt32 = v) (kk : zX G y R F pc2 L (.int v :: st) h n k j) : zX G y R F pc L (st) h n k j := by
  subst e0; intro p e s m args below meth c C ls H locs hl hR hS; exact lv_sipush C.1 C.2.1 d hv (kk p e s m args below meth c C ls H locs hl hR hS)
theorem zx_lconst {c0 : Fin 2} {v : Int64} (d : decode y.2.1 pc = .ok (.lconst c0, 1)) (e0 : pc + 1 = pc2) (hv : Int64.ofNat (c0 : Nat) = v) (kk : zX G y R F pc2 L (.long v :: st) h n k j) : zX G y R F pc L (st) h n k j := by
  subst e0; intro p e s m args below meth c C ls H locs hl hR hS; exact lv_lconst C.1 C.2.1 d hv (kk p e s m args below meth c C ls H locs hl hR hS)
theorem zx_null  (d : decode y.2.1 pc = .ok (.aconst_null, 1)) (e0 : pc + 1 = pc2)  (kk : zX G y R F pc2 L (.null :: st) h n k j) : zX G y R F pc L (st) h n k j := by
  subst e0; intro p e s m args below meth c C ls H locs hl hR hS; exact lv_null C.1 C.2.1 d (kk p e s m args below meth c C ls H locs hl hR hS)
theorem zx_ldc2 {ix : Nat} {v : Int64} (d : decode y.2.1 pc = .ok (.ldc2_w ix, 3)) (e0 : pc + 3 = pc2) (hc : Cond.constantLong y.1.cls ix v ∈ zx_gW G) (kk : zX G y R F pc2 L (.long v :: st) h n k j) : zX G y R F pc L (st) h n k j := by
  subst e0; intro p e s m args below meth c C ls H locs hl hR hS; exact lv_ldc2 C.1 C.2.1 C.2.2.2.1 (C.2.2.2.2.1 _ (hc)) d (kk p e s m args below meth c C ls H locs hl hR hS)
theorem zx_iload_n {i0 : Fin 4} {x : Int32} (d : decode y.2.1 pc = .ok (.iload_n i0, 1)) (e0 : pc + 1 = pc2) (hv : L[(i0 : Nat)]? = some (some (.int x))) (kk : zX G y R F pc2 L (.int x :: st) h n k j) : zX G y R F pc L (st) h n k j := by
  subst e0; intro p e s m args below meth c C ls H locs hl hR hS; exact lv_iload_n C.1 C.2.1 d rfl (hl.2.2.2 _ _ hv) (kk p e s m args below meth c C ls H locs hl hR hS)
theorem zx_iload {i0 : Nat} {x : Int32} (d : decode y.2.1 pc = .ok (.iload i0, 2)) (e0 : pc + 2 = pc2) (hv : L[i0]? = some (some (.int x))) (kk : zX G y R F pc2 L (.int x :: st) h n k j) : zX G y R F pc L (st) h n k j := by
  subst e0; intro p e s m args below meth c C ls H locs hl hR hS; exact lv_iload C.1 C.2.1 d (hl.2.2.2 _ _ hv) (kk p e s m args below meth c C ls H locs hl hR hS)
theorem zx_lload_n {i0 : Fin 4} {x : Int64} (d : decode y.2.1 pc = .ok (.lload_n i0, 1)) (e0 : pc + 1 = pc2) (hv : L[(i0 : Nat)]? = some (some (.long x))) (kk : zX G y R F pc2 L (.long x :: st) h n k j) : zX G y R F pc L (st) h n k j := by
  subst e0; intro p e s m args below meth c C ls H locs hl hR hS; exact lv_lload_n C.1 C.2.1 d rfl (hl.2.2.2 _ _ hv) (kk p e s m args below meth c C ls H locs hl hR hS)
theorem zx_lload {i0 : Nat} {x : Int64} (d : decode y.2.1 pc = .ok (.lload i0, 2)) (e0 : pc + 2 = pc2) (hv : L[i0]? = some (some (.long x))) (kk : zX G y R F pc2 L (.long x :: st) h n k j) : zX G y R F pc L (st) h n k j := by
  subst e0; intro p e s m args below meth c C ls H locs hl hR hS; exact lv_lload C.1 C.2.1 d (hl.2.2.2 _ _ hv) (kk p e s m args below meth c C ls H locs hl hR hS)
theorem zx_aload_n {i0 : Fin 4} {x : Nat} (d : decode y.2.1 pc = .ok (.aload_n i0, 1)) (e0 : pc + 1 = pc2) (hv : L[(i0 : Nat)]? = some (some (.ref x))) (kk : zX G y R F pc2 L (.ref x :: st) h n k j) : zX G y R F pc L (st) h n k j := by
  subst e0; intro p e s m args below meth c C ls H locs hl hR hS; exact lv_aload_n C.1 C.2.1 d rfl (hl.2.2.2 _ _ hv) (kk p e s m args below meth c C ls H locs hl hR hS)
theorem zx_aload {i0 : Nat} {x : Nat} (d : decode y.2.1 pc = .ok (.aload i0, 2)) (e0 : pc + 2 = pc2) (hv : L[i0]? = some (some (.ref x))) (kk : zX G y R F pc2 L (.ref x :: st) h n k j) : zX G y R F pc L (st) h n k j := by
  subst e0; intro p e s m args below meth c C ls H locs hl hR hS; exact lv_aload C.1 C.2.1 d (hl.2.2.2 _ _ hv) (kk p e s m args below meth c C ls H locs hl hR hS)
theorem zx_aload_nN {i0 : Fin 4} (d : decode y.2.1 pc = .ok (.aload_n i0, 1)) (e0 : pc + 1 = pc2) (hv : L[(i0 : Nat)]? = some (some .null)) (kk : zX G y R F pc2 L (.null :: st) h n k j) : zX G y R F pc L (st) h n k j := by
  subst e0; intro p e s m args below meth c C ls H locs hl hR hS; exact lv_aload_nN C.1 C.2.1 d rfl (hl.2.2.2 _ _ hv) (kk p e s m args below meth c C ls H locs hl hR hS)
theorem zx_aloadN {i0 : Nat} (d : decode y.2.1 pc = .ok (.aload i0, 2)) (e0 : pc + 2 = pc2) (hv : L[i0]? = some (some .null)) (kk : zX G y R F pc2 L (.null :: st) h n k j) : zX G y R F pc L (st) h n k j := by
  subst e0; intro p e s m args below meth c C ls H locs hl hR hS; exact lv_aloadN C.1 C.2.1 d (hl.2.2.2 _ _ hv) (kk p e s m args below meth c C ls H locs hl hR hS)
theorem zx_dup {v : Value} (d : decode y.2.1 pc = .ok (.dup, 1)) (e0 : pc + 1 = pc2) (h1 : v.category = 1) (kk : zX G y R F pc2 L (v :: v :: st) h n k j) : zX G y R F pc L (v :: st) h n k j := by
  subst e0; intro p e s m args below meth c C ls H locs hl hR hS; exact lv_dup C.1 C.2.1 d h1 (kk p e s m args below meth c C ls H locs hl hR hS)
theorem zx_pop {v : Value} (d : decode y.2.1 pc = .ok (.pop, 1)) (e0 : pc + 1 = pc2) (h1 : v.category = 1) (kk : zX G y R F pc2 L (st) h n k j) : zX G y R F pc L (v :: st) h n k j := by
  subst e0; intro p e s m args below meth c C ls H locs hl hR hS; exact lv_pop C.1 C.2.1 d h1 (kk p e s m args below meth c C ls H locs hl hR hS)
theorem zx_dup2 {v w : Value} (d : decode y.2.1 pc = .ok (.dup2, 1)) (e0 : pc + 1 = pc2) (h1 : v.category = 1) (h2 : w.category = 1) (kk : zX G y R F pc2 L (v :: w :: v :: w :: st) h n k j) : zX G y R F pc L (v :: w :: st) h n k j := by
  subst e0; intro p e s m args below meth c C ls H locs hl hR hS; exact lv_dup2_11 C.1 C.2.1 d h1 h2 (kk p e s m args below meth c C ls H locs hl hR hS)
theorem zx_dup_x1 {v w : Value} (d : decode y.2.1 pc = .ok (.dup_x1, 1)) (e0 : pc + 1 = pc2) (h1 : v.category = 1) (h2 : w.category = 1) (kk : zX G y R F pc2 L (v :: w :: v :: st) h n k j) : zX G y R F pc L (v :: w :: st) h n k j := by
  subst e0; intro p e s m args below meth c C ls H locs hl hR hS; exact lv_dup_x1 C.1 C.2.1 d h1 h2 (kk p e s m args below meth c C ls H locs hl hR hS)
theorem zx_ifnullR {x : Nat} {off : Int} (d : decode y.2.1 pc = .ok (.ifnull off, 3)) (e0 : pc + 3 = pc2)  (kk : zX G y R F pc2 L (st) h n k j) : zX G y R F pc L (.ref x :: st) h n k j := by
  subst e0; intro p e s m args below meth c C ls H locs hl hR hS; exact lv_ifnull C.1 C.2.1 d (kk p e s m args below meth c C ls H locs hl hR hS)
theorem zx_ifnonnullN {off : Int} (d : decode y.2.1 pc = .ok (.ifnonnull off, 3)) (e0 : pc + 3 = pc2)  (kk : zX G y R F pc2 L (st) h n k j) : zX G y R F pc L (.null :: st) h n k j := by
  subst e0; intro p e s m args below meth c C ls H locs hl hR hS; exact lv_ifnonnullN C.1 C.2.1 d (kk p e s m args below meth c C ls H locs hl hR hS)
theorem zx_goto  {tgt : Nat} {off : Int} (d : decode y.2.1 pc = .ok (.goto off, 3)) (ht : (pc : Int) + off = (tgt : Int)) (kk : zX G y R F tgt L st h n k j) : zX G y R F pc L (st) h n k j := by
  intro p e s m args below meth c C ls H locs hl hR hS; exact lv_goto C.1 C.2.1 d ht (kk p e s m args below meth c C ls H locs hl hR hS)
theorem zx_ifnonnullR {x : Nat} {tgt : Nat} {off : Int} (d : decode y.2.1 pc = .ok (.ifnonnull off, 3)) (ht : (pc : Int) + off = (tgt : Int)) (kk : zX G y R F tgt L st h n k j) : zX G y R F pc L (.ref x :: st) h n k j := by
  intro p e s m args below meth c C ls H locs hl hR hS; exact lv_ifnonnull C.1 C.2.1 d ht (kk p e s m args below meth c C ls H locs hl hR hS)
theorem zx_ifnullN  {tgt : Nat} {off : Int} (d : decode y.2.1 pc = .ok (.ifnull off, 3)) (ht : (pc : Int) + off = (tgt : Int)) (kk : zX G y R F tgt L st h n k j) : zX G y R F pc L (.null :: st) h n k j := by
  intro p e s m args below meth c C ls H locs hl hR hS; exact lv_ifnullN C.1 C.2.1 d ht (kk p e s m args below meth c C ls H locs hl hR hS)
theorem zx_istore_n {i0 : Fin 4} {i1 : Nat} {x : Int32} (d : decode y.2.1 pc = .ok (.istore_n i0, 1)) (e0 : pc + 1 = pc2) (hi : (i0 : Nat) = i1) (hn : i1 < y.2.2.1) (kk : zX G y R F pc2 (zx_s1 L i1 (.int x)) st h n k j) : zX G y R F pc L (.int x :: st) h n k j := by
  subst e0; intro p e s m args below meth c C ls H locs hl hR hS; exact lv_istore_n C.1 C.2.1 d hi hl.has hn rfl (fun ls2 h2 => kk p e s m args below meth c C ls2 H locs (hl.s1 h2) hR hS)
theorem zx_istore {i1 : Nat} {x : Int32} (d : decode y.2.1 pc = .ok (.istore i1, 2)) (e0 : pc + 2 = pc2) (hn : i1 < y.2.2.1) (kk : zX G y R F pc2 (zx_s1 L i1 (.int x)) st h n k j) : zX G y R F pc L (.int x :: st) h n k j := by
  subst e0; intro p e s m args below meth c C ls H locs hl hR hS; exact lv_istore C.1 C.2.1 d hl.has hn rfl (fun ls2 h2 => kk p e s m args below meth c C ls2 H locs (hl.s1 h2) hR hS)
theorem zx_astore_n {i0 : Fin 4} {i1 : Nat} {x : Nat} (d : decode y.2.1 pc = .ok (.astore_n i0, 1)) (e0 : pc + 1 = pc2) (hi : (i0 : Nat) = i1) (hn : i1 < y.2.2.1) (kk : zX G y R F pc2 (zx_s1 L i1 (.ref x)) st h n k j) : zX G y R F pc L (.ref x :: st) h n k j := by
  subst e0; intro p e s m args below meth c C ls H locs hl hR hS; exact lv_astore_n C.1 C.2.1 d hi hl.has hn rfl (fun ls2 h2 => kk p e s m args below meth c C ls2 H locs (hl.s1 h2) hR hS)
theorem zx_astore {i1 : Nat} {x : Nat} (d : decode y.2.1 pc = .ok (.astore i1, 2)) (e0 : pc + 2 = pc2) (hn : i1 < y.2.2.1) (kk : zX G y R F pc2 (zx_s1 L i1 (.ref x)) st h n k j) : zX G y R F pc L (.ref x :: st) h n k j := by
  subst e0; intro p e s m args below meth c C ls H locs hl hR hS; exact lv_astore C.1 C.2.1 d hl.has hn rfl (fun ls2 h2 => kk p e s m args below meth c C ls2 H locs (hl.s1 h2) hR hS)
theorem zx_astore_nN {i0 : Fin 4} {i1 : Nat}  (d : decode y.2.1 pc = .ok (.astore_n i0, 1)) (e0 : pc + 1 = pc2) (hi : (i0 : Nat) = i1) (hn : i1 < y.2.2.1) (kk : zX G y R F pc2 (zx_s1 L i1 (.null)) st h n k j) : zX G y R F pc L (.null :: st) h n k j := by
  subst e0; intro p e s m args below meth c C ls H locs hl hR hS; exact lv_astore_nN C.1 C.2.1 d hi hl.has hn rfl (fun ls2 h2 => kk p e s m args below meth c C ls2 H locs (hl.s1 h2) hR hS)
theorem zx_astoreN {i1 : Nat}  (d : decode y.2.1 pc = .ok (.astore i1, 2)) (e0 : pc + 2 = pc2) (hn : i1 < y.2.2.1) (kk : zX G y R F pc2 (zx_s1 L i1 (.null)) st h n k j) : zX G y R F pc L (.null :: st) h n k j := by
  subst e0; intro p e s m args below meth c C ls H locs hl hR hS; exact lv_astoreN C.1 C.2.1 d hl.has hn rfl (fun ls2 h2 => kk p e s m args below meth c C ls2 H locs (hl.s1 h2) hR hS)
theorem zx_lstore_n {i0 : Fin 4} {i1 : Nat} {x : Int64} (d : decode y.2.1 pc = .ok (.lstore_n i0, 1)) (e0 : pc + 1 = pc2) (hi : (i0 : Nat) = i1) (hn : i1 + 1 < y.2.2.1) (kk : zX G y R F pc2 (zx_s2 L i1 (.long x)) st h n k j) : zX G y R F pc L (.long x :: st) h n k j := by
  subst e0; intro p e s m args below meth c C ls H locs hl hR hS; exact lv_lstore_n C.1 C.2.1 d hi hl.has hn rfl (fun ls2 h2 => kk p e s m args below meth c C ls2 H locs (hl.s2 h2) hR hS)
theorem zx_lstore {i1 : Nat} {x : Int64} (d : decode y.2.1 pc = .ok (.lstore i1, 2)) (e0 : pc + 2 = pc2) (hn : i1 + 1 < y.2.2.1) (kk : zX G y R F pc2 (zx_s2 L i1 (.long x)) st h n k j) : zX G y R F pc L (.long x :: st) h n k j := by
  subst e0; intro p e s m args below meth c C ls H locs hl hR hS; exact lv_lstore C.1 C.2.1 d hl.has hn rfl (fun ls2 h2 => kk p e s m args below meth c C ls2 H locs (hl.s2 h2) hR hS)
theorem zx_iinc {i1 : Nat} {c0 : Int} {x v : Int32} (d : decode y.2.1 pc = .ok (.iinc i1 c0, 3)) (e0 : pc + 3 = pc2) (hv : L[i1]? = some (some (.int x))) (hw : x + Int32.ofInt c0 = v) (hn : i1 < y.2.2.1) (kk : zX G y R F pc2 (zx_s1 L i1 (.int v)) st h n k j) : zX G y R F pc L st h n k j := by
  subst e0; intro p e s m args below meth c C ls H locs hl hR hS
  obtain ⟨kx, hkx⟩ := List.getElem?_of_mem (zx_ps_mem.mpr hv)
  exact lv_iinc C.1 C.2.1 d hl.has hkx hw hn rfl (fun ls2 h2 => kk p e s m args below meth c C ls2 H locs (hl.s1 h2) hR hS)
theorem zx_if_eq {x : Int32} {tgt : Nat} {off : Int} (d : decode y.2.1 pc = .ok (.ifCond .eq off, 3)) (e0 : pc + 3 = pc2) (ht : (pc : Int) + off = (tgt : Int)) (kt : x = 0 → zX G y R F tgt L st h n k j) (kf : ¬ (x = 0) → zX G y R F pc2 L st h n k j) : zX G y R F pc L (.int x :: st) h n k j := by
  subst e0; intro p e s m args below meth c C ls H locs hl hR hS; exact lv_if_eq C.1 C.2.1 d ht (fun q => kt q p e s m args below meth c C ls H locs hl hR hS) (fun q => kf q p e s m args below meth c C ls H locs hl hR hS)
theorem zx_if_ne {x : Int32} {tgt : Nat} {off : Int} (d : decode y.2.1 pc = .ok (.ifCond .ne off, 3)) (e0 : pc + 3 = pc2) (ht : (pc : Int) + off = (tgt : Int)) (kt : x ≠ 0 → zX G y R F tgt L st h n k j) (kf : x = 0 → zX G y R F pc2 L st h n k j) : zX G y R F pc L (.int x :: st) h n k j := by
  subst e0; intro p e s m args below meth c C ls H locs hl hR hS; exact lv_if_ne C.1 C.2.1 d ht (fun q => kt q p e s m args below meth c C ls H locs hl hR hS) (fun q => kf q p e s m args below meth c C ls H locs hl hR hS)
theorem zx_if_lt {x : Int32} {tgt : Nat} {off : Int} (d : decode y.2.1 pc = .ok (.ifCond .lt off, 3)) (e0 : pc + 3 = pc2) (ht : (pc : Int) + off = (tgt : Int)) (kt : x < 0 → zX G y R F tgt L st h n k j) (kf : ¬ (x < 0) → zX G y R F pc2 L st h n k j) : zX G y R F pc L (.int x :: st) h n k j := by
  subst e0; intro p e s m args below meth c C ls H locs hl hR hS; exact lv_if_lt C.1 C.2.1 d ht (fun q => kt q p e s m args below meth c C ls H locs hl hR hS) (fun q => kf q p e s m args below meth c C ls H locs hl hR hS)
theorem zx_if_ge {x : Int32} {tgt : Nat} {off : Int} (d : decode y.2.1 pc = .ok (.ifCond .ge off, 3)) (e0 : pc + 3 = pc2) (ht : (pc : Int) + off = (tgt : Int)) (kt : 0 ≤ x → zX G y R F tgt L st h n k j) (kf : ¬ (0 ≤ x) → zX G y R F pc2 L st h n k j) : zX G y R F pc L (.int x :: st) h n k j := by
  subst e0; intro p e s m args below meth c C ls H locs hl hR hS; exact lv_if_ge C.1 C.2.1 d ht (fun q => kt q p e s m args below meth c C ls H locs hl hR hS) (fun q => kf q p e s m args below meth c C ls H locs hl hR hS)
theorem zx_if_gt {x : Int32} {tgt : Nat} {off : Int} (d : decode y.2.1 pc = .ok (.ifCond .gt off, 3)) (e0 : pc + 3 = pc2) (ht : (pc : Int) + off = (tgt : Int)) (kt : 0 < x → zX G y R F tgt L st h n k j) (kf : ¬ (0 < x) → zX G y R F pc2 L st h n k j) : zX G y R F pc L (.int x :: st) h n k j := by
  subst e0; intro p e s m args below meth c C ls H locs hl hR hS; exact lv_if_gt C.1 C.2.1 d ht (fun q => kt q p e s m args below meth c C ls H locs hl hR hS) (fun q => kf q p e s m args below meth c C ls H locs hl hR hS)
theorem zx_if_le {x : Int32} {tgt : Nat} {off : Int} (d : decode y.2.1 pc = .ok (.ifCond .le off, 3)) (e0 : pc + 3 = pc2) (ht : (pc : Int) + off = (tgt : Int)) (kt : x ≤ 0 → zX G y R F tgt L st h n k j) (kf : ¬ (x ≤ 0) → zX G y R F pc2 L st h n k j) : zX G y R F pc L (.int x :: st) h n k j := by
  subst e0; intro p e s m args below meth c C ls H locs hl hR hS; exact lv_if_le C.1 C.2.1 d ht (fun q => kt q p e s m args below meth c C ls H locs hl hR hS) (fun q => kf q p e s m args below meth c C ls H locs hl hR hS)
theorem zx_icmp_eq {a b : Int32} {tgt : Nat} {off : Int} (d : decode y.2.1 pc = .ok (.if_icmp .eq off, 3)) (e0 : pc + 3 = pc2) (ht : (pc : Int) + off = (tgt : Int)) (kt : a = b → zX G y R F tgt L st h n k j) (kf : ¬ (a = b) → zX G y R F pc2 L st h n k j) : zX G y R F pc L (.int b :: .int a :: st) h n k j := by
  subst e0; intro p e s m args below meth c C ls H locs hl hR hS; exact lv_icmp_eq C.1 C.2.1 d ht (fun q => kt q p e s m args below meth c C ls H locs hl hR hS) (fun q => kf q p e s m args below meth c C ls H locs hl hR hS)
theorem zx_icmp_ne {a b : Int32} {tgt : Nat} {off : Int} (d : decode y.2.1 pc = .ok (.if_icmp .ne off, 3)) (e0 : pc + 3 = pc2) (ht : (pc : Int) + off = (tgt : Int)) (kt : a ≠ b → zX G y R F tgt L st h n k j) (kf : a = b → zX G y R F pc2 L st h n k j) : zX G y R F pc L (.int b :: .int a :: st) h n k j := by
  subst e0; intro p e s m args below meth c C ls H locs hl hR hS; exact lv_icmp_ne C.1 C.2.1 d ht (fun q => kt q p e s m args below meth c C ls H locs hl hR hS) (fun q => kf q p e s m args below meth c C ls H locs hl hR hS)
theorem zx_icmp_lt {a b : Int32} {tgt : Nat} {off : Int} (d : decode y.2.1 pc = .ok (.if_icmp .lt off, 3)) (e0 : pc + 3 = pc2) (ht : (pc : Int) + off = (tgt : Int)) (kt : a < b → zX G y R F tgt L st h n k j) (kf : ¬ (a < b) → zX G y R F pc2 L st h n k j) : zX G y R F pc L (.int b :: .int a :: st) h n k j := by
  subst e0; intro p e s m args below meth c C ls H locs hl hR hS; exact lv_icmp_lt C.1 C.2.1 d ht (fun q => kt q p e s m args below meth c C ls H locs hl hR hS) (fun q => kf q p e s m args below meth c C ls H locs hl hR hS)
theorem zx_icmp_ge {a b : Int32} {tgt : Nat} {off : Int} (d : decode y.2.1 pc = .ok (.if_icmp .ge off, 3)) (e0 : pc + 3 = pc2) (ht : (pc : Int) + off = (tgt : Int)) (kt : b ≤ a → zX G y R F tgt L st h n k j) (kf : ¬ (b ≤ a) → zX G y R F pc2 L st h n k j) : zX G y R F pc L (.int b :: .int a :: st) h n k j := by
  subst e0; intro p e s m args below meth c C ls H locs hl hR hS; exact lv_icmp_ge C.1 C.2.1 d ht (fun q => kt q p e s m args below meth c C ls H locs hl hR hS) (fun q => kf q p e s m args below meth c C ls H locs hl hR hS)
theorem zx_icmp_gt {a b : Int32} {tgt : Nat} {off : Int} (d : decode y.2.1 pc = .ok (.if_icmp .gt off, 3)) (e0 : pc + 3 = pc2) (ht : (pc : Int) + off = (tgt : Int)) (kt : b < a → zX G y R F tgt L st h n k j) (kf : ¬ (b < a) → zX G y R F pc2 L st h n k j) : zX G y R F pc L (.int b :: .int a :: st) h n k j := by
  subst e0; intro p e s m args below meth c C ls H locs hl hR hS; exact lv_icmp_gt C.1 C.2.1 d ht (fun q => kt q p e s m args below meth c C ls H locs hl hR hS) (fun q => kf q p e s m args below meth c C ls H locs hl hR hS)
theorem zx_icmp_le {a b : Int32} {tgt : Nat} {off : Int} (d : decode y.2.1 pc = .ok (.if_icmp .le off, 3)) (e0 : pc + 3 = pc2) (ht : (pc : Int) + off = (tgt : Int)) (kt : a ≤ b → zX G y R F tgt L st h n k j) (kf : ¬ (a ≤ b) → zX G y R F pc2 L st h n k j) : zX G y R F pc L (.int b :: .int a :: st) h n k j := by
  subst e0; intro p e s m args below meth c C ls H locs hl hR hS; exact lv_icmp_le C.1 C.2.1 d ht (fun q => kt q p e s m args below meth c C ls H locs hl hR hS) (fun q => kf q p e s m args below meth c C ls H locs hl hR hS)
theorem zx_tsw_out {x : Int32} {tgt len : Nat} {dflt lo hi : Int} {offs : Array Int} (d : decode y.2.1 pc = .ok (.tableswitch dflt lo hi offs, len)) (hx : x.toInt < lo ∨ hi < x.toInt) (ht : (pc : Int) + dflt = (tgt : Int)) (kk : zX G y R F tgt L st h n k j) : zX G y R F pc L (.int x :: st) h n k j := by
  intro p e s m args below meth c C ls H locs hl hR hS; exact lv_tableOut C.1 C.2.1 d hx ht (kk p e s m args below meth c C ls H locs hl hR hS)
theorem zx_tsw_in {x : Int32} {tgt len : Nat} {dflt lo hi off : Int} {offs : Array Int} (d : decode y.2.1 pc = .ok (.tableswitch dflt lo hi offs, len)) (h1 : ¬ x.toInt < lo) (h2 : ¬ hi < x.toInt) (ho : offs[(x.toInt - lo).toNat]? = some off) (ht : (pc : Int) + off = (tgt : Int)) (kk : zX G y R F tgt L st h n k j) : zX G y R F pc L (.int x :: st) h n k j := by
  intro p e s m args below meth c C ls H locs hl hR hS; exact lv_tableIn C.1 C.2.1 d h1 h2 ho ht (kk p e s m args below meth c C ls H locs hl hR hS)
/-- what a field's site says: class number, place, type, final -/
def zx_f (G : zx_G) (own : String) (ix ci k : Nat) (ty : FieldType) (fin : Bool) : Prop := ∃ (C0 : String) (T : u_T) (N : Nat) (ty0 : Nat → FieldType), (zx_gC G)[ci]? = some (C0, T, N) ∧ k < N ∧ (∀ w ∈ u_ws C0 T N, w ∈ zx_gW G) ∧ (∀ q, q < N → parseFieldDescriptor (T q).2.2.1 = some (ty0 q)) ∧ (∀ a, a < N → ∀ b, b < N → a ≠ b → (T a).2.1 ≠ (T b).2.1) ∧ parseFieldDescriptor (T k).2.2.1 = some ty ∧ (T k).2.2.2 = fin ∧ (fin = true → (T k).1 = own) ∧
  (Cond.fieldLink own ix (T k).1 (T k).2.1 (T k).2.2.1 ∈ zx_gW G ∨ (fin = false ∧ ∃ host, ∀ U, zx_gZ G U → va_Nw (.fieldLinkNest own ix (T k).1 (T k).2.1 (T k).2.2.1 host) U) ∨ (∃ host, ∀ U, zx_gZ G U → va_Nw (.fieldLinkNest own ix (T k).1 (T k).2.1 (T k).2.2.1 host) U))
theorem zx_getf {ix ci i0 a : Nat} {ty : FieldType} {fin : Bool} {fs : List Value} {v : Value} (f : zx_f G y.1.cls ix ci i0 ty fin) (d : decode y.2.1 pc = .ok (.getfield ix, 3)) (e0 : pc + 3 = pc2) (he : h a = some (.inr (ci, fs))) (hv : fs[i0]? = some v) (kk : zX G y R F pc2 L (v :: st) h n k j) : zX G y R F pc L (.ref a :: st) h n k j := by
  subst e0; intro p e s m args below meth c C ls H locs hl hR hS
  have hx := C.1; have hb := C.2.1; have ho := C.2.2.2.1; have hts := C.2.2.2.2.1; have hK := C.2.2.2.2.2.1; have hZ := C.2.2.2.2.2.2.2.1
  obtain ⟨C0, T, N, ty0, g1, g2, g3, g4, g5, g6, g7, g8, g9⟩ := f
  have hin : ∀ w ∈ u_ws C0 T N, w ∈ zx_gW G := g3
  rcases g9 with g9 | ⟨-, host, g9⟩ | ⟨host, g9⟩
  · exact va_get hx hb hts hin ho hK (hR.get he) 0 rfl g1 i0 g2 (hts _ g9) (fun _ q => q) hv d (kk p e s m args below meth c C ls H locs hl hR hS)
  · exact va_getN hx hb hts hin ho hK (hR.get he) 0 rfl g1 i0 g2 (va_Nw.use rfl (g9 s hZ)) (fun _ q => q) hv d (kk p e s m args below meth c C ls H locs hl hR hS)
  · exact va_getN hx hb hts hin ho hK (hR.get he) 0 rfl g1 i0 g2 (va_Nw.use rfl (g9 s hZ)) (fun _ q => q) hv d (kk p e s m args below meth c C ls H locs hl hR hS)
theorem zx_putf {ix ci i0 a : Nat} {ty : FieldType} {fs : List Value} {v : Value} {h2 : zx_H} (f : zx_f G y.1.cls ix ci i0 ty false) (d : decode y.2.1 pc = .ok (.putfield ix, 3)) (e0 : pc + 3 = pc2) (he : h a = some (.inr (ci, fs))) (hn : narrow ty v = v) (hf : fits ty v = true) (hlen : i0 < fs.length) (e2 : va_up h a (some (.inr (ci, fs.set i0 v))) = h2) (kk : zX G y R F pc2 L st h2 n k j) : zX G y R F pc L (v :: .ref a :: st) h n k j := by
  subst e0; subst e2; intro p e s m args below meth c C ls H locs hl hR hS
  have hx := C.1; have hb := C.2.1; have ho := C.2.2.2.1; have hts := C.2.2.2.2.1; have hK := C.2.2.2.2.2.1; have hZ := C.2.2.2.2.2.2.2.1
  obtain ⟨C0, T, N, ty0, g1, g2, g3, g4, g5, g6, g7, g8, g9⟩ := f
  have hin : ∀ w ∈ u_ws C0 T N, w ∈ zx_gW G := g3
  have hap := va_apart (own := y.1.cls) hts hin ty0 g4 g5 hK g1
  obtain ⟨hba, r, h1, cell, q1, q2, q3, q4⟩ := hR.2.1 a _ he
  have hr : r = (C0, T, N) := Option.some.inj (h1.symm.trans g1)
  subst hr
  obtain ⟨hS2, hfc, kC, hkC, hkind⟩ := hK.1 ci _ g1
  obtain ⟨cf, kf, fi, fd, hi, hsl⟩ := hS2 i0 g2
  have hlay := hts _ (hin _ (u_in_lay g2))
  unfold u_lay at hlay
  rw [if_neg (by rw [g7]; decide)] at hlay
  have hst := (u_facts hfc hkC (u_lays hts hin g2) hi).1
  have h6 := u_store hfc hkC hkind hlay hi g6 hn hf
  have go : ∀ H' : Heap, H'[a]? = some (cell.setSlot fd.slot v) → H'.size = H.size → (∀ q, q ≠ a → H'[q]? = H[q]?) → W p (zx_gL G) e R s m args below meth c H' (locs ++ [⟨a, fd.slot⟩]) k j (F below args s) (F0 m (pc + 3) ls st) := by
    intro H' e1 e2 e3
    rw [hsl] at e1 ⊢
    exact kk p e s m args below meth c C ls H' _ hl (hR.set he ⟨_, g1, t_OB.to (V := updV (vp_V fs) i0 v) ⟨_, e1, q2, q3, t_set q4 hap g2 v⟩ (fun x _ => vp_updV_set hlen v x)⟩ e2 e3) (hS.put e2 e3 hba)
  rcases g9 with g9 | ⟨-, host, g9⟩ | ⟨host, g9⟩
  · exact W.putK hx hb (f := fd) ⟨ho, hts _ g9, ⟨_, _, _, hi⟩, hst⟩ (by rw [q2]; exact h6) q1 q3 (by rw [hsl]; exact k2_hasslot (q4 i0 g2)) rfl rfl d go
  · exact va_WputK hx hb (f := fd) ho (va_Nw.use rfl (g9 s hZ)) hi hst (by rw [q2]; exact h6) q1 q3 (by rw [hsl]; exact k2_hasslot (q4 i0 g2)) rfl rfl d go
  · exact va_WputK hx hb (f := fd) ho (va_Nw.use rfl (g9 s hZ)) hi hst (by rw [q2]; exact h6) q1 q3 (by rw [hsl]; exact k2_hasslot (q4 i0 g2)) rfl rfl d go
/-- a final field, in its class's constructor -/
theorem zx_putF {ix ci i0 a : Nat} {ty : FieldType} {fs : List Value} {v : Value} {h2 : zx_H} (f : zx_f G y.1.cls ix ci i0 ty true) (hini : y.1.name = "<init>") (d : decode y.2.1 pc = .ok (.putfield ix, 3)) (e0 : pc + 3 = pc2) (he : h a = some (.inr (ci, fs))) (hn : narrow ty v = v) (hf : fits ty v = true) (hlen : i0 < fs.length) (e2 : va_up h a (some (.inr (ci, fs.set i0 v))) = h2) (hlk : ∃ r1 r2 r3, Cond.fieldLink y.1.cls ix r1 r2 r3 ∈ zx_gW G ∧ ∀ C0 T N, (zx_gC G)[ci]? = some (C0, T, N) → r1 = (T i0).1 ∧ r2 = (T i0).2.1 ∧ r3 = (T i0).2.2.1) (kk : zX G y R F pc2 L st h2 n k j) : zX G y R F pc L (v :: .ref a :: st) h n k j := by
  subst e0; subst e2; intro p e s m args below meth c C ls H locs hl hR hS
  have hx := C.1; have hb := C.2.1; have ho := C.2.2.2.1; have hts := C.2.2.2.2.1; have hK := C.2.2.2.2.2.1
  have hnm := C.2.2.2.2.2.2.2.2.2.2.2.1
  obtain ⟨C0, T, N, ty0, g1, g2, g3, g4, g5, g6, g7, g8, g9⟩ := f
  obtain ⟨r1, r2, r3, hlk, hr⟩ := hlk
  obtain ⟨rfl, rfl, rfl⟩ := hr C0 T N g1
  have hin : ∀ w ∈ u_ws C0 T N, w ∈ zx_gW G := g3
  have hap := va_apart (own := y.1.cls) hts hin ty0 g4 g5 hK g1
  obtain ⟨hba, r, h1, cell, q1, q2, q3, q4⟩ := hR.2.1 a _ he
  have hr : r = (C0, T, N) := Option.some.inj (h1.symm.trans g1)
  subst hr
  obtain ⟨hS2, hfc, kC, hkC, hkind⟩ := hK.1 ci _ g1
  obtain ⟨cf, kf, fi, fd, hi, hsl⟩ := hS2 i0 g2
  have hlay := hts _ (hin _ (u_in_lay g2))
  unfold u_lay at hlay
  rw [if_pos g7] at hlay
  have hst := (u_facts hfc hkC (u_lays hts hin g2) hi).1
  have hcf : m.cls = cf := by
    obtain ⟨_, _, c', _, _, _, -, -, hf', -, -, -, hown2, -⟩ := Cond.laysFinal_spec hlay
    have e1 : c' = cf := by have := hi.symm.trans hf'; simp at this; exact this.1.symm
    rw [g8 rfl] at hown2
    rw [← e1]; exact Option.some.inj (ho.symm.trans hown2)
  have h6 := u_fits hfc hkC hkind (Or.inr hlay) hi g6 hn hf
  refine W.putFinK hx hb ho (hts _ hlk) hi hst hcf (hnm.trans hini) (by rw [q2]; exact h6) q1 q3 (by rw [hsl]; exact k2_hasslot (q4 i0 g2)) rfl rfl d fun H' e1 e2 e3 => ?_
  rw [hsl] at e1 ⊢
  exact kk p e s m args below meth c C ls H' _ hl (hR.set he ⟨_, g1, t_OB.to (V := updV (vp_V fs) i0 v) ⟨_, e1, q2, q3, t_set q4 hap g2 v⟩ (fun x _ => vp_updV_set hlen v x)⟩ e2 e3) (hS.put e2 e3 hba)
theorem zx_iald {a t0 N0 : Nat} {cA : ClassId} {f : Nat → Int32} {i : Int32} (d : decode y.2.1 pc = .ok (.iaload, 1)) (e0 : pc + 1 = pc2) (he : h a = some (.inl (cA, N0, .inl f))) (ht : (zx_gT G)[t0]? = some (cA, .int)) (hin : vp_in i N0) (kk : zX G y R F pc2 L (.int (f i.toNatClampNeg) :: st) h n k j) : zX G y R F pc L (.int i :: .ref a :: st) h n k j := by
  subst e0; intro p e s m args below meth c C ls H locs hl hR hS; exact va_iald C.1 C.2.1 C.2.2.2.2.2.1 (hR.get he) 0 t0 rfl ht hin d (kk p e s m args below meth c C ls H locs hl hR hS)
theorem zx_bald {a t0 N0 : Nat} {cA : ClassId} {f : Nat → Int32} {i : Int32} (d : decode y.2.1 pc = .ok (.baload, 1)) (e0 : pc + 1 = pc2) (he : h a = some (.inl (cA, N0, .inl f))) (ht : (zx_gT G)[t0]? = some (cA, .byte)) (hin : vp_in i N0) (kk : zX G y R F pc2 L (.int (f i.toNatClampNeg) :: st) h n k j) : zX G y R F pc L (.int i :: .ref a :: st) h n k j := by
  subst e0; intro p e s m args below meth c C ls H locs hl hR hS; exact va_bald C.1 C.2.1 C.2.2.2.2.2.1 (hR.get he) 0 t0 rfl ht hin d (kk p e s m args below meth c C ls H locs hl hR hS)
theorem zx_zald {a t0 N0 : Nat} {cA : ClassId} {f : Nat → Int32} {i : Int32} (d : decode y.2.1 pc = .ok (.baload, 1)) (e0 : pc + 1 = pc2) (he : h a = some (.inl (cA, N0, .inl f))) (ht : (zx_gT G)[t0]? = some (cA, .boolean)) (hin : vp_in i N0) (kk : zX G y R F pc2 L (.int (f i.toNatClampNeg) :: st) h n k j) : zX G y R F pc L (.int i :: .ref a :: st) h n k j := by
  subst e0; intro p e s m args below meth c C ls H locs hl hR hS; exact va_zald C.1 C.2.1 C.2.2.2.2.2.1 (hR.get he) 0 t0 rfl ht hin d (kk p e s m args below meth c C ls H locs hl hR hS)
theorem zx_lald {a t0 N0 : Nat} {cA : ClassId} {f : Nat → Int64} {i : Int32} (d : decode y.2.1 pc = .ok (.laload, 1)) (e0 : pc + 1 = pc2) (he : h a = some (.inl (cA, N0, .inr (.inl f)))) (ht : (zx_gT G)[t0]? = some (cA, .long)) (hin : vp_in i N0) (kk : zX G y R F pc2 L (.long (f i.toNatClampNeg) :: st) h n k j) : zX G y R F pc L (.int i :: .ref a :: st) h n k j := by
  subst e0; intro p e s m args below meth c C ls H locs hl hR hS; exact va_lald C.1 C.2.1 C.2.2.2.2.2.1 (hR.get he) 0 t0 rfl ht hin d (kk p e s m args below meth c C ls H locs hl hR hS)
theorem zx_aald {a t0 N0 x : Nat} {cA : ClassId} {f : Nat → Option Nat} {C0 : String} {i : Int32} (d : decode y.2.1 pc = .ok (.aaload, 1)) (e0 : pc + 1 = pc2) (he : h a = some (.inl (cA, N0, .inr (.inr (.inr (.inr f)))))) (ht : (zx_gT G)[t0]? = some (cA, .object C0)) (hin : vp_in i N0) (hx : f i.toNatClampNeg = some x) (kk : zX G y R F pc2 L (.ref x :: st) h n k j) : zX G y R F pc L (.int i :: .ref a :: st) h n k j := by
  subst e0; intro p e s m args below meth c C ls H locs hl hR hS
  have kk' := kk p e s m args below meth c C ls H locs hl hR hS
  refine va_aldq C.1 C.2.1 C.2.2.2.2.2.1 (hR.get he) 0 t0 rfl ht hin d ?_
  rw [hx]
  exact kk'
theorem zx_alen {a t0 : Nat} {cA : ClassId} {x : vp_A} {ty : FieldType} {v : Int32} (d : decode y.2.1 pc = .ok (.arraylength, 1)) (e0 : pc + 1 = pc2) (he : h a = some (.inl (cA, x))) (ht : (zx_gT G)[t0]? = some (cA, ty)) (hv : Int32.ofNat x.1 = v) (kk : zX G y R F pc2 L (.int v :: st) h n k j) : zX G y R F pc L (.ref a :: st) h n k j := by
  subst e0; intro p e s m args below meth c C ls H locs hl hR hS; exact va_alen C.1 C.2.1 C.2.2.2.2.2.1 (hR.get he) 0 t0 rfl ht hv d (kk p e s m args below meth c C ls H locs hl hR hS)
theorem zx_iast {a t0 N0 : Nat} {cA : ClassId} {f : Nat → Int32} {i : Int32} {x : Int32} {h2 : zx_H} (d : decode y.2.1 pc = .ok (.iastore, 1)) (e0 : pc + 1 = pc2) (he : h a = some (.inl (cA, N0, .inl (f)))) (ht : (zx_gT G)[t0]? = some (cA, .int)) (hin : vp_in i N0) (e2 : va_up h a (some (.inl (cA, N0, .inl (upd f i.toNatClampNeg x)))) = h2) (kk : zX G y R F pc2 L st h2 n k j) : zX G y R F pc L (.int x :: .int i :: .ref a :: st) h n k j := by
  subst e0; subst e2; intro p e s m args below meth c C ls H locs hl hR hS
  have hK := C.2.2.2.2.2.1
  obtain ⟨hba, hat⟩ := hR.2.1 a _ he
  refine W.iast C.1 C.2.1 hat ((hK.2 t0 _ ht).1 N0 (fun q => .int (f q))) (fun q => by cases q) (by show ¬ (i < 0 ∨ (arrV _ _ _).slots.size ≤ _); rw [arrV_size]; exact hin) rfl rfl d fun H1 e1 z oq => ?_
  refine kk p e s m args below meth c C ls H1 _ hl (hR.set he ?_ z oq) (hS.put z oq hba)
  show H1[a]? = some (vp_cell _ _)
  rw [e1]
  rw [vp_cell_i, vp_cell_i, arrV_store]
  congr 2
  funext q
  by_cases hq : q = i.toNatClampNeg
  · subst hq
    simp [updV, upd]
  · simp [updV, upd, hq]
theorem zx_bast {a t0 N0 : Nat} {cA : ClassId} {f : Nat → Int32} {i : Int32} {x : Int32} {h2 : zx_H} (d : decode y.2.1 pc = .ok (.bastore, 1)) (e0 : pc + 1 = pc2) (he : h a = some (.inl (cA, N0, .inl (f)))) (ht : (zx_gT G)[t0]? = some (cA, .byte)) (hin : vp_in i N0) (e2 : va_up h a (some (.inl (cA, N0, .inl (upd f i.toNatClampNeg (vp_nar .byte x))))) = h2) (kk : zX G y R F pc2 L st h2 n k j) : zX G y R F pc L (.int x :: .int i :: .ref a :: st) h n k j := by
  subst e0; subst e2; intro p e s m args below meth c C ls H locs hl hR hS
  have hK := C.2.2.2.2.2.1
  obtain ⟨hba, hat⟩ := hR.2.1 a _ he
  refine W.bast C.1 C.2.1 hat ((hK.2 t0 _ ht).1 N0 (fun q => .int (f q))) (fun q => by cases q) (by show ¬ (i < 0 ∨ (arrV _ _ _).slots.size ≤ _); rw [arrV_size]; exact hin) rfl rfl d fun H1 e1 z oq => ?_
  refine kk p e s m args below meth c C ls H1 _ hl (hR.set he ?_ z oq) (hS.put z oq hba)
  show H1[a]? = some (vp_cell _ _)
  rw [e1]
  rw [vp_cell_i, vp_cell_i, arrV_store]
  congr 2
  funext q
  by_cases hq : q = i.toNatClampNeg
  · subst hq
    simp [updV, upd, vp_nar]; try rfl
  · simp [updV, upd, vp_nar, hq]
theorem zx_zast {a t0 N0 : Nat} {cA : ClassId} {f : Nat → Int32} {i : Int32} {x : Int32} {h2 : zx_H} (d : decode y.2.1 pc = .ok (.bastore, 1)) (e0 : pc + 1 = pc2) (he : h a = some (.inl (cA, N0, .inl (f)))) (ht : (zx_gT G)[t0]? = some (cA, .boolean)) (hin : vp_in i N0) (e2 : va_up h a (some (.inl (cA, N0, .inl (upd f i.toNatClampNeg (vp_nar .boolean x))))) = h2) (kk : zX G y R F pc2 L st h2 n k j) : zX G y R F pc L (.int x :: .int i :: .ref a :: st) h n k j := by
  subst e0; subst e2; intro p e s m args below meth c C ls H locs hl hR hS
  have hK := C.2.2.2.2.2.1
  obtain ⟨hba, hat⟩ := hR.2.1 a _ he
  refine W.zast C.1 C.2.1 hat ((hK.2 t0 _ ht).1 N0 (fun q => .int (f q))) (fun q => by cases q) (by show ¬ (i < 0 ∨ (arrV _ _ _).slots.size ≤ _); rw [arrV_size]; exact hin) rfl rfl d fun H1 e1 z oq => ?_
  refine kk p e s m args below meth c C ls H1 _ hl (hR.set he ?_ z oq) (hS.put z oq hba)
  show H1[a]? = some (vp_cell _ _)
  rw [e1]
  rw [vp_cell_i, vp_cell_i, arrV_store]
  congr 2
  funext q
  by_cases hq : q = i.toNatClampNeg
  · subst hq
    simp [updV, upd, vp_nar]; try rfl
  · simp [updV, upd, vp_nar, hq]
theorem zx_last {a t0 N0 : Nat} {cA : ClassId} {f : Nat → Int64} {i : Int32} {x : Int64} {h2 : zx_H} (d : decode y.2.1 pc = .ok (.lastore, 1)) (e0 : pc + 1 = pc2) (he : h a = some (.inl (cA, N0, .inr (.inl (f))))) (ht : (zx_gT G)[t0]? = some (cA, .long)) (hin : vp_in i N0) (e2 : va_up h a (some (.inl (cA, N0, .inr (.inl (vp_updL f i.toNatClampNeg x))))) = h2) (kk : zX G y R F pc2 L st h2 n k j) : zX G y R F pc L (.long x :: .int i :: .ref a :: st) h n k j := by
  subst e0; subst e2; intro p e s m args below meth c C ls H locs hl hR hS
  have hK := C.2.2.2.2.2.1
  obtain ⟨hba, hat⟩ := hR.2.1 a _ he
  refine W.last C.1 C.2.1 hat ((hK.2 t0 _ ht).1 N0 (fun q => .long (f q))) (fun q => by cases q) (by show ¬ (i < 0 ∨ (arrV _ _ _).slots.size ≤ _); rw [arrV_size]; exact hin) rfl rfl d fun H1 e1 z oq => ?_
  refine kk p e s m args below meth c C ls H1 _ hl (hR.set he ?_ z oq) (hS.put z oq hba)
  show H1[a]? = some (vp_cell _ _)
  rw [e1]
  rw [vp_cell_l, vp_cell_l, arrV_store]
  congr 2
  funext q
  by_cases hq : q = i.toNatClampNeg
  · subst hq
    simp [updV, vp_updL]
  · simp [updV, vp_updL, hq]
theorem zx_aast {a t0 N0 ci v : Nat} {cA : ClassId} {f : Nat → Option Nat} {r : vw_C} {vs : List Value} {i : Int32} {h2 : zx_H} (d : decode y.2.1 pc = .ok (.aastore, 1)) (e0 : pc + 1 = pc2) (he : h a = some (.inl (cA, N0, .inr (.inr (.inr (.inr f)))))) (ht : (zx_gT G)[t0]? = some (cA, .object r.1)) (hv : h v = some (.inr (ci, vs))) (hc : (zx_gC G)[ci]? = some r) (hin : vp_in i N0) (e2 : va_up h a (some (.inl (cA, N0, .inr (.inr (.inr (.inr (va_up f i.toNatClampNeg (some v)))))))) = h2) (kk : zX G y R F pc2 L st h2 n k j) : zX G y R F pc L (.ref v :: .int i :: .ref a :: st) h n k j := by
  subst e0; subst e2; intro p e s m args below meth c C ls H locs hl hR hS
  have hK := C.2.2.2.2.2.1
  obtain ⟨hba, hat⟩ := hR.2.1 a _ he
  have hlt : i.toNatClampNeg < N0 := Nat.not_le.mp fun q => hin (Or.inr q)
  have h0 : ¬ i < 0 := fun q => hin (Or.inl q)
  obtain ⟨-, r', hr', cellV, g1, g2, g3, -⟩ := hR.2.1 v _ hv
  have hcls := (hK.1 ci r hc).2
  obtain ⟨kA, comp, k1, k2, k3, -⟩ := (hK.2 t0 _ ht).2
  have hcomp : comp = (zx_gD G).1 ci := Option.some.inj (k3.symm.trans hcls.1)
  subst hcomp
  obtain ⟨kC, hkC, -⟩ := hcls.2
  refine W.aast C.1 C.2.1 hat (fun q h => by cases h) (fun h => by cases h) k1 k2 rfl hkC ⟨h0, by show _ < (arrV _ _ _).slots.size; rw [arrV_size]; exact hlt⟩ g1 (fun q h => by rw [g3] at h; cases h) (by rw [g2]; exact hkC) (by rw [g2]; exact va_assign hcls) rfl rfl d fun H1 e1 z oq => ?_
  refine kk p e s m args below meth c C ls H1 _ hl (hR.set he ?_ z oq) (hS.put z oq hba)
  show H1[a]? = some (vp_cell _ _)
  rw [e1]
  rw [vp_cell_q, vp_cell_q, arrV_store]
  congr 2
  funext q
  by_cases hq : q = i.toNatClampNeg
  · subst hq
    simp [updV, va_up, va_rf]
  · simp [updV, va_up, hq]
theorem zx_newa {at0 : ArrayType} {t0 N0 : Nat} {cA : ClassId} {ty : FieldType} {a0 : vp_A} {i : Int32} (d : decode y.2.1 pc = .ok (.newarray at0, 2)) (e0 : pc + 2 = pc2) (hw : Cond.arrayClass ty ∈ zx_gW G) (hty : newarray.typeOf at0 = ty) (ht : (zx_gT G)[t0]? = some (cA, ty)) (hpr : ∀ C0, ty ≠ .object C0) (ha : ∀ cA : ClassId, vp_cell cA a0 = arrV cA N0 (fun _ => defaultValue ty)) (hn0 : ¬ i < 0) (hN : i.toNatClampNeg = N0) (hby : N0 * componentBytes ty ≤ 536870912) (hc1 : k + 1 ≤ R.cells) (hc2 : j + N0 ≤ R.slots) (kk : zX G y R F pc2 L (.ref n :: st) (va_up h n (some (.inl (cA, a0)))) (n + 1) (k + 1) (j + N0)) : zX G y R F pc L (.int i :: st) h n k j := by
  subst e0; subst hty; intro p e s m args below meth c C ls H locs hl hR hS
  have hK := C.2.2.2.2.2.1; have hts := C.2.2.2.2.1; have hbs := C.2.2.2.2.2.2.1
  obtain ⟨hsz, hcell, -⟩ := id hR
  refine va_newaK C.1 C.2.1 (hts _ hw) rfl d rfl hn0 hN hby hc1 hc2 hsz fun H1 cA' e1 z1 o1 hAr hNm => ?_
  have hcA : cA' = cA := by
    have h2 := (hK.2 t0 _ ht).2
    have h3 : s.vm.findClass ("[" ++ (newarray.typeOf at0).toString) = some cA := by
      cases at0 <;> exact h2
    exact Option.some.inj (hNm.symm.trans h3)
  subst hcA
  have hbn : zx_gB G ≤ n := by rw [← hsz]; exact Nat.le_trans hbs hS.1
  refine kk p e s m args below meth c C ls H1 locs hl (hR.push hbn ?_ z1 o1) ⟨Nat.le_trans hS.1 (by omega), fun x h1 h2 => (o1 x (Nat.lt_of_lt_of_le h1 (by rw [← hsz]; exact hS.1))).trans (hS.2.1 x h1 h2), hS.2.2⟩
  show H1[n]? = some (vp_cell _ _)
  rw [ha]
  exact e1
theorem zx_newq {ix t0 N0 : Nat} {cA : ClassId} {C0 : String} {i : Int32} (d : decode y.2.1 pc = .ok (.anewarray ix, 3)) (e0 : pc + 3 = pc2) (hw : Cond.classLink y.1.cls ix C0 ∈ zx_gW G) (hover : ∀ U, zx_gZ G U → va_AO C0 U) (ht : (zx_gT G)[t0]? = some (cA, .object C0)) (hn0 : ¬ i < 0) (hN : i.toNatClampNeg = N0) (hby : N0 * 4 ≤ 536870912) (hc1 : k + 1 ≤ R.cells) (hc2 : j + N0 ≤ R.slots) (kk : zX G y R F pc2 L (.ref n :: st) (va_up h n (some (.inl (cA, N0, .inr (.inr (.inr (.inr (fun _ => none)))))))) (n + 1) (k + 1) (j + N0)) : zX G y R F pc L (.int i :: st) h n k j := by
  subst e0; subst hN; intro p e s m args below meth c C ls H locs hl hR hS
  have hK := C.2.2.2.2.2.1; have hts := C.2.2.2.2.1; have hbs := C.2.2.2.2.2.2.1; have hZ := C.2.2.2.2.2.2.2.1; have ho := C.2.2.2.1
  obtain ⟨hsz, hcell, -⟩ := id hR
  subst hsz
  refine W.anew C.1 C.2.1 ho (hts _ hw) (va_AO.use (hover s hZ)) rfl d rfl hn0 hby hc1 hc2 fun cA' kA comp f1 f2 f3 f4 => ?_
  have hcA : cA' = cA := by
    obtain ⟨kA', comp', -, -, -, h2⟩ := (hK.2 t0 _ ht).2
    exact Option.some.inj (f1.symm.trans h2)
  subst hcA
  generalize hH1 : H.push ({ cls := cA', slots := Array.replicate i.toNatClampNeg .null, vm := .none } : Cell) = H1
  have z1 : H1.size = H.size + 1 := by rw [← hH1, Array.size_push]
  have e1 : H1[H.size]? = some (arrV cA' i.toNatClampNeg (fun _ => .null)) := by rw [← hH1, Array.getElem?_push_size, ← arrV_new]
  have o1 : ∀ q : Nat, q < H.size → H1[q]? = H[q]? := fun q hq => by rw [← hH1, Array.getElem?_push, if_neg (Nat.ne_of_lt hq)]
  have hbn : zx_gB G ≤ H.size := Nat.le_trans hbs hS.1
  refine kk p e s m args below meth c C ls H1 locs hl (hR.push hbn ?_ z1 o1) ⟨Nat.le_trans hS.1 (by omega), fun x h1 h2 => (o1 x (Nat.lt_of_lt_of_le h1 hS.1)).trans (hS.2.1 x h1 h2), hS.2.2⟩
  show H1[H.size]? = some (vp_cell _ _)
  rw [vp_cell_q]
  exact e1
theorem zx_new {ix ci N0 : Nat} {C0 : String} {T : u_T} {ty0 : Nat → FieldType} {fs : List Value} (d : decode y.2.1 pc = .ok (.new ix, 3)) (e0 : pc + 3 = pc2) (hc : (zx_gC G)[ci]? = some (C0, T, N0)) (hw : ∀ w ∈ u_ws C0 T N0, w ∈ zx_gW G) (hty : ∀ q, q < N0 → parseFieldDescriptor (T q).2.2.1 = some (ty0 q)) (hfs : ∀ q, q < N0 → defaultValue (ty0 q) = vp_V fs q) (h1 : Cond.classLink y.1.cls ix C0 ∈ zx_gW G) (h2 : Cond.instantiable C0 N0 ∈ zx_gW G) (h3 : Cond.initialized C0 ∈ zx_gW G) (hc1 : k + 1 ≤ R.cells) (hc2 : j + N0 ≤ R.slots) (kk : zX G y R F pc2 L (.ref n :: st) (va_up h n (some (.inr (ci, fs)))) (n + 1) (k + 1) (j + N0)) : zX G y R F pc L st h n k j := by
  subst e0; intro p e s m args below meth c C ls H locs hl hR hS
  have hK := C.2.2.2.2.2.1; have hts := C.2.2.2.2.1; have hbs := C.2.2.2.2.2.2.1; have ho := C.2.2.2.1
  have hin : ∀ w ∈ u_ws C0 T N0, w ∈ zx_gW G := hw
  obtain ⟨hsz, hcell, -⟩ := id hR
  have hKn := hK.1 ci _ hc
  refine W.newcK C.1 C.2.1 ho (hts _ h1) (hts _ h2) (hts _ h3) rfl d hc1 hc2 hKn.2.1 hsz fun H1 kC hkC e1 z1 o1 => ?_
  have hbn : zx_gB G ≤ n := by rw [← hsz]; exact Nat.le_trans hbs hS.1
  refine kk p e s m args below meth c C ls H1 locs hl (hR.push hbn ⟨_, hc, (u_born ty0 hts hin hKn hkC e1 hty).to hfs⟩ z1 o1) ⟨Nat.le_trans hS.1 (by omega), fun x h1 h2 => (o1 x (Nat.lt_of_lt_of_le h1 (by rw [← hsz]; exact hS.1))).trans (hS.2.1 x h1 h2), hS.2.2⟩
theorem zx_objInit {ix a : Nat} (d : decode y.2.1 pc = .ok (.invokespecial ix, 3)) (e0 : pc + 3 = pc2) (h1 : Cond.methodLink y.1.cls ix objectInit ∈ zx_gW G) (h2 : Cond.instanceMethod objectInit ∈ zx_gW G) (h3 : Cond.code objectInit ⟨#[0xb1]⟩ 1 none ∈ zx_gW G) (hf : 1 ≤ R.frames) (hlc : (st.map fun v => v.category).sum + 12 ≤ R.locals) (kk : zX G y R F pc2 L st h n k j) : zX G y R F pc L (.ref a :: st) h n k j := by
  subst e0; intro p e s m args below meth c C ls H locs hl hR hS
  have hts := C.2.2.2.2.1
  exact W.objInit C.1 C.2.1 C.2.2.2.1 (hts _ h1) (hts _ h2) (hts _ h3) rfl (by rw [C.2.2.1]; exact hl.1) rfl d hf (by show 2 * 0 + _ + 12 ≤ _; omega) (kk p e s m args below meth c C ls H locs hl hR hS)
theorem zx_widen {k2 j2 : Nat} (h1 : k ≤ k2) (h2 : j ≤ j2) (kk : zX G y R F pc L st h n k2 j2) : zX G y R F pc L st h n k j := by
  intro p e s m args below meth c C ls H locs hl hR hS; exact W.widen h1 h2 (kk p e s m args below meth c C ls H locs hl hR hS)
end ZX
section ZR
variable {G : zx_G} {y : zx_Y} {R : Room} {post : Option Value → zx_H → Nat → Prop} {pc : Nat} {L : zx_L} {h : zx_H} {n k j : Nat}
theorem zx_end {s t : State} {H : Heap} {locs : List Loc} {r : Option Value} {as : Array Value} (hp : post r h n) (hR : zx_R (zx_gD G) (zx_gC G) (zx_gB G) h n H) (hS : va_S (zx_A G) s.heap H locs) (ht : t.heap = H) : zx_Q G post as s (.returned r) t := ⟨⟨r, h, n, rfl, hp, by rw [ht]; exact hR⟩, hS.F ht⟩
theorem zx_vret (d : decode y.2.1 pc = .ok (.return_, 1)) (hr : y.2.2.2.1 = none) (hp : post none h n) : zX G y R (zx_F G k j post) pc L [] h n k j := by
  intro p e s m args below meth c C ls H locs hl hR hS
  have hlk := C.2.2.2.2.2.2.2.2.2.2.1
  exact W.vret C.1 C.2.1 (C.2.2.2.2.2.2.2.2.2.1.trans hr) (fun t ht _ => zx_end hp hR hS ht) hS.2.2 d hlk
theorem zx_iret {v : Int32} (d : decode y.2.1 pc = .ok (.ireturn, 1)) (hr : y.2.2.2.1 = some .int) (hp : post (some (.int v)) h n) : zX G y R (zx_F G k j post) pc L [.int v] h n k j := by
  intro p e s m args below meth c C ls H locs hl hR hS
  have hlk := C.2.2.2.2.2.2.2.2.2.2.1
  exact W.iret C.1 C.2.1 (C.2.2.2.2.2.2.2.2.2.1.trans hr) (fun t ht _ => zx_end hp hR hS ht) hS.2.2 d hlk
theorem zx_zret {v : Int32} {ty : FieldType} (d : decode y.2.1 pc = .ok (.ireturn, 1)) (hr : y.2.2.2.1 = some ty) (hn : narrow ty (.int v) = .int v) (hp : post (some (.int v)) h n) : zX G y R (zx_F G k j post) pc L [.int v] h n k j := by
  intro p e s m args below meth c C ls H locs hl hR hS
  have hlk := C.2.2.2.2.2.2.2.2.2.2.1
  exact W.zret C.1 C.2.1 (C.2.2.2.2.2.2.2.2.2.1.trans hr) hn (fun t ht _ => zx_end hp hR hS ht) hS.2.2 d hlk
theorem zx_lret {v : Int64} (d : decode y.2.1 pc = .ok (.lreturn, 1)) (hr : y.2.2.2.1 = some .long) (hp : post (some (.long v)) h n) : zX G y R (zx_F G k j post) pc L [.long v] h n k j := by
  intro p e s m args below meth c C ls H locs hl hR hS
  have hlk := C.2.2.2.2.2.2.2.2.2.2.1
  exact W.lret C.1 C.2.1 (C.2.2.2.2.2.2.2.2.2.1.trans hr) (fun t ht _ => zx_end hp hR hS ht) hS.2.2 d hlk
theorem zx_aret {v : Value} {C0 : String} (d : decode y.2.1 pc = .ok (.areturn, 1)) (hr : y.2.2.2.1 = some (.object C0)) (hv : v = .null ∨ ∃ a, v = .ref a) (hp : post (some v) h n) : zX G y R (zx_F G k j post) pc L [v] h n k j := by
  intro p e s m args below meth c C ls H locs hl hR hS
  have hlk := C.2.2.2.2.2.2.2.2.2.2.1
  exact W.aret C.1 C.2.1 (C.2.2.2.2.2.2.2.2.2.1.trans hr) (Or.inl ⟨_, rfl⟩) hv (fun t ht _ => zx_end hp hR hS ht) hS.2.2 d hlk
/-- the entry -/
theorem zx_entry {rm : Room} {av : List Value} (hh : y.2.2.2.2 = []) (hy : plainName y.1.cls = true) (hlen : (lg_sl av).length ≤ y.2.2.1) (h1 : L.length = y.2.2.1) (h2 : zx_ps L = lv_args 0 av) (kk : zX G y rm (zx_F G rm.cells rm.slots post) 0 L [] h n 0 0) : zM G y rm av h n post := by
  refine Met.ofW (cc := y.2.1) (maxL := y.2.2.1) (ret := y.2.2.2.1) hy rfl ?_
  intro p e s m args below meth c s₁ B hml hv
  obtain ⟨rfl, hR, hbn, hK, hZ, hZk⟩ := hv
  have hts := atoms_spec (ws := zx_c y :: zx_gW G) B.pre
  have hown : s.vm.findClass y.1.cls = some m.cls := findClass_of_methodNamed B.named
  have hnm : meth.name = y.1.name := (name_of_methodNamed B.named B.method).1
  have hl := lv_entry av (n := y.2.2.1) hlen
  rw [lg_entry_eq]
  refine kk p e s m _ below meth c ⟨B.exec, B.bytes, hml, hown, fun w hw => hts w (List.mem_cons_of_mem _ hw), hK, ?_, hZ, hZk, B.returns, B.notSynchronized, hnm, ?_⟩ _ s.heap [] ⟨hl.1, h1, hl.2.1, fun i v q => hl.2.2 (i, v) ?_⟩ hR va_S.rf
  · rw [hR.1]; exact hbn
  · have h0 := B.noHandlers (hts _ List.mem_cons_self)
    have h1 : c.exceptionTable.size = 0 := by simpa [Array.isEmpty] using h0
    have h2 : c.exceptionTable.toList = [] := List.eq_nil_of_length_eq_zero (by simpa using h1)
    rw [h2, hh]; rfl
  · rw [← h2]; exact zx_ps_mem.mpr q
end ZR
/-! calls -/
def zx_ok (w : Cond) : Prop := (w.onTables && w.keeps) = true ∨ ∃ ty, w = .arrayClass ty
theorem zx_good {ws : List Cond} {c1 : Cond} (hw : ∀ w ∈ ws, zx_ok w) (h1 : c1 ∈ ws) : GoodIn ws (c1 :: ws) := by
  intro w h
  rcases List.mem_cons.mp h with rfl | h
  · exact ⟨h1, hw _ h1⟩
  · exact ⟨h, hw w h⟩
theorem zx_blind {G : zx_G} {av : List Value} {h : zx_H} {n : Nat} : FrameBlind (va_Pc av (zx_P G h n)) := by
  intro a U g mk hq
  obtain ⟨h0, hR, hb, hK, hZ, hZk⟩ := hq
  refine ⟨h0, hR, hb, va_K.moved (u := U) (U := U.calling g mk a) (Vm.Alike.refl U.vm) hK, ?_, hZk⟩
  exact hZk U (U.calling g mk a) (State.WarmedH.refl U) (by rw [hR.1]; exact hb) (fun _ _ => rfl) hZ
theorem zx_pre {G : zx_G} {y : zx_Y} {p : Program} {s U : State} {m : MethodId} {args : Array Value} {meth : Method} {c : Code} {H : Heap} {locs : List Loc} {av : List Value} {h : zx_H} {n : Nat} (C : zx_C G y p s m args meth c) (hR : zx_R (zx_gD G) (zx_gC G) (zx_gB G) h n H) (hS : va_S (zx_A G) s.heap H locs) (hU : U.heap = H) (hW : s.WarmedH U.vm) : va_Pc av (zx_P G h n) av.toArray U := by
  have hK := C.2.2.2.2.2.1; have hB := C.2.2.2.2.2.2.1; have hZ := C.2.2.2.2.2.2.2.1; have hZk := C.2.2.2.2.2.2.2.2.1
  refine ⟨rfl, by rw [hU]; exact hR, ?_, va_K.moved hW.alike hK, ?_, hZk⟩
  · rw [← hR.1]; exact Nat.le_trans hB hS.1
  · exact hZk s U hW hB (fun q hq => by rw [hU]; exact hS.2.1 q (Nat.lt_of_lt_of_le hq hB) (Nat.not_le.mpr hq)) hZ
theorem zx_run {G : zx_G} {p : Program} {e : Env} {R : Room} {s : State} {m : MethodId} {args a : Array Value} {below : List Frame} {meth : Method} {c : Code} {H : Heap} {locs : List Loc} {k j mc ms pc : Nat} {ls : Array Slot} {st0 rest : List Value} {post : Option Value → zx_H → Nat → Prop} {Q : State → Prop}
    (hr : va_Run p (zx_gL G) e R s m args below meth c H locs k j mc ms (F0 m pc ls st0) rest (zx_Q G post a) (zx_A G)) (hS : va_S (zx_A G) s.heap H locs)
    (kk : ∀ (r : Option Value) (h' : zx_H) (n' : Nat) (H' : Heap) (locs' : List Loc), post r h' n' → zx_R (zx_gD G) (zx_gC G) (zx_gB G) h' n' H' → va_S (zx_A G) s.heap H' locs' → W p (zx_gL G) e R s m args below meth c H' locs' (k + mc) (j + ms) Q (F0 m (pc + 3) ls (r.toList ++ rest))) :
    W p (zx_gL G) e R s m args below meth c H locs k j Q (F0 m pc ls st0) := by
  intro T hT X
  obtain ⟨v, st₀, t, T', L, h0, X', hL, e1, e2, ⟨⟨r, h', n', hv, hp, hR'⟩, hz, hk⟩, st⟩ := hr T hT X
  cases hv
  rw [h0] at hz hk
  obtain ⟨t2, a1, b1⟩ := kk v h' n' T'.heap (locs ++ L) hp (by rw [e1]; exact hR')
    ⟨Nat.le_trans hS.1 (by rw [e1]; exact hz), fun q h1 h2 => by rw [e1, hk q (Nat.lt_of_lt_of_le h1 hS.1) h2]; exact hS.2.1 q h1 h2, fun q hq => by
      rcases List.mem_append.mp hq with h | h
      · exact hS.2.2 q h
      · exact hL q h⟩ T' rfl X'
  exact ⟨t2, st t2 a1, b1⟩
/-- a call's site: the callee's words, and how it is linked -/
def zx_s (G : zx_G) (own : String) (ix : Nat) (y : zx_Y) (np : Nat) : Prop := (∀ w ∈ zx_gW G, zx_ok w) ∧ zx_c y ∈ zx_gW G ∧ Cond.initialized y.1.cls ∈ zx_gW G ∧ (y.1.cls ≠ "java/lang/invoke/MethodHandle" ∧ y.1.cls ≠ "java/lang/invoke/VarHandle" ∧ (parseMethodDescriptor y.1.desc).map (fun d => d.parameters.length) = some np) ∧
  (Cond.methodLink own ix y.1 ∈ zx_gW G ∨ ∃ host, ∀ U, zx_gZ G U → va_Nw (.methodLinkNest own ix y.1 host) U)
section ZCALL
variable {G : zx_G} {y y1 : zx_Y} {R rm : Room} {F : List Frame → Array Value → State → State → Prop} {pc pc2 ix np : Nat} {L : zx_L} {st0 av rest : List Value} {h : zx_H} {n k j : Nat} {post : Option Value → zx_H → Nat → Prop}
theorem zx_callS (f : zx_s G y.1.cls ix y1 np) (fs : Cond.static y1.1 ∈ zx_gW G) (hM : zM G y1 rm av h n post) (d : decode y.2.1 pc = .ok (.invokestatic ix, 3)) (e0 : pc + 3 = pc2) (hst : st0 = av.reverse ++ rest) (hnp : av.length = np) (hsum : (rest.map fun v => v.category).sum ≤ 8) (hfr : rm.frames + 1 ≤ R.frames) (hlo : 8 + (y1.2.2.1 + 11) + rm.locals ≤ R.locals) (hc1 : k + rm.cells ≤ R.cells) (hc2 : j + rm.slots ≤ R.slots)
    (kk : ∀ r h' n', post r h' n' → zX G y R F pc2 L (r.toList ++ rest) h' n' (k + rm.cells) (j + rm.slots)) : zX G y R F pc L st0 h n k j := by
  subst e0; subst hst; intro p e s m args below meth c C ls H locs hl hR hS
  have hx := C.1; have hb := C.2.1; have hml := C.2.2.1; have ho := C.2.2.2.1; have hts := C.2.2.2.2.1; have hZ := C.2.2.2.2.2.2.2.1
  obtain ⟨f1, f2, f3, f4, f5⟩ := f
  have hG : GoodIn (zx_gW G) (zx_c y1 :: zx_gW G) := zx_good f1 f2
  have hp : PreS s H (va_Pc av (zx_P G h n)) av := ⟨zx_blind, fun U hU hW => zx_pre C hR hS hU hW⟩
  have hini := hts _ f3
  have hstt := hts _ fs
  have go := fun (r : Option Value) (h' : zx_H) (n' : Nat) (H' : Heap) (locs' : List Loc) (hp' : post r h' n') (hR' : zx_R (zx_gD G) (zx_gC G) (zx_gB G) h' n' H') (hS' : va_S (zx_A G) s.heap H' locs') => kk r h' n' hp' p e s m args below meth c C ls H' locs' hl hR' hS'
  rcases f5 with f5 | ⟨host, f5⟩
  · exact zx_run (va_runS (nL := y.2.2.1) ⟨hx, hb, hml, ho, hts⟩ hM ⟨callB_of np hts hG rfl rfl rfl hini (hts _ f5) f4 ⟨hfr, hlo⟩, hstt⟩ hp rfl hnp hl.1 rfl (lv_room hsum) d ⟨hc1, hc2⟩) hS go
  · exact zx_run (va_runSN (nL := y.2.2.1) ⟨hx, hb, hml, ho, hts⟩ hM ⟨va_cnB np hts hG rfl rfl rfl (f5 s hZ) hini f4 ⟨hfr, hlo⟩, hstt, trivial⟩ hp rfl hnp hl.1 rfl (lv_room hsum) d ⟨hc1, hc2⟩) hS go
theorem zx_callI {b : Nat} (f : zx_s G y.1.cls ix y1 np) (fs : y1.1.name = "<init>" ∧ y1.2.2.2.1 = none ∧ Cond.instanceMethod y1.1 ∈ zx_gW G) (hM : zM G y1 rm (.ref b :: av) h n post) (d : decode y.2.1 pc = .ok (.invokespecial ix, 3)) (e0 : pc + 3 = pc2) (hst : st0 = av.reverse ++ .ref b :: rest) (hnp : av.length = np) (hsum : (rest.map fun v => v.category).sum ≤ 8) (hfr : rm.frames + 1 ≤ R.frames) (hlo : 8 + (y1.2.2.1 + 11) + rm.locals ≤ R.locals) (hc1 : k + rm.cells ≤ R.cells) (hc2 : j + rm.slots ≤ R.slots)
    (kk : ∀ r h' n', post r h' n' → zX G y R F pc2 L (r.toList ++ rest) h' n' (k + rm.cells) (j + rm.slots)) : zX G y R F pc L st0 h n k j := by
  subst e0; subst hst; intro p e s m args below meth c C ls H locs hl hR hS
  have hx := C.1; have hb := C.2.1; have hml := C.2.2.1; have ho := C.2.2.2.1; have hts := C.2.2.2.2.1; have hZ := C.2.2.2.2.2.2.2.1
  obtain ⟨f1, f2, f3, f4, f5⟩ := f
  obtain ⟨g1, g2, g3⟩ := fs
  have hG : GoodIn (zx_gW G) (zx_c y1 :: zx_gW G) := zx_good f1 f2
  obtain ⟨yn, ycc, yl, yr, yh⟩ := y1
  dsimp only at g2; subst g2
  have hp : PreS s H (va_Pc (.ref b :: av) (zx_P G h n)) (.ref b :: av) := ⟨zx_blind, fun U hU hW => zx_pre C hR hS hU hW⟩
  have hini := hts _ f3
  have hins := hts _ g3
  have go := fun (r : Option Value) (h' : zx_H) (n' : Nat) (H' : Heap) (locs' : List Loc) (hp' : post r h' n') (hR' : zx_R (zx_gD G) (zx_gC G) (zx_gB G) h' n' H') (hS' : va_S (zx_A G) s.heap H' locs') => kk r h' n' hp' p e s m args below meth c C ls H' locs' hl hR' hS'
  rcases f5 with f5 | ⟨host, f5⟩
  · exact zx_run (va_runI (nL := y.2.2.1) ⟨hx, hb, hml, ho, hts⟩ hM ⟨callB_of np hts hG rfl rfl rfl hini (hts _ f5) f4 ⟨hfr, hlo⟩, g1, hins⟩ hp rfl hnp hl.1 rfl (lv_room hsum) d ⟨hc1, hc2⟩) hS go
  · exact zx_run (va_runIN (nL := y.2.2.1) ⟨hx, hb, hml, ho, hts⟩ hM ⟨va_cnB np hts hG rfl rfl rfl (f5 s hZ) hini f4 ⟨hfr, hlo⟩, g1, hins⟩ hp rfl hnp hl.1 rfl (lv_room hsum) d ⟨hc1, hc2⟩) hS go
theorem zx_callV {b ci : Nat} {vs : List Value} {r0 : vw_C} (f : zx_s G y.1.cls ix y1 np) (fs : Cond.instanceMethod y1.1 ∈ zx_gW G ∧ Cond.selects y1.1.cls y1.1 y1.1 ∈ zx_gW G ∧ (zx_gC G)[ci]? = some r0 ∧ r0.1 = y1.1.cls) (hob : h b = some (.inr (ci, vs))) (hM : zM G y1 rm (.ref b :: av) h n post) (d : decode y.2.1 pc = .ok (.invokevirtual ix, 3)) (e0 : pc + 3 = pc2) (hst : st0 = av.reverse ++ .ref b :: rest) (hnp : av.length = np) (hsum : (rest.map fun v => v.category).sum ≤ 8) (hfr : rm.frames + 1 ≤ R.frames) (hlo : 8 + (y1.2.2.1 + 11) + rm.locals ≤ R.locals) (hc1 : k + rm.cells ≤ R.cells) (hc2 : j + rm.slots ≤ R.slots)
    (kk : ∀ r h' n', post r h' n' → zX G y R F pc2 L (r.toList ++ rest) h' n' (k + rm.cells) (j + rm.slots)) : zX G y R F pc L st0 h n k j := by
  subst e0; subst hst; intro p e s m args below meth c C ls H locs hl hR hS
  have hx := C.1; have hb := C.2.1; have hml := C.2.2.1; have ho := C.2.2.2.1; have hts := C.2.2.2.2.1; have hZ := C.2.2.2.2.2.2.2.1; have hK := C.2.2.2.2.2.1
  obtain ⟨f1, f2, f3, f4, f5⟩ := f
  obtain ⟨g1, g2, g3, g4⟩ := fs
  have hG : GoodIn (zx_gW G) (zx_c y1 :: zx_gW G) := zx_good f1 f2
  have hcell := va_recv (s := s) hK (hR.get hob) g3 (q0 := 0) rfl
  rw [g4] at hcell
  have hp : PreV s H y1.1.cls b (va_Pc (.ref b :: av) (zx_P G h n)) av := ⟨zx_blind, hcell, fun U hU hW => zx_pre C hR hS hU hW⟩
  have hini := hts _ f3
  have go := fun (r : Option Value) (h' : zx_H) (n' : Nat) (H' : Heap) (locs' : List Loc) (hp' : post r h' n') (hR' : zx_R (zx_gD G) (zx_gC G) (zx_gB G) h' n' H') (hS' : va_S (zx_A G) s.heap H' locs') => kk r h' n' hp' p e s m args below meth c C ls H' locs' hl hR' hS'
  rcases f5 with f5 | ⟨host, f5⟩
  · exact zx_run (va_runV (nL := y.2.2.1) ⟨hx, hb, hml, ho, hts⟩ hM ⟨callB_of np hts hG rfl rfl rfl hini (hts _ f5) f4 ⟨hfr, hlo⟩, hts _ g1, hts _ g2⟩ hp rfl hnp hl.1 rfl (lv_room hsum) d ⟨hc1, hc2⟩) hS go
  · exact zx_run (va_runVN (nL := y.2.2.1) ⟨hx, hb, hml, ho, hts⟩ hM ⟨va_cnB np hts hG rfl rfl rfl (f5 s hZ) hini f4 ⟨hfr, hlo⟩, hts _ g1, hts _ g2⟩ hp rfl hnp hl.1 rfl (lv_room hsum) d ⟨hc1, hc2⟩) hS go
end ZCALL
end
section
/-! Throwing: contracts of methods that throw, calls of them, 'throw new X()' with no arguments. -/
def zx_QT (G : zx_G) (cls : String) (post : zx_H → Nat → Prop) : Array Value → State → Outcome → State → Prop := fun _ st o t =>
  ∃ (a : Addr) (cell : Cell) (h' : zx_H) (n' : Nat), o = .threw a ∧ post h' n' ∧ zx_R (zx_gD G) (zx_gC G) (zx_gB G) h' n' t.heap ∧ va_F (zx_A G) st t ∧ t.heap[a]? = some cell ∧ cell.vm.isStatics = false ∧ t.vm.findClass cls = some cell.cls
def zx_FT (G : zx_G) (mc ms : Nat) (cls : String) (post : zx_H → Nat → Prop) : List Frame → Array Value → State → State → Prop := fun below args s t =>
  ∃ o, t.status = .running ∧ Ended t below o ∧ zx_QT G cls post args s o t ∧ ∃ L, FramedT s o t L mc ms ∧ ∀ q ∈ L, zx_A G q.base
def zT (G : zx_G) (y : zx_Y) (rm : Room) (av : List Value) (h : zx_H) (n : Nat) (cls : String) (post : zx_H → Nat → Prop) : Prop :=
  MetFree (zx_gL G) y.1 (headSpec (zx_c y :: zx_gW G) rm) (va_Pc av (zx_P G h n)) (fun _ _ _ _ _ => True) (fun a st o t => zx_QT G cls post a st o t ∧ ∃ L, FramedT st o t L rm.cells rm.slots ∧ ∀ q ∈ L, zx_A G q.base)
theorem zx_entryT {G : zx_G} {y : zx_Y} {L : zx_L} {h : zx_H} {n : Nat} {rm : Room} {av : List Value} {cls : String} {post : zx_H → Nat → Prop} (hh : y.2.2.2.2 = []) (hy : plainName y.1.cls = true) (hlen : (lg_sl av).length ≤ y.2.2.1) (h1 : L.length = y.2.2.1) (h2 : zx_ps L = lv_args 0 av) (kk : zX G y rm (zx_FT G rm.cells rm.slots cls post) 0 L [] h n 0 0) : zT G y rm av h n cls post := by
  refine MetFree.of_bodyS (code := y.2.1) (maxLocals := y.2.2.1) (ret := y.2.2.2.1) hy ?_ ?_
  · intro args s m hp hn
    obtain ⟨meth, c, a1, a2, a3, a4, a5, a6, -, -⟩ := Cond.code_spec hn (atoms_spec (ws := zx_c y :: zx_gW G) hp _ List.mem_cons_self)
    exact ⟨meth, c, a1, a2, a3, a4, a5, a6⟩
  · intro p e s m args below meth c s₁ B hml hv _
    obtain ⟨rfl, hR, hbn, hK, hZ, hZk⟩ := hv
    have hts := atoms_spec (ws := zx_c y :: zx_gW G) B.pre
    have hown : s.vm.findClass y.1.cls = some m.cls := findClass_of_methodNamed B.named
    have hnm : meth.name = y.1.name := (name_of_methodNamed B.named B.method).1
    have hl := lv_entry av (n := y.2.2.1) hlen
    have h0 := B.noHandlers (hts _ List.mem_cons_self)
    have h1' : c.exceptionTable.size = 0 := by simpa [Array.isEmpty] using h0
    have h2' : c.exceptionTable.toList = [] := List.eq_nil_of_length_eq_zero (by simpa using h1')
    have hh0 : s₁.heap = s.heap := by rw [B.state]; rfl
    rw [lg_entry_eq]
    obtain ⟨t, a1, o, b1, b2, b3, b4⟩ := kk p e s m _ below meth c ⟨B.exec, B.bytes, hml, hown, fun w hw => hts w (List.mem_cons_of_mem _ hw), hK, by rw [hR.1]; exact hbn, hZ, hZk, B.returns, B.notSynchronized, hnm, by rw [h2', hh]; rfl⟩ _ s.heap [] ⟨hl.1, h1, hl.2.1, fun i v q => hl.2.2 (i, v) (by rw [← h2]; exact zx_ps_mem.mpr q)⟩ hR va_S.rf s₁ hh0 (Stand.of_body B)
    exact ⟨t, o, a1, b1, b2, b3, b4⟩
theorem zx_backT {G : zx_G} {y1 : zx_Y} {rm R : Room} {av : List Value} {h : zx_H} {n : Nat} {cls : String} {post : zx_H → Nat → Prop} {p : Program} {e : Env} {s : State} {m : MethodId} {sargs : Array Value} {below : List Frame} {meth : Method} {c : Code} {U : State} {Ls : List Loc} {k j : Nat}
    (X : Stand p (zx_gL G) e R s m sargs below meth c U Ls k j) (hM : zT G y1 rm av h n cls post) (hws : ∀ w ∈ zx_c y1 :: zx_gW G, w.before av.toArray U = true) (hini : (Cond.initialized y1.1.cls).before av.toArray U = true) (hP : va_Pc av (zx_P G h n) av.toArray U)
    (hfr : rm.frames + 1 ≤ R.frames) (hlo : 8 + (y1.2.2.1 + 11) + rm.locals ≤ R.locals) (hc1 : k + rm.cells ≤ R.cells) (hc2 : j + rm.slots ≤ R.slots) {g : JFrame} (hg : g.method = m) (hsize : g.locals.size = c.maxLocals) {ig : Instr} {len : Nat} (hdg : decode c.code g.pc = .ok (ig, len)) (hW : 2 * g.monitorRoom + (g.stack.map fun v => v.category).sum ≤ 8) {mk : MethodId} (hn : U.methodNamed? y1.1 = some mk) :
    ∃ (x : Addr) (T' : State) (L : List Loc), Stand p (zx_gL G) e R s m sargs below meth c T' (Ls ++ L) (k + rm.cells) (j + rm.slots) ∧ (∀ q ∈ L, zx_A G q.base) ∧ zx_QT G cls post av.toArray (U.calling g mk av.toArray) (.threw x) ((T'.setTop g).pushFrame (.throwing x)) ∧ Steps p.tables e below (doInvoke e (U.setTop g) [] mk av.toArray).1 ((T'.setTop g).pushFrame (.throwing x)) := by
  obtain ⟨methY, cY, hmY, hcY, -, hlY, -, -, -, -⟩ := Cond.code_spec hn (hws _ List.mem_cons_self)
  obtain ⟨kY, hkY, -⟩ := className_of_methodNamed hn
  have hinitY : kY.init = .initialized := Cond.initialized_spec (findClass_of_methodNamed hn) hkY hini
  have ha : At U g.method c below := by rw [hg]; exact X.here
  have happ : (headSpec (zx_c y1 :: zx_gW G) rm).appliesLoose y1.1 e.platform (U.calling g mk av.toArray) = true :=
    Spec.appliesLoose_calling (g := g) ha hdg hn hkY hinitY (X.room_calling (g := g) (R' := rm) hsize hmY hcY hfr (by rw [hlY]; omega) hc1 hc2) (atoms_intro hws)
  obtain ⟨mid, hmid⟩ := ha.above
  have hfr2 : (U.setTop g).frames = (.java g :: mid) ++ below := by rw [State.frames_setTop' g ha.top, hmid]; rfl
  obtain ⟨o, s₂, hsteps, -, hend, hq, L, hF, hL⟩ := Steps.callFree hM p X.admits X.cas X.clock (acts := []) hfr2 happ (zx_blind _ _ g mk hP) trivial
  rw [State.frames_setTop' g ha.top, X.tail] at hend
  obtain ⟨⟨x, rfl⟩, hW2, hsame⟩ := hF
  obtain ⟨T', X', -, -, ht⟩ := X.outOfThrown hg hend hW2 hsame
  rw [ht] at hsteps hq
  exact ⟨x, T', L, X', hL, hq, hsteps⟩
theorem zx_leaveT {G : zx_G} {R : Room} {cls : String} {post1 post : zx_H → Nat → Prop} {p : Program} {e : Env} {s U : State} {m mk : MethodId} {args as : Array Value} {below : List Frame} {meth : Method} {c : Code} {T' : State} {locs L : List Loc} {k j : Nat} {g : JFrame} {x : Addr} {H : Heap}
    (X' : Stand p (zx_gL G) e R s m args below meth c T' (locs ++ L) k j) (hg : g.method = m) (hlocked : g.locked = none) (hent : g.entered = []) (hout : ∀ z ∈ c.exceptionTable.toList, covers z g.pc = false) (hlk : meth.locks = false) (hL : ∀ q ∈ L, zx_A G q.base) (hS : va_S (zx_A G) s.heap H locs) (hU : U.heap = H)
    (hq : zx_QT G cls post1 as (U.calling g mk as) (.threw x) ((T'.setTop g).pushFrame (.throwing x))) (kk : ∀ h' n', post1 h' n' → post h' n') : ∃ t, Steps p.tables e below ((T'.setTop g).pushFrame (.throwing x)) t ∧ zx_FT G k j cls post below args s t := by
  obtain ⟨hw, hrun, hend, hW, hsame⟩ := X'.leaveThrown x (g := g) hg hlocked hent hout hlk
  obtain ⟨a, cell, h', n', ha, hp, hR, hF, hc, hst, hcl⟩ := hq
  cases ha
  rw [Stand.throwing_heap] at hR hc
  rw [Stand.throwing_vm] at hcl
  obtain ⟨hz, hk⟩ := hF
  rw [Stand.throwing_heap] at hz hk
  have hcal : (U.calling g mk as).heap = H := hU
  rw [hcal] at hz hk
  refine ⟨_, hw, .threw x, hrun, hend, ⟨x, cell, h', n', rfl, kk h' n' hp, hR, ⟨Nat.le_trans hS.1 hz, fun q h1 h2 => ?_⟩, hc, hst, hcl⟩, locs ++ L, ⟨⟨x, rfl⟩, hW, hsame⟩, fun q hq => ?_⟩
  · show T'.heap[q]? = _
    rw [hk q (Nat.lt_of_lt_of_le h1 hS.1) h2]
    exact hS.2.1 q h1 h2
  · rcases List.mem_append.mp hq with h1 | h1
    · exact hS.2.2 q h1
    · exact hL q h1
section ZCALLT
variable {G : zx_G} {y y1 : zx_Y} {R rm : Room} {pc ix np : Nat} {L : zx_L} {st0 av rest : List Value} {h : zx_H} {n k j : Nat} {cls : String} {post1 post : zx_H → Nat → Prop}
theorem zx_callST (f : zx_s G y.1.cls ix y1 np) (fs : Cond.static y1.1 ∈ zx_gW G) (hM : zT G y1 rm av h n cls post1) (d : decode y.2.1 pc = .ok (.invokestatic ix, 3)) (hst : st0 = av.reverse ++ rest) (hnp : av.length = np) (hsum : (rest.map fun v => v.category).sum ≤ 8) (hfr : rm.frames + 1 ≤ R.frames) (hlo : 8 + (y1.2.2.1 + 11) + rm.locals ≤ R.locals) (hc1 : k + rm.cells ≤ R.cells) (hc2 : j + rm.slots ≤ R.slots) (hno : y.2.2.2.2 = [])
    (kk : ∀ h' n', post1 h' n' → post h' n') : zX G y R (zx_FT G (k + rm.cells) (j + rm.slots) cls post) pc L st0 h n k j := by
  subst hst; intro p e s m args below meth c C ls H locs hl hR hS T hT X
  have hx := C.1; have hb := C.2.1; have hml := C.2.2.1; have ho := C.2.2.2.1; have hts := C.2.2.2.2.1; have hZ := C.2.2.2.2.2.2.2.1; have hlk := C.2.2.2.2.2.2.2.2.2.2.1
  have htab := C.2.2.2.2.2.2.2.2.2.2.2.2
  rw [hno] at htab
  have htab0 : c.exceptionTable.toList = [] := List.map_eq_nil_iff.mp htab
  obtain ⟨f1, f2, f3, f4, f5⟩ := f
  have hG : GoodIn (zx_gW G) (zx_c y1 :: zx_gW G) := zx_good f1 f2
  have hpay := pay_in hts hG
  have hcode := hts _ f2
  obtain ⟨mk, hnamed⟩ := Cond.code_named hcode
  obtain ⟨methM, cM, hmethM, -, -, -, -, -, -, hsigM⟩ := Cond.code_spec hnamed hcode
  have hstatic : methM.isStatic = true := Cond.static_spec hnamed hmethM (hts _ fs)
  obtain ⟨kP, hkP, -⟩ := className_of_methodNamed hnamed
  have hinitP : kP.init = .initialized := Cond.initialized_spec (findClass_of_methodNamed hnamed) hkP (hts _ f3)
  have hlen : ∀ sig, parseMethodDescriptor y1.1.desc = some sig → av.length = sig.parameters.length := fun sig q => by
    have h2 := f4.2.2
    rw [q] at h2
    rw [hnp]
    exact (Option.some.inj h2).symm
  have fin : ∀ vm₁ : Vm, Stand p (zx_gL G) e R s m args below meth c (T.setVm vm₁) locs k j → (∀ target, (∀ acts, Steps p.tables e below (doInvoke e ((T.setVm vm₁).setTop { (F0 m pc ls (av.reverse ++ rest)) with stack := rest }) acts mk av.toArray).1 target) → Steps p.tables e below (T.setTop (F0 m pc ls (av.reverse ++ rest))) target) → ∃ t, Steps p.tables e below (T.setTop (F0 m pc ls (av.reverse ++ rest))) t ∧ zx_FT G (k + rm.cells) (j + rm.slots) cls post below args s t := by
    intro vm₁ X₁ hstep
    obtain ⟨x, T', L', X', hL', hq, hsteps⟩ := zx_backT X₁ hM (fun w hw => hpay w hw _ _ X₁.warmed) (hpay _ (List.mem_cons_of_mem _ f3) _ _ X₁.warmed) (zx_pre C hR hS (show (T.setVm vm₁).heap = H from hT) X₁.warmed) hfr hlo hc1 hc2 (g := { (F0 m pc ls (av.reverse ++ rest)) with stack := rest }) rfl (hl.1.trans hml.symm) (by rw [hb]; exact d) (lv_room hsum) (X₁.named hnamed)
    obtain ⟨t, a1, a2⟩ := zx_leaveT X' rfl rfl rfl (fun z hz => by rw [htab0] at hz; cases hz) hlk hL' hS (show (T.setVm vm₁).heap = H from hT) hq kk
    exact ⟨t, hstep t (fun acts => by rw [doInvoke_state]; exact hsteps.trans a1), a2⟩
  rcases f5 with f5 | ⟨host, f5⟩
  · obtain ⟨vm₁, X₁, hstep₁⟩ := X.invokestatic hx ho (hts _ f5) hnamed hmethM hstatic hkP hinitP ⟨f4.1, f4.2.1⟩ (g := F0 m pc ls (av.reverse ++ rest)) rfl (argsL := av) (rest := rest) (hlen _ hsigM) rfl (by rw [hb]; exact d)
    exact fin vm₁ X₁ hstep₁
  · obtain ⟨vm₁, X₁, hstep₁⟩ := X.invokestaticNest hx ho (va_Nw.use rfl (f5 s hZ)) hnamed hmethM hstatic hkP hinitP ⟨f4.1, f4.2.1⟩ (g := F0 m pc ls (av.reverse ++ rest)) rfl (argsL := av) (rest := rest) (hlen _ hsigM) rfl (by rw [hb]; exact d)
    exact fin vm₁ X₁ hstep₁
end ZCALLT
/-- the walk begun anew where it stands: what is written from here on is counted from here -/
theorem zx_rebase {p : Program} {l : Launch} {e : Env} {R : Room} {s : State} {m : MethodId} {args : Array Value} {below : List Frame} {meth : Method} {c : Code} {T : State} {locs : List Loc} {k j : Nat} (X : Stand p l e R s m args below meth c T locs k j) (hk : k ≤ R.cells) (hj : j ≤ R.slots) :
    Stand p l e { frames := R.frames, cells := R.cells - k, slots := R.slots - j, locals := R.locals } (T.setFrames (.invoking m args :: below)) m args below meth c T [] 0 0 := by
  obtain ⟨g₀, hfr⟩ := X.frames_eq
  obtain ⟨th, hth, -⟩ := State.frames_cons hfr
  have hcur : T.cur < T.threads.size := State.cur_lt_of_frames hfr
  have hf0 : (T.setFrames (.invoking m args :: below)).frames = .invoking m args :: below := State.frames_setFrames _ hcur
  have hm0 : (T.setFrames (.invoking m args :: below)).vm.method? m = some meth := X.method'
  refine ⟨X.admits, X.cas, X.clock, hf0, ?_, ?_, hm0, X.code, X.here, X.tail, State.WarmedH.refl _, by rw [State.stackLimits_setFrames], by rw [State.stackBytes_setFrames], ?_⟩
  · have h0 := X.room
    have hloc := State.localsInUse_invoking X.frames X.method X.code
    have hloc0 := State.localsInUse_invoking hf0 hm0 X.code
    have hsz := X.heapSize
    have hus := X.used
    have hbk := X.book
    have hb1 := X.bytes
    have hl1 := X.limits
    simp only [State.hasRoom, Bool.and_eq_true, decide_eq_true_eq] at h0 ⊢
    rw [hloc0, hf0, State.stackLimits_setFrames, State.stackBytes_setFrames, hl1, hb1]
    rw [hloc, X.frames] at h0
    refine ⟨⟨⟨⟨h0.1.1.1.1, h0.1.1.1.2⟩, ?_⟩, ?_⟩, hbk⟩
    · show T.heap.size + (R.cells - k) ≤ _
      have := h0.1.1.2
      omega
    · show T.slotsUsed + (R.slots - j) ≤ _
      have := h0.1.2
      omega
  · have hh := X.hears
    have hal := X.warmed.alike
    have hm' : T.vm.method? m = some meth := X.method'
    cases below with
    | nil => simpa [State.hears, X.method, hm'] using hh
    | cons f r =>
      cases f with
      | java g =>
        have hcd : (T.setFrames (.invoking m args :: .java g :: r)).code? g.method = s.code? g.method := by
          rw [State.code?_eq, State.code?_eq]
          show (T.vm.method? g.method).bind _ = _
          rw [hal.method?]
        simp only [State.hears] at hh ⊢
        rw [hcd]
        exact hh
      | _ => first | rfl | (simpa [State.hears, X.method, hm'] using hh)
  · have h := (State.sameButNew.refl T hth).setFrames T.frames hcur
    refine ⟨?_, Nat.le_refl _, Nat.le_refl _, ?_, ?_, fun a c hc => ⟨c, hc, rfl, rfl, fun _ _ => rfl⟩⟩
    · show T.setVm _ = _
      rw [State.setFrames_setFrames]
      exact (State.setFrames_self hth).symm
    · show T.slotsUsed = T.slotsUsed + ((T.heap.toList.drop T.heap.size).map (fun x => x.slots.size)).sum
      rw [List.drop_eq_nil_of_le (by simp)]
      rfl
    · show ((T.heap.toList.drop T.heap.size).map (fun x => x.slots.size)).sum ≤ 0
      rw [List.drop_eq_nil_of_le (by simp)]
      exact Nat.le_refl _
theorem zx_cellsame {a b : Cell} (h1 : b = { a with slots := b.slots }) (h2 : b.slots.size = a.slots.size) (h3 : ∀ i : Nat, b.slots[i]? = a.slots[i]?) : b = a := by
  have e : b.slots = a.slots := Array.ext_getElem? h3
  rw [h1, e]
/-- throw new X(): new, dup, the constructor, athrow -/
theorem zx_throw0 {G : zx_G} {y : zx_Y} {R : Room} {pc ix ic : Nat} {L : zx_L} {st : List Value} {h : zx_H} {n k j : Nat} {cls : String} {names : List String} {post : zx_H → Nat → Prop}
    (hfl : (zx_gL G).flags = pinnedFlags ++ [noTraceFlag]) (hok : ∀ w ∈ zx_gW G, zx_ok w) (ht : ∀ (U : State) (as : Array Value), zx_gZ G U → ∀ a ∈ Bundle.ownAtoms0 y.1.cls ic cls names, a.before as U = true) (hcls : Bundle.fit cls = true) (hnames : ∀ q ∈ names, Bundle.fit q = true)
    (h1 : Cond.classLink y.1.cls ix cls ∈ zx_gW G) (h2 : Cond.instantiable cls 6 ∈ zx_gW G) (h3 : Cond.initialized cls ∈ zx_gW G) (d0 : decode y.2.1 pc = .ok (.new ix, 3)) (d3 : decode y.2.1 (pc + 3) = .ok (.dup, 1)) (d4 : decode y.2.1 (pc + 4) = .ok (.invokespecial ic, 3)) (d7 : decode y.2.1 (pc + 7) = .ok (.athrow, 1)) (hno : y.2.2.2.2 = [])
    (hRf : names.length + 3 < R.frames) (hRl : 1 + (st.map fun v => v.category).sum + (13 * (names.length + 1) + 41) ≤ R.locals) (hc1 : k + 1 ≤ R.cells) (hc2 : j + 6 ≤ R.slots) (hp : post h (n + 1)) : zX G y R (zx_FT G (k + 1) (j + 6) cls post) pc L st h n k j := by
  intro p e s m args below meth c C ls H locs hl hR hS T hT X
  have hx := C.1; have hb := C.2.1; have hml := C.2.2.1; have ho := C.2.2.2.1; have hts := C.2.2.2.2.1; have hB := C.2.2.2.2.2.2.1; have hZ := C.2.2.2.2.2.2.2.1; have hZk := C.2.2.2.2.2.2.2.2.1; have hlk := C.2.2.2.2.2.2.2.2.2.2.1
  have htab := C.2.2.2.2.2.2.2.2.2.2.2.2
  rw [hno] at htab
  have htab0 : c.exceptionTable.toList = [] := List.map_eq_nil_iff.mp htab
  have htr : e.platform.stackTraces = false := Launch.traces_off hfl X.admits
  have X0 := zx_rebase X (by omega) (by omega)
  have hs0 : (T.setFrames (.invoking m args :: below)).heap = H := hT
  have hv0 : (T.setFrames (.invoking m args :: below)).vm = T.vm := rfl
  have hW0 : s.WarmedH (T.setFrames (.invoking m args :: below)).vm := X.warmed
  generalize hs0e : T.setFrames (.invoking m args :: below) = s0 at X0 hs0 hv0 hW0
  have hZ0 : zx_gZ G s0 := hZk s s0 hW0 hB (fun q hq => by rw [hs0]; exact hS.2.1 q (Nat.lt_of_lt_of_le hq hB) (Nat.not_le.mpr hq)) hZ
  have hw0 : ∀ w ∈ zx_gW G, w.before args s0 = true := fun w hw => word_at hW0 (hok w hw) (hts w hw)
  have ho0 : s0.vm.findClass y.1.cls = some m.cls := by rw [hW0.alike.findClass]; exact ho
  have hTn : T.heap.size = n := by rw [hT]; exact hR.1
  obtain ⟨vm', cC, kC, f1, f2, f3, f4, X1, st1⟩ := X0.newCold hx ho0 (hw0 _ h1) (hw0 _ h2) (hw0 _ h3) (g := F0 m pc ls st) rfl (by rw [hb]; exact d0) (show 0 + 1 ≤ R.cells - k by omega) (show 0 + 6 ≤ R.slots - j by omega)
  rw [hTn] at st1
  have key : W p (zx_gL G) e { frames := R.frames, cells := R.cells - k, slots := R.slots - j, locals := R.locals } s0 m args below meth c ((T.setVm vm').pushCell { cls := cC, slots := kC.instanceTypes.map defaultValue, vm := .none }).heap [] (0 + 1) (0 + 6) (fun U => U.status = .running ∧ Ended U below (.threw n) ∧ s0.WarmedH U.vm ∧ s0.sameButNew ({ U with vm := s0.vm } : State) [] (0 + 1) (0 + 6) ∧ ∃ ce, U.heap[n]? = some ce ∧ Bundle.OwnCell args s0 cls n .null ce) (F0 m (pc + 3) ls (.ref n :: st)) := by
    refine lv_dup hx hb d3 rfl ?_
    intro T2 hT2 X2
    obtain ⟨U, a1, a2, a3, a4, a5, a6⟩ := X2.ctorThrow0 hx htr (own := y.1.cls) (cls := cls) (names := names) (ic := ic) ho0 hcls hnames (ht s0 args hZ0) (fun x hx => by cases hx) (a := n) f1 f2 (by rw [hT2]; show (T.heap.push _)[n]? = _; rw [← hTn]; simp) (by rw [hs0, ← hT, hTn]; exact Nat.le_refl _) (g := F0 m (pc + 3 + 1) ls (.ref n :: .ref n :: st)) rfl (hl.1.trans hml.symm) rfl rfl (rest := st) rfl (by rw [hb]; exact d4) (by rw [hb]; exact d7) (fun z hz => by rw [htab0] at hz; cases hz) hRf (by
        show 2 * 0 + ((Value.ref n :: st).map fun v => v.category).sum + _ ≤ R.locals
        have h1 : (Value.ref n).category = 1 := rfl
        simp only [List.map_cons, List.sum_cons, h1]
        omega) hlk
    exact ⟨U, a1, a2, a3, a4, a5, a6⟩
  obtain ⟨U, a1, a2, a3, a4, a5, ce, a6, a7⟩ := key _ rfl X1
  obtain ⟨b1, b2, b3, b4, b5, b6⟩ := id a5
  have hold : ∀ q : Nat, q < n → U.heap[q]? = H[q]? := by
    intro q hq
    have hlt : q < s0.heap.size := by rw [hs0, hR.1]; exact hq
    obtain ⟨c', e1, e2, e3, e4⟩ := b6 q _ (Array.getElem?_eq_getElem hlt)
    have e5 : U.heap[q]? = some c' := e1
    rw [e5, zx_cellsame e2 e3 (fun i => e4 i (by simp)), ← Array.getElem?_eq_getElem hlt, hs0]
  have hsz : U.heap.size = n + 1 := by
    have hlt : n < U.heap.size := (Array.getElem?_eq_some_iff.mp a6).1
    have h2' : U.heap.size ≤ s0.heap.size + (0 + 1) := b3
    rw [hs0, hR.1] at h2'
    omega
  refine ⟨U, st1 U a1, .threw n, a2, a3, ⟨n, ce, h, n + 1, rfl, hp, ⟨hsz, fun a e' he => ?_, fun q cell hq hc => ?_⟩, ⟨?_, fun q q1 q2 => ?_⟩, a6, by rw [a7.vm]; rfl, by rw [a4.alike.findClass]; exact a7.cls⟩, locs, ⟨⟨n, rfl⟩, ?_, ?_⟩, hS.2.2⟩
  · obtain ⟨g1, g2⟩ := hR.2.1 a e' he
    have hlt : a < n := by have := g2.lt; rw [hR.1] at this; exact this
    exact ⟨g1, g2.kept (hold a hlt)⟩
  · by_cases hqn : q = n
    · subst hqn
      have e9 := hc.symm.trans a6
      cases e9
      rw [a7.vm]
      rfl
    · have hlt : q < n := by have := (Array.getElem?_eq_some_iff.mp hc).1; omega
      rw [hold q hlt] at hc
      exact hR.2.2 q cell hq hc
  · rw [hsz]
    have := hS.1
    rw [hR.1] at this
    omega
  · have := hS.1
    rw [hR.1] at this
    rw [hold q (by omega)]
    exact hS.2.1 q q1 q2
  · subst hs0e
    have a4' : T.WarmedH U.vm := a4
    exact State.WarmedH.trans X.warmed a4'
  · subst hs0e
    have h5 : T.sameButNew (U.setVm T.vm) [] (0 + 1) (0 + 6) := by
      refine ⟨?_, b2, b3, b4, b5, b6⟩
      have b1' := b1
      rw [State.setFrames_setFrames] at b1'
      exact b1'
    have h6 := X.same.trans (h5.setVm s.vm)
    rw [List.append_nil] at h6
    exact h6
end
section
/-! The memory: the heap as three tables (ints, longs, references), by a fixed layout of relative addresses. -/
abbrev zm_M : Type := (Nat → Nat → Int32) × (Nat → Nat → Int64) × (Nat → Nat → Nat)
/-- a cell's layout: an array (type number, length, first, stride: of references: a stride of 0 is the table's), or an object (class number; of each field: none an int, some none a long, some (some d) a fixed reference) -/
abbrev zm_E : Type := (Nat × Nat × Nat × Nat) ⊕ (Nat × List (Option (Option Nat)))
def zm_I (M : zm_M) (r k : Nat) : Int32 := M.1 r k
def zm_J (M : zm_M) (r k : Nat) : Int64 := M.2.1 r k
def zm_P (M : zm_M) (r k : Nat) : Nat := M.2.2 r k
def zm_u {α : Type} (f : Nat → Nat → α) (r k : Nat) (v : α) : Nat → Nat → α := fun r' k' => if r' = r ∧ k' = k then v else f r' k'
def zm_wI (M : zm_M) (r k : Nat) (v : Int32) : zm_M := (zm_u M.1 r k v, M.2.1, M.2.2)
def zm_wJ (M : zm_M) (r k : Nat) (v : Int64) : zm_M := (M.1, zm_u M.2.1 r k v, M.2.2)
def zm_wP (M : zm_M) (r k : Nat) (v : Nat) : zm_M := (M.1, M.2.1, zm_u M.2.2 r k v)
def zm_fs (b : Nat) (M : zm_M) (r : Nat) : Nat → List (Option (Option Nat)) → List Value
  | _, [] => []
  | k, none :: t => .int (zm_I M r k) :: zm_fs b M r (k + 1) t
  | k, some none :: t => .long (zm_J M r k) :: zm_fs b M r (k + 1) t
  | k, some (some d) :: t => .ref (b + d) :: zm_fs b M r (k + 1) t
def zm_ar (b : Nat) (M : zm_M) (r s d : Nat) : Nat → Option Nat := fun i => some (b + (if d = 0 then zm_P M r i else s + d * i))
def zm_cell (b : Nat) (ar : Nat → ClassId) (M : zm_M) (r : Nat) : zm_E → va_E
  | .inl (1, n, _, _) => .inl (ar 1, n, .inr (.inl (zm_J M r)))
  | .inl (0, n, _, _) => .inl (ar 0, n, .inl (zm_I M r))
  | .inl (2, n, _, _) => .inl (ar 2, n, .inl (zm_I M r))
  | .inl (3, n, _, _) => .inl (ar 3, n, .inl (zm_I M r))
  | .inl (t, n, s, d) => .inl (ar t, n, .inr (.inr (.inr (.inr (zm_ar b M r s d)))))
  | .inr (ci, fk) => .inr (ci, zm_fs b M r 0 fk)
def zm_h (b : Nat) (ar : Nat → ClassId) (lay : Nat → Option zm_E) (M : zm_M) : zx_H := fun a => if a < b then none else (lay (a - b)).map (zm_cell b ar M (a - b))
section ZMM
variable {b : Nat} {ar : Nat → ClassId} {lay : Nat → Option zm_E} {M : zm_M} {r : Nat}
theorem zm_at {e : zm_E} (h : lay r = some e) : zm_h b ar lay M (b + r) = some (zm_cell b ar M r e) := by
  unfold zm_h
  rw [if_neg (by omega), Nat.add_sub_cancel_left, h]
  rfl
theorem zm_I_w {r' k k' : Nat} {v : Int32} : zm_I (zm_wI M r k v) r' k' = if r' = r ∧ k' = k then v else zm_I M r' k' := rfl
theorem zm_J_w {r' k k' : Nat} {v : Int64} : zm_J (zm_wJ M r k v) r' k' = if r' = r ∧ k' = k then v else zm_J M r' k' := rfl
theorem zm_P_w {r' k k' : Nat} {v : Nat} : zm_P (zm_wP M r k v) r' k' = if r' = r ∧ k' = k then v else zm_P M r' k' := rfl
theorem zm_fs_I {r' k : Nat} {v : Int32} (hne : r' ≠ r) : ∀ (fk : List (Option (Option Nat))) (q : Nat), zm_fs b (zm_wI M r k v) r' q fk = zm_fs b M r' q fk
  | [], _ => rfl
  | none :: t, q => by
    simp only [zm_fs, zm_fs_I hne t (q + 1), zm_I_w]
    rw [if_neg (fun z => hne z.1)]
  | some none :: t, q => by
    simp only [zm_fs, zm_fs_I hne t (q + 1)]
    rfl
  | some (some d) :: t, q => by simp only [zm_fs, zm_fs_I hne t (q + 1)]
theorem zm_fs_J {r' k : Nat} {v : Int64} (hne : r' ≠ r) : ∀ (fk : List (Option (Option Nat))) (q : Nat), zm_fs b (zm_wJ M r k v) r' q fk = zm_fs b M r' q fk
  | [], _ => rfl
  | none :: t, q => by
    simp only [zm_fs, zm_fs_J hne t (q + 1)]
    rfl
  | some none :: t, q => by
    simp only [zm_fs, zm_fs_J hne t (q + 1), zm_J_w]
    rw [if_neg (fun z => hne z.1)]
  | some (some d) :: t, q => by simp only [zm_fs, zm_fs_J hne t (q + 1)]
theorem zm_fs_P {k : Nat} {v r' : Nat} : ∀ (fk : List (Option (Option Nat))) (q : Nat), zm_fs b (zm_wP M r k v) r' q fk = zm_fs b M r' q fk
  | [], _ => rfl
  | none :: t, q => by simp only [zm_fs, zm_fs_P t (q + 1)]; rfl
  | some none :: t, q => by simp only [zm_fs, zm_fs_P t (q + 1)]; rfl
  | some (some d) :: t, q => by simp only [zm_fs, zm_fs_P t (q + 1)]
theorem zm_fs_setI {k : Nat} {v : Int32} : ∀ (fk : List (Option (Option Nat))) (q i : Nat), q + i = k → fk[i]? = some none → zm_fs b (zm_wI M r k v) r q fk = (zm_fs b M r q fk).set i (.int v)
  | [], _, _, _, h => by simp at h
  | none :: t, q, 0, hk, _ => by
    simp only [Nat.add_zero] at hk
    subst hk
    have ht : ∀ (t : List (Option (Option Nat))) (p : Nat), q < p → zm_fs b (zm_wI M r q v) r p t = zm_fs b M r p t := by
      intro t
      induction t with
      | nil => intro p _; rfl
      | cons x t ih =>
        intro p hp
        cases x with
        | none =>
          simp only [zm_fs, ih (p + 1) (by omega), zm_I_w]
          rw [if_neg (fun z => by omega)]
        | some x => cases x with
          | none => simp only [zm_fs, ih (p + 1) (by omega)]; rfl
          | some d => simp only [zm_fs, ih (p + 1) (by omega)]
    simp only [zm_fs, ht t (q + 1) (by omega), zm_I_w, List.set_cons_zero]
    simp
  | some x :: t, _, 0, _, h => by simp at h
  | none :: t, q, i + 1, hk, h => by
    have h' : t[i]? = some none := by simpa using h
    have ih := zm_fs_setI (k := k) (v := v) t (q + 1) i (by omega) h'
    simp only [zm_fs, List.set_cons_succ, ih, zm_I_w]
    rw [if_neg (fun z => by omega)]
  | some none :: t, q, i + 1, hk, h => by
    have h' : t[i]? = some none := by simpa using h
    have ih := zm_fs_setI (k := k) (v := v) t (q + 1) i (by omega) h'
    simp only [zm_fs, List.set_cons_succ, ih]
    rfl
  | some (some d) :: t, q, i + 1, hk, h => by
    have h' : t[i]? = some none := by simpa using h
    have ih := zm_fs_setI (k := k) (v := v) t (q + 1) i (by omega) h'
    simp only [zm_fs, List.set_cons_succ, ih]
theorem zm_fs_setJ {k : Nat} {v : Int64} : ∀ (fk : List (Option (Option Nat))) (q i : Nat), q + i = k → fk[i]? = some (some none) → zm_fs b (zm_wJ M r k v) r q fk = (zm_fs b M r q fk).set i (.long v)
  | [], _, _, _, h => by simp at h
  | some none :: t, q, 0, hk, _ => by
    simp only [Nat.add_zero] at hk
    subst hk
    have ht : ∀ (t : List (Option (Option Nat))) (p : Nat), q < p → zm_fs b (zm_wJ M r q v) r p t = zm_fs b M r p t := by
      intro t
      induction t with
      | nil => intro p _; rfl
      | cons x t ih =>
        intro p hp
        cases x with
        | none => simp only [zm_fs, ih (p + 1) (by omega)]; rfl
        | some x => cases x with
          | none =>
            simp only [zm_fs, ih (p + 1) (by omega), zm_J_w]
            rw [if_neg (fun z => by omega)]
          | some d => simp only [zm_fs, ih (p + 1) (by omega)]
    simp only [zm_fs, ht t (q + 1) (by omega), zm_J_w, List.set_cons_zero]
    simp
  | none :: t, _, 0, _, h => by simp at h
  | some (some d) :: t, _, 0, _, h => by simp at h
  | none :: t, q, i + 1, hk, h => by
    have h' : t[i]? = some (some none) := by simpa using h
    have ih := zm_fs_setJ (k := k) (v := v) t (q + 1) i (by omega) h'
    simp only [zm_fs, List.set_cons_succ, ih]
    rfl
  | some none :: t, q, i + 1, hk, h => by
    have h' : t[i]? = some (some none) := by simpa using h
    have ih := zm_fs_setJ (k := k) (v := v) t (q + 1) i (by omega) h'
    simp only [zm_fs, List.set_cons_succ, ih, zm_J_w]
    rw [if_neg (fun z => by omega)]
  | some (some d) :: t, q, i + 1, hk, h => by
    have h' : t[i]? = some (some none) := by simpa using h
    have ih := zm_fs_setJ (k := k) (v := v) t (q + 1) i (by omega) h'
    simp only [zm_fs, List.set_cons_succ, ih]
theorem zm_I_ne {r' k : Nat} {v : Int32} (hne : r' ≠ r) : zm_I (zm_wI M r k v) r' = zm_I M r' := by
  funext q; rw [zm_I_w, if_neg (fun z => hne z.1)]
theorem zm_J_ne {r' k : Nat} {v : Int64} (hne : r' ≠ r) : zm_J (zm_wJ M r k v) r' = zm_J M r' := by
  funext q; rw [zm_J_w, if_neg (fun z => hne z.1)]
theorem zm_ar_ne {r' k s d : Nat} {v : Nat} (hne : r' ≠ r) : zm_ar b (zm_wP M r k v) r' s d = zm_ar b M r' s d := by
  funext q; unfold zm_ar; simp only [zm_P_w]; rw [if_neg (show ¬ (r' = r ∧ q = k) from fun z => hne z.1)]
theorem zm_cell_I {r' k : Nat} {v : Int32} (hne : r' ≠ r) (e : zm_E) : zm_cell b ar (zm_wI M r k v) r' e = zm_cell b ar M r' e := by
  unfold zm_cell
  split <;> first | rfl | (simp only [zm_I_ne hne]) | (simp only [zm_fs_I hne])
theorem zm_cell_J {r' k : Nat} {v : Int64} (hne : r' ≠ r) (e : zm_E) : zm_cell b ar (zm_wJ M r k v) r' e = zm_cell b ar M r' e := by
  unfold zm_cell
  split <;> first | rfl | (simp only [zm_J_ne hne]) | (simp only [zm_fs_J hne])
theorem zm_cell_P {r' k : Nat} {v : Nat} (hne : r' ≠ r) (e : zm_E) : zm_cell b ar (zm_wP M r k v) r' e = zm_cell b ar M r' e := by
  unfold zm_cell
  split <;> first | rfl | (simp only [zm_ar_ne hne]) | (simp only [zm_fs_P])
/-- one cell changes, and the new memory says how -/
theorem zm_up {M' : zm_M} {e : zm_E} {x : va_E} (h : lay r = some e) (h1 : zm_cell b ar M' r e = x) (h2 : ∀ r', r' ≠ r → ∀ e, zm_cell b ar M' r' e = zm_cell b ar M r' e) : va_up (zm_h b ar lay M) (b + r) (some x) = zm_h b ar lay M' := by
  funext a
  unfold va_up zm_h
  by_cases hab : a < b
  · rw [if_pos hab, if_pos hab, if_neg (by omega)]
  · rw [if_neg hab, if_neg hab]
    by_cases ha : a = b + r
    · subst ha
      rw [if_pos rfl, Nat.add_sub_cancel_left, h]
      simp only [Option.map_some, h1]
    · rw [if_neg ha]
      have hr : a - b ≠ r := fun z => ha (by omega)
      cases lay (a - b) with
      | none => rfl
      | some e' => simp only [Option.map_some, h2 _ hr]
theorem zm_up_f {ci k : Nat} {fk : List (Option (Option Nat))} {v : Int32} (h : lay r = some (.inr (ci, fk))) (hk : fk[k]? = some none) : va_up (zm_h b ar lay M) (b + r) (some (.inr (ci, (zm_fs b M r 0 fk).set k (.int v)))) = zm_h b ar lay (zm_wI M r k v) :=
  zm_up h (congrArg (fun z => Sum.inr (ci, z)) (zm_fs_setI (k := k) (v := v) fk 0 k (by omega) hk)) (fun _ hr e => zm_cell_I hr e)
theorem zm_up_g {ci k : Nat} {fk : List (Option (Option Nat))} {v : Int64} (h : lay r = some (.inr (ci, fk))) (hk : fk[k]? = some (some none)) : va_up (zm_h b ar lay M) (b + r) (some (.inr (ci, (zm_fs b M r 0 fk).set k (.long v)))) = zm_h b ar lay (zm_wJ M r k v) :=
  zm_up h (congrArg (fun z => Sum.inr (ci, z)) (zm_fs_setJ (k := k) (v := v) fk 0 k (by omega) hk)) (fun _ hr e => zm_cell_J hr e)
theorem zm_I_upd {k : Nat} {v : Int32} : zm_I (zm_wI M r k v) r = upd (zm_I M r) k v := by
  funext q; rw [zm_I_w]; unfold upd
  by_cases hq : q = k <;> simp [hq]
theorem zm_J_upd {k : Nat} {v : Int64} : zm_J (zm_wJ M r k v) r = vp_updL (zm_J M r) k v := by
  funext q; rw [zm_J_w]; unfold vp_updL
  by_cases hq : q = k <;> simp [hq]
theorem zm_P_upd {k s : Nat} {v : Nat} : zm_ar b (zm_wP M r k v) r s 0 = va_up (zm_ar b M r s 0) k (some (b + v)) := by
  funext q; unfold zm_ar va_up; rw [zm_P_w]
  by_cases hq : q = k <;> simp [hq]
theorem zm_up_0 {N s d k : Nat} {v : Int32} (h : lay r = some (.inl (0, N, s, d))) : va_up (zm_h b ar lay M) (b + r) (some (.inl (ar 0, N, .inl (upd (zm_I M r) k v)))) = zm_h b ar lay (zm_wI M r k v) :=
  zm_up h (by simp only [zm_cell, zm_I_upd]) (fun _ hr e => zm_cell_I hr e)
theorem zm_up_2 {N s d k : Nat} {v : Int32} (h : lay r = some (.inl (2, N, s, d))) : va_up (zm_h b ar lay M) (b + r) (some (.inl (ar 2, N, .inl (upd (zm_I M r) k v)))) = zm_h b ar lay (zm_wI M r k v) :=
  zm_up h (by simp only [zm_cell, zm_I_upd]) (fun _ hr e => zm_cell_I hr e)
theorem zm_up_3 {N s d k : Nat} {v : Int32} (h : lay r = some (.inl (3, N, s, d))) : va_up (zm_h b ar lay M) (b + r) (some (.inl (ar 3, N, .inl (upd (zm_I M r) k v)))) = zm_h b ar lay (zm_wI M r k v) :=
  zm_up h (by simp only [zm_cell, zm_I_upd]) (fun _ hr e => zm_cell_I hr e)
theorem zm_up_1 {N s d k : Nat} {v : Int64} (h : lay r = some (.inl (1, N, s, d))) : va_up (zm_h b ar lay M) (b + r) (some (.inl (ar 1, N, .inr (.inl (vp_updL (zm_J M r) k v))))) = zm_h b ar lay (zm_wJ M r k v) :=
  zm_up h (by simp only [zm_cell, zm_J_upd]) (fun _ hr e => zm_cell_J hr e)
theorem zm_cell_r {t n s d : Nat} (ht : 4 ≤ t) : zm_cell b ar M r (.inl (t, n, s, d)) = .inl (ar t, n, .inr (.inr (.inr (.inr (zm_ar b M r s d))))) := by
  match t, ht with
  | t + 4, _ => rfl
theorem zm_up_r {t N s k : Nat} {v : Nat} (ht : 4 ≤ t) (h : lay r = some (.inl (t, N, s, 0))) : va_up (zm_h b ar lay M) (b + r) (some (.inl (ar t, N, .inr (.inr (.inr (.inr (va_up (zm_ar b M r s 0) k (some (b + v))))))))) = zm_h b ar lay (zm_wP M r k v) :=
  zm_up h (by rw [zm_cell_r ht, zm_P_upd]) (fun _ hr e => zm_cell_P hr e)
end ZMM
theorem zx_for {X : Nat → Prop} (N : Nat) (hend : X N) (hstep : ∀ i, i < N → X (i + 1) → X i) : ∀ i, i ≤ N → X i := by
  intro i hi
  obtain ⟨d, hd⟩ : ∃ d, i + d = N := ⟨N - i, by omega⟩
  induction d generalizing i with
  | zero => have : i = N := by omega
            rw [this]; exact hend
  | succ d ih => exact hstep i (by omega) (ih (i + 1) (by omega) (by omega))
def zm_it (f : Nat → zm_M → zm_M) : Nat → zm_M → zm_M
  | 0, M => M
  | k + 1, M => f k (zm_it f k M)
theorem zm_fs_len {b : Nat} {M : zm_M} {r : Nat} : ∀ (fk : List (Option (Option Nat))) (q : Nat), (zm_fs b M r q fk).length = fk.length
  | [], _ => rfl
  | none :: t, q => by simp only [zm_fs, List.length_cons, zm_fs_len t (q + 1)]
  | some none :: t, q => by simp only [zm_fs, List.length_cons, zm_fs_len t (q + 1)]
  | some (some d) :: t, q => by simp only [zm_fs, List.length_cons, zm_fs_len t (q + 1)]
section ZMR
variable {G : zx_G} {y : zx_Y} {R : Room} {F : List Frame → Array Value → State → State → Prop} {pc pc2 : Nat} {L : zx_L} {st : List Value} {b : Nat} {ar : Nat → ClassId} {lay : Nat → Option zm_E} {M : zm_M} {n k j : Nat} {r N s0 d0 : Nat}
theorem zm_get {ix ci i0 : Nat} {ty : FieldType} {fin : Bool} {fk : List (Option (Option Nat))} {v : Value} (f : zx_f G y.1.cls ix ci i0 ty fin) (d : decode y.2.1 pc = .ok (.getfield ix, 3)) (e0 : pc + 3 = pc2) (hl : lay r = some (.inr (ci, fk))) (hv : (zm_fs b M r 0 fk)[i0]? = some v) (kk : zX G y R F pc2 L (v :: st) (zm_h b ar lay M) n k j) : zX G y R F pc L (.ref (b + r) :: st) (zm_h b ar lay M) n k j :=
  zx_getf f d e0 (zm_at hl) hv kk
theorem zm_putI {ix ci i0 : Nat} {ty : FieldType} {fk : List (Option (Option Nat))} {v : Int32} (f : zx_f G y.1.cls ix ci i0 ty false) (d : decode y.2.1 pc = .ok (.putfield ix, 3)) (e0 : pc + 3 = pc2) (hl : lay r = some (.inr (ci, fk))) (hk : fk[i0]? = some none) (hn : narrow ty (.int v) = .int v) (hf : fits ty (.int v) = true) (kk : zX G y R F pc2 L st (zm_h b ar lay (zm_wI M r i0 v)) n k j) : zX G y R F pc L (.int v :: .ref (b + r) :: st) (zm_h b ar lay M) n k j :=
  zx_putf f d e0 (zm_at hl) hn hf (by show i0 < (zm_fs _ _ _ _ _).length; rw [zm_fs_len]; exact (List.getElem?_eq_some_iff.mp hk).1) (zm_up_f hl hk) kk
theorem zm_putJ {ix ci i0 : Nat} {fk : List (Option (Option Nat))} {v : Int64} (f : zx_f G y.1.cls ix ci i0 .long false) (d : decode y.2.1 pc = .ok (.putfield ix, 3)) (e0 : pc + 3 = pc2) (hl : lay r = some (.inr (ci, fk))) (hk : fk[i0]? = some (some none)) (kk : zX G y R F pc2 L st (zm_h b ar lay (zm_wJ M r i0 v)) n k j) : zX G y R F pc L (.long v :: .ref (b + r) :: st) (zm_h b ar lay M) n k j :=
  zx_putf f d e0 (zm_at hl) rfl rfl (by show i0 < (zm_fs _ _ _ _ _).length; rw [zm_fs_len]; exact (List.getElem?_eq_some_iff.mp hk).1) (zm_up_g hl hk) kk
theorem zm_iald {i : Int32} (d : decode y.2.1 pc = .ok (.iaload, 1)) (e0 : pc + 1 = pc2) (hl : lay r = some (.inl (0, N, s0, d0))) (ht : (zx_gT G)[0]? = some (ar 0, .int)) (hin : vp_in i N) (kk : zX G y R F pc2 L (.int (zm_I M r i.toNatClampNeg) :: st) (zm_h b ar lay M) n k j) : zX G y R F pc L (.int i :: .ref (b + r) :: st) (zm_h b ar lay M) n k j :=
  zx_iald d e0 (zm_at hl) ht hin kk
theorem zm_bald {i : Int32} (d : decode y.2.1 pc = .ok (.baload, 1)) (e0 : pc + 1 = pc2) (hl : lay r = some (.inl (2, N, s0, d0))) (ht : (zx_gT G)[2]? = some (ar 2, .byte)) (hin : vp_in i N) (kk : zX G y R F pc2 L (.int (zm_I M r i.toNatClampNeg) :: st) (zm_h b ar lay M) n k j) : zX G y R F pc L (.int i :: .ref (b + r) :: st) (zm_h b ar lay M) n k j :=
  zx_bald d e0 (zm_at hl) ht hin kk
theorem zm_zald {i : Int32} (d : decode y.2.1 pc = .ok (.baload, 1)) (e0 : pc + 1 = pc2) (hl : lay r = some (.inl (3, N, s0, d0))) (ht : (zx_gT G)[3]? = some (ar 3, .boolean)) (hin : vp_in i N) (kk : zX G y R F pc2 L (.int (zm_I M r i.toNatClampNeg) :: st) (zm_h b ar lay M) n k j) : zX G y R F pc L (.int i :: .ref (b + r) :: st) (zm_h b ar lay M) n k j :=
  zx_zald d e0 (zm_at hl) ht hin kk
theorem zm_lald {i : Int32} (d : decode y.2.1 pc = .ok (.laload, 1)) (e0 : pc + 1 = pc2) (hl : lay r = some (.inl (1, N, s0, d0))) (ht : (zx_gT G)[1]? = some (ar 1, .long)) (hin : vp_in i N) (kk : zX G y R F pc2 L (.long (zm_J M r i.toNatClampNeg) :: st) (zm_h b ar lay M) n k j) : zX G y R F pc L (.int i :: .ref (b + r) :: st) (zm_h b ar lay M) n k j :=
  zx_lald d e0 (zm_at hl) ht hin kk
theorem zm_aald {t x : Nat} {C0 : String} {i : Int32} (d : decode y.2.1 pc = .ok (.aaload, 1)) (e0 : pc + 1 = pc2) (h4 : 4 ≤ t) (hl : lay r = some (.inl (t, N, s0, d0))) (ht : (zx_gT G)[t]? = some (ar t, .object C0)) (hin : vp_in i N) (hx : (if d0 = 0 then zm_P M r i.toNatClampNeg else s0 + d0 * i.toNatClampNeg) = x) (kk : zX G y R F pc2 L (.ref (b + x) :: st) (zm_h b ar lay M) n k j) : zX G y R F pc L (.int i :: .ref (b + r) :: st) (zm_h b ar lay M) n k j :=
  zx_aald d e0 ((zm_at hl).trans (congrArg some (zm_cell_r h4))) ht hin (by unfold zm_ar; rw [hx]) kk
theorem zm_iast {i x : Int32} (d : decode y.2.1 pc = .ok (.iastore, 1)) (e0 : pc + 1 = pc2) (hl : lay r = some (.inl (0, N, s0, d0))) (ht : (zx_gT G)[0]? = some (ar 0, .int)) (hin : vp_in i N) (kk : zX G y R F pc2 L st (zm_h b ar lay (zm_wI M r i.toNatClampNeg x)) n k j) : zX G y R F pc L (.int x :: .int i :: .ref (b + r) :: st) (zm_h b ar lay M) n k j :=
  zx_iast d e0 (zm_at hl) ht hin (zm_up_0 hl) kk
theorem zm_bast {i x : Int32} (d : decode y.2.1 pc = .ok (.bastore, 1)) (e0 : pc + 1 = pc2) (hl : lay r = some (.inl (2, N, s0, d0))) (ht : (zx_gT G)[2]? = some (ar 2, .byte)) (hin : vp_in i N) (kk : zX G y R F pc2 L st (zm_h b ar lay (zm_wI M r i.toNatClampNeg (vp_nar .byte x))) n k j) : zX G y R F pc L (.int x :: .int i :: .ref (b + r) :: st) (zm_h b ar lay M) n k j :=
  zx_bast d e0 (zm_at hl) ht hin (zm_up_2 hl) kk
theorem zm_zast {i x : Int32} (d : decode y.2.1 pc = .ok (.bastore, 1)) (e0 : pc + 1 = pc2) (hl : lay r = some (.inl (3, N, s0, d0))) (ht : (zx_gT G)[3]? = some (ar 3, .boolean)) (hin : vp_in i N) (kk : zX G y R F pc2 L st (zm_h b ar lay (zm_wI M r i.toNatClampNeg (vp_nar .boolean x))) n k j) : zX G y R F pc L (.int x :: .int i :: .ref (b + r) :: st) (zm_h b ar lay M) n k j :=
  zx_zast d e0 (zm_at hl) ht hin (zm_up_3 hl) kk
theorem zm_last {i : Int32} {x : Int64} (d : decode y.2.1 pc = .ok (.lastore, 1)) (e0 : pc + 1 = pc2) (hl : lay r = some (.inl (1, N, s0, d0))) (ht : (zx_gT G)[1]? = some (ar 1, .long)) (hin : vp_in i N) (kk : zX G y R F pc2 L st (zm_h b ar lay (zm_wJ M r i.toNatClampNeg x)) n k j) : zX G y R F pc L (.long x :: .int i :: .ref (b + r) :: st) (zm_h b ar lay M) n k j :=
  zx_last d e0 (zm_at hl) ht hin (zm_up_1 hl) kk
theorem zm_aast {t rv ci : Nat} {r0 : vw_C} {fk : List (Option (Option Nat))} {i : Int32} (d : decode y.2.1 pc = .ok (.aastore, 1)) (e0 : pc + 1 = pc2) (h4 : 4 ≤ t) (hl : lay r = some (.inl (t, N, s0, 0))) (ht : (zx_gT G)[t]? = some (ar t, .object r0.1)) (hv : lay rv = some (.inr (ci, fk))) (hc : (zx_gC G)[ci]? = some r0) (hin : vp_in i N) (kk : zX G y R F pc2 L st (zm_h b ar lay (zm_wP M r i.toNatClampNeg rv)) n k j) : zX G y R F pc L (.ref (b + rv) :: .int i :: .ref (b + r) :: st) (zm_h b ar lay M) n k j :=
  zx_aast d e0 ((zm_at hl).trans (congrArg some (zm_cell_r h4))) ht (zm_at hv) hc hin (zm_up_r h4 hl) kk
end ZMR
end
