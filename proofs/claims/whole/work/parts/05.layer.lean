/-! The layer: the heap as a function of addresses (zx_H), locals as a list (zx_L); a judgement zX that holds for every walk of a method; a rule an instruction. -/
abbrev zx_H : Type := Nat → Option va_E
abbrev zx_L : Type := List (Option Value)
/-- launch, class numbers and slots, classes, array classes, base, what the tables and the low heap say, words -/
abbrev zx_G : Type := Launch × va_G × List vw_C × List (ClassId × FieldType) × Nat × (State → Prop) × List Cond
abbrev zx_gL (G : zx_G) : Launch := G.1
abbrev zx_gD (G : zx_G) : va_G := G.2.1
abbrev zx_gC (G : zx_G) : List vw_C := G.2.2.1
abbrev zx_gT (G : zx_G) : List (ClassId × FieldType) := G.2.2.2.1
abbrev zx_gB (G : zx_G) : Nat := G.2.2.2.2.1
abbrev zx_gZ (G : zx_G) : State → Prop := G.2.2.2.2.2.1
abbrev zx_gW (G : zx_G) : List Cond := G.2.2.2.2.2.2
/-- a method: name, code, locals, return type, handlers -/
abbrev zx_Y : Type := MethodName × ByteArray × Nat × Option FieldType × List (Nat × Nat × Nat × Nat)
abbrev zx_c (y : zx_Y) : Cond := Cond.code y.1 y.2.1 y.2.2.1 y.2.2.2.1
abbrev zx_A (G : zx_G) : Nat → Prop := fun q => zx_gB G ≤ q
def zx_R (D : va_G) (cl : List vw_C) (b : Nat) (h : zx_H) (n : Nat) (H : Heap) : Prop := H.size = n ∧ (∀ (a : Nat) (e : va_E), h a = some e → b ≤ a ∧ va_at D cl (a, e) H) ∧ ∀ (q : Nat) (cell : Cell), b ≤ q → H[q]? = some cell → cell.vm.isStatics = false
def zx_l (nL : Nat) (ls : Array Slot) (L : zx_L) : Prop := ls.size = nL ∧ L.length = nL ∧ lv_wf ls ∧ ∀ (i : Nat) (v : Value), L[i]? = some (some v) → ls[i]? = some (.val v)
def zx_Zok (b : Nat) (Z : State → Prop) : Prop := ∀ U U' : State, U.WarmedH U'.vm → b ≤ U.heap.size → (∀ q : Nat, q < b → U'.heap[q]? = U.heap[q]?) → Z U → Z U'
def zx_C (G : zx_G) (y : zx_Y) (p : Program) (s : State) (m : MethodId) (args : Array Value) (meth : Method) (c : Code) : Prop :=
  p.tables.exec = Jvm.exec ∧ c.code = y.2.1 ∧ c.maxLocals = y.2.2.1 ∧ s.vm.findClass y.1.cls = some m.cls ∧ (∀ w ∈ zx_gW G, w.before args s = true) ∧ va_K (zx_gD G) (zx_gC G) (zx_gT G) s ∧ zx_gB G ≤ s.heap.size ∧ zx_gZ G s ∧ zx_Zok (zx_gB G) (zx_gZ G) ∧ meth.sig.returnType = y.2.2.2.1 ∧ meth.locks = false ∧ meth.name = y.1.name ∧ c.exceptionTable.toList.map (fun h => (h.startPc, h.endPc, h.handlerPc, h.catchType)) = y.2.2.2.2
def zX (G : zx_G) (y : zx_Y) (R : Room) (F : List Frame → Array Value → State → State → Prop) (pc : Nat) (L : zx_L) (st : List Value) (h : zx_H) (n k j : Nat) : Prop :=
  ∀ (p : Program) (e : Env) (s : State) (m : MethodId) (args : Array Value) (below : List Frame) (meth : Method) (c : Code), zx_C G y p s m args meth c → ∀ (ls : Array Slot) (H : Heap) (locs : List Loc), zx_l y.2.2.1 ls L → zx_R (zx_gD G) (zx_gC G) (zx_gB G) h n H → va_S (zx_A G) s.heap H locs → W p (zx_gL G) e R s m args below meth c H locs k j (F below args s) (F0 m pc ls st)
/-- a contract's end: it returned -/
def zx_Q (G : zx_G) (post : Option Value → zx_H → Nat → Prop) : Array Value → State → Outcome → State → Prop := fun _ st o t =>
  (∃ (r : Option Value) (h' : zx_H) (n' : Nat), o = .returned r ∧ post r h' n' ∧ zx_R (zx_gD G) (zx_gC G) (zx_gB G) h' n' t.heap) ∧ va_F (zx_A G) st t
def zx_F (G : zx_G) (mc ms : Nat) (post : Option Value → zx_H → Nat → Prop) : List Frame → Array Value → State → State → Prop := fun below args s => MQ below (zx_Q G post) args s mc ms (zx_A G)
def zx_P (G : zx_G) (h : zx_H) (n : Nat) (U : State) : Prop := zx_R (zx_gD G) (zx_gC G) (zx_gB G) h n U.heap ∧ zx_gB G ≤ n ∧ va_K (zx_gD G) (zx_gC G) (zx_gT G) U ∧ zx_gZ G U ∧ zx_Zok (zx_gB G) (zx_gZ G)
/-- a contract: from arguments av and heap h it returns, and post holds -/
def zM (G : zx_G) (y : zx_Y) (rm : Room) (av : List Value) (h : zx_H) (n : Nat) (post : Option Value → zx_H → Nat → Prop) : Prop :=
  Met (zx_gL G) y.1 (zx_c y :: zx_gW G) rm (va_Pc av (zx_P G h n)) (zx_Q G post) rm.cells rm.slots (zx_A G)
/-! locals -/
def zx_kp : Option Value → Option Value
  | some w => if w.category = 2 then none else some w
  | none => none
def zx_md : zx_L → Nat → zx_L
  | [], _ => []
  | o :: t, 0 => zx_kp o :: t
  | o :: t, k + 1 => o :: zx_md t k
def zx_cl (L : zx_L) (i : Nat) : zx_L := match i with
  | 0 => L
  | k + 1 => zx_md L k
theorem zx_md_len : ∀ (L : zx_L) (k : Nat), (zx_md L k).length = L.length
  | [], _ => rfl
  | o :: t, 0 => rfl
  | o :: t, k + 1 => by simp only [zx_md, List.length_cons, zx_md_len t k]
theorem zx_md_get : ∀ (L : zx_L) (k j : Nat) (w : Value), (zx_md L k)[j]? = some (some w) → L[j]? = some (some w) ∧ ¬ (j = k ∧ w.category = 2)
  | [], _, j, w, h => by simp [zx_md] at h
  | o :: t, 0, 0, w, h => by
    simp only [zx_md, List.getElem?_cons_zero, Option.some.injEq] at h
    cases o with
    | none => simp [zx_kp] at h
    | some v =>
      unfold zx_kp at h
      simp only at h
      split at h
      · cases h
      · rename_i hc
        cases h
        exact ⟨rfl, fun q => hc q.2⟩
  | o :: t, 0, j + 1, w, h => by
    simp only [zx_md, List.getElem?_cons_succ] at h
    exact ⟨by simpa using h, fun q => by omega⟩
  | o :: t, k + 1, 0, w, h => by
    simp only [zx_md, List.getElem?_cons_zero] at h
    exact ⟨by simpa using h, fun q => by omega⟩
  | o :: t, k + 1, j + 1, w, h => by
    simp only [zx_md, List.getElem?_cons_succ] at h
    obtain ⟨h1, h2⟩ := zx_md_get t k j w h
    exact ⟨by simpa using h1, fun q => h2 ⟨by omega, q.2⟩⟩
def zx_s1 (L : zx_L) (i : Nat) (v : Value) : zx_L := (zx_cl L i).set i (some v)
def zx_s2 (L : zx_L) (i : Nat) (v : Value) : zx_L := ((zx_cl L i).set i (some v)).set (i + 1) none
def zx_ps (L : zx_L) : List (Nat × Value) := L.zipIdx.filterMap (fun q => q.1.map (fun v => (q.2, v)))
theorem zx_ps_mem {L : zx_L} {i : Nat} {v : Value} : (i, v) ∈ zx_ps L ↔ L[i]? = some (some v) := by
  constructor
  · intro h
    obtain ⟨⟨a, k⟩, h1, h2⟩ := List.mem_filterMap.mp h
    cases a with
    | none => simp at h2
    | some w =>
      simp only [Option.map_some, Option.some.injEq, Prod.mk.injEq] at h2
      obtain ⟨rfl, rfl⟩ := h2
      exact List.mk_mem_zipIdx_iff_getElem?.mp h1
  · intro h
    exact List.mem_filterMap.mpr ⟨(some v, i), List.mk_mem_zipIdx_iff_getElem?.mpr h, rfl⟩
theorem zx_l.has {nL : Nat} {ls : Array Slot} {L : zx_L} (h : zx_l nL ls L) : lv_has ls nL (zx_ps L) := ⟨h.1, h.2.2.1, fun q hq => h.2.2.2 q.1 q.2 (zx_ps_mem.mp hq)⟩
theorem zx_cl_len (L : zx_L) (i : Nat) : (zx_cl L i).length = L.length := by
  cases i with
  | zero => rfl
  | succ k => exact zx_md_len L k
theorem zx_cl_get {L : zx_L} {i j : Nat} {w : Value} (h : (zx_cl L i)[j]? = some (some w)) : L[j]? = some (some w) ∧ ¬ (j + 1 = i ∧ w.category = 2) := by
  cases i with
  | zero => exact ⟨h, fun q => by omega⟩
  | succ k =>
    obtain ⟨h1, h2⟩ := zx_md_get L k j w h
    exact ⟨h1, fun q => h2 ⟨by omega, q.2⟩⟩
theorem zx_l.s1 {nL : Nat} {ls ls' : Array Slot} {L : zx_L} {i : Nat} {v : Value} (h : zx_l nL ls L) (h' : lv_has ls' nL ((i, v) :: (zx_ps L).filter (fun q => !(q.1 == i) && !(q.1 + 1 == i && q.2.category == 2)))) : zx_l nL ls' (zx_s1 L i v) := by
  refine ⟨h'.1, by simp [zx_s1, zx_cl_len, h.2.1], h'.2.1, fun j w hj => ?_⟩
  unfold zx_s1 at hj
  by_cases e : j = i
  · subst e
    rw [List.getElem?_set] at hj
    simp only [if_true] at hj
    split at hj
    · cases hj
      exact h'.2.2 (j, v) List.mem_cons_self
    · cases hj
  · rw [List.getElem?_set_ne (Ne.symm e)] at hj
    obtain ⟨h1, h2⟩ := zx_cl_get hj
    refine h'.2.2 (j, w) (List.mem_cons_of_mem _ (List.mem_filter.mpr ⟨zx_ps_mem.mpr h1, ?_⟩))
    simp only [Bool.and_eq_true, Bool.not_eq_true', beq_eq_false_iff_ne, ne_eq, Bool.and_eq_false_iff]
    refine ⟨e, ?_⟩
    by_cases q : j + 1 = i
    · exact Or.inr (fun z => h2 ⟨q, z⟩)
    · exact Or.inl q
theorem zx_l.s2 {nL : Nat} {ls ls' : Array Slot} {L : zx_L} {i : Nat} {v : Value} (h : zx_l nL ls L) (h' : lv_has ls' nL ((i, v) :: (zx_ps L).filter (fun q => !(q.1 == i) && (!(q.1 == i + 1) && !(q.1 + 1 == i && q.2.category == 2))))) : zx_l nL ls' (zx_s2 L i v) := by
  refine ⟨h'.1, by simp [zx_s2, zx_cl_len, h.2.1], h'.2.1, fun j w hj => ?_⟩
  unfold zx_s2 at hj
  by_cases e1 : j = i + 1
  · subst e1
    rw [List.getElem?_set] at hj
    simp only [if_true] at hj
    split at hj <;> simp at hj
  · rw [List.getElem?_set_ne (Ne.symm e1)] at hj
    by_cases e : j = i
    · subst e
      rw [List.getElem?_set] at hj
      simp only [if_true] at hj
      split at hj
      · cases hj
        exact h'.2.2 (j, v) List.mem_cons_self
      · cases hj
    · rw [List.getElem?_set_ne (Ne.symm e)] at hj
      obtain ⟨h1, h2⟩ := zx_cl_get hj
      refine h'.2.2 (j, w) (List.mem_cons_of_mem _ (List.mem_filter.mpr ⟨zx_ps_mem.mpr h1, ?_⟩))
      simp only [Bool.and_eq_true, Bool.not_eq_true', beq_eq_false_iff_ne, ne_eq, Bool.and_eq_false_iff]
      refine ⟨e, e1, ?_⟩
      by_cases q : j + 1 = i
      · exact Or.inr (fun z => h2 ⟨q, z⟩)
      · exact Or.inl q
/-! the heap -/
theorem zx_ns {D : va_G} {cl : List vw_C} {a : Nat} {e : va_E} {H : Heap} (h : va_at D cl (a, e) H) {cell : Cell} (hc : H[a]? = some cell) : cell.vm.isStatics = false := by
  cases e with
  | inl x =>
    have h1 : H[a]? = some (vp_cell x.1 x.2) := h
    rw [h1] at hc
    cases hc
    obtain ⟨c, n, f | f | f | f | f⟩ := x <;> rfl
  | inr o =>
    obtain ⟨r, h1, cell2, h2, h3, h4, h5⟩ := h
    have e1 := h2.symm.trans hc
    cases e1
    rw [h4]
    rfl
theorem zx_R.get {D : va_G} {cl : List vw_C} {b : Nat} {h : zx_H} {n : Nat} {H : Heap} (hR : zx_R D cl b h n H) {a : Nat} {e : va_E} (he : h a = some e) : va_P D cl [(a, e)] H := by
  intro k q hk
  have hz : k < 1 := (List.getElem?_eq_some_iff.mp hk).1
  rw [show k = 0 by omega] at hk
  cases hk
  exact (hR.2.1 a e he).2
theorem zx_R.set {D : va_G} {cl : List vw_C} {b : Nat} {h : zx_H} {n : Nat} {H H1 : Heap} (hR : zx_R D cl b h n H) {a : Nat} {e0 e : va_E} (he : h a = some e0) (h1 : va_at D cl (a, e) H1) (z : H1.size = H.size) (oq : ∀ q : Nat, q ≠ a → H1[q]? = H[q]?) : zx_R D cl b (va_up h a (some e)) n H1 := by
  refine ⟨z.trans hR.1, fun x f hx => ?_, fun q cell hq hc => ?_⟩
  · unfold va_up at hx
    split at hx
    · rename_i hq
      subst hq
      cases hx
      exact ⟨(hR.2.1 x e0 he).1, h1⟩
    · rename_i hq
      obtain ⟨g1, g2⟩ := hR.2.1 x f hx
      exact ⟨g1, g2.kept (oq x hq)⟩
  · by_cases hqa : q = a
    · subst hqa
      exact zx_ns h1 hc
    · rw [oq q hqa] at hc
      exact hR.2.2 q cell hq hc
theorem zx_R.push {D : va_G} {cl : List vw_C} {b : Nat} {h : zx_H} {n : Nat} {H H1 : Heap} (hR : zx_R D cl b h n H) (hb : b ≤ n) {e : va_E} (h1 : va_at D cl (n, e) H1) (z : H1.size = n + 1) (oq : ∀ q : Nat, q < n → H1[q]? = H[q]?) : zx_R D cl b (va_up h n (some e)) (n + 1) H1 := by
  refine ⟨z, fun x f hx => ?_, fun q cell hq hc => ?_⟩
  · unfold va_up at hx
    split at hx
    · rename_i hq
      subst hq
      cases hx
      exact ⟨hb, h1⟩
    · rename_i hq
      obtain ⟨g1, g2⟩ := hR.2.1 x f hx
      have hlt : x < n := by have := g2.lt; rw [hR.1] at this; exact this
      exact ⟨g1, g2.kept (oq x hlt)⟩
  · by_cases hqa : q = n
    · subst hqa
      exact zx_ns h1 hc
    · have hlt : q < n + 1 := by rw [← z]; exact (Array.getElem?_eq_some_iff.mp hc).1
      rw [oq q (by omega)] at hc
      exact hR.2.2 q cell hq hc
theorem zx_R.fresh {D : va_G} {cl : List vw_C} {b : Nat} {h : zx_H} {n : Nat} {H : Heap} (hR : zx_R D cl b h n H) {a : Nat} (ha : n ≤ a) : h a = none := by
  cases e : h a with
  | none => rfl
  | some x =>
    have := (hR.2.1 a x e).2.lt
    rw [hR.1] at this
    exact absurd ha (Nat.not_le.mpr this)
theorem zx_R.forget {D : va_G} {cl : List vw_C} {b : Nat} {h h' : zx_H} {n : Nat} {H : Heap} (hR : zx_R D cl b h n H) (hs : ∀ a e, h' a = some e → h a = some e) : zx_R D cl b h' n H := ⟨hR.1, fun a e he => hR.2.1 a e (hs a e he), hR.2.2⟩

section ZX
variable {G : zx_G} {y : zx_Y} {R : Room} {F : List Frame → Array Value → State → State → Prop} {pc pc2 : Nat} {L : zx_L} {st : List Value} {h : zx_H} {n k j : Nat}
theorem zx_iadd {a b : Int32} (d : decode y.2.1 pc = .ok (.iadd, 1)) (e0 : pc + 1 = pc2)  (kk : zX G y R F pc2 L (.int (a + b) :: st) h n k j) : zX G y R F pc L (.int b :: .int a :: st) h n k j := by
  subst e0; intro p e s m args below meth c C ls H locs hl hR hS; exact lv_iadd C.1 C.2.1 d (kk p e s m args below meth c C ls H locs hl hR hS)
theorem zx_isub {a b : Int32} (d : decode y.2.1 pc = .ok (.isub, 1)) (e0 : pc + 1 = pc2)  (kk : zX G y R F pc2 L (.int (a - b) :: st) h n k j) : zX G y R F pc L (.int b :: .int a :: st) h n k j := by
  subst e0; intro p e s m args below meth c C ls H locs hl hR hS; exact lv_isub C.1 C.2.1 d (kk p e s m args below meth c C ls H locs hl hR hS)
theorem zx_imul {a b : Int32} (d : decode y.2.1 pc = .ok (.imul, 1)) (e0 : pc + 1 = pc2)  (kk : zX G y R F pc2 L (.int (a * b) :: st) h n k j) : zX G y R F pc L (.int b :: .int a :: st) h n k j := by
  subst e0; intro p e s m args below meth c C ls H locs hl hR hS; exact lv_imul C.1 C.2.1 d (kk p e s m args below meth c C ls H locs hl hR hS)
theorem zx_iand {a b : Int32} (d : decode y.2.1 pc = .ok (.iand, 1)) (e0 : pc + 1 = pc2)  (kk : zX G y R F pc2 L (.int (a &&& b) :: st) h n k j) : zX G y R F pc L (.int b :: .int a :: st) h n k j := by
  subst e0; intro p e s m args below meth c C ls H locs hl hR hS; exact lv_iand C.1 C.2.1 d (kk p e s m args below meth c C ls H locs hl hR hS)
theorem zx_ior {a b : Int32} (d : decode y.2.1 pc = .ok (.ior, 1)) (e0 : pc + 1 = pc2)  (kk : zX G y R F pc2 L (.int (a ||| b) :: st) h n k j) : zX G y R F pc L (.int b :: .int a :: st) h n k j := by
  subst e0; intro p e s m args below meth c C ls H locs hl hR hS; exact lv_ior C.1 C.2.1 d (kk p e s m args below meth c C ls H locs hl hR hS)
theorem zx_ixor {a b : Int32} (d : decode y.2.1 pc = .ok (.ixor, 1)) (e0 : pc + 1 = pc2)  (kk : zX G y R F pc2 L (.int (a ^^^ b) :: st) h n k j) : zX G y R F pc L (.int b :: .int a :: st) h n k j := by
  subst e0; intro p e s m args below meth c C ls H locs hl hR hS; exact lv_ixor C.1 C.2.1 d (kk p e s m args below meth c C ls H locs hl hR hS)
theorem zx_ladd {a b : Int64} (d : decode y.2.1 pc = .ok (.ladd, 1)) (e0 : pc + 1 = pc2)  (kk : zX G y R F pc2 L (.long (a + b) :: st) h n k j) : zX G y R F pc L (.long b :: .long a :: st) h n k j := by
  subst e0; intro p e s m args below meth c C ls H locs hl hR hS; exact lv_ladd C.1 C.2.1 d (kk p e s m args below meth c C ls H locs hl hR hS)
theorem zx_lsub {a b : Int64} (d : decode y.2.1 pc = .ok (.lsub, 1)) (e0 : pc + 1 = pc2)  (kk : zX G y R F pc2 L (.long (a - b) :: st) h n k j) : zX G y R F pc L (.long b :: .long a :: st) h n k j := by
  subst e0; intro p e s m args below meth c C ls H locs hl hR hS; exact lv_lsub C.1 C.2.1 d (kk p e s m args below meth c C ls H locs hl hR hS)
theorem zx_lmul {a b : Int64} (d : decode y.2.1 pc = .ok (.lmul, 1)) (e0 : pc + 1 = pc2)  (kk : zX G y R F pc2 L (.long (a * b) :: st) h n k j) : zX G y R F pc L (.long b :: .long a :: st) h n k j := by
  subst e0; intro p e s m args below meth c C ls H locs hl hR hS; exact lv_lmul C.1 C.2.1 d (kk p e s m args below meth c C ls H locs hl hR hS)
theorem zx_land {a b : Int64} (d : decode y.2.1 pc = .ok (.land, 1)) (e0 : pc + 1 = pc2)  (kk : zX G y R F pc2 L (.long (a &&& b) :: st) h n k j) : zX G y R F pc L (.long b :: .long a :: st) h n k j := by
  subst e0; intro p e s m args below meth c C ls H locs hl hR hS; exact lv_land C.1 C.2.1 d (kk p e s m args below meth c C ls H locs hl hR hS)
theorem zx_lor {a b : Int64} (d : decode y.2.1 pc = .ok (.lor, 1)) (e0 : pc + 1 = pc2)  (kk : zX G y R F pc2 L (.long (a ||| b) :: st) h n k j) : zX G y R F pc L (.long b :: .long a :: st) h n k j := by
  subst e0; intro p e s m args below meth c C ls H locs hl hR hS; exact lv_lor C.1 C.2.1 d (kk p e s m args below meth c C ls H locs hl hR hS)
theorem zx_lxor {a b : Int64} (d : decode y.2.1 pc = .ok (.lxor, 1)) (e0 : pc + 1 = pc2)  (kk : zX G y R F pc2 L (.long (a ^^^ b) :: st) h n k j) : zX G y R F pc L (.long b :: .long a :: st) h n k j := by
  subst e0; intro p e s m args below meth c C ls H locs hl hR hS; exact lv_lxor C.1 C.2.1 d (kk p e s m args below meth c C ls H locs hl hR hS)
theorem zx_idiv {a b : Int32} (d : decode y.2.1 pc = .ok (.idiv, 1)) (e0 : pc + 1 = pc2) (hne : ¬ b = 0) (kk : zX G y R F pc2 L (.int (a / b) :: st) h n k j) : zX G y R F pc L (.int b :: .int a :: st) h n k j := by
  subst e0; intro p e s m args below meth c C ls H locs hl hR hS; exact lv_idiv C.1 C.2.1 d hne (kk p e s m args below meth c C ls H locs hl hR hS)
theorem zx_irem {a b : Int32} (d : decode y.2.1 pc = .ok (.irem, 1)) (e0 : pc + 1 = pc2) (hne : ¬ b = 0) (kk : zX G y R F pc2 L (.int (a - a / b * b) :: st) h n k j) : zX G y R F pc L (.int b :: .int a :: st) h n k j := by
  subst e0; intro p e s m args below meth c C ls H locs hl hR hS; exact lv_irem C.1 C.2.1 d hne (kk p e s m args below meth c C ls H locs hl hR hS)
theorem zx_ishl {a b : Int32} (d : decode y.2.1 pc = .ok (.ishl, 1)) (e0 : pc + 1 = pc2)  (kk : zX G y R F pc2 L (.int (a <<< (b &&& 31)) :: st) h n k j) : zX G y R F pc L (.int b :: .int a :: st) h n k j := by
  subst e0; intro p e s m args below meth c C ls H locs hl hR hS; exact lv_ishl C.1 C.2.1 d (kk p e s m args below meth c C ls H locs hl hR hS)
theorem zx_ishr {a b : Int32} (d : decode y.2.1 pc = .ok (.ishr, 1)) (e0 : pc + 1 = pc2)  (kk : zX G y R F pc2 L (.int (a >>> (b &&& 31)) :: st) h n k j) : zX G y R F pc L (.int b :: .int a :: st) h n k j := by
  subst e0; intro p e s m args below meth c C ls H locs hl hR hS; exact lv_ishr C.1 C.2.1 d (kk p e s m args below meth c C ls H locs hl hR hS)
theorem zx_iushr {a b : Int32} (d : decode y.2.1 pc = .ok (.iushr, 1)) (e0 : pc + 1 = pc2)  (kk : zX G y R F pc2 L (.int ((a.toUInt32 >>> (b.toUInt32 &&& Int32.toUInt32 31)).toInt32) :: st) h n k j) : zX G y R F pc L (.int b :: .int a :: st) h n k j := by
  subst e0; intro p e s m args below meth c C ls H locs hl hR hS; exact lv_iushr C.1 C.2.1 d rfl (kk p e s m args below meth c C ls H locs hl hR hS)
theorem zx_ineg {a : Int32} (d : decode y.2.1 pc = .ok (.ineg, 1)) (e0 : pc + 1 = pc2)  (kk : zX G y R F pc2 L (.int (-a) :: st) h n k j) : zX G y R F pc L (.int a :: st) h n k j := by
  subst e0; intro p e s m args below meth c C ls H locs hl hR hS; exact lv_ineg C.1 C.2.1 d (kk p e s m args below meth c C ls H locs hl hR hS)
theorem zx_lshl {a : Int64} {b : Int32} (d : decode y.2.1 pc = .ok (.lshl, 1)) (e0 : pc + 1 = pc2)  (kk : zX G y R F pc2 L (.long (a <<< (b.toInt64 &&& 63)) :: st) h n k j) : zX G y R F pc L (.int b :: .long a :: st) h n k j := by
  subst e0; intro p e s m args below meth c C ls H locs hl hR hS; exact lv_lshl C.1 C.2.1 d rfl (kk p e s m args below meth c C ls H locs hl hR hS)
theorem zx_lushr {a : Int64} {b : Int32} (d : decode y.2.1 pc = .ok (.lushr, 1)) (e0 : pc + 1 = pc2)  (kk : zX G y R F pc2 L (.long ((a.toUInt64 >>> (b.toInt64.toUInt64 &&& Int64.toUInt64 63)).toInt64) :: st) h n k j) : zX G y R F pc L (.int b :: .long a :: st) h n k j := by
  subst e0; intro p e s m args below meth c C ls H locs hl hR hS; exact lv_lushr C.1 C.2.1 d rfl (kk p e s m args below meth c C ls H locs hl hR hS)
theorem zx_i2l {a : Int32} (d : decode y.2.1 pc = .ok (.i2l, 1)) (e0 : pc + 1 = pc2)  (kk : zX G y R F pc2 L (.long a.toInt64 :: st) h n k j) : zX G y R F pc L (.int a :: st) h n k j := by
  subst e0; intro p e s m args below meth c C ls H locs hl hR hS; exact lv_i2l C.1 C.2.1 d rfl (kk p e s m args below meth c C ls H locs hl hR hS)
theorem zx_l2i {a : Int64} (d : decode y.2.1 pc = .ok (.l2i, 1)) (e0 : pc + 1 = pc2)  (kk : zX G y R F pc2 L (.int a.toInt32 :: st) h n k j) : zX G y R F pc L (.long a :: st) h n k j := by
  subst e0; intro p e s m args below meth c C ls H locs hl hR hS; exact lv_l2i C.1 C.2.1 d rfl (kk p e s m args below meth c C ls H locs hl hR hS)
theorem zx_i2b {a : Int32} (d : decode y.2.1 pc = .ok (.i2b, 1)) (e0 : pc + 1 = pc2)  (kk : zX G y R F pc2 L (.int a.toInt8.toInt32 :: st) h n k j) : zX G y R F pc L (.int a :: st) h n k j := by
  subst e0; intro p e s m args below meth c C ls H locs hl hR hS; exact lv_i2b C.1 C.2.1 d rfl (kk p e s m args below meth c C ls H locs hl hR hS)
theorem zx_iconst {c0 : Int} {v : Int32} (d : decode y.2.1 pc = .ok (.iconst c0, 1)) (e0 : pc + 1 = pc2) (hv : Int32.ofInt c0 = v) (kk : zX G y R F pc2 L (.int v :: st) h n k j) : zX G y R F pc L (st) h n k j := by
  subst e0; intro p e s m args below meth c C ls H locs hl hR hS; exact lv_iconst C.1 C.2.1 d hv (kk p e s m args below meth c C ls H locs hl hR hS)
theorem zx_bipush {c0 : Int} {v : Int32} (d : decode y.2.1 pc = .ok (.bipush c0, 2)) (e0 : pc + 2 = pc2) (hv : (Int8.ofInt c0).toInt32 = v) (kk : zX G y R F pc2 L (.int v :: st) h n k j) : zX G y R F pc L (st) h n k j := by
  subst e0; intro p e s m args below meth c C ls H locs hl hR hS; exact lv_bipush C.1 C.2.1 d hv (kk p e s m args below meth c C ls H locs hl hR hS)
theorem zx_sipush {c0 : Int} {v : Int32} (d : decode y.2.1 pc = .ok (.sipush c0, 3)) (e0 : pc + 3 = pc2) (hv : (Int16.ofInt c0).toInt32 = v) (kk : zX G y R F pc2 L (.int v :: st) h n k j) : zX G y R F pc L (st) h n k j := by
  subst e0; intro p e s m args below meth c C ls H locs hl hR hS; exact lv_sipush C.1 C.2.1 d hv (kk p e s m args below meth c C ls H locs hl hR hS)
theorem zx_lconst {c0 : Fin 2} {v : Int64} (d : decode y.2.1 pc = .ok (.lconst c0, 1)) (e0 : pc + 1 = pc2) (hv : Int64.ofNat (c0 : Nat) = v) (kk : zX G y R F pc2 L (.long v :: st) h n k j) : zX G y R F pc L (st) h n k j := by
  subst e0; intro p e s m args below meth c C ls H locs hl hR hS; exact lv_lconst C.1 C.2.1 d hv (kk p e s m args below meth c C ls H locs hl hR hS)
theorem zx_null  (d : decode y.2.1 pc = .ok (.aconst_null, 1)) (e0 : pc + 1 = pc2)  (kk : zX G y R F pc2 L (.null :: st) h n k j) : zX G y R F pc L (st) h n k j := by
  subst e0; intro p e s m args below meth c C ls H locs hl hR hS; exact lv_null C.1 C.2.1 d (kk p e s m args below meth c C ls H locs hl hR hS)
theorem zx_ldc2 {ix : Nat} {v : Int64} (d : decode y.2.1 pc = .ok (.ldc2_w ix, 3)) (e0 : pc + 3 = pc2) (hc : Cond.constantLong y.1.cls ix v ∈ zx_gW G) (kk : zX G y R F pc2 L (.long v :: st) h n k j) : zX G y R F pc L (st) h n k j := by
  subst e0; intro p e s m args below meth c C ls H locs hl hR hS; exact lv_ldc2 C.1 C.2.1 C.2.2.2.1 (C.2.2.2.2.1 _ (hc)) d (kk p e s m args below meth c C ls H locs hl hR hS)
theorem zx_iload_n {i0 : Fin 4} {x : Int32} (d : decode y.2.1 pc = .ok (.iload_n i0, 1)) (e0 : pc + 1 = pc2) (hv : L[(i0 : Nat)]? = some (some (.int x))) (kk : zX G y R F pc2 L (.int x :: st) h n k j) : zX G y R F pc L (st) h n k j := by
  subst e0; intro p e s m args below meth c C ls H locs hl hR hS; exact lv_iload_n C.1 C.2.1 d rfl (hl.2.2.2 _ _ hv) (kk p e s m args below meth c C ls H locs hl hR hS)
theorem zx_iload {i0 : Nat} {x : Int32} (d : decode y.2.1 pc = .ok (.iload i0, 2)) (e0 : pc + 2 = pc2) (hv : L[i0]? = some (some (.int x))) (kk : zX G y R F pc2 L (.int x :: st) h n k j) : zX G y R F pc L (st) h n k j := by
  subst e0; intro p e s m args below meth c C ls H locs hl hR hS; exact lv_iload C.1 C.2.1 d (hl.2.2.2 _ _ hv) (kk p e s m args below meth c C ls H locs hl hR hS)
theorem zx_lload_n {i0 : Fin 4} {x : Int64} (d : decode y.2.1 pc = .ok (.lload_n i0, 1)) (e0 : pc + 1 = pc2) (hv : L[(i0 : Nat)]? = some (some (.long x))) (kk : zX G y R F pc2 L (.long x :: st) h n k j) : zX G y R F pc L (st) h n k j := by
  subst e0; intro p e s m args below meth c C ls H locs hl hR hS; exact lv_lload_n C.1 C.2.1 d rfl (hl.2.2.2 _ _ hv) (kk p e s m args below meth c C ls H locs hl hR hS)
theorem zx_lload {i0 : Nat} {x : Int64} (d : decode y.2.1 pc = .ok (.lload i0, 2)) (e0 : pc + 2 = pc2) (hv : L[i0]? = some (some (.long x))) (kk : zX G y R F pc2 L (.long x :: st) h n k j) : zX G y R F pc L (st) h n k j := by
  subst e0; intro p e s m args below meth c C ls H locs hl hR hS; exact lv_lload C.1 C.2.1 d (hl.2.2.2 _ _ hv) (kk p e s m args below meth c C ls H locs hl hR hS)
theorem zx_aload_n {i0 : Fin 4} {x : Nat} (d : decode y.2.1 pc = .ok (.aload_n i0, 1)) (e0 : pc + 1 = pc2) (hv : L[(i0 : Nat)]? = some (some (.ref x))) (kk : zX G y R F pc2 L (.ref x :: st) h n k j) : zX G y R F pc L (st) h n k j := by
  subst e0; intro p e s m args below meth c C ls H locs hl hR hS; exact lv_aload_n C.1 C.2.1 d rfl (hl.2.2.2 _ _ hv) (kk p e s m args below meth c C ls H locs hl hR hS)
theorem zx_aload {i0 : Nat} {x : Nat} (d : decode y.2.1 pc = .ok (.aload i0, 2)) (e0 : pc + 2 = pc2) (hv : L[i0]? = some (some (.ref x))) (kk : zX G y R F pc2 L (.ref x :: st) h n k j) : zX G y R F pc L (st) h n k j := by
  subst e0; intro p e s m args below meth c C ls H locs hl hR hS; exact lv_aload C.1 C.2.1 d (hl.2.2.2 _ _ hv) (kk p e s m args below meth c C ls H locs hl hR hS)
theorem zx_aload_nN {i0 : Fin 4} (d : decode y.2.1 pc = .ok (.aload_n i0, 1)) (e0 : pc + 1 = pc2) (hv : L[(i0 : Nat)]? = some (some .null)) (kk : zX G y R F pc2 L (.null :: st) h n k j) : zX G y R F pc L (st) h n k j := by
  subst e0; intro p e s m args below meth c C ls H locs hl hR hS; exact lv_aload_nN C.1 C.2.1 d rfl (hl.2.2.2 _ _ hv) (kk p e s m args below meth c C ls H locs hl hR hS)
theorem zx_aloadN {i0 : Nat} (d : decode y.2.1 pc = .ok (.aload i0, 2)) (e0 : pc + 2 = pc2) (hv : L[i0]? = some (some .null)) (kk : zX G y R F pc2 L (.null :: st) h n k j) : zX G y R F pc L (st) h n k j := by
  subst e0; intro p e s m args below meth c C ls H locs hl hR hS; exact lv_aloadN C.1 C.2.1 d (hl.2.2.2 _ _ hv) (kk p e s m args below meth c C ls H locs hl hR hS)
theorem zx_dup {v : Value} (d : decode y.2.1 pc = .ok (.dup, 1)) (e0 : pc + 1 = pc2) (h1 : v.category = 1) (kk : zX G y R F pc2 L (v :: v :: st) h n k j) : zX G y R F pc L (v :: st) h n k j := by
  subst e0; intro p e s m args below meth c C ls H locs hl hR hS; exact lv_dup C.1 C.2.1 d h1 (kk p e s m args below meth c C ls H locs hl hR hS)
theorem zx_pop {v : Value} (d : decode y.2.1 pc = .ok (.pop, 1)) (e0 : pc + 1 = pc2) (h1 : v.category = 1) (kk : zX G y R F pc2 L (st) h n k j) : zX G y R F pc L (v :: st) h n k j := by
  subst e0; intro p e s m args below meth c C ls H locs hl hR hS; exact lv_pop C.1 C.2.1 d h1 (kk p e s m args below meth c C ls H locs hl hR hS)
theorem zx_dup2 {v w : Value} (d : decode y.2.1 pc = .ok (.dup2, 1)) (e0 : pc + 1 = pc2) (h1 : v.category = 1) (h2 : w.category = 1) (kk : zX G y R F pc2 L (v :: w :: v :: w :: st) h n k j) : zX G y R F pc L (v :: w :: st) h n k j := by
  subst e0; intro p e s m args below meth c C ls H locs hl hR hS; exact lv_dup2_11 C.1 C.2.1 d h1 h2 (kk p e s m args below meth c C ls H locs hl hR hS)
theorem zx_dup_x1 {v w : Value} (d : decode y.2.1 pc = .ok (.dup_x1, 1)) (e0 : pc + 1 = pc2) (h1 : v.category = 1) (h2 : w.category = 1) (kk : zX G y R F pc2 L (v :: w :: v :: st) h n k j) : zX G y R F pc L (v :: w :: st) h n k j := by
  subst e0; intro p e s m args below meth c C ls H locs hl hR hS; exact lv_dup_x1 C.1 C.2.1 d h1 h2 (kk p e s m args below meth c C ls H locs hl hR hS)
theorem zx_ifnullR {x : Nat} {off : Int} (d : decode y.2.1 pc = .ok (.ifnull off, 3)) (e0 : pc + 3 = pc2)  (kk : zX G y R F pc2 L (st) h n k j) : zX G y R F pc L (.ref x :: st) h n k j := by
  subst e0; intro p e s m args below meth c C ls H locs hl hR hS; exact lv_ifnull C.1 C.2.1 d (kk p e s m args below meth c C ls H locs hl hR hS)
theorem zx_ifnonnullN {off : Int} (d : decode y.2.1 pc = .ok (.ifnonnull off, 3)) (e0 : pc + 3 = pc2)  (kk : zX G y R F pc2 L (st) h n k j) : zX G y R F pc L (.null :: st) h n k j := by
  subst e0; intro p e s m args below meth c C ls H locs hl hR hS; exact lv_ifnonnullN C.1 C.2.1 d (kk p e s m args below meth c C ls H locs hl hR hS)
theorem zx_goto  {tgt : Nat} {off : Int} (d : decode y.2.1 pc = .ok (.goto off, 3)) (ht : (pc : Int) + off = (tgt : Int)) (kk : zX G y R F tgt L st h n k j) : zX G y R F pc L (st) h n k j := by
  intro p e s m args below meth c C ls H locs hl hR hS; exact lv_goto C.1 C.2.1 d ht (kk p e s m args below meth c C ls H locs hl hR hS)
theorem zx_ifnonnullR {x : Nat} {tgt : Nat} {off : Int} (d : decode y.2.1 pc = .ok (.ifnonnull off, 3)) (ht : (pc : Int) + off = (tgt : Int)) (kk : zX G y R F tgt L st h n k j) : zX G y R F pc L (.ref x :: st) h n k j := by
  intro p e s m args below meth c C ls H locs hl hR hS; exact lv_ifnonnull C.1 C.2.1 d ht (kk p e s m args below meth c C ls H locs hl hR hS)
theorem zx_ifnullN  {tgt : Nat} {off : Int} (d : decode y.2.1 pc = .ok (.ifnull off, 3)) (ht : (pc : Int) + off = (tgt : Int)) (kk : zX G y R F tgt L st h n k j) : zX G y R F pc L (.null :: st) h n k j := by
  intro p e s m args below meth c C ls H locs hl hR hS; exact lv_ifnullN C.1 C.2.1 d ht (kk p e s m args below meth c C ls H locs hl hR hS)
theorem zx_istore_n {i0 : Fin 4} {i1 : Nat} {x : Int32} (d : decode y.2.1 pc = .ok (.istore_n i0, 1)) (e0 : pc + 1 = pc2) (hi : (i0 : Nat) = i1) (hn : i1 < y.2.2.1) (kk : zX G y R F pc2 (zx_s1 L i1 (.int x)) st h n k j) : zX G y R F pc L (.int x :: st) h n k j := by
  subst e0; intro p e s m args below meth c C ls H locs hl hR hS; exact lv_istore_n C.1 C.2.1 d hi hl.has hn rfl (fun ls2 h2 => kk p e s m args below meth c C ls2 H locs (hl.s1 h2) hR hS)
theorem zx_istore {i1 : Nat} {x : Int32} (d : decode y.2.1 pc = .ok (.istore i1, 2)) (e0 : pc + 2 = pc2) (hn : i1 < y.2.2.1) (kk : zX G y R F pc2 (zx_s1 L i1 (.int x)) st h n k j) : zX G y R F pc L (.int x :: st) h n k j := by
  subst e0; intro p e s m args below meth c C ls H locs hl hR hS; exact lv_istore C.1 C.2.1 d hl.has hn rfl (fun ls2 h2 => kk p e s m args below meth c C ls2 H locs (hl.s1 h2) hR hS)
theorem zx_astore_n {i0 : Fin 4} {i1 : Nat} {x : Nat} (d : decode y.2.1 pc = .ok (.astore_n i0, 1)) (e0 : pc + 1 = pc2) (hi : (i0 : Nat) = i1) (hn : i1 < y.2.2.1) (kk : zX G y R F pc2 (zx_s1 L i1 (.ref x)) st h n k j) : zX G y R F pc L (.ref x :: st) h n k j := by
  subst e0; intro p e s m args below meth c C ls H locs hl hR hS; exact lv_astore_n C.1 C.2.1 d hi hl.has hn rfl (fun ls2 h2 => kk p e s m args below meth c C ls2 H locs (hl.s1 h2) hR hS)
theorem zx_astore {i1 : Nat} {x : Nat} (d : decode y.2.1 pc = .ok (.astore i1, 2)) (e0 : pc + 2 = pc2) (hn : i1 < y.2.2.1) (kk : zX G y R F pc2 (zx_s1 L i1 (.ref x)) st h n k j) : zX G y R F pc L (.ref x :: st) h n k j := by
  subst e0; intro p e s m args below meth c C ls H locs hl hR hS; exact lv_astore C.1 C.2.1 d hl.has hn rfl (fun ls2 h2 => kk p e s m args below meth c C ls2 H locs (hl.s1 h2) hR hS)
theorem zx_astore_nN {i0 : Fin 4} {i1 : Nat}  (d : decode y.2.1 pc = .ok (.astore_n i0, 1)) (e0 : pc + 1 = pc2) (hi : (i0 : Nat) = i1) (hn : i1 < y.2.2.1) (kk : zX G y R F pc2 (zx_s1 L i1 (.null)) st h n k j) : zX G y R F pc L (.null :: st) h n k j := by
  subst e0; intro p e s m args below meth c C ls H locs hl hR hS; exact lv_astore_nN C.1 C.2.1 d hi hl.has hn rfl (fun ls2 h2 => kk p e s m args below meth c C ls2 H locs (hl.s1 h2) hR hS)
theorem zx_astoreN {i1 : Nat}  (d : decode y.2.1 pc = .ok (.astore i1, 2)) (e0 : pc + 2 = pc2) (hn : i1 < y.2.2.1) (kk : zX G y R F pc2 (zx_s1 L i1 (.null)) st h n k j) : zX G y R F pc L (.null :: st) h n k j := by
  subst e0; intro p e s m args below meth c C ls H locs hl hR hS; exact lv_astoreN C.1 C.2.1 d hl.has hn rfl (fun ls2 h2 => kk p e s m args below meth c C ls2 H locs (hl.s1 h2) hR hS)
theorem zx_lstore_n {i0 : Fin 4} {i1 : Nat} {x : Int64} (d : decode y.2.1 pc = .ok (.lstore_n i0, 1)) (e0 : pc + 1 = pc2) (hi : (i0 : Nat) = i1) (hn : i1 + 1 < y.2.2.1) (kk : zX G y R F pc2 (zx_s2 L i1 (.long x)) st h n k j) : zX G y R F pc L (.long x :: st) h n k j := by
  subst e0; intro p e s m args below meth c C ls H locs hl hR hS; exact lv_lstore_n C.1 C.2.1 d hi hl.has hn rfl (fun ls2 h2 => kk p e s m args below meth c C ls2 H locs (hl.s2 h2) hR hS)
theorem zx_lstore {i1 : Nat} {x : Int64} (d : decode y.2.1 pc = .ok (.lstore i1, 2)) (e0 : pc + 2 = pc2) (hn : i1 + 1 < y.2.2.1) (kk : zX G y R F pc2 (zx_s2 L i1 (.long x)) st h n k j) : zX G y R F pc L (.long x :: st) h n k j := by
  subst e0; intro p e s m args below meth c C ls H locs hl hR hS; exact lv_lstore C.1 C.2.1 d hl.has hn rfl (fun ls2 h2 => kk p e s m args below meth c C ls2 H locs (hl.s2 h2) hR hS)
theorem zx_iinc {i1 : Nat} {c0 : Int} {x v : Int32} (d : decode y.2.1 pc = .ok (.iinc i1 c0, 3)) (e0 : pc + 3 = pc2) (hv : L[i1]? = some (some (.int x))) (hw : x + Int32.ofInt c0 = v) (hn : i1 < y.2.2.1) (kk : zX G y R F pc2 (zx_s1 L i1 (.int v)) st h n k j) : zX G y R F pc L st h n k j := by
  subst e0; intro p e s m args below meth c C ls H locs hl hR hS
  obtain ⟨kx, hkx⟩ := List.getElem?_of_mem (zx_ps_mem.mpr hv)
  exact lv_iinc C.1 C.2.1 d hl.has hkx hw hn rfl (fun ls2 h2 => kk p e s m args below meth c C ls2 H locs (hl.s1 h2) hR hS)
theorem zx_if_eq {x : Int32} {tgt : Nat} {off : Int} (d : decode y.2.1 pc = .ok (.ifCond .eq off, 3)) (e0 : pc + 3 = pc2) (ht : (pc : Int) + off = (tgt : Int)) (kt : x = 0 → zX G y R F tgt L st h n k j) (kf : ¬ (x = 0) → zX G y R F pc2 L st h n k j) : zX G y R F pc L (.int x :: st) h n k j := by
  subst e0; intro p e s m args below meth c C ls H locs hl hR hS; exact lv_if_eq C.1 C.2.1 d ht (fun q => kt q p e s m args below meth c C ls H locs hl hR hS) (fun q => kf q p e s m args below meth c C ls H locs hl hR hS)
theorem zx_if_ne {x : Int32} {tgt : Nat} {off : Int} (d : decode y.2.1 pc = .ok (.ifCond .ne off, 3)) (e0 : pc + 3 = pc2) (ht : (pc : Int) + off = (tgt : Int)) (kt : x ≠ 0 → zX G y R F tgt L st h n k j) (kf : x = 0 → zX G y R F pc2 L st h n k j) : zX G y R F pc L (.int x :: st) h n k j := by
  subst e0; intro p e s m args below meth c C ls H locs hl hR hS; exact lv_if_ne C.1 C.2.1 d ht (fun q => kt q p e s m args below meth c C ls H locs hl hR hS) (fun q => kf q p e s m args below meth c C ls H locs hl hR hS)
theorem zx_if_lt {x : Int32} {tgt : Nat} {off : Int} (d : decode y.2.1 pc = .ok (.ifCond .lt off, 3)) (e0 : pc + 3 = pc2) (ht : (pc : Int) + off = (tgt : Int)) (kt : x < 0 → zX G y R F tgt L st h n k j) (kf : ¬ (x < 0) → zX G y R F pc2 L st h n k j) : zX G y R F pc L (.int x :: st) h n k j := by
  subst e0; intro p e s m args below meth c C ls H locs hl hR hS; exact lv_if_lt C.1 C.2.1 d ht (fun q => kt q p e s m args below meth c C ls H locs hl hR hS) (fun q => kf q p e s m args below meth c C ls H locs hl hR hS)
theorem zx_if_ge {x : Int32} {tgt : Nat} {off : Int} (d : decode y.2.1 pc = .ok (.ifCond .ge off, 3)) (e0 : pc + 3 = pc2) (ht : (pc : Int) + off = (tgt : Int)) (kt : 0 ≤ x → zX G y R F tgt L st h n k j) (kf : ¬ (0 ≤ x) → zX G y R F pc2 L st h n k j) : zX G y R F pc L (.int x :: st) h n k j := by
  subst e0; intro p e s m args below meth c C ls H locs hl hR hS; exact lv_if_ge C.1 C.2.1 d ht (fun q => kt q p e s m args below meth c C ls H locs hl hR hS) (fun q => kf q p e s m args below meth c C ls H locs hl hR hS)
theorem zx_if_gt {x : Int32} {tgt : Nat} {off : Int} (d : decode y.2.1 pc = .ok (.ifCond .gt off, 3)) (e0 : pc + 3 = pc2) (ht : (pc : Int) + off = (tgt : Int)) (kt : 0 < x → zX G y R F tgt L st h n k j) (kf : ¬ (0 < x) → zX G y R F pc2 L st h n k j) : zX G y R F pc L (.int x :: st) h n k j := by
  subst e0; intro p e s m args below meth c C ls H locs hl hR hS; exact lv_if_gt C.1 C.2.1 d ht (fun q => kt q p e s m args below meth c C ls H locs hl hR hS) (fun q => kf q p e s m args below meth c C ls H locs hl hR hS)
theorem zx_if_le {x : Int32} {tgt : Nat} {off : Int} (d : decode y.2.1 pc = .ok (.ifCond .le off, 3)) (e0 : pc + 3 = pc2) (ht : (pc : Int) + off = (tgt : Int)) (kt : x ≤ 0 → zX G y R F tgt L st h n k j) (kf : ¬ (x ≤ 0) → zX G y R F pc2 L st h n k j) : zX G y R F pc L (.int x :: st) h n k j := by
  subst e0; intro p e s m args below meth c C ls H locs hl hR hS; exact lv_if_le C.1 C.2.1 d ht (fun q => kt q p e s m args below meth c C ls H locs hl hR hS) (fun q => kf q p e s m args below meth c C ls H locs hl hR hS)
theorem zx_icmp_eq {a b : Int32} {tgt : Nat} {off : Int} (d : decode y.2.1 pc = .ok (.if_icmp .eq off, 3)) (e0 : pc + 3 = pc2) (ht : (pc : Int) + off = (tgt : Int)) (kt : a = b → zX G y R F tgt L st h n k j) (kf : ¬ (a = b) → zX G y R F pc2 L st h n k j) : zX G y R F pc L (.int b :: .int a :: st) h n k j := by
  subst e0; intro p e s m args below meth c C ls H locs hl hR hS; exact lv_icmp_eq C.1 C.2.1 d ht (fun q => kt q p e s m args below meth c C ls H locs hl hR hS) (fun q => kf q p e s m args below meth c C ls H locs hl hR hS)
theorem zx_icmp_ne {a b : Int32} {tgt : Nat} {off : Int} (d : decode y.2.1 pc = .ok (.if_icmp .ne off, 3)) (e0 : pc + 3 = pc2) (ht : (pc : Int) + off = (tgt : Int)) (kt : a ≠ b → zX G y R F tgt L st h n k j) (kf : a = b → zX G y R F pc2 L st h n k j) : zX G y R F pc L (.int b :: .int a :: st) h n k j := by
  subst e0; intro p e s m args below meth c C ls H locs hl hR hS; exact lv_icmp_ne C.1 C.2.1 d ht (fun q => kt q p e s m args below meth c C ls H locs hl hR hS) (fun q => kf q p e s m args below meth c C ls H locs hl hR hS)
theorem zx_icmp_lt {a b : Int32} {tgt : Nat} {off : Int} (d : decode y.2.1 pc = .ok (.if_icmp .lt off, 3)) (e0 : pc + 3 = pc2) (ht : (pc : Int) + off = (tgt : Int)) (kt : a < b → zX G y R F tgt L st h n k j) (kf : ¬ (a < b) → zX G y R F pc2 L st h n k j) : zX G y R F pc L (.int b :: .int a :: st) h n k j := by
  subst e0; intro p e s m args below meth c C ls H locs hl hR hS; exact lv_icmp_lt C.1 C.2.1 d ht (fun q => kt q p e s m args below meth c C ls H locs hl hR hS) (fun q => kf q p e s m args below meth c C ls H locs hl hR hS)
theorem zx_icmp_ge {a b : Int32} {tgt : Nat} {off : Int} (d : decode y.2.1 pc = .ok (.if_icmp .ge off, 3)) (e0 : pc + 3 = pc2) (ht : (pc : Int) + off = (tgt : Int)) (kt : b ≤ a → zX G y R F tgt L st h n k j) (kf : ¬ (b ≤ a) → zX G y R F pc2 L st h n k j) : zX G y R F pc L (.int b :: .int a :: st) h n k j := by
  subst e0; intro p e s m args below meth c C ls H locs hl hR hS; exact lv_icmp_ge C.1 C.2.1 d ht (fun q => kt q p e s m args below meth c C ls H locs hl hR hS) (fun q => kf q p e s m args below meth c C ls H locs hl hR hS)
theorem zx_icmp_gt {a b : Int32} {tgt : Nat} {off : Int} (d : decode y.2.1 pc = .ok (.if_icmp .gt off, 3)) (e0 : pc + 3 = pc2) (ht : (pc : Int) + off = (tgt : Int)) (kt : b < a → zX G y R F tgt L st h n k j) (kf : ¬ (b < a) → zX G y R F pc2 L st h n k j) : zX G y R F pc L (.int b :: .int a :: st) h n k j := by
  subst e0; intro p e s m args below meth c C ls H locs hl hR hS; exact lv_icmp_gt C.1 C.2.1 d ht (fun q => kt q p e s m args below meth c C ls H locs hl hR hS) (fun q => kf q p e s m args below meth c C ls H locs hl hR hS)
theorem zx_icmp_le {a b : Int32} {tgt : Nat} {off : Int} (d : decode y.2.1 pc = .ok (.if_icmp .le off, 3)) (e0 : pc + 3 = pc2) (ht : (pc : Int) + off = (tgt : Int)) (kt : a ≤ b → zX G y R F tgt L st h n k j) (kf : ¬ (a ≤ b) → zX G y R F pc2 L st h n k j) : zX G y R F pc L (.int b :: .int a :: st) h n k j := by
  subst e0; intro p e s m args below meth c C ls H locs hl hR hS; exact lv_icmp_le C.1 C.2.1 d ht (fun q => kt q p e s m args below meth c C ls H locs hl hR hS) (fun q => kf q p e s m args below meth c C ls H locs hl hR hS)
theorem zx_tsw_out {x : Int32} {tgt len : Nat} {dflt lo hi : Int} {offs : Array Int} (d : decode y.2.1 pc = .ok (.tableswitch dflt lo hi offs, len)) (hx : x.toInt < lo ∨ hi < x.toInt) (ht : (pc : Int) + dflt = (tgt : Int)) (kk : zX G y R F tgt L st h n k j) : zX G y R F pc L (.int x :: st) h n k j := by
  intro p e s m args below meth c C ls H locs hl hR hS; exact lv_tableOut C.1 C.2.1 d hx ht (kk p e s m args below meth c C ls H locs hl hR hS)
theorem zx_tsw_in {x : Int32} {tgt len : Nat} {dflt lo hi off : Int} {offs : Array Int} (d : decode y.2.1 pc = .ok (.tableswitch dflt lo hi offs, len)) (h1 : ¬ x.toInt < lo) (h2 : ¬ hi < x.toInt) (ho : offs[(x.toInt - lo).toNat]? = some off) (ht : (pc : Int) + off = (tgt : Int)) (kk : zX G y R F tgt L st h n k j) : zX G y R F pc L (.int x :: st) h n k j := by
  intro p e s m args below meth c C ls H locs hl hR hS; exact lv_tableIn C.1 C.2.1 d h1 h2 ho ht (kk p e s m args below meth c C ls H locs hl hR hS)
/-- what a field's site says: class number, place, type, final; zx_fr: to read it -/
def zx_fr (G : zx_G) (own : String) (ix ci k : Nat) : Prop := ∃ (C0 : String) (T : u_T) (N : Nat), (zx_gC G)[ci]? = some (C0, T, N) ∧ k < N ∧ (∀ w ∈ u_ws C0 T N, w ∈ zx_gW G) ∧ Cond.fieldLink own ix (T k).1 (T k).2.1 (T k).2.2.1 ∈ zx_gW G
def zx_f (G : zx_G) (own : String) (ix ci k : Nat) (ty : FieldType) (fin : Bool) : Prop := ∃ (C0 : String) (T : u_T) (N : Nat) (ty0 : Nat → FieldType), (zx_gC G)[ci]? = some (C0, T, N) ∧ k < N ∧ (∀ w ∈ u_ws C0 T N, w ∈ zx_gW G) ∧ (∀ q, q < N → parseFieldDescriptor (T q).2.2.1 = some (ty0 q)) ∧ (∀ a, a < N → ∀ b, b < N → a ≠ b → (T a).2.1 ≠ (T b).2.1) ∧ parseFieldDescriptor (T k).2.2.1 = some ty ∧ (T k).2.2.2 = fin ∧ (fin = true → (T k).1 = own) ∧ Cond.fieldLink own ix (T k).1 (T k).2.1 (T k).2.2.1 ∈ zx_gW G
theorem zx_getf {ix ci i0 a : Nat} {fs : List Value} {v : Value} (f : zx_fr G y.1.cls ix ci i0) (d : decode y.2.1 pc = .ok (.getfield ix, 3)) (e0 : pc + 3 = pc2) (he : h a = some (.inr (ci, fs))) (hv : fs[i0]? = some v) (kk : zX G y R F pc2 L (v :: st) h n k j) : zX G y R F pc L (.ref a :: st) h n k j := by
  subst e0; intro p e s m args below meth c C ls H locs hl hR hS
  have hx := C.1; have hb := C.2.1; have ho := C.2.2.2.1; have hts := C.2.2.2.2.1; have hK := C.2.2.2.2.2.1
  obtain ⟨C0, T, N, g1, g2, g3, g9⟩ := f
  exact va_get hx hb hts g3 ho hK (hR.get he) 0 rfl g1 i0 g2 (hts _ g9) (fun _ q => q) hv d (kk p e s m args below meth c C ls H locs hl hR hS)
theorem zx_putf {ix ci i0 a : Nat} {ty : FieldType} {fs : List Value} {v : Value} {h2 : zx_H} (f : zx_f G y.1.cls ix ci i0 ty false) (d : decode y.2.1 pc = .ok (.putfield ix, 3)) (e0 : pc + 3 = pc2) (he : h a = some (.inr (ci, fs))) (hn : narrow ty v = v) (hf : fits ty v = true) (hlen : i0 < fs.length) (e2 : va_up h a (some (.inr (ci, fs.set i0 v))) = h2) (kk : zX G y R F pc2 L st h2 n k j) : zX G y R F pc L (v :: .ref a :: st) h n k j := by
  subst e0; subst e2; intro p e s m args below meth c C ls H locs hl hR hS
  have hx := C.1; have hb := C.2.1; have ho := C.2.2.2.1; have hts := C.2.2.2.2.1; have hK := C.2.2.2.2.2.1
  obtain ⟨C0, T, N, ty0, g1, g2, hin, g4, g5, g6, g7, g8, g9⟩ := f
  have hap := va_apart (own := y.1.cls) hts hin ty0 g4 g5 hK g1
  obtain ⟨hba, r, h1, cell, q1, q2, q3, q4⟩ := hR.2.1 a _ he
  have hr : r = (C0, T, N) := Option.some.inj (h1.symm.trans g1)
  subst hr
  obtain ⟨hS2, hfc, kC, hkC, hkind⟩ := hK.1 ci _ g1
  obtain ⟨cf, kf, fi, fd, hi, hsl⟩ := hS2 i0 g2
  have hlay := hts _ (hin _ (u_in_lay g2))
  unfold u_lay at hlay
  rw [if_neg (by rw [g7]; decide)] at hlay
  have hst := (u_facts hfc hkC (u_lays hts hin g2) hi).1
  have h6 := u_store hfc hkC hkind hlay hi g6 hn hf
  refine W.putK hx hb (f := fd) ⟨ho, hts _ g9, ⟨_, _, _, hi⟩, hst⟩ (by rw [q2]; exact h6) q1 q3 (by rw [hsl]; exact k2_hasslot (q4 i0 g2)) rfl rfl d fun H' e1 e2 e3 => ?_
  rw [hsl] at e1 ⊢
  exact kk p e s m args below meth c C ls H' _ hl (hR.set he ⟨_, g1, t_OB.to (V := updV (vp_V fs) i0 v) ⟨_, e1, q2, q3, t_set q4 hap g2 v⟩ (fun x _ => vp_updV_set hlen v x)⟩ e2 e3) (hS.put e2 e3 hba)
/-- a final field, in its class's constructor -/
theorem zx_putF {ix ci i0 a : Nat} {ty : FieldType} {fs : List Value} {v : Value} {h2 : zx_H} (f : zx_f G y.1.cls ix ci i0 ty true) (hini : y.1.name = "<init>") (d : decode y.2.1 pc = .ok (.putfield ix, 3)) (e0 : pc + 3 = pc2) (he : h a = some (.inr (ci, fs))) (hn : narrow ty v = v) (hf : fits ty v = true) (hlen : i0 < fs.length) (e2 : va_up h a (some (.inr (ci, fs.set i0 v))) = h2) (kk : zX G y R F pc2 L st h2 n k j) : zX G y R F pc L (v :: .ref a :: st) h n k j := by
  subst e0; subst e2; intro p e s m args below meth c C ls H locs hl hR hS
  have hx := C.1; have hb := C.2.1; have ho := C.2.2.2.1; have hts := C.2.2.2.2.1; have hK := C.2.2.2.2.2.1
  have hnm := C.2.2.2.2.2.2.2.2.2.2.2.1
  obtain ⟨C0, T, N, ty0, g1, g2, hin, g4, g5, g6, g7, g8, g9⟩ := f
  have hap := va_apart (own := y.1.cls) hts hin ty0 g4 g5 hK g1
  obtain ⟨hba, r, h1, cell, q1, q2, q3, q4⟩ := hR.2.1 a _ he
  have hr : r = (C0, T, N) := Option.some.inj (h1.symm.trans g1)
  subst hr
  obtain ⟨hS2, hfc, kC, hkC, hkind⟩ := hK.1 ci _ g1
  obtain ⟨cf, kf, fi, fd, hi, hsl⟩ := hS2 i0 g2
  have hlay := hts _ (hin _ (u_in_lay g2))
  unfold u_lay at hlay
  rw [if_pos g7] at hlay
  have hst := (u_facts hfc hkC (u_lays hts hin g2) hi).1
  have hcf : m.cls = cf := by
    obtain ⟨_, _, c', _, _, _, -, -, hf', -, -, -, hown2, -⟩ := Cond.laysFinal_spec hlay
    have e1 : c' = cf := by have := hi.symm.trans hf'; simp at this; exact this.1.symm
    rw [g8 rfl] at hown2
    rw [← e1]; exact Option.some.inj (ho.symm.trans hown2)
  have h6 := u_fits hfc hkC hkind (Or.inr hlay) hi g6 hn hf
  refine W.putFinK hx hb ho (hts _ g9) hi hst hcf (hnm.trans hini) (by rw [q2]; exact h6) q1 q3 (by rw [hsl]; exact k2_hasslot (q4 i0 g2)) rfl rfl d fun H' e1 e2 e3 => ?_
  rw [hsl] at e1 ⊢
  exact kk p e s m args below meth c C ls H' _ hl (hR.set he ⟨_, g1, t_OB.to (V := updV (vp_V fs) i0 v) ⟨_, e1, q2, q3, t_set q4 hap g2 v⟩ (fun x _ => vp_updV_set hlen v x)⟩ e2 e3) (hS.put e2 e3 hba)
theorem zx_iald {a t0 N0 : Nat} {cA : ClassId} {f : Nat → Int32} {i : Int32} (d : decode y.2.1 pc = .ok (.iaload, 1)) (e0 : pc + 1 = pc2) (he : h a = some (.inl (cA, N0, .inl f))) (ht : (zx_gT G)[t0]? = some (cA, .int)) (hin : vp_in i N0) (kk : zX G y R F pc2 L (.int (f i.toNatClampNeg) :: st) h n k j) : zX G y R F pc L (.int i :: .ref a :: st) h n k j := by
  subst e0; intro p e s m args below meth c C ls H locs hl hR hS; exact va_iald C.1 C.2.1 C.2.2.2.2.2.1 (hR.get he) 0 t0 rfl ht hin d (kk p e s m args below meth c C ls H locs hl hR hS)
theorem zx_bald {a t0 N0 : Nat} {cA : ClassId} {f : Nat → Int32} {i : Int32} (d : decode y.2.1 pc = .ok (.baload, 1)) (e0 : pc + 1 = pc2) (he : h a = some (.inl (cA, N0, .inl f))) (ht : (zx_gT G)[t0]? = some (cA, .byte)) (hin : vp_in i N0) (kk : zX G y R F pc2 L (.int (f i.toNatClampNeg) :: st) h n k j) : zX G y R F pc L (.int i :: .ref a :: st) h n k j := by
  subst e0; intro p e s m args below meth c C ls H locs hl hR hS; exact va_bald C.1 C.2.1 C.2.2.2.2.2.1 (hR.get he) 0 t0 rfl ht hin d (kk p e s m args below meth c C ls H locs hl hR hS)
theorem zx_zald {a t0 N0 : Nat} {cA : ClassId} {f : Nat → Int32} {i : Int32} (d : decode y.2.1 pc = .ok (.baload, 1)) (e0 : pc + 1 = pc2) (he : h a = some (.inl (cA, N0, .inl f))) (ht : (zx_gT G)[t0]? = some (cA, .boolean)) (hin : vp_in i N0) (kk : zX G y R F pc2 L (.int (f i.toNatClampNeg) :: st) h n k j) : zX G y R F pc L (.int i :: .ref a :: st) h n k j := by
  subst e0; intro p e s m args below meth c C ls H locs hl hR hS; exact va_zald C.1 C.2.1 C.2.2.2.2.2.1 (hR.get he) 0 t0 rfl ht hin d (kk p e s m args below meth c C ls H locs hl hR hS)
theorem zx_lald {a t0 N0 : Nat} {cA : ClassId} {f : Nat → Int64} {i : Int32} (d : decode y.2.1 pc = .ok (.laload, 1)) (e0 : pc + 1 = pc2) (he : h a = some (.inl (cA, N0, .inr (.inl f)))) (ht : (zx_gT G)[t0]? = some (cA, .long)) (hin : vp_in i N0) (kk : zX G y R F pc2 L (.long (f i.toNatClampNeg) :: st) h n k j) : zX G y R F pc L (.int i :: .ref a :: st) h n k j := by
  subst e0; intro p e s m args below meth c C ls H locs hl hR hS; exact va_lald C.1 C.2.1 C.2.2.2.2.2.1 (hR.get he) 0 t0 rfl ht hin d (kk p e s m args below meth c C ls H locs hl hR hS)
theorem zx_aald {a t0 N0 x : Nat} {cA : ClassId} {f : Nat → Option Nat} {C0 : String} {i : Int32} (d : decode y.2.1 pc = .ok (.aaload, 1)) (e0 : pc + 1 = pc2) (he : h a = some (.inl (cA, N0, .inr (.inr (.inr (.inr f)))))) (ht : (zx_gT G)[t0]? = some (cA, .object C0)) (hin : vp_in i N0) (hx : f i.toNatClampNeg = some x) (kk : zX G y R F pc2 L (.ref x :: st) h n k j) : zX G y R F pc L (.int i :: .ref a :: st) h n k j := by
  subst e0; intro p e s m args below meth c C ls H locs hl hR hS
  have kk' := kk p e s m args below meth c C ls H locs hl hR hS
  refine va_aldq C.1 C.2.1 C.2.2.2.2.2.1 (hR.get he) 0 t0 rfl ht hin d ?_
  rw [hx]
  exact kk'
theorem zx_alen {a t0 : Nat} {cA : ClassId} {x : vp_A} {ty : FieldType} {v : Int32} (d : decode y.2.1 pc = .ok (.arraylength, 1)) (e0 : pc + 1 = pc2) (he : h a = some (.inl (cA, x))) (ht : (zx_gT G)[t0]? = some (cA, ty)) (hv : Int32.ofNat x.1 = v) (kk : zX G y R F pc2 L (.int v :: st) h n k j) : zX G y R F pc L (.ref a :: st) h n k j := by
  subst e0; intro p e s m args below meth c C ls H locs hl hR hS; exact va_alen C.1 C.2.1 C.2.2.2.2.2.1 (hR.get he) 0 t0 rfl ht hv d (kk p e s m args below meth c C ls H locs hl hR hS)
theorem zx_iast {a t0 N0 : Nat} {cA : ClassId} {f : Nat → Int32} {i : Int32} {x : Int32} {h2 : zx_H} (d : decode y.2.1 pc = .ok (.iastore, 1)) (e0 : pc + 1 = pc2) (he : h a = some (.inl (cA, N0, .inl (f)))) (ht : (zx_gT G)[t0]? = some (cA, .int)) (hin : vp_in i N0) (e2 : va_up h a (some (.inl (cA, N0, .inl (upd f i.toNatClampNeg x)))) = h2) (kk : zX G y R F pc2 L st h2 n k j) : zX G y R F pc L (.int x :: .int i :: .ref a :: st) h n k j := by
  subst e0; subst e2; intro p e s m args below meth c C ls H locs hl hR hS
  have hK := C.2.2.2.2.2.1
  obtain ⟨hba, hat⟩ := hR.2.1 a _ he
  refine W.iast C.1 C.2.1 hat ((hK.2 t0 _ ht).1 N0 (fun q => .int (f q))) (fun q => by cases q) (by show ¬ (i < 0 ∨ (arrV _ _ _).slots.size ≤ _); rw [arrV_size]; exact hin) rfl rfl d fun H1 e1 z oq => ?_
  refine kk p e s m args below meth c C ls H1 _ hl (hR.set he ?_ z oq) (hS.put z oq hba)
  show H1[a]? = some (vp_cell _ _)
  rw [e1]
  rw [vp_cell_i, vp_cell_i, arrV_store]
  congr 2
  funext q
  by_cases hq : q = i.toNatClampNeg
  · subst hq
    simp [updV, upd]
  · simp [updV, upd, hq]
theorem zx_bast {a t0 N0 : Nat} {cA : ClassId} {f : Nat → Int32} {i : Int32} {x : Int32} {h2 : zx_H} (d : decode y.2.1 pc = .ok (.bastore, 1)) (e0 : pc + 1 = pc2) (he : h a = some (.inl (cA, N0, .inl (f)))) (ht : (zx_gT G)[t0]? = some (cA, .byte)) (hin : vp_in i N0) (e2 : va_up h a (some (.inl (cA, N0, .inl (upd f i.toNatClampNeg (vp_nar .byte x))))) = h2) (kk : zX G y R F pc2 L st h2 n k j) : zX G y R F pc L (.int x :: .int i :: .ref a :: st) h n k j := by
  subst e0; subst e2; intro p e s m args below meth c C ls H locs hl hR hS
  have hK := C.2.2.2.2.2.1
  obtain ⟨hba, hat⟩ := hR.2.1 a _ he
  refine W.bast C.1 C.2.1 hat ((hK.2 t0 _ ht).1 N0 (fun q => .int (f q))) (fun q => by cases q) (by show ¬ (i < 0 ∨ (arrV _ _ _).slots.size ≤ _); rw [arrV_size]; exact hin) rfl rfl d fun H1 e1 z oq => ?_
  refine kk p e s m args below meth c C ls H1 _ hl (hR.set he ?_ z oq) (hS.put z oq hba)
  show H1[a]? = some (vp_cell _ _)
  rw [e1]
  rw [vp_cell_i, vp_cell_i, arrV_store]
  congr 2
  funext q
  by_cases hq : q = i.toNatClampNeg
  · subst hq
    simp [updV, upd, vp_nar]; try rfl
  · simp [updV, upd, vp_nar, hq]
theorem zx_zast {a t0 N0 : Nat} {cA : ClassId} {f : Nat → Int32} {i : Int32} {x : Int32} {h2 : zx_H} (d : decode y.2.1 pc = .ok (.bastore, 1)) (e0 : pc + 1 = pc2) (he : h a = some (.inl (cA, N0, .inl (f)))) (ht : (zx_gT G)[t0]? = some (cA, .boolean)) (hin : vp_in i N0) (e2 : va_up h a (some (.inl (cA, N0, .inl (upd f i.toNatClampNeg (vp_nar .boolean x))))) = h2) (kk : zX G y R F pc2 L st h2 n k j) : zX G y R F pc L (.int x :: .int i :: .ref a :: st) h n k j := by
  subst e0; subst e2; intro p e s m args below meth c C ls H locs hl hR hS
  have hK := C.2.2.2.2.2.1
  obtain ⟨hba, hat⟩ := hR.2.1 a _ he
  refine W.zast C.1 C.2.1 hat ((hK.2 t0 _ ht).1 N0 (fun q => .int (f q))) (fun q => by cases q) (by show ¬ (i < 0 ∨ (arrV _ _ _).slots.size ≤ _); rw [arrV_size]; exact hin) rfl rfl d fun H1 e1 z oq => ?_
  refine kk p e s m args below meth c C ls H1 _ hl (hR.set he ?_ z oq) (hS.put z oq hba)
  show H1[a]? = some (vp_cell _ _)
  rw [e1]
  rw [vp_cell_i, vp_cell_i, arrV_store]
  congr 2
  funext q
  by_cases hq : q = i.toNatClampNeg
  · subst hq
    simp [updV, upd, vp_nar]; try rfl
  · simp [updV, upd, vp_nar, hq]
theorem zx_last {a t0 N0 : Nat} {cA : ClassId} {f : Nat → Int64} {i : Int32} {x : Int64} {h2 : zx_H} (d : decode y.2.1 pc = .ok (.lastore, 1)) (e0 : pc + 1 = pc2) (he : h a = some (.inl (cA, N0, .inr (.inl (f))))) (ht : (zx_gT G)[t0]? = some (cA, .long)) (hin : vp_in i N0) (e2 : va_up h a (some (.inl (cA, N0, .inr (.inl (vp_updL f i.toNatClampNeg x))))) = h2) (kk : zX G y R F pc2 L st h2 n k j) : zX G y R F pc L (.long x :: .int i :: .ref a :: st) h n k j := by
  subst e0; subst e2; intro p e s m args below meth c C ls H locs hl hR hS
  have hK := C.2.2.2.2.2.1
  obtain ⟨hba, hat⟩ := hR.2.1 a _ he
  refine W.last C.1 C.2.1 hat ((hK.2 t0 _ ht).1 N0 (fun q => .long (f q))) (fun q => by cases q) (by show ¬ (i < 0 ∨ (arrV _ _ _).slots.size ≤ _); rw [arrV_size]; exact hin) rfl rfl d fun H1 e1 z oq => ?_
  refine kk p e s m args below meth c C ls H1 _ hl (hR.set he ?_ z oq) (hS.put z oq hba)
  show H1[a]? = some (vp_cell _ _)
  rw [e1]
  rw [vp_cell_l, vp_cell_l, arrV_store]
  congr 2
  funext q
  by_cases hq : q = i.toNatClampNeg
  · subst hq
    simp [updV, vp_updL]
  · simp [updV, vp_updL, hq]
theorem zx_aast {a t0 N0 ci v : Nat} {cA : ClassId} {f : Nat → Option Nat} {r : vw_C} {vs : List Value} {i : Int32} {h2 : zx_H} (d : decode y.2.1 pc = .ok (.aastore, 1)) (e0 : pc + 1 = pc2) (he : h a = some (.inl (cA, N0, .inr (.inr (.inr (.inr f)))))) (ht : (zx_gT G)[t0]? = some (cA, .object r.1)) (hv : h v = some (.inr (ci, vs))) (hc : (zx_gC G)[ci]? = some r) (hin : vp_in i N0) (e2 : va_up h a (some (.inl (cA, N0, .inr (.inr (.inr (.inr (va_up f i.toNatClampNeg (some v)))))))) = h2) (kk : zX G y R F pc2 L st h2 n k j) : zX G y R F pc L (.ref v :: .int i :: .ref a :: st) h n k j := by
  subst e0; subst e2; intro p e s m args below meth c C ls H locs hl hR hS
  have hK := C.2.2.2.2.2.1
  obtain ⟨hba, hat⟩ := hR.2.1 a _ he
  have hlt : i.toNatClampNeg < N0 := Nat.not_le.mp fun q => hin (Or.inr q)
  have h0 : ¬ i < 0 := fun q => hin (Or.inl q)
  obtain ⟨-, r', hr', cellV, g1, g2, g3, -⟩ := hR.2.1 v _ hv
  have hcls := (hK.1 ci r hc).2
  obtain ⟨kA, comp, k1, k2, k3, -⟩ := (hK.2 t0 _ ht).2
  have hcomp : comp = (zx_gD G).1 ci := Option.some.inj (k3.symm.trans hcls.1)
  subst hcomp
  obtain ⟨kC, hkC, -⟩ := hcls.2
  refine W.aast C.1 C.2.1 hat (fun q h => by cases h) (fun h => by cases h) k1 k2 rfl hkC ⟨h0, by show _ < (arrV _ _ _).slots.size; rw [arrV_size]; exact hlt⟩ g1 (fun q h => by rw [g3] at h; cases h) (by rw [g2]; exact hkC) (by rw [g2]; exact va_assign hcls) rfl rfl d fun H1 e1 z oq => ?_
  refine kk p e s m args below meth c C ls H1 _ hl (hR.set he ?_ z oq) (hS.put z oq hba)
  show H1[a]? = some (vp_cell _ _)
  rw [e1]
  rw [vp_cell_q, vp_cell_q, arrV_store]
  congr 2
  funext q
  by_cases hq : q = i.toNatClampNeg
  · subst hq
    simp [updV, va_up, va_rf]
  · simp [updV, va_up, hq]
theorem zx_newa {at0 : ArrayType} {t0 N0 : Nat} {cA : ClassId} {ty : FieldType} {a0 : vp_A} {i : Int32} (d : decode y.2.1 pc = .ok (.newarray at0, 2)) (e0 : pc + 2 = pc2) (hw : Cond.arrayClass ty ∈ zx_gW G) (hty : newarray.typeOf at0 = ty) (ht : (zx_gT G)[t0]? = some (cA, ty)) (hpr : ∀ C0, ty ≠ .object C0) (ha : ∀ cA : ClassId, vp_cell cA a0 = arrV cA N0 (fun _ => defaultValue ty)) (hn0 : ¬ i < 0) (hN : i.toNatClampNeg = N0) (hby : N0 * componentBytes ty ≤ 536870912) (hc1 : k + 1 ≤ R.cells) (hc2 : j + N0 ≤ R.slots) (kk : zX G y R F pc2 L (.ref n :: st) (va_up h n (some (.inl (cA, a0)))) (n + 1) (k + 1) (j + N0)) : zX G y R F pc L (.int i :: st) h n k j := by
  subst e0; subst hty; intro p e s m args below meth c C ls H locs hl hR hS
  have hK := C.2.2.2.2.2.1; have hts := C.2.2.2.2.1; have hbs := C.2.2.2.2.2.2.1
  obtain ⟨hsz, hcell, -⟩ := id hR
  refine va_newaK C.1 C.2.1 (hts _ hw) rfl d rfl hn0 hN hby hc1 hc2 hsz fun H1 cA' e1 z1 o1 hAr hNm => ?_
  have hcA : cA' = cA := by
    have h2 := (hK.2 t0 _ ht).2
    have h3 : s.vm.findClass ("[" ++ (newarray.typeOf at0).toString) = some cA := by
      cases at0 <;> exact h2
    exact Option.some.inj (hNm.symm.trans h3)
  subst hcA
  have hbn : zx_gB G ≤ n := by rw [← hsz]; exact Nat.le_trans hbs hS.1
  refine kk p e s m args below meth c C ls H1 locs hl (hR.push hbn ?_ z1 o1) ⟨Nat.le_trans hS.1 (by omega), fun x h1 h2 => (o1 x (Nat.lt_of_lt_of_le h1 (by rw [← hsz]; exact hS.1))).trans (hS.2.1 x h1 h2), hS.2.2⟩
  show H1[n]? = some (vp_cell _ _)
  rw [ha]
  exact e1
theorem zx_newq {ix t0 N0 : Nat} {cA : ClassId} {C0 : String} {i : Int32} (d : decode y.2.1 pc = .ok (.anewarray ix, 3)) (e0 : pc + 3 = pc2) (hw : Cond.classLink y.1.cls ix C0 ∈ zx_gW G) (hover : ∀ U, zx_gZ G U → va_AO C0 U) (ht : (zx_gT G)[t0]? = some (cA, .object C0)) (hn0 : ¬ i < 0) (hN : i.toNatClampNeg = N0) (hby : N0 * 4 ≤ 536870912) (hc1 : k + 1 ≤ R.cells) (hc2 : j + N0 ≤ R.slots) (kk : zX G y R F pc2 L (.ref n :: st) (va_up h n (some (.inl (cA, N0, .inr (.inr (.inr (.inr (fun _ => none)))))))) (n + 1) (k + 1) (j + N0)) : zX G y R F pc L (.int i :: st) h n k j := by
  subst e0; subst hN; intro p e s m args below meth c C ls H locs hl hR hS
  have hK := C.2.2.2.2.2.1; have hts := C.2.2.2.2.1; have hbs := C.2.2.2.2.2.2.1; have hZ := C.2.2.2.2.2.2.2.1; have ho := C.2.2.2.1
  obtain ⟨hsz, hcell, -⟩ := id hR
  subst hsz
  refine W.anew C.1 C.2.1 ho (hts _ hw) (va_AO.use (hover s hZ)) rfl d rfl hn0 hby hc1 hc2 fun cA' kA comp f1 f2 f3 f4 => ?_
  have hcA : cA' = cA := by
    obtain ⟨kA', comp', -, -, -, h2⟩ := (hK.2 t0 _ ht).2
    exact Option.some.inj (f1.symm.trans h2)
  subst hcA
  generalize hH1 : H.push ({ cls := cA', slots := Array.replicate i.toNatClampNeg .null, vm := .none } : Cell) = H1
  have z1 : H1.size = H.size + 1 := by rw [← hH1, Array.size_push]
  have e1 : H1[H.size]? = some (arrV cA' i.toNatClampNeg (fun _ => .null)) := by rw [← hH1, Array.getElem?_push_size, ← arrV_new]
  have o1 : ∀ q : Nat, q < H.size → H1[q]? = H[q]? := fun q hq => by rw [← hH1, Array.getElem?_push, if_neg (Nat.ne_of_lt hq)]
  have hbn : zx_gB G ≤ H.size := Nat.le_trans hbs hS.1
  refine kk p e s m args below meth c C ls H1 locs hl (hR.push hbn ?_ z1 o1) ⟨Nat.le_trans hS.1 (by omega), fun x h1 h2 => (o1 x (Nat.lt_of_lt_of_le h1 hS.1)).trans (hS.2.1 x h1 h2), hS.2.2⟩
  show H1[H.size]? = some (vp_cell _ _)
  rw [vp_cell_q]
  exact e1
theorem zx_new {ix ci N0 : Nat} {C0 : String} {T : u_T} {ty0 : Nat → FieldType} {fs : List Value} (d : decode y.2.1 pc = .ok (.new ix, 3)) (e0 : pc + 3 = pc2) (hc : (zx_gC G)[ci]? = some (C0, T, N0)) (hw : ∀ w ∈ u_ws C0 T N0, w ∈ zx_gW G) (hty : ∀ q, q < N0 → parseFieldDescriptor (T q).2.2.1 = some (ty0 q)) (hfs : ∀ q, q < N0 → defaultValue (ty0 q) = vp_V fs q) (h1 : Cond.classLink y.1.cls ix C0 ∈ zx_gW G) (h2 : Cond.instantiable C0 N0 ∈ zx_gW G) (h3 : Cond.initialized C0 ∈ zx_gW G) (hc1 : k + 1 ≤ R.cells) (hc2 : j + N0 ≤ R.slots) (kk : zX G y R F pc2 L (.ref n :: st) (va_up h n (some (.inr (ci, fs)))) (n + 1) (k + 1) (j + N0)) : zX G y R F pc L st h n k j := by
  subst e0; intro p e s m args below meth c C ls H locs hl hR hS
  have hK := C.2.2.2.2.2.1; have hts := C.2.2.2.2.1; have hbs := C.2.2.2.2.2.2.1; have ho := C.2.2.2.1
  have hin : ∀ w ∈ u_ws C0 T N0, w ∈ zx_gW G := hw
  obtain ⟨hsz, hcell, -⟩ := id hR
  have hKn := hK.1 ci _ hc
  refine W.newcK C.1 C.2.1 ho (hts _ h1) (hts _ h2) (hts _ h3) rfl d hc1 hc2 hKn.2.1 hsz fun H1 kC hkC e1 z1 o1 => ?_
  have hbn : zx_gB G ≤ n := by rw [← hsz]; exact Nat.le_trans hbs hS.1
  refine kk p e s m args below meth c C ls H1 locs hl (hR.push hbn ⟨_, hc, (u_born ty0 hts hin hKn hkC e1 hty).to hfs⟩ z1 o1) ⟨Nat.le_trans hS.1 (by omega), fun x h1 h2 => (o1 x (Nat.lt_of_lt_of_le h1 (by rw [← hsz]; exact hS.1))).trans (hS.2.1 x h1 h2), hS.2.2⟩
theorem zx_objInit {ix a : Nat} (d : decode y.2.1 pc = .ok (.invokespecial ix, 3)) (e0 : pc + 3 = pc2) (h1 : Cond.methodLink y.1.cls ix objectInit ∈ zx_gW G) (h2 : Cond.instanceMethod objectInit ∈ zx_gW G) (h3 : Cond.code objectInit ⟨#[0xb1]⟩ 1 none ∈ zx_gW G) (hf : 1 ≤ R.frames) (hlc : (st.map fun v => v.category).sum + 12 ≤ R.locals) (kk : zX G y R F pc2 L st h n k j) : zX G y R F pc L (.ref a :: st) h n k j := by
  subst e0; intro p e s m args below meth c C ls H locs hl hR hS
  have hts := C.2.2.2.2.1
  exact W.objInit C.1 C.2.1 C.2.2.2.1 (hts _ h1) (hts _ h2) (hts _ h3) rfl (by rw [C.2.2.1]; exact hl.1) rfl d hf (by show 2 * 0 + _ + 12 ≤ _; omega) (kk p e s m args below meth c C ls H locs hl hR hS)
theorem zx_widen {k2 j2 : Nat} (h1 : k ≤ k2) (h2 : j ≤ j2) (kk : zX G y R F pc L st h n k2 j2) : zX G y R F pc L st h n k j := by
  intro p e s m args below meth c C ls H locs hl hR hS; exact W.widen h1 h2 (kk p e s m args below meth c C ls H locs hl hR hS)
end ZX
section ZR
variable {G : zx_G} {y : zx_Y} {R : Room} {post : Option Value → zx_H → Nat → Prop} {pc : Nat} {L : zx_L} {h : zx_H} {n k j : Nat}
theorem zx_end {s t : State} {H : Heap} {locs : List Loc} {r : Option Value} {as : Array Value} (hp : post r h n) (hR : zx_R (zx_gD G) (zx_gC G) (zx_gB G) h n H) (hS : va_S (zx_A G) s.heap H locs) (ht : t.heap = H) : zx_Q G post as s (.returned r) t := ⟨⟨r, h, n, rfl, hp, by rw [ht]; exact hR⟩, hS.F ht⟩
theorem zx_vret (d : decode y.2.1 pc = .ok (.return_, 1)) (hr : y.2.2.2.1 = none) (hp : post none h n) : zX G y R (zx_F G k j post) pc L [] h n k j := by
  intro p e s m args below meth c C ls H locs hl hR hS
  have hlk := C.2.2.2.2.2.2.2.2.2.2.1
  exact W.vret C.1 C.2.1 (C.2.2.2.2.2.2.2.2.2.1.trans hr) (fun t ht _ => zx_end hp hR hS ht) hS.2.2 d hlk
theorem zx_iret {v : Int32} (d : decode y.2.1 pc = .ok (.ireturn, 1)) (hr : y.2.2.2.1 = some .int) (hp : post (some (.int v)) h n) : zX G y R (zx_F G k j post) pc L [.int v] h n k j := by
  intro p e s m args below meth c C ls H locs hl hR hS
  have hlk := C.2.2.2.2.2.2.2.2.2.2.1
  exact W.iret C.1 C.2.1 (C.2.2.2.2.2.2.2.2.2.1.trans hr) (fun t ht _ => zx_end hp hR hS ht) hS.2.2 d hlk
theorem zx_zret {v : Int32} {ty : FieldType} (d : decode y.2.1 pc = .ok (.ireturn, 1)) (hr : y.2.2.2.1 = some ty) (hn : narrow ty (.int v) = .int v) (hp : post (some (.int v)) h n) : zX G y R (zx_F G k j post) pc L [.int v] h n k j := by
  intro p e s m args below meth c C ls H locs hl hR hS
  have hlk := C.2.2.2.2.2.2.2.2.2.2.1
  exact W.zret C.1 C.2.1 (C.2.2.2.2.2.2.2.2.2.1.trans hr) hn (fun t ht _ => zx_end hp hR hS ht) hS.2.2 d hlk
theorem zx_lret {v : Int64} (d : decode y.2.1 pc = .ok (.lreturn, 1)) (hr : y.2.2.2.1 = some .long) (hp : post (some (.long v)) h n) : zX G y R (zx_F G k j post) pc L [.long v] h n k j := by
  intro p e s m args below meth c C ls H locs hl hR hS
  have hlk := C.2.2.2.2.2.2.2.2.2.2.1
  exact W.lret C.1 C.2.1 (C.2.2.2.2.2.2.2.2.2.1.trans hr) (fun t ht _ => zx_end hp hR hS ht) hS.2.2 d hlk
theorem zx_aret {v : Value} {C0 : String} (d : decode y.2.1 pc = .ok (.areturn, 1)) (hr : y.2.2.2.1 = some (.object C0)) (hv : v = .null ∨ ∃ a, v = .ref a) (hp : post (some v) h n) : zX G y R (zx_F G k j post) pc L [v] h n k j := by
  intro p e s m args below meth c C ls H locs hl hR hS
  have hlk := C.2.2.2.2.2.2.2.2.2.2.1
  exact W.aret C.1 C.2.1 (C.2.2.2.2.2.2.2.2.2.1.trans hr) (Or.inl ⟨_, rfl⟩) hv (fun t ht _ => zx_end hp hR hS ht) hS.2.2 d hlk
/-- the entry -/
theorem zx_entry {rm : Room} {av : List Value} (hh : y.2.2.2.2 = []) (hy : plainName y.1.cls = true) (hlen : (lg_sl av).length ≤ y.2.2.1) (h1 : L.length = y.2.2.1) (h2 : zx_ps L = lv_args 0 av) (kk : zX G y rm (zx_F G rm.cells rm.slots post) 0 L [] h n 0 0) : zM G y rm av h n post := by
  refine Met.ofW (cc := y.2.1) (maxL := y.2.2.1) (ret := y.2.2.2.1) hy rfl ?_
  intro p e s m args below meth c s₁ B hml hv
  obtain ⟨rfl, hR, hbn, hK, hZ, hZk⟩ := hv
  have hts := atoms_spec (ws := zx_c y :: zx_gW G) B.pre
  have hown : s.vm.findClass y.1.cls = some m.cls := findClass_of_methodNamed B.named
  have hnm : meth.name = y.1.name := (name_of_methodNamed B.named B.method).1
  have hl := lv_entry av (n := y.2.2.1) hlen
  rw [lg_entry_eq]
  refine kk p e s m _ below meth c ⟨B.exec, B.bytes, hml, hown, fun w hw => hts w (List.mem_cons_of_mem _ hw), hK, ?_, hZ, hZk, B.returns, B.notSynchronized, hnm, ?_⟩ _ s.heap [] ⟨hl.1, h1, hl.2.1, fun i v q => hl.2.2 (i, v) ?_⟩ hR va_S.rf
  · rw [hR.1]; exact hbn
  · have h0 := B.noHandlers (hts _ List.mem_cons_self)
    have h1 : c.exceptionTable.size = 0 := by simpa [Array.isEmpty] using h0
    have h2 : c.exceptionTable.toList = [] := List.eq_nil_of_length_eq_zero (by simpa using h1)
    rw [h2, hh]; rfl
  · rw [← h2]; exact zx_ps_mem.mpr q
end ZR
/-! calls -/
def zx_ok (w : Cond) : Prop := (w.onTables && w.keeps) = true ∨ ∃ ty, w = .arrayClass ty
theorem zx_good {ws : List Cond} {c1 : Cond} (hw : ∀ w ∈ ws, zx_ok w) (h1 : c1 ∈ ws) : GoodIn ws (c1 :: ws) := by
  intro w h
  rcases List.mem_cons.mp h with rfl | h
  · exact ⟨h1, hw _ h1⟩
  · exact ⟨h, hw w h⟩
theorem zx_blind {G : zx_G} {av : List Value} {h : zx_H} {n : Nat} : FrameBlind (va_Pc av (zx_P G h n)) := by
  intro a U g mk hq
  obtain ⟨h0, hR, hb, hK, hZ, hZk⟩ := hq
  refine ⟨h0, hR, hb, va_K.moved (u := U) (U := U.calling g mk a) (Vm.Alike.refl U.vm) hK, ?_, hZk⟩
  exact hZk U (U.calling g mk a) (State.WarmedH.refl U) (by rw [hR.1]; exact hb) (fun _ _ => rfl) hZ
theorem zx_pre {G : zx_G} {y : zx_Y} {p : Program} {s U : State} {m : MethodId} {args : Array Value} {meth : Method} {c : Code} {H : Heap} {locs : List Loc} {av : List Value} {h : zx_H} {n : Nat} (C : zx_C G y p s m args meth c) (hR : zx_R (zx_gD G) (zx_gC G) (zx_gB G) h n H) (hS : va_S (zx_A G) s.heap H locs) (hU : U.heap = H) (hW : s.WarmedH U.vm) : va_Pc av (zx_P G h n) av.toArray U := by
  have hK := C.2.2.2.2.2.1; have hB := C.2.2.2.2.2.2.1; have hZ := C.2.2.2.2.2.2.2.1; have hZk := C.2.2.2.2.2.2.2.2.1
  refine ⟨rfl, by rw [hU]; exact hR, ?_, va_K.moved hW.alike hK, ?_, hZk⟩
  · rw [← hR.1]; exact Nat.le_trans hB hS.1
  · exact hZk s U hW hB (fun q hq => by rw [hU]; exact hS.2.1 q (Nat.lt_of_lt_of_le hq hB) (Nat.not_le.mpr hq)) hZ
theorem zx_run {G : zx_G} {p : Program} {e : Env} {R : Room} {s : State} {m : MethodId} {args a : Array Value} {below : List Frame} {meth : Method} {c : Code} {H : Heap} {locs : List Loc} {k j mc ms pc : Nat} {ls : Array Slot} {st0 rest : List Value} {post : Option Value → zx_H → Nat → Prop} {Q : State → Prop}
    (hr : va_Run p (zx_gL G) e R s m args below meth c H locs k j mc ms (F0 m pc ls st0) rest (zx_Q G post a) (zx_A G)) (hS : va_S (zx_A G) s.heap H locs)
    (kk : ∀ (r : Option Value) (h' : zx_H) (n' : Nat) (H' : Heap) (locs' : List Loc), post r h' n' → zx_R (zx_gD G) (zx_gC G) (zx_gB G) h' n' H' → va_S (zx_A G) s.heap H' locs' → W p (zx_gL G) e R s m args below meth c H' locs' (k + mc) (j + ms) Q (F0 m (pc + 3) ls (r.toList ++ rest))) :
    W p (zx_gL G) e R s m args below meth c H locs k j Q (F0 m pc ls st0) := by
  intro T hT X
  obtain ⟨v, st₀, t, T', L, h0, X', hL, e1, e2, ⟨⟨r, h', n', hv, hp, hR'⟩, hz, hk⟩, st⟩ := hr T hT X
  cases hv
  rw [h0] at hz hk
  obtain ⟨t2, a1, b1⟩ := kk v h' n' T'.heap (locs ++ L) hp (by rw [e1]; exact hR')
    ⟨Nat.le_trans hS.1 (by rw [e1]; exact hz), fun q h1 h2 => by rw [e1, hk q (Nat.lt_of_lt_of_le h1 hS.1) h2]; exact hS.2.1 q h1 h2, fun q hq => by
      rcases List.mem_append.mp hq with h | h
      · exact hS.2.2 q h
      · exact hL q h⟩ T' rfl X'
  exact ⟨t2, st t2 a1, b1⟩
/-- a call's site: the callee's words, and how it is linked -/
def zx_s (G : zx_G) (own : String) (ix : Nat) (y : zx_Y) (np : Nat) : Prop := (∀ w ∈ zx_gW G, zx_ok w) ∧ zx_c y ∈ zx_gW G ∧ Cond.initialized y.1.cls ∈ zx_gW G ∧ (y.1.cls ≠ "java/lang/invoke/MethodHandle" ∧ y.1.cls ≠ "java/lang/invoke/VarHandle" ∧ (parseMethodDescriptor y.1.desc).map (fun d => d.parameters.length) = some np) ∧
  (Cond.methodLink own ix y.1 ∈ zx_gW G ∨ ∃ host, ∀ U, zx_gZ G U → va_Nw (.methodLinkNest own ix y.1 host) U)
section ZCALL
variable {G : zx_G} {y y1 : zx_Y} {R rm : Room} {F : List Frame → Array Value → State → State → Prop} {pc pc2 ix np : Nat} {L : zx_L} {st0 av rest : List Value} {h : zx_H} {n k j : Nat} {post : Option Value → zx_H → Nat → Prop}
theorem zx_callS (f : zx_s G y.1.cls ix y1 np) (fs : Cond.static y1.1 ∈ zx_gW G) (hM : zM G y1 rm av h n post) (d : decode y.2.1 pc = .ok (.invokestatic ix, 3)) (e0 : pc + 3 = pc2) (hst : st0 = av.reverse ++ rest) (hnp : av.length = np) (hsum : (rest.map fun v => v.category).sum ≤ 8) (hfr : rm.frames + 1 ≤ R.frames) (hlo : 8 + (y1.2.2.1 + 11) + rm.locals ≤ R.locals) (hc1 : k + rm.cells ≤ R.cells) (hc2 : j + rm.slots ≤ R.slots)
    (kk : ∀ r h' n', post r h' n' → zX G y R F pc2 L (r.toList ++ rest) h' n' (k + rm.cells) (j + rm.slots)) : zX G y R F pc L st0 h n k j := by
  subst e0; subst hst; intro p e s m args below meth c C ls H locs hl hR hS
  have hx := C.1; have hb := C.2.1; have hml := C.2.2.1; have ho := C.2.2.2.1; have hts := C.2.2.2.2.1; have hZ := C.2.2.2.2.2.2.2.1
  obtain ⟨f1, f2, f3, f4, f5⟩ := f
  have hG : GoodIn (zx_gW G) (zx_c y1 :: zx_gW G) := zx_good f1 f2
  have hp : PreS s H (va_Pc av (zx_P G h n)) av := ⟨zx_blind, fun U hU hW => zx_pre C hR hS hU hW⟩
  have hini := hts _ f3
  have hstt := hts _ fs
  have go := fun (r : Option Value) (h' : zx_H) (n' : Nat) (H' : Heap) (locs' : List Loc) (hp' : post r h' n') (hR' : zx_R (zx_gD G) (zx_gC G) (zx_gB G) h' n' H') (hS' : va_S (zx_A G) s.heap H' locs') => kk r h' n' hp' p e s m args below meth c C ls H' locs' hl hR' hS'
  rcases f5 with f5 | ⟨host, f5⟩
  · exact zx_run (va_runS (nL := y.2.2.1) ⟨hx, hb, hml, ho, hts⟩ hM ⟨callB_of np hts hG rfl rfl rfl hini (hts _ f5) f4 ⟨hfr, hlo⟩, hstt⟩ hp rfl hnp hl.1 rfl (lv_room hsum) d ⟨hc1, hc2⟩) hS go
  · exact zx_run (va_runSN (nL := y.2.2.1) ⟨hx, hb, hml, ho, hts⟩ hM ⟨va_cnB np hts hG rfl rfl rfl (f5 s hZ) hini f4 ⟨hfr, hlo⟩, hstt, trivial⟩ hp rfl hnp hl.1 rfl (lv_room hsum) d ⟨hc1, hc2⟩) hS go
theorem zx_callI {b : Nat} (f : zx_s G y.1.cls ix y1 np) (fs : y1.1.name = "<init>" ∧ y1.2.2.2.1 = none ∧ Cond.instanceMethod y1.1 ∈ zx_gW G) (hM : zM G y1 rm (.ref b :: av) h n post) (d : decode y.2.1 pc = .ok (.invokespecial ix, 3)) (e0 : pc + 3 = pc2) (hst : st0 = av.reverse ++ .ref b :: rest) (hnp : av.length = np) (hsum : (rest.map fun v => v.category).sum ≤ 8) (hfr : rm.frames + 1 ≤ R.frames) (hlo : 8 + (y1.2.2.1 + 11) + rm.locals ≤ R.locals) (hc1 : k + rm.cells ≤ R.cells) (hc2 : j + rm.slots ≤ R.slots)
    (kk : ∀ r h' n', post r h' n' → zX G y R F pc2 L (r.toList ++ rest) h' n' (k + rm.cells) (j + rm.slots)) : zX G y R F pc L st0 h n k j := by
  subst e0; subst hst; intro p e s m args below meth c C ls H locs hl hR hS
  have hx := C.1; have hb := C.2.1; have hml := C.2.2.1; have ho := C.2.2.2.1; have hts := C.2.2.2.2.1; have hZ := C.2.2.2.2.2.2.2.1
  obtain ⟨f1, f2, f3, f4, f5⟩ := f
  obtain ⟨g1, g2, g3⟩ := fs
  have hG : GoodIn (zx_gW G) (zx_c y1 :: zx_gW G) := zx_good f1 f2
  obtain ⟨yn, ycc, yl, yr, yh⟩ := y1
  dsimp only at g2; subst g2
  have hp : PreS s H (va_Pc (.ref b :: av) (zx_P G h n)) (.ref b :: av) := ⟨zx_blind, fun U hU hW => zx_pre C hR hS hU hW⟩
  have hini := hts _ f3
  have hins := hts _ g3
  have go := fun (r : Option Value) (h' : zx_H) (n' : Nat) (H' : Heap) (locs' : List Loc) (hp' : post r h' n') (hR' : zx_R (zx_gD G) (zx_gC G) (zx_gB G) h' n' H') (hS' : va_S (zx_A G) s.heap H' locs') => kk r h' n' hp' p e s m args below meth c C ls H' locs' hl hR' hS'
  rcases f5 with f5 | ⟨host, f5⟩
  · exact zx_run (va_runI (nL := y.2.2.1) ⟨hx, hb, hml, ho, hts⟩ hM ⟨callB_of np hts hG rfl rfl rfl hini (hts _ f5) f4 ⟨hfr, hlo⟩, g1, hins⟩ hp rfl hnp hl.1 rfl (lv_room hsum) d ⟨hc1, hc2⟩) hS go
  · exact zx_run (va_runIN (nL := y.2.2.1) ⟨hx, hb, hml, ho, hts⟩ hM ⟨va_cnB np hts hG rfl rfl rfl (f5 s hZ) hini f4 ⟨hfr, hlo⟩, g1, hins⟩ hp rfl hnp hl.1 rfl (lv_room hsum) d ⟨hc1, hc2⟩) hS go
theorem zx_callV {b ci : Nat} {vs : List Value} {r0 : vw_C} (f : zx_s G y.1.cls ix y1 np) (fs : Cond.instanceMethod y1.1 ∈ zx_gW G ∧ Cond.selects y1.1.cls y1.1 y1.1 ∈ zx_gW G ∧ (zx_gC G)[ci]? = some r0 ∧ r0.1 = y1.1.cls) (hob : h b = some (.inr (ci, vs))) (hM : zM G y1 rm (.ref b :: av) h n post) (d : decode y.2.1 pc = .ok (.invokevirtual ix, 3)) (e0 : pc + 3 = pc2) (hst : st0 = av.reverse ++ .ref b :: rest) (hnp : av.length = np) (hsum : (rest.map fun v => v.category).sum ≤ 8) (hfr : rm.frames + 1 ≤ R.frames) (hlo : 8 + (y1.2.2.1 + 11) + rm.locals ≤ R.locals) (hc1 : k + rm.cells ≤ R.cells) (hc2 : j + rm.slots ≤ R.slots)
    (kk : ∀ r h' n', post r h' n' → zX G y R F pc2 L (r.toList ++ rest) h' n' (k + rm.cells) (j + rm.slots)) : zX G y R F pc L st0 h n k j := by
  subst e0; subst hst; intro p e s m args below meth c C ls H locs hl hR hS
  have hx := C.1; have hb := C.2.1; have hml := C.2.2.1; have ho := C.2.2.2.1; have hts := C.2.2.2.2.1; have hZ := C.2.2.2.2.2.2.2.1; have hK := C.2.2.2.2.2.1
  obtain ⟨f1, f2, f3, f4, f5⟩ := f
  obtain ⟨g1, g2, g3, g4⟩ := fs
  have hG : GoodIn (zx_gW G) (zx_c y1 :: zx_gW G) := zx_good f1 f2
  have hcell := va_recv (s := s) hK (hR.get hob) g3 (q0 := 0) rfl
  rw [g4] at hcell
  have hp : PreV s H y1.1.cls b (va_Pc (.ref b :: av) (zx_P G h n)) av := ⟨zx_blind, hcell, fun U hU hW => zx_pre C hR hS hU hW⟩
  have hini := hts _ f3
  have go := fun (r : Option Value) (h' : zx_H) (n' : Nat) (H' : Heap) (locs' : List Loc) (hp' : post r h' n') (hR' : zx_R (zx_gD G) (zx_gC G) (zx_gB G) h' n' H') (hS' : va_S (zx_A G) s.heap H' locs') => kk r h' n' hp' p e s m args below meth c C ls H' locs' hl hR' hS'
  rcases f5 with f5 | ⟨host, f5⟩
  · exact zx_run (va_runV (nL := y.2.2.1) ⟨hx, hb, hml, ho, hts⟩ hM ⟨callB_of np hts hG rfl rfl rfl hini (hts _ f5) f4 ⟨hfr, hlo⟩, hts _ g1, hts _ g2⟩ hp rfl hnp hl.1 rfl (lv_room hsum) d ⟨hc1, hc2⟩) hS go
  · exact zx_run (va_runVN (nL := y.2.2.1) ⟨hx, hb, hml, ho, hts⟩ hM ⟨va_cnB np hts hG rfl rfl rfl (f5 s hZ) hini f4 ⟨hfr, hlo⟩, hts _ g1, hts _ g2⟩ hp rfl hnp hl.1 rfl (lv_room hsum) d ⟨hc1, hc2⟩) hS go
end ZCALL

