/-! The memory: the heap as three tables (ints, longs, references), by a fixed layout of relative addresses. -/
abbrev zm_M : Type := (Nat → Nat → Int32) × (Nat → Nat → Int64) × (Nat → Nat → Nat)
/-- a cell's layout: an array (type number, length, first, stride: of references: a stride of 0 is the table's), or an object (class number; of each field: none an int, some none a long, some (some d) a fixed reference) -/
abbrev zm_E : Type := (Nat × Nat × Nat × Nat) ⊕ (Nat × List (Option (Option Nat)))
def zm_I (M : zm_M) (r k : Nat) : Int32 := M.1 r k
def zm_J (M : zm_M) (r k : Nat) : Int64 := M.2.1 r k
def zm_P (M : zm_M) (r k : Nat) : Nat := M.2.2 r k
def zm_u {α : Type} (f : Nat → Nat → α) (r k : Nat) (v : α) : Nat → Nat → α := fun r' k' => if r' = r ∧ k' = k then v else f r' k'
def zm_wI (M : zm_M) (r k : Nat) (v : Int32) : zm_M := (zm_u M.1 r k v, M.2.1, M.2.2)
def zm_wJ (M : zm_M) (r k : Nat) (v : Int64) : zm_M := (M.1, zm_u M.2.1 r k v, M.2.2)
def zm_wP (M : zm_M) (r k : Nat) (v : Nat) : zm_M := (M.1, M.2.1, zm_u M.2.2 r k v)
def zm_fs (b : Nat) (M : zm_M) (r : Nat) : Nat → List (Option (Option Nat)) → List Value
  | _, [] => []
  | k, none :: t => .int (zm_I M r k) :: zm_fs b M r (k + 1) t
  | k, some none :: t => .long (zm_J M r k) :: zm_fs b M r (k + 1) t
  | k, some (some d) :: t => .ref (b + d) :: zm_fs b M r (k + 1) t
def zm_ar (b : Nat) (M : zm_M) (r s d : Nat) : Nat → Option Nat := fun i => some (b + (if d = 0 then zm_P M r i else s + d * i))
def zm_cell (b : Nat) (ar : Nat → ClassId) (M : zm_M) (r : Nat) : zm_E → va_E
  | .inl (1, n, _, _) => .inl (ar 1, n, .inr (.inl (zm_J M r)))
  | .inl (0, n, _, _) => .inl (ar 0, n, .inl (zm_I M r))
  | .inl (2, n, _, _) => .inl (ar 2, n, .inl (zm_I M r))
  | .inl (3, n, _, _) => .inl (ar 3, n, .inl (zm_I M r))
  | .inl (t, n, s, d) => .inl (ar t, n, .inr (.inr (.inr (.inr (zm_ar b M r s d)))))
  | .inr (ci, fk) => .inr (ci, zm_fs b M r 0 fk)
def zm_h (b : Nat) (ar : Nat → ClassId) (lay : Nat → Option zm_E) (M : zm_M) : zx_H := fun a => if a < b then none else (lay (a - b)).map (zm_cell b ar M (a - b))
section ZMM
variable {b : Nat} {ar : Nat → ClassId} {lay : Nat → Option zm_E} {M : zm_M} {r : Nat}
theorem zm_at {e : zm_E} (h : lay r = some e) : zm_h b ar lay M (b + r) = some (zm_cell b ar M r e) := by
  unfold zm_h
  rw [if_neg (by omega), Nat.add_sub_cancel_left, h]
  rfl
theorem zm_I_w {r' k k' : Nat} {v : Int32} : zm_I (zm_wI M r k v) r' k' = if r' = r ∧ k' = k then v else zm_I M r' k' := rfl
theorem zm_J_w {r' k k' : Nat} {v : Int64} : zm_J (zm_wJ M r k v) r' k' = if r' = r ∧ k' = k then v else zm_J M r' k' := rfl
theorem zm_P_w {r' k k' : Nat} {v : Nat} : zm_P (zm_wP M r k v) r' k' = if r' = r ∧ k' = k then v else zm_P M r' k' := rfl
theorem zm_fs_I {r' k : Nat} {v : Int32} (hne : r' ≠ r) : ∀ (fk : List (Option (Option Nat))) (q : Nat), zm_fs b (zm_wI M r k v) r' q fk = zm_fs b M r' q fk
  | [], _ => rfl
  | none :: t, q => by
    simp only [zm_fs, zm_fs_I hne t (q + 1), zm_I_w]
    rw [if_neg (fun z => hne z.1)]
  | some none :: t, q => by
    simp only [zm_fs, zm_fs_I hne t (q + 1)]
    rfl
  | some (some d) :: t, q => by simp only [zm_fs, zm_fs_I hne t (q + 1)]
theorem zm_fs_J {r' k : Nat} {v : Int64} (hne : r' ≠ r) : ∀ (fk : List (Option (Option Nat))) (q : Nat), zm_fs b (zm_wJ M r k v) r' q fk = zm_fs b M r' q fk
  | [], _ => rfl
  | none :: t, q => by
    simp only [zm_fs, zm_fs_J hne t (q + 1)]
    rfl
  | some none :: t, q => by
    simp only [zm_fs, zm_fs_J hne t (q + 1), zm_J_w]
    rw [if_neg (fun z => hne z.1)]
  | some (some d) :: t, q => by simp only [zm_fs, zm_fs_J hne t (q + 1)]
theorem zm_fs_P {k : Nat} {v r' : Nat} : ∀ (fk : List (Option (Option Nat))) (q : Nat), zm_fs b (zm_wP M r k v) r' q fk = zm_fs b M r' q fk
  | [], _ => rfl
  | none :: t, q => by simp only [zm_fs, zm_fs_P t (q + 1)]; rfl
  | some none :: t, q => by simp only [zm_fs, zm_fs_P t (q + 1)]; rfl
  | some (some d) :: t, q => by simp only [zm_fs, zm_fs_P t (q + 1)]
theorem zm_fs_setI {k : Nat} {v : Int32} : ∀ (fk : List (Option (Option Nat))) (q i : Nat), q + i = k → fk[i]? = some none → zm_fs b (zm_wI M r k v) r q fk = (zm_fs b M r q fk).set i (.int v)
  | [], _, _, _, h => by simp at h
  | none :: t, q, 0, hk, _ => by
    simp only [Nat.add_zero] at hk
    subst hk
    have ht : ∀ (t : List (Option (Option Nat))) (p : Nat), q < p → zm_fs b (zm_wI M r q v) r p t = zm_fs b M r p t := by
      intro t
      induction t with
      | nil => intro p _; rfl
      | cons x t ih =>
        intro p hp
        cases x with
        | none =>
          simp only [zm_fs, ih (p + 1) (by omega), zm_I_w]
          rw [if_neg (fun z => by omega)]
        | some x => cases x with
          | none => simp only [zm_fs, ih (p + 1) (by omega)]; rfl
          | some d => simp only [zm_fs, ih (p + 1) (by omega)]
    simp only [zm_fs, ht t (q + 1) (by omega), zm_I_w, List.set_cons_zero]
    simp
  | some x :: t, _, 0, _, h => by simp at h
  | none :: t, q, i + 1, hk, h => by
    have h' : t[i]? = some none := by simpa using h
    have ih := zm_fs_setI (k := k) (v := v) t (q + 1) i (by omega) h'
    simp only [zm_fs, List.set_cons_succ, ih, zm_I_w]
    rw [if_neg (fun z => by omega)]
  | some none :: t, q, i + 1, hk, h => by
    have h' : t[i]? = some none := by simpa using h
    have ih := zm_fs_setI (k := k) (v := v) t (q + 1) i (by omega) h'
    simp only [zm_fs, List.set_cons_succ, ih]
    rfl
  | some (some d) :: t, q, i + 1, hk, h => by
    have h' : t[i]? = some none := by simpa using h
    have ih := zm_fs_setI (k := k) (v := v) t (q + 1) i (by omega) h'
    simp only [zm_fs, List.set_cons_succ, ih]
theorem zm_fs_setJ {k : Nat} {v : Int64} : ∀ (fk : List (Option (Option Nat))) (q i : Nat), q + i = k → fk[i]? = some (some none) → zm_fs b (zm_wJ M r k v) r q fk = (zm_fs b M r q fk).set i (.long v)
  | [], _, _, _, h => by simp at h
  | some none :: t, q, 0, hk, _ => by
    simp only [Nat.add_zero] at hk
    subst hk
    have ht : ∀ (t : List (Option (Option Nat))) (p : Nat), q < p → zm_fs b (zm_wJ M r q v) r p t = zm_fs b M r p t := by
      intro t
      induction t with
      | nil => intro p _; rfl
      | cons x t ih =>
        intro p hp
        cases x with
        | none => simp only [zm_fs, ih (p + 1) (by omega)]; rfl
        | some x => cases x with
          | none =>
            simp only [zm_fs, ih (p + 1) (by omega), zm_J_w]
            rw [if_neg (fun z => by omega)]
          | some d => simp only [zm_fs, ih (p + 1) (by omega)]
    simp only [zm_fs, ht t (q + 1) (by omega), zm_J_w, List.set_cons_zero]
    simp
  | none :: t, _, 0, _, h => by simp at h
  | some (some d) :: t, _, 0, _, h => by simp at h
  | none :: t, q, i + 1, hk, h => by
    have h' : t[i]? = some (some none) := by simpa using h
    have ih := zm_fs_setJ (k := k) (v := v) t (q + 1) i (by omega) h'
    simp only [zm_fs, List.set_cons_succ, ih]
    rfl
  | some none :: t, q, i + 1, hk, h => by
    have h' : t[i]? = some (some none) := by simpa using h
    have ih := zm_fs_setJ (k := k) (v := v) t (q + 1) i (by omega) h'
    simp only [zm_fs, List.set_cons_succ, ih, zm_J_w]
    rw [if_neg (fun z => by omega)]
  | some (some d) :: t, q, i + 1, hk, h => by
    have h' : t[i]? = some (some none) := by simpa using h
    have ih := zm_fs_setJ (k := k) (v := v) t (q + 1) i (by omega) h'
    simp only [zm_fs, List.set_cons_succ, ih]
theorem zm_I_ne {r' k : Nat} {v : Int32} (hne : r' ≠ r) : zm_I (zm_wI M r k v) r' = zm_I M r' := by
  funext q; rw [zm_I_w, if_neg (fun z => hne z.1)]
theorem zm_J_ne {r' k : Nat} {v : Int64} (hne : r' ≠ r) : zm_J (zm_wJ M r k v) r' = zm_J M r' := by
  funext q; rw [zm_J_w, if_neg (fun z => hne z.1)]
theorem zm_ar_ne {r' k s d : Nat} {v : Nat} (hne : r' ≠ r) : zm_ar b (zm_wP M r k v) r' s d = zm_ar b M r' s d := by
  funext q; unfold zm_ar; simp only [zm_P_w]; rw [if_neg (show ¬ (r' = r ∧ q = k) from fun z => hne z.1)]
theorem zm_cell_I {r' k : Nat} {v : Int32} (hne : r' ≠ r) (e : zm_E) : zm_cell b ar (zm_wI M r k v) r' e = zm_cell b ar M r' e := by
  unfold zm_cell
  split <;> first | rfl | (simp only [zm_I_ne hne]) | (simp only [zm_fs_I hne])
theorem zm_cell_J {r' k : Nat} {v : Int64} (hne : r' ≠ r) (e : zm_E) : zm_cell b ar (zm_wJ M r k v) r' e = zm_cell b ar M r' e := by
  unfold zm_cell
  split <;> first | rfl | (simp only [zm_J_ne hne]) | (simp only [zm_fs_J hne])
theorem zm_cell_P {r' k : Nat} {v : Nat} (hne : r' ≠ r) (e : zm_E) : zm_cell b ar (zm_wP M r k v) r' e = zm_cell b ar M r' e := by
  unfold zm_cell
  split <;> first | rfl | (simp only [zm_ar_ne hne]) | (simp only [zm_fs_P])
/-- one cell changes, and the new memory says how -/
theorem zm_up {M' : zm_M} {e : zm_E} {x : va_E} (h : lay r = some e) (h1 : zm_cell b ar M' r e = x) (h2 : ∀ r', r' ≠ r → ∀ e, zm_cell b ar M' r' e = zm_cell b ar M r' e) : va_up (zm_h b ar lay M) (b + r) (some x) = zm_h b ar lay M' := by
  funext a
  unfold va_up zm_h
  by_cases hab : a < b
  · rw [if_pos hab, if_pos hab, if_neg (by omega)]
  · rw [if_neg hab, if_neg hab]
    by_cases ha : a = b + r
    · subst ha
      rw [if_pos rfl, Nat.add_sub_cancel_left, h]
      simp only [Option.map_some, h1]
    · rw [if_neg ha]
      have hr : a - b ≠ r := fun z => ha (by omega)
      cases lay (a - b) with
      | none => rfl
      | some e' => simp only [Option.map_some, h2 _ hr]
theorem zm_up_f {ci k : Nat} {fk : List (Option (Option Nat))} {v : Int32} (h : lay r = some (.inr (ci, fk))) (hk : fk[k]? = some none) : va_up (zm_h b ar lay M) (b + r) (some (.inr (ci, (zm_fs b M r 0 fk).set k (.int v)))) = zm_h b ar lay (zm_wI M r k v) :=
  zm_up h (congrArg (fun z => Sum.inr (ci, z)) (zm_fs_setI (k := k) (v := v) fk 0 k (by omega) hk)) (fun _ hr e => zm_cell_I hr e)
theorem zm_up_g {ci k : Nat} {fk : List (Option (Option Nat))} {v : Int64} (h : lay r = some (.inr (ci, fk))) (hk : fk[k]? = some (some none)) : va_up (zm_h b ar lay M) (b + r) (some (.inr (ci, (zm_fs b M r 0 fk).set k (.long v)))) = zm_h b ar lay (zm_wJ M r k v) :=
  zm_up h (congrArg (fun z => Sum.inr (ci, z)) (zm_fs_setJ (k := k) (v := v) fk 0 k (by omega) hk)) (fun _ hr e => zm_cell_J hr e)
theorem zm_I_upd {k : Nat} {v : Int32} : zm_I (zm_wI M r k v) r = upd (zm_I M r) k v := by
  funext q; rw [zm_I_w]; unfold upd
  by_cases hq : q = k <;> simp [hq]
theorem zm_J_upd {k : Nat} {v : Int64} : zm_J (zm_wJ M r k v) r = vp_updL (zm_J M r) k v := by
  funext q; rw [zm_J_w]; unfold vp_updL
  by_cases hq : q = k <;> simp [hq]
theorem zm_P_upd {k s : Nat} {v : Nat} : zm_ar b (zm_wP M r k v) r s 0 = va_up (zm_ar b M r s 0) k (some (b + v)) := by
  funext q; unfold zm_ar va_up; rw [zm_P_w]
  by_cases hq : q = k <;> simp [hq]
theorem zm_up_0 {N s d k : Nat} {v : Int32} (h : lay r = some (.inl (0, N, s, d))) : va_up (zm_h b ar lay M) (b + r) (some (.inl (ar 0, N, .inl (upd (zm_I M r) k v)))) = zm_h b ar lay (zm_wI M r k v) :=
  zm_up h (by simp only [zm_cell, zm_I_upd]) (fun _ hr e => zm_cell_I hr e)
theorem zm_up_2 {N s d k : Nat} {v : Int32} (h : lay r = some (.inl (2, N, s, d))) : va_up (zm_h b ar lay M) (b + r) (some (.inl (ar 2, N, .inl (upd (zm_I M r) k v)))) = zm_h b ar lay (zm_wI M r k v) :=
  zm_up h (by simp only [zm_cell, zm_I_upd]) (fun _ hr e => zm_cell_I hr e)
theorem zm_up_3 {N s d k : Nat} {v : Int32} (h : lay r = some (.inl (3, N, s, d))) : va_up (zm_h b ar lay M) (b + r) (some (.inl (ar 3, N, .inl (upd (zm_I M r) k v)))) = zm_h b ar lay (zm_wI M r k v) :=
  zm_up h (by simp only [zm_cell, zm_I_upd]) (fun _ hr e => zm_cell_I hr e)
theorem zm_up_1 {N s d k : Nat} {v : Int64} (h : lay r = some (.inl (1, N, s, d))) : va_up (zm_h b ar lay M) (b + r) (some (.inl (ar 1, N, .inr (.inl (vp_updL (zm_J M r) k v))))) = zm_h b ar lay (zm_wJ M r k v) :=
  zm_up h (by simp only [zm_cell, zm_J_upd]) (fun _ hr e => zm_cell_J hr e)
theorem zm_cell_r {t n s d : Nat} (ht : 4 ≤ t) : zm_cell b ar M r (.inl (t, n, s, d)) = .inl (ar t, n, .inr (.inr (.inr (.inr (zm_ar b M r s d))))) := by
  match t, ht with
  | t + 4, _ => rfl
theorem zm_up_r {t N s k : Nat} {v : Nat} (ht : 4 ≤ t) (h : lay r = some (.inl (t, N, s, 0))) : va_up (zm_h b ar lay M) (b + r) (some (.inl (ar t, N, .inr (.inr (.inr (.inr (va_up (zm_ar b M r s 0) k (some (b + v))))))))) = zm_h b ar lay (zm_wP M r k v) :=
  zm_up h (by rw [zm_cell_r ht, zm_P_upd]) (fun _ hr e => zm_cell_P hr e)
end ZMM
theorem zx_for {X : Nat → Prop} (N : Nat) (hend : X N) (hstep : ∀ i, i < N → X (i + 1) → X i) : ∀ i, i ≤ N → X i := by
  intro i hi
  obtain ⟨d, hd⟩ : ∃ d, i + d = N := ⟨N - i, by omega⟩
  induction d generalizing i with
  | zero => have : i = N := by omega
            rw [this]; exact hend
  | succ d ih => exact hstep i (by omega) (ih (i + 1) (by omega) (by omega))
def zm_it (f : Nat → zm_M → zm_M) : Nat → zm_M → zm_M
  | 0, M => M
  | k + 1, M => f k (zm_it f k M)
theorem zm_fs_len {b : Nat} {M : zm_M} {r : Nat} : ∀ (fk : List (Option (Option Nat))) (q : Nat), (zm_fs b M r q fk).length = fk.length
  | [], _ => rfl
  | none :: t, q => by simp only [zm_fs, List.length_cons, zm_fs_len t (q + 1)]
  | some none :: t, q => by simp only [zm_fs, List.length_cons, zm_fs_len t (q + 1)]
  | some (some d) :: t, q => by simp only [zm_fs, List.length_cons, zm_fs_len t (q + 1)]
section ZMR
variable {G : zx_G} {y : zx_Y} {R : Room} {F : List Frame → Array Value → State → State → Prop} {pc pc2 : Nat} {L : zx_L} {st : List Value} {b : Nat} {ar : Nat → ClassId} {lay : Nat → Option zm_E} {M : zm_M} {n k j : Nat} {r N s0 d0 : Nat}
theorem zm_get {ix ci i0 : Nat} {fk : List (Option (Option Nat))} {v : Value} (f : zx_fr G y.1.cls ix ci i0) (d : decode y.2.1 pc = .ok (.getfield ix, 3)) (e0 : pc + 3 = pc2) (hl : lay r = some (.inr (ci, fk))) (hv : (zm_fs b M r 0 fk)[i0]? = some v) (kk : zX G y R F pc2 L (v :: st) (zm_h b ar lay M) n k j) : zX G y R F pc L (.ref (b + r) :: st) (zm_h b ar lay M) n k j :=
  zx_getf f d e0 (zm_at hl) hv kk
theorem zm_fs_at {fk : List (Option (Option Nat))} : ∀ (q i : Nat), fk[i]? = some none → (zm_fs b M r q fk)[i]? = some (.int (zm_I M r (q + i))) := by
  induction fk with
  | nil => intro q i h; simp at h
  | cons x t ih =>
    intro q i h
    cases i with
    | zero =>
      simp at h
      subst h
      rfl
    | succ i =>
      have h' : t[i]? = some none := by simpa using h
      have e := ih (q + 1) i h'
      rw [show q + 1 + i = q + (i + 1) by omega] at e
      cases x with
      | none => simpa [zm_fs] using e
      | some x => cases x with
        | none => simpa [zm_fs] using e
        | some d => simpa [zm_fs] using e
theorem zm_fs_atJ {fk : List (Option (Option Nat))} : ∀ (q i : Nat), fk[i]? = some (some none) → (zm_fs b M r q fk)[i]? = some (.long (zm_J M r (q + i))) := by
  induction fk with
  | nil => intro q i h; simp at h
  | cons x t ih =>
    intro q i h
    cases i with
    | zero =>
      simp at h
      subst h
      rfl
    | succ i =>
      have h' : t[i]? = some (some none) := by simpa using h
      have e := ih (q + 1) i h'
      rw [show q + 1 + i = q + (i + 1) by omega] at e
      cases x with
      | none => simpa [zm_fs] using e
      | some x => cases x with
        | none => simpa [zm_fs] using e
        | some d => simpa [zm_fs] using e
theorem zm_fs_atR {fk : List (Option (Option Nat))} {a : Nat} : ∀ (q i : Nat), fk[i]? = some (some (some a)) → (zm_fs b M r q fk)[i]? = some (.ref (b + a)) := by
  induction fk with
  | nil => intro q i h; simp at h
  | cons x t ih =>
    intro q i h
    cases i with
    | zero =>
      simp at h
      subst h
      rfl
    | succ i =>
      have h' : t[i]? = some (some (some a)) := by simpa using h
      have e := ih (q + 1) i h'
      cases x with
      | none => simpa [zm_fs] using e
      | some x => cases x with
        | none => simpa [zm_fs] using e
        | some d => simpa [zm_fs] using e
theorem zm_getI {ix ci i0 : Nat} {fk : List (Option (Option Nat))} (f : zx_fr G y.1.cls ix ci i0) (d : decode y.2.1 pc = .ok (.getfield ix, 3)) (e0 : pc + 3 = pc2) (hl : lay r = some (.inr (ci, fk))) (hk : fk[i0]? = some none) (kk : zX G y R F pc2 L (.int (zm_I M r i0) :: st) (zm_h b ar lay M) n k j) : zX G y R F pc L (.ref (b + r) :: st) (zm_h b ar lay M) n k j :=
  zx_getf f d e0 (zm_at hl) ((zm_fs_at 0 i0 hk).trans (by rw [Nat.zero_add])) kk
theorem zm_getJ {ix ci i0 : Nat} {fk : List (Option (Option Nat))} (f : zx_fr G y.1.cls ix ci i0) (d : decode y.2.1 pc = .ok (.getfield ix, 3)) (e0 : pc + 3 = pc2) (hl : lay r = some (.inr (ci, fk))) (hk : fk[i0]? = some (some none)) (kk : zX G y R F pc2 L (.long (zm_J M r i0) :: st) (zm_h b ar lay M) n k j) : zX G y R F pc L (.ref (b + r) :: st) (zm_h b ar lay M) n k j :=
  zx_getf f d e0 (zm_at hl) ((zm_fs_atJ 0 i0 hk).trans (by rw [Nat.zero_add])) kk
theorem zm_getR {ix ci i0 a : Nat} {fk : List (Option (Option Nat))} (f : zx_fr G y.1.cls ix ci i0) (d : decode y.2.1 pc = .ok (.getfield ix, 3)) (e0 : pc + 3 = pc2) (hl : lay r = some (.inr (ci, fk))) (hk : fk[i0]? = some (some (some a))) (kk : zX G y R F pc2 L (.ref (b + a) :: st) (zm_h b ar lay M) n k j) : zX G y R F pc L (.ref (b + r) :: st) (zm_h b ar lay M) n k j :=
  zx_getf f d e0 (zm_at hl) (zm_fs_atR 0 i0 hk) kk
theorem zm_putI {ix ci i0 : Nat} {ty : FieldType} {fk : List (Option (Option Nat))} {v : Int32} (f : zx_f G y.1.cls ix ci i0 ty false) (d : decode y.2.1 pc = .ok (.putfield ix, 3)) (e0 : pc + 3 = pc2) (hl : lay r = some (.inr (ci, fk))) (hk : fk[i0]? = some none) (hn : narrow ty (.int v) = .int v) (hf : fits ty (.int v) = true) (kk : zX G y R F pc2 L st (zm_h b ar lay (zm_wI M r i0 v)) n k j) : zX G y R F pc L (.int v :: .ref (b + r) :: st) (zm_h b ar lay M) n k j :=
  zx_putf f d e0 (zm_at hl) hn hf (by show i0 < (zm_fs _ _ _ _ _).length; rw [zm_fs_len]; exact (List.getElem?_eq_some_iff.mp hk).1) (zm_up_f hl hk) kk
theorem zm_putJ {ix ci i0 : Nat} {fk : List (Option (Option Nat))} {v : Int64} (f : zx_f G y.1.cls ix ci i0 .long false) (d : decode y.2.1 pc = .ok (.putfield ix, 3)) (e0 : pc + 3 = pc2) (hl : lay r = some (.inr (ci, fk))) (hk : fk[i0]? = some (some none)) (kk : zX G y R F pc2 L st (zm_h b ar lay (zm_wJ M r i0 v)) n k j) : zX G y R F pc L (.long v :: .ref (b + r) :: st) (zm_h b ar lay M) n k j :=
  zx_putf f d e0 (zm_at hl) rfl rfl (by show i0 < (zm_fs _ _ _ _ _).length; rw [zm_fs_len]; exact (List.getElem?_eq_some_iff.mp hk).1) (zm_up_g hl hk) kk
theorem zm_iald {i : Int32} (d : decode y.2.1 pc = .ok (.iaload, 1)) (e0 : pc + 1 = pc2) (hl : lay r = some (.inl (0, N, s0, d0))) (ht : (zx_gT G)[0]? = some (ar 0, .int)) (hin : vp_in i N) (kk : zX G y R F pc2 L (.int (zm_I M r i.toNatClampNeg) :: st) (zm_h b ar lay M) n k j) : zX G y R F pc L (.int i :: .ref (b + r) :: st) (zm_h b ar lay M) n k j :=
  zx_iald d e0 (zm_at hl) ht hin kk
theorem zm_bald {i : Int32} (d : decode y.2.1 pc = .ok (.baload, 1)) (e0 : pc + 1 = pc2) (hl : lay r = some (.inl (2, N, s0, d0))) (ht : (zx_gT G)[2]? = some (ar 2, .byte)) (hin : vp_in i N) (kk : zX G y R F pc2 L (.int (zm_I M r i.toNatClampNeg) :: st) (zm_h b ar lay M) n k j) : zX G y R F pc L (.int i :: .ref (b + r) :: st) (zm_h b ar lay M) n k j :=
  zx_bald d e0 (zm_at hl) ht hin kk
theorem zm_zald {i : Int32} (d : decode y.2.1 pc = .ok (.baload, 1)) (e0 : pc + 1 = pc2) (hl : lay r = some (.inl (3, N, s0, d0))) (ht : (zx_gT G)[3]? = some (ar 3, .boolean)) (hin : vp_in i N) (kk : zX G y R F pc2 L (.int (zm_I M r i.toNatClampNeg) :: st) (zm_h b ar lay M) n k j) : zX G y R F pc L (.int i :: .ref (b + r) :: st) (zm_h b ar lay M) n k j :=
  zx_zald d e0 (zm_at hl) ht hin kk
theorem zm_lald {i : Int32} (d : decode y.2.1 pc = .ok (.laload, 1)) (e0 : pc + 1 = pc2) (hl : lay r = some (.inl (1, N, s0, d0))) (ht : (zx_gT G)[1]? = some (ar 1, .long)) (hin : vp_in i N) (kk : zX G y R F pc2 L (.long (zm_J M r i.toNatClampNeg) :: st) (zm_h b ar lay M) n k j) : zX G y R F pc L (.int i :: .ref (b + r) :: st) (zm_h b ar lay M) n k j :=
  zx_lald d e0 (zm_at hl) ht hin kk
theorem zm_aald {t x : Nat} {C0 : String} {i : Int32} (d : decode y.2.1 pc = .ok (.aaload, 1)) (e0 : pc + 1 = pc2) (h4 : 4 ≤ t) (hl : lay r = some (.inl (t, N, s0, d0))) (ht : (zx_gT G)[t]? = some (ar t, .object C0)) (hin : vp_in i N) (hx : (if d0 = 0 then zm_P M r i.toNatClampNeg else s0 + d0 * i.toNatClampNeg) = x) (kk : zX G y R F pc2 L (.ref (b + x) :: st) (zm_h b ar lay M) n k j) : zX G y R F pc L (.int i :: .ref (b + r) :: st) (zm_h b ar lay M) n k j :=
  zx_aald d e0 ((zm_at hl).trans (congrArg some (zm_cell_r h4))) ht hin (by unfold zm_ar; rw [hx]) kk
theorem zm_iast {i x : Int32} (d : decode y.2.1 pc = .ok (.iastore, 1)) (e0 : pc + 1 = pc2) (hl : lay r = some (.inl (0, N, s0, d0))) (ht : (zx_gT G)[0]? = some (ar 0, .int)) (hin : vp_in i N) (kk : zX G y R F pc2 L st (zm_h b ar lay (zm_wI M r i.toNatClampNeg x)) n k j) : zX G y R F pc L (.int x :: .int i :: .ref (b + r) :: st) (zm_h b ar lay M) n k j :=
  zx_iast d e0 (zm_at hl) ht hin (zm_up_0 hl) kk
theorem zm_bast {i x : Int32} (d : decode y.2.1 pc = .ok (.bastore, 1)) (e0 : pc + 1 = pc2) (hl : lay r = some (.inl (2, N, s0, d0))) (ht : (zx_gT G)[2]? = some (ar 2, .byte)) (hin : vp_in i N) (kk : zX G y R F pc2 L st (zm_h b ar lay (zm_wI M r i.toNatClampNeg (vp_nar .byte x))) n k j) : zX G y R F pc L (.int x :: .int i :: .ref (b + r) :: st) (zm_h b ar lay M) n k j :=
  zx_bast d e0 (zm_at hl) ht hin (zm_up_2 hl) kk
theorem zm_zast {i x : Int32} (d : decode y.2.1 pc = .ok (.bastore, 1)) (e0 : pc + 1 = pc2) (hl : lay r = some (.inl (3, N, s0, d0))) (ht : (zx_gT G)[3]? = some (ar 3, .boolean)) (hin : vp_in i N) (kk : zX G y R F pc2 L st (zm_h b ar lay (zm_wI M r i.toNatClampNeg (vp_nar .boolean x))) n k j) : zX G y R F pc L (.int x :: .int i :: .ref (b + r) :: st) (zm_h b ar lay M) n k j :=
  zx_zast d e0 (zm_at hl) ht hin (zm_up_3 hl) kk
theorem zm_last {i : Int32} {x : Int64} (d : decode y.2.1 pc = .ok (.lastore, 1)) (e0 : pc + 1 = pc2) (hl : lay r = some (.inl (1, N, s0, d0))) (ht : (zx_gT G)[1]? = some (ar 1, .long)) (hin : vp_in i N) (kk : zX G y R F pc2 L st (zm_h b ar lay (zm_wJ M r i.toNatClampNeg x)) n k j) : zX G y R F pc L (.long x :: .int i :: .ref (b + r) :: st) (zm_h b ar lay M) n k j :=
  zx_last d e0 (zm_at hl) ht hin (zm_up_1 hl) kk
theorem zm_aast {t rv ci : Nat} {r0 : vw_C} {fk : List (Option (Option Nat))} {i : Int32} (d : decode y.2.1 pc = .ok (.aastore, 1)) (e0 : pc + 1 = pc2) (h4 : 4 ≤ t) (hl : lay r = some (.inl (t, N, s0, 0))) (ht : (zx_gT G)[t]? = some (ar t, .object r0.1)) (hv : lay rv = some (.inr (ci, fk))) (hc : (zx_gC G)[ci]? = some r0) (hin : vp_in i N) (kk : zX G y R F pc2 L st (zm_h b ar lay (zm_wP M r i.toNatClampNeg rv)) n k j) : zX G y R F pc L (.ref (b + rv) :: .int i :: .ref (b + r) :: st) (zm_h b ar lay M) n k j :=
  zx_aast d e0 ((zm_at hl).trans (congrArg some (zm_cell_r h4))) ht (zm_at hv) hc hin (zm_up_r h4 hl) kk
end ZMR
