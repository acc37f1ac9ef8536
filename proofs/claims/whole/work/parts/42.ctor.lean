/-! Construction: the memory as it is born; the constructors of LogHouse -/
def zc_M : zm_M := (fun r k => match zl r with
  | some (.inr (1, _)) => if k = 1 then 1 else 0
  | some (.inr (3, _)) => if k = 0 ∧ 108 ≤ r then 1 else 0
  | _ => 0, fun _ _ => 0, fun _ k => 173 + 6 * k)
theorem zc_Ia {r : Nat} {x : Nat × Nat × Nat × Nat} (h : zl r = some (.inl x)) : zm_I zc_M r = fun _ => 0 := by
  funext k
  show (match zl r with
  | some (.inr (1, _)) => if k = 1 then (1 : Int32) else 0
  | some (.inr (3, _)) => if k = 0 ∧ 108 ≤ r then 1 else 0
  | _ => 0) = 0
  rw [h]
theorem zc_Io {r ci : Nat} {x : List (Option (Option Nat))} (h : zl r = some (.inr (ci, x))) (h1 : ci ≠ 1) (h3 : ci ≠ 3) (k : Nat) : zm_I zc_M r k = 0 := by
  show (match zl r with
  | some (.inr (1, _)) => if k = 1 then (1 : Int32) else 0
  | some (.inr (3, _)) => if k = 0 ∧ 108 ≤ r then 1 else 0
  | _ => 0) = 0
  rw [h]
  split
  · rename_i z
    cases z
    exact absurd rfl h1
  · rename_i z
    cases z
    exact absurd rfl h3
  · rfl
theorem zc_Is {r : Nat} {x : List (Option (Option Nat))} (h : zl r = some (.inr (1, x))) (k : Nat) : zm_I zc_M r k = if k = 1 then 1 else 0 := by
  show (match zl r with
  | some (.inr (1, _)) => if k = 1 then (1 : Int32) else 0
  | some (.inr (3, _)) => if k = 0 ∧ 108 ≤ r then 1 else 0
  | _ => 0) = _
  rw [h]
  rfl
theorem zc_Ip {r : Nat} {x : List (Option (Option Nat))} (h : zl r = some (.inr (3, x))) (k : Nat) : zm_I zc_M r k = if k = 0 ∧ 108 ≤ r then 1 else 0 := by
  show (match zl r with
  | some (.inr (1, _)) => if k = 1 then (1 : Int32) else 0
  | some (.inr (3, _)) => if k = 0 ∧ 108 ≤ r then 1 else 0
  | _ => 0) = _
  rw [h]
  rfl
def zc (b : Nat) (ar : Nat → ClassId) (h : zx_H) (r m : Nat) : zx_H := fun a => if b + r ≤ a ∧ a < b + (r + m) then zm_h b ar zl zc_M a else h a
theorem zc_in {b : Nat} {ar : Nat → ClassId} {h : zx_H} {r m a : Nat} (ha : r ≤ a ∧ a < r + m) : zc b ar h r m (b + a) = zm_h b ar zl zc_M (b + a) := if_pos ⟨by omega, by omega⟩
theorem zc_out {b : Nat} {ar : Nat → ClassId} {h : zx_H} {r m a : Nat} (ha : a < b + r ∨ b + (r + m) ≤ a) : zc b ar h r m a = h a := if_neg (fun z => by omega)
theorem zc_eq {b : Nat} {ar : Nat → ClassId} {h h2 : zx_H} {r m : Nat} (h1 : ∀ i, i < m → h2 (b + (r + i)) = zm_h b ar zl zc_M (b + (r + i))) (h0 : ∀ a, a < b + r ∨ b + (r + m) ≤ a → h2 a = h a) : h2 = zc b ar h r m := by
  funext a
  by_cases c : b + r ≤ a ∧ a < b + (r + m)
  · have := h1 (a - b - r) (by omega)
    rw [show b + (r + (a - b - r)) = a by omega] at this
    rw [this]
    exact (if_pos c).symm
  · rw [h0 a (by omega)]
    exact (if_neg c).symm
theorem zc_up {b : Nat} {ar : Nat → ClassId} {h : zx_H} {r m : Nat} {e : Option va_E} (hm : 1 ≤ m) : zc b ar (va_up h (b + r) e) r m = zc b ar h r m := by
  funext a
  unfold zc
  by_cases c : b + r ≤ a ∧ a < b + (r + m)
  · rw [if_pos c, if_pos c]
  · rw [if_neg c, if_neg c]
    exact va_up_ne h e (by omega)
def zc_f (b s d i : Nat) : Nat → Option Nat := fun q => if q < i then some (b + (s + d * q)) else none
theorem zc_fs (b s d i : Nat) : va_up (zc_f b s d i) i (some (b + (s + d * i))) = zc_f b s d (i + 1) := by
  funext q
  unfold va_up zc_f
  by_cases c : q = i
  · subst c
    rw [if_pos rfl, if_pos (by omega)]
  · rw [if_neg c]
    by_cases c2 : q < i
    · rw [if_pos c2, if_pos (by omega)]
    · rw [if_neg c2, if_neg (by omega)]
theorem zc_f0 (b s d : Nat) : zc_f b s d 0 = fun _ => none := by
  funext q
  exact if_neg (by omega)
abbrev zc_q (ar : Nat → ClassId) (t N : Nat) (f : Nat → Option Nat) : va_E := .inl (ar t, N, .inr (.inr (.inr (.inr f))))
def zc_H (b : Nat) (ar : Nat → ClassId) (h : zx_H) (ra t N r0 w i : Nat) : zx_H := va_up (zc b ar h r0 (w * i)) (b + ra) (some (zc_q ar t N (zc_f b r0 w i)))
theorem zc_H0 {b : Nat} {ar : Nat → ClassId} {h : zx_H} {ra t N r0 w : Nat} (he : h (b + ra) = some (zc_q ar t N (fun _ => none))) : zc_H b ar h ra t N r0 w 0 = h := by
  funext a
  unfold zc_H va_up
  by_cases c : a = b + ra
  · subst c
    rw [if_pos rfl, he, zc_f0]
  · rw [if_neg c]
    exact zc_out (by omega)
theorem zc_Hs {b : Nat} {ar : Nat → ClassId} {h : zx_H} {ra t N r0 w i : Nat} (hra : ra < r0) : va_up (zc b ar (zc_H b ar h ra t N r0 w i) (r0 + w * i) w) (b + ra) (some (zc_q ar t N (zc_f b r0 w (i + 1)))) = zc_H b ar h ra t N r0 w (i + 1) := by
  funext a
  have hw : w * (i + 1) = w * i + w := Nat.mul_succ w i
  unfold zc_H va_up
  by_cases c : a = b + ra
  · rw [if_pos c, if_pos c]
  · rw [if_neg c, if_neg c]
    unfold zc
    dsimp only
    rw [if_neg c]
    by_cases c1 : b + r0 ≤ a ∧ a < b + (r0 + w * (i + 1))
    · rw [if_pos c1]
      by_cases c2 : b + (r0 + w * i) ≤ a ∧ a < b + (r0 + w * i + w)
      · rw [if_pos c2]
      · rw [if_neg c2, if_pos ⟨c1.1, by omega⟩]
    · rw [if_neg c1, if_neg (by omega), if_neg (by omega)]
theorem zc_Ha {b : Nat} {ar : Nat → ClassId} {h : zx_H} {ra t N r0 w i : Nat} : zc_H b ar h ra t N r0 w i (b + ra) = some (zc_q ar t N (zc_f b r0 w i)) := va_up_self _ _ _
theorem zc_Hlo {b : Nat} {ar : Nat → ClassId} {h : zx_H} {ra t N r0 w i a : Nat} (h1 : a < b + r0) (h2 : a ≠ b + ra) : zc_H b ar h ra t N r0 w i a = h a := (va_up_ne _ _ h2).trans (zc_out (Or.inl h1))
/-- the array described as the layout does -/
def zc_A (b : Nat) (ar : Nat → ClassId) (h : zx_H) (ra r0 m : Nat) : zx_H := va_up (zc b ar h r0 m) (b + ra) (zm_h b ar zl zc_M (b + ra))
theorem zc_Alo {b : Nat} {ar : Nat → ClassId} {h : zx_H} {ra r0 m a : Nat} (h1 : a < b + r0 ∨ b + (r0 + m) ≤ a) (h2 : a ≠ b + ra) : zc_A b ar h ra r0 m a = h a := (va_up_ne _ _ h2).trans (zc_out h1)
theorem zc_Ain {b : Nat} {ar : Nat → ClassId} {h : zx_H} {ra r0 m a : Nat} (h1 : (r0 ≤ a ∧ a < r0 + m) ∨ a = ra) : zc_A b ar h ra r0 m (b + a) = zm_h b ar zl zc_M (b + a) := by
  unfold zc_A va_up
  by_cases c : b + a = b + ra
  · rw [if_pos c, c]
  · rw [if_neg c]
    exact zc_in (by omega)
def zc_rm (d C S : Nat) : Room := { frames := d, cells := C, slots := S, locals := 36 * d }
def zc_po (b : Nat) (ar : Nat → ClassId) (h : zx_H) (r m : Nat) : Option Value → zx_H → Nat → Prop := fun q h' n' => q = none ∧ h' = zc b ar h r m ∧ n' = b + (r + m)
/-- a constructor's contract: the cells of the layout from r on stand, m of them -/
def zN (l : Launch) (D : va_G) (ar : Nat → ClassId) (b : Nat) (Z : State → Prop) (y : zx_Y) (d C S : Nat) (av : List Value) (h : zx_H) (r m : Nat) : Prop := zM (zn_G l D ar b Z) y (zc_rm d C S) av h (b + (r + 1)) (zc_po b ar h r m)
theorem zc_dHo : ∀ q, q < 6 → defaultValue (zn_tHo q) = vp_V [.null, .null, .null, .null, .null, .null] q
  | 0, _ => rfl
  | 1, _ => rfl
  | 2, _ => rfl
  | 3, _ => rfl
  | 4, _ => rfl
  | 5, _ => rfl
  | k + 6, h => absurd h (by omega)
theorem zc_dSt : ∀ q, q < 4 → defaultValue (zn_tSt q) = vp_V [.int 0, .int 0, .int 0, .null] q
  | 0, _ => rfl
  | 1, _ => rfl
  | 2, _ => rfl
  | 3, _ => rfl
  | k + 4, h => absurd h (by omega)
theorem zc_dSh : ∀ q, q < 4 → defaultValue (zn_tSh q) = vp_V [.null, .null, .null, .null] q
  | 0, _ => rfl
  | 1, _ => rfl
  | 2, _ => rfl
  | 3, _ => rfl
  | k + 4, h => absurd h (by omega)
theorem zc_dPr : ∀ q, q < 8 → defaultValue (zn_tPr q) = vp_V [.int 0, .int 0, .int 0, .int 0, .int 0, .null, .null, .null] q
  | 0, _ => rfl
  | 1, _ => rfl
  | 2, _ => rfl
  | 3, _ => rfl
  | 4, _ => rfl
  | 5, _ => rfl
  | 6, _ => rfl
  | 7, _ => rfl
  | k + 8, h => absurd h (by omega)
theorem zc_dSp : ∀ q, q < 4 → defaultValue (zn_tSp q) = vp_V [.int 0, .int 0, .int 0, .null] q
  | 0, _ => rfl
  | 1, _ => rfl
  | 2, _ => rfl
  | 3, _ => rfl
  | k + 4, h => absurd h (by omega)
theorem zc_dRe : ∀ q, q < 2 → defaultValue (zn_tRe q) = vp_V [.int 0, .null] q
  | 0, _ => rfl
  | 1, _ => rfl
  | k + 2, h => absurd h (by omega)
theorem zc_dRo : ∀ q, q < 2 → defaultValue (zn_tRo q) = vp_V [.int 0, .null] q
  | 0, _ => rfl
  | 1, _ => rfl
  | k + 2, h => absurd h (by omega)
theorem zc_dLe : ∀ q, q < 9 → defaultValue (zn_tLe q) = vp_V [.int 0, .int 0, .int 0, .int 0, .int 0, .int 0, .int 0, .long 0, .null] q
  | 0, _ => rfl
  | 1, _ => rfl
  | 2, _ => rfl
  | 3, _ => rfl
  | 4, _ => rfl
  | 5, _ => rfl
  | 6, _ => rfl
  | 7, _ => rfl
  | 8, _ => rfl
  | k + 9, h => absurd h (by omega)
theorem zc_dGa : ∀ q, q < 5 → defaultValue (zn_tGa q) = vp_V [.int 0, .int 0, .int 0, .null, .null] q
  | 0, _ => rfl
  | 1, _ => rfl
  | 2, _ => rfl
  | 3, _ => rfl
  | 4, _ => rfl
  | k + 5, h => absurd h (by omega)
section ZC
variable {l : Launch} {D : va_G} {ar : Nat → ClassId} {b : Nat} {Z : State → Prop} {y y1 : zx_Y} {d d1 : Nat} {F : List Frame → Array Value → State → State → Prop} {pc pc2 : Nat} {L : zx_L} {st st0 av rest : List Value} {h h0 : zx_H} {n k j ix np C S C0 S0 C1 S1 r m : Nat}
theorem zc_entry (hh : y.2.2.2.2 = []) (hy : plainName y.1.cls = true) (hlen : (lg_sl av).length ≤ y.2.2.1) (h1 : L.length = y.2.2.1) (h2 : zx_ps L = lv_args 0 av) (kk : zX (zn_G l D ar b Z) y (zc_rm d C S) (zx_F (zn_G l D ar b Z) C S (zc_po b ar h r m)) 0 L [] h (b + (r + 1)) 0 0) : zN l D ar b Z y d C S av h r m := zx_entry hh hy hlen h1 h2 kk
theorem zc_newa {at0 : ArrayType} {t0 N0 : Nat} {cA : ClassId} {ty : FieldType} {a0 : vp_A} {i : Int32} (dd : decode y.2.1 pc = .ok (.newarray at0, 2)) (e0 : pc + 2 = pc2) (hw : Cond.arrayClass ty ∈ zn_W) (hty : newarray.typeOf at0 = ty) (ht : (zn_at ar)[t0]? = some (cA, ty)) (hpr : ∀ C0, ty ≠ .object C0) (ha : ∀ cA : ClassId, vp_cell cA a0 = arrV cA N0 (fun _ => defaultValue ty)) (hn0 : ¬ i < 0) (hN : i.toNatClampNeg = N0) (hby : N0 * componentBytes ty ≤ 536870912) (hc1 : k + 1 ≤ C0) (hc2 : j + N0 ≤ S0) (kk : zX (zn_G l D ar b Z) y (zc_rm d C0 S0) F pc2 L (.ref n :: st) (va_up h n (some (.inl (cA, a0)))) (n + 1) (k + 1) (j + N0)) : zX (zn_G l D ar b Z) y (zc_rm d C0 S0) F pc L (.int i :: st) h n k j := zx_newa dd e0 hw hty ht hpr ha hn0 hN hby hc1 hc2 kk
theorem zc_newq {t0 N0 : Nat} {cA : ClassId} {Cn : String} {i : Int32} (dd : decode y.2.1 pc = .ok (.anewarray ix, 3)) (e0 : pc + 3 = pc2) (hw : Cond.classLink y.1.cls ix Cn ∈ zn_W) (hover : ∀ U, zx_gZ (zn_G l D ar b Z) U → va_AO Cn U) (ht : (zn_at ar)[t0]? = some (cA, .object Cn)) (hn0 : ¬ i < 0) (hN : i.toNatClampNeg = N0) (hby : N0 * 4 ≤ 536870912) (hc1 : k + 1 ≤ C0) (hc2 : j + N0 ≤ S0) (kk : zX (zn_G l D ar b Z) y (zc_rm d C0 S0) F pc2 L (.ref n :: st) (va_up h n (some (.inl (cA, N0, .inr (.inr (.inr (.inr (fun _ => none)))))))) (n + 1) (k + 1) (j + N0)) : zX (zn_G l D ar b Z) y (zc_rm d C0 S0) F pc L (.int i :: st) h n k j := zx_newq dd e0 hw hover ht hn0 hN hby hc1 hc2 kk
theorem zc_new {ci N0 : Nat} {Cn : String} {T : u_T} {ty0 : Nat → FieldType} {fs : List Value} (dd : decode y.2.1 pc = .ok (.new ix, 3)) (e0 : pc + 3 = pc2) (hc : zn_cl[ci]? = some (Cn, T, N0)) (hw : ∀ w ∈ u_ws Cn T N0, w ∈ zn_W) (hty : ∀ q, q < N0 → parseFieldDescriptor (T q).2.2.1 = some (ty0 q)) (hfs : ∀ q, q < N0 → defaultValue (ty0 q) = vp_V fs q) (h1 : Cond.classLink y.1.cls ix Cn ∈ zn_W) (h2 : Cond.instantiable Cn N0 ∈ zn_W) (h3 : Cond.initialized Cn ∈ zn_W) (hc1 : k + 1 ≤ C0) (hc2 : j + N0 ≤ S0) (kk : zX (zn_G l D ar b Z) y (zc_rm d C0 S0) F pc2 L (.ref n :: st) (va_up h n (some (.inr (ci, fs)))) (n + 1) (k + 1) (j + N0)) : zX (zn_G l D ar b Z) y (zc_rm d C0 S0) F pc L st h n k j := zx_new dd e0 hc hw hty hfs h1 h2 h3 hc1 hc2 kk
theorem zc_callI {e : Option va_E} (f : zx_s (zn_G l D ar b Z) y.1.cls ix y1 np) (fs : y1.1.name = "<init>" ∧ y1.2.2.2.1 = none ∧ Cond.instanceMethod y1.1 ∈ zx_gW (zn_G l D ar b Z)) (hM : zN l D ar b Z y1 d1 C1 S1 (.ref (b + r) :: av) (va_up h0 (b + r) e) r m) (dd : decode y.2.1 pc = .ok (.invokespecial ix, 3)) (e0 : pc + 3 = pc2) (hst : st0 = av.reverse ++ .ref (b + r) :: rest) (hnp : av.length = np) (hsum : (rest.map fun v => v.category).sum ≤ 8) (hd : d1 < d) (hm : y1.2.2.1 ≤ 17) (hm1 : 1 ≤ m) (hc1 : k + C1 ≤ C0) (hc2 : j + S1 ≤ S0) (kk : zX (zn_G l D ar b Z) y (zc_rm d C0 S0) F pc2 L rest (zc b ar h0 r m) (b + (r + m)) (k + C1) (j + S1)) : zX (zn_G l D ar b Z) y (zc_rm d C0 S0) F pc L st0 (va_up h0 (b + r) e) (b + (r + 1)) k j :=
  zx_callI f fs hM dd e0 hst hnp hsum (by show d1 + 1 ≤ d; omega) (by show 8 + (y1.2.2.1 + 11) + 36 * d1 ≤ 36 * d; omega) hc1 hc2 (by rintro _ _ _ ⟨rfl, rfl, rfl⟩; rw [zc_up hm1]; exact kk)
theorem zc_store {R : Room} {ra t N r0 w i ci : Nat} {vs : List Value} {r1 : vw_C} (dd : decode y.2.1 pc = .ok (.aastore, 1)) (e0 : pc + 1 = pc2) (hra : ra < r0) (hw : 0 < w) (ht : (zn_at ar)[t]? = some (ar t, .object r1.1)) (hv : zm_h b ar zl zc_M (b + (r0 + w * i)) = some (.inr (ci, vs))) (hc : zn_cl[ci]? = some r1) (hi : i < N) (hN : N < 2 ^ 31) (kk : zX (zn_G l D ar b Z) y R F pc2 L st (zc_H b ar h ra t N r0 w (i + 1)) n k j) : zX (zn_G l D ar b Z) y R F pc L (.ref (b + (r0 + w * i)) :: .int (nI i) :: .ref (b + ra) :: st) (zc b ar (zc_H b ar h ra t N r0 w i) (r0 + w * i) w) n k j :=
  zx_aast dd e0 ((zc_out (Or.inl (by omega))).trans zc_Ha) ht ((zc_in (by omega)).trans hv) hc (vp_in_nI hi hN) (by rw [nI_clamp (Nat.lt_trans hi hN), zc_fs]; exact zc_Hs hra) kk
theorem zc_done {R : Room} {ra t N r0 w s0 d0 : Nat} (h4 : 4 ≤ t) (hl : zl ra = some (.inl (t, N, s0, d0))) (hf : ∀ i, i < N → zm_ar b zc_M ra s0 d0 i = some (b + (r0 + w * i))) (kk : zX (zn_G l D ar b Z) y R F pc L st (zc_A b ar h ra r0 (w * N)) n k j) : zX (zn_G l D ar b Z) y R F pc L st (zc_H b ar h ra t N r0 w N) n k j := by
  intro p e s mm args below meth c C ls H locs hl' hR hS
  refine kk p e s mm args below meth c C ls H locs hl' ⟨hR.1, fun a x hx => ?_, hR.2.2⟩ hS
  unfold zc_A va_up at hx
  by_cases ca : a = b + ra
  · rw [if_pos ca] at hx
    subst ca
    obtain ⟨g1, g2⟩ := hR.2.1 (b + ra) _ zc_Ha
    rw [zm_at hl] at hx
    refine ⟨g1, ?_⟩
    obtain ⟨t', ht'⟩ : ∃ t', t = t' + 4 := ⟨t - 4, by omega⟩
    subst ht'
    have hx' := Option.some.inj hx
    subst hx'
    have g3 : H[b + ra]? = some (vp_cell (ar (t' + 4)) (N, .inr (.inr (.inr (.inr (zc_f b r0 w N)))))) := g2
    show H[b + ra]? = some (vp_cell (ar (t' + 4)) (N, .inr (.inr (.inr (.inr (zm_ar b zc_M ra s0 d0))))))
    rw [g3, vp_cell_q, vp_cell_q]
    refine congrArg some ?_
    unfold arrV
    refine congrArg (fun z => ({ cls := ar (t' + 4), slots := z, vm := .none } : Cell)) (congrArg Array.ofFn (funext fun q => ?_))
    show va_rf (zc_f b r0 w N q.1) = va_rf (zm_ar b zc_M ra s0 d0 q.1)
    rw [hf q.1 q.2, show zc_f b r0 w N q.1 = some (b + (r0 + w * q.1)) from if_pos q.2]
  · rw [if_neg ca] at hx
    exact hR.2.1 a x ((va_up_ne _ _ ca).trans hx)
end ZC
section C42
variable {l : Launch} {D : va_G} {ar : Nat → ClassId} {b : Nat} {Z : State → Prop} {h : zx_H}
theorem n_Sh {r : Nat} (hr : zl_Sh r) (hf : h (b + r) = some (.inr (2, [.null, .null, .null, .null]))) : zN l D ar b Z y_Sh_init 1 4 32 [.ref (b + r)] h r 5 := by
  obtain ⟨r0, r1, r2, r3, r4⟩ := hr
  have z0 : zm_h b ar zl zc_M (b + r) = some (.inr (2, [.ref (b + (r + 1)), .ref (b + (r + 2)), .ref (b + (r + 3)), .ref (b + (r + 4))])) := zm_at r0
  have z1 : zm_h b ar zl zc_M (b + (r + 1)) = some (.inl (ar 0, 8, .inl (fun _ => 0))) := by rw [zm_at r1, ← zc_Ia r1]; rfl
  have z2 : zm_h b ar zl zc_M (b + (r + 2)) = some (.inl (ar 0, 8, .inl (fun _ => 0))) := by rw [zm_at r2, ← zc_Ia r2]; rfl
  have z3 : zm_h b ar zl zc_M (b + (r + 3)) = some (.inl (ar 0, 8, .inl (fun _ => 0))) := by rw [zm_at r3, ← zc_Ia r3]; rfl
  have z4 : zm_h b ar zl zc_M (b + (r + 4)) = some (.inl (ar 1, 8, .inr (.inl (fun _ => 0)))) := zm_at r4
  refine zc_entry (L := [some (.ref (b + r))]) rfl rfl (Nat.le_of_ble_eq_true rfl) rfl rfl ?_
  refine zx_aload_n (pc2 := 1) d_Sh_init_0 rfl rfl ?_
  refine zx_objInit (pc2 := 4) d_Sh_init_1 rfl zn_w41 zn_w27 zn_w28 (by decide) (Nat.le_of_ble_eq_true rfl) ?_
  refine zx_aload_n (pc2 := 5) d_Sh_init_4 rfl rfl ?_
  refine zx_bipush (pc2 := 7) (v := nI 8) d_Sh_init_5 rfl (by decide) ?_
  refine zc_newa (pc2 := 9) (t0 := 0) (N0 := 8) (a0 := (8, .inl (fun _ => 0))) d_Sh_init_7 rfl zn_w62 rfl rfl (fun _ hz => by cases hz) (fun _ => rfl) (by decide) rfl (by decide) (Nat.le_of_ble_eq_true rfl) (Nat.le_of_ble_eq_true rfl) ?_
  refine zx_putF (pc2 := 12) p_Sh_9 rfl d_Sh_init_9 rfl ((va_up_ne _ _ (by omega)).trans hf) rfl rfl (Nat.le_of_ble_eq_true rfl) rfl ?_
  refine zx_aload_n (pc2 := 13) d_Sh_init_12 rfl rfl ?_
  refine zx_bipush (pc2 := 15) (v := nI 8) d_Sh_init_13 rfl (by decide) ?_
  refine zc_newa (pc2 := 17) (t0 := 0) (N0 := 8) (a0 := (8, .inl (fun _ => 0))) d_Sh_init_15 rfl zn_w62 rfl rfl (fun _ hz => by cases hz) (fun _ => rfl) (by decide) rfl (by decide) (Nat.le_of_ble_eq_true rfl) (Nat.le_of_ble_eq_true rfl) ?_
  refine zx_putF (pc2 := 20) p_Sh_15 rfl d_Sh_init_17 rfl ((va_up_ne _ _ (by omega)).trans (va_up_self _ _ _)) rfl rfl (Nat.le_of_ble_eq_true rfl) rfl ?_
  refine zx_aload_n (pc2 := 21) d_Sh_init_20 rfl rfl ?_
  refine zx_bipush (pc2 := 23) (v := nI 8) d_Sh_init_21 rfl (by decide) ?_
  refine zc_newa (pc2 := 25) (t0 := 0) (N0 := 8) (a0 := (8, .inl (fun _ => 0))) d_Sh_init_23 rfl zn_w62 rfl rfl (fun _ hz => by cases hz) (fun _ => rfl) (by decide) rfl (by decide) (Nat.le_of_ble_eq_true rfl) (Nat.le_of_ble_eq_true rfl) ?_
  refine zx_putF (pc2 := 28) p_Sh_18 rfl d_Sh_init_25 rfl ((va_up_ne _ _ (by omega)).trans (va_up_self _ _ _)) rfl rfl (Nat.le_of_ble_eq_true rfl) rfl ?_
  refine zx_aload_n (pc2 := 29) d_Sh_init_28 rfl rfl ?_
  refine zx_bipush (pc2 := 31) (v := nI 8) d_Sh_init_29 rfl (by decide) ?_
  refine zc_newa (pc2 := 33) (t0 := 1) (N0 := 8) (a0 := (8, .inr (.inl (fun _ => 0)))) d_Sh_init_31 rfl zn_w63 rfl rfl (fun _ hz => by cases hz) (fun _ => rfl) (by decide) rfl (by decide) (Nat.le_of_ble_eq_true rfl) (Nat.le_of_ble_eq_true rfl) ?_
  refine zx_putF (pc2 := 36) p_Sh_21 rfl d_Sh_init_33 rfl ((va_up_ne _ _ (by omega)).trans (va_up_self _ _ _)) rfl rfl (Nat.le_of_ble_eq_true rfl) rfl ?_
  refine zx_vret d_Sh_init_36 rfl (⟨rfl, zc_eq (fun i hi => ?_) (fun a ha => ?_), rfl⟩)
  · match i, hi with
    | 0, _ => exact (va_up_self _ _ _).trans z0.symm
    | 1, _ => simp only [va_up]; rw [if_neg (by omega), if_neg (by omega), if_neg (by omega), if_neg (by omega), if_neg (by omega), if_neg (by omega), if_neg (by omega), if_pos (by first | omega | trivial)]; exact z1.symm
    | 2, _ => simp only [va_up]; rw [if_neg (by omega), if_neg (by omega), if_neg (by omega), if_neg (by omega), if_neg (by omega), if_pos (by first | omega | trivial)]; exact z2.symm
    | 3, _ => simp only [va_up]; rw [if_neg (by omega), if_neg (by omega), if_neg (by omega), if_pos (by first | omega | trivial)]; exact z3.symm
    | 4, _ => simp only [va_up]; rw [if_neg (by omega), if_pos (by first | omega | trivial)]; exact z4.symm
    | q + 5, hq => omega
  · simp only [va_up]; rw [if_neg (by omega), if_neg (by omega), if_neg (by omega), if_neg (by omega), if_neg (by omega), if_neg (by omega), if_neg (by omega), if_neg (by omega)]
theorem n_Re {r : Nat} (hr : zl_Re r) (hf : h (b + r) = some (.inr (5, [.int 0, .null]))) : zN l D ar b Z y_Re_init 1 1 3 [.ref (b + r)] h r 2 := by
  obtain ⟨r0, r1⟩ := hr
  have z0 : zm_h b ar zl zc_M (b + r) = some (.inr (5, [.int 0, .ref (b + (r + 1))])) := by rw [zm_at r0]; simp only [zm_cell, zm_fs, zc_Io r0 (by decide) (by decide)]
  have z1 : zm_h b ar zl zc_M (b + (r + 1)) = some (.inl (ar 1, 3, .inr (.inl (fun _ => 0)))) := zm_at r1
  refine zc_entry (L := [some (.ref (b + r))]) rfl rfl (Nat.le_of_ble_eq_true rfl) rfl rfl ?_
  refine zx_aload_n (pc2 := 1) d_Re_init_0 rfl rfl ?_
  refine zx_objInit (pc2 := 4) d_Re_init_1 rfl zn_w103 zn_w27 zn_w28 (by decide) (Nat.le_of_ble_eq_true rfl) ?_
  refine zx_aload_n (pc2 := 5) d_Re_init_4 rfl rfl ?_
  refine zx_iconst (pc2 := 6) (v := nI 3) d_Re_init_5 rfl (by decide) ?_
  refine zc_newa (pc2 := 8) (t0 := 1) (N0 := 3) (a0 := (3, .inr (.inl (fun _ => 0)))) d_Re_init_6 rfl zn_w63 rfl rfl (fun _ hz => by cases hz) (fun _ => rfl) (by decide) rfl (by decide) (Nat.le_of_ble_eq_true rfl) (Nat.le_of_ble_eq_true rfl) ?_
  refine zx_putF (pc2 := 11) p_Re_9 rfl d_Re_init_8 rfl ((va_up_ne _ _ (by omega)).trans hf) rfl rfl (Nat.le_of_ble_eq_true rfl) rfl ?_
  refine zx_vret d_Re_init_11 rfl (⟨rfl, zc_eq (fun i hi => ?_) (fun a ha => ?_), rfl⟩)
  · match i, hi with
    | 0, _ => exact (va_up_self _ _ _).trans z0.symm
    | 1, _ => simp only [va_up]; rw [if_neg (by omega), if_pos (by first | omega | trivial)]; exact z1.symm
    | q + 2, hq => omega
  · simp only [va_up]; rw [if_neg (by omega), if_neg (by omega)]
theorem n_Ga {r : Nat} (r0 : zl r = some (.inr (8, [none, none, none, some (some (r + 1)), some (some (r + 2))]))) (r1 : zl (r + 1) = some (.inl (0, 3, 0, 0))) (r2 : zl (r + 2) = some (.inl (1, 3, 0, 0))) (hf : h (b + r) = some (.inr (8, [.int 0, .int 0, .int 0, .null, .null]))) : zN l D ar b Z y_Ga_init 1 2 6 [.ref (b + r)] h r 3 := by
  have z0 : zm_h b ar zl zc_M (b + r) = some (.inr (8, [.int 0, .int 0, .int 0, .ref (b + (r + 1)), .ref (b + (r + 2))])) := by rw [zm_at r0]; simp only [zm_cell, zm_fs, zc_Io r0 (by decide) (by decide)]
  have z1 : zm_h b ar zl zc_M (b + (r + 1)) = some (.inl (ar 0, 3, .inl (fun _ => 0))) := by rw [zm_at r1, ← zc_Ia r1]; rfl
  have z2 : zm_h b ar zl zc_M (b + (r + 2)) = some (.inl (ar 1, 3, .inr (.inl (fun _ => 0)))) := zm_at r2
  refine zc_entry (L := [some (.ref (b + r))]) rfl rfl (Nat.le_of_ble_eq_true rfl) rfl rfl ?_
  refine zx_aload_n (pc2 := 1) d_Ga_init_0 rfl rfl ?_
  refine zx_objInit (pc2 := 4) d_Ga_init_1 rfl zn_w233 zn_w27 zn_w28 (by decide) (Nat.le_of_ble_eq_true rfl) ?_
  refine zx_aload_n (pc2 := 5) d_Ga_init_4 rfl rfl ?_
  refine zx_iconst (pc2 := 6) (v := nI 3) d_Ga_init_5 rfl (by decide) ?_
  refine zc_newa (pc2 := 8) (t0 := 0) (N0 := 3) (a0 := (3, .inl (fun _ => 0))) d_Ga_init_6 rfl zn_w62 rfl rfl (fun _ hz => by cases hz) (fun _ => rfl) (by decide) rfl (by decide) (Nat.le_of_ble_eq_true rfl) (Nat.le_of_ble_eq_true rfl) ?_
  refine zx_putF (pc2 := 11) p_Ga_9 rfl d_Ga_init_8 rfl ((va_up_ne _ _ (by omega)).trans hf) rfl rfl (Nat.le_of_ble_eq_true rfl) rfl ?_
  refine zx_aload_n (pc2 := 12) d_Ga_init_11 rfl rfl ?_
  refine zx_iconst (pc2 := 13) (v := nI 3) d_Ga_init_12 rfl (by decide) ?_
  refine zc_newa (pc2 := 15) (t0 := 1) (N0 := 3) (a0 := (3, .inr (.inl (fun _ => 0)))) d_Ga_init_13 rfl zn_w63 rfl rfl (fun _ hz => by cases hz) (fun _ => rfl) (by decide) rfl (by decide) (Nat.le_of_ble_eq_true rfl) (Nat.le_of_ble_eq_true rfl) ?_
  refine zx_putF (pc2 := 18) p_Ga_15 rfl d_Ga_init_15 rfl ((va_up_ne _ _ (by omega)).trans (va_up_self _ _ _)) rfl rfl (Nat.le_of_ble_eq_true rfl) rfl ?_
  refine zx_vret d_Ga_init_18 rfl (⟨rfl, zc_eq (fun i hi => ?_) (fun a ha => ?_), rfl⟩)
  · match i, hi with
    | 0, _ => exact (va_up_self _ _ _).trans z0.symm
    | 1, _ => simp only [va_up]; rw [if_neg (by omega), if_neg (by omega), if_neg (by omega), if_pos (by first | omega | trivial)]; exact z1.symm
    | 2, _ => simp only [va_up]; rw [if_neg (by omega), if_pos (by first | omega | trivial)]; exact z2.symm
    | q + 3, hq => omega
  · simp only [va_up]; rw [if_neg (by omega), if_neg (by omega), if_neg (by omega), if_neg (by omega)]
theorem n_Sp {r : Nat} (hr : zl_Sp r) (hf : h (b + r) = some (.inr (4, [.int 0, .int 0, .int 0, .null]))) : zN l D ar b Z y_Sp_init 2 2 5 [.ref (b + r)] h r 3 := by
  obtain ⟨r0, r1⟩ := hr
  have z0 : zm_h b ar zl zc_M (b + r) = some (.inr (4, [.int 0, .int 0, .int 0, .ref (b + (r + 1))])) := by rw [zm_at r0]; simp only [zm_cell, zm_fs, zc_Io r0 (by decide) (by decide)]
  refine zc_entry (L := [some (.ref (b + r))]) rfl rfl (Nat.le_of_ble_eq_true rfl) rfl rfl ?_
  refine zx_aload_n (pc2 := 1) d_Sp_init_0 rfl rfl ?_
  refine zx_objInit (pc2 := 4) d_Sp_init_1 rfl zn_w97 zn_w27 zn_w28 (by decide) (Nat.le_of_ble_eq_true rfl) ?_
  refine zx_aload_n (pc2 := 5) d_Sp_init_4 rfl rfl ?_
  refine zc_new (pc2 := 8) (ci := 5) (ty0 := zn_tRe) d_Sp_init_5 rfl rfl zn_uRe zn_oRe zc_dRe zn_w98 zn_w99 zn_w6 (by omega) (by omega) ?_
  refine zx_dup (pc2 := 9) d_Sp_init_8 rfl rfl ?_
  refine zc_callI (pc2 := 12) s_Sp_11 i_Re_init (n_Re r1 (va_up_self _ _ _)) d_Sp_init_9 rfl rfl rfl (Nat.le_of_ble_eq_true rfl) (by decide) (by decide) (by decide) (by omega) (by omega) ?_
  refine zx_putF (pc2 := 15) p_Sp_12 rfl d_Sp_init_12 rfl ((zc_out (Or.inl (by omega))).trans hf) rfl rfl (Nat.le_of_ble_eq_true rfl) rfl ?_
  refine zx_vret d_Sp_init_15 rfl (⟨rfl, zc_eq (fun i hi => ?_) (fun a ha => ?_), rfl⟩)
  · by_cases c : i = 0
    · subst c
      exact (va_up_self _ _ _).trans z0.symm
    · exact (va_up_ne _ _ (by omega)).trans (zc_in (by omega))
  · exact (va_up_ne _ _ (by omega)).trans (zc_out (by omega))
theorem n_St {r : Nat} (r0 : zl_St r) (r1 : zl_Sh (r + 1)) (hf : h (b + r) = some (.inr (1, [.int 0, .int 0, .int 0, .null]))) : zN l D ar b Z y_St_init 2 5 36 [.ref (b + r)] h r 6 := by
  have z0 : zm_h b ar zl zc_M (b + r) = some (.inr (1, [.int 0, .int 1, .int 0, .ref (b + (r + 1))])) := by rw [zm_at r0]; simp only [zm_cell, zm_fs, zc_Is r0]; rfl
  refine zc_entry (L := [some (.ref (b + r))]) rfl rfl (Nat.le_of_ble_eq_true rfl) rfl rfl ?_
  refine zx_aload_n (pc2 := 1) d_St_init_0 rfl rfl ?_
  refine zx_objInit (pc2 := 4) d_St_init_1 rfl zn_w35 zn_w27 zn_w28 (by decide) (Nat.le_of_ble_eq_true rfl) ?_
  refine zx_aload_n (pc2 := 5) d_St_init_4 rfl rfl ?_
  refine zx_iconst (pc2 := 6) (v := nI 1) d_St_init_5 rfl (by decide) ?_
  refine zx_putf (pc2 := 9) p_St_7 d_St_init_6 rfl (hf) rfl rfl (Nat.le_of_ble_eq_true rfl) rfl ?_
  refine zx_aload_n (pc2 := 10) d_St_init_9 rfl rfl ?_
  refine zc_new (pc2 := 13) (ci := 2) (ty0 := zn_tSh) d_St_init_10 rfl rfl zn_uSh zn_oSh zc_dSh zn_w36 zn_w37 zn_w3 (by omega) (by omega) ?_
  refine zx_dup (pc2 := 14) d_St_init_13 rfl rfl ?_
  refine zc_callI (pc2 := 17) s_St_15 i_Sh_init (n_Sh r1 (va_up_self _ _ _)) d_St_init_14 rfl rfl rfl (Nat.le_of_ble_eq_true rfl) (by decide) (by decide) (by decide) (by omega) (by omega) ?_
  refine zx_putF (pc2 := 20) p_St_16 rfl d_St_init_17 rfl ((zc_out (Or.inl (by omega))).trans (va_up_self _ _ _)) rfl rfl (Nat.le_of_ble_eq_true rfl) rfl ?_
  refine zx_vret d_St_init_20 rfl (⟨rfl, zc_eq (fun i hi => ?_) (fun a ha => ?_), rfl⟩)
  · by_cases c : i = 0
    · subst c
      exact (va_up_self _ _ _).trans z0.symm
    · exact (va_up_ne _ _ (by omega)).trans (zc_in (by omega))
  · exact (va_up_ne _ _ (by omega)).trans ((zc_out (by omega)).trans (va_up_ne _ _ (by omega)))
theorem n_Le {r : Nat} (hr : zl_Le r) (hf : h (b + r) = some (.inr (7, [.int 0, .int 0, .int 0, .int 0, .int 0, .int 0, .int 0, .long 0, .null]))) : zN l D ar b Z y_Le_init 2 5 36 [.ref (b + r)] h r 6 := by
  obtain ⟨r0, r1⟩ := hr
  have z0 : zm_h b ar zl zc_M (b + r) = some (.inr (7, [.int 0, .int 0, .int 0, .int 0, .int 0, .int 0, .int 0, .long 0, .ref (b + (r + 1))])) := by rw [zm_at r0]; simp only [zm_cell, zm_fs, zc_Io r0 (by decide) (by decide)]; rfl
  refine zc_entry (L := [some (.ref (b + r))]) rfl rfl (Nat.le_of_ble_eq_true rfl) rfl rfl ?_
  refine zx_aload_n (pc2 := 1) d_Le_init_0 rfl rfl ?_
  refine zx_objInit (pc2 := 4) d_Le_init_1 rfl zn_w174 zn_w27 zn_w28 (by decide) (Nat.le_of_ble_eq_true rfl) ?_
  refine zx_aload_n (pc2 := 5) d_Le_init_4 rfl rfl ?_
  refine zc_new (pc2 := 8) (ci := 2) (ty0 := zn_tSh) d_Le_init_5 rfl rfl zn_uSh zn_oSh zc_dSh zn_w175 zn_w37 zn_w3 (by omega) (by omega) ?_
  refine zx_dup (pc2 := 9) d_Le_init_8 rfl rfl ?_
  refine zc_callI (pc2 := 12) s_Le_11 i_Sh_init (n_Sh r1 (va_up_self _ _ _)) d_Le_init_9 rfl rfl rfl (Nat.le_of_ble_eq_true rfl) (by decide) (by decide) (by decide) (by omega) (by omega) ?_
  refine zx_putF (pc2 := 15) p_Le_12 rfl d_Le_init_12 rfl ((zc_out (Or.inl (by omega))).trans hf) rfl rfl (Nat.le_of_ble_eq_true rfl) rfl ?_
  refine zx_vret d_Le_init_15 rfl (⟨rfl, zc_eq (fun i hi => ?_) (fun a ha => ?_), rfl⟩)
  · by_cases c : i = 0
    · subst c
      exact (va_up_self _ _ _).trans z0.symm
    · exact (va_up_ne _ _ (by omega)).trans (zc_in (by omega))
  · exact (va_up_ne _ _ (by omega)).trans (zc_out (by omega))
end C42
