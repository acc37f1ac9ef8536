/-! statics and tables below the base -/
section ZXS
variable {G : zx_G} {y : zx_Y} {R : Room} {F : List Frame → Array Value → State → State → Prop} {pc pc2 : Nat} {L : zx_L} {st : List Value} {h : zx_H} {n k j : Nat}
theorem zx_gets {ix : Nat} {C0 nf ds : String} {v : Value} (dd : decode y.2.1 pc = .ok (.getstatic ix, 3)) (e0 : pc + 3 = pc2) (hz : ∀ U, zx_gZ G U → va_Z C0 nf ds v (zx_A G) U U.heap) (hlk : Cond.fieldLink y.1.cls ix C0 nf ds ∈ zx_gW G) (kk : zX G y R F pc2 L (v :: st) h n k j) : zX G y R F pc L st h n k j := by
  subst e0; intro p e s m args below meth c C ls H locs hl hR hS
  exact va_gets C.1 C.2.1 (hz s C.2.2.2.2.2.2.2.1) hS C.2.2.2.1 (C.2.2.2.2.1 _ hlk) (fun _ q => q) dd (kk p e s m args below meth c C ls H locs hl hR hS)
theorem zx_tald {t N q : Nat} {i : Int32} {f : Nat → Int32} (dd : decode y.2.1 pc = .ok (.iaload, 1)) (e0 : pc + 1 = pc2) (hz : ∀ U, zx_gZ G U → va_T .int t N (fun x => .int (f x)) (zx_A G) U U.heap) (hq : i = nI q) (hlt : q < N) (hN : N < 2 ^ 31) (kk : zX G y R F pc2 L (.int (f q) :: st) h n k j) : zX G y R F pc L (.int i :: .ref t :: st) h n k j := by
  subst e0; subst hq; intro p e s m args below meth c C ls H locs hl hR hS
  obtain ⟨cell, h1, h2, h3, h4, h5, h6, h7⟩ := hz s C.2.2.2.2.2.2.2.1
  have hlt' : t < s.heap.size := (Array.getElem?_eq_some_iff.mp h1).1
  have hc := nI_clamp (Nat.lt_trans hlt hN)
  refine W.iald (v := .int (f q)) C.1 C.2.1 (by rw [hS.2.1 t hlt' h7]; exact h1) h2 h3 ?_ (by rw [hc]; exact h6 q hlt) rfl rfl dd (kk p e s m args below meth c C ls H locs hl hR hS)
  intro z
  rcases z with z | z
  · exact nI_pos (Nat.lt_trans hlt hN) z
  · rw [hc] at z
    omega
theorem zx_sld {b0 N q : Nat} {i : Int32} {xs : Nat → Int32} (dd : decode y.2.1 pc = .ok (.iaload, 1)) (e0 : pc + 1 = pc2) (hz : ∀ U, zx_gZ G U → va_X b0 N xs U U.heap) (hb0 : b0 < zx_gB G) (hq : i = nI q) (hlt : q < N) (hN : N < 2 ^ 31) (kk : zX G y R F pc2 L (.int (xs q) :: st) h n k j) : zX G y R F pc L (.int i :: .ref b0 :: st) h n k j := by
  subst e0; subst hq; intro p e s m args below meth c C ls H locs hl hR hS
  refine va_sld C.1 C.2.1 (hz s C.2.2.2.2.2.2.2.1) (Nat.lt_of_lt_of_le hb0 C.2.2.2.2.2.2.1) (Nat.not_le.mpr hb0) hS (vp_in_nI hlt hN) dd ?_
  rw [nI_clamp (Nat.lt_trans hlt hN)]
  exact kk p e s m args below meth c C ls H locs hl hR hS
theorem zx_slen {b0 N : Nat} {xs : Nat → Int32} (dd : decode y.2.1 pc = .ok (.arraylength, 1)) (e0 : pc + 1 = pc2) (hz : ∀ U, zx_gZ G U → va_X b0 N xs U U.heap) (hb0 : b0 < zx_gB G) (kk : zX G y R F pc2 L (.int (nI N) :: st) h n k j) : zX G y R F pc L (.ref b0 :: st) h n k j := by
  subst e0; intro p e s m args below meth c C ls H locs hl hR hS
  exact va_slen C.1 C.2.1 (hz s C.2.2.2.2.2.2.2.1) (Nat.lt_of_lt_of_le hb0 C.2.2.2.2.2.2.1) (Nat.not_le.mpr hb0) hS dd (kk p e s m args below meth c C ls H locs hl hR hS)
end ZXS
section ZXC
variable {G : zx_G} {y : zx_Y} {R : Room} {F : List Frame → Array Value → State → State → Prop} {pc pc2 : Nat} {L : zx_L} {st : List Value} {h : zx_H} {n k j : Nat}
theorem zx_ldcw {ix : Nat} {v : Int32} (dd : decode y.2.1 pc = .ok (.ldc_w ix, 3)) (e0 : pc + 3 = pc2) (hc : Cond.constant y.1.cls ix v ∈ zx_gW G) (kk : zX G y R F pc2 L (.int v :: st) h n k j) : zX G y R F pc L st h n k j := by
  subst e0; intro p e s m args below meth c C ls H locs hl hR hS
  exact lv_ldcw C.1 C.2.1 C.2.2.2.1 (C.2.2.2.2.1 _ hc) dd (kk p e s m args below meth c C ls H locs hl hR hS)
theorem zx_mmax {ix : Nat} {x z : Int32} (dd : decode y.2.1 pc = .ok (.invokestatic ix, 3)) (e0 : pc + 3 = pc2) (h1 : Cond.methodLink y.1.cls ix Lib.Math.max.name ∈ zx_gW G) (h2 : Cond.static Lib.Math.max.name ∈ zx_gW G) (h3 : Cond.initialized "java/lang/Math" ∈ zx_gW G) (h4 : Cond.code Lib.Math.max.name Lib.Math.max.code 2 (some .int) ∈ zx_gW G) (hf : 1 ≤ R.frames) (hlc : (st.map fun v => v.category).sum + 13 ≤ R.locals) (hk : k ≤ R.cells) (hj : j ≤ R.slots) (kk : zX G y R F pc2 L (.int (if x < z then z else x) :: st) h n k j) : zX G y R F pc L (.int z :: .int x :: st) h n k j := by
  subst e0; intro p e s m args below meth c C ls H locs hl hR hS
  exact va_mmax C.1 C.2.1 (C.2.2.1.trans hl.1.symm) C.2.2.2.1 (C.2.2.2.2.1 _ h1) (C.2.2.2.2.1 _ h2) (C.2.2.2.2.1 _ h3) (C.2.2.2.2.1 _ h4) hf hlc hk hj dd (kk p e s m args below meth c C ls H locs hl hR hS)
end ZXC
