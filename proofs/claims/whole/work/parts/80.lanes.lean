/-! Bytes of longs; the field's laws; a report out of three shares (pure) -/
theorem gl_lp : ∀ a, a < 256 → 1 ≤ a → gt_pw (gt_lg a) = a := by decide +kernel
theorem gl_pl : ∀ k, k < 255 → gt_lg (gt_pw k) = k := by decide +kernel
theorem gl_per : ∀ k, k < 255 → gt_pw (k + 255) = gt_pw k := by decide +kernel
theorem gl_pos : ∀ k, k < 510 → 1 ≤ gt_pw k := by decide +kernel
def gl_T (x : Nat) : Nat := (gt_tm x 8).1
theorem gl_T_eq (x : Nat) : gl_T x = x ^^^ gt_x2 x := by
  show (0 ^^^ x) ^^^ gt_x2 x = x ^^^ gt_x2 x
  rw [Nat.zero_xor]
theorem gl_x2 : ∀ x, x < 256 → gt_x2 x = (x <<< 1) ^^^ (x / 2 ^ 7 * 283) := by decide +kernel
theorem gl_b283 : ∀ u, u < 2 → ∀ v, v < 2 → (u ^^^ v) * 283 = (u * 283) ^^^ (v * 283) := by decide +kernel
theorem gl_x2_add {a b : Nat} (ha : a < 256) (hb : b < 256) : gt_x2 (a ^^^ b) = gt_x2 a ^^^ gt_x2 b := by
  rw [gl_x2 a ha, gl_x2 b hb, gl_x2 _ (gx_xor ha hb), Nat.shiftLeft_xor_distrib, Nat.xor_div_two_pow, gl_b283 _ (by omega) _ (by omega)]
  ac_rfl
theorem gl_T_add {a b : Nat} (ha : a < 256) (hb : b < 256) : gl_T (a ^^^ b) = gl_T a ^^^ gl_T b := by
  rw [gl_T_eq, gl_T_eq, gl_T_eq, gl_x2_add ha hb]
  ac_rfl
theorem gl_T_lt {a : Nat} (ha : a < 256) : gl_T a < 256 := by
  rw [gl_T_eq]; exact gx_xor ha (gt_x2_lt a ha)
def gl_it : Nat → Nat → Nat
  | 0, a => a
  | k + 1, a => gl_T (gl_it k a)
theorem gl_it_lt {a : Nat} (ha : a < 256) : ∀ k, gl_it k a < 256
  | 0 => ha
  | k + 1 => gl_T_lt (gl_it_lt ha k)
theorem gl_it_add {a b : Nat} (ha : a < 256) (hb : b < 256) : ∀ k, gl_it k (a ^^^ b) = gl_it k a ^^^ gl_it k b
  | 0 => rfl
  | k + 1 => by
    show gl_T (gl_it k (a ^^^ b)) = gl_T (gl_it k a) ^^^ gl_T (gl_it k b)
    rw [gl_it_add ha hb k, gl_T_add (gl_it_lt ha k) (gl_it_lt hb k)]
theorem gl_it_0 : ∀ k, gl_it k 0 = 0
  | 0 => rfl
  | k + 1 => by show gl_T (gl_it k 0) = 0; rw [gl_it_0 k]; rfl
theorem gl_it_pw {i : Nat} : ∀ k, i + k < 510 → gl_it k (gt_pw i) = gt_pw (i + k)
  | 0, _ => rfl
  | k + 1, h => by
    show gl_T (gl_it k (gt_pw i)) = _
    rw [gl_it_pw k (by omega)]
    exact (gt_pwS (i + k) (by omega)).symm
theorem gl_mul_it {a c : Nat} (ha : a < 256) (hc : c < 256) (h0 : c ≠ 0) : gt_mul a c = gl_it (gt_lg c) a := by
  unfold gt_mul
  by_cases h : a = 0
  · rw [if_pos (Or.inl h), h, gl_it_0]
  · rw [if_neg (fun z => z.elim h h0)]
    have e := gl_it_pw (i := gt_lg a) (gt_lg c) (by have := gt_lg_lt a ha; have := gt_lg_lt c hc; omega)
    rw [gl_lp a ha (by omega)] at e
    exact e.symm
theorem gl_mul_0r (a : Nat) : gt_mul a 0 = 0 := by unfold gt_mul; rw [if_pos (Or.inr rfl)]
theorem gl_mul_0l (a : Nat) : gt_mul 0 a = 0 := by unfold gt_mul; rw [if_pos (Or.inl rfl)]
theorem gl_comm (a b : Nat) : gt_mul a b = gt_mul b a := by
  unfold gt_mul
  by_cases h : a = 0 ∨ b = 0
  · rw [if_pos h, if_pos h.symm]
  · rw [if_neg h, if_neg (fun z => h z.symm), Nat.add_comm]
theorem gl_mul_1 {a : Nat} (ha : a < 256) : gt_mul a 1 = a := by
  rw [gl_mul_it ha (by decide) (by decide)]; rfl
theorem gl_add {a b c : Nat} (ha : a < 256) (hb : b < 256) (hc : c < 256) : gt_mul (a ^^^ b) c = gt_mul a c ^^^ gt_mul b c := by
  by_cases h : c = 0
  · subst h; rw [gl_mul_0r, gl_mul_0r, gl_mul_0r]; rfl
  · rw [gl_mul_it (gx_xor ha hb) hc h, gl_mul_it ha hc h, gl_mul_it hb hc h, gl_it_add ha hb]
theorem gl_addR {a b c : Nat} (ha : a < 256) (hb : b < 256) (hc : c < 256) : gt_mul c (a ^^^ b) = gt_mul c a ^^^ gt_mul c b := by
  rw [gl_comm, gl_add ha hb hc, gl_comm a, gl_comm b]
theorem gl_pm {k : Nat} (h : k < 510) : gt_pw k = gt_pw (k % 255) := by
  by_cases c : k < 255
  · rw [Nat.mod_eq_of_lt c]
  · have e := gl_per (k - 255) (by omega)
    rw [show k - 255 + 255 = k by omega] at e
    rw [e, show k % 255 = k - 255 by omega]
theorem gl_assoc {a b c : Nat} (ha : a < 256) (hb : b < 256) (hc : c < 256) : gt_mul (gt_mul a b) c = gt_mul a (gt_mul b c) := by
  by_cases h1 : a = 0
  · subst h1; rw [gl_mul_0l, gl_mul_0l, gl_mul_0l]
  by_cases h2 : b = 0
  · subst h2; rw [gl_mul_0r, gl_mul_0l, gl_mul_0r]
  by_cases h3 : c = 0
  · subst h3; rw [gl_mul_0r, gl_mul_0r, gl_mul_0r]
  have l1 := gt_lg_lt a ha
  have l2 := gt_lg_lt b hb
  have l3 := gt_lg_lt c hc
  have e1 : gt_mul a b = gt_pw (gt_lg a + gt_lg b) := by unfold gt_mul; rw [if_neg (fun z => z.elim h1 h2)]
  have e2 : gt_mul b c = gt_pw (gt_lg b + gt_lg c) := by unfold gt_mul; rw [if_neg (fun z => z.elim h2 h3)]
  have p1 := gl_pos (gt_lg a + gt_lg b) (by omega)
  have p2 := gl_pos (gt_lg b + gt_lg c) (by omega)
  rw [e1, e2]
  unfold gt_mul
  rw [if_neg (fun z => z.elim (by omega) h3), if_neg (fun z => z.elim h1 (by omega))]
  rw [gl_pm (k := gt_lg a + gt_lg b) (by omega), gl_pm (k := gt_lg b + gt_lg c) (by omega), gl_pl _ (Nat.mod_lt _ (by decide)), gl_pl _ (Nat.mod_lt _ (by decide))]
  have m1 : (gt_lg a + gt_lg b) % 255 < 255 := Nat.mod_lt _ (by decide)
  have m2 : (gt_lg b + gt_lg c) % 255 < 255 := Nat.mod_lt _ (by decide)
  rw [gl_pm (k := (gt_lg a + gt_lg b) % 255 + gt_lg c) (by omega), gl_pm (k := gt_lg a + (gt_lg b + gt_lg c) % 255) (by omega)]
  congr 1
  omega
/-- a share's value by powers -/
theorem gl_poly {b0 b1 b2 x : Nat} (h0 : b0 < 256) (h1 : b1 < 256) (h2 : b2 < 256) (hx : x < 256) : gt_mul (gt_mul (gt_mul 0 x ^^^ b2) x ^^^ b1) x ^^^ b0 = (gt_mul b2 (gt_mul x x) ^^^ gt_mul b1 x) ^^^ b0 := by
  rw [gl_mul_0l, Nat.zero_xor, gl_add (gt_mul_lt h2 hx) h1 hx, gl_assoc h2 hx hx]
theorem gl_lin {b0 b1 b2 x W : Nat} (h0 : b0 < 256) (h1 : b1 < 256) (h2 : b2 < 256) (hx : x < 256) (hW : W < 256) : gt_mul (gt_mul (gt_mul (gt_mul 0 x ^^^ b2) x ^^^ b1) x ^^^ b0) W = (gt_mul b2 (gt_mul (gt_mul x x) W) ^^^ gt_mul b1 (gt_mul x W)) ^^^ gt_mul b0 W := by
  have hxx := gt_mul_lt hx hx
  rw [gl_poly h0 h1 h2 hx, gl_add (gx_xor (gt_mul_lt h2 hxx) (gt_mul_lt h1 hx)) h0 hW, gl_add (gt_mul_lt h2 hxx) (gt_mul_lt h1 hx) hW, gl_assoc h2 hxx hW, gl_assoc h1 hx hW]
theorem gl_mix (A0 B0 C0 A1 B1 C1 A2 B2 C2 : Nat) : (((A0 ^^^ B0) ^^^ C0) ^^^ ((A1 ^^^ B1) ^^^ C1)) ^^^ ((A2 ^^^ B2) ^^^ C2) = ((((A0 ^^^ A1) ^^^ A2) ^^^ ((B0 ^^^ B1) ^^^ B2)) ^^^ ((C0 ^^^ C1) ^^^ C2)) := by ac_rfl
abbrev gl_sh (b0 b1 b2 x : Nat) : Nat := gt_mul (gt_mul (gt_mul 0 x ^^^ b2) x ^^^ b1) x ^^^ b0
theorem gl_sh_lt {b0 b1 b2 x : Nat} (h0 : b0 < 256) (h1 : b1 < 256) (h2 : b2 < 256) (hx : x < 256) : gl_sh b0 b1 b2 x < 256 := by
  unfold gl_sh
  rw [gl_poly h0 h1 h2 hx]
  exact gx_xor (gx_xor (gt_mul_lt h2 (gt_mul_lt hx hx)) (gt_mul_lt h1 hx)) h0
theorem gl_rt {b0 b1 b2 x0 x1 x2 W0 W1 W2 e0 e1 e2 : Nat} (h0 : b0 < 256) (h1 : b1 < 256) (h2 : b2 < 256) (k0 : x0 < 256) (k1 : x1 < 256) (k2 : x2 < 256) (w0 : W0 < 256) (w1 : W1 < 256) (w2 : W2 < 256)
    (q2 : (gt_mul (gt_mul x0 x0) W0 ^^^ gt_mul (gt_mul x1 x1) W1) ^^^ gt_mul (gt_mul x2 x2) W2 = e2) (q1 : (gt_mul x0 W0 ^^^ gt_mul x1 W1) ^^^ gt_mul x2 W2 = e1) (q0 : (W0 ^^^ W1) ^^^ W2 = e0) :
    (gt_mul (gl_sh b0 b1 b2 x0) W0 ^^^ gt_mul (gl_sh b0 b1 b2 x1) W1) ^^^ gt_mul (gl_sh b0 b1 b2 x2) W2 = (gt_mul b2 e2 ^^^ gt_mul b1 e1) ^^^ gt_mul b0 e0 := by
  have m0 := gt_mul_lt (gt_mul_lt k0 k0) w0
  have m1 := gt_mul_lt (gt_mul_lt k1 k1) w1
  have m2 := gt_mul_lt (gt_mul_lt k2 k2) w2
  have n0 := gt_mul_lt k0 w0
  have n1 := gt_mul_lt k1 w1
  have n2 := gt_mul_lt k2 w2
  unfold gl_sh
  rw [gl_lin h0 h1 h2 k0 w0, gl_lin h0 h1 h2 k1 w1, gl_lin h0 h1 h2 k2 w2, gl_mix]
  rw [← gl_addR m0 m1 h2, ← gl_addR (gx_xor m0 m1) m2 h2, ← gl_addR n0 n1 h1, ← gl_addR (gx_xor n0 n1) n2 h1, ← gl_addR w0 w1 h0, ← gl_addR (gx_xor w0 w1) w2 h0, q2, q1, q0]
/-- the three, when the sums of the weights are a unit -/
theorem gl_u0 {b0 b1 b2 : Nat} (h : b0 < 256) : (gt_mul b2 0 ^^^ gt_mul b1 0) ^^^ gt_mul b0 1 = b0 := by
  rw [gl_mul_0r, gl_mul_0r, gl_mul_1 h]; simp
theorem gl_u1 {b0 b1 b2 : Nat} (h : b1 < 256) : (gt_mul b2 0 ^^^ gt_mul b1 1) ^^^ gt_mul b0 0 = b1 := by
  rw [gl_mul_0r, gl_mul_0r, gl_mul_1 h]; simp
theorem gl_u2 {b0 b1 b2 : Nat} (h : b2 < 256) : (gt_mul b2 1 ^^^ gt_mul b1 0) ^^^ gt_mul b0 0 = b2 := by
  rw [gl_mul_0r, gl_mul_0r, gl_mul_1 h]; simp
/-! the model's weights, the class's weights -/
def gl_I (x p q : Nat) : Nat := gt_inv (gt_mul (x ^^^ p) (x ^^^ q))
def gl_A (x p q : Nat) : Nat := gt_mul (gl_I x p q) (gt_mul p q)
def gl_B (x p q : Nat) : Nat := gt_mul (gl_I x p q) (p ^^^ q)
def gl_iv (k : Nat) : Nat := [0, 1, 141, 246, 203, 82, 123, 209].getD k 0
def gl_J (x p q : Nat) : Nat := gt_mul (gl_iv ((x ^^^ p) % 8)) (gl_iv ((x ^^^ q) % 8))
def gl_Ac (x p q : Nat) : Nat := gt_mul (gt_mul (gl_J x p q) p) q
def gl_Bc (x p q : Nat) : Nat := gt_mul (gl_J x p q) (p ^^^ q)
def gl_s2 (W : Nat → Nat → Nat → Nat) (x y z : Nat) : Nat := (gt_mul (gt_mul x x) (W x y z) ^^^ gt_mul (gt_mul y y) (W y z x)) ^^^ gt_mul (gt_mul z z) (W z x y)
def gl_s1 (W : Nat → Nat → Nat → Nat) (x y z : Nat) : Nat := (gt_mul x (W x y z) ^^^ gt_mul y (W y z x)) ^^^ gt_mul z (W z x y)
def gl_s0 (W : Nat → Nat → Nat → Nat) (x y z : Nat) : Nat := (W x y z ^^^ W y z x) ^^^ W z x y
abbrev gl_ok (W : Nat → Nat → Nat → Nat) (x y z : Nat) : Prop := W x y z < 256 ∧ W y z x < 256 ∧ W z x y < 256
def gl_ck (W : Nat → Nat → Nat → Nat) (x y z a b c : Nat) : Bool := decide (x = 0) || decide (y ≤ x) || decide (z ≤ y) || (decide (W x y z < 256) && decide (W y z x < 256) && decide (W z x y < 256) && decide (gl_s2 W x y z = a) && decide (gl_s1 W x y z = b) && decide (gl_s0 W x y z = c))
theorem gl_ck_of {W : Nat → Nat → Nat → Nat} {x y z a b c : Nat} (h : gl_ck W x y z a b c = true) (h1 : 1 ≤ x) (h2 : x < y) (h3 : y < z) : gl_ok W x y z ∧ gl_s2 W x y z = a ∧ gl_s1 W x y z = b ∧ gl_s0 W x y z = c := by
  unfold gl_ck at h
  simp only [Bool.or_eq_true, Bool.and_eq_true, decide_eq_true_eq] at h
  rcases h with ((h | h) | h) | h
  · omega
  · omega
  · omega
  · obtain ⟨⟨⟨⟨⟨q1, q2⟩, q3⟩, q4⟩, q5⟩, q6⟩ := h
    exact ⟨⟨q1, q2, q3⟩, q4, q5, q6⟩
theorem gl_mA0 : ∀ x, x < 8 → ∀ y, y < 8 → ∀ z, z < 8 → gl_ck gl_A x y z 0 0 1 = true := by decide +kernel
theorem gl_mA (x : Nat) (hx : x < 8) (y : Nat) (hy : y < 8) (z : Nat) (hz : z < 8) (h1 : 1 ≤ x) (h2 : x < y) (h3 : y < z) : gl_ok gl_A x y z ∧ gl_s2 gl_A x y z = 0 ∧ gl_s1 gl_A x y z = 0 ∧ gl_s0 gl_A x y z = 1 := gl_ck_of (gl_mA0 x hx y hy z hz) h1 h2 h3
theorem gl_mB0 : ∀ x, x < 8 → ∀ y, y < 8 → ∀ z, z < 8 → gl_ck gl_B x y z 0 1 0 = true := by decide +kernel
theorem gl_mB (x : Nat) (hx : x < 8) (y : Nat) (hy : y < 8) (z : Nat) (hz : z < 8) (h1 : 1 ≤ x) (h2 : x < y) (h3 : y < z) : gl_ok gl_B x y z ∧ gl_s2 gl_B x y z = 0 ∧ gl_s1 gl_B x y z = 1 ∧ gl_s0 gl_B x y z = 0 := gl_ck_of (gl_mB0 x hx y hy z hz) h1 h2 h3
theorem gl_mC0 : ∀ x, x < 8 → ∀ y, y < 8 → ∀ z, z < 8 → gl_ck gl_I x y z 1 0 0 = true := by decide +kernel
theorem gl_mC (x : Nat) (hx : x < 8) (y : Nat) (hy : y < 8) (z : Nat) (hz : z < 8) (h1 : 1 ≤ x) (h2 : x < y) (h3 : y < z) : gl_ok gl_I x y z ∧ gl_s2 gl_I x y z = 1 ∧ gl_s1 gl_I x y z = 0 ∧ gl_s0 gl_I x y z = 0 := gl_ck_of (gl_mC0 x hx y hy z hz) h1 h2 h3
theorem gl_cA0 : ∀ x, x < 8 → ∀ y, y < 8 → ∀ z, z < 8 → gl_ck gl_Ac x y z 0 0 1 = true := by decide +kernel
theorem gl_cA (x : Nat) (hx : x < 8) (y : Nat) (hy : y < 8) (z : Nat) (hz : z < 8) (h1 : 1 ≤ x) (h2 : x < y) (h3 : y < z) : gl_ok gl_Ac x y z ∧ gl_s2 gl_Ac x y z = 0 ∧ gl_s1 gl_Ac x y z = 0 ∧ gl_s0 gl_Ac x y z = 1 := gl_ck_of (gl_cA0 x hx y hy z hz) h1 h2 h3
theorem gl_cB0 : ∀ x, x < 8 → ∀ y, y < 8 → ∀ z, z < 8 → gl_ck gl_Bc x y z 0 1 0 = true := by decide +kernel
theorem gl_cB (x : Nat) (hx : x < 8) (y : Nat) (hy : y < 8) (z : Nat) (hz : z < 8) (h1 : 1 ≤ x) (h2 : x < y) (h3 : y < z) : gl_ok gl_Bc x y z ∧ gl_s2 gl_Bc x y z = 0 ∧ gl_s1 gl_Bc x y z = 1 ∧ gl_s0 gl_Bc x y z = 0 := gl_ck_of (gl_cB0 x hx y hy z hz) h1 h2 h3
theorem gl_cC0 : ∀ x, x < 8 → ∀ y, y < 8 → ∀ z, z < 8 → gl_ck gl_J x y z 1 0 0 = true := by decide +kernel
theorem gl_cC (x : Nat) (hx : x < 8) (y : Nat) (hy : y < 8) (z : Nat) (hz : z < 8) (h1 : 1 ≤ x) (h2 : x < y) (h3 : y < z) : gl_ok gl_J x y z ∧ gl_s2 gl_J x y z = 1 ∧ gl_s1 gl_J x y z = 0 ∧ gl_s0 gl_J x y z = 0 := gl_ck_of (gl_cC0 x hx y hy z hz) h1 h2 h3
theorem gl_rec0 {W : Nat → Nat → Nat → Nat} {b0 b1 b2 x y z : Nat} (h0 : b0 < 256) (h1 : b1 < 256) (h2 : b2 < 256) (hx : x < 8) (hy : y < 8) (hz : z < 8) (hW : gl_ok W x y z ∧ gl_s2 W x y z = 0 ∧ gl_s1 W x y z = 0 ∧ gl_s0 W x y z = 1) : (gt_mul (gl_sh b0 b1 b2 x) (W x y z) ^^^ gt_mul (gl_sh b0 b1 b2 y) (W y z x)) ^^^ gt_mul (gl_sh b0 b1 b2 z) (W z x y) = b0 :=
  (gl_rt h0 h1 h2 (by omega) (by omega) (by omega) hW.1.1 hW.1.2.1 hW.1.2.2 hW.2.1 hW.2.2.1 hW.2.2.2).trans (gl_u0 h0)
theorem gl_rec1 {W : Nat → Nat → Nat → Nat} {b0 b1 b2 x y z : Nat} (h0 : b0 < 256) (h1 : b1 < 256) (h2 : b2 < 256) (hx : x < 8) (hy : y < 8) (hz : z < 8) (hW : gl_ok W x y z ∧ gl_s2 W x y z = 0 ∧ gl_s1 W x y z = 1 ∧ gl_s0 W x y z = 0) : (gt_mul (gl_sh b0 b1 b2 x) (W x y z) ^^^ gt_mul (gl_sh b0 b1 b2 y) (W y z x)) ^^^ gt_mul (gl_sh b0 b1 b2 z) (W z x y) = b1 :=
  (gl_rt h0 h1 h2 (by omega) (by omega) (by omega) hW.1.1 hW.1.2.1 hW.1.2.2 hW.2.1 hW.2.2.1 hW.2.2.2).trans (gl_u1 h1)
theorem gl_rec2 {W : Nat → Nat → Nat → Nat} {b0 b1 b2 x y z : Nat} (h0 : b0 < 256) (h1 : b1 < 256) (h2 : b2 < 256) (hx : x < 8) (hy : y < 8) (hz : z < 8) (hW : gl_ok W x y z ∧ gl_s2 W x y z = 1 ∧ gl_s1 W x y z = 0 ∧ gl_s0 W x y z = 0) : (gt_mul (gl_sh b0 b1 b2 x) (W x y z) ^^^ gt_mul (gl_sh b0 b1 b2 y) (W y z x)) ^^^ gt_mul (gl_sh b0 b1 b2 z) (W z x y) = b2 :=
  (gl_rt h0 h1 h2 (by omega) (by omega) (by omega) hW.1.1 hW.1.2.1 hW.1.2.2 hW.2.1 hW.2.2.1 hW.2.2.2).trans (gl_u2 h2)
/-! bytes of longs -/
def wb (x : Int64) (i : Nat) : Nat := x.toBitVec.toNat / 2 ^ (8 * i) % 2 ^ 8
theorem wb_lt (x : Int64) (i : Nat) : wb x i < 256 := Nat.mod_lt _ (by decide)
theorem wb_xor (x y : Int64) (i : Nat) : wb (x ^^^ y) i = wb x i ^^^ wb y i := by
  unfold wb
  rw [Int64.toBitVec_xor, BitVec.toNat_xor, Nat.xor_div_two_pow, Nat.xor_mod_two_pow]
theorem wb_0 (i : Nat) : wb 0 i = 0 := by
  unfold wb
  rw [show (0 : Int64).toBitVec.toNat = 0 from rfl, Nat.zero_div, Nat.zero_mod]
def wl_S (a : Nat → Nat) : Nat := a 0 + 256 * a 1 + 65536 * a 2 + 16777216 * a 3 + 4294967296 * a 4 + 1099511627776 * a 5 + 281474976710656 * a 6 + 72057594037927936 * a 7
theorem wl_lt {a : Nat → Nat} (h : ∀ j, j < 8 → a j < 256) : wl_S a < 2 ^ 64 := by
  have h0 := h 0 (by decide); have h1 := h 1 (by decide); have h2 := h 2 (by decide); have h3 := h 3 (by decide)
  have h4 := h 4 (by decide); have h5 := h 5 (by decide); have h6 := h 6 (by decide); have h7 := h 7 (by decide)
  unfold wl_S; omega
theorem wl_at {a : Nat → Nat} (h : ∀ j, j < 8 → a j < 256) : ∀ i, i < 8 → wl_S a / 2 ^ (8 * i) % 2 ^ 8 = a i := by
  have h0 := h 0 (by decide); have h1 := h 1 (by decide); have h2 := h 2 (by decide); have h3 := h 3 (by decide)
  have h4 := h 4 (by decide); have h5 := h 5 (by decide); have h6 := h 6 (by decide); have h7 := h 7 (by decide)
  intro i hi
  unfold wl_S
  match i, hi with
  | 0, _ => show _ / 1 % 256 = _; omega
  | 1, _ => show _ / 256 % 256 = _; omega
  | 2, _ => show _ / 65536 % 256 = _; omega
  | 3, _ => show _ / 16777216 % 256 = _; omega
  | 4, _ => show _ / 4294967296 % 256 = _; omega
  | 5, _ => show _ / 1099511627776 % 256 = _; omega
  | 6, _ => show _ / 281474976710656 % 256 = _; omega
  | 7, _ => show _ / 72057594037927936 % 256 = _; omega
  | k + 8, hk => omega
theorem wl_of {N : Nat} (hN : N < 2 ^ 64) : wl_S (fun j => N / 2 ^ (8 * j) % 2 ^ 8) = N := by
  show N / 1 % 256 + 256 * (N / 256 % 256) + 65536 * (N / 65536 % 256) + 16777216 * (N / 16777216 % 256) + 4294967296 * (N / 4294967296 % 256) + 1099511627776 * (N / 1099511627776 % 256) + 281474976710656 * (N / 281474976710656 % 256) + 72057594037927936 * (N / 72057594037927936 % 256) = N
  omega
theorem wl_mul2 {N : Nat} (hN : N < 2 ^ 64) (h : ∀ j, j < 8 → N / 2 ^ (8 * j) % 2 ^ 8 < 128) : ∀ i, i < 8 → (N <<< 1 % 2 ^ 64) / 2 ^ (8 * i) % 2 ^ 8 = 2 * (N / 2 ^ (8 * i) % 2 ^ 8) := by
  intro i hi
  have e : wl_S (fun j => 2 * (N / 2 ^ (8 * j) % 2 ^ 8)) = N <<< 1 := by
    have e1 := wl_of hN
    rw [Nat.shiftLeft_eq]
    unfold wl_S at e1 ⊢
    dsimp only at e1 ⊢
    omega
  have hl : ∀ j, j < 8 → (fun j => 2 * (N / 2 ^ (8 * j) % 2 ^ 8)) j < 256 := fun j hj => by
    have := h j hj
    show 2 * (N / 2 ^ (8 * j) % 2 ^ 8) < 256
    omega
  have a := wl_at hl i hi
  rw [e] at a
  have b := wl_lt hl
  rw [e] at b
  rw [Nat.mod_eq_of_lt b]
  exact a
theorem wl_mul27 {N : Nat} (hN : N < 2 ^ 64) (h : ∀ j, j < 8 → N / 2 ^ (8 * j) % 2 ^ 8 < 2) : ∀ i, i < 8 → (N * 27 % 2 ^ 64) / 2 ^ (8 * i) % 2 ^ 8 = 27 * (N / 2 ^ (8 * i) % 2 ^ 8) := by
  intro i hi
  have e : wl_S (fun j => 27 * (N / 2 ^ (8 * j) % 2 ^ 8)) = N * 27 := by
    have e1 := wl_of hN
    unfold wl_S at e1 ⊢
    dsimp only at e1 ⊢
    omega
  have hl : ∀ j, j < 8 → (fun j => 27 * (N / 2 ^ (8 * j) % 2 ^ 8)) j < 256 := fun j hj => by
    have := h j hj
    show 27 * (N / 2 ^ (8 * j) % 2 ^ 8) < 256
    omega
  have a := wl_at hl i hi
  rw [e] at a
  have b := wl_lt hl
  rw [e] at b
  rw [Nat.mod_eq_of_lt b]
  exact a
theorem wl_and {N m : Nat} (i : Nat) : (N &&& m) / 2 ^ (8 * i) % 2 ^ 8 = (N / 2 ^ (8 * i) % 2 ^ 8) &&& (m / 2 ^ (8 * i) % 2 ^ 8) := by
  rw [Nat.and_div_two_pow, Nat.and_mod_two_pow]
theorem wl_m7 : ∀ i, i < 8 → 9187201950435737471 / 2 ^ (8 * i) % 2 ^ 8 = 127 := by decide +kernel
theorem wl_m1 : ∀ i, i < 8 → 72340172838076673 / 2 ^ (8 * i) % 2 ^ 8 = 1 := by decide +kernel
theorem wl_127 : ∀ v, v < 256 → v &&& 127 < 128 := by decide +kernel
theorem wl_x2 : ∀ v, v < 256 → (2 * (v &&& 127)) ^^^ (27 * (v / 128)) = gt_x2 v := by decide +kernel
theorem wl_pw (x : Int64) : (ff_pw x).toBitVec.toNat = ((x.toBitVec.toNat &&& 9187201950435737471) <<< 1 % 2 ^ 64) ^^^ (((x.toBitVec.toNat >>> 7) &&& 72340172838076673) * 27 % 2 ^ 64) := by
  unfold ff_pw
  rw [Int64.toBitVec_xor, BitVec.toNat_xor]
  rfl
theorem wb_pw (x : Int64) {i : Nat} (hi : i < 8) : wb (ff_pw x) i = gt_x2 (wb x i) := by
  have hN : x.toBitVec.toNat < 2 ^ 64 := x.toBitVec.isLt
  unfold wb
  rw [wl_pw]
  generalize x.toBitVec.toNat = N at hN
  have hA : ∀ j, j < 8 → (N &&& 9187201950435737471) / 2 ^ (8 * j) % 2 ^ 8 = (N / 2 ^ (8 * j) % 2 ^ 8) &&& 127 := fun j hj => by rw [wl_and, wl_m7 j hj]
  have hA2 : N &&& 9187201950435737471 < 2 ^ 64 := Nat.lt_of_le_of_lt Nat.and_le_left hN
  have hB : ∀ j, j < 8 → ((N >>> 7) &&& 72340172838076673) / 2 ^ (8 * j) % 2 ^ 8 = (N / 2 ^ (8 * j) % 2 ^ 8) / 128 := fun j hj => by
    rw [wl_and, wl_m1 j hj, Nat.and_one_is_mod, Nat.shiftRight_eq_div_pow, Nat.div_div_eq_div_mul, Nat.mul_comm, ← Nat.div_div_eq_div_mul]
    generalize N / 2 ^ (8 * j) = K
    omega
  have hB2 : (N >>> 7) &&& 72340172838076673 < 2 ^ 64 := Nat.lt_of_le_of_lt Nat.and_le_right (by decide)
  have hv : N / 2 ^ (8 * i) % 2 ^ 8 < 256 := Nat.mod_lt _ (by decide)
  have hA3 : ∀ j, j < 8 → (N &&& 9187201950435737471) / 2 ^ (8 * j) % 2 ^ 8 < 128 := fun j hj => by rw [hA j hj]; exact wl_127 _ (Nat.mod_lt _ (by decide))
  have hB3 : ∀ j, j < 8 → ((N >>> 7) &&& 72340172838076673) / 2 ^ (8 * j) % 2 ^ 8 < 2 := fun j hj => by
    rw [hB j hj]
    have : N / 2 ^ (8 * j) % 2 ^ 8 < 256 := Nat.mod_lt _ (by decide)
    omega
  rw [Nat.xor_div_two_pow, Nat.xor_mod_two_pow, wl_mul2 hA2 hA3 i hi, wl_mul27 hB2 hB3 i hi, hA i hi, hB i hi]
  exact wl_x2 _ hv
def gl_st (f : Int32) : Nat → Nat → Nat × Nat
  | 0, a => (0, a)
  | i + 1, a => (if ff_bit f i = nI 1 then (gl_st f i a).1 ^^^ (gl_st f i a).2 else (gl_st f i a).1, gt_x2 (gl_st f i a).2)
theorem wb_st (f : Int32) (x : Int64) {j : Nat} (hj : j < 8) : ∀ i, wb (ff_st f i x).1 j = (gl_st f i (wb x j)).1 ∧ wb (ff_st f i x).2 j = (gl_st f i (wb x j)).2
  | 0 => ⟨wb_0 j, rfl⟩
  | i + 1 => by
    obtain ⟨h1, h2⟩ := wb_st f x hj i
    refine ⟨?_, ?_⟩
    · show wb (if ff_bit f i = nI 1 then (ff_st f i x).1 ^^^ (ff_st f i x).2 else (ff_st f i x).1) j = if ff_bit f i = nI 1 then (gl_st f i (wb x j)).1 ^^^ (gl_st f i (wb x j)).2 else (gl_st f i (wb x j)).1
      by_cases c : ff_bit f i = nI 1
      · rw [if_pos c, if_pos c, wb_xor, h1, h2]
      · rw [if_neg c, if_neg c, h1]
    · show wb (ff_pw (ff_st f i x).2) j = gt_x2 (gl_st f i (wb x j)).2
      rw [wb_pw _ hj, h2]
theorem gl_stN : ∀ c, c < 8 → ∀ a, a < 256 → (gl_st (nI c) 8 a).1 = gt_mul a c := by decide +kernel
theorem gl_stI : ∀ k, k < 8 → ∀ a, a < 256 → (gl_st (ff_inv k) 8 a).1 = gt_mul a (gl_iv k) := by decide +kernel
theorem wb_times (x : Int64) {c j : Nat} (hc : c < 8) (hj : j < 8) : wb (ff_times x (nI c)) j = gt_mul (wb x j) c :=
  ((wb_st (nI c) x hj 8).1).trans (gl_stN c hc _ (wb_lt x j))
theorem wb_over (x : Int64) {a c j : Nat} (hj : j < 8) : wb (ff_over x a c) j = gt_mul (wb x j) (gl_iv ((a ^^^ c) % 8)) :=
  ((wb_st (ff_inv ((a ^^^ c) % 8)) x hj 8).1).trans (gl_stI _ (Nat.mod_lt _ (by decide)) _ (wb_lt x j))
