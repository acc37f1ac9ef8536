/-! Class against model (pure): three shares put together, on both sides -/
theorem gl_iv_lt : ∀ k, k < 8 → gl_iv k < 256 := by decide +kernel
/-- what one share adds to the three pieces, byte by byte -/
theorem addS_at {M : zm_M} {r x y z : Nat} {sh : Int64} (hx : x < 8) (hy : y < 8) (hz : z < 8) : we (fun q => q ≠ r + 1) M (fm_addShare M r sh x y z) ∧ ∀ i, i < 8 → wb (zm_J (fm_addShare M r sh x y z) (r + 1) 0) i = wb (zm_J M (r + 1) 0) i ^^^ gt_mul (wb sh i) (gl_Ac x y z) ∧ wb (zm_J (fm_addShare M r sh x y z) (r + 1) 1) i = wb (zm_J M (r + 1) 1) i ^^^ gt_mul (wb sh i) (gl_Bc x y z) ∧ wb (zm_J (fm_addShare M r sh x y z) (r + 1) 2) i = wb (zm_J M (r + 1) 2) i ^^^ gt_mul (wb sh i) (gl_J x y z) := by
  refine ⟨we_trans (we_trans (we_wJ (by omega)) (we_wJ (by omega))) (we_wJ (by omega)), fun i hi => ?_⟩
  have hv := wb_lt sh i
  have v1 := gl_iv_lt ((x ^^^ y) % 8) (Nat.mod_lt _ (by decide))
  have v2 := gl_iv_lt ((x ^^^ z) % 8) (Nat.mod_lt _ (by decide))
  have hJ : gl_J x y z < 256 := gt_mul_lt v1 v2
  have hsc : wb (ff_over (ff_over sh x y) x z) i = gt_mul (wb sh i) (gl_J x y z) := by
    rw [wb_over _ hi, wb_over _ hi, gl_assoc hv v1 v2]
    rfl
  have hyz : y ^^^ z < 8 := Nat.xor_lt_two_pow (n := 3) hy hz
  generalize hs : ff_over (ff_over sh x y) x z = sc at hsc
  unfold fm_addShare
  rw [hs]
  unfold fm_aS3 fm_aS2 fm_aS1
  refine ⟨?_, ?_, ?_⟩
  · rw [zm_Jn (Or.inr (by decide)), zm_Jn (Or.inr (by decide)), zm_Js, wb_xor, wb_times _ hz hi, wb_times _ hy hi, hsc, gl_assoc hv hJ (by omega), gl_assoc hv (gt_mul_lt hJ (by omega)) (by omega)]
    rfl
  · rw [zm_Jn (Or.inr (by decide)), zm_Js, zm_Jn (Or.inr (by decide)), wb_xor, nI_xor, wb_times _ hyz hi, hsc, gl_assoc hv hJ (by omega)]
    rfl
  · rw [zm_Js, zm_Jn (Or.inr (by decide)), zm_Jn (Or.inr (by decide)), wb_xor, hsc]
/-- the class puts three shares together -/
theorem tog_at {M : zm_M} {rr x y z : Nat} {pt : Nat → Nat} (h0 : pt 0 = x) (h1 : pt 1 = y) (h2 : pt 2 = z) (hx : 1 ≤ x) (hxy : x < y) (hyz : y < z) (hz : z < 8) (hrr : rr ≠ 541 ∧ rr ≠ 540) : we (fun q => q ≠ rr ∧ q ≠ rr + 1) M (fm_together M rr pt) ∧ zm_I (fm_together M rr pt) rr 0 = zm_I M 539 1 ∧ ∀ i, i < 8 → ∀ b0 b1 b2, b0 < 256 → b1 < 256 → b2 < 256 → wb (zm_J M 541 0) i = gl_sh b0 b1 b2 x → wb (zm_J M 541 1) i = gl_sh b0 b1 b2 y → wb (zm_J M 541 2) i = gl_sh b0 b1 b2 z → wb (zm_J (fm_together M rr pt) (rr + 1) 0) i = b0 ∧ wb (zm_J (fm_together M rr pt) (rr + 1) 1) i = b1 ∧ wb (zm_J (fm_together M rr pt) (rr + 1) 2) i = b2 := by
  obtain ⟨c1, c2⟩ := clP_at (M := zm_wI M rr 0 (zm_I M 539 1)) (r := rr)
  have w0 : we (fun q => q ≠ rr ∧ q ≠ rr + 1) M (fm_clearP (zm_wI M rr 0 (zm_I M 539 1)) rr) := we_trans (we_wI (by omega)) (we_mono c1 (fun q hq => hq.2))
  have r0 : zm_I (fm_clearP (zm_wI M rr 0 (zm_I M 539 1)) rr) rr 0 = zm_I M 539 1 := (we_I c1 (by omega)).trans zm_Is
  have eT : fm_together M rr pt = fm_addShare (fm_addShare (fm_addShare (fm_clearP (zm_wI M rr 0 (zm_I M 539 1)) rr) rr (zm_J M 541 0) x y z) rr (zm_J M 541 1) y z x) rr (zm_J M 541 2) z x y := by
    unfold fm_together
    generalize fm_clearP (zm_wI M rr 0 (zm_I M 539 1)) rr = N at w0
    show fm_tog rr pt 2 (fm_tog rr pt 1 (fm_tog rr pt 0 N)) = _
    have e0 : fm_tog rr pt 0 N = fm_addShare N rr (zm_J M 541 0) x y z := by
      show fm_addShare N rr (zm_J N 541 0) (pt 0) (pt 1) (pt 2) = _
      rw [h0, h1, h2, we_J w0 (by omega)]
    rw [e0]
    have a1 := (addS_at (M := N) (r := rr) (x := x) (y := y) (z := z) (sh := zm_J M 541 0) (by omega) (by omega) (by omega)).1
    generalize fm_addShare N rr (zm_J M 541 0) x y z = N1 at a1
    have e1 : fm_tog rr pt 1 N1 = fm_addShare N1 rr (zm_J M 541 1) y z x := by
      show fm_addShare N1 rr (zm_J N1 541 1) (pt 1) (pt 2) (pt 0) = _
      rw [h0, h1, h2, we_J a1 (by omega), we_J w0 (by omega)]
    rw [e1]
    have a2 := (addS_at (M := N1) (r := rr) (x := y) (y := z) (z := x) (sh := zm_J M 541 1) (by omega) (by omega) (by omega)).1
    generalize fm_addShare N1 rr (zm_J M 541 1) y z x = N2 at a2
    show fm_addShare N2 rr (zm_J N2 541 2) (pt 2) (pt 0) (pt 1) = _
    rw [h0, h1, h2, we_J a2 (by omega), we_J a1 (by omega), we_J w0 (by omega)]
  rw [eT]
  generalize fm_clearP (zm_wI M rr 0 (zm_I M 539 1)) rr = N at w0 r0 c2
  obtain ⟨p1, p2⟩ := addS_at (M := N) (r := rr) (x := x) (y := y) (z := z) (sh := zm_J M 541 0) (by omega) (by omega) hz
  generalize fm_addShare N rr (zm_J M 541 0) x y z = N1 at p1 p2
  obtain ⟨q1, q2⟩ := addS_at (M := N1) (r := rr) (x := y) (y := z) (z := x) (sh := zm_J M 541 1) (by omega) (by omega) (by omega)
  generalize fm_addShare N1 rr (zm_J M 541 1) y z x = N2 at q1 q2
  obtain ⟨s1, s2⟩ := addS_at (M := N2) (r := rr) (x := z) (y := x) (z := y) (sh := zm_J M 541 2) (by omega) (by omega) (by omega)
  generalize fm_addShare N2 rr (zm_J M 541 2) z x y = N3 at s1 s2
  refine ⟨we_trans w0 (we_mono (we_trans p1 (we_trans q1 s1)) (fun q hq => hq.2)), ?_, fun i hi b0 b1 b2 k0 k1 k2 v0 v1 v2 => ?_⟩
  · rw [we_I s1 (by omega), we_I q1 (by omega), we_I p1 (by omega), r0]
  · obtain ⟨p20, p21, p22⟩ := p2 i hi
    obtain ⟨q20, q21, q22⟩ := q2 i hi
    obtain ⟨s20, s21, s22⟩ := s2 i hi
    rw [s20, s21, s22, q20, q21, q22, p20, p21, p22, c2 0 (by decide), c2 1 (by decide), c2 2 (by decide), wb_0, Nat.zero_xor, Nat.zero_xor, Nat.zero_xor, v0, v1, v2]
    exact ⟨gl_rec0 k0 k1 k2 (by omega) (by omega) hz (gl_cA x (by omega) y (by omega) z hz hx hxy hyz), gl_rec1 k0 k1 k2 (by omega) (by omega) hz (gl_cB x (by omega) y (by omega) z hz hx hxy hyz), gl_rec2 k0 k1 k2 (by omega) (by omega) hz (gl_cC x (by omega) y (by omega) z hz hx hxy hyz)⟩
/-- the model solves -/
theorem solve_at {t0 t1 t2 b0 b1 b2 : Nat} (h01 : t0 < t1) (h12 : t1 < t2) (h2 : t2 < 7) (k0 : b0 < 256) (k1 : b1 < 256) (k2 : b2 < 256) : gs_p0 t0 t1 t2 (gl_sh b0 b1 b2 (t0 + 1)) (gl_sh b0 b1 b2 (t1 + 1)) (gl_sh b0 b1 b2 (t2 + 1)) = b0 ∧ gs_p1 t0 t1 t2 (gl_sh b0 b1 b2 (t0 + 1)) (gl_sh b0 b1 b2 (t1 + 1)) (gl_sh b0 b1 b2 (t2 + 1)) = b1 ∧ gs_p2 t0 t1 t2 (gl_sh b0 b1 b2 (t0 + 1)) (gl_sh b0 b1 b2 (t1 + 1)) (gl_sh b0 b1 b2 (t2 + 1)) = b2 := by
  have v0 := gl_sh_lt (x := t0 + 1) k0 k1 k2 (by omega)
  have v1 := gl_sh_lt (x := t1 + 1) k0 k1 k2 (by omega)
  have v2 := gl_sh_lt (x := t2 + 1) k0 k1 k2 (by omega)
  have mA := gl_mA (t0 + 1) (by omega) (t1 + 1) (by omega) (t2 + 1) (by omega) (by omega) (by omega) (by omega)
  have mB := gl_mB (t0 + 1) (by omega) (t1 + 1) (by omega) (t2 + 1) (by omega) (by omega) (by omega) (by omega)
  have mC := gl_mC (t0 + 1) (by omega) (t1 + 1) (by omega) (t2 + 1) (by omega) (by omega) (by omega) (by omega)
  have r0 := gl_rec0 k0 k1 k2 (show t0 + 1 < 8 by omega) (show t1 + 1 < 8 by omega) (show t2 + 1 < 8 by omega) mA
  have r1 := gl_rec1 k0 k1 k2 (show t0 + 1 < 8 by omega) (show t1 + 1 < 8 by omega) (show t2 + 1 < 8 by omega) mB
  have r2 := gl_rec2 k0 k1 k2 (show t0 + 1 < 8 by omega) (show t1 + 1 < 8 by omega) (show t2 + 1 < 8 by omega) mC
  generalize gl_sh b0 b1 b2 (t0 + 1) = V0 at v0 r0 r1 r2
  generalize gl_sh b0 b1 b2 (t1 + 1) = V1 at v1 r0 r1 r2
  generalize gl_sh b0 b1 b2 (t2 + 1) = V2 at v2 r0 r1 r2
  obtain ⟨⟨i0, i1, i2⟩, _⟩ := mC
  have x12 : (t1 + 1) ^^^ (t2 + 1) < 256 := gx_xor (by omega) (by omega)
  have x20 : (t2 + 1) ^^^ (t0 + 1) < 256 := gx_xor (by omega) (by omega)
  have x01 : (t0 + 1) ^^^ (t1 + 1) < 256 := gx_xor (by omega) (by omega)
  refine ⟨?_, ?_, ?_⟩
  · show ((0 ^^^ gt_mul (gt_mul V0 (gl_I (t0 + 1) (t1 + 1) (t2 + 1))) (gt_mul (t1 + 1) (t2 + 1))) ^^^ gt_mul (gt_mul V1 (gl_I (t1 + 1) (t2 + 1) (t0 + 1))) (gt_mul (t2 + 1) (t0 + 1))) ^^^ gt_mul (gt_mul V2 (gl_I (t2 + 1) (t0 + 1) (t1 + 1))) (gt_mul (t0 + 1) (t1 + 1)) = b0
    rw [Nat.zero_xor, gl_assoc v0 i0 (gt_mul_lt (by omega) (by omega)), gl_assoc v1 i1 (gt_mul_lt (by omega) (by omega)), gl_assoc v2 i2 (gt_mul_lt (by omega) (by omega))]
    exact r0
  · show ((0 ^^^ gt_mul (gt_mul V0 (gl_I (t0 + 1) (t1 + 1) (t2 + 1))) ((t1 + 1) ^^^ (t2 + 1))) ^^^ gt_mul (gt_mul V1 (gl_I (t1 + 1) (t2 + 1) (t0 + 1))) ((t2 + 1) ^^^ (t0 + 1))) ^^^ gt_mul (gt_mul V2 (gl_I (t2 + 1) (t0 + 1) (t1 + 1))) ((t0 + 1) ^^^ (t1 + 1)) = b1
    rw [Nat.zero_xor, gl_assoc v0 i0 x12, gl_assoc v1 i1 x20, gl_assoc v2 i2 x01]
    exact r1
  · unfold gs_p2 gs_w
    rw [Nat.zero_xor]
    exact r2
theorem tk_at {W : zm_M} {m len i : Nat} {P : Nat → Nat} (hi : i < m) : ∀ k, we (fun r => r ≠ 567) W (gm_tk W m len i P k) ∧ (∀ j, j < k → m * j + i < len → zm_I (gm_tk W m len i P k) 567 (m * j + i) = nI (P j)) ∧ ∀ x, x % m ≠ i → zm_I (gm_tk W m len i P k) 567 x = zm_I W 567 x
  | 0 => ⟨we_refl, fun j hj => absurd hj (Nat.not_lt_zero _), fun _ _ => rfl⟩
  | k + 1 => by
    obtain ⟨i1, i2, i3⟩ := tk_at (W := W) (len := len) (P := P) hi k
    show we (fun r => r ≠ 567) W (if m * k + i < len then zm_wI (gm_tk W m len i P k) 567 (m * k + i) (nI (P k)) else gm_tk W m len i P k) ∧ (∀ j, j < k + 1 → m * j + i < len → zm_I (if m * k + i < len then zm_wI (gm_tk W m len i P k) 567 (m * k + i) (nI (P k)) else gm_tk W m len i P k) 567 (m * j + i) = nI (P j)) ∧ ∀ x, x % m ≠ i → zm_I (if m * k + i < len then zm_wI (gm_tk W m len i P k) 567 (m * k + i) (nI (P k)) else gm_tk W m len i P k) 567 x = zm_I W 567 x
    by_cases c : m * k + i < len
    · rw [if_pos c]
      refine ⟨we_trans i1 (we_wI (by omega)), fun j hj hl => ?_, fun x hx => ?_⟩
      · by_cases e : j = k
        · subst e; exact zm_Is
        · have hne : m * j + i ≠ m * k + i := fun z => e (Nat.eq_of_mul_eq_mul_left (show 0 < m by omega) (by omega))
          rw [zm_In (Or.inr hne)]
          exact i2 j (by omega) hl
      · rw [zm_In (Or.inr (fun z => hx (by rw [z, Nat.mul_add_mod, Nat.mod_eq_of_lt hi]))), i3 x hx]
    · rw [if_neg c]
      refine ⟨i1, fun j hj hl => ?_, i3⟩
      by_cases e : j = k
      · subst e; exact absurd hl c
      · exact i2 j (by omega) hl
/-- the model puts together: the bytes then -/
theorem tg_at {M : zm_M} {t0 t1 t2 len : Nat} {V0 V1 V2 f : Nat → Nat} (h01 : t0 < t1) (h12 : t1 < t2) (h2 : t2 < 7) (hf : ∀ x, f x < 256) (v0 : ∀ i, i < (len + 2) / 3 → V0 i = gs_shb f len t0 i) (v1 : ∀ i, i < (len + 2) / 3 → V1 i = gs_shb f len t1 i) (v2 : ∀ i, i < (len + 2) / 3 → V2 i = gs_shb f len t2 i) : ∀ n, n ≤ (len + 2) / 3 → we (fun r => r ≠ 567 ∧ r ≠ 568) M (gm_tg M t0 t1 t2 V0 V1 V2 len n) ∧ ∀ x, x < len → x % ((len + 2) / 3) < n → zm_I (gm_tg M t0 t1 t2 V0 V1 V2 len n) 567 x = nI (f x) := by
  intro n
  induction n with
  | zero => exact fun _ => ⟨we_refl, fun x _ hx => absurd hx (Nat.not_lt_zero _)⟩
  | succ n ih =>
    intro hn
    obtain ⟨i1, i2⟩ := ih (by omega)
    show we (fun r => r ≠ 567 ∧ r ≠ 568) M (gm_tk (gm_sv (gm_tg M t0 t1 t2 V0 V1 V2 len n) (gs_p0 t0 t1 t2 (V0 n) (V1 n) (V2 n)) (gs_p1 t0 t1 t2 (V0 n) (V1 n) (V2 n)) (gs_p2 t0 t1 t2 (V0 n) (V1 n) (V2 n))) ((len + 2) / 3) len n (gs_P t0 t1 t2 (V0 n) (V1 n) (V2 n)) 3) ∧ ∀ x, x < len → x % ((len + 2) / 3) < n + 1 → zm_I (gm_tk (gm_sv (gm_tg M t0 t1 t2 V0 V1 V2 len n) (gs_p0 t0 t1 t2 (V0 n) (V1 n) (V2 n)) (gs_p1 t0 t1 t2 (V0 n) (V1 n) (V2 n)) (gs_p2 t0 t1 t2 (V0 n) (V1 n) (V2 n))) ((len + 2) / 3) len n (gs_P t0 t1 t2 (V0 n) (V1 n) (V2 n)) 3) 567 x = nI (f x)
    generalize gm_tg M t0 t1 t2 V0 V1 V2 len n = W at i1 i2
    have wS : we (fun r => r ≠ 568) W (gm_sv W (gs_p0 t0 t1 t2 (V0 n) (V1 n) (V2 n)) (gs_p1 t0 t1 t2 (V0 n) (V1 n) (V2 n)) (gs_p2 t0 t1 t2 (V0 n) (V1 n) (V2 n))) := we_trans (we_trans (we_wI (by omega)) (we_wI (by omega))) (we_wI (by omega))
    obtain ⟨k1, k2, k3⟩ := tk_at (W := gm_sv W (gs_p0 t0 t1 t2 (V0 n) (V1 n) (V2 n)) (gs_p1 t0 t1 t2 (V0 n) (V1 n) (V2 n)) (gs_p2 t0 t1 t2 (V0 n) (V1 n) (V2 n))) (m := (len + 2) / 3) (len := len) (i := n) (P := gs_P t0 t1 t2 (V0 n) (V1 n) (V2 n)) (by omega) 3
    refine ⟨we_trans i1 (we_trans (we_mono wS (fun r hr => hr.2)) (we_mono k1 (fun r hr => hr.1))), fun x hx hm => ?_⟩
    by_cases e : x % ((len + 2) / 3) = n
    · have hdm := Nat.div_add_mod x ((len + 2) / 3)
      rw [e] at hdm
      have hd3 : x / ((len + 2) / 3) < 3 := by
        rw [Nat.div_lt_iff_lt_mul (by omega)]
        omega
      have key := k2 (x / ((len + 2) / 3)) hd3 (by omega)
      rw [hdm] at key
      rw [key]
      have hb : ∀ k, gs_bt f len n k < 256 := fun k => by
        unfold gs_bt
        split
        · exact hf _
        · decide
      obtain ⟨s0, s1, s2⟩ := solve_at h01 h12 h2 (hb 0) (hb 1) (hb 2)
      have ev : ∀ k, k < 3 → gs_P t0 t1 t2 (V0 n) (V1 n) (V2 n) k = gs_bt f len n k := fun k hk => by
        rw [v0 n (by omega), v1 n (by omega), v2 n (by omega)]
        match k, hk with
        | 0, _ => exact s0
        | 1, _ => exact s1
        | 2, _ => exact s2
        | k + 3, hk => omega
      rw [ev _ hd3]
      unfold gs_bt
      rw [if_pos (by omega), hdm]
    · rw [k3 x e, we_I wS (by decide)]
      exact i2 x hx (by omega)
