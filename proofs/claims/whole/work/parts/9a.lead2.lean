/-! Class against model (pure): leading: all places, the letters sent; the model's order and the class's -/
abbrev ld_q : Type := Nat → Option ((Nat × (Nat → Nat)) × (Nat → Nat))
def ldG (p : Nat) (Q : ld_q) (D : zm_M) : Nat → zm_M
  | 0 => D
  | j + 1 => match Q j with
    | none => ldG p Q D j
    | some zt => gm_ag (ldG p Q D j) p j (zt.2 0) (zt.2 1) (zt.2 2)
def ldS (p : Nat) (Q : ld_q) (E : zm_M) (c : Nat) : Nat → zm_M × Nat × Nat
  | 0 => (E, c, 0)
  | j + 1 => match Q j with
    | none => ldS p Q E c j
    | some zt => ((gm_aa (ldS p Q E c j).1 (ldS p Q E c j).2.1 p j zt.1.1 zt.1.2 7).1, (gm_aa (ldS p Q E c j).1 (ldS p Q E c j).2.1 p j zt.1.1 zt.1.2 7).2.1, (ldS p Q E c j).2.2 + (gm_aa (ldS p Q E c j).1 (ldS p Q E c j).2.1 p j zt.1.1 zt.1.2 7).2.2)
def ldT (p : Nat) (Q : ld_q) (D : zm_M) (c : Nat) : Nat → zm_M × Nat × Nat
  | 0 => (D, c, 0)
  | j + 1 => match Q j with
    | none => ldT p Q D c j
    | some zt => ((gm_aa (gm_ag (ldT p Q D c j).1 p j (zt.2 0) (zt.2 1) (zt.2 2)) (ldT p Q D c j).2.1 p j zt.1.1 zt.1.2 7).1, (gm_aa (gm_ag (ldT p Q D c j).1 p j (zt.2 0) (zt.2 1) (zt.2 2)) (ldT p Q D c j).2.1 p j zt.1.1 zt.1.2 7).2.1, (ldT p Q D c j).2.2 + (gm_aa (gm_ag (ldT p Q D c j).1 p j (zt.2 0) (zt.2 1) (zt.2 2)) (ldT p Q D c j).2.1 p j zt.1.1 zt.1.2 7).2.2)
section LD
variable {p : Nat} {Q : ld_q} {D : zm_M} {c j : Nat} {z : Nat × (Nat → Nat)} {t : Nat → Nat}
theorem ldG_0 (h : Q j = none) : ldG p Q D (j + 1) = ldG p Q D j := by
  show (match Q j with | none => _ | some zt => _) = _
  rw [h]
theorem ldG_1 (h : Q j = some (z, t)) : ldG p Q D (j + 1) = gm_ag (ldG p Q D j) p j (t 0) (t 1) (t 2) := by
  show (match Q j with | none => _ | some zt => _) = _
  rw [h]
theorem ldS_0 (h : Q j = none) : ldS p Q D c (j + 1) = ldS p Q D c j := by
  show (match Q j with | none => _ | some zt => _) = _
  rw [h]
theorem ldS_1 (h : Q j = some (z, t)) : ldS p Q D c (j + 1) = ((gm_aa (ldS p Q D c j).1 (ldS p Q D c j).2.1 p j z.1 z.2 7).1, (gm_aa (ldS p Q D c j).1 (ldS p Q D c j).2.1 p j z.1 z.2 7).2.1, (ldS p Q D c j).2.2 + (gm_aa (ldS p Q D c j).1 (ldS p Q D c j).2.1 p j z.1 z.2 7).2.2) := by
  show (match Q j with | none => _ | some zt => _) = _
  rw [h]
theorem ldT_0 (h : Q j = none) : ldT p Q D c (j + 1) = ldT p Q D c j := by
  show (match Q j with | none => _ | some zt => _) = _
  rw [h]
theorem ldT_1 (h : Q j = some (z, t)) : ldT p Q D c (j + 1) = ((gm_aa (gm_ag (ldT p Q D c j).1 p j (t 0) (t 1) (t 2)) (ldT p Q D c j).2.1 p j z.1 z.2 7).1, (gm_aa (gm_ag (ldT p Q D c j).1 p j (t 0) (t 1) (t 2)) (ldT p Q D c j).2.1 p j z.1 z.2 7).2.1, (ldT p Q D c j).2.2 + (gm_aa (gm_ag (ldT p Q D c j).1 p j (t 0) (t 1) (t 2)) (ldT p Q D c j).2.1 p j z.1 z.2 7).2.2) := by
  show (match Q j with | none => _ | some zt => _) = _
  rw [h]
end LD
/-- all places gathered, on both sides -/
theorem ld_gat {C D : zm_M} {G : wG} {B p m : Nat} (hB : B < 2 ^ 30) (h : wr C D) (hd : wd G B D) (hp : p < 2) (hph : zm_I D 553 p = nI 2) (hm : zm_I D 555 p = nI m) (hm7 : m < 128) (h5 : wpc m = 5) (h0 : ∀ j, j < 8 → zm_I D 560 (8 * p + j) = nI 0) : ∀ j, j ≤ 8 → wr (zm_it (fm_ldS (45 + 63 * p)) j C) (ldG p (ldQ G D p) D j) ∧ wd G B (ldG p (ldQ G D p) D j) ∧ we (fun r => (r < 45 + 63 * p + 39 ∨ 108 + 63 * p ≤ r) ∧ (r < 539 ∨ 542 ≤ r)) C (zm_it (fm_ldS (45 + 63 * p)) j C) ∧ we (fun r => r ≠ 560 ∧ r ≠ 561 ∧ r ≠ 562 ∧ r ≠ 563 ∧ r ≠ 566 ∧ r ≠ 567 ∧ r ≠ 568) D (ldG p (ldQ G D p) D j) ∧ (∀ i, j ≤ i → i < 8 → zm_I (ldG p (ldQ G D p) D j) 560 (8 * p + i) = nI 0) ∧ (∀ i, i < j → ldQ G D p i = none → zm_I (ldG p (ldQ G D p) D j) 560 (8 * p + i) = nI 0) ∧ ∀ i, i < j → ∀ z t, ldQ G D p i = some (z, t) → ∃ v, ldF G D p i v z t ∧ zm_I (ldG p (ldQ G D p) D j) 560 (8 * p + i) = nI v ∧ zm_I (ldG p (ldQ G D p) D j) 561 (8 * p + i) = nI z.1 ∧ zm_I (ldG p (ldQ G D p) D j) 562 (8 * p + i) = nI 0 ∧ ∀ x, x < z.1 → zm_I (ldG p (ldQ G D p) D j) 563 (24 * (8 * p + i) + x) = nI (z.2 x) := by
  intro j
  induction j with
  | zero => exact fun _ => ⟨h, hd, we_refl, we_refl, fun i _ hi => h0 i hi, fun i hi => absurd hi (Nat.not_lt_zero _), fun i hi => absurd hi (Nat.not_lt_zero _)⟩
  | succ j ih =>
    intro hj
    obtain ⟨i1, i2, i3, i4, i5, i6, i7⟩ := ih (by omega)
    have r5 : ∀ x, zm_I (ldG p (ldQ G D p) D j) 555 x = zm_I D 555 x := fun x => we_I i4 (by decide)
    have r6 : ∀ x, zm_I (ldG p (ldQ G D p) D j) 556 x = zm_I D 556 x := fun x => we_I i4 (by decide)
    have r9 : ∀ x, zm_I (ldG p (ldQ G D p) D j) 559 x = zm_I D 559 x := fun x => we_I i4 (by decide)
    have eQ : ldQ G (ldG p (ldQ G D p) D j) p j = ldQ G D p j := ldQ_c r5 r6 r9
    have st := ld_step hB i1 i2 hp (show j < 8 by omega) ((we_I i4 (by decide)).trans hph) ((r5 p).trans hm) hm7 h5 (i5 j (Nat.le_refl _) (by omega))
    have eC : zm_it (fm_ldS (45 + 63 * p)) (j + 1) C = fm_ldS (45 + 63 * p) j (zm_it (fm_ldS (45 + 63 * p)) j C) := rfl
    rw [eC]
    rw [eQ] at st
    rcases st with ⟨s1, _, s3, s4⟩ | ⟨v, z, t, s1, s2, s3, s4, s5⟩
    · rw [ldG_0 s1]
      refine ⟨s3, i2, we_trans i3 (we_mono s4 (fun r hr => hr.2)), i4, fun i h1 h2 => i5 i (by omega) h2, fun i hi hQ => ?_, fun i hi z t hQ => ?_⟩
      · by_cases e : i = j
        · subst e; exact i5 i (Nat.le_refl _) (by omega)
        · exact i6 i (by omega) hQ
      · by_cases e : i = j
        · subst e; rw [s1] at hQ; cases hQ
        · exact i7 i (by omega) z t hQ
    · rw [ldG_1 s1]
      obtain ⟨wA, g0, g1, g2, g3⟩ := ag_at s2
      have hFD : ldF G D p j v z t := ldF_c s2 (fun x => (r5 x).symm) (fun x => (r6 x).symm) (fun x => (r9 x).symm)
      have hz24 := hFD.2.2.2.2.2.2.1.1
      generalize gm_ag (ldG p (ldQ G D p) D j) p j (t 0) (t 1) (t 2) = D' at s3 s4 wA g0 g1 g2 g3
      refine ⟨s3, s4, we_trans i3 (we_mono s5 (fun r hr => by omega)), we_trans i4 wA, fun i h1 h2 => ?_, fun i hi hQ => ?_, fun i hi z' t' hQ => ?_⟩
      · rw [g0, if_neg (by omega)]
        exact i5 i (by omega) h2
      · by_cases e : i = j
        · subst e; rw [s1] at hQ; cases hQ
        · rw [g0, if_neg (by omega)]
          exact i6 i (by omega) hQ
      · by_cases e : i = j
        · subst e
          rw [s1] at hQ
          cases hQ
          exact ⟨v, hFD, by rw [g0, if_pos rfl], by rw [g1, if_pos rfl], by rw [g2, if_pos rfl], fun x hx => by rw [g3, if_pos (by omega), Nat.add_sub_cancel_left]⟩
        · obtain ⟨v', q1, q2, q3, q4, q5⟩ := i7 i (by omega) z' t' hQ
          have := q1.2.2.2.2.2.2.1.1
          refine ⟨v', q1, by rw [g0, if_neg (by omega)]; exact q2, by rw [g1, if_neg (by omega)]; exact q3, by rw [g2, if_neg (by omega)]; exact q4, fun x hx => by rw [g3, if_neg (by omega)]; exact q5 x hx⟩
/-- then all is sent -/
theorem ld_snd {C E : zm_M} {G : wG} {B p c : Nat} {Q : ld_q} (hB : B < 2 ^ 30) (h : wr C E) (hd : wd G B E) (hp : p < 2) (hc : zm_I E 546 5 = nI c) (h60 : c ≤ 60) (h1 : ∀ i, i < 8 → Q i = none → zm_I E 560 (8 * p + i) = nI 0) (h2 : ∀ i, i < 8 → ∀ z t, Q i = some (z, t) → ∃ v, (v < 2 ^ 30 ∧ v ≠ 0) ∧ G i v = some z ∧ zm_I E 560 (8 * p + i) = nI v ∧ zm_I E 561 (8 * p + i) = nI z.1 ∧ zm_I E 562 (8 * p + i) = nI 0 ∧ ∀ x, x < z.1 → zm_I E 563 (24 * (8 * p + i) + x) = nI (z.2 x)) : ∀ j, j ≤ 8 → wr (zm_it (fm_saa (45 + 63 * p)) j C) (ldS p Q E c j).1 ∧ wd G B (ldS p Q E c j).1 ∧ (zm_I (ldS p Q E c j).1 546 5 = nI (ldS p Q E c j).2.1 ∧ (ldS p Q E c j).2.1 ≤ 60 ∧ (ldS p Q E c j).2.1 = c + (ldS p Q E c j).2.2) ∧ we (fun x => x < 171 ∨ 539 ≤ x) C (zm_it (fm_saa (45 + 63 * p)) j C) ∧ we (fun r => r ≠ 546 ∧ r ≠ 551 ∧ r ≠ 552) E (ldS p Q E c j).1 ∧ ∀ k, k ≠ 5 → zm_I (ldS p Q E c j).1 546 k = zm_I E 546 k := by
  intro j
  induction j with
  | zero => exact fun _ => ⟨h, hd, ⟨hc, h60, rfl⟩, we_refl, we_refl, fun _ _ => rfl⟩
  | succ j ih =>
    intro hj
    obtain ⟨i1, i2, ⟨i3, i4, i5⟩, i6, i7, i8⟩ := ih (by omega)
    have eC : zm_it (fm_saa (45 + 63 * p)) (j + 1) C = fm_saa (45 + 63 * p) j (zm_it (fm_saa (45 + 63 * p)) j C) := rfl
    rw [eC]
    generalize zm_it (fm_saa (45 + 63 * p)) j C = N at i1 i6
    have hq : zm_I N (45 + 63 * p + 39 + 3 * j) 1 = zm_I E 560 (8 * p + j) := by
      rw [we_I i6 (by omega), ((h.2.2.1 p hp).2.2.2 j (by omega)).2.1]
    unfold fm_saa
    rw [hq]
    cases hQ : Q j with
    | none =>
      rw [ldS_0 hQ, h1 j (by omega) hQ, if_pos (by decide)]
      exact ⟨i1, i2, ⟨i3, i4, i5⟩, i6, i7, i8⟩
    | some zt =>
      obtain ⟨z, t⟩ := zt
      obtain ⟨v, ⟨v1, v0⟩, hG, g0, g1, g2, g3⟩ := h2 j (by omega) z t hQ
      rw [ldS_1 hQ, g0, if_neg (nI_ne0 (by omega) (by omega))]
      generalize ldS p Q E c j = T at i1 i2 i3 i4 i5 i7 i8
      obtain ⟨T1, T2, T3⟩ := T
      dsimp only at i1 i2 i3 i4 i5 i7 i8 ⊢
      obtain ⟨ph, w, m, dl, ⟨k1, k2, k3, k4⟩, ⟨e1, e2, e3, e4⟩, _⟩ := hd.2.2.2.2.1 p hp
      obtain ⟨b1, b2, ⟨b3, b4, b5⟩, b6, b7, b8⟩ := sendA (T := fun s => gm_aa T1 T2 p j z.1 z.2 s) (sel := fun _ => true) (m := 0) (w := w) (v := v) (z := z) i1 i2 i3 i4 hp (show j < 8 by omega) ((we_I i7 (by decide)).trans e2) k2 hG ((we_I i7 (by decide)).trans g0) (nI_ne0 (by omega) (by omega)) ((we_I i7 (by decide)).trans g1) (fun x hx => (we_I i7 (by decide)).trans (g3 x hx)) ((we_I i7 (by decide)).trans g2) (fun s hs => ⟨fun _ => ff_bit_0 s hs, fun _ => rfl⟩) (fun s hs => by
        show (if (gm_aa T1 T2 p j z.1 z.2 s).2.1 < 60 then _ else _) = _
        by_cases c60 : (gm_aa T1 T2 p j z.1 z.2 s).2.1 < 60
        · rw [if_pos c60, if_pos ⟨rfl, c60⟩]
        · rw [if_neg c60, if_neg (fun z => c60 z.2)]) 7 (Nat.le_refl _)
      have b5' : (gm_aa T1 T2 p j z.1 z.2 7).2.1 + 0 = T2 + (gm_aa T1 T2 p j z.1 z.2 7).2.2 := b5
      exact ⟨b1, b2, ⟨b3, b4, by omega⟩, we_trans i6 b6, we_trans i7 b7, fun k hk => (b8 k hk).trans (i8 k hk)⟩
/-- the letters are the same, whatever else differs -/
theorem aa_c {M M' : zm_M} {c p pl len : Nat} {f : Nat → Nat} (h1 : ∀ x, zm_I M' 551 x = zm_I M 551 x) (h2 : ∀ x, zm_I M' 552 x = zm_I M 552 x) (h5 : zm_I M' 546 5 = zm_I M 546 5) (h4 : zm_I M' 554 p = zm_I M 554 p) (h0 : zm_I M' 560 (8 * p + pl) = zm_I M 560 (8 * p + pl)) : ∀ d, (gm_aa M' c p pl len f d).2 = (gm_aa M c p pl len f d).2 ∧ (∀ x, zm_I (gm_aa M' c p pl len f d).1 551 x = zm_I (gm_aa M c p pl len f d).1 551 x) ∧ (∀ x, zm_I (gm_aa M' c p pl len f d).1 552 x = zm_I (gm_aa M c p pl len f d).1 552 x) ∧ zm_I (gm_aa M' c p pl len f d).1 546 5 = zm_I (gm_aa M c p pl len f d).1 546 5 ∧ we (fun r => r ≠ 546 ∧ r ≠ 551 ∧ r ≠ 552) M' (gm_aa M' c p pl len f d).1 ∧ we (fun r => r ≠ 546 ∧ r ≠ 551 ∧ r ≠ 552) M (gm_aa M c p pl len f d).1 ∧ ∀ k, k ≠ 5 → zm_I (gm_aa M' c p pl len f d).1 546 k = zm_I M' 546 k
  | 0 => ⟨rfl, h1, h2, h5, we_refl, we_refl, fun _ _ => rfl⟩
  | d + 1 => by
    obtain ⟨i1, i2, i3, i4, i5, i6, i7⟩ := aa_c (c := c) (len := len) (f := f) h1 h2 h5 h4 h0 d
    have e1 : gm_aa M' c p pl len f (d + 1) = if (gm_aa M' c p pl len f d).2.1 < 60 then (gm_acc (gm_aa M' c p pl len f d).1 (gm_aa M' c p pl len f d).2.1 p pl d len f ((len + 2) / 3), (gm_aa M' c p pl len f d).2.1 + 1, (gm_aa M' c p pl len f d).2.2 + 1) else gm_aa M' c p pl len f d := rfl
    have e2 : gm_aa M c p pl len f (d + 1) = if (gm_aa M c p pl len f d).2.1 < 60 then (gm_acc (gm_aa M c p pl len f d).1 (gm_aa M c p pl len f d).2.1 p pl d len f ((len + 2) / 3), (gm_aa M c p pl len f d).2.1 + 1, (gm_aa M c p pl len f d).2.2 + 1) else gm_aa M c p pl len f d := rfl
    rw [e1, e2, i1]
    by_cases c60 : (gm_aa M c p pl len f d).2.1 < 60
    · rw [if_pos c60, if_pos c60]
      dsimp only
      have j4 : zm_I (gm_aa M' c p pl len f d).1 554 p = zm_I (gm_aa M c p pl len f d).1 554 p := by rw [we_I i5 (by decide), we_I i6 (by decide), h4]
      have j0 : zm_I (gm_aa M' c p pl len f d).1 560 (8 * p + pl) = zm_I (gm_aa M c p pl len f d).1 560 (8 * p + pl) := by rw [we_I i5 (by decide), we_I i6 (by decide), h0]
      refine ⟨rfl, fun x => ?_, fun x => ?_, by rw [ac_5, ac_5], we_trans i5 ac_we, we_trans i6 ac_we, fun k hk => (ac_k hk).trans (i7 k hk)⟩
      · simp only [gm_acc, gm_acc0, gm_l4, gm_upI, zm_I_w, i2, j4, j0]
      · simp only [gm_acc, gm_acc0, gm_l4, gm_upI, zm_I_w, i3, j4, j0]
    · rw [if_neg c60, if_neg c60]
      exact ⟨i1, i2, i3, i4, i5, i6, i7⟩
