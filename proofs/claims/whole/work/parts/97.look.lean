/-! Class against model (pure): of five promises one identity at most has three shares; both find it -/
def wc (sel : Nat → Bool) : Nat → Nat
  | 0 => 0
  | s + 1 => if sel s = true then wc sel s + 1 else wc sel s
theorem wf_wc {sel : Nat → Bool} : ∀ d, (wf sel d).1 = min 3 (wc sel d)
  | 0 => rfl
  | d + 1 => by
    have ih := wf_wc (sel := sel) d
    by_cases cs : sel d = true
    · have ec : wc sel (d + 1) = wc sel d + 1 := if_pos cs
      by_cases c : (wf sel d).1 < 3 ∧ sel d = true
      · rw [wf_S1 c, ec]
        show (wf sel d).1 + 1 = _
        omega
      · rw [wf_S0 c, ec]
        have : ¬ (wf sel d).1 < 3 := fun z => c ⟨z, cs⟩
        omega
    · have ec : wc sel (d + 1) = wc sel d := if_neg cs
      rw [wf_S0 (fun z => cs z.2), ec, ih]
theorem wc_c {sel sel' : Nat → Bool} : ∀ d, (∀ s, s < d → sel s = sel' s) → wc sel d = wc sel' d
  | 0, _ => rfl
  | d + 1, h => by
    show (if sel d = true then wc sel d + 1 else wc sel d) = (if sel' d = true then wc sel' d + 1 else wc sel' d)
    rw [wc_c d (fun s hs => h s (by omega)), h d (by omega)]
theorem wc_dis {a b base : Nat → Bool} : ∀ d, (∀ s, s < d → (a s = true → base s = true) ∧ (b s = true → base s = true) ∧ ¬ (a s = true ∧ b s = true)) → wc a d + wc b d ≤ wc base d
  | 0, _ => Nat.le_refl _
  | d + 1, h => by
    have ih := wc_dis d (fun s hs => h s (by omega))
    obtain ⟨h1, h2, h3⟩ := h d (by omega)
    show (if a d = true then wc a d + 1 else wc a d) + (if b d = true then wc b d + 1 else wc b d) ≤ (if base d = true then wc base d + 1 else wc base d)
    by_cases ca : a d = true
    · rw [if_pos ca, if_neg (fun z => h3 ⟨ca, z⟩), if_pos (h1 ca)]
      omega
    · rw [if_neg ca]
      by_cases cb : b d = true
      · rw [if_pos cb, if_pos (h2 cb)]
        omega
      · rw [if_neg cb]
        split <;> omega
theorem wc_pos {sel : Nat → Bool} : ∀ d, 0 < wc sel d → ∃ s, s < d ∧ sel s = true
  | 0, h => absurd h (Nat.lt_irrefl 0)
  | d + 1, h => by
    by_cases c : sel d = true
    · exact ⟨d, by omega, c⟩
    · have e : wc sel (d + 1) = wc sel d := if_neg c
      rw [e] at h
      obtain ⟨s, q1, q2⟩ := wc_pos d h
      exact ⟨s, by omega, q2⟩
theorem wc_pc : ∀ m, m < 128 → wc (fun s => decide (m / 2 ^ s % 2 = 1)) 7 = wpc m := by decide +kernel
theorem bit_c : ∀ m, m < 128 → ∀ s, s < 7 → (ff_bit (nI m) s = nI 1 ↔ m / 2 ^ s % 2 = 1) := by decide +kernel
theorem bit_m : ∀ m, m < 128 → ∀ s, s < 7 → ((nI m >>> (nI s &&& 31)) &&& nI 1 = nI 1 ↔ m / 2 ^ s % 2 = 1) := by decide +kernel
theorem hs_iff {D : zm_M} {p pl s : Nat} {id : Int32} : gs_hs D p pl id s = true ↔ (gs_hp D p pl s ∧ zm_I D 556 (gs_at p pl s + 1) = id) := by
  unfold gs_hs
  exact ⟨of_decide_eq_true, decide_eq_true⟩
theorem nn_wc {D : zm_M} {p pl : Nat} {id : Int32} : ∀ d, gs_nn D p pl id d = wc (gs_hs D p pl id) d
  | 0 => rfl
  | d + 1 => by
    show (if gs_hp D p pl d ∧ zm_I D 556 (gs_at p pl d + 1) = id then gs_nn D p pl id d + 1 else gs_nn D p pl id d) = (if gs_hs D p pl id d = true then wc (gs_hs D p pl id) d + 1 else wc (gs_hs D p pl id) d)
    rw [nn_wc d]
    by_cases c : gs_hp D p pl d ∧ zm_I D 556 (gs_at p pl d + 1) = id
    · rw [if_pos c, if_pos (hs_iff.mpr c)]
    · rw [if_neg c, if_neg (fun z => c (hs_iff.mp z))]
/-- the class's search among promises: g asks, h holds -/
theorem gp_loop {C : zm_M} {p pl : Nat} {v : Nat} {sel : Int32 → Nat → Bool} (hp : p < 2) (hsel : ∀ x s, sel x s = (decide (ff_bit (zm_I C (45 + 63 * p) 3) s = nI 1) && decide (zm_I C (45 + 63 * p + 4 + 5 * s + 2) pl ≠ 0 ∧ zm_I C (45 + 63 * p + 4 + 5 * s + 2) pl = x))) (huniq : ∀ s, s < 7 → ff_bit (zm_I C (45 + 63 * p) 3) s = nI 1 → zm_I C (45 + 63 * p + 4 + 5 * s + 2) pl ≠ 0 → 3 ≤ wc (sel (zm_I C (45 + 63 * p + 4 + 5 * s + 2) pl)) 7 → zm_I C (45 + 63 * p + 4 + 5 * s + 2) pl = nI v) : ∀ f s N, s + f = 7 → we (fun r => r < 539 ∨ 542 ≤ r) C N → ((∀ s', s ≤ s' → s' < 7 → ff_bit (zm_I C (45 + 63 * p) 3) s' = nI 1 → zm_I C (45 + 63 * p + 4 + 5 * s' + 2) pl ≠ 0 → ¬ 3 ≤ wc (sel (zm_I C (45 + 63 * p + 4 + 5 * s' + 2) pl)) 7) → (fm_gp (45 + 63 * p) pl f s N).1 = false ∧ we (fun r => r < 539 ∨ 542 ≤ r) C (fm_gp (45 + 63 * p) pl f s N).2) ∧ ((∃ s', s ≤ s' ∧ s' < 7 ∧ ff_bit (zm_I C (45 + 63 * p) 3) s' = nI 1 ∧ zm_I C (45 + 63 * p + 4 + 5 * s' + 2) pl ≠ 0 ∧ 3 ≤ wc (sel (zm_I C (45 + 63 * p + 4 + 5 * s' + 2) pl)) 7) → ∃ N', we (fun r => r < 539 ∨ 542 ≤ r) C N' ∧ fm_gp (45 + 63 * p) pl f s N = (true, fm_addP (fm_gst N' (nI v)) (45 + 63 * p) pl)) := by
  intro f
  induction f with
  | zero =>
    intro s N hs hN
    exact ⟨fun _ => ⟨rfl, hN⟩, fun ⟨s', h1, h2, _⟩ => by omega⟩
  | succ f ih =>
    intro s N hs hN
    have hs7 : s < 7 := by omega
    have e3 : zm_I N (45 + 63 * p) 3 = zm_I C (45 + 63 * p) 3 := we_I hN (by omega)
    have e2 : ∀ s', s' < 7 → zm_I N (45 + 63 * p + 4 + 5 * s' + 2) pl = zm_I C (45 + 63 * p + 4 + 5 * s' + 2) pl := fun s' h => we_I hN (by omega)
    have edef : fm_gp (45 + 63 * p) pl (f + 1) s N = if ff_bit (zm_I C (45 + 63 * p) 3) s = nI 1 ∧ zm_I C (45 + 63 * p + 4 + 5 * s + 2) pl ≠ 0 then (if zm_I (fm_addP (fm_gst N (zm_I C (45 + 63 * p + 4 + 5 * s + 2) pl)) (45 + 63 * p) pl) 539 2 = nI 3 then (true, fm_addP (fm_gst N (zm_I C (45 + 63 * p + 4 + 5 * s + 2) pl)) (45 + 63 * p) pl) else fm_gp (45 + 63 * p) pl f (s + 1) (fm_addP (fm_gst N (zm_I C (45 + 63 * p + 4 + 5 * s + 2) pl)) (45 + 63 * p) pl)) else fm_gp (45 + 63 * p) pl f (s + 1) N := by
      show (if ff_bit (zm_I N (45 + 63 * p) 3) s = nI 1 ∧ zm_I N (45 + 63 * p + 4 + 5 * s + 2) pl ≠ 0 then _ else _) = _
      rw [e3, e2 s hs7]
    rw [edef]
    by_cases ch : ff_bit (zm_I C (45 + 63 * p) 3) s = nI 1 ∧ zm_I C (45 + 63 * p + 4 + 5 * s + 2) pl ≠ 0
    · rw [if_pos ch]
      generalize hx : zm_I C (45 + 63 * p + 4 + 5 * s + 2) pl = x at ch
      have hA : ∀ d, we (fun r => r < 539 ∨ 542 ≤ r) N (zm_it (fm_apS (45 + 63 * p) pl) d (fm_gst N x)) := fun d => we_trans gst_we (we_it (fun k M => by
        unfold fm_apS
        split
        · exact gadd_we
        · exact we_refl) d)
      have G7 := gather (C := N) (N := fun d => zm_it (fm_apS (45 + 63 * p) pl) d (fm_gst N x)) (id := x) (g := fun s => decide (ff_bit (zm_I N (45 + 63 * p) 3) s = nI 1)) (R := fun s => 45 + 63 * p + 4 + 5 * s) (pl := pl) (fun s hs => by show 45 + 63 * p + 4 + 5 * s + 4 < 539; omega) rfl (fun s hs => by
        have e := hA s
        show fm_apS (45 + 63 * p) pl s (zm_it (fm_apS (45 + 63 * p) pl) s (fm_gst N x)) = if decide (ff_bit (zm_I N (45 + 63 * p) 3) s = nI 1) = true then fm_gadd (zm_it (fm_apS (45 + 63 * p) pl) s (fm_gst N x)) (gk_c (zm_it (fm_apS (45 + 63 * p) pl) s (fm_gst N x))) s (45 + 63 * p + 4 + 5 * s) pl else zm_it (fm_apS (45 + 63 * p) pl) s (fm_gst N x)
        generalize zm_it (fm_apS (45 + 63 * p) pl) s (fm_gst N x) = K at e
        unfold fm_apS
        rw [we_I e (show 45 + 63 * p < 539 ∨ 542 ≤ 45 + 63 * p by omega)]
        by_cases c : ff_bit (zm_I N (45 + 63 * p) 3) s = nI 1
        · rw [if_pos c, if_pos (decide_eq_true c)]
        · rw [if_neg c, if_neg (fun z => c (of_decide_eq_true z))]) 7 (Nat.le_refl _)
      have ew : wc (fun s => decide (ff_bit (zm_I N (45 + 63 * p) 3) s = nI 1) && decide (zm_I N (45 + 63 * p + 4 + 5 * s + 2) pl ≠ 0 ∧ zm_I N (45 + 63 * p + 4 + 5 * s + 2) pl = x)) 7 = wc (sel x) 7 := wc_c 7 (fun s hs => by rw [hsel x s, e3, e2 s hs])
      have hcnt : zm_I (fm_addP (fm_gst N x) (45 + 63 * p) pl) 539 2 = nI (min 3 (wc (sel x) 7)) := by
        rw [← ew, ← wf_wc]
        exact G7.2.2.1
      have hw7 : we (fun r => r < 539 ∨ 542 ≤ r) C (fm_addP (fm_gst N x) (45 + 63 * p) pl) := we_trans hN G7.1
      by_cases c3 : 3 ≤ wc (sel x) 7
      · rw [if_pos (by rw [hcnt, Nat.min_eq_left c3])]
        have ev : x = nI v := by
          have := huniq s hs7 ch.1 (by rw [hx]; exact ch.2) (by rw [hx]; exact c3)
          rw [hx] at this
          exact this
        refine ⟨fun hno => absurd c3 ?_, fun _ => ⟨N, hN, by rw [ev]⟩⟩
        have := hno s (Nat.le_refl _) hs7 ch.1 (by rw [hx]; exact ch.2)
        rw [hx] at this
        exact this
      · have hne : ¬ zm_I (fm_addP (fm_gst N x) (45 + 63 * p) pl) 539 2 = nI 3 := fun e => c3 (by
          rw [hcnt] at e
          have := (nI_eq (by omega) (by decide)).mp e
          omega)
        rw [if_neg hne]
        obtain ⟨i1, i2⟩ := ih (s + 1) (fm_addP (fm_gst N x) (45 + 63 * p) pl) (by omega) hw7
        refine ⟨fun hno => i1 (fun s' h1 h2 => hno s' (by omega) h2), fun ⟨s', h1, h2, h3, h4, h5⟩ => i2 ⟨s', ?_, h2, h3, h4, h5⟩⟩
        by_cases e : s' = s
        · subst e
          rw [hx] at h5
          exact absurd h5 c3
        · omega
    · rw [if_neg ch]
      obtain ⟨i1, i2⟩ := ih (s + 1) N (by omega) hN
      refine ⟨fun hno => i1 (fun s' h1 h2 => hno s' (by omega) h2), fun ⟨s', h1, h2, h3, h4, h5⟩ => i2 ⟨s', ?_, h2, h3, h4, h5⟩⟩
      by_cases e : s' = s
      · subst e
        exact absurd ⟨h3, h4⟩ ch
      · omega
/-- the model's search -/
theorem bo_loop {D : zm_M} {p pl v : Nat} (hb : ∀ s, s < 7 → gs_hp D p pl s → ∃ u, u < 2 ^ 30 ∧ zm_I D 556 (gs_at p pl s) = nI u) (huniq : ∀ s, s < 7 → gs_hp D p pl s → 3 ≤ wc (gs_hs D p pl (zm_I D 556 (gs_at p pl s + 1))) 7 → zm_I D 556 (gs_at p pl s + 1) = nI v) : ∀ d, d ≤ 7 → ((∀ s, s < d → gs_hp D p pl s → ¬ 3 ≤ wc (gs_hs D p pl (zm_I D 556 (gs_at p pl s + 1))) 7) → gs_bo D p pl d = (-1, nI 0)) ∧ ((∃ s, s < d ∧ gs_hp D p pl s ∧ 3 ≤ wc (gs_hs D p pl (zm_I D 556 (gs_at p pl s + 1))) 7) → (∃ u, u < 2 ^ 30 ∧ (gs_bo D p pl d).1 = nI u) ∧ (gs_bo D p pl d).2 = nI v) := by
  intro d
  induction d with
  | zero => exact fun _ => ⟨fun _ => rfl, fun ⟨s, h, _⟩ => absurd h (Nat.not_lt_zero _)⟩
  | succ d ih =>
    intro hd7
    obtain ⟨i1, i2⟩ := ih (by omega)
    have edef : gs_bo D p pl (d + 1) = if gs_bt2 D p pl d (gs_bo D p pl d) then (zm_I D 556 (gs_at p pl d), zm_I D 556 (gs_at p pl d + 1)) else gs_bo D p pl d := rfl
    by_cases ch : gs_hp D p pl d ∧ 3 ≤ wc (gs_hs D p pl (zm_I D 556 (gs_at p pl d + 1))) 7
    · have hv := huniq d (by omega) ch.1 ch.2
      obtain ⟨u, u1, u2⟩ := hb d (by omega) ch.1
      refine ⟨fun hno => absurd ch.2 (hno d (by omega) ch.1), fun _ => ?_⟩
      rw [edef]
      by_cases cb : gs_bt2 D p pl d (gs_bo D p pl d)
      · rw [if_pos cb]
        exact ⟨⟨u, u1, u2⟩, hv⟩
      · rw [if_neg cb]
        by_cases ex : ∃ s, s < d ∧ gs_hp D p pl s ∧ 3 ≤ wc (gs_hs D p pl (zm_I D 556 (gs_at p pl s + 1))) 7
        · exact i2 ex
        · have e0 := i1 (fun s hs h1 h2 => ex ⟨s, hs, h1, h2⟩)
          exfalso
          apply cb
          rw [e0]
          refine ⟨ch.1, ?_, Or.inl ?_⟩
          · rw [nn_wc]; omega
          · show (-1 : Int32) < zm_I D 556 (gs_at p pl d)
            rw [u2]
            exact Int32.lt_iff_toInt_lt.mpr (by rw [nI_toInt (by omega)]; show (-1 : Int) < _; omega)
    · have hnb : ¬ gs_bt2 D p pl d (gs_bo D p pl d) := fun z => ch ⟨z.1, by have := z.2.1; rw [nn_wc] at this; omega⟩
      rw [edef, if_neg hnb]
      refine ⟨fun hno => i1 (fun s hs => hno s (by omega)), fun ⟨s, h1, h2, h3⟩ => i2 ⟨s, ?_, h2, h3⟩⟩
      by_cases e : s = d
      · subst e
        exact absurd ⟨h2, h3⟩ ch
      · omega
theorem look {C D : zm_M} {G : wG} {B p pl m : Nat} (hB : B < 2 ^ 30) (h : wr C D) (hd : wd G B D) (hp : p < 2) (hpl : pl < 8) (hm : zm_I D 555 p = nI m) (hm7 : m < 128) (h5 : wpc m = 5) : ((gs_bo D p pl 7).1 < 0 ∧ (fm_gp (45 + 63 * p) pl 7 0 C).1 = false ∧ we (fun r => r < 539 ∨ 542 ≤ r) C (fm_gp (45 + 63 * p) pl 7 0 C).2) ∨ (¬ (gs_bo D p pl 7).1 < 0 ∧ ∃ v z, v < 2 ^ 30 ∧ v ≠ 0 ∧ (gs_bo D p pl 7).2 = nI v ∧ G pl v = some z ∧ (wf (gs_hs D p pl (nI v)) 7).1 = 3 ∧ ((wf (gs_hs D p pl (nI v)) 7).2 0 < (wf (gs_hs D p pl (nI v)) 7).2 1 ∧ (wf (gs_hs D p pl (nI v)) 7).2 1 < (wf (gs_hs D p pl (nI v)) 7).2 2 ∧ (wf (gs_hs D p pl (nI v)) 7).2 2 < 7) ∧ (∀ k, k < 3 → zm_I (gm_fx D (gs_hs D p pl (nI v)) 7).1 566 k = nI ((wf (gs_hs D p pl (nI v)) 7).2 k) ∧ gs_hp D p pl ((wf (gs_hs D p pl (nI v)) 7).2 k)) ∧ ∃ E, fm_gp (45 + 63 * p) pl 7 0 C = (true, E) ∧ we (fun r => r < 539 ∨ 542 ≤ r) C E ∧ zm_I E 539 0 = nI v ∧ (∀ k, k < 3 → gk_p E k = (wf (gs_hs D p pl (nI v)) 7).2 k + 1) ∧ zm_I E 539 1 = nI z.1 ∧ ∀ k, k < 3 → zm_I D 556 (gs_at p pl ((wf (gs_hs D p pl (nI v)) 7).2 k) + 2) = nI z.1 ∧ (∀ i, i < (z.1 + 2) / 3 → zm_I D 556 (gs_at p pl ((wf (gs_hs D p pl (nI v)) 7).2 k) + 3 + i) = nI (gs_shb z.2 z.1 ((wf (gs_hs D p pl (nI v)) 7).2 k) i)) ∧ ∀ i, i < (z.1 + 2) / 3 → wb (zm_J E 541 k) i = gs_shb z.2 z.1 ((wf (gs_hs D p pl (nI v)) 7).2 k) i) := by
  have hzg := hd.2.1
  obtain ⟨⟨a0, a1, a2, a3, a4⟩, bb, cc, dd⟩ := h.2.2.1 p hp
  obtain ⟨ph, w, m', dl, k0, ⟨e1, e2, e3, e4⟩, f1, f2, f3, f4, f5⟩ := hd.2.2.2.2.1 p hp
  have em : m' = m := (nI_eq (by omega) (by omega)).mp (e3.symm.trans hm)
  subst em
  have hbit : ∀ s, s < 7 → (ff_bit (zm_I C (45 + 63 * p) 3) s = nI 1 ↔ m' / 2 ^ s % 2 = 1) := fun s hs => by rw [a3, hm]; exact bit_c m' hm7 s hs
  have hhb : ∀ s, s < 7 → (gs_hb D p s ↔ m' / 2 ^ s % 2 = 1) := fun s hs => by
    show ((zm_I D 555 p >>> (nI s &&& 31)) &&& nI 1 = nI 1) ↔ _
    rw [hm]; exact bit_m m' hm7 s hs
  have hid : ∀ s, s < 7 → m' / 2 ^ s % 2 = 1 → zm_I C (45 + 63 * p + 4 + 5 * s + 2) pl = zm_I D 556 (gs_at p pl s + 1) := fun s hs hb => (cc s hs (by rw [gv_of hm (by omega)]; exact hb) pl hpl).2.1
  have hps : ∀ s, s < 7 → m' / 2 ^ s % 2 = 1 → (zm_I D 556 (gs_at p pl s + 1) ≠ 0 ↔ ¬ zm_I D 556 (gs_at p pl s + 2) ≤ 0) := fun s hs hb => (wd_pos hB (f4 s hs hb) hzg hpl).1
  have hsel : ∀ x s, s < 7 → (decide (ff_bit (zm_I C (45 + 63 * p) 3) s = nI 1) && decide (zm_I C (45 + 63 * p + 4 + 5 * s + 2) pl ≠ 0 ∧ zm_I C (45 + 63 * p + 4 + 5 * s + 2) pl = x)) = gs_hs D p pl x s := fun x s hs => by
    rw [← Bool.decide_and]
    unfold gs_hs
    apply decide_eq_decide.mpr
    by_cases cb : m' / 2 ^ s % 2 = 1
    · rw [hid s hs cb]
      exact ⟨fun z => ⟨⟨(hhb s hs).mpr cb, (hps s hs cb).mp z.2.1⟩, z.2.2⟩, fun z => ⟨(hbit s hs).mpr cb, (hps s hs cb).mpr z.1.2, z.2⟩⟩
    · exact ⟨fun z => absurd ((hbit s hs).mp z.1) cb, fun z => absurd ((hhb s hs).mp z.1.1) cb⟩
  have hwc : ∀ x, wc (fun s => decide (ff_bit (zm_I C (45 + 63 * p) 3) s = nI 1) && decide (zm_I C (45 + 63 * p + 4 + 5 * s + 2) pl ≠ 0 ∧ zm_I C (45 + 63 * p + 4 + 5 * s + 2) pl = x)) 7 = wc (gs_hs D p pl x) 7 := fun x => wc_c 7 (fun s hs => hsel x s hs)
  have hone : ∀ x y, 3 ≤ wc (gs_hs D p pl x) 7 → 3 ≤ wc (gs_hs D p pl y) 7 → x = y := fun x y hx hy => Classical.byContradiction (fun hne => by
    have := wc_dis (a := gs_hs D p pl x) (b := gs_hs D p pl y) (base := fun s => decide (m' / 2 ^ s % 2 = 1)) 7 (fun s hs => ⟨fun q => decide_eq_true ((hhb s hs).mp (hs_iff.mp q).1.1), fun q => decide_eq_true ((hhb s hs).mp (hs_iff.mp q).1.1), fun q => hne ((hs_iff.mp q.1).2.symm.trans (hs_iff.mp q.2).2)⟩)
    rw [wc_pc m' hm7] at this
    omega)
  have hb : ∀ s, s < 7 → gs_hp D p pl s → ∃ u, u < 2 ^ 30 ∧ zm_I D 556 (gs_at p pl s) = nI u := fun s hs hh => by
    obtain ⟨u, u1, u2⟩ := (f4 s hs ((hhb s hs).mp hh.1) pl hpl).1
    exact ⟨u, by omega, u2⟩
  by_cases ex : ∃ s, s < 7 ∧ gs_hp D p pl s ∧ 3 ≤ wc (gs_hs D p pl (zm_I D 556 (gs_at p pl s + 1))) 7
  · right
    obtain ⟨s0, hs0, hh0, hc0⟩ := ex
    have hb0 := (hhb s0 hs0).mp hh0.1
    have hsh0 := f4 s0 hs0 hb0
    have hne0 : zm_I D 556 (gs_at p pl s0 + 1) ≠ 0 := (hps s0 hs0 hb0).mpr hh0.2
    obtain ⟨v, z, hG, hv, _, _⟩ := ((hsh0 pl hpl).2.1).resolve_left (fun q => hne0 (q.1.trans (by decide)))
    have hv' : zm_I D 556 (gs_at p pl s0 + 1) = nI v := hv
    obtain ⟨⟨_, v1, v2, z1, z2, z3⟩, _⟩ := hzg _ _ _ hG
    rw [hv'] at hc0
    have hu1 : ∀ s, s < 7 → gs_hp D p pl s → 3 ≤ wc (gs_hs D p pl (zm_I D 556 (gs_at p pl s + 1))) 7 → zm_I D 556 (gs_at p pl s + 1) = nI v := fun s hs _ h3 => hone _ _ h3 hc0
    obtain ⟨⟨u, u1, u2⟩, b2⟩ := (bo_loop hb hu1 7 (Nat.le_refl _)).2 ⟨s0, hs0, hh0, by rw [hv']; exact hc0⟩
    obtain ⟨N', hN', hgp⟩ := (gp_loop (C := C) (p := p) (pl := pl) (v := v) (sel := fun x s => decide (ff_bit (zm_I C (45 + 63 * p) 3) s = nI 1) && decide (zm_I C (45 + 63 * p + 4 + 5 * s + 2) pl ≠ 0 ∧ zm_I C (45 + 63 * p + 4 + 5 * s + 2) pl = x)) hp (fun x s => rfl) (fun s hs q1 q2 q3 => by
      rw [hwc] at q3
      exact hone _ _ q3 hc0) 7 0 C rfl we_refl).2 ⟨s0, Nat.zero_le _, hs0, (hbit s0 hs0).mpr hb0, by rw [hid s0 hs0 hb0]; exact hne0, by rw [hwc, hid s0 hs0 hb0, hv']; exact hc0⟩
    refine ⟨by rw [u2]; exact nI_pos (by omega), v, z, by omega, by omega, b2, hG, ?_⟩
    have hn : (wf (gs_hs D p pl (nI v)) 7).1 = 3 := by rw [wf_wc]; omega
    obtain ⟨_, w2, w3⟩ := wf_sp (sel := gs_hs D p pl (nI v)) 7
    obtain ⟨_, _, fx3⟩ := find (D := D) (sel := gs_hs D p pl (nI v)) 7
    rw [hn] at w2 w3 fx3
    have hA : ∀ d, we (fun r => r < 539 ∨ 542 ≤ r) N' (zm_it (fm_apS (45 + 63 * p) pl) d (fm_gst N' (nI v))) := fun d => we_trans gst_we (we_it (fun k M => by
      unfold fm_apS
      split
      · exact gadd_we
      · exact we_refl) d)
    have G7 := gather (C := N') (N := fun d => zm_it (fm_apS (45 + 63 * p) pl) d (fm_gst N' (nI v))) (id := nI v) (g := fun s => decide (ff_bit (zm_I N' (45 + 63 * p) 3) s = nI 1)) (R := fun s => 45 + 63 * p + 4 + 5 * s) (pl := pl) (fun s hs => by show 45 + 63 * p + 4 + 5 * s + 4 < 539; omega) rfl (fun s hs => by
      have e := hA s
      show fm_apS (45 + 63 * p) pl s (zm_it (fm_apS (45 + 63 * p) pl) s (fm_gst N' (nI v))) = if decide (ff_bit (zm_I N' (45 + 63 * p) 3) s = nI 1) = true then fm_gadd (zm_it (fm_apS (45 + 63 * p) pl) s (fm_gst N' (nI v))) (gk_c (zm_it (fm_apS (45 + 63 * p) pl) s (fm_gst N' (nI v)))) s (45 + 63 * p + 4 + 5 * s) pl else zm_it (fm_apS (45 + 63 * p) pl) s (fm_gst N' (nI v))
      generalize zm_it (fm_apS (45 + 63 * p) pl) s (fm_gst N' (nI v)) = K at e
      unfold fm_apS
      rw [we_I e (show 45 + 63 * p < 539 ∨ 542 ≤ 45 + 63 * p by omega)]
      by_cases c : ff_bit (zm_I N' (45 + 63 * p) 3) s = nI 1
      · rw [if_pos c, if_pos (decide_eq_true c)]
      · rw [if_neg c, if_neg (fun z => c (of_decide_eq_true z))]) 7 (Nat.le_refl _)
    have e3' : zm_I N' (45 + 63 * p) 3 = zm_I C (45 + 63 * p) 3 := we_I hN' (by omega)
    have e2' : ∀ s, s < 7 → zm_I N' (45 + 63 * p + 4 + 5 * s + 2) pl = zm_I C (45 + 63 * p + 4 + 5 * s + 2) pl := fun s hs => we_I hN' (by omega)
    have ew : wf (fun s => decide (ff_bit (zm_I N' (45 + 63 * p) 3) s = nI 1) && decide (zm_I N' ((fun s => 45 + 63 * p + 4 + 5 * s) s + 2) pl ≠ 0 ∧ zm_I N' ((fun s => 45 + 63 * p + 4 + 5 * s) s + 2) pl = nI v)) 7 = wf (gs_hs D p pl (nI v)) 7 := wf_c 7 (fun s hs => by
      show (decide (ff_bit (zm_I N' (45 + 63 * p) 3) s = nI 1) && decide (zm_I N' (45 + 63 * p + 4 + 5 * s + 2) pl ≠ 0 ∧ zm_I N' (45 + 63 * p + 4 + 5 * s + 2) pl = nI v)) = _
      rw [e3', e2' s hs]
      exact hsel (nI v) s hs)
    rw [ew] at G7
    obtain ⟨g1, g2, g3, g4, g5⟩ := G7
    rw [hn] at g4
    have hall : ∀ s, s < 7 → m' / 2 ^ s % 2 = 1 → zm_I D 556 (gs_at p pl s + 1) = nI v → zm_I D 556 (gs_at p pl s + 2) = nI z.1 ∧ ∀ i, i < (z.1 + 2) / 3 → zm_I D 556 (gs_at p pl s + 3 + i) = nI (gs_shb z.2 z.1 s i) := fun s hs hbs e => by
      obtain ⟨z', hG', c1, c2⟩ := wd_of hB (f4 s hs hbs) hzg hpl (by omega) (by omega) e
      rw [hG] at hG'
      cases hG'
      exact ⟨c1, c2⟩
    have htk : ∀ k, k < 3 → (wf (gs_hs D p pl (nI v)) 7).2 k < 7 ∧ m' / 2 ^ (wf (gs_hs D p pl (nI v)) 7).2 k % 2 = 1 ∧ zm_I D 556 (gs_at p pl ((wf (gs_hs D p pl (nI v)) 7).2 k) + 1) = nI v := fun k hk => by
      obtain ⟨q1, q2⟩ := w2 k hk
      exact ⟨q1, (hhb _ q1).mp (hs_iff.mp q2).1.1, (hs_iff.mp q2).2⟩
    refine ⟨hn, ⟨w3 0 1 (by decide) (by decide), w3 1 2 (by decide) (by decide), (w2 2 (by decide)).1⟩, fun k hk => ⟨fx3 k hk, (hs_iff.mp (w2 k hk).2).1⟩, fm_addP (fm_gst N' (nI v)) (45 + 63 * p) pl, hgp, we_trans hN' g1, g2, fun k hk => ?_, ?_, fun k hk => ?_⟩
    · show (zm_I (zm_it (fm_apS (45 + 63 * p) pl) 7 (fm_gst N' (nI v))) 540 k).toNatClampNeg = _
      rw [(g4 k hk).1, nI_clamp (by have := (htk k hk).1; omega)]
    · refine g5 (nI z.1) (fun s hs hg q1 q2 => ?_) (by rw [hn]; decide)
      have hg' := of_decide_eq_true hg
      rw [e3'] at hg'
      have hbs := (hbit s hs).mp hg'
      have q2' : zm_I N' (45 + 63 * p + 4 + 5 * s + 2) pl = nI v := q2
      rw [e2' s hs, hid s hs hbs] at q2'
      show zm_I N' (45 + 63 * p + 4 + 5 * s + 3) pl = nI z.1
      rw [we_I hN' (by omega), (cc s hs (by rw [gv_of hm (by omega)]; exact hbs) pl hpl).2.2.1]
      exact (hall s hs hbs q2').1
    · obtain ⟨t1, t2, t3⟩ := htk k hk
      obtain ⟨c1, c2⟩ := hall _ t1 t2 t3
      refine ⟨c1, c2, fun i hi => ?_⟩
      show wb (zm_J (zm_it (fm_apS (45 + 63 * p) pl) 7 (fm_gst N' (nI v))) 541 k) i = _
      rw [(g4 k hk).2, we_J hN' (by omega)]
      have q := (cc _ t1 (by rw [gv_of hm (by omega)]; exact t2) pl hpl).2.2.2 i (by omega) (by
        have : gv D 556 (616 * p + 88 * (wf (gs_hs D p pl (nI v)) 7).2 k + 11 * pl + 2) = z.1 := gv_of c1 (by omega)
        rw [this]; exact hi)
      have c2' : zm_I D 556 (616 * p + 88 * (wf (gs_hs D p pl (nI v)) 7).2 k + 11 * pl + 3 + i) = nI (gs_shb z.2 z.1 ((wf (gs_hs D p pl (nI v)) 7).2 k) i) := c2 i hi
      rw [c2'] at q
      exact ((nI_eq (by have := shb_lt (len := z.1) (i := i) z3 t1; omega) (by have := wb_lt (zm_J C (45 + 63 * p + 4 + 5 * (wf (gs_hs D p pl (nI v)) 7).2 k + 4) pl) i; omega)).mp q).symm
  · left
    have hno : ∀ s, s < 7 → gs_hp D p pl s → ¬ 3 ≤ wc (gs_hs D p pl (zm_I D 556 (gs_at p pl s + 1))) 7 := fun s hs h1 h2 => ex ⟨s, hs, h1, h2⟩
    have b := (bo_loop (v := 0) hb (fun s hs h1 h2 => absurd h2 (hno s hs h1)) 7 (Nat.le_refl _)).1 (fun s hs h1 => hno s hs h1)
    have hno2 : ∀ s, s < 7 → ff_bit (zm_I C (45 + 63 * p) 3) s = nI 1 → zm_I C (45 + 63 * p + 4 + 5 * s + 2) pl ≠ 0 → ¬ 3 ≤ wc ((fun x s => decide (ff_bit (zm_I C (45 + 63 * p) 3) s = nI 1) && decide (zm_I C (45 + 63 * p + 4 + 5 * s + 2) pl ≠ 0 ∧ zm_I C (45 + 63 * p + 4 + 5 * s + 2) pl = x)) (zm_I C (45 + 63 * p + 4 + 5 * s + 2) pl)) 7 := fun s hs h1 h2 h3 => by
      have hbs := (hbit s hs).mp h1
      rw [hwc, hid s hs hbs] at h3
      rw [hid s hs hbs] at h2
      exact hno s hs ⟨(hhb s hs).mpr hbs, (hps s hs hbs).mp h2⟩ h3
    obtain ⟨g1, g2⟩ := (gp_loop (C := C) (p := p) (pl := pl) (v := 0) (sel := fun x s => decide (ff_bit (zm_I C (45 + 63 * p) 3) s = nI 1) && decide (zm_I C (45 + 63 * p + 4 + 5 * s + 2) pl ≠ 0 ∧ zm_I C (45 + 63 * p + 4 + 5 * s + 2) pl = x)) hp (fun x s => rfl) (fun s hs q1 q2 q3 => absurd q3 (hno2 s hs q1 q2)) 7 0 C rfl we_refl).1 (fun s' _ hs' q1 q2 => hno2 s' hs' q1 q2)
    exact ⟨by rw [b]; decide, g1, g2⟩
