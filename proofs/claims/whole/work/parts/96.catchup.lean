/-! Class against model (pure): catchUp -/
def cuT (s p pl : Nat) (T : zm_M × Nat) : zm_M × Nat :=
  if zm_I T.1 559 (8 * p + pl) = 0 then T else if zm_I T.1 550 (88 * s + 11 * pl + 2) ≠ 0 then T else
    if (gm_ft T.1 (nI s) pl (zm_I T.1 559 (8 * p + pl)) 7).2 = 3 then
      (gm_cw (gm_f3 (gm_ft T.1 (nI s) pl (zm_I T.1 559 (8 * p + pl)) 7).1 pl (gv (gm_ft T.1 (nI s) pl (zm_I T.1 559 (8 * p + pl)) 7).1 566 0) (gv (gm_ft T.1 (nI s) pl (zm_I T.1 559 (8 * p + pl)) 7).1 566 1) (gv (gm_ft T.1 (nI s) pl (zm_I T.1 559 (8 * p + pl)) 7).1 566 2)) s pl (gv (gm_ft T.1 (nI s) pl (zm_I T.1 559 (8 * p + pl)) 7).1 550 (88 * gv (gm_ft T.1 (nI s) pl (zm_I T.1 559 (8 * p + pl)) 7).1 566 0 + 11 * pl + 2)) (zm_I T.1 559 (8 * p + pl)) (fun x => gv (gm_f3 (gm_ft T.1 (nI s) pl (zm_I T.1 559 (8 * p + pl)) 7).1 pl (gv (gm_ft T.1 (nI s) pl (zm_I T.1 559 (8 * p + pl)) 7).1 566 0) (gv (gm_ft T.1 (nI s) pl (zm_I T.1 559 (8 * p + pl)) 7).1 566 1) (gv (gm_ft T.1 (nI s) pl (zm_I T.1 559 (8 * p + pl)) 7).1 566 2)) 567 x) ((gv (gm_ft T.1 (nI s) pl (zm_I T.1 559 (8 * p + pl)) 7).1 550 (88 * gv (gm_ft T.1 (nI s) pl (zm_I T.1 559 (8 * p + pl)) 7).1 566 0 + 11 * pl + 2) + 2) / 3), T.2 + 1)
    else ((gm_ft T.1 (nI s) pl (zm_I T.1 559 (8 * p + pl)) 7).1, T.2)
def cuL (s p : Nat) (D : zm_M) : Nat → zm_M × Nat
  | 0 => (gm_t D 0, 0)
  | pl + 1 => cuT s p pl (cuL s p D pl)
theorem cw_h {W : zm_M} {s pl len k y : Nat} {id : Int32} {f : Nat → Nat} (hk : k ≤ 8) : zm_I (gm_cw W s pl len id f k) 550 y = if y = 88 * s + 11 * pl then nI 0 else if y = 88 * s + 11 * pl + 1 then id else if y = 88 * s + 11 * pl + 2 then nI len else if 88 * s + 11 * pl + 3 ≤ y ∧ y < 88 * s + 11 * pl + 3 + k then nI (gs_shb f len s (y - (88 * s + 11 * pl + 3))) else zm_I W 550 y := by
  unfold gm_cw gm_cw0
  rw [gm_upI]
  by_cases c3 : 88 * s + 11 * pl + 3 ≤ y ∧ y < 88 * s + 11 * pl + 3 + k
  · rw [if_pos ⟨rfl, c3⟩, if_neg (show ¬ y = 88 * s + 11 * pl by omega), if_neg (show ¬ y = 88 * s + 11 * pl + 1 by omega), if_neg (show ¬ y = 88 * s + 11 * pl + 2 by omega), if_pos c3]
  · rw [if_neg (fun z => c3 z.2), if_neg c3]
    by_cases c0 : y = 88 * s + 11 * pl
    · rw [if_pos c0, c0, zm_In (Or.inr (by omega)), zm_In (Or.inr (by omega)), zm_Is]
    · by_cases c1 : y = 88 * s + 11 * pl + 1
      · rw [if_neg c0, if_pos c1, c1, zm_In (Or.inr (by omega)), zm_Is]
      · by_cases c2 : y = 88 * s + 11 * pl + 2
        · rw [if_neg c0, if_neg c1, if_pos c2, c2, zm_Is]
        · rw [if_neg c0, if_neg c1, if_neg c2, zm_In (Or.inr (by omega)), zm_In (Or.inr (by omega)), zm_In (Or.inr (by omega))]
/-- a share is made anew: on both sides -/
theorem anew {C F D W : zm_M} {G : wG} {B s pl v : Nat} {z : Nat × (Nat → Nat)} {f : Nat → Nat} {x : Int64} (h : wr C D) (hd : wd G B D) (hs : s < 7) (hpl : pl < 8) (hG : G pl v = some z) (hF : we (fun r => r < 539 ∨ 544 ≤ r) C F) (hW : we (fun r => r ≠ 566 ∧ r ≠ 567 ∧ r ≠ 568) D W) (hf : ∀ x, x < z.1 → f x = z.2 x) (hx : ∀ j, j < (z.1 + 2) / 3 → wb x j = gs_shb z.2 z.1 s j) : wr (fm_put F (2 + 6 * s + 1) pl (nI 0) (nI v) (nI z.1) x) (gm_cw W s pl z.1 (nI v) f ((z.1 + 2) / 3)) ∧ wd G B (gm_cw W s pl z.1 (nI v) f ((z.1 + 2) / 3)) ∧ we (fun r => 546 ≤ r) C (fm_put F (2 + 6 * s + 1) pl (nI 0) (nI v) (nI z.1) x) ∧ we (fun r => r < 546 ∨ r = 572) D (gm_cw W s pl z.1 (nI v) f ((z.1 + 2) / 3)) := by
  have hz := wg_z hd.2.1
  obtain ⟨⟨_, _, _, z1, z2, z3⟩, _⟩ := hd.2.1 _ _ _ hG
  have hw : we (fun r => r ≠ 550 ∧ r ≠ 566 ∧ r ≠ 567 ∧ r ≠ 568) D (gm_cw W s pl z.1 (nI v) f ((z.1 + 2) / 3)) := we_trans (we_mono hW (fun r hr => by omega)) (we_trans (we_trans (we_trans (we_wI (by omega)) (we_wI (by omega))) (we_wI (by omega))) (we_up (by omega)))
  have hC : we (fun r => (r < 539 ∨ 544 ≤ r) ∧ (r < 2 + 6 * s + 2 ∨ 2 + 6 * s + 6 ≤ r)) C (fm_put F (2 + 6 * s + 1) pl (nI 0) (nI v) (nI z.1) x) := we_trans (we_mono hF (fun r hr => hr.1)) (fp_we (fun j h1 h2 => by omega))
  have hoth : ∀ s' pl' j, pl' < 8 → j < 11 → (s' ≠ s ∨ pl' ≠ pl) → zm_I (gm_cw W s pl z.1 (nI v) f ((z.1 + 2) / 3)) 550 (88 * s' + 11 * pl' + j) = zm_I D 550 (88 * s' + 11 * pl' + j) := fun s' pl' j h1 h2 h3 => by
    rw [cw_h (by omega), if_neg (by omega), if_neg (by omega), if_neg (by omega), if_neg (by omega), we_I hW (by decide)]
  have hown : ∀ i, i < 8 → zm_I (gm_cw W s pl z.1 (nI v) f ((z.1 + 2) / 3)) 550 (88 * s + 11 * pl + 3 + i) = if i < (z.1 + 2) / 3 then nI (gs_shb z.2 z.1 s i) else zm_I D 550 (88 * s + 11 * pl + 3 + i) := fun i hi => by
    rw [cw_h (by omega), if_neg (by omega), if_neg (by omega), if_neg (by omega)]
    by_cases ci : i < (z.1 + 2) / 3
    · rw [if_pos (by omega), if_pos ci, Nat.add_sub_cancel_left, shb_c hf]
    · rw [if_neg (by omega), if_neg ci, we_I hW (by decide)]
  have o0 : zm_I (gm_cw W s pl z.1 (nI v) f ((z.1 + 2) / 3)) 550 (88 * s + 11 * pl) = nI 0 := by rw [cw_h (by omega), if_pos rfl]
  have o1 : zm_I (gm_cw W s pl z.1 (nI v) f ((z.1 + 2) / 3)) 550 (88 * s + 11 * pl + 1) = nI v := by rw [cw_h (by omega), if_neg (by omega), if_pos rfl]
  have o2 : zm_I (gm_cw W s pl z.1 (nI v) f ((z.1 + 2) / 3)) 550 (88 * s + 11 * pl + 2) = nI z.1 := by rw [cw_h (by omega), if_neg (by omega), if_neg (by omega), if_pos rfl]
  generalize gm_cw W s pl z.1 (nI v) f ((z.1 + 2) / 3) = Q at hw hoth hown o0 o1 o2
  refine ⟨⟨fun s' hs' => ?_, wr_lt_c h.2.1 (we_mono hC (fun r hr => by omega)) (we_I hw (by decide)) (we_mono hw (fun r hr => by omega)), fun p hp => wr_pr_c hp (h.2.2.1 p hp) (we_mono hC (fun r hr => by omega)) (we_mono hw (fun r hr => by omega)), wr_rd_c h.2.2.2 (we_mono hC (fun r hr => by omega)) (we_I hw (by decide)) (fun x => we_I hw (by decide))⟩, ⟨gt_ok_c hd.1 (we_mono hw (fun r hr => by omega)), wg_ok_c hd.2.1 (Nat.le_refl _) (we_mono hw (fun r hr => by omega)), wd_lt_c hd.2.2.1 (fun _ _ _ q => q) (Nat.le_refl _) hz (we_I hw (by decide)) (we_mono hw (fun r hr => by omega)), fun s' hs' => ?_, fun p hp => wd_pr_c (hd.2.2.2.2.1 p hp) (fun _ _ _ q => q) (Nat.le_refl _) hz (we_mono hw (fun r hr => by omega)), ?_⟩, we_mono hC (fun r hr => by omega), we_mono hw (fun r hr => by omega)⟩
  · obtain ⟨a1, a2, a3, a4⟩ := h.1 s' hs'
    by_cases e : s' = s
    · subst e
      refine ⟨?_, ?_, ?_, fun pl' hpl' => ?_⟩
      · rw [we_I hC (by omega), we_I hw (by decide), a1]
      · rw [we_I hC (by omega), we_I hw (by decide), a2]
      · rw [we_I hC (by omega), we_I hw (by decide), a3]
      · obtain ⟨g1, g2, g3, g4⟩ := fp_at (M := F) (r := 2 + 6 * s' + 1) (pl := pl) (ba := nI 0) (id := nI v) (le := nI z.1) (x := x) pl'
        rw [g1, g2, g3, g4]
        by_cases ep : pl' = pl
        · subst ep
          rw [if_pos rfl, if_pos rfl, if_pos rfl, if_pos rfl]
          refine ⟨o0.symm, o1.symm, o2.symm, fun i hi hi2 => ?_⟩
          rw [gv_of o2 (by omega)] at hi2
          rw [hown i hi, if_pos hi2, hx i hi2]
        · rw [if_neg ep, if_neg ep, if_neg ep, if_neg ep]
          obtain ⟨b1, b2, b3, b4⟩ := a4 pl' hpl'
          have t0 : zm_I Q 550 (88 * s' + 11 * pl') = zm_I D 550 (88 * s' + 11 * pl') := hoth s' pl' 0 hpl' (by decide) (Or.inr ep)
          have t1 := hoth s' pl' 1 hpl' (by decide) (Or.inr ep)
          have t2 := hoth s' pl' 2 hpl' (by decide) (Or.inr ep)
          refine ⟨?_, ?_, ?_, fun i hi hi2 => ?_⟩
          · rw [we_I hF (by omega), t0, b1]
          · rw [we_I hF (by omega), t1, b2]
          · rw [we_I hF (by omega), t2, b3]
          · rw [gv_c t2] at hi2
            have t3 := hoth s' pl' (3 + i) hpl' (by omega) (Or.inr ep)
            rw [← Nat.add_assoc] at t3
            rw [t3, we_J hF (by omega)]
            exact b4 i hi hi2
    · refine ⟨?_, ?_, ?_, wr_sh_c a4 (fun pl _ => ⟨we_I hC (by omega), we_I hC (by omega), we_I hC (by omega), we_J hC (by omega)⟩) (fun y hy => ?_)⟩
      · rw [we_I hC (by omega), we_I hw (by decide), a1]
      · rw [we_I hC (by omega), we_I hw (by decide), a2]
      · rw [we_I hC (by omega), we_I hw (by decide), a3]
      · have := hoth s' (y / 11) (y % 11) (by omega) (by omega) (Or.inl e)
        rw [show 88 * s' + 11 * (y / 11) + y % 11 = 88 * s' + y by omega] at this
        exact this
  · obtain ⟨⟨u', a1, a1'⟩, a2, a3, a4⟩ := hd.2.2.2.1 s' hs'
    refine ⟨⟨u', a1, (we_I hw (by decide)).trans a1'⟩, by rw [we_I hw (by decide)]; exact a2, by rw [we_I hw (by decide)]; exact a3, ?_⟩
    by_cases e : s' = s
    · subst e
      intro pl' hpl'
      by_cases ep : pl' = pl
      · subst ep
        refine ⟨⟨0, by omega, o0⟩, Or.inr ⟨v, z, hG, o1, o2, fun i hi => ?_⟩, fun i hi => ?_⟩
        · rw [hown i (by omega), if_pos hi]
        · rw [hown i hi]
          by_cases ci : i < (z.1 + 2) / 3
          · rw [if_pos ci]
            exact ⟨_, shb_lt z3 hs, rfl⟩
          · rw [if_neg ci]
            exact (a4 pl' hpl').2.2 i hi
      · obtain ⟨b1, b2, b3⟩ := a4 pl' hpl'
        have t0 : zm_I Q 550 (88 * s' + 11 * pl') = zm_I D 550 (88 * s' + 11 * pl') := hoth s' pl' 0 hpl' (by decide) (Or.inr ep)
        have t1 := hoth s' pl' 1 hpl' (by decide) (Or.inr ep)
        have t2 := hoth s' pl' 2 hpl' (by decide) (Or.inr ep)
        have t3 : ∀ i, i < 8 → zm_I Q 550 (88 * s' + 11 * pl' + 3 + i) = zm_I D 550 (88 * s' + 11 * pl' + 3 + i) := fun i hi => by
          have := hoth s' pl' (3 + i) hpl' (by omega) (Or.inr ep)
          rw [← Nat.add_assoc] at this
          exact this
        rw [t0, t1, t2]
        refine ⟨b1, ?_, fun i hi => by rw [t3 i hi]; exact b3 i hi⟩
        rcases b2 with b2 | ⟨v', z', g1, g2, g3, g4⟩
        · exact Or.inl b2
        · have := hz _ _ _ g1
          exact Or.inr ⟨v', z', g1, g2, g3, fun i hi => (t3 i (by omega)).trans (g4 i hi)⟩
    · refine wd_sh_c a4 (fun _ _ _ q => q) (Nat.le_refl _) (fun y hy => ?_) hz
      have := hoth s' (y / 11) (y % 11) (by omega) (by omega) (Or.inl e)
      rw [show 88 * s' + 11 * (y / 11) + y % 11 = 88 * s' + y by omega] at this
      exact this
  · obtain ⟨k, k1, k2⟩ := hd.2.2.2.2.2
    exact ⟨k, k1, (we_I hw (by decide)).trans k2⟩
/-- catchUp at one place -/
theorem cu_step {C D : zm_M} {G : wG} {B s p pl n : Nat} (hB : B < 2 ^ 30) (h : wr C D) (hd : wd G B D) (hs : s < 7) (hp : p < 2) (hpl : pl < 8) : (wr (fm_cuS s (45 + 63 * p) pl C).2 (cuT s p pl (D, n)).1 ∧ wd G B (cuT s p pl (D, n)).1 ∧ we (fun r => 546 ≤ r) C (fm_cuS s (45 + 63 * p) pl C).2 ∧ we (fun r => r < 546 ∨ r = 572) D (cuT s p pl (D, n)).1 ∧ (cuT s p pl (D, n)).2 = if (fm_cuS s (45 + 63 * p) pl C).1 = true then n + 1 else n) ∧ ∀ (l : Launch) (Dv : va_G) (ar : Nat → ClassId) (b : Nat) (Z : State → Prop) (nn : Nat), (zm_I D 559 (8 * p + pl) = 0 ∧ cuT s p pl (D, n) = (D, n)) ∨ (zm_I D 559 (8 * p + pl) ≠ 0 ∧ zm_I D 550 (88 * s + 11 * pl + 2) ≠ 0 ∧ cuT s p pl (D, n) = (D, n))
      ∨ (zm_I D 559 (8 * p + pl) ≠ 0 ∧ zm_I D 550 (88 * s + 11 * pl + 2) = 0 ∧ ∃ W, zK l Dv ar b Z y_Mo_findThree 1 [.ref (b + 546), .int (nI s), .int (nI pl), .int (zm_I D 559 (8 * p + pl))] D nn (some (.int (nI 0))) W ∧ cuT s p pl (D, n) = (W, n))
      ∨ (zm_I D 559 (8 * p + pl) ≠ 0 ∧ zm_I D 550 (88 * s + 11 * pl + 2) = 0 ∧ ∃ (W W2 : zm_M) (len : Nat) (f : Nat → Nat), zK l Dv ar b Z y_Mo_findThree 1 [.ref (b + 546), .int (nI s), .int (nI pl), .int (zm_I D 559 (8 * p + pl))] D nn (some (.int (nI 1))) W ∧ zK l Dv ar b Z y_Mo_fromThree 4 [.ref (b + 546), .int (nI pl)] W nn (some (.int (nI len))) W2 ∧ len ≤ 24 ∧ gt_ok W2 ∧ gb_ok W2 567 0 len f ∧ cuT s p pl (D, n) = (gm_cw W2 s pl len (zm_I D 559 (8 * p + pl)) f ((len + 2) / 3), n + 1)) := by
  have hzg := hd.2.1
  have e0 : zm_I C (45 + 63 * p + 39 + 3 * pl) 0 = zm_I D 559 (8 * p + pl) := wo_decided h hp hpl
  have e1 : zm_I C (2 + 6 * s + 1 + 2) pl = zm_I D 550 (88 * s + 11 * pl + 1) := ((h.1 s hs).2.2.2 pl hpl).2.1
  have hpos := (wd_pos hB (hd.2.2.2.1 s hs).2.2.2 hzg hpl).2
  by_cases c0 : zm_I D 559 (8 * p + pl) = 0
  · have eC : fm_cuS s (45 + 63 * p) pl C = (false, C) := by
      unfold fm_cuS
      rw [e0, if_pos (Or.inl c0)]
    have eD : cuT s p pl (D, n) = (D, n) := if_pos c0
    rw [eC, eD]
    exact ⟨⟨h, hd, we_refl, we_refl, (if_neg Bool.false_ne_true).symm⟩, fun l Dv ar b Z nn => Or.inl ⟨c0, rfl⟩⟩
  · by_cases c1 : zm_I D 550 (88 * s + 11 * pl + 2) ≠ 0
    · have eC : fm_cuS s (45 + 63 * p) pl C = (false, C) := by
        unfold fm_cuS
        rw [e0, e1, if_pos (Or.inr (hpos.mpr c1))]
      have eD : cuT s p pl (D, n) = (D, n) := (if_neg c0).trans (if_pos c1)
      rw [eC, eD]
      exact ⟨⟨h, hd, we_refl, we_refl, (if_neg Bool.false_ne_true).symm⟩, fun l Dv ar b Z nn => Or.inr (Or.inl ⟨c0, c1, rfl⟩)⟩
    · have c1' : zm_I D 550 (88 * s + 11 * pl + 2) = 0 := Classical.byContradiction c1
      have hC0 : ¬ (zm_I D 559 (8 * p + pl) = 0 ∨ zm_I D 550 (88 * s + 11 * pl + 1) ≠ 0) := fun z => z.elim c0 (fun q => c1 (hpos.mp q))
      obtain ⟨ph, w, m, dl, _, _, f1, f2, f3, f4, f5⟩ := hd.2.2.2.2.1 p hp
      obtain ⟨v, vB, ev⟩ := (f5 pl hpl).1
      have hv0 : v ≠ 0 := fun z => c0 (by rw [ev, z]; decide)
      obtain ⟨n3, t, ⟨g1, g2, g3, g4, g5⟩, g6⟩ := found (but := nI s) (v := v) hB h hd hpl (by omega) hv0 (fun s' hs' e => by
        have : s' = s := (nI_eq (by omega) (by omega)).mp e
        rw [this]; exact c1')
      generalize hFT0 : gm_ft D (nI s) pl (nI v) 7 = FT at g4 g5 g6
      generalize hGS : fm_gs C pl (nI v) = GS at g1 g2 g6
      by_cases c3 : n3 = 3
      · obtain ⟨z, hG, ht, k1, k2, k3, k4⟩ := g6 c3
        obtain ⟨⟨_, _, _, z1, z2, z3⟩, _⟩ := hzg _ _ _ hG
        obtain ⟨u1, u2, u3⟩ := tog_re (rr := 542) (by decide) z2 z3 ht k2 k3 (fun k hk => (k4 k hk).2.2)
        have eC : fm_cuS s (45 + 63 * p) pl C = (true, fm_put (fm_together GS 542 (gk_p GS)) (2 + 6 * s + 1) pl (nI 0) (nI v) (nI z.1) (fs_share (fm_together GS 542 (gk_p GS)) 542 (nI s + nI 1))) := by
          unfold fm_cuS
          rw [e0, e1, if_neg hC0, ev, hGS, if_pos (by rw [g2, c3]), u2]
        have gt : ∀ k, k < 3 → gv FT.1 566 k = t k := fun k hk => gv_of (k1 k hk) (by
          have : t k ≤ t 2 := by
            match k, hk with
            | 0, _ => omega
            | 1, _ => omega
            | 2, _ => omega
            | k + 3, hk => omega
          omega)
        have w5 : ∀ x, zm_I FT.1 550 x = zm_I D 550 x := fun x => we_I g5 (by decide)
        obtain ⟨q1, q2, q3⟩ := f3_at (W := FT.1) (pl := pl) (t := t) z2 z3 ht (fun k hk => (w5 _).trans (k4 k hk).1) (fun k hk i hi => (w5 _).trans ((k4 k hk).2.1 i hi))
        have eD : cuT s p pl (D, n) = (gm_cw (gm_f3 FT.1 pl (t 0) (t 1) (t 2)) s pl z.1 (nI v) (fun x => gv (gm_f3 FT.1 pl (t 0) (t 1) (t 2)) 567 x) ((z.1 + 2) / 3), n + 1) := by
          unfold cuT
          dsimp only
          rw [if_neg c0, if_neg c1, ev, hFT0, if_pos (g4.trans c3), gt 0 (by decide), gt 1 (by decide), gt 2 (by decide), q1]
        have hFT : ∀ (l : Launch) (Dv : va_G) (ar : Nat → ClassId) (b : Nat) (Z : State → Prop) (nn : Nat), zK l Dv ar b Z y_Mo_fromThree 4 [.ref (b + 546), .int (nI pl)] FT.1 nn (some (.int (nI z.1))) (gm_f3 FT.1 pl (t 0) (t 1) (t 2)) := fun l Dv ar b Z nn => by
          have hW : wd G B FT.1 := wd_n hd (Nat.le_refl _) ⟨we_mono g5 (fun r hr => by omega), we_I g5 (by decide), we_I g5 (by decide)⟩
          have := c_Mo_fromThree (l := l) (D := Dv) (ar := ar) (b := b) (Z := Z) (n := nn) (pl := pl) hW.1 (wd_gh hW) hpl (k1 0 (by decide)) (k1 1 (by decide)) (k1 2 (by decide)) ht.1 ht.2.1 ht.2.2
          rw [q1] at this
          exact this
        generalize gm_f3 FT.1 pl (t 0) (t 1) (t 2) = W2 at q2 q3 eD hFT
        have hgv : ∀ x, x < z.1 → gv W2 567 x = z.2 x := fun x hx => gv_of (q3 x hx) (by have := z3 x; omega)
        obtain ⟨a1, a2, a3, a4⟩ := anew (F := fm_together GS 542 (gk_p GS)) (W := W2) (f := fun x => gv W2 567 x) (x := fs_share (fm_together GS 542 (gk_p GS)) 542 (nI s + nI 1)) h hd hs hpl hG (we_trans (we_mono g1 (fun r hr => by omega)) (we_mono u1 (fun r hr => by omega))) (we_trans (we_mono g5 (fun r hr => by omega)) (we_mono q2 (fun r hr => by omega))) hgv (fun j hj => share_b hs (by omega) (fun k hk => u3 k hk j hj))
        rw [eC, eD]
        dsimp only
        refine ⟨⟨a1, a2, a3, a4, (if_pos rfl).symm⟩, fun l Dv ar b Z nn => Or.inr (Or.inr (Or.inr ⟨c0, c1', FT.1, W2, z.1, fun x => gv W2 567 x, ?_, hFT l Dv ar b Z nn, z2, ?_, fun x hx => ⟨?_, ?_⟩, ?_⟩))⟩
        · have := c_Mo_findThree (l := l) (D := Dv) (ar := ar) (b := b) (Z := Z) (M := D) (n := nn) (pl := pl) (but := nI s) (id := nI v) hpl
          rw [hFT0, if_pos (g4.trans c3)] at this
          rw [ev]; exact this
        · exact gt_ok_c hd.1 (we_trans (we_mono g5 (fun r hr => by omega)) (we_mono q2 (fun r hr => by omega)))
        · show zm_I W2 567 (0 + x) = nI (gv W2 567 x)
          rw [hgv x hx, Nat.zero_add]
          exact q3 x hx
        · show gv W2 567 x < 256
          rw [hgv x hx]
          exact z3 x
        · rw [ev]
      · have c3' : ¬ zm_I GS 539 2 = nI 3 := fun e => c3 ((nI_eq (by omega) (by decide)).mp (g2.symm.trans e))
        have eC : fm_cuS s (45 + 63 * p) pl C = (false, GS) := by
          unfold fm_cuS
          rw [e0, e1, if_neg hC0, ev, hGS, if_neg c3']
        have eD : cuT s p pl (D, n) = (FT.1, n) := by
          unfold cuT
          dsimp only
          rw [if_neg c0, if_neg c1, ev, hFT0, if_neg (by rw [g4]; exact c3)]
        rw [eC, eD]
        dsimp only
        have hn : wn D FT.1 := ⟨we_mono g5 (fun r hr => by omega), we_I g5 (by decide), we_I g5 (by decide)⟩
        have r1 : wr GS FT.1 := wr_n (wr_m h (we_mono g1 (fun r hr => by omega))) hn
        have r2 : wd G B FT.1 := wd_n hd (Nat.le_refl _) hn
        have r3 : we (fun r => 546 ≤ r) C GS := we_mono g1 (fun r hr => by omega)
        have r4 : we (fun r => r < 546 ∨ r = 572) D FT.1 := we_mono g5 (fun r hr => by omega)
        refine ⟨⟨r1, r2, r3, r4, (if_neg Bool.false_ne_true).symm⟩, fun l Dv ar b Z nn => Or.inr (Or.inr (Or.inl ⟨c0, c1', FT.1, ?_, rfl⟩))⟩
        have := c_Mo_findThree (l := l) (D := Dv) (ar := ar) (b := b) (Z := Z) (M := D) (n := nn) (pl := pl) (but := nI s) (id := nI v) hpl
        rw [hFT0, if_neg (by rw [g4]; exact c3)] at this
        rw [ev]; exact this
theorem cu_loop {C D : zm_M} {G : wG} {B s p : Nat} (hB : B < 2 ^ 30) (h : wr C D) (hd : wd G B D) (hs : s < 7) (hp : p < 2) : ∀ d, d ≤ 8 → wr (fm_cuI s (45 + 63 * p) d C).2 (cuL s p D d).1 ∧ wd G B (cuL s p D d).1 ∧ we (fun r => 546 ≤ r) C (fm_cuI s (45 + 63 * p) d C).2 ∧ we (fun r => r < 546 ∨ r = 572) D (cuL s p D d).1 ∧ (cuL s p D d).2 = (fm_cuI s (45 + 63 * p) d C).1 := by
  intro d
  induction d with
  | zero => exact fun _ => ⟨wr_n h wn_tt, wd_n hd (Nat.le_refl _) wn_tt, we_refl, we_wI (by omega), rfl⟩
  | succ d ih =>
    intro hd8
    obtain ⟨i1, i2, i3, i4, i5⟩ := ih (by omega)
    have eC : fm_cuI s (45 + 63 * p) (d + 1) C = (if (fm_cuS s (45 + 63 * p) d (fm_cuI s (45 + 63 * p) d C).2).1 = true then (fm_cuI s (45 + 63 * p) d C).1 + 1 else (fm_cuI s (45 + 63 * p) d C).1, (fm_cuS s (45 + 63 * p) d (fm_cuI s (45 + 63 * p) d C).2).2) := rfl
    have eD : cuL s p D (d + 1) = cuT s p d (cuL s p D d) := rfl
    rw [eC, eD]
    generalize cuL s p D d = T at i1 i2 i4 i5
    generalize fm_cuI s (45 + 63 * p) d C = N at i1 i3 i5
    obtain ⟨T1, T2⟩ := T
    obtain ⟨N1, N2⟩ := N
    dsimp only at i1 i2 i3 i4 i5 ⊢
    subst i5
    obtain ⟨⟨s1, s2, s3, s4, s5⟩, _⟩ := cu_step (n := T2) hB i1 i2 hs hp (show d < 8 by omega)
    exact ⟨s1, s2, we_trans i3 s3, we_trans i4 s4, s5⟩
/-- catchUp -/
theorem s_catchUp {C D : zm_M} {G : wG} {B s p : Nat} (hB : B < 2 ^ 30) (h : wr C D) (hd : wd G B D) (hs : s < 7) (hp : p < 2) (hw : zm_I D 549 s ≠ 0) (hu : zm_I D 548 s = 0) : ws B C D (fm_cuI s (45 + 63 * p) 8 C).2 (cuL s p D 8).1 ∧ ∀ (l : Launch) (Dv : va_G) (ar : Nat → ClassId) (b : Nat) (Z : State → Prop) (nn : Nat), zK l Dv ar b Z y_Mo_catchUp 6 [.ref (b + 546), .int (nI s), .int (nI p)] D nn (some (.int (nI (fm_cuI s (45 + 63 * p) 8 C).1))) (cuL s p D 8).1 := by
  obtain ⟨i1, i2, i3, i4, i5⟩ := cu_loop hB h hd hs hp 8 (Nat.le_refl _)
  refine ⟨⟨i1, ⟨G, i2⟩, i3, i4⟩, fun l Dv ar b Z nn => ?_⟩
  rw [← i5]
  refine c_Mo_catchUp (T := cuL s p D) hs hp hw hu rfl (fun pl hpl => ?_)
  obtain ⟨j1, j2, _, _, _⟩ := cu_loop hB h hd hs hp pl (by omega)
  have eD : cuL s p D (pl + 1) = cuT s p pl (cuL s p D pl) := rfl
  rw [eD]
  generalize cuL s p D pl = T at j1 j2
  obtain ⟨T1, T2⟩ := T
  dsimp only at j1 j2 ⊢
  exact (cu_step (n := T2) hB j1 j2 hs hp hpl).2 l Dv ar b Z nn
