/-! Class against model (pure): three stations found; read -/
theorem shb_lt {f : Nat → Nat} {len s i : Nat} (hf : ∀ x, f x < 256) (hs : s < 7) : gs_shb f len s i < 256 := by
  have hb : ∀ k, gs_bt f len i k < 256 := fun k => by
    unfold gs_bt
    split
    · exact hf _
    · decide
  exact gl_sh_lt (hb 0) (hb 1) (hb 2) (show s + 1 < 256 by omega)
theorem bt_lt {f : Nat → Nat} {len i k : Nat} (hf : ∀ x, f x < 256) : gs_bt f len i k < 256 := by
  unfold gs_bt
  split
  · exact hf _
  · decide
theorem gadd_we {M : zm_M} {c s r pl : Nat} : we (fun x => x < 539 ∨ 542 ≤ x) M (fm_gadd M c s r pl) := by
  unfold fm_gadd
  split
  · exact we_trans (we_trans (we_wI (by omega)) (we_wI (by omega))) (we_trans (we_wJ (by omega)) (we_wI (by omega)))
  · exact we_refl
theorem gst_we {M : zm_M} {id : Int32} : we (fun x => x < 539 ∨ 542 ≤ x) M (fm_gst M id) := we_trans (we_trans (we_wI (by omega)) (we_wI (by omega))) (we_wI (by omega))
theorem gsS_we {M : zm_M} {s pl : Nat} : we (fun x => x < 539 ∨ 542 ≤ x) M (fm_gsS pl s M) := by
  unfold fm_gsS
  split
  · exact we_refl
  · exact gadd_we
/-- what a share of identity v at a place is: of one report -/
theorem wd_of {G : wG} {B : Nat} {D : zm_M} {A o s pl v : Nat} (hB : B < 2 ^ 30) (h : wd_sh G B D A o s) (hg : wg_ok G B D) (hpl : pl < 8) (hv0 : v ≠ 0) (hv : v < 2 ^ 30) (e : zm_I D A (o + 11 * pl + 1) = nI v) : ∃ z, G pl v = some z ∧ zm_I D A (o + 11 * pl + 2) = nI z.1 ∧ ∀ i, i < (z.1 + 2) / 3 → zm_I D A (o + 11 * pl + 3 + i) = nI (gs_shb z.2 z.1 s i) := by
  rcases (h pl hpl).2.1 with ⟨b1, _⟩ | ⟨v', z, g, b1, b2, b3⟩
  · exact absurd ((nI_eq (by omega) (by decide)).mp (e.symm.trans b1)) hv0
  · obtain ⟨⟨_, _, vB, _⟩, _⟩ := hg _ _ _ g
    have : v' = v := (nI_eq (by omega) (by omega)).mp (b1.symm.trans e)
    subst this
    exact ⟨z, g, b2, b3⟩
/-- an identity is there just where a length is -/
theorem wd_pos {G : wG} {B : Nat} {D : zm_M} {A o s pl : Nat} (hB : B < 2 ^ 30) (h : wd_sh G B D A o s) (hg : wg_ok G B D) (hpl : pl < 8) : (zm_I D A (o + 11 * pl + 1) ≠ 0 ↔ ¬ zm_I D A (o + 11 * pl + 2) ≤ 0) ∧ (zm_I D A (o + 11 * pl + 1) ≠ 0 ↔ zm_I D A (o + 11 * pl + 2) ≠ 0) := by
  rcases (h pl hpl).2.1 with ⟨b1, b2⟩ | ⟨v', z, g, b1, b2, b3⟩
  · rw [b1, b2]
    decide
  · obtain ⟨⟨_, v1, vB, z1, z2, _⟩, _⟩ := hg _ _ _ g
    rw [b1, b2]
    exact ⟨⟨fun _ => nI_nle (by omega) (by omega), fun _ => nI_ne0 (by omega) (by omega)⟩, ⟨fun _ => nI_ne0 (by omega) (by omega), fun _ => nI_ne0 (by omega) (by omega)⟩⟩
theorem found {C D : zm_M} {G : wG} {B pl v : Nat} {but : Int32} (hB : B < 2 ^ 30) (h : wr C D) (hd : wd G B D) (hpl : pl < 8) (hv : v < 2 ^ 30) (hv0 : v ≠ 0) (hbut : ∀ s, s < 7 → nI s = but → zm_I D 550 (88 * s + 11 * pl + 2) = 0) : ∃ (n : Nat) (t : Nat → Nat), (we (fun r => r < 539 ∨ 542 ≤ r) C (fm_gs C pl (nI v)) ∧ zm_I (fm_gs C pl (nI v)) 539 2 = nI n ∧ n ≤ 3 ∧ (gm_ft D but pl (nI v) 7).2 = n ∧ we (fun r => r ≠ 566) D (gm_ft D but pl (nI v) 7).1) ∧ (n = 3 → ∃ z, G pl v = some z ∧ (t 0 < t 1 ∧ t 1 < t 2 ∧ t 2 < 7) ∧ (∀ k, k < 3 → zm_I (gm_ft D but pl (nI v) 7).1 566 k = nI (t k)) ∧ (∀ k, k < 3 → gk_p (fm_gs C pl (nI v)) k = t k + 1) ∧ zm_I (fm_gs C pl (nI v)) 539 1 = nI z.1 ∧ ∀ k, k < 3 → zm_I D 550 (88 * t k + 11 * pl + 2) = nI z.1 ∧ (∀ i, i < (z.1 + 2) / 3 → zm_I D 550 (88 * t k + 11 * pl + 3 + i) = nI (gs_shb z.2 z.1 (t k) i)) ∧ ∀ i, i < (z.1 + 2) / 3 → wb (zm_J (fm_gs C pl (nI v)) 541 k) i = gs_shb z.2 z.1 (t k) i) := by
  have hzg := hd.2.1
  have hN0 : ∀ d, we (fun r => r < 539 ∨ 542 ≤ r) C (zm_it (fm_gsS pl) d (fm_gst C (nI v))) := fun d => we_trans gst_we (we_it (fun k N => gsS_we) d)
  have G7 := gather (C := C) (N := fun d => zm_it (fm_gsS pl) d (fm_gst C (nI v))) (id := nI v) (g := fun s => decide (zm_I C (2 + 6 * s) 1 ≠ 0)) (R := fun s => 2 + 6 * s + 1) (pl := pl) (fun s hs => by show 2 + 6 * s + 1 + 4 < 539; omega) rfl (fun s hs => by
    have e := hN0 s
    show fm_gsS pl s (zm_it (fm_gsS pl) s (fm_gst C (nI v))) = if decide (zm_I C (2 + 6 * s) 1 ≠ 0) = true then fm_gadd (zm_it (fm_gsS pl) s (fm_gst C (nI v))) (gk_c (zm_it (fm_gsS pl) s (fm_gst C (nI v)))) s (2 + 6 * s + 1) pl else zm_it (fm_gsS pl) s (fm_gst C (nI v))
    generalize zm_it (fm_gsS pl) s (fm_gst C (nI v)) = N at e
    unfold fm_gsS
    rw [we_I e (show 2 + 6 * s < 539 ∨ 542 ≤ 2 + 6 * s by omega)]
    by_cases c : zm_I C (2 + 6 * s) 1 = 0
    · rw [if_pos c, if_neg (fun z => (of_decide_eq_true z) c)]
    · rw [if_neg c, if_pos (decide_eq_true c)]) 7 (Nat.le_refl _)
  have hsel : ∀ s, s < 7 → (fun s => decide (zm_I C (2 + 6 * s) 1 ≠ 0) && decide (zm_I C ((fun s => 2 + 6 * s + 1) s + 2) pl ≠ 0 ∧ zm_I C ((fun s => 2 + 6 * s + 1) s + 2) pl = nI v)) s = (fun s => decide (gs_cand D but pl (nI v) s)) s := fun s hs => by
    obtain ⟨a1, a2, a3, a4⟩ := h.1 s hs
    have hsh := (hd.2.2.2.1 s hs).2.2.2
    show (decide (zm_I C (2 + 6 * s) 1 ≠ 0) && decide (zm_I C (2 + 6 * s + 1 + 2) pl ≠ 0 ∧ zm_I C (2 + 6 * s + 1 + 2) pl = nI v)) = decide (nI s ≠ but ∧ zm_I D 548 s = 0 ∧ ¬ zm_I D 550 (88 * s + 11 * pl + 2) ≤ 0 ∧ zm_I D 550 (88 * s + 11 * pl + 1) = nI v)
    rw [(a4 pl hpl).2.1, ← Bool.decide_and]
    apply decide_eq_decide.mpr
    have hp := (wd_pos hB hsh hzg hpl).1
    rcases wo_up s h hd hs with ⟨b1, b2⟩ | ⟨b1, b2⟩
    · rw [b1, b2]
      refine ⟨fun z => ⟨fun e => ?_, by decide, hp.mp z.2.1, z.2.2⟩, fun z => ⟨by decide, hp.mpr z.2.2.1, z.2.2.2⟩⟩
      exact (hp.mp z.2.1) (by rw [hbut s hs e]; decide)
    · rw [b1, b2]
      exact ⟨fun z => absurd z.1 (by decide), fun z => absurd z.2.1 (by decide)⟩
  have ew := wf_c 7 hsel
  rw [ew] at G7
  obtain ⟨g1, g2, g3, g4, g5⟩ := G7
  obtain ⟨f1, f2, f3⟩ := find (D := D) (sel := fun s => decide (gs_cand D but pl (nI v) s)) 7
  obtain ⟨w1, w2, w3⟩ := wf_sp (sel := fun s => decide (gs_cand D but pl (nI v) s)) 7
  rw [← ft_fx] at f1 f2 f3
  refine ⟨(wf (fun s => decide (gs_cand D but pl (nI v) s)) 7).1, (wf (fun s => decide (gs_cand D but pl (nI v) s)) 7).2, ⟨g1, g3, w1, f1, f2⟩, fun hn => ?_⟩
  rw [hn] at g4 w2 w3 f3
  have hcand : ∀ k, k < 3 → gs_cand D but pl (nI v) ((wf (fun s => decide (gs_cand D but pl (nI v) s)) 7).2 k) := fun k hk => of_decide_eq_true (w2 k hk).2
  obtain ⟨z, hG, _, _⟩ := wd_of hB (hd.2.2.2.1 _ (w2 0 (by decide)).1).2.2.2 hzg hpl hv0 hv (hcand 0 (by decide)).2.2.2
  obtain ⟨⟨_, _, _, z1, z2, z3⟩, _⟩ := hzg _ _ _ hG
  have hall : ∀ s, s < 7 → zm_I D 550 (88 * s + 11 * pl + 1) = nI v → zm_I D 550 (88 * s + 11 * pl + 2) = nI z.1 ∧ ∀ i, i < (z.1 + 2) / 3 → zm_I D 550 (88 * s + 11 * pl + 3 + i) = nI (gs_shb z.2 z.1 s i) := fun s hs e => by
    obtain ⟨z', hG', b1, b2⟩ := wd_of hB (hd.2.2.2.1 s hs).2.2.2 hzg hpl hv0 hv e
    rw [hG] at hG'
    cases hG'
    exact ⟨b1, b2⟩
  refine ⟨z, hG, ⟨w3 0 1 (by decide) (by decide), w3 1 2 (by decide) (by decide), (w2 2 (by decide)).1⟩, f3, fun k hk => ?_, ?_, fun k hk => ?_⟩
  · have e := (g4 k hk).1
    show (zm_I (zm_it (fm_gsS pl) 7 (fm_gst C (nI v))) 540 k).toNatClampNeg = _
    rw [e, nI_clamp (by have := (w2 k hk).1; omega)]
  · refine g5 (nI z.1) (fun s hs hg e1 e2 => ?_) (by rw [hn]; decide)
    obtain ⟨a1, a2, a3, a4⟩ := h.1 s hs
    have e2' : zm_I C (2 + 6 * s + 1 + 2) pl = nI v := e2
    rw [(a4 pl hpl).2.1] at e2'
    show zm_I C (2 + 6 * s + 1 + 3) pl = nI z.1
    rw [(a4 pl hpl).2.2.1]
    exact (hall s hs e2').1
  · have hk7 := (w2 k hk).1
    obtain ⟨b1, b2⟩ := hall _ hk7 (hcand k hk).2.2.2
    refine ⟨b1, b2, fun i hi => ?_⟩
    have e := (g4 k hk).2
    show wb (zm_J (zm_it (fm_gsS pl) 7 (fm_gst C (nI v))) 541 k) i = _
    rw [e]
    obtain ⟨a1, a2, a3, a4⟩ := h.1 _ hk7
    have q := (a4 pl hpl).2.2.2 i (by omega) (by rw [gv_of b1 (by omega)]; exact hi)
    rw [b2 i hi] at q
    exact ((nI_eq (by have := shb_lt (len := z.1) (i := i) z3 hk7; omega) (by have := wb_lt (zm_J C (2 + 6 * (wf (fun s => decide (gs_cand D but pl (nI v) s)) 7).2 k + 1 + 4) pl) i; omega)).mp q).symm
/-- the class's report out of them -/
theorem tog_re {E : zm_M} {rr : Nat} {t : Nat → Nat} {z : Nat × (Nat → Nat)} (hrr : rr ≠ 541 ∧ rr ≠ 540) (hz : z.1 ≤ 24) (hf : ∀ x, z.2 x < 256) (ht : t 0 < t 1 ∧ t 1 < t 2 ∧ t 2 < 7) (hp : ∀ k, k < 3 → gk_p E k = t k + 1) (hl : zm_I E 539 1 = nI z.1) (hs : ∀ k, k < 3 → ∀ i, i < (z.1 + 2) / 3 → wb (zm_J E 541 k) i = gs_shb z.2 z.1 (t k) i) : we (fun q => q ≠ rr ∧ q ≠ rr + 1) E (fm_together E rr (gk_p E)) ∧ zm_I (fm_together E rr (gk_p E)) rr 0 = nI z.1 ∧ ∀ k, k < 3 → ∀ i, i < (z.1 + 2) / 3 → wb (zm_J (fm_together E rr (gk_p E)) (rr + 1) k) i = gs_bt z.2 z.1 i k := by
  obtain ⟨a1, a2, a3⟩ := tog_at (M := E) (rr := rr) (pt := gk_p E) (hp 0 (by decide)) (hp 1 (by decide)) (hp 2 (by decide)) (by omega) (by omega) (by omega) (by omega) hrr
  refine ⟨a1, a2.trans hl, fun k hk i hi => ?_⟩
  obtain ⟨b0, b1, b2⟩ := a3 i (by omega) _ _ _ (bt_lt (len := z.1) (i := i) (k := 0) hf) (bt_lt (len := z.1) (i := i) (k := 1) hf) (bt_lt (len := z.1) (i := i) (k := 2) hf) (hs 0 (by decide) i hi) (hs 1 (by decide) i hi) (hs 2 (by decide) i hi)
  match k, hk with
  | 0, _ => exact b0
  | 1, _ => exact b1
  | 2, _ => exact b2
  | k + 3, hk => omega
/-- the model's bytes out of them -/
theorem f3_at {W : zm_M} {pl : Nat} {t : Nat → Nat} {z : Nat × (Nat → Nat)} (hz : z.1 ≤ 24) (hf : ∀ x, z.2 x < 256) (ht : t 0 < t 1 ∧ t 1 < t 2 ∧ t 2 < 7) (h1 : ∀ k, k < 3 → zm_I W 550 (88 * t k + 11 * pl + 2) = nI z.1) (h2 : ∀ k, k < 3 → ∀ i, i < (z.1 + 2) / 3 → zm_I W 550 (88 * t k + 11 * pl + 3 + i) = nI (gs_shb z.2 z.1 (t k) i)) : gv W 550 (88 * t 0 + 11 * pl + 2) = z.1 ∧ we (fun r => r ≠ 567 ∧ r ≠ 568) W (gm_f3 W pl (t 0) (t 1) (t 2)) ∧ ∀ x, x < z.1 → zm_I (gm_f3 W pl (t 0) (t 1) (t 2)) 567 x = nI (z.2 x) := by
  have e := gv_of (h1 0 (by decide)) (by omega)
  unfold gm_f3
  rw [e]
  have hv : ∀ k, k < 3 → t k < 7 → ∀ i, i < (z.1 + 2) / 3 → gv W 550 (88 * t k + 11 * pl + 3 + i) = gs_shb z.2 z.1 (t k) i := fun k hk hk7 i hi => gv_of (h2 k hk i hi) (by have := shb_lt (len := z.1) (i := i) hf hk7; omega)
  obtain ⟨a, b⟩ := tg_at (M := W) (t0 := t 0) (t1 := t 1) (t2 := t 2) (len := z.1) (V0 := fun i => gv W 550 (88 * t 0 + 11 * pl + 3 + i)) (V1 := fun i => gv W 550 (88 * t 1 + 11 * pl + 3 + i)) (V2 := fun i => gv W 550 (88 * t 2 + 11 * pl + 3 + i)) (f := z.2) ht.1 ht.2.1 ht.2.2 hf (hv 0 (by decide) (by omega)) (hv 1 (by decide) (by omega)) (hv 2 (by decide) (by omega)) ((z.1 + 2) / 3) (Nat.le_refl _)
  refine ⟨rfl, a, fun x hx => b x hx (Nat.mod_lt _ (by omega))⟩
theorem wd_gh {G : wG} {B : Nat} {D : zm_M} (hd : wd G B D) : gh_ok D := by
  intro s hs pl hpl
  have hsh := (hd.2.2.2.1 s hs).2.2.2
  obtain ⟨len, l1, l2⟩ := wd_len hsh (wg_z hd.2.1) hpl
  refine ⟨⟨by rw [gv_of l2 (by omega)]; exact l2, by rw [gv_of l2 (by omega)]; exact l1⟩, fun i hi => ?_⟩
  obtain ⟨u, u1, u2⟩ := (hsh pl hpl).2.2 i hi
  exact ⟨by rw [gv_of u2 (by omega)]; exact u2, by rw [gv_of u2 (by omega)]; exact u1⟩
theorem bt_div {f : Nat → Nat} {len x : Nat} (hx : x < len) : gs_bt f len (x % ((len + 2) / 3)) (x / ((len + 2) / 3)) = f x := by
  unfold gs_bt
  have hdm := Nat.div_add_mod x ((len + 2) / 3)
  rw [if_pos (by omega), hdm]
/-- read, with three found -/
theorem s_read {C D : zm_M} {G : wG} {B p pl v : Nat} (hB : B < 2 ^ 30) (h : wr C D) (hd : wd G B D) (hp : p < 2) (hpl : pl < 8) (hv : zm_I D 559 (8 * p + pl) = nI v) (hv1 : v < 2 ^ 30) (hv0 : v ≠ 0) : (zm_I (fm_gs C pl (nI v)) 539 2 ≠ nI 3 ∧ (gm_ft (gm_t D 0) (-1) pl (nI v) 7).2 ≠ 3 ∧ ws B C D (fm_gs C pl (nI v)) (zm_wI (gm_ft (gm_t D 0) (-1) pl (nI v) 7).1 546 0 (nI 3))) ∨ (zm_I (fm_gs C pl (nI v)) 539 2 = nI 3 ∧ (gm_ft (gm_t D 0) (-1) pl (nI v) 7).2 = 3 ∧ ∃ t0 t1 t2, t0 < t1 ∧ t1 < t2 ∧ t2 < 7 ∧ zm_I (gm_ft (gm_t D 0) (-1) pl (nI v) 7).1 566 0 = nI t0 ∧ zm_I (gm_ft (gm_t D 0) (-1) pl (nI v) 7).1 566 1 = nI t1 ∧ zm_I (gm_ft (gm_t D 0) (-1) pl (nI v) 7).1 566 2 = nI t2 ∧ ws B C D (fm_together (fm_gs C pl (nI v)) 544 (gk_p (fm_gs C pl (nI v)))) (gm_rd D pl (nI v) t0 t1 t2 (gv D 550 (88 * t0 + 11 * pl + 2))) ∧ zm_I (fm_together (fm_gs C pl (nI v)) 544 (gk_p (fm_gs C pl (nI v)))) 544 0 = nI (gv D 550 (88 * t0 + 11 * pl + 2))) := by
  have h' := wr_n h (wn_tt (e := 0))
  have hd' := wd_n hd (Nat.le_refl _) (wn_tt (e := 0))
  obtain ⟨n, t, ⟨g1, g2, g3, g4, g5⟩, g6⟩ := found (but := -1) hB h' hd' hpl hv1 hv0 (fun s hs e => absurd e.symm (nI_m1 s (by omega)))
  have hwt : we (fun r => r ≠ 546) D (gm_t D 0) := we_wI (by omega)
  by_cases c : n = 3
  · right
    obtain ⟨z, hG, ht, k1, k2, k3, k4⟩ := g6 c
    obtain ⟨⟨_, _, _, z1, z2, z3⟩, _⟩ := hd.2.1 _ _ _ hG
    obtain ⟨t1, t2, t3⟩ := tog_re (rr := 544) (by decide) z2 z3 ht k2 k3 (fun k hk => (k4 k hk).2.2)
    refine ⟨by rw [g2, c], g4.trans c, t 0, t 1, t 2, ht.1, ht.2.1, ht.2.2, k1 0 (by decide), k1 1 (by decide), k1 2 (by decide), ?_, ?_⟩
    · have eW : ∀ x, zm_I (gm_rdW D pl (nI v)) 550 x = zm_I (gm_t D 0) 550 x := fun x => (zm_In (Or.inl (by decide))).trans (we_I g5 (by decide))
      obtain ⟨q1, q2, q3⟩ := f3_at (W := gm_rdW D pl (nI v)) (pl := pl) (t := t) z2 z3 ht (fun k hk => (eW _).trans (k4 k hk).1) (fun k hk i hi => (eW _).trans ((k4 k hk).2.1 i hi))
      have ez : gv D 550 (88 * t 0 + 11 * pl + 2) = z.1 := gv_of ((we_I hwt (by decide)).symm.trans (k4 0 (by decide)).1) (by omega)
      unfold gm_rd
      rw [ez]
      have wW : we (fun r => r ≠ 546 ∧ r ≠ 566) D (gm_rdW D pl (nI v)) := we_trans (we_mono hwt (fun r hr => hr.1)) (we_trans (we_mono g5 (fun r hr => hr.2)) (we_wI (by omega)))
      have k5 : ∀ k, k ≠ 0 → zm_I (gm_rdW D pl (nI v)) 546 k = zm_I D 546 k := fun k hk => (zm_In (Or.inr hk)).trans ((we_I g5 (by decide)).trans (zm_In (Or.inr hk)))
      generalize gm_f3 (gm_rdW D pl (nI v)) pl (t 0) (t 1) (t 2) = F at q2 q3
      have wF : we (fun r => r ≠ 546 ∧ r ≠ 566 ∧ r ≠ 567 ∧ r ≠ 568 ∧ r ≠ 569) D (gm_up (zm_wI F 546 25 (nI z.1)) 569 0 z.1 (fun x => zm_I F 567 x)) := we_trans (we_mono wW (fun r hr => by omega)) (we_trans (we_mono q2 (fun r hr => by omega)) (we_trans (we_wI (by omega)) (we_up (by omega))))
      have f5 : zm_I (gm_up (zm_wI F 546 25 (nI z.1)) 569 0 z.1 (fun x => zm_I F 567 x)) 546 5 = zm_I D 546 5 := (gm_upn (Or.inl (by decide))).trans ((zm_In (Or.inr (by decide))).trans ((we_I q2 (by decide)).trans (k5 5 (by decide))))
      have f25 : zm_I (gm_up (zm_wI F 546 25 (nI z.1)) 569 0 z.1 (fun x => zm_I F 567 x)) 546 25 = nI z.1 := (gm_upn (Or.inl (by decide))).trans zm_Is
      have hz := wg_z hd.2.1
      have hC : we (fun q => q < 539 ∨ 546 ≤ q) C (fm_together (fm_gs C pl (nI v)) 544 (gk_p (fm_gs C pl (nI v)))) := we_trans (we_mono g1 (fun r hr => by omega)) (we_mono t1 (fun r hr => by omega))
      refine ⟨⟨fun s hs => wr_st_c (h.1 s hs) (we_mono hC (fun r hr => by omega)) (we_mono wF (fun r hr => by omega)), wr_lt_c h.2.1 (we_mono hC (fun r hr => by omega)) f5 (we_mono wF (fun r hr => by omega)), fun p hp => wr_pr_c hp (h.2.2.1 p hp) (we_mono hC (fun r hr => by omega)) (we_mono wF (fun r hr => by omega)), ?_⟩, ⟨G, gt_ok_c hd.1 (we_mono wF (fun r hr => by omega)), wg_ok_c hd.2.1 (Nat.le_refl _) (we_mono wF (fun r hr => by omega)), wd_lt_c hd.2.2.1 (fun _ _ _ q => q) (Nat.le_refl _) hz f5 (we_mono wF (fun r hr => by omega)), fun s hs => wd_st_c (hd.2.2.2.1 s hs) (fun _ _ _ q => q) (Nat.le_refl _) hz (we_mono wF (fun r hr => by omega)), fun p hp => wd_pr_c (hd.2.2.2.2.1 p hp) (fun _ _ _ q => q) (Nat.le_refl _) hz (we_mono wF (fun r hr => by omega)), ⟨z.1, z2, f25⟩⟩, we_mono hC (fun r hr => by omega), we_mono wF (fun r hr => by omega)⟩
      refine ⟨t2.trans f25.symm, fun x hx => ?_⟩
      rw [gv_of f25 (by omega)] at hx ⊢
      have eT : ff_T z.1 = (z.1 + 2) / 3 := by unfold ff_T; omega
      have hd3 : x / ((z.1 + 2) / 3) < 3 := by
        rw [Nat.div_lt_iff_lt_mul (by omega)]
        omega
      have hml := Nat.mod_lt x (show (z.1 + 2) / 3 > 0 by omega)
      unfold fs_byte
      rw [eT, wb_get _ (by omega), t3 _ hd3 _ hml, bt_div hx, gm_upI, if_pos ⟨rfl, by omega⟩, Nat.sub_zero, q3 x hx]
    · rw [t2, gv_of ((we_I hwt (by decide)).symm.trans (k4 0 (by decide)).1) (by omega)]
  · left
    refine ⟨fun e => c ?_, by rw [g4]; exact c, ?_⟩
    · exact (nI_eq (by omega) (by decide)).mp (g2.symm.trans e)
    · refine ws_n h hd (Nat.le_refl _) (we_mono g1 (fun r hr => by omega)) ?_ ?_
      · refine wn_trans (wn_tt (e := 0)) (wn_trans ⟨we_mono g5 (fun r hr => by omega), we_I g5 (by decide), we_I g5 (by decide)⟩ wn_t)
      · exact we_trans (we_mono hwt (fun r hr => by omega)) (we_trans (we_mono g5 (fun r hr => by omega)) (we_wI (by omega)))
