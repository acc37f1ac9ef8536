/-! Class against model (pure): propose -/
theorem ffL_sp {D : zm_M} {p : Nat} : ∀ d k, gs_ffL D p d k = k + d ∨ (k ≤ gs_ffL D p d k ∧ gs_ffL D p d k < k + d ∧ zm_I D 559 (8 * p + gs_ffL D p d k) = 0 ∧ zm_I D 560 (8 * p + gs_ffL D p d k) = 0) := by
  intro d
  induction d with
  | zero => exact fun k => Or.inl rfl
  | succ d ih =>
    intro k
    have e : gs_ffL D p (d + 1) k = if zm_I D 559 (8 * p + k) = 0 ∧ zm_I D 560 (8 * p + k) = 0 then k else gs_ffL D p d (k + 1) := rfl
    by_cases c : zm_I D 559 (8 * p + k) = 0 ∧ zm_I D 560 (8 * p + k) = 0
    · rw [if_pos c] at e
      rw [e]
      exact Or.inr ⟨Nat.le_refl _, by omega, c⟩
    · rw [if_neg c] at e
      rw [e]
      rcases ih (k + 1) with a | ⟨a1, a2, a3⟩
      · exact Or.inl (by omega)
      · exact Or.inr ⟨by omega, by omega, a3⟩
theorem nI_m1 : ∀ x, x < 9 → ¬ (-1 : Int32) = nI x := by decide
theorem ff_sp {D : zm_M} {p pl : Nat} (h : gs_ff D p = nI pl) (hpl : pl < 8) : zm_I D 553 p = nI 2 ∧ zm_I D 559 (8 * p + pl) = 0 ∧ zm_I D 560 (8 * p + pl) = 0 := by
  unfold gs_ff at h
  by_cases c : zm_I D 553 p = nI 2
  · rw [if_pos c] at h
    rcases ffL_sp (D := D) (p := p) 8 0 with a | ⟨a1, a2, a3⟩
    · rw [if_pos (by omega)] at h
      exact absurd h (nI_m1 pl (by omega))
    · rw [if_neg (by omega)] at h
      have e : gs_ffL D p 8 0 = pl := (nI_eq (by omega) (by omega)).mp h
      rw [e] at a3
      exact ⟨c, a3⟩
  · rw [if_neg c] at h
    exact absurd h (nI_m1 pl (by omega))
section PF
variable {M : zm_M} {p pl len ra at0 k x : Nat} {id : Int32}
theorem pf_we : we (fun r => r ≠ 560 ∧ r ≠ 561 ∧ r ≠ 562 ∧ r ≠ 563) M (gm_pf M p pl id len ra at0 k) := we_trans (we_trans (we_trans (we_wI (by omega)) (we_wI (by omega))) (we_wI (by omega))) (we_up (by omega))
theorem pf_0 : zm_I (gm_pf M p pl id len ra at0 k) 560 x = if x = 8 * p + pl then id else zm_I M 560 x := by
  unfold gm_pf
  rw [gm_upn (Or.inl (by decide)), zm_In (Or.inl (by decide)), zm_In (Or.inl (by decide))]
  by_cases e : x = 8 * p + pl
  · rw [if_pos e, e, zm_Is]
  · rw [if_neg e, zm_In (Or.inr e)]
theorem pf_1 : zm_I (gm_pf M p pl id len ra at0 k) 561 x = if x = 8 * p + pl then nI len else zm_I M 561 x := by
  unfold gm_pf
  rw [gm_upn (Or.inl (by decide)), zm_In (Or.inl (by decide))]
  by_cases e : x = 8 * p + pl
  · rw [if_pos e, e, zm_Is]
  · rw [if_neg e, zm_In (Or.inr e), zm_In (Or.inl (by decide))]
theorem pf_2 : zm_I (gm_pf M p pl id len ra at0 k) 562 x = if x = 8 * p + pl then nI 0 else zm_I M 562 x := by
  unfold gm_pf
  rw [gm_upn (Or.inl (by decide))]
  by_cases e : x = 8 * p + pl
  · rw [if_pos e, e, zm_Is]
  · rw [if_neg e, zm_In (Or.inr e), zm_In (Or.inl (by decide)), zm_In (Or.inl (by decide))]
theorem pf_3 : zm_I (gm_pf M p pl id len ra at0 k) 563 x = if 24 * (8 * p + pl) ≤ x ∧ x < 24 * (8 * p + pl) + k then zm_I M ra (at0 + (x - 24 * (8 * p + pl))) else zm_I M 563 x := by
  unfold gm_pf
  rw [gm_upI]
  by_cases e : 24 * (8 * p + pl) ≤ x ∧ x < 24 * (8 * p + pl) + k
  · rw [if_pos ⟨rfl, e⟩, if_pos e]
  · rw [if_neg (fun z => e z.2), if_neg e, zm_In (Or.inl (by decide)), zm_In (Or.inl (by decide)), zm_In (Or.inl (by decide))]
end PF
/-- what was in G stays, and w at pl stands for z -/
def wg_up (G : wG) (pl w : Nat) (z : Nat × (Nat → Nat)) : wG := fun pl' v => if pl' = pl ∧ v = w then some z else G pl' v
theorem wg_up_ext {G : wG} {pl w : Nat} {z : Nat × (Nat → Nat)} (h : ∀ z', ¬ G pl w = some z') : ∀ pl' v z', G pl' v = some z' → wg_up G pl w z pl' v = some z' := fun pl' v z' e => by
  unfold wg_up
  by_cases c : pl' = pl ∧ v = w
  · obtain ⟨rfl, rfl⟩ := c
    exact absurd e (h z')
  · rw [if_neg c]; exact e
theorem s_propose {C D : zm_M} {G : wG} {B p pl dl : Nat} (hB : B < 2 ^ 30) (h : wr C D) (hd : wd G B D) (hp : p < 2) (hff : gs_ff D p = nI pl) (hpl : pl < 8) (hdl : zm_I D 558 p = nI dl) (hd0 : 0 < dl) (hd24 : dl ≤ 24) : ∃ c f, c ≤ 60 ∧ zm_I D 546 5 = nI c ∧ gb_ok D 557 (24 * p) dl f ∧ ws B C D (fm_propose C (45 + 63 * p) pl dl) (gm_aa (gm_prop D p pl dl) c p pl dl f 7).1 := by
  obtain ⟨c, c1, c2, _⟩ := hd.2.2.1
  have hz := wg_z hd.2.1
  obtain ⟨hph, hk9, hk0⟩ := ff_sp hff hpl
  obtain ⟨⟨a0, a1, a2, a3, a4⟩, bb, cc, dd⟩ := h.2.2.1 p hp
  obtain ⟨ph, w, m, dl', ⟨k1, k2, k3, k4⟩, ⟨e1, e2, e3, e4⟩, f1, f2, f3, f4, f5⟩ := hd.2.2.2.2.1 p hp
  have edl : dl' = dl := (nI_eq (by omega) (by omega)).mp (e4.symm.trans hdl)
  subst edl
  have eph : ph = 2 := (nI_eq (by omega) (by omega)).mp (e1.symm.trans hph)
  subst eph
  have hw2 : 2 ≤ w ∧ w % 2 = p := f2.resolve_left (fun z => absurd z.1 (by decide))
  let f : Nat → Nat := fun x => if x < dl' then gv D 557 (24 * p + x) else 0
  have hfv : ∀ x, x < dl' → zm_I D 557 (24 * p + x) = nI (f x) := fun x hx => by
    obtain ⟨u, q1, q2⟩ := f1 x hx
    show _ = nI (if x < dl' then gv D 557 (24 * p + x) else 0)
    rw [if_pos hx, gv_of q2 (by omega), q2]
  have hf256 : ∀ x, f x < 256 := fun x => by
    show (if x < dl' then gv D 557 (24 * p + x) else 0) < 256
    by_cases hx : x < dl'
    · obtain ⟨u, q1, q2⟩ := f1 x hx
      rw [if_pos hx, gv_of q2 (by omega)]
      exact q1
    · rw [if_neg hx]; decide
  have hnone : ∀ z', ¬ G pl w = some z' := fun z' e => by
    obtain ⟨_, q⟩ := hd.2.1 pl w z' e
    obtain ⟨_, q2⟩ := q p hp hw2.2
    rw [gv_of e2 (by omega)] at q2
    rcases (q2 rfl).2 with z | z
    · exact z hk9
    · exact z hk0
  have hext := wg_up_ext (z := (dl', f)) hnone
  have hGw : wg_up G pl w (dl', f) pl w = some (dl', f) := by
    unfold wg_up
    rw [if_pos ⟨rfl, rfl⟩]
  -- the model
  have mwe : we (fun r => r ≠ 546 ∧ r ≠ 558 ∧ r ≠ 560 ∧ r ≠ 561 ∧ r ≠ 562 ∧ r ≠ 563) D (gm_prop D p pl dl') := we_trans (we_trans (we_wI (by omega)) (we_mono pf_we (fun r hr => by omega))) (we_wI (by omega))
  have m0 : ∀ x, zm_I (gm_prop D p pl dl') 560 x = if x = 8 * p + pl then nI w else zm_I D 560 x := fun x => by
    unfold gm_prop
    rw [zm_In (Or.inl (by decide)), pf_0, e2]
    rfl
  have m1 : ∀ x, zm_I (gm_prop D p pl dl') 561 x = if x = 8 * p + pl then nI dl' else zm_I D 561 x := fun x => by
    unfold gm_prop
    rw [zm_In (Or.inl (by decide)), pf_1]
    rfl
  have m2 : ∀ x, zm_I (gm_prop D p pl dl') 562 x = if x = 8 * p + pl then nI 0 else zm_I D 562 x := fun x => by
    unfold gm_prop
    rw [zm_In (Or.inl (by decide)), pf_2]
    rfl
  have m3 : ∀ x, zm_I (gm_prop D p pl dl') 563 x = if 24 * (8 * p + pl) ≤ x ∧ x < 24 * (8 * p + pl) + dl' then zm_I D 557 (24 * p + (x - 24 * (8 * p + pl))) else zm_I D 563 x := fun x => by
    unfold gm_prop
    rw [zm_In (Or.inl (by decide)), pf_3]
    rfl
  have m8 : ∀ x, zm_I (gm_prop D p pl dl') 558 x = if x = p then nI 0 else zm_I D 558 x := fun x => by
    unfold gm_prop
    by_cases e : x = p
    · rw [if_pos e, e, zm_Is]
    · rw [if_neg e, zm_In (Or.inr e), we_I pf_we (by decide)]
      exact zm_In (Or.inl (by decide))
  have m46 : ∀ k, k ≠ 0 → zm_I (gm_prop D p pl dl') 546 k = zm_I D 546 k := fun k hk => by
    unfold gm_prop
    rw [zm_In (Or.inl (by decide)), we_I pf_we (by decide)]
    exact zm_In (Or.inr hk)
  have hwep : ∀ p', p' < 2 → p' ≠ p → wep p' D (gm_prop D p pl dl') := fun p' h2 hne => ⟨fun r hr => by
      rcases hr with rfl | rfl | rfl | rfl
      · exact we_I mwe (by decide)
      · exact we_I mwe (by decide)
      · exact we_I mwe (by decide)
      · rw [m8, if_neg hne], fun x hx => we_I mwe (by decide), fun x _ => we_I mwe (by decide), fun r h1 h2 pl' hpl' => by
      by_cases q0 : r = 560
      · subst q0; rw [m0, if_neg (by omega)]
      · by_cases q1 : r = 561
        · subst q1; rw [m1, if_neg (by omega)]
        · by_cases q2 : r = 562
          · subst q2; rw [m2, if_neg (by omega)]
          · exact we_I mwe (by omega), fun pl' hpl' x hx => by rw [m3, if_neg (by omega)]⟩
  have wdD : wd (wg_up G pl w (dl', f)) B (gm_prop D p pl dl') := by
    refine ⟨gt_ok_c hd.1 (we_mono mwe (fun r hr => by omega)), ?_, wd_lt_c hd.2.2.1 hext (Nat.le_refl _) hz (m46 5 (by decide)) (we_mono mwe (fun r hr => by omega)), fun s hs => wd_st_c (hd.2.2.2.1 s hs) hext (Nat.le_refl _) hz (we_mono mwe (fun r hr => by omega)), fun p' hp' => ?_, ?_⟩
    · intro pl' v z e
      unfold wg_up at e
      by_cases cz : pl' = pl ∧ v = w
      · rw [if_pos cz] at e
        obtain ⟨rfl, rfl⟩ := cz
        cases e
        refine ⟨⟨hpl, by omega, k2, hd0, hd24, hf256⟩, fun p' hp' hv => ?_⟩
        have ep : p' = p := hv.symm.trans hw2.2
        subst ep
        rw [gv_of ((we_I mwe (by decide)).trans e2) (by omega), we_I mwe (by decide), m0, if_pos rfl]
        exact ⟨Nat.le_refl _, fun _ => ⟨hph, Or.inr (nI_ne0 (by omega) (by omega))⟩⟩
      · rw [if_neg cz] at e
        obtain ⟨q1, q2⟩ := hd.2.1 pl' v z e
        refine ⟨q1, fun p' hp' hv => ?_⟩
        obtain ⟨q3, q4⟩ := q2 p' hp' hv
        rw [gv_c (we_I mwe (by decide)), we_I mwe (by decide), we_I mwe (by decide), m0]
        refine ⟨q3, fun ez => ⟨(q4 ez).1, ?_⟩⟩
        rcases (q4 ez).2 with z | z
        · exact Or.inl z
        · by_cases ex : 8 * p' + pl' = 8 * p + pl
          · rw [ex] at z
            exact absurd hk0 z
          · rw [if_neg ex]; exact Or.inr z
    · by_cases e : p' = p
      · subst e
        refine ⟨2, w, m, 0, ⟨by decide, k2, k3, by decide⟩, ⟨(we_I mwe (by decide)).trans e1, (we_I mwe (by decide)).trans e2, (we_I mwe (by decide)).trans e3, by rw [m8, if_pos rfl]⟩, fun x hx => absurd hx (Nat.not_lt_zero _), f2, f3, fun s hs e => wd_sh_c (f4 s hs e) hext (Nat.le_refl _) (fun x hx => we_I mwe (by decide)) hz, fun pl' hpl' => ?_⟩
        by_cases ep : pl' = pl
        · subst ep
          obtain ⟨v, q1, q2⟩ := (f5 pl' hpl).1
          refine ⟨⟨v, q1, (we_I mwe (by decide)).trans q2⟩, Or.inr ⟨rfl, w, (dl', f), 0, hGw, by rw [m0, if_pos rfl], by decide, by rw [m2, if_pos rfl], by rw [m1, if_pos rfl], fun x hx => ?_⟩⟩
          have hx' : x < dl' := hx
          rw [m3, if_pos (by omega), Nat.add_sub_cancel_left]
          exact hfv x hx'
        · exact wd_sp_c (f5 pl' hpl') hext (Nat.le_refl _) (fun r h1 h2 => by
            by_cases q0 : r = 560
            · subst q0; rw [m0, if_neg (by omega)]
            · by_cases q1 : r = 561
              · subst q1; rw [m1, if_neg (by omega)]
              · by_cases q2 : r = 562
                · subst q2; rw [m2, if_neg (by omega)]
                · exact we_I mwe (by omega)) hz (fun x hx => by rw [m3, if_neg (by omega)])
      · exact wd_pr_c2 (hd.2.2.2.2.1 p' hp') hext (Nat.le_refl _) hz (hwep p' hp' e)
    · obtain ⟨k, q1, q2⟩ := hd.2.2.2.2.2
      exact ⟨k, q1, (m46 25 (by decide)).trans q2⟩
  -- the class
  have hpd : fm_pd C (45 + 63 * p) pl dl' = zm_wI (fm_cut (fm_prop C (45 + 63 * p + 39 + 3 * pl) (nI w)) (45 + 63 * p + 39 + 3 * pl + 1) (45 + 63 * p + 1) dl') (45 + 63 * p) 4 (nI 0) := by
    unfold fm_pd
    rw [a2, e2]
  have wA : we (fun x => x ≠ 45 + 63 * p + 39 + 3 * pl) C (fm_prop C (45 + 63 * p + 39 + 3 * pl) (nI w)) := we_trans (we_wI (by omega)) (we_wI (by omega))
  have A0 : zm_I (fm_prop C (45 + 63 * p + 39 + 3 * pl) (nI w)) (45 + 63 * p + 39 + 3 * pl) 0 = zm_I C (45 + 63 * p + 39 + 3 * pl) 0 := by
    unfold fm_prop
    rw [zm_In (Or.inr (by decide)), zm_In (Or.inr (by decide))]
  have A1 : zm_I (fm_prop C (45 + 63 * p + 39 + 3 * pl) (nI w)) (45 + 63 * p + 39 + 3 * pl) 1 = nI w := by
    unfold fm_prop
    rw [zm_In (Or.inr (by decide)), zm_Is]
  have A2 : zm_I (fm_prop C (45 + 63 * p + 39 + 3 * pl) (nI w)) (45 + 63 * p + 39 + 3 * pl) 2 = nI 0 := zm_Is
  obtain ⟨u1, u2, _, u4⟩ := cut_at (M := fm_prop C (45 + 63 * p + 39 + 3 * pl) (nI w)) (r := 45 + 63 * p + 39 + 3 * pl + 1) (q := 45 + 63 * p + 1) (c := dl') (f := f) hd0 hd24 (by omega) (fun x hx => ⟨hf256 x, by
    rw [we_I wA (by omega), bb x (by rw [gv_of hdl (by omega)]; exact hx), hfv x hx]⟩)
  have cwe : we (fun x => x ≠ 45 + 63 * p ∧ (x < 45 + 63 * p + 39 + 3 * pl ∨ 45 + 63 * p + 39 + 3 * pl + 3 ≤ x)) C (fm_pd C (45 + 63 * p) pl dl') := by
    rw [hpd]
    exact we_trans (we_trans (we_mono wA (fun x hx => by omega)) (we_mono u1 (fun x hx => by omega))) (we_wI (by omega))
  have R4 : zm_I (fm_pd C (45 + 63 * p) pl dl') (45 + 63 * p) 4 = nI 0 := by rw [hpd]; exact zm_Is
  have R : ∀ k, k ≠ 4 → zm_I (fm_pd C (45 + 63 * p) pl dl') (45 + 63 * p) k = zm_I C (45 + 63 * p) k := fun k hk => by
    rw [hpd, zm_In (Or.inr hk), we_I u1 (by omega), we_I wA (by omega)]
  have Q : ∀ k, zm_I (fm_pd C (45 + 63 * p) pl dl') (45 + 63 * p + 39 + 3 * pl) k = zm_I (fm_prop C (45 + 63 * p + 39 + 3 * pl) (nI w)) (45 + 63 * p + 39 + 3 * pl) k := fun k => by
    rw [hpd, zm_In (Or.inl (by omega)), we_I u1 (by omega)]
  have wrC : wr (fm_pd C (45 + 63 * p) pl dl') (gm_prop D p pl dl') := by
    refine ⟨fun s hs => wr_st_c (h.1 s hs) (we_mono cwe (fun r hr => by omega)) (we_mono mwe (fun r hr => by omega)), wr_lt_c h.2.1 (we_mono cwe (fun r hr => by omega)) (m46 5 (by decide)) (we_mono mwe (fun r hr => by omega)), fun p' hp' => ?_, wr_rd_c h.2.2.2 (we_mono cwe (fun r hr => by omega)) (m46 25 (by decide)) (fun x => we_I mwe (by decide))⟩
    by_cases e : p' = p
    · subst e
      refine ⟨⟨?_, ?_, ?_, ?_, ?_⟩, fun x hx => ?_, fun s hs e => ?_, fun pl' hpl' => ?_⟩
      · rw [R 0 (by decide), a0]
      · rw [R 1 (by decide), a1, we_I mwe (by decide)]
      · rw [R 2 (by decide), a2, we_I mwe (by decide)]
      · rw [R 3 (by decide), a3, we_I mwe (by decide)]
      · rw [R4, m8, if_pos rfl]
      · rw [gv_of (n := 0) (by rw [m8, if_pos rfl]) (by decide)] at hx
        exact absurd hx (Nat.not_lt_zero _)
      · rw [gv_c (we_I mwe (by decide))] at e
        exact wr_sh_c (cc s hs e) (fun pl _ => ⟨we_I cwe (by omega), we_I cwe (by omega), we_I cwe (by omega), we_J cwe (by omega)⟩) (fun x _ => we_I mwe (by decide))
      · by_cases ep : pl' = pl
        · subst ep
          refine ⟨?_, ?_, fun _ => ⟨?_, ?_, fun k hk i hi => ?_⟩⟩
          · rw [Q 0, A0, (dd pl' hpl).1, we_I mwe (by decide)]
          · rw [Q 1, A1, m0, if_pos rfl]
          · rw [Q 2, A2, m2, if_pos rfl]
          · rw [gv_of (n := dl') (by rw [m1, if_pos rfl]) (by omega), hpd, zm_In (Or.inl (by omega)), u2]
          · rw [gv_of (n := dl') (by rw [m1, if_pos rfl]) (by omega)] at hi ⊢
            rw [hpd, show zm_J (zm_wI (fm_cut (fm_prop C (45 + 63 * p' + 39 + 3 * pl') (nI w)) (45 + 63 * p' + 39 + 3 * pl' + 1) (45 + 63 * p' + 1) dl') (45 + 63 * p') 4 (nI 0)) (45 + 63 * p' + 39 + 3 * pl' + 1 + 1) k = zm_J (fm_cut (fm_prop C (45 + 63 * p' + 39 + 3 * pl') (nI w)) (45 + 63 * p' + 39 + 3 * pl' + 1) (45 + 63 * p' + 1) dl') (45 + 63 * p' + 39 + 3 * pl' + 1 + 1) k from rfl, u4 k hk i hi]
            refine bt_c (fun x hx => ?_)
            rw [gv_of (n := f x) (by rw [m3, if_pos (by omega), Nat.add_sub_cancel_left]; exact hfv x hx) (by have := hf256 x; omega)]
        · exact wr_sp_c2 (dd pl' hpl') ((wd_p24 (hd.2.2.2.2.1 p' hp') hz).2 pl' hpl') (we_mono cwe (fun r hr => by omega)) (fun r h1 h2 => by
            by_cases q0 : r = 560
            · subst q0; rw [m0, if_neg (by omega)]
            · by_cases q1 : r = 561
              · subst q1; rw [m1, if_neg (by omega)]
              · by_cases q2 : r = 562
                · subst q2; rw [m2, if_neg (by omega)]
                · exact we_I mwe (by omega)) (fun x hx => by rw [m3, if_neg (by omega)])
    · exact wr_pr_c2 hp' (h.2.2.1 p' hp') (hd.2.2.2.2.1 p' hp') hz (we_mono cwe (fun r hr => by omega)) (hwep p' hp' e)
  refine ⟨c, f, c1, c2, fun x hx => ⟨hfv x hx, hf256 x⟩, ?_⟩
  obtain ⟨b1, b2, b3, b6, b7, _⟩ := sendA (T := fun s => gm_aa (gm_prop D p pl dl') c p pl dl' f s) (sel := fun _ => true) (m := 0) (w := w) (v := w) (z := (dl', f)) wrC wdD ((m46 5 (by decide)).trans c2) c1 hp hpl ((we_I mwe (by decide)).trans e2) k2 hGw ((m0 _).trans (if_pos rfl)) (nI_ne0 (by omega) (by omega)) ((m1 _).trans (if_pos rfl)) (fun x hx => by
    have hx' : x < dl' := hx
    show zm_I (gm_prop D p pl dl') 563 (24 * (8 * p + pl) + x) = nI (f x)
    rw [m3, if_pos (by omega), Nat.add_sub_cancel_left]
    exact hfv x hx') ((m2 _).trans (if_pos rfl)) (fun s hs => ⟨fun _ => ff_bit_0 s hs, fun _ => rfl⟩) (fun s hs => by
    show (if (gm_aa (gm_prop D p pl dl') c p pl dl' f s).2.1 < 60 then _ else _) = _
    by_cases c60 : (gm_aa (gm_prop D p pl dl') c p pl dl' f s).2.1 < 60
    · rw [if_pos c60, if_pos ⟨rfl, c60⟩]
    · rw [if_neg c60, if_neg (fun z => c60 z.2)]) 7 (Nat.le_refl _)
  exact ⟨b1, ⟨_, b2⟩, we_trans (we_mono cwe (fun r hr => by omega)) (we_mono b6 (fun r hr => by omega)), we_trans (we_mono mwe (fun r hr => by omega)) (we_mono b7 (fun r hr => by omega))⟩
