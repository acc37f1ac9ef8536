/-! Class against model (pure): the proposer leads: what it puts forward again -/
theorem hp_c {D D' : zm_M} {p pl s : Nat} (h5 : ∀ x, zm_I D' 555 x = zm_I D 555 x) (h6 : ∀ x, zm_I D' 556 x = zm_I D 556 x) : gs_hp D' p pl s ↔ gs_hp D p pl s := by
  show ((zm_I D' 555 p >>> (nI s &&& 31)) &&& nI 1 = nI 1 ∧ ¬ zm_I D' 556 (gs_at p pl s + 2) ≤ 0) ↔ _
  rw [h5, h6]
theorem hs_c {D D' : zm_M} {p pl : Nat} {id : Int32} (h5 : ∀ x, zm_I D' 555 x = zm_I D 555 x) (h6 : ∀ x, zm_I D' 556 x = zm_I D 556 x) : gs_hs D' p pl id = gs_hs D p pl id := by
  funext s
  unfold gs_hs
  apply decide_eq_decide.mpr
  rw [h6]
  exact and_congr_left' (hp_c h5 h6)
theorem bo_c {D D' : zm_M} {p pl : Nat} (h5 : ∀ x, zm_I D' 555 x = zm_I D 555 x) (h6 : ∀ x, zm_I D' 556 x = zm_I D 556 x) : ∀ d, gs_bo D' p pl d = gs_bo D p pl d
  | 0 => rfl
  | d + 1 => by
    have e1 : gs_bo D' p pl (d + 1) = if gs_bt2 D' p pl d (gs_bo D' p pl d) then (zm_I D' 556 (gs_at p pl d), zm_I D' 556 (gs_at p pl d + 1)) else gs_bo D' p pl d := rfl
    have e2 : gs_bo D p pl (d + 1) = if gs_bt2 D p pl d (gs_bo D p pl d) then (zm_I D 556 (gs_at p pl d), zm_I D 556 (gs_at p pl d + 1)) else gs_bo D p pl d := rfl
    rw [e1, e2, bo_c h5 h6 d]
    have hiff : gs_bt2 D' p pl d (gs_bo D p pl d) ↔ gs_bt2 D p pl d (gs_bo D p pl d) := by
      show (gs_hp D' p pl d ∧ 2 < gs_nn D' p pl (zm_I D' 556 (gs_at p pl d + 1)) 7 ∧ ((gs_bo D p pl d).1 < zm_I D' 556 (gs_at p pl d) ∨ (zm_I D' 556 (gs_at p pl d) = (gs_bo D p pl d).1 ∧ zm_I D' 556 (gs_at p pl d + 1) < (gs_bo D p pl d).2))) ↔ (gs_hp D p pl d ∧ 2 < gs_nn D p pl (zm_I D 556 (gs_at p pl d + 1)) 7 ∧ ((gs_bo D p pl d).1 < zm_I D 556 (gs_at p pl d) ∨ (zm_I D 556 (gs_at p pl d) = (gs_bo D p pl d).1 ∧ zm_I D 556 (gs_at p pl d + 1) < (gs_bo D p pl d).2)))
      rw [h6, h6, nn_wc, nn_wc, hs_c h5 h6]
      exact and_congr_left' (hp_c h5 h6)
    by_cases c : gs_bt2 D p pl d (gs_bo D p pl d)
    · rw [if_pos c, if_pos (hiff.mpr c), h6, h6]
    · rw [if_neg c, if_neg (fun z => c (hiff.mp z))]
/-- what is put forward again at place j: the report, the three that give it -/
def ldQ (G : wG) (D : zm_M) (p j : Nat) : Option ((Nat × (Nat → Nat)) × (Nat → Nat)) :=
  if zm_I D 559 (8 * p + j) ≠ 0 then none else if (gs_bo D p j 7).1 < 0 then none else some ((G j (gs_bo D p j 7).2.toNatClampNeg).getD (0, fun _ => 0), (wf (gs_hs D p j (gs_bo D p j 7).2) 7).2)
/-- what is known of it -/
def ldF (G : wG) (D : zm_M) (p j v : Nat) (z : Nat × (Nat → Nat)) (t : Nat → Nat) : Prop := (v < 2 ^ 30 ∧ v ≠ 0) ∧ zm_I D 559 (8 * p + j) = 0 ∧ ¬ (gs_bo D p j 7).1 < 0 ∧ (gs_bo D p j 7).2 = nI v ∧ G j v = some z ∧ (t 0 < t 1 ∧ t 1 < t 2 ∧ t 2 < 7) ∧ (z.1 ≤ 24 ∧ ∀ x, z.2 x < 256) ∧ (∀ k, k < 3 → (wf (gs_hs D p j (nI v)) 7).2 k = t k ∧ gs_hp D p j (t k)) ∧ (wf (gs_hs D p j (nI v)) 7).1 = 3 ∧ ∀ k, k < 3 → zm_I D 556 (gs_at p j (t k) + 2) = nI z.1 ∧ ∀ i, i < (z.1 + 2) / 3 → zm_I D 556 (gs_at p j (t k) + 3 + i) = nI (gs_shb z.2 z.1 (t k) i)
theorem ldF_c {G : wG} {D D' : zm_M} {p j v : Nat} {z : Nat × (Nat → Nat)} {t : Nat → Nat} (h : ldF G D p j v z t) (h5 : ∀ x, zm_I D' 555 x = zm_I D 555 x) (h6 : ∀ x, zm_I D' 556 x = zm_I D 556 x) (h9 : ∀ x, zm_I D' 559 x = zm_I D 559 x) : ldF G D' p j v z t := by
  obtain ⟨a1, a2, a3, a4, a5, a6, a7, a8, a9, a10⟩ := h
  refine ⟨a1, by rw [h9]; exact a2, by rw [bo_c h5 h6]; exact a3, by rw [bo_c h5 h6]; exact a4, a5, a6, a7, fun k hk => ⟨by rw [hs_c h5 h6]; exact (a8 k hk).1, (hp_c h5 h6).mpr (a8 k hk).2⟩, by rw [hs_c h5 h6]; exact a9, fun k hk => ⟨by rw [h6]; exact (a10 k hk).1, fun i hi => by rw [h6]; exact (a10 k hk).2 i hi⟩⟩
theorem ldQ_c {G : wG} {D D' : zm_M} {p j : Nat} (h5 : ∀ x, zm_I D' 555 x = zm_I D 555 x) (h6 : ∀ x, zm_I D' 556 x = zm_I D 556 x) (h9 : ∀ x, zm_I D' 559 x = zm_I D 559 x) : ldQ G D' p j = ldQ G D p j := by
  unfold ldQ
  rw [h9, bo_c h5 h6, hs_c h5 h6]
section AG
variable {G : wG} {D : zm_M} {p j v x : Nat} {z : Nat × (Nat → Nat)} {t : Nat → Nat}
/-- the model puts forward again: the memory then -/
theorem ag_at (h : ldF G D p j v z t) : we (fun r => r ≠ 560 ∧ r ≠ 561 ∧ r ≠ 562 ∧ r ≠ 563 ∧ r ≠ 566 ∧ r ≠ 567 ∧ r ≠ 568) D (gm_ag D p j (t 0) (t 1) (t 2)) ∧ (∀ x, zm_I (gm_ag D p j (t 0) (t 1) (t 2)) 560 x = if x = 8 * p + j then nI v else zm_I D 560 x) ∧ (∀ x, zm_I (gm_ag D p j (t 0) (t 1) (t 2)) 561 x = if x = 8 * p + j then nI z.1 else zm_I D 561 x) ∧ (∀ x, zm_I (gm_ag D p j (t 0) (t 1) (t 2)) 562 x = if x = 8 * p + j then nI 0 else zm_I D 562 x) ∧ ∀ x, zm_I (gm_ag D p j (t 0) (t 1) (t 2)) 563 x = if 24 * (8 * p + j) ≤ x ∧ x < 24 * (8 * p + j) + z.1 then nI (z.2 (x - 24 * (8 * p + j))) else zm_I D 563 x := by
  obtain ⟨a1, a2, a3, a4, a5, a6, ⟨z2, z3⟩, a8, a9, a10⟩ := h
  obtain ⟨_, fx2, fx3⟩ := find (D := D) (sel := gs_hs D p j (nI v)) 7
  have el : gv D 556 (gs_at p j (t 0) + 2) = z.1 := gv_of (a10 0 (by decide)).1 (by omega)
  have w6 : ∀ x, zm_I (gm_fx D (gs_hs D p j (nI v)) 7).1 556 x = zm_I D 556 x := fun x => we_I fx2 (by decide)
  have ev : ∀ k, k < 3 → t k < 7 → ∀ i, i < (z.1 + 2) / 3 → gv (gm_fx D (gs_hs D p j (nI v)) 7).1 556 (gs_at p j (t k) + 3 + i) = gs_shb z.2 z.1 (t k) i := fun k hk h7 i hi => gv_of ((w6 _).trans ((a10 k hk).2 i hi)) (by have := shb_lt (len := z.1) (i := i) z3 h7; omega)
  have el' : gv (gm_fx D (gs_hs D p j (nI v)) 7).1 556 (gs_at p j (t 0) + 2) = z.1 := gv_of ((w6 _).trans (a10 0 (by decide)).1) (by omega)
  unfold gm_ag
  rw [a4, el]
  have h3 : we (fun r => r ≠ 567 ∧ r ≠ 568) (gm_fx D (gs_hs D p j (nI v)) 7).1 (gm_h3 (gm_fx D (gs_hs D p j (nI v)) 7).1 p j (t 0) (t 1) (t 2)) ∧ ∀ x, x < z.1 → zm_I (gm_h3 (gm_fx D (gs_hs D p j (nI v)) 7).1 p j (t 0) (t 1) (t 2)) 567 x = nI (z.2 x) := by
    unfold gm_h3
    rw [el']
    obtain ⟨a, b⟩ := tg_at (M := (gm_fx D (gs_hs D p j (nI v)) 7).1) (t0 := t 0) (t1 := t 1) (t2 := t 2) (len := z.1) (V0 := fun i => gv (gm_fx D (gs_hs D p j (nI v)) 7).1 556 (gs_at p j (t 0) + 3 + i)) (V1 := fun i => gv (gm_fx D (gs_hs D p j (nI v)) 7).1 556 (gs_at p j (t 1) + 3 + i)) (V2 := fun i => gv (gm_fx D (gs_hs D p j (nI v)) 7).1 556 (gs_at p j (t 2) + 3 + i)) (f := z.2) a6.1 a6.2.1 a6.2.2 z3 (ev 0 (by decide) (by omega)) (ev 1 (by decide) (by omega)) (ev 2 (by decide) (by omega)) ((z.1 + 2) / 3) (Nat.le_refl _)
    exact ⟨a, fun x hx => b x hx (Nat.mod_lt _ (by omega))⟩
  generalize gm_h3 (gm_fx D (gs_hs D p j (nI v)) 7).1 p j (t 0) (t 1) (t 2) = W at h3
  have hW : we (fun r => r ≠ 566 ∧ r ≠ 567 ∧ r ≠ 568) D W := we_trans (we_mono fx2 (fun r hr => hr.1)) (we_mono h3.1 (fun r hr => hr.2))
  refine ⟨we_trans (we_mono hW (fun r hr => by omega)) (we_mono pf_we (fun r hr => by omega)), fun x => ?_, fun x => ?_, fun x => ?_, fun x => ?_⟩
  · rw [pf_0, we_I hW (by decide)]
  · rw [pf_1, we_I hW (by decide)]
  · rw [pf_2, we_I hW (by decide)]
  · rw [pf_3]
    by_cases c : 24 * (8 * p + j) ≤ x ∧ x < 24 * (8 * p + j) + z.1
    · rw [if_pos c, if_pos c, Nat.zero_add, h3.2 _ (by omega)]
    · rw [if_neg c, if_neg c, we_I hW (by decide)]
end AG
/-- a change at one spot, and where nothing is looked at -/
theorem spot2 {C C' D D' : zm_M} {G : wG} {B p pl : Nat} (h : wr C D) (hd : wd G B D) (hp : p < 2) (hpl : pl < 8) (hph : zm_I D 553 p = nI 2) (hC : we (fun r => (r < 45 + 63 * p + 39 + 3 * pl ∨ 45 + 63 * p + 39 + 3 * pl + 3 ≤ r) ∧ (r < 539 ∨ 542 ≤ r)) C C') (hw : we (fun r => r ≠ 560 ∧ r ≠ 561 ∧ r ≠ 562 ∧ r ≠ 563 ∧ r ≠ 566 ∧ r ≠ 567 ∧ r ≠ 568) D D') (ho : ∀ r, 560 ≤ r → r ≤ 562 → ∀ x, x ≠ 8 * p + pl → zm_I D' r x = zm_I D r x) (ho3 : ∀ x, (x < 24 * (8 * p + pl) ∨ 24 * (8 * p + pl) + 24 ≤ x) → zm_I D' 563 x = zm_I D 563 x) (hg : zm_I D 560 (8 * p + pl) ≠ 0 → zm_I D' 560 (8 * p + pl) ≠ 0) (h1 : wr_sp C' D' p pl) (h2 : wd_sp G B D p pl 2 → wd_sp G B D' p pl 2) : wr C' D' ∧ wd G B D' := by
  have hz := wg_z hd.2.1
  have hor : ∀ p' pl', pl' < 8 → (p' ≠ p ∨ pl' ≠ pl) → ∀ r, 559 ≤ r → r ≤ 562 → zm_I D' r (8 * p' + pl') = zm_I D r (8 * p' + pl') := fun p' pl' a b r h1 h2 => by
    by_cases e : r = 559
    · subst e; exact we_I hw (by decide)
    · exact ho r (by omega) h2 _ (by omega)
  have hwep : ∀ p', p' < 2 → p' ≠ p → wep p' D D' := fun p' h2 hne => ⟨fun r hr => we_I hw (by omega), fun x hx => we_I hw (by decide), fun x _ => we_I hw (by decide), fun r h1 h2 pl' hpl' => hor p' pl' hpl' (Or.inl hne) r h1 h2, fun pl' hpl' x hx => ho3 _ (by omega)⟩
  refine ⟨⟨fun s hs => wr_st_c (h.1 s hs) (we_mono hC (fun r hr => by omega)) (we_mono hw (fun r hr => by omega)), wr_lt_c h.2.1 (we_mono hC (fun r hr => by omega)) (we_I hw (by decide)) (we_mono hw (fun r hr => by omega)), fun p' hp' => ?_, wr_rd_c h.2.2.2 (we_mono hC (fun r hr => by omega)) (we_I hw (by decide)) (fun x => we_I hw (by decide))⟩, gt_ok_c hd.1 (we_mono hw (fun r hr => by omega)), fun pl' v z e => ?_, wd_lt_c hd.2.2.1 (fun _ _ _ q => q) (Nat.le_refl _) hz (we_I hw (by decide)) (we_mono hw (fun r hr => by omega)), fun s hs => wd_st_c (hd.2.2.2.1 s hs) (fun _ _ _ q => q) (Nat.le_refl _) hz (we_mono hw (fun r hr => by omega)), fun p' hp' => ?_, ?_⟩
  · by_cases e : p' = p
    · subst e
      obtain ⟨⟨a0, a1, a2, a3, a4⟩, bb, cc, dd⟩ := h.2.2.1 p' hp'
      refine ⟨⟨?_, ?_, ?_, ?_, ?_⟩, fun x hx => ?_, fun s hs e => ?_, fun pl' hpl' => ?_⟩
      · rw [we_I hC (by omega), a0]
      · rw [we_I hC (by omega), we_I hw (by decide), a1]
      · rw [we_I hC (by omega), we_I hw (by decide), a2]
      · rw [we_I hC (by omega), we_I hw (by decide), a3]
      · rw [we_I hC (by omega), we_I hw (by decide), a4]
      · rw [gv_c (we_I hw (by decide))] at hx
        rw [we_I hC (by omega), we_I hw (by decide), bb x hx]
      · rw [gv_c (we_I hw (by decide))] at e
        exact wr_sh_c (cc s hs e) (fun pl _ => ⟨we_I hC (by omega), we_I hC (by omega), we_I hC (by omega), we_J hC (by omega)⟩) (fun x _ => we_I hw (by decide))
      · by_cases ep : pl' = pl
        · subst ep; exact h1
        · exact wr_sp_c2 (dd pl' hpl') ((wd_p24 (hd.2.2.2.2.1 p' hp') hz).2 pl' hpl') (we_mono hC (fun r hr => by omega)) (fun r h1 h2 => hor p' pl' hpl' (Or.inr ep) r h1 h2) (fun x hx => ho3 _ (by omega))
    · exact wr_pr_c2 hp' (h.2.2.1 p' hp') (hd.2.2.2.2.1 p' hp') hz (we_mono hC (fun r hr => by omega)) (hwep p' hp' e)
  · obtain ⟨q1, q2⟩ := hd.2.1 pl' v z e
    refine ⟨q1, fun p' hp' hv => ?_⟩
    obtain ⟨q3, q4⟩ := q2 p' hp' hv
    rw [gv_c (we_I hw (by decide)), we_I hw (by decide), we_I hw (by decide)]
    refine ⟨q3, fun ez => ⟨(q4 ez).1, (q4 ez).2.imp_right (fun z => ?_)⟩⟩
    by_cases ex : 8 * p' + pl' = 8 * p + pl
    · rw [ex]
      rw [ex] at z
      exact hg z
    · rw [ho 560 (by decide) (by decide) _ ex]
      exact z
  · by_cases e : p' = p
    · subst e
      obtain ⟨ph, w, m, dl, ⟨k1, k2, k3, k4⟩, ⟨e1, e2, e3, e4⟩, f1, f2, f3, f4, f5⟩ := hd.2.2.2.2.1 p' hp'
      have eph : ph = 2 := (nI_eq (by omega) (by omega)).mp (e1.symm.trans hph)
      subst eph
      refine ⟨2, w, m, dl, ⟨k1, k2, k3, k4⟩, ⟨(we_I hw (by decide)).trans e1, (we_I hw (by decide)).trans e2, (we_I hw (by decide)).trans e3, (we_I hw (by decide)).trans e4⟩, fun x hx => ?_, f2, f3, fun s hs e => wd_sh_c (f4 s hs e) (fun _ _ _ q => q) (Nat.le_refl _) (fun x _ => we_I hw (by decide)) hz, fun pl' hpl' => ?_⟩
      · obtain ⟨u, q1, q2⟩ := f1 x hx
        exact ⟨u, q1, (we_I hw (by decide)).trans q2⟩
      · by_cases ep : pl' = pl
        · subst ep; exact h2 (f5 pl' hpl')
        · exact wd_sp_c (f5 pl' hpl') (fun _ _ _ q => q) (Nat.le_refl _) (fun r h1 h2 => hor p' pl' hpl' (Or.inr ep) r h1 h2) hz (fun x hx => ho3 _ (by omega))
    · exact wd_pr_c2 (hd.2.2.2.2.1 p' hp') (fun _ _ _ q => q) (Nat.le_refl _) hz (hwep p' hp' e)
  · obtain ⟨k, k1, k2⟩ := hd.2.2.2.2.2
    exact ⟨k, k1, (we_I hw (by decide)).trans k2⟩
/-- one place of leading -/
theorem ld_step {C D : zm_M} {G : wG} {B p j m : Nat} (hB : B < 2 ^ 30) (h : wr C D) (hd : wd G B D) (hp : p < 2) (hj : j < 8) (hph : zm_I D 553 p = nI 2) (hm : zm_I D 555 p = nI m) (hm7 : m < 128) (h5 : wpc m = 5) (h0 : zm_I D 560 (8 * p + j) = nI 0) : (ldQ G D p j = none ∧ (zm_I D 559 (8 * p + j) ≠ 0 ∨ (zm_I D 559 (8 * p + j) = 0 ∧ (gs_bo D p j 7).1 < 0)) ∧ wr (fm_ldS (45 + 63 * p) j C) D ∧ we (fun r => r < 539 ∨ 542 ≤ r) C (fm_ldS (45 + 63 * p) j C)) ∨ ∃ v z t, ldQ G D p j = some (z, t) ∧ ldF G D p j v z t ∧ wr (fm_ldS (45 + 63 * p) j C) (gm_ag D p j (t 0) (t 1) (t 2)) ∧ wd G B (gm_ag D p j (t 0) (t 1) (t 2)) ∧ we (fun r => (r < 45 + 63 * p + 39 + 3 * j ∨ 45 + 63 * p + 39 + 3 * j + 3 ≤ r) ∧ (r < 539 ∨ 542 ≤ r)) C (fm_ldS (45 + 63 * p) j C) := by
  obtain ⟨d1, d2, d3⟩ := (h.2.2.1 p hp).2.2.2 j hj
  by_cases c9 : zm_I D 559 (8 * p + j) = 0
  · have eIf : zm_I C (45 + 63 * p + 39 + 3 * j) 0 = 0 ∧ zm_I C (45 + 63 * p + 39 + 3 * j) 1 = 0 := ⟨d1.trans c9, by rw [d2, h0]; decide⟩
    have edef : fm_ldS (45 + 63 * p) j C = if (fm_gp (45 + 63 * p) j 7 0 C).1 = true then fm_together (fm_prop (fm_gp (45 + 63 * p) j 7 0 C).2 (45 + 63 * p + 39 + 3 * j) (zm_I (fm_gp (45 + 63 * p) j 7 0 C).2 539 0)) (45 + 63 * p + 39 + 3 * j + 1) (gk_p (fm_gp (45 + 63 * p) j 7 0 C).2) else (fm_gp (45 + 63 * p) j 7 0 C).2 := by
      unfold fm_ldS
      rw [if_pos eIf]
    rw [edef]
    rcases look hB h hd hp hj hm hm7 h5 with ⟨b1, b2, b3⟩ | ⟨b1, v, z, v1, v0, b2, hG, hn3, ht, hx, E, hgp, hE, E0, Ep, El, Es⟩
    · left
      rw [if_neg (by rw [b2]; decide)]
      refine ⟨?_, Or.inr ⟨c9, b1⟩, wr_m h (we_mono b3 (fun r hr => by omega)), b3⟩
      unfold ldQ
      rw [if_neg (fun z => z c9), if_pos b1]
    · right
      obtain ⟨⟨_, _, _, z1, z2, z3⟩, _⟩ := hd.2.1 _ _ _ hG
      have hF : ldF G D p j v z (wf (gs_hs D p j (nI v)) 7).2 := ⟨⟨v1, v0⟩, c9, b1, b2, hG, ht, ⟨z2, z3⟩, fun k hk => ⟨rfl, (hx k hk).2⟩, hn3, fun k hk => ⟨(Es k hk).1, (Es k hk).2.1⟩⟩
      have hQ : ldQ G D p j = some (z, (wf (gs_hs D p j (nI v)) 7).2) := by
        unfold ldQ
        rw [if_neg (fun z => z c9), if_neg b1, b2, nI_clamp (by omega), hG]
        rfl
      generalize (wf (gs_hs D p j (nI v)) 7).2 = t at ht Ep Es hF hQ
      rw [hgp]
      refine ⟨v, z, t, hQ, hF, ?_⟩
      rw [if_pos rfl, E0]
      obtain ⟨wA, g0, g1, g2, g3⟩ := ag_at hF
      generalize gm_ag D p j (t 0) (t 1) (t 2) = D' at wA g0 g1 g2 g3
      have wM : we (fun x => x ≠ 45 + 63 * p + 39 + 3 * j) E (fm_prop E (45 + 63 * p + 39 + 3 * j) (nI v)) := we_trans (we_wI (by omega)) (we_wI (by omega))
      have m0 : zm_I (fm_prop E (45 + 63 * p + 39 + 3 * j) (nI v)) (45 + 63 * p + 39 + 3 * j) 0 = zm_I E (45 + 63 * p + 39 + 3 * j) 0 := by
        unfold fm_prop
        rw [zm_In (Or.inr (by decide)), zm_In (Or.inr (by decide))]
      have m1 : zm_I (fm_prop E (45 + 63 * p + 39 + 3 * j) (nI v)) (45 + 63 * p + 39 + 3 * j) 1 = nI v := by
        unfold fm_prop
        rw [zm_In (Or.inr (by decide)), zm_Is]
      have m2 : zm_I (fm_prop E (45 + 63 * p + 39 + 3 * j) (nI v)) (45 + 63 * p + 39 + 3 * j) 2 = nI 0 := zm_Is
      have eg : gk_p E = gk_p (fm_prop E (45 + 63 * p + 39 + 3 * j) (nI v)) := by
        funext k
        unfold gk_p
        rw [we_I wM (by omega)]
      rw [eg] at Ep
      show wr (fm_together (fm_prop E (45 + 63 * p + 39 + 3 * j) (nI v)) (45 + 63 * p + 39 + 3 * j + 1) (gk_p E)) D' ∧ wd G B D' ∧ we _ C (fm_together (fm_prop E (45 + 63 * p + 39 + 3 * j) (nI v)) (45 + 63 * p + 39 + 3 * j + 1) (gk_p E))
      rw [eg]
      obtain ⟨u1, u2, u3⟩ := tog_re (E := fm_prop E (45 + 63 * p + 39 + 3 * j) (nI v)) (rr := 45 + 63 * p + 39 + 3 * j + 1) (by omega) z2 z3 ht Ep ((we_I wM (by omega)).trans El) (fun k hk i hi => by rw [we_J wM (by omega)]; exact (Es k hk).2.2 i hi)
      generalize fm_together (fm_prop E (45 + 63 * p + 39 + 3 * j) (nI v)) (45 + 63 * p + 39 + 3 * j + 1) (gk_p (fm_prop E (45 + 63 * p + 39 + 3 * j) (nI v))) = C' at u1 u2 u3
      have hC : we (fun r => (r < 45 + 63 * p + 39 + 3 * j ∨ 45 + 63 * p + 39 + 3 * j + 3 ≤ r) ∧ (r < 539 ∨ 542 ≤ r)) C C' := we_trans (we_mono hE (fun r hr => hr.2)) (we_trans (we_mono wM (fun r hr => by omega)) (we_mono u1 (fun r hr => by omega)))
      have e1 : zm_I D' 561 (8 * p + j) = nI z.1 := by rw [g1, if_pos rfl]
      have e3 : ∀ x, x < z.1 → zm_I D' 563 (24 * (8 * p + j) + x) = nI (z.2 x) := fun x hx => by rw [g3, if_pos (by omega), Nat.add_sub_cancel_left]
      obtain ⟨x1, x2⟩ := spot2 h hd hp hj hph hC wA (fun r h1 h2 x hx => by
          by_cases q0 : r = 560
          · subst q0; rw [g0, if_neg hx]
          · by_cases q1 : r = 561
            · subst q1; rw [g1, if_neg hx]
            · have q2 : r = 562 := by omega
              subst q2; rw [g2, if_neg hx]) (fun x hx => by rw [g3, if_neg (by omega)]) (fun _ => by rw [g0, if_pos rfl]; exact nI_ne0 (by omega) (by omega))
        ⟨by rw [we_I u1 (by omega), m0, we_I hE (by omega), d1, we_I wA (by decide)], by rw [we_I u1 (by omega), m1, g0, if_pos rfl], fun _ => ⟨by rw [we_I u1 (by omega), m2, g2, if_pos rfl], by
          rw [gv_of e1 (by omega)]
          refine ⟨u2, fun k hk i hi => ?_⟩
          rw [u3 k hk i hi]
          exact bt_c (fun x hx => by rw [gv_of (e3 x hx) (by have := z3 x; omega)])⟩⟩
        (fun hsp => ⟨by
          obtain ⟨v', q1, q2⟩ := hsp.1
          exact ⟨v', q1, (we_I wA (by decide)).trans q2⟩, Or.inr ⟨rfl, v, z, 0, hG, by rw [g0, if_pos rfl], by decide, by rw [g2, if_pos rfl], e1, e3⟩⟩)
      exact ⟨x1, x2, hC⟩
  · left
    refine ⟨?_, Or.inl c9, ?_, ?_⟩
    · unfold ldQ
      rw [if_pos c9]
    · unfold fm_ldS
      rw [if_neg (fun z => c9 (d1.symm.trans z.1))]
      exact h
    · unfold fm_ldS
      rw [if_neg (fun z => c9 (d1.symm.trans z.1))]
      exact we_refl
