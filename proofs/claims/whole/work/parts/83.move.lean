/-! Class against model (pure): shelves copied and cleared; wipe, drop, twin -/
theorem fp_at {M : zm_M} {r pl : Nat} {ba id le : Int32} {x : Int64} (k : Nat) : zm_I (fm_put M r pl ba id le x) (r + 1) k = (if k = pl then ba else zm_I M (r + 1) k) ∧ zm_I (fm_put M r pl ba id le x) (r + 2) k = (if k = pl then id else zm_I M (r + 2) k) ∧ zm_I (fm_put M r pl ba id le x) (r + 3) k = (if k = pl then le else zm_I M (r + 3) k) ∧ zm_J (fm_put M r pl ba id le x) (r + 4) k = (if k = pl then x else zm_J M (r + 4) k) := by
  show zm_I (zm_wI (zm_wI (zm_wI M (r + 1) pl ba) (r + 2) pl id) (r + 3) pl le) (r + 1) k = _ ∧ zm_I (zm_wI (zm_wI (zm_wI M (r + 1) pl ba) (r + 2) pl id) (r + 3) pl le) (r + 2) k = _ ∧ zm_I (zm_wI (zm_wI (zm_wI M (r + 1) pl ba) (r + 2) pl id) (r + 3) pl le) (r + 3) k = _ ∧ zm_J (zm_wJ M (r + 4) pl x) (r + 4) k = _
  by_cases c : k = pl
  · subst c
    rw [if_pos rfl, if_pos rfl, if_pos rfl, if_pos rfl]
    exact ⟨by rw [zm_In (Or.inl (by omega)), zm_In (Or.inl (by omega)), zm_Is], by rw [zm_In (Or.inl (by omega)), zm_Is], zm_Is, zm_Js⟩
  · rw [if_neg c, if_neg c, if_neg c, if_neg c]
    exact ⟨by rw [zm_In (Or.inl (by omega)), zm_In (Or.inl (by omega)), zm_In (Or.inr c)], by rw [zm_In (Or.inl (by omega)), zm_In (Or.inr c), zm_In (Or.inl (by omega))], by rw [zm_In (Or.inr c), zm_In (Or.inl (by omega)), zm_In (Or.inl (by omega))], zm_Jn (Or.inr c)⟩
theorem fp_we {S : Nat → Prop} {M : zm_M} {r pl : Nat} {ba id le : Int32} {x : Int64} (h : ∀ j, 1 ≤ j → j ≤ 4 → ¬ S (r + j)) : we S M (fm_put M r pl ba id le x) :=
  we_trans (we_trans (we_trans (we_wI (h 1 (by decide) (by decide))) (we_wI (h 2 (by decide) (by decide)))) (we_wI (h 3 (by decide) (by decide)))) (we_wJ (h 4 (by decide) (by decide)))
/-- a shelf copied: what it holds then -/
theorem cp_at {M : zm_M} {r q : Nat} (hd : q + 5 ≤ r ∨ r + 5 ≤ q) : we (fun x => x < r + 1 ∨ r + 4 < x) M (fm_copySh M r q) ∧ ∀ pl, pl < 8 → zm_I (fm_copySh M r q) (r + 1) pl = zm_I M (q + 1) pl ∧ zm_I (fm_copySh M r q) (r + 2) pl = zm_I M (q + 2) pl ∧ zm_I (fm_copySh M r q) (r + 3) pl = zm_I M (q + 3) pl ∧ zm_J (fm_copySh M r q) (r + 4) pl = zm_J M (q + 4) pl := by
  have key : ∀ d, we (fun x => x < r + 1 ∨ r + 4 < x) M (zm_it (fun p M => fm_put M r p (zm_I M (q + 1) p) (zm_I M (q + 2) p) (zm_I M (q + 3) p) (zm_J M (q + 4) p)) d M) ∧ ∀ pl, pl < d → zm_I (zm_it (fun p M => fm_put M r p (zm_I M (q + 1) p) (zm_I M (q + 2) p) (zm_I M (q + 3) p) (zm_J M (q + 4) p)) d M) (r + 1) pl = zm_I M (q + 1) pl ∧ zm_I (zm_it (fun p M => fm_put M r p (zm_I M (q + 1) p) (zm_I M (q + 2) p) (zm_I M (q + 3) p) (zm_J M (q + 4) p)) d M) (r + 2) pl = zm_I M (q + 2) pl ∧ zm_I (zm_it (fun p M => fm_put M r p (zm_I M (q + 1) p) (zm_I M (q + 2) p) (zm_I M (q + 3) p) (zm_J M (q + 4) p)) d M) (r + 3) pl = zm_I M (q + 3) pl ∧ zm_J (zm_it (fun p M => fm_put M r p (zm_I M (q + 1) p) (zm_I M (q + 2) p) (zm_I M (q + 3) p) (zm_J M (q + 4) p)) d M) (r + 4) pl = zm_J M (q + 4) pl := by
    intro d
    induction d with
    | zero => exact ⟨we_refl, fun pl hpl => absurd hpl (Nat.not_lt_zero _)⟩
    | succ d ih =>
      obtain ⟨i1, i2⟩ := ih
      have hdef : zm_it (fun p M => fm_put M r p (zm_I M (q + 1) p) (zm_I M (q + 2) p) (zm_I M (q + 3) p) (zm_J M (q + 4) p)) (d + 1) M = fm_put (zm_it (fun p M => fm_put M r p (zm_I M (q + 1) p) (zm_I M (q + 2) p) (zm_I M (q + 3) p) (zm_J M (q + 4) p)) d M) r d (zm_I M (q + 1) d) (zm_I M (q + 2) d) (zm_I M (q + 3) d) (zm_J M (q + 4) d) := by
        show fm_put _ r d _ _ _ _ = _
        rw [we_I i1 (by omega), we_I i1 (by omega), we_I i1 (by omega), we_J i1 (by omega)]
      rw [hdef]
      generalize zm_it (fun p M => fm_put M r p (zm_I M (q + 1) p) (zm_I M (q + 2) p) (zm_I M (q + 3) p) (zm_J M (q + 4) p)) d M = N at i1 i2
      refine ⟨we_trans i1 (fp_we (fun j h1 h2 => by omega)), fun pl hpl => ?_⟩
      obtain ⟨f1, f2, f3, f4⟩ := fp_at (M := N) (r := r) (pl := d) (ba := zm_I M (q + 1) d) (id := zm_I M (q + 2) d) (le := zm_I M (q + 3) d) (x := zm_J M (q + 4) d) pl
      rw [f1, f2, f3, f4]
      by_cases c : pl = d
      · subst c
        rw [if_pos rfl, if_pos rfl, if_pos rfl, if_pos rfl]
        exact ⟨rfl, rfl, rfl, rfl⟩
      · rw [if_neg c, if_neg c, if_neg c, if_neg c]
        exact i2 pl (by omega)
  exact key 8
theorem cl_at {M : zm_M} {r : Nat} : we (fun x => x < r + 1 ∨ r + 4 < x) M (fm_clear M r) ∧ ∀ pl, pl < 8 → zm_I (fm_clear M r) (r + 1) pl = nI 0 ∧ zm_I (fm_clear M r) (r + 2) pl = nI 0 ∧ zm_I (fm_clear M r) (r + 3) pl = nI 0 := by
  have key : ∀ d, we (fun x => x < r + 1 ∨ r + 4 < x) M (zm_it (fun p M => fm_put M r p (nI 0) (nI 0) (nI 0) 0) d M) ∧ ∀ pl, pl < d → zm_I (zm_it (fun p M => fm_put M r p (nI 0) (nI 0) (nI 0) 0) d M) (r + 1) pl = nI 0 ∧ zm_I (zm_it (fun p M => fm_put M r p (nI 0) (nI 0) (nI 0) 0) d M) (r + 2) pl = nI 0 ∧ zm_I (zm_it (fun p M => fm_put M r p (nI 0) (nI 0) (nI 0) 0) d M) (r + 3) pl = nI 0 := by
    intro d
    induction d with
    | zero => exact ⟨we_refl, fun pl hpl => absurd hpl (Nat.not_lt_zero _)⟩
    | succ d ih =>
      obtain ⟨i1, i2⟩ := ih
      show we (fun x => x < r + 1 ∨ r + 4 < x) M (fm_put (zm_it (fun p M => fm_put M r p (nI 0) (nI 0) (nI 0) 0) d M) r d (nI 0) (nI 0) (nI 0) 0) ∧ ∀ pl, pl < d + 1 → zm_I (fm_put (zm_it (fun p M => fm_put M r p (nI 0) (nI 0) (nI 0) 0) d M) r d (nI 0) (nI 0) (nI 0) 0) (r + 1) pl = nI 0 ∧ zm_I (fm_put (zm_it (fun p M => fm_put M r p (nI 0) (nI 0) (nI 0) 0) d M) r d (nI 0) (nI 0) (nI 0) 0) (r + 2) pl = nI 0 ∧ zm_I (fm_put (zm_it (fun p M => fm_put M r p (nI 0) (nI 0) (nI 0) 0) d M) r d (nI 0) (nI 0) (nI 0) 0) (r + 3) pl = nI 0
      generalize zm_it (fun p M => fm_put M r p (nI 0) (nI 0) (nI 0) 0) d M = N at i1 i2
      refine ⟨we_trans i1 (fp_we (fun j h1 h2 => by omega)), fun pl hpl => ?_⟩
      obtain ⟨f1, f2, f3, _⟩ := fp_at (M := N) (r := r) (pl := d) (ba := nI 0) (id := nI 0) (le := nI 0) (x := 0) pl
      rw [f1, f2, f3]
      by_cases c : pl = d
      · rw [if_pos c, if_pos c, if_pos c]
        exact ⟨rfl, rfl, rfl⟩
      · rw [if_neg c, if_neg c, if_neg c]
        exact i2 pl (by omega)
  exact key 8
/-! wipe -/
theorem s_wipe {C D : zm_M} {G : wG} {B s : Nat} (h : wr C D) (hd : wd G B D) (hs : s < 7) : ws B C D (fm_lose C (2 + 6 * s)) (gm_wipe D s) := by
  have hz := wg_z hd.2.1
  have hrow : we (fun r => (551 ≤ r ∧ r ≤ 565) ∨ r = 569 ∨ r = 548) D (gm_wipe D s) := we_trans (we_trans (we_trans (we_wI (by omega)) (we_wI (by omega))) (we_wI (by omega))) (we_up (by omega))
  have h5 : ∀ k, k ≠ 0 → zm_I (gm_wipe D s) 546 k = zm_I D 546 k := fun k hk => (gm_upn (Or.inl (by decide))).trans ((zm_In (Or.inl (by decide))).trans ((zm_In (Or.inl (by decide))).trans (zm_In (Or.inr hk))))
  have m7 : ∀ s', zm_I (gm_wipe D s) 547 s' = if s' = s then nI 0 else zm_I D 547 s' := fun s' => by
    unfold gm_wipe
    rw [gm_upn (Or.inl (by decide))]
    by_cases e : s' = s
    · rw [if_pos e, e, zm_Is]
    · rw [if_neg e, zm_In (Or.inr e), zm_In (Or.inl (by decide))]
      exact zm_In (Or.inl (by decide))
  have m9 : ∀ s', zm_I (gm_wipe D s) 549 s' = if s' = s then nI 1 else zm_I D 549 s' := fun s' => by
    unfold gm_wipe
    rw [gm_upn (Or.inl (by decide)), zm_In (Or.inl (by decide))]
    by_cases e : s' = s
    · rw [if_pos e, e, zm_Is]
    · rw [if_neg e, zm_In (Or.inr e)]
      exact zm_In (Or.inl (by decide))
  have mh : ∀ x, zm_I (gm_wipe D s) 550 x = if 88 * s ≤ x ∧ x < 88 * s + 88 then nI 0 else zm_I D 550 x := fun x => by
    unfold gm_wipe
    rw [gm_upI]
    by_cases e : 88 * s ≤ x ∧ x < 88 * s + 88
    · rw [if_pos ⟨rfl, e⟩, if_pos e]
    · rw [if_neg (fun z => e z.2), if_neg e, zm_In (Or.inl (by decide)), zm_In (Or.inl (by decide))]
      exact zm_In (Or.inl (by decide))
  obtain ⟨q1, q2⟩ := cl_at (M := zm_wI C (2 + 6 * s) 0 (nI 0)) (r := 2 + 6 * s + 1)
  have hcl : we (fun r => r < 2 + 6 * s ∨ 2 + 6 * s + 6 ≤ r) C (fm_lose C (2 + 6 * s)) := we_trans (we_trans (we_wI (by omega)) (we_mono q1 (fun r hr => by omega))) (we_wI (by omega))
  refine ⟨⟨fun s' hs' => ?_, ?_, fun p hp => ?_, ?_⟩, ⟨G, gt_ok_c hd.1 (we_mono hrow (fun r hr => by omega)), wg_ok_c hd.2.1 (Nat.le_refl _) (we_mono hrow (fun r hr => by omega)), wd_lt_c hd.2.2.1 (fun _ _ _ q => q) (Nat.le_refl _) hz (h5 5 (by decide)) (we_mono hrow (fun r hr => by omega)), fun s' hs' => ?_, fun p hp => wd_pr_c (hd.2.2.2.2.1 p hp) (fun _ _ _ q => q) (Nat.le_refl _) hz (we_mono hrow (fun r hr => by omega)), ?_⟩, we_mono hcl (fun r hr => by omega), we_trans (we_trans (we_trans (we_wI (by omega)) (we_wI (by omega))) (we_wI (by omega))) (we_up (by omega))⟩
  · obtain ⟨a1, a2, a3, a4⟩ := h.1 s' hs'
    by_cases e : s' = s
    · subst e
      have b1 : ∀ k, k ≠ 2 → zm_I (fm_lose C (2 + 6 * s')) (2 + 6 * s') k = zm_I (zm_wI C (2 + 6 * s') 0 (nI 0)) (2 + 6 * s') k := fun k hk => (zm_In (Or.inr hk)).trans (we_I q1 (by omega))
      refine ⟨?_, ?_, ?_, fun pl hpl => ?_⟩
      · rw [b1 0 (by decide), zm_Is, m7, if_pos rfl]
      · rw [b1 1 (by decide), zm_In (Or.inr (by decide)), we_I hrow (by omega), a2]
      · rw [m9, if_pos rfl]
        exact zm_Is
      · obtain ⟨g1, g2, g3⟩ := q2 pl hpl
        have w1 : ∀ r k, r ≠ 2 + 6 * s' → zm_I (fm_lose C (2 + 6 * s')) r k = zm_I (fm_clear (zm_wI C (2 + 6 * s') 0 (nI 0)) (2 + 6 * s' + 1)) r k := fun r k hr => zm_In (Or.inl hr)
        have e2 : zm_I (gm_wipe D s') 550 (88 * s' + 11 * pl + 2) = nI 0 := by rw [mh, if_pos (by omega)]
        refine ⟨?_, ?_, ?_, fun i _ hi => ?_⟩
        · rw [w1 _ _ (by omega), g1, mh, if_pos (by omega)]
        · rw [w1 _ _ (by omega), g2, mh, if_pos (by omega)]
        · rw [w1 _ _ (by omega), g3, e2]
        · rw [gv_of e2 (by decide)] at hi
          omega
    · refine ⟨?_, ?_, ?_, wr_sh_c a4 (fun pl _ => ⟨we_I hcl (by omega), we_I hcl (by omega), we_I hcl (by omega), we_J hcl (by omega)⟩) (fun x hx => ?_)⟩
      · rw [we_I hcl (by omega), m7, if_neg e, a1]
      · rw [we_I hcl (by omega), we_I hrow (by omega), a2]
      · rw [we_I hcl (by omega), m9, if_neg e, a3]
      · rw [mh, if_neg (by omega)]
  · exact wr_lt_c h.2.1 (we_mono hcl (fun r hr => by omega)) (h5 5 (by decide)) (we_mono hrow (fun r hr => by omega))
  · exact wr_pr_c hp (h.2.2.1 p hp) (we_mono hcl (fun r hr => by omega)) (we_mono hrow (fun r hr => by omega))
  · exact wr_rd_c h.2.2.2 (we_mono hcl (fun r hr => by omega)) (h5 25 (by decide)) (fun x => we_I hrow (by omega))
  · obtain ⟨⟨u, a1, a1'⟩, a2, a3, a4⟩ := hd.2.2.2.1 s' hs'
    by_cases e : s' = s
    · subst e
      refine ⟨⟨0, by omega, ?_⟩, ?_, Or.inr ?_, fun pl hpl => ⟨⟨0, by omega, ?_⟩, Or.inl ⟨?_, ?_⟩, fun i hi => ⟨0, by decide, ?_⟩⟩⟩
      · rw [m7, if_pos rfl]
      · rw [we_I hrow (by omega)]; exact a2
      · rw [m9, if_pos rfl]
      · rw [mh, if_pos (by omega)]
      · rw [mh, if_pos (by omega)]
      · rw [mh, if_pos (by omega)]
      · rw [mh, if_pos (by omega)]
    · refine ⟨⟨u, a1, ?_⟩, ?_, ?_, wd_sh_c a4 (fun _ _ _ q => q) (Nat.le_refl _) (fun x hx => ?_) hz⟩
      · rw [m7, if_neg e, a1']
      · rw [we_I hrow (by omega)]; exact a2
      · rw [m9, if_neg e]; exact a3
      · rw [mh, if_neg (by omega)]
  · obtain ⟨c, c1, c2⟩ := hd.2.2.2.2.2
    exact ⟨c, c1, (h5 25 (by decide)).trans c2⟩
/-! a letter is taken out of the row -/
theorem tkL_P {i : Nat} : ∀ (d : Nat) (M : zm_M) (k : Nat), zm_P (fm_tkL i d M) 172 k = if i ≤ k ∧ k < i + d then zm_P M 172 (k + 1) else zm_P M 172 k
  | 0, M, k => by rw [if_neg (by omega)]; rfl
  | d + 1, M, k => by
    show zm_P (zm_wP (fm_tkL i d M) 172 (i + d) (zm_P (fm_tkL i d M) 172 (i + d + 1))) 172 k = _
    by_cases e : k = i + d
    · subst e
      rw [zm_Ps, tkL_P d M, if_neg (by omega), if_pos (by omega)]
    · rw [zm_Pn (Or.inr e), tkL_P d M]
      by_cases c : i ≤ k ∧ k < i + d
      · rw [if_pos c, if_pos (by omega)]
      · rw [if_neg c, if_neg (by omega)]
theorem tkL_we {i : Nat} : ∀ (d : Nat) (M : zm_M), we (fun r => r ≠ 172) M (fm_tkL i d M)
  | 0, M => we_refl
  | d + 1, M => we_trans (tkL_we d M) (we_wP (by omega))
theorem take_we {C : zm_M} {i c : Nat} : we (fun r => r ≠ 171 ∧ r ≠ 172) C (fm_take C i c) :=
  we_trans (we_trans (we_trans (we_wI (by omega)) (we_mono (tkL_we _ _) (fun r hr => hr.2))) (we_wP (by omega))) (we_wP (by omega))
/-- which slot's letter lies at k then -/
def tk_s (i c k : Nat) : Nat := if k = 60 then i else if k = c then 60 else if i ≤ k ∧ k < c then k + 1 else k
theorem tk_sp (i c k : Nat) : (k = 60 ∧ tk_s i c k = i) ∨ (k ≠ 60 ∧ k = c ∧ tk_s i c k = 60) ∨ (k ≠ 60 ∧ k ≠ c ∧ i ≤ k ∧ k < c ∧ tk_s i c k = k + 1) ∨ (k ≠ 60 ∧ k ≠ c ∧ ¬ (i ≤ k ∧ k < c) ∧ tk_s i c k = k) := by
  unfold tk_s
  by_cases a1 : k = 60
  · exact Or.inl ⟨a1, by rw [if_pos a1]⟩
  · by_cases a2 : k = c
    · exact Or.inr (Or.inl ⟨a1, a2, by rw [if_neg a1, if_pos a2]⟩)
    · by_cases a3 : i ≤ k ∧ k < c
      · exact Or.inr (Or.inr (Or.inl ⟨a1, a2, a3.1, a3.2, by rw [if_neg a1, if_neg a2, if_pos a3]⟩))
      · exact Or.inr (Or.inr (Or.inr ⟨a1, a2, a3, by rw [if_neg a1, if_neg a2, if_neg a3]⟩))
theorem take_P {C : zm_M} {i c k : Nat} (hi : i ≤ c) (hc : c < 60) : zm_P (fm_take C i c) 172 k = zm_P C 172 (tk_s i c k) := by
  have e0 : ∀ k, zm_P (fm_tk0 C c) 172 k = zm_P C 172 k := fun _ => rfl
  unfold fm_take tk_s
  by_cases c1 : k = 60
  · subst c1
    rw [zm_Ps, if_pos rfl]
  · rw [zm_Pn (Or.inr c1), if_neg c1]
    by_cases c2 : k = c
    · subst c2
      rw [zm_Ps, if_pos rfl, tkL_P, if_neg (by omega), e0]
    · rw [zm_Pn (Or.inr c2), if_neg c2, tkL_P]
      by_cases c3 : i ≤ k ∧ k < c
      · rw [if_pos (by omega), if_pos c3, e0]
      · rw [if_neg (by omega), if_neg c3, e0]
theorem take_pm {C : zm_M} {i c : Nat} (h : wr_pm C) (hi : i ≤ c) (hc : c < 60) : wr_pm (fm_take C i c) := by
  have hs : ∀ k, k < 61 → tk_s i c k < 61 := fun k hk => by
    unfold tk_s
    split
    · omega
    · split
      · omega
      · split <;> omega
  refine ⟨fun k hk => ?_, fun k hk j hj e => ?_⟩
  · rw [take_P hi hc]
    exact h.1 _ (hs k hk)
  · rw [take_P hi hc, take_P hi hc] at e
    have e2 := h.2 _ (hs k hk) _ (hs j hj) e
    have t1 := tk_sp i c k
    have t2 := tk_sp i c j
    omega
theorem rm_1 {D : zm_M} {i c x : Nat} : zm_I (gm_rm D i c) 551 x = if 7 * i ≤ x ∧ x < 7 * c then zm_I D 551 (x + 7) else zm_I D 551 x := by
  unfold gm_rm
  rw [gm_upn (Or.inl (by decide)), gm_upI]
  by_cases e : 7 * i ≤ x ∧ x < 7 * c
  · rw [if_pos ⟨rfl, by omega⟩, if_pos e, show 7 * i + (x - 7 * i) + 7 = x + 7 by omega]
  · rw [if_neg (by omega), if_neg e, zm_In (Or.inl (by decide))]
theorem rm_2 {D : zm_M} {i c x : Nat} : zm_I (gm_rm D i c) 552 x = if 88 * i ≤ x ∧ x < 88 * c then zm_I D 552 (x + 88) else zm_I D 552 x := by
  unfold gm_rm
  rw [gm_upI]
  by_cases e : 88 * i ≤ x ∧ x < 88 * c
  · rw [if_pos ⟨rfl, by omega⟩, if_pos e, show 88 * i + (x - 88 * i) + 88 = x + 88 by omega]
  · rw [if_neg (by omega), if_neg e, gm_upn (Or.inl (by decide)), zm_In (Or.inl (by decide))]
theorem rm_we {D : zm_M} {i c : Nat} : we (fun r => r ≠ 546 ∧ r ≠ 551 ∧ r ≠ 552) D (gm_rm D i c) := we_trans (we_trans (we_wI (by omega)) (we_up (by omega))) (we_up (by omega))
theorem rm_5 {D : zm_M} {i c : Nat} : zm_I (gm_rm D i c) 546 5 = nI c := (gm_upn (Or.inl (by decide))).trans ((gm_upn (Or.inl (by decide))).trans zm_Is)
theorem rm_k {D : zm_M} {i c k : Nat} (hk : k ≠ 5) : zm_I (gm_rm D i c) 546 k = zm_I D 546 k := (gm_upn (Or.inl (by decide))).trans ((gm_upn (Or.inl (by decide))).trans (zm_In (Or.inr hk)))
theorem rm_h {D : zm_M} {i c k x : Nat} (hk : k < c) (hx : x < 7) : zm_I (gm_rm D i c) 551 (7 * k + x) = zm_I D 551 (7 * (if i ≤ k then k + 1 else k) + x) := by
  rw [rm_1]
  by_cases e : i ≤ k
  · rw [if_pos (by omega), if_pos e, show 7 * k + x + 7 = 7 * (k + 1) + x by omega]
  · rw [if_neg (by omega), if_neg e]
theorem rm_t {D : zm_M} {i c k x : Nat} (hk : k < c) (hx : x < 88) : zm_I (gm_rm D i c) 552 (88 * k + x) = zm_I D 552 (88 * (if i ≤ k then k + 1 else k) + x) := by
  rw [rm_2]
  by_cases e : i ≤ k
  · rw [if_pos (by omega), if_pos e, show 88 * k + x + 88 = 88 * (k + 1) + x by omega]
  · rw [if_neg (by omega), if_neg e]
theorem take_lt {C D : zm_M} {i c : Nat} (h : wr_lt C D) (hc : zm_I D 546 5 = nI (c + 1)) (h60 : c < 60) (hi : i ≤ c) : wr_lt (fm_take C i c) (gm_rm D i c) := by
  obtain ⟨hp, c', c1, c2, c3, b⟩ := h
  have e : c' = c + 1 := (nI_eq (by omega) (by omega)).mp (c2.symm.trans hc)
  subst e
  refine ⟨take_pm hp hi h60, c, by omega, rm_5, fm_take_c, fun k hk => ?_⟩
  rw [take_P hi h60]
  have es : tk_s i c k = if i ≤ k then k + 1 else k := by
    unfold tk_s
    rw [if_neg (by omega), if_neg (by omega)]
    by_cases e : i ≤ k
    · rw [if_pos ⟨e, hk⟩, if_pos e]
    · rw [if_neg (fun z => e z.1), if_neg e]
  rw [es]
  have hlt : (if i ≤ k then k + 1 else k) < c + 1 := by split <;> omega
  obtain ⟨j, hj, ej⟩ := hp.1 (if i ≤ k then k + 1 else k) (by omega)
  exact wr_le_c (b _ hlt) (we_mono take_we (fun r hr => by omega)) (fun x hx => rm_h hk hx) (fun x hx => rm_t hk hx)
theorem rm_lt {G : wG} {B : Nat} {D : zm_M} {i c : Nat} (h : wd_lt G B D) (hz : ∀ pl v z, G pl v = some z → z.1 ≤ 24) (hc : zm_I D 546 5 = nI (c + 1)) (h60 : c < 60) (hi : i ≤ c) : wd_lt G B (gm_rm D i c) := by
  obtain ⟨c', c1, c2, b⟩ := h
  have e : c' = c + 1 := (nI_eq (by omega) (by omega)).mp (c2.symm.trans hc)
  subst e
  refine ⟨c, by omega, rm_5, fun k hk => ?_⟩
  have hlt : (if i ≤ k then k + 1 else k) < c + 1 := by split <;> omega
  exact wd_le_c (b _ hlt) (fun _ _ _ q => q) (Nat.le_refl _) hz (fun x hx => rm_h hk hx) (fun x hx => rm_t hk hx)
/-- a letter is taken, on both sides -/
theorem s_take {C D : zm_M} {G : wG} {B i c : Nat} (h : wr C D) (hd : wd G B D) (hc : zm_I D 546 5 = nI (c + 1)) (h60 : c < 60) (hi : i ≤ c) : wr (fm_take C i c) (gm_rm D i c) ∧ wd G B (gm_rm D i c) := by
  have hz := wg_z hd.2.1
  have hw := rm_we (D := D) (i := i) (c := c)
  refine ⟨⟨fun s hs => wr_st_c (h.1 s hs) (we_mono take_we (fun r hr => by omega)) (we_mono hw (fun r hr => by omega)), take_lt h.2.1 hc h60 hi, fun p hp => wr_pr_c hp (h.2.2.1 p hp) (we_mono take_we (fun r hr => by omega)) (we_mono hw (fun r hr => by omega)), wr_rd_c h.2.2.2 (we_mono take_we (fun r hr => by omega)) (rm_k (by decide)) (fun x => we_I hw (by decide))⟩, gt_ok_c hd.1 (we_mono hw (fun r hr => by omega)), wg_ok_c hd.2.1 (Nat.le_refl _) (we_mono hw (fun r hr => by omega)), rm_lt hd.2.2.1 hz hc h60 hi, fun s hs => wd_st_c (hd.2.2.2.1 s hs) (fun _ _ _ q => q) (Nat.le_refl _) hz (we_mono hw (fun r hr => by omega)), fun p hp => wd_pr_c (hd.2.2.2.2.1 p hp) (fun _ _ _ q => q) (Nat.le_refl _) hz (we_mono hw (fun r hr => by omega)), ?_⟩
  obtain ⟨k, k1, k2⟩ := hd.2.2.2.2.2
  exact ⟨k, k1, (rm_k (by decide)).trans k2⟩
theorem s_drop {C D : zm_M} {G : wG} {B i c : Nat} (h : wr C D) (hd : wd G B D) (hc : zm_I D 546 5 = nI (c + 1)) (h60 : c < 60) (hi : i ≤ c) : ws B C D (fm_take C i c) (gm_rm (gm_t D 0) i c) := by
  have e : zm_I (gm_t D 0) 546 5 = nI (c + 1) := (zm_In (Or.inr (by decide))).trans hc
  obtain ⟨a, b⟩ := s_take (wr_n h wn_t) (wd_n hd (Nat.le_refl _) wn_t) e h60 hi
  exact ⟨a, ⟨G, b⟩, we_mono take_we (fun r hr => by omega), we_trans (we_wI (by omega)) (we_mono rm_we (fun r hr => by omega))⟩
/-! a letter copied: twin -/
theorem cpL_at {M : zm_M} {r q : Nat} (hd : q + 6 ≤ r ∨ r + 6 ≤ q) : we (fun x => x < r ∨ r + 6 ≤ x) M (fm_copyL M r q) ∧ (∀ k, k < 7 → zm_I (fm_copyL M r q) r k = zm_I M q k) ∧ zm_J (fm_copyL M r q) r 7 = zm_J M q 7 ∧ ∀ pl, pl < 8 → zm_I (fm_copyL M r q) (r + 1 + 1) pl = zm_I M (q + 1 + 1) pl ∧ zm_I (fm_copyL M r q) (r + 1 + 2) pl = zm_I M (q + 1 + 2) pl ∧ zm_I (fm_copyL M r q) (r + 1 + 3) pl = zm_I M (q + 1 + 3) pl ∧ zm_J (fm_copyL M r q) (r + 1 + 4) pl = zm_J M (q + 1 + 4) pl := by
  have hq : q ≠ r := by omega
  have ha : ∀ (a b c d : Int32), we (fun x => x ≠ r) M (fm_addr M r a b c d) := fun a b c d => we_trans (we_trans (we_trans (we_trans (we_trans (we_wI (by omega)) (we_wI (by omega))) (we_wI (by omega))) (we_wI (by omega))) (we_wI (by omega))) (we_wI (by omega))
  have w1 : we (fun x => x ≠ r) M (fm_cpL1 M r q) := ha _ _ _ _
  have w2 : we (fun x => x ≠ r) M (fm_cpL2 (fm_cpL1 M r q) r q) := we_trans w1 (we_trans (we_wI (by omega)) (we_wI (by omega)))
  have w3 : we (fun x => x ≠ r) M (fm_cpL3 (fm_cpL2 (fm_cpL1 M r q) r q) r q) := we_trans w2 (we_wI (by omega))
  have w4 : we (fun x => x ≠ r) M (fm_cpL4 (fm_cpL3 (fm_cpL2 (fm_cpL1 M r q) r q) r q) r q) := we_trans w3 (we_wJ (by omega))
  have i4 : ∀ k, k < 7 → zm_I (fm_cpL4 (fm_cpL3 (fm_cpL2 (fm_cpL1 M r q) r q) r q) r q) r k = zm_I M q k := fun k hk => by
    show zm_I (zm_wI (zm_wI (zm_wI (fm_cpL1 M r q) r 4 (zm_I (fm_cpL1 M r q) q 4)) r 5 (zm_I (fm_cpL1 M r q) q 5)) r 6 (zm_I (fm_cpL2 (fm_cpL1 M r q) r q) q 6)) r k = _
    rw [we_I w1 hq, we_I w1 hq, we_I w2 hq]
    show zm_I (zm_wI (zm_wI (zm_wI (zm_wI (zm_wI (zm_wI (zm_wI (zm_wI (zm_wI M r 0 (zm_I M q 0)) r 1 (zm_I M q 1)) r 2 (zm_I M q 2)) r 3 (zm_I M q 3)) r 4 (-1)) r 5 (-1)) r 4 (zm_I M q 4)) r 5 (zm_I M q 5)) r 6 (zm_I M q 6)) r k = _
    match k, hk with
    | 0, _ => rw [zm_In (Or.inr (by decide)), zm_In (Or.inr (by decide)), zm_In (Or.inr (by decide)), zm_In (Or.inr (by decide)), zm_In (Or.inr (by decide)), zm_In (Or.inr (by decide)), zm_In (Or.inr (by decide)), zm_In (Or.inr (by decide)), zm_Is]
    | 1, _ => rw [zm_In (Or.inr (by decide)), zm_In (Or.inr (by decide)), zm_In (Or.inr (by decide)), zm_In (Or.inr (by decide)), zm_In (Or.inr (by decide)), zm_In (Or.inr (by decide)), zm_In (Or.inr (by decide)), zm_Is]
    | 2, _ => rw [zm_In (Or.inr (by decide)), zm_In (Or.inr (by decide)), zm_In (Or.inr (by decide)), zm_In (Or.inr (by decide)), zm_In (Or.inr (by decide)), zm_In (Or.inr (by decide)), zm_Is]
    | 3, _ => rw [zm_In (Or.inr (by decide)), zm_In (Or.inr (by decide)), zm_In (Or.inr (by decide)), zm_In (Or.inr (by decide)), zm_In (Or.inr (by decide)), zm_Is]
    | 4, _ => rw [zm_In (Or.inr (by decide)), zm_In (Or.inr (by decide)), zm_Is]
    | 5, _ => rw [zm_In (Or.inr (by decide)), zm_Is]
    | 6, _ => rw [zm_Is]
    | k + 7, hk => omega
  have j4 : zm_J (fm_cpL4 (fm_cpL3 (fm_cpL2 (fm_cpL1 M r q) r q) r q) r q) r 7 = zm_J M q 7 := by
    show zm_J (zm_wJ (fm_cpL3 (fm_cpL2 (fm_cpL1 M r q) r q) r q) r 7 (zm_J (fm_cpL3 (fm_cpL2 (fm_cpL1 M r q) r q) r q) q 7)) r 7 = _
    rw [zm_Js, we_J w3 hq]
  unfold fm_copyL
  generalize fm_cpL4 (fm_cpL3 (fm_cpL2 (fm_cpL1 M r q) r q) r q) r q = N at w4 i4 j4
  obtain ⟨q1, q2⟩ := cp_at (M := N) (r := r + 1) (q := q + 1) (by omega)
  refine ⟨we_trans (we_mono w4 (fun x hx => by omega)) (we_mono q1 (fun x hx => by omega)), fun k hk => (we_I q1 (by omega)).trans (i4 k hk), (we_J q1 (by omega)).trans j4, fun pl hpl => ?_⟩
  obtain ⟨f1, f2, f3, f4⟩ := q2 pl hpl
  rw [f1, f2, f3, f4, we_I w4 (by omega), we_I w4 (by omega), we_I w4 (by omega), we_J w4 (by omega)]
  exact ⟨rfl, rfl, rfl, rfl⟩
theorem tw_1 {D : zm_M} {i c x : Nat} : zm_I (gm_tw D i c) 551 x = if 7 * c ≤ x ∧ x < 7 * c + 7 then zm_I D 551 (7 * i + (x - 7 * c)) else zm_I D 551 x := by
  unfold gm_tw
  rw [zm_In (Or.inl (by decide)), gm_upn (Or.inl (by decide)), gm_upI]
  by_cases e : 7 * c ≤ x ∧ x < 7 * c + 7
  · rw [if_pos ⟨rfl, e⟩, if_pos e]
  · rw [if_neg (fun z => e z.2), if_neg e]
    exact zm_In (Or.inl (by decide))
theorem tw_2 {D : zm_M} {i c x : Nat} : zm_I (gm_tw D i c) 552 x = if 88 * c ≤ x ∧ x < 88 * c + 88 then zm_I D 552 (88 * i + (x - 88 * c)) else zm_I D 552 x := by
  unfold gm_tw
  rw [zm_In (Or.inl (by decide)), gm_upI]
  by_cases e : 88 * c ≤ x ∧ x < 88 * c + 88
  · rw [if_pos ⟨rfl, e⟩, if_pos e]
  · rw [if_neg (fun z => e z.2), if_neg e, gm_upn (Or.inl (by decide))]
    exact zm_In (Or.inl (by decide))
theorem tw_we {D : zm_M} {i c : Nat} : we (fun r => r ≠ 546 ∧ r ≠ 551 ∧ r ≠ 552) D (gm_tw D i c) := we_trans (we_trans (we_trans (we_wI (by omega)) (we_up (by omega))) (we_up (by omega))) (we_wI (by omega))
theorem tw_5 {D : zm_M} {i c : Nat} : zm_I (gm_tw D i c) 546 5 = nI (c + 1) := zm_Is
theorem tw_25 {D : zm_M} {i c : Nat} : zm_I (gm_tw D i c) 546 25 = zm_I D 546 25 := (zm_In (Or.inr (by decide))).trans ((gm_upn (Or.inl (by decide))).trans ((gm_upn (Or.inl (by decide))).trans (zm_In (Or.inr (by decide)))))
theorem tw_h {D : zm_M} {i c k x : Nat} (hk : k ≤ c) (hx : x < 7) : zm_I (gm_tw D i c) 551 (7 * k + x) = zm_I D 551 (7 * (if k = c then i else k) + x) := by
  rw [tw_1]
  by_cases e : k = c
  · rw [if_pos (by omega), if_pos e, show 7 * k + x - 7 * c = x by omega]
  · rw [if_neg (by omega), if_neg e]
theorem tw_t {D : zm_M} {i c k x : Nat} (hk : k ≤ c) (hx : x < 88) : zm_I (gm_tw D i c) 552 (88 * k + x) = zm_I D 552 (88 * (if k = c then i else k) + x) := by
  rw [tw_2]
  by_cases e : k = c
  · rw [if_pos (by omega), if_pos e, show 88 * k + x - 88 * c = x by omega]
  · rw [if_neg (by omega), if_neg e]
theorem s_twin {C D : zm_M} {G : wG} {B i c : Nat} (h : wr C D) (hd : wd G B D) (hc : zm_I D 546 5 = nI c) (h60 : c < 60) (hi : i < c) : ws B C D (fm_copyL (zm_wI C 171 0 (nI (c + 1))) (zm_P C 172 c) (zm_P C 172 i)) (gm_tw D i c) := by
  have hz := wg_z hd.2.1
  have hw := tw_we (D := D) (i := i) (c := c)
  obtain ⟨hp, c', c1, c2, c3, b⟩ := h.2.1
  have e : c' = c := (nI_eq (by omega) (by omega)).mp (c2.symm.trans hc)
  subst e
  obtain ⟨j1, k1, e1⟩ := hp.1 i (by omega)
  obtain ⟨j2, k2, e2⟩ := hp.1 c' (by omega)
  have hne : j1 ≠ j2 := fun z => by
    have := hp.2 i (by omega) c' (by omega) (by rw [e1, e2, z])
    omega
  obtain ⟨q1, q2, q3, q4⟩ := cpL_at (M := zm_wI C 171 0 (nI (c' + 1))) (r := zm_P C 172 c') (q := zm_P C 172 i) (by omega)
  have hcl : we (fun x => x ≠ 171 ∧ (x < zm_P C 172 c' ∨ zm_P C 172 c' + 6 ≤ x)) C (fm_copyL (zm_wI C 171 0 (nI (c' + 1))) (zm_P C 172 c') (zm_P C 172 i)) := we_trans (we_wI (by omega)) (we_mono q1 (fun x hx => hx.2))
  refine ⟨⟨fun s hs => wr_st_c (h.1 s hs) (we_mono hcl (fun r hr => by omega)) (we_mono hw (fun r hr => by omega)), ⟨wr_pm_c hp (fun k => we_P hcl (by omega)), c' + 1, by omega, tw_5, ?_, fun k hk => ?_⟩, fun p hp => wr_pr_c hp (h.2.2.1 p hp) (we_mono hcl (fun r hr => by omega)) (we_mono hw (fun r hr => by omega)), wr_rd_c h.2.2.2 (we_mono hcl (fun r hr => by omega)) tw_25 (fun x => we_I hw (by decide))⟩, ⟨G, gt_ok_c hd.1 (we_mono hw (fun r hr => by omega)), wg_ok_c hd.2.1 (Nat.le_refl _) (we_mono hw (fun r hr => by omega)), ?_, fun s hs => wd_st_c (hd.2.2.2.1 s hs) (fun _ _ _ q => q) (Nat.le_refl _) hz (we_mono hw (fun r hr => by omega)), fun p hp => wd_pr_c (hd.2.2.2.2.1 p hp) (fun _ _ _ q => q) (Nat.le_refl _) hz (we_mono hw (fun r hr => by omega)), ?_⟩, we_mono hcl (fun r hr => by omega), we_mono hw (fun r hr => by omega)⟩
  · rw [we_I q1 (by omega), zm_Is]
  · rw [we_P hcl (by omega)]
    by_cases ek : k = c'
    · subst ek
      obtain ⟨a1, a2, a3⟩ := b i hi
      have H : ∀ x, x < 7 → zm_I (gm_tw D i k) 551 (7 * k + x) = zm_I D 551 (7 * i + x) := fun x hx => by rw [tw_h (Nat.le_refl _) hx, if_pos rfl]
      have T : ∀ x, x < 88 → zm_I (gm_tw D i k) 552 (88 * k + x) = zm_I D 552 (88 * i + x) := fun x hx => by rw [tw_t (Nat.le_refl _) hx, if_pos rfl]
      have w0 : ∀ x y, x ≠ 171 → zm_I (zm_wI C 171 0 (nI (k + 1))) x y = zm_I C x y := fun x y hx => zm_In (Or.inl hx)
      refine ⟨fun x hx => ?_, fun ez => ?_, fun ez => ?_⟩
      · rw [q2 x (by omega), w0 _ _ (by omega), H x (by omega)]
        exact a1 x hx
      · rw [H 0 (by decide)] at ez
        refine wr_sh_c (a2 ez) (fun pl hpl => ?_) T
        obtain ⟨f1, f2, f3, f4⟩ := q4 pl hpl
        rw [f1, f2, f3, f4, w0 _ _ (by omega), w0 _ _ (by omega), w0 _ _ (by omega)]
        exact ⟨rfl, rfl, rfl, rfl⟩
      · rw [H 0 (by decide)] at ez
        obtain ⟨g1, g2⟩ := a3 ez
        have eg : gv (gm_tw D i k) 551 (7 * k + 6) = gv D 551 (7 * i + 6) := by unfold gv; rw [H 6 (by decide)]
        refine ⟨by rw [q2 6 (by decide), w0 _ _ (by omega), H 6 (by decide), g1], fun j hj hj2 => ?_⟩
        rw [eg] at hj2
        rw [T j (by omega), q3]
        exact g2 j hj hj2
    · obtain ⟨j3, k3, e3⟩ := hp.1 k (by omega)
      have hne3 : j3 ≠ j2 := fun z => by
        have := hp.2 k (by omega) c' (by omega) (by rw [e3, e2, z])
        omega
      exact wr_le_c (b k (by omega)) (we_mono hcl (fun r hr => by omega)) (fun x hx => by rw [tw_h (by omega) hx, if_neg ek]) (fun x hx => by rw [tw_t (by omega) hx, if_neg ek])
  · obtain ⟨c'', d1, d2, d3⟩ := hd.2.2.1
    have e : c'' = c' := (nI_eq (by omega) (by omega)).mp (d2.symm.trans hc)
    subst e
    refine ⟨c'' + 1, by omega, tw_5, fun k hk => ?_⟩
    have hlt : (if k = c'' then i else k) < c'' := by split <;> omega
    exact wd_le_c (d3 _ hlt) (fun _ _ _ q => q) (Nat.le_refl _) hz (fun x hx => tw_h (by omega) hx) (fun x hx => tw_t (by omega) hx)
  · obtain ⟨k, k1, k2⟩ := hd.2.2.2.2.2
    exact ⟨k, k1, tw_25.trans k2⟩
