/-! Class against model (pure): accept comes, accepted comes -/
theorem ca0_h {D : zm_M} {s pl len y : Nat} {bal id : Int32} : zm_I (gm_ca0 D s pl len bal id 8) 550 y = if y = 88 * s + 11 * pl then bal else if y = 88 * s + 11 * pl + 1 then id else if y = 88 * s + 11 * pl + 2 then nI len else if 88 * s + 11 * pl + 3 ≤ y ∧ y < 88 * s + 11 * pl + 11 then (if y - (88 * s + 11 * pl + 3) < (len + 2) / 3 then zm_I D 571 (y - (88 * s + 11 * pl + 3)) else nI 0) else zm_I D 550 y := by
  unfold gm_ca0
  rw [gm_upI]
  by_cases c3 : 88 * s + 11 * pl + 3 ≤ y ∧ y < 88 * s + 11 * pl + 11
  · rw [if_pos ⟨rfl, by omega⟩, if_neg (show ¬ y = 88 * s + 11 * pl by omega), if_neg (show ¬ y = 88 * s + 11 * pl + 1 by omega), if_neg (show ¬ y = 88 * s + 11 * pl + 2 by omega), if_pos c3]
  · rw [if_neg (by omega), if_neg c3]
    by_cases c0 : y = 88 * s + 11 * pl
    · rw [if_pos c0, c0, zm_In (Or.inr (by omega)), zm_In (Or.inr (by omega)), zm_Is]
    · by_cases c1 : y = 88 * s + 11 * pl + 1
      · rw [if_neg c0, if_pos c1, c1, zm_In (Or.inr (by omega)), zm_Is]
      · by_cases c2 : y = 88 * s + 11 * pl + 2
        · rw [if_neg c0, if_neg c1, if_pos c2, c2, zm_Is]
        · rw [if_neg c0, if_neg c1, if_neg c2, zm_In (Or.inr (by omega)), zm_In (Or.inr (by omega)), zm_In (Or.inr (by omega)), zm_In (Or.inl (by decide))]
theorem ca0_7 {D : zm_M} {s pl len x : Nat} {bal id : Int32} : zm_I (gm_ca0 D s pl len bal id 8) 547 x = if x = s then bal else zm_I D 547 x := by
  unfold gm_ca0
  rw [gm_upn (Or.inl (by decide)), zm_In (Or.inl (by decide)), zm_In (Or.inl (by decide)), zm_In (Or.inl (by decide))]
  by_cases e : x = s
  · rw [if_pos e, e, zm_Is]
  · rw [if_neg e, zm_In (Or.inr e)]
theorem ca0_we {D : zm_M} {s pl len : Nat} {bal id : Int32} : we (fun r => r ≠ 547 ∧ r ≠ 550) D (gm_ca0 D s pl len bal id 8) := we_trans (we_trans (we_trans (we_trans (we_wI (by omega)) (we_wI (by omega))) (we_wI (by omega))) (we_wI (by omega))) (we_up (by omega))
/-- a station takes a share: on both sides -/
theorem stored {C D : zm_M} {G : wG} {B s pl u v : Nat} {z : Nat × (Nat → Nat)} {x : Int64} (h : wr C D) (hd : wd G B D) (hs : s < 7) (hpl : pl < 8) (hu : u ≤ B) (hG : G pl v = some z) (hx : ∀ j, j < 8 → j < (z.1 + 2) / 3 → zm_I D 571 j = nI (wb x j)) (hy : ∀ j, j < (z.1 + 2) / 3 → zm_I D 571 j = nI (gs_shb z.2 z.1 s j)) : wr (fm_put (zm_wI C (2 + 6 * s) 0 (nI u)) (2 + 6 * s + 1) pl (nI u) (nI v) (nI z.1) x) (gm_ca0 D s pl z.1 (nI u) (nI v) 8) ∧ wd G B (gm_ca0 D s pl z.1 (nI u) (nI v) 8) := by
  have hz := wg_z hd.2.1
  obtain ⟨⟨_, _, _, z1, z2, z3⟩, _⟩ := hd.2.1 _ _ _ hG
  have hw := ca0_we (D := D) (s := s) (pl := pl) (len := z.1) (bal := nI u) (id := nI v)
  have hC0 : we (fun r => r ≠ 2 + 6 * s) C (zm_wI C (2 + 6 * s) 0 (nI u)) := we_wI (by omega)
  have hC : we (fun r => r < 2 + 6 * s ∨ 8 + 6 * s ≤ r) C (fm_put (zm_wI C (2 + 6 * s) 0 (nI u)) (2 + 6 * s + 1) pl (nI u) (nI v) (nI z.1) x) := we_trans (we_mono hC0 (fun r hr => by omega)) (fp_we (fun j h1 h2 => by omega))
  have hr0 : ∀ k, zm_I (fm_put (zm_wI C (2 + 6 * s) 0 (nI u)) (2 + 6 * s + 1) pl (nI u) (nI v) (nI z.1) x) (2 + 6 * s) k = zm_I (zm_wI C (2 + 6 * s) 0 (nI u)) (2 + 6 * s) k := fun k => we_I (S := fun r => r = 2 + 6 * s) (fp_we (fun j h1 h2 => by omega)) rfl
  have hoth : ∀ s' pl' j, pl' < 8 → j < 11 → (s' ≠ s ∨ pl' ≠ pl) → zm_I (gm_ca0 D s pl z.1 (nI u) (nI v) 8) 550 (88 * s' + 11 * pl' + j) = zm_I D 550 (88 * s' + 11 * pl' + j) := fun s' pl' j h1 h2 h3 => by
    rw [ca0_h, if_neg (by omega), if_neg (by omega), if_neg (by omega), if_neg (by omega)]
  have hown : ∀ i, i < 8 → zm_I (gm_ca0 D s pl z.1 (nI u) (nI v) 8) 550 (88 * s + 11 * pl + 3 + i) = if i < (z.1 + 2) / 3 then zm_I D 571 i else nI 0 := fun i hi => by
    rw [ca0_h, if_neg (by omega), if_neg (by omega), if_neg (by omega), if_pos (by omega), Nat.add_sub_cancel_left]
  have o0 : zm_I (gm_ca0 D s pl z.1 (nI u) (nI v) 8) 550 (88 * s + 11 * pl) = nI u := by rw [ca0_h, if_pos rfl]
  have o1 : zm_I (gm_ca0 D s pl z.1 (nI u) (nI v) 8) 550 (88 * s + 11 * pl + 1) = nI v := by rw [ca0_h, if_neg (by omega), if_pos rfl]
  have o2 : zm_I (gm_ca0 D s pl z.1 (nI u) (nI v) 8) 550 (88 * s + 11 * pl + 2) = nI z.1 := by rw [ca0_h, if_neg (by omega), if_neg (by omega), if_pos rfl]
  refine ⟨⟨fun s' hs' => ?_, wr_lt_c h.2.1 (we_mono hC (fun r hr => by omega)) (we_I hw (by decide)) (we_mono hw (fun r hr => by omega)), fun p hp => wr_pr_c hp (h.2.2.1 p hp) (we_mono hC (fun r hr => by omega)) (we_mono hw (fun r hr => by omega)), wr_rd_c h.2.2.2 (we_mono hC (fun r hr => by omega)) (we_I hw (by decide)) (fun x => we_I hw (by decide))⟩, gt_ok_c hd.1 (we_mono hw (fun r hr => by omega)), wg_ok_c hd.2.1 (Nat.le_refl _) (we_mono hw (fun r hr => by omega)), wd_lt_c hd.2.2.1 (fun _ _ _ q => q) (Nat.le_refl _) hz (we_I hw (by decide)) (we_mono hw (fun r hr => by omega)), fun s' hs' => ?_, fun p hp => wd_pr_c (hd.2.2.2.2.1 p hp) (fun _ _ _ q => q) (Nat.le_refl _) hz (we_mono hw (fun r hr => by omega)), ?_⟩
  · obtain ⟨a1, a2, a3, a4⟩ := h.1 s' hs'
    by_cases e : s' = s
    · subst e
      refine ⟨?_, ?_, ?_, fun pl' hpl' => ?_⟩
      · rw [hr0, zm_Is, ca0_7, if_pos rfl]
      · rw [hr0, zm_In (Or.inr (by decide)), we_I hw (by decide), a2]
      · rw [hr0, zm_In (Or.inr (by decide)), we_I hw (by decide), a3]
      · obtain ⟨g1, g2, g3, g4⟩ := fp_at (M := zm_wI C (2 + 6 * s') 0 (nI u)) (r := 2 + 6 * s' + 1) (pl := pl) (ba := nI u) (id := nI v) (le := nI z.1) (x := x) pl'
        rw [g1, g2, g3, g4]
        by_cases ep : pl' = pl
        · subst ep
          rw [if_pos rfl, if_pos rfl, if_pos rfl, if_pos rfl]
          refine ⟨o0.symm, o1.symm, o2.symm, fun i hi hi2 => ?_⟩
          rw [gv_of o2 (by omega)] at hi2
          rw [hown i hi, if_pos hi2]
          exact hx i hi hi2
        · rw [if_neg ep, if_neg ep, if_neg ep, if_neg ep]
          obtain ⟨b1, b2, b3, b4⟩ := a4 pl' hpl'
          have t0 := hoth s' pl' 0 hpl' (by decide) (Or.inr ep)
          have t1 := hoth s' pl' 1 hpl' (by decide) (Or.inr ep)
          have t2 := hoth s' pl' 2 hpl' (by decide) (Or.inr ep)
          rw [Nat.add_zero] at t0
          refine ⟨?_, ?_, ?_, fun i hi hi2 => ?_⟩
          · rw [zm_In (Or.inl (by omega)), t0, b1]
          · rw [zm_In (Or.inl (by omega)), t1, b2]
          · rw [zm_In (Or.inl (by omega)), t2, b3]
          · rw [gv_c t2] at hi2
            have t3 := hoth s' pl' (3 + i) hpl' (by omega) (Or.inr ep)
            rw [← Nat.add_assoc] at t3
            rw [t3]
            exact b4 i hi hi2
    · refine ⟨?_, ?_, ?_, wr_sh_c a4 (fun pl _ => ⟨we_I hC (by omega), we_I hC (by omega), we_I hC (by omega), we_J hC (by omega)⟩) (fun y hy => ?_)⟩
      · rw [we_I hC (by omega), ca0_7, if_neg e, a1]
      · rw [we_I hC (by omega), we_I hw (by decide), a2]
      · rw [we_I hC (by omega), we_I hw (by decide), a3]
      · have := hoth s' (y / 11) (y % 11) (by omega) (by omega) (Or.inl e)
        rw [show 88 * s' + 11 * (y / 11) + y % 11 = 88 * s' + y by omega] at this
        exact this
  · obtain ⟨⟨u', a1, a1'⟩, a2, a3, a4⟩ := hd.2.2.2.1 s' hs'
    by_cases e : s' = s
    · subst e
      refine ⟨⟨u, hu, by rw [ca0_7, if_pos rfl]⟩, by rw [we_I hw (by decide)]; exact a2, by rw [we_I hw (by decide)]; exact a3, fun pl' hpl' => ?_⟩
      by_cases ep : pl' = pl
      · subst ep
        refine ⟨⟨u, hu, o0⟩, Or.inr ⟨v, z, hG, o1, o2, fun i hi => ?_⟩, fun i hi => ?_⟩
        · rw [hown i (by omega), if_pos hi]
          exact hy i hi
        · rw [hown i hi]
          by_cases ci : i < (z.1 + 2) / 3
          · rw [if_pos ci]
            exact ⟨_, wb_lt x i, hx i hi ci⟩
          · rw [if_neg ci]
            exact ⟨0, by decide, rfl⟩
      · obtain ⟨b1, b2, b3⟩ := a4 pl' hpl'
        have t0 := hoth s' pl' 0 hpl' (by decide) (Or.inr ep)
        have t1 := hoth s' pl' 1 hpl' (by decide) (Or.inr ep)
        have t2 := hoth s' pl' 2 hpl' (by decide) (Or.inr ep)
        rw [Nat.add_zero] at t0
        have t3 : ∀ i, i < 8 → zm_I (gm_ca0 D s' pl z.1 (nI u) (nI v) 8) 550 (88 * s' + 11 * pl' + 3 + i) = zm_I D 550 (88 * s' + 11 * pl' + 3 + i) := fun i hi => by
          have := hoth s' pl' (3 + i) hpl' (by omega) (Or.inr ep)
          rw [← Nat.add_assoc] at this
          exact this
        rw [t0, t1, t2]
        refine ⟨b1, ?_, fun i hi => by rw [t3 i hi]; exact b3 i hi⟩
        rcases b2 with b2 | ⟨v', z', g1, g2, g3, g4⟩
        · exact Or.inl b2
        · have := hz _ _ _ g1
          exact Or.inr ⟨v', z', g1, g2, g3, fun i hi => (t3 i (by omega)).trans (g4 i hi)⟩
    · refine ⟨⟨u', a1, by rw [ca0_7, if_neg e]; exact a1'⟩, by rw [we_I hw (by decide)]; exact a2, by rw [we_I hw (by decide)]; exact a3, wd_sh_c a4 (fun _ _ _ q => q) (Nat.le_refl _) (fun y hy => ?_) hz⟩
      have := hoth s' (y / 11) (y % 11) (by omega) (by omega) (Or.inl e)
      rw [show 88 * s' + 11 * (y / 11) + y % 11 = 88 * s' + y by omega] at this
      exact this
  · obtain ⟨k, k1, k2⟩ := hd.2.2.2.2.2
    exact ⟨k, k1, (we_I hw (by decide)).trans k2⟩
/-- an accepted's letter: on both sides -/
theorem post3 {C D : zm_M} {G : wG} {B c s p u pl v : Nat} {z : Nat × (Nat → Nat)} (h : wr C D) (hd : wd G B D) (hc : zm_I D 546 5 = nI c) (h60 : c < 60) (hs : s < 7) (hp : p < 2) (hu : u ≤ B) (hpl : pl < 8) (hG : G pl v = some z) : wr (fm_about (fm_post C (nI 3) (nI s) (nI p) (nI u)) (zm_P C 172 c) (nI pl) (nI v)) (zm_wI (zm_wI (gm_l4 D c (nI 3) (nI s) (nI p) (nI u)) 551 (7 * c + 4) (nI pl)) 551 (7 * c + 5) (nI v)) ∧ wd G B (zm_wI (zm_wI (gm_l4 D c (nI 3) (nI s) (nI p) (nI u)) 551 (7 * c + 4) (nI pl)) 551 (7 * c + 5) (nI v)) ∧ we (fun x => x < 171 ∨ 539 ≤ x) C (fm_about (fm_post C (nI 3) (nI s) (nI p) (nI u)) (zm_P C 172 c) (nI pl) (nI v)) ∧ zm_I (fm_about (fm_post C (nI 3) (nI s) (nI p) (nI u)) (zm_P C 172 c) (nI pl) (nI v)) 171 0 = nI (c + 1) := by
  have ec := wk_c h hc (by omega)
  unfold fm_post
  rw [if_pos (by omega), ec]
  obtain ⟨j2, k2, e2⟩ := h.2.1.1.1 c (by omega)
  have hC1 : we (fun r => r ≠ 171 ∧ r ≠ zm_P C 172 c) C (fm_addr (zm_wI C 171 0 (nI (c + 1))) (zm_P C 172 c) (nI 3) (nI s) (nI p) (nI u)) := we_trans (we_wI (by omega)) (we_mono addr_we (fun r hr => hr.2))
  obtain ⟨q0, q1, q2, q3, q4, q5⟩ := addr_at (M := zm_wI C 171 0 (nI (c + 1))) (r := zm_P C 172 c) (a := nI 3) (b := nI s) (c := nI p) (d := nI u)
  have w171 : zm_I (fm_addr (zm_wI C 171 0 (nI (c + 1))) (zm_P C 172 c) (nI 3) (nI s) (nI p) (nI u)) 171 0 = nI (c + 1) := (we_I addr_we (show 171 ≠ zm_P C 172 c by omega)).trans zm_Is
  generalize fm_addr (zm_wI C 171 0 (nI (c + 1))) (zm_P C 172 c) (nI 3) (nI s) (nI p) (nI u) = N at hC1 q0 q1 q2 q3 q4 q5 w171
  have hC : we (fun r => r ≠ 171 ∧ r ≠ zm_P C 172 c) C (fm_about N (zm_P C 172 c) (nI pl) (nI v)) := we_trans hC1 (we_trans (we_wI (by omega)) (we_wI (by omega)))
  obtain ⟨m0, m1, m2, m3, m4, m5⟩ := l4_at (D := D) (c := c) (k := nI 3) (s := nI s) (p := nI p) (bl := nI u)
  have hw0 := l4_we (D := D) (c := c) (k := nI 3) (s := nI s) (p := nI p) (bl := nI u)
  have hw : we (fun r => r ≠ 546 ∧ r ≠ 551) D (zm_wI (zm_wI (gm_l4 D c (nI 3) (nI s) (nI p) (nI u)) 551 (7 * c + 4) (nI pl)) 551 (7 * c + 5) (nI v)) := we_trans hw0 (we_trans (we_wI (by omega)) (we_wI (by omega)))
  have q171 : zm_I (fm_about N (zm_P C 172 c) (nI pl) (nI v)) 171 0 = nI (c + 1) := by
    unfold fm_about
    rw [zm_In (Or.inl (by omega)), zm_In (Or.inl (by omega)), w171]
  have hk : ∀ x, x ≠ 7 * c + 4 → x ≠ 7 * c + 5 → zm_I (zm_wI (zm_wI (gm_l4 D c (nI 3) (nI s) (nI p) (nI u)) 551 (7 * c + 4) (nI pl)) 551 (7 * c + 5) (nI v)) 551 x = zm_I (gm_l4 D c (nI 3) (nI s) (nI p) (nI u)) 551 x := fun x h1 h2 => by rw [zm_In (Or.inr h2), zm_In (Or.inr h1)]
  have h4 : zm_I (zm_wI (zm_wI (gm_l4 D c (nI 3) (nI s) (nI p) (nI u)) 551 (7 * c + 4) (nI pl)) 551 (7 * c + 5) (nI v)) 551 (7 * c + 4) = nI pl := by rw [zm_In (Or.inr (by omega)), zm_Is]
  have h5 : zm_I (zm_wI (zm_wI (gm_l4 D c (nI 3) (nI s) (nI p) (nI u)) 551 (7 * c + 4) (nI pl)) 551 (7 * c + 5) (nI v)) 551 (7 * c + 5) = nI v := zm_Is
  have hc' : ∀ k, k ≠ 4 → k ≠ 5 → zm_I (fm_about N (zm_P C 172 c) (nI pl) (nI v)) (zm_P C 172 c) k = zm_I N (zm_P C 172 c) k := fun k h1 h2 => by
    unfold fm_about
    rw [zm_In (Or.inr h2), zm_In (Or.inr h1)]
  have n1 : wr_le (fm_about N (zm_P C 172 c) (nI pl) (nI v)) (zm_P C 172 c) (zm_wI (zm_wI (gm_l4 D c (nI 3) (nI s) (nI p) (nI u)) 551 (7 * c + 4) (nI pl)) 551 (7 * c + 5) (nI v)) c := by
    refine ⟨fun x hx => ?_, fun e => ?_, fun e => ?_⟩
    · match x, hx with
      | 0, _ => rw [hc' 0 (by decide) (by decide), q0, hk _ (by omega) (by omega), m0]
      | 1, _ => rw [hc' 1 (by decide) (by decide), q1, hk _ (by omega) (by omega), m1]
      | 2, _ => rw [hc' 2 (by decide) (by decide), q2, hk _ (by omega) (by omega), m2]
      | 3, _ => rw [hc' 3 (by decide) (by decide), q3, hk _ (by omega) (by omega), m3]
      | 4, _ =>
        rw [h4]
        unfold fm_about
        rw [zm_In (Or.inr (by decide)), zm_Is]
      | 5, _ => rw [h5]; exact zm_Is
      | x + 6, hx => omega
    · rw [hk _ (by omega) (by omega), m0] at e; exact absurd e (by decide)
    · rw [hk _ (by omega) (by omega), m0] at e; exact absurd e (by decide)
  obtain ⟨a, b⟩ := app h hd hc h60 (we_mono hC (fun r hr => by omega)) q171 (we_mono hw (fun r hr => by omega)) ((zm_In (Or.inl (by decide))).trans ((zm_In (Or.inl (by decide))).trans l4_5)) ((zm_In (Or.inl (by decide))).trans ((zm_In (Or.inl (by decide))).trans (l4_k (by decide)))) (fun x hx => (hk x (by omega) (by omega)).trans (l4_o hx)) (fun x hx => we_I hw (by decide)) n1 ⟨3, s, p, u, ⟨by decide, hs, hp, hu⟩, ⟨(hk _ (by omega) (by omega)).trans m0, (hk _ (by omega) (by omega)).trans m1, (hk _ (by omega) (by omega)).trans m2, (hk _ (by omega) (by omega)).trans m3⟩, fun e => absurd e (by decide), fun _ => ⟨pl, v, z, hpl, hG, h4, h5, fun e => absurd e (by decide)⟩⟩
  exact ⟨a, b, we_mono hC (fun r hr => by omega), q171⟩
/-- accept comes -/
theorem come2 {C D : zm_M} {G : wG} {B c q s p u pl v : Nat} {z : Nat × (Nat → Nat)} (h : wr C D) (hd : wd G B D) (hc : zm_I D 546 5 = nI c) (h60 : c < 60) (hs : s < 7) (hp : p < 2) (hu : u ≤ B) (hpl : pl < 8) (hG : G pl v = some z) (q1 : zm_I C q 1 = nI s) (q2 : zm_I C q 2 = nI p) (q3 : zm_I C q 3 = nI u) (q4 : zm_I C q 4 = nI pl) (q5 : zm_I C q 5 = nI v) (q6 : zm_I C q 6 = nI z.1) (hx : ∀ j, j < 8 → j < (z.1 + 2) / 3 → zm_I D 571 j = nI (wb (zm_J C q 7) j)) (hy : ∀ j, j < (z.1 + 2) / 3 → zm_I D 571 j = nI (gs_shb z.2 z.1 s j)) (hq : 173 ≤ q) (hq2 : q ≠ zm_P C 172 c) (hN : ¬ (zm_I D 548 s ≠ 0 ∨ zm_I D 549 s ≠ 0 ∨ nI u < zm_I D 547 s)) : wr (fm_ba C q s pl) (gm_ca D s p pl z.1 c (nI u) (nI v)) ∧ wd G B (gm_ca D s p pl z.1 c (nI u) (nI v)) ∧ we (fun x => 546 ≤ x) C (fm_ba C q s pl) ∧ we (fun r => r < 546 ∨ r = 572) D (gm_ca D s p pl z.1 c (nI u) (nI v)) ∧ zm_I (fm_ba C q s pl) 171 0 - nI c = nI 1 := by
  have wq : ∀ k, zm_I (zm_wI C (2 + 6 * s) 0 (nI u)) q k = zm_I C q k := fun k => zm_In (Or.inl (by omega))
  have e1 : fm_ba1 C q s pl = fm_put (zm_wI C (2 + 6 * s) 0 (nI u)) (2 + 6 * s + 1) pl (nI u) (nI v) (nI z.1) (zm_J C q 7) := by
    unfold fm_ba1
    rw [q3, wq, wq, wq, q3, q5, q6]
  obtain ⟨a, b⟩ := stored h hd hs hpl hu hG hx hy
  have hc2 : zm_I (gm_ca0 D s pl z.1 (nI u) (nI v) 8) 546 5 = nI c := (we_I ca0_we (by decide)).trans hc
  have ec := wk_c a hc2 (by omega)
  have wN : we (fun r => r < 2 + 6 * s ∨ 8 + 6 * s ≤ r) C (fm_put (zm_wI C (2 + 6 * s) 0 (nI u)) (2 + 6 * s + 1) pl (nI u) (nI v) (nI z.1) (zm_J C q 7)) := we_trans (we_wI (by omega)) (fp_we (fun j h1 h2 => by omega))
  have eB : fm_ba C q s pl = fm_about (fm_post (fm_put (zm_wI C (2 + 6 * s) 0 (nI u)) (2 + 6 * s + 1) pl (nI u) (nI v) (nI z.1) (zm_J C q 7)) (nI 3) (nI s) (nI p) (nI u)) (zm_P C 172 c) (nI pl) (nI v) := by
    unfold fm_ba
    rw [q3, heeds h hd hs, if_neg hN, if_neg (by decide), e1, ec, if_pos h60]
    generalize fm_put (zm_wI C (2 + 6 * s) 0 (nI u)) (2 + 6 * s + 1) pl (nI u) (nI v) (nI z.1) (zm_J C q 7) = N at wN ec a
    unfold fm_ba3 fm_ba2
    have hP : zm_P N 172 c = zm_P C 172 c := we_P wN (by omega)
    have t : ∀ k, zm_I (fm_post N (nI 3) (zm_I N q 1) (zm_I N q 2) (zm_I N q 3)) q k = zm_I C q k := fun k => by
      unfold fm_post
      rw [if_pos (by omega), ec, hP, we_I addr_we hq2, zm_In (Or.inl (by omega)), we_I wN (by omega)]
    rw [t 4, t 5, we_I wN (by omega), we_I wN (by omega), we_I wN (by omega), q1, q2, q3, q4, q5]
  obtain ⟨x1, x2, x3, x4⟩ := post3 (s := s) (p := p) (u := u) a b hc2 h60 hs hp hu hpl hG
  have hP : zm_P (fm_put (zm_wI C (2 + 6 * s) 0 (nI u)) (2 + 6 * s + 1) pl (nI u) (nI v) (nI z.1) (zm_J C q 7)) 172 c = zm_P C 172 c := we_P wN (by omega)
  rw [hP] at x1 x3 x4
  rw [eB]
  refine ⟨x1, x2, we_trans (we_mono wN (fun r hr => by omega)) (we_mono x3 (fun r hr => by omega)), we_trans (we_trans (we_mono ca0_we (fun r hr => by omega)) (we_mono l4_we (fun r hr => by omega))) (we_trans (we_wI (by omega)) (we_wI (by omega))), ?_⟩
  rw [x4, nI_subN (by omega), Nat.add_sub_cancel_left]
/-! accepted comes -/
theorem an_or : ∀ m, m < 128 → ∀ s, s < 7 → nI m ||| (nI 1 <<< (nI s &&& 31)) = nI (m ||| 2 ^ s) ∧ m ||| 2 ^ s < 128 := by decide +kernel
theorem wep_spot {p p' pl : Nat} {D D' : zm_M} (hne : p' ≠ p) (hp : p < 2) (hp' : p' < 2) (hpl : pl < 8) (hw : we (fun r => r ≠ 559 ∧ r ≠ 560 ∧ r ≠ 562) D D') (ho : ∀ r x, x ≠ 8 * p + pl → zm_I D' r x = zm_I D r x) : wep p' D D' :=
  ⟨fun r hr => we_I hw (by omega), fun x _ => we_I hw (by decide), fun x _ => we_I hw (by decide), fun r h1 h2 pl' hpl' => ho r _ (by omega), fun pl' _ x _ => we_I hw (by decide)⟩
/-- a change at one spot alone: the rest is as before -/
theorem spot {C C' D D' : zm_M} {G : wG} {B p pl : Nat} (h : wr C D) (hd : wd G B D) (hp : p < 2) (hpl : pl < 8) (hC : we (fun r => r ≠ 45 + 63 * p + 39 + 3 * pl) C C') (hw : we (fun r => r ≠ 559 ∧ r ≠ 560 ∧ r ≠ 562) D D') (ho : ∀ r x, x ≠ 8 * p + pl → zm_I D' r x = zm_I D r x) (hg : zm_I D 559 (8 * p + pl) ≠ 0 ∨ zm_I D 560 (8 * p + pl) ≠ 0 → zm_I D' 559 (8 * p + pl) ≠ 0 ∨ zm_I D' 560 (8 * p + pl) ≠ 0) (h1 : wr_sp C' D' p pl) (h2 : ∀ ph, wd_sp G B D p pl ph → wd_sp G B D' p pl ph) : wr C' D' ∧ wd G B D' := by
  have hz := wg_z hd.2.1
  refine ⟨⟨fun s hs => wr_st_c (h.1 s hs) (we_mono hC (fun r hr => by omega)) (we_mono hw (fun r hr => by omega)), wr_lt_c h.2.1 (we_mono hC (fun r hr => by omega)) (we_I hw (by decide)) (we_mono hw (fun r hr => by omega)), fun p' hp' => ?_, wr_rd_c h.2.2.2 (we_mono hC (fun r hr => by omega)) (we_I hw (by decide)) (fun x => we_I hw (by decide))⟩, gt_ok_c hd.1 (we_mono hw (fun r hr => by omega)), fun pl' v z e => ?_, wd_lt_c hd.2.2.1 (fun _ _ _ q => q) (Nat.le_refl _) hz (we_I hw (by decide)) (we_mono hw (fun r hr => by omega)), fun s hs => wd_st_c (hd.2.2.2.1 s hs) (fun _ _ _ q => q) (Nat.le_refl _) hz (we_mono hw (fun r hr => by omega)), fun p' hp' => ?_, ?_⟩
  · by_cases e : p' = p
    · subst e
      obtain ⟨⟨a0, a1, a2, a3, a4⟩, bb, cc, dd⟩ := h.2.2.1 p' hp'
      refine ⟨⟨?_, ?_, ?_, ?_, ?_⟩, fun x hx => ?_, fun s hs e => ?_, fun pl' hpl' => ?_⟩
      · rw [we_I hC (by omega), a0]
      · rw [we_I hC (by omega), we_I hw (by decide), a1]
      · rw [we_I hC (by omega), we_I hw (by decide), a2]
      · rw [we_I hC (by omega), we_I hw (by decide), a3]
      · rw [we_I hC (by omega), we_I hw (by decide), a4]
      · rw [gv_c (we_I hw (by decide))] at hx
        rw [we_I hC (by omega), we_I hw (by decide), bb x hx]
      · rw [gv_c (we_I hw (by decide))] at e
        exact wr_sh_c (cc s hs e) (fun pl _ => ⟨we_I hC (by omega), we_I hC (by omega), we_I hC (by omega), we_J hC (by omega)⟩) (fun x _ => we_I hw (by decide))
      · by_cases ep : pl' = pl
        · subst ep; exact h1
        · exact wr_sp_c (dd pl' hpl') (we_mono hC (fun r hr => by omega)) (fun r _ _ => ho r _ (by omega)) (fun x _ => we_I hw (by decide))
    · exact wr_pr_c2 hp' (h.2.2.1 p' hp') (hd.2.2.2.2.1 p' hp') hz (we_mono hC (fun r hr => by omega)) (wep_spot e hp hp' hpl hw ho)
  · obtain ⟨q1, q2⟩ := hd.2.1 pl' v z e
    refine ⟨q1, fun p' hp' hv => ?_⟩
    obtain ⟨q3, q4⟩ := q2 p' hp' hv
    rw [gv_c (we_I hw (by decide)), we_I hw (by decide)]
    refine ⟨q3, fun ez => ⟨(q4 ez).1, ?_⟩⟩
    by_cases ex : 8 * p' + pl' = 8 * p + pl
    · rw [ex]
      rw [ex] at q4
      exact hg (q4 ez).2
    · rw [ho _ _ ex, ho _ _ ex]
      exact (q4 ez).2
  · by_cases e : p' = p
    · subst e
      obtain ⟨ph, w, m, dl, ⟨k1, k2, k3, k4⟩, ⟨e1, e2, e3, e4⟩, f1, f2, f3, f4, f5⟩ := hd.2.2.2.2.1 p' hp'
      refine ⟨ph, w, m, dl, ⟨k1, k2, k3, k4⟩, ⟨(we_I hw (by decide)).trans e1, (we_I hw (by decide)).trans e2, (we_I hw (by decide)).trans e3, (we_I hw (by decide)).trans e4⟩, fun x hx => ?_, f2, f3, fun s hs e => wd_sh_c (f4 s hs e) (fun _ _ _ q => q) (Nat.le_refl _) (fun x _ => we_I hw (by decide)) hz, fun pl' hpl' => ?_⟩
      · obtain ⟨u, q1, q2⟩ := f1 x hx
        exact ⟨u, q1, (we_I hw (by decide)).trans q2⟩
      · by_cases ep : pl' = pl
        · subst ep; exact h2 ph (f5 pl' hpl')
        · exact wd_sp_c (f5 pl' hpl') (fun _ _ _ q => q) (Nat.le_refl _) (fun r _ _ => ho r _ (by omega)) hz (fun x _ => we_I hw (by decide))
    · exact wd_pr_c2 (hd.2.2.2.2.1 p' hp') (fun _ _ _ q => q) (Nat.le_refl _) hz (wep_spot e hp hp' hpl hw ho)
  · obtain ⟨k, k1, k2⟩ := hd.2.2.2.2.2
    exact ⟨k, k1, (we_I hw (by decide)).trans k2⟩
theorem come3 {C D : zm_M} {G : wG} {B q s p pl : Nat} (hB : B < 2 ^ 30) (h : wr C D) (hd : wd G B D) (hs : s < 7) (hp : p < 2) (hpl : pl < 8) (q3 : zm_I C q 3 = zm_I D 570 3) (q5 : zm_I C q 5 = zm_I D 570 5) : wr (fm_ha C (45 + 63 * p) q pl s) (gm_acd D s p pl) ∧ wd G B (gm_acd D s p pl) ∧ we (fun x => x ≠ 45 + 63 * p + 39 + 3 * pl) C (fm_ha C (45 + 63 * p) q pl s) ∧ we (fun r => r < 546 ∨ r = 572) D (gm_acd D s p pl) := by
  obtain ⟨⟨a0, a1, a2, a3, a4⟩, bb, cc, dd⟩ := h.2.2.1 p hp
  obtain ⟨d1, d2, d3⟩ := dd pl hpl
  unfold fm_ha gm_acd
  rw [a1, q3, a2]
  by_cases c1 : zm_I D 553 p = nI 2 ∧ zm_I D 570 3 = zm_I D 554 p
  · rw [if_pos c1]
    unfold fm_hear
    rw [d2, q5]
    by_cases c2 : zm_I D 560 (8 * p + pl) = 0
    · rw [if_pos c2, if_neg (fun z => z.2.2.1 c2)]
      exact ⟨h, hd, we_refl, we_refl⟩
    · rw [if_neg c2]
      by_cases c3 : zm_I D 570 5 = zm_I D 560 (8 * p + pl)
      · rw [if_pos c3, if_pos (show zm_I D 553 p = nI 2 ∧ zm_I D 570 3 = zm_I D 554 p ∧ zm_I D 560 (8 * p + pl) ≠ 0 ∧ zm_I D 560 (8 * p + pl) = zm_I D 570 5 from ⟨c1.1, c1.2, c2, c3.symm⟩)]
        obtain ⟨d4, d5⟩ := d3 c2
        obtain ⟨ph, w, m, dl, k, e, f1, f2, f3, f4, f5⟩ := hd.2.2.2.2.1 p hp
        obtain ⟨⟨v0, vB, vE⟩, sp⟩ := f5 pl hpl
        obtain ⟨_, v, z, m', g1, g2, g3, g4, g5, g6⟩ := sp.resolve_left (fun z => c2 (z.trans (by decide)))
        obtain ⟨⟨_, v1, v2, _, _, _⟩, _⟩ := hd.2.1 _ _ _ g1
        obtain ⟨o1, o2⟩ := an_or m' g3 s hs
        have eC : fm_ans C (45 + 63 * p + 39 + 3 * pl) s = zm_wI C (45 + 63 * p + 39 + 3 * pl) 2 (nI (m' ||| 2 ^ s)) := by
          unfold fm_ans
          rw [d4, g4, o1]
        have eD : gs_an D p pl s = nI (m' ||| 2 ^ s) := by
          unfold gs_an
          rw [g4, o1]
        rw [eC, eD, zm_Is, wpc_bc _ o2, wpc_bits _ o2]
        generalize m' ||| 2 ^ s = M' at o2
        have hp7 := wpc_lt M' o2
        by_cases c5 : wpc M' < 5
        · rw [if_pos (nI_lt c5 (by decide)), if_neg (nI_ge c5 (by decide))]
          have hC : we (fun r => r ≠ 45 + 63 * p + 39 + 3 * pl) C (zm_wI C (45 + 63 * p + 39 + 3 * pl) 2 (nI M')) := we_wI (by omega)
          have hw : we (fun r => r ≠ 562) D (zm_wI D 562 (8 * p + pl) (nI M')) := we_wI (by omega)
          obtain ⟨x1, x2⟩ := spot h hd hp hpl hC (we_mono hw (fun r hr => by omega)) (fun r x hx => zm_In (Or.inr hx)) (fun z => by rw [we_I hw (by decide), we_I hw (by decide)]; exact z)
            ⟨by rw [zm_In (Or.inr (by decide)), we_I hw (by decide), d1], by rw [zm_In (Or.inr (by decide)), we_I hw (by decide), d2], fun _ => ⟨by rw [zm_Is, zm_Is], by
              rw [gv_c (we_I hw (by decide))]
              exact wr_re_c d5 (we_mono hC (fun r hr => by omega)) (fun x _ => we_I hw (by decide))⟩⟩
            (fun ph' hsp => by
              refine ⟨⟨v0, vB, (we_I hw (by decide)).trans vE⟩, Or.inr ⟨?_, v, z, M', g1, (we_I hw (by decide)).trans g2, o2, zm_Is, (we_I hw (by decide)).trans g5, fun x hx => (we_I hw (by decide)).trans (g6 x hx)⟩⟩
              exact (hsp.2.resolve_left (fun z => c2 (z.trans (by decide)))).1)
          exact ⟨x1, x2, hC, we_mono hw (fun r hr => by omega)⟩
        · rw [if_neg (nI_nlt (by omega) (by omega)), if_pos (nI_le (by omega) (by omega)), g2]
          unfold fm_dec fm_prop
          rw [zm_In (Or.inr (by decide)), d2, g2]
          have hC : we (fun r => r ≠ 45 + 63 * p + 39 + 3 * pl) C (zm_wI (zm_wI (zm_wI (zm_wI C (45 + 63 * p + 39 + 3 * pl) 2 (nI M')) (45 + 63 * p + 39 + 3 * pl) 0 (nI v)) (45 + 63 * p + 39 + 3 * pl) 1 (nI 0)) (45 + 63 * p + 39 + 3 * pl) 2 (nI 0)) := we_trans (we_trans (we_trans (we_wI (by omega)) (we_wI (by omega))) (we_wI (by omega))) (we_wI (by omega))
          have hw : we (fun r => r ≠ 559 ∧ r ≠ 560 ∧ r ≠ 562) D (zm_wI (zm_wI (zm_wI D 562 (8 * p + pl) (nI M')) 559 (8 * p + pl) (nI v)) 560 (8 * p + pl) (nI 0)) := we_trans (we_trans (we_wI (by omega)) (we_wI (by omega))) (we_wI (by omega))
          have n9 : zm_I (zm_wI (zm_wI (zm_wI D 562 (8 * p + pl) (nI M')) 559 (8 * p + pl) (nI v)) 560 (8 * p + pl) (nI 0)) 559 (8 * p + pl) = nI v := by rw [zm_In (Or.inl (by decide)), zm_Is]
          have n0 : zm_I (zm_wI (zm_wI (zm_wI D 562 (8 * p + pl) (nI M')) 559 (8 * p + pl) (nI v)) 560 (8 * p + pl) (nI 0)) 560 (8 * p + pl) = nI 0 := zm_Is
          obtain ⟨x1, x2⟩ := spot h hd hp hpl hC hw (fun r x hx => by rw [zm_In (Or.inr hx), zm_In (Or.inr hx), zm_In (Or.inr hx)]) (fun _ => Or.inl (by rw [n9]; exact nI_ne0 (by omega) (by omega)))
            ⟨by rw [n9, zm_In (Or.inr (by decide)), zm_In (Or.inr (by decide)), zm_Is], by rw [n0, zm_In (Or.inr (by decide)), zm_Is], fun ne => absurd n0 ne⟩
            (fun ph' hsp => ⟨⟨v, v2, n9⟩, Or.inl n0⟩)
          exact ⟨x1, x2, hC, we_mono hw (fun r hr => by omega)⟩
      · rw [if_neg c3, if_neg (fun z => c3 z.2.2.2.symm)]
        exact ⟨h, hd, we_refl, we_refl⟩
  · rw [if_neg c1, if_neg (fun z => c1 ⟨z.1, z.2.1⟩)]
    exact ⟨h, hd, we_refl, we_refl⟩
