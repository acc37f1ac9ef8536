/-! Class against model (pure): campaign; prepares sent again; accepts sent -/
theorem c0_3 {D : zm_M} {p A x : Nat} : zm_I (gm_c0 D p A 8) 553 x = if x = p then nI 1 else zm_I D 553 x := by
  unfold gm_c0
  rw [gm_upn (Or.inl (by decide)), zm_In (Or.inl (by decide))]
  by_cases e : x = p
  · rw [if_pos e, e, zm_Is]
  · rw [if_neg e, zm_In (Or.inr e), zm_In (Or.inl (by decide))]
    exact zm_In (Or.inl (by decide))
theorem c0_4 {D : zm_M} {p A x : Nat} : zm_I (gm_c0 D p A 8) 554 x = if x = p then nI (gs_nb p A) else zm_I D 554 x := by
  unfold gm_c0
  rw [gm_upn (Or.inl (by decide)), zm_In (Or.inl (by decide)), zm_In (Or.inl (by decide))]
  by_cases e : x = p
  · rw [if_pos e, e, zm_Is]
  · rw [if_neg e, zm_In (Or.inr e)]
    exact zm_In (Or.inl (by decide))
theorem c0_5 {D : zm_M} {p A x : Nat} : zm_I (gm_c0 D p A 8) 555 x = if x = p then nI 0 else zm_I D 555 x := by
  unfold gm_c0
  rw [gm_upn (Or.inl (by decide))]
  by_cases e : x = p
  · rw [if_pos e, e, zm_Is]
  · rw [if_neg e, zm_In (Or.inr e), zm_In (Or.inl (by decide)), zm_In (Or.inl (by decide))]
    exact zm_In (Or.inl (by decide))
theorem c0_60 {D : zm_M} {p A x : Nat} : zm_I (gm_c0 D p A 8) 560 x = if 8 * p ≤ x ∧ x < 8 * p + 8 then nI 0 else zm_I D 560 x := by
  unfold gm_c0
  rw [gm_upI]
  by_cases e : 8 * p ≤ x ∧ x < 8 * p + 8
  · rw [if_pos ⟨rfl, e⟩, if_pos e]
  · rw [if_neg (fun z => e z.2), if_neg e, zm_In (Or.inl (by decide)), zm_In (Or.inl (by decide)), zm_In (Or.inl (by decide))]
    exact zm_In (Or.inl (by decide))
theorem c0_k {D : zm_M} {p A k : Nat} (hk : k ≠ 0) : zm_I (gm_c0 D p A 8) 546 k = zm_I D 546 k := by
  unfold gm_c0
  rw [gm_upn (Or.inl (by decide)), zm_In (Or.inl (by decide)), zm_In (Or.inl (by decide)), zm_In (Or.inl (by decide))]
  exact zm_In (Or.inr hk)
theorem c0_we {D : zm_M} {p A : Nat} : we (fun r => r ≠ 546 ∧ r ≠ 553 ∧ r ≠ 554 ∧ r ≠ 555 ∧ r ≠ 560) D (gm_c0 D p A 8) := we_trans (we_trans (we_trans (we_trans (we_wI (by omega)) (we_wI (by omega))) (we_wI (by omega))) (we_wI (by omega))) (we_up (by omega))
theorem ff_bit_0 : ∀ s, s < 7 → ¬ ff_bit (nI 0) s = nI 1 := by decide +kernel
theorem camp0 {C D : zm_M} {G : wG} {B p w H : Nat} (hB : B < 2 ^ 29) (hB3 : 3 ≤ B) (h : wr C D) (hd : wd G B D) (hp : p < 2) (hw : zm_I D 554 p = nI w) (hwB : w ≤ B) (hH : H ≤ B) (eH : fs_high C 7 = nI H) : wr (fm_begin C (45 + 63 * p) (fs_high C 7)) (gm_c0 D p (max w H) 8) ∧ wd G (B + 2) (gm_c0 D p (max w H) 8) := by
  have hz := wg_z hd.2.1
  obtain ⟨n1, n2, n3, n4⟩ := nb_lt (p := p) (A := max w H) hp
  obtain ⟨b1, ⟨b20, b21, b22, b23, b24⟩, b3⟩ := beg_at (C := C) (r := 45 + 63 * p) (hp := fs_high C 7)
  have hw0 := c0_we (D := D) (p := p) (A := max w H)
  obtain ⟨⟨a0, a1, a2, a3, a4⟩, bb, cc, dd⟩ := h.2.2.1 p hp
  have hball : fs_ball C (45 + 63 * p) (fs_high C 7) = nI (gs_nb p (max w H)) := by
    unfold fs_ball
    rw [a2, hw, eH, a0]
    exact wo_ball hp (by omega) (by omega)
  have hwep : ∀ p', p' < 2 → p' ≠ p → wep p' D (gm_c0 D p (max w H) 8) := fun p' h2 hne => ⟨fun r hr => by
      rcases hr with rfl | rfl | rfl | rfl
      · rw [c0_3, if_neg hne]
      · rw [c0_4, if_neg hne]
      · rw [c0_5, if_neg hne]
      · exact we_I hw0 (by decide), fun x hx => we_I hw0 (by decide), fun x _ => we_I hw0 (by decide), fun r h1 h2 pl _ => by
      by_cases e : r = 560
      · subst e; rw [c0_60, if_neg (by omega)]
      · exact we_I hw0 (by omega), fun pl _ x _ => we_I hw0 (by decide)⟩
  have hrows : ∀ x, (x < 45 + 63 * p ∨ 108 + 63 * p ≤ x) → (x ≠ 45 + 63 * p ∧ ∀ pl, pl < 8 → x ≠ 45 + 63 * p + 39 + 3 * pl) := fun x hx => ⟨by omega, fun pl hpl => by omega⟩
  refine ⟨⟨fun s hs => wr_st_c (h.1 s hs) (we_mono b1 (fun r hr => hrows r (by omega))) (we_mono hw0 (fun r hr => by omega)), wr_lt_c h.2.1 (we_mono b1 (fun r hr => hrows r (by omega))) (c0_k (by decide)) (we_mono hw0 (fun r hr => by omega)), fun p' hp' => ?_, wr_rd_c h.2.2.2 (we_mono b1 (fun r hr => hrows r (by omega))) (c0_k (by decide)) (fun x => we_I hw0 (by decide))⟩, gt_ok_c hd.1 (we_mono hw0 (fun r hr => by omega)), ?_, wd_lt_c hd.2.2.1 (fun _ _ _ q => q) (by omega) hz (c0_k (by decide)) (we_mono hw0 (fun r hr => by omega)), fun s hs => wd_st_c (hd.2.2.2.1 s hs) (fun _ _ _ q => q) (by omega) hz (we_mono hw0 (fun r hr => by omega)), fun p' hp' => ?_, ?_⟩
  · by_cases e : p' = p
    · subst e
      refine ⟨⟨?_, ?_, ?_, ?_, ?_⟩, fun x hx => ?_, fun s hs e => ?_, fun pl hpl => ?_⟩
      · rw [b20, a0]
      · rw [b21, c0_3, if_pos rfl]
      · rw [b22, c0_4, if_pos rfl, hball]
      · rw [b23, c0_5, if_pos rfl]
      · rw [b24, we_I hw0 (by decide), a4]
      · rw [gv_c (we_I hw0 (by decide))] at hx
        rw [we_I b1 ⟨by omega, fun pl hpl => by omega⟩, we_I hw0 (by decide)]
        exact bb x hx
      · rw [gv_of (n := 0) (by rw [c0_5, if_pos rfl]) (by decide)] at e
        exact absurd e (by rw [Nat.zero_div]; decide)
      · obtain ⟨g1, g2⟩ := b3 pl hpl
        have e60 : zm_I (gm_c0 D p' (max w H) 8) 560 (8 * p' + pl) = nI 0 := by rw [c0_60, if_pos (by omega)]
        refine ⟨?_, ?_, fun e => absurd e60 e⟩
        · rw [g1, we_I hw0 (by decide), (dd pl hpl).1]
        · rw [g2, e60]
    · exact wr_pr_c2 hp' (h.2.2.1 p' hp') (hd.2.2.2.2.1 p' hp') hz (we_mono b1 (fun r hr => hrows r (by omega))) (hwep p' hp' e)
  · intro pl v z e
    obtain ⟨⟨v1, v2, v3, v4, v5, v6⟩, v7⟩ := hd.2.1 pl v z e
    refine ⟨⟨v1, v2, by omega, v4, v5, v6⟩, fun p' hp' hv => ?_⟩
    obtain ⟨c2, c3⟩ := v7 p' hp' hv
    by_cases e : p' = p
    · subst e
      rw [gv_of hw (by omega)] at c2
      rw [gv_of (n := gs_nb p' (max w H)) (by rw [c0_4, if_pos rfl]) (by omega)]
      exact ⟨by omega, fun z => absurd z (by omega)⟩
    · rw [gv_c (D := D) (by rw [c0_4, if_neg e]), c0_3, if_neg e, c0_60, if_neg (by omega), we_I hw0 (by decide)]
      exact ⟨c2, c3⟩
  · by_cases e : p' = p
    · subst e
      obtain ⟨ph, w', m, dl, ⟨k1, k2, k3, k4⟩, ⟨e1, e2, e3, e4⟩, f1, f2, f3, f4, f5⟩ := hd.2.2.2.2.1 p' hp'
      refine ⟨1, gs_nb p' (max w H), 0, dl, ⟨by decide, by omega, by decide, k4⟩, ⟨by rw [c0_3, if_pos rfl], by rw [c0_4, if_pos rfl], by rw [c0_5, if_pos rfl], (we_I hw0 (by decide)).trans e4⟩, fun x hx => ?_, Or.inr ⟨n3, n2⟩, fun _ => by decide, fun s hs e => absurd e (by rw [Nat.zero_div]; decide), fun pl hpl => ⟨?_, Or.inl (by rw [c0_60, if_pos (by omega)])⟩⟩
      · obtain ⟨u, q1, q2⟩ := f1 x hx
        exact ⟨u, q1, (we_I hw0 (by decide)).trans q2⟩
      · obtain ⟨v, q1, q2⟩ := (f5 pl hpl).1
        exact ⟨v, by omega, (we_I hw0 (by decide)).trans q2⟩
    · exact wd_pr_c2 (hd.2.2.2.2.1 p' hp') (fun _ _ _ q => q) (by omega) hz (hwep p' hp' e)
  · obtain ⟨k, k1, k2⟩ := hd.2.2.2.2.2
    exact ⟨k, k1, (c0_k (by decide)).trans k2⟩
theorem s_campaign {C D : zm_M} {G : wG} {B p : Nat} (hB : B < 2 ^ 29) (hB3 : 3 ≤ B) (h : wr C D) (hd : wd G B D) (hp : p < 2) : ∃ c A, c ≤ 60 ∧ zm_I D 546 5 = nI c ∧ gs_ab D p 7 = nI A ∧ A < 2 ^ 30 ∧ ws (B + 2) C D (fm_camp C (45 + 63 * p)) (gm_pp (gm_c0 D p A 8) c p (fun _ => true) 7).1 ∧ zm_I (fm_camp C (45 + 63 * p)) (45 + 63 * p) 2 = nI (gs_nb p A) := by
  obtain ⟨c, c1, c2, _⟩ := hd.2.2.1
  obtain ⟨ph, w, m, dl, ⟨k1, k2, k3, k4⟩, ⟨e1, e2, e3, e4⟩, _⟩ := hd.2.2.2.2.1 p hp
  obtain ⟨H, h1, h2, h3⟩ := wo_high (by omega) h hd e2 k2 7 (Nat.le_refl _)
  refine ⟨c, max w H, c1, c2, h3, by omega, ?_⟩
  obtain ⟨a, b⟩ := camp0 hB hB3 h hd hp e2 k2 h1 h2
  have e5 : zm_I (gm_c0 D p (max w H) 8) 546 5 = nI c := (c0_k (by decide)).trans c2
  obtain ⟨b1, ⟨b20, b21, b22, b23, b24⟩, b3⟩ := beg_at (C := C) (r := 45 + 63 * p) (hp := fs_high C 7)
  obtain ⟨s1, s2, _, s4, s5⟩ := sendP a b e5 c1 hp (sel := fun _ => true) (fun s hs => by rw [b23]; exact ⟨fun _ => ff_bit_0 s hs, fun _ => rfl⟩) 7 (Nat.le_refl _)
  have hrows : ∀ x, 108 + 63 * p ≤ x → (x ≠ 45 + 63 * p ∧ ∀ pl, pl < 8 → x ≠ 45 + 63 * p + 39 + 3 * pl) := fun x hx => ⟨by omega, fun pl hpl => by omega⟩
  refine ⟨⟨s1, ⟨G, s2⟩, we_trans (we_mono b1 (fun r hr => hrows r (by omega))) (we_mono s4 (fun r hr => by omega)), we_trans (we_mono c0_we (fun r hr => by omega)) (we_mono s5 (fun r hr => by omega))⟩, ?_⟩
  show zm_I (zm_it (fm_sp (45 + 63 * p)) 7 (fm_begin C (45 + 63 * p) (fs_high C 7))) (45 + 63 * p) 2 = _
  rw [we_I s4 (by omega), (a.2.2.1 p hp).1.2.2.1, c0_4, if_pos rfl]
theorem sel_bit : ∀ m, m < 128 → ∀ s, s < 7 → ((nI m >>> (nI s &&& 31)) &&& nI 1 = 0 ↔ ¬ ff_bit (nI m) s = nI 1) := by decide +kernel
theorem s_resend1 {C D : zm_M} {G : wG} {B p : Nat} (h : wr C D) (hd : wd G B D) (hp : p < 2) : ∃ c, c ≤ 60 ∧ zm_I D 546 5 = nI c ∧ ws B C D (fm_sendP C (45 + 63 * p)) (gm_pp (gm_t D 0) c p (gs_sel D p) 7).1 ∧ zm_I (fm_sendP C (45 + 63 * p)) 171 0 - zm_I C 171 0 = nI (gm_pp (gm_t D 0) c p (gs_sel D p) 7).2.2 := by
  obtain ⟨c, c1, c2, _⟩ := hd.2.2.1
  obtain ⟨ph, w, m, dl, ⟨k1, k2, k3, k4⟩, ⟨e1, e2, e3, e4⟩, _⟩ := hd.2.2.2.2.1 p hp
  refine ⟨c, c1, c2, ?_⟩
  have e5 : zm_I (gm_t D 0) 546 5 = nI c := (zm_In (Or.inr (by decide))).trans c2
  obtain ⟨s1, s2, ⟨s31, s32, s33⟩, s4, s5⟩ := sendP (wr_n h wn_t) (wd_n hd (Nat.le_refl _) wn_t) e5 c1 hp (sel := gs_sel D p) (fun s hs => by
    rw [(h.2.2.1 p hp).1.2.2.2.1, e3]
    unfold gs_sel
    rw [e3, decide_eq_true_eq]
    exact sel_bit m k3 s hs) 7 (Nat.le_refl _)
  refine ⟨⟨s1, ⟨G, s2⟩, we_mono s4 (fun r hr => by omega), we_trans (we_wI (by omega)) (we_mono s5 (fun r hr => by omega))⟩, ?_⟩
  rw [wo_letters h, c2, show zm_I (fm_sendP C (45 + 63 * p)) 171 0 = _ from wo_letters s1, s31, s33, nI_subN (by omega), Nat.add_sub_cancel_left]
  rfl
