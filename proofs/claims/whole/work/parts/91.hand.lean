/-! Class against model (pure): a letter in hand; prepare and accept come -/
def wr_in (C : zm_M) (q : Nat) (D : zm_M) : Prop := (∀ k, k < 6 → zm_I C q k = zm_I D 570 k) ∧ (zm_I D 570 0 = nI 1 → wr_sh C (q + 1) D 571 0) ∧ (zm_I D 570 0 = nI 2 → zm_I C q 6 = zm_I D 570 6 ∧ ∀ j, j < 8 → j < (gv D 570 6 + 2) / 3 → zm_I D 571 j = nI (wb (zm_J C q 7) j))
def wd_in (G : wG) (B : Nat) (D : zm_M) : Prop := ∃ k s p u, (k < 4 ∧ s < 7 ∧ p < 2 ∧ u ≤ B) ∧ (zm_I D 570 0 = nI k ∧ zm_I D 570 1 = nI s ∧ zm_I D 570 2 = nI p ∧ zm_I D 570 3 = nI u) ∧ (k = 1 → wd_sh G B D 571 0 s) ∧ (2 ≤ k → ∃ pl v z, pl < 8 ∧ G pl v = some z ∧ zm_I D 570 4 = nI pl ∧ zm_I D 570 5 = nI v ∧ (k = 2 → zm_I D 570 6 = nI z.1 ∧ ∀ j, j < (z.1 + 2) / 3 → zm_I D 571 j = nI (gs_shb z.2 z.1 s j)))
theorem dv2_0 {D : zm_M} {i x : Nat} (hx : x < 7) : zm_I (gm_dv2 D i 88) 570 x = zm_I D 551 (7 * i + x) := by
  unfold gm_dv2 gm_dv1
  rw [gm_upn (Or.inl (by decide)), gm_upI, if_pos ⟨rfl, by omega⟩, Nat.sub_zero]
theorem dv2_1 {D : zm_M} {i x : Nat} (hx : x < 88) : zm_I (gm_dv2 D i 88) 571 x = zm_I D 552 (88 * i + x) := by
  unfold gm_dv2
  rw [gm_upI, if_pos ⟨rfl, by omega⟩, Nat.sub_zero]
theorem wn_dv2 {D : zm_M} {i : Nat} : wn D (gm_dv2 D i 88) := wn_trans (wn_trans wn_tt (wn_up (by decide))) (wn_up (by decide))
theorem dv {C D : zm_M} {G : wG} {B i c : Nat} (h : wr C D) (hd : wd G B D) (hc : zm_I D 546 5 = nI (c + 1)) (h60 : c < 60) (hi : i ≤ c) : wr (fm_take C i c) (gm_dv D i c) ∧ wd G B (gm_dv D i c) ∧ zm_I (gm_dv D i c) 546 5 = nI c ∧ wr_in (fm_take C i c) (zm_P C 172 i) (gm_dv D i c) ∧ wd_in G B (gm_dv D i c) ∧ zm_P (fm_take C i c) 172 60 = zm_P C 172 i ∧ we (fun r => r < 546 ∨ r = 572) D (gm_dv D i c) := by
  have h2 := wr_n h (wn_dv2 (i := i))
  have hd2 := wd_n hd (Nat.le_refl _) (wn_dv2 (i := i))
  have hc2 : zm_I (gm_dv2 D i 88) 546 5 = nI (c + 1) := wn_dv2.2.1.trans hc
  obtain ⟨a, b⟩ := s_take h2 hd2 hc2 h60 hi
  have hw := rm_we (D := gm_dv2 D i 88) (i := i) (c := c)
  have g0 : ∀ x, x < 7 → zm_I (gm_dv D i c) 570 x = zm_I D 551 (7 * i + x) := fun x hx => (we_I hw (by decide)).trans (dv2_0 hx)
  have g1 : ∀ x, x < 88 → zm_I (gm_dv D i c) 571 x = zm_I D 552 (88 * i + x) := fun x hx => (we_I hw (by decide)).trans (dv2_1 hx)
  obtain ⟨hp, c', c1, c2, c3, bl⟩ := h.2.1
  have e : c' = c + 1 := (nI_eq (by omega) (by omega)).mp (c2.symm.trans hc)
  subst e
  obtain ⟨j2, k2, e2⟩ := hp.1 i (by omega)
  refine ⟨a, b, rm_5, ?_, ?_, ?_, we_trans (we_trans (we_trans (we_wI (by omega)) (we_up (by omega))) (we_up (by omega))) (we_mono hw (fun r hr => by omega))⟩
  · obtain ⟨q1, q2, q3⟩ := bl i (by omega)
    have hC := take_we (C := C) (i := i) (c := c)
    refine ⟨fun k hk => ?_, fun e => ?_, fun e => ?_⟩
    · rw [we_I hC (by omega), g0 k (by omega), q1 k hk]
    · rw [g0 0 (by decide)] at e
      exact wr_sh_c (q2 e) (fun pl _ => ⟨we_I hC (by omega), we_I hC (by omega), we_I hC (by omega), we_J hC (by omega)⟩) (fun x hx => by rw [Nat.zero_add]; exact g1 x hx)
    · rw [g0 0 (by decide)] at e
      obtain ⟨r1, r2⟩ := q3 e
      refine ⟨by rw [we_I hC (by omega), g0 6 (by decide), r1], fun j hj hj2 => ?_⟩
      have eg : gv (gm_dv D i c) 570 6 = gv D 551 (7 * i + 6) := by unfold gv; rw [g0 6 (by decide)]
      rw [eg] at hj2
      rw [g1 j (by omega), we_J hC (by omega)]
      exact r2 j hj hj2
  · obtain ⟨c'', d1, d2, d3⟩ := hd.2.2.1
    have e : c'' = c + 1 := (nI_eq (by omega) (by omega)).mp (d2.symm.trans hc)
    subst e
    obtain ⟨k, s, p, u, q1, ⟨q20, q21, q22, q23⟩, q3, q4⟩ := d3 i (by omega)
    have hz := wg_z hd.2.1
    refine ⟨k, s, p, u, q1, ⟨(g0 0 (by decide)).trans q20, (g0 1 (by decide)).trans q21, (g0 2 (by decide)).trans q22, (g0 3 (by decide)).trans q23⟩, fun e => wd_sh_c (q3 e) (fun _ _ _ q => q) (Nat.le_refl _) (fun x hx => by rw [Nat.zero_add]; exact g1 x hx) hz, fun e => ?_⟩
    obtain ⟨pl, v, z, r1, r2, r3, r4, r5⟩ := q4 e
    have := hz _ _ _ r2
    exact ⟨pl, v, z, r1, r2, (g0 4 (by decide)).trans r3, (g0 5 (by decide)).trans r4, fun e => ⟨(g0 6 (by decide)).trans (r5 e).1, fun j hj => (g1 j (by omega)).trans ((r5 e).2 j hj)⟩⟩
  · rw [take_P hi h60]
    unfold tk_s
    rw [if_pos rfl]
/-- who heeds on one side heeds on the other -/
theorem heeds {C D : zm_M} {G : wG} {B s : Nat} {bal : Int32} (h : wr C D) (hd : wd G B D) (hs : s < 7) : fs_heeds C (2 + 6 * s) bal = if zm_I D 548 s ≠ 0 ∨ zm_I D 549 s ≠ 0 ∨ bal < zm_I D 547 s then nI 0 else nI 1 := by
  obtain ⟨a1, a2, a3, _⟩ := h.1 s hs
  unfold fs_heeds
  rw [a1, a3]
  rcases wo_up s h hd hs with ⟨b1, b2⟩ | ⟨b1, b2⟩
  · rw [b1, b2, if_neg (by decide)]
    by_cases c : zm_I D 549 s = 0
    · rw [if_pos c]
      by_cases c2 : bal < zm_I D 547 s
      · rw [if_pos c2, if_pos (Or.inr (Or.inr c2))]
      · rw [if_neg c2, if_neg (fun z => z.elim (fun q => q (by decide)) (fun q => q.elim (fun q => q c) c2))]
    · rw [if_neg c, if_pos (Or.inr (Or.inl c))]
  · rw [b1, b2, if_pos (by decide), if_pos (Or.inl (by decide))]
/-- a station promises: on both sides -/
theorem promised {C D : zm_M} {G : wG} {B s u : Nat} (h : wr C D) (hd : wd G B D) (hs : s < 7) (hu : u ≤ B) : wr (zm_wI C (2 + 6 * s) 0 (nI u)) (zm_wI D 547 s (nI u)) ∧ wd G B (zm_wI D 547 s (nI u)) := by
  have hz := wg_z hd.2.1
  have hC : we (fun r => r ≠ 2 + 6 * s) C (zm_wI C (2 + 6 * s) 0 (nI u)) := we_wI (by omega)
  have hD : we (fun r => r ≠ 547) D (zm_wI D 547 s (nI u)) := we_wI (by omega)
  refine ⟨⟨fun s' hs' => ?_, wr_lt_c h.2.1 (we_mono hC (fun r hr => by omega)) (we_I hD (by decide)) (we_mono hD (fun r hr => by omega)), fun p hp => wr_pr_c hp (h.2.2.1 p hp) (we_mono hC (fun r hr => by omega)) (we_mono hD (fun r hr => by omega)), wr_rd_c h.2.2.2 (we_mono hC (fun r hr => by omega)) (we_I hD (by decide)) (fun x => we_I hD (by decide))⟩, gt_ok_c hd.1 (we_mono hD (fun r hr => by omega)), wg_ok_c hd.2.1 (Nat.le_refl _) (we_mono hD (fun r hr => by omega)), wd_lt_c hd.2.2.1 (fun _ _ _ q => q) (Nat.le_refl _) hz (we_I hD (by decide)) (we_mono hD (fun r hr => by omega)), fun s' hs' => ?_, fun p hp => wd_pr_c (hd.2.2.2.2.1 p hp) (fun _ _ _ q => q) (Nat.le_refl _) hz (we_mono hD (fun r hr => by omega)), ?_⟩
  · obtain ⟨a1, a2, a3, a4⟩ := h.1 s' hs'
    refine ⟨?_, ?_, ?_, wr_sh_c a4 (fun pl _ => ⟨we_I hC (by omega), we_I hC (by omega), we_I hC (by omega), we_J hC (by omega)⟩) (fun x _ => we_I hD (by decide))⟩
    · by_cases e : s' = s
      · subst e; rw [zm_Is, zm_Is]
      · rw [zm_In (Or.inl (by omega)), zm_In (Or.inr e), a1]
    · rw [zm_In (Or.inr (by decide)), we_I hD (by decide), a2]
    · rw [zm_In (Or.inr (by decide)), we_I hD (by decide), a3]
  · obtain ⟨⟨u', a1, a1'⟩, a2, a3, a4⟩ := hd.2.2.2.1 s' hs'
    refine ⟨?_, ?_, ?_, wd_sh_c a4 (fun _ _ _ q => q) (Nat.le_refl _) (fun x _ => we_I hD (by decide)) hz⟩
    · by_cases e : s' = s
      · subst e; exact ⟨u, hu, zm_Is⟩
      · exact ⟨u', a1, (zm_In (Or.inr e)).trans a1'⟩
    · rw [we_I hD (by decide)]; exact a2
    · rw [we_I hD (by decide)]; exact a3
  · obtain ⟨k, k1, k2⟩ := hd.2.2.2.2.2
    exact ⟨k, k1, (we_I hD (by decide)).trans k2⟩
/-- a promise's letter: on both sides -/
theorem post1 {C D : zm_M} {G : wG} {B c s p u : Nat} {s' p' b' : Int32} (h : wr C D) (hd : wd G B D) (hc : zm_I D 546 5 = nI c) (h60 : c < 60) (hs : s < 7) (hp : p < 2) (hu : u ≤ B) (es : s' = nI s) (ep : p' = nI p) (eb : b' = nI u) : wr (fm_copySh (fm_post C (nI 1) s' p' b') (zm_P C 172 c + 1) (2 + 6 * s + 1)) (gm_up (gm_l4 D c (nI 1) (nI s) (nI p) (nI u)) 552 (88 * c) 88 (fun x => zm_I D 550 (88 * s + x))) ∧ wd G B (gm_up (gm_l4 D c (nI 1) (nI s) (nI p) (nI u)) 552 (88 * c) 88 (fun x => zm_I D 550 (88 * s + x))) ∧ we (fun x => x < 171 ∨ 539 ≤ x) C (fm_copySh (fm_post C (nI 1) s' p' b') (zm_P C 172 c + 1) (2 + 6 * s + 1)) ∧ zm_I (fm_copySh (fm_post C (nI 1) s' p' b') (zm_P C 172 c + 1) (2 + 6 * s + 1)) 171 0 = nI (c + 1) := by
  subst es ep eb
  have hz := wg_z hd.2.1
  have ec := wk_c h hc (by omega)
  unfold fm_post
  rw [if_pos (by omega), ec]
  obtain ⟨j2, k2, e2⟩ := h.2.1.1.1 c (by omega)
  have hC1 : we (fun r => r ≠ 171 ∧ r ≠ zm_P C 172 c) C (fm_addr (zm_wI C 171 0 (nI (c + 1))) (zm_P C 172 c) (nI 1) (nI s) (nI p) (nI u)) := we_trans (we_wI (by omega)) (we_mono addr_we (fun r hr => hr.2))
  obtain ⟨q0, q1, q2, q3, q4, q5⟩ := addr_at (M := zm_wI C 171 0 (nI (c + 1))) (r := zm_P C 172 c) (a := nI 1) (b := nI s) (c := nI p) (d := nI u)
  have w171 : zm_I (fm_addr (zm_wI C 171 0 (nI (c + 1))) (zm_P C 172 c) (nI 1) (nI s) (nI p) (nI u)) 171 0 = nI (c + 1) := (we_I addr_we (show 171 ≠ zm_P C 172 c by omega)).trans zm_Is
  generalize fm_addr (zm_wI C 171 0 (nI (c + 1))) (zm_P C 172 c) (nI 1) (nI s) (nI p) (nI u) = N at hC1 q0 q1 q2 q3 q4 q5 w171
  obtain ⟨p1, p2⟩ := cp_at (M := N) (r := zm_P C 172 c + 1) (q := 2 + 6 * s + 1) (by omega)
  have hC : we (fun r => r ≠ 171 ∧ (r < zm_P C 172 c ∨ zm_P C 172 c + 6 ≤ r)) C (fm_copySh N (zm_P C 172 c + 1) (2 + 6 * s + 1)) := we_trans (we_mono hC1 (fun r hr => by omega)) (we_mono p1 (fun r hr => by omega))
  obtain ⟨m0, m1, m2, m3, m4, m5⟩ := l4_at (D := D) (c := c) (k := nI 1) (s := nI s) (p := nI p) (bl := nI u)
  have hw0 := l4_we (D := D) (c := c) (k := nI 1) (s := nI s) (p := nI p) (bl := nI u)
  have hw : we (fun r => r ≠ 546 ∧ r ≠ 551 ∧ r ≠ 552) D (gm_up (gm_l4 D c (nI 1) (nI s) (nI p) (nI u)) 552 (88 * c) 88 (fun x => zm_I D 550 (88 * s + x))) := we_trans (we_mono hw0 (fun r hr => by omega)) (we_up (by omega))
  have hh : ∀ x, zm_I (gm_up (gm_l4 D c (nI 1) (nI s) (nI p) (nI u)) 552 (88 * c) 88 (fun x => zm_I D 550 (88 * s + x))) 551 x = zm_I (gm_l4 D c (nI 1) (nI s) (nI p) (nI u)) 551 x := fun x => gm_upn (Or.inl (by decide))
  have ht : ∀ x, x < 88 → zm_I (gm_up (gm_l4 D c (nI 1) (nI s) (nI p) (nI u)) 552 (88 * c) 88 (fun x => zm_I D 550 (88 * s + x))) 552 (88 * c + x) = zm_I D 550 (88 * s + x) := fun x hx => by rw [gm_upI, if_pos ⟨rfl, by omega⟩, Nat.add_sub_cancel_left]
  have q171 : zm_I (fm_copySh N (zm_P C 172 c + 1) (2 + 6 * s + 1)) 171 0 = nI (c + 1) := (we_I p1 (by omega)).trans w171
  have n1 : wr_le (fm_copySh N (zm_P C 172 c + 1) (2 + 6 * s + 1)) (zm_P C 172 c) (gm_up (gm_l4 D c (nI 1) (nI s) (nI p) (nI u)) 552 (88 * c) 88 (fun x => zm_I D 550 (88 * s + x))) c := by
    refine ⟨fun x hx => ?_, fun e => ?_, fun e => ?_⟩
    · rw [we_I p1 (by omega), hh]
      match x, hx with
      | 0, _ => rw [q0, m0]
      | 1, _ => rw [q1, m1]
      | 2, _ => rw [q2, m2]
      | 3, _ => rw [q3, m3]
      | 4, _ => rw [q4, m4]
      | 5, _ => rw [q5, m5]
      | x + 6, hx => omega
    · refine wr_sh_c (h.1 s hs).2.2.2 (fun pl hpl => ?_) ht
      obtain ⟨g1, g2, g3, g4⟩ := p2 pl hpl
      rw [g1, g2, g3, g4, we_I hC1 (by omega), we_I hC1 (by omega), we_I hC1 (by omega), we_J hC1 (by omega)]
      exact ⟨rfl, rfl, rfl, rfl⟩
    · rw [hh, m0] at e; exact absurd e (by decide)
  obtain ⟨a, b⟩ := app h hd hc h60 hC q171 hw ((gm_upn (Or.inl (by decide))).trans l4_5) ((gm_upn (Or.inl (by decide))).trans (l4_k (by decide))) (fun x hx => (hh x).trans (l4_o hx)) (fun x hx => (gm_upn (by omega)).trans (we_I hw0 (by decide))) n1 ⟨1, s, p, u, ⟨by decide, hs, hp, hu⟩, ⟨(hh _).trans m0, (hh _).trans m1, (hh _).trans m2, (hh _).trans m3⟩, fun _ => wd_sh_c (hd.2.2.2.1 s hs).2.2.2 (fun _ _ _ q => q) (Nat.le_refl _) ht hz, fun e => absurd e (by decide)⟩
  exact ⟨a, b, we_mono hC (fun r hr => by omega), q171⟩
/-- prepare comes -/
theorem come0 {C D : zm_M} {G : wG} {B c q s p u : Nat} (h : wr C D) (hd : wd G B D) (hc : zm_I D 546 5 = nI c) (h60 : c < 60) (hs : s < 7) (hp : p < 2) (hu : u ≤ B) (q1 : zm_I C q 1 = nI s) (q2 : zm_I C q 2 = nI p) (q3 : zm_I C q 3 = nI u) (hq : q ≠ 2 + 6 * s) (hN : ¬ (zm_I D 548 s ≠ 0 ∨ zm_I D 549 s ≠ 0 ∨ nI u < zm_I D 547 s)) : wr (fm_bp C q s) (gm_cp D s p c (nI u) 88) ∧ wd G B (gm_cp D s p c (nI u) 88) ∧ we (fun x => 546 ≤ x) C (fm_bp C q s) ∧ we (fun r => r < 546 ∨ r = 572) D (gm_cp D s p c (nI u) 88) ∧ zm_I (fm_bp C q s) 171 0 - nI c = nI 1 := by
  have ec := wk_c h hc (by omega)
  have eB : fm_bp C q s = fm_copySh (fm_post (zm_wI C (2 + 6 * s) 0 (nI u)) (nI 1) (nI s) (nI p) (nI u)) (zm_P C 172 c + 1) (2 + 6 * s + 1) := by
    unfold fm_bp
    rw [q3, heeds h hd hs, if_neg hN, if_neg (by decide), ec, if_pos h60, zm_In (Or.inl hq), zm_In (Or.inl hq), zm_In (Or.inl hq), q1, q2, q3]
  obtain ⟨a, b⟩ := promised h hd hs hu
  have hc2 : zm_I (zm_wI D 547 s (nI u)) 546 5 = nI c := (zm_In (Or.inl (by decide))).trans hc
  obtain ⟨x1, x2, x3, x4⟩ := post1 (s := s) (p := p) (u := u) a b hc2 h60 hs hp hu rfl rfl rfl
  have eP : zm_P (zm_wI C (2 + 6 * s) 0 (nI u)) 172 c = zm_P C 172 c := rfl
  rw [eP] at x1 x3 x4
  have eD : gm_up (gm_l4 (zm_wI D 547 s (nI u)) c (nI 1) (nI s) (nI p) (nI u)) 552 (88 * c) 88 (fun x => zm_I (zm_wI D 547 s (nI u)) 550 (88 * s + x)) = gm_cp D s p c (nI u) 88 := by
    unfold gm_cp
    congr 1
  rw [eD] at x1 x2
  rw [eB]
  refine ⟨x1, x2, we_trans (we_wI (by omega)) (we_mono x3 (fun r hr => by omega)), we_trans (we_trans (we_wI (by omega)) (we_mono l4_we (fun r hr => by omega))) (we_up (by omega)), ?_⟩
  rw [x4, nI_subN (by omega), Nat.add_sub_cancel_left]
