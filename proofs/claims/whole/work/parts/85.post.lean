/-! Class against model (pure): letters are added; campaign -/
theorem app {C C' D D' : zm_M} {G : wG} {B c : Nat} (h : wr C D) (hd : wd G B D) (hc : zm_I D 546 5 = nI c) (h60 : c < 60) (hC : we (fun r => r ≠ 171 ∧ (r < zm_P C 172 c ∨ zm_P C 172 c + 6 ≤ r)) C C') (h171 : zm_I C' 171 0 = nI (c + 1)) (hD : we (fun r => r ≠ 546 ∧ r ≠ 551 ∧ r ≠ 552) D D') (h5 : zm_I D' 546 5 = nI (c + 1)) (h25 : zm_I D' 546 25 = zm_I D 546 25) (hD1 : ∀ x, x < 7 * c → zm_I D' 551 x = zm_I D 551 x) (hD2 : ∀ x, x < 88 * c → zm_I D' 552 x = zm_I D 552 x) (hn1 : wr_le C' (zm_P C 172 c) D' c) (hn2 : wd_le G B D' c) : wr C' D' ∧ wd G B D' := by
  have hz := wg_z hd.2.1
  obtain ⟨hp, c', c1, c2, c3, b⟩ := h.2.1
  have e : c' = c := (nI_eq (by omega) (by omega)).mp (c2.symm.trans hc)
  subst e
  obtain ⟨j2, k2, e2⟩ := hp.1 c' (by omega)
  refine ⟨⟨fun s hs => wr_st_c (h.1 s hs) (we_mono hC (fun r hr => by omega)) (we_mono hD (fun r hr => by omega)), ⟨wr_pm_c hp (fun k => we_P hC (by omega)), c' + 1, by omega, h5, h171, fun k hk => ?_⟩, fun p hp => wr_pr_c hp (h.2.2.1 p hp) (we_mono hC (fun r hr => by omega)) (we_mono hD (fun r hr => by omega)), wr_rd_c h.2.2.2 (we_mono hC (fun r hr => by omega)) h25 (fun x => we_I hD (by decide))⟩, gt_ok_c hd.1 (we_mono hD (fun r hr => by omega)), wg_ok_c hd.2.1 (Nat.le_refl _) (we_mono hD (fun r hr => by omega)), ?_, fun s hs => wd_st_c (hd.2.2.2.1 s hs) (fun _ _ _ q => q) (Nat.le_refl _) hz (we_mono hD (fun r hr => by omega)), fun p hp => wd_pr_c (hd.2.2.2.2.1 p hp) (fun _ _ _ q => q) (Nat.le_refl _) hz (we_mono hD (fun r hr => by omega)), ?_⟩
  · rw [we_P hC (by omega)]
    by_cases ek : k = c'
    · subst ek; exact hn1
    · obtain ⟨j3, k3, e3⟩ := hp.1 k (by omega)
      have hne3 : j3 ≠ j2 := fun z => by
        have := hp.2 k (by omega) c' (by omega) (by rw [e3, e2, z])
        omega
      exact wr_le_c (b k (by omega)) (we_mono hC (fun r hr => by omega)) (fun x hx => hD1 _ (by omega)) (fun x hx => hD2 _ (by omega))
  · obtain ⟨c'', d1, d2, d3⟩ := hd.2.2.1
    have e : c'' = c' := (nI_eq (by omega) (by omega)).mp (d2.symm.trans hc)
    subst e
    refine ⟨c'' + 1, by omega, h5, fun k hk => ?_⟩
    by_cases ek : k = c''
    · subst ek; exact hn2
    · exact wd_le_c (d3 k (by omega)) (fun _ _ _ q => q) (Nat.le_refl _) hz (fun x hx => hD1 _ (by omega)) (fun x hx => hD2 _ (by omega))
  · obtain ⟨k, k1, k2⟩ := hd.2.2.2.2.2
    exact ⟨k, k1, h25.trans k2⟩
theorem wk_c {C D : zm_M} {c : Nat} (h : wr C D) (hc : zm_I D 546 5 = nI c) (h60 : c ≤ 60) : rk_c C = c := by
  unfold rk_c
  rw [wo_letters h, hc, nI_clamp (by omega)]
theorem addr_we {M : zm_M} {r : Nat} {a b c d : Int32} : we (fun x => x ≠ r) M (fm_addr M r a b c d) := we_trans (we_trans (we_trans (we_trans (we_trans (we_wI (by omega)) (we_wI (by omega))) (we_wI (by omega))) (we_wI (by omega))) (we_wI (by omega))) (we_wI (by omega))
theorem addr_at {M : zm_M} {r : Nat} {a b c d : Int32} : zm_I (fm_addr M r a b c d) r 0 = a ∧ zm_I (fm_addr M r a b c d) r 1 = b ∧ zm_I (fm_addr M r a b c d) r 2 = c ∧ zm_I (fm_addr M r a b c d) r 3 = d ∧ zm_I (fm_addr M r a b c d) r 4 = -1 ∧ zm_I (fm_addr M r a b c d) r 5 = -1 := by
  unfold fm_addr
  refine ⟨?_, ?_, ?_, ?_, ?_, zm_Is⟩
  · rw [zm_In (Or.inr (by decide)), zm_In (Or.inr (by decide)), zm_In (Or.inr (by decide)), zm_In (Or.inr (by decide)), zm_In (Or.inr (by decide)), zm_Is]
  · rw [zm_In (Or.inr (by decide)), zm_In (Or.inr (by decide)), zm_In (Or.inr (by decide)), zm_In (Or.inr (by decide)), zm_Is]
  · rw [zm_In (Or.inr (by decide)), zm_In (Or.inr (by decide)), zm_In (Or.inr (by decide)), zm_Is]
  · rw [zm_In (Or.inr (by decide)), zm_In (Or.inr (by decide)), zm_Is]
  · rw [zm_In (Or.inr (by decide)), zm_Is]
theorem l4_we {D : zm_M} {c : Nat} {k s p bl : Int32} : we (fun r => r ≠ 546 ∧ r ≠ 551) D (gm_l4 D c k s p bl) := we_trans (we_trans (we_trans (we_trans (we_trans (we_trans (we_wI (by omega)) (we_wI (by omega))) (we_wI (by omega))) (we_wI (by omega))) (we_wI (by omega))) (we_wI (by omega))) (we_wI (by omega))
theorem l4_5 {D : zm_M} {c : Nat} {k s p bl : Int32} : zm_I (gm_l4 D c k s p bl) 546 5 = nI (c + 1) := zm_Is
theorem l4_k {D : zm_M} {c x : Nat} {k s p bl : Int32} (hx : x ≠ 5) : zm_I (gm_l4 D c k s p bl) 546 x = zm_I D 546 x := by
  unfold gm_l4
  rw [zm_In (Or.inr hx), zm_In (Or.inl (by decide)), zm_In (Or.inl (by decide)), zm_In (Or.inl (by decide)), zm_In (Or.inl (by decide)), zm_In (Or.inl (by decide)), zm_In (Or.inl (by decide))]
theorem l4_o {D : zm_M} {c x : Nat} {k s p bl : Int32} (hx : x < 7 * c) : zm_I (gm_l4 D c k s p bl) 551 x = zm_I D 551 x := by
  unfold gm_l4
  rw [zm_In (Or.inl (by decide)), zm_In (Or.inr (by omega)), zm_In (Or.inr (by omega)), zm_In (Or.inr (by omega)), zm_In (Or.inr (by omega)), zm_In (Or.inr (by omega)), zm_In (Or.inr (by omega))]
theorem l4_at {D : zm_M} {c : Nat} {k s p bl : Int32} : zm_I (gm_l4 D c k s p bl) 551 (7 * c + 0) = k ∧ zm_I (gm_l4 D c k s p bl) 551 (7 * c + 1) = s ∧ zm_I (gm_l4 D c k s p bl) 551 (7 * c + 2) = p ∧ zm_I (gm_l4 D c k s p bl) 551 (7 * c + 3) = bl ∧ zm_I (gm_l4 D c k s p bl) 551 (7 * c + 4) = -1 ∧ zm_I (gm_l4 D c k s p bl) 551 (7 * c + 5) = -1 := by
  unfold gm_l4
  refine ⟨?_, ?_, ?_, ?_, ?_, ?_⟩
  · rw [zm_In (Or.inl (by decide)), zm_In (Or.inr (by omega)), zm_In (Or.inr (by omega)), zm_In (Or.inr (by omega)), zm_In (Or.inr (by omega)), zm_In (Or.inr (by omega))]; exact zm_Is
  · rw [zm_In (Or.inl (by decide)), zm_In (Or.inr (by omega)), zm_In (Or.inr (by omega)), zm_In (Or.inr (by omega)), zm_In (Or.inr (by omega)), zm_Is]
  · rw [zm_In (Or.inl (by decide)), zm_In (Or.inr (by omega)), zm_In (Or.inr (by omega)), zm_In (Or.inr (by omega)), zm_Is]
  · rw [zm_In (Or.inl (by decide)), zm_In (Or.inr (by omega)), zm_In (Or.inr (by omega)), zm_Is]
  · rw [zm_In (Or.inl (by decide)), zm_In (Or.inr (by omega)), zm_Is]
  · rw [zm_In (Or.inl (by decide)), zm_Is]
/-- a letter of kind 0, s, p, bl on both sides -/
theorem post0 {C D : zm_M} {G : wG} {B c s p u : Nat} {k' s' p' b' : Int32} (h : wr C D) (hd : wd G B D) (hc : zm_I D 546 5 = nI c) (h60 : c < 60) (hs : s < 7) (hp : p < 2) (hu : u ≤ B) (ek : k' = nI 0) (es : s' = nI s) (ep : p' = nI p) (eb : b' = nI u) : wr (fm_post C k' s' p' b') (gm_l4 D c (nI 0) (nI s) (nI p) (nI u)) ∧ wd G B (gm_l4 D c (nI 0) (nI s) (nI p) (nI u)) ∧ we (fun x => x < 171 ∨ 539 ≤ x) C (fm_post C k' s' p' b') := by
  subst ek es ep eb
  have ec := wk_c h hc (by omega)
  unfold fm_post
  rw [if_pos (by omega), ec]
  obtain ⟨j2, k2, e2⟩ := h.2.1.1.1 c (by omega)
  have hC : we (fun r => r ≠ 171 ∧ r ≠ zm_P C 172 c) C (fm_addr (zm_wI C 171 0 (nI (c + 1))) (zm_P C 172 c) (nI 0) (nI s) (nI p) (nI u)) := we_trans (we_wI (by omega)) (we_mono addr_we (fun r hr => hr.2))
  obtain ⟨q0, q1, q2, q3, q4, q5⟩ := addr_at (M := zm_wI C 171 0 (nI (c + 1))) (r := zm_P C 172 c) (a := nI 0) (b := nI s) (c := nI p) (d := nI u)
  obtain ⟨m0, m1, m2, m3, m4, m5⟩ := l4_at (D := D) (c := c) (k := nI 0) (s := nI s) (p := nI p) (bl := nI u)
  have hw := l4_we (D := D) (c := c) (k := nI 0) (s := nI s) (p := nI p) (bl := nI u)
  have n1 : wr_le (fm_addr (zm_wI C 171 0 (nI (c + 1))) (zm_P C 172 c) (nI 0) (nI s) (nI p) (nI u)) (zm_P C 172 c) (gm_l4 D c (nI 0) (nI s) (nI p) (nI u)) c := by
    refine ⟨fun x hx => ?_, fun e => ?_, fun e => ?_⟩
    · match x, hx with
      | 0, _ => rw [q0, m0]
      | 1, _ => rw [q1, m1]
      | 2, _ => rw [q2, m2]
      | 3, _ => rw [q3, m3]
      | 4, _ => rw [q4, m4]
      | 5, _ => rw [q5, m5]
      | x + 6, hx => omega
    · rw [m0] at e; exact absurd e (by decide)
    · rw [m0] at e; exact absurd e (by decide)
  obtain ⟨a, b⟩ := app h hd hc h60 (we_mono hC (fun r hr => by omega)) ((we_I addr_we (show 171 ≠ zm_P C 172 c by omega)).trans zm_Is) (we_mono hw (fun r hr => by omega)) l4_5 (l4_k (by decide)) (fun x hx => l4_o hx) (fun x hx => we_I hw (by decide)) n1 ⟨0, s, p, u, ⟨by decide, hs, hp, hu⟩, ⟨m0, m1, m2, m3⟩, fun e => absurd e (by decide), fun e => absurd e (by decide)⟩
  exact ⟨a, b, we_mono hC (fun r hr => by omega)⟩
theorem sendP {C D : zm_M} {G : wG} {B c p : Nat} {sel : Nat → Bool} (h : wr C D) (hd : wd G B D) (hc : zm_I D 546 5 = nI c) (h60 : c ≤ 60) (hp : p < 2) (hsel : ∀ s, s < 7 → (sel s = true ↔ ¬ ff_bit (zm_I C (45 + 63 * p) 3) s = nI 1)) : ∀ d, d ≤ 7 → wr (zm_it (fm_sp (45 + 63 * p)) d C) (gm_pp D c p sel d).1 ∧ wd G B (gm_pp D c p sel d).1 ∧ (zm_I (gm_pp D c p sel d).1 546 5 = nI (gm_pp D c p sel d).2.1 ∧ (gm_pp D c p sel d).2.1 ≤ 60 ∧ (gm_pp D c p sel d).2.1 = c + (gm_pp D c p sel d).2.2) ∧ we (fun x => x < 171 ∨ 539 ≤ x) C (zm_it (fm_sp (45 + 63 * p)) d C) ∧ we (fun r => r ≠ 546 ∧ r ≠ 551) D (gm_pp D c p sel d).1 := by
  intro d
  induction d with
  | zero => exact fun _ => ⟨h, hd, ⟨hc, h60, rfl⟩, we_refl, we_refl⟩
  | succ d ih =>
    intro hd7
    obtain ⟨i1, i2, ⟨i3, i4, i5⟩, i6, i7⟩ := ih (by omega)
    obtain ⟨a0, a1, a2, a3, a4⟩ := (h.2.2.1 p hp).1
    obtain ⟨ph, w, m, dl, ⟨k1, k2, k3, k4⟩, ⟨e1, e2, e3, e4⟩, _⟩ := hd.2.2.2.2.1 p hp
    have f3 : zm_I (zm_it (fm_sp (45 + 63 * p)) d C) (45 + 63 * p) 3 = zm_I C (45 + 63 * p) 3 := we_I i6 (by omega)
    have f0 : zm_I (zm_it (fm_sp (45 + 63 * p)) d C) (45 + 63 * p) 0 = nI p := (we_I i6 (by omega)).trans a0
    have f2 : zm_I (zm_it (fm_sp (45 + 63 * p)) d C) (45 + 63 * p) 2 = nI w := (we_I i6 (by omega)).trans (a2.trans e2)
    show wr (fm_sp (45 + 63 * p) d (zm_it (fm_sp (45 + 63 * p)) d C)) (if sel d = true ∧ (gm_pp D c p sel d).2.1 < 60 then (gm_l4 (gm_pp D c p sel d).1 (gm_pp D c p sel d).2.1 (nI 0) (nI d) (nI p) (zm_I D 554 p), (gm_pp D c p sel d).2.1 + 1, (gm_pp D c p sel d).2.2 + 1) else gm_pp D c p sel d).1 ∧ wd G B (if sel d = true ∧ (gm_pp D c p sel d).2.1 < 60 then (gm_l4 (gm_pp D c p sel d).1 (gm_pp D c p sel d).2.1 (nI 0) (nI d) (nI p) (zm_I D 554 p), (gm_pp D c p sel d).2.1 + 1, (gm_pp D c p sel d).2.2 + 1) else gm_pp D c p sel d).1 ∧ (zm_I (if sel d = true ∧ (gm_pp D c p sel d).2.1 < 60 then (gm_l4 (gm_pp D c p sel d).1 (gm_pp D c p sel d).2.1 (nI 0) (nI d) (nI p) (zm_I D 554 p), (gm_pp D c p sel d).2.1 + 1, (gm_pp D c p sel d).2.2 + 1) else gm_pp D c p sel d).1 546 5 = nI (if sel d = true ∧ (gm_pp D c p sel d).2.1 < 60 then (gm_l4 (gm_pp D c p sel d).1 (gm_pp D c p sel d).2.1 (nI 0) (nI d) (nI p) (zm_I D 554 p), (gm_pp D c p sel d).2.1 + 1, (gm_pp D c p sel d).2.2 + 1) else gm_pp D c p sel d).2.1 ∧ (if sel d = true ∧ (gm_pp D c p sel d).2.1 < 60 then (gm_l4 (gm_pp D c p sel d).1 (gm_pp D c p sel d).2.1 (nI 0) (nI d) (nI p) (zm_I D 554 p), (gm_pp D c p sel d).2.1 + 1, (gm_pp D c p sel d).2.2 + 1) else gm_pp D c p sel d).2.1 ≤ 60 ∧ (if sel d = true ∧ (gm_pp D c p sel d).2.1 < 60 then (gm_l4 (gm_pp D c p sel d).1 (gm_pp D c p sel d).2.1 (nI 0) (nI d) (nI p) (zm_I D 554 p), (gm_pp D c p sel d).2.1 + 1, (gm_pp D c p sel d).2.2 + 1) else gm_pp D c p sel d).2.1 = c + (if sel d = true ∧ (gm_pp D c p sel d).2.1 < 60 then (gm_l4 (gm_pp D c p sel d).1 (gm_pp D c p sel d).2.1 (nI 0) (nI d) (nI p) (zm_I D 554 p), (gm_pp D c p sel d).2.1 + 1, (gm_pp D c p sel d).2.2 + 1) else gm_pp D c p sel d).2.2) ∧ we (fun x => x < 171 ∨ 539 ≤ x) C (fm_sp (45 + 63 * p) d (zm_it (fm_sp (45 + 63 * p)) d C)) ∧ we (fun r => r ≠ 546 ∧ r ≠ 551) D (if sel d = true ∧ (gm_pp D c p sel d).2.1 < 60 then (gm_l4 (gm_pp D c p sel d).1 (gm_pp D c p sel d).2.1 (nI 0) (nI d) (nI p) (zm_I D 554 p), (gm_pp D c p sel d).2.1 + 1, (gm_pp D c p sel d).2.2 + 1) else gm_pp D c p sel d).1
    generalize gm_pp D c p sel d = T at i1 i2 i3 i4 i5 i7
    generalize zm_it (fm_sp (45 + 63 * p)) d C = N at i1 i6 f3 f0 f2
    obtain ⟨T1, T2, T3⟩ := T
    dsimp only at i1 i2 i3 i4 i5 i7 ⊢
    unfold fm_sp
    rw [f3]
    by_cases cs : sel d = true
    · rw [if_neg ((hsel d (by omega)).mp cs)]
      by_cases c60 : T2 < 60
      · rw [if_pos ⟨cs, c60⟩, e2]
        obtain ⟨b1, b2, b3⟩ := post0 i1 i2 i3 c60 (show d < 7 by omega) hp k2 (k' := nI 0) rfl rfl f0 f2
        exact ⟨b1, b2, ⟨l4_5, by show T2 + 1 ≤ 60; omega, by show T2 + 1 = c + (T3 + 1); omega⟩, we_trans i6 b3, we_trans i7 l4_we⟩
      · rw [if_neg (fun z => c60 z.2)]
        have eN : fm_post N (nI 0) (nI d) (zm_I N (45 + 63 * p) 0) (zm_I N (45 + 63 * p) 2) = N := by
          unfold fm_post
          rw [if_neg (by rw [wk_c i1 i3 i4]; exact c60)]
        rw [eN]
        exact ⟨i1, i2, ⟨i3, i4, i5⟩, i6, i7⟩
    · have hb : ff_bit (zm_I C (45 + 63 * p) 3) d = nI 1 := Classical.byContradiction (fun z => cs ((hsel d (by omega)).mpr z))
      rw [if_pos hb, if_neg (fun z : sel d = true ∧ T2 < 60 => cs z.1)]
      exact ⟨i1, i2, ⟨i3, i4, i5⟩, i6, i7⟩
/-! campaign -/
theorem wo_high {C D : zm_M} {G : wG} {B p w : Nat} (hB : B < 2 ^ 30) (h : wr C D) (hd : wd G B D) (hw : zm_I D 554 p = nI w) (hwB : w ≤ B) : ∀ d, d ≤ 7 → ∃ H, H ≤ B ∧ fs_high C d = nI H ∧ gs_ab D p d = nI (max w H)
  | 0, _ => ⟨0, by omega, rfl, by show zm_I D 554 p = _; rw [hw, Nat.max_zero]⟩
  | d + 1, hd7 => by
    obtain ⟨H, h1, h2, h3⟩ := wo_high hB h hd hw hwB d (by omega)
    obtain ⟨u, u1, u2⟩ := (hd.2.2.2.1 d (by omega)).1
    refine ⟨max H u, Nat.max_le.mpr ⟨h1, u1⟩, ?_, ?_⟩
    · show ff_max (fs_high C d) (zm_I C (2 + 6 * d) 0) = _
      rw [h2, (h.1 d (by omega)).1, u2]
      unfold ff_max
      by_cases c : H < u
      · rw [if_pos (nI_lt c (by omega)), Nat.max_eq_right (by omega)]
      · rw [if_neg (nI_nlt (by omega) (by omega)), Nat.max_eq_left (by omega)]
    · show (if zm_I D 547 d ≤ gs_ab D p d then gs_ab D p d else zm_I D 547 d) = _
      rw [h3, u2]
      have hm : max w H < 2 ^ 31 := by omega
      by_cases c : u ≤ max w H
      · rw [if_pos (nI_le c hm), show max w (max H u) = max w H by omega]
      · rw [if_neg (nI_ge (by omega) (by omega)), show max w (max H u) = u by omega]
theorem wo_ball {p w H : Nat} (hp : p < 2) (hw : w < 2 ^ 30) (hH : H < 2 ^ 30) : nI 2 * ff_max (nI 1) ((ff_max (nI w) (nI H) - nI p + nI 2) / nI 2) + nI p = nI (gs_nb p (max w H)) := by
  have e1 : ff_max (nI w) (nI H) = nI (max w H) := by
    unfold ff_max
    by_cases c : w < H
    · rw [if_pos (nI_lt c (by omega)), Nat.max_eq_right (by omega)]
    · rw [if_neg (nI_nlt (by omega) (by omega)), Nat.max_eq_left (by omega)]
  have hA : max w H < 2 ^ 30 := by omega
  rw [e1]
  generalize max w H = A at hA
  have e2 : nI A - nI p + nI 2 = nI (A + 2 - p) := by
    rw [show nI A - nI p + nI 2 = nI A + nI 2 - nI p by
      rw [Int32.sub_eq_add_neg, Int32.sub_eq_add_neg, Int32.add_assoc, Int32.add_comm (-nI p), ← Int32.add_assoc], nI_add, nI_subN (by omega)]
  rw [e2, pk_div (by omega) (by decide) (by decide)]
  have e3 : ff_max (nI 1) (nI ((A + 2 - p) / 2)) = nI (max 1 ((A + 2 - p) / 2)) := by
    unfold ff_max
    by_cases c : 1 < (A + 2 - p) / 2
    · rw [if_pos (nI_lt c (by omega)), Nat.max_eq_right (by omega)]
    · rw [if_neg (nI_nlt (by omega) (by omega)), Nat.max_eq_left (by omega)]
  rw [e3, nI_mul, nI_add]
  congr 1
  unfold gs_nb gs_K
  by_cases c : A < 2 + p
  · rw [if_pos c]; omega
  · rw [if_neg c]; omega
theorem nb_lt {p A : Nat} (hp : p < 2) : A < gs_nb p A ∧ gs_nb p A % 2 = p ∧ 2 ≤ gs_nb p A ∧ gs_nb p A ≤ max 3 (A + 2) := by
  unfold gs_nb gs_K
  by_cases c : A < 2 + p
  · rw [if_pos c]; omega
  · rw [if_neg c]; omega
theorem beg_at {C : zm_M} {r : Nat} {hp : Int32} : we (fun x => x ≠ r ∧ ∀ pl, pl < 8 → x ≠ r + 39 + 3 * pl) C (fm_begin C r hp) ∧ (zm_I (fm_begin C r hp) r 0 = zm_I C r 0 ∧ zm_I (fm_begin C r hp) r 1 = nI 1 ∧ zm_I (fm_begin C r hp) r 2 = fs_ball C r hp ∧ zm_I (fm_begin C r hp) r 3 = nI 0 ∧ zm_I (fm_begin C r hp) r 4 = zm_I C r 4) ∧ ∀ pl, pl < 8 → zm_I (fm_begin C r hp) (r + 39 + 3 * pl) 0 = zm_I C (r + 39 + 3 * pl) 0 ∧ zm_I (fm_begin C r hp) (r + 39 + 3 * pl) 1 = nI 0 := by
  have w0 : we (fun x => x ≠ r) C (fm_beg0 C r hp) := we_trans (we_trans (we_wI (by omega)) (we_wI (by omega))) (we_wI (by omega))
  have b0 : zm_I (fm_beg0 C r hp) r 0 = zm_I C r 0 ∧ zm_I (fm_beg0 C r hp) r 1 = nI 1 ∧ zm_I (fm_beg0 C r hp) r 2 = fs_ball C r hp ∧ zm_I (fm_beg0 C r hp) r 3 = nI 0 ∧ zm_I (fm_beg0 C r hp) r 4 = zm_I C r 4 := by
    unfold fm_beg0
    refine ⟨?_, ?_, ?_, zm_Is, ?_⟩
    · rw [zm_In (Or.inr (by decide)), zm_In (Or.inr (by decide)), zm_In (Or.inr (by decide))]
    · rw [zm_In (Or.inr (by decide)), zm_Is]
    · rw [zm_In (Or.inr (by decide)), zm_In (Or.inr (by decide)), zm_Is]
    · rw [zm_In (Or.inr (by decide)), zm_In (Or.inr (by decide)), zm_In (Or.inr (by decide))]
  have key : ∀ d, d ≤ 8 → we (fun x => ∀ pl, pl < 8 → x ≠ r + 39 + 3 * pl) (fm_beg0 C r hp) (zm_it (fun p M => fm_prop M (r + 39 + 3 * p) (nI 0)) d (fm_beg0 C r hp)) ∧ ∀ pl, pl < 8 → zm_I (zm_it (fun p M => fm_prop M (r + 39 + 3 * p) (nI 0)) d (fm_beg0 C r hp)) (r + 39 + 3 * pl) 0 = zm_I (fm_beg0 C r hp) (r + 39 + 3 * pl) 0 ∧ (pl < d → zm_I (zm_it (fun p M => fm_prop M (r + 39 + 3 * p) (nI 0)) d (fm_beg0 C r hp)) (r + 39 + 3 * pl) 1 = nI 0) := by
    intro d
    induction d with
    | zero => exact fun _ => ⟨we_refl, fun pl _ => ⟨rfl, fun z => absurd z (Nat.not_lt_zero _)⟩⟩
    | succ d ih =>
      intro hd8
      obtain ⟨i1, i2⟩ := ih (by omega)
      show we _ _ (fm_prop (zm_it (fun p M => fm_prop M (r + 39 + 3 * p) (nI 0)) d (fm_beg0 C r hp)) (r + 39 + 3 * d) (nI 0)) ∧ ∀ pl, pl < 8 → zm_I (fm_prop (zm_it (fun p M => fm_prop M (r + 39 + 3 * p) (nI 0)) d (fm_beg0 C r hp)) (r + 39 + 3 * d) (nI 0)) (r + 39 + 3 * pl) 0 = _ ∧ (pl < d + 1 → zm_I (fm_prop (zm_it (fun p M => fm_prop M (r + 39 + 3 * p) (nI 0)) d (fm_beg0 C r hp)) (r + 39 + 3 * d) (nI 0)) (r + 39 + 3 * pl) 1 = _)
      generalize zm_it (fun p M => fm_prop M (r + 39 + 3 * p) (nI 0)) d (fm_beg0 C r hp) = N at i1 i2
      unfold fm_prop
      have nS : ¬ (fun x => ∀ pl, pl < 8 → x ≠ r + 39 + 3 * pl) (r + 39 + 3 * d) := fun z => z d (by omega) rfl
      refine ⟨we_trans i1 (we_trans (we_wI nS) (we_wI nS)), fun pl hpl => ⟨?_, fun hlt => ?_⟩⟩
      · rw [zm_In (Or.inr (by decide)), zm_In (Or.inr (by decide))]
        exact (i2 pl hpl).1
      · by_cases c : pl = d
        · subst c
          rw [zm_In (Or.inr (by decide)), zm_Is]
        · rw [zm_In (Or.inl (by omega)), zm_In (Or.inl (by omega))]
          exact (i2 pl hpl).2 (by omega)
  obtain ⟨k1, k2⟩ := key 8 (Nat.le_refl _)
  have nr : ∀ pl, pl < 8 → r ≠ r + 39 + 3 * pl := fun pl _ => by omega
  refine ⟨we_trans (we_mono w0 (fun x hx => hx.1)) (we_mono k1 (fun x hx => hx.2)), ⟨(we_I k1 nr).trans b0.1, (we_I k1 nr).trans b0.2.1, (we_I k1 nr).trans b0.2.2.1, (we_I k1 nr).trans b0.2.2.2.1, (we_I k1 nr).trans b0.2.2.2.2⟩, fun pl hpl => ⟨((k2 pl hpl).1).trans (we_I w0 (by omega)), (k2 pl hpl).2 hpl⟩⟩
