/-! Class against model (pure): accepts are sent -/
theorem wn_tt {D : zm_M} {e : Nat} : wn D (gm_t D e) := wn_t
theorem bt_c {f g : Nat → Nat} {len i k : Nat} (h : ∀ x, x < len → f x = g x) : gs_bt f len i k = gs_bt g len i k := by
  unfold gs_bt
  by_cases c : (len + 2) / 3 * k + i < len
  · rw [if_pos c, if_pos c, h _ c]
  · rw [if_neg c, if_neg c]
theorem shb_c {f g : Nat → Nat} {len s i : Nat} (h : ∀ x, x < len → f x = g x) : gs_shb f len s i = gs_shb g len s i := by
  unfold gs_shb
  rw [bt_c h, bt_c h, bt_c h]
/-- the share that the class makes, byte by byte -/
theorem share_b {M : zm_M} {r s j len : Nat} {f : Nat → Nat} (hs : s < 7) (hj : j < 8) (hb : ∀ k, k < 3 → wb (zm_J M (r + 1) k) j = gs_bt f len j k) : wb (fs_share M r (nI s + nI 1)) j = gs_shb f len s j := by
  unfold fs_share gs_shb
  rw [nI_add, wb_xor, wb_times _ (by omega) hj, wb_xor, wb_times _ (by omega) hj, wb_xor, wb_times _ (by omega) hj, wb_0, hb 0 (by decide), hb 1 (by decide), hb 2 (by decide)]
theorem ac_we {D : zm_M} {c p pl s len k : Nat} {f : Nat → Nat} : we (fun r => r ≠ 546 ∧ r ≠ 551 ∧ r ≠ 552) D (gm_acc D c p pl s len f k) := we_trans (we_trans (we_trans (we_trans (we_mono l4_we (fun r hr => by omega)) (we_wI (by omega))) (we_wI (by omega))) (we_wI (by omega))) (we_up (by omega))
theorem ac_k {D : zm_M} {c p pl s len k x : Nat} {f : Nat → Nat} (hx : x ≠ 5) : zm_I (gm_acc D c p pl s len f k) 546 x = zm_I D 546 x := by
  unfold gm_acc gm_acc0
  rw [gm_upn (Or.inl (by decide)), zm_In (Or.inl (by decide)), zm_In (Or.inl (by decide)), zm_In (Or.inl (by decide)), l4_k hx]
theorem ac_5 {D : zm_M} {c p pl s len k : Nat} {f : Nat → Nat} : zm_I (gm_acc D c p pl s len f k) 546 5 = nI (c + 1) := by
  unfold gm_acc gm_acc0
  rw [gm_upn (Or.inl (by decide)), zm_In (Or.inl (by decide)), zm_In (Or.inl (by decide)), zm_In (Or.inl (by decide)), l4_5]
theorem ac_o {D : zm_M} {c p pl s len k x : Nat} {f : Nat → Nat} (hx : x < 7 * c) : zm_I (gm_acc D c p pl s len f k) 551 x = zm_I D 551 x := by
  unfold gm_acc gm_acc0
  rw [gm_upn (Or.inl (by decide)), zm_In (Or.inr (by omega)), zm_In (Or.inr (by omega)), zm_In (Or.inr (by omega)), l4_o hx]
theorem ac_o2 {D : zm_M} {c p pl s len k x : Nat} {f : Nat → Nat} (hx : x < 88 * c) : zm_I (gm_acc D c p pl s len f k) 552 x = zm_I D 552 x := by
  unfold gm_acc gm_acc0
  rw [gm_upn (by omega), zm_In (Or.inl (by decide)), zm_In (Or.inl (by decide)), zm_In (Or.inl (by decide)), we_I l4_we (by decide)]
theorem ac_t {D : zm_M} {c p pl s len k x : Nat} {f : Nat → Nat} (hx : x < k) : zm_I (gm_acc D c p pl s len f k) 552 (88 * c + x) = nI (gs_shb f len s x) := by
  unfold gm_acc
  rw [gm_upI, if_pos ⟨rfl, by omega⟩, Nat.add_sub_cancel_left]
theorem ac_at {D : zm_M} {c p pl s len k : Nat} {f : Nat → Nat} : zm_I (gm_acc D c p pl s len f k) 551 (7 * c + 0) = nI 2 ∧ zm_I (gm_acc D c p pl s len f k) 551 (7 * c + 1) = nI s ∧ zm_I (gm_acc D c p pl s len f k) 551 (7 * c + 2) = nI p ∧ zm_I (gm_acc D c p pl s len f k) 551 (7 * c + 3) = zm_I D 554 p ∧ zm_I (gm_acc D c p pl s len f k) 551 (7 * c + 4) = nI pl ∧ zm_I (gm_acc D c p pl s len f k) 551 (7 * c + 5) = zm_I D 560 (8 * p + pl) ∧ zm_I (gm_acc D c p pl s len f k) 551 (7 * c + 6) = nI len := by
  obtain ⟨m0, m1, m2, m3, m4, m5⟩ := l4_at (D := D) (c := c) (k := nI 2) (s := nI s) (p := nI p) (bl := zm_I D 554 p)
  unfold gm_acc gm_acc0
  refine ⟨?_, ?_, ?_, ?_, ?_, ?_, ?_⟩
  · rw [gm_upn (Or.inl (by decide)), zm_In (Or.inr (by omega)), zm_In (Or.inr (by omega)), zm_In (Or.inr (by omega)), m0]
  · rw [gm_upn (Or.inl (by decide)), zm_In (Or.inr (by omega)), zm_In (Or.inr (by omega)), zm_In (Or.inr (by omega)), m1]
  · rw [gm_upn (Or.inl (by decide)), zm_In (Or.inr (by omega)), zm_In (Or.inr (by omega)), zm_In (Or.inr (by omega)), m2]
  · rw [gm_upn (Or.inl (by decide)), zm_In (Or.inr (by omega)), zm_In (Or.inr (by omega)), zm_In (Or.inr (by omega)), m3]
  · rw [gm_upn (Or.inl (by decide)), zm_In (Or.inr (by omega)), zm_In (Or.inr (by omega)), zm_Is]
  · rw [gm_upn (Or.inl (by decide)), zm_In (Or.inr (by omega)), zm_Is]
  · rw [gm_upn (Or.inl (by decide)), zm_Is]
theorem post2 {C D : zm_M} {G : wG} {B c s p pl v w : Nat} {z : Nat × (Nat → Nat)} (h : wr C D) (hd : wd G B D) (hc : zm_I D 546 5 = nI c) (h60 : c < 60) (hs : s < 7) (hp : p < 2) (hpl : pl < 8) (hw : zm_I D 554 p = nI w) (hwB : w ≤ B) (hG : G pl v = some z) (hv : zm_I D 560 (8 * p + pl) = nI v) (hv0 : ¬ nI v = 0) (hln : zm_I D 561 (8 * p + pl) = nI z.1) (hf : ∀ x, x < z.1 → zm_I D 563 (24 * (8 * p + pl) + x) = nI (z.2 x)) : wr (fm_sa2 (fm_sa1 (fm_post C (nI 2) (nI s) (zm_I C (45 + 63 * p) 0) (zm_I C (45 + 63 * p) 2)) (zm_P C 172 c) (45 + 63 * p + 39 + 3 * pl) pl s) (zm_P C 172 c) (45 + 63 * p + 39 + 3 * pl) s) (gm_acc D c p pl s z.1 z.2 ((z.1 + 2) / 3)) ∧ wd G B (gm_acc D c p pl s z.1 z.2 ((z.1 + 2) / 3)) ∧ we (fun x => x < 171 ∨ 539 ≤ x) C (fm_sa2 (fm_sa1 (fm_post C (nI 2) (nI s) (zm_I C (45 + 63 * p) 0) (zm_I C (45 + 63 * p) 2)) (zm_P C 172 c) (45 + 63 * p + 39 + 3 * pl) pl s) (zm_P C 172 c) (45 + 63 * p + 39 + 3 * pl) s) := by
  have ec := wk_c h hc (by omega)
  obtain ⟨⟨_, _, _, z1, z2, z3⟩, _⟩ := hd.2.1 _ _ _ hG
  obtain ⟨⟨a0, a1, a2, a3, a4⟩, _, _, dd⟩ := h.2.2.1 p hp
  obtain ⟨d1, d2, d3⟩ := dd pl hpl
  obtain ⟨d4, d5, d6⟩ := d3 (by rw [hv]; exact hv0)
  rw [gv_of hln (by omega)] at d5 d6
  obtain ⟨j2, k2, e2⟩ := h.2.1.1.1 c (by omega)
  unfold fm_post
  rw [if_pos (by omega), ec, a0, a2, hw]
  have w1 : we (fun r => r ≠ 171 ∧ r ≠ zm_P C 172 c) C (fm_addr (zm_wI C 171 0 (nI (c + 1))) (zm_P C 172 c) (nI 2) (nI s) (nI p) (nI w)) := we_trans (we_wI (by omega)) (we_mono addr_we (fun r hr => hr.2))
  obtain ⟨q0, q1, q2, q3, q4, q5⟩ := addr_at (M := zm_wI C 171 0 (nI (c + 1))) (r := zm_P C 172 c) (a := nI 2) (b := nI s) (c := nI p) (d := nI w)
  have w171 : zm_I (fm_addr (zm_wI C 171 0 (nI (c + 1))) (zm_P C 172 c) (nI 2) (nI s) (nI p) (nI w)) 171 0 = nI (c + 1) := (we_I addr_we (show 171 ≠ zm_P C 172 c by omega)).trans zm_Is
  generalize fm_addr (zm_wI C 171 0 (nI (c + 1))) (zm_P C 172 c) (nI 2) (nI s) (nI p) (nI w) = N at w1 q0 q1 q2 q3 q4 q5 w171
  have n1 : zm_I N (45 + 63 * p + 39 + 3 * pl) 1 = nI v := by rw [we_I w1 (by omega), d2, hv]
  have n2 : zm_I (fm_about N (zm_P C 172 c) (nI pl) (nI v)) (45 + 63 * p + 39 + 3 * pl + 1) 0 = nI z.1 := by
    unfold fm_about
    rw [zm_In (Or.inl (by omega)), zm_In (Or.inl (by omega)), we_I w1 (by omega), d5]
  unfold fm_sa1
  rw [n1, n2]
  have w2 : we (fun r => r ≠ zm_P C 172 c) N (zm_wI (fm_about N (zm_P C 172 c) (nI pl) (nI v)) (zm_P C 172 c) 6 (nI z.1)) := we_trans (we_trans (we_wI (by omega)) (we_wI (by omega))) (we_wI (by omega))
  have r0 : zm_I (zm_wI (fm_about N (zm_P C 172 c) (nI pl) (nI v)) (zm_P C 172 c) 6 (nI z.1)) (zm_P C 172 c) 0 = nI 2 := by
    unfold fm_about
    rw [zm_In (Or.inr (by decide)), zm_In (Or.inr (by decide)), zm_In (Or.inr (by decide)), q0]
  have r1 : zm_I (zm_wI (fm_about N (zm_P C 172 c) (nI pl) (nI v)) (zm_P C 172 c) 6 (nI z.1)) (zm_P C 172 c) 1 = nI s := by
    unfold fm_about
    rw [zm_In (Or.inr (by decide)), zm_In (Or.inr (by decide)), zm_In (Or.inr (by decide)), q1]
  have r2 : zm_I (zm_wI (fm_about N (zm_P C 172 c) (nI pl) (nI v)) (zm_P C 172 c) 6 (nI z.1)) (zm_P C 172 c) 2 = nI p := by
    unfold fm_about
    rw [zm_In (Or.inr (by decide)), zm_In (Or.inr (by decide)), zm_In (Or.inr (by decide)), q2]
  have r3 : zm_I (zm_wI (fm_about N (zm_P C 172 c) (nI pl) (nI v)) (zm_P C 172 c) 6 (nI z.1)) (zm_P C 172 c) 3 = nI w := by
    unfold fm_about
    rw [zm_In (Or.inr (by decide)), zm_In (Or.inr (by decide)), zm_In (Or.inr (by decide)), q3]
  have r4 : zm_I (zm_wI (fm_about N (zm_P C 172 c) (nI pl) (nI v)) (zm_P C 172 c) 6 (nI z.1)) (zm_P C 172 c) 4 = nI pl := by
    unfold fm_about
    rw [zm_In (Or.inr (by decide)), zm_In (Or.inr (by decide)), zm_Is]
  have r5 : zm_I (zm_wI (fm_about N (zm_P C 172 c) (nI pl) (nI v)) (zm_P C 172 c) 6 (nI z.1)) (zm_P C 172 c) 5 = nI v := by
    unfold fm_about
    rw [zm_In (Or.inr (by decide)), zm_Is]
  have r6 : zm_I (zm_wI (fm_about N (zm_P C 172 c) (nI pl) (nI v)) (zm_P C 172 c) 6 (nI z.1)) (zm_P C 172 c) 6 = nI z.1 := zm_Is
  generalize zm_wI (fm_about N (zm_P C 172 c) (nI pl) (nI v)) (zm_P C 172 c) 6 (nI z.1) = N2 at w2 r0 r1 r2 r3 r4 r5 r6
  have hC : we (fun r => r ≠ 171 ∧ r ≠ zm_P C 172 c) C (fm_sa2 N2 (zm_P C 172 c) (45 + 63 * p + 39 + 3 * pl) s) := we_trans w1 (we_trans (we_mono w2 (fun r hr => hr.2)) (we_wJ (by omega)))
  have hsh : ∀ j, j < 8 → j < (z.1 + 2) / 3 → wb (zm_J (fm_sa2 N2 (zm_P C 172 c) (45 + 63 * p + 39 + 3 * pl) s) (zm_P C 172 c) 7) j = gs_shb z.2 z.1 s j := fun j hj hj2 => by
    show wb (zm_J (zm_wJ N2 (zm_P C 172 c) 7 (fs_share N2 (45 + 63 * p + 39 + 3 * pl + 1) (nI s + nI 1))) (zm_P C 172 c) 7) j = _
    rw [zm_Js]
    refine share_b hs hj (fun k hk => ?_)
    rw [we_J w2 (by omega), we_J w1 (by omega), d6 k hk j hj2]
    exact bt_c (fun x hx => by rw [gv_of (hf x hx) (by have := z3 x; omega)])
  obtain ⟨m0, m1, m2, m3, m4, m5, m6⟩ := ac_at (D := D) (c := c) (p := p) (pl := pl) (s := s) (len := z.1) (k := (z.1 + 2) / 3) (f := z.2)
  have nn : wr_le (fm_sa2 N2 (zm_P C 172 c) (45 + 63 * p + 39 + 3 * pl) s) (zm_P C 172 c) (gm_acc D c p pl s z.1 z.2 ((z.1 + 2) / 3)) c := by
    refine ⟨fun x hx => ?_, fun e => ?_, fun _ => ⟨by rw [m6]; exact r6, fun j hj hj2 => ?_⟩⟩
    · match x, hx with
      | 0, _ => rw [m0]; exact r0
      | 1, _ => rw [m1]; exact r1
      | 2, _ => rw [m2]; exact r2
      | 3, _ => rw [m3, hw]; exact r3
      | 4, _ => rw [m4]; exact r4
      | 5, _ => rw [m5, hv]; exact r5
      | x + 6, hx => omega
    · rw [m0] at e; exact absurd e (by decide)
    · rw [gv_of m6 (by omega)] at hj2
      rw [ac_t hj2, hsh j hj hj2]
  obtain ⟨a, b⟩ := app h hd hc h60 (we_mono hC (fun r hr => by omega)) ((we_I w2 (show 171 ≠ zm_P C 172 c by omega)).trans w171) ac_we ac_5 (ac_k (by decide)) (fun x hx => ac_o hx) (fun x hx => ac_o2 hx) nn ⟨2, s, p, w, ⟨by decide, hs, hp, hwB⟩, ⟨m0, m1, m2, m3.trans hw⟩, fun e => absurd e (by decide), fun _ => ⟨pl, v, z, hpl, hG, m4, m5.trans hv, fun _ => ⟨m6, fun j hj => ac_t hj⟩⟩⟩
  exact ⟨a, b, we_mono hC (fun r hr => by omega)⟩
/-- the seven accepts of a place; T: the model's road -/
theorem sendA {C : zm_M} {T : Nat → zm_M × Nat × Nat} {G : wG} {B p pl v w m : Nat} {z : Nat × (Nat → Nat)} {sel : Nat → Bool} (h : wr C (T 0).1) (hd : wd G B (T 0).1) (hc : zm_I (T 0).1 546 5 = nI (T 0).2.1) (h60 : (T 0).2.1 ≤ 60) (hp : p < 2) (hpl : pl < 8) (hw : zm_I (T 0).1 554 p = nI w) (hwB : w ≤ B) (hG : G pl v = some z) (hv : zm_I (T 0).1 560 (8 * p + pl) = nI v) (hv0 : ¬ nI v = 0) (hln : zm_I (T 0).1 561 (8 * p + pl) = nI z.1) (hf : ∀ x, x < z.1 → zm_I (T 0).1 563 (24 * (8 * p + pl) + x) = nI (z.2 x)) (hm : zm_I (T 0).1 562 (8 * p + pl) = nI m) (hsel : ∀ s, s < 7 → (sel s = true ↔ ¬ ff_bit (nI m) s = nI 1))
    (hT : ∀ s, s < 7 → T (s + 1) = if sel s = true ∧ (T s).2.1 < 60 then (gm_acc (T s).1 (T s).2.1 p pl s z.1 z.2 ((z.1 + 2) / 3), (T s).2.1 + 1, (T s).2.2 + 1) else T s) : ∀ d, d ≤ 7 → wr (zm_it (fm_sa (45 + 63 * p) pl) d C) (T d).1 ∧ wd G B (T d).1 ∧ (zm_I (T d).1 546 5 = nI (T d).2.1 ∧ (T d).2.1 ≤ 60 ∧ (T d).2.1 + (T 0).2.2 = (T 0).2.1 + (T d).2.2) ∧ we (fun x => x < 171 ∨ 539 ≤ x) C (zm_it (fm_sa (45 + 63 * p) pl) d C) ∧ we (fun r => r ≠ 546 ∧ r ≠ 551 ∧ r ≠ 552) (T 0).1 (T d).1 ∧ ∀ k, k ≠ 5 → zm_I (T d).1 546 k = zm_I (T 0).1 546 k := by
  intro d
  induction d with
  | zero => exact fun _ => ⟨h, hd, ⟨hc, h60, rfl⟩, we_refl, we_refl, fun _ _ => rfl⟩
  | succ d ih =>
    intro hd7
    obtain ⟨i1, i2, ⟨i3, i4, i5⟩, i6, i7, i8⟩ := ih (by omega)
    have f2 : zm_I (zm_it (fm_sa (45 + 63 * p) pl) d C) (45 + 63 * p + 39 + 3 * pl) 2 = nI m := by
      rw [we_I i6 (by omega), (((h.2.2.1 p hp).2.2.2 pl hpl).2.2 (by rw [hv]; exact hv0)).1, hm]
    rw [hT d (by omega)]
    show wr (fm_sa (45 + 63 * p) pl d (zm_it (fm_sa (45 + 63 * p) pl) d C)) _ ∧ wd G B _ ∧ _ ∧ we (fun x => x < 171 ∨ 539 ≤ x) C (fm_sa (45 + 63 * p) pl d (zm_it (fm_sa (45 + 63 * p) pl) d C)) ∧ _
    generalize zm_it (fm_sa (45 + 63 * p) pl) d C = N at i1 i6 f2
    unfold fm_sa
    rw [f2]
    by_cases cs : sel d = true
    · rw [if_neg ((hsel d (by omega)).mp cs)]
      have ec := wk_c i1 i3 i4
      rw [ec]
      by_cases c60 : (T d).2.1 < 60
      · rw [if_pos c60, if_pos ⟨cs, c60⟩]
        obtain ⟨b1, b2, b3⟩ := post2 (s := d) i1 i2 i3 c60 (by omega) hp hpl ((we_I i7 (by decide)).trans hw) hwB hG ((we_I i7 (by decide)).trans hv) hv0 ((we_I i7 (by decide)).trans hln) (fun x hx => (we_I i7 (by decide)).trans (hf x hx))
        exact ⟨b1, b2, ⟨ac_5, by show (T d).2.1 + 1 ≤ 60; omega, by show (T d).2.1 + 1 + (T 0).2.2 = (T 0).2.1 + ((T d).2.2 + 1); omega⟩, we_trans i6 b3, we_trans i7 ac_we, fun k hk => (ac_k hk).trans (i8 k hk)⟩
      · rw [if_neg c60, if_neg (fun z => c60 z.2)]
        exact ⟨i1, i2, ⟨i3, i4, i5⟩, i6, i7, i8⟩
    · have hb : ff_bit (nI m) d = nI 1 := Classical.byContradiction (fun z => cs ((hsel d (by omega)).mpr z))
      rw [if_pos hb, if_neg (fun z : sel d = true ∧ (T d).2.1 < 60 => cs z.1)]
      exact ⟨i1, i2, ⟨i3, i4, i5⟩, i6, i7, i8⟩
