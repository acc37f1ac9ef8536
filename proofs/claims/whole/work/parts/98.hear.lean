/-! Class against model (pure): a promise is heard -/
theorem wI_id {M : zm_M} {r k : Nat} {v : Int32} (h : zm_I M r k = v) : zm_wI M r k v = M := by
  unfold zm_wI zm_u
  refine Prod.ext ?_ rfl
  funext r' k'
  show (if r' = r ∧ k' = k then v else M.1 r' k') = M.1 r' k'
  by_cases c : r' = r ∧ k' = k
  · rw [if_pos c, c.1, c.2]
    exact h.symm
  · rw [if_neg c]
theorem or_bit : ∀ m, m < 128 → ∀ s, s < 7 → ∀ s', s' < 7 → ((m ||| 2 ^ s) / 2 ^ s' % 2 = 1 ↔ (s' = s ∨ m / 2 ^ s' % 2 = 1)) := by decide +kernel
theorem or_pc : ∀ m, m < 128 → ∀ s, s < 7 → m / 2 ^ s % 2 ≠ 1 → wpc (m ||| 2 ^ s) = wpc m + 1 := by decide +kernel
theorem ph_5 {D : zm_M} {s p x : Nat} : zm_I (gm_ph D s p 88) 555 x = if x = p then gs_pb D p s else zm_I D 555 x := by
  unfold gm_ph
  rw [gm_upn (Or.inl (by decide))]
  by_cases e : x = p
  · rw [if_pos e, e, zm_Is]
  · rw [if_neg e, zm_In (Or.inr e)]
theorem ph_6 {D : zm_M} {s p x : Nat} : zm_I (gm_ph D s p 88) 556 x = if 616 * p + 88 * s ≤ x ∧ x < 616 * p + 88 * s + 88 then zm_I D 571 (x - (616 * p + 88 * s)) else zm_I D 556 x := by
  unfold gm_ph
  rw [gm_upI]
  by_cases e : 616 * p + 88 * s ≤ x ∧ x < 616 * p + 88 * s + 88
  · rw [if_pos ⟨rfl, e⟩, if_pos e]
  · rw [if_neg (fun z => e z.2), if_neg e, zm_In (Or.inl (by decide))]
theorem ph_we {D : zm_M} {s p : Nat} : we (fun r => r ≠ 555 ∧ r ≠ 556) D (gm_ph D s p 88) := we_trans (we_wI (by omega)) (we_up (by omega))
theorem hear {C D : zm_M} {G : wG} {B q s p m ph' : Nat} (h : wr C D) (hd : wd G B D) (hs : s < 7) (hp : p < 2) (hph : zm_I D 553 p = nI 1) (hm : zm_I D 555 p = nI m) (hm7 : m < 128) (hq : 173 ≤ q ∧ q + 6 ≤ 539) (q1 : zm_I C q 1 = nI s) (hin : wr_sh C (q + 1) D 571 0) (hdn : wd_sh G B D 571 0 s) (hph' : (ph' = 1 ∧ wpc (m ||| 2 ^ s) ≤ 4) ∨ ph' = 2) : wr (zm_wI (fm_hp1 (fm_copySh C (45 + 63 * p + 4 + 5 * s) (q + 1)) (45 + 63 * p) q) (45 + 63 * p) 1 (nI ph')) (zm_wI (gm_ph D s p 88) 553 p (nI ph')) ∧ wd G B (zm_wI (gm_ph D s p 88) 553 p (nI ph')) ∧ we (fun r => 108 + 63 * p ≤ r) C (zm_wI (fm_hp1 (fm_copySh C (45 + 63 * p + 4 + 5 * s) (q + 1)) (45 + 63 * p) q) (45 + 63 * p) 1 (nI ph')) ∧ we (fun r => r < 546 ∨ r = 572) D (zm_wI (gm_ph D s p 88) 553 p (nI ph')) ∧ zm_I (zm_wI (gm_ph D s p 88) 553 p (nI ph')) 555 p = nI (m ||| 2 ^ s) := by
  have hz := wg_z hd.2.1
  obtain ⟨⟨a0, a1, a2, a3, a4⟩, bb, cc, dd⟩ := h.2.2.1 p hp
  obtain ⟨ph, w, m', dl, ⟨k1, k2, k3, k4⟩, ⟨e1, e2, e3, e4⟩, f1, f2, f3, f4, f5⟩ := hd.2.2.2.2.1 p hp
  have em : m' = m := (nI_eq (by omega) (by omega)).mp (e3.symm.trans hm)
  subst em
  have eph : ph = 1 := (nI_eq (by omega) (by omega)).mp (e1.symm.trans hph)
  subst eph
  obtain ⟨o1, o2⟩ := an_or m' hm7 s hs
  obtain ⟨x1, x2⟩ := cp_at (M := C) (r := 45 + 63 * p + 4 + 5 * s) (q := q + 1) (by omega)
  have eC : fm_hp1 (fm_copySh C (45 + 63 * p + 4 + 5 * s) (q + 1)) (45 + 63 * p) q = zm_wI (fm_copySh C (45 + 63 * p + 4 + 5 * s) (q + 1)) (45 + 63 * p) 3 (nI (m' ||| 2 ^ s)) := by
    unfold fm_hp1
    rw [we_I x1 (by omega), we_I x1 (by omega), a3, e3, q1, o1]
  rw [eC]
  generalize fm_copySh C (45 + 63 * p + 4 + 5 * s) (q + 1) = X at x1 x2
  have hC : we (fun r => r ≠ 45 + 63 * p ∧ (r < 45 + 63 * p + 4 + 5 * s + 1 ∨ 45 + 63 * p + 4 + 5 * s + 4 < r)) C (zm_wI (zm_wI X (45 + 63 * p) 3 (nI (m' ||| 2 ^ s))) (45 + 63 * p) 1 (nI ph')) := we_trans (we_mono x1 (fun r hr => hr.2)) (we_trans (we_wI (by omega)) (we_wI (by omega)))
  have hR : ∀ k, k ≠ 1 → k ≠ 3 → zm_I (zm_wI (zm_wI X (45 + 63 * p) 3 (nI (m' ||| 2 ^ s))) (45 + 63 * p) 1 (nI ph')) (45 + 63 * p) k = zm_I C (45 + 63 * p) k := fun k h1 h3 => by rw [zm_In (Or.inr h1), zm_In (Or.inr h3), we_I x1 (by omega)]
  have hX : ∀ r k, r ≠ 45 + 63 * p → zm_I (zm_wI (zm_wI X (45 + 63 * p) 3 (nI (m' ||| 2 ^ s))) (45 + 63 * p) 1 (nI ph')) r k = zm_I X r k := fun r k hr => by rw [zm_In (Or.inl hr), zm_In (Or.inl hr)]
  have epb : gs_pb D p s = nI (m' ||| 2 ^ s) := by unfold gs_pb; rw [e3, o1]
  have hw : we (fun r => r ≠ 553 ∧ r ≠ 555 ∧ r ≠ 556) D (zm_wI (gm_ph D s p 88) 553 p (nI ph')) := we_trans (we_mono ph_we (fun r hr => hr.2)) (we_wI (by omega))
  have n3 : ∀ x, zm_I (zm_wI (gm_ph D s p 88) 553 p (nI ph')) 553 x = if x = p then nI ph' else zm_I D 553 x := fun x => by
    by_cases e : x = p
    · rw [if_pos e, e, zm_Is]
    · rw [if_neg e, zm_In (Or.inr e), we_I ph_we (by decide)]
  have n5 : ∀ x, zm_I (zm_wI (gm_ph D s p 88) 553 p (nI ph')) 555 x = if x = p then nI (m' ||| 2 ^ s) else zm_I D 555 x := fun x => by
    rw [zm_In (Or.inl (by decide)), ph_5, epb]
  have n6 : ∀ x, zm_I (zm_wI (gm_ph D s p 88) 553 p (nI ph')) 556 x = if 616 * p + 88 * s ≤ x ∧ x < 616 * p + 88 * s + 88 then zm_I D 571 (x - (616 * p + 88 * s)) else zm_I D 556 x := fun x => by
    rw [zm_In (Or.inl (by decide)), ph_6]
  generalize zm_wI (gm_ph D s p 88) 553 p (nI ph') = D' at hw n3 n5 n6
  have n6o : ∀ p' s' x, p' < 2 → s' < 7 → x < 88 → (p' ≠ p ∨ s' ≠ s) → zm_I D' 556 (616 * p' + 88 * s' + x) = zm_I D 556 (616 * p' + 88 * s' + x) := fun p' s' x h1 h2 h3 h4 => by rw [n6, if_neg (by omega)]
  have n6s : ∀ x, x < 88 → zm_I D' 556 (616 * p + 88 * s + x) = zm_I D 571 (0 + x) := fun x hx => by rw [n6, if_pos (by omega), Nat.add_sub_cancel_left, Nat.zero_add]
  have hwep : ∀ p', p' < 2 → p' ≠ p → wep p' D D' := fun p' h2 hne => ⟨fun r hr => by
      rcases hr with rfl | rfl | rfl | rfl
      · rw [n3, if_neg hne]
      · exact we_I hw (by decide)
      · rw [n5, if_neg hne]
      · exact we_I hw (by decide), fun x hx => we_I hw (by decide), fun x hx => by rw [n6, if_neg (by omega)], fun r h1 h2 pl' hpl' => we_I hw (by omega), fun pl' hpl' x hx => we_I hw (by decide)⟩
  have hsp0 : ∀ pl, pl < 8 → zm_I D 560 (8 * p + pl) = nI 0 := fun pl hpl => ((f5 pl hpl).2).resolve_right (fun z => absurd z.1 (by decide))
  refine ⟨⟨fun s' hs' => wr_st_c (h.1 s' hs') (we_mono hC (fun r hr => by omega)) (we_mono hw (fun r hr => by omega)), wr_lt_c h.2.1 (we_mono hC (fun r hr => by omega)) (we_I hw (by decide)) (we_mono hw (fun r hr => by omega)), fun p' hp' => ?_, wr_rd_c h.2.2.2 (we_mono hC (fun r hr => by omega)) (we_I hw (by decide)) (fun x => we_I hw (by decide))⟩, ⟨gt_ok_c hd.1 (we_mono hw (fun r hr => by omega)), fun pl v z e => ?_, wd_lt_c hd.2.2.1 (fun _ _ _ q => q) (Nat.le_refl _) hz (we_I hw (by decide)) (we_mono hw (fun r hr => by omega)), fun s' hs' => wd_st_c (hd.2.2.2.1 s' hs') (fun _ _ _ q => q) (Nat.le_refl _) hz (we_mono hw (fun r hr => by omega)), fun p' hp' => ?_, ?_⟩, we_mono hC (fun r hr => by omega), we_mono hw (fun r hr => by omega), by rw [n5, if_pos rfl]⟩
  · by_cases e : p' = p
    · subst e
      refine ⟨⟨?_, ?_, ?_, ?_, ?_⟩, fun x hx => ?_, fun s' hs' e => ?_, fun pl hpl => ?_⟩
      · rw [hR 0 (by decide) (by decide), a0]
      · rw [zm_Is, n3, if_pos rfl]
      · rw [hR 2 (by decide) (by decide), we_I hw (by decide), a2]
      · rw [zm_In (Or.inr (by decide)), zm_Is, n5, if_pos rfl]
      · rw [hR 4 (by decide) (by decide), we_I hw (by decide), a4]
      · rw [gv_c (we_I hw (by decide))] at hx
        rw [hX _ _ (by omega), we_I x1 (by omega), we_I hw (by decide), bb x hx]
      · rw [gv_of (n := m' ||| 2 ^ s) (by rw [n5, if_pos rfl]) (by omega)] at e
        by_cases es : s' = s
        · subst es
          refine wr_sh_c hin (fun pl hpl => ?_) n6s
          obtain ⟨y1, y2, y3, y4⟩ := x2 pl hpl
          rw [hX _ _ (by omega), hX _ _ (by omega), hX _ _ (by omega)]
          exact ⟨y1, y2, y3, y4⟩
        · have hb : m' / 2 ^ s' % 2 = 1 := ((or_bit m' hm7 s hs s' hs').mp e).resolve_left es
          refine wr_sh_c (cc s' hs' (by rw [gv_of hm (by omega)]; exact hb)) (fun pl hpl => ⟨we_I hC (by omega), we_I hC (by omega), we_I hC (by omega), we_J hC (by omega)⟩) (fun x hx => n6o _ _ _ hp hs' hx (Or.inr es))
      · exact wr_sp_c (dd pl hpl) (we_mono hC (fun r hr => by omega)) (fun r h1 h2 => we_I hw (by omega)) (fun x _ => we_I hw (by decide))
    · exact wr_pr_c2 hp' (h.2.2.1 p' hp') (hd.2.2.2.2.1 p' hp') hz (we_mono hC (fun r hr => by omega)) (hwep p' hp' e)
  · obtain ⟨y1, y2⟩ := hd.2.1 pl v z e
    refine ⟨y1, fun p' hp' hv => ?_⟩
    obtain ⟨y3, y4⟩ := y2 p' hp' hv
    rw [gv_c (we_I hw (by decide)), n3, we_I hw (by decide), we_I hw (by decide)]
    refine ⟨y3, fun ez => ?_⟩
    by_cases ep : p' = p
    · subst ep
      exact absurd (hph.symm.trans (y4 ez).1) (by decide)
    · rw [if_neg ep]
      exact y4 ez
  · by_cases e : p' = p
    · subst e
      refine ⟨ph', w, m' ||| 2 ^ s, dl, ⟨by omega, k2, o2, k4⟩, ⟨by rw [n3, if_pos rfl], (we_I hw (by decide)).trans e2, by rw [n5, if_pos rfl], (we_I hw (by decide)).trans e4⟩, fun x hx => ?_, Or.inr (f2.resolve_left (fun z => absurd z.1 (by decide))), fun e => hph'.elim (fun z => z.2) (fun z => absurd (z.symm.trans e) (by decide)), fun s' hs' e => ?_, fun pl hpl => ⟨?_, Or.inl ((we_I hw (by decide)).trans (hsp0 pl hpl))⟩⟩
      · obtain ⟨u, y1, y2⟩ := f1 x hx
        exact ⟨u, y1, (we_I hw (by decide)).trans y2⟩
      · by_cases es : s' = s
        · subst es
          exact wd_sh_c hdn (fun _ _ _ q => q) (Nat.le_refl _) n6s hz
        · have hb : m' / 2 ^ s' % 2 = 1 := ((or_bit m' hm7 s hs s' hs').mp e).resolve_left es
          exact wd_sh_c (f4 s' hs' hb) (fun _ _ _ q => q) (Nat.le_refl _) (fun x hx => n6o _ _ _ hp hs' hx (Or.inr es)) hz
      · obtain ⟨v, y1, y2⟩ := (f5 pl hpl).1
        exact ⟨v, y1, (we_I hw (by decide)).trans y2⟩
    · exact wd_pr_c2 (hd.2.2.2.2.1 p' hp') (fun _ _ _ q => q) (Nat.le_refl _) hz (hwep p' hp' e)
  · obtain ⟨k, y1, y2⟩ := hd.2.2.2.2.2
    exact ⟨k, y1, (we_I hw (by decide)).trans y2⟩
