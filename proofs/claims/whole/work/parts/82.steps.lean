/-! Class against model (pure): what a step owes; the calls that only look; up, wipe -/
theorem wr_pm_c {C C' : zm_M} (h : wr_pm C) (hP : ∀ i, zm_P C' 172 i = zm_P C 172 i) : wr_pm C' := by
  refine ⟨fun i hi => ?_, fun i hi j hj e => ?_⟩
  · rw [hP]; exact h.1 i hi
  · rw [hP, hP] at e; exact h.2 i hi j hj e
theorem wr_lt_c {C C' D D' : zm_M} (h : wr_lt C D) (hC : we (fun r => 171 ≤ r ∧ r < 539) C C') (h5 : zm_I D' 546 5 = zm_I D 546 5) (hD : we (fun r => r = 551 ∨ r = 552) D D') : wr_lt C' D' := by
  obtain ⟨hp, c, c1, c2, c3, b⟩ := h
  have eP : ∀ i, zm_P C' 172 i = zm_P C 172 i := fun i => we_P hC (by omega)
  refine ⟨wr_pm_c hp eP, c, c1, h5.trans c2, (we_I hC (by omega)).trans c3, fun i hi => ?_⟩
  rw [eP]
  obtain ⟨j, hj, e⟩ := hp.1 i (by omega)
  exact wr_le_c (b i hi) (we_mono hC (fun r hr => by omega)) (fun k _ => we_I hD (by omega)) (fun k _ => we_I hD (by omega))
theorem wd_lt_c {G G' : wG} {B B' : Nat} {D D' : zm_M} (h : wd_lt G B D) (hG : ∀ pl v z, G pl v = some z → G' pl v = some z) (hB : B ≤ B') (hz : ∀ pl v z, G pl v = some z → z.1 ≤ 24) (h5 : zm_I D' 546 5 = zm_I D 546 5) (hD : we (fun r => r = 551 ∨ r = 552) D D') : wd_lt G' B' D' := by
  obtain ⟨c, c1, c2, b⟩ := h
  exact ⟨c, c1, h5.trans c2, fun i hi => wd_le_c (b i hi) hG hB hz (fun k _ => we_I hD (by omega)) (fun k _ => we_I hD (by omega))⟩
theorem gt_ok_c {D D' : zm_M} (h : gt_ok D) (hD : we (fun r => r = 564 ∨ r = 565) D D') : gt_ok D' := gt_fr2 (fun r x hr => we_I hD hr) h
/-- the model's memory has changed only where nothing is looked at -/
def wn (D D' : zm_M) : Prop := we (fun r => (547 ≤ r ∧ r ≤ 565) ∨ r = 569) D D' ∧ zm_I D' 546 5 = zm_I D 546 5 ∧ zm_I D' 546 25 = zm_I D 546 25
theorem wr_n {C D D' : zm_M} (h : wr C D) (hn : wn D D') : wr C D' := by
  obtain ⟨a, b, c, d⟩ := h
  obtain ⟨e, e5, e25⟩ := hn
  exact ⟨fun s hs => wr_st_c (a s hs) we_refl (we_mono e (fun r hr => by omega)), wr_lt_c b we_refl e5 (we_mono e (fun r hr => by omega)), fun p hp => wr_pr_c hp (c p hp) we_refl (we_mono e (fun r hr => by omega)), wr_rd_c d we_refl e25 (fun x => we_I e (by omega))⟩
theorem wd_n {G : wG} {B B' : Nat} {D D' : zm_M} (h : wd G B D) (hB : B ≤ B') (hn : wn D D') : wd G B' D' := by
  obtain ⟨a, b, c, d, e, f⟩ := h
  obtain ⟨n1, n5, n25⟩ := hn
  have hz := wg_z b
  obtain ⟨k, k1, k2⟩ := f
  exact ⟨gt_ok_c a (we_mono n1 (fun r hr => by omega)), wg_ok_c b hB (we_mono n1 (fun r hr => by omega)), wd_lt_c c (fun _ _ _ q => q) hB hz n5 (we_mono n1 (fun r hr => by omega)), fun s hs => wd_st_c (d s hs) (fun _ _ _ q => q) hB hz (we_mono n1 (fun r hr => by omega)), fun p hp => wd_pr_c (e p hp) (fun _ _ _ q => q) hB hz (we_mono n1 (fun r hr => by omega)), ⟨k, k1, n25.trans k2⟩⟩
theorem wn_refl {D : zm_M} : wn D D := ⟨we_refl, rfl, rfl⟩
theorem wn_trans {D E F : zm_M} (h1 : wn D E) (h2 : wn E F) : wn D F := ⟨we_trans h1.1 h2.1, h2.2.1.trans h1.2.1, h2.2.2.trans h1.2.2⟩
theorem wn_t {D : zm_M} {v : Int32} : wn D (zm_wI D 546 0 v) := ⟨we_wI (by omega), zm_In (Or.inr (by decide)), zm_In (Or.inr (by decide))⟩
theorem wn_wI {D : zm_M} {r x : Nat} {v : Int32} (h : 566 ≤ r ∧ r ≠ 569) : wn D (zm_wI D r x v) := ⟨we_wI (by omega), zm_In (Or.inl (by omega)), zm_In (Or.inl (by omega))⟩
theorem wn_up {D : zm_M} {r lo k : Nat} {f : Nat → Int32} (h : 566 ≤ r ∧ r ≠ 569) : wn D (gm_up D r lo k f) := ⟨we_up (by omega), gm_upn (Or.inl (by omega)), gm_upn (Or.inl (by omega))⟩
/-- the class's memory has changed only where nothing is looked at -/
theorem wr_m {C C' D : zm_M} (h : wr C D) (hn : we (fun r => r < 539 ∨ r = 544 ∨ r = 545) C C') : wr C' D := by
  obtain ⟨a, b, c, d⟩ := h
  exact ⟨fun s hs => wr_st_c (a s hs) (we_mono hn (fun r hr => by omega)) we_refl, wr_lt_c b (we_mono hn (fun r hr => by omega)) rfl we_refl, fun p hp => wr_pr_c hp (c p hp) (we_mono hn (fun r hr => by omega)) we_refl, wr_rd_c d (we_mono hn (fun r hr => by omega)) rfl (fun x => rfl)⟩
/-- what a step owes: class memory C to C', model memory D to D' -/
def ws (B : Nat) (C D C' D' : zm_M) : Prop := wr C' D' ∧ (∃ G', wd G' B D') ∧ we (fun r => 546 ≤ r) C C' ∧ we (fun r => r < 546 ∨ r = 572) D D'
theorem ws_n {G : wG} {B B' : Nat} {C C' D D' : zm_M} (h : wr C D) (hd : wd G B D) (hB : B ≤ B') (hm : we (fun r => r < 539 ∨ r = 544 ∨ r = 545 ∨ 546 ≤ r) C C') (hn : wn D D') (hl : we (fun r => r < 546 ∨ r = 572) D D') : ws B' C D C' D' :=
  ⟨wr_n (wr_m h (we_mono hm (fun r hr => by omega))) hn, ⟨G, wd_n hd hB hn⟩, we_mono hm (fun r hr => by omega), hl⟩
/-! the calls that only look -/
theorem wo_up (s : Nat) {C D : zm_M} {G : wG} {B : Nat} (h : wr C D) (hd : wd G B D) (hs : s < 7) : (zm_I C (2 + 6 * s) 1 = nI 1 ∧ zm_I D 548 s = nI 0) ∨ (zm_I C (2 + 6 * s) 1 = nI 0 ∧ zm_I D 548 s = nI 1) := by
  have a := (h.1 s hs).2.1
  rcases (hd.2.2.2.1 s hs).2.1 with e | e
  · exact Or.inl ⟨by rw [a, e]; decide, e⟩
  · exact Or.inr ⟨by rw [a, e]; decide, e⟩
theorem wo_letters {C D : zm_M} (h : wr C D) : zm_I C 171 0 = zm_I D 546 5 := by
  obtain ⟨_, c, _, c2, c3, _⟩ := h.2.1
  rw [c2, c3]
theorem wo_letter {C D : zm_M} {i c k : Nat} (h : wr C D) (hc : zm_I D 546 5 = nI c) (h60 : c ≤ 60) (hi : i < c) (hk : k < 6) : zm_I C (zm_P C 172 i) k = zm_I D 551 (7 * i + k) := by
  obtain ⟨_, c', k1, c2, c3, b⟩ := h.2.1
  have e : c' = c := (nI_eq (by omega) (by omega)).mp (c2.symm.trans hc)
  exact (b i (by omega)).1 k hk
theorem wp_ok {C D : zm_M} (h : wr C D) : zp_ok C := fun j hj => by
  obtain ⟨i, hi, e⟩ := h.2.1.1.1 j hj
  rw [e]
  exact zl_le i hi
theorem wk_ok {C D : zm_M} (h : wr C D) : rk_ok C := by
  obtain ⟨_, c, c1, c2, c3, _⟩ := h.2.1
  exact rk_of c3 c1 (wp_ok h)
theorem wo_decided {C D : zm_M} {p pl : Nat} (h : wr C D) (hp : p < 2) (hpl : pl < 8) : zm_I C (45 + 63 * p + 39 + 3 * pl) 0 = zm_I D 559 (8 * p + pl) := ((h.2.2.1 p hp).2.2.2 pl hpl).1
theorem wo_readByte {C D : zm_M} {c x : Nat} (h : wr C D) (hc : zm_I D 546 25 = nI c) (hc24 : c ≤ 24) (hx : x < c) : fs_byte C 544 c x = zm_I D 569 x := by
  have e := gv_of hc (by omega)
  have := h.2.2.2.2 x (by omega)
  rw [e] at this
  exact this
theorem wo_from {C D : zm_M} {p : Nat} (h : wr C D) (hp : p < 2) : ∀ d k, k + d = 8 → fs_from C (45 + 63 * p) d k = if gs_ffL D p d k = 8 then -1 else nI (gs_ffL D p d k) := by
  intro d
  induction d with
  | zero =>
    intro k hk
    have e : k = 8 := by omega
    subst e
    rfl
  | succ d ih =>
    intro k hk
    obtain ⟨a1, a2, _⟩ := (h.2.2.1 p hp).2.2.2 k (by omega)
    show (if zm_I C (45 + 63 * p + 39 + 3 * k) 0 = 0 ∧ zm_I C (45 + 63 * p + 39 + 3 * k) 1 = 0 then nI k else fs_from C (45 + 63 * p) d (k + 1)) = if (if zm_I D 559 (8 * p + k) = 0 ∧ zm_I D 560 (8 * p + k) = 0 then k else gs_ffL D p d (k + 1)) = 8 then -1 else nI (if zm_I D 559 (8 * p + k) = 0 ∧ zm_I D 560 (8 * p + k) = 0 then k else gs_ffL D p d (k + 1))
    rw [a1, a2]
    by_cases c : zm_I D 559 (8 * p + k) = 0 ∧ zm_I D 560 (8 * p + k) = 0
    · rw [if_pos c, if_pos c, if_neg (by omega)]
    · rw [if_neg c, if_neg c]
      exact ih (k + 1) (by omega)
theorem wo_ff {C D : zm_M} {p : Nat} (h : wr C D) (hp : p < 2) : fs_ff C (45 + 63 * p) = gs_ff D p := by
  unfold fs_ff gs_ff
  rw [(h.2.2.1 p hp).1.2.1, wo_from h hp 8 0 rfl]
theorem wpc_lt : ∀ m, m < 128 → wpc m ≤ 7 := by decide +kernel
theorem wpc_bc : ∀ m, m < 128 → ff_bc (nI m) = nI (wpc m) := by decide +kernel
theorem wpc_bits : ∀ m, m < 128 → gs_bits (nI m) 7 = nI (wpc m) := by decide +kernel
theorem wo_state {C D : zm_M} {G : wG} {B p k : Nat} (h : wr C D) (hd : wd G B D) (hp : p < 2) (hk : k < 4) : fs_state C (45 + 63 * p) k = gs_state D p k := by
  obtain ⟨a1, a2, a3, a4, a5⟩ := (h.2.2.1 p hp).1
  obtain ⟨ph, w, m, dl, ⟨_, _, k3, _⟩, ⟨_, _, e3, _⟩, _⟩ := hd.2.2.2.2.1 p hp
  match k, hk with
  | 0, _ => exact a2
  | 1, _ => exact a3
  | 2, _ => exact wo_ff h hp
  | 3, _ =>
    show ff_bc (zm_I C (45 + 63 * p) 3) = gs_bits (zm_I D 555 p) 7
    rw [a4, e3, wpc_bc m k3, wpc_bits m k3]
  | k + 4, hk => omega
/-- a shelf's length at a place is a number up to 24 -/
theorem wd_len {G : wG} {B : Nat} {D : zm_M} {A o s pl : Nat} (h : wd_sh G B D A o s) (hz : ∀ pl v z, G pl v = some z → z.1 ≤ 24) (hpl : pl < 8) : ∃ len, len ≤ 24 ∧ zm_I D A (o + 11 * pl + 2) = nI len := by
  rcases (h pl hpl).2.1 with ⟨_, b⟩ | ⟨v, z, g, _, b, _⟩
  · exact ⟨0, by decide, b⟩
  · exact ⟨z.1, hz _ _ _ g, b⟩
theorem wo_cnt {C D : zm_M} {G : wG} {B s : Nat} (h : wr C D) (hd : wd G B D) (hs : s < 7) : ∀ k, k ≤ 8 → fs_count C (2 + 6 * s + 1) k = gs_cnt D s k
  | 0, _ => rfl
  | k + 1, hk => by
    show fs_count C (2 + 6 * s + 1) k + ff_third (zm_I C (2 + 6 * s + 1 + 3) k) = gs_cnt D s k + gs_third (zm_I D 550 (88 * s + 11 * k + 2))
    obtain ⟨len, l1, l2⟩ := wd_len (hd.2.2.2.1 s hs).2.2.2 (wg_z hd.2.1) (pl := k) (by omega)
    rw [wo_cnt h hd hs k (by omega), ((h.1 s hs).2.2.2 k (by omega)).2.2.1, l2, ff_third_nI (by omega), gs_third_nI (by omega)]
theorem wo_station {C D : zm_M} {G : wG} {B s k : Nat} (h : wr C D) (hd : wd G B D) (hs : s < 7) (hk : k < 4) : fs_station C s k = gs_station D s k := by
  match k, hk with
  | 0, _ => exact (h.1 s hs).1
  | 1, _ => exact wo_cnt h hd hs 8 (Nat.le_refl 8)
  | 2, _ =>
    show (if zm_I C (2 + 6 * s) 1 = 0 then nI 0 else nI 1) = if zm_I D 548 s = 0 then nI 1 else nI 0
    rcases wo_up s h hd hs with ⟨a, b⟩ | ⟨a, b⟩
    · rw [a, b]; decide
    · rw [a, b]; decide
  | 3, _ =>
    show (if zm_I C (2 + 6 * s) 2 = 0 then nI 0 else nI 1) = if zm_I D 549 s = 0 then nI 0 else nI 1
    rw [(h.1 s hs).2.2.1]
  | k + 4, hk => omega
theorem wb_get0 (x : Int64) (j : Nat) (hj : j < 8) : ((x.toUInt64 >>> ((nI 8 * nI j).toInt64.toUInt64 &&& Int64.toUInt64 63)).toInt64 &&& (255 : Int64)) = Int64.ofNat (wb x j) := by
  apply Int64.toBitVec_inj.mp
  apply BitVec.eq_of_toNat_eq
  rw [show (Int64.ofNat (wb x j)).toBitVec.toNat = wb x j % 2 ^ 64 from rfl, Nat.mod_eq_of_lt (by have := wb_lt x j; omega)]
  unfold wb
  rw [← Nat.and_two_pow_sub_one_eq_mod, ← Nat.shiftRight_eq_div_pow]
  match j, hj with
  | 0, _ => rfl
  | 1, _ => rfl
  | 2, _ => rfl
  | 3, _ => rfl
  | 4, _ => rfl
  | 5, _ => rfl
  | 6, _ => rfl
  | 7, _ => rfl
  | k + 8, hk => omega
theorem wb_get (x : Int64) {j : Nat} (hj : j < 8) : ((x.toUInt64 >>> ((nI 8 * nI j).toInt64.toUInt64 &&& Int64.toUInt64 63)).toInt64 &&& (255 : Int64)).toInt32 = nI (wb x j) := by
  rw [wb_get0 x j hj]
  exact Int64.toInt32_ofNat
theorem wo_share {C D : zm_M} {G : wG} {B s pl : Nat} {k : Int32} (hB : B < 2 ^ 30) (h : wr C D) (hd : wd G B D) (hs : s < 7) (hp : pl < 8) (hk : 0 ≤ k) : fs_shr C s pl k = gs_share D s pl k := by
  obtain ⟨x, hx, rfl⟩ := nI_of (fun z => absurd (Int32.lt_of_le_of_lt hk z) (by decide))
  obtain ⟨a1, a2, a3, a4⟩ := (h.1 s hs).2.2.2 pl hp
  have hz := hd.2.1
  unfold fs_shr gs_share
  rw [a1, a2, a3]
  rcases ((hd.2.2.2.1 s hs).2.2.2 pl hp).2.1 with ⟨b1, b2⟩ | ⟨v, z, g, b1, b2, b3⟩
  · rw [b1, b2, if_pos (by decide), if_pos (by decide)]
  · obtain ⟨⟨_, v1, v2, z1, z2, _⟩, _⟩ := hz _ _ _ g
    have hv : v < 2 ^ 31 := by omega
    rw [b1, b2, if_neg (nI_ne0 (by omega) hv), if_neg (nI_ne0 (by omega) (by omega)), gs_third_nI (by omega), ff_third_nI (by omega), nI_add, nI_clamp hx]
    have eg : gv D 550 (88 * s + 11 * pl + 2) = z.1 := gv_of b2 (by omega)
    by_cases c : x < 3 + (z.1 + 2) / 3
    · rw [if_pos (nI_lt c (by omega))]
      by_cases c0 : x = 0
      · subst c0; rw [if_pos rfl]; rfl
      by_cases c1 : x = 1
      · subst c1; rw [if_neg (by decide), if_pos rfl, ← b1]
      by_cases c2 : x = 2
      · subst c2; rw [if_neg (by decide), if_neg (by decide), if_pos rfl, ← b2]
      rw [if_neg (nI_ne c0 hx (by decide)), if_neg (nI_ne c1 hx (by decide)), if_neg (nI_ne c2 hx (by decide)), nI_subN (by omega), if_pos (nI_lt (by omega) (by omega)), wb_get _ (by omega)]
      have e := a4 (x - 3) (by omega) (by omega)
      rw [show 88 * s + 11 * pl + 3 + (x - 3) = 88 * s + 11 * pl + x by omega] at e
      exact e.symm
    · rw [if_neg (nI_nlt (by omega) hx), if_neg (nI_ne (by omega) hx (by decide)), if_neg (nI_ne (by omega) hx (by decide)), if_neg (nI_ne (by omega) hx (by decide)), nI_subN (by omega), if_neg (nI_nlt (by omega) (by omega))]
/-! up -/
theorem s_up {C D : zm_M} {G : wG} {B s : Nat} {x : Int32} (h : wr C D) (hd : wd G B D) (hs : s < 7) (hx : x = nI 0 ∨ x = nI 1) : ws B C D (zm_wI C (2 + 6 * s) 1 x) (zm_wI (gm_t D 0) 548 s (nI 1 - x)) ∧ (if zm_I C (2 + 6 * s) 1 = x then nI 0 else nI 1) = (if zm_I D 548 s = x then nI 1 else nI 0) := by
  have hrow : we (fun r => (547 ≤ r ∧ r ≤ 565 ∨ r = 569) ∧ r ≠ 548) D (zm_wI (gm_t D 0) 548 s (nI 1 - x)) := we_trans (we_wI (by omega)) (we_wI (by omega))
  have h5 : ∀ k, k ≠ 0 → zm_I (zm_wI (gm_t D 0) 548 s (nI 1 - x)) 546 k = zm_I D 546 k := fun k hk => (zm_In (Or.inl (by decide))).trans (zm_In (Or.inr hk))
  have hz := wg_z hd.2.1
  refine ⟨⟨⟨fun s' hs' => ?_, ?_, fun p hp => ?_, ?_⟩, ⟨G, gt_ok_c hd.1 (we_mono hrow (fun r hr => by omega)), wg_ok_c hd.2.1 (Nat.le_refl _) (we_mono hrow (fun r hr => by omega)), wd_lt_c hd.2.2.1 (fun _ _ _ q => q) (Nat.le_refl _) hz (h5 5 (by decide)) (we_mono hrow (fun r hr => by omega)), fun s' hs' => ?_, fun p hp => wd_pr_c (hd.2.2.2.2.1 p hp) (fun _ _ _ q => q) (Nat.le_refl _) hz (we_mono hrow (fun r hr => by omega)), ?_⟩, we_wI (by omega), we_trans (we_wI (by omega)) (we_wI (by omega))⟩, ?_⟩
  · obtain ⟨a1, a2, a3, a4⟩ := h.1 s' hs'
    refine ⟨?_, ?_, ?_, wr_sh_c a4 (fun pl _ => ⟨zm_In (Or.inl (by omega)), zm_In (Or.inl (by omega)), zm_In (Or.inl (by omega)), rfl⟩) (fun x _ => we_I hrow (by omega))⟩
    · rw [zm_In (Or.inr (by decide)), we_I hrow (by omega), a1]
    · by_cases e : s' = s
      · subst e
        rw [zm_Is, zm_Is]
        rcases hx with rfl | rfl <;> decide
      · rw [zm_In (Or.inl (by omega)), zm_In (Or.inr e), show zm_I (gm_t D 0) 548 s' = zm_I D 548 s' from zm_In (Or.inl (by decide)), a2]
    · rw [zm_In (Or.inr (by decide)), we_I hrow (by omega), a3]
  · exact wr_lt_c h.2.1 (we_wI (by omega)) (h5 5 (by decide)) (we_mono hrow (fun r hr => by omega))
  · exact wr_pr_c hp (h.2.2.1 p hp) (we_wI (by omega)) (we_mono hrow (fun r hr => by omega))
  · exact wr_rd_c h.2.2.2 (we_wI (by omega)) (h5 25 (by decide)) (fun x => we_I hrow (by omega))
  · obtain ⟨⟨u, a1, a1'⟩, a2, a3, a4⟩ := hd.2.2.2.1 s' hs'
    refine ⟨⟨u, a1, ?_⟩, ?_, ?_, wd_sh_c a4 (fun _ _ _ q => q) (Nat.le_refl _) (fun x _ => we_I hrow (by omega)) hz⟩
    · rw [we_I hrow (by omega), a1']
    · by_cases e : s' = s
      · subst e
        rw [zm_Is]
        rcases hx with rfl | rfl
        · exact Or.inr (by decide)
        · exact Or.inl (by decide)
      · rw [zm_In (Or.inr e), show zm_I (gm_t D 0) 548 s' = zm_I D 548 s' from zm_In (Or.inl (by decide))]
        exact a2
    · rw [we_I hrow (by omega)]; exact a3
  · obtain ⟨c, c1, c2⟩ := hd.2.2.2.2.2
    exact ⟨c, c1, (h5 25 (by decide)).trans c2⟩
  · rcases wo_up s h hd hs with ⟨a, b⟩ | ⟨a, b⟩ <;> rcases hx with rfl | rfl <;> rw [a, b] <;> decide
