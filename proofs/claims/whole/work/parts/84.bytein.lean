/-! Class against model (pure): byteIn; a finer look at what depends on what. (The rows bt, b_.., s_l, s_u began as kit/laws/BITS.to-paste.) -/
def bt (x : Int32) (i : Nat) : Bool := x.toBitVec.getLsbD i
theorem b_ext {x y : Int32} (h : ∀ i, i < 32 → bt x i = bt y i) : x = y := Int32.toBitVec_inj.mp (BitVec.eq_of_getLsbD_eq (fun i hi => h i hi))
theorem b_or (x y : Int32) (i : Nat) : bt (x ||| y) i = (bt x i || bt y i) := by unfold bt; rw [Int32.toBitVec_or, BitVec.getLsbD_or]
theorem b_and (x y : Int32) (i : Nat) : bt (x &&& y) i = (bt x i && bt y i) := by unfold bt; rw [Int32.toBitVec_and, BitVec.getLsbD_and]
theorem b_xor (x y : Int32) (i : Nat) : bt (x ^^^ y) i = (bt x i ^^ bt y i) := by unfold bt; rw [Int32.toBitVec_xor, BitVec.getLsbD_xor]
theorem b_big {x : Int32} {i : Nat} (h : 32 ≤ i) : bt x i = false := BitVec.getLsbD_of_ge _ _ h
theorem b_255 (i : Nat) : bt 255 i = decide (i < 8) := by
  rcases Nat.lt_or_ge i 32 with h | h
  · exact (by decide +kernel : ∀ i, i < 32 → bt 255 i = decide (i < 8)) i h
  · rw [b_big h, decide_eq_false (by omega)]
theorem b_65535 (i : Nat) : bt 65535 i = decide (i < 16) := by
  rcases Nat.lt_or_ge i 32 with h | h
  · exact (by decide +kernel : ∀ i, i < 32 → bt 65535 i = decide (i < 16)) i h
  · rw [b_big h, decide_eq_false (by omega)]
theorem b_m1 : ∀ i, i < 32 → bt (-1) i = true := by decide +kernel
theorem b_0 (i : Nat) : bt 0 i = false := BitVec.getLsbD_zero
theorem s_l : ∀ n, n < 32 → ((nI n &&& 31).toBitVec.smod 32).toNat = n := by decide +kernel
theorem s_u : ∀ n, n < 32 → (((nI n).toUInt32 &&& Int32.toUInt32 31).toBitVec % 32).toNat = n := by decide +kernel
theorem b_shl (n : Nat) (hn : n < 32) (x : Int32) {i : Nat} (hi : i < 32) : bt (x <<< (nI n &&& 31)) i = (decide (n ≤ i) && bt x (i - n)) := by
  unfold bt
  rw [Int32.toBitVec_shiftLeft]
  show (x.toBitVec <<< ((nI n &&& 31).toBitVec.smod 32).toNat).getLsbD i = _
  rw [s_l n hn, BitVec.getLsbD_shiftLeft]
  rcases Nat.lt_or_ge i n with h | h
  · simp [h, Nat.not_le.mpr h]
  · simp [hi, h, Nat.not_lt.mpr h]
theorem b_ushr (n : Nat) (hn : n < 32) (x : Int32) (i : Nat) : bt ((x.toUInt32 >>> ((nI n).toUInt32 &&& Int32.toUInt32 31)).toInt32) i = bt x (n + i) := by
  show (x.toUInt32 >>> ((nI n).toUInt32 &&& Int32.toUInt32 31)).toBitVec.getLsbD i = x.toUInt32.toBitVec.getLsbD (n + i)
  rw [UInt32.toBitVec_shiftRight]
  show (x.toUInt32.toBitVec >>> (((nI n).toUInt32 &&& Int32.toUInt32 31).toBitVec % 32).toNat).getLsbD i = _
  rw [s_u n hn, BitVec.getLsbD_ushiftRight]
theorem b_sshr (n : Nat) (hn : n < 32) (x : Int32) {i : Nat} (hi : i < 32) : bt (x >>> (nI n &&& 31)) i = if n + i < 32 then bt x (n + i) else bt x 31 := by
  unfold bt
  rw [Int32.toBitVec_shiftRight]
  show (x.toBitVec.sshiftRight ((nI n &&& 31).toBitVec.smod 32).toNat).getLsbD i = _
  rw [s_l n hn, BitVec.getLsbD_sshiftRight, BitVec.msb_eq_getLsbD_last]
  simp [hi]
theorem b_shl8 (x : Int32) {i : Nat} (hi : i < 32) : bt (x <<< ((8 : Int32) &&& 31)) i = (decide (8 ≤ i) && bt x (i - 8)) := b_shl 8 (by omega) x hi
theorem b_shl16 (x : Int32) {i : Nat} (hi : i < 32) : bt (x <<< ((16 : Int32) &&& 31)) i = (decide (16 ≤ i) && bt x (i - 16)) := b_shl 16 (by omega) x hi
theorem b_shl24 (x : Int32) {i : Nat} (hi : i < 32) : bt (x <<< ((24 : Int32) &&& 31)) i = (decide (24 ≤ i) && bt x (i - 24)) := b_shl 24 (by omega) x hi
theorem b_sshr8 (x : Int32) {i : Nat} (hi : i < 32) : bt (x >>> ((8 : Int32) &&& 31)) i = if 8 + i < 32 then bt x (8 + i) else bt x 31 := b_sshr 8 (by omega) x hi
/-- D' agrees with D at all that is proposer p's -/
def wep (p : Nat) (D D' : zm_M) : Prop := (∀ r, r = 553 ∨ r = 554 ∨ r = 555 ∨ r = 558 → zm_I D' r p = zm_I D r p) ∧ (∀ x, x < 24 → zm_I D' 557 (24 * p + x) = zm_I D 557 (24 * p + x)) ∧ (∀ x, x < 616 → zm_I D' 556 (616 * p + x) = zm_I D 556 (616 * p + x)) ∧ (∀ r, 559 ≤ r → r ≤ 562 → ∀ pl, pl < 8 → zm_I D' r (8 * p + pl) = zm_I D r (8 * p + pl)) ∧ ∀ pl, pl < 8 → ∀ x, x < 24 → zm_I D' 563 (24 * (8 * p + pl) + x) = zm_I D 563 (24 * (8 * p + pl) + x)
theorem wep_of {p : Nat} {D D' : zm_M} (h : we (fun r => 553 ≤ r ∧ r ≤ 563) D D') : wep p D D' := ⟨fun r hr => we_I h (by omega), fun x _ => we_I h (by omega), fun x _ => we_I h (by omega), fun r h1 h2 pl _ => we_I h (by omega), fun pl _ x _ => we_I h (by omega)⟩
theorem wd_p24 {G : wG} {B : Nat} {D : zm_M} {p : Nat} (h : wd_pr G B D p) (hz : ∀ pl v z, G pl v = some z → z.1 ≤ 24) : gv D 558 p ≤ 24 ∧ ∀ pl, pl < 8 → zm_I D 560 (8 * p + pl) ≠ 0 → gv D 561 (8 * p + pl) ≤ 24 := by
  obtain ⟨ph, w, m, dl, ⟨k1, k2, k3, k4⟩, ⟨e1, e2, e3, e4⟩, f1, f2, f3, f4, f5⟩ := h
  refine ⟨by rw [gv_of e4 (by omega)]; exact k4, fun pl hpl ne => ?_⟩
  rcases (f5 pl hpl).2 with a | ⟨_, v, z, m', g1, g2, g3, g4, g5, g6⟩
  · exact absurd (a.trans (by decide)) ne
  · have := hz _ _ _ g1
    rw [gv_of g5 (by omega)]
    exact this
theorem wr_sp_c2 {C C' D D' : zm_M} {p pl : Nat} (h : wr_sp C D p pl) (h24 : zm_I D 560 (8 * p + pl) ≠ 0 → gv D 561 (8 * p + pl) ≤ 24) (hC : we (fun r => 45 + 63 * p + 39 + 3 * pl ≤ r ∧ r < 45 + 63 * p + 39 + 3 * pl + 3) C C') (hD : ∀ r, 559 ≤ r → r ≤ 562 → zm_I D' r (8 * p + pl) = zm_I D r (8 * p + pl)) (hD2 : ∀ x, x < 24 → zm_I D' 563 (24 * (8 * p + pl) + x) = zm_I D 563 (24 * (8 * p + pl) + x)) : wr_sp C' D' p pl := by
  obtain ⟨a1, a2, a3⟩ := h
  refine ⟨?_, ?_, fun e => ?_⟩
  · rw [we_I hC (by omega), hD 559 (by decide) (by decide), a1]
  · rw [we_I hC (by omega), hD 560 (by decide) (by decide), a2]
  · rw [hD 560 (by decide) (by decide)] at e
    obtain ⟨b1, b2⟩ := a3 e
    have := h24 e
    refine ⟨by rw [we_I hC (by omega), hD 562 (by decide) (by decide), b1], ?_⟩
    rw [gv_c (hD 561 (by decide) (by decide))]
    exact wr_re_c b2 (we_mono hC (fun r hr => by omega)) (fun x hx => hD2 x (by omega))
theorem wr_pr_c2 {G : wG} {B : Nat} {C C' D D' : zm_M} {p : Nat} (hp : p < 2) (h : wr_pr C D p) (hd : wd_pr G B D p) (hz : ∀ pl v z, G pl v = some z → z.1 ≤ 24) (hC : we (fun r => 45 + 63 * p ≤ r ∧ r < 108 + 63 * p) C C') (hD : wep p D D') : wr_pr C' D' p := by
  obtain ⟨⟨a0, a1, a2, a3, a4⟩, b, c, d⟩ := h
  obtain ⟨d1, d2, d3, d4, d5⟩ := hD
  obtain ⟨l1, l2⟩ := wd_p24 hd hz
  refine ⟨⟨?_, ?_, ?_, ?_, ?_⟩, fun x hx => ?_, fun s hs e => ?_, fun pl hpl => ?_⟩
  · rw [we_I hC (by omega), a0]
  · rw [we_I hC (by omega), d1 _ (by omega), a1]
  · rw [we_I hC (by omega), d1 _ (by omega), a2]
  · rw [we_I hC (by omega), d1 _ (by omega), a3]
  · rw [we_I hC (by omega), d1 _ (by omega), a4]
  · rw [gv_c (d1 558 (by omega))] at hx
    rw [we_I hC (by omega), d2 x (by omega), b x hx]
  · rw [gv_c (d1 555 (by omega))] at e
    exact wr_sh_c (c s hs e) (fun pl _ => ⟨we_I hC (by omega), we_I hC (by omega), we_I hC (by omega), we_J hC (by omega)⟩) (fun x hx => by rw [Nat.add_assoc]; exact d3 _ (by omega))
  · exact wr_sp_c2 (d pl hpl) (l2 pl hpl) (we_mono hC (fun r hr => by omega)) (fun r h1 h2 => d4 r h1 h2 pl hpl) (fun x hx => d5 pl hpl x hx)
theorem wd_pr_c2 {G G' : wG} {B B' : Nat} {D D' : zm_M} {p : Nat} (h : wd_pr G B D p) (hG : ∀ pl v z, G pl v = some z → G' pl v = some z) (hB : B ≤ B') (hz : ∀ pl v z, G pl v = some z → z.1 ≤ 24) (hD : wep p D D') : wd_pr G' B' D' p := by
  obtain ⟨ph, w, m, dl, ⟨k1, k2, k3, k4⟩, ⟨e1, e2, e3, e4⟩, f1, f2, f3, f4, f5⟩ := h
  obtain ⟨d1, d2, d3, d4, d5⟩ := hD
  refine ⟨ph, w, m, dl, ⟨k1, by omega, k3, k4⟩, ⟨(d1 553 (by omega)).trans e1, (d1 554 (by omega)).trans e2, (d1 555 (by omega)).trans e3, (d1 558 (by omega)).trans e4⟩, fun x hx => ?_, f2, f3, fun s hs e => wd_sh_c (f4 s hs e) hG hB (fun x hx => by rw [Nat.add_assoc]; exact d3 _ (by omega)) hz, fun pl hpl => wd_sp_c (f5 pl hpl) hG hB (fun r h1 h2 => d4 r h1 h2 pl hpl) hz (fun x hx => d5 pl hpl x hx)⟩
  obtain ⟨u, q1, q2⟩ := f1 x hx
  exact ⟨u, q1, (d2 x (by omega)).trans q2⟩
/-! the bytes of a word -/
theorem wy_dec : ∀ b, b < 256 → (vp_nar .byte (Int8.ofNat b).toInt32).toInt64 &&& (255 : Int64) = (nI b).toInt64 := by decide +kernel
theorem nI_and (a b : Nat) : nI a &&& nI b = nI (a &&& b) := by
  apply Int32.toBitVec_inj.mp
  show BitVec.ofNat 32 a &&& BitVec.ofNat 32 b = BitVec.ofNat 32 (a &&& b)
  apply BitVec.eq_of_getLsbD_eq
  intro i hi
  simp [hi]
theorem nI_self (y : Int32) : y = nI y.toBitVec.toNat := by
  apply Int32.toBitVec_inj.mp
  apply BitVec.eq_of_toNat_eq
  show y.toBitVec.toNat = y.toBitVec.toNat % 2 ^ 32
  exact (Nat.mod_eq_of_lt y.toBitVec.isLt).symm
theorem wy_and (y : Int32) : y &&& nI 255 = nI (y.toBitVec.toNat % 256) := by
  rw [nI_self y, nI_and, ← nI_self y, show (255 : Nat) = 2 ^ 8 - 1 from rfl, Nat.and_two_pow_sub_one_eq_mod]
theorem wy_i8 (y : Int32) : y.toInt8 = Int8.ofNat (y.toBitVec.toNat % 256) := by
  have e : y.toInt8 = Int8.ofNat y.toBitVec.toNat := by
    have := congrArg Int32.toInt8 (nI_self y)
    rw [this]
    exact Int32.toInt8_ofNat
  rw [e]
  apply Int8.toBitVec_inj.mp
  apply BitVec.eq_of_toNat_eq
  show y.toBitVec.toNat % 2 ^ 8 = y.toBitVec.toNat % 256 % 2 ^ 8
  omega
theorem wy_sh (w : Int32) {j : Nat} (hj : j < 4) : (w >>> (nI (8 * j) &&& 31)) &&& nI 255 = (w.toUInt32 >>> ((nI (8 * j)).toUInt32 &&& Int32.toUInt32 31)).toInt32 &&& nI 255 := by
  apply b_ext
  intro i hi
  rw [b_and, b_and, b_sshr _ (by omega) _ hi, b_ushr _ (by omega), show nI 255 = 255 from rfl, b_255]
  by_cases c : i < 8
  · rw [if_pos (by omega)]
  · simp [c]
theorem wy_byte (w : Int32) {j : Nat} (hj : j < 4) : (vp_nar .byte ((w.toUInt32 >>> ((nI 8 * nI j).toUInt32 &&& Int32.toUInt32 31)).toInt32.toInt8.toInt32)).toInt64 &&& (255 : Int64) = ((w >>> (nI (8 * j) &&& 31)) &&& nI 255).toInt64 := by
  rw [wy_sh w hj, nI_mul, wy_i8, wy_and]
  exact wy_dec _ (Nat.mod_lt _ (by decide))
theorem wy_lt (w : Int32) (m x : Nat) : ∃ u, u < 256 ∧ gs_wb w m x = nI u := ⟨_, Nat.mod_lt _ (by decide), wy_and _⟩
/-! byteIn -/
theorem wr_at {C : zm_M} {r dl m : Nat} {w : Int32} : ∀ d, d ≤ m → we (fun x => x ≠ r ∧ x ≠ r + 1) C (zm_it (fm_wrS r w dl m) d C) ∧ (∀ x, x < d → zm_I (zm_it (fm_wrS r w dl m) d C) (r + 1) (dl + x) = vp_nar .byte ((w.toUInt32 >>> ((nI 8 * nI (m - 1 - x)).toUInt32 &&& Int32.toUInt32 31)).toInt32.toInt8.toInt32)) ∧ (∀ k, k < dl → zm_I (zm_it (fm_wrS r w dl m) d C) (r + 1) k = zm_I C (r + 1) k) ∧ (∀ k, k ≠ 4 → zm_I (zm_it (fm_wrS r w dl m) d C) r k = zm_I C r k) ∧ (0 < d → zm_I (zm_it (fm_wrS r w dl m) d C) r 4 = nI (dl + d)) := by
  intro d
  induction d with
  | zero => exact fun _ => ⟨we_refl, fun x hx => absurd hx (Nat.not_lt_zero _), fun _ _ => rfl, fun _ _ => rfl, fun h => absurd h (by decide)⟩
  | succ d ih =>
    intro hd
    obtain ⟨i1, i2, i3, i4, i5⟩ := ih (by omega)
    show we (fun x => x ≠ r ∧ x ≠ r + 1) C (fm_wrS r w dl m d (zm_it (fm_wrS r w dl m) d C)) ∧ (∀ x, x < d + 1 → zm_I (fm_wrS r w dl m d (zm_it (fm_wrS r w dl m) d C)) (r + 1) (dl + x) = _) ∧ (∀ k, k < dl → zm_I (fm_wrS r w dl m d (zm_it (fm_wrS r w dl m) d C)) (r + 1) k = _) ∧ (∀ k, k ≠ 4 → zm_I (fm_wrS r w dl m d (zm_it (fm_wrS r w dl m) d C)) r k = _) ∧ (0 < d + 1 → zm_I (fm_wrS r w dl m d (zm_it (fm_wrS r w dl m) d C)) r 4 = _)
    generalize zm_it (fm_wrS r w dl m) d C = N at i1 i2 i3 i4 i5
    unfold fm_wrS
    refine ⟨we_trans i1 (we_trans (we_wI (by omega)) (we_wI (by omega))), fun x hx => ?_, fun k hk => ?_, fun k hk => ?_, fun _ => zm_Is⟩
    · rw [zm_In (Or.inl (by omega))]
      by_cases c : x = d
      · subst c; exact zm_Is
      · rw [zm_In (Or.inr (by omega))]
        exact i2 x (by omega)
    · rw [zm_In (Or.inl (by omega)), zm_In (Or.inr (by omega))]
      exact i3 k hk
    · rw [zm_In (Or.inr hk), zm_In (Or.inl (by omega))]
      exact i4 k hk
theorem bi_7 {D : zm_M} {p dl m x : Nat} {w : Int32} : zm_I (gm_bi D p w dl m m) 557 x = if 24 * p + dl ≤ x ∧ x < 24 * p + dl + m then gs_wb w m (x - (24 * p + dl)) else zm_I D 557 x := by
  unfold gm_bi
  rw [zm_In (Or.inl (by decide)), gm_upI]
  by_cases e : 24 * p + dl ≤ x ∧ x < 24 * p + dl + m
  · rw [if_pos ⟨rfl, e⟩, if_pos e]
  · rw [if_neg (fun z => e z.2), if_neg e]
    exact zm_In (Or.inl (by decide))
theorem bi_8 {D : zm_M} {p dl m x : Nat} {w : Int32} : zm_I (gm_bi D p w dl m m) 558 x = if x = p then nI (dl + m) else zm_I D 558 x := by
  unfold gm_bi
  by_cases e : x = p
  · rw [if_pos e, e, zm_Is]
  · rw [if_neg e, zm_In (Or.inr e), gm_upn (Or.inl (by decide))]
    exact zm_In (Or.inl (by decide))
theorem s_byteIn {C D : zm_M} {G : wG} {B p dl m : Nat} {w : Int32} (h : wr C D) (hd : wd G B D) (hp : p < 2) (hdl : zm_I D 558 p = nI dl) (hm : 1 ≤ m) (hm4 : m ≤ 4) (hfit : dl + m ≤ 24) : ws B C D (fm_wr C (45 + 63 * p) w dl m) (gm_bi D p w dl m m) := by
  have hz := wg_z hd.2.1
  have hw : we (fun r => r ≠ 546 ∧ r ≠ 557 ∧ r ≠ 558) D (gm_bi D p w dl m m) := we_trans (we_trans (we_wI (by omega)) (we_up (by omega))) (we_wI (by omega))
  have h5 : ∀ k, k ≠ 0 → zm_I (gm_bi D p w dl m m) 546 k = zm_I D 546 k := fun k hk => (zm_In (Or.inl (by decide))).trans ((gm_upn (Or.inl (by decide))).trans (zm_In (Or.inr hk)))
  obtain ⟨i1, i2, i3, i4, i5⟩ := wr_at (C := C) (r := 45 + 63 * p) (dl := dl) (m := m) (w := w) m (Nat.le_refl _)
  have i5' := i5 (by omega)
  have hwep : ∀ p', p' < 2 → p' ≠ p → wep p' D (gm_bi D p w dl m m) := fun p' h2 hne => ⟨fun r hr => by
      by_cases e : r = 558
      · subst e; rw [bi_8, if_neg hne]
      · exact we_I hw (by omega), fun x hx => by rw [bi_7, if_neg (by omega)], fun x _ => we_I hw (by omega), fun r h1 h2 pl _ => we_I hw (by omega), fun pl _ x _ => we_I hw (by omega)⟩
  refine ⟨⟨fun s hs => wr_st_c (h.1 s hs) (we_mono i1 (fun r hr => by omega)) (we_mono hw (fun r hr => by omega)), wr_lt_c h.2.1 (we_mono i1 (fun r hr => by omega)) (h5 5 (by decide)) (we_mono hw (fun r hr => by omega)), fun p' hp' => ?_, wr_rd_c h.2.2.2 (we_mono i1 (fun r hr => by omega)) (h5 25 (by decide)) (fun x => we_I hw (by decide))⟩, ⟨G, gt_ok_c hd.1 (we_mono hw (fun r hr => by omega)), wg_ok_c hd.2.1 (Nat.le_refl _) (we_mono hw (fun r hr => by omega)), wd_lt_c hd.2.2.1 (fun _ _ _ q => q) (Nat.le_refl _) hz (h5 5 (by decide)) (we_mono hw (fun r hr => by omega)), fun s hs => wd_st_c (hd.2.2.2.1 s hs) (fun _ _ _ q => q) (Nat.le_refl _) hz (we_mono hw (fun r hr => by omega)), fun p' hp' => ?_, ?_⟩, we_mono i1 (fun r hr => by omega), we_mono hw (fun r hr => by omega)⟩
  · by_cases e : p' = p
    · subst e
      obtain ⟨⟨a0, a1, a2, a3, a4⟩, b, c, d⟩ := h.2.2.1 p' hp'
      have eg : gv D 558 p' = dl := gv_of hdl (by omega)
      have eg' : gv (gm_bi D p' w dl m m) 558 p' = dl + m := gv_of (by rw [bi_8, if_pos rfl]) (by omega)
      refine ⟨⟨?_, ?_, ?_, ?_, ?_⟩, fun x hx => ?_, fun s hs e => ?_, fun pl hpl => ?_⟩
      · show zm_I (zm_it _ _ _) _ _ = _
        rw [i4 0 (by decide), a0]
      · show zm_I (zm_it _ _ _) _ _ = _
        rw [i4 1 (by decide), we_I hw (by decide), a1]
      · show zm_I (zm_it _ _ _) _ _ = _
        rw [i4 2 (by decide), we_I hw (by decide), a2]
      · show zm_I (zm_it _ _ _) _ _ = _
        rw [i4 3 (by decide), we_I hw (by decide), a3]
      · show zm_I (zm_it _ _ _) _ _ = _
        rw [i5', bi_8, if_pos rfl]
      · rw [eg'] at hx
        by_cases cx : x < dl
        · rw [show zm_I (fm_wr C (45 + 63 * p') w dl m) (45 + 63 * p' + 1) x = zm_I C (45 + 63 * p' + 1) x from i3 x cx, bi_7, if_neg (by omega)]
          exact b x (by omega)
        · obtain ⟨y, hy⟩ : ∃ y, x = dl + y := ⟨x - dl, by omega⟩
          subst hy
          rw [show zm_I (fm_wr C (45 + 63 * p') w dl m) (45 + 63 * p' + 1) (dl + y) = _ from i2 y (by omega), bi_7, if_pos (by omega), show 24 * p' + (dl + y) - (24 * p' + dl) = y by omega]
          exact wy_byte w (j := m - 1 - y) (by omega)
      · rw [gv_c (we_I hw (by decide))] at e
        exact wr_sh_c (c s hs e) (fun pl _ => ⟨we_I i1 (by omega), we_I i1 (by omega), we_I i1 (by omega), we_J i1 (by omega)⟩) (fun x _ => we_I hw (by decide))
      · exact wr_sp_c (d pl hpl) (we_mono i1 (fun r hr => by omega)) (fun r h1 h2 => we_I hw (by omega)) (fun x _ => we_I hw (by decide))
    · exact wr_pr_c2 hp' (h.2.2.1 p' hp') (hd.2.2.2.2.1 p' hp') hz (we_mono i1 (fun r hr => by omega)) (hwep p' hp' e)
  · by_cases e : p' = p
    · subst e
      obtain ⟨ph, w', m', dl', ⟨k1, k2, k3, k4⟩, ⟨e1, e2, e3, e4⟩, f1, f2, f3, f4, f5⟩ := hd.2.2.2.2.1 p' hp'
      have edl : dl' = dl := (nI_eq (by omega) (by omega)).mp (e4.symm.trans hdl)
      subst edl
      refine ⟨ph, w', m', dl' + m, ⟨k1, k2, k3, hfit⟩, ⟨(we_I hw (by decide)).trans e1, (we_I hw (by decide)).trans e2, (we_I hw (by decide)).trans e3, by rw [bi_8, if_pos rfl]⟩, fun x hx => ?_, f2, f3, fun s hs e => wd_sh_c (f4 s hs e) (fun _ _ _ q => q) (Nat.le_refl _) (fun x hx => we_I hw (by decide)) hz, fun pl hpl => wd_sp_c (f5 pl hpl) (fun _ _ _ q => q) (Nat.le_refl _) (fun r h1 h2 => we_I hw (by omega)) hz (fun x hx => we_I hw (by decide))⟩
      rw [bi_7]
      by_cases cx : x < dl'
      · rw [if_neg (by omega)]
        exact f1 x cx
      · rw [if_pos (by omega)]
        exact wy_lt w m _
    · exact wd_pr_c2 (hd.2.2.2.2.1 p' hp') (fun _ _ _ q => q) (Nat.le_refl _) hz (hwep p' hp' e)
  · obtain ⟨k, k1, k2⟩ := hd.2.2.2.2.2
    exact ⟨k, k1, (h5 25 (by decide)).trans k2⟩
