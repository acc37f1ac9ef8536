/-! Class against model (pure): deliver, by the letter's kind -/
theorem dv_0 {D : zm_M} {i c x : Nat} (hx : x < 7) : zm_I (gm_dv D i c) 570 x = zm_I D 551 (7 * i + x) := (we_I rm_we (by decide)).trans (dv2_0 hx)
theorem sub_self {c : Nat} : nI c - nI c = nI 0 := by rw [nI_subN (Nat.le_refl _), Nat.sub_self]
/-- what a deliver owes -/
def wsd (B : Nat) (C D C' : zm_M) (i c : Nat) : Prop := ∃ D' r, ws B C D C' D' ∧ zm_I D' 546 0 = nI 0 ∧ zm_I C' 171 0 - nI c = r ∧ ∀ (l : Launch) (Dv : va_G) (ar : Nat → ClassId) (b : Nat) (Z : State → Prop) (nn : Nat), zK l Dv ar b Z y_Mo_deliver 9 [.ref (b + 546), .int (nI i)] D nn (some (.int r)) D'
section DV
variable {C D : zm_M} {G : wG} {B i c s p : Nat}
theorem s_dv0 (h : wr C D) (hd : wd G B D) (hc : zm_I D 546 5 = nI (c + 1)) (h60 : c < 60) (hi : i ≤ c) (hs : s < 7) (hp : p < 2) (k0 : zm_I D 551 (7 * i + 0) = nI 0) (k1 : zm_I D 551 (7 * i + 1) = nI s) (k2 : zm_I D 551 (7 * i + 2) = nI p) : wsd B C D (fm_bp (fm_take C i c) (zm_P C 172 i) s) i c := by
  obtain ⟨d1, d2, d3, d4, d5, d6, d7⟩ := dv h hd hc h60 hi
  obtain ⟨j2, jl, e2⟩ := h.2.1.1.1 i (by omega)
  obtain ⟨_, _, _, u, ⟨_, _, _, hu⟩, ⟨_, _, _, q3⟩, _, _⟩ := d5
  have g0 : zm_I (gm_dv D i c) 570 0 = nI 0 := (dv_0 (by decide)).trans k0
  have g1 : zm_I (gm_dv D i c) 570 1 = nI s := (dv_0 (by decide)).trans k1
  have g2 : zm_I (gm_dv D i c) 570 2 = nI p := (dv_0 (by decide)).trans k2
  have hlow : we (fun r => 546 ≤ r) C (fm_take C i c) := we_mono take_we (fun r hr => by omega)
  have e171 : zm_I (fm_take C i c) 171 0 = nI c := fm_take_c
  by_cases hN : zm_I (gm_dv D i c) 548 s ≠ 0 ∨ zm_I (gm_dv D i c) 549 s ≠ 0 ∨ nI u < zm_I (gm_dv D i c) 547 s
  · have eB : fm_bp (fm_take C i c) (zm_P C 172 i) s = fm_take C i c := by
      unfold fm_bp
      rw [d4.1 3 (by decide), q3, heeds d1 d2 hs, if_pos hN, if_pos rfl]
    rw [eB]
    refine ⟨gm_dv D i c, nI 0, ⟨d1, ⟨G, d2⟩, hlow, d7⟩, kt_dv, by rw [e171, sub_self], fun l Dv ar b Z nn => ?_⟩
    exact c_Mo_deliver hc h60 hi (by decide) (c_Mo_comesN (Or.inl rfl) g0 g1 g2 hs (by rw [q3]; exact hN))
  · obtain ⟨x1, x2, x3, x4, x5⟩ := come0 (q := zm_P C 172 i) d1 d2 d3 h60 hs hp hu ((d4.1 1 (by decide)).trans g1) ((d4.1 2 (by decide)).trans g2) ((d4.1 3 (by decide)).trans q3) (by omega) hN
    refine ⟨gm_cp (gm_dv D i c) s p c (nI u) 88, nI 1, ⟨x1, ⟨G, x2⟩, we_trans hlow x3, we_trans d7 x4⟩, kt_cp.trans kt_dv, x5, fun l Dv ar b Z nn => ?_⟩
    have u1 : zm_I (gm_dv D i c) 548 s = 0 := Classical.byContradiction (fun z => hN (Or.inl z))
    have u2 : zm_I (gm_dv D i c) 549 s = 0 := Classical.byContradiction (fun z => hN (Or.inr (Or.inl z)))
    have u3 : zm_I (gm_dv D i c) 547 s ≤ nI u := Int32.not_lt.mp (fun z => hN (Or.inr (Or.inr z)))
    exact c_Mo_deliver hc h60 hi (by decide) (c_Mo_comesP1 g0 g1 g2 q3 hs u1 u2 u3 d3 h60)
theorem s_dv2 {pl : Nat} (h : wr C D) (hd : wd G B D) (hc : zm_I D 546 5 = nI (c + 1)) (h60 : c < 60) (hi : i ≤ c) (hs : s < 7) (hp : p < 2) (hpl : pl < 8) (k0 : zm_I D 551 (7 * i + 0) = nI 2) (k1 : zm_I D 551 (7 * i + 1) = nI s) (k2 : zm_I D 551 (7 * i + 2) = nI p) (k4 : zm_I D 551 (7 * i + 4) = nI pl) : wsd B C D (fm_ba (fm_take C i c) (zm_P C 172 i) s pl) i c := by
  obtain ⟨d1, d2, d3, d4, d5, d6, d7⟩ := dv h hd hc h60 hi
  obtain ⟨j2, jl, e2⟩ := h.2.1.1.1 i (by omega)
  have g0 : zm_I (gm_dv D i c) 570 0 = nI 2 := (dv_0 (by decide)).trans k0
  have g1 : zm_I (gm_dv D i c) 570 1 = nI s := (dv_0 (by decide)).trans k1
  have g2 : zm_I (gm_dv D i c) 570 2 = nI p := (dv_0 (by decide)).trans k2
  have g4 : zm_I (gm_dv D i c) 570 4 = nI pl := (dv_0 (by decide)).trans k4
  obtain ⟨k', s', p', u, ⟨kl, sl, _, hu⟩, ⟨q0, q1, q2, q3⟩, _, q5⟩ := d5
  have ek : k' = 2 := (nI_eq (by omega) (by decide)).mp (q0.symm.trans g0)
  subst ek
  have es : s' = s := (nI_eq (by omega) (by omega)).mp (q1.symm.trans g1)
  subst es
  obtain ⟨pl', v, z, pll, hG, r4, r5, r6⟩ := q5 (by decide)
  have epl : pl' = pl := (nI_eq (by omega) (by omega)).mp (r4.symm.trans g4)
  subst epl
  obtain ⟨r6, r7⟩ := r6 rfl
  obtain ⟨⟨_, _, _, z1, z2, z3⟩, _⟩ := hd.2.1 _ _ _ hG
  obtain ⟨w6, w7⟩ := d4.2.2 g0
  have hlow : we (fun r => 546 ≤ r) C (fm_take C i c) := we_mono take_we (fun r hr => by omega)
  have e171 : zm_I (fm_take C i c) 171 0 = nI c := fm_take_c
  by_cases hN : zm_I (gm_dv D i c) 548 s' ≠ 0 ∨ zm_I (gm_dv D i c) 549 s' ≠ 0 ∨ nI u < zm_I (gm_dv D i c) 547 s'
  · have eB : fm_ba (fm_take C i c) (zm_P C 172 i) s' pl' = fm_take C i c := by
      unfold fm_ba
      rw [d4.1 3 (by decide), q3, heeds d1 d2 hs, if_pos hN, if_pos rfl]
    rw [eB]
    refine ⟨gm_dv D i c, nI 0, ⟨d1, ⟨G, d2⟩, hlow, d7⟩, kt_dv, by rw [e171, sub_self], fun l Dv ar b Z nn => ?_⟩
    exact c_Mo_deliver hc h60 hi (by decide) (c_Mo_comesN (Or.inr rfl) g0 g1 g2 hs (by rw [q3]; exact hN))
  · have hq2 : zm_P C 172 i ≠ zm_P (fm_take C i c) 172 c := fun e => by
      have t1 := (take_pm h.2.1.1 hi h60).2 60 (by decide) c (by omega) (by rw [d6, e])
      omega
    obtain ⟨x1, x2, x3, x4, x5⟩ := come2 (q := zm_P C 172 i) (p := p) d1 d2 d3 h60 hs hp hu hpl hG ((d4.1 1 (by decide)).trans g1) ((d4.1 2 (by decide)).trans g2) ((d4.1 3 (by decide)).trans q3) ((d4.1 4 (by decide)).trans g4) ((d4.1 5 (by decide)).trans r5) (w6.trans r6) (fun j hj hj2 => w7 j hj (by rw [gv_of r6 (by omega)]; exact hj2)) r7 (by omega) hq2 hN
    refine ⟨gm_ca (gm_dv D i c) s' p pl' z.1 c (nI u) (nI v), nI 1, ⟨x1, ⟨G, x2⟩, we_trans hlow x3, we_trans d7 x4⟩, kt_ca.trans kt_dv, x5, fun l Dv ar b Z nn => ?_⟩
    have u1 : zm_I (gm_dv D i c) 548 s' = 0 := Classical.byContradiction (fun z => hN (Or.inl z))
    have u2 : zm_I (gm_dv D i c) 549 s' = 0 := Classical.byContradiction (fun z => hN (Or.inr (Or.inl z)))
    have u3 : zm_I (gm_dv D i c) 547 s' ≤ nI u := Int32.not_lt.mp (fun z => hN (Or.inr (Or.inr z)))
    exact c_Mo_deliver hc h60 hi (by decide) (c_Mo_comesA1 g0 g1 g2 q3 g4 r5 r6 hs hpl z2 u1 u2 u3 d3 h60)
theorem s_dv3 {pl : Nat} (hB : B < 2 ^ 30) (h : wr C D) (hd : wd G B D) (hc : zm_I D 546 5 = nI (c + 1)) (h60 : c < 60) (hi : i ≤ c) (hs : s < 7) (hp : p < 2) (hpl : pl < 8) (k0 : zm_I D 551 (7 * i + 0) = nI 3) (k1 : zm_I D 551 (7 * i + 1) = nI s) (k2 : zm_I D 551 (7 * i + 2) = nI p) (k4 : zm_I D 551 (7 * i + 4) = nI pl) : wsd B C D (fm_ha (fm_take C i c) (45 + 63 * p) (zm_P C 172 i) pl s) i c := by
  obtain ⟨d1, d2, d3, d4, d5, d6, d7⟩ := dv h hd hc h60 hi
  have g0 : zm_I (gm_dv D i c) 570 0 = nI 3 := (dv_0 (by decide)).trans k0
  have g1 : zm_I (gm_dv D i c) 570 1 = nI s := (dv_0 (by decide)).trans k1
  have g2 : zm_I (gm_dv D i c) 570 2 = nI p := (dv_0 (by decide)).trans k2
  have g4 : zm_I (gm_dv D i c) 570 4 = nI pl := (dv_0 (by decide)).trans k4
  have hlow : we (fun r => 546 ≤ r) C (fm_take C i c) := we_mono take_we (fun r hr => by omega)
  have e171 : zm_I (fm_take C i c) 171 0 = nI c := fm_take_c
  obtain ⟨x1, x2, x3, x4⟩ := come3 (q := zm_P C 172 i) hB d1 d2 hs hp hpl (d4.1 3 (by decide)) (d4.1 5 (by decide))
  refine ⟨gm_acd (gm_dv D i c) s p pl, nI 0, ⟨x1, ⟨G, x2⟩, we_trans hlow (we_mono x3 (fun r hr => by omega)), we_trans d7 x4⟩, kt_acd.trans kt_dv, ?_, fun l Dv ar b Z nn => ?_⟩
  · rw [we_I x3 (by omega), e171, sub_self]
  · exact c_Mo_deliver hc h60 hi (by decide) (c_Mo_comes3 hp hpl g0 g1 g2 g4)
theorem s_dv1 (hB : B < 2 ^ 30) (h : wr C D) (hd : wd G B D) (hc : zm_I D 546 5 = nI (c + 1)) (h60 : c < 60) (hi : i ≤ c) (hs : s < 7) (hp : p < 2) (k0 : zm_I D 551 (7 * i + 0) = nI 1) (k1 : zm_I D 551 (7 * i + 1) = nI s) (k2 : zm_I D 551 (7 * i + 2) = nI p) : wsd B C D (fm_bpr (fm_take C i c) (45 + 63 * p) (zm_P C 172 i) s) i c := by
  obtain ⟨d1, d2, d3, d4, d5, d6, d7⟩ := dv h hd hc h60 hi
  obtain ⟨j2, jl, e2⟩ := h.2.1.1.1 i (by omega)
  have g0 : zm_I (gm_dv D i c) 570 0 = nI 1 := (dv_0 (by decide)).trans k0
  have g1 : zm_I (gm_dv D i c) 570 1 = nI s := (dv_0 (by decide)).trans k1
  have g2 : zm_I (gm_dv D i c) 570 2 = nI p := (dv_0 (by decide)).trans k2
  obtain ⟨k', s', p', u, ⟨kl, sl, _, hu⟩, ⟨q0, q1, q2, q3⟩, q4, _⟩ := d5
  have ek : k' = 1 := (nI_eq (by omega) (by decide)).mp (q0.symm.trans g0)
  subst ek
  have es : s' = s := (nI_eq (by omega) (by omega)).mp (q1.symm.trans g1)
  subst es
  have hdn := q4 rfl
  have hin := d4.2.1 g0
  have hlow : we (fun r => 546 ≤ r) C (fm_take C i c) := we_mono take_we (fun r hr => by omega)
  have e171 : zm_I (fm_take C i c) 171 0 = nI c := fm_take_c
  have c1q := (d4.1 1 (by decide)).trans g1
  have c3q := (d4.1 3 (by decide))
  have ktD : zm_I (gm_dv D i c) 546 0 = nI 0 := kt_dv
  generalize hD3 : gm_dv D i c = D3 at d1 d2 d3 d4 d7 g0 g1 g2 q3 hdn hin c3q ktD
  generalize fm_take C i c = C1 at d1 d4 d6 hlow e171 hin c1q c3q
  generalize zm_P C 172 i = q at d4 d6 e2 hin c1q c3q
  obtain ⟨⟨a0, a1, a2, a3, a4⟩, bb, cc, dd⟩ := d1.2.2.1 p hp
  obtain ⟨ph, w, m, dl, ⟨kk1, kk2, kk3, kk4⟩, ⟨e1, e22, e3, e4⟩, f1, f2, f3, f4, f5⟩ := d2.2.2.2.2.1 p hp
  have hdel : ∀ (l : Launch) (Dv : va_G) (ar : Nat → ClassId) (b : Nat) (Z : State → Prop) (nn d : Nat) (r : Int32) (ME : zm_M), d < 8 → zK l Dv ar b Z y_Mo_promiseComes d [.ref (b + 546), .int (nI s'), .int (nI p)] D3 nn (some (.int r)) ME → zK l Dv ar b Z y_Mo_deliver 9 [.ref (b + 546), .int (nI i)] D nn (some (.int r)) ME := fun l Dv ar b Z nn d r ME hd8 hk => c_Mo_deliver (d := 8) hc h60 hi (by decide) (by rw [hD3]; exact c_Mo_comes1 hd8 g0 g1 g2 hk)
  have hbit : ff_bit (zm_I C1 (45 + 63 * p) 3) s' = nI 1 ↔ gs_hb D3 p s' := by
    rw [a3, e3]
    show _ ↔ ((zm_I D3 555 p >>> (nI s' &&& 31)) &&& nI 1 = nI 1)
    rw [e3]
    exact (bit_c m kk3 s' hs).trans (bit_m m kk3 s' hs).symm
  have hhear : (zm_I C1 (45 + 63 * p) 1 = nI 1 ∧ zm_I C1 q 3 = zm_I C1 (45 + 63 * p) 2 ∧ ff_bit (zm_I C1 (45 + 63 * p) 3) s' ≠ nI 1) ↔ (zm_I D3 553 p = nI 1 ∧ zm_I D3 570 3 = zm_I D3 554 p ∧ ¬ gs_hb D3 p s') := by
    rw [a1, c3q, a2]
    exact and_congr_right (fun _ => and_congr_right (fun _ => not_congr hbit))
  by_cases hh : zm_I D3 553 p = nI 1 ∧ zm_I D3 570 3 = zm_I D3 554 p ∧ ¬ gs_hb D3 p s'
  · have eph : ph = 1 := (nI_eq (by omega) (by decide)).mp (e1.symm.trans hh.1)
    subst eph
    have hnb : m / 2 ^ s' % 2 ≠ 1 := fun z => hh.2.2 (by
      show (zm_I D3 555 p >>> (nI s' &&& 31)) &&& nI 1 = nI 1
      rw [e3]
      exact (bit_m m kk3 s' hs).mpr z)
    have hpc := or_pc m kk3 s' hs hnb
    have hpc4 := f3 rfl
    obtain ⟨o1, o2⟩ := an_or m kk3 s' hs
    have epb : gs_pb D3 p s' = nI (m ||| 2 ^ s') := by unfold gs_pb; rw [e3, o1]
    have eH : fm_hp C1 (45 + 63 * p) q s' = fm_hp1 (fm_copySh C1 (45 + 63 * p + 4 + 5 * s') (q + 1)) (45 + 63 * p) q := by
      unfold fm_hp
      rw [if_pos (hhear.mpr hh)]
    have x1 := (cp_at (M := C1) (r := 45 + 63 * p + 4 + 5 * s') (q := q + 1) (by omega)).1
    have eH1 : zm_I (fm_hp1 (fm_copySh C1 (45 + 63 * p + 4 + 5 * s') (q + 1)) (45 + 63 * p) q) (45 + 63 * p) 1 = nI 1 := by
      unfold fm_hp1
      rw [zm_In (Or.inr (by decide)), we_I x1 (by omega), a1]
      exact hh.1
    have eH3 : zm_I (fm_hp1 (fm_copySh C1 (45 + 63 * p + 4 + 5 * s') (q + 1)) (45 + 63 * p) q) (45 + 63 * p) 3 = nI (m ||| 2 ^ s') := by
      unfold fm_hp1
      rw [zm_Is, we_I x1 (by omega), we_I x1 (by omega), a3, e3, c1q, o1]
    have eH171 : zm_I (fm_hp1 (fm_copySh C1 (45 + 63 * p + 4 + 5 * s') (q + 1)) (45 + 63 * p) q) 171 0 = nI c := by
      unfold fm_hp1
      rw [zm_In (Or.inl (by omega)), we_I x1 (by omega), e171]
    by_cases c4 : wpc (m ||| 2 ^ s') ≤ 4
    · obtain ⟨y1, y2, y3, y4, y5⟩ := hear (ph' := 1) d1 d2 hs hp hh.1 e3 kk3 (by omega) c1q hin hdn (Or.inl ⟨rfl, c4⟩)
      have eP3 : zm_I (gm_ph D3 s' p 88) 553 p = nI 1 := (we_I ph_we (by decide)).trans hh.1
      rw [wI_id eH1] at y1 y3
      rw [wI_id eP3] at y1 y2 y4
      have eR : fm_bpr C1 (45 + 63 * p) q s' = fm_hp1 (fm_copySh C1 (45 + 63 * p + 4 + 5 * s') (q + 1)) (45 + 63 * p) q := by
        unfold fm_bpr
        rw [eH, eH3, wpc_bc _ o2, if_neg (fun z => z.2 (nI_lt (by omega) (by decide)))]
      rw [eR]
      refine ⟨gm_ph D3 s' p 88, nI 0, ⟨y1, ⟨G, y2⟩, we_trans hlow (we_mono y3 (fun r hr => by omega)), we_trans d7 y4⟩, kt_ph.trans ktD, by rw [eH171, sub_self], fun l Dv ar b Z nn => ?_⟩
      refine hdel l Dv ar b Z nn 6 (nI 0) _ (by decide) (c_Mo_promB hs hp hh.1 hh.2.1 hh.2.2 ?_)
      rw [epb, wpc_bits _ o2]
      exact nI_ge (by omega) (by decide)
    · obtain ⟨y1, y2, y3, y4, y5⟩ := hear (ph' := 2) d1 d2 hs hp hh.1 e3 kk3 (by omega) c1q hin hdn (Or.inr rfl)
      have eR : fm_bpr C1 (45 + 63 * p) q s' = fm_sendAll (zm_it (fm_ldS (45 + 63 * p)) 8 (zm_wI (fm_hp1 (fm_copySh C1 (45 + 63 * p + 4 + 5 * s') (q + 1)) (45 + 63 * p) q) (45 + 63 * p) 1 (nI 2))) (45 + 63 * p) := by
        unfold fm_bpr
        rw [eH, eH1, eH3, wpc_bc _ o2, if_pos ⟨rfl, nI_nlt (by omega) (by omega)⟩]
        rfl
      rw [eR]
      have h0' : ∀ j, j < 8 → zm_I (zm_wI (gm_ph D3 s' p 88) 553 p (nI 2)) 560 (8 * p + j) = nI 0 := fun j hj => by
        rw [zm_In (Or.inl (by decide)), we_I ph_we (by decide)]
        exact ((f5 j hj).2).resolve_right (fun z => absurd z.1 (by decide))
      have hc' : zm_I (zm_wI (gm_ph D3 s' p 88) 553 p (nI 2)) 546 5 = nI c := by
        rw [zm_In (Or.inl (by decide)), we_I ph_we (by decide), d3]
      obtain ⟨⟨L1, L2, L3, L4, L5⟩, L6⟩ := s_lead (c := c) hB y1 y2 hp zm_Is y5 o2 (by omega) h0' hc' (by omega)
      refine ⟨_, _, ⟨L1, ⟨G, L2⟩, we_trans hlow (we_trans (we_mono y3 (fun r hr => by omega)) L3), we_trans d7 (we_trans y4 L4)⟩, kt_ldT.trans ((kt_w (Or.inl (by decide))).trans (kt_ph.trans ktD)), L5, fun l Dv ar b Z nn => ?_⟩
      refine hdel l Dv ar b Z nn 6 _ _ (by decide) ?_
      have pA := c_Mo_promA (l := l) (D := Dv) (ar := ar) (b := b) (Z := Z) (n := nn) (T := fun j => ((ldT p (ldQ G (zm_wI (gm_ph D3 s' p 88) 553 p (nI 2)) p) (zm_wI (gm_ph D3 s' p 88) 553 p (nI 2)) c j).1, (ldT p (ldQ G (zm_wI (gm_ph D3 s' p 88) 553 p (nI 2)) p) (zm_wI (gm_ph D3 s' p 88) 553 p (nI 2)) c j).2.2)) hs hp hh.1 hh.2.1 hh.2.2 (by rw [epb, wpc_bits _ o2]; exact nI_le (by omega) (by omega)) rfl (fun pl hpl => ?_)
      · exact pA
      · rcases L6 l Dv ar b Z nn pl hpl with ⟨z1, z2⟩ | ⟨z1, z2, z3⟩ | ⟨z1, W, k, z2, z3, z4⟩
        · exact Or.inl ⟨z1, by rw [z2]⟩
        · exact Or.inr (Or.inl ⟨z1, z2, by rw [z3]⟩)
        · exact Or.inr (Or.inr ⟨z1, W, k, z2, z3, z4⟩)
  · have eH : fm_hp C1 (45 + 63 * p) q s' = C1 := by
      unfold fm_hp
      rw [if_neg (fun z => hh (hhear.mp z))]
    have eR : fm_bpr C1 (45 + 63 * p) q s' = C1 := by
      unfold fm_bpr
      rw [eH, a1, a3, e3, wpc_bc m kk3]
      by_cases c1 : zm_I D3 553 p = nI 1
      · have eph : ph = 1 := (nI_eq (by omega) (by decide)).mp (e1.symm.trans c1)
        have := f3 eph
        rw [if_neg (fun z => z.2 (nI_lt (by omega) (by decide)))]
      · rw [if_neg (fun z => c1 z.1)]
    rw [eR]
    refine ⟨D3, nI 0, ⟨d1, ⟨G, d2⟩, hlow, d7⟩, ktD, by rw [e171, sub_self], fun l Dv ar b Z nn => ?_⟩
    refine hdel l Dv ar b Z nn 6 (nI 0) _ (by decide) (c_Mo_promN hp ?_)
    by_cases c1 : zm_I D3 553 p = nI 1
    · by_cases c2 : zm_I D3 570 3 = zm_I D3 554 p
      · exact Or.inr (Or.inr (Classical.byContradiction (fun z => hh ⟨c1, c2, z⟩)))
      · exact Or.inr (Or.inl c2)
    · exact Or.inl c1
end DV
