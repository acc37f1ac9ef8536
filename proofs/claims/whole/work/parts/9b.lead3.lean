/-! Class against model (pure): leading, whole; a promise comes -/
theorem fx_2 {D : zm_M} {sel : Nat → Bool} : ∀ d, (gm_fx D sel d).1.2 = D.2
  | 0 => rfl
  | d + 1 => by
    have e : gm_fx D sel (d + 1) = if (gm_fx D sel d).2 < 3 ∧ sel d = true then (zm_wI (gm_fx D sel d).1 566 (gm_fx D sel d).2 (nI d), (gm_fx D sel d).2 + 1) else gm_fx D sel d := rfl
    rw [e]
    split
    · exact fx_2 d
    · exact fx_2 d
theorem tk_2 {W : zm_M} {m len i : Nat} {P : Nat → Nat} : ∀ k, (gm_tk W m len i P k).2 = W.2
  | 0 => rfl
  | k + 1 => by
    have e : gm_tk W m len i P (k + 1) = if m * k + i < len then zm_wI (gm_tk W m len i P k) 567 (m * k + i) (nI (P k)) else gm_tk W m len i P k := rfl
    rw [e]
    split
    · exact tk_2 k
    · exact tk_2 k
theorem tg_2 {M : zm_M} {t0 t1 t2 len : Nat} {V0 V1 V2 : Nat → Nat} : ∀ n, (gm_tg M t0 t1 t2 V0 V1 V2 len n).2 = M.2
  | 0 => rfl
  | n + 1 => (tk_2 3).trans (tg_2 n)
theorem ag_2 {D : zm_M} {p j t0 t1 t2 : Nat} : (gm_ag D p j t0 t1 t2).2 = D.2 := (tg_2 _).trans (fx_2 7)
theorem aa_2 {M : zm_M} {c p pl len : Nat} {f : Nat → Nat} : ∀ d, (gm_aa M c p pl len f d).1.2 = M.2
  | 0 => rfl
  | d + 1 => by
    have e : gm_aa M c p pl len f (d + 1) = if (gm_aa M c p pl len f d).2.1 < 60 then (gm_acc (gm_aa M c p pl len f d).1 (gm_aa M c p pl len f d).2.1 p pl d len f ((len + 2) / 3), (gm_aa M c p pl len f d).2.1 + 1, (gm_aa M c p pl len f d).2.2 + 1) else gm_aa M c p pl len f d := rfl
    rw [e]
    split
    · exact aa_2 d
    · exact aa_2 d
theorem ldG_2 {p : Nat} {Q : ld_q} {D : zm_M} : ∀ j, (ldG p Q D j).2 = D.2
  | 0 => rfl
  | j + 1 => by
    cases hQ : Q j with
    | none => rw [ldG_0 hQ]; exact ldG_2 j
    | some zt =>
      obtain ⟨z, t⟩ := zt
      rw [ldG_1 hQ, ag_2]
      exact ldG_2 j
theorem ldS_2 {p c : Nat} {Q : ld_q} {D : zm_M} : ∀ j, (ldS p Q D c j).1.2 = D.2
  | 0 => rfl
  | j + 1 => by
    cases hQ : Q j with
    | none => rw [ldS_0 hQ]; exact ldS_2 j
    | some zt =>
      obtain ⟨z, t⟩ := zt
      rw [ldS_1 hQ]
      dsimp only
      rw [aa_2]
      exact ldS_2 j
theorem ldT_2 {p c : Nat} {Q : ld_q} {D : zm_M} : ∀ j, (ldT p Q D c j).1.2 = D.2
  | 0 => rfl
  | j + 1 => by
    cases hQ : Q j with
    | none => rw [ldT_0 hQ]; exact ldT_2 j
    | some zt =>
      obtain ⟨z, t⟩ := zt
      rw [ldT_1 hQ]
      dsimp only
      rw [aa_2, ag_2]
      exact ldT_2 j
theorem ld_same {D E : zm_M} {G : wG} {p c : Nat} (hE : E = ldG p (ldQ G D p) D 8) (hc : zm_I D 546 5 = nI c) (hwE : we (fun r => r ≠ 560 ∧ r ≠ 561 ∧ r ≠ 562 ∧ r ≠ 563 ∧ r ≠ 566 ∧ r ≠ 567 ∧ r ≠ 568) D E) (hG : ∀ j, j ≤ 8 → we (fun r => r ≠ 560 ∧ r ≠ 561 ∧ r ≠ 562 ∧ r ≠ 563 ∧ r ≠ 566 ∧ r ≠ 567 ∧ r ≠ 568) D (ldG p (ldQ G D p) D j)) (h7 : ∀ i, i < 8 → ∀ z t, ldQ G D p i = some (z, t) → ∃ v, ldF G D p i v z t ∧ zm_I E 560 (8 * p + i) = nI v) (hS : ∀ j, j ≤ 8 → we (fun r => r ≠ 546 ∧ r ≠ 551 ∧ r ≠ 552) E (ldS p (ldQ G D p) E c j).1) : ∀ j, j ≤ 8 → we (fun r => (547 ≤ r ∧ r ≤ 550) ∨ (553 ≤ r ∧ r ≤ 565) ∨ r = 569 ∨ r < 546 ∨ r = 572) (ldG p (ldQ G D p) D j) (ldT p (ldQ G D p) D c j).1 ∧ (∀ k, k ≠ 5 → zm_I (ldT p (ldQ G D p) D c j).1 546 k = zm_I D 546 k) ∧ (ldT p (ldQ G D p) D c j).2 = (ldS p (ldQ G D p) E c j).2 ∧ (∀ x, zm_I (ldT p (ldQ G D p) D c j).1 551 x = zm_I (ldS p (ldQ G D p) E c j).1 551 x) ∧ (∀ x, zm_I (ldT p (ldQ G D p) D c j).1 552 x = zm_I (ldS p (ldQ G D p) E c j).1 552 x) ∧ zm_I (ldT p (ldQ G D p) D c j).1 546 5 = zm_I (ldS p (ldQ G D p) E c j).1 546 5 := by
  intro j
  induction j with
  | zero => exact fun _ => ⟨we_refl, fun _ _ => rfl, rfl, fun x => (we_I hwE (by decide)).symm, fun x => (we_I hwE (by decide)).symm, (we_I hwE (by decide)).symm⟩
  | succ j ih =>
    intro hj
    obtain ⟨i1, i2, i3, i4, i5, i6⟩ := ih (by omega)
    have hGj := hG j (by omega)
    cases hQ : ldQ G D p j with
    | none =>
      rw [ldG_0 hQ, ldS_0 hQ, ldT_0 hQ]
      exact ⟨i1, i2, i3, i4, i5, i6⟩
    | some zt =>
      obtain ⟨z, t⟩ := zt
      obtain ⟨v, hF, hv⟩ := h7 j (by omega) z t hQ
      rw [ldG_1 hQ, ldS_1 hQ, ldT_1 hQ]
      have tF : ldF G (ldT p (ldQ G D p) D c j).1 p j v z t := ldF_c hF (fun x => (we_I i1 (by decide)).trans (we_I hGj (by decide))) (fun x => (we_I i1 (by decide)).trans (we_I hGj (by decide))) (fun x => (we_I i1 (by decide)).trans (we_I hGj (by decide)))
      have gF : ldF G (ldG p (ldQ G D p) D j) p j v z t := ldF_c hF (fun x => we_I hGj (by decide)) (fun x => we_I hGj (by decide)) (fun x => we_I hGj (by decide))
      obtain ⟨tA, t0, t1, t2, t3⟩ := ag_at tF
      obtain ⟨gA, g0, g1, g2, g3⟩ := ag_at gF
      have s4 : zm_I (ldS p (ldQ G D p) E c j).1 554 p = zm_I D 554 p := (we_I (hS j (by omega)) (by decide)).trans (we_I hwE (by decide))
      have s0 : zm_I (ldS p (ldQ G D p) E c j).1 560 (8 * p + j) = nI v := (we_I (hS j (by omega)) (by decide)).trans hv
      have w4 : zm_I (ldT p (ldQ G D p) D c j).1 554 p = zm_I D 554 p := (we_I i1 (by decide)).trans (we_I hGj (by decide))
      generalize ldS p (ldQ G D p) E c j = S at i3 i4 i5 i6 s4 s0
      generalize ldT p (ldQ G D p) D c j = T at i1 i2 i3 i4 i5 i6 tA t0 t1 t2 t3 w4
      generalize ldG p (ldQ G D p) D j = K at i1 gA g0 g1 g2 g3
      obtain ⟨S1, S2, S3⟩ := S
      obtain ⟨T1, T2, T3⟩ := T
      dsimp only at i1 i2 i3 i4 i5 i6 tA t0 t1 t2 t3 w4 s4 s0 ⊢
      cases i3
      have hW2 : (gm_ag T1 p j (t 0) (t 1) (t 2)).2 = T1.2 := ag_2
      have hK2 : (gm_ag K p j (t 0) (t 1) (t 2)).2 = K.2 := ag_2
      generalize gm_ag T1 p j (t 0) (t 1) (t 2) = W at tA t0 t1 t2 t3 hW2
      generalize gm_ag K p j (t 0) (t 1) (t 2) = K' at gA g0 g1 g2 g3 hK2
      obtain ⟨a1, a2, a3, a4, a5, a6, a7⟩ := aa_c (M := S1) (M' := W) (c := S2) (p := p) (pl := j) (len := z.1) (f := z.2) (fun x => (we_I tA (by decide)).trans (i4 x)) (fun x => (we_I tA (by decide)).trans (i5 x)) ((we_I tA (by decide)).trans i6) ((we_I tA (by decide)).trans (w4.trans s4.symm)) (by rw [t0, if_pos rfl, s0]) 7
      refine ⟨fun r hr => ?_, fun k hk => (a7 k hk).trans ((we_I tA (by decide)).trans (i2 k hk)), ?_, a2, a3, a4⟩
      · have hWr := a5 r (by omega)
        by_cases c1 : r ≠ 560 ∧ r ≠ 561 ∧ r ≠ 562 ∧ r ≠ 563
        · have q1 := tA r (by omega)
          have q2 := gA r (by omega)
          have q3 := i1 r hr
          exact ⟨fun k => (hWr.1 k).trans ((q1.1 k).trans ((q3.1 k).trans (q2.1 k).symm)), fun k => (hWr.2.1 k).trans ((q1.2.1 k).trans ((q3.2.1 k).trans (q2.2.1 k).symm)), fun k => (hWr.2.2 k).trans ((q1.2.2 k).trans ((q3.2.2 k).trans (q2.2.2 k).symm))⟩
        · have q3 := i1 r hr
          have eI : ∀ k, zm_I W r k = zm_I K' r k := fun k => by
            by_cases c0 : r = 560
            · subst c0; rw [t0, g0, q3.1 k]
            · by_cases c2 : r = 561
              · subst c2; rw [t1, g1, q3.1 k]
              · by_cases c3 : r = 562
                · subst c3; rw [t2, g2, q3.1 k]
                · have c4 : r = 563 := by omega
                  subst c4; rw [t3, g3, q3.1 k]
          have eJ : ∀ k, zm_J W r k = zm_J K' r k := fun k => by
            show W.2.1 r k = K'.2.1 r k
            rw [hW2, hK2]; exact q3.2.1 k
          have eP : ∀ k, zm_P W r k = zm_P K' r k := fun k => by
            show W.2.2 r k = K'.2.2 r k
            rw [hW2, hK2]; exact q3.2.2 k
          exact ⟨fun k => (hWr.1 k).trans (eI k), fun k => (hWr.2.1 k).trans (eJ k), fun k => (hWr.2.2 k).trans (eP k)⟩
      · rw [a1]
/-- the fifth promise: on both sides -/
theorem s_lead {C D : zm_M} {G : wG} {B p m c : Nat} (hB : B < 2 ^ 30) (h : wr C D) (hd : wd G B D) (hp : p < 2) (hph : zm_I D 553 p = nI 2) (hm : zm_I D 555 p = nI m) (hm7 : m < 128) (h5 : wpc m = 5) (h0 : ∀ j, j < 8 → zm_I D 560 (8 * p + j) = nI 0) (hc : zm_I D 546 5 = nI c) (h60 : c ≤ 60) : (wr (fm_sendAll (zm_it (fm_ldS (45 + 63 * p)) 8 C) (45 + 63 * p)) (ldT p (ldQ G D p) D c 8).1 ∧ wd G B (ldT p (ldQ G D p) D c 8).1 ∧ we (fun r => 546 ≤ r) C (fm_sendAll (zm_it (fm_ldS (45 + 63 * p)) 8 C) (45 + 63 * p)) ∧ we (fun r => r < 546 ∨ r = 572) D (ldT p (ldQ G D p) D c 8).1 ∧ zm_I (fm_sendAll (zm_it (fm_ldS (45 + 63 * p)) 8 C) (45 + 63 * p)) 171 0 - nI c = nI (ldT p (ldQ G D p) D c 8).2.2) ∧ ∀ (l : Launch) (Dv : va_G) (ar : Nat → ClassId) (b : Nat) (Z : State → Prop) (nn pl : Nat), pl < 8 → (zm_I (ldT p (ldQ G D p) D c pl).1 559 (8 * p + pl) ≠ 0 ∧ ldT p (ldQ G D p) D c (pl + 1) = ldT p (ldQ G D p) D c pl) ∨ (zm_I (ldT p (ldQ G D p) D c pl).1 559 (8 * p + pl) = 0 ∧ zK l Dv ar b Z y_Mo_again 4 [.ref (b + 546), .int (nI p), .int (nI pl)] (ldT p (ldQ G D p) D c pl).1 nn (some (.int (nI 0))) (ldT p (ldQ G D p) D c pl).1 ∧ ldT p (ldQ G D p) D c (pl + 1) = ldT p (ldQ G D p) D c pl) ∨ (zm_I (ldT p (ldQ G D p) D c pl).1 559 (8 * p + pl) = 0 ∧ ∃ (W : zm_M) (k : Nat), zK l Dv ar b Z y_Mo_again 4 [.ref (b + 546), .int (nI p), .int (nI pl)] (ldT p (ldQ G D p) D c pl).1 nn (some (.int (nI 1))) W ∧ zK l Dv ar b Z y_Mo_acceptAll 3 [.ref (b + 546), .int (nI p), .int (nI pl)] W nn (some (.int (nI k))) (ldT p (ldQ G D p) D c (pl + 1)).1 ∧ (ldT p (ldQ G D p) D c (pl + 1)).2.2 = (ldT p (ldQ G D p) D c pl).2.2 + k) := by
  have gat := ld_gat hB h hd hp hph hm hm7 h5 h0
  obtain ⟨g1, g2, g3, g4, g5, g6, g7⟩ := gat 8 (Nat.le_refl _)
  have hcE : zm_I (ldG p (ldQ G D p) D 8) 546 5 = nI c := (we_I g4 (by decide)).trans hc
  have snd := ld_snd (Q := ldQ G D p) hB g1 g2 hp hcE h60 (fun i hi hQ => g6 i hi hQ) (fun i hi z t hQ => by
    obtain ⟨v, q1, q2, q3, q4, q5⟩ := g7 i hi z t hQ
    exact ⟨v, q1.1, q1.2.2.2.2.1, q2, q3, q4, q5⟩)
  have same := ld_same (G := G) (p := p) (c := c) rfl hc g4 (fun j hj => (gat j hj).2.2.2.1) (fun i hi z t hQ => by
    obtain ⟨v, q1, q2, _⟩ := g7 i hi z t hQ
    exact ⟨v, q1, q2⟩) (fun j hj => (snd j hj).2.2.2.2.1)
  refine ⟨?_, fun l Dv ar b Z nn pl hpl => ?_⟩
  · obtain ⟨s1, s2, ⟨s3, s4, s5⟩, s6, s7, s8⟩ := snd 8 (Nat.le_refl _)
    obtain ⟨t1, t2, t3, t4, t5, t6⟩ := same 8 (Nat.le_refl _)
    have hn : wn (ldS p (ldQ G D p) (ldG p (ldQ G D p) D 8) c 8).1 (ldT p (ldQ G D p) D c 8).1 := by
      refine ⟨fun r hr => ?_, t6, ?_⟩
      · by_cases c1 : r = 551 ∨ r = 552
        · refine ⟨fun k => ?_, fun k => ?_, fun k => ?_⟩
          · rcases c1 with rfl | rfl
            · exact t4 k
            · exact t5 k
          · show (ldT p (ldQ G D p) D c 8).1.2.1 r k = (ldS p (ldQ G D p) (ldG p (ldQ G D p) D 8) c 8).1.2.1 r k
            rw [ldT_2, ldS_2, ldG_2]
          · show (ldT p (ldQ G D p) D c 8).1.2.2 r k = (ldS p (ldQ G D p) (ldG p (ldQ G D p) D 8) c 8).1.2.2 r k
            rw [ldT_2, ldS_2, ldG_2]
        · have q1 := t1 r (by omega)
          have q2 := s7 r (by omega)
          exact ⟨fun k => (q1.1 k).trans (q2.1 k).symm, fun k => (q1.2.1 k).trans (q2.2.1 k).symm, fun k => (q1.2.2 k).trans (q2.2.2 k).symm⟩
      · rw [t2 25 (by decide), s8 25 (by decide), we_I g4 (by decide)]
    refine ⟨wr_n s1 hn, wd_n s2 (Nat.le_refl _) hn, we_trans (we_mono g3 (fun r hr => by omega)) (we_mono s6 (fun r hr => by omega)), we_trans (we_mono g4 (fun r hr => by omega)) (we_mono t1 (fun r hr => by omega)), ?_⟩
    rw [show zm_I (fm_sendAll (zm_it (fm_ldS (45 + 63 * p)) 8 C) (45 + 63 * p)) 171 0 = _ from wo_letters s1, s3, s5, nI_subN (by omega), Nat.add_sub_cancel_left, t3]
  · obtain ⟨t1, t2, t3, t4, t5, t6⟩ := same pl (by omega)
    obtain ⟨_, _, ⟨s3, s4, _⟩, _, _, _⟩ := snd pl (by omega)
    have hGj := (gat pl (by omega)).2.2.2.1
    have r5 : ∀ x, zm_I (ldT p (ldQ G D p) D c pl).1 555 x = zm_I D 555 x := fun x => (we_I t1 (by decide)).trans (we_I hGj (by decide))
    have r6 : ∀ x, zm_I (ldT p (ldQ G D p) D c pl).1 556 x = zm_I D 556 x := fun x => (we_I t1 (by decide)).trans (we_I hGj (by decide))
    have r9 : ∀ x, zm_I (ldT p (ldQ G D p) D c pl).1 559 x = zm_I D 559 x := fun x => (we_I t1 (by decide)).trans (we_I hGj (by decide))
    have hT : gt_ok (ldT p (ldQ G D p) D c pl).1 := gt_ok_c (gt_ok_c hd.1 (we_mono hGj (fun r hr => by omega))) (we_mono t1 (fun r hr => by omega))
    have hcT : zm_I (ldT p (ldQ G D p) D c pl).1 546 5 = nI (ldT p (ldQ G D p) D c pl).2.1 := by rw [t6, t3]; exact s3
    have hc60 : (ldT p (ldQ G D p) D c pl).2.1 ≤ 60 := by rw [t3]; exact s4
    cases hQ : ldQ G D p pl with
    | none =>
      rw [ldT_0 hQ]
      by_cases c9 : zm_I D 559 (8 * p + pl) = 0
      · right; left
        refine ⟨(r9 _).trans c9, c_Mo_again0 hp hpl ?_, rfl⟩
        rw [bo_c r5 r6]
        unfold ldQ at hQ
        rw [if_neg (fun z => z c9)] at hQ
        by_cases cb : (gs_bo D p pl 7).1 < 0
        · exact cb
        · rw [if_neg cb] at hQ; cases hQ
      · left
        exact ⟨by rw [r9]; exact c9, rfl⟩
    | some zt =>
      obtain ⟨z, t⟩ := zt
      obtain ⟨v, hF, _⟩ := g7 pl hpl z t hQ
      right; right
      have tF : ldF G (ldT p (ldQ G D p) D c pl).1 p pl v z t := ldF_c hF r5 r6 r9
      obtain ⟨tA, y0, y1, y2, y3⟩ := ag_at tF
      obtain ⟨a1, a2, a3, a4, a5, a6, ⟨z2, z3⟩, a8, a9, a10⟩ := tF
      have hge : ge_ok (ldT p (ldQ G D p) D c pl).1 p pl := fun s hs hh => by
        obtain ⟨ph, w, m', dl, k0, ⟨e1, e2, e3, e4⟩, f1, f2, f3, f4, f5⟩ := hd.2.2.2.2.1 p hp
        have em : m' = m := (nI_eq (by omega) (by omega)).mp (e3.symm.trans hm)
        subst em
        have hb : m' / 2 ^ s % 2 = 1 := (bit_m m' hm7 s hs).mp (by
          have := hh.1
          show (nI m' >>> (nI s &&& 31)) &&& nI 1 = nI 1
          rw [← hm, ← r5]
          exact this)
        have hsh := f4 s hs hb
        obtain ⟨len, l1, l2⟩ := wd_len hsh (wg_z hd.2.1) hpl
        have l2' : zm_I (ldT p (ldQ G D p) D c pl).1 556 (gs_at p pl s + 2) = nI len := (r6 _).trans l2
        refine ⟨⟨by rw [gv_of l2' (by omega)]; exact l2', by rw [gv_of l2' (by omega)]; exact l1⟩, fun i hi => ?_⟩
        obtain ⟨u, u1, u2⟩ := (hsh pl hpl).2.2 i hi
        have u2' : zm_I (ldT p (ldQ G D p) D c pl).1 556 (gs_at p pl s + 3 + i) = nI u := (r6 _).trans u2
        exact ⟨by rw [gv_of u2' (by omega)]; exact u2', by rw [gv_of u2' (by omega)]; exact u1⟩
      have fx : ∀ k, k < 3 → zm_I (gm_fx (ldT p (ldQ G D p) D c pl).1 (gs_hs (ldT p (ldQ G D p) D c pl).1 p pl (gs_bo (ldT p (ldQ G D p) D c pl).1 p pl 7).2) 7).1 566 k = nI (t k) := fun k hk => by
        rw [a4]
        obtain ⟨_, _, fx3⟩ := find (D := (ldT p (ldQ G D p) D c pl).1) (sel := gs_hs (ldT p (ldQ G D p) D c pl).1 p pl (nI v)) 7
        rw [fx3 k (by rw [a9]; exact hk), (a8 k hk).1]
      have ag := c_Mo_again1 (l := l) (D := Dv) (ar := ar) (b := b) (Z := Z) (n := nn) hT hge hp hpl a3 a6.1 a6.2.1 a6.2.2 (fx 0 (by decide)) (fx 1 (by decide)) (fx 2 (by decide)) (a8 0 (by decide)).2 (a8 1 (by decide)).2 (a8 2 (by decide)).2
      rw [ldT_1 hQ]
      generalize ldT p (ldQ G D p) D c pl = T at r9 hT hcT hc60 tA y0 y1 y2 y3 ag a2
      obtain ⟨T1, T2, T3⟩ := T
      dsimp only at r9 hT hcT hc60 tA y0 y1 y2 y3 ag a2 ⊢
      generalize gm_ag T1 p pl (t 0) (t 1) (t 2) = W at tA y0 y1 y2 y3 ag
      refine ⟨a2, W, (gm_aa W T2 p pl z.1 z.2 7).2.2, ag, ?_, rfl⟩
      exact c_Mo_acceptAll (gt_ok_c hT (we_mono tA (fun r hr => by omega))) ((we_I tA (by decide)).trans hcT) hc60 hp hpl (by rw [y1, if_pos rfl]) z2 (fun x hx => ⟨by rw [y3, if_pos (by omega), Nat.add_sub_cancel_left], z3 x⟩)
