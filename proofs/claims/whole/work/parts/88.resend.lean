/-! Class against model (pure): resend -/
theorem as_0 {M0 : zm_M} {p pl len : Nat} {f : Nat → Nat} {T : gm_T} (h : zm_I M0 560 (8 * p + pl) = 0) : ∀ s, gm_as M0 p pl len f T s = T
  | 0 => rfl
  | s + 1 => by
    show (if (zm_I M0 560 (8 * p + pl) ≠ 0 ∧ (zm_I M0 562 (8 * p + pl) >>> (nI s &&& 31)) &&& nI 1 = 0) ∧ (gm_as M0 p pl len f T s).2.1 < 60 then _ else gm_as M0 p pl len f T s) = T
    rw [if_neg (fun z => z.1.1 h)]
    exact as_0 h s
theorem s_resend2 {C D : zm_M} {G : wG} {B p : Nat} (hB : B < 2 ^ 30) (h : wr C D) (hd : wd G B D) (hp : p < 2) : ∃ c Ln Fb, c ≤ 60 ∧ zm_I D 546 5 = nI c ∧ (∀ pl, pl < 8 → zm_I D 560 (8 * p + pl) ≠ 0 → zm_I D 561 (8 * p + pl) = nI (Ln pl) ∧ Ln pl ≤ 24 ∧ gb_ok D 563 (24 * (8 * p + pl)) (Ln pl) (Fb pl)) ∧ ws B C D (fm_sendAll C (45 + 63 * p)) (gm_ro (gm_t D 0) p Ln Fb (gm_t D 0, c, 0) 8).1 ∧ zm_I (fm_sendAll C (45 + 63 * p)) 171 0 - zm_I C 171 0 = nI (gm_ro (gm_t D 0) p Ln Fb (gm_t D 0, c, 0) 8).2.2 := by
  obtain ⟨c, c1, c2, _⟩ := hd.2.2.1
  have hz := hd.2.1
  obtain ⟨ph, w, m, dl, ⟨k1, k2, k3, k4⟩, ⟨e1, e2, e3, e4⟩, f1, f2, f3, f4, f5⟩ := hd.2.2.2.2.1 p hp
  have hex : ∀ pl, ∃ z : Nat × (Nat → Nat), pl < 8 → zm_I D 560 (8 * p + pl) ≠ 0 → ∃ v m, G pl v = some z ∧ zm_I D 560 (8 * p + pl) = nI v ∧ m < 128 ∧ zm_I D 562 (8 * p + pl) = nI m ∧ zm_I D 561 (8 * p + pl) = nI z.1 ∧ ∀ x, x < z.1 → zm_I D 563 (24 * (8 * p + pl) + x) = nI (z.2 x) := fun pl => by
    by_cases hpl : pl < 8
    · rcases (f5 pl hpl).2 with a | ⟨_, v, z, m', g1, g2, g3, g4, g5, g6⟩
      · exact ⟨(0, fun _ => 0), fun _ ne => absurd (a.trans (by decide)) ne⟩
      · exact ⟨z, fun _ _ => ⟨v, m', g1, g2, g3, g4, g5, g6⟩⟩
    · exact ⟨(0, fun _ => 0), fun z => absurd z hpl⟩
  obtain ⟨Z, hZ⟩ := Classical.axiomOfChoice hex
  refine ⟨c, fun pl => (Z pl).1, fun pl => (Z pl).2, c1, c2, fun pl hpl ne => ?_, ?_⟩
  · obtain ⟨v, m', g1, g2, g3, g4, g5, g6⟩ := hZ pl hpl ne
    obtain ⟨⟨_, _, _, z1, z2, z3⟩, _⟩ := hz _ _ _ g1
    exact ⟨g5, z2, fun x hx => ⟨g6 x hx, z3 x⟩⟩
  · have e5 : zm_I (gm_t D 0) 546 5 = nI c := (zm_In (Or.inr (by decide))).trans c2
    have hwt : we (fun r => r ≠ 546) D (gm_t D 0) := we_wI (by omega)
    have key : ∀ d, d ≤ 8 → wr (zm_it (fm_saa (45 + 63 * p)) d C) (gm_ro (gm_t D 0) p (fun pl => (Z pl).1) (fun pl => (Z pl).2) (gm_t D 0, c, 0) d).1 ∧ wd G B (gm_ro (gm_t D 0) p (fun pl => (Z pl).1) (fun pl => (Z pl).2) (gm_t D 0, c, 0) d).1 ∧ (zm_I (gm_ro (gm_t D 0) p (fun pl => (Z pl).1) (fun pl => (Z pl).2) (gm_t D 0, c, 0) d).1 546 5 = nI (gm_ro (gm_t D 0) p (fun pl => (Z pl).1) (fun pl => (Z pl).2) (gm_t D 0, c, 0) d).2.1 ∧ (gm_ro (gm_t D 0) p (fun pl => (Z pl).1) (fun pl => (Z pl).2) (gm_t D 0, c, 0) d).2.1 ≤ 60 ∧ (gm_ro (gm_t D 0) p (fun pl => (Z pl).1) (fun pl => (Z pl).2) (gm_t D 0, c, 0) d).2.1 = c + (gm_ro (gm_t D 0) p (fun pl => (Z pl).1) (fun pl => (Z pl).2) (gm_t D 0, c, 0) d).2.2) ∧ we (fun x => x < 171 ∨ 539 ≤ x) C (zm_it (fm_saa (45 + 63 * p)) d C) ∧ we (fun r => r ≠ 546 ∧ r ≠ 551 ∧ r ≠ 552) D (gm_ro (gm_t D 0) p (fun pl => (Z pl).1) (fun pl => (Z pl).2) (gm_t D 0, c, 0) d).1 := by
      intro d
      induction d with
      | zero => exact fun _ => ⟨wr_n h wn_t, wd_n hd (Nat.le_refl _) wn_t, ⟨e5, c1, rfl⟩, we_refl, we_wI (by omega)⟩
      | succ d ih =>
        intro hd8
        obtain ⟨i1, i2, ⟨i3, i4, i5⟩, i6, i7⟩ := ih (by omega)
        have hro : gm_ro (gm_t D 0) p (fun pl => (Z pl).1) (fun pl => (Z pl).2) (gm_t D 0, c, 0) (d + 1) = gm_as (gm_t D 0) p d (Z d).1 (Z d).2 (gm_ro (gm_t D 0) p (fun pl => (Z pl).1) (fun pl => (Z pl).2) (gm_t D 0, c, 0) d) 7 := rfl
        rw [hro]
        show wr (fm_saa (45 + 63 * p) d (zm_it (fm_saa (45 + 63 * p)) d C)) _ ∧ wd G B _ ∧ _ ∧ we (fun x => x < 171 ∨ 539 ≤ x) C (fm_saa (45 + 63 * p) d (zm_it (fm_saa (45 + 63 * p)) d C)) ∧ _
        generalize gm_ro (gm_t D 0) p (fun pl => (Z pl).1) (fun pl => (Z pl).2) (gm_t D 0, c, 0) d = T at i1 i2 i3 i4 i5 i7
        generalize zm_it (fm_saa (45 + 63 * p)) d C = N at i1 i6
        have hq : zm_I N (45 + 63 * p + 39 + 3 * d) 1 = zm_I D 560 (8 * p + d) := by
          rw [we_I i6 (by omega), ((h.2.2.1 p hp).2.2.2 d (by omega)).2.1]
        have h60D : zm_I (gm_t D 0) 560 (8 * p + d) = zm_I D 560 (8 * p + d) := we_I hwt (by decide)
        have h62D : zm_I (gm_t D 0) 562 (8 * p + d) = zm_I D 562 (8 * p + d) := we_I hwt (by decide)
        unfold fm_saa
        rw [hq]
        by_cases c0 : zm_I D 560 (8 * p + d) = 0
        · rw [if_pos c0, as_0 (h60D.trans c0)]
          exact ⟨i1, i2, ⟨i3, i4, i5⟩, i6, i7⟩
        · rw [if_neg c0]
          obtain ⟨v, m', g1, g2, g3, g4, g5, g6⟩ := hZ d (by omega) c0
          obtain ⟨b1, b2, ⟨b3, b4, b5⟩, b6, b7, _⟩ := sendA (T := fun s => gm_as (gm_t D 0) p d (Z d).1 (Z d).2 T s) (sel := fun s => decide ((nI m' >>> (nI s &&& 31)) &&& nI 1 = 0)) (w := w) i1 i2 i3 i4 hp (show d < 8 by omega) ((we_I i7 (by decide)).trans e2) k2 g1 ((we_I i7 (by decide)).trans g2) (by rw [← g2]; exact c0) ((we_I i7 (by decide)).trans g5) (fun x hx => (we_I i7 (by decide)).trans (g6 x hx)) ((we_I i7 (by decide)).trans g4) (fun s hs => by rw [decide_eq_true_eq]; exact sel_bit m' g3 s hs) (fun s hs => by
            show (if (zm_I (gm_t D 0) 560 (8 * p + d) ≠ 0 ∧ (zm_I (gm_t D 0) 562 (8 * p + d) >>> (nI s &&& 31)) &&& nI 1 = 0) ∧ (gm_as (gm_t D 0) p d (Z d).1 (Z d).2 T s).2.1 < 60 then _ else _) = _
            rw [h60D, h62D, g4]
            by_cases cc : (nI m' >>> (nI s &&& 31)) &&& nI 1 = 0
            · by_cases c60 : (gm_as (gm_t D 0) p d (Z d).1 (Z d).2 T s).2.1 < 60
              · rw [if_pos ⟨⟨c0, cc⟩, c60⟩, if_pos ⟨decide_eq_true cc, c60⟩]
              · rw [if_neg (fun z => c60 z.2), if_neg (fun z => c60 z.2)]
            · rw [if_neg (fun z => cc z.1.2), if_neg (fun z => cc (of_decide_eq_true z.1))]) 7 (Nat.le_refl _)
          exact ⟨b1, b2, ⟨b3, b4, by have b5' : (gm_as (gm_t D 0) p d (Z d).1 (Z d).2 T 7).2.1 + T.2.2 = T.2.1 + (gm_as (gm_t D 0) p d (Z d).1 (Z d).2 T 7).2.2 := b5
                                     omega⟩, we_trans i6 b6, we_trans i7 b7⟩
    obtain ⟨s1, s2, ⟨s31, s32, s33⟩, s4, s5⟩ := key 8 (Nat.le_refl _)
    refine ⟨⟨s1, ⟨G, s2⟩, we_mono s4 (fun r hr => by omega), we_mono s5 (fun r hr => by omega)⟩, ?_⟩
    rw [wo_letters h, c2, show zm_I (fm_sendAll C (45 + 63 * p)) 171 0 = _ from wo_letters s1, s31, s33, nI_subN (by omega), Nat.add_sub_cancel_left]
