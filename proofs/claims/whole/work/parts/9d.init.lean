/-! Class against model (pure): as they are born -/
theorem z1_a {r : Nat} {x : Nat × Nat × Nat × Nat} (h : zl r = some (.inl x)) (h4 : r ≠ 564) (h5 : r ≠ 565) (k : Nat) : zm_I zc_M1 r k = nI 0 := by
  rw [zc_1n h4 h5, zc_Ia h]; rfl
theorem z1_o {r ci : Nat} {x : List (Option (Option Nat))} (h : zl r = some (.inr (ci, x))) (h1 : ci ≠ 1) (h3 : ci ≠ 3) (h4 : r ≠ 564) (h5 : r ≠ 565) (k : Nat) : zm_I zc_M1 r k = nI 0 := by
  rw [zc_1n h4 h5, zc_Io h h1 h3]; rfl
theorem z1_s {s : Nat} (hs : s < 7) (k : Nat) : zm_I zc_M1 (2 + 6 * s) k = if k = 1 then 1 else 0 := by
  rw [zc_1n (by omega) (by omega)]
  exact zc_Is (zl_st s hs) k
theorem z1_p {p : Nat} (hp : p < 2) (k : Nat) : zm_I zc_M1 (45 + 63 * p) k = if k = 0 ∧ 108 ≤ 45 + 63 * p then 1 else 0 := by
  rw [zc_1n (by omega) (by omega)]
  exact zc_Ip (zl_pr p hp).1 k
theorem z1_g {r x : Nat} {y : Nat × Nat × Nat × Nat} (h : zl r = some (.inl y)) (h4 : r ≠ 564) (h5 : r ≠ 565) : gv zc_M1 r x = 0 := gv_of (z1_a h h4 h5 x) (by decide)
theorem z1_46 (k : Nat) : zm_I zc_M1 546 k = nI 0 := z1_o zl_c546 (by decide) (by decide) (by decide) (by decide) k
theorem wr_init : wr zc_M1 zc_M1 := by
  refine ⟨fun s hs => ⟨?_, ?_, ?_, fun pl hpl => ⟨?_, ?_, ?_, fun i _ hi => ?_⟩⟩, ⟨⟨fun i hi => ⟨i, hi, rfl⟩, fun i _ j _ e => by
    have e' : 173 + 6 * i = 173 + 6 * j := e
    omega⟩, 0, by decide, z1_46 5, z1_o zl_c171 (by decide) (by decide) (by decide) (by decide) 0, fun i hi => absurd hi (Nat.not_lt_zero _)⟩, fun p hp => ⟨⟨?_, ?_, ?_, ?_, ?_⟩, fun x hx => ?_, fun s hs e => ?_, fun pl hpl => ⟨?_, ?_, fun ne => ?_⟩⟩, ?_, fun x hx => ?_⟩
  · rw [z1_s hs, z1_a zl_c547 (by decide) (by decide)]; rfl
  · rw [z1_s hs, z1_a zl_c548 (by decide) (by decide)]; decide
  · rw [z1_s hs, z1_a zl_c549 (by decide) (by decide)]; rfl
  · rw [z1_a (zl_stS s hs).2.1 (by omega) (by omega), z1_a zl_c550 (by decide) (by decide)]
  · rw [z1_a (zl_stS s hs).2.2.1 (by omega) (by omega), z1_a zl_c550 (by decide) (by decide)]
  · rw [z1_a (zl_stS s hs).2.2.2.1 (by omega) (by omega), z1_a zl_c550 (by decide) (by decide)]
  · rw [z1_g zl_c550 (by decide) (by decide)] at hi
    omega
  · rw [z1_p hp]
    match p, hp with
    | 0, _ => decide
    | 1, _ => decide
    | p + 2, h => omega
  · rw [z1_p hp, if_neg (fun z => absurd z.1 (by decide)), z1_a zl_c553 (by decide) (by decide)]; rfl
  · rw [z1_p hp, if_neg (fun z => absurd z.1 (by decide)), z1_a zl_c554 (by decide) (by decide)]; rfl
  · rw [z1_p hp, if_neg (fun z => absurd z.1 (by decide)), z1_a zl_c555 (by decide) (by decide)]; rfl
  · rw [z1_p hp, if_neg (fun z => absurd z.1 (by decide)), z1_a zl_c558 (by decide) (by decide)]; rfl
  · rw [z1_g zl_c558 (by decide) (by decide)] at hx
    exact absurd hx (Nat.not_lt_zero _)
  · rw [z1_g zl_c555 (by decide) (by decide), Nat.zero_div] at e
    exact absurd e (by decide)
  · rw [z1_o ((zl_pr p hp).2.2.2.2.2 pl hpl).1 (by decide) (by decide) (by omega) (by omega), z1_a zl_c559 (by decide) (by decide)]
  · rw [z1_o ((zl_pr p hp).2.2.2.2.2 pl hpl).1 (by decide) (by decide) (by omega) (by omega), z1_a zl_c560 (by decide) (by decide)]
  · exact absurd (z1_a zl_c560 (by decide) (by decide) _) ne
  · rw [z1_o zl_c544 (by decide) (by decide) (by decide) (by decide), z1_46]
  · rw [gv_of (z1_46 25) (by decide)] at hx
    exact absurd hx (Nat.not_lt_zero _)
theorem wd_init : wd (fun _ _ => none) 3 zc_M1 := by
  have hsh : ∀ A o s, (∃ y, zl A = some (.inl y)) → A ≠ 564 → A ≠ 565 → wd_sh (fun _ _ => none) 3 zc_M1 A o s := fun A o s ⟨y, h⟩ h4 h5 pl hpl => ⟨⟨0, by decide, z1_a h h4 h5 _⟩, Or.inl ⟨z1_a h h4 h5 _, z1_a h h4 h5 _⟩, fun i _ => ⟨0, by decide, z1_a h h4 h5 _⟩⟩
  refine ⟨zc_1ok, fun pl v z e => (by cases e), ⟨0, by decide, z1_46 5, fun i hi => absurd hi (Nat.not_lt_zero _)⟩, fun s hs => ⟨⟨0, by decide, z1_a zl_c547 (by decide) (by decide) s⟩, Or.inl (z1_a zl_c548 (by decide) (by decide) s), Or.inl (z1_a zl_c549 (by decide) (by decide) s), hsh _ _ _ ⟨_, zl_c550⟩ (by decide) (by decide)⟩, fun p hp => ⟨0, 0, 0, 0, ⟨by decide, by decide, by decide, by decide⟩, ⟨z1_a zl_c553 (by decide) (by decide) p, z1_a zl_c554 (by decide) (by decide) p, z1_a zl_c555 (by decide) (by decide) p, z1_a zl_c558 (by decide) (by decide) p⟩, fun x hx => absurd hx (Nat.not_lt_zero _), Or.inl ⟨rfl, rfl⟩, fun e => absurd e (by decide), fun s hs e => absurd e (by rw [Nat.zero_div]; decide), fun pl hpl => ⟨⟨0, by decide, z1_a zl_c559 (by decide) (by decide) _⟩, Or.inl (z1_a zl_c560 (by decide) (by decide) _)⟩⟩, ⟨0, by decide, z1_46 25⟩⟩
/-- the heap after both constructors and the law's own array -/
theorem born_h {b : Nat} {ar : Nat → ClassId} {h h' : zx_H} (h0 : ∀ a, h a = none) (e1 : ∀ a, h' a = if b + 572 = a then some (zm_cell b ar zc_M1 572 (.inl (1, 1, 0, 0))) else zcm b ar (zc b ar h 0 546) a) : h' = zm_h b ar zl zc_M1 := by
  funext a
  rw [e1]
  by_cases c0 : b + 572 = a
  · rw [if_pos c0, ← c0]
    exact (zm_at (M := zc_M1) zl_c572).symm
  · rw [if_neg c0]
    unfold zcm
    by_cases c1 : b + 546 ≤ a ∧ a < b + 572
    · rw [if_pos c1]
    · rw [if_neg c1]
      unfold zc
      by_cases c2 : b + 0 ≤ a ∧ a < b + (0 + 546)
      · rw [if_pos c2]
        obtain ⟨r, hr, rfl⟩ : ∃ r, r < 546 ∧ a = b + r := ⟨a - b, by omega, by omega⟩
        cases hz : zl r with
        | none =>
          unfold zm_h
          rw [if_neg (by omega), if_neg (by omega), Nat.add_sub_cancel_left, hz]
          rfl
        | some e =>
          rw [zm_at hz, zm_at hz]
          congr 1
          have eI : zm_I zc_M r = zm_I zc_M1 r := (zc_1n (by omega) (by omega)).symm
          have eF : ∀ (fk : List (Option (Option Nat))) (q : Nat), zm_fs b zc_M r q fk = zm_fs b zc_M1 r q fk := by
            intro fk
            induction fk with
            | nil => intro q; rfl
            | cons x t ih =>
              intro q
              cases x with
              | none => simp only [zm_fs, ih, eI]
              | some y => cases y with
                | none => simp only [zm_fs, ih]; rfl
                | some d => simp only [zm_fs, ih]
          unfold zm_cell
          split <;> first | rfl | (rw [eI]) | (rw [eF])
      · rw [if_neg c2, h0]
        unfold zm_h
        by_cases c3 : a < b
        · rw [if_pos c3]
        · rw [if_neg c3]
          have : zl (a - b) = none := by
            obtain ⟨r, hr⟩ : ∃ r, a - b = r := ⟨_, rfl⟩
            rw [hr]
            have hge : 573 ≤ r := by omega
            by_cases c4 : r < 576
            · have h3 : r = 573 ∨ r = 574 ∨ r = 575 := by omega
              rcases h3 with rfl | rfl | rfl <;> rfl
            · unfold zl
              have hl : zl_tab.length = 36 := rfl
              rw [List.getElem?_eq_none (by rw [hl]; omega)]
              rfl
          rw [this]
          rfl
