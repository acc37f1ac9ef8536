/-! Class against model (pure): the first three that have a share -/
def wf (sel : Nat → Bool) : Nat → Nat × (Nat → Nat)
  | 0 => (0, fun _ => 0)
  | s + 1 => if (wf sel s).1 < 3 ∧ sel s = true then ((wf sel s).1 + 1, fun k => if k = (wf sel s).1 then s else (wf sel s).2 k) else wf sel s
theorem wf_S1 {sel : Nat → Bool} {s : Nat} (h : (wf sel s).1 < 3 ∧ sel s = true) : wf sel (s + 1) = ((wf sel s).1 + 1, fun k => if k = (wf sel s).1 then s else (wf sel s).2 k) := if_pos h
theorem wf_S0 {sel : Nat → Bool} {s : Nat} (h : ¬ ((wf sel s).1 < 3 ∧ sel s = true)) : wf sel (s + 1) = wf sel s := if_neg h
theorem wf_c {sel sel' : Nat → Bool} : ∀ d, (∀ s, s < d → sel s = sel' s) → wf sel d = wf sel' d
  | 0, _ => rfl
  | d + 1, h => by
    have e := wf_c d (fun s hs => h s (by omega))
    show (if (wf sel d).1 < 3 ∧ sel d = true then _ else _) = (if (wf sel' d).1 < 3 ∧ sel' d = true then _ else _)
    rw [e, h d (by omega)]
theorem wf_sp {sel : Nat → Bool} : ∀ d, (wf sel d).1 ≤ 3 ∧ (∀ k, k < (wf sel d).1 → (wf sel d).2 k < d ∧ sel ((wf sel d).2 k) = true) ∧ ∀ k j, k < j → j < (wf sel d).1 → (wf sel d).2 k < (wf sel d).2 j
  | 0 => ⟨Nat.zero_le 3, fun k hk => absurd hk (Nat.not_lt_zero _), fun k j _ hj => absurd hj (Nat.not_lt_zero _)⟩
  | d + 1 => by
    obtain ⟨i1, i2, i3⟩ := wf_sp (sel := sel) d
    by_cases c : (wf sel d).1 < 3 ∧ sel d = true
    · rw [wf_S1 c]
      refine ⟨by show (wf sel d).1 + 1 ≤ 3; omega, fun k hk => ?_, fun k j hkj hj => ?_⟩
      · have hk' : k < (wf sel d).1 + 1 := hk
        show (if k = (wf sel d).1 then d else (wf sel d).2 k) < d + 1 ∧ sel (if k = (wf sel d).1 then d else (wf sel d).2 k) = true
        by_cases e : k = (wf sel d).1
        · rw [if_pos e]; exact ⟨by omega, c.2⟩
        · rw [if_neg e]
          obtain ⟨q1, q2⟩ := i2 k (by omega)
          exact ⟨by omega, q2⟩
      · have hj' : j < (wf sel d).1 + 1 := hj
        show (if k = (wf sel d).1 then d else (wf sel d).2 k) < (if j = (wf sel d).1 then d else (wf sel d).2 j)
        rw [if_neg (by omega)]
        by_cases e : j = (wf sel d).1
        · rw [if_pos e]
          exact (i2 k (by omega)).1
        · rw [if_neg e]
          exact i3 k j hkj (by omega)
    · rw [wf_S0 c]
      exact ⟨i1, fun k hk => ⟨Nat.lt_succ_of_lt (i2 k hk).1, (i2 k hk).2⟩, i3⟩
/-- the class gathers: N the memories on the way, g who is asked, R their shelves -/
theorem gather {C : zm_M} {N : Nat → zm_M} {id : Int32} {g : Nat → Bool} {R : Nat → Nat} {pl : Nat} (hR : ∀ s, s < 7 → R s + 4 < 539) (h0 : N 0 = fm_gst C id) (hN : ∀ s, s < 7 → N (s + 1) = if g s = true then fm_gadd (N s) (gk_c (N s)) s (R s) pl else N s) : ∀ d, d ≤ 7 → we (fun r => r < 539 ∨ 542 ≤ r) C (N d) ∧ zm_I (N d) 539 0 = id ∧ zm_I (N d) 539 2 = nI (wf (fun s => g s && decide (zm_I C (R s + 2) pl ≠ 0 ∧ zm_I C (R s + 2) pl = id)) d).1 ∧ (∀ k, k < (wf (fun s => g s && decide (zm_I C (R s + 2) pl ≠ 0 ∧ zm_I C (R s + 2) pl = id)) d).1 → zm_I (N d) 540 k = nI ((wf (fun s => g s && decide (zm_I C (R s + 2) pl ≠ 0 ∧ zm_I C (R s + 2) pl = id)) d).2 k + 1) ∧ zm_J (N d) 541 k = zm_J C (R ((wf (fun s => g s && decide (zm_I C (R s + 2) pl ≠ 0 ∧ zm_I C (R s + 2) pl = id)) d).2 k) + 4) pl) ∧ (∀ L, (∀ s, s < d → g s = true → zm_I C (R s + 2) pl ≠ 0 → zm_I C (R s + 2) pl = id → zm_I C (R s + 3) pl = L) → 0 < (wf (fun s => g s && decide (zm_I C (R s + 2) pl ≠ 0 ∧ zm_I C (R s + 2) pl = id)) d).1 → zm_I (N d) 539 1 = L) := by
  intro d
  induction d with
  | zero =>
    refine fun _ => ?_
    rw [h0]
    unfold fm_gst
    refine ⟨we_trans (we_trans (we_wI (by omega)) (we_wI (by omega))) (we_wI (by omega)), ?_, zm_Is, fun k hk => absurd hk (Nat.not_lt_zero _), fun L _ hk => absurd hk (Nat.not_lt_zero _)⟩
    rw [zm_In (Or.inr (by decide)), zm_In (Or.inr (by decide)), zm_Is]
  | succ d ih =>
    intro hd7
    obtain ⟨i1, i2, i3, i4, i5⟩ := ih (by omega)
    rw [hN d (by omega)]
    have hle := (wf_sp (sel := fun s => g s && decide (zm_I C (R s + 2) pl ≠ 0 ∧ zm_I C (R s + 2) pl = id)) d).1
    have hRd := hR d (by omega)
    by_cases cg : g d = true
    · rw [if_pos cg]
      have ek : gk_c (N d) = (wf (fun s => g s && decide (zm_I C (R s + 2) pl ≠ 0 ∧ zm_I C (R s + 2) pl = id)) d).1 := by
        unfold gk_c
        rw [i3, nI_clamp (by omega)]
      rw [ek]
      unfold fm_gadd
      rw [we_I i1 (show R d + 2 < 539 ∨ 542 ≤ R d + 2 by omega), i2]
      by_cases cc : (wf (fun s => g s && decide (zm_I C (R s + 2) pl ≠ 0 ∧ zm_I C (R s + 2) pl = id)) d).1 < 3 ∧ zm_I C (R d + 2) pl ≠ 0 ∧ zm_I C (R d + 2) pl = id
      · rw [if_pos cc]
        have cs : (wf (fun s => g s && decide (zm_I C (R s + 2) pl ≠ 0 ∧ zm_I C (R s + 2) pl = id)) d).1 < 3 ∧ (fun s => g s && decide (zm_I C (R s + 2) pl ≠ 0 ∧ zm_I C (R s + 2) pl = id)) d = true := ⟨cc.1, by show (g d && decide (zm_I C (R d + 2) pl ≠ 0 ∧ zm_I C (R d + 2) pl = id)) = true; rw [cg, decide_eq_true cc.2]; rfl⟩
        rw [wf_S1 cs]
        generalize hw : wf (fun s => g s && decide (zm_I C (R s + 2) pl ≠ 0 ∧ zm_I C (R s + 2) pl = id)) d = W at i3 i4 i5 hle cc
        obtain ⟨n, t⟩ := W
        dsimp only at i3 i4 i5 hle cc ⊢
        generalize N d = M at i1 i2 i3 i4 i5
        unfold fm_ga2 fm_ga1
        refine ⟨we_trans i1 (we_trans (we_trans (we_trans (we_wI (by omega)) (we_wI (by omega))) (we_wJ (by omega))) (we_wI (by omega))), ?_, zm_Is, fun k hk => ⟨?_, ?_⟩, fun L hL _ => ?_⟩
        · rw [zm_In (Or.inr (by decide))]
          show zm_I (zm_wI (zm_wI M 539 1 (zm_I M (R d + 3) pl)) 540 n (nI d + nI 1)) 539 0 = id
          rw [zm_In (Or.inl (by decide)), zm_In (Or.inr (by decide)), i2]
        · rw [zm_In (Or.inl (by decide))]
          show zm_I (zm_wI (zm_wI M 539 1 (zm_I M (R d + 3) pl)) 540 n (nI d + nI 1)) 540 k = _
          by_cases e : k = n
          · rw [if_pos e, e, zm_Is, nI_add]
          · rw [if_neg e, zm_In (Or.inr e), zm_In (Or.inl (by decide))]
            exact (i4 k (by omega)).1
        · show zm_J (zm_wJ (zm_wI (zm_wI M 539 1 (zm_I M (R d + 3) pl)) 540 n (nI d + nI 1)) 541 n (zm_J M (R d + 4) pl)) 541 k = _
          by_cases e : k = n
          · rw [if_pos e, e, zm_Js]
            exact we_J i1 (by omega)
          · rw [if_neg e, zm_Jn (Or.inr e)]
            exact (i4 k (by omega)).2
        · rw [zm_In (Or.inr (by decide))]
          show zm_I (zm_wI (zm_wI M 539 1 (zm_I M (R d + 3) pl)) 540 n (nI d + nI 1)) 539 1 = _
          rw [zm_In (Or.inl (by decide)), zm_Is, we_I i1 (by omega)]
          exact hL d (by omega) cg cc.2.1 cc.2.2
      · rw [if_neg cc]
        have cs : ¬ ((wf (fun s => g s && decide (zm_I C (R s + 2) pl ≠ 0 ∧ zm_I C (R s + 2) pl = id)) d).1 < 3 ∧ (fun s => g s && decide (zm_I C (R s + 2) pl ≠ 0 ∧ zm_I C (R s + 2) pl = id)) d = true) := fun z => cc ⟨z.1, by
          have z2 : (g d && decide (zm_I C (R d + 2) pl ≠ 0 ∧ zm_I C (R d + 2) pl = id)) = true := z.2
          rw [cg, Bool.true_and] at z2
          exact of_decide_eq_true z2⟩
        rw [wf_S0 cs]
        exact ⟨i1, i2, i3, i4, fun L hL hk => i5 L (fun s hs => hL s (by omega)) hk⟩
    · rw [if_neg cg]
      have cs : ¬ ((wf (fun s => g s && decide (zm_I C (R s + 2) pl ≠ 0 ∧ zm_I C (R s + 2) pl = id)) d).1 < 3 ∧ (fun s => g s && decide (zm_I C (R s + 2) pl ≠ 0 ∧ zm_I C (R s + 2) pl = id)) d = true) := fun z => cg (by
        have z2 : (g d && decide (zm_I C (R d + 2) pl ≠ 0 ∧ zm_I C (R d + 2) pl = id)) = true := z.2
        exact (Bool.and_eq_true_iff.mp z2).1)
      rw [wf_S0 cs]
      exact ⟨i1, i2, i3, i4, fun L hL hk => i5 L (fun s hs => hL s (by omega)) hk⟩
/-- the model finds -/
theorem find {D : zm_M} {sel : Nat → Bool} : ∀ d, (gm_fx D sel d).2 = (wf sel d).1 ∧ we (fun r => r ≠ 566) D (gm_fx D sel d).1 ∧ ∀ k, k < (wf sel d).1 → zm_I (gm_fx D sel d).1 566 k = nI ((wf sel d).2 k)
  | 0 => ⟨rfl, we_refl, fun k hk => absurd hk (Nat.not_lt_zero _)⟩
  | d + 1 => by
    obtain ⟨i1, i2, i3⟩ := find (D := D) (sel := sel) d
    by_cases c : (wf sel d).1 < 3 ∧ sel d = true
    · have e : gm_fx D sel (d + 1) = (zm_wI (gm_fx D sel d).1 566 (gm_fx D sel d).2 (nI d), (gm_fx D sel d).2 + 1) := if_pos (by rw [i1]; exact c)
      rw [e, wf_S1 c, i1]
      refine ⟨rfl, we_trans i2 (we_wI (by omega)), fun k hk => ?_⟩
      have hk' : k < (wf sel d).1 + 1 := hk
      show zm_I (zm_wI (gm_fx D sel d).1 566 (wf sel d).1 (nI d)) 566 k = nI (if k = (wf sel d).1 then d else (wf sel d).2 k)
      by_cases ek : k = (wf sel d).1
      · rw [if_pos ek, ek, zm_Is]
      · rw [if_neg ek, zm_In (Or.inr ek)]
        exact i3 k (by omega)
    · have e : gm_fx D sel (d + 1) = gm_fx D sel d := if_neg (by rw [i1]; exact c)
      rw [e, wf_S0 c]
      exact ⟨i1, i2, i3⟩
theorem ft_fx {D : zm_M} {but id : Int32} {pl : Nat} : ∀ d, gm_ft D but pl id d = gm_fx D (fun s => decide (gs_cand D but pl id s)) d
  | 0 => rfl
  | d + 1 => by
    show (if (gm_ft D but pl id d).2 < 3 ∧ gs_cand D but pl id d then _ else _) = (if (gm_fx D (fun s => decide (gs_cand D but pl id s)) d).2 < 3 ∧ decide (gs_cand D but pl id d) = true then _ else _)
    rw [ft_fx d]
    by_cases c : (gm_fx D (fun s => decide (gs_cand D but pl id s)) d).2 < 3 ∧ gs_cand D but pl id d
    · rw [if_pos c, if_pos ⟨c.1, decide_eq_true c.2⟩]
    · rw [if_neg c, if_neg (fun z => c ⟨z.1, of_decide_eq_true z.2⟩)]
