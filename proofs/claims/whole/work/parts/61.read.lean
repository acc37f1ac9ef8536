/-! LogHouseModel: read -/
def gv (M : zm_M) (r x : Nat) : Nat := (zm_I M r x).toNatClampNeg
/-- what the stations have: lengths up to 24, bytes -/
def gh_ok (M : zm_M) : Prop := ∀ s, s < 7 → ∀ pl, pl < 8 → (zm_I M 550 (88 * s + 11 * pl + 2) = nI (gv M 550 (88 * s + 11 * pl + 2)) ∧ gv M 550 (88 * s + 11 * pl + 2) ≤ 24) ∧ ∀ i, i < 8 → zm_I M 550 (88 * s + 11 * pl + 3 + i) = nI (gv M 550 (88 * s + 11 * pl + 3 + i)) ∧ gv M 550 (88 * s + 11 * pl + 3 + i) < 256
theorem gv_eq {M M' : zm_M} {r x : Nat} (h : zm_I M' r x = zm_I M r x) : gv M' r x = gv M r x := by unfold gv; rw [h]
theorem gh_fr {M M' : zm_M} (h : ∀ x, zm_I M' 550 x = zm_I M 550 x) (hH : gh_ok M) : gh_ok M' := by
  intro s hs pl hpl
  obtain ⟨h1, h2⟩ := hH s hs pl hpl
  refine ⟨?_, fun i hi => ?_⟩
  · rw [gv_eq (h _), h]
    exact h1
  · rw [gv_eq (h _), h]
    exact h2 i hi
def gm_f3 (M : zm_M) (pl t0 t1 t2 : Nat) : zm_M := gm_tg M t0 t1 t2 (fun i => gv M 550 (88 * t0 + 11 * pl + 3 + i)) (fun i => gv M 550 (88 * t1 + 11 * pl + 3 + i)) (fun i => gv M 550 (88 * t2 + 11 * pl + 3 + i)) (gv M 550 (88 * t0 + 11 * pl + 2)) ((gv M 550 (88 * t0 + 11 * pl + 2) + 2) / 3)
theorem gm_f3_n {M : zm_M} {pl t0 t1 t2 r x : Nat} (h : r ≠ 567) (h8 : r ≠ 568) : zm_I (gm_f3 M pl t0 t1 t2) r x = zm_I M r x := gm_tg_n h h8 _
/-- three found stations, in their order -/
theorem gm_ft_f {M : zm_M} {but id : Int32} {pl : Nat} : ∀ s, ∃ f : Nat → Nat, (∀ j, j < (gm_ft M but pl id s).2 → zm_I (gm_ft M but pl id s).1 566 j = nI (f j) ∧ f j < s ∧ gs_cand M but pl id (f j)) ∧ ∀ j, j + 1 < (gm_ft M but pl id s).2 → f j < f (j + 1)
  | 0 => ⟨fun _ => 0, fun j hj => absurd hj (Nat.not_lt_zero j), fun j hj => absurd hj (Nat.not_lt_zero _)⟩
  | s + 1 => by
    obtain ⟨f, f1, f2⟩ := gm_ft_f (M := M) (but := but) (id := id) (pl := pl) s
    unfold gm_ft
    by_cases c : (gm_ft M but pl id s).2 < 3 ∧ gs_cand M but pl id s
    · rw [if_pos c]
      refine ⟨fun j => if j = (gm_ft M but pl id s).2 then s else f j, fun j hj => ?_, fun j hj => ?_⟩
      · by_cases e : j = (gm_ft M but pl id s).2
        · dsimp only
          rw [if_pos e]
          subst e
          exact ⟨zm_Is, by omega, c.2⟩
        · have hj' : j < (gm_ft M but pl id s).2 + 1 := hj
          dsimp only
          rw [if_neg e]
          obtain ⟨q1, q2, q3⟩ := f1 j (by omega)
          exact ⟨(zm_In (Or.inr e)).trans q1, by omega, q3⟩
      · have hj' : j + 1 < (gm_ft M but pl id s).2 + 1 := hj
        dsimp only
        rw [if_neg (show ¬ j = (gm_ft M but pl id s).2 by omega)]
        by_cases e : j + 1 = (gm_ft M but pl id s).2
        · rw [if_pos e]
          exact (f1 j (by omega)).2.1
        · rw [if_neg e]
          exact f2 j (by omega)
    · rw [if_neg c]
      exact ⟨f, fun j hj => ⟨(f1 j hj).1, by have := (f1 j hj).2.1; omega, (f1 j hj).2.2⟩, f2⟩
theorem gm_ft_3 {M : zm_M} {but id : Int32} {pl : Nat} (h : (gm_ft M but pl id 7).2 = 3) : ∃ t0 t1 t2, t0 < t1 ∧ t1 < t2 ∧ t2 < 7 ∧ zm_I (gm_ft M but pl id 7).1 566 0 = nI t0 ∧ zm_I (gm_ft M but pl id 7).1 566 1 = nI t1 ∧ zm_I (gm_ft M but pl id 7).1 566 2 = nI t2 ∧ gs_cand M but pl id t0 ∧ gs_cand M but pl id t1 ∧ gs_cand M but pl id t2 := by
  obtain ⟨f, f1, f2⟩ := gm_ft_f (M := M) (but := but) (id := id) (pl := pl) 7
  obtain ⟨a1, a2, a3⟩ := f1 0 (by omega)
  obtain ⟨b1, b2, b3⟩ := f1 1 (by omega)
  obtain ⟨c1, c2, c3⟩ := f1 2 (by omega)
  exact ⟨f 0, f 1, f 2, f2 0 (by omega), f2 1 (by omega), c2, a1, b1, c1, a3, b3, c3⟩
section C61
variable {l : Launch} {D : va_G} {ar : Nat → ClassId} {b : Nat} {Z : State → Prop} {M : zm_M} {n : Nat}
theorem c_Mo_fromThree {pl t0 t1 t2 : Nat} (hT : gt_ok M) (hH : gh_ok M) (hpl : pl < 8) (h0 : zm_I M 566 0 = nI t0) (h1 : zm_I M 566 1 = nI t1) (h2 : zm_I M 566 2 = nI t2) (l1 : t0 < t1) (l2 : t1 < t2) (l3 : t2 < 7) : zK l D ar b Z y_Mo_fromThree 4 [.ref (b + 546), .int (nI pl)] M n (some (.int (nI (gv M 550 (88 * t0 + 11 * pl + 2))))) (gm_f3 M pl t0 t1 t2) := by
  obtain ⟨⟨e0, e1⟩, e2⟩ := hH t0 (by omega) pl hpl
  have hg := c_Mo_together (l := l) (D := D) (ar := ar) (b := b) (Z := Z) (M := M) (n := n) (a0 := 88 * t0 + 11 * pl) (a1 := 88 * t1 + 11 * pl) (a2 := 88 * t2 + 11 * pl) hT zl_c550 (by decide) (by decide) (by decide) (by omega) (by omega) (by omega) e0 e1 (fun i hi => e2 i (by omega)) (fun i hi => (hH t1 (by omega) pl hpl).2 i (by omega)) (fun i hi => (hH t2 (by omega) pl hpl).2 i (by omega)) h0 h1 h2 (by omega) (by omega) (by omega) (by omega) (by omega) (by omega)
  refine zk_entry (L := [some (.ref (b + 546)), some (.int (nI pl))]) rfl rfl (Nat.le_of_ble_eq_true rfl) rfl rfl ?_
  refine zx_aload_n (pc2 := 1) d_Mo_fromThree_0 rfl rfl ?_
  refine zx_aload_n (pc2 := 2) d_Mo_fromThree_1 rfl rfl ?_
  refine zm_getR (pc2 := 5) f_Mo_24 d_Mo_fromThree_2 rfl zl_c546 rfl ?_
  refine zx_bipush (pc2 := 7) (v := nI 88) d_Mo_fromThree_5 rfl (by decide) ?_
  refine zx_aload_n (pc2 := 8) d_Mo_fromThree_7 rfl rfl ?_
  refine zm_getR (pc2 := 11) f_Mo_75 d_Mo_fromThree_8 rfl zl_c546 rfl ?_
  refine zx_iconst (pc2 := 12) (v := nI 0) d_Mo_fromThree_11 rfl (by decide) ?_
  refine zk_ialdV (pc2 := 13) d_Mo_fromThree_12 rfl (by rfl) rfl (by omega) (by decide) (h0) ?_
  first | refine zx_imulN (pc2 := 14) d_Mo_fromThree_13 rfl ?_ | refine zx_imul (pc2 := 14) d_Mo_fromThree_13 rfl ?_
  refine zx_bipush (pc2 := 16) (v := nI 11) d_Mo_fromThree_14 rfl (by decide) ?_
  refine zx_iload_n (pc2 := 17) d_Mo_fromThree_16 rfl rfl ?_
  first | refine zx_imulN (pc2 := 18) d_Mo_fromThree_17 rfl ?_ | refine zx_imul (pc2 := 18) d_Mo_fromThree_17 rfl ?_
  first | refine zx_iaddN (pc2 := 19) d_Mo_fromThree_18 rfl ?_ | refine zx_iadd (pc2 := 19) d_Mo_fromThree_18 rfl ?_
  refine zx_bipush (pc2 := 21) (v := nI 88) d_Mo_fromThree_19 rfl (by decide) ?_
  refine zx_aload_n (pc2 := 22) d_Mo_fromThree_21 rfl rfl ?_
  refine zm_getR (pc2 := 25) f_Mo_75 d_Mo_fromThree_22 rfl zl_c546 rfl ?_
  refine zx_iconst (pc2 := 26) (v := nI 1) d_Mo_fromThree_25 rfl (by decide) ?_
  refine zk_ialdV (pc2 := 27) d_Mo_fromThree_26 rfl (by rfl) rfl (by omega) (by decide) (h1) ?_
  first | refine zx_imulN (pc2 := 28) d_Mo_fromThree_27 rfl ?_ | refine zx_imul (pc2 := 28) d_Mo_fromThree_27 rfl ?_
  refine zx_bipush (pc2 := 30) (v := nI 11) d_Mo_fromThree_28 rfl (by decide) ?_
  refine zx_iload_n (pc2 := 31) d_Mo_fromThree_30 rfl rfl ?_
  first | refine zx_imulN (pc2 := 32) d_Mo_fromThree_31 rfl ?_ | refine zx_imul (pc2 := 32) d_Mo_fromThree_31 rfl ?_
  first | refine zx_iaddN (pc2 := 33) d_Mo_fromThree_32 rfl ?_ | refine zx_iadd (pc2 := 33) d_Mo_fromThree_32 rfl ?_
  refine zx_bipush (pc2 := 35) (v := nI 88) d_Mo_fromThree_33 rfl (by decide) ?_
  refine zx_aload_n (pc2 := 36) d_Mo_fromThree_35 rfl rfl ?_
  refine zm_getR (pc2 := 39) f_Mo_75 d_Mo_fromThree_36 rfl zl_c546 rfl ?_
  refine zx_iconst (pc2 := 40) (v := nI 2) d_Mo_fromThree_39 rfl (by decide) ?_
  refine zk_ialdV (pc2 := 41) d_Mo_fromThree_40 rfl (by rfl) rfl (by omega) (by decide) (h2) ?_
  first | refine zx_imulN (pc2 := 42) d_Mo_fromThree_41 rfl ?_ | refine zx_imul (pc2 := 42) d_Mo_fromThree_41 rfl ?_
  refine zx_bipush (pc2 := 44) (v := nI 11) d_Mo_fromThree_42 rfl (by decide) ?_
  refine zx_iload_n (pc2 := 45) d_Mo_fromThree_44 rfl rfl ?_
  first | refine zx_imulN (pc2 := 46) d_Mo_fromThree_45 rfl ?_ | refine zx_imul (pc2 := 46) d_Mo_fromThree_45 rfl ?_
  first | refine zx_iaddN (pc2 := 47) d_Mo_fromThree_46 rfl ?_ | refine zx_iadd (pc2 := 47) d_Mo_fromThree_46 rfl ?_
  refine zk_callV (pc2 := 50) s_Mo_146 v_Mo_together (zl_c546) (hg) d_Mo_fromThree_47 rfl rfl rfl (Nat.le_of_ble_eq_true rfl) (by decide) (by decide) ?_
  exact zx_iret d_Mo_fromThree_50 rfl (⟨rfl, rfl, rfl⟩)
def gm_rdW (M : zm_M) (pl : Nat) (id : Int32) : zm_M := zm_wI (gm_ft (gm_t M 0) (-1) pl id 7).1 546 0 (nI 0)
theorem gm_rdW_n {pl r x : Nat} {id : Int32} (h : r ≠ 566) (h6 : r ≠ 546) : zm_I (gm_rdW M pl id) r x = zm_I M r x := by
  unfold gm_rdW
  rw [zm_In (Or.inl h6), (gm_ft_inv 7).2.1 r x h, gt_t (Or.inl h6)]
def gm_rd (M : zm_M) (pl : Nat) (id : Int32) (t0 t1 t2 k : Nat) : zm_M := gm_up (zm_wI (gm_f3 (gm_rdW M pl id) pl t0 t1 t2) 546 25 (nI (gv M 550 (88 * t0 + 11 * pl + 2)))) 569 0 k (fun x => zm_I (gm_f3 (gm_rdW M pl id) pl t0 t1 t2) 567 x)
theorem c_Mo_read {p pl t0 t1 t2 : Nat} {id : Int32} (hT : gt_ok M) (hH : gh_ok M) (hp : p < 2) (hpl : pl < 8) (hid : zm_I M 559 (8 * p + pl) = id) (h0 : id ≠ 0) (h3 : (gm_ft (gm_t M 0) (-1) pl id 7).2 = 3) (l1 : t0 < t1) (l2 : t1 < t2) (l3 : t2 < 7) (k0 : zm_I (gm_ft (gm_t M 0) (-1) pl id 7).1 566 0 = nI t0) (k1 : zm_I (gm_ft (gm_t M 0) (-1) pl id 7).1 566 1 = nI t1) (k2 : zm_I (gm_ft (gm_t M 0) (-1) pl id 7).1 566 2 = nI t2) : zK l D ar b Z y_Mo_read 5 [.ref (b + 546), .int (nI p), .int (nI pl)] M n (some (.int (nI (gv M 550 (88 * t0 + 11 * pl + 2))))) (gm_rd M pl id t0 t1 t2 (gv M 550 (88 * t0 + 11 * pl + 2))) := by
  have hf := c_Mo_findThree (l := l) (D := D) (ar := ar) (b := b) (Z := Z) (M := gm_t M 0) (n := n) (but := -1) (id := id) hpl
  rw [if_pos h3] at hf
  have hv : ∀ r x, r ≠ 566 → r ≠ 546 → zm_I (gm_rdW M pl id) r x = zm_I M r x := fun r x q1 q2 => gm_rdW_n q1 q2
  have hTW : gt_ok (gm_rdW M pl id) := gt_fr2 (fun r x hr => hv r x (by rcases hr with rfl | rfl <;> decide) (by rcases hr with rfl | rfl <;> decide)) hT
  have h3' := c_Mo_fromThree (l := l) (D := D) (ar := ar) (b := b) (Z := Z) (M := gm_rdW M pl id) (n := n) hTW (gh_fr (fun x => hv 550 x (by decide) (by decide)) hH) hpl ((zm_In (Or.inl (by decide))).trans k0) ((zm_In (Or.inl (by decide))).trans k1) ((zm_In (Or.inl (by decide))).trans k2) l1 l2 l3
  rw [gv_eq (hv 550 _ (by decide) (by decide))] at h3'
  have hln := ((hH t0 (by omega) pl hpl).1).2
  refine zk_entry (L := [some (.ref (b + 546)), some (.int (nI p)), some (.int (nI pl)), none, none]) rfl rfl (Nat.le_of_ble_eq_true rfl) rfl rfl ?_
  refine zx_aload_n (pc2 := 1) d_Mo_read_0 rfl rfl ?_
  refine zx_iload_n (pc2 := 2) d_Mo_read_1 rfl rfl ?_
  refine zk_callS (pc2 := 5) s_Mo_158 t_Mo_noProposer (c_Mo_noP0 hp) d_Mo_read_2 rfl rfl rfl (Nat.le_of_ble_eq_true rfl) (by decide) (by decide) ?_
  refine zx_if_ne (pc2 := 8) d_Mo_read_5 rfl (tgt := 18) (by decide) (fun cz => absurd (by decide) cz) (fun _ => ?_)
  refine zx_iload_n (pc2 := 9) d_Mo_read_8 rfl rfl ?_
  refine zx_if_lt (pc2 := 12) d_Mo_read_9 rfl (tgt := 18) (by decide) (fun cz => absurd cz (nI_pos (by omega))) (fun _ => ?_)
  refine zx_iload_n (pc2 := 13) d_Mo_read_12 rfl rfl ?_
  refine zx_bipush (pc2 := 15) (v := nI 7) d_Mo_read_13 rfl (by decide) ?_
  refine zx_icmp_le (pc2 := 18) d_Mo_read_15 rfl (tgt := 22) (by decide) (fun _ => ?_) (fun cz => absurd (nI_le (by omega) (by decide)) cz)
  refine zx_iconst (pc2 := 23) (v := nI 0) d_Mo_read_22 rfl (by decide) ?_
  refine zm_putI (pc2 := 26) p_Mo_7 d_Mo_read_23 rfl zl_c546 rfl rfl rfl ?_
  refine zx_aload_n (pc2 := 27) d_Mo_read_26 rfl rfl ?_
  refine zm_getV (pc2 := 30) f_Mo_7 d_Mo_read_27 rfl zl_c546 rfl (zm_Is) ?_
  refine zx_if_eq (pc2 := 33) d_Mo_read_30 rfl (tgt := 35) (by decide) (fun _ => ?_) (fun cz => absurd (by decide) cz)
  refine zx_aload_n (pc2 := 36) d_Mo_read_35 rfl rfl ?_
  refine zm_getR (pc2 := 39) f_Mo_54 d_Mo_read_36 rfl zl_c546 rfl ?_
  refine zx_bipush (pc2 := 41) (v := nI 8) d_Mo_read_39 rfl (by decide) ?_
  refine zx_iload_n (pc2 := 42) d_Mo_read_41 rfl rfl ?_
  first | refine zx_imulN (pc2 := 43) d_Mo_read_42 rfl ?_ | refine zx_imul (pc2 := 43) d_Mo_read_42 rfl ?_
  refine zx_iload_n (pc2 := 44) d_Mo_read_43 rfl rfl ?_
  first | refine zx_iaddN (pc2 := 45) d_Mo_read_44 rfl ?_ | refine zx_iadd (pc2 := 45) d_Mo_read_44 rfl ?_
  refine zk_ialdV (pc2 := 46) d_Mo_read_45 rfl (by rfl) rfl (by omega) (by decide) ((gt_t (Or.inl (by decide))).trans hid) ?_
  refine zx_ist3 (pc2 := 47) d_Mo_read_46 rfl rfl (by decide) ?_
  refine zx_aload_n (pc2 := 48) d_Mo_read_47 rfl rfl ?_
  refine zx_iload_n (pc2 := 49) d_Mo_read_48 rfl rfl ?_
  refine zx_if_ne (pc2 := 52) d_Mo_read_49 rfl (tgt := 56) (by decide) (fun _ => ?_) (fun cz => absurd cz (h0))
  refine zx_aload_n (pc2 := 57) d_Mo_read_56 rfl rfl ?_
  refine zx_iconst (pc2 := 58) (v := -1) d_Mo_read_57 rfl (by decide) ?_
  refine zx_iload_n (pc2 := 59) d_Mo_read_58 rfl rfl ?_
  refine zx_iload_n (pc2 := 60) d_Mo_read_59 rfl rfl ?_
  refine zk_callV (pc2 := 63) s_Mo_182 v_Mo_findThree (zl_c546) (hf) d_Mo_read_60 rfl rfl rfl (Nat.le_of_ble_eq_true rfl) (by decide) (by decide) ?_
  refine zx_if_ne (pc2 := 66) d_Mo_read_63 rfl (tgt := 70) (by decide) (fun _ => ?_) (fun cz => absurd cz (by decide))
  refine zx_iconst (pc2 := 71) (v := nI 0) d_Mo_read_70 rfl (by decide) ?_
  refine zm_putI (pc2 := 74) p_Mo_7 d_Mo_read_71 rfl zl_c546 rfl rfl rfl ?_
  refine zx_aload_n (pc2 := 75) d_Mo_read_74 rfl rfl ?_
  refine zm_getV (pc2 := 78) f_Mo_7 d_Mo_read_75 rfl zl_c546 rfl (zm_Is) ?_
  refine zx_if_eq (pc2 := 81) d_Mo_read_78 rfl (tgt := 83) (by decide) (fun _ => ?_) (fun cz => absurd (by decide) cz)
  refine zx_aload_n (pc2 := 84) d_Mo_read_83 rfl rfl ?_
  refine zx_aload_n (pc2 := 85) d_Mo_read_84 rfl rfl ?_
  refine zx_iload_n (pc2 := 86) d_Mo_read_85 rfl rfl ?_
  refine zk_callV (pc2 := 89) s_Mo_185 v_Mo_fromThree (zl_c546) (h3') d_Mo_read_86 rfl rfl rfl (Nat.le_of_ble_eq_true rfl) (by decide) (by decide) ?_
  refine zm_putI (pc2 := 92) p_Mo_87 d_Mo_read_89 rfl zl_c546 rfl rfl rfl ?_
  refine zx_iconst (pc2 := 93) (v := nI 0) d_Mo_read_92 rfl (by decide) ?_
  refine zx_ist4 (pc2 := 95) d_Mo_read_93 rfl rfl (by decide) ?_
  generalize hL : gv M 550 (88 * t0 + 11 * pl + 2) = len at hln
  have e0 : gm_rd M pl id t0 t1 t2 0 = zm_wI (gm_f3 (gm_rdW M pl id) pl t0 t1 t2) 546 25 (nI len) := by
    unfold gm_rd
    rw [gm_up0, hL]
  refine Eq.mp (congrArg (fun w => zk_X l D ar b Z y_Mo_read 5 (some (.int (nI len))) (gm_rd M pl id t0 t1 t2 len) n 95 [some (.ref (b + 546)), some (.int (nI p)), some (.int (nI pl)), some (.int id), some (.int (nI 0))] [] w) e0) ?_
  have hr : ∀ k, zm_I (gm_rd M pl id t0 t1 t2 k) 546 25 = nI len := fun k => by
    unfold gm_rd
    rw [gm_upn (Or.inl (by decide)), zm_Is, hL]
  refine zx_for (X := fun k => zk_X l D ar b Z y_Mo_read 5 (some (.int (nI len))) (gm_rd M pl id t0 t1 t2 len) n 95 [some (.ref (b + 546)), some (.int (nI p)), some (.int (nI pl)), some (.int id), some (.int (nI k))] [] (gm_rd M pl id t0 t1 t2 k)) len ?_ ?_ 0 (Nat.zero_le _)
  · refine zx_iload (pc2 := 97) d_Mo_read_95 rfl rfl ?_
    refine zx_aload_n (pc2 := 98) d_Mo_read_97 rfl rfl ?_
    refine zm_getV (pc2 := 101) f_Mo_87 d_Mo_read_98 rfl zl_c546 rfl (hr _) ?_
    refine zx_icmp_ge (pc2 := 104) d_Mo_read_101 rfl (tgt := 124) (by decide) (fun _ => ?_) (fun cz => absurd (nI_le (Nat.le_refl _) (by omega)) cz)
    refine zx_aload_n (pc2 := 125) d_Mo_read_124 rfl rfl ?_
    refine zm_getV (pc2 := 128) f_Mo_87 d_Mo_read_125 rfl zl_c546 rfl (hr _) ?_
    exact zx_iret d_Mo_read_128 rfl (⟨rfl, rfl, rfl⟩)
  · intro k hk ih
    have eS : gm_rd M pl id t0 t1 t2 (k + 1) = zm_wI (gm_rd M pl id t0 t1 t2 k) 569 k (zm_I (gm_f3 (gm_rdW M pl id) pl t0 t1 t2) 567 k) := by
      have := (gm_upS (M := zm_wI (gm_f3 (gm_rdW M pl id) pl t0 t1 t2) 546 25 (nI (gv M 550 (88 * t0 + 11 * pl + 2)))) (r := 569) (lo := 0) (k := k) (f := fun x => zm_I (gm_f3 (gm_rdW M pl id) pl t0 t1 t2) 567 x)).symm
      rw [Nat.zero_add] at this
      exact this
    rw [eS] at ih
    refine zx_iload (pc2 := 97) d_Mo_read_95 rfl rfl ?_
    refine zx_aload_n (pc2 := 98) d_Mo_read_97 rfl rfl ?_
    refine zm_getV (pc2 := 101) f_Mo_87 d_Mo_read_98 rfl zl_c546 rfl (hr _) ?_
    refine zx_icmp_ge (pc2 := 104) d_Mo_read_101 rfl (tgt := 124) (by decide) (fun cz => absurd cz (nI_ge hk (by omega))) (fun _ => ?_)
    refine zx_aload_n (pc2 := 105) d_Mo_read_104 rfl rfl ?_
    refine zm_getR (pc2 := 108) f_Mo_84 d_Mo_read_105 rfl zl_c546 rfl ?_
    refine zx_iload (pc2 := 110) d_Mo_read_108 rfl rfl ?_
    refine zx_aload_n (pc2 := 111) d_Mo_read_110 rfl rfl ?_
    refine zm_getR (pc2 := 114) f_Mo_78 d_Mo_read_111 rfl zl_c546 rfl ?_
    refine zx_iload (pc2 := 116) d_Mo_read_114 rfl rfl ?_
    refine zk_ialdV (pc2 := 117) d_Mo_read_116 rfl (by rfl) rfl (by omega) (by decide) ((gm_upn (Or.inl (by decide))).trans (zm_In (Or.inl (by decide)))) ?_
    refine zk_iast (pc2 := 118) d_Mo_read_117 rfl (by rfl) rfl (by omega) (by decide) ?_
    refine zx_inc4 (pc2 := 121) d_Mo_read_118 rfl (zk_1 _) rfl (by decide) ?_
    refine zx_goto (tgt := 95) d_Mo_read_121 (by decide) ?_
    exact ih
theorem x_Mo_read {x y : Int32} (hx : x < 0 ∨ nI 2 ≤ x) : zK l D ar b Z y_Mo_read 5 [.ref (b + 546), .int x, .int y] M n (some (.int (nI 0))) (gm_t M 1) := by
  refine zk_entry (L := [some (.ref (b + 546)), some (.int x), some (.int y), none, none]) rfl rfl (Nat.le_of_ble_eq_true rfl) rfl rfl ?_
  refine zx_aload_n (pc2 := 1) d_Mo_read_0 rfl rfl ?_
  refine zx_iload_n (pc2 := 2) d_Mo_read_1 rfl rfl ?_
  refine zk_callS (pc2 := 5) s_Mo_158 t_Mo_noProposer (c_Mo_noP1 hx) d_Mo_read_2 rfl rfl rfl (Nat.le_of_ble_eq_true rfl) (by decide) (by decide) ?_
  refine zx_if_ne (pc2 := 8) d_Mo_read_5 rfl (tgt := 18) (by decide) (fun _ => ?_) (fun cz => absurd cz (by decide))
  refine zx_iconst (pc2 := 19) (v := nI 1) d_Mo_read_18 rfl (by decide) ?_
  refine zx_goto (tgt := 23) d_Mo_read_19 (by decide) ?_
  refine zm_putI (pc2 := 26) p_Mo_7 d_Mo_read_23 rfl zl_c546 rfl rfl rfl ?_
  refine zx_aload_n (pc2 := 27) d_Mo_read_26 rfl rfl ?_
  refine zm_getV (pc2 := 30) f_Mo_7 d_Mo_read_27 rfl zl_c546 rfl (zm_Is) ?_
  refine zx_if_eq (pc2 := 33) d_Mo_read_30 rfl (tgt := 35) (by decide) (fun cz => absurd cz (by decide)) (fun _ => ?_)
  refine zx_iconst (pc2 := 34) (v := nI 0) d_Mo_read_33 rfl (by decide) ?_
  exact zx_iret d_Mo_read_34 rfl (⟨rfl, rfl, rfl⟩)
theorem x_Mo_readP {p : Nat} {y : Int32} (hp : p < 2) (hx : y < 0 ∨ nI 8 ≤ y) : zK l D ar b Z y_Mo_read 5 [.ref (b + 546), .int (nI p), .int y] M n (some (.int (nI 0))) (gm_t M 1) := by
  refine zk_entry (L := [some (.ref (b + 546)), some (.int (nI p)), some (.int y), none, none]) rfl rfl (Nat.le_of_ble_eq_true rfl) rfl rfl ?_
  by_cases c : y < 0
  · refine zx_aload_n (pc2 := 1) d_Mo_read_0 rfl rfl ?_
    refine zx_iload_n (pc2 := 2) d_Mo_read_1 rfl rfl ?_
    refine zk_callS (pc2 := 5) s_Mo_158 t_Mo_noProposer (c_Mo_noP0 hp) d_Mo_read_2 rfl rfl rfl (Nat.le_of_ble_eq_true rfl) (by decide) (by decide) ?_
    refine zx_if_ne (pc2 := 8) d_Mo_read_5 rfl (tgt := 18) (by decide) (fun cz => absurd (by decide) cz) (fun _ => ?_)
    refine zx_iload_n (pc2 := 9) d_Mo_read_8 rfl rfl ?_
    refine zx_if_lt (pc2 := 12) d_Mo_read_9 rfl (tgt := 18) (by decide) (fun _ => ?_) (fun cz => absurd (c) cz)
    refine zx_iconst (pc2 := 19) (v := nI 1) d_Mo_read_18 rfl (by decide) ?_
    refine zx_goto (tgt := 23) d_Mo_read_19 (by decide) ?_
    refine zm_putI (pc2 := 26) p_Mo_7 d_Mo_read_23 rfl zl_c546 rfl rfl rfl ?_
    refine zx_aload_n (pc2 := 27) d_Mo_read_26 rfl rfl ?_
    refine zm_getV (pc2 := 30) f_Mo_7 d_Mo_read_27 rfl zl_c546 rfl (zm_Is) ?_
    refine zx_if_eq (pc2 := 33) d_Mo_read_30 rfl (tgt := 35) (by decide) (fun cz => absurd cz (by decide)) (fun _ => ?_)
    refine zx_iconst (pc2 := 34) (v := nI 0) d_Mo_read_33 rfl (by decide) ?_
    exact zx_iret d_Mo_read_34 rfl (⟨rfl, rfl, rfl⟩)
  · refine zx_aload_n (pc2 := 1) d_Mo_read_0 rfl rfl ?_
    refine zx_iload_n (pc2 := 2) d_Mo_read_1 rfl rfl ?_
    refine zk_callS (pc2 := 5) s_Mo_158 t_Mo_noProposer (c_Mo_noP0 hp) d_Mo_read_2 rfl rfl rfl (Nat.le_of_ble_eq_true rfl) (by decide) (by decide) ?_
    refine zx_if_ne (pc2 := 8) d_Mo_read_5 rfl (tgt := 18) (by decide) (fun cz => absurd (by decide) cz) (fun _ => ?_)
    refine zx_iload_n (pc2 := 9) d_Mo_read_8 rfl rfl ?_
    refine zx_if_lt (pc2 := 12) d_Mo_read_9 rfl (tgt := 18) (by decide) (fun cz => absurd cz (c)) (fun _ => ?_)
    refine zx_iload_n (pc2 := 13) d_Mo_read_12 rfl rfl ?_
    refine zx_bipush (pc2 := 15) (v := nI 7) d_Mo_read_13 rfl (by decide) ?_
    refine zx_icmp_le (pc2 := 18) d_Mo_read_15 rfl (tgt := 22) (by decide) (fun cz => absurd cz ((gx_8 hx).resolve_left c)) (fun _ => ?_)
    refine zx_iconst (pc2 := 19) (v := nI 1) d_Mo_read_18 rfl (by decide) ?_
    refine zx_goto (tgt := 23) d_Mo_read_19 (by decide) ?_
    refine zm_putI (pc2 := 26) p_Mo_7 d_Mo_read_23 rfl zl_c546 rfl rfl rfl ?_
    refine zx_aload_n (pc2 := 27) d_Mo_read_26 rfl rfl ?_
    refine zm_getV (pc2 := 30) f_Mo_7 d_Mo_read_27 rfl zl_c546 rfl (zm_Is) ?_
    refine zx_if_eq (pc2 := 33) d_Mo_read_30 rfl (tgt := 35) (by decide) (fun cz => absurd cz (by decide)) (fun _ => ?_)
    refine zx_iconst (pc2 := 34) (v := nI 0) d_Mo_read_33 rfl (by decide) ?_
    exact zx_iret d_Mo_read_34 rfl (⟨rfl, rfl, rfl⟩)
theorem x_Mo_readN {p pl : Nat} (hp : p < 2) (hpl : pl < 8) (h0 : zm_I M 559 (8 * p + pl) = 0) : zK l D ar b Z y_Mo_read 5 [.ref (b + 546), .int (nI p), .int (nI pl)] M n (some (.int (nI 0))) (zm_wI (gm_t M 0) 546 0 (nI 2)) := by
  refine zk_entry (L := [some (.ref (b + 546)), some (.int (nI p)), some (.int (nI pl)), none, none]) rfl rfl (Nat.le_of_ble_eq_true rfl) rfl rfl ?_
  refine zx_aload_n (pc2 := 1) d_Mo_read_0 rfl rfl ?_
  refine zx_iload_n (pc2 := 2) d_Mo_read_1 rfl rfl ?_
  refine zk_callS (pc2 := 5) s_Mo_158 t_Mo_noProposer (c_Mo_noP0 hp) d_Mo_read_2 rfl rfl rfl (Nat.le_of_ble_eq_true rfl) (by decide) (by decide) ?_
  refine zx_if_ne (pc2 := 8) d_Mo_read_5 rfl (tgt := 18) (by decide) (fun cz => absurd (by decide) cz) (fun _ => ?_)
  refine zx_iload_n (pc2 := 9) d_Mo_read_8 rfl rfl ?_
  refine zx_if_lt (pc2 := 12) d_Mo_read_9 rfl (tgt := 18) (by decide) (fun cz => absurd cz (nI_pos (by omega))) (fun _ => ?_)
  refine zx_iload_n (pc2 := 13) d_Mo_read_12 rfl rfl ?_
  refine zx_bipush (pc2 := 15) (v := nI 7) d_Mo_read_13 rfl (by decide) ?_
  refine zx_icmp_le (pc2 := 18) d_Mo_read_15 rfl (tgt := 22) (by decide) (fun _ => ?_) (fun cz => absurd (nI_le (by omega) (by decide)) cz)
  refine zx_iconst (pc2 := 23) (v := nI 0) d_Mo_read_22 rfl (by decide) ?_
  refine zm_putI (pc2 := 26) p_Mo_7 d_Mo_read_23 rfl zl_c546 rfl rfl rfl ?_
  refine zx_aload_n (pc2 := 27) d_Mo_read_26 rfl rfl ?_
  refine zm_getV (pc2 := 30) f_Mo_7 d_Mo_read_27 rfl zl_c546 rfl (zm_Is) ?_
  refine zx_if_eq (pc2 := 33) d_Mo_read_30 rfl (tgt := 35) (by decide) (fun _ => ?_) (fun cz => absurd (by decide) cz)
  refine zx_aload_n (pc2 := 36) d_Mo_read_35 rfl rfl ?_
  refine zm_getR (pc2 := 39) f_Mo_54 d_Mo_read_36 rfl zl_c546 rfl ?_
  refine zx_bipush (pc2 := 41) (v := nI 8) d_Mo_read_39 rfl (by decide) ?_
  refine zx_iload_n (pc2 := 42) d_Mo_read_41 rfl rfl ?_
  first | refine zx_imulN (pc2 := 43) d_Mo_read_42 rfl ?_ | refine zx_imul (pc2 := 43) d_Mo_read_42 rfl ?_
  refine zx_iload_n (pc2 := 44) d_Mo_read_43 rfl rfl ?_
  first | refine zx_iaddN (pc2 := 45) d_Mo_read_44 rfl ?_ | refine zx_iadd (pc2 := 45) d_Mo_read_44 rfl ?_
  refine zk_ialdV (pc2 := 46) d_Mo_read_45 rfl (by rfl) rfl (by omega) (by decide) ((gt_t (Or.inl (by decide))).trans h0) ?_
  refine zx_ist3 (pc2 := 47) d_Mo_read_46 rfl rfl (by decide) ?_
  refine zx_aload_n (pc2 := 48) d_Mo_read_47 rfl rfl ?_
  refine zx_iload_n (pc2 := 49) d_Mo_read_48 rfl rfl ?_
  refine zx_if_ne (pc2 := 52) d_Mo_read_49 rfl (tgt := 56) (by decide) (fun cz => absurd (rfl) cz) (fun _ => ?_)
  refine zx_iconst (pc2 := 53) (v := nI 2) d_Mo_read_52 rfl (by decide) ?_
  refine zx_goto (tgt := 71) d_Mo_read_53 (by decide) ?_
  refine zm_putI (pc2 := 74) p_Mo_7 d_Mo_read_71 rfl zl_c546 rfl rfl rfl ?_
  refine zx_aload_n (pc2 := 75) d_Mo_read_74 rfl rfl ?_
  refine zm_getV (pc2 := 78) f_Mo_7 d_Mo_read_75 rfl zl_c546 rfl (zm_Is) ?_
  refine zx_if_eq (pc2 := 81) d_Mo_read_78 rfl (tgt := 83) (by decide) (fun cz => absurd cz (by decide)) (fun _ => ?_)
  refine zx_iconst (pc2 := 82) (v := nI 0) d_Mo_read_81 rfl (by decide) ?_
  exact zx_iret d_Mo_read_82 rfl (⟨rfl, rfl, rfl⟩)
theorem x_Mo_readS {p pl : Nat} {id : Int32} (hp : p < 2) (hpl : pl < 8) (hid : zm_I M 559 (8 * p + pl) = id) (h0 : id ≠ 0) (h3 : (gm_ft (gm_t M 0) (-1) pl id 7).2 ≠ 3) : zK l D ar b Z y_Mo_read 5 [.ref (b + 546), .int (nI p), .int (nI pl)] M n (some (.int (nI 0))) (zm_wI (gm_ft (gm_t M 0) (-1) pl id 7).1 546 0 (nI 3)) := by
  have hf := c_Mo_findThree (l := l) (D := D) (ar := ar) (b := b) (Z := Z) (M := gm_t M 0) (n := n) (but := -1) (id := id) hpl
  rw [if_neg h3] at hf
  refine zk_entry (L := [some (.ref (b + 546)), some (.int (nI p)), some (.int (nI pl)), none, none]) rfl rfl (Nat.le_of_ble_eq_true rfl) rfl rfl ?_
  refine zx_aload_n (pc2 := 1) d_Mo_read_0 rfl rfl ?_
  refine zx_iload_n (pc2 := 2) d_Mo_read_1 rfl rfl ?_
  refine zk_callS (pc2 := 5) s_Mo_158 t_Mo_noProposer (c_Mo_noP0 hp) d_Mo_read_2 rfl rfl rfl (Nat.le_of_ble_eq_true rfl) (by decide) (by decide) ?_
  refine zx_if_ne (pc2 := 8) d_Mo_read_5 rfl (tgt := 18) (by decide) (fun cz => absurd (by decide) cz) (fun _ => ?_)
  refine zx_iload_n (pc2 := 9) d_Mo_read_8 rfl rfl ?_
  refine zx_if_lt (pc2 := 12) d_Mo_read_9 rfl (tgt := 18) (by decide) (fun cz => absurd cz (nI_pos (by omega))) (fun _ => ?_)
  refine zx_iload_n (pc2 := 13) d_Mo_read_12 rfl rfl ?_
  refine zx_bipush (pc2 := 15) (v := nI 7) d_Mo_read_13 rfl (by decide) ?_
  refine zx_icmp_le (pc2 := 18) d_Mo_read_15 rfl (tgt := 22) (by decide) (fun _ => ?_) (fun cz => absurd (nI_le (by omega) (by decide)) cz)
  refine zx_iconst (pc2 := 23) (v := nI 0) d_Mo_read_22 rfl (by decide) ?_
  refine zm_putI (pc2 := 26) p_Mo_7 d_Mo_read_23 rfl zl_c546 rfl rfl rfl ?_
  refine zx_aload_n (pc2 := 27) d_Mo_read_26 rfl rfl ?_
  refine zm_getV (pc2 := 30) f_Mo_7 d_Mo_read_27 rfl zl_c546 rfl (zm_Is) ?_
  refine zx_if_eq (pc2 := 33) d_Mo_read_30 rfl (tgt := 35) (by decide) (fun _ => ?_) (fun cz => absurd (by decide) cz)
  refine zx_aload_n (pc2 := 36) d_Mo_read_35 rfl rfl ?_
  refine zm_getR (pc2 := 39) f_Mo_54 d_Mo_read_36 rfl zl_c546 rfl ?_
  refine zx_bipush (pc2 := 41) (v := nI 8) d_Mo_read_39 rfl (by decide) ?_
  refine zx_iload_n (pc2 := 42) d_Mo_read_41 rfl rfl ?_
  first | refine zx_imulN (pc2 := 43) d_Mo_read_42 rfl ?_ | refine zx_imul (pc2 := 43) d_Mo_read_42 rfl ?_
  refine zx_iload_n (pc2 := 44) d_Mo_read_43 rfl rfl ?_
  first | refine zx_iaddN (pc2 := 45) d_Mo_read_44 rfl ?_ | refine zx_iadd (pc2 := 45) d_Mo_read_44 rfl ?_
  refine zk_ialdV (pc2 := 46) d_Mo_read_45 rfl (by rfl) rfl (by omega) (by decide) ((gt_t (Or.inl (by decide))).trans hid) ?_
  refine zx_ist3 (pc2 := 47) d_Mo_read_46 rfl rfl (by decide) ?_
  refine zx_aload_n (pc2 := 48) d_Mo_read_47 rfl rfl ?_
  refine zx_iload_n (pc2 := 49) d_Mo_read_48 rfl rfl ?_
  refine zx_if_ne (pc2 := 52) d_Mo_read_49 rfl (tgt := 56) (by decide) (fun _ => ?_) (fun cz => absurd cz (h0))
  refine zx_aload_n (pc2 := 57) d_Mo_read_56 rfl rfl ?_
  refine zx_iconst (pc2 := 58) (v := -1) d_Mo_read_57 rfl (by decide) ?_
  refine zx_iload_n (pc2 := 59) d_Mo_read_58 rfl rfl ?_
  refine zx_iload_n (pc2 := 60) d_Mo_read_59 rfl rfl ?_
  refine zk_callV (pc2 := 63) s_Mo_182 v_Mo_findThree (zl_c546) (hf) d_Mo_read_60 rfl rfl rfl (Nat.le_of_ble_eq_true rfl) (by decide) (by decide) ?_
  refine zx_if_ne (pc2 := 66) d_Mo_read_63 rfl (tgt := 70) (by decide) (fun cz => absurd (by decide) cz) (fun _ => ?_)
  refine zx_iconst (pc2 := 67) (v := nI 3) d_Mo_read_66 rfl (by decide) ?_
  refine zx_goto (tgt := 71) d_Mo_read_67 (by decide) ?_
  refine zm_putI (pc2 := 74) p_Mo_7 d_Mo_read_71 rfl zl_c546 rfl rfl rfl ?_
  refine zx_aload_n (pc2 := 75) d_Mo_read_74 rfl rfl ?_
  refine zm_getV (pc2 := 78) f_Mo_7 d_Mo_read_75 rfl zl_c546 rfl (zm_Is) ?_
  refine zx_if_eq (pc2 := 81) d_Mo_read_78 rfl (tgt := 83) (by decide) (fun cz => absurd cz (by decide)) (fun _ => ?_)
  refine zx_iconst (pc2 := 82) (v := nI 0) d_Mo_read_81 rfl (by decide) ?_
  exact zx_iret d_Mo_read_82 rfl (⟨rfl, rfl, rfl⟩)
end C61
