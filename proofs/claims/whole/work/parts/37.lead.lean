/-! LogHouse: gathering from promises, leading -/
def gk_p (M : zm_M) (k : Nat) : Nat := (zm_I M 540 k).toNatClampNeg
def gq_ok (M : zm_M) : Prop := gk_ok M ∧ ∀ k, k < gk_c M → zm_I M 540 k = nI (gk_p M k) ∧ gk_p M k < 8
theorem gq_of {M : zm_M} {c : Nat} (h : zm_I M 539 2 = nI c) (hc : c ≤ 3) (hp : ∀ k, k < c → ∃ q, q < 8 ∧ zm_I M 540 k = nI q) : gq_ok M := by
  have e : gk_c M = c := by unfold gk_c; rw [h, nI_clamp (by omega)]
  refine ⟨gk_of h hc, fun k hk => ?_⟩
  rw [e] at hk
  obtain ⟨q, h1, h2⟩ := hp k hk
  have e2 : gk_p M k = q := by unfold gk_p; rw [h2, nI_clamp (by omega)]
  rw [e2]
  exact ⟨h2, h1⟩
theorem gq_add {M : zm_M} {s r pl : Nat} (hs : s < 7) (h : gq_ok M) : gq_ok (fm_gadd M (gk_c M) s r pl) := by
  unfold fm_gadd
  split
  · rename_i c
    refine gq_of (c := gk_c M + 1) zm_Is (by omega) (fun k hk => ?_)
    show ∃ q, q < 8 ∧ zm_I (zm_wI (zm_wJ (fm_ga1 M (gk_c M) s r pl) 541 (gk_c M) (zm_J (fm_ga1 M (gk_c M) s r pl) (r + 4) pl)) 539 2 (nI (gk_c M + 1))) 540 k = nI q
    rw [zm_In (Or.inl (by decide))]
    show ∃ q, q < 8 ∧ zm_I (zm_wI (zm_wI M 539 1 (zm_I M (r + 3) pl)) 540 (gk_c M) (nI s + nI 1)) 540 k = nI q
    by_cases hkc : k = gk_c M
    · subst hkc
      refine ⟨s + 1, by omega, ?_⟩
      rw [zm_Is, nI_add]
    · rw [zm_In (Or.inr hkc), zm_In (Or.inl (by decide))]
      exact ⟨gk_p M k, (h.2 k (by omega)).2, (h.2 k (by omega)).1⟩
  · exact h
theorem gq_gst (M : zm_M) (id : Int32) : gq_ok (fm_gst M id) := gq_of (c := 0) zm_Is (by decide) (fun k hk => absurd hk (Nat.not_lt_zero k))
theorem gq_aps {r pl : Nat} : ∀ (i : Nat) (M : zm_M), i ≤ 7 → gq_ok M → gq_ok (zm_it (fm_apS r pl) i M)
  | 0, _, _, h => h
  | i + 1, M, hi, h => by
    show gq_ok (fm_apS r pl i (zm_it (fm_apS r pl) i M))
    unfold fm_apS
    split
    · exact gq_add (by omega) (gq_aps i M (by omega) h)
    · exact gq_aps i M (by omega) h
theorem gq_gs {pl : Nat} : ∀ (i : Nat) (M : zm_M), i ≤ 7 → gq_ok M → gq_ok (zm_it (fm_gsS pl) i M)
  | 0, _, _, h => h
  | i + 1, M, hi, h => by
    show gq_ok (fm_gsS pl i (zm_it (fm_gsS pl) i M))
    unfold fm_gsS
    split
    · exact gq_gs i M (by omega) h
    · exact gq_add (by omega) (gq_gs i M (by omega) h)
theorem gq_3 {M : zm_M} (h : gq_ok M) (h3 : zm_I M 539 2 = nI 3) : ∀ k, k < 3 → zm_I M 540 k = nI (gk_p M k) ∧ gk_p M k < 8 := by
  have e : gk_c M = 3 := by unfold gk_c; rw [h3, nI_clamp (by decide)]
  intro k hk
  exact h.2 k (by omega)
theorem fm_gst_I {M : zm_M} {id : Int32} {a i : Nat} (h : a ≠ 539) : zm_I (fm_gst M id) a i = zm_I M a i := by
  unfold fm_gst
  rw [zm_In (Or.inl h), zm_In (Or.inl h), zm_In (Or.inl h)]
theorem fm_gadd_I {M : zm_M} {c s r pl a i : Nat} (h : a ≠ 539 ∧ a ≠ 540) : zm_I (fm_gadd M c s r pl) a i = zm_I M a i := by
  unfold fm_gadd
  split
  · show zm_I (zm_wI (zm_wJ (fm_ga1 M c s r pl) 541 c _) 539 2 _) a i = _
    rw [zm_In (Or.inl h.1)]
    show zm_I (zm_wI (zm_wI M 539 1 _) 540 c _) a i = _
    rw [zm_In (Or.inl h.2), zm_In (Or.inl h.1)]
  · rfl
theorem fm_gadd_P {M : zm_M} {c s r pl : Nat} : zm_P (fm_gadd M c s r pl) = zm_P M := by
  unfold fm_gadd
  split <;> rfl
theorem fm_aps_I {r pl a i : Nat} (h : a ≠ 539 ∧ a ≠ 540) : ∀ (d : Nat) (M : zm_M), zm_I (zm_it (fm_apS r pl) d M) a i = zm_I M a i ∧ zm_P (zm_it (fm_apS r pl) d M) = zm_P M
  | 0, _ => ⟨rfl, rfl⟩
  | d + 1, M => by
    show zm_I (fm_apS r pl d (zm_it (fm_apS r pl) d M)) a i = _ ∧ zm_P (fm_apS r pl d (zm_it (fm_apS r pl) d M)) = _
    unfold fm_apS
    split
    · exact ⟨(fm_gadd_I h).trans (fm_aps_I (i := i) h d M).1, fm_gadd_P.trans (fm_aps_I (i := i) h d M).2⟩
    · exact fm_aps_I h d M
theorem fm_gp_I {r pl a i : Nat} (h : a ≠ 539 ∧ a ≠ 540) : ∀ (f s : Nat) (M : zm_M), zm_I (fm_gp r pl f s M).2 a i = zm_I M a i ∧ zm_P (fm_gp r pl f s M).2 = zm_P M
  | 0, _, _ => ⟨rfl, rfl⟩
  | f + 1, s, M => by
    have e1 := fm_aps_I (r := r) (pl := pl) (i := i) h 7 (fm_gst M (zm_I M (r + 4 + 5 * s + 2) pl))
    have e2 : zm_I (fm_addP (fm_gst M (zm_I M (r + 4 + 5 * s + 2) pl)) r pl) a i = zm_I M a i := e1.1.trans (fm_gst_I h.1)
    have e3 : zm_P (fm_addP (fm_gst M (zm_I M (r + 4 + 5 * s + 2) pl)) r pl) = zm_P M := e1.2
    unfold fm_gp
    split
    · split
      · exact ⟨e2, e3⟩
      · exact ⟨(fm_gp_I (i := i) h f (s + 1) _).1.trans e2, (fm_gp_I (i := i) h f (s + 1) _).2.trans e3⟩
    · exact fm_gp_I h f (s + 1) M
theorem fm_gp_t {r pl : Nat} : ∀ (f s : Nat) (M : zm_M), (fm_gp r pl f s M).1 = true → gq_ok (fm_gp r pl f s M).2 ∧ zm_I (fm_gp r pl f s M).2 539 2 = nI 3
  | 0, _, _, h => by cases h
  | f + 1, s, M, h => by
    unfold fm_gp at h ⊢
    split
    · split
      · rename_i c
        exact ⟨gq_aps 7 _ (Nat.le_refl 7) (gq_gst _ _), c⟩
      · rename_i c0 c
        rw [if_pos c0, if_neg c] at h
        exact fm_gp_t f (s + 1) _ h
    · rename_i c0
      rw [if_neg c0] at h
      exact fm_gp_t f (s + 1) M h
theorem fm_together_I {M : zm_M} {rr a i : Nat} {pt : Nat → Nat} (h : a ≠ rr) : zm_I (fm_together M rr pt) a i = zm_I M a i := by
  unfold fm_together
  rw [fm_tog_I]
  show zm_I (zm_wI M rr 0 (zm_I M 539 1)) a i = _
  rw [zm_In (Or.inl h)]
theorem fm_tog_P {rr : Nat} {pt : Nat → Nat} : ∀ (d : Nat) (M : zm_M), zm_P (zm_it (fm_tog rr pt) d M) = zm_P M
  | 0, _ => rfl
  | d + 1, M => fm_tog_P d M
theorem fm_together_P {M : zm_M} {rr : Nat} {pt : Nat → Nat} : zm_P (fm_together M rr pt) = zm_P M := (fm_tog_P 3 _).trans rfl
def fm_ldS (r pl : Nat) (N : zm_M) : zm_M := if zm_I N (r + 39 + 3 * pl) 0 = 0 ∧ zm_I N (r + 39 + 3 * pl) 1 = 0 then (if (fm_gp r pl 7 0 N).1 = true then fm_together (fm_prop (fm_gp r pl 7 0 N).2 (r + 39 + 3 * pl) (zm_I (fm_gp r pl 7 0 N).2 539 0)) (r + 39 + 3 * pl + 1) (gk_p (fm_gp r pl 7 0 N).2) else (fm_gp r pl 7 0 N).2) else N
def fm_lead (M : zm_M) (r : Nat) : zm_M := fm_sendAll (zm_it (fm_ldS r) 8 (zm_wI M r 1 (nI 2))) r
theorem rk_ldS {r : Nat} (hr : r + 63 < 172) : ∀ (i : Nat) (M : zm_M), i ≤ 8 → rk_ok M → rk_ok (zm_it (fm_ldS r) i M)
  | 0, _, _, h => h
  | i + 1, M, hi, h => by
    have h0 : rk_ok (zm_it (fm_ldS r) i M) := rk_ldS hr i M (by omega) h
    show rk_ok (fm_ldS r i (zm_it (fm_ldS r) i M))
    generalize zm_it (fm_ldS r) i M = N at h0
    have hg := fm_gp_I (r := r) (pl := i) (a := 171) (i := 0) ⟨by decide, by decide⟩ 7 0 N
    unfold fm_ldS
    split
    · split
      · refine rk_I h0 ?_ ?_
        · rw [fm_together_I (by omega)]
          show zm_I (zm_wI (zm_wI _ (r + 39 + 3 * i) 1 _) (r + 39 + 3 * i) 2 _) 171 0 = _
          rw [zm_In (Or.inl (by omega)), zm_In (Or.inl (by omega))]
          exact hg.1
        · rw [fm_together_P]
          exact hg.2
      · exact rk_I h0 hg.1 hg.2
    · exact h0
theorem rk_ldS8 {r : Nat} {M : zm_M} (hr : r + 63 < 172) (_ : r ≠ 171) (h : rk_ok M) : rk_ok (zm_it (fm_ldS r) 8 M) := rk_ldS hr 8 M (Nat.le_refl 8) h
def fm_bpr (M : zm_M) (r q s : Nat) : zm_M := if zm_I (fm_hp M r q s) r 1 = nI 1 ∧ ¬ ff_bc (zm_I (fm_hp M r q s) r 3) < nI 5 then fm_lead (fm_hp M r q s) r else fm_hp M r q s
theorem rk_hp {M : zm_M} {r q s : Nat} (hr : zl_Pr r) (hr1 : r ≠ 171) (hs : s < 7) (h : rk_ok M) : rk_ok (fm_hp M r q s) := by
  unfold fm_hp
  split
  · refine rk_I h ?_ rfl
    show zm_I (zm_wI (fm_copySh M (r + 4 + 5 * s) (q + 1)) r 3 _) 171 0 = _
    rw [zm_In (Or.inl (Ne.symm hr1))]
    exact fm_copySh_I (zl_Sh_ne (hr.2.2.2.2.1 s hs))
  · exact h
section C37
variable {l : Launch} {D : va_G} {ar : Nat → ClassId} {b : Nat} {Z : State → Prop} {M : zm_M} {n : Nat}
theorem c_Pr_gatherFromPromises {r pl : Nat} (hr : zl_Pr r) (hr5 : r + 42 < 539) (hp : pl < 8) : zK l D ar b Z y_Pr_gatherFromPromises 3 [.ref (b + r), .int (nI pl), .ref (b + 539)] M n (some (.int (if (fm_gp r pl 7 0 M).1 = true then nI 1 else nI 0))) (fm_gp r pl 7 0 M).2 := by
  refine zk_entry (L := [some (.ref (b + r)), some (.int (nI pl)), some (.ref (b + 539)), none]) rfl rfl (Nat.le_of_ble_eq_true rfl) rfl rfl ?_
  refine zx_iconst (pc2 := 1) (v := nI 0) d_Pr_gatherFromPromises_0 rfl (by decide) ?_
  refine zx_ist3 (pc2 := 2) d_Pr_gatherFromPromises_1 rfl rfl (by decide) ?_
  refine zx_for (X := fun i => ∀ N, fm_gp r pl (7 - i) i N = fm_gp r pl 7 0 M → zk_X l D ar b Z y_Pr_gatherFromPromises 3 (some (.int (if (fm_gp r pl 7 0 M).1 = true then nI 1 else nI 0))) (fm_gp r pl 7 0 M).2 n 2 [some (.ref (b + r)), some (.int (nI pl)), some (.ref (b + 539)), some (.int (nI i))] [] N) 7 ?_ ?_ 0 (by decide) M rfl
  · intro N e
    rw [← e]
    refine zx_iload_n (pc2 := 3) d_Pr_gatherFromPromises_2 rfl rfl ?_
    refine zx_bipush (pc2 := 5) (v := nI 7) d_Pr_gatherFromPromises_3 rfl (by decide) ?_
    refine zx_icmp_ge (pc2 := 8) d_Pr_gatherFromPromises_5 rfl (tgt := 65) (by decide) (fun _ => ?_) (fun cz => absurd (nI_le (Nat.le_refl 7) (by decide)) cz)
    refine zx_iconst (pc2 := 66) (v := nI 0) d_Pr_gatherFromPromises_65 rfl (by decide) ?_
    exact zx_zret d_Pr_gatherFromPromises_66 rfl rfl (⟨rfl, rfl, rfl⟩)
  · intro i hi ih N e
    have e7 : 7 - i = (7 - (i + 1)) + 1 := by omega
    rw [e7] at e
    have hsh := hr.2.2.2.2.1 i hi
    refine zx_iload_n (pc2 := 3) d_Pr_gatherFromPromises_2 rfl rfl ?_
    refine zx_bipush (pc2 := 5) (v := nI 7) d_Pr_gatherFromPromises_3 rfl (by decide) ?_
    refine zx_icmp_ge (pc2 := 8) d_Pr_gatherFromPromises_5 rfl (tgt := 65) (by decide) (fun cz => absurd cz (nI_ge hi (by decide))) (fun _ => ?_)
    refine zx_aload_n (pc2 := 9) d_Pr_gatherFromPromises_8 rfl rfl ?_
    refine zx_iload_n (pc2 := 10) d_Pr_gatherFromPromises_9 rfl rfl ?_
    by_cases c : ff_bit (zm_I N r 3) i = nI 1
    · refine zk_callV (pc2 := 13) s_Pr_78 v_Pr_hasPromiseOf (hr.1) (c_Pr_hasP1 hr c) d_Pr_gatherFromPromises_10 rfl rfl rfl (Nat.le_of_ble_eq_true rfl) (by decide) (by decide) ?_
      refine zx_if_eq (pc2 := 16) d_Pr_gatherFromPromises_13 rfl (tgt := 59) (by decide) (fun cz => absurd cz (by decide)) (fun _ => ?_)
      refine zx_aload_n (pc2 := 17) d_Pr_gatherFromPromises_16 rfl rfl ?_
      refine zm_getR (pc2 := 20) f_Pr_21 d_Pr_gatherFromPromises_17 rfl (hr.1) rfl ?_
      refine zx_iload_n (pc2 := 21) d_Pr_gatherFromPromises_20 rfl rfl ?_
      refine zk_aaldC (pc2 := 22) d_Pr_gatherFromPromises_21 rfl (by decide) (hr.2.2.1) (by decide) rfl (rfl) (hi) (by decide) ?_
      refine zx_iload_n (pc2 := 23) d_Pr_gatherFromPromises_22 rfl rfl ?_
      by_cases c2 : zm_I N (r + 4 + 5 * i + 2) pl = 0
      · have e2 : fm_gp r pl ((7 - (i + 1)) + 1) i N = fm_gp r pl (7 - (i + 1)) (i + 1) N := if_neg (fun z => z.2 c2)
        refine zk_callV (pc2 := 26) s_Pr_100 v_Sh_has (hsh.1) (c_Sh_has0 hsh hp c2) d_Pr_gatherFromPromises_23 rfl rfl rfl (Nat.le_of_ble_eq_true rfl) (by decide) (by decide) ?_
        refine zx_if_eq (pc2 := 29) d_Pr_gatherFromPromises_26 rfl (tgt := 59) (by decide) (fun _ => ?_) (fun cz => absurd (by decide) cz)
        refine zx_inc3 (pc2 := 62) d_Pr_gatherFromPromises_59 rfl (zk_1 _) rfl (by decide) ?_
        refine zx_goto (tgt := 2) d_Pr_gatherFromPromises_62 (by decide) ?_
        exact ih N (e2.symm.trans e)
      · have ha := c_Pr_addPromises (l := l) (D := D) (ar := ar) (b := b) (Z := Z) (M := fm_gst N (zm_I N (r + 4 + 5 * i + 2) pl)) (n := n) hr hr5 hp (gk_gst _ _)
        refine zk_callV (pc2 := 26) s_Pr_100 v_Sh_has (hsh.1) (c_Sh_has1 hsh hp c2) d_Pr_gatherFromPromises_23 rfl rfl rfl (Nat.le_of_ble_eq_true rfl) (by decide) (by decide) ?_
        refine zx_if_eq (pc2 := 29) d_Pr_gatherFromPromises_26 rfl (tgt := 59) (by decide) (fun cz => absurd cz (by decide)) (fun _ => ?_)
        refine zx_aload_n (pc2 := 30) d_Pr_gatherFromPromises_29 rfl rfl ?_
        refine zx_aload_n (pc2 := 31) d_Pr_gatherFromPromises_30 rfl rfl ?_
        refine zm_getR (pc2 := 34) f_Pr_21 d_Pr_gatherFromPromises_31 rfl (hr.1) rfl ?_
        refine zx_iload_n (pc2 := 35) d_Pr_gatherFromPromises_34 rfl rfl ?_
        refine zk_aaldC (pc2 := 36) d_Pr_gatherFromPromises_35 rfl (by decide) (hr.2.2.1) (by decide) rfl (rfl) (hi) (by decide) ?_
        refine zm_getR (pc2 := 39) f_Pr_103 d_Pr_gatherFromPromises_36 rfl (hsh.1) rfl ?_
        refine zx_iload_n (pc2 := 40) d_Pr_gatherFromPromises_39 rfl rfl ?_
        refine zk_iald (pc2 := 41) d_Pr_gatherFromPromises_40 rfl (hsh.2.2.1) (rfl) (hp) (by decide) ?_
        refine zk_callVv (pc2 := 44) s_Pr_107 v_Ga_start (zl_c539) (c_Ga_start) d_Pr_gatherFromPromises_41 rfl rfl rfl (Nat.le_of_ble_eq_true rfl) (by decide) (by decide) ?_
        refine zx_aload_n (pc2 := 45) d_Pr_gatherFromPromises_44 rfl rfl ?_
        refine zx_iload_n (pc2 := 46) d_Pr_gatherFromPromises_45 rfl rfl ?_
        refine zx_aload_n (pc2 := 47) d_Pr_gatherFromPromises_46 rfl rfl ?_
        refine zk_callVv (pc2 := 50) s_Pr_112 v_Pr_addPromises (hr.1) (ha) d_Pr_gatherFromPromises_47 rfl rfl rfl (Nat.le_of_ble_eq_true rfl) (by decide) (by decide) ?_
        refine zx_aload_n (pc2 := 51) d_Pr_gatherFromPromises_50 rfl rfl ?_
        have hE := c_Ga_isEnough (l := l) (D := D) (ar := ar) (b := b) (Z := Z) (M := fm_addP (fm_gst N (zm_I N (r + 4 + 5 * i + 2) pl)) r pl) (n := n)
        by_cases c3 : zm_I (fm_addP (fm_gst N (zm_I N (r + 4 + 5 * i + 2) pl)) r pl) 539 2 = nI 3
        · have e2 : fm_gp r pl ((7 - (i + 1)) + 1) i N = (true, fm_addP (fm_gst N (zm_I N (r + 4 + 5 * i + 2) pl)) r pl) := (if_pos ⟨c, c2⟩).trans (if_pos c3)
          rw [if_pos c3] at hE
          rw [← e, e2]
          refine zk_callV (pc2 := 54) s_Pr_116 v_Ga_isEnough (zl_c539) (hE) d_Pr_gatherFromPromises_51 rfl rfl rfl (Nat.le_of_ble_eq_true rfl) (by decide) (by decide) ?_
          refine zx_if_eq (pc2 := 57) d_Pr_gatherFromPromises_54 rfl (tgt := 59) (by decide) (fun cz => absurd cz (by decide)) (fun _ => ?_)
          refine zx_iconst (pc2 := 58) (v := nI 1) d_Pr_gatherFromPromises_57 rfl (by decide) ?_
          exact zx_zret d_Pr_gatherFromPromises_58 rfl rfl (⟨rfl, rfl, rfl⟩)
        · have e2 : fm_gp r pl ((7 - (i + 1)) + 1) i N = fm_gp r pl (7 - (i + 1)) (i + 1) (fm_addP (fm_gst N (zm_I N (r + 4 + 5 * i + 2) pl)) r pl) := (if_pos ⟨c, c2⟩).trans (if_neg c3)
          rw [if_neg c3] at hE
          refine zk_callV (pc2 := 54) s_Pr_116 v_Ga_isEnough (zl_c539) (hE) d_Pr_gatherFromPromises_51 rfl rfl rfl (Nat.le_of_ble_eq_true rfl) (by decide) (by decide) ?_
          refine zx_if_eq (pc2 := 57) d_Pr_gatherFromPromises_54 rfl (tgt := 59) (by decide) (fun _ => ?_) (fun cz => absurd (by decide) cz)
          refine zx_inc3 (pc2 := 62) d_Pr_gatherFromPromises_59 rfl (zk_1 _) rfl (by decide) ?_
          refine zx_goto (tgt := 2) d_Pr_gatherFromPromises_62 (by decide) ?_
          exact ih _ (e2.symm.trans e)
    · have e2 : fm_gp r pl ((7 - (i + 1)) + 1) i N = fm_gp r pl (7 - (i + 1)) (i + 1) N := if_neg (fun z => c z.1)
      refine zk_callV (pc2 := 13) s_Pr_78 v_Pr_hasPromiseOf (hr.1) (c_Pr_hasP0 hr c) d_Pr_gatherFromPromises_10 rfl rfl rfl (Nat.le_of_ble_eq_true rfl) (by decide) (by decide) ?_
      refine zx_if_eq (pc2 := 16) d_Pr_gatherFromPromises_13 rfl (tgt := 59) (by decide) (fun _ => ?_) (fun cz => absurd (by decide) cz)
      refine zx_inc3 (pc2 := 62) d_Pr_gatherFromPromises_59 rfl (zk_1 _) rfl (by decide) ?_
      refine zx_goto (tgt := 2) d_Pr_gatherFromPromises_62 (by decide) ?_
      exact ih N (e2.symm.trans e)
theorem c_Ho_lead {r t : Nat} (hI : ∀ U, Z U → zs_I b t U) (hr : zl_Pr r) (hr6 : r + 63 < 172) (hk : rk_ok M) (hr1 : r ≠ 171) : zK l D ar b Z y_Ho_lead 4 [.ref (b + 0), .ref (b + r)] M n none (fm_lead M r) := by
  have hk0 : rk_ok (zm_wI M r 1 (nI 2)) := rk_I hk (zm_In (Or.inl (Ne.symm hr1))) rfl
  refine zk_entry (L := [some (.ref (b + 0)), some (.ref (b + r)), none, none]) rfl rfl (Nat.le_of_ble_eq_true rfl) rfl rfl ?_
  refine zx_aload_n (pc2 := 1) d_Ho_lead_0 rfl rfl ?_
  refine zx_iconst (pc2 := 2) (v := nI 2) d_Ho_lead_1 rfl (by decide) ?_
  refine zm_putI (pc2 := 5) p_Ho_94 d_Ho_lead_2 rfl (hr.1) rfl rfl rfl ?_
  refine zx_iconst (pc2 := 6) (v := nI 0) d_Ho_lead_5 rfl (by decide) ?_
  refine zx_ist2 (pc2 := 7) d_Ho_lead_6 rfl rfl (by decide) ?_
  refine zx_for (X := fun i => ∀ o3 : Option Value, zk_X l D ar b Z y_Ho_lead 4 none (fm_lead M r) n 7 [some (.ref (b + 0)), some (.ref (b + r)), some (.int (nI i)), o3] [] (zm_it (fm_ldS r) i (zm_wI M r 1 (nI 2)))) 8 ?_ ?_ 0 (by decide) none
  · intro o3
    have hk8 := rk_ldS8 hr6 hr1 hk0
    refine zx_iload_n (pc2 := 8) d_Ho_lead_7 rfl rfl ?_
    refine zx_bipush (pc2 := 10) (v := nI 8) d_Ho_lead_8 rfl (by decide) ?_
    refine zx_icmp_ge (pc2 := 13) d_Ho_lead_10 rfl (tgt := 67) (by decide) (fun _ => ?_) (fun cz => absurd (nI_le (Nat.le_refl 8) (by decide)) cz)
    refine zx_aload_n (pc2 := 68) d_Ho_lead_67 rfl rfl ?_
    refine zx_aload_n (pc2 := 69) d_Ho_lead_68 rfl rfl ?_
    refine zk_callVv (pc2 := 72) s_Ho_97 v_Ho_sendAllAccepts (zl_c0) (c_Ho_sendAllAccepts hr hk8) d_Ho_lead_69 rfl rfl rfl (Nat.le_of_ble_eq_true rfl) (by decide) (by decide) ?_
    exact zx_vret d_Ho_lead_72 rfl (⟨rfl, rfl, rfl⟩)
  · intro i hi ih o3
    have hs := hr.2.2.2.2.2 i hi
    have e0 : zm_it (fm_ldS r) (i + 1) (zm_wI M r 1 (nI 2)) = fm_ldS r i (zm_it (fm_ldS r) i (zm_wI M r 1 (nI 2))) := rfl
    rw [e0] at ih
    generalize zm_it (fm_ldS r) i (zm_wI M r 1 (nI 2)) = N at ih ⊢
    refine zx_iload_n (pc2 := 8) d_Ho_lead_7 rfl rfl ?_
    refine zx_bipush (pc2 := 10) (v := nI 8) d_Ho_lead_8 rfl (by decide) ?_
    refine zx_icmp_ge (pc2 := 13) d_Ho_lead_10 rfl (tgt := 67) (by decide) (fun cz => absurd cz (nI_ge hi (by decide))) (fun _ => ?_)
    refine zx_aload_n (pc2 := 14) d_Ho_lead_13 rfl rfl ?_
    refine zm_getR (pc2 := 17) f_Ho_165 d_Ho_lead_14 rfl (hr.1) rfl ?_
    refine zx_iload_n (pc2 := 18) d_Ho_lead_17 rfl rfl ?_
    refine zk_aaldC (pc2 := 19) d_Ho_lead_18 rfl (by decide) (hr.2.2.2.1) (by decide) rfl (rfl) (hi) (by decide) ?_
    refine zx_ast3 (pc2 := 20) d_Ho_lead_19 rfl rfl (by decide) ?_
    refine zx_aload_n (pc2 := 21) d_Ho_lead_20 rfl rfl ?_
    by_cases c : zm_I N (r + 39 + 3 * i) 0 = 0 ∧ zm_I N (r + 39 + 3 * i) 1 = 0
    · have hG := c_Pr_gatherFromPromises (l := l) (D := D) (ar := ar) (b := b) (Z := Z) (M := N) (n := n) hr (by omega) hi
      refine zk_callV (pc2 := 24) s_Ho_292 v_Sp_isOpen (hs.1) (c_Sp_open1 hs c) d_Ho_lead_21 rfl rfl rfl (Nat.le_of_ble_eq_true rfl) (by decide) (by decide) ?_
      refine zx_if_eq (pc2 := 27) d_Ho_lead_24 rfl (tgt := 61) (by decide) (fun cz => absurd cz (by decide)) (fun _ => ?_)
      refine zx_aload_n (pc2 := 28) d_Ho_lead_27 rfl rfl ?_
      refine zx_iload_n (pc2 := 29) d_Ho_lead_28 rfl rfl ?_
      refine zx_aload_n (pc2 := 30) d_Ho_lead_29 rfl rfl ?_
      refine zm_getR (pc2 := 33) f_Ho_35 d_Ho_lead_30 rfl (zl_c0) rfl ?_
      by_cases c2 : (fm_gp r i 7 0 N).1 = true
      · rw [if_pos c2] at hG
        obtain ⟨g1, g2⟩ := fm_gp_t 7 0 N c2
        have g3 := gq_3 g1 g2
        have hpt : ∀ k, k < 3 → zm_I (fm_prop (fm_gp r i 7 0 N).2 (r + 39 + 3 * i) (zm_I (fm_gp r i 7 0 N).2 539 0)) 540 k = nI (gk_p (fm_gp r i 7 0 N).2 k) ∧ gk_p (fm_gp r i 7 0 N).2 k < 8 := by
          intro k hk
          refine ⟨?_, (g3 k hk).2⟩
          show zm_I (zm_wI (zm_wI _ (r + 39 + 3 * i) 1 _) (r + 39 + 3 * i) 2 _) 540 k = _
          rw [zm_In (Or.inl (by omega)), zm_In (Or.inl (by omega))]
          exact (g3 k hk).1
        rw [show fm_ldS r i N = fm_together (fm_prop (fm_gp r i 7 0 N).2 (r + 39 + 3 * i) (zm_I (fm_gp r i 7 0 N).2 539 0)) (r + 39 + 3 * i + 1) (gk_p (fm_gp r i 7 0 N).2) from (if_pos c).trans (if_pos c2)] at ih
        refine zk_callV (pc2 := 36) s_Ho_295 v_Pr_gatherFromPromises (hr.1) (hG) d_Ho_lead_33 rfl rfl rfl (Nat.le_of_ble_eq_true rfl) (by decide) (by decide) ?_
        refine zx_if_eq (pc2 := 39) d_Ho_lead_36 rfl (tgt := 61) (by decide) (fun cz => absurd cz (by decide)) (fun _ => ?_)
        refine zx_aload_n (pc2 := 40) d_Ho_lead_39 rfl rfl ?_
        refine zx_aload_n (pc2 := 41) d_Ho_lead_40 rfl rfl ?_
        refine zm_getR (pc2 := 44) f_Ho_35 d_Ho_lead_41 rfl (zl_c0) rfl ?_
        refine zm_getI (pc2 := 47) f_Ho_299 d_Ho_lead_44 rfl (zl_c539) rfl ?_
        refine zk_callVv (pc2 := 50) s_Ho_300 v_Sp_proposeAs (hs.1) (c_Sp_proposeAs hs) d_Ho_lead_47 rfl rfl rfl (Nat.le_of_ble_eq_true rfl) (by decide) (by decide) ?_
        refine zx_aload_n (pc2 := 51) d_Ho_lead_50 rfl rfl ?_
        refine zm_getR (pc2 := 54) f_Ho_35 d_Ho_lead_51 rfl (zl_c0) rfl ?_
        refine zx_aload_n (pc2 := 55) d_Ho_lead_54 rfl rfl ?_
        refine zm_getR (pc2 := 58) f_Ho_271 d_Ho_lead_55 rfl (hs.1) rfl ?_
        refine zk_callVv (pc2 := 61) s_Ho_186 v_Ga_putTogether (zl_c539) (c_Ga_putTogether hI hs.2 hpt (by omega)) d_Ho_lead_58 rfl rfl rfl (Nat.le_of_ble_eq_true rfl) (by decide) (by decide) ?_
        refine zx_inc2 (pc2 := 64) d_Ho_lead_61 rfl (zk_1 _) rfl (by decide) ?_
        refine zx_goto (tgt := 7) d_Ho_lead_64 (by decide) ?_
        exact ih _
      · rw [if_neg c2] at hG
        rw [show fm_ldS r i N = (fm_gp r i 7 0 N).2 from (if_pos c).trans (if_neg c2)] at ih
        refine zk_callV (pc2 := 36) s_Ho_295 v_Pr_gatherFromPromises (hr.1) (hG) d_Ho_lead_33 rfl rfl rfl (Nat.le_of_ble_eq_true rfl) (by decide) (by decide) ?_
        refine zx_if_eq (pc2 := 39) d_Ho_lead_36 rfl (tgt := 61) (by decide) (fun _ => ?_) (fun cz => absurd (by decide) cz)
        refine zx_inc2 (pc2 := 64) d_Ho_lead_61 rfl (zk_1 _) rfl (by decide) ?_
        refine zx_goto (tgt := 7) d_Ho_lead_64 (by decide) ?_
        exact ih _
    · rw [show fm_ldS r i N = N from if_neg c] at ih
      refine zk_callV (pc2 := 24) s_Ho_292 v_Sp_isOpen (hs.1) (c_Sp_open0 hs c) d_Ho_lead_21 rfl rfl rfl (Nat.le_of_ble_eq_true rfl) (by decide) (by decide) ?_
      refine zx_if_eq (pc2 := 27) d_Ho_lead_24 rfl (tgt := 61) (by decide) (fun _ => ?_) (fun cz => absurd (by decide) cz)
      refine zx_inc2 (pc2 := 64) d_Ho_lead_61 rfl (zk_1 _) rfl (by decide) ?_
      refine zx_goto (tgt := 7) d_Ho_lead_64 (by decide) ?_
      exact ih _
theorem c_Ho_bringPromise {q p s t : Nat} (hI : ∀ U, Z U → zs_I b t U) (hq : zl_Le q) (hp : zm_I M q 2 = nI p) (hp2 : p < 2) (hs : zm_I M q 1 = nI s) (hs7 : s < 7) (hk : rk_ok M) : zK l D ar b Z y_Ho_bringPromise 5 [.ref (b + 0), .ref (b + q)] M n none (fm_bpr M (45 + 63 * p) q s) := by
  have hr := zl_pr p hp2
  have hk1 := rk_hp (q := q) hr (by omega) hs7 hk
  refine zk_entry (L := [some (.ref (b + 0)), some (.ref (b + q)), none]) rfl rfl (Nat.le_of_ble_eq_true rfl) rfl rfl ?_
  unfold fm_bpr
  refine zx_aload_n (pc2 := 1) d_Ho_bringPromise_0 rfl rfl ?_
  refine zm_getR (pc2 := 4) f_Ho_18 d_Ho_bringPromise_1 rfl (zl_c0) rfl ?_
  refine zx_aload_n (pc2 := 5) d_Ho_bringPromise_4 rfl rfl ?_
  refine zm_getI (pc2 := 8) f_Ho_122 d_Ho_bringPromise_5 rfl (hq.1) rfl ?_
  refine zk_aaldC (pc2 := 9) d_Ho_bringPromise_8 rfl (by decide) (zl_c44) (by decide) rfl (hp) (hp2) (by decide) ?_
  refine zx_ast2 (pc2 := 10) d_Ho_bringPromise_9 rfl rfl (by decide) ?_
  refine zx_aload_n (pc2 := 11) d_Ho_bringPromise_10 rfl rfl ?_
  refine zx_aload_n (pc2 := 12) d_Ho_bringPromise_11 rfl rfl ?_
  refine zk_callVv (pc2 := 15) s_Ho_286 v_Pr_hearPromise (hr.1) (c_Pr_hearPromise hr hq hs hs7) d_Ho_bringPromise_12 rfl rfl rfl (Nat.le_of_ble_eq_true rfl) (by decide) (by decide) ?_
  refine zx_aload_n (pc2 := 16) d_Ho_bringPromise_15 rfl rfl ?_
  refine zm_getI (pc2 := 19) f_Ho_94 d_Ho_bringPromise_16 rfl (hr.1) rfl ?_
  refine zx_iconst (pc2 := 20) (v := nI 1) d_Ho_bringPromise_19 rfl (by decide) ?_
  refine zx_icmp_ne (pc2 := 23) d_Ho_bringPromise_20 rfl (tgt := 39) (by decide) (fun c => ?_) (fun c => ?_)
  · rw [if_neg (fun z => c z.1)]
    exact zx_vret d_Ho_bringPromise_39 rfl (⟨rfl, rfl, rfl⟩)
  · refine zx_aload_n (pc2 := 24) d_Ho_bringPromise_23 rfl rfl ?_
    refine zm_getI (pc2 := 27) f_Ho_214 d_Ho_bringPromise_24 rfl (hr.1) rfl ?_
    refine zk_callS (pc2 := 30) s_Ho_217 t_In_bitCount (c_In_bitCount) d_Ho_bringPromise_27 rfl rfl rfl (Nat.le_of_ble_eq_true rfl) (by decide) (by decide) ?_
    refine zx_iconst (pc2 := 31) (v := nI 5) d_Ho_bringPromise_30 rfl (by decide) ?_
    refine zx_icmp_lt (pc2 := 34) d_Ho_bringPromise_31 rfl (tgt := 39) (by decide) (fun c2 => ?_) (fun c2 => ?_)
    · rw [if_neg (fun z => z.2 c2)]
      exact zx_vret d_Ho_bringPromise_39 rfl (⟨rfl, rfl, rfl⟩)
    · rw [if_pos ⟨c, c2⟩]
      refine zx_aload_n (pc2 := 35) d_Ho_bringPromise_34 rfl rfl ?_
      refine zx_aload_n (pc2 := 36) d_Ho_bringPromise_35 rfl rfl ?_
      refine zk_callVv (pc2 := 39) s_Ho_289 v_Ho_lead (zl_c0) (c_Ho_lead hI hr (by omega) hk1 (by omega)) d_Ho_bringPromise_36 rfl rfl rfl (Nat.le_of_ble_eq_true rfl) (by decide) (by decide) ?_
      exact zx_vret d_Ho_bringPromise_39 rfl (⟨rfl, rfl, rfl⟩)
end C37
