/-! LogHouseModel: propose, campaign, resend -/
def gm_prop (M : zm_M) (p pl dl : Nat) : zm_M := zm_wI (gm_pf (gm_t M 0) p pl (zm_I M 554 p) dl 557 (24 * p) dl) 558 p (nI 0)
theorem gt_t {M : zm_M} {e r x : Nat} (h : r ≠ 546 ∨ x ≠ 0) : zm_I (gm_t M e) r x = zm_I M r x := zm_In h
theorem gm_prop_n {M : zm_M} {p pl dl r x : Nat} (h : r ≠ 560 ∧ r ≠ 561 ∧ r ≠ 562 ∧ r ≠ 563) (h8 : r ≠ 558) (h0 : r ≠ 546 ∨ x ≠ 0) : zm_I (gm_prop M p pl dl) r x = zm_I M r x := by
  unfold gm_prop
  rw [zm_In (Or.inl h8), gm_pf_n h, gt_t h0]
theorem gm_prop_l {M : zm_M} {p pl dl : Nat} : zm_I (gm_prop M p pl dl) 561 (8 * p + pl) = nI dl := by
  unfold gm_prop gm_pf
  rw [zm_In (Or.inl (by decide)), gm_upn (Or.inl (by decide)), zm_In (Or.inl (by decide)), zm_Is]
theorem gm_prop_b {M : zm_M} {p pl dl : Nat} {f : Nat → Nat} (hb : gb_ok M 557 (24 * p) dl f) : gb_ok (gm_prop M p pl dl) 563 (24 * (8 * p + pl)) dl f := by
  intro x hx
  refine ⟨?_, (hb x hx).2⟩
  unfold gm_prop gm_pf
  rw [zm_In (Or.inl (by decide)), gm_upI, if_pos ⟨rfl, by omega, by omega⟩, Nat.add_sub_cancel_left, gt_t (Or.inl (by decide))]
  exact (hb x hx).1
/-- memory, letters, how many were sent: prepares to the stations below k that sel names -/
def gm_pp (M : zm_M) (c p : Nat) (sel : Nat → Bool) : Nat → zm_M × Nat × Nat
  | 0 => (M, c, 0)
  | s + 1 => if sel s = true ∧ (gm_pp M c p sel s).2.1 < 60 then (gm_l4 (gm_pp M c p sel s).1 (gm_pp M c p sel s).2.1 (nI 0) (nI s) (nI p) (zm_I M 554 p), (gm_pp M c p sel s).2.1 + 1, (gm_pp M c p sel s).2.2 + 1) else gm_pp M c p sel s
theorem gm_pp_inv {M : zm_M} {c p : Nat} {sel : Nat → Bool} (hc : zm_I M 546 5 = nI c) (h60 : c ≤ 60) : ∀ k, zm_I (gm_pp M c p sel k).1 546 5 = nI (gm_pp M c p sel k).2.1 ∧ (gm_pp M c p sel k).2.1 ≤ 60 ∧ ∀ r x, r ≠ 551 → r ≠ 546 → zm_I (gm_pp M c p sel k).1 r x = zm_I M r x
  | 0 => ⟨hc, h60, fun _ _ _ _ => rfl⟩
  | k + 1 => by
    obtain ⟨i1, i2, i3⟩ := gm_pp_inv (p := p) (sel := sel) hc h60 k
    unfold gm_pp
    by_cases h : sel k = true ∧ (gm_pp M c p sel k).2.1 < 60
    · rw [if_pos h]
      exact ⟨gl4_c, by show _ + 1 ≤ 60; omega, fun r x h1 h2 => (gl4_n h1 h2).trans (i3 r x h1 h2)⟩
    · rw [if_neg h]
      exact ⟨i1, i2, i3⟩
def gs_ab (M : zm_M) (p : Nat) : Nat → Int32
  | 0 => zm_I M 554 p
  | s + 1 => if zm_I M 547 s ≤ gs_ab M p s then gs_ab M p s else zm_I M 547 s
def gs_K (p A : Nat) : Nat := if A < 2 + p then 0 else (A - (2 + p)) / 2 + 1
def gs_nb (p A : Nat) : Nat := 2 + p + 2 * gs_K p A
def gm_c0 (M : zm_M) (p A k : Nat) : zm_M := gm_up (zm_wI (zm_wI (zm_wI (gm_t M 0) 554 p (nI (gs_nb p A))) 553 p (nI 1)) 555 p (nI 0)) 560 (8 * p) k (fun _ => nI 0)
theorem gm_c0_c {M : zm_M} {p A k c : Nat} (hc : zm_I M 546 5 = nI c) : zm_I (gm_c0 M p A k) 546 5 = nI c := by
  unfold gm_c0
  rw [gm_upn (Or.inl (by decide)), zm_In (Or.inl (by decide)), zm_In (Or.inl (by decide)), zm_In (Or.inl (by decide)), gt_t (Or.inr (by decide))]
  exact hc
section C57
variable {l : Launch} {D : va_G} {ar : Nat → ClassId} {b : Nat} {Z : State → Prop} {M : zm_M} {n : Nat}
theorem c_Mo_propose {c p pl dl : Nat} {f : Nat → Nat} (hT : gt_ok M) (hc : zm_I M 546 5 = nI c) (h60 : c ≤ 60) (hp : p < 2) (hff : gs_ff M p = nI pl) (hpl : pl < 8) (hd : zm_I M 558 p = nI dl) (hd0 : 0 < dl) (hdl : dl ≤ 24) (hb : gb_ok M 557 (24 * p) dl f) : zK l D ar b Z y_Mo_propose 4 [.ref (b + 546), .int (nI p)] M n (some (.int (nI pl))) (gm_aa (gm_prop M p pl dl) c p pl dl f 7).1 := by
  have h1 := c_Mo_firstFree (l := l) (D := D) (ar := ar) (b := b) (Z := Z) (M := gm_t M 0) (n := n) hp
  rw [gs_ff_t, hff] at h1
  have hT' : gt_ok (gm_prop M p pl dl) := ⟨fun k hk => (gm_prop_n (by decide) (by decide) (Or.inl (by decide))).trans (hT.1 k hk), fun a q1 q2 => (gm_prop_n (by decide) (by decide) (Or.inl (by decide))).trans (hT.2 a q1 q2)⟩
  have h2 := c_Mo_acceptAll (l := l) (D := D) (ar := ar) (b := b) (Z := Z) (n := n) hT' ((gm_prop_n (by decide) (by decide) (Or.inr (by decide))).trans hc) h60 hp hpl gm_prop_l hdl (gm_prop_b hb)
  refine zk_entry (L := [some (.ref (b + 546)), some (.int (nI p)), none]) rfl rfl (Nat.le_of_ble_eq_true rfl) rfl rfl ?_
  refine zx_aload_n (pc2 := 1) d_Mo_propose_0 rfl rfl ?_
  refine zx_iload_n (pc2 := 2) d_Mo_propose_1 rfl rfl ?_
  refine zk_callS (pc2 := 5) s_Mo_158 t_Mo_noProposer (c_Mo_noP0 hp) d_Mo_propose_2 rfl rfl rfl (Nat.le_of_ble_eq_true rfl) (by decide) (by decide) ?_
  refine zx_if_eq (pc2 := 8) d_Mo_propose_5 rfl (tgt := 12) (by decide) (fun _ => ?_) (fun cz => absurd (by decide) cz)
  refine zx_iconst (pc2 := 13) (v := nI 0) d_Mo_propose_12 rfl (by decide) ?_
  refine zm_putI (pc2 := 16) p_Mo_7 d_Mo_propose_13 rfl zl_c546 rfl rfl rfl ?_
  refine zx_aload_n (pc2 := 17) d_Mo_propose_16 rfl rfl ?_
  refine zm_getV (pc2 := 20) f_Mo_7 d_Mo_propose_17 rfl zl_c546 rfl (zm_Is) ?_
  refine zx_if_eq (pc2 := 23) d_Mo_propose_20 rfl (tgt := 25) (by decide) (fun _ => ?_) (fun cz => absurd (by decide) cz)
  refine zx_aload_n (pc2 := 26) d_Mo_propose_25 rfl rfl ?_
  refine zx_iload_n (pc2 := 27) d_Mo_propose_26 rfl rfl ?_
  refine zk_callV (pc2 := 30) s_Mo_165 v_Mo_firstFree (zl_c546) (h1) d_Mo_propose_27 rfl rfl rfl (Nat.le_of_ble_eq_true rfl) (by decide) (by decide) ?_
  refine zx_ist2 (pc2 := 31) d_Mo_propose_30 rfl rfl (by decide) ?_
  refine zx_iload_n (pc2 := 32) d_Mo_propose_31 rfl rfl ?_
  refine zx_if_lt (pc2 := 35) d_Mo_propose_32 rfl (tgt := 44) (by decide) (fun cz => absurd cz (nI_pos (by omega))) (fun _ => ?_)
  refine zx_aload_n (pc2 := 36) d_Mo_propose_35 rfl rfl ?_
  refine zm_getR (pc2 := 39) f_Mo_51 d_Mo_propose_36 rfl zl_c546 rfl ?_
  refine zx_iload_n (pc2 := 40) d_Mo_propose_39 rfl rfl ?_
  refine zk_ialdV (pc2 := 41) d_Mo_propose_40 rfl (by rfl) rfl (by omega) (by decide) ((gt_t (Or.inl (by decide))).trans hd) ?_
  refine zx_if_ne (pc2 := 44) d_Mo_propose_41 rfl (tgt := 51) (by decide) (fun _ => ?_) (fun cz => absurd cz (nI_ne0 hd0 (by omega)))
  refine zx_aload_n (pc2 := 52) d_Mo_propose_51 rfl rfl ?_
  refine zx_iload_n (pc2 := 53) d_Mo_propose_52 rfl rfl ?_
  refine zx_iload_n (pc2 := 54) d_Mo_propose_53 rfl rfl ?_
  refine zx_aload_n (pc2 := 55) d_Mo_propose_54 rfl rfl ?_
  refine zm_getR (pc2 := 58) f_Mo_39 d_Mo_propose_55 rfl zl_c546 rfl ?_
  refine zx_iload_n (pc2 := 59) d_Mo_propose_58 rfl rfl ?_
  refine zk_ialdV (pc2 := 60) d_Mo_propose_59 rfl (by rfl) rfl (by omega) (by decide) (gt_t (Or.inl (by decide))) ?_
  refine zx_aload_n (pc2 := 61) d_Mo_propose_60 rfl rfl ?_
  refine zm_getR (pc2 := 64) f_Mo_48 d_Mo_propose_61 rfl zl_c546 rfl ?_
  refine zx_bipush (pc2 := 66) (v := nI 24) d_Mo_propose_64 rfl (by decide) ?_
  refine zx_iload_n (pc2 := 67) d_Mo_propose_66 rfl rfl ?_
  first | refine zx_imulN (pc2 := 68) d_Mo_propose_67 rfl ?_ | refine zx_imul (pc2 := 68) d_Mo_propose_67 rfl ?_
  refine zx_aload_n (pc2 := 69) d_Mo_propose_68 rfl rfl ?_
  refine zm_getR (pc2 := 72) f_Mo_51 d_Mo_propose_69 rfl zl_c546 rfl ?_
  refine zx_iload_n (pc2 := 73) d_Mo_propose_72 rfl rfl ?_
  refine zk_ialdV (pc2 := 74) d_Mo_propose_73 rfl (by rfl) rfl (by omega) (by decide) ((gt_t (Or.inl (by decide))).trans hd) ?_
  refine zk_callVv (pc2 := 77) s_Mo_150 v_Mo_putForward (zl_c546) (c_Mo_putForward hp hpl hdl zl_c557 (by decide) (by decide) (by omega)) d_Mo_propose_74 rfl rfl rfl (Nat.le_of_ble_eq_true rfl) (by decide) (by decide) ?_
  refine zx_aload_n (pc2 := 78) d_Mo_propose_77 rfl rfl ?_
  refine zm_getR (pc2 := 81) f_Mo_51 d_Mo_propose_78 rfl zl_c546 rfl ?_
  refine zx_iload_n (pc2 := 82) d_Mo_propose_81 rfl rfl ?_
  refine zx_iconst (pc2 := 83) (v := nI 0) d_Mo_propose_82 rfl (by decide) ?_
  refine zk_iast (pc2 := 84) d_Mo_propose_83 rfl (by rfl) rfl (by omega) (by decide) ?_
  refine zx_aload_n (pc2 := 85) d_Mo_propose_84 rfl rfl ?_
  refine zx_iload_n (pc2 := 86) d_Mo_propose_85 rfl rfl ?_
  refine zx_iload_n (pc2 := 87) d_Mo_propose_86 rfl rfl ?_
  refine zk_callV (pc2 := 90) s_Mo_140 v_Mo_acceptAll (zl_c546) (h2) d_Mo_propose_87 rfl rfl rfl (Nat.le_of_ble_eq_true rfl) (by decide) (by decide) ?_
  refine zx_pop (pc2 := 91) d_Mo_propose_90 rfl rfl ?_
  refine zx_iload_n (pc2 := 92) d_Mo_propose_91 rfl rfl ?_
  exact zx_iret d_Mo_propose_92 rfl (⟨rfl, rfl, rfl⟩)
theorem x_Mo_propose {x : Int32} (hx : x < 0 ∨ nI 2 ≤ x) : zK l D ar b Z y_Mo_propose 4 [.ref (b + 546), .int x] M n (some (.int (nI 0))) (gm_t M 1) := by
  refine zk_entry (L := [some (.ref (b + 546)), some (.int x), none]) rfl rfl (Nat.le_of_ble_eq_true rfl) rfl rfl ?_
  refine zx_aload_n (pc2 := 1) d_Mo_propose_0 rfl rfl ?_
  refine zx_iload_n (pc2 := 2) d_Mo_propose_1 rfl rfl ?_
  refine zk_callS (pc2 := 5) s_Mo_158 t_Mo_noProposer (c_Mo_noP1 hx) d_Mo_propose_2 rfl rfl rfl (Nat.le_of_ble_eq_true rfl) (by decide) (by decide) ?_
  refine zx_if_eq (pc2 := 8) d_Mo_propose_5 rfl (tgt := 12) (by decide) (fun cz => absurd cz (by decide)) (fun _ => ?_)
  refine zx_iconst (pc2 := 9) (v := nI 1) d_Mo_propose_8 rfl (by decide) ?_
  refine zx_goto (tgt := 13) d_Mo_propose_9 (by decide) ?_
  refine zm_putI (pc2 := 16) p_Mo_7 d_Mo_propose_13 rfl zl_c546 rfl rfl rfl ?_
  refine zx_aload_n (pc2 := 17) d_Mo_propose_16 rfl rfl ?_
  refine zm_getV (pc2 := 20) f_Mo_7 d_Mo_propose_17 rfl zl_c546 rfl (zm_Is) ?_
  refine zx_if_eq (pc2 := 23) d_Mo_propose_20 rfl (tgt := 25) (by decide) (fun cz => absurd cz (by decide)) (fun _ => ?_)
  refine zx_iconst (pc2 := 24) (v := nI 0) d_Mo_propose_23 rfl (by decide) ?_
  exact zx_iret d_Mo_propose_24 rfl (⟨rfl, rfl, rfl⟩)
theorem x_Mo_proposeS {p : Nat} (hp : p < 2) (hx : gs_ff M p = -1 ∨ zm_I M 558 p = 0) : zK l D ar b Z y_Mo_propose 4 [.ref (b + 546), .int (nI p)] M n (some (.int (nI 0))) (zm_wI (gm_t M 0) 546 0 (nI 2)) := by
  have h1 := c_Mo_firstFree (l := l) (D := D) (ar := ar) (b := b) (Z := Z) (M := gm_t M 0) (n := n) hp
  rw [gs_ff_t] at h1
  refine zk_entry (L := [some (.ref (b + 546)), some (.int (nI p)), none]) rfl rfl (Nat.le_of_ble_eq_true rfl) rfl rfl ?_
  by_cases c : gs_ff M p < 0
  · refine zx_aload_n (pc2 := 1) d_Mo_propose_0 rfl rfl ?_
    refine zx_iload_n (pc2 := 2) d_Mo_propose_1 rfl rfl ?_
    refine zk_callS (pc2 := 5) s_Mo_158 t_Mo_noProposer (c_Mo_noP0 hp) d_Mo_propose_2 rfl rfl rfl (Nat.le_of_ble_eq_true rfl) (by decide) (by decide) ?_
    refine zx_if_eq (pc2 := 8) d_Mo_propose_5 rfl (tgt := 12) (by decide) (fun _ => ?_) (fun cz => absurd (by decide) cz)
    refine zx_iconst (pc2 := 13) (v := nI 0) d_Mo_propose_12 rfl (by decide) ?_
    refine zm_putI (pc2 := 16) p_Mo_7 d_Mo_propose_13 rfl zl_c546 rfl rfl rfl ?_
    refine zx_aload_n (pc2 := 17) d_Mo_propose_16 rfl rfl ?_
    refine zm_getV (pc2 := 20) f_Mo_7 d_Mo_propose_17 rfl zl_c546 rfl (zm_Is) ?_
    refine zx_if_eq (pc2 := 23) d_Mo_propose_20 rfl (tgt := 25) (by decide) (fun _ => ?_) (fun cz => absurd (by decide) cz)
    refine zx_aload_n (pc2 := 26) d_Mo_propose_25 rfl rfl ?_
    refine zx_iload_n (pc2 := 27) d_Mo_propose_26 rfl rfl ?_
    refine zk_callV (pc2 := 30) s_Mo_165 v_Mo_firstFree (zl_c546) (h1) d_Mo_propose_27 rfl rfl rfl (Nat.le_of_ble_eq_true rfl) (by decide) (by decide) ?_
    refine zx_ist2 (pc2 := 31) d_Mo_propose_30 rfl rfl (by decide) ?_
    refine zx_iload_n (pc2 := 32) d_Mo_propose_31 rfl rfl ?_
    refine zx_if_lt (pc2 := 35) d_Mo_propose_32 rfl (tgt := 44) (by decide) (fun _ => ?_) (fun cz => absurd (c) cz)
    refine zx_aload_n (pc2 := 45) d_Mo_propose_44 rfl rfl ?_
    refine zx_iconst (pc2 := 46) (v := nI 2) d_Mo_propose_45 rfl (by decide) ?_
    refine zm_putI (pc2 := 49) p_Mo_7 d_Mo_propose_46 rfl zl_c546 rfl rfl rfl ?_
    refine zx_iconst (pc2 := 50) (v := nI 0) d_Mo_propose_49 rfl (by decide) ?_
    exact zx_iret d_Mo_propose_50 rfl (⟨rfl, rfl, rfl⟩)
  · refine zx_aload_n (pc2 := 1) d_Mo_propose_0 rfl rfl ?_
    refine zx_iload_n (pc2 := 2) d_Mo_propose_1 rfl rfl ?_
    refine zk_callS (pc2 := 5) s_Mo_158 t_Mo_noProposer (c_Mo_noP0 hp) d_Mo_propose_2 rfl rfl rfl (Nat.le_of_ble_eq_true rfl) (by decide) (by decide) ?_
    refine zx_if_eq (pc2 := 8) d_Mo_propose_5 rfl (tgt := 12) (by decide) (fun _ => ?_) (fun cz => absurd (by decide) cz)
    refine zx_iconst (pc2 := 13) (v := nI 0) d_Mo_propose_12 rfl (by decide) ?_
    refine zm_putI (pc2 := 16) p_Mo_7 d_Mo_propose_13 rfl zl_c546 rfl rfl rfl ?_
    refine zx_aload_n (pc2 := 17) d_Mo_propose_16 rfl rfl ?_
    refine zm_getV (pc2 := 20) f_Mo_7 d_Mo_propose_17 rfl zl_c546 rfl (zm_Is) ?_
    refine zx_if_eq (pc2 := 23) d_Mo_propose_20 rfl (tgt := 25) (by decide) (fun _ => ?_) (fun cz => absurd (by decide) cz)
    refine zx_aload_n (pc2 := 26) d_Mo_propose_25 rfl rfl ?_
    refine zx_iload_n (pc2 := 27) d_Mo_propose_26 rfl rfl ?_
    refine zk_callV (pc2 := 30) s_Mo_165 v_Mo_firstFree (zl_c546) (h1) d_Mo_propose_27 rfl rfl rfl (Nat.le_of_ble_eq_true rfl) (by decide) (by decide) ?_
    refine zx_ist2 (pc2 := 31) d_Mo_propose_30 rfl rfl (by decide) ?_
    refine zx_iload_n (pc2 := 32) d_Mo_propose_31 rfl rfl ?_
    refine zx_if_lt (pc2 := 35) d_Mo_propose_32 rfl (tgt := 44) (by decide) (fun cz => absurd cz (c)) (fun _ => ?_)
    refine zx_aload_n (pc2 := 36) d_Mo_propose_35 rfl rfl ?_
    refine zm_getR (pc2 := 39) f_Mo_51 d_Mo_propose_36 rfl zl_c546 rfl ?_
    refine zx_iload_n (pc2 := 40) d_Mo_propose_39 rfl rfl ?_
    refine zk_ialdV (pc2 := 41) d_Mo_propose_40 rfl (by rfl) rfl (by omega) (by decide) (gt_t (Or.inl (by decide))) ?_
    refine zx_if_ne (pc2 := 44) d_Mo_propose_41 rfl (tgt := 51) (by decide) (fun cz => absurd (hx.resolve_left (fun e => c (by rw [e]; decide))) cz) (fun _ => ?_)
    refine zx_aload_n (pc2 := 45) d_Mo_propose_44 rfl rfl ?_
    refine zx_iconst (pc2 := 46) (v := nI 2) d_Mo_propose_45 rfl (by decide) ?_
    refine zm_putI (pc2 := 49) p_Mo_7 d_Mo_propose_46 rfl zl_c546 rfl rfl rfl ?_
    refine zx_iconst (pc2 := 50) (v := nI 0) d_Mo_propose_49 rfl (by decide) ?_
    exact zx_iret d_Mo_propose_50 rfl (⟨rfl, rfl, rfl⟩)
theorem c_Mo_campaign {c p A : Nat} (hc : zm_I M 546 5 = nI c) (h60 : c ≤ 60) (hp : p < 2) (hA : gs_ab M p 7 = nI A) (hAl : A < 2 ^ 30) : zK l D ar b Z y_Mo_campaign 2 [.ref (b + 546), .int (nI p)] M n (some (.int (nI (gs_nb p A)))) (gm_pp (gm_c0 M p A 8) c p (fun _ => true) 7).1 := by
  have hi := gm_pp_inv (M := gm_c0 M p A 8) (p := p) (sel := fun _ => true) (gm_c0_c hc) h60
  refine zk_entry (L := [some (.ref (b + 546)), some (.int (nI p)), none, none, none]) rfl rfl (Nat.le_of_ble_eq_true rfl) rfl rfl ?_
  refine zx_aload_n (pc2 := 1) d_Mo_campaign_0 rfl rfl ?_
  refine zx_iload_n (pc2 := 2) d_Mo_campaign_1 rfl rfl ?_
  refine zk_callS (pc2 := 5) s_Mo_158 t_Mo_noProposer (c_Mo_noP0 hp) d_Mo_campaign_2 rfl rfl rfl (Nat.le_of_ble_eq_true rfl) (by decide) (by decide) ?_
  refine zx_if_eq (pc2 := 8) d_Mo_campaign_5 rfl (tgt := 12) (by decide) (fun _ => ?_) (fun cz => absurd (by decide) cz)
  refine zx_iconst (pc2 := 13) (v := nI 0) d_Mo_campaign_12 rfl (by decide) ?_
  refine zm_putI (pc2 := 16) p_Mo_7 d_Mo_campaign_13 rfl zl_c546 rfl rfl rfl ?_
  refine zx_aload_n (pc2 := 17) d_Mo_campaign_16 rfl rfl ?_
  refine zm_getV (pc2 := 20) f_Mo_7 d_Mo_campaign_17 rfl zl_c546 rfl (zm_Is) ?_
  refine zx_if_eq (pc2 := 23) d_Mo_campaign_20 rfl (tgt := 25) (by decide) (fun _ => ?_) (fun cz => absurd (by decide) cz)
  refine zx_aload_n (pc2 := 26) d_Mo_campaign_25 rfl rfl ?_
  refine zm_getR (pc2 := 29) f_Mo_39 d_Mo_campaign_26 rfl zl_c546 rfl ?_
  refine zx_iload_n (pc2 := 30) d_Mo_campaign_29 rfl rfl ?_
  refine zk_ialdV (pc2 := 31) d_Mo_campaign_30 rfl (by rfl) rfl (by omega) (by decide) (gt_t (Or.inl (by decide))) ?_
  refine zx_ist2 (pc2 := 32) d_Mo_campaign_31 rfl rfl (by decide) ?_
  refine zx_iconst (pc2 := 33) (v := nI 0) d_Mo_campaign_32 rfl (by decide) ?_
  refine zx_ist3 (pc2 := 34) d_Mo_campaign_33 rfl rfl (by decide) ?_
  refine zx_for (X := fun s => zk_X l D ar b Z y_Mo_campaign 2 (some (.int (nI (gs_nb p A)))) (gm_pp (gm_c0 M p A 8) c p (fun _ => true) 7).1 n 34 [some (.ref (b + 546)), some (.int (nI p)), some (.int (gs_ab M p s)), some (.int (nI s)), none] [] (gm_t M 0)) 7 ?_ ?_ 0 (Nat.zero_le _)
  · rw [hA]
    refine zx_iload_n (pc2 := 35) d_Mo_campaign_34 rfl rfl ?_
    refine zx_bipush (pc2 := 37) (v := nI 7) d_Mo_campaign_35 rfl (by decide) ?_
    refine zx_icmp_ge (pc2 := 40) d_Mo_campaign_37 rfl (tgt := 63) (by decide) (fun _ => ?_) (fun cz => absurd (nI_le (Nat.le_refl 7) (by decide)) cz)
    refine zx_iconst (pc2 := 64) (v := nI 2) d_Mo_campaign_63 rfl (by decide) ?_
    refine zx_iload_n (pc2 := 65) d_Mo_campaign_64 rfl rfl ?_
    first | refine zx_iaddN (pc2 := 66) d_Mo_campaign_65 rfl ?_ | refine zx_iadd (pc2 := 66) d_Mo_campaign_65 rfl ?_
    refine zx_ist3 (pc2 := 67) d_Mo_campaign_66 rfl rfl (by decide) ?_
    refine zx_for (X := fun i => zk_X l D ar b Z y_Mo_campaign 2 (some (.int (nI (gs_nb p A)))) (gm_pp (gm_c0 M p A 8) c p (fun _ => true) 7).1 n 67 [some (.ref (b + 546)), some (.int (nI p)), some (.int (nI A)), some (.int (nI (2 + p + 2 * i))), none] [] (gm_t M 0)) (gs_K p A) ?_ ?_ 0 (Nat.zero_le _)
    · have hK : A < 2 + p + 2 * gs_K p A ∧ 2 + p + 2 * gs_K p A < 2 ^ 31 := by
        unfold gs_K
        split <;> omega
      refine zx_iload_n (pc2 := 68) d_Mo_campaign_67 rfl rfl ?_
      refine zx_iload_n (pc2 := 69) d_Mo_campaign_68 rfl rfl ?_
      refine zx_icmp_gt (pc2 := 72) d_Mo_campaign_69 rfl (tgt := 78) (by decide) (fun _ => ?_) (fun cz => absurd (nI_lt hK.1 hK.2) cz)
      refine zx_aload_n (pc2 := 79) d_Mo_campaign_78 rfl rfl ?_
      refine zm_getR (pc2 := 82) f_Mo_39 d_Mo_campaign_79 rfl zl_c546 rfl ?_
      refine zx_iload_n (pc2 := 83) d_Mo_campaign_82 rfl rfl ?_
      refine zx_iload_n (pc2 := 84) d_Mo_campaign_83 rfl rfl ?_
      refine zk_iast (pc2 := 85) d_Mo_campaign_84 rfl (by rfl) rfl (by omega) (by decide) ?_
      refine zx_aload_n (pc2 := 86) d_Mo_campaign_85 rfl rfl ?_
      refine zm_getR (pc2 := 89) f_Mo_36 d_Mo_campaign_86 rfl zl_c546 rfl ?_
      refine zx_iload_n (pc2 := 90) d_Mo_campaign_89 rfl rfl ?_
      refine zx_iconst (pc2 := 91) (v := nI 1) d_Mo_campaign_90 rfl (by decide) ?_
      refine zk_iast (pc2 := 92) d_Mo_campaign_91 rfl (by rfl) rfl (by omega) (by decide) ?_
      refine zx_aload_n (pc2 := 93) d_Mo_campaign_92 rfl rfl ?_
      refine zm_getR (pc2 := 96) f_Mo_42 d_Mo_campaign_93 rfl zl_c546 rfl ?_
      refine zx_iload_n (pc2 := 97) d_Mo_campaign_96 rfl rfl ?_
      refine zx_iconst (pc2 := 98) (v := nI 0) d_Mo_campaign_97 rfl (by decide) ?_
      refine zk_iast (pc2 := 99) d_Mo_campaign_98 rfl (by rfl) rfl (by omega) (by decide) ?_
      refine zx_iconst (pc2 := 100) (v := nI 0) d_Mo_campaign_99 rfl (by decide) ?_
      refine zx_ist4 (pc2 := 102) d_Mo_campaign_100 rfl rfl (by decide) ?_
      have h0 : gm_c0 M p A 0 = _ := gm_up0
      refine Eq.mp (congrArg (fun w => zk_X l D ar b Z y_Mo_campaign 2 (some (.int (nI (gs_nb p A)))) (gm_pp (gm_c0 M p A 8) c p (fun _ => true) 7).1 n 102 [some (.ref (b + 546)), some (.int (nI p)), some (.int (nI A)), some (.int (nI (gs_nb p A))), some (.int (nI 0))] [] w) h0) ?_
      refine zx_for (X := fun k => zk_X l D ar b Z y_Mo_campaign 2 (some (.int (nI (gs_nb p A)))) (gm_pp (gm_c0 M p A 8) c p (fun _ => true) 7).1 n 102 [some (.ref (b + 546)), some (.int (nI p)), some (.int (nI A)), some (.int (nI (gs_nb p A))), some (.int (nI k))] [] (gm_c0 M p A k)) 8 ?_ ?_ 0 (Nat.zero_le _)
      · refine zx_iload (pc2 := 104) d_Mo_campaign_102 rfl rfl ?_
        refine zx_bipush (pc2 := 106) (v := nI 8) d_Mo_campaign_104 rfl (by decide) ?_
        refine zx_icmp_ge (pc2 := 109) d_Mo_campaign_106 rfl (tgt := 128) (by decide) (fun _ => ?_) (fun cz => absurd (nI_le (Nat.le_refl 8) (by decide)) cz)
        refine zx_iconst (pc2 := 129) (v := nI 0) d_Mo_campaign_128 rfl (by decide) ?_
        refine zx_ist4 (pc2 := 131) d_Mo_campaign_129 rfl rfl (by decide) ?_
        refine zx_for (X := fun k => zk_X l D ar b Z y_Mo_campaign 2 (some (.int (nI (gs_nb p A)))) (gm_pp (gm_c0 M p A 8) c p (fun _ => true) 7).1 n 131 [some (.ref (b + 546)), some (.int (nI p)), some (.int (nI A)), some (.int (nI (gs_nb p A))), some (.int (nI k))] [] (gm_pp (gm_c0 M p A 8) c p (fun _ => true) k).1) 7 ?_ ?_ 0 (Nat.zero_le _)
        · refine zx_iload (pc2 := 133) d_Mo_campaign_131 rfl rfl ?_
          refine zx_bipush (pc2 := 135) (v := nI 7) d_Mo_campaign_133 rfl (by decide) ?_
          refine zx_icmp_ge (pc2 := 138) d_Mo_campaign_135 rfl (tgt := 152) (by decide) (fun _ => ?_) (fun cz => absurd (nI_le (Nat.le_refl 7) (by decide)) cz)
          refine zx_iload_n (pc2 := 153) d_Mo_campaign_152 rfl rfl ?_
          exact zx_iret d_Mo_campaign_153 rfl (⟨rfl, rfl, rfl⟩)
        · intro k hk ih
          obtain ⟨i1, i2, i3⟩ := hi k
          by_cases h : (gm_pp (gm_c0 M p A 8) c p (fun _ => true) k).2.1 < 60
          · have eS : gm_pp (gm_c0 M p A 8) c p (fun _ => true) (k + 1) = _ := if_pos ⟨rfl, h⟩
            rw [eS] at ih
            dsimp only at ih
            rw [← i3 554 p (by decide) (by decide)] at ih
            refine zx_iload (pc2 := 133) d_Mo_campaign_131 rfl rfl ?_
            refine zx_bipush (pc2 := 135) (v := nI 7) d_Mo_campaign_133 rfl (by decide) ?_
            refine zx_icmp_ge (pc2 := 138) d_Mo_campaign_135 rfl (tgt := 152) (by decide) (fun cz => absurd cz (nI_ge hk (by decide))) (fun _ => ?_)
            refine zx_aload_n (pc2 := 139) d_Mo_campaign_138 rfl rfl ?_
            refine zx_iload_n (pc2 := 140) d_Mo_campaign_139 rfl rfl ?_
            refine zx_iload (pc2 := 142) d_Mo_campaign_140 rfl rfl ?_
            refine zk_callV (pc2 := 145) s_Mo_162 v_Mo_prepare (zl_c546) (c_Mo_prepare1 hp i1 h) d_Mo_campaign_142 rfl rfl rfl (Nat.le_of_ble_eq_true rfl) (by decide) (by decide) ?_
            refine zx_pop (pc2 := 146) d_Mo_campaign_145 rfl rfl ?_
            refine zx_inc4 (pc2 := 149) d_Mo_campaign_146 rfl (zk_1 _) rfl (by decide) ?_
            refine zx_goto (tgt := 131) d_Mo_campaign_149 (by decide) ?_
            exact ih
          · have eS : gm_pp (gm_c0 M p A 8) c p (fun _ => true) (k + 1) = gm_pp (gm_c0 M p A 8) c p (fun _ => true) k := if_neg (fun z => h z.2)
            rw [eS] at ih
            rw [show (gm_pp (gm_c0 M p A 8) c p (fun _ => true) k).2.1 = 60 by omega] at i1
            refine zx_iload (pc2 := 133) d_Mo_campaign_131 rfl rfl ?_
            refine zx_bipush (pc2 := 135) (v := nI 7) d_Mo_campaign_133 rfl (by decide) ?_
            refine zx_icmp_ge (pc2 := 138) d_Mo_campaign_135 rfl (tgt := 152) (by decide) (fun cz => absurd cz (nI_ge hk (by decide))) (fun _ => ?_)
            refine zx_aload_n (pc2 := 139) d_Mo_campaign_138 rfl rfl ?_
            refine zx_iload_n (pc2 := 140) d_Mo_campaign_139 rfl rfl ?_
            refine zx_iload (pc2 := 142) d_Mo_campaign_140 rfl rfl ?_
            refine zk_callV (pc2 := 145) s_Mo_162 v_Mo_prepare (zl_c546) (c_Mo_prepare0 hp i1) d_Mo_campaign_142 rfl rfl rfl (Nat.le_of_ble_eq_true rfl) (by decide) (by decide) ?_
            refine zx_pop (pc2 := 146) d_Mo_campaign_145 rfl rfl ?_
            refine zx_inc4 (pc2 := 149) d_Mo_campaign_146 rfl (zk_1 _) rfl (by decide) ?_
            refine zx_goto (tgt := 131) d_Mo_campaign_149 (by decide) ?_
            exact ih
      · intro k hk ih
        have eS : gm_c0 M p A (k + 1) = zm_wI (gm_c0 M p A k) 560 (8 * p + k) (nI 0) := gm_upS.symm
        rw [eS] at ih
        refine zx_iload (pc2 := 104) d_Mo_campaign_102 rfl rfl ?_
        refine zx_bipush (pc2 := 106) (v := nI 8) d_Mo_campaign_104 rfl (by decide) ?_
        refine zx_icmp_ge (pc2 := 109) d_Mo_campaign_106 rfl (tgt := 128) (by decide) (fun cz => absurd cz (nI_ge hk (by decide))) (fun _ => ?_)
        refine zx_aload_n (pc2 := 110) d_Mo_campaign_109 rfl rfl ?_
        refine zm_getR (pc2 := 113) f_Mo_57 d_Mo_campaign_110 rfl zl_c546 rfl ?_
        refine zx_bipush (pc2 := 115) (v := nI 8) d_Mo_campaign_113 rfl (by decide) ?_
        refine zx_iload_n (pc2 := 116) d_Mo_campaign_115 rfl rfl ?_
        first | refine zx_imulN (pc2 := 117) d_Mo_campaign_116 rfl ?_ | refine zx_imul (pc2 := 117) d_Mo_campaign_116 rfl ?_
        refine zx_iload (pc2 := 119) d_Mo_campaign_117 rfl rfl ?_
        first | refine zx_iaddN (pc2 := 120) d_Mo_campaign_119 rfl ?_ | refine zx_iadd (pc2 := 120) d_Mo_campaign_119 rfl ?_
        refine zx_iconst (pc2 := 121) (v := nI 0) d_Mo_campaign_120 rfl (by decide) ?_
        refine zk_iast (pc2 := 122) d_Mo_campaign_121 rfl (by rfl) rfl (by omega) (by decide) ?_
        refine zx_inc4 (pc2 := 125) d_Mo_campaign_122 rfl (zk_1 _) rfl (by decide) ?_
        refine zx_goto (tgt := 102) d_Mo_campaign_125 (by decide) ?_
        exact ih
    · intro i hi2 ih
      have hle : 2 + p + 2 * i ≤ A := by
        unfold gs_K at hi2
        split at hi2 <;> omega
      refine zx_iload_n (pc2 := 68) d_Mo_campaign_67 rfl rfl ?_
      refine zx_iload_n (pc2 := 69) d_Mo_campaign_68 rfl rfl ?_
      refine zx_icmp_gt (pc2 := 72) d_Mo_campaign_69 rfl (tgt := 78) (by decide) (fun cz => absurd cz (nI_nlt hle (by omega))) (fun _ => ?_)
      refine zx_inc3 (pc2 := 75) (x := nI (2 + p + 2 * i)) (v := nI (2 + p + 2 * (i + 1))) d_Mo_campaign_72 rfl (by rw [show Int32.ofInt 2 = nI 2 from rfl, nI_add]; rfl) rfl (by decide) ?_
      refine zx_goto (tgt := 67) d_Mo_campaign_75 (by decide) ?_
      exact ih
  · intro s hs ih
    by_cases c2 : zm_I M 547 s ≤ gs_ab M p s
    · rw [show gs_ab M p (s + 1) = gs_ab M p s from if_pos c2] at ih
      refine zx_iload_n (pc2 := 35) d_Mo_campaign_34 rfl rfl ?_
      refine zx_bipush (pc2 := 37) (v := nI 7) d_Mo_campaign_35 rfl (by decide) ?_
      refine zx_icmp_ge (pc2 := 40) d_Mo_campaign_37 rfl (tgt := 63) (by decide) (fun cz => absurd cz (nI_ge hs (by decide))) (fun _ => ?_)
      refine zx_aload_n (pc2 := 41) d_Mo_campaign_40 rfl rfl ?_
      refine zm_getR (pc2 := 44) f_Mo_13 d_Mo_campaign_41 rfl zl_c546 rfl ?_
      refine zx_iload_n (pc2 := 45) d_Mo_campaign_44 rfl rfl ?_
      refine zk_ialdV (pc2 := 46) d_Mo_campaign_45 rfl (by rfl) rfl (by omega) (by decide) (gt_t (Or.inl (by decide))) ?_
      refine zx_iload_n (pc2 := 47) d_Mo_campaign_46 rfl rfl ?_
      refine zx_icmp_le (pc2 := 50) d_Mo_campaign_47 rfl (tgt := 57) (by decide) (fun _ => ?_) (fun cz => absurd (c2) cz)
      refine zx_inc3 (pc2 := 60) d_Mo_campaign_57 rfl (zk_1 _) rfl (by decide) ?_
      refine zx_goto (tgt := 34) d_Mo_campaign_60 (by decide) ?_
      exact ih
    · rw [show gs_ab M p (s + 1) = zm_I M 547 s from if_neg c2] at ih
      refine zx_iload_n (pc2 := 35) d_Mo_campaign_34 rfl rfl ?_
      refine zx_bipush (pc2 := 37) (v := nI 7) d_Mo_campaign_35 rfl (by decide) ?_
      refine zx_icmp_ge (pc2 := 40) d_Mo_campaign_37 rfl (tgt := 63) (by decide) (fun cz => absurd cz (nI_ge hs (by decide))) (fun _ => ?_)
      refine zx_aload_n (pc2 := 41) d_Mo_campaign_40 rfl rfl ?_
      refine zm_getR (pc2 := 44) f_Mo_13 d_Mo_campaign_41 rfl zl_c546 rfl ?_
      refine zx_iload_n (pc2 := 45) d_Mo_campaign_44 rfl rfl ?_
      refine zk_ialdV (pc2 := 46) d_Mo_campaign_45 rfl (by rfl) rfl (by omega) (by decide) (gt_t (Or.inl (by decide))) ?_
      refine zx_iload_n (pc2 := 47) d_Mo_campaign_46 rfl rfl ?_
      refine zx_icmp_le (pc2 := 50) d_Mo_campaign_47 rfl (tgt := 57) (by decide) (fun cz => absurd cz (c2)) (fun _ => ?_)
      refine zx_aload_n (pc2 := 51) d_Mo_campaign_50 rfl rfl ?_
      refine zm_getR (pc2 := 54) f_Mo_13 d_Mo_campaign_51 rfl zl_c546 rfl ?_
      refine zx_iload_n (pc2 := 55) d_Mo_campaign_54 rfl rfl ?_
      refine zk_ialdV (pc2 := 56) d_Mo_campaign_55 rfl (by rfl) rfl (by omega) (by decide) (gt_t (Or.inl (by decide))) ?_
      refine zx_ist2 (pc2 := 57) d_Mo_campaign_56 rfl rfl (by decide) ?_
      refine zx_inc3 (pc2 := 60) d_Mo_campaign_57 rfl (zk_1 _) rfl (by decide) ?_
      refine zx_goto (tgt := 34) d_Mo_campaign_60 (by decide) ?_
      exact ih
theorem x_Mo_campaign {x : Int32} (hx : x < 0 ∨ nI 2 ≤ x) : zK l D ar b Z y_Mo_campaign 2 [.ref (b + 546), .int x] M n (some (.int (nI 0))) (gm_t M 1) := by
  refine zk_entry (L := [some (.ref (b + 546)), some (.int x), none, none, none]) rfl rfl (Nat.le_of_ble_eq_true rfl) rfl rfl ?_
  refine zx_aload_n (pc2 := 1) d_Mo_campaign_0 rfl rfl ?_
  refine zx_iload_n (pc2 := 2) d_Mo_campaign_1 rfl rfl ?_
  refine zk_callS (pc2 := 5) s_Mo_158 t_Mo_noProposer (c_Mo_noP1 hx) d_Mo_campaign_2 rfl rfl rfl (Nat.le_of_ble_eq_true rfl) (by decide) (by decide) ?_
  refine zx_if_eq (pc2 := 8) d_Mo_campaign_5 rfl (tgt := 12) (by decide) (fun cz => absurd cz (by decide)) (fun _ => ?_)
  refine zx_iconst (pc2 := 9) (v := nI 1) d_Mo_campaign_8 rfl (by decide) ?_
  refine zx_goto (tgt := 13) d_Mo_campaign_9 (by decide) ?_
  refine zm_putI (pc2 := 16) p_Mo_7 d_Mo_campaign_13 rfl zl_c546 rfl rfl rfl ?_
  refine zx_aload_n (pc2 := 17) d_Mo_campaign_16 rfl rfl ?_
  refine zm_getV (pc2 := 20) f_Mo_7 d_Mo_campaign_17 rfl zl_c546 rfl (zm_Is) ?_
  refine zx_if_eq (pc2 := 23) d_Mo_campaign_20 rfl (tgt := 25) (by decide) (fun cz => absurd cz (by decide)) (fun _ => ?_)
  refine zx_iconst (pc2 := 24) (v := nI 0) d_Mo_campaign_23 rfl (by decide) ?_
  exact zx_iret d_Mo_campaign_24 rfl (⟨rfl, rfl, rfl⟩)
end C57
