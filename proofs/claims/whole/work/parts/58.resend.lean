/-! LogHouseModel: resend -/
abbrev gm_T : Type := zm_M × Nat × Nat
def gi_ok (M0 : zm_M) (T : gm_T) : Prop := zm_I T.1 546 5 = nI T.2.1 ∧ T.2.1 ≤ 60 ∧ ∀ r x, r ≠ 551 → r ≠ 552 → r ≠ 546 → zm_I T.1 r x = zm_I M0 r x
def gm_as (M0 : zm_M) (p pl len : Nat) (f : Nat → Nat) (T : gm_T) : Nat → gm_T
  | 0 => T
  | s + 1 => if (zm_I M0 560 (8 * p + pl) ≠ 0 ∧ (zm_I M0 562 (8 * p + pl) >>> (nI s &&& 31)) &&& nI 1 = 0) ∧ (gm_as M0 p pl len f T s).2.1 < 60 then (gm_acc (gm_as M0 p pl len f T s).1 (gm_as M0 p pl len f T s).2.1 p pl s len f ((len + 2) / 3), (gm_as M0 p pl len f T s).2.1 + 1, (gm_as M0 p pl len f T s).2.2 + 1) else gm_as M0 p pl len f T s
def gm_ro (M0 : zm_M) (p : Nat) (L : Nat → Nat) (F : Nat → Nat → Nat) (T : gm_T) : Nat → gm_T
  | 0 => T
  | pl + 1 => gm_as M0 p pl (L pl) (F pl) (gm_ro M0 p L F T pl) 7
theorem gm_as_inv {M0 : zm_M} {p pl len : Nat} {f : Nat → Nat} {T : gm_T} (h : gi_ok M0 T) : ∀ k, gi_ok M0 (gm_as M0 p pl len f T k)
  | 0 => h
  | k + 1 => by
    obtain ⟨i1, i2, i3⟩ := gm_as_inv (p := p) (pl := pl) (len := len) (f := f) h k
    unfold gm_as
    split
    · rename_i c
      exact ⟨gm_acc_c, by show _ + 1 ≤ 60; omega, fun r x h1 h2 h3 => (gm_acc_n h1 h2 h3).trans (i3 r x h1 h2 h3)⟩
    · exact ⟨i1, i2, i3⟩
theorem gm_ro_inv {M0 : zm_M} {p : Nat} {L : Nat → Nat} {F : Nat → Nat → Nat} {T : gm_T} (h : gi_ok M0 T) : ∀ k, gi_ok M0 (gm_ro M0 p L F T k)
  | 0 => h
  | k + 1 => gm_as_inv (gm_ro_inv h k) 7
def gs_sel (M : zm_M) (p : Nat) : Nat → Bool := fun s => decide ((zm_I M 555 p >>> (nI s &&& 31)) &&& nI 1 = 0)
section C58
variable {l : Launch} {D : va_G} {ar : Nat → ClassId} {b : Nat} {Z : State → Prop} {M : zm_M} {n : Nat}
theorem c_Mo_resend1 {c p : Nat} (hc : zm_I M 546 5 = nI c) (h60 : c ≤ 60) (hp : p < 2) (hph : zm_I M 553 p = nI 1) : zK l D ar b Z y_Mo_resend 3 [.ref (b + 546), .int (nI p)] M n (some (.int (nI (gm_pp (gm_t M 0) c p (gs_sel M p) 7).2.2))) (gm_pp (gm_t M 0) c p (gs_sel M p) 7).1 := by
  have hi := gm_pp_inv (M := gm_t M 0) (p := p) (sel := gs_sel M p) ((gt_t (Or.inr (by decide))).trans hc) h60
  have hv : ∀ k r, r ≠ 551 → r ≠ 546 → ∀ x, zm_I (gm_pp (gm_t M 0) c p (gs_sel M p) k).1 r x = zm_I M r x := fun k r h1 h2 x => ((hi k).2.2 r x h1 h2).trans (gt_t (Or.inl h2))
  refine zk_entry (L := [some (.ref (b + 546)), some (.int (nI p)), none, none, none]) rfl rfl (Nat.le_of_ble_eq_true rfl) rfl rfl ?_
  refine zx_aload_n (pc2 := 1) d_Mo_resend_0 rfl rfl ?_
  refine zx_iload_n (pc2 := 2) d_Mo_resend_1 rfl rfl ?_
  refine zk_callS (pc2 := 5) s_Mo_158 t_Mo_noProposer (c_Mo_noP0 hp) d_Mo_resend_2 rfl rfl rfl (Nat.le_of_ble_eq_true rfl) (by decide) (by decide) ?_
  refine zx_if_eq (pc2 := 8) d_Mo_resend_5 rfl (tgt := 12) (by decide) (fun _ => ?_) (fun cz => absurd (by decide) cz)
  refine zx_iconst (pc2 := 13) (v := nI 0) d_Mo_resend_12 rfl (by decide) ?_
  refine zm_putI (pc2 := 16) p_Mo_7 d_Mo_resend_13 rfl zl_c546 rfl rfl rfl ?_
  refine zx_aload_n (pc2 := 17) d_Mo_resend_16 rfl rfl ?_
  refine zm_getV (pc2 := 20) f_Mo_7 d_Mo_resend_17 rfl zl_c546 rfl (zm_Is) ?_
  refine zx_if_eq (pc2 := 23) d_Mo_resend_20 rfl (tgt := 25) (by decide) (fun _ => ?_) (fun cz => absurd (by decide) cz)
  refine zx_iconst (pc2 := 26) (v := nI 0) d_Mo_resend_25 rfl (by decide) ?_
  refine zx_ist2 (pc2 := 27) d_Mo_resend_26 rfl rfl (by decide) ?_
  refine zx_iconst (pc2 := 28) (v := nI 0) d_Mo_resend_27 rfl (by decide) ?_
  refine zx_ist3 (pc2 := 29) d_Mo_resend_28 rfl rfl (by decide) ?_
  refine zx_for (X := fun k => zk_X l D ar b Z y_Mo_resend 3 (some (.int (nI (gm_pp (gm_t M 0) c p (gs_sel M p) 7).2.2))) (gm_pp (gm_t M 0) c p (gs_sel M p) 7).1 n 29 [some (.ref (b + 546)), some (.int (nI p)), some (.int (nI (gm_pp (gm_t M 0) c p (gs_sel M p) k).2.2)), some (.int (nI k)), none] [] (gm_pp (gm_t M 0) c p (gs_sel M p) k).1) 7 ?_ ?_ 0 (Nat.zero_le _)
  · refine zx_iload_n (pc2 := 30) d_Mo_resend_29 rfl rfl ?_
    refine zx_bipush (pc2 := 32) (v := nI 7) d_Mo_resend_30 rfl (by decide) ?_
    refine zx_icmp_ge (pc2 := 35) d_Mo_resend_32 rfl (tgt := 73) (by decide) (fun _ => ?_) (fun cz => absurd (nI_le (Nat.le_refl 7) (by decide)) cz)
    refine zx_iconst (pc2 := 74) (v := nI 0) d_Mo_resend_73 rfl (by decide) ?_
    refine zx_ist3 (pc2 := 75) d_Mo_resend_74 rfl rfl (by decide) ?_
    refine zx_iload_n (pc2 := 76) d_Mo_resend_75 rfl rfl ?_
    refine zx_bipush (pc2 := 78) (v := nI 8) d_Mo_resend_76 rfl (by decide) ?_
    refine zx_icmp_ge (pc2 := 81) d_Mo_resend_78 rfl (tgt := 157) (by decide) (fun cz => absurd cz (nI_ge (by decide) (by decide))) (fun _ => ?_)
    refine zx_aload_n (pc2 := 82) d_Mo_resend_81 rfl rfl ?_
    refine zm_getR (pc2 := 85) f_Mo_36 d_Mo_resend_82 rfl zl_c546 rfl ?_
    refine zx_iload_n (pc2 := 86) d_Mo_resend_85 rfl rfl ?_
    refine zk_ialdV (pc2 := 87) d_Mo_resend_86 rfl (by rfl) rfl (by omega) (by decide) ((hv 7 553 (by decide) (by decide) p).trans hph) ?_
    refine zx_iconst (pc2 := 88) (v := nI 2) d_Mo_resend_87 rfl (by decide) ?_
    refine zx_icmp_ne (pc2 := 91) d_Mo_resend_88 rfl (tgt := 157) (by decide) (fun _ => ?_) (fun cz => absurd cz (by decide))
    refine zx_iload_n (pc2 := 158) d_Mo_resend_157 rfl rfl ?_
    exact zx_iret d_Mo_resend_158 rfl (⟨rfl, rfl, rfl⟩)
  · intro k hk ih
    obtain ⟨i1, i2, i3⟩ := hi k
    by_cases cs : (zm_I M 555 p >>> (nI k &&& 31)) &&& nI 1 = 0
    · by_cases h : (gm_pp (gm_t M 0) c p (gs_sel M p) k).2.1 < 60
      · have eS : gm_pp (gm_t M 0) c p (gs_sel M p) (k + 1) = _ := if_pos ⟨decide_eq_true cs, h⟩
        rw [eS] at ih
        dsimp only at ih
        rw [← i3 554 p (by decide) (by decide)] at ih
        refine zx_iload_n (pc2 := 30) d_Mo_resend_29 rfl rfl ?_
        refine zx_bipush (pc2 := 32) (v := nI 7) d_Mo_resend_30 rfl (by decide) ?_
        refine zx_icmp_ge (pc2 := 35) d_Mo_resend_32 rfl (tgt := 73) (by decide) (fun cz => absurd cz (nI_ge hk (by decide))) (fun _ => ?_)
        refine zx_aload_n (pc2 := 36) d_Mo_resend_35 rfl rfl ?_
        refine zm_getR (pc2 := 39) f_Mo_36 d_Mo_resend_36 rfl zl_c546 rfl ?_
        refine zx_iload_n (pc2 := 40) d_Mo_resend_39 rfl rfl ?_
        refine zk_ialdV (pc2 := 41) d_Mo_resend_40 rfl (by rfl) rfl (by omega) (by decide) ((hv k 553 (by decide) (by decide) p).trans hph) ?_
        refine zx_iconst (pc2 := 42) (v := nI 1) d_Mo_resend_41 rfl (by decide) ?_
        refine zx_icmp_ne (pc2 := 45) d_Mo_resend_42 rfl (tgt := 73) (by decide) (fun cz => absurd (rfl) cz) (fun _ => ?_)
        refine zx_aload_n (pc2 := 46) d_Mo_resend_45 rfl rfl ?_
        refine zm_getR (pc2 := 49) f_Mo_42 d_Mo_resend_46 rfl zl_c546 rfl ?_
        refine zx_iload_n (pc2 := 50) d_Mo_resend_49 rfl rfl ?_
        refine zk_ialdV (pc2 := 51) d_Mo_resend_50 rfl (by rfl) rfl (by omega) (by decide) (hv k 555 (by decide) (by decide) p) ?_
        refine zx_iload_n (pc2 := 52) d_Mo_resend_51 rfl rfl ?_
        refine zx_ishr (pc2 := 53) d_Mo_resend_52 rfl ?_
        refine zx_iconst (pc2 := 54) (v := nI 1) d_Mo_resend_53 rfl (by decide) ?_
        refine zx_iand (pc2 := 55) d_Mo_resend_54 rfl ?_
        refine zx_if_ne (pc2 := 58) d_Mo_resend_55 rfl (tgt := 67) (by decide) (fun cz => absurd (cs) cz) (fun _ => ?_)
        refine zx_iload_n (pc2 := 59) d_Mo_resend_58 rfl rfl ?_
        refine zx_aload_n (pc2 := 60) d_Mo_resend_59 rfl rfl ?_
        refine zx_iload_n (pc2 := 61) d_Mo_resend_60 rfl rfl ?_
        refine zx_iload_n (pc2 := 62) d_Mo_resend_61 rfl rfl ?_
        refine zk_callV (pc2 := 65) s_Mo_162 v_Mo_prepare (zl_c546) (c_Mo_prepare1 hp i1 h) d_Mo_resend_62 rfl rfl rfl (Nat.le_of_ble_eq_true rfl) (by decide) (by decide) ?_
        first | refine zx_iaddN (pc2 := 66) d_Mo_resend_65 rfl ?_ | refine zx_iadd (pc2 := 66) d_Mo_resend_65 rfl ?_
        refine zx_ist2 (pc2 := 67) d_Mo_resend_66 rfl rfl (by decide) ?_
        refine zx_inc3 (pc2 := 70) d_Mo_resend_67 rfl (zk_1 _) rfl (by decide) ?_
        refine zx_goto (tgt := 29) d_Mo_resend_70 (by decide) ?_
        exact ih
      · have eS : gm_pp (gm_t M 0) c p (gs_sel M p) (k + 1) = gm_pp (gm_t M 0) c p (gs_sel M p) k := if_neg (fun z => h z.2)
        rw [eS] at ih
        rw [show (gm_pp (gm_t M 0) c p (gs_sel M p) k).2.1 = 60 by omega] at i1
        refine zx_iload_n (pc2 := 30) d_Mo_resend_29 rfl rfl ?_
        refine zx_bipush (pc2 := 32) (v := nI 7) d_Mo_resend_30 rfl (by decide) ?_
        refine zx_icmp_ge (pc2 := 35) d_Mo_resend_32 rfl (tgt := 73) (by decide) (fun cz => absurd cz (nI_ge hk (by decide))) (fun _ => ?_)
        refine zx_aload_n (pc2 := 36) d_Mo_resend_35 rfl rfl ?_
        refine zm_getR (pc2 := 39) f_Mo_36 d_Mo_resend_36 rfl zl_c546 rfl ?_
        refine zx_iload_n (pc2 := 40) d_Mo_resend_39 rfl rfl ?_
        refine zk_ialdV (pc2 := 41) d_Mo_resend_40 rfl (by rfl) rfl (by omega) (by decide) ((hv k 553 (by decide) (by decide) p).trans hph) ?_
        refine zx_iconst (pc2 := 42) (v := nI 1) d_Mo_resend_41 rfl (by decide) ?_
        refine zx_icmp_ne (pc2 := 45) d_Mo_resend_42 rfl (tgt := 73) (by decide) (fun cz => absurd (rfl) cz) (fun _ => ?_)
        refine zx_aload_n (pc2 := 46) d_Mo_resend_45 rfl rfl ?_
        refine zm_getR (pc2 := 49) f_Mo_42 d_Mo_resend_46 rfl zl_c546 rfl ?_
        refine zx_iload_n (pc2 := 50) d_Mo_resend_49 rfl rfl ?_
        refine zk_ialdV (pc2 := 51) d_Mo_resend_50 rfl (by rfl) rfl (by omega) (by decide) (hv k 555 (by decide) (by decide) p) ?_
        refine zx_iload_n (pc2 := 52) d_Mo_resend_51 rfl rfl ?_
        refine zx_ishr (pc2 := 53) d_Mo_resend_52 rfl ?_
        refine zx_iconst (pc2 := 54) (v := nI 1) d_Mo_resend_53 rfl (by decide) ?_
        refine zx_iand (pc2 := 55) d_Mo_resend_54 rfl ?_
        refine zx_if_ne (pc2 := 58) d_Mo_resend_55 rfl (tgt := 67) (by decide) (fun cz => absurd (cs) cz) (fun _ => ?_)
        refine zx_iload_n (pc2 := 59) d_Mo_resend_58 rfl rfl ?_
        refine zx_aload_n (pc2 := 60) d_Mo_resend_59 rfl rfl ?_
        refine zx_iload_n (pc2 := 61) d_Mo_resend_60 rfl rfl ?_
        refine zx_iload_n (pc2 := 62) d_Mo_resend_61 rfl rfl ?_
        refine zk_callV (pc2 := 65) s_Mo_162 v_Mo_prepare (zl_c546) (c_Mo_prepare0 hp i1) d_Mo_resend_62 rfl rfl rfl (Nat.le_of_ble_eq_true rfl) (by decide) (by decide) ?_
        first | refine zx_iaddN (pc2 := 66) d_Mo_resend_65 rfl ?_ | refine zx_iadd (pc2 := 66) d_Mo_resend_65 rfl ?_
        refine zx_ist2 (pc2 := 67) d_Mo_resend_66 rfl rfl (by decide) ?_
        refine zx_inc3 (pc2 := 70) d_Mo_resend_67 rfl (zk_1 _) rfl (by decide) ?_
        refine zx_goto (tgt := 29) d_Mo_resend_70 (by decide) ?_
        exact ih
    · have eS : gm_pp (gm_t M 0) c p (gs_sel M p) (k + 1) = gm_pp (gm_t M 0) c p (gs_sel M p) k := if_neg (fun z => cs (of_decide_eq_true z.1))
      rw [eS] at ih
      refine zx_iload_n (pc2 := 30) d_Mo_resend_29 rfl rfl ?_
      refine zx_bipush (pc2 := 32) (v := nI 7) d_Mo_resend_30 rfl (by decide) ?_
      refine zx_icmp_ge (pc2 := 35) d_Mo_resend_32 rfl (tgt := 73) (by decide) (fun cz => absurd cz (nI_ge hk (by decide))) (fun _ => ?_)
      refine zx_aload_n (pc2 := 36) d_Mo_resend_35 rfl rfl ?_
      refine zm_getR (pc2 := 39) f_Mo_36 d_Mo_resend_36 rfl zl_c546 rfl ?_
      refine zx_iload_n (pc2 := 40) d_Mo_resend_39 rfl rfl ?_
      refine zk_ialdV (pc2 := 41) d_Mo_resend_40 rfl (by rfl) rfl (by omega) (by decide) ((hv k 553 (by decide) (by decide) p).trans hph) ?_
      refine zx_iconst (pc2 := 42) (v := nI 1) d_Mo_resend_41 rfl (by decide) ?_
      refine zx_icmp_ne (pc2 := 45) d_Mo_resend_42 rfl (tgt := 73) (by decide) (fun cz => absurd (rfl) cz) (fun _ => ?_)
      refine zx_aload_n (pc2 := 46) d_Mo_resend_45 rfl rfl ?_
      refine zm_getR (pc2 := 49) f_Mo_42 d_Mo_resend_46 rfl zl_c546 rfl ?_
      refine zx_iload_n (pc2 := 50) d_Mo_resend_49 rfl rfl ?_
      refine zk_ialdV (pc2 := 51) d_Mo_resend_50 rfl (by rfl) rfl (by omega) (by decide) (hv k 555 (by decide) (by decide) p) ?_
      refine zx_iload_n (pc2 := 52) d_Mo_resend_51 rfl rfl ?_
      refine zx_ishr (pc2 := 53) d_Mo_resend_52 rfl ?_
      refine zx_iconst (pc2 := 54) (v := nI 1) d_Mo_resend_53 rfl (by decide) ?_
      refine zx_iand (pc2 := 55) d_Mo_resend_54 rfl ?_
      refine zx_if_ne (pc2 := 58) d_Mo_resend_55 rfl (tgt := 67) (by decide) (fun _ => ?_) (fun cz => absurd cz (cs))
      refine zx_inc3 (pc2 := 70) d_Mo_resend_67 rfl (zk_1 _) rfl (by decide) ?_
      refine zx_goto (tgt := 29) d_Mo_resend_70 (by decide) ?_
      exact ih
theorem c_Mo_resend2 {c p : Nat} {Ln : Nat → Nat} {Fb : Nat → Nat → Nat} (hT : gt_ok M) (hc : zm_I M 546 5 = nI c) (h60 : c ≤ 60) (hp : p < 2) (hph : zm_I M 553 p = nI 2) (hw : ∀ pl, pl < 8 → zm_I M 560 (8 * p + pl) ≠ 0 → zm_I M 561 (8 * p + pl) = nI (Ln pl) ∧ Ln pl ≤ 24 ∧ gb_ok M 563 (24 * (8 * p + pl)) (Ln pl) (Fb pl)) : zK l D ar b Z y_Mo_resend 3 [.ref (b + 546), .int (nI p)] M n (some (.int (nI (gm_ro (gm_t M 0) p Ln Fb (gm_t M 0, c, 0) 8).2.2))) (gm_ro (gm_t M 0) p Ln Fb (gm_t M 0, c, 0) 8).1 := by
  have hi0 : gi_ok (gm_t M 0) (gm_t M 0, c, 0) := ⟨(gt_t (Or.inr (by decide))).trans hc, h60, fun _ _ _ _ _ => rfl⟩
  have hi := gm_ro_inv (p := p) (L := Ln) (F := Fb) hi0
  have hv : ∀ (T : gm_T) r x, gi_ok (gm_t M 0) T → r ≠ 551 → r ≠ 552 → r ≠ 546 → zm_I T.1 r x = zm_I M r x := fun T r x h h1 h2 h3 => (h.2.2 r x h1 h2 h3).trans (gt_t (Or.inl h3))
  refine zk_entry (L := [some (.ref (b + 546)), some (.int (nI p)), none, none, none]) rfl rfl (Nat.le_of_ble_eq_true rfl) rfl rfl ?_
  refine zx_aload_n (pc2 := 1) d_Mo_resend_0 rfl rfl ?_
  refine zx_iload_n (pc2 := 2) d_Mo_resend_1 rfl rfl ?_
  refine zk_callS (pc2 := 5) s_Mo_158 t_Mo_noProposer (c_Mo_noP0 hp) d_Mo_resend_2 rfl rfl rfl (Nat.le_of_ble_eq_true rfl) (by decide) (by decide) ?_
  refine zx_if_eq (pc2 := 8) d_Mo_resend_5 rfl (tgt := 12) (by decide) (fun _ => ?_) (fun cz => absurd (by decide) cz)
  refine zx_iconst (pc2 := 13) (v := nI 0) d_Mo_resend_12 rfl (by decide) ?_
  refine zm_putI (pc2 := 16) p_Mo_7 d_Mo_resend_13 rfl zl_c546 rfl rfl rfl ?_
  refine zx_aload_n (pc2 := 17) d_Mo_resend_16 rfl rfl ?_
  refine zm_getV (pc2 := 20) f_Mo_7 d_Mo_resend_17 rfl zl_c546 rfl (zm_Is) ?_
  refine zx_if_eq (pc2 := 23) d_Mo_resend_20 rfl (tgt := 25) (by decide) (fun _ => ?_) (fun cz => absurd (by decide) cz)
  refine zx_iconst (pc2 := 26) (v := nI 0) d_Mo_resend_25 rfl (by decide) ?_
  refine zx_ist2 (pc2 := 27) d_Mo_resend_26 rfl rfl (by decide) ?_
  refine zx_iconst (pc2 := 28) (v := nI 0) d_Mo_resend_27 rfl (by decide) ?_
  refine zx_ist3 (pc2 := 29) d_Mo_resend_28 rfl rfl (by decide) ?_
  refine zx_iload_n (pc2 := 30) d_Mo_resend_29 rfl rfl ?_
  refine zx_bipush (pc2 := 32) (v := nI 7) d_Mo_resend_30 rfl (by decide) ?_
  refine zx_icmp_ge (pc2 := 35) d_Mo_resend_32 rfl (tgt := 73) (by decide) (fun cz => absurd cz (nI_ge (by decide) (by decide))) (fun _ => ?_)
  refine zx_aload_n (pc2 := 36) d_Mo_resend_35 rfl rfl ?_
  refine zm_getR (pc2 := 39) f_Mo_36 d_Mo_resend_36 rfl zl_c546 rfl ?_
  refine zx_iload_n (pc2 := 40) d_Mo_resend_39 rfl rfl ?_
  refine zk_ialdV (pc2 := 41) d_Mo_resend_40 rfl (by rfl) rfl (by omega) (by decide) ((gt_t (Or.inl (by decide))).trans hph) ?_
  refine zx_iconst (pc2 := 42) (v := nI 1) d_Mo_resend_41 rfl (by decide) ?_
  refine zx_icmp_ne (pc2 := 45) d_Mo_resend_42 rfl (tgt := 73) (by decide) (fun _ => ?_) (fun cz => absurd cz (by decide))
  refine zx_iconst (pc2 := 74) (v := nI 0) d_Mo_resend_73 rfl (by decide) ?_
  refine zx_ist3 (pc2 := 75) d_Mo_resend_74 rfl rfl (by decide) ?_
  have key : ∀ z4 : Option Value, zx_kp z4 = z4 → ∀ k, k ≤ 8 → zk_X l D ar b Z y_Mo_resend 3 (some (.int (nI (gm_ro (gm_t M 0) p Ln Fb (gm_t M 0, c, 0) 8).2.2))) (gm_ro (gm_t M 0) p Ln Fb (gm_t M 0, c, 0) 8).1 n 75 [some (.ref (b + 546)), some (.int (nI p)), some (.int (nI (gm_ro (gm_t M 0) p Ln Fb (gm_t M 0, c, 0) k).2.2)), some (.int (nI k)), if k = 0 then none else some (.int (nI 7))] [] (gm_ro (gm_t M 0) p Ln Fb (gm_t M 0, c, 0) k).1 := by
    intro z4 _
    refine zx_for (X := fun k => zk_X l D ar b Z y_Mo_resend 3 (some (.int (nI (gm_ro (gm_t M 0) p Ln Fb (gm_t M 0, c, 0) 8).2.2))) (gm_ro (gm_t M 0) p Ln Fb (gm_t M 0, c, 0) 8).1 n 75 [some (.ref (b + 546)), some (.int (nI p)), some (.int (nI (gm_ro (gm_t M 0) p Ln Fb (gm_t M 0, c, 0) k).2.2)), some (.int (nI k)), if k = 0 then none else some (.int (nI 7))] [] (gm_ro (gm_t M 0) p Ln Fb (gm_t M 0, c, 0) k).1) 8 ?_ ?_
    · refine zx_iload_n (pc2 := 76) d_Mo_resend_75 rfl rfl ?_
      refine zx_bipush (pc2 := 78) (v := nI 8) d_Mo_resend_76 rfl (by decide) ?_
      refine zx_icmp_ge (pc2 := 81) d_Mo_resend_78 rfl (tgt := 157) (by decide) (fun _ => ?_) (fun cz => absurd (nI_le (Nat.le_refl 8) (by decide)) cz)
      refine zx_iload_n (pc2 := 158) d_Mo_resend_157 rfl rfl ?_
      exact zx_iret d_Mo_resend_158 rfl (⟨rfl, rfl, rfl⟩)
    · intro pl hpl ih
      rw [if_neg (by omega)] at ih
      have hI := hi pl
      change zk_X l D ar b Z y_Mo_resend 3 _ _ n 75 [some (.ref (b + 546)), some (.int (nI p)), some (.int (nI (gm_as (gm_t M 0) p pl (Ln pl) (Fb pl) (gm_ro (gm_t M 0) p Ln Fb (gm_t M 0, c, 0) pl) 7).2.2)), some (.int (nI (pl + 1))), some (.int (nI 7))] [] (gm_as (gm_t M 0) p pl (Ln pl) (Fb pl) (gm_ro (gm_t M 0) p Ln Fb (gm_t M 0, c, 0) pl) 7).1 at ih
      generalize (if pl = 0 then none else some (Value.int (nI 7))) = z4'
      generalize gm_ro (gm_t M 0) p Ln Fb (gm_t M 0, c, 0) pl = T at hI ih
      have hJ := gm_as_inv (p := p) (pl := pl) (len := Ln pl) (f := Fb pl) hI
      refine zx_iload_n (pc2 := 76) d_Mo_resend_75 rfl rfl ?_
      refine zx_bipush (pc2 := 78) (v := nI 8) d_Mo_resend_76 rfl (by decide) ?_
      refine zx_icmp_ge (pc2 := 81) d_Mo_resend_78 rfl (tgt := 157) (by decide) (fun cz => absurd cz (nI_ge hpl (by decide))) (fun _ => ?_)
      refine zx_aload_n (pc2 := 82) d_Mo_resend_81 rfl rfl ?_
      refine zm_getR (pc2 := 85) f_Mo_36 d_Mo_resend_82 rfl zl_c546 rfl ?_
      refine zx_iload_n (pc2 := 86) d_Mo_resend_85 rfl rfl ?_
      refine zk_ialdV (pc2 := 87) d_Mo_resend_86 rfl (by rfl) rfl (by omega) (by decide) ((hv T 553 p hI (by decide) (by decide) (by decide)).trans hph) ?_
      refine zx_iconst (pc2 := 88) (v := nI 2) d_Mo_resend_87 rfl (by decide) ?_
      refine zx_icmp_ne (pc2 := 91) d_Mo_resend_88 rfl (tgt := 157) (by decide) (fun cz => absurd (rfl) cz) (fun _ => ?_)
      refine zx_iconst (pc2 := 92) (v := nI 0) d_Mo_resend_91 rfl (by decide) ?_
      refine zx_ist4 (pc2 := 94) d_Mo_resend_92 rfl rfl (by decide) ?_
      generalize gm_ro (gm_t M 0) p Ln Fb (gm_t M 0, c, 0) 8 = TE at ih
      refine zx_for (X := fun s => zk_X l D ar b Z y_Mo_resend 3 (some (.int (nI TE.2.2))) TE.1 n 94 [some (.ref (b + 546)), some (.int (nI p)), some (.int (nI (gm_as (gm_t M 0) p pl (Ln pl) (Fb pl) T s).2.2)), some (.int (nI pl)), some (.int (nI s))] [] (gm_as (gm_t M 0) p pl (Ln pl) (Fb pl) T s).1) 7 ?_ ?_ 0 (Nat.zero_le _)
      · refine zx_iload (pc2 := 96) d_Mo_resend_94 rfl rfl ?_
        refine zx_bipush (pc2 := 98) (v := nI 7) d_Mo_resend_96 rfl (by decide) ?_
        refine zx_icmp_ge (pc2 := 101) d_Mo_resend_98 rfl (tgt := 151) (by decide) (fun _ => ?_) (fun cz => absurd (nI_le (Nat.le_refl 7) (by decide)) cz)
        refine zx_inc3 (pc2 := 154) d_Mo_resend_151 rfl (zk_1 _) rfl (by decide) ?_
        refine zx_goto (tgt := 75) d_Mo_resend_154 (by decide) ?_
        exact ih
      · intro s hs ih2
        obtain ⟨i1, i2, i3⟩ := hJ s
        have hg := fun r x (h1 : r ≠ 551) (h2 : r ≠ 552) (h3 : r ≠ 546) => hv (gm_as (gm_t M 0) p pl (Ln pl) (Fb pl) T s) r x (hJ s) h1 h2 h3
        have e0 : zm_I (gm_t M 0) 560 (8 * p + pl) = zm_I M 560 (8 * p + pl) := gt_t (Or.inl (by decide))
        have e2 : zm_I (gm_t M 0) 562 (8 * p + pl) = zm_I M 562 (8 * p + pl) := gt_t (Or.inl (by decide))
        by_cases c0 : zm_I M 560 (8 * p + pl) = 0
        · have eS : gm_as (gm_t M 0) p pl (Ln pl) (Fb pl) T (s + 1) = gm_as (gm_t M 0) p pl (Ln pl) (Fb pl) T s := if_neg (fun z => z.1.1 (e0.trans c0))
          rw [eS] at ih2
          refine zx_iload (pc2 := 96) d_Mo_resend_94 rfl rfl ?_
          refine zx_bipush (pc2 := 98) (v := nI 7) d_Mo_resend_96 rfl (by decide) ?_
          refine zx_icmp_ge (pc2 := 101) d_Mo_resend_98 rfl (tgt := 151) (by decide) (fun cz => absurd cz (nI_ge hs (by decide))) (fun _ => ?_)
          refine zx_aload_n (pc2 := 102) d_Mo_resend_101 rfl rfl ?_
          refine zm_getR (pc2 := 105) f_Mo_57 d_Mo_resend_102 rfl zl_c546 rfl ?_
          refine zx_bipush (pc2 := 107) (v := nI 8) d_Mo_resend_105 rfl (by decide) ?_
          refine zx_iload_n (pc2 := 108) d_Mo_resend_107 rfl rfl ?_
          first | refine zx_imulN (pc2 := 109) d_Mo_resend_108 rfl ?_ | refine zx_imul (pc2 := 109) d_Mo_resend_108 rfl ?_
          refine zx_iload_n (pc2 := 110) d_Mo_resend_109 rfl rfl ?_
          first | refine zx_iaddN (pc2 := 111) d_Mo_resend_110 rfl ?_ | refine zx_iadd (pc2 := 111) d_Mo_resend_110 rfl ?_
          refine zk_ialdV (pc2 := 112) d_Mo_resend_111 rfl (by rfl) rfl (by omega) (by decide) (hg 560 _ (by decide) (by decide) (by decide)) ?_
          refine zx_if_eq (pc2 := 115) d_Mo_resend_112 rfl (tgt := 145) (by decide) (fun _ => ?_) (fun cz => absurd (c0) cz)
          refine zx_inc4 (pc2 := 148) d_Mo_resend_145 rfl (zk_1 _) rfl (by decide) ?_
          refine zx_goto (tgt := 94) d_Mo_resend_148 (by decide) ?_
          exact ih2
        · obtain ⟨w1, w2, w3⟩ := hw pl hpl c0
          by_cases c1 : (zm_I M 562 (8 * p + pl) >>> (nI s &&& 31)) &&& nI 1 = 0
          · by_cases h : (gm_as (gm_t M 0) p pl (Ln pl) (Fb pl) T s).2.1 < 60
            · have eS : gm_as (gm_t M 0) p pl (Ln pl) (Fb pl) T (s + 1) = _ := if_pos ⟨⟨fun z => c0 (e0.symm.trans z), by rw [e2]; exact c1⟩, h⟩
              rw [eS] at ih2
              dsimp only at ih2
              refine zx_iload (pc2 := 96) d_Mo_resend_94 rfl rfl ?_
              refine zx_bipush (pc2 := 98) (v := nI 7) d_Mo_resend_96 rfl (by decide) ?_
              refine zx_icmp_ge (pc2 := 101) d_Mo_resend_98 rfl (tgt := 151) (by decide) (fun cz => absurd cz (nI_ge hs (by decide))) (fun _ => ?_)
              refine zx_aload_n (pc2 := 102) d_Mo_resend_101 rfl rfl ?_
              refine zm_getR (pc2 := 105) f_Mo_57 d_Mo_resend_102 rfl zl_c546 rfl ?_
              refine zx_bipush (pc2 := 107) (v := nI 8) d_Mo_resend_105 rfl (by decide) ?_
              refine zx_iload_n (pc2 := 108) d_Mo_resend_107 rfl rfl ?_
              first | refine zx_imulN (pc2 := 109) d_Mo_resend_108 rfl ?_ | refine zx_imul (pc2 := 109) d_Mo_resend_108 rfl ?_
              refine zx_iload_n (pc2 := 110) d_Mo_resend_109 rfl rfl ?_
              first | refine zx_iaddN (pc2 := 111) d_Mo_resend_110 rfl ?_ | refine zx_iadd (pc2 := 111) d_Mo_resend_110 rfl ?_
              refine zk_ialdV (pc2 := 112) d_Mo_resend_111 rfl (by rfl) rfl (by omega) (by decide) (hg 560 _ (by decide) (by decide) (by decide)) ?_
              refine zx_if_eq (pc2 := 115) d_Mo_resend_112 rfl (tgt := 145) (by decide) (fun cz => absurd cz (c0)) (fun _ => ?_)
              refine zx_aload_n (pc2 := 116) d_Mo_resend_115 rfl rfl ?_
              refine zm_getR (pc2 := 119) f_Mo_63 d_Mo_resend_116 rfl zl_c546 rfl ?_
              refine zx_bipush (pc2 := 121) (v := nI 8) d_Mo_resend_119 rfl (by decide) ?_
              refine zx_iload_n (pc2 := 122) d_Mo_resend_121 rfl rfl ?_
              first | refine zx_imulN (pc2 := 123) d_Mo_resend_122 rfl ?_ | refine zx_imul (pc2 := 123) d_Mo_resend_122 rfl ?_
              refine zx_iload_n (pc2 := 124) d_Mo_resend_123 rfl rfl ?_
              first | refine zx_iaddN (pc2 := 125) d_Mo_resend_124 rfl ?_ | refine zx_iadd (pc2 := 125) d_Mo_resend_124 rfl ?_
              refine zk_ialdV (pc2 := 126) d_Mo_resend_125 rfl (by rfl) rfl (by omega) (by decide) (hg 562 _ (by decide) (by decide) (by decide)) ?_
              refine zx_iload (pc2 := 128) d_Mo_resend_126 rfl rfl ?_
              refine zx_ishr (pc2 := 129) d_Mo_resend_128 rfl ?_
              refine zx_iconst (pc2 := 130) (v := nI 1) d_Mo_resend_129 rfl (by decide) ?_
              refine zx_iand (pc2 := 131) d_Mo_resend_130 rfl ?_
              refine zx_if_ne (pc2 := 134) d_Mo_resend_131 rfl (tgt := 145) (by decide) (fun cz => absurd (c1) cz) (fun _ => ?_)
              refine zx_iload_n (pc2 := 135) d_Mo_resend_134 rfl rfl ?_
              refine zx_aload_n (pc2 := 136) d_Mo_resend_135 rfl rfl ?_
              refine zx_iload_n (pc2 := 137) d_Mo_resend_136 rfl rfl ?_
              refine zx_iload_n (pc2 := 138) d_Mo_resend_137 rfl rfl ?_
              refine zx_iload (pc2 := 140) d_Mo_resend_138 rfl rfl ?_
              refine zk_callV (pc2 := 143) s_Mo_122 v_Mo_accept (zl_c546) (c_Mo_accept1 (gt_fr (fun r x h1 h2 h3 => hg r x h1 h2 h3) hT) i1 h hp hpl hs ((hg _ _ (by decide) (by decide) (by decide)).trans w1) w2 (fun x hx => ⟨(hg _ _ (by decide) (by decide) (by decide)).trans (w3 x hx).1, (w3 x hx).2⟩)) d_Mo_resend_140 rfl rfl rfl (Nat.le_of_ble_eq_true rfl) (by decide) (by decide) ?_
              first | refine zx_iaddN (pc2 := 144) d_Mo_resend_143 rfl ?_ | refine zx_iadd (pc2 := 144) d_Mo_resend_143 rfl ?_
              refine zx_ist2 (pc2 := 145) d_Mo_resend_144 rfl rfl (by decide) ?_
              refine zx_inc4 (pc2 := 148) d_Mo_resend_145 rfl (zk_1 _) rfl (by decide) ?_
              refine zx_goto (tgt := 94) d_Mo_resend_148 (by decide) ?_
              exact ih2
            · have eS : gm_as (gm_t M 0) p pl (Ln pl) (Fb pl) T (s + 1) = gm_as (gm_t M 0) p pl (Ln pl) (Fb pl) T s := if_neg (fun z => h z.2)
              rw [eS] at ih2
              rw [show (gm_as (gm_t M 0) p pl (Ln pl) (Fb pl) T s).2.1 = 60 by omega] at i1
              refine zx_iload (pc2 := 96) d_Mo_resend_94 rfl rfl ?_
              refine zx_bipush (pc2 := 98) (v := nI 7) d_Mo_resend_96 rfl (by decide) ?_
              refine zx_icmp_ge (pc2 := 101) d_Mo_resend_98 rfl (tgt := 151) (by decide) (fun cz => absurd cz (nI_ge hs (by decide))) (fun _ => ?_)
              refine zx_aload_n (pc2 := 102) d_Mo_resend_101 rfl rfl ?_
              refine zm_getR (pc2 := 105) f_Mo_57 d_Mo_resend_102 rfl zl_c546 rfl ?_
              refine zx_bipush (pc2 := 107) (v := nI 8) d_Mo_resend_105 rfl (by decide) ?_
              refine zx_iload_n (pc2 := 108) d_Mo_resend_107 rfl rfl ?_
              first | refine zx_imulN (pc2 := 109) d_Mo_resend_108 rfl ?_ | refine zx_imul (pc2 := 109) d_Mo_resend_108 rfl ?_
              refine zx_iload_n (pc2 := 110) d_Mo_resend_109 rfl rfl ?_
              first | refine zx_iaddN (pc2 := 111) d_Mo_resend_110 rfl ?_ | refine zx_iadd (pc2 := 111) d_Mo_resend_110 rfl ?_
              refine zk_ialdV (pc2 := 112) d_Mo_resend_111 rfl (by rfl) rfl (by omega) (by decide) (hg 560 _ (by decide) (by decide) (by decide)) ?_
              refine zx_if_eq (pc2 := 115) d_Mo_resend_112 rfl (tgt := 145) (by decide) (fun cz => absurd cz (c0)) (fun _ => ?_)
              refine zx_aload_n (pc2 := 116) d_Mo_resend_115 rfl rfl ?_
              refine zm_getR (pc2 := 119) f_Mo_63 d_Mo_resend_116 rfl zl_c546 rfl ?_
              refine zx_bipush (pc2 := 121) (v := nI 8) d_Mo_resend_119 rfl (by decide) ?_
              refine zx_iload_n (pc2 := 122) d_Mo_resend_121 rfl rfl ?_
              first | refine zx_imulN (pc2 := 123) d_Mo_resend_122 rfl ?_ | refine zx_imul (pc2 := 123) d_Mo_resend_122 rfl ?_
              refine zx_iload_n (pc2 := 124) d_Mo_resend_123 rfl rfl ?_
              first | refine zx_iaddN (pc2 := 125) d_Mo_resend_124 rfl ?_ | refine zx_iadd (pc2 := 125) d_Mo_resend_124 rfl ?_
              refine zk_ialdV (pc2 := 126) d_Mo_resend_125 rfl (by rfl) rfl (by omega) (by decide) (hg 562 _ (by decide) (by decide) (by decide)) ?_
              refine zx_iload (pc2 := 128) d_Mo_resend_126 rfl rfl ?_
              refine zx_ishr (pc2 := 129) d_Mo_resend_128 rfl ?_
              refine zx_iconst (pc2 := 130) (v := nI 1) d_Mo_resend_129 rfl (by decide) ?_
              refine zx_iand (pc2 := 131) d_Mo_resend_130 rfl ?_
              refine zx_if_ne (pc2 := 134) d_Mo_resend_131 rfl (tgt := 145) (by decide) (fun cz => absurd (c1) cz) (fun _ => ?_)
              refine zx_iload_n (pc2 := 135) d_Mo_resend_134 rfl rfl ?_
              refine zx_aload_n (pc2 := 136) d_Mo_resend_135 rfl rfl ?_
              refine zx_iload_n (pc2 := 137) d_Mo_resend_136 rfl rfl ?_
              refine zx_iload_n (pc2 := 138) d_Mo_resend_137 rfl rfl ?_
              refine zx_iload (pc2 := 140) d_Mo_resend_138 rfl rfl ?_
              refine zk_callV (pc2 := 143) s_Mo_122 v_Mo_accept (zl_c546) (c_Mo_accept0 hp i1) d_Mo_resend_140 rfl rfl rfl (Nat.le_of_ble_eq_true rfl) (by decide) (by decide) ?_
              first | refine zx_iaddN (pc2 := 144) d_Mo_resend_143 rfl ?_ | refine zx_iadd (pc2 := 144) d_Mo_resend_143 rfl ?_
              refine zx_ist2 (pc2 := 145) d_Mo_resend_144 rfl rfl (by decide) ?_
              refine zx_inc4 (pc2 := 148) d_Mo_resend_145 rfl (zk_1 _) rfl (by decide) ?_
              refine zx_goto (tgt := 94) d_Mo_resend_148 (by decide) ?_
              exact ih2
          · have eS : gm_as (gm_t M 0) p pl (Ln pl) (Fb pl) T (s + 1) = gm_as (gm_t M 0) p pl (Ln pl) (Fb pl) T s := if_neg (fun z => c1 (by rw [← e2]; exact z.1.2))
            rw [eS] at ih2
            refine zx_iload (pc2 := 96) d_Mo_resend_94 rfl rfl ?_
            refine zx_bipush (pc2 := 98) (v := nI 7) d_Mo_resend_96 rfl (by decide) ?_
            refine zx_icmp_ge (pc2 := 101) d_Mo_resend_98 rfl (tgt := 151) (by decide) (fun cz => absurd cz (nI_ge hs (by decide))) (fun _ => ?_)
            refine zx_aload_n (pc2 := 102) d_Mo_resend_101 rfl rfl ?_
            refine zm_getR (pc2 := 105) f_Mo_57 d_Mo_resend_102 rfl zl_c546 rfl ?_
            refine zx_bipush (pc2 := 107) (v := nI 8) d_Mo_resend_105 rfl (by decide) ?_
            refine zx_iload_n (pc2 := 108) d_Mo_resend_107 rfl rfl ?_
            first | refine zx_imulN (pc2 := 109) d_Mo_resend_108 rfl ?_ | refine zx_imul (pc2 := 109) d_Mo_resend_108 rfl ?_
            refine zx_iload_n (pc2 := 110) d_Mo_resend_109 rfl rfl ?_
            first | refine zx_iaddN (pc2 := 111) d_Mo_resend_110 rfl ?_ | refine zx_iadd (pc2 := 111) d_Mo_resend_110 rfl ?_
            refine zk_ialdV (pc2 := 112) d_Mo_resend_111 rfl (by rfl) rfl (by omega) (by decide) (hg 560 _ (by decide) (by decide) (by decide)) ?_
            refine zx_if_eq (pc2 := 115) d_Mo_resend_112 rfl (tgt := 145) (by decide) (fun cz => absurd cz (c0)) (fun _ => ?_)
            refine zx_aload_n (pc2 := 116) d_Mo_resend_115 rfl rfl ?_
            refine zm_getR (pc2 := 119) f_Mo_63 d_Mo_resend_116 rfl zl_c546 rfl ?_
            refine zx_bipush (pc2 := 121) (v := nI 8) d_Mo_resend_119 rfl (by decide) ?_
            refine zx_iload_n (pc2 := 122) d_Mo_resend_121 rfl rfl ?_
            first | refine zx_imulN (pc2 := 123) d_Mo_resend_122 rfl ?_ | refine zx_imul (pc2 := 123) d_Mo_resend_122 rfl ?_
            refine zx_iload_n (pc2 := 124) d_Mo_resend_123 rfl rfl ?_
            first | refine zx_iaddN (pc2 := 125) d_Mo_resend_124 rfl ?_ | refine zx_iadd (pc2 := 125) d_Mo_resend_124 rfl ?_
            refine zk_ialdV (pc2 := 126) d_Mo_resend_125 rfl (by rfl) rfl (by omega) (by decide) (hg 562 _ (by decide) (by decide) (by decide)) ?_
            refine zx_iload (pc2 := 128) d_Mo_resend_126 rfl rfl ?_
            refine zx_ishr (pc2 := 129) d_Mo_resend_128 rfl ?_
            refine zx_iconst (pc2 := 130) (v := nI 1) d_Mo_resend_129 rfl (by decide) ?_
            refine zx_iand (pc2 := 131) d_Mo_resend_130 rfl ?_
            refine zx_if_ne (pc2 := 134) d_Mo_resend_131 rfl (tgt := 145) (by decide) (fun _ => ?_) (fun cz => absurd cz (c1))
            refine zx_inc4 (pc2 := 148) d_Mo_resend_145 rfl (zk_1 _) rfl (by decide) ?_
            refine zx_goto (tgt := 94) d_Mo_resend_148 (by decide) ?_
            exact ih2
  exact key none rfl 0 (Nat.zero_le _)
theorem c_Mo_resend0 {p : Nat} (hp : p < 2) (h1 : zm_I M 553 p ≠ nI 1) (h2 : zm_I M 553 p ≠ nI 2) : zK l D ar b Z y_Mo_resend 3 [.ref (b + 546), .int (nI p)] M n (some (.int (nI 0))) (gm_t M 0) := by
  refine zk_entry (L := [some (.ref (b + 546)), some (.int (nI p)), none, none, none]) rfl rfl (Nat.le_of_ble_eq_true rfl) rfl rfl ?_
  refine zx_aload_n (pc2 := 1) d_Mo_resend_0 rfl rfl ?_
  refine zx_iload_n (pc2 := 2) d_Mo_resend_1 rfl rfl ?_
  refine zk_callS (pc2 := 5) s_Mo_158 t_Mo_noProposer (c_Mo_noP0 hp) d_Mo_resend_2 rfl rfl rfl (Nat.le_of_ble_eq_true rfl) (by decide) (by decide) ?_
  refine zx_if_eq (pc2 := 8) d_Mo_resend_5 rfl (tgt := 12) (by decide) (fun _ => ?_) (fun cz => absurd (by decide) cz)
  refine zx_iconst (pc2 := 13) (v := nI 0) d_Mo_resend_12 rfl (by decide) ?_
  refine zm_putI (pc2 := 16) p_Mo_7 d_Mo_resend_13 rfl zl_c546 rfl rfl rfl ?_
  refine zx_aload_n (pc2 := 17) d_Mo_resend_16 rfl rfl ?_
  refine zm_getV (pc2 := 20) f_Mo_7 d_Mo_resend_17 rfl zl_c546 rfl (zm_Is) ?_
  refine zx_if_eq (pc2 := 23) d_Mo_resend_20 rfl (tgt := 25) (by decide) (fun _ => ?_) (fun cz => absurd (by decide) cz)
  refine zx_iconst (pc2 := 26) (v := nI 0) d_Mo_resend_25 rfl (by decide) ?_
  refine zx_ist2 (pc2 := 27) d_Mo_resend_26 rfl rfl (by decide) ?_
  refine zx_iconst (pc2 := 28) (v := nI 0) d_Mo_resend_27 rfl (by decide) ?_
  refine zx_ist3 (pc2 := 29) d_Mo_resend_28 rfl rfl (by decide) ?_
  refine zx_iload_n (pc2 := 30) d_Mo_resend_29 rfl rfl ?_
  refine zx_bipush (pc2 := 32) (v := nI 7) d_Mo_resend_30 rfl (by decide) ?_
  refine zx_icmp_ge (pc2 := 35) d_Mo_resend_32 rfl (tgt := 73) (by decide) (fun cz => absurd cz (nI_ge (by decide) (by decide))) (fun _ => ?_)
  refine zx_aload_n (pc2 := 36) d_Mo_resend_35 rfl rfl ?_
  refine zm_getR (pc2 := 39) f_Mo_36 d_Mo_resend_36 rfl zl_c546 rfl ?_
  refine zx_iload_n (pc2 := 40) d_Mo_resend_39 rfl rfl ?_
  refine zk_ialdV (pc2 := 41) d_Mo_resend_40 rfl (by rfl) rfl (by omega) (by decide) (gt_t (Or.inl (by decide))) ?_
  refine zx_iconst (pc2 := 42) (v := nI 1) d_Mo_resend_41 rfl (by decide) ?_
  refine zx_icmp_ne (pc2 := 45) d_Mo_resend_42 rfl (tgt := 73) (by decide) (fun _ => ?_) (fun cz => absurd cz (h1))
  refine zx_iconst (pc2 := 74) (v := nI 0) d_Mo_resend_73 rfl (by decide) ?_
  refine zx_ist3 (pc2 := 75) d_Mo_resend_74 rfl rfl (by decide) ?_
  refine zx_iload_n (pc2 := 76) d_Mo_resend_75 rfl rfl ?_
  refine zx_bipush (pc2 := 78) (v := nI 8) d_Mo_resend_76 rfl (by decide) ?_
  refine zx_icmp_ge (pc2 := 81) d_Mo_resend_78 rfl (tgt := 157) (by decide) (fun cz => absurd cz (nI_ge (by decide) (by decide))) (fun _ => ?_)
  refine zx_aload_n (pc2 := 82) d_Mo_resend_81 rfl rfl ?_
  refine zm_getR (pc2 := 85) f_Mo_36 d_Mo_resend_82 rfl zl_c546 rfl ?_
  refine zx_iload_n (pc2 := 86) d_Mo_resend_85 rfl rfl ?_
  refine zk_ialdV (pc2 := 87) d_Mo_resend_86 rfl (by rfl) rfl (by omega) (by decide) (gt_t (Or.inl (by decide))) ?_
  refine zx_iconst (pc2 := 88) (v := nI 2) d_Mo_resend_87 rfl (by decide) ?_
  refine zx_icmp_ne (pc2 := 91) d_Mo_resend_88 rfl (tgt := 157) (by decide) (fun _ => ?_) (fun cz => absurd cz (h2))
  refine zx_iload_n (pc2 := 158) d_Mo_resend_157 rfl rfl ?_
  exact zx_iret d_Mo_resend_158 rfl (⟨rfl, rfl, rfl⟩)
theorem x_Mo_resend {x : Int32} (hx : x < 0 ∨ nI 2 ≤ x) : zK l D ar b Z y_Mo_resend 3 [.ref (b + 546), .int x] M n (some (.int (nI 0))) (gm_t M 1) := by
  refine zk_entry (L := [some (.ref (b + 546)), some (.int x), none, none, none]) rfl rfl (Nat.le_of_ble_eq_true rfl) rfl rfl ?_
  refine zx_aload_n (pc2 := 1) d_Mo_resend_0 rfl rfl ?_
  refine zx_iload_n (pc2 := 2) d_Mo_resend_1 rfl rfl ?_
  refine zk_callS (pc2 := 5) s_Mo_158 t_Mo_noProposer (c_Mo_noP1 hx) d_Mo_resend_2 rfl rfl rfl (Nat.le_of_ble_eq_true rfl) (by decide) (by decide) ?_
  refine zx_if_eq (pc2 := 8) d_Mo_resend_5 rfl (tgt := 12) (by decide) (fun cz => absurd cz (by decide)) (fun _ => ?_)
  refine zx_iconst (pc2 := 9) (v := nI 1) d_Mo_resend_8 rfl (by decide) ?_
  refine zx_goto (tgt := 13) d_Mo_resend_9 (by decide) ?_
  refine zm_putI (pc2 := 16) p_Mo_7 d_Mo_resend_13 rfl zl_c546 rfl rfl rfl ?_
  refine zx_aload_n (pc2 := 17) d_Mo_resend_16 rfl rfl ?_
  refine zm_getV (pc2 := 20) f_Mo_7 d_Mo_resend_17 rfl zl_c546 rfl (zm_Is) ?_
  refine zx_if_eq (pc2 := 23) d_Mo_resend_20 rfl (tgt := 25) (by decide) (fun cz => absurd cz (by decide)) (fun _ => ?_)
  refine zx_iconst (pc2 := 24) (v := nI 0) d_Mo_resend_23 rfl (by decide) ?_
  exact zx_iret d_Mo_resend_24 rfl (⟨rfl, rfl, rfl⟩)
end C58
