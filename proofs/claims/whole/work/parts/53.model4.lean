/-! LogHouseModel: doubling a letter; what state, station and share answer -/
section C53
variable {l : Launch} {D : va_G} {ar : Nat → ClassId} {b : Nat} {Z : State → Prop} {M : zm_M} {n : Nat}
theorem c_Mo_twin {i c : Nat} (hc : zm_I M 546 5 = nI c) (h60 : c < 60) (hi : i < c) : zK l D ar b Z y_Mo_twin 1 [.ref (b + 546), .int (nI i)] M n none (gm_tw M i c) := by
  have hc' : zm_I (gm_t M 0) 546 5 = nI c := (zm_In (Or.inr (by decide))).trans hc
  refine zk_entry (L := [some (.ref (b + 546)), some (.int (nI i)), none]) rfl rfl (Nat.le_of_ble_eq_true rfl) rfl rfl ?_
  refine zx_aload_n (pc2 := 1) d_Mo_twin_0 rfl rfl ?_
  refine zx_aload_n (pc2 := 2) d_Mo_twin_1 rfl rfl ?_
  refine zx_iload_n (pc2 := 3) d_Mo_twin_2 rfl rfl ?_
  refine zk_callV (pc2 := 6) s_Mo_168 v_Mo_noLetter (zl_c546) (c_Mo_noL0 hc (by omega) hi) d_Mo_twin_3 rfl rfl rfl (Nat.le_of_ble_eq_true rfl) (by decide) (by decide) ?_
  refine zx_if_eq (pc2 := 9) d_Mo_twin_6 rfl (tgt := 13) (by decide) (fun _ => ?_) (fun cz => absurd (by decide) cz)
  refine zx_aload_n (pc2 := 14) d_Mo_twin_13 rfl rfl ?_
  refine zm_getV (pc2 := 17) f_Mo_27 d_Mo_twin_14 rfl zl_c546 rfl (hc) ?_
  refine zx_bipush (pc2 := 19) (v := nI 60) d_Mo_twin_17 rfl (by decide) ?_
  refine zx_icmp_ne (pc2 := 22) d_Mo_twin_19 rfl (tgt := 26) (by decide) (fun _ => ?_) (fun cz => absurd cz (fun e => absurd (congrArg Int32.toInt e) (by rw [nI_toInt (by omega), nI_toInt (by decide)]; omega)))
  refine zx_iconst (pc2 := 27) (v := nI 0) d_Mo_twin_26 rfl (by decide) ?_
  refine zm_putI (pc2 := 30) p_Mo_7 d_Mo_twin_27 rfl zl_c546 rfl rfl rfl ?_
  refine zx_aload_n (pc2 := 31) d_Mo_twin_30 rfl rfl ?_
  refine zm_getV (pc2 := 34) f_Mo_7 d_Mo_twin_31 rfl zl_c546 rfl (zm_Is) ?_
  refine zx_if_eq (pc2 := 37) d_Mo_twin_34 rfl (tgt := 38) (by decide) (fun _ => ?_) (fun cz => absurd (by decide) cz)
  refine zx_iconst (pc2 := 39) (v := nI 0) d_Mo_twin_38 rfl (by decide) ?_
  refine zx_ist2 (pc2 := 40) d_Mo_twin_39 rfl rfl (by decide) ?_
  have h0 : gm_up (gm_t M 0) 551 (7 * c) 0 (fun x => zm_I M 551 (7 * i + x)) = gm_t M 0 := gm_up0
  refine Eq.mp (congrArg (fun w => zk_X l D ar b Z y_Mo_twin 1 none (gm_tw M i c) n 40 [some (.ref (b + 546)), some (.int (nI i)), some (.int (nI 0))] [] w) h0) ?_
  refine zx_for (X := fun q => zk_X l D ar b Z y_Mo_twin 1 none (gm_tw M i c) n 40 [some (.ref (b + 546)), some (.int (nI i)), some (.int (nI q))] [] (gm_up (gm_t M 0) 551 (7 * c) q (fun x => zm_I M 551 (7 * i + x)))) 7 ?_ ?_ 0 (Nat.zero_le _)
  · refine zx_iload_n (pc2 := 41) d_Mo_twin_40 rfl rfl ?_
    refine zx_bipush (pc2 := 43) (v := nI 7) d_Mo_twin_41 rfl (by decide) ?_
    refine zx_icmp_ge (pc2 := 46) d_Mo_twin_43 rfl (tgt := 77) (by decide) (fun _ => ?_) (fun cz => absurd (nI_le (Nat.le_refl 7) (by decide)) cz)
    refine zx_iconst (pc2 := 78) (v := nI 0) d_Mo_twin_77 rfl (by decide) ?_
    refine zx_ist2 (pc2 := 79) d_Mo_twin_78 rfl rfl (by decide) ?_
    have h1 : gm_up (gm_up (gm_t M 0) 551 (7 * c) 7 (fun x => zm_I M 551 (7 * i + x))) 552 (88 * c) 0 (fun x => zm_I M 552 (88 * i + x)) = gm_up (gm_t M 0) 551 (7 * c) 7 (fun x => zm_I M 551 (7 * i + x)) := gm_up0
    refine Eq.mp (congrArg (fun w => zk_X l D ar b Z y_Mo_twin 1 none (gm_tw M i c) n 79 [some (.ref (b + 546)), some (.int (nI i)), some (.int (nI 0))] [] w) h1) ?_
    refine zx_for (X := fun q => zk_X l D ar b Z y_Mo_twin 1 none (gm_tw M i c) n 79 [some (.ref (b + 546)), some (.int (nI i)), some (.int (nI q))] [] (gm_up (gm_up (gm_t M 0) 551 (7 * c) 7 (fun x => zm_I M 551 (7 * i + x))) 552 (88 * c) q (fun x => zm_I M 552 (88 * i + x)))) 88 ?_ ?_ 0 (Nat.zero_le _)
    · refine zx_iload_n (pc2 := 80) d_Mo_twin_79 rfl rfl ?_
      refine zx_bipush (pc2 := 82) (v := nI 88) d_Mo_twin_80 rfl (by decide) ?_
      refine zx_icmp_ge (pc2 := 85) d_Mo_twin_82 rfl (tgt := 116) (by decide) (fun _ => ?_) (fun cz => absurd (nI_le (Nat.le_refl 88) (by decide)) cz)
      refine zx_aload_n (pc2 := 117) d_Mo_twin_116 rfl rfl ?_
      refine zx_dup (pc2 := 118) d_Mo_twin_117 rfl rfl ?_
      refine zm_getV (pc2 := 121) f_Mo_27 d_Mo_twin_118 rfl zl_c546 rfl ((gm_upn (Or.inl (by decide))).trans ((gm_upn (Or.inl (by decide))).trans hc')) ?_
      refine zx_iconst (pc2 := 122) (v := nI 1) d_Mo_twin_121 rfl (by decide) ?_
      first | refine zx_iaddN (pc2 := 123) d_Mo_twin_122 rfl ?_ | refine zx_iadd (pc2 := 123) d_Mo_twin_122 rfl ?_
      refine zm_putI (pc2 := 126) p_Mo_27 d_Mo_twin_123 rfl zl_c546 rfl rfl rfl ?_
      exact zx_vret d_Mo_twin_126 rfl (⟨rfl, rfl, rfl⟩)
    · intro q hq ih
      rw [← gm_upS] at ih
      refine zx_iload_n (pc2 := 80) d_Mo_twin_79 rfl rfl ?_
      refine zx_bipush (pc2 := 82) (v := nI 88) d_Mo_twin_80 rfl (by decide) ?_
      refine zx_icmp_ge (pc2 := 85) d_Mo_twin_82 rfl (tgt := 116) (by decide) (fun cz => absurd cz (nI_ge hq (by decide))) (fun _ => ?_)
      refine zx_aload_n (pc2 := 86) d_Mo_twin_85 rfl rfl ?_
      refine zm_getR (pc2 := 89) f_Mo_33 d_Mo_twin_86 rfl zl_c546 rfl ?_
      refine zx_bipush (pc2 := 91) (v := nI 88) d_Mo_twin_89 rfl (by decide) ?_
      refine zx_aload_n (pc2 := 92) d_Mo_twin_91 rfl rfl ?_
      refine zm_getV (pc2 := 95) f_Mo_27 d_Mo_twin_92 rfl zl_c546 rfl ((gm_upn (Or.inl (by decide))).trans ((gm_upn (Or.inl (by decide))).trans hc')) ?_
      first | refine zx_imulN (pc2 := 96) d_Mo_twin_95 rfl ?_ | refine zx_imul (pc2 := 96) d_Mo_twin_95 rfl ?_
      refine zx_iload_n (pc2 := 97) d_Mo_twin_96 rfl rfl ?_
      first | refine zx_iaddN (pc2 := 98) d_Mo_twin_97 rfl ?_ | refine zx_iadd (pc2 := 98) d_Mo_twin_97 rfl ?_
      refine zx_aload_n (pc2 := 99) d_Mo_twin_98 rfl rfl ?_
      refine zm_getR (pc2 := 102) f_Mo_33 d_Mo_twin_99 rfl zl_c546 rfl ?_
      refine zx_bipush (pc2 := 104) (v := nI 88) d_Mo_twin_102 rfl (by decide) ?_
      refine zx_iload_n (pc2 := 105) d_Mo_twin_104 rfl rfl ?_
      first | refine zx_imulN (pc2 := 106) d_Mo_twin_105 rfl ?_ | refine zx_imul (pc2 := 106) d_Mo_twin_105 rfl ?_
      refine zx_iload_n (pc2 := 107) d_Mo_twin_106 rfl rfl ?_
      first | refine zx_iaddN (pc2 := 108) d_Mo_twin_107 rfl ?_ | refine zx_iadd (pc2 := 108) d_Mo_twin_107 rfl ?_
      refine zk_ialdV (pc2 := 109) d_Mo_twin_108 rfl (by rfl) rfl (by omega) (by decide) ((gm_upn (Or.inr (Or.inl (by omega)))).trans ((gm_upn (Or.inl (by decide))).trans (zm_In (Or.inl (by decide))))) ?_
      refine zk_iast (pc2 := 110) d_Mo_twin_109 rfl (by rfl) rfl (by omega) (by decide) ?_
      refine zx_inc2 (pc2 := 113) d_Mo_twin_110 rfl (zk_1 _) rfl (by decide) ?_
      refine zx_goto (tgt := 79) d_Mo_twin_113 (by decide) ?_
      exact ih
  · intro q hq ih
    rw [← gm_upS] at ih
    refine zx_iload_n (pc2 := 41) d_Mo_twin_40 rfl rfl ?_
    refine zx_bipush (pc2 := 43) (v := nI 7) d_Mo_twin_41 rfl (by decide) ?_
    refine zx_icmp_ge (pc2 := 46) d_Mo_twin_43 rfl (tgt := 77) (by decide) (fun cz => absurd cz (nI_ge hq (by decide))) (fun _ => ?_)
    refine zx_aload_n (pc2 := 47) d_Mo_twin_46 rfl rfl ?_
    refine zm_getR (pc2 := 50) f_Mo_30 d_Mo_twin_47 rfl zl_c546 rfl ?_
    refine zx_bipush (pc2 := 52) (v := nI 7) d_Mo_twin_50 rfl (by decide) ?_
    refine zx_aload_n (pc2 := 53) d_Mo_twin_52 rfl rfl ?_
    refine zm_getV (pc2 := 56) f_Mo_27 d_Mo_twin_53 rfl zl_c546 rfl ((gm_upn (Or.inl (by decide))).trans hc') ?_
    first | refine zx_imulN (pc2 := 57) d_Mo_twin_56 rfl ?_ | refine zx_imul (pc2 := 57) d_Mo_twin_56 rfl ?_
    refine zx_iload_n (pc2 := 58) d_Mo_twin_57 rfl rfl ?_
    first | refine zx_iaddN (pc2 := 59) d_Mo_twin_58 rfl ?_ | refine zx_iadd (pc2 := 59) d_Mo_twin_58 rfl ?_
    refine zx_aload_n (pc2 := 60) d_Mo_twin_59 rfl rfl ?_
    refine zm_getR (pc2 := 63) f_Mo_30 d_Mo_twin_60 rfl zl_c546 rfl ?_
    refine zx_bipush (pc2 := 65) (v := nI 7) d_Mo_twin_63 rfl (by decide) ?_
    refine zx_iload_n (pc2 := 66) d_Mo_twin_65 rfl rfl ?_
    first | refine zx_imulN (pc2 := 67) d_Mo_twin_66 rfl ?_ | refine zx_imul (pc2 := 67) d_Mo_twin_66 rfl ?_
    refine zx_iload_n (pc2 := 68) d_Mo_twin_67 rfl rfl ?_
    first | refine zx_iaddN (pc2 := 69) d_Mo_twin_68 rfl ?_ | refine zx_iadd (pc2 := 69) d_Mo_twin_68 rfl ?_
    refine zk_ialdV (pc2 := 70) d_Mo_twin_69 rfl (by rfl) rfl (by omega) (by decide) ((gm_upn (Or.inr (Or.inl (by omega)))).trans (zm_In (Or.inl (by decide)))) ?_
    refine zk_iast (pc2 := 71) d_Mo_twin_70 rfl (by rfl) rfl (by omega) (by decide) ?_
    refine zx_inc2 (pc2 := 74) d_Mo_twin_71 rfl (zk_1 _) rfl (by decide) ?_
    refine zx_goto (tgt := 40) d_Mo_twin_74 (by decide) ?_
    exact ih
theorem x_Mo_twin {x : Int32} (hx : x < 0 ∨ zm_I M 546 5 ≤ x) : zK l D ar b Z y_Mo_twin 1 [.ref (b + 546), .int x] M n none (gm_t M 1) := by
  refine zk_entry (L := [some (.ref (b + 546)), some (.int x), none]) rfl rfl (Nat.le_of_ble_eq_true rfl) rfl rfl ?_
  refine zx_aload_n (pc2 := 1) d_Mo_twin_0 rfl rfl ?_
  refine zx_aload_n (pc2 := 2) d_Mo_twin_1 rfl rfl ?_
  refine zx_iload_n (pc2 := 3) d_Mo_twin_2 rfl rfl ?_
  refine zk_callV (pc2 := 6) s_Mo_168 v_Mo_noLetter (zl_c546) (c_Mo_noL1 hx) d_Mo_twin_3 rfl rfl rfl (Nat.le_of_ble_eq_true rfl) (by decide) (by decide) ?_
  refine zx_if_eq (pc2 := 9) d_Mo_twin_6 rfl (tgt := 13) (by decide) (fun cz => absurd cz (by decide)) (fun _ => ?_)
  refine zx_iconst (pc2 := 10) (v := nI 1) d_Mo_twin_9 rfl (by decide) ?_
  refine zx_goto (tgt := 27) d_Mo_twin_10 (by decide) ?_
  refine zm_putI (pc2 := 30) p_Mo_7 d_Mo_twin_27 rfl zl_c546 rfl rfl rfl ?_
  refine zx_aload_n (pc2 := 31) d_Mo_twin_30 rfl rfl ?_
  refine zm_getV (pc2 := 34) f_Mo_7 d_Mo_twin_31 rfl zl_c546 rfl (zm_Is) ?_
  refine zx_if_eq (pc2 := 37) d_Mo_twin_34 rfl (tgt := 38) (by decide) (fun cz => absurd cz (by decide)) (fun _ => ?_)
  exact zx_vret d_Mo_twin_37 rfl (⟨rfl, rfl, rfl⟩)
theorem x_Mo_twinS {i : Nat} (hc : zm_I M 546 5 = nI 60) (hi : i < 60) : zK l D ar b Z y_Mo_twin 1 [.ref (b + 546), .int (nI i)] M n none (gm_t M 2) := by
  refine zk_entry (L := [some (.ref (b + 546)), some (.int (nI i)), none]) rfl rfl (Nat.le_of_ble_eq_true rfl) rfl rfl ?_
  refine zx_aload_n (pc2 := 1) d_Mo_twin_0 rfl rfl ?_
  refine zx_aload_n (pc2 := 2) d_Mo_twin_1 rfl rfl ?_
  refine zx_iload_n (pc2 := 3) d_Mo_twin_2 rfl rfl ?_
  refine zk_callV (pc2 := 6) s_Mo_168 v_Mo_noLetter (zl_c546) (c_Mo_noL0 hc (Nat.le_refl 60) hi) d_Mo_twin_3 rfl rfl rfl (Nat.le_of_ble_eq_true rfl) (by decide) (by decide) ?_
  refine zx_if_eq (pc2 := 9) d_Mo_twin_6 rfl (tgt := 13) (by decide) (fun _ => ?_) (fun cz => absurd (by decide) cz)
  refine zx_aload_n (pc2 := 14) d_Mo_twin_13 rfl rfl ?_
  refine zm_getV (pc2 := 17) f_Mo_27 d_Mo_twin_14 rfl zl_c546 rfl (hc) ?_
  refine zx_bipush (pc2 := 19) (v := nI 60) d_Mo_twin_17 rfl (by decide) ?_
  refine zx_icmp_ne (pc2 := 22) d_Mo_twin_19 rfl (tgt := 26) (by decide) (fun cz => absurd (rfl) cz) (fun _ => ?_)
  refine zx_iconst (pc2 := 23) (v := nI 2) d_Mo_twin_22 rfl (by decide) ?_
  refine zx_goto (tgt := 27) d_Mo_twin_23 (by decide) ?_
  refine zm_putI (pc2 := 30) p_Mo_7 d_Mo_twin_27 rfl zl_c546 rfl rfl rfl ?_
  refine zx_aload_n (pc2 := 31) d_Mo_twin_30 rfl rfl ?_
  refine zm_getV (pc2 := 34) f_Mo_7 d_Mo_twin_31 rfl zl_c546 rfl (zm_Is) ?_
  refine zx_if_eq (pc2 := 37) d_Mo_twin_34 rfl (tgt := 38) (by decide) (fun cz => absurd cz (by decide)) (fun _ => ?_)
  exact zx_vret d_Mo_twin_37 rfl (⟨rfl, rfl, rfl⟩)
theorem c_Mo_hasOf {s pl : Nat} {id : Int32} (hs : s < 7) (hpl : pl < 8) : zK l D ar b Z y_Mo_hasOf 0 [.ref (b + 546), .int (nI s), .int (nI pl), .int id] M n (some (.int (if ¬ zm_I M 550 (88 * s + 11 * pl + 2) ≤ 0 ∧ zm_I M 550 (88 * s + 11 * pl + 1) = id then nI 1 else nI 0))) M := by
  refine zk_entry (L := [some (.ref (b + 546)), some (.int (nI s)), some (.int (nI pl)), some (.int id), none]) rfl rfl (Nat.le_of_ble_eq_true rfl) rfl rfl ?_
  refine zx_bipush (pc2 := 2) (v := nI 88) d_Mo_hasOf_0 rfl (by decide) ?_
  refine zx_iload_n (pc2 := 3) d_Mo_hasOf_2 rfl rfl ?_
  first | refine zx_imulN (pc2 := 4) d_Mo_hasOf_3 rfl ?_ | refine zx_imul (pc2 := 4) d_Mo_hasOf_3 rfl ?_
  refine zx_bipush (pc2 := 6) (v := nI 11) d_Mo_hasOf_4 rfl (by decide) ?_
  refine zx_iload_n (pc2 := 7) d_Mo_hasOf_6 rfl rfl ?_
  first | refine zx_imulN (pc2 := 8) d_Mo_hasOf_7 rfl ?_ | refine zx_imul (pc2 := 8) d_Mo_hasOf_7 rfl ?_
  first | refine zx_iaddN (pc2 := 9) d_Mo_hasOf_8 rfl ?_ | refine zx_iadd (pc2 := 9) d_Mo_hasOf_8 rfl ?_
  refine zx_ist4 (pc2 := 11) d_Mo_hasOf_9 rfl rfl (by decide) ?_
  refine zx_aload_n (pc2 := 12) d_Mo_hasOf_11 rfl rfl ?_
  refine zm_getR (pc2 := 15) f_Mo_24 d_Mo_hasOf_12 rfl zl_c546 rfl ?_
  refine zx_iload (pc2 := 17) d_Mo_hasOf_15 rfl rfl ?_
  refine zx_iconst (pc2 := 18) (v := nI 2) d_Mo_hasOf_17 rfl (by decide) ?_
  first | refine zx_iaddN (pc2 := 19) d_Mo_hasOf_18 rfl ?_ | refine zx_iadd (pc2 := 19) d_Mo_hasOf_18 rfl ?_
  refine zk_iald (pc2 := 20) d_Mo_hasOf_19 rfl (by rfl) rfl (by omega) (by decide) ?_
  refine zx_if_le (pc2 := 23) d_Mo_hasOf_20 rfl (tgt := 40) (by decide) (fun c => ?_) (fun c => ?_)
  · rw [if_neg (fun z => z.1 c)]
    refine zx_iconst (pc2 := 41) (v := nI 0) d_Mo_hasOf_40 rfl (by decide) ?_
    exact zx_zret d_Mo_hasOf_41 rfl rfl (⟨rfl, rfl, rfl⟩)
  · refine zx_aload_n (pc2 := 24) d_Mo_hasOf_23 rfl rfl ?_
    refine zm_getR (pc2 := 27) f_Mo_24 d_Mo_hasOf_24 rfl zl_c546 rfl ?_
    refine zx_iload (pc2 := 29) d_Mo_hasOf_27 rfl rfl ?_
    refine zx_iconst (pc2 := 30) (v := nI 1) d_Mo_hasOf_29 rfl (by decide) ?_
    first | refine zx_iaddN (pc2 := 31) d_Mo_hasOf_30 rfl ?_ | refine zx_iadd (pc2 := 31) d_Mo_hasOf_30 rfl ?_
    refine zk_iald (pc2 := 32) d_Mo_hasOf_31 rfl (by rfl) rfl (by omega) (by decide) ?_
    refine zx_iload_n (pc2 := 33) d_Mo_hasOf_32 rfl rfl ?_
    refine zx_icmp_ne (pc2 := 36) d_Mo_hasOf_33 rfl (tgt := 40) (by decide) (fun c2 => ?_) (fun c2 => ?_)
    · rw [if_neg (fun z => c2 z.2)]
      refine zx_iconst (pc2 := 41) (v := nI 0) d_Mo_hasOf_40 rfl (by decide) ?_
      exact zx_zret d_Mo_hasOf_41 rfl rfl (⟨rfl, rfl, rfl⟩)
    · rw [if_pos ⟨c, c2⟩]
      refine zx_iconst (pc2 := 37) (v := nI 1) d_Mo_hasOf_36 rfl (by decide) ?_
      refine zx_goto (tgt := 41) d_Mo_hasOf_37 (by decide) ?_
      exact zx_zret d_Mo_hasOf_41 rfl rfl (⟨rfl, rfl, rfl⟩)
theorem c_Mo_firstFree {p : Nat} (hp : p < 2) : zK l D ar b Z y_Mo_firstFree 0 [.ref (b + 546), .int (nI p)] M n (some (.int (gs_ff M p))) M := by
  refine zk_entry (L := [some (.ref (b + 546)), some (.int (nI p)), none]) rfl rfl (Nat.le_of_ble_eq_true rfl) rfl rfl ?_
  refine zx_aload_n (pc2 := 1) d_Mo_firstFree_0 rfl rfl ?_
  refine zm_getR (pc2 := 4) f_Mo_36 d_Mo_firstFree_1 rfl zl_c546 rfl ?_
  refine zx_iload_n (pc2 := 5) d_Mo_firstFree_4 rfl rfl ?_
  refine zk_iald (pc2 := 6) d_Mo_firstFree_5 rfl (by rfl) rfl (by omega) (by decide) ?_
  refine zx_iconst (pc2 := 7) (v := nI 2) d_Mo_firstFree_6 rfl (by decide) ?_
  unfold gs_ff
  refine zx_icmp_eq (pc2 := 10) d_Mo_firstFree_7 rfl (tgt := 12) (by decide) (fun c => ?_) (fun c => ?_)
  · rw [if_pos c]
    have key : ∀ k i, i + k = 8 → zk_X l D ar b Z y_Mo_firstFree 0 (some (.int (if gs_ffL M p k i = 8 then -1 else nI (gs_ffL M p k i)))) M n 14 [some (.ref (b + 546)), some (.int (nI p)), some (.int (nI i))] [] M := by
      have fin : ∀ i, i ≤ 8 → zk_X l D ar b Z y_Mo_firstFree 0 (some (.int (if i = 8 then -1 else nI i))) M n 54 [some (.ref (b + 546)), some (.int (nI p)), some (.int (nI i))] [] M := by
        intro i hi
        by_cases c8 : i = 8
        · subst c8
          rw [if_pos rfl]
          refine zx_iload_n (pc2 := 55) d_Mo_firstFree_54 rfl rfl ?_
          refine zx_bipush (pc2 := 57) (v := nI 8) d_Mo_firstFree_55 rfl (by decide) ?_
          refine zx_icmp_ne (pc2 := 60) d_Mo_firstFree_57 rfl (tgt := 64) (by decide) (fun cz => absurd (rfl) cz) (fun _ => ?_)
          refine zx_iconst (pc2 := 61) (v := -1) d_Mo_firstFree_60 rfl (by decide) ?_
          refine zx_goto (tgt := 65) d_Mo_firstFree_61 (by decide) ?_
          exact zx_iret d_Mo_firstFree_65 rfl (⟨rfl, rfl, rfl⟩)
        · rw [if_neg c8]
          refine zx_iload_n (pc2 := 55) d_Mo_firstFree_54 rfl rfl ?_
          refine zx_bipush (pc2 := 57) (v := nI 8) d_Mo_firstFree_55 rfl (by decide) ?_
          refine zx_icmp_ne (pc2 := 60) d_Mo_firstFree_57 rfl (tgt := 64) (by decide) (fun _ => ?_) (fun cz => absurd cz (fun e => absurd (congrArg Int32.toInt e) (by rw [nI_toInt (by omega), nI_toInt (by decide)]; omega)))
          refine zx_iload_n (pc2 := 65) d_Mo_firstFree_64 rfl rfl ?_
          exact zx_iret d_Mo_firstFree_65 rfl (⟨rfl, rfl, rfl⟩)
      intro k
      induction k with
      | zero =>
        intro i hi
        obtain rfl : i = 8 := by omega
        refine zx_iload_n (pc2 := 15) d_Mo_firstFree_14 rfl rfl ?_
        refine zx_bipush (pc2 := 17) (v := nI 8) d_Mo_firstFree_15 rfl (by decide) ?_
        refine zx_icmp_ge (pc2 := 20) d_Mo_firstFree_17 rfl (tgt := 54) (by decide) (fun _ => ?_) (fun cz => absurd (nI_le (Nat.le_refl 8) (by decide)) cz)
        exact fin 8 (Nat.le_refl 8)
      | succ k ih =>
        intro i hi
        by_cases c1 : zm_I M 559 (8 * p + i) = 0
        · by_cases c2 : zm_I M 560 (8 * p + i) = 0
          · rw [show gs_ffL M p (k + 1) i = i from if_pos ⟨c1, c2⟩]
            refine zx_iload_n (pc2 := 15) d_Mo_firstFree_14 rfl rfl ?_
            refine zx_bipush (pc2 := 17) (v := nI 8) d_Mo_firstFree_15 rfl (by decide) ?_
            refine zx_icmp_ge (pc2 := 20) d_Mo_firstFree_17 rfl (tgt := 54) (by decide) (fun cz => absurd cz (nI_ge (by omega) (by decide))) (fun _ => ?_)
            refine zx_aload_n (pc2 := 21) d_Mo_firstFree_20 rfl rfl ?_
            refine zm_getR (pc2 := 24) f_Mo_54 d_Mo_firstFree_21 rfl zl_c546 rfl ?_
            refine zx_bipush (pc2 := 26) (v := nI 8) d_Mo_firstFree_24 rfl (by decide) ?_
            refine zx_iload_n (pc2 := 27) d_Mo_firstFree_26 rfl rfl ?_
            first | refine zx_imulN (pc2 := 28) d_Mo_firstFree_27 rfl ?_ | refine zx_imul (pc2 := 28) d_Mo_firstFree_27 rfl ?_
            refine zx_iload_n (pc2 := 29) d_Mo_firstFree_28 rfl rfl ?_
            first | refine zx_iaddN (pc2 := 30) d_Mo_firstFree_29 rfl ?_ | refine zx_iadd (pc2 := 30) d_Mo_firstFree_29 rfl ?_
            refine zk_iald (pc2 := 31) d_Mo_firstFree_30 rfl (by rfl) rfl (by omega) (by decide) ?_
            refine zx_if_ne (pc2 := 34) d_Mo_firstFree_31 rfl (tgt := 48) (by decide) (fun cz => absurd (c1) cz) (fun _ => ?_)
            refine zx_aload_n (pc2 := 35) d_Mo_firstFree_34 rfl rfl ?_
            refine zm_getR (pc2 := 38) f_Mo_57 d_Mo_firstFree_35 rfl zl_c546 rfl ?_
            refine zx_bipush (pc2 := 40) (v := nI 8) d_Mo_firstFree_38 rfl (by decide) ?_
            refine zx_iload_n (pc2 := 41) d_Mo_firstFree_40 rfl rfl ?_
            first | refine zx_imulN (pc2 := 42) d_Mo_firstFree_41 rfl ?_ | refine zx_imul (pc2 := 42) d_Mo_firstFree_41 rfl ?_
            refine zx_iload_n (pc2 := 43) d_Mo_firstFree_42 rfl rfl ?_
            first | refine zx_iaddN (pc2 := 44) d_Mo_firstFree_43 rfl ?_ | refine zx_iadd (pc2 := 44) d_Mo_firstFree_43 rfl ?_
            refine zk_iald (pc2 := 45) d_Mo_firstFree_44 rfl (by rfl) rfl (by omega) (by decide) ?_
            refine zx_if_eq (pc2 := 48) d_Mo_firstFree_45 rfl (tgt := 54) (by decide) (fun _ => ?_) (fun cz => absurd (c2) cz)
            exact fin i (by omega)
          · rw [show gs_ffL M p (k + 1) i = gs_ffL M p k (i + 1) from if_neg (fun z => c2 z.2)]
            refine zx_iload_n (pc2 := 15) d_Mo_firstFree_14 rfl rfl ?_
            refine zx_bipush (pc2 := 17) (v := nI 8) d_Mo_firstFree_15 rfl (by decide) ?_
            refine zx_icmp_ge (pc2 := 20) d_Mo_firstFree_17 rfl (tgt := 54) (by decide) (fun cz => absurd cz (nI_ge (by omega) (by decide))) (fun _ => ?_)
            refine zx_aload_n (pc2 := 21) d_Mo_firstFree_20 rfl rfl ?_
            refine zm_getR (pc2 := 24) f_Mo_54 d_Mo_firstFree_21 rfl zl_c546 rfl ?_
            refine zx_bipush (pc2 := 26) (v := nI 8) d_Mo_firstFree_24 rfl (by decide) ?_
            refine zx_iload_n (pc2 := 27) d_Mo_firstFree_26 rfl rfl ?_
            first | refine zx_imulN (pc2 := 28) d_Mo_firstFree_27 rfl ?_ | refine zx_imul (pc2 := 28) d_Mo_firstFree_27 rfl ?_
            refine zx_iload_n (pc2 := 29) d_Mo_firstFree_28 rfl rfl ?_
            first | refine zx_iaddN (pc2 := 30) d_Mo_firstFree_29 rfl ?_ | refine zx_iadd (pc2 := 30) d_Mo_firstFree_29 rfl ?_
            refine zk_iald (pc2 := 31) d_Mo_firstFree_30 rfl (by rfl) rfl (by omega) (by decide) ?_
            refine zx_if_ne (pc2 := 34) d_Mo_firstFree_31 rfl (tgt := 48) (by decide) (fun cz => absurd (c1) cz) (fun _ => ?_)
            refine zx_aload_n (pc2 := 35) d_Mo_firstFree_34 rfl rfl ?_
            refine zm_getR (pc2 := 38) f_Mo_57 d_Mo_firstFree_35 rfl zl_c546 rfl ?_
            refine zx_bipush (pc2 := 40) (v := nI 8) d_Mo_firstFree_38 rfl (by decide) ?_
            refine zx_iload_n (pc2 := 41) d_Mo_firstFree_40 rfl rfl ?_
            first | refine zx_imulN (pc2 := 42) d_Mo_firstFree_41 rfl ?_ | refine zx_imul (pc2 := 42) d_Mo_firstFree_41 rfl ?_
            refine zx_iload_n (pc2 := 43) d_Mo_firstFree_42 rfl rfl ?_
            first | refine zx_iaddN (pc2 := 44) d_Mo_firstFree_43 rfl ?_ | refine zx_iadd (pc2 := 44) d_Mo_firstFree_43 rfl ?_
            refine zk_iald (pc2 := 45) d_Mo_firstFree_44 rfl (by rfl) rfl (by omega) (by decide) ?_
            refine zx_if_eq (pc2 := 48) d_Mo_firstFree_45 rfl (tgt := 54) (by decide) (fun cz => absurd cz (c2)) (fun _ => ?_)
            refine zx_inc2 (pc2 := 51) d_Mo_firstFree_48 rfl (zk_1 _) rfl (by decide) ?_
            refine zx_goto (tgt := 14) d_Mo_firstFree_51 (by decide) ?_
            exact ih (i + 1) (by omega)
        · rw [show gs_ffL M p (k + 1) i = gs_ffL M p k (i + 1) from if_neg (fun z => c1 z.1)]
          refine zx_iload_n (pc2 := 15) d_Mo_firstFree_14 rfl rfl ?_
          refine zx_bipush (pc2 := 17) (v := nI 8) d_Mo_firstFree_15 rfl (by decide) ?_
          refine zx_icmp_ge (pc2 := 20) d_Mo_firstFree_17 rfl (tgt := 54) (by decide) (fun cz => absurd cz (nI_ge (by omega) (by decide))) (fun _ => ?_)
          refine zx_aload_n (pc2 := 21) d_Mo_firstFree_20 rfl rfl ?_
          refine zm_getR (pc2 := 24) f_Mo_54 d_Mo_firstFree_21 rfl zl_c546 rfl ?_
          refine zx_bipush (pc2 := 26) (v := nI 8) d_Mo_firstFree_24 rfl (by decide) ?_
          refine zx_iload_n (pc2 := 27) d_Mo_firstFree_26 rfl rfl ?_
          first | refine zx_imulN (pc2 := 28) d_Mo_firstFree_27 rfl ?_ | refine zx_imul (pc2 := 28) d_Mo_firstFree_27 rfl ?_
          refine zx_iload_n (pc2 := 29) d_Mo_firstFree_28 rfl rfl ?_
          first | refine zx_iaddN (pc2 := 30) d_Mo_firstFree_29 rfl ?_ | refine zx_iadd (pc2 := 30) d_Mo_firstFree_29 rfl ?_
          refine zk_iald (pc2 := 31) d_Mo_firstFree_30 rfl (by rfl) rfl (by omega) (by decide) ?_
          refine zx_if_ne (pc2 := 34) d_Mo_firstFree_31 rfl (tgt := 48) (by decide) (fun _ => ?_) (fun cz => absurd cz (c1))
          refine zx_inc2 (pc2 := 51) d_Mo_firstFree_48 rfl (zk_1 _) rfl (by decide) ?_
          refine zx_goto (tgt := 14) d_Mo_firstFree_51 (by decide) ?_
          exact ih (i + 1) (by omega)
    refine zx_iconst (pc2 := 13) (v := nI 0) d_Mo_firstFree_12 rfl (by decide) ?_
    refine zx_ist2 (pc2 := 14) d_Mo_firstFree_13 rfl rfl (by decide) ?_
    exact key 8 0 rfl
  · rw [if_neg c]
    refine zx_iconst (pc2 := 11) (v := -1) d_Mo_firstFree_10 rfl (by decide) ?_
    exact zx_iret d_Mo_firstFree_11 rfl (⟨rfl, rfl, rfl⟩)
def gs_state (M : zm_M) (p k : Nat) : Int32 := if k = 0 then zm_I M 553 p else if k = 1 then zm_I M 554 p else if k = 2 then gs_ff M p else gs_bits (zm_I M 555 p) 7
theorem gs_ff_t {M : zm_M} {e p : Nat} : gs_ff (gm_t M e) p = gs_ff M p := by
  have h1 : ∀ r x, r ≠ 546 → zm_I (gm_t M e) r x = zm_I M r x := fun r x h => zm_In (Or.inl h)
  have h2 : ∀ k i, gs_ffL (gm_t M e) p k i = gs_ffL M p k i := by
    intro k
    induction k with
    | zero => intro i; rfl
    | succ k ih =>
      intro i
      unfold gs_ffL
      rw [h1 _ _ (by decide), h1 _ _ (by decide), ih]
  unfold gs_ff
  rw [h1 _ _ (by decide), h2]
theorem c_Mo_state {p k : Nat} (hp : p < 2) (hk : k < 4) : zK l D ar b Z y_Mo_state 1 [.ref (b + 546), .int (nI p), .int (nI k)] M n (some (.int (gs_state M p k))) (gm_t M 0) := by
  have hff := c_Mo_firstFree (l := l) (D := D) (ar := ar) (b := b) (Z := Z) (M := gm_t M 0) (n := n) hp
  rw [gs_ff_t] at hff
  refine zk_entry (L := [some (.ref (b + 546)), some (.int (nI p)), some (.int (nI k))]) rfl rfl (Nat.le_of_ble_eq_true rfl) rfl rfl ?_
  refine zx_aload_n (pc2 := 1) d_Mo_state_0 rfl rfl ?_
  refine zx_iload_n (pc2 := 2) d_Mo_state_1 rfl rfl ?_
  refine zk_callS (pc2 := 5) s_Mo_158 t_Mo_noProposer (c_Mo_noP0 hp) d_Mo_state_2 rfl rfl rfl (Nat.le_of_ble_eq_true rfl) (by decide) (by decide) ?_
  refine zx_if_ne (pc2 := 8) d_Mo_state_5 rfl (tgt := 17) (by decide) (fun cz => absurd (by decide) cz) (fun _ => ?_)
  refine zx_iload_n (pc2 := 9) d_Mo_state_8 rfl rfl ?_
  refine zx_if_lt (pc2 := 12) d_Mo_state_9 rfl (tgt := 17) (by decide) (fun cz => absurd cz (nI_pos (by omega))) (fun _ => ?_)
  refine zx_iload_n (pc2 := 13) d_Mo_state_12 rfl rfl ?_
  refine zx_iconst (pc2 := 14) (v := nI 3) d_Mo_state_13 rfl (by decide) ?_
  refine zx_icmp_le (pc2 := 17) d_Mo_state_14 rfl (tgt := 21) (by decide) (fun _ => ?_) (fun cz => absurd (nI_le (by omega) (by decide)) cz)
  refine zx_iconst (pc2 := 22) (v := nI 0) d_Mo_state_21 rfl (by decide) ?_
  refine zm_putI (pc2 := 25) p_Mo_7 d_Mo_state_22 rfl zl_c546 rfl rfl rfl ?_
  refine zx_aload_n (pc2 := 26) d_Mo_state_25 rfl rfl ?_
  refine zm_getV (pc2 := 29) f_Mo_7 d_Mo_state_26 rfl zl_c546 rfl (zm_Is) ?_
  refine zx_if_eq (pc2 := 32) d_Mo_state_29 rfl (tgt := 34) (by decide) (fun _ => ?_) (fun cz => absurd (by decide) cz)
  refine zx_iload_n (pc2 := 35) d_Mo_state_34 rfl rfl ?_
  match k, hk with
  | 0, _ =>
    refine zx_if_ne (pc2 := 38) d_Mo_state_35 rfl (tgt := 47) (by decide) (fun cz => absurd (rfl) cz) (fun _ => ?_)
    refine zx_aload_n (pc2 := 39) d_Mo_state_38 rfl rfl ?_
    refine zm_getR (pc2 := 42) f_Mo_36 d_Mo_state_39 rfl zl_c546 rfl ?_
    refine zx_iload_n (pc2 := 43) d_Mo_state_42 rfl rfl ?_
    refine zk_iald (pc2 := 44) d_Mo_state_43 rfl (by rfl) rfl (by omega) (by decide) ?_
    refine zx_goto (tgt := 83) d_Mo_state_44 (by decide) ?_
    exact zx_iret d_Mo_state_83 rfl (⟨rfl, rfl, rfl⟩)
  | 1, _ =>
    refine zx_if_ne (pc2 := 38) d_Mo_state_35 rfl (tgt := 47) (by decide) (fun _ => ?_) (fun cz => absurd cz (by decide))
    refine zx_iload_n (pc2 := 48) d_Mo_state_47 rfl rfl ?_
    refine zx_iconst (pc2 := 49) (v := nI 1) d_Mo_state_48 rfl (by decide) ?_
    refine zx_icmp_ne (pc2 := 52) d_Mo_state_49 rfl (tgt := 61) (by decide) (fun cz => absurd (rfl) cz) (fun _ => ?_)
    refine zx_aload_n (pc2 := 53) d_Mo_state_52 rfl rfl ?_
    refine zm_getR (pc2 := 56) f_Mo_39 d_Mo_state_53 rfl zl_c546 rfl ?_
    refine zx_iload_n (pc2 := 57) d_Mo_state_56 rfl rfl ?_
    refine zk_iald (pc2 := 58) d_Mo_state_57 rfl (by rfl) rfl (by omega) (by decide) ?_
    refine zx_goto (tgt := 83) d_Mo_state_58 (by decide) ?_
    exact zx_iret d_Mo_state_83 rfl (⟨rfl, rfl, rfl⟩)
  | 2, _ =>
    refine zx_if_ne (pc2 := 38) d_Mo_state_35 rfl (tgt := 47) (by decide) (fun _ => ?_) (fun cz => absurd cz (by decide))
    refine zx_iload_n (pc2 := 48) d_Mo_state_47 rfl rfl ?_
    refine zx_iconst (pc2 := 49) (v := nI 1) d_Mo_state_48 rfl (by decide) ?_
    refine zx_icmp_ne (pc2 := 52) d_Mo_state_49 rfl (tgt := 61) (by decide) (fun _ => ?_) (fun cz => absurd cz (by decide))
    refine zx_iload_n (pc2 := 62) d_Mo_state_61 rfl rfl ?_
    refine zx_iconst (pc2 := 63) (v := nI 2) d_Mo_state_62 rfl (by decide) ?_
    refine zx_icmp_ne (pc2 := 66) d_Mo_state_63 rfl (tgt := 74) (by decide) (fun cz => absurd (rfl) cz) (fun _ => ?_)
    refine zx_aload_n (pc2 := 67) d_Mo_state_66 rfl rfl ?_
    refine zx_iload_n (pc2 := 68) d_Mo_state_67 rfl rfl ?_
    refine zk_callV (pc2 := 71) s_Mo_165 v_Mo_firstFree (zl_c546) (hff) d_Mo_state_68 rfl rfl rfl (Nat.le_of_ble_eq_true rfl) (by decide) (by decide) ?_
    refine zx_goto (tgt := 83) d_Mo_state_71 (by decide) ?_
    exact zx_iret d_Mo_state_83 rfl (⟨rfl, rfl, rfl⟩)
  | 3, _ =>
    refine zx_if_ne (pc2 := 38) d_Mo_state_35 rfl (tgt := 47) (by decide) (fun _ => ?_) (fun cz => absurd cz (by decide))
    refine zx_iload_n (pc2 := 48) d_Mo_state_47 rfl rfl ?_
    refine zx_iconst (pc2 := 49) (v := nI 1) d_Mo_state_48 rfl (by decide) ?_
    refine zx_icmp_ne (pc2 := 52) d_Mo_state_49 rfl (tgt := 61) (by decide) (fun _ => ?_) (fun cz => absurd cz (by decide))
    refine zx_iload_n (pc2 := 62) d_Mo_state_61 rfl rfl ?_
    refine zx_iconst (pc2 := 63) (v := nI 2) d_Mo_state_62 rfl (by decide) ?_
    refine zx_icmp_ne (pc2 := 66) d_Mo_state_63 rfl (tgt := 74) (by decide) (fun _ => ?_) (fun cz => absurd cz (by decide))
    refine zx_aload_n (pc2 := 75) d_Mo_state_74 rfl rfl ?_
    refine zm_getR (pc2 := 78) f_Mo_42 d_Mo_state_75 rfl zl_c546 rfl ?_
    refine zx_iload_n (pc2 := 79) d_Mo_state_78 rfl rfl ?_
    refine zk_iald (pc2 := 80) d_Mo_state_79 rfl (by rfl) rfl (by omega) (by decide) ?_
    refine zk_callS (pc2 := 83) s_Mo_133 t_Mo_bits (c_Mo_bits) d_Mo_state_80 rfl rfl rfl (Nat.le_of_ble_eq_true rfl) (by decide) (by decide) ?_
    exact zx_iret d_Mo_state_83 rfl (⟨rfl, rfl, rfl⟩)
theorem x_Mo_state {x y : Int32} (hx : x < 0 ∨ nI 2 ≤ x) : zK l D ar b Z y_Mo_state 1 [.ref (b + 546), .int x, .int y] M n (some (.int (nI 0))) (gm_t M 1) := by
  refine zk_entry (L := [some (.ref (b + 546)), some (.int x), some (.int y)]) rfl rfl (Nat.le_of_ble_eq_true rfl) rfl rfl ?_
  refine zx_aload_n (pc2 := 1) d_Mo_state_0 rfl rfl ?_
  refine zx_iload_n (pc2 := 2) d_Mo_state_1 rfl rfl ?_
  refine zk_callS (pc2 := 5) s_Mo_158 t_Mo_noProposer (c_Mo_noP1 hx) d_Mo_state_2 rfl rfl rfl (Nat.le_of_ble_eq_true rfl) (by decide) (by decide) ?_
  refine zx_if_ne (pc2 := 8) d_Mo_state_5 rfl (tgt := 17) (by decide) (fun _ => ?_) (fun cz => absurd cz (by decide))
  refine zx_iconst (pc2 := 18) (v := nI 1) d_Mo_state_17 rfl (by decide) ?_
  refine zx_goto (tgt := 22) d_Mo_state_18 (by decide) ?_
  refine zm_putI (pc2 := 25) p_Mo_7 d_Mo_state_22 rfl zl_c546 rfl rfl rfl ?_
  refine zx_aload_n (pc2 := 26) d_Mo_state_25 rfl rfl ?_
  refine zm_getV (pc2 := 29) f_Mo_7 d_Mo_state_26 rfl zl_c546 rfl (zm_Is) ?_
  refine zx_if_eq (pc2 := 32) d_Mo_state_29 rfl (tgt := 34) (by decide) (fun cz => absurd cz (by decide)) (fun _ => ?_)
  refine zx_iconst (pc2 := 33) (v := nI 0) d_Mo_state_32 rfl (by decide) ?_
  exact zx_iret d_Mo_state_33 rfl (⟨rfl, rfl, rfl⟩)
theorem x_Mo_stateA {p : Nat} {y : Int32} (hp : p < 2) (hy : y < 0 ∨ ¬ y ≤ nI 3) : zK l D ar b Z y_Mo_state 1 [.ref (b + 546), .int (nI p), .int y] M n (some (.int (nI 0))) (gm_t M 1) := by
  refine zk_entry (L := [some (.ref (b + 546)), some (.int (nI p)), some (.int y)]) rfl rfl (Nat.le_of_ble_eq_true rfl) rfl rfl ?_
  by_cases c : y < 0
  · refine zx_aload_n (pc2 := 1) d_Mo_state_0 rfl rfl ?_
    refine zx_iload_n (pc2 := 2) d_Mo_state_1 rfl rfl ?_
    refine zk_callS (pc2 := 5) s_Mo_158 t_Mo_noProposer (c_Mo_noP0 hp) d_Mo_state_2 rfl rfl rfl (Nat.le_of_ble_eq_true rfl) (by decide) (by decide) ?_
    refine zx_if_ne (pc2 := 8) d_Mo_state_5 rfl (tgt := 17) (by decide) (fun cz => absurd (by decide) cz) (fun _ => ?_)
    refine zx_iload_n (pc2 := 9) d_Mo_state_8 rfl rfl ?_
    refine zx_if_lt (pc2 := 12) d_Mo_state_9 rfl (tgt := 17) (by decide) (fun _ => ?_) (fun cz => absurd (c) cz)
    refine zx_iconst (pc2 := 18) (v := nI 1) d_Mo_state_17 rfl (by decide) ?_
    refine zx_goto (tgt := 22) d_Mo_state_18 (by decide) ?_
    refine zm_putI (pc2 := 25) p_Mo_7 d_Mo_state_22 rfl zl_c546 rfl rfl rfl ?_
    refine zx_aload_n (pc2 := 26) d_Mo_state_25 rfl rfl ?_
    refine zm_getV (pc2 := 29) f_Mo_7 d_Mo_state_26 rfl zl_c546 rfl (zm_Is) ?_
    refine zx_if_eq (pc2 := 32) d_Mo_state_29 rfl (tgt := 34) (by decide) (fun cz => absurd cz (by decide)) (fun _ => ?_)
    refine zx_iconst (pc2 := 33) (v := nI 0) d_Mo_state_32 rfl (by decide) ?_
    exact zx_iret d_Mo_state_33 rfl (⟨rfl, rfl, rfl⟩)
  · refine zx_aload_n (pc2 := 1) d_Mo_state_0 rfl rfl ?_
    refine zx_iload_n (pc2 := 2) d_Mo_state_1 rfl rfl ?_
    refine zk_callS (pc2 := 5) s_Mo_158 t_Mo_noProposer (c_Mo_noP0 hp) d_Mo_state_2 rfl rfl rfl (Nat.le_of_ble_eq_true rfl) (by decide) (by decide) ?_
    refine zx_if_ne (pc2 := 8) d_Mo_state_5 rfl (tgt := 17) (by decide) (fun cz => absurd (by decide) cz) (fun _ => ?_)
    refine zx_iload_n (pc2 := 9) d_Mo_state_8 rfl rfl ?_
    refine zx_if_lt (pc2 := 12) d_Mo_state_9 rfl (tgt := 17) (by decide) (fun cz => absurd cz (c)) (fun _ => ?_)
    refine zx_iload_n (pc2 := 13) d_Mo_state_12 rfl rfl ?_
    refine zx_iconst (pc2 := 14) (v := nI 3) d_Mo_state_13 rfl (by decide) ?_
    refine zx_icmp_le (pc2 := 17) d_Mo_state_14 rfl (tgt := 21) (by decide) (fun cz => absurd cz (hy.resolve_left c)) (fun _ => ?_)
    refine zx_iconst (pc2 := 18) (v := nI 1) d_Mo_state_17 rfl (by decide) ?_
    refine zx_goto (tgt := 22) d_Mo_state_18 (by decide) ?_
    refine zm_putI (pc2 := 25) p_Mo_7 d_Mo_state_22 rfl zl_c546 rfl rfl rfl ?_
    refine zx_aload_n (pc2 := 26) d_Mo_state_25 rfl rfl ?_
    refine zm_getV (pc2 := 29) f_Mo_7 d_Mo_state_26 rfl zl_c546 rfl (zm_Is) ?_
    refine zx_if_eq (pc2 := 32) d_Mo_state_29 rfl (tgt := 34) (by decide) (fun cz => absurd cz (by decide)) (fun _ => ?_)
    refine zx_iconst (pc2 := 33) (v := nI 0) d_Mo_state_32 rfl (by decide) ?_
    exact zx_iret d_Mo_state_33 rfl (⟨rfl, rfl, rfl⟩)
def gs_station (M : zm_M) (s k : Nat) : Int32 := if k = 0 then zm_I M 547 s else if k = 1 then gs_cnt M s 8 else if k = 2 then (if zm_I M 548 s = 0 then nI 1 else nI 0) else (if zm_I M 549 s = 0 then nI 0 else nI 1)
theorem c_Mo_station {s k : Nat} (hs : s < 7) (hk : k < 4) : zK l D ar b Z y_Mo_station 1 [.ref (b + 546), .int (nI s), .int (nI k)] M n (some (.int (gs_station M s k))) (gm_t M 0) := by
  refine zk_entry (L := [some (.ref (b + 546)), some (.int (nI s)), some (.int (nI k)), none, none]) rfl rfl (Nat.le_of_ble_eq_true rfl) rfl rfl ?_
  refine zx_aload_n (pc2 := 1) d_Mo_station_0 rfl rfl ?_
  refine zx_iload_n (pc2 := 2) d_Mo_station_1 rfl rfl ?_
  refine zk_callS (pc2 := 5) s_Mo_179 t_Mo_noStation (c_Mo_noS0 hs) d_Mo_station_2 rfl rfl rfl (Nat.le_of_ble_eq_true rfl) (by decide) (by decide) ?_
  refine zx_if_ne (pc2 := 8) d_Mo_station_5 rfl (tgt := 17) (by decide) (fun cz => absurd (by decide) cz) (fun _ => ?_)
  refine zx_iload_n (pc2 := 9) d_Mo_station_8 rfl rfl ?_
  refine zx_if_lt (pc2 := 12) d_Mo_station_9 rfl (tgt := 17) (by decide) (fun cz => absurd cz (nI_pos (by omega))) (fun _ => ?_)
  refine zx_iload_n (pc2 := 13) d_Mo_station_12 rfl rfl ?_
  refine zx_iconst (pc2 := 14) (v := nI 3) d_Mo_station_13 rfl (by decide) ?_
  refine zx_icmp_le (pc2 := 17) d_Mo_station_14 rfl (tgt := 21) (by decide) (fun _ => ?_) (fun cz => absurd (nI_le (by omega) (by decide)) cz)
  refine zx_iconst (pc2 := 22) (v := nI 0) d_Mo_station_21 rfl (by decide) ?_
  refine zm_putI (pc2 := 25) p_Mo_7 d_Mo_station_22 rfl zl_c546 rfl rfl rfl ?_
  refine zx_aload_n (pc2 := 26) d_Mo_station_25 rfl rfl ?_
  refine zm_getV (pc2 := 29) f_Mo_7 d_Mo_station_26 rfl zl_c546 rfl (zm_Is) ?_
  refine zx_if_eq (pc2 := 32) d_Mo_station_29 rfl (tgt := 34) (by decide) (fun _ => ?_) (fun cz => absurd (by decide) cz)
  refine zx_iload_n (pc2 := 35) d_Mo_station_34 rfl rfl ?_
  match k, hk with
  | 0, _ =>
    refine zx_if_ne (pc2 := 38) d_Mo_station_35 rfl (tgt := 45) (by decide) (fun cz => absurd (rfl) cz) (fun _ => ?_)
    refine zx_aload_n (pc2 := 39) d_Mo_station_38 rfl rfl ?_
    refine zm_getR (pc2 := 42) f_Mo_13 d_Mo_station_39 rfl zl_c546 rfl ?_
    refine zx_iload_n (pc2 := 43) d_Mo_station_42 rfl rfl ?_
    refine zk_iald (pc2 := 44) d_Mo_station_43 rfl (by rfl) rfl (by omega) (by decide) ?_
    exact zx_iret d_Mo_station_44 rfl (⟨rfl, rfl, rfl⟩)
  | 1, _ =>
    refine zx_if_ne (pc2 := 38) d_Mo_station_35 rfl (tgt := 45) (by decide) (fun _ => ?_) (fun cz => absurd cz (by decide))
    refine zx_iload_n (pc2 := 46) d_Mo_station_45 rfl rfl ?_
    refine zx_iconst (pc2 := 47) (v := nI 2) d_Mo_station_46 rfl (by decide) ?_
    refine zx_icmp_ne (pc2 := 50) d_Mo_station_47 rfl (tgt := 65) (by decide) (fun _ => ?_) (fun cz => absurd cz (by decide))
    refine zx_iload_n (pc2 := 66) d_Mo_station_65 rfl rfl ?_
    refine zx_iconst (pc2 := 67) (v := nI 3) d_Mo_station_66 rfl (by decide) ?_
    refine zx_icmp_ne (pc2 := 70) d_Mo_station_67 rfl (tgt := 85) (by decide) (fun _ => ?_) (fun cz => absurd cz (by decide))
    refine zx_iconst (pc2 := 86) (v := nI 0) d_Mo_station_85 rfl (by decide) ?_
    refine zx_ist3 (pc2 := 87) d_Mo_station_86 rfl rfl (by decide) ?_
    refine zx_iconst (pc2 := 88) (v := nI 0) d_Mo_station_87 rfl (by decide) ?_
    refine zx_ist4 (pc2 := 90) d_Mo_station_88 rfl rfl (by decide) ?_
    refine zx_for (X := fun i => zk_X l D ar b Z y_Mo_station 1 (some (.int (gs_station M s 1))) (gm_t M 0) n 90 [some (.ref (b + 546)), some (.int (nI s)), some (.int (nI 1)), some (.int (gs_cnt M s i)), some (.int (nI i))] [] (gm_t M 0)) 8 ?_ ?_ 0 (Nat.zero_le _)
    · refine zx_iload (pc2 := 92) d_Mo_station_90 rfl rfl ?_
      refine zx_bipush (pc2 := 94) (v := nI 8) d_Mo_station_92 rfl (by decide) ?_
      refine zx_icmp_ge (pc2 := 97) d_Mo_station_94 rfl (tgt := 126) (by decide) (fun _ => ?_) (fun cz => absurd (nI_le (Nat.le_refl 8) (by decide)) cz)
      refine zx_iload_n (pc2 := 127) d_Mo_station_126 rfl rfl ?_
      exact zx_iret d_Mo_station_127 rfl (⟨rfl, rfl, rfl⟩)
    · intro i hi ih
      refine zx_iload (pc2 := 92) d_Mo_station_90 rfl rfl ?_
      refine zx_bipush (pc2 := 94) (v := nI 8) d_Mo_station_92 rfl (by decide) ?_
      refine zx_icmp_ge (pc2 := 97) d_Mo_station_94 rfl (tgt := 126) (by decide) (fun cz => absurd cz (nI_ge hi (by decide))) (fun _ => ?_)
      refine zx_iload_n (pc2 := 98) d_Mo_station_97 rfl rfl ?_
      refine zx_aload_n (pc2 := 99) d_Mo_station_98 rfl rfl ?_
      refine zm_getR (pc2 := 102) f_Mo_24 d_Mo_station_99 rfl zl_c546 rfl ?_
      refine zx_bipush (pc2 := 104) (v := nI 88) d_Mo_station_102 rfl (by decide) ?_
      refine zx_iload_n (pc2 := 105) d_Mo_station_104 rfl rfl ?_
      first | refine zx_imulN (pc2 := 106) d_Mo_station_105 rfl ?_ | refine zx_imul (pc2 := 106) d_Mo_station_105 rfl ?_
      refine zx_bipush (pc2 := 108) (v := nI 11) d_Mo_station_106 rfl (by decide) ?_
      refine zx_iload (pc2 := 110) d_Mo_station_108 rfl rfl ?_
      first | refine zx_imulN (pc2 := 111) d_Mo_station_110 rfl ?_ | refine zx_imul (pc2 := 111) d_Mo_station_110 rfl ?_
      first | refine zx_iaddN (pc2 := 112) d_Mo_station_111 rfl ?_ | refine zx_iadd (pc2 := 112) d_Mo_station_111 rfl ?_
      refine zx_iconst (pc2 := 113) (v := nI 2) d_Mo_station_112 rfl (by decide) ?_
      first | refine zx_iaddN (pc2 := 114) d_Mo_station_113 rfl ?_ | refine zx_iadd (pc2 := 114) d_Mo_station_113 rfl ?_
      refine zk_ialdV (pc2 := 115) d_Mo_station_114 rfl (by rfl) rfl (by omega) (by decide) (zm_In (Or.inl (by decide))) ?_
      refine zk_callS (pc2 := 118) s_Mo_100 t_Mo_third (c_Mo_third) d_Mo_station_115 rfl rfl rfl (Nat.le_of_ble_eq_true rfl) (by decide) (by decide) ?_
      refine zx_iadd (pc2 := 119) d_Mo_station_118 rfl ?_
      refine zx_ist3 (pc2 := 120) d_Mo_station_119 rfl rfl (by decide) ?_
      refine zx_inc4 (pc2 := 123) d_Mo_station_120 rfl (zk_1 _) rfl (by decide) ?_
      refine zx_goto (tgt := 90) d_Mo_station_123 (by decide) ?_
      exact ih
  | 2, _ =>
    by_cases c : zm_I M 548 s = 0
    · rw [show gs_station M s 2 = nI 1 from if_pos c]
      refine zx_if_ne (pc2 := 38) d_Mo_station_35 rfl (tgt := 45) (by decide) (fun _ => ?_) (fun cz => absurd cz (by decide))
      refine zx_iload_n (pc2 := 46) d_Mo_station_45 rfl rfl ?_
      refine zx_iconst (pc2 := 47) (v := nI 2) d_Mo_station_46 rfl (by decide) ?_
      refine zx_icmp_ne (pc2 := 50) d_Mo_station_47 rfl (tgt := 65) (by decide) (fun cz => absurd (rfl) cz) (fun _ => ?_)
      refine zx_aload_n (pc2 := 51) d_Mo_station_50 rfl rfl ?_
      refine zm_getR (pc2 := 54) f_Mo_17 d_Mo_station_51 rfl zl_c546 rfl ?_
      refine zx_iload_n (pc2 := 55) d_Mo_station_54 rfl rfl ?_
      refine zk_zaldV (pc2 := 56) d_Mo_station_55 rfl (by rfl) rfl (by omega) (by decide) (zm_In (Or.inl (by decide))) ?_
      refine zx_if_eq (pc2 := 59) d_Mo_station_56 rfl (tgt := 63) (by decide) (fun _ => ?_) (fun cz => absurd (c) cz)
      refine zx_iconst (pc2 := 64) (v := nI 1) d_Mo_station_63 rfl (by decide) ?_
      exact zx_iret d_Mo_station_64 rfl (⟨rfl, rfl, rfl⟩)
    · rw [show gs_station M s 2 = nI 0 from if_neg c]
      refine zx_if_ne (pc2 := 38) d_Mo_station_35 rfl (tgt := 45) (by decide) (fun _ => ?_) (fun cz => absurd cz (by decide))
      refine zx_iload_n (pc2 := 46) d_Mo_station_45 rfl rfl ?_
      refine zx_iconst (pc2 := 47) (v := nI 2) d_Mo_station_46 rfl (by decide) ?_
      refine zx_icmp_ne (pc2 := 50) d_Mo_station_47 rfl (tgt := 65) (by decide) (fun cz => absurd (rfl) cz) (fun _ => ?_)
      refine zx_aload_n (pc2 := 51) d_Mo_station_50 rfl rfl ?_
      refine zm_getR (pc2 := 54) f_Mo_17 d_Mo_station_51 rfl zl_c546 rfl ?_
      refine zx_iload_n (pc2 := 55) d_Mo_station_54 rfl rfl ?_
      refine zk_zaldV (pc2 := 56) d_Mo_station_55 rfl (by rfl) rfl (by omega) (by decide) (zm_In (Or.inl (by decide))) ?_
      refine zx_if_eq (pc2 := 59) d_Mo_station_56 rfl (tgt := 63) (by decide) (fun cz => absurd cz (c)) (fun _ => ?_)
      refine zx_iconst (pc2 := 60) (v := nI 0) d_Mo_station_59 rfl (by decide) ?_
      refine zx_goto (tgt := 64) d_Mo_station_60 (by decide) ?_
      exact zx_iret d_Mo_station_64 rfl (⟨rfl, rfl, rfl⟩)
  | 3, _ =>
    by_cases c : zm_I M 549 s = 0
    · rw [show gs_station M s 3 = nI 0 from if_pos c]
      refine zx_if_ne (pc2 := 38) d_Mo_station_35 rfl (tgt := 45) (by decide) (fun _ => ?_) (fun cz => absurd cz (by decide))
      refine zx_iload_n (pc2 := 46) d_Mo_station_45 rfl rfl ?_
      refine zx_iconst (pc2 := 47) (v := nI 2) d_Mo_station_46 rfl (by decide) ?_
      refine zx_icmp_ne (pc2 := 50) d_Mo_station_47 rfl (tgt := 65) (by decide) (fun _ => ?_) (fun cz => absurd cz (by decide))
      refine zx_iload_n (pc2 := 66) d_Mo_station_65 rfl rfl ?_
      refine zx_iconst (pc2 := 67) (v := nI 3) d_Mo_station_66 rfl (by decide) ?_
      refine zx_icmp_ne (pc2 := 70) d_Mo_station_67 rfl (tgt := 85) (by decide) (fun cz => absurd (rfl) cz) (fun _ => ?_)
      refine zx_aload_n (pc2 := 71) d_Mo_station_70 rfl rfl ?_
      refine zm_getR (pc2 := 74) f_Mo_21 d_Mo_station_71 rfl zl_c546 rfl ?_
      refine zx_iload_n (pc2 := 75) d_Mo_station_74 rfl rfl ?_
      refine zk_zaldV (pc2 := 76) d_Mo_station_75 rfl (by rfl) rfl (by omega) (by decide) (zm_In (Or.inl (by decide))) ?_
      refine zx_if_eq (pc2 := 79) d_Mo_station_76 rfl (tgt := 83) (by decide) (fun _ => ?_) (fun cz => absurd (c) cz)
      refine zx_iconst (pc2 := 84) (v := nI 0) d_Mo_station_83 rfl (by decide) ?_
      exact zx_iret d_Mo_station_84 rfl (⟨rfl, rfl, rfl⟩)
    · rw [show gs_station M s 3 = nI 1 from if_neg c]
      refine zx_if_ne (pc2 := 38) d_Mo_station_35 rfl (tgt := 45) (by decide) (fun _ => ?_) (fun cz => absurd cz (by decide))
      refine zx_iload_n (pc2 := 46) d_Mo_station_45 rfl rfl ?_
      refine zx_iconst (pc2 := 47) (v := nI 2) d_Mo_station_46 rfl (by decide) ?_
      refine zx_icmp_ne (pc2 := 50) d_Mo_station_47 rfl (tgt := 65) (by decide) (fun _ => ?_) (fun cz => absurd cz (by decide))
      refine zx_iload_n (pc2 := 66) d_Mo_station_65 rfl rfl ?_
      refine zx_iconst (pc2 := 67) (v := nI 3) d_Mo_station_66 rfl (by decide) ?_
      refine zx_icmp_ne (pc2 := 70) d_Mo_station_67 rfl (tgt := 85) (by decide) (fun cz => absurd (rfl) cz) (fun _ => ?_)
      refine zx_aload_n (pc2 := 71) d_Mo_station_70 rfl rfl ?_
      refine zm_getR (pc2 := 74) f_Mo_21 d_Mo_station_71 rfl zl_c546 rfl ?_
      refine zx_iload_n (pc2 := 75) d_Mo_station_74 rfl rfl ?_
      refine zk_zaldV (pc2 := 76) d_Mo_station_75 rfl (by rfl) rfl (by omega) (by decide) (zm_In (Or.inl (by decide))) ?_
      refine zx_if_eq (pc2 := 79) d_Mo_station_76 rfl (tgt := 83) (by decide) (fun cz => absurd cz (c)) (fun _ => ?_)
      refine zx_iconst (pc2 := 80) (v := nI 1) d_Mo_station_79 rfl (by decide) ?_
      refine zx_goto (tgt := 84) d_Mo_station_80 (by decide) ?_
      exact zx_iret d_Mo_station_84 rfl (⟨rfl, rfl, rfl⟩)
theorem x_Mo_station {x y : Int32} (hx : x < 0 ∨ nI 7 ≤ x) : zK l D ar b Z y_Mo_station 1 [.ref (b + 546), .int x, .int y] M n (some (.int (nI 0))) (gm_t M 1) := by
  refine zk_entry (L := [some (.ref (b + 546)), some (.int x), some (.int y), none, none]) rfl rfl (Nat.le_of_ble_eq_true rfl) rfl rfl ?_
  refine zx_aload_n (pc2 := 1) d_Mo_station_0 rfl rfl ?_
  refine zx_iload_n (pc2 := 2) d_Mo_station_1 rfl rfl ?_
  refine zk_callS (pc2 := 5) s_Mo_179 t_Mo_noStation (c_Mo_noS1 hx) d_Mo_station_2 rfl rfl rfl (Nat.le_of_ble_eq_true rfl) (by decide) (by decide) ?_
  refine zx_if_ne (pc2 := 8) d_Mo_station_5 rfl (tgt := 17) (by decide) (fun _ => ?_) (fun cz => absurd cz (by decide))
  refine zx_iconst (pc2 := 18) (v := nI 1) d_Mo_station_17 rfl (by decide) ?_
  refine zx_goto (tgt := 22) d_Mo_station_18 (by decide) ?_
  refine zm_putI (pc2 := 25) p_Mo_7 d_Mo_station_22 rfl zl_c546 rfl rfl rfl ?_
  refine zx_aload_n (pc2 := 26) d_Mo_station_25 rfl rfl ?_
  refine zm_getV (pc2 := 29) f_Mo_7 d_Mo_station_26 rfl zl_c546 rfl (zm_Is) ?_
  refine zx_if_eq (pc2 := 32) d_Mo_station_29 rfl (tgt := 34) (by decide) (fun cz => absurd cz (by decide)) (fun _ => ?_)
  refine zx_iconst (pc2 := 33) (v := nI 0) d_Mo_station_32 rfl (by decide) ?_
  exact zx_iret d_Mo_station_33 rfl (⟨rfl, rfl, rfl⟩)
theorem x_Mo_stationA {s : Nat} {y : Int32} (hs : s < 7) (hy : y < 0 ∨ ¬ y ≤ nI 3) : zK l D ar b Z y_Mo_station 1 [.ref (b + 546), .int (nI s), .int y] M n (some (.int (nI 0))) (gm_t M 1) := by
  refine zk_entry (L := [some (.ref (b + 546)), some (.int (nI s)), some (.int y), none, none]) rfl rfl (Nat.le_of_ble_eq_true rfl) rfl rfl ?_
  by_cases c : y < 0
  · refine zx_aload_n (pc2 := 1) d_Mo_station_0 rfl rfl ?_
    refine zx_iload_n (pc2 := 2) d_Mo_station_1 rfl rfl ?_
    refine zk_callS (pc2 := 5) s_Mo_179 t_Mo_noStation (c_Mo_noS0 hs) d_Mo_station_2 rfl rfl rfl (Nat.le_of_ble_eq_true rfl) (by decide) (by decide) ?_
    refine zx_if_ne (pc2 := 8) d_Mo_station_5 rfl (tgt := 17) (by decide) (fun cz => absurd (by decide) cz) (fun _ => ?_)
    refine zx_iload_n (pc2 := 9) d_Mo_station_8 rfl rfl ?_
    refine zx_if_lt (pc2 := 12) d_Mo_station_9 rfl (tgt := 17) (by decide) (fun _ => ?_) (fun cz => absurd (c) cz)
    refine zx_iconst (pc2 := 18) (v := nI 1) d_Mo_station_17 rfl (by decide) ?_
    refine zx_goto (tgt := 22) d_Mo_station_18 (by decide) ?_
    refine zm_putI (pc2 := 25) p_Mo_7 d_Mo_station_22 rfl zl_c546 rfl rfl rfl ?_
    refine zx_aload_n (pc2 := 26) d_Mo_station_25 rfl rfl ?_
    refine zm_getV (pc2 := 29) f_Mo_7 d_Mo_station_26 rfl zl_c546 rfl (zm_Is) ?_
    refine zx_if_eq (pc2 := 32) d_Mo_station_29 rfl (tgt := 34) (by decide) (fun cz => absurd cz (by decide)) (fun _ => ?_)
    refine zx_iconst (pc2 := 33) (v := nI 0) d_Mo_station_32 rfl (by decide) ?_
    exact zx_iret d_Mo_station_33 rfl (⟨rfl, rfl, rfl⟩)
  · refine zx_aload_n (pc2 := 1) d_Mo_station_0 rfl rfl ?_
    refine zx_iload_n (pc2 := 2) d_Mo_station_1 rfl rfl ?_
    refine zk_callS (pc2 := 5) s_Mo_179 t_Mo_noStation (c_Mo_noS0 hs) d_Mo_station_2 rfl rfl rfl (Nat.le_of_ble_eq_true rfl) (by decide) (by decide) ?_
    refine zx_if_ne (pc2 := 8) d_Mo_station_5 rfl (tgt := 17) (by decide) (fun cz => absurd (by decide) cz) (fun _ => ?_)
    refine zx_iload_n (pc2 := 9) d_Mo_station_8 rfl rfl ?_
    refine zx_if_lt (pc2 := 12) d_Mo_station_9 rfl (tgt := 17) (by decide) (fun cz => absurd cz (c)) (fun _ => ?_)
    refine zx_iload_n (pc2 := 13) d_Mo_station_12 rfl rfl ?_
    refine zx_iconst (pc2 := 14) (v := nI 3) d_Mo_station_13 rfl (by decide) ?_
    refine zx_icmp_le (pc2 := 17) d_Mo_station_14 rfl (tgt := 21) (by decide) (fun cz => absurd cz (hy.resolve_left c)) (fun _ => ?_)
    refine zx_iconst (pc2 := 18) (v := nI 1) d_Mo_station_17 rfl (by decide) ?_
    refine zx_goto (tgt := 22) d_Mo_station_18 (by decide) ?_
    refine zm_putI (pc2 := 25) p_Mo_7 d_Mo_station_22 rfl zl_c546 rfl rfl rfl ?_
    refine zx_aload_n (pc2 := 26) d_Mo_station_25 rfl rfl ?_
    refine zm_getV (pc2 := 29) f_Mo_7 d_Mo_station_26 rfl zl_c546 rfl (zm_Is) ?_
    refine zx_if_eq (pc2 := 32) d_Mo_station_29 rfl (tgt := 34) (by decide) (fun cz => absurd cz (by decide)) (fun _ => ?_)
    refine zx_iconst (pc2 := 33) (v := nI 0) d_Mo_station_32 rfl (by decide) ?_
    exact zx_iret d_Mo_station_33 rfl (⟨rfl, rfl, rfl⟩)
end C53
