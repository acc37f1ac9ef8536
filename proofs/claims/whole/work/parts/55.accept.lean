/-! LogHouseModel: accepting letters -/
theorem zx_isubE {G : zx_G} {y : zx_Y} {R : Room} {F : List Frame → Array Value → State → State → Prop} {pc pc2 : Nat} {L : zx_L} {st : List Value} {h : zx_H} {n k j a b : Nat} (c : Nat) (d : decode y.2.1 pc = .ok (.isub, 1)) (e0 : pc + 1 = pc2) (hc : c + b = a) (kk : zX G y R F pc2 L (.int (nI c) :: st) h n k j) : zX G y R F pc L (.int (nI b) :: .int (nI a) :: st) h n k j := by
  subst hc
  refine zx_isubN d e0 (by omega) ?_
  rw [Nat.add_sub_cancel]
  exact kk
theorem gl4_n {M : zm_M} {c r x : Nat} {k s p bl : Int32} (h1 : r ≠ 551) (h2 : r ≠ 546) : zm_I (gm_l4 M c k s p bl) r x = zm_I M r x := by
  unfold gm_l4
  rw [zm_In (Or.inl h2), zm_In (Or.inl h1), zm_In (Or.inl h1), zm_In (Or.inl h1), zm_In (Or.inl h1), zm_In (Or.inl h1), zm_In (Or.inl h1)]
theorem gl4_c {M : zm_M} {c : Nat} {k s p bl : Int32} : zm_I (gm_l4 M c k s p bl) 546 5 = nI (c + 1) := zm_Is
theorem gt_fr {M M' : zm_M} (h : ∀ r x, r ≠ 551 → r ≠ 552 → r ≠ 546 → zm_I M' r x = zm_I M r x) (hT : gt_ok M) : gt_ok M' := ⟨fun k hk => (h 564 k (by decide) (by decide) (by decide)).trans (hT.1 k hk), fun a h1 h2 => (h 565 a (by decide) (by decide) (by decide)).trans (hT.2 a h1 h2)⟩
def gm_acc0 (M : zm_M) (c p pl s len : Nat) : zm_M := zm_wI (zm_wI (zm_wI (gm_l4 M c (nI 2) (nI s) (nI p) (zm_I M 554 p)) 551 (7 * c + 4) (nI pl)) 551 (7 * c + 5) (zm_I M 560 (8 * p + pl))) 551 (7 * c + 6) (nI len)
def gm_acc (M : zm_M) (c p pl s len : Nat) (f : Nat → Nat) (k : Nat) : zm_M := gm_up (gm_acc0 M c p pl s len) 552 (88 * c) k (fun x => nI (gs_shb f len s x))
theorem gm_acc_n {M : zm_M} {c p pl s len k r x : Nat} {f : Nat → Nat} (h1 : r ≠ 551) (h2 : r ≠ 552) (h3 : r ≠ 546) : zm_I (gm_acc M c p pl s len f k) r x = zm_I M r x := by
  unfold gm_acc gm_acc0
  rw [gm_upn (Or.inl h2), zm_In (Or.inl h1), zm_In (Or.inl h1), zm_In (Or.inl h1), gl4_n h1 h3]
theorem gm_acc_c {M : zm_M} {c p pl s len k : Nat} {f : Nat → Nat} : zm_I (gm_acc M c p pl s len f k) 546 5 = nI (c + 1) := by
  unfold gm_acc gm_acc0
  rw [gm_upn (Or.inl (by decide)), zm_In (Or.inl (by decide)), zm_In (Or.inl (by decide)), zm_In (Or.inl (by decide)), gl4_c]
section C55
variable {l : Launch} {D : va_G} {ar : Nat → ClassId} {b : Nat} {Z : State → Prop} {M : zm_M} {n : Nat}
theorem c_Mo_accept1 {c p pl s len : Nat} {f : Nat → Nat} (hT : gt_ok M) (hc : zm_I M 546 5 = nI c) (h60 : c < 60) (hp : p < 2) (hpl : pl < 8) (hs : s < 7) (hln : zm_I M 561 (8 * p + pl) = nI len) (hlen : len ≤ 24) (hb : gb_ok M 563 (24 * (8 * p + pl)) len f) : zK l D ar b Z y_Mo_accept 2 [.ref (b + 546), .int (nI p), .int (nI pl), .int (nI s)] M n (some (.int (nI 1))) (gm_acc M c p pl s len f ((len + 2) / 3)) := by
  have h3 : ∀ W, zK l D ar b Z y_Mo_third 0 [.int (nI len)] W n (some (.int (nI ((len + 2) / 3)))) W := by
    intro W
    have := c_Mo_third (l := l) (D := D) (ar := ar) (b := b) (Z := Z) (M := W) (n := n) (x := nI len)
    rwa [gs_third_nI (by omega)] at this
  have hsb : ∀ k i, i < 8 → zK l D ar b Z y_Mo_shareByte 1 [.ref (b + 546), .ref (b + 563), .int (nI (24 * (8 * p + pl))), .int (nI len), .int (nI s), .int (nI i)] (gm_acc M c p pl s len f k) n (some (.int (nI (gs_shb f len s i)))) (gm_acc M c p pl s len f k) := fun k i hi => c_Mo_shareByte (gt_fr (fun r x h1 h2 h3 => gm_acc_n h1 h2 h3) hT) zl_c563 (by decide) hlen (by omega) hs hi (fun x hx => ⟨(gm_acc_n (by decide) (by decide) (by decide)).trans (hb x hx).1, (hb x hx).2⟩)
  refine zk_entry (L := [some (.ref (b + 546)), some (.int (nI p)), some (.int (nI pl)), some (.int (nI s)), none, none, none]) rfl rfl (Nat.le_of_ble_eq_true rfl) rfl rfl ?_
  refine zx_aload_n (pc2 := 1) d_Mo_accept_0 rfl rfl ?_
  refine zx_iconst (pc2 := 2) (v := nI 2) d_Mo_accept_1 rfl (by decide) ?_
  refine zx_iload_n (pc2 := 3) d_Mo_accept_2 rfl rfl ?_
  refine zx_iload_n (pc2 := 4) d_Mo_accept_3 rfl rfl ?_
  refine zx_aload_n (pc2 := 5) d_Mo_accept_4 rfl rfl ?_
  refine zm_getR (pc2 := 8) f_Mo_39 d_Mo_accept_5 rfl zl_c546 rfl ?_
  refine zx_iload_n (pc2 := 9) d_Mo_accept_8 rfl rfl ?_
  refine zk_iald (pc2 := 10) d_Mo_accept_9 rfl (by rfl) rfl (by omega) (by decide) ?_
  refine zk_callV (pc2 := 13) s_Mo_114 v_Mo_letter4 (zl_c546) (c_Mo_letter4 hc h60) d_Mo_accept_10 rfl rfl rfl (Nat.le_of_ble_eq_true rfl) (by decide) (by decide) ?_
  refine zx_if_ne (pc2 := 16) d_Mo_accept_13 rfl (tgt := 18) (by decide) (fun _ => ?_) (fun cz => absurd cz (by decide))
  refine zx_bipush (pc2 := 20) (v := nI 7) d_Mo_accept_18 rfl (by decide) ?_
  refine zx_aload_n (pc2 := 21) d_Mo_accept_20 rfl rfl ?_
  refine zm_getV (pc2 := 24) f_Mo_27 d_Mo_accept_21 rfl zl_c546 rfl (gl4_c) ?_
  first | refine zx_imulN (pc2 := 25) d_Mo_accept_24 rfl ?_ | refine zx_imul (pc2 := 25) d_Mo_accept_24 rfl ?_
  refine zx_bipush (pc2 := 27) (v := nI 7) d_Mo_accept_25 rfl (by decide) ?_
  refine zx_isubE (7 * c) (pc2 := 28) d_Mo_accept_27 rfl (by omega) ?_
  refine zx_ist4 (pc2 := 30) d_Mo_accept_28 rfl rfl (by decide) ?_
  refine zx_bipush (pc2 := 32) (v := nI 8) d_Mo_accept_30 rfl (by decide) ?_
  refine zx_iload_n (pc2 := 33) d_Mo_accept_32 rfl rfl ?_
  first | refine zx_imulN (pc2 := 34) d_Mo_accept_33 rfl ?_ | refine zx_imul (pc2 := 34) d_Mo_accept_33 rfl ?_
  refine zx_iload_n (pc2 := 35) d_Mo_accept_34 rfl rfl ?_
  first | refine zx_iaddN (pc2 := 36) d_Mo_accept_35 rfl ?_ | refine zx_iadd (pc2 := 36) d_Mo_accept_35 rfl ?_
  refine zx_ist5 (pc2 := 38) d_Mo_accept_36 rfl rfl (by decide) ?_
  refine zx_aload_n (pc2 := 39) d_Mo_accept_38 rfl rfl ?_
  refine zm_getR (pc2 := 42) f_Mo_30 d_Mo_accept_39 rfl zl_c546 rfl ?_
  refine zx_iload (pc2 := 44) d_Mo_accept_42 rfl rfl ?_
  refine zx_iconst (pc2 := 45) (v := nI 4) d_Mo_accept_44 rfl (by decide) ?_
  first | refine zx_iaddN (pc2 := 46) d_Mo_accept_45 rfl ?_ | refine zx_iadd (pc2 := 46) d_Mo_accept_45 rfl ?_
  refine zx_iload_n (pc2 := 47) d_Mo_accept_46 rfl rfl ?_
  refine zk_iast (pc2 := 48) d_Mo_accept_47 rfl (by rfl) rfl (by omega) (by decide) ?_
  refine zx_aload_n (pc2 := 49) d_Mo_accept_48 rfl rfl ?_
  refine zm_getR (pc2 := 52) f_Mo_30 d_Mo_accept_49 rfl zl_c546 rfl ?_
  refine zx_iload (pc2 := 54) d_Mo_accept_52 rfl rfl ?_
  refine zx_iconst (pc2 := 55) (v := nI 5) d_Mo_accept_54 rfl (by decide) ?_
  first | refine zx_iaddN (pc2 := 56) d_Mo_accept_55 rfl ?_ | refine zx_iadd (pc2 := 56) d_Mo_accept_55 rfl ?_
  refine zx_aload_n (pc2 := 57) d_Mo_accept_56 rfl rfl ?_
  refine zm_getR (pc2 := 60) f_Mo_57 d_Mo_accept_57 rfl zl_c546 rfl ?_
  refine zx_iload (pc2 := 62) d_Mo_accept_60 rfl rfl ?_
  refine zk_ialdV (pc2 := 63) d_Mo_accept_62 rfl (by rfl) rfl (by omega) (by decide) ((zm_In (Or.inl (by decide))).trans (gl4_n (by decide) (by decide))) ?_
  refine zk_iast (pc2 := 64) d_Mo_accept_63 rfl (by rfl) rfl (by omega) (by decide) ?_
  refine zx_aload_n (pc2 := 65) d_Mo_accept_64 rfl rfl ?_
  refine zm_getR (pc2 := 68) f_Mo_30 d_Mo_accept_65 rfl zl_c546 rfl ?_
  refine zx_iload (pc2 := 70) d_Mo_accept_68 rfl rfl ?_
  refine zx_bipush (pc2 := 72) (v := nI 6) d_Mo_accept_70 rfl (by decide) ?_
  first | refine zx_iaddN (pc2 := 73) d_Mo_accept_72 rfl ?_ | refine zx_iadd (pc2 := 73) d_Mo_accept_72 rfl ?_
  refine zx_aload_n (pc2 := 74) d_Mo_accept_73 rfl rfl ?_
  refine zm_getR (pc2 := 77) f_Mo_60 d_Mo_accept_74 rfl zl_c546 rfl ?_
  refine zx_iload (pc2 := 79) d_Mo_accept_77 rfl rfl ?_
  refine zk_ialdV (pc2 := 80) d_Mo_accept_79 rfl (by rfl) rfl (by omega) (by decide) ((zm_In (Or.inl (by decide))).trans ((zm_In (Or.inl (by decide))).trans ((gl4_n (by decide) (by decide)).trans hln))) ?_
  refine zk_iast (pc2 := 81) d_Mo_accept_80 rfl (by rfl) rfl (by omega) (by decide) ?_
  refine zx_iconst (pc2 := 82) (v := nI 0) d_Mo_accept_81 rfl (by decide) ?_
  refine zx_ist6 (pc2 := 84) d_Mo_accept_82 rfl rfl (by decide) ?_
  have h0 : gm_acc M c p pl s len f 0 = gm_acc0 M c p pl s len := gm_up0
  refine Eq.mp (congrArg (fun w => zk_X l D ar b Z y_Mo_accept 2 (some (.int (nI 1))) (gm_acc M c p pl s len f ((len + 2) / 3)) n 84 [some (.ref (b + 546)), some (.int (nI p)), some (.int (nI pl)), some (.int (nI s)), some (.int (nI (7 * c))), some (.int (nI (8 * p + pl))), some (.int (nI 0))] [] w) h0) ?_
  refine zx_for (X := fun k => zk_X l D ar b Z y_Mo_accept 2 (some (.int (nI 1))) (gm_acc M c p pl s len f ((len + 2) / 3)) n 84 [some (.ref (b + 546)), some (.int (nI p)), some (.int (nI pl)), some (.int (nI s)), some (.int (nI (7 * c))), some (.int (nI (8 * p + pl))), some (.int (nI k))] [] (gm_acc M c p pl s len f k)) ((len + 2) / 3) ?_ ?_ 0 (Nat.zero_le _)
  · refine zx_iload (pc2 := 86) d_Mo_accept_84 rfl rfl ?_
    refine zx_aload_n (pc2 := 87) d_Mo_accept_86 rfl rfl ?_
    refine zm_getR (pc2 := 90) f_Mo_60 d_Mo_accept_87 rfl zl_c546 rfl ?_
    refine zx_iload (pc2 := 92) d_Mo_accept_90 rfl rfl ?_
    refine zk_ialdV (pc2 := 93) d_Mo_accept_92 rfl (by rfl) rfl (by omega) (by decide) ((gm_acc_n (by decide) (by decide) (by decide)).trans hln) ?_
    refine zk_callS (pc2 := 96) s_Mo_100 t_Mo_third (h3 _) d_Mo_accept_93 rfl rfl rfl (Nat.le_of_ble_eq_true rfl) (by decide) (by decide) ?_
    refine zx_icmp_ge (pc2 := 99) d_Mo_accept_96 rfl (tgt := 146) (by decide) (fun _ => ?_) (fun cz => absurd (nI_le (Nat.le_refl _) (by omega)) cz)
    refine zx_iconst (pc2 := 147) (v := nI 1) d_Mo_accept_146 rfl (by decide) ?_
    exact zx_iret d_Mo_accept_147 rfl (⟨rfl, rfl, rfl⟩)
  · intro k hk ih
    have eS : gm_acc M c p pl s len f (k + 1) = zm_wI (gm_acc M c p pl s len f k) 552 (88 * c + k) (nI (gs_shb f len s k)) := gm_upS.symm
    rw [eS] at ih
    refine zx_iload (pc2 := 86) d_Mo_accept_84 rfl rfl ?_
    refine zx_aload_n (pc2 := 87) d_Mo_accept_86 rfl rfl ?_
    refine zm_getR (pc2 := 90) f_Mo_60 d_Mo_accept_87 rfl zl_c546 rfl ?_
    refine zx_iload (pc2 := 92) d_Mo_accept_90 rfl rfl ?_
    refine zk_ialdV (pc2 := 93) d_Mo_accept_92 rfl (by rfl) rfl (by omega) (by decide) ((gm_acc_n (by decide) (by decide) (by decide)).trans hln) ?_
    refine zk_callS (pc2 := 96) s_Mo_100 t_Mo_third (h3 _) d_Mo_accept_93 rfl rfl rfl (Nat.le_of_ble_eq_true rfl) (by decide) (by decide) ?_
    refine zx_icmp_ge (pc2 := 99) d_Mo_accept_96 rfl (tgt := 146) (by decide) (fun cz => absurd cz (nI_ge hk (by omega))) (fun _ => ?_)
    refine zx_aload_n (pc2 := 100) d_Mo_accept_99 rfl rfl ?_
    refine zm_getR (pc2 := 103) f_Mo_33 d_Mo_accept_100 rfl zl_c546 rfl ?_
    refine zx_bipush (pc2 := 105) (v := nI 88) d_Mo_accept_103 rfl (by decide) ?_
    refine zx_aload_n (pc2 := 106) d_Mo_accept_105 rfl rfl ?_
    refine zm_getV (pc2 := 109) f_Mo_27 d_Mo_accept_106 rfl zl_c546 rfl (gm_acc_c) ?_
    first | refine zx_imulN (pc2 := 110) d_Mo_accept_109 rfl ?_ | refine zx_imul (pc2 := 110) d_Mo_accept_109 rfl ?_
    refine zx_bipush (pc2 := 112) (v := nI 88) d_Mo_accept_110 rfl (by decide) ?_
    refine zx_isubE (88 * c) (pc2 := 113) d_Mo_accept_112 rfl (by omega) ?_
    refine zx_iload (pc2 := 115) d_Mo_accept_113 rfl rfl ?_
    first | refine zx_iaddN (pc2 := 116) d_Mo_accept_115 rfl ?_ | refine zx_iadd (pc2 := 116) d_Mo_accept_115 rfl ?_
    refine zx_aload_n (pc2 := 117) d_Mo_accept_116 rfl rfl ?_
    refine zx_aload_n (pc2 := 118) d_Mo_accept_117 rfl rfl ?_
    refine zm_getR (pc2 := 121) f_Mo_66 d_Mo_accept_118 rfl zl_c546 rfl ?_
    refine zx_bipush (pc2 := 123) (v := nI 24) d_Mo_accept_121 rfl (by decide) ?_
    refine zx_iload (pc2 := 125) d_Mo_accept_123 rfl rfl ?_
    first | refine zx_imulN (pc2 := 126) d_Mo_accept_125 rfl ?_ | refine zx_imul (pc2 := 126) d_Mo_accept_125 rfl ?_
    refine zx_aload_n (pc2 := 127) d_Mo_accept_126 rfl rfl ?_
    refine zm_getR (pc2 := 130) f_Mo_60 d_Mo_accept_127 rfl zl_c546 rfl ?_
    refine zx_iload (pc2 := 132) d_Mo_accept_130 rfl rfl ?_
    refine zk_ialdV (pc2 := 133) d_Mo_accept_132 rfl (by rfl) rfl (by omega) (by decide) ((gm_acc_n (by decide) (by decide) (by decide)).trans hln) ?_
    refine zx_iload_n (pc2 := 134) d_Mo_accept_133 rfl rfl ?_
    refine zx_iload (pc2 := 136) d_Mo_accept_134 rfl rfl ?_
    refine zk_callV (pc2 := 139) s_Mo_118 v_Mo_shareByte (zl_c546) (hsb k k (by omega)) d_Mo_accept_136 rfl rfl rfl (Nat.le_of_ble_eq_true rfl) (by decide) (by decide) ?_
    refine zk_iast (pc2 := 140) d_Mo_accept_139 rfl (by rfl) rfl (by omega) (by decide) ?_
    refine zx_inc6 (pc2 := 143) d_Mo_accept_140 rfl (zk_1 _) rfl (by decide) ?_
    refine zx_goto (tgt := 84) d_Mo_accept_143 (by decide) ?_
    exact ih
theorem c_Mo_accept0 {p : Nat} {pl s : Int32} (hp : p < 2) (hc : zm_I M 546 5 = nI 60) : zK l D ar b Z y_Mo_accept 2 [.ref (b + 546), .int (nI p), .int pl, .int s] M n (some (.int (nI 0))) M := by
  refine zk_entry (L := [some (.ref (b + 546)), some (.int (nI p)), some (.int pl), some (.int s), none, none, none]) rfl rfl (Nat.le_of_ble_eq_true rfl) rfl rfl ?_
  refine zx_aload_n (pc2 := 1) d_Mo_accept_0 rfl rfl ?_
  refine zx_iconst (pc2 := 2) (v := nI 2) d_Mo_accept_1 rfl (by decide) ?_
  refine zx_iload_n (pc2 := 3) d_Mo_accept_2 rfl rfl ?_
  refine zx_iload_n (pc2 := 4) d_Mo_accept_3 rfl rfl ?_
  refine zx_aload_n (pc2 := 5) d_Mo_accept_4 rfl rfl ?_
  refine zm_getR (pc2 := 8) f_Mo_39 d_Mo_accept_5 rfl zl_c546 rfl ?_
  refine zx_iload_n (pc2 := 9) d_Mo_accept_8 rfl rfl ?_
  refine zk_iald (pc2 := 10) d_Mo_accept_9 rfl (by rfl) rfl (by omega) (by decide) ?_
  refine zk_callV (pc2 := 13) s_Mo_114 v_Mo_letter4 (zl_c546) (c_Mo_letter4F hc) d_Mo_accept_10 rfl rfl rfl (Nat.le_of_ble_eq_true rfl) (by decide) (by decide) ?_
  refine zx_if_ne (pc2 := 16) d_Mo_accept_13 rfl (tgt := 18) (by decide) (fun cz => absurd (rfl) cz) (fun _ => ?_)
  refine zx_iconst (pc2 := 17) (v := nI 0) d_Mo_accept_16 rfl (by decide) ?_
  exact zx_iret d_Mo_accept_17 rfl (⟨rfl, rfl, rfl⟩)
/-- memory, letters, how many were sent: after k stations -/
def gm_aa (M : zm_M) (c p pl len : Nat) (f : Nat → Nat) : Nat → zm_M × Nat × Nat
  | 0 => (M, c, 0)
  | s + 1 => if (gm_aa M c p pl len f s).2.1 < 60 then (gm_acc (gm_aa M c p pl len f s).1 (gm_aa M c p pl len f s).2.1 p pl s len f ((len + 2) / 3), (gm_aa M c p pl len f s).2.1 + 1, (gm_aa M c p pl len f s).2.2 + 1) else gm_aa M c p pl len f s
theorem gm_aa_inv {c p pl len : Nat} {f : Nat → Nat} (hc : zm_I M 546 5 = nI c) (h60 : c ≤ 60) : ∀ k, zm_I (gm_aa M c p pl len f k).1 546 5 = nI (gm_aa M c p pl len f k).2.1 ∧ (gm_aa M c p pl len f k).2.1 ≤ 60 ∧ ∀ r x, r ≠ 551 → r ≠ 552 → r ≠ 546 → zm_I (gm_aa M c p pl len f k).1 r x = zm_I M r x
  | 0 => ⟨hc, h60, fun _ _ _ _ _ => rfl⟩
  | k + 1 => by
    obtain ⟨i1, i2, i3⟩ := gm_aa_inv (p := p) (pl := pl) (len := len) (f := f) hc h60 k
    unfold gm_aa
    by_cases h : (gm_aa M c p pl len f k).2.1 < 60
    · rw [if_pos h]
      exact ⟨gm_acc_c, by show _ + 1 ≤ 60; omega, fun r x h1 h2 h3 => (gm_acc_n h1 h2 h3).trans (i3 r x h1 h2 h3)⟩
    · rw [if_neg h]
      exact ⟨i1, i2, i3⟩
theorem c_Mo_acceptAll {c p pl len : Nat} {f : Nat → Nat} (hT : gt_ok M) (hc : zm_I M 546 5 = nI c) (h60 : c ≤ 60) (hp : p < 2) (hpl : pl < 8) (hln : zm_I M 561 (8 * p + pl) = nI len) (hlen : len ≤ 24) (hb : gb_ok M 563 (24 * (8 * p + pl)) len f) : zK l D ar b Z y_Mo_acceptAll 3 [.ref (b + 546), .int (nI p), .int (nI pl)] M n (some (.int (nI (gm_aa M c p pl len f 7).2.2))) (gm_aa M c p pl len f 7).1 := by
  refine zk_entry (L := [some (.ref (b + 546)), some (.int (nI p)), some (.int (nI pl)), none, none]) rfl rfl (Nat.le_of_ble_eq_true rfl) rfl rfl ?_
  refine zx_iconst (pc2 := 1) (v := nI 0) d_Mo_acceptAll_0 rfl (by decide) ?_
  refine zx_ist3 (pc2 := 2) d_Mo_acceptAll_1 rfl rfl (by decide) ?_
  refine zx_iconst (pc2 := 3) (v := nI 0) d_Mo_acceptAll_2 rfl (by decide) ?_
  refine zx_ist4 (pc2 := 5) d_Mo_acceptAll_3 rfl rfl (by decide) ?_
  refine zx_for (X := fun k => zk_X l D ar b Z y_Mo_acceptAll 3 (some (.int (nI (gm_aa M c p pl len f 7).2.2))) (gm_aa M c p pl len f 7).1 n 5 [some (.ref (b + 546)), some (.int (nI p)), some (.int (nI pl)), some (.int (nI (gm_aa M c p pl len f k).2.2)), some (.int (nI k))] [] (gm_aa M c p pl len f k).1) 7 ?_ ?_ 0 (Nat.zero_le _)
  · refine zx_iload (pc2 := 7) d_Mo_acceptAll_5 rfl rfl ?_
    refine zx_bipush (pc2 := 9) (v := nI 7) d_Mo_acceptAll_7 rfl (by decide) ?_
    refine zx_icmp_ge (pc2 := 12) d_Mo_acceptAll_9 rfl (tgt := 29) (by decide) (fun _ => ?_) (fun cz => absurd (nI_le (Nat.le_refl 7) (by decide)) cz)
    refine zx_iload_n (pc2 := 30) d_Mo_acceptAll_29 rfl rfl ?_
    exact zx_iret d_Mo_acceptAll_30 rfl (⟨rfl, rfl, rfl⟩)
  · intro k hk ih
    obtain ⟨i1, i2, i3⟩ := gm_aa_inv (p := p) (pl := pl) (len := len) (f := f) hc h60 k
    by_cases h : (gm_aa M c p pl len f k).2.1 < 60
    · have eS : gm_aa M c p pl len f (k + 1) = _ := if_pos h
      rw [eS] at ih
      dsimp only at ih
      refine zx_iload (pc2 := 7) d_Mo_acceptAll_5 rfl rfl ?_
      refine zx_bipush (pc2 := 9) (v := nI 7) d_Mo_acceptAll_7 rfl (by decide) ?_
      refine zx_icmp_ge (pc2 := 12) d_Mo_acceptAll_9 rfl (tgt := 29) (by decide) (fun cz => absurd cz (nI_ge hk (by decide))) (fun _ => ?_)
      refine zx_iload_n (pc2 := 13) d_Mo_acceptAll_12 rfl rfl ?_
      refine zx_aload_n (pc2 := 14) d_Mo_acceptAll_13 rfl rfl ?_
      refine zx_iload_n (pc2 := 15) d_Mo_acceptAll_14 rfl rfl ?_
      refine zx_iload_n (pc2 := 16) d_Mo_acceptAll_15 rfl rfl ?_
      refine zx_iload (pc2 := 18) d_Mo_acceptAll_16 rfl rfl ?_
      refine zk_callV (pc2 := 21) s_Mo_122 v_Mo_accept (zl_c546) (c_Mo_accept1 (gt_fr i3 hT) i1 h hp hpl hk ((i3 _ _ (by decide) (by decide) (by decide)).trans hln) hlen (fun x hx => ⟨(i3 _ _ (by decide) (by decide) (by decide)).trans (hb x hx).1, (hb x hx).2⟩)) d_Mo_acceptAll_18 rfl rfl rfl (Nat.le_of_ble_eq_true rfl) (by decide) (by decide) ?_
      first | refine zx_iaddN (pc2 := 22) d_Mo_acceptAll_21 rfl ?_ | refine zx_iadd (pc2 := 22) d_Mo_acceptAll_21 rfl ?_
      refine zx_ist3 (pc2 := 23) d_Mo_acceptAll_22 rfl rfl (by decide) ?_
      refine zx_inc4 (pc2 := 26) d_Mo_acceptAll_23 rfl (zk_1 _) rfl (by decide) ?_
      refine zx_goto (tgt := 5) d_Mo_acceptAll_26 (by decide) ?_
      exact ih
    · have eS : gm_aa M c p pl len f (k + 1) = gm_aa M c p pl len f k := if_neg h
      rw [eS] at ih
      have h6 : (gm_aa M c p pl len f k).2.1 = 60 := by omega
      rw [h6] at i1
      refine zx_iload (pc2 := 7) d_Mo_acceptAll_5 rfl rfl ?_
      refine zx_bipush (pc2 := 9) (v := nI 7) d_Mo_acceptAll_7 rfl (by decide) ?_
      refine zx_icmp_ge (pc2 := 12) d_Mo_acceptAll_9 rfl (tgt := 29) (by decide) (fun cz => absurd cz (nI_ge hk (by decide))) (fun _ => ?_)
      refine zx_iload_n (pc2 := 13) d_Mo_acceptAll_12 rfl rfl ?_
      refine zx_aload_n (pc2 := 14) d_Mo_acceptAll_13 rfl rfl ?_
      refine zx_iload_n (pc2 := 15) d_Mo_acceptAll_14 rfl rfl ?_
      refine zx_iload_n (pc2 := 16) d_Mo_acceptAll_15 rfl rfl ?_
      refine zx_iload (pc2 := 18) d_Mo_acceptAll_16 rfl rfl ?_
      refine zk_callV (pc2 := 21) s_Mo_122 v_Mo_accept (zl_c546) (c_Mo_accept0 hp i1) d_Mo_acceptAll_18 rfl rfl rfl (Nat.le_of_ble_eq_true rfl) (by decide) (by decide) ?_
      first | refine zx_iaddN (pc2 := 22) d_Mo_acceptAll_21 rfl ?_ | refine zx_iadd (pc2 := 22) d_Mo_acceptAll_21 rfl ?_
      refine zx_ist3 (pc2 := 23) d_Mo_acceptAll_22 rfl rfl (by decide) ?_
      refine zx_inc4 (pc2 := 26) d_Mo_acceptAll_23 rfl (zk_1 _) rfl (by decide) ?_
      refine zx_goto (tgt := 5) d_Mo_acceptAll_26 (by decide) ?_
      exact ih
end C55
