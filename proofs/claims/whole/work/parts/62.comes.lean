/-! LogHouseModel: a letter comes to a station; an acceptance comes to a proposer -/
theorem nI_and7 : ∀ pl, pl < 8 → nI pl &&& nI 7 = nI pl := by decide
def gs_an (M : zm_M) (p pl s : Nat) : Int32 := zm_I M 562 (8 * p + pl) ||| (nI 1 <<< (nI s &&& 31))
def gm_acd (M : zm_M) (s p pl : Nat) : zm_M :=
  if zm_I M 553 p = nI 2 ∧ zm_I M 570 3 = zm_I M 554 p ∧ zm_I M 560 (8 * p + pl) ≠ 0 ∧ zm_I M 560 (8 * p + pl) = zm_I M 570 5 then
    (if nI 5 ≤ gs_bits (gs_an M p pl s) 7 then zm_wI (zm_wI (zm_wI M 562 (8 * p + pl) (gs_an M p pl s)) 559 (8 * p + pl) (zm_I M 560 (8 * p + pl))) 560 (8 * p + pl) (nI 0) else zm_wI M 562 (8 * p + pl) (gs_an M p pl s))
  else M
def gm_cp (M : zm_M) (s p c : Nat) (bal : Int32) (k : Nat) : zm_M := gm_up (gm_l4 (zm_wI M 547 s bal) c (nI 1) (nI s) (nI p) bal) 552 (88 * c) k (fun x => zm_I M 550 (88 * s + x))
def gm_ca0 (M : zm_M) (s pl len : Nat) (bal id : Int32) (k : Nat) : zm_M := gm_up (zm_wI (zm_wI (zm_wI (zm_wI M 547 s bal) 550 (88 * s + 11 * pl) bal) 550 (88 * s + 11 * pl + 1) id) 550 (88 * s + 11 * pl + 2) (nI len)) 550 (88 * s + 11 * pl + 3) k (fun x => if x < (len + 2) / 3 then zm_I M 571 x else nI 0)
theorem gm_ca0_n {M : zm_M} {s pl len k r x : Nat} {bal id : Int32} (h : r ≠ 547) (h5 : r ≠ 550) : zm_I (gm_ca0 M s pl len bal id k) r x = zm_I M r x := by
  unfold gm_ca0
  rw [gm_upn (Or.inl h5), zm_In (Or.inl h5), zm_In (Or.inl h5), zm_In (Or.inl h5), zm_In (Or.inl h)]
def gm_ca (M : zm_M) (s p pl len c : Nat) (bal id : Int32) : zm_M := zm_wI (zm_wI (gm_l4 (gm_ca0 M s pl len bal id 8) c (nI 3) (nI s) (nI p) bal) 551 (7 * c + 4) (nI pl)) 551 (7 * c + 5) id
section C62
variable {l : Launch} {D : va_G} {ar : Nat → ClassId} {b : Nat} {Z : State → Prop} {M : zm_M} {n : Nat}
theorem c_Mo_acceptedComes {s p pl : Nat} (hp : p < 2) (hpl : pl < 8) (h4 : zm_I M 570 4 = nI pl) : zK l D ar b Z y_Mo_acceptedComes 1 [.ref (b + 546), .int (nI s), .int (nI p)] M n none (gm_acd M s p pl) := by
  refine zk_entry (L := [some (.ref (b + 546)), some (.int (nI s)), some (.int (nI p)), none]) rfl rfl (Nat.le_of_ble_eq_true rfl) rfl rfl ?_
  refine zx_bipush (pc2 := 2) (v := nI 8) d_Mo_acceptedComes_0 rfl (by decide) ?_
  refine zx_iload_n (pc2 := 3) d_Mo_acceptedComes_2 rfl rfl ?_
  first | refine zx_imulN (pc2 := 4) d_Mo_acceptedComes_3 rfl ?_ | refine zx_imul (pc2 := 4) d_Mo_acceptedComes_3 rfl ?_
  refine zx_aload_n (pc2 := 5) d_Mo_acceptedComes_4 rfl rfl ?_
  refine zm_getR (pc2 := 8) f_Mo_90 d_Mo_acceptedComes_5 rfl zl_c546 rfl ?_
  refine zx_iconst (pc2 := 9) (v := nI 4) d_Mo_acceptedComes_8 rfl (by decide) ?_
  refine zk_ialdV (pc2 := 10) d_Mo_acceptedComes_9 rfl (by rfl) rfl (by omega) (by decide) (h4) ?_
  refine zx_bipush (pc2 := 12) (v := nI 7) d_Mo_acceptedComes_10 rfl (by decide) ?_
  refine zx_iand (pc2 := 13) d_Mo_acceptedComes_12 rfl ?_; rw [nI_and7 pl hpl]
  first | refine zx_iaddN (pc2 := 14) d_Mo_acceptedComes_13 rfl ?_ | refine zx_iadd (pc2 := 14) d_Mo_acceptedComes_13 rfl ?_
  refine zx_ist3 (pc2 := 15) d_Mo_acceptedComes_14 rfl rfl (by decide) ?_
  refine zx_aload_n (pc2 := 16) d_Mo_acceptedComes_15 rfl rfl ?_
  refine zm_getR (pc2 := 19) f_Mo_36 d_Mo_acceptedComes_16 rfl zl_c546 rfl ?_
  refine zx_iload_n (pc2 := 20) d_Mo_acceptedComes_19 rfl rfl ?_
  refine zk_iald (pc2 := 21) d_Mo_acceptedComes_20 rfl (by rfl) rfl (by omega) (by decide) ?_
  refine zx_iconst (pc2 := 22) (v := nI 2) d_Mo_acceptedComes_21 rfl (by decide) ?_
  unfold gm_acd
  by_cases c1 : zm_I M 553 p = nI 2
  · by_cases c2 : zm_I M 570 3 = zm_I M 554 p
    · by_cases c3 : zm_I M 560 (8 * p + pl) = 0
      · rw [if_neg (fun z => z.2.2.1 c3)]
        refine zx_icmp_ne (pc2 := 25) d_Mo_acceptedComes_22 rfl (tgt := 64) (by decide) (fun cz => absurd (c1) cz) (fun _ => ?_)
        refine zx_aload_n (pc2 := 26) d_Mo_acceptedComes_25 rfl rfl ?_
        refine zm_getR (pc2 := 29) f_Mo_90 d_Mo_acceptedComes_26 rfl zl_c546 rfl ?_
        refine zx_iconst (pc2 := 30) (v := nI 3) d_Mo_acceptedComes_29 rfl (by decide) ?_
        refine zk_iald (pc2 := 31) d_Mo_acceptedComes_30 rfl (by rfl) rfl (by omega) (by decide) ?_
        refine zx_aload_n (pc2 := 32) d_Mo_acceptedComes_31 rfl rfl ?_
        refine zm_getR (pc2 := 35) f_Mo_39 d_Mo_acceptedComes_32 rfl zl_c546 rfl ?_
        refine zx_iload_n (pc2 := 36) d_Mo_acceptedComes_35 rfl rfl ?_
        refine zk_iald (pc2 := 37) d_Mo_acceptedComes_36 rfl (by rfl) rfl (by omega) (by decide) ?_
        refine zx_icmp_ne (pc2 := 40) d_Mo_acceptedComes_37 rfl (tgt := 64) (by decide) (fun cz => absurd (c2) cz) (fun _ => ?_)
        refine zx_aload_n (pc2 := 41) d_Mo_acceptedComes_40 rfl rfl ?_
        refine zm_getR (pc2 := 44) f_Mo_57 d_Mo_acceptedComes_41 rfl zl_c546 rfl ?_
        refine zx_iload_n (pc2 := 45) d_Mo_acceptedComes_44 rfl rfl ?_
        refine zk_iald (pc2 := 46) d_Mo_acceptedComes_45 rfl (by rfl) rfl (by omega) (by decide) ?_
        refine zx_if_eq (pc2 := 49) d_Mo_acceptedComes_46 rfl (tgt := 64) (by decide) (fun _ => ?_) (fun cz => absurd (c3) cz)
        exact zx_vret d_Mo_acceptedComes_64 rfl (⟨rfl, rfl, rfl⟩)
      · by_cases c4 : zm_I M 560 (8 * p + pl) = zm_I M 570 5
        · rw [if_pos ⟨c1, c2, c3, c4⟩]
          have hbits := c_Mo_bits (l := l) (D := D) (ar := ar) (b := b) (Z := Z) (M := zm_wI M 562 (8 * p + pl) (gs_an M p pl s)) (n := n) (x := gs_an M p pl s)
          by_cases c5 : nI 5 ≤ gs_bits (gs_an M p pl s) 7
          · rw [if_pos c5]
            refine zx_icmp_ne (pc2 := 25) d_Mo_acceptedComes_22 rfl (tgt := 64) (by decide) (fun cz => absurd (c1) cz) (fun _ => ?_)
            refine zx_aload_n (pc2 := 26) d_Mo_acceptedComes_25 rfl rfl ?_
            refine zm_getR (pc2 := 29) f_Mo_90 d_Mo_acceptedComes_26 rfl zl_c546 rfl ?_
            refine zx_iconst (pc2 := 30) (v := nI 3) d_Mo_acceptedComes_29 rfl (by decide) ?_
            refine zk_iald (pc2 := 31) d_Mo_acceptedComes_30 rfl (by rfl) rfl (by omega) (by decide) ?_
            refine zx_aload_n (pc2 := 32) d_Mo_acceptedComes_31 rfl rfl ?_
            refine zm_getR (pc2 := 35) f_Mo_39 d_Mo_acceptedComes_32 rfl zl_c546 rfl ?_
            refine zx_iload_n (pc2 := 36) d_Mo_acceptedComes_35 rfl rfl ?_
            refine zk_iald (pc2 := 37) d_Mo_acceptedComes_36 rfl (by rfl) rfl (by omega) (by decide) ?_
            refine zx_icmp_ne (pc2 := 40) d_Mo_acceptedComes_37 rfl (tgt := 64) (by decide) (fun cz => absurd (c2) cz) (fun _ => ?_)
            refine zx_aload_n (pc2 := 41) d_Mo_acceptedComes_40 rfl rfl ?_
            refine zm_getR (pc2 := 44) f_Mo_57 d_Mo_acceptedComes_41 rfl zl_c546 rfl ?_
            refine zx_iload_n (pc2 := 45) d_Mo_acceptedComes_44 rfl rfl ?_
            refine zk_iald (pc2 := 46) d_Mo_acceptedComes_45 rfl (by rfl) rfl (by omega) (by decide) ?_
            refine zx_if_eq (pc2 := 49) d_Mo_acceptedComes_46 rfl (tgt := 64) (by decide) (fun cz => absurd cz (c3)) (fun _ => ?_)
            refine zx_aload_n (pc2 := 50) d_Mo_acceptedComes_49 rfl rfl ?_
            refine zm_getR (pc2 := 53) f_Mo_57 d_Mo_acceptedComes_50 rfl zl_c546 rfl ?_
            refine zx_iload_n (pc2 := 54) d_Mo_acceptedComes_53 rfl rfl ?_
            refine zk_iald (pc2 := 55) d_Mo_acceptedComes_54 rfl (by rfl) rfl (by omega) (by decide) ?_
            refine zx_aload_n (pc2 := 56) d_Mo_acceptedComes_55 rfl rfl ?_
            refine zm_getR (pc2 := 59) f_Mo_90 d_Mo_acceptedComes_56 rfl zl_c546 rfl ?_
            refine zx_iconst (pc2 := 60) (v := nI 5) d_Mo_acceptedComes_59 rfl (by decide) ?_
            refine zk_iald (pc2 := 61) d_Mo_acceptedComes_60 rfl (by rfl) rfl (by omega) (by decide) ?_
            refine zx_icmp_eq (pc2 := 64) d_Mo_acceptedComes_61 rfl (tgt := 65) (by decide) (fun _ => ?_) (fun cz => absurd (c4) cz)
            refine zx_aload_n (pc2 := 66) d_Mo_acceptedComes_65 rfl rfl ?_
            refine zm_getR (pc2 := 69) f_Mo_63 d_Mo_acceptedComes_66 rfl zl_c546 rfl ?_
            refine zx_iload_n (pc2 := 70) d_Mo_acceptedComes_69 rfl rfl ?_
            refine zx_aload_n (pc2 := 71) d_Mo_acceptedComes_70 rfl rfl ?_
            refine zm_getR (pc2 := 74) f_Mo_63 d_Mo_acceptedComes_71 rfl zl_c546 rfl ?_
            refine zx_iload_n (pc2 := 75) d_Mo_acceptedComes_74 rfl rfl ?_
            refine zk_iald (pc2 := 76) d_Mo_acceptedComes_75 rfl (by rfl) rfl (by omega) (by decide) ?_
            refine zx_iconst (pc2 := 77) (v := nI 1) d_Mo_acceptedComes_76 rfl (by decide) ?_
            refine zx_iload_n (pc2 := 78) d_Mo_acceptedComes_77 rfl rfl ?_
            refine zx_ishl (pc2 := 79) d_Mo_acceptedComes_78 rfl ?_
            refine zx_ior (pc2 := 80) d_Mo_acceptedComes_79 rfl ?_
            refine zk_iast (pc2 := 81) d_Mo_acceptedComes_80 rfl (by rfl) rfl (by omega) (by decide) ?_
            refine zx_aload_n (pc2 := 82) d_Mo_acceptedComes_81 rfl rfl ?_
            refine zm_getR (pc2 := 85) f_Mo_63 d_Mo_acceptedComes_82 rfl zl_c546 rfl ?_
            refine zx_iload_n (pc2 := 86) d_Mo_acceptedComes_85 rfl rfl ?_
            refine zk_ialdV (pc2 := 87) d_Mo_acceptedComes_86 rfl (by rfl) rfl (by omega) (by decide) (zm_Is) ?_
            refine zk_callS (pc2 := 90) s_Mo_133 t_Mo_bits (hbits) d_Mo_acceptedComes_87 rfl rfl rfl (Nat.le_of_ble_eq_true rfl) (by decide) (by decide) ?_
            refine zx_iconst (pc2 := 91) (v := nI 5) d_Mo_acceptedComes_90 rfl (by decide) ?_
            refine zx_icmp_ge (pc2 := 94) d_Mo_acceptedComes_91 rfl (tgt := 95) (by decide) (fun _ => ?_) (fun cz => absurd (c5) cz)
            refine zx_aload_n (pc2 := 96) d_Mo_acceptedComes_95 rfl rfl ?_
            refine zm_getR (pc2 := 99) f_Mo_54 d_Mo_acceptedComes_96 rfl zl_c546 rfl ?_
            refine zx_iload_n (pc2 := 100) d_Mo_acceptedComes_99 rfl rfl ?_
            refine zx_aload_n (pc2 := 101) d_Mo_acceptedComes_100 rfl rfl ?_
            refine zm_getR (pc2 := 104) f_Mo_57 d_Mo_acceptedComes_101 rfl zl_c546 rfl ?_
            refine zx_iload_n (pc2 := 105) d_Mo_acceptedComes_104 rfl rfl ?_
            refine zk_ialdV (pc2 := 106) d_Mo_acceptedComes_105 rfl (by rfl) rfl (by omega) (by decide) (zm_In (Or.inl (by decide))) ?_
            refine zk_iast (pc2 := 107) d_Mo_acceptedComes_106 rfl (by rfl) rfl (by omega) (by decide) ?_
            refine zx_aload_n (pc2 := 108) d_Mo_acceptedComes_107 rfl rfl ?_
            refine zm_getR (pc2 := 111) f_Mo_57 d_Mo_acceptedComes_108 rfl zl_c546 rfl ?_
            refine zx_iload_n (pc2 := 112) d_Mo_acceptedComes_111 rfl rfl ?_
            refine zx_iconst (pc2 := 113) (v := nI 0) d_Mo_acceptedComes_112 rfl (by decide) ?_
            refine zk_iast (pc2 := 114) d_Mo_acceptedComes_113 rfl (by rfl) rfl (by omega) (by decide) ?_
            exact zx_vret d_Mo_acceptedComes_114 rfl (⟨rfl, rfl, rfl⟩)
          · rw [if_neg c5]
            refine zx_icmp_ne (pc2 := 25) d_Mo_acceptedComes_22 rfl (tgt := 64) (by decide) (fun cz => absurd (c1) cz) (fun _ => ?_)
            refine zx_aload_n (pc2 := 26) d_Mo_acceptedComes_25 rfl rfl ?_
            refine zm_getR (pc2 := 29) f_Mo_90 d_Mo_acceptedComes_26 rfl zl_c546 rfl ?_
            refine zx_iconst (pc2 := 30) (v := nI 3) d_Mo_acceptedComes_29 rfl (by decide) ?_
            refine zk_iald (pc2 := 31) d_Mo_acceptedComes_30 rfl (by rfl) rfl (by omega) (by decide) ?_
            refine zx_aload_n (pc2 := 32) d_Mo_acceptedComes_31 rfl rfl ?_
            refine zm_getR (pc2 := 35) f_Mo_39 d_Mo_acceptedComes_32 rfl zl_c546 rfl ?_
            refine zx_iload_n (pc2 := 36) d_Mo_acceptedComes_35 rfl rfl ?_
            refine zk_iald (pc2 := 37) d_Mo_acceptedComes_36 rfl (by rfl) rfl (by omega) (by decide) ?_
            refine zx_icmp_ne (pc2 := 40) d_Mo_acceptedComes_37 rfl (tgt := 64) (by decide) (fun cz => absurd (c2) cz) (fun _ => ?_)
            refine zx_aload_n (pc2 := 41) d_Mo_acceptedComes_40 rfl rfl ?_
            refine zm_getR (pc2 := 44) f_Mo_57 d_Mo_acceptedComes_41 rfl zl_c546 rfl ?_
            refine zx_iload_n (pc2 := 45) d_Mo_acceptedComes_44 rfl rfl ?_
            refine zk_iald (pc2 := 46) d_Mo_acceptedComes_45 rfl (by rfl) rfl (by omega) (by decide) ?_
            refine zx_if_eq (pc2 := 49) d_Mo_acceptedComes_46 rfl (tgt := 64) (by decide) (fun cz => absurd cz (c3)) (fun _ => ?_)
            refine zx_aload_n (pc2 := 50) d_Mo_acceptedComes_49 rfl rfl ?_
            refine zm_getR (pc2 := 53) f_Mo_57 d_Mo_acceptedComes_50 rfl zl_c546 rfl ?_
            refine zx_iload_n (pc2 := 54) d_Mo_acceptedComes_53 rfl rfl ?_
            refine zk_iald (pc2 := 55) d_Mo_acceptedComes_54 rfl (by rfl) rfl (by omega) (by decide) ?_
            refine zx_aload_n (pc2 := 56) d_Mo_acceptedComes_55 rfl rfl ?_
            refine zm_getR (pc2 := 59) f_Mo_90 d_Mo_acceptedComes_56 rfl zl_c546 rfl ?_
            refine zx_iconst (pc2 := 60) (v := nI 5) d_Mo_acceptedComes_59 rfl (by decide) ?_
            refine zk_iald (pc2 := 61) d_Mo_acceptedComes_60 rfl (by rfl) rfl (by omega) (by decide) ?_
            refine zx_icmp_eq (pc2 := 64) d_Mo_acceptedComes_61 rfl (tgt := 65) (by decide) (fun _ => ?_) (fun cz => absurd (c4) cz)
            refine zx_aload_n (pc2 := 66) d_Mo_acceptedComes_65 rfl rfl ?_
            refine zm_getR (pc2 := 69) f_Mo_63 d_Mo_acceptedComes_66 rfl zl_c546 rfl ?_
            refine zx_iload_n (pc2 := 70) d_Mo_acceptedComes_69 rfl rfl ?_
            refine zx_aload_n (pc2 := 71) d_Mo_acceptedComes_70 rfl rfl ?_
            refine zm_getR (pc2 := 74) f_Mo_63 d_Mo_acceptedComes_71 rfl zl_c546 rfl ?_
            refine zx_iload_n (pc2 := 75) d_Mo_acceptedComes_74 rfl rfl ?_
            refine zk_iald (pc2 := 76) d_Mo_acceptedComes_75 rfl (by rfl) rfl (by omega) (by decide) ?_
            refine zx_iconst (pc2 := 77) (v := nI 1) d_Mo_acceptedComes_76 rfl (by decide) ?_
            refine zx_iload_n (pc2 := 78) d_Mo_acceptedComes_77 rfl rfl ?_
            refine zx_ishl (pc2 := 79) d_Mo_acceptedComes_78 rfl ?_
            refine zx_ior (pc2 := 80) d_Mo_acceptedComes_79 rfl ?_
            refine zk_iast (pc2 := 81) d_Mo_acceptedComes_80 rfl (by rfl) rfl (by omega) (by decide) ?_
            refine zx_aload_n (pc2 := 82) d_Mo_acceptedComes_81 rfl rfl ?_
            refine zm_getR (pc2 := 85) f_Mo_63 d_Mo_acceptedComes_82 rfl zl_c546 rfl ?_
            refine zx_iload_n (pc2 := 86) d_Mo_acceptedComes_85 rfl rfl ?_
            refine zk_ialdV (pc2 := 87) d_Mo_acceptedComes_86 rfl (by rfl) rfl (by omega) (by decide) (zm_Is) ?_
            refine zk_callS (pc2 := 90) s_Mo_133 t_Mo_bits (hbits) d_Mo_acceptedComes_87 rfl rfl rfl (Nat.le_of_ble_eq_true rfl) (by decide) (by decide) ?_
            refine zx_iconst (pc2 := 91) (v := nI 5) d_Mo_acceptedComes_90 rfl (by decide) ?_
            refine zx_icmp_ge (pc2 := 94) d_Mo_acceptedComes_91 rfl (tgt := 95) (by decide) (fun cz => absurd cz (c5)) (fun _ => ?_)
            exact zx_vret d_Mo_acceptedComes_94 rfl (⟨rfl, rfl, rfl⟩)
        · rw [if_neg (fun z => c4 z.2.2.2)]
          refine zx_icmp_ne (pc2 := 25) d_Mo_acceptedComes_22 rfl (tgt := 64) (by decide) (fun cz => absurd (c1) cz) (fun _ => ?_)
          refine zx_aload_n (pc2 := 26) d_Mo_acceptedComes_25 rfl rfl ?_
          refine zm_getR (pc2 := 29) f_Mo_90 d_Mo_acceptedComes_26 rfl zl_c546 rfl ?_
          refine zx_iconst (pc2 := 30) (v := nI 3) d_Mo_acceptedComes_29 rfl (by decide) ?_
          refine zk_iald (pc2 := 31) d_Mo_acceptedComes_30 rfl (by rfl) rfl (by omega) (by decide) ?_
          refine zx_aload_n (pc2 := 32) d_Mo_acceptedComes_31 rfl rfl ?_
          refine zm_getR (pc2 := 35) f_Mo_39 d_Mo_acceptedComes_32 rfl zl_c546 rfl ?_
          refine zx_iload_n (pc2 := 36) d_Mo_acceptedComes_35 rfl rfl ?_
          refine zk_iald (pc2 := 37) d_Mo_acceptedComes_36 rfl (by rfl) rfl (by omega) (by decide) ?_
          refine zx_icmp_ne (pc2 := 40) d_Mo_acceptedComes_37 rfl (tgt := 64) (by decide) (fun cz => absurd (c2) cz) (fun _ => ?_)
          refine zx_aload_n (pc2 := 41) d_Mo_acceptedComes_40 rfl rfl ?_
          refine zm_getR (pc2 := 44) f_Mo_57 d_Mo_acceptedComes_41 rfl zl_c546 rfl ?_
          refine zx_iload_n (pc2 := 45) d_Mo_acceptedComes_44 rfl rfl ?_
          refine zk_iald (pc2 := 46) d_Mo_acceptedComes_45 rfl (by rfl) rfl (by omega) (by decide) ?_
          refine zx_if_eq (pc2 := 49) d_Mo_acceptedComes_46 rfl (tgt := 64) (by decide) (fun cz => absurd cz (c3)) (fun _ => ?_)
          refine zx_aload_n (pc2 := 50) d_Mo_acceptedComes_49 rfl rfl ?_
          refine zm_getR (pc2 := 53) f_Mo_57 d_Mo_acceptedComes_50 rfl zl_c546 rfl ?_
          refine zx_iload_n (pc2 := 54) d_Mo_acceptedComes_53 rfl rfl ?_
          refine zk_iald (pc2 := 55) d_Mo_acceptedComes_54 rfl (by rfl) rfl (by omega) (by decide) ?_
          refine zx_aload_n (pc2 := 56) d_Mo_acceptedComes_55 rfl rfl ?_
          refine zm_getR (pc2 := 59) f_Mo_90 d_Mo_acceptedComes_56 rfl zl_c546 rfl ?_
          refine zx_iconst (pc2 := 60) (v := nI 5) d_Mo_acceptedComes_59 rfl (by decide) ?_
          refine zk_iald (pc2 := 61) d_Mo_acceptedComes_60 rfl (by rfl) rfl (by omega) (by decide) ?_
          refine zx_icmp_eq (pc2 := 64) d_Mo_acceptedComes_61 rfl (tgt := 65) (by decide) (fun cz => absurd cz (c4)) (fun _ => ?_)
          exact zx_vret d_Mo_acceptedComes_64 rfl (⟨rfl, rfl, rfl⟩)
    · rw [if_neg (fun z => c2 z.2.1)]
      refine zx_icmp_ne (pc2 := 25) d_Mo_acceptedComes_22 rfl (tgt := 64) (by decide) (fun cz => absurd (c1) cz) (fun _ => ?_)
      refine zx_aload_n (pc2 := 26) d_Mo_acceptedComes_25 rfl rfl ?_
      refine zm_getR (pc2 := 29) f_Mo_90 d_Mo_acceptedComes_26 rfl zl_c546 rfl ?_
      refine zx_iconst (pc2 := 30) (v := nI 3) d_Mo_acceptedComes_29 rfl (by decide) ?_
      refine zk_iald (pc2 := 31) d_Mo_acceptedComes_30 rfl (by rfl) rfl (by omega) (by decide) ?_
      refine zx_aload_n (pc2 := 32) d_Mo_acceptedComes_31 rfl rfl ?_
      refine zm_getR (pc2 := 35) f_Mo_39 d_Mo_acceptedComes_32 rfl zl_c546 rfl ?_
      refine zx_iload_n (pc2 := 36) d_Mo_acceptedComes_35 rfl rfl ?_
      refine zk_iald (pc2 := 37) d_Mo_acceptedComes_36 rfl (by rfl) rfl (by omega) (by decide) ?_
      refine zx_icmp_ne (pc2 := 40) d_Mo_acceptedComes_37 rfl (tgt := 64) (by decide) (fun _ => ?_) (fun cz => absurd cz (c2))
      exact zx_vret d_Mo_acceptedComes_64 rfl (⟨rfl, rfl, rfl⟩)
  · rw [if_neg (fun z => c1 z.1)]
    refine zx_icmp_ne (pc2 := 25) d_Mo_acceptedComes_22 rfl (tgt := 64) (by decide) (fun _ => ?_) (fun cz => absurd cz (c1))
    exact zx_vret d_Mo_acceptedComes_64 rfl (⟨rfl, rfl, rfl⟩)
theorem c_Mo_comesN {s p k : Nat} (hk : k = 0 ∨ k = 2) (h0 : zm_I M 570 0 = nI k) (h1 : zm_I M 570 1 = nI s) (h2 : zm_I M 570 2 = nI p) (hs : s < 7) (hn : zm_I M 548 s ≠ 0 ∨ zm_I M 549 s ≠ 0 ∨ zm_I M 570 3 < zm_I M 547 s) : zK l D ar b Z y_Mo_comes 1 [.ref (b + 546)] M n (some (.int (nI 0))) M := by
  refine zk_entry (L := [some (.ref (b + 546)), none, none, none, none]) rfl rfl (Nat.le_of_ble_eq_true rfl) rfl rfl ?_
  have n1 : ¬ nI k = nI 1 := nI_ne (by omega) (by omega) (by decide)
  have n3 : ¬ nI k = nI 3 := nI_ne (by omega) (by omega) (by decide)
  by_cases c1 : zm_I M 548 s = 0
  · by_cases c2 : zm_I M 549 s = 0
    · have c3 : zm_I M 570 3 < zm_I M 547 s := (hn.resolve_left (fun z => z c1)).resolve_left (fun z => z c2)
      refine zx_aload_n (pc2 := 1) d_Mo_comes_0 rfl rfl ?_
      refine zm_getR (pc2 := 4) f_Mo_90 d_Mo_comes_1 rfl zl_c546 rfl ?_
      refine zx_iconst (pc2 := 5) (v := nI 1) d_Mo_comes_4 rfl (by decide) ?_
      refine zk_ialdV (pc2 := 6) d_Mo_comes_5 rfl (by rfl) rfl (by omega) (by decide) (h1) ?_
      refine zx_ist1 (pc2 := 7) d_Mo_comes_6 rfl rfl (by decide) ?_
      refine zx_aload_n (pc2 := 8) d_Mo_comes_7 rfl rfl ?_
      refine zm_getR (pc2 := 11) f_Mo_90 d_Mo_comes_8 rfl zl_c546 rfl ?_
      refine zx_iconst (pc2 := 12) (v := nI 2) d_Mo_comes_11 rfl (by decide) ?_
      refine zk_ialdV (pc2 := 13) d_Mo_comes_12 rfl (by rfl) rfl (by omega) (by decide) (h2) ?_
      refine zx_ist2 (pc2 := 14) d_Mo_comes_13 rfl rfl (by decide) ?_
      refine zx_aload_n (pc2 := 15) d_Mo_comes_14 rfl rfl ?_
      refine zm_getR (pc2 := 18) f_Mo_90 d_Mo_comes_15 rfl zl_c546 rfl ?_
      refine zx_iconst (pc2 := 19) (v := nI 0) d_Mo_comes_18 rfl (by decide) ?_
      refine zk_ialdV (pc2 := 20) d_Mo_comes_19 rfl (by rfl) rfl (by omega) (by decide) (h0) ?_
      refine zx_iconst (pc2 := 21) (v := nI 1) d_Mo_comes_20 rfl (by decide) ?_
      refine zx_icmp_ne (pc2 := 24) d_Mo_comes_21 rfl (tgt := 31) (by decide) (fun _ => ?_) (fun cz => absurd cz (n1))
      refine zx_aload_n (pc2 := 32) d_Mo_comes_31 rfl rfl ?_
      refine zm_getR (pc2 := 35) f_Mo_90 d_Mo_comes_32 rfl zl_c546 rfl ?_
      refine zx_iconst (pc2 := 36) (v := nI 0) d_Mo_comes_35 rfl (by decide) ?_
      refine zk_ialdV (pc2 := 37) d_Mo_comes_36 rfl (by rfl) rfl (by omega) (by decide) (h0) ?_
      refine zx_iconst (pc2 := 38) (v := nI 3) d_Mo_comes_37 rfl (by decide) ?_
      refine zx_icmp_ne (pc2 := 41) d_Mo_comes_38 rfl (tgt := 49) (by decide) (fun _ => ?_) (fun cz => absurd cz (n3))
      refine zx_aload_n (pc2 := 50) d_Mo_comes_49 rfl rfl ?_
      refine zm_getR (pc2 := 53) f_Mo_17 d_Mo_comes_50 rfl zl_c546 rfl ?_
      refine zx_iload_n (pc2 := 54) d_Mo_comes_53 rfl rfl ?_
      refine zk_zald (pc2 := 55) d_Mo_comes_54 rfl (by rfl) rfl (by omega) (by decide) ?_
      refine zx_if_ne (pc2 := 58) d_Mo_comes_55 rfl (tgt := 82) (by decide) (fun cz => absurd (c1) cz) (fun _ => ?_)
      refine zx_aload_n (pc2 := 59) d_Mo_comes_58 rfl rfl ?_
      refine zm_getR (pc2 := 62) f_Mo_21 d_Mo_comes_59 rfl zl_c546 rfl ?_
      refine zx_iload_n (pc2 := 63) d_Mo_comes_62 rfl rfl ?_
      refine zk_zald (pc2 := 64) d_Mo_comes_63 rfl (by rfl) rfl (by omega) (by decide) ?_
      refine zx_if_ne (pc2 := 67) d_Mo_comes_64 rfl (tgt := 82) (by decide) (fun cz => absurd (c2) cz) (fun _ => ?_)
      refine zx_aload_n (pc2 := 68) d_Mo_comes_67 rfl rfl ?_
      refine zm_getR (pc2 := 71) f_Mo_90 d_Mo_comes_68 rfl zl_c546 rfl ?_
      refine zx_iconst (pc2 := 72) (v := nI 3) d_Mo_comes_71 rfl (by decide) ?_
      refine zk_iald (pc2 := 73) d_Mo_comes_72 rfl (by rfl) rfl (by omega) (by decide) ?_
      refine zx_aload_n (pc2 := 74) d_Mo_comes_73 rfl rfl ?_
      refine zm_getR (pc2 := 77) f_Mo_13 d_Mo_comes_74 rfl zl_c546 rfl ?_
      refine zx_iload_n (pc2 := 78) d_Mo_comes_77 rfl rfl ?_
      refine zk_iald (pc2 := 79) d_Mo_comes_78 rfl (by rfl) rfl (by omega) (by decide) ?_
      refine zx_icmp_ge (pc2 := 82) d_Mo_comes_79 rfl (tgt := 84) (by decide) (fun cz => absurd cz (Int32.not_le.mpr c3)) (fun _ => ?_)
      refine zx_iconst (pc2 := 83) (v := nI 0) d_Mo_comes_82 rfl (by decide) ?_
      exact zx_iret d_Mo_comes_83 rfl (⟨rfl, rfl, rfl⟩)
    · refine zx_aload_n (pc2 := 1) d_Mo_comes_0 rfl rfl ?_
      refine zm_getR (pc2 := 4) f_Mo_90 d_Mo_comes_1 rfl zl_c546 rfl ?_
      refine zx_iconst (pc2 := 5) (v := nI 1) d_Mo_comes_4 rfl (by decide) ?_
      refine zk_ialdV (pc2 := 6) d_Mo_comes_5 rfl (by rfl) rfl (by omega) (by decide) (h1) ?_
      refine zx_ist1 (pc2 := 7) d_Mo_comes_6 rfl rfl (by decide) ?_
      refine zx_aload_n (pc2 := 8) d_Mo_comes_7 rfl rfl ?_
      refine zm_getR (pc2 := 11) f_Mo_90 d_Mo_comes_8 rfl zl_c546 rfl ?_
      refine zx_iconst (pc2 := 12) (v := nI 2) d_Mo_comes_11 rfl (by decide) ?_
      refine zk_ialdV (pc2 := 13) d_Mo_comes_12 rfl (by rfl) rfl (by omega) (by decide) (h2) ?_
      refine zx_ist2 (pc2 := 14) d_Mo_comes_13 rfl rfl (by decide) ?_
      refine zx_aload_n (pc2 := 15) d_Mo_comes_14 rfl rfl ?_
      refine zm_getR (pc2 := 18) f_Mo_90 d_Mo_comes_15 rfl zl_c546 rfl ?_
      refine zx_iconst (pc2 := 19) (v := nI 0) d_Mo_comes_18 rfl (by decide) ?_
      refine zk_ialdV (pc2 := 20) d_Mo_comes_19 rfl (by rfl) rfl (by omega) (by decide) (h0) ?_
      refine zx_iconst (pc2 := 21) (v := nI 1) d_Mo_comes_20 rfl (by decide) ?_
      refine zx_icmp_ne (pc2 := 24) d_Mo_comes_21 rfl (tgt := 31) (by decide) (fun _ => ?_) (fun cz => absurd cz (n1))
      refine zx_aload_n (pc2 := 32) d_Mo_comes_31 rfl rfl ?_
      refine zm_getR (pc2 := 35) f_Mo_90 d_Mo_comes_32 rfl zl_c546 rfl ?_
      refine zx_iconst (pc2 := 36) (v := nI 0) d_Mo_comes_35 rfl (by decide) ?_
      refine zk_ialdV (pc2 := 37) d_Mo_comes_36 rfl (by rfl) rfl (by omega) (by decide) (h0) ?_
      refine zx_iconst (pc2 := 38) (v := nI 3) d_Mo_comes_37 rfl (by decide) ?_
      refine zx_icmp_ne (pc2 := 41) d_Mo_comes_38 rfl (tgt := 49) (by decide) (fun _ => ?_) (fun cz => absurd cz (n3))
      refine zx_aload_n (pc2 := 50) d_Mo_comes_49 rfl rfl ?_
      refine zm_getR (pc2 := 53) f_Mo_17 d_Mo_comes_50 rfl zl_c546 rfl ?_
      refine zx_iload_n (pc2 := 54) d_Mo_comes_53 rfl rfl ?_
      refine zk_zald (pc2 := 55) d_Mo_comes_54 rfl (by rfl) rfl (by omega) (by decide) ?_
      refine zx_if_ne (pc2 := 58) d_Mo_comes_55 rfl (tgt := 82) (by decide) (fun cz => absurd (c1) cz) (fun _ => ?_)
      refine zx_aload_n (pc2 := 59) d_Mo_comes_58 rfl rfl ?_
      refine zm_getR (pc2 := 62) f_Mo_21 d_Mo_comes_59 rfl zl_c546 rfl ?_
      refine zx_iload_n (pc2 := 63) d_Mo_comes_62 rfl rfl ?_
      refine zk_zald (pc2 := 64) d_Mo_comes_63 rfl (by rfl) rfl (by omega) (by decide) ?_
      refine zx_if_ne (pc2 := 67) d_Mo_comes_64 rfl (tgt := 82) (by decide) (fun _ => ?_) (fun cz => absurd cz (c2))
      refine zx_iconst (pc2 := 83) (v := nI 0) d_Mo_comes_82 rfl (by decide) ?_
      exact zx_iret d_Mo_comes_83 rfl (⟨rfl, rfl, rfl⟩)
  · refine zx_aload_n (pc2 := 1) d_Mo_comes_0 rfl rfl ?_
    refine zm_getR (pc2 := 4) f_Mo_90 d_Mo_comes_1 rfl zl_c546 rfl ?_
    refine zx_iconst (pc2 := 5) (v := nI 1) d_Mo_comes_4 rfl (by decide) ?_
    refine zk_ialdV (pc2 := 6) d_Mo_comes_5 rfl (by rfl) rfl (by omega) (by decide) (h1) ?_
    refine zx_ist1 (pc2 := 7) d_Mo_comes_6 rfl rfl (by decide) ?_
    refine zx_aload_n (pc2 := 8) d_Mo_comes_7 rfl rfl ?_
    refine zm_getR (pc2 := 11) f_Mo_90 d_Mo_comes_8 rfl zl_c546 rfl ?_
    refine zx_iconst (pc2 := 12) (v := nI 2) d_Mo_comes_11 rfl (by decide) ?_
    refine zk_ialdV (pc2 := 13) d_Mo_comes_12 rfl (by rfl) rfl (by omega) (by decide) (h2) ?_
    refine zx_ist2 (pc2 := 14) d_Mo_comes_13 rfl rfl (by decide) ?_
    refine zx_aload_n (pc2 := 15) d_Mo_comes_14 rfl rfl ?_
    refine zm_getR (pc2 := 18) f_Mo_90 d_Mo_comes_15 rfl zl_c546 rfl ?_
    refine zx_iconst (pc2 := 19) (v := nI 0) d_Mo_comes_18 rfl (by decide) ?_
    refine zk_ialdV (pc2 := 20) d_Mo_comes_19 rfl (by rfl) rfl (by omega) (by decide) (h0) ?_
    refine zx_iconst (pc2 := 21) (v := nI 1) d_Mo_comes_20 rfl (by decide) ?_
    refine zx_icmp_ne (pc2 := 24) d_Mo_comes_21 rfl (tgt := 31) (by decide) (fun _ => ?_) (fun cz => absurd cz (n1))
    refine zx_aload_n (pc2 := 32) d_Mo_comes_31 rfl rfl ?_
    refine zm_getR (pc2 := 35) f_Mo_90 d_Mo_comes_32 rfl zl_c546 rfl ?_
    refine zx_iconst (pc2 := 36) (v := nI 0) d_Mo_comes_35 rfl (by decide) ?_
    refine zk_ialdV (pc2 := 37) d_Mo_comes_36 rfl (by rfl) rfl (by omega) (by decide) (h0) ?_
    refine zx_iconst (pc2 := 38) (v := nI 3) d_Mo_comes_37 rfl (by decide) ?_
    refine zx_icmp_ne (pc2 := 41) d_Mo_comes_38 rfl (tgt := 49) (by decide) (fun _ => ?_) (fun cz => absurd cz (n3))
    refine zx_aload_n (pc2 := 50) d_Mo_comes_49 rfl rfl ?_
    refine zm_getR (pc2 := 53) f_Mo_17 d_Mo_comes_50 rfl zl_c546 rfl ?_
    refine zx_iload_n (pc2 := 54) d_Mo_comes_53 rfl rfl ?_
    refine zk_zald (pc2 := 55) d_Mo_comes_54 rfl (by rfl) rfl (by omega) (by decide) ?_
    refine zx_if_ne (pc2 := 58) d_Mo_comes_55 rfl (tgt := 82) (by decide) (fun _ => ?_) (fun cz => absurd cz (c1))
    refine zx_iconst (pc2 := 83) (v := nI 0) d_Mo_comes_82 rfl (by decide) ?_
    exact zx_iret d_Mo_comes_83 rfl (⟨rfl, rfl, rfl⟩)
theorem c_Mo_comesP1 {s p c : Nat} {bal : Int32} (h0 : zm_I M 570 0 = nI 0) (h1 : zm_I M 570 1 = nI s) (h2 : zm_I M 570 2 = nI p) (h3 : zm_I M 570 3 = bal) (hs : s < 7) (u1 : zm_I M 548 s = 0) (u2 : zm_I M 549 s = 0) (u3 : zm_I M 547 s ≤ bal) (hc : zm_I M 546 5 = nI c) (h60 : c < 60) : zK l D ar b Z y_Mo_comes 1 [.ref (b + 546)] M n (some (.int (nI 1))) (gm_cp M s p c bal 88) := by
  have hc' : zm_I (zm_wI M 547 s bal) 546 5 = nI c := (zm_In (Or.inl (by decide))).trans hc
  refine zk_entry (L := [some (.ref (b + 546)), none, none, none, none]) rfl rfl (Nat.le_of_ble_eq_true rfl) rfl rfl ?_
  refine zx_aload_n (pc2 := 1) d_Mo_comes_0 rfl rfl ?_
  refine zm_getR (pc2 := 4) f_Mo_90 d_Mo_comes_1 rfl zl_c546 rfl ?_
  refine zx_iconst (pc2 := 5) (v := nI 1) d_Mo_comes_4 rfl (by decide) ?_
  refine zk_ialdV (pc2 := 6) d_Mo_comes_5 rfl (by rfl) rfl (by omega) (by decide) (h1) ?_
  refine zx_ist1 (pc2 := 7) d_Mo_comes_6 rfl rfl (by decide) ?_
  refine zx_aload_n (pc2 := 8) d_Mo_comes_7 rfl rfl ?_
  refine zm_getR (pc2 := 11) f_Mo_90 d_Mo_comes_8 rfl zl_c546 rfl ?_
  refine zx_iconst (pc2 := 12) (v := nI 2) d_Mo_comes_11 rfl (by decide) ?_
  refine zk_ialdV (pc2 := 13) d_Mo_comes_12 rfl (by rfl) rfl (by omega) (by decide) (h2) ?_
  refine zx_ist2 (pc2 := 14) d_Mo_comes_13 rfl rfl (by decide) ?_
  refine zx_aload_n (pc2 := 15) d_Mo_comes_14 rfl rfl ?_
  refine zm_getR (pc2 := 18) f_Mo_90 d_Mo_comes_15 rfl zl_c546 rfl ?_
  refine zx_iconst (pc2 := 19) (v := nI 0) d_Mo_comes_18 rfl (by decide) ?_
  refine zk_ialdV (pc2 := 20) d_Mo_comes_19 rfl (by rfl) rfl (by omega) (by decide) (h0) ?_
  refine zx_iconst (pc2 := 21) (v := nI 1) d_Mo_comes_20 rfl (by decide) ?_
  refine zx_icmp_ne (pc2 := 24) d_Mo_comes_21 rfl (tgt := 31) (by decide) (fun _ => ?_) (fun cz => absurd cz (by decide))
  refine zx_aload_n (pc2 := 32) d_Mo_comes_31 rfl rfl ?_
  refine zm_getR (pc2 := 35) f_Mo_90 d_Mo_comes_32 rfl zl_c546 rfl ?_
  refine zx_iconst (pc2 := 36) (v := nI 0) d_Mo_comes_35 rfl (by decide) ?_
  refine zk_ialdV (pc2 := 37) d_Mo_comes_36 rfl (by rfl) rfl (by omega) (by decide) (h0) ?_
  refine zx_iconst (pc2 := 38) (v := nI 3) d_Mo_comes_37 rfl (by decide) ?_
  refine zx_icmp_ne (pc2 := 41) d_Mo_comes_38 rfl (tgt := 49) (by decide) (fun _ => ?_) (fun cz => absurd cz (by decide))
  refine zx_aload_n (pc2 := 50) d_Mo_comes_49 rfl rfl ?_
  refine zm_getR (pc2 := 53) f_Mo_17 d_Mo_comes_50 rfl zl_c546 rfl ?_
  refine zx_iload_n (pc2 := 54) d_Mo_comes_53 rfl rfl ?_
  refine zk_zald (pc2 := 55) d_Mo_comes_54 rfl (by rfl) rfl (by omega) (by decide) ?_
  refine zx_if_ne (pc2 := 58) d_Mo_comes_55 rfl (tgt := 82) (by decide) (fun cz => absurd (u1) cz) (fun _ => ?_)
  refine zx_aload_n (pc2 := 59) d_Mo_comes_58 rfl rfl ?_
  refine zm_getR (pc2 := 62) f_Mo_21 d_Mo_comes_59 rfl zl_c546 rfl ?_
  refine zx_iload_n (pc2 := 63) d_Mo_comes_62 rfl rfl ?_
  refine zk_zald (pc2 := 64) d_Mo_comes_63 rfl (by rfl) rfl (by omega) (by decide) ?_
  refine zx_if_ne (pc2 := 67) d_Mo_comes_64 rfl (tgt := 82) (by decide) (fun cz => absurd (u2) cz) (fun _ => ?_)
  refine zx_aload_n (pc2 := 68) d_Mo_comes_67 rfl rfl ?_
  refine zm_getR (pc2 := 71) f_Mo_90 d_Mo_comes_68 rfl zl_c546 rfl ?_
  refine zx_iconst (pc2 := 72) (v := nI 3) d_Mo_comes_71 rfl (by decide) ?_
  refine zk_ialdV (pc2 := 73) d_Mo_comes_72 rfl (by rfl) rfl (by omega) (by decide) (h3) ?_
  refine zx_aload_n (pc2 := 74) d_Mo_comes_73 rfl rfl ?_
  refine zm_getR (pc2 := 77) f_Mo_13 d_Mo_comes_74 rfl zl_c546 rfl ?_
  refine zx_iload_n (pc2 := 78) d_Mo_comes_77 rfl rfl ?_
  refine zk_iald (pc2 := 79) d_Mo_comes_78 rfl (by rfl) rfl (by omega) (by decide) ?_
  refine zx_icmp_ge (pc2 := 82) d_Mo_comes_79 rfl (tgt := 84) (by decide) (fun _ => ?_) (fun cz => absurd (u3) cz)
  refine zx_aload_n (pc2 := 85) d_Mo_comes_84 rfl rfl ?_
  refine zm_getR (pc2 := 88) f_Mo_13 d_Mo_comes_85 rfl zl_c546 rfl ?_
  refine zx_iload_n (pc2 := 89) d_Mo_comes_88 rfl rfl ?_
  refine zx_aload_n (pc2 := 90) d_Mo_comes_89 rfl rfl ?_
  refine zm_getR (pc2 := 93) f_Mo_90 d_Mo_comes_90 rfl zl_c546 rfl ?_
  refine zx_iconst (pc2 := 94) (v := nI 3) d_Mo_comes_93 rfl (by decide) ?_
  refine zk_ialdV (pc2 := 95) d_Mo_comes_94 rfl (by rfl) rfl (by omega) (by decide) (h3) ?_
  refine zk_iast (pc2 := 96) d_Mo_comes_95 rfl (by rfl) rfl (by omega) (by decide) ?_
  refine zx_aload_n (pc2 := 97) d_Mo_comes_96 rfl rfl ?_
  refine zm_getR (pc2 := 100) f_Mo_90 d_Mo_comes_97 rfl zl_c546 rfl ?_
  refine zx_iconst (pc2 := 101) (v := nI 0) d_Mo_comes_100 rfl (by decide) ?_
  refine zk_ialdV (pc2 := 102) d_Mo_comes_101 rfl (by rfl) rfl (by omega) (by decide) ((zm_In (Or.inl (by decide))).trans h0) ?_
  refine zx_if_ne (pc2 := 105) d_Mo_comes_102 rfl (tgt := 167) (by decide) (fun cz => absurd (rfl) cz) (fun _ => ?_)
  refine zx_aload_n (pc2 := 106) d_Mo_comes_105 rfl rfl ?_
  refine zx_iconst (pc2 := 107) (v := nI 1) d_Mo_comes_106 rfl (by decide) ?_
  refine zx_iload_n (pc2 := 108) d_Mo_comes_107 rfl rfl ?_
  refine zx_iload_n (pc2 := 109) d_Mo_comes_108 rfl rfl ?_
  refine zx_aload_n (pc2 := 110) d_Mo_comes_109 rfl rfl ?_
  refine zm_getR (pc2 := 113) f_Mo_90 d_Mo_comes_110 rfl zl_c546 rfl ?_
  refine zx_iconst (pc2 := 114) (v := nI 3) d_Mo_comes_113 rfl (by decide) ?_
  refine zk_ialdV (pc2 := 115) d_Mo_comes_114 rfl (by rfl) rfl (by omega) (by decide) ((zm_In (Or.inl (by decide))).trans h3) ?_
  refine zk_callV (pc2 := 118) s_Mo_114 v_Mo_letter4 (zl_c546) (c_Mo_letter4 hc' h60) d_Mo_comes_115 rfl rfl rfl (Nat.le_of_ble_eq_true rfl) (by decide) (by decide) ?_
  refine zx_if_ne (pc2 := 121) d_Mo_comes_118 rfl (tgt := 123) (by decide) (fun _ => ?_) (fun cz => absurd cz (by decide))
  refine zx_iconst (pc2 := 124) (v := nI 0) d_Mo_comes_123 rfl (by decide) ?_
  refine zx_ist3 (pc2 := 125) d_Mo_comes_124 rfl rfl (by decide) ?_
  have e0 : gm_cp M s p c bal 0 = gm_l4 (zm_wI M 547 s bal) c (nI 1) (nI s) (nI p) bal := gm_up0
  refine Eq.mp (congrArg (fun w => zk_X l D ar b Z y_Mo_comes 1 (some (.int (nI 1))) (gm_cp M s p c bal 88) n 125 [some (.ref (b + 546)), some (.int (nI s)), some (.int (nI p)), some (.int (nI 0)), none] [] w) e0) ?_
  refine zx_for (X := fun k => zk_X l D ar b Z y_Mo_comes 1 (some (.int (nI 1))) (gm_cp M s p c bal 88) n 125 [some (.ref (b + 546)), some (.int (nI s)), some (.int (nI p)), some (.int (nI k)), none] [] (gm_cp M s p c bal k)) 88 ?_ ?_ 0 (Nat.zero_le _)
  · refine zx_iload_n (pc2 := 126) d_Mo_comes_125 rfl rfl ?_
    refine zx_bipush (pc2 := 128) (v := nI 88) d_Mo_comes_126 rfl (by decide) ?_
    refine zx_icmp_ge (pc2 := 131) d_Mo_comes_128 rfl (tgt := 165) (by decide) (fun _ => ?_) (fun cz => absurd (nI_le (Nat.le_refl 88) (by decide)) cz)
    refine zx_iconst (pc2 := 166) (v := nI 1) d_Mo_comes_165 rfl (by decide) ?_
    exact zx_iret d_Mo_comes_166 rfl (⟨rfl, rfl, rfl⟩)
  · intro k hk ih
    have eS : gm_cp M s p c bal (k + 1) = zm_wI (gm_cp M s p c bal k) 552 (88 * c + k) (zm_I M 550 (88 * s + k)) := gm_upS.symm
    rw [eS] at ih
    refine zx_iload_n (pc2 := 126) d_Mo_comes_125 rfl rfl ?_
    refine zx_bipush (pc2 := 128) (v := nI 88) d_Mo_comes_126 rfl (by decide) ?_
    refine zx_icmp_ge (pc2 := 131) d_Mo_comes_128 rfl (tgt := 165) (by decide) (fun cz => absurd cz (nI_ge hk (by decide))) (fun _ => ?_)
    refine zx_aload_n (pc2 := 132) d_Mo_comes_131 rfl rfl ?_
    refine zm_getR (pc2 := 135) f_Mo_33 d_Mo_comes_132 rfl zl_c546 rfl ?_
    refine zx_bipush (pc2 := 137) (v := nI 88) d_Mo_comes_135 rfl (by decide) ?_
    refine zx_aload_n (pc2 := 138) d_Mo_comes_137 rfl rfl ?_
    refine zm_getV (pc2 := 141) f_Mo_27 d_Mo_comes_138 rfl zl_c546 rfl ((gm_upn (Or.inl (by decide))).trans gl4_c) ?_
    first | refine zx_imulN (pc2 := 142) d_Mo_comes_141 rfl ?_ | refine zx_imul (pc2 := 142) d_Mo_comes_141 rfl ?_
    refine zx_bipush (pc2 := 144) (v := nI 88) d_Mo_comes_142 rfl (by decide) ?_
    refine zx_isubE (88 * c) (pc2 := 145) d_Mo_comes_144 rfl (by omega) ?_
    refine zx_iload_n (pc2 := 146) d_Mo_comes_145 rfl rfl ?_
    first | refine zx_iaddN (pc2 := 147) d_Mo_comes_146 rfl ?_ | refine zx_iadd (pc2 := 147) d_Mo_comes_146 rfl ?_
    refine zx_aload_n (pc2 := 148) d_Mo_comes_147 rfl rfl ?_
    refine zm_getR (pc2 := 151) f_Mo_24 d_Mo_comes_148 rfl zl_c546 rfl ?_
    refine zx_bipush (pc2 := 153) (v := nI 88) d_Mo_comes_151 rfl (by decide) ?_
    refine zx_iload_n (pc2 := 154) d_Mo_comes_153 rfl rfl ?_
    first | refine zx_imulN (pc2 := 155) d_Mo_comes_154 rfl ?_ | refine zx_imul (pc2 := 155) d_Mo_comes_154 rfl ?_
    refine zx_iload_n (pc2 := 156) d_Mo_comes_155 rfl rfl ?_
    first | refine zx_iaddN (pc2 := 157) d_Mo_comes_156 rfl ?_ | refine zx_iadd (pc2 := 157) d_Mo_comes_156 rfl ?_
    refine zk_ialdV (pc2 := 158) d_Mo_comes_157 rfl (by rfl) rfl (by omega) (by decide) ((gm_upn (Or.inl (by decide))).trans ((gl4_n (by decide) (by decide)).trans (zm_In (Or.inl (by decide))))) ?_
    refine zk_iast (pc2 := 159) d_Mo_comes_158 rfl (by rfl) rfl (by omega) (by decide) ?_
    refine zx_inc3 (pc2 := 162) d_Mo_comes_159 rfl (zk_1 _) rfl (by decide) ?_
    refine zx_goto (tgt := 125) d_Mo_comes_162 (by decide) ?_
    exact ih
theorem c_Mo_comesP0 {s p : Nat} {bal : Int32} (h0 : zm_I M 570 0 = nI 0) (h1 : zm_I M 570 1 = nI s) (h2 : zm_I M 570 2 = nI p) (h3 : zm_I M 570 3 = bal) (hs : s < 7) (u1 : zm_I M 548 s = 0) (u2 : zm_I M 549 s = 0) (u3 : zm_I M 547 s ≤ bal) (hc : zm_I M 546 5 = nI 60) : zK l D ar b Z y_Mo_comes 1 [.ref (b + 546)] M n (some (.int (nI 0))) (zm_wI M 547 s bal) := by
  have hc' : zm_I (zm_wI M 547 s bal) 546 5 = nI 60 := (zm_In (Or.inl (by decide))).trans hc
  refine zk_entry (L := [some (.ref (b + 546)), none, none, none, none]) rfl rfl (Nat.le_of_ble_eq_true rfl) rfl rfl ?_
  refine zx_aload_n (pc2 := 1) d_Mo_comes_0 rfl rfl ?_
  refine zm_getR (pc2 := 4) f_Mo_90 d_Mo_comes_1 rfl zl_c546 rfl ?_
  refine zx_iconst (pc2 := 5) (v := nI 1) d_Mo_comes_4 rfl (by decide) ?_
  refine zk_ialdV (pc2 := 6) d_Mo_comes_5 rfl (by rfl) rfl (by omega) (by decide) (h1) ?_
  refine zx_ist1 (pc2 := 7) d_Mo_comes_6 rfl rfl (by decide) ?_
  refine zx_aload_n (pc2 := 8) d_Mo_comes_7 rfl rfl ?_
  refine zm_getR (pc2 := 11) f_Mo_90 d_Mo_comes_8 rfl zl_c546 rfl ?_
  refine zx_iconst (pc2 := 12) (v := nI 2) d_Mo_comes_11 rfl (by decide) ?_
  refine zk_ialdV (pc2 := 13) d_Mo_comes_12 rfl (by rfl) rfl (by omega) (by decide) (h2) ?_
  refine zx_ist2 (pc2 := 14) d_Mo_comes_13 rfl rfl (by decide) ?_
  refine zx_aload_n (pc2 := 15) d_Mo_comes_14 rfl rfl ?_
  refine zm_getR (pc2 := 18) f_Mo_90 d_Mo_comes_15 rfl zl_c546 rfl ?_
  refine zx_iconst (pc2 := 19) (v := nI 0) d_Mo_comes_18 rfl (by decide) ?_
  refine zk_ialdV (pc2 := 20) d_Mo_comes_19 rfl (by rfl) rfl (by omega) (by decide) (h0) ?_
  refine zx_iconst (pc2 := 21) (v := nI 1) d_Mo_comes_20 rfl (by decide) ?_
  refine zx_icmp_ne (pc2 := 24) d_Mo_comes_21 rfl (tgt := 31) (by decide) (fun _ => ?_) (fun cz => absurd cz (by decide))
  refine zx_aload_n (pc2 := 32) d_Mo_comes_31 rfl rfl ?_
  refine zm_getR (pc2 := 35) f_Mo_90 d_Mo_comes_32 rfl zl_c546 rfl ?_
  refine zx_iconst (pc2 := 36) (v := nI 0) d_Mo_comes_35 rfl (by decide) ?_
  refine zk_ialdV (pc2 := 37) d_Mo_comes_36 rfl (by rfl) rfl (by omega) (by decide) (h0) ?_
  refine zx_iconst (pc2 := 38) (v := nI 3) d_Mo_comes_37 rfl (by decide) ?_
  refine zx_icmp_ne (pc2 := 41) d_Mo_comes_38 rfl (tgt := 49) (by decide) (fun _ => ?_) (fun cz => absurd cz (by decide))
  refine zx_aload_n (pc2 := 50) d_Mo_comes_49 rfl rfl ?_
  refine zm_getR (pc2 := 53) f_Mo_17 d_Mo_comes_50 rfl zl_c546 rfl ?_
  refine zx_iload_n (pc2 := 54) d_Mo_comes_53 rfl rfl ?_
  refine zk_zald (pc2 := 55) d_Mo_comes_54 rfl (by rfl) rfl (by omega) (by decide) ?_
  refine zx_if_ne (pc2 := 58) d_Mo_comes_55 rfl (tgt := 82) (by decide) (fun cz => absurd (u1) cz) (fun _ => ?_)
  refine zx_aload_n (pc2 := 59) d_Mo_comes_58 rfl rfl ?_
  refine zm_getR (pc2 := 62) f_Mo_21 d_Mo_comes_59 rfl zl_c546 rfl ?_
  refine zx_iload_n (pc2 := 63) d_Mo_comes_62 rfl rfl ?_
  refine zk_zald (pc2 := 64) d_Mo_comes_63 rfl (by rfl) rfl (by omega) (by decide) ?_
  refine zx_if_ne (pc2 := 67) d_Mo_comes_64 rfl (tgt := 82) (by decide) (fun cz => absurd (u2) cz) (fun _ => ?_)
  refine zx_aload_n (pc2 := 68) d_Mo_comes_67 rfl rfl ?_
  refine zm_getR (pc2 := 71) f_Mo_90 d_Mo_comes_68 rfl zl_c546 rfl ?_
  refine zx_iconst (pc2 := 72) (v := nI 3) d_Mo_comes_71 rfl (by decide) ?_
  refine zk_ialdV (pc2 := 73) d_Mo_comes_72 rfl (by rfl) rfl (by omega) (by decide) (h3) ?_
  refine zx_aload_n (pc2 := 74) d_Mo_comes_73 rfl rfl ?_
  refine zm_getR (pc2 := 77) f_Mo_13 d_Mo_comes_74 rfl zl_c546 rfl ?_
  refine zx_iload_n (pc2 := 78) d_Mo_comes_77 rfl rfl ?_
  refine zk_iald (pc2 := 79) d_Mo_comes_78 rfl (by rfl) rfl (by omega) (by decide) ?_
  refine zx_icmp_ge (pc2 := 82) d_Mo_comes_79 rfl (tgt := 84) (by decide) (fun _ => ?_) (fun cz => absurd (u3) cz)
  refine zx_aload_n (pc2 := 85) d_Mo_comes_84 rfl rfl ?_
  refine zm_getR (pc2 := 88) f_Mo_13 d_Mo_comes_85 rfl zl_c546 rfl ?_
  refine zx_iload_n (pc2 := 89) d_Mo_comes_88 rfl rfl ?_
  refine zx_aload_n (pc2 := 90) d_Mo_comes_89 rfl rfl ?_
  refine zm_getR (pc2 := 93) f_Mo_90 d_Mo_comes_90 rfl zl_c546 rfl ?_
  refine zx_iconst (pc2 := 94) (v := nI 3) d_Mo_comes_93 rfl (by decide) ?_
  refine zk_ialdV (pc2 := 95) d_Mo_comes_94 rfl (by rfl) rfl (by omega) (by decide) (h3) ?_
  refine zk_iast (pc2 := 96) d_Mo_comes_95 rfl (by rfl) rfl (by omega) (by decide) ?_
  refine zx_aload_n (pc2 := 97) d_Mo_comes_96 rfl rfl ?_
  refine zm_getR (pc2 := 100) f_Mo_90 d_Mo_comes_97 rfl zl_c546 rfl ?_
  refine zx_iconst (pc2 := 101) (v := nI 0) d_Mo_comes_100 rfl (by decide) ?_
  refine zk_ialdV (pc2 := 102) d_Mo_comes_101 rfl (by rfl) rfl (by omega) (by decide) ((zm_In (Or.inl (by decide))).trans h0) ?_
  refine zx_if_ne (pc2 := 105) d_Mo_comes_102 rfl (tgt := 167) (by decide) (fun cz => absurd (rfl) cz) (fun _ => ?_)
  refine zx_aload_n (pc2 := 106) d_Mo_comes_105 rfl rfl ?_
  refine zx_iconst (pc2 := 107) (v := nI 1) d_Mo_comes_106 rfl (by decide) ?_
  refine zx_iload_n (pc2 := 108) d_Mo_comes_107 rfl rfl ?_
  refine zx_iload_n (pc2 := 109) d_Mo_comes_108 rfl rfl ?_
  refine zx_aload_n (pc2 := 110) d_Mo_comes_109 rfl rfl ?_
  refine zm_getR (pc2 := 113) f_Mo_90 d_Mo_comes_110 rfl zl_c546 rfl ?_
  refine zx_iconst (pc2 := 114) (v := nI 3) d_Mo_comes_113 rfl (by decide) ?_
  refine zk_ialdV (pc2 := 115) d_Mo_comes_114 rfl (by rfl) rfl (by omega) (by decide) ((zm_In (Or.inl (by decide))).trans h3) ?_
  refine zk_callV (pc2 := 118) s_Mo_114 v_Mo_letter4 (zl_c546) (c_Mo_letter4F hc') d_Mo_comes_115 rfl rfl rfl (Nat.le_of_ble_eq_true rfl) (by decide) (by decide) ?_
  refine zx_if_ne (pc2 := 121) d_Mo_comes_118 rfl (tgt := 123) (by decide) (fun cz => absurd (rfl) cz) (fun _ => ?_)
  refine zx_iconst (pc2 := 122) (v := nI 0) d_Mo_comes_121 rfl (by decide) ?_
  exact zx_iret d_Mo_comes_122 rfl (⟨rfl, rfl, rfl⟩)
theorem c_Mo_comesA {s p pl len : Nat} {bal id r : Int32} {ME : zm_M} (h0 : zm_I M 570 0 = nI 2) (h1 : zm_I M 570 1 = nI s) (h2 : zm_I M 570 2 = nI p) (h3 : zm_I M 570 3 = bal) (h4 : zm_I M 570 4 = nI pl) (h5 : zm_I M 570 5 = id) (h6 : zm_I M 570 6 = nI len) (hs : s < 7) (hpl : pl < 8) (hlen : len ≤ 24) (u1 : zm_I M 548 s = 0) (u2 : zm_I M 549 s = 0) (u3 : zm_I M 547 s ≤ bal)
    (kk : zk_X l D ar b Z y_Mo_comes 1 (some (.int r)) ME n 276 [some (.ref (b + 546)), some (.int (nI s)), some (.int (nI p)), some (.int (nI (88 * s + 11 * pl))), some (.int (nI 8))] [] (gm_ca0 M s pl len bal id 8)) : zK l D ar b Z y_Mo_comes 1 [.ref (b + 546)] M n (some (.int r)) ME := by
  have hT3 : ∀ W, zK l D ar b Z y_Mo_third 0 [.int (nI len)] W n (some (.int (nI ((len + 2) / 3)))) W := by
    intro W
    have := c_Mo_third (l := l) (D := D) (ar := ar) (b := b) (Z := Z) (M := W) (n := n) (x := nI len)
    rwa [gs_third_nI (by omega)] at this
  refine zk_entry (L := [some (.ref (b + 546)), none, none, none, none]) rfl rfl (Nat.le_of_ble_eq_true rfl) rfl rfl ?_
  refine zx_aload_n (pc2 := 1) d_Mo_comes_0 rfl rfl ?_
  refine zm_getR (pc2 := 4) f_Mo_90 d_Mo_comes_1 rfl zl_c546 rfl ?_
  refine zx_iconst (pc2 := 5) (v := nI 1) d_Mo_comes_4 rfl (by decide) ?_
  refine zk_ialdV (pc2 := 6) d_Mo_comes_5 rfl (by rfl) rfl (by omega) (by decide) (h1) ?_
  refine zx_ist1 (pc2 := 7) d_Mo_comes_6 rfl rfl (by decide) ?_
  refine zx_aload_n (pc2 := 8) d_Mo_comes_7 rfl rfl ?_
  refine zm_getR (pc2 := 11) f_Mo_90 d_Mo_comes_8 rfl zl_c546 rfl ?_
  refine zx_iconst (pc2 := 12) (v := nI 2) d_Mo_comes_11 rfl (by decide) ?_
  refine zk_ialdV (pc2 := 13) d_Mo_comes_12 rfl (by rfl) rfl (by omega) (by decide) (h2) ?_
  refine zx_ist2 (pc2 := 14) d_Mo_comes_13 rfl rfl (by decide) ?_
  refine zx_aload_n (pc2 := 15) d_Mo_comes_14 rfl rfl ?_
  refine zm_getR (pc2 := 18) f_Mo_90 d_Mo_comes_15 rfl zl_c546 rfl ?_
  refine zx_iconst (pc2 := 19) (v := nI 0) d_Mo_comes_18 rfl (by decide) ?_
  refine zk_ialdV (pc2 := 20) d_Mo_comes_19 rfl (by rfl) rfl (by omega) (by decide) (h0) ?_
  refine zx_iconst (pc2 := 21) (v := nI 1) d_Mo_comes_20 rfl (by decide) ?_
  refine zx_icmp_ne (pc2 := 24) d_Mo_comes_21 rfl (tgt := 31) (by decide) (fun _ => ?_) (fun cz => absurd cz (by decide))
  refine zx_aload_n (pc2 := 32) d_Mo_comes_31 rfl rfl ?_
  refine zm_getR (pc2 := 35) f_Mo_90 d_Mo_comes_32 rfl zl_c546 rfl ?_
  refine zx_iconst (pc2 := 36) (v := nI 0) d_Mo_comes_35 rfl (by decide) ?_
  refine zk_ialdV (pc2 := 37) d_Mo_comes_36 rfl (by rfl) rfl (by omega) (by decide) (h0) ?_
  refine zx_iconst (pc2 := 38) (v := nI 3) d_Mo_comes_37 rfl (by decide) ?_
  refine zx_icmp_ne (pc2 := 41) d_Mo_comes_38 rfl (tgt := 49) (by decide) (fun _ => ?_) (fun cz => absurd cz (by decide))
  refine zx_aload_n (pc2 := 50) d_Mo_comes_49 rfl rfl ?_
  refine zm_getR (pc2 := 53) f_Mo_17 d_Mo_comes_50 rfl zl_c546 rfl ?_
  refine zx_iload_n (pc2 := 54) d_Mo_comes_53 rfl rfl ?_
  refine zk_zald (pc2 := 55) d_Mo_comes_54 rfl (by rfl) rfl (by omega) (by decide) ?_
  refine zx_if_ne (pc2 := 58) d_Mo_comes_55 rfl (tgt := 82) (by decide) (fun cz => absurd (u1) cz) (fun _ => ?_)
  refine zx_aload_n (pc2 := 59) d_Mo_comes_58 rfl rfl ?_
  refine zm_getR (pc2 := 62) f_Mo_21 d_Mo_comes_59 rfl zl_c546 rfl ?_
  refine zx_iload_n (pc2 := 63) d_Mo_comes_62 rfl rfl ?_
  refine zk_zald (pc2 := 64) d_Mo_comes_63 rfl (by rfl) rfl (by omega) (by decide) ?_
  refine zx_if_ne (pc2 := 67) d_Mo_comes_64 rfl (tgt := 82) (by decide) (fun cz => absurd (u2) cz) (fun _ => ?_)
  refine zx_aload_n (pc2 := 68) d_Mo_comes_67 rfl rfl ?_
  refine zm_getR (pc2 := 71) f_Mo_90 d_Mo_comes_68 rfl zl_c546 rfl ?_
  refine zx_iconst (pc2 := 72) (v := nI 3) d_Mo_comes_71 rfl (by decide) ?_
  refine zk_ialdV (pc2 := 73) d_Mo_comes_72 rfl (by rfl) rfl (by omega) (by decide) (h3) ?_
  refine zx_aload_n (pc2 := 74) d_Mo_comes_73 rfl rfl ?_
  refine zm_getR (pc2 := 77) f_Mo_13 d_Mo_comes_74 rfl zl_c546 rfl ?_
  refine zx_iload_n (pc2 := 78) d_Mo_comes_77 rfl rfl ?_
  refine zk_iald (pc2 := 79) d_Mo_comes_78 rfl (by rfl) rfl (by omega) (by decide) ?_
  refine zx_icmp_ge (pc2 := 82) d_Mo_comes_79 rfl (tgt := 84) (by decide) (fun _ => ?_) (fun cz => absurd (u3) cz)
  refine zx_aload_n (pc2 := 85) d_Mo_comes_84 rfl rfl ?_
  refine zm_getR (pc2 := 88) f_Mo_13 d_Mo_comes_85 rfl zl_c546 rfl ?_
  refine zx_iload_n (pc2 := 89) d_Mo_comes_88 rfl rfl ?_
  refine zx_aload_n (pc2 := 90) d_Mo_comes_89 rfl rfl ?_
  refine zm_getR (pc2 := 93) f_Mo_90 d_Mo_comes_90 rfl zl_c546 rfl ?_
  refine zx_iconst (pc2 := 94) (v := nI 3) d_Mo_comes_93 rfl (by decide) ?_
  refine zk_ialdV (pc2 := 95) d_Mo_comes_94 rfl (by rfl) rfl (by omega) (by decide) (h3) ?_
  refine zk_iast (pc2 := 96) d_Mo_comes_95 rfl (by rfl) rfl (by omega) (by decide) ?_
  refine zx_aload_n (pc2 := 97) d_Mo_comes_96 rfl rfl ?_
  refine zm_getR (pc2 := 100) f_Mo_90 d_Mo_comes_97 rfl zl_c546 rfl ?_
  refine zx_iconst (pc2 := 101) (v := nI 0) d_Mo_comes_100 rfl (by decide) ?_
  refine zk_ialdV (pc2 := 102) d_Mo_comes_101 rfl (by rfl) rfl (by omega) (by decide) ((zm_In (Or.inl (by decide))).trans h0) ?_
  refine zx_if_ne (pc2 := 105) d_Mo_comes_102 rfl (tgt := 167) (by decide) (fun _ => ?_) (fun cz => absurd cz (by decide))
  refine zx_bipush (pc2 := 169) (v := nI 88) d_Mo_comes_167 rfl (by decide) ?_
  refine zx_iload_n (pc2 := 170) d_Mo_comes_169 rfl rfl ?_
  first | refine zx_imulN (pc2 := 171) d_Mo_comes_170 rfl ?_ | refine zx_imul (pc2 := 171) d_Mo_comes_170 rfl ?_
  refine zx_bipush (pc2 := 173) (v := nI 11) d_Mo_comes_171 rfl (by decide) ?_
  refine zx_aload_n (pc2 := 174) d_Mo_comes_173 rfl rfl ?_
  refine zm_getR (pc2 := 177) f_Mo_90 d_Mo_comes_174 rfl zl_c546 rfl ?_
  refine zx_iconst (pc2 := 178) (v := nI 4) d_Mo_comes_177 rfl (by decide) ?_
  refine zk_ialdV (pc2 := 179) d_Mo_comes_178 rfl (by rfl) rfl (by omega) (by decide) ((zm_In (Or.inl (by decide))).trans h4) ?_
  first | refine zx_imulN (pc2 := 180) d_Mo_comes_179 rfl ?_ | refine zx_imul (pc2 := 180) d_Mo_comes_179 rfl ?_
  first | refine zx_iaddN (pc2 := 181) d_Mo_comes_180 rfl ?_ | refine zx_iadd (pc2 := 181) d_Mo_comes_180 rfl ?_
  refine zx_ist3 (pc2 := 182) d_Mo_comes_181 rfl rfl (by decide) ?_
  refine zx_aload_n (pc2 := 183) d_Mo_comes_182 rfl rfl ?_
  refine zm_getR (pc2 := 186) f_Mo_24 d_Mo_comes_183 rfl zl_c546 rfl ?_
  refine zx_iload_n (pc2 := 187) d_Mo_comes_186 rfl rfl ?_
  refine zx_aload_n (pc2 := 188) d_Mo_comes_187 rfl rfl ?_
  refine zm_getR (pc2 := 191) f_Mo_90 d_Mo_comes_188 rfl zl_c546 rfl ?_
  refine zx_iconst (pc2 := 192) (v := nI 3) d_Mo_comes_191 rfl (by decide) ?_
  refine zk_ialdV (pc2 := 193) d_Mo_comes_192 rfl (by rfl) rfl (by omega) (by decide) ((zm_In (Or.inl (by decide))).trans h3) ?_
  refine zk_iast (pc2 := 194) d_Mo_comes_193 rfl (by rfl) rfl (by omega) (by decide) ?_
  refine zx_aload_n (pc2 := 195) d_Mo_comes_194 rfl rfl ?_
  refine zm_getR (pc2 := 198) f_Mo_24 d_Mo_comes_195 rfl zl_c546 rfl ?_
  refine zx_iload_n (pc2 := 199) d_Mo_comes_198 rfl rfl ?_
  refine zx_iconst (pc2 := 200) (v := nI 1) d_Mo_comes_199 rfl (by decide) ?_
  first | refine zx_iaddN (pc2 := 201) d_Mo_comes_200 rfl ?_ | refine zx_iadd (pc2 := 201) d_Mo_comes_200 rfl ?_
  refine zx_aload_n (pc2 := 202) d_Mo_comes_201 rfl rfl ?_
  refine zm_getR (pc2 := 205) f_Mo_90 d_Mo_comes_202 rfl zl_c546 rfl ?_
  refine zx_iconst (pc2 := 206) (v := nI 5) d_Mo_comes_205 rfl (by decide) ?_
  refine zk_ialdV (pc2 := 207) d_Mo_comes_206 rfl (by rfl) rfl (by omega) (by decide) ((zm_In (Or.inl (by decide))).trans ((zm_In (Or.inl (by decide))).trans h5)) ?_
  refine zk_iast (pc2 := 208) d_Mo_comes_207 rfl (by rfl) rfl (by omega) (by decide) ?_
  refine zx_aload_n (pc2 := 209) d_Mo_comes_208 rfl rfl ?_
  refine zm_getR (pc2 := 212) f_Mo_24 d_Mo_comes_209 rfl zl_c546 rfl ?_
  refine zx_iload_n (pc2 := 213) d_Mo_comes_212 rfl rfl ?_
  refine zx_iconst (pc2 := 214) (v := nI 2) d_Mo_comes_213 rfl (by decide) ?_
  first | refine zx_iaddN (pc2 := 215) d_Mo_comes_214 rfl ?_ | refine zx_iadd (pc2 := 215) d_Mo_comes_214 rfl ?_
  refine zx_aload_n (pc2 := 216) d_Mo_comes_215 rfl rfl ?_
  refine zm_getR (pc2 := 219) f_Mo_90 d_Mo_comes_216 rfl zl_c546 rfl ?_
  refine zx_bipush (pc2 := 221) (v := nI 6) d_Mo_comes_219 rfl (by decide) ?_
  refine zk_ialdV (pc2 := 222) d_Mo_comes_221 rfl (by rfl) rfl (by omega) (by decide) ((zm_In (Or.inl (by decide))).trans ((zm_In (Or.inl (by decide))).trans ((zm_In (Or.inl (by decide))).trans h6))) ?_
  refine zk_iast (pc2 := 223) d_Mo_comes_222 rfl (by rfl) rfl (by omega) (by decide) ?_
  refine zx_iconst (pc2 := 224) (v := nI 0) d_Mo_comes_223 rfl (by decide) ?_
  refine zx_ist4 (pc2 := 226) d_Mo_comes_224 rfl rfl (by decide) ?_
  have e0 : gm_ca0 M s pl len bal id 0 = _ := gm_up0
  refine Eq.mp (congrArg (fun w => zk_X l D ar b Z y_Mo_comes 1 (some (.int r)) ME n 226 [some (.ref (b + 546)), some (.int (nI s)), some (.int (nI p)), some (.int (nI (88 * s + 11 * pl))), some (.int (nI 0))] [] w) e0) ?_
  refine zx_for (X := fun k => zk_X l D ar b Z y_Mo_comes 1 (some (.int r)) ME n 226 [some (.ref (b + 546)), some (.int (nI s)), some (.int (nI p)), some (.int (nI (88 * s + 11 * pl))), some (.int (nI k))] [] (gm_ca0 M s pl len bal id k)) 8 ?_ ?_ 0 (Nat.zero_le _)
  · refine zx_iload (pc2 := 228) d_Mo_comes_226 rfl rfl ?_
    refine zx_bipush (pc2 := 230) (v := nI 8) d_Mo_comes_228 rfl (by decide) ?_
    refine zx_icmp_ge (pc2 := 233) d_Mo_comes_230 rfl (tgt := 276) (by decide) (fun _ => ?_) (fun cz => absurd (nI_le (Nat.le_refl 8) (by decide)) cz)
    exact kk
  · intro k hk ih
    have eS : gm_ca0 M s pl len bal id (k + 1) = zm_wI (gm_ca0 M s pl len bal id k) 550 (88 * s + 11 * pl + 3 + k) (if k < (len + 2) / 3 then zm_I M 571 k else nI 0) := gm_upS.symm
    rw [eS] at ih
    by_cases c : k < (len + 2) / 3
    · rw [if_pos c] at ih
      refine zx_iload (pc2 := 228) d_Mo_comes_226 rfl rfl ?_
      refine zx_bipush (pc2 := 230) (v := nI 8) d_Mo_comes_228 rfl (by decide) ?_
      refine zx_icmp_ge (pc2 := 233) d_Mo_comes_230 rfl (tgt := 276) (by decide) (fun cz => absurd cz (nI_ge hk (by decide))) (fun _ => ?_)
      refine zx_aload_n (pc2 := 234) d_Mo_comes_233 rfl rfl ?_
      refine zm_getR (pc2 := 237) f_Mo_24 d_Mo_comes_234 rfl zl_c546 rfl ?_
      refine zx_iload_n (pc2 := 238) d_Mo_comes_237 rfl rfl ?_
      refine zx_iconst (pc2 := 239) (v := nI 3) d_Mo_comes_238 rfl (by decide) ?_
      first | refine zx_iaddN (pc2 := 240) d_Mo_comes_239 rfl ?_ | refine zx_iadd (pc2 := 240) d_Mo_comes_239 rfl ?_
      refine zx_iload (pc2 := 242) d_Mo_comes_240 rfl rfl ?_
      first | refine zx_iaddN (pc2 := 243) d_Mo_comes_242 rfl ?_ | refine zx_iadd (pc2 := 243) d_Mo_comes_242 rfl ?_
      refine zx_iload (pc2 := 245) d_Mo_comes_243 rfl rfl ?_
      refine zx_aload_n (pc2 := 246) d_Mo_comes_245 rfl rfl ?_
      refine zm_getR (pc2 := 249) f_Mo_90 d_Mo_comes_246 rfl zl_c546 rfl ?_
      refine zx_bipush (pc2 := 251) (v := nI 6) d_Mo_comes_249 rfl (by decide) ?_
      refine zk_ialdV (pc2 := 252) d_Mo_comes_251 rfl (by rfl) rfl (by omega) (by decide) ((gm_ca0_n (by decide) (by decide)).trans h6) ?_
      refine zk_callS (pc2 := 255) s_Mo_100 t_Mo_third (hT3 _) d_Mo_comes_252 rfl rfl rfl (Nat.le_of_ble_eq_true rfl) (by decide) (by decide) ?_
      refine zx_icmp_ge (pc2 := 258) d_Mo_comes_255 rfl (tgt := 268) (by decide) (fun cz => absurd cz (nI_ge c (by omega))) (fun _ => ?_)
      refine zx_aload_n (pc2 := 259) d_Mo_comes_258 rfl rfl ?_
      refine zm_getR (pc2 := 262) f_Mo_93 d_Mo_comes_259 rfl zl_c546 rfl ?_
      refine zx_iload (pc2 := 264) d_Mo_comes_262 rfl rfl ?_
      refine zk_ialdV (pc2 := 265) d_Mo_comes_264 rfl (by rfl) rfl (by omega) (by decide) (gm_ca0_n (by decide) (by decide)) ?_
      refine zx_goto (tgt := 269) d_Mo_comes_265 (by decide) ?_
      refine zk_iast (pc2 := 270) d_Mo_comes_269 rfl (by rfl) rfl (by omega) (by decide) ?_
      refine zx_inc4 (pc2 := 273) d_Mo_comes_270 rfl (zk_1 _) rfl (by decide) ?_
      refine zx_goto (tgt := 226) d_Mo_comes_273 (by decide) ?_
      exact ih
    · rw [if_neg c] at ih
      refine zx_iload (pc2 := 228) d_Mo_comes_226 rfl rfl ?_
      refine zx_bipush (pc2 := 230) (v := nI 8) d_Mo_comes_228 rfl (by decide) ?_
      refine zx_icmp_ge (pc2 := 233) d_Mo_comes_230 rfl (tgt := 276) (by decide) (fun cz => absurd cz (nI_ge hk (by decide))) (fun _ => ?_)
      refine zx_aload_n (pc2 := 234) d_Mo_comes_233 rfl rfl ?_
      refine zm_getR (pc2 := 237) f_Mo_24 d_Mo_comes_234 rfl zl_c546 rfl ?_
      refine zx_iload_n (pc2 := 238) d_Mo_comes_237 rfl rfl ?_
      refine zx_iconst (pc2 := 239) (v := nI 3) d_Mo_comes_238 rfl (by decide) ?_
      first | refine zx_iaddN (pc2 := 240) d_Mo_comes_239 rfl ?_ | refine zx_iadd (pc2 := 240) d_Mo_comes_239 rfl ?_
      refine zx_iload (pc2 := 242) d_Mo_comes_240 rfl rfl ?_
      first | refine zx_iaddN (pc2 := 243) d_Mo_comes_242 rfl ?_ | refine zx_iadd (pc2 := 243) d_Mo_comes_242 rfl ?_
      refine zx_iload (pc2 := 245) d_Mo_comes_243 rfl rfl ?_
      refine zx_aload_n (pc2 := 246) d_Mo_comes_245 rfl rfl ?_
      refine zm_getR (pc2 := 249) f_Mo_90 d_Mo_comes_246 rfl zl_c546 rfl ?_
      refine zx_bipush (pc2 := 251) (v := nI 6) d_Mo_comes_249 rfl (by decide) ?_
      refine zk_ialdV (pc2 := 252) d_Mo_comes_251 rfl (by rfl) rfl (by omega) (by decide) ((gm_ca0_n (by decide) (by decide)).trans h6) ?_
      refine zk_callS (pc2 := 255) s_Mo_100 t_Mo_third (hT3 _) d_Mo_comes_252 rfl rfl rfl (Nat.le_of_ble_eq_true rfl) (by decide) (by decide) ?_
      refine zx_icmp_ge (pc2 := 258) d_Mo_comes_255 rfl (tgt := 268) (by decide) (fun _ => ?_) (fun cz => absurd (nI_le (by omega) (by omega)) cz)
      refine zx_iconst (pc2 := 269) (v := nI 0) d_Mo_comes_268 rfl (by decide) ?_
      refine zk_iast (pc2 := 270) d_Mo_comes_269 rfl (by rfl) rfl (by omega) (by decide) ?_
      refine zx_inc4 (pc2 := 273) d_Mo_comes_270 rfl (zk_1 _) rfl (by decide) ?_
      refine zx_goto (tgt := 226) d_Mo_comes_273 (by decide) ?_
      exact ih
theorem c_Mo_comesA1 {s p pl len c : Nat} {bal id : Int32} (h0 : zm_I M 570 0 = nI 2) (h1 : zm_I M 570 1 = nI s) (h2 : zm_I M 570 2 = nI p) (h3 : zm_I M 570 3 = bal) (h4 : zm_I M 570 4 = nI pl) (h5 : zm_I M 570 5 = id) (h6 : zm_I M 570 6 = nI len) (hs : s < 7) (hpl : pl < 8) (hlen : len ≤ 24) (u1 : zm_I M 548 s = 0) (u2 : zm_I M 549 s = 0) (u3 : zm_I M 547 s ≤ bal) (hc : zm_I M 546 5 = nI c) (h60 : c < 60) : zK l D ar b Z y_Mo_comes 1 [.ref (b + 546)] M n (some (.int (nI 1))) (gm_ca M s p pl len c bal id) := by
  have hc' : zm_I (gm_ca0 M s pl len bal id 8) 546 5 = nI c := (gm_ca0_n (by decide) (by decide)).trans hc
  refine c_Mo_comesA h0 h1 h2 h3 h4 h5 h6 hs hpl hlen u1 u2 u3 ?_
  refine zx_aload_n (pc2 := 277) d_Mo_comes_276 rfl rfl ?_
  refine zx_iconst (pc2 := 278) (v := nI 3) d_Mo_comes_277 rfl (by decide) ?_
  refine zx_iload_n (pc2 := 279) d_Mo_comes_278 rfl rfl ?_
  refine zx_iload_n (pc2 := 280) d_Mo_comes_279 rfl rfl ?_
  refine zx_aload_n (pc2 := 281) d_Mo_comes_280 rfl rfl ?_
  refine zm_getR (pc2 := 284) f_Mo_90 d_Mo_comes_281 rfl zl_c546 rfl ?_
  refine zx_iconst (pc2 := 285) (v := nI 3) d_Mo_comes_284 rfl (by decide) ?_
  refine zk_ialdV (pc2 := 286) d_Mo_comes_285 rfl (by rfl) rfl (by omega) (by decide) ((gm_ca0_n (by decide) (by decide)).trans h3) ?_
  refine zk_callV (pc2 := 289) s_Mo_114 v_Mo_letter4 (zl_c546) (c_Mo_letter4 hc' h60) d_Mo_comes_286 rfl rfl rfl (Nat.le_of_ble_eq_true rfl) (by decide) (by decide) ?_
  refine zx_if_ne (pc2 := 292) d_Mo_comes_289 rfl (tgt := 294) (by decide) (fun _ => ?_) (fun cz => absurd cz (by decide))
  refine zx_aload_n (pc2 := 295) d_Mo_comes_294 rfl rfl ?_
  refine zm_getR (pc2 := 298) f_Mo_30 d_Mo_comes_295 rfl zl_c546 rfl ?_
  refine zx_bipush (pc2 := 300) (v := nI 7) d_Mo_comes_298 rfl (by decide) ?_
  refine zx_aload_n (pc2 := 301) d_Mo_comes_300 rfl rfl ?_
  refine zm_getV (pc2 := 304) f_Mo_27 d_Mo_comes_301 rfl zl_c546 rfl (gl4_c) ?_
  first | refine zx_imulN (pc2 := 305) d_Mo_comes_304 rfl ?_ | refine zx_imul (pc2 := 305) d_Mo_comes_304 rfl ?_
  refine zx_iconst (pc2 := 306) (v := nI 3) d_Mo_comes_305 rfl (by decide) ?_
  refine zx_isubE (7 * c + 4) (pc2 := 307) d_Mo_comes_306 rfl (by omega) ?_
  refine zx_aload_n (pc2 := 308) d_Mo_comes_307 rfl rfl ?_
  refine zm_getR (pc2 := 311) f_Mo_90 d_Mo_comes_308 rfl zl_c546 rfl ?_
  refine zx_iconst (pc2 := 312) (v := nI 4) d_Mo_comes_311 rfl (by decide) ?_
  refine zk_ialdV (pc2 := 313) d_Mo_comes_312 rfl (by rfl) rfl (by omega) (by decide) ((gl4_n (by decide) (by decide)).trans ((gm_ca0_n (by decide) (by decide)).trans h4)) ?_
  refine zk_iast (pc2 := 314) d_Mo_comes_313 rfl (by rfl) rfl (by omega) (by decide) ?_
  refine zx_aload_n (pc2 := 315) d_Mo_comes_314 rfl rfl ?_
  refine zm_getR (pc2 := 318) f_Mo_30 d_Mo_comes_315 rfl zl_c546 rfl ?_
  refine zx_bipush (pc2 := 320) (v := nI 7) d_Mo_comes_318 rfl (by decide) ?_
  refine zx_aload_n (pc2 := 321) d_Mo_comes_320 rfl rfl ?_
  refine zm_getV (pc2 := 324) f_Mo_27 d_Mo_comes_321 rfl zl_c546 rfl ((zm_In (Or.inl (by decide))).trans gl4_c) ?_
  first | refine zx_imulN (pc2 := 325) d_Mo_comes_324 rfl ?_ | refine zx_imul (pc2 := 325) d_Mo_comes_324 rfl ?_
  refine zx_iconst (pc2 := 326) (v := nI 2) d_Mo_comes_325 rfl (by decide) ?_
  refine zx_isubE (7 * c + 5) (pc2 := 327) d_Mo_comes_326 rfl (by omega) ?_
  refine zx_aload_n (pc2 := 328) d_Mo_comes_327 rfl rfl ?_
  refine zm_getR (pc2 := 331) f_Mo_90 d_Mo_comes_328 rfl zl_c546 rfl ?_
  refine zx_iconst (pc2 := 332) (v := nI 5) d_Mo_comes_331 rfl (by decide) ?_
  refine zk_ialdV (pc2 := 333) d_Mo_comes_332 rfl (by rfl) rfl (by omega) (by decide) ((zm_In (Or.inl (by decide))).trans ((gl4_n (by decide) (by decide)).trans ((gm_ca0_n (by decide) (by decide)).trans h5))) ?_
  refine zk_iast (pc2 := 334) d_Mo_comes_333 rfl (by rfl) rfl (by omega) (by decide) ?_
  refine zx_iconst (pc2 := 335) (v := nI 1) d_Mo_comes_334 rfl (by decide) ?_
  exact zx_iret d_Mo_comes_335 rfl (⟨rfl, rfl, rfl⟩)
theorem c_Mo_comesA0 {s p pl len : Nat} {bal id : Int32} (h0 : zm_I M 570 0 = nI 2) (h1 : zm_I M 570 1 = nI s) (h2 : zm_I M 570 2 = nI p) (h3 : zm_I M 570 3 = bal) (h4 : zm_I M 570 4 = nI pl) (h5 : zm_I M 570 5 = id) (h6 : zm_I M 570 6 = nI len) (hs : s < 7) (hpl : pl < 8) (hlen : len ≤ 24) (u1 : zm_I M 548 s = 0) (u2 : zm_I M 549 s = 0) (u3 : zm_I M 547 s ≤ bal) (hc : zm_I M 546 5 = nI 60) : zK l D ar b Z y_Mo_comes 1 [.ref (b + 546)] M n (some (.int (nI 0))) (gm_ca0 M s pl len bal id 8) := by
  have hc' : zm_I (gm_ca0 M s pl len bal id 8) 546 5 = nI 60 := (gm_ca0_n (by decide) (by decide)).trans hc
  refine c_Mo_comesA h0 h1 h2 h3 h4 h5 h6 hs hpl hlen u1 u2 u3 ?_
  refine zx_aload_n (pc2 := 277) d_Mo_comes_276 rfl rfl ?_
  refine zx_iconst (pc2 := 278) (v := nI 3) d_Mo_comes_277 rfl (by decide) ?_
  refine zx_iload_n (pc2 := 279) d_Mo_comes_278 rfl rfl ?_
  refine zx_iload_n (pc2 := 280) d_Mo_comes_279 rfl rfl ?_
  refine zx_aload_n (pc2 := 281) d_Mo_comes_280 rfl rfl ?_
  refine zm_getR (pc2 := 284) f_Mo_90 d_Mo_comes_281 rfl zl_c546 rfl ?_
  refine zx_iconst (pc2 := 285) (v := nI 3) d_Mo_comes_284 rfl (by decide) ?_
  refine zk_ialdV (pc2 := 286) d_Mo_comes_285 rfl (by rfl) rfl (by omega) (by decide) ((gm_ca0_n (by decide) (by decide)).trans h3) ?_
  refine zk_callV (pc2 := 289) s_Mo_114 v_Mo_letter4 (zl_c546) (c_Mo_letter4F hc') d_Mo_comes_286 rfl rfl rfl (Nat.le_of_ble_eq_true rfl) (by decide) (by decide) ?_
  refine zx_if_ne (pc2 := 292) d_Mo_comes_289 rfl (tgt := 294) (by decide) (fun cz => absurd (rfl) cz) (fun _ => ?_)
  refine zx_iconst (pc2 := 293) (v := nI 0) d_Mo_comes_292 rfl (by decide) ?_
  exact zx_iret d_Mo_comes_293 rfl (⟨rfl, rfl, rfl⟩)
end C62
