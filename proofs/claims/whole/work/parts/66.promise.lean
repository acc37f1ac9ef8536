/-! LogHouseModel: a promise comes -/
def gs_pb (M : zm_M) (p s : Nat) : Int32 := zm_I M 555 p ||| (nI 1 <<< (nI s &&& 31))
def gm_ph (M : zm_M) (s p k : Nat) : zm_M := gm_up (zm_wI M 555 p (gs_pb M p s)) 556 (616 * p + 88 * s) k (fun x => zm_I M 571 x)
theorem gm_ph_n {M : zm_M} {s p k r x : Nat} (h : r ≠ 555) (h6 : r ≠ 556) : zm_I (gm_ph M s p k) r x = zm_I M r x := (gm_upn (Or.inl h6)).trans (zm_In (Or.inl h))
theorem gm_ph_p {M : zm_M} {s p k : Nat} : zm_I (gm_ph M s p k) 555 p = gs_pb M p s := (gm_upn (Or.inl (by decide))).trans zm_Is
section C66
variable {l : Launch} {D : va_G} {ar : Nat → ClassId} {b : Nat} {Z : State → Prop} {M : zm_M} {n : Nat}
theorem c_Mo_promN {s p d : Nat} (hp : p < 2) (hn : zm_I M 553 p ≠ nI 1 ∨ zm_I M 570 3 ≠ zm_I M 554 p ∨ gs_hb M p s) : zK l D ar b Z y_Mo_promiseComes d [.ref (b + 546), .int (nI s), .int (nI p)] M n (some (.int (nI 0))) M := by
  refine zk_entry (L := [some (.ref (b + 546)), some (.int (nI s)), some (.int (nI p)), none, none]) rfl rfl (Nat.le_of_ble_eq_true rfl) rfl rfl ?_
  by_cases c1 : zm_I M 553 p = nI 1
  · by_cases c2 : zm_I M 570 3 = zm_I M 554 p
    · have c3 : gs_hb M p s := (hn.resolve_left (fun z => z c1)).resolve_left (fun z => z c2)
      refine zx_aload_n (pc2 := 1) d_Mo_promiseComes_0 rfl rfl ?_
      refine zm_getR (pc2 := 4) f_Mo_36 d_Mo_promiseComes_1 rfl zl_c546 rfl ?_
      refine zx_iload_n (pc2 := 5) d_Mo_promiseComes_4 rfl rfl ?_
      refine zk_iald (pc2 := 6) d_Mo_promiseComes_5 rfl (by rfl) rfl (by omega) (by decide) ?_
      refine zx_iconst (pc2 := 7) (v := nI 1) d_Mo_promiseComes_6 rfl (by decide) ?_
      refine zx_icmp_ne (pc2 := 10) d_Mo_promiseComes_7 rfl (tgt := 39) (by decide) (fun cz => absurd (c1) cz) (fun _ => ?_)
      refine zx_aload_n (pc2 := 11) d_Mo_promiseComes_10 rfl rfl ?_
      refine zm_getR (pc2 := 14) f_Mo_90 d_Mo_promiseComes_11 rfl zl_c546 rfl ?_
      refine zx_iconst (pc2 := 15) (v := nI 3) d_Mo_promiseComes_14 rfl (by decide) ?_
      refine zk_iald (pc2 := 16) d_Mo_promiseComes_15 rfl (by rfl) rfl (by omega) (by decide) ?_
      refine zx_aload_n (pc2 := 17) d_Mo_promiseComes_16 rfl rfl ?_
      refine zm_getR (pc2 := 20) f_Mo_39 d_Mo_promiseComes_17 rfl zl_c546 rfl ?_
      refine zx_iload_n (pc2 := 21) d_Mo_promiseComes_20 rfl rfl ?_
      refine zk_iald (pc2 := 22) d_Mo_promiseComes_21 rfl (by rfl) rfl (by omega) (by decide) ?_
      refine zx_icmp_ne (pc2 := 25) d_Mo_promiseComes_22 rfl (tgt := 39) (by decide) (fun cz => absurd (c2) cz) (fun _ => ?_)
      refine zx_aload_n (pc2 := 26) d_Mo_promiseComes_25 rfl rfl ?_
      refine zm_getR (pc2 := 29) f_Mo_42 d_Mo_promiseComes_26 rfl zl_c546 rfl ?_
      refine zx_iload_n (pc2 := 30) d_Mo_promiseComes_29 rfl rfl ?_
      refine zk_iald (pc2 := 31) d_Mo_promiseComes_30 rfl (by rfl) rfl (by omega) (by decide) ?_
      refine zx_iload_n (pc2 := 32) d_Mo_promiseComes_31 rfl rfl ?_
      refine zx_ishr (pc2 := 33) d_Mo_promiseComes_32 rfl ?_
      refine zx_iconst (pc2 := 34) (v := nI 1) d_Mo_promiseComes_33 rfl (by decide) ?_
      refine zx_iand (pc2 := 35) d_Mo_promiseComes_34 rfl ?_
      refine zx_iconst (pc2 := 36) (v := nI 1) d_Mo_promiseComes_35 rfl (by decide) ?_
      refine zx_icmp_ne (pc2 := 39) d_Mo_promiseComes_36 rfl (tgt := 41) (by decide) (fun cz => absurd (c3) cz) (fun _ => ?_)
      refine zx_iconst (pc2 := 40) (v := nI 0) d_Mo_promiseComes_39 rfl (by decide) ?_
      exact zx_iret d_Mo_promiseComes_40 rfl (⟨rfl, rfl, rfl⟩)
    · refine zx_aload_n (pc2 := 1) d_Mo_promiseComes_0 rfl rfl ?_
      refine zm_getR (pc2 := 4) f_Mo_36 d_Mo_promiseComes_1 rfl zl_c546 rfl ?_
      refine zx_iload_n (pc2 := 5) d_Mo_promiseComes_4 rfl rfl ?_
      refine zk_iald (pc2 := 6) d_Mo_promiseComes_5 rfl (by rfl) rfl (by omega) (by decide) ?_
      refine zx_iconst (pc2 := 7) (v := nI 1) d_Mo_promiseComes_6 rfl (by decide) ?_
      refine zx_icmp_ne (pc2 := 10) d_Mo_promiseComes_7 rfl (tgt := 39) (by decide) (fun cz => absurd (c1) cz) (fun _ => ?_)
      refine zx_aload_n (pc2 := 11) d_Mo_promiseComes_10 rfl rfl ?_
      refine zm_getR (pc2 := 14) f_Mo_90 d_Mo_promiseComes_11 rfl zl_c546 rfl ?_
      refine zx_iconst (pc2 := 15) (v := nI 3) d_Mo_promiseComes_14 rfl (by decide) ?_
      refine zk_iald (pc2 := 16) d_Mo_promiseComes_15 rfl (by rfl) rfl (by omega) (by decide) ?_
      refine zx_aload_n (pc2 := 17) d_Mo_promiseComes_16 rfl rfl ?_
      refine zm_getR (pc2 := 20) f_Mo_39 d_Mo_promiseComes_17 rfl zl_c546 rfl ?_
      refine zx_iload_n (pc2 := 21) d_Mo_promiseComes_20 rfl rfl ?_
      refine zk_iald (pc2 := 22) d_Mo_promiseComes_21 rfl (by rfl) rfl (by omega) (by decide) ?_
      refine zx_icmp_ne (pc2 := 25) d_Mo_promiseComes_22 rfl (tgt := 39) (by decide) (fun _ => ?_) (fun cz => absurd cz (c2))
      refine zx_iconst (pc2 := 40) (v := nI 0) d_Mo_promiseComes_39 rfl (by decide) ?_
      exact zx_iret d_Mo_promiseComes_40 rfl (⟨rfl, rfl, rfl⟩)
  · refine zx_aload_n (pc2 := 1) d_Mo_promiseComes_0 rfl rfl ?_
    refine zm_getR (pc2 := 4) f_Mo_36 d_Mo_promiseComes_1 rfl zl_c546 rfl ?_
    refine zx_iload_n (pc2 := 5) d_Mo_promiseComes_4 rfl rfl ?_
    refine zk_iald (pc2 := 6) d_Mo_promiseComes_5 rfl (by rfl) rfl (by omega) (by decide) ?_
    refine zx_iconst (pc2 := 7) (v := nI 1) d_Mo_promiseComes_6 rfl (by decide) ?_
    refine zx_icmp_ne (pc2 := 10) d_Mo_promiseComes_7 rfl (tgt := 39) (by decide) (fun _ => ?_) (fun cz => absurd cz (c1))
    refine zx_iconst (pc2 := 40) (v := nI 0) d_Mo_promiseComes_39 rfl (by decide) ?_
    exact zx_iret d_Mo_promiseComes_40 rfl (⟨rfl, rfl, rfl⟩)
theorem c_Mo_promL {s p d : Nat} {r : Int32} {ME : zm_M} (hs : s < 7) (hp : p < 2) (c1 : zm_I M 553 p = nI 1) (c2 : zm_I M 570 3 = zm_I M 554 p) (c3 : ¬ gs_hb M p s) (kk : zk_X l D ar b Z y_Mo_promiseComes d (some (.int r)) ME n 94 [some (.ref (b + 546)), some (.int (nI s)), some (.int (nI p)), some (.int (nI 88)), none] [] (gm_ph M s p 88)) : zK l D ar b Z y_Mo_promiseComes d [.ref (b + 546), .int (nI s), .int (nI p)] M n (some (.int r)) ME := by
  refine zk_entry (L := [some (.ref (b + 546)), some (.int (nI s)), some (.int (nI p)), none, none]) rfl rfl (Nat.le_of_ble_eq_true rfl) rfl rfl ?_
  refine zx_aload_n (pc2 := 1) d_Mo_promiseComes_0 rfl rfl ?_
  refine zm_getR (pc2 := 4) f_Mo_36 d_Mo_promiseComes_1 rfl zl_c546 rfl ?_
  refine zx_iload_n (pc2 := 5) d_Mo_promiseComes_4 rfl rfl ?_
  refine zk_iald (pc2 := 6) d_Mo_promiseComes_5 rfl (by rfl) rfl (by omega) (by decide) ?_
  refine zx_iconst (pc2 := 7) (v := nI 1) d_Mo_promiseComes_6 rfl (by decide) ?_
  refine zx_icmp_ne (pc2 := 10) d_Mo_promiseComes_7 rfl (tgt := 39) (by decide) (fun cz => absurd (c1) cz) (fun _ => ?_)
  refine zx_aload_n (pc2 := 11) d_Mo_promiseComes_10 rfl rfl ?_
  refine zm_getR (pc2 := 14) f_Mo_90 d_Mo_promiseComes_11 rfl zl_c546 rfl ?_
  refine zx_iconst (pc2 := 15) (v := nI 3) d_Mo_promiseComes_14 rfl (by decide) ?_
  refine zk_iald (pc2 := 16) d_Mo_promiseComes_15 rfl (by rfl) rfl (by omega) (by decide) ?_
  refine zx_aload_n (pc2 := 17) d_Mo_promiseComes_16 rfl rfl ?_
  refine zm_getR (pc2 := 20) f_Mo_39 d_Mo_promiseComes_17 rfl zl_c546 rfl ?_
  refine zx_iload_n (pc2 := 21) d_Mo_promiseComes_20 rfl rfl ?_
  refine zk_iald (pc2 := 22) d_Mo_promiseComes_21 rfl (by rfl) rfl (by omega) (by decide) ?_
  refine zx_icmp_ne (pc2 := 25) d_Mo_promiseComes_22 rfl (tgt := 39) (by decide) (fun cz => absurd (c2) cz) (fun _ => ?_)
  refine zx_aload_n (pc2 := 26) d_Mo_promiseComes_25 rfl rfl ?_
  refine zm_getR (pc2 := 29) f_Mo_42 d_Mo_promiseComes_26 rfl zl_c546 rfl ?_
  refine zx_iload_n (pc2 := 30) d_Mo_promiseComes_29 rfl rfl ?_
  refine zk_iald (pc2 := 31) d_Mo_promiseComes_30 rfl (by rfl) rfl (by omega) (by decide) ?_
  refine zx_iload_n (pc2 := 32) d_Mo_promiseComes_31 rfl rfl ?_
  refine zx_ishr (pc2 := 33) d_Mo_promiseComes_32 rfl ?_
  refine zx_iconst (pc2 := 34) (v := nI 1) d_Mo_promiseComes_33 rfl (by decide) ?_
  refine zx_iand (pc2 := 35) d_Mo_promiseComes_34 rfl ?_
  refine zx_iconst (pc2 := 36) (v := nI 1) d_Mo_promiseComes_35 rfl (by decide) ?_
  refine zx_icmp_ne (pc2 := 39) d_Mo_promiseComes_36 rfl (tgt := 41) (by decide) (fun _ => ?_) (fun cz => absurd cz (c3))
  refine zx_aload_n (pc2 := 42) d_Mo_promiseComes_41 rfl rfl ?_
  refine zm_getR (pc2 := 45) f_Mo_42 d_Mo_promiseComes_42 rfl zl_c546 rfl ?_
  refine zx_iload_n (pc2 := 46) d_Mo_promiseComes_45 rfl rfl ?_
  refine zx_aload_n (pc2 := 47) d_Mo_promiseComes_46 rfl rfl ?_
  refine zm_getR (pc2 := 50) f_Mo_42 d_Mo_promiseComes_47 rfl zl_c546 rfl ?_
  refine zx_iload_n (pc2 := 51) d_Mo_promiseComes_50 rfl rfl ?_
  refine zk_iald (pc2 := 52) d_Mo_promiseComes_51 rfl (by rfl) rfl (by omega) (by decide) ?_
  refine zx_iconst (pc2 := 53) (v := nI 1) d_Mo_promiseComes_52 rfl (by decide) ?_
  refine zx_iload_n (pc2 := 54) d_Mo_promiseComes_53 rfl rfl ?_
  refine zx_ishl (pc2 := 55) d_Mo_promiseComes_54 rfl ?_
  refine zx_ior (pc2 := 56) d_Mo_promiseComes_55 rfl ?_
  refine zk_iast (pc2 := 57) d_Mo_promiseComes_56 rfl (by rfl) rfl (by omega) (by decide) ?_
  refine zx_iconst (pc2 := 58) (v := nI 0) d_Mo_promiseComes_57 rfl (by decide) ?_
  refine zx_ist3 (pc2 := 59) d_Mo_promiseComes_58 rfl rfl (by decide) ?_
  have e0 : gm_ph M s p 0 = zm_wI M 555 p (gs_pb M p s) := gm_up0
  refine Eq.mp (congrArg (fun w => zk_X l D ar b Z y_Mo_promiseComes d (some (.int r)) ME n 59 [some (.ref (b + 546)), some (.int (nI s)), some (.int (nI p)), some (.int (nI 0)), none] [] w) e0) ?_
  refine zx_for (X := fun k => zk_X l D ar b Z y_Mo_promiseComes d (some (.int r)) ME n 59 [some (.ref (b + 546)), some (.int (nI s)), some (.int (nI p)), some (.int (nI k)), none] [] (gm_ph M s p k)) 88 ?_ ?_ 0 (Nat.zero_le _)
  · refine zx_iload_n (pc2 := 60) d_Mo_promiseComes_59 rfl rfl ?_
    refine zx_bipush (pc2 := 62) (v := nI 88) d_Mo_promiseComes_60 rfl (by decide) ?_
    refine zx_icmp_ge (pc2 := 65) d_Mo_promiseComes_62 rfl (tgt := 94) (by decide) (fun _ => ?_) (fun cz => absurd (nI_le (Nat.le_refl 88) (by decide)) cz)
    exact kk
  · intro k hk ih
    have eS : gm_ph M s p (k + 1) = zm_wI (gm_ph M s p k) 556 (616 * p + 88 * s + k) (zm_I M 571 k) := gm_upS.symm
    rw [eS] at ih
    refine zx_iload_n (pc2 := 60) d_Mo_promiseComes_59 rfl rfl ?_
    refine zx_bipush (pc2 := 62) (v := nI 88) d_Mo_promiseComes_60 rfl (by decide) ?_
    refine zx_icmp_ge (pc2 := 65) d_Mo_promiseComes_62 rfl (tgt := 94) (by decide) (fun cz => absurd cz (nI_ge hk (by decide))) (fun _ => ?_)
    refine zx_aload_n (pc2 := 66) d_Mo_promiseComes_65 rfl rfl ?_
    refine zm_getR (pc2 := 69) f_Mo_45 d_Mo_promiseComes_66 rfl zl_c546 rfl ?_
    refine zx_sipush (pc2 := 72) (v := nI 616) d_Mo_promiseComes_69 rfl (by decide) ?_
    refine zx_iload_n (pc2 := 73) d_Mo_promiseComes_72 rfl rfl ?_
    first | refine zx_imulN (pc2 := 74) d_Mo_promiseComes_73 rfl ?_ | refine zx_imul (pc2 := 74) d_Mo_promiseComes_73 rfl ?_
    refine zx_bipush (pc2 := 76) (v := nI 88) d_Mo_promiseComes_74 rfl (by decide) ?_
    refine zx_iload_n (pc2 := 77) d_Mo_promiseComes_76 rfl rfl ?_
    first | refine zx_imulN (pc2 := 78) d_Mo_promiseComes_77 rfl ?_ | refine zx_imul (pc2 := 78) d_Mo_promiseComes_77 rfl ?_
    first | refine zx_iaddN (pc2 := 79) d_Mo_promiseComes_78 rfl ?_ | refine zx_iadd (pc2 := 79) d_Mo_promiseComes_78 rfl ?_
    refine zx_iload_n (pc2 := 80) d_Mo_promiseComes_79 rfl rfl ?_
    first | refine zx_iaddN (pc2 := 81) d_Mo_promiseComes_80 rfl ?_ | refine zx_iadd (pc2 := 81) d_Mo_promiseComes_80 rfl ?_
    refine zx_aload_n (pc2 := 82) d_Mo_promiseComes_81 rfl rfl ?_
    refine zm_getR (pc2 := 85) f_Mo_93 d_Mo_promiseComes_82 rfl zl_c546 rfl ?_
    refine zx_iload_n (pc2 := 86) d_Mo_promiseComes_85 rfl rfl ?_
    refine zk_ialdV (pc2 := 87) d_Mo_promiseComes_86 rfl (by rfl) rfl (by omega) (by decide) (gm_ph_n (by decide) (by decide)) ?_
    refine zk_iast (pc2 := 88) d_Mo_promiseComes_87 rfl (by rfl) rfl (by omega) (by decide) ?_
    refine zx_inc3 (pc2 := 91) d_Mo_promiseComes_88 rfl (zk_1 _) rfl (by decide) ?_
    refine zx_goto (tgt := 59) d_Mo_promiseComes_91 (by decide) ?_
    exact ih
theorem c_Mo_promB {s p : Nat} (hs : s < 7) (hp : p < 2) (c1 : zm_I M 553 p = nI 1) (c2 : zm_I M 570 3 = zm_I M 554 p) (c3 : ¬ gs_hb M p s) (hb : ¬ nI 5 ≤ gs_bits (gs_pb M p s) 7) : zK l D ar b Z y_Mo_promiseComes 6 [.ref (b + 546), .int (nI s), .int (nI p)] M n (some (.int (nI 0))) (gm_ph M s p 88) := by
  refine c_Mo_promL hs hp c1 c2 c3 ?_
  refine zx_aload_n (pc2 := 95) d_Mo_promiseComes_94 rfl rfl ?_
  refine zm_getR (pc2 := 98) f_Mo_42 d_Mo_promiseComes_95 rfl zl_c546 rfl ?_
  refine zx_iload_n (pc2 := 99) d_Mo_promiseComes_98 rfl rfl ?_
  refine zk_ialdV (pc2 := 100) d_Mo_promiseComes_99 rfl (by rfl) rfl (by omega) (by decide) (gm_ph_p) ?_
  refine zk_callS (pc2 := 103) s_Mo_133 t_Mo_bits (c_Mo_bits) d_Mo_promiseComes_100 rfl rfl rfl (Nat.le_of_ble_eq_true rfl) (by decide) (by decide) ?_
  refine zx_iconst (pc2 := 104) (v := nI 5) d_Mo_promiseComes_103 rfl (by decide) ?_
  refine zx_icmp_ge (pc2 := 107) d_Mo_promiseComes_104 rfl (tgt := 109) (by decide) (fun cz => absurd cz (hb)) (fun _ => ?_)
  refine zx_iconst (pc2 := 108) (v := nI 0) d_Mo_promiseComes_107 rfl (by decide) ?_
  exact zx_iret d_Mo_promiseComes_108 rfl (⟨rfl, rfl, rfl⟩)
theorem c_Mo_comes1 {s p d : Nat} {r : Int32} {ME : zm_M} (hd : d < 8) (h0 : zm_I M 570 0 = nI 1) (h1 : zm_I M 570 1 = nI s) (h2 : zm_I M 570 2 = nI p) (hpc : zK l D ar b Z y_Mo_promiseComes d [.ref (b + 546), .int (nI s), .int (nI p)] M n (some (.int r)) ME) : zK l D ar b Z y_Mo_comes 8 [.ref (b + 546)] M n (some (.int r)) ME := by
  refine zk_entry (L := [some (.ref (b + 546)), none, none, none, none]) rfl rfl (Nat.le_of_ble_eq_true rfl) rfl rfl ?_
  refine zx_aload_n (pc2 := 1) d_Mo_comes_0 rfl rfl ?_
  refine zm_getR (pc2 := 4) f_Mo_90 d_Mo_comes_1 rfl zl_c546 rfl ?_
  refine zx_iconst (pc2 := 5) (v := nI 1) d_Mo_comes_4 rfl (by decide) ?_
  refine zk_ialdV (pc2 := 6) d_Mo_comes_5 rfl (by rfl) rfl (by omega) (by decide) (h1) ?_
  refine zx_ist1 (pc2 := 7) d_Mo_comes_6 rfl rfl (by decide) ?_
  refine zx_aload_n (pc2 := 8) d_Mo_comes_7 rfl rfl ?_
  refine zm_getR (pc2 := 11) f_Mo_90 d_Mo_comes_8 rfl zl_c546 rfl ?_
  refine zx_iconst (pc2 := 12) (v := nI 2) d_Mo_comes_11 rfl (by decide) ?_
  refine zk_ialdV (pc2 := 13) d_Mo_comes_12 rfl (by rfl) rfl (by omega) (by decide) (h2) ?_
  refine zx_ist2 (pc2 := 14) d_Mo_comes_13 rfl rfl (by decide) ?_
  refine zx_aload_n (pc2 := 15) d_Mo_comes_14 rfl rfl ?_
  refine zm_getR (pc2 := 18) f_Mo_90 d_Mo_comes_15 rfl zl_c546 rfl ?_
  refine zx_iconst (pc2 := 19) (v := nI 0) d_Mo_comes_18 rfl (by decide) ?_
  refine zk_ialdV (pc2 := 20) d_Mo_comes_19 rfl (by rfl) rfl (by omega) (by decide) (h0) ?_
  refine zx_iconst (pc2 := 21) (v := nI 1) d_Mo_comes_20 rfl (by decide) ?_
  refine zx_icmp_ne (pc2 := 24) d_Mo_comes_21 rfl (tgt := 31) (by decide) (fun cz => absurd (rfl) cz) (fun _ => ?_)
  refine zx_aload_n (pc2 := 25) d_Mo_comes_24 rfl rfl ?_
  refine zx_iload_n (pc2 := 26) d_Mo_comes_25 rfl rfl ?_
  refine zx_iload_n (pc2 := 27) d_Mo_comes_26 rfl rfl ?_
  refine zk_callV (pc2 := 30) s_Mo_126 v_Mo_promiseComes (zl_c546) hpc d_Mo_comes_27 rfl rfl rfl (Nat.le_of_ble_eq_true rfl) hd (by decide) ?_
  exact zx_iret d_Mo_comes_30 rfl (⟨rfl, rfl, rfl⟩)
end C66
