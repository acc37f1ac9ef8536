/-! LogHouseModel: deliver, up to what the letter does; the field's times -/
theorem gm_upS0 {M : zm_M} {r k : Nat} {f : Nat → Int32} : zm_wI (gm_up M r 0 k f) r k (f k) = gm_up M r 0 (k + 1) f := by
  have := gm_upS (M := M) (r := r) (lo := 0) (k := k) (f := f)
  rwa [Nat.zero_add] at this
def gm_dv1 (M : zm_M) (i k : Nat) : zm_M := gm_up (gm_t M 0) 570 0 k (fun x => zm_I M 551 (7 * i + x))
def gm_dv2 (M : zm_M) (i k : Nat) : zm_M := gm_up (gm_dv1 M i 7) 571 0 k (fun x => zm_I M 552 (88 * i + x))
theorem gm_dv1_n {M : zm_M} {i k r x : Nat} (h : r ≠ 570) (h0 : r ≠ 546 ∨ x ≠ 0) : zm_I (gm_dv1 M i k) r x = zm_I M r x := (gm_upn (Or.inl h)).trans (gt_t h0)
theorem gm_dv2_n {M : zm_M} {i k r x : Nat} (h : r ≠ 570) (h1 : r ≠ 571) (h0 : r ≠ 546 ∨ x ≠ 0) : zm_I (gm_dv2 M i k) r x = zm_I M r x := (gm_upn (Or.inl h1)).trans (gm_dv1_n h h0)
def gm_dv (M : zm_M) (i c : Nat) : zm_M := gm_rm (gm_dv2 M i 88) i c
section C65
variable {l : Launch} {D : va_G} {ar : Nat → ClassId} {b : Nat} {Z : State → Prop} {M : zm_M} {n : Nat}
theorem c_Mo_deliver {i c d : Nat} {r : Int32} {ME : zm_M} (hc : zm_I M 546 5 = nI (c + 1)) (h60 : c < 60) (hi : i ≤ c) (hd : d < 9) (hcm : zK l D ar b Z y_Mo_comes d [.ref (b + 546)] (gm_dv M i c) n (some (.int r)) ME) : zK l D ar b Z y_Mo_deliver 9 [.ref (b + 546), .int (nI i)] M n (some (.int r)) ME := by
  have hc2 : zm_I (gm_dv2 M i 88) 546 5 = nI (c + 1) := (gm_dv2_n (by decide) (by decide) (Or.inr (by decide))).trans hc
  refine zk_entry (L := [some (.ref (b + 546)), some (.int (nI i)), none]) rfl rfl (Nat.le_of_ble_eq_true rfl) rfl rfl ?_
  refine zx_aload_n (pc2 := 1) d_Mo_deliver_0 rfl rfl ?_
  refine zx_aload_n (pc2 := 2) d_Mo_deliver_1 rfl rfl ?_
  refine zx_iload_n (pc2 := 3) d_Mo_deliver_2 rfl rfl ?_
  refine zk_callV (pc2 := 6) s_Mo_168 v_Mo_noLetter (zl_c546) (c_Mo_noL0 hc (by omega) (by omega)) d_Mo_deliver_3 rfl rfl rfl (Nat.le_of_ble_eq_true rfl) (by decide) (by decide) ?_
  refine zx_if_eq (pc2 := 9) d_Mo_deliver_6 rfl (tgt := 13) (by decide) (fun _ => ?_) (fun cz => absurd (by decide) cz)
  refine zx_iconst (pc2 := 14) (v := nI 0) d_Mo_deliver_13 rfl (by decide) ?_
  refine zm_putI (pc2 := 17) p_Mo_7 d_Mo_deliver_14 rfl zl_c546 rfl rfl rfl ?_
  refine zx_aload_n (pc2 := 18) d_Mo_deliver_17 rfl rfl ?_
  refine zm_getV (pc2 := 21) f_Mo_7 d_Mo_deliver_18 rfl zl_c546 rfl (zm_Is) ?_
  refine zx_if_eq (pc2 := 24) d_Mo_deliver_21 rfl (tgt := 26) (by decide) (fun _ => ?_) (fun cz => absurd (by decide) cz)
  refine zx_iconst (pc2 := 27) (v := nI 0) d_Mo_deliver_26 rfl (by decide) ?_
  refine zx_ist2 (pc2 := 28) d_Mo_deliver_27 rfl rfl (by decide) ?_
  have e0 : gm_dv1 M i 0 = gm_t M 0 := gm_up0
  refine Eq.mp (congrArg (fun w => zk_X l D ar b Z y_Mo_deliver 9 (some (.int r)) ME n 28 [some (.ref (b + 546)), some (.int (nI i)), some (.int (nI 0))] [] w) e0) ?_
  refine zx_for (X := fun k => zk_X l D ar b Z y_Mo_deliver 9 (some (.int r)) ME n 28 [some (.ref (b + 546)), some (.int (nI i)), some (.int (nI k))] [] (gm_dv1 M i k)) 7 ?_ ?_ 0 (Nat.zero_le _)
  · refine zx_iload_n (pc2 := 29) d_Mo_deliver_28 rfl rfl ?_
    refine zx_bipush (pc2 := 31) (v := nI 7) d_Mo_deliver_29 rfl (by decide) ?_
    refine zx_icmp_ge (pc2 := 34) d_Mo_deliver_31 rfl (tgt := 57) (by decide) (fun _ => ?_) (fun cz => absurd (nI_le (Nat.le_refl 7) (by decide)) cz)
    refine zx_iconst (pc2 := 58) (v := nI 0) d_Mo_deliver_57 rfl (by decide) ?_
    refine zx_ist2 (pc2 := 59) d_Mo_deliver_58 rfl rfl (by decide) ?_
    have e1 : gm_dv2 M i 0 = gm_dv1 M i 7 := gm_up0
    refine Eq.mp (congrArg (fun w => zk_X l D ar b Z y_Mo_deliver 9 (some (.int r)) ME n 59 [some (.ref (b + 546)), some (.int (nI i)), some (.int (nI 0))] [] w) e1) ?_
    refine zx_for (X := fun k => zk_X l D ar b Z y_Mo_deliver 9 (some (.int r)) ME n 59 [some (.ref (b + 546)), some (.int (nI i)), some (.int (nI k))] [] (gm_dv2 M i k)) 88 ?_ ?_ 0 (Nat.zero_le _)
    · refine zx_iload_n (pc2 := 60) d_Mo_deliver_59 rfl rfl ?_
      refine zx_bipush (pc2 := 62) (v := nI 88) d_Mo_deliver_60 rfl (by decide) ?_
      refine zx_icmp_ge (pc2 := 65) d_Mo_deliver_62 rfl (tgt := 88) (by decide) (fun _ => ?_) (fun cz => absurd (nI_le (Nat.le_refl 88) (by decide)) cz)
      refine zx_aload_n (pc2 := 89) d_Mo_deliver_88 rfl rfl ?_
      refine zx_iload_n (pc2 := 90) d_Mo_deliver_89 rfl rfl ?_
      refine zk_callVv (pc2 := 93) s_Mo_171 v_Mo_remove (zl_c546) (c_Mo_remove hc2 h60 hi) d_Mo_deliver_90 rfl rfl rfl (Nat.le_of_ble_eq_true rfl) (by decide) (by decide) ?_
      refine zx_aload_n (pc2 := 94) d_Mo_deliver_93 rfl rfl ?_
      refine zk_callV (pc2 := 97) s_Mo_175 v_Mo_comes (zl_c546) hcm d_Mo_deliver_94 rfl rfl rfl (Nat.le_of_ble_eq_true rfl) hd (by decide) ?_
      exact zx_iret d_Mo_deliver_97 rfl (⟨rfl, rfl, rfl⟩)
    · intro k hk ih
      have eS : gm_dv2 M i (k + 1) = zm_wI (gm_dv2 M i k) 571 k (zm_I M 552 (88 * i + k)) := gm_upS0.symm
      rw [eS] at ih
      refine zx_iload_n (pc2 := 60) d_Mo_deliver_59 rfl rfl ?_
      refine zx_bipush (pc2 := 62) (v := nI 88) d_Mo_deliver_60 rfl (by decide) ?_
      refine zx_icmp_ge (pc2 := 65) d_Mo_deliver_62 rfl (tgt := 88) (by decide) (fun cz => absurd cz (nI_ge hk (by decide))) (fun _ => ?_)
      refine zx_aload_n (pc2 := 66) d_Mo_deliver_65 rfl rfl ?_
      refine zm_getR (pc2 := 69) f_Mo_93 d_Mo_deliver_66 rfl zl_c546 rfl ?_
      refine zx_iload_n (pc2 := 70) d_Mo_deliver_69 rfl rfl ?_
      refine zx_aload_n (pc2 := 71) d_Mo_deliver_70 rfl rfl ?_
      refine zm_getR (pc2 := 74) f_Mo_33 d_Mo_deliver_71 rfl zl_c546 rfl ?_
      refine zx_bipush (pc2 := 76) (v := nI 88) d_Mo_deliver_74 rfl (by decide) ?_
      refine zx_iload_n (pc2 := 77) d_Mo_deliver_76 rfl rfl ?_
      first | refine zx_imulN (pc2 := 78) d_Mo_deliver_77 rfl ?_ | refine zx_imul (pc2 := 78) d_Mo_deliver_77 rfl ?_
      refine zx_iload_n (pc2 := 79) d_Mo_deliver_78 rfl rfl ?_
      first | refine zx_iaddN (pc2 := 80) d_Mo_deliver_79 rfl ?_ | refine zx_iadd (pc2 := 80) d_Mo_deliver_79 rfl ?_
      refine zk_ialdV (pc2 := 81) d_Mo_deliver_80 rfl (by rfl) rfl (by omega) (by decide) (gm_dv2_n (by decide) (by decide) (Or.inl (by decide))) ?_
      refine zk_iast (pc2 := 82) d_Mo_deliver_81 rfl (by rfl) rfl (by omega) (by decide) ?_
      refine zx_inc2 (pc2 := 85) d_Mo_deliver_82 rfl (zk_1 _) rfl (by decide) ?_
      refine zx_goto (tgt := 59) d_Mo_deliver_85 (by decide) ?_
      exact ih
  · intro k hk ih
    have eS : gm_dv1 M i (k + 1) = zm_wI (gm_dv1 M i k) 570 k (zm_I M 551 (7 * i + k)) := gm_upS0.symm
    rw [eS] at ih
    refine zx_iload_n (pc2 := 29) d_Mo_deliver_28 rfl rfl ?_
    refine zx_bipush (pc2 := 31) (v := nI 7) d_Mo_deliver_29 rfl (by decide) ?_
    refine zx_icmp_ge (pc2 := 34) d_Mo_deliver_31 rfl (tgt := 57) (by decide) (fun cz => absurd cz (nI_ge hk (by decide))) (fun _ => ?_)
    refine zx_aload_n (pc2 := 35) d_Mo_deliver_34 rfl rfl ?_
    refine zm_getR (pc2 := 38) f_Mo_90 d_Mo_deliver_35 rfl zl_c546 rfl ?_
    refine zx_iload_n (pc2 := 39) d_Mo_deliver_38 rfl rfl ?_
    refine zx_aload_n (pc2 := 40) d_Mo_deliver_39 rfl rfl ?_
    refine zm_getR (pc2 := 43) f_Mo_30 d_Mo_deliver_40 rfl zl_c546 rfl ?_
    refine zx_bipush (pc2 := 45) (v := nI 7) d_Mo_deliver_43 rfl (by decide) ?_
    refine zx_iload_n (pc2 := 46) d_Mo_deliver_45 rfl rfl ?_
    first | refine zx_imulN (pc2 := 47) d_Mo_deliver_46 rfl ?_ | refine zx_imul (pc2 := 47) d_Mo_deliver_46 rfl ?_
    refine zx_iload_n (pc2 := 48) d_Mo_deliver_47 rfl rfl ?_
    first | refine zx_iaddN (pc2 := 49) d_Mo_deliver_48 rfl ?_ | refine zx_iadd (pc2 := 49) d_Mo_deliver_48 rfl ?_
    refine zk_ialdV (pc2 := 50) d_Mo_deliver_49 rfl (by rfl) rfl (by omega) (by decide) (gm_dv1_n (by decide) (Or.inl (by decide))) ?_
    refine zk_iast (pc2 := 51) d_Mo_deliver_50 rfl (by rfl) rfl (by omega) (by decide) ?_
    refine zx_inc2 (pc2 := 54) d_Mo_deliver_51 rfl (zk_1 _) rfl (by decide) ?_
    refine zx_goto (tgt := 28) d_Mo_deliver_54 (by decide) ?_
    exact ih
theorem x_Mo_deliver {x : Int32} (hx : x < 0 ∨ zm_I M 546 5 ≤ x) : zK l D ar b Z y_Mo_deliver 9 [.ref (b + 546), .int x] M n (some (.int (nI 0))) (gm_t M 1) := by
  refine zk_entry (L := [some (.ref (b + 546)), some (.int x), none]) rfl rfl (Nat.le_of_ble_eq_true rfl) rfl rfl ?_
  refine zx_aload_n (pc2 := 1) d_Mo_deliver_0 rfl rfl ?_
  refine zx_aload_n (pc2 := 2) d_Mo_deliver_1 rfl rfl ?_
  refine zx_iload_n (pc2 := 3) d_Mo_deliver_2 rfl rfl ?_
  refine zk_callV (pc2 := 6) s_Mo_168 v_Mo_noLetter (zl_c546) (c_Mo_noL1 hx) d_Mo_deliver_3 rfl rfl rfl (Nat.le_of_ble_eq_true rfl) (by decide) (by decide) ?_
  refine zx_if_eq (pc2 := 9) d_Mo_deliver_6 rfl (tgt := 13) (by decide) (fun cz => absurd cz (by decide)) (fun _ => ?_)
  refine zx_iconst (pc2 := 10) (v := nI 1) d_Mo_deliver_9 rfl (by decide) ?_
  refine zx_goto (tgt := 14) d_Mo_deliver_10 (by decide) ?_
  refine zm_putI (pc2 := 17) p_Mo_7 d_Mo_deliver_14 rfl zl_c546 rfl rfl rfl ?_
  refine zx_aload_n (pc2 := 18) d_Mo_deliver_17 rfl rfl ?_
  refine zm_getV (pc2 := 21) f_Mo_7 d_Mo_deliver_18 rfl zl_c546 rfl (zm_Is) ?_
  refine zx_if_eq (pc2 := 24) d_Mo_deliver_21 rfl (tgt := 26) (by decide) (fun cz => absurd cz (by decide)) (fun _ => ?_)
  refine zx_iconst (pc2 := 25) (v := nI 0) d_Mo_deliver_24 rfl (by decide) ?_
  exact zx_iret d_Mo_deliver_25 rfl (⟨rfl, rfl, rfl⟩)
theorem c_Mo_comes3 {s p pl : Nat} (hp : p < 2) (hpl : pl < 8) (h0 : zm_I M 570 0 = nI 3) (h1 : zm_I M 570 1 = nI s) (h2 : zm_I M 570 2 = nI p) (h4 : zm_I M 570 4 = nI pl) : zK l D ar b Z y_Mo_comes 2 [.ref (b + 546)] M n (some (.int (nI 0))) (gm_acd M s p pl) := by
  refine zk_entry (L := [some (.ref (b + 546)), none, none, none, none]) rfl rfl (Nat.le_of_ble_eq_true rfl) rfl rfl ?_
  refine zx_aload_n (pc2 := 1) d_Mo_comes_0 rfl rfl ?_
  refine zm_getR (pc2 := 4) f_Mo_90 d_Mo_comes_1 rfl zl_c546 rfl ?_
  refine zx_iconst (pc2 := 5) (v := nI 1) d_Mo_comes_4 rfl (by decide) ?_
  refine zk_ialdV (pc2 := 6) d_Mo_comes_5 rfl (by rfl) rfl (by omega) (by decide) (h1) ?_
  refine zx_ist1 (pc2 := 7) d_Mo_comes_6 rfl rfl (by decide) ?_
  refine zx_aload_n (pc2 := 8) d_Mo_comes_7 rfl rfl ?_
  refine zm_getR (pc2 := 11) f_Mo_90 d_Mo_comes_8 rfl zl_c546 rfl ?_
  refine zx_iconst (pc2 := 12) (v := nI 2) d_Mo_comes_11 rfl (by decide) ?_
  refine zk_ialdV (pc2 := 13) d_Mo_comes_12 rfl (by rfl) rfl (by omega) (by decide) (h2) ?_
  refine zx_ist2 (pc2 := 14) d_Mo_comes_13 rfl rfl (by decide) ?_
  refine zx_aload_n (pc2 := 15) d_Mo_comes_14 rfl rfl ?_
  refine zm_getR (pc2 := 18) f_Mo_90 d_Mo_comes_15 rfl zl_c546 rfl ?_
  refine zx_iconst (pc2 := 19) (v := nI 0) d_Mo_comes_18 rfl (by decide) ?_
  refine zk_ialdV (pc2 := 20) d_Mo_comes_19 rfl (by rfl) rfl (by omega) (by decide) (h0) ?_
  refine zx_iconst (pc2 := 21) (v := nI 1) d_Mo_comes_20 rfl (by decide) ?_
  refine zx_icmp_ne (pc2 := 24) d_Mo_comes_21 rfl (tgt := 31) (by decide) (fun _ => ?_) (fun cz => absurd cz (by decide))
  refine zx_aload_n (pc2 := 32) d_Mo_comes_31 rfl rfl ?_
  refine zm_getR (pc2 := 35) f_Mo_90 d_Mo_comes_32 rfl zl_c546 rfl ?_
  refine zx_iconst (pc2 := 36) (v := nI 0) d_Mo_comes_35 rfl (by decide) ?_
  refine zk_ialdV (pc2 := 37) d_Mo_comes_36 rfl (by rfl) rfl (by omega) (by decide) (h0) ?_
  refine zx_iconst (pc2 := 38) (v := nI 3) d_Mo_comes_37 rfl (by decide) ?_
  refine zx_icmp_ne (pc2 := 41) d_Mo_comes_38 rfl (tgt := 49) (by decide) (fun cz => absurd (rfl) cz) (fun _ => ?_)
  refine zx_aload_n (pc2 := 42) d_Mo_comes_41 rfl rfl ?_
  refine zx_iload_n (pc2 := 43) d_Mo_comes_42 rfl rfl ?_
  refine zx_iload_n (pc2 := 44) d_Mo_comes_43 rfl rfl ?_
  refine zk_callVv (pc2 := 47) s_Mo_129 v_Mo_acceptedComes (zl_c546) (c_Mo_acceptedComes hp hpl h4) d_Mo_comes_44 rfl rfl rfl (Nat.le_of_ble_eq_true rfl) (by decide) (by decide) ?_
  refine zx_iconst (pc2 := 48) (v := nI 0) d_Mo_comes_47 rfl (by decide) ?_
  exact zx_iret d_Mo_comes_48 rfl (⟨rfl, rfl, rfl⟩)
end C65
