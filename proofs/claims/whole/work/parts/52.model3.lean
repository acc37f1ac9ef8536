/-! LogHouseModel: stations, letters taken and doubled, what state, station and share answer -/
def gm_rm (M : zm_M) (i c : Nat) : zm_M := gm_up (gm_up (zm_wI M 546 5 (nI c)) 551 (7 * i) (7 * c - 7 * i) (fun x => zm_I M 551 (7 * i + x + 7))) 552 (88 * i) (88 * c - 88 * i) (fun x => zm_I M 552 (88 * i + x + 88))
def gm_tw (M : zm_M) (i c : Nat) : zm_M := zm_wI (gm_up (gm_up (gm_t M 0) 551 (7 * c) 7 (fun x => zm_I M 551 (7 * i + x))) 552 (88 * c) 88 (fun x => zm_I M 552 (88 * i + x))) 546 5 (nI (c + 1))
def gm_wipe (M : zm_M) (s : Nat) : zm_M := gm_up (zm_wI (zm_wI (gm_t M 0) 549 s (nI 1)) 547 s (nI 0)) 550 (88 * s) 88 (fun _ => nI 0)
def gs_ffL (M : zm_M) (p : Nat) : Nat → Nat → Nat
  | 0, i => i
  | k + 1, i => if zm_I M 559 (8 * p + i) = 0 ∧ zm_I M 560 (8 * p + i) = 0 then i else gs_ffL M p k (i + 1)
def gs_ff (M : zm_M) (p : Nat) : Int32 := if zm_I M 553 p = nI 2 then (if gs_ffL M p 8 0 = 8 then -1 else nI (gs_ffL M p 8 0)) else -1
theorem gs_ffL_le {M : zm_M} {p : Nat} : ∀ k i, gs_ffL M p k i ≤ i + k
  | 0, i => Nat.le_refl i
  | k + 1, i => by
    unfold gs_ffL
    split
    · omega
    · have := gs_ffL_le (M := M) (p := p) k (i + 1)
      omega
def gs_cnt (M : zm_M) (s : Nat) : Nat → Int32
  | 0 => nI 0
  | i + 1 => gs_cnt M s i + gs_third (zm_I M 550 (88 * s + 11 * i + 2))
section C52
variable {l : Launch} {D : va_G} {ar : Nat → ClassId} {b : Nat} {Z : State → Prop} {M : zm_M} {n : Nat}
theorem c_Mo_up {s : Nat} {x : Int32} (hs : s < 7) (hx : x = nI 0 ∨ x = nI 1) : zK l D ar b Z y_Mo_up 1 [.ref (b + 546), .int (nI s), .int x] M n (some (.int (if zm_I M 548 s = x then nI 1 else nI 0))) (zm_wI (gm_t M 0) 548 s (nI 1 - x)) := by
  refine zk_entry (L := [some (.ref (b + 546)), some (.int (nI s)), some (.int x), none]) rfl rfl (Nat.le_of_ble_eq_true rfl) rfl rfl ?_
  refine zx_aload_n (pc2 := 1) d_Mo_up_0 rfl rfl ?_
  refine zx_iload_n (pc2 := 2) d_Mo_up_1 rfl rfl ?_
  refine zk_callS (pc2 := 5) s_Mo_179 t_Mo_noStation (c_Mo_noS0 hs) d_Mo_up_2 rfl rfl rfl (Nat.le_of_ble_eq_true rfl) (by decide) (by decide) ?_
  refine zx_if_eq (pc2 := 8) d_Mo_up_5 rfl (tgt := 12) (by decide) (fun _ => ?_) (fun cz => absurd (by decide) cz)
  refine zx_iconst (pc2 := 13) (v := nI 0) d_Mo_up_12 rfl (by decide) ?_
  refine zm_putI (pc2 := 16) p_Mo_7 d_Mo_up_13 rfl zl_c546 rfl rfl rfl ?_
  refine zx_aload_n (pc2 := 17) d_Mo_up_16 rfl rfl ?_
  refine zm_getV (pc2 := 20) f_Mo_7 d_Mo_up_17 rfl zl_c546 rfl (zm_Is) ?_
  refine zx_if_eq (pc2 := 23) d_Mo_up_20 rfl (tgt := 25) (by decide) (fun _ => ?_) (fun cz => absurd (by decide) cz)
  refine zx_aload_n (pc2 := 26) d_Mo_up_25 rfl rfl ?_
  refine zm_getR (pc2 := 29) f_Mo_17 d_Mo_up_26 rfl zl_c546 rfl ?_
  refine zx_iload_n (pc2 := 30) d_Mo_up_29 rfl rfl ?_
  refine zk_zaldV (pc2 := 31) d_Mo_up_30 rfl (by rfl) rfl (by omega) (by decide) (zm_In (Or.inl (by decide))) ?_
  refine zx_iload_n (pc2 := 32) d_Mo_up_31 rfl rfl ?_
  refine zx_icmp_ne (pc2 := 35) d_Mo_up_32 rfl (tgt := 39) (by decide) (fun c => ?_) (fun c => ?_)
  · rw [if_neg c]
    rcases hx with rfl | rfl
    · refine zx_iconst (pc2 := 40) (v := nI 0) d_Mo_up_39 rfl (by decide) ?_
      refine zx_ist3 (pc2 := 41) d_Mo_up_40 rfl rfl (by decide) ?_
      refine zx_aload_n (pc2 := 42) d_Mo_up_41 rfl rfl ?_
      refine zm_getR (pc2 := 45) f_Mo_17 d_Mo_up_42 rfl zl_c546 rfl ?_
      refine zx_iload_n (pc2 := 46) d_Mo_up_45 rfl rfl ?_
      refine zx_iload_n (pc2 := 47) d_Mo_up_46 rfl rfl ?_
      refine zx_if_ne (pc2 := 50) d_Mo_up_47 rfl (tgt := 54) (by decide) (fun cz => absurd (rfl) cz) (fun _ => ?_)
      refine zx_iconst (pc2 := 51) (v := nI 1) d_Mo_up_50 rfl (by decide) ?_
      refine zx_goto (tgt := 55) d_Mo_up_51 (by decide) ?_
      refine zk_zast (pc2 := 56) d_Mo_up_55 rfl (by rfl) rfl (by omega) (by decide) ?_
      refine zx_iload_n (pc2 := 57) d_Mo_up_56 rfl rfl ?_
      exact zx_zret d_Mo_up_57 rfl rfl (⟨rfl, rfl, rfl⟩)
    · refine zx_iconst (pc2 := 40) (v := nI 0) d_Mo_up_39 rfl (by decide) ?_
      refine zx_ist3 (pc2 := 41) d_Mo_up_40 rfl rfl (by decide) ?_
      refine zx_aload_n (pc2 := 42) d_Mo_up_41 rfl rfl ?_
      refine zm_getR (pc2 := 45) f_Mo_17 d_Mo_up_42 rfl zl_c546 rfl ?_
      refine zx_iload_n (pc2 := 46) d_Mo_up_45 rfl rfl ?_
      refine zx_iload_n (pc2 := 47) d_Mo_up_46 rfl rfl ?_
      refine zx_if_ne (pc2 := 50) d_Mo_up_47 rfl (tgt := 54) (by decide) (fun _ => ?_) (fun cz => absurd cz (by decide))
      refine zx_iconst (pc2 := 55) (v := nI 0) d_Mo_up_54 rfl (by decide) ?_
      refine zk_zast (pc2 := 56) d_Mo_up_55 rfl (by rfl) rfl (by omega) (by decide) ?_
      refine zx_iload_n (pc2 := 57) d_Mo_up_56 rfl rfl ?_
      exact zx_zret d_Mo_up_57 rfl rfl (⟨rfl, rfl, rfl⟩)
  · rw [if_pos c]
    rcases hx with rfl | rfl
    · refine zx_iconst (pc2 := 36) (v := nI 1) d_Mo_up_35 rfl (by decide) ?_
      refine zx_goto (tgt := 40) d_Mo_up_36 (by decide) ?_
      refine zx_ist3 (pc2 := 41) d_Mo_up_40 rfl rfl (by decide) ?_
      refine zx_aload_n (pc2 := 42) d_Mo_up_41 rfl rfl ?_
      refine zm_getR (pc2 := 45) f_Mo_17 d_Mo_up_42 rfl zl_c546 rfl ?_
      refine zx_iload_n (pc2 := 46) d_Mo_up_45 rfl rfl ?_
      refine zx_iload_n (pc2 := 47) d_Mo_up_46 rfl rfl ?_
      refine zx_if_ne (pc2 := 50) d_Mo_up_47 rfl (tgt := 54) (by decide) (fun cz => absurd (rfl) cz) (fun _ => ?_)
      refine zx_iconst (pc2 := 51) (v := nI 1) d_Mo_up_50 rfl (by decide) ?_
      refine zx_goto (tgt := 55) d_Mo_up_51 (by decide) ?_
      refine zk_zast (pc2 := 56) d_Mo_up_55 rfl (by rfl) rfl (by omega) (by decide) ?_
      refine zx_iload_n (pc2 := 57) d_Mo_up_56 rfl rfl ?_
      exact zx_zret d_Mo_up_57 rfl rfl (⟨rfl, rfl, rfl⟩)
    · refine zx_iconst (pc2 := 36) (v := nI 1) d_Mo_up_35 rfl (by decide) ?_
      refine zx_goto (tgt := 40) d_Mo_up_36 (by decide) ?_
      refine zx_ist3 (pc2 := 41) d_Mo_up_40 rfl rfl (by decide) ?_
      refine zx_aload_n (pc2 := 42) d_Mo_up_41 rfl rfl ?_
      refine zm_getR (pc2 := 45) f_Mo_17 d_Mo_up_42 rfl zl_c546 rfl ?_
      refine zx_iload_n (pc2 := 46) d_Mo_up_45 rfl rfl ?_
      refine zx_iload_n (pc2 := 47) d_Mo_up_46 rfl rfl ?_
      refine zx_if_ne (pc2 := 50) d_Mo_up_47 rfl (tgt := 54) (by decide) (fun _ => ?_) (fun cz => absurd cz (by decide))
      refine zx_iconst (pc2 := 55) (v := nI 0) d_Mo_up_54 rfl (by decide) ?_
      refine zk_zast (pc2 := 56) d_Mo_up_55 rfl (by rfl) rfl (by omega) (by decide) ?_
      refine zx_iload_n (pc2 := 57) d_Mo_up_56 rfl rfl ?_
      exact zx_zret d_Mo_up_57 rfl rfl (⟨rfl, rfl, rfl⟩)
theorem x_Mo_up {x y : Int32} (hx : x < 0 ∨ nI 7 ≤ x) : zK l D ar b Z y_Mo_up 1 [.ref (b + 546), .int x, .int y] M n (some (.int (nI 0))) (gm_t M 1) := by
  refine zk_entry (L := [some (.ref (b + 546)), some (.int x), some (.int y), none]) rfl rfl (Nat.le_of_ble_eq_true rfl) rfl rfl ?_
  refine zx_aload_n (pc2 := 1) d_Mo_up_0 rfl rfl ?_
  refine zx_iload_n (pc2 := 2) d_Mo_up_1 rfl rfl ?_
  refine zk_callS (pc2 := 5) s_Mo_179 t_Mo_noStation (c_Mo_noS1 hx) d_Mo_up_2 rfl rfl rfl (Nat.le_of_ble_eq_true rfl) (by decide) (by decide) ?_
  refine zx_if_eq (pc2 := 8) d_Mo_up_5 rfl (tgt := 12) (by decide) (fun cz => absurd cz (by decide)) (fun _ => ?_)
  refine zx_iconst (pc2 := 9) (v := nI 1) d_Mo_up_8 rfl (by decide) ?_
  refine zx_goto (tgt := 13) d_Mo_up_9 (by decide) ?_
  refine zm_putI (pc2 := 16) p_Mo_7 d_Mo_up_13 rfl zl_c546 rfl rfl rfl ?_
  refine zx_aload_n (pc2 := 17) d_Mo_up_16 rfl rfl ?_
  refine zm_getV (pc2 := 20) f_Mo_7 d_Mo_up_17 rfl zl_c546 rfl (zm_Is) ?_
  refine zx_if_eq (pc2 := 23) d_Mo_up_20 rfl (tgt := 25) (by decide) (fun cz => absurd cz (by decide)) (fun _ => ?_)
  refine zx_iconst (pc2 := 24) (v := nI 0) d_Mo_up_23 rfl (by decide) ?_
  exact zx_zret d_Mo_up_24 rfl rfl (⟨rfl, rfl, rfl⟩)
theorem c_Mo_wipe {s : Nat} (hs : s < 7) : zK l D ar b Z y_Mo_wipe 1 [.ref (b + 546), .int (nI s)] M n none (gm_wipe M s) := by
  refine zk_entry (L := [some (.ref (b + 546)), some (.int (nI s)), none]) rfl rfl (Nat.le_of_ble_eq_true rfl) rfl rfl ?_
  refine zx_aload_n (pc2 := 1) d_Mo_wipe_0 rfl rfl ?_
  refine zx_iload_n (pc2 := 2) d_Mo_wipe_1 rfl rfl ?_
  refine zk_callS (pc2 := 5) s_Mo_179 t_Mo_noStation (c_Mo_noS0 hs) d_Mo_wipe_2 rfl rfl rfl (Nat.le_of_ble_eq_true rfl) (by decide) (by decide) ?_
  refine zx_if_eq (pc2 := 8) d_Mo_wipe_5 rfl (tgt := 12) (by decide) (fun _ => ?_) (fun cz => absurd (by decide) cz)
  refine zx_iconst (pc2 := 13) (v := nI 0) d_Mo_wipe_12 rfl (by decide) ?_
  refine zm_putI (pc2 := 16) p_Mo_7 d_Mo_wipe_13 rfl zl_c546 rfl rfl rfl ?_
  refine zx_aload_n (pc2 := 17) d_Mo_wipe_16 rfl rfl ?_
  refine zm_getV (pc2 := 20) f_Mo_7 d_Mo_wipe_17 rfl zl_c546 rfl (zm_Is) ?_
  refine zx_if_eq (pc2 := 23) d_Mo_wipe_20 rfl (tgt := 24) (by decide) (fun _ => ?_) (fun cz => absurd (by decide) cz)
  refine zx_aload_n (pc2 := 25) d_Mo_wipe_24 rfl rfl ?_
  refine zm_getR (pc2 := 28) f_Mo_21 d_Mo_wipe_25 rfl zl_c546 rfl ?_
  refine zx_iload_n (pc2 := 29) d_Mo_wipe_28 rfl rfl ?_
  refine zx_iconst (pc2 := 30) (v := nI 1) d_Mo_wipe_29 rfl (by decide) ?_
  refine zk_zast (pc2 := 31) d_Mo_wipe_30 rfl (by rfl) rfl (by omega) (by decide) ?_
  refine zx_aload_n (pc2 := 32) d_Mo_wipe_31 rfl rfl ?_
  refine zm_getR (pc2 := 35) f_Mo_13 d_Mo_wipe_32 rfl zl_c546 rfl ?_
  refine zx_iload_n (pc2 := 36) d_Mo_wipe_35 rfl rfl ?_
  refine zx_iconst (pc2 := 37) (v := nI 0) d_Mo_wipe_36 rfl (by decide) ?_
  refine zk_iast (pc2 := 38) d_Mo_wipe_37 rfl (by rfl) rfl (by omega) (by decide) ?_
  refine zx_iconst (pc2 := 39) (v := nI 0) d_Mo_wipe_38 rfl (by decide) ?_
  refine zx_ist2 (pc2 := 40) d_Mo_wipe_39 rfl rfl (by decide) ?_
  have h0 : gm_up (zm_wI (zm_wI (gm_t M 0) 549 s (nI 1)) 547 s (nI 0)) 550 (88 * s) 0 (fun _ => nI 0) = zm_wI (zm_wI (gm_t M 0) 549 s (nI 1)) 547 s (nI 0) := gm_up0
  refine Eq.mp (congrArg (fun w => zk_X l D ar b Z y_Mo_wipe 1 none (gm_wipe M s) n 40 [some (.ref (b + 546)), some (.int (nI s)), some (.int (nI 0))] [] w) h0) ?_
  refine zx_for (X := fun i => zk_X l D ar b Z y_Mo_wipe 1 none (gm_wipe M s) n 40 [some (.ref (b + 546)), some (.int (nI s)), some (.int (nI i))] [] (gm_up (zm_wI (zm_wI (gm_t M 0) 549 s (nI 1)) 547 s (nI 0)) 550 (88 * s) i (fun _ => nI 0))) 88 ?_ ?_ 0 (by decide)
  · refine zx_iload_n (pc2 := 41) d_Mo_wipe_40 rfl rfl ?_
    refine zx_bipush (pc2 := 43) (v := nI 88) d_Mo_wipe_41 rfl (by decide) ?_
    refine zx_icmp_ge (pc2 := 46) d_Mo_wipe_43 rfl (tgt := 64) (by decide) (fun _ => ?_) (fun cz => absurd (nI_le (Nat.le_refl 88) (by decide)) cz)
    exact zx_vret d_Mo_wipe_64 rfl (⟨rfl, rfl, rfl⟩)
  · intro i hi ih
    rw [← gm_upS] at ih
    refine zx_iload_n (pc2 := 41) d_Mo_wipe_40 rfl rfl ?_
    refine zx_bipush (pc2 := 43) (v := nI 88) d_Mo_wipe_41 rfl (by decide) ?_
    refine zx_icmp_ge (pc2 := 46) d_Mo_wipe_43 rfl (tgt := 64) (by decide) (fun cz => absurd cz (nI_ge hi (by decide))) (fun _ => ?_)
    refine zx_aload_n (pc2 := 47) d_Mo_wipe_46 rfl rfl ?_
    refine zm_getR (pc2 := 50) f_Mo_24 d_Mo_wipe_47 rfl zl_c546 rfl ?_
    refine zx_bipush (pc2 := 52) (v := nI 88) d_Mo_wipe_50 rfl (by decide) ?_
    refine zx_iload_n (pc2 := 53) d_Mo_wipe_52 rfl rfl ?_
    first | refine zx_imulN (pc2 := 54) d_Mo_wipe_53 rfl ?_ | refine zx_imul (pc2 := 54) d_Mo_wipe_53 rfl ?_
    refine zx_iload_n (pc2 := 55) d_Mo_wipe_54 rfl rfl ?_
    first | refine zx_iaddN (pc2 := 56) d_Mo_wipe_55 rfl ?_ | refine zx_iadd (pc2 := 56) d_Mo_wipe_55 rfl ?_
    refine zx_iconst (pc2 := 57) (v := nI 0) d_Mo_wipe_56 rfl (by decide) ?_
    refine zk_iast (pc2 := 58) d_Mo_wipe_57 rfl (by rfl) rfl (by omega) (by decide) ?_
    refine zx_inc2 (pc2 := 61) d_Mo_wipe_58 rfl (zk_1 _) rfl (by decide) ?_
    refine zx_goto (tgt := 40) d_Mo_wipe_61 (by decide) ?_
    exact ih
theorem x_Mo_wipe {x : Int32} (hx : x < 0 ∨ nI 7 ≤ x) : zK l D ar b Z y_Mo_wipe 1 [.ref (b + 546), .int x] M n none (gm_t M 1) := by
  refine zk_entry (L := [some (.ref (b + 546)), some (.int x), none]) rfl rfl (Nat.le_of_ble_eq_true rfl) rfl rfl ?_
  refine zx_aload_n (pc2 := 1) d_Mo_wipe_0 rfl rfl ?_
  refine zx_iload_n (pc2 := 2) d_Mo_wipe_1 rfl rfl ?_
  refine zk_callS (pc2 := 5) s_Mo_179 t_Mo_noStation (c_Mo_noS1 hx) d_Mo_wipe_2 rfl rfl rfl (Nat.le_of_ble_eq_true rfl) (by decide) (by decide) ?_
  refine zx_if_eq (pc2 := 8) d_Mo_wipe_5 rfl (tgt := 12) (by decide) (fun cz => absurd cz (by decide)) (fun _ => ?_)
  refine zx_iconst (pc2 := 9) (v := nI 1) d_Mo_wipe_8 rfl (by decide) ?_
  refine zx_goto (tgt := 13) d_Mo_wipe_9 (by decide) ?_
  refine zm_putI (pc2 := 16) p_Mo_7 d_Mo_wipe_13 rfl zl_c546 rfl rfl rfl ?_
  refine zx_aload_n (pc2 := 17) d_Mo_wipe_16 rfl rfl ?_
  refine zm_getV (pc2 := 20) f_Mo_7 d_Mo_wipe_17 rfl zl_c546 rfl (zm_Is) ?_
  refine zx_if_eq (pc2 := 23) d_Mo_wipe_20 rfl (tgt := 24) (by decide) (fun cz => absurd cz (by decide)) (fun _ => ?_)
  exact zx_vret d_Mo_wipe_23 rfl (⟨rfl, rfl, rfl⟩)
theorem c_Mo_remove {i c : Nat} (hc : zm_I M 546 5 = nI (c + 1)) (h60 : c < 60) (hi : i ≤ c) : zK l D ar b Z y_Mo_remove 0 [.ref (b + 546), .int (nI i)] M n none (gm_rm M i c) := by
  refine zk_entry (L := [some (.ref (b + 546)), some (.int (nI i)), none]) rfl rfl (Nat.le_of_ble_eq_true rfl) rfl rfl ?_
  refine zx_aload_n (pc2 := 1) d_Mo_remove_0 rfl rfl ?_
  refine zx_dup (pc2 := 2) d_Mo_remove_1 rfl rfl ?_
  refine zm_getV (pc2 := 5) f_Mo_27 d_Mo_remove_2 rfl zl_c546 rfl (hc) ?_
  refine zx_iconst (pc2 := 6) (v := nI 1) d_Mo_remove_5 rfl (by decide) ?_
  first | refine zx_isubN (pc2 := 7) d_Mo_remove_6 rfl (by omega) ?_ | refine zx_isub (pc2 := 7) d_Mo_remove_6 rfl ?_
  refine zm_putI (pc2 := 10) p_Mo_27 d_Mo_remove_7 rfl zl_c546 rfl rfl rfl ?_
  refine zx_bipush (pc2 := 12) (v := nI 7) d_Mo_remove_10 rfl (by decide) ?_
  refine zx_iload_n (pc2 := 13) d_Mo_remove_12 rfl rfl ?_
  first | refine zx_imulN (pc2 := 14) d_Mo_remove_13 rfl ?_ | refine zx_imul (pc2 := 14) d_Mo_remove_13 rfl ?_
  refine zx_ist2 (pc2 := 15) d_Mo_remove_14 rfl rfl (by decide) ?_
  have h0 : gm_up (zm_wI M 546 5 (nI c)) 551 (7 * i) 0 (fun x => zm_I M 551 (7 * i + x + 7)) = zm_wI M 546 5 (nI c) := gm_up0
  refine Eq.mp (congrArg (fun w => zk_X l D ar b Z y_Mo_remove 0 none (gm_rm M i c) n 15 [some (.ref (b + 546)), some (.int (nI i)), some (.int (nI (7 * i)))] [] w) h0) ?_
  refine zx_for (X := fun q => zk_X l D ar b Z y_Mo_remove 0 none (gm_rm M i c) n 15 [some (.ref (b + 546)), some (.int (nI i)), some (.int (nI (7 * i + q)))] [] (gm_up (zm_wI M 546 5 (nI c)) 551 (7 * i) q (fun x => zm_I M 551 (7 * i + x + 7)))) (7 * c - 7 * i) ?_ ?_ 0 (Nat.zero_le _)
  · refine zx_iload_n (pc2 := 16) d_Mo_remove_15 rfl rfl ?_
    refine zx_bipush (pc2 := 18) (v := nI 7) d_Mo_remove_16 rfl (by decide) ?_
    refine zx_aload_n (pc2 := 19) d_Mo_remove_18 rfl rfl ?_
    refine zm_getV (pc2 := 22) f_Mo_27 d_Mo_remove_19 rfl zl_c546 rfl ((gm_upn (Or.inl (by decide))).trans zm_Is) ?_
    first | refine zx_imulN (pc2 := 23) d_Mo_remove_22 rfl ?_ | refine zx_imul (pc2 := 23) d_Mo_remove_22 rfl ?_
    refine zx_icmp_ge (pc2 := 26) d_Mo_remove_23 rfl (tgt := 47) (by decide) (fun _ => ?_) (fun cz => absurd (nI_le (by omega) (by omega)) cz)
    refine zx_bipush (pc2 := 49) (v := nI 88) d_Mo_remove_47 rfl (by decide) ?_
    refine zx_iload_n (pc2 := 50) d_Mo_remove_49 rfl rfl ?_
    first | refine zx_imulN (pc2 := 51) d_Mo_remove_50 rfl ?_ | refine zx_imul (pc2 := 51) d_Mo_remove_50 rfl ?_
    refine zx_ist2 (pc2 := 52) d_Mo_remove_51 rfl rfl (by decide) ?_
    have h1 : gm_up (gm_up (zm_wI M 546 5 (nI c)) 551 (7 * i) (7 * c - 7 * i) (fun x => zm_I M 551 (7 * i + x + 7))) 552 (88 * i) 0 (fun x => zm_I M 552 (88 * i + x + 88)) = gm_up (zm_wI M 546 5 (nI c)) 551 (7 * i) (7 * c - 7 * i) (fun x => zm_I M 551 (7 * i + x + 7)) := gm_up0
    refine Eq.mp (congrArg (fun w => zk_X l D ar b Z y_Mo_remove 0 none (gm_rm M i c) n 52 [some (.ref (b + 546)), some (.int (nI i)), some (.int (nI (88 * i)))] [] w) h1) ?_
    refine zx_for (X := fun q => zk_X l D ar b Z y_Mo_remove 0 none (gm_rm M i c) n 52 [some (.ref (b + 546)), some (.int (nI i)), some (.int (nI (88 * i + q)))] [] (gm_up (gm_up (zm_wI M 546 5 (nI c)) 551 (7 * i) (7 * c - 7 * i) (fun x => zm_I M 551 (7 * i + x + 7))) 552 (88 * i) q (fun x => zm_I M 552 (88 * i + x + 88)))) (88 * c - 88 * i) ?_ ?_ 0 (Nat.zero_le _)
    · refine zx_iload_n (pc2 := 53) d_Mo_remove_52 rfl rfl ?_
      refine zx_bipush (pc2 := 55) (v := nI 88) d_Mo_remove_53 rfl (by decide) ?_
      refine zx_aload_n (pc2 := 56) d_Mo_remove_55 rfl rfl ?_
      refine zm_getV (pc2 := 59) f_Mo_27 d_Mo_remove_56 rfl zl_c546 rfl ((gm_upn (Or.inl (by decide))).trans ((gm_upn (Or.inl (by decide))).trans zm_Is)) ?_
      first | refine zx_imulN (pc2 := 60) d_Mo_remove_59 rfl ?_ | refine zx_imul (pc2 := 60) d_Mo_remove_59 rfl ?_
      refine zx_icmp_ge (pc2 := 63) d_Mo_remove_60 rfl (tgt := 84) (by decide) (fun _ => ?_) (fun cz => absurd (nI_le (by omega) (by omega)) cz)
      exact zx_vret d_Mo_remove_84 rfl (⟨rfl, rfl, rfl⟩)
    · intro q hq ih
      rw [← gm_upS] at ih
      refine zx_iload_n (pc2 := 53) d_Mo_remove_52 rfl rfl ?_
      refine zx_bipush (pc2 := 55) (v := nI 88) d_Mo_remove_53 rfl (by decide) ?_
      refine zx_aload_n (pc2 := 56) d_Mo_remove_55 rfl rfl ?_
      refine zm_getV (pc2 := 59) f_Mo_27 d_Mo_remove_56 rfl zl_c546 rfl ((gm_upn (Or.inl (by decide))).trans ((gm_upn (Or.inl (by decide))).trans zm_Is)) ?_
      first | refine zx_imulN (pc2 := 60) d_Mo_remove_59 rfl ?_ | refine zx_imul (pc2 := 60) d_Mo_remove_59 rfl ?_
      refine zx_icmp_ge (pc2 := 63) d_Mo_remove_60 rfl (tgt := 84) (by decide) (fun cz => absurd cz (nI_ge (by omega) (by omega))) (fun _ => ?_)
      refine zx_aload_n (pc2 := 64) d_Mo_remove_63 rfl rfl ?_
      refine zm_getR (pc2 := 67) f_Mo_33 d_Mo_remove_64 rfl zl_c546 rfl ?_
      refine zx_iload_n (pc2 := 68) d_Mo_remove_67 rfl rfl ?_
      refine zx_aload_n (pc2 := 69) d_Mo_remove_68 rfl rfl ?_
      refine zm_getR (pc2 := 72) f_Mo_33 d_Mo_remove_69 rfl zl_c546 rfl ?_
      refine zx_iload_n (pc2 := 73) d_Mo_remove_72 rfl rfl ?_
      refine zx_bipush (pc2 := 75) (v := nI 88) d_Mo_remove_73 rfl (by decide) ?_
      first | refine zx_iaddN (pc2 := 76) d_Mo_remove_75 rfl ?_ | refine zx_iadd (pc2 := 76) d_Mo_remove_75 rfl ?_
      refine zk_ialdV (pc2 := 77) d_Mo_remove_76 rfl (by rfl) rfl (by omega) (by decide) ((gm_upn (Or.inr (Or.inr (by omega)))).trans ((gm_upn (Or.inl (by decide))).trans (zm_In (Or.inl (by decide))))) ?_
      refine zk_iast (pc2 := 78) d_Mo_remove_77 rfl (by rfl) rfl (by omega) (by decide) ?_
      refine zx_inc2 (pc2 := 81) d_Mo_remove_78 rfl (zk_1 _) rfl (by decide) ?_
      refine zx_goto (tgt := 52) d_Mo_remove_81 (by decide) ?_
      exact ih
  · intro q hq ih
    rw [← gm_upS] at ih
    refine zx_iload_n (pc2 := 16) d_Mo_remove_15 rfl rfl ?_
    refine zx_bipush (pc2 := 18) (v := nI 7) d_Mo_remove_16 rfl (by decide) ?_
    refine zx_aload_n (pc2 := 19) d_Mo_remove_18 rfl rfl ?_
    refine zm_getV (pc2 := 22) f_Mo_27 d_Mo_remove_19 rfl zl_c546 rfl ((gm_upn (Or.inl (by decide))).trans zm_Is) ?_
    first | refine zx_imulN (pc2 := 23) d_Mo_remove_22 rfl ?_ | refine zx_imul (pc2 := 23) d_Mo_remove_22 rfl ?_
    refine zx_icmp_ge (pc2 := 26) d_Mo_remove_23 rfl (tgt := 47) (by decide) (fun cz => absurd cz (nI_ge (by omega) (by omega))) (fun _ => ?_)
    refine zx_aload_n (pc2 := 27) d_Mo_remove_26 rfl rfl ?_
    refine zm_getR (pc2 := 30) f_Mo_30 d_Mo_remove_27 rfl zl_c546 rfl ?_
    refine zx_iload_n (pc2 := 31) d_Mo_remove_30 rfl rfl ?_
    refine zx_aload_n (pc2 := 32) d_Mo_remove_31 rfl rfl ?_
    refine zm_getR (pc2 := 35) f_Mo_30 d_Mo_remove_32 rfl zl_c546 rfl ?_
    refine zx_iload_n (pc2 := 36) d_Mo_remove_35 rfl rfl ?_
    refine zx_bipush (pc2 := 38) (v := nI 7) d_Mo_remove_36 rfl (by decide) ?_
    first | refine zx_iaddN (pc2 := 39) d_Mo_remove_38 rfl ?_ | refine zx_iadd (pc2 := 39) d_Mo_remove_38 rfl ?_
    refine zk_ialdV (pc2 := 40) d_Mo_remove_39 rfl (by rfl) rfl (by omega) (by decide) ((gm_upn (Or.inr (Or.inr (by omega)))).trans (zm_In (Or.inl (by decide)))) ?_
    refine zk_iast (pc2 := 41) d_Mo_remove_40 rfl (by rfl) rfl (by omega) (by decide) ?_
    refine zx_inc2 (pc2 := 44) d_Mo_remove_41 rfl (zk_1 _) rfl (by decide) ?_
    refine zx_goto (tgt := 15) d_Mo_remove_44 (by decide) ?_
    exact ih
theorem c_Mo_drop {i c : Nat} (hc : zm_I M 546 5 = nI (c + 1)) (h60 : c < 60) (hi : i ≤ c) : zK l D ar b Z y_Mo_drop 1 [.ref (b + 546), .int (nI i)] M n none (gm_rm (gm_t M 0) i c) := by
  have hc' : zm_I (gm_t M 0) 546 5 = nI (c + 1) := (zm_In (Or.inr (by decide))).trans hc
  refine zk_entry (L := [some (.ref (b + 546)), some (.int (nI i))]) rfl rfl (Nat.le_of_ble_eq_true rfl) rfl rfl ?_
  refine zx_aload_n (pc2 := 1) d_Mo_drop_0 rfl rfl ?_
  refine zx_aload_n (pc2 := 2) d_Mo_drop_1 rfl rfl ?_
  refine zx_iload_n (pc2 := 3) d_Mo_drop_2 rfl rfl ?_
  refine zk_callV (pc2 := 6) s_Mo_168 v_Mo_noLetter (zl_c546) (c_Mo_noL0 hc (by omega) (by omega)) d_Mo_drop_3 rfl rfl rfl (Nat.le_of_ble_eq_true rfl) (by decide) (by decide) ?_
  refine zx_if_eq (pc2 := 9) d_Mo_drop_6 rfl (tgt := 13) (by decide) (fun _ => ?_) (fun cz => absurd (by decide) cz)
  refine zx_iconst (pc2 := 14) (v := nI 0) d_Mo_drop_13 rfl (by decide) ?_
  refine zm_putI (pc2 := 17) p_Mo_7 d_Mo_drop_14 rfl zl_c546 rfl rfl rfl ?_
  refine zx_aload_n (pc2 := 18) d_Mo_drop_17 rfl rfl ?_
  refine zm_getV (pc2 := 21) f_Mo_7 d_Mo_drop_18 rfl zl_c546 rfl (zm_Is) ?_
  refine zx_if_ne (pc2 := 24) d_Mo_drop_21 rfl (tgt := 29) (by decide) (fun cz => absurd (rfl) cz) (fun _ => ?_)
  refine zx_aload_n (pc2 := 25) d_Mo_drop_24 rfl rfl ?_
  refine zx_iload_n (pc2 := 26) d_Mo_drop_25 rfl rfl ?_
  refine zk_callVv (pc2 := 29) s_Mo_171 v_Mo_remove (zl_c546) (c_Mo_remove hc' h60 hi) d_Mo_drop_26 rfl rfl rfl (Nat.le_of_ble_eq_true rfl) (by decide) (by decide) ?_
  exact zx_vret d_Mo_drop_29 rfl (⟨rfl, rfl, rfl⟩)
theorem x_Mo_drop {x : Int32} (hx : x < 0 ∨ zm_I M 546 5 ≤ x) : zK l D ar b Z y_Mo_drop 1 [.ref (b + 546), .int x] M n none (gm_t M 1) := by
  refine zk_entry (L := [some (.ref (b + 546)), some (.int x)]) rfl rfl (Nat.le_of_ble_eq_true rfl) rfl rfl ?_
  refine zx_aload_n (pc2 := 1) d_Mo_drop_0 rfl rfl ?_
  refine zx_aload_n (pc2 := 2) d_Mo_drop_1 rfl rfl ?_
  refine zx_iload_n (pc2 := 3) d_Mo_drop_2 rfl rfl ?_
  refine zk_callV (pc2 := 6) s_Mo_168 v_Mo_noLetter (zl_c546) (c_Mo_noL1 hx) d_Mo_drop_3 rfl rfl rfl (Nat.le_of_ble_eq_true rfl) (by decide) (by decide) ?_
  refine zx_if_eq (pc2 := 9) d_Mo_drop_6 rfl (tgt := 13) (by decide) (fun cz => absurd cz (by decide)) (fun _ => ?_)
  refine zx_iconst (pc2 := 10) (v := nI 1) d_Mo_drop_9 rfl (by decide) ?_
  refine zx_goto (tgt := 14) d_Mo_drop_10 (by decide) ?_
  refine zm_putI (pc2 := 17) p_Mo_7 d_Mo_drop_14 rfl zl_c546 rfl rfl rfl ?_
  refine zx_aload_n (pc2 := 18) d_Mo_drop_17 rfl rfl ?_
  refine zm_getV (pc2 := 21) f_Mo_7 d_Mo_drop_18 rfl zl_c546 rfl (zm_Is) ?_
  refine zx_if_ne (pc2 := 24) d_Mo_drop_21 rfl (tgt := 29) (by decide) (fun _ => ?_) (fun cz => absurd cz (by decide))
  exact zx_vret d_Mo_drop_29 rfl (⟨rfl, rfl, rfl⟩)
end C52
