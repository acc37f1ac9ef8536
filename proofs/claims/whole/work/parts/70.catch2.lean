/-! LogHouseModel: catchUp, where it throws -/
section C70
variable {l : Launch} {D : va_G} {ar : Nat → ClassId} {b : Nat} {Z : State → Prop} {M : zm_M} {n : Nat}
theorem x_Mo_catchUp {x y : Int32} (hx : x < 0 ∨ nI 7 ≤ x) : zK l D ar b Z y_Mo_catchUp 6 [.ref (b + 546), .int x, .int y] M n (some (.int (nI 0))) (gm_t M 1) := by
  refine zk_entry (L := [some (.ref (b + 546)), some (.int x), some (.int y), none, none, none, none, none, none]) rfl rfl (Nat.le_of_ble_eq_true rfl) rfl rfl ?_
  refine zx_aload_n (pc2 := 1) d_Mo_catchUp_0 rfl rfl ?_
  refine zx_iload_n (pc2 := 2) d_Mo_catchUp_1 rfl rfl ?_
  refine zk_callS (pc2 := 5) s_Mo_179 t_Mo_noStation (c_Mo_noS1 hx) d_Mo_catchUp_2 rfl rfl rfl (Nat.le_of_ble_eq_true rfl) (by decide) (by decide) ?_
  refine zx_if_ne (pc2 := 8) d_Mo_catchUp_5 rfl (tgt := 15) (by decide) (fun _ => ?_) (fun cz => absurd cz (by decide))
  refine zx_iconst (pc2 := 16) (v := nI 1) d_Mo_catchUp_15 rfl (by decide) ?_
  refine zx_goto (tgt := 20) d_Mo_catchUp_16 (by decide) ?_
  refine zm_putI (pc2 := 23) p_Mo_7 d_Mo_catchUp_20 rfl zl_c546 rfl rfl rfl ?_
  refine zx_aload_n (pc2 := 24) d_Mo_catchUp_23 rfl rfl ?_
  refine zm_getV (pc2 := 27) f_Mo_7 d_Mo_catchUp_24 rfl zl_c546 rfl (zm_Is) ?_
  refine zx_if_ne (pc2 := 30) d_Mo_catchUp_27 rfl (tgt := 53) (by decide) (fun _ => ?_) (fun cz => absurd cz (by decide))
  refine zx_aload_n (pc2 := 54) d_Mo_catchUp_53 rfl rfl ?_
  refine zm_getV (pc2 := 57) f_Mo_7 d_Mo_catchUp_54 rfl zl_c546 rfl (zm_Is) ?_
  refine zx_if_eq (pc2 := 60) d_Mo_catchUp_57 rfl (tgt := 62) (by decide) (fun cz => absurd cz (by decide)) (fun _ => ?_)
  refine zx_iconst (pc2 := 61) (v := nI 0) d_Mo_catchUp_60 rfl (by decide) ?_
  exact zx_iret d_Mo_catchUp_61 rfl (⟨rfl, rfl, rfl⟩)
theorem x_Mo_catchUpP {s : Nat} {y : Int32} (hs : s < 7) (hx : y < 0 ∨ nI 2 ≤ y) : zK l D ar b Z y_Mo_catchUp 6 [.ref (b + 546), .int (nI s), .int y] M n (some (.int (nI 0))) (gm_t M 1) := by
  refine zk_entry (L := [some (.ref (b + 546)), some (.int (nI s)), some (.int y), none, none, none, none, none, none]) rfl rfl (Nat.le_of_ble_eq_true rfl) rfl rfl ?_
  refine zx_aload_n (pc2 := 1) d_Mo_catchUp_0 rfl rfl ?_
  refine zx_iload_n (pc2 := 2) d_Mo_catchUp_1 rfl rfl ?_
  refine zk_callS (pc2 := 5) s_Mo_179 t_Mo_noStation (c_Mo_noS0 hs) d_Mo_catchUp_2 rfl rfl rfl (Nat.le_of_ble_eq_true rfl) (by decide) (by decide) ?_
  refine zx_if_ne (pc2 := 8) d_Mo_catchUp_5 rfl (tgt := 15) (by decide) (fun cz => absurd (by decide) cz) (fun _ => ?_)
  refine zx_iload_n (pc2 := 9) d_Mo_catchUp_8 rfl rfl ?_
  refine zk_callS (pc2 := 12) s_Mo_158 t_Mo_noProposer (c_Mo_noP1 hx) d_Mo_catchUp_9 rfl rfl rfl (Nat.le_of_ble_eq_true rfl) (by decide) (by decide) ?_
  refine zx_if_eq (pc2 := 15) d_Mo_catchUp_12 rfl (tgt := 19) (by decide) (fun cz => absurd cz (by decide)) (fun _ => ?_)
  refine zx_iconst (pc2 := 16) (v := nI 1) d_Mo_catchUp_15 rfl (by decide) ?_
  refine zx_goto (tgt := 20) d_Mo_catchUp_16 (by decide) ?_
  refine zm_putI (pc2 := 23) p_Mo_7 d_Mo_catchUp_20 rfl zl_c546 rfl rfl rfl ?_
  refine zx_aload_n (pc2 := 24) d_Mo_catchUp_23 rfl rfl ?_
  refine zm_getV (pc2 := 27) f_Mo_7 d_Mo_catchUp_24 rfl zl_c546 rfl (zm_Is) ?_
  refine zx_if_ne (pc2 := 30) d_Mo_catchUp_27 rfl (tgt := 53) (by decide) (fun _ => ?_) (fun cz => absurd cz (by decide))
  refine zx_aload_n (pc2 := 54) d_Mo_catchUp_53 rfl rfl ?_
  refine zm_getV (pc2 := 57) f_Mo_7 d_Mo_catchUp_54 rfl zl_c546 rfl (zm_Is) ?_
  refine zx_if_eq (pc2 := 60) d_Mo_catchUp_57 rfl (tgt := 62) (by decide) (fun cz => absurd cz (by decide)) (fun _ => ?_)
  refine zx_iconst (pc2 := 61) (v := nI 0) d_Mo_catchUp_60 rfl (by decide) ?_
  exact zx_iret d_Mo_catchUp_61 rfl (⟨rfl, rfl, rfl⟩)
theorem x_Mo_catchUpS {s p : Nat} (hs : s < 7) (hp : p < 2) (hx : zm_I M 549 s = 0 ∨ zm_I M 548 s ≠ 0) : zK l D ar b Z y_Mo_catchUp 6 [.ref (b + 546), .int (nI s), .int (nI p)] M n (some (.int (nI 0))) (zm_wI (gm_t M 0) 546 0 (nI 2)) := by
  refine zk_entry (L := [some (.ref (b + 546)), some (.int (nI s)), some (.int (nI p)), none, none, none, none, none, none]) rfl rfl (Nat.le_of_ble_eq_true rfl) rfl rfl ?_
  by_cases c : zm_I M 549 s = 0
  · refine zx_aload_n (pc2 := 1) d_Mo_catchUp_0 rfl rfl ?_
    refine zx_iload_n (pc2 := 2) d_Mo_catchUp_1 rfl rfl ?_
    refine zk_callS (pc2 := 5) s_Mo_179 t_Mo_noStation (c_Mo_noS0 hs) d_Mo_catchUp_2 rfl rfl rfl (Nat.le_of_ble_eq_true rfl) (by decide) (by decide) ?_
    refine zx_if_ne (pc2 := 8) d_Mo_catchUp_5 rfl (tgt := 15) (by decide) (fun cz => absurd (by decide) cz) (fun _ => ?_)
    refine zx_iload_n (pc2 := 9) d_Mo_catchUp_8 rfl rfl ?_
    refine zk_callS (pc2 := 12) s_Mo_158 t_Mo_noProposer (c_Mo_noP0 hp) d_Mo_catchUp_9 rfl rfl rfl (Nat.le_of_ble_eq_true rfl) (by decide) (by decide) ?_
    refine zx_if_eq (pc2 := 15) d_Mo_catchUp_12 rfl (tgt := 19) (by decide) (fun _ => ?_) (fun cz => absurd (by decide) cz)
    refine zx_iconst (pc2 := 20) (v := nI 0) d_Mo_catchUp_19 rfl (by decide) ?_
    refine zm_putI (pc2 := 23) p_Mo_7 d_Mo_catchUp_20 rfl zl_c546 rfl rfl rfl ?_
    refine zx_aload_n (pc2 := 24) d_Mo_catchUp_23 rfl rfl ?_
    refine zm_getV (pc2 := 27) f_Mo_7 d_Mo_catchUp_24 rfl zl_c546 rfl (zm_Is) ?_
    refine zx_if_ne (pc2 := 30) d_Mo_catchUp_27 rfl (tgt := 53) (by decide) (fun cz => absurd (rfl) cz) (fun _ => ?_)
    refine zx_aload_n (pc2 := 31) d_Mo_catchUp_30 rfl rfl ?_
    refine zm_getR (pc2 := 34) f_Mo_21 d_Mo_catchUp_31 rfl zl_c546 rfl ?_
    refine zx_iload_n (pc2 := 35) d_Mo_catchUp_34 rfl rfl ?_
    refine zk_zaldV (pc2 := 36) d_Mo_catchUp_35 rfl (by rfl) rfl (by omega) (by decide) (gt_t (Or.inl (by decide))) ?_
    refine zx_if_eq (pc2 := 39) d_Mo_catchUp_36 rfl (tgt := 48) (by decide) (fun _ => ?_) (fun cz => absurd (c) cz)
    refine zx_aload_n (pc2 := 49) d_Mo_catchUp_48 rfl rfl ?_
    refine zx_iconst (pc2 := 50) (v := nI 2) d_Mo_catchUp_49 rfl (by decide) ?_
    refine zm_putI (pc2 := 53) p_Mo_7 d_Mo_catchUp_50 rfl zl_c546 rfl rfl rfl ?_
    refine zx_aload_n (pc2 := 54) d_Mo_catchUp_53 rfl rfl ?_
    refine zm_getV (pc2 := 57) f_Mo_7 d_Mo_catchUp_54 rfl zl_c546 rfl (zm_Is) ?_
    refine zx_if_eq (pc2 := 60) d_Mo_catchUp_57 rfl (tgt := 62) (by decide) (fun cz => absurd cz (by decide)) (fun _ => ?_)
    refine zx_iconst (pc2 := 61) (v := nI 0) d_Mo_catchUp_60 rfl (by decide) ?_
    exact zx_iret d_Mo_catchUp_61 rfl (⟨rfl, rfl, rfl⟩)
  · refine zx_aload_n (pc2 := 1) d_Mo_catchUp_0 rfl rfl ?_
    refine zx_iload_n (pc2 := 2) d_Mo_catchUp_1 rfl rfl ?_
    refine zk_callS (pc2 := 5) s_Mo_179 t_Mo_noStation (c_Mo_noS0 hs) d_Mo_catchUp_2 rfl rfl rfl (Nat.le_of_ble_eq_true rfl) (by decide) (by decide) ?_
    refine zx_if_ne (pc2 := 8) d_Mo_catchUp_5 rfl (tgt := 15) (by decide) (fun cz => absurd (by decide) cz) (fun _ => ?_)
    refine zx_iload_n (pc2 := 9) d_Mo_catchUp_8 rfl rfl ?_
    refine zk_callS (pc2 := 12) s_Mo_158 t_Mo_noProposer (c_Mo_noP0 hp) d_Mo_catchUp_9 rfl rfl rfl (Nat.le_of_ble_eq_true rfl) (by decide) (by decide) ?_
    refine zx_if_eq (pc2 := 15) d_Mo_catchUp_12 rfl (tgt := 19) (by decide) (fun _ => ?_) (fun cz => absurd (by decide) cz)
    refine zx_iconst (pc2 := 20) (v := nI 0) d_Mo_catchUp_19 rfl (by decide) ?_
    refine zm_putI (pc2 := 23) p_Mo_7 d_Mo_catchUp_20 rfl zl_c546 rfl rfl rfl ?_
    refine zx_aload_n (pc2 := 24) d_Mo_catchUp_23 rfl rfl ?_
    refine zm_getV (pc2 := 27) f_Mo_7 d_Mo_catchUp_24 rfl zl_c546 rfl (zm_Is) ?_
    refine zx_if_ne (pc2 := 30) d_Mo_catchUp_27 rfl (tgt := 53) (by decide) (fun cz => absurd (rfl) cz) (fun _ => ?_)
    refine zx_aload_n (pc2 := 31) d_Mo_catchUp_30 rfl rfl ?_
    refine zm_getR (pc2 := 34) f_Mo_21 d_Mo_catchUp_31 rfl zl_c546 rfl ?_
    refine zx_iload_n (pc2 := 35) d_Mo_catchUp_34 rfl rfl ?_
    refine zk_zaldV (pc2 := 36) d_Mo_catchUp_35 rfl (by rfl) rfl (by omega) (by decide) (gt_t (Or.inl (by decide))) ?_
    refine zx_if_eq (pc2 := 39) d_Mo_catchUp_36 rfl (tgt := 48) (by decide) (fun cz => absurd cz (c)) (fun _ => ?_)
    refine zx_aload_n (pc2 := 40) d_Mo_catchUp_39 rfl rfl ?_
    refine zm_getR (pc2 := 43) f_Mo_17 d_Mo_catchUp_40 rfl zl_c546 rfl ?_
    refine zx_iload_n (pc2 := 44) d_Mo_catchUp_43 rfl rfl ?_
    refine zk_zaldV (pc2 := 45) d_Mo_catchUp_44 rfl (by rfl) rfl (by omega) (by decide) (gt_t (Or.inl (by decide))) ?_
    refine zx_if_eq (pc2 := 48) d_Mo_catchUp_45 rfl (tgt := 53) (by decide) (fun cz => absurd cz (hx.resolve_left c)) (fun _ => ?_)
    refine zx_aload_n (pc2 := 49) d_Mo_catchUp_48 rfl rfl ?_
    refine zx_iconst (pc2 := 50) (v := nI 2) d_Mo_catchUp_49 rfl (by decide) ?_
    refine zm_putI (pc2 := 53) p_Mo_7 d_Mo_catchUp_50 rfl zl_c546 rfl rfl rfl ?_
    refine zx_aload_n (pc2 := 54) d_Mo_catchUp_53 rfl rfl ?_
    refine zm_getV (pc2 := 57) f_Mo_7 d_Mo_catchUp_54 rfl zl_c546 rfl (zm_Is) ?_
    refine zx_if_eq (pc2 := 60) d_Mo_catchUp_57 rfl (tgt := 62) (by decide) (fun cz => absurd cz (by decide)) (fun _ => ?_)
    refine zx_iconst (pc2 := 61) (v := nI 0) d_Mo_catchUp_60 rfl (by decide) ?_
    exact zx_iret d_Mo_catchUp_61 rfl (⟨rfl, rfl, rfl⟩)
end C70
