/-! Shelf: put, has, clear, copyFrom -/
def fm_put (M : zm_M) (r pl : Nat) (ba id le : Int32) (x : Int64) : zm_M := zm_wJ (zm_wI (zm_wI (zm_wI M (r + 1) pl ba) (r + 2) pl id) (r + 3) pl le) (r + 4) pl x
def fm_clear (M : zm_M) (r : Nat) : zm_M := zm_it (fun p M => fm_put M r p (nI 0) (nI 0) (nI 0) 0) 8 M
def fm_copySh (M : zm_M) (r q : Nat) : zm_M := zm_it (fun p M => fm_put M r p (zm_I M (q + 1) p) (zm_I M (q + 2) p) (zm_I M (q + 3) p) (zm_J M (q + 4) p)) 8 M
section C31
variable {l : Launch} {D : va_G} {ar : Nat → ClassId} {b : Nat} {Z : State → Prop} {M : zm_M} {n : Nat}
theorem c_Sh_put {r pl : Nat} {ba id le : Int32} {x : Int64} (hr : zl_Sh r) (hp : pl < 8) : zK l D ar b Z y_Sh_put 0 [.ref (b + r), .int (nI pl), .int ba, .int id, .int le, .long x] M n none (fm_put M r pl ba id le x) := by
  refine zk_entry (L := [some (.ref (b + r)), some (.int (nI pl)), some (.int ba), some (.int id), some (.int le), some (.long x), none]) rfl rfl (Nat.le_of_ble_eq_true rfl) rfl rfl ?_
  refine zx_aload_n (pc2 := 1) d_Sh_put_0 rfl rfl ?_
  refine zm_getR (pc2 := 4) f_Sh_9 d_Sh_put_1 rfl (hr.1) rfl ?_
  refine zx_iload_n (pc2 := 5) d_Sh_put_4 rfl rfl ?_
  refine zx_iload_n (pc2 := 6) d_Sh_put_5 rfl rfl ?_
  refine zk_iast (pc2 := 7) d_Sh_put_6 rfl (hr.2.1) (rfl) (hp) (by decide) ?_
  refine zx_aload_n (pc2 := 8) d_Sh_put_7 rfl rfl ?_
  refine zm_getR (pc2 := 11) f_Sh_15 d_Sh_put_8 rfl (hr.1) rfl ?_
  refine zx_iload_n (pc2 := 12) d_Sh_put_11 rfl rfl ?_
  refine zx_iload_n (pc2 := 13) d_Sh_put_12 rfl rfl ?_
  refine zk_iast (pc2 := 14) d_Sh_put_13 rfl (hr.2.2.1) (rfl) (hp) (by decide) ?_
  refine zx_aload_n (pc2 := 15) d_Sh_put_14 rfl rfl ?_
  refine zm_getR (pc2 := 18) f_Sh_18 d_Sh_put_15 rfl (hr.1) rfl ?_
  refine zx_iload_n (pc2 := 19) d_Sh_put_18 rfl rfl ?_
  refine zx_iload (pc2 := 21) d_Sh_put_19 rfl rfl ?_
  refine zk_iast (pc2 := 22) d_Sh_put_21 rfl (hr.2.2.2.1) (rfl) (hp) (by decide) ?_
  refine zx_aload_n (pc2 := 23) d_Sh_put_22 rfl rfl ?_
  refine zm_getR (pc2 := 26) f_Sh_21 d_Sh_put_23 rfl (hr.1) rfl ?_
  refine zx_iload_n (pc2 := 27) d_Sh_put_26 rfl rfl ?_
  refine zx_lload (pc2 := 29) d_Sh_put_27 rfl rfl ?_
  refine zk_last (pc2 := 30) d_Sh_put_29 rfl (hr.2.2.2.2) (rfl) (hp) (by decide) ?_
  exact zx_vret d_Sh_put_30 rfl (⟨rfl, rfl, rfl⟩)
theorem c_Sh_has {r pl : Nat} (hr : zl_Sh r) (hp : pl < 8) : zK l D ar b Z y_Sh_has 0 [.ref (b + r), .int (nI pl)] M n (some (.int (if zm_I M (r + 2) pl = 0 then nI 0 else nI 1))) M := by
  refine zk_entry (L := [some (.ref (b + r)), some (.int (nI pl))]) rfl rfl (Nat.le_of_ble_eq_true rfl) rfl rfl ?_
  refine zx_aload_n (pc2 := 1) d_Sh_has_0 rfl rfl ?_
  refine zm_getR (pc2 := 4) f_Sh_15 d_Sh_has_1 rfl (hr.1) rfl ?_
  refine zx_iload_n (pc2 := 5) d_Sh_has_4 rfl rfl ?_
  refine zk_iald (pc2 := 6) d_Sh_has_5 rfl (hr.2.2.1) (rfl) (hp) (by decide) ?_
  refine zx_if_eq (pc2 := 9) d_Sh_has_6 rfl (tgt := 13) (by decide) (fun c => ?_) (fun c => ?_)
  · rw [if_pos c]
    refine zx_iconst (pc2 := 14) (v := nI 0) d_Sh_has_13 rfl (by decide) ?_
    exact zx_zret d_Sh_has_14 rfl rfl (⟨rfl, rfl, rfl⟩)
  · rw [if_neg c]
    refine zx_iconst (pc2 := 10) (v := nI 1) d_Sh_has_9 rfl (by decide) ?_
    refine zx_goto (tgt := 14) d_Sh_has_10 (by decide) ?_
    exact zx_zret d_Sh_has_14 rfl rfl (⟨rfl, rfl, rfl⟩)
theorem c_Sh_clear {r : Nat} (hr : zl_Sh r) : zK l D ar b Z y_Sh_clear 1 [.ref (b + r)] M n none (fm_clear M r) := by
  refine zk_entry (L := [some (.ref (b + r)), none]) rfl rfl (Nat.le_of_ble_eq_true rfl) rfl rfl ?_
  refine zx_iconst (pc2 := 1) (v := nI 0) d_Sh_clear_0 rfl (by decide) ?_
  refine zx_ist1 (pc2 := 2) d_Sh_clear_1 rfl rfl (by decide) ?_
  refine zx_for (X := fun i => zk_X l D ar b Z y_Sh_clear 1 none (fm_clear M r) n 2 [some (.ref (b + r)), some (.int (nI i))] [] (zm_it (fun p M => fm_put M r p (nI 0) (nI 0) (nI 0) 0) i M)) 8 ?_ ?_ 0 (by decide)
  · refine zx_iload_n (pc2 := 3) d_Sh_clear_2 rfl rfl ?_
    refine zx_bipush (pc2 := 5) (v := nI 8) d_Sh_clear_3 rfl (by decide) ?_
    refine zx_icmp_ge (pc2 := 8) d_Sh_clear_5 rfl (tgt := 23) (by decide) (fun _ => ?_) (fun cz => absurd (nI_le (Nat.le_refl 8) (by decide)) cz)
    exact zx_vret d_Sh_clear_23 rfl (⟨rfl, rfl, rfl⟩)
  · intro i hi ih
    refine zx_iload_n (pc2 := 3) d_Sh_clear_2 rfl rfl ?_
    refine zx_bipush (pc2 := 5) (v := nI 8) d_Sh_clear_3 rfl (by decide) ?_
    refine zx_icmp_ge (pc2 := 8) d_Sh_clear_5 rfl (tgt := 23) (by decide) (fun cz => absurd cz (nI_ge hi (by decide))) (fun _ => ?_)
    refine zx_aload_n (pc2 := 9) d_Sh_clear_8 rfl rfl ?_
    refine zx_iload_n (pc2 := 10) d_Sh_clear_9 rfl rfl ?_
    refine zx_iconst (pc2 := 11) (v := nI 0) d_Sh_clear_10 rfl (by decide) ?_
    refine zx_iconst (pc2 := 12) (v := nI 0) d_Sh_clear_11 rfl (by decide) ?_
    refine zx_iconst (pc2 := 13) (v := nI 0) d_Sh_clear_12 rfl (by decide) ?_
    refine zx_lconst (pc2 := 14) (v := 0) d_Sh_clear_13 rfl rfl ?_
    refine zk_callVv (pc2 := 17) s_Sh_25 v_Sh_put (hr.1) (c_Sh_put hr hi) d_Sh_clear_14 rfl rfl rfl (Nat.le_of_ble_eq_true rfl) (by decide) (by decide) ?_
    refine zx_inc1 (pc2 := 20) d_Sh_clear_17 rfl (zk_1 _) rfl (by decide) ?_
    refine zx_goto (tgt := 2) d_Sh_clear_20 (by decide) ?_
    exact ih
theorem c_Sh_copyFrom {r q : Nat} (hr : zl_Sh r) (hq : zl_Sh q) : zK l D ar b Z y_Sh_copyFrom 1 [.ref (b + r), .ref (b + q)] M n none (fm_copySh M r q) := by
  refine zk_entry (L := [some (.ref (b + r)), some (.ref (b + q)), none]) rfl rfl (Nat.le_of_ble_eq_true rfl) rfl rfl ?_
  refine zx_iconst (pc2 := 1) (v := nI 0) d_Sh_copyFrom_0 rfl (by decide) ?_
  refine zx_ist2 (pc2 := 2) d_Sh_copyFrom_1 rfl rfl (by decide) ?_
  refine zx_for (X := fun i => zk_X l D ar b Z y_Sh_copyFrom 1 none (fm_copySh M r q) n 2 [some (.ref (b + r)), some (.ref (b + q)), some (.int (nI i))] [] (zm_it (fun p M => fm_put M r p (zm_I M (q + 1) p) (zm_I M (q + 2) p) (zm_I M (q + 3) p) (zm_J M (q + 4) p)) i M)) 8 ?_ ?_ 0 (by decide)
  · refine zx_iload_n (pc2 := 3) d_Sh_copyFrom_2 rfl rfl ?_
    refine zx_bipush (pc2 := 5) (v := nI 8) d_Sh_copyFrom_3 rfl (by decide) ?_
    refine zx_icmp_ge (pc2 := 8) d_Sh_copyFrom_5 rfl (tgt := 43) (by decide) (fun _ => ?_) (fun cz => absurd (nI_le (Nat.le_refl 8) (by decide)) cz)
    exact zx_vret d_Sh_copyFrom_43 rfl (⟨rfl, rfl, rfl⟩)
  · intro i hi ih
    refine zx_iload_n (pc2 := 3) d_Sh_copyFrom_2 rfl rfl ?_
    refine zx_bipush (pc2 := 5) (v := nI 8) d_Sh_copyFrom_3 rfl (by decide) ?_
    refine zx_icmp_ge (pc2 := 8) d_Sh_copyFrom_5 rfl (tgt := 43) (by decide) (fun cz => absurd cz (nI_ge hi (by decide))) (fun _ => ?_)
    refine zx_aload_n (pc2 := 9) d_Sh_copyFrom_8 rfl rfl ?_
    refine zx_iload_n (pc2 := 10) d_Sh_copyFrom_9 rfl rfl ?_
    refine zx_aload_n (pc2 := 11) d_Sh_copyFrom_10 rfl rfl ?_
    refine zm_getR (pc2 := 14) f_Sh_9 d_Sh_copyFrom_11 rfl (hq.1) rfl ?_
    refine zx_iload_n (pc2 := 15) d_Sh_copyFrom_14 rfl rfl ?_
    refine zk_iald (pc2 := 16) d_Sh_copyFrom_15 rfl (hq.2.1) (rfl) (hi) (by decide) ?_
    refine zx_aload_n (pc2 := 17) d_Sh_copyFrom_16 rfl rfl ?_
    refine zm_getR (pc2 := 20) f_Sh_15 d_Sh_copyFrom_17 rfl (hq.1) rfl ?_
    refine zx_iload_n (pc2 := 21) d_Sh_copyFrom_20 rfl rfl ?_
    refine zk_iald (pc2 := 22) d_Sh_copyFrom_21 rfl (hq.2.2.1) (rfl) (hi) (by decide) ?_
    refine zx_aload_n (pc2 := 23) d_Sh_copyFrom_22 rfl rfl ?_
    refine zm_getR (pc2 := 26) f_Sh_18 d_Sh_copyFrom_23 rfl (hq.1) rfl ?_
    refine zx_iload_n (pc2 := 27) d_Sh_copyFrom_26 rfl rfl ?_
    refine zk_iald (pc2 := 28) d_Sh_copyFrom_27 rfl (hq.2.2.2.1) (rfl) (hi) (by decide) ?_
    refine zx_aload_n (pc2 := 29) d_Sh_copyFrom_28 rfl rfl ?_
    refine zm_getR (pc2 := 32) f_Sh_21 d_Sh_copyFrom_29 rfl (hq.1) rfl ?_
    refine zx_iload_n (pc2 := 33) d_Sh_copyFrom_32 rfl rfl ?_
    refine zk_lald (pc2 := 34) d_Sh_copyFrom_33 rfl (hq.2.2.2.2) (rfl) (hi) (by decide) ?_
    refine zk_callVv (pc2 := 37) s_Sh_25 v_Sh_put (hr.1) (c_Sh_put hr hi) d_Sh_copyFrom_34 rfl rfl rfl (Nat.le_of_ble_eq_true rfl) (by decide) (by decide) ?_
    refine zx_inc2 (pc2 := 40) d_Sh_copyFrom_37 rfl (zk_1 _) rfl (by decide) ?_
    refine zx_goto (tgt := 2) d_Sh_copyFrom_40 (by decide) ?_
    exact ih
end C31
