/-! LogHouseModel: times three, at the level of the heap (the constructor calls it) -/
def gt_x2 (x : Nat) : Nat := if 2 * x ≤ 255 then 2 * x else (2 * x) ^^^ 283
def gt_tm (a : Nat) : Nat → Nat × Nat
  | 0 => (0, a)
  | i + 1 => (if i < 2 then (gt_tm a i).1 ^^^ (gt_tm a i).2 else (gt_tm a i).1, gt_x2 (gt_tm a i).2)
theorem gt_x2_lt : ∀ x, x < 256 → gt_x2 x < 256 := by decide +kernel
theorem gt_tm_lt {a : Nat} (ha : a < 256) : ∀ i, (gt_tm a i).2 < 256
  | 0 => ha
  | i + 1 => gt_x2_lt _ (gt_tm_lt ha i)
theorem gt_shl : ∀ x, x < 256 → nI x <<< (nI 1 &&& 31) = nI (2 * x) := by decide +kernel
theorem gt_b3 : ∀ i, i < 8 → (nI 3 >>> (nI i &&& 31)) &&& nI 1 = nI (if i < 2 then 1 else 0) := by decide +kernel
theorem gt_pwS : ∀ k, k < 509 → gt_pw (k + 1) = (gt_tm (gt_pw k) 8).1 := by decide +kernel
section C68
variable {l : Launch} {D : va_G} {ar : Nat → ClassId} {b : Nat} {Z : State → Prop} {h : zx_H} {n : Nat}
theorem n_times {a : Nat} (ha : a < 256) : zM (zn_G l D ar b Z) y_Mo_times (zx_rm 0) [.int (nI a), .int (nI 3)] h n (zx_po (some (.int (nI (gt_tm a 8).1))) h n) := by
  refine zx_entry (L := [some (.int (nI a)), some (.int (nI 3)), none, none, none]) rfl rfl (Nat.le_of_ble_eq_true rfl) rfl rfl ?_
  refine zx_iconst (pc2 := 1) (v := nI 0) d_Mo_times_0 rfl (by decide) ?_
  refine zx_ist2 (pc2 := 2) d_Mo_times_1 rfl rfl (by decide) ?_
  refine zx_iload_n (pc2 := 3) d_Mo_times_2 rfl rfl ?_
  refine zx_ist3 (pc2 := 4) d_Mo_times_3 rfl rfl (by decide) ?_
  refine zx_iconst (pc2 := 5) (v := nI 0) d_Mo_times_4 rfl (by decide) ?_
  refine zx_ist4 (pc2 := 7) d_Mo_times_5 rfl rfl (by decide) ?_
  refine zx_for (X := fun i => zX (zn_G l D ar b Z) y_Mo_times (zx_rm 0) (zx_F (zn_G l D ar b Z) 0 0 (zx_po (some (.int (nI (gt_tm a 8).1))) h n)) 7 [some (.int (nI a)), some (.int (nI 3)), some (.int (nI (gt_tm a i).1)), some (.int (nI (gt_tm a i).2)), some (.int (nI i))] [] h n 0 0) 8 ?_ ?_ 0 (Nat.zero_le _)
  · refine zx_iload (pc2 := 9) d_Mo_times_7 rfl rfl ?_
    refine zx_bipush (pc2 := 11) (v := nI 8) d_Mo_times_9 rfl (by decide) ?_
    refine zx_icmp_ge (pc2 := 14) d_Mo_times_11 rfl (tgt := 51) (by decide) (fun _ => ?_) (fun cz => absurd (nI_le (Nat.le_refl 8) (by decide)) cz)
    refine zx_iload_n (pc2 := 52) d_Mo_times_51 rfl rfl ?_
    exact zx_iret d_Mo_times_52 rfl (⟨rfl, rfl, rfl⟩)
  · intro i hi ih
    have hx := gt_tm_lt ha i
    have e3 := gt_b3 i hi
    have es := gt_shl _ hx
    have eS : gt_tm a (i + 1) = (if i < 2 then (gt_tm a i).1 ^^^ (gt_tm a i).2 else (gt_tm a i).1, gt_x2 (gt_tm a i).2) := rfl
    rw [eS] at ih
    dsimp only at ih
    generalize (gt_tm a i).1 = u at ih
    generalize (gt_tm a i).2 = x at ih hx es
    generalize nI (gt_tm a 8).1 = rr at ih
    unfold gt_x2 at ih
    by_cases c : i < 2
    · rw [if_pos c] at ih
      by_cases c2 : 2 * x ≤ 255
      · rw [if_pos c2] at ih
        refine zx_iload (pc2 := 9) d_Mo_times_7 rfl rfl ?_
        refine zx_bipush (pc2 := 11) (v := nI 8) d_Mo_times_9 rfl (by decide) ?_
        refine zx_icmp_ge (pc2 := 14) d_Mo_times_11 rfl (tgt := 51) (by decide) (fun cz => absurd cz (nI_ge hi (by decide))) (fun _ => ?_)
        refine zx_iload_n (pc2 := 15) d_Mo_times_14 rfl rfl ?_
        refine zx_iload (pc2 := 17) d_Mo_times_15 rfl rfl ?_
        refine zx_ishr (pc2 := 18) d_Mo_times_17 rfl ?_
        refine zx_iconst (pc2 := 19) (v := nI 1) d_Mo_times_18 rfl (by decide) ?_
        refine zx_iand (pc2 := 20) d_Mo_times_19 rfl ?_; rw [e3]
        refine zx_iconst (pc2 := 21) (v := nI 1) d_Mo_times_20 rfl (by decide) ?_
        refine zx_icmp_ne (pc2 := 24) d_Mo_times_21 rfl (tgt := 28) (by decide) (fun cz => absurd (by rw [if_pos c]) cz) (fun _ => ?_)
        refine zx_iload_n (pc2 := 25) d_Mo_times_24 rfl rfl ?_
        refine zx_iload_n (pc2 := 26) d_Mo_times_25 rfl rfl ?_
        first | refine zx_ixorN (pc2 := 27) d_Mo_times_26 rfl ?_ | refine zx_ixor (pc2 := 27) d_Mo_times_26 rfl ?_
        refine zx_ist2 (pc2 := 28) d_Mo_times_27 rfl rfl (by decide) ?_
        refine zx_iload_n (pc2 := 29) d_Mo_times_28 rfl rfl ?_
        refine zx_iconst (pc2 := 30) (v := nI 1) d_Mo_times_29 rfl (by decide) ?_
        refine zx_ishl (pc2 := 31) d_Mo_times_30 rfl ?_; rw [es]
        refine zx_ist3 (pc2 := 32) d_Mo_times_31 rfl rfl (by decide) ?_
        refine zx_iload_n (pc2 := 33) d_Mo_times_32 rfl rfl ?_
        refine zx_sipush (pc2 := 36) (v := nI 255) d_Mo_times_33 rfl (by decide) ?_
        refine zx_icmp_le (pc2 := 39) d_Mo_times_36 rfl (tgt := 45) (by decide) (fun _ => ?_) (fun cz => absurd (nI_le c2 (by decide)) cz)
        refine zx_inc4 (pc2 := 48) d_Mo_times_45 rfl (zk_1 _) rfl (by decide) ?_
        refine zx_goto (tgt := 7) d_Mo_times_48 (by decide) ?_
        exact ih
      · rw [if_neg c2] at ih
        refine zx_iload (pc2 := 9) d_Mo_times_7 rfl rfl ?_
        refine zx_bipush (pc2 := 11) (v := nI 8) d_Mo_times_9 rfl (by decide) ?_
        refine zx_icmp_ge (pc2 := 14) d_Mo_times_11 rfl (tgt := 51) (by decide) (fun cz => absurd cz (nI_ge hi (by decide))) (fun _ => ?_)
        refine zx_iload_n (pc2 := 15) d_Mo_times_14 rfl rfl ?_
        refine zx_iload (pc2 := 17) d_Mo_times_15 rfl rfl ?_
        refine zx_ishr (pc2 := 18) d_Mo_times_17 rfl ?_
        refine zx_iconst (pc2 := 19) (v := nI 1) d_Mo_times_18 rfl (by decide) ?_
        refine zx_iand (pc2 := 20) d_Mo_times_19 rfl ?_; rw [e3]
        refine zx_iconst (pc2 := 21) (v := nI 1) d_Mo_times_20 rfl (by decide) ?_
        refine zx_icmp_ne (pc2 := 24) d_Mo_times_21 rfl (tgt := 28) (by decide) (fun cz => absurd (by rw [if_pos c]) cz) (fun _ => ?_)
        refine zx_iload_n (pc2 := 25) d_Mo_times_24 rfl rfl ?_
        refine zx_iload_n (pc2 := 26) d_Mo_times_25 rfl rfl ?_
        first | refine zx_ixorN (pc2 := 27) d_Mo_times_26 rfl ?_ | refine zx_ixor (pc2 := 27) d_Mo_times_26 rfl ?_
        refine zx_ist2 (pc2 := 28) d_Mo_times_27 rfl rfl (by decide) ?_
        refine zx_iload_n (pc2 := 29) d_Mo_times_28 rfl rfl ?_
        refine zx_iconst (pc2 := 30) (v := nI 1) d_Mo_times_29 rfl (by decide) ?_
        refine zx_ishl (pc2 := 31) d_Mo_times_30 rfl ?_; rw [es]
        refine zx_ist3 (pc2 := 32) d_Mo_times_31 rfl rfl (by decide) ?_
        refine zx_iload_n (pc2 := 33) d_Mo_times_32 rfl rfl ?_
        refine zx_sipush (pc2 := 36) (v := nI 255) d_Mo_times_33 rfl (by decide) ?_
        refine zx_icmp_le (pc2 := 39) d_Mo_times_36 rfl (tgt := 45) (by decide) (fun cz => absurd cz (nI_ge (by omega) (by omega))) (fun _ => ?_)
        refine zx_iload_n (pc2 := 40) d_Mo_times_39 rfl rfl ?_
        refine zx_sipush (pc2 := 43) (v := nI 283) d_Mo_times_40 rfl (by decide) ?_
        first | refine zx_ixorN (pc2 := 44) d_Mo_times_43 rfl ?_ | refine zx_ixor (pc2 := 44) d_Mo_times_43 rfl ?_
        refine zx_ist3 (pc2 := 45) d_Mo_times_44 rfl rfl (by decide) ?_
        refine zx_inc4 (pc2 := 48) d_Mo_times_45 rfl (zk_1 _) rfl (by decide) ?_
        refine zx_goto (tgt := 7) d_Mo_times_48 (by decide) ?_
        exact ih
    · rw [if_neg c] at ih
      by_cases c2 : 2 * x ≤ 255
      · rw [if_pos c2] at ih
        refine zx_iload (pc2 := 9) d_Mo_times_7 rfl rfl ?_
        refine zx_bipush (pc2 := 11) (v := nI 8) d_Mo_times_9 rfl (by decide) ?_
        refine zx_icmp_ge (pc2 := 14) d_Mo_times_11 rfl (tgt := 51) (by decide) (fun cz => absurd cz (nI_ge hi (by decide))) (fun _ => ?_)
        refine zx_iload_n (pc2 := 15) d_Mo_times_14 rfl rfl ?_
        refine zx_iload (pc2 := 17) d_Mo_times_15 rfl rfl ?_
        refine zx_ishr (pc2 := 18) d_Mo_times_17 rfl ?_
        refine zx_iconst (pc2 := 19) (v := nI 1) d_Mo_times_18 rfl (by decide) ?_
        refine zx_iand (pc2 := 20) d_Mo_times_19 rfl ?_; rw [e3]
        refine zx_iconst (pc2 := 21) (v := nI 1) d_Mo_times_20 rfl (by decide) ?_
        refine zx_icmp_ne (pc2 := 24) d_Mo_times_21 rfl (tgt := 28) (by decide) (fun _ => ?_) (fun cz => absurd cz (by rw [if_neg c]; decide))
        refine zx_iload_n (pc2 := 29) d_Mo_times_28 rfl rfl ?_
        refine zx_iconst (pc2 := 30) (v := nI 1) d_Mo_times_29 rfl (by decide) ?_
        refine zx_ishl (pc2 := 31) d_Mo_times_30 rfl ?_; rw [es]
        refine zx_ist3 (pc2 := 32) d_Mo_times_31 rfl rfl (by decide) ?_
        refine zx_iload_n (pc2 := 33) d_Mo_times_32 rfl rfl ?_
        refine zx_sipush (pc2 := 36) (v := nI 255) d_Mo_times_33 rfl (by decide) ?_
        refine zx_icmp_le (pc2 := 39) d_Mo_times_36 rfl (tgt := 45) (by decide) (fun _ => ?_) (fun cz => absurd (nI_le c2 (by decide)) cz)
        refine zx_inc4 (pc2 := 48) d_Mo_times_45 rfl (zk_1 _) rfl (by decide) ?_
        refine zx_goto (tgt := 7) d_Mo_times_48 (by decide) ?_
        exact ih
      · rw [if_neg c2] at ih
        refine zx_iload (pc2 := 9) d_Mo_times_7 rfl rfl ?_
        refine zx_bipush (pc2 := 11) (v := nI 8) d_Mo_times_9 rfl (by decide) ?_
        refine zx_icmp_ge (pc2 := 14) d_Mo_times_11 rfl (tgt := 51) (by decide) (fun cz => absurd cz (nI_ge hi (by decide))) (fun _ => ?_)
        refine zx_iload_n (pc2 := 15) d_Mo_times_14 rfl rfl ?_
        refine zx_iload (pc2 := 17) d_Mo_times_15 rfl rfl ?_
        refine zx_ishr (pc2 := 18) d_Mo_times_17 rfl ?_
        refine zx_iconst (pc2 := 19) (v := nI 1) d_Mo_times_18 rfl (by decide) ?_
        refine zx_iand (pc2 := 20) d_Mo_times_19 rfl ?_; rw [e3]
        refine zx_iconst (pc2 := 21) (v := nI 1) d_Mo_times_20 rfl (by decide) ?_
        refine zx_icmp_ne (pc2 := 24) d_Mo_times_21 rfl (tgt := 28) (by decide) (fun _ => ?_) (fun cz => absurd cz (by rw [if_neg c]; decide))
        refine zx_iload_n (pc2 := 29) d_Mo_times_28 rfl rfl ?_
        refine zx_iconst (pc2 := 30) (v := nI 1) d_Mo_times_29 rfl (by decide) ?_
        refine zx_ishl (pc2 := 31) d_Mo_times_30 rfl ?_; rw [es]
        refine zx_ist3 (pc2 := 32) d_Mo_times_31 rfl rfl (by decide) ?_
        refine zx_iload_n (pc2 := 33) d_Mo_times_32 rfl rfl ?_
        refine zx_sipush (pc2 := 36) (v := nI 255) d_Mo_times_33 rfl (by decide) ?_
        refine zx_icmp_le (pc2 := 39) d_Mo_times_36 rfl (tgt := 45) (by decide) (fun cz => absurd cz (nI_ge (by omega) (by omega))) (fun _ => ?_)
        refine zx_iload_n (pc2 := 40) d_Mo_times_39 rfl rfl ?_
        refine zx_sipush (pc2 := 43) (v := nI 283) d_Mo_times_40 rfl (by decide) ?_
        first | refine zx_ixorN (pc2 := 44) d_Mo_times_43 rfl ?_ | refine zx_ixor (pc2 := 44) d_Mo_times_43 rfl ?_
        refine zx_ist3 (pc2 := 45) d_Mo_times_44 rfl rfl (by decide) ?_
        refine zx_inc4 (pc2 := 48) d_Mo_times_45 rfl (zk_1 _) rfl (by decide) ?_
        refine zx_goto (tgt := 7) d_Mo_times_48 (by decide) ?_
        exact ih
end C68
