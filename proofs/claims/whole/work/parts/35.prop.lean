/-! Proposer, Row -/
def fk_v (m i : Nat) : Int32 := if i < m then nI (m - 1 - i) else -1
theorem fk_v1 : ∀ m, m < 5 → ∀ i, i < m → nI (m - 1 - i) + Int32.ofInt (-1) = fk_v m (i + 1) := by decide +kernel
def fm_wrS (r : Nat) (w : Int32) (dl m i : Nat) (M : zm_M) : zm_M := zm_wI (zm_wI M (r + 1) (dl + i) (vp_nar .byte ((w.toUInt32 >>> ((nI 8 * nI (m - 1 - i)).toUInt32 &&& Int32.toUInt32 31)).toInt32.toInt8.toInt32))) r 4 (nI (dl + i + 1))
def fm_wr (M : zm_M) (r : Nat) (w : Int32) (dl m : Nat) : zm_M := zm_it (fm_wrS r w dl m) m M
def fs_ball (M : zm_M) (r : Nat) (hp : Int32) : Int32 := nI 2 * ff_max (nI 1) ((ff_max (zm_I M r 2) hp - zm_I M r 0 + nI 2) / nI 2) + zm_I M r 0
def fm_beg0 (M : zm_M) (r : Nat) (hp : Int32) : zm_M := zm_wI (zm_wI (zm_wI M r 2 (fs_ball M r hp)) r 1 (nI 1)) r 3 (nI 0)
def fm_begin (M : zm_M) (r : Nat) (hp : Int32) : zm_M := zm_it (fun p M => fm_prop M (r + 39 + 3 * p) (nI 0)) 8 (fm_beg0 M r hp)
def fs_from (M : zm_M) (r : Nat) : Nat → Nat → Int32
  | 0, _ => -1
  | f + 1, i => if zm_I M (r + 39 + 3 * i) 0 = 0 ∧ zm_I M (r + 39 + 3 * i) 1 = 0 then nI i else fs_from M r f (i + 1)
def fs_ff (M : zm_M) (r : Nat) : Int32 := if zm_I M r 1 = nI 2 then fs_from M r 8 0 else -1
def fm_pd (M : zm_M) (r pl dl : Nat) : zm_M := zm_wI (fm_cut (fm_prop M (r + 39 + 3 * pl) (zm_I M r 2)) (r + 39 + 3 * pl + 1) (r + 1) dl) r 4 (nI 0)
def fm_hp1 (M : zm_M) (r q : Nat) : zm_M := zm_wI M r 3 (zm_I M r 3 ||| (nI 1 <<< (zm_I M q 1 &&& 31)))
def fm_hp (M : zm_M) (r q s : Nat) : zm_M := if zm_I M r 1 = nI 1 ∧ zm_I M q 3 = zm_I M r 2 ∧ ff_bit (zm_I M r 3) s ≠ nI 1 then fm_hp1 (fm_copySh M (r + 4 + 5 * s) (q + 1)) r q else M
def fm_ha (M : zm_M) (r q pl s : Nat) : zm_M := if zm_I M r 1 = nI 2 ∧ zm_I M q 3 = zm_I M r 2 then fm_hear M (r + 39 + 3 * pl) s (zm_I M q 5) else M
def gk_c (M : zm_M) : Nat := (zm_I M 539 2).toNatClampNeg
def gk_ok (M : zm_M) : Prop := zm_I M 539 2 = nI (gk_c M) ∧ gk_c M ≤ 3
theorem gk_of {M : zm_M} {c : Nat} (h : zm_I M 539 2 = nI c) (hc : c ≤ 3) : gk_ok M := by
  have e : gk_c M = c := by unfold gk_c; rw [h, nI_clamp (by omega)]
  exact ⟨by rw [e]; exact h, by rw [e]; exact hc⟩
theorem gk_add {M : zm_M} {s r pl : Nat} (h : gk_ok M) : gk_ok (fm_gadd M (gk_c M) s r pl) := by
  unfold fm_gadd
  split
  · rename_i c
    exact gk_of (c := gk_c M + 1) (by show zm_I (zm_wI _ 539 2 (nI (gk_c M + 1))) 539 2 = _; rw [zm_I_w, if_pos ⟨rfl, rfl⟩]) (by omega)
  · exact h
def fm_apS (r pl s : Nat) (M : zm_M) : zm_M := if ff_bit (zm_I M r 3) s = nI 1 then fm_gadd M (gk_c M) s (r + 4 + 5 * s) pl else M
def fm_addP (M : zm_M) (r pl : Nat) : zm_M := zm_it (fm_apS r pl) 7 M
theorem gk_aps {r pl : Nat} : ∀ (i : Nat) (M : zm_M), gk_ok M → gk_ok (zm_it (fm_apS r pl) i M)
  | 0, _, h => h
  | i + 1, M, h => by
    show gk_ok (fm_apS r pl i (zm_it (fm_apS r pl) i M))
    unfold fm_apS
    split
    · exact gk_add (gk_aps i M h)
    · exact gk_aps i M h
def fm_gp (r pl : Nat) : Nat → Nat → zm_M → Bool × zm_M
  | 0, _, M => (false, M)
  | f + 1, s, M => if ff_bit (zm_I M r 3) s = nI 1 ∧ zm_I M (r + 4 + 5 * s + 2) pl ≠ 0 then (if zm_I (fm_addP (fm_gst M (zm_I M (r + 4 + 5 * s + 2) pl)) r pl) 539 2 = nI 3 then (true, fm_addP (fm_gst M (zm_I M (r + 4 + 5 * s + 2) pl)) r pl) else fm_gp r pl f (s + 1) (fm_addP (fm_gst M (zm_I M (r + 4 + 5 * s + 2) pl)) r pl)) else fm_gp r pl f (s + 1) M
def zp_ok (M : zm_M) : Prop := ∀ j, j < 61 → zl_Le (zm_P M 172 j)
def fm_tkS (k : Nat) (M : zm_M) : zm_M := zm_wP M 172 k (zm_P M 172 (k + 1))
def fm_tkL (i : Nat) : Nat → zm_M → zm_M
  | 0, M => M
  | d + 1, M => fm_tkS (i + d) (fm_tkL i d M)
def fm_tk0 (M : zm_M) (c : Nat) : zm_M := zm_wI M 171 0 (nI c)
def fm_take (M : zm_M) (i c : Nat) : zm_M := zm_wP (zm_wP (fm_tkL i (c - i) (fm_tk0 M c)) 172 c (zm_P (fm_tkL i (c - i) (fm_tk0 M c)) 172 60)) 172 60 (zm_P M 172 i)
theorem zp_wP {M : zm_M} {k v : Nat} (h : zp_ok M) (hv : zl_Le v) : zp_ok (zm_wP M 172 k v) := by
  intro j hj
  rw [zm_P_w]
  split
  · exact hv
  · exact h j hj
theorem zp_tkL {i : Nat} : ∀ (d : Nat) (M : zm_M), zp_ok M → i + d < 61 → zp_ok (fm_tkL i d M)
  | 0, _, h, _ => h
  | d + 1, M, h, hd => zp_wP (zp_tkL d M h (by omega)) (zp_tkL d M h (by omega) (i + d + 1) (by omega))
theorem fm_tkL_I {i : Nat} : ∀ (d : Nat) (M : zm_M), zm_I (fm_tkL i d M) = zm_I M
  | 0, _ => rfl
  | d + 1, M => fm_tkL_I d M
section C35
variable {l : Launch} {D : va_G} {ar : Nat → ClassId} {b : Nat} {Z : State → Prop} {M : zm_M} {n : Nat}
theorem c_Pr_write {r dl m : Nat} {w : Int32} (hr : zl_Pr r) (hd : zm_I M r 4 = nI dl) (hdl : dl ≤ 24) (hm : m < 5) : zK l D ar b Z y_Pr_write 0 [.ref (b + r), .int w, .int (nI m)] M n (some (.int (if dl + m ≤ 24 then nI 1 else nI 0))) (if dl + m ≤ 24 then fm_wr M r w dl m else M) := by
  refine zk_entry (L := [some (.ref (b + r)), some (.int w), some (.int (nI m)), none]) rfl rfl (Nat.le_of_ble_eq_true rfl) rfl rfl ?_
  refine zx_aload_n (pc2 := 1) d_Pr_write_0 rfl rfl ?_
  refine zm_getI (pc2 := 4) f_Pr_36 d_Pr_write_1 rfl (hr.1) rfl ?_
  refine zx_iload_n (pc2 := 5) d_Pr_write_4 rfl rfl ?_
  refine zx_iadd (pc2 := 6) d_Pr_write_5 rfl ?_
  refine zx_bipush (pc2 := 8) (v := nI 24) d_Pr_write_6 rfl (by decide) ?_
  have e0 : zm_I M r 4 + nI m = nI (dl + m) := by rw [hd, nI_add]
  by_cases c : dl + m ≤ 24
  · rw [if_pos c, if_pos c]
    refine zx_icmp_le (pc2 := 11) d_Pr_write_8 rfl (tgt := 13) (by decide) (fun _ => ?_) (fun cz => absurd (by rw [show zm_I M r 4 + nI m = nI (dl + m) from e0]; exact nI_le c (by decide)) cz)
    refine zx_iload_n (pc2 := 14) d_Pr_write_13 rfl rfl ?_
    refine zx_iconst (pc2 := 15) (v := nI 1) d_Pr_write_14 rfl (by decide) ?_
    refine zx_isub (pc2 := 16) d_Pr_write_15 rfl ?_
    refine zx_ist3 (pc2 := 17) d_Pr_write_16 rfl rfl (by decide) ?_
    rw [show nI m - nI 1 = fk_v m 0 from (by decide +kernel : ∀ m, m < 5 → nI m - nI 1 = fk_v m 0) m hm]
    refine zx_for (X := fun i => zk_X l D ar b Z y_Pr_write 0 (some (.int (nI 1))) (fm_wr M r w dl m) n 17 [some (.ref (b + r)), some (.int w), some (.int (nI m)), some (.int (fk_v m i))] [] (zm_it (fm_wrS r w dl m) i M)) m ?_ ?_ 0 (Nat.zero_le _)
    · refine zx_iload_n (pc2 := 18) d_Pr_write_17 rfl rfl ?_
      refine zx_if_lt (pc2 := 21) d_Pr_write_18 rfl (tgt := 53) (by decide) (fun _ => ?_) (fun cz => absurd (by unfold fk_v; rw [if_neg (Nat.lt_irrefl m)]; decide) cz)
      refine zx_iconst (pc2 := 54) (v := nI 1) d_Pr_write_53 rfl (by decide) ?_
      exact zx_zret d_Pr_write_54 rfl rfl (⟨rfl, rfl, rfl⟩)
    · intro i hi ih
      have hf : fk_v m i = nI (m - 1 - i) := if_pos hi
      rw [hf]
      have hdi : ∀ i, i ≤ m → zm_I (zm_it (fm_wrS r w dl m) i M) r 4 = nI (dl + i) := by
        intro i _
        cases i with
        | zero => exact hd
        | succ q => show zm_I (zm_wI _ r 4 (nI (dl + q + 1))) r 4 = _; rw [zm_I_w, if_pos ⟨rfl, rfl⟩]; rfl
      refine zx_iload_n (pc2 := 18) d_Pr_write_17 rfl rfl ?_
      refine zx_if_lt (pc2 := 21) d_Pr_write_18 rfl (tgt := 53) (by decide) (fun cz => absurd cz (nI_pos (by omega))) (fun _ => ?_)
      refine zx_aload_n (pc2 := 22) d_Pr_write_21 rfl rfl ?_
      refine zm_getR (pc2 := 25) f_Pr_15 d_Pr_write_22 rfl (hr.1) rfl ?_
      refine zx_aload_n (pc2 := 26) d_Pr_write_25 rfl rfl ?_
      refine zm_getI (pc2 := 29) f_Pr_36 d_Pr_write_26 rfl (hr.1) rfl ?_
      refine zx_iload_n (pc2 := 30) d_Pr_write_29 rfl rfl ?_
      refine zx_bipush (pc2 := 32) (v := nI 8) d_Pr_write_30 rfl (by decide) ?_
      refine zx_iload_n (pc2 := 33) d_Pr_write_32 rfl rfl ?_
      refine zx_imul (pc2 := 34) d_Pr_write_33 rfl ?_
      refine zx_iushr (pc2 := 35) d_Pr_write_34 rfl ?_
      refine zx_i2b (pc2 := 36) d_Pr_write_35 rfl ?_
      refine zk_bast (pc2 := 37) d_Pr_write_36 rfl (hr.2.1) (hdi i (by omega)) (by omega) (by decide) ?_
      refine zx_aload_n (pc2 := 38) d_Pr_write_37 rfl rfl ?_
      refine zx_dup (pc2 := 39) d_Pr_write_38 rfl rfl ?_
      refine zm_getI (pc2 := 42) f_Pr_36 d_Pr_write_39 rfl (hr.1) rfl ?_
      refine zx_iconst (pc2 := 43) (v := nI 1) d_Pr_write_42 rfl (by decide) ?_
      refine zx_iadd (pc2 := 44) d_Pr_write_43 rfl ?_
      rw [show zm_I (zm_wI (zm_it (fm_wrS r w dl m) i M) (r + 1) (dl + i) (vp_nar .byte ((w.toUInt32 >>> ((nI 8 * nI (m - 1 - i)).toUInt32 &&& Int32.toUInt32 31)).toInt32.toInt8.toInt32))) r 4 + nI 1 = nI (dl + i + 1) from by
        rw [zm_I_w, if_neg (fun z => by omega), show zm_I (zm_it (fm_wrS r w dl m) i M) r 4 = nI (dl + i) from hdi i (by omega), nI_add]]
      refine zm_putI (pc2 := 47) p_Pr_36 d_Pr_write_44 rfl (hr.1) rfl rfl rfl ?_
      refine zx_inc3 (pc2 := 50) (x := nI (m - 1 - i)) (v := fk_v m (i + 1)) d_Pr_write_47 rfl (fk_v1 m hm i hi) rfl (by decide) ?_
      refine zx_goto (tgt := 17) d_Pr_write_50 (by decide) ?_
      exact ih
  · rw [if_neg c, if_neg c]
    refine zx_icmp_le (pc2 := 11) d_Pr_write_8 rfl (tgt := 13) (by decide) (fun cz => absurd cz (by rw [show zm_I M r 4 + nI m = nI (dl + m) from e0]; exact nI_ge (by omega) (by omega))) (fun _ => ?_)
    refine zx_iconst (pc2 := 12) (v := nI 0) d_Pr_write_11 rfl (by decide) ?_
    exact zx_zret d_Pr_write_12 rfl rfl (⟨rfl, rfl, rfl⟩)
theorem c_Pr_begin {r : Nat} {hp : Int32} (hr : zl_Pr r) : zK l D ar b Z y_Pr_begin 2 [.ref (b + r), .int hp] M n none (fm_begin M r hp) := by
  refine zk_entry (L := [some (.ref (b + r)), some (.int hp), none, none, none]) rfl rfl (Nat.le_of_ble_eq_true rfl) rfl rfl ?_
  refine zx_aload_n (pc2 := 1) d_Pr_begin_0 rfl rfl ?_
  refine zm_getI (pc2 := 4) f_Pr_39 d_Pr_begin_1 rfl (hr.1) rfl ?_
  refine zx_iload_n (pc2 := 5) d_Pr_begin_4 rfl rfl ?_
  refine zx_mmax (pc2 := 8) d_Pr_begin_5 rfl zn_w373 zn_w367 zn_w15 zn_w368 (by decide) (Nat.le_of_ble_eq_true rfl) (Nat.le_refl 0) (Nat.le_refl 0) ?_
  refine zx_ist2 (pc2 := 9) d_Pr_begin_8 rfl rfl (by decide) ?_
  refine zx_iconst (pc2 := 10) (v := nI 1) d_Pr_begin_9 rfl (by decide) ?_
  refine zx_iload_n (pc2 := 11) d_Pr_begin_10 rfl rfl ?_
  refine zx_aload_n (pc2 := 12) d_Pr_begin_11 rfl rfl ?_
  refine zm_getI (pc2 := 15) f_Pr_31 d_Pr_begin_12 rfl (hr.1) rfl ?_
  refine zx_isub (pc2 := 16) d_Pr_begin_15 rfl ?_
  refine zx_iconst (pc2 := 17) (v := nI 2) d_Pr_begin_16 rfl (by decide) ?_
  refine zx_iadd (pc2 := 18) d_Pr_begin_17 rfl ?_
  refine zx_iconst (pc2 := 19) (v := nI 2) d_Pr_begin_18 rfl (by decide) ?_
  refine zx_idiv (pc2 := 20) d_Pr_begin_19 rfl (by decide) ?_
  refine zx_mmax (pc2 := 23) d_Pr_begin_20 rfl zn_w373 zn_w367 zn_w15 zn_w368 (by decide) (Nat.le_of_ble_eq_true rfl) (Nat.le_refl 0) (Nat.le_refl 0) ?_
  refine zx_ist3 (pc2 := 24) d_Pr_begin_23 rfl rfl (by decide) ?_
  refine zx_aload_n (pc2 := 25) d_Pr_begin_24 rfl rfl ?_
  refine zx_iconst (pc2 := 26) (v := nI 2) d_Pr_begin_25 rfl (by decide) ?_
  refine zx_iload_n (pc2 := 27) d_Pr_begin_26 rfl rfl ?_
  refine zx_imul (pc2 := 28) d_Pr_begin_27 rfl ?_
  refine zx_aload_n (pc2 := 29) d_Pr_begin_28 rfl rfl ?_
  refine zm_getI (pc2 := 32) f_Pr_31 d_Pr_begin_29 rfl (hr.1) rfl ?_
  refine zx_iadd (pc2 := 33) d_Pr_begin_32 rfl ?_
  refine zm_putI (pc2 := 36) p_Pr_39 d_Pr_begin_33 rfl (hr.1) rfl rfl rfl ?_
  refine zx_aload_n (pc2 := 37) d_Pr_begin_36 rfl rfl ?_
  refine zx_iconst (pc2 := 38) (v := nI 1) d_Pr_begin_37 rfl (by decide) ?_
  refine zm_putI (pc2 := 41) p_Pr_9 d_Pr_begin_38 rfl (hr.1) rfl rfl rfl ?_
  refine zx_aload_n (pc2 := 42) d_Pr_begin_41 rfl rfl ?_
  refine zx_iconst (pc2 := 43) (v := nI 0) d_Pr_begin_42 rfl (by decide) ?_
  refine zm_putI (pc2 := 46) p_Pr_48 d_Pr_begin_43 rfl (hr.1) rfl rfl rfl ?_
  refine zx_iconst (pc2 := 47) (v := nI 0) d_Pr_begin_46 rfl (by decide) ?_
  refine zx_ist4 (pc2 := 49) d_Pr_begin_47 rfl rfl (by decide) ?_
  refine zx_for (X := fun i => zk_X l D ar b Z y_Pr_begin 2 none (fm_begin M r hp) n 49 [some (.ref (b + r)), some (.int hp), some (.int (ff_max (zm_I M r 2) hp)), some (.int (ff_max (nI 1) ((ff_max (zm_I M r 2) hp - zm_I M r 0 + nI 2) / nI 2))), some (.int (nI i))] [] (zm_it (fun p M => fm_prop M (r + 39 + 3 * p) (nI 0)) i (fm_beg0 M r hp))) 8 ?_ ?_ 0 (by decide)
  · refine zx_iload (pc2 := 51) d_Pr_begin_49 rfl rfl ?_
    refine zx_bipush (pc2 := 53) (v := nI 8) d_Pr_begin_51 rfl (by decide) ?_
    refine zx_icmp_ge (pc2 := 56) d_Pr_begin_53 rfl (tgt := 72) (by decide) (fun _ => ?_) (fun cz => absurd (nI_le (Nat.le_refl 8) (by decide)) cz)
    exact zx_vret d_Pr_begin_72 rfl (⟨rfl, rfl, rfl⟩)
  · intro i hi ih
    refine zx_iload (pc2 := 51) d_Pr_begin_49 rfl rfl ?_
    refine zx_bipush (pc2 := 53) (v := nI 8) d_Pr_begin_51 rfl (by decide) ?_
    refine zx_icmp_ge (pc2 := 56) d_Pr_begin_53 rfl (tgt := 72) (by decide) (fun cz => absurd cz (nI_ge hi (by decide))) (fun _ => ?_)
    refine zx_aload_n (pc2 := 57) d_Pr_begin_56 rfl rfl ?_
    refine zm_getR (pc2 := 60) f_Pr_27 d_Pr_begin_57 rfl (hr.1) rfl ?_
    refine zx_iload (pc2 := 62) d_Pr_begin_60 rfl rfl ?_
    refine zk_aaldC (pc2 := 63) d_Pr_begin_62 rfl (by decide) (hr.2.2.2.1) (by decide) rfl (rfl) (hi) (by decide) ?_
    refine zk_callVv (pc2 := 66) s_Pr_51 v_Sp_forget ((hr.2.2.2.2.2 i hi).1) (c_Sp_forget (hr.2.2.2.2.2 i hi)) d_Pr_begin_63 rfl rfl rfl (Nat.le_of_ble_eq_true rfl) (by decide) (by decide) ?_
    refine zx_inc4 (pc2 := 69) d_Pr_begin_66 rfl (zk_1 _) rfl (by decide) ?_
    refine zx_goto (tgt := 49) d_Pr_begin_69 (by decide) ?_
    exact ih
theorem c_Pr_hasPromiseOf {r s : Nat} (hr : zl_Pr r) : zK l D ar b Z y_Pr_hasPromiseOf 0 [.ref (b + r), .int (nI s)] M n (some (.int (if ff_bit (zm_I M r 3) s = nI 1 then nI 1 else nI 0))) M := by
  refine zk_entry (L := [some (.ref (b + r)), some (.int (nI s))]) rfl rfl (Nat.le_of_ble_eq_true rfl) rfl rfl ?_
  refine zx_aload_n (pc2 := 1) d_Pr_hasPromiseOf_0 rfl rfl ?_
  refine zm_getI (pc2 := 4) f_Pr_48 d_Pr_hasPromiseOf_1 rfl (hr.1) rfl ?_
  refine zx_iload_n (pc2 := 5) d_Pr_hasPromiseOf_4 rfl rfl ?_
  refine zx_iushr (pc2 := 6) d_Pr_hasPromiseOf_5 rfl ?_
  refine zx_iconst (pc2 := 7) (v := nI 1) d_Pr_hasPromiseOf_6 rfl (by decide) ?_
  refine zx_iand (pc2 := 8) d_Pr_hasPromiseOf_7 rfl ?_
  refine zx_iconst (pc2 := 9) (v := nI 1) d_Pr_hasPromiseOf_8 rfl (by decide) ?_
  refine zx_icmp_ne (pc2 := 12) d_Pr_hasPromiseOf_9 rfl (tgt := 16) (by decide) (fun c => ?_) (fun c => ?_)
  · rw [if_neg (show ¬ ff_bit (zm_I M r 3) s = nI 1 from c)]
    refine zx_iconst (pc2 := 17) (v := nI 0) d_Pr_hasPromiseOf_16 rfl (by decide) ?_
    exact zx_zret d_Pr_hasPromiseOf_17 rfl rfl (⟨rfl, rfl, rfl⟩)
  · rw [if_pos (show ff_bit (zm_I M r 3) s = nI 1 from c)]
    refine zx_iconst (pc2 := 13) (v := nI 1) d_Pr_hasPromiseOf_12 rfl (by decide) ?_
    refine zx_goto (tgt := 17) d_Pr_hasPromiseOf_13 (by decide) ?_
    exact zx_zret d_Pr_hasPromiseOf_17 rfl rfl (⟨rfl, rfl, rfl⟩)
theorem c_Pr_hasP1 {r s : Nat} (hr : zl_Pr r) (hc : ff_bit (zm_I M r 3) s = nI 1) : zK l D ar b Z y_Pr_hasPromiseOf 0 [.ref (b + r), .int (nI s)] M n (some (.int (nI 1))) M := by
  have h := c_Pr_hasPromiseOf (l := l) (D := D) (ar := ar) (b := b) (Z := Z) (M := M) (n := n) (s := s) hr
  rwa [if_pos hc] at h
theorem c_Pr_hasP0 {r s : Nat} (hr : zl_Pr r) (hc : ¬ ff_bit (zm_I M r 3) s = nI 1) : zK l D ar b Z y_Pr_hasPromiseOf 0 [.ref (b + r), .int (nI s)] M n (some (.int (nI 0))) M := by
  have h := c_Pr_hasPromiseOf (l := l) (D := D) (ar := ar) (b := b) (Z := Z) (M := M) (n := n) (s := s) hr
  rwa [if_neg hc] at h
theorem c_Sp_open1 {r : Nat} (hr : zl_Sp r) (hc : zm_I M r 0 = 0 ∧ zm_I M r 1 = 0) : zK l D ar b Z y_Sp_isOpen 0 [.ref (b + r)] M n (some (.int (nI 1))) M := by
  have h := c_Sp_isOpen (l := l) (D := D) (ar := ar) (b := b) (Z := Z) (M := M) (n := n) hr
  rwa [if_pos hc] at h
theorem c_Sp_open0 {r : Nat} (hr : zl_Sp r) (hc : ¬ (zm_I M r 0 = 0 ∧ zm_I M r 1 = 0)) : zK l D ar b Z y_Sp_isOpen 0 [.ref (b + r)] M n (some (.int (nI 0))) M := by
  have h := c_Sp_isOpen (l := l) (D := D) (ar := ar) (b := b) (Z := Z) (M := M) (n := n) hr
  rwa [if_neg hc] at h
theorem c_Pr_firstFree {r : Nat} (hr : zl_Pr r) : zK l D ar b Z y_Pr_firstFree 1 [.ref (b + r)] M n (some (.int (fs_ff M r))) M := by
  refine zk_entry (L := [some (.ref (b + r)), none]) rfl rfl (Nat.le_of_ble_eq_true rfl) rfl rfl ?_
  refine zx_aload_n (pc2 := 1) d_Pr_firstFree_0 rfl rfl ?_
  refine zm_getI (pc2 := 4) f_Pr_9 d_Pr_firstFree_1 rfl (hr.1) rfl ?_
  refine zx_iconst (pc2 := 5) (v := nI 2) d_Pr_firstFree_4 rfl (by decide) ?_
  refine zx_icmp_eq (pc2 := 8) d_Pr_firstFree_5 rfl (tgt := 10) (by decide) (fun c => ?_) (fun c => ?_)
  · rw [show fs_ff M r = fs_from M r 8 0 from if_pos c]
    refine zx_iconst (pc2 := 11) (v := nI 0) d_Pr_firstFree_10 rfl (by decide) ?_
    refine zx_ist1 (pc2 := 12) d_Pr_firstFree_11 rfl rfl (by decide) ?_
    refine zx_for (X := fun i => fs_from M r (8 - i) i = fs_from M r 8 0 → zk_X l D ar b Z y_Pr_firstFree 1 (some (.int (fs_from M r 8 0))) M n 12 [some (.ref (b + r)), some (.int (nI i))] [] M) 8 ?_ ?_ 0 (by decide) rfl
    · intro e
      rw [← e]
      refine zx_iload_n (pc2 := 13) d_Pr_firstFree_12 rfl rfl ?_
      refine zx_bipush (pc2 := 15) (v := nI 8) d_Pr_firstFree_13 rfl (by decide) ?_
      refine zx_icmp_ge (pc2 := 18) d_Pr_firstFree_15 rfl (tgt := 38) (by decide) (fun _ => ?_) (fun cz => absurd (nI_le (Nat.le_refl 8) (by decide)) cz)
      refine zx_iconst (pc2 := 39) (v := -1) d_Pr_firstFree_38 rfl (by decide) ?_
      exact zx_iret d_Pr_firstFree_39 rfl (⟨rfl, rfl, rfl⟩)
    · intro i hi ih e
      have e8 : 8 - i = (8 - (i + 1)) + 1 := by omega
      rw [e8] at e
      refine zx_iload_n (pc2 := 13) d_Pr_firstFree_12 rfl rfl ?_
      refine zx_bipush (pc2 := 15) (v := nI 8) d_Pr_firstFree_13 rfl (by decide) ?_
      refine zx_icmp_ge (pc2 := 18) d_Pr_firstFree_15 rfl (tgt := 38) (by decide) (fun cz => absurd cz (nI_ge hi (by decide))) (fun _ => ?_)
      refine zx_aload_n (pc2 := 19) d_Pr_firstFree_18 rfl rfl ?_
      refine zm_getR (pc2 := 22) f_Pr_27 d_Pr_firstFree_19 rfl (hr.1) rfl ?_
      refine zx_iload_n (pc2 := 23) d_Pr_firstFree_22 rfl rfl ?_
      refine zk_aaldC (pc2 := 24) d_Pr_firstFree_23 rfl (by decide) (hr.2.2.2.1) (by decide) rfl (rfl) (hi) (by decide) ?_
      by_cases c2 : zm_I M (r + 39 + 3 * i) 0 = 0 ∧ zm_I M (r + 39 + 3 * i) 1 = 0
      · have e2 : fs_from M r ((8 - (i + 1)) + 1) i = nI i := if_pos c2
        rw [← e, e2]
        refine zk_callV (pc2 := 27) s_Pr_54 v_Sp_isOpen ((hr.2.2.2.2.2 i hi).1) (c_Sp_open1 (hr.2.2.2.2.2 i hi) c2) d_Pr_firstFree_24 rfl rfl rfl (Nat.le_of_ble_eq_true rfl) (by decide) (by decide) ?_
        refine zx_if_eq (pc2 := 30) d_Pr_firstFree_27 rfl (tgt := 32) (by decide) (fun cz => absurd cz (by decide)) (fun _ => ?_)
        refine zx_iload_n (pc2 := 31) d_Pr_firstFree_30 rfl rfl ?_
        exact zx_iret d_Pr_firstFree_31 rfl (⟨rfl, rfl, rfl⟩)
      · have e2 : fs_from M r ((8 - (i + 1)) + 1) i = fs_from M r (8 - (i + 1)) (i + 1) := if_neg c2
        refine zk_callV (pc2 := 27) s_Pr_54 v_Sp_isOpen ((hr.2.2.2.2.2 i hi).1) (c_Sp_open0 (hr.2.2.2.2.2 i hi) c2) d_Pr_firstFree_24 rfl rfl rfl (Nat.le_of_ble_eq_true rfl) (by decide) (by decide) ?_
        refine zx_if_eq (pc2 := 30) d_Pr_firstFree_27 rfl (tgt := 32) (by decide) (fun _ => ?_) (fun cz => absurd (by decide) cz)
        refine zx_inc1 (pc2 := 35) d_Pr_firstFree_32 rfl (zk_1 _) rfl (by decide) ?_
        refine zx_goto (tgt := 12) d_Pr_firstFree_35 (by decide) ?_
        exact ih (e2.symm.trans e)
  · rw [show fs_ff M r = -1 from if_neg c]
    refine zx_iconst (pc2 := 9) (v := -1) d_Pr_firstFree_8 rfl (by decide) ?_
    exact zx_iret d_Pr_firstFree_9 rfl (⟨rfl, rfl, rfl⟩)
theorem c_Pr_proposeDraft {r pl dl : Nat} (hr : zl_Pr r) (hp : pl < 8) (hd : zm_I M r 4 = nI dl) (hdl : dl ≤ 24) : zK l D ar b Z y_Pr_proposeDraft 2 [.ref (b + r), .int (nI pl)] M n none (fm_pd M r pl dl) := by
  have hs := hr.2.2.2.2.2 pl hp
  refine zk_entry (L := [some (.ref (b + r)), some (.int (nI pl))]) rfl rfl (Nat.le_of_ble_eq_true rfl) rfl rfl ?_
  refine zx_aload_n (pc2 := 1) d_Pr_proposeDraft_0 rfl rfl ?_
  refine zm_getR (pc2 := 4) f_Pr_27 d_Pr_proposeDraft_1 rfl (hr.1) rfl ?_
  refine zx_iload_n (pc2 := 5) d_Pr_proposeDraft_4 rfl rfl ?_
  refine zk_aaldC (pc2 := 6) d_Pr_proposeDraft_5 rfl (by decide) (hr.2.2.2.1) (by decide) rfl (rfl) (hp) (by decide) ?_
  refine zx_aload_n (pc2 := 7) d_Pr_proposeDraft_6 rfl rfl ?_
  refine zm_getI (pc2 := 10) f_Pr_39 d_Pr_proposeDraft_7 rfl (hr.1) rfl ?_
  refine zk_callVv (pc2 := 13) s_Pr_58 v_Sp_proposeAs (hs.1) (c_Sp_proposeAs hs) d_Pr_proposeDraft_10 rfl rfl rfl (Nat.le_of_ble_eq_true rfl) (by decide) (by decide) ?_
  refine zx_aload_n (pc2 := 14) d_Pr_proposeDraft_13 rfl rfl ?_
  refine zm_getR (pc2 := 17) f_Pr_27 d_Pr_proposeDraft_14 rfl (hr.1) rfl ?_
  refine zx_iload_n (pc2 := 18) d_Pr_proposeDraft_17 rfl rfl ?_
  refine zk_aaldC (pc2 := 19) d_Pr_proposeDraft_18 rfl (by decide) (hr.2.2.2.1) (by decide) rfl (rfl) (hp) (by decide) ?_
  refine zm_getR (pc2 := 22) f_Pr_62 d_Pr_proposeDraft_19 rfl (hs.1) rfl ?_
  refine zx_aload_n (pc2 := 23) d_Pr_proposeDraft_22 rfl rfl ?_
  refine zm_getR (pc2 := 26) f_Pr_15 d_Pr_proposeDraft_23 rfl (hr.1) rfl ?_
  refine zx_aload_n (pc2 := 27) d_Pr_proposeDraft_26 rfl rfl ?_
  refine zm_getI (pc2 := 30) f_Pr_36 d_Pr_proposeDraft_27 rfl (hr.1) rfl ?_
  rw [show zm_I (fm_prop M (r + 39 + 3 * pl) (zm_I M r 2)) r 4 = nI dl from by
    show zm_I (zm_wI (zm_wI M (r + 39 + 3 * pl) 1 _) (r + 39 + 3 * pl) 2 _) r 4 = _
    rw [zm_I_w, if_neg (fun z => by omega), zm_I_w, if_neg (fun z => by omega)]
    exact hd]
  refine zk_callVv (pc2 := 33) s_Pr_66 v_Re_cut (hs.2.1) (c_Re_cut hs.2 hr.2.1 hdl) d_Pr_proposeDraft_30 rfl rfl rfl (Nat.le_of_ble_eq_true rfl) (by decide) (by decide) ?_
  refine zx_aload_n (pc2 := 34) d_Pr_proposeDraft_33 rfl rfl ?_
  refine zx_iconst (pc2 := 35) (v := nI 0) d_Pr_proposeDraft_34 rfl (by decide) ?_
  refine zm_putI (pc2 := 38) p_Pr_36 d_Pr_proposeDraft_35 rfl (hr.1) rfl rfl rfl ?_
  exact zx_vret d_Pr_proposeDraft_38 rfl (⟨rfl, rfl, rfl⟩)
theorem c_Pr_hearPromise {r q s : Nat} (hr : zl_Pr r) (hq : zl_Le q) (hs : zm_I M q 1 = nI s) (hs7 : s < 7) : zK l D ar b Z y_Pr_hearPromise 2 [.ref (b + r), .ref (b + q)] M n none (fm_hp M r q s) := by
  have hsh := hr.2.2.2.2.1 s hs7
  refine zk_entry (L := [some (.ref (b + r)), some (.ref (b + q))]) rfl rfl (Nat.le_of_ble_eq_true rfl) rfl rfl ?_
  unfold fm_hp
  refine zx_aload_n (pc2 := 1) d_Pr_hearPromise_0 rfl rfl ?_
  refine zm_getI (pc2 := 4) f_Pr_9 d_Pr_hearPromise_1 rfl (hr.1) rfl ?_
  refine zx_iconst (pc2 := 5) (v := nI 1) d_Pr_hearPromise_4 rfl (by decide) ?_
  refine zx_icmp_ne (pc2 := 8) d_Pr_hearPromise_5 rfl (tgt := 61) (by decide) (fun c1 => ?_) (fun c1 => ?_)
  · rw [if_neg (fun z => c1 z.1)]
    exact zx_vret d_Pr_hearPromise_61 rfl (⟨rfl, rfl, rfl⟩)
  · refine zx_aload_n (pc2 := 9) d_Pr_hearPromise_8 rfl rfl ?_
    refine zm_getI (pc2 := 12) f_Pr_72 d_Pr_hearPromise_9 rfl (hq.1) rfl ?_
    refine zx_aload_n (pc2 := 13) d_Pr_hearPromise_12 rfl rfl ?_
    refine zm_getI (pc2 := 16) f_Pr_39 d_Pr_hearPromise_13 rfl (hr.1) rfl ?_
    refine zx_icmp_ne (pc2 := 19) d_Pr_hearPromise_16 rfl (tgt := 61) (by decide) (fun c2 => ?_) (fun c2 => ?_)
    · rw [if_neg (fun z => c2 z.2.1)]
      exact zx_vret d_Pr_hearPromise_61 rfl (⟨rfl, rfl, rfl⟩)
    · refine zx_aload_n (pc2 := 20) d_Pr_hearPromise_19 rfl rfl ?_
      refine zx_aload_n (pc2 := 21) d_Pr_hearPromise_20 rfl rfl ?_
      refine zm_getI (pc2 := 24) f_Pr_75 d_Pr_hearPromise_21 rfl (hq.1) rfl ?_
      rw [show zm_I M q 1 = nI s from hs]
      by_cases c3 : ff_bit (zm_I M r 3) s = nI 1
      · rw [if_neg (fun z => z.2.2 c3)]
        refine zk_callV (pc2 := 27) s_Pr_78 v_Pr_hasPromiseOf (hr.1) (c_Pr_hasP1 hr c3) d_Pr_hearPromise_24 rfl rfl rfl (Nat.le_of_ble_eq_true rfl) (by decide) (by decide) ?_
        refine zx_if_ne (pc2 := 30) d_Pr_hearPromise_27 rfl (tgt := 61) (by decide) (fun _ => ?_) (fun cz => absurd cz (by decide))
        exact zx_vret d_Pr_hearPromise_61 rfl (⟨rfl, rfl, rfl⟩)
      · rw [if_pos ⟨c1, c2, c3⟩]
        refine zk_callV (pc2 := 27) s_Pr_78 v_Pr_hasPromiseOf (hr.1) (c_Pr_hasP0 hr c3) d_Pr_hearPromise_24 rfl rfl rfl (Nat.le_of_ble_eq_true rfl) (by decide) (by decide) ?_
        refine zx_if_ne (pc2 := 30) d_Pr_hearPromise_27 rfl (tgt := 61) (by decide) (fun cz => absurd (by decide) cz) (fun _ => ?_)
        refine zx_aload_n (pc2 := 31) d_Pr_hearPromise_30 rfl rfl ?_
        refine zm_getR (pc2 := 34) f_Pr_21 d_Pr_hearPromise_31 rfl (hr.1) rfl ?_
        refine zx_aload_n (pc2 := 35) d_Pr_hearPromise_34 rfl rfl ?_
        refine zm_getI (pc2 := 38) f_Pr_75 d_Pr_hearPromise_35 rfl (hq.1) rfl ?_
        refine zk_aaldC (pc2 := 39) d_Pr_hearPromise_38 rfl (by decide) (hr.2.2.1) (by decide) rfl (hs) (hs7) (by decide) ?_
        refine zx_aload_n (pc2 := 40) d_Pr_hearPromise_39 rfl rfl ?_
        refine zm_getR (pc2 := 43) f_Pr_82 d_Pr_hearPromise_40 rfl (hq.1) rfl ?_
        refine zk_callVv (pc2 := 46) s_Pr_86 v_Sh_copyFrom (hsh.1) (c_Sh_copyFrom hsh hq.2) d_Pr_hearPromise_43 rfl rfl rfl (Nat.le_of_ble_eq_true rfl) (by decide) (by decide) ?_
        refine zx_aload_n (pc2 := 47) d_Pr_hearPromise_46 rfl rfl ?_
        refine zx_dup (pc2 := 48) d_Pr_hearPromise_47 rfl rfl ?_
        refine zm_getI (pc2 := 51) f_Pr_48 d_Pr_hearPromise_48 rfl (hr.1) rfl ?_
        refine zx_iconst (pc2 := 52) (v := nI 1) d_Pr_hearPromise_51 rfl (by decide) ?_
        refine zx_aload_n (pc2 := 53) d_Pr_hearPromise_52 rfl rfl ?_
        refine zm_getI (pc2 := 56) f_Pr_75 d_Pr_hearPromise_53 rfl (hq.1) rfl ?_
        refine zx_ishl (pc2 := 57) d_Pr_hearPromise_56 rfl ?_
        refine zx_ior (pc2 := 58) d_Pr_hearPromise_57 rfl ?_
        refine zm_putI (pc2 := 61) p_Pr_48 d_Pr_hearPromise_58 rfl (hr.1) rfl rfl rfl ?_
        exact zx_vret d_Pr_hearPromise_61 rfl (⟨rfl, rfl, rfl⟩)
theorem c_Pr_hearAccepted {r q pl s : Nat} (hr : zl_Pr r) (hq : zl_Le q) (hp : zm_I M q 4 = nI pl) (hp8 : pl < 8) (hs : zm_I M q 1 = nI s) : zK l D ar b Z y_Pr_hearAccepted 3 [.ref (b + r), .ref (b + q)] M n none (fm_ha M r q pl s) := by
  have hsp := hr.2.2.2.2.2 pl hp8
  refine zk_entry (L := [some (.ref (b + r)), some (.ref (b + q))]) rfl rfl (Nat.le_of_ble_eq_true rfl) rfl rfl ?_
  unfold fm_ha
  refine zx_aload_n (pc2 := 1) d_Pr_hearAccepted_0 rfl rfl ?_
  refine zm_getI (pc2 := 4) f_Pr_9 d_Pr_hearAccepted_1 rfl (hr.1) rfl ?_
  refine zx_iconst (pc2 := 5) (v := nI 2) d_Pr_hearAccepted_4 rfl (by decide) ?_
  refine zx_icmp_ne (pc2 := 8) d_Pr_hearAccepted_5 rfl (tgt := 39) (by decide) (fun c1 => ?_) (fun c1 => ?_)
  · rw [if_neg (fun z => c1 z.1)]
    exact zx_vret d_Pr_hearAccepted_39 rfl (⟨rfl, rfl, rfl⟩)
  · refine zx_aload_n (pc2 := 9) d_Pr_hearAccepted_8 rfl rfl ?_
    refine zm_getI (pc2 := 12) f_Pr_72 d_Pr_hearAccepted_9 rfl (hq.1) rfl ?_
    refine zx_aload_n (pc2 := 13) d_Pr_hearAccepted_12 rfl rfl ?_
    refine zm_getI (pc2 := 16) f_Pr_39 d_Pr_hearAccepted_13 rfl (hr.1) rfl ?_
    refine zx_icmp_ne (pc2 := 19) d_Pr_hearAccepted_16 rfl (tgt := 39) (by decide) (fun c2 => ?_) (fun c2 => ?_)
    · rw [if_neg (fun z => c2 z.2)]
      exact zx_vret d_Pr_hearAccepted_39 rfl (⟨rfl, rfl, rfl⟩)
    · rw [if_pos ⟨c1, c2⟩]
      refine zx_aload_n (pc2 := 20) d_Pr_hearAccepted_19 rfl rfl ?_
      refine zm_getR (pc2 := 23) f_Pr_27 d_Pr_hearAccepted_20 rfl (hr.1) rfl ?_
      refine zx_aload_n (pc2 := 24) d_Pr_hearAccepted_23 rfl rfl ?_
      refine zm_getI (pc2 := 27) f_Pr_90 d_Pr_hearAccepted_24 rfl (hq.1) rfl ?_
      refine zk_aaldC (pc2 := 28) d_Pr_hearAccepted_27 rfl (by decide) (hr.2.2.2.1) (by decide) rfl (hp) (hp8) (by decide) ?_
      refine zx_aload_n (pc2 := 29) d_Pr_hearAccepted_28 rfl rfl ?_
      refine zm_getI (pc2 := 32) f_Pr_75 d_Pr_hearAccepted_29 rfl (hq.1) rfl ?_
      refine zx_aload_n (pc2 := 33) d_Pr_hearAccepted_32 rfl rfl ?_
      refine zm_getI (pc2 := 36) f_Pr_93 d_Pr_hearAccepted_33 rfl (hq.1) rfl ?_
      rw [show zm_I M q 1 = nI s from hs]
      refine zk_callVv (pc2 := 39) s_Pr_96 v_Sp_hearAnswer (hsp.1) (c_Sp_hearAnswer hsp) d_Pr_hearAccepted_36 rfl rfl rfl (Nat.le_of_ble_eq_true rfl) (by decide) (by decide) ?_
      exact zx_vret d_Pr_hearAccepted_39 rfl (⟨rfl, rfl, rfl⟩)
theorem c_Pr_addPromises {r pl : Nat} (hr : zl_Pr r) (hr5 : r + 42 < 539) (hp : pl < 8) (hg : gk_ok M) : zK l D ar b Z y_Pr_addPromises 2 [.ref (b + r), .int (nI pl), .ref (b + 539)] M n none (fm_addP M r pl) := by
  refine zk_entry (L := [some (.ref (b + r)), some (.int (nI pl)), some (.ref (b + 539)), none]) rfl rfl (Nat.le_of_ble_eq_true rfl) rfl rfl ?_
  refine zx_iconst (pc2 := 1) (v := nI 0) d_Pr_addPromises_0 rfl (by decide) ?_
  refine zx_ist3 (pc2 := 2) d_Pr_addPromises_1 rfl rfl (by decide) ?_
  refine zx_for (X := fun i => zk_X l D ar b Z y_Pr_addPromises 2 none (fm_addP M r pl) n 2 [some (.ref (b + r)), some (.int (nI pl)), some (.ref (b + 539)), some (.int (nI i))] [] (zm_it (fm_apS r pl) i M)) 7 ?_ ?_ 0 (by decide)
  · refine zx_iload_n (pc2 := 3) d_Pr_addPromises_2 rfl rfl ?_
    refine zx_bipush (pc2 := 5) (v := nI 7) d_Pr_addPromises_3 rfl (by decide) ?_
    refine zx_icmp_ge (pc2 := 8) d_Pr_addPromises_5 rfl (tgt := 34) (by decide) (fun _ => ?_) (fun cz => absurd (nI_le (Nat.le_refl 7) (by decide)) cz)
    exact zx_vret d_Pr_addPromises_34 rfl (⟨rfl, rfl, rfl⟩)
  · intro i hi ih
    have hsh := hr.2.2.2.2.1 i hi
    have hgi := gk_aps (r := r) (pl := pl) i M hg
    refine zx_iload_n (pc2 := 3) d_Pr_addPromises_2 rfl rfl ?_
    refine zx_bipush (pc2 := 5) (v := nI 7) d_Pr_addPromises_3 rfl (by decide) ?_
    refine zx_icmp_ge (pc2 := 8) d_Pr_addPromises_5 rfl (tgt := 34) (by decide) (fun cz => absurd cz (nI_ge hi (by decide))) (fun _ => ?_)
    refine zx_aload_n (pc2 := 9) d_Pr_addPromises_8 rfl rfl ?_
    refine zx_iload_n (pc2 := 10) d_Pr_addPromises_9 rfl rfl ?_
    by_cases c : ff_bit (zm_I (zm_it (fm_apS r pl) i M) r 3) i = nI 1
    · have e : zm_it (fm_apS r pl) (i + 1) M = fm_gadd (zm_it (fm_apS r pl) i M) (gk_c (zm_it (fm_apS r pl) i M)) i (r + 4 + 5 * i) pl := if_pos c
      rw [e] at ih
      refine zk_callV (pc2 := 13) s_Pr_78 v_Pr_hasPromiseOf (hr.1) (c_Pr_hasP1 hr c) d_Pr_addPromises_10 rfl rfl rfl (Nat.le_of_ble_eq_true rfl) (by decide) (by decide) ?_
      refine zx_if_eq (pc2 := 16) d_Pr_addPromises_13 rfl (tgt := 28) (by decide) (fun cz => absurd cz (by decide)) (fun _ => ?_)
      refine zx_aload_n (pc2 := 17) d_Pr_addPromises_16 rfl rfl ?_
      refine zx_iload_n (pc2 := 18) d_Pr_addPromises_17 rfl rfl ?_
      refine zx_aload_n (pc2 := 19) d_Pr_addPromises_18 rfl rfl ?_
      refine zm_getR (pc2 := 22) f_Pr_21 d_Pr_addPromises_19 rfl (hr.1) rfl ?_
      refine zx_iload_n (pc2 := 23) d_Pr_addPromises_22 rfl rfl ?_
      refine zk_aaldC (pc2 := 24) d_Pr_addPromises_23 rfl (by decide) (hr.2.2.1) (by decide) rfl (rfl) (hi) (by decide) ?_
      refine zx_iload_n (pc2 := 25) d_Pr_addPromises_24 rfl rfl ?_
      refine zk_callVv (pc2 := 28) s_Pr_119 v_Ga_addIfOfIt (zl_c539) (c_Ga_addIfOfIt hsh hp hgi.1 hgi.2 ⟨by omega, by omega, by omega, by omega⟩) d_Pr_addPromises_25 rfl rfl rfl (Nat.le_of_ble_eq_true rfl) (by decide) (by decide) ?_
      refine zx_inc3 (pc2 := 31) d_Pr_addPromises_28 rfl (zk_1 _) rfl (by decide) ?_
      refine zx_goto (tgt := 2) d_Pr_addPromises_31 (by decide) ?_
      exact ih
    · have e : zm_it (fm_apS r pl) (i + 1) M = zm_it (fm_apS r pl) i M := if_neg c
      rw [e] at ih
      refine zk_callV (pc2 := 13) s_Pr_78 v_Pr_hasPromiseOf (hr.1) (c_Pr_hasP0 hr c) d_Pr_addPromises_10 rfl rfl rfl (Nat.le_of_ble_eq_true rfl) (by decide) (by decide) ?_
      refine zx_if_eq (pc2 := 16) d_Pr_addPromises_13 rfl (tgt := 28) (by decide) (fun _ => ?_) (fun cz => absurd (by decide) cz)
      refine zx_inc3 (pc2 := 31) d_Pr_addPromises_28 rfl (zk_1 _) rfl (by decide) ?_
      refine zx_goto (tgt := 2) d_Pr_addPromises_31 (by decide) ?_
      exact ih
theorem c_Ro_append1 {c : Nat} (hc : zm_I M 171 0 = nI c) (h60 : c < 60) : zK l D ar b Z y_Ro_append 0 [.ref (b + 171)] M n (some (.ref (b + zm_P M 172 c))) (zm_wI M 171 0 (nI (c + 1))) := by
  refine zk_entry (L := [some (.ref (b + 171)), none]) rfl rfl (Nat.le_of_ble_eq_true rfl) rfl rfl ?_
  refine zx_aload_n (pc2 := 1) d_Ro_append_0 rfl rfl ?_
  refine zm_getI (pc2 := 4) f_Ro_18 d_Ro_append_1 rfl (zl_c171) rfl ?_
  refine zx_bipush (pc2 := 6) (v := nI 60) d_Ro_append_4 rfl (by decide) ?_
  refine zx_icmp_lt (pc2 := 9) d_Ro_append_6 rfl (tgt := 11) (by decide) (fun _ => ?_) (fun cz => absurd (by rw [hc]; exact nI_lt h60 (by decide)) cz)
  refine zx_aload_n (pc2 := 12) d_Ro_append_11 rfl rfl ?_
  refine zm_getR (pc2 := 15) f_Ro_11 d_Ro_append_12 rfl (zl_c171) rfl ?_
  refine zx_aload_n (pc2 := 16) d_Ro_append_15 rfl rfl ?_
  refine zm_getI (pc2 := 19) f_Ro_18 d_Ro_append_16 rfl (zl_c171) rfl ?_
  refine zk_aaldP (pc2 := 20) d_Ro_append_19 rfl (by decide) (zl_c172)  rfl (hc) (by omega) (by decide) ?_
  refine zx_ast1 (pc2 := 21) d_Ro_append_20 rfl rfl (by decide) ?_
  refine zx_aload_n (pc2 := 22) d_Ro_append_21 rfl rfl ?_
  refine zx_dup (pc2 := 23) d_Ro_append_22 rfl rfl ?_
  refine zm_getI (pc2 := 26) f_Ro_18 d_Ro_append_23 rfl (zl_c171) rfl ?_
  refine zx_iconst (pc2 := 27) (v := nI 1) d_Ro_append_26 rfl (by decide) ?_
  refine zx_iadd (pc2 := 28) d_Ro_append_27 rfl ?_
  rw [show zm_I M 171 0 + nI 1 = nI (c + 1) from by rw [hc, nI_add]]
  refine zm_putI (pc2 := 31) p_Ro_18 d_Ro_append_28 rfl (zl_c171) rfl rfl rfl ?_
  refine zx_aload_n (pc2 := 32) d_Ro_append_31 rfl rfl ?_
  exact zx_aret d_Ro_append_32 rfl (Or.inr ⟨_, rfl⟩) (⟨rfl, rfl, rfl⟩)
theorem c_Ro_append0 {c : Nat} (hc : zm_I M 171 0 = nI c) (h60 : 60 ≤ c) (h61 : c < 61) : zK l D ar b Z y_Ro_append 0 [.ref (b + 171)] M n (some .null) M := by
  refine zk_entry (L := [some (.ref (b + 171)), none]) rfl rfl (Nat.le_of_ble_eq_true rfl) rfl rfl ?_
  refine zx_aload_n (pc2 := 1) d_Ro_append_0 rfl rfl ?_
  refine zm_getI (pc2 := 4) f_Ro_18 d_Ro_append_1 rfl (zl_c171) rfl ?_
  refine zx_bipush (pc2 := 6) (v := nI 60) d_Ro_append_4 rfl (by decide) ?_
  refine zx_icmp_lt (pc2 := 9) d_Ro_append_6 rfl (tgt := 11) (by decide) (fun cz => absurd cz (by rw [hc]; exact nI_nlt h60 (by omega))) (fun _ => ?_)
  refine zx_null (pc2 := 10) d_Ro_append_9 rfl ?_
  exact zx_aret d_Ro_append_10 rfl (Or.inl rfl) (⟨rfl, rfl, rfl⟩)
theorem c_Ro_post1 {c : Nat} {k s p ba : Int32} (hc : zm_I M 171 0 = nI c) (h60 : c < 60) (hP : zl_Le (zm_P M 172 c)) : zK l D ar b Z y_Ro_post 1 [.ref (b + 171), .int k, .int s, .int p, .int ba] M n (some (.ref (b + zm_P M 172 c))) (fm_addr (zm_wI M 171 0 (nI (c + 1))) (zm_P M 172 c) k s p ba) := by
  refine zk_entry (L := [some (.ref (b + 171)), some (.int k), some (.int s), some (.int p), some (.int ba), none]) rfl rfl (Nat.le_of_ble_eq_true rfl) rfl rfl ?_
  refine zx_aload_n (pc2 := 1) d_Ro_post_0 rfl rfl ?_
  refine zk_callV (pc2 := 4) s_Ro_22 v_Ro_append (zl_c171) (c_Ro_append1 hc h60) d_Ro_post_1 rfl rfl rfl (Nat.le_of_ble_eq_true rfl) (by decide) (by decide) ?_
  refine zx_ast5 (pc2 := 6) d_Ro_post_4 rfl rfl (by decide) ?_
  refine zx_aload (pc2 := 8) d_Ro_post_6 rfl rfl ?_
  refine zx_ifnullR d_Ro_post_8 rfl ?_
  refine zx_aload (pc2 := 13) d_Ro_post_11 rfl rfl ?_
  refine zx_iload_n (pc2 := 14) d_Ro_post_13 rfl rfl ?_
  refine zx_iload_n (pc2 := 15) d_Ro_post_14 rfl rfl ?_
  refine zx_iload_n (pc2 := 16) d_Ro_post_15 rfl rfl ?_
  refine zx_iload (pc2 := 18) d_Ro_post_16 rfl rfl ?_
  refine zk_callVv (pc2 := 21) s_Ro_26 v_Le_address (hP.1) (c_Le_address hP) d_Ro_post_18 rfl rfl rfl (Nat.le_of_ble_eq_true rfl) (by decide) (by decide) ?_
  refine zx_aload (pc2 := 23) d_Ro_post_21 rfl rfl ?_
  exact zx_aret d_Ro_post_23 rfl (Or.inr ⟨_, rfl⟩) (⟨rfl, rfl, rfl⟩)
theorem c_Ro_post0 {c : Nat} {k s p ba : Int32} (hc : zm_I M 171 0 = nI c) (h60 : 60 ≤ c) (h61 : c < 61) : zK l D ar b Z y_Ro_post 1 [.ref (b + 171), .int k, .int s, .int p, .int ba] M n (some .null) M := by
  refine zk_entry (L := [some (.ref (b + 171)), some (.int k), some (.int s), some (.int p), some (.int ba), none]) rfl rfl (Nat.le_of_ble_eq_true rfl) rfl rfl ?_
  refine zx_aload_n (pc2 := 1) d_Ro_post_0 rfl rfl ?_
  refine zk_callV (pc2 := 4) s_Ro_22 v_Ro_append (zl_c171) (c_Ro_append0 hc h60 h61) d_Ro_post_1 rfl rfl rfl (Nat.le_of_ble_eq_true rfl) (by decide) (by decide) ?_
  refine zx_astN5 (pc2 := 6) d_Ro_post_4 rfl rfl (by decide) ?_
  refine zx_aloadN (pc2 := 8) d_Ro_post_6 rfl rfl ?_
  refine zx_ifnullN d_Ro_post_8 (tgt := 21) (by decide) ?_
  refine zx_aloadN (pc2 := 23) d_Ro_post_21 rfl rfl ?_
  exact zx_aret d_Ro_post_23 rfl (Or.inl rfl) ⟨rfl, rfl, rfl⟩
theorem c_Ro_take {i c : Nat} (hc : zm_I M 171 0 = nI (c + 1)) (hi : i ≤ c) (h60 : c < 60) (hP : zp_ok M) : zK l D ar b Z y_Ro_take 0 [.ref (b + 171), .int (nI i)] M n (some (.ref (b + zm_P M 172 i))) (fm_take M i c) := by
  have hP0 : zp_ok (fm_tk0 M c) := hP
  refine zk_entry (L := [some (.ref (b + 171)), some (.int (nI i)), none, none]) rfl rfl (Nat.le_of_ble_eq_true rfl) rfl rfl ?_
  refine zx_aload_n (pc2 := 1) d_Ro_take_0 rfl rfl ?_
  refine zm_getR (pc2 := 4) f_Ro_11 d_Ro_take_1 rfl (zl_c171) rfl ?_
  refine zx_iload_n (pc2 := 5) d_Ro_take_4 rfl rfl ?_
  refine zk_aaldP (pc2 := 6) d_Ro_take_5 rfl (by decide) (zl_c172)  rfl (rfl) (by omega) (by decide) ?_
  refine zx_ast2 (pc2 := 7) d_Ro_take_6 rfl rfl (by decide) ?_
  refine zx_aload_n (pc2 := 8) d_Ro_take_7 rfl rfl ?_
  refine zx_dup (pc2 := 9) d_Ro_take_8 rfl rfl ?_
  refine zm_getI (pc2 := 12) f_Ro_18 d_Ro_take_9 rfl (zl_c171) rfl ?_
  refine zx_iconst (pc2 := 13) (v := nI 1) d_Ro_take_12 rfl (by decide) ?_
  refine zx_isub (pc2 := 14) d_Ro_take_13 rfl ?_
  rw [show zm_I M 171 0 - nI 1 = nI c from by rw [hc, pk_sub (by omega)]; rfl]
  refine zm_putI (pc2 := 17) p_Ro_18 d_Ro_take_14 rfl (zl_c171) rfl rfl rfl ?_
  refine zx_iload_n (pc2 := 18) d_Ro_take_17 rfl rfl ?_
  refine zx_ist3 (pc2 := 19) d_Ro_take_18 rfl rfl (by decide) ?_
  refine zx_for (X := fun d => zk_X l D ar b Z y_Ro_take 0 (some (.ref (b + zm_P M 172 i))) (fm_take M i c) n 19 [some (.ref (b + 171)), some (.int (nI i)), some (.ref (b + zm_P M 172 i)), some (.int (nI (i + d)))] [] (fm_tkL i d (fm_tk0 M c))) (c - i) ?_ ?_ 0 (Nat.zero_le _)
  · have hk : zm_I (fm_tkL i (c - i) (fm_tk0 M c)) 171 0 = nI c := by rw [fm_tkL_I]; show zm_I (zm_wI M 171 0 (nI c)) 171 0 = _; rw [zm_I_w, if_pos ⟨rfl, rfl⟩]
    have hPd := zp_tkL (i := i) (c - i) (fm_tk0 M c) hP0 (by omega)
    refine zx_iload_n (pc2 := 20) d_Ro_take_19 rfl rfl ?_
    refine zx_aload_n (pc2 := 21) d_Ro_take_20 rfl rfl ?_
    refine zm_getI (pc2 := 24) f_Ro_18 d_Ro_take_21 rfl (zl_c171) rfl ?_
    refine zx_icmp_ge (pc2 := 27) d_Ro_take_24 rfl (tgt := 47) (by decide) (fun _ => ?_) (fun cz => absurd (by rw [hk]; exact nI_le (by omega) (by omega)) cz)
    refine zx_aload_n (pc2 := 48) d_Ro_take_47 rfl rfl ?_
    refine zm_getR (pc2 := 51) f_Ro_11 d_Ro_take_48 rfl (zl_c171) rfl ?_
    refine zx_aload_n (pc2 := 52) d_Ro_take_51 rfl rfl ?_
    refine zm_getI (pc2 := 55) f_Ro_18 d_Ro_take_52 rfl (zl_c171) rfl ?_
    refine zx_aload_n (pc2 := 56) d_Ro_take_55 rfl rfl ?_
    refine zm_getR (pc2 := 59) f_Ro_11 d_Ro_take_56 rfl (zl_c171) rfl ?_
    refine zx_bipush (pc2 := 61) (v := nI 60) d_Ro_take_59 rfl (by decide) ?_
    refine zk_aaldP (pc2 := 62) d_Ro_take_61 rfl (by decide) (zl_c172)  rfl (rfl) (by decide) (by decide) ?_
    refine zk_aast (pc2 := 63) d_Ro_take_62 rfl (by decide) (zl_c172) rfl ((hPd 60 (by decide)).1) rfl (hk) (by omega) (by decide) ?_
    refine zx_aload_n (pc2 := 64) d_Ro_take_63 rfl rfl ?_
    refine zm_getR (pc2 := 67) f_Ro_11 d_Ro_take_64 rfl (zl_c171) rfl ?_
    refine zx_bipush (pc2 := 69) (v := nI 60) d_Ro_take_67 rfl (by decide) ?_
    refine zx_aload_n (pc2 := 70) d_Ro_take_69 rfl rfl ?_
    refine zk_aast (pc2 := 71) d_Ro_take_70 rfl (by decide) (zl_c172) rfl ((hP i (by omega)).1) rfl (rfl) (by decide) (by decide) ?_
    refine zx_aload_n (pc2 := 72) d_Ro_take_71 rfl rfl ?_
    exact zx_aret d_Ro_take_72 rfl (Or.inr ⟨_, rfl⟩) (⟨rfl, rfl, rfl⟩)
  · intro d hd ih
    have hk : zm_I (fm_tkL i d (fm_tk0 M c)) 171 0 = nI c := by rw [fm_tkL_I]; show zm_I (zm_wI M 171 0 (nI c)) 171 0 = _; rw [zm_I_w, if_pos ⟨rfl, rfl⟩]
    have hPd := zp_tkL (i := i) d (fm_tk0 M c) hP0 (by omega)
    refine zx_iload_n (pc2 := 20) d_Ro_take_19 rfl rfl ?_
    refine zx_aload_n (pc2 := 21) d_Ro_take_20 rfl rfl ?_
    refine zm_getI (pc2 := 24) f_Ro_18 d_Ro_take_21 rfl (zl_c171) rfl ?_
    refine zx_icmp_ge (pc2 := 27) d_Ro_take_24 rfl (tgt := 47) (by decide) (fun cz => absurd cz (by rw [hk]; exact nI_ge (by omega) (by omega))) (fun _ => ?_)
    refine zx_aload_n (pc2 := 28) d_Ro_take_27 rfl rfl ?_
    refine zm_getR (pc2 := 31) f_Ro_11 d_Ro_take_28 rfl (zl_c171) rfl ?_
    refine zx_iload_n (pc2 := 32) d_Ro_take_31 rfl rfl ?_
    refine zx_aload_n (pc2 := 33) d_Ro_take_32 rfl rfl ?_
    refine zm_getR (pc2 := 36) f_Ro_11 d_Ro_take_33 rfl (zl_c171) rfl ?_
    refine zx_iload_n (pc2 := 37) d_Ro_take_36 rfl rfl ?_
    refine zx_iconst (pc2 := 38) (v := nI 1) d_Ro_take_37 rfl (by decide) ?_
    refine zx_iadd (pc2 := 39) d_Ro_take_38 rfl ?_
    refine zk_aaldP (pc2 := 40) d_Ro_take_39 rfl (by decide) (zl_c172)  rfl ((nI_add _ _)) (by omega) (by decide) ?_
    refine zk_aast (pc2 := 41) d_Ro_take_40 rfl (by decide) (zl_c172) rfl ((hPd (i + d + 1) (by omega)).1) rfl (rfl) (by omega) (by decide) ?_
    refine zx_inc3 (pc2 := 44) d_Ro_take_41 rfl (zk_1 _) rfl (by decide) ?_
    refine zx_goto (tgt := 19) d_Ro_take_44 (by decide) ?_
    exact ih
end C35
