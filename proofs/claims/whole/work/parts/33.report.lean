/-! max, bitCount, Report -/
def ff_max (a c : Int32) : Int32 := if a < c then c else a
def ff_bc1 (x : Int32) : Int32 := x - ((x.toUInt32 >>> ((nI 1).toUInt32 &&& Int32.toUInt32 31)).toInt32 &&& (1431655765 : Int32))
def ff_bc2 (x : Int32) : Int32 := (x &&& (858993459 : Int32)) + ((x.toUInt32 >>> ((nI 2).toUInt32 &&& Int32.toUInt32 31)).toInt32 &&& (858993459 : Int32))
def ff_bc3 (x : Int32) : Int32 := (x + (x.toUInt32 >>> ((nI 4).toUInt32 &&& Int32.toUInt32 31)).toInt32) &&& (252645135 : Int32)
def ff_bc4 (x : Int32) : Int32 := x + (x.toUInt32 >>> ((nI 8).toUInt32 &&& Int32.toUInt32 31)).toInt32
def ff_bc5 (x : Int32) : Int32 := x + (x.toUInt32 >>> ((nI 16).toUInt32 &&& Int32.toUInt32 31)).toInt32
def ff_bc (x : Int32) : Int32 := ff_bc5 (ff_bc4 (ff_bc3 (ff_bc2 (ff_bc1 x)))) &&& nI 63
def ff_third (x : Int32) : Int32 := (x + nI 3 - nI 1) / nI 3
theorem ff_third_nI {c : Nat} (h : c < 2 ^ 30) : ff_third (nI c) = nI ((c + 2) / 3) := by
  unfold ff_third
  rw [nI_add, pk_sub (by omega), pk_div (by omega) (by decide) (by decide)]
  rfl
theorem ff_max_1 {t : Nat} (h : t < 2 ^ 30) : ff_max (nI 1) (nI t) = nI (max 1 t) := by
  unfold ff_max
  by_cases c : 1 < t
  · rw [if_pos (nI_lt c (by omega)), Nat.max_eq_right (by omega)]
  · rw [if_neg (fun z => c ((nI_ltI (by decide) (by omega)).mp z)), Nat.max_eq_left (by omega)]
def fm_clearP (M : zm_M) (r : Nat) : zm_M := zm_it (fun p M => zm_wJ M (r + 1) p 0) 3 M
def ff_T (c : Nat) : Nat := max 1 ((c + 2) / 3)
def fm_cutS (r q T : Nat) (i : Nat) (M : zm_M) : zm_M := zm_wJ M (r + 1) (i / T) (zm_J M (r + 1) (i / T) ||| (((zm_I M q i).toInt64 &&& (255 : Int64)) <<< ((nI 8 * nI (i % T)).toInt64 &&& 63)))
def fm_cut (M : zm_M) (r q c : Nat) : zm_M := zm_it (fm_cutS r q (ff_T c)) c (fm_clearP (zm_wI M r 0 (nI c)) r)
def fs_share (M : zm_M) (r : Nat) (x : Int32) : Int64 := ff_times (ff_times (ff_times 0 x ^^^ zm_J M (r + 1) 2) x ^^^ zm_J M (r + 1) 1) x ^^^ zm_J M (r + 1) 0
def fm_aS1 (M : zm_M) (r : Nat) (sc : Int64) (y z : Nat) : zm_M := zm_wJ M (r + 1) 0 (zm_J M (r + 1) 0 ^^^ ff_times (ff_times sc (nI y)) (nI z))
def fm_aS2 (M : zm_M) (r : Nat) (sc : Int64) (y z : Nat) : zm_M := zm_wJ M (r + 1) 1 (zm_J M (r + 1) 1 ^^^ ff_times sc (nI y ^^^ nI z))
def fm_aS3 (M : zm_M) (r : Nat) (sc : Int64) : zm_M := zm_wJ M (r + 1) 2 (zm_J M (r + 1) 2 ^^^ sc)
def fm_addShare (M : zm_M) (r : Nat) (sh : Int64) (x y z : Nat) : zm_M := fm_aS3 (fm_aS2 (fm_aS1 M r (ff_over (ff_over sh x y) x z) y z) r (ff_over (ff_over sh x y) x z) y z) r (ff_over (ff_over sh x y) x z)
def fs_byte (M : zm_M) (r c i : Nat) : Int32 := (((zm_J M (r + 1) (i / ff_T c)).toUInt64 >>> ((nI 8 * nI (i % ff_T c)).toInt64.toUInt64 &&& Int64.toUInt64 63)).toInt64 &&& (255 : Int64)).toInt32
section C33
variable {l : Launch} {D : va_G} {ar : Nat → ClassId} {b : Nat} {Z : State → Prop} {M : zm_M} {n : Nat}
theorem c_In_bitCount {x : Int32} : zK l D ar b Z y_In_bitCount 0 [.int x] M n (some (.int (ff_bc x))) M := by
  refine zk_entry (L := [some (.int x)]) rfl rfl (Nat.le_of_ble_eq_true rfl) rfl rfl ?_
  refine zx_iload_n (pc2 := 1) d_In_bitCount_0 rfl rfl ?_
  refine zx_iload_n (pc2 := 2) d_In_bitCount_1 rfl rfl ?_
  refine zx_iconst (pc2 := 3) (v := nI 1) d_In_bitCount_2 rfl (by decide) ?_
  refine zx_iushr (pc2 := 4) d_In_bitCount_3 rfl ?_
  refine zx_ldcw (pc2 := 7) (v := (1431655765 : Int32)) d_In_bitCount_4 rfl zn_w551 ?_
  refine zx_iand (pc2 := 8) d_In_bitCount_7 rfl ?_
  refine zx_isub (pc2 := 9) d_In_bitCount_8 rfl ?_
  refine zx_ist0 (pc2 := 10) d_In_bitCount_9 rfl trivial (by decide) ?_
  refine zx_iload_n (pc2 := 11) d_In_bitCount_10 rfl rfl ?_
  refine zx_ldcw (pc2 := 14) (v := (858993459 : Int32)) d_In_bitCount_11 rfl zn_w552 ?_
  refine zx_iand (pc2 := 15) d_In_bitCount_14 rfl ?_
  refine zx_iload_n (pc2 := 16) d_In_bitCount_15 rfl rfl ?_
  refine zx_iconst (pc2 := 17) (v := nI 2) d_In_bitCount_16 rfl (by decide) ?_
  refine zx_iushr (pc2 := 18) d_In_bitCount_17 rfl ?_
  refine zx_ldcw (pc2 := 21) (v := (858993459 : Int32)) d_In_bitCount_18 rfl zn_w552 ?_
  refine zx_iand (pc2 := 22) d_In_bitCount_21 rfl ?_
  refine zx_iadd (pc2 := 23) d_In_bitCount_22 rfl ?_
  refine zx_ist0 (pc2 := 24) d_In_bitCount_23 rfl trivial (by decide) ?_
  refine zx_iload_n (pc2 := 25) d_In_bitCount_24 rfl rfl ?_
  refine zx_iload_n (pc2 := 26) d_In_bitCount_25 rfl rfl ?_
  refine zx_iconst (pc2 := 27) (v := nI 4) d_In_bitCount_26 rfl (by decide) ?_
  refine zx_iushr (pc2 := 28) d_In_bitCount_27 rfl ?_
  refine zx_iadd (pc2 := 29) d_In_bitCount_28 rfl ?_
  refine zx_ldcw (pc2 := 32) (v := (252645135 : Int32)) d_In_bitCount_29 rfl zn_w553 ?_
  refine zx_iand (pc2 := 33) d_In_bitCount_32 rfl ?_
  refine zx_ist0 (pc2 := 34) d_In_bitCount_33 rfl trivial (by decide) ?_
  refine zx_iload_n (pc2 := 35) d_In_bitCount_34 rfl rfl ?_
  refine zx_iload_n (pc2 := 36) d_In_bitCount_35 rfl rfl ?_
  refine zx_bipush (pc2 := 38) (v := nI 8) d_In_bitCount_36 rfl (by decide) ?_
  refine zx_iushr (pc2 := 39) d_In_bitCount_38 rfl ?_
  refine zx_iadd (pc2 := 40) d_In_bitCount_39 rfl ?_
  refine zx_ist0 (pc2 := 41) d_In_bitCount_40 rfl trivial (by decide) ?_
  refine zx_iload_n (pc2 := 42) d_In_bitCount_41 rfl rfl ?_
  refine zx_iload_n (pc2 := 43) d_In_bitCount_42 rfl rfl ?_
  refine zx_bipush (pc2 := 45) (v := nI 16) d_In_bitCount_43 rfl (by decide) ?_
  refine zx_iushr (pc2 := 46) d_In_bitCount_45 rfl ?_
  refine zx_iadd (pc2 := 47) d_In_bitCount_46 rfl ?_
  refine zx_ist0 (pc2 := 48) d_In_bitCount_47 rfl trivial (by decide) ?_
  refine zx_iload_n (pc2 := 49) d_In_bitCount_48 rfl rfl ?_
  refine zx_bipush (pc2 := 51) (v := nI 63) d_In_bitCount_49 rfl (by decide) ?_
  refine zx_iand (pc2 := 52) d_In_bitCount_51 rfl ?_
  exact zx_iret d_In_bitCount_52 rfl (⟨rfl, rfl, rfl⟩)
theorem c_Re_third {x : Int32} : zK l D ar b Z y_Re_third 0 [.int x] M n (some (.int (ff_third x))) M := by
  refine zk_entry (L := [some (.int x)]) rfl rfl (Nat.le_of_ble_eq_true rfl) rfl rfl ?_
  refine zx_iload_n (pc2 := 1) d_Re_third_0 rfl rfl ?_
  refine zx_iconst (pc2 := 2) (v := nI 3) d_Re_third_1 rfl (by decide) ?_
  refine zx_iadd (pc2 := 3) d_Re_third_2 rfl ?_
  refine zx_iconst (pc2 := 4) (v := nI 1) d_Re_third_3 rfl (by decide) ?_
  refine zx_isub (pc2 := 5) d_Re_third_4 rfl ?_
  refine zx_iconst (pc2 := 6) (v := nI 3) d_Re_third_5 rfl (by decide) ?_
  refine zx_idiv (pc2 := 7) d_Re_third_6 rfl (by decide) ?_
  exact zx_iret d_Re_third_7 rfl (⟨rfl, rfl, rfl⟩)
theorem c_Re_pointOf {x : Int32} : zK l D ar b Z y_Re_pointOf 0 [.int x] M n (some (.int (x + nI 1))) M := by
  refine zk_entry (L := [some (.int x)]) rfl rfl (Nat.le_of_ble_eq_true rfl) rfl rfl ?_
  refine zx_iload_n (pc2 := 1) d_Re_pointOf_0 rfl rfl ?_
  refine zx_iconst (pc2 := 2) (v := nI 1) d_Re_pointOf_1 rfl (by decide) ?_
  refine zx_iadd (pc2 := 3) d_Re_pointOf_2 rfl ?_
  exact zx_iret d_Re_pointOf_3 rfl (⟨rfl, rfl, rfl⟩)
theorem c_Re_clearPieces {r : Nat} (hr : zl_Re r) : zK l D ar b Z y_Re_clearPieces 0 [.ref (b + r)] M n none (fm_clearP M r) := by
  refine zk_entry (L := [some (.ref (b + r)), none]) rfl rfl (Nat.le_of_ble_eq_true rfl) rfl rfl ?_
  refine zx_iconst (pc2 := 1) (v := nI 0) d_Re_clearPieces_0 rfl (by decide) ?_
  refine zx_ist1 (pc2 := 2) d_Re_clearPieces_1 rfl rfl (by decide) ?_
  refine zx_for (X := fun i => zk_X l D ar b Z y_Re_clearPieces 0 none (fm_clearP M r) n 2 [some (.ref (b + r)), some (.int (nI i))] [] (zm_it (fun p M => zm_wJ M (r + 1) p 0) i M)) 3 ?_ ?_ 0 (by decide)
  · refine zx_iload_n (pc2 := 3) d_Re_clearPieces_2 rfl rfl ?_
    refine zx_iconst (pc2 := 4) (v := nI 3) d_Re_clearPieces_3 rfl (by decide) ?_
    refine zx_icmp_ge (pc2 := 7) d_Re_clearPieces_4 rfl (tgt := 20) (by decide) (fun _ => ?_) (fun cz => absurd (nI_le (Nat.le_refl 3) (by decide)) cz)
    exact zx_vret d_Re_clearPieces_20 rfl (⟨rfl, rfl, rfl⟩)
  · intro i hi ih
    refine zx_iload_n (pc2 := 3) d_Re_clearPieces_2 rfl rfl ?_
    refine zx_iconst (pc2 := 4) (v := nI 3) d_Re_clearPieces_3 rfl (by decide) ?_
    refine zx_icmp_ge (pc2 := 7) d_Re_clearPieces_4 rfl (tgt := 20) (by decide) (fun cz => absurd cz (nI_ge hi (by decide))) (fun _ => ?_)
    refine zx_aload_n (pc2 := 8) d_Re_clearPieces_7 rfl rfl ?_
    refine zm_getR (pc2 := 11) f_Re_9 d_Re_clearPieces_8 rfl (hr.1) rfl ?_
    refine zx_iload_n (pc2 := 12) d_Re_clearPieces_11 rfl rfl ?_
    refine zx_lconst (pc2 := 13) (v := 0) d_Re_clearPieces_12 rfl rfl ?_
    refine zk_last (pc2 := 14) d_Re_clearPieces_13 rfl (hr.2) (rfl) (hi) (by decide) ?_
    refine zx_inc1 (pc2 := 17) d_Re_clearPieces_14 rfl (zk_1 _) rfl (by decide) ?_
    refine zx_goto (tgt := 2) d_Re_clearPieces_17 (by decide) ?_
    exact ih
theorem c_Re_cut {r q c : Nat} (hr : zl_Re r) (hq : zl q = some (.inl (2, 24, 0, 0))) (hc : c ≤ 24) : zK l D ar b Z y_Re_cut 1 [.ref (b + r), .ref (b + q), .int (nI c)] M n none (fm_cut M r q c) := by
  have hT : 0 < ff_T c := by unfold ff_T; omega
  have hT3 : c ≤ 3 * ff_T c := by unfold ff_T; omega
  have hT9 : ff_T c < 2 ^ 30 := by unfold ff_T; omega
  have e1 : ff_max (nI 1) (ff_third (nI c)) = nI (ff_T c) := by rw [ff_third_nI (by omega), ff_max_1 (by omega)]; rfl
  refine zk_entry (L := [some (.ref (b + r)), some (.ref (b + q)), some (.int (nI c)), none, none]) rfl rfl (Nat.le_of_ble_eq_true rfl) rfl rfl ?_
  refine zx_aload_n (pc2 := 1) d_Re_cut_0 rfl rfl ?_
  refine zx_iload_n (pc2 := 2) d_Re_cut_1 rfl rfl ?_
  refine zm_putI (pc2 := 5) p_Re_15 d_Re_cut_2 rfl (hr.1) rfl rfl rfl ?_
  refine zx_aload_n (pc2 := 6) d_Re_cut_5 rfl rfl ?_
  refine zk_callVv (pc2 := 9) s_Re_19 v_Re_clearPieces (hr.1) (c_Re_clearPieces hr) d_Re_cut_6 rfl rfl rfl (Nat.le_of_ble_eq_true rfl) (by decide) (by decide) ?_
  refine zx_iconst (pc2 := 10) (v := nI 1) d_Re_cut_9 rfl (by decide) ?_
  refine zx_iload_n (pc2 := 11) d_Re_cut_10 rfl rfl ?_
  refine zk_callS (pc2 := 14) s_Re_22 t_Re_third (c_Re_third) d_Re_cut_11 rfl rfl rfl (Nat.le_of_ble_eq_true rfl) (by decide) (by decide) ?_
  refine zx_mmax (pc2 := 17) d_Re_cut_14 rfl zn_w449 zn_w367 zn_w15 zn_w368 (by decide) (Nat.le_of_ble_eq_true rfl) (Nat.le_refl 0) (Nat.le_refl 0) ?_
  refine zx_ist3 (pc2 := 18) d_Re_cut_17 rfl rfl (by decide) ?_
  refine zx_iconst (pc2 := 19) (v := nI 0) d_Re_cut_18 rfl (by decide) ?_
  refine zx_ist4 (pc2 := 21) d_Re_cut_19 rfl rfl (by decide) ?_
  rw [show (if nI 1 < ff_third (nI c) then ff_third (nI c) else nI 1) = nI (ff_T c) from e1]
  refine zx_for (X := fun i => zk_X l D ar b Z y_Re_cut 1 none (fm_cut M r q c) n 21 [some (.ref (b + r)), some (.ref (b + q)), some (.int (nI c)), some (.int (nI (ff_T c))), some (.int (nI i))] [] (zm_it (fm_cutS r q (ff_T c)) i (fm_clearP (zm_wI M r 0 (nI c)) r))) c ?_ ?_ 0 (Nat.zero_le _)
  · refine zx_iload (pc2 := 23) d_Re_cut_21 rfl rfl ?_
    refine zx_iload_n (pc2 := 24) d_Re_cut_23 rfl rfl ?_
    refine zx_icmp_ge (pc2 := 27) d_Re_cut_24 rfl (tgt := 62) (by decide) (fun _ => ?_) (fun cz => absurd (nI_le (Nat.le_refl c) (by omega)) cz)
    exact zx_vret d_Re_cut_62 rfl (⟨rfl, rfl, rfl⟩)
  · intro i hi ih
    have hd : i / ff_T c < 3 := (Nat.div_lt_iff_lt_mul hT).mpr (by omega)
    have e2 : nI i / nI (ff_T c) = nI (i / ff_T c) := pk_div (by omega) hT (by omega)
    have e3 : nI i - nI i / nI (ff_T c) * nI (ff_T c) = nI (i % ff_T c) := pk_rem (by omega) hT (by omega)
    have hne : ¬ nI (ff_T c) = 0 := nI_ne0 hT (by omega)
    refine zx_iload (pc2 := 23) d_Re_cut_21 rfl rfl ?_
    refine zx_iload_n (pc2 := 24) d_Re_cut_23 rfl rfl ?_
    refine zx_icmp_ge (pc2 := 27) d_Re_cut_24 rfl (tgt := 62) (by decide) (fun cz => absurd cz (nI_ge hi (by omega))) (fun _ => ?_)
    refine zx_aload_n (pc2 := 28) d_Re_cut_27 rfl rfl ?_
    refine zm_getR (pc2 := 31) f_Re_9 d_Re_cut_28 rfl (hr.1) rfl ?_
    refine zx_iload (pc2 := 33) d_Re_cut_31 rfl rfl ?_
    refine zx_iload_n (pc2 := 34) d_Re_cut_33 rfl rfl ?_
    refine zx_idiv (pc2 := 35) d_Re_cut_34 rfl (hne) ?_
    refine zx_dup2 (pc2 := 36) d_Re_cut_35 rfl rfl rfl ?_
    refine zk_lald (pc2 := 37) d_Re_cut_36 rfl (hr.2) (e2) (hd) (by decide) ?_
    refine zx_aload_n (pc2 := 38) d_Re_cut_37 rfl rfl ?_
    refine zx_iload (pc2 := 40) d_Re_cut_38 rfl rfl ?_
    refine zk_bald (pc2 := 41) d_Re_cut_40 rfl (hq) (rfl) (by omega) (by decide) ?_
    refine zx_i2l (pc2 := 42) d_Re_cut_41 rfl ?_
    refine zx_ldc2 (pc2 := 45) (v := (255 : Int64)) d_Re_cut_42 rfl zn_w450 ?_
    refine zx_land (pc2 := 46) d_Re_cut_45 rfl ?_
    refine zx_bipush (pc2 := 48) (v := nI 8) d_Re_cut_46 rfl (by decide) ?_
    refine zx_iload (pc2 := 50) d_Re_cut_48 rfl rfl ?_
    refine zx_iload_n (pc2 := 51) d_Re_cut_50 rfl rfl ?_
    refine zx_irem (pc2 := 52) d_Re_cut_51 rfl (hne) ?_
    refine zx_imul (pc2 := 53) d_Re_cut_52 rfl ?_
    refine zx_lshl (pc2 := 54) d_Re_cut_53 rfl ?_
    refine zx_lor (pc2 := 55) d_Re_cut_54 rfl ?_
    rw [e3]
    refine zk_last (pc2 := 56) d_Re_cut_55 rfl (hr.2) (e2) (hd) (by decide) ?_
    refine zx_inc4 (pc2 := 59) d_Re_cut_56 rfl (zk_1 _) rfl (by decide) ?_
    refine zx_goto (tgt := 21) d_Re_cut_59 (by decide) ?_
    exact ih
theorem c_Re_shareOf {r s : Nat} (hr : zl_Re r) : zK l D ar b Z y_Re_shareOf 1 [.ref (b + r), .int (nI s)] M n (some (.long (fs_share M r (nI s + nI 1)))) M := by
  refine zk_entry (L := [some (.ref (b + r)), some (.int (nI s)), none, none, none, none]) rfl rfl (Nat.le_of_ble_eq_true rfl) rfl rfl ?_
  refine zx_iload_n (pc2 := 1) d_Re_shareOf_0 rfl rfl ?_
  refine zk_callS (pc2 := 4) s_Re_34 t_Re_pointOf (c_Re_pointOf) d_Re_shareOf_1 rfl rfl rfl (Nat.le_of_ble_eq_true rfl) (by decide) (by decide) ?_
  refine zx_ist2 (pc2 := 5) d_Re_shareOf_4 rfl rfl (by decide) ?_
  refine zx_lconst (pc2 := 6) (v := 0) d_Re_shareOf_5 rfl rfl ?_
  refine zx_lst3 (pc2 := 7) d_Re_shareOf_6 rfl rfl (by decide) ?_
  refine zx_iconst (pc2 := 8) (v := nI 2) d_Re_shareOf_7 rfl (by decide) ?_
  refine zx_ist5 (pc2 := 10) d_Re_shareOf_8 rfl rfl (by decide) ?_
  refine zx_iload (pc2 := 12) d_Re_shareOf_10 rfl rfl ?_
  refine zx_if_lt (pc2 := 15) d_Re_shareOf_12 rfl (tgt := 35) (by decide) (fun cz => absurd cz (by decide)) (fun _ => ?_)
  refine zx_lload_n (pc2 := 16) d_Re_shareOf_15 rfl rfl ?_
  refine zx_iload_n (pc2 := 17) d_Re_shareOf_16 rfl rfl ?_
  refine zk_callS (pc2 := 20) s_Re_37 t_Fi_times (c_Fi_times) d_Re_shareOf_17 rfl rfl rfl (Nat.le_of_ble_eq_true rfl) (by decide) (by decide) ?_
  refine zx_aload_n (pc2 := 21) d_Re_shareOf_20 rfl rfl ?_
  refine zm_getR (pc2 := 24) f_Re_9 d_Re_shareOf_21 rfl (hr.1) rfl ?_
  refine zx_iload (pc2 := 26) d_Re_shareOf_24 rfl rfl ?_
  refine zk_lald (pc2 := 27) d_Re_shareOf_26 rfl (hr.2) (rfl) (by decide) (by decide) ?_
  refine zx_lxor (pc2 := 28) d_Re_shareOf_27 rfl ?_
  refine zx_lst3 (pc2 := 29) d_Re_shareOf_28 rfl rfl (by decide) ?_
  refine zx_inc5 (pc2 := 32) (x := nI 2) (v := nI 1) d_Re_shareOf_29 rfl (by decide) rfl (by decide) ?_
  refine zx_goto (tgt := 10) d_Re_shareOf_32 (by decide) ?_
  refine zx_iload (pc2 := 12) d_Re_shareOf_10 rfl rfl ?_
  refine zx_if_lt (pc2 := 15) d_Re_shareOf_12 rfl (tgt := 35) (by decide) (fun cz => absurd cz (by decide)) (fun _ => ?_)
  refine zx_lload_n (pc2 := 16) d_Re_shareOf_15 rfl rfl ?_
  refine zx_iload_n (pc2 := 17) d_Re_shareOf_16 rfl rfl ?_
  refine zk_callS (pc2 := 20) s_Re_37 t_Fi_times (c_Fi_times) d_Re_shareOf_17 rfl rfl rfl (Nat.le_of_ble_eq_true rfl) (by decide) (by decide) ?_
  refine zx_aload_n (pc2 := 21) d_Re_shareOf_20 rfl rfl ?_
  refine zm_getR (pc2 := 24) f_Re_9 d_Re_shareOf_21 rfl (hr.1) rfl ?_
  refine zx_iload (pc2 := 26) d_Re_shareOf_24 rfl rfl ?_
  refine zk_lald (pc2 := 27) d_Re_shareOf_26 rfl (hr.2) (rfl) (by decide) (by decide) ?_
  refine zx_lxor (pc2 := 28) d_Re_shareOf_27 rfl ?_
  refine zx_lst3 (pc2 := 29) d_Re_shareOf_28 rfl rfl (by decide) ?_
  refine zx_inc5 (pc2 := 32) (x := nI 1) (v := nI 0) d_Re_shareOf_29 rfl (by decide) rfl (by decide) ?_
  refine zx_goto (tgt := 10) d_Re_shareOf_32 (by decide) ?_
  refine zx_iload (pc2 := 12) d_Re_shareOf_10 rfl rfl ?_
  refine zx_if_lt (pc2 := 15) d_Re_shareOf_12 rfl (tgt := 35) (by decide) (fun cz => absurd cz (by decide)) (fun _ => ?_)
  refine zx_lload_n (pc2 := 16) d_Re_shareOf_15 rfl rfl ?_
  refine zx_iload_n (pc2 := 17) d_Re_shareOf_16 rfl rfl ?_
  refine zk_callS (pc2 := 20) s_Re_37 t_Fi_times (c_Fi_times) d_Re_shareOf_17 rfl rfl rfl (Nat.le_of_ble_eq_true rfl) (by decide) (by decide) ?_
  refine zx_aload_n (pc2 := 21) d_Re_shareOf_20 rfl rfl ?_
  refine zm_getR (pc2 := 24) f_Re_9 d_Re_shareOf_21 rfl (hr.1) rfl ?_
  refine zx_iload (pc2 := 26) d_Re_shareOf_24 rfl rfl ?_
  refine zk_lald (pc2 := 27) d_Re_shareOf_26 rfl (hr.2) (rfl) (by decide) (by decide) ?_
  refine zx_lxor (pc2 := 28) d_Re_shareOf_27 rfl ?_
  refine zx_lst3 (pc2 := 29) d_Re_shareOf_28 rfl rfl (by decide) ?_
  refine zx_inc5 (pc2 := 32) (x := nI 0) (v := -1) d_Re_shareOf_29 rfl (by decide) rfl (by decide) ?_
  refine zx_goto (tgt := 10) d_Re_shareOf_32 (by decide) ?_
  refine zx_iload (pc2 := 12) d_Re_shareOf_10 rfl rfl ?_
  refine zx_if_lt (pc2 := 15) d_Re_shareOf_12 rfl (tgt := 35) (by decide) (fun _ => ?_) (fun cz => absurd (by decide) cz)
  refine zx_lload_n (pc2 := 36) d_Re_shareOf_35 rfl rfl ?_
  exact zx_lret d_Re_shareOf_36 rfl (⟨rfl, rfl, rfl⟩)
theorem c_Re_addShare {r t : Nat} {sh : Int64} {x y z : Nat} (hI : ∀ U, Z U → zs_I b t U) (hr : zl_Re r) (hx : x < 8) (hy : y < 8) (hz : z < 8) : zK l D ar b Z y_Re_addShare 2 [.ref (b + r), .long sh, .int (nI x), .int (nI y), .int (nI z)] M n none (fm_addShare M r sh x y z) := by
  refine zk_entry (L := [some (.ref (b + r)), some (.long sh), none, some (.int (nI x)), some (.int (nI y)), some (.int (nI z)), none, none]) rfl rfl (Nat.le_of_ble_eq_true rfl) rfl rfl ?_
  refine zx_lload_n (pc2 := 1) d_Re_addShare_0 rfl rfl ?_
  refine zx_iload_n (pc2 := 2) d_Re_addShare_1 rfl rfl ?_
  refine zx_iload (pc2 := 4) d_Re_addShare_2 rfl rfl ?_
  refine zk_callS (pc2 := 7) s_Re_43 t_Fi_overSum (c_Fi_overSum hI hx hy) d_Re_addShare_4 rfl rfl rfl (Nat.le_of_ble_eq_true rfl) (by decide) (by decide) ?_
  refine zx_iload_n (pc2 := 8) d_Re_addShare_7 rfl rfl ?_
  refine zx_iload (pc2 := 10) d_Re_addShare_8 rfl rfl ?_
  refine zk_callS (pc2 := 13) s_Re_43 t_Fi_overSum (c_Fi_overSum hI hx hz) d_Re_addShare_10 rfl rfl rfl (Nat.le_of_ble_eq_true rfl) (by decide) (by decide) ?_
  refine zx_lst6 (pc2 := 15) d_Re_addShare_13 rfl rfl (by decide) ?_
  refine zx_aload_n (pc2 := 16) d_Re_addShare_15 rfl rfl ?_
  refine zm_getR (pc2 := 19) f_Re_9 d_Re_addShare_16 rfl (hr.1) rfl ?_
  refine zx_iconst (pc2 := 20) (v := nI 0) d_Re_addShare_19 rfl (by decide) ?_
  refine zx_dup2 (pc2 := 21) d_Re_addShare_20 rfl rfl rfl ?_
  refine zk_lald (pc2 := 22) d_Re_addShare_21 rfl (hr.2) (rfl) (by decide) (by decide) ?_
  refine zx_lload (pc2 := 24) d_Re_addShare_22 rfl rfl ?_
  refine zx_iload (pc2 := 26) d_Re_addShare_24 rfl rfl ?_
  refine zk_callS (pc2 := 29) s_Re_37 t_Fi_times (c_Fi_times) d_Re_addShare_26 rfl rfl rfl (Nat.le_of_ble_eq_true rfl) (by decide) (by decide) ?_
  refine zx_iload (pc2 := 31) d_Re_addShare_29 rfl rfl ?_
  refine zk_callS (pc2 := 34) s_Re_37 t_Fi_times (c_Fi_times) d_Re_addShare_31 rfl rfl rfl (Nat.le_of_ble_eq_true rfl) (by decide) (by decide) ?_
  refine zx_lxor (pc2 := 35) d_Re_addShare_34 rfl ?_
  refine zk_last (pc2 := 36) d_Re_addShare_35 rfl (hr.2) (rfl) (by decide) (by decide) ?_
  refine zx_aload_n (pc2 := 37) d_Re_addShare_36 rfl rfl ?_
  refine zm_getR (pc2 := 40) f_Re_9 d_Re_addShare_37 rfl (hr.1) rfl ?_
  refine zx_iconst (pc2 := 41) (v := nI 1) d_Re_addShare_40 rfl (by decide) ?_
  refine zx_dup2 (pc2 := 42) d_Re_addShare_41 rfl rfl rfl ?_
  refine zk_lald (pc2 := 43) d_Re_addShare_42 rfl (hr.2) (rfl) (by decide) (by decide) ?_
  refine zx_lload (pc2 := 45) d_Re_addShare_43 rfl rfl ?_
  refine zx_iload (pc2 := 47) d_Re_addShare_45 rfl rfl ?_
  refine zx_iload (pc2 := 49) d_Re_addShare_47 rfl rfl ?_
  refine zx_ixor (pc2 := 50) d_Re_addShare_49 rfl ?_
  refine zk_callS (pc2 := 53) s_Re_37 t_Fi_times (c_Fi_times) d_Re_addShare_50 rfl rfl rfl (Nat.le_of_ble_eq_true rfl) (by decide) (by decide) ?_
  refine zx_lxor (pc2 := 54) d_Re_addShare_53 rfl ?_
  refine zk_last (pc2 := 55) d_Re_addShare_54 rfl (hr.2) (rfl) (by decide) (by decide) ?_
  refine zx_aload_n (pc2 := 56) d_Re_addShare_55 rfl rfl ?_
  refine zm_getR (pc2 := 59) f_Re_9 d_Re_addShare_56 rfl (hr.1) rfl ?_
  refine zx_iconst (pc2 := 60) (v := nI 2) d_Re_addShare_59 rfl (by decide) ?_
  refine zx_dup2 (pc2 := 61) d_Re_addShare_60 rfl rfl rfl ?_
  refine zk_lald (pc2 := 62) d_Re_addShare_61 rfl (hr.2) (rfl) (by decide) (by decide) ?_
  refine zx_lload (pc2 := 64) d_Re_addShare_62 rfl rfl ?_
  refine zx_lxor (pc2 := 65) d_Re_addShare_64 rfl ?_
  refine zk_last (pc2 := 66) d_Re_addShare_65 rfl (hr.2) (rfl) (by decide) (by decide) ?_
  exact zx_vret d_Re_addShare_66 rfl (⟨rfl, rfl, rfl⟩)
theorem c_Re_byteAt {r c i : Nat} (hr : zl_Re r) (hc : zm_I M r 0 = nI c) (hc24 : c ≤ 24) (hi : i < c) : zK l D ar b Z y_Re_byteAt 1 [.ref (b + r), .int (nI i)] M n (some (.int (fs_byte M r c i))) M := by
  have hT : 0 < ff_T c := by unfold ff_T; omega
  have hT3 : c ≤ 3 * ff_T c := by unfold ff_T; omega
  have hT9 : ff_T c < 2 ^ 30 := by unfold ff_T; omega
  have e1 : ff_max (nI 1) (ff_third (zm_I M r 0)) = nI (ff_T c) := by rw [hc, ff_third_nI (by omega), ff_max_1 (by omega)]; rfl
  have hd : i / ff_T c < 3 := (Nat.div_lt_iff_lt_mul hT).mpr (by omega)
  have e2 : nI i / nI (ff_T c) = nI (i / ff_T c) := pk_div (by omega) hT (by omega)
  have e3 : nI i - nI i / nI (ff_T c) * nI (ff_T c) = nI (i % ff_T c) := pk_rem (by omega) hT (by omega)
  have hne : ¬ nI (ff_T c) = 0 := nI_ne0 hT (by omega)
  refine zk_entry (L := [some (.ref (b + r)), some (.int (nI i)), none]) rfl rfl (Nat.le_of_ble_eq_true rfl) rfl rfl ?_
  refine zx_iconst (pc2 := 1) (v := nI 1) d_Re_byteAt_0 rfl (by decide) ?_
  refine zx_aload_n (pc2 := 2) d_Re_byteAt_1 rfl rfl ?_
  refine zm_getI (pc2 := 5) f_Re_15 d_Re_byteAt_2 rfl (hr.1) rfl ?_
  refine zk_callS (pc2 := 8) s_Re_22 t_Re_third (c_Re_third) d_Re_byteAt_5 rfl rfl rfl (Nat.le_of_ble_eq_true rfl) (by decide) (by decide) ?_
  refine zx_mmax (pc2 := 11) d_Re_byteAt_8 rfl zn_w449 zn_w367 zn_w15 zn_w368 (by decide) (Nat.le_of_ble_eq_true rfl) (Nat.le_refl 0) (Nat.le_refl 0) ?_
  refine zx_ist2 (pc2 := 12) d_Re_byteAt_11 rfl rfl (by decide) ?_
  refine zx_aload_n (pc2 := 13) d_Re_byteAt_12 rfl rfl ?_
  rw [show (if nI 1 < ff_third (zm_I M r 0) then ff_third (zm_I M r 0) else nI 1) = nI (ff_T c) from e1]
  refine zm_getR (pc2 := 16) f_Re_9 d_Re_byteAt_13 rfl (hr.1) rfl ?_
  refine zx_iload_n (pc2 := 17) d_Re_byteAt_16 rfl rfl ?_
  refine zx_iload_n (pc2 := 18) d_Re_byteAt_17 rfl rfl ?_
  refine zx_idiv (pc2 := 19) d_Re_byteAt_18 rfl (hne) ?_
  refine zk_lald (pc2 := 20) d_Re_byteAt_19 rfl (hr.2) (e2) (hd) (by decide) ?_
  refine zx_bipush (pc2 := 22) (v := nI 8) d_Re_byteAt_20 rfl (by decide) ?_
  refine zx_iload_n (pc2 := 23) d_Re_byteAt_22 rfl rfl ?_
  refine zx_iload_n (pc2 := 24) d_Re_byteAt_23 rfl rfl ?_
  refine zx_irem (pc2 := 25) d_Re_byteAt_24 rfl (hne) ?_
  refine zx_imul (pc2 := 26) d_Re_byteAt_25 rfl ?_
  refine zx_lushr (pc2 := 27) d_Re_byteAt_26 rfl ?_
  refine zx_ldc2 (pc2 := 30) (v := (255 : Int64)) d_Re_byteAt_27 rfl zn_w450 ?_
  refine zx_land (pc2 := 31) d_Re_byteAt_30 rfl ?_
  refine zx_l2i (pc2 := 32) d_Re_byteAt_31 rfl ?_
  rw [e3]
  exact zx_iret d_Re_byteAt_32 rfl (⟨rfl, rfl, rfl⟩)
end C33
