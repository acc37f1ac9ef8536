/-! Field: times, overSum -/
def ff_pw (x : Int64) : Int64 := ((x &&& (9187201950435737471 : Int64)) <<< ((nI 1).toInt64 &&& 63)) ^^^ (((x.toUInt64 >>> ((nI 7).toInt64.toUInt64 &&& Int64.toUInt64 63)).toInt64 &&& (72340172838076673 : Int64)) * (27 : Int64))
def ff_bit (f : Int32) (i : Nat) : Int32 := (f.toUInt32 >>> ((nI i).toUInt32 &&& Int32.toUInt32 31)).toInt32 &&& nI 1
def ff_st (f : Int32) : Nat → Int64 → Int64 × Int64
  | 0, x => (0, x)
  | i + 1, x => (if ff_bit f i = nI 1 then (ff_st f i x).1 ^^^ (ff_st f i x).2 else (ff_st f i x).1, ff_pw (ff_st f i x).2)
def ff_times (x : Int64) (f : Int32) : Int64 := (ff_st f 8 x).1
def ff_inv : Nat → Int32 := fun k => ([0, 1, 141, 246, 203, 82, 123, 209] : List Int32).getD k 0
def zs_I (b t : Nat) (U : State) : Prop := va_Z "LogHouse$Field" "INVERSES" "[I" (.ref t) (fun q => b ≤ q) U U.heap ∧ va_T .int t 8 (fun x => .int (ff_inv x)) (fun q => b ≤ q) U U.heap
def ff_over (x : Int64) (a c : Nat) : Int64 := ff_times x (ff_inv ((a ^^^ c) % 8))
section C32
variable {l : Launch} {D : va_G} {ar : Nat → ClassId} {b : Nat} {Z : State → Prop} {M : zm_M} {n : Nat}
theorem c_Fi_times {x : Int64} {f : Int32} : zK l D ar b Z y_Fi_times 0 [.long x, .int f] M n (some (.long (ff_times x f))) M := by
  refine zk_entry (L := [some (.long x), none, some (.int f), none, none, none, none, none]) rfl rfl (Nat.le_of_ble_eq_true rfl) rfl rfl ?_
  refine zx_lconst (pc2 := 1) (v := 0) d_Fi_times_0 rfl rfl ?_
  refine zx_lst3 (pc2 := 2) d_Fi_times_1 rfl rfl (by decide) ?_
  refine zx_lload_n (pc2 := 3) d_Fi_times_2 rfl rfl ?_
  refine zx_lst5 (pc2 := 5) d_Fi_times_3 rfl rfl (by decide) ?_
  refine zx_iconst (pc2 := 6) (v := nI 0) d_Fi_times_5 rfl (by decide) ?_
  refine zx_ist7 (pc2 := 8) d_Fi_times_6 rfl rfl (by decide) ?_
  refine zx_for (X := fun i => zk_X l D ar b Z y_Fi_times 0 (some (.long (ff_times x f))) M n 8 [some (.long x), none, some (.int f), some (.long (ff_st f i x).1), none, some (.long (ff_st f i x).2), none, some (.int (nI i))] [] M) 8 ?_ ?_ 0 (by decide)
  · refine zx_iload (pc2 := 10) d_Fi_times_8 rfl rfl ?_
    refine zx_bipush (pc2 := 12) (v := nI 8) d_Fi_times_10 rfl (by decide) ?_
    refine zx_icmp_ge (pc2 := 15) d_Fi_times_12 rfl (tgt := 60) (by decide) (fun _ => ?_) (fun cz => absurd (nI_le (Nat.le_refl 8) (by decide)) cz)
    refine zx_lload_n (pc2 := 61) d_Fi_times_60 rfl rfl ?_
    exact zx_lret d_Fi_times_61 rfl (⟨rfl, rfl, rfl⟩)
  · intro i hi ih
    refine zx_iload (pc2 := 10) d_Fi_times_8 rfl rfl ?_
    refine zx_bipush (pc2 := 12) (v := nI 8) d_Fi_times_10 rfl (by decide) ?_
    refine zx_icmp_ge (pc2 := 15) d_Fi_times_12 rfl (tgt := 60) (by decide) (fun cz => absurd cz (nI_ge hi (by decide))) (fun _ => ?_)
    refine zx_iload_n (pc2 := 16) d_Fi_times_15 rfl rfl ?_
    refine zx_iload (pc2 := 18) d_Fi_times_16 rfl rfl ?_
    refine zx_iushr (pc2 := 19) d_Fi_times_18 rfl ?_
    refine zx_iconst (pc2 := 20) (v := nI 1) d_Fi_times_19 rfl (by decide) ?_
    refine zx_iand (pc2 := 21) d_Fi_times_20 rfl ?_
    refine zx_iconst (pc2 := 22) (v := nI 1) d_Fi_times_21 rfl (by decide) ?_
    refine zx_icmp_ne (pc2 := 25) d_Fi_times_22 rfl (tgt := 30) (by decide) (fun c => ?_) (fun c => ?_)
    · have e : (ff_st f (i + 1) x).1 = (ff_st f i x).1 := if_neg c
      rw [e] at ih
      refine zx_lload (pc2 := 32) d_Fi_times_30 rfl rfl ?_
      refine zx_ldc2 (pc2 := 35) (v := (9187201950435737471 : Int64)) d_Fi_times_32 rfl zn_w473 ?_
      refine zx_land (pc2 := 36) d_Fi_times_35 rfl ?_
      refine zx_iconst (pc2 := 37) (v := nI 1) d_Fi_times_36 rfl (by decide) ?_
      refine zx_lshl (pc2 := 38) d_Fi_times_37 rfl ?_
      refine zx_lload (pc2 := 40) d_Fi_times_38 rfl rfl ?_
      refine zx_bipush (pc2 := 42) (v := nI 7) d_Fi_times_40 rfl (by decide) ?_
      refine zx_lushr (pc2 := 43) d_Fi_times_42 rfl ?_
      refine zx_ldc2 (pc2 := 46) (v := (72340172838076673 : Int64)) d_Fi_times_43 rfl zn_w474 ?_
      refine zx_land (pc2 := 47) d_Fi_times_46 rfl ?_
      refine zx_ldc2 (pc2 := 50) (v := (27 : Int64)) d_Fi_times_47 rfl zn_w475 ?_
      refine zx_lmul (pc2 := 51) d_Fi_times_50 rfl ?_
      refine zx_lxor (pc2 := 52) d_Fi_times_51 rfl ?_
      refine zx_lst5 (pc2 := 54) d_Fi_times_52 rfl rfl (by decide) ?_
      refine zx_inc7 (pc2 := 57) d_Fi_times_54 rfl (zk_1 _) rfl (by decide) ?_
      refine zx_goto (tgt := 8) d_Fi_times_57 (by decide) ?_
      exact ih
    · have e : (ff_st f (i + 1) x).1 = (ff_st f i x).1 ^^^ (ff_st f i x).2 := if_pos c
      rw [e] at ih
      refine zx_lload_n (pc2 := 26) d_Fi_times_25 rfl rfl ?_
      refine zx_lload (pc2 := 28) d_Fi_times_26 rfl rfl ?_
      refine zx_lxor (pc2 := 29) d_Fi_times_28 rfl ?_
      refine zx_lst3 (pc2 := 30) d_Fi_times_29 rfl rfl (by decide) ?_
      refine zx_lload (pc2 := 32) d_Fi_times_30 rfl rfl ?_
      refine zx_ldc2 (pc2 := 35) (v := (9187201950435737471 : Int64)) d_Fi_times_32 rfl zn_w473 ?_
      refine zx_land (pc2 := 36) d_Fi_times_35 rfl ?_
      refine zx_iconst (pc2 := 37) (v := nI 1) d_Fi_times_36 rfl (by decide) ?_
      refine zx_lshl (pc2 := 38) d_Fi_times_37 rfl ?_
      refine zx_lload (pc2 := 40) d_Fi_times_38 rfl rfl ?_
      refine zx_bipush (pc2 := 42) (v := nI 7) d_Fi_times_40 rfl (by decide) ?_
      refine zx_lushr (pc2 := 43) d_Fi_times_42 rfl ?_
      refine zx_ldc2 (pc2 := 46) (v := (72340172838076673 : Int64)) d_Fi_times_43 rfl zn_w474 ?_
      refine zx_land (pc2 := 47) d_Fi_times_46 rfl ?_
      refine zx_ldc2 (pc2 := 50) (v := (27 : Int64)) d_Fi_times_47 rfl zn_w475 ?_
      refine zx_lmul (pc2 := 51) d_Fi_times_50 rfl ?_
      refine zx_lxor (pc2 := 52) d_Fi_times_51 rfl ?_
      refine zx_lst5 (pc2 := 54) d_Fi_times_52 rfl rfl (by decide) ?_
      refine zx_inc7 (pc2 := 57) d_Fi_times_54 rfl (zk_1 _) rfl (by decide) ?_
      refine zx_goto (tgt := 8) d_Fi_times_57 (by decide) ?_
      exact ih
theorem c_Fi_overSum {x : Int64} {t a c : Nat} (hI : ∀ U, Z U → zs_I b t U) (ha : a < 8) (hc : c < 8) : zK l D ar b Z y_Fi_overSum 1 [.long x, .int (nI a), .int (nI c)] M n (some (.long (ff_over x a c))) M := by
  refine zk_entry (L := [some (.long x), none, some (.int (nI a)), some (.int (nI c))]) rfl rfl (Nat.le_of_ble_eq_true rfl) rfl rfl ?_
  refine zx_lload_n (pc2 := 1) d_Fi_overSum_0 rfl rfl ?_
  refine zx_gets (pc2 := 4) (v := .ref t) d_Fi_overSum_1 rfl (fun U h => (hI U h.2).1) zn_w598 ?_
  refine zx_iload_n (pc2 := 5) d_Fi_overSum_4 rfl rfl ?_
  refine zx_iload_n (pc2 := 6) d_Fi_overSum_5 rfl rfl ?_
  refine zx_ixor (pc2 := 7) d_Fi_overSum_6 rfl ?_
  refine zx_bipush (pc2 := 9) (v := nI 7) d_Fi_overSum_7 rfl (by decide) ?_
  refine zx_iand (pc2 := 10) d_Fi_overSum_9 rfl ?_
  refine zx_tald (pc2 := 11) (q := (a ^^^ c) % 8) (f := ff_inv) d_Fi_overSum_10 rfl (fun U h => (hI U h.2).2) ?_ (Nat.mod_lt _ (by decide)) (by decide) ?_
  · have h1 : ∀ a, a < 8 → ∀ c, c < 8 → (nI a ^^^ nI c) &&& nI 7 = nI ((a ^^^ c) % 8) := by decide +kernel
    exact h1 a ha c hc
  refine zk_callS (pc2 := 14) s_Fi_19 t_Fi_times (c_Fi_times) d_Fi_overSum_11 rfl rfl rfl (Nat.le_of_ble_eq_true rfl) (by decide) (by decide) ?_
  exact zx_lret d_Fi_overSum_14 rfl (⟨rfl, rfl, rfl⟩)
end C32
