/-! Shelf (countBytes, shareByte), Spot, Gathering, Letter, Station -/
def fs_count (M : zm_M) (r : Nat) : Nat → Int32
  | 0 => nI 0
  | i + 1 => fs_count M r i + ff_third (zm_I M (r + 3) i)
def fs_shb (M : zm_M) (r pl i : Nat) : Int32 := (((zm_J M (r + 4) pl).toUInt64 >>> ((nI 8 * nI i).toInt64.toUInt64 &&& Int64.toUInt64 63)).toInt64 &&& (255 : Int64)).toInt32
def fm_prop (M : zm_M) (r : Nat) (id : Int32) : zm_M := zm_wI (zm_wI M r 1 id) r 2 (nI 0)
def fm_ans (M : zm_M) (r s : Nat) : zm_M := zm_wI M r 2 (zm_I M r 2 ||| (nI 1 <<< (nI s &&& 31)))
def fm_dec (M : zm_M) (r : Nat) : zm_M := fm_prop (zm_wI M r 0 (zm_I M r 1)) r (nI 0)
def fm_hear (M : zm_M) (r s : Nat) (id : Int32) : zm_M := if zm_I M r 1 = 0 then M else if id = zm_I M r 1 then (if ff_bc (zm_I (fm_ans M r s) r 2) < nI 5 then fm_ans M r s else fm_dec (fm_ans M r s) r) else M
def fm_gst (M : zm_M) (id : Int32) : zm_M := zm_wI (zm_wI (zm_wI M 539 0 id) 539 1 (nI 0)) 539 2 (nI 0)
def fm_ga1 (M : zm_M) (c s r pl : Nat) : zm_M := zm_wI (zm_wI M 539 1 (zm_I M (r + 3) pl)) 540 c (nI s + nI 1)
def fm_ga2 (M : zm_M) (c r pl : Nat) : zm_M := zm_wI (zm_wJ M 541 c (zm_J M (r + 4) pl)) 539 2 (nI (c + 1))
def fm_gadd (M : zm_M) (c s r pl : Nat) : zm_M := if c < 3 ∧ zm_I M (r + 2) pl ≠ 0 ∧ zm_I M (r + 2) pl = zm_I M 539 0 then fm_ga2 (fm_ga1 M c s r pl) c r pl else M
def fm_tog (rr : Nat) (pt : Nat → Nat) (k : Nat) (M : zm_M) : zm_M := fm_addShare M rr (zm_J M 541 k) (pt k) (pt ((k + 1) % 3)) (pt ((k + 2) % 3))
def fm_together (M : zm_M) (rr : Nat) (pt : Nat → Nat) : zm_M := zm_it (fm_tog rr pt) 3 (fm_clearP (zm_wI M rr 0 (zm_I M 539 1)) rr)
def fm_addr (M : zm_M) (r : Nat) (k s p ba : Int32) : zm_M := zm_wI (zm_wI (zm_wI (zm_wI (zm_wI (zm_wI M r 0 k) r 1 s) r 2 p) r 3 ba) r 4 (-1)) r 5 (-1)
def fm_about (M : zm_M) (r : Nat) (pl id : Int32) : zm_M := zm_wI (zm_wI M r 4 pl) r 5 id
def fm_cpL1 (M : zm_M) (r q : Nat) : zm_M := fm_addr M r (zm_I M q 0) (zm_I M q 1) (zm_I M q 2) (zm_I M q 3)
def fm_cpL2 (M : zm_M) (r q : Nat) : zm_M := fm_about M r (zm_I M q 4) (zm_I M q 5)
def fm_cpL3 (M : zm_M) (r q : Nat) : zm_M := zm_wI M r 6 (zm_I M q 6)
def fm_cpL4 (M : zm_M) (r q : Nat) : zm_M := zm_wJ M r 7 (zm_J M q 7)
def fm_copyL (M : zm_M) (r q : Nat) : zm_M := fm_copySh (fm_cpL4 (fm_cpL3 (fm_cpL2 (fm_cpL1 M r q) r q) r q) r q) (r + 1) (q + 1)
def fs_heeds (M : zm_M) (r : Nat) (ba : Int32) : Int32 := if zm_I M r 1 = 0 then nI 0 else if zm_I M r 2 = 0 then (if ba < zm_I M r 0 then nI 0 else nI 1) else nI 0
def fm_lose (M : zm_M) (r : Nat) : zm_M := zm_wI (fm_clear (zm_wI M r 0 (nI 0)) (r + 1)) r 2 (nI 1)
theorem fm_clearP_I (M : zm_M) (r : Nat) : zm_I (fm_clearP M r) = zm_I M := rfl
theorem fm_tog_I {rr : Nat} {pt : Nat → Nat} : ∀ (i : Nat) (M : zm_M), zm_I (zm_it (fm_tog rr pt) i M) = zm_I M
  | 0, _ => rfl
  | i + 1, M => by
    show zm_I (fm_tog rr pt i (zm_it (fm_tog rr pt) i M)) = _
    exact fm_tog_I i M
theorem zk_r31 : ∀ i, i < 3 → nI i + nI 1 - (nI i + nI 1) / nI 3 * nI 3 = nI ((i + 1) % 3) := by decide +kernel
theorem zk_r32 : ∀ i, i < 3 → nI i + nI 2 - (nI i + nI 2) / nI 3 * nI 3 = nI ((i + 2) % 3) := by decide +kernel
section C34
variable {l : Launch} {D : va_G} {ar : Nat → ClassId} {b : Nat} {Z : State → Prop} {M : zm_M} {n : Nat}
theorem c_Sh_has1 {r pl : Nat} (hr : zl_Sh r) (hp : pl < 8) (hc : zm_I M (r + 2) pl ≠ 0) : zK l D ar b Z y_Sh_has 0 [.ref (b + r), .int (nI pl)] M n (some (.int (nI 1))) M := by
  have h := c_Sh_has (l := l) (D := D) (ar := ar) (b := b) (Z := Z) (M := M) (n := n) hr hp
  rwa [if_neg hc] at h
theorem c_Sh_has0 {r pl : Nat} (hr : zl_Sh r) (hp : pl < 8) (hc : zm_I M (r + 2) pl = 0) : zK l D ar b Z y_Sh_has 0 [.ref (b + r), .int (nI pl)] M n (some (.int (nI 0))) M := by
  have h := c_Sh_has (l := l) (D := D) (ar := ar) (b := b) (Z := Z) (M := M) (n := n) hr hp
  rwa [if_pos hc] at h
theorem c_Sh_countBytes {r : Nat} (hr : zl_Sh r) : zK l D ar b Z y_Sh_countBytes 1 [.ref (b + r)] M n (some (.int (fs_count M r 8))) M := by
  refine zk_entry (L := [some (.ref (b + r)), none, none]) rfl rfl (Nat.le_of_ble_eq_true rfl) rfl rfl ?_
  refine zx_iconst (pc2 := 1) (v := nI 0) d_Sh_countBytes_0 rfl (by decide) ?_
  refine zx_ist1 (pc2 := 2) d_Sh_countBytes_1 rfl rfl (by decide) ?_
  refine zx_iconst (pc2 := 3) (v := nI 0) d_Sh_countBytes_2 rfl (by decide) ?_
  refine zx_ist2 (pc2 := 4) d_Sh_countBytes_3 rfl rfl (by decide) ?_
  refine zx_for (X := fun i => zk_X l D ar b Z y_Sh_countBytes 1 (some (.int (fs_count M r 8))) M n 4 [some (.ref (b + r)), some (.int (fs_count M r i)), some (.int (nI i))] [] M) 8 ?_ ?_ 0 (by decide)
  · refine zx_iload_n (pc2 := 5) d_Sh_countBytes_4 rfl rfl ?_
    refine zx_bipush (pc2 := 7) (v := nI 8) d_Sh_countBytes_5 rfl (by decide) ?_
    refine zx_icmp_ge (pc2 := 10) d_Sh_countBytes_7 rfl (tgt := 28) (by decide) (fun _ => ?_) (fun cz => absurd (nI_le (Nat.le_refl 8) (by decide)) cz)
    refine zx_iload_n (pc2 := 29) d_Sh_countBytes_28 rfl rfl ?_
    exact zx_iret d_Sh_countBytes_29 rfl (⟨rfl, rfl, rfl⟩)
  · intro i hi ih
    refine zx_iload_n (pc2 := 5) d_Sh_countBytes_4 rfl rfl ?_
    refine zx_bipush (pc2 := 7) (v := nI 8) d_Sh_countBytes_5 rfl (by decide) ?_
    refine zx_icmp_ge (pc2 := 10) d_Sh_countBytes_7 rfl (tgt := 28) (by decide) (fun cz => absurd cz (nI_ge hi (by decide))) (fun _ => ?_)
    refine zx_iload_n (pc2 := 11) d_Sh_countBytes_10 rfl rfl ?_
    refine zx_aload_n (pc2 := 12) d_Sh_countBytes_11 rfl rfl ?_
    refine zm_getR (pc2 := 15) f_Sh_18 d_Sh_countBytes_12 rfl (hr.1) rfl ?_
    refine zx_iload_n (pc2 := 16) d_Sh_countBytes_15 rfl rfl ?_
    refine zk_iald (pc2 := 17) d_Sh_countBytes_16 rfl (hr.2.2.2.1) (rfl) (hi) (by decide) ?_
    refine zk_callS (pc2 := 20) s_Sh_29 t_Re_third (c_Re_third) d_Sh_countBytes_17 rfl rfl rfl (Nat.le_of_ble_eq_true rfl) (by decide) (by decide) ?_
    refine zx_iadd (pc2 := 21) d_Sh_countBytes_20 rfl ?_
    refine zx_ist1 (pc2 := 22) d_Sh_countBytes_21 rfl rfl (by decide) ?_
    refine zx_inc2 (pc2 := 25) d_Sh_countBytes_22 rfl (zk_1 _) rfl (by decide) ?_
    refine zx_goto (tgt := 4) d_Sh_countBytes_25 (by decide) ?_
    exact ih
theorem c_Sh_shareByte {r pl : Nat} {i : Int32} (hr : zl_Sh r) (hp : pl < 8) : zK l D ar b Z y_Sh_shareByte 1 [.ref (b + r), .int (nI pl), .int i] M n (some (.int (if i < ff_third (zm_I M (r + 3) pl) then (((zm_J M (r + 4) pl).toUInt64 >>> ((nI 8 * i).toInt64.toUInt64 &&& Int64.toUInt64 63)).toInt64 &&& (255 : Int64)).toInt32 else -1))) M := by
  refine zk_entry (L := [some (.ref (b + r)), some (.int (nI pl)), some (.int i)]) rfl rfl (Nat.le_of_ble_eq_true rfl) rfl rfl ?_
  refine zx_iload_n (pc2 := 1) d_Sh_shareByte_0 rfl rfl ?_
  refine zx_aload_n (pc2 := 2) d_Sh_shareByte_1 rfl rfl ?_
  refine zm_getR (pc2 := 5) f_Sh_18 d_Sh_shareByte_2 rfl (hr.1) rfl ?_
  refine zx_iload_n (pc2 := 6) d_Sh_shareByte_5 rfl rfl ?_
  refine zk_iald (pc2 := 7) d_Sh_shareByte_6 rfl (hr.2.2.2.1) (rfl) (hp) (by decide) ?_
  refine zk_callS (pc2 := 10) s_Sh_29 t_Re_third (c_Re_third) d_Sh_shareByte_7 rfl rfl rfl (Nat.le_of_ble_eq_true rfl) (by decide) (by decide) ?_
  refine zx_icmp_lt (pc2 := 13) d_Sh_shareByte_10 rfl (tgt := 15) (by decide) (fun c => ?_) (fun c => ?_)
  · rw [if_pos c]
    refine zx_aload_n (pc2 := 16) d_Sh_shareByte_15 rfl rfl ?_
    refine zm_getR (pc2 := 19) f_Sh_21 d_Sh_shareByte_16 rfl (hr.1) rfl ?_
    refine zx_iload_n (pc2 := 20) d_Sh_shareByte_19 rfl rfl ?_
    refine zk_lald (pc2 := 21) d_Sh_shareByte_20 rfl (hr.2.2.2.2) (rfl) (hp) (by decide) ?_
    refine zx_bipush (pc2 := 23) (v := nI 8) d_Sh_shareByte_21 rfl (by decide) ?_
    refine zx_iload_n (pc2 := 24) d_Sh_shareByte_23 rfl rfl ?_
    refine zx_imul (pc2 := 25) d_Sh_shareByte_24 rfl ?_
    refine zx_lushr (pc2 := 26) d_Sh_shareByte_25 rfl ?_
    refine zx_ldc2 (pc2 := 29) (v := (255 : Int64)) d_Sh_shareByte_26 rfl zn_w760 ?_
    refine zx_land (pc2 := 30) d_Sh_shareByte_29 rfl ?_
    refine zx_l2i (pc2 := 31) d_Sh_shareByte_30 rfl ?_
    exact zx_iret d_Sh_shareByte_31 rfl (⟨rfl, rfl, rfl⟩)
  · rw [if_neg c]
    refine zx_iconst (pc2 := 14) (v := -1) d_Sh_shareByte_13 rfl (by decide) ?_
    exact zx_iret d_Sh_shareByte_14 rfl (⟨rfl, rfl, rfl⟩)
theorem c_Sp_proposeAs {r : Nat} {id : Int32} (hr : zl_Sp r) : zK l D ar b Z y_Sp_proposeAs 0 [.ref (b + r), .int id] M n none (fm_prop M r id) := by
  refine zk_entry (L := [some (.ref (b + r)), some (.int id)]) rfl rfl (Nat.le_of_ble_eq_true rfl) rfl rfl ?_
  refine zx_aload_n (pc2 := 1) d_Sp_proposeAs_0 rfl rfl ?_
  refine zx_iload_n (pc2 := 2) d_Sp_proposeAs_1 rfl rfl ?_
  refine zm_putI (pc2 := 5) p_Sp_22 d_Sp_proposeAs_2 rfl (hr.1) rfl rfl rfl ?_
  refine zx_aload_n (pc2 := 6) d_Sp_proposeAs_5 rfl rfl ?_
  refine zx_iconst (pc2 := 7) (v := nI 0) d_Sp_proposeAs_6 rfl (by decide) ?_
  refine zm_putI (pc2 := 10) p_Sp_25 d_Sp_proposeAs_7 rfl (hr.1) rfl rfl rfl ?_
  exact zx_vret d_Sp_proposeAs_10 rfl (⟨rfl, rfl, rfl⟩)
theorem c_Sp_forget {r : Nat} (hr : zl_Sp r) : zK l D ar b Z y_Sp_forget 1 [.ref (b + r)] M n none (fm_prop M r (nI 0)) := by
  refine zk_entry (L := [some (.ref (b + r))]) rfl rfl (Nat.le_of_ble_eq_true rfl) rfl rfl ?_
  refine zx_aload_n (pc2 := 1) d_Sp_forget_0 rfl rfl ?_
  refine zx_iconst (pc2 := 2) (v := nI 0) d_Sp_forget_1 rfl (by decide) ?_
  refine zk_callVv (pc2 := 5) s_Sp_28 v_Sp_proposeAs (hr.1) (c_Sp_proposeAs hr) d_Sp_forget_2 rfl rfl rfl (Nat.le_of_ble_eq_true rfl) (by decide) (by decide) ?_
  exact zx_vret d_Sp_forget_5 rfl (⟨rfl, rfl, rfl⟩)
theorem c_Sp_isOpen {r : Nat} (hr : zl_Sp r) : zK l D ar b Z y_Sp_isOpen 0 [.ref (b + r)] M n (some (.int (if zm_I M r 0 = 0 ∧ zm_I M r 1 = 0 then nI 1 else nI 0))) M := by
  refine zk_entry (L := [some (.ref (b + r))]) rfl rfl (Nat.le_of_ble_eq_true rfl) rfl rfl ?_
  refine zx_aload_n (pc2 := 1) d_Sp_isOpen_0 rfl rfl ?_
  refine zm_getI (pc2 := 4) f_Sp_18 d_Sp_isOpen_1 rfl (hr.1) rfl ?_
  refine zx_if_ne (pc2 := 7) d_Sp_isOpen_4 rfl (tgt := 18) (by decide) (fun c => ?_) (fun c => ?_)
  · rw [if_neg (fun z => c z.1)]
    refine zx_iconst (pc2 := 19) (v := nI 0) d_Sp_isOpen_18 rfl (by decide) ?_
    exact zx_zret d_Sp_isOpen_19 rfl rfl (⟨rfl, rfl, rfl⟩)
  · refine zx_aload_n (pc2 := 8) d_Sp_isOpen_7 rfl rfl ?_
    refine zm_getI (pc2 := 11) f_Sp_22 d_Sp_isOpen_8 rfl (hr.1) rfl ?_
    refine zx_if_ne (pc2 := 14) d_Sp_isOpen_11 rfl (tgt := 18) (by decide) (fun c2 => ?_) (fun c2 => ?_)
    · rw [if_neg (fun z => c2 z.2)]
      refine zx_iconst (pc2 := 19) (v := nI 0) d_Sp_isOpen_18 rfl (by decide) ?_
      exact zx_zret d_Sp_isOpen_19 rfl rfl (⟨rfl, rfl, rfl⟩)
    · rw [if_pos ⟨c, c2⟩]
      refine zx_iconst (pc2 := 15) (v := nI 1) d_Sp_isOpen_14 rfl (by decide) ?_
      refine zx_goto (tgt := 19) d_Sp_isOpen_15 (by decide) ?_
      exact zx_zret d_Sp_isOpen_19 rfl rfl (⟨rfl, rfl, rfl⟩)
theorem c_Sp_isWaiting {r : Nat} (hr : zl_Sp r) : zK l D ar b Z y_Sp_isWaiting 0 [.ref (b + r)] M n (some (.int (if zm_I M r 1 = 0 then nI 0 else nI 1))) M := by
  refine zk_entry (L := [some (.ref (b + r))]) rfl rfl (Nat.le_of_ble_eq_true rfl) rfl rfl ?_
  refine zx_aload_n (pc2 := 1) d_Sp_isWaiting_0 rfl rfl ?_
  refine zm_getI (pc2 := 4) f_Sp_22 d_Sp_isWaiting_1 rfl (hr.1) rfl ?_
  refine zx_if_eq (pc2 := 7) d_Sp_isWaiting_4 rfl (tgt := 11) (by decide) (fun c => ?_) (fun c => ?_)
  · rw [if_pos c]
    refine zx_iconst (pc2 := 12) (v := nI 0) d_Sp_isWaiting_11 rfl (by decide) ?_
    exact zx_zret d_Sp_isWaiting_12 rfl rfl (⟨rfl, rfl, rfl⟩)
  · rw [if_neg c]
    refine zx_iconst (pc2 := 8) (v := nI 1) d_Sp_isWaiting_7 rfl (by decide) ?_
    refine zx_goto (tgt := 12) d_Sp_isWaiting_8 (by decide) ?_
    exact zx_zret d_Sp_isWaiting_12 rfl rfl (⟨rfl, rfl, rfl⟩)
theorem c_Sp_hasAnswerOf {r s : Nat} (hr : zl_Sp r) : zK l D ar b Z y_Sp_hasAnswerOf 0 [.ref (b + r), .int (nI s)] M n (some (.int (if ff_bit (zm_I M r 2) s = nI 1 then nI 1 else nI 0))) M := by
  refine zk_entry (L := [some (.ref (b + r)), some (.int (nI s))]) rfl rfl (Nat.le_of_ble_eq_true rfl) rfl rfl ?_
  refine zx_aload_n (pc2 := 1) d_Sp_hasAnswerOf_0 rfl rfl ?_
  refine zm_getI (pc2 := 4) f_Sp_25 d_Sp_hasAnswerOf_1 rfl (hr.1) rfl ?_
  refine zx_iload_n (pc2 := 5) d_Sp_hasAnswerOf_4 rfl rfl ?_
  refine zx_iushr (pc2 := 6) d_Sp_hasAnswerOf_5 rfl ?_
  refine zx_iconst (pc2 := 7) (v := nI 1) d_Sp_hasAnswerOf_6 rfl (by decide) ?_
  refine zx_iand (pc2 := 8) d_Sp_hasAnswerOf_7 rfl ?_
  refine zx_iconst (pc2 := 9) (v := nI 1) d_Sp_hasAnswerOf_8 rfl (by decide) ?_
  refine zx_icmp_ne (pc2 := 12) d_Sp_hasAnswerOf_9 rfl (tgt := 16) (by decide) (fun c => ?_) (fun c => ?_)
  · rw [if_neg (show ¬ ff_bit (zm_I M r 2) s = nI 1 from c)]
    refine zx_iconst (pc2 := 17) (v := nI 0) d_Sp_hasAnswerOf_16 rfl (by decide) ?_
    exact zx_zret d_Sp_hasAnswerOf_17 rfl rfl (⟨rfl, rfl, rfl⟩)
  · rw [if_pos (show ff_bit (zm_I M r 2) s = nI 1 from c)]
    refine zx_iconst (pc2 := 13) (v := nI 1) d_Sp_hasAnswerOf_12 rfl (by decide) ?_
    refine zx_goto (tgt := 17) d_Sp_hasAnswerOf_13 (by decide) ?_
    exact zx_zret d_Sp_hasAnswerOf_17 rfl rfl (⟨rfl, rfl, rfl⟩)
theorem c_Sp_hearAnswer {r s : Nat} {id : Int32} (hr : zl_Sp r) : zK l D ar b Z y_Sp_hearAnswer 2 [.ref (b + r), .int (nI s), .int id] M n none (fm_hear M r s id) := by
  refine zk_entry (L := [some (.ref (b + r)), some (.int (nI s)), some (.int id)]) rfl rfl (Nat.le_of_ble_eq_true rfl) rfl rfl ?_
  refine zx_aload_n (pc2 := 1) d_Sp_hearAnswer_0 rfl rfl ?_
  refine zk_callV (pc2 := 4) s_Sp_32 v_Sp_isWaiting (hr.1) (c_Sp_isWaiting hr) d_Sp_hearAnswer_1 rfl rfl rfl (Nat.le_of_ble_eq_true rfl) (by decide) (by decide) ?_
  unfold fm_hear
  by_cases c : zm_I M r 1 = 0
  · rw [if_pos c, if_pos c]
    refine zx_if_eq (pc2 := 7) d_Sp_hearAnswer_4 rfl (tgt := 15) (by decide) (fun _ => ?_) (fun cz => absurd (by decide) cz)
    exact zx_vret d_Sp_hearAnswer_15 rfl (⟨rfl, rfl, rfl⟩)
  · rw [if_neg c, if_neg c]
    refine zx_if_eq (pc2 := 7) d_Sp_hearAnswer_4 rfl (tgt := 15) (by decide) (fun cz => absurd cz (by decide)) (fun _ => ?_)
    refine zx_iload_n (pc2 := 8) d_Sp_hearAnswer_7 rfl rfl ?_
    refine zx_aload_n (pc2 := 9) d_Sp_hearAnswer_8 rfl rfl ?_
    refine zm_getI (pc2 := 12) f_Sp_22 d_Sp_hearAnswer_9 rfl (hr.1) rfl ?_
    refine zx_icmp_eq (pc2 := 15) d_Sp_hearAnswer_12 rfl (tgt := 16) (by decide) (fun c2 => ?_) (fun c2 => ?_)
    · rw [if_pos c2]
      refine zx_aload_n (pc2 := 17) d_Sp_hearAnswer_16 rfl rfl ?_
      refine zx_dup (pc2 := 18) d_Sp_hearAnswer_17 rfl rfl ?_
      refine zm_getI (pc2 := 21) f_Sp_25 d_Sp_hearAnswer_18 rfl (hr.1) rfl ?_
      refine zx_iconst (pc2 := 22) (v := nI 1) d_Sp_hearAnswer_21 rfl (by decide) ?_
      refine zx_iload_n (pc2 := 23) d_Sp_hearAnswer_22 rfl rfl ?_
      refine zx_ishl (pc2 := 24) d_Sp_hearAnswer_23 rfl ?_
      refine zx_ior (pc2 := 25) d_Sp_hearAnswer_24 rfl ?_
      refine zm_putI (pc2 := 28) p_Sp_25 d_Sp_hearAnswer_25 rfl (hr.1) rfl rfl rfl ?_
      refine zx_aload_n (pc2 := 29) d_Sp_hearAnswer_28 rfl rfl ?_
      refine zm_getI (pc2 := 32) f_Sp_25 d_Sp_hearAnswer_29 rfl (hr.1) rfl ?_
      refine zk_callS (pc2 := 35) s_Sp_36 t_In_bitCount (c_In_bitCount) d_Sp_hearAnswer_32 rfl rfl rfl (Nat.le_of_ble_eq_true rfl) (by decide) (by decide) ?_
      refine zx_iconst (pc2 := 36) (v := nI 5) d_Sp_hearAnswer_35 rfl (by decide) ?_
      refine zx_icmp_lt (pc2 := 39) d_Sp_hearAnswer_36 rfl (tgt := 51) (by decide) (fun c3 => ?_) (fun c3 => ?_)
      · rw [if_pos (show ff_bc (zm_I (fm_ans M r s) r 2) < nI 5 from c3)]
        exact zx_vret d_Sp_hearAnswer_51 rfl (⟨rfl, rfl, rfl⟩)
      · rw [if_neg (show ¬ ff_bc (zm_I (fm_ans M r s) r 2) < nI 5 from c3)]
        refine zx_aload_n (pc2 := 40) d_Sp_hearAnswer_39 rfl rfl ?_
        refine zx_aload_n (pc2 := 41) d_Sp_hearAnswer_40 rfl rfl ?_
        refine zm_getI (pc2 := 44) f_Sp_22 d_Sp_hearAnswer_41 rfl (hr.1) rfl ?_
        refine zm_putI (pc2 := 47) p_Sp_18 d_Sp_hearAnswer_44 rfl (hr.1) rfl rfl rfl ?_
        refine zx_aload_n (pc2 := 48) d_Sp_hearAnswer_47 rfl rfl ?_
        refine zk_callVv (pc2 := 51) s_Sp_42 v_Sp_forget (hr.1) (c_Sp_forget hr) d_Sp_hearAnswer_48 rfl rfl rfl (Nat.le_of_ble_eq_true rfl) (by decide) (by decide) ?_
        exact zx_vret d_Sp_hearAnswer_51 rfl (⟨rfl, rfl, rfl⟩)
    · rw [if_neg c2]
      exact zx_vret d_Sp_hearAnswer_15 rfl (⟨rfl, rfl, rfl⟩)
theorem c_Ga_start {id : Int32} : zK l D ar b Z y_Ga_start 0 [.ref (b + 539), .int id] M n none (fm_gst M id) := by
  refine zk_entry (L := [some (.ref (b + 539)), some (.int id)]) rfl rfl (Nat.le_of_ble_eq_true rfl) rfl rfl ?_
  refine zx_aload_n (pc2 := 1) d_Ga_start_0 rfl rfl ?_
  refine zx_iload_n (pc2 := 2) d_Ga_start_1 rfl rfl ?_
  refine zm_putI (pc2 := 5) p_Ga_19 d_Ga_start_2 rfl (zl_c539) rfl rfl rfl ?_
  refine zx_aload_n (pc2 := 6) d_Ga_start_5 rfl rfl ?_
  refine zx_iconst (pc2 := 7) (v := nI 0) d_Ga_start_6 rfl (by decide) ?_
  refine zm_putI (pc2 := 10) p_Ga_23 d_Ga_start_7 rfl (zl_c539) rfl rfl rfl ?_
  refine zx_aload_n (pc2 := 11) d_Ga_start_10 rfl rfl ?_
  refine zx_iconst (pc2 := 12) (v := nI 0) d_Ga_start_11 rfl (by decide) ?_
  refine zm_putI (pc2 := 15) p_Ga_26 d_Ga_start_12 rfl (zl_c539) rfl rfl rfl ?_
  exact zx_vret d_Ga_start_15 rfl (⟨rfl, rfl, rfl⟩)
theorem c_Ga_isEnough : zK l D ar b Z y_Ga_isEnough 0 [.ref (b + 539)] M n (some (.int (if zm_I M 539 2 = nI 3 then nI 1 else nI 0))) M := by
  refine zk_entry (L := [some (.ref (b + 539))]) rfl rfl (Nat.le_of_ble_eq_true rfl) rfl rfl ?_
  refine zx_aload_n (pc2 := 1) d_Ga_isEnough_0 rfl rfl ?_
  refine zm_getI (pc2 := 4) f_Ga_26 d_Ga_isEnough_1 rfl (zl_c539) rfl ?_
  refine zx_iconst (pc2 := 5) (v := nI 3) d_Ga_isEnough_4 rfl (by decide) ?_
  refine zx_icmp_ne (pc2 := 8) d_Ga_isEnough_5 rfl (tgt := 12) (by decide) (fun c => ?_) (fun c => ?_)
  · rw [if_neg c]
    refine zx_iconst (pc2 := 13) (v := nI 0) d_Ga_isEnough_12 rfl (by decide) ?_
    exact zx_zret d_Ga_isEnough_13 rfl rfl (⟨rfl, rfl, rfl⟩)
  · rw [if_pos c]
    refine zx_iconst (pc2 := 9) (v := nI 1) d_Ga_isEnough_8 rfl (by decide) ?_
    refine zx_goto (tgt := 13) d_Ga_isEnough_9 (by decide) ?_
    exact zx_zret d_Ga_isEnough_13 rfl rfl (⟨rfl, rfl, rfl⟩)
theorem c_Ga_addIfOfIt {c s r pl : Nat} (hr : zl_Sh r) (hp : pl < 8) (hc : zm_I M 539 2 = nI c) (hc3 : c ≤ 3) (hr9 : r + 3 ≠ 539 ∧ r + 3 ≠ 540 ∧ r + 2 ≠ 539 ∧ r + 2 ≠ 540) : zK l D ar b Z y_Ga_addIfOfIt 1 [.ref (b + 539), .int (nI s), .ref (b + r), .int (nI pl)] M n none (fm_gadd M c s r pl) := by
  refine zk_entry (L := [some (.ref (b + 539)), some (.int (nI s)), some (.ref (b + r)), some (.int (nI pl))]) rfl rfl (Nat.le_of_ble_eq_true rfl) rfl rfl ?_
  unfold fm_gadd
  refine zx_aload_n (pc2 := 1) d_Ga_addIfOfIt_0 rfl rfl ?_
  refine zm_getI (pc2 := 4) f_Ga_26 d_Ga_addIfOfIt_1 rfl (zl_c539) rfl ?_
  refine zx_iconst (pc2 := 5) (v := nI 3) d_Ga_addIfOfIt_4 rfl (by decide) ?_
  by_cases c0 : c < 3
  · refine zx_icmp_ge (pc2 := 8) d_Ga_addIfOfIt_5 rfl (tgt := 77) (by decide) (fun cz => absurd cz (by rw [hc]; exact nI_ge c0 (by decide))) (fun _ => ?_)
    refine zx_aload_n (pc2 := 9) d_Ga_addIfOfIt_8 rfl rfl ?_
    refine zx_iload_n (pc2 := 10) d_Ga_addIfOfIt_9 rfl rfl ?_
    by_cases c1 : zm_I M (r + 2) pl = 0
    · rw [if_neg (fun z => z.2.1 c1)]
      refine zk_callV (pc2 := 13) s_Ga_29 v_Sh_has (hr.1) (c_Sh_has0 hr hp c1) d_Ga_addIfOfIt_10 rfl rfl rfl (Nat.le_of_ble_eq_true rfl) (by decide) (by decide) ?_
      refine zx_if_eq (pc2 := 16) d_Ga_addIfOfIt_13 rfl (tgt := 77) (by decide) (fun _ => ?_) (fun cz => absurd (by decide) cz)
      exact zx_vret d_Ga_addIfOfIt_77 rfl (⟨rfl, rfl, rfl⟩)
    · refine zk_callV (pc2 := 13) s_Ga_29 v_Sh_has (hr.1) (c_Sh_has1 hr hp c1) d_Ga_addIfOfIt_10 rfl rfl rfl (Nat.le_of_ble_eq_true rfl) (by decide) (by decide) ?_
      refine zx_if_eq (pc2 := 16) d_Ga_addIfOfIt_13 rfl (tgt := 77) (by decide) (fun cz => absurd cz (by decide)) (fun _ => ?_)
      refine zx_aload_n (pc2 := 17) d_Ga_addIfOfIt_16 rfl rfl ?_
      refine zm_getR (pc2 := 20) f_Ga_35 d_Ga_addIfOfIt_17 rfl (hr.1) rfl ?_
      refine zx_iload_n (pc2 := 21) d_Ga_addIfOfIt_20 rfl rfl ?_
      refine zk_iald (pc2 := 22) d_Ga_addIfOfIt_21 rfl (hr.2.2.1) (rfl) (hp) (by decide) ?_
      refine zx_aload_n (pc2 := 23) d_Ga_addIfOfIt_22 rfl rfl ?_
      refine zm_getI (pc2 := 26) f_Ga_19 d_Ga_addIfOfIt_23 rfl (zl_c539) rfl ?_
      refine zx_icmp_ne (pc2 := 29) d_Ga_addIfOfIt_26 rfl (tgt := 77) (by decide) (fun c2 => ?_) (fun c2 => ?_)
      · rw [if_neg (fun z => c2 z.2.2)]
        exact zx_vret d_Ga_addIfOfIt_77 rfl (⟨rfl, rfl, rfl⟩)
      · rw [if_pos ⟨c0, c1, c2⟩]
        refine zx_aload_n (pc2 := 30) d_Ga_addIfOfIt_29 rfl rfl ?_
        refine zx_aload_n (pc2 := 31) d_Ga_addIfOfIt_30 rfl rfl ?_
        refine zm_getR (pc2 := 34) f_Ga_38 d_Ga_addIfOfIt_31 rfl (hr.1) rfl ?_
        refine zx_iload_n (pc2 := 35) d_Ga_addIfOfIt_34 rfl rfl ?_
        refine zk_iald (pc2 := 36) d_Ga_addIfOfIt_35 rfl (hr.2.2.2.1) (rfl) (hp) (by decide) ?_
        refine zm_putI (pc2 := 39) p_Ga_23 d_Ga_addIfOfIt_36 rfl (zl_c539) rfl rfl rfl ?_
        refine zx_aload_n (pc2 := 40) d_Ga_addIfOfIt_39 rfl rfl ?_
        refine zm_getR (pc2 := 43) f_Ga_9 d_Ga_addIfOfIt_40 rfl (zl_c539) rfl ?_
        refine zx_aload_n (pc2 := 44) d_Ga_addIfOfIt_43 rfl rfl ?_
        refine zm_getI (pc2 := 47) f_Ga_26 d_Ga_addIfOfIt_44 rfl (zl_c539) rfl ?_
        refine zx_iload_n (pc2 := 48) d_Ga_addIfOfIt_47 rfl rfl ?_
        refine zk_callS (pc2 := 51) s_Ga_41 t_Re_pointOf (c_Re_pointOf) d_Ga_addIfOfIt_48 rfl rfl rfl (Nat.le_of_ble_eq_true rfl) (by decide) (by decide) ?_
        have e1 : zm_I (zm_wI M 539 1 (zm_I M (r + 3) pl)) 539 2 = nI c := hc
        refine zk_iast (pc2 := 52) d_Ga_addIfOfIt_51 rfl (zl_c540) (e1) (c0) (by decide) ?_
        refine zx_aload_n (pc2 := 53) d_Ga_addIfOfIt_52 rfl rfl ?_
        refine zm_getR (pc2 := 56) f_Ga_15 d_Ga_addIfOfIt_53 rfl (zl_c539) rfl ?_
        refine zx_aload_n (pc2 := 57) d_Ga_addIfOfIt_56 rfl rfl ?_
        refine zm_getI (pc2 := 60) f_Ga_26 d_Ga_addIfOfIt_57 rfl (zl_c539) rfl ?_
        refine zx_aload_n (pc2 := 61) d_Ga_addIfOfIt_60 rfl rfl ?_
        refine zm_getR (pc2 := 64) f_Ga_47 d_Ga_addIfOfIt_61 rfl (hr.1) rfl ?_
        refine zx_iload_n (pc2 := 65) d_Ga_addIfOfIt_64 rfl rfl ?_
        refine zk_lald (pc2 := 66) d_Ga_addIfOfIt_65 rfl (hr.2.2.2.2) (rfl) (hp) (by decide) ?_
        refine zk_last (pc2 := 67) d_Ga_addIfOfIt_66 rfl (zl_c541) (hc) (c0) (by decide) ?_
        refine zx_aload_n (pc2 := 68) d_Ga_addIfOfIt_67 rfl rfl ?_
        refine zx_dup (pc2 := 69) d_Ga_addIfOfIt_68 rfl rfl ?_
        refine zm_getI (pc2 := 72) f_Ga_26 d_Ga_addIfOfIt_69 rfl (zl_c539) rfl ?_
        refine zx_iconst (pc2 := 73) (v := nI 1) d_Ga_addIfOfIt_72 rfl (by decide) ?_
        refine zx_iadd (pc2 := 74) d_Ga_addIfOfIt_73 rfl ?_
        rw [show zm_I (zm_wJ (zm_wI (zm_wI M 539 1 (zm_I M (r + 3) pl)) 540 c (nI s + nI 1)) 541 c (zm_J (zm_wI (zm_wI M 539 1 (zm_I M (r + 3) pl)) 540 c (nI s + nI 1)) (r + 4) pl)) 539 2 + nI 1 = nI (c + 1) from by
          show zm_I M 539 2 + nI 1 = _
          rw [hc, nI_add]]
        refine zm_putI (pc2 := 77) p_Ga_26 d_Ga_addIfOfIt_74 rfl (zl_c539) rfl rfl rfl ?_
        exact zx_vret d_Ga_addIfOfIt_77 rfl (⟨rfl, rfl, rfl⟩)
  · rw [if_neg (fun z => c0 z.1)]
    refine zx_icmp_ge (pc2 := 8) d_Ga_addIfOfIt_5 rfl (tgt := 77) (by decide) (fun _ => ?_) (fun cz => absurd (by rw [hc]; exact nI_le (by omega) (by omega)) cz)
    exact zx_vret d_Ga_addIfOfIt_77 rfl (⟨rfl, rfl, rfl⟩)
theorem c_Ga_putTogether {rr t : Nat} {pt : Nat → Nat} (hI : ∀ U, Z U → zs_I b t U) (hr : zl_Re rr) (hpt : ∀ k, k < 3 → zm_I M 540 k = nI (pt k) ∧ pt k < 8) (hne : rr ≠ 540) : zK l D ar b Z y_Ga_putTogether 3 [.ref (b + 539), .ref (b + rr)] M n none (fm_together M rr pt) := by
  have hp : ∀ i k, k < 3 → zm_I (zm_it (fm_tog rr pt) i (fm_clearP (zm_wI M rr 0 (zm_I M 539 1)) rr)) 540 k = nI (pt k) := by
    intro i k hk
    rw [fm_tog_I]
    show zm_I (zm_wI M rr 0 (zm_I M 539 1)) 540 k = _
    rw [zm_I_w, if_neg (fun z => hne z.1.symm)]
    exact (hpt k hk).1
  refine zk_entry (L := [some (.ref (b + 539)), some (.ref (b + rr)), none]) rfl rfl (Nat.le_of_ble_eq_true rfl) rfl rfl ?_
  refine zx_aload_n (pc2 := 1) d_Ga_putTogether_0 rfl rfl ?_
  refine zx_aload_n (pc2 := 2) d_Ga_putTogether_1 rfl rfl ?_
  refine zm_getI (pc2 := 5) f_Ga_23 d_Ga_putTogether_2 rfl (zl_c539) rfl ?_
  refine zm_putI (pc2 := 8) p_Ga_48 d_Ga_putTogether_5 rfl (hr.1) rfl rfl rfl ?_
  refine zx_aload_n (pc2 := 9) d_Ga_putTogether_8 rfl rfl ?_
  refine zk_callVv (pc2 := 12) s_Ga_49 v_Re_clearPieces (hr.1) (c_Re_clearPieces hr) d_Ga_putTogether_9 rfl rfl rfl (Nat.le_of_ble_eq_true rfl) (by decide) (by decide) ?_
  refine zx_iconst (pc2 := 13) (v := nI 0) d_Ga_putTogether_12 rfl (by decide) ?_
  refine zx_ist2 (pc2 := 14) d_Ga_putTogether_13 rfl rfl (by decide) ?_
  refine zx_for (X := fun i => zk_X l D ar b Z y_Ga_putTogether 3 none (fm_together M rr pt) n 14 [some (.ref (b + 539)), some (.ref (b + rr)), some (.int (nI i))] [] (zm_it (fm_tog rr pt) i (fm_clearP (zm_wI M rr 0 (zm_I M 539 1)) rr))) 3 ?_ ?_ 0 (by decide)
  · refine zx_iload_n (pc2 := 15) d_Ga_putTogether_14 rfl rfl ?_
    refine zx_iconst (pc2 := 16) (v := nI 3) d_Ga_putTogether_15 rfl (by decide) ?_
    refine zx_icmp_ge (pc2 := 19) d_Ga_putTogether_16 rfl (tgt := 61) (by decide) (fun _ => ?_) (fun cz => absurd (nI_le (Nat.le_refl 3) (by decide)) cz)
    exact zx_vret d_Ga_putTogether_61 rfl (⟨rfl, rfl, rfl⟩)
  · intro i hi ih
    have m1 : (i + 1) % 3 < 3 := Nat.mod_lt _ (by decide)
    have m2 : (i + 2) % 3 < 3 := Nat.mod_lt _ (by decide)
    refine zx_iload_n (pc2 := 15) d_Ga_putTogether_14 rfl rfl ?_
    refine zx_iconst (pc2 := 16) (v := nI 3) d_Ga_putTogether_15 rfl (by decide) ?_
    refine zx_icmp_ge (pc2 := 19) d_Ga_putTogether_16 rfl (tgt := 61) (by decide) (fun cz => absurd cz (nI_ge hi (by decide))) (fun _ => ?_)
    refine zx_aload_n (pc2 := 20) d_Ga_putTogether_19 rfl rfl ?_
    refine zx_aload_n (pc2 := 21) d_Ga_putTogether_20 rfl rfl ?_
    refine zm_getR (pc2 := 24) f_Ga_15 d_Ga_putTogether_21 rfl (zl_c539) rfl ?_
    refine zx_iload_n (pc2 := 25) d_Ga_putTogether_24 rfl rfl ?_
    refine zk_lald (pc2 := 26) d_Ga_putTogether_25 rfl (zl_c541) (rfl) (hi) (by decide) ?_
    refine zx_aload_n (pc2 := 27) d_Ga_putTogether_26 rfl rfl ?_
    refine zm_getR (pc2 := 30) f_Ga_9 d_Ga_putTogether_27 rfl (zl_c539) rfl ?_
    refine zx_iload_n (pc2 := 31) d_Ga_putTogether_30 rfl rfl ?_
    refine zk_iald (pc2 := 32) d_Ga_putTogether_31 rfl (zl_c540) (rfl) (hi) (by decide) ?_
    refine zx_aload_n (pc2 := 33) d_Ga_putTogether_32 rfl rfl ?_
    refine zm_getR (pc2 := 36) f_Ga_9 d_Ga_putTogether_33 rfl (zl_c539) rfl ?_
    refine zx_iload_n (pc2 := 37) d_Ga_putTogether_36 rfl rfl ?_
    refine zx_iconst (pc2 := 38) (v := nI 1) d_Ga_putTogether_37 rfl (by decide) ?_
    refine zx_iadd (pc2 := 39) d_Ga_putTogether_38 rfl ?_
    refine zx_iconst (pc2 := 40) (v := nI 3) d_Ga_putTogether_39 rfl (by decide) ?_
    refine zx_irem (pc2 := 41) d_Ga_putTogether_40 rfl (by decide) ?_
    refine zk_iald (pc2 := 42) d_Ga_putTogether_41 rfl (zl_c540) (zk_r31 i hi) (m1) (by decide) ?_
    refine zx_aload_n (pc2 := 43) d_Ga_putTogether_42 rfl rfl ?_
    refine zm_getR (pc2 := 46) f_Ga_9 d_Ga_putTogether_43 rfl (zl_c539) rfl ?_
    refine zx_iload_n (pc2 := 47) d_Ga_putTogether_46 rfl rfl ?_
    refine zx_iconst (pc2 := 48) (v := nI 2) d_Ga_putTogether_47 rfl (by decide) ?_
    refine zx_iadd (pc2 := 49) d_Ga_putTogether_48 rfl ?_
    refine zx_iconst (pc2 := 50) (v := nI 3) d_Ga_putTogether_49 rfl (by decide) ?_
    refine zx_irem (pc2 := 51) d_Ga_putTogether_50 rfl (by decide) ?_
    refine zk_iald (pc2 := 52) d_Ga_putTogether_51 rfl (zl_c540) (zk_r32 i hi) (m2) (by decide) ?_
    rw [hp i i hi, hp i _ m1, hp i _ m2]
    refine zk_callVv (pc2 := 55) s_Ga_52 v_Re_addShare (hr.1) (c_Re_addShare hI hr (hpt i hi).2 (hpt _ m1).2 (hpt _ m2).2) d_Ga_putTogether_52 rfl rfl rfl (Nat.le_of_ble_eq_true rfl) (by decide) (by decide) ?_
    refine zx_inc2 (pc2 := 58) d_Ga_putTogether_55 rfl (zk_1 _) rfl (by decide) ?_
    refine zx_goto (tgt := 14) d_Ga_putTogether_58 (by decide) ?_
    exact ih
theorem c_Le_address {r : Nat} {k s p ba : Int32} (hr : zl_Le r) : zK l D ar b Z y_Le_address 0 [.ref (b + r), .int k, .int s, .int p, .int ba] M n none (fm_addr M r k s p ba) := by
  refine zk_entry (L := [some (.ref (b + r)), some (.int k), some (.int s), some (.int p), some (.int ba)]) rfl rfl (Nat.le_of_ble_eq_true rfl) rfl rfl ?_
  refine zx_aload_n (pc2 := 1) d_Le_address_0 rfl rfl ?_
  refine zx_iload_n (pc2 := 2) d_Le_address_1 rfl rfl ?_
  refine zm_putI (pc2 := 5) p_Le_18 d_Le_address_2 rfl (hr.1) rfl rfl rfl ?_
  refine zx_aload_n (pc2 := 6) d_Le_address_5 rfl rfl ?_
  refine zx_iload_n (pc2 := 7) d_Le_address_6 rfl rfl ?_
  refine zm_putI (pc2 := 10) p_Le_22 d_Le_address_7 rfl (hr.1) rfl rfl rfl ?_
  refine zx_aload_n (pc2 := 11) d_Le_address_10 rfl rfl ?_
  refine zx_iload_n (pc2 := 12) d_Le_address_11 rfl rfl ?_
  refine zm_putI (pc2 := 15) p_Le_25 d_Le_address_12 rfl (hr.1) rfl rfl rfl ?_
  refine zx_aload_n (pc2 := 16) d_Le_address_15 rfl rfl ?_
  refine zx_iload (pc2 := 18) d_Le_address_16 rfl rfl ?_
  refine zm_putI (pc2 := 21) p_Le_28 d_Le_address_18 rfl (hr.1) rfl rfl rfl ?_
  refine zx_aload_n (pc2 := 22) d_Le_address_21 rfl rfl ?_
  refine zx_iconst (pc2 := 23) (v := -1) d_Le_address_22 rfl (by decide) ?_
  refine zm_putI (pc2 := 26) p_Le_31 d_Le_address_23 rfl (hr.1) rfl rfl rfl ?_
  refine zx_aload_n (pc2 := 27) d_Le_address_26 rfl rfl ?_
  refine zx_iconst (pc2 := 28) (v := -1) d_Le_address_27 rfl (by decide) ?_
  refine zm_putI (pc2 := 31) p_Le_34 d_Le_address_28 rfl (hr.1) rfl rfl rfl ?_
  exact zx_vret d_Le_address_31 rfl (⟨rfl, rfl, rfl⟩)
theorem c_Le_aboutPlace {r : Nat} {pl id : Int32} (hr : zl_Le r) : zK l D ar b Z y_Le_aboutPlace 0 [.ref (b + r), .int pl, .int id] M n none (fm_about M r pl id) := by
  refine zk_entry (L := [some (.ref (b + r)), some (.int pl), some (.int id)]) rfl rfl (Nat.le_of_ble_eq_true rfl) rfl rfl ?_
  refine zx_aload_n (pc2 := 1) d_Le_aboutPlace_0 rfl rfl ?_
  refine zx_iload_n (pc2 := 2) d_Le_aboutPlace_1 rfl rfl ?_
  refine zm_putI (pc2 := 5) p_Le_31 d_Le_aboutPlace_2 rfl (hr.1) rfl rfl rfl ?_
  refine zx_aload_n (pc2 := 6) d_Le_aboutPlace_5 rfl rfl ?_
  refine zx_iload_n (pc2 := 7) d_Le_aboutPlace_6 rfl rfl ?_
  refine zm_putI (pc2 := 10) p_Le_34 d_Le_aboutPlace_7 rfl (hr.1) rfl rfl rfl ?_
  exact zx_vret d_Le_aboutPlace_10 rfl (⟨rfl, rfl, rfl⟩)
theorem c_Le_copyFrom {r q : Nat} (hr : zl_Le r) (hq : zl_Le q) : zK l D ar b Z y_Le_copyFrom 2 [.ref (b + r), .ref (b + q)] M n none (fm_copyL M r q) := by
  refine zk_entry (L := [some (.ref (b + r)), some (.ref (b + q))]) rfl rfl (Nat.le_of_ble_eq_true rfl) rfl rfl ?_
  refine zx_aload_n (pc2 := 1) d_Le_copyFrom_0 rfl rfl ?_
  refine zx_aload_n (pc2 := 2) d_Le_copyFrom_1 rfl rfl ?_
  refine zm_getI (pc2 := 5) f_Le_18 d_Le_copyFrom_2 rfl (hq.1) rfl ?_
  refine zx_aload_n (pc2 := 6) d_Le_copyFrom_5 rfl rfl ?_
  refine zm_getI (pc2 := 9) f_Le_22 d_Le_copyFrom_6 rfl (hq.1) rfl ?_
  refine zx_aload_n (pc2 := 10) d_Le_copyFrom_9 rfl rfl ?_
  refine zm_getI (pc2 := 13) f_Le_25 d_Le_copyFrom_10 rfl (hq.1) rfl ?_
  refine zx_aload_n (pc2 := 14) d_Le_copyFrom_13 rfl rfl ?_
  refine zm_getI (pc2 := 17) f_Le_28 d_Le_copyFrom_14 rfl (hq.1) rfl ?_
  refine zk_callVv (pc2 := 20) s_Le_37 v_Le_address (hr.1) (c_Le_address hr) d_Le_copyFrom_17 rfl rfl rfl (Nat.le_of_ble_eq_true rfl) (by decide) (by decide) ?_
  refine zx_aload_n (pc2 := 21) d_Le_copyFrom_20 rfl rfl ?_
  refine zx_aload_n (pc2 := 22) d_Le_copyFrom_21 rfl rfl ?_
  refine zm_getI (pc2 := 25) f_Le_31 d_Le_copyFrom_22 rfl (hq.1) rfl ?_
  refine zx_aload_n (pc2 := 26) d_Le_copyFrom_25 rfl rfl ?_
  refine zm_getI (pc2 := 29) f_Le_34 d_Le_copyFrom_26 rfl (hq.1) rfl ?_
  refine zk_callVv (pc2 := 32) s_Le_41 v_Le_aboutPlace (hr.1) (c_Le_aboutPlace hr) d_Le_copyFrom_29 rfl rfl rfl (Nat.le_of_ble_eq_true rfl) (by decide) (by decide) ?_
  refine zx_aload_n (pc2 := 33) d_Le_copyFrom_32 rfl rfl ?_
  refine zx_aload_n (pc2 := 34) d_Le_copyFrom_33 rfl rfl ?_
  refine zm_getI (pc2 := 37) f_Le_45 d_Le_copyFrom_34 rfl (hq.1) rfl ?_
  refine zm_putI (pc2 := 40) p_Le_45 d_Le_copyFrom_37 rfl (hr.1) rfl rfl rfl ?_
  refine zx_aload_n (pc2 := 41) d_Le_copyFrom_40 rfl rfl ?_
  refine zx_aload_n (pc2 := 42) d_Le_copyFrom_41 rfl rfl ?_
  refine zm_getJ (pc2 := 45) f_Le_48 d_Le_copyFrom_42 rfl (hq.1) rfl ?_
  refine zm_putJ (pc2 := 48) p_Le_48 d_Le_copyFrom_45 rfl (hr.1) rfl ?_
  refine zx_aload_n (pc2 := 49) d_Le_copyFrom_48 rfl rfl ?_
  refine zm_getR (pc2 := 52) f_Le_12 d_Le_copyFrom_49 rfl (hr.1) rfl ?_
  refine zx_aload_n (pc2 := 53) d_Le_copyFrom_52 rfl rfl ?_
  refine zm_getR (pc2 := 56) f_Le_12 d_Le_copyFrom_53 rfl (hq.1) rfl ?_
  refine zk_callVv (pc2 := 59) s_Le_52 v_Sh_copyFrom (hr.2.1) (c_Sh_copyFrom hr.2 hq.2) d_Le_copyFrom_56 rfl rfl rfl (Nat.le_of_ble_eq_true rfl) (by decide) (by decide) ?_
  exact zx_vret d_Le_copyFrom_59 rfl (⟨rfl, rfl, rfl⟩)
theorem c_St_heeds {r : Nat} {ba : Int32} (hr : zl_St r) : zK l D ar b Z y_St_heeds 0 [.ref (b + r), .int ba] M n (some (.int (fs_heeds M r ba))) M := by
  refine zk_entry (L := [some (.ref (b + r)), some (.int ba)]) rfl rfl (Nat.le_of_ble_eq_true rfl) rfl rfl ?_
  unfold fs_heeds
  refine zx_aload_n (pc2 := 1) d_St_heeds_0 rfl rfl ?_
  refine zm_getI (pc2 := 4) f_St_7 d_St_heeds_1 rfl (hr) rfl ?_
  refine zx_if_eq (pc2 := 7) d_St_heeds_4 rfl (tgt := 26) (by decide) (fun c => ?_) (fun c => ?_)
  · rw [if_pos c]
    refine zx_iconst (pc2 := 27) (v := nI 0) d_St_heeds_26 rfl (by decide) ?_
    exact zx_zret d_St_heeds_27 rfl rfl (⟨rfl, rfl, rfl⟩)
  · rw [if_neg c]
    refine zx_aload_n (pc2 := 8) d_St_heeds_7 rfl rfl ?_
    refine zm_getI (pc2 := 11) f_St_20 d_St_heeds_8 rfl (hr) rfl ?_
    refine zx_if_ne (pc2 := 14) d_St_heeds_11 rfl (tgt := 26) (by decide) (fun c2 => ?_) (fun c2 => ?_)
    · rw [if_neg c2]
      refine zx_iconst (pc2 := 27) (v := nI 0) d_St_heeds_26 rfl (by decide) ?_
      exact zx_zret d_St_heeds_27 rfl rfl (⟨rfl, rfl, rfl⟩)
    · rw [if_pos c2]
      refine zx_iload_n (pc2 := 15) d_St_heeds_14 rfl rfl ?_
      refine zx_aload_n (pc2 := 16) d_St_heeds_15 rfl rfl ?_
      refine zm_getI (pc2 := 19) f_St_23 d_St_heeds_16 rfl (hr) rfl ?_
      refine zx_icmp_lt (pc2 := 22) d_St_heeds_19 rfl (tgt := 26) (by decide) (fun c3 => ?_) (fun c3 => ?_)
      · rw [if_pos c3]
        refine zx_iconst (pc2 := 27) (v := nI 0) d_St_heeds_26 rfl (by decide) ?_
        exact zx_zret d_St_heeds_27 rfl rfl (⟨rfl, rfl, rfl⟩)
      · rw [if_neg c3]
        refine zx_iconst (pc2 := 23) (v := nI 1) d_St_heeds_22 rfl (by decide) ?_
        refine zx_goto (tgt := 27) d_St_heeds_23 (by decide) ?_
        exact zx_zret d_St_heeds_27 rfl rfl (⟨rfl, rfl, rfl⟩)
theorem c_St_loseAll {r : Nat} (hr : zl_St r) (hs : zl_Sh (r + 1)) : zK l D ar b Z y_St_loseAll 2 [.ref (b + r)] M n none (fm_lose M r) := by
  refine zk_entry (L := [some (.ref (b + r))]) rfl rfl (Nat.le_of_ble_eq_true rfl) rfl rfl ?_
  refine zx_aload_n (pc2 := 1) d_St_loseAll_0 rfl rfl ?_
  refine zx_iconst (pc2 := 2) (v := nI 0) d_St_loseAll_1 rfl (by decide) ?_
  refine zm_putI (pc2 := 5) p_St_23 d_St_loseAll_2 rfl (hr) rfl rfl rfl ?_
  refine zx_aload_n (pc2 := 6) d_St_loseAll_5 rfl rfl ?_
  refine zm_getR (pc2 := 9) f_St_16 d_St_loseAll_6 rfl (hr) rfl ?_
  refine zk_callVv (pc2 := 12) s_St_27 v_Sh_clear (hs.1) (c_Sh_clear hs) d_St_loseAll_9 rfl rfl rfl (Nat.le_of_ble_eq_true rfl) (by decide) (by decide) ?_
  refine zx_aload_n (pc2 := 13) d_St_loseAll_12 rfl rfl ?_
  refine zx_iconst (pc2 := 14) (v := nI 1) d_St_loseAll_13 rfl (by decide) ?_
  refine zm_putI (pc2 := 17) p_St_20 d_St_loseAll_14 rfl (hr) rfl rfl rfl ?_
  exact zx_vret d_St_loseAll_17 rfl (⟨rfl, rfl, rfl⟩)
end C34
