/-! LogHouse: the public calls that throw -/
section C41
variable {l : Launch} {D : va_G} {ar : Nat → ClassId} {b : Nat} {Z : State → Prop} {M : zm_M} {n : Nat}
theorem e_Ho_campaign (hfl : l.flags = pinnedFlags ++ [noTraceFlag]) (hT : zt_ok Z) {x : Int32} (hx : x < 0 ∨ nI 2 ≤ x) : zKT l D ar b Z y_Ho_campaign 7 [.ref (b + 0), .int x] M n "java/lang/IllegalArgumentException" M := by
  refine zt_entry (L := [some (.ref (b + 0)), some (.int x), none]) rfl rfl (Nat.le_of_ble_eq_true rfl) rfl rfl ?_
  refine zx_iload_n (pc2 := 1) d_Ho_campaign_0 rfl rfl ?_
  exact zt_callST s_Ho_57 t_Ho_checkProposer (e_Ho_checkProposer hfl hT hx) d_Ho_campaign_1 rfl rfl (Nat.le_of_ble_eq_true rfl) (by decide) (by decide) rfl
theorem e_Ho_propose (hfl : l.flags = pinnedFlags ++ [noTraceFlag]) (hT : zt_ok Z) {x : Int32} (hx : x < 0 ∨ nI 2 ≤ x) : zKT l D ar b Z y_Ho_propose 7 [.ref (b + 0), .int x] M n "java/lang/IllegalArgumentException" M := by
  refine zt_entry (L := [some (.ref (b + 0)), some (.int x), none, none]) rfl rfl (Nat.le_of_ble_eq_true rfl) rfl rfl ?_
  refine zx_iload_n (pc2 := 1) d_Ho_propose_0 rfl rfl ?_
  exact zt_callST s_Ho_57 t_Ho_checkProposer (e_Ho_checkProposer hfl hT hx) d_Ho_propose_1 rfl rfl (Nat.le_of_ble_eq_true rfl) (by decide) (by decide) rfl
theorem e_Ho_proposeS (hfl : l.flags = pinnedFlags ++ [noTraceFlag]) (hT : zt_ok Z) {p : Nat} (hp : p < 2) (hx : fs_ff M (45 + 63 * p) = -1 ∨ zm_I M (45 + 63 * p) 4 = 0) : zKT l D ar b Z y_Ho_propose 7 [.ref (b + 0), .int (nI p)] M n "java/lang/IllegalStateException" M := by
  have hr := zl_pr p hp
  refine zt_entry (L := [some (.ref (b + 0)), some (.int (nI p)), none, none]) rfl rfl (Nat.le_of_ble_eq_true rfl) rfl rfl ?_
  by_cases c : fs_ff M (45 + 63 * p) = -1
  · refine zx_iload_n (pc2 := 1) d_Ho_propose_0 rfl rfl ?_
    refine zt_callSv (pc2 := 4) s_Ho_57 t_Ho_checkProposer (c_Ho_checkProposer hp) d_Ho_propose_1 rfl rfl rfl (Nat.le_of_ble_eq_true rfl) (by decide) (by decide) ?_
    refine zx_aload_n (pc2 := 5) d_Ho_propose_4 rfl rfl ?_
    refine zm_getR (pc2 := 8) f_Ho_18 d_Ho_propose_5 rfl (zl_c0) rfl ?_
    refine zx_iload_n (pc2 := 9) d_Ho_propose_8 rfl rfl ?_
    refine zk_aaldC (pc2 := 10) d_Ho_propose_9 rfl (by decide) (zl_c44) (by decide) rfl (rfl) (hp) (by decide) ?_
    refine zx_ast2 (pc2 := 11) d_Ho_propose_10 rfl rfl (by decide) ?_
    refine zx_aload_n (pc2 := 12) d_Ho_propose_11 rfl rfl ?_
    refine zt_callV (pc2 := 15) s_Ho_75 v_Pr_firstFree (hr.1) (c_Pr_firstFree hr) d_Ho_propose_12 rfl rfl rfl (Nat.le_of_ble_eq_true rfl) (by decide) (by decide) ?_
    refine zx_ist3 (pc2 := 16) d_Ho_propose_15 rfl rfl (by decide) ?_
    refine zx_iload_n (pc2 := 17) d_Ho_propose_16 rfl rfl ?_
    refine zx_iconst (pc2 := 18) (v := -1) d_Ho_propose_17 rfl (by decide) ?_
    refine zx_icmp_eq (pc2 := 21) d_Ho_propose_18 rfl (tgt := 28) (by decide) (fun _ => ?_) (fun cz => absurd (c) cz)
    exact zt_throw (cls := "java/lang/IllegalStateException") (ic := 83) hfl (hT.2.1) zn_w418 zn_w419 zn_w16 d_Ho_propose_28 d_Ho_propose_31 d_Ho_propose_32 d_Ho_propose_35 rfl rfl (by decide)
  · refine zx_iload_n (pc2 := 1) d_Ho_propose_0 rfl rfl ?_
    refine zt_callSv (pc2 := 4) s_Ho_57 t_Ho_checkProposer (c_Ho_checkProposer hp) d_Ho_propose_1 rfl rfl rfl (Nat.le_of_ble_eq_true rfl) (by decide) (by decide) ?_
    refine zx_aload_n (pc2 := 5) d_Ho_propose_4 rfl rfl ?_
    refine zm_getR (pc2 := 8) f_Ho_18 d_Ho_propose_5 rfl (zl_c0) rfl ?_
    refine zx_iload_n (pc2 := 9) d_Ho_propose_8 rfl rfl ?_
    refine zk_aaldC (pc2 := 10) d_Ho_propose_9 rfl (by decide) (zl_c44) (by decide) rfl (rfl) (hp) (by decide) ?_
    refine zx_ast2 (pc2 := 11) d_Ho_propose_10 rfl rfl (by decide) ?_
    refine zx_aload_n (pc2 := 12) d_Ho_propose_11 rfl rfl ?_
    refine zt_callV (pc2 := 15) s_Ho_75 v_Pr_firstFree (hr.1) (c_Pr_firstFree hr) d_Ho_propose_12 rfl rfl rfl (Nat.le_of_ble_eq_true rfl) (by decide) (by decide) ?_
    refine zx_ist3 (pc2 := 16) d_Ho_propose_15 rfl rfl (by decide) ?_
    refine zx_iload_n (pc2 := 17) d_Ho_propose_16 rfl rfl ?_
    refine zx_iconst (pc2 := 18) (v := -1) d_Ho_propose_17 rfl (by decide) ?_
    refine zx_icmp_eq (pc2 := 21) d_Ho_propose_18 rfl (tgt := 28) (by decide) (fun cz => absurd cz (c)) (fun _ => ?_)
    refine zx_aload_n (pc2 := 22) d_Ho_propose_21 rfl rfl ?_
    refine zm_getI (pc2 := 25) f_Ho_78 d_Ho_propose_22 rfl (hr.1) rfl ?_
    refine zx_if_ne (pc2 := 28) d_Ho_propose_25 rfl (tgt := 36) (by decide) (fun cz => absurd (hx.resolve_left c) cz) (fun _ => ?_)
    exact zt_throw (cls := "java/lang/IllegalStateException") (ic := 83) hfl (hT.2.1) zn_w418 zn_w419 zn_w16 d_Ho_propose_28 d_Ho_propose_31 d_Ho_propose_32 d_Ho_propose_35 rfl rfl (by decide)
theorem e_Ho_resend (hfl : l.flags = pinnedFlags ++ [noTraceFlag]) (hT : zt_ok Z) {x : Int32} (hx : x < 0 ∨ nI 2 ≤ x) : zKT l D ar b Z y_Ho_resend 7 [.ref (b + 0), .int x] M n "java/lang/IllegalArgumentException" M := by
  refine zt_entry (L := [some (.ref (b + 0)), some (.int x), none, none]) rfl rfl (Nat.le_of_ble_eq_true rfl) rfl rfl ?_
  refine zx_iload_n (pc2 := 1) d_Ho_resend_0 rfl rfl ?_
  exact zt_callST s_Ho_57 t_Ho_checkProposer (e_Ho_checkProposer hfl hT hx) d_Ho_resend_1 rfl rfl (Nat.le_of_ble_eq_true rfl) (by decide) (by decide) rfl
theorem e_Ho_deliver (hfl : l.flags = pinnedFlags ++ [noTraceFlag]) (hT : zt_ok Z) {x : Int32} (hx : x < 0 ∨ zm_I M 171 0 ≤ x) : zKT l D ar b Z y_Ho_deliver 7 [.ref (b + 0), .int x] M n "java/lang/IndexOutOfBoundsException" M := by
  refine zt_entry (L := [some (.ref (b + 0)), some (.int x), none, none]) rfl rfl (Nat.le_of_ble_eq_true rfl) rfl rfl ?_
  refine zx_aload_n (pc2 := 1) d_Ho_deliver_0 rfl rfl ?_
  refine zx_iload_n (pc2 := 2) d_Ho_deliver_1 rfl rfl ?_
  exact zt_callVT s_Ho_100 zn_w499 v_Ho_checkLetter (zl_c0) (e_Ho_checkLetter hfl hT hx) d_Ho_deliver_2 rfl rfl (Nat.le_of_ble_eq_true rfl) (by decide) (by decide) rfl
theorem e_Ho_drop (hfl : l.flags = pinnedFlags ++ [noTraceFlag]) (hT : zt_ok Z) {x : Int32} (hx : x < 0 ∨ zm_I M 171 0 ≤ x) : zKT l D ar b Z y_Ho_drop 7 [.ref (b + 0), .int x] M n "java/lang/IndexOutOfBoundsException" M := by
  refine zt_entry (L := [some (.ref (b + 0)), some (.int x)]) rfl rfl (Nat.le_of_ble_eq_true rfl) rfl rfl ?_
  refine zx_aload_n (pc2 := 1) d_Ho_drop_0 rfl rfl ?_
  refine zx_iload_n (pc2 := 2) d_Ho_drop_1 rfl rfl ?_
  exact zt_callVT s_Ho_100 zn_w499 v_Ho_checkLetter (zl_c0) (e_Ho_checkLetter hfl hT hx) d_Ho_drop_2 rfl rfl (Nat.le_of_ble_eq_true rfl) (by decide) (by decide) rfl
theorem e_Ho_twin (hfl : l.flags = pinnedFlags ++ [noTraceFlag]) (hT : zt_ok Z) {x : Int32} (hx : x < 0 ∨ zm_I M 171 0 ≤ x) : zKT l D ar b Z y_Ho_twin 7 [.ref (b + 0), .int x] M n "java/lang/IndexOutOfBoundsException" M := by
  refine zt_entry (L := [some (.ref (b + 0)), some (.int x), none]) rfl rfl (Nat.le_of_ble_eq_true rfl) rfl rfl ?_
  refine zx_aload_n (pc2 := 1) d_Ho_twin_0 rfl rfl ?_
  refine zx_iload_n (pc2 := 2) d_Ho_twin_1 rfl rfl ?_
  exact zt_callVT s_Ho_100 zn_w499 v_Ho_checkLetter (zl_c0) (e_Ho_checkLetter hfl hT hx) d_Ho_twin_2 rfl rfl (Nat.le_of_ble_eq_true rfl) (by decide) (by decide) rfl
theorem e_Ho_twinS (hfl : l.flags = pinnedFlags ++ [noTraceFlag]) (hT : zt_ok Z) {i : Nat} (hc : zm_I M 171 0 = nI 60) (hi : i < 60) : zKT l D ar b Z y_Ho_twin 7 [.ref (b + 0), .int (nI i)] M n "java/lang/IllegalStateException" M := by
  refine zt_entry (L := [some (.ref (b + 0)), some (.int (nI i)), none]) rfl rfl (Nat.le_of_ble_eq_true rfl) rfl rfl ?_
  refine zx_aload_n (pc2 := 1) d_Ho_twin_0 rfl rfl ?_
  refine zx_iload_n (pc2 := 2) d_Ho_twin_1 rfl rfl ?_
  refine zt_callVv (pc2 := 5) s_Ho_100 v_Ho_checkLetter (zl_c0) (c_Ho_checkLetter hc (Nat.le_refl 60) hi) d_Ho_twin_2 rfl rfl rfl (Nat.le_of_ble_eq_true rfl) (by decide) (by decide) ?_
  refine zx_aload_n (pc2 := 6) d_Ho_twin_5 rfl rfl ?_
  refine zm_getR (pc2 := 9) f_Ho_28 d_Ho_twin_6 rfl (zl_c0) rfl ?_
  refine zt_callV (pc2 := 12) s_Ho_128 v_Ro_append zl_c171 (c_Ro_append0 hc (Nat.le_refl 60) (by decide)) d_Ho_twin_9 rfl rfl rfl (Nat.le_of_ble_eq_true rfl) (by decide) (by decide) ?_
  refine zx_astN2 (pc2 := 13) d_Ho_twin_12 rfl rfl (by decide) ?_
  refine zx_aload_nN (pc2 := 14) d_Ho_twin_13 rfl rfl ?_
  refine zx_ifnonnullN (pc2 := 17) d_Ho_twin_14 rfl ?_
  exact zt_throw (cls := "java/lang/IllegalStateException") (ic := 83) hfl (hT.2.1) zn_w418 zn_w419 zn_w16 d_Ho_twin_17 d_Ho_twin_20 d_Ho_twin_21 d_Ho_twin_24 rfl rfl (by decide)
theorem e_Ho_letter (hfl : l.flags = pinnedFlags ++ [noTraceFlag]) (hT : zt_ok Z) {x y : Int32} (hx : x < 0 ∨ zm_I M 171 0 ≤ x) : zKT l D ar b Z y_Ho_letter 7 [.ref (b + 0), .int x, .int y] M n "java/lang/IndexOutOfBoundsException" M := by
  refine zt_entry (L := [some (.ref (b + 0)), some (.int x), some (.int y), none]) rfl rfl (Nat.le_of_ble_eq_true rfl) rfl rfl ?_
  refine zx_aload_n (pc2 := 1) d_Ho_letter_0 rfl rfl ?_
  refine zx_iload_n (pc2 := 2) d_Ho_letter_1 rfl rfl ?_
  exact zt_callVT s_Ho_100 zn_w499 v_Ho_checkLetter (zl_c0) (e_Ho_checkLetter hfl hT hx) d_Ho_letter_2 rfl rfl (Nat.le_of_ble_eq_true rfl) (by decide) (by decide) rfl
theorem e_Ho_letterA (hfl : l.flags = pinnedFlags ++ [noTraceFlag]) (hT : zt_ok Z) {i c : Nat} {y : Int32} (hc : zm_I M 171 0 = nI c) (h60 : c ≤ 60) (hi : i < c) (hP : zp_ok M) (hy : y.toInt < 0 ∨ 5 < y.toInt) : zKT l D ar b Z y_Ho_letter 7 [.ref (b + 0), .int (nI i), .int y] M n "java/lang/IllegalArgumentException" M := by
  have hle := hP i (by omega)
  refine zt_entry (L := [some (.ref (b + 0)), some (.int (nI i)), some (.int y), none]) rfl rfl (Nat.le_of_ble_eq_true rfl) rfl rfl ?_
  refine zx_aload_n (pc2 := 1) d_Ho_letter_0 rfl rfl ?_
  refine zx_iload_n (pc2 := 2) d_Ho_letter_1 rfl rfl ?_
  refine zt_callVv (pc2 := 5) s_Ho_100 v_Ho_checkLetter (zl_c0) (c_Ho_checkLetter hc h60 hi) d_Ho_letter_2 rfl rfl rfl (Nat.le_of_ble_eq_true rfl) (by decide) (by decide) ?_
  refine zx_aload_n (pc2 := 6) d_Ho_letter_5 rfl rfl ?_
  refine zm_getR (pc2 := 9) f_Ho_28 d_Ho_letter_6 rfl (zl_c0) rfl ?_
  refine zm_getR (pc2 := 12) f_Ho_132 d_Ho_letter_9 rfl (zl_c171) rfl ?_
  refine zx_iload_n (pc2 := 13) d_Ho_letter_12 rfl rfl ?_
  refine zk_aaldP (pc2 := 14) d_Ho_letter_13 rfl (by decide) (zl_c172)  rfl (rfl) (by omega) (by decide) ?_
  refine zx_ast3 (pc2 := 15) d_Ho_letter_14 rfl rfl (by decide) ?_
  refine zx_iload_n (pc2 := 16) d_Ho_letter_15 rfl rfl ?_
  refine zx_tsw_out (tgt := 86) d_Ho_letter_16 hy (by decide) ?_
  exact zt_throw (cls := "java/lang/IllegalArgumentException") (ic := 151) hfl (hT.1) zn_w298 zn_w299 zn_w14 d_Ho_letter_86 d_Ho_letter_89 d_Ho_letter_90 d_Ho_letter_93 rfl rfl (by decide)
theorem e_Ho_up (hfl : l.flags = pinnedFlags ++ [noTraceFlag]) (hT : zt_ok Z) {x y : Int32} (hx : x < 0 ∨ nI 7 ≤ x) : zKT l D ar b Z y_Ho_up 7 [.ref (b + 0), .int x, .int y] M n "java/lang/IllegalArgumentException" M := by
  refine zt_entry (L := [some (.ref (b + 0)), some (.int x), some (.int y), none]) rfl rfl (Nat.le_of_ble_eq_true rfl) rfl rfl ?_
  refine zx_iload_n (pc2 := 1) d_Ho_up_0 rfl rfl ?_
  exact zt_callST s_Ho_152 t_Ho_checkStation (e_Ho_checkStation hfl hT hx) d_Ho_up_1 rfl rfl (Nat.le_of_ble_eq_true rfl) (by decide) (by decide) rfl
theorem e_Ho_wipe (hfl : l.flags = pinnedFlags ++ [noTraceFlag]) (hT : zt_ok Z) {x : Int32} (hx : x < 0 ∨ nI 7 ≤ x) : zKT l D ar b Z y_Ho_wipe 7 [.ref (b + 0), .int x] M n "java/lang/IllegalArgumentException" M := by
  refine zt_entry (L := [some (.ref (b + 0)), some (.int x)]) rfl rfl (Nat.le_of_ble_eq_true rfl) rfl rfl ?_
  refine zx_iload_n (pc2 := 1) d_Ho_wipe_0 rfl rfl ?_
  exact zt_callST s_Ho_152 t_Ho_checkStation (e_Ho_checkStation hfl hT hx) d_Ho_wipe_1 rfl rfl (Nat.le_of_ble_eq_true rfl) (by decide) (by decide) rfl
theorem e_Ho_catchUp (hfl : l.flags = pinnedFlags ++ [noTraceFlag]) (hT : zt_ok Z) {x y : Int32} (hx : x < 0 ∨ nI 7 ≤ x) : zKT l D ar b Z y_Ho_catchUp 7 [.ref (b + 0), .int x, .int y] M n "java/lang/IllegalArgumentException" M := by
  refine zt_entry (L := [some (.ref (b + 0)), some (.int x), some (.int y), none, none, none, none]) rfl rfl (Nat.le_of_ble_eq_true rfl) rfl rfl ?_
  refine zx_iload_n (pc2 := 1) d_Ho_catchUp_0 rfl rfl ?_
  exact zt_callST s_Ho_152 t_Ho_checkStation (e_Ho_checkStation hfl hT hx) d_Ho_catchUp_1 rfl rfl (Nat.le_of_ble_eq_true rfl) (by decide) (by decide) rfl
theorem e_Ho_catchUpP (hfl : l.flags = pinnedFlags ++ [noTraceFlag]) (hT : zt_ok Z) {s : Nat} {y : Int32} (hs : s < 7) (hx : y < 0 ∨ nI 2 ≤ y) : zKT l D ar b Z y_Ho_catchUp 7 [.ref (b + 0), .int (nI s), .int y] M n "java/lang/IllegalArgumentException" M := by
  refine zt_entry (L := [some (.ref (b + 0)), some (.int (nI s)), some (.int y), none, none, none, none]) rfl rfl (Nat.le_of_ble_eq_true rfl) rfl rfl ?_
  refine zx_iload_n (pc2 := 1) d_Ho_catchUp_0 rfl rfl ?_
  refine zt_callSv (pc2 := 4) s_Ho_152 t_Ho_checkStation (c_Ho_checkStation hs) d_Ho_catchUp_1 rfl rfl rfl (Nat.le_of_ble_eq_true rfl) (by decide) (by decide) ?_
  refine zx_iload_n (pc2 := 5) d_Ho_catchUp_4 rfl rfl ?_
  exact zt_callST s_Ho_57 t_Ho_checkProposer (e_Ho_checkProposer hfl hT hx) d_Ho_catchUp_5 rfl rfl (Nat.le_of_ble_eq_true rfl) (by decide) (by decide) rfl
theorem e_Ho_catchUpS (hfl : l.flags = pinnedFlags ++ [noTraceFlag]) (hT : zt_ok Z) {s p : Nat} (hs : s < 7) (hp : p < 2) (hx : zm_I M (2 + 6 * s) 2 = 0 ∨ zm_I M (2 + 6 * s) 1 = 0) : zKT l D ar b Z y_Ho_catchUp 7 [.ref (b + 0), .int (nI s), .int (nI p)] M n "java/lang/IllegalStateException" M := by
  have hst := zl_st s hs
  refine zt_entry (L := [some (.ref (b + 0)), some (.int (nI s)), some (.int (nI p)), none, none, none, none]) rfl rfl (Nat.le_of_ble_eq_true rfl) rfl rfl ?_
  by_cases c : zm_I M (2 + 6 * s) 2 = 0
  · refine zx_iload_n (pc2 := 1) d_Ho_catchUp_0 rfl rfl ?_
    refine zt_callSv (pc2 := 4) s_Ho_152 t_Ho_checkStation (c_Ho_checkStation hs) d_Ho_catchUp_1 rfl rfl rfl (Nat.le_of_ble_eq_true rfl) (by decide) (by decide) ?_
    refine zx_iload_n (pc2 := 5) d_Ho_catchUp_4 rfl rfl ?_
    refine zt_callSv (pc2 := 8) s_Ho_57 t_Ho_checkProposer (c_Ho_checkProposer hp) d_Ho_catchUp_5 rfl rfl rfl (Nat.le_of_ble_eq_true rfl) (by decide) (by decide) ?_
    refine zx_aload_n (pc2 := 9) d_Ho_catchUp_8 rfl rfl ?_
    refine zm_getR (pc2 := 12) f_Ho_11 d_Ho_catchUp_9 rfl (zl_c0) rfl ?_
    refine zx_iload_n (pc2 := 13) d_Ho_catchUp_12 rfl rfl ?_
    refine zk_aaldC (pc2 := 14) d_Ho_catchUp_13 rfl (by decide) (zl_c1) (by decide) rfl (rfl) (hs) (by decide) ?_
    refine zx_ast3 (pc2 := 15) d_Ho_catchUp_14 rfl rfl (by decide) ?_
    refine zx_aload_n (pc2 := 16) d_Ho_catchUp_15 rfl rfl ?_
    refine zm_getI (pc2 := 19) f_Ho_162 d_Ho_catchUp_16 rfl (hst) rfl ?_
    refine zx_if_eq (pc2 := 22) d_Ho_catchUp_19 rfl (tgt := 29) (by decide) (fun _ => ?_) (fun cz => absurd (c) cz)
    exact zt_throw (cls := "java/lang/IllegalStateException") (ic := 83) hfl (hT.2.1) zn_w418 zn_w419 zn_w16 d_Ho_catchUp_29 d_Ho_catchUp_32 d_Ho_catchUp_33 d_Ho_catchUp_36 rfl rfl (by decide)
  · refine zx_iload_n (pc2 := 1) d_Ho_catchUp_0 rfl rfl ?_
    refine zt_callSv (pc2 := 4) s_Ho_152 t_Ho_checkStation (c_Ho_checkStation hs) d_Ho_catchUp_1 rfl rfl rfl (Nat.le_of_ble_eq_true rfl) (by decide) (by decide) ?_
    refine zx_iload_n (pc2 := 5) d_Ho_catchUp_4 rfl rfl ?_
    refine zt_callSv (pc2 := 8) s_Ho_57 t_Ho_checkProposer (c_Ho_checkProposer hp) d_Ho_catchUp_5 rfl rfl rfl (Nat.le_of_ble_eq_true rfl) (by decide) (by decide) ?_
    refine zx_aload_n (pc2 := 9) d_Ho_catchUp_8 rfl rfl ?_
    refine zm_getR (pc2 := 12) f_Ho_11 d_Ho_catchUp_9 rfl (zl_c0) rfl ?_
    refine zx_iload_n (pc2 := 13) d_Ho_catchUp_12 rfl rfl ?_
    refine zk_aaldC (pc2 := 14) d_Ho_catchUp_13 rfl (by decide) (zl_c1) (by decide) rfl (rfl) (hs) (by decide) ?_
    refine zx_ast3 (pc2 := 15) d_Ho_catchUp_14 rfl rfl (by decide) ?_
    refine zx_aload_n (pc2 := 16) d_Ho_catchUp_15 rfl rfl ?_
    refine zm_getI (pc2 := 19) f_Ho_162 d_Ho_catchUp_16 rfl (hst) rfl ?_
    refine zx_if_eq (pc2 := 22) d_Ho_catchUp_19 rfl (tgt := 29) (by decide) (fun cz => absurd cz (c)) (fun _ => ?_)
    refine zx_aload_n (pc2 := 23) d_Ho_catchUp_22 rfl rfl ?_
    refine zm_getI (pc2 := 26) f_Ho_155 d_Ho_catchUp_23 rfl (hst) rfl ?_
    refine zx_if_ne (pc2 := 29) d_Ho_catchUp_26 rfl (tgt := 37) (by decide) (fun cz => absurd (hx.resolve_left c) cz) (fun _ => ?_)
    exact zt_throw (cls := "java/lang/IllegalStateException") (ic := 83) hfl (hT.2.1) zn_w418 zn_w419 zn_w16 d_Ho_catchUp_29 d_Ho_catchUp_32 d_Ho_catchUp_33 d_Ho_catchUp_36 rfl rfl (by decide)
theorem e_Ho_decided (hfl : l.flags = pinnedFlags ++ [noTraceFlag]) (hT : zt_ok Z) {x y : Int32} (hx : x < 0 ∨ nI 2 ≤ x) : zKT l D ar b Z y_Ho_decided 7 [.ref (b + 0), .int x, .int y] M n "java/lang/IllegalArgumentException" M := by
  refine zt_entry (L := [some (.ref (b + 0)), some (.int x), some (.int y)]) rfl rfl (Nat.le_of_ble_eq_true rfl) rfl rfl ?_
  refine zx_iload_n (pc2 := 1) d_Ho_decided_0 rfl rfl ?_
  exact zt_callST s_Ho_57 t_Ho_checkProposer (e_Ho_checkProposer hfl hT hx) d_Ho_decided_1 rfl rfl (Nat.le_of_ble_eq_true rfl) (by decide) (by decide) rfl
theorem e_Ho_decidedP (hfl : l.flags = pinnedFlags ++ [noTraceFlag]) (hT : zt_ok Z) {p : Nat} {y : Int32} (hp : p < 2) (hx : y < 0 ∨ nI 8 ≤ y) : zKT l D ar b Z y_Ho_decided 7 [.ref (b + 0), .int (nI p), .int y] M n "java/lang/IllegalArgumentException" M := by
  refine zt_entry (L := [some (.ref (b + 0)), some (.int (nI p)), some (.int y)]) rfl rfl (Nat.le_of_ble_eq_true rfl) rfl rfl ?_
  refine zx_iload_n (pc2 := 1) d_Ho_decided_0 rfl rfl ?_
  refine zt_callSv (pc2 := 4) s_Ho_57 t_Ho_checkProposer (c_Ho_checkProposer hp) d_Ho_decided_1 rfl rfl rfl (Nat.le_of_ble_eq_true rfl) (by decide) (by decide) ?_
  refine zx_iload_n (pc2 := 5) d_Ho_decided_4 rfl rfl ?_
  exact zt_callST s_Ho_201 t_Ho_checkPlace (e_Ho_checkPlace hfl hT hx) d_Ho_decided_5 rfl rfl (Nat.le_of_ble_eq_true rfl) (by decide) (by decide) rfl
theorem e_Ho_read (hfl : l.flags = pinnedFlags ++ [noTraceFlag]) (hT : zt_ok Z) {x y : Int32} (hx : x < 0 ∨ nI 2 ≤ x) : zKT l D ar b Z y_Ho_read 7 [.ref (b + 0), .int x, .int y] M n "java/lang/IllegalArgumentException" M := by
  refine zt_entry (L := [some (.ref (b + 0)), some (.int x), some (.int y), none]) rfl rfl (Nat.le_of_ble_eq_true rfl) rfl rfl ?_
  refine zx_iload_n (pc2 := 1) d_Ho_read_0 rfl rfl ?_
  exact zt_callST s_Ho_57 t_Ho_checkProposer (e_Ho_checkProposer hfl hT hx) d_Ho_read_1 rfl rfl (Nat.le_of_ble_eq_true rfl) (by decide) (by decide) rfl
theorem e_Ho_readP (hfl : l.flags = pinnedFlags ++ [noTraceFlag]) (hT : zt_ok Z) {p : Nat} {y : Int32} (hp : p < 2) (hx : y < 0 ∨ nI 8 ≤ y) : zKT l D ar b Z y_Ho_read 7 [.ref (b + 0), .int (nI p), .int y] M n "java/lang/IllegalArgumentException" M := by
  refine zt_entry (L := [some (.ref (b + 0)), some (.int (nI p)), some (.int y), none]) rfl rfl (Nat.le_of_ble_eq_true rfl) rfl rfl ?_
  refine zx_iload_n (pc2 := 1) d_Ho_read_0 rfl rfl ?_
  refine zt_callSv (pc2 := 4) s_Ho_57 t_Ho_checkProposer (c_Ho_checkProposer hp) d_Ho_read_1 rfl rfl rfl (Nat.le_of_ble_eq_true rfl) (by decide) (by decide) ?_
  refine zx_iload_n (pc2 := 5) d_Ho_read_4 rfl rfl ?_
  exact zt_callST s_Ho_201 t_Ho_checkPlace (e_Ho_checkPlace hfl hT hx) d_Ho_read_5 rfl rfl (Nat.le_of_ble_eq_true rfl) (by decide) (by decide) rfl
theorem e_Ho_readN (hfl : l.flags = pinnedFlags ++ [noTraceFlag]) (hT : zt_ok Z) {p pl : Nat} (hp : p < 2) (hpl : pl < 8) (h0 : zm_I M (45 + 63 * p + 39 + 3 * pl) 0 = 0) : zKT l D ar b Z y_Ho_read 7 [.ref (b + 0), .int (nI p), .int (nI pl)] M n "java/util/NoSuchElementException" M := by
  have hr := zl_pr p hp
  have hsp := hr.2.2.2.2.2 pl hpl
  refine zt_entry (L := [some (.ref (b + 0)), some (.int (nI p)), some (.int (nI pl)), none]) rfl rfl (Nat.le_of_ble_eq_true rfl) rfl rfl ?_
  refine zx_iload_n (pc2 := 1) d_Ho_read_0 rfl rfl ?_
  refine zt_callSv (pc2 := 4) s_Ho_57 t_Ho_checkProposer (c_Ho_checkProposer hp) d_Ho_read_1 rfl rfl rfl (Nat.le_of_ble_eq_true rfl) (by decide) (by decide) ?_
  refine zx_iload_n (pc2 := 5) d_Ho_read_4 rfl rfl ?_
  refine zt_callSv (pc2 := 8) s_Ho_201 t_Ho_checkPlace (c_Ho_checkPlace hpl) d_Ho_read_5 rfl rfl rfl (Nat.le_of_ble_eq_true rfl) (by decide) (by decide) ?_
  refine zx_aload_n (pc2 := 9) d_Ho_read_8 rfl rfl ?_
  refine zm_getR (pc2 := 12) f_Ho_18 d_Ho_read_9 rfl (zl_c0) rfl ?_
  refine zx_iload_n (pc2 := 13) d_Ho_read_12 rfl rfl ?_
  refine zk_aaldC (pc2 := 14) d_Ho_read_13 rfl (by decide) (zl_c44) (by decide) rfl (rfl) (hp) (by decide) ?_
  refine zm_getR (pc2 := 17) f_Ho_165 d_Ho_read_14 rfl (hr.1) rfl ?_
  refine zx_iload_n (pc2 := 18) d_Ho_read_17 rfl rfl ?_
  refine zk_aaldC (pc2 := 19) d_Ho_read_18 rfl (by decide) (hr.2.2.2.1) (by decide) rfl (rfl) (hpl) (by decide) ?_
  refine zm_getI (pc2 := 22) f_Ho_169 d_Ho_read_19 rfl (hsp.1) rfl ?_
  refine zx_ist3 (pc2 := 23) d_Ho_read_22 rfl rfl (by decide) ?_
  refine zx_iload_n (pc2 := 24) d_Ho_read_23 rfl rfl ?_
  refine zx_if_ne (pc2 := 27) d_Ho_read_24 rfl (tgt := 35) (by decide) (fun cz => absurd (h0) cz) (fun _ => ?_)
  exact zt_throw (cls := "java/util/NoSuchElementException") (ic := 206) hfl (hT.2.2.2) zn_w704 zn_w705 zn_w20 d_Ho_read_27 d_Ho_read_30 d_Ho_read_31 d_Ho_read_34 rfl rfl (by decide)
theorem e_Ho_readS (hfl : l.flags = pinnedFlags ++ [noTraceFlag]) (hT : zt_ok Z) {p pl : Nat} (hp : p < 2) (hpl : pl < 8) (h0 : zm_I M (45 + 63 * p + 39 + 3 * pl) 0 ≠ 0) (h3 : zm_I (fm_gs M pl (zm_I M (45 + 63 * p + 39 + 3 * pl) 0)) 539 2 ≠ nI 3) : zKT l D ar b Z y_Ho_read 7 [.ref (b + 0), .int (nI p), .int (nI pl)] M n "java/lang/IllegalStateException" (fm_gs M pl (zm_I M (45 + 63 * p + 39 + 3 * pl) 0)) := by
  have hr := zl_pr p hp
  have hsp := hr.2.2.2.2.2 pl hpl
  have hg := c_Ho_gatherFromStations (l := l) (D := D) (ar := ar) (b := b) (Z := Z) (M := M) (n := n) (id := zm_I M (45 + 63 * p + 39 + 3 * pl) 0) hpl
  rw [if_neg h3] at hg
  refine zt_entry (L := [some (.ref (b + 0)), some (.int (nI p)), some (.int (nI pl)), none]) rfl rfl (Nat.le_of_ble_eq_true rfl) rfl rfl ?_
  refine zx_iload_n (pc2 := 1) d_Ho_read_0 rfl rfl ?_
  refine zt_callSv (pc2 := 4) s_Ho_57 t_Ho_checkProposer (c_Ho_checkProposer hp) d_Ho_read_1 rfl rfl rfl (Nat.le_of_ble_eq_true rfl) (by decide) (by decide) ?_
  refine zx_iload_n (pc2 := 5) d_Ho_read_4 rfl rfl ?_
  refine zt_callSv (pc2 := 8) s_Ho_201 t_Ho_checkPlace (c_Ho_checkPlace hpl) d_Ho_read_5 rfl rfl rfl (Nat.le_of_ble_eq_true rfl) (by decide) (by decide) ?_
  refine zx_aload_n (pc2 := 9) d_Ho_read_8 rfl rfl ?_
  refine zm_getR (pc2 := 12) f_Ho_18 d_Ho_read_9 rfl (zl_c0) rfl ?_
  refine zx_iload_n (pc2 := 13) d_Ho_read_12 rfl rfl ?_
  refine zk_aaldC (pc2 := 14) d_Ho_read_13 rfl (by decide) (zl_c44) (by decide) rfl (rfl) (hp) (by decide) ?_
  refine zm_getR (pc2 := 17) f_Ho_165 d_Ho_read_14 rfl (hr.1) rfl ?_
  refine zx_iload_n (pc2 := 18) d_Ho_read_17 rfl rfl ?_
  refine zk_aaldC (pc2 := 19) d_Ho_read_18 rfl (by decide) (hr.2.2.2.1) (by decide) rfl (rfl) (hpl) (by decide) ?_
  refine zm_getI (pc2 := 22) f_Ho_169 d_Ho_read_19 rfl (hsp.1) rfl ?_
  refine zx_ist3 (pc2 := 23) d_Ho_read_22 rfl rfl (by decide) ?_
  refine zx_iload_n (pc2 := 24) d_Ho_read_23 rfl rfl ?_
  refine zx_if_ne (pc2 := 27) d_Ho_read_24 rfl (tgt := 35) (by decide) (fun _ => ?_) (fun cz => absurd cz (h0))
  refine zx_aload_n (pc2 := 36) d_Ho_read_35 rfl rfl ?_
  refine zx_iload_n (pc2 := 37) d_Ho_read_36 rfl rfl ?_
  refine zx_iload_n (pc2 := 38) d_Ho_read_37 rfl rfl ?_
  refine zt_callV (pc2 := 41) s_Ho_183 v_Ho_gatherFromStations (zl_c0) (hg) d_Ho_read_38 rfl rfl rfl (Nat.le_of_ble_eq_true rfl) (by decide) (by decide) ?_
  refine zx_if_ne (pc2 := 44) d_Ho_read_41 rfl (tgt := 52) (by decide) (fun cz => absurd (by decide) cz) (fun _ => ?_)
  exact zt_throw (cls := "java/lang/IllegalStateException") (ic := 83) hfl (hT.2.1) zn_w418 zn_w419 zn_w16 d_Ho_read_44 d_Ho_read_47 d_Ho_read_48 d_Ho_read_51 rfl rfl (by decide)
theorem e_Ho_readByte (hfl : l.flags = pinnedFlags ++ [noTraceFlag]) (hT : zt_ok Z) {x : Int32} (hx : x < 0 ∨ zm_I M 544 0 ≤ x) : zKT l D ar b Z y_Ho_readByte 7 [.ref (b + 0), .int x] M n "java/lang/IndexOutOfBoundsException" M := by
  refine zt_entry (L := [some (.ref (b + 0)), some (.int x)]) rfl rfl (Nat.le_of_ble_eq_true rfl) rfl rfl ?_
  by_cases c : x < 0
  · refine zx_iload_n (pc2 := 1) d_Ho_readByte_0 rfl rfl ?_
    refine zx_if_lt (pc2 := 4) d_Ho_readByte_1 rfl (tgt := 15) (by decide) (fun _ => ?_) (fun cz => absurd (c) cz)
    exact zt_throw (cls := "java/lang/IndexOutOfBoundsException") (ic := 209) hfl (hT.2.2.1) zn_w503 zn_w504 zn_w18 d_Ho_readByte_15 d_Ho_readByte_18 d_Ho_readByte_19 d_Ho_readByte_22 rfl rfl (by decide)
  · refine zx_iload_n (pc2 := 1) d_Ho_readByte_0 rfl rfl ?_
    refine zx_if_lt (pc2 := 4) d_Ho_readByte_1 rfl (tgt := 15) (by decide) (fun cz => absurd cz (c)) (fun _ => ?_)
    refine zx_iload_n (pc2 := 5) d_Ho_readByte_4 rfl rfl ?_
    refine zx_aload_n (pc2 := 6) d_Ho_readByte_5 rfl rfl ?_
    refine zm_getR (pc2 := 9) f_Ho_46 d_Ho_readByte_6 rfl (zl_c0) rfl ?_
    refine zm_getI (pc2 := 12) f_Ho_190 d_Ho_readByte_9 rfl (zl_lr.1) rfl ?_
    refine zx_icmp_lt (pc2 := 15) d_Ho_readByte_12 rfl (tgt := 23) (by decide) (fun cz => absurd cz (Int32.not_lt.mpr (hx.resolve_left c))) (fun _ => ?_)
    exact zt_throw (cls := "java/lang/IndexOutOfBoundsException") (ic := 209) hfl (hT.2.2.1) zn_w503 zn_w504 zn_w18 d_Ho_readByte_15 d_Ho_readByte_18 d_Ho_readByte_19 d_Ho_readByte_22 rfl rfl (by decide)
theorem e_Ho_state (hfl : l.flags = pinnedFlags ++ [noTraceFlag]) (hT : zt_ok Z) {x y : Int32} (hx : x < 0 ∨ nI 2 ≤ x) : zKT l D ar b Z y_Ho_state 7 [.ref (b + 0), .int x, .int y] M n "java/lang/IllegalArgumentException" M := by
  refine zt_entry (L := [some (.ref (b + 0)), some (.int x), some (.int y), none]) rfl rfl (Nat.le_of_ble_eq_true rfl) rfl rfl ?_
  refine zx_iload_n (pc2 := 1) d_Ho_state_0 rfl rfl ?_
  exact zt_callST s_Ho_57 t_Ho_checkProposer (e_Ho_checkProposer hfl hT hx) d_Ho_state_1 rfl rfl (Nat.le_of_ble_eq_true rfl) (by decide) (by decide) rfl
theorem e_Ho_stateA (hfl : l.flags = pinnedFlags ++ [noTraceFlag]) (hT : zt_ok Z) {p : Nat} {y : Int32} (hp : p < 2) (hy : y.toInt < 0 ∨ 3 < y.toInt) : zKT l D ar b Z y_Ho_state 7 [.ref (b + 0), .int (nI p), .int y] M n "java/lang/IllegalArgumentException" M := by
  refine zt_entry (L := [some (.ref (b + 0)), some (.int (nI p)), some (.int y), none]) rfl rfl (Nat.le_of_ble_eq_true rfl) rfl rfl ?_
  refine zx_iload_n (pc2 := 1) d_Ho_state_0 rfl rfl ?_
  refine zt_callSv (pc2 := 4) s_Ho_57 t_Ho_checkProposer (c_Ho_checkProposer hp) d_Ho_state_1 rfl rfl rfl (Nat.le_of_ble_eq_true rfl) (by decide) (by decide) ?_
  refine zx_aload_n (pc2 := 5) d_Ho_state_4 rfl rfl ?_
  refine zm_getR (pc2 := 8) f_Ho_18 d_Ho_state_5 rfl (zl_c0) rfl ?_
  refine zx_iload_n (pc2 := 9) d_Ho_state_8 rfl rfl ?_
  refine zk_aaldC (pc2 := 10) d_Ho_state_9 rfl (by decide) (zl_c44) (by decide) rfl (rfl) (hp) (by decide) ?_
  refine zx_ast3 (pc2 := 11) d_Ho_state_10 rfl rfl (by decide) ?_
  refine zx_iload_n (pc2 := 12) d_Ho_state_11 rfl rfl ?_
  refine zx_tsw_out (tgt := 67) d_Ho_state_12 hy (by decide) ?_
  exact zt_throw (cls := "java/lang/IllegalArgumentException") (ic := 151) hfl (hT.1) zn_w298 zn_w299 zn_w14 d_Ho_state_67 d_Ho_state_70 d_Ho_state_71 d_Ho_state_74 rfl rfl (by decide)
theorem e_Ho_station (hfl : l.flags = pinnedFlags ++ [noTraceFlag]) (hT : zt_ok Z) {x y : Int32} (hx : x < 0 ∨ nI 7 ≤ x) : zKT l D ar b Z y_Ho_station 7 [.ref (b + 0), .int x, .int y] M n "java/lang/IllegalArgumentException" M := by
  refine zt_entry (L := [some (.ref (b + 0)), some (.int x), some (.int y), none]) rfl rfl (Nat.le_of_ble_eq_true rfl) rfl rfl ?_
  refine zx_iload_n (pc2 := 1) d_Ho_station_0 rfl rfl ?_
  exact zt_callST s_Ho_152 t_Ho_checkStation (e_Ho_checkStation hfl hT hx) d_Ho_station_1 rfl rfl (Nat.le_of_ble_eq_true rfl) (by decide) (by decide) rfl
theorem e_Ho_stationA (hfl : l.flags = pinnedFlags ++ [noTraceFlag]) (hT : zt_ok Z) {s : Nat} {y : Int32} (hs : s < 7) (hy : y.toInt < 0 ∨ 3 < y.toInt) : zKT l D ar b Z y_Ho_station 7 [.ref (b + 0), .int (nI s), .int y] M n "java/lang/IllegalArgumentException" M := by
  refine zt_entry (L := [some (.ref (b + 0)), some (.int (nI s)), some (.int y), none]) rfl rfl (Nat.le_of_ble_eq_true rfl) rfl rfl ?_
  refine zx_iload_n (pc2 := 1) d_Ho_station_0 rfl rfl ?_
  refine zt_callSv (pc2 := 4) s_Ho_152 t_Ho_checkStation (c_Ho_checkStation hs) d_Ho_station_1 rfl rfl rfl (Nat.le_of_ble_eq_true rfl) (by decide) (by decide) ?_
  refine zx_aload_n (pc2 := 5) d_Ho_station_4 rfl rfl ?_
  refine zm_getR (pc2 := 8) f_Ho_11 d_Ho_station_5 rfl (zl_c0) rfl ?_
  refine zx_iload_n (pc2 := 9) d_Ho_station_8 rfl rfl ?_
  refine zk_aaldC (pc2 := 10) d_Ho_station_9 rfl (by decide) (zl_c1) (by decide) rfl (rfl) (hs) (by decide) ?_
  refine zx_ast3 (pc2 := 11) d_Ho_station_10 rfl rfl (by decide) ?_
  refine zx_iload_n (pc2 := 12) d_Ho_station_11 rfl rfl ?_
  refine zx_tsw_out (tgt := 83) d_Ho_station_12 hy (by decide) ?_
  exact zt_throw (cls := "java/lang/IllegalArgumentException") (ic := 151) hfl (hT.1) zn_w298 zn_w299 zn_w14 d_Ho_station_83 d_Ho_station_86 d_Ho_station_87 d_Ho_station_90 rfl rfl (by decide)
theorem e_Ho_share (hfl : l.flags = pinnedFlags ++ [noTraceFlag]) (hT : zt_ok Z) {x y z : Int32} (hx : x < 0 ∨ nI 7 ≤ x) : zKT l D ar b Z y_Ho_share 7 [.ref (b + 0), .int x, .int y, .int z] M n "java/lang/IllegalArgumentException" M := by
  refine zt_entry (L := [some (.ref (b + 0)), some (.int x), some (.int y), some (.int z), none]) rfl rfl (Nat.le_of_ble_eq_true rfl) rfl rfl ?_
  refine zx_iload_n (pc2 := 1) d_Ho_share_0 rfl rfl ?_
  exact zt_callST s_Ho_152 t_Ho_checkStation (e_Ho_checkStation hfl hT hx) d_Ho_share_1 rfl rfl (Nat.le_of_ble_eq_true rfl) (by decide) (by decide) rfl
theorem e_Ho_shareP (hfl : l.flags = pinnedFlags ++ [noTraceFlag]) (hT : zt_ok Z) {s : Nat} {y z : Int32} (hs : s < 7) (hx : y < 0 ∨ nI 8 ≤ y) : zKT l D ar b Z y_Ho_share 7 [.ref (b + 0), .int (nI s), .int y, .int z] M n "java/lang/IllegalArgumentException" M := by
  refine zt_entry (L := [some (.ref (b + 0)), some (.int (nI s)), some (.int y), some (.int z), none]) rfl rfl (Nat.le_of_ble_eq_true rfl) rfl rfl ?_
  refine zx_iload_n (pc2 := 1) d_Ho_share_0 rfl rfl ?_
  refine zt_callSv (pc2 := 4) s_Ho_152 t_Ho_checkStation (c_Ho_checkStation hs) d_Ho_share_1 rfl rfl rfl (Nat.le_of_ble_eq_true rfl) (by decide) (by decide) ?_
  refine zx_iload_n (pc2 := 5) d_Ho_share_4 rfl rfl ?_
  exact zt_callST s_Ho_201 t_Ho_checkPlace (e_Ho_checkPlace hfl hT hx) d_Ho_share_5 rfl rfl (Nat.le_of_ble_eq_true rfl) (by decide) (by decide) rfl
theorem e_Ho_shareA (hfl : l.flags = pinnedFlags ++ [noTraceFlag]) (hT : zt_ok Z) {s pl : Nat} {z : Int32} (hs : s < 7) (hp : pl < 8) (hz : z < 0) : zKT l D ar b Z y_Ho_share 7 [.ref (b + 0), .int (nI s), .int (nI pl), .int z] M n "java/lang/IllegalArgumentException" M := by
  refine zt_entry (L := [some (.ref (b + 0)), some (.int (nI s)), some (.int (nI pl)), some (.int z), none]) rfl rfl (Nat.le_of_ble_eq_true rfl) rfl rfl ?_
  refine zx_iload_n (pc2 := 1) d_Ho_share_0 rfl rfl ?_
  refine zt_callSv (pc2 := 4) s_Ho_152 t_Ho_checkStation (c_Ho_checkStation hs) d_Ho_share_1 rfl rfl rfl (Nat.le_of_ble_eq_true rfl) (by decide) (by decide) ?_
  refine zx_iload_n (pc2 := 5) d_Ho_share_4 rfl rfl ?_
  refine zt_callSv (pc2 := 8) s_Ho_201 t_Ho_checkPlace (c_Ho_checkPlace hp) d_Ho_share_5 rfl rfl rfl (Nat.le_of_ble_eq_true rfl) (by decide) (by decide) ?_
  refine zx_iload_n (pc2 := 9) d_Ho_share_8 rfl rfl ?_
  refine zx_if_ge (pc2 := 12) d_Ho_share_9 rfl (tgt := 20) (by decide) (fun cz => absurd cz (Int32.not_le.mpr hz)) (fun _ => ?_)
  exact zt_throw (cls := "java/lang/IllegalArgumentException") (ic := 151) hfl (hT.1) zn_w298 zn_w299 zn_w14 d_Ho_share_12 d_Ho_share_15 d_Ho_share_16 d_Ho_share_19 rfl rfl (by decide)
end C41
