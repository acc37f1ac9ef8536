/-! LogHouse: deliver, catchUp, share -/
theorem fm_take_I {M : zm_M} {i c a x : Nat} (h : a ≠ 171) : zm_I (fm_take M i c) a x = zm_I M a x := by
  show zm_I (fm_tkL i (c - i) (fm_tk0 M c)) a x = _
  rw [fm_tkL_I]
  exact zm_In (Or.inl h)
theorem fm_take_c {M : zm_M} {i c : Nat} : zm_I (fm_take M i c) 171 0 = nI c := by
  show zm_I (fm_tkL i (c - i) (fm_tk0 M c)) 171 0 = _
  rw [fm_tkL_I]
  exact zm_Is
theorem rk_take {M : zm_M} {i c : Nat} (hi : i ≤ c) (hc : c < 60) (hP : zp_ok M) : rk_ok (fm_take M i c) := by
  refine rk_of fm_take_c (by omega) ?_
  have h1 : zp_ok (fm_tkL i (c - i) (fm_tk0 M c)) := zp_tkL (c - i) (fm_tk0 M c) hP (by omega)
  exact zp_wP (zp_wP h1 (h1 60 (by decide))) (hP i (by omega))
def fm_cuS (s r pl : Nat) (N : zm_M) : Bool × zm_M := if zm_I N (r + 39 + 3 * pl) 0 = 0 ∨ zm_I N (2 + 6 * s + 1 + 2) pl ≠ 0 then (false, N) else if zm_I (fm_gs N pl (zm_I N (r + 39 + 3 * pl) 0)) 539 2 = nI 3 then (true, fm_put (fm_together (fm_gs N pl (zm_I N (r + 39 + 3 * pl) 0)) 542 (gk_p (fm_gs N pl (zm_I N (r + 39 + 3 * pl) 0)))) (2 + 6 * s + 1) pl (nI 0) (zm_I N (r + 39 + 3 * pl) 0) (zm_I (fm_together (fm_gs N pl (zm_I N (r + 39 + 3 * pl) 0)) 542 (gk_p (fm_gs N pl (zm_I N (r + 39 + 3 * pl) 0)))) 542 0) (fs_share (fm_together (fm_gs N pl (zm_I N (r + 39 + 3 * pl) 0)) 542 (gk_p (fm_gs N pl (zm_I N (r + 39 + 3 * pl) 0)))) 542 (nI s + nI 1))) else (false, fm_gs N pl (zm_I N (r + 39 + 3 * pl) 0))
def fm_cuI (s r : Nat) : Nat → zm_M → Nat × zm_M
  | 0, M => (0, M)
  | i + 1, M => (if (fm_cuS s r i (fm_cuI s r i M).2).1 = true then (fm_cuI s r i M).1 + 1 else (fm_cuI s r i M).1, (fm_cuS s r i (fm_cuI s r i M).2).2)
section C39
variable {l : Launch} {D : va_G} {ar : Nat → ClassId} {b : Nat} {Z : State → Prop} {M : zm_M} {n : Nat}
theorem c_Ho_deliver0 {i c s : Nat} (hc : zm_I M 171 0 = nI (c + 1)) (h60 : c < 60) (hi : i ≤ c) (hP : zp_ok M) (hk : zm_I M (zm_P M 172 i) 0 = nI 0) (hs : zm_I M (zm_P M 172 i) 1 = nI s) (hs7 : s < 7) : zK l D ar b Z y_Ho_deliver 6 [.ref (b + 0), .int (nI i)] M n (some (.int (zm_I (fm_bp (fm_take M i c) (zm_P M 172 i) s) 171 0 - nI c))) (fm_bp (fm_take M i c) (zm_P M 172 i) s) := by
  have hle := hP i (by omega)
  have hne := (zl_Le_ne hle).1
  refine zk_entry (L := [some (.ref (b + 0)), some (.int (nI i)), none, none]) rfl rfl (Nat.le_of_ble_eq_true rfl) rfl rfl ?_
  refine zx_aload_n (pc2 := 1) d_Ho_deliver_0 rfl rfl ?_
  refine zx_iload_n (pc2 := 2) d_Ho_deliver_1 rfl rfl ?_
  refine zk_callVv (pc2 := 5) s_Ho_100 v_Ho_checkLetter (zl_c0) (c_Ho_checkLetter hc (by omega) (by omega)) d_Ho_deliver_2 rfl rfl rfl (Nat.le_of_ble_eq_true rfl) (by decide) (by decide) ?_
  refine zx_aload_n (pc2 := 6) d_Ho_deliver_5 rfl rfl ?_
  refine zm_getR (pc2 := 9) f_Ho_28 d_Ho_deliver_6 rfl (zl_c0) rfl ?_
  refine zx_iload_n (pc2 := 10) d_Ho_deliver_9 rfl rfl ?_
  refine zk_callV (pc2 := 13) s_Ho_103 v_Ro_take (zl_c171) (c_Ro_take hc hi h60 hP) d_Ho_deliver_10 rfl rfl rfl (Nat.le_of_ble_eq_true rfl) (by decide) (by decide) ?_
  refine zx_ast2 (pc2 := 14) d_Ho_deliver_13 rfl rfl (by decide) ?_
  refine zx_aload_n (pc2 := 15) d_Ho_deliver_14 rfl rfl ?_
  refine zm_getR (pc2 := 18) f_Ho_28 d_Ho_deliver_15 rfl (zl_c0) rfl ?_
  refine zm_getI (pc2 := 21) f_Ho_91 d_Ho_deliver_18 rfl (zl_c171) rfl ?_
  refine zx_ist3 (pc2 := 22) d_Ho_deliver_21 rfl rfl (by decide) ?_
  refine zx_aload_n (pc2 := 23) d_Ho_deliver_22 rfl rfl ?_
  refine zm_getI (pc2 := 26) f_Ho_107 d_Ho_deliver_23 rfl (hle.1) rfl ?_
  rw [fm_take_c, fm_take_I hne, hk]
  refine zx_tsw_in (tgt := 52) d_Ho_deliver_26 (by decide) (by decide) rfl (by decide) ?_
  refine zx_aload_n (pc2 := 53) d_Ho_deliver_52 rfl rfl ?_
  refine zx_aload_n (pc2 := 54) d_Ho_deliver_53 rfl rfl ?_
  refine zk_callVv (pc2 := 57) s_Ho_112 v_Ho_bringPrepare (zl_c0) (c_Ho_bringPrepare hle ((fm_take_I hne).trans hs) hs7 (rk_take hi h60 hP)) d_Ho_deliver_54 rfl rfl rfl (Nat.le_of_ble_eq_true rfl) (by decide) (by decide) ?_
  refine zx_goto (tgt := 89) d_Ho_deliver_57 (by decide) ?_
  refine zx_aload_n (pc2 := 90) d_Ho_deliver_89 rfl rfl ?_
  refine zm_getR (pc2 := 93) f_Ho_28 d_Ho_deliver_90 rfl (zl_c0) rfl ?_
  refine zm_getI (pc2 := 96) f_Ho_91 d_Ho_deliver_93 rfl (zl_c171) rfl ?_
  refine zx_iload_n (pc2 := 97) d_Ho_deliver_96 rfl rfl ?_
  refine zx_isub (pc2 := 98) d_Ho_deliver_97 rfl ?_
  exact zx_iret d_Ho_deliver_98 rfl (⟨rfl, rfl, rfl⟩)
theorem c_Ho_deliver1 {i c s p t : Nat} (hI : ∀ U, Z U → zs_I b t U) (hc : zm_I M 171 0 = nI (c + 1)) (h60 : c < 60) (hi : i ≤ c) (hP : zp_ok M) (hk : zm_I M (zm_P M 172 i) 0 = nI 1) (hs : zm_I M (zm_P M 172 i) 1 = nI s) (hs7 : s < 7) (hp : zm_I M (zm_P M 172 i) 2 = nI p) (hp2 : p < 2) : zK l D ar b Z y_Ho_deliver 6 [.ref (b + 0), .int (nI i)] M n (some (.int (zm_I (fm_bpr (fm_take M i c) (45 + 63 * p) (zm_P M 172 i) s) 171 0 - nI c))) (fm_bpr (fm_take M i c) (45 + 63 * p) (zm_P M 172 i) s) := by
  have hle := hP i (by omega)
  have hne := (zl_Le_ne hle).1
  refine zk_entry (L := [some (.ref (b + 0)), some (.int (nI i)), none, none]) rfl rfl (Nat.le_of_ble_eq_true rfl) rfl rfl ?_
  refine zx_aload_n (pc2 := 1) d_Ho_deliver_0 rfl rfl ?_
  refine zx_iload_n (pc2 := 2) d_Ho_deliver_1 rfl rfl ?_
  refine zk_callVv (pc2 := 5) s_Ho_100 v_Ho_checkLetter (zl_c0) (c_Ho_checkLetter hc (by omega) (by omega)) d_Ho_deliver_2 rfl rfl rfl (Nat.le_of_ble_eq_true rfl) (by decide) (by decide) ?_
  refine zx_aload_n (pc2 := 6) d_Ho_deliver_5 rfl rfl ?_
  refine zm_getR (pc2 := 9) f_Ho_28 d_Ho_deliver_6 rfl (zl_c0) rfl ?_
  refine zx_iload_n (pc2 := 10) d_Ho_deliver_9 rfl rfl ?_
  refine zk_callV (pc2 := 13) s_Ho_103 v_Ro_take (zl_c171) (c_Ro_take hc hi h60 hP) d_Ho_deliver_10 rfl rfl rfl (Nat.le_of_ble_eq_true rfl) (by decide) (by decide) ?_
  refine zx_ast2 (pc2 := 14) d_Ho_deliver_13 rfl rfl (by decide) ?_
  refine zx_aload_n (pc2 := 15) d_Ho_deliver_14 rfl rfl ?_
  refine zm_getR (pc2 := 18) f_Ho_28 d_Ho_deliver_15 rfl (zl_c0) rfl ?_
  refine zm_getI (pc2 := 21) f_Ho_91 d_Ho_deliver_18 rfl (zl_c171) rfl ?_
  refine zx_ist3 (pc2 := 22) d_Ho_deliver_21 rfl rfl (by decide) ?_
  refine zx_aload_n (pc2 := 23) d_Ho_deliver_22 rfl rfl ?_
  refine zm_getI (pc2 := 26) f_Ho_107 d_Ho_deliver_23 rfl (hle.1) rfl ?_
  rw [fm_take_c, fm_take_I hne, hk]
  refine zx_tsw_in (tgt := 60) d_Ho_deliver_26 (by decide) (by decide) rfl (by decide) ?_
  refine zx_aload_n (pc2 := 61) d_Ho_deliver_60 rfl rfl ?_
  refine zx_aload_n (pc2 := 62) d_Ho_deliver_61 rfl rfl ?_
  refine zk_callVv (pc2 := 65) s_Ho_116 v_Ho_bringPromise (zl_c0) (c_Ho_bringPromise hI hle ((fm_take_I hne).trans hp) hp2 ((fm_take_I hne).trans hs) hs7 (rk_take hi h60 hP)) d_Ho_deliver_62 rfl rfl rfl (Nat.le_of_ble_eq_true rfl) (by decide) (by decide) ?_
  refine zx_goto (tgt := 89) d_Ho_deliver_65 (by decide) ?_
  refine zx_aload_n (pc2 := 90) d_Ho_deliver_89 rfl rfl ?_
  refine zm_getR (pc2 := 93) f_Ho_28 d_Ho_deliver_90 rfl (zl_c0) rfl ?_
  refine zm_getI (pc2 := 96) f_Ho_91 d_Ho_deliver_93 rfl (zl_c171) rfl ?_
  refine zx_iload_n (pc2 := 97) d_Ho_deliver_96 rfl rfl ?_
  refine zx_isub (pc2 := 98) d_Ho_deliver_97 rfl ?_
  exact zx_iret d_Ho_deliver_98 rfl (⟨rfl, rfl, rfl⟩)
theorem c_Ho_deliver2 {i c s pl : Nat} (hc : zm_I M 171 0 = nI (c + 1)) (h60 : c < 60) (hi : i ≤ c) (hP : zp_ok M) (hk : zm_I M (zm_P M 172 i) 0 = nI 2) (hs : zm_I M (zm_P M 172 i) 1 = nI s) (hs7 : s < 7) (hp : zm_I M (zm_P M 172 i) 4 = nI pl) (hp8 : pl < 8) : zK l D ar b Z y_Ho_deliver 6 [.ref (b + 0), .int (nI i)] M n (some (.int (zm_I (fm_ba (fm_take M i c) (zm_P M 172 i) s pl) 171 0 - nI c))) (fm_ba (fm_take M i c) (zm_P M 172 i) s pl) := by
  have hle := hP i (by omega)
  have hne := (zl_Le_ne hle).1
  refine zk_entry (L := [some (.ref (b + 0)), some (.int (nI i)), none, none]) rfl rfl (Nat.le_of_ble_eq_true rfl) rfl rfl ?_
  refine zx_aload_n (pc2 := 1) d_Ho_deliver_0 rfl rfl ?_
  refine zx_iload_n (pc2 := 2) d_Ho_deliver_1 rfl rfl ?_
  refine zk_callVv (pc2 := 5) s_Ho_100 v_Ho_checkLetter (zl_c0) (c_Ho_checkLetter hc (by omega) (by omega)) d_Ho_deliver_2 rfl rfl rfl (Nat.le_of_ble_eq_true rfl) (by decide) (by decide) ?_
  refine zx_aload_n (pc2 := 6) d_Ho_deliver_5 rfl rfl ?_
  refine zm_getR (pc2 := 9) f_Ho_28 d_Ho_deliver_6 rfl (zl_c0) rfl ?_
  refine zx_iload_n (pc2 := 10) d_Ho_deliver_9 rfl rfl ?_
  refine zk_callV (pc2 := 13) s_Ho_103 v_Ro_take (zl_c171) (c_Ro_take hc hi h60 hP) d_Ho_deliver_10 rfl rfl rfl (Nat.le_of_ble_eq_true rfl) (by decide) (by decide) ?_
  refine zx_ast2 (pc2 := 14) d_Ho_deliver_13 rfl rfl (by decide) ?_
  refine zx_aload_n (pc2 := 15) d_Ho_deliver_14 rfl rfl ?_
  refine zm_getR (pc2 := 18) f_Ho_28 d_Ho_deliver_15 rfl (zl_c0) rfl ?_
  refine zm_getI (pc2 := 21) f_Ho_91 d_Ho_deliver_18 rfl (zl_c171) rfl ?_
  refine zx_ist3 (pc2 := 22) d_Ho_deliver_21 rfl rfl (by decide) ?_
  refine zx_aload_n (pc2 := 23) d_Ho_deliver_22 rfl rfl ?_
  refine zm_getI (pc2 := 26) f_Ho_107 d_Ho_deliver_23 rfl (hle.1) rfl ?_
  rw [fm_take_c, fm_take_I hne, hk]
  refine zx_tsw_in (tgt := 68) d_Ho_deliver_26 (by decide) (by decide) rfl (by decide) ?_
  refine zx_aload_n (pc2 := 69) d_Ho_deliver_68 rfl rfl ?_
  refine zx_aload_n (pc2 := 70) d_Ho_deliver_69 rfl rfl ?_
  refine zk_callVv (pc2 := 73) s_Ho_119 v_Ho_bringAccept (zl_c0) (c_Ho_bringAccept hle ((fm_take_I hne).trans hs) hs7 ((fm_take_I hne).trans hp) hp8 (rk_take hi h60 hP)) d_Ho_deliver_70 rfl rfl rfl (Nat.le_of_ble_eq_true rfl) (by decide) (by decide) ?_
  refine zx_goto (tgt := 89) d_Ho_deliver_73 (by decide) ?_
  refine zx_aload_n (pc2 := 90) d_Ho_deliver_89 rfl rfl ?_
  refine zm_getR (pc2 := 93) f_Ho_28 d_Ho_deliver_90 rfl (zl_c0) rfl ?_
  refine zm_getI (pc2 := 96) f_Ho_91 d_Ho_deliver_93 rfl (zl_c171) rfl ?_
  refine zx_iload_n (pc2 := 97) d_Ho_deliver_96 rfl rfl ?_
  refine zx_isub (pc2 := 98) d_Ho_deliver_97 rfl ?_
  exact zx_iret d_Ho_deliver_98 rfl (⟨rfl, rfl, rfl⟩)
theorem c_Ho_deliver3 {i c s pl p : Nat} (hc : zm_I M 171 0 = nI (c + 1)) (h60 : c < 60) (hi : i ≤ c) (hP : zp_ok M) (hk : zm_I M (zm_P M 172 i) 0 = nI 3) (hs : zm_I M (zm_P M 172 i) 1 = nI s) (hq : zm_I M (zm_P M 172 i) 2 = nI p) (hp2 : p < 2) (hp : zm_I M (zm_P M 172 i) 4 = nI pl) (hp8 : pl < 8) : zK l D ar b Z y_Ho_deliver 6 [.ref (b + 0), .int (nI i)] M n (some (.int (zm_I (fm_ha (fm_take M i c) (45 + 63 * p) (zm_P M 172 i) pl s) 171 0 - nI c))) (fm_ha (fm_take M i c) (45 + 63 * p) (zm_P M 172 i) pl s) := by
  have hle := hP i (by omega)
  have hne := (zl_Le_ne hle).1
  have hr := zl_pr p hp2
  refine zk_entry (L := [some (.ref (b + 0)), some (.int (nI i)), none, none]) rfl rfl (Nat.le_of_ble_eq_true rfl) rfl rfl ?_
  refine zx_aload_n (pc2 := 1) d_Ho_deliver_0 rfl rfl ?_
  refine zx_iload_n (pc2 := 2) d_Ho_deliver_1 rfl rfl ?_
  refine zk_callVv (pc2 := 5) s_Ho_100 v_Ho_checkLetter (zl_c0) (c_Ho_checkLetter hc (by omega) (by omega)) d_Ho_deliver_2 rfl rfl rfl (Nat.le_of_ble_eq_true rfl) (by decide) (by decide) ?_
  refine zx_aload_n (pc2 := 6) d_Ho_deliver_5 rfl rfl ?_
  refine zm_getR (pc2 := 9) f_Ho_28 d_Ho_deliver_6 rfl (zl_c0) rfl ?_
  refine zx_iload_n (pc2 := 10) d_Ho_deliver_9 rfl rfl ?_
  refine zk_callV (pc2 := 13) s_Ho_103 v_Ro_take (zl_c171) (c_Ro_take hc hi h60 hP) d_Ho_deliver_10 rfl rfl rfl (Nat.le_of_ble_eq_true rfl) (by decide) (by decide) ?_
  refine zx_ast2 (pc2 := 14) d_Ho_deliver_13 rfl rfl (by decide) ?_
  refine zx_aload_n (pc2 := 15) d_Ho_deliver_14 rfl rfl ?_
  refine zm_getR (pc2 := 18) f_Ho_28 d_Ho_deliver_15 rfl (zl_c0) rfl ?_
  refine zm_getI (pc2 := 21) f_Ho_91 d_Ho_deliver_18 rfl (zl_c171) rfl ?_
  refine zx_ist3 (pc2 := 22) d_Ho_deliver_21 rfl rfl (by decide) ?_
  refine zx_aload_n (pc2 := 23) d_Ho_deliver_22 rfl rfl ?_
  refine zm_getI (pc2 := 26) f_Ho_107 d_Ho_deliver_23 rfl (hle.1) rfl ?_
  rw [fm_take_c, show zm_I (fm_take M i c) (zm_P M 172 i) 0 = nI 3 from (fm_take_I hne).trans hk]
  refine zx_tsw_out (tgt := 76) d_Ho_deliver_26 (by decide) (by decide) ?_
  refine zx_aload_n (pc2 := 77) d_Ho_deliver_76 rfl rfl ?_
  refine zm_getR (pc2 := 80) f_Ho_18 d_Ho_deliver_77 rfl (zl_c0) rfl ?_
  refine zx_aload_n (pc2 := 81) d_Ho_deliver_80 rfl rfl ?_
  refine zm_getI (pc2 := 84) f_Ho_122 d_Ho_deliver_81 rfl (hle.1) rfl ?_
  refine zk_aaldC (pc2 := 85) d_Ho_deliver_84 rfl (by decide) (zl_c44) (by decide) rfl ((fm_take_I hne).trans hq) (hp2) (by decide) ?_
  refine zx_aload_n (pc2 := 86) d_Ho_deliver_85 rfl rfl ?_
  refine zk_callVv (pc2 := 89) s_Ho_125 v_Pr_hearAccepted (hr.1) (c_Pr_hearAccepted hr hle ((fm_take_I hne).trans hp) hp8 ((fm_take_I hne).trans hs)) d_Ho_deliver_86 rfl rfl rfl (Nat.le_of_ble_eq_true rfl) (by decide) (by decide) ?_
  refine zx_aload_n (pc2 := 90) d_Ho_deliver_89 rfl rfl ?_
  refine zm_getR (pc2 := 93) f_Ho_28 d_Ho_deliver_90 rfl (zl_c0) rfl ?_
  refine zm_getI (pc2 := 96) f_Ho_91 d_Ho_deliver_93 rfl (zl_c171) rfl ?_
  refine zx_iload_n (pc2 := 97) d_Ho_deliver_96 rfl rfl ?_
  refine zx_isub (pc2 := 98) d_Ho_deliver_97 rfl ?_
  exact zx_iret d_Ho_deliver_98 rfl (⟨rfl, rfl, rfl⟩)
theorem c_Ho_catchUp {s p t : Nat} (hI : ∀ U, Z U → zs_I b t U) (hs : s < 7) (hp : p < 2) (hw : zm_I M (2 + 6 * s) 2 ≠ 0) (hu : zm_I M (2 + 6 * s) 1 ≠ 0) : zK l D ar b Z y_Ho_catchUp 4 [.ref (b + 0), .int (nI s), .int (nI p)] M n (some (.int (nI (fm_cuI s (45 + 63 * p) 8 M).1))) (fm_cuI s (45 + 63 * p) 8 M).2 := by
  have hst := zl_st s hs
  have hsS := zl_stS s hs
  have hr := zl_pr p hp
  refine zk_entry (L := [some (.ref (b + 0)), some (.int (nI s)), some (.int (nI p)), none, none, none, none]) rfl rfl (Nat.le_of_ble_eq_true rfl) rfl rfl ?_
  refine zx_iload_n (pc2 := 1) d_Ho_catchUp_0 rfl rfl ?_
  refine zk_callSv (pc2 := 4) s_Ho_152 t_Ho_checkStation (c_Ho_checkStation hs) d_Ho_catchUp_1 rfl rfl rfl (Nat.le_of_ble_eq_true rfl) (by decide) (by decide) ?_
  refine zx_iload_n (pc2 := 5) d_Ho_catchUp_4 rfl rfl ?_
  refine zk_callSv (pc2 := 8) s_Ho_57 t_Ho_checkProposer (c_Ho_checkProposer hp) d_Ho_catchUp_5 rfl rfl rfl (Nat.le_of_ble_eq_true rfl) (by decide) (by decide) ?_
  refine zx_aload_n (pc2 := 9) d_Ho_catchUp_8 rfl rfl ?_
  refine zm_getR (pc2 := 12) f_Ho_11 d_Ho_catchUp_9 rfl (zl_c0) rfl ?_
  refine zx_iload_n (pc2 := 13) d_Ho_catchUp_12 rfl rfl ?_
  refine zk_aaldC (pc2 := 14) d_Ho_catchUp_13 rfl (by decide) (zl_c1) (by decide) rfl (rfl) (hs) (by decide) ?_
  refine zx_ast3 (pc2 := 15) d_Ho_catchUp_14 rfl rfl (by decide) ?_
  refine zx_aload_n (pc2 := 16) d_Ho_catchUp_15 rfl rfl ?_
  refine zm_getI (pc2 := 19) f_Ho_162 d_Ho_catchUp_16 rfl (hst) rfl ?_
  refine zx_if_eq (pc2 := 22) d_Ho_catchUp_19 rfl (tgt := 29) (by decide) (fun cz => absurd cz (hw)) (fun _ => ?_)
  refine zx_aload_n (pc2 := 23) d_Ho_catchUp_22 rfl rfl ?_
  refine zm_getI (pc2 := 26) f_Ho_155 d_Ho_catchUp_23 rfl (hst) rfl ?_
  refine zx_if_ne (pc2 := 29) d_Ho_catchUp_26 rfl (tgt := 37) (by decide) (fun _ => ?_) (fun cz => absurd cz (hu))
  refine zx_iconst (pc2 := 38) (v := nI 0) d_Ho_catchUp_37 rfl (by decide) ?_
  refine zx_ist4 (pc2 := 40) d_Ho_catchUp_38 rfl rfl (by decide) ?_
  refine zx_iconst (pc2 := 41) (v := nI 0) d_Ho_catchUp_40 rfl (by decide) ?_
  refine zx_ist5 (pc2 := 43) d_Ho_catchUp_41 rfl rfl (by decide) ?_
  refine zx_for (X := fun i => ∀ o6 : Option Value, zk_X l D ar b Z y_Ho_catchUp 4 (some (.int (nI (fm_cuI s (45 + 63 * p) 8 M).1))) (fm_cuI s (45 + 63 * p) 8 M).2 n 43 [some (.ref (b + 0)), some (.int (nI s)), some (.int (nI p)), some (.ref (b + (2 + 6 * s))), some (.int (nI (fm_cuI s (45 + 63 * p) i M).1)), some (.int (nI i)), o6] [] (fm_cuI s (45 + 63 * p) i M).2) 8 ?_ ?_ 0 (by decide) none
  · intro o6
    refine zx_iload (pc2 := 45) d_Ho_catchUp_43 rfl rfl ?_
    refine zx_bipush (pc2 := 47) (v := nI 8) d_Ho_catchUp_45 rfl (by decide) ?_
    refine zx_icmp_ge (pc2 := 50) d_Ho_catchUp_47 rfl (tgt := 142) (by decide) (fun _ => ?_) (fun cz => absurd (nI_le (Nat.le_refl 8) (by decide)) cz)
    refine zx_iload (pc2 := 144) d_Ho_catchUp_142 rfl rfl ?_
    exact zx_iret d_Ho_catchUp_144 rfl (⟨rfl, rfl, rfl⟩)
  · intro i hi ih o6
    have hsp := hr.2.2.2.2.2 i hi
    have e0 : fm_cuI s (45 + 63 * p) (i + 1) M = (if (fm_cuS s (45 + 63 * p) i (fm_cuI s (45 + 63 * p) i M).2).1 = true then (fm_cuI s (45 + 63 * p) i M).1 + 1 else (fm_cuI s (45 + 63 * p) i M).1, (fm_cuS s (45 + 63 * p) i (fm_cuI s (45 + 63 * p) i M).2).2) := rfl
    rw [e0] at ih
    generalize fm_cuI s (45 + 63 * p) i M = T at ih ⊢
    obtain ⟨tk, N⟩ := T
    dsimp only at ih ⊢
    refine zx_iload (pc2 := 45) d_Ho_catchUp_43 rfl rfl ?_
    refine zx_bipush (pc2 := 47) (v := nI 8) d_Ho_catchUp_45 rfl (by decide) ?_
    refine zx_icmp_ge (pc2 := 50) d_Ho_catchUp_47 rfl (tgt := 142) (by decide) (fun cz => absurd cz (nI_ge hi (by decide))) (fun _ => ?_)
    refine zx_aload_n (pc2 := 51) d_Ho_catchUp_50 rfl rfl ?_
    refine zm_getR (pc2 := 54) f_Ho_18 d_Ho_catchUp_51 rfl (zl_c0) rfl ?_
    refine zx_iload_n (pc2 := 55) d_Ho_catchUp_54 rfl rfl ?_
    refine zk_aaldC (pc2 := 56) d_Ho_catchUp_55 rfl (by decide) (zl_c44) (by decide) rfl (rfl) (hp) (by decide) ?_
    refine zm_getR (pc2 := 59) f_Ho_165 d_Ho_catchUp_56 rfl (hr.1) rfl ?_
    refine zx_iload (pc2 := 61) d_Ho_catchUp_59 rfl rfl ?_
    refine zk_aaldC (pc2 := 62) d_Ho_catchUp_61 rfl (by decide) (hr.2.2.2.1) (by decide) rfl (rfl) (hi) (by decide) ?_
    refine zm_getI (pc2 := 65) f_Ho_169 d_Ho_catchUp_62 rfl (hsp.1) rfl ?_
    refine zx_ist6 (pc2 := 67) d_Ho_catchUp_65 rfl rfl (by decide) ?_
    refine zx_iload (pc2 := 69) d_Ho_catchUp_67 rfl rfl ?_
    by_cases c1 : zm_I N (45 + 63 * p + 39 + 3 * i) 0 = 0
    · rw [show fm_cuS s (45 + 63 * p) i N = (false, N) from if_pos (Or.inl c1)] at ih
      refine zx_if_eq (pc2 := 72) d_Ho_catchUp_69 rfl (tgt := 136) (by decide) (fun _ => ?_) (fun cz => absurd (c1) cz)
      refine zx_inc5 (pc2 := 139) d_Ho_catchUp_136 rfl (zk_1 _) rfl (by decide) ?_
      refine zx_goto (tgt := 43) d_Ho_catchUp_139 (by decide) ?_
      exact ih _
    · refine zx_if_eq (pc2 := 72) d_Ho_catchUp_69 rfl (tgt := 136) (by decide) (fun cz => absurd cz (c1)) (fun _ => ?_)
      refine zx_aload_n (pc2 := 73) d_Ho_catchUp_72 rfl rfl ?_
      refine zm_getR (pc2 := 76) f_Ho_174 d_Ho_catchUp_73 rfl (hst) rfl ?_
      refine zx_iload (pc2 := 78) d_Ho_catchUp_76 rfl rfl ?_
      by_cases c2 : zm_I N (2 + 6 * s + 1 + 2) i = 0
      · have hg := c_Ho_gatherFromStations (l := l) (D := D) (ar := ar) (b := b) (Z := Z) (M := N) (n := n) (id := zm_I N (45 + 63 * p + 39 + 3 * i) 0) hi
        have cc : ¬ (zm_I N (45 + 63 * p + 39 + 3 * i) 0 = 0 ∨ zm_I N (2 + 6 * s + 1 + 2) i ≠ 0) := fun z => z.elim c1 (fun q => q c2)
        refine zk_callV (pc2 := 81) s_Ho_178 v_Sh_has (hsS.1) (c_Sh_has0 hsS hi c2) d_Ho_catchUp_78 rfl rfl rfl (Nat.le_of_ble_eq_true rfl) (by decide) (by decide) ?_
        refine zx_if_ne (pc2 := 84) d_Ho_catchUp_81 rfl (tgt := 136) (by decide) (fun cz => absurd (by decide) cz) (fun _ => ?_)
        refine zx_aload_n (pc2 := 85) d_Ho_catchUp_84 rfl rfl ?_
        refine zx_iload (pc2 := 87) d_Ho_catchUp_85 rfl rfl ?_
        refine zx_iload (pc2 := 89) d_Ho_catchUp_87 rfl rfl ?_
        by_cases c3 : zm_I (fm_gs N i (zm_I N (45 + 63 * p + 39 + 3 * i) 0)) 539 2 = nI 3
        · rw [if_pos c3] at hg
          have g3 : ∀ k, k < 3 → zm_I (fm_gs N i (zm_I N (45 + 63 * p + 39 + 3 * i) 0)) 540 k = nI (gk_p (fm_gs N i (zm_I N (45 + 63 * p + 39 + 3 * i) 0)) k) ∧ gk_p (fm_gs N i (zm_I N (45 + 63 * p + 39 + 3 * i) 0)) k < 8 := gq_3 (gq_gs (pl := i) 7 _ (Nat.le_refl 7) (gq_gst N (zm_I N (45 + 63 * p + 39 + 3 * i) 0))) c3
          rw [show fm_cuS s (45 + 63 * p) i N = _ from (if_neg cc).trans (if_pos c3)] at ih
          dsimp only at ih
          rw [if_pos rfl] at ih
          generalize hG : fm_gs N i (zm_I N (45 + 63 * p + 39 + 3 * i) 0) = G2 at hg g3 ih
          refine zk_callV (pc2 := 92) s_Ho_183 v_Ho_gatherFromStations (zl_c0) (hg) d_Ho_catchUp_89 rfl rfl rfl (Nat.le_of_ble_eq_true rfl) (by decide) (by decide) ?_
          refine zx_if_eq (pc2 := 95) d_Ho_catchUp_92 rfl (tgt := 136) (by decide) (fun cz => absurd cz (by decide)) (fun _ => ?_)
          refine zx_aload_n (pc2 := 96) d_Ho_catchUp_95 rfl rfl ?_
          refine zm_getR (pc2 := 99) f_Ho_35 d_Ho_catchUp_96 rfl (zl_c0) rfl ?_
          refine zx_aload_n (pc2 := 100) d_Ho_catchUp_99 rfl rfl ?_
          refine zm_getR (pc2 := 103) f_Ho_42 d_Ho_catchUp_100 rfl (zl_c0) rfl ?_
          refine zk_callVv (pc2 := 106) s_Ho_186 v_Ga_putTogether (zl_c539) (c_Ga_putTogether hI zl_rb g3 (by decide)) d_Ho_catchUp_103 rfl rfl rfl (Nat.le_of_ble_eq_true rfl) (by decide) (by decide) ?_
          refine zx_aload_n (pc2 := 107) d_Ho_catchUp_106 rfl rfl ?_
          refine zm_getR (pc2 := 110) f_Ho_174 d_Ho_catchUp_107 rfl (hst) rfl ?_
          refine zx_iload (pc2 := 112) d_Ho_catchUp_110 rfl rfl ?_
          refine zx_iconst (pc2 := 113) (v := nI 0) d_Ho_catchUp_112 rfl (by decide) ?_
          refine zx_iload (pc2 := 115) d_Ho_catchUp_113 rfl rfl ?_
          refine zx_aload_n (pc2 := 116) d_Ho_catchUp_115 rfl rfl ?_
          refine zm_getR (pc2 := 119) f_Ho_42 d_Ho_catchUp_116 rfl (zl_c0) rfl ?_
          refine zm_getI (pc2 := 122) f_Ho_190 d_Ho_catchUp_119 rfl (zl_rb.1) rfl ?_
          refine zx_aload_n (pc2 := 123) d_Ho_catchUp_122 rfl rfl ?_
          refine zm_getR (pc2 := 126) f_Ho_42 d_Ho_catchUp_123 rfl (zl_c0) rfl ?_
          refine zx_iload_n (pc2 := 127) d_Ho_catchUp_126 rfl rfl ?_
          refine zk_callV (pc2 := 130) s_Ho_193 v_Re_shareOf (zl_rb.1) (c_Re_shareOf zl_rb) d_Ho_catchUp_127 rfl rfl rfl (Nat.le_of_ble_eq_true rfl) (by decide) (by decide) ?_
          refine zk_callVv (pc2 := 133) s_Ho_197 v_Sh_put (hsS.1) (c_Sh_put hsS hi) d_Ho_catchUp_130 rfl rfl rfl (Nat.le_of_ble_eq_true rfl) (by decide) (by decide) ?_
          refine zx_inc4 (pc2 := 136) d_Ho_catchUp_133 rfl (zk_1 _) rfl (by decide) ?_
          refine zx_inc5 (pc2 := 139) d_Ho_catchUp_136 rfl (zk_1 _) rfl (by decide) ?_
          refine zx_goto (tgt := 43) d_Ho_catchUp_139 (by decide) ?_
          exact ih _
        · rw [if_neg c3] at hg
          rw [show fm_cuS s (45 + 63 * p) i N = _ from (if_neg cc).trans (if_neg c3)] at ih
          dsimp only at ih
          rw [if_neg (by decide)] at ih
          refine zk_callV (pc2 := 92) s_Ho_183 v_Ho_gatherFromStations (zl_c0) (hg) d_Ho_catchUp_89 rfl rfl rfl (Nat.le_of_ble_eq_true rfl) (by decide) (by decide) ?_
          refine zx_if_eq (pc2 := 95) d_Ho_catchUp_92 rfl (tgt := 136) (by decide) (fun _ => ?_) (fun cz => absurd (by decide) cz)
          refine zx_inc5 (pc2 := 139) d_Ho_catchUp_136 rfl (zk_1 _) rfl (by decide) ?_
          refine zx_goto (tgt := 43) d_Ho_catchUp_139 (by decide) ?_
          exact ih _
      · rw [show fm_cuS s (45 + 63 * p) i N = (false, N) from if_pos (Or.inr c2)] at ih
        refine zk_callV (pc2 := 81) s_Ho_178 v_Sh_has (hsS.1) (c_Sh_has1 hsS hi c2) d_Ho_catchUp_78 rfl rfl rfl (Nat.le_of_ble_eq_true rfl) (by decide) (by decide) ?_
        refine zx_if_ne (pc2 := 84) d_Ho_catchUp_81 rfl (tgt := 136) (by decide) (fun _ => ?_) (fun cz => absurd cz (by decide))
        refine zx_inc5 (pc2 := 139) d_Ho_catchUp_136 rfl (zk_1 _) rfl (by decide) ?_
        refine zx_goto (tgt := 43) d_Ho_catchUp_139 (by decide) ?_
        exact ih _
def fs_shr (M : zm_M) (s pl : Nat) (k : Int32) : Int32 := if zm_I M (2 + 6 * s + 1 + 2) pl = 0 then -1 else if k = nI 0 then zm_I M (2 + 6 * s + 1 + 1) pl else if k = nI 1 then zm_I M (2 + 6 * s + 1 + 2) pl else if k = nI 2 then zm_I M (2 + 6 * s + 1 + 3) pl else (if k - nI 3 < ff_third (zm_I M (2 + 6 * s + 1 + 3) pl) then (((zm_J M (2 + 6 * s + 1 + 4) pl).toUInt64 >>> ((nI 8 * (k - nI 3)).toInt64.toUInt64 &&& Int64.toUInt64 63)).toInt64 &&& (255 : Int64)).toInt32 else -1)
theorem c_Ho_share {s pl : Nat} {k : Int32} (hs : s < 7) (hp : pl < 8) (hk : 0 ≤ k) : zK l D ar b Z y_Ho_share 2 [.ref (b + 0), .int (nI s), .int (nI pl), .int k] M n (some (.int (fs_shr M s pl k))) M := by
  have hst := zl_st s hs
  have hsS := zl_stS s hs
  refine zk_entry (L := [some (.ref (b + 0)), some (.int (nI s)), some (.int (nI pl)), some (.int k), none]) rfl rfl (Nat.le_of_ble_eq_true rfl) rfl rfl ?_
  unfold fs_shr
  refine zx_iload_n (pc2 := 1) d_Ho_share_0 rfl rfl ?_
  refine zk_callSv (pc2 := 4) s_Ho_152 t_Ho_checkStation (c_Ho_checkStation hs) d_Ho_share_1 rfl rfl rfl (Nat.le_of_ble_eq_true rfl) (by decide) (by decide) ?_
  refine zx_iload_n (pc2 := 5) d_Ho_share_4 rfl rfl ?_
  refine zk_callSv (pc2 := 8) s_Ho_201 t_Ho_checkPlace (c_Ho_checkPlace hp) d_Ho_share_5 rfl rfl rfl (Nat.le_of_ble_eq_true rfl) (by decide) (by decide) ?_
  refine zx_iload_n (pc2 := 9) d_Ho_share_8 rfl rfl ?_
  refine zx_if_ge (pc2 := 12) d_Ho_share_9 rfl (tgt := 20) (by decide) (fun _ => ?_) (fun cz => absurd (hk) cz)
  refine zx_aload_n (pc2 := 21) d_Ho_share_20 rfl rfl ?_
  refine zm_getR (pc2 := 24) f_Ho_11 d_Ho_share_21 rfl (zl_c0) rfl ?_
  refine zx_iload_n (pc2 := 25) d_Ho_share_24 rfl rfl ?_
  refine zk_aaldC (pc2 := 26) d_Ho_share_25 rfl (by decide) (zl_c1) (by decide) rfl (rfl) (hs) (by decide) ?_
  refine zm_getR (pc2 := 29) f_Ho_174 d_Ho_share_26 rfl (hst) rfl ?_
  refine zx_ast4 (pc2 := 31) d_Ho_share_29 rfl rfl (by decide) ?_
  refine zx_aload (pc2 := 33) d_Ho_share_31 rfl rfl ?_
  refine zx_iload_n (pc2 := 34) d_Ho_share_33 rfl rfl ?_
  by_cases c : zm_I M (2 + 6 * s + 1 + 2) pl = 0
  · rw [if_pos c]
    refine zk_callV (pc2 := 37) s_Ho_178 v_Sh_has (hsS.1) (c_Sh_has0 hsS hp c) d_Ho_share_34 rfl rfl rfl (Nat.le_of_ble_eq_true rfl) (by decide) (by decide) ?_
    refine zx_if_ne (pc2 := 40) d_Ho_share_37 rfl (tgt := 42) (by decide) (fun cz => absurd (by decide) cz) (fun _ => ?_)
    refine zx_iconst (pc2 := 41) (v := -1) d_Ho_share_40 rfl (by decide) ?_
    exact zx_iret d_Ho_share_41 rfl (⟨rfl, rfl, rfl⟩)
  · rw [if_neg c]
    refine zk_callV (pc2 := 37) s_Ho_178 v_Sh_has (hsS.1) (c_Sh_has1 hsS hp c) d_Ho_share_34 rfl rfl rfl (Nat.le_of_ble_eq_true rfl) (by decide) (by decide) ?_
    refine zx_if_ne (pc2 := 40) d_Ho_share_37 rfl (tgt := 42) (by decide) (fun _ => ?_) (fun cz => absurd cz (by decide))
    refine zx_iload_n (pc2 := 43) d_Ho_share_42 rfl rfl ?_
    by_cases c0 : k = nI 0
    · subst c0
      rw [if_pos rfl]
      refine zx_tsw_in (tgt := 68) d_Ho_share_43 (by decide) (by decide) rfl (by decide) ?_
      refine zx_aload (pc2 := 70) d_Ho_share_68 rfl rfl ?_
      refine zm_getR (pc2 := 73) f_Ho_228 d_Ho_share_70 rfl (hsS.1) rfl ?_
      refine zx_iload_n (pc2 := 74) d_Ho_share_73 rfl rfl ?_
      refine zk_iald (pc2 := 75) d_Ho_share_74 rfl (hsS.2.1) (rfl) (hp) (by decide) ?_
      exact zx_iret d_Ho_share_75 rfl (⟨rfl, rfl, rfl⟩)
    · rw [if_neg c0]
      by_cases c1 : k = nI 1
      · subst c1
        rw [if_pos rfl]
        refine zx_tsw_in (tgt := 76) d_Ho_share_43 (by decide) (by decide) rfl (by decide) ?_
        refine zx_aload (pc2 := 78) d_Ho_share_76 rfl rfl ?_
        refine zm_getR (pc2 := 81) f_Ho_232 d_Ho_share_78 rfl (hsS.1) rfl ?_
        refine zx_iload_n (pc2 := 82) d_Ho_share_81 rfl rfl ?_
        refine zk_iald (pc2 := 83) d_Ho_share_82 rfl (hsS.2.2.1) (rfl) (hp) (by decide) ?_
        exact zx_iret d_Ho_share_83 rfl (⟨rfl, rfl, rfl⟩)
      · rw [if_neg c1]
        by_cases c2 : k = nI 2
        · subst c2
          rw [if_pos rfl]
          refine zx_tsw_in (tgt := 84) d_Ho_share_43 (by decide) (by decide) rfl (by decide) ?_
          refine zx_aload (pc2 := 86) d_Ho_share_84 rfl rfl ?_
          refine zm_getR (pc2 := 89) f_Ho_235 d_Ho_share_86 rfl (hsS.1) rfl ?_
          refine zx_iload_n (pc2 := 90) d_Ho_share_89 rfl rfl ?_
          refine zk_iald (pc2 := 91) d_Ho_share_90 rfl (hsS.2.2.2.1) (rfl) (hp) (by decide) ?_
          exact zx_iret d_Ho_share_91 rfl (⟨rfl, rfl, rfl⟩)
        · rw [if_neg c2]
          have hout : k.toInt < 0 ∨ 2 < k.toInt := by
            obtain ⟨q, hq, rfl⟩ := nI_of (show ¬ k < 0 from Int32.not_lt.mpr hk)
            rw [nI_toInt hq]
            refine Or.inr ?_
            have h0 : q ≠ 0 := fun e => c0 (by rw [e])
            have h1 : q ≠ 1 := fun e => c1 (by rw [e])
            have h2 : q ≠ 2 := fun e => c2 (by rw [e])
            omega
          refine zx_tsw_out (tgt := 92) d_Ho_share_43 hout (by decide) ?_
          refine zx_aload (pc2 := 94) d_Ho_share_92 rfl rfl ?_
          refine zx_iload_n (pc2 := 95) d_Ho_share_94 rfl rfl ?_
          refine zx_iload_n (pc2 := 96) d_Ho_share_95 rfl rfl ?_
          refine zx_iconst (pc2 := 97) (v := nI 3) d_Ho_share_96 rfl (by decide) ?_
          refine zx_isub (pc2 := 98) d_Ho_share_97 rfl ?_
          refine zk_callV (pc2 := 101) s_Ho_238 v_Sh_shareByte (hsS.1) (c_Sh_shareByte hsS hp) d_Ho_share_98 rfl rfl rfl (Nat.le_of_ble_eq_true rfl) (by decide) (by decide) ?_
          exact zx_iret d_Ho_share_101 rfl (⟨rfl, rfl, rfl⟩)
end C39
