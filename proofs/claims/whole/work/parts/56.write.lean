/-! LogHouseModel: putting forward, bytes in, what a share is -/
def gm_pf (M : zm_M) (p pl : Nat) (id : Int32) (len ra at0 k : Nat) : zm_M := gm_up (zm_wI (zm_wI (zm_wI M 560 (8 * p + pl) id) 561 (8 * p + pl) (nI len)) 562 (8 * p + pl) (nI 0)) 563 (24 * (8 * p + pl)) k (fun x => zm_I M ra (at0 + x))
theorem gm_pf_n {M : zm_M} {p pl len ra at0 k r x : Nat} {id : Int32} (h : r ≠ 560 ∧ r ≠ 561 ∧ r ≠ 562 ∧ r ≠ 563) : zm_I (gm_pf M p pl id len ra at0 k) r x = zm_I M r x := by
  unfold gm_pf
  rw [gm_upn (Or.inl h.2.2.2), zm_In (Or.inl h.2.2.1), zm_In (Or.inl h.2.1), zm_In (Or.inl h.1)]
theorem zm_w_self {M : zm_M} {r k : Nat} : zm_wI M r k (zm_I M r k) = M := by
  unfold zm_wI zm_u zm_I
  refine Prod.ext ?_ rfl
  funext r' k'
  show (if r' = r ∧ k' = k then M.1 r k else M.1 r' k') = M.1 r' k'
  split
  · rename_i c
    rw [c.1, c.2]
  · rfl
theorem zm_w_w {M : zm_M} {r k r' k' : Nat} {u v w : Int32} (h : r' ≠ r) : zm_wI (zm_wI (zm_wI M r k u) r' k' v) r k w = zm_wI (zm_wI M r' k' v) r k w := by
  unfold zm_wI zm_u
  refine Prod.ext ?_ rfl
  funext a c
  show (if a = r ∧ c = k then w else if a = r' ∧ c = k' then v else if a = r ∧ c = k then u else M.1 a c) = if a = r ∧ c = k then w else if a = r' ∧ c = k' then v else M.1 a c
  by_cases c1 : a = r ∧ c = k
  · rw [if_pos c1, if_pos c1]
  · rw [if_neg c1, if_neg c1, if_neg c1]
theorem nI_dec {a : Nat} : nI (a + 1) + Int32.ofInt (-1) = nI a := by
  rw [nI_succ, Int32.add_assoc, show (1 : Int32) + Int32.ofInt (-1) = 0 by decide, Int32.add_zero]
def gs_dn (m q : Nat) : Int32 := if q < m then nI (m - 1 - q) else -1
theorem gs_dnS {m q : Nat} (h : q < m) : nI (m - 1 - q) + Int32.ofInt (-1) = gs_dn m (q + 1) := by
  unfold gs_dn
  by_cases c : q + 1 < m
  · rw [if_pos c, show m - 1 - q = (m - 1 - (q + 1)) + 1 by omega, nI_dec]
  · rw [if_neg c, show m - 1 - q = 0 by omega]
    decide
def gs_wb (w : Int32) (m x : Nat) : Int32 := (w >>> (nI (8 * (m - 1 - x)) &&& 31)) &&& nI 255
def gm_bi (M : zm_M) (p : Nat) (w : Int32) (dl m q : Nat) : zm_M := zm_wI (gm_up (gm_t M 0) 557 (24 * p + dl) q (gs_wb w m)) 558 p (nI (dl + q))
section C56
variable {l : Launch} {D : va_G} {ar : Nat → ClassId} {b : Nat} {Z : State → Prop} {M : zm_M} {n : Nat}
theorem c_Mo_putForward {p pl len ra N at0 : Nat} {id : Int32} (hp : p < 2) (hpl : pl < 8) (hlen : len ≤ 24) (hl : zl ra = some (.inl (0, N, 0, 0))) (hra : ra ≠ 560 ∧ ra ≠ 561 ∧ ra ≠ 562 ∧ ra ≠ 563) (hN : N < 1000) (hat : at0 + len ≤ N) : zK l D ar b Z y_Mo_putForward 0 [.ref (b + 546), .int (nI p), .int (nI pl), .int id, .ref (b + ra), .int (nI at0), .int (nI len)] M n none (gm_pf M p pl id len ra at0 len) := by
  refine zk_entry (L := [some (.ref (b + 546)), some (.int (nI p)), some (.int (nI pl)), some (.int id), some (.ref (b + ra)), some (.int (nI at0)), some (.int (nI len)), none, none]) rfl rfl (Nat.le_of_ble_eq_true rfl) rfl rfl ?_
  refine zx_bipush (pc2 := 2) (v := nI 8) d_Mo_putForward_0 rfl (by decide) ?_
  refine zx_iload_n (pc2 := 3) d_Mo_putForward_2 rfl rfl ?_
  first | refine zx_imulN (pc2 := 4) d_Mo_putForward_3 rfl ?_ | refine zx_imul (pc2 := 4) d_Mo_putForward_3 rfl ?_
  refine zx_iload_n (pc2 := 5) d_Mo_putForward_4 rfl rfl ?_
  first | refine zx_iaddN (pc2 := 6) d_Mo_putForward_5 rfl ?_ | refine zx_iadd (pc2 := 6) d_Mo_putForward_5 rfl ?_
  refine zx_ist7 (pc2 := 8) d_Mo_putForward_6 rfl rfl (by decide) ?_
  refine zx_aload_n (pc2 := 9) d_Mo_putForward_8 rfl rfl ?_
  refine zm_getR (pc2 := 12) f_Mo_57 d_Mo_putForward_9 rfl zl_c546 rfl ?_
  refine zx_iload (pc2 := 14) d_Mo_putForward_12 rfl rfl ?_
  refine zx_iload_n (pc2 := 15) d_Mo_putForward_14 rfl rfl ?_
  refine zk_iast (pc2 := 16) d_Mo_putForward_15 rfl (by rfl) rfl (by omega) (by decide) ?_
  refine zx_aload_n (pc2 := 17) d_Mo_putForward_16 rfl rfl ?_
  refine zm_getR (pc2 := 20) f_Mo_60 d_Mo_putForward_17 rfl zl_c546 rfl ?_
  refine zx_iload (pc2 := 22) d_Mo_putForward_20 rfl rfl ?_
  refine zx_iload (pc2 := 24) d_Mo_putForward_22 rfl rfl ?_
  refine zk_iast (pc2 := 25) d_Mo_putForward_24 rfl (by rfl) rfl (by omega) (by decide) ?_
  refine zx_aload_n (pc2 := 26) d_Mo_putForward_25 rfl rfl ?_
  refine zm_getR (pc2 := 29) f_Mo_63 d_Mo_putForward_26 rfl zl_c546 rfl ?_
  refine zx_iload (pc2 := 31) d_Mo_putForward_29 rfl rfl ?_
  refine zx_iconst (pc2 := 32) (v := nI 0) d_Mo_putForward_31 rfl (by decide) ?_
  refine zk_iast (pc2 := 33) d_Mo_putForward_32 rfl (by rfl) rfl (by omega) (by decide) ?_
  refine zx_iconst (pc2 := 34) (v := nI 0) d_Mo_putForward_33 rfl (by decide) ?_
  refine zx_ist8 (pc2 := 36) d_Mo_putForward_34 rfl rfl (by decide) ?_
  have h0 : gm_pf M p pl id len ra at0 0 = _ := gm_up0
  refine Eq.mp (congrArg (fun w => zk_X l D ar b Z y_Mo_putForward 0 none (gm_pf M p pl id len ra at0 len) n 36 [some (.ref (b + 546)), some (.int (nI p)), some (.int (nI pl)), some (.int id), some (.ref (b + ra)), some (.int (nI at0)), some (.int (nI len)), some (.int (nI (8 * p + pl))), some (.int (nI 0))] [] w) h0) ?_
  refine zx_for (X := fun k => zk_X l D ar b Z y_Mo_putForward 0 none (gm_pf M p pl id len ra at0 len) n 36 [some (.ref (b + 546)), some (.int (nI p)), some (.int (nI pl)), some (.int id), some (.ref (b + ra)), some (.int (nI at0)), some (.int (nI len)), some (.int (nI (8 * p + pl))), some (.int (nI k))] [] (gm_pf M p pl id len ra at0 k)) len ?_ ?_ 0 (Nat.zero_le _)
  · refine zx_iload (pc2 := 38) d_Mo_putForward_36 rfl rfl ?_
    refine zx_iload (pc2 := 40) d_Mo_putForward_38 rfl rfl ?_
    refine zx_icmp_ge (pc2 := 43) d_Mo_putForward_40 rfl (tgt := 70) (by decide) (fun _ => ?_) (fun cz => absurd (nI_le (Nat.le_refl _) (by omega)) cz)
    exact zx_vret d_Mo_putForward_70 rfl (⟨rfl, rfl, rfl⟩)
  · intro k hk ih
    have eS : gm_pf M p pl id len ra at0 (k + 1) = zm_wI (gm_pf M p pl id len ra at0 k) 563 (24 * (8 * p + pl) + k) (zm_I M ra (at0 + k)) := gm_upS.symm
    rw [eS] at ih
    refine zx_iload (pc2 := 38) d_Mo_putForward_36 rfl rfl ?_
    refine zx_iload (pc2 := 40) d_Mo_putForward_38 rfl rfl ?_
    refine zx_icmp_ge (pc2 := 43) d_Mo_putForward_40 rfl (tgt := 70) (by decide) (fun cz => absurd cz (nI_ge hk (by omega))) (fun _ => ?_)
    refine zx_aload_n (pc2 := 44) d_Mo_putForward_43 rfl rfl ?_
    refine zm_getR (pc2 := 47) f_Mo_66 d_Mo_putForward_44 rfl zl_c546 rfl ?_
    refine zx_bipush (pc2 := 49) (v := nI 24) d_Mo_putForward_47 rfl (by decide) ?_
    refine zx_iload (pc2 := 51) d_Mo_putForward_49 rfl rfl ?_
    first | refine zx_imulN (pc2 := 52) d_Mo_putForward_51 rfl ?_ | refine zx_imul (pc2 := 52) d_Mo_putForward_51 rfl ?_
    refine zx_iload (pc2 := 54) d_Mo_putForward_52 rfl rfl ?_
    first | refine zx_iaddN (pc2 := 55) d_Mo_putForward_54 rfl ?_ | refine zx_iadd (pc2 := 55) d_Mo_putForward_54 rfl ?_
    refine zx_aload (pc2 := 57) d_Mo_putForward_55 rfl rfl ?_
    refine zx_iload (pc2 := 59) d_Mo_putForward_57 rfl rfl ?_
    refine zx_iload (pc2 := 61) d_Mo_putForward_59 rfl rfl ?_
    first | refine zx_iaddN (pc2 := 62) d_Mo_putForward_61 rfl ?_ | refine zx_iadd (pc2 := 62) d_Mo_putForward_61 rfl ?_
    refine zk_ialdV (pc2 := 63) d_Mo_putForward_62 rfl hl rfl (by omega) (by omega) (gm_pf_n hra) ?_
    refine zk_iast (pc2 := 64) d_Mo_putForward_63 rfl (by rfl) rfl (by omega) (by decide) ?_
    refine zx_inc8 (pc2 := 67) d_Mo_putForward_64 rfl (zk_1 _) rfl (by decide) ?_
    refine zx_goto (tgt := 36) d_Mo_putForward_67 (by decide) ?_
    exact ih
theorem c_Mo_byteIn1 {p dl m : Nat} {w : Int32} (hp : p < 2) (hd : zm_I M 558 p = nI dl) (hm : 1 ≤ m) (hm4 : m ≤ 4) (hfit : dl + m ≤ 24) : zK l D ar b Z y_Mo_byteIn 1 [.ref (b + 546), .int (nI p), .int w, .int (nI m)] M n (some (.int (nI 1))) (gm_bi M p w dl m m) := by
  have hd' : zm_I (gm_t M 0) 558 p = nI dl := (zm_In (Or.inl (by decide))).trans hd
  refine zk_entry (L := [some (.ref (b + 546)), some (.int (nI p)), some (.int w), some (.int (nI m)), none]) rfl rfl (Nat.le_of_ble_eq_true rfl) rfl rfl ?_
  refine zx_aload_n (pc2 := 1) d_Mo_byteIn_0 rfl rfl ?_
  refine zx_iconst (pc2 := 2) (v := nI 0) d_Mo_byteIn_1 rfl (by decide) ?_
  refine zm_putI (pc2 := 5) p_Mo_7 d_Mo_byteIn_2 rfl zl_c546 rfl rfl rfl ?_
  refine zx_iload_n (pc2 := 6) d_Mo_byteIn_5 rfl rfl ?_
  refine zk_callS (pc2 := 9) s_Mo_158 t_Mo_noProposer (c_Mo_noP0 hp) d_Mo_byteIn_6 rfl rfl rfl (Nat.le_of_ble_eq_true rfl) (by decide) (by decide) ?_
  refine zx_if_ne (pc2 := 12) d_Mo_byteIn_9 rfl (tgt := 35) (by decide) (fun cz => absurd (by decide) cz) (fun _ => ?_)
  refine zx_iload_n (pc2 := 13) d_Mo_byteIn_12 rfl rfl ?_
  refine zx_iconst (pc2 := 14) (v := nI 1) d_Mo_byteIn_13 rfl (by decide) ?_
  refine zx_icmp_lt (pc2 := 17) d_Mo_byteIn_14 rfl (tgt := 35) (by decide) (fun cz => absurd cz (nI_nlt hm (by omega))) (fun _ => ?_)
  refine zx_iload_n (pc2 := 18) d_Mo_byteIn_17 rfl rfl ?_
  refine zx_iconst (pc2 := 19) (v := nI 4) d_Mo_byteIn_18 rfl (by decide) ?_
  refine zx_icmp_gt (pc2 := 22) d_Mo_byteIn_19 rfl (tgt := 35) (by decide) (fun cz => absurd cz (nI_nlt hm4 (by omega))) (fun _ => ?_)
  refine zx_aload_n (pc2 := 23) d_Mo_byteIn_22 rfl rfl ?_
  refine zm_getR (pc2 := 26) f_Mo_51 d_Mo_byteIn_23 rfl zl_c546 rfl ?_
  refine zx_iload_n (pc2 := 27) d_Mo_byteIn_26 rfl rfl ?_
  refine zk_ialdV (pc2 := 28) d_Mo_byteIn_27 rfl (by rfl) rfl (by omega) (by decide) (hd') ?_
  refine zx_iload_n (pc2 := 29) d_Mo_byteIn_28 rfl rfl ?_
  first | refine zx_iaddN (pc2 := 30) d_Mo_byteIn_29 rfl ?_ | refine zx_iadd (pc2 := 30) d_Mo_byteIn_29 rfl ?_
  refine zx_bipush (pc2 := 32) (v := nI 24) d_Mo_byteIn_30 rfl (by decide) ?_
  refine zx_icmp_le (pc2 := 35) d_Mo_byteIn_32 rfl (tgt := 37) (by decide) (fun _ => ?_) (fun cz => absurd (nI_le hfit (by omega)) cz)
  refine zx_iload_n (pc2 := 38) d_Mo_byteIn_37 rfl rfl ?_
  refine zx_iconst (pc2 := 39) (v := nI 1) d_Mo_byteIn_38 rfl (by decide) ?_
  refine zx_isubE (m - 1) (pc2 := 40) d_Mo_byteIn_39 rfl (by omega) ?_
  refine zx_ist4 (pc2 := 42) d_Mo_byteIn_40 rfl rfl (by decide) ?_
  have h0 : gm_bi M p w dl m 0 = gm_t M 0 := by
    unfold gm_bi
    rw [gm_up0, Nat.add_zero, ← hd']
    exact zm_w_self
  have hdn : gs_dn m 0 = nI (m - 1) := if_pos (by omega)
  refine Eq.mp (congrArg (fun w' => zk_X l D ar b Z y_Mo_byteIn 1 (some (.int (nI 1))) (gm_bi M p w dl m m) n 42 [some (.ref (b + 546)), some (.int (nI p)), some (.int w), some (.int (nI m)), some (.int (nI (m - 1)))] [] w') h0) ?_
  refine Eq.mp (congrArg (fun w' => zk_X l D ar b Z y_Mo_byteIn 1 (some (.int (nI 1))) (gm_bi M p w dl m m) n 42 [some (.ref (b + 546)), some (.int (nI p)), some (.int w), some (.int (nI m)), some (.int w')] [] (gm_bi M p w dl m 0)) hdn) ?_
  refine zx_for (X := fun q => zk_X l D ar b Z y_Mo_byteIn 1 (some (.int (nI 1))) (gm_bi M p w dl m m) n 42 [some (.ref (b + 546)), some (.int (nI p)), some (.int w), some (.int (nI m)), some (.int (gs_dn m q))] [] (gm_bi M p w dl m q)) m ?_ ?_ 0 (Nat.zero_le _)
  · have e : gs_dn m m = -1 := if_neg (by omega)
    rw [e]
    refine zx_iload (pc2 := 44) d_Mo_byteIn_42 rfl rfl ?_
    refine zx_if_lt (pc2 := 47) d_Mo_byteIn_44 rfl (tgt := 94) (by decide) (fun _ => ?_) (fun cz => absurd (by decide) cz)
    refine zx_iconst (pc2 := 95) (v := nI 1) d_Mo_byteIn_94 rfl (by decide) ?_
    exact zx_zret d_Mo_byteIn_95 rfl rfl (⟨rfl, rfl, rfl⟩)
  · intro q hq ih
    have e : gs_dn m q = nI (m - 1 - q) := if_pos hq
    rw [e]
    have eS : gm_bi M p w dl m (q + 1) = zm_wI (zm_wI (gm_bi M p w dl m q) 557 (24 * p + (dl + q)) (gs_wb w m q)) 558 p (nI (dl + q + 1)) := by
      unfold gm_bi
      rw [zm_w_w (by decide), ← gm_upS, Nat.add_assoc (24 * p) dl q, Nat.add_assoc dl q 1]
    rw [eS] at ih
    refine zx_iload (pc2 := 44) d_Mo_byteIn_42 rfl rfl ?_
    refine zx_if_lt (pc2 := 47) d_Mo_byteIn_44 rfl (tgt := 94) (by decide) (fun cz => absurd cz (nI_pos (by omega))) (fun _ => ?_)
    refine zx_aload_n (pc2 := 48) d_Mo_byteIn_47 rfl rfl ?_
    refine zm_getR (pc2 := 51) f_Mo_48 d_Mo_byteIn_48 rfl zl_c546 rfl ?_
    refine zx_bipush (pc2 := 53) (v := nI 24) d_Mo_byteIn_51 rfl (by decide) ?_
    refine zx_iload_n (pc2 := 54) d_Mo_byteIn_53 rfl rfl ?_
    first | refine zx_imulN (pc2 := 55) d_Mo_byteIn_54 rfl ?_ | refine zx_imul (pc2 := 55) d_Mo_byteIn_54 rfl ?_
    refine zx_aload_n (pc2 := 56) d_Mo_byteIn_55 rfl rfl ?_
    refine zm_getR (pc2 := 59) f_Mo_51 d_Mo_byteIn_56 rfl zl_c546 rfl ?_
    refine zx_iload_n (pc2 := 60) d_Mo_byteIn_59 rfl rfl ?_
    refine zk_ialdV (pc2 := 61) d_Mo_byteIn_60 rfl (by rfl) rfl (by omega) (by decide) (zm_Is) ?_
    first | refine zx_iaddN (pc2 := 62) d_Mo_byteIn_61 rfl ?_ | refine zx_iadd (pc2 := 62) d_Mo_byteIn_61 rfl ?_
    refine zx_iload_n (pc2 := 63) d_Mo_byteIn_62 rfl rfl ?_
    refine zx_bipush (pc2 := 65) (v := nI 8) d_Mo_byteIn_63 rfl (by decide) ?_
    refine zx_iload (pc2 := 67) d_Mo_byteIn_65 rfl rfl ?_
    first | refine zx_imulN (pc2 := 68) d_Mo_byteIn_67 rfl ?_ | refine zx_imul (pc2 := 68) d_Mo_byteIn_67 rfl ?_
    refine zx_ishr (pc2 := 69) d_Mo_byteIn_68 rfl ?_
    refine zx_sipush (pc2 := 72) (v := nI 255) d_Mo_byteIn_69 rfl (by decide) ?_
    refine zx_iand (pc2 := 73) d_Mo_byteIn_72 rfl ?_
    refine zk_iast (pc2 := 74) d_Mo_byteIn_73 rfl (by rfl) rfl (by omega) (by decide) ?_
    refine zx_aload_n (pc2 := 75) d_Mo_byteIn_74 rfl rfl ?_
    refine zm_getR (pc2 := 78) f_Mo_51 d_Mo_byteIn_75 rfl zl_c546 rfl ?_
    refine zx_iload_n (pc2 := 79) d_Mo_byteIn_78 rfl rfl ?_
    refine zx_aload_n (pc2 := 80) d_Mo_byteIn_79 rfl rfl ?_
    refine zm_getR (pc2 := 83) f_Mo_51 d_Mo_byteIn_80 rfl zl_c546 rfl ?_
    refine zx_iload_n (pc2 := 84) d_Mo_byteIn_83 rfl rfl ?_
    refine zk_ialdV (pc2 := 85) d_Mo_byteIn_84 rfl (by rfl) rfl (by omega) (by decide) ((zm_In (Or.inl (by decide))).trans zm_Is) ?_
    refine zx_iconst (pc2 := 86) (v := nI 1) d_Mo_byteIn_85 rfl (by decide) ?_
    first | refine zx_iaddN (pc2 := 87) d_Mo_byteIn_86 rfl ?_ | refine zx_iadd (pc2 := 87) d_Mo_byteIn_86 rfl ?_
    refine zk_iast (pc2 := 88) d_Mo_byteIn_87 rfl (by rfl) rfl (by omega) (by decide) ?_
    refine zx_inc4 (pc2 := 91) (x := nI (m - 1 - q)) (v := gs_dn m (q + 1)) d_Mo_byteIn_88 rfl (gs_dnS hq) rfl (by decide) ?_
    refine zx_goto (tgt := 42) d_Mo_byteIn_91 (by decide) ?_
    exact ih
theorem c_Mo_byteIn0 {x w m : Int32} (h : (x < 0 ∨ nI 2 ≤ x) ∨ m < nI 1 ∨ ¬ m ≤ nI 4) : zK l D ar b Z y_Mo_byteIn 1 [.ref (b + 546), .int x, .int w, .int m] M n (some (.int (nI 0))) (gm_t M 0) := by
  have hI := c_Mo_noProposer (l := l) (D := D) (ar := ar) (b := b) (Z := Z) (M := gm_t M 0) (n := n) (x := x)
  refine zk_entry (L := [some (.ref (b + 546)), some (.int x), some (.int w), some (.int m), none]) rfl rfl (Nat.le_of_ble_eq_true rfl) rfl rfl ?_
  by_cases c : x < 0 ∨ nI 2 ≤ x
  · rw [if_pos (gx_2 c)] at hI
    refine zx_aload_n (pc2 := 1) d_Mo_byteIn_0 rfl rfl ?_
    refine zx_iconst (pc2 := 2) (v := nI 0) d_Mo_byteIn_1 rfl (by decide) ?_
    refine zm_putI (pc2 := 5) p_Mo_7 d_Mo_byteIn_2 rfl zl_c546 rfl rfl rfl ?_
    refine zx_iload_n (pc2 := 6) d_Mo_byteIn_5 rfl rfl ?_
    refine zk_callS (pc2 := 9) s_Mo_158 t_Mo_noProposer (hI) d_Mo_byteIn_6 rfl rfl rfl (Nat.le_of_ble_eq_true rfl) (by decide) (by decide) ?_
    refine zx_if_ne (pc2 := 12) d_Mo_byteIn_9 rfl (tgt := 35) (by decide) (fun _ => ?_) (fun cz => absurd cz (by decide))
    refine zx_iconst (pc2 := 36) (v := nI 0) d_Mo_byteIn_35 rfl (by decide) ?_
    exact zx_zret d_Mo_byteIn_36 rfl rfl (⟨rfl, rfl, rfl⟩)
  · by_cases c0 : x < 0 ∨ ¬ x ≤ nI 1
    · rw [if_pos c0] at hI
      refine zx_aload_n (pc2 := 1) d_Mo_byteIn_0 rfl rfl ?_
      refine zx_iconst (pc2 := 2) (v := nI 0) d_Mo_byteIn_1 rfl (by decide) ?_
      refine zm_putI (pc2 := 5) p_Mo_7 d_Mo_byteIn_2 rfl zl_c546 rfl rfl rfl ?_
      refine zx_iload_n (pc2 := 6) d_Mo_byteIn_5 rfl rfl ?_
      refine zk_callS (pc2 := 9) s_Mo_158 t_Mo_noProposer (hI) d_Mo_byteIn_6 rfl rfl rfl (Nat.le_of_ble_eq_true rfl) (by decide) (by decide) ?_
      refine zx_if_ne (pc2 := 12) d_Mo_byteIn_9 rfl (tgt := 35) (by decide) (fun _ => ?_) (fun cz => absurd cz (by decide))
      refine zx_iconst (pc2 := 36) (v := nI 0) d_Mo_byteIn_35 rfl (by decide) ?_
      exact zx_zret d_Mo_byteIn_36 rfl rfl (⟨rfl, rfl, rfl⟩)
    · rw [if_neg c0] at hI
      by_cases c2 : m < nI 1
      · refine zx_aload_n (pc2 := 1) d_Mo_byteIn_0 rfl rfl ?_
        refine zx_iconst (pc2 := 2) (v := nI 0) d_Mo_byteIn_1 rfl (by decide) ?_
        refine zm_putI (pc2 := 5) p_Mo_7 d_Mo_byteIn_2 rfl zl_c546 rfl rfl rfl ?_
        refine zx_iload_n (pc2 := 6) d_Mo_byteIn_5 rfl rfl ?_
        refine zk_callS (pc2 := 9) s_Mo_158 t_Mo_noProposer (hI) d_Mo_byteIn_6 rfl rfl rfl (Nat.le_of_ble_eq_true rfl) (by decide) (by decide) ?_
        refine zx_if_ne (pc2 := 12) d_Mo_byteIn_9 rfl (tgt := 35) (by decide) (fun cz => absurd (by decide) cz) (fun _ => ?_)
        refine zx_iload_n (pc2 := 13) d_Mo_byteIn_12 rfl rfl ?_
        refine zx_iconst (pc2 := 14) (v := nI 1) d_Mo_byteIn_13 rfl (by decide) ?_
        refine zx_icmp_lt (pc2 := 17) d_Mo_byteIn_14 rfl (tgt := 35) (by decide) (fun _ => ?_) (fun cz => absurd (c2) cz)
        refine zx_iconst (pc2 := 36) (v := nI 0) d_Mo_byteIn_35 rfl (by decide) ?_
        exact zx_zret d_Mo_byteIn_36 rfl rfl (⟨rfl, rfl, rfl⟩)
      · refine zx_aload_n (pc2 := 1) d_Mo_byteIn_0 rfl rfl ?_
        refine zx_iconst (pc2 := 2) (v := nI 0) d_Mo_byteIn_1 rfl (by decide) ?_
        refine zm_putI (pc2 := 5) p_Mo_7 d_Mo_byteIn_2 rfl zl_c546 rfl rfl rfl ?_
        refine zx_iload_n (pc2 := 6) d_Mo_byteIn_5 rfl rfl ?_
        refine zk_callS (pc2 := 9) s_Mo_158 t_Mo_noProposer (hI) d_Mo_byteIn_6 rfl rfl rfl (Nat.le_of_ble_eq_true rfl) (by decide) (by decide) ?_
        refine zx_if_ne (pc2 := 12) d_Mo_byteIn_9 rfl (tgt := 35) (by decide) (fun cz => absurd (by decide) cz) (fun _ => ?_)
        refine zx_iload_n (pc2 := 13) d_Mo_byteIn_12 rfl rfl ?_
        refine zx_iconst (pc2 := 14) (v := nI 1) d_Mo_byteIn_13 rfl (by decide) ?_
        refine zx_icmp_lt (pc2 := 17) d_Mo_byteIn_14 rfl (tgt := 35) (by decide) (fun cz => absurd cz (c2)) (fun _ => ?_)
        refine zx_iload_n (pc2 := 18) d_Mo_byteIn_17 rfl rfl ?_
        refine zx_iconst (pc2 := 19) (v := nI 4) d_Mo_byteIn_18 rfl (by decide) ?_
        refine zx_icmp_gt (pc2 := 22) d_Mo_byteIn_19 rfl (tgt := 35) (by decide) (fun _ => ?_) (fun cz => absurd (Int32.not_le.mp ((h.resolve_left c).resolve_left c2)) cz)
        refine zx_iconst (pc2 := 36) (v := nI 0) d_Mo_byteIn_35 rfl (by decide) ?_
        exact zx_zret d_Mo_byteIn_36 rfl rfl (⟨rfl, rfl, rfl⟩)
theorem c_Mo_byteInF {p dl m : Nat} {w : Int32} (hp : p < 2) (hd : zm_I M 558 p = nI dl) (hdl : dl ≤ 24) (hm : 1 ≤ m) (hm4 : m ≤ 4) (hfit : ¬ dl + m ≤ 24) : zK l D ar b Z y_Mo_byteIn 1 [.ref (b + 546), .int (nI p), .int w, .int (nI m)] M n (some (.int (nI 0))) (gm_t M 0) := by
  have hd' : zm_I (gm_t M 0) 558 p = nI dl := (zm_In (Or.inl (by decide))).trans hd
  refine zk_entry (L := [some (.ref (b + 546)), some (.int (nI p)), some (.int w), some (.int (nI m)), none]) rfl rfl (Nat.le_of_ble_eq_true rfl) rfl rfl ?_
  refine zx_aload_n (pc2 := 1) d_Mo_byteIn_0 rfl rfl ?_
  refine zx_iconst (pc2 := 2) (v := nI 0) d_Mo_byteIn_1 rfl (by decide) ?_
  refine zm_putI (pc2 := 5) p_Mo_7 d_Mo_byteIn_2 rfl zl_c546 rfl rfl rfl ?_
  refine zx_iload_n (pc2 := 6) d_Mo_byteIn_5 rfl rfl ?_
  refine zk_callS (pc2 := 9) s_Mo_158 t_Mo_noProposer (c_Mo_noP0 hp) d_Mo_byteIn_6 rfl rfl rfl (Nat.le_of_ble_eq_true rfl) (by decide) (by decide) ?_
  refine zx_if_ne (pc2 := 12) d_Mo_byteIn_9 rfl (tgt := 35) (by decide) (fun cz => absurd (by decide) cz) (fun _ => ?_)
  refine zx_iload_n (pc2 := 13) d_Mo_byteIn_12 rfl rfl ?_
  refine zx_iconst (pc2 := 14) (v := nI 1) d_Mo_byteIn_13 rfl (by decide) ?_
  refine zx_icmp_lt (pc2 := 17) d_Mo_byteIn_14 rfl (tgt := 35) (by decide) (fun cz => absurd cz (nI_nlt hm (by omega))) (fun _ => ?_)
  refine zx_iload_n (pc2 := 18) d_Mo_byteIn_17 rfl rfl ?_
  refine zx_iconst (pc2 := 19) (v := nI 4) d_Mo_byteIn_18 rfl (by decide) ?_
  refine zx_icmp_gt (pc2 := 22) d_Mo_byteIn_19 rfl (tgt := 35) (by decide) (fun cz => absurd cz (nI_nlt hm4 (by omega))) (fun _ => ?_)
  refine zx_aload_n (pc2 := 23) d_Mo_byteIn_22 rfl rfl ?_
  refine zm_getR (pc2 := 26) f_Mo_51 d_Mo_byteIn_23 rfl zl_c546 rfl ?_
  refine zx_iload_n (pc2 := 27) d_Mo_byteIn_26 rfl rfl ?_
  refine zk_ialdV (pc2 := 28) d_Mo_byteIn_27 rfl (by rfl) rfl (by omega) (by decide) (hd') ?_
  refine zx_iload_n (pc2 := 29) d_Mo_byteIn_28 rfl rfl ?_
  first | refine zx_iaddN (pc2 := 30) d_Mo_byteIn_29 rfl ?_ | refine zx_iadd (pc2 := 30) d_Mo_byteIn_29 rfl ?_
  refine zx_bipush (pc2 := 32) (v := nI 24) d_Mo_byteIn_30 rfl (by decide) ?_
  refine zx_icmp_le (pc2 := 35) d_Mo_byteIn_32 rfl (tgt := 37) (by decide) (fun cz => absurd cz (nI_ge (by omega) (by omega))) (fun _ => ?_)
  refine zx_iconst (pc2 := 36) (v := nI 0) d_Mo_byteIn_35 rfl (by decide) ?_
  exact zx_zret d_Mo_byteIn_36 rfl rfl (⟨rfl, rfl, rfl⟩)
def gs_share (M : zm_M) (s pl : Nat) (k : Int32) : Int32 := if zm_I M 550 (88 * s + 11 * pl + 2) = 0 then -1 else if k < nI 3 + gs_third (zm_I M 550 (88 * s + 11 * pl + 2)) then zm_I M 550 (88 * s + 11 * pl + k.toNatClampNeg) else -1
theorem c_Mo_share {s pl len : Nat} {k : Int32} (hs : s < 7) (hp : pl < 8) (hk : 0 ≤ k) (hln : zm_I M 550 (88 * s + 11 * pl + 2) = nI len) (hlen : len ≤ 24) : zK l D ar b Z y_Mo_share 1 [.ref (b + 546), .int (nI s), .int (nI pl), .int k] M n (some (.int (gs_share M s pl k))) (gm_t M 0) := by
  have hln' : zm_I (gm_t M 0) 550 (88 * s + 11 * pl + 2) = nI len := (zm_In (Or.inl (by decide))).trans hln
  have h3 := c_Mo_third (l := l) (D := D) (ar := ar) (b := b) (Z := Z) (M := gm_t M 0) (n := n) (x := nI len)
  rw [gs_third_nI (by omega)] at h3
  obtain ⟨q, hq, rfl⟩ := nI_of (show ¬ k < 0 from Int32.not_lt.mpr hk)
  refine zk_entry (L := [some (.ref (b + 546)), some (.int (nI s)), some (.int (nI pl)), some (.int (nI q)), none, none]) rfl rfl (Nat.le_of_ble_eq_true rfl) rfl rfl ?_
  unfold gs_share
  rw [hln, gs_third_nI (by omega), nI_add, nI_clamp hq]
  refine zx_aload_n (pc2 := 1) d_Mo_share_0 rfl rfl ?_
  refine zx_iload_n (pc2 := 2) d_Mo_share_1 rfl rfl ?_
  refine zk_callS (pc2 := 5) s_Mo_179 t_Mo_noStation (c_Mo_noS0 hs) d_Mo_share_2 rfl rfl rfl (Nat.le_of_ble_eq_true rfl) (by decide) (by decide) ?_
  refine zx_if_ne (pc2 := 8) d_Mo_share_5 rfl (tgt := 22) (by decide) (fun cz => absurd (by decide) cz) (fun _ => ?_)
  refine zx_iload_n (pc2 := 9) d_Mo_share_8 rfl rfl ?_
  refine zx_if_lt (pc2 := 12) d_Mo_share_9 rfl (tgt := 22) (by decide) (fun cz => absurd cz (nI_pos (by omega))) (fun _ => ?_)
  refine zx_iload_n (pc2 := 13) d_Mo_share_12 rfl rfl ?_
  refine zx_bipush (pc2 := 15) (v := nI 7) d_Mo_share_13 rfl (by decide) ?_
  refine zx_icmp_gt (pc2 := 18) d_Mo_share_15 rfl (tgt := 22) (by decide) (fun cz => absurd cz (nI_nlt (by omega) (by omega))) (fun _ => ?_)
  refine zx_iload_n (pc2 := 19) d_Mo_share_18 rfl rfl ?_
  refine zx_if_ge (pc2 := 22) d_Mo_share_19 rfl (tgt := 26) (by decide) (fun _ => ?_) (fun cz => absurd (hk) cz)
  refine zx_iconst (pc2 := 27) (v := nI 0) d_Mo_share_26 rfl (by decide) ?_
  refine zm_putI (pc2 := 30) p_Mo_7 d_Mo_share_27 rfl zl_c546 rfl rfl rfl ?_
  refine zx_aload_n (pc2 := 31) d_Mo_share_30 rfl rfl ?_
  refine zm_getV (pc2 := 34) f_Mo_7 d_Mo_share_31 rfl zl_c546 rfl (zm_Is) ?_
  refine zx_if_eq (pc2 := 37) d_Mo_share_34 rfl (tgt := 39) (by decide) (fun _ => ?_) (fun cz => absurd (by decide) cz)
  refine zx_bipush (pc2 := 41) (v := nI 88) d_Mo_share_39 rfl (by decide) ?_
  refine zx_iload_n (pc2 := 42) d_Mo_share_41 rfl rfl ?_
  first | refine zx_imulN (pc2 := 43) d_Mo_share_42 rfl ?_ | refine zx_imul (pc2 := 43) d_Mo_share_42 rfl ?_
  refine zx_bipush (pc2 := 45) (v := nI 11) d_Mo_share_43 rfl (by decide) ?_
  refine zx_iload_n (pc2 := 46) d_Mo_share_45 rfl rfl ?_
  first | refine zx_imulN (pc2 := 47) d_Mo_share_46 rfl ?_ | refine zx_imul (pc2 := 47) d_Mo_share_46 rfl ?_
  first | refine zx_iaddN (pc2 := 48) d_Mo_share_47 rfl ?_ | refine zx_iadd (pc2 := 48) d_Mo_share_47 rfl ?_
  refine zx_ist4 (pc2 := 50) d_Mo_share_48 rfl rfl (by decide) ?_
  refine zx_aload_n (pc2 := 51) d_Mo_share_50 rfl rfl ?_
  refine zm_getR (pc2 := 54) f_Mo_24 d_Mo_share_51 rfl zl_c546 rfl ?_
  refine zx_iload (pc2 := 56) d_Mo_share_54 rfl rfl ?_
  refine zx_iconst (pc2 := 57) (v := nI 2) d_Mo_share_56 rfl (by decide) ?_
  first | refine zx_iaddN (pc2 := 58) d_Mo_share_57 rfl ?_ | refine zx_iadd (pc2 := 58) d_Mo_share_57 rfl ?_
  refine zk_ialdV (pc2 := 59) d_Mo_share_58 rfl (by rfl) rfl (by omega) (by decide) (hln') ?_
  refine zx_ist5 (pc2 := 61) d_Mo_share_59 rfl rfl (by decide) ?_
  refine zx_iload (pc2 := 63) d_Mo_share_61 rfl rfl ?_
  by_cases c : len = 0
  · rw [if_pos (by rw [c]; rfl)]
    refine zx_if_eq (pc2 := 66) d_Mo_share_63 rfl (tgt := 77) (by decide) (fun _ => ?_) (fun cz => absurd ((by rw [c]; rfl)) cz)
    refine zx_iconst (pc2 := 78) (v := -1) d_Mo_share_77 rfl (by decide) ?_
    exact zx_iret d_Mo_share_78 rfl (⟨rfl, rfl, rfl⟩)
  · rw [if_neg (nI_ne0 (by omega) (by omega))]
    by_cases c2 : q < 3 + (len + 2) / 3
    · rw [if_pos (nI_lt c2 (by omega))]
      refine zx_if_eq (pc2 := 66) d_Mo_share_63 rfl (tgt := 77) (by decide) (fun cz => absurd cz (nI_ne0 (by omega) (by omega))) (fun _ => ?_)
      refine zx_iload_n (pc2 := 67) d_Mo_share_66 rfl rfl ?_
      refine zx_iconst (pc2 := 68) (v := nI 3) d_Mo_share_67 rfl (by decide) ?_
      refine zx_iload (pc2 := 70) d_Mo_share_68 rfl rfl ?_
      refine zk_callS (pc2 := 73) s_Mo_100 t_Mo_third (h3) d_Mo_share_70 rfl rfl rfl (Nat.le_of_ble_eq_true rfl) (by decide) (by decide) ?_
      first | refine zx_iaddN (pc2 := 74) d_Mo_share_73 rfl ?_ | refine zx_iadd (pc2 := 74) d_Mo_share_73 rfl ?_
      refine zx_icmp_lt (pc2 := 77) d_Mo_share_74 rfl (tgt := 79) (by decide) (fun _ => ?_) (fun cz => absurd (nI_lt c2 (by omega)) cz)
      refine zx_aload_n (pc2 := 80) d_Mo_share_79 rfl rfl ?_
      refine zm_getR (pc2 := 83) f_Mo_24 d_Mo_share_80 rfl zl_c546 rfl ?_
      refine zx_iload (pc2 := 85) d_Mo_share_83 rfl rfl ?_
      refine zx_iload_n (pc2 := 86) d_Mo_share_85 rfl rfl ?_
      first | refine zx_iaddN (pc2 := 87) d_Mo_share_86 rfl ?_ | refine zx_iadd (pc2 := 87) d_Mo_share_86 rfl ?_
      refine zk_ialdV (pc2 := 88) d_Mo_share_87 rfl (by rfl) rfl (by omega) (by decide) (zm_In (Or.inl (by decide))) ?_
      exact zx_iret d_Mo_share_88 rfl (⟨rfl, rfl, rfl⟩)
    · rw [if_neg (nI_nlt (by omega) hq)]
      refine zx_if_eq (pc2 := 66) d_Mo_share_63 rfl (tgt := 77) (by decide) (fun cz => absurd cz (nI_ne0 (by omega) (by omega))) (fun _ => ?_)
      refine zx_iload_n (pc2 := 67) d_Mo_share_66 rfl rfl ?_
      refine zx_iconst (pc2 := 68) (v := nI 3) d_Mo_share_67 rfl (by decide) ?_
      refine zx_iload (pc2 := 70) d_Mo_share_68 rfl rfl ?_
      refine zk_callS (pc2 := 73) s_Mo_100 t_Mo_third (h3) d_Mo_share_70 rfl rfl rfl (Nat.le_of_ble_eq_true rfl) (by decide) (by decide) ?_
      first | refine zx_iaddN (pc2 := 74) d_Mo_share_73 rfl ?_ | refine zx_iadd (pc2 := 74) d_Mo_share_73 rfl ?_
      refine zx_icmp_lt (pc2 := 77) d_Mo_share_74 rfl (tgt := 79) (by decide) (fun cz => absurd cz (nI_nlt (by omega) hq)) (fun _ => ?_)
      refine zx_iconst (pc2 := 78) (v := -1) d_Mo_share_77 rfl (by decide) ?_
      exact zx_iret d_Mo_share_78 rfl (⟨rfl, rfl, rfl⟩)
theorem x_Mo_share {x y z : Int32} (hx : x < 0 ∨ nI 7 ≤ x) : zK l D ar b Z y_Mo_share 1 [.ref (b + 546), .int x, .int y, .int z] M n (some (.int (nI 0))) (gm_t M 1) := by
  refine zk_entry (L := [some (.ref (b + 546)), some (.int x), some (.int y), some (.int z), none, none]) rfl rfl (Nat.le_of_ble_eq_true rfl) rfl rfl ?_
  refine zx_aload_n (pc2 := 1) d_Mo_share_0 rfl rfl ?_
  refine zx_iload_n (pc2 := 2) d_Mo_share_1 rfl rfl ?_
  refine zk_callS (pc2 := 5) s_Mo_179 t_Mo_noStation (c_Mo_noS1 hx) d_Mo_share_2 rfl rfl rfl (Nat.le_of_ble_eq_true rfl) (by decide) (by decide) ?_
  refine zx_if_ne (pc2 := 8) d_Mo_share_5 rfl (tgt := 22) (by decide) (fun _ => ?_) (fun cz => absurd cz (by decide))
  refine zx_iconst (pc2 := 23) (v := nI 1) d_Mo_share_22 rfl (by decide) ?_
  refine zx_goto (tgt := 27) d_Mo_share_23 (by decide) ?_
  refine zm_putI (pc2 := 30) p_Mo_7 d_Mo_share_27 rfl zl_c546 rfl rfl rfl ?_
  refine zx_aload_n (pc2 := 31) d_Mo_share_30 rfl rfl ?_
  refine zm_getV (pc2 := 34) f_Mo_7 d_Mo_share_31 rfl zl_c546 rfl (zm_Is) ?_
  refine zx_if_eq (pc2 := 37) d_Mo_share_34 rfl (tgt := 39) (by decide) (fun cz => absurd cz (by decide)) (fun _ => ?_)
  refine zx_iconst (pc2 := 38) (v := nI 0) d_Mo_share_37 rfl (by decide) ?_
  exact zx_iret d_Mo_share_38 rfl (⟨rfl, rfl, rfl⟩)
theorem x_Mo_shareP {s : Nat} {y z : Int32} (hs : s < 7) (hx : y < 0 ∨ nI 8 ≤ y) : zK l D ar b Z y_Mo_share 1 [.ref (b + 546), .int (nI s), .int y, .int z] M n (some (.int (nI 0))) (gm_t M 1) := by
  refine zk_entry (L := [some (.ref (b + 546)), some (.int (nI s)), some (.int y), some (.int z), none, none]) rfl rfl (Nat.le_of_ble_eq_true rfl) rfl rfl ?_
  by_cases c : y < 0
  · refine zx_aload_n (pc2 := 1) d_Mo_share_0 rfl rfl ?_
    refine zx_iload_n (pc2 := 2) d_Mo_share_1 rfl rfl ?_
    refine zk_callS (pc2 := 5) s_Mo_179 t_Mo_noStation (c_Mo_noS0 hs) d_Mo_share_2 rfl rfl rfl (Nat.le_of_ble_eq_true rfl) (by decide) (by decide) ?_
    refine zx_if_ne (pc2 := 8) d_Mo_share_5 rfl (tgt := 22) (by decide) (fun cz => absurd (by decide) cz) (fun _ => ?_)
    refine zx_iload_n (pc2 := 9) d_Mo_share_8 rfl rfl ?_
    refine zx_if_lt (pc2 := 12) d_Mo_share_9 rfl (tgt := 22) (by decide) (fun _ => ?_) (fun cz => absurd (c) cz)
    refine zx_iconst (pc2 := 23) (v := nI 1) d_Mo_share_22 rfl (by decide) ?_
    refine zx_goto (tgt := 27) d_Mo_share_23 (by decide) ?_
    refine zm_putI (pc2 := 30) p_Mo_7 d_Mo_share_27 rfl zl_c546 rfl rfl rfl ?_
    refine zx_aload_n (pc2 := 31) d_Mo_share_30 rfl rfl ?_
    refine zm_getV (pc2 := 34) f_Mo_7 d_Mo_share_31 rfl zl_c546 rfl (zm_Is) ?_
    refine zx_if_eq (pc2 := 37) d_Mo_share_34 rfl (tgt := 39) (by decide) (fun cz => absurd cz (by decide)) (fun _ => ?_)
    refine zx_iconst (pc2 := 38) (v := nI 0) d_Mo_share_37 rfl (by decide) ?_
    exact zx_iret d_Mo_share_38 rfl (⟨rfl, rfl, rfl⟩)
  · refine zx_aload_n (pc2 := 1) d_Mo_share_0 rfl rfl ?_
    refine zx_iload_n (pc2 := 2) d_Mo_share_1 rfl rfl ?_
    refine zk_callS (pc2 := 5) s_Mo_179 t_Mo_noStation (c_Mo_noS0 hs) d_Mo_share_2 rfl rfl rfl (Nat.le_of_ble_eq_true rfl) (by decide) (by decide) ?_
    refine zx_if_ne (pc2 := 8) d_Mo_share_5 rfl (tgt := 22) (by decide) (fun cz => absurd (by decide) cz) (fun _ => ?_)
    refine zx_iload_n (pc2 := 9) d_Mo_share_8 rfl rfl ?_
    refine zx_if_lt (pc2 := 12) d_Mo_share_9 rfl (tgt := 22) (by decide) (fun cz => absurd cz (c)) (fun _ => ?_)
    refine zx_iload_n (pc2 := 13) d_Mo_share_12 rfl rfl ?_
    refine zx_bipush (pc2 := 15) (v := nI 7) d_Mo_share_13 rfl (by decide) ?_
    refine zx_icmp_gt (pc2 := 18) d_Mo_share_15 rfl (tgt := 22) (by decide) (fun _ => ?_) (fun cz => absurd (Int32.not_le.mp ((gx_8 hx).resolve_left c)) cz)
    refine zx_iconst (pc2 := 23) (v := nI 1) d_Mo_share_22 rfl (by decide) ?_
    refine zx_goto (tgt := 27) d_Mo_share_23 (by decide) ?_
    refine zm_putI (pc2 := 30) p_Mo_7 d_Mo_share_27 rfl zl_c546 rfl rfl rfl ?_
    refine zx_aload_n (pc2 := 31) d_Mo_share_30 rfl rfl ?_
    refine zm_getV (pc2 := 34) f_Mo_7 d_Mo_share_31 rfl zl_c546 rfl (zm_Is) ?_
    refine zx_if_eq (pc2 := 37) d_Mo_share_34 rfl (tgt := 39) (by decide) (fun cz => absurd cz (by decide)) (fun _ => ?_)
    refine zx_iconst (pc2 := 38) (v := nI 0) d_Mo_share_37 rfl (by decide) ?_
    exact zx_iret d_Mo_share_38 rfl (⟨rfl, rfl, rfl⟩)
theorem x_Mo_shareA {s pl : Nat} {z : Int32} (hs : s < 7) (hp : pl < 8) (hz : z < 0) : zK l D ar b Z y_Mo_share 1 [.ref (b + 546), .int (nI s), .int (nI pl), .int z] M n (some (.int (nI 0))) (gm_t M 1) := by
  refine zk_entry (L := [some (.ref (b + 546)), some (.int (nI s)), some (.int (nI pl)), some (.int z), none, none]) rfl rfl (Nat.le_of_ble_eq_true rfl) rfl rfl ?_
  refine zx_aload_n (pc2 := 1) d_Mo_share_0 rfl rfl ?_
  refine zx_iload_n (pc2 := 2) d_Mo_share_1 rfl rfl ?_
  refine zk_callS (pc2 := 5) s_Mo_179 t_Mo_noStation (c_Mo_noS0 hs) d_Mo_share_2 rfl rfl rfl (Nat.le_of_ble_eq_true rfl) (by decide) (by decide) ?_
  refine zx_if_ne (pc2 := 8) d_Mo_share_5 rfl (tgt := 22) (by decide) (fun cz => absurd (by decide) cz) (fun _ => ?_)
  refine zx_iload_n (pc2 := 9) d_Mo_share_8 rfl rfl ?_
  refine zx_if_lt (pc2 := 12) d_Mo_share_9 rfl (tgt := 22) (by decide) (fun cz => absurd cz (nI_pos (by omega))) (fun _ => ?_)
  refine zx_iload_n (pc2 := 13) d_Mo_share_12 rfl rfl ?_
  refine zx_bipush (pc2 := 15) (v := nI 7) d_Mo_share_13 rfl (by decide) ?_
  refine zx_icmp_gt (pc2 := 18) d_Mo_share_15 rfl (tgt := 22) (by decide) (fun cz => absurd cz (nI_nlt (by omega) (by omega))) (fun _ => ?_)
  refine zx_iload_n (pc2 := 19) d_Mo_share_18 rfl rfl ?_
  refine zx_if_ge (pc2 := 22) d_Mo_share_19 rfl (tgt := 26) (by decide) (fun cz => absurd cz (Int32.not_le.mpr hz)) (fun _ => ?_)
  refine zx_iconst (pc2 := 23) (v := nI 1) d_Mo_share_22 rfl (by decide) ?_
  refine zx_goto (tgt := 27) d_Mo_share_23 (by decide) ?_
  refine zm_putI (pc2 := 30) p_Mo_7 d_Mo_share_27 rfl zl_c546 rfl rfl rfl ?_
  refine zx_aload_n (pc2 := 31) d_Mo_share_30 rfl rfl ?_
  refine zm_getV (pc2 := 34) f_Mo_7 d_Mo_share_31 rfl zl_c546 rfl (zm_Is) ?_
  refine zx_if_eq (pc2 := 37) d_Mo_share_34 rfl (tgt := 39) (by decide) (fun cz => absurd cz (by decide)) (fun _ => ?_)
  refine zx_iconst (pc2 := 38) (v := nI 0) d_Mo_share_37 rfl (by decide) ?_
  exact zx_iret d_Mo_share_38 rfl (⟨rfl, rfl, rfl⟩)
end C56
