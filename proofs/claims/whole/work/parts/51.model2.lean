/-! LogHouseModel: methods without work of their own; copying -/
def gm_up (M : zm_M) (r lo k : Nat) (f : Nat → Int32) : zm_M := (fun r' x => if r' = r ∧ lo ≤ x ∧ x < lo + k then f (x - lo) else M.1 r' x, M.2.1, M.2.2)
theorem gm_upI {M : zm_M} {r lo k r' x : Nat} {f : Nat → Int32} : zm_I (gm_up M r lo k f) r' x = if r' = r ∧ lo ≤ x ∧ x < lo + k then f (x - lo) else zm_I M r' x := rfl
theorem gm_upn {M : zm_M} {r lo k r' x : Nat} {f : Nat → Int32} (h : r' ≠ r ∨ x < lo ∨ lo + k ≤ x) : zm_I (gm_up M r lo k f) r' x = zm_I M r' x := if_neg (fun z => by omega)
theorem gm_up0 {M : zm_M} {r lo : Nat} {f : Nat → Int32} : gm_up M r lo 0 f = M := by
  unfold gm_up
  have e : (fun r' x => if r' = r ∧ lo ≤ x ∧ x < lo + 0 then f (x - lo) else M.1 r' x) = M.1 := by
    funext r' x
    exact if_neg (fun z => by omega)
  rw [e]
theorem gm_upS {M : zm_M} {r lo k : Nat} {f : Nat → Int32} : zm_wI (gm_up M r lo k f) r (lo + k) (f k) = gm_up M r lo (k + 1) f := by
  unfold gm_up zm_wI zm_u
  refine Prod.ext ?_ rfl
  funext r' x
  show (if r' = r ∧ x = lo + k then f k else if r' = r ∧ lo ≤ x ∧ x < lo + k then f (x - lo) else M.1 r' x) = if r' = r ∧ lo ≤ x ∧ x < lo + (k + 1) then f (x - lo) else M.1 r' x
  by_cases c : r' = r ∧ x = lo + k
  · rw [if_pos c, if_pos ⟨c.1, by omega, by omega⟩, c.2, Nat.add_sub_cancel_left]
  · rw [if_neg c]
    by_cases c2 : r' = r ∧ lo ≤ x ∧ x < lo + k
    · rw [if_pos c2, if_pos ⟨c2.1, c2.2.1, by omega⟩]
    · rw [if_neg c2, if_neg (fun z => by
        rcases Nat.lt_or_ge x (lo + k) with q | q
        · exact c2 ⟨z.1, z.2.1, q⟩
        · exact c ⟨z.1, by omega⟩)]
def gs_third (x : Int32) : Int32 := (x + nI 2) / nI 3
def gs_bits (v : Int32) : Nat → Int32
  | 0 => nI 0
  | i + 1 => gs_bits v i + ((v >>> (nI i &&& 31)) &&& nI 1)
def gm_t (M : zm_M) (e : Nat) : zm_M := zm_wI M 546 0 (nI e)
theorem gx_2 {x : Int32} (h : x < 0 ∨ nI 2 ≤ x) : x < 0 ∨ ¬ x ≤ nI 1 := h.imp_right (fun h2 h => absurd (Int32.le_trans h2 h) (by decide))
theorem gx_7 {x : Int32} (h : x < 0 ∨ nI 7 ≤ x) : x < 0 ∨ ¬ x ≤ nI 6 := h.imp_right (fun h2 h => absurd (Int32.le_trans h2 h) (by decide))
theorem gx_8 {x : Int32} (h : x < 0 ∨ nI 8 ≤ x) : x < 0 ∨ ¬ x ≤ nI 7 := h.imp_right (fun h2 h => absurd (Int32.le_trans h2 h) (by decide))
section C51
variable {l : Launch} {D : va_G} {ar : Nat → ClassId} {b : Nat} {Z : State → Prop} {M : zm_M} {n : Nat}
theorem c_Mo_noP0 {p : Nat} (hp : p < 2) : zK l D ar b Z y_Mo_noProposer 0 [.int (nI p)] M n (some (.int (nI 0))) M := by
  have h := c_Mo_noProposer (l := l) (D := D) (ar := ar) (b := b) (Z := Z) (M := M) (n := n) (x := nI p)
  rwa [if_neg (fun z => z.elim (nI_pos (by omega)) (fun q => q (nI_le (by omega) (by decide))))] at h
theorem c_Mo_noP1 {x : Int32} (hx : x < 0 ∨ nI 2 ≤ x) : zK l D ar b Z y_Mo_noProposer 0 [.int x] M n (some (.int (nI 1))) M := by
  have h := c_Mo_noProposer (l := l) (D := D) (ar := ar) (b := b) (Z := Z) (M := M) (n := n) (x := x)
  rwa [if_pos (gx_2 hx)] at h
theorem c_Mo_noS0 {p : Nat} (hp : p < 7) : zK l D ar b Z y_Mo_noStation 0 [.int (nI p)] M n (some (.int (nI 0))) M := by
  have h := c_Mo_noStation (l := l) (D := D) (ar := ar) (b := b) (Z := Z) (M := M) (n := n) (x := nI p)
  rwa [if_neg (fun z => z.elim (nI_pos (by omega)) (fun q => q (nI_le (by omega) (by decide))))] at h
theorem c_Mo_noS1 {x : Int32} (hx : x < 0 ∨ nI 7 ≤ x) : zK l D ar b Z y_Mo_noStation 0 [.int x] M n (some (.int (nI 1))) M := by
  have h := c_Mo_noStation (l := l) (D := D) (ar := ar) (b := b) (Z := Z) (M := M) (n := n) (x := x)
  rwa [if_pos (gx_7 hx)] at h
theorem c_Mo_noL0 {i c : Nat} (hc : zm_I M 546 5 = nI c) (h60 : c ≤ 60) (hi : i < c) : zK l D ar b Z y_Mo_noLetter 0 [.ref (b + 546), .int (nI i)] M n (some (.int (nI 0))) M := by
  refine zk_entry (L := [some (.ref (b + 546)), some (.int (nI i))]) rfl rfl (Nat.le_of_ble_eq_true rfl) rfl rfl ?_
  refine zx_iload_n (pc2 := 1) d_Mo_noLetter_0 rfl rfl ?_
  refine zx_if_lt (pc2 := 4) d_Mo_noLetter_1 rfl (tgt := 12) (by decide) (fun cz => absurd cz (nI_pos (by omega))) (fun _ => ?_)
  refine zx_iload_n (pc2 := 5) d_Mo_noLetter_4 rfl rfl ?_
  refine zx_aload_n (pc2 := 6) d_Mo_noLetter_5 rfl rfl ?_
  refine zm_getV (pc2 := 9) f_Mo_27 d_Mo_noLetter_6 rfl zl_c546 rfl (hc) ?_
  refine zx_icmp_lt (pc2 := 12) d_Mo_noLetter_9 rfl (tgt := 16) (by decide) (fun _ => ?_) (fun cz => absurd (nI_lt hi (by omega)) cz)
  refine zx_iconst (pc2 := 17) (v := nI 0) d_Mo_noLetter_16 rfl (by decide) ?_
  exact zx_zret d_Mo_noLetter_17 rfl rfl (⟨rfl, rfl, rfl⟩)
theorem c_Mo_noL1 {x : Int32} (hx : x < 0 ∨ zm_I M 546 5 ≤ x) : zK l D ar b Z y_Mo_noLetter 0 [.ref (b + 546), .int x] M n (some (.int (nI 1))) M := by
  refine zk_entry (L := [some (.ref (b + 546)), some (.int x)]) rfl rfl (Nat.le_of_ble_eq_true rfl) rfl rfl ?_
  by_cases c : x < 0
  · refine zx_iload_n (pc2 := 1) d_Mo_noLetter_0 rfl rfl ?_
    refine zx_if_lt (pc2 := 4) d_Mo_noLetter_1 rfl (tgt := 12) (by decide) (fun _ => ?_) (fun cz => absurd (c) cz)
    refine zx_iconst (pc2 := 13) (v := nI 1) d_Mo_noLetter_12 rfl (by decide) ?_
    refine zx_goto (tgt := 17) d_Mo_noLetter_13 (by decide) ?_
    exact zx_zret d_Mo_noLetter_17 rfl rfl (⟨rfl, rfl, rfl⟩)
  · refine zx_iload_n (pc2 := 1) d_Mo_noLetter_0 rfl rfl ?_
    refine zx_if_lt (pc2 := 4) d_Mo_noLetter_1 rfl (tgt := 12) (by decide) (fun cz => absurd cz (c)) (fun _ => ?_)
    refine zx_iload_n (pc2 := 5) d_Mo_noLetter_4 rfl rfl ?_
    refine zx_aload_n (pc2 := 6) d_Mo_noLetter_5 rfl rfl ?_
    refine zm_getI (pc2 := 9) f_Mo_27 d_Mo_noLetter_6 rfl zl_c546 rfl ?_
    refine zx_icmp_lt (pc2 := 12) d_Mo_noLetter_9 rfl (tgt := 16) (by decide) (fun cz => absurd cz (Int32.not_lt.mpr (hx.resolve_left c))) (fun _ => ?_)
    refine zx_iconst (pc2 := 13) (v := nI 1) d_Mo_noLetter_12 rfl (by decide) ?_
    refine zx_goto (tgt := 17) d_Mo_noLetter_13 (by decide) ?_
    exact zx_zret d_Mo_noLetter_17 rfl rfl (⟨rfl, rfl, rfl⟩)
theorem c_Mo_third {x : Int32} : zK l D ar b Z y_Mo_third 0 [.int x] M n (some (.int (gs_third x))) M := by
  refine zk_entry (L := [some (.int x)]) rfl rfl (Nat.le_of_ble_eq_true rfl) rfl rfl ?_
  refine zx_iload_n (pc2 := 1) d_Mo_third_0 rfl rfl ?_
  refine zx_iconst (pc2 := 2) (v := nI 2) d_Mo_third_1 rfl (by decide) ?_
  refine zx_iadd (pc2 := 3) d_Mo_third_2 rfl ?_
  refine zx_iconst (pc2 := 4) (v := nI 3) d_Mo_third_3 rfl (by decide) ?_
  refine zx_idiv (pc2 := 5) d_Mo_third_4 rfl (by decide) ?_
  exact zx_iret d_Mo_third_5 rfl (⟨rfl, rfl, rfl⟩)
theorem c_Mo_bits {x : Int32} : zK l D ar b Z y_Mo_bits 0 [.int x] M n (some (.int (gs_bits x 7))) M := by
  refine zk_entry (L := [some (.int x), none, none]) rfl rfl (Nat.le_of_ble_eq_true rfl) rfl rfl ?_
  refine zx_iconst (pc2 := 1) (v := nI 0) d_Mo_bits_0 rfl (by decide) ?_
  refine zx_ist1 (pc2 := 2) d_Mo_bits_1 rfl rfl (by decide) ?_
  refine zx_iconst (pc2 := 3) (v := nI 0) d_Mo_bits_2 rfl (by decide) ?_
  refine zx_ist2 (pc2 := 4) d_Mo_bits_3 rfl rfl (by decide) ?_
  refine zx_for (X := fun i => zk_X l D ar b Z y_Mo_bits 0 (some (.int (gs_bits x 7))) M n 4 [some (.int x), some (.int (gs_bits x i)), some (.int (nI i))] [] M) 7 ?_ ?_ 0 (by decide)
  · refine zx_iload_n (pc2 := 5) d_Mo_bits_4 rfl rfl ?_
    refine zx_bipush (pc2 := 7) (v := nI 7) d_Mo_bits_5 rfl (by decide) ?_
    refine zx_icmp_ge (pc2 := 10) d_Mo_bits_7 rfl (tgt := 24) (by decide) (fun _ => ?_) (fun cz => absurd (nI_le (Nat.le_refl 7) (by decide)) cz)
    refine zx_iload_n (pc2 := 25) d_Mo_bits_24 rfl rfl ?_
    exact zx_iret d_Mo_bits_25 rfl (⟨rfl, rfl, rfl⟩)
  · intro i hi ih
    refine zx_iload_n (pc2 := 5) d_Mo_bits_4 rfl rfl ?_
    refine zx_bipush (pc2 := 7) (v := nI 7) d_Mo_bits_5 rfl (by decide) ?_
    refine zx_icmp_ge (pc2 := 10) d_Mo_bits_7 rfl (tgt := 24) (by decide) (fun cz => absurd cz (nI_ge hi (by decide))) (fun _ => ?_)
    refine zx_iload_n (pc2 := 11) d_Mo_bits_10 rfl rfl ?_
    refine zx_iload_n (pc2 := 12) d_Mo_bits_11 rfl rfl ?_
    refine zx_iload_n (pc2 := 13) d_Mo_bits_12 rfl rfl ?_
    refine zx_ishr (pc2 := 14) d_Mo_bits_13 rfl ?_
    refine zx_iconst (pc2 := 15) (v := nI 1) d_Mo_bits_14 rfl (by decide) ?_
    refine zx_iand (pc2 := 16) d_Mo_bits_15 rfl ?_
    refine zx_iadd (pc2 := 17) d_Mo_bits_16 rfl ?_
    refine zx_ist1 (pc2 := 18) d_Mo_bits_17 rfl rfl (by decide) ?_
    refine zx_inc2 (pc2 := 21) d_Mo_bits_18 rfl (zk_1 _) rfl (by decide) ?_
    refine zx_goto (tgt := 4) d_Mo_bits_21 (by decide) ?_
    exact ih
theorem c_Mo_heardAt {p s pl : Nat} : zK l D ar b Z y_Mo_heardAt 0 [.int (nI p), .int (nI s), .int (nI pl)] M n (some (.int (nI (616 * p + 88 * s + 11 * pl)))) M := by
  refine zk_entry (L := [some (.int (nI p)), some (.int (nI s)), some (.int (nI pl))]) rfl rfl (Nat.le_of_ble_eq_true rfl) rfl rfl ?_
  refine zx_sipush (pc2 := 3) (v := nI 616) d_Mo_heardAt_0 rfl (by decide) ?_
  refine zx_iload_n (pc2 := 4) d_Mo_heardAt_3 rfl rfl ?_
  first | refine zx_imulN (pc2 := 5) d_Mo_heardAt_4 rfl ?_ | refine zx_imul (pc2 := 5) d_Mo_heardAt_4 rfl ?_
  refine zx_bipush (pc2 := 7) (v := nI 88) d_Mo_heardAt_5 rfl (by decide) ?_
  refine zx_iload_n (pc2 := 8) d_Mo_heardAt_7 rfl rfl ?_
  first | refine zx_imulN (pc2 := 9) d_Mo_heardAt_8 rfl ?_ | refine zx_imul (pc2 := 9) d_Mo_heardAt_8 rfl ?_
  first | refine zx_iaddN (pc2 := 10) d_Mo_heardAt_9 rfl ?_ | refine zx_iadd (pc2 := 10) d_Mo_heardAt_9 rfl ?_
  refine zx_bipush (pc2 := 12) (v := nI 11) d_Mo_heardAt_10 rfl (by decide) ?_
  refine zx_iload_n (pc2 := 13) d_Mo_heardAt_12 rfl rfl ?_
  first | refine zx_imulN (pc2 := 14) d_Mo_heardAt_13 rfl ?_ | refine zx_imul (pc2 := 14) d_Mo_heardAt_13 rfl ?_
  first | refine zx_iaddN (pc2 := 15) d_Mo_heardAt_14 rfl ?_ | refine zx_iadd (pc2 := 15) d_Mo_heardAt_14 rfl ?_
  exact zx_iret d_Mo_heardAt_15 rfl (⟨rfl, rfl, rfl⟩)
theorem c_Mo_prepare1 {p c : Nat} {s : Int32} (hp : p < 2) (hc : zm_I M 546 5 = nI c) (h60 : c < 60) : zK l D ar b Z y_Mo_prepare 1 [.ref (b + 546), .int (nI p), .int s] M n (some (.int (nI 1))) (gm_l4 M c (nI 0) s (nI p) (zm_I M 554 p)) := by
  refine zk_entry (L := [some (.ref (b + 546)), some (.int (nI p)), some (.int s)]) rfl rfl (Nat.le_of_ble_eq_true rfl) rfl rfl ?_
  refine zx_aload_n (pc2 := 1) d_Mo_prepare_0 rfl rfl ?_
  refine zx_iconst (pc2 := 2) (v := nI 0) d_Mo_prepare_1 rfl (by decide) ?_
  refine zx_iload_n (pc2 := 3) d_Mo_prepare_2 rfl rfl ?_
  refine zx_iload_n (pc2 := 4) d_Mo_prepare_3 rfl rfl ?_
  refine zx_aload_n (pc2 := 5) d_Mo_prepare_4 rfl rfl ?_
  refine zm_getR (pc2 := 8) f_Mo_39 d_Mo_prepare_5 rfl zl_c546 rfl ?_
  refine zx_iload_n (pc2 := 9) d_Mo_prepare_8 rfl rfl ?_
  refine zk_iald (pc2 := 10) d_Mo_prepare_9 rfl (by rfl) rfl (by omega) (by decide) ?_
  refine zk_callV (pc2 := 13) s_Mo_114 v_Mo_letter4 (zl_c546) (c_Mo_letter4 hc h60) d_Mo_prepare_10 rfl rfl rfl (Nat.le_of_ble_eq_true rfl) (by decide) (by decide) ?_
  refine zx_if_eq (pc2 := 16) d_Mo_prepare_13 rfl (tgt := 20) (by decide) (fun cz => absurd cz (by decide)) (fun _ => ?_)
  refine zx_iconst (pc2 := 17) (v := nI 1) d_Mo_prepare_16 rfl (by decide) ?_
  refine zx_goto (tgt := 21) d_Mo_prepare_17 (by decide) ?_
  exact zx_iret d_Mo_prepare_21 rfl (⟨rfl, rfl, rfl⟩)
theorem c_Mo_prepare0 {p : Nat} {s : Int32} (hp : p < 2) (hc : zm_I M 546 5 = nI 60) : zK l D ar b Z y_Mo_prepare 1 [.ref (b + 546), .int (nI p), .int s] M n (some (.int (nI 0))) M := by
  refine zk_entry (L := [some (.ref (b + 546)), some (.int (nI p)), some (.int s)]) rfl rfl (Nat.le_of_ble_eq_true rfl) rfl rfl ?_
  refine zx_aload_n (pc2 := 1) d_Mo_prepare_0 rfl rfl ?_
  refine zx_iconst (pc2 := 2) (v := nI 0) d_Mo_prepare_1 rfl (by decide) ?_
  refine zx_iload_n (pc2 := 3) d_Mo_prepare_2 rfl rfl ?_
  refine zx_iload_n (pc2 := 4) d_Mo_prepare_3 rfl rfl ?_
  refine zx_aload_n (pc2 := 5) d_Mo_prepare_4 rfl rfl ?_
  refine zm_getR (pc2 := 8) f_Mo_39 d_Mo_prepare_5 rfl zl_c546 rfl ?_
  refine zx_iload_n (pc2 := 9) d_Mo_prepare_8 rfl rfl ?_
  refine zk_iald (pc2 := 10) d_Mo_prepare_9 rfl (by rfl) rfl (by omega) (by decide) ?_
  refine zk_callV (pc2 := 13) s_Mo_114 v_Mo_letter4 (zl_c546) (c_Mo_letter4F hc) d_Mo_prepare_10 rfl rfl rfl (Nat.le_of_ble_eq_true rfl) (by decide) (by decide) ?_
  refine zx_if_eq (pc2 := 16) d_Mo_prepare_13 rfl (tgt := 20) (by decide) (fun _ => ?_) (fun cz => absurd (by decide) cz)
  refine zx_iconst (pc2 := 21) (v := nI 0) d_Mo_prepare_20 rfl (by decide) ?_
  exact zx_iret d_Mo_prepare_21 rfl (⟨rfl, rfl, rfl⟩)
theorem c_Mo_letters : zK l D ar b Z y_Mo_letters 0 [.ref (b + 546)] M n (some (.int (zm_I M 546 5))) (gm_t M 0) := by
  refine zk_entry (L := [some (.ref (b + 546))]) rfl rfl (Nat.le_of_ble_eq_true rfl) rfl rfl ?_
  refine zx_aload_n (pc2 := 1) d_Mo_letters_0 rfl rfl ?_
  refine zx_iconst (pc2 := 2) (v := nI 0) d_Mo_letters_1 rfl (by decide) ?_
  refine zm_putI (pc2 := 5) p_Mo_7 d_Mo_letters_2 rfl zl_c546 rfl rfl rfl ?_
  refine zx_aload_n (pc2 := 6) d_Mo_letters_5 rfl rfl ?_
  refine zm_getI (pc2 := 9) f_Mo_27 d_Mo_letters_6 rfl zl_c546 rfl ?_
  exact zx_iret d_Mo_letters_9 rfl (⟨rfl, rfl, rfl⟩)
theorem c_Mo_readByte {i c : Nat} (hc : zm_I M 546 25 = nI c) (hi : i < c) (hc24 : c ≤ 24) : zK l D ar b Z y_Mo_readByte 0 [.ref (b + 546), .int (nI i)] M n (some (.int (zm_I M 569 i))) (gm_t M 0) := by
  refine zk_entry (L := [some (.ref (b + 546)), some (.int (nI i))]) rfl rfl (Nat.le_of_ble_eq_true rfl) rfl rfl ?_
  refine zx_aload_n (pc2 := 1) d_Mo_readByte_0 rfl rfl ?_
  refine zx_iload_n (pc2 := 2) d_Mo_readByte_1 rfl rfl ?_
  refine zx_if_lt (pc2 := 5) d_Mo_readByte_2 rfl (tgt := 13) (by decide) (fun cz => absurd cz (nI_pos (by omega))) (fun _ => ?_)
  refine zx_iload_n (pc2 := 6) d_Mo_readByte_5 rfl rfl ?_
  refine zx_aload_n (pc2 := 7) d_Mo_readByte_6 rfl rfl ?_
  refine zm_getV (pc2 := 10) f_Mo_87 d_Mo_readByte_7 rfl zl_c546 rfl (hc) ?_
  refine zx_icmp_lt (pc2 := 13) d_Mo_readByte_10 rfl (tgt := 17) (by decide) (fun _ => ?_) (fun cz => absurd (nI_lt hi (by omega)) cz)
  refine zx_iconst (pc2 := 18) (v := nI 0) d_Mo_readByte_17 rfl (by decide) ?_
  refine zm_putI (pc2 := 21) p_Mo_7 d_Mo_readByte_18 rfl zl_c546 rfl rfl rfl ?_
  refine zx_aload_n (pc2 := 22) d_Mo_readByte_21 rfl rfl ?_
  refine zm_getV (pc2 := 25) f_Mo_7 d_Mo_readByte_22 rfl zl_c546 rfl (zm_Is) ?_
  refine zx_if_eq (pc2 := 28) d_Mo_readByte_25 rfl (tgt := 32) (by decide) (fun _ => ?_) (fun cz => absurd (by decide) cz)
  refine zx_aload_n (pc2 := 33) d_Mo_readByte_32 rfl rfl ?_
  refine zm_getR (pc2 := 36) f_Mo_84 d_Mo_readByte_33 rfl zl_c546 rfl ?_
  refine zx_iload_n (pc2 := 37) d_Mo_readByte_36 rfl rfl ?_
  refine zk_iald (pc2 := 38) d_Mo_readByte_37 rfl (by rfl) rfl (by omega) (by decide) ?_
  exact zx_iret d_Mo_readByte_38 rfl (⟨rfl, rfl, rfl⟩)
theorem x_Mo_readByte {x : Int32} (hx : x < 0 ∨ zm_I M 546 25 ≤ x) : zK l D ar b Z y_Mo_readByte 0 [.ref (b + 546), .int x] M n (some (.int (nI 0))) (gm_t M 1) := by
  refine zk_entry (L := [some (.ref (b + 546)), some (.int x)]) rfl rfl (Nat.le_of_ble_eq_true rfl) rfl rfl ?_
  by_cases c : x < 0
  · refine zx_aload_n (pc2 := 1) d_Mo_readByte_0 rfl rfl ?_
    refine zx_iload_n (pc2 := 2) d_Mo_readByte_1 rfl rfl ?_
    refine zx_if_lt (pc2 := 5) d_Mo_readByte_2 rfl (tgt := 13) (by decide) (fun _ => ?_) (fun cz => absurd (c) cz)
    refine zx_iconst (pc2 := 14) (v := nI 1) d_Mo_readByte_13 rfl (by decide) ?_
    refine zx_goto (tgt := 18) d_Mo_readByte_14 (by decide) ?_
    refine zm_putI (pc2 := 21) p_Mo_7 d_Mo_readByte_18 rfl zl_c546 rfl rfl rfl ?_
    refine zx_aload_n (pc2 := 22) d_Mo_readByte_21 rfl rfl ?_
    refine zm_getV (pc2 := 25) f_Mo_7 d_Mo_readByte_22 rfl zl_c546 rfl (zm_Is) ?_
    refine zx_if_eq (pc2 := 28) d_Mo_readByte_25 rfl (tgt := 32) (by decide) (fun cz => absurd cz (by decide)) (fun _ => ?_)
    refine zx_iconst (pc2 := 29) (v := nI 0) d_Mo_readByte_28 rfl (by decide) ?_
    refine zx_goto (tgt := 38) d_Mo_readByte_29 (by decide) ?_
    exact zx_iret d_Mo_readByte_38 rfl (⟨rfl, rfl, rfl⟩)
  · refine zx_aload_n (pc2 := 1) d_Mo_readByte_0 rfl rfl ?_
    refine zx_iload_n (pc2 := 2) d_Mo_readByte_1 rfl rfl ?_
    refine zx_if_lt (pc2 := 5) d_Mo_readByte_2 rfl (tgt := 13) (by decide) (fun cz => absurd cz (c)) (fun _ => ?_)
    refine zx_iload_n (pc2 := 6) d_Mo_readByte_5 rfl rfl ?_
    refine zx_aload_n (pc2 := 7) d_Mo_readByte_6 rfl rfl ?_
    refine zm_getI (pc2 := 10) f_Mo_87 d_Mo_readByte_7 rfl zl_c546 rfl ?_
    refine zx_icmp_lt (pc2 := 13) d_Mo_readByte_10 rfl (tgt := 17) (by decide) (fun cz => absurd cz (Int32.not_lt.mpr (hx.resolve_left c))) (fun _ => ?_)
    refine zx_iconst (pc2 := 14) (v := nI 1) d_Mo_readByte_13 rfl (by decide) ?_
    refine zx_goto (tgt := 18) d_Mo_readByte_14 (by decide) ?_
    refine zm_putI (pc2 := 21) p_Mo_7 d_Mo_readByte_18 rfl zl_c546 rfl rfl rfl ?_
    refine zx_aload_n (pc2 := 22) d_Mo_readByte_21 rfl rfl ?_
    refine zm_getV (pc2 := 25) f_Mo_7 d_Mo_readByte_22 rfl zl_c546 rfl (zm_Is) ?_
    refine zx_if_eq (pc2 := 28) d_Mo_readByte_25 rfl (tgt := 32) (by decide) (fun cz => absurd cz (by decide)) (fun _ => ?_)
    refine zx_iconst (pc2 := 29) (v := nI 0) d_Mo_readByte_28 rfl (by decide) ?_
    refine zx_goto (tgt := 38) d_Mo_readByte_29 (by decide) ?_
    exact zx_iret d_Mo_readByte_38 rfl (⟨rfl, rfl, rfl⟩)
theorem c_Mo_letter {i c k : Nat} (hc : zm_I M 546 5 = nI c) (h60 : c ≤ 60) (hi : i < c) (hk : k < 6) : zK l D ar b Z y_Mo_letter 1 [.ref (b + 546), .int (nI i), .int (nI k)] M n (some (.int (zm_I M 551 (7 * i + k)))) (gm_t M 0) := by
  refine zk_entry (L := [some (.ref (b + 546)), some (.int (nI i)), some (.int (nI k))]) rfl rfl (Nat.le_of_ble_eq_true rfl) rfl rfl ?_
  refine zx_aload_n (pc2 := 1) d_Mo_letter_0 rfl rfl ?_
  refine zx_aload_n (pc2 := 2) d_Mo_letter_1 rfl rfl ?_
  refine zx_iload_n (pc2 := 3) d_Mo_letter_2 rfl rfl ?_
  refine zk_callV (pc2 := 6) s_Mo_168 v_Mo_noLetter (zl_c546) (c_Mo_noL0 hc h60 hi) d_Mo_letter_3 rfl rfl rfl (Nat.le_of_ble_eq_true rfl) (by decide) (by decide) ?_
  refine zx_if_eq (pc2 := 9) d_Mo_letter_6 rfl (tgt := 13) (by decide) (fun _ => ?_) (fun cz => absurd (by decide) cz)
  refine zx_iload_n (pc2 := 14) d_Mo_letter_13 rfl rfl ?_
  refine zx_if_lt (pc2 := 17) d_Mo_letter_14 rfl (tgt := 22) (by decide) (fun cz => absurd cz (nI_pos (by omega))) (fun _ => ?_)
  refine zx_iload_n (pc2 := 18) d_Mo_letter_17 rfl rfl ?_
  refine zx_iconst (pc2 := 19) (v := nI 5) d_Mo_letter_18 rfl (by decide) ?_
  refine zx_icmp_le (pc2 := 22) d_Mo_letter_19 rfl (tgt := 26) (by decide) (fun _ => ?_) (fun cz => absurd (nI_le (by omega) (by decide)) cz)
  refine zx_iconst (pc2 := 27) (v := nI 0) d_Mo_letter_26 rfl (by decide) ?_
  refine zm_putI (pc2 := 30) p_Mo_7 d_Mo_letter_27 rfl zl_c546 rfl rfl rfl ?_
  refine zx_aload_n (pc2 := 31) d_Mo_letter_30 rfl rfl ?_
  refine zm_getV (pc2 := 34) f_Mo_7 d_Mo_letter_31 rfl zl_c546 rfl (zm_Is) ?_
  refine zx_if_eq (pc2 := 37) d_Mo_letter_34 rfl (tgt := 41) (by decide) (fun _ => ?_) (fun cz => absurd (by decide) cz)
  refine zx_aload_n (pc2 := 42) d_Mo_letter_41 rfl rfl ?_
  refine zm_getR (pc2 := 45) f_Mo_30 d_Mo_letter_42 rfl zl_c546 rfl ?_
  refine zx_bipush (pc2 := 47) (v := nI 7) d_Mo_letter_45 rfl (by decide) ?_
  refine zx_iload_n (pc2 := 48) d_Mo_letter_47 rfl rfl ?_
  first | refine zx_imulN (pc2 := 49) d_Mo_letter_48 rfl ?_ | refine zx_imul (pc2 := 49) d_Mo_letter_48 rfl ?_
  refine zx_iload_n (pc2 := 50) d_Mo_letter_49 rfl rfl ?_
  first | refine zx_iaddN (pc2 := 51) d_Mo_letter_50 rfl ?_ | refine zx_iadd (pc2 := 51) d_Mo_letter_50 rfl ?_
  refine zk_iald (pc2 := 52) d_Mo_letter_51 rfl (by rfl) rfl (by omega) (by decide) ?_
  exact zx_iret d_Mo_letter_52 rfl (⟨rfl, rfl, rfl⟩)
theorem x_Mo_letter {x y : Int32} (hx : x < 0 ∨ zm_I M 546 5 ≤ x) : zK l D ar b Z y_Mo_letter 1 [.ref (b + 546), .int x, .int y] M n (some (.int (nI 0))) (gm_t M 1) := by
  refine zk_entry (L := [some (.ref (b + 546)), some (.int x), some (.int y)]) rfl rfl (Nat.le_of_ble_eq_true rfl) rfl rfl ?_
  refine zx_aload_n (pc2 := 1) d_Mo_letter_0 rfl rfl ?_
  refine zx_aload_n (pc2 := 2) d_Mo_letter_1 rfl rfl ?_
  refine zx_iload_n (pc2 := 3) d_Mo_letter_2 rfl rfl ?_
  refine zk_callV (pc2 := 6) s_Mo_168 v_Mo_noLetter (zl_c546) (c_Mo_noL1 hx) d_Mo_letter_3 rfl rfl rfl (Nat.le_of_ble_eq_true rfl) (by decide) (by decide) ?_
  refine zx_if_eq (pc2 := 9) d_Mo_letter_6 rfl (tgt := 13) (by decide) (fun cz => absurd cz (by decide)) (fun _ => ?_)
  refine zx_iconst (pc2 := 10) (v := nI 1) d_Mo_letter_9 rfl (by decide) ?_
  refine zx_goto (tgt := 27) d_Mo_letter_10 (by decide) ?_
  refine zm_putI (pc2 := 30) p_Mo_7 d_Mo_letter_27 rfl zl_c546 rfl rfl rfl ?_
  refine zx_aload_n (pc2 := 31) d_Mo_letter_30 rfl rfl ?_
  refine zm_getV (pc2 := 34) f_Mo_7 d_Mo_letter_31 rfl zl_c546 rfl (zm_Is) ?_
  refine zx_if_eq (pc2 := 37) d_Mo_letter_34 rfl (tgt := 41) (by decide) (fun cz => absurd cz (by decide)) (fun _ => ?_)
  refine zx_iconst (pc2 := 38) (v := nI 0) d_Mo_letter_37 rfl (by decide) ?_
  refine zx_goto (tgt := 52) d_Mo_letter_38 (by decide) ?_
  exact zx_iret d_Mo_letter_52 rfl (⟨rfl, rfl, rfl⟩)
theorem x_Mo_letterA {i c : Nat} {y : Int32} (hc : zm_I M 546 5 = nI c) (h60 : c ≤ 60) (hi : i < c) (hy : y < 0 ∨ ¬ y ≤ nI 5) : zK l D ar b Z y_Mo_letter 1 [.ref (b + 546), .int (nI i), .int y] M n (some (.int (nI 0))) (gm_t M 2) := by
  refine zk_entry (L := [some (.ref (b + 546)), some (.int (nI i)), some (.int y)]) rfl rfl (Nat.le_of_ble_eq_true rfl) rfl rfl ?_
  by_cases c : y < 0
  · refine zx_aload_n (pc2 := 1) d_Mo_letter_0 rfl rfl ?_
    refine zx_aload_n (pc2 := 2) d_Mo_letter_1 rfl rfl ?_
    refine zx_iload_n (pc2 := 3) d_Mo_letter_2 rfl rfl ?_
    refine zk_callV (pc2 := 6) s_Mo_168 v_Mo_noLetter (zl_c546) (c_Mo_noL0 hc h60 hi) d_Mo_letter_3 rfl rfl rfl (Nat.le_of_ble_eq_true rfl) (by decide) (by decide) ?_
    refine zx_if_eq (pc2 := 9) d_Mo_letter_6 rfl (tgt := 13) (by decide) (fun _ => ?_) (fun cz => absurd (by decide) cz)
    refine zx_iload_n (pc2 := 14) d_Mo_letter_13 rfl rfl ?_
    refine zx_if_lt (pc2 := 17) d_Mo_letter_14 rfl (tgt := 22) (by decide) (fun _ => ?_) (fun cz => absurd (c) cz)
    refine zx_iconst (pc2 := 23) (v := nI 2) d_Mo_letter_22 rfl (by decide) ?_
    refine zx_goto (tgt := 27) d_Mo_letter_23 (by decide) ?_
    refine zm_putI (pc2 := 30) p_Mo_7 d_Mo_letter_27 rfl zl_c546 rfl rfl rfl ?_
    refine zx_aload_n (pc2 := 31) d_Mo_letter_30 rfl rfl ?_
    refine zm_getV (pc2 := 34) f_Mo_7 d_Mo_letter_31 rfl zl_c546 rfl (zm_Is) ?_
    refine zx_if_eq (pc2 := 37) d_Mo_letter_34 rfl (tgt := 41) (by decide) (fun cz => absurd cz (by decide)) (fun _ => ?_)
    refine zx_iconst (pc2 := 38) (v := nI 0) d_Mo_letter_37 rfl (by decide) ?_
    refine zx_goto (tgt := 52) d_Mo_letter_38 (by decide) ?_
    exact zx_iret d_Mo_letter_52 rfl (⟨rfl, rfl, rfl⟩)
  · refine zx_aload_n (pc2 := 1) d_Mo_letter_0 rfl rfl ?_
    refine zx_aload_n (pc2 := 2) d_Mo_letter_1 rfl rfl ?_
    refine zx_iload_n (pc2 := 3) d_Mo_letter_2 rfl rfl ?_
    refine zk_callV (pc2 := 6) s_Mo_168 v_Mo_noLetter (zl_c546) (c_Mo_noL0 hc h60 hi) d_Mo_letter_3 rfl rfl rfl (Nat.le_of_ble_eq_true rfl) (by decide) (by decide) ?_
    refine zx_if_eq (pc2 := 9) d_Mo_letter_6 rfl (tgt := 13) (by decide) (fun _ => ?_) (fun cz => absurd (by decide) cz)
    refine zx_iload_n (pc2 := 14) d_Mo_letter_13 rfl rfl ?_
    refine zx_if_lt (pc2 := 17) d_Mo_letter_14 rfl (tgt := 22) (by decide) (fun cz => absurd cz (c)) (fun _ => ?_)
    refine zx_iload_n (pc2 := 18) d_Mo_letter_17 rfl rfl ?_
    refine zx_iconst (pc2 := 19) (v := nI 5) d_Mo_letter_18 rfl (by decide) ?_
    refine zx_icmp_le (pc2 := 22) d_Mo_letter_19 rfl (tgt := 26) (by decide) (fun cz => absurd cz (hy.resolve_left c)) (fun _ => ?_)
    refine zx_iconst (pc2 := 23) (v := nI 2) d_Mo_letter_22 rfl (by decide) ?_
    refine zx_goto (tgt := 27) d_Mo_letter_23 (by decide) ?_
    refine zm_putI (pc2 := 30) p_Mo_7 d_Mo_letter_27 rfl zl_c546 rfl rfl rfl ?_
    refine zx_aload_n (pc2 := 31) d_Mo_letter_30 rfl rfl ?_
    refine zm_getV (pc2 := 34) f_Mo_7 d_Mo_letter_31 rfl zl_c546 rfl (zm_Is) ?_
    refine zx_if_eq (pc2 := 37) d_Mo_letter_34 rfl (tgt := 41) (by decide) (fun cz => absurd cz (by decide)) (fun _ => ?_)
    refine zx_iconst (pc2 := 38) (v := nI 0) d_Mo_letter_37 rfl (by decide) ?_
    refine zx_goto (tgt := 52) d_Mo_letter_38 (by decide) ?_
    exact zx_iret d_Mo_letter_52 rfl (⟨rfl, rfl, rfl⟩)
theorem c_Mo_decided {p pl : Nat} (hp : p < 2) (hpl : pl < 8) : zK l D ar b Z y_Mo_decided 1 [.ref (b + 546), .int (nI p), .int (nI pl)] M n (some (.int (zm_I M 559 (8 * p + pl)))) (gm_t M 0) := by
  refine zk_entry (L := [some (.ref (b + 546)), some (.int (nI p)), some (.int (nI pl))]) rfl rfl (Nat.le_of_ble_eq_true rfl) rfl rfl ?_
  refine zx_aload_n (pc2 := 1) d_Mo_decided_0 rfl rfl ?_
  refine zx_iload_n (pc2 := 2) d_Mo_decided_1 rfl rfl ?_
  refine zk_callS (pc2 := 5) s_Mo_158 t_Mo_noProposer (c_Mo_noP0 hp) d_Mo_decided_2 rfl rfl rfl (Nat.le_of_ble_eq_true rfl) (by decide) (by decide) ?_
  refine zx_if_ne (pc2 := 8) d_Mo_decided_5 rfl (tgt := 18) (by decide) (fun cz => absurd (by decide) cz) (fun _ => ?_)
  refine zx_iload_n (pc2 := 9) d_Mo_decided_8 rfl rfl ?_
  refine zx_if_lt (pc2 := 12) d_Mo_decided_9 rfl (tgt := 18) (by decide) (fun cz => absurd cz (nI_pos (by omega))) (fun _ => ?_)
  refine zx_iload_n (pc2 := 13) d_Mo_decided_12 rfl rfl ?_
  refine zx_bipush (pc2 := 15) (v := nI 7) d_Mo_decided_13 rfl (by decide) ?_
  refine zx_icmp_le (pc2 := 18) d_Mo_decided_15 rfl (tgt := 22) (by decide) (fun _ => ?_) (fun cz => absurd (nI_le (by omega) (by decide)) cz)
  refine zx_iconst (pc2 := 23) (v := nI 0) d_Mo_decided_22 rfl (by decide) ?_
  refine zm_putI (pc2 := 26) p_Mo_7 d_Mo_decided_23 rfl zl_c546 rfl rfl rfl ?_
  refine zx_aload_n (pc2 := 27) d_Mo_decided_26 rfl rfl ?_
  refine zm_getV (pc2 := 30) f_Mo_7 d_Mo_decided_27 rfl zl_c546 rfl (zm_Is) ?_
  refine zx_if_eq (pc2 := 33) d_Mo_decided_30 rfl (tgt := 37) (by decide) (fun _ => ?_) (fun cz => absurd (by decide) cz)
  refine zx_aload_n (pc2 := 38) d_Mo_decided_37 rfl rfl ?_
  refine zm_getR (pc2 := 41) f_Mo_54 d_Mo_decided_38 rfl zl_c546 rfl ?_
  refine zx_bipush (pc2 := 43) (v := nI 8) d_Mo_decided_41 rfl (by decide) ?_
  refine zx_iload_n (pc2 := 44) d_Mo_decided_43 rfl rfl ?_
  first | refine zx_imulN (pc2 := 45) d_Mo_decided_44 rfl ?_ | refine zx_imul (pc2 := 45) d_Mo_decided_44 rfl ?_
  refine zx_iload_n (pc2 := 46) d_Mo_decided_45 rfl rfl ?_
  first | refine zx_iaddN (pc2 := 47) d_Mo_decided_46 rfl ?_ | refine zx_iadd (pc2 := 47) d_Mo_decided_46 rfl ?_
  refine zk_iald (pc2 := 48) d_Mo_decided_47 rfl (by rfl) rfl (by omega) (by decide) ?_
  exact zx_iret d_Mo_decided_48 rfl (⟨rfl, rfl, rfl⟩)
theorem x_Mo_decided {x y : Int32} (hx : x < 0 ∨ nI 2 ≤ x) : zK l D ar b Z y_Mo_decided 1 [.ref (b + 546), .int x, .int y] M n (some (.int (nI 0))) (gm_t M 1) := by
  refine zk_entry (L := [some (.ref (b + 546)), some (.int x), some (.int y)]) rfl rfl (Nat.le_of_ble_eq_true rfl) rfl rfl ?_
  refine zx_aload_n (pc2 := 1) d_Mo_decided_0 rfl rfl ?_
  refine zx_iload_n (pc2 := 2) d_Mo_decided_1 rfl rfl ?_
  refine zk_callS (pc2 := 5) s_Mo_158 t_Mo_noProposer (c_Mo_noP1 hx) d_Mo_decided_2 rfl rfl rfl (Nat.le_of_ble_eq_true rfl) (by decide) (by decide) ?_
  refine zx_if_ne (pc2 := 8) d_Mo_decided_5 rfl (tgt := 18) (by decide) (fun _ => ?_) (fun cz => absurd cz (by decide))
  refine zx_iconst (pc2 := 19) (v := nI 1) d_Mo_decided_18 rfl (by decide) ?_
  refine zx_goto (tgt := 23) d_Mo_decided_19 (by decide) ?_
  refine zm_putI (pc2 := 26) p_Mo_7 d_Mo_decided_23 rfl zl_c546 rfl rfl rfl ?_
  refine zx_aload_n (pc2 := 27) d_Mo_decided_26 rfl rfl ?_
  refine zm_getV (pc2 := 30) f_Mo_7 d_Mo_decided_27 rfl zl_c546 rfl (zm_Is) ?_
  refine zx_if_eq (pc2 := 33) d_Mo_decided_30 rfl (tgt := 37) (by decide) (fun cz => absurd cz (by decide)) (fun _ => ?_)
  refine zx_iconst (pc2 := 34) (v := nI 0) d_Mo_decided_33 rfl (by decide) ?_
  refine zx_goto (tgt := 48) d_Mo_decided_34 (by decide) ?_
  exact zx_iret d_Mo_decided_48 rfl (⟨rfl, rfl, rfl⟩)
theorem x_Mo_decidedP {p : Nat} {y : Int32} (hp : p < 2) (hx : y < 0 ∨ nI 8 ≤ y) : zK l D ar b Z y_Mo_decided 1 [.ref (b + 546), .int (nI p), .int y] M n (some (.int (nI 0))) (gm_t M 1) := by
  refine zk_entry (L := [some (.ref (b + 546)), some (.int (nI p)), some (.int y)]) rfl rfl (Nat.le_of_ble_eq_true rfl) rfl rfl ?_
  by_cases c : y < 0
  · refine zx_aload_n (pc2 := 1) d_Mo_decided_0 rfl rfl ?_
    refine zx_iload_n (pc2 := 2) d_Mo_decided_1 rfl rfl ?_
    refine zk_callS (pc2 := 5) s_Mo_158 t_Mo_noProposer (c_Mo_noP0 hp) d_Mo_decided_2 rfl rfl rfl (Nat.le_of_ble_eq_true rfl) (by decide) (by decide) ?_
    refine zx_if_ne (pc2 := 8) d_Mo_decided_5 rfl (tgt := 18) (by decide) (fun cz => absurd (by decide) cz) (fun _ => ?_)
    refine zx_iload_n (pc2 := 9) d_Mo_decided_8 rfl rfl ?_
    refine zx_if_lt (pc2 := 12) d_Mo_decided_9 rfl (tgt := 18) (by decide) (fun _ => ?_) (fun cz => absurd (c) cz)
    refine zx_iconst (pc2 := 19) (v := nI 1) d_Mo_decided_18 rfl (by decide) ?_
    refine zx_goto (tgt := 23) d_Mo_decided_19 (by decide) ?_
    refine zm_putI (pc2 := 26) p_Mo_7 d_Mo_decided_23 rfl zl_c546 rfl rfl rfl ?_
    refine zx_aload_n (pc2 := 27) d_Mo_decided_26 rfl rfl ?_
    refine zm_getV (pc2 := 30) f_Mo_7 d_Mo_decided_27 rfl zl_c546 rfl (zm_Is) ?_
    refine zx_if_eq (pc2 := 33) d_Mo_decided_30 rfl (tgt := 37) (by decide) (fun cz => absurd cz (by decide)) (fun _ => ?_)
    refine zx_iconst (pc2 := 34) (v := nI 0) d_Mo_decided_33 rfl (by decide) ?_
    refine zx_goto (tgt := 48) d_Mo_decided_34 (by decide) ?_
    exact zx_iret d_Mo_decided_48 rfl (⟨rfl, rfl, rfl⟩)
  · refine zx_aload_n (pc2 := 1) d_Mo_decided_0 rfl rfl ?_
    refine zx_iload_n (pc2 := 2) d_Mo_decided_1 rfl rfl ?_
    refine zk_callS (pc2 := 5) s_Mo_158 t_Mo_noProposer (c_Mo_noP0 hp) d_Mo_decided_2 rfl rfl rfl (Nat.le_of_ble_eq_true rfl) (by decide) (by decide) ?_
    refine zx_if_ne (pc2 := 8) d_Mo_decided_5 rfl (tgt := 18) (by decide) (fun cz => absurd (by decide) cz) (fun _ => ?_)
    refine zx_iload_n (pc2 := 9) d_Mo_decided_8 rfl rfl ?_
    refine zx_if_lt (pc2 := 12) d_Mo_decided_9 rfl (tgt := 18) (by decide) (fun cz => absurd cz (c)) (fun _ => ?_)
    refine zx_iload_n (pc2 := 13) d_Mo_decided_12 rfl rfl ?_
    refine zx_bipush (pc2 := 15) (v := nI 7) d_Mo_decided_13 rfl (by decide) ?_
    refine zx_icmp_le (pc2 := 18) d_Mo_decided_15 rfl (tgt := 22) (by decide) (fun cz => absurd cz ((gx_8 hx).resolve_left c)) (fun _ => ?_)
    refine zx_iconst (pc2 := 19) (v := nI 1) d_Mo_decided_18 rfl (by decide) ?_
    refine zx_goto (tgt := 23) d_Mo_decided_19 (by decide) ?_
    refine zm_putI (pc2 := 26) p_Mo_7 d_Mo_decided_23 rfl zl_c546 rfl rfl rfl ?_
    refine zx_aload_n (pc2 := 27) d_Mo_decided_26 rfl rfl ?_
    refine zm_getV (pc2 := 30) f_Mo_7 d_Mo_decided_27 rfl zl_c546 rfl (zm_Is) ?_
    refine zx_if_eq (pc2 := 33) d_Mo_decided_30 rfl (tgt := 37) (by decide) (fun cz => absurd cz (by decide)) (fun _ => ?_)
    refine zx_iconst (pc2 := 34) (v := nI 0) d_Mo_decided_33 rfl (by decide) ?_
    refine zx_goto (tgt := 48) d_Mo_decided_34 (by decide) ?_
    exact zx_iret d_Mo_decided_48 rfl (⟨rfl, rfl, rfl⟩)
end C51
