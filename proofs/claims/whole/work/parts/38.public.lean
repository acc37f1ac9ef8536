/-! LogHouse: the calls that return -/
def fs_high (M : zm_M) : Nat → Int32
  | 0 => nI 0
  | i + 1 => ff_max (fs_high M i) (zm_I M (2 + 6 * i) 0)
def fm_camp (M : zm_M) (r : Nat) : zm_M := fm_sendP (fm_begin M r (fs_high M 7)) r
def fm_propose (M : zm_M) (r pl dl : Nat) : zm_M := fm_sendA (fm_pd M r pl dl) r pl
def fm_resend (M : zm_M) (r : Nat) : zm_M := if zm_I M r 1 = nI 1 then fm_sendP M r else if zm_I M r 1 = nI 2 then fm_sendAll M r else M
theorem fm_prop_I {M : zm_M} {r a i : Nat} {id : Int32} (h : a ≠ r) : zm_I (fm_prop M r id) a i = zm_I M a i := by
  unfold fm_prop
  rw [zm_In (Or.inl h), zm_In (Or.inl h)]
theorem fm_begin_I {M : zm_M} {r a i : Nat} {hp : Int32} (h : a ≠ r) (h2 : ∀ p, p < 8 → a ≠ r + 39 + 3 * p) : zm_I (fm_begin M r hp) a i = zm_I M a i ∧ zm_P (fm_begin M r hp) = zm_P M := by
  have key : ∀ d, d ≤ 8 → zm_I (zm_it (fun p M => fm_prop M (r + 39 + 3 * p) (nI 0)) d (fm_beg0 M r hp)) a i = zm_I M a i ∧ zm_P (zm_it (fun p M => fm_prop M (r + 39 + 3 * p) (nI 0)) d (fm_beg0 M r hp)) = zm_P M := by
    intro d
    induction d with
    | zero =>
      intro _
      refine ⟨?_, rfl⟩
      show zm_I (fm_beg0 M r hp) a i = _
      unfold fm_beg0
      rw [zm_In (Or.inl h), zm_In (Or.inl h), zm_In (Or.inl h)]
    | succ d ih =>
      intro hd
      exact ⟨(fm_prop_I (h2 d (by omega))).trans (ih (by omega)).1, (ih (by omega)).2⟩
  exact key 8 (Nat.le_refl 8)
theorem fm_cut_I {M : zm_M} {r q c a i : Nat} (h : a ≠ r) : zm_I (fm_cut M r q c) a i = zm_I M a i ∧ zm_P (fm_cut M r q c) = zm_P M := by
  have key : ∀ d (N : zm_M), zm_I (zm_it (fm_cutS r q (ff_T c)) d N) = zm_I N ∧ zm_P (zm_it (fm_cutS r q (ff_T c)) d N) = zm_P N := by
    intro d N
    induction d with
    | zero => exact ⟨rfl, rfl⟩
    | succ d ih => exact ih
  refine ⟨?_, (key c _).2⟩
  show zm_I (zm_it (fm_cutS r q (ff_T c)) c (fm_clearP (zm_wI M r 0 (nI c)) r)) a i = _
  rw [(key c _).1]
  show zm_I (zm_wI M r 0 (nI c)) a i = _
  rw [zm_In (Or.inl h)]
theorem fm_pd_I {M : zm_M} {r pl dl a i : Nat} (h : a ≠ r ∧ a ≠ r + 39 + 3 * pl ∧ a ≠ r + 39 + 3 * pl + 1) : zm_I (fm_pd M r pl dl) a i = zm_I M a i ∧ zm_P (fm_pd M r pl dl) = zm_P M := by
  refine ⟨?_, ?_⟩
  · unfold fm_pd
    rw [zm_In (Or.inl h.1), (fm_cut_I h.2.2).1, fm_prop_I h.2.1]
  · exact (fm_cut_I (a := 0) (i := 0) (M := fm_prop M (r + 39 + 3 * pl) (zm_I M r 2)) (r := r + 39 + 3 * pl + 1) (q := r + 1) (c := dl) (by omega)).2
section C38
variable {l : Launch} {D : va_G} {ar : Nat → ClassId} {b : Nat} {Z : State → Prop} {M : zm_M} {n : Nat}
theorem c_Ho_isProposer {x : Int32} : zK l D ar b Z y_Ho_isProposer 0 [.int x] M n (some (.int (if x < 0 ∨ nI 2 ≤ x then nI 0 else nI 1))) M := by
  refine zk_entry (L := [some (.int x)]) rfl rfl (Nat.le_of_ble_eq_true rfl) rfl rfl ?_
  refine zx_iload_n (pc2 := 1) d_Ho_isProposer_0 rfl rfl ?_
  refine zx_if_lt (pc2 := 4) d_Ho_isProposer_1 rfl (tgt := 13) (by decide) (fun c => ?_) (fun c => ?_)
  · rw [if_pos (Or.inl c)]
    refine zx_iconst (pc2 := 14) (v := nI 0) d_Ho_isProposer_13 rfl (by decide) ?_
    exact zx_zret d_Ho_isProposer_14 rfl rfl (⟨rfl, rfl, rfl⟩)
  · refine zx_iload_n (pc2 := 5) d_Ho_isProposer_4 rfl rfl ?_
    refine zx_iconst (pc2 := 6) (v := nI 2) d_Ho_isProposer_5 rfl (by decide) ?_
    refine zx_icmp_ge (pc2 := 9) d_Ho_isProposer_6 rfl (tgt := 13) (by decide) (fun c2 => ?_) (fun c2 => ?_)
    · rw [if_pos (Or.inr c2)]
      refine zx_iconst (pc2 := 14) (v := nI 0) d_Ho_isProposer_13 rfl (by decide) ?_
      exact zx_zret d_Ho_isProposer_14 rfl rfl (⟨rfl, rfl, rfl⟩)
    · rw [if_neg (fun z => z.elim c c2)]
      refine zx_iconst (pc2 := 10) (v := nI 1) d_Ho_isProposer_9 rfl (by decide) ?_
      refine zx_goto (tgt := 14) d_Ho_isProposer_10 (by decide) ?_
      exact zx_zret d_Ho_isProposer_14 rfl rfl (⟨rfl, rfl, rfl⟩)
theorem c_Ho_isP1 {p : Nat} (hp : p < 2) : zK l D ar b Z y_Ho_isProposer 0 [.int (nI p)] M n (some (.int (nI 1))) M := by
  have h := c_Ho_isProposer (l := l) (D := D) (ar := ar) (b := b) (Z := Z) (M := M) (n := n) (x := nI p)
  rwa [if_neg (fun z => z.elim (nI_pos (by omega)) (nI_ge hp (by decide)))] at h
theorem c_Ho_checkProposer {p : Nat} (hp : p < 2) : zK l D ar b Z y_Ho_checkProposer 1 [.int (nI p)] M n none M := by
  refine zk_entry (L := [some (.int (nI p))]) rfl rfl (Nat.le_of_ble_eq_true rfl) rfl rfl ?_
  refine zx_iload_n (pc2 := 1) d_Ho_checkProposer_0 rfl rfl ?_
  refine zk_callS (pc2 := 4) s_Ho_49 t_Ho_isProposer (c_Ho_isP1 hp) d_Ho_checkProposer_1 rfl rfl rfl (Nat.le_of_ble_eq_true rfl) (by decide) (by decide) ?_
  refine zx_if_ne (pc2 := 7) d_Ho_checkProposer_4 rfl (tgt := 15) (by decide) (fun _ => ?_) (fun cz => absurd cz (by decide))
  exact zx_vret d_Ho_checkProposer_15 rfl (⟨rfl, rfl, rfl⟩)
theorem c_Ho_checkStation {s : Nat} (hs : s < 7) : zK l D ar b Z y_Ho_checkStation 0 [.int (nI s)] M n none M := by
  refine zk_entry (L := [some (.int (nI s))]) rfl rfl (Nat.le_of_ble_eq_true rfl) rfl rfl ?_
  refine zx_iload_n (pc2 := 1) d_Ho_checkStation_0 rfl rfl ?_
  refine zx_if_lt (pc2 := 4) d_Ho_checkStation_1 rfl (tgt := 10) (by decide) (fun cz => absurd cz (nI_pos (by omega))) (fun _ => ?_)
  refine zx_iload_n (pc2 := 5) d_Ho_checkStation_4 rfl rfl ?_
  refine zx_bipush (pc2 := 7) (v := nI 7) d_Ho_checkStation_5 rfl (by decide) ?_
  refine zx_icmp_lt (pc2 := 10) d_Ho_checkStation_7 rfl (tgt := 18) (by decide) (fun _ => ?_) (fun cz => absurd (nI_lt hs (by decide)) cz)
  exact zx_vret d_Ho_checkStation_18 rfl (⟨rfl, rfl, rfl⟩)
theorem c_Ho_checkPlace {s : Nat} (hs : s < 8) : zK l D ar b Z y_Ho_checkPlace 0 [.int (nI s)] M n none M := by
  refine zk_entry (L := [some (.int (nI s))]) rfl rfl (Nat.le_of_ble_eq_true rfl) rfl rfl ?_
  refine zx_iload_n (pc2 := 1) d_Ho_checkPlace_0 rfl rfl ?_
  refine zx_if_lt (pc2 := 4) d_Ho_checkPlace_1 rfl (tgt := 10) (by decide) (fun cz => absurd cz (nI_pos (by omega))) (fun _ => ?_)
  refine zx_iload_n (pc2 := 5) d_Ho_checkPlace_4 rfl rfl ?_
  refine zx_bipush (pc2 := 7) (v := nI 8) d_Ho_checkPlace_5 rfl (by decide) ?_
  refine zx_icmp_lt (pc2 := 10) d_Ho_checkPlace_7 rfl (tgt := 18) (by decide) (fun _ => ?_) (fun cz => absurd (nI_lt hs (by decide)) cz)
  exact zx_vret d_Ho_checkPlace_18 rfl (⟨rfl, rfl, rfl⟩)
theorem c_Ho_checkLetter {i c : Nat} (hc : zm_I M 171 0 = nI c) (h60 : c ≤ 60) (hi : i < c) : zK l D ar b Z y_Ho_checkLetter 0 [.ref (b + 0), .int (nI i)] M n none M := by
  refine zk_entry (L := [some (.ref (b + 0)), some (.int (nI i))]) rfl rfl (Nat.le_of_ble_eq_true rfl) rfl rfl ?_
  refine zx_iload_n (pc2 := 1) d_Ho_checkLetter_0 rfl rfl ?_
  refine zx_if_lt (pc2 := 4) d_Ho_checkLetter_1 rfl (tgt := 15) (by decide) (fun cz => absurd cz (nI_pos (by omega))) (fun _ => ?_)
  refine zx_iload_n (pc2 := 5) d_Ho_checkLetter_4 rfl rfl ?_
  refine zx_aload_n (pc2 := 6) d_Ho_checkLetter_5 rfl rfl ?_
  refine zm_getR (pc2 := 9) f_Ho_28 d_Ho_checkLetter_6 rfl (zl_c0) rfl ?_
  refine zm_getI (pc2 := 12) f_Ho_91 d_Ho_checkLetter_9 rfl (zl_c171) rfl ?_
  refine zx_icmp_lt (pc2 := 15) d_Ho_checkLetter_12 rfl (tgt := 23) (by decide) (fun _ => ?_) (fun cz => absurd (by rw [hc]; exact nI_lt hi (by omega)) cz)
  exact zx_vret d_Ho_checkLetter_23 rfl (⟨rfl, rfl, rfl⟩)
theorem c_Ho_highestPromised : zK l D ar b Z y_Ho_highestPromised 1 [.ref (b + 0)] M n (some (.int (fs_high M 7))) M := by
  refine zk_entry (L := [some (.ref (b + 0)), none, none]) rfl rfl (Nat.le_of_ble_eq_true rfl) rfl rfl ?_
  refine zx_iconst (pc2 := 1) (v := nI 0) d_Ho_highestPromised_0 rfl (by decide) ?_
  refine zx_ist1 (pc2 := 2) d_Ho_highestPromised_1 rfl rfl (by decide) ?_
  refine zx_iconst (pc2 := 3) (v := nI 0) d_Ho_highestPromised_2 rfl (by decide) ?_
  refine zx_ist2 (pc2 := 4) d_Ho_highestPromised_3 rfl rfl (by decide) ?_
  refine zx_for (X := fun i => zk_X l D ar b Z y_Ho_highestPromised 1 (some (.int (fs_high M 7))) M n 4 [some (.ref (b + 0)), some (.int (fs_high M i)), some (.int (nI i))] [] M) 7 ?_ ?_ 0 (by decide)
  · refine zx_iload_n (pc2 := 5) d_Ho_highestPromised_4 rfl rfl ?_
    refine zx_bipush (pc2 := 7) (v := nI 7) d_Ho_highestPromised_5 rfl (by decide) ?_
    refine zx_icmp_ge (pc2 := 10) d_Ho_highestPromised_7 rfl (tgt := 30) (by decide) (fun _ => ?_) (fun cz => absurd (nI_le (Nat.le_refl 7) (by decide)) cz)
    refine zx_iload_n (pc2 := 31) d_Ho_highestPromised_30 rfl rfl ?_
    exact zx_iret d_Ho_highestPromised_31 rfl (⟨rfl, rfl, rfl⟩)
  · intro i hi ih
    refine zx_iload_n (pc2 := 5) d_Ho_highestPromised_4 rfl rfl ?_
    refine zx_bipush (pc2 := 7) (v := nI 7) d_Ho_highestPromised_5 rfl (by decide) ?_
    refine zx_icmp_ge (pc2 := 10) d_Ho_highestPromised_7 rfl (tgt := 30) (by decide) (fun cz => absurd cz (nI_ge hi (by decide))) (fun _ => ?_)
    refine zx_iload_n (pc2 := 11) d_Ho_highestPromised_10 rfl rfl ?_
    refine zx_aload_n (pc2 := 12) d_Ho_highestPromised_11 rfl rfl ?_
    refine zm_getR (pc2 := 15) f_Ho_11 d_Ho_highestPromised_12 rfl (zl_c0) rfl ?_
    refine zx_iload_n (pc2 := 16) d_Ho_highestPromised_15 rfl rfl ?_
    refine zk_aaldC (pc2 := 17) d_Ho_highestPromised_16 rfl (by decide) (zl_c1) (by decide) rfl (rfl) (hi) (by decide) ?_
    refine zm_getI (pc2 := 20) f_Ho_222 d_Ho_highestPromised_17 rfl (zl_st i hi) rfl ?_
    refine zx_mmax (pc2 := 23) d_Ho_highestPromised_20 rfl zn_w366 zn_w367 zn_w15 zn_w368 (by decide) (Nat.le_of_ble_eq_true rfl) (Nat.le_refl 0) (Nat.le_refl 0) ?_
    refine zx_ist1 (pc2 := 24) d_Ho_highestPromised_23 rfl rfl (by decide) ?_
    refine zx_inc2 (pc2 := 27) d_Ho_highestPromised_24 rfl (zk_1 _) rfl (by decide) ?_
    refine zx_goto (tgt := 4) d_Ho_highestPromised_27 (by decide) ?_
    exact ih
theorem c_Ho_letters : zK l D ar b Z y_Ho_letters 0 [.ref (b + 0)] M n (some (.int (zm_I M 171 0))) M := by
  refine zk_entry (L := [some (.ref (b + 0))]) rfl rfl (Nat.le_of_ble_eq_true rfl) rfl rfl ?_
  refine zx_aload_n (pc2 := 1) d_Ho_letters_0 rfl rfl ?_
  refine zm_getR (pc2 := 4) f_Ho_28 d_Ho_letters_1 rfl (zl_c0) rfl ?_
  refine zm_getI (pc2 := 7) f_Ho_91 d_Ho_letters_4 rfl (zl_c171) rfl ?_
  exact zx_iret d_Ho_letters_7 rfl (⟨rfl, rfl, rfl⟩)
theorem c_Ho_byteIn1 {p dl m : Nat} {w : Int32} (hp : p < 2) (hd : zm_I M (45 + 63 * p) 4 = nI dl) (hdl : dl ≤ 24) (hm : 1 ≤ m) (hm4 : m ≤ 4) : zK l D ar b Z y_Ho_byteIn 1 [.ref (b + 0), .int (nI p), .int w, .int (nI m)] M n (some (.int (if dl + m ≤ 24 then nI 1 else nI 0))) (if dl + m ≤ 24 then fm_wr M (45 + 63 * p) w dl m else M) := by
  have hr := zl_pr p hp
  have hw := c_Pr_write (l := l) (D := D) (ar := ar) (b := b) (Z := Z) (M := M) (n := n) (w := w) hr hd hdl (show m < 5 by omega)
  refine zk_entry (L := [some (.ref (b + 0)), some (.int (nI p)), some (.int w), some (.int (nI m))]) rfl rfl (Nat.le_of_ble_eq_true rfl) rfl rfl ?_
  refine zx_iload_n (pc2 := 1) d_Ho_byteIn_0 rfl rfl ?_
  refine zk_callS (pc2 := 4) s_Ho_49 t_Ho_isProposer (c_Ho_isP1 hp) d_Ho_byteIn_1 rfl rfl rfl (Nat.le_of_ble_eq_true rfl) (by decide) (by decide) ?_
  refine zx_if_eq (pc2 := 7) d_Ho_byteIn_4 rfl (tgt := 17) (by decide) (fun cz => absurd cz (by decide)) (fun _ => ?_)
  refine zx_iload_n (pc2 := 8) d_Ho_byteIn_7 rfl rfl ?_
  refine zx_iconst (pc2 := 9) (v := nI 1) d_Ho_byteIn_8 rfl (by decide) ?_
  refine zx_icmp_lt (pc2 := 12) d_Ho_byteIn_9 rfl (tgt := 17) (by decide) (fun cz => absurd cz (nI_nlt hm (by omega))) (fun _ => ?_)
  refine zx_iload_n (pc2 := 13) d_Ho_byteIn_12 rfl rfl ?_
  refine zx_iconst (pc2 := 14) (v := nI 4) d_Ho_byteIn_13 rfl (by decide) ?_
  refine zx_icmp_le (pc2 := 17) d_Ho_byteIn_14 rfl (tgt := 19) (by decide) (fun _ => ?_) (fun cz => absurd (nI_le hm4 (by decide)) cz)
  refine zx_aload_n (pc2 := 20) d_Ho_byteIn_19 rfl rfl ?_
  refine zm_getR (pc2 := 23) f_Ho_18 d_Ho_byteIn_20 rfl (zl_c0) rfl ?_
  refine zx_iload_n (pc2 := 24) d_Ho_byteIn_23 rfl rfl ?_
  refine zk_aaldC (pc2 := 25) d_Ho_byteIn_24 rfl (by decide) (zl_c44) (by decide) rfl (rfl) (hp) (by decide) ?_
  refine zx_iload_n (pc2 := 26) d_Ho_byteIn_25 rfl rfl ?_
  refine zx_iload_n (pc2 := 27) d_Ho_byteIn_26 rfl rfl ?_
  refine zk_callV (pc2 := 30) s_Ho_53 v_Pr_write (hr.1) (hw) d_Ho_byteIn_27 rfl rfl rfl (Nat.le_of_ble_eq_true rfl) (by decide) (by decide) ?_
  by_cases c : dl + m ≤ 24
  · rw [if_pos c, if_pos c]
    exact zx_zret d_Ho_byteIn_30 rfl rfl (⟨rfl, rfl, rfl⟩)
  · rw [if_neg c, if_neg c]
    exact zx_zret d_Ho_byteIn_30 rfl rfl (⟨rfl, rfl, rfl⟩)
theorem c_Ho_byteIn0 {x w m : Int32} (h : (x < 0 ∨ nI 2 ≤ x) ∨ m < nI 1 ∨ ¬ m ≤ nI 4) : zK l D ar b Z y_Ho_byteIn 1 [.ref (b + 0), .int x, .int w, .int m] M n (some (.int (nI 0))) M := by
  have hI := c_Ho_isProposer (l := l) (D := D) (ar := ar) (b := b) (Z := Z) (M := M) (n := n) (x := x)
  refine zk_entry (L := [some (.ref (b + 0)), some (.int x), some (.int w), some (.int m)]) rfl rfl (Nat.le_of_ble_eq_true rfl) rfl rfl ?_
  by_cases c : x < 0 ∨ nI 2 ≤ x
  · rw [if_pos c] at hI
    refine zx_iload_n (pc2 := 1) d_Ho_byteIn_0 rfl rfl ?_
    refine zk_callS (pc2 := 4) s_Ho_49 t_Ho_isProposer (hI) d_Ho_byteIn_1 rfl rfl rfl (Nat.le_of_ble_eq_true rfl) (by decide) (by decide) ?_
    refine zx_if_eq (pc2 := 7) d_Ho_byteIn_4 rfl (tgt := 17) (by decide) (fun _ => ?_) (fun cz => absurd (by decide) cz)
    refine zx_iconst (pc2 := 18) (v := nI 0) d_Ho_byteIn_17 rfl (by decide) ?_
    exact zx_zret d_Ho_byteIn_18 rfl rfl (⟨rfl, rfl, rfl⟩)
  · rw [if_neg c] at hI
    refine zx_iload_n (pc2 := 1) d_Ho_byteIn_0 rfl rfl ?_
    refine zk_callS (pc2 := 4) s_Ho_49 t_Ho_isProposer (hI) d_Ho_byteIn_1 rfl rfl rfl (Nat.le_of_ble_eq_true rfl) (by decide) (by decide) ?_
    refine zx_if_eq (pc2 := 7) d_Ho_byteIn_4 rfl (tgt := 17) (by decide) (fun cz => absurd cz (by decide)) (fun _ => ?_)
    refine zx_iload_n (pc2 := 8) d_Ho_byteIn_7 rfl rfl ?_
    refine zx_iconst (pc2 := 9) (v := nI 1) d_Ho_byteIn_8 rfl (by decide) ?_
    by_cases c2 : m < nI 1
    · refine zx_icmp_lt (pc2 := 12) d_Ho_byteIn_9 rfl (tgt := 17) (by decide) (fun _ => ?_) (fun cz => absurd (c2) cz)
      refine zx_iconst (pc2 := 18) (v := nI 0) d_Ho_byteIn_17 rfl (by decide) ?_
      exact zx_zret d_Ho_byteIn_18 rfl rfl (⟨rfl, rfl, rfl⟩)
    · refine zx_icmp_lt (pc2 := 12) d_Ho_byteIn_9 rfl (tgt := 17) (by decide) (fun cz => absurd cz (c2)) (fun _ => ?_)
      refine zx_iload_n (pc2 := 13) d_Ho_byteIn_12 rfl rfl ?_
      refine zx_iconst (pc2 := 14) (v := nI 4) d_Ho_byteIn_13 rfl (by decide) ?_
      refine zx_icmp_le (pc2 := 17) d_Ho_byteIn_14 rfl (tgt := 19) (by decide) (fun cz => absurd cz ((h.resolve_left c).resolve_left c2)) (fun _ => ?_)
      refine zx_iconst (pc2 := 18) (v := nI 0) d_Ho_byteIn_17 rfl (by decide) ?_
      exact zx_zret d_Ho_byteIn_18 rfl rfl (⟨rfl, rfl, rfl⟩)
theorem c_Ho_campaign {p : Nat} (hp : p < 2) (hk : rk_ok M) : zK l D ar b Z y_Ho_campaign 3 [.ref (b + 0), .int (nI p)] M n (some (.int (zm_I (fm_camp M (45 + 63 * p)) (45 + 63 * p) 2))) (fm_camp M (45 + 63 * p)) := by
  have hr := zl_pr p hp
  have hb := fm_begin_I (M := M) (r := 45 + 63 * p) (a := 171) (i := 0) (hp := fs_high M 7) (by omega) (fun q hq => by omega)
  have hk1 : rk_ok (fm_begin M (45 + 63 * p) (fs_high M 7)) := rk_I hk hb.1 hb.2
  refine zk_entry (L := [some (.ref (b + 0)), some (.int (nI p)), none]) rfl rfl (Nat.le_of_ble_eq_true rfl) rfl rfl ?_
  refine zx_iload_n (pc2 := 1) d_Ho_campaign_0 rfl rfl ?_
  refine zk_callSv (pc2 := 4) s_Ho_57 t_Ho_checkProposer (c_Ho_checkProposer hp) d_Ho_campaign_1 rfl rfl rfl (Nat.le_of_ble_eq_true rfl) (by decide) (by decide) ?_
  refine zx_aload_n (pc2 := 5) d_Ho_campaign_4 rfl rfl ?_
  refine zm_getR (pc2 := 8) f_Ho_18 d_Ho_campaign_5 rfl (zl_c0) rfl ?_
  refine zx_iload_n (pc2 := 9) d_Ho_campaign_8 rfl rfl ?_
  refine zk_aaldC (pc2 := 10) d_Ho_campaign_9 rfl (by decide) (zl_c44) (by decide) rfl (rfl) (hp) (by decide) ?_
  refine zx_ast2 (pc2 := 11) d_Ho_campaign_10 rfl rfl (by decide) ?_
  refine zx_aload_n (pc2 := 12) d_Ho_campaign_11 rfl rfl ?_
  refine zx_aload_n (pc2 := 13) d_Ho_campaign_12 rfl rfl ?_
  refine zk_callV (pc2 := 16) s_Ho_60 v_Ho_highestPromised (zl_c0) (c_Ho_highestPromised) d_Ho_campaign_13 rfl rfl rfl (Nat.le_of_ble_eq_true rfl) (by decide) (by decide) ?_
  refine zk_callVv (pc2 := 19) s_Ho_64 v_Pr_begin (hr.1) (c_Pr_begin hr) d_Ho_campaign_16 rfl rfl rfl (Nat.le_of_ble_eq_true rfl) (by decide) (by decide) ?_
  refine zx_aload_n (pc2 := 20) d_Ho_campaign_19 rfl rfl ?_
  refine zx_aload_n (pc2 := 21) d_Ho_campaign_20 rfl rfl ?_
  refine zk_callVv (pc2 := 24) s_Ho_67 v_Ho_sendPrepares (zl_c0) (c_Ho_sendPrepares hr hk1) d_Ho_campaign_21 rfl rfl rfl (Nat.le_of_ble_eq_true rfl) (by decide) (by decide) ?_
  refine zx_aload_n (pc2 := 25) d_Ho_campaign_24 rfl rfl ?_
  refine zm_getI (pc2 := 28) f_Ho_71 d_Ho_campaign_25 rfl (hr.1) rfl ?_
  exact zx_iret d_Ho_campaign_28 rfl (⟨rfl, rfl, rfl⟩)
theorem c_Ho_propose {p pl dl : Nat} (hp : p < 2) (hf : fs_ff M (45 + 63 * p) = nI pl) (hpl : pl < 8) (hd : zm_I M (45 + 63 * p) 4 = nI dl) (hdl : dl ≤ 24) (hd0 : 0 < dl) (hk : rk_ok M) : zK l D ar b Z y_Ho_propose 3 [.ref (b + 0), .int (nI p)] M n (some (.int (nI pl))) (fm_propose M (45 + 63 * p) pl dl) := by
  have hr := zl_pr p hp
  have hff := c_Pr_firstFree (l := l) (D := D) (ar := ar) (b := b) (Z := Z) (M := M) (n := n) hr
  rw [hf] at hff
  have hi := fm_pd_I (M := M) (r := 45 + 63 * p) (pl := pl) (dl := dl) (a := 171) (i := 0) ⟨by omega, by omega, by omega⟩
  have hk1 : rk_ok (fm_pd M (45 + 63 * p) pl dl) := rk_I hk hi.1 hi.2
  refine zk_entry (L := [some (.ref (b + 0)), some (.int (nI p)), none, none]) rfl rfl (Nat.le_of_ble_eq_true rfl) rfl rfl ?_
  refine zx_iload_n (pc2 := 1) d_Ho_propose_0 rfl rfl ?_
  refine zk_callSv (pc2 := 4) s_Ho_57 t_Ho_checkProposer (c_Ho_checkProposer hp) d_Ho_propose_1 rfl rfl rfl (Nat.le_of_ble_eq_true rfl) (by decide) (by decide) ?_
  refine zx_aload_n (pc2 := 5) d_Ho_propose_4 rfl rfl ?_
  refine zm_getR (pc2 := 8) f_Ho_18 d_Ho_propose_5 rfl (zl_c0) rfl ?_
  refine zx_iload_n (pc2 := 9) d_Ho_propose_8 rfl rfl ?_
  refine zk_aaldC (pc2 := 10) d_Ho_propose_9 rfl (by decide) (zl_c44) (by decide) rfl (rfl) (hp) (by decide) ?_
  refine zx_ast2 (pc2 := 11) d_Ho_propose_10 rfl rfl (by decide) ?_
  refine zx_aload_n (pc2 := 12) d_Ho_propose_11 rfl rfl ?_
  refine zk_callV (pc2 := 15) s_Ho_75 v_Pr_firstFree (hr.1) (hff) d_Ho_propose_12 rfl rfl rfl (Nat.le_of_ble_eq_true rfl) (by decide) (by decide) ?_
  refine zx_ist3 (pc2 := 16) d_Ho_propose_15 rfl rfl (by decide) ?_
  refine zx_iload_n (pc2 := 17) d_Ho_propose_16 rfl rfl ?_
  refine zx_iconst (pc2 := 18) (v := -1) d_Ho_propose_17 rfl (by decide) ?_
  refine zx_icmp_eq (pc2 := 21) d_Ho_propose_18 rfl (tgt := 28) (by decide) (fun cz => absurd cz (fun e => nI_pos (n := pl) (by omega) (by rw [e]; decide))) (fun _ => ?_)
  refine zx_aload_n (pc2 := 22) d_Ho_propose_21 rfl rfl ?_
  refine zm_getI (pc2 := 25) f_Ho_78 d_Ho_propose_22 rfl (hr.1) rfl ?_
  refine zx_if_ne (pc2 := 28) d_Ho_propose_25 rfl (tgt := 36) (by decide) (fun _ => ?_) (fun cz => absurd cz (by rw [hd]; exact nI_ne0 hd0 (by omega)))
  refine zx_aload_n (pc2 := 37) d_Ho_propose_36 rfl rfl ?_
  refine zx_iload_n (pc2 := 38) d_Ho_propose_37 rfl rfl ?_
  refine zk_callVv (pc2 := 41) s_Ho_84 v_Pr_proposeDraft (hr.1) (c_Pr_proposeDraft hr hpl hd hdl) d_Ho_propose_38 rfl rfl rfl (Nat.le_of_ble_eq_true rfl) (by decide) (by decide) ?_
  refine zx_aload_n (pc2 := 42) d_Ho_propose_41 rfl rfl ?_
  refine zx_aload_n (pc2 := 43) d_Ho_propose_42 rfl rfl ?_
  refine zx_iload_n (pc2 := 44) d_Ho_propose_43 rfl rfl ?_
  refine zk_callVv (pc2 := 47) s_Ho_87 v_Ho_sendAccepts (zl_c0) (c_Ho_sendAccepts hr hpl hk1) d_Ho_propose_44 rfl rfl rfl (Nat.le_of_ble_eq_true rfl) (by decide) (by decide) ?_
  refine zx_iload_n (pc2 := 48) d_Ho_propose_47 rfl rfl ?_
  exact zx_iret d_Ho_propose_48 rfl (⟨rfl, rfl, rfl⟩)
theorem c_Ho_resend {p : Nat} (hp : p < 2) (hk : rk_ok M) : zK l D ar b Z y_Ho_resend 4 [.ref (b + 0), .int (nI p)] M n (some (.int (zm_I (fm_resend M (45 + 63 * p)) 171 0 - zm_I M 171 0))) (fm_resend M (45 + 63 * p)) := by
  have hr := zl_pr p hp
  refine zk_entry (L := [some (.ref (b + 0)), some (.int (nI p)), none, none]) rfl rfl (Nat.le_of_ble_eq_true rfl) rfl rfl ?_
  unfold fm_resend
  refine zx_iload_n (pc2 := 1) d_Ho_resend_0 rfl rfl ?_
  refine zk_callSv (pc2 := 4) s_Ho_57 t_Ho_checkProposer (c_Ho_checkProposer hp) d_Ho_resend_1 rfl rfl rfl (Nat.le_of_ble_eq_true rfl) (by decide) (by decide) ?_
  refine zx_aload_n (pc2 := 5) d_Ho_resend_4 rfl rfl ?_
  refine zm_getR (pc2 := 8) f_Ho_18 d_Ho_resend_5 rfl (zl_c0) rfl ?_
  refine zx_iload_n (pc2 := 9) d_Ho_resend_8 rfl rfl ?_
  refine zk_aaldC (pc2 := 10) d_Ho_resend_9 rfl (by decide) (zl_c44) (by decide) rfl (rfl) (hp) (by decide) ?_
  refine zx_ast2 (pc2 := 11) d_Ho_resend_10 rfl rfl (by decide) ?_
  refine zx_aload_n (pc2 := 12) d_Ho_resend_11 rfl rfl ?_
  refine zm_getR (pc2 := 15) f_Ho_28 d_Ho_resend_12 rfl (zl_c0) rfl ?_
  refine zm_getI (pc2 := 18) f_Ho_91 d_Ho_resend_15 rfl (zl_c171) rfl ?_
  refine zx_ist3 (pc2 := 19) d_Ho_resend_18 rfl rfl (by decide) ?_
  refine zx_aload_n (pc2 := 20) d_Ho_resend_19 rfl rfl ?_
  refine zm_getI (pc2 := 23) f_Ho_94 d_Ho_resend_20 rfl (hr.1) rfl ?_
  refine zx_iconst (pc2 := 24) (v := nI 1) d_Ho_resend_23 rfl (by decide) ?_
  refine zx_icmp_ne (pc2 := 27) d_Ho_resend_24 rfl (tgt := 35) (by decide) (fun c => ?_) (fun c => ?_)
  · refine zx_aload_n (pc2 := 36) d_Ho_resend_35 rfl rfl ?_
    refine zm_getI (pc2 := 39) f_Ho_94 d_Ho_resend_36 rfl (hr.1) rfl ?_
    refine zx_iconst (pc2 := 40) (v := nI 2) d_Ho_resend_39 rfl (by decide) ?_
    refine zx_icmp_ne (pc2 := 43) d_Ho_resend_40 rfl (tgt := 48) (by decide) (fun c2 => ?_) (fun c2 => ?_)
    · rw [if_neg c, if_neg c2]
      refine zx_aload_n (pc2 := 49) d_Ho_resend_48 rfl rfl ?_
      refine zm_getR (pc2 := 52) f_Ho_28 d_Ho_resend_49 rfl (zl_c0) rfl ?_
      refine zm_getI (pc2 := 55) f_Ho_91 d_Ho_resend_52 rfl (zl_c171) rfl ?_
      refine zx_iload_n (pc2 := 56) d_Ho_resend_55 rfl rfl ?_
      refine zx_isub (pc2 := 57) d_Ho_resend_56 rfl ?_
      exact zx_iret d_Ho_resend_57 rfl (⟨rfl, rfl, rfl⟩)
    · rw [if_neg c, if_pos c2]
      refine zx_aload_n (pc2 := 44) d_Ho_resend_43 rfl rfl ?_
      refine zx_aload_n (pc2 := 45) d_Ho_resend_44 rfl rfl ?_
      refine zk_callVv (pc2 := 48) s_Ho_97 v_Ho_sendAllAccepts (zl_c0) (c_Ho_sendAllAccepts hr hk) d_Ho_resend_45 rfl rfl rfl (Nat.le_of_ble_eq_true rfl) (by decide) (by decide) ?_
      refine zx_aload_n (pc2 := 49) d_Ho_resend_48 rfl rfl ?_
      refine zm_getR (pc2 := 52) f_Ho_28 d_Ho_resend_49 rfl (zl_c0) rfl ?_
      refine zm_getI (pc2 := 55) f_Ho_91 d_Ho_resend_52 rfl (zl_c171) rfl ?_
      refine zx_iload_n (pc2 := 56) d_Ho_resend_55 rfl rfl ?_
      refine zx_isub (pc2 := 57) d_Ho_resend_56 rfl ?_
      exact zx_iret d_Ho_resend_57 rfl (⟨rfl, rfl, rfl⟩)
  · rw [if_pos c]
    refine zx_aload_n (pc2 := 28) d_Ho_resend_27 rfl rfl ?_
    refine zx_aload_n (pc2 := 29) d_Ho_resend_28 rfl rfl ?_
    refine zk_callVv (pc2 := 32) s_Ho_67 v_Ho_sendPrepares (zl_c0) (c_Ho_sendPrepares hr hk) d_Ho_resend_29 rfl rfl rfl (Nat.le_of_ble_eq_true rfl) (by decide) (by decide) ?_
    refine zx_goto (tgt := 48) d_Ho_resend_32 (by decide) ?_
    refine zx_aload_n (pc2 := 49) d_Ho_resend_48 rfl rfl ?_
    refine zm_getR (pc2 := 52) f_Ho_28 d_Ho_resend_49 rfl (zl_c0) rfl ?_
    refine zm_getI (pc2 := 55) f_Ho_91 d_Ho_resend_52 rfl (zl_c171) rfl ?_
    refine zx_iload_n (pc2 := 56) d_Ho_resend_55 rfl rfl ?_
    refine zx_isub (pc2 := 57) d_Ho_resend_56 rfl ?_
    exact zx_iret d_Ho_resend_57 rfl (⟨rfl, rfl, rfl⟩)
theorem c_Ho_up {s : Nat} {x : Int32} (hs : s < 7) (hx : x = nI 0 ∨ x = nI 1) : zK l D ar b Z y_Ho_up 1 [.ref (b + 0), .int (nI s), .int x] M n (some (.int (if zm_I M (2 + 6 * s) 1 = x then nI 0 else nI 1))) (zm_wI M (2 + 6 * s) 1 x) := by
  have hst := zl_st s hs
  have hn : narrow .boolean (.int x) = .int x := by rcases hx with rfl | rfl <;> rfl
  have hf : fits .boolean (.int x) = true := by rcases hx with rfl | rfl <;> rfl
  refine zk_entry (L := [some (.ref (b + 0)), some (.int (nI s)), some (.int x), none]) rfl rfl (Nat.le_of_ble_eq_true rfl) rfl rfl ?_
  refine zx_iload_n (pc2 := 1) d_Ho_up_0 rfl rfl ?_
  refine zk_callSv (pc2 := 4) s_Ho_152 t_Ho_checkStation (c_Ho_checkStation hs) d_Ho_up_1 rfl rfl rfl (Nat.le_of_ble_eq_true rfl) (by decide) (by decide) ?_
  refine zx_aload_n (pc2 := 5) d_Ho_up_4 rfl rfl ?_
  refine zm_getR (pc2 := 8) f_Ho_11 d_Ho_up_5 rfl (zl_c0) rfl ?_
  refine zx_iload_n (pc2 := 9) d_Ho_up_8 rfl rfl ?_
  refine zk_aaldC (pc2 := 10) d_Ho_up_9 rfl (by decide) (zl_c1) (by decide) rfl (rfl) (hs) (by decide) ?_
  refine zm_getI (pc2 := 13) f_Ho_155 d_Ho_up_10 rfl (hst) rfl ?_
  refine zx_iload_n (pc2 := 14) d_Ho_up_13 rfl rfl ?_
  refine zx_icmp_eq (pc2 := 17) d_Ho_up_14 rfl (tgt := 21) (by decide) (fun c => ?_) (fun c => ?_)
  · rw [if_pos c]
    refine zx_iconst (pc2 := 22) (v := nI 0) d_Ho_up_21 rfl (by decide) ?_
    refine zx_ist3 (pc2 := 23) d_Ho_up_22 rfl rfl (by decide) ?_
    refine zx_aload_n (pc2 := 24) d_Ho_up_23 rfl rfl ?_
    refine zm_getR (pc2 := 27) f_Ho_11 d_Ho_up_24 rfl (zl_c0) rfl ?_
    refine zx_iload_n (pc2 := 28) d_Ho_up_27 rfl rfl ?_
    refine zk_aaldC (pc2 := 29) d_Ho_up_28 rfl (by decide) (zl_c1) (by decide) rfl (rfl) (hs) (by decide) ?_
    refine zx_iload_n (pc2 := 30) d_Ho_up_29 rfl rfl ?_
    refine zm_putI (pc2 := 33) p_Ho_155 d_Ho_up_30 rfl (hst ) rfl  hn   hf ?_
    refine zx_iload_n (pc2 := 34) d_Ho_up_33 rfl rfl ?_
    exact zx_zret d_Ho_up_34 rfl rfl (⟨rfl, rfl, rfl⟩)
  · rw [if_neg c]
    refine zx_iconst (pc2 := 18) (v := nI 1) d_Ho_up_17 rfl (by decide) ?_
    refine zx_goto (tgt := 22) d_Ho_up_18 (by decide) ?_
    refine zx_ist3 (pc2 := 23) d_Ho_up_22 rfl rfl (by decide) ?_
    refine zx_aload_n (pc2 := 24) d_Ho_up_23 rfl rfl ?_
    refine zm_getR (pc2 := 27) f_Ho_11 d_Ho_up_24 rfl (zl_c0) rfl ?_
    refine zx_iload_n (pc2 := 28) d_Ho_up_27 rfl rfl ?_
    refine zk_aaldC (pc2 := 29) d_Ho_up_28 rfl (by decide) (zl_c1) (by decide) rfl (rfl) (hs) (by decide) ?_
    refine zx_iload_n (pc2 := 30) d_Ho_up_29 rfl rfl ?_
    refine zm_putI (pc2 := 33) p_Ho_155 d_Ho_up_30 rfl (hst ) rfl  hn   hf ?_
    refine zx_iload_n (pc2 := 34) d_Ho_up_33 rfl rfl ?_
    exact zx_zret d_Ho_up_34 rfl rfl (⟨rfl, rfl, rfl⟩)
theorem c_Ho_wipe {s : Nat} (hs : s < 7) : zK l D ar b Z y_Ho_wipe 3 [.ref (b + 0), .int (nI s)] M n none (fm_lose M (2 + 6 * s)) := by
  refine zk_entry (L := [some (.ref (b + 0)), some (.int (nI s))]) rfl rfl (Nat.le_of_ble_eq_true rfl) rfl rfl ?_
  refine zx_iload_n (pc2 := 1) d_Ho_wipe_0 rfl rfl ?_
  refine zk_callSv (pc2 := 4) s_Ho_152 t_Ho_checkStation (c_Ho_checkStation hs) d_Ho_wipe_1 rfl rfl rfl (Nat.le_of_ble_eq_true rfl) (by decide) (by decide) ?_
  refine zx_aload_n (pc2 := 5) d_Ho_wipe_4 rfl rfl ?_
  refine zm_getR (pc2 := 8) f_Ho_11 d_Ho_wipe_5 rfl (zl_c0) rfl ?_
  refine zx_iload_n (pc2 := 9) d_Ho_wipe_8 rfl rfl ?_
  refine zk_aaldC (pc2 := 10) d_Ho_wipe_9 rfl (by decide) (zl_c1) (by decide) rfl (rfl) (hs) (by decide) ?_
  refine zk_callVv (pc2 := 13) s_Ho_159 v_St_loseAll (zl_st s hs) (c_St_loseAll (zl_st s hs) (zl_stS s hs)) d_Ho_wipe_10 rfl rfl rfl (Nat.le_of_ble_eq_true rfl) (by decide) (by decide) ?_
  exact zx_vret d_Ho_wipe_13 rfl (⟨rfl, rfl, rfl⟩)
theorem c_Ho_decided {p pl : Nat} (hp : p < 2) (hpl : pl < 8) : zK l D ar b Z y_Ho_decided 2 [.ref (b + 0), .int (nI p), .int (nI pl)] M n (some (.int (zm_I M (45 + 63 * p + 39 + 3 * pl) 0))) M := by
  have hr := zl_pr p hp
  have hsp := hr.2.2.2.2.2 pl hpl
  refine zk_entry (L := [some (.ref (b + 0)), some (.int (nI p)), some (.int (nI pl))]) rfl rfl (Nat.le_of_ble_eq_true rfl) rfl rfl ?_
  refine zx_iload_n (pc2 := 1) d_Ho_decided_0 rfl rfl ?_
  refine zk_callSv (pc2 := 4) s_Ho_57 t_Ho_checkProposer (c_Ho_checkProposer hp) d_Ho_decided_1 rfl rfl rfl (Nat.le_of_ble_eq_true rfl) (by decide) (by decide) ?_
  refine zx_iload_n (pc2 := 5) d_Ho_decided_4 rfl rfl ?_
  refine zk_callSv (pc2 := 8) s_Ho_201 t_Ho_checkPlace (c_Ho_checkPlace hpl) d_Ho_decided_5 rfl rfl rfl (Nat.le_of_ble_eq_true rfl) (by decide) (by decide) ?_
  refine zx_aload_n (pc2 := 9) d_Ho_decided_8 rfl rfl ?_
  refine zm_getR (pc2 := 12) f_Ho_18 d_Ho_decided_9 rfl (zl_c0) rfl ?_
  refine zx_iload_n (pc2 := 13) d_Ho_decided_12 rfl rfl ?_
  refine zk_aaldC (pc2 := 14) d_Ho_decided_13 rfl (by decide) (zl_c44) (by decide) rfl (rfl) (hp) (by decide) ?_
  refine zm_getR (pc2 := 17) f_Ho_165 d_Ho_decided_14 rfl (hr.1) rfl ?_
  refine zx_iload_n (pc2 := 18) d_Ho_decided_17 rfl rfl ?_
  refine zk_aaldC (pc2 := 19) d_Ho_decided_18 rfl (by decide) (hr.2.2.2.1) (by decide) rfl (rfl) (hpl) (by decide) ?_
  refine zm_getI (pc2 := 22) f_Ho_169 d_Ho_decided_19 rfl (hsp.1) rfl ?_
  exact zx_iret d_Ho_decided_22 rfl (⟨rfl, rfl, rfl⟩)
theorem c_Ho_readByte {i c : Nat} (hc : zm_I M 544 0 = nI c) (hc24 : c ≤ 24) (hi : i < c) : zK l D ar b Z y_Ho_readByte 2 [.ref (b + 0), .int (nI i)] M n (some (.int (fs_byte M 544 c i))) M := by
  refine zk_entry (L := [some (.ref (b + 0)), some (.int (nI i))]) rfl rfl (Nat.le_of_ble_eq_true rfl) rfl rfl ?_
  refine zx_iload_n (pc2 := 1) d_Ho_readByte_0 rfl rfl ?_
  refine zx_if_lt (pc2 := 4) d_Ho_readByte_1 rfl (tgt := 15) (by decide) (fun cz => absurd cz (nI_pos (by omega))) (fun _ => ?_)
  refine zx_iload_n (pc2 := 5) d_Ho_readByte_4 rfl rfl ?_
  refine zx_aload_n (pc2 := 6) d_Ho_readByte_5 rfl rfl ?_
  refine zm_getR (pc2 := 9) f_Ho_46 d_Ho_readByte_6 rfl (zl_c0) rfl ?_
  refine zm_getI (pc2 := 12) f_Ho_190 d_Ho_readByte_9 rfl (zl_lr.1) rfl ?_
  refine zx_icmp_lt (pc2 := 15) d_Ho_readByte_12 rfl (tgt := 23) (by decide) (fun _ => ?_) (fun cz => absurd (by rw [hc]; exact nI_lt hi (by omega)) cz)
  refine zx_aload_n (pc2 := 24) d_Ho_readByte_23 rfl rfl ?_
  refine zm_getR (pc2 := 27) f_Ho_46 d_Ho_readByte_24 rfl (zl_c0) rfl ?_
  refine zx_iload_n (pc2 := 28) d_Ho_readByte_27 rfl rfl ?_
  refine zk_callV (pc2 := 31) s_Ho_210 v_Re_byteAt (zl_lr.1) (c_Re_byteAt zl_lr hc hc24 hi) d_Ho_readByte_28 rfl rfl rfl (Nat.le_of_ble_eq_true rfl) (by decide) (by decide) ?_
  exact zx_iret d_Ho_readByte_31 rfl (⟨rfl, rfl, rfl⟩)
theorem c_Ho_read {p pl t : Nat} (hI : ∀ U, Z U → zs_I b t U) (hp : p < 2) (hpl : pl < 8) (h0 : zm_I M (45 + 63 * p + 39 + 3 * pl) 0 ≠ 0) (h3 : zm_I (fm_gs M pl (zm_I M (45 + 63 * p + 39 + 3 * pl) 0)) 539 2 = nI 3) : zK l D ar b Z y_Ho_read 4 [.ref (b + 0), .int (nI p), .int (nI pl)] M n (some (.int (zm_I (fm_together (fm_gs M pl (zm_I M (45 + 63 * p + 39 + 3 * pl) 0)) 544 (gk_p (fm_gs M pl (zm_I M (45 + 63 * p + 39 + 3 * pl) 0)))) 544 0))) (fm_together (fm_gs M pl (zm_I M (45 + 63 * p + 39 + 3 * pl) 0)) 544 (gk_p (fm_gs M pl (zm_I M (45 + 63 * p + 39 + 3 * pl) 0)))) := by
  have hr := zl_pr p hp
  have hsp := hr.2.2.2.2.2 pl hpl
  have hg := c_Ho_gatherFromStations (l := l) (D := D) (ar := ar) (b := b) (Z := Z) (M := M) (n := n) (id := zm_I M (45 + 63 * p + 39 + 3 * pl) 0) hpl
  rw [if_pos h3] at hg
  have g3 := gq_3 (gq_gs (pl := pl) 7 _ (Nat.le_refl 7) (gq_gst M (zm_I M (45 + 63 * p + 39 + 3 * pl) 0))) h3
  refine zk_entry (L := [some (.ref (b + 0)), some (.int (nI p)), some (.int (nI pl)), none]) rfl rfl (Nat.le_of_ble_eq_true rfl) rfl rfl ?_
  refine zx_iload_n (pc2 := 1) d_Ho_read_0 rfl rfl ?_
  refine zk_callSv (pc2 := 4) s_Ho_57 t_Ho_checkProposer (c_Ho_checkProposer hp) d_Ho_read_1 rfl rfl rfl (Nat.le_of_ble_eq_true rfl) (by decide) (by decide) ?_
  refine zx_iload_n (pc2 := 5) d_Ho_read_4 rfl rfl ?_
  refine zk_callSv (pc2 := 8) s_Ho_201 t_Ho_checkPlace (c_Ho_checkPlace hpl) d_Ho_read_5 rfl rfl rfl (Nat.le_of_ble_eq_true rfl) (by decide) (by decide) ?_
  refine zx_aload_n (pc2 := 9) d_Ho_read_8 rfl rfl ?_
  refine zm_getR (pc2 := 12) f_Ho_18 d_Ho_read_9 rfl (zl_c0) rfl ?_
  refine zx_iload_n (pc2 := 13) d_Ho_read_12 rfl rfl ?_
  refine zk_aaldC (pc2 := 14) d_Ho_read_13 rfl (by decide) (zl_c44) (by decide) rfl (rfl) (hp) (by decide) ?_
  refine zm_getR (pc2 := 17) f_Ho_165 d_Ho_read_14 rfl (hr.1) rfl ?_
  refine zx_iload_n (pc2 := 18) d_Ho_read_17 rfl rfl ?_
  refine zk_aaldC (pc2 := 19) d_Ho_read_18 rfl (by decide) (hr.2.2.2.1) (by decide) rfl (rfl) (hpl) (by decide) ?_
  refine zm_getI (pc2 := 22) f_Ho_169 d_Ho_read_19 rfl (hsp.1) rfl ?_
  refine zx_ist3 (pc2 := 23) d_Ho_read_22 rfl rfl (by decide) ?_
  refine zx_iload_n (pc2 := 24) d_Ho_read_23 rfl rfl ?_
  refine zx_if_ne (pc2 := 27) d_Ho_read_24 rfl (tgt := 35) (by decide) (fun _ => ?_) (fun cz => absurd cz (h0))
  refine zx_aload_n (pc2 := 36) d_Ho_read_35 rfl rfl ?_
  refine zx_iload_n (pc2 := 37) d_Ho_read_36 rfl rfl ?_
  refine zx_iload_n (pc2 := 38) d_Ho_read_37 rfl rfl ?_
  refine zk_callV (pc2 := 41) s_Ho_183 v_Ho_gatherFromStations (zl_c0) (hg) d_Ho_read_38 rfl rfl rfl (Nat.le_of_ble_eq_true rfl) (by decide) (by decide) ?_
  refine zx_if_ne (pc2 := 44) d_Ho_read_41 rfl (tgt := 52) (by decide) (fun _ => ?_) (fun cz => absurd cz (by decide))
  refine zx_aload_n (pc2 := 53) d_Ho_read_52 rfl rfl ?_
  refine zm_getR (pc2 := 56) f_Ho_35 d_Ho_read_53 rfl (zl_c0) rfl ?_
  refine zx_aload_n (pc2 := 57) d_Ho_read_56 rfl rfl ?_
  refine zm_getR (pc2 := 60) f_Ho_46 d_Ho_read_57 rfl (zl_c0) rfl ?_
  refine zk_callVv (pc2 := 63) s_Ho_186 v_Ga_putTogether (zl_c539) (c_Ga_putTogether hI zl_lr g3 (by decide)) d_Ho_read_60 rfl rfl rfl (Nat.le_of_ble_eq_true rfl) (by decide) (by decide) ?_
  refine zx_aload_n (pc2 := 64) d_Ho_read_63 rfl rfl ?_
  refine zm_getR (pc2 := 67) f_Ho_46 d_Ho_read_64 rfl (zl_c0) rfl ?_
  refine zm_getI (pc2 := 70) f_Ho_190 d_Ho_read_67 rfl (zl_lr.1) rfl ?_
  exact zx_iret d_Ho_read_70 rfl (⟨rfl, rfl, rfl⟩)
theorem c_Ho_drop {i c : Nat} (hc : zm_I M 171 0 = nI (c + 1)) (h60 : c < 60) (hi : i ≤ c) (hP : zp_ok M) : zK l D ar b Z y_Ho_drop 1 [.ref (b + 0), .int (nI i)] M n none (fm_take M i c) := by
  refine zk_entry (L := [some (.ref (b + 0)), some (.int (nI i))]) rfl rfl (Nat.le_of_ble_eq_true rfl) rfl rfl ?_
  refine zx_aload_n (pc2 := 1) d_Ho_drop_0 rfl rfl ?_
  refine zx_iload_n (pc2 := 2) d_Ho_drop_1 rfl rfl ?_
  refine zk_callVv (pc2 := 5) s_Ho_100 v_Ho_checkLetter (zl_c0) (c_Ho_checkLetter hc (by omega) (by omega)) d_Ho_drop_2 rfl rfl rfl (Nat.le_of_ble_eq_true rfl) (by decide) (by decide) ?_
  refine zx_aload_n (pc2 := 6) d_Ho_drop_5 rfl rfl ?_
  refine zm_getR (pc2 := 9) f_Ho_28 d_Ho_drop_6 rfl (zl_c0) rfl ?_
  refine zx_iload_n (pc2 := 10) d_Ho_drop_9 rfl rfl ?_
  refine zk_callV (pc2 := 13) s_Ho_103 v_Ro_take (zl_c171) (c_Ro_take hc hi h60 hP) d_Ho_drop_10 rfl rfl rfl (Nat.le_of_ble_eq_true rfl) (by decide) (by decide) ?_
  refine zx_pop (pc2 := 14) d_Ho_drop_13 rfl rfl ?_
  exact zx_vret d_Ho_drop_14 rfl (⟨rfl, rfl, rfl⟩)
theorem c_Ho_twin {i c : Nat} (hc : zm_I M 171 0 = nI c) (h60 : c < 60) (hi : i < c) (hP : zp_ok M) : zK l D ar b Z y_Ho_twin 3 [.ref (b + 0), .int (nI i)] M n none (fm_copyL (zm_wI M 171 0 (nI (c + 1))) (zm_P M 172 c) (zm_P M 172 i)) := by
  refine zk_entry (L := [some (.ref (b + 0)), some (.int (nI i)), none]) rfl rfl (Nat.le_of_ble_eq_true rfl) rfl rfl ?_
  refine zx_aload_n (pc2 := 1) d_Ho_twin_0 rfl rfl ?_
  refine zx_iload_n (pc2 := 2) d_Ho_twin_1 rfl rfl ?_
  refine zk_callVv (pc2 := 5) s_Ho_100 v_Ho_checkLetter (zl_c0) (c_Ho_checkLetter hc (by omega) hi) d_Ho_twin_2 rfl rfl rfl (Nat.le_of_ble_eq_true rfl) (by decide) (by decide) ?_
  refine zx_aload_n (pc2 := 6) d_Ho_twin_5 rfl rfl ?_
  refine zm_getR (pc2 := 9) f_Ho_28 d_Ho_twin_6 rfl (zl_c0) rfl ?_
  refine zk_callV (pc2 := 12) s_Ho_128 v_Ro_append (zl_c171) (c_Ro_append1 hc h60) d_Ho_twin_9 rfl rfl rfl (Nat.le_of_ble_eq_true rfl) (by decide) (by decide) ?_
  refine zx_ast2 (pc2 := 13) d_Ho_twin_12 rfl rfl (by decide) ?_
  refine zx_aload_n (pc2 := 14) d_Ho_twin_13 rfl rfl ?_
  refine zx_ifnonnullR d_Ho_twin_14 (tgt := 25) (by decide) ?_
  refine zx_aload_n (pc2 := 26) d_Ho_twin_25 rfl rfl ?_
  refine zx_aload_n (pc2 := 27) d_Ho_twin_26 rfl rfl ?_
  refine zm_getR (pc2 := 30) f_Ho_28 d_Ho_twin_27 rfl (zl_c0) rfl ?_
  refine zm_getR (pc2 := 33) f_Ho_132 d_Ho_twin_30 rfl (zl_c171) rfl ?_
  refine zx_iload_n (pc2 := 34) d_Ho_twin_33 rfl rfl ?_
  refine zk_aaldP (pc2 := 35) d_Ho_twin_34 rfl (by decide) (zl_c172)  rfl (rfl) (by omega) (by decide) ?_
  refine zk_callVv (pc2 := 38) s_Ho_136 v_Le_copyFrom ((hP c (by omega)).1) (c_Le_copyFrom (hP c (by omega)) (hP i (by omega))) d_Ho_twin_35 rfl rfl rfl (Nat.le_of_ble_eq_true rfl) (by decide) (by decide) ?_
  exact zx_vret d_Ho_twin_38 rfl (⟨rfl, rfl, rfl⟩)
theorem c_Ho_letter {i c k : Nat} (hc : zm_I M 171 0 = nI c) (h60 : c ≤ 60) (hi : i < c) (hk : k < 6) (hP : zp_ok M) : zK l D ar b Z y_Ho_letter 1 [.ref (b + 0), .int (nI i), .int (nI k)] M n (some (.int (zm_I M (zm_P M 172 i) k))) M := by
  have hle := hP i (by omega)
  refine zk_entry (L := [some (.ref (b + 0)), some (.int (nI i)), some (.int (nI k)), none]) rfl rfl (Nat.le_of_ble_eq_true rfl) rfl rfl ?_
  refine zx_aload_n (pc2 := 1) d_Ho_letter_0 rfl rfl ?_
  refine zx_iload_n (pc2 := 2) d_Ho_letter_1 rfl rfl ?_
  refine zk_callVv (pc2 := 5) s_Ho_100 v_Ho_checkLetter (zl_c0) (c_Ho_checkLetter hc h60 hi) d_Ho_letter_2 rfl rfl rfl (Nat.le_of_ble_eq_true rfl) (by decide) (by decide) ?_
  refine zx_aload_n (pc2 := 6) d_Ho_letter_5 rfl rfl ?_
  refine zm_getR (pc2 := 9) f_Ho_28 d_Ho_letter_6 rfl (zl_c0) rfl ?_
  refine zm_getR (pc2 := 12) f_Ho_132 d_Ho_letter_9 rfl (zl_c171) rfl ?_
  refine zx_iload_n (pc2 := 13) d_Ho_letter_12 rfl rfl ?_
  refine zk_aaldP (pc2 := 14) d_Ho_letter_13 rfl (by decide) (zl_c172)  rfl (rfl) (by omega) (by decide) ?_
  refine zx_ast3 (pc2 := 15) d_Ho_letter_14 rfl rfl (by decide) ?_
  refine zx_iload_n (pc2 := 16) d_Ho_letter_15 rfl rfl ?_
  match k, hk with
  | 0, _ =>
    refine zx_tsw_in (tgt := 56) d_Ho_letter_16 (by decide) (by decide) rfl (by decide) ?_
    refine zx_aload_n (pc2 := 57) d_Ho_letter_56 rfl rfl ?_
    refine zm_getI (pc2 := 60) f_Ho_107 d_Ho_letter_57 rfl (hle.1) rfl ?_
    exact zx_iret d_Ho_letter_60 rfl (⟨rfl, rfl, rfl⟩)
  | 1, _ =>
    refine zx_tsw_in (tgt := 61) d_Ho_letter_16 (by decide) (by decide) rfl (by decide) ?_
    refine zx_aload_n (pc2 := 62) d_Ho_letter_61 rfl rfl ?_
    refine zm_getI (pc2 := 65) f_Ho_139 d_Ho_letter_62 rfl (hle.1) rfl ?_
    exact zx_iret d_Ho_letter_65 rfl (⟨rfl, rfl, rfl⟩)
  | 2, _ =>
    refine zx_tsw_in (tgt := 66) d_Ho_letter_16 (by decide) (by decide) rfl (by decide) ?_
    refine zx_aload_n (pc2 := 67) d_Ho_letter_66 rfl rfl ?_
    refine zm_getI (pc2 := 70) f_Ho_122 d_Ho_letter_67 rfl (hle.1) rfl ?_
    exact zx_iret d_Ho_letter_70 rfl (⟨rfl, rfl, rfl⟩)
  | 3, _ =>
    refine zx_tsw_in (tgt := 71) d_Ho_letter_16 (by decide) (by decide) rfl (by decide) ?_
    refine zx_aload_n (pc2 := 72) d_Ho_letter_71 rfl rfl ?_
    refine zm_getI (pc2 := 75) f_Ho_142 d_Ho_letter_72 rfl (hle.1) rfl ?_
    exact zx_iret d_Ho_letter_75 rfl (⟨rfl, rfl, rfl⟩)
  | 4, _ =>
    refine zx_tsw_in (tgt := 76) d_Ho_letter_16 (by decide) (by decide) rfl (by decide) ?_
    refine zx_aload_n (pc2 := 77) d_Ho_letter_76 rfl rfl ?_
    refine zm_getI (pc2 := 80) f_Ho_143 d_Ho_letter_77 rfl (hle.1) rfl ?_
    exact zx_iret d_Ho_letter_80 rfl (⟨rfl, rfl, rfl⟩)
  | 5, _ =>
    refine zx_tsw_in (tgt := 81) d_Ho_letter_16 (by decide) (by decide) rfl (by decide) ?_
    refine zx_aload_n (pc2 := 82) d_Ho_letter_81 rfl rfl ?_
    refine zm_getI (pc2 := 85) f_Ho_146 d_Ho_letter_82 rfl (hle.1) rfl ?_
    exact zx_iret d_Ho_letter_85 rfl (⟨rfl, rfl, rfl⟩)
  | k + 6, h => omega
def fs_state (M : zm_M) (r k : Nat) : Int32 := match k with
  | 0 => zm_I M r 1
  | 1 => zm_I M r 2
  | 2 => fs_ff M r
  | _ => ff_bc (zm_I M r 3)
theorem c_Ho_state {p k : Nat} (hp : p < 2) (hk : k < 4) : zK l D ar b Z y_Ho_state 2 [.ref (b + 0), .int (nI p), .int (nI k)] M n (some (.int (fs_state M (45 + 63 * p) k))) M := by
  have hr := zl_pr p hp
  refine zk_entry (L := [some (.ref (b + 0)), some (.int (nI p)), some (.int (nI k)), none]) rfl rfl (Nat.le_of_ble_eq_true rfl) rfl rfl ?_
  refine zx_iload_n (pc2 := 1) d_Ho_state_0 rfl rfl ?_
  refine zk_callSv (pc2 := 4) s_Ho_57 t_Ho_checkProposer (c_Ho_checkProposer hp) d_Ho_state_1 rfl rfl rfl (Nat.le_of_ble_eq_true rfl) (by decide) (by decide) ?_
  refine zx_aload_n (pc2 := 5) d_Ho_state_4 rfl rfl ?_
  refine zm_getR (pc2 := 8) f_Ho_18 d_Ho_state_5 rfl (zl_c0) rfl ?_
  refine zx_iload_n (pc2 := 9) d_Ho_state_8 rfl rfl ?_
  refine zk_aaldC (pc2 := 10) d_Ho_state_9 rfl (by decide) (zl_c44) (by decide) rfl (rfl) (hp) (by decide) ?_
  refine zx_ast3 (pc2 := 11) d_Ho_state_10 rfl rfl (by decide) ?_
  refine zx_iload_n (pc2 := 12) d_Ho_state_11 rfl rfl ?_
  match k, hk with
  | 0, _ =>
    refine zx_tsw_in (tgt := 44) d_Ho_state_12 (by decide) (by decide) rfl (by decide) ?_
    refine zx_aload_n (pc2 := 45) d_Ho_state_44 rfl rfl ?_
    refine zm_getI (pc2 := 48) f_Ho_94 d_Ho_state_45 rfl (hr.1) rfl ?_
    exact zx_iret d_Ho_state_48 rfl (⟨rfl, rfl, rfl⟩)
  | 1, _ =>
    refine zx_tsw_in (tgt := 49) d_Ho_state_12 (by decide) (by decide) rfl (by decide) ?_
    refine zx_aload_n (pc2 := 50) d_Ho_state_49 rfl rfl ?_
    refine zm_getI (pc2 := 53) f_Ho_71 d_Ho_state_50 rfl (hr.1) rfl ?_
    exact zx_iret d_Ho_state_53 rfl (⟨rfl, rfl, rfl⟩)
  | 2, _ =>
    refine zx_tsw_in (tgt := 54) d_Ho_state_12 (by decide) (by decide) rfl (by decide) ?_
    refine zx_aload_n (pc2 := 55) d_Ho_state_54 rfl rfl ?_
    refine zk_callV (pc2 := 58) s_Ho_75 v_Pr_firstFree (hr.1) (c_Pr_firstFree hr) d_Ho_state_55 rfl rfl rfl (Nat.le_of_ble_eq_true rfl) (by decide) (by decide) ?_
    exact zx_iret d_Ho_state_58 rfl (⟨rfl, rfl, rfl⟩)
  | 3, _ =>
    refine zx_tsw_in (tgt := 59) d_Ho_state_12 (by decide) (by decide) rfl (by decide) ?_
    refine zx_aload_n (pc2 := 60) d_Ho_state_59 rfl rfl ?_
    refine zm_getI (pc2 := 63) f_Ho_214 d_Ho_state_60 rfl (hr.1) rfl ?_
    refine zk_callS (pc2 := 66) s_Ho_217 t_In_bitCount (c_In_bitCount) d_Ho_state_63 rfl rfl rfl (Nat.le_of_ble_eq_true rfl) (by decide) (by decide) ?_
    exact zx_iret d_Ho_state_66 rfl (⟨rfl, rfl, rfl⟩)
  | k + 4, h => omega
def fs_station (M : zm_M) (s k : Nat) : Int32 := match k with
  | 0 => zm_I M (2 + 6 * s) 0
  | 1 => fs_count M (2 + 6 * s + 1) 8
  | 2 => if zm_I M (2 + 6 * s) 1 = 0 then nI 0 else nI 1
  | _ => if zm_I M (2 + 6 * s) 2 = 0 then nI 0 else nI 1
theorem c_Ho_station {s k : Nat} (hs : s < 7) (hk : k < 4) : zK l D ar b Z y_Ho_station 2 [.ref (b + 0), .int (nI s), .int (nI k)] M n (some (.int (fs_station M s k))) M := by
  have hst := zl_st s hs
  have hsS := zl_stS s hs
  refine zk_entry (L := [some (.ref (b + 0)), some (.int (nI s)), some (.int (nI k)), none]) rfl rfl (Nat.le_of_ble_eq_true rfl) rfl rfl ?_
  refine zx_iload_n (pc2 := 1) d_Ho_station_0 rfl rfl ?_
  refine zk_callSv (pc2 := 4) s_Ho_152 t_Ho_checkStation (c_Ho_checkStation hs) d_Ho_station_1 rfl rfl rfl (Nat.le_of_ble_eq_true rfl) (by decide) (by decide) ?_
  refine zx_aload_n (pc2 := 5) d_Ho_station_4 rfl rfl ?_
  refine zm_getR (pc2 := 8) f_Ho_11 d_Ho_station_5 rfl (zl_c0) rfl ?_
  refine zx_iload_n (pc2 := 9) d_Ho_station_8 rfl rfl ?_
  refine zk_aaldC (pc2 := 10) d_Ho_station_9 rfl (by decide) (zl_c1) (by decide) rfl (rfl) (hs) (by decide) ?_
  refine zx_ast3 (pc2 := 11) d_Ho_station_10 rfl rfl (by decide) ?_
  refine zx_iload_n (pc2 := 12) d_Ho_station_11 rfl rfl ?_
  match k, hk with
  | 0, _ =>
    refine zx_tsw_in (tgt := 44) d_Ho_station_12 (by decide) (by decide) rfl (by decide) ?_
    refine zx_aload_n (pc2 := 45) d_Ho_station_44 rfl rfl ?_
    refine zm_getI (pc2 := 48) f_Ho_222 d_Ho_station_45 rfl (hst) rfl ?_
    exact zx_iret d_Ho_station_48 rfl (⟨rfl, rfl, rfl⟩)
  | 1, _ =>
    refine zx_tsw_in (tgt := 49) d_Ho_station_12 (by decide) (by decide) rfl (by decide) ?_
    refine zx_aload_n (pc2 := 50) d_Ho_station_49 rfl rfl ?_
    refine zm_getR (pc2 := 53) f_Ho_174 d_Ho_station_50 rfl (hst) rfl ?_
    refine zk_callV (pc2 := 56) s_Ho_225 v_Sh_countBytes (hsS.1) (c_Sh_countBytes hsS) d_Ho_station_53 rfl rfl rfl (Nat.le_of_ble_eq_true rfl) (by decide) (by decide) ?_
    exact zx_iret d_Ho_station_56 rfl (⟨rfl, rfl, rfl⟩)
  | 2, _ =>
    refine zx_tsw_in (tgt := 57) d_Ho_station_12 (by decide) (by decide) rfl (by decide) ?_
    refine zx_aload_n (pc2 := 58) d_Ho_station_57 rfl rfl ?_
    refine zm_getI (pc2 := 61) f_Ho_155 d_Ho_station_58 rfl (hst) rfl ?_
    refine zx_if_eq (pc2 := 64) d_Ho_station_61 rfl (tgt := 68) (by decide) (fun c => ?_) (fun c => ?_)
    · rw [show fs_station M s 2 = nI 0 from if_pos c]
      refine zx_iconst (pc2 := 69) (v := nI 0) d_Ho_station_68 rfl (by decide) ?_
      exact zx_iret d_Ho_station_69 rfl (⟨rfl, rfl, rfl⟩)
    · rw [show fs_station M s 2 = nI 1 from if_neg c]
      refine zx_iconst (pc2 := 65) (v := nI 1) d_Ho_station_64 rfl (by decide) ?_
      refine zx_goto (tgt := 69) d_Ho_station_65 (by decide) ?_
      exact zx_iret d_Ho_station_69 rfl (⟨rfl, rfl, rfl⟩)
  | 3, _ =>
    refine zx_tsw_in (tgt := 70) d_Ho_station_12 (by decide) (by decide) rfl (by decide) ?_
    refine zx_aload_n (pc2 := 71) d_Ho_station_70 rfl rfl ?_
    refine zm_getI (pc2 := 74) f_Ho_162 d_Ho_station_71 rfl (hst) rfl ?_
    refine zx_if_eq (pc2 := 77) d_Ho_station_74 rfl (tgt := 81) (by decide) (fun c => ?_) (fun c => ?_)
    · rw [show fs_station M s 3 = nI 0 from if_pos c]
      refine zx_iconst (pc2 := 82) (v := nI 0) d_Ho_station_81 rfl (by decide) ?_
      exact zx_iret d_Ho_station_82 rfl (⟨rfl, rfl, rfl⟩)
    · rw [show fs_station M s 3 = nI 1 from if_neg c]
      refine zx_iconst (pc2 := 78) (v := nI 1) d_Ho_station_77 rfl (by decide) ?_
      refine zx_goto (tgt := 82) d_Ho_station_78 (by decide) ?_
      exact zx_iret d_Ho_station_82 rfl (⟨rfl, rfl, rfl⟩)
  | k + 4, h => omega
end C38
