/-! LogHouse: letters are sent and brought; shares are gathered -/
theorem zm_Is {M : zm_M} {r k : Nat} {v : Int32} : zm_I (zm_wI M r k v) r k = v := by rw [zm_I_w, if_pos ⟨rfl, rfl⟩]
theorem zm_In {M : zm_M} {r k r' k' : Nat} {v : Int32} (h : r' ≠ r ∨ k' ≠ k) : zm_I (zm_wI M r k v) r' k' = zm_I M r' k' := by
  rw [zm_I_w, if_neg (fun z => h.elim (fun q => q z.1) (fun q => q z.2))]
theorem zl_Le_ne {a : Nat} (h : zl_Le a) : a ≠ 171 ∧ a ≠ 539 ∧ a ≠ 540 := by
  refine ⟨fun e => ?_, fun e => ?_, fun e => ?_⟩ <;> subst e
  · have := h.1; rw [zl_c171] at this; cases this
  · have := h.1; rw [zl_c539] at this; cases this
  · have := h.1; rw [zl_c540] at this; cases this
def rk_c (M : zm_M) : Nat := (zm_I M 171 0).toNatClampNeg
def rk_ok (M : zm_M) : Prop := zm_I M 171 0 = nI (rk_c M) ∧ rk_c M ≤ 60 ∧ zp_ok M
theorem rk_of {M : zm_M} {c : Nat} (h : zm_I M 171 0 = nI c) (hc : c ≤ 60) (hP : zp_ok M) : rk_ok M := by
  have e : rk_c M = c := by unfold rk_c; rw [h, nI_clamp (by omega)]
  exact ⟨by rw [e]; exact h, by rw [e]; exact hc, hP⟩
theorem rk_I {M M' : zm_M} (h : rk_ok M) (h1 : zm_I M' 171 0 = zm_I M 171 0) (h2 : zm_P M' = zm_P M) : rk_ok M' := by
  refine rk_of (c := rk_c M) (h1.trans h.1) h.2.1 ?_
  intro j hj
  rw [h2]
  exact h.2.2 j hj
theorem fm_addr_I {M : zm_M} {r a i : Nat} {k s p ba : Int32} (h : a ≠ r) : zm_I (fm_addr M r k s p ba) a i = zm_I M a i := by
  unfold fm_addr
  rw [zm_In (Or.inl h), zm_In (Or.inl h), zm_In (Or.inl h), zm_In (Or.inl h), zm_In (Or.inl h), zm_In (Or.inl h)]
theorem fm_about_I {M : zm_M} {r a i : Nat} {pl id : Int32} (h : a ≠ r) : zm_I (fm_about M r pl id) a i = zm_I M a i := by
  unfold fm_about
  rw [zm_In (Or.inl h), zm_In (Or.inl h)]
def fm_post (M : zm_M) (k s p ba : Int32) : zm_M := if rk_c M < 60 then fm_addr (zm_wI M 171 0 (nI (rk_c M + 1))) (zm_P M 172 (rk_c M)) k s p ba else M
theorem rk_post {M : zm_M} {k s p ba : Int32} (h : rk_ok M) : rk_ok (fm_post M k s p ba) := by
  unfold fm_post
  split
  · rename_i c
    refine rk_of (c := rk_c M + 1) ?_ (by omega) (fun j hj => h.2.2 j hj)
    have ha := zl_Le_ne (h.2.2 (rk_c M) (by omega))
    rw [fm_addr_I (Ne.symm ha.1), zm_Is]
  · exact h
theorem fm_put_I {M : zm_M} {r pl a i : Nat} {x y z : Int32} {w : Int64} (h : a ≠ r + 1 ∧ a ≠ r + 2 ∧ a ≠ r + 3) : zm_I (fm_put M r pl x y z w) a i = zm_I M a i := by
  show zm_I (zm_wI (zm_wI (zm_wI M (r + 1) pl x) (r + 2) pl y) (r + 3) pl z) a i = _
  rw [zm_In (Or.inl h.2.2), zm_In (Or.inl h.2.1), zm_In (Or.inl h.1)]
theorem fm_copySh_I {M : zm_M} {r q a i : Nat} (h : a ≠ r + 1 ∧ a ≠ r + 2 ∧ a ≠ r + 3) : zm_I (fm_copySh M r q) a i = zm_I M a i := by
  have key : ∀ (d : Nat), zm_I (zm_it (fun p M => fm_put M r p (zm_I M (q + 1) p) (zm_I M (q + 2) p) (zm_I M (q + 3) p) (zm_J M (q + 4) p)) d M) a i = zm_I M a i := by
    intro d
    induction d with
    | zero => rfl
    | succ d ih => exact (fm_put_I h).trans ih
  exact key 8
theorem fm_copySh_P {M : zm_M} {r q : Nat} : zm_P (fm_copySh M r q) = zm_P M := rfl
theorem zl_Sh_ne {r : Nat} (h : zl_Sh r) : 171 ≠ r + 1 ∧ 171 ≠ r + 2 ∧ 171 ≠ r + 3 := by
  refine ⟨fun e => ?_, fun e => ?_, fun e => ?_⟩
  · have := h.2.1; rw [← e, zl_c171] at this; cases this
  · have := h.2.2.1; rw [← e, zl_c171] at this; cases this
  · have := h.2.2.2.1; rw [← e, zl_c171] at this; cases this
def fm_sp (r s : Nat) (M : zm_M) : zm_M := if ff_bit (zm_I M r 3) s = nI 1 then M else fm_post M (nI 0) (nI s) (zm_I M r 0) (zm_I M r 2)
def fm_sendP (M : zm_M) (r : Nat) : zm_M := zm_it (fm_sp r) 7 M
theorem rk_sp {r : Nat} : ∀ (i : Nat) (M : zm_M), rk_ok M → rk_ok (zm_it (fm_sp r) i M)
  | 0, _, h => h
  | i + 1, M, h => by
    show rk_ok (fm_sp r i (zm_it (fm_sp r) i M))
    unfold fm_sp
    split
    · exact rk_sp i M h
    · exact rk_post (rk_sp i M h)
def fm_sa1 (M : zm_M) (a q pl s : Nat) : zm_M := zm_wI (fm_about M a (nI pl) (zm_I M q 1)) a 6 (zm_I (fm_about M a (nI pl) (zm_I M q 1)) (q + 1) 0)
def fm_sa2 (M : zm_M) (a q s : Nat) : zm_M := zm_wJ M a 7 (fs_share M (q + 1) (nI s + nI 1))
def fm_sa (r pl s : Nat) (M : zm_M) : zm_M := if ff_bit (zm_I M (r + 39 + 3 * pl) 2) s = nI 1 then M else if rk_c M < 60 then fm_sa2 (fm_sa1 (fm_post M (nI 2) (nI s) (zm_I M r 0) (zm_I M r 2)) (zm_P M 172 (rk_c M)) (r + 39 + 3 * pl) pl s) (zm_P M 172 (rk_c M)) (r + 39 + 3 * pl) s else M
def fm_sendA (M : zm_M) (r pl : Nat) : zm_M := zm_it (fm_sa r pl) 7 M
theorem rk_sa {r pl : Nat} : ∀ (i : Nat) (M : zm_M), rk_ok M → rk_ok (zm_it (fm_sa r pl) i M)
  | 0, _, h => h
  | i + 1, M, h => by
    show rk_ok (fm_sa r pl i (zm_it (fm_sa r pl) i M))
    have h0 : rk_ok (zm_it (fm_sa r pl) i M) := rk_sa i M h
    generalize zm_it (fm_sa r pl) i M = N at h0
    unfold fm_sa
    split
    · exact h0
    · split
      · rename_i c
        have ha := zl_Le_ne (h0.2.2 (rk_c N) (by omega))
        refine rk_I (rk_post (k := nI 2) (s := nI i) (p := zm_I N r 0) (ba := zm_I N r 2) h0) ?_ rfl
        show zm_I (zm_wI (fm_about _ _ _ _) _ 6 _) 171 0 = _
        rw [zm_In (Or.inl (Ne.symm ha.1)), fm_about_I (Ne.symm ha.1)]
      · exact h0
def fm_saa (r pl : Nat) (M : zm_M) : zm_M := if zm_I M (r + 39 + 3 * pl) 1 = 0 then M else fm_sendA M r pl
def fm_sendAll (M : zm_M) (r : Nat) : zm_M := zm_it (fm_saa r) 8 M
theorem rk_saa {r : Nat} : ∀ (i : Nat) (M : zm_M), rk_ok M → rk_ok (zm_it (fm_saa r) i M)
  | 0, _, h => h
  | i + 1, M, h => by
    show rk_ok (fm_saa r i (zm_it (fm_saa r) i M))
    unfold fm_saa
    split
    · exact rk_saa i M h
    · exact rk_sa 7 _ (rk_saa i M h)
def fm_bp (M : zm_M) (q s : Nat) : zm_M := if fs_heeds M (2 + 6 * s) (zm_I M q 3) = nI 0 then M else if rk_c M < 60 then fm_copySh (fm_post (zm_wI M (2 + 6 * s) 0 (zm_I M q 3)) (nI 1) (zm_I (zm_wI M (2 + 6 * s) 0 (zm_I M q 3)) q 1) (zm_I (zm_wI M (2 + 6 * s) 0 (zm_I M q 3)) q 2) (zm_I (zm_wI M (2 + 6 * s) 0 (zm_I M q 3)) q 3)) (zm_P M 172 (rk_c M) + 1) (2 + 6 * s + 1) else zm_wI M (2 + 6 * s) 0 (zm_I M q 3)
def fm_ba1 (M : zm_M) (q s pl : Nat) : zm_M := fm_put (zm_wI M (2 + 6 * s) 0 (zm_I M q 3)) (2 + 6 * s + 1) pl (zm_I (zm_wI M (2 + 6 * s) 0 (zm_I M q 3)) q 3) (zm_I (zm_wI M (2 + 6 * s) 0 (zm_I M q 3)) q 5) (zm_I (zm_wI M (2 + 6 * s) 0 (zm_I M q 3)) q 6) (zm_J M q 7)
def fm_ba2 (M : zm_M) (q : Nat) : zm_M := fm_post M (nI 3) (zm_I M q 1) (zm_I M q 2) (zm_I M q 3)
def fm_ba3 (M : zm_M) (a q : Nat) : zm_M := fm_about M a (zm_I M q 4) (zm_I M q 5)
def fm_ba (M : zm_M) (q s pl : Nat) : zm_M := if fs_heeds M (2 + 6 * s) (zm_I M q 3) = nI 0 then M else if rk_c (fm_ba1 M q s pl) < 60 then fm_ba3 (fm_ba2 (fm_ba1 M q s pl) q) (zm_P M 172 (rk_c (fm_ba1 M q s pl))) q else fm_ba1 M q s pl
theorem fs_heeds_01 (M : zm_M) (r : Nat) (ba : Int32) : fs_heeds M r ba = nI 0 ∨ fs_heeds M r ba = nI 1 := by
  unfold fs_heeds
  split
  · exact Or.inl rfl
  · split
    · split
      · exact Or.inl rfl
      · exact Or.inr rfl
    · exact Or.inl rfl
def fm_gsS (pl s : Nat) (M : zm_M) : zm_M := if zm_I M (2 + 6 * s) 1 = 0 then M else fm_gadd M (gk_c M) s (2 + 6 * s + 1) pl
def fm_gs (M : zm_M) (pl : Nat) (id : Int32) : zm_M := zm_it (fm_gsS pl) 7 (fm_gst M id)
theorem gk_gst (M : zm_M) (id : Int32) : gk_ok (fm_gst M id) := gk_of (c := 0) zm_Is (by decide)
theorem gk_gs {pl : Nat} : ∀ (i : Nat) (M : zm_M), gk_ok M → gk_ok (zm_it (fm_gsS pl) i M)
  | 0, _, h => h
  | i + 1, M, h => by
    show gk_ok (fm_gsS pl i (zm_it (fm_gsS pl) i M))
    unfold fm_gsS
    split
    · exact gk_gs i M h
    · exact gk_add (gk_gs i M h)
section C36
variable {l : Launch} {D : va_G} {ar : Nat → ClassId} {b : Nat} {Z : State → Prop} {M : zm_M} {n : Nat}
theorem c_Ho_sendPrepares {r : Nat} (hr : zl_Pr r) (hk : rk_ok M) : zK l D ar b Z y_Ho_sendPrepares 2 [.ref (b + 0), .ref (b + r)] M n none (fm_sendP M r) := by
  refine zk_entry (L := [some (.ref (b + 0)), some (.ref (b + r)), none]) rfl rfl (Nat.le_of_ble_eq_true rfl) rfl rfl ?_
  refine zx_iconst (pc2 := 1) (v := nI 0) d_Ho_sendPrepares_0 rfl (by decide) ?_
  refine zx_ist2 (pc2 := 2) d_Ho_sendPrepares_1 rfl rfl (by decide) ?_
  refine zx_for (X := fun i => zk_X l D ar b Z y_Ho_sendPrepares 2 none (fm_sendP M r) n 2 [some (.ref (b + 0)), some (.ref (b + r)), some (.int (nI i))] [] (zm_it (fm_sp r) i M)) 7 ?_ ?_ 0 (by decide)
  · refine zx_iload_n (pc2 := 3) d_Ho_sendPrepares_2 rfl rfl ?_
    refine zx_bipush (pc2 := 5) (v := nI 7) d_Ho_sendPrepares_3 rfl (by decide) ?_
    refine zx_icmp_ge (pc2 := 8) d_Ho_sendPrepares_5 rfl (tgt := 40) (by decide) (fun _ => ?_) (fun cz => absurd (nI_le (Nat.le_refl 7) (by decide)) cz)
    exact zx_vret d_Ho_sendPrepares_40 rfl (⟨rfl, rfl, rfl⟩)
  · intro i hi ih
    have hki := rk_sp (r := r) i M hk
    have e0 : zm_it (fm_sp r) (i + 1) M = fm_sp r i (zm_it (fm_sp r) i M) := rfl
    rw [e0] at ih
    generalize zm_it (fm_sp r) i M = N at hki ih ⊢
    refine zx_iload_n (pc2 := 3) d_Ho_sendPrepares_2 rfl rfl ?_
    refine zx_bipush (pc2 := 5) (v := nI 7) d_Ho_sendPrepares_3 rfl (by decide) ?_
    refine zx_icmp_ge (pc2 := 8) d_Ho_sendPrepares_5 rfl (tgt := 40) (by decide) (fun cz => absurd cz (nI_ge hi (by decide))) (fun _ => ?_)
    refine zx_aload_n (pc2 := 9) d_Ho_sendPrepares_8 rfl rfl ?_
    refine zx_iload_n (pc2 := 10) d_Ho_sendPrepares_9 rfl rfl ?_
    by_cases c : ff_bit (zm_I N r 3) i = nI 1
    · rw [show fm_sp r i N = N from if_pos c] at ih
      refine zk_callV (pc2 := 13) s_Ho_247 v_Pr_hasPromiseOf (hr.1) (c_Pr_hasP1 hr c) d_Ho_sendPrepares_10 rfl rfl rfl (Nat.le_of_ble_eq_true rfl) (by decide) (by decide) ?_
      refine zx_if_ne (pc2 := 16) d_Ho_sendPrepares_13 rfl (tgt := 34) (by decide) (fun _ => ?_) (fun cz => absurd cz (by decide))
      refine zx_inc2 (pc2 := 37) d_Ho_sendPrepares_34 rfl (zk_1 _) rfl (by decide) ?_
      refine zx_goto (tgt := 2) d_Ho_sendPrepares_37 (by decide) ?_
      exact ih
    · rw [show fm_sp r i N = fm_post N (nI 0) (nI i) (zm_I N r 0) (zm_I N r 2) from if_neg c] at ih
      refine zk_callV (pc2 := 13) s_Ho_247 v_Pr_hasPromiseOf (hr.1) (c_Pr_hasP0 hr c) d_Ho_sendPrepares_10 rfl rfl rfl (Nat.le_of_ble_eq_true rfl) (by decide) (by decide) ?_
      refine zx_if_ne (pc2 := 16) d_Ho_sendPrepares_13 rfl (tgt := 34) (by decide) (fun cz => absurd (by decide) cz) (fun _ => ?_)
      refine zx_aload_n (pc2 := 17) d_Ho_sendPrepares_16 rfl rfl ?_
      refine zm_getR (pc2 := 20) f_Ho_28 d_Ho_sendPrepares_17 rfl (zl_c0) rfl ?_
      refine zx_iconst (pc2 := 21) (v := nI 0) d_Ho_sendPrepares_20 rfl (by decide) ?_
      refine zx_iload_n (pc2 := 22) d_Ho_sendPrepares_21 rfl rfl ?_
      refine zx_aload_n (pc2 := 23) d_Ho_sendPrepares_22 rfl rfl ?_
      refine zm_getI (pc2 := 26) f_Ho_250 d_Ho_sendPrepares_23 rfl (hr.1) rfl ?_
      refine zx_aload_n (pc2 := 27) d_Ho_sendPrepares_26 rfl rfl ?_
      refine zm_getI (pc2 := 30) f_Ho_71 d_Ho_sendPrepares_27 rfl (hr.1) rfl ?_
      by_cases c6 : rk_c N < 60
      · rw [show fm_post N (nI 0) (nI i) (zm_I N r 0) (zm_I N r 2) = _ from if_pos c6] at ih
        refine zk_callV (pc2 := 33) s_Ho_253 v_Ro_post (zl_c171) (c_Ro_post1 hki.1 c6 (hki.2.2 _ (by omega))) d_Ho_sendPrepares_30 rfl rfl rfl (Nat.le_of_ble_eq_true rfl) (by decide) (by decide) ?_
        refine zx_pop (pc2 := 34) d_Ho_sendPrepares_33 rfl rfl ?_
        refine zx_inc2 (pc2 := 37) d_Ho_sendPrepares_34 rfl (zk_1 _) rfl (by decide) ?_
        refine zx_goto (tgt := 2) d_Ho_sendPrepares_37 (by decide) ?_
        exact ih
      · rw [show fm_post N (nI 0) (nI i) (zm_I N r 0) (zm_I N r 2) = N from if_neg c6] at ih
        refine zk_callV (pc2 := 33) s_Ho_253 v_Ro_post (zl_c171) (c_Ro_post0 hki.1 (by omega) (by have := hki.2.1; omega)) d_Ho_sendPrepares_30 rfl rfl rfl (Nat.le_of_ble_eq_true rfl) (by decide) (by decide) ?_
        refine zx_pop (pc2 := 34) d_Ho_sendPrepares_33 rfl rfl ?_
        refine zx_inc2 (pc2 := 37) d_Ho_sendPrepares_34 rfl (zk_1 _) rfl (by decide) ?_
        refine zx_goto (tgt := 2) d_Ho_sendPrepares_37 (by decide) ?_
        exact ih
theorem c_Sp_ans1 {r s : Nat} (hr : zl_Sp r) (hc : ff_bit (zm_I M r 2) s = nI 1) : zK l D ar b Z y_Sp_hasAnswerOf 0 [.ref (b + r), .int (nI s)] M n (some (.int (nI 1))) M := by
  have h := c_Sp_hasAnswerOf (l := l) (D := D) (ar := ar) (b := b) (Z := Z) (M := M) (n := n) (s := s) hr
  rwa [if_pos hc] at h
theorem c_Sp_ans0 {r s : Nat} (hr : zl_Sp r) (hc : ¬ ff_bit (zm_I M r 2) s = nI 1) : zK l D ar b Z y_Sp_hasAnswerOf 0 [.ref (b + r), .int (nI s)] M n (some (.int (nI 0))) M := by
  have h := c_Sp_hasAnswerOf (l := l) (D := D) (ar := ar) (b := b) (Z := Z) (M := M) (n := n) (s := s) hr
  rwa [if_neg hc] at h
theorem c_Ho_sendAccepts {r pl : Nat} (hr : zl_Pr r) (hp : pl < 8) (hk : rk_ok M) : zK l D ar b Z y_Ho_sendAccepts 2 [.ref (b + 0), .ref (b + r), .int (nI pl)] M n none (fm_sendA M r pl) := by
  have hs := hr.2.2.2.2.2 pl hp
  refine zk_entry (L := [some (.ref (b + 0)), some (.ref (b + r)), some (.int (nI pl)), none, none, none]) rfl rfl (Nat.le_of_ble_eq_true rfl) rfl rfl ?_
  refine zx_aload_n (pc2 := 1) d_Ho_sendAccepts_0 rfl rfl ?_
  refine zm_getR (pc2 := 4) f_Ho_165 d_Ho_sendAccepts_1 rfl (hr.1) rfl ?_
  refine zx_iload_n (pc2 := 5) d_Ho_sendAccepts_4 rfl rfl ?_
  refine zk_aaldC (pc2 := 6) d_Ho_sendAccepts_5 rfl (by decide) (hr.2.2.2.1) (by decide) rfl (rfl) (hp) (by decide) ?_
  refine zx_ast3 (pc2 := 7) d_Ho_sendAccepts_6 rfl rfl (by decide) ?_
  refine zx_iconst (pc2 := 8) (v := nI 0) d_Ho_sendAccepts_7 rfl (by decide) ?_
  refine zx_ist4 (pc2 := 10) d_Ho_sendAccepts_8 rfl rfl (by decide) ?_
  refine zx_for (X := fun i => ∀ o5 : Option Value, zk_X l D ar b Z y_Ho_sendAccepts 2 none (fm_sendA M r pl) n 10 [some (.ref (b + 0)), some (.ref (b + r)), some (.int (nI pl)), some (.ref (b + (r + 39 + 3 * pl))), some (.int (nI i)), o5] [] (zm_it (fm_sa r pl) i M)) 7 ?_ ?_ 0 (by decide) none
  · intro o5
    refine zx_iload (pc2 := 12) d_Ho_sendAccepts_10 rfl rfl ?_
    refine zx_bipush (pc2 := 14) (v := nI 7) d_Ho_sendAccepts_12 rfl (by decide) ?_
    refine zx_icmp_ge (pc2 := 17) d_Ho_sendAccepts_14 rfl (tgt := 93) (by decide) (fun _ => ?_) (fun cz => absurd (nI_le (Nat.le_refl 7) (by decide)) cz)
    exact zx_vret d_Ho_sendAccepts_93 rfl (⟨rfl, rfl, rfl⟩)
  · intro i hi ih o5
    have hki := rk_sa (r := r) (pl := pl) i M hk
    have e0 : zm_it (fm_sa r pl) (i + 1) M = fm_sa r pl i (zm_it (fm_sa r pl) i M) := rfl
    rw [e0] at ih
    generalize zm_it (fm_sa r pl) i M = N at hki ih ⊢
    refine zx_iload (pc2 := 12) d_Ho_sendAccepts_10 rfl rfl ?_
    refine zx_bipush (pc2 := 14) (v := nI 7) d_Ho_sendAccepts_12 rfl (by decide) ?_
    refine zx_icmp_ge (pc2 := 17) d_Ho_sendAccepts_14 rfl (tgt := 93) (by decide) (fun cz => absurd cz (nI_ge hi (by decide))) (fun _ => ?_)
    refine zx_aload_n (pc2 := 18) d_Ho_sendAccepts_17 rfl rfl ?_
    refine zx_iload (pc2 := 20) d_Ho_sendAccepts_18 rfl rfl ?_
    by_cases c : ff_bit (zm_I N (r + 39 + 3 * pl) 2) i = nI 1
    · rw [show fm_sa r pl i N = N from if_pos c] at ih
      refine zk_callV (pc2 := 23) s_Ho_261 v_Sp_hasAnswerOf (hs.1) (c_Sp_ans1 hs c) d_Ho_sendAccepts_20 rfl rfl rfl (Nat.le_of_ble_eq_true rfl) (by decide) (by decide) ?_
      refine zx_if_ne (pc2 := 26) d_Ho_sendAccepts_23 rfl (tgt := 87) (by decide) (fun _ => ?_) (fun cz => absurd cz (by decide))
      refine zx_inc4 (pc2 := 90) d_Ho_sendAccepts_87 rfl (zk_1 _) rfl (by decide) ?_
      refine zx_goto (tgt := 10) d_Ho_sendAccepts_90 (by decide) ?_
      exact ih _
    · by_cases c6 : rk_c N < 60
      · have hle := hki.2.2 (rk_c N) (by omega)
        have e1 : fm_post N (nI 2) (nI i) (zm_I N r 0) (zm_I N r 2) = fm_addr (zm_wI N 171 0 (nI (rk_c N + 1))) (zm_P N 172 (rk_c N)) (nI 2) (nI i) (zm_I N r 0) (zm_I N r 2) := if_pos c6
        rw [show fm_sa r pl i N = fm_sa2 (fm_sa1 (fm_post N (nI 2) (nI i) (zm_I N r 0) (zm_I N r 2)) (zm_P N 172 (rk_c N)) (r + 39 + 3 * pl) pl i) (zm_P N 172 (rk_c N)) (r + 39 + 3 * pl) i from (if_neg c).trans (if_pos c6), e1] at ih
        refine zk_callV (pc2 := 23) s_Ho_261 v_Sp_hasAnswerOf (hs.1) (c_Sp_ans0 hs c) d_Ho_sendAccepts_20 rfl rfl rfl (Nat.le_of_ble_eq_true rfl) (by decide) (by decide) ?_
        refine zx_if_ne (pc2 := 26) d_Ho_sendAccepts_23 rfl (tgt := 87) (by decide) (fun cz => absurd (by decide) cz) (fun _ => ?_)
        refine zx_aload_n (pc2 := 27) d_Ho_sendAccepts_26 rfl rfl ?_
        refine zm_getR (pc2 := 30) f_Ho_28 d_Ho_sendAccepts_27 rfl (zl_c0) rfl ?_
        refine zx_iconst (pc2 := 31) (v := nI 2) d_Ho_sendAccepts_30 rfl (by decide) ?_
        refine zx_iload (pc2 := 33) d_Ho_sendAccepts_31 rfl rfl ?_
        refine zx_aload_n (pc2 := 34) d_Ho_sendAccepts_33 rfl rfl ?_
        refine zm_getI (pc2 := 37) f_Ho_250 d_Ho_sendAccepts_34 rfl (hr.1) rfl ?_
        refine zx_aload_n (pc2 := 38) d_Ho_sendAccepts_37 rfl rfl ?_
        refine zm_getI (pc2 := 41) f_Ho_71 d_Ho_sendAccepts_38 rfl (hr.1) rfl ?_
        refine zk_callV (pc2 := 44) s_Ho_253 v_Ro_post (zl_c171) (c_Ro_post1 hki.1 c6 hle) d_Ho_sendAccepts_41 rfl rfl rfl (Nat.le_of_ble_eq_true rfl) (by decide) (by decide) ?_
        refine zx_ast5 (pc2 := 46) d_Ho_sendAccepts_44 rfl rfl (by decide) ?_
        refine zx_aload (pc2 := 48) d_Ho_sendAccepts_46 rfl rfl ?_
        refine zx_ifnullR d_Ho_sendAccepts_48 rfl ?_
        refine zx_aload (pc2 := 53) d_Ho_sendAccepts_51 rfl rfl ?_
        refine zx_iload_n (pc2 := 54) d_Ho_sendAccepts_53 rfl rfl ?_
        refine zx_aload_n (pc2 := 55) d_Ho_sendAccepts_54 rfl rfl ?_
        refine zm_getI (pc2 := 58) f_Ho_264 d_Ho_sendAccepts_55 rfl (hs.1) rfl ?_
        refine zk_callVv (pc2 := 61) s_Ho_267 v_Le_aboutPlace (hle.1) (c_Le_aboutPlace hle) d_Ho_sendAccepts_58 rfl rfl rfl (Nat.le_of_ble_eq_true rfl) (by decide) (by decide) ?_
        refine zx_aload (pc2 := 63) d_Ho_sendAccepts_61 rfl rfl ?_
        refine zx_aload_n (pc2 := 64) d_Ho_sendAccepts_63 rfl rfl ?_
        refine zm_getR (pc2 := 67) f_Ho_271 d_Ho_sendAccepts_64 rfl (hs.1) rfl ?_
        refine zm_getI (pc2 := 70) f_Ho_190 d_Ho_sendAccepts_67 rfl (hs.2.1) rfl ?_
        refine zm_putI (pc2 := 73) p_Ho_274 d_Ho_sendAccepts_70 rfl (hle.1) rfl rfl rfl ?_
        refine zx_aload (pc2 := 75) d_Ho_sendAccepts_73 rfl rfl ?_
        refine zx_aload_n (pc2 := 76) d_Ho_sendAccepts_75 rfl rfl ?_
        refine zm_getR (pc2 := 79) f_Ho_271 d_Ho_sendAccepts_76 rfl (hs.1) rfl ?_
        refine zx_iload (pc2 := 81) d_Ho_sendAccepts_79 rfl rfl ?_
        refine zk_callV (pc2 := 84) s_Ho_193 v_Re_shareOf (hs.2.1) (c_Re_shareOf hs.2) d_Ho_sendAccepts_81 rfl rfl rfl (Nat.le_of_ble_eq_true rfl) (by decide) (by decide) ?_
        refine zm_putJ (pc2 := 87) p_Ho_275 d_Ho_sendAccepts_84 rfl (hle.1) rfl ?_
        refine zx_inc4 (pc2 := 90) d_Ho_sendAccepts_87 rfl (zk_1 _) rfl (by decide) ?_
        refine zx_goto (tgt := 10) d_Ho_sendAccepts_90 (by decide) ?_
        exact ih _
      · rw [show fm_sa r pl i N = N from (if_neg c).trans (if_neg c6)] at ih
        refine zk_callV (pc2 := 23) s_Ho_261 v_Sp_hasAnswerOf (hs.1) (c_Sp_ans0 hs c) d_Ho_sendAccepts_20 rfl rfl rfl (Nat.le_of_ble_eq_true rfl) (by decide) (by decide) ?_
        refine zx_if_ne (pc2 := 26) d_Ho_sendAccepts_23 rfl (tgt := 87) (by decide) (fun cz => absurd (by decide) cz) (fun _ => ?_)
        refine zx_aload_n (pc2 := 27) d_Ho_sendAccepts_26 rfl rfl ?_
        refine zm_getR (pc2 := 30) f_Ho_28 d_Ho_sendAccepts_27 rfl (zl_c0) rfl ?_
        refine zx_iconst (pc2 := 31) (v := nI 2) d_Ho_sendAccepts_30 rfl (by decide) ?_
        refine zx_iload (pc2 := 33) d_Ho_sendAccepts_31 rfl rfl ?_
        refine zx_aload_n (pc2 := 34) d_Ho_sendAccepts_33 rfl rfl ?_
        refine zm_getI (pc2 := 37) f_Ho_250 d_Ho_sendAccepts_34 rfl (hr.1) rfl ?_
        refine zx_aload_n (pc2 := 38) d_Ho_sendAccepts_37 rfl rfl ?_
        refine zm_getI (pc2 := 41) f_Ho_71 d_Ho_sendAccepts_38 rfl (hr.1) rfl ?_
        refine zk_callV (pc2 := 44) s_Ho_253 v_Ro_post (zl_c171) (c_Ro_post0 hki.1 (by omega) (by have := hki.2.1; omega)) d_Ho_sendAccepts_41 rfl rfl rfl (Nat.le_of_ble_eq_true rfl) (by decide) (by decide) ?_
        refine zx_astN5 (pc2 := 46) d_Ho_sendAccepts_44 rfl rfl (by decide) ?_
        refine zx_aloadN (pc2 := 48) d_Ho_sendAccepts_46 rfl rfl ?_
        refine zx_ifnullN d_Ho_sendAccepts_48 (tgt := 87) (by decide) ?_
        refine zx_inc4 (pc2 := 90) d_Ho_sendAccepts_87 rfl (zk_1 _) rfl (by decide) ?_
        refine zx_goto (tgt := 10) d_Ho_sendAccepts_90 (by decide) ?_
        exact ih _
theorem c_Ho_sendAllAccepts {r : Nat} (hr : zl_Pr r) (hk : rk_ok M) : zK l D ar b Z y_Ho_sendAllAccepts 3 [.ref (b + 0), .ref (b + r)] M n none (fm_sendAll M r) := by
  refine zk_entry (L := [some (.ref (b + 0)), some (.ref (b + r)), none]) rfl rfl (Nat.le_of_ble_eq_true rfl) rfl rfl ?_
  refine zx_iconst (pc2 := 1) (v := nI 0) d_Ho_sendAllAccepts_0 rfl (by decide) ?_
  refine zx_ist2 (pc2 := 2) d_Ho_sendAllAccepts_1 rfl rfl (by decide) ?_
  refine zx_for (X := fun i => zk_X l D ar b Z y_Ho_sendAllAccepts 3 none (fm_sendAll M r) n 2 [some (.ref (b + 0)), some (.ref (b + r)), some (.int (nI i))] [] (zm_it (fm_saa r) i M)) 8 ?_ ?_ 0 (by decide)
  · refine zx_iload_n (pc2 := 3) d_Ho_sendAllAccepts_2 rfl rfl ?_
    refine zx_bipush (pc2 := 5) (v := nI 8) d_Ho_sendAllAccepts_3 rfl (by decide) ?_
    refine zx_icmp_ge (pc2 := 8) d_Ho_sendAllAccepts_5 rfl (tgt := 32) (by decide) (fun _ => ?_) (fun cz => absurd (nI_le (Nat.le_refl 8) (by decide)) cz)
    exact zx_vret d_Ho_sendAllAccepts_32 rfl (⟨rfl, rfl, rfl⟩)
  · intro i hi ih
    have hs := hr.2.2.2.2.2 i hi
    have hki := rk_saa (r := r) i M hk
    have e0 : zm_it (fm_saa r) (i + 1) M = fm_saa r i (zm_it (fm_saa r) i M) := rfl
    rw [e0] at ih
    generalize zm_it (fm_saa r) i M = N at hki ih ⊢
    have hw := c_Sp_isWaiting (l := l) (D := D) (ar := ar) (b := b) (Z := Z) (M := N) (n := n) hs
    refine zx_iload_n (pc2 := 3) d_Ho_sendAllAccepts_2 rfl rfl ?_
    refine zx_bipush (pc2 := 5) (v := nI 8) d_Ho_sendAllAccepts_3 rfl (by decide) ?_
    refine zx_icmp_ge (pc2 := 8) d_Ho_sendAllAccepts_5 rfl (tgt := 32) (by decide) (fun cz => absurd cz (nI_ge hi (by decide))) (fun _ => ?_)
    refine zx_aload_n (pc2 := 9) d_Ho_sendAllAccepts_8 rfl rfl ?_
    refine zm_getR (pc2 := 12) f_Ho_165 d_Ho_sendAllAccepts_9 rfl (hr.1) rfl ?_
    refine zx_iload_n (pc2 := 13) d_Ho_sendAllAccepts_12 rfl rfl ?_
    refine zk_aaldC (pc2 := 14) d_Ho_sendAllAccepts_13 rfl (by decide) (hr.2.2.2.1) (by decide) rfl (rfl) (hi) (by decide) ?_
    by_cases c : zm_I N (r + 39 + 3 * i) 1 = 0
    · rw [show fm_saa r i N = N from if_pos c] at ih
      rw [if_pos c] at hw
      refine zk_callV (pc2 := 17) s_Ho_257 v_Sp_isWaiting (hs.1) (hw) d_Ho_sendAllAccepts_14 rfl rfl rfl (Nat.le_of_ble_eq_true rfl) (by decide) (by decide) ?_
      refine zx_if_eq (pc2 := 20) d_Ho_sendAllAccepts_17 rfl (tgt := 26) (by decide) (fun _ => ?_) (fun cz => absurd (by decide) cz)
      refine zx_inc2 (pc2 := 29) d_Ho_sendAllAccepts_26 rfl (zk_1 _) rfl (by decide) ?_
      refine zx_goto (tgt := 2) d_Ho_sendAllAccepts_29 (by decide) ?_
      exact ih
    · rw [show fm_saa r i N = fm_sendA N r i from if_neg c] at ih
      rw [if_neg c] at hw
      refine zk_callV (pc2 := 17) s_Ho_257 v_Sp_isWaiting (hs.1) (hw) d_Ho_sendAllAccepts_14 rfl rfl rfl (Nat.le_of_ble_eq_true rfl) (by decide) (by decide) ?_
      refine zx_if_eq (pc2 := 20) d_Ho_sendAllAccepts_17 rfl (tgt := 26) (by decide) (fun cz => absurd cz (by decide)) (fun _ => ?_)
      refine zx_aload_n (pc2 := 21) d_Ho_sendAllAccepts_20 rfl rfl ?_
      refine zx_aload_n (pc2 := 22) d_Ho_sendAllAccepts_21 rfl rfl ?_
      refine zx_iload_n (pc2 := 23) d_Ho_sendAllAccepts_22 rfl rfl ?_
      refine zk_callVv (pc2 := 26) s_Ho_87 v_Ho_sendAccepts (zl_c0) (c_Ho_sendAccepts hr hi hki) d_Ho_sendAllAccepts_23 rfl rfl rfl (Nat.le_of_ble_eq_true rfl) (by decide) (by decide) ?_
      refine zx_inc2 (pc2 := 29) d_Ho_sendAllAccepts_26 rfl (zk_1 _) rfl (by decide) ?_
      refine zx_goto (tgt := 2) d_Ho_sendAllAccepts_29 (by decide) ?_
      exact ih
theorem c_Ho_bringPrepare {q s : Nat} (hq : zl_Le q) (hs : zm_I M q 1 = nI s) (hs7 : s < 7) (hk : rk_ok M) : zK l D ar b Z y_Ho_bringPrepare 2 [.ref (b + 0), .ref (b + q)] M n none (fm_bp M q s) := by
  have hst := zl_st s hs7
  have hsS := zl_stS s hs7
  have hh := c_St_heeds (l := l) (D := D) (ar := ar) (b := b) (Z := Z) (M := M) (n := n) (ba := zm_I M q 3) hst
  refine zk_entry (L := [some (.ref (b + 0)), some (.ref (b + q)), none, none]) rfl rfl (Nat.le_of_ble_eq_true rfl) rfl rfl ?_
  unfold fm_bp
  refine zx_aload_n (pc2 := 1) d_Ho_bringPrepare_0 rfl rfl ?_
  refine zm_getR (pc2 := 4) f_Ho_11 d_Ho_bringPrepare_1 rfl (zl_c0) rfl ?_
  refine zx_aload_n (pc2 := 5) d_Ho_bringPrepare_4 rfl rfl ?_
  refine zm_getI (pc2 := 8) f_Ho_139 d_Ho_bringPrepare_5 rfl (hq.1) rfl ?_
  refine zk_aaldC (pc2 := 9) d_Ho_bringPrepare_8 rfl (by decide) (zl_c1) (by decide) rfl (hs) (hs7) (by decide) ?_
  refine zx_ast2 (pc2 := 10) d_Ho_bringPrepare_9 rfl rfl (by decide) ?_
  refine zx_aload_n (pc2 := 11) d_Ho_bringPrepare_10 rfl rfl ?_
  refine zx_aload_n (pc2 := 12) d_Ho_bringPrepare_11 rfl rfl ?_
  refine zm_getI (pc2 := 15) f_Ho_142 d_Ho_bringPrepare_12 rfl (hq.1) rfl ?_
  rcases fs_heeds_01 M (2 + 6 * s) (zm_I M q 3) with c | c
  · rw [if_pos c]
    rw [c] at hh
    refine zk_callV (pc2 := 18) s_Ho_279 v_St_heeds (hst) (hh) d_Ho_bringPrepare_15 rfl rfl rfl (Nat.le_of_ble_eq_true rfl) (by decide) (by decide) ?_
    refine zx_if_eq (pc2 := 21) d_Ho_bringPrepare_18 rfl (tgt := 65) (by decide) (fun _ => ?_) (fun cz => absurd (by decide) cz)
    exact zx_vret d_Ho_bringPrepare_65 rfl (⟨rfl, rfl, rfl⟩)
  · rw [if_neg (by rw [c]; decide)]
    rw [c] at hh
    have hk1 : rk_ok (zm_wI M (2 + 6 * s) 0 (zm_I M q 3)) := rk_I hk (zm_In (Or.inl (by omega))) rfl
    have ek : rk_c (zm_wI M (2 + 6 * s) 0 (zm_I M q 3)) = rk_c M := by unfold rk_c; rw [zm_In (Or.inl (by omega))]
    refine zk_callV (pc2 := 18) s_Ho_279 v_St_heeds (hst) (hh) d_Ho_bringPrepare_15 rfl rfl rfl (Nat.le_of_ble_eq_true rfl) (by decide) (by decide) ?_
    refine zx_if_eq (pc2 := 21) d_Ho_bringPrepare_18 rfl (tgt := 65) (by decide) (fun cz => absurd cz (by decide)) (fun _ => ?_)
    refine zx_aload_n (pc2 := 22) d_Ho_bringPrepare_21 rfl rfl ?_
    refine zx_aload_n (pc2 := 23) d_Ho_bringPrepare_22 rfl rfl ?_
    refine zm_getI (pc2 := 26) f_Ho_142 d_Ho_bringPrepare_23 rfl (hq.1) rfl ?_
    refine zm_putI (pc2 := 29) p_Ho_222 d_Ho_bringPrepare_26 rfl (hst) rfl rfl rfl ?_
    refine zx_aload_n (pc2 := 30) d_Ho_bringPrepare_29 rfl rfl ?_
    refine zm_getR (pc2 := 33) f_Ho_28 d_Ho_bringPrepare_30 rfl (zl_c0) rfl ?_
    refine zx_iconst (pc2 := 34) (v := nI 1) d_Ho_bringPrepare_33 rfl (by decide) ?_
    refine zx_aload_n (pc2 := 35) d_Ho_bringPrepare_34 rfl rfl ?_
    refine zm_getI (pc2 := 38) f_Ho_139 d_Ho_bringPrepare_35 rfl (hq.1) rfl ?_
    refine zx_aload_n (pc2 := 39) d_Ho_bringPrepare_38 rfl rfl ?_
    refine zm_getI (pc2 := 42) f_Ho_122 d_Ho_bringPrepare_39 rfl (hq.1) rfl ?_
    refine zx_aload_n (pc2 := 43) d_Ho_bringPrepare_42 rfl rfl ?_
    refine zm_getI (pc2 := 46) f_Ho_142 d_Ho_bringPrepare_43 rfl (hq.1) rfl ?_
    by_cases c6 : rk_c M < 60
    · have c6' : rk_c (zm_wI M (2 + 6 * s) 0 (zm_I M q 3)) < 60 := by rw [ek]; exact c6
      have hle := hk.2.2 (rk_c M) (by omega)
      have hc := c_Ro_post1 (l := l) (D := D) (ar := ar) (b := b) (Z := Z) (n := n) (k := nI 1) (s := zm_I (zm_wI M (2 + 6 * s) 0 (zm_I M q 3)) q 1) (p := zm_I (zm_wI M (2 + 6 * s) 0 (zm_I M q 3)) q 2) (ba := zm_I (zm_wI M (2 + 6 * s) 0 (zm_I M q 3)) q 3) hk1.1 c6' (hk1.2.2 _ (by omega))
      rw [ek] at hc
      rw [if_pos c6, show fm_post (zm_wI M (2 + 6 * s) 0 (zm_I M q 3)) (nI 1) (zm_I (zm_wI M (2 + 6 * s) 0 (zm_I M q 3)) q 1) (zm_I (zm_wI M (2 + 6 * s) 0 (zm_I M q 3)) q 2) (zm_I (zm_wI M (2 + 6 * s) 0 (zm_I M q 3)) q 3) = _ from if_pos c6', ek]
      refine zk_callV (pc2 := 49) s_Ho_253 v_Ro_post (zl_c171) (hc) d_Ho_bringPrepare_46 rfl rfl rfl (Nat.le_of_ble_eq_true rfl) (by decide) (by decide) ?_
      refine zx_ast3 (pc2 := 50) d_Ho_bringPrepare_49 rfl rfl (by decide) ?_
      refine zx_aload_n (pc2 := 51) d_Ho_bringPrepare_50 rfl rfl ?_
      refine zx_ifnullR d_Ho_bringPrepare_51 rfl ?_
      refine zx_aload_n (pc2 := 55) d_Ho_bringPrepare_54 rfl rfl ?_
      refine zm_getR (pc2 := 58) f_Ho_282 d_Ho_bringPrepare_55 rfl (hle.1) rfl ?_
      refine zx_aload_n (pc2 := 59) d_Ho_bringPrepare_58 rfl rfl ?_
      refine zm_getR (pc2 := 62) f_Ho_174 d_Ho_bringPrepare_59 rfl (hst) rfl ?_
      refine zk_callVv (pc2 := 65) s_Ho_283 v_Sh_copyFrom (hle.2.1) (c_Sh_copyFrom hle.2 hsS) d_Ho_bringPrepare_62 rfl rfl rfl (Nat.le_of_ble_eq_true rfl) (by decide) (by decide) ?_
      exact zx_vret d_Ho_bringPrepare_65 rfl (⟨rfl, rfl, rfl⟩)
    · rw [if_neg c6]
      refine zk_callV (pc2 := 49) s_Ho_253 v_Ro_post (zl_c171) (c_Ro_post0 hk1.1 (by omega) (by have := hk1.2.1; omega)) d_Ho_bringPrepare_46 rfl rfl rfl (Nat.le_of_ble_eq_true rfl) (by decide) (by decide) ?_
      refine zx_astN3 (pc2 := 50) d_Ho_bringPrepare_49 rfl rfl (by decide) ?_
      refine zx_aload_nN (pc2 := 51) d_Ho_bringPrepare_50 rfl rfl ?_
      refine zx_ifnullN d_Ho_bringPrepare_51 (tgt := 65) (by decide) ?_
      exact zx_vret d_Ho_bringPrepare_65 rfl (⟨rfl, rfl, rfl⟩)
theorem c_Ho_bringAccept {q s pl : Nat} (hq : zl_Le q) (hs : zm_I M q 1 = nI s) (hs7 : s < 7) (hp : zm_I M q 4 = nI pl) (hp8 : pl < 8) (hk : rk_ok M) : zK l D ar b Z y_Ho_bringAccept 2 [.ref (b + 0), .ref (b + q)] M n none (fm_ba M q s pl) := by
  have hst := zl_st s hs7
  have hsS := zl_stS s hs7
  have hh := c_St_heeds (l := l) (D := D) (ar := ar) (b := b) (Z := Z) (M := M) (n := n) (ba := zm_I M q 3) hst
  refine zk_entry (L := [some (.ref (b + 0)), some (.ref (b + q)), none, none]) rfl rfl (Nat.le_of_ble_eq_true rfl) rfl rfl ?_
  unfold fm_ba
  refine zx_aload_n (pc2 := 1) d_Ho_bringAccept_0 rfl rfl ?_
  refine zm_getR (pc2 := 4) f_Ho_11 d_Ho_bringAccept_1 rfl (zl_c0) rfl ?_
  refine zx_aload_n (pc2 := 5) d_Ho_bringAccept_4 rfl rfl ?_
  refine zm_getI (pc2 := 8) f_Ho_139 d_Ho_bringAccept_5 rfl (hq.1) rfl ?_
  refine zk_aaldC (pc2 := 9) d_Ho_bringAccept_8 rfl (by decide) (zl_c1) (by decide) rfl (hs) (hs7) (by decide) ?_
  refine zx_ast2 (pc2 := 10) d_Ho_bringAccept_9 rfl rfl (by decide) ?_
  refine zx_aload_n (pc2 := 11) d_Ho_bringAccept_10 rfl rfl ?_
  refine zx_aload_n (pc2 := 12) d_Ho_bringAccept_11 rfl rfl ?_
  refine zm_getI (pc2 := 15) f_Ho_142 d_Ho_bringAccept_12 rfl (hq.1) rfl ?_
  rcases fs_heeds_01 M (2 + 6 * s) (zm_I M q 3) with c | c
  · rw [if_pos c]
    rw [c] at hh
    refine zk_callV (pc2 := 18) s_Ho_279 v_St_heeds (hst) (hh) d_Ho_bringAccept_15 rfl rfl rfl (Nat.le_of_ble_eq_true rfl) (by decide) (by decide) ?_
    refine zx_if_eq (pc2 := 21) d_Ho_bringAccept_18 rfl (tgt := 93) (by decide) (fun _ => ?_) (fun cz => absurd (by decide) cz)
    exact zx_vret d_Ho_bringAccept_93 rfl (⟨rfl, rfl, rfl⟩)
  · rw [if_neg (by rw [c]; decide)]
    rw [c] at hh
    have hqs : q ≠ 2 + 6 * s := fun e => by
      have h1 := hq.1
      rw [e, hst] at h1
      cases h1
    have e4 : zm_I (zm_wI M (2 + 6 * s) 0 (zm_I M q 3)) q 4 = nI pl := by rw [zm_In (Or.inl hqs)]; exact hp
    have hk1 : rk_ok (fm_ba1 M q s pl) := rk_I hk ((fm_put_I (zl_Sh_ne hsS)).trans (zm_In (Or.inl (by omega)))) rfl
    refine zk_callV (pc2 := 18) s_Ho_279 v_St_heeds (hst) (hh) d_Ho_bringAccept_15 rfl rfl rfl (Nat.le_of_ble_eq_true rfl) (by decide) (by decide) ?_
    refine zx_if_eq (pc2 := 21) d_Ho_bringAccept_18 rfl (tgt := 93) (by decide) (fun cz => absurd cz (by decide)) (fun _ => ?_)
    refine zx_aload_n (pc2 := 22) d_Ho_bringAccept_21 rfl rfl ?_
    refine zx_aload_n (pc2 := 23) d_Ho_bringAccept_22 rfl rfl ?_
    refine zm_getI (pc2 := 26) f_Ho_142 d_Ho_bringAccept_23 rfl (hq.1) rfl ?_
    refine zm_putI (pc2 := 29) p_Ho_222 d_Ho_bringAccept_26 rfl (hst) rfl rfl rfl ?_
    refine zx_aload_n (pc2 := 30) d_Ho_bringAccept_29 rfl rfl ?_
    refine zm_getR (pc2 := 33) f_Ho_174 d_Ho_bringAccept_30 rfl (hst) rfl ?_
    refine zx_aload_n (pc2 := 34) d_Ho_bringAccept_33 rfl rfl ?_
    refine zm_getI (pc2 := 37) f_Ho_143 d_Ho_bringAccept_34 rfl (hq.1) rfl ?_
    refine zx_aload_n (pc2 := 38) d_Ho_bringAccept_37 rfl rfl ?_
    refine zm_getI (pc2 := 41) f_Ho_142 d_Ho_bringAccept_38 rfl (hq.1) rfl ?_
    refine zx_aload_n (pc2 := 42) d_Ho_bringAccept_41 rfl rfl ?_
    refine zm_getI (pc2 := 45) f_Ho_146 d_Ho_bringAccept_42 rfl (hq.1) rfl ?_
    refine zx_aload_n (pc2 := 46) d_Ho_bringAccept_45 rfl rfl ?_
    refine zm_getI (pc2 := 49) f_Ho_274 d_Ho_bringAccept_46 rfl (hq.1) rfl ?_
    refine zx_aload_n (pc2 := 50) d_Ho_bringAccept_49 rfl rfl ?_
    refine zm_getJ (pc2 := 53) f_Ho_275 d_Ho_bringAccept_50 rfl (hq.1) rfl ?_
    rw [show zm_I (zm_wI M (2 + 6 * s) 0 (zm_I M q 3)) q 4 = nI pl from e4]
    refine zk_callVv (pc2 := 56) s_Ho_197 v_Sh_put (hsS.1) (c_Sh_put hsS hp8) d_Ho_bringAccept_53 rfl rfl rfl (Nat.le_of_ble_eq_true rfl) (by decide) (by decide) ?_
    refine zx_aload_n (pc2 := 57) d_Ho_bringAccept_56 rfl rfl ?_
    refine zm_getR (pc2 := 60) f_Ho_28 d_Ho_bringAccept_57 rfl (zl_c0) rfl ?_
    refine zx_iconst (pc2 := 61) (v := nI 3) d_Ho_bringAccept_60 rfl (by decide) ?_
    refine zx_aload_n (pc2 := 62) d_Ho_bringAccept_61 rfl rfl ?_
    refine zm_getI (pc2 := 65) f_Ho_139 d_Ho_bringAccept_62 rfl (hq.1) rfl ?_
    refine zx_aload_n (pc2 := 66) d_Ho_bringAccept_65 rfl rfl ?_
    refine zm_getI (pc2 := 69) f_Ho_122 d_Ho_bringAccept_66 rfl (hq.1) rfl ?_
    refine zx_aload_n (pc2 := 70) d_Ho_bringAccept_69 rfl rfl ?_
    refine zm_getI (pc2 := 73) f_Ho_142 d_Ho_bringAccept_70 rfl (hq.1) rfl ?_
    by_cases c6 : rk_c (fm_ba1 M q s pl) < 60
    · have hle := hk1.2.2 (rk_c (fm_ba1 M q s pl)) (by omega)
      rw [if_pos c6, show fm_ba2 (fm_ba1 M q s pl) q = _ from if_pos c6]
      refine zk_callV (pc2 := 76) s_Ho_253 v_Ro_post (zl_c171) (c_Ro_post1 hk1.1 c6 hle) d_Ho_bringAccept_73 rfl rfl rfl (Nat.le_of_ble_eq_true rfl) (by decide) (by decide) ?_
      refine zx_ast3 (pc2 := 77) d_Ho_bringAccept_76 rfl rfl (by decide) ?_
      refine zx_aload_n (pc2 := 78) d_Ho_bringAccept_77 rfl rfl ?_
      refine zx_ifnullR d_Ho_bringAccept_78 rfl ?_
      refine zx_aload_n (pc2 := 82) d_Ho_bringAccept_81 rfl rfl ?_
      refine zx_aload_n (pc2 := 83) d_Ho_bringAccept_82 rfl rfl ?_
      refine zm_getI (pc2 := 86) f_Ho_143 d_Ho_bringAccept_83 rfl (hq.1) rfl ?_
      refine zx_aload_n (pc2 := 87) d_Ho_bringAccept_86 rfl rfl ?_
      refine zm_getI (pc2 := 90) f_Ho_146 d_Ho_bringAccept_87 rfl (hq.1) rfl ?_
      refine zk_callVv (pc2 := 93) s_Ho_267 v_Le_aboutPlace (hle.1) (c_Le_aboutPlace hle) d_Ho_bringAccept_90 rfl rfl rfl (Nat.le_of_ble_eq_true rfl) (by decide) (by decide) ?_
      exact zx_vret d_Ho_bringAccept_93 rfl (⟨rfl, rfl, rfl⟩)
    · rw [if_neg c6]
      refine zk_callV (pc2 := 76) s_Ho_253 v_Ro_post (zl_c171) (c_Ro_post0 hk1.1 (by omega) (by have := hk1.2.1; omega)) d_Ho_bringAccept_73 rfl rfl rfl (Nat.le_of_ble_eq_true rfl) (by decide) (by decide) ?_
      refine zx_astN3 (pc2 := 77) d_Ho_bringAccept_76 rfl rfl (by decide) ?_
      refine zx_aload_nN (pc2 := 78) d_Ho_bringAccept_77 rfl rfl ?_
      refine zx_ifnullN d_Ho_bringAccept_78 (tgt := 93) (by decide) ?_
      exact zx_vret d_Ho_bringAccept_93 rfl (⟨rfl, rfl, rfl⟩)
theorem c_Ho_gatherFromStations {pl : Nat} {id : Int32} (hp : pl < 8) : zK l D ar b Z y_Ho_gatherFromStations 2 [.ref (b + 0), .int (nI pl), .int id] M n (some (.int (if zm_I (fm_gs M pl id) 539 2 = nI 3 then nI 1 else nI 0))) (fm_gs M pl id) := by
  unfold fm_gs
  refine zk_entry (L := [some (.ref (b + 0)), some (.int (nI pl)), some (.int id), none]) rfl rfl (Nat.le_of_ble_eq_true rfl) rfl rfl ?_
  refine zx_aload_n (pc2 := 1) d_Ho_gatherFromStations_0 rfl rfl ?_
  refine zm_getR (pc2 := 4) f_Ho_35 d_Ho_gatherFromStations_1 rfl (zl_c0) rfl ?_
  refine zx_iload_n (pc2 := 5) d_Ho_gatherFromStations_4 rfl rfl ?_
  refine zk_callVv (pc2 := 8) s_Ho_303 v_Ga_start (zl_c539) (c_Ga_start) d_Ho_gatherFromStations_5 rfl rfl rfl (Nat.le_of_ble_eq_true rfl) (by decide) (by decide) ?_
  refine zx_iconst (pc2 := 9) (v := nI 0) d_Ho_gatherFromStations_8 rfl (by decide) ?_
  refine zx_ist3 (pc2 := 10) d_Ho_gatherFromStations_9 rfl rfl (by decide) ?_
  refine zx_for (X := fun i => zk_X l D ar b Z y_Ho_gatherFromStations 2 (some (.int (if zm_I (zm_it (fm_gsS pl) 7 (fm_gst M id)) 539 2 = nI 3 then nI 1 else nI 0))) (zm_it (fm_gsS pl) 7 (fm_gst M id)) n 10 [some (.ref (b + 0)), some (.int (nI pl)), some (.int id), some (.int (nI i))] [] (zm_it (fm_gsS pl) i (fm_gst M id))) 7 ?_ ?_ 0 (by decide)
  · refine zx_iload_n (pc2 := 11) d_Ho_gatherFromStations_10 rfl rfl ?_
    refine zx_bipush (pc2 := 13) (v := nI 7) d_Ho_gatherFromStations_11 rfl (by decide) ?_
    refine zx_icmp_ge (pc2 := 16) d_Ho_gatherFromStations_13 rfl (tgt := 52) (by decide) (fun _ => ?_) (fun cz => absurd (nI_le (Nat.le_refl 7) (by decide)) cz)
    refine zx_aload_n (pc2 := 53) d_Ho_gatherFromStations_52 rfl rfl ?_
    refine zm_getR (pc2 := 56) f_Ho_35 d_Ho_gatherFromStations_53 rfl (zl_c0) rfl ?_
    refine zk_callV (pc2 := 59) s_Ho_310 v_Ga_isEnough (zl_c539) (c_Ga_isEnough) d_Ho_gatherFromStations_56 rfl rfl rfl (Nat.le_of_ble_eq_true rfl) (by decide) (by decide) ?_
    by_cases c : zm_I (zm_it (fm_gsS pl) 7 (fm_gst M id)) 539 2 = nI 3
    · rw [if_pos c]
      exact zx_zret d_Ho_gatherFromStations_59 rfl rfl (⟨rfl, rfl, rfl⟩)
    · rw [if_neg c]
      exact zx_zret d_Ho_gatherFromStations_59 rfl rfl (⟨rfl, rfl, rfl⟩)
  · intro i hi ih
    have hst := zl_st i hi
    have hsS := zl_stS i hi
    have hgi := gk_gs (pl := pl) i (fm_gst M id) (gk_gst M id)
    have e0 : zm_it (fm_gsS pl) (i + 1) (fm_gst M id) = fm_gsS pl i (zm_it (fm_gsS pl) i (fm_gst M id)) := rfl
    rw [e0] at ih
    generalize zm_it (fm_gsS pl) i (fm_gst M id) = N at hgi ih ⊢
    refine zx_iload_n (pc2 := 11) d_Ho_gatherFromStations_10 rfl rfl ?_
    refine zx_bipush (pc2 := 13) (v := nI 7) d_Ho_gatherFromStations_11 rfl (by decide) ?_
    refine zx_icmp_ge (pc2 := 16) d_Ho_gatherFromStations_13 rfl (tgt := 52) (by decide) (fun cz => absurd cz (nI_ge hi (by decide))) (fun _ => ?_)
    refine zx_aload_n (pc2 := 17) d_Ho_gatherFromStations_16 rfl rfl ?_
    refine zm_getR (pc2 := 20) f_Ho_11 d_Ho_gatherFromStations_17 rfl (zl_c0) rfl ?_
    refine zx_iload_n (pc2 := 21) d_Ho_gatherFromStations_20 rfl rfl ?_
    refine zk_aaldC (pc2 := 22) d_Ho_gatherFromStations_21 rfl (by decide) (zl_c1) (by decide) rfl (rfl) (hi) (by decide) ?_
    refine zm_getI (pc2 := 25) f_Ho_155 d_Ho_gatherFromStations_22 rfl (hst) rfl ?_
    refine zx_if_eq (pc2 := 28) d_Ho_gatherFromStations_25 rfl (tgt := 46) (by decide) (fun c => ?_) (fun c => ?_)
    · rw [show fm_gsS pl i N = N from if_pos c] at ih
      refine zx_inc3 (pc2 := 49) d_Ho_gatherFromStations_46 rfl (zk_1 _) rfl (by decide) ?_
      refine zx_goto (tgt := 10) d_Ho_gatherFromStations_49 (by decide) ?_
      exact ih
    · rw [show fm_gsS pl i N = fm_gadd N (gk_c N) i (2 + 6 * i + 1) pl from if_neg c] at ih
      refine zx_aload_n (pc2 := 29) d_Ho_gatherFromStations_28 rfl rfl ?_
      refine zm_getR (pc2 := 32) f_Ho_35 d_Ho_gatherFromStations_29 rfl (zl_c0) rfl ?_
      refine zx_iload_n (pc2 := 33) d_Ho_gatherFromStations_32 rfl rfl ?_
      refine zx_aload_n (pc2 := 34) d_Ho_gatherFromStations_33 rfl rfl ?_
      refine zm_getR (pc2 := 37) f_Ho_11 d_Ho_gatherFromStations_34 rfl (zl_c0) rfl ?_
      refine zx_iload_n (pc2 := 38) d_Ho_gatherFromStations_37 rfl rfl ?_
      refine zk_aaldC (pc2 := 39) d_Ho_gatherFromStations_38 rfl (by decide) (zl_c1) (by decide) rfl (rfl) (hi) (by decide) ?_
      refine zm_getR (pc2 := 42) f_Ho_174 d_Ho_gatherFromStations_39 rfl (hst) rfl ?_
      refine zx_iload_n (pc2 := 43) d_Ho_gatherFromStations_42 rfl rfl ?_
      refine zk_callVv (pc2 := 46) s_Ho_306 v_Ga_addIfOfIt (zl_c539) (c_Ga_addIfOfIt hsS hp hgi.1 hgi.2 ⟨by omega, by omega, by omega, by omega⟩) d_Ho_gatherFromStations_43 rfl rfl rfl (Nat.le_of_ble_eq_true rfl) (by decide) (by decide) ?_
      refine zx_inc3 (pc2 := 49) d_Ho_gatherFromStations_46 rfl (zk_1 _) rfl (by decide) ?_
      refine zx_goto (tgt := 10) d_Ho_gatherFromStations_49 (by decide) ?_
      exact ih
end C36
