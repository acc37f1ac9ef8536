/-! The model's word on what was thrown stays as it is -/
theorem kt_t {M : zm_M} {e : Nat} : zm_I (gm_t M e) 546 0 = nI e := zm_Is
theorem kt_w {M : zm_M} {r x : Nat} {v : Int32} (h : r ≠ 546 ∨ x ≠ 0) : zm_I (zm_wI M r x v) 546 0 = zm_I M 546 0 := zm_In (h.imp Ne.symm Ne.symm)
theorem kt_up {M : zm_M} {r lo k : Nat} {f : Nat → Int32} (h : r ≠ 546) : zm_I (gm_up M r lo k f) 546 0 = zm_I M 546 0 := gm_upn (Or.inl (Ne.symm h))
theorem kt_l4 {M : zm_M} {c : Nat} {k s p bl : Int32} : zm_I (gm_l4 M c k s p bl) 546 0 = zm_I M 546 0 := by
  unfold gm_l4
  rw [kt_w (Or.inr (by decide)), kt_w (Or.inl (by decide)), kt_w (Or.inl (by decide)), kt_w (Or.inl (by decide)), kt_w (Or.inl (by decide)), kt_w (Or.inl (by decide)), kt_w (Or.inl (by decide))]
theorem kt_pp {M : zm_M} {c p : Nat} {sel : Nat → Bool} : ∀ k, zm_I (gm_pp M c p sel k).1 546 0 = zm_I M 546 0
  | 0 => rfl
  | k + 1 => by
    have ih := kt_pp (M := M) (c := c) (p := p) (sel := sel) k
    unfold gm_pp
    split
    · exact kt_l4.trans ih
    · exact ih
theorem kt_acc {M : zm_M} {c p pl s len k : Nat} {f : Nat → Nat} : zm_I (gm_acc M c p pl s len f k) 546 0 = zm_I M 546 0 := by
  unfold gm_acc gm_acc0
  rw [kt_up (by decide), kt_w (Or.inl (by decide)), kt_w (Or.inl (by decide)), kt_w (Or.inl (by decide)), kt_l4]
theorem kt_aa {M : zm_M} {c p pl len : Nat} {f : Nat → Nat} : ∀ k, zm_I (gm_aa M c p pl len f k).1 546 0 = zm_I M 546 0
  | 0 => rfl
  | k + 1 => by
    have ih := kt_aa (M := M) (c := c) (p := p) (pl := pl) (len := len) (f := f) k
    unfold gm_aa
    split
    · exact kt_acc.trans ih
    · exact ih
theorem kt_as {M0 : zm_M} {p pl len : Nat} {f : Nat → Nat} {T : gm_T} : ∀ k, zm_I (gm_as M0 p pl len f T k).1 546 0 = zm_I T.1 546 0
  | 0 => rfl
  | k + 1 => by
    have ih := kt_as (M0 := M0) (p := p) (pl := pl) (len := len) (f := f) (T := T) k
    unfold gm_as
    split
    · exact kt_acc.trans ih
    · exact ih
theorem kt_ro {M0 : zm_M} {p : Nat} {L : Nat → Nat} {F : Nat → Nat → Nat} {T : gm_T} : ∀ k, zm_I (gm_ro M0 p L F T k).1 546 0 = zm_I T.1 546 0
  | 0 => rfl
  | k + 1 => by
    have ih := kt_ro (M0 := M0) (p := p) (L := L) (F := F) (T := T) k
    unfold gm_ro
    exact (kt_as 7).trans ih
theorem kt_ft {M : zm_M} {but id : Int32} {pl s : Nat} : zm_I (gm_ft M but pl id s).1 546 0 = zm_I M 546 0 := (gm_ft_inv s).2.1 546 0 (by decide)
theorem kt_fx {M : zm_M} {sel : Nat → Bool} {s : Nat} : zm_I (gm_fx M sel s).1 546 0 = zm_I M 546 0 := (gm_fx_inv s).2 546 0 (by decide)
theorem kt_f3 {M : zm_M} {pl t0 t1 t2 : Nat} : zm_I (gm_f3 M pl t0 t1 t2) 546 0 = zm_I M 546 0 := by
  unfold gm_f3
  exact gm_tg_n (by decide) (by decide) _
theorem kt_h3 {M : zm_M} {p pl t0 t1 t2 : Nat} : zm_I (gm_h3 M p pl t0 t1 t2) 546 0 = zm_I M 546 0 := by
  unfold gm_h3
  exact gm_tg_n (by decide) (by decide) _
theorem kt_pf {M : zm_M} {p pl len ra at0 k : Nat} {id : Int32} : zm_I (gm_pf M p pl id len ra at0 k) 546 0 = zm_I M 546 0 := by
  unfold gm_pf
  rw [kt_up (by decide), kt_w (Or.inl (by decide)), kt_w (Or.inl (by decide)), kt_w (Or.inl (by decide))]
theorem kt_ag {M : zm_M} {p pl t0 t1 t2 : Nat} : zm_I (gm_ag M p pl t0 t1 t2) 546 0 = zm_I M 546 0 := by
  unfold gm_ag
  rw [kt_pf, kt_h3, kt_fx]
theorem kt_cuT {s p pl : Nat} {T : zm_M × Nat} : zm_I (cuT s p pl T).1 546 0 = zm_I T.1 546 0 := by
  unfold cuT
  split
  · rfl
  · split
    · rfl
    · split
      · exact (gm_cw_n (by decide)).trans (kt_f3.trans kt_ft)
      · exact kt_ft
theorem kt_cuL {s p : Nat} {D : zm_M} : ∀ k, zm_I (cuL s p D k).1 546 0 = nI 0
  | 0 => kt_t
  | k + 1 => by
    unfold cuL
    exact kt_cuT.trans (kt_cuL k)
theorem kt_ldT {p : Nat} {Q : ld_q} {D : zm_M} {c k : Nat} : zm_I (ldT p Q D c k).1 546 0 = zm_I D 546 0 := by
  induction k with
  | zero => rfl
  | succ k ih =>
    cases hQ : Q k with
    | none => rw [ldT_0 hQ]; exact ih
    | some zt =>
      obtain ⟨z, t⟩ := zt
      rw [ldT_1 hQ]
      generalize ldT p Q D c k = T at ih ⊢
      dsimp only
      rw [kt_aa, kt_ag]
      exact ih
theorem kt_rm {M : zm_M} {i c : Nat} : zm_I (gm_rm M i c) 546 0 = zm_I M 546 0 := by
  unfold gm_rm
  rw [kt_up (by decide), kt_up (by decide), kt_w (Or.inr (by decide))]
theorem kt_dv {M : zm_M} {i c : Nat} : zm_I (gm_dv M i c) 546 0 = nI 0 := by
  unfold gm_dv gm_dv2 gm_dv1
  rw [kt_rm, kt_up (by decide), kt_up (by decide), kt_t]
theorem kt_cp {M : zm_M} {s p c k : Nat} {bal : Int32} : zm_I (gm_cp M s p c bal k) 546 0 = zm_I M 546 0 := by
  unfold gm_cp
  rw [kt_up (by decide), kt_l4, kt_w (Or.inl (by decide))]
theorem kt_ca {M : zm_M} {s p pl len c : Nat} {bal id : Int32} : zm_I (gm_ca M s p pl len c bal id) 546 0 = zm_I M 546 0 := by
  unfold gm_ca
  rw [kt_w (Or.inl (by decide)), kt_w (Or.inl (by decide)), kt_l4, gm_ca0_n (by decide) (by decide)]
theorem kt_acd {M : zm_M} {s p pl : Nat} : zm_I (gm_acd M s p pl) 546 0 = zm_I M 546 0 := by
  unfold gm_acd
  split
  · split
    · rw [kt_w (Or.inl (by decide)), kt_w (Or.inl (by decide)), kt_w (Or.inl (by decide))]
    · rw [kt_w (Or.inl (by decide))]
  · rfl
theorem kt_ph {M : zm_M} {s p k : Nat} : zm_I (gm_ph M s p k) 546 0 = zm_I M 546 0 := by
  unfold gm_ph
  rw [kt_up (by decide), kt_w (Or.inl (by decide))]
theorem kt_wipe {M : zm_M} {s : Nat} : zm_I (gm_wipe M s) 546 0 = nI 0 := by
  unfold gm_wipe
  rw [kt_up (by decide), kt_w (Or.inl (by decide)), kt_w (Or.inl (by decide)), kt_t]
theorem kt_tw {M : zm_M} {i c : Nat} : zm_I (gm_tw M i c) 546 0 = nI 0 := by
  unfold gm_tw
  rw [kt_w (Or.inr (by decide)), kt_up (by decide), kt_up (by decide), kt_t]
theorem kt_bi {M : zm_M} {p dl m q : Nat} {w : Int32} : zm_I (gm_bi M p w dl m q) 546 0 = nI 0 := by
  unfold gm_bi
  rw [kt_w (Or.inl (by decide)), kt_up (by decide), kt_t]
theorem kt_prop {M : zm_M} {p pl dl : Nat} : zm_I (gm_prop M p pl dl) 546 0 = nI 0 := by
  unfold gm_prop
  rw [kt_w (Or.inl (by decide)), kt_pf, kt_t]
theorem kt_c0 {M : zm_M} {p A k : Nat} : zm_I (gm_c0 M p A k) 546 0 = nI 0 := by
  unfold gm_c0
  rw [kt_up (by decide), kt_w (Or.inl (by decide)), kt_w (Or.inl (by decide)), kt_w (Or.inl (by decide)), kt_t]
theorem kt_rd {M : zm_M} {pl t0 t1 t2 k : Nat} {id : Int32} : zm_I (gm_rd M pl id t0 t1 t2 k) 546 0 = nI 0 := by
  unfold gm_rd gm_rdW
  rw [kt_up (by decide), kt_w (Or.inr (by decide)), kt_f3, zm_Is]
