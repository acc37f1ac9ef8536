/-! new LogHouseModel(): the model's memory is born -/
def zc_M1 : zm_M := (fun r k => if r = 564 then gz_P 510 k else if r = 565 then gz_L 510 k else zc_M.1 r k, zc_M.2.1, zc_M.2.2)
theorem zc_1n {r : Nat} (h4 : r ≠ 564) (h5 : r ≠ 565) : zm_I zc_M1 r = zm_I zc_M r := by
  funext k
  show (if r = 564 then gz_P 510 k else if r = 565 then gz_L 510 k else zc_M.1 r k) = zc_M.1 r k
  rw [if_neg h4, if_neg h5]
theorem zc_1g (r k : Nat) : zm_I zc_M1 r k = if r = 564 then gz_P 510 k else if r = 565 then gz_L 510 k else zc_M.1 r k := rfl
theorem zc_14 : zm_I zc_M1 564 = gz_P 510 := by
  funext k
  rw [zc_1g, if_pos rfl]
theorem zc_15 : zm_I zc_M1 565 = gz_L 510 := by
  funext k
  rw [zc_1g, if_neg (by decide), if_pos rfl]
theorem zc_1ok : gt_ok zc_M1 := ⟨fun k hk => by rw [zc_14]; exact gz_P_pw hk, fun a h1 h2 => by rw [zc_15]; exact gz_L_lg h1 h2⟩
def zcm (b : Nat) (ar : Nat → ClassId) (h : zx_H) : zx_H := fun a => if b + 546 ≤ a ∧ a < b + 572 then zm_h b ar zl zc_M1 a else h a
section C74
variable {l : Launch} {D : va_G} {ar : Nat → ClassId} {b : Nat} {Z : State → Prop} {h : zx_H}
theorem zcm_eq {h1 : zx_H} (g : gz_ok b ar h h1) : gz_H b ar h1 510 = zcm b ar h := by
  obtain ⟨f546, f547, f548, f549, f550, f551, f552, f553, f554, f555, f556, f557, f558, f559, f560, f561, f562, f563, f564, f565, f566, f567, f568, f569, f570, f571, fo⟩ := g
  funext a
  unfold zcm
  by_cases c : b + 546 ≤ a ∧ a < b + 572
  · rw [if_pos c]
    obtain ⟨i, hi, rfl⟩ : ∃ i, i < 26 ∧ a = b + (546 + i) := ⟨a - b - 546, by omega, by omega⟩
    match i, hi with
    | 0, _ =>
      refine ((va_up_ne _ _ (by omega)).trans ((va_up_ne _ _ (by omega)).trans f546)).trans ?_
      rw [zm_at zl_c546]
      simp only [zm_cell, zm_fs, zc_1n (r := 546) (by decide) (by decide), zc_Io zl_c546 (by decide) (by decide)]
    | 1, _ =>
      refine ((va_up_ne _ _ (by omega)).trans ((va_up_ne _ _ (by omega)).trans f547)).trans ?_
      rw [zm_at zl_c547]
      simp only [zm_cell, zc_1n (r := 547) (by decide) (by decide), zc_Ia zl_c547]
    | 2, _ =>
      refine ((va_up_ne _ _ (by omega)).trans ((va_up_ne _ _ (by omega)).trans f548)).trans ?_
      rw [zm_at zl_c548]
      simp only [zm_cell, zc_1n (r := 548) (by decide) (by decide), zc_Ia zl_c548]
    | 3, _ =>
      refine ((va_up_ne _ _ (by omega)).trans ((va_up_ne _ _ (by omega)).trans f549)).trans ?_
      rw [zm_at zl_c549]
      simp only [zm_cell, zc_1n (r := 549) (by decide) (by decide), zc_Ia zl_c549]
    | 4, _ =>
      refine ((va_up_ne _ _ (by omega)).trans ((va_up_ne _ _ (by omega)).trans f550)).trans ?_
      rw [zm_at zl_c550]
      simp only [zm_cell, zc_1n (r := 550) (by decide) (by decide), zc_Ia zl_c550]
    | 5, _ =>
      refine ((va_up_ne _ _ (by omega)).trans ((va_up_ne _ _ (by omega)).trans f551)).trans ?_
      rw [zm_at zl_c551]
      simp only [zm_cell, zc_1n (r := 551) (by decide) (by decide), zc_Ia zl_c551]
    | 6, _ =>
      refine ((va_up_ne _ _ (by omega)).trans ((va_up_ne _ _ (by omega)).trans f552)).trans ?_
      rw [zm_at zl_c552]
      simp only [zm_cell, zc_1n (r := 552) (by decide) (by decide), zc_Ia zl_c552]
    | 7, _ =>
      refine ((va_up_ne _ _ (by omega)).trans ((va_up_ne _ _ (by omega)).trans f553)).trans ?_
      rw [zm_at zl_c553]
      simp only [zm_cell, zc_1n (r := 553) (by decide) (by decide), zc_Ia zl_c553]
    | 8, _ =>
      refine ((va_up_ne _ _ (by omega)).trans ((va_up_ne _ _ (by omega)).trans f554)).trans ?_
      rw [zm_at zl_c554]
      simp only [zm_cell, zc_1n (r := 554) (by decide) (by decide), zc_Ia zl_c554]
    | 9, _ =>
      refine ((va_up_ne _ _ (by omega)).trans ((va_up_ne _ _ (by omega)).trans f555)).trans ?_
      rw [zm_at zl_c555]
      simp only [zm_cell, zc_1n (r := 555) (by decide) (by decide), zc_Ia zl_c555]
    | 10, _ =>
      refine ((va_up_ne _ _ (by omega)).trans ((va_up_ne _ _ (by omega)).trans f556)).trans ?_
      rw [zm_at zl_c556]
      simp only [zm_cell, zc_1n (r := 556) (by decide) (by decide), zc_Ia zl_c556]
    | 11, _ =>
      refine ((va_up_ne _ _ (by omega)).trans ((va_up_ne _ _ (by omega)).trans f557)).trans ?_
      rw [zm_at zl_c557]
      simp only [zm_cell, zc_1n (r := 557) (by decide) (by decide), zc_Ia zl_c557]
    | 12, _ =>
      refine ((va_up_ne _ _ (by omega)).trans ((va_up_ne _ _ (by omega)).trans f558)).trans ?_
      rw [zm_at zl_c558]
      simp only [zm_cell, zc_1n (r := 558) (by decide) (by decide), zc_Ia zl_c558]
    | 13, _ =>
      refine ((va_up_ne _ _ (by omega)).trans ((va_up_ne _ _ (by omega)).trans f559)).trans ?_
      rw [zm_at zl_c559]
      simp only [zm_cell, zc_1n (r := 559) (by decide) (by decide), zc_Ia zl_c559]
    | 14, _ =>
      refine ((va_up_ne _ _ (by omega)).trans ((va_up_ne _ _ (by omega)).trans f560)).trans ?_
      rw [zm_at zl_c560]
      simp only [zm_cell, zc_1n (r := 560) (by decide) (by decide), zc_Ia zl_c560]
    | 15, _ =>
      refine ((va_up_ne _ _ (by omega)).trans ((va_up_ne _ _ (by omega)).trans f561)).trans ?_
      rw [zm_at zl_c561]
      simp only [zm_cell, zc_1n (r := 561) (by decide) (by decide), zc_Ia zl_c561]
    | 16, _ =>
      refine ((va_up_ne _ _ (by omega)).trans ((va_up_ne _ _ (by omega)).trans f562)).trans ?_
      rw [zm_at zl_c562]
      simp only [zm_cell, zc_1n (r := 562) (by decide) (by decide), zc_Ia zl_c562]
    | 17, _ =>
      refine ((va_up_ne _ _ (by omega)).trans ((va_up_ne _ _ (by omega)).trans f563)).trans ?_
      rw [zm_at zl_c563]
      simp only [zm_cell, zc_1n (r := 563) (by decide) (by decide), zc_Ia zl_c563]
    | 18, _ =>
      refine ((va_up_ne _ _ (by omega)).trans (va_up_self _ _ _)).trans ?_
      rw [zm_at zl_c564]
      simp only [zm_cell, zc_14]
    | 19, _ =>
      refine (va_up_self _ _ _).trans ?_
      rw [zm_at zl_c565]
      simp only [zm_cell, zc_15]
    | 20, _ =>
      refine ((va_up_ne _ _ (by omega)).trans ((va_up_ne _ _ (by omega)).trans f566)).trans ?_
      rw [zm_at zl_c566]
      simp only [zm_cell, zc_1n (r := 566) (by decide) (by decide), zc_Ia zl_c566]
    | 21, _ =>
      refine ((va_up_ne _ _ (by omega)).trans ((va_up_ne _ _ (by omega)).trans f567)).trans ?_
      rw [zm_at zl_c567]
      simp only [zm_cell, zc_1n (r := 567) (by decide) (by decide), zc_Ia zl_c567]
    | 22, _ =>
      refine ((va_up_ne _ _ (by omega)).trans ((va_up_ne _ _ (by omega)).trans f568)).trans ?_
      rw [zm_at zl_c568]
      simp only [zm_cell, zc_1n (r := 568) (by decide) (by decide), zc_Ia zl_c568]
    | 23, _ =>
      refine ((va_up_ne _ _ (by omega)).trans ((va_up_ne _ _ (by omega)).trans f569)).trans ?_
      rw [zm_at zl_c569]
      simp only [zm_cell, zc_1n (r := 569) (by decide) (by decide), zc_Ia zl_c569]
    | 24, _ =>
      refine ((va_up_ne _ _ (by omega)).trans ((va_up_ne _ _ (by omega)).trans f570)).trans ?_
      rw [zm_at zl_c570]
      simp only [zm_cell, zc_1n (r := 570) (by decide) (by decide), zc_Ia zl_c570]
    | 25, _ =>
      refine ((va_up_ne _ _ (by omega)).trans ((va_up_ne _ _ (by omega)).trans f571)).trans ?_
      rw [zm_at zl_c571]
      simp only [zm_cell, zc_1n (r := 571) (by decide) (by decide), zc_Ia zl_c571]
    | q + 26, hq => omega
  · rw [if_neg c]
    exact (va_up_ne _ _ (by omega)).trans ((va_up_ne _ _ (by omega)).trans (fo a (by omega)))
theorem n_Mo (hf : h (b + 546) = some (.inr (9, [.int 0, .null, .null, .null, .null, .int 0, .null, .null, .null, .null, .null, .null, .null, .null, .null, .null, .null, .null, .null, .null, .null, .null, .null, .null, .null, .int 0, .null, .null]))) : zM (zn_G l D ar b Z) y_Mo_init (zc_rm 1 25 8988) [.ref (b + 546)] h (b + 547) (fun q h' n' => q = none ∧ h' = zcm b ar h ∧ n' = b + 572) := by
  refine n_MoA hf (fun h1 g => ?_)
  refine n_MoB ⟨_, g.1, rfl, rfl⟩ ?_ ?_ ⟨rfl, zcm_eq g, rfl⟩
  · obtain ⟨f546, f547, f548, f549, f550, f551, f552, f553, f554, f555, f556, f557, f558, f559, f560, f561, f562, f563, f564, f565, f566, f567, f568, f569, f570, f571, fo⟩ := g
    exact f564
  · obtain ⟨f546, f547, f548, f549, f550, f551, f552, f553, f554, f555, f556, f557, f558, f559, f560, f561, f562, f563, f564, f565, f566, f567, f568, f569, f570, f571, fo⟩ := g
    exact f565
end C74
