/-! The field's tables as the loop leaves them -/
theorem gt_lgpw : ∀ k, k < 255 → gt_lg (gt_pw k) = k := by decide +kernel
theorem gt_pwlg : ∀ a, a < 256 → 1 ≤ a → gt_pw (gt_lg a) = a := by decide +kernel
theorem gz_P_pw {x : Nat} (h : x < 510) : gz_P 510 x = nI (gt_pw x) := by
  unfold gz_P
  rw [if_pos h, gs_v_pw x h]
theorem gz_L_a {a : Nat} (h1 : 1 ≤ a) (h2 : a < 256) : ∀ k, k ≤ 255 → gz_L k a = if gt_lg a < k then nI (gt_lg a) else 0
  | 0, _ => (if_neg (Nat.not_lt_zero _)).symm
  | k + 1, hk => by
    have ih := gz_L_a h1 h2 k (by omega)
    have e : gz_L (k + 1) = upd (gz_L k) (gs_v k) (nI k) := if_pos (by omega)
    rw [e]
    unfold upd
    by_cases c : a = gs_v k
    · rw [if_pos c]
      have hl : gt_lg a = k := by rw [c, gs_v_pw k (by omega)]; exact gt_lgpw k (by omega)
      rw [hl, if_pos (by omega)]
    · rw [if_neg c, ih]
      have hl : gt_lg a ≠ k := fun q => c (by rw [gs_v_pw k (by omega), ← q]; exact (gt_pwlg a h2 h1).symm)
      by_cases c2 : gt_lg a < k
      · rw [if_pos c2, if_pos (by omega)]
      · rw [if_neg c2, if_neg (by omega)]
theorem gz_L_lg {a : Nat} (h1 : 1 ≤ a) (h2 : a < 256) : gz_L 510 a = nI (gt_lg a) := by
  have key : ∀ d, gz_L (255 + d) = gz_L 255 := by
    intro d
    induction d with
    | zero => rfl
    | succ d ih =>
      have e : gz_L (255 + d + 1) = gz_L (255 + d) := if_neg (by omega)
      exact e.trans ih
  have h := key 255
  rw [show 255 + 255 = 510 from rfl] at h
  rw [h, gz_L_a h1 h2 255 (Nat.le_refl _), if_pos (gt_lg_lt a h2)]
