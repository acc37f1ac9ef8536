/-! LogHouseModel's constructor: the loop that fills the field's tables -/
def gs_v : Nat → Nat
  | 0 => 1
  | k + 1 => (gt_tm (gs_v k) 8).1
theorem gs_v_pw : ∀ k, k < 510 → gs_v k = gt_pw k
  | 0, _ => rfl
  | k + 1, h => by
    unfold gs_v
    rw [gs_v_pw k (by omega), gt_pwS k (by omega)]
def gz_P (k : Nat) : Nat → Int32 := fun x => if x < k then nI (gs_v x) else 0
def gz_L : Nat → Nat → Int32
  | 0 => fun _ => 0
  | k + 1 => if k < 255 then upd (gz_L k) (gs_v k) (nI k) else gz_L k
theorem gz_PS (k : Nat) : upd (gz_P k) k (nI (gs_v k)) = gz_P (k + 1) := by
  funext x
  unfold upd gz_P
  by_cases c : x = k
  · subst c
    rw [if_pos rfl, if_pos (by omega)]
  · rw [if_neg c]
    by_cases c2 : x < k
    · rw [if_pos c2, if_pos (by omega)]
    · rw [if_neg c2, if_neg (by omega)]
def gz_H (b : Nat) (ar : Nat → ClassId) (h : zx_H) (k : Nat) : zx_H := va_up (va_up h (b + 564) (some (.inl (ar 0, 510, .inl (gz_P k))))) (b + 565) (some (.inl (ar 0, 256, .inl (gz_L k))))
theorem gz_H0 {b : Nat} {ar : Nat → ClassId} {h : zx_H} (h4 : h (b + 564) = some (.inl (ar 0, 510, .inl (fun _ => 0)))) (h5 : h (b + 565) = some (.inl (ar 0, 256, .inl (fun _ => 0)))) : gz_H b ar h 0 = h := by
  have eP : gz_P 0 = fun _ => 0 := by funext x; exact if_neg (by omega)
  funext a
  unfold gz_H va_up
  by_cases c : a = b + 565
  · subst c
    rw [if_pos rfl, h5]
    rfl
  · rw [if_neg c]
    by_cases c2 : a = b + 564
    · subst c2
      rw [if_pos rfl, h4, eP]
    · rw [if_neg c2]
section C72
variable {l : Launch} {D : va_G} {ar : Nat → ClassId} {b : Nat} {Z : State → Prop} {h : zx_H} {post : Option Value → zx_H → Nat → Prop}
theorem gz_st1 {k : Nat} : va_up (gz_H b ar h k) (b + 564) (some (.inl (ar 0, 510, .inl (gz_P (k + 1))))) = va_up (va_up h (b + 564) (some (.inl (ar 0, 510, .inl (gz_P (k + 1)))))) (b + 565) (some (.inl (ar 0, 256, .inl (gz_L k)))) := by
  funext a
  unfold gz_H va_up
  by_cases c : a = b + 564
  · subst c
    rw [if_pos rfl, if_neg (by omega), if_pos rfl]
  · rw [if_neg c]
    by_cases c2 : a = b + 565
    · rw [if_pos c2, if_pos c2]
    · rw [if_neg c2, if_neg c, if_neg c2, if_neg c]
theorem gz_st2 {k : Nat} {x y : va_E} : va_up (va_up (va_up h (b + 564) (some x)) (b + 565) (some y)) (b + 565) (some (.inl (ar 0, 256, .inl (gz_L k)))) = va_up (va_up h (b + 564) (some x)) (b + 565) (some (.inl (ar 0, 256, .inl (gz_L k)))) := by
  funext a
  unfold va_up
  by_cases c : a = b + 565
  · rw [if_pos c, if_pos c]
  · rw [if_neg c, if_neg c, if_neg c]
theorem n_MoB {S : Nat} (h6 : ∃ vs, h (b + 546) = some (.inr (9, vs)) ∧ vs[19]? = some (.ref (b + 564)) ∧ vs[20]? = some (.ref (b + 565))) (h4 : h (b + 564) = some (.inl (ar 0, 510, .inl (fun _ => 0)))) (h5 : h (b + 565) = some (.inl (ar 0, 256, .inl (fun _ => 0)))) (hp : post none (gz_H b ar h 510) (b + 572)) : zX (zn_G l D ar b Z) y_Mo_init (zc_rm 1 25 S) (zx_F (zn_G l D ar b Z) 25 S post) 224 [some (.ref (b + 546)), some (.int (nI 1)), some (.int (nI 0))] [] h (b + 572) 25 S := by
  obtain ⟨vs, v1, v2, v3⟩ := h6
  have hv : ∀ k, k < 510 → gs_v k < 256 := fun k hk => by rw [gs_v_pw k hk]; exact gt_pw_lt k hk
  refine Eq.mp (congrArg (fun w => zX (zn_G l D ar b Z) y_Mo_init (zc_rm 1 25 S) (zx_F (zn_G l D ar b Z) 25 S post) 224 [some (.ref (b + 546)), some (.int (nI 1)), some (.int (nI 0))] [] w (b + 572) 25 S) (gz_H0 h4 h5)) ?_
  refine zx_for (X := fun k => zX (zn_G l D ar b Z) y_Mo_init (zc_rm 1 25 S) (zx_F (zn_G l D ar b Z) 25 S post) 224 [some (.ref (b + 546)), some (.int (nI (gs_v k))), some (.int (nI k))] [] (gz_H b ar h k) (b + 572) 25 S) 510 ?_ ?_ 0 (Nat.zero_le _)
  · refine zx_iload_n (pc2 := 225) d_Mo_init_224 rfl rfl ?_
    refine zx_sipush (pc2 := 228) (v := nI 510) d_Mo_init_225 rfl (by decide) ?_
    refine zx_icmp_ge (pc2 := 231) d_Mo_init_228 rfl (tgt := 264) (by decide) (fun _ => ?_) (fun cz => absurd (nI_le (Nat.le_refl 510) (by decide)) cz)
    exact zx_vret d_Mo_init_264 rfl hp
  · intro k hk ih
    have hvk := hv k hk
    refine zx_iload_n (pc2 := 225) d_Mo_init_224 rfl rfl ?_
    refine zx_sipush (pc2 := 228) (v := nI 510) d_Mo_init_225 rfl (by decide) ?_
    refine zx_icmp_ge (pc2 := 231) d_Mo_init_228 rfl (tgt := 264) (by decide) (fun cz => absurd cz (nI_ge hk (by decide))) (fun _ => ?_)
    refine zx_aload_n (pc2 := 232) d_Mo_init_231 rfl rfl ?_
    refine zx_getf (pc2 := 235) f_Mo_69 d_Mo_init_232 rfl ((va_up_ne _ _ (by omega)).trans ((va_up_ne _ _ (by omega)).trans v1)) v2 ?_
    refine zx_iload_n (pc2 := 236) d_Mo_init_235 rfl rfl ?_
    refine zx_iload_n (pc2 := 237) d_Mo_init_236 rfl rfl ?_
    refine zx_iast (pc2 := 238) (t0 := 0) (h2 := va_up (va_up h (b + 564) (some (.inl (ar 0, 510, .inl (gz_P (k + 1)))))) (b + 565) (some (.inl (ar 0, 256, .inl (gz_L k))))) d_Mo_init_237 rfl ((va_up_ne _ _ (by omega)).trans (va_up_self _ _ _)) rfl (vp_in_nI hk (by decide)) (by rw [nI_clamp (Nat.lt_trans hk (by decide)), gz_PS]; exact gz_st1) ?_
    have tail : ∀ hh : zx_H, hh = gz_H b ar h (k + 1) → zX (zn_G l D ar b Z) y_Mo_init (zc_rm 1 25 S) (zx_F (zn_G l D ar b Z) 25 S post) 252 [some (.ref (b + 546)), some (.int (nI (gs_v k))), some (.int (nI k))] [] hh (b + 572) 25 S := by
      intro hh eh
      subst eh
      refine zx_iload_n (pc2 := 253) d_Mo_init_252 rfl rfl ?_
      refine zx_iconst (pc2 := 254) (v := nI 3) d_Mo_init_253 rfl (by decide) ?_
      refine zx_callS (pc2 := 257) s_Mo_96 t_Mo_times (n_times hvk) d_Mo_init_254 rfl rfl rfl (Nat.le_of_ble_eq_true rfl) (Nat.le_refl 1) (Nat.le_of_ble_eq_true rfl) (Nat.le_refl _) (Nat.le_refl _) (fun r' h' n' hq => ?_)
      obtain ⟨rfl, rfl, rfl⟩ := hq
      refine zx_ist1 (pc2 := 258) d_Mo_init_257 rfl rfl (by decide) ?_
      refine zx_inc2 (pc2 := 261) d_Mo_init_258 rfl (zk_1 _) rfl (by decide) ?_
      refine zx_goto (tgt := 224) d_Mo_init_261 (by decide) ?_
      exact ih
    by_cases c : k < 255
    · refine zx_iload_n (pc2 := 239) d_Mo_init_238 rfl rfl ?_
      refine zx_sipush (pc2 := 242) (v := nI 255) d_Mo_init_239 rfl (by decide) ?_
      refine zx_icmp_ge (pc2 := 245) d_Mo_init_242 rfl (tgt := 252) (by decide) (fun cz => absurd cz (nI_ge c (by decide))) (fun _ => ?_)
      refine zx_aload_n (pc2 := 246) d_Mo_init_245 rfl rfl ?_
      refine zx_getf (pc2 := 249) f_Mo_72 d_Mo_init_246 rfl ((va_up_ne _ _ (by omega)).trans ((va_up_ne _ _ (by omega)).trans v1)) v3 ?_
      refine zx_iload_n (pc2 := 250) d_Mo_init_249 rfl rfl ?_
      refine zx_iload_n (pc2 := 251) d_Mo_init_250 rfl rfl ?_
      refine zx_iast (pc2 := 252) (t0 := 0) d_Mo_init_251 rfl (va_up_self _ _ _) rfl (vp_in_nI hvk (by decide)) rfl ?_
      refine tail _ ?_
      have eL : gz_L (k + 1) = upd (gz_L k) (gs_v k) (nI k) := if_pos c
      rw [nI_clamp (Nat.lt_trans hvk (by decide)), ← eL]
      exact gz_st2
    · refine zx_iload_n (pc2 := 239) d_Mo_init_238 rfl rfl ?_
      refine zx_sipush (pc2 := 242) (v := nI 255) d_Mo_init_239 rfl (by decide) ?_
      refine zx_icmp_ge (pc2 := 245) d_Mo_init_242 rfl (tgt := 252) (by decide) (fun _ => ?_) (fun cz => absurd (nI_le (by omega) (by omega)) cz)
      refine tail _ ?_
      have eL : gz_L (k + 1) = gz_L k := if_neg c
      unfold gz_H
      rw [eL]
end C72
