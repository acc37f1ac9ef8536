/-! The law's start: both objects and the array made -/
abbrev zc_fMo : List Value := [.int 0, .null, .null, .null, .null, .int 0, .null, .null, .null, .null, .null, .null, .null, .null, .null, .null, .null, .null, .null, .null, .null, .null, .null, .null, .null, .int 0, .null, .null]
section CF0
variable {l : Launch} {D : va_G} {ar : Nat → ClassId} {b : Nat} {Z : State → Prop} {F : List Frame → Array Value → State → State → Prop} {b0 : Nat}
theorem lw_begin (kk : zX (zn_G l D ar b Z) y_lw room_1 F 23 (lw_L b0 b 0 none none) [] (zm_h b ar zl zc_M1) (b + 573) 573 12883) : zX (zn_G l D ar b Z) y_lw room_1 F 0 [some (.ref b0), none, none, none, none, none, none] [] (fun _ => none : zx_H) b 0 0 := by
  refine zx_new (pc2 := 3) (ci := 0) (ty0 := zn_tHo) d_lw_0 rfl rfl zn_uHo zn_oHo zc_dHo zn_w21 zn_w22 zn_w1 (Nat.le_of_ble_eq_true rfl) (Nat.le_of_ble_eq_true rfl) ?_
  refine zx_dup (pc2 := 4) d_lw_3 rfl rfl ?_
  have h1 : va_up (fun _ => none : zx_H) (b + 0) (some (.inr (0, [.null, .null, .null, .null, .null, .null]))) (b + 0) = some (.inr (0, [.null, .null, .null, .null, .null, .null])) := va_up_self _ _ _
  refine zx_callI (G := zn_G l D ar b Z) (b := b + 0) (rm := zc_rm 4 545 3860) (av := []) (rest := [.ref (b + 0)]) (pc2 := 7) s_La_70 i_Ho_init (n_Ho h1) d_lw_4 rfl rfl rfl (Nat.le_of_ble_eq_true rfl) (Nat.le_of_ble_eq_true rfl) (Nat.le_of_ble_eq_true rfl) (Nat.le_of_ble_eq_true rfl) (Nat.le_of_ble_eq_true rfl) ?_
  rintro _ _ _ ⟨rfl, rfl, rfl⟩
  rw [show zc b ar (va_up (fun _ => none : zx_H) b (some (.inr (0, [.null, .null, .null, .null, .null, .null])))) 0 546 = zc b ar (fun _ => none) 0 546 from zc_up (r := 0) (by decide)]
  refine zx_ast1 (pc2 := 8) d_lw_7 rfl rfl (by decide) ?_
  refine zx_new (pc2 := 11) (ci := 9) (ty0 := zn_tMo) d_lw_8 rfl rfl zn_uMo zn_oMo zc_dMo zn_w761 zn_w762 zn_w10 (Nat.le_of_ble_eq_true rfl) (Nat.le_of_ble_eq_true rfl) ?_
  refine zx_dup (pc2 := 12) d_lw_11 rfl rfl ?_
  have h2 : va_up (zc b ar (fun _ => none) 0 546) (b + 546) (some (.inr (9, zc_fMo))) (b + 546) = some (.inr (9, zc_fMo)) := va_up_self _ _ _
  refine zx_callI (G := zn_G l D ar b Z) (b := b + 546) (rm := zc_rm 1 25 8988) (av := []) (rest := [.ref (b + 546)]) (pc2 := 15) s_La_73 i_Mo_init (n_Mo h2) d_lw_12 rfl rfl rfl (Nat.le_of_ble_eq_true rfl) (Nat.le_of_ble_eq_true rfl) (Nat.le_of_ble_eq_true rfl) (Nat.le_of_ble_eq_true rfl) (Nat.le_of_ble_eq_true rfl) ?_
  rintro _ _ _ ⟨rfl, rfl, rfl⟩
  refine zx_ast2 (pc2 := 16) d_lw_15 rfl rfl (by decide) ?_
  refine zx_iconst (pc2 := 17) (v := nI 1) d_lw_16 rfl (by decide) ?_
  refine zx_newa (pc2 := 19) (t0 := 1) (N0 := 1) (a0 := (1, .inr (.inl (fun _ => 0)))) d_lw_17 rfl zn_w63 rfl rfl (fun _ hz => by cases hz) (fun _ => rfl) (by decide) rfl (by decide) (Nat.le_of_ble_eq_true rfl) (Nat.le_of_ble_eq_true rfl) ?_
  refine zx_ast3 (pc2 := 20) d_lw_19 rfl rfl (by decide) ?_
  refine zx_iconst (pc2 := 21) (v := nI 0) d_lw_20 rfl (by decide) ?_
  refine zx_ist4 (pc2 := 23) d_lw_21 rfl rfl (by decide) ?_
  have hh : va_up (zcm b ar (va_up (zc b ar (fun _ => none) 0 546) (b + 546) (some (.inr (9, zc_fMo))))) (b + 572) (some (.inl (ar 1, 1, .inr (.inl (fun _ => 0))))) = zm_h b ar zl zc_M1 := by
    refine born_h (h := fun _ => none) (fun _ => rfl) (fun a => ?_)
    by_cases c0 : b + 572 = a
    · rw [if_pos c0, ← c0]
      exact va_up_self _ _ _
    · rw [if_neg c0, va_up_ne _ _ (fun e => c0 e.symm)]
      unfold zcm
      split
      · rfl
      · rename_i c1
        exact va_up_ne _ _ (by omega)
  rw [show va_up (zcm b ar (va_up (zc b ar (fun _ => none) 0 546) (b + 546) (some (.inr (9, zc_fMo))))) (b + 572) (some (.inl (ar 1, 1, .inr (.inl (fun _ => 0))))) = zm_h b ar zl zc_M1 from hh]
  exact kk
end CF0
