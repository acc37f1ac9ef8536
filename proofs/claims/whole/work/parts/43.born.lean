/-! Construction: Row, Proposer, LogHouse -/
section C43
variable {l : Launch} {D : va_G} {ar : Nat → ClassId} {b : Nat} {Z : State → Prop} {h : zx_H}
theorem zc_cast {G : zx_G} {y : zx_Y} {R : Room} {F : List Frame → Array Value → State → State → Prop} {pc : Nat} {L : zx_L} {st : List Value} {n n' k k' j j' : Nat} (e1 : n = n') (e2 : k = k') (e3 : j = j') (kk : zX G y R F pc L st h n' k' j') : zX G y R F pc L st h n k j := by
  subst e1; subst e2; subst e3; exact kk
theorem zc_start {G : zx_G} {y : zx_Y} {R : Room} {F : List Frame → Array Value → State → State → Prop} {pc : Nat} {L : zx_L} {st : List Value} {n k j ra t N r0 w : Nat} (he : h (b + ra) = some (zc_q ar t N (fun _ => none))) (kk : zX G y R F pc L st (zc_H b ar h ra t N r0 w 0) n k j) : zX G y R F pc L st h n k j := by
  rw [zc_H0 he] at kk
  exact kk
theorem n_RoL {h1 : zx_H} (e0 : h1 (b + 171) = some (.inr (6, [.int 0, .ref (b + 172)]))) (e1 : h1 (b + 172) = some (zc_q ar 8 61 (fun _ => none))) (eo : ∀ a, a < b + 171 ∨ b + 173 ≤ a → h1 a = h a) : zX (zn_G l D ar b Z) y_Ro_init (zc_rm 3 367 2806) (zx_F (zn_G l D ar b Z) 367 2806 (zc_po b ar h 171 368)) 15 [some (.ref (b + 171)), some (.int (nI 0))] [] h1 (b + 173) 1 61 := by
  have z0 : zm_h b ar zl zc_M (b + 171) = some (.inr (6, [.int 0, .ref (b + 172)])) := by rw [zm_at zl_c171]; simp only [zm_cell, zm_fs, zc_Io zl_c171 (by decide) (by decide)]
  refine zc_start (ra := 172) (r0 := 173) (w := 6) e1 ?_
  refine zx_for (X := fun i => zX (zn_G l D ar b Z) y_Ro_init (zc_rm 3 367 2806) (zx_F (zn_G l D ar b Z) 367 2806 (zc_po b ar h 171 368)) 15 [some (.ref (b + 171)), some (.int (nI i))] [] (zc_H b ar h1 172 8 61 173 6 i) (b + (173 + 6 * i)) (1 + 6 * i) (61 + 45 * i)) 61 ?_ ?_ 0 (by decide)
  · refine zx_iload_n (pc2 := 16) d_Ro_init_15 rfl rfl ?_
    refine zx_bipush (pc2 := 18) (v := nI 60) d_Ro_init_16 rfl (by decide) ?_
    refine zx_icmp_gt (pc2 := 21) d_Ro_init_18 rfl (tgt := 40) (by decide) (fun _ => ?_) (fun cz => absurd (nI_lt (by decide) (by decide)) cz)
    refine zc_done (by decide) zl_c172 (fun i hi => rfl) ?_
    refine zx_vret d_Ro_init_40 rfl (⟨rfl, zc_eq (fun i hi => ?_) (fun a ha => ?_), rfl⟩)
    · by_cases c : i = 0
      · subst c
        exact (zc_Alo (by omega) (by omega)).trans (e0.trans z0.symm)
      · exact zc_Ain (by omega)
    · exact (zc_Alo (by omega) (by omega)).trans (eo a (by omega))
  · intro i hi ih
    have hle := zl_le i hi
    refine zx_iload_n (pc2 := 16) d_Ro_init_15 rfl rfl ?_
    refine zx_bipush (pc2 := 18) (v := nI 60) d_Ro_init_16 rfl (by decide) ?_
    refine zx_icmp_gt (pc2 := 21) d_Ro_init_18 rfl (tgt := 40) (by decide) (fun cz => absurd cz (nI_nlt (by omega) (by omega))) (fun _ => ?_)
    refine zx_aload_n (pc2 := 22) d_Ro_init_21 rfl rfl ?_
    refine zx_getf (pc2 := 25) f_Ro_11 d_Ro_init_22 rfl ((zc_Hlo (by omega) (by omega)).trans e0) rfl ?_
    refine zx_iload_n (pc2 := 26) d_Ro_init_25 rfl rfl ?_
    refine zc_new (pc2 := 29) (ci := 7) (ty0 := zn_tLe) d_Ro_init_26 rfl rfl zn_uLe zn_oLe zc_dLe zn_w168 zn_w170 zn_w8 (by omega) (by omega) ?_
    refine zx_dup (pc2 := 30) d_Ro_init_29 rfl rfl ?_
    refine zc_callI (pc2 := 33) s_Ro_17 i_Le_init (n_Le hle (va_up_self _ _ _)) d_Ro_init_30 rfl rfl rfl (Nat.le_of_ble_eq_true rfl) (by decide) (by decide) (by decide) (by omega) (by omega) ?_
    refine zc_store (pc2 := 34) d_Ro_init_33 rfl (by decide) (by decide) rfl (zm_at hle.1) rfl hi (by decide) ?_
    refine zx_inc1 (pc2 := 37) d_Ro_init_34 rfl (zk_1 _) rfl (by decide) ?_
    refine zx_goto (tgt := 15) d_Ro_init_37 (by decide) ?_
    exact zc_cast (by omega) (by omega) (by omega) ih
theorem n_Ro (hf : h (b + 171) = some (.inr (6, [.int 0, .null]))) : zN l D ar b Z y_Ro_init 3 367 2806 [.ref (b + 171)] h 171 368 := by
  refine zc_entry (L := [some (.ref (b + 171)), none]) rfl rfl (Nat.le_of_ble_eq_true rfl) rfl rfl ?_
  refine zx_aload_n (pc2 := 1) d_Ro_init_0 rfl rfl ?_
  refine zx_objInit (pc2 := 4) d_Ro_init_1 rfl zn_w167 zn_w27 zn_w28 (by decide) (Nat.le_of_ble_eq_true rfl) ?_
  refine zx_aload_n (pc2 := 5) d_Ro_init_4 rfl rfl ?_
  refine zx_bipush (pc2 := 7) (v := nI 61) d_Ro_init_5 rfl (by decide) ?_
  refine zc_newq (pc2 := 10) (t0 := 8) (N0 := 61) d_Ro_init_7 rfl zn_w168 zn_aoLe rfl (by decide) rfl (by decide) (by omega) (by omega) ?_
  refine zx_putF (pc2 := 13) p_Ro_11 rfl d_Ro_init_10 rfl ((va_up_ne _ _ (by omega)).trans hf) rfl rfl (Nat.le_of_ble_eq_true rfl) rfl ?_
  refine zx_iconst (pc2 := 14) (v := nI 0) d_Ro_init_13 rfl (by decide) ?_
  refine zx_ist1 (pc2 := 15) d_Ro_init_14 rfl rfl (by decide) ?_
  exact n_RoL (va_up_self _ _ _) ((va_up_ne _ _ (by omega)).trans (va_up_self _ _ _)) (fun a ha => (va_up_ne _ _ (by omega)).trans (va_up_ne _ _ (by omega)))
theorem zc_arI {ra s0 d0 i : Nat} (hd : ¬ d0 = 0) : zm_ar b zc_M ra s0 d0 i = some (b + (s0 + d0 * i)) := by
  unfold zm_ar
  rw [if_neg hd]
theorem n_PrL {r : Nat} {x : Int32} {h1 : zx_H} (hr : zl_Pr r) (hx : zm_I zc_M r 0 = x) (e0 : h1 (b + r) = some (.inr (3, [.int x, .int 0, .int 0, .int 0, .int 0, .ref (b + (r + 1)), .ref (b + (r + 2)), .ref (b + (r + 3))]))) (e1 : h1 (b + (r + 1)) = some (.inl (ar 2, 24, .inl (fun _ => 0)))) (e2 : h1 (b + (r + 2)) = some (zc_q ar 6 7 (fun _ => none))) (e3 : h1 (b + (r + 3)) = some (zc_q ar 7 8 (fun _ => none))) (eo : ∀ a, a < b + r ∨ b + (r + 4) ≤ a → h1 a = h a) :
    zX (zn_G l D ar b Z) y_Pr_init (zc_rm 3 62 363) (zx_F (zn_G l D ar b Z) 62 363 (zc_po b ar h r 63)) 42 [some (.ref (b + r)), some (.int x), some (.int (nI 0))] [] h1 (b + (r + 4)) 3 39 := by
  obtain ⟨r0, r1, r2, r3, rS, rP⟩ := hr
  have z0 : zm_h b ar zl zc_M (b + r) = some (.inr (3, [.int x, .int 0, .int 0, .int 0, .int 0, .ref (b + (r + 1)), .ref (b + (r + 2)), .ref (b + (r + 3))])) := by
    rw [zm_at r0]
    simp only [zm_cell, zm_fs]
    rw [hx, zc_Ip r0, zc_Ip r0, zc_Ip r0, zc_Ip r0]
    rfl
  have z1 : zm_h b ar zl zc_M (b + (r + 1)) = some (.inl (ar 2, 24, .inl (fun _ => 0))) := by rw [zm_at r1, ← zc_Ia r1]; rfl
  refine zc_start (ra := r + 2) (r0 := r + 4) (w := 5) e2 ?_
  refine zx_for (X := fun i => zX (zn_G l D ar b Z) y_Pr_init (zc_rm 3 62 363) (zx_F (zn_G l D ar b Z) 62 363 (zc_po b ar h r 63)) 42 [some (.ref (b + r)), some (.int x), some (.int (nI i))] [] (zc_H b ar h1 (r + 2) 6 7 (r + 4) 5 i) (b + (r + 4 + 5 * i)) (3 + 5 * i) (39 + 36 * i)) 7 ?_ ?_ 0 (by decide)
  · refine zx_iload_n (pc2 := 43) d_Pr_init_42 rfl rfl ?_
    refine zx_bipush (pc2 := 45) (v := nI 7) d_Pr_init_43 rfl (by decide) ?_
    refine zx_icmp_ge (pc2 := 48) d_Pr_init_45 rfl (tgt := 67) (by decide) (fun _ => ?_) (fun cz => absurd (nI_le (Nat.le_refl 7) (by decide)) cz)
    refine zx_iconst (pc2 := 68) (v := nI 0) d_Pr_init_67 rfl (by decide) ?_
    refine zx_ist2 (pc2 := 69) d_Pr_init_68 rfl rfl (by decide) ?_
    refine zc_done (by decide) r2 (fun i hi => zc_arI (by decide)) ?_
    refine zc_start (ra := r + 3) (t := 7) (N := 8) (r0 := r + 39) (w := 3) ((zc_Alo (by omega) (by omega)).trans e3) ?_
    refine zc_cast (n' := b + (r + 39 + 3 * 0)) (k' := 38 + 3 * 0) (j' := 291 + 9 * 0) (by omega) (by omega) (by omega) ?_
    refine zx_for (X := fun i => zX (zn_G l D ar b Z) y_Pr_init (zc_rm 3 62 363) (zx_F (zn_G l D ar b Z) 62 363 (zc_po b ar h r 63)) 69 [some (.ref (b + r)), some (.int x), some (.int (nI i))] [] (zc_H b ar (zc_A b ar h1 (r + 2) (r + 4) (5 * 7)) (r + 3) 7 8 (r + 39) 3 i) (b + (r + 39 + 3 * i)) (38 + 3 * i) (291 + 9 * i)) 8 ?_ ?_ 0 (by decide)
    · refine zx_iload_n (pc2 := 70) d_Pr_init_69 rfl rfl ?_
      refine zx_bipush (pc2 := 72) (v := nI 8) d_Pr_init_70 rfl (by decide) ?_
      refine zx_icmp_ge (pc2 := 75) d_Pr_init_72 rfl (tgt := 94) (by decide) (fun _ => ?_) (fun cz => absurd (nI_le (Nat.le_refl 8) (by decide)) cz)
      refine zc_done (by decide) r3 (fun i hi => zc_arI (by decide)) ?_
      refine zx_vret d_Pr_init_94 rfl (⟨rfl, zc_eq (fun i hi => ?_) (fun a ha => ?_), by omega⟩)
      · by_cases c : 39 ≤ i ∨ i = 3
        · exact zc_Ain (by omega)
        · refine (zc_Alo (by omega) (by omega)).trans ?_
          by_cases c2 : 4 ≤ i ∨ i = 2
          · exact zc_Ain (by omega)
          · refine (zc_Alo (by omega) (by omega)).trans ?_
            by_cases c3 : i = 0
            · subst c3
              exact e0.trans z0.symm
            · obtain rfl : i = 1 := by omega
              exact e1.trans z1.symm
      · exact (zc_Alo (by omega) (by omega)).trans ((zc_Alo (by omega) (by omega)).trans (eo a (by omega)))
    · intro i hi ih
      have hsp := rP i hi
      refine zx_iload_n (pc2 := 70) d_Pr_init_69 rfl rfl ?_
      refine zx_bipush (pc2 := 72) (v := nI 8) d_Pr_init_70 rfl (by decide) ?_
      refine zx_icmp_ge (pc2 := 75) d_Pr_init_72 rfl (tgt := 94) (by decide) (fun cz => absurd cz (nI_ge hi (by decide))) (fun _ => ?_)
      refine zx_aload_n (pc2 := 76) d_Pr_init_75 rfl rfl ?_
      refine zx_getf (pc2 := 79) f_Pr_27 d_Pr_init_76 rfl ((zc_Hlo (by omega) (by omega)).trans ((zc_Alo (by omega) (by omega)).trans e0)) rfl ?_
      refine zx_iload_n (pc2 := 80) d_Pr_init_79 rfl rfl ?_
      refine zc_new (pc2 := 83) (ci := 4) (ty0 := zn_tSp) d_Pr_init_80 rfl rfl zn_uSp zn_oSp zc_dSp zn_w90 zn_w93 zn_w5 (by omega) (by omega) ?_
      refine zx_dup (pc2 := 84) d_Pr_init_83 rfl rfl ?_
      refine zc_callI (pc2 := 87) s_Pr_35 i_Sp_init (n_Sp hsp (va_up_self _ _ _)) d_Pr_init_84 rfl rfl rfl (Nat.le_of_ble_eq_true rfl) (by decide) (by decide) (by decide) (by omega) (by omega) ?_
      refine zc_store (pc2 := 88) d_Pr_init_87 rfl (by omega) (by decide) rfl (zm_at hsp.1) rfl hi (by decide) ?_
      refine zx_inc2 (pc2 := 91) d_Pr_init_88 rfl (zk_1 _) rfl (by decide) ?_
      refine zx_goto (tgt := 69) d_Pr_init_91 (by decide) ?_
      exact zc_cast (by omega) (by omega) (by omega) ih
  · intro i hi ih
    have hsh := rS i hi
    refine zx_iload_n (pc2 := 43) d_Pr_init_42 rfl rfl ?_
    refine zx_bipush (pc2 := 45) (v := nI 7) d_Pr_init_43 rfl (by decide) ?_
    refine zx_icmp_ge (pc2 := 48) d_Pr_init_45 rfl (tgt := 67) (by decide) (fun cz => absurd cz (nI_ge hi (by decide))) (fun _ => ?_)
    refine zx_aload_n (pc2 := 49) d_Pr_init_48 rfl rfl ?_
    refine zx_getf (pc2 := 52) f_Pr_21 d_Pr_init_49 rfl ((zc_Hlo (by omega) (by omega)).trans e0) rfl ?_
    refine zx_iload_n (pc2 := 53) d_Pr_init_52 rfl rfl ?_
    refine zc_new (pc2 := 56) (ci := 2) (ty0 := zn_tSh) d_Pr_init_53 rfl rfl zn_uSh zn_oSh zc_dSh zn_w88 zn_w37 zn_w3 (by omega) (by omega) ?_
    refine zx_dup (pc2 := 57) d_Pr_init_56 rfl rfl ?_
    refine zc_callI (pc2 := 60) s_Pr_34 i_Sh_init (n_Sh hsh (va_up_self _ _ _)) d_Pr_init_57 rfl rfl rfl (Nat.le_of_ble_eq_true rfl) (by decide) (by decide) (by decide) (by omega) (by omega) ?_
    refine zc_store (pc2 := 61) d_Pr_init_60 rfl (by omega) (by decide) rfl (zm_at hsh.1) rfl hi (by decide) ?_
    refine zx_inc2 (pc2 := 64) d_Pr_init_61 rfl (zk_1 _) rfl (by decide) ?_
    refine zx_goto (tgt := 42) d_Pr_init_64 (by decide) ?_
    exact zc_cast (by omega) (by omega) (by omega) ih
theorem n_Pr {r : Nat} {x : Int32} (hr : zl_Pr r) (hx : zm_I zc_M r 0 = x) (hf : h (b + r) = some (.inr (3, [.int 0, .int 0, .int 0, .int 0, .int 0, .null, .null, .null]))) : zN l D ar b Z y_Pr_init 3 62 363 [.ref (b + r), .int x] h r 63 := by
  refine zc_entry (L := [some (.ref (b + r)), some (.int x), none]) rfl rfl (Nat.le_of_ble_eq_true rfl) rfl rfl ?_
  refine zx_aload_n (pc2 := 1) d_Pr_init_0 rfl rfl ?_
  refine zx_objInit (pc2 := 4) d_Pr_init_1 rfl zn_w87 zn_w27 zn_w28 (by decide) (Nat.le_of_ble_eq_true rfl) ?_
  refine zx_aload_n (pc2 := 5) d_Pr_init_4 rfl rfl ?_
  refine zx_iconst (pc2 := 6) (v := nI 0) d_Pr_init_5 rfl (by decide) ?_
  refine zx_putf (pc2 := 9) p_Pr_9 d_Pr_init_6 rfl (hf) rfl rfl (Nat.le_of_ble_eq_true rfl) rfl ?_
  refine zx_aload_n (pc2 := 10) d_Pr_init_9 rfl rfl ?_
  refine zx_bipush (pc2 := 12) (v := nI 24) d_Pr_init_10 rfl (by decide) ?_
  refine zc_newa (pc2 := 14) (t0 := 2) (N0 := 24) (a0 := (24, .inl (fun _ => 0))) d_Pr_init_12 rfl zn_w113 rfl rfl (fun _ hz => by cases hz) (fun _ => rfl) (by decide) rfl (by decide) (Nat.le_of_ble_eq_true rfl) (Nat.le_of_ble_eq_true rfl) ?_
  refine zx_putF (pc2 := 17) p_Pr_15 rfl d_Pr_init_14 rfl ((va_up_ne _ _ (by omega)).trans (va_up_self _ _ _)) rfl rfl (Nat.le_of_ble_eq_true rfl) rfl ?_
  refine zx_aload_n (pc2 := 18) d_Pr_init_17 rfl rfl ?_
  refine zx_bipush (pc2 := 20) (v := nI 7) d_Pr_init_18 rfl (by decide) ?_
  refine zc_newq (pc2 := 23) (t0 := 6) (N0 := 7) d_Pr_init_20 rfl zn_w88 zn_aoSh rfl (by decide) rfl (by decide) (by omega) (by omega) ?_
  refine zx_putF (pc2 := 26) p_Pr_21 rfl d_Pr_init_23 rfl ((va_up_ne _ _ (by omega)).trans (va_up_self _ _ _)) rfl rfl (Nat.le_of_ble_eq_true rfl) rfl ?_
  refine zx_aload_n (pc2 := 27) d_Pr_init_26 rfl rfl ?_
  refine zx_bipush (pc2 := 29) (v := nI 8) d_Pr_init_27 rfl (by decide) ?_
  refine zc_newq (pc2 := 32) (t0 := 7) (N0 := 8) d_Pr_init_29 rfl zn_w90 zn_aoSp rfl (by decide) rfl (by decide) (by omega) (by omega) ?_
  refine zx_putF (pc2 := 35) p_Pr_27 rfl d_Pr_init_32 rfl ((va_up_ne _ _ (by omega)).trans (va_up_self _ _ _)) rfl rfl (Nat.le_of_ble_eq_true rfl) rfl ?_
  refine zx_aload_n (pc2 := 36) d_Pr_init_35 rfl rfl ?_
  refine zx_iload_n (pc2 := 37) d_Pr_init_36 rfl rfl ?_
  refine zx_putF (pc2 := 40) p_Pr_31 rfl d_Pr_init_37 rfl (va_up_self _ _ _) rfl rfl (Nat.le_of_ble_eq_true rfl) rfl ?_
  refine zx_iconst (pc2 := 41) (v := nI 0) d_Pr_init_40 rfl (by decide) ?_
  refine zx_ist2 (pc2 := 42) d_Pr_init_41 rfl rfl (by decide) ?_
  refine n_PrL hr hx (va_up_self _ _ _) ?_ ?_ ?_ (fun a ha => ?_)
  · simp only [va_up]; rw [if_neg (by omega), if_neg (by omega), if_neg (by omega), if_neg (by omega), if_neg (by omega), if_neg (by omega), if_pos (by first | omega | trivial)]
  · simp only [va_up]; rw [if_neg (by omega), if_neg (by omega), if_neg (by omega), if_neg (by omega), if_pos (by first | omega | trivial)]
  · simp only [va_up]; rw [if_neg (by omega), if_neg (by omega), if_pos (by first | omega | trivial)]
  · simp only [va_up]; rw [if_neg (by omega), if_neg (by omega), if_neg (by omega), if_neg (by omega), if_neg (by omega), if_neg (by omega), if_neg (by omega), if_neg (by omega)]
theorem n_HoE {h3 : zx_H} (e0 : h3 (b + 0) = some (.inr (0, [.ref (b + 1), .ref (b + 44), .null, .null, .null, .null]))) (e1 : ∀ i, 1 ≤ i → i < 171 → h3 (b + i) = zm_h b ar zl zc_M (b + i)) (eo : ∀ a, a < b + 0 ∨ b + 171 ≤ a → h3 a = h a) :
    zX (zn_G l D ar b Z) y_Ho_init (zc_rm 4 545 3860) (zx_F (zn_G l D ar b Z) 545 3860 (zc_po b ar h 0 546)) 75 [some (.ref (b + 0)), some (.int (nI 2))] [] h3 (b + 171) 170 1031 := by
  have z0 : zm_h b ar zl zc_M (b + 0) = some (.inr (0, [.ref (b + 1), .ref (b + 44), .ref (b + 171), .ref (b + 539), .ref (b + 542), .ref (b + 544)])) := zm_at zl_c0
  refine zx_aload_n (pc2 := 76) d_Ho_init_75 rfl rfl ?_
  refine zc_new (pc2 := 79) (ci := 6) (ty0 := zn_tRo) d_Ho_init_76 rfl rfl zn_uRo zn_oRo zc_dRo zn_w162 zn_w163 zn_w7 (by omega) (by omega) ?_
  refine zx_dup (pc2 := 80) d_Ho_init_79 rfl rfl ?_
  refine zc_callI (pc2 := 83) s_Ho_27 i_Ro_init (n_Ro (va_up_self _ _ _)) d_Ho_init_80 rfl rfl rfl (Nat.le_of_ble_eq_true rfl) (by decide) (by decide) (by decide) (by omega) (by omega) ?_
  refine zx_putF (pc2 := 86) p_Ho_28 rfl d_Ho_init_83 rfl ((zc_out (by omega)).trans e0) rfl rfl (Nat.le_of_ble_eq_true rfl) rfl ?_
  refine zx_aload_n (pc2 := 87) d_Ho_init_86 rfl rfl ?_
  refine zc_new (pc2 := 90) (ci := 8) (ty0 := zn_tGa) d_Ho_init_87 rfl rfl zn_uGa zn_oGa zc_dGa zn_w228 zn_w229 zn_w9 (by omega) (by omega) ?_
  refine zx_dup (pc2 := 91) d_Ho_init_90 rfl rfl ?_
  refine zc_callI (pc2 := 94) s_Ho_34 i_Ga_init (n_Ga zl_c539 zl_c540 zl_c541 (va_up_self _ _ _)) d_Ho_init_91 rfl rfl rfl (Nat.le_of_ble_eq_true rfl) (by decide) (by decide) (by decide) (by omega) (by omega) ?_
  refine zx_putF (pc2 := 97) p_Ho_35 rfl d_Ho_init_94 rfl ((zc_out (by omega)).trans (va_up_self _ _ _)) rfl rfl (Nat.le_of_ble_eq_true rfl) rfl ?_
  refine zx_aload_n (pc2 := 98) d_Ho_init_97 rfl rfl ?_
  refine zc_new (pc2 := 101) (ci := 5) (ty0 := zn_tRe) d_Ho_init_98 rfl rfl zn_uRe zn_oRe zc_dRe zn_w251 zn_w99 zn_w6 (by omega) (by omega) ?_
  refine zx_dup (pc2 := 102) d_Ho_init_101 rfl rfl ?_
  refine zc_callI (pc2 := 105) s_Ho_41 i_Re_init (n_Re zl_rb (va_up_self _ _ _)) d_Ho_init_102 rfl rfl rfl (Nat.le_of_ble_eq_true rfl) (by decide) (by decide) (by decide) (by omega) (by omega) ?_
  refine zx_putF (pc2 := 108) p_Ho_42 rfl d_Ho_init_105 rfl ((zc_out (by omega)).trans (va_up_self _ _ _)) rfl rfl (Nat.le_of_ble_eq_true rfl) rfl ?_
  refine zx_aload_n (pc2 := 109) d_Ho_init_108 rfl rfl ?_
  refine zc_new (pc2 := 112) (ci := 5) (ty0 := zn_tRe) d_Ho_init_109 rfl rfl zn_uRe zn_oRe zc_dRe zn_w251 zn_w99 zn_w6 (by omega) (by omega) ?_
  refine zx_dup (pc2 := 113) d_Ho_init_112 rfl rfl ?_
  refine zc_callI (pc2 := 116) s_Ho_41 i_Re_init (n_Re zl_lr (va_up_self _ _ _)) d_Ho_init_113 rfl rfl rfl (Nat.le_of_ble_eq_true rfl) (by decide) (by decide) (by decide) (by omega) (by omega) ?_
  refine zx_putF (pc2 := 119) p_Ho_46 rfl d_Ho_init_116 rfl ((zc_out (by omega)).trans (va_up_self _ _ _)) rfl rfl (Nat.le_of_ble_eq_true rfl) rfl ?_
  refine zx_vret d_Ho_init_119 rfl (⟨rfl, zc_eq (fun i hi => ?_) (fun a ha => ?_), rfl⟩)
  · by_cases c : i = 0
    · subst c
      exact (va_up_self _ _ _).trans z0.symm
    · refine (va_up_ne _ _ (by omega)).trans ?_
      by_cases c1 : 544 ≤ i
      · exact zc_in (by omega)
      · refine (zc_out (by omega)).trans ((va_up_ne _ _ (by omega)).trans ?_)
        by_cases c2 : 542 ≤ i
        · exact zc_in (by omega)
        · refine (zc_out (by omega)).trans ((va_up_ne _ _ (by omega)).trans ?_)
          by_cases c3 : 539 ≤ i
          · exact zc_in (by omega)
          · refine (zc_out (by omega)).trans ((va_up_ne _ _ (by omega)).trans ?_)
            by_cases c4 : 171 ≤ i
            · exact zc_in (by omega)
            · refine (zc_out (by omega)).trans ?_
              rw [show 0 + i = i by omega]
              exact e1 i (by omega) (by omega)
  · exact (va_up_ne _ _ (by omega)).trans ((zc_out (by omega)).trans ((va_up_ne _ _ (by omega)).trans ((zc_out (by omega)).trans ((va_up_ne _ _ (by omega)).trans ((zc_out (by omega)).trans ((va_up_ne _ _ (by omega)).trans ((zc_out (by omega)).trans (eo a (by omega)))))))))
theorem n_HoP {h2 : zx_H} (e0 : h2 (b + 0) = some (.inr (0, [.ref (b + 1), .ref (b + 44), .null, .null, .null, .null]))) (e1 : ∀ i, 1 ≤ i → i < 44 → h2 (b + i) = zm_h b ar zl zc_M (b + i)) (e2 : h2 (b + 44) = some (zc_q ar 5 2 (fun _ => none))) (eo : ∀ a, a < b + 0 ∨ b + 45 ≤ a → h2 a = h a) :
    zX (zn_G l D ar b Z) y_Ho_init (zc_rm 4 545 3860) (zx_F (zn_G l D ar b Z) 545 3860 (zc_po b ar h 0 546)) 50 [some (.ref (b + 0)), some (.int (nI 0))] [] h2 (b + 45) 44 289 := by
  refine zc_start (ra := 44) (r0 := 45) (w := 63) e2 ?_
  refine zx_for (X := fun i => zX (zn_G l D ar b Z) y_Ho_init (zc_rm 4 545 3860) (zx_F (zn_G l D ar b Z) 545 3860 (zc_po b ar h 0 546)) 50 [some (.ref (b + 0)), some (.int (nI i))] [] (zc_H b ar h2 44 5 2 45 63 i) (b + (45 + 63 * i)) (44 + 63 * i) (289 + 371 * i)) 2 ?_ ?_ 0 (by decide)
  · refine zx_iload_n (pc2 := 51) d_Ho_init_50 rfl rfl ?_
    refine zx_iconst (pc2 := 52) (v := nI 2) d_Ho_init_51 rfl (by decide) ?_
    refine zx_icmp_ge (pc2 := 55) d_Ho_init_52 rfl (tgt := 75) (by decide) (fun _ => ?_) (fun cz => absurd (nI_le (Nat.le_refl 2) (by decide)) cz)
    refine zc_done (by decide) zl_c44 (fun i hi => zc_arI (by decide)) ?_
    refine n_HoE ((zc_Alo (by omega) (by omega)).trans e0) (fun i h1 h2 => ?_) (fun a ha => (zc_Alo (by omega) (by omega)).trans (eo a (by omega)))
    by_cases c : 44 ≤ i
    · exact zc_Ain (by omega)
    · exact (zc_Alo (by omega) (by omega)).trans (e1 i h1 (by omega))
  · intro i hi ih
    have hpr := zl_pr i hi
    have hx : zm_I zc_M (45 + 63 * i) 0 = nI i := by
      rw [zc_Ip hpr.1]
      match i, hi with
      | 0, _ => rfl
      | 1, _ => rfl
    refine zx_iload_n (pc2 := 51) d_Ho_init_50 rfl rfl ?_
    refine zx_iconst (pc2 := 52) (v := nI 2) d_Ho_init_51 rfl (by decide) ?_
    refine zx_icmp_ge (pc2 := 55) d_Ho_init_52 rfl (tgt := 75) (by decide) (fun cz => absurd cz (nI_ge hi (by decide))) (fun _ => ?_)
    refine zx_aload_n (pc2 := 56) d_Ho_init_55 rfl rfl ?_
    refine zx_getf (pc2 := 59) f_Ho_18 d_Ho_init_56 rfl ((zc_Hlo (by omega) (by omega)).trans e0) rfl ?_
    refine zx_iload_n (pc2 := 60) d_Ho_init_59 rfl rfl ?_
    refine zc_new (pc2 := 63) (ci := 3) (ty0 := zn_tPr) d_Ho_init_60 rfl rfl zn_uPr zn_oPr zc_dPr zn_w81 zn_w83 zn_w4 (by omega) (by omega) ?_
    refine zx_dup (pc2 := 64) d_Ho_init_63 rfl rfl ?_
    refine zx_iload_n (pc2 := 65) d_Ho_init_64 rfl rfl ?_
    refine zc_callI (pc2 := 68) s_Ho_22 i_Pr_init (n_Pr hpr hx (va_up_self _ _ _)) d_Ho_init_65 rfl rfl rfl (Nat.le_of_ble_eq_true rfl) (by decide) (by decide) (by decide) (by omega) (by omega) ?_
    refine zc_store (pc2 := 69) d_Ho_init_68 rfl (by omega) (by decide) rfl (zm_at hpr.1) rfl hi (by decide) ?_
    refine zx_inc1 (pc2 := 72) d_Ho_init_69 rfl (zk_1 _) rfl (by decide) ?_
    refine zx_goto (tgt := 50) d_Ho_init_72 (by decide) ?_
    exact zc_cast (by omega) (by omega) (by omega) ih
theorem n_HoS {h1 : zx_H} (e0 : h1 (b + 0) = some (.inr (0, [.ref (b + 1), .null, .null, .null, .null, .null]))) (e1 : h1 (b + 1) = some (zc_q ar 4 7 (fun _ => none))) (eo : ∀ a, a < b + 0 ∨ b + 2 ≤ a → h1 a = h a) :
    zX (zn_G l D ar b Z) y_Ho_init (zc_rm 4 545 3860) (zx_F (zn_G l D ar b Z) 545 3860 (zc_po b ar h 0 546)) 15 [some (.ref (b + 0)), some (.int (nI 0))] [] h1 (b + 2) 1 7 := by
  refine zc_start (ra := 1) (r0 := 2) (w := 6) e1 ?_
  refine zx_for (X := fun i => zX (zn_G l D ar b Z) y_Ho_init (zc_rm 4 545 3860) (zx_F (zn_G l D ar b Z) 545 3860 (zc_po b ar h 0 546)) 15 [some (.ref (b + 0)), some (.int (nI i))] [] (zc_H b ar h1 1 4 7 2 6 i) (b + (2 + 6 * i)) (1 + 6 * i) (7 + 40 * i)) 7 ?_ ?_ 0 (by decide)
  · refine zx_iload_n (pc2 := 16) d_Ho_init_15 rfl rfl ?_
    refine zx_bipush (pc2 := 18) (v := nI 7) d_Ho_init_16 rfl (by decide) ?_
    refine zx_icmp_ge (pc2 := 21) d_Ho_init_18 rfl (tgt := 40) (by decide) (fun _ => ?_) (fun cz => absurd (nI_le (Nat.le_refl 7) (by decide)) cz)
    refine zc_done (by decide) zl_c1 (fun i hi => zc_arI (by decide)) ?_
    refine zx_aload_n (pc2 := 41) d_Ho_init_40 rfl rfl ?_
    refine zx_iconst (pc2 := 42) (v := nI 2) d_Ho_init_41 rfl (by decide) ?_
    refine zc_newq (pc2 := 45) (t0 := 5) (N0 := 2) d_Ho_init_42 rfl zn_w81 zn_aoPr rfl (by decide) rfl (by decide) (by omega) (by omega) ?_
    refine zx_putF (pc2 := 48) p_Ho_18 rfl d_Ho_init_45 rfl ((va_up_ne _ _ (by omega)).trans ((zc_Alo (by omega) (by omega)).trans e0)) rfl rfl (Nat.le_of_ble_eq_true rfl) rfl ?_
    refine zx_iconst (pc2 := 49) (v := nI 0) d_Ho_init_48 rfl (by decide) ?_
    refine zx_ist1 (pc2 := 50) d_Ho_init_49 rfl rfl (by decide) ?_
    refine n_HoP (va_up_self _ _ _) (fun i h1 h2 => ?_) ((va_up_ne _ _ (by omega)).trans (va_up_self _ _ _)) (fun a ha => (va_up_ne _ _ (by omega)).trans ((va_up_ne _ _ (by omega)).trans ((zc_Alo (by omega) (by omega)).trans (eo a (by omega)))))
    exact (va_up_ne _ _ (by omega)).trans ((va_up_ne _ _ (by omega)).trans (zc_Ain (by omega)))
  · intro i hi ih
    have hst := zl_st i hi
    refine zx_iload_n (pc2 := 16) d_Ho_init_15 rfl rfl ?_
    refine zx_bipush (pc2 := 18) (v := nI 7) d_Ho_init_16 rfl (by decide) ?_
    refine zx_icmp_ge (pc2 := 21) d_Ho_init_18 rfl (tgt := 40) (by decide) (fun cz => absurd cz (nI_ge hi (by decide))) (fun _ => ?_)
    refine zx_aload_n (pc2 := 22) d_Ho_init_21 rfl rfl ?_
    refine zx_getf (pc2 := 25) f_Ho_11 d_Ho_init_22 rfl ((zc_Hlo (by omega) (by omega)).trans e0) rfl ?_
    refine zx_iload_n (pc2 := 26) d_Ho_init_25 rfl rfl ?_
    refine zc_new (pc2 := 29) (ci := 1) (ty0 := zn_tSt) d_Ho_init_26 rfl rfl zn_uSt zn_oSt zc_dSt zn_w29 zn_w31 zn_w2 (by omega) (by omega) ?_
    refine zx_dup (pc2 := 30) d_Ho_init_29 rfl rfl ?_
    refine zc_callI (pc2 := 33) s_Ho_15 i_St_init (n_St hst (zl_stS i hi) (va_up_self _ _ _)) d_Ho_init_30 rfl rfl rfl (Nat.le_of_ble_eq_true rfl) (by decide) (by decide) (by decide) (by omega) (by omega) ?_
    refine zc_store (pc2 := 34) d_Ho_init_33 rfl (by omega) (by decide) rfl (zm_at hst) rfl hi (by decide) ?_
    refine zx_inc1 (pc2 := 37) d_Ho_init_34 rfl (zk_1 _) rfl (by decide) ?_
    refine zx_goto (tgt := 15) d_Ho_init_37 (by decide) ?_
    exact zc_cast (by omega) (by omega) (by omega) ih
/-- new LogHouse(): the memory is born -/
theorem n_Ho (hf : h (b + 0) = some (.inr (0, [.null, .null, .null, .null, .null, .null]))) : zN l D ar b Z y_Ho_init 4 545 3860 [.ref (b + 0)] h 0 546 := by
  refine zc_entry (L := [some (.ref (b + 0)), none]) rfl rfl (Nat.le_of_ble_eq_true rfl) rfl rfl ?_
  refine zx_aload_n (pc2 := 1) d_Ho_init_0 rfl rfl ?_
  refine zx_objInit (pc2 := 4) d_Ho_init_1 rfl zn_w26 zn_w27 zn_w28 (by decide) (Nat.le_of_ble_eq_true rfl) ?_
  refine zx_aload_n (pc2 := 5) d_Ho_init_4 rfl rfl ?_
  refine zx_bipush (pc2 := 7) (v := nI 7) d_Ho_init_5 rfl (by decide) ?_
  refine zc_newq (pc2 := 10) (t0 := 4) (N0 := 7) d_Ho_init_7 rfl zn_w29 zn_aoSt rfl (by decide) rfl (by decide) (by omega) (by omega) ?_
  refine zx_putF (pc2 := 13) p_Ho_11 rfl d_Ho_init_10 rfl ((va_up_ne _ _ (by omega)).trans hf) rfl rfl (Nat.le_of_ble_eq_true rfl) rfl ?_
  refine zx_iconst (pc2 := 14) (v := nI 0) d_Ho_init_13 rfl (by decide) ?_
  refine zx_ist1 (pc2 := 15) d_Ho_init_14 rfl rfl (by decide) ?_
  exact n_HoS (va_up_self _ _ _) ((va_up_ne _ _ (by omega)).trans (va_up_self _ _ _)) (fun a ha => (va_up_ne _ _ (by omega)).trans (va_up_ne _ _ (by omega)))
end C43
