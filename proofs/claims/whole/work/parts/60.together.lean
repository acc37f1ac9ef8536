/-! LogHouseModel: together, three stations that have shares -/
def gs_P (t0 t1 t2 v0 v1 v2 : Nat) : Nat → Nat := fun k => if k = 0 then gs_p0 t0 t1 t2 v0 v1 v2 else if k = 1 then gs_p1 t0 t1 t2 v0 v1 v2 else gs_p2 t0 t1 t2 v0 v1 v2
def gm_tk (W : zm_M) (m len i : Nat) (P : Nat → Nat) : Nat → zm_M
  | 0 => W
  | k + 1 => if m * k + i < len then zm_wI (gm_tk W m len i P k) 567 (m * k + i) (nI (P k)) else gm_tk W m len i P k
theorem gm_tk_n {W : zm_M} {m len i r x : Nat} {P : Nat → Nat} (h : r ≠ 567) : ∀ k, zm_I (gm_tk W m len i P k) r x = zm_I W r x
  | 0 => rfl
  | k + 1 => by
    unfold gm_tk
    split
    · rw [zm_In (Or.inl h), gm_tk_n h k]
    · exact gm_tk_n h k
theorem gm_sv_v {M : zm_M} {t0 t1 t2 v0 v1 v2 : Nat} : ∀ k, k < 3 → zm_I (gm_sv M (gs_p0 t0 t1 t2 v0 v1 v2) (gs_p1 t0 t1 t2 v0 v1 v2) (gs_p2 t0 t1 t2 v0 v1 v2)) 568 k = nI (gs_P t0 t1 t2 v0 v1 v2 k)
  | 0, _ => rfl
  | 1, _ => rfl
  | 2, _ => rfl
  | k + 3, h => absurd h (by omega)
def gm_tg (M : zm_M) (t0 t1 t2 : Nat) (V0 V1 V2 : Nat → Nat) (len : Nat) : Nat → zm_M
  | 0 => M
  | i + 1 => gm_tk (gm_sv (gm_tg M t0 t1 t2 V0 V1 V2 len i) (gs_p0 t0 t1 t2 (V0 i) (V1 i) (V2 i)) (gs_p1 t0 t1 t2 (V0 i) (V1 i) (V2 i)) (gs_p2 t0 t1 t2 (V0 i) (V1 i) (V2 i))) ((len + 2) / 3) len i (gs_P t0 t1 t2 (V0 i) (V1 i) (V2 i)) 3
theorem gm_tg_n {M : zm_M} {t0 t1 t2 len r x : Nat} {V0 V1 V2 : Nat → Nat} (h : r ≠ 567) (h8 : r ≠ 568) : ∀ i, zm_I (gm_tg M t0 t1 t2 V0 V1 V2 len i) r x = zm_I M r x
  | 0 => rfl
  | i + 1 => by
    unfold gm_tg
    rw [gm_tk_n h, gm_sv_n h8, gm_tg_n h h8 i]
abbrev gs_cand (M : zm_M) (but : Int32) (pl : Nat) (id : Int32) (s : Nat) : Prop := nI s ≠ but ∧ zm_I M 548 s = 0 ∧ ¬ zm_I M 550 (88 * s + 11 * pl + 2) ≤ 0 ∧ zm_I M 550 (88 * s + 11 * pl + 1) = id
def gm_ft (M : zm_M) (but : Int32) (pl : Nat) (id : Int32) : Nat → zm_M × Nat
  | 0 => (M, 0)
  | s + 1 => if (gm_ft M but pl id s).2 < 3 ∧ gs_cand M but pl id s then (zm_wI (gm_ft M but pl id s).1 566 (gm_ft M but pl id s).2 (nI s), (gm_ft M but pl id s).2 + 1) else gm_ft M but pl id s
theorem gm_ft_inv {M : zm_M} {but id : Int32} {pl : Nat} : ∀ s, (gm_ft M but pl id s).2 ≤ 3 ∧ (∀ r x, r ≠ 566 → zm_I (gm_ft M but pl id s).1 r x = zm_I M r x) ∧ ∀ j, j < (gm_ft M but pl id s).2 → ∃ t, t < s ∧ zm_I (gm_ft M but pl id s).1 566 j = nI t ∧ gs_cand M but pl id t
  | 0 => ⟨Nat.zero_le 3, fun _ _ _ => rfl, fun j hj => absurd hj (Nat.not_lt_zero j)⟩
  | s + 1 => by
    obtain ⟨i1, i2, i3⟩ := gm_ft_inv (M := M) (but := but) (id := id) (pl := pl) s
    unfold gm_ft
    by_cases c : (gm_ft M but pl id s).2 < 3 ∧ gs_cand M but pl id s
    · rw [if_pos c]
      refine ⟨by show _ + 1 ≤ 3; omega, fun r x h => (zm_In (Or.inl h)).trans (i2 r x h), fun j hj => ?_⟩
      by_cases e : j = (gm_ft M but pl id s).2
      · subst e
        exact ⟨s, by omega, zm_Is, c.2⟩
      · have hj' : j < (gm_ft M but pl id s).2 + 1 := hj
        obtain ⟨t, q1, q2, q3⟩ := i3 j (by omega)
        exact ⟨t, by omega, (zm_In (Or.inr e)).trans q2, q3⟩
    · rw [if_neg c]
      refine ⟨i1, i2, fun j hj => ?_⟩
      obtain ⟨t, q1, q2, q3⟩ := i3 j hj
      exact ⟨t, by omega, q2, q3⟩
theorem gm_ft_full {M : zm_M} {but id : Int32} {pl s : Nat} (h : ¬ (gm_ft M but pl id s).2 < 3) : ∀ d, gm_ft M but pl id (s + d) = gm_ft M but pl id s
  | 0 => rfl
  | d + 1 => by
    have ih := gm_ft_full h d
    show gm_ft M but pl id (s + d + 1) = _
    unfold gm_ft
    rw [ih, if_neg (fun z => h z.1)]
    cases s <;> rfl
section C60
variable {l : Launch} {D : va_G} {ar : Nat → ClassId} {b : Nat} {Z : State → Prop} {M : zm_M} {n : Nat}
theorem c_Mo_together {ra N a0 a1 a2 len t0 t1 t2 : Nat} {V0 V1 V2 : Nat → Nat} (hT : gt_ok M) (hl : zl ra = some (.inl (0, N, 0, 0))) (hra : ra ≠ 567) (hra8 : ra ≠ 568) (hN : N < 2000) (b0 : a0 + 11 ≤ N) (b1 : a1 + 11 ≤ N) (b2 : a2 + 11 ≤ N) (hln : zm_I M ra (a0 + 2) = nI len) (hlen : len ≤ 24)
    (hV0 : ∀ i, i < (len + 2) / 3 → zm_I M ra (a0 + 3 + i) = nI (V0 i) ∧ V0 i < 256) (hV1 : ∀ i, i < (len + 2) / 3 → zm_I M ra (a1 + 3 + i) = nI (V1 i) ∧ V1 i < 256) (hV2 : ∀ i, i < (len + 2) / 3 → zm_I M ra (a2 + 3 + i) = nI (V2 i) ∧ V2 i < 256)
    (h0 : zm_I M 566 0 = nI t0) (h1 : zm_I M 566 1 = nI t1) (h2 : zm_I M 566 2 = nI t2) (l0 : t0 < 7) (l1 : t1 < 7) (l2 : t2 < 7) (n01 : t0 ≠ t1) (n12 : t1 ≠ t2) (n20 : t2 ≠ t0) : zK l D ar b Z y_Mo_together 3 [.ref (b + 546), .ref (b + ra), .int (nI a0), .int (nI a1), .int (nI a2)] M n (some (.int (nI len))) (gm_tg M t0 t1 t2 V0 V1 V2 len ((len + 2) / 3)) := by
  have h3 := c_Mo_third (l := l) (D := D) (ar := ar) (b := b) (Z := Z) (M := M) (n := n) (x := nI len)
  rw [gs_third_nI (by omega)] at h3
  refine zk_entry (L := [some (.ref (b + 546)), some (.ref (b + ra)), some (.int (nI a0)), some (.int (nI a1)), some (.int (nI a2)), none, none, none, none]) rfl rfl (Nat.le_of_ble_eq_true rfl) rfl rfl ?_
  refine zx_aload_n (pc2 := 1) d_Mo_together_0 rfl rfl ?_
  refine zx_iload_n (pc2 := 2) d_Mo_together_1 rfl rfl ?_
  refine zx_iconst (pc2 := 3) (v := nI 2) d_Mo_together_2 rfl (by decide) ?_
  first | refine zx_iaddN (pc2 := 4) d_Mo_together_3 rfl ?_ | refine zx_iadd (pc2 := 4) d_Mo_together_3 rfl ?_
  refine zk_ialdV (pc2 := 5) d_Mo_together_4 rfl hl rfl (by omega) (by omega) hln ?_
  refine zx_ist5 (pc2 := 7) d_Mo_together_5 rfl rfl (by decide) ?_
  refine zx_iload (pc2 := 9) d_Mo_together_7 rfl rfl ?_
  refine zk_callS (pc2 := 12) s_Mo_100 t_Mo_third (h3) d_Mo_together_9 rfl rfl rfl (Nat.le_of_ble_eq_true rfl) (by decide) (by decide) ?_
  refine zx_ist6 (pc2 := 14) d_Mo_together_12 rfl rfl (by decide) ?_
  refine zx_iconst (pc2 := 15) (v := nI 0) d_Mo_together_14 rfl (by decide) ?_
  refine zx_ist7 (pc2 := 17) d_Mo_together_15 rfl rfl (by decide) ?_
  have key : ∀ i, i ≤ (len + 2) / 3 → ∀ z8 : Option Value, zk_X l D ar b Z y_Mo_together 3 (some (.int (nI len))) (gm_tg M t0 t1 t2 V0 V1 V2 len ((len + 2) / 3)) n 17 [some (.ref (b + 546)), some (.ref (b + ra)), some (.int (nI a0)), some (.int (nI a1)), some (.int (nI a2)), some (.int (nI len)), some (.int (nI ((len + 2) / 3))), some (.int (nI i)), z8] [] (gm_tg M t0 t1 t2 V0 V1 V2 len i) := by
    refine zx_for (X := fun i => ∀ z8 : Option Value, zk_X l D ar b Z y_Mo_together 3 (some (.int (nI len))) (gm_tg M t0 t1 t2 V0 V1 V2 len ((len + 2) / 3)) n 17 [some (.ref (b + 546)), some (.ref (b + ra)), some (.int (nI a0)), some (.int (nI a1)), some (.int (nI a2)), some (.int (nI len)), some (.int (nI ((len + 2) / 3))), some (.int (nI i)), z8] [] (gm_tg M t0 t1 t2 V0 V1 V2 len i)) ((len + 2) / 3) ?_ ?_
    · intro z8
      refine zx_iload (pc2 := 19) d_Mo_together_17 rfl rfl ?_
      refine zx_iload (pc2 := 21) d_Mo_together_19 rfl rfl ?_
      refine zx_icmp_ge (pc2 := 24) d_Mo_together_21 rfl (tgt := 107) (by decide) (fun _ => ?_) (fun cz => absurd (nI_le (Nat.le_refl _) (by omega)) cz)
      refine zx_iload (pc2 := 109) d_Mo_together_107 rfl rfl ?_
      exact zx_iret d_Mo_together_109 rfl (⟨rfl, rfl, rfl⟩)
    · intro i hi ih z8
      have ih' := ih (some (.int (nI 3)))
      have hm : (len + 2) / 3 ≤ 8 := by omega
      have fr : ∀ r x, r ≠ 567 → r ≠ 568 → zm_I (gm_tg M t0 t1 t2 V0 V1 V2 len i) r x = zm_I M r x := fun r x q1 q2 => gm_tg_n q1 q2 i
      change zk_X l D ar b Z y_Mo_together 3 _ _ n 17 [_, _, _, _, _, _, _, _, _] [] (gm_tk (gm_sv (gm_tg M t0 t1 t2 V0 V1 V2 len i) (gs_p0 t0 t1 t2 (V0 i) (V1 i) (V2 i)) (gs_p1 t0 t1 t2 (V0 i) (V1 i) (V2 i)) (gs_p2 t0 t1 t2 (V0 i) (V1 i) (V2 i))) ((len + 2) / 3) len i (gs_P t0 t1 t2 (V0 i) (V1 i) (V2 i)) 3) at ih'
      generalize gm_tg M t0 t1 t2 V0 V1 V2 len ((len + 2) / 3) = ME at ih'
      generalize gm_tg M t0 t1 t2 V0 V1 V2 len i = W at ih' fr
      generalize hmm : (len + 2) / 3 = m at ih' hm hi hV0 hV1 hV2
      have hTW : gt_ok W := gt_fr2 (fun r x hr => fr r x (by rcases hr with rfl | rfl <;> decide) (by rcases hr with rfl | rfl <;> decide)) hT
      refine zx_iload (pc2 := 19) d_Mo_together_17 rfl rfl ?_
      refine zx_iload (pc2 := 21) d_Mo_together_19 rfl rfl ?_
      refine zx_icmp_ge (pc2 := 24) d_Mo_together_21 rfl (tgt := 107) (by decide) (fun cz => absurd cz (nI_ge hi (by omega))) (fun _ => ?_)
      refine zx_aload_n (pc2 := 25) d_Mo_together_24 rfl rfl ?_
      refine zx_aload_n (pc2 := 26) d_Mo_together_25 rfl rfl ?_
      refine zx_iload_n (pc2 := 27) d_Mo_together_26 rfl rfl ?_
      refine zx_iconst (pc2 := 28) (v := nI 3) d_Mo_together_27 rfl (by decide) ?_
      first | refine zx_iaddN (pc2 := 29) d_Mo_together_28 rfl ?_ | refine zx_iadd (pc2 := 29) d_Mo_together_28 rfl ?_
      refine zx_iload (pc2 := 31) d_Mo_together_29 rfl rfl ?_
      first | refine zx_iaddN (pc2 := 32) d_Mo_together_31 rfl ?_ | refine zx_iadd (pc2 := 32) d_Mo_together_31 rfl ?_
      refine zk_ialdV (pc2 := 33) d_Mo_together_32 rfl hl rfl (by omega) (by omega) ((fr _ _ hra hra8).trans (hV0 i hi).1) ?_
      refine zx_aload_n (pc2 := 34) d_Mo_together_33 rfl rfl ?_
      refine zx_iload_n (pc2 := 35) d_Mo_together_34 rfl rfl ?_
      refine zx_iconst (pc2 := 36) (v := nI 3) d_Mo_together_35 rfl (by decide) ?_
      first | refine zx_iaddN (pc2 := 37) d_Mo_together_36 rfl ?_ | refine zx_iadd (pc2 := 37) d_Mo_together_36 rfl ?_
      refine zx_iload (pc2 := 39) d_Mo_together_37 rfl rfl ?_
      first | refine zx_iaddN (pc2 := 40) d_Mo_together_39 rfl ?_ | refine zx_iadd (pc2 := 40) d_Mo_together_39 rfl ?_
      refine zk_ialdV (pc2 := 41) d_Mo_together_40 rfl hl rfl (by omega) (by omega) ((fr _ _ hra hra8).trans (hV1 i hi).1) ?_
      refine zx_aload_n (pc2 := 42) d_Mo_together_41 rfl rfl ?_
      refine zx_iload (pc2 := 44) d_Mo_together_42 rfl rfl ?_
      refine zx_iconst (pc2 := 45) (v := nI 3) d_Mo_together_44 rfl (by decide) ?_
      first | refine zx_iaddN (pc2 := 46) d_Mo_together_45 rfl ?_ | refine zx_iadd (pc2 := 46) d_Mo_together_45 rfl ?_
      refine zx_iload (pc2 := 48) d_Mo_together_46 rfl rfl ?_
      first | refine zx_iaddN (pc2 := 49) d_Mo_together_48 rfl ?_ | refine zx_iadd (pc2 := 49) d_Mo_together_48 rfl ?_
      refine zk_ialdV (pc2 := 50) d_Mo_together_49 rfl hl rfl (by omega) (by omega) ((fr _ _ hra hra8).trans (hV2 i hi).1) ?_
      refine zk_callVv (pc2 := 53) s_Mo_110 v_Mo_solve (zl_c546) (c_Mo_solve hTW ((fr _ _ (by decide) (by decide)).trans h0) ((fr _ _ (by decide) (by decide)).trans h1) ((fr _ _ (by decide) (by decide)).trans h2) l0 l1 l2 n01 n12 n20 (hV0 i hi).2 (hV1 i hi).2 (hV2 i hi).2) d_Mo_together_50 rfl rfl rfl (Nat.le_of_ble_eq_true rfl) (by decide) (by decide) ?_
      refine zx_iconst (pc2 := 54) (v := nI 0) d_Mo_together_53 rfl (by decide) ?_
      refine zx_ist8 (pc2 := 56) d_Mo_together_54 rfl rfl (by decide) ?_
      have hput : ∀ k, k < 3 → zm_I (gm_sv W (gs_p0 t0 t1 t2 (V0 i) (V1 i) (V2 i)) (gs_p1 t0 t1 t2 (V0 i) (V1 i) (V2 i)) (gs_p2 t0 t1 t2 (V0 i) (V1 i) (V2 i))) 568 k = nI (gs_P t0 t1 t2 (V0 i) (V1 i) (V2 i) k) := gm_sv_v
      generalize gm_sv W (gs_p0 t0 t1 t2 (V0 i) (V1 i) (V2 i)) (gs_p1 t0 t1 t2 (V0 i) (V1 i) (V2 i)) (gs_p2 t0 t1 t2 (V0 i) (V1 i) (V2 i)) = W1 at ih' hput
      generalize gs_P t0 t1 t2 (V0 i) (V1 i) (V2 i) = P at ih' hput
      refine zx_for (X := fun k => zk_X l D ar b Z y_Mo_together 3 (some (.int (nI len))) ME n 56 [some (.ref (b + 546)), some (.ref (b + ra)), some (.int (nI a0)), some (.int (nI a1)), some (.int (nI a2)), some (.int (nI len)), some (.int (nI m)), some (.int (nI i)), some (.int (nI k))] [] (gm_tk W1 m len i P k)) 3 ?_ ?_ 0 (Nat.zero_le _)
      · refine zx_iload (pc2 := 58) d_Mo_together_56 rfl rfl ?_
        refine zx_iconst (pc2 := 59) (v := nI 3) d_Mo_together_58 rfl (by decide) ?_
        refine zx_icmp_ge (pc2 := 62) d_Mo_together_59 rfl (tgt := 101) (by decide) (fun _ => ?_) (fun cz => absurd (nI_le (Nat.le_refl 3) (by decide)) cz)
        refine zx_inc7 (pc2 := 104) d_Mo_together_101 rfl (zk_1 _) rfl (by decide) ?_
        refine zx_goto (tgt := 17) d_Mo_together_104 (by decide) ?_
        exact ih'
      · intro k hk ih2
        have hmk : m * k ≤ 16 := by
          have := Nat.mul_le_mul hm (show k ≤ 2 by omega)
          omega
        by_cases c : m * k + i < len
        · rw [show gm_tk W1 m len i P (k + 1) = zm_wI (gm_tk W1 m len i P k) 567 (m * k + i) (nI (P k)) from if_pos c] at ih2
          refine zx_iload (pc2 := 58) d_Mo_together_56 rfl rfl ?_
          refine zx_iconst (pc2 := 59) (v := nI 3) d_Mo_together_58 rfl (by decide) ?_
          refine zx_icmp_ge (pc2 := 62) d_Mo_together_59 rfl (tgt := 101) (by decide) (fun cz => absurd cz (nI_ge hk (by decide))) (fun _ => ?_)
          refine zx_iload (pc2 := 64) d_Mo_together_62 rfl rfl ?_
          refine zx_iload (pc2 := 66) d_Mo_together_64 rfl rfl ?_
          first | refine zx_imulN (pc2 := 67) d_Mo_together_66 rfl ?_ | refine zx_imul (pc2 := 67) d_Mo_together_66 rfl ?_
          refine zx_iload (pc2 := 69) d_Mo_together_67 rfl rfl ?_
          first | refine zx_iaddN (pc2 := 70) d_Mo_together_69 rfl ?_ | refine zx_iadd (pc2 := 70) d_Mo_together_69 rfl ?_
          refine zx_iload (pc2 := 72) d_Mo_together_70 rfl rfl ?_
          refine zx_icmp_ge (pc2 := 75) d_Mo_together_72 rfl (tgt := 95) (by decide) (fun cz => absurd cz (nI_ge c (by omega))) (fun _ => ?_)
          refine zx_aload_n (pc2 := 76) d_Mo_together_75 rfl rfl ?_
          refine zm_getR (pc2 := 79) f_Mo_78 d_Mo_together_76 rfl zl_c546 rfl ?_
          refine zx_iload (pc2 := 81) d_Mo_together_79 rfl rfl ?_
          refine zx_iload (pc2 := 83) d_Mo_together_81 rfl rfl ?_
          first | refine zx_imulN (pc2 := 84) d_Mo_together_83 rfl ?_ | refine zx_imul (pc2 := 84) d_Mo_together_83 rfl ?_
          refine zx_iload (pc2 := 86) d_Mo_together_84 rfl rfl ?_
          first | refine zx_iaddN (pc2 := 87) d_Mo_together_86 rfl ?_ | refine zx_iadd (pc2 := 87) d_Mo_together_86 rfl ?_
          refine zx_aload_n (pc2 := 88) d_Mo_together_87 rfl rfl ?_
          refine zm_getR (pc2 := 91) f_Mo_81 d_Mo_together_88 rfl zl_c546 rfl ?_
          refine zx_iload (pc2 := 93) d_Mo_together_91 rfl rfl ?_
          refine zk_ialdV (pc2 := 94) d_Mo_together_93 rfl (by rfl) rfl (by omega) (by decide) ((gm_tk_n (by decide) k).trans (hput k hk)) ?_
          refine zk_iast (pc2 := 95) d_Mo_together_94 rfl (by rfl) rfl (by omega) (by decide) ?_
          refine zx_inc8 (pc2 := 98) d_Mo_together_95 rfl (zk_1 _) rfl (by decide) ?_
          refine zx_goto (tgt := 56) d_Mo_together_98 (by decide) ?_
          exact ih2
        · rw [show gm_tk W1 m len i P (k + 1) = gm_tk W1 m len i P k from if_neg c] at ih2
          refine zx_iload (pc2 := 58) d_Mo_together_56 rfl rfl ?_
          refine zx_iconst (pc2 := 59) (v := nI 3) d_Mo_together_58 rfl (by decide) ?_
          refine zx_icmp_ge (pc2 := 62) d_Mo_together_59 rfl (tgt := 101) (by decide) (fun cz => absurd cz (nI_ge hk (by decide))) (fun _ => ?_)
          refine zx_iload (pc2 := 64) d_Mo_together_62 rfl rfl ?_
          refine zx_iload (pc2 := 66) d_Mo_together_64 rfl rfl ?_
          first | refine zx_imulN (pc2 := 67) d_Mo_together_66 rfl ?_ | refine zx_imul (pc2 := 67) d_Mo_together_66 rfl ?_
          refine zx_iload (pc2 := 69) d_Mo_together_67 rfl rfl ?_
          first | refine zx_iaddN (pc2 := 70) d_Mo_together_69 rfl ?_ | refine zx_iadd (pc2 := 70) d_Mo_together_69 rfl ?_
          refine zx_iload (pc2 := 72) d_Mo_together_70 rfl rfl ?_
          refine zx_icmp_ge (pc2 := 75) d_Mo_together_72 rfl (tgt := 95) (by decide) (fun _ => ?_) (fun cz => absurd (nI_le (by omega) (by omega)) cz)
          refine zx_inc8 (pc2 := 98) d_Mo_together_95 rfl (zk_1 _) rfl (by decide) ?_
          refine zx_goto (tgt := 56) d_Mo_together_98 (by decide) ?_
          exact ih2
  exact key 0 (Nat.zero_le _) none
theorem c_Mo_findThree {pl : Nat} {but id : Int32} (hpl : pl < 8) : zK l D ar b Z y_Mo_findThree 1 [.ref (b + 546), .int but, .int (nI pl), .int id] M n (some (.int (if (gm_ft M but pl id 7).2 = 3 then nI 1 else nI 0))) (gm_ft M but pl id 7).1 := by
  refine zk_entry (L := [some (.ref (b + 546)), some (.int but), some (.int (nI pl)), some (.int id), none, none]) rfl rfl (Nat.le_of_ble_eq_true rfl) rfl rfl ?_
  refine zx_iconst (pc2 := 1) (v := nI 0) d_Mo_findThree_0 rfl (by decide) ?_
  refine zx_ist4 (pc2 := 3) d_Mo_findThree_1 rfl rfl (by decide) ?_
  refine zx_iconst (pc2 := 4) (v := nI 0) d_Mo_findThree_3 rfl (by decide) ?_
  refine zx_ist5 (pc2 := 6) d_Mo_findThree_4 rfl rfl (by decide) ?_
  have fin : ∀ s, s ≤ 7 → (s = 7 ∨ ¬ (gm_ft M but pl id s).2 < 3) → zk_X l D ar b Z y_Mo_findThree 1 (some (.int (if (gm_ft M but pl id 7).2 = 3 then nI 1 else nI 0))) (gm_ft M but pl id 7).1 n 64 [some (.ref (b + 546)), some (.int but), some (.int (nI pl)), some (.int id), some (.int (nI (gm_ft M but pl id s).2)), some (.int (nI s))] [] (gm_ft M but pl id s).1 := by
    intro s hs h
    have e : gm_ft M but pl id 7 = gm_ft M but pl id s := by
      rcases h with rfl | h
      · rfl
      · have := gm_ft_full h (7 - s)
        rwa [show s + (7 - s) = 7 by omega] at this
    rw [e]
    have i1 := (gm_ft_inv (M := M) (but := but) (id := id) (pl := pl) s).1
    by_cases c : (gm_ft M but pl id s).2 = 3
    · rw [if_pos c]
      refine zx_iload (pc2 := 66) d_Mo_findThree_64 rfl rfl ?_
      refine zx_iconst (pc2 := 67) (v := nI 3) d_Mo_findThree_66 rfl (by decide) ?_
      refine zx_icmp_ne (pc2 := 70) d_Mo_findThree_67 rfl (tgt := 74) (by decide) (fun cz => absurd (by rw [c]) cz) (fun _ => ?_)
      refine zx_iconst (pc2 := 71) (v := nI 1) d_Mo_findThree_70 rfl (by decide) ?_
      refine zx_goto (tgt := 75) d_Mo_findThree_71 (by decide) ?_
      exact zx_zret d_Mo_findThree_75 rfl rfl (⟨rfl, rfl, rfl⟩)
    · rw [if_neg c]
      refine zx_iload (pc2 := 66) d_Mo_findThree_64 rfl rfl ?_
      refine zx_iconst (pc2 := 67) (v := nI 3) d_Mo_findThree_66 rfl (by decide) ?_
      refine zx_icmp_ne (pc2 := 70) d_Mo_findThree_67 rfl (tgt := 74) (by decide) (fun _ => ?_) (fun cz => absurd cz (nI_ne c (by omega) (by decide)))
      refine zx_iconst (pc2 := 75) (v := nI 0) d_Mo_findThree_74 rfl (by decide) ?_
      exact zx_zret d_Mo_findThree_75 rfl rfl (⟨rfl, rfl, rfl⟩)
  refine zx_for (X := fun s => zk_X l D ar b Z y_Mo_findThree 1 (some (.int (if (gm_ft M but pl id 7).2 = 3 then nI 1 else nI 0))) (gm_ft M but pl id 7).1 n 6 [some (.ref (b + 546)), some (.int but), some (.int (nI pl)), some (.int id), some (.int (nI (gm_ft M but pl id s).2)), some (.int (nI s))] [] (gm_ft M but pl id s).1) 7 ?_ ?_ 0 (Nat.zero_le _)
  · refine zx_iload (pc2 := 8) d_Mo_findThree_6 rfl rfl ?_
    refine zx_bipush (pc2 := 10) (v := nI 7) d_Mo_findThree_8 rfl (by decide) ?_
    refine zx_icmp_ge (pc2 := 13) d_Mo_findThree_10 rfl (tgt := 64) (by decide) (fun _ => ?_) (fun cz => absurd (nI_le (Nat.le_refl 7) (by decide)) cz)
    exact fin 7 (Nat.le_refl 7) (Or.inl rfl)
  · intro s hs ih
    obtain ⟨i1, i2, -⟩ := gm_ft_inv (M := M) (but := but) (id := id) (pl := pl) s
    have hf := fin s (by omega)
    by_cases c3 : (gm_ft M but pl id s).2 < 3
    · have ho := c_Mo_hasOf (l := l) (D := D) (ar := ar) (b := b) (Z := Z) (M := (gm_ft M but pl id s).1) (n := n) (id := id) hs hpl
      rw [i2 550 _ (by decide), i2 550 _ (by decide)] at ho
      by_cases c : gs_cand M but pl id s
      · have eS : gm_ft M but pl id (s + 1) = _ := if_pos ⟨c3, c⟩
        rw [eS] at ih
        dsimp only at ih
        obtain ⟨k1, k2, k3⟩ := c
        rw [if_pos k3] at ho
        refine zx_iload (pc2 := 8) d_Mo_findThree_6 rfl rfl ?_
        refine zx_bipush (pc2 := 10) (v := nI 7) d_Mo_findThree_8 rfl (by decide) ?_
        refine zx_icmp_ge (pc2 := 13) d_Mo_findThree_10 rfl (tgt := 64) (by decide) (fun cz => absurd cz (nI_ge hs (by decide))) (fun _ => ?_)
        refine zx_iload (pc2 := 15) d_Mo_findThree_13 rfl rfl ?_
        refine zx_iconst (pc2 := 16) (v := nI 3) d_Mo_findThree_15 rfl (by decide) ?_
        refine zx_icmp_ge (pc2 := 19) d_Mo_findThree_16 rfl (tgt := 64) (by decide) (fun cz => absurd cz (nI_ge c3 (by decide))) (fun _ => ?_)
        refine zx_iload (pc2 := 21) d_Mo_findThree_19 rfl rfl ?_
        refine zx_iload_n (pc2 := 22) d_Mo_findThree_21 rfl rfl ?_
        refine zx_icmp_eq (pc2 := 25) d_Mo_findThree_22 rfl (tgt := 58) (by decide) (fun cz => absurd cz (k1)) (fun _ => ?_)
        refine zx_aload_n (pc2 := 26) d_Mo_findThree_25 rfl rfl ?_
        refine zm_getR (pc2 := 29) f_Mo_17 d_Mo_findThree_26 rfl zl_c546 rfl ?_
        refine zx_iload (pc2 := 31) d_Mo_findThree_29 rfl rfl ?_
        refine zk_zaldV (pc2 := 32) d_Mo_findThree_31 rfl (by rfl) rfl (by omega) (by decide) (i2 548 s (by decide)) ?_
        refine zx_if_ne (pc2 := 35) d_Mo_findThree_32 rfl (tgt := 58) (by decide) (fun cz => absurd (k2) cz) (fun _ => ?_)
        refine zx_aload_n (pc2 := 36) d_Mo_findThree_35 rfl rfl ?_
        refine zx_iload (pc2 := 38) d_Mo_findThree_36 rfl rfl ?_
        refine zx_iload_n (pc2 := 39) d_Mo_findThree_38 rfl rfl ?_
        refine zx_iload_n (pc2 := 40) d_Mo_findThree_39 rfl rfl ?_
        refine zk_callV (pc2 := 43) s_Mo_154 v_Mo_hasOf (zl_c546) (ho) d_Mo_findThree_40 rfl rfl rfl (Nat.le_of_ble_eq_true rfl) (by decide) (by decide) ?_
        refine zx_if_eq (pc2 := 46) d_Mo_findThree_43 rfl (tgt := 58) (by decide) (fun cz => absurd cz (by decide)) (fun _ => ?_)
        refine zx_aload_n (pc2 := 47) d_Mo_findThree_46 rfl rfl ?_
        refine zm_getR (pc2 := 50) f_Mo_75 d_Mo_findThree_47 rfl zl_c546 rfl ?_
        refine zx_iload (pc2 := 52) d_Mo_findThree_50 rfl rfl ?_
        refine zx_iload (pc2 := 54) d_Mo_findThree_52 rfl rfl ?_
        refine zk_iast (pc2 := 55) d_Mo_findThree_54 rfl (by rfl) rfl (by omega) (by decide) ?_
        refine zx_inc4 (pc2 := 58) d_Mo_findThree_55 rfl (zk_1 _) rfl (by decide) ?_
        refine zx_inc5 (pc2 := 61) d_Mo_findThree_58 rfl (zk_1 _) rfl (by decide) ?_
        refine zx_goto (tgt := 6) d_Mo_findThree_61 (by decide) ?_
        exact ih
      · have eS : gm_ft M but pl id (s + 1) = gm_ft M but pl id s := if_neg (fun z => c z.2)
        rw [eS] at ih
        by_cases k1 : nI s = but
        · refine zx_iload (pc2 := 8) d_Mo_findThree_6 rfl rfl ?_
          refine zx_bipush (pc2 := 10) (v := nI 7) d_Mo_findThree_8 rfl (by decide) ?_
          refine zx_icmp_ge (pc2 := 13) d_Mo_findThree_10 rfl (tgt := 64) (by decide) (fun cz => absurd cz (nI_ge hs (by decide))) (fun _ => ?_)
          refine zx_iload (pc2 := 15) d_Mo_findThree_13 rfl rfl ?_
          refine zx_iconst (pc2 := 16) (v := nI 3) d_Mo_findThree_15 rfl (by decide) ?_
          refine zx_icmp_ge (pc2 := 19) d_Mo_findThree_16 rfl (tgt := 64) (by decide) (fun cz => absurd cz (nI_ge c3 (by decide))) (fun _ => ?_)
          refine zx_iload (pc2 := 21) d_Mo_findThree_19 rfl rfl ?_
          refine zx_iload_n (pc2 := 22) d_Mo_findThree_21 rfl rfl ?_
          refine zx_icmp_eq (pc2 := 25) d_Mo_findThree_22 rfl (tgt := 58) (by decide) (fun _ => ?_) (fun cz => absurd (k1) cz)
          refine zx_inc5 (pc2 := 61) d_Mo_findThree_58 rfl (zk_1 _) rfl (by decide) ?_
          refine zx_goto (tgt := 6) d_Mo_findThree_61 (by decide) ?_
          exact ih
        · by_cases k2 : zm_I M 548 s = 0
          · rw [if_neg (fun z => c ⟨k1, k2, z⟩)] at ho
            refine zx_iload (pc2 := 8) d_Mo_findThree_6 rfl rfl ?_
            refine zx_bipush (pc2 := 10) (v := nI 7) d_Mo_findThree_8 rfl (by decide) ?_
            refine zx_icmp_ge (pc2 := 13) d_Mo_findThree_10 rfl (tgt := 64) (by decide) (fun cz => absurd cz (nI_ge hs (by decide))) (fun _ => ?_)
            refine zx_iload (pc2 := 15) d_Mo_findThree_13 rfl rfl ?_
            refine zx_iconst (pc2 := 16) (v := nI 3) d_Mo_findThree_15 rfl (by decide) ?_
            refine zx_icmp_ge (pc2 := 19) d_Mo_findThree_16 rfl (tgt := 64) (by decide) (fun cz => absurd cz (nI_ge c3 (by decide))) (fun _ => ?_)
            refine zx_iload (pc2 := 21) d_Mo_findThree_19 rfl rfl ?_
            refine zx_iload_n (pc2 := 22) d_Mo_findThree_21 rfl rfl ?_
            refine zx_icmp_eq (pc2 := 25) d_Mo_findThree_22 rfl (tgt := 58) (by decide) (fun cz => absurd cz (k1)) (fun _ => ?_)
            refine zx_aload_n (pc2 := 26) d_Mo_findThree_25 rfl rfl ?_
            refine zm_getR (pc2 := 29) f_Mo_17 d_Mo_findThree_26 rfl zl_c546 rfl ?_
            refine zx_iload (pc2 := 31) d_Mo_findThree_29 rfl rfl ?_
            refine zk_zaldV (pc2 := 32) d_Mo_findThree_31 rfl (by rfl) rfl (by omega) (by decide) (i2 548 s (by decide)) ?_
            refine zx_if_ne (pc2 := 35) d_Mo_findThree_32 rfl (tgt := 58) (by decide) (fun cz => absurd (k2) cz) (fun _ => ?_)
            refine zx_aload_n (pc2 := 36) d_Mo_findThree_35 rfl rfl ?_
            refine zx_iload (pc2 := 38) d_Mo_findThree_36 rfl rfl ?_
            refine zx_iload_n (pc2 := 39) d_Mo_findThree_38 rfl rfl ?_
            refine zx_iload_n (pc2 := 40) d_Mo_findThree_39 rfl rfl ?_
            refine zk_callV (pc2 := 43) s_Mo_154 v_Mo_hasOf (zl_c546) (ho) d_Mo_findThree_40 rfl rfl rfl (Nat.le_of_ble_eq_true rfl) (by decide) (by decide) ?_
            refine zx_if_eq (pc2 := 46) d_Mo_findThree_43 rfl (tgt := 58) (by decide) (fun _ => ?_) (fun cz => absurd (by decide) cz)
            refine zx_inc5 (pc2 := 61) d_Mo_findThree_58 rfl (zk_1 _) rfl (by decide) ?_
            refine zx_goto (tgt := 6) d_Mo_findThree_61 (by decide) ?_
            exact ih
          · refine zx_iload (pc2 := 8) d_Mo_findThree_6 rfl rfl ?_
            refine zx_bipush (pc2 := 10) (v := nI 7) d_Mo_findThree_8 rfl (by decide) ?_
            refine zx_icmp_ge (pc2 := 13) d_Mo_findThree_10 rfl (tgt := 64) (by decide) (fun cz => absurd cz (nI_ge hs (by decide))) (fun _ => ?_)
            refine zx_iload (pc2 := 15) d_Mo_findThree_13 rfl rfl ?_
            refine zx_iconst (pc2 := 16) (v := nI 3) d_Mo_findThree_15 rfl (by decide) ?_
            refine zx_icmp_ge (pc2 := 19) d_Mo_findThree_16 rfl (tgt := 64) (by decide) (fun cz => absurd cz (nI_ge c3 (by decide))) (fun _ => ?_)
            refine zx_iload (pc2 := 21) d_Mo_findThree_19 rfl rfl ?_
            refine zx_iload_n (pc2 := 22) d_Mo_findThree_21 rfl rfl ?_
            refine zx_icmp_eq (pc2 := 25) d_Mo_findThree_22 rfl (tgt := 58) (by decide) (fun cz => absurd cz (k1)) (fun _ => ?_)
            refine zx_aload_n (pc2 := 26) d_Mo_findThree_25 rfl rfl ?_
            refine zm_getR (pc2 := 29) f_Mo_17 d_Mo_findThree_26 rfl zl_c546 rfl ?_
            refine zx_iload (pc2 := 31) d_Mo_findThree_29 rfl rfl ?_
            refine zk_zaldV (pc2 := 32) d_Mo_findThree_31 rfl (by rfl) rfl (by omega) (by decide) (i2 548 s (by decide)) ?_
            refine zx_if_ne (pc2 := 35) d_Mo_findThree_32 rfl (tgt := 58) (by decide) (fun _ => ?_) (fun cz => absurd cz (k2))
            refine zx_inc5 (pc2 := 61) d_Mo_findThree_58 rfl (zk_1 _) rfl (by decide) ?_
            refine zx_goto (tgt := 6) d_Mo_findThree_61 (by decide) ?_
            exact ih
    · refine zx_iload (pc2 := 8) d_Mo_findThree_6 rfl rfl ?_
      refine zx_bipush (pc2 := 10) (v := nI 7) d_Mo_findThree_8 rfl (by decide) ?_
      refine zx_icmp_ge (pc2 := 13) d_Mo_findThree_10 rfl (tgt := 64) (by decide) (fun cz => absurd cz (nI_ge hs (by decide))) (fun _ => ?_)
      refine zx_iload (pc2 := 15) d_Mo_findThree_13 rfl rfl ?_
      refine zx_iconst (pc2 := 16) (v := nI 3) d_Mo_findThree_15 rfl (by decide) ?_
      refine zx_icmp_ge (pc2 := 19) d_Mo_findThree_16 rfl (tgt := 64) (by decide) (fun _ => ?_) (fun cz => absurd (nI_le (by omega) (by omega)) cz)
      exact hf (Or.inr c3)
end C60
