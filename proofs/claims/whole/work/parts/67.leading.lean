/-! LogHouseModel: the fifth promise comes: the proposer leads (along a given sequence of memories) -/
section C67
variable {l : Launch} {D : va_G} {ar : Nat → ClassId} {b : Nat} {Z : State → Prop} {M : zm_M} {n : Nat}
theorem c_Mo_promA {s p : Nat} {T : Nat → zm_M × Nat} (hs : s < 7) (hp : p < 2) (c1 : zm_I M 553 p = nI 1) (c2 : zm_I M 570 3 = zm_I M 554 p) (c3 : ¬ gs_hb M p s) (hb : nI 5 ≤ gs_bits (gs_pb M p s) 7) (h0 : T 0 = (zm_wI (gm_ph M s p 88) 553 p (nI 2), 0))
    (hst : ∀ pl, pl < 8 → (zm_I (T pl).1 559 (8 * p + pl) ≠ 0 ∧ T (pl + 1) = T pl) ∨ (zm_I (T pl).1 559 (8 * p + pl) = 0 ∧ zK l D ar b Z y_Mo_again 4 [.ref (b + 546), .int (nI p), .int (nI pl)] (T pl).1 n (some (.int (nI 0))) (T pl).1 ∧ T (pl + 1) = T pl) ∨ (zm_I (T pl).1 559 (8 * p + pl) = 0 ∧ ∃ (W : zm_M) (k : Nat), zK l D ar b Z y_Mo_again 4 [.ref (b + 546), .int (nI p), .int (nI pl)] (T pl).1 n (some (.int (nI 1))) W ∧ zK l D ar b Z y_Mo_acceptAll 3 [.ref (b + 546), .int (nI p), .int (nI pl)] W n (some (.int (nI k))) (T (pl + 1)).1 ∧ (T (pl + 1)).2 = (T pl).2 + k)) :
    zK l D ar b Z y_Mo_promiseComes 6 [.ref (b + 546), .int (nI s), .int (nI p)] M n (some (.int (nI (T 8).2))) (T 8).1 := by
  refine c_Mo_promL hs hp c1 c2 c3 ?_
  refine zx_aload_n (pc2 := 95) d_Mo_promiseComes_94 rfl rfl ?_
  refine zm_getR (pc2 := 98) f_Mo_42 d_Mo_promiseComes_95 rfl zl_c546 rfl ?_
  refine zx_iload_n (pc2 := 99) d_Mo_promiseComes_98 rfl rfl ?_
  refine zk_ialdV (pc2 := 100) d_Mo_promiseComes_99 rfl (by rfl) rfl (by omega) (by decide) (gm_ph_p) ?_
  refine zk_callS (pc2 := 103) s_Mo_133 t_Mo_bits (c_Mo_bits) d_Mo_promiseComes_100 rfl rfl rfl (Nat.le_of_ble_eq_true rfl) (by decide) (by decide) ?_
  refine zx_iconst (pc2 := 104) (v := nI 5) d_Mo_promiseComes_103 rfl (by decide) ?_
  refine zx_icmp_ge (pc2 := 107) d_Mo_promiseComes_104 rfl (tgt := 109) (by decide) (fun _ => ?_) (fun cz => absurd (hb) cz)
  refine zx_aload_n (pc2 := 110) d_Mo_promiseComes_109 rfl rfl ?_
  refine zm_getR (pc2 := 113) f_Mo_36 d_Mo_promiseComes_110 rfl zl_c546 rfl ?_
  refine zx_iload_n (pc2 := 114) d_Mo_promiseComes_113 rfl rfl ?_
  refine zx_iconst (pc2 := 115) (v := nI 2) d_Mo_promiseComes_114 rfl (by decide) ?_
  refine zk_iast (pc2 := 116) d_Mo_promiseComes_115 rfl (by rfl) rfl (by omega) (by decide) ?_
  refine zx_iconst (pc2 := 117) (v := nI 0) d_Mo_promiseComes_116 rfl (by decide) ?_
  refine zx_ist3 (pc2 := 118) d_Mo_promiseComes_117 rfl rfl (by decide) ?_
  refine zx_iconst (pc2 := 119) (v := nI 0) d_Mo_promiseComes_118 rfl (by decide) ?_
  refine zx_ist4 (pc2 := 121) d_Mo_promiseComes_119 rfl rfl (by decide) ?_
  refine Eq.mp (congrArg (fun w => zk_X l D ar b Z y_Mo_promiseComes 6 (some (.int (nI (T 8).2))) (T 8).1 n 121 [some (.ref (b + 546)), some (.int (nI s)), some (.int (nI p)), some (.int (nI w.2)), some (.int (nI 0))] [] w.1) h0) ?_
  refine zx_for (X := fun pl => zk_X l D ar b Z y_Mo_promiseComes 6 (some (.int (nI (T 8).2))) (T 8).1 n 121 [some (.ref (b + 546)), some (.int (nI s)), some (.int (nI p)), some (.int (nI (T pl).2)), some (.int (nI pl))] [] (T pl).1) 8 ?_ ?_ 0 (Nat.zero_le _)
  · refine zx_iload (pc2 := 123) d_Mo_promiseComes_121 rfl rfl ?_
    refine zx_bipush (pc2 := 125) (v := nI 8) d_Mo_promiseComes_123 rfl (by decide) ?_
    refine zx_icmp_ge (pc2 := 128) d_Mo_promiseComes_125 rfl (tgt := 169) (by decide) (fun _ => ?_) (fun cz => absurd (nI_le (Nat.le_refl 8) (by decide)) cz)
    refine zx_iload_n (pc2 := 170) d_Mo_promiseComes_169 rfl rfl ?_
    exact zx_iret d_Mo_promiseComes_170 rfl (⟨rfl, rfl, rfl⟩)
  · intro pl hpl ih
    generalize T 8 = TE at ih
    rcases hst pl hpl with ⟨q1, q2⟩ | ⟨q1, q2, q3⟩ | ⟨q1, W, k, q2, q3, q4⟩
    · rw [q2] at ih
      refine zx_iload (pc2 := 123) d_Mo_promiseComes_121 rfl rfl ?_
      refine zx_bipush (pc2 := 125) (v := nI 8) d_Mo_promiseComes_123 rfl (by decide) ?_
      refine zx_icmp_ge (pc2 := 128) d_Mo_promiseComes_125 rfl (tgt := 169) (by decide) (fun cz => absurd cz (nI_ge hpl (by decide))) (fun _ => ?_)
      refine zx_aload_n (pc2 := 129) d_Mo_promiseComes_128 rfl rfl ?_
      refine zm_getR (pc2 := 132) f_Mo_54 d_Mo_promiseComes_129 rfl zl_c546 rfl ?_
      refine zx_bipush (pc2 := 134) (v := nI 8) d_Mo_promiseComes_132 rfl (by decide) ?_
      refine zx_iload_n (pc2 := 135) d_Mo_promiseComes_134 rfl rfl ?_
      first | refine zx_imulN (pc2 := 136) d_Mo_promiseComes_135 rfl ?_ | refine zx_imul (pc2 := 136) d_Mo_promiseComes_135 rfl ?_
      refine zx_iload (pc2 := 138) d_Mo_promiseComes_136 rfl rfl ?_
      first | refine zx_iaddN (pc2 := 139) d_Mo_promiseComes_138 rfl ?_ | refine zx_iadd (pc2 := 139) d_Mo_promiseComes_138 rfl ?_
      refine zk_iald (pc2 := 140) d_Mo_promiseComes_139 rfl (by rfl) rfl (by omega) (by decide) ?_
      refine zx_if_ne (pc2 := 143) d_Mo_promiseComes_140 rfl (tgt := 163) (by decide) (fun _ => ?_) (fun cz => absurd cz (q1))
      refine zx_inc4 (pc2 := 166) d_Mo_promiseComes_163 rfl (zk_1 _) rfl (by decide) ?_
      refine zx_goto (tgt := 121) d_Mo_promiseComes_166 (by decide) ?_
      exact ih
    · rw [q3] at ih
      refine zx_iload (pc2 := 123) d_Mo_promiseComes_121 rfl rfl ?_
      refine zx_bipush (pc2 := 125) (v := nI 8) d_Mo_promiseComes_123 rfl (by decide) ?_
      refine zx_icmp_ge (pc2 := 128) d_Mo_promiseComes_125 rfl (tgt := 169) (by decide) (fun cz => absurd cz (nI_ge hpl (by decide))) (fun _ => ?_)
      refine zx_aload_n (pc2 := 129) d_Mo_promiseComes_128 rfl rfl ?_
      refine zm_getR (pc2 := 132) f_Mo_54 d_Mo_promiseComes_129 rfl zl_c546 rfl ?_
      refine zx_bipush (pc2 := 134) (v := nI 8) d_Mo_promiseComes_132 rfl (by decide) ?_
      refine zx_iload_n (pc2 := 135) d_Mo_promiseComes_134 rfl rfl ?_
      first | refine zx_imulN (pc2 := 136) d_Mo_promiseComes_135 rfl ?_ | refine zx_imul (pc2 := 136) d_Mo_promiseComes_135 rfl ?_
      refine zx_iload (pc2 := 138) d_Mo_promiseComes_136 rfl rfl ?_
      first | refine zx_iaddN (pc2 := 139) d_Mo_promiseComes_138 rfl ?_ | refine zx_iadd (pc2 := 139) d_Mo_promiseComes_138 rfl ?_
      refine zk_iald (pc2 := 140) d_Mo_promiseComes_139 rfl (by rfl) rfl (by omega) (by decide) ?_
      refine zx_if_ne (pc2 := 143) d_Mo_promiseComes_140 rfl (tgt := 163) (by decide) (fun cz => absurd (q1) cz) (fun _ => ?_)
      refine zx_aload_n (pc2 := 144) d_Mo_promiseComes_143 rfl rfl ?_
      refine zx_iload_n (pc2 := 145) d_Mo_promiseComes_144 rfl rfl ?_
      refine zx_iload (pc2 := 147) d_Mo_promiseComes_145 rfl rfl ?_
      refine zk_callV (pc2 := 150) s_Mo_136 v_Mo_again (zl_c546) (q2) d_Mo_promiseComes_147 rfl rfl rfl (Nat.le_of_ble_eq_true rfl) (by decide) (by decide) ?_
      refine zx_if_eq (pc2 := 153) d_Mo_promiseComes_150 rfl (tgt := 163) (by decide) (fun _ => ?_) (fun cz => absurd (by decide) cz)
      refine zx_inc4 (pc2 := 166) d_Mo_promiseComes_163 rfl (zk_1 _) rfl (by decide) ?_
      refine zx_goto (tgt := 121) d_Mo_promiseComes_166 (by decide) ?_
      exact ih
    · rw [q4] at ih
      refine zx_iload (pc2 := 123) d_Mo_promiseComes_121 rfl rfl ?_
      refine zx_bipush (pc2 := 125) (v := nI 8) d_Mo_promiseComes_123 rfl (by decide) ?_
      refine zx_icmp_ge (pc2 := 128) d_Mo_promiseComes_125 rfl (tgt := 169) (by decide) (fun cz => absurd cz (nI_ge hpl (by decide))) (fun _ => ?_)
      refine zx_aload_n (pc2 := 129) d_Mo_promiseComes_128 rfl rfl ?_
      refine zm_getR (pc2 := 132) f_Mo_54 d_Mo_promiseComes_129 rfl zl_c546 rfl ?_
      refine zx_bipush (pc2 := 134) (v := nI 8) d_Mo_promiseComes_132 rfl (by decide) ?_
      refine zx_iload_n (pc2 := 135) d_Mo_promiseComes_134 rfl rfl ?_
      first | refine zx_imulN (pc2 := 136) d_Mo_promiseComes_135 rfl ?_ | refine zx_imul (pc2 := 136) d_Mo_promiseComes_135 rfl ?_
      refine zx_iload (pc2 := 138) d_Mo_promiseComes_136 rfl rfl ?_
      first | refine zx_iaddN (pc2 := 139) d_Mo_promiseComes_138 rfl ?_ | refine zx_iadd (pc2 := 139) d_Mo_promiseComes_138 rfl ?_
      refine zk_iald (pc2 := 140) d_Mo_promiseComes_139 rfl (by rfl) rfl (by omega) (by decide) ?_
      refine zx_if_ne (pc2 := 143) d_Mo_promiseComes_140 rfl (tgt := 163) (by decide) (fun cz => absurd (q1) cz) (fun _ => ?_)
      refine zx_aload_n (pc2 := 144) d_Mo_promiseComes_143 rfl rfl ?_
      refine zx_iload_n (pc2 := 145) d_Mo_promiseComes_144 rfl rfl ?_
      refine zx_iload (pc2 := 147) d_Mo_promiseComes_145 rfl rfl ?_
      refine zk_callV (pc2 := 150) s_Mo_136 v_Mo_again (zl_c546) (q2) d_Mo_promiseComes_147 rfl rfl rfl (Nat.le_of_ble_eq_true rfl) (by decide) (by decide) ?_
      refine zx_if_eq (pc2 := 153) d_Mo_promiseComes_150 rfl (tgt := 163) (by decide) (fun cz => absurd cz (by decide)) (fun _ => ?_)
      refine zx_iload_n (pc2 := 154) d_Mo_promiseComes_153 rfl rfl ?_
      refine zx_aload_n (pc2 := 155) d_Mo_promiseComes_154 rfl rfl ?_
      refine zx_iload_n (pc2 := 156) d_Mo_promiseComes_155 rfl rfl ?_
      refine zx_iload (pc2 := 158) d_Mo_promiseComes_156 rfl rfl ?_
      refine zk_callV (pc2 := 161) s_Mo_140 v_Mo_acceptAll (zl_c546) (q3) d_Mo_promiseComes_158 rfl rfl rfl (Nat.le_of_ble_eq_true rfl) (by decide) (by decide) ?_
      first | refine zx_iaddN (pc2 := 162) d_Mo_promiseComes_161 rfl ?_ | refine zx_iadd (pc2 := 162) d_Mo_promiseComes_161 rfl ?_
      refine zx_ist3 (pc2 := 163) d_Mo_promiseComes_162 rfl rfl (by decide) ?_
      refine zx_inc4 (pc2 := 166) d_Mo_promiseComes_163 rfl (zk_1 _) rfl (by decide) ?_
      refine zx_goto (tgt := 121) d_Mo_promiseComes_166 (by decide) ?_
      exact ih
end C67
