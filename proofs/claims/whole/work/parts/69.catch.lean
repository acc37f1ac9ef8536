/-! LogHouseModel: catchUp (along a given sequence of memories) -/
def gm_cw0 (W : zm_M) (s pl len : Nat) (id : Int32) : zm_M := zm_wI (zm_wI (zm_wI W 550 (88 * s + 11 * pl) (nI 0)) 550 (88 * s + 11 * pl + 1) id) 550 (88 * s + 11 * pl + 2) (nI len)
def gm_cw (W : zm_M) (s pl len : Nat) (id : Int32) (f : Nat → Nat) (k : Nat) : zm_M := gm_up (gm_cw0 W s pl len id) 550 (88 * s + 11 * pl + 3) k (fun x => nI (gs_shb f len s x))
theorem gm_cw_n {W : zm_M} {s pl len k r x : Nat} {id : Int32} {f : Nat → Nat} (h : r ≠ 550) : zm_I (gm_cw W s pl len id f k) r x = zm_I W r x := by
  unfold gm_cw gm_cw0
  rw [gm_upn (Or.inl h), zm_In (Or.inl h), zm_In (Or.inl h), zm_In (Or.inl h)]
section C69
variable {l : Launch} {D : va_G} {ar : Nat → ClassId} {b : Nat} {Z : State → Prop} {M : zm_M} {n : Nat}
theorem c_Mo_catchUp {s p : Nat} {T : Nat → zm_M × Nat} (hs : s < 7) (hp : p < 2) (hw : zm_I M 549 s ≠ 0) (hu : zm_I M 548 s = 0) (h0 : T 0 = (gm_t M 0, 0))
    (hst : ∀ pl, pl < 8 → (zm_I (T pl).1 559 (8 * p + pl) = 0 ∧ T (pl + 1) = T pl) ∨ (zm_I (T pl).1 559 (8 * p + pl) ≠ 0 ∧ zm_I (T pl).1 550 (88 * s + 11 * pl + 2) ≠ 0 ∧ T (pl + 1) = T pl)
      ∨ (zm_I (T pl).1 559 (8 * p + pl) ≠ 0 ∧ zm_I (T pl).1 550 (88 * s + 11 * pl + 2) = 0 ∧ ∃ W, zK l D ar b Z y_Mo_findThree 1 [.ref (b + 546), .int (nI s), .int (nI pl), .int (zm_I (T pl).1 559 (8 * p + pl))] (T pl).1 n (some (.int (nI 0))) W ∧ T (pl + 1) = (W, (T pl).2))
      ∨ (zm_I (T pl).1 559 (8 * p + pl) ≠ 0 ∧ zm_I (T pl).1 550 (88 * s + 11 * pl + 2) = 0 ∧ ∃ (W W2 : zm_M) (len : Nat) (f : Nat → Nat), zK l D ar b Z y_Mo_findThree 1 [.ref (b + 546), .int (nI s), .int (nI pl), .int (zm_I (T pl).1 559 (8 * p + pl))] (T pl).1 n (some (.int (nI 1))) W ∧ zK l D ar b Z y_Mo_fromThree 4 [.ref (b + 546), .int (nI pl)] W n (some (.int (nI len))) W2 ∧ len ≤ 24 ∧ gt_ok W2 ∧ gb_ok W2 567 0 len f ∧ T (pl + 1) = (gm_cw W2 s pl len (zm_I (T pl).1 559 (8 * p + pl)) f ((len + 2) / 3), (T pl).2 + 1))) :
    zK l D ar b Z y_Mo_catchUp 6 [.ref (b + 546), .int (nI s), .int (nI p)] M n (some (.int (nI (T 8).2))) (T 8).1 := by
  refine zk_entry (L := [some (.ref (b + 546)), some (.int (nI s)), some (.int (nI p)), none, none, none, none, none, none]) rfl rfl (Nat.le_of_ble_eq_true rfl) rfl rfl ?_
  refine zx_aload_n (pc2 := 1) d_Mo_catchUp_0 rfl rfl ?_
  refine zx_iload_n (pc2 := 2) d_Mo_catchUp_1 rfl rfl ?_
  refine zk_callS (pc2 := 5) s_Mo_179 t_Mo_noStation (c_Mo_noS0 hs) d_Mo_catchUp_2 rfl rfl rfl (Nat.le_of_ble_eq_true rfl) (by decide) (by decide) ?_
  refine zx_if_ne (pc2 := 8) d_Mo_catchUp_5 rfl (tgt := 15) (by decide) (fun cz => absurd (by decide) cz) (fun _ => ?_)
  refine zx_iload_n (pc2 := 9) d_Mo_catchUp_8 rfl rfl ?_
  refine zk_callS (pc2 := 12) s_Mo_158 t_Mo_noProposer (c_Mo_noP0 hp) d_Mo_catchUp_9 rfl rfl rfl (Nat.le_of_ble_eq_true rfl) (by decide) (by decide) ?_
  refine zx_if_eq (pc2 := 15) d_Mo_catchUp_12 rfl (tgt := 19) (by decide) (fun _ => ?_) (fun cz => absurd (by decide) cz)
  refine zx_iconst (pc2 := 20) (v := nI 0) d_Mo_catchUp_19 rfl (by decide) ?_
  refine zm_putI (pc2 := 23) p_Mo_7 d_Mo_catchUp_20 rfl zl_c546 rfl rfl rfl ?_
  refine zx_aload_n (pc2 := 24) d_Mo_catchUp_23 rfl rfl ?_
  refine zm_getV (pc2 := 27) f_Mo_7 d_Mo_catchUp_24 rfl zl_c546 rfl (zm_Is) ?_
  refine zx_if_ne (pc2 := 30) d_Mo_catchUp_27 rfl (tgt := 53) (by decide) (fun cz => absurd (rfl) cz) (fun _ => ?_)
  refine zx_aload_n (pc2 := 31) d_Mo_catchUp_30 rfl rfl ?_
  refine zm_getR (pc2 := 34) f_Mo_21 d_Mo_catchUp_31 rfl zl_c546 rfl ?_
  refine zx_iload_n (pc2 := 35) d_Mo_catchUp_34 rfl rfl ?_
  refine zk_zaldV (pc2 := 36) d_Mo_catchUp_35 rfl (by rfl) rfl (by omega) (by decide) (gt_t (Or.inl (by decide))) ?_
  refine zx_if_eq (pc2 := 39) d_Mo_catchUp_36 rfl (tgt := 48) (by decide) (fun cz => absurd cz (hw)) (fun _ => ?_)
  refine zx_aload_n (pc2 := 40) d_Mo_catchUp_39 rfl rfl ?_
  refine zm_getR (pc2 := 43) f_Mo_17 d_Mo_catchUp_40 rfl zl_c546 rfl ?_
  refine zx_iload_n (pc2 := 44) d_Mo_catchUp_43 rfl rfl ?_
  refine zk_zaldV (pc2 := 45) d_Mo_catchUp_44 rfl (by rfl) rfl (by omega) (by decide) (gt_t (Or.inl (by decide))) ?_
  refine zx_if_eq (pc2 := 48) d_Mo_catchUp_45 rfl (tgt := 53) (by decide) (fun _ => ?_) (fun cz => absurd (hu) cz)
  refine zx_aload_n (pc2 := 54) d_Mo_catchUp_53 rfl rfl ?_
  refine zm_getV (pc2 := 57) f_Mo_7 d_Mo_catchUp_54 rfl zl_c546 rfl (zm_Is) ?_
  refine zx_if_eq (pc2 := 60) d_Mo_catchUp_57 rfl (tgt := 62) (by decide) (fun _ => ?_) (fun cz => absurd (by decide) cz)
  refine zx_iconst (pc2 := 63) (v := nI 0) d_Mo_catchUp_62 rfl (by decide) ?_
  refine zx_ist3 (pc2 := 64) d_Mo_catchUp_63 rfl rfl (by decide) ?_
  refine zx_iconst (pc2 := 65) (v := nI 0) d_Mo_catchUp_64 rfl (by decide) ?_
  refine zx_ist4 (pc2 := 67) d_Mo_catchUp_65 rfl rfl (by decide) ?_
  have key : ∀ pl, pl ≤ 8 → ∀ z5 z6 z7 z8 : Option Value, zk_X l D ar b Z y_Mo_catchUp 6 (some (.int (nI (T 8).2))) (T 8).1 n 67 [some (.ref (b + 546)), some (.int (nI s)), some (.int (nI p)), some (.int (nI (T pl).2)), some (.int (nI pl)), z5, z6, z7, z8] [] (T pl).1 := by
    refine zx_for (X := fun pl => ∀ z5 z6 z7 z8 : Option Value, zk_X l D ar b Z y_Mo_catchUp 6 (some (.int (nI (T 8).2))) (T 8).1 n 67 [some (.ref (b + 546)), some (.int (nI s)), some (.int (nI p)), some (.int (nI (T pl).2)), some (.int (nI pl)), z5, z6, z7, z8] [] (T pl).1) 8 ?_ ?_
    · intro z5 z6 z7 z8
      refine zx_iload (pc2 := 69) d_Mo_catchUp_67 rfl rfl ?_
      refine zx_bipush (pc2 := 71) (v := nI 8) d_Mo_catchUp_69 rfl (by decide) ?_
      refine zx_icmp_ge (pc2 := 74) d_Mo_catchUp_71 rfl (tgt := 221) (by decide) (fun _ => ?_) (fun cz => absurd (nI_le (Nat.le_refl 8) (by decide)) cz)
      refine zx_iload_n (pc2 := 222) d_Mo_catchUp_221 rfl rfl ?_
      exact zx_iret d_Mo_catchUp_222 rfl (⟨rfl, rfl, rfl⟩)
    · intro pl hpl ih z5 z6 z7 z8
      generalize T 8 = TE at ih
      rcases hst pl hpl with ⟨q1, q2⟩ | ⟨q1, q2, q3⟩ | ⟨q1, q2, W, q3, q4⟩ | ⟨q1, q2, W, W2, len, f, q3, q4, q5, q6, q7, q8⟩
      · rw [q2] at ih
        refine zx_iload (pc2 := 69) d_Mo_catchUp_67 rfl rfl ?_
        refine zx_bipush (pc2 := 71) (v := nI 8) d_Mo_catchUp_69 rfl (by decide) ?_
        refine zx_icmp_ge (pc2 := 74) d_Mo_catchUp_71 rfl (tgt := 221) (by decide) (fun cz => absurd cz (nI_ge hpl (by decide))) (fun _ => ?_)
        refine zx_aload_n (pc2 := 75) d_Mo_catchUp_74 rfl rfl ?_
        refine zm_getR (pc2 := 78) f_Mo_54 d_Mo_catchUp_75 rfl zl_c546 rfl ?_
        refine zx_bipush (pc2 := 80) (v := nI 8) d_Mo_catchUp_78 rfl (by decide) ?_
        refine zx_iload_n (pc2 := 81) d_Mo_catchUp_80 rfl rfl ?_
        first | refine zx_imulN (pc2 := 82) d_Mo_catchUp_81 rfl ?_ | refine zx_imul (pc2 := 82) d_Mo_catchUp_81 rfl ?_
        refine zx_iload (pc2 := 84) d_Mo_catchUp_82 rfl rfl ?_
        first | refine zx_iaddN (pc2 := 85) d_Mo_catchUp_84 rfl ?_ | refine zx_iadd (pc2 := 85) d_Mo_catchUp_84 rfl ?_
        refine zk_iald (pc2 := 86) d_Mo_catchUp_85 rfl (by rfl) rfl (by omega) (by decide) ?_
        refine zx_ist5 (pc2 := 88) d_Mo_catchUp_86 rfl rfl (by decide) ?_
        refine zx_bipush (pc2 := 90) (v := nI 88) d_Mo_catchUp_88 rfl (by decide) ?_
        refine zx_iload_n (pc2 := 91) d_Mo_catchUp_90 rfl rfl ?_
        first | refine zx_imulN (pc2 := 92) d_Mo_catchUp_91 rfl ?_ | refine zx_imul (pc2 := 92) d_Mo_catchUp_91 rfl ?_
        refine zx_bipush (pc2 := 94) (v := nI 11) d_Mo_catchUp_92 rfl (by decide) ?_
        refine zx_iload (pc2 := 96) d_Mo_catchUp_94 rfl rfl ?_
        first | refine zx_imulN (pc2 := 97) d_Mo_catchUp_96 rfl ?_ | refine zx_imul (pc2 := 97) d_Mo_catchUp_96 rfl ?_
        first | refine zx_iaddN (pc2 := 98) d_Mo_catchUp_97 rfl ?_ | refine zx_iadd (pc2 := 98) d_Mo_catchUp_97 rfl ?_
        refine zx_ist6 (pc2 := 100) d_Mo_catchUp_98 rfl rfl (by decide) ?_
        refine zx_iload (pc2 := 102) d_Mo_catchUp_100 rfl rfl ?_
        refine zx_if_eq (pc2 := 105) d_Mo_catchUp_102 rfl (tgt := 215) (by decide) (fun _ => ?_) (fun cz => absurd (q1) cz)
        refine zx_inc4 (pc2 := 218) d_Mo_catchUp_215 rfl (zk_1 _) rfl (by decide) ?_
        refine zx_goto (tgt := 67) d_Mo_catchUp_218 (by decide) ?_
        exact ih _ _ _ _
      · rw [q3] at ih
        refine zx_iload (pc2 := 69) d_Mo_catchUp_67 rfl rfl ?_
        refine zx_bipush (pc2 := 71) (v := nI 8) d_Mo_catchUp_69 rfl (by decide) ?_
        refine zx_icmp_ge (pc2 := 74) d_Mo_catchUp_71 rfl (tgt := 221) (by decide) (fun cz => absurd cz (nI_ge hpl (by decide))) (fun _ => ?_)
        refine zx_aload_n (pc2 := 75) d_Mo_catchUp_74 rfl rfl ?_
        refine zm_getR (pc2 := 78) f_Mo_54 d_Mo_catchUp_75 rfl zl_c546 rfl ?_
        refine zx_bipush (pc2 := 80) (v := nI 8) d_Mo_catchUp_78 rfl (by decide) ?_
        refine zx_iload_n (pc2 := 81) d_Mo_catchUp_80 rfl rfl ?_
        first | refine zx_imulN (pc2 := 82) d_Mo_catchUp_81 rfl ?_ | refine zx_imul (pc2 := 82) d_Mo_catchUp_81 rfl ?_
        refine zx_iload (pc2 := 84) d_Mo_catchUp_82 rfl rfl ?_
        first | refine zx_iaddN (pc2 := 85) d_Mo_catchUp_84 rfl ?_ | refine zx_iadd (pc2 := 85) d_Mo_catchUp_84 rfl ?_
        refine zk_iald (pc2 := 86) d_Mo_catchUp_85 rfl (by rfl) rfl (by omega) (by decide) ?_
        refine zx_ist5 (pc2 := 88) d_Mo_catchUp_86 rfl rfl (by decide) ?_
        refine zx_bipush (pc2 := 90) (v := nI 88) d_Mo_catchUp_88 rfl (by decide) ?_
        refine zx_iload_n (pc2 := 91) d_Mo_catchUp_90 rfl rfl ?_
        first | refine zx_imulN (pc2 := 92) d_Mo_catchUp_91 rfl ?_ | refine zx_imul (pc2 := 92) d_Mo_catchUp_91 rfl ?_
        refine zx_bipush (pc2 := 94) (v := nI 11) d_Mo_catchUp_92 rfl (by decide) ?_
        refine zx_iload (pc2 := 96) d_Mo_catchUp_94 rfl rfl ?_
        first | refine zx_imulN (pc2 := 97) d_Mo_catchUp_96 rfl ?_ | refine zx_imul (pc2 := 97) d_Mo_catchUp_96 rfl ?_
        first | refine zx_iaddN (pc2 := 98) d_Mo_catchUp_97 rfl ?_ | refine zx_iadd (pc2 := 98) d_Mo_catchUp_97 rfl ?_
        refine zx_ist6 (pc2 := 100) d_Mo_catchUp_98 rfl rfl (by decide) ?_
        refine zx_iload (pc2 := 102) d_Mo_catchUp_100 rfl rfl ?_
        refine zx_if_eq (pc2 := 105) d_Mo_catchUp_102 rfl (tgt := 215) (by decide) (fun cz => absurd cz (q1)) (fun _ => ?_)
        refine zx_aload_n (pc2 := 106) d_Mo_catchUp_105 rfl rfl ?_
        refine zm_getR (pc2 := 109) f_Mo_24 d_Mo_catchUp_106 rfl zl_c546 rfl ?_
        refine zx_iload (pc2 := 111) d_Mo_catchUp_109 rfl rfl ?_
        refine zx_iconst (pc2 := 112) (v := nI 2) d_Mo_catchUp_111 rfl (by decide) ?_
        first | refine zx_iaddN (pc2 := 113) d_Mo_catchUp_112 rfl ?_ | refine zx_iadd (pc2 := 113) d_Mo_catchUp_112 rfl ?_
        refine zk_iald (pc2 := 114) d_Mo_catchUp_113 rfl (by rfl) rfl (by omega) (by decide) ?_
        refine zx_if_ne (pc2 := 117) d_Mo_catchUp_114 rfl (tgt := 215) (by decide) (fun _ => ?_) (fun cz => absurd cz (q2))
        refine zx_inc4 (pc2 := 218) d_Mo_catchUp_215 rfl (zk_1 _) rfl (by decide) ?_
        refine zx_goto (tgt := 67) d_Mo_catchUp_218 (by decide) ?_
        exact ih _ _ _ _
      · rw [q4] at ih
        refine zx_iload (pc2 := 69) d_Mo_catchUp_67 rfl rfl ?_
        refine zx_bipush (pc2 := 71) (v := nI 8) d_Mo_catchUp_69 rfl (by decide) ?_
        refine zx_icmp_ge (pc2 := 74) d_Mo_catchUp_71 rfl (tgt := 221) (by decide) (fun cz => absurd cz (nI_ge hpl (by decide))) (fun _ => ?_)
        refine zx_aload_n (pc2 := 75) d_Mo_catchUp_74 rfl rfl ?_
        refine zm_getR (pc2 := 78) f_Mo_54 d_Mo_catchUp_75 rfl zl_c546 rfl ?_
        refine zx_bipush (pc2 := 80) (v := nI 8) d_Mo_catchUp_78 rfl (by decide) ?_
        refine zx_iload_n (pc2 := 81) d_Mo_catchUp_80 rfl rfl ?_
        first | refine zx_imulN (pc2 := 82) d_Mo_catchUp_81 rfl ?_ | refine zx_imul (pc2 := 82) d_Mo_catchUp_81 rfl ?_
        refine zx_iload (pc2 := 84) d_Mo_catchUp_82 rfl rfl ?_
        first | refine zx_iaddN (pc2 := 85) d_Mo_catchUp_84 rfl ?_ | refine zx_iadd (pc2 := 85) d_Mo_catchUp_84 rfl ?_
        refine zk_iald (pc2 := 86) d_Mo_catchUp_85 rfl (by rfl) rfl (by omega) (by decide) ?_
        refine zx_ist5 (pc2 := 88) d_Mo_catchUp_86 rfl rfl (by decide) ?_
        refine zx_bipush (pc2 := 90) (v := nI 88) d_Mo_catchUp_88 rfl (by decide) ?_
        refine zx_iload_n (pc2 := 91) d_Mo_catchUp_90 rfl rfl ?_
        first | refine zx_imulN (pc2 := 92) d_Mo_catchUp_91 rfl ?_ | refine zx_imul (pc2 := 92) d_Mo_catchUp_91 rfl ?_
        refine zx_bipush (pc2 := 94) (v := nI 11) d_Mo_catchUp_92 rfl (by decide) ?_
        refine zx_iload (pc2 := 96) d_Mo_catchUp_94 rfl rfl ?_
        first | refine zx_imulN (pc2 := 97) d_Mo_catchUp_96 rfl ?_ | refine zx_imul (pc2 := 97) d_Mo_catchUp_96 rfl ?_
        first | refine zx_iaddN (pc2 := 98) d_Mo_catchUp_97 rfl ?_ | refine zx_iadd (pc2 := 98) d_Mo_catchUp_97 rfl ?_
        refine zx_ist6 (pc2 := 100) d_Mo_catchUp_98 rfl rfl (by decide) ?_
        refine zx_iload (pc2 := 102) d_Mo_catchUp_100 rfl rfl ?_
        refine zx_if_eq (pc2 := 105) d_Mo_catchUp_102 rfl (tgt := 215) (by decide) (fun cz => absurd cz (q1)) (fun _ => ?_)
        refine zx_aload_n (pc2 := 106) d_Mo_catchUp_105 rfl rfl ?_
        refine zm_getR (pc2 := 109) f_Mo_24 d_Mo_catchUp_106 rfl zl_c546 rfl ?_
        refine zx_iload (pc2 := 111) d_Mo_catchUp_109 rfl rfl ?_
        refine zx_iconst (pc2 := 112) (v := nI 2) d_Mo_catchUp_111 rfl (by decide) ?_
        first | refine zx_iaddN (pc2 := 113) d_Mo_catchUp_112 rfl ?_ | refine zx_iadd (pc2 := 113) d_Mo_catchUp_112 rfl ?_
        refine zk_iald (pc2 := 114) d_Mo_catchUp_113 rfl (by rfl) rfl (by omega) (by decide) ?_
        refine zx_if_ne (pc2 := 117) d_Mo_catchUp_114 rfl (tgt := 215) (by decide) (fun cz => absurd (q2) cz) (fun _ => ?_)
        refine zx_aload_n (pc2 := 118) d_Mo_catchUp_117 rfl rfl ?_
        refine zx_iload_n (pc2 := 119) d_Mo_catchUp_118 rfl rfl ?_
        refine zx_iload (pc2 := 121) d_Mo_catchUp_119 rfl rfl ?_
        refine zx_iload (pc2 := 123) d_Mo_catchUp_121 rfl rfl ?_
        refine zk_callV (pc2 := 126) s_Mo_182 v_Mo_findThree (zl_c546) (q3) d_Mo_catchUp_123 rfl rfl rfl (Nat.le_of_ble_eq_true rfl) (by decide) (by decide) ?_
        refine zx_if_eq (pc2 := 129) d_Mo_catchUp_126 rfl (tgt := 215) (by decide) (fun _ => ?_) (fun cz => absurd (by decide) cz)
        refine zx_inc4 (pc2 := 218) d_Mo_catchUp_215 rfl (zk_1 _) rfl (by decide) ?_
        refine zx_goto (tgt := 67) d_Mo_catchUp_218 (by decide) ?_
        exact ih _ _ _ _
      · rw [q8] at ih
        dsimp only at ih
        have h3 : ∀ V, zK l D ar b Z y_Mo_third 0 [.int (nI len)] V n (some (.int (nI ((len + 2) / 3)))) V := by
          intro V
          have := c_Mo_third (l := l) (D := D) (ar := ar) (b := b) (Z := Z) (M := V) (n := n) (x := nI len)
          rwa [gs_third_nI (by omega)] at this
        have hsb : ∀ k i, i < 8 → zK l D ar b Z y_Mo_shareByte 1 [.ref (b + 546), .ref (b + 567), .int (nI 0), .int (nI len), .int (nI s), .int (nI i)] (gm_cw W2 s pl len (zm_I (T pl).1 559 (8 * p + pl)) f k) n (some (.int (nI (gs_shb f len s i)))) (gm_cw W2 s pl len (zm_I (T pl).1 559 (8 * p + pl)) f k) := fun k i hi => c_Mo_shareByte (gt_fr2 (fun r x hr => gm_cw_n (by rcases hr with rfl | rfl <;> decide)) q6) zl_c567 (by decide) q5 (by omega) hs hi (fun x hx => ⟨(gm_cw_n (by decide)).trans (q7 x hx).1, (q7 x hx).2⟩)
        refine zx_iload (pc2 := 69) d_Mo_catchUp_67 rfl rfl ?_
        refine zx_bipush (pc2 := 71) (v := nI 8) d_Mo_catchUp_69 rfl (by decide) ?_
        refine zx_icmp_ge (pc2 := 74) d_Mo_catchUp_71 rfl (tgt := 221) (by decide) (fun cz => absurd cz (nI_ge hpl (by decide))) (fun _ => ?_)
        refine zx_aload_n (pc2 := 75) d_Mo_catchUp_74 rfl rfl ?_
        refine zm_getR (pc2 := 78) f_Mo_54 d_Mo_catchUp_75 rfl zl_c546 rfl ?_
        refine zx_bipush (pc2 := 80) (v := nI 8) d_Mo_catchUp_78 rfl (by decide) ?_
        refine zx_iload_n (pc2 := 81) d_Mo_catchUp_80 rfl rfl ?_
        first | refine zx_imulN (pc2 := 82) d_Mo_catchUp_81 rfl ?_ | refine zx_imul (pc2 := 82) d_Mo_catchUp_81 rfl ?_
        refine zx_iload (pc2 := 84) d_Mo_catchUp_82 rfl rfl ?_
        first | refine zx_iaddN (pc2 := 85) d_Mo_catchUp_84 rfl ?_ | refine zx_iadd (pc2 := 85) d_Mo_catchUp_84 rfl ?_
        refine zk_iald (pc2 := 86) d_Mo_catchUp_85 rfl (by rfl) rfl (by omega) (by decide) ?_
        refine zx_ist5 (pc2 := 88) d_Mo_catchUp_86 rfl rfl (by decide) ?_
        refine zx_bipush (pc2 := 90) (v := nI 88) d_Mo_catchUp_88 rfl (by decide) ?_
        refine zx_iload_n (pc2 := 91) d_Mo_catchUp_90 rfl rfl ?_
        first | refine zx_imulN (pc2 := 92) d_Mo_catchUp_91 rfl ?_ | refine zx_imul (pc2 := 92) d_Mo_catchUp_91 rfl ?_
        refine zx_bipush (pc2 := 94) (v := nI 11) d_Mo_catchUp_92 rfl (by decide) ?_
        refine zx_iload (pc2 := 96) d_Mo_catchUp_94 rfl rfl ?_
        first | refine zx_imulN (pc2 := 97) d_Mo_catchUp_96 rfl ?_ | refine zx_imul (pc2 := 97) d_Mo_catchUp_96 rfl ?_
        first | refine zx_iaddN (pc2 := 98) d_Mo_catchUp_97 rfl ?_ | refine zx_iadd (pc2 := 98) d_Mo_catchUp_97 rfl ?_
        refine zx_ist6 (pc2 := 100) d_Mo_catchUp_98 rfl rfl (by decide) ?_
        refine zx_iload (pc2 := 102) d_Mo_catchUp_100 rfl rfl ?_
        refine zx_if_eq (pc2 := 105) d_Mo_catchUp_102 rfl (tgt := 215) (by decide) (fun cz => absurd cz (q1)) (fun _ => ?_)
        refine zx_aload_n (pc2 := 106) d_Mo_catchUp_105 rfl rfl ?_
        refine zm_getR (pc2 := 109) f_Mo_24 d_Mo_catchUp_106 rfl zl_c546 rfl ?_
        refine zx_iload (pc2 := 111) d_Mo_catchUp_109 rfl rfl ?_
        refine zx_iconst (pc2 := 112) (v := nI 2) d_Mo_catchUp_111 rfl (by decide) ?_
        first | refine zx_iaddN (pc2 := 113) d_Mo_catchUp_112 rfl ?_ | refine zx_iadd (pc2 := 113) d_Mo_catchUp_112 rfl ?_
        refine zk_iald (pc2 := 114) d_Mo_catchUp_113 rfl (by rfl) rfl (by omega) (by decide) ?_
        refine zx_if_ne (pc2 := 117) d_Mo_catchUp_114 rfl (tgt := 215) (by decide) (fun cz => absurd (q2) cz) (fun _ => ?_)
        refine zx_aload_n (pc2 := 118) d_Mo_catchUp_117 rfl rfl ?_
        refine zx_iload_n (pc2 := 119) d_Mo_catchUp_118 rfl rfl ?_
        refine zx_iload (pc2 := 121) d_Mo_catchUp_119 rfl rfl ?_
        refine zx_iload (pc2 := 123) d_Mo_catchUp_121 rfl rfl ?_
        refine zk_callV (pc2 := 126) s_Mo_182 v_Mo_findThree (zl_c546) (q3) d_Mo_catchUp_123 rfl rfl rfl (Nat.le_of_ble_eq_true rfl) (by decide) (by decide) ?_
        refine zx_if_eq (pc2 := 129) d_Mo_catchUp_126 rfl (tgt := 215) (by decide) (fun cz => absurd cz (by decide)) (fun _ => ?_)
        refine zx_aload_n (pc2 := 130) d_Mo_catchUp_129 rfl rfl ?_
        refine zx_iload (pc2 := 132) d_Mo_catchUp_130 rfl rfl ?_
        refine zk_callV (pc2 := 135) s_Mo_185 v_Mo_fromThree (zl_c546) (q4) d_Mo_catchUp_132 rfl rfl rfl (Nat.le_of_ble_eq_true rfl) (by decide) (by decide) ?_
        refine zx_ist7 (pc2 := 137) d_Mo_catchUp_135 rfl rfl (by decide) ?_
        refine zx_aload_n (pc2 := 138) d_Mo_catchUp_137 rfl rfl ?_
        refine zm_getR (pc2 := 141) f_Mo_24 d_Mo_catchUp_138 rfl zl_c546 rfl ?_
        refine zx_iload (pc2 := 143) d_Mo_catchUp_141 rfl rfl ?_
        refine zx_iconst (pc2 := 144) (v := nI 0) d_Mo_catchUp_143 rfl (by decide) ?_
        refine zk_iast (pc2 := 145) d_Mo_catchUp_144 rfl (by rfl) rfl (by omega) (by decide) ?_
        refine zx_aload_n (pc2 := 146) d_Mo_catchUp_145 rfl rfl ?_
        refine zm_getR (pc2 := 149) f_Mo_24 d_Mo_catchUp_146 rfl zl_c546 rfl ?_
        refine zx_iload (pc2 := 151) d_Mo_catchUp_149 rfl rfl ?_
        refine zx_iconst (pc2 := 152) (v := nI 1) d_Mo_catchUp_151 rfl (by decide) ?_
        first | refine zx_iaddN (pc2 := 153) d_Mo_catchUp_152 rfl ?_ | refine zx_iadd (pc2 := 153) d_Mo_catchUp_152 rfl ?_
        refine zx_iload (pc2 := 155) d_Mo_catchUp_153 rfl rfl ?_
        refine zk_iast (pc2 := 156) d_Mo_catchUp_155 rfl (by rfl) rfl (by omega) (by decide) ?_
        refine zx_aload_n (pc2 := 157) d_Mo_catchUp_156 rfl rfl ?_
        refine zm_getR (pc2 := 160) f_Mo_24 d_Mo_catchUp_157 rfl zl_c546 rfl ?_
        refine zx_iload (pc2 := 162) d_Mo_catchUp_160 rfl rfl ?_
        refine zx_iconst (pc2 := 163) (v := nI 2) d_Mo_catchUp_162 rfl (by decide) ?_
        first | refine zx_iaddN (pc2 := 164) d_Mo_catchUp_163 rfl ?_ | refine zx_iadd (pc2 := 164) d_Mo_catchUp_163 rfl ?_
        refine zx_iload (pc2 := 166) d_Mo_catchUp_164 rfl rfl ?_
        refine zk_iast (pc2 := 167) d_Mo_catchUp_166 rfl (by rfl) rfl (by omega) (by decide) ?_
        refine zx_iconst (pc2 := 168) (v := nI 0) d_Mo_catchUp_167 rfl (by decide) ?_
        refine zx_ist8 (pc2 := 170) d_Mo_catchUp_168 rfl rfl (by decide) ?_
        generalize zm_I (T pl).1 559 (8 * p + pl) = id at ih hsb
        have e0 : gm_cw W2 s pl len id f 0 = gm_cw0 W2 s pl len id := gm_up0
        refine Eq.mp (congrArg (fun w => zk_X l D ar b Z y_Mo_catchUp 6 (some (.int (nI TE.2))) TE.1 n 170 [some (.ref (b + 546)), some (.int (nI s)), some (.int (nI p)), some (.int (nI (T pl).2)), some (.int (nI pl)), some (.int id), some (.int (nI (88 * s + 11 * pl))), some (.int (nI len)), some (.int (nI 0))] [] w) e0) ?_
        refine zx_for (X := fun k => zk_X l D ar b Z y_Mo_catchUp 6 (some (.int (nI TE.2))) TE.1 n 170 [some (.ref (b + 546)), some (.int (nI s)), some (.int (nI p)), some (.int (nI (T pl).2)), some (.int (nI pl)), some (.int id), some (.int (nI (88 * s + 11 * pl))), some (.int (nI len)), some (.int (nI k))] [] (gm_cw W2 s pl len id f k)) ((len + 2) / 3) ?_ ?_ 0 (Nat.zero_le _)
        · refine zx_iload (pc2 := 172) d_Mo_catchUp_170 rfl rfl ?_
          refine zx_iload (pc2 := 174) d_Mo_catchUp_172 rfl rfl ?_
          refine zk_callS (pc2 := 177) s_Mo_100 t_Mo_third (h3 _) d_Mo_catchUp_174 rfl rfl rfl (Nat.le_of_ble_eq_true rfl) (by decide) (by decide) ?_
          refine zx_icmp_ge (pc2 := 180) d_Mo_catchUp_177 rfl (tgt := 212) (by decide) (fun _ => ?_) (fun cz => absurd (nI_le (Nat.le_refl _) (by omega)) cz)
          refine zx_inc3 (pc2 := 215) d_Mo_catchUp_212 rfl (zk_1 _) rfl (by decide) ?_
          refine zx_inc4 (pc2 := 218) d_Mo_catchUp_215 rfl (zk_1 _) rfl (by decide) ?_
          refine zx_goto (tgt := 67) d_Mo_catchUp_218 (by decide) ?_
          exact ih _ _ _ _
        · intro k hk ih2
          have eS : gm_cw W2 s pl len id f (k + 1) = zm_wI (gm_cw W2 s pl len id f k) 550 (88 * s + 11 * pl + 3 + k) (nI (gs_shb f len s k)) := gm_upS.symm
          rw [eS] at ih2
          refine zx_iload (pc2 := 172) d_Mo_catchUp_170 rfl rfl ?_
          refine zx_iload (pc2 := 174) d_Mo_catchUp_172 rfl rfl ?_
          refine zk_callS (pc2 := 177) s_Mo_100 t_Mo_third (h3 _) d_Mo_catchUp_174 rfl rfl rfl (Nat.le_of_ble_eq_true rfl) (by decide) (by decide) ?_
          refine zx_icmp_ge (pc2 := 180) d_Mo_catchUp_177 rfl (tgt := 212) (by decide) (fun cz => absurd cz (nI_ge hk (by omega))) (fun _ => ?_)
          refine zx_aload_n (pc2 := 181) d_Mo_catchUp_180 rfl rfl ?_
          refine zm_getR (pc2 := 184) f_Mo_24 d_Mo_catchUp_181 rfl zl_c546 rfl ?_
          refine zx_iload (pc2 := 186) d_Mo_catchUp_184 rfl rfl ?_
          refine zx_iconst (pc2 := 187) (v := nI 3) d_Mo_catchUp_186 rfl (by decide) ?_
          first | refine zx_iaddN (pc2 := 188) d_Mo_catchUp_187 rfl ?_ | refine zx_iadd (pc2 := 188) d_Mo_catchUp_187 rfl ?_
          refine zx_iload (pc2 := 190) d_Mo_catchUp_188 rfl rfl ?_
          first | refine zx_iaddN (pc2 := 191) d_Mo_catchUp_190 rfl ?_ | refine zx_iadd (pc2 := 191) d_Mo_catchUp_190 rfl ?_
          refine zx_aload_n (pc2 := 192) d_Mo_catchUp_191 rfl rfl ?_
          refine zx_aload_n (pc2 := 193) d_Mo_catchUp_192 rfl rfl ?_
          refine zm_getR (pc2 := 196) f_Mo_78 d_Mo_catchUp_193 rfl zl_c546 rfl ?_
          refine zx_iconst (pc2 := 197) (v := nI 0) d_Mo_catchUp_196 rfl (by decide) ?_
          refine zx_iload (pc2 := 199) d_Mo_catchUp_197 rfl rfl ?_
          refine zx_iload_n (pc2 := 200) d_Mo_catchUp_199 rfl rfl ?_
          refine zx_iload (pc2 := 202) d_Mo_catchUp_200 rfl rfl ?_
          refine zk_callV (pc2 := 205) s_Mo_118 v_Mo_shareByte (zl_c546) (hsb k k (by omega)) d_Mo_catchUp_202 rfl rfl rfl (Nat.le_of_ble_eq_true rfl) (by decide) (by decide) ?_
          refine zk_iast (pc2 := 206) d_Mo_catchUp_205 rfl (by rfl) rfl (by omega) (by decide) ?_
          refine zx_inc8 (pc2 := 209) d_Mo_catchUp_206 rfl (zk_1 _) rfl (by decide) ?_
          refine zx_goto (tgt := 170) d_Mo_catchUp_209 (by decide) ?_
          exact ih2
  have k0 := key 0 (Nat.zero_le _) none none none none
  rw [h0] at k0
  exact k0
end C69
