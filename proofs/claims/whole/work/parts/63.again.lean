/-! LogHouseModel: again: what the promises say of a place -/
abbrev gs_hb (M : zm_M) (p s : Nat) : Prop := (zm_I M 555 p >>> (nI s &&& 31)) &&& nI 1 = nI 1
abbrev gs_at (p pl s : Nat) : Nat := 616 * p + 88 * s + 11 * pl
abbrev gs_hp (M : zm_M) (p pl s : Nat) : Prop := gs_hb M p s ∧ ¬ zm_I M 556 (gs_at p pl s + 2) ≤ 0
def gs_nn (M : zm_M) (p pl : Nat) (id : Int32) : Nat → Nat
  | 0 => 0
  | o + 1 => if gs_hp M p pl o ∧ zm_I M 556 (gs_at p pl o + 1) = id then gs_nn M p pl id o + 1 else gs_nn M p pl id o
theorem gs_nn_le {M : zm_M} {p pl : Nat} {id : Int32} : ∀ o, gs_nn M p pl id o ≤ o
  | 0 => Nat.le_refl 0
  | o + 1 => by
    have := gs_nn_le (M := M) (p := p) (pl := pl) (id := id) o
    unfold gs_nn
    split <;> omega
abbrev gs_bt2 (M : zm_M) (p pl s : Nat) (q : Int32 × Int32) : Prop := gs_hp M p pl s ∧ 2 < gs_nn M p pl (zm_I M 556 (gs_at p pl s + 1)) 7 ∧ (q.1 < zm_I M 556 (gs_at p pl s) ∨ (zm_I M 556 (gs_at p pl s) = q.1 ∧ zm_I M 556 (gs_at p pl s + 1) < q.2))
def gs_bo (M : zm_M) (p pl : Nat) : Nat → Int32 × Int32
  | 0 => (-1, nI 0)
  | s + 1 => if gs_bt2 M p pl s (gs_bo M p pl s) then (zm_I M 556 (gs_at p pl s), zm_I M 556 (gs_at p pl s + 1)) else gs_bo M p pl s
section C63
variable {l : Launch} {D : va_G} {ar : Nat → ClassId} {b : Nat} {Z : State → Prop} {M : zm_M} {n : Nat}
theorem c_Mo_againL {p pl : Nat} {r : Int32} {ME : zm_M} (hp : p < 2) (hpl : pl < 8)
    (kk : ∀ z6 z7 z8 z9 : Option Value, zk_X l D ar b Z y_Mo_again 4 (some (.int r)) ME n 197 [some (.ref (b + 546)), some (.int (nI p)), some (.int (nI pl)), some (.int (gs_bo M p pl 7).1), some (.int (gs_bo M p pl 7).2), some (.int (nI 7)), z6, z7, z8, z9] [] M) : zK l D ar b Z y_Mo_again 4 [.ref (b + 546), .int (nI p), .int (nI pl)] M n (some (.int r)) ME := by
  refine zk_entry (L := [some (.ref (b + 546)), some (.int (nI p)), some (.int (nI pl)), none, none, none, none, none, none, none]) rfl rfl (Nat.le_of_ble_eq_true rfl) rfl rfl ?_
  refine zx_iconst (pc2 := 1) (v := -1) d_Mo_again_0 rfl (by decide) ?_
  refine zx_ist3 (pc2 := 2) d_Mo_again_1 rfl rfl (by decide) ?_
  refine zx_iconst (pc2 := 3) (v := nI 0) d_Mo_again_2 rfl (by decide) ?_
  refine zx_ist4 (pc2 := 5) d_Mo_again_3 rfl rfl (by decide) ?_
  refine zx_iconst (pc2 := 6) (v := nI 0) d_Mo_again_5 rfl (by decide) ?_
  refine zx_ist5 (pc2 := 8) d_Mo_again_6 rfl rfl (by decide) ?_
  have key : ∀ s, s ≤ 7 → ∀ z6 z7 z8 z9 : Option Value, zk_X l D ar b Z y_Mo_again 4 (some (.int r)) ME n 8 [some (.ref (b + 546)), some (.int (nI p)), some (.int (nI pl)), some (.int (gs_bo M p pl s).1), some (.int (gs_bo M p pl s).2), some (.int (nI s)), z6, z7, z8, z9] [] M := by
    refine zx_for (X := fun s => ∀ z6 z7 z8 z9 : Option Value, zk_X l D ar b Z y_Mo_again 4 (some (.int r)) ME n 8 [some (.ref (b + 546)), some (.int (nI p)), some (.int (nI pl)), some (.int (gs_bo M p pl s).1), some (.int (gs_bo M p pl s).2), some (.int (nI s)), z6, z7, z8, z9] [] M) 7 ?_ ?_
    · intro z6 z7 z8 z9
      refine zx_iload (pc2 := 10) d_Mo_again_8 rfl rfl ?_
      refine zx_bipush (pc2 := 12) (v := nI 7) d_Mo_again_10 rfl (by decide) ?_
      refine zx_icmp_ge (pc2 := 15) d_Mo_again_12 rfl (tgt := 197) (by decide) (fun _ => ?_) (fun cz => absurd (nI_le (Nat.le_refl 7) (by decide)) cz)
      exact kk z6 z7 z8 z9
    · intro s hs ih z6 z7 z8 z9
      have hat : gs_at p pl s + 11 ≤ 1232 := by show 616 * p + 88 * s + 11 * pl + 11 ≤ 1232; omega
      by_cases c1 : gs_hb M p s
      · by_cases c2 : zm_I M 556 (616 * p + 88 * s + 11 * pl + 2) ≤ 0
        · have e : gs_bo M p pl (s + 1) = gs_bo M p pl s := if_neg (fun z => z.1.2 c2)
          rw [e] at ih
          refine zx_iload (pc2 := 10) d_Mo_again_8 rfl rfl ?_
          refine zx_bipush (pc2 := 12) (v := nI 7) d_Mo_again_10 rfl (by decide) ?_
          refine zx_icmp_ge (pc2 := 15) d_Mo_again_12 rfl (tgt := 197) (by decide) (fun cz => absurd cz (nI_ge hs (by decide))) (fun _ => ?_)
          refine zx_iload_n (pc2 := 16) d_Mo_again_15 rfl rfl ?_
          refine zx_iload (pc2 := 18) d_Mo_again_16 rfl rfl ?_
          refine zx_iload_n (pc2 := 19) d_Mo_again_18 rfl rfl ?_
          refine zk_callS (pc2 := 22) s_Mo_143 t_Mo_heardAt (c_Mo_heardAt) d_Mo_again_19 rfl rfl rfl (Nat.le_of_ble_eq_true rfl) (by decide) (by decide) ?_
          refine zx_ist6 (pc2 := 24) d_Mo_again_22 rfl rfl (by decide) ?_
          refine zx_aload_n (pc2 := 25) d_Mo_again_24 rfl rfl ?_
          refine zm_getR (pc2 := 28) f_Mo_42 d_Mo_again_25 rfl zl_c546 rfl ?_
          refine zx_iload_n (pc2 := 29) d_Mo_again_28 rfl rfl ?_
          refine zk_iald (pc2 := 30) d_Mo_again_29 rfl (by rfl) rfl (by omega) (by decide) ?_
          refine zx_iload (pc2 := 32) d_Mo_again_30 rfl rfl ?_
          refine zx_ishr (pc2 := 33) d_Mo_again_32 rfl ?_
          refine zx_iconst (pc2 := 34) (v := nI 1) d_Mo_again_33 rfl (by decide) ?_
          refine zx_iand (pc2 := 35) d_Mo_again_34 rfl ?_
          refine zx_iconst (pc2 := 36) (v := nI 1) d_Mo_again_35 rfl (by decide) ?_
          refine zx_icmp_ne (pc2 := 39) d_Mo_again_36 rfl (tgt := 191) (by decide) (fun cz => absurd (c1) cz) (fun _ => ?_)
          refine zx_aload_n (pc2 := 40) d_Mo_again_39 rfl rfl ?_
          refine zm_getR (pc2 := 43) f_Mo_45 d_Mo_again_40 rfl zl_c546 rfl ?_
          refine zx_iload (pc2 := 45) d_Mo_again_43 rfl rfl ?_
          refine zx_iconst (pc2 := 46) (v := nI 2) d_Mo_again_45 rfl (by decide) ?_
          first | refine zx_iaddN (pc2 := 47) d_Mo_again_46 rfl ?_ | refine zx_iadd (pc2 := 47) d_Mo_again_46 rfl ?_
          refine zk_iald (pc2 := 48) d_Mo_again_47 rfl (by rfl) rfl (by omega) (by decide) ?_
          refine zx_if_le (pc2 := 51) d_Mo_again_48 rfl (tgt := 191) (by decide) (fun _ => ?_) (fun cz => absurd (c2) cz)
          refine zx_inc5 (pc2 := 194) d_Mo_again_191 rfl (zk_1 _) rfl (by decide) ?_
          refine zx_goto (tgt := 8) d_Mo_again_194 (by decide) ?_
          exact ih _ _ _ _
        · refine zx_iload (pc2 := 10) d_Mo_again_8 rfl rfl ?_
          refine zx_bipush (pc2 := 12) (v := nI 7) d_Mo_again_10 rfl (by decide) ?_
          refine zx_icmp_ge (pc2 := 15) d_Mo_again_12 rfl (tgt := 197) (by decide) (fun cz => absurd cz (nI_ge hs (by decide))) (fun _ => ?_)
          refine zx_iload_n (pc2 := 16) d_Mo_again_15 rfl rfl ?_
          refine zx_iload (pc2 := 18) d_Mo_again_16 rfl rfl ?_
          refine zx_iload_n (pc2 := 19) d_Mo_again_18 rfl rfl ?_
          refine zk_callS (pc2 := 22) s_Mo_143 t_Mo_heardAt (c_Mo_heardAt) d_Mo_again_19 rfl rfl rfl (Nat.le_of_ble_eq_true rfl) (by decide) (by decide) ?_
          refine zx_ist6 (pc2 := 24) d_Mo_again_22 rfl rfl (by decide) ?_
          refine zx_aload_n (pc2 := 25) d_Mo_again_24 rfl rfl ?_
          refine zm_getR (pc2 := 28) f_Mo_42 d_Mo_again_25 rfl zl_c546 rfl ?_
          refine zx_iload_n (pc2 := 29) d_Mo_again_28 rfl rfl ?_
          refine zk_iald (pc2 := 30) d_Mo_again_29 rfl (by rfl) rfl (by omega) (by decide) ?_
          refine zx_iload (pc2 := 32) d_Mo_again_30 rfl rfl ?_
          refine zx_ishr (pc2 := 33) d_Mo_again_32 rfl ?_
          refine zx_iconst (pc2 := 34) (v := nI 1) d_Mo_again_33 rfl (by decide) ?_
          refine zx_iand (pc2 := 35) d_Mo_again_34 rfl ?_
          refine zx_iconst (pc2 := 36) (v := nI 1) d_Mo_again_35 rfl (by decide) ?_
          refine zx_icmp_ne (pc2 := 39) d_Mo_again_36 rfl (tgt := 191) (by decide) (fun cz => absurd (c1) cz) (fun _ => ?_)
          refine zx_aload_n (pc2 := 40) d_Mo_again_39 rfl rfl ?_
          refine zm_getR (pc2 := 43) f_Mo_45 d_Mo_again_40 rfl zl_c546 rfl ?_
          refine zx_iload (pc2 := 45) d_Mo_again_43 rfl rfl ?_
          refine zx_iconst (pc2 := 46) (v := nI 2) d_Mo_again_45 rfl (by decide) ?_
          first | refine zx_iaddN (pc2 := 47) d_Mo_again_46 rfl ?_ | refine zx_iadd (pc2 := 47) d_Mo_again_46 rfl ?_
          refine zk_iald (pc2 := 48) d_Mo_again_47 rfl (by rfl) rfl (by omega) (by decide) ?_
          refine zx_if_le (pc2 := 51) d_Mo_again_48 rfl (tgt := 191) (by decide) (fun cz => absurd cz (c2)) (fun _ => ?_)
          refine zx_iconst (pc2 := 52) (v := nI 0) d_Mo_again_51 rfl (by decide) ?_
          refine zx_ist7 (pc2 := 54) d_Mo_again_52 rfl rfl (by decide) ?_
          refine zx_iconst (pc2 := 55) (v := nI 0) d_Mo_again_54 rfl (by decide) ?_
          refine zx_ist8 (pc2 := 57) d_Mo_again_55 rfl rfl (by decide) ?_
          have inner : ∀ o, o ≤ 7 → ∀ z9 : Option Value, zk_X l D ar b Z y_Mo_again 4 (some (.int r)) ME n 57 [some (.ref (b + 546)), some (.int (nI p)), some (.int (nI pl)), some (.int (gs_bo M p pl s).1), some (.int (gs_bo M p pl s).2), some (.int (nI s)), some (.int (nI (616 * p + 88 * s + 11 * pl))), some (.int (nI (gs_nn M p pl (zm_I M 556 (616 * p + 88 * s + 11 * pl + 1)) o))), some (.int (nI o)), z9] [] M := by
            refine zx_for (X := fun o => ∀ z9 : Option Value, zk_X l D ar b Z y_Mo_again 4 (some (.int r)) ME n 57 [some (.ref (b + 546)), some (.int (nI p)), some (.int (nI pl)), some (.int (gs_bo M p pl s).1), some (.int (gs_bo M p pl s).2), some (.int (nI s)), some (.int (nI (616 * p + 88 * s + 11 * pl))), some (.int (nI (gs_nn M p pl (zm_I M 556 (616 * p + 88 * s + 11 * pl + 1)) o))), some (.int (nI o)), z9] [] M) 7 ?_ ?_
            · intro z9
              have hn7 := gs_nn_le (M := M) (p := p) (pl := pl) (id := zm_I M 556 (616 * p + 88 * s + 11 * pl + 1)) 7
              by_cases c3 : 2 < gs_nn M p pl (zm_I M 556 (616 * p + 88 * s + 11 * pl + 1)) 7
              · by_cases c4 : (gs_bo M p pl s).1 < zm_I M 556 (616 * p + 88 * s + 11 * pl)
                · have e : gs_bo M p pl (s + 1) = _ := if_pos ⟨⟨c1, c2⟩, c3, Or.inl c4⟩
                  rw [e] at ih
                  refine zx_iload (pc2 := 59) d_Mo_again_57 rfl rfl ?_
                  refine zx_bipush (pc2 := 61) (v := nI 7) d_Mo_again_59 rfl (by decide) ?_
                  refine zx_icmp_ge (pc2 := 64) d_Mo_again_61 rfl (tgt := 130) (by decide) (fun _ => ?_) (fun cz => absurd (nI_le (Nat.le_refl 7) (by decide)) cz)
                  refine zx_iload (pc2 := 132) d_Mo_again_130 rfl rfl ?_
                  refine zx_iconst (pc2 := 133) (v := nI 2) d_Mo_again_132 rfl (by decide) ?_
                  refine zx_icmp_le (pc2 := 136) d_Mo_again_133 rfl (tgt := 191) (by decide) (fun cz => absurd cz (nI_ge c3 (by omega))) (fun _ => ?_)
                  refine zx_aload_n (pc2 := 137) d_Mo_again_136 rfl rfl ?_
                  refine zm_getR (pc2 := 140) f_Mo_45 d_Mo_again_137 rfl zl_c546 rfl ?_
                  refine zx_iload (pc2 := 142) d_Mo_again_140 rfl rfl ?_
                  refine zk_iald (pc2 := 143) d_Mo_again_142 rfl (by rfl) rfl (by omega) (by decide) ?_
                  refine zx_iload_n (pc2 := 144) d_Mo_again_143 rfl rfl ?_
                  refine zx_icmp_gt (pc2 := 147) d_Mo_again_144 rfl (tgt := 172) (by decide) (fun _ => ?_) (fun cz => absurd (c4) cz)
                  refine zx_aload_n (pc2 := 173) d_Mo_again_172 rfl rfl ?_
                  refine zm_getR (pc2 := 176) f_Mo_45 d_Mo_again_173 rfl zl_c546 rfl ?_
                  refine zx_iload (pc2 := 178) d_Mo_again_176 rfl rfl ?_
                  refine zk_iald (pc2 := 179) d_Mo_again_178 rfl (by rfl) rfl (by omega) (by decide) ?_
                  refine zx_ist3 (pc2 := 180) d_Mo_again_179 rfl rfl (by decide) ?_
                  refine zx_aload_n (pc2 := 181) d_Mo_again_180 rfl rfl ?_
                  refine zm_getR (pc2 := 184) f_Mo_45 d_Mo_again_181 rfl zl_c546 rfl ?_
                  refine zx_iload (pc2 := 186) d_Mo_again_184 rfl rfl ?_
                  refine zx_iconst (pc2 := 187) (v := nI 1) d_Mo_again_186 rfl (by decide) ?_
                  first | refine zx_iaddN (pc2 := 188) d_Mo_again_187 rfl ?_ | refine zx_iadd (pc2 := 188) d_Mo_again_187 rfl ?_
                  refine zk_iald (pc2 := 189) d_Mo_again_188 rfl (by rfl) rfl (by omega) (by decide) ?_
                  refine zx_ist4 (pc2 := 191) d_Mo_again_189 rfl rfl (by decide) ?_
                  refine zx_inc5 (pc2 := 194) d_Mo_again_191 rfl (zk_1 _) rfl (by decide) ?_
                  refine zx_goto (tgt := 8) d_Mo_again_194 (by decide) ?_
                  exact ih _ _ _ _
                · by_cases c5 : zm_I M 556 (616 * p + 88 * s + 11 * pl) = (gs_bo M p pl s).1
                  · by_cases c6 : zm_I M 556 (616 * p + 88 * s + 11 * pl + 1) < (gs_bo M p pl s).2
                    · have e : gs_bo M p pl (s + 1) = _ := if_pos ⟨⟨c1, c2⟩, c3, Or.inr ⟨c5, c6⟩⟩
                      rw [e] at ih
                      refine zx_iload (pc2 := 59) d_Mo_again_57 rfl rfl ?_
                      refine zx_bipush (pc2 := 61) (v := nI 7) d_Mo_again_59 rfl (by decide) ?_
                      refine zx_icmp_ge (pc2 := 64) d_Mo_again_61 rfl (tgt := 130) (by decide) (fun _ => ?_) (fun cz => absurd (nI_le (Nat.le_refl 7) (by decide)) cz)
                      refine zx_iload (pc2 := 132) d_Mo_again_130 rfl rfl ?_
                      refine zx_iconst (pc2 := 133) (v := nI 2) d_Mo_again_132 rfl (by decide) ?_
                      refine zx_icmp_le (pc2 := 136) d_Mo_again_133 rfl (tgt := 191) (by decide) (fun cz => absurd cz (nI_ge c3 (by omega))) (fun _ => ?_)
                      refine zx_aload_n (pc2 := 137) d_Mo_again_136 rfl rfl ?_
                      refine zm_getR (pc2 := 140) f_Mo_45 d_Mo_again_137 rfl zl_c546 rfl ?_
                      refine zx_iload (pc2 := 142) d_Mo_again_140 rfl rfl ?_
                      refine zk_iald (pc2 := 143) d_Mo_again_142 rfl (by rfl) rfl (by omega) (by decide) ?_
                      refine zx_iload_n (pc2 := 144) d_Mo_again_143 rfl rfl ?_
                      refine zx_icmp_gt (pc2 := 147) d_Mo_again_144 rfl (tgt := 172) (by decide) (fun cz => absurd cz (c4)) (fun _ => ?_)
                      refine zx_aload_n (pc2 := 148) d_Mo_again_147 rfl rfl ?_
                      refine zm_getR (pc2 := 151) f_Mo_45 d_Mo_again_148 rfl zl_c546 rfl ?_
                      refine zx_iload (pc2 := 153) d_Mo_again_151 rfl rfl ?_
                      refine zk_iald (pc2 := 154) d_Mo_again_153 rfl (by rfl) rfl (by omega) (by decide) ?_
                      refine zx_iload_n (pc2 := 155) d_Mo_again_154 rfl rfl ?_
                      refine zx_icmp_ne (pc2 := 158) d_Mo_again_155 rfl (tgt := 191) (by decide) (fun cz => absurd (c5) cz) (fun _ => ?_)
                      refine zx_aload_n (pc2 := 159) d_Mo_again_158 rfl rfl ?_
                      refine zm_getR (pc2 := 162) f_Mo_45 d_Mo_again_159 rfl zl_c546 rfl ?_
                      refine zx_iload (pc2 := 164) d_Mo_again_162 rfl rfl ?_
                      refine zx_iconst (pc2 := 165) (v := nI 1) d_Mo_again_164 rfl (by decide) ?_
                      first | refine zx_iaddN (pc2 := 166) d_Mo_again_165 rfl ?_ | refine zx_iadd (pc2 := 166) d_Mo_again_165 rfl ?_
                      refine zk_iald (pc2 := 167) d_Mo_again_166 rfl (by rfl) rfl (by omega) (by decide) ?_
                      refine zx_iload (pc2 := 169) d_Mo_again_167 rfl rfl ?_
                      refine zx_icmp_ge (pc2 := 172) d_Mo_again_169 rfl (tgt := 191) (by decide) (fun cz => absurd cz (Int32.not_le.mpr c6)) (fun _ => ?_)
                      refine zx_aload_n (pc2 := 173) d_Mo_again_172 rfl rfl ?_
                      refine zm_getR (pc2 := 176) f_Mo_45 d_Mo_again_173 rfl zl_c546 rfl ?_
                      refine zx_iload (pc2 := 178) d_Mo_again_176 rfl rfl ?_
                      refine zk_iald (pc2 := 179) d_Mo_again_178 rfl (by rfl) rfl (by omega) (by decide) ?_
                      refine zx_ist3 (pc2 := 180) d_Mo_again_179 rfl rfl (by decide) ?_
                      refine zx_aload_n (pc2 := 181) d_Mo_again_180 rfl rfl ?_
                      refine zm_getR (pc2 := 184) f_Mo_45 d_Mo_again_181 rfl zl_c546 rfl ?_
                      refine zx_iload (pc2 := 186) d_Mo_again_184 rfl rfl ?_
                      refine zx_iconst (pc2 := 187) (v := nI 1) d_Mo_again_186 rfl (by decide) ?_
                      first | refine zx_iaddN (pc2 := 188) d_Mo_again_187 rfl ?_ | refine zx_iadd (pc2 := 188) d_Mo_again_187 rfl ?_
                      refine zk_iald (pc2 := 189) d_Mo_again_188 rfl (by rfl) rfl (by omega) (by decide) ?_
                      refine zx_ist4 (pc2 := 191) d_Mo_again_189 rfl rfl (by decide) ?_
                      refine zx_inc5 (pc2 := 194) d_Mo_again_191 rfl (zk_1 _) rfl (by decide) ?_
                      refine zx_goto (tgt := 8) d_Mo_again_194 (by decide) ?_
                      exact ih _ _ _ _
                    · have e : gs_bo M p pl (s + 1) = gs_bo M p pl s := if_neg (fun z => z.2.2.elim c4 (fun w => c6 w.2))
                      rw [e] at ih
                      refine zx_iload (pc2 := 59) d_Mo_again_57 rfl rfl ?_
                      refine zx_bipush (pc2 := 61) (v := nI 7) d_Mo_again_59 rfl (by decide) ?_
                      refine zx_icmp_ge (pc2 := 64) d_Mo_again_61 rfl (tgt := 130) (by decide) (fun _ => ?_) (fun cz => absurd (nI_le (Nat.le_refl 7) (by decide)) cz)
                      refine zx_iload (pc2 := 132) d_Mo_again_130 rfl rfl ?_
                      refine zx_iconst (pc2 := 133) (v := nI 2) d_Mo_again_132 rfl (by decide) ?_
                      refine zx_icmp_le (pc2 := 136) d_Mo_again_133 rfl (tgt := 191) (by decide) (fun cz => absurd cz (nI_ge c3 (by omega))) (fun _ => ?_)
                      refine zx_aload_n (pc2 := 137) d_Mo_again_136 rfl rfl ?_
                      refine zm_getR (pc2 := 140) f_Mo_45 d_Mo_again_137 rfl zl_c546 rfl ?_
                      refine zx_iload (pc2 := 142) d_Mo_again_140 rfl rfl ?_
                      refine zk_iald (pc2 := 143) d_Mo_again_142 rfl (by rfl) rfl (by omega) (by decide) ?_
                      refine zx_iload_n (pc2 := 144) d_Mo_again_143 rfl rfl ?_
                      refine zx_icmp_gt (pc2 := 147) d_Mo_again_144 rfl (tgt := 172) (by decide) (fun cz => absurd cz (c4)) (fun _ => ?_)
                      refine zx_aload_n (pc2 := 148) d_Mo_again_147 rfl rfl ?_
                      refine zm_getR (pc2 := 151) f_Mo_45 d_Mo_again_148 rfl zl_c546 rfl ?_
                      refine zx_iload (pc2 := 153) d_Mo_again_151 rfl rfl ?_
                      refine zk_iald (pc2 := 154) d_Mo_again_153 rfl (by rfl) rfl (by omega) (by decide) ?_
                      refine zx_iload_n (pc2 := 155) d_Mo_again_154 rfl rfl ?_
                      refine zx_icmp_ne (pc2 := 158) d_Mo_again_155 rfl (tgt := 191) (by decide) (fun cz => absurd (c5) cz) (fun _ => ?_)
                      refine zx_aload_n (pc2 := 159) d_Mo_again_158 rfl rfl ?_
                      refine zm_getR (pc2 := 162) f_Mo_45 d_Mo_again_159 rfl zl_c546 rfl ?_
                      refine zx_iload (pc2 := 164) d_Mo_again_162 rfl rfl ?_
                      refine zx_iconst (pc2 := 165) (v := nI 1) d_Mo_again_164 rfl (by decide) ?_
                      first | refine zx_iaddN (pc2 := 166) d_Mo_again_165 rfl ?_ | refine zx_iadd (pc2 := 166) d_Mo_again_165 rfl ?_
                      refine zk_iald (pc2 := 167) d_Mo_again_166 rfl (by rfl) rfl (by omega) (by decide) ?_
                      refine zx_iload (pc2 := 169) d_Mo_again_167 rfl rfl ?_
                      refine zx_icmp_ge (pc2 := 172) d_Mo_again_169 rfl (tgt := 191) (by decide) (fun _ => ?_) (fun cz => absurd (Int32.not_lt.mp c6) cz)
                      refine zx_inc5 (pc2 := 194) d_Mo_again_191 rfl (zk_1 _) rfl (by decide) ?_
                      refine zx_goto (tgt := 8) d_Mo_again_194 (by decide) ?_
                      exact ih _ _ _ _
                  · have e : gs_bo M p pl (s + 1) = gs_bo M p pl s := if_neg (fun z => z.2.2.elim c4 (fun w => c5 w.1))
                    rw [e] at ih
                    refine zx_iload (pc2 := 59) d_Mo_again_57 rfl rfl ?_
                    refine zx_bipush (pc2 := 61) (v := nI 7) d_Mo_again_59 rfl (by decide) ?_
                    refine zx_icmp_ge (pc2 := 64) d_Mo_again_61 rfl (tgt := 130) (by decide) (fun _ => ?_) (fun cz => absurd (nI_le (Nat.le_refl 7) (by decide)) cz)
                    refine zx_iload (pc2 := 132) d_Mo_again_130 rfl rfl ?_
                    refine zx_iconst (pc2 := 133) (v := nI 2) d_Mo_again_132 rfl (by decide) ?_
                    refine zx_icmp_le (pc2 := 136) d_Mo_again_133 rfl (tgt := 191) (by decide) (fun cz => absurd cz (nI_ge c3 (by omega))) (fun _ => ?_)
                    refine zx_aload_n (pc2 := 137) d_Mo_again_136 rfl rfl ?_
                    refine zm_getR (pc2 := 140) f_Mo_45 d_Mo_again_137 rfl zl_c546 rfl ?_
                    refine zx_iload (pc2 := 142) d_Mo_again_140 rfl rfl ?_
                    refine zk_iald (pc2 := 143) d_Mo_again_142 rfl (by rfl) rfl (by omega) (by decide) ?_
                    refine zx_iload_n (pc2 := 144) d_Mo_again_143 rfl rfl ?_
                    refine zx_icmp_gt (pc2 := 147) d_Mo_again_144 rfl (tgt := 172) (by decide) (fun cz => absurd cz (c4)) (fun _ => ?_)
                    refine zx_aload_n (pc2 := 148) d_Mo_again_147 rfl rfl ?_
                    refine zm_getR (pc2 := 151) f_Mo_45 d_Mo_again_148 rfl zl_c546 rfl ?_
                    refine zx_iload (pc2 := 153) d_Mo_again_151 rfl rfl ?_
                    refine zk_iald (pc2 := 154) d_Mo_again_153 rfl (by rfl) rfl (by omega) (by decide) ?_
                    refine zx_iload_n (pc2 := 155) d_Mo_again_154 rfl rfl ?_
                    refine zx_icmp_ne (pc2 := 158) d_Mo_again_155 rfl (tgt := 191) (by decide) (fun _ => ?_) (fun cz => absurd cz (c5))
                    refine zx_inc5 (pc2 := 194) d_Mo_again_191 rfl (zk_1 _) rfl (by decide) ?_
                    refine zx_goto (tgt := 8) d_Mo_again_194 (by decide) ?_
                    exact ih _ _ _ _
              · have e : gs_bo M p pl (s + 1) = gs_bo M p pl s := if_neg (fun z => c3 z.2.1)
                rw [e] at ih
                refine zx_iload (pc2 := 59) d_Mo_again_57 rfl rfl ?_
                refine zx_bipush (pc2 := 61) (v := nI 7) d_Mo_again_59 rfl (by decide) ?_
                refine zx_icmp_ge (pc2 := 64) d_Mo_again_61 rfl (tgt := 130) (by decide) (fun _ => ?_) (fun cz => absurd (nI_le (Nat.le_refl 7) (by decide)) cz)
                refine zx_iload (pc2 := 132) d_Mo_again_130 rfl rfl ?_
                refine zx_iconst (pc2 := 133) (v := nI 2) d_Mo_again_132 rfl (by decide) ?_
                refine zx_icmp_le (pc2 := 136) d_Mo_again_133 rfl (tgt := 191) (by decide) (fun _ => ?_) (fun cz => absurd (nI_le (by omega) (by omega)) cz)
                refine zx_inc5 (pc2 := 194) d_Mo_again_191 rfl (zk_1 _) rfl (by decide) ?_
                refine zx_goto (tgt := 8) d_Mo_again_194 (by decide) ?_
                exact ih _ _ _ _
            · intro o ho ih2 z9
              have hao : gs_at p pl o + 11 ≤ 1232 := by show 616 * p + 88 * o + 11 * pl + 11 ≤ 1232; omega
              by_cases d1 : gs_hb M p o
              · by_cases d2 : zm_I M 556 (616 * p + 88 * o + 11 * pl + 2) ≤ 0
                · have e : gs_nn M p pl (zm_I M 556 (616 * p + 88 * s + 11 * pl + 1)) (o + 1) = gs_nn M p pl (zm_I M 556 (616 * p + 88 * s + 11 * pl + 1)) o := if_neg (fun z => z.1.2 d2)
                  rw [e] at ih2
                  refine zx_iload (pc2 := 59) d_Mo_again_57 rfl rfl ?_
                  refine zx_bipush (pc2 := 61) (v := nI 7) d_Mo_again_59 rfl (by decide) ?_
                  refine zx_icmp_ge (pc2 := 64) d_Mo_again_61 rfl (tgt := 130) (by decide) (fun cz => absurd cz (nI_ge ho (by decide))) (fun _ => ?_)
                  refine zx_iload_n (pc2 := 65) d_Mo_again_64 rfl rfl ?_
                  refine zx_iload (pc2 := 67) d_Mo_again_65 rfl rfl ?_
                  refine zx_iload_n (pc2 := 68) d_Mo_again_67 rfl rfl ?_
                  refine zk_callS (pc2 := 71) s_Mo_143 t_Mo_heardAt (c_Mo_heardAt) d_Mo_again_68 rfl rfl rfl (Nat.le_of_ble_eq_true rfl) (by decide) (by decide) ?_
                  refine zx_ist9 (pc2 := 73) d_Mo_again_71 rfl rfl (by decide) ?_
                  refine zx_aload_n (pc2 := 74) d_Mo_again_73 rfl rfl ?_
                  refine zm_getR (pc2 := 77) f_Mo_42 d_Mo_again_74 rfl zl_c546 rfl ?_
                  refine zx_iload_n (pc2 := 78) d_Mo_again_77 rfl rfl ?_
                  refine zk_iald (pc2 := 79) d_Mo_again_78 rfl (by rfl) rfl (by omega) (by decide) ?_
                  refine zx_iload (pc2 := 81) d_Mo_again_79 rfl rfl ?_
                  refine zx_ishr (pc2 := 82) d_Mo_again_81 rfl ?_
                  refine zx_iconst (pc2 := 83) (v := nI 1) d_Mo_again_82 rfl (by decide) ?_
                  refine zx_iand (pc2 := 84) d_Mo_again_83 rfl ?_
                  refine zx_iconst (pc2 := 85) (v := nI 1) d_Mo_again_84 rfl (by decide) ?_
                  refine zx_icmp_ne (pc2 := 88) d_Mo_again_85 rfl (tgt := 124) (by decide) (fun cz => absurd (d1) cz) (fun _ => ?_)
                  refine zx_aload_n (pc2 := 89) d_Mo_again_88 rfl rfl ?_
                  refine zm_getR (pc2 := 92) f_Mo_45 d_Mo_again_89 rfl zl_c546 rfl ?_
                  refine zx_iload (pc2 := 94) d_Mo_again_92 rfl rfl ?_
                  refine zx_iconst (pc2 := 95) (v := nI 2) d_Mo_again_94 rfl (by decide) ?_
                  first | refine zx_iaddN (pc2 := 96) d_Mo_again_95 rfl ?_ | refine zx_iadd (pc2 := 96) d_Mo_again_95 rfl ?_
                  refine zk_iald (pc2 := 97) d_Mo_again_96 rfl (by rfl) rfl (by omega) (by decide) ?_
                  refine zx_if_le (pc2 := 100) d_Mo_again_97 rfl (tgt := 124) (by decide) (fun _ => ?_) (fun cz => absurd (d2) cz)
                  refine zx_inc8 (pc2 := 127) d_Mo_again_124 rfl (zk_1 _) rfl (by decide) ?_
                  refine zx_goto (tgt := 57) d_Mo_again_127 (by decide) ?_
                  exact ih2 _
                · by_cases d3 : zm_I M 556 (616 * p + 88 * o + 11 * pl + 1) = zm_I M 556 (616 * p + 88 * s + 11 * pl + 1)
                  · have e : gs_nn M p pl (zm_I M 556 (616 * p + 88 * s + 11 * pl + 1)) (o + 1) = gs_nn M p pl (zm_I M 556 (616 * p + 88 * s + 11 * pl + 1)) o + 1 := if_pos ⟨⟨d1, d2⟩, d3⟩
                    rw [e] at ih2
                    refine zx_iload (pc2 := 59) d_Mo_again_57 rfl rfl ?_
                    refine zx_bipush (pc2 := 61) (v := nI 7) d_Mo_again_59 rfl (by decide) ?_
                    refine zx_icmp_ge (pc2 := 64) d_Mo_again_61 rfl (tgt := 130) (by decide) (fun cz => absurd cz (nI_ge ho (by decide))) (fun _ => ?_)
                    refine zx_iload_n (pc2 := 65) d_Mo_again_64 rfl rfl ?_
                    refine zx_iload (pc2 := 67) d_Mo_again_65 rfl rfl ?_
                    refine zx_iload_n (pc2 := 68) d_Mo_again_67 rfl rfl ?_
                    refine zk_callS (pc2 := 71) s_Mo_143 t_Mo_heardAt (c_Mo_heardAt) d_Mo_again_68 rfl rfl rfl (Nat.le_of_ble_eq_true rfl) (by decide) (by decide) ?_
                    refine zx_ist9 (pc2 := 73) d_Mo_again_71 rfl rfl (by decide) ?_
                    refine zx_aload_n (pc2 := 74) d_Mo_again_73 rfl rfl ?_
                    refine zm_getR (pc2 := 77) f_Mo_42 d_Mo_again_74 rfl zl_c546 rfl ?_
                    refine zx_iload_n (pc2 := 78) d_Mo_again_77 rfl rfl ?_
                    refine zk_iald (pc2 := 79) d_Mo_again_78 rfl (by rfl) rfl (by omega) (by decide) ?_
                    refine zx_iload (pc2 := 81) d_Mo_again_79 rfl rfl ?_
                    refine zx_ishr (pc2 := 82) d_Mo_again_81 rfl ?_
                    refine zx_iconst (pc2 := 83) (v := nI 1) d_Mo_again_82 rfl (by decide) ?_
                    refine zx_iand (pc2 := 84) d_Mo_again_83 rfl ?_
                    refine zx_iconst (pc2 := 85) (v := nI 1) d_Mo_again_84 rfl (by decide) ?_
                    refine zx_icmp_ne (pc2 := 88) d_Mo_again_85 rfl (tgt := 124) (by decide) (fun cz => absurd (d1) cz) (fun _ => ?_)
                    refine zx_aload_n (pc2 := 89) d_Mo_again_88 rfl rfl ?_
                    refine zm_getR (pc2 := 92) f_Mo_45 d_Mo_again_89 rfl zl_c546 rfl ?_
                    refine zx_iload (pc2 := 94) d_Mo_again_92 rfl rfl ?_
                    refine zx_iconst (pc2 := 95) (v := nI 2) d_Mo_again_94 rfl (by decide) ?_
                    first | refine zx_iaddN (pc2 := 96) d_Mo_again_95 rfl ?_ | refine zx_iadd (pc2 := 96) d_Mo_again_95 rfl ?_
                    refine zk_iald (pc2 := 97) d_Mo_again_96 rfl (by rfl) rfl (by omega) (by decide) ?_
                    refine zx_if_le (pc2 := 100) d_Mo_again_97 rfl (tgt := 124) (by decide) (fun cz => absurd cz (d2)) (fun _ => ?_)
                    refine zx_aload_n (pc2 := 101) d_Mo_again_100 rfl rfl ?_
                    refine zm_getR (pc2 := 104) f_Mo_45 d_Mo_again_101 rfl zl_c546 rfl ?_
                    refine zx_iload (pc2 := 106) d_Mo_again_104 rfl rfl ?_
                    refine zx_iconst (pc2 := 107) (v := nI 1) d_Mo_again_106 rfl (by decide) ?_
                    first | refine zx_iaddN (pc2 := 108) d_Mo_again_107 rfl ?_ | refine zx_iadd (pc2 := 108) d_Mo_again_107 rfl ?_
                    refine zk_iald (pc2 := 109) d_Mo_again_108 rfl (by rfl) rfl (by omega) (by decide) ?_
                    refine zx_aload_n (pc2 := 110) d_Mo_again_109 rfl rfl ?_
                    refine zm_getR (pc2 := 113) f_Mo_45 d_Mo_again_110 rfl zl_c546 rfl ?_
                    refine zx_iload (pc2 := 115) d_Mo_again_113 rfl rfl ?_
                    refine zx_iconst (pc2 := 116) (v := nI 1) d_Mo_again_115 rfl (by decide) ?_
                    first | refine zx_iaddN (pc2 := 117) d_Mo_again_116 rfl ?_ | refine zx_iadd (pc2 := 117) d_Mo_again_116 rfl ?_
                    refine zk_iald (pc2 := 118) d_Mo_again_117 rfl (by rfl) rfl (by omega) (by decide) ?_
                    refine zx_icmp_ne (pc2 := 121) d_Mo_again_118 rfl (tgt := 124) (by decide) (fun cz => absurd (d3) cz) (fun _ => ?_)
                    refine zx_inc7 (pc2 := 124) d_Mo_again_121 rfl (zk_1 _) rfl (by decide) ?_
                    refine zx_inc8 (pc2 := 127) d_Mo_again_124 rfl (zk_1 _) rfl (by decide) ?_
                    refine zx_goto (tgt := 57) d_Mo_again_127 (by decide) ?_
                    exact ih2 _
                  · have e : gs_nn M p pl (zm_I M 556 (616 * p + 88 * s + 11 * pl + 1)) (o + 1) = gs_nn M p pl (zm_I M 556 (616 * p + 88 * s + 11 * pl + 1)) o := if_neg (fun z => d3 z.2)
                    rw [e] at ih2
                    refine zx_iload (pc2 := 59) d_Mo_again_57 rfl rfl ?_
                    refine zx_bipush (pc2 := 61) (v := nI 7) d_Mo_again_59 rfl (by decide) ?_
                    refine zx_icmp_ge (pc2 := 64) d_Mo_again_61 rfl (tgt := 130) (by decide) (fun cz => absurd cz (nI_ge ho (by decide))) (fun _ => ?_)
                    refine zx_iload_n (pc2 := 65) d_Mo_again_64 rfl rfl ?_
                    refine zx_iload (pc2 := 67) d_Mo_again_65 rfl rfl ?_
                    refine zx_iload_n (pc2 := 68) d_Mo_again_67 rfl rfl ?_
                    refine zk_callS (pc2 := 71) s_Mo_143 t_Mo_heardAt (c_Mo_heardAt) d_Mo_again_68 rfl rfl rfl (Nat.le_of_ble_eq_true rfl) (by decide) (by decide) ?_
                    refine zx_ist9 (pc2 := 73) d_Mo_again_71 rfl rfl (by decide) ?_
                    refine zx_aload_n (pc2 := 74) d_Mo_again_73 rfl rfl ?_
                    refine zm_getR (pc2 := 77) f_Mo_42 d_Mo_again_74 rfl zl_c546 rfl ?_
                    refine zx_iload_n (pc2 := 78) d_Mo_again_77 rfl rfl ?_
                    refine zk_iald (pc2 := 79) d_Mo_again_78 rfl (by rfl) rfl (by omega) (by decide) ?_
                    refine zx_iload (pc2 := 81) d_Mo_again_79 rfl rfl ?_
                    refine zx_ishr (pc2 := 82) d_Mo_again_81 rfl ?_
                    refine zx_iconst (pc2 := 83) (v := nI 1) d_Mo_again_82 rfl (by decide) ?_
                    refine zx_iand (pc2 := 84) d_Mo_again_83 rfl ?_
                    refine zx_iconst (pc2 := 85) (v := nI 1) d_Mo_again_84 rfl (by decide) ?_
                    refine zx_icmp_ne (pc2 := 88) d_Mo_again_85 rfl (tgt := 124) (by decide) (fun cz => absurd (d1) cz) (fun _ => ?_)
                    refine zx_aload_n (pc2 := 89) d_Mo_again_88 rfl rfl ?_
                    refine zm_getR (pc2 := 92) f_Mo_45 d_Mo_again_89 rfl zl_c546 rfl ?_
                    refine zx_iload (pc2 := 94) d_Mo_again_92 rfl rfl ?_
                    refine zx_iconst (pc2 := 95) (v := nI 2) d_Mo_again_94 rfl (by decide) ?_
                    first | refine zx_iaddN (pc2 := 96) d_Mo_again_95 rfl ?_ | refine zx_iadd (pc2 := 96) d_Mo_again_95 rfl ?_
                    refine zk_iald (pc2 := 97) d_Mo_again_96 rfl (by rfl) rfl (by omega) (by decide) ?_
                    refine zx_if_le (pc2 := 100) d_Mo_again_97 rfl (tgt := 124) (by decide) (fun cz => absurd cz (d2)) (fun _ => ?_)
                    refine zx_aload_n (pc2 := 101) d_Mo_again_100 rfl rfl ?_
                    refine zm_getR (pc2 := 104) f_Mo_45 d_Mo_again_101 rfl zl_c546 rfl ?_
                    refine zx_iload (pc2 := 106) d_Mo_again_104 rfl rfl ?_
                    refine zx_iconst (pc2 := 107) (v := nI 1) d_Mo_again_106 rfl (by decide) ?_
                    first | refine zx_iaddN (pc2 := 108) d_Mo_again_107 rfl ?_ | refine zx_iadd (pc2 := 108) d_Mo_again_107 rfl ?_
                    refine zk_iald (pc2 := 109) d_Mo_again_108 rfl (by rfl) rfl (by omega) (by decide) ?_
                    refine zx_aload_n (pc2 := 110) d_Mo_again_109 rfl rfl ?_
                    refine zm_getR (pc2 := 113) f_Mo_45 d_Mo_again_110 rfl zl_c546 rfl ?_
                    refine zx_iload (pc2 := 115) d_Mo_again_113 rfl rfl ?_
                    refine zx_iconst (pc2 := 116) (v := nI 1) d_Mo_again_115 rfl (by decide) ?_
                    first | refine zx_iaddN (pc2 := 117) d_Mo_again_116 rfl ?_ | refine zx_iadd (pc2 := 117) d_Mo_again_116 rfl ?_
                    refine zk_iald (pc2 := 118) d_Mo_again_117 rfl (by rfl) rfl (by omega) (by decide) ?_
                    refine zx_icmp_ne (pc2 := 121) d_Mo_again_118 rfl (tgt := 124) (by decide) (fun _ => ?_) (fun cz => absurd cz (d3))
                    refine zx_inc8 (pc2 := 127) d_Mo_again_124 rfl (zk_1 _) rfl (by decide) ?_
                    refine zx_goto (tgt := 57) d_Mo_again_127 (by decide) ?_
                    exact ih2 _
              · have e : gs_nn M p pl (zm_I M 556 (616 * p + 88 * s + 11 * pl + 1)) (o + 1) = gs_nn M p pl (zm_I M 556 (616 * p + 88 * s + 11 * pl + 1)) o := if_neg (fun z => d1 z.1.1)
                rw [e] at ih2
                refine zx_iload (pc2 := 59) d_Mo_again_57 rfl rfl ?_
                refine zx_bipush (pc2 := 61) (v := nI 7) d_Mo_again_59 rfl (by decide) ?_
                refine zx_icmp_ge (pc2 := 64) d_Mo_again_61 rfl (tgt := 130) (by decide) (fun cz => absurd cz (nI_ge ho (by decide))) (fun _ => ?_)
                refine zx_iload_n (pc2 := 65) d_Mo_again_64 rfl rfl ?_
                refine zx_iload (pc2 := 67) d_Mo_again_65 rfl rfl ?_
                refine zx_iload_n (pc2 := 68) d_Mo_again_67 rfl rfl ?_
                refine zk_callS (pc2 := 71) s_Mo_143 t_Mo_heardAt (c_Mo_heardAt) d_Mo_again_68 rfl rfl rfl (Nat.le_of_ble_eq_true rfl) (by decide) (by decide) ?_
                refine zx_ist9 (pc2 := 73) d_Mo_again_71 rfl rfl (by decide) ?_
                refine zx_aload_n (pc2 := 74) d_Mo_again_73 rfl rfl ?_
                refine zm_getR (pc2 := 77) f_Mo_42 d_Mo_again_74 rfl zl_c546 rfl ?_
                refine zx_iload_n (pc2 := 78) d_Mo_again_77 rfl rfl ?_
                refine zk_iald (pc2 := 79) d_Mo_again_78 rfl (by rfl) rfl (by omega) (by decide) ?_
                refine zx_iload (pc2 := 81) d_Mo_again_79 rfl rfl ?_
                refine zx_ishr (pc2 := 82) d_Mo_again_81 rfl ?_
                refine zx_iconst (pc2 := 83) (v := nI 1) d_Mo_again_82 rfl (by decide) ?_
                refine zx_iand (pc2 := 84) d_Mo_again_83 rfl ?_
                refine zx_iconst (pc2 := 85) (v := nI 1) d_Mo_again_84 rfl (by decide) ?_
                refine zx_icmp_ne (pc2 := 88) d_Mo_again_85 rfl (tgt := 124) (by decide) (fun _ => ?_) (fun cz => absurd cz (d1))
                refine zx_inc8 (pc2 := 127) d_Mo_again_124 rfl (zk_1 _) rfl (by decide) ?_
                refine zx_goto (tgt := 57) d_Mo_again_127 (by decide) ?_
                exact ih2 _
          exact inner 0 (Nat.zero_le _) _
      · have e : gs_bo M p pl (s + 1) = gs_bo M p pl s := if_neg (fun z => c1 z.1.1)
        rw [e] at ih
        refine zx_iload (pc2 := 10) d_Mo_again_8 rfl rfl ?_
        refine zx_bipush (pc2 := 12) (v := nI 7) d_Mo_again_10 rfl (by decide) ?_
        refine zx_icmp_ge (pc2 := 15) d_Mo_again_12 rfl (tgt := 197) (by decide) (fun cz => absurd cz (nI_ge hs (by decide))) (fun _ => ?_)
        refine zx_iload_n (pc2 := 16) d_Mo_again_15 rfl rfl ?_
        refine zx_iload (pc2 := 18) d_Mo_again_16 rfl rfl ?_
        refine zx_iload_n (pc2 := 19) d_Mo_again_18 rfl rfl ?_
        refine zk_callS (pc2 := 22) s_Mo_143 t_Mo_heardAt (c_Mo_heardAt) d_Mo_again_19 rfl rfl rfl (Nat.le_of_ble_eq_true rfl) (by decide) (by decide) ?_
        refine zx_ist6 (pc2 := 24) d_Mo_again_22 rfl rfl (by decide) ?_
        refine zx_aload_n (pc2 := 25) d_Mo_again_24 rfl rfl ?_
        refine zm_getR (pc2 := 28) f_Mo_42 d_Mo_again_25 rfl zl_c546 rfl ?_
        refine zx_iload_n (pc2 := 29) d_Mo_again_28 rfl rfl ?_
        refine zk_iald (pc2 := 30) d_Mo_again_29 rfl (by rfl) rfl (by omega) (by decide) ?_
        refine zx_iload (pc2 := 32) d_Mo_again_30 rfl rfl ?_
        refine zx_ishr (pc2 := 33) d_Mo_again_32 rfl ?_
        refine zx_iconst (pc2 := 34) (v := nI 1) d_Mo_again_33 rfl (by decide) ?_
        refine zx_iand (pc2 := 35) d_Mo_again_34 rfl ?_
        refine zx_iconst (pc2 := 36) (v := nI 1) d_Mo_again_35 rfl (by decide) ?_
        refine zx_icmp_ne (pc2 := 39) d_Mo_again_36 rfl (tgt := 191) (by decide) (fun _ => ?_) (fun cz => absurd cz (c1))
        refine zx_inc5 (pc2 := 194) d_Mo_again_191 rfl (zk_1 _) rfl (by decide) ?_
        refine zx_goto (tgt := 8) d_Mo_again_194 (by decide) ?_
        exact ih _ _ _ _
  exact key 0 (Nat.zero_le _) none none none none
theorem c_Mo_again0 {p pl : Nat} (hp : p < 2) (hpl : pl < 8) (hbo : (gs_bo M p pl 7).1 < 0) : zK l D ar b Z y_Mo_again 4 [.ref (b + 546), .int (nI p), .int (nI pl)] M n (some (.int (nI 0))) M := by
  refine c_Mo_againL hp hpl (fun z6 z7 z8 z9 => ?_)
  refine zx_iload_n (pc2 := 198) d_Mo_again_197 rfl rfl ?_
  refine zx_if_ge (pc2 := 201) d_Mo_again_198 rfl (tgt := 203) (by decide) (fun cz => absurd cz (Int32.not_le.mpr hbo)) (fun _ => ?_)
  refine zx_iconst (pc2 := 202) (v := nI 0) d_Mo_again_201 rfl (by decide) ?_
  exact zx_zret d_Mo_again_202 rfl rfl (⟨rfl, rfl, rfl⟩)
end C63
