/-! LogHouseModel: again, to its end -/
def gm_fx (M : zm_M) (sel : Nat → Bool) : Nat → zm_M × Nat
  | 0 => (M, 0)
  | s + 1 => if (gm_fx M sel s).2 < 3 ∧ sel s = true then (zm_wI (gm_fx M sel s).1 566 (gm_fx M sel s).2 (nI s), (gm_fx M sel s).2 + 1) else gm_fx M sel s
theorem gm_fx_inv {M : zm_M} {sel : Nat → Bool} : ∀ s, (gm_fx M sel s).2 ≤ 3 ∧ ∀ r x, r ≠ 566 → zm_I (gm_fx M sel s).1 r x = zm_I M r x
  | 0 => ⟨Nat.zero_le 3, fun _ _ _ => rfl⟩
  | s + 1 => by
    obtain ⟨i1, i2⟩ := gm_fx_inv (M := M) (sel := sel) s
    unfold gm_fx
    by_cases c : (gm_fx M sel s).2 < 3 ∧ sel s = true
    · rw [if_pos c]
      exact ⟨by show _ + 1 ≤ 3; omega, fun r x h => (zm_In (Or.inl h)).trans (i2 r x h)⟩
    · rw [if_neg c]
      exact ⟨i1, i2⟩
theorem gm_fx_full {M : zm_M} {sel : Nat → Bool} {s : Nat} (h : ¬ (gm_fx M sel s).2 < 3) : ∀ d, gm_fx M sel (s + d) = gm_fx M sel s
  | 0 => rfl
  | d + 1 => by
    have ih := gm_fx_full h d
    have e : gm_fx M sel (s + d + 1) = gm_fx M sel (s + d) := if_neg (fun z => h (by rw [← ih]; exact z.1))
    exact e.trans ih
theorem gm_fx_f {M : zm_M} {sel : Nat → Bool} : ∀ s, ∃ f : Nat → Nat, (∀ j, j < (gm_fx M sel s).2 → zm_I (gm_fx M sel s).1 566 j = nI (f j) ∧ f j < s ∧ sel (f j) = true) ∧ ∀ j, j + 1 < (gm_fx M sel s).2 → f j < f (j + 1)
  | 0 => ⟨fun _ => 0, fun j hj => absurd hj (Nat.not_lt_zero j), fun j hj => absurd hj (Nat.not_lt_zero _)⟩
  | s + 1 => by
    obtain ⟨f, f1, f2⟩ := gm_fx_f (M := M) (sel := sel) s
    unfold gm_fx
    by_cases c : (gm_fx M sel s).2 < 3 ∧ sel s = true
    · rw [if_pos c]
      refine ⟨fun j => if j = (gm_fx M sel s).2 then s else f j, fun j hj => ?_, fun j hj => ?_⟩
      · by_cases e : j = (gm_fx M sel s).2
        · dsimp only
          rw [if_pos e]
          subst e
          exact ⟨zm_Is, by omega, c.2⟩
        · have hj' : j < (gm_fx M sel s).2 + 1 := hj
          dsimp only
          rw [if_neg e]
          obtain ⟨q1, q2, q3⟩ := f1 j (by omega)
          exact ⟨(zm_In (Or.inr e)).trans q1, by omega, q3⟩
      · have hj' : j + 1 < (gm_fx M sel s).2 + 1 := hj
        dsimp only
        rw [if_neg (show ¬ j = (gm_fx M sel s).2 by omega)]
        by_cases e : j + 1 = (gm_fx M sel s).2
        · rw [if_pos e]
          exact (f1 j (by omega)).2.1
        · rw [if_neg e]
          exact f2 j (by omega)
    · rw [if_neg c]
      exact ⟨f, fun j hj => ⟨(f1 j hj).1, by have := (f1 j hj).2.1; omega, (f1 j hj).2.2⟩, f2⟩
theorem gm_fx_3 {M : zm_M} {sel : Nat → Bool} (h : (gm_fx M sel 7).2 = 3) : ∃ t0 t1 t2, t0 < t1 ∧ t1 < t2 ∧ t2 < 7 ∧ zm_I (gm_fx M sel 7).1 566 0 = nI t0 ∧ zm_I (gm_fx M sel 7).1 566 1 = nI t1 ∧ zm_I (gm_fx M sel 7).1 566 2 = nI t2 ∧ sel t0 = true ∧ sel t1 = true ∧ sel t2 = true := by
  obtain ⟨f, f1, f2⟩ := gm_fx_f (M := M) (sel := sel) 7
  obtain ⟨a1, a2, a3⟩ := f1 0 (by omega)
  obtain ⟨b1, b2, b3⟩ := f1 1 (by omega)
  obtain ⟨c1, c2, c3⟩ := f1 2 (by omega)
  exact ⟨f 0, f 1, f 2, f2 0 (by omega), f2 1 (by omega), c2, a1, b1, c1, a3, b3, c3⟩
def gs_hs (M : zm_M) (p pl : Nat) (id : Int32) : Nat → Bool := fun s => decide (gs_hp M p pl s ∧ zm_I M 556 (gs_at p pl s + 1) = id)
/-- what was heard of a place: lengths up to 24, bytes -/
def ge_ok (M : zm_M) (p pl : Nat) : Prop := ∀ s, s < 7 → gs_hp M p pl s → (zm_I M 556 (gs_at p pl s + 2) = nI (gv M 556 (gs_at p pl s + 2)) ∧ gv M 556 (gs_at p pl s + 2) ≤ 24) ∧ ∀ i, i < 8 → zm_I M 556 (gs_at p pl s + 3 + i) = nI (gv M 556 (gs_at p pl s + 3 + i)) ∧ gv M 556 (gs_at p pl s + 3 + i) < 256
def gm_h3 (M : zm_M) (p pl t0 t1 t2 : Nat) : zm_M := gm_tg M t0 t1 t2 (fun i => gv M 556 (gs_at p pl t0 + 3 + i)) (fun i => gv M 556 (gs_at p pl t1 + 3 + i)) (fun i => gv M 556 (gs_at p pl t2 + 3 + i)) (gv M 556 (gs_at p pl t0 + 2)) ((gv M 556 (gs_at p pl t0 + 2) + 2) / 3)
def gm_ag (M : zm_M) (p pl t0 t1 t2 : Nat) : zm_M := gm_pf (gm_h3 (gm_fx M (gs_hs M p pl (gs_bo M p pl 7).2) 7).1 p pl t0 t1 t2) p pl (gs_bo M p pl 7).2 (gv M 556 (gs_at p pl t0 + 2)) 567 0 (gv M 556 (gs_at p pl t0 + 2))
section C64
variable {l : Launch} {D : va_G} {ar : Nat → ClassId} {b : Nat} {Z : State → Prop} {M : zm_M} {n : Nat}
theorem c_Mo_again1 {p pl t0 t1 t2 : Nat} (hT : gt_ok M) (hE : ge_ok M p pl) (hp : p < 2) (hpl : pl < 8) (hbo : ¬ (gs_bo M p pl 7).1 < 0) (l1 : t0 < t1) (l2 : t1 < t2) (l3 : t2 < 7) (k0 : zm_I (gm_fx M (gs_hs M p pl (gs_bo M p pl 7).2) 7).1 566 0 = nI t0) (k1 : zm_I (gm_fx M (gs_hs M p pl (gs_bo M p pl 7).2) 7).1 566 1 = nI t1) (k2 : zm_I (gm_fx M (gs_hs M p pl (gs_bo M p pl 7).2) 7).1 566 2 = nI t2) (s0 : gs_hp M p pl t0) (s1 : gs_hp M p pl t1) (s2 : gs_hp M p pl t2) : zK l D ar b Z y_Mo_again 4 [.ref (b + 546), .int (nI p), .int (nI pl)] M n (some (.int (nI 1))) (gm_ag M p pl t0 t1 t2) := by
  refine c_Mo_againL hp hpl (fun z6 z7 z8 z9 => ?_)
  have hME : gm_ag M p pl t0 t1 t2 = gm_pf (gm_h3 (gm_fx M (gs_hs M p pl (gs_bo M p pl 7).2) 7).1 p pl t0 t1 t2) p pl (gs_bo M p pl 7).2 (gv M 556 (gs_at p pl t0 + 2)) 567 0 (gv M 556 (gs_at p pl t0 + 2)) := rfl
  generalize gm_ag M p pl t0 t1 t2 = ME at hME
  generalize hof : (gs_bo M p pl 7).2 = of at k0 k1 k2 hME
  refine zx_iload_n (pc2 := 198) d_Mo_again_197 rfl rfl ?_
  refine zx_if_ge (pc2 := 201) d_Mo_again_198 rfl (tgt := 203) (by decide) (fun _ => ?_) (fun cz => absurd (Int32.not_lt.mp hbo) cz)
  refine zx_iconst (pc2 := 204) (v := nI 0) d_Mo_again_203 rfl (by decide) ?_
  refine zx_ist5 (pc2 := 206) d_Mo_again_204 rfl rfl (by decide) ?_
  refine zx_iconst (pc2 := 207) (v := nI 0) d_Mo_again_206 rfl (by decide) ?_
  refine zx_ist6 (pc2 := 209) d_Mo_again_207 rfl rfl (by decide) ?_
  have fin : ∀ s, s ≤ 7 → (s = 7 ∨ ¬ (gm_fx M (gs_hs M p pl of) s).2 < 3) → ∀ z7 : Option Value, zk_X l D ar b Z y_Mo_again 4 (some (.int (nI 1))) ME n 290 [some (.ref (b + 546)), some (.int (nI p)), some (.int (nI pl)), some (.int (gs_bo M p pl 7).1), some (.int of), some (.int (nI (gm_fx M (gs_hs M p pl of) s).2)), some (.int (nI s)), z7, z8, z9] [] (gm_fx M (gs_hs M p pl of) s).1 := by
    intro s hs hh z7
    have e : gm_fx M (gs_hs M p pl of) s = gm_fx M (gs_hs M p pl of) 7 := by
      rcases hh with rfl | hh
      · rfl
      · have := gm_fx_full hh (7 - s)
        rw [show s + (7 - s) = 7 by omega] at this
        exact this.symm
    rw [e]
    have fr := (gm_fx_inv (M := M) (sel := gs_hs M p pl of) 7).2
    generalize gm_fx M (gs_hs M p pl of) 7 = Q at k0 k1 k2 hME fr
    have hv : ∀ x, gv Q.1 556 x = gv M 556 x := fun x => gv_eq (fr 556 x (by decide))
    have hTQ : gt_ok Q.1 := gt_fr2 (fun r x hr => fr r x (by rcases hr with rfl | rfl <;> decide)) hT
    obtain ⟨⟨a1, a2⟩, a3⟩ := hE t0 (by omega) s0
    have hE1 := (hE t1 (by omega) s1).2
    have hE2 := (hE t2 (by omega) s2).2
    have hg := c_Mo_together (l := l) (D := D) (ar := ar) (b := b) (Z := Z) (M := Q.1) (n := n) (a0 := 616 * p + 88 * t0 + 11 * pl) (a1 := 616 * p + 88 * t1 + 11 * pl) (a2 := 616 * p + 88 * t2 + 11 * pl) (len := gv M 556 (gs_at p pl t0 + 2)) (V0 := fun i => gv Q.1 556 (gs_at p pl t0 + 3 + i)) (V1 := fun i => gv Q.1 556 (gs_at p pl t1 + 3 + i)) (V2 := fun i => gv Q.1 556 (gs_at p pl t2 + 3 + i)) hTQ zl_c556 (by decide) (by decide) (by decide) (by omega) (by omega) (by omega) ((fr _ _ (by decide)).trans a1) a2 (fun i hi => by rw [hv, fr _ _ (by decide)]; exact a3 i (by omega)) (fun i hi => by rw [hv, fr _ _ (by decide)]; exact hE1 i (by omega)) (fun i hi => by rw [hv, fr _ _ (by decide)]; exact hE2 i (by omega)) k0 k1 k2 (by omega) (by omega) (by omega) (by omega) (by omega) (by omega)
    have eg : gm_h3 Q.1 p pl t0 t1 t2 = gm_tg Q.1 t0 t1 t2 (fun i => gv Q.1 556 (gs_at p pl t0 + 3 + i)) (fun i => gv Q.1 556 (gs_at p pl t1 + 3 + i)) (fun i => gv Q.1 556 (gs_at p pl t2 + 3 + i)) (gv M 556 (gs_at p pl t0 + 2)) ((gv M 556 (gs_at p pl t0 + 2) + 2) / 3) := by
      unfold gm_h3
      rw [hv]
    rw [← eg] at hg
    rw [hME]
    refine zx_aload_n (pc2 := 291) d_Mo_again_290 rfl rfl ?_
    refine zx_aload_n (pc2 := 292) d_Mo_again_291 rfl rfl ?_
    refine zm_getR (pc2 := 295) f_Mo_45 d_Mo_again_292 rfl zl_c546 rfl ?_
    refine zx_iload_n (pc2 := 296) d_Mo_again_295 rfl rfl ?_
    refine zx_aload_n (pc2 := 297) d_Mo_again_296 rfl rfl ?_
    refine zm_getR (pc2 := 300) f_Mo_75 d_Mo_again_297 rfl zl_c546 rfl ?_
    refine zx_iconst (pc2 := 301) (v := nI 0) d_Mo_again_300 rfl (by decide) ?_
    refine zk_ialdV (pc2 := 302) d_Mo_again_301 rfl (by rfl) rfl (by omega) (by decide) (k0) ?_
    refine zx_iload_n (pc2 := 303) d_Mo_again_302 rfl rfl ?_
    refine zk_callS (pc2 := 306) s_Mo_143 t_Mo_heardAt (c_Mo_heardAt) d_Mo_again_303 rfl rfl rfl (Nat.le_of_ble_eq_true rfl) (by decide) (by decide) ?_
    refine zx_iload_n (pc2 := 307) d_Mo_again_306 rfl rfl ?_
    refine zx_aload_n (pc2 := 308) d_Mo_again_307 rfl rfl ?_
    refine zm_getR (pc2 := 311) f_Mo_75 d_Mo_again_308 rfl zl_c546 rfl ?_
    refine zx_iconst (pc2 := 312) (v := nI 1) d_Mo_again_311 rfl (by decide) ?_
    refine zk_ialdV (pc2 := 313) d_Mo_again_312 rfl (by rfl) rfl (by omega) (by decide) (k1) ?_
    refine zx_iload_n (pc2 := 314) d_Mo_again_313 rfl rfl ?_
    refine zk_callS (pc2 := 317) s_Mo_143 t_Mo_heardAt (c_Mo_heardAt) d_Mo_again_314 rfl rfl rfl (Nat.le_of_ble_eq_true rfl) (by decide) (by decide) ?_
    refine zx_iload_n (pc2 := 318) d_Mo_again_317 rfl rfl ?_
    refine zx_aload_n (pc2 := 319) d_Mo_again_318 rfl rfl ?_
    refine zm_getR (pc2 := 322) f_Mo_75 d_Mo_again_319 rfl zl_c546 rfl ?_
    refine zx_iconst (pc2 := 323) (v := nI 2) d_Mo_again_322 rfl (by decide) ?_
    refine zk_ialdV (pc2 := 324) d_Mo_again_323 rfl (by rfl) rfl (by omega) (by decide) (k2) ?_
    refine zx_iload_n (pc2 := 325) d_Mo_again_324 rfl rfl ?_
    refine zk_callS (pc2 := 328) s_Mo_143 t_Mo_heardAt (c_Mo_heardAt) d_Mo_again_325 rfl rfl rfl (Nat.le_of_ble_eq_true rfl) (by decide) (by decide) ?_
    refine zk_callV (pc2 := 331) s_Mo_146 v_Mo_together (zl_c546) (hg) d_Mo_again_328 rfl rfl rfl (Nat.le_of_ble_eq_true rfl) (by decide) (by decide) ?_
    refine zx_ist6 (pc2 := 333) d_Mo_again_331 rfl rfl (by decide) ?_
    refine zx_aload_n (pc2 := 334) d_Mo_again_333 rfl rfl ?_
    refine zx_iload_n (pc2 := 335) d_Mo_again_334 rfl rfl ?_
    refine zx_iload_n (pc2 := 336) d_Mo_again_335 rfl rfl ?_
    refine zx_iload (pc2 := 338) d_Mo_again_336 rfl rfl ?_
    refine zx_aload_n (pc2 := 339) d_Mo_again_338 rfl rfl ?_
    refine zm_getR (pc2 := 342) f_Mo_78 d_Mo_again_339 rfl zl_c546 rfl ?_
    refine zx_iconst (pc2 := 343) (v := nI 0) d_Mo_again_342 rfl (by decide) ?_
    refine zx_iload (pc2 := 345) d_Mo_again_343 rfl rfl ?_
    refine zk_callVv (pc2 := 348) s_Mo_150 v_Mo_putForward (zl_c546) (c_Mo_putForward hp hpl a2 zl_c567 (by decide) (by decide) (by omega)) d_Mo_again_345 rfl rfl rfl (Nat.le_of_ble_eq_true rfl) (by decide) (by decide) ?_
    refine zx_iconst (pc2 := 349) (v := nI 1) d_Mo_again_348 rfl (by decide) ?_
    exact zx_zret d_Mo_again_349 rfl rfl (⟨rfl, rfl, rfl⟩)
  have key : ∀ s, s ≤ 7 → ∀ z7 : Option Value, zk_X l D ar b Z y_Mo_again 4 (some (.int (nI 1))) ME n 209 [some (.ref (b + 546)), some (.int (nI p)), some (.int (nI pl)), some (.int (gs_bo M p pl 7).1), some (.int of), some (.int (nI (gm_fx M (gs_hs M p pl of) s).2)), some (.int (nI s)), z7, z8, z9] [] (gm_fx M (gs_hs M p pl of) s).1 := by
    refine zx_for (X := fun s => ∀ z7 : Option Value, zk_X l D ar b Z y_Mo_again 4 (some (.int (nI 1))) ME n 209 [some (.ref (b + 546)), some (.int (nI p)), some (.int (nI pl)), some (.int (gs_bo M p pl 7).1), some (.int of), some (.int (nI (gm_fx M (gs_hs M p pl of) s).2)), some (.int (nI s)), z7, z8, z9] [] (gm_fx M (gs_hs M p pl of) s).1) 7 ?_ ?_
    · intro z7
      refine zx_iload (pc2 := 211) d_Mo_again_209 rfl rfl ?_
      refine zx_bipush (pc2 := 213) (v := nI 7) d_Mo_again_211 rfl (by decide) ?_
      refine zx_icmp_ge (pc2 := 216) d_Mo_again_213 rfl (tgt := 290) (by decide) (fun _ => ?_) (fun cz => absurd (nI_le (Nat.le_refl 7) (by decide)) cz)
      exact fin 7 (Nat.le_refl 7) (Or.inl rfl) z7
    · intro s hs ih z7
      obtain ⟨i1, i2⟩ := gm_fx_inv (M := M) (sel := gs_hs M p pl of) s
      have hf := fin s (by omega)
      by_cases c3 : (gm_fx M (gs_hs M p pl of) s).2 < 3
      · by_cases c1 : gs_hb M p s
        · by_cases c2 : zm_I M 556 (616 * p + 88 * s + 11 * pl + 2) ≤ 0
          · have e : gm_fx M (gs_hs M p pl of) (s + 1) = gm_fx M (gs_hs M p pl of) s := if_neg (fun z => (of_decide_eq_true z.2).1.2 c2)
            rw [e] at ih
            refine zx_iload (pc2 := 211) d_Mo_again_209 rfl rfl ?_
            refine zx_bipush (pc2 := 213) (v := nI 7) d_Mo_again_211 rfl (by decide) ?_
            refine zx_icmp_ge (pc2 := 216) d_Mo_again_213 rfl (tgt := 290) (by decide) (fun cz => absurd cz (nI_ge hs (by decide))) (fun _ => ?_)
            refine zx_iload (pc2 := 218) d_Mo_again_216 rfl rfl ?_
            refine zx_iconst (pc2 := 219) (v := nI 3) d_Mo_again_218 rfl (by decide) ?_
            refine zx_icmp_ge (pc2 := 222) d_Mo_again_219 rfl (tgt := 290) (by decide) (fun cz => absurd cz (nI_ge c3 (by decide))) (fun _ => ?_)
            refine zx_iload_n (pc2 := 223) d_Mo_again_222 rfl rfl ?_
            refine zx_iload (pc2 := 225) d_Mo_again_223 rfl rfl ?_
            refine zx_iload_n (pc2 := 226) d_Mo_again_225 rfl rfl ?_
            refine zk_callS (pc2 := 229) s_Mo_143 t_Mo_heardAt (c_Mo_heardAt) d_Mo_again_226 rfl rfl rfl (Nat.le_of_ble_eq_true rfl) (by decide) (by decide) ?_
            refine zx_ist7 (pc2 := 231) d_Mo_again_229 rfl rfl (by decide) ?_
            refine zx_aload_n (pc2 := 232) d_Mo_again_231 rfl rfl ?_
            refine zm_getR (pc2 := 235) f_Mo_42 d_Mo_again_232 rfl zl_c546 rfl ?_
            refine zx_iload_n (pc2 := 236) d_Mo_again_235 rfl rfl ?_
            refine zk_ialdV (pc2 := 237) d_Mo_again_236 rfl (by rfl) rfl (by omega) (by decide) (i2 555 p (by decide)) ?_
            refine zx_iload (pc2 := 239) d_Mo_again_237 rfl rfl ?_
            refine zx_ishr (pc2 := 240) d_Mo_again_239 rfl ?_
            refine zx_iconst (pc2 := 241) (v := nI 1) d_Mo_again_240 rfl (by decide) ?_
            refine zx_iand (pc2 := 242) d_Mo_again_241 rfl ?_
            refine zx_iconst (pc2 := 243) (v := nI 1) d_Mo_again_242 rfl (by decide) ?_
            refine zx_icmp_ne (pc2 := 246) d_Mo_again_243 rfl (tgt := 284) (by decide) (fun cz => absurd (c1) cz) (fun _ => ?_)
            refine zx_aload_n (pc2 := 247) d_Mo_again_246 rfl rfl ?_
            refine zm_getR (pc2 := 250) f_Mo_45 d_Mo_again_247 rfl zl_c546 rfl ?_
            refine zx_iload (pc2 := 252) d_Mo_again_250 rfl rfl ?_
            refine zx_iconst (pc2 := 253) (v := nI 2) d_Mo_again_252 rfl (by decide) ?_
            first | refine zx_iaddN (pc2 := 254) d_Mo_again_253 rfl ?_ | refine zx_iadd (pc2 := 254) d_Mo_again_253 rfl ?_
            refine zk_ialdV (pc2 := 255) d_Mo_again_254 rfl (by rfl) rfl (by omega) (by decide) (i2 556 _ (by decide)) ?_
            refine zx_if_le (pc2 := 258) d_Mo_again_255 rfl (tgt := 284) (by decide) (fun _ => ?_) (fun cz => absurd (c2) cz)
            refine zx_inc6 (pc2 := 287) d_Mo_again_284 rfl (zk_1 _) rfl (by decide) ?_
            refine zx_goto (tgt := 209) d_Mo_again_287 (by decide) ?_
            exact ih _
          · by_cases c4 : zm_I M 556 (616 * p + 88 * s + 11 * pl + 1) = of
            · have e : gm_fx M (gs_hs M p pl of) (s + 1) = _ := if_pos ⟨c3, decide_eq_true ⟨⟨c1, c2⟩, c4⟩⟩
              rw [e] at ih
              refine zx_iload (pc2 := 211) d_Mo_again_209 rfl rfl ?_
              refine zx_bipush (pc2 := 213) (v := nI 7) d_Mo_again_211 rfl (by decide) ?_
              refine zx_icmp_ge (pc2 := 216) d_Mo_again_213 rfl (tgt := 290) (by decide) (fun cz => absurd cz (nI_ge hs (by decide))) (fun _ => ?_)
              refine zx_iload (pc2 := 218) d_Mo_again_216 rfl rfl ?_
              refine zx_iconst (pc2 := 219) (v := nI 3) d_Mo_again_218 rfl (by decide) ?_
              refine zx_icmp_ge (pc2 := 222) d_Mo_again_219 rfl (tgt := 290) (by decide) (fun cz => absurd cz (nI_ge c3 (by decide))) (fun _ => ?_)
              refine zx_iload_n (pc2 := 223) d_Mo_again_222 rfl rfl ?_
              refine zx_iload (pc2 := 225) d_Mo_again_223 rfl rfl ?_
              refine zx_iload_n (pc2 := 226) d_Mo_again_225 rfl rfl ?_
              refine zk_callS (pc2 := 229) s_Mo_143 t_Mo_heardAt (c_Mo_heardAt) d_Mo_again_226 rfl rfl rfl (Nat.le_of_ble_eq_true rfl) (by decide) (by decide) ?_
              refine zx_ist7 (pc2 := 231) d_Mo_again_229 rfl rfl (by decide) ?_
              refine zx_aload_n (pc2 := 232) d_Mo_again_231 rfl rfl ?_
              refine zm_getR (pc2 := 235) f_Mo_42 d_Mo_again_232 rfl zl_c546 rfl ?_
              refine zx_iload_n (pc2 := 236) d_Mo_again_235 rfl rfl ?_
              refine zk_ialdV (pc2 := 237) d_Mo_again_236 rfl (by rfl) rfl (by omega) (by decide) (i2 555 p (by decide)) ?_
              refine zx_iload (pc2 := 239) d_Mo_again_237 rfl rfl ?_
              refine zx_ishr (pc2 := 240) d_Mo_again_239 rfl ?_
              refine zx_iconst (pc2 := 241) (v := nI 1) d_Mo_again_240 rfl (by decide) ?_
              refine zx_iand (pc2 := 242) d_Mo_again_241 rfl ?_
              refine zx_iconst (pc2 := 243) (v := nI 1) d_Mo_again_242 rfl (by decide) ?_
              refine zx_icmp_ne (pc2 := 246) d_Mo_again_243 rfl (tgt := 284) (by decide) (fun cz => absurd (c1) cz) (fun _ => ?_)
              refine zx_aload_n (pc2 := 247) d_Mo_again_246 rfl rfl ?_
              refine zm_getR (pc2 := 250) f_Mo_45 d_Mo_again_247 rfl zl_c546 rfl ?_
              refine zx_iload (pc2 := 252) d_Mo_again_250 rfl rfl ?_
              refine zx_iconst (pc2 := 253) (v := nI 2) d_Mo_again_252 rfl (by decide) ?_
              first | refine zx_iaddN (pc2 := 254) d_Mo_again_253 rfl ?_ | refine zx_iadd (pc2 := 254) d_Mo_again_253 rfl ?_
              refine zk_ialdV (pc2 := 255) d_Mo_again_254 rfl (by rfl) rfl (by omega) (by decide) (i2 556 _ (by decide)) ?_
              refine zx_if_le (pc2 := 258) d_Mo_again_255 rfl (tgt := 284) (by decide) (fun cz => absurd cz (c2)) (fun _ => ?_)
              refine zx_aload_n (pc2 := 259) d_Mo_again_258 rfl rfl ?_
              refine zm_getR (pc2 := 262) f_Mo_45 d_Mo_again_259 rfl zl_c546 rfl ?_
              refine zx_iload (pc2 := 264) d_Mo_again_262 rfl rfl ?_
              refine zx_iconst (pc2 := 265) (v := nI 1) d_Mo_again_264 rfl (by decide) ?_
              first | refine zx_iaddN (pc2 := 266) d_Mo_again_265 rfl ?_ | refine zx_iadd (pc2 := 266) d_Mo_again_265 rfl ?_
              refine zk_ialdV (pc2 := 267) d_Mo_again_266 rfl (by rfl) rfl (by omega) (by decide) (i2 556 _ (by decide)) ?_
              refine zx_iload (pc2 := 269) d_Mo_again_267 rfl rfl ?_
              refine zx_icmp_ne (pc2 := 272) d_Mo_again_269 rfl (tgt := 284) (by decide) (fun cz => absurd (c4) cz) (fun _ => ?_)
              refine zx_aload_n (pc2 := 273) d_Mo_again_272 rfl rfl ?_
              refine zm_getR (pc2 := 276) f_Mo_75 d_Mo_again_273 rfl zl_c546 rfl ?_
              refine zx_iload (pc2 := 278) d_Mo_again_276 rfl rfl ?_
              refine zx_iload (pc2 := 280) d_Mo_again_278 rfl rfl ?_
              refine zk_iast (pc2 := 281) d_Mo_again_280 rfl (by rfl) rfl (by omega) (by decide) ?_
              refine zx_inc5 (pc2 := 284) d_Mo_again_281 rfl (zk_1 _) rfl (by decide) ?_
              refine zx_inc6 (pc2 := 287) d_Mo_again_284 rfl (zk_1 _) rfl (by decide) ?_
              refine zx_goto (tgt := 209) d_Mo_again_287 (by decide) ?_
              exact ih _
            · have e : gm_fx M (gs_hs M p pl of) (s + 1) = gm_fx M (gs_hs M p pl of) s := if_neg (fun z => c4 (of_decide_eq_true z.2).2)
              rw [e] at ih
              refine zx_iload (pc2 := 211) d_Mo_again_209 rfl rfl ?_
              refine zx_bipush (pc2 := 213) (v := nI 7) d_Mo_again_211 rfl (by decide) ?_
              refine zx_icmp_ge (pc2 := 216) d_Mo_again_213 rfl (tgt := 290) (by decide) (fun cz => absurd cz (nI_ge hs (by decide))) (fun _ => ?_)
              refine zx_iload (pc2 := 218) d_Mo_again_216 rfl rfl ?_
              refine zx_iconst (pc2 := 219) (v := nI 3) d_Mo_again_218 rfl (by decide) ?_
              refine zx_icmp_ge (pc2 := 222) d_Mo_again_219 rfl (tgt := 290) (by decide) (fun cz => absurd cz (nI_ge c3 (by decide))) (fun _ => ?_)
              refine zx_iload_n (pc2 := 223) d_Mo_again_222 rfl rfl ?_
              refine zx_iload (pc2 := 225) d_Mo_again_223 rfl rfl ?_
              refine zx_iload_n (pc2 := 226) d_Mo_again_225 rfl rfl ?_
              refine zk_callS (pc2 := 229) s_Mo_143 t_Mo_heardAt (c_Mo_heardAt) d_Mo_again_226 rfl rfl rfl (Nat.le_of_ble_eq_true rfl) (by decide) (by decide) ?_
              refine zx_ist7 (pc2 := 231) d_Mo_again_229 rfl rfl (by decide) ?_
              refine zx_aload_n (pc2 := 232) d_Mo_again_231 rfl rfl ?_
              refine zm_getR (pc2 := 235) f_Mo_42 d_Mo_again_232 rfl zl_c546 rfl ?_
              refine zx_iload_n (pc2 := 236) d_Mo_again_235 rfl rfl ?_
              refine zk_ialdV (pc2 := 237) d_Mo_again_236 rfl (by rfl) rfl (by omega) (by decide) (i2 555 p (by decide)) ?_
              refine zx_iload (pc2 := 239) d_Mo_again_237 rfl rfl ?_
              refine zx_ishr (pc2 := 240) d_Mo_again_239 rfl ?_
              refine zx_iconst (pc2 := 241) (v := nI 1) d_Mo_again_240 rfl (by decide) ?_
              refine zx_iand (pc2 := 242) d_Mo_again_241 rfl ?_
              refine zx_iconst (pc2 := 243) (v := nI 1) d_Mo_again_242 rfl (by decide) ?_
              refine zx_icmp_ne (pc2 := 246) d_Mo_again_243 rfl (tgt := 284) (by decide) (fun cz => absurd (c1) cz) (fun _ => ?_)
              refine zx_aload_n (pc2 := 247) d_Mo_again_246 rfl rfl ?_
              refine zm_getR (pc2 := 250) f_Mo_45 d_Mo_again_247 rfl zl_c546 rfl ?_
              refine zx_iload (pc2 := 252) d_Mo_again_250 rfl rfl ?_
              refine zx_iconst (pc2 := 253) (v := nI 2) d_Mo_again_252 rfl (by decide) ?_
              first | refine zx_iaddN (pc2 := 254) d_Mo_again_253 rfl ?_ | refine zx_iadd (pc2 := 254) d_Mo_again_253 rfl ?_
              refine zk_ialdV (pc2 := 255) d_Mo_again_254 rfl (by rfl) rfl (by omega) (by decide) (i2 556 _ (by decide)) ?_
              refine zx_if_le (pc2 := 258) d_Mo_again_255 rfl (tgt := 284) (by decide) (fun cz => absurd cz (c2)) (fun _ => ?_)
              refine zx_aload_n (pc2 := 259) d_Mo_again_258 rfl rfl ?_
              refine zm_getR (pc2 := 262) f_Mo_45 d_Mo_again_259 rfl zl_c546 rfl ?_
              refine zx_iload (pc2 := 264) d_Mo_again_262 rfl rfl ?_
              refine zx_iconst (pc2 := 265) (v := nI 1) d_Mo_again_264 rfl (by decide) ?_
              first | refine zx_iaddN (pc2 := 266) d_Mo_again_265 rfl ?_ | refine zx_iadd (pc2 := 266) d_Mo_again_265 rfl ?_
              refine zk_ialdV (pc2 := 267) d_Mo_again_266 rfl (by rfl) rfl (by omega) (by decide) (i2 556 _ (by decide)) ?_
              refine zx_iload (pc2 := 269) d_Mo_again_267 rfl rfl ?_
              refine zx_icmp_ne (pc2 := 272) d_Mo_again_269 rfl (tgt := 284) (by decide) (fun _ => ?_) (fun cz => absurd cz (c4))
              refine zx_inc6 (pc2 := 287) d_Mo_again_284 rfl (zk_1 _) rfl (by decide) ?_
              refine zx_goto (tgt := 209) d_Mo_again_287 (by decide) ?_
              exact ih _
        · have e : gm_fx M (gs_hs M p pl of) (s + 1) = gm_fx M (gs_hs M p pl of) s := if_neg (fun z => c1 (of_decide_eq_true z.2).1.1)
          rw [e] at ih
          refine zx_iload (pc2 := 211) d_Mo_again_209 rfl rfl ?_
          refine zx_bipush (pc2 := 213) (v := nI 7) d_Mo_again_211 rfl (by decide) ?_
          refine zx_icmp_ge (pc2 := 216) d_Mo_again_213 rfl (tgt := 290) (by decide) (fun cz => absurd cz (nI_ge hs (by decide))) (fun _ => ?_)
          refine zx_iload (pc2 := 218) d_Mo_again_216 rfl rfl ?_
          refine zx_iconst (pc2 := 219) (v := nI 3) d_Mo_again_218 rfl (by decide) ?_
          refine zx_icmp_ge (pc2 := 222) d_Mo_again_219 rfl (tgt := 290) (by decide) (fun cz => absurd cz (nI_ge c3 (by decide))) (fun _ => ?_)
          refine zx_iload_n (pc2 := 223) d_Mo_again_222 rfl rfl ?_
          refine zx_iload (pc2 := 225) d_Mo_again_223 rfl rfl ?_
          refine zx_iload_n (pc2 := 226) d_Mo_again_225 rfl rfl ?_
          refine zk_callS (pc2 := 229) s_Mo_143 t_Mo_heardAt (c_Mo_heardAt) d_Mo_again_226 rfl rfl rfl (Nat.le_of_ble_eq_true rfl) (by decide) (by decide) ?_
          refine zx_ist7 (pc2 := 231) d_Mo_again_229 rfl rfl (by decide) ?_
          refine zx_aload_n (pc2 := 232) d_Mo_again_231 rfl rfl ?_
          refine zm_getR (pc2 := 235) f_Mo_42 d_Mo_again_232 rfl zl_c546 rfl ?_
          refine zx_iload_n (pc2 := 236) d_Mo_again_235 rfl rfl ?_
          refine zk_ialdV (pc2 := 237) d_Mo_again_236 rfl (by rfl) rfl (by omega) (by decide) (i2 555 p (by decide)) ?_
          refine zx_iload (pc2 := 239) d_Mo_again_237 rfl rfl ?_
          refine zx_ishr (pc2 := 240) d_Mo_again_239 rfl ?_
          refine zx_iconst (pc2 := 241) (v := nI 1) d_Mo_again_240 rfl (by decide) ?_
          refine zx_iand (pc2 := 242) d_Mo_again_241 rfl ?_
          refine zx_iconst (pc2 := 243) (v := nI 1) d_Mo_again_242 rfl (by decide) ?_
          refine zx_icmp_ne (pc2 := 246) d_Mo_again_243 rfl (tgt := 284) (by decide) (fun _ => ?_) (fun cz => absurd cz (c1))
          refine zx_inc6 (pc2 := 287) d_Mo_again_284 rfl (zk_1 _) rfl (by decide) ?_
          refine zx_goto (tgt := 209) d_Mo_again_287 (by decide) ?_
          exact ih _
      · refine zx_iload (pc2 := 211) d_Mo_again_209 rfl rfl ?_
        refine zx_bipush (pc2 := 213) (v := nI 7) d_Mo_again_211 rfl (by decide) ?_
        refine zx_icmp_ge (pc2 := 216) d_Mo_again_213 rfl (tgt := 290) (by decide) (fun cz => absurd cz (nI_ge hs (by decide))) (fun _ => ?_)
        refine zx_iload (pc2 := 218) d_Mo_again_216 rfl rfl ?_
        refine zx_iconst (pc2 := 219) (v := nI 3) d_Mo_again_218 rfl (by decide) ?_
        refine zx_icmp_ge (pc2 := 222) d_Mo_again_219 rfl (tgt := 290) (by decide) (fun _ => ?_) (fun cz => absurd (nI_le (by omega) (by omega)) cz)
        exact hf (Or.inr c3) z7
  exact key 0 (Nat.zero_le _) z7
end C64
