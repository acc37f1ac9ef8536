/-! The law's body: rules, and its cases one by one (written by program) -/
abbrev y_lw : zx_Y := (x, code, 7, ret, [])
theorem zx_less {G : zx_G} {y : zx_Y} {R : Room} {F : List Frame → Array Value → State → State → Prop} {pc : Nat} {L L' : zx_L} {st : List Value} {h : zx_H} {n k j : Nat} (h1 : L'.length = L.length) (h2 : ∀ (i : Nat) (v : Value), L'[i]? = some (some v) → L[i]? = some (some v)) (kk : zX G y R F pc L' st h n k j) : zX G y R F pc L st h n k j := by
  intro p e s m args below meth c C ls H locs hl hR hS
  exact kk p e s m args below meth c C ls H locs ⟨hl.1, h1.trans hl.2.1, hl.2.2.1, fun i v q => hl.2.2.2 i v (h2 i v q)⟩ hR hS
theorem zx_lcmp {G : zx_G} {y : zx_Y} {R : Room} {F : List Frame → Array Value → State → State → Prop} {pc pc2 : Nat} {L : zx_L} {st : List Value} {h : zx_H} {n k j : Nat} {u v : Int64} (d : decode y.2.1 pc = .ok (.lcmp, 1)) (e0 : pc + 1 = pc2) (kk : zX G y R F pc2 L (.int (lg_cmp u v) :: st) h n k j) : zX G y R F pc L (.long v :: .long u :: st) h n k j := by
  subst e0; intro p e s m args below meth c C ls H locs hl hR hS
  exact W.lcmp C.1 C.2.1 d (kk p e s m args below meth c C ls H locs hl hR hS)
theorem lw_eqc (u : Int64) : lg_cmp u u = 0 := (lg_cmp_eq u u).mpr rfl
abbrev lw_L (b0 b i : Nat) (z5 z6 : Option Value) : zx_L := [some (.ref b0), some (.ref (b + 0)), some (.ref (b + 546)), some (.ref (b + 572)), some (.int (nI (4 * i))), z5, z6]
section CC0
variable {l : Launch} {D : va_G} {ar : Nat → ClassId} {b : Nat} {Z : State → Prop} {F : List Frame → Array Value → State → State → Prop} {M M1 M2 : zm_M} {n n1 k j i kc dm b0 N : Nat} {xs : Nat → Int32} {z5 z6 : Option Value}
theorem lw_back {pc : Nat} (kk : zX (zn_G l D ar b Z) y_lw room_1 F pc (lw_L b0 b i none none) [] (zm_h b ar zl M) n k j) : zX (zn_G l D ar b Z) y_lw room_1 F pc (lw_L b0 b i z5 z6) [] (zm_h b ar zl M) n k j := by
  refine zx_less (L' := lw_L b0 b i none none) rfl (fun q v hq => ?_) kk
  match q with
  | 0 => exact hq
  | 1 => exact hq
  | 2 => exact hq
  | 3 => exact hq
  | 4 => exact hq
  | 5 => cases hq
  | 6 => cases hq
  | q + 7 => cases hq
theorem lw_callV {v : Value} {y1 : zx_Y} {d1 pc pc2 ix np r1 ci : Nat} {L : zx_L} {st0 av rest : List Value} {r0 : vw_C} {fk : List (Option (Option Nat))} (f : zx_s (zn_G l D ar b Z) y_lw.1.cls ix y1 np) (fs : Cond.instanceMethod y1.1 ∈ zx_gW (zn_G l D ar b Z) ∧ Cond.selects y1.1.cls y1.1 y1.1 ∈ zx_gW (zn_G l D ar b Z) ∧ (zx_gC (zn_G l D ar b Z))[ci]? = some r0 ∧ r0.1 = y1.1.cls) (hl : zl r1 = some (.inr (ci, fk))) (hM : zK l D ar b Z y1 d1 (.ref (b + r1) :: av) M n (some v) M2) (dd : decode y_lw.2.1 pc = .ok (.invokevirtual ix, 3)) (e0 : pc + 3 = pc2) (hst : st0 = av.reverse ++ .ref (b + r1) :: rest) (hnp : av.length = np) (hsum : (rest.map fun v => v.category).sum ≤ 8) (hd : d1 ≤ 9) (hm : y1.2.2.1 ≤ 17) (hk : k ≤ 601024) (hj : j ≤ 7293034) (kk : zX (zn_G l D ar b Z) y_lw room_1 F pc2 L (v :: rest) (zm_h b ar zl M2) n k j) : zX (zn_G l D ar b Z) y_lw room_1 F pc L st0 (zm_h b ar zl M) n k j :=
  zx_callV f fs (zm_at hl) hM dd e0 hst hnp hsum (by show d1 + 1 ≤ 11; omega) (by show 8 + (y1.2.2.1 + 11) + 36 * d1 ≤ 400; omega) (by show k + 0 ≤ 601024; omega) (by show j + 0 ≤ 7293034; omega) (by rintro _ _ _ ⟨rfl, rfl, rfl⟩; exact kk)
theorem lw_callVv {y1 : zx_Y} {d1 pc pc2 ix np r1 ci : Nat} {L : zx_L} {st0 av rest : List Value} {r0 : vw_C} {fk : List (Option (Option Nat))} (f : zx_s (zn_G l D ar b Z) y_lw.1.cls ix y1 np) (fs : Cond.instanceMethod y1.1 ∈ zx_gW (zn_G l D ar b Z) ∧ Cond.selects y1.1.cls y1.1 y1.1 ∈ zx_gW (zn_G l D ar b Z) ∧ (zx_gC (zn_G l D ar b Z))[ci]? = some r0 ∧ r0.1 = y1.1.cls) (hl : zl r1 = some (.inr (ci, fk))) (hM : zK l D ar b Z y1 d1 (.ref (b + r1) :: av) M n none M2) (dd : decode y_lw.2.1 pc = .ok (.invokevirtual ix, 3)) (e0 : pc + 3 = pc2) (hst : st0 = av.reverse ++ .ref (b + r1) :: rest) (hnp : av.length = np) (hsum : (rest.map fun v => v.category).sum ≤ 8) (hd : d1 ≤ 9) (hm : y1.2.2.1 ≤ 17) (hk : k ≤ 601024) (hj : j ≤ 7293034) (kk : zX (zn_G l D ar b Z) y_lw room_1 F pc2 L rest (zm_h b ar zl M2) n k j) : zX (zn_G l D ar b Z) y_lw room_1 F pc L st0 (zm_h b ar zl M) n k j :=
  zx_callV f fs (zm_at hl) hM dd e0 hst hnp hsum (by show d1 + 1 ≤ 11; omega) (by show 8 + (y1.2.2.1 + 11) + 36 * d1 ≤ 400; omega) (by show k + 0 ≤ 601024; omega) (by show j + 0 ≤ 7293034; omega) (by rintro _ _ _ ⟨rfl, rfl, rfl⟩; exact kk)
theorem lw_callW {v : Value} {y1 : zx_Y} {pc pc2 ix np : Nat} {L : zx_L} {st0 av rest : List Value} (f2 : zx_cW y1 ∈ zn_W) (f3 : Cond.initialized y1.1.cls ∈ zn_W) (f4 : y1.1.cls ≠ "java/lang/invoke/MethodHandle" ∧ y1.1.cls ≠ "java/lang/invoke/VarHandle" ∧ (parseMethodDescriptor y1.1.desc).map (fun d => d.parameters.length) = some np) (f5 : Cond.methodLink y_lw.1.cls ix y1.1 ∈ zn_W) (fs : Cond.static y1.1 ∈ zn_W) (hM : zKW l D ar b Z y1 av M n v M1 n1) (dd : decode y_lw.2.1 pc = .ok (.invokestatic ix, 3)) (e0 : pc + 3 = pc2) (hst : st0 = av.reverse ++ rest) (hnp : av.length = np) (hsum : (rest.map fun v => v.category).sum ≤ 8) (hm : y1.2.2.1 ≤ 17) (hk : k + 1 ≤ 601024) (hj : j + 6 ≤ 7293034) (kk : zX (zn_G l D ar b Z) y_lw room_1 F pc2 L (v :: rest) (zm_h b ar zl M1) n1 (k + 1) (j + 6)) : zX (zn_G l D ar b Z) y_lw room_1 F pc L st0 (zm_h b ar zl M) n k j :=
  zx_callSW (G := zn_G l D ar b Z) zn_ok f2 f3 f4 f5 fs hM dd e0 hst hnp hsum (by show 8 + 1 ≤ 11; omega) (by show 8 + (y1.2.2.1 + 11) + 36 * 8 ≤ 400; omega) hk hj (by rintro _ _ _ ⟨rfl, rfl, rfl⟩; exact kk)

theorem lc_campaign {w : Int32} (hX : ∀ U, Z U → va_X b0 N xs U U.heap) (hb0 : b0 < b) (hN : N < 2 ^ 31) (hi : 4 * i + 3 < N) (hk : k + 1 ≤ 601024) (hj : j + 6 ≤ 7293034) (hW : zKW l D ar b Z y_La_campaign [.ref (b + 0), .int (xs (4 * i + 1)), .ref (b + 572)] M n (.int (nI kc)) M1 n1) (hMo : zK l D ar b Z y_Mo_campaign dm [.ref (b + 546), .int (xs (4 * i + 1))] M1 n1 (some (.int w)) M2) (hdm : dm ≤ 9) (ht : zm_I M2 546 0 = nI kc) (hkc : kc < 8) (ho : kc = 0 → zm_J M2 572 0 = w.toInt64) (kk : zX (zn_G l D ar b Z) y_lw room_1 F 1153 (lw_L b0 b i none none) [] (zm_h b ar zl M2) n1 (k + 1) (j + 6)) : zX (zn_G l D ar b Z) y_lw room_1 F 173 (lw_L b0 b i z5 z6) [] (zm_h b ar zl M) n k j := by
  refine zx_aload_n (pc2 := 174) d_lw_173 rfl rfl ?_
  refine zx_aload_n (pc2 := 175) d_lw_174 rfl rfl ?_
  refine zx_iload (pc2 := 177) d_lw_175 rfl rfl ?_
  refine zx_iconst (pc2 := 178) (v := nI 1) d_lw_177 rfl (by decide) ?_
  refine zx_iadd (pc2 := 179) d_lw_178 rfl ?_
  refine zx_sld (pc2 := 180) d_lw_179 rfl (fun U hU => hX U hU.2) hb0 (nI_add _ _) (by omega) hN ?_
  refine zx_aload_n (pc2 := 181) d_lw_180 rfl rfl ?_
  refine lw_callW (y1 := y_La_campaign) (np := 3) (pc2 := 184) zn_w289 zn_w0 ⟨by decide, by decide, by decide +kernel⟩ zn_w287 zn_w288 hW d_lw_181 rfl rfl rfl (Nat.le_of_ble_eq_true rfl) (by decide) hk hj ?_
  refine zx_ist5 (pc2 := 186) d_lw_184 rfl rfl (by decide) ?_
  refine zx_aload_n (pc2 := 187) d_lw_186 rfl rfl ?_
  refine zx_aload_n (pc2 := 188) d_lw_187 rfl rfl ?_
  refine zx_iload (pc2 := 190) d_lw_188 rfl rfl ?_
  refine zx_iconst (pc2 := 191) (v := nI 1) d_lw_190 rfl (by decide) ?_
  refine zx_iadd (pc2 := 192) d_lw_191 rfl ?_
  refine zx_sld (pc2 := 193) d_lw_192 rfl (fun U hU => hX U hU.2) hb0 (nI_add _ _) (by omega) hN ?_
  refine lw_callV (pc2 := 196) s_La_84 v_Mo_campaign zl_c546 hMo d_lw_193 rfl rfl rfl (Nat.le_of_ble_eq_true rfl) hdm (by decide) hk hj ?_
  refine zx_ist6 (pc2 := 198) d_lw_196 rfl rfl (by decide) ?_
  refine zx_aload_n (pc2 := 199) d_lw_198 rfl rfl ?_
  refine lw_callV (pc2 := 202) (av := []) s_La_85 v_Mo_thrown zl_c546 c_Mo_thrown d_lw_199 rfl rfl rfl (Nat.le_of_ble_eq_true rfl) (by decide) (by decide) hk hj ?_
  refine zx_iload (pc2 := 204) d_lw_202 rfl rfl ?_
  refine zx_icmp_eq (pc2 := 207) d_lw_204 rfl (tgt := 209) (by decide) (fun _ => ?_) (fun cz => absurd ht cz)
  refine zx_iload (pc2 := 211) d_lw_209 rfl rfl ?_
  refine zx_if_ne (pc2 := 214) d_lw_211 rfl (tgt := 226) (by decide) (fun _ => ?_) (fun cz => ?_)
  · refine zx_goto (tgt := 1153) d_lw_226 (by decide) ?_
    exact lw_back kk
  · have e0 : kc = 0 := Classical.byContradiction (fun q => nI_ne0 (by omega) (by omega) cz)
    refine zx_aload_n (pc2 := 215) d_lw_214 rfl rfl ?_
    refine zx_iconst (pc2 := 216) (v := nI 0) d_lw_215 rfl (by decide) ?_
    refine zk_lald (pc2 := 217) d_lw_216 rfl zl_c572 rfl (by decide) (by decide) ?_
    rw [ho e0]
    refine zx_iload (pc2 := 219) d_lw_217 rfl rfl ?_
    refine zx_i2l (pc2 := 220) d_lw_219 rfl ?_
    refine zx_lcmp (pc2 := 221) d_lw_220 rfl ?_
    refine zx_if_eq (pc2 := 224) d_lw_221 rfl (tgt := 226) (by decide) (fun _ => ?_) (fun cz => absurd (lw_eqc _) cz)
    refine zx_goto (tgt := 1153) d_lw_226 (by decide) ?_
    exact lw_back kk
theorem lc_propose {w : Int32} (hX : ∀ U, Z U → va_X b0 N xs U U.heap) (hb0 : b0 < b) (hN : N < 2 ^ 31) (hi : 4 * i + 3 < N) (hk : k + 1 ≤ 601024) (hj : j + 6 ≤ 7293034) (hW : zKW l D ar b Z y_La_propose [.ref (b + 0), .int (xs (4 * i + 1)), .ref (b + 572)] M n (.int (nI kc)) M1 n1) (hMo : zK l D ar b Z y_Mo_propose dm [.ref (b + 546), .int (xs (4 * i + 1))] M1 n1 (some (.int w)) M2) (hdm : dm ≤ 9) (ht : zm_I M2 546 0 = nI kc) (hkc : kc < 8) (ho : kc = 0 → zm_J M2 572 0 = w.toInt64) (kk : zX (zn_G l D ar b Z) y_lw room_1 F 1153 (lw_L b0 b i none none) [] (zm_h b ar zl M2) n1 (k + 1) (j + 6)) : zX (zn_G l D ar b Z) y_lw room_1 F 229 (lw_L b0 b i z5 z6) [] (zm_h b ar zl M) n k j := by
  refine zx_aload_n (pc2 := 230) d_lw_229 rfl rfl ?_
  refine zx_aload_n (pc2 := 231) d_lw_230 rfl rfl ?_
  refine zx_iload (pc2 := 233) d_lw_231 rfl rfl ?_
  refine zx_iconst (pc2 := 234) (v := nI 1) d_lw_233 rfl (by decide) ?_
  refine zx_iadd (pc2 := 235) d_lw_234 rfl ?_
  refine zx_sld (pc2 := 236) d_lw_235 rfl (fun U hU => hX U hU.2) hb0 (nI_add _ _) (by omega) hN ?_
  refine zx_aload_n (pc2 := 237) d_lw_236 rfl rfl ?_
  refine lw_callW (y1 := y_La_propose) (np := 3) (pc2 := 240) zn_w404 zn_w0 ⟨by decide, by decide, by decide +kernel⟩ zn_w402 zn_w403 hW d_lw_237 rfl rfl rfl (Nat.le_of_ble_eq_true rfl) (by decide) hk hj ?_
  refine zx_ist5 (pc2 := 242) d_lw_240 rfl rfl (by decide) ?_
  refine zx_aload_n (pc2 := 243) d_lw_242 rfl rfl ?_
  refine zx_aload_n (pc2 := 244) d_lw_243 rfl rfl ?_
  refine zx_iload (pc2 := 246) d_lw_244 rfl rfl ?_
  refine zx_iconst (pc2 := 247) (v := nI 1) d_lw_246 rfl (by decide) ?_
  refine zx_iadd (pc2 := 248) d_lw_247 rfl ?_
  refine zx_sld (pc2 := 249) d_lw_248 rfl (fun U hU => hX U hU.2) hb0 (nI_add _ _) (by omega) hN ?_
  refine lw_callV (pc2 := 252) s_La_91 v_Mo_propose zl_c546 hMo d_lw_249 rfl rfl rfl (Nat.le_of_ble_eq_true rfl) hdm (by decide) hk hj ?_
  refine zx_ist6 (pc2 := 254) d_lw_252 rfl rfl (by decide) ?_
  refine zx_aload_n (pc2 := 255) d_lw_254 rfl rfl ?_
  refine lw_callV (pc2 := 258) (av := []) s_La_85 v_Mo_thrown zl_c546 c_Mo_thrown d_lw_255 rfl rfl rfl (Nat.le_of_ble_eq_true rfl) (by decide) (by decide) hk hj ?_
  refine zx_iload (pc2 := 260) d_lw_258 rfl rfl ?_
  refine zx_icmp_eq (pc2 := 263) d_lw_260 rfl (tgt := 265) (by decide) (fun _ => ?_) (fun cz => absurd ht cz)
  refine zx_iload (pc2 := 267) d_lw_265 rfl rfl ?_
  refine zx_if_ne (pc2 := 270) d_lw_267 rfl (tgt := 282) (by decide) (fun _ => ?_) (fun cz => ?_)
  · refine zx_goto (tgt := 1153) d_lw_282 (by decide) ?_
    exact lw_back kk
  · have e0 : kc = 0 := Classical.byContradiction (fun q => nI_ne0 (by omega) (by omega) cz)
    refine zx_aload_n (pc2 := 271) d_lw_270 rfl rfl ?_
    refine zx_iconst (pc2 := 272) (v := nI 0) d_lw_271 rfl (by decide) ?_
    refine zk_lald (pc2 := 273) d_lw_272 rfl zl_c572 rfl (by decide) (by decide) ?_
    rw [ho e0]
    refine zx_iload (pc2 := 275) d_lw_273 rfl rfl ?_
    refine zx_i2l (pc2 := 276) d_lw_275 rfl ?_
    refine zx_lcmp (pc2 := 277) d_lw_276 rfl ?_
    refine zx_if_eq (pc2 := 280) d_lw_277 rfl (tgt := 282) (by decide) (fun _ => ?_) (fun cz => absurd (lw_eqc _) cz)
    refine zx_goto (tgt := 1153) d_lw_282 (by decide) ?_
    exact lw_back kk
theorem lc_resend {w : Int32} (hX : ∀ U, Z U → va_X b0 N xs U U.heap) (hb0 : b0 < b) (hN : N < 2 ^ 31) (hi : 4 * i + 3 < N) (hk : k + 1 ≤ 601024) (hj : j + 6 ≤ 7293034) (hW : zKW l D ar b Z y_La_resend [.ref (b + 0), .int (xs (4 * i + 1)), .ref (b + 572)] M n (.int (nI kc)) M1 n1) (hMo : zK l D ar b Z y_Mo_resend dm [.ref (b + 546), .int (xs (4 * i + 1))] M1 n1 (some (.int w)) M2) (hdm : dm ≤ 9) (ht : zm_I M2 546 0 = nI kc) (hkc : kc < 8) (ho : kc = 0 → zm_J M2 572 0 = w.toInt64) (kk : zX (zn_G l D ar b Z) y_lw room_1 F 1153 (lw_L b0 b i none none) [] (zm_h b ar zl M2) n1 (k + 1) (j + 6)) : zX (zn_G l D ar b Z) y_lw room_1 F 285 (lw_L b0 b i z5 z6) [] (zm_h b ar zl M) n k j := by
  refine zx_aload_n (pc2 := 286) d_lw_285 rfl rfl ?_
  refine zx_aload_n (pc2 := 287) d_lw_286 rfl rfl ?_
  refine zx_iload (pc2 := 289) d_lw_287 rfl rfl ?_
  refine zx_iconst (pc2 := 290) (v := nI 1) d_lw_289 rfl (by decide) ?_
  refine zx_iadd (pc2 := 291) d_lw_290 rfl ?_
  refine zx_sld (pc2 := 292) d_lw_291 rfl (fun U hU => hX U hU.2) hb0 (nI_add _ _) (by omega) hN ?_
  refine zx_aload_n (pc2 := 293) d_lw_292 rfl rfl ?_
  refine lw_callW (y1 := y_La_resend) (np := 3) (pc2 := 296) zn_w478 zn_w0 ⟨by decide, by decide, by decide +kernel⟩ zn_w476 zn_w477 hW d_lw_293 rfl rfl rfl (Nat.le_of_ble_eq_true rfl) (by decide) hk hj ?_
  refine zx_ist5 (pc2 := 298) d_lw_296 rfl rfl (by decide) ?_
  refine zx_aload_n (pc2 := 299) d_lw_298 rfl rfl ?_
  refine zx_aload_n (pc2 := 300) d_lw_299 rfl rfl ?_
  refine zx_iload (pc2 := 302) d_lw_300 rfl rfl ?_
  refine zx_iconst (pc2 := 303) (v := nI 1) d_lw_302 rfl (by decide) ?_
  refine zx_iadd (pc2 := 304) d_lw_303 rfl ?_
  refine zx_sld (pc2 := 305) d_lw_304 rfl (fun U hU => hX U hU.2) hb0 (nI_add _ _) (by omega) hN ?_
  refine lw_callV (pc2 := 308) s_La_94 v_Mo_resend zl_c546 hMo d_lw_305 rfl rfl rfl (Nat.le_of_ble_eq_true rfl) hdm (by decide) hk hj ?_
  refine zx_ist6 (pc2 := 310) d_lw_308 rfl rfl (by decide) ?_
  refine zx_aload_n (pc2 := 311) d_lw_310 rfl rfl ?_
  refine lw_callV (pc2 := 314) (av := []) s_La_85 v_Mo_thrown zl_c546 c_Mo_thrown d_lw_311 rfl rfl rfl (Nat.le_of_ble_eq_true rfl) (by decide) (by decide) hk hj ?_
  refine zx_iload (pc2 := 316) d_lw_314 rfl rfl ?_
  refine zx_icmp_eq (pc2 := 319) d_lw_316 rfl (tgt := 321) (by decide) (fun _ => ?_) (fun cz => absurd ht cz)
  refine zx_iload (pc2 := 323) d_lw_321 rfl rfl ?_
  refine zx_if_ne (pc2 := 326) d_lw_323 rfl (tgt := 338) (by decide) (fun _ => ?_) (fun cz => ?_)
  · refine zx_goto (tgt := 1153) d_lw_338 (by decide) ?_
    exact lw_back kk
  · have e0 : kc = 0 := Classical.byContradiction (fun q => nI_ne0 (by omega) (by omega) cz)
    refine zx_aload_n (pc2 := 327) d_lw_326 rfl rfl ?_
    refine zx_iconst (pc2 := 328) (v := nI 0) d_lw_327 rfl (by decide) ?_
    refine zk_lald (pc2 := 329) d_lw_328 rfl zl_c572 rfl (by decide) (by decide) ?_
    rw [ho e0]
    refine zx_iload (pc2 := 331) d_lw_329 rfl rfl ?_
    refine zx_i2l (pc2 := 332) d_lw_331 rfl ?_
    refine zx_lcmp (pc2 := 333) d_lw_332 rfl ?_
    refine zx_if_eq (pc2 := 336) d_lw_333 rfl (tgt := 338) (by decide) (fun _ => ?_) (fun cz => absurd (lw_eqc _) cz)
    refine zx_goto (tgt := 1153) d_lw_338 (by decide) ?_
    exact lw_back kk
theorem lc_deliver {w : Int32} (hX : ∀ U, Z U → va_X b0 N xs U U.heap) (hb0 : b0 < b) (hN : N < 2 ^ 31) (hi : 4 * i + 3 < N) (hk : k + 1 ≤ 601024) (hj : j + 6 ≤ 7293034) (hW : zKW l D ar b Z y_La_deliver [.ref (b + 0), .int (xs (4 * i + 1)), .ref (b + 572)] M n (.int (nI kc)) M1 n1) (hMo : zK l D ar b Z y_Mo_deliver dm [.ref (b + 546), .int (xs (4 * i + 1))] M1 n1 (some (.int w)) M2) (hdm : dm ≤ 9) (ht : zm_I M2 546 0 = nI kc) (hkc : kc < 8) (ho : kc = 0 → zm_J M2 572 0 = w.toInt64) (kk : zX (zn_G l D ar b Z) y_lw room_1 F 1153 (lw_L b0 b i none none) [] (zm_h b ar zl M2) n1 (k + 1) (j + 6)) : zX (zn_G l D ar b Z) y_lw room_1 F 341 (lw_L b0 b i z5 z6) [] (zm_h b ar zl M) n k j := by
  refine zx_aload_n (pc2 := 342) d_lw_341 rfl rfl ?_
  refine zx_aload_n (pc2 := 343) d_lw_342 rfl rfl ?_
  refine zx_iload (pc2 := 345) d_lw_343 rfl rfl ?_
  refine zx_iconst (pc2 := 346) (v := nI 1) d_lw_345 rfl (by decide) ?_
  refine zx_iadd (pc2 := 347) d_lw_346 rfl ?_
  refine zx_sld (pc2 := 348) d_lw_347 rfl (fun U hU => hX U hU.2) hb0 (nI_add _ _) (by omega) hN ?_
  refine zx_aload_n (pc2 := 349) d_lw_348 rfl rfl ?_
  refine lw_callW (y1 := y_La_deliver) (np := 3) (pc2 := 352) zn_w493 zn_w0 ⟨by decide, by decide, by decide +kernel⟩ zn_w491 zn_w492 hW d_lw_349 rfl rfl rfl (Nat.le_of_ble_eq_true rfl) (by decide) hk hj ?_
  refine zx_ist5 (pc2 := 354) d_lw_352 rfl rfl (by decide) ?_
  refine zx_aload_n (pc2 := 355) d_lw_354 rfl rfl ?_
  refine zx_aload_n (pc2 := 356) d_lw_355 rfl rfl ?_
  refine zx_iload (pc2 := 358) d_lw_356 rfl rfl ?_
  refine zx_iconst (pc2 := 359) (v := nI 1) d_lw_358 rfl (by decide) ?_
  refine zx_iadd (pc2 := 360) d_lw_359 rfl ?_
  refine zx_sld (pc2 := 361) d_lw_360 rfl (fun U hU => hX U hU.2) hb0 (nI_add _ _) (by omega) hN ?_
  refine lw_callV (pc2 := 364) s_La_97 v_Mo_deliver zl_c546 hMo d_lw_361 rfl rfl rfl (Nat.le_of_ble_eq_true rfl) hdm (by decide) hk hj ?_
  refine zx_ist6 (pc2 := 366) d_lw_364 rfl rfl (by decide) ?_
  refine zx_aload_n (pc2 := 367) d_lw_366 rfl rfl ?_
  refine lw_callV (pc2 := 370) (av := []) s_La_85 v_Mo_thrown zl_c546 c_Mo_thrown d_lw_367 rfl rfl rfl (Nat.le_of_ble_eq_true rfl) (by decide) (by decide) hk hj ?_
  refine zx_iload (pc2 := 372) d_lw_370 rfl rfl ?_
  refine zx_icmp_eq (pc2 := 375) d_lw_372 rfl (tgt := 377) (by decide) (fun _ => ?_) (fun cz => absurd ht cz)
  refine zx_iload (pc2 := 379) d_lw_377 rfl rfl ?_
  refine zx_if_ne (pc2 := 382) d_lw_379 rfl (tgt := 394) (by decide) (fun _ => ?_) (fun cz => ?_)
  · refine zx_goto (tgt := 1153) d_lw_394 (by decide) ?_
    exact lw_back kk
  · have e0 : kc = 0 := Classical.byContradiction (fun q => nI_ne0 (by omega) (by omega) cz)
    refine zx_aload_n (pc2 := 383) d_lw_382 rfl rfl ?_
    refine zx_iconst (pc2 := 384) (v := nI 0) d_lw_383 rfl (by decide) ?_
    refine zk_lald (pc2 := 385) d_lw_384 rfl zl_c572 rfl (by decide) (by decide) ?_
    rw [ho e0]
    refine zx_iload (pc2 := 387) d_lw_385 rfl rfl ?_
    refine zx_i2l (pc2 := 388) d_lw_387 rfl ?_
    refine zx_lcmp (pc2 := 389) d_lw_388 rfl ?_
    refine zx_if_eq (pc2 := 392) d_lw_389 rfl (tgt := 394) (by decide) (fun _ => ?_) (fun cz => absurd (lw_eqc _) cz)
    refine zx_goto (tgt := 1153) d_lw_394 (by decide) ?_
    exact lw_back kk
theorem lc_drop (hX : ∀ U, Z U → va_X b0 N xs U U.heap) (hb0 : b0 < b) (hN : N < 2 ^ 31) (hi : 4 * i + 3 < N) (hk : k + 1 ≤ 601024) (hj : j + 6 ≤ 7293034) (hW : zKW l D ar b Z y_La_drop [.ref (b + 0), .int (xs (4 * i + 1))] M n (.int (nI kc)) M1 n1) (hMo : zK l D ar b Z y_Mo_drop dm [.ref (b + 546), .int (xs (4 * i + 1))] M1 n1 none M2) (hdm : dm ≤ 9) (ht : zm_I M2 546 0 = nI kc) (hkc : kc < 8) (kk : zX (zn_G l D ar b Z) y_lw room_1 F 1153 (lw_L b0 b i none none) [] (zm_h b ar zl M2) n1 (k + 1) (j + 6)) : zX (zn_G l D ar b Z) y_lw room_1 F 397 (lw_L b0 b i z5 z6) [] (zm_h b ar zl M) n k j := by
  refine zx_aload_n (pc2 := 398) d_lw_397 rfl rfl ?_
  refine zx_aload_n (pc2 := 399) d_lw_398 rfl rfl ?_
  refine zx_iload (pc2 := 401) d_lw_399 rfl rfl ?_
  refine zx_iconst (pc2 := 402) (v := nI 1) d_lw_401 rfl (by decide) ?_
  refine zx_iadd (pc2 := 403) d_lw_402 rfl ?_
  refine zx_sld (pc2 := 404) d_lw_403 rfl (fun U hU => hX U hU.2) hb0 (nI_add _ _) (by omega) hN ?_
  refine lw_callW (y1 := y_La_drop) (np := 2) (pc2 := 407) zn_w619 zn_w0 ⟨by decide, by decide, by decide +kernel⟩ zn_w617 zn_w618 hW d_lw_404 rfl rfl rfl (Nat.le_of_ble_eq_true rfl) (by decide) hk hj ?_
  refine zx_ist5 (pc2 := 409) d_lw_407 rfl rfl (by decide) ?_
  refine zx_aload_n (pc2 := 410) d_lw_409 rfl rfl ?_
  refine zx_aload_n (pc2 := 411) d_lw_410 rfl rfl ?_
  refine zx_iload (pc2 := 413) d_lw_411 rfl rfl ?_
  refine zx_iconst (pc2 := 414) (v := nI 1) d_lw_413 rfl (by decide) ?_
  refine zx_iadd (pc2 := 415) d_lw_414 rfl ?_
  refine zx_sld (pc2 := 416) d_lw_415 rfl (fun U hU => hX U hU.2) hb0 (nI_add _ _) (by omega) hN ?_
  refine lw_callVv (pc2 := 419) s_La_101 v_Mo_drop zl_c546 hMo d_lw_416 rfl rfl rfl (Nat.le_of_ble_eq_true rfl) hdm (by decide) hk hj ?_
  refine zx_aload_n (pc2 := 420) d_lw_419 rfl rfl ?_
  refine lw_callV (pc2 := 423) (av := []) s_La_85 v_Mo_thrown zl_c546 c_Mo_thrown d_lw_420 rfl rfl rfl (Nat.le_of_ble_eq_true rfl) (by decide) (by decide) hk hj ?_
  refine zx_iload (pc2 := 425) d_lw_423 rfl rfl ?_
  refine zx_icmp_eq (pc2 := 428) d_lw_425 rfl (tgt := 430) (by decide) (fun _ => ?_) (fun cz => absurd ht cz)
  refine zx_goto (tgt := 1153) d_lw_430 (by decide) ?_
  exact lw_back kk
theorem lc_twin (hX : ∀ U, Z U → va_X b0 N xs U U.heap) (hb0 : b0 < b) (hN : N < 2 ^ 31) (hi : 4 * i + 3 < N) (hk : k + 1 ≤ 601024) (hj : j + 6 ≤ 7293034) (hW : zKW l D ar b Z y_La_twin [.ref (b + 0), .int (xs (4 * i + 1))] M n (.int (nI kc)) M1 n1) (hMo : zK l D ar b Z y_Mo_twin dm [.ref (b + 546), .int (xs (4 * i + 1))] M1 n1 none M2) (hdm : dm ≤ 9) (ht : zm_I M2 546 0 = nI kc) (hkc : kc < 8) (kk : zX (zn_G l D ar b Z) y_lw room_1 F 1153 (lw_L b0 b i none none) [] (zm_h b ar zl M2) n1 (k + 1) (j + 6)) : zX (zn_G l D ar b Z) y_lw room_1 F 433 (lw_L b0 b i z5 z6) [] (zm_h b ar zl M) n k j := by
  refine zx_aload_n (pc2 := 434) d_lw_433 rfl rfl ?_
  refine zx_aload_n (pc2 := 435) d_lw_434 rfl rfl ?_
  refine zx_iload (pc2 := 437) d_lw_435 rfl rfl ?_
  refine zx_iconst (pc2 := 438) (v := nI 1) d_lw_437 rfl (by decide) ?_
  refine zx_iadd (pc2 := 439) d_lw_438 rfl ?_
  refine zx_sld (pc2 := 440) d_lw_439 rfl (fun U hU => hX U hU.2) hb0 (nI_add _ _) (by omega) hN ?_
  refine lw_callW (y1 := y_La_twin) (np := 2) (pc2 := 443) zn_w626 zn_w0 ⟨by decide, by decide, by decide +kernel⟩ zn_w624 zn_w625 hW d_lw_440 rfl rfl rfl (Nat.le_of_ble_eq_true rfl) (by decide) hk hj ?_
  refine zx_ist5 (pc2 := 445) d_lw_443 rfl rfl (by decide) ?_
  refine zx_aload_n (pc2 := 446) d_lw_445 rfl rfl ?_
  refine zx_aload_n (pc2 := 447) d_lw_446 rfl rfl ?_
  refine zx_iload (pc2 := 449) d_lw_447 rfl rfl ?_
  refine zx_iconst (pc2 := 450) (v := nI 1) d_lw_449 rfl (by decide) ?_
  refine zx_iadd (pc2 := 451) d_lw_450 rfl ?_
  refine zx_sld (pc2 := 452) d_lw_451 rfl (fun U hU => hX U hU.2) hb0 (nI_add _ _) (by omega) hN ?_
  refine lw_callVv (pc2 := 455) s_La_104 v_Mo_twin zl_c546 hMo d_lw_452 rfl rfl rfl (Nat.le_of_ble_eq_true rfl) hdm (by decide) hk hj ?_
  refine zx_aload_n (pc2 := 456) d_lw_455 rfl rfl ?_
  refine lw_callV (pc2 := 459) (av := []) s_La_85 v_Mo_thrown zl_c546 c_Mo_thrown d_lw_456 rfl rfl rfl (Nat.le_of_ble_eq_true rfl) (by decide) (by decide) hk hj ?_
  refine zx_iload (pc2 := 461) d_lw_459 rfl rfl ?_
  refine zx_icmp_eq (pc2 := 464) d_lw_461 rfl (tgt := 466) (by decide) (fun _ => ?_) (fun cz => absurd ht cz)
  refine zx_goto (tgt := 1153) d_lw_466 (by decide) ?_
  exact lw_back kk
theorem lc_letter {w : Int32} (hX : ∀ U, Z U → va_X b0 N xs U U.heap) (hb0 : b0 < b) (hN : N < 2 ^ 31) (hi : 4 * i + 3 < N) (hk : k + 1 ≤ 601024) (hj : j + 6 ≤ 7293034) (hW : zKW l D ar b Z y_La_letter [.ref (b + 0), .int (xs (4 * i + 1)), .int (xs (4 * i + 2)), .ref (b + 572)] M n (.int (nI kc)) M1 n1) (hMo : zK l D ar b Z y_Mo_letter dm [.ref (b + 546), .int (xs (4 * i + 1)), .int (xs (4 * i + 2))] M1 n1 (some (.int w)) M2) (hdm : dm ≤ 9) (ht : zm_I M2 546 0 = nI kc) (hkc : kc < 8) (ho : kc = 0 → zm_J M2 572 0 = w.toInt64) (kk : zX (zn_G l D ar b Z) y_lw room_1 F 1153 (lw_L b0 b i none none) [] (zm_h b ar zl M2) n1 (k + 1) (j + 6)) : zX (zn_G l D ar b Z) y_lw room_1 F 482 (lw_L b0 b i z5 z6) [] (zm_h b ar zl M) n k j := by
  refine zx_aload_n (pc2 := 483) d_lw_482 rfl rfl ?_
  refine zx_aload_n (pc2 := 484) d_lw_483 rfl rfl ?_
  refine zx_iload (pc2 := 486) d_lw_484 rfl rfl ?_
  refine zx_iconst (pc2 := 487) (v := nI 1) d_lw_486 rfl (by decide) ?_
  refine zx_iadd (pc2 := 488) d_lw_487 rfl ?_
  refine zx_sld (pc2 := 489) d_lw_488 rfl (fun U hU => hX U hU.2) hb0 (nI_add _ _) (by omega) hN ?_
  refine zx_aload_n (pc2 := 490) d_lw_489 rfl rfl ?_
  refine zx_iload (pc2 := 492) d_lw_490 rfl rfl ?_
  refine zx_iconst (pc2 := 493) (v := nI 2) d_lw_492 rfl (by decide) ?_
  refine zx_iadd (pc2 := 494) d_lw_493 rfl ?_
  refine zx_sld (pc2 := 495) d_lw_494 rfl (fun U hU => hX U hU.2) hb0 (nI_add _ _) (by omega) hN ?_
  refine zx_aload_n (pc2 := 496) d_lw_495 rfl rfl ?_
  refine lw_callW (y1 := y_La_letter) (np := 4) (pc2 := 499) zn_w641 zn_w0 ⟨by decide, by decide, by decide +kernel⟩ zn_w639 zn_w640 hW d_lw_496 rfl rfl rfl (Nat.le_of_ble_eq_true rfl) (by decide) hk hj ?_
  refine zx_ist5 (pc2 := 501) d_lw_499 rfl rfl (by decide) ?_
  refine zx_aload_n (pc2 := 502) d_lw_501 rfl rfl ?_
  refine zx_aload_n (pc2 := 503) d_lw_502 rfl rfl ?_
  refine zx_iload (pc2 := 505) d_lw_503 rfl rfl ?_
  refine zx_iconst (pc2 := 506) (v := nI 1) d_lw_505 rfl (by decide) ?_
  refine zx_iadd (pc2 := 507) d_lw_506 rfl ?_
  refine zx_sld (pc2 := 508) d_lw_507 rfl (fun U hU => hX U hU.2) hb0 (nI_add _ _) (by omega) hN ?_
  refine zx_aload_n (pc2 := 509) d_lw_508 rfl rfl ?_
  refine zx_iload (pc2 := 511) d_lw_509 rfl rfl ?_
  refine zx_iconst (pc2 := 512) (v := nI 2) d_lw_511 rfl (by decide) ?_
  refine zx_iadd (pc2 := 513) d_lw_512 rfl ?_
  refine zx_sld (pc2 := 514) d_lw_513 rfl (fun U hU => hX U hU.2) hb0 (nI_add _ _) (by omega) hN ?_
  refine lw_callV (pc2 := 517) s_La_112 v_Mo_letter zl_c546 hMo d_lw_514 rfl rfl rfl (Nat.le_of_ble_eq_true rfl) hdm (by decide) hk hj ?_
  refine zx_ist6 (pc2 := 519) d_lw_517 rfl rfl (by decide) ?_
  refine zx_aload_n (pc2 := 520) d_lw_519 rfl rfl ?_
  refine lw_callV (pc2 := 523) (av := []) s_La_85 v_Mo_thrown zl_c546 c_Mo_thrown d_lw_520 rfl rfl rfl (Nat.le_of_ble_eq_true rfl) (by decide) (by decide) hk hj ?_
  refine zx_iload (pc2 := 525) d_lw_523 rfl rfl ?_
  refine zx_icmp_eq (pc2 := 528) d_lw_525 rfl (tgt := 530) (by decide) (fun _ => ?_) (fun cz => absurd ht cz)
  refine zx_iload (pc2 := 532) d_lw_530 rfl rfl ?_
  refine zx_if_ne (pc2 := 535) d_lw_532 rfl (tgt := 547) (by decide) (fun _ => ?_) (fun cz => ?_)
  · refine zx_goto (tgt := 1153) d_lw_547 (by decide) ?_
    exact lw_back kk
  · have e0 : kc = 0 := Classical.byContradiction (fun q => nI_ne0 (by omega) (by omega) cz)
    refine zx_aload_n (pc2 := 536) d_lw_535 rfl rfl ?_
    refine zx_iconst (pc2 := 537) (v := nI 0) d_lw_536 rfl (by decide) ?_
    refine zk_lald (pc2 := 538) d_lw_537 rfl zl_c572 rfl (by decide) (by decide) ?_
    rw [ho e0]
    refine zx_iload (pc2 := 540) d_lw_538 rfl rfl ?_
    refine zx_i2l (pc2 := 541) d_lw_540 rfl ?_
    refine zx_lcmp (pc2 := 542) d_lw_541 rfl ?_
    refine zx_if_eq (pc2 := 545) d_lw_542 rfl (tgt := 547) (by decide) (fun _ => ?_) (fun cz => absurd (lw_eqc _) cz)
    refine zx_goto (tgt := 1153) d_lw_547 (by decide) ?_
    exact lw_back kk
theorem lc_up {w : Int32} {u : Int32} (hu : u = if xs (4 * i + 2) = 0 then nI 0 else nI 1) (hX : ∀ U, Z U → va_X b0 N xs U U.heap) (hb0 : b0 < b) (hN : N < 2 ^ 31) (hi : 4 * i + 3 < N) (hk : k + 1 ≤ 601024) (hj : j + 6 ≤ 7293034) (hW : zKW l D ar b Z y_La_up [.ref (b + 0), .int (xs (4 * i + 1)), .int u, .ref (b + 572)] M n (.int (nI kc)) M1 n1) (hMo : zK l D ar b Z y_Mo_up dm [.ref (b + 546), .int (xs (4 * i + 1)), .int u] M1 n1 (some (.int w)) M2) (hdm : dm ≤ 9) (ht : zm_I M2 546 0 = nI kc) (hkc : kc < 8) (ho : kc = 0 → zm_J M2 572 0 = if w = 0 then 0 else 1) (kk : zX (zn_G l D ar b Z) y_lw room_1 F 1153 (lw_L b0 b i none none) [] (zm_h b ar zl M2) n1 (k + 1) (j + 6)) : zX (zn_G l D ar b Z) y_lw room_1 F 550 (lw_L b0 b i z5 z6) [] (zm_h b ar zl M) n k j := by
  refine zx_aload_n (pc2 := 551) d_lw_550 rfl rfl ?_
  refine zx_aload_n (pc2 := 552) d_lw_551 rfl rfl ?_
  refine zx_iload (pc2 := 554) d_lw_552 rfl rfl ?_
  refine zx_iconst (pc2 := 555) (v := nI 1) d_lw_554 rfl (by decide) ?_
  refine zx_iadd (pc2 := 556) d_lw_555 rfl ?_
  refine zx_sld (pc2 := 557) d_lw_556 rfl (fun U hU => hX U hU.2) hb0 (nI_add _ _) (by omega) hN ?_
  refine zx_aload_n (pc2 := 558) d_lw_557 rfl rfl ?_
  refine zx_iload (pc2 := 560) d_lw_558 rfl rfl ?_
  refine zx_iconst (pc2 := 561) (v := nI 2) d_lw_560 rfl (by decide) ?_
  refine zx_iadd (pc2 := 562) d_lw_561 rfl ?_
  refine zx_sld (pc2 := 563) d_lw_562 rfl (fun U hU => hX U hU.2) hb0 (nI_add _ _) (by omega) hN ?_
  by_cases c : xs (4 * i + 2) = 0
  · rw [if_pos c] at hu
    subst hu
    refine zx_if_eq (pc2 := 566) d_lw_563 rfl (tgt := 570) (by decide) (fun _ => ?_) (fun cz => absurd c cz)
    refine zx_iconst (pc2 := 571) (v := nI 0) d_lw_570 rfl (by decide) ?_
    refine zx_aload_n (pc2 := 572) d_lw_571 rfl rfl ?_
    refine lw_callW (y1 := y_La_up) (np := 4) (pc2 := 575) zn_w648 zn_w0 ⟨by decide, by decide, by decide +kernel⟩ zn_w646 zn_w647 hW d_lw_572 rfl rfl rfl (Nat.le_of_ble_eq_true rfl) (by decide) hk hj ?_
    refine zx_ist5 (pc2 := 577) d_lw_575 rfl rfl (by decide) ?_
    refine zx_aload_n (pc2 := 578) d_lw_577 rfl rfl ?_
    refine zx_aload_n (pc2 := 579) d_lw_578 rfl rfl ?_
    refine zx_iload (pc2 := 581) d_lw_579 rfl rfl ?_
    refine zx_iconst (pc2 := 582) (v := nI 1) d_lw_581 rfl (by decide) ?_
    refine zx_iadd (pc2 := 583) d_lw_582 rfl ?_
    refine zx_sld (pc2 := 584) d_lw_583 rfl (fun U hU => hX U hU.2) hb0 (nI_add _ _) (by omega) hN ?_
    refine zx_aload_n (pc2 := 585) d_lw_584 rfl rfl ?_
    refine zx_iload (pc2 := 587) d_lw_585 rfl rfl ?_
    refine zx_iconst (pc2 := 588) (v := nI 2) d_lw_587 rfl (by decide) ?_
    refine zx_iadd (pc2 := 589) d_lw_588 rfl ?_
    refine zx_sld (pc2 := 590) d_lw_589 rfl (fun U hU => hX U hU.2) hb0 (nI_add _ _) (by omega) hN ?_
    refine zx_if_eq (pc2 := 593) d_lw_590 rfl (tgt := 597) (by decide) (fun _ => ?_) (fun cz => absurd c cz)
    refine zx_iconst (pc2 := 598) (v := nI 0) d_lw_597 rfl (by decide) ?_
    refine lw_callV (pc2 := 601) s_La_116 v_Mo_up zl_c546 hMo d_lw_598 rfl rfl rfl (Nat.le_of_ble_eq_true rfl) hdm (by decide) hk hj ?_
    refine zx_ist6 (pc2 := 603) d_lw_601 rfl rfl (by decide) ?_
    refine zx_aload_n (pc2 := 604) d_lw_603 rfl rfl ?_
    refine lw_callV (pc2 := 607) (av := []) s_La_85 v_Mo_thrown zl_c546 c_Mo_thrown d_lw_604 rfl rfl rfl (Nat.le_of_ble_eq_true rfl) (by decide) (by decide) hk hj ?_
    refine zx_iload (pc2 := 609) d_lw_607 rfl rfl ?_
    refine zx_icmp_eq (pc2 := 612) d_lw_609 rfl (tgt := 614) (by decide) (fun _ => ?_) (fun cz => absurd ht cz)
    refine zx_iload (pc2 := 616) d_lw_614 rfl rfl ?_
    refine zx_if_ne (pc2 := 619) d_lw_616 rfl (tgt := 638) (by decide) (fun _ => ?_) (fun cz => ?_)
    · refine zx_goto (tgt := 1153) d_lw_638 (by decide) ?_
      exact lw_back kk
    · have e0 : kc = 0 := Classical.byContradiction (fun q => nI_ne0 (by omega) (by omega) cz)
      refine zx_aload_n (pc2 := 620) d_lw_619 rfl rfl ?_
      refine zx_iconst (pc2 := 621) (v := nI 0) d_lw_620 rfl (by decide) ?_
      refine zk_lald (pc2 := 622) d_lw_621 rfl zl_c572 rfl (by decide) (by decide) ?_
      rw [ho e0]
      refine zx_iload (pc2 := 624) d_lw_622 rfl rfl ?_
      by_cases cw : w = 0
      · rw [if_pos cw]
        refine zx_if_eq (pc2 := 627) d_lw_624 rfl (tgt := 631) (by decide) (fun _ => ?_) (fun cz => absurd cw cz)
        refine zx_lconst (pc2 := 632) (v := 0) d_lw_631 rfl rfl ?_
        refine zx_lcmp (pc2 := 633) d_lw_632 rfl ?_
        refine zx_if_eq (pc2 := 636) d_lw_633 rfl (tgt := 638) (by decide) (fun _ => ?_) (fun cz => absurd (lw_eqc _) cz)
        refine zx_goto (tgt := 1153) d_lw_638 (by decide) ?_
        exact lw_back kk
      · rw [if_neg cw]
        refine zx_if_eq (pc2 := 627) d_lw_624 rfl (tgt := 631) (by decide) (fun cz => absurd cz cw) (fun _ => ?_)
        refine zx_lconst (pc2 := 628) (v := 1) d_lw_627 rfl rfl ?_
        refine zx_goto (tgt := 632) d_lw_628 (by decide) ?_
        refine zx_lcmp (pc2 := 633) d_lw_632 rfl ?_
        refine zx_if_eq (pc2 := 636) d_lw_633 rfl (tgt := 638) (by decide) (fun _ => ?_) (fun cz => absurd (lw_eqc _) cz)
        refine zx_goto (tgt := 1153) d_lw_638 (by decide) ?_
        exact lw_back kk
  · rw [if_neg c] at hu
    subst hu
    refine zx_if_eq (pc2 := 566) d_lw_563 rfl (tgt := 570) (by decide) (fun cz => absurd cz c) (fun _ => ?_)
    refine zx_iconst (pc2 := 567) (v := nI 1) d_lw_566 rfl (by decide) ?_
    refine zx_goto (tgt := 571) d_lw_567 (by decide) ?_
    refine zx_aload_n (pc2 := 572) d_lw_571 rfl rfl ?_
    refine lw_callW (y1 := y_La_up) (np := 4) (pc2 := 575) zn_w648 zn_w0 ⟨by decide, by decide, by decide +kernel⟩ zn_w646 zn_w647 hW d_lw_572 rfl rfl rfl (Nat.le_of_ble_eq_true rfl) (by decide) hk hj ?_
    refine zx_ist5 (pc2 := 577) d_lw_575 rfl rfl (by decide) ?_
    refine zx_aload_n (pc2 := 578) d_lw_577 rfl rfl ?_
    refine zx_aload_n (pc2 := 579) d_lw_578 rfl rfl ?_
    refine zx_iload (pc2 := 581) d_lw_579 rfl rfl ?_
    refine zx_iconst (pc2 := 582) (v := nI 1) d_lw_581 rfl (by decide) ?_
    refine zx_iadd (pc2 := 583) d_lw_582 rfl ?_
    refine zx_sld (pc2 := 584) d_lw_583 rfl (fun U hU => hX U hU.2) hb0 (nI_add _ _) (by omega) hN ?_
    refine zx_aload_n (pc2 := 585) d_lw_584 rfl rfl ?_
    refine zx_iload (pc2 := 587) d_lw_585 rfl rfl ?_
    refine zx_iconst (pc2 := 588) (v := nI 2) d_lw_587 rfl (by decide) ?_
    refine zx_iadd (pc2 := 589) d_lw_588 rfl ?_
    refine zx_sld (pc2 := 590) d_lw_589 rfl (fun U hU => hX U hU.2) hb0 (nI_add _ _) (by omega) hN ?_
    refine zx_if_eq (pc2 := 593) d_lw_590 rfl (tgt := 597) (by decide) (fun cz => absurd cz c) (fun _ => ?_)
    refine zx_iconst (pc2 := 594) (v := nI 1) d_lw_593 rfl (by decide) ?_
    refine zx_goto (tgt := 598) d_lw_594 (by decide) ?_
    refine lw_callV (pc2 := 601) s_La_116 v_Mo_up zl_c546 hMo d_lw_598 rfl rfl rfl (Nat.le_of_ble_eq_true rfl) hdm (by decide) hk hj ?_
    refine zx_ist6 (pc2 := 603) d_lw_601 rfl rfl (by decide) ?_
    refine zx_aload_n (pc2 := 604) d_lw_603 rfl rfl ?_
    refine lw_callV (pc2 := 607) (av := []) s_La_85 v_Mo_thrown zl_c546 c_Mo_thrown d_lw_604 rfl rfl rfl (Nat.le_of_ble_eq_true rfl) (by decide) (by decide) hk hj ?_
    refine zx_iload (pc2 := 609) d_lw_607 rfl rfl ?_
    refine zx_icmp_eq (pc2 := 612) d_lw_609 rfl (tgt := 614) (by decide) (fun _ => ?_) (fun cz => absurd ht cz)
    refine zx_iload (pc2 := 616) d_lw_614 rfl rfl ?_
    refine zx_if_ne (pc2 := 619) d_lw_616 rfl (tgt := 638) (by decide) (fun _ => ?_) (fun cz => ?_)
    · refine zx_goto (tgt := 1153) d_lw_638 (by decide) ?_
      exact lw_back kk
    · have e0 : kc = 0 := Classical.byContradiction (fun q => nI_ne0 (by omega) (by omega) cz)
      refine zx_aload_n (pc2 := 620) d_lw_619 rfl rfl ?_
      refine zx_iconst (pc2 := 621) (v := nI 0) d_lw_620 rfl (by decide) ?_
      refine zk_lald (pc2 := 622) d_lw_621 rfl zl_c572 rfl (by decide) (by decide) ?_
      rw [ho e0]
      refine zx_iload (pc2 := 624) d_lw_622 rfl rfl ?_
      by_cases cw : w = 0
      · rw [if_pos cw]
        refine zx_if_eq (pc2 := 627) d_lw_624 rfl (tgt := 631) (by decide) (fun _ => ?_) (fun cz => absurd cw cz)
        refine zx_lconst (pc2 := 632) (v := 0) d_lw_631 rfl rfl ?_
        refine zx_lcmp (pc2 := 633) d_lw_632 rfl ?_
        refine zx_if_eq (pc2 := 636) d_lw_633 rfl (tgt := 638) (by decide) (fun _ => ?_) (fun cz => absurd (lw_eqc _) cz)
        refine zx_goto (tgt := 1153) d_lw_638 (by decide) ?_
        exact lw_back kk
      · rw [if_neg cw]
        refine zx_if_eq (pc2 := 627) d_lw_624 rfl (tgt := 631) (by decide) (fun cz => absurd cz cw) (fun _ => ?_)
        refine zx_lconst (pc2 := 628) (v := 1) d_lw_627 rfl rfl ?_
        refine zx_goto (tgt := 632) d_lw_628 (by decide) ?_
        refine zx_lcmp (pc2 := 633) d_lw_632 rfl ?_
        refine zx_if_eq (pc2 := 636) d_lw_633 rfl (tgt := 638) (by decide) (fun _ => ?_) (fun cz => absurd (lw_eqc _) cz)
        refine zx_goto (tgt := 1153) d_lw_638 (by decide) ?_
        exact lw_back kk
theorem lc_wipe (hX : ∀ U, Z U → va_X b0 N xs U U.heap) (hb0 : b0 < b) (hN : N < 2 ^ 31) (hi : 4 * i + 3 < N) (hk : k + 1 ≤ 601024) (hj : j + 6 ≤ 7293034) (hW : zKW l D ar b Z y_La_wipe [.ref (b + 0), .int (xs (4 * i + 1))] M n (.int (nI kc)) M1 n1) (hMo : zK l D ar b Z y_Mo_wipe dm [.ref (b + 546), .int (xs (4 * i + 1))] M1 n1 none M2) (hdm : dm ≤ 9) (ht : zm_I M2 546 0 = nI kc) (hkc : kc < 8) (kk : zX (zn_G l D ar b Z) y_lw room_1 F 1153 (lw_L b0 b i none none) [] (zm_h b ar zl M2) n1 (k + 1) (j + 6)) : zX (zn_G l D ar b Z) y_lw room_1 F 641 (lw_L b0 b i z5 z6) [] (zm_h b ar zl M) n k j := by
  refine zx_aload_n (pc2 := 642) d_lw_641 rfl rfl ?_
  refine zx_aload_n (pc2 := 643) d_lw_642 rfl rfl ?_
  refine zx_iload (pc2 := 645) d_lw_643 rfl rfl ?_
  refine zx_iconst (pc2 := 646) (v := nI 1) d_lw_645 rfl (by decide) ?_
  refine zx_iadd (pc2 := 647) d_lw_646 rfl ?_
  refine zx_sld (pc2 := 648) d_lw_647 rfl (fun U hU => hX U hU.2) hb0 (nI_add _ _) (by omega) hN ?_
  refine lw_callW (y1 := y_La_wipe) (np := 2) (pc2 := 651) zn_w658 zn_w0 ⟨by decide, by decide, by decide +kernel⟩ zn_w656 zn_w657 hW d_lw_648 rfl rfl rfl (Nat.le_of_ble_eq_true rfl) (by decide) hk hj ?_
  refine zx_ist5 (pc2 := 653) d_lw_651 rfl rfl (by decide) ?_
  refine zx_aload_n (pc2 := 654) d_lw_653 rfl rfl ?_
  refine zx_aload_n (pc2 := 655) d_lw_654 rfl rfl ?_
  refine zx_iload (pc2 := 657) d_lw_655 rfl rfl ?_
  refine zx_iconst (pc2 := 658) (v := nI 1) d_lw_657 rfl (by decide) ?_
  refine zx_iadd (pc2 := 659) d_lw_658 rfl ?_
  refine zx_sld (pc2 := 660) d_lw_659 rfl (fun U hU => hX U hU.2) hb0 (nI_add _ _) (by omega) hN ?_
  refine lw_callVv (pc2 := 663) s_La_119 v_Mo_wipe zl_c546 hMo d_lw_660 rfl rfl rfl (Nat.le_of_ble_eq_true rfl) hdm (by decide) hk hj ?_
  refine zx_aload_n (pc2 := 664) d_lw_663 rfl rfl ?_
  refine lw_callV (pc2 := 667) (av := []) s_La_85 v_Mo_thrown zl_c546 c_Mo_thrown d_lw_664 rfl rfl rfl (Nat.le_of_ble_eq_true rfl) (by decide) (by decide) hk hj ?_
  refine zx_iload (pc2 := 669) d_lw_667 rfl rfl ?_
  refine zx_icmp_eq (pc2 := 672) d_lw_669 rfl (tgt := 674) (by decide) (fun _ => ?_) (fun cz => absurd ht cz)
  refine zx_goto (tgt := 1153) d_lw_674 (by decide) ?_
  exact lw_back kk
theorem lc_catchUp {w : Int32} (hX : ∀ U, Z U → va_X b0 N xs U U.heap) (hb0 : b0 < b) (hN : N < 2 ^ 31) (hi : 4 * i + 3 < N) (hk : k + 1 ≤ 601024) (hj : j + 6 ≤ 7293034) (hW : zKW l D ar b Z y_La_catchUp [.ref (b + 0), .int (xs (4 * i + 1)), .int (xs (4 * i + 2)), .ref (b + 572)] M n (.int (nI kc)) M1 n1) (hMo : zK l D ar b Z y_Mo_catchUp dm [.ref (b + 546), .int (xs (4 * i + 1)), .int (xs (4 * i + 2))] M1 n1 (some (.int w)) M2) (hdm : dm ≤ 9) (ht : zm_I M2 546 0 = nI kc) (hkc : kc < 8) (ho : kc = 0 → zm_J M2 572 0 = w.toInt64) (kk : zX (zn_G l D ar b Z) y_lw room_1 F 1153 (lw_L b0 b i none none) [] (zm_h b ar zl M2) n1 (k + 1) (j + 6)) : zX (zn_G l D ar b Z) y_lw room_1 F 677 (lw_L b0 b i z5 z6) [] (zm_h b ar zl M) n k j := by
  refine zx_aload_n (pc2 := 678) d_lw_677 rfl rfl ?_
  refine zx_aload_n (pc2 := 679) d_lw_678 rfl rfl ?_
  refine zx_iload (pc2 := 681) d_lw_679 rfl rfl ?_
  refine zx_iconst (pc2 := 682) (v := nI 1) d_lw_681 rfl (by decide) ?_
  refine zx_iadd (pc2 := 683) d_lw_682 rfl ?_
  refine zx_sld (pc2 := 684) d_lw_683 rfl (fun U hU => hX U hU.2) hb0 (nI_add _ _) (by omega) hN ?_
  refine zx_aload_n (pc2 := 685) d_lw_684 rfl rfl ?_
  refine zx_iload (pc2 := 687) d_lw_685 rfl rfl ?_
  refine zx_iconst (pc2 := 688) (v := nI 2) d_lw_687 rfl (by decide) ?_
  refine zx_iadd (pc2 := 689) d_lw_688 rfl ?_
  refine zx_sld (pc2 := 690) d_lw_689 rfl (fun U hU => hX U hU.2) hb0 (nI_add _ _) (by omega) hN ?_
  refine zx_aload_n (pc2 := 691) d_lw_690 rfl rfl ?_
  refine lw_callW (y1 := y_La_catchUp) (np := 4) (pc2 := 694) zn_w673 zn_w0 ⟨by decide, by decide, by decide +kernel⟩ zn_w671 zn_w672 hW d_lw_691 rfl rfl rfl (Nat.le_of_ble_eq_true rfl) (by decide) hk hj ?_
  refine zx_ist5 (pc2 := 696) d_lw_694 rfl rfl (by decide) ?_
  refine zx_aload_n (pc2 := 697) d_lw_696 rfl rfl ?_
  refine zx_aload_n (pc2 := 698) d_lw_697 rfl rfl ?_
  refine zx_iload (pc2 := 700) d_lw_698 rfl rfl ?_
  refine zx_iconst (pc2 := 701) (v := nI 1) d_lw_700 rfl (by decide) ?_
  refine zx_iadd (pc2 := 702) d_lw_701 rfl ?_
  refine zx_sld (pc2 := 703) d_lw_702 rfl (fun U hU => hX U hU.2) hb0 (nI_add _ _) (by omega) hN ?_
  refine zx_aload_n (pc2 := 704) d_lw_703 rfl rfl ?_
  refine zx_iload (pc2 := 706) d_lw_704 rfl rfl ?_
  refine zx_iconst (pc2 := 707) (v := nI 2) d_lw_706 rfl (by decide) ?_
  refine zx_iadd (pc2 := 708) d_lw_707 rfl ?_
  refine zx_sld (pc2 := 709) d_lw_708 rfl (fun U hU => hX U hU.2) hb0 (nI_add _ _) (by omega) hN ?_
  refine lw_callV (pc2 := 712) s_La_122 v_Mo_catchUp zl_c546 hMo d_lw_709 rfl rfl rfl (Nat.le_of_ble_eq_true rfl) hdm (by decide) hk hj ?_
  refine zx_ist6 (pc2 := 714) d_lw_712 rfl rfl (by decide) ?_
  refine zx_aload_n (pc2 := 715) d_lw_714 rfl rfl ?_
  refine lw_callV (pc2 := 718) (av := []) s_La_85 v_Mo_thrown zl_c546 c_Mo_thrown d_lw_715 rfl rfl rfl (Nat.le_of_ble_eq_true rfl) (by decide) (by decide) hk hj ?_
  refine zx_iload (pc2 := 720) d_lw_718 rfl rfl ?_
  refine zx_icmp_eq (pc2 := 723) d_lw_720 rfl (tgt := 725) (by decide) (fun _ => ?_) (fun cz => absurd ht cz)
  refine zx_iload (pc2 := 727) d_lw_725 rfl rfl ?_
  refine zx_if_ne (pc2 := 730) d_lw_727 rfl (tgt := 742) (by decide) (fun _ => ?_) (fun cz => ?_)
  · refine zx_goto (tgt := 1153) d_lw_742 (by decide) ?_
    exact lw_back kk
  · have e0 : kc = 0 := Classical.byContradiction (fun q => nI_ne0 (by omega) (by omega) cz)
    refine zx_aload_n (pc2 := 731) d_lw_730 rfl rfl ?_
    refine zx_iconst (pc2 := 732) (v := nI 0) d_lw_731 rfl (by decide) ?_
    refine zk_lald (pc2 := 733) d_lw_732 rfl zl_c572 rfl (by decide) (by decide) ?_
    rw [ho e0]
    refine zx_iload (pc2 := 735) d_lw_733 rfl rfl ?_
    refine zx_i2l (pc2 := 736) d_lw_735 rfl ?_
    refine zx_lcmp (pc2 := 737) d_lw_736 rfl ?_
    refine zx_if_eq (pc2 := 740) d_lw_737 rfl (tgt := 742) (by decide) (fun _ => ?_) (fun cz => absurd (lw_eqc _) cz)
    refine zx_goto (tgt := 1153) d_lw_742 (by decide) ?_
    exact lw_back kk
theorem lc_decided {w : Int32} (hX : ∀ U, Z U → va_X b0 N xs U U.heap) (hb0 : b0 < b) (hN : N < 2 ^ 31) (hi : 4 * i + 3 < N) (hk : k + 1 ≤ 601024) (hj : j + 6 ≤ 7293034) (hW : zKW l D ar b Z y_La_decided [.ref (b + 0), .int (xs (4 * i + 1)), .int (xs (4 * i + 2)), .ref (b + 572)] M n (.int (nI kc)) M1 n1) (hMo : zK l D ar b Z y_Mo_decided dm [.ref (b + 546), .int (xs (4 * i + 1)), .int (xs (4 * i + 2))] M1 n1 (some (.int w)) M2) (hdm : dm ≤ 9) (ht : zm_I M2 546 0 = nI kc) (hkc : kc < 8) (ho : kc = 0 → zm_J M2 572 0 = w.toInt64) (kk : zX (zn_G l D ar b Z) y_lw room_1 F 1153 (lw_L b0 b i none none) [] (zm_h b ar zl M2) n1 (k + 1) (j + 6)) : zX (zn_G l D ar b Z) y_lw room_1 F 745 (lw_L b0 b i z5 z6) [] (zm_h b ar zl M) n k j := by
  refine zx_aload_n (pc2 := 746) d_lw_745 rfl rfl ?_
  refine zx_aload_n (pc2 := 747) d_lw_746 rfl rfl ?_
  refine zx_iload (pc2 := 749) d_lw_747 rfl rfl ?_
  refine zx_iconst (pc2 := 750) (v := nI 1) d_lw_749 rfl (by decide) ?_
  refine zx_iadd (pc2 := 751) d_lw_750 rfl ?_
  refine zx_sld (pc2 := 752) d_lw_751 rfl (fun U hU => hX U hU.2) hb0 (nI_add _ _) (by omega) hN ?_
  refine zx_aload_n (pc2 := 753) d_lw_752 rfl rfl ?_
  refine zx_iload (pc2 := 755) d_lw_753 rfl rfl ?_
  refine zx_iconst (pc2 := 756) (v := nI 2) d_lw_755 rfl (by decide) ?_
  refine zx_iadd (pc2 := 757) d_lw_756 rfl ?_
  refine zx_sld (pc2 := 758) d_lw_757 rfl (fun U hU => hX U hU.2) hb0 (nI_add _ _) (by omega) hN ?_
  refine zx_aload_n (pc2 := 759) d_lw_758 rfl rfl ?_
  refine lw_callW (y1 := y_La_decided) (np := 4) (pc2 := 762) zn_w688 zn_w0 ⟨by decide, by decide, by decide +kernel⟩ zn_w686 zn_w687 hW d_lw_759 rfl rfl rfl (Nat.le_of_ble_eq_true rfl) (by decide) hk hj ?_
  refine zx_ist5 (pc2 := 764) d_lw_762 rfl rfl (by decide) ?_
  refine zx_aload_n (pc2 := 765) d_lw_764 rfl rfl ?_
  refine zx_aload_n (pc2 := 766) d_lw_765 rfl rfl ?_
  refine zx_iload (pc2 := 768) d_lw_766 rfl rfl ?_
  refine zx_iconst (pc2 := 769) (v := nI 1) d_lw_768 rfl (by decide) ?_
  refine zx_iadd (pc2 := 770) d_lw_769 rfl ?_
  refine zx_sld (pc2 := 771) d_lw_770 rfl (fun U hU => hX U hU.2) hb0 (nI_add _ _) (by omega) hN ?_
  refine zx_aload_n (pc2 := 772) d_lw_771 rfl rfl ?_
  refine zx_iload (pc2 := 774) d_lw_772 rfl rfl ?_
  refine zx_iconst (pc2 := 775) (v := nI 2) d_lw_774 rfl (by decide) ?_
  refine zx_iadd (pc2 := 776) d_lw_775 rfl ?_
  refine zx_sld (pc2 := 777) d_lw_776 rfl (fun U hU => hX U hU.2) hb0 (nI_add _ _) (by omega) hN ?_
  refine lw_callV (pc2 := 780) s_La_125 v_Mo_decided zl_c546 hMo d_lw_777 rfl rfl rfl (Nat.le_of_ble_eq_true rfl) hdm (by decide) hk hj ?_
  refine zx_ist6 (pc2 := 782) d_lw_780 rfl rfl (by decide) ?_
  refine zx_aload_n (pc2 := 783) d_lw_782 rfl rfl ?_
  refine lw_callV (pc2 := 786) (av := []) s_La_85 v_Mo_thrown zl_c546 c_Mo_thrown d_lw_783 rfl rfl rfl (Nat.le_of_ble_eq_true rfl) (by decide) (by decide) hk hj ?_
  refine zx_iload (pc2 := 788) d_lw_786 rfl rfl ?_
  refine zx_icmp_eq (pc2 := 791) d_lw_788 rfl (tgt := 793) (by decide) (fun _ => ?_) (fun cz => absurd ht cz)
  refine zx_iload (pc2 := 795) d_lw_793 rfl rfl ?_
  refine zx_if_ne (pc2 := 798) d_lw_795 rfl (tgt := 810) (by decide) (fun _ => ?_) (fun cz => ?_)
  · refine zx_goto (tgt := 1153) d_lw_810 (by decide) ?_
    exact lw_back kk
  · have e0 : kc = 0 := Classical.byContradiction (fun q => nI_ne0 (by omega) (by omega) cz)
    refine zx_aload_n (pc2 := 799) d_lw_798 rfl rfl ?_
    refine zx_iconst (pc2 := 800) (v := nI 0) d_lw_799 rfl (by decide) ?_
    refine zk_lald (pc2 := 801) d_lw_800 rfl zl_c572 rfl (by decide) (by decide) ?_
    rw [ho e0]
    refine zx_iload (pc2 := 803) d_lw_801 rfl rfl ?_
    refine zx_i2l (pc2 := 804) d_lw_803 rfl ?_
    refine zx_lcmp (pc2 := 805) d_lw_804 rfl ?_
    refine zx_if_eq (pc2 := 808) d_lw_805 rfl (tgt := 810) (by decide) (fun _ => ?_) (fun cz => absurd (lw_eqc _) cz)
    refine zx_goto (tgt := 1153) d_lw_810 (by decide) ?_
    exact lw_back kk
theorem lc_read {w : Int32} (hX : ∀ U, Z U → va_X b0 N xs U U.heap) (hb0 : b0 < b) (hN : N < 2 ^ 31) (hi : 4 * i + 3 < N) (hk : k + 1 ≤ 601024) (hj : j + 6 ≤ 7293034) (hW : zKW l D ar b Z y_La_read [.ref (b + 0), .int (xs (4 * i + 1)), .int (xs (4 * i + 2)), .ref (b + 572)] M n (.int (nI kc)) M1 n1) (hMo : zK l D ar b Z y_Mo_read dm [.ref (b + 546), .int (xs (4 * i + 1)), .int (xs (4 * i + 2))] M1 n1 (some (.int w)) M2) (hdm : dm ≤ 9) (ht : zm_I M2 546 0 = nI kc) (hkc : kc < 8) (ho : kc = 0 → zm_J M2 572 0 = w.toInt64) (kk : zX (zn_G l D ar b Z) y_lw room_1 F 1153 (lw_L b0 b i none none) [] (zm_h b ar zl M2) n1 (k + 1) (j + 6)) : zX (zn_G l D ar b Z) y_lw room_1 F 813 (lw_L b0 b i z5 z6) [] (zm_h b ar zl M) n k j := by
  refine zx_aload_n (pc2 := 814) d_lw_813 rfl rfl ?_
  refine zx_aload_n (pc2 := 815) d_lw_814 rfl rfl ?_
  refine zx_iload (pc2 := 817) d_lw_815 rfl rfl ?_
  refine zx_iconst (pc2 := 818) (v := nI 1) d_lw_817 rfl (by decide) ?_
  refine zx_iadd (pc2 := 819) d_lw_818 rfl ?_
  refine zx_sld (pc2 := 820) d_lw_819 rfl (fun U hU => hX U hU.2) hb0 (nI_add _ _) (by omega) hN ?_
  refine zx_aload_n (pc2 := 821) d_lw_820 rfl rfl ?_
  refine zx_iload (pc2 := 823) d_lw_821 rfl rfl ?_
  refine zx_iconst (pc2 := 824) (v := nI 2) d_lw_823 rfl (by decide) ?_
  refine zx_iadd (pc2 := 825) d_lw_824 rfl ?_
  refine zx_sld (pc2 := 826) d_lw_825 rfl (fun U hU => hX U hU.2) hb0 (nI_add _ _) (by omega) hN ?_
  refine zx_aload_n (pc2 := 827) d_lw_826 rfl rfl ?_
  refine lw_callW (y1 := y_La_read) (np := 4) (pc2 := 830) zn_w698 zn_w0 ⟨by decide, by decide, by decide +kernel⟩ zn_w696 zn_w697 hW d_lw_827 rfl rfl rfl (Nat.le_of_ble_eq_true rfl) (by decide) hk hj ?_
  refine zx_ist5 (pc2 := 832) d_lw_830 rfl rfl (by decide) ?_
  refine zx_aload_n (pc2 := 833) d_lw_832 rfl rfl ?_
  refine zx_aload_n (pc2 := 834) d_lw_833 rfl rfl ?_
  refine zx_iload (pc2 := 836) d_lw_834 rfl rfl ?_
  refine zx_iconst (pc2 := 837) (v := nI 1) d_lw_836 rfl (by decide) ?_
  refine zx_iadd (pc2 := 838) d_lw_837 rfl ?_
  refine zx_sld (pc2 := 839) d_lw_838 rfl (fun U hU => hX U hU.2) hb0 (nI_add _ _) (by omega) hN ?_
  refine zx_aload_n (pc2 := 840) d_lw_839 rfl rfl ?_
  refine zx_iload (pc2 := 842) d_lw_840 rfl rfl ?_
  refine zx_iconst (pc2 := 843) (v := nI 2) d_lw_842 rfl (by decide) ?_
  refine zx_iadd (pc2 := 844) d_lw_843 rfl ?_
  refine zx_sld (pc2 := 845) d_lw_844 rfl (fun U hU => hX U hU.2) hb0 (nI_add _ _) (by omega) hN ?_
  refine lw_callV (pc2 := 848) s_La_128 v_Mo_read zl_c546 hMo d_lw_845 rfl rfl rfl (Nat.le_of_ble_eq_true rfl) hdm (by decide) hk hj ?_
  refine zx_ist6 (pc2 := 850) d_lw_848 rfl rfl (by decide) ?_
  refine zx_aload_n (pc2 := 851) d_lw_850 rfl rfl ?_
  refine lw_callV (pc2 := 854) (av := []) s_La_85 v_Mo_thrown zl_c546 c_Mo_thrown d_lw_851 rfl rfl rfl (Nat.le_of_ble_eq_true rfl) (by decide) (by decide) hk hj ?_
  refine zx_iload (pc2 := 856) d_lw_854 rfl rfl ?_
  refine zx_icmp_eq (pc2 := 859) d_lw_856 rfl (tgt := 861) (by decide) (fun _ => ?_) (fun cz => absurd ht cz)
  refine zx_iload (pc2 := 863) d_lw_861 rfl rfl ?_
  refine zx_if_ne (pc2 := 866) d_lw_863 rfl (tgt := 878) (by decide) (fun _ => ?_) (fun cz => ?_)
  · refine zx_goto (tgt := 1153) d_lw_878 (by decide) ?_
    exact lw_back kk
  · have e0 : kc = 0 := Classical.byContradiction (fun q => nI_ne0 (by omega) (by omega) cz)
    refine zx_aload_n (pc2 := 867) d_lw_866 rfl rfl ?_
    refine zx_iconst (pc2 := 868) (v := nI 0) d_lw_867 rfl (by decide) ?_
    refine zk_lald (pc2 := 869) d_lw_868 rfl zl_c572 rfl (by decide) (by decide) ?_
    rw [ho e0]
    refine zx_iload (pc2 := 871) d_lw_869 rfl rfl ?_
    refine zx_i2l (pc2 := 872) d_lw_871 rfl ?_
    refine zx_lcmp (pc2 := 873) d_lw_872 rfl ?_
    refine zx_if_eq (pc2 := 876) d_lw_873 rfl (tgt := 878) (by decide) (fun _ => ?_) (fun cz => absurd (lw_eqc _) cz)
    refine zx_goto (tgt := 1153) d_lw_878 (by decide) ?_
    exact lw_back kk
theorem lc_readByte {w : Int32} (hX : ∀ U, Z U → va_X b0 N xs U U.heap) (hb0 : b0 < b) (hN : N < 2 ^ 31) (hi : 4 * i + 3 < N) (hk : k + 1 ≤ 601024) (hj : j + 6 ≤ 7293034) (hW : zKW l D ar b Z y_La_readByte [.ref (b + 0), .int (xs (4 * i + 1)), .ref (b + 572)] M n (.int (nI kc)) M1 n1) (hMo : zK l D ar b Z y_Mo_readByte dm [.ref (b + 546), .int (xs (4 * i + 1))] M1 n1 (some (.int w)) M2) (hdm : dm ≤ 9) (ht : zm_I M2 546 0 = nI kc) (hkc : kc < 8) (ho : kc = 0 → zm_J M2 572 0 = w.toInt64) (kk : zX (zn_G l D ar b Z) y_lw room_1 F 1153 (lw_L b0 b i none none) [] (zm_h b ar zl M2) n1 (k + 1) (j + 6)) : zX (zn_G l D ar b Z) y_lw room_1 F 881 (lw_L b0 b i z5 z6) [] (zm_h b ar zl M) n k j := by
  refine zx_aload_n (pc2 := 882) d_lw_881 rfl rfl ?_
  refine zx_aload_n (pc2 := 883) d_lw_882 rfl rfl ?_
  refine zx_iload (pc2 := 885) d_lw_883 rfl rfl ?_
  refine zx_iconst (pc2 := 886) (v := nI 1) d_lw_885 rfl (by decide) ?_
  refine zx_iadd (pc2 := 887) d_lw_886 rfl ?_
  refine zx_sld (pc2 := 888) d_lw_887 rfl (fun U hU => hX U hU.2) hb0 (nI_add _ _) (by omega) hN ?_
  refine zx_aload_n (pc2 := 889) d_lw_888 rfl rfl ?_
  refine lw_callW (y1 := y_La_readByte) (np := 3) (pc2 := 892) zn_w721 zn_w0 ⟨by decide, by decide, by decide +kernel⟩ zn_w719 zn_w720 hW d_lw_889 rfl rfl rfl (Nat.le_of_ble_eq_true rfl) (by decide) hk hj ?_
  refine zx_ist5 (pc2 := 894) d_lw_892 rfl rfl (by decide) ?_
  refine zx_aload_n (pc2 := 895) d_lw_894 rfl rfl ?_
  refine zx_aload_n (pc2 := 896) d_lw_895 rfl rfl ?_
  refine zx_iload (pc2 := 898) d_lw_896 rfl rfl ?_
  refine zx_iconst (pc2 := 899) (v := nI 1) d_lw_898 rfl (by decide) ?_
  refine zx_iadd (pc2 := 900) d_lw_899 rfl ?_
  refine zx_sld (pc2 := 901) d_lw_900 rfl (fun U hU => hX U hU.2) hb0 (nI_add _ _) (by omega) hN ?_
  refine lw_callV (pc2 := 904) s_La_131 v_Mo_readByte zl_c546 hMo d_lw_901 rfl rfl rfl (Nat.le_of_ble_eq_true rfl) hdm (by decide) hk hj ?_
  refine zx_ist6 (pc2 := 906) d_lw_904 rfl rfl (by decide) ?_
  refine zx_aload_n (pc2 := 907) d_lw_906 rfl rfl ?_
  refine lw_callV (pc2 := 910) (av := []) s_La_85 v_Mo_thrown zl_c546 c_Mo_thrown d_lw_907 rfl rfl rfl (Nat.le_of_ble_eq_true rfl) (by decide) (by decide) hk hj ?_
  refine zx_iload (pc2 := 912) d_lw_910 rfl rfl ?_
  refine zx_icmp_eq (pc2 := 915) d_lw_912 rfl (tgt := 917) (by decide) (fun _ => ?_) (fun cz => absurd ht cz)
  refine zx_iload (pc2 := 919) d_lw_917 rfl rfl ?_
  refine zx_if_ne (pc2 := 922) d_lw_919 rfl (tgt := 934) (by decide) (fun _ => ?_) (fun cz => ?_)
  · refine zx_goto (tgt := 1153) d_lw_934 (by decide) ?_
    exact lw_back kk
  · have e0 : kc = 0 := Classical.byContradiction (fun q => nI_ne0 (by omega) (by omega) cz)
    refine zx_aload_n (pc2 := 923) d_lw_922 rfl rfl ?_
    refine zx_iconst (pc2 := 924) (v := nI 0) d_lw_923 rfl (by decide) ?_
    refine zk_lald (pc2 := 925) d_lw_924 rfl zl_c572 rfl (by decide) (by decide) ?_
    rw [ho e0]
    refine zx_iload (pc2 := 927) d_lw_925 rfl rfl ?_
    refine zx_i2l (pc2 := 928) d_lw_927 rfl ?_
    refine zx_lcmp (pc2 := 929) d_lw_928 rfl ?_
    refine zx_if_eq (pc2 := 932) d_lw_929 rfl (tgt := 934) (by decide) (fun _ => ?_) (fun cz => absurd (lw_eqc _) cz)
    refine zx_goto (tgt := 1153) d_lw_934 (by decide) ?_
    exact lw_back kk
theorem lc_state {w : Int32} (hX : ∀ U, Z U → va_X b0 N xs U U.heap) (hb0 : b0 < b) (hN : N < 2 ^ 31) (hi : 4 * i + 3 < N) (hk : k + 1 ≤ 601024) (hj : j + 6 ≤ 7293034) (hW : zKW l D ar b Z y_La_state [.ref (b + 0), .int (xs (4 * i + 1)), .int (xs (4 * i + 2)), .ref (b + 572)] M n (.int (nI kc)) M1 n1) (hMo : zK l D ar b Z y_Mo_state dm [.ref (b + 546), .int (xs (4 * i + 1)), .int (xs (4 * i + 2))] M1 n1 (some (.int w)) M2) (hdm : dm ≤ 9) (ht : zm_I M2 546 0 = nI kc) (hkc : kc < 8) (ho : kc = 0 → zm_J M2 572 0 = w.toInt64) (kk : zX (zn_G l D ar b Z) y_lw room_1 F 1153 (lw_L b0 b i none none) [] (zm_h b ar zl M2) n1 (k + 1) (j + 6)) : zX (zn_G l D ar b Z) y_lw room_1 F 937 (lw_L b0 b i z5 z6) [] (zm_h b ar zl M) n k j := by
  refine zx_aload_n (pc2 := 938) d_lw_937 rfl rfl ?_
  refine zx_aload_n (pc2 := 939) d_lw_938 rfl rfl ?_
  refine zx_iload (pc2 := 941) d_lw_939 rfl rfl ?_
  refine zx_iconst (pc2 := 942) (v := nI 1) d_lw_941 rfl (by decide) ?_
  refine zx_iadd (pc2 := 943) d_lw_942 rfl ?_
  refine zx_sld (pc2 := 944) d_lw_943 rfl (fun U hU => hX U hU.2) hb0 (nI_add _ _) (by omega) hN ?_
  refine zx_aload_n (pc2 := 945) d_lw_944 rfl rfl ?_
  refine zx_iload (pc2 := 947) d_lw_945 rfl rfl ?_
  refine zx_iconst (pc2 := 948) (v := nI 2) d_lw_947 rfl (by decide) ?_
  refine zx_iadd (pc2 := 949) d_lw_948 rfl ?_
  refine zx_sld (pc2 := 950) d_lw_949 rfl (fun U hU => hX U hU.2) hb0 (nI_add _ _) (by omega) hN ?_
  refine zx_aload_n (pc2 := 951) d_lw_950 rfl rfl ?_
  refine lw_callW (y1 := y_La_state) (np := 4) (pc2 := 954) zn_w732 zn_w0 ⟨by decide, by decide, by decide +kernel⟩ zn_w730 zn_w731 hW d_lw_951 rfl rfl rfl (Nat.le_of_ble_eq_true rfl) (by decide) hk hj ?_
  refine zx_ist5 (pc2 := 956) d_lw_954 rfl rfl (by decide) ?_
  refine zx_aload_n (pc2 := 957) d_lw_956 rfl rfl ?_
  refine zx_aload_n (pc2 := 958) d_lw_957 rfl rfl ?_
  refine zx_iload (pc2 := 960) d_lw_958 rfl rfl ?_
  refine zx_iconst (pc2 := 961) (v := nI 1) d_lw_960 rfl (by decide) ?_
  refine zx_iadd (pc2 := 962) d_lw_961 rfl ?_
  refine zx_sld (pc2 := 963) d_lw_962 rfl (fun U hU => hX U hU.2) hb0 (nI_add _ _) (by omega) hN ?_
  refine zx_aload_n (pc2 := 964) d_lw_963 rfl rfl ?_
  refine zx_iload (pc2 := 966) d_lw_964 rfl rfl ?_
  refine zx_iconst (pc2 := 967) (v := nI 2) d_lw_966 rfl (by decide) ?_
  refine zx_iadd (pc2 := 968) d_lw_967 rfl ?_
  refine zx_sld (pc2 := 969) d_lw_968 rfl (fun U hU => hX U hU.2) hb0 (nI_add _ _) (by omega) hN ?_
  refine lw_callV (pc2 := 972) s_La_134 v_Mo_state zl_c546 hMo d_lw_969 rfl rfl rfl (Nat.le_of_ble_eq_true rfl) hdm (by decide) hk hj ?_
  refine zx_ist6 (pc2 := 974) d_lw_972 rfl rfl (by decide) ?_
  refine zx_aload_n (pc2 := 975) d_lw_974 rfl rfl ?_
  refine lw_callV (pc2 := 978) (av := []) s_La_85 v_Mo_thrown zl_c546 c_Mo_thrown d_lw_975 rfl rfl rfl (Nat.le_of_ble_eq_true rfl) (by decide) (by decide) hk hj ?_
  refine zx_iload (pc2 := 980) d_lw_978 rfl rfl ?_
  refine zx_icmp_eq (pc2 := 983) d_lw_980 rfl (tgt := 985) (by decide) (fun _ => ?_) (fun cz => absurd ht cz)
  refine zx_iload (pc2 := 987) d_lw_985 rfl rfl ?_
  refine zx_if_ne (pc2 := 990) d_lw_987 rfl (tgt := 1002) (by decide) (fun _ => ?_) (fun cz => ?_)
  · refine zx_goto (tgt := 1153) d_lw_1002 (by decide) ?_
    exact lw_back kk
  · have e0 : kc = 0 := Classical.byContradiction (fun q => nI_ne0 (by omega) (by omega) cz)
    refine zx_aload_n (pc2 := 991) d_lw_990 rfl rfl ?_
    refine zx_iconst (pc2 := 992) (v := nI 0) d_lw_991 rfl (by decide) ?_
    refine zk_lald (pc2 := 993) d_lw_992 rfl zl_c572 rfl (by decide) (by decide) ?_
    rw [ho e0]
    refine zx_iload (pc2 := 995) d_lw_993 rfl rfl ?_
    refine zx_i2l (pc2 := 996) d_lw_995 rfl ?_
    refine zx_lcmp (pc2 := 997) d_lw_996 rfl ?_
    refine zx_if_eq (pc2 := 1000) d_lw_997 rfl (tgt := 1002) (by decide) (fun _ => ?_) (fun cz => absurd (lw_eqc _) cz)
    refine zx_goto (tgt := 1153) d_lw_1002 (by decide) ?_
    exact lw_back kk
theorem lc_station {w : Int32} (hX : ∀ U, Z U → va_X b0 N xs U U.heap) (hb0 : b0 < b) (hN : N < 2 ^ 31) (hi : 4 * i + 3 < N) (hk : k + 1 ≤ 601024) (hj : j + 6 ≤ 7293034) (hW : zKW l D ar b Z y_La_station [.ref (b + 0), .int (xs (4 * i + 1)), .int (xs (4 * i + 2)), .ref (b + 572)] M n (.int (nI kc)) M1 n1) (hMo : zK l D ar b Z y_Mo_station dm [.ref (b + 546), .int (xs (4 * i + 1)), .int (xs (4 * i + 2))] M1 n1 (some (.int w)) M2) (hdm : dm ≤ 9) (ht : zm_I M2 546 0 = nI kc) (hkc : kc < 8) (ho : kc = 0 → zm_J M2 572 0 = w.toInt64) (kk : zX (zn_G l D ar b Z) y_lw room_1 F 1153 (lw_L b0 b i none none) [] (zm_h b ar zl M2) n1 (k + 1) (j + 6)) : zX (zn_G l D ar b Z) y_lw room_1 F 1005 (lw_L b0 b i z5 z6) [] (zm_h b ar zl M) n k j := by
  refine zx_aload_n (pc2 := 1006) d_lw_1005 rfl rfl ?_
  refine zx_aload_n (pc2 := 1007) d_lw_1006 rfl rfl ?_
  refine zx_iload (pc2 := 1009) d_lw_1007 rfl rfl ?_
  refine zx_iconst (pc2 := 1010) (v := nI 1) d_lw_1009 rfl (by decide) ?_
  refine zx_iadd (pc2 := 1011) d_lw_1010 rfl ?_
  refine zx_sld (pc2 := 1012) d_lw_1011 rfl (fun U hU => hX U hU.2) hb0 (nI_add _ _) (by omega) hN ?_
  refine zx_aload_n (pc2 := 1013) d_lw_1012 rfl rfl ?_
  refine zx_iload (pc2 := 1015) d_lw_1013 rfl rfl ?_
  refine zx_iconst (pc2 := 1016) (v := nI 2) d_lw_1015 rfl (by decide) ?_
  refine zx_iadd (pc2 := 1017) d_lw_1016 rfl ?_
  refine zx_sld (pc2 := 1018) d_lw_1017 rfl (fun U hU => hX U hU.2) hb0 (nI_add _ _) (by omega) hN ?_
  refine zx_aload_n (pc2 := 1019) d_lw_1018 rfl rfl ?_
  refine lw_callW (y1 := y_La_station) (np := 4) (pc2 := 1022) zn_w739 zn_w0 ⟨by decide, by decide, by decide +kernel⟩ zn_w737 zn_w738 hW d_lw_1019 rfl rfl rfl (Nat.le_of_ble_eq_true rfl) (by decide) hk hj ?_
  refine zx_ist5 (pc2 := 1024) d_lw_1022 rfl rfl (by decide) ?_
  refine zx_aload_n (pc2 := 1025) d_lw_1024 rfl rfl ?_
  refine zx_aload_n (pc2 := 1026) d_lw_1025 rfl rfl ?_
  refine zx_iload (pc2 := 1028) d_lw_1026 rfl rfl ?_
  refine zx_iconst (pc2 := 1029) (v := nI 1) d_lw_1028 rfl (by decide) ?_
  refine zx_iadd (pc2 := 1030) d_lw_1029 rfl ?_
  refine zx_sld (pc2 := 1031) d_lw_1030 rfl (fun U hU => hX U hU.2) hb0 (nI_add _ _) (by omega) hN ?_
  refine zx_aload_n (pc2 := 1032) d_lw_1031 rfl rfl ?_
  refine zx_iload (pc2 := 1034) d_lw_1032 rfl rfl ?_
  refine zx_iconst (pc2 := 1035) (v := nI 2) d_lw_1034 rfl (by decide) ?_
  refine zx_iadd (pc2 := 1036) d_lw_1035 rfl ?_
  refine zx_sld (pc2 := 1037) d_lw_1036 rfl (fun U hU => hX U hU.2) hb0 (nI_add _ _) (by omega) hN ?_
  refine lw_callV (pc2 := 1040) s_La_137 v_Mo_station zl_c546 hMo d_lw_1037 rfl rfl rfl (Nat.le_of_ble_eq_true rfl) hdm (by decide) hk hj ?_
  refine zx_ist6 (pc2 := 1042) d_lw_1040 rfl rfl (by decide) ?_
  refine zx_aload_n (pc2 := 1043) d_lw_1042 rfl rfl ?_
  refine lw_callV (pc2 := 1046) (av := []) s_La_85 v_Mo_thrown zl_c546 c_Mo_thrown d_lw_1043 rfl rfl rfl (Nat.le_of_ble_eq_true rfl) (by decide) (by decide) hk hj ?_
  refine zx_iload (pc2 := 1048) d_lw_1046 rfl rfl ?_
  refine zx_icmp_eq (pc2 := 1051) d_lw_1048 rfl (tgt := 1053) (by decide) (fun _ => ?_) (fun cz => absurd ht cz)
  refine zx_iload (pc2 := 1055) d_lw_1053 rfl rfl ?_
  refine zx_if_ne (pc2 := 1058) d_lw_1055 rfl (tgt := 1070) (by decide) (fun _ => ?_) (fun cz => ?_)
  · refine zx_goto (tgt := 1153) d_lw_1070 (by decide) ?_
    exact lw_back kk
  · have e0 : kc = 0 := Classical.byContradiction (fun q => nI_ne0 (by omega) (by omega) cz)
    refine zx_aload_n (pc2 := 1059) d_lw_1058 rfl rfl ?_
    refine zx_iconst (pc2 := 1060) (v := nI 0) d_lw_1059 rfl (by decide) ?_
    refine zk_lald (pc2 := 1061) d_lw_1060 rfl zl_c572 rfl (by decide) (by decide) ?_
    rw [ho e0]
    refine zx_iload (pc2 := 1063) d_lw_1061 rfl rfl ?_
    refine zx_i2l (pc2 := 1064) d_lw_1063 rfl ?_
    refine zx_lcmp (pc2 := 1065) d_lw_1064 rfl ?_
    refine zx_if_eq (pc2 := 1068) d_lw_1065 rfl (tgt := 1070) (by decide) (fun _ => ?_) (fun cz => absurd (lw_eqc _) cz)
    refine zx_goto (tgt := 1153) d_lw_1070 (by decide) ?_
    exact lw_back kk
theorem lc_share {w : Int32} (hX : ∀ U, Z U → va_X b0 N xs U U.heap) (hb0 : b0 < b) (hN : N < 2 ^ 31) (hi : 4 * i + 3 < N) (hk : k + 1 ≤ 601024) (hj : j + 6 ≤ 7293034) (hW : zKW l D ar b Z y_La_share [.ref (b + 0), .int (xs (4 * i + 1)), .int (xs (4 * i + 2)), .int (xs (4 * i + 3)), .ref (b + 572)] M n (.int (nI kc)) M1 n1) (hMo : zK l D ar b Z y_Mo_share dm [.ref (b + 546), .int (xs (4 * i + 1)), .int (xs (4 * i + 2)), .int (xs (4 * i + 3))] M1 n1 (some (.int w)) M2) (hdm : dm ≤ 9) (ht : zm_I M2 546 0 = nI kc) (hkc : kc < 8) (ho : kc = 0 → zm_J M2 572 0 = w.toInt64) (kk : zX (zn_G l D ar b Z) y_lw room_1 F 1153 (lw_L b0 b i none none) [] (zm_h b ar zl M2) n1 (k + 1) (j + 6)) : zX (zn_G l D ar b Z) y_lw room_1 F 1073 (lw_L b0 b i z5 z6) [] (zm_h b ar zl M) n k j := by
  refine zx_aload_n (pc2 := 1074) d_lw_1073 rfl rfl ?_
  refine zx_aload_n (pc2 := 1075) d_lw_1074 rfl rfl ?_
  refine zx_iload (pc2 := 1077) d_lw_1075 rfl rfl ?_
  refine zx_iconst (pc2 := 1078) (v := nI 1) d_lw_1077 rfl (by decide) ?_
  refine zx_iadd (pc2 := 1079) d_lw_1078 rfl ?_
  refine zx_sld (pc2 := 1080) d_lw_1079 rfl (fun U hU => hX U hU.2) hb0 (nI_add _ _) (by omega) hN ?_
  refine zx_aload_n (pc2 := 1081) d_lw_1080 rfl rfl ?_
  refine zx_iload (pc2 := 1083) d_lw_1081 rfl rfl ?_
  refine zx_iconst (pc2 := 1084) (v := nI 2) d_lw_1083 rfl (by decide) ?_
  refine zx_iadd (pc2 := 1085) d_lw_1084 rfl ?_
  refine zx_sld (pc2 := 1086) d_lw_1085 rfl (fun U hU => hX U hU.2) hb0 (nI_add _ _) (by omega) hN ?_
  refine zx_aload_n (pc2 := 1087) d_lw_1086 rfl rfl ?_
  refine zx_iload (pc2 := 1089) d_lw_1087 rfl rfl ?_
  refine zx_iconst (pc2 := 1090) (v := nI 3) d_lw_1089 rfl (by decide) ?_
  refine zx_iadd (pc2 := 1091) d_lw_1090 rfl ?_
  refine zx_sld (pc2 := 1092) d_lw_1091 rfl (fun U hU => hX U hU.2) hb0 (nI_add _ _) (by omega) hN ?_
  refine zx_aload_n (pc2 := 1093) d_lw_1092 rfl rfl ?_
  refine lw_callW (y1 := y_La_share) (np := 5) (pc2 := 1096) zn_w751 zn_w0 ⟨by decide, by decide, by decide +kernel⟩ zn_w749 zn_w750 hW d_lw_1093 rfl rfl rfl (Nat.le_of_ble_eq_true rfl) (by decide) hk hj ?_
  refine zx_ist5 (pc2 := 1098) d_lw_1096 rfl rfl (by decide) ?_
  refine zx_aload_n (pc2 := 1099) d_lw_1098 rfl rfl ?_
  refine zx_aload_n (pc2 := 1100) d_lw_1099 rfl rfl ?_
  refine zx_iload (pc2 := 1102) d_lw_1100 rfl rfl ?_
  refine zx_iconst (pc2 := 1103) (v := nI 1) d_lw_1102 rfl (by decide) ?_
  refine zx_iadd (pc2 := 1104) d_lw_1103 rfl ?_
  refine zx_sld (pc2 := 1105) d_lw_1104 rfl (fun U hU => hX U hU.2) hb0 (nI_add _ _) (by omega) hN ?_
  refine zx_aload_n (pc2 := 1106) d_lw_1105 rfl rfl ?_
  refine zx_iload (pc2 := 1108) d_lw_1106 rfl rfl ?_
  refine zx_iconst (pc2 := 1109) (v := nI 2) d_lw_1108 rfl (by decide) ?_
  refine zx_iadd (pc2 := 1110) d_lw_1109 rfl ?_
  refine zx_sld (pc2 := 1111) d_lw_1110 rfl (fun U hU => hX U hU.2) hb0 (nI_add _ _) (by omega) hN ?_
  refine zx_aload_n (pc2 := 1112) d_lw_1111 rfl rfl ?_
  refine zx_iload (pc2 := 1114) d_lw_1112 rfl rfl ?_
  refine zx_iconst (pc2 := 1115) (v := nI 3) d_lw_1114 rfl (by decide) ?_
  refine zx_iadd (pc2 := 1116) d_lw_1115 rfl ?_
  refine zx_sld (pc2 := 1117) d_lw_1116 rfl (fun U hU => hX U hU.2) hb0 (nI_add _ _) (by omega) hN ?_
  refine lw_callV (pc2 := 1120) s_La_141 v_Mo_share zl_c546 hMo d_lw_1117 rfl rfl rfl (Nat.le_of_ble_eq_true rfl) hdm (by decide) hk hj ?_
  refine zx_ist6 (pc2 := 1122) d_lw_1120 rfl rfl (by decide) ?_
  refine zx_aload_n (pc2 := 1123) d_lw_1122 rfl rfl ?_
  refine lw_callV (pc2 := 1126) (av := []) s_La_85 v_Mo_thrown zl_c546 c_Mo_thrown d_lw_1123 rfl rfl rfl (Nat.le_of_ble_eq_true rfl) (by decide) (by decide) hk hj ?_
  refine zx_iload (pc2 := 1128) d_lw_1126 rfl rfl ?_
  refine zx_icmp_eq (pc2 := 1131) d_lw_1128 rfl (tgt := 1133) (by decide) (fun _ => ?_) (fun cz => absurd ht cz)
  refine zx_iload (pc2 := 1135) d_lw_1133 rfl rfl ?_
  refine zx_if_ne (pc2 := 1138) d_lw_1135 rfl (tgt := 1150) (by decide) (fun _ => ?_) (fun cz => ?_)
  · refine zx_goto (tgt := 1153) d_lw_1150 (by decide) ?_
    exact lw_back kk
  · have e0 : kc = 0 := Classical.byContradiction (fun q => nI_ne0 (by omega) (by omega) cz)
    refine zx_aload_n (pc2 := 1139) d_lw_1138 rfl rfl ?_
    refine zx_iconst (pc2 := 1140) (v := nI 0) d_lw_1139 rfl (by decide) ?_
    refine zk_lald (pc2 := 1141) d_lw_1140 rfl zl_c572 rfl (by decide) (by decide) ?_
    rw [ho e0]
    refine zx_iload (pc2 := 1143) d_lw_1141 rfl rfl ?_
    refine zx_i2l (pc2 := 1144) d_lw_1143 rfl ?_
    refine zx_lcmp (pc2 := 1145) d_lw_1144 rfl ?_
    refine zx_if_eq (pc2 := 1148) d_lw_1145 rfl (tgt := 1150) (by decide) (fun _ => ?_) (fun cz => absurd (lw_eqc _) cz)
    refine zx_goto (tgt := 1153) d_lw_1150 (by decide) ?_
    exact lw_back kk
theorem lc_byteIn {w : Int32} {dc : Nat} (hX : ∀ U, Z U → va_X b0 N xs U U.heap) (hb0 : b0 < b) (hN : N < 2 ^ 31) (hi : 4 * i + 3 < N) (hk : k + 1 ≤ 601024) (hj : j + 6 ≤ 7293034) (hC : zK l D ar b Z y_Ho_byteIn dc [.ref (b + 0), .int (xs (4 * i + 1)), .int (xs (4 * i + 2)), .int (xs (4 * i + 3))] M n (some (.int w)) M1) (hdc : dc ≤ 9) (hMo : zK l D ar b Z y_Mo_byteIn dm [.ref (b + 546), .int (xs (4 * i + 1)), .int (xs (4 * i + 2)), .int (xs (4 * i + 3))] M1 n (some (.int w)) M2) (hdm : dm ≤ 9) (kk : zX (zn_G l D ar b Z) y_lw room_1 F 1153 (lw_L b0 b i none none) [] (zm_h b ar zl M2) n (k + 1) (j + 6)) : zX (zn_G l D ar b Z) y_lw room_1 F 124 (lw_L b0 b i z5 z6) [] (zm_h b ar zl M) n k j := by
  refine zx_aload_n (pc2 := 125) d_lw_124 rfl rfl ?_
  refine zx_aload_n (pc2 := 126) d_lw_125 rfl rfl ?_
  refine zx_iload (pc2 := 128) d_lw_126 rfl rfl ?_
  refine zx_iconst (pc2 := 129) (v := nI 1) d_lw_128 rfl (by decide) ?_
  refine zx_iadd (pc2 := 130) d_lw_129 rfl ?_
  refine zx_sld (pc2 := 131) d_lw_130 rfl (fun U hU => hX U hU.2) hb0 (nI_add _ _) (by omega) hN ?_
  refine zx_aload_n (pc2 := 132) d_lw_131 rfl rfl ?_
  refine zx_iload (pc2 := 134) d_lw_132 rfl rfl ?_
  refine zx_iconst (pc2 := 135) (v := nI 2) d_lw_134 rfl (by decide) ?_
  refine zx_iadd (pc2 := 136) d_lw_135 rfl ?_
  refine zx_sld (pc2 := 137) d_lw_136 rfl (fun U hU => hX U hU.2) hb0 (nI_add _ _) (by omega) hN ?_
  refine zx_aload_n (pc2 := 138) d_lw_137 rfl rfl ?_
  refine zx_iload (pc2 := 140) d_lw_138 rfl rfl ?_
  refine zx_iconst (pc2 := 141) (v := nI 3) d_lw_140 rfl (by decide) ?_
  refine zx_iadd (pc2 := 142) d_lw_141 rfl ?_
  refine zx_sld (pc2 := 143) d_lw_142 rfl (fun U hU => hX U hU.2) hb0 (nI_add _ _) (by omega) hN ?_
  refine lw_callV (pc2 := 146) s_La_74 v_Ho_byteIn zl_c0 hC d_lw_143 rfl rfl rfl (Nat.le_of_ble_eq_true rfl) hdc (by decide) (by omega) (by omega) ?_
  refine zx_aload_n (pc2 := 147) d_lw_146 rfl rfl ?_
  refine zx_aload_n (pc2 := 148) d_lw_147 rfl rfl ?_
  refine zx_iload (pc2 := 150) d_lw_148 rfl rfl ?_
  refine zx_iconst (pc2 := 151) (v := nI 1) d_lw_150 rfl (by decide) ?_
  refine zx_iadd (pc2 := 152) d_lw_151 rfl ?_
  refine zx_sld (pc2 := 153) d_lw_152 rfl (fun U hU => hX U hU.2) hb0 (nI_add _ _) (by omega) hN ?_
  refine zx_aload_n (pc2 := 154) d_lw_153 rfl rfl ?_
  refine zx_iload (pc2 := 156) d_lw_154 rfl rfl ?_
  refine zx_iconst (pc2 := 157) (v := nI 2) d_lw_156 rfl (by decide) ?_
  refine zx_iadd (pc2 := 158) d_lw_157 rfl ?_
  refine zx_sld (pc2 := 159) d_lw_158 rfl (fun U hU => hX U hU.2) hb0 (nI_add _ _) (by omega) hN ?_
  refine zx_aload_n (pc2 := 160) d_lw_159 rfl rfl ?_
  refine zx_iload (pc2 := 162) d_lw_160 rfl rfl ?_
  refine zx_iconst (pc2 := 163) (v := nI 3) d_lw_162 rfl (by decide) ?_
  refine zx_iadd (pc2 := 164) d_lw_163 rfl ?_
  refine zx_sld (pc2 := 165) d_lw_164 rfl (fun U hU => hX U hU.2) hb0 (nI_add _ _) (by omega) hN ?_
  refine lw_callV (pc2 := 168) s_La_78 v_Mo_byteIn zl_c546 hMo d_lw_165 rfl rfl rfl (Nat.le_of_ble_eq_true rfl) hdm (by decide) (by omega) (by omega) ?_
  refine zx_icmp_eq (pc2 := 171) d_lw_168 rfl (tgt := 1153) (by decide) (fun _ => ?_) (fun cz => absurd rfl cz)
  exact zx_widen (by omega) (by omega) (lw_back kk)
theorem lc_letters {w : Int32} {dc : Nat} (hX : ∀ U, Z U → va_X b0 N xs U U.heap) (hb0 : b0 < b) (hN : N < 2 ^ 31) (hi : 4 * i + 3 < N) (hk : k + 1 ≤ 601024) (hj : j + 6 ≤ 7293034) (hC : zK l D ar b Z y_Ho_letters dc [.ref (b + 0)] M n (some (.int w)) M1) (hdc : dc ≤ 9) (hMo : zK l D ar b Z y_Mo_letters dm [.ref (b + 546)] M1 n (some (.int w)) M2) (hdm : dm ≤ 9) (kk : zX (zn_G l D ar b Z) y_lw room_1 F 1153 (lw_L b0 b i none none) [] (zm_h b ar zl M2) n (k + 1) (j + 6)) : zX (zn_G l D ar b Z) y_lw room_1 F 469 (lw_L b0 b i z5 z6) [] (zm_h b ar zl M) n k j := by
  refine zx_aload_n (pc2 := 470) d_lw_469 rfl rfl ?_
  refine lw_callV (pc2 := 473) (av := []) s_La_105 v_Ho_letters zl_c0 hC d_lw_470 rfl rfl rfl (Nat.le_of_ble_eq_true rfl) hdc (by decide) (by omega) (by omega) ?_
  refine zx_aload_n (pc2 := 474) d_lw_473 rfl rfl ?_
  refine lw_callV (pc2 := 477) (av := []) s_La_108 v_Mo_letters zl_c546 hMo d_lw_474 rfl rfl rfl (Nat.le_of_ble_eq_true rfl) hdm (by decide) (by omega) (by omega) ?_
  refine zx_icmp_eq (pc2 := 480) d_lw_477 rfl (tgt := 1153) (by decide) (fun _ => ?_) (fun cz => absurd rfl cz)
  exact zx_widen (by omega) (by omega) (lw_back kk)
end CC0
