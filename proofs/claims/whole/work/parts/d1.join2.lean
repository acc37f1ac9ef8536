/-! Class and model, call by call: the other calls -/
section CD2
variable {l : Launch} {D : va_G} {ar : Nat → ClassId} {b : Nat} {Z : State → Prop} {M : zm_M} {n B t : Nat}
/-- a letter's number -/
theorem le_arg (h : iv B M) : ∃ c, c ≤ 60 ∧ zm_I M 546 5 = nI c ∧ zm_I M 171 0 = nI c := by
  obtain ⟨G, h1, h2⟩ := h
  obtain ⟨_, c, a1, a2, a3, _⟩ := h1.2.1
  exact ⟨c, a1, a2, a3⟩
theorem op_dv {C' : zm_M} {G : wG} {i c : Nat} (h1 : wr M M) (h2 : wd G B M) (hC : zK l D ar b Z y_Ho_deliver 6 [.ref (b + 0), .int (nI i)] M n (some (.int (zm_I C' 171 0 - nI c))) C') (hs : ∀ E, wr M E → wd G B E → wsd B M E C' i c) : opv l D ar b Z y_La_deliver y_Mo_deliver [.ref (b + 0), .int (nI i), .ref (b + 572)] [.ref (b + 546), .int (nI i)] M n B := by
  obtain ⟨_, _, ⟨_, _, q3, _⟩, _⟩ := hs M h1 h2
  obtain ⟨j1, j2⟩ := jn_pre h1 h2 q3 (we_o (v := (zm_I C' 171 0 - nI c).toInt64))
  obtain ⟨D', r, a5, a6, a7, a8⟩ := hs _ j1 j2
  obtain ⟨f1, f2⟩ := jn_fin a5 we_o
  exact ⟨0, _, _, _, 9, _, w_deliver (by decide) hC, a8 l D ar b Z n, by decide, a6, by decide, fun _ => (f2.trans zm_Js).trans (congrArg Int32.toInt64 a7), f1⟩
theorem op_deliver (hfl : l.flags = pinnedFlags ++ [noTraceFlag]) (hT : zt_ok Z) (hI : ∀ U, Z U → zs_I b t U) (hB : B < 2 ^ 29) (h : iv B M) (x : Int32) : opv l D ar b Z y_La_deliver y_Mo_deliver [.ref (b + 0), .int x, .ref (b + 572)] [.ref (b + 546), .int x] M n B := by
  obtain ⟨c, c60, c1, c2⟩ := le_arg h
  obtain ⟨G, h1, h2⟩ := h
  rcases sp_arg x c (by omega) with ⟨i, hi, rfl⟩ | hx
  · obtain ⟨c, rfl⟩ : ∃ k, c = k + 1 := ⟨c - 1, by omega⟩
    have tr5 : ∀ {E : zm_M}, wr M E → zm_I E 546 5 = nI (c + 1) := fun j => (wo_letters j).symm.trans c2
    have trL : ∀ {E : zm_M}, wr M E → ∀ k, k < 6 → zm_I M (zm_P M 172 i) k = zm_I E 551 (7 * i + k) := fun j k hk => wo_letter j (tr5 j) c60 hi hk
    have hP := wp_ok h1
    obtain ⟨c', c61, c3, hle⟩ := h2.2.2.1
    have ecc : c' = c + 1 := (nI_eq (by omega) (by omega)).mp (c3.symm.trans c1)
    subst ecc
    obtain ⟨k, s, p, u, ⟨hk, hs, hp, hu⟩, ⟨e0, e1, e2, e3⟩, _, f2⟩ := hle i hi
    have g0 := (trL h1 0 (by decide)).trans e0
    have g1 := (trL h1 1 (by decide)).trans e1
    have g2 := (trL h1 2 (by decide)).trans e2
    have k0 : ∀ {E : zm_M}, wr M E → zm_I E 551 (7 * i + 0) = nI k := fun j => (trL j 0 (by decide)).symm.trans g0
    have k1 : ∀ {E : zm_M}, wr M E → zm_I E 551 (7 * i + 1) = nI s := fun j => (trL j 1 (by decide)).symm.trans g1
    have k2 : ∀ {E : zm_M}, wr M E → zm_I E 551 (7 * i + 2) = nI p := fun j => (trL j 2 (by decide)).symm.trans g2
    by_cases q0 : k = 0
    · subst q0
      exact op_dv h1 h2 (c_Ho_deliver0 c2 (by omega) (by omega) hP g0 g1 hs) (fun E j1 j2 => s_dv0 j1 j2 (tr5 j1) (by omega) (by omega) hs hp (k0 j1) (k1 j1) (k2 j1))
    · by_cases q1 : k = 1
      · subst q1
        exact op_dv h1 h2 (c_Ho_deliver1 hI c2 (by omega) (by omega) hP g0 g1 hs g2 hp) (fun E j1 j2 => s_dv1 (by omega) j1 j2 (tr5 j1) (by omega) (by omega) hs hp (k0 j1) (k1 j1) (k2 j1))
      · obtain ⟨pl, v, z, hpl, _, e4, _⟩ := f2 (by omega)
        have g4 := (trL h1 4 (by decide)).trans e4
        have k4 : ∀ {E : zm_M}, wr M E → zm_I E 551 (7 * i + 4) = nI pl := fun j => (trL j 4 (by decide)).symm.trans g4
        by_cases q2 : k = 2
        · subst q2
          exact op_dv h1 h2 (c_Ho_deliver2 c2 (by omega) (by omega) hP g0 g1 hs g4 hpl) (fun E j1 j2 => s_dv2 j1 j2 (tr5 j1) (by omega) (by omega) hs hp hpl (k0 j1) (k1 j1) (k2 j1) (k4 j1))
        · obtain rfl : k = 3 := by omega
          exact op_dv h1 h2 (c_Ho_deliver3 c2 (by omega) (by omega) hP g0 g1 g2 hp g4 hpl) (fun E j1 j2 => s_dv3 (by omega) j1 j2 (tr5 j1) (by omega) (by omega) hs hp hpl (k0 j1) (k1 j1) (k2 j1) (k4 j1))
  · exact ⟨1, _, _, _, 9, _, w_deliver_1 (e_Ho_deliver hfl hT (by rw [c2]; exact hx)), x_Mo_deliver (by rw [c1]; exact hx), by decide, kt_t, by decide, fun e => absurd e (by decide), iv_w ⟨G, h1, h2⟩⟩
theorem op_drop (hfl : l.flags = pinnedFlags ++ [noTraceFlag]) (hT : zt_ok Z) (h : iv B M) (x : Int32) : opn l D ar b Z y_La_drop y_Mo_drop [.ref (b + 0), .int x] [.ref (b + 546), .int x] M n B := by
  obtain ⟨c, c60, c1, c2⟩ := le_arg h
  obtain ⟨G, h1, h2⟩ := h
  rcases sp_arg x c (by omega) with ⟨i, hi, rfl⟩ | hx
  · obtain ⟨c, rfl⟩ : ∃ k, c = k + 1 := ⟨c - 1, by omega⟩
    obtain ⟨_, _, q3, _⟩ := s_drop h1 h2 c1 (by omega) (i := i) (by omega)
    obtain ⟨j1, j2⟩ := jn_pre h1 h2 q3 we_refl
    have c1' := (wo_letters j1).symm.trans c2
    have a5 := s_drop j1 j2 c1' (by omega) (i := i) (by omega)
    obtain ⟨f1, f2⟩ := jn_fin a5 we_refl
    exact ⟨0, _, _, 1, _, w_drop (by decide) (c_Ho_drop c2 (by omega) (by omega) (wp_ok h1)), c_Mo_drop c1' (by omega) (by omega), by decide, kt_rm.trans kt_t, by decide, f1⟩
  · exact ⟨1, _, _, 1, _, w_drop_1 (e_Ho_drop hfl hT (by rw [c2]; exact hx)), x_Mo_drop (by rw [c1]; exact hx), by decide, kt_t, by decide, iv_w ⟨G, h1, h2⟩⟩
theorem op_twin (hfl : l.flags = pinnedFlags ++ [noTraceFlag]) (hT : zt_ok Z) (hN : zt_nc Z) (h : iv B M) (x : Int32) : opn l D ar b Z y_La_twin y_Mo_twin [.ref (b + 0), .int x] [.ref (b + 546), .int x] M n B := by
  obtain ⟨c, c60, c1, c2⟩ := le_arg h
  obtain ⟨G, h1, h2⟩ := h
  rcases sp_arg x c (by omega) with ⟨i, hi, rfl⟩ | hx
  · by_cases hc : c = 60
    · subst hc
      exact ⟨2, _, _, 1, _, w_twin_2 hN (e_Ho_twinS hfl hT c2 hi), x_Mo_twinS c1 hi, by decide, kt_t, by decide, iv_w ⟨G, h1, h2⟩⟩
    · obtain ⟨_, _, q3, _⟩ := s_twin h1 h2 c1 (by omega) hi
      obtain ⟨j1, j2⟩ := jn_pre h1 h2 q3 we_refl
      have c1' := (wo_letters j1).symm.trans c2
      have a5 := s_twin j1 j2 c1' (by omega) hi
      obtain ⟨f1, f2⟩ := jn_fin a5 we_refl
      exact ⟨0, _, _, 1, _, w_twin (by decide) (c_Ho_twin c2 (by omega) hi (wp_ok h1)), c_Mo_twin c1' (by omega) hi, by decide, kt_tw, by decide, f1⟩
  · exact ⟨1, _, _, 1, _, w_twin_1 (e_Ho_twin hfl hT (by rw [c2]; exact hx)), x_Mo_twin (by rw [c1]; exact hx), by decide, kt_t, by decide, iv_w ⟨G, h1, h2⟩⟩
/-- a call that only looks -/
theorem op_look {yW yM : zx_Y} {avc avm : List Value} {v : Int32} {dm : Nat} (h : iv B M) (hW : zKW l D ar b Z yW avc M n (.int (nI 0)) (zm_wJ M 572 0 v.toInt64) n) (hdm : dm ≤ 9) (hM : zK l D ar b Z yM dm avm (zm_wJ M 572 0 v.toInt64) n (some (.int v)) (gm_t (zm_wJ M 572 0 v.toInt64) 0)) : opv l D ar b Z yW yM avc avm M n B :=
  ⟨0, _, _, _, dm, _, hW, hM, hdm, kt_t, by decide, fun _ => zm_Js, iv_w (iv_o h)⟩
/-- a call refused, nothing changed -/
theorem op_bad {yW yM : zx_Y} {avc avm : List Value} {dm kc : Nat} (h : iv B M) (hk : kc < 8) (hk0 : kc ≠ 0) (hW : zKW l D ar b Z yW avc M n (.int (nI kc)) M (n + 1)) (hdm : dm ≤ 9) (hM : zK l D ar b Z yM dm avm M (n + 1) (some (.int (nI 0))) (gm_t M kc)) : opv l D ar b Z yW yM avc avm M n B :=
  ⟨kc, _, _, _, dm, _, hW, hM, hdm, kt_t, hk, fun e => absurd e hk0, iv_w h⟩
/-- what stands beside the out array -/
theorem iv_pre {G : wG} {v : Int64} (h1 : wr M M) (h2 : wd G B M) : wr M (zm_wJ M 572 0 v) ∧ wd G B (zm_wJ M 572 0 v) := jn_pre h1 h2 we_refl we_o
theorem op_letter (hfl : l.flags = pinnedFlags ++ [noTraceFlag]) (hT : zt_ok Z) (hN : zt_nc Z) (h : iv B M) (x y : Int32) : opv l D ar b Z y_La_letter y_Mo_letter [.ref (b + 0), .int x, .int y, .ref (b + 572)] [.ref (b + 546), .int x, .int y] M n B := by
  obtain ⟨c, c60, c1, c2⟩ := le_arg h
  have h' := h
  obtain ⟨G, h1, h2⟩ := h
  rcases sp_arg x c (by omega) with ⟨i, hi, rfl⟩ | hx
  · rcases sp_arg y 6 (by decide) with ⟨k, hk, rfl⟩ | hy
    · obtain ⟨j1, j2⟩ := iv_pre (v := (zm_I M (zm_P M 172 i) k).toInt64) h1 h2
      have c1' := (wo_letters j1).symm.trans c2
      refine op_look (dm := 1) h' (w_letter (by decide) (c_Ho_letter c2 c60 hi hk (wp_ok h1))) (by decide) ?_
      have e := c_Mo_letter (l := l) (D := D) (ar := ar) (b := b) (Z := Z) (n := n) c1' c60 hi hk
      rw [← wo_letter j1 c1' c60 hi hk] at e
      exact e
    · exact op_bad (kc := 2) (dm := 1) h' (by decide) (by decide) (w_letter_2 hN (e_Ho_letterA hfl hT c2 c60 hi (wp_ok h1) (sp_int (k := 5) (by decide) hy))) (by decide) (x_Mo_letterA c1 c60 hi (sp_up (by decide) hy))
  · exact op_bad (kc := 1) (dm := 1) h' (by decide) (by decide) (w_letter_1 (e_Ho_letter hfl hT (by rw [c2]; exact hx))) (by decide) (x_Mo_letter (by rw [c1]; exact hx))
theorem op_up (hfl : l.flags = pinnedFlags ++ [noTraceFlag]) (hT : zt_ok Z) (h : iv B M) (x u : Int32) (hu : u = nI 0 ∨ u = nI 1) : opb l D ar b Z y_La_up y_Mo_up [.ref (b + 0), .int x, .int u, .ref (b + 572)] [.ref (b + 546), .int x, .int u] M n B := by
  obtain ⟨G, h1, h2⟩ := h
  rcases sp_arg x 7 (by decide) with ⟨s, hs, rfl⟩ | hx
  · obtain ⟨⟨_, _, q3, _⟩, _⟩ := s_up h1 h2 hs hu
    obtain ⟨j1, j2⟩ := jn_pre h1 h2 q3 (we_o (v := if (if zm_I M (2 + 6 * s) 1 = u then nI 0 else nI 1) = 0 then 0 else 1))
    obtain ⟨a5, a6⟩ := s_up j1 j2 hs hu
    obtain ⟨f1, f2⟩ := jn_fin a5 we_o
    exact ⟨0, _, _, _, 1, _, w_up (by decide) (c_Ho_up hs hu), c_Mo_up hs hu, by decide, (kt_w (Or.inl (by decide))).trans kt_t, by decide, fun _ => (f2.trans zm_Js).trans (congrArg (fun z : Int32 => if z = 0 then (0 : Int64) else 1) a6), f1⟩
  · exact ⟨1, _, _, _, 1, _, w_up_1 (e_Ho_up hfl hT hx), x_Mo_up hx, by decide, kt_t, by decide, fun e => absurd e (by decide), iv_w ⟨G, h1, h2⟩⟩
theorem op_wipe (hfl : l.flags = pinnedFlags ++ [noTraceFlag]) (hT : zt_ok Z) (h : iv B M) (x : Int32) : opn l D ar b Z y_La_wipe y_Mo_wipe [.ref (b + 0), .int x] [.ref (b + 546), .int x] M n B := by
  obtain ⟨G, h1, h2⟩ := h
  rcases sp_arg x 7 (by decide) with ⟨s, hs, rfl⟩ | hx
  · obtain ⟨_, _, q3, _⟩ := s_wipe h1 h2 hs
    obtain ⟨j1, j2⟩ := jn_pre h1 h2 q3 we_refl
    obtain ⟨f1, f2⟩ := jn_fin (s_wipe j1 j2 hs) we_refl
    exact ⟨0, _, _, 1, _, w_wipe (by decide) (c_Ho_wipe hs), c_Mo_wipe hs, by decide, kt_wipe, by decide, f1⟩
  · exact ⟨1, _, _, 1, _, w_wipe_1 (e_Ho_wipe hfl hT hx), x_Mo_wipe hx, by decide, kt_t, by decide, iv_w ⟨G, h1, h2⟩⟩
theorem op_catchUp (hfl : l.flags = pinnedFlags ++ [noTraceFlag]) (hT : zt_ok Z) (hN : zt_nc Z) (hI : ∀ U, Z U → zs_I b t U) (hB : B < 2 ^ 29) (h : iv B M) (x y : Int32) : opv l D ar b Z y_La_catchUp y_Mo_catchUp [.ref (b + 0), .int x, .int y, .ref (b + 572)] [.ref (b + 546), .int x, .int y] M n B := by
  have h' := h
  obtain ⟨G, h1, h2⟩ := h
  rcases sp_arg x 7 (by decide) with ⟨s, hs, rfl⟩ | hx
  · rcases sp_arg y 2 (by decide) with ⟨p, hp, rfl⟩ | hy
    · have e2 : ∀ {E : zm_M}, wr M E → zm_I M (2 + 6 * s) 2 = zm_I E 549 s := fun j => (j.1 s hs).2.2.1
      have e1 : ∀ {E : zm_M} {G : wG}, wr M E → wd G B E → (zm_I M (2 + 6 * s) 1 = 0 ↔ zm_I E 548 s ≠ 0) := fun j1 j2 => by
        rcases wo_up s j1 j2 hs with ⟨q1, q2⟩ | ⟨q1, q2⟩
        · rw [q1, q2]; exact ⟨fun z => absurd z (by decide), fun z => absurd rfl z⟩
        · rw [q1, q2]; exact ⟨fun _ => by decide, fun _ => rfl⟩
      by_cases hq : zm_I M (2 + 6 * s) 2 = 0 ∨ zm_I M (2 + 6 * s) 1 = 0
      · exact ⟨2, _, _, _, 6, _, w_catchUp_2 hN (e_Ho_catchUpS hfl hT hs hp hq), x_Mo_catchUpS hs hp (hq.imp (fun z => (e2 h1).symm.trans z) (e1 h1 h2).mp), by decide, zm_Is, by decide, fun e => absurd e (by decide), iv_w (iv_w h')⟩
      · have q2 : zm_I M (2 + 6 * s) 2 ≠ 0 := fun z => hq (Or.inl z)
        have q1 : zm_I M (2 + 6 * s) 1 ≠ 0 := fun z => hq (Or.inr z)
        have u2 : ∀ {E : zm_M}, wr M E → zm_I E 549 s ≠ 0 := fun j z => q2 ((e2 j).trans z)
        have u1 : ∀ {E : zm_M} {G : wG}, wr M E → wd G B E → zm_I E 548 s = 0 := fun j1 j2 => Classical.byContradiction (fun z => q1 ((e1 j1 j2).mpr z))
        obtain ⟨⟨_, _, q3, _⟩, _⟩ := s_catchUp (by omega) h1 h2 hs hp (u2 h1) (u1 h1 h2)
        obtain ⟨j1, j2⟩ := jn_pre h1 h2 q3 (we_o (v := (nI (fm_cuI s (45 + 63 * p) 8 M).1).toInt64))
        obtain ⟨a5, a6⟩ := s_catchUp (by omega) j1 j2 hs hp (u2 j1) (u1 j1 j2)
        obtain ⟨f1, f2⟩ := jn_fin a5 we_o
        exact ⟨0, _, _, _, 6, _, w_catchUp (by decide) (c_Ho_catchUp hI hs hp q2 q1), a6 l D ar b Z n, by decide, kt_cuL 8, by decide, fun _ => f2.trans zm_Js, f1⟩
    · exact op_bad (kc := 1) (dm := 6) h' (by decide) (by decide) (w_catchUp_1 (e_Ho_catchUpP hfl hT hs hy)) (by decide) (x_Mo_catchUpP hs hy)
  · exact op_bad (kc := 1) (dm := 6) h' (by decide) (by decide) (w_catchUp_1 (e_Ho_catchUp hfl hT hx)) (by decide) (x_Mo_catchUp hx)
theorem op_decided (hfl : l.flags = pinnedFlags ++ [noTraceFlag]) (hT : zt_ok Z) (h : iv B M) (x y : Int32) : opv l D ar b Z y_La_decided y_Mo_decided [.ref (b + 0), .int x, .int y, .ref (b + 572)] [.ref (b + 546), .int x, .int y] M n B := by
  have h' := h
  obtain ⟨G, h1, h2⟩ := h
  rcases sp_arg x 2 (by decide) with ⟨p, hp, rfl⟩ | hx
  · rcases sp_arg y 8 (by decide) with ⟨pl, hpl, rfl⟩ | hy
    · obtain ⟨j1, j2⟩ := iv_pre (v := (zm_I M (45 + 63 * p + 39 + 3 * pl) 0).toInt64) h1 h2
      refine op_look (dm := 1) h' (w_decided (by decide) (c_Ho_decided hp hpl)) (by decide) ?_
      have e := c_Mo_decided (l := l) (D := D) (ar := ar) (b := b) (Z := Z) (n := n) (M := zm_wJ M 572 0 (zm_I M (45 + 63 * p + 39 + 3 * pl) 0).toInt64) hp hpl
      rw [← wo_decided j1 hp hpl] at e
      exact e
    · exact op_bad (kc := 1) (dm := 1) h' (by decide) (by decide) (w_decided_1 (e_Ho_decidedP hfl hT hp hy)) (by decide) (x_Mo_decidedP hp hy)
  · exact op_bad (kc := 1) (dm := 1) h' (by decide) (by decide) (w_decided_1 (e_Ho_decided hfl hT hx)) (by decide) (x_Mo_decided hx)
theorem op_state (hfl : l.flags = pinnedFlags ++ [noTraceFlag]) (hT : zt_ok Z) (h : iv B M) (x y : Int32) : opv l D ar b Z y_La_state y_Mo_state [.ref (b + 0), .int x, .int y, .ref (b + 572)] [.ref (b + 546), .int x, .int y] M n B := by
  have h' := h
  obtain ⟨G, h1, h2⟩ := h
  rcases sp_arg x 2 (by decide) with ⟨p, hp, rfl⟩ | hx
  · rcases sp_arg y 4 (by decide) with ⟨k, hk, rfl⟩ | hy
    · obtain ⟨j1, j2⟩ := iv_pre (v := (fs_state M (45 + 63 * p) k).toInt64) h1 h2
      refine op_look (dm := 1) h' (w_state (by decide) (c_Ho_state hp hk)) (by decide) ?_
      have e := c_Mo_state (l := l) (D := D) (ar := ar) (b := b) (Z := Z) (n := n) (M := zm_wJ M 572 0 (fs_state M (45 + 63 * p) k).toInt64) hp hk
      rw [← wo_state j1 j2 hp hk] at e
      exact e
    · exact op_bad (kc := 1) (dm := 1) h' (by decide) (by decide) (w_state_1 (e_Ho_stateA hfl hT hp (sp_int (k := 3) (by decide) hy))) (by decide) (x_Mo_stateA hp (sp_up (by decide) hy))
  · exact op_bad (kc := 1) (dm := 1) h' (by decide) (by decide) (w_state_1 (e_Ho_state hfl hT hx)) (by decide) (x_Mo_state hx)
theorem op_station (hfl : l.flags = pinnedFlags ++ [noTraceFlag]) (hT : zt_ok Z) (h : iv B M) (x y : Int32) : opv l D ar b Z y_La_station y_Mo_station [.ref (b + 0), .int x, .int y, .ref (b + 572)] [.ref (b + 546), .int x, .int y] M n B := by
  have h' := h
  obtain ⟨G, h1, h2⟩ := h
  rcases sp_arg x 7 (by decide) with ⟨s, hs, rfl⟩ | hx
  · rcases sp_arg y 4 (by decide) with ⟨k, hk, rfl⟩ | hy
    · obtain ⟨j1, j2⟩ := iv_pre (v := (fs_station M s k).toInt64) h1 h2
      refine op_look (dm := 1) h' (w_station (by decide) (c_Ho_station hs hk)) (by decide) ?_
      have e := c_Mo_station (l := l) (D := D) (ar := ar) (b := b) (Z := Z) (n := n) (M := zm_wJ M 572 0 (fs_station M s k).toInt64) hs hk
      rw [← wo_station j1 j2 hs hk] at e
      exact e
    · exact op_bad (kc := 1) (dm := 1) h' (by decide) (by decide) (w_station_1 (e_Ho_stationA hfl hT hs (sp_int (k := 3) (by decide) hy))) (by decide) (x_Mo_stationA hs (sp_up (by decide) hy))
  · exact op_bad (kc := 1) (dm := 1) h' (by decide) (by decide) (w_station_1 (e_Ho_station hfl hT hx)) (by decide) (x_Mo_station hx)
theorem op_share (hfl : l.flags = pinnedFlags ++ [noTraceFlag]) (hT : zt_ok Z) (hB : B < 2 ^ 29) (h : iv B M) (x y z : Int32) : opv l D ar b Z y_La_share y_Mo_share [.ref (b + 0), .int x, .int y, .int z, .ref (b + 572)] [.ref (b + 546), .int x, .int y, .int z] M n B := by
  have h' := h
  obtain ⟨G, h1, h2⟩ := h
  rcases sp_arg x 7 (by decide) with ⟨s, hs, rfl⟩ | hx
  · rcases sp_arg y 8 (by decide) with ⟨pl, hpl, rfl⟩ | hy
    · by_cases hz : z < 0
      · exact op_bad (kc := 1) (dm := 1) h' (by decide) (by decide) (w_share_1 (e_Ho_shareA hfl hT hs hpl hz)) (by decide) (x_Mo_shareA hs hpl hz)
      · have hz0 : 0 ≤ z := Int32.not_lt.mp hz
        obtain ⟨j1, j2⟩ := iv_pre (v := (fs_shr M s pl z).toInt64) h1 h2
        refine op_look (dm := 1) h' (w_share (by decide) (c_Ho_share hs hpl hz0)) (by decide) ?_
        obtain ⟨len, hl, el⟩ := wd_len (j2.2.2.2.1 s hs).2.2.2 (fun pl v z hz => (j2.2.1 pl v z hz).1.2.2.2.2.1) hpl
        have e := c_Mo_share (l := l) (D := D) (ar := ar) (b := b) (Z := Z) (n := n) (M := zm_wJ M 572 0 (fs_shr M s pl z).toInt64) hs hpl hz0 el hl
        rw [← wo_share (by omega) j1 j2 hs hpl hz0] at e
        exact e
    · exact op_bad (kc := 1) (dm := 1) h' (by decide) (by decide) (w_share_1 (e_Ho_shareP hfl hT hs hy)) (by decide) (x_Mo_shareP hs hy)
  · exact op_bad (kc := 1) (dm := 1) h' (by decide) (by decide) (w_share_1 (e_Ho_share hfl hT hx)) (by decide) (x_Mo_share hx)
theorem op_readByte (hfl : l.flags = pinnedFlags ++ [noTraceFlag]) (hT : zt_ok Z) (h : iv B M) (x : Int32) : opv l D ar b Z y_La_readByte y_Mo_readByte [.ref (b + 0), .int x, .ref (b + 572)] [.ref (b + 546), .int x] M n B := by
  have h' := h
  obtain ⟨G, h1, h2⟩ := h
  obtain ⟨c, c24, c1⟩ := h2.2.2.2.2.2
  have c2 : zm_I M 544 0 = nI c := h1.2.2.2.1.trans c1
  rcases sp_arg x c (by omega) with ⟨i, hi, rfl⟩ | hx
  · obtain ⟨j1, j2⟩ := iv_pre (v := (fs_byte M 544 c i).toInt64) h1 h2
    have c1' : zm_I (zm_wJ M 572 0 (fs_byte M 544 c i).toInt64) 546 25 = nI c := j1.2.2.2.1.symm.trans c2
    refine op_look (dm := 0) h' (w_readByte (by decide) (c_Ho_readByte c2 c24 hi)) (by decide) ?_
    have e := c_Mo_readByte (l := l) (D := D) (ar := ar) (b := b) (Z := Z) (n := n) c1' hi c24
    rw [← wo_readByte j1 c1' c24 hi] at e
    exact e
  · exact op_bad (kc := 1) (dm := 0) h' (by decide) (by decide) (w_readByte_1 (e_Ho_readByte hfl hT (by rw [c2]; exact hx))) (by decide) (x_Mo_readByte (by rw [c1]; exact hx))
theorem op_read (hfl : l.flags = pinnedFlags ++ [noTraceFlag]) (hT : zt_ok Z) (hN : zt_nc Z) (hI : ∀ U, Z U → zs_I b t U) (hB : B < 2 ^ 29) (h : iv B M) (x y : Int32) : opv l D ar b Z y_La_read y_Mo_read [.ref (b + 0), .int x, .int y, .ref (b + 572)] [.ref (b + 546), .int x, .int y] M n B := by
  have h' := h
  obtain ⟨G, h1, h2⟩ := h
  rcases sp_arg x 2 (by decide) with ⟨p, hp, rfl⟩ | hx
  · rcases sp_arg y 8 (by decide) with ⟨pl, hpl, rfl⟩ | hy
    · obtain ⟨_, _, _, _, _, _, _, _, _, _, f5⟩ := h2.2.2.2.2.1 p hp
      obtain ⟨⟨v, hv, ev⟩, _⟩ := f5 pl hpl
      have ec : zm_I M (45 + 63 * p + 39 + 3 * pl) 0 = nI v := (wo_decided h1 hp hpl).trans ev
      by_cases hv0 : v = 0
      · subst hv0
        exact ⟨2, _, _, _, 5, _, w_read_2 hN (e_Ho_readN hfl hT hp hpl ec), x_Mo_readN hp hpl ev, by decide, zm_Is, by decide, fun e => absurd e (by decide), iv_w (iv_w h')⟩
      · have hne : nI v ≠ 0 := nI_ne (b := 0) hv0 (by omega) (by decide)
        have tr : ∀ {E : zm_M}, wr M E → zm_I E 559 (8 * p + pl) = nI v := fun j => (wo_decided j hp hpl).symm.trans ec
        by_cases hq : zm_I (fm_gs M pl (nI v)) 539 2 = nI 3
        · have hC := c_Ho_read (l := l) (D := D) (ar := ar) (b := b) (Z := Z) (n := n) (M := M) hI hp hpl (by rw [ec]; exact hne) (by rw [ec]; exact hq)
          rw [ec] at hC
          rcases s_read (by omega) h1 h2 hp hpl ev (by omega) hv0 with ⟨z, _⟩ | ⟨_, _, _, _, _, _, _, _, _, _, _, ⟨_, _, q3, _⟩, _⟩
          · exact absurd hq z
          · obtain ⟨j1, j2⟩ := jn_pre h1 h2 q3 (we_o (v := (zm_I (fm_together (fm_gs M pl (nI v)) 544 (gk_p (fm_gs M pl (nI v)))) 544 0).toInt64))
            rcases s_read (by omega) j1 j2 hp hpl (tr j1) (by omega) hv0 with ⟨z, _⟩ | ⟨_, a3, t0, t1, t2, l1, l2, l3, k0, k1, k2, a5, a6⟩
            · exact absurd hq z
            · obtain ⟨f1, f2⟩ := jn_fin a5 we_o
              exact ⟨0, _, _, _, 5, _, w_read (by decide) hC, c_Mo_read j2.1 (wd_gh j2) hp hpl (tr j1) hne a3 l1 l2 l3 k0 k1 k2, by decide, kt_rd, by decide, fun _ => (f2.trans zm_Js).trans (congrArg Int32.toInt64 a6), f1⟩
        · have hC := e_Ho_readS (l := l) (D := D) (ar := ar) (b := b) (Z := Z) (n := n) (M := M) hfl hT hp hpl (by rw [ec]; exact hne) (by rw [ec]; exact hq)
          rw [ec] at hC
          rcases s_read (by omega) h1 h2 hp hpl ev (by omega) hv0 with ⟨_, _, ⟨_, _, q3, _⟩⟩ | ⟨z, _⟩
          · obtain ⟨j1, j2⟩ := jn_pre h1 h2 q3 we_refl
            rcases s_read (by omega) j1 j2 hp hpl (tr j1) (by omega) hv0 with ⟨_, a3, a5⟩ | ⟨z, _⟩
            · obtain ⟨f1, f2⟩ := jn_fin a5 we_refl
              exact ⟨3, _, _, _, 5, _, w_read_3 hN hC, x_Mo_readS hp hpl (tr j1) hne a3, by decide, zm_Is, by decide, fun e => absurd e (by decide), f1⟩
            · exact absurd z hq
          · exact absurd z hq
    · exact op_bad (kc := 1) (dm := 5) h' (by decide) (by decide) (w_read_1 (e_Ho_readP hfl hT hp hy)) (by decide) (x_Mo_readP hp hy)
  · exact op_bad (kc := 1) (dm := 5) h' (by decide) (by decide) (w_read_1 (e_Ho_read hfl hT hx)) (by decide) (x_Mo_read hx)
end CD2
