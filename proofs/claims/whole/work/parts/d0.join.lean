/-! Class and model, call by call: what the law's cases want -/
def iv (B : Nat) (M : zm_M) : Prop := ∃ G, wr M M ∧ wd G B M
theorem sp_arg (x : Int32) (k : Nat) (hk : k < 2 ^ 31) : (∃ p, p < k ∧ x = nI p) ∨ (x < 0 ∨ nI k ≤ x) := by
  by_cases h0 : x < 0
  · exact Or.inr (Or.inl h0)
  · have e0 : (0 : Int32) ≤ x := Int32.not_lt.mp h0
    have e1 : x = nI x.toBitVec.toNat := nI_self x
    have e2 : x.toBitVec.toNat < 2 ^ 31 := by
      have e3 := Int32.le_iff_toInt_le.mp e0
      have e4 : x.toInt = x.toBitVec.toInt := rfl
      rw [e4, BitVec.toInt_eq_toNat_cond] at e3
      have e5 : (0 : Int32).toInt = 0 := rfl
      rw [e5] at e3
      have e6 := x.toBitVec.isLt
      split at e3 <;> omega
    by_cases h1 : x.toBitVec.toNat < k
    · exact Or.inl ⟨_, h1, e1⟩
    · refine Or.inr (Or.inr ?_)
      rw [e1]
      exact nI_le (by omega) (by omega)
theorem sp_up {x : Int32} {k : Nat} (hk : k + 1 < 2 ^ 31) (h : x < 0 ∨ nI (k + 1) ≤ x) : x < 0 ∨ ¬ x ≤ nI k := h.imp id (fun q z => by
  have e := Int32.le_trans q z
  exact absurd (nI_lt (a := k) (b := k + 1) (by omega) (by omega)) (Int32.not_lt.mpr e))
theorem sp_int {x : Int32} {k : Nat} (hk : k + 1 < 2 ^ 31) (h : x < 0 ∨ nI (k + 1) ≤ x) : x.toInt < 0 ∨ (k : Int) < x.toInt := by
  rcases h with q | q
  · exact Or.inl (Int32.lt_iff_toInt_lt.mp q)
  · have e := Int32.le_iff_toInt_le.mp q
    have e2 : (nI (k + 1)).toInt = (k + 1 : Nat) := Int32.toInt_ofNat_of_lt hk
    rw [e2] at e
    exact Or.inr (by omega)
theorem jn_wn {M N : zm_M} (h : we (fun r => 546 ≤ r ∧ r < 572) M N) : wn M N := ⟨we_mono h (fun r hr => by omega), we_I h (by decide), we_I h (by decide)⟩
theorem jn_pre {G : wG} {B : Nat} {M C' M1 : zm_M} (h : wr M M) (hd : wd G B M) (h1 : we (fun r => 546 ≤ r) M C') (h2 : we (fun r => r < 572) C' M1) : wr M M1 ∧ wd G B M1 := by
  have hn : wn M M1 := jn_wn (we_trans (we_mono h1 (fun r hr => hr.1)) (we_mono h2 (fun r hr => hr.2)))
  exact ⟨wr_n h hn, wd_n hd (Nat.le_refl _) hn⟩
theorem jn_fin {B : Nat} {M C' M1 D' : zm_M} (h : ws B M M1 C' D') (h1 : we (fun r => r < 572) C' M1) : iv B D' ∧ zm_J D' 572 0 = zm_J M1 572 0 := by
  obtain ⟨a, ⟨G, g⟩, c, d⟩ := h
  exact ⟨⟨G, wr_m a (we_trans (we_mono h1 (fun r hr => by omega)) (we_mono d (fun r hr => by omega))), g⟩, we_J d (Or.inr rfl)⟩
theorem we_o {C : zm_M} {v : Int64} : we (fun r => r < 572) C (zm_wJ C 572 0 v) := we_wJ (by decide)
theorem iv_w {B : Nat} {M : zm_M} {v : Int32} (h : iv B M) : iv B (zm_wI M 546 0 v) := by
  obtain ⟨G, h1, h2⟩ := h
  exact ⟨G, wr_m (wr_n h1 wn_t) (we_wI (by decide)), wd_n h2 (Nat.le_refl _) wn_t⟩
theorem iv_o {B : Nat} {M : zm_M} {v : Int64} (h : iv B M) : iv B (zm_wJ M 572 0 v) := by
  obtain ⟨G, h1, h2⟩ := h
  have hn : wn M (zm_wJ M 572 0 v) := jn_wn (we_wJ (by decide))
  exact ⟨G, wr_m (wr_n h1 hn) (we_wJ (by decide)), wd_n h2 (Nat.le_refl _) hn⟩
theorem iv_mono {B B' : Nat} {M : zm_M} (hB : B ≤ B') (h : iv B M) : iv B' M := by
  obtain ⟨G, h1, h2⟩ := h
  exact ⟨G, h1, wd_n h2 hB wn_refl⟩
section CD0
variable (l : Launch) (D : va_G) (ar : Nat → ClassId) (b : Nat) (Z : State → Prop)
/-- what a call with an answer owes -/
def opv (yW yM : zx_Y) (avc avm : List Value) (M : zm_M) (n B : Nat) : Prop := ∃ (kc : Nat) (M1 : zm_M) (n1 : Nat) (w : Int32) (dm : Nat) (M2 : zm_M), zKW l D ar b Z yW avc M n (.int (nI kc)) M1 n1 ∧ zK l D ar b Z yM dm avm M1 n1 (some (.int w)) M2 ∧ dm ≤ 9 ∧ zm_I M2 546 0 = nI kc ∧ kc < 8 ∧ (kc = 0 → zm_J M2 572 0 = w.toInt64) ∧ iv B M2
/-- a truth value -/
def opb (yW yM : zx_Y) (avc avm : List Value) (M : zm_M) (n B : Nat) : Prop := ∃ (kc : Nat) (M1 : zm_M) (n1 : Nat) (w : Int32) (dm : Nat) (M2 : zm_M), zKW l D ar b Z yW avc M n (.int (nI kc)) M1 n1 ∧ zK l D ar b Z yM dm avm M1 n1 (some (.int w)) M2 ∧ dm ≤ 9 ∧ zm_I M2 546 0 = nI kc ∧ kc < 8 ∧ (kc = 0 → zm_J M2 572 0 = if w = 0 then 0 else 1) ∧ iv B M2
/-- none -/
def opn (yW yM : zx_Y) (avc avm : List Value) (M : zm_M) (n B : Nat) : Prop := ∃ (kc : Nat) (M1 : zm_M) (n1 dm : Nat) (M2 : zm_M), zKW l D ar b Z yW avc M n (.int (nI kc)) M1 n1 ∧ zK l D ar b Z yM dm avm M1 n1 none M2 ∧ dm ≤ 9 ∧ zm_I M2 546 0 = nI kc ∧ kc < 8 ∧ iv B M2
/-- a call that can't be refused -/
def opq (yH yM : zx_Y) (avc avm : List Value) (M : zm_M) (n B : Nat) : Prop := ∃ (M1 : zm_M) (w : Int32) (dc dm : Nat) (M2 : zm_M), zK l D ar b Z yH dc avc M n (some (.int w)) M1 ∧ dc ≤ 9 ∧ zK l D ar b Z yM dm avm M1 n (some (.int w)) M2 ∧ dm ≤ 9 ∧ iv B M2
end CD0
section CD1
variable {l : Launch} {D : va_G} {ar : Nat → ClassId} {b : Nat} {Z : State → Prop} {M : zm_M} {n B t : Nat}
theorem op_letters (h : iv B M) : opq l D ar b Z y_Ho_letters y_Mo_letters [.ref (b + 0)] [.ref (b + 546)] M n B := by
  obtain ⟨G, h1, h2⟩ := h
  refine ⟨M, _, 0, 0, gm_t M 0, c_Ho_letters, by decide, ?_, by decide, iv_w ⟨G, h1, h2⟩⟩
  rw [wo_letters h1]
  exact c_Mo_letters
theorem op_campaign (hfl : l.flags = pinnedFlags ++ [noTraceFlag]) (hT : zt_ok Z) (hB : B < 2 ^ 29) (hB3 : 3 ≤ B) (h : iv B M) (x : Int32) : opv l D ar b Z y_La_campaign y_Mo_campaign [.ref (b + 0), .int x, .ref (b + 572)] [.ref (b + 546), .int x] M n (B + 2) := by
  obtain ⟨G, h1, h2⟩ := h
  rcases sp_arg x 2 (by decide) with ⟨p, hp, rfl⟩ | hx
  · obtain ⟨_, _, _, _, _, _, ⟨_, _, q3, _⟩, _⟩ := s_campaign hB hB3 h1 h2 hp
    obtain ⟨j1, j2⟩ := jn_pre h1 h2 q3 (we_o (v := (zm_I (fm_camp M (45 + 63 * p)) (45 + 63 * p) 2).toInt64))
    obtain ⟨c, A, a1, a2, a3, a4, a5, a6⟩ := s_campaign hB hB3 j1 j2 hp
    obtain ⟨f1, f2⟩ := jn_fin a5 we_o
    exact ⟨0, _, _, _, 2, _, w_campaign (by decide) (c_Ho_campaign hp (wk_ok h1)), c_Mo_campaign a2 a1 hp a3 a4, by decide, (kt_pp 7).trans kt_c0, by decide, fun _ => (f2.trans zm_Js).trans (congrArg Int32.toInt64 a6), f1⟩
  · exact ⟨1, _, _, _, 2, _, w_campaign_1 (e_Ho_campaign hfl hT hx), x_Mo_campaign hx, by decide, kt_t, by decide, fun e => absurd e (by decide), iv_mono (by omega) (iv_w ⟨G, h1, h2⟩)⟩
theorem op_byteIn (h : iv B M) (x w m : Int32) : opq l D ar b Z y_Ho_byteIn y_Mo_byteIn [.ref (b + 0), .int x, .int w, .int m] [.ref (b + 546), .int x, .int w, .int m] M n B := by
  obtain ⟨G, h1, h2⟩ := h
  have bad : ((x < 0 ∨ nI 2 ≤ x) ∨ m < nI 1 ∨ ¬ m ≤ nI 4) → opq l D ar b Z y_Ho_byteIn y_Mo_byteIn [.ref (b + 0), .int x, .int w, .int m] [.ref (b + 546), .int x, .int w, .int m] M n B := fun q => ⟨M, _, 1, 1, _, c_Ho_byteIn0 q, by decide, c_Mo_byteIn0 q, by decide, iv_w ⟨G, h1, h2⟩⟩
  rcases sp_arg x 2 (by decide) with ⟨p, hp, rfl⟩ | hx
  · rcases sp_arg m 5 (by decide) with ⟨m, hm, rfl⟩ | hm
    · by_cases hm0 : m = 0
      · exact bad (Or.inr (Or.inl (nI_lt (by omega) (by decide))))
      · obtain ⟨ph, wv, mm, dl, ⟨_, _, _, hdl⟩, ⟨_, _, _, e4⟩, _⟩ := h2.2.2.2.2.1 p hp
        have ec : zm_I M (45 + 63 * p) 4 = nI dl := ((h1.2.2.1 p hp).1.2.2.2.2).trans e4
        have hC := c_Ho_byteIn1 (l := l) (D := D) (ar := ar) (b := b) (Z := Z) (n := n) (w := w) hp ec hdl (m := m) (by omega) (by omega)
        by_cases hfit : dl + m ≤ 24
        · rw [if_pos hfit, if_pos hfit] at hC
          obtain ⟨_, _, q3, _⟩ := s_byteIn (w := w) h1 h2 hp e4 (m := m) (by omega) (by omega) hfit
          obtain ⟨j1, j2⟩ := jn_pre h1 h2 q3 we_refl
          have e4' : zm_I (fm_wr M (45 + 63 * p) w dl m) 558 p = nI dl := (we_I q3 (by decide)).trans e4
          have a5 := s_byteIn (w := w) j1 j2 hp e4' (m := m) (by omega) (by omega) hfit
          obtain ⟨f1, f2⟩ := jn_fin a5 we_refl
          exact ⟨_, _, 1, 1, _, hC, by decide, c_Mo_byteIn1 hp e4' (by omega) (by omega) hfit, by decide, f1⟩
        · rw [if_neg hfit, if_neg hfit] at hC
          exact ⟨_, _, 1, 1, _, hC, by decide, c_Mo_byteInF hp e4 hdl (by omega) (by omega) hfit, by decide, iv_w ⟨G, h1, h2⟩⟩
    · exact bad (Or.inr ((sp_up (k := 4) (by decide) hm).imp (fun q => Int32.lt_trans q (by decide)) id))
  · exact bad (Or.inl hx)
theorem ff_or {M : zm_M} {p : Nat} : gs_ff M p = -1 ∨ ∃ pl, pl < 8 ∧ gs_ff M p = nI pl := by
  unfold gs_ff
  split
  · split
    · exact Or.inl rfl
    · have := gs_ffL_le (M := M) (p := p) 8 0
      exact Or.inr ⟨_, by omega, rfl⟩
  · exact Or.inl rfl
theorem op_propose (hfl : l.flags = pinnedFlags ++ [noTraceFlag]) (hT : zt_ok Z) (hN : zt_nc Z) (hB : B < 2 ^ 29) (h : iv B M) (x : Int32) : opv l D ar b Z y_La_propose y_Mo_propose [.ref (b + 0), .int x, .ref (b + 572)] [.ref (b + 546), .int x] M n B := by
  obtain ⟨G, h1, h2⟩ := h
  rcases sp_arg x 2 (by decide) with ⟨p, hp, rfl⟩ | hx
  · have eff := wo_ff h1 hp
    obtain ⟨ph, wv, mm, dl, ⟨_, _, _, hdl⟩, ⟨_, _, _, e4⟩, _⟩ := h2.2.2.2.2.1 p hp
    have ec : zm_I M (45 + 63 * p) 4 = nI dl := ((h1.2.2.1 p hp).1.2.2.2.2).trans e4
    have bad : (gs_ff M p = -1 ∨ zm_I M 558 p = 0) → opv l D ar b Z y_La_propose y_Mo_propose [.ref (b + 0), .int (nI p), .ref (b + 572)] [.ref (b + 546), .int (nI p)] M n B := fun q =>
      ⟨2, _, _, _, 4, _, w_propose_2 hN (e_Ho_proposeS hfl hT hp (by rw [eff, ec, ← e4]; exact q)), x_Mo_proposeS hp q, by decide, zm_Is, by decide, fun e => absurd e (by decide), iv_w (iv_w ⟨G, h1, h2⟩)⟩
    by_cases hd0 : dl = 0
    · exact bad (Or.inr (by rw [e4, hd0]; rfl))
    · rcases ff_or (M := M) (p := p) with q | ⟨pl, hpl, q⟩
      · exact bad (Or.inl q)
      · obtain ⟨_, _, _, _, _, ⟨_, _, q3, _⟩⟩ := s_propose (by omega) h1 h2 hp q hpl e4 (by omega) hdl
        obtain ⟨j1, j2⟩ := jn_pre h1 h2 q3 (we_o (v := (nI pl).toInt64))
        have eff1 : gs_ff (zm_wJ (fm_propose M (45 + 63 * p) pl dl) 572 0 (nI pl).toInt64) p = nI pl := (wo_ff j1 hp).symm.trans (eff.trans q)
        have e41 : zm_I (zm_wJ (fm_propose M (45 + 63 * p) pl dl) 572 0 (nI pl).toInt64) 558 p = nI dl := ((j1.2.2.1 p hp).1.2.2.2.2).symm.trans ec
        obtain ⟨c, f, a1, a2, a3, a5⟩ := s_propose (by omega) j1 j2 hp eff1 hpl e41 (by omega) hdl
        obtain ⟨f1, f2⟩ := jn_fin a5 we_o
        exact ⟨0, _, _, _, 4, _, w_propose (by decide) (c_Ho_propose hp (eff.trans q) hpl ec hdl (by omega) (wk_ok h1)), c_Mo_propose j2.1 a2 a1 hp eff1 hpl e41 (by omega) hdl a3, by decide, (kt_aa 7).trans kt_prop, by decide, fun _ => by rw [f2, zm_Js], f1⟩
  · exact ⟨1, _, _, _, 4, _, w_propose_1 (e_Ho_propose hfl hT hx), x_Mo_propose hx, by decide, kt_t, by decide, fun e => absurd e (by decide), iv_w ⟨G, h1, h2⟩⟩
theorem op_resend (hfl : l.flags = pinnedFlags ++ [noTraceFlag]) (hT : zt_ok Z) (hB : B < 2 ^ 29) (h : iv B M) (x : Int32) : opv l D ar b Z y_La_resend y_Mo_resend [.ref (b + 0), .int x, .ref (b + 572)] [.ref (b + 546), .int x] M n B := by
  obtain ⟨G, h1, h2⟩ := h
  rcases sp_arg x 2 (by decide) with ⟨p, hp, rfl⟩ | hx
  · obtain ⟨ph, wv, mm, dl, ⟨hph, _, _, hdl⟩, ⟨e1, _, _, e4⟩, _⟩ := h2.2.2.2.2.1 p hp
    have ec : zm_I M (45 + 63 * p) 1 = nI ph := ((h1.2.2.1 p hp).1.2.1).trans e1
    have hC := w_resend (l := l) (D := D) (ar := ar) (b := b) (Z := Z) (n := n) (dd := 4) (by decide) (c_Ho_resend hp (wk_ok h1))
    have tr : ∀ {M1 : zm_M}, wr M M1 → zm_I M1 553 p = nI ph := fun j => ((j.2.2.1 p hp).1.2.1).symm.trans ec
    by_cases c1 : ph = 1
    · subst c1
      have eR : fm_resend M (45 + 63 * p) = fm_sendP M (45 + 63 * p) := by unfold fm_resend; rw [if_pos ec]
      rw [eR] at hC
      obtain ⟨_, _, _, ⟨_, _, q3, _⟩, _⟩ := s_resend1 h1 h2 hp
      obtain ⟨j1, j2⟩ := jn_pre h1 h2 q3 (we_o (v := (zm_I (fm_sendP M (45 + 63 * p)) 171 0 - zm_I M 171 0).toInt64))
      obtain ⟨c, a1, a2, a5, a6⟩ := s_resend1 j1 j2 hp
      obtain ⟨f1, f2⟩ := jn_fin a5 we_o
      exact ⟨0, _, _, _, 3, _, hC, c_Mo_resend1 a2 a1 hp (tr j1), by decide, (kt_pp 7).trans kt_t, by decide, fun _ => (f2.trans zm_Js).trans (congrArg Int32.toInt64 a6), f1⟩
    · have n1 : ¬ nI ph = nI 1 := nI_ne c1 (by omega) (by decide)
      by_cases c2 : ph = 2
      · subst c2
        have eR : fm_resend M (45 + 63 * p) = fm_sendAll M (45 + 63 * p) := by unfold fm_resend; rw [ec, if_neg n1, if_pos rfl]
        rw [eR] at hC
        obtain ⟨_, _, _, _, _, _, ⟨_, _, q3, _⟩, _⟩ := s_resend2 (by omega) h1 h2 hp
        obtain ⟨j1, j2⟩ := jn_pre h1 h2 q3 (we_o (v := (zm_I (fm_sendAll M (45 + 63 * p)) 171 0 - zm_I M 171 0).toInt64))
        obtain ⟨c, Ln, Fb, a1, a2, a3, a5, a6⟩ := s_resend2 (by omega) j1 j2 hp
        obtain ⟨f1, f2⟩ := jn_fin a5 we_o
        exact ⟨0, _, _, _, 3, _, hC, c_Mo_resend2 j2.1 a2 a1 hp (tr j1) a3, by decide, (kt_ro 8).trans kt_t, by decide, fun _ => (f2.trans zm_Js).trans (congrArg Int32.toInt64 a6), f1⟩
      · have n2 : ¬ nI ph = nI 2 := nI_ne c2 (by omega) (by decide)
        have eR : fm_resend M (45 + 63 * p) = M := by unfold fm_resend; rw [ec, if_neg n1, if_neg n2]
        rw [eR, Int32.sub_self] at hC
        exact ⟨0, _, _, _, 3, _, hC, c_Mo_resend0 hp (by show ¬ zm_I M 553 p = _; rw [e1]; exact n1) (by show ¬ zm_I M 553 p = _; rw [e1]; exact n2), by decide, kt_t, by decide, fun _ => zm_Js, iv_w (iv_o ⟨G, h1, h2⟩)⟩
  · exact ⟨1, _, _, _, 3, _, w_resend_1 (e_Ho_resend hfl hT hx), x_Mo_resend hx, by decide, kt_t, by decide, fun e => absurd e (by decide), iv_w ⟨G, h1, h2⟩⟩
end CD1
