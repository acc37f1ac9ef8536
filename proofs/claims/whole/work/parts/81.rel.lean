/-! Class against model (pure): the relation. C is read at the class's rows, D at the model's rows; G: the reports that identities stand for, place by place; B bounds all ballots -/
abbrev wG : Type := Nat → Nat → Option (Nat × (Nat → Nat))
/-- M' agrees with M at the rows of S -/
def we (S : Nat → Prop) (M M' : zm_M) : Prop := ∀ r, S r → (∀ k, zm_I M' r k = zm_I M r k) ∧ (∀ k, zm_J M' r k = zm_J M r k) ∧ (∀ k, zm_P M' r k = zm_P M r k)
theorem we_refl {S : Nat → Prop} {M : zm_M} : we S M M := fun _ _ => ⟨fun _ => rfl, fun _ => rfl, fun _ => rfl⟩
theorem we_trans {S : Nat → Prop} {M N O : zm_M} (h1 : we S M N) (h2 : we S N O) : we S M O := fun r hr => ⟨fun k => ((h2 r hr).1 k).trans ((h1 r hr).1 k), fun k => ((h2 r hr).2.1 k).trans ((h1 r hr).2.1 k), fun k => ((h2 r hr).2.2 k).trans ((h1 r hr).2.2 k)⟩
theorem we_mono {S T : Nat → Prop} {M N : zm_M} (h : we S M N) (hT : ∀ r, T r → S r) : we T M N := fun r hr => h r (hT r hr)
theorem we_I {S : Nat → Prop} {M N : zm_M} (h : we S M N) {r k : Nat} (hr : S r) : zm_I N r k = zm_I M r k := (h r hr).1 k
theorem we_J {S : Nat → Prop} {M N : zm_M} (h : we S M N) {r k : Nat} (hr : S r) : zm_J N r k = zm_J M r k := (h r hr).2.1 k
theorem we_P {S : Nat → Prop} {M N : zm_M} (h : we S M N) {r k : Nat} (hr : S r) : zm_P N r k = zm_P M r k := (h r hr).2.2 k
theorem we_wI {S : Nat → Prop} {M : zm_M} {r k : Nat} {v : Int32} (h : ¬ S r) : we S M (zm_wI M r k v) := fun r' hr => ⟨fun k' => zm_In (Or.inl (fun e => h (e ▸ hr))), fun _ => rfl, fun _ => rfl⟩
theorem zm_Js {M : zm_M} {r k : Nat} {v : Int64} : zm_J (zm_wJ M r k v) r k = v := by rw [zm_J_w, if_pos ⟨rfl, rfl⟩]
theorem zm_Jn {M : zm_M} {r k r' k' : Nat} {v : Int64} (h : r' ≠ r ∨ k' ≠ k) : zm_J (zm_wJ M r k v) r' k' = zm_J M r' k' := by
  rw [zm_J_w, if_neg (fun z => h.elim (fun q => q z.1) (fun q => q z.2))]
theorem zm_Ps {M : zm_M} {r k : Nat} {v : Nat} : zm_P (zm_wP M r k v) r k = v := by rw [zm_P_w, if_pos ⟨rfl, rfl⟩]
theorem zm_Pn {M : zm_M} {r k r' k' : Nat} {v : Nat} (h : r' ≠ r ∨ k' ≠ k) : zm_P (zm_wP M r k v) r' k' = zm_P M r' k' := by
  rw [zm_P_w, if_neg (fun z => h.elim (fun q => q z.1) (fun q => q z.2))]
theorem we_wJ {S : Nat → Prop} {M : zm_M} {r k : Nat} {v : Int64} (h : ¬ S r) : we S M (zm_wJ M r k v) := fun r' hr => ⟨fun _ => rfl, fun k' => zm_Jn (Or.inl (fun e => h (e ▸ hr))), fun _ => rfl⟩
theorem we_wP {S : Nat → Prop} {M : zm_M} {r k : Nat} {v : Nat} (h : ¬ S r) : we S M (zm_wP M r k v) := fun r' hr => ⟨fun _ => rfl, fun _ => rfl, fun k' => zm_Pn (Or.inl (fun e => h (e ▸ hr)))⟩
theorem we_up {S : Nat → Prop} {M : zm_M} {r lo k : Nat} {f : Nat → Int32} (h : ¬ S r) : we S M (gm_up M r lo k f) := fun r' hr => ⟨fun k' => gm_upn (Or.inl (fun e => h (e ▸ hr))), fun _ => rfl, fun _ => rfl⟩
theorem we_it {S : Nat → Prop} {f : Nat → zm_M → zm_M} {M : zm_M} (h : ∀ k N, we S N (f k N)) : ∀ k, we S M (zm_it f k M)
  | 0 => we_refl
  | k + 1 => we_trans (we_it h k) (h k _)
/-! shelves -/
/-- a shelf of the class at r is a shelf of the model's, in row A from o on -/
def wr_sh (C : zm_M) (r : Nat) (D : zm_M) (A o : Nat) : Prop := ∀ pl, pl < 8 → zm_I C (r + 1) pl = zm_I D A (o + 11 * pl) ∧ zm_I C (r + 2) pl = zm_I D A (o + 11 * pl + 1) ∧ zm_I C (r + 3) pl = zm_I D A (o + 11 * pl + 2) ∧ ∀ i, i < 8 → i < (gv D A (o + 11 * pl + 2) + 2) / 3 → zm_I D A (o + 11 * pl + 3 + i) = nI (wb (zm_J C (r + 4) pl) i)
/-- what holds of a model's shelf, of station s -/
def wd_sh (G : wG) (B : Nat) (D : zm_M) (A o s : Nat) : Prop := ∀ pl, pl < 8 → (∃ u, u ≤ B ∧ zm_I D A (o + 11 * pl) = nI u) ∧ ((zm_I D A (o + 11 * pl + 1) = nI 0 ∧ zm_I D A (o + 11 * pl + 2) = nI 0) ∨ ∃ v z, G pl v = some z ∧ zm_I D A (o + 11 * pl + 1) = nI v ∧ zm_I D A (o + 11 * pl + 2) = nI z.1 ∧ ∀ i, i < (z.1 + 2) / 3 → zm_I D A (o + 11 * pl + 3 + i) = nI (gs_shb z.2 z.1 s i)) ∧ ∀ i, i < 8 → ∃ u, u < 256 ∧ zm_I D A (o + 11 * pl + 3 + i) = nI u
theorem wr_sh_c {C C' D D' : zm_M} {r r' A A' o o' : Nat} (h : wr_sh C r D A o) (hC : ∀ pl, pl < 8 → zm_I C' (r' + 1) pl = zm_I C (r + 1) pl ∧ zm_I C' (r' + 2) pl = zm_I C (r + 2) pl ∧ zm_I C' (r' + 3) pl = zm_I C (r + 3) pl ∧ zm_J C' (r' + 4) pl = zm_J C (r + 4) pl) (hD : ∀ x, x < 88 → zm_I D' A' (o' + x) = zm_I D A (o + x)) : wr_sh C' r' D' A' o' := by
  intro pl hpl
  obtain ⟨a1, a2, a3, a4⟩ := h pl hpl
  obtain ⟨c1, c2, c3, c4⟩ := hC pl hpl
  have e0 := hD (11 * pl) (by omega)
  have e1 := hD (11 * pl + 1) (by omega)
  have e2 := hD (11 * pl + 2) (by omega)
  rw [← Nat.add_assoc, ← Nat.add_assoc] at e1 e2
  have eg : gv D' A' (o' + 11 * pl + 2) = gv D A (o + 11 * pl + 2) := by unfold gv; rw [e2]
  refine ⟨by rw [c1, e0, a1], by rw [c2, e1, a2], by rw [c3, e2, a3], fun i hi8 hi => ?_⟩
  rw [eg] at hi
  have e3 := hD (11 * pl + 3 + i) (by omega)
  rw [show o' + (11 * pl + 3 + i) = o' + 11 * pl + 3 + i by omega, show o + (11 * pl + 3 + i) = o + 11 * pl + 3 + i by omega] at e3
  rw [e3, c4]
  exact a4 i hi8 hi
theorem wd_sh_c {G G' : wG} {B B' : Nat} {D D' : zm_M} {A A' o o' s : Nat} (h : wd_sh G B D A o s) (hG : ∀ pl v z, G pl v = some z → G' pl v = some z) (hB : B ≤ B') (hD : ∀ x, x < 88 → zm_I D' A' (o' + x) = zm_I D A (o + x)) (hz : ∀ pl v z, G pl v = some z → z.1 ≤ 24) : wd_sh G' B' D' A' o' s := by
  intro pl hpl
  obtain ⟨⟨u, a1, a2⟩, a3, a4⟩ := h pl hpl
  have e0 := hD (11 * pl) (by omega)
  have e1 := hD (11 * pl + 1) (by omega)
  have e2 := hD (11 * pl + 2) (by omega)
  rw [← Nat.add_assoc, ← Nat.add_assoc] at e1 e2
  have e3 : ∀ i, i < 8 → zm_I D' A' (o' + 11 * pl + 3 + i) = zm_I D A (o + 11 * pl + 3 + i) := fun i hi => by
    have e := hD (11 * pl + 3 + i) (by omega)
    rw [show o' + (11 * pl + 3 + i) = o' + 11 * pl + 3 + i by omega, show o + (11 * pl + 3 + i) = o + 11 * pl + 3 + i by omega] at e
    exact e
  refine ⟨⟨u, by omega, e0.trans a2⟩, ?_, fun i hi => ?_⟩
  · rcases a3 with ⟨b1, b2⟩ | ⟨v, z, b0, b1, b2, b3⟩
    · exact Or.inl ⟨e1.trans b1, e2.trans b2⟩
    · refine Or.inr ⟨v, z, hG _ _ _ b0, e1.trans b1, e2.trans b2, fun i hi => ?_⟩
      have := hz _ _ _ b0
      rw [e3 i (by omega)]
      exact b3 i hi
  · obtain ⟨u, q1, q2⟩ := a4 i hi
    exact ⟨u, q1, (e3 i hi).trans q2⟩
/-! the model's own invariant -/
/-- what an identity stands for; its proposer has been at that ballot, and put it forward there once -/
def wg_ok (G : wG) (B : Nat) (D : zm_M) : Prop := ∀ pl v z, G pl v = some z → (pl < 8 ∧ 1 ≤ v ∧ v ≤ B ∧ 1 ≤ z.1 ∧ z.1 ≤ 24 ∧ ∀ x, z.2 x < 256) ∧ ∀ p, p < 2 → v % 2 = p → v ≤ gv D 554 p ∧ (v = gv D 554 p → zm_I D 553 p = nI 2 ∧ (zm_I D 559 (8 * p + pl) ≠ 0 ∨ zm_I D 560 (8 * p + pl) ≠ 0))
def wd_st (G : wG) (B : Nat) (D : zm_M) (s : Nat) : Prop := (∃ u, u ≤ B ∧ zm_I D 547 s = nI u) ∧ (zm_I D 548 s = nI 0 ∨ zm_I D 548 s = nI 1) ∧ (zm_I D 549 s = nI 0 ∨ zm_I D 549 s = nI 1) ∧ wd_sh G B D 550 (88 * s) s
def wd_le (G : wG) (B : Nat) (D : zm_M) (i : Nat) : Prop := ∃ k s p u, (k < 4 ∧ s < 7 ∧ p < 2 ∧ u ≤ B) ∧ (zm_I D 551 (7 * i + 0) = nI k ∧ zm_I D 551 (7 * i + 1) = nI s ∧ zm_I D 551 (7 * i + 2) = nI p ∧ zm_I D 551 (7 * i + 3) = nI u) ∧ (k = 1 → wd_sh G B D 552 (88 * i) s) ∧ (2 ≤ k → ∃ pl v z, pl < 8 ∧ G pl v = some z ∧ zm_I D 551 (7 * i + 4) = nI pl ∧ zm_I D 551 (7 * i + 5) = nI v ∧ (k = 2 → zm_I D 551 (7 * i + 6) = nI z.1 ∧ ∀ j, j < (z.1 + 2) / 3 → zm_I D 552 (88 * i + j) = nI (gs_shb z.2 z.1 s j)))
def wd_sp (G : wG) (B : Nat) (D : zm_M) (p pl ph : Nat) : Prop := (∃ v, v ≤ B ∧ zm_I D 559 (8 * p + pl) = nI v) ∧ (zm_I D 560 (8 * p + pl) = nI 0 ∨ ph = 2 ∧ ∃ v z m, G pl v = some z ∧ zm_I D 560 (8 * p + pl) = nI v ∧ m < 128 ∧ zm_I D 562 (8 * p + pl) = nI m ∧ zm_I D 561 (8 * p + pl) = nI z.1 ∧ ∀ x, x < z.1 → zm_I D 563 (24 * (8 * p + pl) + x) = nI (z.2 x))
/-- how many of the seven lowest bits are set -/
def wpc (m : Nat) : Nat := m % 2 + m / 2 % 2 + m / 4 % 2 + m / 8 % 2 + m / 16 % 2 + m / 32 % 2 + m / 64 % 2
def wd_pr (G : wG) (B : Nat) (D : zm_M) (p : Nat) : Prop := ∃ ph w m dl, (ph < 3 ∧ w ≤ B ∧ m < 128 ∧ dl ≤ 24) ∧ (zm_I D 553 p = nI ph ∧ zm_I D 554 p = nI w ∧ zm_I D 555 p = nI m ∧ zm_I D 558 p = nI dl) ∧ (∀ x, x < dl → ∃ u, u < 256 ∧ zm_I D 557 (24 * p + x) = nI u) ∧ ((ph = 0 ∧ w = 0) ∨ (2 ≤ w ∧ w % 2 = p)) ∧ (ph = 1 → wpc m ≤ 4) ∧ (∀ s, s < 7 → m / 2 ^ s % 2 = 1 → wd_sh G B D 556 (616 * p + 88 * s) s) ∧ ∀ pl, pl < 8 → wd_sp G B D p pl ph
def wd_lt (G : wG) (B : Nat) (D : zm_M) : Prop := ∃ c, c ≤ 60 ∧ zm_I D 546 5 = nI c ∧ ∀ i, i < c → wd_le G B D i
def wd_rd (D : zm_M) : Prop := ∃ c, c ≤ 24 ∧ zm_I D 546 25 = nI c
def wd (G : wG) (B : Nat) (D : zm_M) : Prop := gt_ok D ∧ wg_ok G B D ∧ wd_lt G B D ∧ (∀ s, s < 7 → wd_st G B D s) ∧ (∀ p, p < 2 → wd_pr G B D p) ∧ wd_rd D
/-! class against model -/
def wr_st (C D : zm_M) (s : Nat) : Prop := zm_I C (2 + 6 * s) 0 = zm_I D 547 s ∧ zm_I C (2 + 6 * s) 1 = nI 1 - zm_I D 548 s ∧ zm_I C (2 + 6 * s) 2 = zm_I D 549 s ∧ wr_sh C (2 + 6 * s + 1) D 550 (88 * s)
def wr_le (C : zm_M) (q : Nat) (D : zm_M) (i : Nat) : Prop := (∀ k, k < 6 → zm_I C q k = zm_I D 551 (7 * i + k)) ∧ (zm_I D 551 (7 * i + 0) = nI 1 → wr_sh C (q + 1) D 552 (88 * i)) ∧ (zm_I D 551 (7 * i + 0) = nI 2 → zm_I C q 6 = zm_I D 551 (7 * i + 6) ∧ ∀ j, j < 8 → j < (gv D 551 (7 * i + 6) + 2) / 3 → zm_I D 552 (88 * i + j) = nI (wb (zm_J C q 7) j))
/-- the slots hold the 61 letters, each once -/
def wr_pm (C : zm_M) : Prop := (∀ i, i < 61 → ∃ j, j < 61 ∧ zm_P C 172 i = 173 + 6 * j) ∧ ∀ i, i < 61 → ∀ j, j < 61 → zm_P C 172 i = zm_P C 172 j → i = j
def wr_lt (C D : zm_M) : Prop := wr_pm C ∧ ∃ c, c ≤ 60 ∧ zm_I D 546 5 = nI c ∧ zm_I C 171 0 = nI c ∧ ∀ i, i < c → wr_le C (zm_P C 172 i) D i
/-- a report of the class at q: length bytes of the model's, in row A from o on, in three pieces -/
def wr_re (C : zm_M) (q : Nat) (D : zm_M) (A o len : Nat) : Prop := zm_I C q 0 = nI len ∧ ∀ k, k < 3 → ∀ i, i < (len + 2) / 3 → wb (zm_J C (q + 1) k) i = gs_bt (fun x => gv D A (o + x)) len i k
def wr_sp (C D : zm_M) (p pl : Nat) : Prop := zm_I C (45 + 63 * p + 39 + 3 * pl) 0 = zm_I D 559 (8 * p + pl) ∧ zm_I C (45 + 63 * p + 39 + 3 * pl) 1 = zm_I D 560 (8 * p + pl) ∧ (zm_I D 560 (8 * p + pl) ≠ 0 → zm_I C (45 + 63 * p + 39 + 3 * pl) 2 = zm_I D 562 (8 * p + pl) ∧ wr_re C (45 + 63 * p + 39 + 3 * pl + 1) D 563 (24 * (8 * p + pl)) (gv D 561 (8 * p + pl)))
def wr_pr (C D : zm_M) (p : Nat) : Prop := (zm_I C (45 + 63 * p) 0 = nI p ∧ zm_I C (45 + 63 * p) 1 = zm_I D 553 p ∧ zm_I C (45 + 63 * p) 2 = zm_I D 554 p ∧ zm_I C (45 + 63 * p) 3 = zm_I D 555 p ∧ zm_I C (45 + 63 * p) 4 = zm_I D 558 p) ∧ (∀ x, x < gv D 558 p → (zm_I C (45 + 63 * p + 1) x).toInt64 &&& (255 : Int64) = (zm_I D 557 (24 * p + x)).toInt64) ∧ (∀ s, s < 7 → gv D 555 p / 2 ^ s % 2 = 1 → wr_sh C (45 + 63 * p + 4 + 5 * s) D 556 (616 * p + 88 * s)) ∧ ∀ pl, pl < 8 → wr_sp C D p pl
def wr_rd (C D : zm_M) : Prop := zm_I C 544 0 = zm_I D 546 25 ∧ ∀ x, x < gv D 546 25 → fs_byte C 544 (gv D 546 25) x = zm_I D 569 x
def wr (C D : zm_M) : Prop := (∀ s, s < 7 → wr_st C D s) ∧ wr_lt C D ∧ (∀ p, p < 2 → wr_pr C D p) ∧ wr_rd C D
theorem gv_of {D : zm_M} {r x n : Nat} (h : zm_I D r x = nI n) (hn : n < 2 ^ 31) : gv D r x = n := by unfold gv; rw [h, nI_clamp hn]
theorem gv_c {D D' : zm_M} {r x : Nat} (h : zm_I D' r x = zm_I D r x) : gv D' r x = gv D r x := by unfold gv; rw [h]
/-! who depends on which rows -/
theorem wr_st_c {C C' D D' : zm_M} {s : Nat} (h : wr_st C D s) (hC : we (fun r => 2 + 6 * s ≤ r ∧ r < 8 + 6 * s) C C') (hD : we (fun r => 547 ≤ r ∧ r ≤ 550) D D') : wr_st C' D' s := by
  obtain ⟨a1, a2, a3, a4⟩ := h
  refine ⟨?_, ?_, ?_, wr_sh_c a4 (fun pl _ => ⟨we_I hC (by omega), we_I hC (by omega), we_I hC (by omega), we_J hC (by omega)⟩) (fun x _ => we_I hD (by omega))⟩
  · rw [we_I hC (by omega), we_I hD (by omega), a1]
  · rw [we_I hC (by omega), we_I hD (by omega), a2]
  · rw [we_I hC (by omega), we_I hD (by omega), a3]
theorem wd_st_c {G G' : wG} {B B' : Nat} {D D' : zm_M} {s : Nat} (h : wd_st G B D s) (hG : ∀ pl v z, G pl v = some z → G' pl v = some z) (hB : B ≤ B') (hz : ∀ pl v z, G pl v = some z → z.1 ≤ 24) (hD : we (fun r => 547 ≤ r ∧ r ≤ 550) D D') : wd_st G' B' D' s := by
  obtain ⟨⟨u, a1, a1'⟩, a2, a3, a4⟩ := h
  refine ⟨⟨u, by omega, ?_⟩, ?_, ?_, wd_sh_c a4 hG hB (fun x _ => we_I hD (by omega)) hz⟩
  · rw [we_I hD (by omega), a1']
  · rw [we_I hD (by omega)]; exact a2
  · rw [we_I hD (by omega)]; exact a3
theorem wr_le_c {C C' D D' : zm_M} {q i i' : Nat} (h : wr_le C q D i) (hC : we (fun r => q ≤ r ∧ r < q + 6) C C') (h1 : ∀ k, k < 7 → zm_I D' 551 (7 * i' + k) = zm_I D 551 (7 * i + k)) (h2 : ∀ k, k < 88 → zm_I D' 552 (88 * i' + k) = zm_I D 552 (88 * i + k)) : wr_le C' q D' i' := by
  obtain ⟨a1, a2, a3⟩ := h
  have eg : gv D' 551 (7 * i' + 6) = gv D 551 (7 * i + 6) := by unfold gv; rw [h1 6 (by decide)]
  refine ⟨fun k hk => ?_, fun e => ?_, fun e => ?_⟩
  · rw [we_I hC (by omega), h1 k (by omega), a1 k hk]
  · rw [h1 0 (by decide)] at e
    exact wr_sh_c (a2 e) (fun pl _ => ⟨we_I hC (by omega), we_I hC (by omega), we_I hC (by omega), we_J hC (by omega)⟩) h2
  · rw [h1 0 (by decide)] at e
    obtain ⟨b1, b2⟩ := a3 e
    refine ⟨by rw [we_I hC (by omega), h1 6 (by decide), b1], fun j hj hj2 => ?_⟩
    rw [eg] at hj2
    rw [h2 j (by omega), we_J hC (by omega)]
    exact b2 j hj hj2
theorem wd_le_c {G G' : wG} {B B' : Nat} {D D' : zm_M} {i i' : Nat} (h : wd_le G B D i) (hG : ∀ pl v z, G pl v = some z → G' pl v = some z) (hB : B ≤ B') (hz : ∀ pl v z, G pl v = some z → z.1 ≤ 24) (h1 : ∀ k, k < 7 → zm_I D' 551 (7 * i' + k) = zm_I D 551 (7 * i + k)) (h2 : ∀ k, k < 88 → zm_I D' 552 (88 * i' + k) = zm_I D 552 (88 * i + k)) : wd_le G' B' D' i' := by
  obtain ⟨k, s, p, u, ⟨k1, k2, k3, k4⟩, ⟨e0, e1, e2, e3⟩, f1, f2⟩ := h
  refine ⟨k, s, p, u, ⟨k1, k2, k3, by omega⟩, ⟨(h1 0 (by decide)).trans e0, (h1 1 (by decide)).trans e1, (h1 2 (by decide)).trans e2, (h1 3 (by decide)).trans e3⟩, fun e => wd_sh_c (f1 e) hG hB h2 hz, fun e => ?_⟩
  obtain ⟨pl, v, z, g1, g2, g3, g4, g5⟩ := f2 e
  have := hz _ _ _ g2
  refine ⟨pl, v, z, g1, hG _ _ _ g2, (h1 4 (by decide)).trans g3, (h1 5 (by decide)).trans g4, fun e => ⟨(h1 6 (by decide)).trans (g5 e).1, fun j hj => (h2 j (by omega)).trans ((g5 e).2 j hj)⟩⟩
theorem wr_re_c {C C' D D' : zm_M} {q A o len : Nat} (h : wr_re C q D A o len) (hC : we (fun r => q ≤ r ∧ r < q + 2) C C') (hD : ∀ x, x < len → zm_I D' A (o + x) = zm_I D A (o + x)) : wr_re C' q D' A o len := by
  refine ⟨(we_I hC (by omega)).trans h.1, fun k hk i hi => ?_⟩
  rw [we_J hC (by omega), h.2 k hk i hi]
  unfold gs_bt
  by_cases c : (len + 2) / 3 * k + i < len
  · rw [if_pos c, if_pos c]
    exact (gv_c (hD _ c)).symm
  · rw [if_neg c, if_neg c]
theorem wr_sp_c {C C' D D' : zm_M} {p pl : Nat} (h : wr_sp C D p pl) (hC : we (fun r => 45 + 63 * p + 39 + 3 * pl ≤ r ∧ r < 45 + 63 * p + 39 + 3 * pl + 3) C C') (hD : ∀ r, 559 ≤ r → r ≤ 562 → zm_I D' r (8 * p + pl) = zm_I D r (8 * p + pl)) (hD2 : ∀ x, x < gv D 561 (8 * p + pl) → zm_I D' 563 (24 * (8 * p + pl) + x) = zm_I D 563 (24 * (8 * p + pl) + x)) : wr_sp C' D' p pl := by
  obtain ⟨a1, a2, a3⟩ := h
  refine ⟨?_, ?_, fun e => ?_⟩
  · rw [we_I hC (by omega), hD 559 (by decide) (by decide), a1]
  · rw [we_I hC (by omega), hD 560 (by decide) (by decide), a2]
  · rw [hD 560 (by decide) (by decide)] at e
    obtain ⟨b1, b2⟩ := a3 e
    refine ⟨by rw [we_I hC (by omega), hD 562 (by decide) (by decide), b1], ?_⟩
    rw [gv_c (hD 561 (by decide) (by decide))]
    exact wr_re_c b2 (we_mono hC (fun r hr => by omega)) hD2
theorem wd_sp_c {G G' : wG} {B B' : Nat} {D D' : zm_M} {p pl ph : Nat} (h : wd_sp G B D p pl ph) (hG : ∀ pl v z, G pl v = some z → G' pl v = some z) (hB : B ≤ B') (hD : ∀ r, 559 ≤ r → r ≤ 562 → zm_I D' r (8 * p + pl) = zm_I D r (8 * p + pl)) (hz : ∀ pl v z, G pl v = some z → z.1 ≤ 24) (hD2 : ∀ x, x < 24 → zm_I D' 563 (24 * (8 * p + pl) + x) = zm_I D 563 (24 * (8 * p + pl) + x)) : wd_sp G' B' D' p pl ph := by
  obtain ⟨⟨v, a1, a2⟩, a3⟩ := h
  refine ⟨⟨v, by omega, (hD 559 (by decide) (by decide)).trans a2⟩, ?_⟩
  rcases a3 with a3 | ⟨e, v, z, m, b1, b2, b3, b4, b5, b6⟩
  · exact Or.inl ((hD 560 (by decide) (by decide)).trans a3)
  · have := hz _ _ _ b1
    exact Or.inr ⟨e, v, z, m, hG _ _ _ b1, (hD 560 (by decide) (by decide)).trans b2, b3, (hD 562 (by decide) (by decide)).trans b4, (hD 561 (by decide) (by decide)).trans b5, fun x hx => (hD2 x (by omega)).trans (b6 x hx)⟩
theorem wr_pr_c {C C' D D' : zm_M} {p : Nat} (hp : p < 2) (h : wr_pr C D p) (hC : we (fun r => 45 + 63 * p ≤ r ∧ r < 108 + 63 * p) C C') (hD : we (fun r => 553 ≤ r ∧ r ≤ 563) D D') : wr_pr C' D' p := by
  obtain ⟨⟨a0, a1, a2, a3, a4⟩, b, c, d⟩ := h
  refine ⟨⟨?_, ?_, ?_, ?_, ?_⟩, fun x hx => ?_, fun s hs e => ?_, fun pl hpl => ?_⟩
  · rw [we_I hC (by omega), a0]
  · rw [we_I hC (by omega), we_I hD (by omega), a1]
  · rw [we_I hC (by omega), we_I hD (by omega), a2]
  · rw [we_I hC (by omega), we_I hD (by omega), a3]
  · rw [we_I hC (by omega), we_I hD (by omega), a4]
  · rw [gv_c (we_I hD (by omega))] at hx
    rw [we_I hC (by omega), we_I hD (by omega), b x hx]
  · rw [gv_c (we_I hD (by omega))] at e
    exact wr_sh_c (c s hs e) (fun pl _ => ⟨we_I hC (by omega), we_I hC (by omega), we_I hC (by omega), we_J hC (by omega)⟩) (fun x _ => we_I hD (by omega))
  · exact wr_sp_c (d pl hpl) (we_mono hC (fun r hr => by omega)) (fun r h1 h2 => we_I hD (by omega)) (fun x _ => we_I hD (by omega))
theorem wd_pr_c {G G' : wG} {B B' : Nat} {D D' : zm_M} {p : Nat} (h : wd_pr G B D p) (hG : ∀ pl v z, G pl v = some z → G' pl v = some z) (hB : B ≤ B') (hz : ∀ pl v z, G pl v = some z → z.1 ≤ 24) (hD : we (fun r => 553 ≤ r ∧ r ≤ 563) D D') : wd_pr G' B' D' p := by
  obtain ⟨ph, w, m, dl, ⟨k1, k2, k3, k4⟩, ⟨e1, e2, e3, e4⟩, f1, f2, f3, f4, f5⟩ := h
  refine ⟨ph, w, m, dl, ⟨k1, by omega, k3, k4⟩, ⟨(we_I hD (by omega)).trans e1, (we_I hD (by omega)).trans e2, (we_I hD (by omega)).trans e3, (we_I hD (by omega)).trans e4⟩, fun x hx => ?_, f2, f3, fun s hs e => wd_sh_c (f4 s hs e) hG hB (fun x _ => we_I hD (by omega)) hz, fun pl hpl => wd_sp_c (f5 pl hpl) hG hB (fun r h1 h2 => we_I hD (by omega)) hz (fun x _ => we_I hD (by omega))⟩
  obtain ⟨u, q1, q2⟩ := f1 x hx
  exact ⟨u, q1, (we_I hD (by omega)).trans q2⟩
theorem wr_rd_c {C C' D D' : zm_M} (h : wr_rd C D) (hC : we (fun r => 544 ≤ r ∧ r < 546) C C') (h1 : zm_I D' 546 25 = zm_I D 546 25) (h2 : ∀ x, zm_I D' 569 x = zm_I D 569 x) : wr_rd C' D' := by
  refine ⟨by rw [we_I hC (by omega), h1, h.1], fun x hx => ?_⟩
  rw [gv_c h1] at hx ⊢
  rw [h2 x, ← h.2 x hx]
  unfold fs_byte
  rw [we_J hC (by omega)]
theorem wg_ok_c {G : wG} {B B' : Nat} {D D' : zm_M} (h : wg_ok G B D) (hB : B ≤ B') (hD : we (fun r => r = 553 ∨ r = 554 ∨ r = 559 ∨ r = 560) D D') : wg_ok G B' D' := by
  intro pl v z e
  obtain ⟨⟨a1, a2, a3, a4, a5, a6⟩, a7⟩ := h pl v z e
  refine ⟨⟨a1, a2, by omega, a4, a5, a6⟩, fun p hp hv => ?_⟩
  obtain ⟨b2, b3⟩ := a7 p hp hv
  rw [gv_c (we_I hD (by omega)), we_I hD (by omega), we_I hD (by omega), we_I hD (by omega)]
  exact ⟨b2, b3⟩
theorem wg_z {G : wG} {B : Nat} {D : zm_M} (h : wg_ok G B D) : ∀ pl v z, G pl v = some z → z.1 ≤ 24 := fun pl v z e => (h pl v z e).1.2.2.2.2.1
