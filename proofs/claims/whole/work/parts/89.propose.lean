/-! Class against model (pure): a draft is cut; propose -/
theorem wb_or (x y : Int64) (i : Nat) : wb (x ||| y) i = wb x i ||| wb y i := by
  unfold wb
  rw [Int64.toBitVec_or, BitVec.toNat_or, Nat.or_div_two_pow, Nat.or_mod_two_pow]
theorem wl_one {b j0 : Nat} (hb : b < 256) (hj0 : j0 < 8) {j : Nat} (hj : j < 8) : (b <<< (8 * j0) % 2 ^ 64) / 2 ^ (8 * j) % 2 ^ 8 = if j = j0 then b else 0 := by
  have hl : ∀ k, k < 8 → (fun k => if k = j0 then b else 0) k < 256 := fun k _ => by
    show (if k = j0 then b else 0) < 256
    split <;> omega
  have e : wl_S (fun k => if k = j0 then b else 0) = b <<< (8 * j0) := by
    rw [Nat.shiftLeft_eq]
    unfold wl_S
    match j0, hj0 with
    | 0, _ => simp
    | 1, _ => simp; omega
    | 2, _ => simp; omega
    | 3, _ => simp; omega
    | 4, _ => simp; omega
    | 5, _ => simp; omega
    | 6, _ => simp; omega
    | 7, _ => simp; omega
    | k + 8, hk => omega
  have a := wl_at hl j hj
  rw [e] at a
  have b' := wl_lt hl
  rw [e] at b'
  rw [Nat.mod_eq_of_lt b']
  exact a
theorem wb_shl {b j0 : Nat} (hb : b < 256) (hj0 : j0 < 8) {j : Nat} (hj : j < 8) : wb ((nI b).toInt64 <<< ((nI 8 * nI j0).toInt64 &&& 63)) j = if j = j0 then b else 0 := by
  rw [nI_l (by omega)]
  have e : ((lN b) <<< ((nI 8 * nI j0).toInt64 &&& 63)).toBitVec.toNat = b <<< (8 * j0) % 2 ^ 64 := by
    have e0 : (lN b).toBitVec.toNat = b := by
      show b % 2 ^ 64 = b
      exact Nat.mod_eq_of_lt (by omega)
    match j0, hj0 with
    | 0, _ => show (lN b).toBitVec.toNat <<< 0 % 2 ^ 64 = _; rw [e0]
    | 1, _ => show (lN b).toBitVec.toNat <<< 8 % 2 ^ 64 = _; rw [e0]
    | 2, _ => show (lN b).toBitVec.toNat <<< 16 % 2 ^ 64 = _; rw [e0]
    | 3, _ => show (lN b).toBitVec.toNat <<< 24 % 2 ^ 64 = _; rw [e0]
    | 4, _ => show (lN b).toBitVec.toNat <<< 32 % 2 ^ 64 = _; rw [e0]
    | 5, _ => show (lN b).toBitVec.toNat <<< 40 % 2 ^ 64 = _; rw [e0]
    | 6, _ => show (lN b).toBitVec.toNat <<< 48 % 2 ^ 64 = _; rw [e0]
    | 7, _ => show (lN b).toBitVec.toNat <<< 56 % 2 ^ 64 = _; rw [e0]
    | k + 8, hk => omega
  unfold wb
  rw [e, wl_one hb hj0 hj]
theorem clP_at {M : zm_M} {r : Nat} : we (fun x => x ≠ r + 1) M (fm_clearP M r) ∧ ∀ k, k < 3 → zm_J (fm_clearP M r) (r + 1) k = 0 := by
  refine ⟨we_trans (we_trans (we_wJ (by omega)) (we_wJ (by omega))) (we_wJ (by omega)), fun k hk => ?_⟩
  show zm_J (zm_wJ (zm_wJ (zm_wJ M (r + 1) 0 0) (r + 1) 1 0) (r + 1) 2 0) (r + 1) k = 0
  match k, hk with
  | 0, _ => rw [zm_Jn (Or.inr (by decide)), zm_Jn (Or.inr (by decide)), zm_Js]
  | 1, _ => rw [zm_Jn (Or.inr (by decide)), zm_Js]
  | 2, _ => rw [zm_Js]
  | k + 3, hk => omega
theorem cut_at {M : zm_M} {r q c : Nat} {f : Nat → Nat} (hc : 1 ≤ c) (hc24 : c ≤ 24) (hq : q ≠ r ∧ q ≠ r + 1) (hf : ∀ x, x < c → f x < 256 ∧ (zm_I M q x).toInt64 &&& (255 : Int64) = (nI (f x)).toInt64) : we (fun x => x ≠ r ∧ x ≠ r + 1) M (fm_cut M r q c) ∧ zm_I (fm_cut M r q c) r 0 = nI c ∧ (∀ k, k ≠ 0 → zm_I (fm_cut M r q c) r k = zm_I M r k) ∧ ∀ k, k < 3 → ∀ i, i < (c + 2) / 3 → wb (zm_J (fm_cut M r q c) (r + 1) k) i = gs_bt f c i k := by
  have eT : ff_T c = (c + 2) / 3 := by unfold ff_T; omega
  obtain ⟨p1, p2⟩ := clP_at (M := zm_wI M r 0 (nI c)) (r := r)
  have w0 : we (fun x => x ≠ r ∧ x ≠ r + 1) M (fm_clearP (zm_wI M r 0 (nI c)) r) := we_trans (we_wI (by omega)) (we_mono p1 (fun x hx => hx.2))
  have r0 : zm_I (fm_clearP (zm_wI M r 0 (nI c)) r) r 0 = nI c := (we_I p1 (by omega)).trans zm_Is
  have rk : ∀ k, k ≠ 0 → zm_I (fm_clearP (zm_wI M r 0 (nI c)) r) r k = zm_I M r k := fun k hk => (we_I p1 (by omega)).trans (zm_In (Or.inr hk))
  unfold fm_cut
  rw [eT]
  generalize hT : (c + 2) / 3 = T
  have hT1 : 1 ≤ T := by omega
  have hT8 : T ≤ 8 := by omega
  have h3 : c ≤ 3 * T := by omega
  generalize fm_clearP (zm_wI M r 0 (nI c)) r = N0 at p2 w0 r0 rk
  have key : ∀ d, d ≤ c → we (fun x => x ≠ r ∧ x ≠ r + 1) M (zm_it (fm_cutS r q T) d N0) ∧ (∀ k, zm_I (zm_it (fm_cutS r q T) d N0) r k = zm_I N0 r k) ∧ ∀ k, k < 3 → ∀ j, j < 8 → wb (zm_J (zm_it (fm_cutS r q T) d N0) (r + 1) k) j = if j < T ∧ T * k + j < d then f (T * k + j) else 0 := by
    intro d
    induction d with
    | zero =>
      refine fun _ => ⟨w0, fun _ => rfl, fun k hk j hj => ?_⟩
      show wb (zm_J N0 (r + 1) k) j = _
      rw [p2 k hk, wb_0, if_neg (by omega)]
    | succ d ih =>
      intro hdc
      obtain ⟨i1, i2, i3⟩ := ih (by omega)
      show we (fun x => x ≠ r ∧ x ≠ r + 1) M (fm_cutS r q T d (zm_it (fm_cutS r q T) d N0)) ∧ (∀ k, zm_I (fm_cutS r q T d (zm_it (fm_cutS r q T) d N0)) r k = zm_I N0 r k) ∧ ∀ k, k < 3 → ∀ j, j < 8 → wb (zm_J (fm_cutS r q T d (zm_it (fm_cutS r q T) d N0)) (r + 1) k) j = _
      generalize zm_it (fm_cutS r q T) d N0 = N at i1 i2 i3
      unfold fm_cutS
      refine ⟨we_trans i1 (we_wJ (by omega)), i2, fun k hk j hj => ?_⟩
      have hdm := Nat.div_add_mod d T
      have hml := Nat.mod_lt d (show T > 0 by omega)
      have hk0 : d / T < 3 := by
        rw [Nat.div_lt_iff_lt_mul (by omega)]
        omega
      obtain ⟨f1, f2⟩ := hf d (by omega)
      by_cases ck : k = d / T
      · subst ck
        rw [zm_Js, wb_or, i3 _ hk0 j hj, we_I i1 hq, f2, wb_shl f1 (by omega) hj]
        by_cases cj : j = d % T
        · subst cj
          rw [if_pos rfl, if_neg (by omega), if_pos (by omega), Nat.zero_or, hdm]
        · rw [if_neg cj, Nat.or_zero]
          by_cases cc : j < T ∧ T * (d / T) + j < d
          · rw [if_pos cc, if_pos (by omega)]
          · rw [if_neg cc, if_neg (by omega)]
      · rw [zm_Jn (Or.inr ck), i3 k hk j hj]
        have hne : j < T → T * k + j ≠ d := fun hjT e => by
          apply ck
          have e1 : d / T = (T * k + j) / T := by rw [e]
          rw [e1, Nat.mul_add_div (by omega), Nat.div_eq_of_lt hjT, Nat.add_zero]
        by_cases cc : j < T ∧ T * k + j < d
        · rw [if_pos cc, if_pos (by omega)]
        · rw [if_neg cc, if_neg (fun z => by have := hne z.1; omega)]
  obtain ⟨k1, k2, k3⟩ := key c (Nat.le_refl _)
  refine ⟨k1, (k2 0).trans r0, fun k hk => (k2 k).trans (rk k hk), fun k hk i hi => ?_⟩
  rw [k3 k hk i (by omega)]
  unfold gs_bt
  rw [hT]
  by_cases cc : T * k + i < c
  · rw [if_pos ⟨hi, cc⟩, if_pos cc]
  · rw [if_neg (fun z => cc z.2), if_neg cc]
