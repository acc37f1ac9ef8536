/-! The law's loop -/
theorem and31 (x : Int32) : ∃ q, q < 32 ∧ x &&& nI 31 = nI q := by
  refine ⟨x.toBitVec.toNat &&& 31, ?_, ?_⟩
  · have := Nat.and_le_right (n := x.toBitVec.toNat) (m := 31)
    omega
  · rw [← nI_and, ← nI_self]
theorem sub4 {N i : Nat} (hN : N ≤ 2048) (hi : i ≤ 512) : nI N - nI 4 < nI (4 * i) ↔ N < 4 * i + 4 := by
  rw [Int32.lt_iff_toInt_lt, Int32.toInt_sub, show (nI N).toInt = (N : Int) from Int32.toInt_ofNat_of_lt (by omega), show (nI 4).toInt = ((4 : Nat) : Int) from Int32.toInt_ofNat_of_lt (by decide), show (nI (4 * i)).toInt = ((4 * i : Nat) : Int) from Int32.toInt_ofNat_of_lt (by omega), Int.bmod_eq_of_le (by omega) (by omega)]
  omega
section CE0
variable {l : Launch} {D : va_G} {ar : Nat → ClassId} {b : Nat} {Z : State → Prop} {F : List Frame → Array Value → State → State → Prop} {b0 N t K0 J0 : Nat} {xs : Nat → Int32}
theorem lw_turn {i k j n : Nat} {M : zm_M} (hfl : l.flags = pinnedFlags ++ [noTraceFlag]) (hT : zt_ok Z) (hN : zt_nc Z) (hI : ∀ U, Z U → zs_I b t U) (hX : ∀ U, Z U → va_X b0 N xs U U.heap) (hb0 : b0 < b) (hN31 : N < 2 ^ 31) (hi : 4 * i + 3 < N) (hk : k + 1 ≤ 601024) (hj : j + 6 ≤ 7293034) (hi5 : i < 512) (h : iv (3 + 2 * i) M) (kk : ∀ M2 n2, iv (3 + 2 * (i + 1)) M2 → zX (zn_G l D ar b Z) y_lw room_1 F 1153 (lw_L b0 b i none none) [] (zm_h b ar zl M2) n2 (k + 1) (j + 6)) : zX (zn_G l D ar b Z) y_lw room_1 F 32 (lw_L b0 b i none none) [] (zm_h b ar zl M) n k j := by
  have hB : 3 + 2 * i < 2 ^ 29 := by omega
  have hup : ∀ {M2 : zm_M}, iv (3 + 2 * i) M2 → iv (3 + 2 * (i + 1)) M2 := fun q => iv_mono (by omega) q
  refine zx_aload_n (pc2 := 33) d_lw_32 rfl rfl ?_
  refine zx_iload (pc2 := 35) d_lw_33 rfl rfl ?_
  refine zx_sld (pc2 := 36) d_lw_35 rfl (fun U hU => hX U hU.2) hb0 rfl (by omega) hN31 ?_
  refine zx_bipush (pc2 := 38) (v := nI 31) d_lw_36 rfl (by decide) ?_
  refine zx_iand (pc2 := 39) d_lw_38 rfl ?_
  obtain ⟨q, hq, eq⟩ := and31 (xs (4 * i))
  rw [eq]
  clear eq
  match q, hq with
  | 0, _ =>
    refine zx_tsw_in (tgt := 124) d_lw_39 (by decide) (by decide) rfl (by decide) ?_
    obtain ⟨M1, w, dc, dm, M2, a1, a2, a3, a4, a5⟩ := op_byteIn (l := l) (D := D) (ar := ar) (b := b) (Z := Z) (n := n) h (xs (4 * i + 1)) (xs (4 * i + 2)) (xs (4 * i + 3))
    exact lc_byteIn hX hb0 hN31 hi hk hj a1 a2 a3 a4 (kk _ _ (hup a5))
  | 1, _ =>
    refine zx_tsw_in (tgt := 173) d_lw_39 (by decide) (by decide) rfl (by decide) ?_
    obtain ⟨kc, M1, n1, w, dm, M2, a1, a2, a3, a4, a5, a6, a7⟩ := op_campaign (l := l) (D := D) (ar := ar) (b := b) (Z := Z) (n := n) hfl hT hB (by omega) h (xs (4 * i + 1))
    exact lc_campaign hX hb0 hN31 hi hk hj a1 a2 a3 a4 a5 a6 (kk _ _ (iv_mono (by omega) a7))
  | 2, _ =>
    refine zx_tsw_in (tgt := 229) d_lw_39 (by decide) (by decide) rfl (by decide) ?_
    obtain ⟨kc, M1, n1, w, dm, M2, a1, a2, a3, a4, a5, a6, a7⟩ := op_propose (l := l) (D := D) (ar := ar) (b := b) (Z := Z) (n := n) hfl hT hN hB h (xs (4 * i + 1))
    exact lc_propose hX hb0 hN31 hi hk hj a1 a2 a3 a4 a5 a6 (kk _ _ (hup a7))
  | 3, _ =>
    refine zx_tsw_in (tgt := 285) d_lw_39 (by decide) (by decide) rfl (by decide) ?_
    obtain ⟨kc, M1, n1, w, dm, M2, a1, a2, a3, a4, a5, a6, a7⟩ := op_resend (l := l) (D := D) (ar := ar) (b := b) (Z := Z) (n := n) hfl hT hB h (xs (4 * i + 1))
    exact lc_resend hX hb0 hN31 hi hk hj a1 a2 a3 a4 a5 a6 (kk _ _ (hup a7))
  | 4, _ =>
    refine zx_tsw_in (tgt := 341) d_lw_39 (by decide) (by decide) rfl (by decide) ?_
    obtain ⟨kc, M1, n1, w, dm, M2, a1, a2, a3, a4, a5, a6, a7⟩ := op_deliver (l := l) (D := D) (ar := ar) (b := b) (Z := Z) (n := n) hfl hT hI hB h (xs (4 * i + 1))
    exact lc_deliver hX hb0 hN31 hi hk hj a1 a2 a3 a4 a5 a6 (kk _ _ (hup a7))
  | 5, _ =>
    refine zx_tsw_in (tgt := 397) d_lw_39 (by decide) (by decide) rfl (by decide) ?_
    obtain ⟨kc, M1, n1, dm, M2, a1, a2, a3, a4, a5, a7⟩ := op_drop (l := l) (D := D) (ar := ar) (b := b) (Z := Z) (n := n) hfl hT h (xs (4 * i + 1))
    exact lc_drop hX hb0 hN31 hi hk hj a1 a2 a3 a4 a5 (kk _ _ (hup a7))
  | 6, _ =>
    refine zx_tsw_in (tgt := 433) d_lw_39 (by decide) (by decide) rfl (by decide) ?_
    obtain ⟨kc, M1, n1, dm, M2, a1, a2, a3, a4, a5, a7⟩ := op_twin (l := l) (D := D) (ar := ar) (b := b) (Z := Z) (n := n) hfl hT hN h (xs (4 * i + 1))
    exact lc_twin hX hb0 hN31 hi hk hj a1 a2 a3 a4 a5 (kk _ _ (hup a7))
  | 7, _ =>
    refine zx_tsw_in (tgt := 469) d_lw_39 (by decide) (by decide) rfl (by decide) ?_
    obtain ⟨M1, w, dc, dm, M2, a1, a2, a3, a4, a5⟩ := op_letters (l := l) (D := D) (ar := ar) (b := b) (Z := Z) (n := n) h
    exact lc_letters hX hb0 hN31 hi hk hj a1 a2 a3 a4 (kk _ _ (hup a5))
  | 8, _ =>
    refine zx_tsw_in (tgt := 482) d_lw_39 (by decide) (by decide) rfl (by decide) ?_
    obtain ⟨kc, M1, n1, w, dm, M2, a1, a2, a3, a4, a5, a6, a7⟩ := op_letter (l := l) (D := D) (ar := ar) (b := b) (Z := Z) (n := n) hfl hT hN h (xs (4 * i + 1)) (xs (4 * i + 2))
    exact lc_letter hX hb0 hN31 hi hk hj a1 a2 a3 a4 a5 a6 (kk _ _ (hup a7))
  | 9, _ =>
    refine zx_tsw_in (tgt := 550) d_lw_39 (by decide) (by decide) rfl (by decide) ?_
    obtain ⟨kc, M1, n1, w, dm, M2, a1, a2, a3, a4, a5, a6, a7⟩ := op_up (l := l) (D := D) (ar := ar) (b := b) (Z := Z) (n := n) hfl hT h (xs (4 * i + 1)) (if xs (4 * i + 2) = 0 then nI 0 else nI 1) (by split; exact Or.inl rfl; exact Or.inr rfl)
    exact lc_up rfl hX hb0 hN31 hi hk hj a1 a2 a3 a4 a5 a6 (kk _ _ (hup a7))
  | 10, _ =>
    refine zx_tsw_in (tgt := 641) d_lw_39 (by decide) (by decide) rfl (by decide) ?_
    obtain ⟨kc, M1, n1, dm, M2, a1, a2, a3, a4, a5, a7⟩ := op_wipe (l := l) (D := D) (ar := ar) (b := b) (Z := Z) (n := n) hfl hT h (xs (4 * i + 1))
    exact lc_wipe hX hb0 hN31 hi hk hj a1 a2 a3 a4 a5 (kk _ _ (hup a7))
  | 11, _ =>
    refine zx_tsw_in (tgt := 677) d_lw_39 (by decide) (by decide) rfl (by decide) ?_
    obtain ⟨kc, M1, n1, w, dm, M2, a1, a2, a3, a4, a5, a6, a7⟩ := op_catchUp (l := l) (D := D) (ar := ar) (b := b) (Z := Z) (n := n) hfl hT hN hI hB h (xs (4 * i + 1)) (xs (4 * i + 2))
    exact lc_catchUp hX hb0 hN31 hi hk hj a1 a2 a3 a4 a5 a6 (kk _ _ (hup a7))
  | 12, _ =>
    refine zx_tsw_in (tgt := 745) d_lw_39 (by decide) (by decide) rfl (by decide) ?_
    obtain ⟨kc, M1, n1, w, dm, M2, a1, a2, a3, a4, a5, a6, a7⟩ := op_decided (l := l) (D := D) (ar := ar) (b := b) (Z := Z) (n := n) hfl hT h (xs (4 * i + 1)) (xs (4 * i + 2))
    exact lc_decided hX hb0 hN31 hi hk hj a1 a2 a3 a4 a5 a6 (kk _ _ (hup a7))
  | 13, _ =>
    refine zx_tsw_in (tgt := 813) d_lw_39 (by decide) (by decide) rfl (by decide) ?_
    obtain ⟨kc, M1, n1, w, dm, M2, a1, a2, a3, a4, a5, a6, a7⟩ := op_read (l := l) (D := D) (ar := ar) (b := b) (Z := Z) (n := n) hfl hT hN hI hB h (xs (4 * i + 1)) (xs (4 * i + 2))
    exact lc_read hX hb0 hN31 hi hk hj a1 a2 a3 a4 a5 a6 (kk _ _ (hup a7))
  | 14, _ =>
    refine zx_tsw_in (tgt := 881) d_lw_39 (by decide) (by decide) rfl (by decide) ?_
    obtain ⟨kc, M1, n1, w, dm, M2, a1, a2, a3, a4, a5, a6, a7⟩ := op_readByte (l := l) (D := D) (ar := ar) (b := b) (Z := Z) (n := n) hfl hT h (xs (4 * i + 1))
    exact lc_readByte hX hb0 hN31 hi hk hj a1 a2 a3 a4 a5 a6 (kk _ _ (hup a7))
  | 15, _ =>
    refine zx_tsw_in (tgt := 937) d_lw_39 (by decide) (by decide) rfl (by decide) ?_
    obtain ⟨kc, M1, n1, w, dm, M2, a1, a2, a3, a4, a5, a6, a7⟩ := op_state (l := l) (D := D) (ar := ar) (b := b) (Z := Z) (n := n) hfl hT h (xs (4 * i + 1)) (xs (4 * i + 2))
    exact lc_state hX hb0 hN31 hi hk hj a1 a2 a3 a4 a5 a6 (kk _ _ (hup a7))
  | 16, _ =>
    refine zx_tsw_in (tgt := 1005) d_lw_39 (by decide) (by decide) rfl (by decide) ?_
    obtain ⟨kc, M1, n1, w, dm, M2, a1, a2, a3, a4, a5, a6, a7⟩ := op_station (l := l) (D := D) (ar := ar) (b := b) (Z := Z) (n := n) hfl hT h (xs (4 * i + 1)) (xs (4 * i + 2))
    exact lc_station hX hb0 hN31 hi hk hj a1 a2 a3 a4 a5 a6 (kk _ _ (hup a7))
  | 17, _ =>
    refine zx_tsw_in (tgt := 1073) d_lw_39 (by decide) (by decide) rfl (by decide) ?_
    obtain ⟨kc, M1, n1, w, dm, M2, a1, a2, a3, a4, a5, a6, a7⟩ := op_share (l := l) (D := D) (ar := ar) (b := b) (Z := Z) (n := n) hfl hT hB h (xs (4 * i + 1)) (xs (4 * i + 2)) (xs (4 * i + 3))
    exact lc_share hX hb0 hN31 hi hk hj a1 a2 a3 a4 a5 a6 (kk _ _ (hup a7))
  | q + 18, hq =>
    refine zx_tsw_out (tgt := 1153) d_lw_39 (Or.inr ?_) (by decide) ?_
    · rw [show (nI (q + 18)).toInt = ((q + 18 : Nat) : Int) from Int32.toInt_ofNat_of_lt (by omega)]
      omega
    · exact zx_widen (by omega) (by omega) (kk _ _ (hup h))
theorem lw_loop (hfl : l.flags = pinnedFlags ++ [noTraceFlag]) (hT : zt_ok Z) (hN : zt_nc Z) (hI : ∀ U, Z U → zs_I b t U) (hX : ∀ U, Z U → va_X b0 N xs U U.heap) (hb0 : b0 < b) (hN2 : N ≤ 2048) (hk : K0 + 512 ≤ 601024) (hj : J0 + 6 * 512 ≤ 7293034) (kret : ∀ i M n, zX (zn_G l D ar b Z) y_lw room_1 F 1159 (lw_L b0 b i none none) [] (zm_h b ar zl M) n 601024 7293034) : ∀ d i M n, i + d = N / 4 → iv (3 + 2 * i) M → zX (zn_G l D ar b Z) y_lw room_1 F 23 (lw_L b0 b i none none) [] (zm_h b ar zl M) n (K0 + i) (J0 + 6 * i) := by
  intro d
  induction d with
  | zero =>
    intro i M n hid h
    refine zx_iload (pc2 := 25) d_lw_23 rfl rfl ?_
    refine zx_aload_n (pc2 := 26) d_lw_25 rfl rfl ?_
    refine zx_slen (pc2 := 27) d_lw_26 rfl (fun U hU => hX U hU.2) hb0 ?_
    refine zx_iconst (pc2 := 28) (v := nI 4) d_lw_27 rfl (by decide) ?_
    refine zx_isub (pc2 := 29) d_lw_28 rfl ?_
    refine zx_icmp_gt (pc2 := 32) (tgt := 1159) d_lw_29 rfl (by decide) (fun _ => ?_) (fun cz => absurd ((sub4 hN2 (by omega)).mpr (by omega)) cz)
    exact zx_widen (by omega) (by omega) (kret _ _ _)
  | succ d ih =>
    intro i M n hid h
    refine zx_iload (pc2 := 25) d_lw_23 rfl rfl ?_
    refine zx_aload_n (pc2 := 26) d_lw_25 rfl rfl ?_
    refine zx_slen (pc2 := 27) d_lw_26 rfl (fun U hU => hX U hU.2) hb0 ?_
    refine zx_iconst (pc2 := 28) (v := nI 4) d_lw_27 rfl (by decide) ?_
    refine zx_isub (pc2 := 29) d_lw_28 rfl ?_
    refine zx_icmp_gt (pc2 := 32) (tgt := 1159) d_lw_29 rfl (by decide) (fun cz => absurd ((sub4 hN2 (by omega)).mp cz) (by omega)) (fun _ => ?_)
    refine lw_turn hfl hT hN hI hX hb0 (by omega) (by omega) (by omega) (by omega) (by omega) h (fun M2 n2 h2 => ?_)
    refine zx_iinc (pc2 := 1156) (v := nI (4 * (i + 1))) d_lw_1153 rfl rfl ?_ (by decide) ?_
    · rw [show (4 * (i + 1)) = 4 * i + 4 by omega, ← nI_add]
      rfl
    refine zx_goto (tgt := 23) d_lw_1156 (by decide) ?_
    exact ih (i + 1) M2 n2 (by omega) h2
end CE0
