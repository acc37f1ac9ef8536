/-! LogHouseModel: rules with numbers, the small methods -/
theorem nI_mul (a b : Nat) : nI a * nI b = nI (a * b) := (Int32.ofNat_mul a b).symm
theorem nI_subN {a b : Nat} (h : b ≤ a) : nI a - nI b = nI (a - b) := by
  have h1 : nI a = nI (a - b) + nI b := by rw [nI_add, Nat.sub_add_cancel h]
  rw [h1, Int32.add_sub_cancel]
section ZMO
variable {G : zx_G} {l : Launch} {D : va_G} {ar : Nat → ClassId} {b0 : Nat} {Z : State → Prop} {y : zx_Y} {R : Room} {F : List Frame → Array Value → State → State → Prop} {pc pc2 : Nat} {L : zx_L} {st : List Value} {h : zx_H} {M : zm_M} {n k j r N s0 d0 : Nat}
theorem zx_iaddN {a b : Nat} (d : decode y.2.1 pc = .ok (.iadd, 1)) (e0 : pc + 1 = pc2) (kk : zX G y R F pc2 L (.int (nI (a + b)) :: st) h n k j) : zX G y R F pc L (.int (nI b) :: .int (nI a) :: st) h n k j := zx_iadd d e0 (by rw [nI_add]; exact kk)
theorem zx_imulN {a b : Nat} (d : decode y.2.1 pc = .ok (.imul, 1)) (e0 : pc + 1 = pc2) (kk : zX G y R F pc2 L (.int (nI (a * b)) :: st) h n k j) : zX G y R F pc L (.int (nI b) :: .int (nI a) :: st) h n k j := zx_imul d e0 (by rw [nI_mul]; exact kk)
theorem zx_isubN {a b : Nat} (d : decode y.2.1 pc = .ok (.isub, 1)) (e0 : pc + 1 = pc2) (hle : b ≤ a) (kk : zX G y R F pc2 L (.int (nI (a - b)) :: st) h n k j) : zX G y R F pc L (.int (nI b) :: .int (nI a) :: st) h n k j := zx_isub d e0 (by rw [nI_subN hle]; exact kk)
theorem zm_getV {ix ci i0 : Nat} {fk : List (Option (Option Nat))} {v : Int32} (f : zx_fr (zn_G l D ar b0 Z) y.1.cls ix ci i0) (d : decode y.2.1 pc = .ok (.getfield ix, 3)) (e0 : pc + 3 = pc2) (hl : zl r = some (.inr (ci, fk))) (hk : fk[i0]? = some none) (hv : zm_I M r i0 = v) (kk : zX (zn_G l D ar b0 Z) y R F pc2 L (.int v :: st) (zm_h b0 ar zl M) n k j) : zX (zn_G l D ar b0 Z) y R F pc L (.ref (b0 + r) :: st) (zm_h b0 ar zl M) n k j := by
  subst hv
  exact zm_getI f d e0 hl hk kk
theorem zk_ialdV {i v : Int32} {q : Nat} (dd : decode y.2.1 pc = .ok (.iaload, 1)) (e0 : pc + 1 = pc2) (hl : zl r = some (.inl (0, N, s0, d0))) (hq : i = nI q) (hlt : q < N) (hN : N < 2 ^ 31) (hv : zm_I M r q = v) (kk : zX (zn_G l D ar b0 Z) y R F pc2 L (.int v :: st) (zm_h b0 ar zl M) n k j) : zX (zn_G l D ar b0 Z) y R F pc L (.int i :: .ref (b0 + r) :: st) (zm_h b0 ar zl M) n k j := by
  subst hv
  exact zk_iald dd e0 hl hq hlt hN kk
theorem zk_zaldV {i v : Int32} {q : Nat} (dd : decode y.2.1 pc = .ok (.baload, 1)) (e0 : pc + 1 = pc2) (hl : zl r = some (.inl (3, N, s0, d0))) (hq : i = nI q) (hlt : q < N) (hN : N < 2 ^ 31) (hv : zm_I M r q = v) (kk : zX (zn_G l D ar b0 Z) y R F pc2 L (.int v :: st) (zm_h b0 ar zl M) n k j) : zX (zn_G l D ar b0 Z) y R F pc L (.int i :: .ref (b0 + r) :: st) (zm_h b0 ar zl M) n k j := by
  subst hv
  exact zk_zald dd e0 hl hq hlt hN kk
end ZMO
section C50
variable {l : Launch} {D : va_G} {ar : Nat → ClassId} {b : Nat} {Z : State → Prop} {M : zm_M} {n : Nat}
theorem c_Mo_thrown : zK l D ar b Z y_Mo_thrown 0 [.ref (b + 546)] M n (some (.int (zm_I M 546 0))) M := by
  refine zk_entry (L := [some (.ref (b + 546))]) rfl rfl (Nat.le_of_ble_eq_true rfl) rfl rfl ?_
  refine zx_aload_n (pc2 := 1) d_Mo_thrown_0 rfl rfl ?_
  refine zm_getI (pc2 := 4) f_Mo_7 d_Mo_thrown_1 rfl zl_c546 rfl ?_
  exact zx_iret d_Mo_thrown_4 rfl (⟨rfl, rfl, rfl⟩)
theorem c_Mo_noProposer {x : Int32} : zK l D ar b Z y_Mo_noProposer 0 [.int x] M n (some (.int (if x < 0 ∨ ¬ x ≤ nI 1 then nI 1 else nI 0))) M := by
  refine zk_entry (L := [some (.int x)]) rfl rfl (Nat.le_of_ble_eq_true rfl) rfl rfl ?_
  refine zx_iload_n (pc2 := 1) d_Mo_noProposer_0 rfl rfl ?_
  refine zx_if_lt (pc2 := 4) d_Mo_noProposer_1 rfl (tgt := 9) (by decide) (fun c => ?_) (fun c => ?_)
  · rw [if_pos (Or.inl c)]
    refine zx_iconst (pc2 := 10) (v := nI 1) d_Mo_noProposer_9 rfl (by decide) ?_
    refine zx_goto (tgt := 14) d_Mo_noProposer_10 (by decide) ?_
    exact zx_zret d_Mo_noProposer_14 rfl rfl (⟨rfl, rfl, rfl⟩)
  · refine zx_iload_n (pc2 := 5) d_Mo_noProposer_4 rfl rfl ?_
    refine zx_iconst (pc2 := 6) (v := nI 1) d_Mo_noProposer_5 rfl (by decide) ?_
    refine zx_icmp_le (pc2 := 9) d_Mo_noProposer_6 rfl (tgt := 13) (by decide) (fun c2 => ?_) (fun c2 => ?_)
    · rw [if_neg (fun z => z.elim c (fun q => q c2))]
      refine zx_iconst (pc2 := 14) (v := nI 0) d_Mo_noProposer_13 rfl (by decide) ?_
      exact zx_zret d_Mo_noProposer_14 rfl rfl (⟨rfl, rfl, rfl⟩)
    · rw [if_pos (Or.inr c2)]
      refine zx_iconst (pc2 := 10) (v := nI 1) d_Mo_noProposer_9 rfl (by decide) ?_
      refine zx_goto (tgt := 14) d_Mo_noProposer_10 (by decide) ?_
      exact zx_zret d_Mo_noProposer_14 rfl rfl (⟨rfl, rfl, rfl⟩)
theorem c_Mo_noStation {x : Int32} : zK l D ar b Z y_Mo_noStation 0 [.int x] M n (some (.int (if x < 0 ∨ ¬ x ≤ nI 6 then nI 1 else nI 0))) M := by
  refine zk_entry (L := [some (.int x)]) rfl rfl (Nat.le_of_ble_eq_true rfl) rfl rfl ?_
  refine zx_iload_n (pc2 := 1) d_Mo_noStation_0 rfl rfl ?_
  refine zx_if_lt (pc2 := 4) d_Mo_noStation_1 rfl (tgt := 10) (by decide) (fun c => ?_) (fun c => ?_)
  · rw [if_pos (Or.inl c)]
    refine zx_iconst (pc2 := 11) (v := nI 1) d_Mo_noStation_10 rfl (by decide) ?_
    refine zx_goto (tgt := 15) d_Mo_noStation_11 (by decide) ?_
    exact zx_zret d_Mo_noStation_15 rfl rfl (⟨rfl, rfl, rfl⟩)
  · refine zx_iload_n (pc2 := 5) d_Mo_noStation_4 rfl rfl ?_
    refine zx_bipush (pc2 := 7) (v := nI 6) d_Mo_noStation_5 rfl (by decide) ?_
    refine zx_icmp_le (pc2 := 10) d_Mo_noStation_7 rfl (tgt := 14) (by decide) (fun c2 => ?_) (fun c2 => ?_)
    · rw [if_neg (fun z => z.elim c (fun q => q c2))]
      refine zx_iconst (pc2 := 15) (v := nI 0) d_Mo_noStation_14 rfl (by decide) ?_
      exact zx_zret d_Mo_noStation_15 rfl rfl (⟨rfl, rfl, rfl⟩)
    · rw [if_pos (Or.inr c2)]
      refine zx_iconst (pc2 := 11) (v := nI 1) d_Mo_noStation_10 rfl (by decide) ?_
      refine zx_goto (tgt := 15) d_Mo_noStation_11 (by decide) ?_
      exact zx_zret d_Mo_noStation_15 rfl rfl (⟨rfl, rfl, rfl⟩)
def gm_l4 (M : zm_M) (c : Nat) (k s p bl : Int32) : zm_M := zm_wI (zm_wI (zm_wI (zm_wI (zm_wI (zm_wI (zm_wI M 551 (7 * c) k) 551 (7 * c + 1) s) 551 (7 * c + 2) p) 551 (7 * c + 3) bl) 551 (7 * c + 4) (-1)) 551 (7 * c + 5) (-1)) 546 5 (nI (c + 1))
theorem c_Mo_letter4 {c : Nat} {k s p bl : Int32} (hc : zm_I M 546 5 = nI c) (h60 : c < 60) : zK l D ar b Z y_Mo_letter4 0 [.ref (b + 546), .int k, .int s, .int p, .int bl] M n (some (.int (nI 1))) (gm_l4 M c k s p bl) := by
  refine zk_entry (L := [some (.ref (b + 546)), some (.int k), some (.int s), some (.int p), some (.int bl), none]) rfl rfl (Nat.le_of_ble_eq_true rfl) rfl rfl ?_
  refine zx_aload_n (pc2 := 1) d_Mo_letter4_0 rfl rfl ?_
  refine zm_getV (pc2 := 4) f_Mo_27 d_Mo_letter4_1 rfl zl_c546 rfl (hc) ?_
  refine zx_bipush (pc2 := 6) (v := nI 60) d_Mo_letter4_4 rfl (by decide) ?_
  refine zx_icmp_ne (pc2 := 9) d_Mo_letter4_6 rfl (tgt := 11) (by decide) (fun _ => ?_) (fun cz => absurd cz (fun e => absurd (congrArg Int32.toInt e) (by rw [nI_toInt (by omega), nI_toInt (by decide)]; omega)))
  refine zx_bipush (pc2 := 13) (v := nI 7) d_Mo_letter4_11 rfl (by decide) ?_
  refine zx_aload_n (pc2 := 14) d_Mo_letter4_13 rfl rfl ?_
  refine zm_getV (pc2 := 17) f_Mo_27 d_Mo_letter4_14 rfl zl_c546 rfl (hc) ?_
  first | refine zx_imulN (pc2 := 18) d_Mo_letter4_17 rfl ?_ | refine zx_imul (pc2 := 18) d_Mo_letter4_17 rfl ?_
  refine zx_ist5 (pc2 := 20) d_Mo_letter4_18 rfl rfl (by decide) ?_
  refine zx_aload_n (pc2 := 21) d_Mo_letter4_20 rfl rfl ?_
  refine zm_getR (pc2 := 24) f_Mo_30 d_Mo_letter4_21 rfl zl_c546 rfl ?_
  refine zx_iload (pc2 := 26) d_Mo_letter4_24 rfl rfl ?_
  refine zx_iload_n (pc2 := 27) d_Mo_letter4_26 rfl rfl ?_
  refine zk_iast (pc2 := 28) d_Mo_letter4_27 rfl (by rfl) rfl (by omega) (by decide) ?_
  refine zx_aload_n (pc2 := 29) d_Mo_letter4_28 rfl rfl ?_
  refine zm_getR (pc2 := 32) f_Mo_30 d_Mo_letter4_29 rfl zl_c546 rfl ?_
  refine zx_iload (pc2 := 34) d_Mo_letter4_32 rfl rfl ?_
  refine zx_iconst (pc2 := 35) (v := nI 1) d_Mo_letter4_34 rfl (by decide) ?_
  first | refine zx_iaddN (pc2 := 36) d_Mo_letter4_35 rfl ?_ | refine zx_iadd (pc2 := 36) d_Mo_letter4_35 rfl ?_
  refine zx_iload_n (pc2 := 37) d_Mo_letter4_36 rfl rfl ?_
  refine zk_iast (pc2 := 38) d_Mo_letter4_37 rfl (by rfl) rfl (by omega) (by decide) ?_
  refine zx_aload_n (pc2 := 39) d_Mo_letter4_38 rfl rfl ?_
  refine zm_getR (pc2 := 42) f_Mo_30 d_Mo_letter4_39 rfl zl_c546 rfl ?_
  refine zx_iload (pc2 := 44) d_Mo_letter4_42 rfl rfl ?_
  refine zx_iconst (pc2 := 45) (v := nI 2) d_Mo_letter4_44 rfl (by decide) ?_
  first | refine zx_iaddN (pc2 := 46) d_Mo_letter4_45 rfl ?_ | refine zx_iadd (pc2 := 46) d_Mo_letter4_45 rfl ?_
  refine zx_iload_n (pc2 := 47) d_Mo_letter4_46 rfl rfl ?_
  refine zk_iast (pc2 := 48) d_Mo_letter4_47 rfl (by rfl) rfl (by omega) (by decide) ?_
  refine zx_aload_n (pc2 := 49) d_Mo_letter4_48 rfl rfl ?_
  refine zm_getR (pc2 := 52) f_Mo_30 d_Mo_letter4_49 rfl zl_c546 rfl ?_
  refine zx_iload (pc2 := 54) d_Mo_letter4_52 rfl rfl ?_
  refine zx_iconst (pc2 := 55) (v := nI 3) d_Mo_letter4_54 rfl (by decide) ?_
  first | refine zx_iaddN (pc2 := 56) d_Mo_letter4_55 rfl ?_ | refine zx_iadd (pc2 := 56) d_Mo_letter4_55 rfl ?_
  refine zx_iload (pc2 := 58) d_Mo_letter4_56 rfl rfl ?_
  refine zk_iast (pc2 := 59) d_Mo_letter4_58 rfl (by rfl) rfl (by omega) (by decide) ?_
  refine zx_aload_n (pc2 := 60) d_Mo_letter4_59 rfl rfl ?_
  refine zm_getR (pc2 := 63) f_Mo_30 d_Mo_letter4_60 rfl zl_c546 rfl ?_
  refine zx_iload (pc2 := 65) d_Mo_letter4_63 rfl rfl ?_
  refine zx_iconst (pc2 := 66) (v := nI 4) d_Mo_letter4_65 rfl (by decide) ?_
  first | refine zx_iaddN (pc2 := 67) d_Mo_letter4_66 rfl ?_ | refine zx_iadd (pc2 := 67) d_Mo_letter4_66 rfl ?_
  refine zx_iconst (pc2 := 68) (v := -1) d_Mo_letter4_67 rfl (by decide) ?_
  refine zk_iast (pc2 := 69) d_Mo_letter4_68 rfl (by rfl) rfl (by omega) (by decide) ?_
  refine zx_aload_n (pc2 := 70) d_Mo_letter4_69 rfl rfl ?_
  refine zm_getR (pc2 := 73) f_Mo_30 d_Mo_letter4_70 rfl zl_c546 rfl ?_
  refine zx_iload (pc2 := 75) d_Mo_letter4_73 rfl rfl ?_
  refine zx_iconst (pc2 := 76) (v := nI 5) d_Mo_letter4_75 rfl (by decide) ?_
  first | refine zx_iaddN (pc2 := 77) d_Mo_letter4_76 rfl ?_ | refine zx_iadd (pc2 := 77) d_Mo_letter4_76 rfl ?_
  refine zx_iconst (pc2 := 78) (v := -1) d_Mo_letter4_77 rfl (by decide) ?_
  refine zk_iast (pc2 := 79) d_Mo_letter4_78 rfl (by rfl) rfl (by omega) (by decide) ?_
  refine zx_aload_n (pc2 := 80) d_Mo_letter4_79 rfl rfl ?_
  refine zx_dup (pc2 := 81) d_Mo_letter4_80 rfl rfl ?_
  refine zm_getV (pc2 := 84) f_Mo_27 d_Mo_letter4_81 rfl zl_c546 rfl (hc) ?_
  refine zx_iconst (pc2 := 85) (v := nI 1) d_Mo_letter4_84 rfl (by decide) ?_
  first | refine zx_iaddN (pc2 := 86) d_Mo_letter4_85 rfl ?_ | refine zx_iadd (pc2 := 86) d_Mo_letter4_85 rfl ?_
  refine zm_putI (pc2 := 89) p_Mo_27 d_Mo_letter4_86 rfl zl_c546 rfl rfl rfl ?_
  refine zx_iconst (pc2 := 90) (v := nI 1) d_Mo_letter4_89 rfl (by decide) ?_
  exact zx_zret d_Mo_letter4_90 rfl rfl (⟨rfl, rfl, rfl⟩)
theorem c_Mo_letter4F {k s p bl : Int32} (hc : zm_I M 546 5 = nI 60) : zK l D ar b Z y_Mo_letter4 0 [.ref (b + 546), .int k, .int s, .int p, .int bl] M n (some (.int (nI 0))) M := by
  refine zk_entry (L := [some (.ref (b + 546)), some (.int k), some (.int s), some (.int p), some (.int bl), none]) rfl rfl (Nat.le_of_ble_eq_true rfl) rfl rfl ?_
  refine zx_aload_n (pc2 := 1) d_Mo_letter4_0 rfl rfl ?_
  refine zm_getV (pc2 := 4) f_Mo_27 d_Mo_letter4_1 rfl zl_c546 rfl (hc) ?_
  refine zx_bipush (pc2 := 6) (v := nI 60) d_Mo_letter4_4 rfl (by decide) ?_
  refine zx_icmp_ne (pc2 := 9) d_Mo_letter4_6 rfl (tgt := 11) (by decide) (fun cz => absurd (rfl) cz) (fun _ => ?_)
  refine zx_iconst (pc2 := 10) (v := nI 0) d_Mo_letter4_9 rfl (by decide) ?_
  exact zx_zret d_Mo_letter4_10 rfl rfl (⟨rfl, rfl, rfl⟩)
end C50
