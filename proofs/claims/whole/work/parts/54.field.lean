/-! LogHouseModel: the field, shares -/
def gt_pwT : List Nat := [1, 3, 5, 15, 17, 51, 85, 255, 26, 46, 114, 150, 161, 248, 19, 53, 95, 225, 56, 72, 216, 115, 149, 164, 247, 2, 6, 10, 30, 34, 102, 170, 229, 52, 92, 228, 55, 89, 235, 38, 106, 190, 217, 112, 144, 171, 230, 49, 83, 245, 4, 12, 20, 60, 68, 204, 79, 209, 104, 184, 211, 110, 178, 205, 76, 212, 103, 169, 224, 59, 77, 215, 98, 166, 241, 8, 24, 40, 120, 136, 131, 158, 185, 208, 107, 189, 220, 127, 129, 152, 179, 206, 73, 219, 118, 154, 181, 196, 87, 249, 16, 48, 80, 240, 11, 29, 39, 105, 187, 214, 97, 163, 254, 25, 43, 125, 135, 146, 173, 236, 47, 113, 147, 174, 233, 32, 96, 160, 251, 22, 58, 78, 210, 109, 183, 194, 93, 231, 50, 86, 250, 21, 63, 65, 195, 94, 226, 61, 71, 201, 64, 192, 91, 237, 44, 116, 156, 191, 218, 117, 159, 186, 213, 100, 172, 239, 42, 126, 130, 157, 188, 223, 122, 142, 137, 128, 155, 182, 193, 88, 232, 35, 101, 175, 234, 37, 111, 177, 200, 67, 197, 84, 252, 31, 33, 99, 165, 244, 7, 9, 27, 45, 119, 153, 176, 203, 70, 202, 69, 207, 74, 222, 121, 139, 134, 145, 168, 227, 62, 66, 198, 81, 243, 14, 18, 54, 90, 238, 41, 123, 141, 140, 143, 138, 133, 148, 167, 242, 13, 23, 57, 75, 221, 124, 132, 151, 162, 253, 28, 36, 108, 180, 199, 82, 246, 1, 3, 5, 15, 17, 51, 85, 255, 26, 46, 114, 150, 161, 248, 19, 53, 95, 225, 56, 72, 216, 115, 149, 164, 247, 2, 6, 10, 30, 34, 102, 170, 229, 52, 92, 228, 55, 89, 235, 38, 106, 190, 217, 112, 144, 171, 230, 49, 83, 245, 4, 12, 20, 60, 68, 204, 79, 209, 104, 184, 211, 110, 178, 205, 76, 212, 103, 169, 224, 59, 77, 215, 98, 166, 241, 8, 24, 40, 120, 136, 131, 158, 185, 208, 107, 189, 220, 127, 129, 152, 179, 206, 73, 219, 118, 154, 181, 196, 87, 249, 16, 48, 80, 240, 11, 29, 39, 105, 187, 214, 97, 163, 254, 25, 43, 125, 135, 146, 173, 236, 47, 113, 147, 174, 233, 32, 96, 160, 251, 22, 58, 78, 210, 109, 183, 194, 93, 231, 50, 86, 250, 21, 63, 65, 195, 94, 226, 61, 71, 201, 64, 192, 91, 237, 44, 116, 156, 191, 218, 117, 159, 186, 213, 100, 172, 239, 42, 126, 130, 157, 188, 223, 122, 142, 137, 128, 155, 182, 193, 88, 232, 35, 101, 175, 234, 37, 111, 177, 200, 67, 197, 84, 252, 31, 33, 99, 165, 244, 7, 9, 27, 45, 119, 153, 176, 203, 70, 202, 69, 207, 74, 222, 121, 139, 134, 145, 168, 227, 62, 66, 198, 81, 243, 14, 18, 54, 90, 238, 41, 123, 141, 140, 143, 138, 133, 148, 167, 242, 13, 23, 57, 75, 221, 124, 132, 151, 162, 253, 28, 36, 108, 180, 199, 82, 246]
def gt_lgT : List Nat := [0, 0, 25, 1, 50, 2, 26, 198, 75, 199, 27, 104, 51, 238, 223, 3, 100, 4, 224, 14, 52, 141, 129, 239, 76, 113, 8, 200, 248, 105, 28, 193, 125, 194, 29, 181, 249, 185, 39, 106, 77, 228, 166, 114, 154, 201, 9, 120, 101, 47, 138, 5, 33, 15, 225, 36, 18, 240, 130, 69, 53, 147, 218, 142, 150, 143, 219, 189, 54, 208, 206, 148, 19, 92, 210, 241, 64, 70, 131, 56, 102, 221, 253, 48, 191, 6, 139, 98, 179, 37, 226, 152, 34, 136, 145, 16, 126, 110, 72, 195, 163, 182, 30, 66, 58, 107, 40, 84, 250, 133, 61, 186, 43, 121, 10, 21, 155, 159, 94, 202, 78, 212, 172, 229, 243, 115, 167, 87, 175, 88, 168, 80, 244, 234, 214, 116, 79, 174, 233, 213, 231, 230, 173, 232, 44, 215, 117, 122, 235, 22, 11, 245, 89, 203, 95, 176, 156, 169, 81, 160, 127, 12, 246, 111, 23, 196, 73, 236, 216, 67, 31, 45, 164, 118, 123, 183, 204, 187, 62, 90, 251, 96, 177, 134, 59, 82, 161, 108, 170, 85, 41, 157, 151, 178, 135, 144, 97, 190, 220, 252, 188, 149, 207, 205, 55, 63, 91, 209, 83, 57, 132, 60, 65, 162, 109, 71, 20, 42, 158, 93, 86, 242, 211, 171, 68, 17, 146, 217, 35, 32, 46, 137, 180, 124, 184, 38, 119, 153, 227, 165, 103, 74, 237, 222, 197, 49, 254, 24, 13, 99, 140, 128, 192, 247, 112, 7]
def gt_pw (k : Nat) : Nat := gt_pwT.getD k 0
def gt_lg (a : Nat) : Nat := gt_lgT.getD a 0
def gt_mul (a b : Nat) : Nat := if a = 0 ∨ b = 0 then 0 else gt_pw (gt_lg a + gt_lg b)
theorem gt_lg_lt : ∀ a, a < 256 → gt_lg a < 255 := by decide +kernel
theorem gt_pw_lt : ∀ k, k < 510 → gt_pw k < 256 := by decide +kernel
theorem gt_mul_lt {a b : Nat} (ha : a < 256) (hb : b < 256) : gt_mul a b < 256 := by
  unfold gt_mul
  split
  · decide
  · exact gt_pw_lt _ (by have := gt_lg_lt a ha; have := gt_lg_lt b hb; omega)
/-- the tables of the field stand -/
def gt_ok (M : zm_M) : Prop := (∀ k, k < 510 → zm_I M 564 k = nI (gt_pw k)) ∧ ∀ a, 1 ≤ a → a < 256 → zm_I M 565 a = nI (gt_lg a)
theorem nI_xor (a b : Nat) : nI a ^^^ nI b = nI (a ^^^ b) := by
  apply Int32.toBitVec_inj.mp
  show BitVec.ofNat 32 a ^^^ BitVec.ofNat 32 b = BitVec.ofNat 32 (a ^^^ b)
  exact BitVec.ofNat_xor.symm
theorem nI_ne {a b : Nat} (h : a ≠ b) (ha : a < 2 ^ 31) (hb : b < 2 ^ 31) : ¬ nI a = nI b := fun e => h (by
  have := congrArg Int32.toInt e
  rw [nI_toInt ha, nI_toInt hb] at this
  omega)
theorem gs_third_nI {c : Nat} (h : c < 2 ^ 30) : gs_third (nI c) = nI ((c + 2) / 3) := by
  unfold gs_third
  rw [nI_add, pk_div (by omega) (by decide) (by decide)]
def gs_bt (f : Nat → Nat) (len i k : Nat) : Nat := if (len + 2) / 3 * k + i < len then f ((len + 2) / 3 * k + i) else 0
def gs_shb (f : Nat → Nat) (len s i : Nat) : Nat := gt_mul (gt_mul (gt_mul 0 (s + 1) ^^^ gs_bt f len i 2) (s + 1) ^^^ gs_bt f len i 1) (s + 1) ^^^ gs_bt f len i 0
def gb_ok (M : zm_M) (ra at0 len : Nat) (f : Nat → Nat) : Prop := ∀ x, x < len → zm_I M ra (at0 + x) = nI (f x) ∧ f x < 256
theorem gx_xor {a b : Nat} (ha : a < 256) (hb : b < 256) : a ^^^ b < 256 := Nat.xor_lt_two_pow (n := 8) ha hb
section C54
variable {l : Launch} {D : va_G} {ar : Nat → ClassId} {b : Nat} {Z : State → Prop} {M : zm_M} {n : Nat}
theorem c_Mo_product {u v : Nat} (hT : gt_ok M) (hu : u < 256) (hv : v < 256) : zK l D ar b Z y_Mo_product 0 [.ref (b + 546), .int (nI u), .int (nI v)] M n (some (.int (nI (gt_mul u v)))) M := by
  have hlu := gt_lg_lt u hu
  have hlv := gt_lg_lt v hv
  refine zk_entry (L := [some (.ref (b + 546)), some (.int (nI u)), some (.int (nI v))]) rfl rfl (Nat.le_of_ble_eq_true rfl) rfl rfl ?_
  by_cases c : u = 0
  · subst c
    refine zx_iload_n (pc2 := 1) d_Mo_product_0 rfl rfl ?_
    refine zx_if_eq (pc2 := 4) d_Mo_product_1 rfl (tgt := 8) (by decide) (fun _ => ?_) (fun cz => absurd (rfl) cz)
    refine zx_iconst (pc2 := 9) (v := nI 0) d_Mo_product_8 rfl (by decide) ?_
    refine zx_goto (tgt := 30) d_Mo_product_9 (by decide) ?_
    exact zx_iret d_Mo_product_30 rfl (⟨rfl, rfl, rfl⟩)
  · by_cases c2 : v = 0
    · subst c2
      rw [show gt_mul u 0 = 0 from if_pos (Or.inr rfl)]
      refine zx_iload_n (pc2 := 1) d_Mo_product_0 rfl rfl ?_
      refine zx_if_eq (pc2 := 4) d_Mo_product_1 rfl (tgt := 8) (by decide) (fun cz => absurd cz (nI_ne0 (by omega) (by omega))) (fun _ => ?_)
      refine zx_iload_n (pc2 := 5) d_Mo_product_4 rfl rfl ?_
      refine zx_if_ne (pc2 := 8) d_Mo_product_5 rfl (tgt := 12) (by decide) (fun cz => absurd (rfl) cz) (fun _ => ?_)
      refine zx_iconst (pc2 := 9) (v := nI 0) d_Mo_product_8 rfl (by decide) ?_
      refine zx_goto (tgt := 30) d_Mo_product_9 (by decide) ?_
      exact zx_iret d_Mo_product_30 rfl (⟨rfl, rfl, rfl⟩)
    · rw [show gt_mul u v = gt_pw (gt_lg u + gt_lg v) from if_neg (fun z => z.elim c c2)]
      refine zx_iload_n (pc2 := 1) d_Mo_product_0 rfl rfl ?_
      refine zx_if_eq (pc2 := 4) d_Mo_product_1 rfl (tgt := 8) (by decide) (fun cz => absurd cz (nI_ne0 (by omega) (by omega))) (fun _ => ?_)
      refine zx_iload_n (pc2 := 5) d_Mo_product_4 rfl rfl ?_
      refine zx_if_ne (pc2 := 8) d_Mo_product_5 rfl (tgt := 12) (by decide) (fun _ => ?_) (fun cz => absurd cz (nI_ne0 (by omega) (by omega)))
      refine zx_aload_n (pc2 := 13) d_Mo_product_12 rfl rfl ?_
      refine zm_getR (pc2 := 16) f_Mo_69 d_Mo_product_13 rfl zl_c546 rfl ?_
      refine zx_aload_n (pc2 := 17) d_Mo_product_16 rfl rfl ?_
      refine zm_getR (pc2 := 20) f_Mo_72 d_Mo_product_17 rfl zl_c546 rfl ?_
      refine zx_iload_n (pc2 := 21) d_Mo_product_20 rfl rfl ?_
      refine zk_ialdV (pc2 := 22) d_Mo_product_21 rfl (by rfl) rfl (by omega) (by decide) (hT.2 u (by omega) hu) ?_
      refine zx_aload_n (pc2 := 23) d_Mo_product_22 rfl rfl ?_
      refine zm_getR (pc2 := 26) f_Mo_72 d_Mo_product_23 rfl zl_c546 rfl ?_
      refine zx_iload_n (pc2 := 27) d_Mo_product_26 rfl rfl ?_
      refine zk_ialdV (pc2 := 28) d_Mo_product_27 rfl (by rfl) rfl (by omega) (by decide) (hT.2 v (by omega) hv) ?_
      first | refine zx_iaddN (pc2 := 29) d_Mo_product_28 rfl ?_ | refine zx_iadd (pc2 := 29) d_Mo_product_28 rfl ?_
      refine zk_ialdV (pc2 := 30) d_Mo_product_29 rfl (by rfl) rfl (by omega) (by decide) (hT.1 _ (by omega)) ?_
      exact zx_iret d_Mo_product_30 rfl (⟨rfl, rfl, rfl⟩)
theorem c_Mo_shareByte {ra N at0 len s i : Nat} {f : Nat → Nat} (hT : gt_ok M) (hl : zl ra = some (.inl (0, N, 0, 0))) (hN : N < 1000) (hlen : len ≤ 24) (hat : at0 + len ≤ N) (hs : s < 7) (hi : i < 8) (hb : gb_ok M ra at0 len f) : zK l D ar b Z y_Mo_shareByte 1 [.ref (b + 546), .ref (b + ra), .int (nI at0), .int (nI len), .int (nI s), .int (nI i)] M n (some (.int (nI (gs_shb f len s i)))) M := by
  have h3 := c_Mo_third (l := l) (D := D) (ar := ar) (b := b) (Z := Z) (M := M) (n := n) (x := nI len)
  rw [gs_third_nI (by omega)] at h3
  have hbt : ∀ k, gs_bt f len i k < 256 := by
    intro k
    unfold gs_bt
    split
    · rename_i c
      exact (hb _ c).2
    · decide
  refine zk_entry (L := [some (.ref (b + 546)), some (.ref (b + ra)), some (.int (nI at0)), some (.int (nI len)), some (.int (nI s)), some (.int (nI i)), none, none, none, none, none]) rfl rfl (Nat.le_of_ble_eq_true rfl) rfl rfl ?_
  have step : ∀ (k u : Nat) (w : Int32) (z9 : Option Value), k < 3 → u < 256 → nI k + Int32.ofInt (-1) = w → zk_X l D ar b Z y_Mo_shareByte 1 (some (.int (nI (gs_shb f len s i)))) M n 18 [some (.ref (b + 546)), some (.ref (b + ra)), some (.int (nI at0)), some (.int (nI len)), some (.int (nI s)), some (.int (nI i)), some (.int (nI ((len + 2) / 3))), some (.int (nI (s + 1))), some (.int (nI (gt_mul u (s + 1) ^^^ gs_bt f len i k))), some (.int w), some (.int (nI (gs_bt f len i k)))] [] M → zk_X l D ar b Z y_Mo_shareByte 1 (some (.int (nI (gs_shb f len s i)))) M n 18 [some (.ref (b + 546)), some (.ref (b + ra)), some (.int (nI at0)), some (.int (nI len)), some (.int (nI s)), some (.int (nI i)), some (.int (nI ((len + 2) / 3))), some (.int (nI (s + 1))), some (.int (nI u)), some (.int (nI k)), z9] [] M := by
    intro k u w z9 hk hu hw kk
    rw [← nI_xor] at kk
    have hkt : (len + 2) / 3 * k ≤ 16 := by
      have h1 : (len + 2) / 3 ≤ 8 := by omega
      have h2 := Nat.mul_le_mul h1 (show k ≤ 2 by omega)
      omega
    by_cases c : (len + 2) / 3 * k + i < len
    · have e : gs_bt f len i k = f ((len + 2) / 3 * k + i) := if_pos c
      refine zx_iload (pc2 := 20) d_Mo_shareByte_18 rfl rfl ?_
      refine zx_if_lt (pc2 := 23) d_Mo_shareByte_20 rfl (tgt := 72) (by decide) (fun cz => absurd cz (nI_pos (by omega))) (fun _ => ?_)
      refine zx_iload (pc2 := 25) d_Mo_shareByte_23 rfl rfl ?_
      refine zx_iload (pc2 := 27) d_Mo_shareByte_25 rfl rfl ?_
      first | refine zx_imulN (pc2 := 28) d_Mo_shareByte_27 rfl ?_ | refine zx_imul (pc2 := 28) d_Mo_shareByte_27 rfl ?_
      refine zx_iload (pc2 := 30) d_Mo_shareByte_28 rfl rfl ?_
      first | refine zx_iaddN (pc2 := 31) d_Mo_shareByte_30 rfl ?_ | refine zx_iadd (pc2 := 31) d_Mo_shareByte_30 rfl ?_
      refine zx_iload_n (pc2 := 32) d_Mo_shareByte_31 rfl rfl ?_
      refine zx_icmp_ge (pc2 := 35) d_Mo_shareByte_32 rfl (tgt := 50) (by decide) (fun cz => absurd cz (nI_ge c (by omega))) (fun _ => ?_)
      refine zx_aload_n (pc2 := 36) d_Mo_shareByte_35 rfl rfl ?_
      refine zx_iload_n (pc2 := 37) d_Mo_shareByte_36 rfl rfl ?_
      refine zx_iload (pc2 := 39) d_Mo_shareByte_37 rfl rfl ?_
      refine zx_iload (pc2 := 41) d_Mo_shareByte_39 rfl rfl ?_
      first | refine zx_imulN (pc2 := 42) d_Mo_shareByte_41 rfl ?_ | refine zx_imul (pc2 := 42) d_Mo_shareByte_41 rfl ?_
      first | refine zx_iaddN (pc2 := 43) d_Mo_shareByte_42 rfl ?_ | refine zx_iadd (pc2 := 43) d_Mo_shareByte_42 rfl ?_
      refine zx_iload (pc2 := 45) d_Mo_shareByte_43 rfl rfl ?_
      first | refine zx_iaddN (pc2 := 46) d_Mo_shareByte_45 rfl ?_ | refine zx_iadd (pc2 := 46) d_Mo_shareByte_45 rfl ?_
      refine zk_ialdV (pc2 := 47) d_Mo_shareByte_46 rfl hl (Eq.refl (nI (at0 + (len + 2) / 3 * k + i))) (by omega) (by omega) ((by rw [e, Nat.add_assoc]; exact (hb _ c).1) : zm_I M ra (at0 + (len + 2) / 3 * k + i) = nI (gs_bt f len i k)) ?_
      refine zx_goto (tgt := 51) d_Mo_shareByte_47 (by decide) ?_
      refine zx_ist10 (pc2 := 53) d_Mo_shareByte_51 rfl rfl (by decide) ?_
      refine zx_aload_n (pc2 := 54) d_Mo_shareByte_53 rfl rfl ?_
      refine zx_iload (pc2 := 56) d_Mo_shareByte_54 rfl rfl ?_
      refine zx_iload (pc2 := 58) d_Mo_shareByte_56 rfl rfl ?_
      refine zk_callV (pc2 := 61) s_Mo_104 v_Mo_product (zl_c546) (c_Mo_product hT hu (by omega)) d_Mo_shareByte_58 rfl rfl rfl (Nat.le_of_ble_eq_true rfl) (by decide) (by decide) ?_
      refine zx_iload (pc2 := 63) d_Mo_shareByte_61 rfl rfl ?_
      refine zx_ixor (pc2 := 64) d_Mo_shareByte_63 rfl ?_
      refine zx_ist8 (pc2 := 66) d_Mo_shareByte_64 rfl rfl (by decide) ?_
      refine zx_inc9 (pc2 := 69) (x := nI k) (v := w) d_Mo_shareByte_66 rfl (hw) rfl (by decide) ?_
      refine zx_goto (tgt := 18) d_Mo_shareByte_69 (by decide) ?_
      exact kk
    · have e : gs_bt f len i k = 0 := if_neg c
      rw [e] at kk
      refine zx_iload (pc2 := 20) d_Mo_shareByte_18 rfl rfl ?_
      refine zx_if_lt (pc2 := 23) d_Mo_shareByte_20 rfl (tgt := 72) (by decide) (fun cz => absurd cz (nI_pos (by omega))) (fun _ => ?_)
      refine zx_iload (pc2 := 25) d_Mo_shareByte_23 rfl rfl ?_
      refine zx_iload (pc2 := 27) d_Mo_shareByte_25 rfl rfl ?_
      first | refine zx_imulN (pc2 := 28) d_Mo_shareByte_27 rfl ?_ | refine zx_imul (pc2 := 28) d_Mo_shareByte_27 rfl ?_
      refine zx_iload (pc2 := 30) d_Mo_shareByte_28 rfl rfl ?_
      first | refine zx_iaddN (pc2 := 31) d_Mo_shareByte_30 rfl ?_ | refine zx_iadd (pc2 := 31) d_Mo_shareByte_30 rfl ?_
      refine zx_iload_n (pc2 := 32) d_Mo_shareByte_31 rfl rfl ?_
      refine zx_icmp_ge (pc2 := 35) d_Mo_shareByte_32 rfl (tgt := 50) (by decide) (fun _ => ?_) (fun cz => absurd (nI_le (by omega) (by omega)) cz)
      refine zx_iconst (pc2 := 51) (v := nI 0) d_Mo_shareByte_50 rfl (by decide) ?_
      refine zx_ist10 (pc2 := 53) d_Mo_shareByte_51 rfl rfl (by decide) ?_
      refine zx_aload_n (pc2 := 54) d_Mo_shareByte_53 rfl rfl ?_
      refine zx_iload (pc2 := 56) d_Mo_shareByte_54 rfl rfl ?_
      refine zx_iload (pc2 := 58) d_Mo_shareByte_56 rfl rfl ?_
      refine zk_callV (pc2 := 61) s_Mo_104 v_Mo_product (zl_c546) (c_Mo_product hT hu (by omega)) d_Mo_shareByte_58 rfl rfl rfl (Nat.le_of_ble_eq_true rfl) (by decide) (by decide) ?_
      refine zx_iload (pc2 := 63) d_Mo_shareByte_61 rfl rfl ?_
      refine zx_ixor (pc2 := 64) d_Mo_shareByte_63 rfl ?_
      refine zx_ist8 (pc2 := 66) d_Mo_shareByte_64 rfl rfl (by decide) ?_
      refine zx_inc9 (pc2 := 69) (x := nI k) (v := w) d_Mo_shareByte_66 rfl (hw) rfl (by decide) ?_
      refine zx_goto (tgt := 18) d_Mo_shareByte_69 (by decide) ?_
      exact kk
  refine zx_iload_n (pc2 := 1) d_Mo_shareByte_0 rfl rfl ?_
  refine zk_callS (pc2 := 4) s_Mo_100 t_Mo_third (h3) d_Mo_shareByte_1 rfl rfl rfl (Nat.le_of_ble_eq_true rfl) (by decide) (by decide) ?_
  refine zx_ist6 (pc2 := 6) d_Mo_shareByte_4 rfl rfl (by decide) ?_
  refine zx_iload (pc2 := 8) d_Mo_shareByte_6 rfl rfl ?_
  refine zx_iconst (pc2 := 9) (v := nI 1) d_Mo_shareByte_8 rfl (by decide) ?_
  first | refine zx_iaddN (pc2 := 10) d_Mo_shareByte_9 rfl ?_ | refine zx_iadd (pc2 := 10) d_Mo_shareByte_9 rfl ?_
  refine zx_ist7 (pc2 := 12) d_Mo_shareByte_10 rfl rfl (by decide) ?_
  refine zx_iconst (pc2 := 13) (v := nI 0) d_Mo_shareByte_12 rfl (by decide) ?_
  refine zx_ist8 (pc2 := 15) d_Mo_shareByte_13 rfl rfl (by decide) ?_
  refine zx_iconst (pc2 := 16) (v := nI 2) d_Mo_shareByte_15 rfl (by decide) ?_
  refine zx_ist9 (pc2 := 18) d_Mo_shareByte_16 rfl rfl (by decide) ?_
  have hm : ∀ {u : Nat} (k : Nat), u < 256 → gt_mul u (s + 1) ^^^ gs_bt f len i k < 256 := fun k hu => gx_xor (gt_mul_lt hu (by omega)) (hbt k)
  refine step 2 0 (nI 1) none (by decide) (by decide) (by decide) ?_
  refine step 1 _ (nI 0) _ (by decide) (hm 2 (by decide)) (by decide) ?_
  refine step 0 _ (-1) _ (by decide) (hm 1 (hm 2 (by decide))) (by decide) ?_
  refine zx_iload (pc2 := 20) d_Mo_shareByte_18 rfl rfl ?_
  refine zx_if_lt (pc2 := 23) d_Mo_shareByte_20 rfl (tgt := 72) (by decide) (fun _ => ?_) (fun cz => absurd (by decide) cz)
  refine zx_iload (pc2 := 74) d_Mo_shareByte_72 rfl rfl ?_
  exact zx_iret d_Mo_shareByte_74 rfl (⟨rfl, rfl, rfl⟩)
end C54
