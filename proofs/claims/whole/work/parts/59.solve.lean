/-! LogHouseModel: solving, putting together -/
theorem zx_ixorN {G : zx_G} {y : zx_Y} {R : Room} {F : List Frame → Array Value → State → State → Prop} {pc pc2 : Nat} {L : zx_L} {st : List Value} {h : zx_H} {n k j a b : Nat} (d : decode y.2.1 pc = .ok (.ixor, 1)) (e0 : pc + 1 = pc2) (kk : zX G y R F pc2 L (.int (nI (a ^^^ b)) :: st) h n k j) : zX G y R F pc L (.int (nI b) :: .int (nI a) :: st) h n k j := zx_ixor d e0 (by rw [nI_xor]; exact kk)
def gt_inv (a : Nat) : Nat := gt_pw ((255 - gt_lg a) % 255)
theorem gt_inv_a : ∀ u, u < 8 → ∀ v, v < 8 → 1 ≤ u → 1 ≤ v → 1 ≤ gt_inv (gt_mul u v) ∧ gt_inv (gt_mul u v) < 256 ∧ gt_mul (gt_mul u v) (gt_inv (gt_mul u v)) = 1 := by decide +kernel
theorem gt_inv_b : ∀ u, u < 8 → ∀ v, v < 8 → 1 ≤ u → 1 ≤ v → ∀ x, x < gt_inv (gt_mul u v) → gt_mul (gt_mul u v) x ≠ 1 := by decide +kernel
theorem gt_fr2 {M M' : zm_M} (h : ∀ r x, r = 564 ∨ r = 565 → zm_I M' r x = zm_I M r x) (hT : gt_ok M) : gt_ok M' := ⟨fun k hk => (h 564 k (Or.inl rfl)).trans (hT.1 k hk), fun a h1 h2 => (h 565 a (Or.inr rfl)).trans (hT.2 a h1 h2)⟩
def gm_sv (M : zm_M) (A B C : Nat) : zm_M := zm_wI (zm_wI (zm_wI M 568 0 (nI A)) 568 1 (nI B)) 568 2 (nI C)
theorem gm_sv_n {M : zm_M} {A B C r x : Nat} (h : r ≠ 568) : zm_I (gm_sv M A B C) r x = zm_I M r x := by
  unfold gm_sv
  rw [zm_In (Or.inl h), zm_In (Or.inl h), zm_In (Or.inl h)]
theorem gm_sv_w {M : zm_M} {A B C A' B' C' : Nat} : zm_wI (zm_wI (zm_wI (gm_sv M A B C) 568 0 (nI A')) 568 1 (nI B')) 568 2 (nI C') = gm_sv M A' B' C' := by
  unfold gm_sv zm_wI zm_u
  refine Prod.ext ?_ rfl
  funext r x
  show (if r = 568 ∧ x = 2 then nI C' else if r = 568 ∧ x = 1 then nI B' else if r = 568 ∧ x = 0 then nI A' else if r = 568 ∧ x = 2 then nI C else if r = 568 ∧ x = 1 then nI B else if r = 568 ∧ x = 0 then nI A else M.1 r x) = if r = 568 ∧ x = 2 then nI C' else if r = 568 ∧ x = 1 then nI B' else if r = 568 ∧ x = 0 then nI A' else M.1 r x
  by_cases c2 : r = 568 ∧ x = 2
  · rw [if_pos c2, if_pos c2]
  · by_cases c1 : r = 568 ∧ x = 1
    · simp only [if_neg c2, if_pos c1]
    · by_cases c0 : r = 568 ∧ x = 0
      · simp only [if_neg c2, if_neg c1, if_pos c0]
      · simp only [if_neg c2, if_neg c1, if_neg c0]
/-- one of three points: what its value weighs -/
def gs_w (x p q v : Nat) : Nat := gt_mul v (gt_inv (gt_mul (x ^^^ p) (x ^^^ q)))
def gs_p0 (t0 t1 t2 v0 v1 v2 : Nat) : Nat := 0 ^^^ gt_mul (gs_w (t0 + 1) (t1 + 1) (t2 + 1) v0) (gt_mul (t1 + 1) (t2 + 1)) ^^^ gt_mul (gs_w (t1 + 1) (t2 + 1) (t0 + 1) v1) (gt_mul (t2 + 1) (t0 + 1)) ^^^ gt_mul (gs_w (t2 + 1) (t0 + 1) (t1 + 1) v2) (gt_mul (t0 + 1) (t1 + 1))
def gs_p1 (t0 t1 t2 v0 v1 v2 : Nat) : Nat := 0 ^^^ gt_mul (gs_w (t0 + 1) (t1 + 1) (t2 + 1) v0) ((t1 + 1) ^^^ (t2 + 1)) ^^^ gt_mul (gs_w (t1 + 1) (t2 + 1) (t0 + 1) v1) ((t2 + 1) ^^^ (t0 + 1)) ^^^ gt_mul (gs_w (t2 + 1) (t0 + 1) (t1 + 1) v2) ((t0 + 1) ^^^ (t1 + 1))
def gs_p2 (t0 t1 t2 v0 v1 v2 : Nat) : Nat := 0 ^^^ gs_w (t0 + 1) (t1 + 1) (t2 + 1) v0 ^^^ gs_w (t1 + 1) (t2 + 1) (t0 + 1) v1 ^^^ gs_w (t2 + 1) (t0 + 1) (t1 + 1) v2
theorem gx_p0 : ∀ x, x < 8 → ∀ p, p < 8 → (x = p ∨ (1 ≤ x ^^^ p ∧ x ^^^ p < 8)) := by decide +kernel
theorem gx_p (x : Nat) (hx : x < 8) (p : Nat) (hp : p < 8) (_ : 1 ≤ x) (_ : 1 ≤ p) (h : x ≠ p) : 1 ≤ x ^^^ p ∧ x ^^^ p < 8 := (gx_p0 x hx p hp).resolve_left h
section C59
variable {l : Launch} {D : va_G} {ar : Nat → ClassId} {b : Nat} {Z : State → Prop} {M : zm_M} {n : Nat}
theorem c_Mo_inverse {u v : Nat} (hT : gt_ok M) (hu : 1 ≤ u ∧ u < 8) (hv : 1 ≤ v ∧ v < 8) : zK l D ar b Z y_Mo_inverse 1 [.ref (b + 546), .int (nI (gt_mul u v))] M n (some (.int (nI (gt_inv (gt_mul u v))))) M := by
  obtain ⟨a1, a2, a3⟩ := gt_inv_a u hu.2 v hv.2 hu.1 hv.1
  have hb := gt_inv_b u hu.2 v hv.2 hu.1 hv.1
  have hlt : gt_mul u v < 256 := gt_mul_lt (by omega) (by omega)
  generalize gt_mul u v = a at a1 a2 a3 hb hlt
  refine zk_entry (L := [some (.ref (b + 546)), some (.int (nI a)), none]) rfl rfl (Nat.le_of_ble_eq_true rfl) rfl rfl ?_
  refine zx_iconst (pc2 := 1) (v := nI 1) d_Mo_inverse_0 rfl (by decide) ?_
  refine zx_ist2 (pc2 := 2) d_Mo_inverse_1 rfl rfl (by decide) ?_
  refine zx_for (X := fun i => zk_X l D ar b Z y_Mo_inverse 1 (some (.int (nI (gt_inv a)))) M n 2 [some (.ref (b + 546)), some (.int (nI a)), some (.int (nI (1 + i)))] [] M) (gt_inv a - 1) ?_ ?_ 0 (Nat.zero_le _)
  · rw [show 1 + (gt_inv a - 1) = gt_inv a by omega]
    refine zx_aload_n (pc2 := 3) d_Mo_inverse_2 rfl rfl ?_
    refine zx_iload_n (pc2 := 4) d_Mo_inverse_3 rfl rfl ?_
    refine zx_iload_n (pc2 := 5) d_Mo_inverse_4 rfl rfl ?_
    refine zk_callV (pc2 := 8) s_Mo_104 v_Mo_product (zl_c546) (c_Mo_product hT hlt a2) d_Mo_inverse_5 rfl rfl rfl (Nat.le_of_ble_eq_true rfl) (by decide) (by decide) ?_
    refine zx_iconst (pc2 := 9) (v := nI 1) d_Mo_inverse_8 rfl (by decide) ?_
    refine zx_icmp_eq (pc2 := 12) d_Mo_inverse_9 rfl (tgt := 18) (by decide) (fun _ => ?_) (fun cz => absurd (by rw [a3]) cz)
    refine zx_iload_n (pc2 := 19) d_Mo_inverse_18 rfl rfl ?_
    exact zx_iret d_Mo_inverse_19 rfl (⟨rfl, rfl, rfl⟩)
  · intro i hi ih
    refine zx_aload_n (pc2 := 3) d_Mo_inverse_2 rfl rfl ?_
    refine zx_iload_n (pc2 := 4) d_Mo_inverse_3 rfl rfl ?_
    refine zx_iload_n (pc2 := 5) d_Mo_inverse_4 rfl rfl ?_
    refine zk_callV (pc2 := 8) s_Mo_104 v_Mo_product (zl_c546) (c_Mo_product hT hlt (by omega)) d_Mo_inverse_5 rfl rfl rfl (Nat.le_of_ble_eq_true rfl) (by decide) (by decide) ?_
    refine zx_iconst (pc2 := 9) (v := nI 1) d_Mo_inverse_8 rfl (by decide) ?_
    refine zx_icmp_eq (pc2 := 12) d_Mo_inverse_9 rfl (tgt := 18) (by decide) (fun cz => absurd cz (nI_ne (hb (1 + i) (by omega)) (by have := gt_mul_lt hlt (show 1 + i < 256 by omega); omega) (by decide))) (fun _ => ?_)
    refine zx_inc2 (pc2 := 15) d_Mo_inverse_12 rfl (zk_1 _) rfl (by decide) ?_
    refine zx_goto (tgt := 2) d_Mo_inverse_15 (by decide) ?_
    exact ih
theorem c_Mo_solve0 {t0 t1 t2 v0 v1 v2 A B C A' B' C' : Nat} {z5 z6 z7 z8 z9 : Option Value} {ME : zm_M} (hT : gt_ok M) (h0 : zm_I M 566 0 = nI t0) (h1 : zm_I M 566 1 = nI t1) (h2 : zm_I M 566 2 = nI t2) (l0 : t0 < 7) (l1 : t1 < 7) (l2 : t2 < 7) (n01 : t0 ≠ t1) (n12 : t1 ≠ t2) (n20 : t2 ≠ t0) (hv : v0 < 256)
    (eA : A' = A ^^^ gt_mul (gs_w (t0 + 1) (t1 + 1) (t2 + 1) v0) (gt_mul (t1 + 1) (t2 + 1))) (eB : B' = B ^^^ gt_mul (gs_w (t0 + 1) (t1 + 1) (t2 + 1) v0) ((t1 + 1) ^^^ (t2 + 1))) (eC : C' = C ^^^ gs_w (t0 + 1) (t1 + 1) (t2 + 1) v0)
    (kk : ∀ z5 z6 z7 z8 z9 : Option Value, zk_X l D ar b Z y_Mo_solve 2 none ME n 24 [some (.ref (b + 546)), some (.int (nI v0)), some (.int (nI v1)), some (.int (nI v2)), some (.int (nI 1)), z5, z6, z7, z8, z9] [] (gm_sv M A' B' C')) :
    zk_X l D ar b Z y_Mo_solve 2 none ME n 24 [some (.ref (b + 546)), some (.int (nI v0)), some (.int (nI v1)), some (.int (nI v2)), some (.int (nI 0)), z5, z6, z7, z8, z9] [] (gm_sv M A B C) := by
  have hTs : ∀ {A B C : Nat}, gt_ok (gm_sv M A B C) := fun {A B C} => gt_fr2 (fun r x hr => gm_sv_n (by rcases hr with rfl | rfl <;> decide)) hT
  have hTw : ∀ {W : zm_M} {i : Nat} {x : Int32}, gt_ok W → gt_ok (zm_wI W 568 i x) := fun h => gt_fr2 (fun r x hr => zm_In (Or.inl (by rcases hr with rfl | rfl <;> decide))) h
  obtain ⟨a1, a2⟩ := gx_p (t0 + 1) (by omega) (t1 + 1) (by omega) (by omega) (by omega) (by omega)
  obtain ⟨b1, b2⟩ := gx_p (t0 + 1) (by omega) (t2 + 1) (by omega) (by omega) (by omega) (by omega)
  obtain ⟨c1, c2⟩ := gx_p (t1 + 1) (by omega) (t2 + 1) (by omega) (by omega) (by omega) (by omega)
  obtain ⟨-, i2, -⟩ := gt_inv_a _ a2 _ b2 a1 b1
  have hw : gs_w (t0 + 1) (t1 + 1) (t2 + 1) v0 < 256 := gt_mul_lt hv i2
  subst eA; subst eB; subst eC
  refine zx_iload (pc2 := 26) d_Mo_solve_24 rfl rfl ?_
  refine zx_iconst (pc2 := 27) (v := nI 3) d_Mo_solve_26 rfl (by decide) ?_
  refine zx_icmp_ge (pc2 := 30) d_Mo_solve_27 rfl (tgt := 191) (by decide) (fun cz => absurd cz (nI_ge (by decide) (by decide))) (fun _ => ?_)
  refine zx_aload_n (pc2 := 31) d_Mo_solve_30 rfl rfl ?_
  refine zm_getR (pc2 := 34) f_Mo_75 d_Mo_solve_31 rfl zl_c546 rfl ?_
  refine zx_iload (pc2 := 36) d_Mo_solve_34 rfl rfl ?_
  refine zk_ialdV (pc2 := 37) d_Mo_solve_36 rfl (by rfl) rfl (by omega) (by decide) ((gm_sv_n (by decide)).trans h0) ?_
  refine zx_iconst (pc2 := 38) (v := nI 1) d_Mo_solve_37 rfl (by decide) ?_
  first | refine zx_iaddN (pc2 := 39) d_Mo_solve_38 rfl ?_ | refine zx_iadd (pc2 := 39) d_Mo_solve_38 rfl ?_
  refine zx_ist5 (pc2 := 41) d_Mo_solve_39 rfl rfl (by decide) ?_
  refine zx_aload_n (pc2 := 42) d_Mo_solve_41 rfl rfl ?_
  refine zm_getR (pc2 := 45) f_Mo_75 d_Mo_solve_42 rfl zl_c546 rfl ?_
  refine zx_iload (pc2 := 47) d_Mo_solve_45 rfl rfl ?_
  refine zx_iconst (pc2 := 48) (v := nI 1) d_Mo_solve_47 rfl (by decide) ?_
  first | refine zx_iaddN (pc2 := 49) d_Mo_solve_48 rfl ?_ | refine zx_iadd (pc2 := 49) d_Mo_solve_48 rfl ?_
  refine zx_iconst (pc2 := 50) (v := nI 3) d_Mo_solve_49 rfl (by decide) ?_
  refine zx_irem (pc2 := 51) d_Mo_solve_50 rfl (by decide) ?_
  refine zk_ialdV (q := 1) (pc2 := 52) d_Mo_solve_51 rfl (by rfl) (by decide) (by decide) (by decide) ((gm_sv_n (by decide)).trans h1) ?_
  refine zx_iconst (pc2 := 53) (v := nI 1) d_Mo_solve_52 rfl (by decide) ?_
  first | refine zx_iaddN (pc2 := 54) d_Mo_solve_53 rfl ?_ | refine zx_iadd (pc2 := 54) d_Mo_solve_53 rfl ?_
  refine zx_ist6 (pc2 := 56) d_Mo_solve_54 rfl rfl (by decide) ?_
  refine zx_aload_n (pc2 := 57) d_Mo_solve_56 rfl rfl ?_
  refine zm_getR (pc2 := 60) f_Mo_75 d_Mo_solve_57 rfl zl_c546 rfl ?_
  refine zx_iload (pc2 := 62) d_Mo_solve_60 rfl rfl ?_
  refine zx_iconst (pc2 := 63) (v := nI 2) d_Mo_solve_62 rfl (by decide) ?_
  first | refine zx_iaddN (pc2 := 64) d_Mo_solve_63 rfl ?_ | refine zx_iadd (pc2 := 64) d_Mo_solve_63 rfl ?_
  refine zx_iconst (pc2 := 65) (v := nI 3) d_Mo_solve_64 rfl (by decide) ?_
  refine zx_irem (pc2 := 66) d_Mo_solve_65 rfl (by decide) ?_
  refine zk_ialdV (q := 2) (pc2 := 67) d_Mo_solve_66 rfl (by rfl) (by decide) (by decide) (by decide) ((gm_sv_n (by decide)).trans h2) ?_
  refine zx_iconst (pc2 := 68) (v := nI 1) d_Mo_solve_67 rfl (by decide) ?_
  first | refine zx_iaddN (pc2 := 69) d_Mo_solve_68 rfl ?_ | refine zx_iadd (pc2 := 69) d_Mo_solve_68 rfl ?_
  refine zx_ist7 (pc2 := 71) d_Mo_solve_69 rfl rfl (by decide) ?_
  refine zx_aload_n (pc2 := 72) d_Mo_solve_71 rfl rfl ?_
  refine zx_iload (pc2 := 74) d_Mo_solve_72 rfl rfl ?_
  refine zx_iload (pc2 := 76) d_Mo_solve_74 rfl rfl ?_
  first | refine zx_ixorN (pc2 := 77) d_Mo_solve_76 rfl ?_ | refine zx_ixor (pc2 := 77) d_Mo_solve_76 rfl ?_
  refine zx_iload (pc2 := 79) d_Mo_solve_77 rfl rfl ?_
  refine zx_iload (pc2 := 81) d_Mo_solve_79 rfl rfl ?_
  first | refine zx_ixorN (pc2 := 82) d_Mo_solve_81 rfl ?_ | refine zx_ixor (pc2 := 82) d_Mo_solve_81 rfl ?_
  refine zk_callV (pc2 := 85) s_Mo_104 v_Mo_product (zl_c546) (c_Mo_product hTs (by omega) (by omega)) d_Mo_solve_82 rfl rfl rfl (Nat.le_of_ble_eq_true rfl) (by decide) (by decide) ?_
  refine zx_ist8 (pc2 := 87) d_Mo_solve_85 rfl rfl (by decide) ?_
  refine zx_aload_n (pc2 := 88) d_Mo_solve_87 rfl rfl ?_
  refine zx_iload (pc2 := 90) d_Mo_solve_88 rfl rfl ?_
  refine zx_if_ne (pc2 := 93) d_Mo_solve_90 rfl (tgt := 97) (by decide) (fun cz => absurd (rfl) cz) (fun _ => ?_)
  refine zx_iload_n (pc2 := 94) d_Mo_solve_93 rfl rfl ?_
  refine zx_goto (tgt := 108) d_Mo_solve_94 (by decide) ?_
  refine zx_aload_n (pc2 := 109) d_Mo_solve_108 rfl rfl ?_
  refine zx_iload (pc2 := 111) d_Mo_solve_109 rfl rfl ?_
  refine zk_callV (pc2 := 114) s_Mo_107 v_Mo_inverse (zl_c546) (c_Mo_inverse hTs ⟨a1, a2⟩ ⟨b1, b2⟩) d_Mo_solve_111 rfl rfl rfl (Nat.le_of_ble_eq_true rfl) (by decide) (by decide) ?_
  refine zk_callV (pc2 := 117) s_Mo_104 v_Mo_product (zl_c546) (c_Mo_product hTs hv i2) d_Mo_solve_114 rfl rfl rfl (Nat.le_of_ble_eq_true rfl) (by decide) (by decide) ?_
  refine zx_ist9 (pc2 := 119) d_Mo_solve_117 rfl rfl (by decide) ?_
  refine zx_aload_n (pc2 := 120) d_Mo_solve_119 rfl rfl ?_
  refine zm_getR (pc2 := 123) f_Mo_81 d_Mo_solve_120 rfl zl_c546 rfl ?_
  refine zx_iconst (pc2 := 124) (v := nI 0) d_Mo_solve_123 rfl (by decide) ?_
  refine zx_aload_n (pc2 := 125) d_Mo_solve_124 rfl rfl ?_
  refine zm_getR (pc2 := 128) f_Mo_81 d_Mo_solve_125 rfl zl_c546 rfl ?_
  refine zx_iconst (pc2 := 129) (v := nI 0) d_Mo_solve_128 rfl (by decide) ?_
  refine zk_ialdV (q := 0) (pc2 := 130) d_Mo_solve_129 rfl (by rfl) rfl (by decide) (by decide) (show zm_I (gm_sv M A B C) 568 0 = nI A from rfl) ?_
  refine zx_aload_n (pc2 := 131) d_Mo_solve_130 rfl rfl ?_
  refine zx_iload (pc2 := 133) d_Mo_solve_131 rfl rfl ?_
  refine zx_aload_n (pc2 := 134) d_Mo_solve_133 rfl rfl ?_
  refine zx_iload (pc2 := 136) d_Mo_solve_134 rfl rfl ?_
  refine zx_iload (pc2 := 138) d_Mo_solve_136 rfl rfl ?_
  refine zk_callV (pc2 := 141) s_Mo_104 v_Mo_product (zl_c546) (c_Mo_product hTs (by omega) (by omega)) d_Mo_solve_138 rfl rfl rfl (Nat.le_of_ble_eq_true rfl) (by decide) (by decide) ?_
  refine zk_callV (pc2 := 144) s_Mo_104 v_Mo_product (zl_c546) (c_Mo_product hTs hw (gt_mul_lt (by omega) (by omega))) d_Mo_solve_141 rfl rfl rfl (Nat.le_of_ble_eq_true rfl) (by decide) (by decide) ?_
  first | refine zx_ixorN (pc2 := 145) d_Mo_solve_144 rfl ?_ | refine zx_ixor (pc2 := 145) d_Mo_solve_144 rfl ?_
  refine zk_iast (pc2 := 146) d_Mo_solve_145 rfl (by rfl) rfl (by omega) (by decide) ?_
  refine zx_aload_n (pc2 := 147) d_Mo_solve_146 rfl rfl ?_
  refine zm_getR (pc2 := 150) f_Mo_81 d_Mo_solve_147 rfl zl_c546 rfl ?_
  refine zx_iconst (pc2 := 151) (v := nI 1) d_Mo_solve_150 rfl (by decide) ?_
  refine zx_aload_n (pc2 := 152) d_Mo_solve_151 rfl rfl ?_
  refine zm_getR (pc2 := 155) f_Mo_81 d_Mo_solve_152 rfl zl_c546 rfl ?_
  refine zx_iconst (pc2 := 156) (v := nI 1) d_Mo_solve_155 rfl (by decide) ?_
  refine zk_ialdV (q := 1) (v := nI B) (pc2 := 157) d_Mo_solve_156 rfl (by rfl) rfl (by decide) (by decide) rfl ?_
  refine zx_aload_n (pc2 := 158) d_Mo_solve_157 rfl rfl ?_
  refine zx_iload (pc2 := 160) d_Mo_solve_158 rfl rfl ?_
  refine zx_iload (pc2 := 162) d_Mo_solve_160 rfl rfl ?_
  refine zx_iload (pc2 := 164) d_Mo_solve_162 rfl rfl ?_
  first | refine zx_ixorN (pc2 := 165) d_Mo_solve_164 rfl ?_ | refine zx_ixor (pc2 := 165) d_Mo_solve_164 rfl ?_
  refine zk_callV (pc2 := 168) s_Mo_104 v_Mo_product (zl_c546) (c_Mo_product (hTw hTs) hw (by omega)) d_Mo_solve_165 rfl rfl rfl (Nat.le_of_ble_eq_true rfl) (by decide) (by decide) ?_
  first | refine zx_ixorN (pc2 := 169) d_Mo_solve_168 rfl ?_ | refine zx_ixor (pc2 := 169) d_Mo_solve_168 rfl ?_
  refine zk_iast (pc2 := 170) d_Mo_solve_169 rfl (by rfl) rfl (by omega) (by decide) ?_
  refine zx_aload_n (pc2 := 171) d_Mo_solve_170 rfl rfl ?_
  refine zm_getR (pc2 := 174) f_Mo_81 d_Mo_solve_171 rfl zl_c546 rfl ?_
  refine zx_iconst (pc2 := 175) (v := nI 2) d_Mo_solve_174 rfl (by decide) ?_
  refine zx_aload_n (pc2 := 176) d_Mo_solve_175 rfl rfl ?_
  refine zm_getR (pc2 := 179) f_Mo_81 d_Mo_solve_176 rfl zl_c546 rfl ?_
  refine zx_iconst (pc2 := 180) (v := nI 2) d_Mo_solve_179 rfl (by decide) ?_
  refine zk_ialdV (q := 2) (v := nI C) (pc2 := 181) d_Mo_solve_180 rfl (by rfl) rfl (by decide) (by decide) rfl ?_
  refine zx_iload (pc2 := 183) d_Mo_solve_181 rfl rfl ?_
  first | refine zx_ixorN (pc2 := 184) d_Mo_solve_183 rfl ?_ | refine zx_ixor (pc2 := 184) d_Mo_solve_183 rfl ?_
  refine zk_iast (pc2 := 185) d_Mo_solve_184 rfl (by rfl) rfl (by omega) (by decide) ?_
  refine zx_inc4 (pc2 := 188) d_Mo_solve_185 rfl (zk_1 _) rfl (by decide) ?_
  refine zx_goto (tgt := 24) d_Mo_solve_188 (by decide) ?_
  have kk' := kk (some (.int (nI (t0 + 1)))) (some (.int (nI (t1 + 1)))) (some (.int (nI (t2 + 1)))) (some (.int (nI (gt_mul ((t0 + 1) ^^^ (t1 + 1)) ((t0 + 1) ^^^ (t2 + 1)))))) (some (.int (nI (gs_w (t0 + 1) (t1 + 1) (t2 + 1) v0))))
  rw [← gm_sv_w (A := A) (B := B) (C := C)] at kk'
  exact kk'
theorem c_Mo_solve1 {t0 t1 t2 v0 v1 v2 A B C A' B' C' : Nat} {z5 z6 z7 z8 z9 : Option Value} {ME : zm_M} (hT : gt_ok M) (h0 : zm_I M 566 0 = nI t0) (h1 : zm_I M 566 1 = nI t1) (h2 : zm_I M 566 2 = nI t2) (l0 : t0 < 7) (l1 : t1 < 7) (l2 : t2 < 7) (n01 : t0 ≠ t1) (n12 : t1 ≠ t2) (n20 : t2 ≠ t0) (hv : v1 < 256)
    (eA : A' = A ^^^ gt_mul (gs_w (t1 + 1) (t2 + 1) (t0 + 1) v1) (gt_mul (t2 + 1) (t0 + 1))) (eB : B' = B ^^^ gt_mul (gs_w (t1 + 1) (t2 + 1) (t0 + 1) v1) ((t2 + 1) ^^^ (t0 + 1))) (eC : C' = C ^^^ gs_w (t1 + 1) (t2 + 1) (t0 + 1) v1)
    (kk : ∀ z5 z6 z7 z8 z9 : Option Value, zk_X l D ar b Z y_Mo_solve 2 none ME n 24 [some (.ref (b + 546)), some (.int (nI v0)), some (.int (nI v1)), some (.int (nI v2)), some (.int (nI 2)), z5, z6, z7, z8, z9] [] (gm_sv M A' B' C')) :
    zk_X l D ar b Z y_Mo_solve 2 none ME n 24 [some (.ref (b + 546)), some (.int (nI v0)), some (.int (nI v1)), some (.int (nI v2)), some (.int (nI 1)), z5, z6, z7, z8, z9] [] (gm_sv M A B C) := by
  have hTs : ∀ {A B C : Nat}, gt_ok (gm_sv M A B C) := fun {A B C} => gt_fr2 (fun r x hr => gm_sv_n (by rcases hr with rfl | rfl <;> decide)) hT
  have hTw : ∀ {W : zm_M} {i : Nat} {x : Int32}, gt_ok W → gt_ok (zm_wI W 568 i x) := fun h => gt_fr2 (fun r x hr => zm_In (Or.inl (by rcases hr with rfl | rfl <;> decide))) h
  obtain ⟨a1, a2⟩ := gx_p (t1 + 1) (by omega) (t2 + 1) (by omega) (by omega) (by omega) (by omega)
  obtain ⟨b1, b2⟩ := gx_p (t1 + 1) (by omega) (t0 + 1) (by omega) (by omega) (by omega) (by omega)
  obtain ⟨c1, c2⟩ := gx_p (t2 + 1) (by omega) (t0 + 1) (by omega) (by omega) (by omega) (by omega)
  obtain ⟨-, i2, -⟩ := gt_inv_a _ a2 _ b2 a1 b1
  have hw : gs_w (t1 + 1) (t2 + 1) (t0 + 1) v1 < 256 := gt_mul_lt hv i2
  subst eA; subst eB; subst eC
  refine zx_iload (pc2 := 26) d_Mo_solve_24 rfl rfl ?_
  refine zx_iconst (pc2 := 27) (v := nI 3) d_Mo_solve_26 rfl (by decide) ?_
  refine zx_icmp_ge (pc2 := 30) d_Mo_solve_27 rfl (tgt := 191) (by decide) (fun cz => absurd cz (nI_ge (by decide) (by decide))) (fun _ => ?_)
  refine zx_aload_n (pc2 := 31) d_Mo_solve_30 rfl rfl ?_
  refine zm_getR (pc2 := 34) f_Mo_75 d_Mo_solve_31 rfl zl_c546 rfl ?_
  refine zx_iload (pc2 := 36) d_Mo_solve_34 rfl rfl ?_
  refine zk_ialdV (pc2 := 37) d_Mo_solve_36 rfl (by rfl) rfl (by omega) (by decide) ((gm_sv_n (by decide)).trans h1) ?_
  refine zx_iconst (pc2 := 38) (v := nI 1) d_Mo_solve_37 rfl (by decide) ?_
  first | refine zx_iaddN (pc2 := 39) d_Mo_solve_38 rfl ?_ | refine zx_iadd (pc2 := 39) d_Mo_solve_38 rfl ?_
  refine zx_ist5 (pc2 := 41) d_Mo_solve_39 rfl rfl (by decide) ?_
  refine zx_aload_n (pc2 := 42) d_Mo_solve_41 rfl rfl ?_
  refine zm_getR (pc2 := 45) f_Mo_75 d_Mo_solve_42 rfl zl_c546 rfl ?_
  refine zx_iload (pc2 := 47) d_Mo_solve_45 rfl rfl ?_
  refine zx_iconst (pc2 := 48) (v := nI 1) d_Mo_solve_47 rfl (by decide) ?_
  first | refine zx_iaddN (pc2 := 49) d_Mo_solve_48 rfl ?_ | refine zx_iadd (pc2 := 49) d_Mo_solve_48 rfl ?_
  refine zx_iconst (pc2 := 50) (v := nI 3) d_Mo_solve_49 rfl (by decide) ?_
  refine zx_irem (pc2 := 51) d_Mo_solve_50 rfl (by decide) ?_
  refine zk_ialdV (q := 2) (pc2 := 52) d_Mo_solve_51 rfl (by rfl) (by decide) (by decide) (by decide) ((gm_sv_n (by decide)).trans h2) ?_
  refine zx_iconst (pc2 := 53) (v := nI 1) d_Mo_solve_52 rfl (by decide) ?_
  first | refine zx_iaddN (pc2 := 54) d_Mo_solve_53 rfl ?_ | refine zx_iadd (pc2 := 54) d_Mo_solve_53 rfl ?_
  refine zx_ist6 (pc2 := 56) d_Mo_solve_54 rfl rfl (by decide) ?_
  refine zx_aload_n (pc2 := 57) d_Mo_solve_56 rfl rfl ?_
  refine zm_getR (pc2 := 60) f_Mo_75 d_Mo_solve_57 rfl zl_c546 rfl ?_
  refine zx_iload (pc2 := 62) d_Mo_solve_60 rfl rfl ?_
  refine zx_iconst (pc2 := 63) (v := nI 2) d_Mo_solve_62 rfl (by decide) ?_
  first | refine zx_iaddN (pc2 := 64) d_Mo_solve_63 rfl ?_ | refine zx_iadd (pc2 := 64) d_Mo_solve_63 rfl ?_
  refine zx_iconst (pc2 := 65) (v := nI 3) d_Mo_solve_64 rfl (by decide) ?_
  refine zx_irem (pc2 := 66) d_Mo_solve_65 rfl (by decide) ?_
  refine zk_ialdV (q := 0) (pc2 := 67) d_Mo_solve_66 rfl (by rfl) (by decide) (by decide) (by decide) ((gm_sv_n (by decide)).trans h0) ?_
  refine zx_iconst (pc2 := 68) (v := nI 1) d_Mo_solve_67 rfl (by decide) ?_
  first | refine zx_iaddN (pc2 := 69) d_Mo_solve_68 rfl ?_ | refine zx_iadd (pc2 := 69) d_Mo_solve_68 rfl ?_
  refine zx_ist7 (pc2 := 71) d_Mo_solve_69 rfl rfl (by decide) ?_
  refine zx_aload_n (pc2 := 72) d_Mo_solve_71 rfl rfl ?_
  refine zx_iload (pc2 := 74) d_Mo_solve_72 rfl rfl ?_
  refine zx_iload (pc2 := 76) d_Mo_solve_74 rfl rfl ?_
  first | refine zx_ixorN (pc2 := 77) d_Mo_solve_76 rfl ?_ | refine zx_ixor (pc2 := 77) d_Mo_solve_76 rfl ?_
  refine zx_iload (pc2 := 79) d_Mo_solve_77 rfl rfl ?_
  refine zx_iload (pc2 := 81) d_Mo_solve_79 rfl rfl ?_
  first | refine zx_ixorN (pc2 := 82) d_Mo_solve_81 rfl ?_ | refine zx_ixor (pc2 := 82) d_Mo_solve_81 rfl ?_
  refine zk_callV (pc2 := 85) s_Mo_104 v_Mo_product (zl_c546) (c_Mo_product hTs (by omega) (by omega)) d_Mo_solve_82 rfl rfl rfl (Nat.le_of_ble_eq_true rfl) (by decide) (by decide) ?_
  refine zx_ist8 (pc2 := 87) d_Mo_solve_85 rfl rfl (by decide) ?_
  refine zx_aload_n (pc2 := 88) d_Mo_solve_87 rfl rfl ?_
  refine zx_iload (pc2 := 90) d_Mo_solve_88 rfl rfl ?_
  refine zx_if_ne (pc2 := 93) d_Mo_solve_90 rfl (tgt := 97) (by decide) (fun _ => ?_) (fun cz => absurd cz (by decide))
  refine zx_iload (pc2 := 99) d_Mo_solve_97 rfl rfl ?_
  refine zx_iconst (pc2 := 100) (v := nI 1) d_Mo_solve_99 rfl (by decide) ?_
  refine zx_icmp_ne (pc2 := 103) d_Mo_solve_100 rfl (tgt := 107) (by decide) (fun cz => absurd (rfl) cz) (fun _ => ?_)
  refine zx_iload_n (pc2 := 104) d_Mo_solve_103 rfl rfl ?_
  refine zx_goto (tgt := 108) d_Mo_solve_104 (by decide) ?_
  refine zx_aload_n (pc2 := 109) d_Mo_solve_108 rfl rfl ?_
  refine zx_iload (pc2 := 111) d_Mo_solve_109 rfl rfl ?_
  refine zk_callV (pc2 := 114) s_Mo_107 v_Mo_inverse (zl_c546) (c_Mo_inverse hTs ⟨a1, a2⟩ ⟨b1, b2⟩) d_Mo_solve_111 rfl rfl rfl (Nat.le_of_ble_eq_true rfl) (by decide) (by decide) ?_
  refine zk_callV (pc2 := 117) s_Mo_104 v_Mo_product (zl_c546) (c_Mo_product hTs hv i2) d_Mo_solve_114 rfl rfl rfl (Nat.le_of_ble_eq_true rfl) (by decide) (by decide) ?_
  refine zx_ist9 (pc2 := 119) d_Mo_solve_117 rfl rfl (by decide) ?_
  refine zx_aload_n (pc2 := 120) d_Mo_solve_119 rfl rfl ?_
  refine zm_getR (pc2 := 123) f_Mo_81 d_Mo_solve_120 rfl zl_c546 rfl ?_
  refine zx_iconst (pc2 := 124) (v := nI 0) d_Mo_solve_123 rfl (by decide) ?_
  refine zx_aload_n (pc2 := 125) d_Mo_solve_124 rfl rfl ?_
  refine zm_getR (pc2 := 128) f_Mo_81 d_Mo_solve_125 rfl zl_c546 rfl ?_
  refine zx_iconst (pc2 := 129) (v := nI 0) d_Mo_solve_128 rfl (by decide) ?_
  refine zk_ialdV (q := 0) (pc2 := 130) d_Mo_solve_129 rfl (by rfl) rfl (by decide) (by decide) (show zm_I (gm_sv M A B C) 568 0 = nI A from rfl) ?_
  refine zx_aload_n (pc2 := 131) d_Mo_solve_130 rfl rfl ?_
  refine zx_iload (pc2 := 133) d_Mo_solve_131 rfl rfl ?_
  refine zx_aload_n (pc2 := 134) d_Mo_solve_133 rfl rfl ?_
  refine zx_iload (pc2 := 136) d_Mo_solve_134 rfl rfl ?_
  refine zx_iload (pc2 := 138) d_Mo_solve_136 rfl rfl ?_
  refine zk_callV (pc2 := 141) s_Mo_104 v_Mo_product (zl_c546) (c_Mo_product hTs (by omega) (by omega)) d_Mo_solve_138 rfl rfl rfl (Nat.le_of_ble_eq_true rfl) (by decide) (by decide) ?_
  refine zk_callV (pc2 := 144) s_Mo_104 v_Mo_product (zl_c546) (c_Mo_product hTs hw (gt_mul_lt (by omega) (by omega))) d_Mo_solve_141 rfl rfl rfl (Nat.le_of_ble_eq_true rfl) (by decide) (by decide) ?_
  first | refine zx_ixorN (pc2 := 145) d_Mo_solve_144 rfl ?_ | refine zx_ixor (pc2 := 145) d_Mo_solve_144 rfl ?_
  refine zk_iast (pc2 := 146) d_Mo_solve_145 rfl (by rfl) rfl (by omega) (by decide) ?_
  refine zx_aload_n (pc2 := 147) d_Mo_solve_146 rfl rfl ?_
  refine zm_getR (pc2 := 150) f_Mo_81 d_Mo_solve_147 rfl zl_c546 rfl ?_
  refine zx_iconst (pc2 := 151) (v := nI 1) d_Mo_solve_150 rfl (by decide) ?_
  refine zx_aload_n (pc2 := 152) d_Mo_solve_151 rfl rfl ?_
  refine zm_getR (pc2 := 155) f_Mo_81 d_Mo_solve_152 rfl zl_c546 rfl ?_
  refine zx_iconst (pc2 := 156) (v := nI 1) d_Mo_solve_155 rfl (by decide) ?_
  refine zk_ialdV (q := 1) (v := nI B) (pc2 := 157) d_Mo_solve_156 rfl (by rfl) rfl (by decide) (by decide) rfl ?_
  refine zx_aload_n (pc2 := 158) d_Mo_solve_157 rfl rfl ?_
  refine zx_iload (pc2 := 160) d_Mo_solve_158 rfl rfl ?_
  refine zx_iload (pc2 := 162) d_Mo_solve_160 rfl rfl ?_
  refine zx_iload (pc2 := 164) d_Mo_solve_162 rfl rfl ?_
  first | refine zx_ixorN (pc2 := 165) d_Mo_solve_164 rfl ?_ | refine zx_ixor (pc2 := 165) d_Mo_solve_164 rfl ?_
  refine zk_callV (pc2 := 168) s_Mo_104 v_Mo_product (zl_c546) (c_Mo_product (hTw hTs) hw (by omega)) d_Mo_solve_165 rfl rfl rfl (Nat.le_of_ble_eq_true rfl) (by decide) (by decide) ?_
  first | refine zx_ixorN (pc2 := 169) d_Mo_solve_168 rfl ?_ | refine zx_ixor (pc2 := 169) d_Mo_solve_168 rfl ?_
  refine zk_iast (pc2 := 170) d_Mo_solve_169 rfl (by rfl) rfl (by omega) (by decide) ?_
  refine zx_aload_n (pc2 := 171) d_Mo_solve_170 rfl rfl ?_
  refine zm_getR (pc2 := 174) f_Mo_81 d_Mo_solve_171 rfl zl_c546 rfl ?_
  refine zx_iconst (pc2 := 175) (v := nI 2) d_Mo_solve_174 rfl (by decide) ?_
  refine zx_aload_n (pc2 := 176) d_Mo_solve_175 rfl rfl ?_
  refine zm_getR (pc2 := 179) f_Mo_81 d_Mo_solve_176 rfl zl_c546 rfl ?_
  refine zx_iconst (pc2 := 180) (v := nI 2) d_Mo_solve_179 rfl (by decide) ?_
  refine zk_ialdV (q := 2) (v := nI C) (pc2 := 181) d_Mo_solve_180 rfl (by rfl) rfl (by decide) (by decide) rfl ?_
  refine zx_iload (pc2 := 183) d_Mo_solve_181 rfl rfl ?_
  first | refine zx_ixorN (pc2 := 184) d_Mo_solve_183 rfl ?_ | refine zx_ixor (pc2 := 184) d_Mo_solve_183 rfl ?_
  refine zk_iast (pc2 := 185) d_Mo_solve_184 rfl (by rfl) rfl (by omega) (by decide) ?_
  refine zx_inc4 (pc2 := 188) d_Mo_solve_185 rfl (zk_1 _) rfl (by decide) ?_
  refine zx_goto (tgt := 24) d_Mo_solve_188 (by decide) ?_
  have kk' := kk (some (.int (nI (t1 + 1)))) (some (.int (nI (t2 + 1)))) (some (.int (nI (t0 + 1)))) (some (.int (nI (gt_mul ((t1 + 1) ^^^ (t2 + 1)) ((t1 + 1) ^^^ (t0 + 1)))))) (some (.int (nI (gs_w (t1 + 1) (t2 + 1) (t0 + 1) v1))))
  rw [← gm_sv_w (A := A) (B := B) (C := C)] at kk'
  exact kk'
theorem c_Mo_solve2 {t0 t1 t2 v0 v1 v2 A B C A' B' C' : Nat} {z5 z6 z7 z8 z9 : Option Value} {ME : zm_M} (hT : gt_ok M) (h0 : zm_I M 566 0 = nI t0) (h1 : zm_I M 566 1 = nI t1) (h2 : zm_I M 566 2 = nI t2) (l0 : t0 < 7) (l1 : t1 < 7) (l2 : t2 < 7) (n01 : t0 ≠ t1) (n12 : t1 ≠ t2) (n20 : t2 ≠ t0) (hv : v2 < 256)
    (eA : A' = A ^^^ gt_mul (gs_w (t2 + 1) (t0 + 1) (t1 + 1) v2) (gt_mul (t0 + 1) (t1 + 1))) (eB : B' = B ^^^ gt_mul (gs_w (t2 + 1) (t0 + 1) (t1 + 1) v2) ((t0 + 1) ^^^ (t1 + 1))) (eC : C' = C ^^^ gs_w (t2 + 1) (t0 + 1) (t1 + 1) v2)
    (kk : ∀ z5 z6 z7 z8 z9 : Option Value, zk_X l D ar b Z y_Mo_solve 2 none ME n 24 [some (.ref (b + 546)), some (.int (nI v0)), some (.int (nI v1)), some (.int (nI v2)), some (.int (nI 3)), z5, z6, z7, z8, z9] [] (gm_sv M A' B' C')) :
    zk_X l D ar b Z y_Mo_solve 2 none ME n 24 [some (.ref (b + 546)), some (.int (nI v0)), some (.int (nI v1)), some (.int (nI v2)), some (.int (nI 2)), z5, z6, z7, z8, z9] [] (gm_sv M A B C) := by
  have hTs : ∀ {A B C : Nat}, gt_ok (gm_sv M A B C) := fun {A B C} => gt_fr2 (fun r x hr => gm_sv_n (by rcases hr with rfl | rfl <;> decide)) hT
  have hTw : ∀ {W : zm_M} {i : Nat} {x : Int32}, gt_ok W → gt_ok (zm_wI W 568 i x) := fun h => gt_fr2 (fun r x hr => zm_In (Or.inl (by rcases hr with rfl | rfl <;> decide))) h
  obtain ⟨a1, a2⟩ := gx_p (t2 + 1) (by omega) (t0 + 1) (by omega) (by omega) (by omega) (by omega)
  obtain ⟨b1, b2⟩ := gx_p (t2 + 1) (by omega) (t1 + 1) (by omega) (by omega) (by omega) (by omega)
  obtain ⟨c1, c2⟩ := gx_p (t0 + 1) (by omega) (t1 + 1) (by omega) (by omega) (by omega) (by omega)
  obtain ⟨-, i2, -⟩ := gt_inv_a _ a2 _ b2 a1 b1
  have hw : gs_w (t2 + 1) (t0 + 1) (t1 + 1) v2 < 256 := gt_mul_lt hv i2
  subst eA; subst eB; subst eC
  refine zx_iload (pc2 := 26) d_Mo_solve_24 rfl rfl ?_
  refine zx_iconst (pc2 := 27) (v := nI 3) d_Mo_solve_26 rfl (by decide) ?_
  refine zx_icmp_ge (pc2 := 30) d_Mo_solve_27 rfl (tgt := 191) (by decide) (fun cz => absurd cz (nI_ge (by decide) (by decide))) (fun _ => ?_)
  refine zx_aload_n (pc2 := 31) d_Mo_solve_30 rfl rfl ?_
  refine zm_getR (pc2 := 34) f_Mo_75 d_Mo_solve_31 rfl zl_c546 rfl ?_
  refine zx_iload (pc2 := 36) d_Mo_solve_34 rfl rfl ?_
  refine zk_ialdV (pc2 := 37) d_Mo_solve_36 rfl (by rfl) rfl (by omega) (by decide) ((gm_sv_n (by decide)).trans h2) ?_
  refine zx_iconst (pc2 := 38) (v := nI 1) d_Mo_solve_37 rfl (by decide) ?_
  first | refine zx_iaddN (pc2 := 39) d_Mo_solve_38 rfl ?_ | refine zx_iadd (pc2 := 39) d_Mo_solve_38 rfl ?_
  refine zx_ist5 (pc2 := 41) d_Mo_solve_39 rfl rfl (by decide) ?_
  refine zx_aload_n (pc2 := 42) d_Mo_solve_41 rfl rfl ?_
  refine zm_getR (pc2 := 45) f_Mo_75 d_Mo_solve_42 rfl zl_c546 rfl ?_
  refine zx_iload (pc2 := 47) d_Mo_solve_45 rfl rfl ?_
  refine zx_iconst (pc2 := 48) (v := nI 1) d_Mo_solve_47 rfl (by decide) ?_
  first | refine zx_iaddN (pc2 := 49) d_Mo_solve_48 rfl ?_ | refine zx_iadd (pc2 := 49) d_Mo_solve_48 rfl ?_
  refine zx_iconst (pc2 := 50) (v := nI 3) d_Mo_solve_49 rfl (by decide) ?_
  refine zx_irem (pc2 := 51) d_Mo_solve_50 rfl (by decide) ?_
  refine zk_ialdV (q := 0) (pc2 := 52) d_Mo_solve_51 rfl (by rfl) (by decide) (by decide) (by decide) ((gm_sv_n (by decide)).trans h0) ?_
  refine zx_iconst (pc2 := 53) (v := nI 1) d_Mo_solve_52 rfl (by decide) ?_
  first | refine zx_iaddN (pc2 := 54) d_Mo_solve_53 rfl ?_ | refine zx_iadd (pc2 := 54) d_Mo_solve_53 rfl ?_
  refine zx_ist6 (pc2 := 56) d_Mo_solve_54 rfl rfl (by decide) ?_
  refine zx_aload_n (pc2 := 57) d_Mo_solve_56 rfl rfl ?_
  refine zm_getR (pc2 := 60) f_Mo_75 d_Mo_solve_57 rfl zl_c546 rfl ?_
  refine zx_iload (pc2 := 62) d_Mo_solve_60 rfl rfl ?_
  refine zx_iconst (pc2 := 63) (v := nI 2) d_Mo_solve_62 rfl (by decide) ?_
  first | refine zx_iaddN (pc2 := 64) d_Mo_solve_63 rfl ?_ | refine zx_iadd (pc2 := 64) d_Mo_solve_63 rfl ?_
  refine zx_iconst (pc2 := 65) (v := nI 3) d_Mo_solve_64 rfl (by decide) ?_
  refine zx_irem (pc2 := 66) d_Mo_solve_65 rfl (by decide) ?_
  refine zk_ialdV (q := 1) (pc2 := 67) d_Mo_solve_66 rfl (by rfl) (by decide) (by decide) (by decide) ((gm_sv_n (by decide)).trans h1) ?_
  refine zx_iconst (pc2 := 68) (v := nI 1) d_Mo_solve_67 rfl (by decide) ?_
  first | refine zx_iaddN (pc2 := 69) d_Mo_solve_68 rfl ?_ | refine zx_iadd (pc2 := 69) d_Mo_solve_68 rfl ?_
  refine zx_ist7 (pc2 := 71) d_Mo_solve_69 rfl rfl (by decide) ?_
  refine zx_aload_n (pc2 := 72) d_Mo_solve_71 rfl rfl ?_
  refine zx_iload (pc2 := 74) d_Mo_solve_72 rfl rfl ?_
  refine zx_iload (pc2 := 76) d_Mo_solve_74 rfl rfl ?_
  first | refine zx_ixorN (pc2 := 77) d_Mo_solve_76 rfl ?_ | refine zx_ixor (pc2 := 77) d_Mo_solve_76 rfl ?_
  refine zx_iload (pc2 := 79) d_Mo_solve_77 rfl rfl ?_
  refine zx_iload (pc2 := 81) d_Mo_solve_79 rfl rfl ?_
  first | refine zx_ixorN (pc2 := 82) d_Mo_solve_81 rfl ?_ | refine zx_ixor (pc2 := 82) d_Mo_solve_81 rfl ?_
  refine zk_callV (pc2 := 85) s_Mo_104 v_Mo_product (zl_c546) (c_Mo_product hTs (by omega) (by omega)) d_Mo_solve_82 rfl rfl rfl (Nat.le_of_ble_eq_true rfl) (by decide) (by decide) ?_
  refine zx_ist8 (pc2 := 87) d_Mo_solve_85 rfl rfl (by decide) ?_
  refine zx_aload_n (pc2 := 88) d_Mo_solve_87 rfl rfl ?_
  refine zx_iload (pc2 := 90) d_Mo_solve_88 rfl rfl ?_
  refine zx_if_ne (pc2 := 93) d_Mo_solve_90 rfl (tgt := 97) (by decide) (fun _ => ?_) (fun cz => absurd cz (by decide))
  refine zx_iload (pc2 := 99) d_Mo_solve_97 rfl rfl ?_
  refine zx_iconst (pc2 := 100) (v := nI 1) d_Mo_solve_99 rfl (by decide) ?_
  refine zx_icmp_ne (pc2 := 103) d_Mo_solve_100 rfl (tgt := 107) (by decide) (fun _ => ?_) (fun cz => absurd cz (by decide))
  refine zx_iload_n (pc2 := 108) d_Mo_solve_107 rfl rfl ?_
  refine zx_aload_n (pc2 := 109) d_Mo_solve_108 rfl rfl ?_
  refine zx_iload (pc2 := 111) d_Mo_solve_109 rfl rfl ?_
  refine zk_callV (pc2 := 114) s_Mo_107 v_Mo_inverse (zl_c546) (c_Mo_inverse hTs ⟨a1, a2⟩ ⟨b1, b2⟩) d_Mo_solve_111 rfl rfl rfl (Nat.le_of_ble_eq_true rfl) (by decide) (by decide) ?_
  refine zk_callV (pc2 := 117) s_Mo_104 v_Mo_product (zl_c546) (c_Mo_product hTs hv i2) d_Mo_solve_114 rfl rfl rfl (Nat.le_of_ble_eq_true rfl) (by decide) (by decide) ?_
  refine zx_ist9 (pc2 := 119) d_Mo_solve_117 rfl rfl (by decide) ?_
  refine zx_aload_n (pc2 := 120) d_Mo_solve_119 rfl rfl ?_
  refine zm_getR (pc2 := 123) f_Mo_81 d_Mo_solve_120 rfl zl_c546 rfl ?_
  refine zx_iconst (pc2 := 124) (v := nI 0) d_Mo_solve_123 rfl (by decide) ?_
  refine zx_aload_n (pc2 := 125) d_Mo_solve_124 rfl rfl ?_
  refine zm_getR (pc2 := 128) f_Mo_81 d_Mo_solve_125 rfl zl_c546 rfl ?_
  refine zx_iconst (pc2 := 129) (v := nI 0) d_Mo_solve_128 rfl (by decide) ?_
  refine zk_ialdV (q := 0) (pc2 := 130) d_Mo_solve_129 rfl (by rfl) rfl (by decide) (by decide) (show zm_I (gm_sv M A B C) 568 0 = nI A from rfl) ?_
  refine zx_aload_n (pc2 := 131) d_Mo_solve_130 rfl rfl ?_
  refine zx_iload (pc2 := 133) d_Mo_solve_131 rfl rfl ?_
  refine zx_aload_n (pc2 := 134) d_Mo_solve_133 rfl rfl ?_
  refine zx_iload (pc2 := 136) d_Mo_solve_134 rfl rfl ?_
  refine zx_iload (pc2 := 138) d_Mo_solve_136 rfl rfl ?_
  refine zk_callV (pc2 := 141) s_Mo_104 v_Mo_product (zl_c546) (c_Mo_product hTs (by omega) (by omega)) d_Mo_solve_138 rfl rfl rfl (Nat.le_of_ble_eq_true rfl) (by decide) (by decide) ?_
  refine zk_callV (pc2 := 144) s_Mo_104 v_Mo_product (zl_c546) (c_Mo_product hTs hw (gt_mul_lt (by omega) (by omega))) d_Mo_solve_141 rfl rfl rfl (Nat.le_of_ble_eq_true rfl) (by decide) (by decide) ?_
  first | refine zx_ixorN (pc2 := 145) d_Mo_solve_144 rfl ?_ | refine zx_ixor (pc2 := 145) d_Mo_solve_144 rfl ?_
  refine zk_iast (pc2 := 146) d_Mo_solve_145 rfl (by rfl) rfl (by omega) (by decide) ?_
  refine zx_aload_n (pc2 := 147) d_Mo_solve_146 rfl rfl ?_
  refine zm_getR (pc2 := 150) f_Mo_81 d_Mo_solve_147 rfl zl_c546 rfl ?_
  refine zx_iconst (pc2 := 151) (v := nI 1) d_Mo_solve_150 rfl (by decide) ?_
  refine zx_aload_n (pc2 := 152) d_Mo_solve_151 rfl rfl ?_
  refine zm_getR (pc2 := 155) f_Mo_81 d_Mo_solve_152 rfl zl_c546 rfl ?_
  refine zx_iconst (pc2 := 156) (v := nI 1) d_Mo_solve_155 rfl (by decide) ?_
  refine zk_ialdV (q := 1) (v := nI B) (pc2 := 157) d_Mo_solve_156 rfl (by rfl) rfl (by decide) (by decide) rfl ?_
  refine zx_aload_n (pc2 := 158) d_Mo_solve_157 rfl rfl ?_
  refine zx_iload (pc2 := 160) d_Mo_solve_158 rfl rfl ?_
  refine zx_iload (pc2 := 162) d_Mo_solve_160 rfl rfl ?_
  refine zx_iload (pc2 := 164) d_Mo_solve_162 rfl rfl ?_
  first | refine zx_ixorN (pc2 := 165) d_Mo_solve_164 rfl ?_ | refine zx_ixor (pc2 := 165) d_Mo_solve_164 rfl ?_
  refine zk_callV (pc2 := 168) s_Mo_104 v_Mo_product (zl_c546) (c_Mo_product (hTw hTs) hw (by omega)) d_Mo_solve_165 rfl rfl rfl (Nat.le_of_ble_eq_true rfl) (by decide) (by decide) ?_
  first | refine zx_ixorN (pc2 := 169) d_Mo_solve_168 rfl ?_ | refine zx_ixor (pc2 := 169) d_Mo_solve_168 rfl ?_
  refine zk_iast (pc2 := 170) d_Mo_solve_169 rfl (by rfl) rfl (by omega) (by decide) ?_
  refine zx_aload_n (pc2 := 171) d_Mo_solve_170 rfl rfl ?_
  refine zm_getR (pc2 := 174) f_Mo_81 d_Mo_solve_171 rfl zl_c546 rfl ?_
  refine zx_iconst (pc2 := 175) (v := nI 2) d_Mo_solve_174 rfl (by decide) ?_
  refine zx_aload_n (pc2 := 176) d_Mo_solve_175 rfl rfl ?_
  refine zm_getR (pc2 := 179) f_Mo_81 d_Mo_solve_176 rfl zl_c546 rfl ?_
  refine zx_iconst (pc2 := 180) (v := nI 2) d_Mo_solve_179 rfl (by decide) ?_
  refine zk_ialdV (q := 2) (v := nI C) (pc2 := 181) d_Mo_solve_180 rfl (by rfl) rfl (by decide) (by decide) rfl ?_
  refine zx_iload (pc2 := 183) d_Mo_solve_181 rfl rfl ?_
  first | refine zx_ixorN (pc2 := 184) d_Mo_solve_183 rfl ?_ | refine zx_ixor (pc2 := 184) d_Mo_solve_183 rfl ?_
  refine zk_iast (pc2 := 185) d_Mo_solve_184 rfl (by rfl) rfl (by omega) (by decide) ?_
  refine zx_inc4 (pc2 := 188) d_Mo_solve_185 rfl (zk_1 _) rfl (by decide) ?_
  refine zx_goto (tgt := 24) d_Mo_solve_188 (by decide) ?_
  have kk' := kk (some (.int (nI (t2 + 1)))) (some (.int (nI (t0 + 1)))) (some (.int (nI (t1 + 1)))) (some (.int (nI (gt_mul ((t2 + 1) ^^^ (t0 + 1)) ((t2 + 1) ^^^ (t1 + 1)))))) (some (.int (nI (gs_w (t2 + 1) (t0 + 1) (t1 + 1) v2))))
  rw [← gm_sv_w (A := A) (B := B) (C := C)] at kk'
  exact kk'
theorem c_Mo_solve {t0 t1 t2 v0 v1 v2 : Nat} (hT : gt_ok M) (h0 : zm_I M 566 0 = nI t0) (h1 : zm_I M 566 1 = nI t1) (h2 : zm_I M 566 2 = nI t2) (l0 : t0 < 7) (l1 : t1 < 7) (l2 : t2 < 7) (n01 : t0 ≠ t1) (n12 : t1 ≠ t2) (n20 : t2 ≠ t0) (w0 : v0 < 256) (w1 : v1 < 256) (w2 : v2 < 256) : zK l D ar b Z y_Mo_solve 2 [.ref (b + 546), .int (nI v0), .int (nI v1), .int (nI v2)] M n none (gm_sv M (gs_p0 t0 t1 t2 v0 v1 v2) (gs_p1 t0 t1 t2 v0 v1 v2) (gs_p2 t0 t1 t2 v0 v1 v2)) := by
  refine zk_entry (L := [some (.ref (b + 546)), some (.int (nI v0)), some (.int (nI v1)), some (.int (nI v2)), none, none, none, none, none, none]) rfl rfl (Nat.le_of_ble_eq_true rfl) rfl rfl ?_
  refine zx_aload_n (pc2 := 1) d_Mo_solve_0 rfl rfl ?_
  refine zm_getR (pc2 := 4) f_Mo_81 d_Mo_solve_1 rfl zl_c546 rfl ?_
  refine zx_iconst (pc2 := 5) (v := nI 0) d_Mo_solve_4 rfl (by decide) ?_
  refine zx_iconst (pc2 := 6) (v := nI 0) d_Mo_solve_5 rfl (by decide) ?_
  refine zk_iast (pc2 := 7) d_Mo_solve_6 rfl (by rfl) rfl (by omega) (by decide) ?_
  refine zx_aload_n (pc2 := 8) d_Mo_solve_7 rfl rfl ?_
  refine zm_getR (pc2 := 11) f_Mo_81 d_Mo_solve_8 rfl zl_c546 rfl ?_
  refine zx_iconst (pc2 := 12) (v := nI 1) d_Mo_solve_11 rfl (by decide) ?_
  refine zx_iconst (pc2 := 13) (v := nI 0) d_Mo_solve_12 rfl (by decide) ?_
  refine zk_iast (pc2 := 14) d_Mo_solve_13 rfl (by rfl) rfl (by omega) (by decide) ?_
  refine zx_aload_n (pc2 := 15) d_Mo_solve_14 rfl rfl ?_
  refine zm_getR (pc2 := 18) f_Mo_81 d_Mo_solve_15 rfl zl_c546 rfl ?_
  refine zx_iconst (pc2 := 19) (v := nI 2) d_Mo_solve_18 rfl (by decide) ?_
  refine zx_iconst (pc2 := 20) (v := nI 0) d_Mo_solve_19 rfl (by decide) ?_
  refine zk_iast (pc2 := 21) d_Mo_solve_20 rfl (by rfl) rfl (by omega) (by decide) ?_
  refine zx_iconst (pc2 := 22) (v := nI 0) d_Mo_solve_21 rfl (by decide) ?_
  refine zx_ist4 (pc2 := 24) d_Mo_solve_22 rfl rfl (by decide) ?_
  refine c_Mo_solve0 (A := 0) (B := 0) (C := 0) hT h0 h1 h2 l0 l1 l2 n01 n12 n20 w0 rfl rfl rfl (fun _ _ _ _ _ => ?_)
  refine c_Mo_solve1 hT h0 h1 h2 l0 l1 l2 n01 n12 n20 w1 rfl rfl rfl (fun _ _ _ _ _ => ?_)
  refine c_Mo_solve2 hT h0 h1 h2 l0 l1 l2 n01 n12 n20 w2 rfl rfl rfl (fun _ _ _ _ _ => ?_)
  refine zx_iload (pc2 := 26) d_Mo_solve_24 rfl rfl ?_
  refine zx_iconst (pc2 := 27) (v := nI 3) d_Mo_solve_26 rfl (by decide) ?_
  refine zx_icmp_ge (pc2 := 30) d_Mo_solve_27 rfl (tgt := 191) (by decide) (fun _ => ?_) (fun cz => absurd (nI_le (Nat.le_refl 3) (by decide)) cz)
  exact zx_vret d_Mo_solve_191 rfl (⟨rfl, rfl, rfl⟩)
end C59
