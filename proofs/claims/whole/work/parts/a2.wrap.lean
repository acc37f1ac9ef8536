/-! The law's wrappers (written by program) -/
def zKW (l : Launch) (D : va_G) (ar : Nat → ClassId) (b : Nat) (Z : State → Prop) (y : zx_Y) (av : List Value) (M : zm_M) (n : Nat) (r : Value) (M' : zm_M) (n' : Nat) : Prop := zMW (zn_G l D ar b Z) y (zx_rmT 8) av (zm_h b ar zl M) n (zx_po (some r) (zm_h b ar zl M') n')
/-- which exceptions are not which -/
def zt_nc (Z : State → Prop) : Prop := (∀ U, Z U → va_Nc "java/lang/IllegalStateException" "java/lang/IllegalArgumentException" U) ∧ (∀ U, Z U → va_Nc "java/lang/IllegalStateException" "java/lang/IndexOutOfBoundsException" U) ∧ (∀ U, Z U → va_Nc "java/lang/IllegalArgumentException" "java/lang/IndexOutOfBoundsException" U) ∧ (∀ U, Z U → va_Nc "java/util/NoSuchElementException" "java/lang/IllegalArgumentException" U) ∧ ∀ U, Z U → va_Nc "java/lang/IllegalStateException" "java/util/NoSuchElementException" U
section CA2
variable {l : Launch} {D : va_G} {ar : Nat → ClassId} {b : Nat} {Z : State → Prop} {M M2 : zm_M} {n : Nat}
theorem w_campaign {x0 : Int32} {v : Int32} {dd : Nat} (hd : dd < 8) (hM : zK l D ar b Z y_Ho_campaign dd [.ref (b + 0), .int x0] M n (some (.int v)) M2) : zKW l D ar b Z y_La_campaign [.ref (b + 0), .int x0, .ref (b + 572)] M n (.int (nI 0)) (zm_wJ M2 572 0 v.toInt64) n := by
  refine zx_entryW (L := [some (.ref (b + 0)), some (.int x0), some (.ref (b + 572)), none]) rfl (Nat.le_of_ble_eq_true rfl) rfl rfl ?_
  refine zx_aload_n (pc2 := 1) d_La_campaign_0 rfl rfl ?_
  refine zx_iconst (pc2 := 2) (v := nI 0) d_La_campaign_1 rfl (by decide) ?_
  refine zx_aload_n (pc2 := 3) d_La_campaign_2 rfl rfl ?_
  refine zx_iload_n (pc2 := 4) d_La_campaign_3 rfl rfl ?_
  refine zt_callV (pc2 := 7) s_La_7 v_Ho_campaign zl_c0 hM d_La_campaign_4 rfl rfl rfl (Nat.le_of_ble_eq_true rfl) hd (by decide) ?_
  refine zx_i2l (pc2 := 8) d_La_campaign_7 rfl ?_
  refine zk_last (pc2 := 9) d_La_campaign_8 rfl zl_c572 rfl (by decide) (by decide) ?_
  refine zx_goto (tgt := 15) d_La_campaign_9 (by decide) ?_
  refine zx_iconst (pc2 := 16) (v := nI 0) d_La_campaign_15 rfl (by decide) ?_
  refine zx_widen (k2 := 1) (j2 := 6) (by decide) (by decide) ?_
  exact zx_iret d_La_campaign_16 rfl ⟨rfl, rfl, rfl⟩
theorem w_campaign_1 {x0 : Int32} (hM : zKT l D ar b Z y_Ho_campaign 7 [.ref (b + 0), .int x0] M n "java/lang/IllegalArgumentException" M2) : zKW l D ar b Z y_La_campaign [.ref (b + 0), .int x0, .ref (b + 572)] M n (.int (nI 1)) M2 (n + 1) := by
  refine zx_entryW (L := [some (.ref (b + 0)), some (.int x0), some (.ref (b + 572)), none]) rfl (Nat.le_of_ble_eq_true rfl) rfl rfl ?_
  refine zx_aload_n (pc2 := 1) d_La_campaign_0 rfl rfl ?_
  refine zx_iconst (pc2 := 2) (v := nI 0) d_La_campaign_1 rfl (by decide) ?_
  refine zx_aload_n (pc2 := 3) d_La_campaign_2 rfl rfl ?_
  refine zx_iload_n (pc2 := 4) d_La_campaign_3 rfl rfl ?_
  refine zx_callVH (pre := []) (x := ⟨0, 9, 12, 13⟩) (rest' := []) s_La_7 zn_w291 v_Ho_campaign (zm_at zl_c0) hM d_La_campaign_4 rfl rfl (Nat.le_of_ble_eq_true rfl) (by decide) (by decide) (by decide) (by decide) rfl (by decide) (by decide) zn_w290 (fun q hq => by cases hq) ?_
  intro a h' n' hp
  obtain ⟨rfl, rfl⟩ := hp
  refine zx_ast3 (pc2 := 13) d_La_campaign_12 rfl rfl (by decide) ?_
  refine zx_iconst (pc2 := 14) (v := nI 1) d_La_campaign_13 rfl (by decide) ?_
  exact zx_iret d_La_campaign_14 rfl ⟨rfl, rfl, rfl⟩
theorem w_propose {x0 : Int32} {v : Int32} {dd : Nat} (hd : dd < 8) (hM : zK l D ar b Z y_Ho_propose dd [.ref (b + 0), .int x0] M n (some (.int v)) M2) : zKW l D ar b Z y_La_propose [.ref (b + 0), .int x0, .ref (b + 572)] M n (.int (nI 0)) (zm_wJ M2 572 0 v.toInt64) n := by
  refine zx_entryW (L := [some (.ref (b + 0)), some (.int x0), some (.ref (b + 572)), none]) rfl (Nat.le_of_ble_eq_true rfl) rfl rfl ?_
  refine zx_aload_n (pc2 := 1) d_La_propose_0 rfl rfl ?_
  refine zx_iconst (pc2 := 2) (v := nI 0) d_La_propose_1 rfl (by decide) ?_
  refine zx_aload_n (pc2 := 3) d_La_propose_2 rfl rfl ?_
  refine zx_iload_n (pc2 := 4) d_La_propose_3 rfl rfl ?_
  refine zt_callV (pc2 := 7) s_La_15 v_Ho_propose zl_c0 hM d_La_propose_4 rfl rfl rfl (Nat.le_of_ble_eq_true rfl) hd (by decide) ?_
  refine zx_i2l (pc2 := 8) d_La_propose_7 rfl ?_
  refine zk_last (pc2 := 9) d_La_propose_8 rfl zl_c572 rfl (by decide) (by decide) ?_
  refine zx_goto (tgt := 18) d_La_propose_9 (by decide) ?_
  refine zx_iconst (pc2 := 19) (v := nI 0) d_La_propose_18 rfl (by decide) ?_
  refine zx_widen (k2 := 1) (j2 := 6) (by decide) (by decide) ?_
  exact zx_iret d_La_propose_19 rfl ⟨rfl, rfl, rfl⟩
theorem w_propose_1 {x0 : Int32} (hM : zKT l D ar b Z y_Ho_propose 7 [.ref (b + 0), .int x0] M n "java/lang/IllegalArgumentException" M2) : zKW l D ar b Z y_La_propose [.ref (b + 0), .int x0, .ref (b + 572)] M n (.int (nI 1)) M2 (n + 1) := by
  refine zx_entryW (L := [some (.ref (b + 0)), some (.int x0), some (.ref (b + 572)), none]) rfl (Nat.le_of_ble_eq_true rfl) rfl rfl ?_
  refine zx_aload_n (pc2 := 1) d_La_propose_0 rfl rfl ?_
  refine zx_iconst (pc2 := 2) (v := nI 0) d_La_propose_1 rfl (by decide) ?_
  refine zx_aload_n (pc2 := 3) d_La_propose_2 rfl rfl ?_
  refine zx_iload_n (pc2 := 4) d_La_propose_3 rfl rfl ?_
  refine zx_callVH (pre := []) (x := ⟨0, 9, 12, 13⟩) (rest' := [⟨0, 9, 15, 18⟩]) s_La_15 zn_w406 v_Ho_propose (zm_at zl_c0) hM d_La_propose_4 rfl rfl (Nat.le_of_ble_eq_true rfl) (by decide) (by decide) (by decide) (by decide) rfl (by decide) (by decide) zn_w290 (fun q hq => by cases hq) ?_
  intro a h' n' hp
  obtain ⟨rfl, rfl⟩ := hp
  refine zx_ast3 (pc2 := 13) d_La_propose_12 rfl rfl (by decide) ?_
  refine zx_iconst (pc2 := 14) (v := nI 1) d_La_propose_13 rfl (by decide) ?_
  exact zx_iret d_La_propose_14 rfl ⟨rfl, rfl, rfl⟩
theorem w_propose_2 {x0 : Int32} (hN : zt_nc Z) (hM : zKT l D ar b Z y_Ho_propose 7 [.ref (b + 0), .int x0] M n "java/lang/IllegalStateException" M2) : zKW l D ar b Z y_La_propose [.ref (b + 0), .int x0, .ref (b + 572)] M n (.int (nI 2)) M2 (n + 1) := by
  refine zx_entryW (L := [some (.ref (b + 0)), some (.int x0), some (.ref (b + 572)), none]) rfl (Nat.le_of_ble_eq_true rfl) rfl rfl ?_
  refine zx_aload_n (pc2 := 1) d_La_propose_0 rfl rfl ?_
  refine zx_iconst (pc2 := 2) (v := nI 0) d_La_propose_1 rfl (by decide) ?_
  refine zx_aload_n (pc2 := 3) d_La_propose_2 rfl rfl ?_
  refine zx_iload_n (pc2 := 4) d_La_propose_3 rfl rfl ?_
  refine zx_callVH (pre := [(⟨0, 9, 12, 13⟩, "java/lang/IllegalArgumentException")]) (x := ⟨0, 9, 15, 18⟩) (rest' := []) s_La_15 zn_w406 v_Ho_propose (zm_at zl_c0) hM d_La_propose_4 rfl rfl (Nat.le_of_ble_eq_true rfl) (by decide) (by decide) (by decide) (by decide) rfl (by decide) (by decide) zn_w405 (fun q hq => by
    rw [List.mem_singleton] at hq
    subst hq
    exact ⟨by decide, by decide, zn_w290, fun U hU => hN.1 U hU.2⟩) ?_
  intro a h' n' hp
  obtain ⟨rfl, rfl⟩ := hp
  refine zx_ast3 (pc2 := 16) d_La_propose_15 rfl rfl (by decide) ?_
  refine zx_iconst (pc2 := 17) (v := nI 2) d_La_propose_16 rfl (by decide) ?_
  exact zx_iret d_La_propose_17 rfl ⟨rfl, rfl, rfl⟩
theorem w_resend {x0 : Int32} {v : Int32} {dd : Nat} (hd : dd < 8) (hM : zK l D ar b Z y_Ho_resend dd [.ref (b + 0), .int x0] M n (some (.int v)) M2) : zKW l D ar b Z y_La_resend [.ref (b + 0), .int x0, .ref (b + 572)] M n (.int (nI 0)) (zm_wJ M2 572 0 v.toInt64) n := by
  refine zx_entryW (L := [some (.ref (b + 0)), some (.int x0), some (.ref (b + 572)), none]) rfl (Nat.le_of_ble_eq_true rfl) rfl rfl ?_
  refine zx_aload_n (pc2 := 1) d_La_resend_0 rfl rfl ?_
  refine zx_iconst (pc2 := 2) (v := nI 0) d_La_resend_1 rfl (by decide) ?_
  refine zx_aload_n (pc2 := 3) d_La_resend_2 rfl rfl ?_
  refine zx_iload_n (pc2 := 4) d_La_resend_3 rfl rfl ?_
  refine zt_callV (pc2 := 7) s_La_20 v_Ho_resend zl_c0 hM d_La_resend_4 rfl rfl rfl (Nat.le_of_ble_eq_true rfl) hd (by decide) ?_
  refine zx_i2l (pc2 := 8) d_La_resend_7 rfl ?_
  refine zk_last (pc2 := 9) d_La_resend_8 rfl zl_c572 rfl (by decide) (by decide) ?_
  refine zx_goto (tgt := 15) d_La_resend_9 (by decide) ?_
  refine zx_iconst (pc2 := 16) (v := nI 0) d_La_resend_15 rfl (by decide) ?_
  refine zx_widen (k2 := 1) (j2 := 6) (by decide) (by decide) ?_
  exact zx_iret d_La_resend_16 rfl ⟨rfl, rfl, rfl⟩
theorem w_resend_1 {x0 : Int32} (hM : zKT l D ar b Z y_Ho_resend 7 [.ref (b + 0), .int x0] M n "java/lang/IllegalArgumentException" M2) : zKW l D ar b Z y_La_resend [.ref (b + 0), .int x0, .ref (b + 572)] M n (.int (nI 1)) M2 (n + 1) := by
  refine zx_entryW (L := [some (.ref (b + 0)), some (.int x0), some (.ref (b + 572)), none]) rfl (Nat.le_of_ble_eq_true rfl) rfl rfl ?_
  refine zx_aload_n (pc2 := 1) d_La_resend_0 rfl rfl ?_
  refine zx_iconst (pc2 := 2) (v := nI 0) d_La_resend_1 rfl (by decide) ?_
  refine zx_aload_n (pc2 := 3) d_La_resend_2 rfl rfl ?_
  refine zx_iload_n (pc2 := 4) d_La_resend_3 rfl rfl ?_
  refine zx_callVH (pre := []) (x := ⟨0, 9, 12, 13⟩) (rest' := []) s_La_20 zn_w479 v_Ho_resend (zm_at zl_c0) hM d_La_resend_4 rfl rfl (Nat.le_of_ble_eq_true rfl) (by decide) (by decide) (by decide) (by decide) rfl (by decide) (by decide) zn_w290 (fun q hq => by cases hq) ?_
  intro a h' n' hp
  obtain ⟨rfl, rfl⟩ := hp
  refine zx_ast3 (pc2 := 13) d_La_resend_12 rfl rfl (by decide) ?_
  refine zx_iconst (pc2 := 14) (v := nI 1) d_La_resend_13 rfl (by decide) ?_
  exact zx_iret d_La_resend_14 rfl ⟨rfl, rfl, rfl⟩
theorem w_deliver {x0 : Int32} {v : Int32} {dd : Nat} (hd : dd < 8) (hM : zK l D ar b Z y_Ho_deliver dd [.ref (b + 0), .int x0] M n (some (.int v)) M2) : zKW l D ar b Z y_La_deliver [.ref (b + 0), .int x0, .ref (b + 572)] M n (.int (nI 0)) (zm_wJ M2 572 0 v.toInt64) n := by
  refine zx_entryW (L := [some (.ref (b + 0)), some (.int x0), some (.ref (b + 572)), none]) rfl (Nat.le_of_ble_eq_true rfl) rfl rfl ?_
  refine zx_aload_n (pc2 := 1) d_La_deliver_0 rfl rfl ?_
  refine zx_iconst (pc2 := 2) (v := nI 0) d_La_deliver_1 rfl (by decide) ?_
  refine zx_aload_n (pc2 := 3) d_La_deliver_2 rfl rfl ?_
  refine zx_iload_n (pc2 := 4) d_La_deliver_3 rfl rfl ?_
  refine zt_callV (pc2 := 7) s_La_23 v_Ho_deliver zl_c0 hM d_La_deliver_4 rfl rfl rfl (Nat.le_of_ble_eq_true rfl) hd (by decide) ?_
  refine zx_i2l (pc2 := 8) d_La_deliver_7 rfl ?_
  refine zk_last (pc2 := 9) d_La_deliver_8 rfl zl_c572 rfl (by decide) (by decide) ?_
  refine zx_goto (tgt := 15) d_La_deliver_9 (by decide) ?_
  refine zx_iconst (pc2 := 16) (v := nI 0) d_La_deliver_15 rfl (by decide) ?_
  refine zx_widen (k2 := 1) (j2 := 6) (by decide) (by decide) ?_
  exact zx_iret d_La_deliver_16 rfl ⟨rfl, rfl, rfl⟩
theorem w_deliver_1 {x0 : Int32} (hM : zKT l D ar b Z y_Ho_deliver 7 [.ref (b + 0), .int x0] M n "java/lang/IndexOutOfBoundsException" M2) : zKW l D ar b Z y_La_deliver [.ref (b + 0), .int x0, .ref (b + 572)] M n (.int (nI 1)) M2 (n + 1) := by
  refine zx_entryW (L := [some (.ref (b + 0)), some (.int x0), some (.ref (b + 572)), none]) rfl (Nat.le_of_ble_eq_true rfl) rfl rfl ?_
  refine zx_aload_n (pc2 := 1) d_La_deliver_0 rfl rfl ?_
  refine zx_iconst (pc2 := 2) (v := nI 0) d_La_deliver_1 rfl (by decide) ?_
  refine zx_aload_n (pc2 := 3) d_La_deliver_2 rfl rfl ?_
  refine zx_iload_n (pc2 := 4) d_La_deliver_3 rfl rfl ?_
  refine zx_callVH (pre := []) (x := ⟨0, 9, 12, 26⟩) (rest' := []) s_La_23 zn_w495 v_Ho_deliver (zm_at zl_c0) hM d_La_deliver_4 rfl rfl (Nat.le_of_ble_eq_true rfl) (by decide) (by decide) (by decide) (by decide) rfl (by decide) (by decide) zn_w494 (fun q hq => by cases hq) ?_
  intro a h' n' hp
  obtain ⟨rfl, rfl⟩ := hp
  refine zx_ast3 (pc2 := 13) d_La_deliver_12 rfl rfl (by decide) ?_
  refine zx_iconst (pc2 := 14) (v := nI 1) d_La_deliver_13 rfl (by decide) ?_
  exact zx_iret d_La_deliver_14 rfl ⟨rfl, rfl, rfl⟩
theorem w_drop {x0 : Int32} {dd : Nat} (hd : dd < 8) (hM : zK l D ar b Z y_Ho_drop dd [.ref (b + 0), .int x0] M n none M2) : zKW l D ar b Z y_La_drop [.ref (b + 0), .int x0] M n (.int (nI 0)) M2 n := by
  refine zx_entryW (L := [some (.ref (b + 0)), some (.int x0), none]) rfl (Nat.le_of_ble_eq_true rfl) rfl rfl ?_
  refine zx_aload_n (pc2 := 1) d_La_drop_0 rfl rfl ?_
  refine zx_iload_n (pc2 := 2) d_La_drop_1 rfl rfl ?_
  refine zt_callVv (pc2 := 5) s_La_28 v_Ho_drop zl_c0 hM d_La_drop_2 rfl rfl rfl (Nat.le_of_ble_eq_true rfl) hd (by decide) ?_
  refine zx_goto (tgt := 11) d_La_drop_5 (by decide) ?_
  refine zx_iconst (pc2 := 12) (v := nI 0) d_La_drop_11 rfl (by decide) ?_
  refine zx_widen (k2 := 1) (j2 := 6) (by decide) (by decide) ?_
  exact zx_iret d_La_drop_12 rfl ⟨rfl, rfl, rfl⟩
theorem w_drop_1 {x0 : Int32} (hM : zKT l D ar b Z y_Ho_drop 7 [.ref (b + 0), .int x0] M n "java/lang/IndexOutOfBoundsException" M2) : zKW l D ar b Z y_La_drop [.ref (b + 0), .int x0] M n (.int (nI 1)) M2 (n + 1) := by
  refine zx_entryW (L := [some (.ref (b + 0)), some (.int x0), none]) rfl (Nat.le_of_ble_eq_true rfl) rfl rfl ?_
  refine zx_aload_n (pc2 := 1) d_La_drop_0 rfl rfl ?_
  refine zx_iload_n (pc2 := 2) d_La_drop_1 rfl rfl ?_
  refine zx_callVH (pre := []) (x := ⟨0, 5, 8, 26⟩) (rest' := []) s_La_28 zn_w620 v_Ho_drop (zm_at zl_c0) hM d_La_drop_2 rfl rfl (Nat.le_of_ble_eq_true rfl) (by decide) (by decide) (by decide) (by decide) rfl (by decide) (by decide) zn_w494 (fun q hq => by cases hq) ?_
  intro a h' n' hp
  obtain ⟨rfl, rfl⟩ := hp
  refine zx_ast2 (pc2 := 9) d_La_drop_8 rfl rfl (by decide) ?_
  refine zx_iconst (pc2 := 10) (v := nI 1) d_La_drop_9 rfl (by decide) ?_
  exact zx_iret d_La_drop_10 rfl ⟨rfl, rfl, rfl⟩
theorem w_twin {x0 : Int32} {dd : Nat} (hd : dd < 8) (hM : zK l D ar b Z y_Ho_twin dd [.ref (b + 0), .int x0] M n none M2) : zKW l D ar b Z y_La_twin [.ref (b + 0), .int x0] M n (.int (nI 0)) M2 n := by
  refine zx_entryW (L := [some (.ref (b + 0)), some (.int x0), none]) rfl (Nat.le_of_ble_eq_true rfl) rfl rfl ?_
  refine zx_aload_n (pc2 := 1) d_La_twin_0 rfl rfl ?_
  refine zx_iload_n (pc2 := 2) d_La_twin_1 rfl rfl ?_
  refine zt_callVv (pc2 := 5) s_La_32 v_Ho_twin zl_c0 hM d_La_twin_2 rfl rfl rfl (Nat.le_of_ble_eq_true rfl) hd (by decide) ?_
  refine zx_goto (tgt := 14) d_La_twin_5 (by decide) ?_
  refine zx_iconst (pc2 := 15) (v := nI 0) d_La_twin_14 rfl (by decide) ?_
  refine zx_widen (k2 := 1) (j2 := 6) (by decide) (by decide) ?_
  exact zx_iret d_La_twin_15 rfl ⟨rfl, rfl, rfl⟩
theorem w_twin_1 {x0 : Int32} (hM : zKT l D ar b Z y_Ho_twin 7 [.ref (b + 0), .int x0] M n "java/lang/IndexOutOfBoundsException" M2) : zKW l D ar b Z y_La_twin [.ref (b + 0), .int x0] M n (.int (nI 1)) M2 (n + 1) := by
  refine zx_entryW (L := [some (.ref (b + 0)), some (.int x0), none]) rfl (Nat.le_of_ble_eq_true rfl) rfl rfl ?_
  refine zx_aload_n (pc2 := 1) d_La_twin_0 rfl rfl ?_
  refine zx_iload_n (pc2 := 2) d_La_twin_1 rfl rfl ?_
  refine zx_callVH (pre := []) (x := ⟨0, 5, 8, 26⟩) (rest' := [⟨0, 5, 11, 18⟩]) s_La_32 zn_w627 v_Ho_twin (zm_at zl_c0) hM d_La_twin_2 rfl rfl (Nat.le_of_ble_eq_true rfl) (by decide) (by decide) (by decide) (by decide) rfl (by decide) (by decide) zn_w494 (fun q hq => by cases hq) ?_
  intro a h' n' hp
  obtain ⟨rfl, rfl⟩ := hp
  refine zx_ast2 (pc2 := 9) d_La_twin_8 rfl rfl (by decide) ?_
  refine zx_iconst (pc2 := 10) (v := nI 1) d_La_twin_9 rfl (by decide) ?_
  exact zx_iret d_La_twin_10 rfl ⟨rfl, rfl, rfl⟩
theorem w_twin_2 {x0 : Int32} (hN : zt_nc Z) (hM : zKT l D ar b Z y_Ho_twin 7 [.ref (b + 0), .int x0] M n "java/lang/IllegalStateException" M2) : zKW l D ar b Z y_La_twin [.ref (b + 0), .int x0] M n (.int (nI 2)) M2 (n + 1) := by
  refine zx_entryW (L := [some (.ref (b + 0)), some (.int x0), none]) rfl (Nat.le_of_ble_eq_true rfl) rfl rfl ?_
  refine zx_aload_n (pc2 := 1) d_La_twin_0 rfl rfl ?_
  refine zx_iload_n (pc2 := 2) d_La_twin_1 rfl rfl ?_
  refine zx_callVH (pre := [(⟨0, 5, 8, 26⟩, "java/lang/IndexOutOfBoundsException")]) (x := ⟨0, 5, 11, 18⟩) (rest' := []) s_La_32 zn_w627 v_Ho_twin (zm_at zl_c0) hM d_La_twin_2 rfl rfl (Nat.le_of_ble_eq_true rfl) (by decide) (by decide) (by decide) (by decide) rfl (by decide) (by decide) zn_w405 (fun q hq => by
    rw [List.mem_singleton] at hq
    subst hq
    exact ⟨by decide, by decide, zn_w494, fun U hU => hN.2.1 U hU.2⟩) ?_
  intro a h' n' hp
  obtain ⟨rfl, rfl⟩ := hp
  refine zx_ast2 (pc2 := 12) d_La_twin_11 rfl rfl (by decide) ?_
  refine zx_iconst (pc2 := 13) (v := nI 2) d_La_twin_12 rfl (by decide) ?_
  exact zx_iret d_La_twin_13 rfl ⟨rfl, rfl, rfl⟩
theorem w_letter {x0 x1 : Int32} {v : Int32} {dd : Nat} (hd : dd < 8) (hM : zK l D ar b Z y_Ho_letter dd [.ref (b + 0), .int x0, .int x1] M n (some (.int v)) M2) : zKW l D ar b Z y_La_letter [.ref (b + 0), .int x0, .int x1, .ref (b + 572)] M n (.int (nI 0)) (zm_wJ M2 572 0 v.toInt64) n := by
  refine zx_entryW (L := [some (.ref (b + 0)), some (.int x0), some (.int x1), some (.ref (b + 572)), none]) rfl (Nat.le_of_ble_eq_true rfl) rfl rfl ?_
  refine zx_aload_n (pc2 := 1) d_La_letter_0 rfl rfl ?_
  refine zx_iconst (pc2 := 2) (v := nI 0) d_La_letter_1 rfl (by decide) ?_
  refine zx_aload_n (pc2 := 3) d_La_letter_2 rfl rfl ?_
  refine zx_iload_n (pc2 := 4) d_La_letter_3 rfl rfl ?_
  refine zx_iload_n (pc2 := 5) d_La_letter_4 rfl rfl ?_
  refine zt_callV (pc2 := 8) s_La_35 v_Ho_letter zl_c0 hM d_La_letter_5 rfl rfl rfl (Nat.le_of_ble_eq_true rfl) hd (by decide) ?_
  refine zx_i2l (pc2 := 9) d_La_letter_8 rfl ?_
  refine zk_last (pc2 := 10) d_La_letter_9 rfl zl_c572 rfl (by decide) (by decide) ?_
  refine zx_goto (tgt := 21) d_La_letter_10 (by decide) ?_
  refine zx_iconst (pc2 := 22) (v := nI 0) d_La_letter_21 rfl (by decide) ?_
  refine zx_widen (k2 := 1) (j2 := 6) (by decide) (by decide) ?_
  exact zx_iret d_La_letter_22 rfl ⟨rfl, rfl, rfl⟩
theorem w_letter_1 {x0 x1 : Int32} (hM : zKT l D ar b Z y_Ho_letter 7 [.ref (b + 0), .int x0, .int x1] M n "java/lang/IndexOutOfBoundsException" M2) : zKW l D ar b Z y_La_letter [.ref (b + 0), .int x0, .int x1, .ref (b + 572)] M n (.int (nI 1)) M2 (n + 1) := by
  refine zx_entryW (L := [some (.ref (b + 0)), some (.int x0), some (.int x1), some (.ref (b + 572)), none]) rfl (Nat.le_of_ble_eq_true rfl) rfl rfl ?_
  refine zx_aload_n (pc2 := 1) d_La_letter_0 rfl rfl ?_
  refine zx_iconst (pc2 := 2) (v := nI 0) d_La_letter_1 rfl (by decide) ?_
  refine zx_aload_n (pc2 := 3) d_La_letter_2 rfl rfl ?_
  refine zx_iload_n (pc2 := 4) d_La_letter_3 rfl rfl ?_
  refine zx_iload_n (pc2 := 5) d_La_letter_4 rfl rfl ?_
  refine zx_callVH (pre := []) (x := ⟨0, 10, 13, 26⟩) (rest' := [⟨0, 10, 17, 13⟩]) s_La_35 zn_w642 v_Ho_letter (zm_at zl_c0) hM d_La_letter_5 rfl rfl (Nat.le_of_ble_eq_true rfl) (by decide) (by decide) (by decide) (by decide) rfl (by decide) (by decide) zn_w494 (fun q hq => by cases hq) ?_
  intro a h' n' hp
  obtain ⟨rfl, rfl⟩ := hp
  refine zx_ast4 (pc2 := 15) d_La_letter_13 rfl rfl (by decide) ?_
  refine zx_iconst (pc2 := 16) (v := nI 1) d_La_letter_15 rfl (by decide) ?_
  exact zx_iret d_La_letter_16 rfl ⟨rfl, rfl, rfl⟩
theorem w_letter_2 {x0 x1 : Int32} (hN : zt_nc Z) (hM : zKT l D ar b Z y_Ho_letter 7 [.ref (b + 0), .int x0, .int x1] M n "java/lang/IllegalArgumentException" M2) : zKW l D ar b Z y_La_letter [.ref (b + 0), .int x0, .int x1, .ref (b + 572)] M n (.int (nI 2)) M2 (n + 1) := by
  refine zx_entryW (L := [some (.ref (b + 0)), some (.int x0), some (.int x1), some (.ref (b + 572)), none]) rfl (Nat.le_of_ble_eq_true rfl) rfl rfl ?_
  refine zx_aload_n (pc2 := 1) d_La_letter_0 rfl rfl ?_
  refine zx_iconst (pc2 := 2) (v := nI 0) d_La_letter_1 rfl (by decide) ?_
  refine zx_aload_n (pc2 := 3) d_La_letter_2 rfl rfl ?_
  refine zx_iload_n (pc2 := 4) d_La_letter_3 rfl rfl ?_
  refine zx_iload_n (pc2 := 5) d_La_letter_4 rfl rfl ?_
  refine zx_callVH (pre := [(⟨0, 10, 13, 26⟩, "java/lang/IndexOutOfBoundsException")]) (x := ⟨0, 10, 17, 13⟩) (rest' := []) s_La_35 zn_w642 v_Ho_letter (zm_at zl_c0) hM d_La_letter_5 rfl rfl (Nat.le_of_ble_eq_true rfl) (by decide) (by decide) (by decide) (by decide) rfl (by decide) (by decide) zn_w290 (fun q hq => by
    rw [List.mem_singleton] at hq
    subst hq
    exact ⟨by decide, by decide, zn_w494, fun U hU => hN.2.2.1 U hU.2⟩) ?_
  intro a h' n' hp
  obtain ⟨rfl, rfl⟩ := hp
  refine zx_ast4 (pc2 := 19) d_La_letter_17 rfl rfl (by decide) ?_
  refine zx_iconst (pc2 := 20) (v := nI 2) d_La_letter_19 rfl (by decide) ?_
  exact zx_iret d_La_letter_20 rfl ⟨rfl, rfl, rfl⟩
theorem w_up {x0 x1 : Int32} {v : Int32} {dd : Nat} (hd : dd < 8) (hM : zK l D ar b Z y_Ho_up dd [.ref (b + 0), .int x0, .int x1] M n (some (.int v)) M2) : zKW l D ar b Z y_La_up [.ref (b + 0), .int x0, .int x1, .ref (b + 572)] M n (.int (nI 0)) (zm_wJ M2 572 0 (if v = 0 then 0 else 1)) n := by
  refine zx_entryW (L := [some (.ref (b + 0)), some (.int x0), some (.int x1), some (.ref (b + 572)), none]) rfl (Nat.le_of_ble_eq_true rfl) rfl rfl ?_
  refine zx_aload_n (pc2 := 1) d_La_up_0 rfl rfl ?_
  refine zx_iconst (pc2 := 2) (v := nI 0) d_La_up_1 rfl (by decide) ?_
  refine zx_aload_n (pc2 := 3) d_La_up_2 rfl rfl ?_
  refine zx_iload_n (pc2 := 4) d_La_up_3 rfl rfl ?_
  refine zx_iload_n (pc2 := 5) d_La_up_4 rfl rfl ?_
  refine zt_callV (pc2 := 8) s_La_39 v_Ho_up zl_c0 hM d_La_up_5 rfl rfl rfl (Nat.le_of_ble_eq_true rfl) hd (by decide) ?_
  by_cases c : v = 0
  · rw [if_pos c]
    refine zx_if_eq (pc2 := 11) d_La_up_8 rfl (tgt := 15) (by decide) (fun _ => ?_) (fun cz => absurd c cz)
    refine zx_lconst (pc2 := 16) (v := 0) d_La_up_15 rfl rfl ?_
    refine zk_last (pc2 := 17) d_La_up_16 rfl zl_c572 rfl (by decide) (by decide) ?_
    refine zx_goto (tgt := 24) d_La_up_17 (by decide) ?_
    refine zx_iconst (pc2 := 25) (v := nI 0) d_La_up_24 rfl (by decide) ?_
    refine zx_widen (k2 := 1) (j2 := 6) (by decide) (by decide) ?_
    exact zx_iret d_La_up_25 rfl ⟨rfl, rfl, rfl⟩
  · rw [if_neg c]
    refine zx_if_eq (pc2 := 11) d_La_up_8 rfl (tgt := 15) (by decide) (fun cz => absurd cz c) (fun _ => ?_)
    refine zx_lconst (pc2 := 12) (v := 1) d_La_up_11 rfl rfl ?_
    refine zx_goto (tgt := 16) d_La_up_12 (by decide) ?_
    refine zk_last (pc2 := 17) d_La_up_16 rfl zl_c572 rfl (by decide) (by decide) ?_
    refine zx_goto (tgt := 24) d_La_up_17 (by decide) ?_
    refine zx_iconst (pc2 := 25) (v := nI 0) d_La_up_24 rfl (by decide) ?_
    refine zx_widen (k2 := 1) (j2 := 6) (by decide) (by decide) ?_
    exact zx_iret d_La_up_25 rfl ⟨rfl, rfl, rfl⟩
theorem w_up_1 {x0 x1 : Int32} (hM : zKT l D ar b Z y_Ho_up 7 [.ref (b + 0), .int x0, .int x1] M n "java/lang/IllegalArgumentException" M2) : zKW l D ar b Z y_La_up [.ref (b + 0), .int x0, .int x1, .ref (b + 572)] M n (.int (nI 1)) M2 (n + 1) := by
  refine zx_entryW (L := [some (.ref (b + 0)), some (.int x0), some (.int x1), some (.ref (b + 572)), none]) rfl (Nat.le_of_ble_eq_true rfl) rfl rfl ?_
  refine zx_aload_n (pc2 := 1) d_La_up_0 rfl rfl ?_
  refine zx_iconst (pc2 := 2) (v := nI 0) d_La_up_1 rfl (by decide) ?_
  refine zx_aload_n (pc2 := 3) d_La_up_2 rfl rfl ?_
  refine zx_iload_n (pc2 := 4) d_La_up_3 rfl rfl ?_
  refine zx_iload_n (pc2 := 5) d_La_up_4 rfl rfl ?_
  refine zx_callVH (pre := []) (x := ⟨0, 17, 20, 13⟩) (rest' := []) s_La_39 zn_w649 v_Ho_up (zm_at zl_c0) hM d_La_up_5 rfl rfl (Nat.le_of_ble_eq_true rfl) (by decide) (by decide) (by decide) (by decide) rfl (by decide) (by decide) zn_w290 (fun q hq => by cases hq) ?_
  intro a h' n' hp
  obtain ⟨rfl, rfl⟩ := hp
  refine zx_ast4 (pc2 := 22) d_La_up_20 rfl rfl (by decide) ?_
  refine zx_iconst (pc2 := 23) (v := nI 1) d_La_up_22 rfl (by decide) ?_
  exact zx_iret d_La_up_23 rfl ⟨rfl, rfl, rfl⟩
theorem w_wipe {x0 : Int32} {dd : Nat} (hd : dd < 8) (hM : zK l D ar b Z y_Ho_wipe dd [.ref (b + 0), .int x0] M n none M2) : zKW l D ar b Z y_La_wipe [.ref (b + 0), .int x0] M n (.int (nI 0)) M2 n := by
  refine zx_entryW (L := [some (.ref (b + 0)), some (.int x0), none]) rfl (Nat.le_of_ble_eq_true rfl) rfl rfl ?_
  refine zx_aload_n (pc2 := 1) d_La_wipe_0 rfl rfl ?_
  refine zx_iload_n (pc2 := 2) d_La_wipe_1 rfl rfl ?_
  refine zt_callVv (pc2 := 5) s_La_43 v_Ho_wipe zl_c0 hM d_La_wipe_2 rfl rfl rfl (Nat.le_of_ble_eq_true rfl) hd (by decide) ?_
  refine zx_goto (tgt := 11) d_La_wipe_5 (by decide) ?_
  refine zx_iconst (pc2 := 12) (v := nI 0) d_La_wipe_11 rfl (by decide) ?_
  refine zx_widen (k2 := 1) (j2 := 6) (by decide) (by decide) ?_
  exact zx_iret d_La_wipe_12 rfl ⟨rfl, rfl, rfl⟩
theorem w_wipe_1 {x0 : Int32} (hM : zKT l D ar b Z y_Ho_wipe 7 [.ref (b + 0), .int x0] M n "java/lang/IllegalArgumentException" M2) : zKW l D ar b Z y_La_wipe [.ref (b + 0), .int x0] M n (.int (nI 1)) M2 (n + 1) := by
  refine zx_entryW (L := [some (.ref (b + 0)), some (.int x0), none]) rfl (Nat.le_of_ble_eq_true rfl) rfl rfl ?_
  refine zx_aload_n (pc2 := 1) d_La_wipe_0 rfl rfl ?_
  refine zx_iload_n (pc2 := 2) d_La_wipe_1 rfl rfl ?_
  refine zx_callVH (pre := []) (x := ⟨0, 5, 8, 13⟩) (rest' := []) s_La_43 zn_w659 v_Ho_wipe (zm_at zl_c0) hM d_La_wipe_2 rfl rfl (Nat.le_of_ble_eq_true rfl) (by decide) (by decide) (by decide) (by decide) rfl (by decide) (by decide) zn_w290 (fun q hq => by cases hq) ?_
  intro a h' n' hp
  obtain ⟨rfl, rfl⟩ := hp
  refine zx_ast2 (pc2 := 9) d_La_wipe_8 rfl rfl (by decide) ?_
  refine zx_iconst (pc2 := 10) (v := nI 1) d_La_wipe_9 rfl (by decide) ?_
  exact zx_iret d_La_wipe_10 rfl ⟨rfl, rfl, rfl⟩
theorem w_catchUp {x0 x1 : Int32} {v : Int32} {dd : Nat} (hd : dd < 8) (hM : zK l D ar b Z y_Ho_catchUp dd [.ref (b + 0), .int x0, .int x1] M n (some (.int v)) M2) : zKW l D ar b Z y_La_catchUp [.ref (b + 0), .int x0, .int x1, .ref (b + 572)] M n (.int (nI 0)) (zm_wJ M2 572 0 v.toInt64) n := by
  refine zx_entryW (L := [some (.ref (b + 0)), some (.int x0), some (.int x1), some (.ref (b + 572)), none]) rfl (Nat.le_of_ble_eq_true rfl) rfl rfl ?_
  refine zx_aload_n (pc2 := 1) d_La_catchUp_0 rfl rfl ?_
  refine zx_iconst (pc2 := 2) (v := nI 0) d_La_catchUp_1 rfl (by decide) ?_
  refine zx_aload_n (pc2 := 3) d_La_catchUp_2 rfl rfl ?_
  refine zx_iload_n (pc2 := 4) d_La_catchUp_3 rfl rfl ?_
  refine zx_iload_n (pc2 := 5) d_La_catchUp_4 rfl rfl ?_
  refine zt_callV (pc2 := 8) s_La_46 v_Ho_catchUp zl_c0 hM d_La_catchUp_5 rfl rfl rfl (Nat.le_of_ble_eq_true rfl) hd (by decide) ?_
  refine zx_i2l (pc2 := 9) d_La_catchUp_8 rfl ?_
  refine zk_last (pc2 := 10) d_La_catchUp_9 rfl zl_c572 rfl (by decide) (by decide) ?_
  refine zx_goto (tgt := 21) d_La_catchUp_10 (by decide) ?_
  refine zx_iconst (pc2 := 22) (v := nI 0) d_La_catchUp_21 rfl (by decide) ?_
  refine zx_widen (k2 := 1) (j2 := 6) (by decide) (by decide) ?_
  exact zx_iret d_La_catchUp_22 rfl ⟨rfl, rfl, rfl⟩
theorem w_catchUp_1 {x0 x1 : Int32} (hM : zKT l D ar b Z y_Ho_catchUp 7 [.ref (b + 0), .int x0, .int x1] M n "java/lang/IllegalArgumentException" M2) : zKW l D ar b Z y_La_catchUp [.ref (b + 0), .int x0, .int x1, .ref (b + 572)] M n (.int (nI 1)) M2 (n + 1) := by
  refine zx_entryW (L := [some (.ref (b + 0)), some (.int x0), some (.int x1), some (.ref (b + 572)), none]) rfl (Nat.le_of_ble_eq_true rfl) rfl rfl ?_
  refine zx_aload_n (pc2 := 1) d_La_catchUp_0 rfl rfl ?_
  refine zx_iconst (pc2 := 2) (v := nI 0) d_La_catchUp_1 rfl (by decide) ?_
  refine zx_aload_n (pc2 := 3) d_La_catchUp_2 rfl rfl ?_
  refine zx_iload_n (pc2 := 4) d_La_catchUp_3 rfl rfl ?_
  refine zx_iload_n (pc2 := 5) d_La_catchUp_4 rfl rfl ?_
  refine zx_callVH (pre := []) (x := ⟨0, 10, 13, 13⟩) (rest' := [⟨0, 10, 17, 18⟩]) s_La_46 zn_w674 v_Ho_catchUp (zm_at zl_c0) hM d_La_catchUp_5 rfl rfl (Nat.le_of_ble_eq_true rfl) (by decide) (by decide) (by decide) (by decide) rfl (by decide) (by decide) zn_w290 (fun q hq => by cases hq) ?_
  intro a h' n' hp
  obtain ⟨rfl, rfl⟩ := hp
  refine zx_ast4 (pc2 := 15) d_La_catchUp_13 rfl rfl (by decide) ?_
  refine zx_iconst (pc2 := 16) (v := nI 1) d_La_catchUp_15 rfl (by decide) ?_
  exact zx_iret d_La_catchUp_16 rfl ⟨rfl, rfl, rfl⟩
theorem w_catchUp_2 {x0 x1 : Int32} (hN : zt_nc Z) (hM : zKT l D ar b Z y_Ho_catchUp 7 [.ref (b + 0), .int x0, .int x1] M n "java/lang/IllegalStateException" M2) : zKW l D ar b Z y_La_catchUp [.ref (b + 0), .int x0, .int x1, .ref (b + 572)] M n (.int (nI 2)) M2 (n + 1) := by
  refine zx_entryW (L := [some (.ref (b + 0)), some (.int x0), some (.int x1), some (.ref (b + 572)), none]) rfl (Nat.le_of_ble_eq_true rfl) rfl rfl ?_
  refine zx_aload_n (pc2 := 1) d_La_catchUp_0 rfl rfl ?_
  refine zx_iconst (pc2 := 2) (v := nI 0) d_La_catchUp_1 rfl (by decide) ?_
  refine zx_aload_n (pc2 := 3) d_La_catchUp_2 rfl rfl ?_
  refine zx_iload_n (pc2 := 4) d_La_catchUp_3 rfl rfl ?_
  refine zx_iload_n (pc2 := 5) d_La_catchUp_4 rfl rfl ?_
  refine zx_callVH (pre := [(⟨0, 10, 13, 13⟩, "java/lang/IllegalArgumentException")]) (x := ⟨0, 10, 17, 18⟩) (rest' := []) s_La_46 zn_w674 v_Ho_catchUp (zm_at zl_c0) hM d_La_catchUp_5 rfl rfl (Nat.le_of_ble_eq_true rfl) (by decide) (by decide) (by decide) (by decide) rfl (by decide) (by decide) zn_w405 (fun q hq => by
    rw [List.mem_singleton] at hq
    subst hq
    exact ⟨by decide, by decide, zn_w290, fun U hU => hN.1 U hU.2⟩) ?_
  intro a h' n' hp
  obtain ⟨rfl, rfl⟩ := hp
  refine zx_ast4 (pc2 := 19) d_La_catchUp_17 rfl rfl (by decide) ?_
  refine zx_iconst (pc2 := 20) (v := nI 2) d_La_catchUp_19 rfl (by decide) ?_
  exact zx_iret d_La_catchUp_20 rfl ⟨rfl, rfl, rfl⟩
theorem w_decided {x0 x1 : Int32} {v : Int32} {dd : Nat} (hd : dd < 8) (hM : zK l D ar b Z y_Ho_decided dd [.ref (b + 0), .int x0, .int x1] M n (some (.int v)) M2) : zKW l D ar b Z y_La_decided [.ref (b + 0), .int x0, .int x1, .ref (b + 572)] M n (.int (nI 0)) (zm_wJ M2 572 0 v.toInt64) n := by
  refine zx_entryW (L := [some (.ref (b + 0)), some (.int x0), some (.int x1), some (.ref (b + 572)), none]) rfl (Nat.le_of_ble_eq_true rfl) rfl rfl ?_
  refine zx_aload_n (pc2 := 1) d_La_decided_0 rfl rfl ?_
  refine zx_iconst (pc2 := 2) (v := nI 0) d_La_decided_1 rfl (by decide) ?_
  refine zx_aload_n (pc2 := 3) d_La_decided_2 rfl rfl ?_
  refine zx_iload_n (pc2 := 4) d_La_decided_3 rfl rfl ?_
  refine zx_iload_n (pc2 := 5) d_La_decided_4 rfl rfl ?_
  refine zt_callV (pc2 := 8) s_La_49 v_Ho_decided zl_c0 hM d_La_decided_5 rfl rfl rfl (Nat.le_of_ble_eq_true rfl) hd (by decide) ?_
  refine zx_i2l (pc2 := 9) d_La_decided_8 rfl ?_
  refine zk_last (pc2 := 10) d_La_decided_9 rfl zl_c572 rfl (by decide) (by decide) ?_
  refine zx_goto (tgt := 17) d_La_decided_10 (by decide) ?_
  refine zx_iconst (pc2 := 18) (v := nI 0) d_La_decided_17 rfl (by decide) ?_
  refine zx_widen (k2 := 1) (j2 := 6) (by decide) (by decide) ?_
  exact zx_iret d_La_decided_18 rfl ⟨rfl, rfl, rfl⟩
theorem w_decided_1 {x0 x1 : Int32} (hM : zKT l D ar b Z y_Ho_decided 7 [.ref (b + 0), .int x0, .int x1] M n "java/lang/IllegalArgumentException" M2) : zKW l D ar b Z y_La_decided [.ref (b + 0), .int x0, .int x1, .ref (b + 572)] M n (.int (nI 1)) M2 (n + 1) := by
  refine zx_entryW (L := [some (.ref (b + 0)), some (.int x0), some (.int x1), some (.ref (b + 572)), none]) rfl (Nat.le_of_ble_eq_true rfl) rfl rfl ?_
  refine zx_aload_n (pc2 := 1) d_La_decided_0 rfl rfl ?_
  refine zx_iconst (pc2 := 2) (v := nI 0) d_La_decided_1 rfl (by decide) ?_
  refine zx_aload_n (pc2 := 3) d_La_decided_2 rfl rfl ?_
  refine zx_iload_n (pc2 := 4) d_La_decided_3 rfl rfl ?_
  refine zx_iload_n (pc2 := 5) d_La_decided_4 rfl rfl ?_
  refine zx_callVH (pre := []) (x := ⟨0, 10, 13, 13⟩) (rest' := []) s_La_49 zn_w689 v_Ho_decided (zm_at zl_c0) hM d_La_decided_5 rfl rfl (Nat.le_of_ble_eq_true rfl) (by decide) (by decide) (by decide) (by decide) rfl (by decide) (by decide) zn_w290 (fun q hq => by cases hq) ?_
  intro a h' n' hp
  obtain ⟨rfl, rfl⟩ := hp
  refine zx_ast4 (pc2 := 15) d_La_decided_13 rfl rfl (by decide) ?_
  refine zx_iconst (pc2 := 16) (v := nI 1) d_La_decided_15 rfl (by decide) ?_
  exact zx_iret d_La_decided_16 rfl ⟨rfl, rfl, rfl⟩
theorem w_read {x0 x1 : Int32} {v : Int32} {dd : Nat} (hd : dd < 8) (hM : zK l D ar b Z y_Ho_read dd [.ref (b + 0), .int x0, .int x1] M n (some (.int v)) M2) : zKW l D ar b Z y_La_read [.ref (b + 0), .int x0, .int x1, .ref (b + 572)] M n (.int (nI 0)) (zm_wJ M2 572 0 v.toInt64) n := by
  refine zx_entryW (L := [some (.ref (b + 0)), some (.int x0), some (.int x1), some (.ref (b + 572)), none]) rfl (Nat.le_of_ble_eq_true rfl) rfl rfl ?_
  refine zx_aload_n (pc2 := 1) d_La_read_0 rfl rfl ?_
  refine zx_iconst (pc2 := 2) (v := nI 0) d_La_read_1 rfl (by decide) ?_
  refine zx_aload_n (pc2 := 3) d_La_read_2 rfl rfl ?_
  refine zx_iload_n (pc2 := 4) d_La_read_3 rfl rfl ?_
  refine zx_iload_n (pc2 := 5) d_La_read_4 rfl rfl ?_
  refine zt_callV (pc2 := 8) s_La_52 v_Ho_read zl_c0 hM d_La_read_5 rfl rfl rfl (Nat.le_of_ble_eq_true rfl) hd (by decide) ?_
  refine zx_i2l (pc2 := 9) d_La_read_8 rfl ?_
  refine zk_last (pc2 := 10) d_La_read_9 rfl zl_c572 rfl (by decide) (by decide) ?_
  refine zx_goto (tgt := 25) d_La_read_10 (by decide) ?_
  refine zx_iconst (pc2 := 26) (v := nI 0) d_La_read_25 rfl (by decide) ?_
  refine zx_widen (k2 := 1) (j2 := 6) (by decide) (by decide) ?_
  exact zx_iret d_La_read_26 rfl ⟨rfl, rfl, rfl⟩
theorem w_read_1 {x0 x1 : Int32} (hM : zKT l D ar b Z y_Ho_read 7 [.ref (b + 0), .int x0, .int x1] M n "java/lang/IllegalArgumentException" M2) : zKW l D ar b Z y_La_read [.ref (b + 0), .int x0, .int x1, .ref (b + 572)] M n (.int (nI 1)) M2 (n + 1) := by
  refine zx_entryW (L := [some (.ref (b + 0)), some (.int x0), some (.int x1), some (.ref (b + 572)), none]) rfl (Nat.le_of_ble_eq_true rfl) rfl rfl ?_
  refine zx_aload_n (pc2 := 1) d_La_read_0 rfl rfl ?_
  refine zx_iconst (pc2 := 2) (v := nI 0) d_La_read_1 rfl (by decide) ?_
  refine zx_aload_n (pc2 := 3) d_La_read_2 rfl rfl ?_
  refine zx_iload_n (pc2 := 4) d_La_read_3 rfl rfl ?_
  refine zx_iload_n (pc2 := 5) d_La_read_4 rfl rfl ?_
  refine zx_callVH (pre := []) (x := ⟨0, 10, 13, 13⟩) (rest' := [⟨0, 10, 17, 55⟩, ⟨0, 10, 21, 18⟩]) s_La_52 zn_w700 v_Ho_read (zm_at zl_c0) hM d_La_read_5 rfl rfl (Nat.le_of_ble_eq_true rfl) (by decide) (by decide) (by decide) (by decide) rfl (by decide) (by decide) zn_w290 (fun q hq => by cases hq) ?_
  intro a h' n' hp
  obtain ⟨rfl, rfl⟩ := hp
  refine zx_ast4 (pc2 := 15) d_La_read_13 rfl rfl (by decide) ?_
  refine zx_iconst (pc2 := 16) (v := nI 1) d_La_read_15 rfl (by decide) ?_
  exact zx_iret d_La_read_16 rfl ⟨rfl, rfl, rfl⟩
theorem w_read_2 {x0 x1 : Int32} (hN : zt_nc Z) (hM : zKT l D ar b Z y_Ho_read 7 [.ref (b + 0), .int x0, .int x1] M n "java/util/NoSuchElementException" M2) : zKW l D ar b Z y_La_read [.ref (b + 0), .int x0, .int x1, .ref (b + 572)] M n (.int (nI 2)) M2 (n + 1) := by
  refine zx_entryW (L := [some (.ref (b + 0)), some (.int x0), some (.int x1), some (.ref (b + 572)), none]) rfl (Nat.le_of_ble_eq_true rfl) rfl rfl ?_
  refine zx_aload_n (pc2 := 1) d_La_read_0 rfl rfl ?_
  refine zx_iconst (pc2 := 2) (v := nI 0) d_La_read_1 rfl (by decide) ?_
  refine zx_aload_n (pc2 := 3) d_La_read_2 rfl rfl ?_
  refine zx_iload_n (pc2 := 4) d_La_read_3 rfl rfl ?_
  refine zx_iload_n (pc2 := 5) d_La_read_4 rfl rfl ?_
  refine zx_callVH (pre := [(⟨0, 10, 13, 13⟩, "java/lang/IllegalArgumentException")]) (x := ⟨0, 10, 17, 55⟩) (rest' := [⟨0, 10, 21, 18⟩]) s_La_52 zn_w700 v_Ho_read (zm_at zl_c0) hM d_La_read_5 rfl rfl (Nat.le_of_ble_eq_true rfl) (by decide) (by decide) (by decide) (by decide) rfl (by decide) (by decide) zn_w699 (fun q hq => by
    rw [List.mem_singleton] at hq
    subst hq
    exact ⟨by decide, by decide, zn_w290, fun U hU => hN.2.2.2.1 U hU.2⟩) ?_
  intro a h' n' hp
  obtain ⟨rfl, rfl⟩ := hp
  refine zx_ast4 (pc2 := 19) d_La_read_17 rfl rfl (by decide) ?_
  refine zx_iconst (pc2 := 20) (v := nI 2) d_La_read_19 rfl (by decide) ?_
  exact zx_iret d_La_read_20 rfl ⟨rfl, rfl, rfl⟩
theorem w_read_3 {x0 x1 : Int32} (hN : zt_nc Z) (hM : zKT l D ar b Z y_Ho_read 7 [.ref (b + 0), .int x0, .int x1] M n "java/lang/IllegalStateException" M2) : zKW l D ar b Z y_La_read [.ref (b + 0), .int x0, .int x1, .ref (b + 572)] M n (.int (nI 3)) M2 (n + 1) := by
  refine zx_entryW (L := [some (.ref (b + 0)), some (.int x0), some (.int x1), some (.ref (b + 572)), none]) rfl (Nat.le_of_ble_eq_true rfl) rfl rfl ?_
  refine zx_aload_n (pc2 := 1) d_La_read_0 rfl rfl ?_
  refine zx_iconst (pc2 := 2) (v := nI 0) d_La_read_1 rfl (by decide) ?_
  refine zx_aload_n (pc2 := 3) d_La_read_2 rfl rfl ?_
  refine zx_iload_n (pc2 := 4) d_La_read_3 rfl rfl ?_
  refine zx_iload_n (pc2 := 5) d_La_read_4 rfl rfl ?_
  refine zx_callVH (pre := [(⟨0, 10, 13, 13⟩, "java/lang/IllegalArgumentException"), (⟨0, 10, 17, 55⟩, "java/util/NoSuchElementException")]) (x := ⟨0, 10, 21, 18⟩) (rest' := []) s_La_52 zn_w700 v_Ho_read (zm_at zl_c0) hM d_La_read_5 rfl rfl (Nat.le_of_ble_eq_true rfl) (by decide) (by decide) (by decide) (by decide) rfl (by decide) (by decide) zn_w405 (fun q hq => by
    rw [List.mem_cons, List.mem_singleton] at hq
    rcases hq with rfl | rfl
    · exact ⟨by decide, by decide, zn_w290, fun U hU => hN.1 U hU.2⟩
    · exact ⟨by decide, by decide, zn_w699, fun U hU => hN.2.2.2.2 U hU.2⟩) ?_
  intro a h' n' hp
  obtain ⟨rfl, rfl⟩ := hp
  refine zx_ast4 (pc2 := 23) d_La_read_21 rfl rfl (by decide) ?_
  refine zx_iconst (pc2 := 24) (v := nI 3) d_La_read_23 rfl (by decide) ?_
  exact zx_iret d_La_read_24 rfl ⟨rfl, rfl, rfl⟩
theorem w_readByte {x0 : Int32} {v : Int32} {dd : Nat} (hd : dd < 8) (hM : zK l D ar b Z y_Ho_readByte dd [.ref (b + 0), .int x0] M n (some (.int v)) M2) : zKW l D ar b Z y_La_readByte [.ref (b + 0), .int x0, .ref (b + 572)] M n (.int (nI 0)) (zm_wJ M2 572 0 v.toInt64) n := by
  refine zx_entryW (L := [some (.ref (b + 0)), some (.int x0), some (.ref (b + 572)), none]) rfl (Nat.le_of_ble_eq_true rfl) rfl rfl ?_
  refine zx_aload_n (pc2 := 1) d_La_readByte_0 rfl rfl ?_
  refine zx_iconst (pc2 := 2) (v := nI 0) d_La_readByte_1 rfl (by decide) ?_
  refine zx_aload_n (pc2 := 3) d_La_readByte_2 rfl rfl ?_
  refine zx_iload_n (pc2 := 4) d_La_readByte_3 rfl rfl ?_
  refine zt_callV (pc2 := 7) s_La_57 v_Ho_readByte zl_c0 hM d_La_readByte_4 rfl rfl rfl (Nat.le_of_ble_eq_true rfl) hd (by decide) ?_
  refine zx_i2l (pc2 := 8) d_La_readByte_7 rfl ?_
  refine zk_last (pc2 := 9) d_La_readByte_8 rfl zl_c572 rfl (by decide) (by decide) ?_
  refine zx_goto (tgt := 15) d_La_readByte_9 (by decide) ?_
  refine zx_iconst (pc2 := 16) (v := nI 0) d_La_readByte_15 rfl (by decide) ?_
  refine zx_widen (k2 := 1) (j2 := 6) (by decide) (by decide) ?_
  exact zx_iret d_La_readByte_16 rfl ⟨rfl, rfl, rfl⟩
theorem w_readByte_1 {x0 : Int32} (hM : zKT l D ar b Z y_Ho_readByte 7 [.ref (b + 0), .int x0] M n "java/lang/IndexOutOfBoundsException" M2) : zKW l D ar b Z y_La_readByte [.ref (b + 0), .int x0, .ref (b + 572)] M n (.int (nI 1)) M2 (n + 1) := by
  refine zx_entryW (L := [some (.ref (b + 0)), some (.int x0), some (.ref (b + 572)), none]) rfl (Nat.le_of_ble_eq_true rfl) rfl rfl ?_
  refine zx_aload_n (pc2 := 1) d_La_readByte_0 rfl rfl ?_
  refine zx_iconst (pc2 := 2) (v := nI 0) d_La_readByte_1 rfl (by decide) ?_
  refine zx_aload_n (pc2 := 3) d_La_readByte_2 rfl rfl ?_
  refine zx_iload_n (pc2 := 4) d_La_readByte_3 rfl rfl ?_
  refine zx_callVH (pre := []) (x := ⟨0, 9, 12, 26⟩) (rest' := []) s_La_57 zn_w722 v_Ho_readByte (zm_at zl_c0) hM d_La_readByte_4 rfl rfl (Nat.le_of_ble_eq_true rfl) (by decide) (by decide) (by decide) (by decide) rfl (by decide) (by decide) zn_w494 (fun q hq => by cases hq) ?_
  intro a h' n' hp
  obtain ⟨rfl, rfl⟩ := hp
  refine zx_ast3 (pc2 := 13) d_La_readByte_12 rfl rfl (by decide) ?_
  refine zx_iconst (pc2 := 14) (v := nI 1) d_La_readByte_13 rfl (by decide) ?_
  exact zx_iret d_La_readByte_14 rfl ⟨rfl, rfl, rfl⟩
theorem w_state {x0 x1 : Int32} {v : Int32} {dd : Nat} (hd : dd < 8) (hM : zK l D ar b Z y_Ho_state dd [.ref (b + 0), .int x0, .int x1] M n (some (.int v)) M2) : zKW l D ar b Z y_La_state [.ref (b + 0), .int x0, .int x1, .ref (b + 572)] M n (.int (nI 0)) (zm_wJ M2 572 0 v.toInt64) n := by
  refine zx_entryW (L := [some (.ref (b + 0)), some (.int x0), some (.int x1), some (.ref (b + 572)), none]) rfl (Nat.le_of_ble_eq_true rfl) rfl rfl ?_
  refine zx_aload_n (pc2 := 1) d_La_state_0 rfl rfl ?_
  refine zx_iconst (pc2 := 2) (v := nI 0) d_La_state_1 rfl (by decide) ?_
  refine zx_aload_n (pc2 := 3) d_La_state_2 rfl rfl ?_
  refine zx_iload_n (pc2 := 4) d_La_state_3 rfl rfl ?_
  refine zx_iload_n (pc2 := 5) d_La_state_4 rfl rfl ?_
  refine zt_callV (pc2 := 8) s_La_60 v_Ho_state zl_c0 hM d_La_state_5 rfl rfl rfl (Nat.le_of_ble_eq_true rfl) hd (by decide) ?_
  refine zx_i2l (pc2 := 9) d_La_state_8 rfl ?_
  refine zk_last (pc2 := 10) d_La_state_9 rfl zl_c572 rfl (by decide) (by decide) ?_
  refine zx_goto (tgt := 17) d_La_state_10 (by decide) ?_
  refine zx_iconst (pc2 := 18) (v := nI 0) d_La_state_17 rfl (by decide) ?_
  refine zx_widen (k2 := 1) (j2 := 6) (by decide) (by decide) ?_
  exact zx_iret d_La_state_18 rfl ⟨rfl, rfl, rfl⟩
theorem w_state_1 {x0 x1 : Int32} (hM : zKT l D ar b Z y_Ho_state 7 [.ref (b + 0), .int x0, .int x1] M n "java/lang/IllegalArgumentException" M2) : zKW l D ar b Z y_La_state [.ref (b + 0), .int x0, .int x1, .ref (b + 572)] M n (.int (nI 1)) M2 (n + 1) := by
  refine zx_entryW (L := [some (.ref (b + 0)), some (.int x0), some (.int x1), some (.ref (b + 572)), none]) rfl (Nat.le_of_ble_eq_true rfl) rfl rfl ?_
  refine zx_aload_n (pc2 := 1) d_La_state_0 rfl rfl ?_
  refine zx_iconst (pc2 := 2) (v := nI 0) d_La_state_1 rfl (by decide) ?_
  refine zx_aload_n (pc2 := 3) d_La_state_2 rfl rfl ?_
  refine zx_iload_n (pc2 := 4) d_La_state_3 rfl rfl ?_
  refine zx_iload_n (pc2 := 5) d_La_state_4 rfl rfl ?_
  refine zx_callVH (pre := []) (x := ⟨0, 10, 13, 13⟩) (rest' := []) s_La_60 zn_w733 v_Ho_state (zm_at zl_c0) hM d_La_state_5 rfl rfl (Nat.le_of_ble_eq_true rfl) (by decide) (by decide) (by decide) (by decide) rfl (by decide) (by decide) zn_w290 (fun q hq => by cases hq) ?_
  intro a h' n' hp
  obtain ⟨rfl, rfl⟩ := hp
  refine zx_ast4 (pc2 := 15) d_La_state_13 rfl rfl (by decide) ?_
  refine zx_iconst (pc2 := 16) (v := nI 1) d_La_state_15 rfl (by decide) ?_
  exact zx_iret d_La_state_16 rfl ⟨rfl, rfl, rfl⟩
theorem w_station {x0 x1 : Int32} {v : Int32} {dd : Nat} (hd : dd < 8) (hM : zK l D ar b Z y_Ho_station dd [.ref (b + 0), .int x0, .int x1] M n (some (.int v)) M2) : zKW l D ar b Z y_La_station [.ref (b + 0), .int x0, .int x1, .ref (b + 572)] M n (.int (nI 0)) (zm_wJ M2 572 0 v.toInt64) n := by
  refine zx_entryW (L := [some (.ref (b + 0)), some (.int x0), some (.int x1), some (.ref (b + 572)), none]) rfl (Nat.le_of_ble_eq_true rfl) rfl rfl ?_
  refine zx_aload_n (pc2 := 1) d_La_station_0 rfl rfl ?_
  refine zx_iconst (pc2 := 2) (v := nI 0) d_La_station_1 rfl (by decide) ?_
  refine zx_aload_n (pc2 := 3) d_La_station_2 rfl rfl ?_
  refine zx_iload_n (pc2 := 4) d_La_station_3 rfl rfl ?_
  refine zx_iload_n (pc2 := 5) d_La_station_4 rfl rfl ?_
  refine zt_callV (pc2 := 8) s_La_63 v_Ho_station zl_c0 hM d_La_station_5 rfl rfl rfl (Nat.le_of_ble_eq_true rfl) hd (by decide) ?_
  refine zx_i2l (pc2 := 9) d_La_station_8 rfl ?_
  refine zk_last (pc2 := 10) d_La_station_9 rfl zl_c572 rfl (by decide) (by decide) ?_
  refine zx_goto (tgt := 17) d_La_station_10 (by decide) ?_
  refine zx_iconst (pc2 := 18) (v := nI 0) d_La_station_17 rfl (by decide) ?_
  refine zx_widen (k2 := 1) (j2 := 6) (by decide) (by decide) ?_
  exact zx_iret d_La_station_18 rfl ⟨rfl, rfl, rfl⟩
theorem w_station_1 {x0 x1 : Int32} (hM : zKT l D ar b Z y_Ho_station 7 [.ref (b + 0), .int x0, .int x1] M n "java/lang/IllegalArgumentException" M2) : zKW l D ar b Z y_La_station [.ref (b + 0), .int x0, .int x1, .ref (b + 572)] M n (.int (nI 1)) M2 (n + 1) := by
  refine zx_entryW (L := [some (.ref (b + 0)), some (.int x0), some (.int x1), some (.ref (b + 572)), none]) rfl (Nat.le_of_ble_eq_true rfl) rfl rfl ?_
  refine zx_aload_n (pc2 := 1) d_La_station_0 rfl rfl ?_
  refine zx_iconst (pc2 := 2) (v := nI 0) d_La_station_1 rfl (by decide) ?_
  refine zx_aload_n (pc2 := 3) d_La_station_2 rfl rfl ?_
  refine zx_iload_n (pc2 := 4) d_La_station_3 rfl rfl ?_
  refine zx_iload_n (pc2 := 5) d_La_station_4 rfl rfl ?_
  refine zx_callVH (pre := []) (x := ⟨0, 10, 13, 13⟩) (rest' := []) s_La_63 zn_w740 v_Ho_station (zm_at zl_c0) hM d_La_station_5 rfl rfl (Nat.le_of_ble_eq_true rfl) (by decide) (by decide) (by decide) (by decide) rfl (by decide) (by decide) zn_w290 (fun q hq => by cases hq) ?_
  intro a h' n' hp
  obtain ⟨rfl, rfl⟩ := hp
  refine zx_ast4 (pc2 := 15) d_La_station_13 rfl rfl (by decide) ?_
  refine zx_iconst (pc2 := 16) (v := nI 1) d_La_station_15 rfl (by decide) ?_
  exact zx_iret d_La_station_16 rfl ⟨rfl, rfl, rfl⟩
theorem w_share {x0 x1 x2 : Int32} {v : Int32} {dd : Nat} (hd : dd < 8) (hM : zK l D ar b Z y_Ho_share dd [.ref (b + 0), .int x0, .int x1, .int x2] M n (some (.int v)) M2) : zKW l D ar b Z y_La_share [.ref (b + 0), .int x0, .int x1, .int x2, .ref (b + 572)] M n (.int (nI 0)) (zm_wJ M2 572 0 v.toInt64) n := by
  refine zx_entryW (L := [some (.ref (b + 0)), some (.int x0), some (.int x1), some (.int x2), some (.ref (b + 572)), none]) rfl (Nat.le_of_ble_eq_true rfl) rfl rfl ?_
  refine zx_aload (pc2 := 2) d_La_share_0 rfl rfl ?_
  refine zx_iconst (pc2 := 3) (v := nI 0) d_La_share_2 rfl (by decide) ?_
  refine zx_aload_n (pc2 := 4) d_La_share_3 rfl rfl ?_
  refine zx_iload_n (pc2 := 5) d_La_share_4 rfl rfl ?_
  refine zx_iload_n (pc2 := 6) d_La_share_5 rfl rfl ?_
  refine zx_iload_n (pc2 := 7) d_La_share_6 rfl rfl ?_
  refine zt_callV (pc2 := 10) s_La_66 v_Ho_share zl_c0 hM d_La_share_7 rfl rfl rfl (Nat.le_of_ble_eq_true rfl) hd (by decide) ?_
  refine zx_i2l (pc2 := 11) d_La_share_10 rfl ?_
  refine zk_last (pc2 := 12) d_La_share_11 rfl zl_c572 rfl (by decide) (by decide) ?_
  refine zx_goto (tgt := 19) d_La_share_12 (by decide) ?_
  refine zx_iconst (pc2 := 20) (v := nI 0) d_La_share_19 rfl (by decide) ?_
  refine zx_widen (k2 := 1) (j2 := 6) (by decide) (by decide) ?_
  exact zx_iret d_La_share_20 rfl ⟨rfl, rfl, rfl⟩
theorem w_share_1 {x0 x1 x2 : Int32} (hM : zKT l D ar b Z y_Ho_share 7 [.ref (b + 0), .int x0, .int x1, .int x2] M n "java/lang/IllegalArgumentException" M2) : zKW l D ar b Z y_La_share [.ref (b + 0), .int x0, .int x1, .int x2, .ref (b + 572)] M n (.int (nI 1)) M2 (n + 1) := by
  refine zx_entryW (L := [some (.ref (b + 0)), some (.int x0), some (.int x1), some (.int x2), some (.ref (b + 572)), none]) rfl (Nat.le_of_ble_eq_true rfl) rfl rfl ?_
  refine zx_aload (pc2 := 2) d_La_share_0 rfl rfl ?_
  refine zx_iconst (pc2 := 3) (v := nI 0) d_La_share_2 rfl (by decide) ?_
  refine zx_aload_n (pc2 := 4) d_La_share_3 rfl rfl ?_
  refine zx_iload_n (pc2 := 5) d_La_share_4 rfl rfl ?_
  refine zx_iload_n (pc2 := 6) d_La_share_5 rfl rfl ?_
  refine zx_iload_n (pc2 := 7) d_La_share_6 rfl rfl ?_
  refine zx_callVH (pre := []) (x := ⟨0, 12, 15, 13⟩) (rest' := []) s_La_66 zn_w752 v_Ho_share (zm_at zl_c0) hM d_La_share_7 rfl rfl (Nat.le_of_ble_eq_true rfl) (by decide) (by decide) (by decide) (by decide) rfl (by decide) (by decide) zn_w290 (fun q hq => by cases hq) ?_
  intro a h' n' hp
  obtain ⟨rfl, rfl⟩ := hp
  refine zx_ast5 (pc2 := 17) d_La_share_15 rfl rfl (by decide) ?_
  refine zx_iconst (pc2 := 18) (v := nI 1) d_La_share_17 rfl (by decide) ?_
  exact zx_iret d_La_share_18 rfl ⟨rfl, rfl, rfl⟩
end CA2
