/-! The start: classes, arrays, statics, as the tables give them -/
theorem zk_known {as : Array Value} {s : State} (hts : ∀ w ∈ lw_tbl, w.before as s = true) : ∃ (D : va_G) (ar : Nat → ClassId), va_K D zn_cl (zn_at ar) s := by
  have hz : ∀ w ∈ zn_W, w.before as s = true := fun w hw => hts w (List.mem_filter.mp hw).1
  have hC : ∀ c : Nat, ∃ z : ClassId × (Nat → Nat), ∀ q, zn_cl[c]? = some q → u_Kn s q.1 q.2.1 q.2.2 z.1 z.2 := by
    have go : ∀ {c : Nat} {C : String} {T : u_T} {N n : Nat}, zn_cl[c]? = some (C, T, N) → (∀ w ∈ u_ws C T N, w ∈ zn_W) → Cond.instantiable C n ∈ zn_W → ∃ z : ClassId × (Nat → Nat), ∀ q, zn_cl[c]? = some q → u_Kn s q.1 q.2.1 q.2.2 z.1 z.2 := fun e hu hi => by
      obtain ⟨cC, iS, hK⟩ := u_known hz hu (hz _ hi)
      refine ⟨(cC, iS), fun q hq => ?_⟩
      cases e.symm.trans hq
      exact hK
    intro c
    match c with
    | 0 => exact go rfl zn_uHo zn_w22
    | 1 => exact go rfl zn_uSt zn_w31
    | 2 => exact go rfl zn_uSh zn_w37
    | 3 => exact go rfl zn_uPr zn_w83
    | 4 => exact go rfl zn_uSp zn_w93
    | 5 => exact go rfl zn_uRe zn_w99
    | 6 => exact go rfl zn_uRo zn_w163
    | 7 => exact go rfl zn_uLe zn_w170
    | 8 => exact go rfl zn_uGa zn_w229
    | 9 => exact go rfl zn_uMo zn_w762
    | k + 10 => exact ⟨(0, fun _ => 0), fun q hq => by cases hq⟩
  have hA : ∀ k : Nat, ∃ cA : ClassId, ∀ ty, ([.int, .long, .byte, .boolean, .object "LogHouse$Station", .object "LogHouse$Proposer", .object "LogHouse$Shelf", .object "LogHouse$Spot", .object "LogHouse$Letter"] : List FieldType)[k]? = some ty → ArrOfT s cA ty ∧ va_RA s cA ty := by
    have go : ∀ {ty : FieldType}, (∀ C0, ty ≠ .object C0) → Cond.arrayClass ty ∈ zn_W → ∃ cA : ClassId, ArrOfT s cA ty ∧ va_RA s cA ty := fun {ty} hp hw => by
      obtain ⟨cA, kA, comp, h1, h2, h3⟩ := Cond.arrayClass_spec (hz _ hw)
      refine ⟨cA, fun N z => ⟨(fun k h => by cases h), kA, h2, comp, h3⟩, ?_⟩
      cases ty with
      | object C0 => exact absurd rfl (hp C0)
      | _ => exact h1
    have go2 : ∀ {C0 : String}, Cond.arrayOver (.object C0) ∈ lw_tbl → ∃ cA : ClassId, ArrOfT s cA (.object C0) ∧ va_RA s cA (.object C0) := fun hw => by
      obtain ⟨comp, cA, kA, h1, h2, h3, h4, h5⟩ := Cond.arrayOver_spec (hts _ hw)
      exact ⟨cA, fun N z => ⟨(fun k h => by cases h), kA, h3, comp, h4⟩, kA, comp, h3, h4, h1, h5⟩
    intro k
    match k with
    | 0 => obtain ⟨cA, h⟩ := go (fun _ h => by cases h) zn_w62; exact ⟨cA, fun ty e => by cases e; exact h⟩
    | 1 => obtain ⟨cA, h⟩ := go (fun _ h => by cases h) zn_w63; exact ⟨cA, fun ty e => by cases e; exact h⟩
    | 2 => obtain ⟨cA, h⟩ := go (fun _ h => by cases h) zn_w113; exact ⟨cA, fun ty e => by cases e; exact h⟩
    | 3 => obtain ⟨cA, h⟩ := go (fun _ h => by cases h) zn_w855; exact ⟨cA, fun ty e => by cases e; exact h⟩
    | 4 => obtain ⟨cA, h⟩ := go2 (C0 := "LogHouse$Station") (lw_at (i := 30) (by decide +kernel)); exact ⟨cA, fun ty e => by cases e; exact h⟩
    | 5 => obtain ⟨cA, h⟩ := go2 (C0 := "LogHouse$Proposer") (lw_at (i := 82) (by decide +kernel)); exact ⟨cA, fun ty e => by cases e; exact h⟩
    | 6 => obtain ⟨cA, h⟩ := go2 (C0 := "LogHouse$Shelf") (lw_at (i := 89) (by decide +kernel)); exact ⟨cA, fun ty e => by cases e; exact h⟩
    | 7 => obtain ⟨cA, h⟩ := go2 (C0 := "LogHouse$Spot") (lw_at (i := 91) (by decide +kernel)); exact ⟨cA, fun ty e => by cases e; exact h⟩
    | 8 => obtain ⟨cA, h⟩ := go2 (C0 := "LogHouse$Letter") (lw_at (i := 169) (by decide +kernel)); exact ⟨cA, fun ty e => by cases e; exact h⟩
    | k + 9 => exact ⟨0, fun ty e => by cases e⟩
  obtain ⟨f, hf⟩ := Classical.axiomOfChoice hC
  obtain ⟨ar, har⟩ := Classical.axiomOfChoice hA
  refine ⟨(fun c => (f c).1, fun c => (f c).2), ar, fun c q hq => hf c q hq, fun k q hq => ?_⟩
  match k with
  | 0 => cases hq; exact har 0 _ rfl
  | 1 => cases hq; exact har 1 _ rfl
  | 2 => cases hq; exact har 2 _ rfl
  | 3 => cases hq; exact har 3 _ rfl
  | 4 => cases hq; exact har 4 _ rfl
  | 5 => cases hq; exact har 5 _ rfl
  | 6 => cases hq; exact har 6 _ rfl
  | 7 => cases hq; exact har 7 _ rfl
  | 8 => cases hq; exact har 8 _ rfl
  | k + 9 => cases hq
theorem zk_nest {as : Array Value} {s : State} (hts : ∀ w ∈ lw_tbl, w.before as s = true) : zn_N s := by
  have go : ∀ {a : String} {i0 : Nat} {x : MethodName} {h : String} {i : Nat}, tables_1[i]? = some (.methodLinkNest a i0 x h) → va_Nw (.methodLinkNest a i0 x h) s := fun h => va_Nw.of rfl (hts _ (lw_at h))
  have go2 : ∀ {C : String} {i : Nat}, tables_1[i]? = some (.arrayOver (.object C)) → va_AO C s := fun h => va_AO.of (hts _ (lw_at h))
  exact ⟨go (i := 32) (by decide +kernel), go (i := 38) (by decide +kernel), go (i := 92) (by decide +kernel), go (i := 94) (by decide +kernel), go (i := 100) (by decide +kernel), go (i := 171) (by decide +kernel), go (i := 176) (by decide +kernel), go (i := 230) (by decide +kernel), go (i := 252) (by decide +kernel), go2 (i := 30) (by decide +kernel), go2 (i := 82) (by decide +kernel), go2 (i := 89) (by decide +kernel), go2 (i := 91) (by decide +kernel), go2 (i := 169) (by decide +kernel)⟩
theorem zk_inv {as : Array Value} {s : State} (hts : ∀ w ∈ lw_tbl, w.before as s = true) (hgv : (Jvm.Cond.and given_1 narrow_1).before as s = true) : ∃ t, zs_I s.heap.size t s := by
  have hs := flat_of_before _ hgv
  have hA : ∀ a : Nat, a < s.heap.size → ¬ s.heap.size ≤ a := fun a h => Nat.not_le.mpr h
  have harr : (Cond.arrayOf (.static "LogHouse$Field" "INVERSES" "[I") .int).before as s = true := hs _ (by decide +kernel)
  have hlen : (Cond.eq (.length (.static "LogHouse$Field" "INVERSES" "[I")) (.int 8)).before as s = true := hs _ (by decide +kernel)
  have h0 : (Cond.eq (.elem (.static "LogHouse$Field" "INVERSES" "[I") (.int 0)) (.int 0)).before as s = true := hs _ (by decide +kernel)
  have h1 : (Cond.eq (.elem (.static "LogHouse$Field" "INVERSES" "[I") (.int 1)) (.int 1)).before as s = true := hs _ (by decide +kernel)
  have h2 : (Cond.eq (.elem (.static "LogHouse$Field" "INVERSES" "[I") (.int 2)) (.int 141)).before as s = true := hs _ (by decide +kernel)
  have h3 : (Cond.eq (.elem (.static "LogHouse$Field" "INVERSES" "[I") (.int 3)) (.int 246)).before as s = true := hs _ (by decide +kernel)
  have h4 : (Cond.eq (.elem (.static "LogHouse$Field" "INVERSES" "[I") (.int 4)) (.int 203)).before as s = true := hs _ (by decide +kernel)
  have h5 : (Cond.eq (.elem (.static "LogHouse$Field" "INVERSES" "[I") (.int 5)) (.int 82)).before as s = true := hs _ (by decide +kernel)
  have h6 : (Cond.eq (.elem (.static "LogHouse$Field" "INVERSES" "[I") (.int 6)) (.int 123)).before as s = true := hs _ (by decide +kernel)
  have h7 : (Cond.eq (.elem (.static "LogHouse$Field" "INVERSES" "[I") (.int 7)) (.int 209)).before as s = true := hs _ (by decide +kernel)
  have hel : ∀ j : Nat, j < 8 → (Term.elem (.static "LogHouse$Field" "INVERSES" "[I") (.int (Int32.ofNat j))).eval as s none [] s = some (.int (ff_inv j)) := fun j hj => by
    match j, hj with
    | 0, _ => exact va_eqt h0
    | 1, _ => exact va_eqt h1
    | 2, _ => exact va_eqt h2
    | 3, _ => exact va_eqt h3
    | 4, _ => exact va_eqt h4
    | 5, _ => exact va_eqt h5
    | 6, _ => exact va_eqt h6
    | 7, _ => exact va_eqt h7
    | k + 8, hj => exact absurd hj (by omega)
  obtain ⟨t, ht, hT⟩ := va_Tof (A := fun q => s.heap.size ≤ q) (N := 8) (f := fun x => .int (ff_inv x)) (by decide) harr (va_eqt hlen) hel hA
  exact ⟨t, va_Zref (hts _ (lw_at (i := 599) (by decide +kernel))) (hts _ (lw_at (i := 17) (by decide +kernel))) ht hA, hT⟩
theorem zk_world {as : Array Value} {s : State} {b0 N : Nat} {xs : Nat → Int32} (hts : ∀ w ∈ lw_tbl, w.before as s = true) (hgv : (Jvm.Cond.and given_1 narrow_1).before as s = true) (hX : va_X b0 N xs s s.heap) : ∃ t, zw_Z s.heap.size b0 N t xs s := by
  have hs := flat_of_before _ hgv
  have hA : ∀ a : Nat, a < s.heap.size → ¬ s.heap.size ≤ a := fun a h => Nat.not_le.mpr h
  have hz : ∀ w ∈ zn_W, w.before as s = true := fun w hw => hts w (List.mem_filter.mp hw).1
  have hrf : s.WarmedH s.vm := State.WarmedH.refl s
  have l1 : (Cond.laysStatic Bundle.tN "UNASSIGNED_STACK" Bundle.steD).before as s = true := hts _ (lw_at (i := 325) (by decide +kernel))
  have l2 : (Cond.laysStatic Bundle.tN "SUPPRESSED_SENTINEL" Bundle.listD).before as s = true := hts _ (lw_at (i := 327) (by decide +kernel))
  have hi : (Cond.initialized Bundle.tN).before as s = true := hts _ (lw_at (i := 11) (by decide +kernel))
  have q1 := va_Zqof (A := fun q => s.heap.size ≤ q) l1 hi (hs (.isRef (.static Bundle.tN "UNASSIGNED_STACK" Bundle.steD)) (by decide +kernel)) hA
  have q2 := va_Zqof (A := fun q => s.heap.size ≤ q) l2 hi (hs (.isRef (.static Bundle.tN "SUPPRESSED_SENTINEL" Bundle.listD)) (by decide +kernel)) hA
  have gd : ∀ {x : MethodName} {i : Nat}, tables_1[i]? = some (.declares x) → va_Nw (.declares x) s := fun h => va_Nw.of rfl (hts _ (lw_at h))
  have gc : ∀ {C T : String} {i : Nat}, tables_1[i]? = some (.castable C T) → va_Nw (.castable C T) s := fun h => va_Nw.of rfl (hts _ (lw_at h))
  obtain ⟨t, hI⟩ := zk_inv hts hgv
  refine ⟨t, hX, hI, ⟨⟨q1, q2⟩, ⟨fun as' => ls_moved (Vm.Alike.refl _) (fun _ _ => rfl) q1 l1, fun as' => ls_moved (Vm.Alike.refl _) (fun _ _ => rfl) q2 l2⟩, ⟨gd (i := 301) (by decide +kernel), gd (i := 303) (by decide +kernel), gd (i := 305) (by decide +kernel)⟩, gc (i := 300) (by decide +kernel), gc (i := 420) (by decide +kernel), gc (i := 505) (by decide +kernel), gc (i := 706) (by decide +kernel)⟩, fun as' w hw => pay_in hz (fun w hw => ⟨hw, zn_ok w hw⟩) w hw as' s hrf, va_Nc.of (hs _ (by decide +kernel)), va_Nc.of (hs _ (by decide +kernel)), va_Nc.of (hs _ (by decide +kernel)), va_Nc.of (hs _ (by decide +kernel)), va_Nc.of (hs _ (by decide +kernel))⟩
