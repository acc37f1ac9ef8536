/-! stores into a place of the locals: the list stays a list -/
section ZLO
variable {G : zx_G} {y : zx_Y} {R : Room} {F : List Frame → Array Value → State → State → Prop} {pc pc2 : Nat} {st : List Value} {h : zx_H} {n k j : Nat} {t : zx_L}
theorem zx_ist0 {a0 : Option Value} {x : Int32} (d : decode y.2.1 pc = .ok (.istore_n 0, 1)) (e0 : pc + 1 = pc2) (hk : True) (hn : 0 < y.2.2.1) (kk : zX G y R F pc2 (some (.int x) :: t) st h n k j) : zX G y R F pc (a0 :: t) (.int x :: st) h n k j := by
  refine zx_istore_n (i1 := 0) d e0 rfl hn ?_
  have e : zx_s1 (a0 :: t) 0 (.int x) = (some (.int x) :: t) := by simp only [zx_s1, zx_cl, zx_md, List.set_cons_zero, List.set_cons_succ]
  rw [e]; exact kk
theorem zx_ast0 {a0 : Option Value} {x : Nat} (d : decode y.2.1 pc = .ok (.astore_n 0, 1)) (e0 : pc + 1 = pc2) (hk : True) (hn : 0 < y.2.2.1) (kk : zX G y R F pc2 (some (.ref x) :: t) st h n k j) : zX G y R F pc (a0 :: t) (.ref x :: st) h n k j := by
  refine zx_astore_n (i1 := 0) d e0 rfl hn ?_
  have e : zx_s1 (a0 :: t) 0 (.ref x) = (some (.ref x) :: t) := by simp only [zx_s1, zx_cl, zx_md, List.set_cons_zero, List.set_cons_succ]
  rw [e]; exact kk
theorem zx_astN0 {a0 : Option Value}  (d : decode y.2.1 pc = .ok (.astore_n 0, 1)) (e0 : pc + 1 = pc2) (hk : True) (hn : 0 < y.2.2.1) (kk : zX G y R F pc2 (some (.null) :: t) st h n k j) : zX G y R F pc (a0 :: t) (.null :: st) h n k j := by
  refine zx_astore_nN (i1 := 0) d e0 rfl hn ?_
  have e : zx_s1 (a0 :: t) 0 (.null) = (some (.null) :: t) := by simp only [zx_s1, zx_cl, zx_md, List.set_cons_zero, List.set_cons_succ]
  rw [e]; exact kk
theorem zx_inc0 {c0 : Int} {x v : Int32} (d : decode y.2.1 pc = .ok (.iinc 0 c0, 3)) (e0 : pc + 3 = pc2) (hw : x + Int32.ofInt c0 = v) (hk : True) (hn : 0 < y.2.2.1) (kk : zX G y R F pc2 (some (.int v) :: t) st h n k j) : zX G y R F pc (some (.int x) :: t) st h n k j := by
  refine zx_iinc d e0 (x := x) (v := v) rfl hw hn ?_
  have e : zx_s1 (some (.int x) :: t) 0 (.int v) = (some (.int v) :: t) := by simp only [zx_s1, zx_cl, zx_md, List.set_cons_zero, List.set_cons_succ]
  rw [e]; exact kk
theorem zx_lst0 {a0 b0 : Option Value} {x : Int64} (d : decode y.2.1 pc = .ok (.lstore_n 0, 1)) (e0 : pc + 1 = pc2) (hk : True) (hn : 0 + 1 < y.2.2.1) (kk : zX G y R F pc2 (some (.long x) :: none :: t) st h n k j) : zX G y R F pc (a0 :: b0 :: t) (.long x :: st) h n k j := by
  refine zx_lstore_n (i1 := 0) d e0 rfl hn ?_
  have e : zx_s2 (a0 :: b0 :: t) 0 (.long x) = (some (.long x) :: none :: t) := by simp only [zx_s2, zx_cl, zx_md, List.set_cons_zero, List.set_cons_succ]
  rw [e]; exact kk
theorem zx_ist1 {a0 a1 : Option Value} {x : Int32} (d : decode y.2.1 pc = .ok (.istore_n 1, 1)) (e0 : pc + 1 = pc2) (hk : zx_kp a0 = a0) (hn : 1 < y.2.2.1) (kk : zX G y R F pc2 (a0 :: some (.int x) :: t) st h n k j) : zX G y R F pc (a0 :: a1 :: t) (.int x :: st) h n k j := by
  refine zx_istore_n (i1 := 1) d e0 rfl hn ?_
  have e : zx_s1 (a0 :: a1 :: t) 1 (.int x) = (a0 :: some (.int x) :: t) := by simp only [zx_s1, zx_cl, zx_md, List.set_cons_zero, List.set_cons_succ, hk]
  rw [e]; exact kk
theorem zx_ast1 {a0 a1 : Option Value} {x : Nat} (d : decode y.2.1 pc = .ok (.astore_n 1, 1)) (e0 : pc + 1 = pc2) (hk : zx_kp a0 = a0) (hn : 1 < y.2.2.1) (kk : zX G y R F pc2 (a0 :: some (.ref x) :: t) st h n k j) : zX G y R F pc (a0 :: a1 :: t) (.ref x :: st) h n k j := by
  refine zx_astore_n (i1 := 1) d e0 rfl hn ?_
  have e : zx_s1 (a0 :: a1 :: t) 1 (.ref x) = (a0 :: some (.ref x) :: t) := by simp only [zx_s1, zx_cl, zx_md, List.set_cons_zero, List.set_cons_succ, hk]
  rw [e]; exact kk
theorem zx_astN1 {a0 a1 : Option Value}  (d : decode y.2.1 pc = .ok (.astore_n 1, 1)) (e0 : pc + 1 = pc2) (hk : zx_kp a0 = a0) (hn : 1 < y.2.2.1) (kk : zX G y R F pc2 (a0 :: some (.null) :: t) st h n k j) : zX G y R F pc (a0 :: a1 :: t) (.null :: st) h n k j := by
  refine zx_astore_nN (i1 := 1) d e0 rfl hn ?_
  have e : zx_s1 (a0 :: a1 :: t) 1 (.null) = (a0 :: some (.null) :: t) := by simp only [zx_s1, zx_cl, zx_md, List.set_cons_zero, List.set_cons_succ, hk]
  rw [e]; exact kk
theorem zx_inc1 {a0 : Option Value} {c0 : Int} {x v : Int32} (d : decode y.2.1 pc = .ok (.iinc 1 c0, 3)) (e0 : pc + 3 = pc2) (hw : x + Int32.ofInt c0 = v) (hk : zx_kp a0 = a0) (hn : 1 < y.2.2.1) (kk : zX G y R F pc2 (a0 :: some (.int v) :: t) st h n k j) : zX G y R F pc (a0 :: some (.int x) :: t) st h n k j := by
  refine zx_iinc d e0 (x := x) (v := v) rfl hw hn ?_
  have e : zx_s1 (a0 :: some (.int x) :: t) 1 (.int v) = (a0 :: some (.int v) :: t) := by simp only [zx_s1, zx_cl, zx_md, List.set_cons_zero, List.set_cons_succ, hk]
  rw [e]; exact kk
theorem zx_lst1 {a0 a1 b0 : Option Value} {x : Int64} (d : decode y.2.1 pc = .ok (.lstore_n 1, 1)) (e0 : pc + 1 = pc2) (hk : zx_kp a0 = a0) (hn : 1 + 1 < y.2.2.1) (kk : zX G y R F pc2 (a0 :: some (.long x) :: none :: t) st h n k j) : zX G y R F pc (a0 :: a1 :: b0 :: t) (.long x :: st) h n k j := by
  refine zx_lstore_n (i1 := 1) d e0 rfl hn ?_
  have e : zx_s2 (a0 :: a1 :: b0 :: t) 1 (.long x) = (a0 :: some (.long x) :: none :: t) := by simp only [zx_s2, zx_cl, zx_md, List.set_cons_zero, List.set_cons_succ, hk]
  rw [e]; exact kk
theorem zx_ist2 {a0 a1 a2 : Option Value} {x : Int32} (d : decode y.2.1 pc = .ok (.istore_n 2, 1)) (e0 : pc + 1 = pc2) (hk : zx_kp a1 = a1) (hn : 2 < y.2.2.1) (kk : zX G y R F pc2 (a0 :: a1 :: some (.int x) :: t) st h n k j) : zX G y R F pc (a0 :: a1 :: a2 :: t) (.int x :: st) h n k j := by
  refine zx_istore_n (i1 := 2) d e0 rfl hn ?_
  have e : zx_s1 (a0 :: a1 :: a2 :: t) 2 (.int x) = (a0 :: a1 :: some (.int x) :: t) := by simp only [zx_s1, zx_cl, zx_md, List.set_cons_zero, List.set_cons_succ, hk]
  rw [e]; exact kk
theorem zx_ast2 {a0 a1 a2 : Option Value} {x : Nat} (d : decode y.2.1 pc = .ok (.astore_n 2, 1)) (e0 : pc + 1 = pc2) (hk : zx_kp a1 = a1) (hn : 2 < y.2.2.1) (kk : zX G y R F pc2 (a0 :: a1 :: some (.ref x) :: t) st h n k j) : zX G y R F pc (a0 :: a1 :: a2 :: t) (.ref x :: st) h n k j := by
  refine zx_astore_n (i1 := 2) d e0 rfl hn ?_
  have e : zx_s1 (a0 :: a1 :: a2 :: t) 2 (.ref x) = (a0 :: a1 :: some (.ref x) :: t) := by simp only [zx_s1, zx_cl, zx_md, List.set_cons_zero, List.set_cons_succ, hk]
  rw [e]; exact kk
theorem zx_astN2 {a0 a1 a2 : Option Value}  (d : decode y.2.1 pc = .ok (.astore_n 2, 1)) (e0 : pc + 1 = pc2) (hk : zx_kp a1 = a1) (hn : 2 < y.2.2.1) (kk : zX G y R F pc2 (a0 :: a1 :: some (.null) :: t) st h n k j) : zX G y R F pc (a0 :: a1 :: a2 :: t) (.null :: st) h n k j := by
  refine zx_astore_nN (i1 := 2) d e0 rfl hn ?_
  have e : zx_s1 (a0 :: a1 :: a2 :: t) 2 (.null) = (a0 :: a1 :: some (.null) :: t) := by simp only [zx_s1, zx_cl, zx_md, List.set_cons_zero, List.set_cons_succ, hk]
  rw [e]; exact kk
theorem zx_inc2 {a0 a1 : Option Value} {c0 : Int} {x v : Int32} (d : decode y.2.1 pc = .ok (.iinc 2 c0, 3)) (e0 : pc + 3 = pc2) (hw : x + Int32.ofInt c0 = v) (hk : zx_kp a1 = a1) (hn : 2 < y.2.2.1) (kk : zX G y R F pc2 (a0 :: a1 :: some (.int v) :: t) st h n k j) : zX G y R F pc (a0 :: a1 :: some (.int x) :: t) st h n k j := by
  refine zx_iinc d e0 (x := x) (v := v) rfl hw hn ?_
  have e : zx_s1 (a0 :: a1 :: some (.int x) :: t) 2 (.int v) = (a0 :: a1 :: some (.int v) :: t) := by simp only [zx_s1, zx_cl, zx_md, List.set_cons_zero, List.set_cons_succ, hk]
  rw [e]; exact kk
theorem zx_lst2 {a0 a1 a2 b0 : Option Value} {x : Int64} (d : decode y.2.1 pc = .ok (.lstore_n 2, 1)) (e0 : pc + 1 = pc2) (hk : zx_kp a1 = a1) (hn : 2 + 1 < y.2.2.1) (kk : zX G y R F pc2 (a0 :: a1 :: some (.long x) :: none :: t) st h n k j) : zX G y R F pc (a0 :: a1 :: a2 :: b0 :: t) (.long x :: st) h n k j := by
  refine zx_lstore_n (i1 := 2) d e0 rfl hn ?_
  have e : zx_s2 (a0 :: a1 :: a2 :: b0 :: t) 2 (.long x) = (a0 :: a1 :: some (.long x) :: none :: t) := by simp only [zx_s2, zx_cl, zx_md, List.set_cons_zero, List.set_cons_succ, hk]
  rw [e]; exact kk
theorem zx_ist3 {a0 a1 a2 a3 : Option Value} {x : Int32} (d : decode y.2.1 pc = .ok (.istore_n 3, 1)) (e0 : pc + 1 = pc2) (hk : zx_kp a2 = a2) (hn : 3 < y.2.2.1) (kk : zX G y R F pc2 (a0 :: a1 :: a2 :: some (.int x) :: t) st h n k j) : zX G y R F pc (a0 :: a1 :: a2 :: a3 :: t) (.int x :: st) h n k j := by
  refine zx_istore_n (i1 := 3) d e0 rfl hn ?_
  have e : zx_s1 (a0 :: a1 :: a2 :: a3 :: t) 3 (.int x) = (a0 :: a1 :: a2 :: some (.int x) :: t) := by simp only [zx_s1, zx_cl, zx_md, List.set_cons_zero, List.set_cons_succ, hk]
  rw [e]; exact kk
theorem zx_ast3 {a0 a1 a2 a3 : Option Value} {x : Nat} (d : decode y.2.1 pc = .ok (.astore_n 3, 1)) (e0 : pc + 1 = pc2) (hk : zx_kp a2 = a2) (hn : 3 < y.2.2.1) (kk : zX G y R F pc2 (a0 :: a1 :: a2 :: some (.ref x) :: t) st h n k j) : zX G y R F pc (a0 :: a1 :: a2 :: a3 :: t) (.ref x :: st) h n k j := by
  refine zx_astore_n (i1 := 3) d e0 rfl hn ?_
  have e : zx_s1 (a0 :: a1 :: a2 :: a3 :: t) 3 (.ref x) = (a0 :: a1 :: a2 :: some (.ref x) :: t) := by simp only [zx_s1, zx_cl, zx_md, List.set_cons_zero, List.set_cons_succ, hk]
  rw [e]; exact kk
theorem zx_astN3 {a0 a1 a2 a3 : Option Value}  (d : decode y.2.1 pc = .ok (.astore_n 3, 1)) (e0 : pc + 1 = pc2) (hk : zx_kp a2 = a2) (hn : 3 < y.2.2.1) (kk : zX G y R F pc2 (a0 :: a1 :: a2 :: some (.null) :: t) st h n k j) : zX G y R F pc (a0 :: a1 :: a2 :: a3 :: t) (.null :: st) h n k j := by
  refine zx_astore_nN (i1 := 3) d e0 rfl hn ?_
  have e : zx_s1 (a0 :: a1 :: a2 :: a3 :: t) 3 (.null) = (a0 :: a1 :: a2 :: some (.null) :: t) := by simp only [zx_s1, zx_cl, zx_md, List.set_cons_zero, List.set_cons_succ, hk]
  rw [e]; exact kk
theorem zx_inc3 {a0 a1 a2 : Option Value} {c0 : Int} {x v : Int32} (d : decode y.2.1 pc = .ok (.iinc 3 c0, 3)) (e0 : pc + 3 = pc2) (hw : x + Int32.ofInt c0 = v) (hk : zx_kp a2 = a2) (hn : 3 < y.2.2.1) (kk : zX G y R F pc2 (a0 :: a1 :: a2 :: some (.int v) :: t) st h n k j) : zX G y R F pc (a0 :: a1 :: a2 :: some (.int x) :: t) st h n k j := by
  refine zx_iinc d e0 (x := x) (v := v) rfl hw hn ?_
  have e : zx_s1 (a0 :: a1 :: a2 :: some (.int x) :: t) 3 (.int v) = (a0 :: a1 :: a2 :: some (.int v) :: t) := by simp only [zx_s1, zx_cl, zx_md, List.set_cons_zero, List.set_cons_succ, hk]
  rw [e]; exact kk
theorem zx_lst3 {a0 a1 a2 a3 b0 : Option Value} {x : Int64} (d : decode y.2.1 pc = .ok (.lstore_n 3, 1)) (e0 : pc + 1 = pc2) (hk : zx_kp a2 = a2) (hn : 3 + 1 < y.2.2.1) (kk : zX G y R F pc2 (a0 :: a1 :: a2 :: some (.long x) :: none :: t) st h n k j) : zX G y R F pc (a0 :: a1 :: a2 :: a3 :: b0 :: t) (.long x :: st) h n k j := by
  refine zx_lstore_n (i1 := 3) d e0 rfl hn ?_
  have e : zx_s2 (a0 :: a1 :: a2 :: a3 :: b0 :: t) 3 (.long x) = (a0 :: a1 :: a2 :: some (.long x) :: none :: t) := by simp only [zx_s2, zx_cl, zx_md, List.set_cons_zero, List.set_cons_succ, hk]
  rw [e]; exact kk
theorem zx_ist4 {a0 a1 a2 a3 a4 : Option Value} {x : Int32} (d : decode y.2.1 pc = .ok (.istore 4, 2)) (e0 : pc + 2 = pc2) (hk : zx_kp a3 = a3) (hn : 4 < y.2.2.1) (kk : zX G y R F pc2 (a0 :: a1 :: a2 :: a3 :: some (.int x) :: t) st h n k j) : zX G y R F pc (a0 :: a1 :: a2 :: a3 :: a4 :: t) (.int x :: st) h n k j := by
  refine zx_istore d e0 hn ?_
  have e : zx_s1 (a0 :: a1 :: a2 :: a3 :: a4 :: t) 4 (.int x) = (a0 :: a1 :: a2 :: a3 :: some (.int x) :: t) := by simp only [zx_s1, zx_cl, zx_md, List.set_cons_zero, List.set_cons_succ, hk]
  rw [e]; exact kk
theorem zx_ast4 {a0 a1 a2 a3 a4 : Option Value} {x : Nat} (d : decode y.2.1 pc = .ok (.astore 4, 2)) (e0 : pc + 2 = pc2) (hk : zx_kp a3 = a3) (hn : 4 < y.2.2.1) (kk : zX G y R F pc2 (a0 :: a1 :: a2 :: a3 :: some (.ref x) :: t) st h n k j) : zX G y R F pc (a0 :: a1 :: a2 :: a3 :: a4 :: t) (.ref x :: st) h n k j := by
  refine zx_astore d e0 hn ?_
  have e : zx_s1 (a0 :: a1 :: a2 :: a3 :: a4 :: t) 4 (.ref x) = (a0 :: a1 :: a2 :: a3 :: some (.ref x) :: t) := by simp only [zx_s1, zx_cl, zx_md, List.set_cons_zero, List.set_cons_succ, hk]
  rw [e]; exact kk
theorem zx_astN4 {a0 a1 a2 a3 a4 : Option Value}  (d : decode y.2.1 pc = .ok (.astore 4, 2)) (e0 : pc + 2 = pc2) (hk : zx_kp a3 = a3) (hn : 4 < y.2.2.1) (kk : zX G y R F pc2 (a0 :: a1 :: a2 :: a3 :: some (.null) :: t) st h n k j) : zX G y R F pc (a0 :: a1 :: a2 :: a3 :: a4 :: t) (.null :: st) h n k j := by
  refine zx_astoreN d e0 hn ?_
  have e : zx_s1 (a0 :: a1 :: a2 :: a3 :: a4 :: t) 4 (.null) = (a0 :: a1 :: a2 :: a3 :: some (.null) :: t) := by simp only [zx_s1, zx_cl, zx_md, List.set_cons_zero, List.set_cons_succ, hk]
  rw [e]; exact kk
theorem zx_inc4 {a0 a1 a2 a3 : Option Value} {c0 : Int} {x v : Int32} (d : decode y.2.1 pc = .ok (.iinc 4 c0, 3)) (e0 : pc + 3 = pc2) (hw : x + Int32.ofInt c0 = v) (hk : zx_kp a3 = a3) (hn : 4 < y.2.2.1) (kk : zX G y R F pc2 (a0 :: a1 :: a2 :: a3 :: some (.int v) :: t) st h n k j) : zX G y R F pc (a0 :: a1 :: a2 :: a3 :: some (.int x) :: t) st h n k j := by
  refine zx_iinc d e0 (x := x) (v := v) rfl hw hn ?_
  have e : zx_s1 (a0 :: a1 :: a2 :: a3 :: some (.int x) :: t) 4 (.int v) = (a0 :: a1 :: a2 :: a3 :: some (.int v) :: t) := by simp only [zx_s1, zx_cl, zx_md, List.set_cons_zero, List.set_cons_succ, hk]
  rw [e]; exact kk
theorem zx_lst4 {a0 a1 a2 a3 a4 b0 : Option Value} {x : Int64} (d : decode y.2.1 pc = .ok (.lstore 4, 2)) (e0 : pc + 2 = pc2) (hk : zx_kp a3 = a3) (hn : 4 + 1 < y.2.2.1) (kk : zX G y R F pc2 (a0 :: a1 :: a2 :: a3 :: some (.long x) :: none :: t) st h n k j) : zX G y R F pc (a0 :: a1 :: a2 :: a3 :: a4 :: b0 :: t) (.long x :: st) h n k j := by
  refine zx_lstore d e0 hn ?_
  have e : zx_s2 (a0 :: a1 :: a2 :: a3 :: a4 :: b0 :: t) 4 (.long x) = (a0 :: a1 :: a2 :: a3 :: some (.long x) :: none :: t) := by simp only [zx_s2, zx_cl, zx_md, List.set_cons_zero, List.set_cons_succ, hk]
  rw [e]; exact kk
theorem zx_ist5 {a0 a1 a2 a3 a4 a5 : Option Value} {x : Int32} (d : decode y.2.1 pc = .ok (.istore 5, 2)) (e0 : pc + 2 = pc2) (hk : zx_kp a4 = a4) (hn : 5 < y.2.2.1) (kk : zX G y R F pc2 (a0 :: a1 :: a2 :: a3 :: a4 :: some (.int x) :: t) st h n k j) : zX G y R F pc (a0 :: a1 :: a2 :: a3 :: a4 :: a5 :: t) (.int x :: st) h n k j := by
  refine zx_istore d e0 hn ?_
  have e : zx_s1 (a0 :: a1 :: a2 :: a3 :: a4 :: a5 :: t) 5 (.int x) = (a0 :: a1 :: a2 :: a3 :: a4 :: some (.int x) :: t) := by simp only [zx_s1, zx_cl, zx_md, List.set_cons_zero, List.set_cons_succ, hk]
  rw [e]; exact kk
theorem zx_ast5 {a0 a1 a2 a3 a4 a5 : Option Value} {x : Nat} (d : decode y.2.1 pc = .ok (.astore 5, 2)) (e0 : pc + 2 = pc2) (hk : zx_kp a4 = a4) (hn : 5 < y.2.2.1) (kk : zX G y R F pc2 (a0 :: a1 :: a2 :: a3 :: a4 :: some (.ref x) :: t) st h n k j) : zX G y R F pc (a0 :: a1 :: a2 :: a3 :: a4 :: a5 :: t) (.ref x :: st) h n k j := by
  refine zx_astore d e0 hn ?_
  have e : zx_s1 (a0 :: a1 :: a2 :: a3 :: a4 :: a5 :: t) 5 (.ref x) = (a0 :: a1 :: a2 :: a3 :: a4 :: some (.ref x) :: t) := by simp only [zx_s1, zx_cl, zx_md, List.set_cons_zero, List.set_cons_succ, hk]
  rw [e]; exact kk
theorem zx_astN5 {a0 a1 a2 a3 a4 a5 : Option Value}  (d : decode y.2.1 pc = .ok (.astore 5, 2)) (e0 : pc + 2 = pc2) (hk : zx_kp a4 = a4) (hn : 5 < y.2.2.1) (kk : zX G y R F pc2 (a0 :: a1 :: a2 :: a3 :: a4 :: some (.null) :: t) st h n k j) : zX G y R F pc (a0 :: a1 :: a2 :: a3 :: a4 :: a5 :: t) (.null :: st) h n k j := by
  refine zx_astoreN d e0 hn ?_
  have e : zx_s1 (a0 :: a1 :: a2 :: a3 :: a4 :: a5 :: t) 5 (.null) = (a0 :: a1 :: a2 :: a3 :: a4 :: some (.null) :: t) := by simp only [zx_s1, zx_cl, zx_md, List.set_cons_zero, List.set_cons_succ, hk]
  rw [e]; exact kk
theorem zx_inc5 {a0 a1 a2 a3 a4 : Option Value} {c0 : Int} {x v : Int32} (d : decode y.2.1 pc = .ok (.iinc 5 c0, 3)) (e0 : pc + 3 = pc2) (hw : x + Int32.ofInt c0 = v) (hk : zx_kp a4 = a4) (hn : 5 < y.2.2.1) (kk : zX G y R F pc2 (a0 :: a1 :: a2 :: a3 :: a4 :: some (.int v) :: t) st h n k j) : zX G y R F pc (a0 :: a1 :: a2 :: a3 :: a4 :: some (.int x) :: t) st h n k j := by
  refine zx_iinc d e0 (x := x) (v := v) rfl hw hn ?_
  have e : zx_s1 (a0 :: a1 :: a2 :: a3 :: a4 :: some (.int x) :: t) 5 (.int v) = (a0 :: a1 :: a2 :: a3 :: a4 :: some (.int v) :: t) := by simp only [zx_s1, zx_cl, zx_md, List.set_cons_zero, List.set_cons_succ, hk]
  rw [e]; exact kk
theorem zx_lst5 {a0 a1 a2 a3 a4 a5 b0 : Option Value} {x : Int64} (d : decode y.2.1 pc = .ok (.lstore 5, 2)) (e0 : pc + 2 = pc2) (hk : zx_kp a4 = a4) (hn : 5 + 1 < y.2.2.1) (kk : zX G y R F pc2 (a0 :: a1 :: a2 :: a3 :: a4 :: some (.long x) :: none :: t) st h n k j) : zX G y R F pc (a0 :: a1 :: a2 :: a3 :: a4 :: a5 :: b0 :: t) (.long x :: st) h n k j := by
  refine zx_lstore d e0 hn ?_
  have e : zx_s2 (a0 :: a1 :: a2 :: a3 :: a4 :: a5 :: b0 :: t) 5 (.long x) = (a0 :: a1 :: a2 :: a3 :: a4 :: some (.long x) :: none :: t) := by simp only [zx_s2, zx_cl, zx_md, List.set_cons_zero, List.set_cons_succ, hk]
  rw [e]; exact kk
theorem zx_ist6 {a0 a1 a2 a3 a4 a5 a6 : Option Value} {x : Int32} (d : decode y.2.1 pc = .ok (.istore 6, 2)) (e0 : pc + 2 = pc2) (hk : zx_kp a5 = a5) (hn : 6 < y.2.2.1) (kk : zX G y R F pc2 (a0 :: a1 :: a2 :: a3 :: a4 :: a5 :: some (.int x) :: t) st h n k j) : zX G y R F pc (a0 :: a1 :: a2 :: a3 :: a4 :: a5 :: a6 :: t) (.int x :: st) h n k j := by
  refine zx_istore d e0 hn ?_
  have e : zx_s1 (a0 :: a1 :: a2 :: a3 :: a4 :: a5 :: a6 :: t) 6 (.int x) = (a0 :: a1 :: a2 :: a3 :: a4 :: a5 :: some (.int x) :: t) := by simp only [zx_s1, zx_cl, zx_md, List.set_cons_zero, List.set_cons_succ, hk]
  rw [e]; exact kk
theorem zx_ast6 {a0 a1 a2 a3 a4 a5 a6 : Option Value} {x : Nat} (d : decode y.2.1 pc = .ok (.astore 6, 2)) (e0 : pc + 2 = pc2) (hk : zx_kp a5 = a5) (hn : 6 < y.2.2.1) (kk : zX G y R F pc2 (a0 :: a1 :: a2 :: a3 :: a4 :: a5 :: some (.ref x) :: t) st h n k j) : zX G y R F pc (a0 :: a1 :: a2 :: a3 :: a4 :: a5 :: a6 :: t) (.ref x :: st) h n k j := by
  refine zx_astore d e0 hn ?_
  have e : zx_s1 (a0 :: a1 :: a2 :: a3 :: a4 :: a5 :: a6 :: t) 6 (.ref x) = (a0 :: a1 :: a2 :: a3 :: a4 :: a5 :: some (.ref x) :: t) := by simp only [zx_s1, zx_cl, zx_md, List.set_cons_zero, List.set_cons_succ, hk]
  rw [e]; exact kk
theorem zx_astN6 {a0 a1 a2 a3 a4 a5 a6 : Option Value}  (d : decode y.2.1 pc = .ok (.astore 6, 2)) (e0 : pc + 2 = pc2) (hk : zx_kp a5 = a5) (hn : 6 < y.2.2.1) (kk : zX G y R F pc2 (a0 :: a1 :: a2 :: a3 :: a4 :: a5 :: some (.null) :: t) st h n k j) : zX G y R F pc (a0 :: a1 :: a2 :: a3 :: a4 :: a5 :: a6 :: t) (.null :: st) h n k j := by
  refine zx_astoreN d e0 hn ?_
  have e : zx_s1 (a0 :: a1 :: a2 :: a3 :: a4 :: a5 :: a6 :: t) 6 (.null) = (a0 :: a1 :: a2 :: a3 :: a4 :: a5 :: some (.null) :: t) := by simp only [zx_s1, zx_cl, zx_md, List.set_cons_zero, List.set_cons_succ, hk]
  rw [e]; exact kk
theorem zx_inc6 {a0 a1 a2 a3 a4 a5 : Option Value} {c0 : Int} {x v : Int32} (d : decode y.2.1 pc = .ok (.iinc 6 c0, 3)) (e0 : pc + 3 = pc2) (hw : x + Int32.ofInt c0 = v) (hk : zx_kp a5 = a5) (hn : 6 < y.2.2.1) (kk : zX G y R F pc2 (a0 :: a1 :: a2 :: a3 :: a4 :: a5 :: some (.int v) :: t) st h n k j) : zX G y R F pc (a0 :: a1 :: a2 :: a3 :: a4 :: a5 :: some (.int x) :: t) st h n k j := by
  refine zx_iinc d e0 (x := x) (v := v) rfl hw hn ?_
  have e : zx_s1 (a0 :: a1 :: a2 :: a3 :: a4 :: a5 :: some (.int x) :: t) 6 (.int v) = (a0 :: a1 :: a2 :: a3 :: a4 :: a5 :: some (.int v) :: t) := by simp only [zx_s1, zx_cl, zx_md, List.set_cons_zero, List.set_cons_succ, hk]
  rw [e]; exact kk
theorem zx_lst6 {a0 a1 a2 a3 a4 a5 a6 b0 : Option Value} {x : Int64} (d : decode y.2.1 pc = .ok (.lstore 6, 2)) (e0 : pc + 2 = pc2) (hk : zx_kp a5 = a5) (hn : 6 + 1 < y.2.2.1) (kk : zX G y R F pc2 (a0 :: a1 :: a2 :: a3 :: a4 :: a5 :: some (.long x) :: none :: t) st h n k j) : zX G y R F pc (a0 :: a1 :: a2 :: a3 :: a4 :: a5 :: a6 :: b0 :: t) (.long x :: st) h n k j := by
  refine zx_lstore d e0 hn ?_
  have e : zx_s2 (a0 :: a1 :: a2 :: a3 :: a4 :: a5 :: a6 :: b0 :: t) 6 (.long x) = (a0 :: a1 :: a2 :: a3 :: a4 :: a5 :: some (.long x) :: none :: t) := by simp only [zx_s2, zx_cl, zx_md, List.set_cons_zero, List.set_cons_succ, hk]
  rw [e]; exact kk
theorem zx_ist7 {a0 a1 a2 a3 a4 a5 a6 a7 : Option Value} {x : Int32} (d : decode y.2.1 pc = .ok (.istore 7, 2)) (e0 : pc + 2 = pc2) (hk : zx_kp a6 = a6) (hn : 7 < y.2.2.1) (kk : zX G y R F pc2 (a0 :: a1 :: a2 :: a3 :: a4 :: a5 :: a6 :: some (.int x) :: t) st h n k j) : zX G y R F pc (a0 :: a1 :: a2 :: a3 :: a4 :: a5 :: a6 :: a7 :: t) (.int x :: st) h n k j := by
  refine zx_istore d e0 hn ?_
  have e : zx_s1 (a0 :: a1 :: a2 :: a3 :: a4 :: a5 :: a6 :: a7 :: t) 7 (.int x) = (a0 :: a1 :: a2 :: a3 :: a4 :: a5 :: a6 :: some (.int x) :: t) := by simp only [zx_s1, zx_cl, zx_md, List.set_cons_zero, List.set_cons_succ, hk]
  rw [e]; exact kk
theorem zx_ast7 {a0 a1 a2 a3 a4 a5 a6 a7 : Option Value} {x : Nat} (d : decode y.2.1 pc = .ok (.astore 7, 2)) (e0 : pc + 2 = pc2) (hk : zx_kp a6 = a6) (hn : 7 < y.2.2.1) (kk : zX G y R F pc2 (a0 :: a1 :: a2 :: a3 :: a4 :: a5 :: a6 :: some (.ref x) :: t) st h n k j) : zX G y R F pc (a0 :: a1 :: a2 :: a3 :: a4 :: a5 :: a6 :: a7 :: t) (.ref x :: st) h n k j := by
  refine zx_astore d e0 hn ?_
  have e : zx_s1 (a0 :: a1 :: a2 :: a3 :: a4 :: a5 :: a6 :: a7 :: t) 7 (.ref x) = (a0 :: a1 :: a2 :: a3 :: a4 :: a5 :: a6 :: some (.ref x) :: t) := by simp only [zx_s1, zx_cl, zx_md, List.set_cons_zero, List.set_cons_succ, hk]
  rw [e]; exact kk
theorem zx_astN7 {a0 a1 a2 a3 a4 a5 a6 a7 : Option Value}  (d : decode y.2.1 pc = .ok (.astore 7, 2)) (e0 : pc + 2 = pc2) (hk : zx_kp a6 = a6) (hn : 7 < y.2.2.1) (kk : zX G y R F pc2 (a0 :: a1 :: a2 :: a3 :: a4 :: a5 :: a6 :: some (.null) :: t) st h n k j) : zX G y R F pc (a0 :: a1 :: a2 :: a3 :: a4 :: a5 :: a6 :: a7 :: t) (.null :: st) h n k j := by
  refine zx_astoreN d e0 hn ?_
  have e : zx_s1 (a0 :: a1 :: a2 :: a3 :: a4 :: a5 :: a6 :: a7 :: t) 7 (.null) = (a0 :: a1 :: a2 :: a3 :: a4 :: a5 :: a6 :: some (.null) :: t) := by simp only [zx_s1, zx_cl, zx_md, List.set_cons_zero, List.set_cons_succ, hk]
  rw [e]; exact kk
theorem zx_inc7 {a0 a1 a2 a3 a4 a5 a6 : Option Value} {c0 : Int} {x v : Int32} (d : decode y.2.1 pc = .ok (.iinc 7 c0, 3)) (e0 : pc + 3 = pc2) (hw : x + Int32.ofInt c0 = v) (hk : zx_kp a6 = a6) (hn : 7 < y.2.2.1) (kk : zX G y R F pc2 (a0 :: a1 :: a2 :: a3 :: a4 :: a5 :: a6 :: some (.int v) :: t) st h n k j) : zX G y R F pc (a0 :: a1 :: a2 :: a3 :: a4 :: a5 :: a6 :: some (.int x) :: t) st h n k j := by
  refine zx_iinc d e0 (x := x) (v := v) rfl hw hn ?_
  have e : zx_s1 (a0 :: a1 :: a2 :: a3 :: a4 :: a5 :: a6 :: some (.int x) :: t) 7 (.int v) = (a0 :: a1 :: a2 :: a3 :: a4 :: a5 :: a6 :: some (.int v) :: t) := by simp only [zx_s1, zx_cl, zx_md, List.set_cons_zero, List.set_cons_succ, hk]
  rw [e]; exact kk
theorem zx_lst7 {a0 a1 a2 a3 a4 a5 a6 a7 b0 : Option Value} {x : Int64} (d : decode y.2.1 pc = .ok (.lstore 7, 2)) (e0 : pc + 2 = pc2) (hk : zx_kp a6 = a6) (hn : 7 + 1 < y.2.2.1) (kk : zX G y R F pc2 (a0 :: a1 :: a2 :: a3 :: a4 :: a5 :: a6 :: some (.long x) :: none :: t) st h n k j) : zX G y R F pc (a0 :: a1 :: a2 :: a3 :: a4 :: a5 :: a6 :: a7 :: b0 :: t) (.long x :: st) h n k j := by
  refine zx_lstore d e0 hn ?_
  have e : zx_s2 (a0 :: a1 :: a2 :: a3 :: a4 :: a5 :: a6 :: a7 :: b0 :: t) 7 (.long x) = (a0 :: a1 :: a2 :: a3 :: a4 :: a5 :: a6 :: some (.long x) :: none :: t) := by simp only [zx_s2, zx_cl, zx_md, List.set_cons_zero, List.set_cons_succ, hk]
  rw [e]; exact kk
theorem zx_ist8 {a0 a1 a2 a3 a4 a5 a6 a7 a8 : Option Value} {x : Int32} (d : decode y.2.1 pc = .ok (.istore 8, 2)) (e0 : pc + 2 = pc2) (hk : zx_kp a7 = a7) (hn : 8 < y.2.2.1) (kk : zX G y R F pc2 (a0 :: a1 :: a2 :: a3 :: a4 :: a5 :: a6 :: a7 :: some (.int x) :: t) st h n k j) : zX G y R F pc (a0 :: a1 :: a2 :: a3 :: a4 :: a5 :: a6 :: a7 :: a8 :: t) (.int x :: st) h n k j := by
  refine zx_istore d e0 hn ?_
  have e : zx_s1 (a0 :: a1 :: a2 :: a3 :: a4 :: a5 :: a6 :: a7 :: a8 :: t) 8 (.int x) = (a0 :: a1 :: a2 :: a3 :: a4 :: a5 :: a6 :: a7 :: some (.int x) :: t) := by simp only [zx_s1, zx_cl, zx_md, List.set_cons_zero, List.set_cons_succ, hk]
  rw [e]; exact kk
theorem zx_ast8 {a0 a1 a2 a3 a4 a5 a6 a7 a8 : Option Value} {x : Nat} (d : decode y.2.1 pc = .ok (.astore 8, 2)) (e0 : pc + 2 = pc2) (hk : zx_kp a7 = a7) (hn : 8 < y.2.2.1) (kk : zX G y R F pc2 (a0 :: a1 :: a2 :: a3 :: a4 :: a5 :: a6 :: a7 :: some (.ref x) :: t) st h n k j) : zX G y R F pc (a0 :: a1 :: a2 :: a3 :: a4 :: a5 :: a6 :: a7 :: a8 :: t) (.ref x :: st) h n k j := by
  refine zx_astore d e0 hn ?_
  have e : zx_s1 (a0 :: a1 :: a2 :: a3 :: a4 :: a5 :: a6 :: a7 :: a8 :: t) 8 (.ref x) = (a0 :: a1 :: a2 :: a3 :: a4 :: a5 :: a6 :: a7 :: some (.ref x) :: t) := by simp only [zx_s1, zx_cl, zx_md, List.set_cons_zero, List.set_cons_succ, hk]
  rw [e]; exact kk
theorem zx_astN8 {a0 a1 a2 a3 a4 a5 a6 a7 a8 : Option Value}  (d : decode y.2.1 pc = .ok (.astore 8, 2)) (e0 : pc + 2 = pc2) (hk : zx_kp a7 = a7) (hn : 8 < y.2.2.1) (kk : zX G y R F pc2 (a0 :: a1 :: a2 :: a3 :: a4 :: a5 :: a6 :: a7 :: some (.null) :: t) st h n k j) : zX G y R F pc (a0 :: a1 :: a2 :: a3 :: a4 :: a5 :: a6 :: a7 :: a8 :: t) (.null :: st) h n k j := by
  refine zx_astoreN d e0 hn ?_
  have e : zx_s1 (a0 :: a1 :: a2 :: a3 :: a4 :: a5 :: a6 :: a7 :: a8 :: t) 8 (.null) = (a0 :: a1 :: a2 :: a3 :: a4 :: a5 :: a6 :: a7 :: some (.null) :: t) := by simp only [zx_s1, zx_cl, zx_md, List.set_cons_zero, List.set_cons_succ, hk]
  rw [e]; exact kk
theorem zx_inc8 {a0 a1 a2 a3 a4 a5 a6 a7 : Option Value} {c0 : Int} {x v : Int32} (d : decode y.2.1 pc = .ok (.iinc 8 c0, 3)) (e0 : pc + 3 = pc2) (hw : x + Int32.ofInt c0 = v) (hk : zx_kp a7 = a7) (hn : 8 < y.2.2.1) (kk : zX G y R F pc2 (a0 :: a1 :: a2 :: a3 :: a4 :: a5 :: a6 :: a7 :: some (.int v) :: t) st h n k j) : zX G y R F pc (a0 :: a1 :: a2 :: a3 :: a4 :: a5 :: a6 :: a7 :: some (.int x) :: t) st h n k j := by
  refine zx_iinc d e0 (x := x) (v := v) rfl hw hn ?_
  have e : zx_s1 (a0 :: a1 :: a2 :: a3 :: a4 :: a5 :: a6 :: a7 :: some (.int x) :: t) 8 (.int v) = (a0 :: a1 :: a2 :: a3 :: a4 :: a5 :: a6 :: a7 :: some (.int v) :: t) := by simp only [zx_s1, zx_cl, zx_md, List.set_cons_zero, List.set_cons_succ, hk]
  rw [e]; exact kk
theorem zx_lst8 {a0 a1 a2 a3 a4 a5 a6 a7 a8 b0 : Option Value} {x : Int64} (d : decode y.2.1 pc = .ok (.lstore 8, 2)) (e0 : pc + 2 = pc2) (hk : zx_kp a7 = a7) (hn : 8 + 1 < y.2.2.1) (kk : zX G y R F pc2 (a0 :: a1 :: a2 :: a3 :: a4 :: a5 :: a6 :: a7 :: some (.long x) :: none :: t) st h n k j) : zX G y R F pc (a0 :: a1 :: a2 :: a3 :: a4 :: a5 :: a6 :: a7 :: a8 :: b0 :: t) (.long x :: st) h n k j := by
  refine zx_lstore d e0 hn ?_
  have e : zx_s2 (a0 :: a1 :: a2 :: a3 :: a4 :: a5 :: a6 :: a7 :: a8 :: b0 :: t) 8 (.long x) = (a0 :: a1 :: a2 :: a3 :: a4 :: a5 :: a6 :: a7 :: some (.long x) :: none :: t) := by simp only [zx_s2, zx_cl, zx_md, List.set_cons_zero, List.set_cons_succ, hk]
  rw [e]; exact kk
theorem zx_ist9 {a0 a1 a2 a3 a4 a5 a6 a7 a8 a9 : Option Value} {x : Int32} (d : decode y.2.1 pc = .ok (.istore 9, 2)) (e0 : pc + 2 = pc2) (hk : zx_kp a8 = a8) (hn : 9 < y.2.2.1) (kk : zX G y R F pc2 (a0 :: a1 :: a2 :: a3 :: a4 :: a5 :: a6 :: a7 :: a8 :: some (.int x) :: t) st h n k j) : zX G y R F pc (a0 :: a1 :: a2 :: a3 :: a4 :: a5 :: a6 :: a7 :: a8 :: a9 :: t) (.int x :: st) h n k j := by
  refine zx_istore d e0 hn ?_
  have e : zx_s1 (a0 :: a1 :: a2 :: a3 :: a4 :: a5 :: a6 :: a7 :: a8 :: a9 :: t) 9 (.int x) = (a0 :: a1 :: a2 :: a3 :: a4 :: a5 :: a6 :: a7 :: a8 :: some (.int x) :: t) := by simp only [zx_s1, zx_cl, zx_md, List.set_cons_zero, List.set_cons_succ, hk]
  rw [e]; exact kk
theorem zx_ast9 {a0 a1 a2 a3 a4 a5 a6 a7 a8 a9 : Option Value} {x : Nat} (d : decode y.2.1 pc = .ok (.astore 9, 2)) (e0 : pc + 2 = pc2) (hk : zx_kp a8 = a8) (hn : 9 < y.2.2.1) (kk : zX G y R F pc2 (a0 :: a1 :: a2 :: a3 :: a4 :: a5 :: a6 :: a7 :: a8 :: some (.ref x) :: t) st h n k j) : zX G y R F pc (a0 :: a1 :: a2 :: a3 :: a4 :: a5 :: a6 :: a7 :: a8 :: a9 :: t) (.ref x :: st) h n k j := by
  refine zx_astore d e0 hn ?_
  have e : zx_s1 (a0 :: a1 :: a2 :: a3 :: a4 :: a5 :: a6 :: a7 :: a8 :: a9 :: t) 9 (.ref x) = (a0 :: a1 :: a2 :: a3 :: a4 :: a5 :: a6 :: a7 :: a8 :: some (.ref x) :: t) := by simp only [zx_s1, zx_cl, zx_md, List.set_cons_zero, List.set_cons_succ, hk]
  rw [e]; exact kk
theorem zx_astN9 {a0 a1 a2 a3 a4 a5 a6 a7 a8 a9 : Option Value}  (d : decode y.2.1 pc = .ok (.astore 9, 2)) (e0 : pc + 2 = pc2) (hk : zx_kp a8 = a8) (hn : 9 < y.2.2.1) (kk : zX G y R F pc2 (a0 :: a1 :: a2 :: a3 :: a4 :: a5 :: a6 :: a7 :: a8 :: some (.null) :: t) st h n k j) : zX G y R F pc (a0 :: a1 :: a2 :: a3 :: a4 :: a5 :: a6 :: a7 :: a8 :: a9 :: t) (.null :: st) h n k j := by
  refine zx_astoreN d e0 hn ?_
  have e : zx_s1 (a0 :: a1 :: a2 :: a3 :: a4 :: a5 :: a6 :: a7 :: a8 :: a9 :: t) 9 (.null) = (a0 :: a1 :: a2 :: a3 :: a4 :: a5 :: a6 :: a7 :: a8 :: some (.null) :: t) := by simp only [zx_s1, zx_cl, zx_md, List.set_cons_zero, List.set_cons_succ, hk]
  rw [e]; exact kk
theorem zx_inc9 {a0 a1 a2 a3 a4 a5 a6 a7 a8 : Option Value} {c0 : Int} {x v : Int32} (d : decode y.2.1 pc = .ok (.iinc 9 c0, 3)) (e0 : pc + 3 = pc2) (hw : x + Int32.ofInt c0 = v) (hk : zx_kp a8 = a8) (hn : 9 < y.2.2.1) (kk : zX G y R F pc2 (a0 :: a1 :: a2 :: a3 :: a4 :: a5 :: a6 :: a7 :: a8 :: some (.int v) :: t) st h n k j) : zX G y R F pc (a0 :: a1 :: a2 :: a3 :: a4 :: a5 :: a6 :: a7 :: a8 :: some (.int x) :: t) st h n k j := by
  refine zx_iinc d e0 (x := x) (v := v) rfl hw hn ?_
  have e : zx_s1 (a0 :: a1 :: a2 :: a3 :: a4 :: a5 :: a6 :: a7 :: a8 :: some (.int x) :: t) 9 (.int v) = (a0 :: a1 :: a2 :: a3 :: a4 :: a5 :: a6 :: a7 :: a8 :: some (.int v) :: t) := by simp only [zx_s1, zx_cl, zx_md, List.set_cons_zero, List.set_cons_succ, hk]
  rw [e]; exact kk
theorem zx_lst9 {a0 a1 a2 a3 a4 a5 a6 a7 a8 a9 b0 : Option Value} {x : Int64} (d : decode y.2.1 pc = .ok (.lstore 9, 2)) (e0 : pc + 2 = pc2) (hk : zx_kp a8 = a8) (hn : 9 + 1 < y.2.2.1) (kk : zX G y R F pc2 (a0 :: a1 :: a2 :: a3 :: a4 :: a5 :: a6 :: a7 :: a8 :: some (.long x) :: none :: t) st h n k j) : zX G y R F pc (a0 :: a1 :: a2 :: a3 :: a4 :: a5 :: a6 :: a7 :: a8 :: a9 :: b0 :: t) (.long x :: st) h n k j := by
  refine zx_lstore d e0 hn ?_
  have e : zx_s2 (a0 :: a1 :: a2 :: a3 :: a4 :: a5 :: a6 :: a7 :: a8 :: a9 :: b0 :: t) 9 (.long x) = (a0 :: a1 :: a2 :: a3 :: a4 :: a5 :: a6 :: a7 :: a8 :: some (.long x) :: none :: t) := by simp only [zx_s2, zx_cl, zx_md, List.set_cons_zero, List.set_cons_succ, hk]
  rw [e]; exact kk
theorem zx_ist10 {a0 a1 a2 a3 a4 a5 a6 a7 a8 a9 a10 : Option Value} {x : Int32} (d : decode y.2.1 pc = .ok (.istore 10, 2)) (e0 : pc + 2 = pc2) (hk : zx_kp a9 = a9) (hn : 10 < y.2.2.1) (kk : zX G y R F pc2 (a0 :: a1 :: a2 :: a3 :: a4 :: a5 :: a6 :: a7 :: a8 :: a9 :: some (.int x) :: t) st h n k j) : zX G y R F pc (a0 :: a1 :: a2 :: a3 :: a4 :: a5 :: a6 :: a7 :: a8 :: a9 :: a10 :: t) (.int x :: st) h n k j := by
  refine zx_istore d e0 hn ?_
  have e : zx_s1 (a0 :: a1 :: a2 :: a3 :: a4 :: a5 :: a6 :: a7 :: a8 :: a9 :: a10 :: t) 10 (.int x) = (a0 :: a1 :: a2 :: a3 :: a4 :: a5 :: a6 :: a7 :: a8 :: a9 :: some (.int x) :: t) := by simp only [zx_s1, zx_cl, zx_md, List.set_cons_zero, List.set_cons_succ, hk]
  rw [e]; exact kk
theorem zx_ast10 {a0 a1 a2 a3 a4 a5 a6 a7 a8 a9 a10 : Option Value} {x : Nat} (d : decode y.2.1 pc = .ok (.astore 10, 2)) (e0 : pc + 2 = pc2) (hk : zx_kp a9 = a9) (hn : 10 < y.2.2.1) (kk : zX G y R F pc2 (a0 :: a1 :: a2 :: a3 :: a4 :: a5 :: a6 :: a7 :: a8 :: a9 :: some (.ref x) :: t) st h n k j) : zX G y R F pc (a0 :: a1 :: a2 :: a3 :: a4 :: a5 :: a6 :: a7 :: a8 :: a9 :: a10 :: t) (.ref x :: st) h n k j := by
  refine zx_astore d e0 hn ?_
  have e : zx_s1 (a0 :: a1 :: a2 :: a3 :: a4 :: a5 :: a6 :: a7 :: a8 :: a9 :: a10 :: t) 10 (.ref x) = (a0 :: a1 :: a2 :: a3 :: a4 :: a5 :: a6 :: a7 :: a8 :: a9 :: some (.ref x) :: t) := by simp only [zx_s1, zx_cl, zx_md, List.set_cons_zero, List.set_cons_succ, hk]
  rw [e]; exact kk
theorem zx_astN10 {a0 a1 a2 a3 a4 a5 a6 a7 a8 a9 a10 : Option Value}  (d : decode y.2.1 pc = .ok (.astore 10, 2)) (e0 : pc + 2 = pc2) (hk : zx_kp a9 = a9) (hn : 10 < y.2.2.1) (kk : zX G y R F pc2 (a0 :: a1 :: a2 :: a3 :: a4 :: a5 :: a6 :: a7 :: a8 :: a9 :: some (.null) :: t) st h n k j) : zX G y R F pc (a0 :: a1 :: a2 :: a3 :: a4 :: a5 :: a6 :: a7 :: a8 :: a9 :: a10 :: t) (.null :: st) h n k j := by
  refine zx_astoreN d e0 hn ?_
  have e : zx_s1 (a0 :: a1 :: a2 :: a3 :: a4 :: a5 :: a6 :: a7 :: a8 :: a9 :: a10 :: t) 10 (.null) = (a0 :: a1 :: a2 :: a3 :: a4 :: a5 :: a6 :: a7 :: a8 :: a9 :: some (.null) :: t) := by simp only [zx_s1, zx_cl, zx_md, List.set_cons_zero, List.set_cons_succ, hk]
  rw [e]; exact kk
theorem zx_inc10 {a0 a1 a2 a3 a4 a5 a6 a7 a8 a9 : Option Value} {c0 : Int} {x v : Int32} (d : decode y.2.1 pc = .ok (.iinc 10 c0, 3)) (e0 : pc + 3 = pc2) (hw : x + Int32.ofInt c0 = v) (hk : zx_kp a9 = a9) (hn : 10 < y.2.2.1) (kk : zX G y R F pc2 (a0 :: a1 :: a2 :: a3 :: a4 :: a5 :: a6 :: a7 :: a8 :: a9 :: some (.int v) :: t) st h n k j) : zX G y R F pc (a0 :: a1 :: a2 :: a3 :: a4 :: a5 :: a6 :: a7 :: a8 :: a9 :: some (.int x) :: t) st h n k j := by
  refine zx_iinc d e0 (x := x) (v := v) rfl hw hn ?_
  have e : zx_s1 (a0 :: a1 :: a2 :: a3 :: a4 :: a5 :: a6 :: a7 :: a8 :: a9 :: some (.int x) :: t) 10 (.int v) = (a0 :: a1 :: a2 :: a3 :: a4 :: a5 :: a6 :: a7 :: a8 :: a9 :: some (.int v) :: t) := by simp only [zx_s1, zx_cl, zx_md, List.set_cons_zero, List.set_cons_succ, hk]
  rw [e]; exact kk
theorem zx_lst10 {a0 a1 a2 a3 a4 a5 a6 a7 a8 a9 a10 b0 : Option Value} {x : Int64} (d : decode y.2.1 pc = .ok (.lstore 10, 2)) (e0 : pc + 2 = pc2) (hk : zx_kp a9 = a9) (hn : 10 + 1 < y.2.2.1) (kk : zX G y R F pc2 (a0 :: a1 :: a2 :: a3 :: a4 :: a5 :: a6 :: a7 :: a8 :: a9 :: some (.long x) :: none :: t) st h n k j) : zX G y R F pc (a0 :: a1 :: a2 :: a3 :: a4 :: a5 :: a6 :: a7 :: a8 :: a9 :: a10 :: b0 :: t) (.long x :: st) h n k j := by
  refine zx_lstore d e0 hn ?_
  have e : zx_s2 (a0 :: a1 :: a2 :: a3 :: a4 :: a5 :: a6 :: a7 :: a8 :: a9 :: a10 :: b0 :: t) 10 (.long x) = (a0 :: a1 :: a2 :: a3 :: a4 :: a5 :: a6 :: a7 :: a8 :: a9 :: some (.long x) :: none :: t) := by simp only [zx_s2, zx_cl, zx_md, List.set_cons_zero, List.set_cons_succ, hk]
  rw [e]; exact kk
theorem zx_ist11 {a0 a1 a2 a3 a4 a5 a6 a7 a8 a9 a10 a11 : Option Value} {x : Int32} (d : decode y.2.1 pc = .ok (.istore 11, 2)) (e0 : pc + 2 = pc2) (hk : zx_kp a10 = a10) (hn : 11 < y.2.2.1) (kk : zX G y R F pc2 (a0 :: a1 :: a2 :: a3 :: a4 :: a5 :: a6 :: a7 :: a8 :: a9 :: a10 :: some (.int x) :: t) st h n k j) : zX G y R F pc (a0 :: a1 :: a2 :: a3 :: a4 :: a5 :: a6 :: a7 :: a8 :: a9 :: a10 :: a11 :: t) (.int x :: st) h n k j := by
  refine zx_istore d e0 hn ?_
  have e : zx_s1 (a0 :: a1 :: a2 :: a3 :: a4 :: a5 :: a6 :: a7 :: a8 :: a9 :: a10 :: a11 :: t) 11 (.int x) = (a0 :: a1 :: a2 :: a3 :: a4 :: a5 :: a6 :: a7 :: a8 :: a9 :: a10 :: some (.int x) :: t) := by simp only [zx_s1, zx_cl, zx_md, List.set_cons_zero, List.set_cons_succ, hk]
  rw [e]; exact kk
theorem zx_ast11 {a0 a1 a2 a3 a4 a5 a6 a7 a8 a9 a10 a11 : Option Value} {x : Nat} (d : decode y.2.1 pc = .ok (.astore 11, 2)) (e0 : pc + 2 = pc2) (hk : zx_kp a10 = a10) (hn : 11 < y.2.2.1) (kk : zX G y R F pc2 (a0 :: a1 :: a2 :: a3 :: a4 :: a5 :: a6 :: a7 :: a8 :: a9 :: a10 :: some (.ref x) :: t) st h n k j) : zX G y R F pc (a0 :: a1 :: a2 :: a3 :: a4 :: a5 :: a6 :: a7 :: a8 :: a9 :: a10 :: a11 :: t) (.ref x :: st) h n k j := by
  refine zx_astore d e0 hn ?_
  have e : zx_s1 (a0 :: a1 :: a2 :: a3 :: a4 :: a5 :: a6 :: a7 :: a8 :: a9 :: a10 :: a11 :: t) 11 (.ref x) = (a0 :: a1 :: a2 :: a3 :: a4 :: a5 :: a6 :: a7 :: a8 :: a9 :: a10 :: some (.ref x) :: t) := by simp only [zx_s1, zx_cl, zx_md, List.set_cons_zero, List.set_cons_succ, hk]
  rw [e]; exact kk
theorem zx_astN11 {a0 a1 a2 a3 a4 a5 a6 a7 a8 a9 a10 a11 : Option Value}  (d : decode y.2.1 pc = .ok (.astore 11, 2)) (e0 : pc + 2 = pc2) (hk : zx_kp a10 = a10) (hn : 11 < y.2.2.1) (kk : zX G y R F pc2 (a0 :: a1 :: a2 :: a3 :: a4 :: a5 :: a6 :: a7 :: a8 :: a9 :: a10 :: some (.null) :: t) st h n k j) : zX G y R F pc (a0 :: a1 :: a2 :: a3 :: a4 :: a5 :: a6 :: a7 :: a8 :: a9 :: a10 :: a11 :: t) (.null :: st) h n k j := by
  refine zx_astoreN d e0 hn ?_
  have e : zx_s1 (a0 :: a1 :: a2 :: a3 :: a4 :: a5 :: a6 :: a7 :: a8 :: a9 :: a10 :: a11 :: t) 11 (.null) = (a0 :: a1 :: a2 :: a3 :: a4 :: a5 :: a6 :: a7 :: a8 :: a9 :: a10 :: some (.null) :: t) := by simp only [zx_s1, zx_cl, zx_md, List.set_cons_zero, List.set_cons_succ, hk]
  rw [e]; exact kk
theorem zx_inc11 {a0 a1 a2 a3 a4 a5 a6 a7 a8 a9 a10 : Option Value} {c0 : Int} {x v : Int32} (d : decode y.2.1 pc = .ok (.iinc 11 c0, 3)) (e0 : pc + 3 = pc2) (hw : x + Int32.ofInt c0 = v) (hk : zx_kp a10 = a10) (hn : 11 < y.2.2.1) (kk : zX G y R F pc2 (a0 :: a1 :: a2 :: a3 :: a4 :: a5 :: a6 :: a7 :: a8 :: a9 :: a10 :: some (.int v) :: t) st h n k j) : zX G y R F pc (a0 :: a1 :: a2 :: a3 :: a4 :: a5 :: a6 :: a7 :: a8 :: a9 :: a10 :: some (.int x) :: t) st h n k j := by
  refine zx_iinc d e0 (x := x) (v := v) rfl hw hn ?_
  have e : zx_s1 (a0 :: a1 :: a2 :: a3 :: a4 :: a5 :: a6 :: a7 :: a8 :: a9 :: a10 :: some (.int x) :: t) 11 (.int v) = (a0 :: a1 :: a2 :: a3 :: a4 :: a5 :: a6 :: a7 :: a8 :: a9 :: a10 :: some (.int v) :: t) := by simp only [zx_s1, zx_cl, zx_md, List.set_cons_zero, List.set_cons_succ, hk]
  rw [e]; exact kk
theorem zx_lst11 {a0 a1 a2 a3 a4 a5 a6 a7 a8 a9 a10 a11 b0 : Option Value} {x : Int64} (d : decode y.2.1 pc = .ok (.lstore 11, 2)) (e0 : pc + 2 = pc2) (hk : zx_kp a10 = a10) (hn : 11 + 1 < y.2.2.1) (kk : zX G y R F pc2 (a0 :: a1 :: a2 :: a3 :: a4 :: a5 :: a6 :: a7 :: a8 :: a9 :: a10 :: some (.long x) :: none :: t) st h n k j) : zX G y R F pc (a0 :: a1 :: a2 :: a3 :: a4 :: a5 :: a6 :: a7 :: a8 :: a9 :: a10 :: a11 :: b0 :: t) (.long x :: st) h n k j := by
  refine zx_lstore d e0 hn ?_
  have e : zx_s2 (a0 :: a1 :: a2 :: a3 :: a4 :: a5 :: a6 :: a7 :: a8 :: a9 :: a10 :: a11 :: b0 :: t) 11 (.long x) = (a0 :: a1 :: a2 :: a3 :: a4 :: a5 :: a6 :: a7 :: a8 :: a9 :: a10 :: some (.long x) :: none :: t) := by simp only [zx_s2, zx_cl, zx_md, List.set_cons_zero, List.set_cons_succ, hk]
  rw [e]; exact kk
theorem zx_ist12 {a0 a1 a2 a3 a4 a5 a6 a7 a8 a9 a10 a11 a12 : Option Value} {x : Int32} (d : decode y.2.1 pc = .ok (.istore 12, 2)) (e0 : pc + 2 = pc2) (hk : zx_kp a11 = a11) (hn : 12 < y.2.2.1) (kk : zX G y R F pc2 (a0 :: a1 :: a2 :: a3 :: a4 :: a5 :: a6 :: a7 :: a8 :: a9 :: a10 :: a11 :: some (.int x) :: t) st h n k j) : zX G y R F pc (a0 :: a1 :: a2 :: a3 :: a4 :: a5 :: a6 :: a7 :: a8 :: a9 :: a10 :: a11 :: a12 :: t) (.int x :: st) h n k j := by
  refine zx_istore d e0 hn ?_
  have e : zx_s1 (a0 :: a1 :: a2 :: a3 :: a4 :: a5 :: a6 :: a7 :: a8 :: a9 :: a10 :: a11 :: a12 :: t) 12 (.int x) = (a0 :: a1 :: a2 :: a3 :: a4 :: a5 :: a6 :: a7 :: a8 :: a9 :: a10 :: a11 :: some (.int x) :: t) := by simp only [zx_s1, zx_cl, zx_md, List.set_cons_zero, List.set_cons_succ, hk]
  rw [e]; exact kk
theorem zx_ast12 {a0 a1 a2 a3 a4 a5 a6 a7 a8 a9 a10 a11 a12 : Option Value} {x : Nat} (d : decode y.2.1 pc = .ok (.astore 12, 2)) (e0 : pc + 2 = pc2) (hk : zx_kp a11 = a11) (hn : 12 < y.2.2.1) (kk : zX G y R F pc2 (a0 :: a1 :: a2 :: a3 :: a4 :: a5 :: a6 :: a7 :: a8 :: a9 :: a10 :: a11 :: some (.ref x) :: t) st h n k j) : zX G y R F pc (a0 :: a1 :: a2 :: a3 :: a4 :: a5 :: a6 :: a7 :: a8 :: a9 :: a10 :: a11 :: a12 :: t) (.ref x :: st) h n k j := by
  refine zx_astore d e0 hn ?_
  have e : zx_s1 (a0 :: a1 :: a2 :: a3 :: a4 :: a5 :: a6 :: a7 :: a8 :: a9 :: a10 :: a11 :: a12 :: t) 12 (.ref x) = (a0 :: a1 :: a2 :: a3 :: a4 :: a5 :: a6 :: a7 :: a8 :: a9 :: a10 :: a11 :: some (.ref x) :: t) := by simp only [zx_s1, zx_cl, zx_md, List.set_cons_zero, List.set_cons_succ, hk]
  rw [e]; exact kk
theorem zx_astN12 {a0 a1 a2 a3 a4 a5 a6 a7 a8 a9 a10 a11 a12 : Option Value}  (d : decode y.2.1 pc = .ok (.astore 12, 2)) (e0 : pc + 2 = pc2) (hk : zx_kp a11 = a11) (hn : 12 < y.2.2.1) (kk : zX G y R F pc2 (a0 :: a1 :: a2 :: a3 :: a4 :: a5 :: a6 :: a7 :: a8 :: a9 :: a10 :: a11 :: some (.null) :: t) st h n k j) : zX G y R F pc (a0 :: a1 :: a2 :: a3 :: a4 :: a5 :: a6 :: a7 :: a8 :: a9 :: a10 :: a11 :: a12 :: t) (.null :: st) h n k j := by
  refine zx_astoreN d e0 hn ?_
  have e : zx_s1 (a0 :: a1 :: a2 :: a3 :: a4 :: a5 :: a6 :: a7 :: a8 :: a9 :: a10 :: a11 :: a12 :: t) 12 (.null) = (a0 :: a1 :: a2 :: a3 :: a4 :: a5 :: a6 :: a7 :: a8 :: a9 :: a10 :: a11 :: some (.null) :: t) := by simp only [zx_s1, zx_cl, zx_md, List.set_cons_zero, List.set_cons_succ, hk]
  rw [e]; exact kk
theorem zx_inc12 {a0 a1 a2 a3 a4 a5 a6 a7 a8 a9 a10 a11 : Option Value} {c0 : Int} {x v : Int32} (d : decode y.2.1 pc = .ok (.iinc 12 c0, 3)) (e0 : pc + 3 = pc2) (hw : x + Int32.ofInt c0 = v) (hk : zx_kp a11 = a11) (hn : 12 < y.2.2.1) (kk : zX G y R F pc2 (a0 :: a1 :: a2 :: a3 :: a4 :: a5 :: a6 :: a7 :: a8 :: a9 :: a10 :: a11 :: some (.int v) :: t) st h n k j) : zX G y R F pc (a0 :: a1 :: a2 :: a3 :: a4 :: a5 :: a6 :: a7 :: a8 :: a9 :: a10 :: a11 :: some (.int x) :: t) st h n k j := by
  refine zx_iinc d e0 (x := x) (v := v) rfl hw hn ?_
  have e : zx_s1 (a0 :: a1 :: a2 :: a3 :: a4 :: a5 :: a6 :: a7 :: a8 :: a9 :: a10 :: a11 :: some (.int x) :: t) 12 (.int v) = (a0 :: a1 :: a2 :: a3 :: a4 :: a5 :: a6 :: a7 :: a8 :: a9 :: a10 :: a11 :: some (.int v) :: t) := by simp only [zx_s1, zx_cl, zx_md, List.set_cons_zero, List.set_cons_succ, hk]
  rw [e]; exact kk
theorem zx_lst12 {a0 a1 a2 a3 a4 a5 a6 a7 a8 a9 a10 a11 a12 b0 : Option Value} {x : Int64} (d : decode y.2.1 pc = .ok (.lstore 12, 2)) (e0 : pc + 2 = pc2) (hk : zx_kp a11 = a11) (hn : 12 + 1 < y.2.2.1) (kk : zX G y R F pc2 (a0 :: a1 :: a2 :: a3 :: a4 :: a5 :: a6 :: a7 :: a8 :: a9 :: a10 :: a11 :: some (.long x) :: none :: t) st h n k j) : zX G y R F pc (a0 :: a1 :: a2 :: a3 :: a4 :: a5 :: a6 :: a7 :: a8 :: a9 :: a10 :: a11 :: a12 :: b0 :: t) (.long x :: st) h n k j := by
  refine zx_lstore d e0 hn ?_
  have e : zx_s2 (a0 :: a1 :: a2 :: a3 :: a4 :: a5 :: a6 :: a7 :: a8 :: a9 :: a10 :: a11 :: a12 :: b0 :: t) 12 (.long x) = (a0 :: a1 :: a2 :: a3 :: a4 :: a5 :: a6 :: a7 :: a8 :: a9 :: a10 :: a11 :: some (.long x) :: none :: t) := by simp only [zx_s2, zx_cl, zx_md, List.set_cons_zero, List.set_cons_succ, hk]
  rw [e]; exact kk
theorem zx_ist13 {a0 a1 a2 a3 a4 a5 a6 a7 a8 a9 a10 a11 a12 a13 : Option Value} {x : Int32} (d : decode y.2.1 pc = .ok (.istore 13, 2)) (e0 : pc + 2 = pc2) (hk : zx_kp a12 = a12) (hn : 13 < y.2.2.1) (kk : zX G y R F pc2 (a0 :: a1 :: a2 :: a3 :: a4 :: a5 :: a6 :: a7 :: a8 :: a9 :: a10 :: a11 :: a12 :: some (.int x) :: t) st h n k j) : zX G y R F pc (a0 :: a1 :: a2 :: a3 :: a4 :: a5 :: a6 :: a7 :: a8 :: a9 :: a10 :: a11 :: a12 :: a13 :: t) (.int x :: st) h n k j := by
  refine zx_istore d e0 hn ?_
  have e : zx_s1 (a0 :: a1 :: a2 :: a3 :: a4 :: a5 :: a6 :: a7 :: a8 :: a9 :: a10 :: a11 :: a12 :: a13 :: t) 13 (.int x) = (a0 :: a1 :: a2 :: a3 :: a4 :: a5 :: a6 :: a7 :: a8 :: a9 :: a10 :: a11 :: a12 :: some (.int x) :: t) := by simp only [zx_s1, zx_cl, zx_md, List.set_cons_zero, List.set_cons_succ, hk]
  rw [e]; exact kk
theorem zx_ast13 {a0 a1 a2 a3 a4 a5 a6 a7 a8 a9 a10 a11 a12 a13 : Option Value} {x : Nat} (d : decode y.2.1 pc = .ok (.astore 13, 2)) (e0 : pc + 2 = pc2) (hk : zx_kp a12 = a12) (hn : 13 < y.2.2.1) (kk : zX G y R F pc2 (a0 :: a1 :: a2 :: a3 :: a4 :: a5 :: a6 :: a7 :: a8 :: a9 :: a10 :: a11 :: a12 :: some (.ref x) :: t) st h n k j) : zX G y R F pc (a0 :: a1 :: a2 :: a3 :: a4 :: a5 :: a6 :: a7 :: a8 :: a9 :: a10 :: a11 :: a12 :: a13 :: t) (.ref x :: st) h n k j := by
  refine zx_astore d e0 hn ?_
  have e : zx_s1 (a0 :: a1 :: a2 :: a3 :: a4 :: a5 :: a6 :: a7 :: a8 :: a9 :: a10 :: a11 :: a12 :: a13 :: t) 13 (.ref x) = (a0 :: a1 :: a2 :: a3 :: a4 :: a5 :: a6 :: a7 :: a8 :: a9 :: a10 :: a11 :: a12 :: some (.ref x) :: t) := by simp only [zx_s1, zx_cl, zx_md, List.set_cons_zero, List.set_cons_succ, hk]
  rw [e]; exact kk
theorem zx_astN13 {a0 a1 a2 a3 a4 a5 a6 a7 a8 a9 a10 a11 a12 a13 : Option Value}  (d : decode y.2.1 pc = .ok (.astore 13, 2)) (e0 : pc + 2 = pc2) (hk : zx_kp a12 = a12) (hn : 13 < y.2.2.1) (kk : zX G y R F pc2 (a0 :: a1 :: a2 :: a3 :: a4 :: a5 :: a6 :: a7 :: a8 :: a9 :: a10 :: a11 :: a12 :: some (.null) :: t) st h n k j) : zX G y R F pc (a0 :: a1 :: a2 :: a3 :: a4 :: a5 :: a6 :: a7 :: a8 :: a9 :: a10 :: a11 :: a12 :: a13 :: t) (.null :: st) h n k j := by
  refine zx_astoreN d e0 hn ?_
  have e : zx_s1 (a0 :: a1 :: a2 :: a3 :: a4 :: a5 :: a6 :: a7 :: a8 :: a9 :: a10 :: a11 :: a12 :: a13 :: t) 13 (.null) = (a0 :: a1 :: a2 :: a3 :: a4 :: a5 :: a6 :: a7 :: a8 :: a9 :: a10 :: a11 :: a12 :: some (.null) :: t) := by simp only [zx_s1, zx_cl, zx_md, List.set_cons_zero, List.set_cons_succ, hk]
  rw [e]; exact kk
theorem zx_inc13 {a0 a1 a2 a3 a4 a5 a6 a7 a8 a9 a10 a11 a12 : Option Value} {c0 : Int} {x v : Int32} (d : decode y.2.1 pc = .ok (.iinc 13 c0, 3)) (e0 : pc + 3 = pc2) (hw : x + Int32.ofInt c0 = v) (hk : zx_kp a12 = a12) (hn : 13 < y.2.2.1) (kk : zX G y R F pc2 (a0 :: a1 :: a2 :: a3 :: a4 :: a5 :: a6 :: a7 :: a8 :: a9 :: a10 :: a11 :: a12 :: some (.int v) :: t) st h n k j) : zX G y R F pc (a0 :: a1 :: a2 :: a3 :: a4 :: a5 :: a6 :: a7 :: a8 :: a9 :: a10 :: a11 :: a12 :: some (.int x) :: t) st h n k j := by
  refine zx_iinc d e0 (x := x) (v := v) rfl hw hn ?_
  have e : zx_s1 (a0 :: a1 :: a2 :: a3 :: a4 :: a5 :: a6 :: a7 :: a8 :: a9 :: a10 :: a11 :: a12 :: some (.int x) :: t) 13 (.int v) = (a0 :: a1 :: a2 :: a3 :: a4 :: a5 :: a6 :: a7 :: a8 :: a9 :: a10 :: a11 :: a12 :: some (.int v) :: t) := by simp only [zx_s1, zx_cl, zx_md, List.set_cons_zero, List.set_cons_succ, hk]
  rw [e]; exact kk
theorem zx_lst13 {a0 a1 a2 a3 a4 a5 a6 a7 a8 a9 a10 a11 a12 a13 b0 : Option Value} {x : Int64} (d : decode y.2.1 pc = .ok (.lstore 13, 2)) (e0 : pc + 2 = pc2) (hk : zx_kp a12 = a12) (hn : 13 + 1 < y.2.2.1) (kk : zX G y R F pc2 (a0 :: a1 :: a2 :: a3 :: a4 :: a5 :: a6 :: a7 :: a8 :: a9 :: a10 :: a11 :: a12 :: some (.long x) :: none :: t) st h n k j) : zX G y R F pc (a0 :: a1 :: a2 :: a3 :: a4 :: a5 :: a6 :: a7 :: a8 :: a9 :: a10 :: a11 :: a12 :: a13 :: b0 :: t) (.long x :: st) h n k j := by
  refine zx_lstore d e0 hn ?_
  have e : zx_s2 (a0 :: a1 :: a2 :: a3 :: a4 :: a5 :: a6 :: a7 :: a8 :: a9 :: a10 :: a11 :: a12 :: a13 :: b0 :: t) 13 (.long x) = (a0 :: a1 :: a2 :: a3 :: a4 :: a5 :: a6 :: a7 :: a8 :: a9 :: a10 :: a11 :: a12 :: some (.long x) :: none :: t) := by simp only [zx_s2, zx_cl, zx_md, List.set_cons_zero, List.set_cons_succ, hk]
  rw [e]; exact kk
theorem zx_ist14 {a0 a1 a2 a3 a4 a5 a6 a7 a8 a9 a10 a11 a12 a13 a14 : Option Value} {x : Int32} (d : decode y.2.1 pc = .ok (.istore 14, 2)) (e0 : pc + 2 = pc2) (hk : zx_kp a13 = a13) (hn : 14 < y.2.2.1) (kk : zX G y R F pc2 (a0 :: a1 :: a2 :: a3 :: a4 :: a5 :: a6 :: a7 :: a8 :: a9 :: a10 :: a11 :: a12 :: a13 :: some (.int x) :: t) st h n k j) : zX G y R F pc (a0 :: a1 :: a2 :: a3 :: a4 :: a5 :: a6 :: a7 :: a8 :: a9 :: a10 :: a11 :: a12 :: a13 :: a14 :: t) (.int x :: st) h n k j := by
  refine zx_istore d e0 hn ?_
  have e : zx_s1 (a0 :: a1 :: a2 :: a3 :: a4 :: a5 :: a6 :: a7 :: a8 :: a9 :: a10 :: a11 :: a12 :: a13 :: a14 :: t) 14 (.int x) = (a0 :: a1 :: a2 :: a3 :: a4 :: a5 :: a6 :: a7 :: a8 :: a9 :: a10 :: a11 :: a12 :: a13 :: some (.int x) :: t) := by simp only [zx_s1, zx_cl, zx_md, List.set_cons_zero, List.set_cons_succ, hk]
  rw [e]; exact kk
theorem zx_ast14 {a0 a1 a2 a3 a4 a5 a6 a7 a8 a9 a10 a11 a12 a13 a14 : Option Value} {x : Nat} (d : decode y.2.1 pc = .ok (.astore 14, 2)) (e0 : pc + 2 = pc2) (hk : zx_kp a13 = a13) (hn : 14 < y.2.2.1) (kk : zX G y R F pc2 (a0 :: a1 :: a2 :: a3 :: a4 :: a5 :: a6 :: a7 :: a8 :: a9 :: a10 :: a11 :: a12 :: a13 :: some (.ref x) :: t) st h n k j) : zX G y R F pc (a0 :: a1 :: a2 :: a3 :: a4 :: a5 :: a6 :: a7 :: a8 :: a9 :: a10 :: a11 :: a12 :: a13 :: a14 :: t) (.ref x :: st) h n k j := by
  refine zx_astore d e0 hn ?_
  have e : zx_s1 (a0 :: a1 :: a2 :: a3 :: a4 :: a5 :: a6 :: a7 :: a8 :: a9 :: a10 :: a11 :: a12 :: a13 :: a14 :: t) 14 (.ref x) = (a0 :: a1 :: a2 :: a3 :: a4 :: a5 :: a6 :: a7 :: a8 :: a9 :: a10 :: a11 :: a12 :: a13 :: some (.ref x) :: t) := by simp only [zx_s1, zx_cl, zx_md, List.set_cons_zero, List.set_cons_succ, hk]
  rw [e]; exact kk
theorem zx_astN14 {a0 a1 a2 a3 a4 a5 a6 a7 a8 a9 a10 a11 a12 a13 a14 : Option Value}  (d : decode y.2.1 pc = .ok (.astore 14, 2)) (e0 : pc + 2 = pc2) (hk : zx_kp a13 = a13) (hn : 14 < y.2.2.1) (kk : zX G y R F pc2 (a0 :: a1 :: a2 :: a3 :: a4 :: a5 :: a6 :: a7 :: a8 :: a9 :: a10 :: a11 :: a12 :: a13 :: some (.null) :: t) st h n k j) : zX G y R F pc (a0 :: a1 :: a2 :: a3 :: a4 :: a5 :: a6 :: a7 :: a8 :: a9 :: a10 :: a11 :: a12 :: a13 :: a14 :: t) (.null :: st) h n k j := by
  refine zx_astoreN d e0 hn ?_
  have e : zx_s1 (a0 :: a1 :: a2 :: a3 :: a4 :: a5 :: a6 :: a7 :: a8 :: a9 :: a10 :: a11 :: a12 :: a13 :: a14 :: t) 14 (.null) = (a0 :: a1 :: a2 :: a3 :: a4 :: a5 :: a6 :: a7 :: a8 :: a9 :: a10 :: a11 :: a12 :: a13 :: some (.null) :: t) := by simp only [zx_s1, zx_cl, zx_md, List.set_cons_zero, List.set_cons_succ, hk]
  rw [e]; exact kk
theorem zx_inc14 {a0 a1 a2 a3 a4 a5 a6 a7 a8 a9 a10 a11 a12 a13 : Option Value} {c0 : Int} {x v : Int32} (d : decode y.2.1 pc = .ok (.iinc 14 c0, 3)) (e0 : pc + 3 = pc2) (hw : x + Int32.ofInt c0 = v) (hk : zx_kp a13 = a13) (hn : 14 < y.2.2.1) (kk : zX G y R F pc2 (a0 :: a1 :: a2 :: a3 :: a4 :: a5 :: a6 :: a7 :: a8 :: a9 :: a10 :: a11 :: a12 :: a13 :: some (.int v) :: t) st h n k j) : zX G y R F pc (a0 :: a1 :: a2 :: a3 :: a4 :: a5 :: a6 :: a7 :: a8 :: a9 :: a10 :: a11 :: a12 :: a13 :: some (.int x) :: t) st h n k j := by
  refine zx_iinc d e0 (x := x) (v := v) rfl hw hn ?_
  have e : zx_s1 (a0 :: a1 :: a2 :: a3 :: a4 :: a5 :: a6 :: a7 :: a8 :: a9 :: a10 :: a11 :: a12 :: a13 :: some (.int x) :: t) 14 (.int v) = (a0 :: a1 :: a2 :: a3 :: a4 :: a5 :: a6 :: a7 :: a8 :: a9 :: a10 :: a11 :: a12 :: a13 :: some (.int v) :: t) := by simp only [zx_s1, zx_cl, zx_md, List.set_cons_zero, List.set_cons_succ, hk]
  rw [e]; exact kk
theorem zx_lst14 {a0 a1 a2 a3 a4 a5 a6 a7 a8 a9 a10 a11 a12 a13 a14 b0 : Option Value} {x : Int64} (d : decode y.2.1 pc = .ok (.lstore 14, 2)) (e0 : pc + 2 = pc2) (hk : zx_kp a13 = a13) (hn : 14 + 1 < y.2.2.1) (kk : zX G y R F pc2 (a0 :: a1 :: a2 :: a3 :: a4 :: a5 :: a6 :: a7 :: a8 :: a9 :: a10 :: a11 :: a12 :: a13 :: some (.long x) :: none :: t) st h n k j) : zX G y R F pc (a0 :: a1 :: a2 :: a3 :: a4 :: a5 :: a6 :: a7 :: a8 :: a9 :: a10 :: a11 :: a12 :: a13 :: a14 :: b0 :: t) (.long x :: st) h n k j := by
  refine zx_lstore d e0 hn ?_
  have e : zx_s2 (a0 :: a1 :: a2 :: a3 :: a4 :: a5 :: a6 :: a7 :: a8 :: a9 :: a10 :: a11 :: a12 :: a13 :: a14 :: b0 :: t) 14 (.long x) = (a0 :: a1 :: a2 :: a3 :: a4 :: a5 :: a6 :: a7 :: a8 :: a9 :: a10 :: a11 :: a12 :: a13 :: some (.long x) :: none :: t) := by simp only [zx_s2, zx_cl, zx_md, List.set_cons_zero, List.set_cons_succ, hk]
  rw [e]; exact kk
theorem zx_ist15 {a0 a1 a2 a3 a4 a5 a6 a7 a8 a9 a10 a11 a12 a13 a14 a15 : Option Value} {x : Int32} (d : decode y.2.1 pc = .ok (.istore 15, 2)) (e0 : pc + 2 = pc2) (hk : zx_kp a14 = a14) (hn : 15 < y.2.2.1) (kk : zX G y R F pc2 (a0 :: a1 :: a2 :: a3 :: a4 :: a5 :: a6 :: a7 :: a8 :: a9 :: a10 :: a11 :: a12 :: a13 :: a14 :: some (.int x) :: t) st h n k j) : zX G y R F pc (a0 :: a1 :: a2 :: a3 :: a4 :: a5 :: a6 :: a7 :: a8 :: a9 :: a10 :: a11 :: a12 :: a13 :: a14 :: a15 :: t) (.int x :: st) h n k j := by
  refine zx_istore d e0 hn ?_
  have e : zx_s1 (a0 :: a1 :: a2 :: a3 :: a4 :: a5 :: a6 :: a7 :: a8 :: a9 :: a10 :: a11 :: a12 :: a13 :: a14 :: a15 :: t) 15 (.int x) = (a0 :: a1 :: a2 :: a3 :: a4 :: a5 :: a6 :: a7 :: a8 :: a9 :: a10 :: a11 :: a12 :: a13 :: a14 :: some (.int x) :: t) := by simp only [zx_s1, zx_cl, zx_md, List.set_cons_zero, List.set_cons_succ, hk]
  rw [e]; exact kk
theorem zx_ast15 {a0 a1 a2 a3 a4 a5 a6 a7 a8 a9 a10 a11 a12 a13 a14 a15 : Option Value} {x : Nat} (d : decode y.2.1 pc = .ok (.astore 15, 2)) (e0 : pc + 2 = pc2) (hk : zx_kp a14 = a14) (hn : 15 < y.2.2.1) (kk : zX G y R F pc2 (a0 :: a1 :: a2 :: a3 :: a4 :: a5 :: a6 :: a7 :: a8 :: a9 :: a10 :: a11 :: a12 :: a13 :: a14 :: some (.ref x) :: t) st h n k j) : zX G y R F pc (a0 :: a1 :: a2 :: a3 :: a4 :: a5 :: a6 :: a7 :: a8 :: a9 :: a10 :: a11 :: a12 :: a13 :: a14 :: a15 :: t) (.ref x :: st) h n k j := by
  refine zx_astore d e0 hn ?_
  have e : zx_s1 (a0 :: a1 :: a2 :: a3 :: a4 :: a5 :: a6 :: a7 :: a8 :: a9 :: a10 :: a11 :: a12 :: a13 :: a14 :: a15 :: t) 15 (.ref x) = (a0 :: a1 :: a2 :: a3 :: a4 :: a5 :: a6 :: a7 :: a8 :: a9 :: a10 :: a11 :: a12 :: a13 :: a14 :: some (.ref x) :: t) := by simp only [zx_s1, zx_cl, zx_md, List.set_cons_zero, List.set_cons_succ, hk]
  rw [e]; exact kk
theorem zx_astN15 {a0 a1 a2 a3 a4 a5 a6 a7 a8 a9 a10 a11 a12 a13 a14 a15 : Option Value}  (d : decode y.2.1 pc = .ok (.astore 15, 2)) (e0 : pc + 2 = pc2) (hk : zx_kp a14 = a14) (hn : 15 < y.2.2.1) (kk : zX G y R F pc2 (a0 :: a1 :: a2 :: a3 :: a4 :: a5 :: a6 :: a7 :: a8 :: a9 :: a10 :: a11 :: a12 :: a13 :: a14 :: some (.null) :: t) st h n k j) : zX G y R F pc (a0 :: a1 :: a2 :: a3 :: a4 :: a5 :: a6 :: a7 :: a8 :: a9 :: a10 :: a11 :: a12 :: a13 :: a14 :: a15 :: t) (.null :: st) h n k j := by
  refine zx_astoreN d e0 hn ?_
  have e : zx_s1 (a0 :: a1 :: a2 :: a3 :: a4 :: a5 :: a6 :: a7 :: a8 :: a9 :: a10 :: a11 :: a12 :: a13 :: a14 :: a15 :: t) 15 (.null) = (a0 :: a1 :: a2 :: a3 :: a4 :: a5 :: a6 :: a7 :: a8 :: a9 :: a10 :: a11 :: a12 :: a13 :: a14 :: some (.null) :: t) := by simp only [zx_s1, zx_cl, zx_md, List.set_cons_zero, List.set_cons_succ, hk]
  rw [e]; exact kk
theorem zx_inc15 {a0 a1 a2 a3 a4 a5 a6 a7 a8 a9 a10 a11 a12 a13 a14 : Option Value} {c0 : Int} {x v : Int32} (d : decode y.2.1 pc = .ok (.iinc 15 c0, 3)) (e0 : pc + 3 = pc2) (hw : x + Int32.ofInt c0 = v) (hk : zx_kp a14 = a14) (hn : 15 < y.2.2.1) (kk : zX G y R F pc2 (a0 :: a1 :: a2 :: a3 :: a4 :: a5 :: a6 :: a7 :: a8 :: a9 :: a10 :: a11 :: a12 :: a13 :: a14 :: some (.int v) :: t) st h n k j) : zX G y R F pc (a0 :: a1 :: a2 :: a3 :: a4 :: a5 :: a6 :: a7 :: a8 :: a9 :: a10 :: a11 :: a12 :: a13 :: a14 :: some (.int x) :: t) st h n k j := by
  refine zx_iinc d e0 (x := x) (v := v) rfl hw hn ?_
  have e : zx_s1 (a0 :: a1 :: a2 :: a3 :: a4 :: a5 :: a6 :: a7 :: a8 :: a9 :: a10 :: a11 :: a12 :: a13 :: a14 :: some (.int x) :: t) 15 (.int v) = (a0 :: a1 :: a2 :: a3 :: a4 :: a5 :: a6 :: a7 :: a8 :: a9 :: a10 :: a11 :: a12 :: a13 :: a14 :: some (.int v) :: t) := by simp only [zx_s1, zx_cl, zx_md, List.set_cons_zero, List.set_cons_succ, hk]
  rw [e]; exact kk
theorem zx_lst15 {a0 a1 a2 a3 a4 a5 a6 a7 a8 a9 a10 a11 a12 a13 a14 a15 b0 : Option Value} {x : Int64} (d : decode y.2.1 pc = .ok (.lstore 15, 2)) (e0 : pc + 2 = pc2) (hk : zx_kp a14 = a14) (hn : 15 + 1 < y.2.2.1) (kk : zX G y R F pc2 (a0 :: a1 :: a2 :: a3 :: a4 :: a5 :: a6 :: a7 :: a8 :: a9 :: a10 :: a11 :: a12 :: a13 :: a14 :: some (.long x) :: none :: t) st h n k j) : zX G y R F pc (a0 :: a1 :: a2 :: a3 :: a4 :: a5 :: a6 :: a7 :: a8 :: a9 :: a10 :: a11 :: a12 :: a13 :: a14 :: a15 :: b0 :: t) (.long x :: st) h n k j := by
  refine zx_lstore d e0 hn ?_
  have e : zx_s2 (a0 :: a1 :: a2 :: a3 :: a4 :: a5 :: a6 :: a7 :: a8 :: a9 :: a10 :: a11 :: a12 :: a13 :: a14 :: a15 :: b0 :: t) 15 (.long x) = (a0 :: a1 :: a2 :: a3 :: a4 :: a5 :: a6 :: a7 :: a8 :: a9 :: a10 :: a11 :: a12 :: a13 :: a14 :: some (.long x) :: none :: t) := by simp only [zx_s2, zx_cl, zx_md, List.set_cons_zero, List.set_cons_succ, hk]
  rw [e]; exact kk
end ZLO
