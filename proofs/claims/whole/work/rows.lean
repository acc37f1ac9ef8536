section
-- ===== PART A: goes FIRST, ahead of the names: the tables' words, and 'selects' of the private methods out of them =====
/-- a private method of a class that the tables say can be made, by its rows of tables_1 -/
def lw_okq (q : MethodName × Nat) : Prop := (q.1.cls ≠ "java/lang/invoke/MethodHandle" ∧ q.1.cls ≠ "java/lang/invoke/VarHandle") ∧ Cond.instantiable q.1.cls q.2 ∈ tables_1 ∧ Cond.privateMethod q.1 ∈ tables_1 ∧ Cond.instanceMethod q.1 ∈ tables_1
theorem lw_p0 : lw_okq (⟨"java/lang/Throwable", "fillInStackTrace", "(I)Ljava/lang/Throwable;"⟩, 6) := ⟨⟨by decide +kernel, by decide +kernel⟩, List.mem_of_getElem? (i := 338) (by decide +kernel), List.mem_of_getElem? (i := 336) (by decide +kernel), List.mem_of_getElem? (i := 337) (by decide +kernel)⟩
theorem lw_p1 : lw_okq (⟨"LogHouse", "highestPromised", "()I"⟩, 6) := ⟨⟨by decide +kernel, by decide +kernel⟩, List.mem_of_getElem? (i := 22) (by decide +kernel), List.mem_of_getElem? (i := 363) (by decide +kernel), List.mem_of_getElem? (i := 364) (by decide +kernel)⟩
theorem lw_p2 : lw_okq (⟨"LogHouse", "sendPrepares", "(LLogHouse$Proposer;)V"⟩, 6) := ⟨⟨by decide +kernel, by decide +kernel⟩, List.mem_of_getElem? (i := 22) (by decide +kernel), List.mem_of_getElem? (i := 383) (by decide +kernel), List.mem_of_getElem? (i := 384) (by decide +kernel)⟩
theorem lw_p3 : lw_okq (⟨"LogHouse", "sendAccepts", "(LLogHouse$Proposer;I)V"⟩, 6) := ⟨⟨by decide +kernel, by decide +kernel⟩, List.mem_of_getElem? (i := 22) (by decide +kernel), List.mem_of_getElem? (i := 452) (by decide +kernel), List.mem_of_getElem? (i := 453) (by decide +kernel)⟩
theorem lw_p4 : lw_okq (⟨"LogHouse", "sendAllAccepts", "(LLogHouse$Proposer;)V"⟩, 6) := ⟨⟨by decide +kernel, by decide +kernel⟩, List.mem_of_getElem? (i := 22) (by decide +kernel), List.mem_of_getElem? (i := 484) (by decide +kernel), List.mem_of_getElem? (i := 485) (by decide +kernel)⟩
theorem lw_p5 : lw_okq (⟨"LogHouse", "checkLetter", "(I)V"⟩, 6) := ⟨⟨by decide +kernel, by decide +kernel⟩, List.mem_of_getElem? (i := 22) (by decide +kernel), List.mem_of_getElem? (i := 500) (by decide +kernel), List.mem_of_getElem? (i := 501) (by decide +kernel)⟩
theorem lw_p6 : lw_okq (⟨"LogHouse", "bringPrepare", "(LLogHouse$Letter;)V"⟩, 6) := ⟨⟨by decide +kernel, by decide +kernel⟩, List.mem_of_getElem? (i := 22) (by decide +kernel), List.mem_of_getElem? (i := 523) (by decide +kernel), List.mem_of_getElem? (i := 524) (by decide +kernel)⟩
theorem lw_p7 : lw_okq (⟨"LogHouse", "bringPromise", "(LLogHouse$Letter;)V"⟩, 6) := ⟨⟨by decide +kernel, by decide +kernel⟩, List.mem_of_getElem? (i := 22) (by decide +kernel), List.mem_of_getElem? (i := 539) (by decide +kernel), List.mem_of_getElem? (i := 540) (by decide +kernel)⟩
theorem lw_p8 : lw_okq (⟨"LogHouse", "lead", "(LLogHouse$Proposer;)V"⟩, 6) := ⟨⟨by decide +kernel, by decide +kernel⟩, List.mem_of_getElem? (i := 22) (by decide +kernel), List.mem_of_getElem? (i := 555) (by decide +kernel), List.mem_of_getElem? (i := 556) (by decide +kernel)⟩
theorem lw_p9 : lw_okq (⟨"LogHouse$Proposer", "addPromises", "(ILLogHouse$Gathering;)V"⟩, 8) := ⟨⟨by decide +kernel, by decide +kernel⟩, List.mem_of_getElem? (i := 83) (by decide +kernel), List.mem_of_getElem? (i := 572) (by decide +kernel), List.mem_of_getElem? (i := 573) (by decide +kernel)⟩
theorem lw_p10 : lw_okq (⟨"LogHouse", "bringAccept", "(LLogHouse$Letter;)V"⟩, 6) := ⟨⟨by decide +kernel, by decide +kernel⟩, List.mem_of_getElem? (i := 22) (by decide +kernel), List.mem_of_getElem? (i := 602) (by decide +kernel), List.mem_of_getElem? (i := 603) (by decide +kernel)⟩
theorem lw_p11 : lw_okq (⟨"LogHouse", "gatherFromStations", "(II)Z"⟩, 6) := ⟨⟨by decide +kernel, by decide +kernel⟩, List.mem_of_getElem? (i := 22) (by decide +kernel), List.mem_of_getElem? (i := 680) (by decide +kernel), List.mem_of_getElem? (i := 681) (by decide +kernel)⟩
theorem lw_p12 : lw_okq (⟨"LogHouseModel", "prepare", "(II)I"⟩, 28) := ⟨⟨by decide +kernel, by decide +kernel⟩, List.mem_of_getElem? (i := 762) (by decide +kernel), List.mem_of_getElem? (i := 872) (by decide +kernel), List.mem_of_getElem? (i := 873) (by decide +kernel)⟩
theorem lw_p13 : lw_okq (⟨"LogHouseModel", "letter4", "(IIII)Z"⟩, 28) := ⟨⟨by decide +kernel, by decide +kernel⟩, List.mem_of_getElem? (i := 762) (by decide +kernel), List.mem_of_getElem? (i := 876) (by decide +kernel), List.mem_of_getElem? (i := 877) (by decide +kernel)⟩
theorem lw_p14 : lw_okq (⟨"LogHouseModel", "firstFree", "(I)I"⟩, 28) := ⟨⟨by decide +kernel, by decide +kernel⟩, List.mem_of_getElem? (i := 762) (by decide +kernel), List.mem_of_getElem? (i := 884) (by decide +kernel), List.mem_of_getElem? (i := 885) (by decide +kernel)⟩
theorem lw_p15 : lw_okq (⟨"LogHouseModel", "putForward", "(III[III)V"⟩, 28) := ⟨⟨by decide +kernel, by decide +kernel⟩, List.mem_of_getElem? (i := 762) (by decide +kernel), List.mem_of_getElem? (i := 888) (by decide +kernel), List.mem_of_getElem? (i := 889) (by decide +kernel)⟩
def lw_privs_1 : List (MethodName × Nat) := [(⟨"java/lang/Throwable", "fillInStackTrace", "(I)Ljava/lang/Throwable;"⟩, 6), (⟨"LogHouse", "highestPromised", "()I"⟩, 6), (⟨"LogHouse", "sendPrepares", "(LLogHouse$Proposer;)V"⟩, 6), (⟨"LogHouse", "sendAccepts", "(LLogHouse$Proposer;I)V"⟩, 6), (⟨"LogHouse", "sendAllAccepts", "(LLogHouse$Proposer;)V"⟩, 6), (⟨"LogHouse", "checkLetter", "(I)V"⟩, 6), (⟨"LogHouse", "bringPrepare", "(LLogHouse$Letter;)V"⟩, 6), (⟨"LogHouse", "bringPromise", "(LLogHouse$Letter;)V"⟩, 6), (⟨"LogHouse", "lead", "(LLogHouse$Proposer;)V"⟩, 6), (⟨"LogHouse$Proposer", "addPromises", "(ILLogHouse$Gathering;)V"⟩, 8), (⟨"LogHouse", "bringAccept", "(LLogHouse$Letter;)V"⟩, 6), (⟨"LogHouse", "gatherFromStations", "(II)Z"⟩, 6), (⟨"LogHouseModel", "prepare", "(II)I"⟩, 28), (⟨"LogHouseModel", "letter4", "(IIII)Z"⟩, 28), (⟨"LogHouseModel", "firstFree", "(I)I"⟩, 28), (⟨"LogHouseModel", "putForward", "(III[III)V"⟩, 28)]
theorem lw_r1 : ∀ q ∈ lw_privs_1, lw_okq q := List.forall_mem_cons.mpr ⟨lw_p0, List.forall_mem_cons.mpr ⟨lw_p1, List.forall_mem_cons.mpr ⟨lw_p2, List.forall_mem_cons.mpr ⟨lw_p3, List.forall_mem_cons.mpr ⟨lw_p4, List.forall_mem_cons.mpr ⟨lw_p5, List.forall_mem_cons.mpr ⟨lw_p6, List.forall_mem_cons.mpr ⟨lw_p7, List.forall_mem_cons.mpr ⟨lw_p8, List.forall_mem_cons.mpr ⟨lw_p9, List.forall_mem_cons.mpr ⟨lw_p10, List.forall_mem_cons.mpr ⟨lw_p11, List.forall_mem_cons.mpr ⟨lw_p12, List.forall_mem_cons.mpr ⟨lw_p13, List.forall_mem_cons.mpr ⟨lw_p14, List.forall_mem_cons.mpr ⟨lw_p15, fun _ h => absurd h List.not_mem_nil⟩⟩⟩⟩⟩⟩⟩⟩⟩⟩⟩⟩⟩⟩⟩⟩
theorem lw_p16 : lw_okq (⟨"LogHouseModel", "acceptAll", "(II)I"⟩, 28) := ⟨⟨by decide +kernel, by decide +kernel⟩, List.mem_of_getElem? (i := 762) (by decide +kernel), List.mem_of_getElem? (i := 892) (by decide +kernel), List.mem_of_getElem? (i := 893) (by decide +kernel)⟩
theorem lw_p17 : lw_okq (⟨"LogHouseModel", "accept", "(III)I"⟩, 28) := ⟨⟨by decide +kernel, by decide +kernel⟩, List.mem_of_getElem? (i := 762) (by decide +kernel), List.mem_of_getElem? (i := 896) (by decide +kernel), List.mem_of_getElem? (i := 897) (by decide +kernel)⟩
theorem lw_p18 : lw_okq (⟨"LogHouseModel", "shareByte", "([IIIII)I"⟩, 28) := ⟨⟨by decide +kernel, by decide +kernel⟩, List.mem_of_getElem? (i := 762) (by decide +kernel), List.mem_of_getElem? (i := 903) (by decide +kernel), List.mem_of_getElem? (i := 904) (by decide +kernel)⟩
theorem lw_p19 : lw_okq (⟨"LogHouseModel", "product", "(II)I"⟩, 28) := ⟨⟨by decide +kernel, by decide +kernel⟩, List.mem_of_getElem? (i := 762) (by decide +kernel), List.mem_of_getElem? (i := 907) (by decide +kernel), List.mem_of_getElem? (i := 908) (by decide +kernel)⟩
theorem lw_p20 : lw_okq (⟨"LogHouseModel", "noLetter", "(I)Z"⟩, 28) := ⟨⟨by decide +kernel, by decide +kernel⟩, List.mem_of_getElem? (i := 762) (by decide +kernel), List.mem_of_getElem? (i := 919) (by decide +kernel), List.mem_of_getElem? (i := 920) (by decide +kernel)⟩
theorem lw_p21 : lw_okq (⟨"LogHouseModel", "remove", "(I)V"⟩, 28) := ⟨⟨by decide +kernel, by decide +kernel⟩, List.mem_of_getElem? (i := 762) (by decide +kernel), List.mem_of_getElem? (i := 923) (by decide +kernel), List.mem_of_getElem? (i := 924) (by decide +kernel)⟩
theorem lw_p22 : lw_okq (⟨"LogHouseModel", "comes", "()I"⟩, 28) := ⟨⟨by decide +kernel, by decide +kernel⟩, List.mem_of_getElem? (i := 762) (by decide +kernel), List.mem_of_getElem? (i := 927) (by decide +kernel), List.mem_of_getElem? (i := 928) (by decide +kernel)⟩
theorem lw_p23 : lw_okq (⟨"LogHouseModel", "promiseComes", "(II)I"⟩, 28) := ⟨⟨by decide +kernel, by decide +kernel⟩, List.mem_of_getElem? (i := 762) (by decide +kernel), List.mem_of_getElem? (i := 931) (by decide +kernel), List.mem_of_getElem? (i := 932) (by decide +kernel)⟩
theorem lw_p24 : lw_okq (⟨"LogHouseModel", "again", "(II)Z"⟩, 28) := ⟨⟨by decide +kernel, by decide +kernel⟩, List.mem_of_getElem? (i := 762) (by decide +kernel), List.mem_of_getElem? (i := 938) (by decide +kernel), List.mem_of_getElem? (i := 939) (by decide +kernel)⟩
theorem lw_p25 : lw_okq (⟨"LogHouseModel", "together", "([IIII)I"⟩, 28) := ⟨⟨by decide +kernel, by decide +kernel⟩, List.mem_of_getElem? (i := 762) (by decide +kernel), List.mem_of_getElem? (i := 945) (by decide +kernel), List.mem_of_getElem? (i := 946) (by decide +kernel)⟩
theorem lw_p26 : lw_okq (⟨"LogHouseModel", "solve", "(III)V"⟩, 28) := ⟨⟨by decide +kernel, by decide +kernel⟩, List.mem_of_getElem? (i := 762) (by decide +kernel), List.mem_of_getElem? (i := 949) (by decide +kernel), List.mem_of_getElem? (i := 950) (by decide +kernel)⟩
theorem lw_p27 : lw_okq (⟨"LogHouseModel", "inverse", "(I)I"⟩, 28) := ⟨⟨by decide +kernel, by decide +kernel⟩, List.mem_of_getElem? (i := 762) (by decide +kernel), List.mem_of_getElem? (i := 953) (by decide +kernel), List.mem_of_getElem? (i := 954) (by decide +kernel)⟩
theorem lw_p28 : lw_okq (⟨"LogHouseModel", "acceptedComes", "(II)V"⟩, 28) := ⟨⟨by decide +kernel, by decide +kernel⟩, List.mem_of_getElem? (i := 762) (by decide +kernel), List.mem_of_getElem? (i := 957) (by decide +kernel), List.mem_of_getElem? (i := 958) (by decide +kernel)⟩
theorem lw_p29 : lw_okq (⟨"LogHouseModel", "findThree", "(III)Z"⟩, 28) := ⟨⟨by decide +kernel, by decide +kernel⟩, List.mem_of_getElem? (i := 762) (by decide +kernel), List.mem_of_getElem? (i := 992) (by decide +kernel), List.mem_of_getElem? (i := 993) (by decide +kernel)⟩
theorem lw_p30 : lw_okq (⟨"LogHouseModel", "hasOf", "(III)Z"⟩, 28) := ⟨⟨by decide +kernel, by decide +kernel⟩, List.mem_of_getElem? (i := 762) (by decide +kernel), List.mem_of_getElem? (i := 996) (by decide +kernel), List.mem_of_getElem? (i := 997) (by decide +kernel)⟩
theorem lw_p31 : lw_okq (⟨"LogHouseModel", "fromThree", "(I)I"⟩, 28) := ⟨⟨by decide +kernel, by decide +kernel⟩, List.mem_of_getElem? (i := 762) (by decide +kernel), List.mem_of_getElem? (i := 1000) (by decide +kernel), List.mem_of_getElem? (i := 1001) (by decide +kernel)⟩
def lw_privs_2 : List (MethodName × Nat) := [(⟨"LogHouseModel", "acceptAll", "(II)I"⟩, 28), (⟨"LogHouseModel", "accept", "(III)I"⟩, 28), (⟨"LogHouseModel", "shareByte", "([IIIII)I"⟩, 28), (⟨"LogHouseModel", "product", "(II)I"⟩, 28), (⟨"LogHouseModel", "noLetter", "(I)Z"⟩, 28), (⟨"LogHouseModel", "remove", "(I)V"⟩, 28), (⟨"LogHouseModel", "comes", "()I"⟩, 28), (⟨"LogHouseModel", "promiseComes", "(II)I"⟩, 28), (⟨"LogHouseModel", "again", "(II)Z"⟩, 28), (⟨"LogHouseModel", "together", "([IIII)I"⟩, 28), (⟨"LogHouseModel", "solve", "(III)V"⟩, 28), (⟨"LogHouseModel", "inverse", "(I)I"⟩, 28), (⟨"LogHouseModel", "acceptedComes", "(II)V"⟩, 28), (⟨"LogHouseModel", "findThree", "(III)Z"⟩, 28), (⟨"LogHouseModel", "hasOf", "(III)Z"⟩, 28), (⟨"LogHouseModel", "fromThree", "(I)I"⟩, 28)]
theorem lw_r2 : ∀ q ∈ lw_privs_2, lw_okq q := List.forall_mem_cons.mpr ⟨lw_p16, List.forall_mem_cons.mpr ⟨lw_p17, List.forall_mem_cons.mpr ⟨lw_p18, List.forall_mem_cons.mpr ⟨lw_p19, List.forall_mem_cons.mpr ⟨lw_p20, List.forall_mem_cons.mpr ⟨lw_p21, List.forall_mem_cons.mpr ⟨lw_p22, List.forall_mem_cons.mpr ⟨lw_p23, List.forall_mem_cons.mpr ⟨lw_p24, List.forall_mem_cons.mpr ⟨lw_p25, List.forall_mem_cons.mpr ⟨lw_p26, List.forall_mem_cons.mpr ⟨lw_p27, List.forall_mem_cons.mpr ⟨lw_p28, List.forall_mem_cons.mpr ⟨lw_p29, List.forall_mem_cons.mpr ⟨lw_p30, List.forall_mem_cons.mpr ⟨lw_p31, fun _ h => absurd h List.not_mem_nil⟩⟩⟩⟩⟩⟩⟩⟩⟩⟩⟩⟩⟩⟩⟩⟩
def lw_privs : List (MethodName × Nat) := lw_privs_1 ++ (lw_privs_2)
def lw_tbl : List Cond := k2_sels lw_privs ++ tables_1
theorem lw_privs_ok : ∀ q ∈ lw_privs, lw_okq q := by
  show ∀ q ∈ lw_privs_1 ++ (lw_privs_2), lw_okq q
  exact List.forall_mem_append.mpr ⟨lw_r1, lw_r2⟩
end
section
/-! the words of the tables, by their places (written by program) -/
def zn_W : List Cond := lw_tbl.filter goodWord
theorem zn_in {w : Cond} {i : Nat} (h : tables_1[i]? = some w) (hg : goodWord w = true) : w ∈ zn_W := List.mem_filter.mpr ⟨List.mem_append_right _ (List.mem_of_getElem? h), hg⟩
theorem zn_sl {q : MethodName × Nat} {i : Nat} (h : lw_privs[i]? = some q) (hg : goodWord (Cond.selects q.1.cls q.1 q.1) = true) : Cond.selects q.1.cls q.1 q.1 ∈ zn_W := List.mem_filter.mpr ⟨List.mem_append_left _ (List.mem_map.mpr ⟨q, List.mem_of_getElem? h, rfl⟩), hg⟩
theorem zn_w0 : (Cond.initialized "LogHouseLaw") ∈ zn_W := zn_in (i := 0) (by decide +kernel) (by decide +kernel)
theorem zn_w1 : (Cond.initialized "LogHouse") ∈ zn_W := zn_in (i := 1) (by decide +kernel) (by decide +kernel)
theorem zn_w2 : (Cond.initialized "LogHouse$Station") ∈ zn_W := zn_in (i := 2) (by decide +kernel) (by decide +kernel)
theorem zn_w3 : (Cond.initialized "LogHouse$Shelf") ∈ zn_W := zn_in (i := 3) (by decide +kernel) (by decide +kernel)
theorem zn_w4 : (Cond.initialized "LogHouse$Proposer") ∈ zn_W := zn_in (i := 4) (by decide +kernel) (by decide +kernel)
theorem zn_w5 : (Cond.initialized "LogHouse$Spot") ∈ zn_W := zn_in (i := 5) (by decide +kernel) (by decide +kernel)
theorem zn_w6 : (Cond.initialized "LogHouse$Report") ∈ zn_W := zn_in (i := 6) (by decide +kernel) (by decide +kernel)
theorem zn_w7 : (Cond.initialized "LogHouse$Row") ∈ zn_W := zn_in (i := 7) (by decide +kernel) (by decide +kernel)
theorem zn_w8 : (Cond.initialized "LogHouse$Letter") ∈ zn_W := zn_in (i := 8) (by decide +kernel) (by decide +kernel)
theorem zn_w9 : (Cond.initialized "LogHouse$Gathering") ∈ zn_W := zn_in (i := 9) (by decide +kernel) (by decide +kernel)
theorem zn_w10 : (Cond.initialized "LogHouseModel") ∈ zn_W := zn_in (i := 10) (by decide +kernel) (by decide +kernel)
theorem zn_w11 : (Cond.initialized "java/lang/Throwable") ∈ zn_W := zn_in (i := 11) (by decide +kernel) (by decide +kernel)
theorem zn_w12 : (Cond.initialized "java/lang/Exception") ∈ zn_W := zn_in (i := 12) (by decide +kernel) (by decide +kernel)
theorem zn_w13 : (Cond.initialized "java/lang/RuntimeException") ∈ zn_W := zn_in (i := 13) (by decide +kernel) (by decide +kernel)
theorem zn_w14 : (Cond.initialized "java/lang/IllegalArgumentException") ∈ zn_W := zn_in (i := 14) (by decide +kernel) (by decide +kernel)
theorem zn_w15 : (Cond.initialized "java/lang/Math") ∈ zn_W := zn_in (i := 15) (by decide +kernel) (by decide +kernel)
theorem zn_w16 : (Cond.initialized "java/lang/IllegalStateException") ∈ zn_W := zn_in (i := 16) (by decide +kernel) (by decide +kernel)
theorem zn_w17 : (Cond.initialized "LogHouse$Field") ∈ zn_W := zn_in (i := 17) (by decide +kernel) (by decide +kernel)
theorem zn_w18 : (Cond.initialized "java/lang/IndexOutOfBoundsException") ∈ zn_W := zn_in (i := 18) (by decide +kernel) (by decide +kernel)
theorem zn_w19 : (Cond.initialized "java/lang/Integer") ∈ zn_W := zn_in (i := 19) (by decide +kernel) (by decide +kernel)
theorem zn_w20 : (Cond.initialized "java/util/NoSuchElementException") ∈ zn_W := zn_in (i := 20) (by decide +kernel) (by decide +kernel)
theorem zn_w21 : (Cond.classLink "LogHouseLaw" (8 : Nat) "LogHouse") ∈ zn_W := zn_in (i := 21) (by decide +kernel) (by decide +kernel)
theorem zn_w22 : (Cond.instantiable "LogHouse" (6 : Nat)) ∈ zn_W := zn_in (i := 22) (by decide +kernel) (by decide +kernel)
theorem zn_w23 : (Cond.methodLink "LogHouseLaw" (70 : Nat) ({ cls := "LogHouse", name := "<init>", desc := "()V" } : MethodName)) ∈ zn_W := zn_in (i := 23) (by decide +kernel) (by decide +kernel)
theorem zn_w24 : (Cond.instanceMethod ({ cls := "LogHouse", name := "<init>", desc := "()V" } : MethodName)) ∈ zn_W := zn_in (i := 24) (by decide +kernel) (by decide +kernel)
theorem zn_w25 : (Cond.code ({ cls := "LogHouse", name := "<init>", desc := "()V" } : MethodName) prog_1_method_1_code (2 : Nat) (Option.none : Option FieldType)) ∈ zn_W := zn_in (i := 25) (by decide +kernel) (by decide +kernel)
theorem zn_w26 : (Cond.methodLink "LogHouse" (1 : Nat) ({ cls := "java/lang/Object", name := "<init>", desc := "()V" } : MethodName)) ∈ zn_W := zn_in (i := 26) (by decide +kernel) (by decide +kernel)
theorem zn_w27 : (Cond.instanceMethod ({ cls := "java/lang/Object", name := "<init>", desc := "()V" } : MethodName)) ∈ zn_W := zn_in (i := 27) (by decide +kernel) (by decide +kernel)
theorem zn_w28 : (Cond.code ({ cls := "java/lang/Object", name := "<init>", desc := "()V" } : MethodName) object_method_1_code (1 : Nat) (Option.none : Option FieldType)) ∈ zn_W := zn_in (i := 28) (by decide +kernel) (by decide +kernel)
theorem zn_w29 : (Cond.classLink "LogHouse" (9 : Nat) "LogHouse$Station") ∈ zn_W := zn_in (i := 29) (by decide +kernel) (by decide +kernel)
theorem zn_w31 : (Cond.instantiable "LogHouse$Station" (4 : Nat)) ∈ zn_W := zn_in (i := 31) (by decide +kernel) (by decide +kernel)
theorem zn_w33 : (Cond.instanceMethod ({ cls := "LogHouse$Station", name := "<init>", desc := "()V" } : MethodName)) ∈ zn_W := zn_in (i := 33) (by decide +kernel) (by decide +kernel)
theorem zn_w34 : (Cond.code ({ cls := "LogHouse$Station", name := "<init>", desc := "()V" } : MethodName) prog_10_method_1_code (1 : Nat) (Option.none : Option FieldType)) ∈ zn_W := zn_in (i := 34) (by decide +kernel) (by decide +kernel)
theorem zn_w35 : (Cond.methodLink "LogHouse$Station" (1 : Nat) ({ cls := "java/lang/Object", name := "<init>", desc := "()V" } : MethodName)) ∈ zn_W := zn_in (i := 35) (by decide +kernel) (by decide +kernel)
theorem zn_w36 : (Cond.classLink "LogHouse$Station" (13 : Nat) "LogHouse$Shelf") ∈ zn_W := zn_in (i := 36) (by decide +kernel) (by decide +kernel)
theorem zn_w37 : (Cond.instantiable "LogHouse$Shelf" (4 : Nat)) ∈ zn_W := zn_in (i := 37) (by decide +kernel) (by decide +kernel)
theorem zn_w39 : (Cond.instanceMethod ({ cls := "LogHouse$Shelf", name := "<init>", desc := "()V" } : MethodName)) ∈ zn_W := zn_in (i := 39) (by decide +kernel) (by decide +kernel)
theorem zn_w40 : (Cond.code ({ cls := "LogHouse$Shelf", name := "<init>", desc := "()V" } : MethodName) prog_8_method_1_code (1 : Nat) (Option.none : Option FieldType)) ∈ zn_W := zn_in (i := 40) (by decide +kernel) (by decide +kernel)
theorem zn_w41 : (Cond.methodLink "LogHouse$Shelf" (3 : Nat) ({ cls := "java/lang/Object", name := "<init>", desc := "()V" } : MethodName)) ∈ zn_W := zn_in (i := 41) (by decide +kernel) (by decide +kernel)
theorem zn_w42 : (Cond.fieldLink "LogHouse$Shelf" (9 : Nat) "LogHouse$Shelf" "ballots" "[I") ∈ zn_W := zn_in (i := 42) (by decide +kernel) (by decide +kernel)
theorem zn_w43 : (Cond.fieldLink "LogHouse" (228 : Nat) "LogHouse$Shelf" "ballots" "[I") ∈ zn_W := zn_in (i := 43) (by decide +kernel) (by decide +kernel)
theorem zn_w44 : (Cond.fieldLink "LogHouse$Shelf" (15 : Nat) "LogHouse$Shelf" "identities" "[I") ∈ zn_W := zn_in (i := 44) (by decide +kernel) (by decide +kernel)
theorem zn_w45 : (Cond.fieldLink "LogHouse$Gathering" (35 : Nat) "LogHouse$Shelf" "identities" "[I") ∈ zn_W := zn_in (i := 45) (by decide +kernel) (by decide +kernel)
theorem zn_w46 : (Cond.fieldLink "LogHouse$Proposer" (103 : Nat) "LogHouse$Shelf" "identities" "[I") ∈ zn_W := zn_in (i := 46) (by decide +kernel) (by decide +kernel)
theorem zn_w47 : (Cond.fieldLink "LogHouse" (232 : Nat) "LogHouse$Shelf" "identities" "[I") ∈ zn_W := zn_in (i := 47) (by decide +kernel) (by decide +kernel)
theorem zn_w48 : (Cond.fieldLink "LogHouse$Shelf" (18 : Nat) "LogHouse$Shelf" "lengths" "[I") ∈ zn_W := zn_in (i := 48) (by decide +kernel) (by decide +kernel)
theorem zn_w49 : (Cond.fieldLink "LogHouse$Gathering" (38 : Nat) "LogHouse$Shelf" "lengths" "[I") ∈ zn_W := zn_in (i := 49) (by decide +kernel) (by decide +kernel)
theorem zn_w50 : (Cond.fieldLink "LogHouse" (235 : Nat) "LogHouse$Shelf" "lengths" "[I") ∈ zn_W := zn_in (i := 50) (by decide +kernel) (by decide +kernel)
theorem zn_w51 : (Cond.fieldLink "LogHouse$Shelf" (21 : Nat) "LogHouse$Shelf" "shares" "[J") ∈ zn_W := zn_in (i := 51) (by decide +kernel) (by decide +kernel)
theorem zn_w52 : (Cond.fieldLink "LogHouse$Gathering" (47 : Nat) "LogHouse$Shelf" "shares" "[J") ∈ zn_W := zn_in (i := 52) (by decide +kernel) (by decide +kernel)
theorem zn_w53 : (Cond.laysFinal "LogHouse$Shelf" "LogHouse$Shelf" "ballots" "[I") ∈ zn_W := zn_in (i := 53) (by decide +kernel) (by decide +kernel)
theorem zn_w55 : (Cond.laysFinal "LogHouse$Shelf" "LogHouse$Shelf" "identities" "[I") ∈ zn_W := zn_in (i := 55) (by decide +kernel) (by decide +kernel)
theorem zn_w57 : (Cond.laysFinal "LogHouse$Shelf" "LogHouse$Shelf" "lengths" "[I") ∈ zn_W := zn_in (i := 57) (by decide +kernel) (by decide +kernel)
theorem zn_w59 : (Cond.laysFinal "LogHouse$Shelf" "LogHouse$Shelf" "shares" "[J") ∈ zn_W := zn_in (i := 59) (by decide +kernel) (by decide +kernel)
theorem zn_w61 : (Cond.superclass "LogHouse$Shelf" "java/lang/Object") ∈ zn_W := zn_in (i := 61) (by decide +kernel) (by decide +kernel)
theorem zn_w62 : (Cond.arrayClass FieldType.int) ∈ zn_W := zn_in (i := 62) (by decide +kernel) (by decide +kernel)
theorem zn_w63 : (Cond.arrayClass FieldType.long) ∈ zn_W := zn_in (i := 63) (by decide +kernel) (by decide +kernel)
theorem zn_w64 : (Cond.fieldLink "LogHouse$Station" (23 : Nat) "LogHouse$Station" "promised" "I") ∈ zn_W := zn_in (i := 64) (by decide +kernel) (by decide +kernel)
theorem zn_w65 : (Cond.fieldLink "LogHouse" (222 : Nat) "LogHouse$Station" "promised" "I") ∈ zn_W := zn_in (i := 65) (by decide +kernel) (by decide +kernel)
theorem zn_w66 : (Cond.fieldLink "LogHouse$Station" (7 : Nat) "LogHouse$Station" "isUp" "Z") ∈ zn_W := zn_in (i := 66) (by decide +kernel) (by decide +kernel)
theorem zn_w67 : (Cond.fieldLink "LogHouse" (155 : Nat) "LogHouse$Station" "isUp" "Z") ∈ zn_W := zn_in (i := 67) (by decide +kernel) (by decide +kernel)
theorem zn_w68 : (Cond.fieldLink "LogHouse$Station" (20 : Nat) "LogHouse$Station" "wasWiped" "Z") ∈ zn_W := zn_in (i := 68) (by decide +kernel) (by decide +kernel)
theorem zn_w69 : (Cond.fieldLink "LogHouse" (162 : Nat) "LogHouse$Station" "wasWiped" "Z") ∈ zn_W := zn_in (i := 69) (by decide +kernel) (by decide +kernel)
theorem zn_w70 : (Cond.fieldLink "LogHouse$Station" (16 : Nat) "LogHouse$Station" "shelf" "LLogHouse$Shelf;") ∈ zn_W := zn_in (i := 70) (by decide +kernel) (by decide +kernel)
theorem zn_w71 : (Cond.fieldLink "LogHouse" (174 : Nat) "LogHouse$Station" "shelf" "LLogHouse$Shelf;") ∈ zn_W := zn_in (i := 71) (by decide +kernel) (by decide +kernel)
theorem zn_w72 : (Cond.lays "LogHouse$Station" "LogHouse$Station" "promised" "I") ∈ zn_W := zn_in (i := 72) (by decide +kernel) (by decide +kernel)
theorem zn_w74 : (Cond.lays "LogHouse$Station" "LogHouse$Station" "isUp" "Z") ∈ zn_W := zn_in (i := 74) (by decide +kernel) (by decide +kernel)
theorem zn_w76 : (Cond.lays "LogHouse$Station" "LogHouse$Station" "wasWiped" "Z") ∈ zn_W := zn_in (i := 76) (by decide +kernel) (by decide +kernel)
theorem zn_w78 : (Cond.laysFinal "LogHouse$Station" "LogHouse$Station" "shelf" "LLogHouse$Shelf;") ∈ zn_W := zn_in (i := 78) (by decide +kernel) (by decide +kernel)
theorem zn_w80 : (Cond.superclass "LogHouse$Station" "java/lang/Object") ∈ zn_W := zn_in (i := 80) (by decide +kernel) (by decide +kernel)
theorem zn_w81 : (Cond.classLink "LogHouse" (16 : Nat) "LogHouse$Proposer") ∈ zn_W := zn_in (i := 81) (by decide +kernel) (by decide +kernel)
theorem zn_w83 : (Cond.instantiable "LogHouse$Proposer" (8 : Nat)) ∈ zn_W := zn_in (i := 83) (by decide +kernel) (by decide +kernel)
theorem zn_w84 : (Cond.methodLink "LogHouse" (22 : Nat) ({ cls := "LogHouse$Proposer", name := "<init>", desc := "(I)V" } : MethodName)) ∈ zn_W := zn_in (i := 84) (by decide +kernel) (by decide +kernel)
theorem zn_w85 : (Cond.instanceMethod ({ cls := "LogHouse$Proposer", name := "<init>", desc := "(I)V" } : MethodName)) ∈ zn_W := zn_in (i := 85) (by decide +kernel) (by decide +kernel)
theorem zn_w86 : (Cond.code ({ cls := "LogHouse$Proposer", name := "<init>", desc := "(I)V" } : MethodName) prog_5_method_1_code (3 : Nat) (Option.none : Option FieldType)) ∈ zn_W := zn_in (i := 86) (by decide +kernel) (by decide +kernel)
theorem zn_w87 : (Cond.methodLink "LogHouse$Proposer" (3 : Nat) ({ cls := "java/lang/Object", name := "<init>", desc := "()V" } : MethodName)) ∈ zn_W := zn_in (i := 87) (by decide +kernel) (by decide +kernel)
theorem zn_w88 : (Cond.classLink "LogHouse$Proposer" (19 : Nat) "LogHouse$Shelf") ∈ zn_W := zn_in (i := 88) (by decide +kernel) (by decide +kernel)
theorem zn_w90 : (Cond.classLink "LogHouse$Proposer" (25 : Nat) "LogHouse$Spot") ∈ zn_W := zn_in (i := 90) (by decide +kernel) (by decide +kernel)
theorem zn_w93 : (Cond.instantiable "LogHouse$Spot" (4 : Nat)) ∈ zn_W := zn_in (i := 93) (by decide +kernel) (by decide +kernel)
theorem zn_w95 : (Cond.instanceMethod ({ cls := "LogHouse$Spot", name := "<init>", desc := "()V" } : MethodName)) ∈ zn_W := zn_in (i := 95) (by decide +kernel) (by decide +kernel)
theorem zn_w96 : (Cond.code ({ cls := "LogHouse$Spot", name := "<init>", desc := "()V" } : MethodName) prog_9_method_1_code (1 : Nat) (Option.none : Option FieldType)) ∈ zn_W := zn_in (i := 96) (by decide +kernel) (by decide +kernel)
theorem zn_w97 : (Cond.methodLink "LogHouse$Spot" (3 : Nat) ({ cls := "java/lang/Object", name := "<init>", desc := "()V" } : MethodName)) ∈ zn_W := zn_in (i := 97) (by decide +kernel) (by decide +kernel)
theorem zn_w98 : (Cond.classLink "LogHouse$Spot" (9 : Nat) "LogHouse$Report") ∈ zn_W := zn_in (i := 98) (by decide +kernel) (by decide +kernel)
theorem zn_w99 : (Cond.instantiable "LogHouse$Report" (2 : Nat)) ∈ zn_W := zn_in (i := 99) (by decide +kernel) (by decide +kernel)
theorem zn_w101 : (Cond.instanceMethod ({ cls := "LogHouse$Report", name := "<init>", desc := "()V" } : MethodName)) ∈ zn_W := zn_in (i := 101) (by decide +kernel) (by decide +kernel)
theorem zn_w102 : (Cond.code ({ cls := "LogHouse$Report", name := "<init>", desc := "()V" } : MethodName) prog_6_method_1_code (1 : Nat) (Option.none : Option FieldType)) ∈ zn_W := zn_in (i := 102) (by decide +kernel) (by decide +kernel)
theorem zn_w103 : (Cond.methodLink "LogHouse$Report" (3 : Nat) ({ cls := "java/lang/Object", name := "<init>", desc := "()V" } : MethodName)) ∈ zn_W := zn_in (i := 103) (by decide +kernel) (by decide +kernel)
theorem zn_w104 : (Cond.fieldLink "LogHouse$Report" (15 : Nat) "LogHouse$Report" "length" "I") ∈ zn_W := zn_in (i := 104) (by decide +kernel) (by decide +kernel)
theorem zn_w105 : (Cond.fieldLink "LogHouse$Gathering" (48 : Nat) "LogHouse$Report" "length" "I") ∈ zn_W := zn_in (i := 105) (by decide +kernel) (by decide +kernel)
theorem zn_w106 : (Cond.fieldLink "LogHouse" (190 : Nat) "LogHouse$Report" "length" "I") ∈ zn_W := zn_in (i := 106) (by decide +kernel) (by decide +kernel)
theorem zn_w107 : (Cond.fieldLink "LogHouse$Report" (9 : Nat) "LogHouse$Report" "pieces" "[J") ∈ zn_W := zn_in (i := 107) (by decide +kernel) (by decide +kernel)
theorem zn_w108 : (Cond.lays "LogHouse$Report" "LogHouse$Report" "length" "I") ∈ zn_W := zn_in (i := 108) (by decide +kernel) (by decide +kernel)
theorem zn_w110 : (Cond.laysFinal "LogHouse$Report" "LogHouse$Report" "pieces" "[J") ∈ zn_W := zn_in (i := 110) (by decide +kernel) (by decide +kernel)
theorem zn_w112 : (Cond.superclass "LogHouse$Report" "java/lang/Object") ∈ zn_W := zn_in (i := 112) (by decide +kernel) (by decide +kernel)
theorem zn_w113 : (Cond.arrayClass FieldType.byte) ∈ zn_W := zn_in (i := 113) (by decide +kernel) (by decide +kernel)
theorem zn_w114 : (Cond.fieldLink "LogHouse$Spot" (18 : Nat) "LogHouse$Spot" "decidedIdentity" "I") ∈ zn_W := zn_in (i := 114) (by decide +kernel) (by decide +kernel)
theorem zn_w115 : (Cond.fieldLink "LogHouse" (169 : Nat) "LogHouse$Spot" "decidedIdentity" "I") ∈ zn_W := zn_in (i := 115) (by decide +kernel) (by decide +kernel)
theorem zn_w116 : (Cond.fieldLink "LogHouse$Spot" (22 : Nat) "LogHouse$Spot" "proposedIdentity" "I") ∈ zn_W := zn_in (i := 116) (by decide +kernel) (by decide +kernel)
theorem zn_w117 : (Cond.fieldLink "LogHouse" (264 : Nat) "LogHouse$Spot" "proposedIdentity" "I") ∈ zn_W := zn_in (i := 117) (by decide +kernel) (by decide +kernel)
theorem zn_w118 : (Cond.fieldLink "LogHouse$Spot" (25 : Nat) "LogHouse$Spot" "answeredBy" "I") ∈ zn_W := zn_in (i := 118) (by decide +kernel) (by decide +kernel)
theorem zn_w119 : (Cond.fieldLink "LogHouse$Spot" (12 : Nat) "LogHouse$Spot" "report" "LLogHouse$Report;") ∈ zn_W := zn_in (i := 119) (by decide +kernel) (by decide +kernel)
theorem zn_w120 : (Cond.fieldLink "LogHouse$Proposer" (62 : Nat) "LogHouse$Spot" "report" "LLogHouse$Report;") ∈ zn_W := zn_in (i := 120) (by decide +kernel) (by decide +kernel)
theorem zn_w121 : (Cond.fieldLink "LogHouse" (271 : Nat) "LogHouse$Spot" "report" "LLogHouse$Report;") ∈ zn_W := zn_in (i := 121) (by decide +kernel) (by decide +kernel)
theorem zn_w122 : (Cond.lays "LogHouse$Spot" "LogHouse$Spot" "decidedIdentity" "I") ∈ zn_W := zn_in (i := 122) (by decide +kernel) (by decide +kernel)
theorem zn_w124 : (Cond.lays "LogHouse$Spot" "LogHouse$Spot" "proposedIdentity" "I") ∈ zn_W := zn_in (i := 124) (by decide +kernel) (by decide +kernel)
theorem zn_w126 : (Cond.lays "LogHouse$Spot" "LogHouse$Spot" "answeredBy" "I") ∈ zn_W := zn_in (i := 126) (by decide +kernel) (by decide +kernel)
theorem zn_w128 : (Cond.laysFinal "LogHouse$Spot" "LogHouse$Spot" "report" "LLogHouse$Report;") ∈ zn_W := zn_in (i := 128) (by decide +kernel) (by decide +kernel)
theorem zn_w130 : (Cond.superclass "LogHouse$Spot" "java/lang/Object") ∈ zn_W := zn_in (i := 130) (by decide +kernel) (by decide +kernel)
theorem zn_w131 : (Cond.fieldLink "LogHouse$Proposer" (31 : Nat) "LogHouse$Proposer" "number" "I") ∈ zn_W := zn_in (i := 131) (by decide +kernel) (by decide +kernel)
theorem zn_w132 : (Cond.fieldLink "LogHouse" (250 : Nat) "LogHouse$Proposer" "number" "I") ∈ zn_W := zn_in (i := 132) (by decide +kernel) (by decide +kernel)
theorem zn_w133 : (Cond.fieldLink "LogHouse$Proposer" (9 : Nat) "LogHouse$Proposer" "phase" "I") ∈ zn_W := zn_in (i := 133) (by decide +kernel) (by decide +kernel)
theorem zn_w134 : (Cond.fieldLink "LogHouse" (94 : Nat) "LogHouse$Proposer" "phase" "I") ∈ zn_W := zn_in (i := 134) (by decide +kernel) (by decide +kernel)
theorem zn_w135 : (Cond.fieldLink "LogHouse$Proposer" (39 : Nat) "LogHouse$Proposer" "ballot" "I") ∈ zn_W := zn_in (i := 135) (by decide +kernel) (by decide +kernel)
theorem zn_w136 : (Cond.fieldLink "LogHouse" (71 : Nat) "LogHouse$Proposer" "ballot" "I") ∈ zn_W := zn_in (i := 136) (by decide +kernel) (by decide +kernel)
theorem zn_w137 : (Cond.fieldLink "LogHouse$Proposer" (48 : Nat) "LogHouse$Proposer" "promisedBy" "I") ∈ zn_W := zn_in (i := 137) (by decide +kernel) (by decide +kernel)
theorem zn_w138 : (Cond.fieldLink "LogHouse" (214 : Nat) "LogHouse$Proposer" "promisedBy" "I") ∈ zn_W := zn_in (i := 138) (by decide +kernel) (by decide +kernel)
theorem zn_w139 : (Cond.fieldLink "LogHouse$Proposer" (36 : Nat) "LogHouse$Proposer" "draftLength" "I") ∈ zn_W := zn_in (i := 139) (by decide +kernel) (by decide +kernel)
theorem zn_w140 : (Cond.fieldLink "LogHouse" (78 : Nat) "LogHouse$Proposer" "draftLength" "I") ∈ zn_W := zn_in (i := 140) (by decide +kernel) (by decide +kernel)
theorem zn_w141 : (Cond.fieldLink "LogHouse$Proposer" (15 : Nat) "LogHouse$Proposer" "draft" "[B") ∈ zn_W := zn_in (i := 141) (by decide +kernel) (by decide +kernel)
theorem zn_w142 : (Cond.fieldLink "LogHouse$Proposer" (21 : Nat) "LogHouse$Proposer" "promises" "[LLogHouse$Shelf;") ∈ zn_W := zn_in (i := 142) (by decide +kernel) (by decide +kernel)
theorem zn_w143 : (Cond.fieldLink "LogHouse$Proposer" (27 : Nat) "LogHouse$Proposer" "spots" "[LLogHouse$Spot;") ∈ zn_W := zn_in (i := 143) (by decide +kernel) (by decide +kernel)
theorem zn_w144 : (Cond.fieldLink "LogHouse" (165 : Nat) "LogHouse$Proposer" "spots" "[LLogHouse$Spot;") ∈ zn_W := zn_in (i := 144) (by decide +kernel) (by decide +kernel)
theorem zn_w145 : (Cond.laysFinal "LogHouse$Proposer" "LogHouse$Proposer" "number" "I") ∈ zn_W := zn_in (i := 145) (by decide +kernel) (by decide +kernel)
theorem zn_w147 : (Cond.lays "LogHouse$Proposer" "LogHouse$Proposer" "phase" "I") ∈ zn_W := zn_in (i := 147) (by decide +kernel) (by decide +kernel)
theorem zn_w149 : (Cond.lays "LogHouse$Proposer" "LogHouse$Proposer" "ballot" "I") ∈ zn_W := zn_in (i := 149) (by decide +kernel) (by decide +kernel)
theorem zn_w151 : (Cond.lays "LogHouse$Proposer" "LogHouse$Proposer" "promisedBy" "I") ∈ zn_W := zn_in (i := 151) (by decide +kernel) (by decide +kernel)
theorem zn_w153 : (Cond.lays "LogHouse$Proposer" "LogHouse$Proposer" "draftLength" "I") ∈ zn_W := zn_in (i := 153) (by decide +kernel) (by decide +kernel)
theorem zn_w155 : (Cond.laysFinal "LogHouse$Proposer" "LogHouse$Proposer" "draft" "[B") ∈ zn_W := zn_in (i := 155) (by decide +kernel) (by decide +kernel)
theorem zn_w157 : (Cond.laysFinal "LogHouse$Proposer" "LogHouse$Proposer" "promises" "[LLogHouse$Shelf;") ∈ zn_W := zn_in (i := 157) (by decide +kernel) (by decide +kernel)
theorem zn_w159 : (Cond.laysFinal "LogHouse$Proposer" "LogHouse$Proposer" "spots" "[LLogHouse$Spot;") ∈ zn_W := zn_in (i := 159) (by decide +kernel) (by decide +kernel)
theorem zn_w161 : (Cond.superclass "LogHouse$Proposer" "java/lang/Object") ∈ zn_W := zn_in (i := 161) (by decide +kernel) (by decide +kernel)
theorem zn_w162 : (Cond.classLink "LogHouse" (25 : Nat) "LogHouse$Row") ∈ zn_W := zn_in (i := 162) (by decide +kernel) (by decide +kernel)
theorem zn_w163 : (Cond.instantiable "LogHouse$Row" (2 : Nat)) ∈ zn_W := zn_in (i := 163) (by decide +kernel) (by decide +kernel)
theorem zn_w164 : (Cond.methodLink "LogHouse" (27 : Nat) ({ cls := "LogHouse$Row", name := "<init>", desc := "()V" } : MethodName)) ∈ zn_W := zn_in (i := 164) (by decide +kernel) (by decide +kernel)
theorem zn_w165 : (Cond.instanceMethod ({ cls := "LogHouse$Row", name := "<init>", desc := "()V" } : MethodName)) ∈ zn_W := zn_in (i := 165) (by decide +kernel) (by decide +kernel)
theorem zn_w166 : (Cond.code ({ cls := "LogHouse$Row", name := "<init>", desc := "()V" } : MethodName) prog_7_method_1_code (2 : Nat) (Option.none : Option FieldType)) ∈ zn_W := zn_in (i := 166) (by decide +kernel) (by decide +kernel)
theorem zn_w167 : (Cond.methodLink "LogHouse$Row" (3 : Nat) ({ cls := "java/lang/Object", name := "<init>", desc := "()V" } : MethodName)) ∈ zn_W := zn_in (i := 167) (by decide +kernel) (by decide +kernel)
theorem zn_w168 : (Cond.classLink "LogHouse$Row" (9 : Nat) "LogHouse$Letter") ∈ zn_W := zn_in (i := 168) (by decide +kernel) (by decide +kernel)
theorem zn_w170 : (Cond.instantiable "LogHouse$Letter" (9 : Nat)) ∈ zn_W := zn_in (i := 170) (by decide +kernel) (by decide +kernel)
theorem zn_w172 : (Cond.instanceMethod ({ cls := "LogHouse$Letter", name := "<init>", desc := "()V" } : MethodName)) ∈ zn_W := zn_in (i := 172) (by decide +kernel) (by decide +kernel)
theorem zn_w173 : (Cond.code ({ cls := "LogHouse$Letter", name := "<init>", desc := "()V" } : MethodName) prog_4_method_1_code (1 : Nat) (Option.none : Option FieldType)) ∈ zn_W := zn_in (i := 173) (by decide +kernel) (by decide +kernel)
theorem zn_w174 : (Cond.methodLink "LogHouse$Letter" (3 : Nat) ({ cls := "java/lang/Object", name := "<init>", desc := "()V" } : MethodName)) ∈ zn_W := zn_in (i := 174) (by decide +kernel) (by decide +kernel)
theorem zn_w175 : (Cond.classLink "LogHouse$Letter" (9 : Nat) "LogHouse$Shelf") ∈ zn_W := zn_in (i := 175) (by decide +kernel) (by decide +kernel)
theorem zn_w177 : (Cond.fieldLink "LogHouse$Letter" (18 : Nat) "LogHouse$Letter" "kind" "I") ∈ zn_W := zn_in (i := 177) (by decide +kernel) (by decide +kernel)
theorem zn_w178 : (Cond.fieldLink "LogHouse" (107 : Nat) "LogHouse$Letter" "kind" "I") ∈ zn_W := zn_in (i := 178) (by decide +kernel) (by decide +kernel)
theorem zn_w179 : (Cond.fieldLink "LogHouse$Letter" (22 : Nat) "LogHouse$Letter" "station" "I") ∈ zn_W := zn_in (i := 179) (by decide +kernel) (by decide +kernel)
theorem zn_w180 : (Cond.fieldLink "LogHouse$Proposer" (75 : Nat) "LogHouse$Letter" "station" "I") ∈ zn_W := zn_in (i := 180) (by decide +kernel) (by decide +kernel)
theorem zn_w181 : (Cond.fieldLink "LogHouse" (139 : Nat) "LogHouse$Letter" "station" "I") ∈ zn_W := zn_in (i := 181) (by decide +kernel) (by decide +kernel)
theorem zn_w182 : (Cond.fieldLink "LogHouse$Letter" (25 : Nat) "LogHouse$Letter" "proposer" "I") ∈ zn_W := zn_in (i := 182) (by decide +kernel) (by decide +kernel)
theorem zn_w183 : (Cond.fieldLink "LogHouse" (122 : Nat) "LogHouse$Letter" "proposer" "I") ∈ zn_W := zn_in (i := 183) (by decide +kernel) (by decide +kernel)
theorem zn_w184 : (Cond.fieldLink "LogHouse$Letter" (28 : Nat) "LogHouse$Letter" "ballot" "I") ∈ zn_W := zn_in (i := 184) (by decide +kernel) (by decide +kernel)
theorem zn_w185 : (Cond.fieldLink "LogHouse$Proposer" (72 : Nat) "LogHouse$Letter" "ballot" "I") ∈ zn_W := zn_in (i := 185) (by decide +kernel) (by decide +kernel)
theorem zn_w186 : (Cond.fieldLink "LogHouse" (142 : Nat) "LogHouse$Letter" "ballot" "I") ∈ zn_W := zn_in (i := 186) (by decide +kernel) (by decide +kernel)
theorem zn_w187 : (Cond.fieldLink "LogHouse$Letter" (31 : Nat) "LogHouse$Letter" "place" "I") ∈ zn_W := zn_in (i := 187) (by decide +kernel) (by decide +kernel)
theorem zn_w188 : (Cond.fieldLink "LogHouse$Proposer" (90 : Nat) "LogHouse$Letter" "place" "I") ∈ zn_W := zn_in (i := 188) (by decide +kernel) (by decide +kernel)
theorem zn_w189 : (Cond.fieldLink "LogHouse" (143 : Nat) "LogHouse$Letter" "place" "I") ∈ zn_W := zn_in (i := 189) (by decide +kernel) (by decide +kernel)
theorem zn_w190 : (Cond.fieldLink "LogHouse$Letter" (34 : Nat) "LogHouse$Letter" "identity" "I") ∈ zn_W := zn_in (i := 190) (by decide +kernel) (by decide +kernel)
theorem zn_w191 : (Cond.fieldLink "LogHouse$Proposer" (93 : Nat) "LogHouse$Letter" "identity" "I") ∈ zn_W := zn_in (i := 191) (by decide +kernel) (by decide +kernel)
theorem zn_w192 : (Cond.fieldLink "LogHouse" (146 : Nat) "LogHouse$Letter" "identity" "I") ∈ zn_W := zn_in (i := 192) (by decide +kernel) (by decide +kernel)
theorem zn_w193 : (Cond.fieldLink "LogHouse$Letter" (45 : Nat) "LogHouse$Letter" "length" "I") ∈ zn_W := zn_in (i := 193) (by decide +kernel) (by decide +kernel)
theorem zn_w194 : (Cond.fieldLink "LogHouse" (274 : Nat) "LogHouse$Letter" "length" "I") ∈ zn_W := zn_in (i := 194) (by decide +kernel) (by decide +kernel)
theorem zn_w195 : (Cond.fieldLink "LogHouse$Letter" (48 : Nat) "LogHouse$Letter" "share" "J") ∈ zn_W := zn_in (i := 195) (by decide +kernel) (by decide +kernel)
theorem zn_w196 : (Cond.fieldLink "LogHouse" (275 : Nat) "LogHouse$Letter" "share" "J") ∈ zn_W := zn_in (i := 196) (by decide +kernel) (by decide +kernel)
theorem zn_w197 : (Cond.fieldLink "LogHouse$Letter" (12 : Nat) "LogHouse$Letter" "shelf" "LLogHouse$Shelf;") ∈ zn_W := zn_in (i := 197) (by decide +kernel) (by decide +kernel)
theorem zn_w198 : (Cond.fieldLink "LogHouse$Proposer" (82 : Nat) "LogHouse$Letter" "shelf" "LLogHouse$Shelf;") ∈ zn_W := zn_in (i := 198) (by decide +kernel) (by decide +kernel)
theorem zn_w199 : (Cond.fieldLink "LogHouse" (282 : Nat) "LogHouse$Letter" "shelf" "LLogHouse$Shelf;") ∈ zn_W := zn_in (i := 199) (by decide +kernel) (by decide +kernel)
theorem zn_w200 : (Cond.lays "LogHouse$Letter" "LogHouse$Letter" "kind" "I") ∈ zn_W := zn_in (i := 200) (by decide +kernel) (by decide +kernel)
theorem zn_w202 : (Cond.lays "LogHouse$Letter" "LogHouse$Letter" "station" "I") ∈ zn_W := zn_in (i := 202) (by decide +kernel) (by decide +kernel)
theorem zn_w204 : (Cond.lays "LogHouse$Letter" "LogHouse$Letter" "proposer" "I") ∈ zn_W := zn_in (i := 204) (by decide +kernel) (by decide +kernel)
theorem zn_w206 : (Cond.lays "LogHouse$Letter" "LogHouse$Letter" "ballot" "I") ∈ zn_W := zn_in (i := 206) (by decide +kernel) (by decide +kernel)
theorem zn_w208 : (Cond.lays "LogHouse$Letter" "LogHouse$Letter" "place" "I") ∈ zn_W := zn_in (i := 208) (by decide +kernel) (by decide +kernel)
theorem zn_w210 : (Cond.lays "LogHouse$Letter" "LogHouse$Letter" "identity" "I") ∈ zn_W := zn_in (i := 210) (by decide +kernel) (by decide +kernel)
theorem zn_w212 : (Cond.lays "LogHouse$Letter" "LogHouse$Letter" "length" "I") ∈ zn_W := zn_in (i := 212) (by decide +kernel) (by decide +kernel)
theorem zn_w214 : (Cond.lays "LogHouse$Letter" "LogHouse$Letter" "share" "J") ∈ zn_W := zn_in (i := 214) (by decide +kernel) (by decide +kernel)
theorem zn_w216 : (Cond.laysFinal "LogHouse$Letter" "LogHouse$Letter" "shelf" "LLogHouse$Shelf;") ∈ zn_W := zn_in (i := 216) (by decide +kernel) (by decide +kernel)
theorem zn_w218 : (Cond.superclass "LogHouse$Letter" "java/lang/Object") ∈ zn_W := zn_in (i := 218) (by decide +kernel) (by decide +kernel)
theorem zn_w219 : (Cond.fieldLink "LogHouse$Row" (18 : Nat) "LogHouse$Row" "count" "I") ∈ zn_W := zn_in (i := 219) (by decide +kernel) (by decide +kernel)
theorem zn_w220 : (Cond.fieldLink "LogHouse" (91 : Nat) "LogHouse$Row" "count" "I") ∈ zn_W := zn_in (i := 220) (by decide +kernel) (by decide +kernel)
theorem zn_w221 : (Cond.fieldLink "LogHouse$Row" (11 : Nat) "LogHouse$Row" "slots" "[LLogHouse$Letter;") ∈ zn_W := zn_in (i := 221) (by decide +kernel) (by decide +kernel)
theorem zn_w222 : (Cond.fieldLink "LogHouse" (132 : Nat) "LogHouse$Row" "slots" "[LLogHouse$Letter;") ∈ zn_W := zn_in (i := 222) (by decide +kernel) (by decide +kernel)
theorem zn_w223 : (Cond.lays "LogHouse$Row" "LogHouse$Row" "count" "I") ∈ zn_W := zn_in (i := 223) (by decide +kernel) (by decide +kernel)
theorem zn_w225 : (Cond.laysFinal "LogHouse$Row" "LogHouse$Row" "slots" "[LLogHouse$Letter;") ∈ zn_W := zn_in (i := 225) (by decide +kernel) (by decide +kernel)
theorem zn_w227 : (Cond.superclass "LogHouse$Row" "java/lang/Object") ∈ zn_W := zn_in (i := 227) (by decide +kernel) (by decide +kernel)
theorem zn_w228 : (Cond.classLink "LogHouse" (32 : Nat) "LogHouse$Gathering") ∈ zn_W := zn_in (i := 228) (by decide +kernel) (by decide +kernel)
theorem zn_w229 : (Cond.instantiable "LogHouse$Gathering" (5 : Nat)) ∈ zn_W := zn_in (i := 229) (by decide +kernel) (by decide +kernel)
theorem zn_w231 : (Cond.instanceMethod ({ cls := "LogHouse$Gathering", name := "<init>", desc := "()V" } : MethodName)) ∈ zn_W := zn_in (i := 231) (by decide +kernel) (by decide +kernel)
theorem zn_w232 : (Cond.code ({ cls := "LogHouse$Gathering", name := "<init>", desc := "()V" } : MethodName) prog_3_method_1_code (1 : Nat) (Option.none : Option FieldType)) ∈ zn_W := zn_in (i := 232) (by decide +kernel) (by decide +kernel)
theorem zn_w233 : (Cond.methodLink "LogHouse$Gathering" (3 : Nat) ({ cls := "java/lang/Object", name := "<init>", desc := "()V" } : MethodName)) ∈ zn_W := zn_in (i := 233) (by decide +kernel) (by decide +kernel)
theorem zn_w234 : (Cond.fieldLink "LogHouse$Gathering" (19 : Nat) "LogHouse$Gathering" "identity" "I") ∈ zn_W := zn_in (i := 234) (by decide +kernel) (by decide +kernel)
theorem zn_w235 : (Cond.fieldLink "LogHouse" (299 : Nat) "LogHouse$Gathering" "identity" "I") ∈ zn_W := zn_in (i := 235) (by decide +kernel) (by decide +kernel)
theorem zn_w236 : (Cond.fieldLink "LogHouse$Gathering" (23 : Nat) "LogHouse$Gathering" "length" "I") ∈ zn_W := zn_in (i := 236) (by decide +kernel) (by decide +kernel)
theorem zn_w237 : (Cond.fieldLink "LogHouse$Gathering" (26 : Nat) "LogHouse$Gathering" "count" "I") ∈ zn_W := zn_in (i := 237) (by decide +kernel) (by decide +kernel)
theorem zn_w238 : (Cond.fieldLink "LogHouse$Gathering" (9 : Nat) "LogHouse$Gathering" "points" "[I") ∈ zn_W := zn_in (i := 238) (by decide +kernel) (by decide +kernel)
theorem zn_w239 : (Cond.fieldLink "LogHouse$Gathering" (15 : Nat) "LogHouse$Gathering" "shares" "[J") ∈ zn_W := zn_in (i := 239) (by decide +kernel) (by decide +kernel)
theorem zn_w240 : (Cond.lays "LogHouse$Gathering" "LogHouse$Gathering" "identity" "I") ∈ zn_W := zn_in (i := 240) (by decide +kernel) (by decide +kernel)
theorem zn_w242 : (Cond.lays "LogHouse$Gathering" "LogHouse$Gathering" "length" "I") ∈ zn_W := zn_in (i := 242) (by decide +kernel) (by decide +kernel)
theorem zn_w244 : (Cond.lays "LogHouse$Gathering" "LogHouse$Gathering" "count" "I") ∈ zn_W := zn_in (i := 244) (by decide +kernel) (by decide +kernel)
theorem zn_w246 : (Cond.laysFinal "LogHouse$Gathering" "LogHouse$Gathering" "points" "[I") ∈ zn_W := zn_in (i := 246) (by decide +kernel) (by decide +kernel)
theorem zn_w248 : (Cond.laysFinal "LogHouse$Gathering" "LogHouse$Gathering" "shares" "[J") ∈ zn_W := zn_in (i := 248) (by decide +kernel) (by decide +kernel)
theorem zn_w250 : (Cond.superclass "LogHouse$Gathering" "java/lang/Object") ∈ zn_W := zn_in (i := 250) (by decide +kernel) (by decide +kernel)
theorem zn_w251 : (Cond.classLink "LogHouse" (39 : Nat) "LogHouse$Report") ∈ zn_W := zn_in (i := 251) (by decide +kernel) (by decide +kernel)
theorem zn_w253 : (Cond.fieldLink "LogHouse" (11 : Nat) "LogHouse" "stations" "[LLogHouse$Station;") ∈ zn_W := zn_in (i := 253) (by decide +kernel) (by decide +kernel)
theorem zn_w254 : (Cond.fieldLink "LogHouse" (18 : Nat) "LogHouse" "proposers" "[LLogHouse$Proposer;") ∈ zn_W := zn_in (i := 254) (by decide +kernel) (by decide +kernel)
theorem zn_w255 : (Cond.fieldLink "LogHouse" (28 : Nat) "LogHouse" "row" "LLogHouse$Row;") ∈ zn_W := zn_in (i := 255) (by decide +kernel) (by decide +kernel)
theorem zn_w256 : (Cond.fieldLink "LogHouse" (35 : Nat) "LogHouse" "gathering" "LLogHouse$Gathering;") ∈ zn_W := zn_in (i := 256) (by decide +kernel) (by decide +kernel)
theorem zn_w257 : (Cond.fieldLink "LogHouse" (42 : Nat) "LogHouse" "rebuilt" "LLogHouse$Report;") ∈ zn_W := zn_in (i := 257) (by decide +kernel) (by decide +kernel)
theorem zn_w258 : (Cond.fieldLink "LogHouse" (46 : Nat) "LogHouse" "lastRead" "LLogHouse$Report;") ∈ zn_W := zn_in (i := 258) (by decide +kernel) (by decide +kernel)
theorem zn_w259 : (Cond.laysFinal "LogHouse" "LogHouse" "stations" "[LLogHouse$Station;") ∈ zn_W := zn_in (i := 259) (by decide +kernel) (by decide +kernel)
theorem zn_w261 : (Cond.laysFinal "LogHouse" "LogHouse" "proposers" "[LLogHouse$Proposer;") ∈ zn_W := zn_in (i := 261) (by decide +kernel) (by decide +kernel)
theorem zn_w263 : (Cond.laysFinal "LogHouse" "LogHouse" "row" "LLogHouse$Row;") ∈ zn_W := zn_in (i := 263) (by decide +kernel) (by decide +kernel)
theorem zn_w265 : (Cond.laysFinal "LogHouse" "LogHouse" "gathering" "LLogHouse$Gathering;") ∈ zn_W := zn_in (i := 265) (by decide +kernel) (by decide +kernel)
theorem zn_w267 : (Cond.laysFinal "LogHouse" "LogHouse" "rebuilt" "LLogHouse$Report;") ∈ zn_W := zn_in (i := 267) (by decide +kernel) (by decide +kernel)
theorem zn_w269 : (Cond.laysFinal "LogHouse" "LogHouse" "lastRead" "LLogHouse$Report;") ∈ zn_W := zn_in (i := 269) (by decide +kernel) (by decide +kernel)
theorem zn_w271 : (Cond.superclass "LogHouse" "java/lang/Object") ∈ zn_W := zn_in (i := 271) (by decide +kernel) (by decide +kernel)
theorem zn_w272 : (Cond.methodLink "LogHouseLaw" (74 : Nat) ({ cls := "LogHouse", name := "byteIn", desc := "(III)Z" } : MethodName)) ∈ zn_W := zn_in (i := 272) (by decide +kernel) (by decide +kernel)
theorem zn_w273 : (Cond.instanceMethod ({ cls := "LogHouse", name := "byteIn", desc := "(III)Z" } : MethodName)) ∈ zn_W := zn_in (i := 273) (by decide +kernel) (by decide +kernel)
theorem zn_w274 : (Cond.selects "LogHouse" ({ cls := "LogHouse", name := "byteIn", desc := "(III)Z" } : MethodName) ({ cls := "LogHouse", name := "byteIn", desc := "(III)Z" } : MethodName)) ∈ zn_W := zn_in (i := 274) (by decide +kernel) (by decide +kernel)
theorem zn_w275 : (Cond.code ({ cls := "LogHouse", name := "byteIn", desc := "(III)Z" } : MethodName) prog_1_method_2_code (4 : Nat) (Option.some FieldType.boolean)) ∈ zn_W := zn_in (i := 275) (by decide +kernel) (by decide +kernel)
theorem zn_w276 : (Cond.methodLink "LogHouse" (49 : Nat) ({ cls := "LogHouse", name := "isProposer", desc := "(I)Z" } : MethodName)) ∈ zn_W := zn_in (i := 276) (by decide +kernel) (by decide +kernel)
theorem zn_w277 : (Cond.static ({ cls := "LogHouse", name := "isProposer", desc := "(I)Z" } : MethodName)) ∈ zn_W := zn_in (i := 277) (by decide +kernel) (by decide +kernel)
theorem zn_w278 : (Cond.code ({ cls := "LogHouse", name := "isProposer", desc := "(I)Z" } : MethodName) prog_1_method_20_code (1 : Nat) (Option.some FieldType.boolean)) ∈ zn_W := zn_in (i := 278) (by decide +kernel) (by decide +kernel)
theorem zn_w279 : (Cond.methodLink "LogHouse" (53 : Nat) ({ cls := "LogHouse$Proposer", name := "write", desc := "(II)Z" } : MethodName)) ∈ zn_W := zn_in (i := 279) (by decide +kernel) (by decide +kernel)
theorem zn_w280 : (Cond.instanceMethod ({ cls := "LogHouse$Proposer", name := "write", desc := "(II)Z" } : MethodName)) ∈ zn_W := zn_in (i := 280) (by decide +kernel) (by decide +kernel)
theorem zn_w281 : (Cond.selects "LogHouse$Proposer" ({ cls := "LogHouse$Proposer", name := "write", desc := "(II)Z" } : MethodName) ({ cls := "LogHouse$Proposer", name := "write", desc := "(II)Z" } : MethodName)) ∈ zn_W := zn_in (i := 281) (by decide +kernel) (by decide +kernel)
theorem zn_w282 : (Cond.code ({ cls := "LogHouse$Proposer", name := "write", desc := "(II)Z" } : MethodName) prog_5_method_2_code (4 : Nat) (Option.some FieldType.boolean)) ∈ zn_W := zn_in (i := 282) (by decide +kernel) (by decide +kernel)
theorem zn_w283 : (Cond.methodLink "LogHouseLaw" (105 : Nat) ({ cls := "LogHouse", name := "letters", desc := "()I" } : MethodName)) ∈ zn_W := zn_in (i := 283) (by decide +kernel) (by decide +kernel)
theorem zn_w284 : (Cond.instanceMethod ({ cls := "LogHouse", name := "letters", desc := "()I" } : MethodName)) ∈ zn_W := zn_in (i := 284) (by decide +kernel) (by decide +kernel)
theorem zn_w285 : (Cond.selects "LogHouse" ({ cls := "LogHouse", name := "letters", desc := "()I" } : MethodName) ({ cls := "LogHouse", name := "letters", desc := "()I" } : MethodName)) ∈ zn_W := zn_in (i := 285) (by decide +kernel) (by decide +kernel)
theorem zn_w286 : (Cond.code ({ cls := "LogHouse", name := "letters", desc := "()I" } : MethodName) prog_1_method_9_code (1 : Nat) (Option.some FieldType.int)) ∈ zn_W := zn_in (i := 286) (by decide +kernel) (by decide +kernel)
theorem zn_w287 : (Cond.methodLink "LogHouseLaw" (79 : Nat) ({ cls := "LogHouseLaw", name := "campaign", desc := "(LLogHouse;I[J)I" } : MethodName)) ∈ zn_W := zn_in (i := 287) (by decide +kernel) (by decide +kernel)
theorem zn_w288 : (Cond.static ({ cls := "LogHouseLaw", name := "campaign", desc := "(LLogHouse;I[J)I" } : MethodName)) ∈ zn_W := zn_in (i := 288) (by decide +kernel) (by decide +kernel)
theorem zn_w289 : (Cond.codeWith ({ cls := "LogHouseLaw", name := "campaign", desc := "(LLogHouse;I[J)I" } : MethodName) method_3_code (4 : Nat) (Option.some FieldType.int) [((0 : Nat), (9 : Nat), (12 : Nat), (13 : Nat))]) ∈ zn_W := zn_in (i := 289) (by decide +kernel) (by decide +kernel)
theorem zn_w290 : (Cond.classLink "LogHouseLaw" (13 : Nat) "java/lang/IllegalArgumentException") ∈ zn_W := zn_in (i := 290) (by decide +kernel) (by decide +kernel)
theorem zn_w291 : (Cond.methodLink "LogHouseLaw" (7 : Nat) ({ cls := "LogHouse", name := "campaign", desc := "(I)I" } : MethodName)) ∈ zn_W := zn_in (i := 291) (by decide +kernel) (by decide +kernel)
theorem zn_w292 : (Cond.instanceMethod ({ cls := "LogHouse", name := "campaign", desc := "(I)I" } : MethodName)) ∈ zn_W := zn_in (i := 292) (by decide +kernel) (by decide +kernel)
theorem zn_w293 : (Cond.selects "LogHouse" ({ cls := "LogHouse", name := "campaign", desc := "(I)I" } : MethodName) ({ cls := "LogHouse", name := "campaign", desc := "(I)I" } : MethodName)) ∈ zn_W := zn_in (i := 293) (by decide +kernel) (by decide +kernel)
theorem zn_w294 : (Cond.code ({ cls := "LogHouse", name := "campaign", desc := "(I)I" } : MethodName) prog_1_method_3_code (3 : Nat) (Option.some FieldType.int)) ∈ zn_W := zn_in (i := 294) (by decide +kernel) (by decide +kernel)
theorem zn_w295 : (Cond.methodLink "LogHouse" (57 : Nat) ({ cls := "LogHouse", name := "checkProposer", desc := "(I)V" } : MethodName)) ∈ zn_W := zn_in (i := 295) (by decide +kernel) (by decide +kernel)
theorem zn_w296 : (Cond.static ({ cls := "LogHouse", name := "checkProposer", desc := "(I)V" } : MethodName)) ∈ zn_W := zn_in (i := 296) (by decide +kernel) (by decide +kernel)
theorem zn_w297 : (Cond.code ({ cls := "LogHouse", name := "checkProposer", desc := "(I)V" } : MethodName) prog_1_method_21_code (1 : Nat) (Option.none : Option FieldType)) ∈ zn_W := zn_in (i := 297) (by decide +kernel) (by decide +kernel)
theorem zn_w298 : (Cond.classLink "LogHouse" (149 : Nat) "java/lang/IllegalArgumentException") ∈ zn_W := zn_in (i := 298) (by decide +kernel) (by decide +kernel)
theorem zn_w299 : (Cond.instantiable "java/lang/IllegalArgumentException" (6 : Nat)) ∈ zn_W := zn_in (i := 299) (by decide +kernel) (by decide +kernel)
theorem zn_w307 : (Cond.selects "java/lang/IllegalArgumentException" ({ cls := "java/lang/Throwable", name := "fillInStackTrace", desc := "(I)Ljava/lang/Throwable;" } : MethodName) ({ cls := "java/lang/Throwable", name := "fillInStackTrace", desc := "(I)Ljava/lang/Throwable;" } : MethodName)) ∈ zn_W := zn_in (i := 307) (by decide +kernel) (by decide +kernel)
theorem zn_w308 : (Cond.selects "java/lang/IllegalArgumentException" ({ cls := "java/lang/Throwable", name := "fillInStackTrace", desc := "()Ljava/lang/Throwable;" } : MethodName) ({ cls := "java/lang/Throwable", name := "fillInStackTrace", desc := "()Ljava/lang/Throwable;" } : MethodName)) ∈ zn_W := zn_in (i := 308) (by decide +kernel) (by decide +kernel)
theorem zn_w309 : (Cond.lays "java/lang/IllegalArgumentException" "java/lang/Throwable" "cause" "Ljava/lang/Throwable;") ∈ zn_W := zn_in (i := 309) (by decide +kernel) (by decide +kernel)
theorem zn_w310 : (Cond.lays "java/lang/Throwable" "java/lang/Throwable" "cause" "Ljava/lang/Throwable;") ∈ zn_W := zn_in (i := 310) (by decide +kernel) (by decide +kernel)
theorem zn_w311 : (Cond.lays "java/lang/IllegalArgumentException" "java/lang/Throwable" "stackTrace" "[Ljava/lang/StackTraceElement;") ∈ zn_W := zn_in (i := 311) (by decide +kernel) (by decide +kernel)
theorem zn_w312 : (Cond.lays "java/lang/Throwable" "java/lang/Throwable" "stackTrace" "[Ljava/lang/StackTraceElement;") ∈ zn_W := zn_in (i := 312) (by decide +kernel) (by decide +kernel)
theorem zn_w313 : (Cond.lays "java/lang/IllegalArgumentException" "java/lang/Throwable" "suppressedExceptions" "Ljava/util/List;") ∈ zn_W := zn_in (i := 313) (by decide +kernel) (by decide +kernel)
theorem zn_w314 : (Cond.lays "java/lang/Throwable" "java/lang/Throwable" "suppressedExceptions" "Ljava/util/List;") ∈ zn_W := zn_in (i := 314) (by decide +kernel) (by decide +kernel)
theorem zn_w315 : (Cond.lays "java/lang/IllegalArgumentException" "java/lang/Throwable" "detailMessage" "Ljava/lang/String;") ∈ zn_W := zn_in (i := 315) (by decide +kernel) (by decide +kernel)
theorem zn_w316 : (Cond.lays "java/lang/Throwable" "java/lang/Throwable" "detailMessage" "Ljava/lang/String;") ∈ zn_W := zn_in (i := 316) (by decide +kernel) (by decide +kernel)
theorem zn_w317 : (Cond.lays "java/lang/IllegalArgumentException" "java/lang/Throwable" "backtrace" "Ljava/lang/Object;") ∈ zn_W := zn_in (i := 317) (by decide +kernel) (by decide +kernel)
theorem zn_w318 : (Cond.lays "java/lang/Throwable" "java/lang/Throwable" "backtrace" "Ljava/lang/Object;") ∈ zn_W := zn_in (i := 318) (by decide +kernel) (by decide +kernel)
theorem zn_w319 : (Cond.fieldLink "java/lang/Throwable" (198 : Nat) "java/lang/Throwable" "backtrace" "Ljava/lang/Object;") ∈ zn_W := zn_in (i := 319) (by decide +kernel) (by decide +kernel)
theorem zn_w320 : (Cond.superclass "java/lang/Throwable" "java/lang/Object") ∈ zn_W := zn_in (i := 320) (by decide +kernel) (by decide +kernel)
theorem zn_w321 : (Cond.instanceMethod ({ cls := "java/lang/Throwable", name := "<init>", desc := "()V" } : MethodName)) ∈ zn_W := zn_in (i := 321) (by decide +kernel) (by decide +kernel)
theorem zn_w322 : (Cond.code ({ cls := "java/lang/Throwable", name := "<init>", desc := "()V" } : MethodName) prog_20_method_1_code (1 : Nat) (Option.none : Option FieldType)) ∈ zn_W := zn_in (i := 322) (by decide +kernel) (by decide +kernel)
theorem zn_w323 : (Cond.methodLink "java/lang/Throwable" (1 : Nat) ({ cls := "java/lang/Object", name := "<init>", desc := "()V" } : MethodName)) ∈ zn_W := zn_in (i := 323) (by decide +kernel) (by decide +kernel)
theorem zn_w324 : (Cond.fieldLink "java/lang/Throwable" (13 : Nat) "java/lang/Throwable" "UNASSIGNED_STACK" "[Ljava/lang/StackTraceElement;") ∈ zn_W := zn_in (i := 324) (by decide +kernel) (by decide +kernel)
theorem zn_w326 : (Cond.fieldLink "java/lang/Throwable" (20 : Nat) "java/lang/Throwable" "SUPPRESSED_SENTINEL" "Ljava/util/List;") ∈ zn_W := zn_in (i := 326) (by decide +kernel) (by decide +kernel)
theorem zn_w328 : (Cond.methodLink "java/lang/Throwable" (27 : Nat) ({ cls := "java/lang/Throwable", name := "fillInStackTrace", desc := "()Ljava/lang/Throwable;" } : MethodName)) ∈ zn_W := zn_in (i := 328) (by decide +kernel) (by decide +kernel)
theorem zn_w329 : (Cond.instanceMethod ({ cls := "java/lang/Throwable", name := "fillInStackTrace", desc := "()Ljava/lang/Throwable;" } : MethodName)) ∈ zn_W := zn_in (i := 329) (by decide +kernel) (by decide +kernel)
theorem zn_w331 : (Cond.selects "java/lang/IllegalStateException" ({ cls := "java/lang/Throwable", name := "fillInStackTrace", desc := "()Ljava/lang/Throwable;" } : MethodName) ({ cls := "java/lang/Throwable", name := "fillInStackTrace", desc := "()Ljava/lang/Throwable;" } : MethodName)) ∈ zn_W := zn_in (i := 331) (by decide +kernel) (by decide +kernel)
theorem zn_w332 : (Cond.selects "java/lang/IndexOutOfBoundsException" ({ cls := "java/lang/Throwable", name := "fillInStackTrace", desc := "()Ljava/lang/Throwable;" } : MethodName) ({ cls := "java/lang/Throwable", name := "fillInStackTrace", desc := "()Ljava/lang/Throwable;" } : MethodName)) ∈ zn_W := zn_in (i := 332) (by decide +kernel) (by decide +kernel)
theorem zn_w333 : (Cond.selects "java/util/NoSuchElementException" ({ cls := "java/lang/Throwable", name := "fillInStackTrace", desc := "()Ljava/lang/Throwable;" } : MethodName) ({ cls := "java/lang/Throwable", name := "fillInStackTrace", desc := "()Ljava/lang/Throwable;" } : MethodName)) ∈ zn_W := zn_in (i := 333) (by decide +kernel) (by decide +kernel)
theorem zn_w334 : (Cond.codeSync ({ cls := "java/lang/Throwable", name := "fillInStackTrace", desc := "()Ljava/lang/Throwable;" } : MethodName) prog_20_method_18_code (1 : Nat) (Option.some (FieldType.object "java/lang/Throwable"))) ∈ zn_W := zn_in (i := 334) (by decide +kernel) (by decide +kernel)
theorem zn_w335 : (Cond.methodLink "java/lang/Throwable" (202 : Nat) ({ cls := "java/lang/Throwable", name := "fillInStackTrace", desc := "(I)Ljava/lang/Throwable;" } : MethodName)) ∈ zn_W := zn_in (i := 335) (by decide +kernel) (by decide +kernel)
theorem zn_w337 : (Cond.instanceMethod ({ cls := "java/lang/Throwable", name := "fillInStackTrace", desc := "(I)Ljava/lang/Throwable;" } : MethodName)) ∈ zn_W := zn_in (i := 337) (by decide +kernel) (by decide +kernel)
theorem zn_w338 : (Cond.instantiable "java/lang/Throwable" (6 : Nat)) ∈ zn_W := zn_in (i := 338) (by decide +kernel) (by decide +kernel)
theorem zn_w339 : (Cond.native ({ cls := "java/lang/Throwable", name := "fillInStackTrace", desc := "(I)Ljava/lang/Throwable;" } : MethodName)) ∈ zn_W := zn_in (i := 339) (by decide +kernel) (by decide +kernel)
theorem zn_w340 : (Cond.methodLink "LogHouse" (151 : Nat) ({ cls := "java/lang/IllegalArgumentException", name := "<init>", desc := "()V" } : MethodName)) ∈ zn_W := zn_in (i := 340) (by decide +kernel) (by decide +kernel)
theorem zn_w341 : (Cond.instanceMethod ({ cls := "java/lang/IllegalArgumentException", name := "<init>", desc := "()V" } : MethodName)) ∈ zn_W := zn_in (i := 341) (by decide +kernel) (by decide +kernel)
theorem zn_w342 : (Cond.code ({ cls := "java/lang/IllegalArgumentException", name := "<init>", desc := "()V" } : MethodName) prog_14_method_1_code (1 : Nat) (Option.none : Option FieldType)) ∈ zn_W := zn_in (i := 342) (by decide +kernel) (by decide +kernel)
theorem zn_w343 : (Cond.methodLink "java/lang/IllegalArgumentException" (1 : Nat) ({ cls := "java/lang/RuntimeException", name := "<init>", desc := "()V" } : MethodName)) ∈ zn_W := zn_in (i := 343) (by decide +kernel) (by decide +kernel)
theorem zn_w344 : (Cond.instanceMethod ({ cls := "java/lang/RuntimeException", name := "<init>", desc := "()V" } : MethodName)) ∈ zn_W := zn_in (i := 344) (by decide +kernel) (by decide +kernel)
theorem zn_w345 : (Cond.code ({ cls := "java/lang/RuntimeException", name := "<init>", desc := "()V" } : MethodName) prog_19_method_1_code (1 : Nat) (Option.none : Option FieldType)) ∈ zn_W := zn_in (i := 345) (by decide +kernel) (by decide +kernel)
theorem zn_w346 : (Cond.methodLink "java/lang/RuntimeException" (1 : Nat) ({ cls := "java/lang/Exception", name := "<init>", desc := "()V" } : MethodName)) ∈ zn_W := zn_in (i := 346) (by decide +kernel) (by decide +kernel)
theorem zn_w347 : (Cond.instanceMethod ({ cls := "java/lang/Exception", name := "<init>", desc := "()V" } : MethodName)) ∈ zn_W := zn_in (i := 347) (by decide +kernel) (by decide +kernel)
theorem zn_w348 : (Cond.code ({ cls := "java/lang/Exception", name := "<init>", desc := "()V" } : MethodName) prog_13_method_1_code (1 : Nat) (Option.none : Option FieldType)) ∈ zn_W := zn_in (i := 348) (by decide +kernel) (by decide +kernel)
theorem zn_w349 : (Cond.methodLink "java/lang/Exception" (1 : Nat) ({ cls := "java/lang/Throwable", name := "<init>", desc := "()V" } : MethodName)) ∈ zn_W := zn_in (i := 349) (by decide +kernel) (by decide +kernel)
theorem zn_w350 : (Cond.fieldLink "java/lang/Throwable" (198 : Nat) "java/lang/Throwable" "backtrace" "Ljava/lang/Object;") ∈ zn_W := zn_in (i := 350) (by decide +kernel) (by decide +kernel)
theorem zn_w351 : (Cond.fieldLink "java/lang/Throwable" (7 : Nat) "java/lang/Throwable" "cause" "Ljava/lang/Throwable;") ∈ zn_W := zn_in (i := 351) (by decide +kernel) (by decide +kernel)
theorem zn_w352 : (Cond.fieldLink "java/lang/Throwable" (17 : Nat) "java/lang/Throwable" "stackTrace" "[Ljava/lang/StackTraceElement;") ∈ zn_W := zn_in (i := 352) (by decide +kernel) (by decide +kernel)
theorem zn_w353 : (Cond.fieldLink "java/lang/Throwable" (24 : Nat) "java/lang/Throwable" "suppressedExceptions" "Ljava/util/List;") ∈ zn_W := zn_in (i := 353) (by decide +kernel) (by decide +kernel)
theorem zn_w358 : (Cond.lays "java/lang/IllegalArgumentException" "java/lang/Throwable" "depth" "I") ∈ zn_W := zn_in (i := 358) (by decide +kernel) (by decide +kernel)
theorem zn_w361 : (Cond.superclass "java/lang/IllegalArgumentException" "java/lang/RuntimeException") ∈ zn_W := zn_in (i := 361) (by decide +kernel) (by decide +kernel)
theorem zn_w362 : (Cond.methodLink "LogHouse" (60 : Nat) ({ cls := "LogHouse", name := "highestPromised", desc := "()I" } : MethodName)) ∈ zn_W := zn_in (i := 362) (by decide +kernel) (by decide +kernel)
theorem zn_w364 : (Cond.instanceMethod ({ cls := "LogHouse", name := "highestPromised", desc := "()I" } : MethodName)) ∈ zn_W := zn_in (i := 364) (by decide +kernel) (by decide +kernel)
theorem zn_w365 : (Cond.code ({ cls := "LogHouse", name := "highestPromised", desc := "()I" } : MethodName) prog_1_method_25_code (3 : Nat) (Option.some FieldType.int)) ∈ zn_W := zn_in (i := 365) (by decide +kernel) (by decide +kernel)
theorem zn_w366 : (Cond.methodLink "LogHouse" (242 : Nat) ({ cls := "java/lang/Math", name := "max", desc := "(II)I" } : MethodName)) ∈ zn_W := zn_in (i := 366) (by decide +kernel) (by decide +kernel)
theorem zn_w367 : (Cond.static ({ cls := "java/lang/Math", name := "max", desc := "(II)I" } : MethodName)) ∈ zn_W := zn_in (i := 367) (by decide +kernel) (by decide +kernel)
theorem zn_w368 : (Cond.code ({ cls := "java/lang/Math", name := "max", desc := "(II)I" } : MethodName) prog_18_method_65_code (2 : Nat) (Option.some FieldType.int)) ∈ zn_W := zn_in (i := 368) (by decide +kernel) (by decide +kernel)
theorem zn_w369 : (Cond.methodLink "LogHouse" (64 : Nat) ({ cls := "LogHouse$Proposer", name := "begin", desc := "(I)V" } : MethodName)) ∈ zn_W := zn_in (i := 369) (by decide +kernel) (by decide +kernel)
theorem zn_w370 : (Cond.instanceMethod ({ cls := "LogHouse$Proposer", name := "begin", desc := "(I)V" } : MethodName)) ∈ zn_W := zn_in (i := 370) (by decide +kernel) (by decide +kernel)
theorem zn_w371 : (Cond.selects "LogHouse$Proposer" ({ cls := "LogHouse$Proposer", name := "begin", desc := "(I)V" } : MethodName) ({ cls := "LogHouse$Proposer", name := "begin", desc := "(I)V" } : MethodName)) ∈ zn_W := zn_in (i := 371) (by decide +kernel) (by decide +kernel)
theorem zn_w372 : (Cond.code ({ cls := "LogHouse$Proposer", name := "begin", desc := "(I)V" } : MethodName) prog_5_method_3_code (5 : Nat) (Option.none : Option FieldType)) ∈ zn_W := zn_in (i := 372) (by decide +kernel) (by decide +kernel)
theorem zn_w373 : (Cond.methodLink "LogHouse$Proposer" (42 : Nat) ({ cls := "java/lang/Math", name := "max", desc := "(II)I" } : MethodName)) ∈ zn_W := zn_in (i := 373) (by decide +kernel) (by decide +kernel)
theorem zn_w374 : (Cond.methodLink "LogHouse$Proposer" (51 : Nat) ({ cls := "LogHouse$Spot", name := "forget", desc := "()V" } : MethodName)) ∈ zn_W := zn_in (i := 374) (by decide +kernel) (by decide +kernel)
theorem zn_w375 : (Cond.instanceMethod ({ cls := "LogHouse$Spot", name := "forget", desc := "()V" } : MethodName)) ∈ zn_W := zn_in (i := 375) (by decide +kernel) (by decide +kernel)
theorem zn_w376 : (Cond.selects "LogHouse$Spot" ({ cls := "LogHouse$Spot", name := "forget", desc := "()V" } : MethodName) ({ cls := "LogHouse$Spot", name := "forget", desc := "()V" } : MethodName)) ∈ zn_W := zn_in (i := 376) (by decide +kernel) (by decide +kernel)
theorem zn_w377 : (Cond.code ({ cls := "LogHouse$Spot", name := "forget", desc := "()V" } : MethodName) prog_9_method_6_code (1 : Nat) (Option.none : Option FieldType)) ∈ zn_W := zn_in (i := 377) (by decide +kernel) (by decide +kernel)
theorem zn_w378 : (Cond.methodLink "LogHouse$Spot" (28 : Nat) ({ cls := "LogHouse$Spot", name := "proposeAs", desc := "(I)V" } : MethodName)) ∈ zn_W := zn_in (i := 378) (by decide +kernel) (by decide +kernel)
theorem zn_w379 : (Cond.instanceMethod ({ cls := "LogHouse$Spot", name := "proposeAs", desc := "(I)V" } : MethodName)) ∈ zn_W := zn_in (i := 379) (by decide +kernel) (by decide +kernel)
theorem zn_w380 : (Cond.selects "LogHouse$Spot" ({ cls := "LogHouse$Spot", name := "proposeAs", desc := "(I)V" } : MethodName) ({ cls := "LogHouse$Spot", name := "proposeAs", desc := "(I)V" } : MethodName)) ∈ zn_W := zn_in (i := 380) (by decide +kernel) (by decide +kernel)
theorem zn_w381 : (Cond.code ({ cls := "LogHouse$Spot", name := "proposeAs", desc := "(I)V" } : MethodName) prog_9_method_5_code (2 : Nat) (Option.none : Option FieldType)) ∈ zn_W := zn_in (i := 381) (by decide +kernel) (by decide +kernel)
theorem zn_w382 : (Cond.methodLink "LogHouse" (67 : Nat) ({ cls := "LogHouse", name := "sendPrepares", desc := "(LLogHouse$Proposer;)V" } : MethodName)) ∈ zn_W := zn_in (i := 382) (by decide +kernel) (by decide +kernel)
theorem zn_w384 : (Cond.instanceMethod ({ cls := "LogHouse", name := "sendPrepares", desc := "(LLogHouse$Proposer;)V" } : MethodName)) ∈ zn_W := zn_in (i := 384) (by decide +kernel) (by decide +kernel)
theorem zn_w385 : (Cond.code ({ cls := "LogHouse", name := "sendPrepares", desc := "(LLogHouse$Proposer;)V" } : MethodName) prog_1_method_26_code (3 : Nat) (Option.none : Option FieldType)) ∈ zn_W := zn_in (i := 385) (by decide +kernel) (by decide +kernel)
theorem zn_w386 : (Cond.methodLink "LogHouse" (247 : Nat) ({ cls := "LogHouse$Proposer", name := "hasPromiseOf", desc := "(I)Z" } : MethodName)) ∈ zn_W := zn_in (i := 386) (by decide +kernel) (by decide +kernel)
theorem zn_w387 : (Cond.instanceMethod ({ cls := "LogHouse$Proposer", name := "hasPromiseOf", desc := "(I)Z" } : MethodName)) ∈ zn_W := zn_in (i := 387) (by decide +kernel) (by decide +kernel)
theorem zn_w388 : (Cond.selects "LogHouse$Proposer" ({ cls := "LogHouse$Proposer", name := "hasPromiseOf", desc := "(I)Z" } : MethodName) ({ cls := "LogHouse$Proposer", name := "hasPromiseOf", desc := "(I)Z" } : MethodName)) ∈ zn_W := zn_in (i := 388) (by decide +kernel) (by decide +kernel)
theorem zn_w389 : (Cond.code ({ cls := "LogHouse$Proposer", name := "hasPromiseOf", desc := "(I)Z" } : MethodName) prog_5_method_6_code (2 : Nat) (Option.some FieldType.boolean)) ∈ zn_W := zn_in (i := 389) (by decide +kernel) (by decide +kernel)
theorem zn_w390 : (Cond.methodLink "LogHouse" (253 : Nat) ({ cls := "LogHouse$Row", name := "post", desc := "(IIII)LLogHouse$Letter;" } : MethodName)) ∈ zn_W := zn_in (i := 390) (by decide +kernel) (by decide +kernel)
theorem zn_w391 : (Cond.instanceMethod ({ cls := "LogHouse$Row", name := "post", desc := "(IIII)LLogHouse$Letter;" } : MethodName)) ∈ zn_W := zn_in (i := 391) (by decide +kernel) (by decide +kernel)
theorem zn_w392 : (Cond.selects "LogHouse$Row" ({ cls := "LogHouse$Row", name := "post", desc := "(IIII)LLogHouse$Letter;" } : MethodName) ({ cls := "LogHouse$Row", name := "post", desc := "(IIII)LLogHouse$Letter;" } : MethodName)) ∈ zn_W := zn_in (i := 392) (by decide +kernel) (by decide +kernel)
theorem zn_w393 : (Cond.code ({ cls := "LogHouse$Row", name := "post", desc := "(IIII)LLogHouse$Letter;" } : MethodName) prog_7_method_4_code (6 : Nat) (Option.some (FieldType.object "LogHouse$Letter"))) ∈ zn_W := zn_in (i := 393) (by decide +kernel) (by decide +kernel)
theorem zn_w394 : (Cond.methodLink "LogHouse$Row" (22 : Nat) ({ cls := "LogHouse$Row", name := "append", desc := "()LLogHouse$Letter;" } : MethodName)) ∈ zn_W := zn_in (i := 394) (by decide +kernel) (by decide +kernel)
theorem zn_w395 : (Cond.instanceMethod ({ cls := "LogHouse$Row", name := "append", desc := "()LLogHouse$Letter;" } : MethodName)) ∈ zn_W := zn_in (i := 395) (by decide +kernel) (by decide +kernel)
theorem zn_w396 : (Cond.selects "LogHouse$Row" ({ cls := "LogHouse$Row", name := "append", desc := "()LLogHouse$Letter;" } : MethodName) ({ cls := "LogHouse$Row", name := "append", desc := "()LLogHouse$Letter;" } : MethodName)) ∈ zn_W := zn_in (i := 396) (by decide +kernel) (by decide +kernel)
theorem zn_w397 : (Cond.code ({ cls := "LogHouse$Row", name := "append", desc := "()LLogHouse$Letter;" } : MethodName) prog_7_method_3_code (2 : Nat) (Option.some (FieldType.object "LogHouse$Letter"))) ∈ zn_W := zn_in (i := 397) (by decide +kernel) (by decide +kernel)
theorem zn_w398 : (Cond.methodLink "LogHouse$Row" (26 : Nat) ({ cls := "LogHouse$Letter", name := "address", desc := "(IIII)V" } : MethodName)) ∈ zn_W := zn_in (i := 398) (by decide +kernel) (by decide +kernel)
theorem zn_w399 : (Cond.instanceMethod ({ cls := "LogHouse$Letter", name := "address", desc := "(IIII)V" } : MethodName)) ∈ zn_W := zn_in (i := 399) (by decide +kernel) (by decide +kernel)
theorem zn_w400 : (Cond.selects "LogHouse$Letter" ({ cls := "LogHouse$Letter", name := "address", desc := "(IIII)V" } : MethodName) ({ cls := "LogHouse$Letter", name := "address", desc := "(IIII)V" } : MethodName)) ∈ zn_W := zn_in (i := 400) (by decide +kernel) (by decide +kernel)
theorem zn_w401 : (Cond.code ({ cls := "LogHouse$Letter", name := "address", desc := "(IIII)V" } : MethodName) prog_4_method_2_code (5 : Nat) (Option.none : Option FieldType)) ∈ zn_W := zn_in (i := 401) (by decide +kernel) (by decide +kernel)
theorem zn_w402 : (Cond.methodLink "LogHouseLaw" (89 : Nat) ({ cls := "LogHouseLaw", name := "propose", desc := "(LLogHouse;I[J)I" } : MethodName)) ∈ zn_W := zn_in (i := 402) (by decide +kernel) (by decide +kernel)
theorem zn_w403 : (Cond.static ({ cls := "LogHouseLaw", name := "propose", desc := "(LLogHouse;I[J)I" } : MethodName)) ∈ zn_W := zn_in (i := 403) (by decide +kernel) (by decide +kernel)
theorem zn_w404 : (Cond.codeWith ({ cls := "LogHouseLaw", name := "propose", desc := "(LLogHouse;I[J)I" } : MethodName) method_4_code (4 : Nat) (Option.some FieldType.int) [((0 : Nat), (9 : Nat), (12 : Nat), (13 : Nat)), ((0 : Nat), (9 : Nat), (15 : Nat), (18 : Nat))]) ∈ zn_W := zn_in (i := 404) (by decide +kernel) (by decide +kernel)
theorem zn_w405 : (Cond.classLink "LogHouseLaw" (18 : Nat) "java/lang/IllegalStateException") ∈ zn_W := zn_in (i := 405) (by decide +kernel) (by decide +kernel)
theorem zn_w406 : (Cond.methodLink "LogHouseLaw" (15 : Nat) ({ cls := "LogHouse", name := "propose", desc := "(I)I" } : MethodName)) ∈ zn_W := zn_in (i := 406) (by decide +kernel) (by decide +kernel)
theorem zn_w407 : (Cond.instanceMethod ({ cls := "LogHouse", name := "propose", desc := "(I)I" } : MethodName)) ∈ zn_W := zn_in (i := 407) (by decide +kernel) (by decide +kernel)
theorem zn_w408 : (Cond.selects "LogHouse" ({ cls := "LogHouse", name := "propose", desc := "(I)I" } : MethodName) ({ cls := "LogHouse", name := "propose", desc := "(I)I" } : MethodName)) ∈ zn_W := zn_in (i := 408) (by decide +kernel) (by decide +kernel)
theorem zn_w409 : (Cond.code ({ cls := "LogHouse", name := "propose", desc := "(I)I" } : MethodName) prog_1_method_4_code (4 : Nat) (Option.some FieldType.int)) ∈ zn_W := zn_in (i := 409) (by decide +kernel) (by decide +kernel)
theorem zn_w410 : (Cond.methodLink "LogHouse" (75 : Nat) ({ cls := "LogHouse$Proposer", name := "firstFree", desc := "()I" } : MethodName)) ∈ zn_W := zn_in (i := 410) (by decide +kernel) (by decide +kernel)
theorem zn_w411 : (Cond.instanceMethod ({ cls := "LogHouse$Proposer", name := "firstFree", desc := "()I" } : MethodName)) ∈ zn_W := zn_in (i := 411) (by decide +kernel) (by decide +kernel)
theorem zn_w412 : (Cond.selects "LogHouse$Proposer" ({ cls := "LogHouse$Proposer", name := "firstFree", desc := "()I" } : MethodName) ({ cls := "LogHouse$Proposer", name := "firstFree", desc := "()I" } : MethodName)) ∈ zn_W := zn_in (i := 412) (by decide +kernel) (by decide +kernel)
theorem zn_w413 : (Cond.code ({ cls := "LogHouse$Proposer", name := "firstFree", desc := "()I" } : MethodName) prog_5_method_4_code (2 : Nat) (Option.some FieldType.int)) ∈ zn_W := zn_in (i := 413) (by decide +kernel) (by decide +kernel)
theorem zn_w414 : (Cond.methodLink "LogHouse$Proposer" (54 : Nat) ({ cls := "LogHouse$Spot", name := "isOpen", desc := "()Z" } : MethodName)) ∈ zn_W := zn_in (i := 414) (by decide +kernel) (by decide +kernel)
theorem zn_w415 : (Cond.instanceMethod ({ cls := "LogHouse$Spot", name := "isOpen", desc := "()Z" } : MethodName)) ∈ zn_W := zn_in (i := 415) (by decide +kernel) (by decide +kernel)
theorem zn_w416 : (Cond.selects "LogHouse$Spot" ({ cls := "LogHouse$Spot", name := "isOpen", desc := "()Z" } : MethodName) ({ cls := "LogHouse$Spot", name := "isOpen", desc := "()Z" } : MethodName)) ∈ zn_W := zn_in (i := 416) (by decide +kernel) (by decide +kernel)
theorem zn_w417 : (Cond.code ({ cls := "LogHouse$Spot", name := "isOpen", desc := "()Z" } : MethodName) prog_9_method_2_code (1 : Nat) (Option.some FieldType.boolean)) ∈ zn_W := zn_in (i := 417) (by decide +kernel) (by decide +kernel)
theorem zn_w418 : (Cond.classLink "LogHouse" (81 : Nat) "java/lang/IllegalStateException") ∈ zn_W := zn_in (i := 418) (by decide +kernel) (by decide +kernel)
theorem zn_w419 : (Cond.instantiable "java/lang/IllegalStateException" (6 : Nat)) ∈ zn_W := zn_in (i := 419) (by decide +kernel) (by decide +kernel)
theorem zn_w421 : (Cond.selects "java/lang/IllegalStateException" ({ cls := "java/lang/Throwable", name := "fillInStackTrace", desc := "(I)Ljava/lang/Throwable;" } : MethodName) ({ cls := "java/lang/Throwable", name := "fillInStackTrace", desc := "(I)Ljava/lang/Throwable;" } : MethodName)) ∈ zn_W := zn_in (i := 421) (by decide +kernel) (by decide +kernel)
theorem zn_w422 : (Cond.lays "java/lang/IllegalStateException" "java/lang/Throwable" "cause" "Ljava/lang/Throwable;") ∈ zn_W := zn_in (i := 422) (by decide +kernel) (by decide +kernel)
theorem zn_w423 : (Cond.lays "java/lang/IllegalStateException" "java/lang/Throwable" "stackTrace" "[Ljava/lang/StackTraceElement;") ∈ zn_W := zn_in (i := 423) (by decide +kernel) (by decide +kernel)
theorem zn_w424 : (Cond.lays "java/lang/IllegalStateException" "java/lang/Throwable" "suppressedExceptions" "Ljava/util/List;") ∈ zn_W := zn_in (i := 424) (by decide +kernel) (by decide +kernel)
theorem zn_w425 : (Cond.lays "java/lang/IllegalStateException" "java/lang/Throwable" "detailMessage" "Ljava/lang/String;") ∈ zn_W := zn_in (i := 425) (by decide +kernel) (by decide +kernel)
theorem zn_w426 : (Cond.lays "java/lang/IllegalStateException" "java/lang/Throwable" "backtrace" "Ljava/lang/Object;") ∈ zn_W := zn_in (i := 426) (by decide +kernel) (by decide +kernel)
theorem zn_w427 : (Cond.methodLink "LogHouse" (83 : Nat) ({ cls := "java/lang/IllegalStateException", name := "<init>", desc := "()V" } : MethodName)) ∈ zn_W := zn_in (i := 427) (by decide +kernel) (by decide +kernel)
theorem zn_w428 : (Cond.instanceMethod ({ cls := "java/lang/IllegalStateException", name := "<init>", desc := "()V" } : MethodName)) ∈ zn_W := zn_in (i := 428) (by decide +kernel) (by decide +kernel)
theorem zn_w429 : (Cond.code ({ cls := "java/lang/IllegalStateException", name := "<init>", desc := "()V" } : MethodName) prog_15_method_1_code (1 : Nat) (Option.none : Option FieldType)) ∈ zn_W := zn_in (i := 429) (by decide +kernel) (by decide +kernel)
theorem zn_w430 : (Cond.methodLink "java/lang/IllegalStateException" (1 : Nat) ({ cls := "java/lang/RuntimeException", name := "<init>", desc := "()V" } : MethodName)) ∈ zn_W := zn_in (i := 430) (by decide +kernel) (by decide +kernel)
theorem zn_w431 : (Cond.lays "java/lang/IllegalStateException" "java/lang/Throwable" "depth" "I") ∈ zn_W := zn_in (i := 431) (by decide +kernel) (by decide +kernel)
theorem zn_w432 : (Cond.superclass "java/lang/IllegalStateException" "java/lang/RuntimeException") ∈ zn_W := zn_in (i := 432) (by decide +kernel) (by decide +kernel)
theorem zn_w433 : (Cond.methodLink "LogHouse" (84 : Nat) ({ cls := "LogHouse$Proposer", name := "proposeDraft", desc := "(I)V" } : MethodName)) ∈ zn_W := zn_in (i := 433) (by decide +kernel) (by decide +kernel)
theorem zn_w434 : (Cond.instanceMethod ({ cls := "LogHouse$Proposer", name := "proposeDraft", desc := "(I)V" } : MethodName)) ∈ zn_W := zn_in (i := 434) (by decide +kernel) (by decide +kernel)
theorem zn_w435 : (Cond.selects "LogHouse$Proposer" ({ cls := "LogHouse$Proposer", name := "proposeDraft", desc := "(I)V" } : MethodName) ({ cls := "LogHouse$Proposer", name := "proposeDraft", desc := "(I)V" } : MethodName)) ∈ zn_W := zn_in (i := 435) (by decide +kernel) (by decide +kernel)
theorem zn_w436 : (Cond.code ({ cls := "LogHouse$Proposer", name := "proposeDraft", desc := "(I)V" } : MethodName) prog_5_method_5_code (2 : Nat) (Option.none : Option FieldType)) ∈ zn_W := zn_in (i := 436) (by decide +kernel) (by decide +kernel)
theorem zn_w437 : (Cond.methodLink "LogHouse$Proposer" (58 : Nat) ({ cls := "LogHouse$Spot", name := "proposeAs", desc := "(I)V" } : MethodName)) ∈ zn_W := zn_in (i := 437) (by decide +kernel) (by decide +kernel)
theorem zn_w438 : (Cond.methodLink "LogHouse$Proposer" (66 : Nat) ({ cls := "LogHouse$Report", name := "cut", desc := "([BI)V" } : MethodName)) ∈ zn_W := zn_in (i := 438) (by decide +kernel) (by decide +kernel)
theorem zn_w439 : (Cond.instanceMethod ({ cls := "LogHouse$Report", name := "cut", desc := "([BI)V" } : MethodName)) ∈ zn_W := zn_in (i := 439) (by decide +kernel) (by decide +kernel)
theorem zn_w440 : (Cond.selects "LogHouse$Report" ({ cls := "LogHouse$Report", name := "cut", desc := "([BI)V" } : MethodName) ({ cls := "LogHouse$Report", name := "cut", desc := "([BI)V" } : MethodName)) ∈ zn_W := zn_in (i := 440) (by decide +kernel) (by decide +kernel)
theorem zn_w441 : (Cond.code ({ cls := "LogHouse$Report", name := "cut", desc := "([BI)V" } : MethodName) prog_6_method_4_code (5 : Nat) (Option.none : Option FieldType)) ∈ zn_W := zn_in (i := 441) (by decide +kernel) (by decide +kernel)
theorem zn_w442 : (Cond.methodLink "LogHouse$Report" (19 : Nat) ({ cls := "LogHouse$Report", name := "clearPieces", desc := "()V" } : MethodName)) ∈ zn_W := zn_in (i := 442) (by decide +kernel) (by decide +kernel)
theorem zn_w443 : (Cond.instanceMethod ({ cls := "LogHouse$Report", name := "clearPieces", desc := "()V" } : MethodName)) ∈ zn_W := zn_in (i := 443) (by decide +kernel) (by decide +kernel)
theorem zn_w444 : (Cond.selects "LogHouse$Report" ({ cls := "LogHouse$Report", name := "clearPieces", desc := "()V" } : MethodName) ({ cls := "LogHouse$Report", name := "clearPieces", desc := "()V" } : MethodName)) ∈ zn_W := zn_in (i := 444) (by decide +kernel) (by decide +kernel)
theorem zn_w445 : (Cond.code ({ cls := "LogHouse$Report", name := "clearPieces", desc := "()V" } : MethodName) prog_6_method_5_code (2 : Nat) (Option.none : Option FieldType)) ∈ zn_W := zn_in (i := 445) (by decide +kernel) (by decide +kernel)
theorem zn_w446 : (Cond.methodLink "LogHouse$Report" (22 : Nat) ({ cls := "LogHouse$Report", name := "third", desc := "(I)I" } : MethodName)) ∈ zn_W := zn_in (i := 446) (by decide +kernel) (by decide +kernel)
theorem zn_w447 : (Cond.static ({ cls := "LogHouse$Report", name := "third", desc := "(I)I" } : MethodName)) ∈ zn_W := zn_in (i := 447) (by decide +kernel) (by decide +kernel)
theorem zn_w448 : (Cond.code ({ cls := "LogHouse$Report", name := "third", desc := "(I)I" } : MethodName) prog_6_method_2_code (1 : Nat) (Option.some FieldType.int)) ∈ zn_W := zn_in (i := 448) (by decide +kernel) (by decide +kernel)
theorem zn_w449 : (Cond.methodLink "LogHouse$Report" (26 : Nat) ({ cls := "java/lang/Math", name := "max", desc := "(II)I" } : MethodName)) ∈ zn_W := zn_in (i := 449) (by decide +kernel) (by decide +kernel)
theorem zn_w450 : (Cond.constantLong "LogHouse$Report" (32 : Nat) (255 : Int64)) ∈ zn_W := zn_in (i := 450) (by decide +kernel) (by decide +kernel)
theorem zn_w451 : (Cond.methodLink "LogHouse" (87 : Nat) ({ cls := "LogHouse", name := "sendAccepts", desc := "(LLogHouse$Proposer;I)V" } : MethodName)) ∈ zn_W := zn_in (i := 451) (by decide +kernel) (by decide +kernel)
theorem zn_w453 : (Cond.instanceMethod ({ cls := "LogHouse", name := "sendAccepts", desc := "(LLogHouse$Proposer;I)V" } : MethodName)) ∈ zn_W := zn_in (i := 453) (by decide +kernel) (by decide +kernel)
theorem zn_w454 : (Cond.code ({ cls := "LogHouse", name := "sendAccepts", desc := "(LLogHouse$Proposer;I)V" } : MethodName) prog_1_method_28_code (6 : Nat) (Option.none : Option FieldType)) ∈ zn_W := zn_in (i := 454) (by decide +kernel) (by decide +kernel)
theorem zn_w455 : (Cond.methodLink "LogHouse" (261 : Nat) ({ cls := "LogHouse$Spot", name := "hasAnswerOf", desc := "(I)Z" } : MethodName)) ∈ zn_W := zn_in (i := 455) (by decide +kernel) (by decide +kernel)
theorem zn_w456 : (Cond.instanceMethod ({ cls := "LogHouse$Spot", name := "hasAnswerOf", desc := "(I)Z" } : MethodName)) ∈ zn_W := zn_in (i := 456) (by decide +kernel) (by decide +kernel)
theorem zn_w457 : (Cond.selects "LogHouse$Spot" ({ cls := "LogHouse$Spot", name := "hasAnswerOf", desc := "(I)Z" } : MethodName) ({ cls := "LogHouse$Spot", name := "hasAnswerOf", desc := "(I)Z" } : MethodName)) ∈ zn_W := zn_in (i := 457) (by decide +kernel) (by decide +kernel)
theorem zn_w458 : (Cond.code ({ cls := "LogHouse$Spot", name := "hasAnswerOf", desc := "(I)Z" } : MethodName) prog_9_method_4_code (2 : Nat) (Option.some FieldType.boolean)) ∈ zn_W := zn_in (i := 458) (by decide +kernel) (by decide +kernel)
theorem zn_w459 : (Cond.methodLink "LogHouse" (267 : Nat) ({ cls := "LogHouse$Letter", name := "aboutPlace", desc := "(II)V" } : MethodName)) ∈ zn_W := zn_in (i := 459) (by decide +kernel) (by decide +kernel)
theorem zn_w460 : (Cond.instanceMethod ({ cls := "LogHouse$Letter", name := "aboutPlace", desc := "(II)V" } : MethodName)) ∈ zn_W := zn_in (i := 460) (by decide +kernel) (by decide +kernel)
theorem zn_w461 : (Cond.selects "LogHouse$Letter" ({ cls := "LogHouse$Letter", name := "aboutPlace", desc := "(II)V" } : MethodName) ({ cls := "LogHouse$Letter", name := "aboutPlace", desc := "(II)V" } : MethodName)) ∈ zn_W := zn_in (i := 461) (by decide +kernel) (by decide +kernel)
theorem zn_w462 : (Cond.code ({ cls := "LogHouse$Letter", name := "aboutPlace", desc := "(II)V" } : MethodName) prog_4_method_3_code (3 : Nat) (Option.none : Option FieldType)) ∈ zn_W := zn_in (i := 462) (by decide +kernel) (by decide +kernel)
theorem zn_w463 : (Cond.methodLink "LogHouse" (193 : Nat) ({ cls := "LogHouse$Report", name := "shareOf", desc := "(I)J" } : MethodName)) ∈ zn_W := zn_in (i := 463) (by decide +kernel) (by decide +kernel)
theorem zn_w464 : (Cond.instanceMethod ({ cls := "LogHouse$Report", name := "shareOf", desc := "(I)J" } : MethodName)) ∈ zn_W := zn_in (i := 464) (by decide +kernel) (by decide +kernel)
theorem zn_w465 : (Cond.selects "LogHouse$Report" ({ cls := "LogHouse$Report", name := "shareOf", desc := "(I)J" } : MethodName) ({ cls := "LogHouse$Report", name := "shareOf", desc := "(I)J" } : MethodName)) ∈ zn_W := zn_in (i := 465) (by decide +kernel) (by decide +kernel)
theorem zn_w466 : (Cond.code ({ cls := "LogHouse$Report", name := "shareOf", desc := "(I)J" } : MethodName) prog_6_method_7_code (6 : Nat) (Option.some FieldType.long)) ∈ zn_W := zn_in (i := 466) (by decide +kernel) (by decide +kernel)
theorem zn_w467 : (Cond.methodLink "LogHouse$Report" (34 : Nat) ({ cls := "LogHouse$Report", name := "pointOf", desc := "(I)I" } : MethodName)) ∈ zn_W := zn_in (i := 467) (by decide +kernel) (by decide +kernel)
theorem zn_w468 : (Cond.static ({ cls := "LogHouse$Report", name := "pointOf", desc := "(I)I" } : MethodName)) ∈ zn_W := zn_in (i := 468) (by decide +kernel) (by decide +kernel)
theorem zn_w469 : (Cond.code ({ cls := "LogHouse$Report", name := "pointOf", desc := "(I)I" } : MethodName) prog_6_method_3_code (1 : Nat) (Option.some FieldType.int)) ∈ zn_W := zn_in (i := 469) (by decide +kernel) (by decide +kernel)
theorem zn_w470 : (Cond.methodLink "LogHouse$Report" (37 : Nat) ({ cls := "LogHouse$Field", name := "times", desc := "(JI)J" } : MethodName)) ∈ zn_W := zn_in (i := 470) (by decide +kernel) (by decide +kernel)
theorem zn_w471 : (Cond.static ({ cls := "LogHouse$Field", name := "times", desc := "(JI)J" } : MethodName)) ∈ zn_W := zn_in (i := 471) (by decide +kernel) (by decide +kernel)
theorem zn_w472 : (Cond.code ({ cls := "LogHouse$Field", name := "times", desc := "(JI)J" } : MethodName) prog_2_method_2_code (8 : Nat) (Option.some FieldType.long)) ∈ zn_W := zn_in (i := 472) (by decide +kernel) (by decide +kernel)
theorem zn_w473 : (Cond.constantLong "LogHouse$Field" (9 : Nat) (9187201950435737471 : Int64)) ∈ zn_W := zn_in (i := 473) (by decide +kernel) (by decide +kernel)
theorem zn_w474 : (Cond.constantLong "LogHouse$Field" (11 : Nat) (72340172838076673 : Int64)) ∈ zn_W := zn_in (i := 474) (by decide +kernel) (by decide +kernel)
theorem zn_w475 : (Cond.constantLong "LogHouse$Field" (13 : Nat) (27 : Int64)) ∈ zn_W := zn_in (i := 475) (by decide +kernel) (by decide +kernel)
theorem zn_w476 : (Cond.methodLink "LogHouseLaw" (92 : Nat) ({ cls := "LogHouseLaw", name := "resend", desc := "(LLogHouse;I[J)I" } : MethodName)) ∈ zn_W := zn_in (i := 476) (by decide +kernel) (by decide +kernel)
theorem zn_w477 : (Cond.static ({ cls := "LogHouseLaw", name := "resend", desc := "(LLogHouse;I[J)I" } : MethodName)) ∈ zn_W := zn_in (i := 477) (by decide +kernel) (by decide +kernel)
theorem zn_w478 : (Cond.codeWith ({ cls := "LogHouseLaw", name := "resend", desc := "(LLogHouse;I[J)I" } : MethodName) method_5_code (4 : Nat) (Option.some FieldType.int) [((0 : Nat), (9 : Nat), (12 : Nat), (13 : Nat))]) ∈ zn_W := zn_in (i := 478) (by decide +kernel) (by decide +kernel)
theorem zn_w479 : (Cond.methodLink "LogHouseLaw" (20 : Nat) ({ cls := "LogHouse", name := "resend", desc := "(I)I" } : MethodName)) ∈ zn_W := zn_in (i := 479) (by decide +kernel) (by decide +kernel)
theorem zn_w480 : (Cond.instanceMethod ({ cls := "LogHouse", name := "resend", desc := "(I)I" } : MethodName)) ∈ zn_W := zn_in (i := 480) (by decide +kernel) (by decide +kernel)
theorem zn_w481 : (Cond.selects "LogHouse" ({ cls := "LogHouse", name := "resend", desc := "(I)I" } : MethodName) ({ cls := "LogHouse", name := "resend", desc := "(I)I" } : MethodName)) ∈ zn_W := zn_in (i := 481) (by decide +kernel) (by decide +kernel)
theorem zn_w482 : (Cond.code ({ cls := "LogHouse", name := "resend", desc := "(I)I" } : MethodName) prog_1_method_5_code (4 : Nat) (Option.some FieldType.int)) ∈ zn_W := zn_in (i := 482) (by decide +kernel) (by decide +kernel)
theorem zn_w483 : (Cond.methodLink "LogHouse" (97 : Nat) ({ cls := "LogHouse", name := "sendAllAccepts", desc := "(LLogHouse$Proposer;)V" } : MethodName)) ∈ zn_W := zn_in (i := 483) (by decide +kernel) (by decide +kernel)
theorem zn_w485 : (Cond.instanceMethod ({ cls := "LogHouse", name := "sendAllAccepts", desc := "(LLogHouse$Proposer;)V" } : MethodName)) ∈ zn_W := zn_in (i := 485) (by decide +kernel) (by decide +kernel)
theorem zn_w486 : (Cond.code ({ cls := "LogHouse", name := "sendAllAccepts", desc := "(LLogHouse$Proposer;)V" } : MethodName) prog_1_method_27_code (3 : Nat) (Option.none : Option FieldType)) ∈ zn_W := zn_in (i := 486) (by decide +kernel) (by decide +kernel)
theorem zn_w487 : (Cond.methodLink "LogHouse" (257 : Nat) ({ cls := "LogHouse$Spot", name := "isWaiting", desc := "()Z" } : MethodName)) ∈ zn_W := zn_in (i := 487) (by decide +kernel) (by decide +kernel)
theorem zn_w488 : (Cond.instanceMethod ({ cls := "LogHouse$Spot", name := "isWaiting", desc := "()Z" } : MethodName)) ∈ zn_W := zn_in (i := 488) (by decide +kernel) (by decide +kernel)
theorem zn_w489 : (Cond.selects "LogHouse$Spot" ({ cls := "LogHouse$Spot", name := "isWaiting", desc := "()Z" } : MethodName) ({ cls := "LogHouse$Spot", name := "isWaiting", desc := "()Z" } : MethodName)) ∈ zn_W := zn_in (i := 489) (by decide +kernel) (by decide +kernel)
theorem zn_w490 : (Cond.code ({ cls := "LogHouse$Spot", name := "isWaiting", desc := "()Z" } : MethodName) prog_9_method_3_code (1 : Nat) (Option.some FieldType.boolean)) ∈ zn_W := zn_in (i := 490) (by decide +kernel) (by decide +kernel)
theorem zn_w491 : (Cond.methodLink "LogHouseLaw" (95 : Nat) ({ cls := "LogHouseLaw", name := "deliver", desc := "(LLogHouse;I[J)I" } : MethodName)) ∈ zn_W := zn_in (i := 491) (by decide +kernel) (by decide +kernel)
theorem zn_w492 : (Cond.static ({ cls := "LogHouseLaw", name := "deliver", desc := "(LLogHouse;I[J)I" } : MethodName)) ∈ zn_W := zn_in (i := 492) (by decide +kernel) (by decide +kernel)
theorem zn_w493 : (Cond.codeWith ({ cls := "LogHouseLaw", name := "deliver", desc := "(LLogHouse;I[J)I" } : MethodName) method_6_code (4 : Nat) (Option.some FieldType.int) [((0 : Nat), (9 : Nat), (12 : Nat), (26 : Nat))]) ∈ zn_W := zn_in (i := 493) (by decide +kernel) (by decide +kernel)
theorem zn_w494 : (Cond.classLink "LogHouseLaw" (26 : Nat) "java/lang/IndexOutOfBoundsException") ∈ zn_W := zn_in (i := 494) (by decide +kernel) (by decide +kernel)
theorem zn_w495 : (Cond.methodLink "LogHouseLaw" (23 : Nat) ({ cls := "LogHouse", name := "deliver", desc := "(I)I" } : MethodName)) ∈ zn_W := zn_in (i := 495) (by decide +kernel) (by decide +kernel)
theorem zn_w496 : (Cond.instanceMethod ({ cls := "LogHouse", name := "deliver", desc := "(I)I" } : MethodName)) ∈ zn_W := zn_in (i := 496) (by decide +kernel) (by decide +kernel)
theorem zn_w497 : (Cond.selects "LogHouse" ({ cls := "LogHouse", name := "deliver", desc := "(I)I" } : MethodName) ({ cls := "LogHouse", name := "deliver", desc := "(I)I" } : MethodName)) ∈ zn_W := zn_in (i := 497) (by decide +kernel) (by decide +kernel)
theorem zn_w498 : (Cond.code ({ cls := "LogHouse", name := "deliver", desc := "(I)I" } : MethodName) prog_1_method_6_code (4 : Nat) (Option.some FieldType.int)) ∈ zn_W := zn_in (i := 498) (by decide +kernel) (by decide +kernel)
theorem zn_w499 : (Cond.methodLink "LogHouse" (100 : Nat) ({ cls := "LogHouse", name := "checkLetter", desc := "(I)V" } : MethodName)) ∈ zn_W := zn_in (i := 499) (by decide +kernel) (by decide +kernel)
theorem zn_w501 : (Cond.instanceMethod ({ cls := "LogHouse", name := "checkLetter", desc := "(I)V" } : MethodName)) ∈ zn_W := zn_in (i := 501) (by decide +kernel) (by decide +kernel)
theorem zn_w502 : (Cond.code ({ cls := "LogHouse", name := "checkLetter", desc := "(I)V" } : MethodName) prog_1_method_24_code (2 : Nat) (Option.none : Option FieldType)) ∈ zn_W := zn_in (i := 502) (by decide +kernel) (by decide +kernel)
theorem zn_w503 : (Cond.classLink "LogHouse" (207 : Nat) "java/lang/IndexOutOfBoundsException") ∈ zn_W := zn_in (i := 503) (by decide +kernel) (by decide +kernel)
theorem zn_w504 : (Cond.instantiable "java/lang/IndexOutOfBoundsException" (6 : Nat)) ∈ zn_W := zn_in (i := 504) (by decide +kernel) (by decide +kernel)
theorem zn_w506 : (Cond.selects "java/lang/IndexOutOfBoundsException" ({ cls := "java/lang/Throwable", name := "fillInStackTrace", desc := "(I)Ljava/lang/Throwable;" } : MethodName) ({ cls := "java/lang/Throwable", name := "fillInStackTrace", desc := "(I)Ljava/lang/Throwable;" } : MethodName)) ∈ zn_W := zn_in (i := 506) (by decide +kernel) (by decide +kernel)
theorem zn_w507 : (Cond.lays "java/lang/IndexOutOfBoundsException" "java/lang/Throwable" "cause" "Ljava/lang/Throwable;") ∈ zn_W := zn_in (i := 507) (by decide +kernel) (by decide +kernel)
theorem zn_w508 : (Cond.lays "java/lang/IndexOutOfBoundsException" "java/lang/Throwable" "stackTrace" "[Ljava/lang/StackTraceElement;") ∈ zn_W := zn_in (i := 508) (by decide +kernel) (by decide +kernel)
theorem zn_w509 : (Cond.lays "java/lang/IndexOutOfBoundsException" "java/lang/Throwable" "suppressedExceptions" "Ljava/util/List;") ∈ zn_W := zn_in (i := 509) (by decide +kernel) (by decide +kernel)
theorem zn_w510 : (Cond.lays "java/lang/IndexOutOfBoundsException" "java/lang/Throwable" "detailMessage" "Ljava/lang/String;") ∈ zn_W := zn_in (i := 510) (by decide +kernel) (by decide +kernel)
theorem zn_w511 : (Cond.lays "java/lang/IndexOutOfBoundsException" "java/lang/Throwable" "backtrace" "Ljava/lang/Object;") ∈ zn_W := zn_in (i := 511) (by decide +kernel) (by decide +kernel)
theorem zn_w512 : (Cond.methodLink "LogHouse" (209 : Nat) ({ cls := "java/lang/IndexOutOfBoundsException", name := "<init>", desc := "()V" } : MethodName)) ∈ zn_W := zn_in (i := 512) (by decide +kernel) (by decide +kernel)
theorem zn_w513 : (Cond.instanceMethod ({ cls := "java/lang/IndexOutOfBoundsException", name := "<init>", desc := "()V" } : MethodName)) ∈ zn_W := zn_in (i := 513) (by decide +kernel) (by decide +kernel)
theorem zn_w514 : (Cond.code ({ cls := "java/lang/IndexOutOfBoundsException", name := "<init>", desc := "()V" } : MethodName) prog_16_method_1_code (1 : Nat) (Option.none : Option FieldType)) ∈ zn_W := zn_in (i := 514) (by decide +kernel) (by decide +kernel)
theorem zn_w515 : (Cond.methodLink "java/lang/IndexOutOfBoundsException" (1 : Nat) ({ cls := "java/lang/RuntimeException", name := "<init>", desc := "()V" } : MethodName)) ∈ zn_W := zn_in (i := 515) (by decide +kernel) (by decide +kernel)
theorem zn_w516 : (Cond.lays "java/lang/IndexOutOfBoundsException" "java/lang/Throwable" "depth" "I") ∈ zn_W := zn_in (i := 516) (by decide +kernel) (by decide +kernel)
theorem zn_w517 : (Cond.superclass "java/lang/IndexOutOfBoundsException" "java/lang/RuntimeException") ∈ zn_W := zn_in (i := 517) (by decide +kernel) (by decide +kernel)
theorem zn_w518 : (Cond.methodLink "LogHouse" (103 : Nat) ({ cls := "LogHouse$Row", name := "take", desc := "(I)LLogHouse$Letter;" } : MethodName)) ∈ zn_W := zn_in (i := 518) (by decide +kernel) (by decide +kernel)
theorem zn_w519 : (Cond.instanceMethod ({ cls := "LogHouse$Row", name := "take", desc := "(I)LLogHouse$Letter;" } : MethodName)) ∈ zn_W := zn_in (i := 519) (by decide +kernel) (by decide +kernel)
theorem zn_w520 : (Cond.selects "LogHouse$Row" ({ cls := "LogHouse$Row", name := "take", desc := "(I)LLogHouse$Letter;" } : MethodName) ({ cls := "LogHouse$Row", name := "take", desc := "(I)LLogHouse$Letter;" } : MethodName)) ∈ zn_W := zn_in (i := 520) (by decide +kernel) (by decide +kernel)
theorem zn_w521 : (Cond.code ({ cls := "LogHouse$Row", name := "take", desc := "(I)LLogHouse$Letter;" } : MethodName) prog_7_method_2_code (4 : Nat) (Option.some (FieldType.object "LogHouse$Letter"))) ∈ zn_W := zn_in (i := 521) (by decide +kernel) (by decide +kernel)
theorem zn_w522 : (Cond.methodLink "LogHouse" (112 : Nat) ({ cls := "LogHouse", name := "bringPrepare", desc := "(LLogHouse$Letter;)V" } : MethodName)) ∈ zn_W := zn_in (i := 522) (by decide +kernel) (by decide +kernel)
theorem zn_w524 : (Cond.instanceMethod ({ cls := "LogHouse", name := "bringPrepare", desc := "(LLogHouse$Letter;)V" } : MethodName)) ∈ zn_W := zn_in (i := 524) (by decide +kernel) (by decide +kernel)
theorem zn_w525 : (Cond.code ({ cls := "LogHouse", name := "bringPrepare", desc := "(LLogHouse$Letter;)V" } : MethodName) prog_1_method_29_code (4 : Nat) (Option.none : Option FieldType)) ∈ zn_W := zn_in (i := 525) (by decide +kernel) (by decide +kernel)
theorem zn_w526 : (Cond.methodLink "LogHouse" (279 : Nat) ({ cls := "LogHouse$Station", name := "heeds", desc := "(I)Z" } : MethodName)) ∈ zn_W := zn_in (i := 526) (by decide +kernel) (by decide +kernel)
theorem zn_w527 : (Cond.instanceMethod ({ cls := "LogHouse$Station", name := "heeds", desc := "(I)Z" } : MethodName)) ∈ zn_W := zn_in (i := 527) (by decide +kernel) (by decide +kernel)
theorem zn_w528 : (Cond.selects "LogHouse$Station" ({ cls := "LogHouse$Station", name := "heeds", desc := "(I)Z" } : MethodName) ({ cls := "LogHouse$Station", name := "heeds", desc := "(I)Z" } : MethodName)) ∈ zn_W := zn_in (i := 528) (by decide +kernel) (by decide +kernel)
theorem zn_w529 : (Cond.code ({ cls := "LogHouse$Station", name := "heeds", desc := "(I)Z" } : MethodName) prog_10_method_2_code (2 : Nat) (Option.some FieldType.boolean)) ∈ zn_W := zn_in (i := 529) (by decide +kernel) (by decide +kernel)
theorem zn_w530 : (Cond.methodLink "LogHouse" (283 : Nat) ({ cls := "LogHouse$Shelf", name := "copyFrom", desc := "(LLogHouse$Shelf;)V" } : MethodName)) ∈ zn_W := zn_in (i := 530) (by decide +kernel) (by decide +kernel)
theorem zn_w531 : (Cond.instanceMethod ({ cls := "LogHouse$Shelf", name := "copyFrom", desc := "(LLogHouse$Shelf;)V" } : MethodName)) ∈ zn_W := zn_in (i := 531) (by decide +kernel) (by decide +kernel)
theorem zn_w532 : (Cond.selects "LogHouse$Shelf" ({ cls := "LogHouse$Shelf", name := "copyFrom", desc := "(LLogHouse$Shelf;)V" } : MethodName) ({ cls := "LogHouse$Shelf", name := "copyFrom", desc := "(LLogHouse$Shelf;)V" } : MethodName)) ∈ zn_W := zn_in (i := 532) (by decide +kernel) (by decide +kernel)
theorem zn_w533 : (Cond.code ({ cls := "LogHouse$Shelf", name := "copyFrom", desc := "(LLogHouse$Shelf;)V" } : MethodName) prog_8_method_5_code (3 : Nat) (Option.none : Option FieldType)) ∈ zn_W := zn_in (i := 533) (by decide +kernel) (by decide +kernel)
theorem zn_w534 : (Cond.methodLink "LogHouse$Shelf" (25 : Nat) ({ cls := "LogHouse$Shelf", name := "put", desc := "(IIIIJ)V" } : MethodName)) ∈ zn_W := zn_in (i := 534) (by decide +kernel) (by decide +kernel)
theorem zn_w535 : (Cond.instanceMethod ({ cls := "LogHouse$Shelf", name := "put", desc := "(IIIIJ)V" } : MethodName)) ∈ zn_W := zn_in (i := 535) (by decide +kernel) (by decide +kernel)
theorem zn_w536 : (Cond.selects "LogHouse$Shelf" ({ cls := "LogHouse$Shelf", name := "put", desc := "(IIIIJ)V" } : MethodName) ({ cls := "LogHouse$Shelf", name := "put", desc := "(IIIIJ)V" } : MethodName)) ∈ zn_W := zn_in (i := 536) (by decide +kernel) (by decide +kernel)
theorem zn_w537 : (Cond.code ({ cls := "LogHouse$Shelf", name := "put", desc := "(IIIIJ)V" } : MethodName) prog_8_method_3_code (7 : Nat) (Option.none : Option FieldType)) ∈ zn_W := zn_in (i := 537) (by decide +kernel) (by decide +kernel)
theorem zn_w538 : (Cond.methodLink "LogHouse" (116 : Nat) ({ cls := "LogHouse", name := "bringPromise", desc := "(LLogHouse$Letter;)V" } : MethodName)) ∈ zn_W := zn_in (i := 538) (by decide +kernel) (by decide +kernel)
theorem zn_w540 : (Cond.instanceMethod ({ cls := "LogHouse", name := "bringPromise", desc := "(LLogHouse$Letter;)V" } : MethodName)) ∈ zn_W := zn_in (i := 540) (by decide +kernel) (by decide +kernel)
theorem zn_w541 : (Cond.code ({ cls := "LogHouse", name := "bringPromise", desc := "(LLogHouse$Letter;)V" } : MethodName) prog_1_method_30_code (3 : Nat) (Option.none : Option FieldType)) ∈ zn_W := zn_in (i := 541) (by decide +kernel) (by decide +kernel)
theorem zn_w542 : (Cond.methodLink "LogHouse" (286 : Nat) ({ cls := "LogHouse$Proposer", name := "hearPromise", desc := "(LLogHouse$Letter;)V" } : MethodName)) ∈ zn_W := zn_in (i := 542) (by decide +kernel) (by decide +kernel)
theorem zn_w543 : (Cond.instanceMethod ({ cls := "LogHouse$Proposer", name := "hearPromise", desc := "(LLogHouse$Letter;)V" } : MethodName)) ∈ zn_W := zn_in (i := 543) (by decide +kernel) (by decide +kernel)
theorem zn_w544 : (Cond.selects "LogHouse$Proposer" ({ cls := "LogHouse$Proposer", name := "hearPromise", desc := "(LLogHouse$Letter;)V" } : MethodName) ({ cls := "LogHouse$Proposer", name := "hearPromise", desc := "(LLogHouse$Letter;)V" } : MethodName)) ∈ zn_W := zn_in (i := 544) (by decide +kernel) (by decide +kernel)
theorem zn_w545 : (Cond.code ({ cls := "LogHouse$Proposer", name := "hearPromise", desc := "(LLogHouse$Letter;)V" } : MethodName) prog_5_method_7_code (2 : Nat) (Option.none : Option FieldType)) ∈ zn_W := zn_in (i := 545) (by decide +kernel) (by decide +kernel)
theorem zn_w546 : (Cond.methodLink "LogHouse$Proposer" (78 : Nat) ({ cls := "LogHouse$Proposer", name := "hasPromiseOf", desc := "(I)Z" } : MethodName)) ∈ zn_W := zn_in (i := 546) (by decide +kernel) (by decide +kernel)
theorem zn_w547 : (Cond.methodLink "LogHouse$Proposer" (86 : Nat) ({ cls := "LogHouse$Shelf", name := "copyFrom", desc := "(LLogHouse$Shelf;)V" } : MethodName)) ∈ zn_W := zn_in (i := 547) (by decide +kernel) (by decide +kernel)
theorem zn_w548 : (Cond.methodLink "LogHouse" (217 : Nat) ({ cls := "java/lang/Integer", name := "bitCount", desc := "(I)I" } : MethodName)) ∈ zn_W := zn_in (i := 548) (by decide +kernel) (by decide +kernel)
theorem zn_w549 : (Cond.static ({ cls := "java/lang/Integer", name := "bitCount", desc := "(I)I" } : MethodName)) ∈ zn_W := zn_in (i := 549) (by decide +kernel) (by decide +kernel)
theorem zn_w550 : (Cond.code ({ cls := "java/lang/Integer", name := "bitCount", desc := "(I)I" } : MethodName) prog_17_method_49_code (1 : Nat) (Option.some FieldType.int)) ∈ zn_W := zn_in (i := 550) (by decide +kernel) (by decide +kernel)
theorem zn_w551 : (Cond.constant "java/lang/Integer" (265 : Nat) (1431655765 : Int32)) ∈ zn_W := zn_in (i := 551) (by decide +kernel) (by decide +kernel)
theorem zn_w552 : (Cond.constant "java/lang/Integer" (266 : Nat) (858993459 : Int32)) ∈ zn_W := zn_in (i := 552) (by decide +kernel) (by decide +kernel)
theorem zn_w553 : (Cond.constant "java/lang/Integer" (267 : Nat) (252645135 : Int32)) ∈ zn_W := zn_in (i := 553) (by decide +kernel) (by decide +kernel)
theorem zn_w554 : (Cond.methodLink "LogHouse" (289 : Nat) ({ cls := "LogHouse", name := "lead", desc := "(LLogHouse$Proposer;)V" } : MethodName)) ∈ zn_W := zn_in (i := 554) (by decide +kernel) (by decide +kernel)
theorem zn_w556 : (Cond.instanceMethod ({ cls := "LogHouse", name := "lead", desc := "(LLogHouse$Proposer;)V" } : MethodName)) ∈ zn_W := zn_in (i := 556) (by decide +kernel) (by decide +kernel)
theorem zn_w557 : (Cond.code ({ cls := "LogHouse", name := "lead", desc := "(LLogHouse$Proposer;)V" } : MethodName) prog_1_method_31_code (4 : Nat) (Option.none : Option FieldType)) ∈ zn_W := zn_in (i := 557) (by decide +kernel) (by decide +kernel)
theorem zn_w558 : (Cond.methodLink "LogHouse" (292 : Nat) ({ cls := "LogHouse$Spot", name := "isOpen", desc := "()Z" } : MethodName)) ∈ zn_W := zn_in (i := 558) (by decide +kernel) (by decide +kernel)
theorem zn_w559 : (Cond.methodLink "LogHouse" (295 : Nat) ({ cls := "LogHouse$Proposer", name := "gatherFromPromises", desc := "(ILLogHouse$Gathering;)Z" } : MethodName)) ∈ zn_W := zn_in (i := 559) (by decide +kernel) (by decide +kernel)
theorem zn_w560 : (Cond.instanceMethod ({ cls := "LogHouse$Proposer", name := "gatherFromPromises", desc := "(ILLogHouse$Gathering;)Z" } : MethodName)) ∈ zn_W := zn_in (i := 560) (by decide +kernel) (by decide +kernel)
theorem zn_w561 : (Cond.selects "LogHouse$Proposer" ({ cls := "LogHouse$Proposer", name := "gatherFromPromises", desc := "(ILLogHouse$Gathering;)Z" } : MethodName) ({ cls := "LogHouse$Proposer", name := "gatherFromPromises", desc := "(ILLogHouse$Gathering;)Z" } : MethodName)) ∈ zn_W := zn_in (i := 561) (by decide +kernel) (by decide +kernel)
theorem zn_w562 : (Cond.code ({ cls := "LogHouse$Proposer", name := "gatherFromPromises", desc := "(ILLogHouse$Gathering;)Z" } : MethodName) prog_5_method_9_code (4 : Nat) (Option.some FieldType.boolean)) ∈ zn_W := zn_in (i := 562) (by decide +kernel) (by decide +kernel)
theorem zn_w563 : (Cond.methodLink "LogHouse$Proposer" (100 : Nat) ({ cls := "LogHouse$Shelf", name := "has", desc := "(I)Z" } : MethodName)) ∈ zn_W := zn_in (i := 563) (by decide +kernel) (by decide +kernel)
theorem zn_w564 : (Cond.instanceMethod ({ cls := "LogHouse$Shelf", name := "has", desc := "(I)Z" } : MethodName)) ∈ zn_W := zn_in (i := 564) (by decide +kernel) (by decide +kernel)
theorem zn_w565 : (Cond.selects "LogHouse$Shelf" ({ cls := "LogHouse$Shelf", name := "has", desc := "(I)Z" } : MethodName) ({ cls := "LogHouse$Shelf", name := "has", desc := "(I)Z" } : MethodName)) ∈ zn_W := zn_in (i := 565) (by decide +kernel) (by decide +kernel)
theorem zn_w566 : (Cond.code ({ cls := "LogHouse$Shelf", name := "has", desc := "(I)Z" } : MethodName) prog_8_method_2_code (2 : Nat) (Option.some FieldType.boolean)) ∈ zn_W := zn_in (i := 566) (by decide +kernel) (by decide +kernel)
theorem zn_w567 : (Cond.methodLink "LogHouse$Proposer" (107 : Nat) ({ cls := "LogHouse$Gathering", name := "start", desc := "(I)V" } : MethodName)) ∈ zn_W := zn_in (i := 567) (by decide +kernel) (by decide +kernel)
theorem zn_w568 : (Cond.instanceMethod ({ cls := "LogHouse$Gathering", name := "start", desc := "(I)V" } : MethodName)) ∈ zn_W := zn_in (i := 568) (by decide +kernel) (by decide +kernel)
theorem zn_w569 : (Cond.selects "LogHouse$Gathering" ({ cls := "LogHouse$Gathering", name := "start", desc := "(I)V" } : MethodName) ({ cls := "LogHouse$Gathering", name := "start", desc := "(I)V" } : MethodName)) ∈ zn_W := zn_in (i := 569) (by decide +kernel) (by decide +kernel)
theorem zn_w570 : (Cond.code ({ cls := "LogHouse$Gathering", name := "start", desc := "(I)V" } : MethodName) prog_3_method_2_code (2 : Nat) (Option.none : Option FieldType)) ∈ zn_W := zn_in (i := 570) (by decide +kernel) (by decide +kernel)
theorem zn_w571 : (Cond.methodLink "LogHouse$Proposer" (112 : Nat) ({ cls := "LogHouse$Proposer", name := "addPromises", desc := "(ILLogHouse$Gathering;)V" } : MethodName)) ∈ zn_W := zn_in (i := 571) (by decide +kernel) (by decide +kernel)
theorem zn_w573 : (Cond.instanceMethod ({ cls := "LogHouse$Proposer", name := "addPromises", desc := "(ILLogHouse$Gathering;)V" } : MethodName)) ∈ zn_W := zn_in (i := 573) (by decide +kernel) (by decide +kernel)
theorem zn_w574 : (Cond.code ({ cls := "LogHouse$Proposer", name := "addPromises", desc := "(ILLogHouse$Gathering;)V" } : MethodName) prog_5_method_10_code (4 : Nat) (Option.none : Option FieldType)) ∈ zn_W := zn_in (i := 574) (by decide +kernel) (by decide +kernel)
theorem zn_w575 : (Cond.methodLink "LogHouse$Proposer" (119 : Nat) ({ cls := "LogHouse$Gathering", name := "addIfOfIt", desc := "(ILLogHouse$Shelf;I)V" } : MethodName)) ∈ zn_W := zn_in (i := 575) (by decide +kernel) (by decide +kernel)
theorem zn_w576 : (Cond.instanceMethod ({ cls := "LogHouse$Gathering", name := "addIfOfIt", desc := "(ILLogHouse$Shelf;I)V" } : MethodName)) ∈ zn_W := zn_in (i := 576) (by decide +kernel) (by decide +kernel)
theorem zn_w577 : (Cond.selects "LogHouse$Gathering" ({ cls := "LogHouse$Gathering", name := "addIfOfIt", desc := "(ILLogHouse$Shelf;I)V" } : MethodName) ({ cls := "LogHouse$Gathering", name := "addIfOfIt", desc := "(ILLogHouse$Shelf;I)V" } : MethodName)) ∈ zn_W := zn_in (i := 577) (by decide +kernel) (by decide +kernel)
theorem zn_w578 : (Cond.code ({ cls := "LogHouse$Gathering", name := "addIfOfIt", desc := "(ILLogHouse$Shelf;I)V" } : MethodName) prog_3_method_3_code (4 : Nat) (Option.none : Option FieldType)) ∈ zn_W := zn_in (i := 578) (by decide +kernel) (by decide +kernel)
theorem zn_w579 : (Cond.methodLink "LogHouse$Gathering" (29 : Nat) ({ cls := "LogHouse$Shelf", name := "has", desc := "(I)Z" } : MethodName)) ∈ zn_W := zn_in (i := 579) (by decide +kernel) (by decide +kernel)
theorem zn_w580 : (Cond.methodLink "LogHouse$Gathering" (41 : Nat) ({ cls := "LogHouse$Report", name := "pointOf", desc := "(I)I" } : MethodName)) ∈ zn_W := zn_in (i := 580) (by decide +kernel) (by decide +kernel)
theorem zn_w581 : (Cond.methodLink "LogHouse$Proposer" (116 : Nat) ({ cls := "LogHouse$Gathering", name := "isEnough", desc := "()Z" } : MethodName)) ∈ zn_W := zn_in (i := 581) (by decide +kernel) (by decide +kernel)
theorem zn_w582 : (Cond.instanceMethod ({ cls := "LogHouse$Gathering", name := "isEnough", desc := "()Z" } : MethodName)) ∈ zn_W := zn_in (i := 582) (by decide +kernel) (by decide +kernel)
theorem zn_w583 : (Cond.selects "LogHouse$Gathering" ({ cls := "LogHouse$Gathering", name := "isEnough", desc := "()Z" } : MethodName) ({ cls := "LogHouse$Gathering", name := "isEnough", desc := "()Z" } : MethodName)) ∈ zn_W := zn_in (i := 583) (by decide +kernel) (by decide +kernel)
theorem zn_w584 : (Cond.code ({ cls := "LogHouse$Gathering", name := "isEnough", desc := "()Z" } : MethodName) prog_3_method_4_code (1 : Nat) (Option.some FieldType.boolean)) ∈ zn_W := zn_in (i := 584) (by decide +kernel) (by decide +kernel)
theorem zn_w585 : (Cond.methodLink "LogHouse" (300 : Nat) ({ cls := "LogHouse$Spot", name := "proposeAs", desc := "(I)V" } : MethodName)) ∈ zn_W := zn_in (i := 585) (by decide +kernel) (by decide +kernel)
theorem zn_w586 : (Cond.methodLink "LogHouse" (186 : Nat) ({ cls := "LogHouse$Gathering", name := "putTogether", desc := "(LLogHouse$Report;)V" } : MethodName)) ∈ zn_W := zn_in (i := 586) (by decide +kernel) (by decide +kernel)
theorem zn_w587 : (Cond.instanceMethod ({ cls := "LogHouse$Gathering", name := "putTogether", desc := "(LLogHouse$Report;)V" } : MethodName)) ∈ zn_W := zn_in (i := 587) (by decide +kernel) (by decide +kernel)
theorem zn_w588 : (Cond.selects "LogHouse$Gathering" ({ cls := "LogHouse$Gathering", name := "putTogether", desc := "(LLogHouse$Report;)V" } : MethodName) ({ cls := "LogHouse$Gathering", name := "putTogether", desc := "(LLogHouse$Report;)V" } : MethodName)) ∈ zn_W := zn_in (i := 588) (by decide +kernel) (by decide +kernel)
theorem zn_w589 : (Cond.code ({ cls := "LogHouse$Gathering", name := "putTogether", desc := "(LLogHouse$Report;)V" } : MethodName) prog_3_method_5_code (3 : Nat) (Option.none : Option FieldType)) ∈ zn_W := zn_in (i := 589) (by decide +kernel) (by decide +kernel)
theorem zn_w590 : (Cond.methodLink "LogHouse$Gathering" (49 : Nat) ({ cls := "LogHouse$Report", name := "clearPieces", desc := "()V" } : MethodName)) ∈ zn_W := zn_in (i := 590) (by decide +kernel) (by decide +kernel)
theorem zn_w591 : (Cond.methodLink "LogHouse$Gathering" (52 : Nat) ({ cls := "LogHouse$Report", name := "addShare", desc := "(JIII)V" } : MethodName)) ∈ zn_W := zn_in (i := 591) (by decide +kernel) (by decide +kernel)
theorem zn_w592 : (Cond.instanceMethod ({ cls := "LogHouse$Report", name := "addShare", desc := "(JIII)V" } : MethodName)) ∈ zn_W := zn_in (i := 592) (by decide +kernel) (by decide +kernel)
theorem zn_w593 : (Cond.selects "LogHouse$Report" ({ cls := "LogHouse$Report", name := "addShare", desc := "(JIII)V" } : MethodName) ({ cls := "LogHouse$Report", name := "addShare", desc := "(JIII)V" } : MethodName)) ∈ zn_W := zn_in (i := 593) (by decide +kernel) (by decide +kernel)
theorem zn_w594 : (Cond.code ({ cls := "LogHouse$Report", name := "addShare", desc := "(JIII)V" } : MethodName) prog_6_method_8_code (8 : Nat) (Option.none : Option FieldType)) ∈ zn_W := zn_in (i := 594) (by decide +kernel) (by decide +kernel)
theorem zn_w595 : (Cond.methodLink "LogHouse$Report" (43 : Nat) ({ cls := "LogHouse$Field", name := "overSum", desc := "(JII)J" } : MethodName)) ∈ zn_W := zn_in (i := 595) (by decide +kernel) (by decide +kernel)
theorem zn_w596 : (Cond.static ({ cls := "LogHouse$Field", name := "overSum", desc := "(JII)J" } : MethodName)) ∈ zn_W := zn_in (i := 596) (by decide +kernel) (by decide +kernel)
theorem zn_w597 : (Cond.code ({ cls := "LogHouse$Field", name := "overSum", desc := "(JII)J" } : MethodName) prog_2_method_3_code (4 : Nat) (Option.some FieldType.long)) ∈ zn_W := zn_in (i := 597) (by decide +kernel) (by decide +kernel)
theorem zn_w598 : (Cond.fieldLink "LogHouse$Field" (15 : Nat) "LogHouse$Field" "INVERSES" "[I") ∈ zn_W := zn_in (i := 598) (by decide +kernel) (by decide +kernel)
theorem zn_w600 : (Cond.methodLink "LogHouse$Field" (19 : Nat) ({ cls := "LogHouse$Field", name := "times", desc := "(JI)J" } : MethodName)) ∈ zn_W := zn_in (i := 600) (by decide +kernel) (by decide +kernel)
theorem zn_w601 : (Cond.methodLink "LogHouse" (119 : Nat) ({ cls := "LogHouse", name := "bringAccept", desc := "(LLogHouse$Letter;)V" } : MethodName)) ∈ zn_W := zn_in (i := 601) (by decide +kernel) (by decide +kernel)
theorem zn_w603 : (Cond.instanceMethod ({ cls := "LogHouse", name := "bringAccept", desc := "(LLogHouse$Letter;)V" } : MethodName)) ∈ zn_W := zn_in (i := 603) (by decide +kernel) (by decide +kernel)
theorem zn_w604 : (Cond.code ({ cls := "LogHouse", name := "bringAccept", desc := "(LLogHouse$Letter;)V" } : MethodName) prog_1_method_32_code (4 : Nat) (Option.none : Option FieldType)) ∈ zn_W := zn_in (i := 604) (by decide +kernel) (by decide +kernel)
theorem zn_w605 : (Cond.methodLink "LogHouse" (197 : Nat) ({ cls := "LogHouse$Shelf", name := "put", desc := "(IIIIJ)V" } : MethodName)) ∈ zn_W := zn_in (i := 605) (by decide +kernel) (by decide +kernel)
theorem zn_w606 : (Cond.methodLink "LogHouse" (125 : Nat) ({ cls := "LogHouse$Proposer", name := "hearAccepted", desc := "(LLogHouse$Letter;)V" } : MethodName)) ∈ zn_W := zn_in (i := 606) (by decide +kernel) (by decide +kernel)
theorem zn_w607 : (Cond.instanceMethod ({ cls := "LogHouse$Proposer", name := "hearAccepted", desc := "(LLogHouse$Letter;)V" } : MethodName)) ∈ zn_W := zn_in (i := 607) (by decide +kernel) (by decide +kernel)
theorem zn_w608 : (Cond.selects "LogHouse$Proposer" ({ cls := "LogHouse$Proposer", name := "hearAccepted", desc := "(LLogHouse$Letter;)V" } : MethodName) ({ cls := "LogHouse$Proposer", name := "hearAccepted", desc := "(LLogHouse$Letter;)V" } : MethodName)) ∈ zn_W := zn_in (i := 608) (by decide +kernel) (by decide +kernel)
theorem zn_w609 : (Cond.code ({ cls := "LogHouse$Proposer", name := "hearAccepted", desc := "(LLogHouse$Letter;)V" } : MethodName) prog_5_method_8_code (2 : Nat) (Option.none : Option FieldType)) ∈ zn_W := zn_in (i := 609) (by decide +kernel) (by decide +kernel)
theorem zn_w610 : (Cond.methodLink "LogHouse$Proposer" (96 : Nat) ({ cls := "LogHouse$Spot", name := "hearAnswer", desc := "(II)V" } : MethodName)) ∈ zn_W := zn_in (i := 610) (by decide +kernel) (by decide +kernel)
theorem zn_w611 : (Cond.instanceMethod ({ cls := "LogHouse$Spot", name := "hearAnswer", desc := "(II)V" } : MethodName)) ∈ zn_W := zn_in (i := 611) (by decide +kernel) (by decide +kernel)
theorem zn_w612 : (Cond.selects "LogHouse$Spot" ({ cls := "LogHouse$Spot", name := "hearAnswer", desc := "(II)V" } : MethodName) ({ cls := "LogHouse$Spot", name := "hearAnswer", desc := "(II)V" } : MethodName)) ∈ zn_W := zn_in (i := 612) (by decide +kernel) (by decide +kernel)
theorem zn_w613 : (Cond.code ({ cls := "LogHouse$Spot", name := "hearAnswer", desc := "(II)V" } : MethodName) prog_9_method_7_code (3 : Nat) (Option.none : Option FieldType)) ∈ zn_W := zn_in (i := 613) (by decide +kernel) (by decide +kernel)
theorem zn_w614 : (Cond.methodLink "LogHouse$Spot" (32 : Nat) ({ cls := "LogHouse$Spot", name := "isWaiting", desc := "()Z" } : MethodName)) ∈ zn_W := zn_in (i := 614) (by decide +kernel) (by decide +kernel)
theorem zn_w615 : (Cond.methodLink "LogHouse$Spot" (36 : Nat) ({ cls := "java/lang/Integer", name := "bitCount", desc := "(I)I" } : MethodName)) ∈ zn_W := zn_in (i := 615) (by decide +kernel) (by decide +kernel)
theorem zn_w616 : (Cond.methodLink "LogHouse$Spot" (42 : Nat) ({ cls := "LogHouse$Spot", name := "forget", desc := "()V" } : MethodName)) ∈ zn_W := zn_in (i := 616) (by decide +kernel) (by decide +kernel)
theorem zn_w617 : (Cond.methodLink "LogHouseLaw" (98 : Nat) ({ cls := "LogHouseLaw", name := "drop", desc := "(LLogHouse;I)I" } : MethodName)) ∈ zn_W := zn_in (i := 617) (by decide +kernel) (by decide +kernel)
theorem zn_w618 : (Cond.static ({ cls := "LogHouseLaw", name := "drop", desc := "(LLogHouse;I)I" } : MethodName)) ∈ zn_W := zn_in (i := 618) (by decide +kernel) (by decide +kernel)
theorem zn_w619 : (Cond.codeWith ({ cls := "LogHouseLaw", name := "drop", desc := "(LLogHouse;I)I" } : MethodName) method_7_code (3 : Nat) (Option.some FieldType.int) [((0 : Nat), (5 : Nat), (8 : Nat), (26 : Nat))]) ∈ zn_W := zn_in (i := 619) (by decide +kernel) (by decide +kernel)
theorem zn_w620 : (Cond.methodLink "LogHouseLaw" (28 : Nat) ({ cls := "LogHouse", name := "drop", desc := "(I)V" } : MethodName)) ∈ zn_W := zn_in (i := 620) (by decide +kernel) (by decide +kernel)
theorem zn_w621 : (Cond.instanceMethod ({ cls := "LogHouse", name := "drop", desc := "(I)V" } : MethodName)) ∈ zn_W := zn_in (i := 621) (by decide +kernel) (by decide +kernel)
theorem zn_w622 : (Cond.selects "LogHouse" ({ cls := "LogHouse", name := "drop", desc := "(I)V" } : MethodName) ({ cls := "LogHouse", name := "drop", desc := "(I)V" } : MethodName)) ∈ zn_W := zn_in (i := 622) (by decide +kernel) (by decide +kernel)
theorem zn_w623 : (Cond.code ({ cls := "LogHouse", name := "drop", desc := "(I)V" } : MethodName) prog_1_method_7_code (2 : Nat) (Option.none : Option FieldType)) ∈ zn_W := zn_in (i := 623) (by decide +kernel) (by decide +kernel)
theorem zn_w624 : (Cond.methodLink "LogHouseLaw" (102 : Nat) ({ cls := "LogHouseLaw", name := "twin", desc := "(LLogHouse;I)I" } : MethodName)) ∈ zn_W := zn_in (i := 624) (by decide +kernel) (by decide +kernel)
theorem zn_w625 : (Cond.static ({ cls := "LogHouseLaw", name := "twin", desc := "(LLogHouse;I)I" } : MethodName)) ∈ zn_W := zn_in (i := 625) (by decide +kernel) (by decide +kernel)
theorem zn_w626 : (Cond.codeWith ({ cls := "LogHouseLaw", name := "twin", desc := "(LLogHouse;I)I" } : MethodName) method_8_code (3 : Nat) (Option.some FieldType.int) [((0 : Nat), (5 : Nat), (8 : Nat), (26 : Nat)), ((0 : Nat), (5 : Nat), (11 : Nat), (18 : Nat))]) ∈ zn_W := zn_in (i := 626) (by decide +kernel) (by decide +kernel)
theorem zn_w627 : (Cond.methodLink "LogHouseLaw" (32 : Nat) ({ cls := "LogHouse", name := "twin", desc := "(I)V" } : MethodName)) ∈ zn_W := zn_in (i := 627) (by decide +kernel) (by decide +kernel)
theorem zn_w628 : (Cond.instanceMethod ({ cls := "LogHouse", name := "twin", desc := "(I)V" } : MethodName)) ∈ zn_W := zn_in (i := 628) (by decide +kernel) (by decide +kernel)
theorem zn_w629 : (Cond.selects "LogHouse" ({ cls := "LogHouse", name := "twin", desc := "(I)V" } : MethodName) ({ cls := "LogHouse", name := "twin", desc := "(I)V" } : MethodName)) ∈ zn_W := zn_in (i := 629) (by decide +kernel) (by decide +kernel)
theorem zn_w630 : (Cond.code ({ cls := "LogHouse", name := "twin", desc := "(I)V" } : MethodName) prog_1_method_8_code (3 : Nat) (Option.none : Option FieldType)) ∈ zn_W := zn_in (i := 630) (by decide +kernel) (by decide +kernel)
theorem zn_w631 : (Cond.methodLink "LogHouse" (128 : Nat) ({ cls := "LogHouse$Row", name := "append", desc := "()LLogHouse$Letter;" } : MethodName)) ∈ zn_W := zn_in (i := 631) (by decide +kernel) (by decide +kernel)
theorem zn_w632 : (Cond.methodLink "LogHouse" (136 : Nat) ({ cls := "LogHouse$Letter", name := "copyFrom", desc := "(LLogHouse$Letter;)V" } : MethodName)) ∈ zn_W := zn_in (i := 632) (by decide +kernel) (by decide +kernel)
theorem zn_w633 : (Cond.instanceMethod ({ cls := "LogHouse$Letter", name := "copyFrom", desc := "(LLogHouse$Letter;)V" } : MethodName)) ∈ zn_W := zn_in (i := 633) (by decide +kernel) (by decide +kernel)
theorem zn_w634 : (Cond.selects "LogHouse$Letter" ({ cls := "LogHouse$Letter", name := "copyFrom", desc := "(LLogHouse$Letter;)V" } : MethodName) ({ cls := "LogHouse$Letter", name := "copyFrom", desc := "(LLogHouse$Letter;)V" } : MethodName)) ∈ zn_W := zn_in (i := 634) (by decide +kernel) (by decide +kernel)
theorem zn_w635 : (Cond.code ({ cls := "LogHouse$Letter", name := "copyFrom", desc := "(LLogHouse$Letter;)V" } : MethodName) prog_4_method_4_code (2 : Nat) (Option.none : Option FieldType)) ∈ zn_W := zn_in (i := 635) (by decide +kernel) (by decide +kernel)
theorem zn_w636 : (Cond.methodLink "LogHouse$Letter" (37 : Nat) ({ cls := "LogHouse$Letter", name := "address", desc := "(IIII)V" } : MethodName)) ∈ zn_W := zn_in (i := 636) (by decide +kernel) (by decide +kernel)
theorem zn_w637 : (Cond.methodLink "LogHouse$Letter" (41 : Nat) ({ cls := "LogHouse$Letter", name := "aboutPlace", desc := "(II)V" } : MethodName)) ∈ zn_W := zn_in (i := 637) (by decide +kernel) (by decide +kernel)
theorem zn_w638 : (Cond.methodLink "LogHouse$Letter" (52 : Nat) ({ cls := "LogHouse$Shelf", name := "copyFrom", desc := "(LLogHouse$Shelf;)V" } : MethodName)) ∈ zn_W := zn_in (i := 638) (by decide +kernel) (by decide +kernel)
theorem zn_w639 : (Cond.methodLink "LogHouseLaw" (109 : Nat) ({ cls := "LogHouseLaw", name := "letter", desc := "(LLogHouse;II[J)I" } : MethodName)) ∈ zn_W := zn_in (i := 639) (by decide +kernel) (by decide +kernel)
theorem zn_w640 : (Cond.static ({ cls := "LogHouseLaw", name := "letter", desc := "(LLogHouse;II[J)I" } : MethodName)) ∈ zn_W := zn_in (i := 640) (by decide +kernel) (by decide +kernel)
theorem zn_w641 : (Cond.codeWith ({ cls := "LogHouseLaw", name := "letter", desc := "(LLogHouse;II[J)I" } : MethodName) method_9_code (5 : Nat) (Option.some FieldType.int) [((0 : Nat), (10 : Nat), (13 : Nat), (26 : Nat)), ((0 : Nat), (10 : Nat), (17 : Nat), (13 : Nat))]) ∈ zn_W := zn_in (i := 641) (by decide +kernel) (by decide +kernel)
theorem zn_w642 : (Cond.methodLink "LogHouseLaw" (35 : Nat) ({ cls := "LogHouse", name := "letter", desc := "(II)I" } : MethodName)) ∈ zn_W := zn_in (i := 642) (by decide +kernel) (by decide +kernel)
theorem zn_w643 : (Cond.instanceMethod ({ cls := "LogHouse", name := "letter", desc := "(II)I" } : MethodName)) ∈ zn_W := zn_in (i := 643) (by decide +kernel) (by decide +kernel)
theorem zn_w644 : (Cond.selects "LogHouse" ({ cls := "LogHouse", name := "letter", desc := "(II)I" } : MethodName) ({ cls := "LogHouse", name := "letter", desc := "(II)I" } : MethodName)) ∈ zn_W := zn_in (i := 644) (by decide +kernel) (by decide +kernel)
theorem zn_w645 : (Cond.code ({ cls := "LogHouse", name := "letter", desc := "(II)I" } : MethodName) prog_1_method_10_code (4 : Nat) (Option.some FieldType.int)) ∈ zn_W := zn_in (i := 645) (by decide +kernel) (by decide +kernel)
theorem zn_w646 : (Cond.methodLink "LogHouseLaw" (113 : Nat) ({ cls := "LogHouseLaw", name := "up", desc := "(LLogHouse;IZ[J)I" } : MethodName)) ∈ zn_W := zn_in (i := 646) (by decide +kernel) (by decide +kernel)
theorem zn_w647 : (Cond.static ({ cls := "LogHouseLaw", name := "up", desc := "(LLogHouse;IZ[J)I" } : MethodName)) ∈ zn_W := zn_in (i := 647) (by decide +kernel) (by decide +kernel)
theorem zn_w648 : (Cond.codeWith ({ cls := "LogHouseLaw", name := "up", desc := "(LLogHouse;IZ[J)I" } : MethodName) method_10_code (5 : Nat) (Option.some FieldType.int) [((0 : Nat), (17 : Nat), (20 : Nat), (13 : Nat))]) ∈ zn_W := zn_in (i := 648) (by decide +kernel) (by decide +kernel)
theorem zn_w649 : (Cond.methodLink "LogHouseLaw" (39 : Nat) ({ cls := "LogHouse", name := "up", desc := "(IZ)Z" } : MethodName)) ∈ zn_W := zn_in (i := 649) (by decide +kernel) (by decide +kernel)
theorem zn_w650 : (Cond.instanceMethod ({ cls := "LogHouse", name := "up", desc := "(IZ)Z" } : MethodName)) ∈ zn_W := zn_in (i := 650) (by decide +kernel) (by decide +kernel)
theorem zn_w651 : (Cond.selects "LogHouse" ({ cls := "LogHouse", name := "up", desc := "(IZ)Z" } : MethodName) ({ cls := "LogHouse", name := "up", desc := "(IZ)Z" } : MethodName)) ∈ zn_W := zn_in (i := 651) (by decide +kernel) (by decide +kernel)
theorem zn_w652 : (Cond.code ({ cls := "LogHouse", name := "up", desc := "(IZ)Z" } : MethodName) prog_1_method_11_code (4 : Nat) (Option.some FieldType.boolean)) ∈ zn_W := zn_in (i := 652) (by decide +kernel) (by decide +kernel)
theorem zn_w653 : (Cond.methodLink "LogHouse" (152 : Nat) ({ cls := "LogHouse", name := "checkStation", desc := "(I)V" } : MethodName)) ∈ zn_W := zn_in (i := 653) (by decide +kernel) (by decide +kernel)
theorem zn_w654 : (Cond.static ({ cls := "LogHouse", name := "checkStation", desc := "(I)V" } : MethodName)) ∈ zn_W := zn_in (i := 654) (by decide +kernel) (by decide +kernel)
theorem zn_w655 : (Cond.code ({ cls := "LogHouse", name := "checkStation", desc := "(I)V" } : MethodName) prog_1_method_22_code (1 : Nat) (Option.none : Option FieldType)) ∈ zn_W := zn_in (i := 655) (by decide +kernel) (by decide +kernel)
theorem zn_w656 : (Cond.methodLink "LogHouseLaw" (117 : Nat) ({ cls := "LogHouseLaw", name := "wipe", desc := "(LLogHouse;I)I" } : MethodName)) ∈ zn_W := zn_in (i := 656) (by decide +kernel) (by decide +kernel)
theorem zn_w657 : (Cond.static ({ cls := "LogHouseLaw", name := "wipe", desc := "(LLogHouse;I)I" } : MethodName)) ∈ zn_W := zn_in (i := 657) (by decide +kernel) (by decide +kernel)
theorem zn_w658 : (Cond.codeWith ({ cls := "LogHouseLaw", name := "wipe", desc := "(LLogHouse;I)I" } : MethodName) method_11_code (3 : Nat) (Option.some FieldType.int) [((0 : Nat), (5 : Nat), (8 : Nat), (13 : Nat))]) ∈ zn_W := zn_in (i := 658) (by decide +kernel) (by decide +kernel)
theorem zn_w659 : (Cond.methodLink "LogHouseLaw" (43 : Nat) ({ cls := "LogHouse", name := "wipe", desc := "(I)V" } : MethodName)) ∈ zn_W := zn_in (i := 659) (by decide +kernel) (by decide +kernel)
theorem zn_w660 : (Cond.instanceMethod ({ cls := "LogHouse", name := "wipe", desc := "(I)V" } : MethodName)) ∈ zn_W := zn_in (i := 660) (by decide +kernel) (by decide +kernel)
theorem zn_w661 : (Cond.selects "LogHouse" ({ cls := "LogHouse", name := "wipe", desc := "(I)V" } : MethodName) ({ cls := "LogHouse", name := "wipe", desc := "(I)V" } : MethodName)) ∈ zn_W := zn_in (i := 661) (by decide +kernel) (by decide +kernel)
theorem zn_w662 : (Cond.code ({ cls := "LogHouse", name := "wipe", desc := "(I)V" } : MethodName) prog_1_method_12_code (2 : Nat) (Option.none : Option FieldType)) ∈ zn_W := zn_in (i := 662) (by decide +kernel) (by decide +kernel)
theorem zn_w663 : (Cond.methodLink "LogHouse" (159 : Nat) ({ cls := "LogHouse$Station", name := "loseAll", desc := "()V" } : MethodName)) ∈ zn_W := zn_in (i := 663) (by decide +kernel) (by decide +kernel)
theorem zn_w664 : (Cond.instanceMethod ({ cls := "LogHouse$Station", name := "loseAll", desc := "()V" } : MethodName)) ∈ zn_W := zn_in (i := 664) (by decide +kernel) (by decide +kernel)
theorem zn_w665 : (Cond.selects "LogHouse$Station" ({ cls := "LogHouse$Station", name := "loseAll", desc := "()V" } : MethodName) ({ cls := "LogHouse$Station", name := "loseAll", desc := "()V" } : MethodName)) ∈ zn_W := zn_in (i := 665) (by decide +kernel) (by decide +kernel)
theorem zn_w666 : (Cond.code ({ cls := "LogHouse$Station", name := "loseAll", desc := "()V" } : MethodName) prog_10_method_3_code (1 : Nat) (Option.none : Option FieldType)) ∈ zn_W := zn_in (i := 666) (by decide +kernel) (by decide +kernel)
theorem zn_w667 : (Cond.methodLink "LogHouse$Station" (27 : Nat) ({ cls := "LogHouse$Shelf", name := "clear", desc := "()V" } : MethodName)) ∈ zn_W := zn_in (i := 667) (by decide +kernel) (by decide +kernel)
theorem zn_w668 : (Cond.instanceMethod ({ cls := "LogHouse$Shelf", name := "clear", desc := "()V" } : MethodName)) ∈ zn_W := zn_in (i := 668) (by decide +kernel) (by decide +kernel)
theorem zn_w669 : (Cond.selects "LogHouse$Shelf" ({ cls := "LogHouse$Shelf", name := "clear", desc := "()V" } : MethodName) ({ cls := "LogHouse$Shelf", name := "clear", desc := "()V" } : MethodName)) ∈ zn_W := zn_in (i := 669) (by decide +kernel) (by decide +kernel)
theorem zn_w670 : (Cond.code ({ cls := "LogHouse$Shelf", name := "clear", desc := "()V" } : MethodName) prog_8_method_4_code (2 : Nat) (Option.none : Option FieldType)) ∈ zn_W := zn_in (i := 670) (by decide +kernel) (by decide +kernel)
theorem zn_w671 : (Cond.methodLink "LogHouseLaw" (120 : Nat) ({ cls := "LogHouseLaw", name := "catchUp", desc := "(LLogHouse;II[J)I" } : MethodName)) ∈ zn_W := zn_in (i := 671) (by decide +kernel) (by decide +kernel)
theorem zn_w672 : (Cond.static ({ cls := "LogHouseLaw", name := "catchUp", desc := "(LLogHouse;II[J)I" } : MethodName)) ∈ zn_W := zn_in (i := 672) (by decide +kernel) (by decide +kernel)
theorem zn_w673 : (Cond.codeWith ({ cls := "LogHouseLaw", name := "catchUp", desc := "(LLogHouse;II[J)I" } : MethodName) method_12_code (5 : Nat) (Option.some FieldType.int) [((0 : Nat), (10 : Nat), (13 : Nat), (13 : Nat)), ((0 : Nat), (10 : Nat), (17 : Nat), (18 : Nat))]) ∈ zn_W := zn_in (i := 673) (by decide +kernel) (by decide +kernel)
theorem zn_w674 : (Cond.methodLink "LogHouseLaw" (46 : Nat) ({ cls := "LogHouse", name := "catchUp", desc := "(II)I" } : MethodName)) ∈ zn_W := zn_in (i := 674) (by decide +kernel) (by decide +kernel)
theorem zn_w675 : (Cond.instanceMethod ({ cls := "LogHouse", name := "catchUp", desc := "(II)I" } : MethodName)) ∈ zn_W := zn_in (i := 675) (by decide +kernel) (by decide +kernel)
theorem zn_w676 : (Cond.selects "LogHouse" ({ cls := "LogHouse", name := "catchUp", desc := "(II)I" } : MethodName) ({ cls := "LogHouse", name := "catchUp", desc := "(II)I" } : MethodName)) ∈ zn_W := zn_in (i := 676) (by decide +kernel) (by decide +kernel)
theorem zn_w677 : (Cond.code ({ cls := "LogHouse", name := "catchUp", desc := "(II)I" } : MethodName) prog_1_method_13_code (7 : Nat) (Option.some FieldType.int)) ∈ zn_W := zn_in (i := 677) (by decide +kernel) (by decide +kernel)
theorem zn_w678 : (Cond.methodLink "LogHouse" (178 : Nat) ({ cls := "LogHouse$Shelf", name := "has", desc := "(I)Z" } : MethodName)) ∈ zn_W := zn_in (i := 678) (by decide +kernel) (by decide +kernel)
theorem zn_w679 : (Cond.methodLink "LogHouse" (183 : Nat) ({ cls := "LogHouse", name := "gatherFromStations", desc := "(II)Z" } : MethodName)) ∈ zn_W := zn_in (i := 679) (by decide +kernel) (by decide +kernel)
theorem zn_w681 : (Cond.instanceMethod ({ cls := "LogHouse", name := "gatherFromStations", desc := "(II)Z" } : MethodName)) ∈ zn_W := zn_in (i := 681) (by decide +kernel) (by decide +kernel)
theorem zn_w682 : (Cond.code ({ cls := "LogHouse", name := "gatherFromStations", desc := "(II)Z" } : MethodName) prog_1_method_33_code (4 : Nat) (Option.some FieldType.boolean)) ∈ zn_W := zn_in (i := 682) (by decide +kernel) (by decide +kernel)
theorem zn_w683 : (Cond.methodLink "LogHouse" (303 : Nat) ({ cls := "LogHouse$Gathering", name := "start", desc := "(I)V" } : MethodName)) ∈ zn_W := zn_in (i := 683) (by decide +kernel) (by decide +kernel)
theorem zn_w684 : (Cond.methodLink "LogHouse" (306 : Nat) ({ cls := "LogHouse$Gathering", name := "addIfOfIt", desc := "(ILLogHouse$Shelf;I)V" } : MethodName)) ∈ zn_W := zn_in (i := 684) (by decide +kernel) (by decide +kernel)
theorem zn_w685 : (Cond.methodLink "LogHouse" (310 : Nat) ({ cls := "LogHouse$Gathering", name := "isEnough", desc := "()Z" } : MethodName)) ∈ zn_W := zn_in (i := 685) (by decide +kernel) (by decide +kernel)
theorem zn_w686 : (Cond.methodLink "LogHouseLaw" (123 : Nat) ({ cls := "LogHouseLaw", name := "decided", desc := "(LLogHouse;II[J)I" } : MethodName)) ∈ zn_W := zn_in (i := 686) (by decide +kernel) (by decide +kernel)
theorem zn_w687 : (Cond.static ({ cls := "LogHouseLaw", name := "decided", desc := "(LLogHouse;II[J)I" } : MethodName)) ∈ zn_W := zn_in (i := 687) (by decide +kernel) (by decide +kernel)
theorem zn_w688 : (Cond.codeWith ({ cls := "LogHouseLaw", name := "decided", desc := "(LLogHouse;II[J)I" } : MethodName) method_13_code (5 : Nat) (Option.some FieldType.int) [((0 : Nat), (10 : Nat), (13 : Nat), (13 : Nat))]) ∈ zn_W := zn_in (i := 688) (by decide +kernel) (by decide +kernel)
theorem zn_w689 : (Cond.methodLink "LogHouseLaw" (49 : Nat) ({ cls := "LogHouse", name := "decided", desc := "(II)I" } : MethodName)) ∈ zn_W := zn_in (i := 689) (by decide +kernel) (by decide +kernel)
theorem zn_w690 : (Cond.instanceMethod ({ cls := "LogHouse", name := "decided", desc := "(II)I" } : MethodName)) ∈ zn_W := zn_in (i := 690) (by decide +kernel) (by decide +kernel)
theorem zn_w691 : (Cond.selects "LogHouse" ({ cls := "LogHouse", name := "decided", desc := "(II)I" } : MethodName) ({ cls := "LogHouse", name := "decided", desc := "(II)I" } : MethodName)) ∈ zn_W := zn_in (i := 691) (by decide +kernel) (by decide +kernel)
theorem zn_w692 : (Cond.code ({ cls := "LogHouse", name := "decided", desc := "(II)I" } : MethodName) prog_1_method_14_code (3 : Nat) (Option.some FieldType.int)) ∈ zn_W := zn_in (i := 692) (by decide +kernel) (by decide +kernel)
theorem zn_w693 : (Cond.methodLink "LogHouse" (201 : Nat) ({ cls := "LogHouse", name := "checkPlace", desc := "(I)V" } : MethodName)) ∈ zn_W := zn_in (i := 693) (by decide +kernel) (by decide +kernel)
theorem zn_w694 : (Cond.static ({ cls := "LogHouse", name := "checkPlace", desc := "(I)V" } : MethodName)) ∈ zn_W := zn_in (i := 694) (by decide +kernel) (by decide +kernel)
theorem zn_w695 : (Cond.code ({ cls := "LogHouse", name := "checkPlace", desc := "(I)V" } : MethodName) prog_1_method_23_code (1 : Nat) (Option.none : Option FieldType)) ∈ zn_W := zn_in (i := 695) (by decide +kernel) (by decide +kernel)
theorem zn_w696 : (Cond.methodLink "LogHouseLaw" (126 : Nat) ({ cls := "LogHouseLaw", name := "read", desc := "(LLogHouse;II[J)I" } : MethodName)) ∈ zn_W := zn_in (i := 696) (by decide +kernel) (by decide +kernel)
theorem zn_w697 : (Cond.static ({ cls := "LogHouseLaw", name := "read", desc := "(LLogHouse;II[J)I" } : MethodName)) ∈ zn_W := zn_in (i := 697) (by decide +kernel) (by decide +kernel)
theorem zn_w698 : (Cond.codeWith ({ cls := "LogHouseLaw", name := "read", desc := "(LLogHouse;II[J)I" } : MethodName) method_14_code (5 : Nat) (Option.some FieldType.int) [((0 : Nat), (10 : Nat), (13 : Nat), (13 : Nat)), ((0 : Nat), (10 : Nat), (17 : Nat), (55 : Nat)), ((0 : Nat), (10 : Nat), (21 : Nat), (18 : Nat))]) ∈ zn_W := zn_in (i := 698) (by decide +kernel) (by decide +kernel)
theorem zn_w699 : (Cond.classLink "LogHouseLaw" (55 : Nat) "java/util/NoSuchElementException") ∈ zn_W := zn_in (i := 699) (by decide +kernel) (by decide +kernel)
theorem zn_w700 : (Cond.methodLink "LogHouseLaw" (52 : Nat) ({ cls := "LogHouse", name := "read", desc := "(II)I" } : MethodName)) ∈ zn_W := zn_in (i := 700) (by decide +kernel) (by decide +kernel)
theorem zn_w701 : (Cond.instanceMethod ({ cls := "LogHouse", name := "read", desc := "(II)I" } : MethodName)) ∈ zn_W := zn_in (i := 701) (by decide +kernel) (by decide +kernel)
theorem zn_w702 : (Cond.selects "LogHouse" ({ cls := "LogHouse", name := "read", desc := "(II)I" } : MethodName) ({ cls := "LogHouse", name := "read", desc := "(II)I" } : MethodName)) ∈ zn_W := zn_in (i := 702) (by decide +kernel) (by decide +kernel)
theorem zn_w703 : (Cond.code ({ cls := "LogHouse", name := "read", desc := "(II)I" } : MethodName) prog_1_method_15_code (4 : Nat) (Option.some FieldType.int)) ∈ zn_W := zn_in (i := 703) (by decide +kernel) (by decide +kernel)
theorem zn_w704 : (Cond.classLink "LogHouse" (204 : Nat) "java/util/NoSuchElementException") ∈ zn_W := zn_in (i := 704) (by decide +kernel) (by decide +kernel)
theorem zn_w705 : (Cond.instantiable "java/util/NoSuchElementException" (6 : Nat)) ∈ zn_W := zn_in (i := 705) (by decide +kernel) (by decide +kernel)
theorem zn_w707 : (Cond.selects "java/util/NoSuchElementException" ({ cls := "java/lang/Throwable", name := "fillInStackTrace", desc := "(I)Ljava/lang/Throwable;" } : MethodName) ({ cls := "java/lang/Throwable", name := "fillInStackTrace", desc := "(I)Ljava/lang/Throwable;" } : MethodName)) ∈ zn_W := zn_in (i := 707) (by decide +kernel) (by decide +kernel)
theorem zn_w708 : (Cond.lays "java/util/NoSuchElementException" "java/lang/Throwable" "cause" "Ljava/lang/Throwable;") ∈ zn_W := zn_in (i := 708) (by decide +kernel) (by decide +kernel)
theorem zn_w709 : (Cond.lays "java/util/NoSuchElementException" "java/lang/Throwable" "stackTrace" "[Ljava/lang/StackTraceElement;") ∈ zn_W := zn_in (i := 709) (by decide +kernel) (by decide +kernel)
theorem zn_w710 : (Cond.lays "java/util/NoSuchElementException" "java/lang/Throwable" "suppressedExceptions" "Ljava/util/List;") ∈ zn_W := zn_in (i := 710) (by decide +kernel) (by decide +kernel)
theorem zn_w711 : (Cond.lays "java/util/NoSuchElementException" "java/lang/Throwable" "detailMessage" "Ljava/lang/String;") ∈ zn_W := zn_in (i := 711) (by decide +kernel) (by decide +kernel)
theorem zn_w712 : (Cond.lays "java/util/NoSuchElementException" "java/lang/Throwable" "backtrace" "Ljava/lang/Object;") ∈ zn_W := zn_in (i := 712) (by decide +kernel) (by decide +kernel)
theorem zn_w713 : (Cond.methodLink "LogHouse" (206 : Nat) ({ cls := "java/util/NoSuchElementException", name := "<init>", desc := "()V" } : MethodName)) ∈ zn_W := zn_in (i := 713) (by decide +kernel) (by decide +kernel)
theorem zn_w714 : (Cond.instanceMethod ({ cls := "java/util/NoSuchElementException", name := "<init>", desc := "()V" } : MethodName)) ∈ zn_W := zn_in (i := 714) (by decide +kernel) (by decide +kernel)
theorem zn_w715 : (Cond.code ({ cls := "java/util/NoSuchElementException", name := "<init>", desc := "()V" } : MethodName) prog_21_method_1_code (1 : Nat) (Option.none : Option FieldType)) ∈ zn_W := zn_in (i := 715) (by decide +kernel) (by decide +kernel)
theorem zn_w716 : (Cond.methodLink "java/util/NoSuchElementException" (1 : Nat) ({ cls := "java/lang/RuntimeException", name := "<init>", desc := "()V" } : MethodName)) ∈ zn_W := zn_in (i := 716) (by decide +kernel) (by decide +kernel)
theorem zn_w717 : (Cond.lays "java/util/NoSuchElementException" "java/lang/Throwable" "depth" "I") ∈ zn_W := zn_in (i := 717) (by decide +kernel) (by decide +kernel)
theorem zn_w718 : (Cond.superclass "java/util/NoSuchElementException" "java/lang/RuntimeException") ∈ zn_W := zn_in (i := 718) (by decide +kernel) (by decide +kernel)
theorem zn_w719 : (Cond.methodLink "LogHouseLaw" (129 : Nat) ({ cls := "LogHouseLaw", name := "readByte", desc := "(LLogHouse;I[J)I" } : MethodName)) ∈ zn_W := zn_in (i := 719) (by decide +kernel) (by decide +kernel)
theorem zn_w720 : (Cond.static ({ cls := "LogHouseLaw", name := "readByte", desc := "(LLogHouse;I[J)I" } : MethodName)) ∈ zn_W := zn_in (i := 720) (by decide +kernel) (by decide +kernel)
theorem zn_w721 : (Cond.codeWith ({ cls := "LogHouseLaw", name := "readByte", desc := "(LLogHouse;I[J)I" } : MethodName) method_15_code (4 : Nat) (Option.some FieldType.int) [((0 : Nat), (9 : Nat), (12 : Nat), (26 : Nat))]) ∈ zn_W := zn_in (i := 721) (by decide +kernel) (by decide +kernel)
theorem zn_w722 : (Cond.methodLink "LogHouseLaw" (57 : Nat) ({ cls := "LogHouse", name := "readByte", desc := "(I)I" } : MethodName)) ∈ zn_W := zn_in (i := 722) (by decide +kernel) (by decide +kernel)
theorem zn_w723 : (Cond.instanceMethod ({ cls := "LogHouse", name := "readByte", desc := "(I)I" } : MethodName)) ∈ zn_W := zn_in (i := 723) (by decide +kernel) (by decide +kernel)
theorem zn_w724 : (Cond.selects "LogHouse" ({ cls := "LogHouse", name := "readByte", desc := "(I)I" } : MethodName) ({ cls := "LogHouse", name := "readByte", desc := "(I)I" } : MethodName)) ∈ zn_W := zn_in (i := 724) (by decide +kernel) (by decide +kernel)
theorem zn_w725 : (Cond.code ({ cls := "LogHouse", name := "readByte", desc := "(I)I" } : MethodName) prog_1_method_16_code (2 : Nat) (Option.some FieldType.int)) ∈ zn_W := zn_in (i := 725) (by decide +kernel) (by decide +kernel)
theorem zn_w726 : (Cond.methodLink "LogHouse" (210 : Nat) ({ cls := "LogHouse$Report", name := "byteAt", desc := "(I)I" } : MethodName)) ∈ zn_W := zn_in (i := 726) (by decide +kernel) (by decide +kernel)
theorem zn_w727 : (Cond.instanceMethod ({ cls := "LogHouse$Report", name := "byteAt", desc := "(I)I" } : MethodName)) ∈ zn_W := zn_in (i := 727) (by decide +kernel) (by decide +kernel)
theorem zn_w728 : (Cond.selects "LogHouse$Report" ({ cls := "LogHouse$Report", name := "byteAt", desc := "(I)I" } : MethodName) ({ cls := "LogHouse$Report", name := "byteAt", desc := "(I)I" } : MethodName)) ∈ zn_W := zn_in (i := 728) (by decide +kernel) (by decide +kernel)
theorem zn_w729 : (Cond.code ({ cls := "LogHouse$Report", name := "byteAt", desc := "(I)I" } : MethodName) prog_6_method_6_code (3 : Nat) (Option.some FieldType.int)) ∈ zn_W := zn_in (i := 729) (by decide +kernel) (by decide +kernel)
theorem zn_w730 : (Cond.methodLink "LogHouseLaw" (132 : Nat) ({ cls := "LogHouseLaw", name := "state", desc := "(LLogHouse;II[J)I" } : MethodName)) ∈ zn_W := zn_in (i := 730) (by decide +kernel) (by decide +kernel)
theorem zn_w731 : (Cond.static ({ cls := "LogHouseLaw", name := "state", desc := "(LLogHouse;II[J)I" } : MethodName)) ∈ zn_W := zn_in (i := 731) (by decide +kernel) (by decide +kernel)
theorem zn_w732 : (Cond.codeWith ({ cls := "LogHouseLaw", name := "state", desc := "(LLogHouse;II[J)I" } : MethodName) method_16_code (5 : Nat) (Option.some FieldType.int) [((0 : Nat), (10 : Nat), (13 : Nat), (13 : Nat))]) ∈ zn_W := zn_in (i := 732) (by decide +kernel) (by decide +kernel)
theorem zn_w733 : (Cond.methodLink "LogHouseLaw" (60 : Nat) ({ cls := "LogHouse", name := "state", desc := "(II)I" } : MethodName)) ∈ zn_W := zn_in (i := 733) (by decide +kernel) (by decide +kernel)
theorem zn_w734 : (Cond.instanceMethod ({ cls := "LogHouse", name := "state", desc := "(II)I" } : MethodName)) ∈ zn_W := zn_in (i := 734) (by decide +kernel) (by decide +kernel)
theorem zn_w735 : (Cond.selects "LogHouse" ({ cls := "LogHouse", name := "state", desc := "(II)I" } : MethodName) ({ cls := "LogHouse", name := "state", desc := "(II)I" } : MethodName)) ∈ zn_W := zn_in (i := 735) (by decide +kernel) (by decide +kernel)
theorem zn_w736 : (Cond.code ({ cls := "LogHouse", name := "state", desc := "(II)I" } : MethodName) prog_1_method_17_code (4 : Nat) (Option.some FieldType.int)) ∈ zn_W := zn_in (i := 736) (by decide +kernel) (by decide +kernel)
theorem zn_w737 : (Cond.methodLink "LogHouseLaw" (135 : Nat) ({ cls := "LogHouseLaw", name := "station", desc := "(LLogHouse;II[J)I" } : MethodName)) ∈ zn_W := zn_in (i := 737) (by decide +kernel) (by decide +kernel)
theorem zn_w738 : (Cond.static ({ cls := "LogHouseLaw", name := "station", desc := "(LLogHouse;II[J)I" } : MethodName)) ∈ zn_W := zn_in (i := 738) (by decide +kernel) (by decide +kernel)
theorem zn_w739 : (Cond.codeWith ({ cls := "LogHouseLaw", name := "station", desc := "(LLogHouse;II[J)I" } : MethodName) method_17_code (5 : Nat) (Option.some FieldType.int) [((0 : Nat), (10 : Nat), (13 : Nat), (13 : Nat))]) ∈ zn_W := zn_in (i := 739) (by decide +kernel) (by decide +kernel)
theorem zn_w740 : (Cond.methodLink "LogHouseLaw" (63 : Nat) ({ cls := "LogHouse", name := "station", desc := "(II)I" } : MethodName)) ∈ zn_W := zn_in (i := 740) (by decide +kernel) (by decide +kernel)
theorem zn_w741 : (Cond.instanceMethod ({ cls := "LogHouse", name := "station", desc := "(II)I" } : MethodName)) ∈ zn_W := zn_in (i := 741) (by decide +kernel) (by decide +kernel)
theorem zn_w742 : (Cond.selects "LogHouse" ({ cls := "LogHouse", name := "station", desc := "(II)I" } : MethodName) ({ cls := "LogHouse", name := "station", desc := "(II)I" } : MethodName)) ∈ zn_W := zn_in (i := 742) (by decide +kernel) (by decide +kernel)
theorem zn_w743 : (Cond.code ({ cls := "LogHouse", name := "station", desc := "(II)I" } : MethodName) prog_1_method_18_code (4 : Nat) (Option.some FieldType.int)) ∈ zn_W := zn_in (i := 743) (by decide +kernel) (by decide +kernel)
theorem zn_w744 : (Cond.methodLink "LogHouse" (225 : Nat) ({ cls := "LogHouse$Shelf", name := "countBytes", desc := "()I" } : MethodName)) ∈ zn_W := zn_in (i := 744) (by decide +kernel) (by decide +kernel)
theorem zn_w745 : (Cond.instanceMethod ({ cls := "LogHouse$Shelf", name := "countBytes", desc := "()I" } : MethodName)) ∈ zn_W := zn_in (i := 745) (by decide +kernel) (by decide +kernel)
theorem zn_w746 : (Cond.selects "LogHouse$Shelf" ({ cls := "LogHouse$Shelf", name := "countBytes", desc := "()I" } : MethodName) ({ cls := "LogHouse$Shelf", name := "countBytes", desc := "()I" } : MethodName)) ∈ zn_W := zn_in (i := 746) (by decide +kernel) (by decide +kernel)
theorem zn_w747 : (Cond.code ({ cls := "LogHouse$Shelf", name := "countBytes", desc := "()I" } : MethodName) prog_8_method_6_code (3 : Nat) (Option.some FieldType.int)) ∈ zn_W := zn_in (i := 747) (by decide +kernel) (by decide +kernel)
theorem zn_w748 : (Cond.methodLink "LogHouse$Shelf" (29 : Nat) ({ cls := "LogHouse$Report", name := "third", desc := "(I)I" } : MethodName)) ∈ zn_W := zn_in (i := 748) (by decide +kernel) (by decide +kernel)
theorem zn_w749 : (Cond.methodLink "LogHouseLaw" (138 : Nat) ({ cls := "LogHouseLaw", name := "share", desc := "(LLogHouse;III[J)I" } : MethodName)) ∈ zn_W := zn_in (i := 749) (by decide +kernel) (by decide +kernel)
theorem zn_w750 : (Cond.static ({ cls := "LogHouseLaw", name := "share", desc := "(LLogHouse;III[J)I" } : MethodName)) ∈ zn_W := zn_in (i := 750) (by decide +kernel) (by decide +kernel)
theorem zn_w751 : (Cond.codeWith ({ cls := "LogHouseLaw", name := "share", desc := "(LLogHouse;III[J)I" } : MethodName) method_18_code (6 : Nat) (Option.some FieldType.int) [((0 : Nat), (12 : Nat), (15 : Nat), (13 : Nat))]) ∈ zn_W := zn_in (i := 751) (by decide +kernel) (by decide +kernel)
theorem zn_w752 : (Cond.methodLink "LogHouseLaw" (66 : Nat) ({ cls := "LogHouse", name := "share", desc := "(III)I" } : MethodName)) ∈ zn_W := zn_in (i := 752) (by decide +kernel) (by decide +kernel)
theorem zn_w753 : (Cond.instanceMethod ({ cls := "LogHouse", name := "share", desc := "(III)I" } : MethodName)) ∈ zn_W := zn_in (i := 753) (by decide +kernel) (by decide +kernel)
theorem zn_w754 : (Cond.selects "LogHouse" ({ cls := "LogHouse", name := "share", desc := "(III)I" } : MethodName) ({ cls := "LogHouse", name := "share", desc := "(III)I" } : MethodName)) ∈ zn_W := zn_in (i := 754) (by decide +kernel) (by decide +kernel)
theorem zn_w755 : (Cond.code ({ cls := "LogHouse", name := "share", desc := "(III)I" } : MethodName) prog_1_method_19_code (5 : Nat) (Option.some FieldType.int)) ∈ zn_W := zn_in (i := 755) (by decide +kernel) (by decide +kernel)
theorem zn_w756 : (Cond.methodLink "LogHouse" (238 : Nat) ({ cls := "LogHouse$Shelf", name := "shareByte", desc := "(II)I" } : MethodName)) ∈ zn_W := zn_in (i := 756) (by decide +kernel) (by decide +kernel)
theorem zn_w757 : (Cond.instanceMethod ({ cls := "LogHouse$Shelf", name := "shareByte", desc := "(II)I" } : MethodName)) ∈ zn_W := zn_in (i := 757) (by decide +kernel) (by decide +kernel)
theorem zn_w758 : (Cond.selects "LogHouse$Shelf" ({ cls := "LogHouse$Shelf", name := "shareByte", desc := "(II)I" } : MethodName) ({ cls := "LogHouse$Shelf", name := "shareByte", desc := "(II)I" } : MethodName)) ∈ zn_W := zn_in (i := 758) (by decide +kernel) (by decide +kernel)
theorem zn_w759 : (Cond.code ({ cls := "LogHouse$Shelf", name := "shareByte", desc := "(II)I" } : MethodName) prog_8_method_7_code (3 : Nat) (Option.some FieldType.int)) ∈ zn_W := zn_in (i := 759) (by decide +kernel) (by decide +kernel)
theorem zn_w760 : (Cond.constantLong "LogHouse$Shelf" (35 : Nat) (255 : Int64)) ∈ zn_W := zn_in (i := 760) (by decide +kernel) (by decide +kernel)
theorem zn_w761 : (Cond.classLink "LogHouseLaw" (71 : Nat) "LogHouseModel") ∈ zn_W := zn_in (i := 761) (by decide +kernel) (by decide +kernel)
theorem zn_w762 : (Cond.instantiable "LogHouseModel" (28 : Nat)) ∈ zn_W := zn_in (i := 762) (by decide +kernel) (by decide +kernel)
theorem zn_w763 : (Cond.methodLink "LogHouseLaw" (73 : Nat) ({ cls := "LogHouseModel", name := "<init>", desc := "()V" } : MethodName)) ∈ zn_W := zn_in (i := 763) (by decide +kernel) (by decide +kernel)
theorem zn_w764 : (Cond.instanceMethod ({ cls := "LogHouseModel", name := "<init>", desc := "()V" } : MethodName)) ∈ zn_W := zn_in (i := 764) (by decide +kernel) (by decide +kernel)
theorem zn_w765 : (Cond.code ({ cls := "LogHouseModel", name := "<init>", desc := "()V" } : MethodName) prog_12_method_1_code (3 : Nat) (Option.none : Option FieldType)) ∈ zn_W := zn_in (i := 765) (by decide +kernel) (by decide +kernel)
theorem zn_w766 : (Cond.methodLink "LogHouseModel" (1 : Nat) ({ cls := "java/lang/Object", name := "<init>", desc := "()V" } : MethodName)) ∈ zn_W := zn_in (i := 766) (by decide +kernel) (by decide +kernel)
theorem zn_w767 : (Cond.methodLink "LogHouseModel" (96 : Nat) ({ cls := "LogHouseModel", name := "times", desc := "(II)I" } : MethodName)) ∈ zn_W := zn_in (i := 767) (by decide +kernel) (by decide +kernel)
theorem zn_w768 : (Cond.static ({ cls := "LogHouseModel", name := "times", desc := "(II)I" } : MethodName)) ∈ zn_W := zn_in (i := 768) (by decide +kernel) (by decide +kernel)
theorem zn_w769 : (Cond.code ({ cls := "LogHouseModel", name := "times", desc := "(II)I" } : MethodName) prog_12_method_2_code (5 : Nat) (Option.some FieldType.int)) ∈ zn_W := zn_in (i := 769) (by decide +kernel) (by decide +kernel)
theorem zn_w770 : (Cond.fieldLink "LogHouseModel" (7 : Nat) "LogHouseModel" "thrownCode" "I") ∈ zn_W := zn_in (i := 770) (by decide +kernel) (by decide +kernel)
theorem zn_w771 : (Cond.fieldLink "LogHouseModel" (13 : Nat) "LogHouseModel" "promised" "[I") ∈ zn_W := zn_in (i := 771) (by decide +kernel) (by decide +kernel)
theorem zn_w772 : (Cond.fieldLink "LogHouseModel" (17 : Nat) "LogHouseModel" "down" "[Z") ∈ zn_W := zn_in (i := 772) (by decide +kernel) (by decide +kernel)
theorem zn_w773 : (Cond.fieldLink "LogHouseModel" (21 : Nat) "LogHouseModel" "wiped" "[Z") ∈ zn_W := zn_in (i := 773) (by decide +kernel) (by decide +kernel)
theorem zn_w774 : (Cond.fieldLink "LogHouseModel" (24 : Nat) "LogHouseModel" "has" "[I") ∈ zn_W := zn_in (i := 774) (by decide +kernel) (by decide +kernel)
theorem zn_w775 : (Cond.fieldLink "LogHouseModel" (27 : Nat) "LogHouseModel" "letters" "I") ∈ zn_W := zn_in (i := 775) (by decide +kernel) (by decide +kernel)
theorem zn_w776 : (Cond.fieldLink "LogHouseModel" (30 : Nat) "LogHouseModel" "head" "[I") ∈ zn_W := zn_in (i := 776) (by decide +kernel) (by decide +kernel)
theorem zn_w777 : (Cond.fieldLink "LogHouseModel" (33 : Nat) "LogHouseModel" "said" "[I") ∈ zn_W := zn_in (i := 777) (by decide +kernel) (by decide +kernel)
theorem zn_w778 : (Cond.fieldLink "LogHouseModel" (36 : Nat) "LogHouseModel" "phase" "[I") ∈ zn_W := zn_in (i := 778) (by decide +kernel) (by decide +kernel)
theorem zn_w779 : (Cond.fieldLink "LogHouseModel" (39 : Nat) "LogHouseModel" "ballot" "[I") ∈ zn_W := zn_in (i := 779) (by decide +kernel) (by decide +kernel)
theorem zn_w780 : (Cond.fieldLink "LogHouseModel" (42 : Nat) "LogHouseModel" "promises" "[I") ∈ zn_W := zn_in (i := 780) (by decide +kernel) (by decide +kernel)
theorem zn_w781 : (Cond.fieldLink "LogHouseModel" (45 : Nat) "LogHouseModel" "heard" "[I") ∈ zn_W := zn_in (i := 781) (by decide +kernel) (by decide +kernel)
theorem zn_w782 : (Cond.fieldLink "LogHouseModel" (48 : Nat) "LogHouseModel" "written" "[I") ∈ zn_W := zn_in (i := 782) (by decide +kernel) (by decide +kernel)
theorem zn_w783 : (Cond.fieldLink "LogHouseModel" (51 : Nat) "LogHouseModel" "writes" "[I") ∈ zn_W := zn_in (i := 783) (by decide +kernel) (by decide +kernel)
theorem zn_w784 : (Cond.fieldLink "LogHouseModel" (54 : Nat) "LogHouseModel" "known" "[I") ∈ zn_W := zn_in (i := 784) (by decide +kernel) (by decide +kernel)
theorem zn_w785 : (Cond.fieldLink "LogHouseModel" (57 : Nat) "LogHouseModel" "proposed" "[I") ∈ zn_W := zn_in (i := 785) (by decide +kernel) (by decide +kernel)
theorem zn_w786 : (Cond.fieldLink "LogHouseModel" (60 : Nat) "LogHouseModel" "lengths" "[I") ∈ zn_W := zn_in (i := 786) (by decide +kernel) (by decide +kernel)
theorem zn_w787 : (Cond.fieldLink "LogHouseModel" (63 : Nat) "LogHouseModel" "answers" "[I") ∈ zn_W := zn_in (i := 787) (by decide +kernel) (by decide +kernel)
theorem zn_w788 : (Cond.fieldLink "LogHouseModel" (66 : Nat) "LogHouseModel" "reports" "[I") ∈ zn_W := zn_in (i := 788) (by decide +kernel) (by decide +kernel)
theorem zn_w789 : (Cond.fieldLink "LogHouseModel" (69 : Nat) "LogHouseModel" "powers" "[I") ∈ zn_W := zn_in (i := 789) (by decide +kernel) (by decide +kernel)
theorem zn_w790 : (Cond.fieldLink "LogHouseModel" (72 : Nat) "LogHouseModel" "logs" "[I") ∈ zn_W := zn_in (i := 790) (by decide +kernel) (by decide +kernel)
theorem zn_w791 : (Cond.fieldLink "LogHouseModel" (75 : Nat) "LogHouseModel" "three" "[I") ∈ zn_W := zn_in (i := 791) (by decide +kernel) (by decide +kernel)
theorem zn_w792 : (Cond.fieldLink "LogHouseModel" (78 : Nat) "LogHouseModel" "bytes" "[I") ∈ zn_W := zn_in (i := 792) (by decide +kernel) (by decide +kernel)
theorem zn_w793 : (Cond.fieldLink "LogHouseModel" (81 : Nat) "LogHouseModel" "put" "[I") ∈ zn_W := zn_in (i := 793) (by decide +kernel) (by decide +kernel)
theorem zn_w794 : (Cond.fieldLink "LogHouseModel" (84 : Nat) "LogHouseModel" "readNow" "[I") ∈ zn_W := zn_in (i := 794) (by decide +kernel) (by decide +kernel)
theorem zn_w795 : (Cond.fieldLink "LogHouseModel" (87 : Nat) "LogHouseModel" "reads" "I") ∈ zn_W := zn_in (i := 795) (by decide +kernel) (by decide +kernel)
theorem zn_w796 : (Cond.fieldLink "LogHouseModel" (90 : Nat) "LogHouseModel" "one" "[I") ∈ zn_W := zn_in (i := 796) (by decide +kernel) (by decide +kernel)
theorem zn_w797 : (Cond.fieldLink "LogHouseModel" (93 : Nat) "LogHouseModel" "text" "[I") ∈ zn_W := zn_in (i := 797) (by decide +kernel) (by decide +kernel)
theorem zn_w798 : (Cond.lays "LogHouseModel" "LogHouseModel" "thrownCode" "I") ∈ zn_W := zn_in (i := 798) (by decide +kernel) (by decide +kernel)
theorem zn_w800 : (Cond.laysFinal "LogHouseModel" "LogHouseModel" "promised" "[I") ∈ zn_W := zn_in (i := 800) (by decide +kernel) (by decide +kernel)
theorem zn_w802 : (Cond.laysFinal "LogHouseModel" "LogHouseModel" "down" "[Z") ∈ zn_W := zn_in (i := 802) (by decide +kernel) (by decide +kernel)
theorem zn_w804 : (Cond.laysFinal "LogHouseModel" "LogHouseModel" "wiped" "[Z") ∈ zn_W := zn_in (i := 804) (by decide +kernel) (by decide +kernel)
theorem zn_w806 : (Cond.laysFinal "LogHouseModel" "LogHouseModel" "has" "[I") ∈ zn_W := zn_in (i := 806) (by decide +kernel) (by decide +kernel)
theorem zn_w808 : (Cond.lays "LogHouseModel" "LogHouseModel" "letters" "I") ∈ zn_W := zn_in (i := 808) (by decide +kernel) (by decide +kernel)
theorem zn_w810 : (Cond.laysFinal "LogHouseModel" "LogHouseModel" "head" "[I") ∈ zn_W := zn_in (i := 810) (by decide +kernel) (by decide +kernel)
theorem zn_w812 : (Cond.laysFinal "LogHouseModel" "LogHouseModel" "said" "[I") ∈ zn_W := zn_in (i := 812) (by decide +kernel) (by decide +kernel)
theorem zn_w814 : (Cond.laysFinal "LogHouseModel" "LogHouseModel" "phase" "[I") ∈ zn_W := zn_in (i := 814) (by decide +kernel) (by decide +kernel)
theorem zn_w816 : (Cond.laysFinal "LogHouseModel" "LogHouseModel" "ballot" "[I") ∈ zn_W := zn_in (i := 816) (by decide +kernel) (by decide +kernel)
theorem zn_w818 : (Cond.laysFinal "LogHouseModel" "LogHouseModel" "promises" "[I") ∈ zn_W := zn_in (i := 818) (by decide +kernel) (by decide +kernel)
theorem zn_w820 : (Cond.laysFinal "LogHouseModel" "LogHouseModel" "heard" "[I") ∈ zn_W := zn_in (i := 820) (by decide +kernel) (by decide +kernel)
theorem zn_w822 : (Cond.laysFinal "LogHouseModel" "LogHouseModel" "written" "[I") ∈ zn_W := zn_in (i := 822) (by decide +kernel) (by decide +kernel)
theorem zn_w824 : (Cond.laysFinal "LogHouseModel" "LogHouseModel" "writes" "[I") ∈ zn_W := zn_in (i := 824) (by decide +kernel) (by decide +kernel)
theorem zn_w826 : (Cond.laysFinal "LogHouseModel" "LogHouseModel" "known" "[I") ∈ zn_W := zn_in (i := 826) (by decide +kernel) (by decide +kernel)
theorem zn_w828 : (Cond.laysFinal "LogHouseModel" "LogHouseModel" "proposed" "[I") ∈ zn_W := zn_in (i := 828) (by decide +kernel) (by decide +kernel)
theorem zn_w830 : (Cond.laysFinal "LogHouseModel" "LogHouseModel" "lengths" "[I") ∈ zn_W := zn_in (i := 830) (by decide +kernel) (by decide +kernel)
theorem zn_w832 : (Cond.laysFinal "LogHouseModel" "LogHouseModel" "answers" "[I") ∈ zn_W := zn_in (i := 832) (by decide +kernel) (by decide +kernel)
theorem zn_w834 : (Cond.laysFinal "LogHouseModel" "LogHouseModel" "reports" "[I") ∈ zn_W := zn_in (i := 834) (by decide +kernel) (by decide +kernel)
theorem zn_w836 : (Cond.laysFinal "LogHouseModel" "LogHouseModel" "powers" "[I") ∈ zn_W := zn_in (i := 836) (by decide +kernel) (by decide +kernel)
theorem zn_w838 : (Cond.laysFinal "LogHouseModel" "LogHouseModel" "logs" "[I") ∈ zn_W := zn_in (i := 838) (by decide +kernel) (by decide +kernel)
theorem zn_w840 : (Cond.laysFinal "LogHouseModel" "LogHouseModel" "three" "[I") ∈ zn_W := zn_in (i := 840) (by decide +kernel) (by decide +kernel)
theorem zn_w842 : (Cond.laysFinal "LogHouseModel" "LogHouseModel" "bytes" "[I") ∈ zn_W := zn_in (i := 842) (by decide +kernel) (by decide +kernel)
theorem zn_w844 : (Cond.laysFinal "LogHouseModel" "LogHouseModel" "put" "[I") ∈ zn_W := zn_in (i := 844) (by decide +kernel) (by decide +kernel)
theorem zn_w846 : (Cond.laysFinal "LogHouseModel" "LogHouseModel" "readNow" "[I") ∈ zn_W := zn_in (i := 846) (by decide +kernel) (by decide +kernel)
theorem zn_w848 : (Cond.lays "LogHouseModel" "LogHouseModel" "reads" "I") ∈ zn_W := zn_in (i := 848) (by decide +kernel) (by decide +kernel)
theorem zn_w850 : (Cond.laysFinal "LogHouseModel" "LogHouseModel" "one" "[I") ∈ zn_W := zn_in (i := 850) (by decide +kernel) (by decide +kernel)
theorem zn_w852 : (Cond.laysFinal "LogHouseModel" "LogHouseModel" "text" "[I") ∈ zn_W := zn_in (i := 852) (by decide +kernel) (by decide +kernel)
theorem zn_w854 : (Cond.superclass "LogHouseModel" "java/lang/Object") ∈ zn_W := zn_in (i := 854) (by decide +kernel) (by decide +kernel)
theorem zn_w855 : (Cond.arrayClass FieldType.boolean) ∈ zn_W := zn_in (i := 855) (by decide +kernel) (by decide +kernel)
theorem zn_w856 : (Cond.methodLink "LogHouseLaw" (85 : Nat) ({ cls := "LogHouseModel", name := "thrown", desc := "()I" } : MethodName)) ∈ zn_W := zn_in (i := 856) (by decide +kernel) (by decide +kernel)
theorem zn_w857 : (Cond.instanceMethod ({ cls := "LogHouseModel", name := "thrown", desc := "()I" } : MethodName)) ∈ zn_W := zn_in (i := 857) (by decide +kernel) (by decide +kernel)
theorem zn_w858 : (Cond.selects "LogHouseModel" ({ cls := "LogHouseModel", name := "thrown", desc := "()I" } : MethodName) ({ cls := "LogHouseModel", name := "thrown", desc := "()I" } : MethodName)) ∈ zn_W := zn_in (i := 858) (by decide +kernel) (by decide +kernel)
theorem zn_w859 : (Cond.code ({ cls := "LogHouseModel", name := "thrown", desc := "()I" } : MethodName) prog_12_method_25_code (1 : Nat) (Option.some FieldType.int)) ∈ zn_W := zn_in (i := 859) (by decide +kernel) (by decide +kernel)
theorem zn_w860 : (Cond.methodLink "LogHouseLaw" (78 : Nat) ({ cls := "LogHouseModel", name := "byteIn", desc := "(III)Z" } : MethodName)) ∈ zn_W := zn_in (i := 860) (by decide +kernel) (by decide +kernel)
theorem zn_w861 : (Cond.instanceMethod ({ cls := "LogHouseModel", name := "byteIn", desc := "(III)Z" } : MethodName)) ∈ zn_W := zn_in (i := 861) (by decide +kernel) (by decide +kernel)
theorem zn_w862 : (Cond.selects "LogHouseModel" ({ cls := "LogHouseModel", name := "byteIn", desc := "(III)Z" } : MethodName) ({ cls := "LogHouseModel", name := "byteIn", desc := "(III)Z" } : MethodName)) ∈ zn_W := zn_in (i := 862) (by decide +kernel) (by decide +kernel)
theorem zn_w863 : (Cond.code ({ cls := "LogHouseModel", name := "byteIn", desc := "(III)Z" } : MethodName) prog_12_method_28_code (5 : Nat) (Option.some FieldType.boolean)) ∈ zn_W := zn_in (i := 863) (by decide +kernel) (by decide +kernel)
theorem zn_w864 : (Cond.methodLink "LogHouseModel" (158 : Nat) ({ cls := "LogHouseModel", name := "noProposer", desc := "(I)Z" } : MethodName)) ∈ zn_W := zn_in (i := 864) (by decide +kernel) (by decide +kernel)
theorem zn_w865 : (Cond.static ({ cls := "LogHouseModel", name := "noProposer", desc := "(I)Z" } : MethodName)) ∈ zn_W := zn_in (i := 865) (by decide +kernel) (by decide +kernel)
theorem zn_w866 : (Cond.code ({ cls := "LogHouseModel", name := "noProposer", desc := "(I)Z" } : MethodName) prog_12_method_26_code (1 : Nat) (Option.some FieldType.boolean)) ∈ zn_W := zn_in (i := 866) (by decide +kernel) (by decide +kernel)
theorem zn_w867 : (Cond.methodLink "LogHouseLaw" (84 : Nat) ({ cls := "LogHouseModel", name := "campaign", desc := "(I)I" } : MethodName)) ∈ zn_W := zn_in (i := 867) (by decide +kernel) (by decide +kernel)
theorem zn_w868 : (Cond.instanceMethod ({ cls := "LogHouseModel", name := "campaign", desc := "(I)I" } : MethodName)) ∈ zn_W := zn_in (i := 868) (by decide +kernel) (by decide +kernel)
theorem zn_w869 : (Cond.selects "LogHouseModel" ({ cls := "LogHouseModel", name := "campaign", desc := "(I)I" } : MethodName) ({ cls := "LogHouseModel", name := "campaign", desc := "(I)I" } : MethodName)) ∈ zn_W := zn_in (i := 869) (by decide +kernel) (by decide +kernel)
theorem zn_w870 : (Cond.code ({ cls := "LogHouseModel", name := "campaign", desc := "(I)I" } : MethodName) prog_12_method_29_code (5 : Nat) (Option.some FieldType.int)) ∈ zn_W := zn_in (i := 870) (by decide +kernel) (by decide +kernel)
theorem zn_w871 : (Cond.methodLink "LogHouseModel" (162 : Nat) ({ cls := "LogHouseModel", name := "prepare", desc := "(II)I" } : MethodName)) ∈ zn_W := zn_in (i := 871) (by decide +kernel) (by decide +kernel)
theorem zn_w873 : (Cond.instanceMethod ({ cls := "LogHouseModel", name := "prepare", desc := "(II)I" } : MethodName)) ∈ zn_W := zn_in (i := 873) (by decide +kernel) (by decide +kernel)
theorem zn_w874 : (Cond.code ({ cls := "LogHouseModel", name := "prepare", desc := "(II)I" } : MethodName) prog_12_method_10_code (3 : Nat) (Option.some FieldType.int)) ∈ zn_W := zn_in (i := 874) (by decide +kernel) (by decide +kernel)
theorem zn_w875 : (Cond.methodLink "LogHouseModel" (114 : Nat) ({ cls := "LogHouseModel", name := "letter4", desc := "(IIII)Z" } : MethodName)) ∈ zn_W := zn_in (i := 875) (by decide +kernel) (by decide +kernel)
theorem zn_w877 : (Cond.instanceMethod ({ cls := "LogHouseModel", name := "letter4", desc := "(IIII)Z" } : MethodName)) ∈ zn_W := zn_in (i := 877) (by decide +kernel) (by decide +kernel)
theorem zn_w878 : (Cond.code ({ cls := "LogHouseModel", name := "letter4", desc := "(IIII)Z" } : MethodName) prog_12_method_9_code (6 : Nat) (Option.some FieldType.boolean)) ∈ zn_W := zn_in (i := 878) (by decide +kernel) (by decide +kernel)
theorem zn_w879 : (Cond.methodLink "LogHouseLaw" (91 : Nat) ({ cls := "LogHouseModel", name := "propose", desc := "(I)I" } : MethodName)) ∈ zn_W := zn_in (i := 879) (by decide +kernel) (by decide +kernel)
theorem zn_w880 : (Cond.instanceMethod ({ cls := "LogHouseModel", name := "propose", desc := "(I)I" } : MethodName)) ∈ zn_W := zn_in (i := 880) (by decide +kernel) (by decide +kernel)
theorem zn_w881 : (Cond.selects "LogHouseModel" ({ cls := "LogHouseModel", name := "propose", desc := "(I)I" } : MethodName) ({ cls := "LogHouseModel", name := "propose", desc := "(I)I" } : MethodName)) ∈ zn_W := zn_in (i := 881) (by decide +kernel) (by decide +kernel)
theorem zn_w882 : (Cond.code ({ cls := "LogHouseModel", name := "propose", desc := "(I)I" } : MethodName) prog_12_method_30_code (3 : Nat) (Option.some FieldType.int)) ∈ zn_W := zn_in (i := 882) (by decide +kernel) (by decide +kernel)
theorem zn_w883 : (Cond.methodLink "LogHouseModel" (165 : Nat) ({ cls := "LogHouseModel", name := "firstFree", desc := "(I)I" } : MethodName)) ∈ zn_W := zn_in (i := 883) (by decide +kernel) (by decide +kernel)
theorem zn_w885 : (Cond.instanceMethod ({ cls := "LogHouseModel", name := "firstFree", desc := "(I)I" } : MethodName)) ∈ zn_W := zn_in (i := 885) (by decide +kernel) (by decide +kernel)
theorem zn_w886 : (Cond.code ({ cls := "LogHouseModel", name := "firstFree", desc := "(I)I" } : MethodName) prog_12_method_24_code (3 : Nat) (Option.some FieldType.int)) ∈ zn_W := zn_in (i := 886) (by decide +kernel) (by decide +kernel)
theorem zn_w887 : (Cond.methodLink "LogHouseModel" (150 : Nat) ({ cls := "LogHouseModel", name := "putForward", desc := "(III[III)V" } : MethodName)) ∈ zn_W := zn_in (i := 887) (by decide +kernel) (by decide +kernel)
theorem zn_w889 : (Cond.instanceMethod ({ cls := "LogHouseModel", name := "putForward", desc := "(III[III)V" } : MethodName)) ∈ zn_W := zn_in (i := 889) (by decide +kernel) (by decide +kernel)
theorem zn_w890 : (Cond.code ({ cls := "LogHouseModel", name := "putForward", desc := "(III[III)V" } : MethodName) prog_12_method_19_code (9 : Nat) (Option.none : Option FieldType)) ∈ zn_W := zn_in (i := 890) (by decide +kernel) (by decide +kernel)
theorem zn_w891 : (Cond.methodLink "LogHouseModel" (140 : Nat) ({ cls := "LogHouseModel", name := "acceptAll", desc := "(II)I" } : MethodName)) ∈ zn_W := zn_in (i := 891) (by decide +kernel) (by decide +kernel)
theorem zn_w893 : (Cond.instanceMethod ({ cls := "LogHouseModel", name := "acceptAll", desc := "(II)I" } : MethodName)) ∈ zn_W := zn_in (i := 893) (by decide +kernel) (by decide +kernel)
theorem zn_w894 : (Cond.code ({ cls := "LogHouseModel", name := "acceptAll", desc := "(II)I" } : MethodName) prog_12_method_12_code (5 : Nat) (Option.some FieldType.int)) ∈ zn_W := zn_in (i := 894) (by decide +kernel) (by decide +kernel)
theorem zn_w895 : (Cond.methodLink "LogHouseModel" (122 : Nat) ({ cls := "LogHouseModel", name := "accept", desc := "(III)I" } : MethodName)) ∈ zn_W := zn_in (i := 895) (by decide +kernel) (by decide +kernel)
theorem zn_w897 : (Cond.instanceMethod ({ cls := "LogHouseModel", name := "accept", desc := "(III)I" } : MethodName)) ∈ zn_W := zn_in (i := 897) (by decide +kernel) (by decide +kernel)
theorem zn_w898 : (Cond.code ({ cls := "LogHouseModel", name := "accept", desc := "(III)I" } : MethodName) prog_12_method_11_code (7 : Nat) (Option.some FieldType.int)) ∈ zn_W := zn_in (i := 898) (by decide +kernel) (by decide +kernel)
theorem zn_w899 : (Cond.methodLink "LogHouseModel" (100 : Nat) ({ cls := "LogHouseModel", name := "third", desc := "(I)I" } : MethodName)) ∈ zn_W := zn_in (i := 899) (by decide +kernel) (by decide +kernel)
theorem zn_w900 : (Cond.static ({ cls := "LogHouseModel", name := "third", desc := "(I)I" } : MethodName)) ∈ zn_W := zn_in (i := 900) (by decide +kernel) (by decide +kernel)
theorem zn_w901 : (Cond.code ({ cls := "LogHouseModel", name := "third", desc := "(I)I" } : MethodName) prog_12_method_4_code (1 : Nat) (Option.some FieldType.int)) ∈ zn_W := zn_in (i := 901) (by decide +kernel) (by decide +kernel)
theorem zn_w902 : (Cond.methodLink "LogHouseModel" (118 : Nat) ({ cls := "LogHouseModel", name := "shareByte", desc := "([IIIII)I" } : MethodName)) ∈ zn_W := zn_in (i := 902) (by decide +kernel) (by decide +kernel)
theorem zn_w904 : (Cond.instanceMethod ({ cls := "LogHouseModel", name := "shareByte", desc := "([IIIII)I" } : MethodName)) ∈ zn_W := zn_in (i := 904) (by decide +kernel) (by decide +kernel)
theorem zn_w905 : (Cond.code ({ cls := "LogHouseModel", name := "shareByte", desc := "([IIIII)I" } : MethodName) prog_12_method_5_code (11 : Nat) (Option.some FieldType.int)) ∈ zn_W := zn_in (i := 905) (by decide +kernel) (by decide +kernel)
theorem zn_w906 : (Cond.methodLink "LogHouseModel" (104 : Nat) ({ cls := "LogHouseModel", name := "product", desc := "(II)I" } : MethodName)) ∈ zn_W := zn_in (i := 906) (by decide +kernel) (by decide +kernel)
theorem zn_w908 : (Cond.instanceMethod ({ cls := "LogHouseModel", name := "product", desc := "(II)I" } : MethodName)) ∈ zn_W := zn_in (i := 908) (by decide +kernel) (by decide +kernel)
theorem zn_w909 : (Cond.code ({ cls := "LogHouseModel", name := "product", desc := "(II)I" } : MethodName) prog_12_method_3_code (3 : Nat) (Option.some FieldType.int)) ∈ zn_W := zn_in (i := 909) (by decide +kernel) (by decide +kernel)
theorem zn_w910 : (Cond.methodLink "LogHouseLaw" (94 : Nat) ({ cls := "LogHouseModel", name := "resend", desc := "(I)I" } : MethodName)) ∈ zn_W := zn_in (i := 910) (by decide +kernel) (by decide +kernel)
theorem zn_w911 : (Cond.instanceMethod ({ cls := "LogHouseModel", name := "resend", desc := "(I)I" } : MethodName)) ∈ zn_W := zn_in (i := 911) (by decide +kernel) (by decide +kernel)
theorem zn_w912 : (Cond.selects "LogHouseModel" ({ cls := "LogHouseModel", name := "resend", desc := "(I)I" } : MethodName) ({ cls := "LogHouseModel", name := "resend", desc := "(I)I" } : MethodName)) ∈ zn_W := zn_in (i := 912) (by decide +kernel) (by decide +kernel)
theorem zn_w913 : (Cond.code ({ cls := "LogHouseModel", name := "resend", desc := "(I)I" } : MethodName) prog_12_method_31_code (5 : Nat) (Option.some FieldType.int)) ∈ zn_W := zn_in (i := 913) (by decide +kernel) (by decide +kernel)
theorem zn_w914 : (Cond.methodLink "LogHouseLaw" (97 : Nat) ({ cls := "LogHouseModel", name := "deliver", desc := "(I)I" } : MethodName)) ∈ zn_W := zn_in (i := 914) (by decide +kernel) (by decide +kernel)
theorem zn_w915 : (Cond.instanceMethod ({ cls := "LogHouseModel", name := "deliver", desc := "(I)I" } : MethodName)) ∈ zn_W := zn_in (i := 915) (by decide +kernel) (by decide +kernel)
theorem zn_w916 : (Cond.selects "LogHouseModel" ({ cls := "LogHouseModel", name := "deliver", desc := "(I)I" } : MethodName) ({ cls := "LogHouseModel", name := "deliver", desc := "(I)I" } : MethodName)) ∈ zn_W := zn_in (i := 916) (by decide +kernel) (by decide +kernel)
theorem zn_w917 : (Cond.code ({ cls := "LogHouseModel", name := "deliver", desc := "(I)I" } : MethodName) prog_12_method_33_code (3 : Nat) (Option.some FieldType.int)) ∈ zn_W := zn_in (i := 917) (by decide +kernel) (by decide +kernel)
theorem zn_w918 : (Cond.methodLink "LogHouseModel" (168 : Nat) ({ cls := "LogHouseModel", name := "noLetter", desc := "(I)Z" } : MethodName)) ∈ zn_W := zn_in (i := 918) (by decide +kernel) (by decide +kernel)
theorem zn_w920 : (Cond.instanceMethod ({ cls := "LogHouseModel", name := "noLetter", desc := "(I)Z" } : MethodName)) ∈ zn_W := zn_in (i := 920) (by decide +kernel) (by decide +kernel)
theorem zn_w921 : (Cond.code ({ cls := "LogHouseModel", name := "noLetter", desc := "(I)Z" } : MethodName) prog_12_method_32_code (2 : Nat) (Option.some FieldType.boolean)) ∈ zn_W := zn_in (i := 921) (by decide +kernel) (by decide +kernel)
theorem zn_w922 : (Cond.methodLink "LogHouseModel" (171 : Nat) ({ cls := "LogHouseModel", name := "remove", desc := "(I)V" } : MethodName)) ∈ zn_W := zn_in (i := 922) (by decide +kernel) (by decide +kernel)
theorem zn_w924 : (Cond.instanceMethod ({ cls := "LogHouseModel", name := "remove", desc := "(I)V" } : MethodName)) ∈ zn_W := zn_in (i := 924) (by decide +kernel) (by decide +kernel)
theorem zn_w925 : (Cond.code ({ cls := "LogHouseModel", name := "remove", desc := "(I)V" } : MethodName) prog_12_method_13_code (3 : Nat) (Option.none : Option FieldType)) ∈ zn_W := zn_in (i := 925) (by decide +kernel) (by decide +kernel)
theorem zn_w926 : (Cond.methodLink "LogHouseModel" (175 : Nat) ({ cls := "LogHouseModel", name := "comes", desc := "()I" } : MethodName)) ∈ zn_W := zn_in (i := 926) (by decide +kernel) (by decide +kernel)
theorem zn_w928 : (Cond.instanceMethod ({ cls := "LogHouseModel", name := "comes", desc := "()I" } : MethodName)) ∈ zn_W := zn_in (i := 928) (by decide +kernel) (by decide +kernel)
theorem zn_w929 : (Cond.code ({ cls := "LogHouseModel", name := "comes", desc := "()I" } : MethodName) prog_12_method_14_code (5 : Nat) (Option.some FieldType.int)) ∈ zn_W := zn_in (i := 929) (by decide +kernel) (by decide +kernel)
theorem zn_w930 : (Cond.methodLink "LogHouseModel" (126 : Nat) ({ cls := "LogHouseModel", name := "promiseComes", desc := "(II)I" } : MethodName)) ∈ zn_W := zn_in (i := 930) (by decide +kernel) (by decide +kernel)
theorem zn_w932 : (Cond.instanceMethod ({ cls := "LogHouseModel", name := "promiseComes", desc := "(II)I" } : MethodName)) ∈ zn_W := zn_in (i := 932) (by decide +kernel) (by decide +kernel)
theorem zn_w933 : (Cond.code ({ cls := "LogHouseModel", name := "promiseComes", desc := "(II)I" } : MethodName) prog_12_method_16_code (5 : Nat) (Option.some FieldType.int)) ∈ zn_W := zn_in (i := 933) (by decide +kernel) (by decide +kernel)
theorem zn_w934 : (Cond.methodLink "LogHouseModel" (133 : Nat) ({ cls := "LogHouseModel", name := "bits", desc := "(I)I" } : MethodName)) ∈ zn_W := zn_in (i := 934) (by decide +kernel) (by decide +kernel)
theorem zn_w935 : (Cond.static ({ cls := "LogHouseModel", name := "bits", desc := "(I)I" } : MethodName)) ∈ zn_W := zn_in (i := 935) (by decide +kernel) (by decide +kernel)
theorem zn_w936 : (Cond.code ({ cls := "LogHouseModel", name := "bits", desc := "(I)I" } : MethodName) prog_12_method_15_code (3 : Nat) (Option.some FieldType.int)) ∈ zn_W := zn_in (i := 936) (by decide +kernel) (by decide +kernel)
theorem zn_w937 : (Cond.methodLink "LogHouseModel" (136 : Nat) ({ cls := "LogHouseModel", name := "again", desc := "(II)Z" } : MethodName)) ∈ zn_W := zn_in (i := 937) (by decide +kernel) (by decide +kernel)
theorem zn_w939 : (Cond.instanceMethod ({ cls := "LogHouseModel", name := "again", desc := "(II)Z" } : MethodName)) ∈ zn_W := zn_in (i := 939) (by decide +kernel) (by decide +kernel)
theorem zn_w940 : (Cond.code ({ cls := "LogHouseModel", name := "again", desc := "(II)Z" } : MethodName) prog_12_method_18_code (10 : Nat) (Option.some FieldType.boolean)) ∈ zn_W := zn_in (i := 940) (by decide +kernel) (by decide +kernel)
theorem zn_w941 : (Cond.methodLink "LogHouseModel" (143 : Nat) ({ cls := "LogHouseModel", name := "heardAt", desc := "(III)I" } : MethodName)) ∈ zn_W := zn_in (i := 941) (by decide +kernel) (by decide +kernel)
theorem zn_w942 : (Cond.static ({ cls := "LogHouseModel", name := "heardAt", desc := "(III)I" } : MethodName)) ∈ zn_W := zn_in (i := 942) (by decide +kernel) (by decide +kernel)
theorem zn_w943 : (Cond.code ({ cls := "LogHouseModel", name := "heardAt", desc := "(III)I" } : MethodName) prog_12_method_17_code (3 : Nat) (Option.some FieldType.int)) ∈ zn_W := zn_in (i := 943) (by decide +kernel) (by decide +kernel)
theorem zn_w944 : (Cond.methodLink "LogHouseModel" (146 : Nat) ({ cls := "LogHouseModel", name := "together", desc := "([IIII)I" } : MethodName)) ∈ zn_W := zn_in (i := 944) (by decide +kernel) (by decide +kernel)
theorem zn_w946 : (Cond.instanceMethod ({ cls := "LogHouseModel", name := "together", desc := "([IIII)I" } : MethodName)) ∈ zn_W := zn_in (i := 946) (by decide +kernel) (by decide +kernel)
theorem zn_w947 : (Cond.code ({ cls := "LogHouseModel", name := "together", desc := "([IIII)I" } : MethodName) prog_12_method_8_code (9 : Nat) (Option.some FieldType.int)) ∈ zn_W := zn_in (i := 947) (by decide +kernel) (by decide +kernel)
theorem zn_w948 : (Cond.methodLink "LogHouseModel" (110 : Nat) ({ cls := "LogHouseModel", name := "solve", desc := "(III)V" } : MethodName)) ∈ zn_W := zn_in (i := 948) (by decide +kernel) (by decide +kernel)
theorem zn_w950 : (Cond.instanceMethod ({ cls := "LogHouseModel", name := "solve", desc := "(III)V" } : MethodName)) ∈ zn_W := zn_in (i := 950) (by decide +kernel) (by decide +kernel)
theorem zn_w951 : (Cond.code ({ cls := "LogHouseModel", name := "solve", desc := "(III)V" } : MethodName) prog_12_method_7_code (10 : Nat) (Option.none : Option FieldType)) ∈ zn_W := zn_in (i := 951) (by decide +kernel) (by decide +kernel)
theorem zn_w952 : (Cond.methodLink "LogHouseModel" (107 : Nat) ({ cls := "LogHouseModel", name := "inverse", desc := "(I)I" } : MethodName)) ∈ zn_W := zn_in (i := 952) (by decide +kernel) (by decide +kernel)
theorem zn_w954 : (Cond.instanceMethod ({ cls := "LogHouseModel", name := "inverse", desc := "(I)I" } : MethodName)) ∈ zn_W := zn_in (i := 954) (by decide +kernel) (by decide +kernel)
theorem zn_w955 : (Cond.code ({ cls := "LogHouseModel", name := "inverse", desc := "(I)I" } : MethodName) prog_12_method_6_code (3 : Nat) (Option.some FieldType.int)) ∈ zn_W := zn_in (i := 955) (by decide +kernel) (by decide +kernel)
theorem zn_w956 : (Cond.methodLink "LogHouseModel" (129 : Nat) ({ cls := "LogHouseModel", name := "acceptedComes", desc := "(II)V" } : MethodName)) ∈ zn_W := zn_in (i := 956) (by decide +kernel) (by decide +kernel)
theorem zn_w958 : (Cond.instanceMethod ({ cls := "LogHouseModel", name := "acceptedComes", desc := "(II)V" } : MethodName)) ∈ zn_W := zn_in (i := 958) (by decide +kernel) (by decide +kernel)
theorem zn_w959 : (Cond.code ({ cls := "LogHouseModel", name := "acceptedComes", desc := "(II)V" } : MethodName) prog_12_method_20_code (4 : Nat) (Option.none : Option FieldType)) ∈ zn_W := zn_in (i := 959) (by decide +kernel) (by decide +kernel)
theorem zn_w960 : (Cond.methodLink "LogHouseLaw" (101 : Nat) ({ cls := "LogHouseModel", name := "drop", desc := "(I)V" } : MethodName)) ∈ zn_W := zn_in (i := 960) (by decide +kernel) (by decide +kernel)
theorem zn_w961 : (Cond.instanceMethod ({ cls := "LogHouseModel", name := "drop", desc := "(I)V" } : MethodName)) ∈ zn_W := zn_in (i := 961) (by decide +kernel) (by decide +kernel)
theorem zn_w962 : (Cond.selects "LogHouseModel" ({ cls := "LogHouseModel", name := "drop", desc := "(I)V" } : MethodName) ({ cls := "LogHouseModel", name := "drop", desc := "(I)V" } : MethodName)) ∈ zn_W := zn_in (i := 962) (by decide +kernel) (by decide +kernel)
theorem zn_w963 : (Cond.code ({ cls := "LogHouseModel", name := "drop", desc := "(I)V" } : MethodName) prog_12_method_34_code (2 : Nat) (Option.none : Option FieldType)) ∈ zn_W := zn_in (i := 963) (by decide +kernel) (by decide +kernel)
theorem zn_w964 : (Cond.methodLink "LogHouseLaw" (104 : Nat) ({ cls := "LogHouseModel", name := "twin", desc := "(I)V" } : MethodName)) ∈ zn_W := zn_in (i := 964) (by decide +kernel) (by decide +kernel)
theorem zn_w965 : (Cond.instanceMethod ({ cls := "LogHouseModel", name := "twin", desc := "(I)V" } : MethodName)) ∈ zn_W := zn_in (i := 965) (by decide +kernel) (by decide +kernel)
theorem zn_w966 : (Cond.selects "LogHouseModel" ({ cls := "LogHouseModel", name := "twin", desc := "(I)V" } : MethodName) ({ cls := "LogHouseModel", name := "twin", desc := "(I)V" } : MethodName)) ∈ zn_W := zn_in (i := 966) (by decide +kernel) (by decide +kernel)
theorem zn_w967 : (Cond.code ({ cls := "LogHouseModel", name := "twin", desc := "(I)V" } : MethodName) prog_12_method_35_code (3 : Nat) (Option.none : Option FieldType)) ∈ zn_W := zn_in (i := 967) (by decide +kernel) (by decide +kernel)
theorem zn_w968 : (Cond.methodLink "LogHouseLaw" (108 : Nat) ({ cls := "LogHouseModel", name := "letters", desc := "()I" } : MethodName)) ∈ zn_W := zn_in (i := 968) (by decide +kernel) (by decide +kernel)
theorem zn_w969 : (Cond.instanceMethod ({ cls := "LogHouseModel", name := "letters", desc := "()I" } : MethodName)) ∈ zn_W := zn_in (i := 969) (by decide +kernel) (by decide +kernel)
theorem zn_w970 : (Cond.selects "LogHouseModel" ({ cls := "LogHouseModel", name := "letters", desc := "()I" } : MethodName) ({ cls := "LogHouseModel", name := "letters", desc := "()I" } : MethodName)) ∈ zn_W := zn_in (i := 970) (by decide +kernel) (by decide +kernel)
theorem zn_w971 : (Cond.code ({ cls := "LogHouseModel", name := "letters", desc := "()I" } : MethodName) prog_12_method_36_code (1 : Nat) (Option.some FieldType.int)) ∈ zn_W := zn_in (i := 971) (by decide +kernel) (by decide +kernel)
theorem zn_w972 : (Cond.methodLink "LogHouseLaw" (112 : Nat) ({ cls := "LogHouseModel", name := "letter", desc := "(II)I" } : MethodName)) ∈ zn_W := zn_in (i := 972) (by decide +kernel) (by decide +kernel)
theorem zn_w973 : (Cond.instanceMethod ({ cls := "LogHouseModel", name := "letter", desc := "(II)I" } : MethodName)) ∈ zn_W := zn_in (i := 973) (by decide +kernel) (by decide +kernel)
theorem zn_w974 : (Cond.selects "LogHouseModel" ({ cls := "LogHouseModel", name := "letter", desc := "(II)I" } : MethodName) ({ cls := "LogHouseModel", name := "letter", desc := "(II)I" } : MethodName)) ∈ zn_W := zn_in (i := 974) (by decide +kernel) (by decide +kernel)
theorem zn_w975 : (Cond.code ({ cls := "LogHouseModel", name := "letter", desc := "(II)I" } : MethodName) prog_12_method_37_code (3 : Nat) (Option.some FieldType.int)) ∈ zn_W := zn_in (i := 975) (by decide +kernel) (by decide +kernel)
theorem zn_w976 : (Cond.methodLink "LogHouseLaw" (116 : Nat) ({ cls := "LogHouseModel", name := "up", desc := "(IZ)Z" } : MethodName)) ∈ zn_W := zn_in (i := 976) (by decide +kernel) (by decide +kernel)
theorem zn_w977 : (Cond.instanceMethod ({ cls := "LogHouseModel", name := "up", desc := "(IZ)Z" } : MethodName)) ∈ zn_W := zn_in (i := 977) (by decide +kernel) (by decide +kernel)
theorem zn_w978 : (Cond.selects "LogHouseModel" ({ cls := "LogHouseModel", name := "up", desc := "(IZ)Z" } : MethodName) ({ cls := "LogHouseModel", name := "up", desc := "(IZ)Z" } : MethodName)) ∈ zn_W := zn_in (i := 978) (by decide +kernel) (by decide +kernel)
theorem zn_w979 : (Cond.code ({ cls := "LogHouseModel", name := "up", desc := "(IZ)Z" } : MethodName) prog_12_method_38_code (4 : Nat) (Option.some FieldType.boolean)) ∈ zn_W := zn_in (i := 979) (by decide +kernel) (by decide +kernel)
theorem zn_w980 : (Cond.methodLink "LogHouseModel" (179 : Nat) ({ cls := "LogHouseModel", name := "noStation", desc := "(I)Z" } : MethodName)) ∈ zn_W := zn_in (i := 980) (by decide +kernel) (by decide +kernel)
theorem zn_w981 : (Cond.static ({ cls := "LogHouseModel", name := "noStation", desc := "(I)Z" } : MethodName)) ∈ zn_W := zn_in (i := 981) (by decide +kernel) (by decide +kernel)
theorem zn_w982 : (Cond.code ({ cls := "LogHouseModel", name := "noStation", desc := "(I)Z" } : MethodName) prog_12_method_27_code (1 : Nat) (Option.some FieldType.boolean)) ∈ zn_W := zn_in (i := 982) (by decide +kernel) (by decide +kernel)
theorem zn_w983 : (Cond.methodLink "LogHouseLaw" (119 : Nat) ({ cls := "LogHouseModel", name := "wipe", desc := "(I)V" } : MethodName)) ∈ zn_W := zn_in (i := 983) (by decide +kernel) (by decide +kernel)
theorem zn_w984 : (Cond.instanceMethod ({ cls := "LogHouseModel", name := "wipe", desc := "(I)V" } : MethodName)) ∈ zn_W := zn_in (i := 984) (by decide +kernel) (by decide +kernel)
theorem zn_w985 : (Cond.selects "LogHouseModel" ({ cls := "LogHouseModel", name := "wipe", desc := "(I)V" } : MethodName) ({ cls := "LogHouseModel", name := "wipe", desc := "(I)V" } : MethodName)) ∈ zn_W := zn_in (i := 985) (by decide +kernel) (by decide +kernel)
theorem zn_w986 : (Cond.code ({ cls := "LogHouseModel", name := "wipe", desc := "(I)V" } : MethodName) prog_12_method_39_code (3 : Nat) (Option.none : Option FieldType)) ∈ zn_W := zn_in (i := 986) (by decide +kernel) (by decide +kernel)
theorem zn_w987 : (Cond.methodLink "LogHouseLaw" (122 : Nat) ({ cls := "LogHouseModel", name := "catchUp", desc := "(II)I" } : MethodName)) ∈ zn_W := zn_in (i := 987) (by decide +kernel) (by decide +kernel)
theorem zn_w988 : (Cond.instanceMethod ({ cls := "LogHouseModel", name := "catchUp", desc := "(II)I" } : MethodName)) ∈ zn_W := zn_in (i := 988) (by decide +kernel) (by decide +kernel)
theorem zn_w989 : (Cond.selects "LogHouseModel" ({ cls := "LogHouseModel", name := "catchUp", desc := "(II)I" } : MethodName) ({ cls := "LogHouseModel", name := "catchUp", desc := "(II)I" } : MethodName)) ∈ zn_W := zn_in (i := 989) (by decide +kernel) (by decide +kernel)
theorem zn_w990 : (Cond.code ({ cls := "LogHouseModel", name := "catchUp", desc := "(II)I" } : MethodName) prog_12_method_40_code (9 : Nat) (Option.some FieldType.int)) ∈ zn_W := zn_in (i := 990) (by decide +kernel) (by decide +kernel)
theorem zn_w991 : (Cond.methodLink "LogHouseModel" (182 : Nat) ({ cls := "LogHouseModel", name := "findThree", desc := "(III)Z" } : MethodName)) ∈ zn_W := zn_in (i := 991) (by decide +kernel) (by decide +kernel)
theorem zn_w993 : (Cond.instanceMethod ({ cls := "LogHouseModel", name := "findThree", desc := "(III)Z" } : MethodName)) ∈ zn_W := zn_in (i := 993) (by decide +kernel) (by decide +kernel)
theorem zn_w994 : (Cond.code ({ cls := "LogHouseModel", name := "findThree", desc := "(III)Z" } : MethodName) prog_12_method_22_code (6 : Nat) (Option.some FieldType.boolean)) ∈ zn_W := zn_in (i := 994) (by decide +kernel) (by decide +kernel)
theorem zn_w995 : (Cond.methodLink "LogHouseModel" (154 : Nat) ({ cls := "LogHouseModel", name := "hasOf", desc := "(III)Z" } : MethodName)) ∈ zn_W := zn_in (i := 995) (by decide +kernel) (by decide +kernel)
theorem zn_w997 : (Cond.instanceMethod ({ cls := "LogHouseModel", name := "hasOf", desc := "(III)Z" } : MethodName)) ∈ zn_W := zn_in (i := 997) (by decide +kernel) (by decide +kernel)
theorem zn_w998 : (Cond.code ({ cls := "LogHouseModel", name := "hasOf", desc := "(III)Z" } : MethodName) prog_12_method_21_code (5 : Nat) (Option.some FieldType.boolean)) ∈ zn_W := zn_in (i := 998) (by decide +kernel) (by decide +kernel)
theorem zn_w999 : (Cond.methodLink "LogHouseModel" (185 : Nat) ({ cls := "LogHouseModel", name := "fromThree", desc := "(I)I" } : MethodName)) ∈ zn_W := zn_in (i := 999) (by decide +kernel) (by decide +kernel)
theorem zn_w1001 : (Cond.instanceMethod ({ cls := "LogHouseModel", name := "fromThree", desc := "(I)I" } : MethodName)) ∈ zn_W := zn_in (i := 1001) (by decide +kernel) (by decide +kernel)
theorem zn_w1002 : (Cond.code ({ cls := "LogHouseModel", name := "fromThree", desc := "(I)I" } : MethodName) prog_12_method_23_code (2 : Nat) (Option.some FieldType.int)) ∈ zn_W := zn_in (i := 1002) (by decide +kernel) (by decide +kernel)
theorem zn_w1003 : (Cond.methodLink "LogHouseLaw" (125 : Nat) ({ cls := "LogHouseModel", name := "decided", desc := "(II)I" } : MethodName)) ∈ zn_W := zn_in (i := 1003) (by decide +kernel) (by decide +kernel)
theorem zn_w1004 : (Cond.instanceMethod ({ cls := "LogHouseModel", name := "decided", desc := "(II)I" } : MethodName)) ∈ zn_W := zn_in (i := 1004) (by decide +kernel) (by decide +kernel)
theorem zn_w1005 : (Cond.selects "LogHouseModel" ({ cls := "LogHouseModel", name := "decided", desc := "(II)I" } : MethodName) ({ cls := "LogHouseModel", name := "decided", desc := "(II)I" } : MethodName)) ∈ zn_W := zn_in (i := 1005) (by decide +kernel) (by decide +kernel)
theorem zn_w1006 : (Cond.code ({ cls := "LogHouseModel", name := "decided", desc := "(II)I" } : MethodName) prog_12_method_41_code (3 : Nat) (Option.some FieldType.int)) ∈ zn_W := zn_in (i := 1006) (by decide +kernel) (by decide +kernel)
theorem zn_w1007 : (Cond.methodLink "LogHouseLaw" (128 : Nat) ({ cls := "LogHouseModel", name := "read", desc := "(II)I" } : MethodName)) ∈ zn_W := zn_in (i := 1007) (by decide +kernel) (by decide +kernel)
theorem zn_w1008 : (Cond.instanceMethod ({ cls := "LogHouseModel", name := "read", desc := "(II)I" } : MethodName)) ∈ zn_W := zn_in (i := 1008) (by decide +kernel) (by decide +kernel)
theorem zn_w1009 : (Cond.selects "LogHouseModel" ({ cls := "LogHouseModel", name := "read", desc := "(II)I" } : MethodName) ({ cls := "LogHouseModel", name := "read", desc := "(II)I" } : MethodName)) ∈ zn_W := zn_in (i := 1009) (by decide +kernel) (by decide +kernel)
theorem zn_w1010 : (Cond.code ({ cls := "LogHouseModel", name := "read", desc := "(II)I" } : MethodName) prog_12_method_42_code (5 : Nat) (Option.some FieldType.int)) ∈ zn_W := zn_in (i := 1010) (by decide +kernel) (by decide +kernel)
theorem zn_w1011 : (Cond.methodLink "LogHouseLaw" (131 : Nat) ({ cls := "LogHouseModel", name := "readByte", desc := "(I)I" } : MethodName)) ∈ zn_W := zn_in (i := 1011) (by decide +kernel) (by decide +kernel)
theorem zn_w1012 : (Cond.instanceMethod ({ cls := "LogHouseModel", name := "readByte", desc := "(I)I" } : MethodName)) ∈ zn_W := zn_in (i := 1012) (by decide +kernel) (by decide +kernel)
theorem zn_w1013 : (Cond.selects "LogHouseModel" ({ cls := "LogHouseModel", name := "readByte", desc := "(I)I" } : MethodName) ({ cls := "LogHouseModel", name := "readByte", desc := "(I)I" } : MethodName)) ∈ zn_W := zn_in (i := 1013) (by decide +kernel) (by decide +kernel)
theorem zn_w1014 : (Cond.code ({ cls := "LogHouseModel", name := "readByte", desc := "(I)I" } : MethodName) prog_12_method_43_code (2 : Nat) (Option.some FieldType.int)) ∈ zn_W := zn_in (i := 1014) (by decide +kernel) (by decide +kernel)
theorem zn_w1015 : (Cond.methodLink "LogHouseLaw" (134 : Nat) ({ cls := "LogHouseModel", name := "state", desc := "(II)I" } : MethodName)) ∈ zn_W := zn_in (i := 1015) (by decide +kernel) (by decide +kernel)
theorem zn_w1016 : (Cond.instanceMethod ({ cls := "LogHouseModel", name := "state", desc := "(II)I" } : MethodName)) ∈ zn_W := zn_in (i := 1016) (by decide +kernel) (by decide +kernel)
theorem zn_w1017 : (Cond.selects "LogHouseModel" ({ cls := "LogHouseModel", name := "state", desc := "(II)I" } : MethodName) ({ cls := "LogHouseModel", name := "state", desc := "(II)I" } : MethodName)) ∈ zn_W := zn_in (i := 1017) (by decide +kernel) (by decide +kernel)
theorem zn_w1018 : (Cond.code ({ cls := "LogHouseModel", name := "state", desc := "(II)I" } : MethodName) prog_12_method_44_code (3 : Nat) (Option.some FieldType.int)) ∈ zn_W := zn_in (i := 1018) (by decide +kernel) (by decide +kernel)
theorem zn_w1019 : (Cond.methodLink "LogHouseLaw" (137 : Nat) ({ cls := "LogHouseModel", name := "station", desc := "(II)I" } : MethodName)) ∈ zn_W := zn_in (i := 1019) (by decide +kernel) (by decide +kernel)
theorem zn_w1020 : (Cond.instanceMethod ({ cls := "LogHouseModel", name := "station", desc := "(II)I" } : MethodName)) ∈ zn_W := zn_in (i := 1020) (by decide +kernel) (by decide +kernel)
theorem zn_w1021 : (Cond.selects "LogHouseModel" ({ cls := "LogHouseModel", name := "station", desc := "(II)I" } : MethodName) ({ cls := "LogHouseModel", name := "station", desc := "(II)I" } : MethodName)) ∈ zn_W := zn_in (i := 1021) (by decide +kernel) (by decide +kernel)
theorem zn_w1022 : (Cond.code ({ cls := "LogHouseModel", name := "station", desc := "(II)I" } : MethodName) prog_12_method_45_code (5 : Nat) (Option.some FieldType.int)) ∈ zn_W := zn_in (i := 1022) (by decide +kernel) (by decide +kernel)
theorem zn_w1023 : (Cond.methodLink "LogHouseLaw" (141 : Nat) ({ cls := "LogHouseModel", name := "share", desc := "(III)I" } : MethodName)) ∈ zn_W := zn_in (i := 1023) (by decide +kernel) (by decide +kernel)
theorem zn_w1024 : (Cond.instanceMethod ({ cls := "LogHouseModel", name := "share", desc := "(III)I" } : MethodName)) ∈ zn_W := zn_in (i := 1024) (by decide +kernel) (by decide +kernel)
theorem zn_w1025 : (Cond.selects "LogHouseModel" ({ cls := "LogHouseModel", name := "share", desc := "(III)I" } : MethodName) ({ cls := "LogHouseModel", name := "share", desc := "(III)I" } : MethodName)) ∈ zn_W := zn_in (i := 1025) (by decide +kernel) (by decide +kernel)
theorem zn_w1026 : (Cond.code ({ cls := "LogHouseModel", name := "share", desc := "(III)I" } : MethodName) prog_12_method_46_code (6 : Nat) (Option.some FieldType.int)) ∈ zn_W := zn_in (i := 1026) (by decide +kernel) (by decide +kernel)
theorem zn_p0 : Cond.selects "java/lang/Throwable" ⟨"java/lang/Throwable", "fillInStackTrace", "(I)Ljava/lang/Throwable;"⟩ ⟨"java/lang/Throwable", "fillInStackTrace", "(I)Ljava/lang/Throwable;"⟩ ∈ zn_W := zn_sl (q := (⟨"java/lang/Throwable", "fillInStackTrace", "(I)Ljava/lang/Throwable;"⟩, 6)) (i := 0) (by decide +kernel) (by decide +kernel)
theorem zn_p1 : Cond.selects "LogHouse" ⟨"LogHouse", "highestPromised", "()I"⟩ ⟨"LogHouse", "highestPromised", "()I"⟩ ∈ zn_W := zn_sl (q := (⟨"LogHouse", "highestPromised", "()I"⟩, 6)) (i := 1) (by decide +kernel) (by decide +kernel)
theorem zn_p2 : Cond.selects "LogHouse" ⟨"LogHouse", "sendPrepares", "(LLogHouse$Proposer;)V"⟩ ⟨"LogHouse", "sendPrepares", "(LLogHouse$Proposer;)V"⟩ ∈ zn_W := zn_sl (q := (⟨"LogHouse", "sendPrepares", "(LLogHouse$Proposer;)V"⟩, 6)) (i := 2) (by decide +kernel) (by decide +kernel)
theorem zn_p3 : Cond.selects "LogHouse" ⟨"LogHouse", "sendAccepts", "(LLogHouse$Proposer;I)V"⟩ ⟨"LogHouse", "sendAccepts", "(LLogHouse$Proposer;I)V"⟩ ∈ zn_W := zn_sl (q := (⟨"LogHouse", "sendAccepts", "(LLogHouse$Proposer;I)V"⟩, 6)) (i := 3) (by decide +kernel) (by decide +kernel)
theorem zn_p4 : Cond.selects "LogHouse" ⟨"LogHouse", "sendAllAccepts", "(LLogHouse$Proposer;)V"⟩ ⟨"LogHouse", "sendAllAccepts", "(LLogHouse$Proposer;)V"⟩ ∈ zn_W := zn_sl (q := (⟨"LogHouse", "sendAllAccepts", "(LLogHouse$Proposer;)V"⟩, 6)) (i := 4) (by decide +kernel) (by decide +kernel)
theorem zn_p5 : Cond.selects "LogHouse" ⟨"LogHouse", "checkLetter", "(I)V"⟩ ⟨"LogHouse", "checkLetter", "(I)V"⟩ ∈ zn_W := zn_sl (q := (⟨"LogHouse", "checkLetter", "(I)V"⟩, 6)) (i := 5) (by decide +kernel) (by decide +kernel)
theorem zn_p6 : Cond.selects "LogHouse" ⟨"LogHouse", "bringPrepare", "(LLogHouse$Letter;)V"⟩ ⟨"LogHouse", "bringPrepare", "(LLogHouse$Letter;)V"⟩ ∈ zn_W := zn_sl (q := (⟨"LogHouse", "bringPrepare", "(LLogHouse$Letter;)V"⟩, 6)) (i := 6) (by decide +kernel) (by decide +kernel)
theorem zn_p7 : Cond.selects "LogHouse" ⟨"LogHouse", "bringPromise", "(LLogHouse$Letter;)V"⟩ ⟨"LogHouse", "bringPromise", "(LLogHouse$Letter;)V"⟩ ∈ zn_W := zn_sl (q := (⟨"LogHouse", "bringPromise", "(LLogHouse$Letter;)V"⟩, 6)) (i := 7) (by decide +kernel) (by decide +kernel)
theorem zn_p8 : Cond.selects "LogHouse" ⟨"LogHouse", "lead", "(LLogHouse$Proposer;)V"⟩ ⟨"LogHouse", "lead", "(LLogHouse$Proposer;)V"⟩ ∈ zn_W := zn_sl (q := (⟨"LogHouse", "lead", "(LLogHouse$Proposer;)V"⟩, 6)) (i := 8) (by decide +kernel) (by decide +kernel)
theorem zn_p9 : Cond.selects "LogHouse$Proposer" ⟨"LogHouse$Proposer", "addPromises", "(ILLogHouse$Gathering;)V"⟩ ⟨"LogHouse$Proposer", "addPromises", "(ILLogHouse$Gathering;)V"⟩ ∈ zn_W := zn_sl (q := (⟨"LogHouse$Proposer", "addPromises", "(ILLogHouse$Gathering;)V"⟩, 8)) (i := 9) (by decide +kernel) (by decide +kernel)
theorem zn_p10 : Cond.selects "LogHouse" ⟨"LogHouse", "bringAccept", "(LLogHouse$Letter;)V"⟩ ⟨"LogHouse", "bringAccept", "(LLogHouse$Letter;)V"⟩ ∈ zn_W := zn_sl (q := (⟨"LogHouse", "bringAccept", "(LLogHouse$Letter;)V"⟩, 6)) (i := 10) (by decide +kernel) (by decide +kernel)
theorem zn_p11 : Cond.selects "LogHouse" ⟨"LogHouse", "gatherFromStations", "(II)Z"⟩ ⟨"LogHouse", "gatherFromStations", "(II)Z"⟩ ∈ zn_W := zn_sl (q := (⟨"LogHouse", "gatherFromStations", "(II)Z"⟩, 6)) (i := 11) (by decide +kernel) (by decide +kernel)
theorem zn_p12 : Cond.selects "LogHouseModel" ⟨"LogHouseModel", "prepare", "(II)I"⟩ ⟨"LogHouseModel", "prepare", "(II)I"⟩ ∈ zn_W := zn_sl (q := (⟨"LogHouseModel", "prepare", "(II)I"⟩, 28)) (i := 12) (by decide +kernel) (by decide +kernel)
theorem zn_p13 : Cond.selects "LogHouseModel" ⟨"LogHouseModel", "letter4", "(IIII)Z"⟩ ⟨"LogHouseModel", "letter4", "(IIII)Z"⟩ ∈ zn_W := zn_sl (q := (⟨"LogHouseModel", "letter4", "(IIII)Z"⟩, 28)) (i := 13) (by decide +kernel) (by decide +kernel)
theorem zn_p14 : Cond.selects "LogHouseModel" ⟨"LogHouseModel", "firstFree", "(I)I"⟩ ⟨"LogHouseModel", "firstFree", "(I)I"⟩ ∈ zn_W := zn_sl (q := (⟨"LogHouseModel", "firstFree", "(I)I"⟩, 28)) (i := 14) (by decide +kernel) (by decide +kernel)
theorem zn_p15 : Cond.selects "LogHouseModel" ⟨"LogHouseModel", "putForward", "(III[III)V"⟩ ⟨"LogHouseModel", "putForward", "(III[III)V"⟩ ∈ zn_W := zn_sl (q := (⟨"LogHouseModel", "putForward", "(III[III)V"⟩, 28)) (i := 15) (by decide +kernel) (by decide +kernel)
theorem zn_p16 : Cond.selects "LogHouseModel" ⟨"LogHouseModel", "acceptAll", "(II)I"⟩ ⟨"LogHouseModel", "acceptAll", "(II)I"⟩ ∈ zn_W := zn_sl (q := (⟨"LogHouseModel", "acceptAll", "(II)I"⟩, 28)) (i := 16) (by decide +kernel) (by decide +kernel)
theorem zn_p17 : Cond.selects "LogHouseModel" ⟨"LogHouseModel", "accept", "(III)I"⟩ ⟨"LogHouseModel", "accept", "(III)I"⟩ ∈ zn_W := zn_sl (q := (⟨"LogHouseModel", "accept", "(III)I"⟩, 28)) (i := 17) (by decide +kernel) (by decide +kernel)
theorem zn_p18 : Cond.selects "LogHouseModel" ⟨"LogHouseModel", "shareByte", "([IIIII)I"⟩ ⟨"LogHouseModel", "shareByte", "([IIIII)I"⟩ ∈ zn_W := zn_sl (q := (⟨"LogHouseModel", "shareByte", "([IIIII)I"⟩, 28)) (i := 18) (by decide +kernel) (by decide +kernel)
theorem zn_p19 : Cond.selects "LogHouseModel" ⟨"LogHouseModel", "product", "(II)I"⟩ ⟨"LogHouseModel", "product", "(II)I"⟩ ∈ zn_W := zn_sl (q := (⟨"LogHouseModel", "product", "(II)I"⟩, 28)) (i := 19) (by decide +kernel) (by decide +kernel)
theorem zn_p20 : Cond.selects "LogHouseModel" ⟨"LogHouseModel", "noLetter", "(I)Z"⟩ ⟨"LogHouseModel", "noLetter", "(I)Z"⟩ ∈ zn_W := zn_sl (q := (⟨"LogHouseModel", "noLetter", "(I)Z"⟩, 28)) (i := 20) (by decide +kernel) (by decide +kernel)
theorem zn_p21 : Cond.selects "LogHouseModel" ⟨"LogHouseModel", "remove", "(I)V"⟩ ⟨"LogHouseModel", "remove", "(I)V"⟩ ∈ zn_W := zn_sl (q := (⟨"LogHouseModel", "remove", "(I)V"⟩, 28)) (i := 21) (by decide +kernel) (by decide +kernel)
theorem zn_p22 : Cond.selects "LogHouseModel" ⟨"LogHouseModel", "comes", "()I"⟩ ⟨"LogHouseModel", "comes", "()I"⟩ ∈ zn_W := zn_sl (q := (⟨"LogHouseModel", "comes", "()I"⟩, 28)) (i := 22) (by decide +kernel) (by decide +kernel)
theorem zn_p23 : Cond.selects "LogHouseModel" ⟨"LogHouseModel", "promiseComes", "(II)I"⟩ ⟨"LogHouseModel", "promiseComes", "(II)I"⟩ ∈ zn_W := zn_sl (q := (⟨"LogHouseModel", "promiseComes", "(II)I"⟩, 28)) (i := 23) (by decide +kernel) (by decide +kernel)
theorem zn_p24 : Cond.selects "LogHouseModel" ⟨"LogHouseModel", "again", "(II)Z"⟩ ⟨"LogHouseModel", "again", "(II)Z"⟩ ∈ zn_W := zn_sl (q := (⟨"LogHouseModel", "again", "(II)Z"⟩, 28)) (i := 24) (by decide +kernel) (by decide +kernel)
theorem zn_p25 : Cond.selects "LogHouseModel" ⟨"LogHouseModel", "together", "([IIII)I"⟩ ⟨"LogHouseModel", "together", "([IIII)I"⟩ ∈ zn_W := zn_sl (q := (⟨"LogHouseModel", "together", "([IIII)I"⟩, 28)) (i := 25) (by decide +kernel) (by decide +kernel)
theorem zn_p26 : Cond.selects "LogHouseModel" ⟨"LogHouseModel", "solve", "(III)V"⟩ ⟨"LogHouseModel", "solve", "(III)V"⟩ ∈ zn_W := zn_sl (q := (⟨"LogHouseModel", "solve", "(III)V"⟩, 28)) (i := 26) (by decide +kernel) (by decide +kernel)
theorem zn_p27 : Cond.selects "LogHouseModel" ⟨"LogHouseModel", "inverse", "(I)I"⟩ ⟨"LogHouseModel", "inverse", "(I)I"⟩ ∈ zn_W := zn_sl (q := (⟨"LogHouseModel", "inverse", "(I)I"⟩, 28)) (i := 27) (by decide +kernel) (by decide +kernel)
theorem zn_p28 : Cond.selects "LogHouseModel" ⟨"LogHouseModel", "acceptedComes", "(II)V"⟩ ⟨"LogHouseModel", "acceptedComes", "(II)V"⟩ ∈ zn_W := zn_sl (q := (⟨"LogHouseModel", "acceptedComes", "(II)V"⟩, 28)) (i := 28) (by decide +kernel) (by decide +kernel)
theorem zn_p29 : Cond.selects "LogHouseModel" ⟨"LogHouseModel", "findThree", "(III)Z"⟩ ⟨"LogHouseModel", "findThree", "(III)Z"⟩ ∈ zn_W := zn_sl (q := (⟨"LogHouseModel", "findThree", "(III)Z"⟩, 28)) (i := 29) (by decide +kernel) (by decide +kernel)
theorem zn_p30 : Cond.selects "LogHouseModel" ⟨"LogHouseModel", "hasOf", "(III)Z"⟩ ⟨"LogHouseModel", "hasOf", "(III)Z"⟩ ∈ zn_W := zn_sl (q := (⟨"LogHouseModel", "hasOf", "(III)Z"⟩, 28)) (i := 30) (by decide +kernel) (by decide +kernel)
theorem zn_p31 : Cond.selects "LogHouseModel" ⟨"LogHouseModel", "fromThree", "(I)I"⟩ ⟨"LogHouseModel", "fromThree", "(I)I"⟩ ∈ zn_W := zn_sl (q := (⟨"LogHouseModel", "fromThree", "(I)I"⟩, 28)) (i := 31) (by decide +kernel) (by decide +kernel)
end
section
theorem d_Ho_init_0 : decode prog_1_method_1_code 0 = .ok (.aload_n 0, 1) := by decide +kernel
theorem d_Ho_init_1 : decode prog_1_method_1_code 1 = .ok (.invokespecial 1, 3) := by decide +kernel
theorem d_Ho_init_4 : decode prog_1_method_1_code 4 = .ok (.aload_n 0, 1) := by decide +kernel
theorem d_Ho_init_5 : decode prog_1_method_1_code 5 = .ok (.bipush 7, 2) := by decide +kernel
theorem d_Ho_init_7 : decode prog_1_method_1_code 7 = .ok (.anewarray 9, 3) := by decide +kernel
theorem d_Ho_init_10 : decode prog_1_method_1_code 10 = .ok (.putfield 11, 3) := by decide +kernel
theorem d_Ho_init_13 : decode prog_1_method_1_code 13 = .ok (.iconst 0, 1) := by decide +kernel
theorem d_Ho_init_14 : decode prog_1_method_1_code 14 = .ok (.istore_n 1, 1) := by decide +kernel
theorem d_Ho_init_15 : decode prog_1_method_1_code 15 = .ok (.iload_n 1, 1) := by decide +kernel
theorem d_Ho_init_16 : decode prog_1_method_1_code 16 = .ok (.bipush 7, 2) := by decide +kernel
theorem d_Ho_init_18 : decode prog_1_method_1_code 18 = .ok (.if_icmp .ge 22, 3) := by decide +kernel
theorem d_Ho_init_21 : decode prog_1_method_1_code 21 = .ok (.aload_n 0, 1) := by decide +kernel
theorem d_Ho_init_22 : decode prog_1_method_1_code 22 = .ok (.getfield 11, 3) := by decide +kernel
theorem d_Ho_init_25 : decode prog_1_method_1_code 25 = .ok (.iload_n 1, 1) := by decide +kernel
theorem d_Ho_init_26 : decode prog_1_method_1_code 26 = .ok (.new 9, 3) := by decide +kernel
theorem d_Ho_init_29 : decode prog_1_method_1_code 29 = .ok (.dup, 1) := by decide +kernel
theorem d_Ho_init_30 : decode prog_1_method_1_code 30 = .ok (.invokespecial 15, 3) := by decide +kernel
theorem d_Ho_init_33 : decode prog_1_method_1_code 33 = .ok (.aastore, 1) := by decide +kernel
theorem d_Ho_init_34 : decode prog_1_method_1_code 34 = .ok (.iinc 1 1, 3) := by decide +kernel
theorem d_Ho_init_37 : decode prog_1_method_1_code 37 = .ok (.goto (-22), 3) := by decide +kernel
theorem d_Ho_init_40 : decode prog_1_method_1_code 40 = .ok (.aload_n 0, 1) := by decide +kernel
theorem d_Ho_init_41 : decode prog_1_method_1_code 41 = .ok (.iconst 2, 1) := by decide +kernel
theorem d_Ho_init_42 : decode prog_1_method_1_code 42 = .ok (.anewarray 16, 3) := by decide +kernel
theorem d_Ho_init_45 : decode prog_1_method_1_code 45 = .ok (.putfield 18, 3) := by decide +kernel
theorem d_Ho_init_48 : decode prog_1_method_1_code 48 = .ok (.iconst 0, 1) := by decide +kernel
theorem d_Ho_init_49 : decode prog_1_method_1_code 49 = .ok (.istore_n 1, 1) := by decide +kernel
theorem d_Ho_init_50 : decode prog_1_method_1_code 50 = .ok (.iload_n 1, 1) := by decide +kernel
theorem d_Ho_init_51 : decode prog_1_method_1_code 51 = .ok (.iconst 2, 1) := by decide +kernel
theorem d_Ho_init_52 : decode prog_1_method_1_code 52 = .ok (.if_icmp .ge 23, 3) := by decide +kernel
theorem d_Ho_init_55 : decode prog_1_method_1_code 55 = .ok (.aload_n 0, 1) := by decide +kernel
theorem d_Ho_init_56 : decode prog_1_method_1_code 56 = .ok (.getfield 18, 3) := by decide +kernel
theorem d_Ho_init_59 : decode prog_1_method_1_code 59 = .ok (.iload_n 1, 1) := by decide +kernel
theorem d_Ho_init_60 : decode prog_1_method_1_code 60 = .ok (.new 16, 3) := by decide +kernel
theorem d_Ho_init_63 : decode prog_1_method_1_code 63 = .ok (.dup, 1) := by decide +kernel
theorem d_Ho_init_64 : decode prog_1_method_1_code 64 = .ok (.iload_n 1, 1) := by decide +kernel
theorem d_Ho_init_65 : decode prog_1_method_1_code 65 = .ok (.invokespecial 22, 3) := by decide +kernel
theorem d_Ho_init_68 : decode prog_1_method_1_code 68 = .ok (.aastore, 1) := by decide +kernel
theorem d_Ho_init_69 : decode prog_1_method_1_code 69 = .ok (.iinc 1 1, 3) := by decide +kernel
theorem d_Ho_init_72 : decode prog_1_method_1_code 72 = .ok (.goto (-22), 3) := by decide +kernel
theorem d_Ho_init_75 : decode prog_1_method_1_code 75 = .ok (.aload_n 0, 1) := by decide +kernel
theorem d_Ho_init_76 : decode prog_1_method_1_code 76 = .ok (.new 25, 3) := by decide +kernel
theorem d_Ho_init_79 : decode prog_1_method_1_code 79 = .ok (.dup, 1) := by decide +kernel
theorem d_Ho_init_80 : decode prog_1_method_1_code 80 = .ok (.invokespecial 27, 3) := by decide +kernel
theorem d_Ho_init_83 : decode prog_1_method_1_code 83 = .ok (.putfield 28, 3) := by decide +kernel
theorem d_Ho_init_86 : decode prog_1_method_1_code 86 = .ok (.aload_n 0, 1) := by decide +kernel
theorem d_Ho_init_87 : decode prog_1_method_1_code 87 = .ok (.new 32, 3) := by decide +kernel
theorem d_Ho_init_90 : decode prog_1_method_1_code 90 = .ok (.dup, 1) := by decide +kernel
theorem d_Ho_init_91 : decode prog_1_method_1_code 91 = .ok (.invokespecial 34, 3) := by decide +kernel
theorem d_Ho_init_94 : decode prog_1_method_1_code 94 = .ok (.putfield 35, 3) := by decide +kernel
theorem d_Ho_init_97 : decode prog_1_method_1_code 97 = .ok (.aload_n 0, 1) := by decide +kernel
theorem d_Ho_init_98 : decode prog_1_method_1_code 98 = .ok (.new 39, 3) := by decide +kernel
theorem d_Ho_init_101 : decode prog_1_method_1_code 101 = .ok (.dup, 1) := by decide +kernel
theorem d_Ho_init_102 : decode prog_1_method_1_code 102 = .ok (.invokespecial 41, 3) := by decide +kernel
theorem d_Ho_init_105 : decode prog_1_method_1_code 105 = .ok (.putfield 42, 3) := by decide +kernel
theorem d_Ho_init_108 : decode prog_1_method_1_code 108 = .ok (.aload_n 0, 1) := by decide +kernel
theorem d_Ho_init_109 : decode prog_1_method_1_code 109 = .ok (.new 39, 3) := by decide +kernel
theorem d_Ho_init_112 : decode prog_1_method_1_code 112 = .ok (.dup, 1) := by decide +kernel
theorem d_Ho_init_113 : decode prog_1_method_1_code 113 = .ok (.invokespecial 41, 3) := by decide +kernel
theorem d_Ho_init_116 : decode prog_1_method_1_code 116 = .ok (.putfield 46, 3) := by decide +kernel
theorem d_Ho_init_119 : decode prog_1_method_1_code 119 = .ok (.return_, 1) := by decide +kernel
theorem d_St_init_0 : decode prog_10_method_1_code 0 = .ok (.aload_n 0, 1) := by decide +kernel
theorem d_St_init_1 : decode prog_10_method_1_code 1 = .ok (.invokespecial 1, 3) := by decide +kernel
theorem d_St_init_4 : decode prog_10_method_1_code 4 = .ok (.aload_n 0, 1) := by decide +kernel
theorem d_St_init_5 : decode prog_10_method_1_code 5 = .ok (.iconst 1, 1) := by decide +kernel
theorem d_St_init_6 : decode prog_10_method_1_code 6 = .ok (.putfield 7, 3) := by decide +kernel
theorem d_St_init_9 : decode prog_10_method_1_code 9 = .ok (.aload_n 0, 1) := by decide +kernel
theorem d_St_init_10 : decode prog_10_method_1_code 10 = .ok (.new 13, 3) := by decide +kernel
theorem d_St_init_13 : decode prog_10_method_1_code 13 = .ok (.dup, 1) := by decide +kernel
theorem d_St_init_14 : decode prog_10_method_1_code 14 = .ok (.invokespecial 15, 3) := by decide +kernel
theorem d_St_init_17 : decode prog_10_method_1_code 17 = .ok (.putfield 16, 3) := by decide +kernel
theorem d_St_init_20 : decode prog_10_method_1_code 20 = .ok (.return_, 1) := by decide +kernel
theorem d_Sh_init_0 : decode prog_8_method_1_code 0 = .ok (.aload_n 0, 1) := by decide +kernel
theorem d_Sh_init_1 : decode prog_8_method_1_code 1 = .ok (.invokespecial 3, 3) := by decide +kernel
theorem d_Sh_init_4 : decode prog_8_method_1_code 4 = .ok (.aload_n 0, 1) := by decide +kernel
theorem d_Sh_init_5 : decode prog_8_method_1_code 5 = .ok (.bipush 8, 2) := by decide +kernel
theorem d_Sh_init_7 : decode prog_8_method_1_code 7 = .ok (.newarray .int, 2) := by decide +kernel
theorem d_Sh_init_9 : decode prog_8_method_1_code 9 = .ok (.putfield 9, 3) := by decide +kernel
theorem d_Sh_init_12 : decode prog_8_method_1_code 12 = .ok (.aload_n 0, 1) := by decide +kernel
theorem d_Sh_init_13 : decode prog_8_method_1_code 13 = .ok (.bipush 8, 2) := by decide +kernel
theorem d_Sh_init_15 : decode prog_8_method_1_code 15 = .ok (.newarray .int, 2) := by decide +kernel
theorem d_Sh_init_17 : decode prog_8_method_1_code 17 = .ok (.putfield 15, 3) := by decide +kernel
theorem d_Sh_init_20 : decode prog_8_method_1_code 20 = .ok (.aload_n 0, 1) := by decide +kernel
theorem d_Sh_init_21 : decode prog_8_method_1_code 21 = .ok (.bipush 8, 2) := by decide +kernel
theorem d_Sh_init_23 : decode prog_8_method_1_code 23 = .ok (.newarray .int, 2) := by decide +kernel
theorem d_Sh_init_25 : decode prog_8_method_1_code 25 = .ok (.putfield 18, 3) := by decide +kernel
theorem d_Sh_init_28 : decode prog_8_method_1_code 28 = .ok (.aload_n 0, 1) := by decide +kernel
theorem d_Sh_init_29 : decode prog_8_method_1_code 29 = .ok (.bipush 8, 2) := by decide +kernel
theorem d_Sh_init_31 : decode prog_8_method_1_code 31 = .ok (.newarray .long, 2) := by decide +kernel
theorem d_Sh_init_33 : decode prog_8_method_1_code 33 = .ok (.putfield 21, 3) := by decide +kernel
theorem d_Sh_init_36 : decode prog_8_method_1_code 36 = .ok (.return_, 1) := by decide +kernel
theorem d_Pr_init_0 : decode prog_5_method_1_code 0 = .ok (.aload_n 0, 1) := by decide +kernel
theorem d_Pr_init_1 : decode prog_5_method_1_code 1 = .ok (.invokespecial 3, 3) := by decide +kernel
theorem d_Pr_init_4 : decode prog_5_method_1_code 4 = .ok (.aload_n 0, 1) := by decide +kernel
theorem d_Pr_init_5 : decode prog_5_method_1_code 5 = .ok (.iconst 0, 1) := by decide +kernel
theorem d_Pr_init_6 : decode prog_5_method_1_code 6 = .ok (.putfield 9, 3) := by decide +kernel
theorem d_Pr_init_9 : decode prog_5_method_1_code 9 = .ok (.aload_n 0, 1) := by decide +kernel
theorem d_Pr_init_10 : decode prog_5_method_1_code 10 = .ok (.bipush 24, 2) := by decide +kernel
theorem d_Pr_init_12 : decode prog_5_method_1_code 12 = .ok (.newarray .byte, 2) := by decide +kernel
theorem d_Pr_init_14 : decode prog_5_method_1_code 14 = .ok (.putfield 15, 3) := by decide +kernel
theorem d_Pr_init_17 : decode prog_5_method_1_code 17 = .ok (.aload_n 0, 1) := by decide +kernel
theorem d_Pr_init_18 : decode prog_5_method_1_code 18 = .ok (.bipush 7, 2) := by decide +kernel
theorem d_Pr_init_20 : decode prog_5_method_1_code 20 = .ok (.anewarray 19, 3) := by decide +kernel
theorem d_Pr_init_23 : decode prog_5_method_1_code 23 = .ok (.putfield 21, 3) := by decide +kernel
theorem d_Pr_init_26 : decode prog_5_method_1_code 26 = .ok (.aload_n 0, 1) := by decide +kernel
theorem d_Pr_init_27 : decode prog_5_method_1_code 27 = .ok (.bipush 8, 2) := by decide +kernel
theorem d_Pr_init_29 : decode prog_5_method_1_code 29 = .ok (.anewarray 25, 3) := by decide +kernel
theorem d_Pr_init_32 : decode prog_5_method_1_code 32 = .ok (.putfield 27, 3) := by decide +kernel
theorem d_Pr_init_35 : decode prog_5_method_1_code 35 = .ok (.aload_n 0, 1) := by decide +kernel
theorem d_Pr_init_36 : decode prog_5_method_1_code 36 = .ok (.iload_n 1, 1) := by decide +kernel
theorem d_Pr_init_37 : decode prog_5_method_1_code 37 = .ok (.putfield 31, 3) := by decide +kernel
theorem d_Pr_init_40 : decode prog_5_method_1_code 40 = .ok (.iconst 0, 1) := by decide +kernel
theorem d_Pr_init_41 : decode prog_5_method_1_code 41 = .ok (.istore_n 2, 1) := by decide +kernel
theorem d_Pr_init_42 : decode prog_5_method_1_code 42 = .ok (.iload_n 2, 1) := by decide +kernel
theorem d_Pr_init_43 : decode prog_5_method_1_code 43 = .ok (.bipush 7, 2) := by decide +kernel
theorem d_Pr_init_45 : decode prog_5_method_1_code 45 = .ok (.if_icmp .ge 22, 3) := by decide +kernel
theorem d_Pr_init_48 : decode prog_5_method_1_code 48 = .ok (.aload_n 0, 1) := by decide +kernel
theorem d_Pr_init_49 : decode prog_5_method_1_code 49 = .ok (.getfield 21, 3) := by decide +kernel
theorem d_Pr_init_52 : decode prog_5_method_1_code 52 = .ok (.iload_n 2, 1) := by decide +kernel
theorem d_Pr_init_53 : decode prog_5_method_1_code 53 = .ok (.new 19, 3) := by decide +kernel
theorem d_Pr_init_56 : decode prog_5_method_1_code 56 = .ok (.dup, 1) := by decide +kernel
theorem d_Pr_init_57 : decode prog_5_method_1_code 57 = .ok (.invokespecial 34, 3) := by decide +kernel
theorem d_Pr_init_60 : decode prog_5_method_1_code 60 = .ok (.aastore, 1) := by decide +kernel
theorem d_Pr_init_61 : decode prog_5_method_1_code 61 = .ok (.iinc 2 1, 3) := by decide +kernel
theorem d_Pr_init_64 : decode prog_5_method_1_code 64 = .ok (.goto (-22), 3) := by decide +kernel
theorem d_Pr_init_67 : decode prog_5_method_1_code 67 = .ok (.iconst 0, 1) := by decide +kernel
theorem d_Pr_init_68 : decode prog_5_method_1_code 68 = .ok (.istore_n 2, 1) := by decide +kernel
theorem d_Pr_init_69 : decode prog_5_method_1_code 69 = .ok (.iload_n 2, 1) := by decide +kernel
theorem d_Pr_init_70 : decode prog_5_method_1_code 70 = .ok (.bipush 8, 2) := by decide +kernel
theorem d_Pr_init_72 : decode prog_5_method_1_code 72 = .ok (.if_icmp .ge 22, 3) := by decide +kernel
theorem d_Pr_init_75 : decode prog_5_method_1_code 75 = .ok (.aload_n 0, 1) := by decide +kernel
theorem d_Pr_init_76 : decode prog_5_method_1_code 76 = .ok (.getfield 27, 3) := by decide +kernel
theorem d_Pr_init_79 : decode prog_5_method_1_code 79 = .ok (.iload_n 2, 1) := by decide +kernel
theorem d_Pr_init_80 : decode prog_5_method_1_code 80 = .ok (.new 25, 3) := by decide +kernel
theorem d_Pr_init_83 : decode prog_5_method_1_code 83 = .ok (.dup, 1) := by decide +kernel
theorem d_Pr_init_84 : decode prog_5_method_1_code 84 = .ok (.invokespecial 35, 3) := by decide +kernel
theorem d_Pr_init_87 : decode prog_5_method_1_code 87 = .ok (.aastore, 1) := by decide +kernel
theorem d_Pr_init_88 : decode prog_5_method_1_code 88 = .ok (.iinc 2 1, 3) := by decide +kernel
theorem d_Pr_init_91 : decode prog_5_method_1_code 91 = .ok (.goto (-22), 3) := by decide +kernel
theorem d_Pr_init_94 : decode prog_5_method_1_code 94 = .ok (.return_, 1) := by decide +kernel
theorem d_Sp_init_0 : decode prog_9_method_1_code 0 = .ok (.aload_n 0, 1) := by decide +kernel
theorem d_Sp_init_1 : decode prog_9_method_1_code 1 = .ok (.invokespecial 3, 3) := by decide +kernel
theorem d_Sp_init_4 : decode prog_9_method_1_code 4 = .ok (.aload_n 0, 1) := by decide +kernel
theorem d_Sp_init_5 : decode prog_9_method_1_code 5 = .ok (.new 9, 3) := by decide +kernel
theorem d_Sp_init_8 : decode prog_9_method_1_code 8 = .ok (.dup, 1) := by decide +kernel
theorem d_Sp_init_9 : decode prog_9_method_1_code 9 = .ok (.invokespecial 11, 3) := by decide +kernel
theorem d_Sp_init_12 : decode prog_9_method_1_code 12 = .ok (.putfield 12, 3) := by decide +kernel
theorem d_Sp_init_15 : decode prog_9_method_1_code 15 = .ok (.return_, 1) := by decide +kernel
theorem d_Re_init_0 : decode prog_6_method_1_code 0 = .ok (.aload_n 0, 1) := by decide +kernel
theorem d_Re_init_1 : decode prog_6_method_1_code 1 = .ok (.invokespecial 3, 3) := by decide +kernel
theorem d_Re_init_4 : decode prog_6_method_1_code 4 = .ok (.aload_n 0, 1) := by decide +kernel
theorem d_Re_init_5 : decode prog_6_method_1_code 5 = .ok (.iconst 3, 1) := by decide +kernel
theorem d_Re_init_6 : decode prog_6_method_1_code 6 = .ok (.newarray .long, 2) := by decide +kernel
theorem d_Re_init_8 : decode prog_6_method_1_code 8 = .ok (.putfield 9, 3) := by decide +kernel
theorem d_Re_init_11 : decode prog_6_method_1_code 11 = .ok (.return_, 1) := by decide +kernel
theorem d_Ro_init_0 : decode prog_7_method_1_code 0 = .ok (.aload_n 0, 1) := by decide +kernel
theorem d_Ro_init_1 : decode prog_7_method_1_code 1 = .ok (.invokespecial 3, 3) := by decide +kernel
theorem d_Ro_init_4 : decode prog_7_method_1_code 4 = .ok (.aload_n 0, 1) := by decide +kernel
theorem d_Ro_init_5 : decode prog_7_method_1_code 5 = .ok (.bipush 61, 2) := by decide +kernel
theorem d_Ro_init_7 : decode prog_7_method_1_code 7 = .ok (.anewarray 9, 3) := by decide +kernel
theorem d_Ro_init_10 : decode prog_7_method_1_code 10 = .ok (.putfield 11, 3) := by decide +kernel
theorem d_Ro_init_13 : decode prog_7_method_1_code 13 = .ok (.iconst 0, 1) := by decide +kernel
theorem d_Ro_init_14 : decode prog_7_method_1_code 14 = .ok (.istore_n 1, 1) := by decide +kernel
theorem d_Ro_init_15 : decode prog_7_method_1_code 15 = .ok (.iload_n 1, 1) := by decide +kernel
theorem d_Ro_init_16 : decode prog_7_method_1_code 16 = .ok (.bipush 60, 2) := by decide +kernel
theorem d_Ro_init_18 : decode prog_7_method_1_code 18 = .ok (.if_icmp .gt 22, 3) := by decide +kernel
theorem d_Ro_init_21 : decode prog_7_method_1_code 21 = .ok (.aload_n 0, 1) := by decide +kernel
theorem d_Ro_init_22 : decode prog_7_method_1_code 22 = .ok (.getfield 11, 3) := by decide +kernel
theorem d_Ro_init_25 : decode prog_7_method_1_code 25 = .ok (.iload_n 1, 1) := by decide +kernel
theorem d_Ro_init_26 : decode prog_7_method_1_code 26 = .ok (.new 9, 3) := by decide +kernel
theorem d_Ro_init_29 : decode prog_7_method_1_code 29 = .ok (.dup, 1) := by decide +kernel
theorem d_Ro_init_30 : decode prog_7_method_1_code 30 = .ok (.invokespecial 17, 3) := by decide +kernel
theorem d_Ro_init_33 : decode prog_7_method_1_code 33 = .ok (.aastore, 1) := by decide +kernel
theorem d_Ro_init_34 : decode prog_7_method_1_code 34 = .ok (.iinc 1 1, 3) := by decide +kernel
theorem d_Ro_init_37 : decode prog_7_method_1_code 37 = .ok (.goto (-22), 3) := by decide +kernel
theorem d_Ro_init_40 : decode prog_7_method_1_code 40 = .ok (.return_, 1) := by decide +kernel
theorem d_Le_init_0 : decode prog_4_method_1_code 0 = .ok (.aload_n 0, 1) := by decide +kernel
theorem d_Le_init_1 : decode prog_4_method_1_code 1 = .ok (.invokespecial 3, 3) := by decide +kernel
theorem d_Le_init_4 : decode prog_4_method_1_code 4 = .ok (.aload_n 0, 1) := by decide +kernel
theorem d_Le_init_5 : decode prog_4_method_1_code 5 = .ok (.new 9, 3) := by decide +kernel
theorem d_Le_init_8 : decode prog_4_method_1_code 8 = .ok (.dup, 1) := by decide +kernel
theorem d_Le_init_9 : decode prog_4_method_1_code 9 = .ok (.invokespecial 11, 3) := by decide +kernel
theorem d_Le_init_12 : decode prog_4_method_1_code 12 = .ok (.putfield 12, 3) := by decide +kernel
theorem d_Le_init_15 : decode prog_4_method_1_code 15 = .ok (.return_, 1) := by decide +kernel
theorem d_Ga_init_0 : decode prog_3_method_1_code 0 = .ok (.aload_n 0, 1) := by decide +kernel
theorem d_Ga_init_1 : decode prog_3_method_1_code 1 = .ok (.invokespecial 3, 3) := by decide +kernel
theorem d_Ga_init_4 : decode prog_3_method_1_code 4 = .ok (.aload_n 0, 1) := by decide +kernel
theorem d_Ga_init_5 : decode prog_3_method_1_code 5 = .ok (.iconst 3, 1) := by decide +kernel
theorem d_Ga_init_6 : decode prog_3_method_1_code 6 = .ok (.newarray .int, 2) := by decide +kernel
theorem d_Ga_init_8 : decode prog_3_method_1_code 8 = .ok (.putfield 9, 3) := by decide +kernel
theorem d_Ga_init_11 : decode prog_3_method_1_code 11 = .ok (.aload_n 0, 1) := by decide +kernel
theorem d_Ga_init_12 : decode prog_3_method_1_code 12 = .ok (.iconst 3, 1) := by decide +kernel
theorem d_Ga_init_13 : decode prog_3_method_1_code 13 = .ok (.newarray .long, 2) := by decide +kernel
theorem d_Ga_init_15 : decode prog_3_method_1_code 15 = .ok (.putfield 15, 3) := by decide +kernel
theorem d_Ga_init_18 : decode prog_3_method_1_code 18 = .ok (.return_, 1) := by decide +kernel
theorem d_Ho_byteIn_0 : decode prog_1_method_2_code 0 = .ok (.iload_n 1, 1) := by decide +kernel
theorem d_Ho_byteIn_1 : decode prog_1_method_2_code 1 = .ok (.invokestatic 49, 3) := by decide +kernel
theorem d_Ho_byteIn_4 : decode prog_1_method_2_code 4 = .ok (.ifCond .eq 13, 3) := by decide +kernel
theorem d_Ho_byteIn_7 : decode prog_1_method_2_code 7 = .ok (.iload_n 3, 1) := by decide +kernel
theorem d_Ho_byteIn_8 : decode prog_1_method_2_code 8 = .ok (.iconst 1, 1) := by decide +kernel
theorem d_Ho_byteIn_9 : decode prog_1_method_2_code 9 = .ok (.if_icmp .lt 8, 3) := by decide +kernel
theorem d_Ho_byteIn_12 : decode prog_1_method_2_code 12 = .ok (.iload_n 3, 1) := by decide +kernel
theorem d_Ho_byteIn_13 : decode prog_1_method_2_code 13 = .ok (.iconst 4, 1) := by decide +kernel
theorem d_Ho_byteIn_14 : decode prog_1_method_2_code 14 = .ok (.if_icmp .le 5, 3) := by decide +kernel
theorem d_Ho_byteIn_17 : decode prog_1_method_2_code 17 = .ok (.iconst 0, 1) := by decide +kernel
theorem d_Ho_byteIn_18 : decode prog_1_method_2_code 18 = .ok (.ireturn, 1) := by decide +kernel
theorem d_Ho_byteIn_19 : decode prog_1_method_2_code 19 = .ok (.aload_n 0, 1) := by decide +kernel
theorem d_Ho_byteIn_20 : decode prog_1_method_2_code 20 = .ok (.getfield 18, 3) := by decide +kernel
theorem d_Ho_byteIn_23 : decode prog_1_method_2_code 23 = .ok (.iload_n 1, 1) := by decide +kernel
theorem d_Ho_byteIn_24 : decode prog_1_method_2_code 24 = .ok (.aaload, 1) := by decide +kernel
theorem d_Ho_byteIn_25 : decode prog_1_method_2_code 25 = .ok (.iload_n 2, 1) := by decide +kernel
theorem d_Ho_byteIn_26 : decode prog_1_method_2_code 26 = .ok (.iload_n 3, 1) := by decide +kernel
theorem d_Ho_byteIn_27 : decode prog_1_method_2_code 27 = .ok (.invokevirtual 53, 3) := by decide +kernel
theorem d_Ho_byteIn_30 : decode prog_1_method_2_code 30 = .ok (.ireturn, 1) := by decide +kernel
theorem d_Ho_isProposer_0 : decode prog_1_method_20_code 0 = .ok (.iload_n 0, 1) := by decide +kernel
theorem d_Ho_isProposer_1 : decode prog_1_method_20_code 1 = .ok (.ifCond .lt 12, 3) := by decide +kernel
theorem d_Ho_isProposer_4 : decode prog_1_method_20_code 4 = .ok (.iload_n 0, 1) := by decide +kernel
theorem d_Ho_isProposer_5 : decode prog_1_method_20_code 5 = .ok (.iconst 2, 1) := by decide +kernel
theorem d_Ho_isProposer_6 : decode prog_1_method_20_code 6 = .ok (.if_icmp .ge 7, 3) := by decide +kernel
theorem d_Ho_isProposer_9 : decode prog_1_method_20_code 9 = .ok (.iconst 1, 1) := by decide +kernel
theorem d_Ho_isProposer_10 : decode prog_1_method_20_code 10 = .ok (.goto 4, 3) := by decide +kernel
theorem d_Ho_isProposer_13 : decode prog_1_method_20_code 13 = .ok (.iconst 0, 1) := by decide +kernel
theorem d_Ho_isProposer_14 : decode prog_1_method_20_code 14 = .ok (.ireturn, 1) := by decide +kernel
theorem d_Pr_write_0 : decode prog_5_method_2_code 0 = .ok (.aload_n 0, 1) := by decide +kernel
theorem d_Pr_write_1 : decode prog_5_method_2_code 1 = .ok (.getfield 36, 3) := by decide +kernel
theorem d_Pr_write_4 : decode prog_5_method_2_code 4 = .ok (.iload_n 2, 1) := by decide +kernel
theorem d_Pr_write_5 : decode prog_5_method_2_code 5 = .ok (.iadd, 1) := by decide +kernel
theorem d_Pr_write_6 : decode prog_5_method_2_code 6 = .ok (.bipush 24, 2) := by decide +kernel
theorem d_Pr_write_8 : decode prog_5_method_2_code 8 = .ok (.if_icmp .le 5, 3) := by decide +kernel
theorem d_Pr_write_11 : decode prog_5_method_2_code 11 = .ok (.iconst 0, 1) := by decide +kernel
theorem d_Pr_write_12 : decode prog_5_method_2_code 12 = .ok (.ireturn, 1) := by decide +kernel
theorem d_Pr_write_13 : decode prog_5_method_2_code 13 = .ok (.iload_n 2, 1) := by decide +kernel
theorem d_Pr_write_14 : decode prog_5_method_2_code 14 = .ok (.iconst 1, 1) := by decide +kernel
theorem d_Pr_write_15 : decode prog_5_method_2_code 15 = .ok (.isub, 1) := by decide +kernel
theorem d_Pr_write_16 : decode prog_5_method_2_code 16 = .ok (.istore_n 3, 1) := by decide +kernel
theorem d_Pr_write_17 : decode prog_5_method_2_code 17 = .ok (.iload_n 3, 1) := by decide +kernel
theorem d_Pr_write_18 : decode prog_5_method_2_code 18 = .ok (.ifCond .lt 35, 3) := by decide +kernel
theorem d_Pr_write_21 : decode prog_5_method_2_code 21 = .ok (.aload_n 0, 1) := by decide +kernel
theorem d_Pr_write_22 : decode prog_5_method_2_code 22 = .ok (.getfield 15, 3) := by decide +kernel
theorem d_Pr_write_25 : decode prog_5_method_2_code 25 = .ok (.aload_n 0, 1) := by decide +kernel
theorem d_Pr_write_26 : decode prog_5_method_2_code 26 = .ok (.getfield 36, 3) := by decide +kernel
theorem d_Pr_write_29 : decode prog_5_method_2_code 29 = .ok (.iload_n 1, 1) := by decide +kernel
theorem d_Pr_write_30 : decode prog_5_method_2_code 30 = .ok (.bipush 8, 2) := by decide +kernel
theorem d_Pr_write_32 : decode prog_5_method_2_code 32 = .ok (.iload_n 3, 1) := by decide +kernel
theorem d_Pr_write_33 : decode prog_5_method_2_code 33 = .ok (.imul, 1) := by decide +kernel
theorem d_Pr_write_34 : decode prog_5_method_2_code 34 = .ok (.iushr, 1) := by decide +kernel
theorem d_Pr_write_35 : decode prog_5_method_2_code 35 = .ok (.i2b, 1) := by decide +kernel
theorem d_Pr_write_36 : decode prog_5_method_2_code 36 = .ok (.bastore, 1) := by decide +kernel
theorem d_Pr_write_37 : decode prog_5_method_2_code 37 = .ok (.aload_n 0, 1) := by decide +kernel
theorem d_Pr_write_38 : decode prog_5_method_2_code 38 = .ok (.dup, 1) := by decide +kernel
theorem d_Pr_write_39 : decode prog_5_method_2_code 39 = .ok (.getfield 36, 3) := by decide +kernel
theorem d_Pr_write_42 : decode prog_5_method_2_code 42 = .ok (.iconst 1, 1) := by decide +kernel
theorem d_Pr_write_43 : decode prog_5_method_2_code 43 = .ok (.iadd, 1) := by decide +kernel
theorem d_Pr_write_44 : decode prog_5_method_2_code 44 = .ok (.putfield 36, 3) := by decide +kernel
theorem d_Pr_write_47 : decode prog_5_method_2_code 47 = .ok (.iinc 3 (-1), 3) := by decide +kernel
theorem d_Pr_write_50 : decode prog_5_method_2_code 50 = .ok (.goto (-33), 3) := by decide +kernel
theorem d_Pr_write_53 : decode prog_5_method_2_code 53 = .ok (.iconst 1, 1) := by decide +kernel
theorem d_Pr_write_54 : decode prog_5_method_2_code 54 = .ok (.ireturn, 1) := by decide +kernel
theorem d_Ho_letters_0 : decode prog_1_method_9_code 0 = .ok (.aload_n 0, 1) := by decide +kernel
theorem d_Ho_letters_1 : decode prog_1_method_9_code 1 = .ok (.getfield 28, 3) := by decide +kernel
theorem d_Ho_letters_4 : decode prog_1_method_9_code 4 = .ok (.getfield 91, 3) := by decide +kernel
theorem d_Ho_letters_7 : decode prog_1_method_9_code 7 = .ok (.ireturn, 1) := by decide +kernel
theorem d_Ho_campaign_0 : decode prog_1_method_3_code 0 = .ok (.iload_n 1, 1) := by decide +kernel
theorem d_Ho_campaign_1 : decode prog_1_method_3_code 1 = .ok (.invokestatic 57, 3) := by decide +kernel
theorem d_Ho_campaign_4 : decode prog_1_method_3_code 4 = .ok (.aload_n 0, 1) := by decide +kernel
theorem d_Ho_campaign_5 : decode prog_1_method_3_code 5 = .ok (.getfield 18, 3) := by decide +kernel
theorem d_Ho_campaign_8 : decode prog_1_method_3_code 8 = .ok (.iload_n 1, 1) := by decide +kernel
theorem d_Ho_campaign_9 : decode prog_1_method_3_code 9 = .ok (.aaload, 1) := by decide +kernel
theorem d_Ho_campaign_10 : decode prog_1_method_3_code 10 = .ok (.astore_n 2, 1) := by decide +kernel
theorem d_Ho_campaign_11 : decode prog_1_method_3_code 11 = .ok (.aload_n 2, 1) := by decide +kernel
theorem d_Ho_campaign_12 : decode prog_1_method_3_code 12 = .ok (.aload_n 0, 1) := by decide +kernel
theorem d_Ho_campaign_13 : decode prog_1_method_3_code 13 = .ok (.invokevirtual 60, 3) := by decide +kernel
theorem d_Ho_campaign_16 : decode prog_1_method_3_code 16 = .ok (.invokevirtual 64, 3) := by decide +kernel
theorem d_Ho_campaign_19 : decode prog_1_method_3_code 19 = .ok (.aload_n 0, 1) := by decide +kernel
theorem d_Ho_campaign_20 : decode prog_1_method_3_code 20 = .ok (.aload_n 2, 1) := by decide +kernel
theorem d_Ho_campaign_21 : decode prog_1_method_3_code 21 = .ok (.invokevirtual 67, 3) := by decide +kernel
theorem d_Ho_campaign_24 : decode prog_1_method_3_code 24 = .ok (.aload_n 2, 1) := by decide +kernel
theorem d_Ho_campaign_25 : decode prog_1_method_3_code 25 = .ok (.getfield 71, 3) := by decide +kernel
theorem d_Ho_campaign_28 : decode prog_1_method_3_code 28 = .ok (.ireturn, 1) := by decide +kernel
theorem d_Ho_checkProposer_0 : decode prog_1_method_21_code 0 = .ok (.iload_n 0, 1) := by decide +kernel
theorem d_Ho_checkProposer_1 : decode prog_1_method_21_code 1 = .ok (.invokestatic 49, 3) := by decide +kernel
theorem d_Ho_checkProposer_4 : decode prog_1_method_21_code 4 = .ok (.ifCond .ne 11, 3) := by decide +kernel
theorem d_Ho_checkProposer_7 : decode prog_1_method_21_code 7 = .ok (.new 149, 3) := by decide +kernel
theorem d_Ho_checkProposer_10 : decode prog_1_method_21_code 10 = .ok (.dup, 1) := by decide +kernel
theorem d_Ho_checkProposer_11 : decode prog_1_method_21_code 11 = .ok (.invokespecial 151, 3) := by decide +kernel
theorem d_Ho_checkProposer_14 : decode prog_1_method_21_code 14 = .ok (.athrow, 1) := by decide +kernel
theorem d_Ho_checkProposer_15 : decode prog_1_method_21_code 15 = .ok (.return_, 1) := by decide +kernel
theorem d_Ho_highestPromised_0 : decode prog_1_method_25_code 0 = .ok (.iconst 0, 1) := by decide +kernel
theorem d_Ho_highestPromised_1 : decode prog_1_method_25_code 1 = .ok (.istore_n 1, 1) := by decide +kernel
theorem d_Ho_highestPromised_2 : decode prog_1_method_25_code 2 = .ok (.iconst 0, 1) := by decide +kernel
theorem d_Ho_highestPromised_3 : decode prog_1_method_25_code 3 = .ok (.istore_n 2, 1) := by decide +kernel
theorem d_Ho_highestPromised_4 : decode prog_1_method_25_code 4 = .ok (.iload_n 2, 1) := by decide +kernel
theorem d_Ho_highestPromised_5 : decode prog_1_method_25_code 5 = .ok (.bipush 7, 2) := by decide +kernel
theorem d_Ho_highestPromised_7 : decode prog_1_method_25_code 7 = .ok (.if_icmp .ge 23, 3) := by decide +kernel
theorem d_Ho_highestPromised_10 : decode prog_1_method_25_code 10 = .ok (.iload_n 1, 1) := by decide +kernel
theorem d_Ho_highestPromised_11 : decode prog_1_method_25_code 11 = .ok (.aload_n 0, 1) := by decide +kernel
theorem d_Ho_highestPromised_12 : decode prog_1_method_25_code 12 = .ok (.getfield 11, 3) := by decide +kernel
theorem d_Ho_highestPromised_15 : decode prog_1_method_25_code 15 = .ok (.iload_n 2, 1) := by decide +kernel
theorem d_Ho_highestPromised_16 : decode prog_1_method_25_code 16 = .ok (.aaload, 1) := by decide +kernel
theorem d_Ho_highestPromised_17 : decode prog_1_method_25_code 17 = .ok (.getfield 222, 3) := by decide +kernel
theorem d_Ho_highestPromised_20 : decode prog_1_method_25_code 20 = .ok (.invokestatic 242, 3) := by decide +kernel
theorem d_Ho_highestPromised_23 : decode prog_1_method_25_code 23 = .ok (.istore_n 1, 1) := by decide +kernel
theorem d_Ho_highestPromised_24 : decode prog_1_method_25_code 24 = .ok (.iinc 2 1, 3) := by decide +kernel
theorem d_Ho_highestPromised_27 : decode prog_1_method_25_code 27 = .ok (.goto (-23), 3) := by decide +kernel
theorem d_Ho_highestPromised_30 : decode prog_1_method_25_code 30 = .ok (.iload_n 1, 1) := by decide +kernel
theorem d_Ho_highestPromised_31 : decode prog_1_method_25_code 31 = .ok (.ireturn, 1) := by decide +kernel
theorem d_Ma_max_0 : decode prog_18_method_65_code 0 = .ok (.iload_n 0, 1) := by decide +kernel
theorem d_Ma_max_1 : decode prog_18_method_65_code 1 = .ok (.iload_n 1, 1) := by decide +kernel
theorem d_Ma_max_2 : decode prog_18_method_65_code 2 = .ok (.if_icmp .lt 7, 3) := by decide +kernel
theorem d_Ma_max_5 : decode prog_18_method_65_code 5 = .ok (.iload_n 0, 1) := by decide +kernel
theorem d_Ma_max_6 : decode prog_18_method_65_code 6 = .ok (.goto 4, 3) := by decide +kernel
theorem d_Ma_max_9 : decode prog_18_method_65_code 9 = .ok (.iload_n 1, 1) := by decide +kernel
theorem d_Ma_max_10 : decode prog_18_method_65_code 10 = .ok (.ireturn, 1) := by decide +kernel
theorem d_Pr_begin_0 : decode prog_5_method_3_code 0 = .ok (.aload_n 0, 1) := by decide +kernel
theorem d_Pr_begin_1 : decode prog_5_method_3_code 1 = .ok (.getfield 39, 3) := by decide +kernel
theorem d_Pr_begin_4 : decode prog_5_method_3_code 4 = .ok (.iload_n 1, 1) := by decide +kernel
theorem d_Pr_begin_5 : decode prog_5_method_3_code 5 = .ok (.invokestatic 42, 3) := by decide +kernel
theorem d_Pr_begin_8 : decode prog_5_method_3_code 8 = .ok (.istore_n 2, 1) := by decide +kernel
theorem d_Pr_begin_9 : decode prog_5_method_3_code 9 = .ok (.iconst 1, 1) := by decide +kernel
theorem d_Pr_begin_10 : decode prog_5_method_3_code 10 = .ok (.iload_n 2, 1) := by decide +kernel
theorem d_Pr_begin_11 : decode prog_5_method_3_code 11 = .ok (.aload_n 0, 1) := by decide +kernel
theorem d_Pr_begin_12 : decode prog_5_method_3_code 12 = .ok (.getfield 31, 3) := by decide +kernel
theorem d_Pr_begin_15 : decode prog_5_method_3_code 15 = .ok (.isub, 1) := by decide +kernel
theorem d_Pr_begin_16 : decode prog_5_method_3_code 16 = .ok (.iconst 2, 1) := by decide +kernel
theorem d_Pr_begin_17 : decode prog_5_method_3_code 17 = .ok (.iadd, 1) := by decide +kernel
theorem d_Pr_begin_18 : decode prog_5_method_3_code 18 = .ok (.iconst 2, 1) := by decide +kernel
theorem d_Pr_begin_19 : decode prog_5_method_3_code 19 = .ok (.idiv, 1) := by decide +kernel
theorem d_Pr_begin_20 : decode prog_5_method_3_code 20 = .ok (.invokestatic 42, 3) := by decide +kernel
theorem d_Pr_begin_23 : decode prog_5_method_3_code 23 = .ok (.istore_n 3, 1) := by decide +kernel
theorem d_Pr_begin_24 : decode prog_5_method_3_code 24 = .ok (.aload_n 0, 1) := by decide +kernel
theorem d_Pr_begin_25 : decode prog_5_method_3_code 25 = .ok (.iconst 2, 1) := by decide +kernel
theorem d_Pr_begin_26 : decode prog_5_method_3_code 26 = .ok (.iload_n 3, 1) := by decide +kernel
theorem d_Pr_begin_27 : decode prog_5_method_3_code 27 = .ok (.imul, 1) := by decide +kernel
theorem d_Pr_begin_28 : decode prog_5_method_3_code 28 = .ok (.aload_n 0, 1) := by decide +kernel
theorem d_Pr_begin_29 : decode prog_5_method_3_code 29 = .ok (.getfield 31, 3) := by decide +kernel
theorem d_Pr_begin_32 : decode prog_5_method_3_code 32 = .ok (.iadd, 1) := by decide +kernel
theorem d_Pr_begin_33 : decode prog_5_method_3_code 33 = .ok (.putfield 39, 3) := by decide +kernel
theorem d_Pr_begin_36 : decode prog_5_method_3_code 36 = .ok (.aload_n 0, 1) := by decide +kernel
theorem d_Pr_begin_37 : decode prog_5_method_3_code 37 = .ok (.iconst 1, 1) := by decide +kernel
theorem d_Pr_begin_38 : decode prog_5_method_3_code 38 = .ok (.putfield 9, 3) := by decide +kernel
theorem d_Pr_begin_41 : decode prog_5_method_3_code 41 = .ok (.aload_n 0, 1) := by decide +kernel
theorem d_Pr_begin_42 : decode prog_5_method_3_code 42 = .ok (.iconst 0, 1) := by decide +kernel
theorem d_Pr_begin_43 : decode prog_5_method_3_code 43 = .ok (.putfield 48, 3) := by decide +kernel
theorem d_Pr_begin_46 : decode prog_5_method_3_code 46 = .ok (.iconst 0, 1) := by decide +kernel
theorem d_Pr_begin_47 : decode prog_5_method_3_code 47 = .ok (.istore 4, 2) := by decide +kernel
theorem d_Pr_begin_49 : decode prog_5_method_3_code 49 = .ok (.iload 4, 2) := by decide +kernel
theorem d_Pr_begin_51 : decode prog_5_method_3_code 51 = .ok (.bipush 8, 2) := by decide +kernel
theorem d_Pr_begin_53 : decode prog_5_method_3_code 53 = .ok (.if_icmp .ge 19, 3) := by decide +kernel
theorem d_Pr_begin_56 : decode prog_5_method_3_code 56 = .ok (.aload_n 0, 1) := by decide +kernel
theorem d_Pr_begin_57 : decode prog_5_method_3_code 57 = .ok (.getfield 27, 3) := by decide +kernel
theorem d_Pr_begin_60 : decode prog_5_method_3_code 60 = .ok (.iload 4, 2) := by decide +kernel
theorem d_Pr_begin_62 : decode prog_5_method_3_code 62 = .ok (.aaload, 1) := by decide +kernel
theorem d_Pr_begin_63 : decode prog_5_method_3_code 63 = .ok (.invokevirtual 51, 3) := by decide +kernel
theorem d_Pr_begin_66 : decode prog_5_method_3_code 66 = .ok (.iinc 4 1, 3) := by decide +kernel
theorem d_Pr_begin_69 : decode prog_5_method_3_code 69 = .ok (.goto (-20), 3) := by decide +kernel
theorem d_Pr_begin_72 : decode prog_5_method_3_code 72 = .ok (.return_, 1) := by decide +kernel
theorem d_Sp_forget_0 : decode prog_9_method_6_code 0 = .ok (.aload_n 0, 1) := by decide +kernel
theorem d_Sp_forget_1 : decode prog_9_method_6_code 1 = .ok (.iconst 0, 1) := by decide +kernel
theorem d_Sp_forget_2 : decode prog_9_method_6_code 2 = .ok (.invokevirtual 28, 3) := by decide +kernel
theorem d_Sp_forget_5 : decode prog_9_method_6_code 5 = .ok (.return_, 1) := by decide +kernel
theorem d_Sp_proposeAs_0 : decode prog_9_method_5_code 0 = .ok (.aload_n 0, 1) := by decide +kernel
theorem d_Sp_proposeAs_1 : decode prog_9_method_5_code 1 = .ok (.iload_n 1, 1) := by decide +kernel
theorem d_Sp_proposeAs_2 : decode prog_9_method_5_code 2 = .ok (.putfield 22, 3) := by decide +kernel
theorem d_Sp_proposeAs_5 : decode prog_9_method_5_code 5 = .ok (.aload_n 0, 1) := by decide +kernel
theorem d_Sp_proposeAs_6 : decode prog_9_method_5_code 6 = .ok (.iconst 0, 1) := by decide +kernel
theorem d_Sp_proposeAs_7 : decode prog_9_method_5_code 7 = .ok (.putfield 25, 3) := by decide +kernel
theorem d_Sp_proposeAs_10 : decode prog_9_method_5_code 10 = .ok (.return_, 1) := by decide +kernel
theorem d_Ho_sendPrepares_0 : decode prog_1_method_26_code 0 = .ok (.iconst 0, 1) := by decide +kernel
theorem d_Ho_sendPrepares_1 : decode prog_1_method_26_code 1 = .ok (.istore_n 2, 1) := by decide +kernel
theorem d_Ho_sendPrepares_2 : decode prog_1_method_26_code 2 = .ok (.iload_n 2, 1) := by decide +kernel
theorem d_Ho_sendPrepares_3 : decode prog_1_method_26_code 3 = .ok (.bipush 7, 2) := by decide +kernel
theorem d_Ho_sendPrepares_5 : decode prog_1_method_26_code 5 = .ok (.if_icmp .ge 35, 3) := by decide +kernel
theorem d_Ho_sendPrepares_8 : decode prog_1_method_26_code 8 = .ok (.aload_n 1, 1) := by decide +kernel
theorem d_Ho_sendPrepares_9 : decode prog_1_method_26_code 9 = .ok (.iload_n 2, 1) := by decide +kernel
theorem d_Ho_sendPrepares_10 : decode prog_1_method_26_code 10 = .ok (.invokevirtual 247, 3) := by decide +kernel
theorem d_Ho_sendPrepares_13 : decode prog_1_method_26_code 13 = .ok (.ifCond .ne 21, 3) := by decide +kernel
theorem d_Ho_sendPrepares_16 : decode prog_1_method_26_code 16 = .ok (.aload_n 0, 1) := by decide +kernel
theorem d_Ho_sendPrepares_17 : decode prog_1_method_26_code 17 = .ok (.getfield 28, 3) := by decide +kernel
theorem d_Ho_sendPrepares_20 : decode prog_1_method_26_code 20 = .ok (.iconst 0, 1) := by decide +kernel
theorem d_Ho_sendPrepares_21 : decode prog_1_method_26_code 21 = .ok (.iload_n 2, 1) := by decide +kernel
theorem d_Ho_sendPrepares_22 : decode prog_1_method_26_code 22 = .ok (.aload_n 1, 1) := by decide +kernel
theorem d_Ho_sendPrepares_23 : decode prog_1_method_26_code 23 = .ok (.getfield 250, 3) := by decide +kernel
theorem d_Ho_sendPrepares_26 : decode prog_1_method_26_code 26 = .ok (.aload_n 1, 1) := by decide +kernel
theorem d_Ho_sendPrepares_27 : decode prog_1_method_26_code 27 = .ok (.getfield 71, 3) := by decide +kernel
theorem d_Ho_sendPrepares_30 : decode prog_1_method_26_code 30 = .ok (.invokevirtual 253, 3) := by decide +kernel
theorem d_Ho_sendPrepares_33 : decode prog_1_method_26_code 33 = .ok (.pop, 1) := by decide +kernel
theorem d_Ho_sendPrepares_34 : decode prog_1_method_26_code 34 = .ok (.iinc 2 1, 3) := by decide +kernel
theorem d_Ho_sendPrepares_37 : decode prog_1_method_26_code 37 = .ok (.goto (-35), 3) := by decide +kernel
theorem d_Ho_sendPrepares_40 : decode prog_1_method_26_code 40 = .ok (.return_, 1) := by decide +kernel
theorem d_Pr_hasPromiseOf_0 : decode prog_5_method_6_code 0 = .ok (.aload_n 0, 1) := by decide +kernel
theorem d_Pr_hasPromiseOf_1 : decode prog_5_method_6_code 1 = .ok (.getfield 48, 3) := by decide +kernel
theorem d_Pr_hasPromiseOf_4 : decode prog_5_method_6_code 4 = .ok (.iload_n 1, 1) := by decide +kernel
theorem d_Pr_hasPromiseOf_5 : decode prog_5_method_6_code 5 = .ok (.iushr, 1) := by decide +kernel
theorem d_Pr_hasPromiseOf_6 : decode prog_5_method_6_code 6 = .ok (.iconst 1, 1) := by decide +kernel
theorem d_Pr_hasPromiseOf_7 : decode prog_5_method_6_code 7 = .ok (.iand, 1) := by decide +kernel
theorem d_Pr_hasPromiseOf_8 : decode prog_5_method_6_code 8 = .ok (.iconst 1, 1) := by decide +kernel
theorem d_Pr_hasPromiseOf_9 : decode prog_5_method_6_code 9 = .ok (.if_icmp .ne 7, 3) := by decide +kernel
theorem d_Pr_hasPromiseOf_12 : decode prog_5_method_6_code 12 = .ok (.iconst 1, 1) := by decide +kernel
theorem d_Pr_hasPromiseOf_13 : decode prog_5_method_6_code 13 = .ok (.goto 4, 3) := by decide +kernel
theorem d_Pr_hasPromiseOf_16 : decode prog_5_method_6_code 16 = .ok (.iconst 0, 1) := by decide +kernel
theorem d_Pr_hasPromiseOf_17 : decode prog_5_method_6_code 17 = .ok (.ireturn, 1) := by decide +kernel
theorem d_Ro_post_0 : decode prog_7_method_4_code 0 = .ok (.aload_n 0, 1) := by decide +kernel
theorem d_Ro_post_1 : decode prog_7_method_4_code 1 = .ok (.invokevirtual 22, 3) := by decide +kernel
theorem d_Ro_post_4 : decode prog_7_method_4_code 4 = .ok (.astore 5, 2) := by decide +kernel
theorem d_Ro_post_6 : decode prog_7_method_4_code 6 = .ok (.aload 5, 2) := by decide +kernel
theorem d_Ro_post_8 : decode prog_7_method_4_code 8 = .ok (.ifnull 13, 3) := by decide +kernel
theorem d_Ro_post_11 : decode prog_7_method_4_code 11 = .ok (.aload 5, 2) := by decide +kernel
theorem d_Ro_post_13 : decode prog_7_method_4_code 13 = .ok (.iload_n 1, 1) := by decide +kernel
theorem d_Ro_post_14 : decode prog_7_method_4_code 14 = .ok (.iload_n 2, 1) := by decide +kernel
theorem d_Ro_post_15 : decode prog_7_method_4_code 15 = .ok (.iload_n 3, 1) := by decide +kernel
theorem d_Ro_post_16 : decode prog_7_method_4_code 16 = .ok (.iload 4, 2) := by decide +kernel
theorem d_Ro_post_18 : decode prog_7_method_4_code 18 = .ok (.invokevirtual 26, 3) := by decide +kernel
theorem d_Ro_post_21 : decode prog_7_method_4_code 21 = .ok (.aload 5, 2) := by decide +kernel
theorem d_Ro_post_23 : decode prog_7_method_4_code 23 = .ok (.areturn, 1) := by decide +kernel
theorem d_Ro_append_0 : decode prog_7_method_3_code 0 = .ok (.aload_n 0, 1) := by decide +kernel
theorem d_Ro_append_1 : decode prog_7_method_3_code 1 = .ok (.getfield 18, 3) := by decide +kernel
theorem d_Ro_append_4 : decode prog_7_method_3_code 4 = .ok (.bipush 60, 2) := by decide +kernel
theorem d_Ro_append_6 : decode prog_7_method_3_code 6 = .ok (.if_icmp .lt 5, 3) := by decide +kernel
theorem d_Ro_append_9 : decode prog_7_method_3_code 9 = .ok (.aconst_null, 1) := by decide +kernel
theorem d_Ro_append_10 : decode prog_7_method_3_code 10 = .ok (.areturn, 1) := by decide +kernel
theorem d_Ro_append_11 : decode prog_7_method_3_code 11 = .ok (.aload_n 0, 1) := by decide +kernel
theorem d_Ro_append_12 : decode prog_7_method_3_code 12 = .ok (.getfield 11, 3) := by decide +kernel
theorem d_Ro_append_15 : decode prog_7_method_3_code 15 = .ok (.aload_n 0, 1) := by decide +kernel
theorem d_Ro_append_16 : decode prog_7_method_3_code 16 = .ok (.getfield 18, 3) := by decide +kernel
theorem d_Ro_append_19 : decode prog_7_method_3_code 19 = .ok (.aaload, 1) := by decide +kernel
theorem d_Ro_append_20 : decode prog_7_method_3_code 20 = .ok (.astore_n 1, 1) := by decide +kernel
theorem d_Ro_append_21 : decode prog_7_method_3_code 21 = .ok (.aload_n 0, 1) := by decide +kernel
theorem d_Ro_append_22 : decode prog_7_method_3_code 22 = .ok (.dup, 1) := by decide +kernel
theorem d_Ro_append_23 : decode prog_7_method_3_code 23 = .ok (.getfield 18, 3) := by decide +kernel
theorem d_Ro_append_26 : decode prog_7_method_3_code 26 = .ok (.iconst 1, 1) := by decide +kernel
theorem d_Ro_append_27 : decode prog_7_method_3_code 27 = .ok (.iadd, 1) := by decide +kernel
theorem d_Ro_append_28 : decode prog_7_method_3_code 28 = .ok (.putfield 18, 3) := by decide +kernel
theorem d_Ro_append_31 : decode prog_7_method_3_code 31 = .ok (.aload_n 1, 1) := by decide +kernel
theorem d_Ro_append_32 : decode prog_7_method_3_code 32 = .ok (.areturn, 1) := by decide +kernel
theorem d_Le_address_0 : decode prog_4_method_2_code 0 = .ok (.aload_n 0, 1) := by decide +kernel
theorem d_Le_address_1 : decode prog_4_method_2_code 1 = .ok (.iload_n 1, 1) := by decide +kernel
theorem d_Le_address_2 : decode prog_4_method_2_code 2 = .ok (.putfield 18, 3) := by decide +kernel
theorem d_Le_address_5 : decode prog_4_method_2_code 5 = .ok (.aload_n 0, 1) := by decide +kernel
theorem d_Le_address_6 : decode prog_4_method_2_code 6 = .ok (.iload_n 2, 1) := by decide +kernel
theorem d_Le_address_7 : decode prog_4_method_2_code 7 = .ok (.putfield 22, 3) := by decide +kernel
theorem d_Le_address_10 : decode prog_4_method_2_code 10 = .ok (.aload_n 0, 1) := by decide +kernel
theorem d_Le_address_11 : decode prog_4_method_2_code 11 = .ok (.iload_n 3, 1) := by decide +kernel
theorem d_Le_address_12 : decode prog_4_method_2_code 12 = .ok (.putfield 25, 3) := by decide +kernel
theorem d_Le_address_15 : decode prog_4_method_2_code 15 = .ok (.aload_n 0, 1) := by decide +kernel
theorem d_Le_address_16 : decode prog_4_method_2_code 16 = .ok (.iload 4, 2) := by decide +kernel
theorem d_Le_address_18 : decode prog_4_method_2_code 18 = .ok (.putfield 28, 3) := by decide +kernel
theorem d_Le_address_21 : decode prog_4_method_2_code 21 = .ok (.aload_n 0, 1) := by decide +kernel
theorem d_Le_address_22 : decode prog_4_method_2_code 22 = .ok (.iconst (-1), 1) := by decide +kernel
theorem d_Le_address_23 : decode prog_4_method_2_code 23 = .ok (.putfield 31, 3) := by decide +kernel
theorem d_Le_address_26 : decode prog_4_method_2_code 26 = .ok (.aload_n 0, 1) := by decide +kernel
theorem d_Le_address_27 : decode prog_4_method_2_code 27 = .ok (.iconst (-1), 1) := by decide +kernel
theorem d_Le_address_28 : decode prog_4_method_2_code 28 = .ok (.putfield 34, 3) := by decide +kernel
theorem d_Le_address_31 : decode prog_4_method_2_code 31 = .ok (.return_, 1) := by decide +kernel
theorem d_Ho_propose_0 : decode prog_1_method_4_code 0 = .ok (.iload_n 1, 1) := by decide +kernel
theorem d_Ho_propose_1 : decode prog_1_method_4_code 1 = .ok (.invokestatic 57, 3) := by decide +kernel
theorem d_Ho_propose_4 : decode prog_1_method_4_code 4 = .ok (.aload_n 0, 1) := by decide +kernel
theorem d_Ho_propose_5 : decode prog_1_method_4_code 5 = .ok (.getfield 18, 3) := by decide +kernel
theorem d_Ho_propose_8 : decode prog_1_method_4_code 8 = .ok (.iload_n 1, 1) := by decide +kernel
theorem d_Ho_propose_9 : decode prog_1_method_4_code 9 = .ok (.aaload, 1) := by decide +kernel
theorem d_Ho_propose_10 : decode prog_1_method_4_code 10 = .ok (.astore_n 2, 1) := by decide +kernel
theorem d_Ho_propose_11 : decode prog_1_method_4_code 11 = .ok (.aload_n 2, 1) := by decide +kernel
theorem d_Ho_propose_12 : decode prog_1_method_4_code 12 = .ok (.invokevirtual 75, 3) := by decide +kernel
theorem d_Ho_propose_15 : decode prog_1_method_4_code 15 = .ok (.istore_n 3, 1) := by decide +kernel
theorem d_Ho_propose_16 : decode prog_1_method_4_code 16 = .ok (.iload_n 3, 1) := by decide +kernel
theorem d_Ho_propose_17 : decode prog_1_method_4_code 17 = .ok (.iconst (-1), 1) := by decide +kernel
theorem d_Ho_propose_18 : decode prog_1_method_4_code 18 = .ok (.if_icmp .eq 10, 3) := by decide +kernel
theorem d_Ho_propose_21 : decode prog_1_method_4_code 21 = .ok (.aload_n 2, 1) := by decide +kernel
theorem d_Ho_propose_22 : decode prog_1_method_4_code 22 = .ok (.getfield 78, 3) := by decide +kernel
theorem d_Ho_propose_25 : decode prog_1_method_4_code 25 = .ok (.ifCond .ne 11, 3) := by decide +kernel
theorem d_Ho_propose_28 : decode prog_1_method_4_code 28 = .ok (.new 81, 3) := by decide +kernel
theorem d_Ho_propose_31 : decode prog_1_method_4_code 31 = .ok (.dup, 1) := by decide +kernel
theorem d_Ho_propose_32 : decode prog_1_method_4_code 32 = .ok (.invokespecial 83, 3) := by decide +kernel
theorem d_Ho_propose_35 : decode prog_1_method_4_code 35 = .ok (.athrow, 1) := by decide +kernel
theorem d_Ho_propose_36 : decode prog_1_method_4_code 36 = .ok (.aload_n 2, 1) := by decide +kernel
theorem d_Ho_propose_37 : decode prog_1_method_4_code 37 = .ok (.iload_n 3, 1) := by decide +kernel
theorem d_Ho_propose_38 : decode prog_1_method_4_code 38 = .ok (.invokevirtual 84, 3) := by decide +kernel
theorem d_Ho_propose_41 : decode prog_1_method_4_code 41 = .ok (.aload_n 0, 1) := by decide +kernel
theorem d_Ho_propose_42 : decode prog_1_method_4_code 42 = .ok (.aload_n 2, 1) := by decide +kernel
theorem d_Ho_propose_43 : decode prog_1_method_4_code 43 = .ok (.iload_n 3, 1) := by decide +kernel
theorem d_Ho_propose_44 : decode prog_1_method_4_code 44 = .ok (.invokevirtual 87, 3) := by decide +kernel
theorem d_Ho_propose_47 : decode prog_1_method_4_code 47 = .ok (.iload_n 3, 1) := by decide +kernel
theorem d_Ho_propose_48 : decode prog_1_method_4_code 48 = .ok (.ireturn, 1) := by decide +kernel
theorem d_Pr_firstFree_0 : decode prog_5_method_4_code 0 = .ok (.aload_n 0, 1) := by decide +kernel
theorem d_Pr_firstFree_1 : decode prog_5_method_4_code 1 = .ok (.getfield 9, 3) := by decide +kernel
theorem d_Pr_firstFree_4 : decode prog_5_method_4_code 4 = .ok (.iconst 2, 1) := by decide +kernel
theorem d_Pr_firstFree_5 : decode prog_5_method_4_code 5 = .ok (.if_icmp .eq 5, 3) := by decide +kernel
theorem d_Pr_firstFree_8 : decode prog_5_method_4_code 8 = .ok (.iconst (-1), 1) := by decide +kernel
theorem d_Pr_firstFree_9 : decode prog_5_method_4_code 9 = .ok (.ireturn, 1) := by decide +kernel
theorem d_Pr_firstFree_10 : decode prog_5_method_4_code 10 = .ok (.iconst 0, 1) := by decide +kernel
theorem d_Pr_firstFree_11 : decode prog_5_method_4_code 11 = .ok (.istore_n 1, 1) := by decide +kernel
theorem d_Pr_firstFree_12 : decode prog_5_method_4_code 12 = .ok (.iload_n 1, 1) := by decide +kernel
theorem d_Pr_firstFree_13 : decode prog_5_method_4_code 13 = .ok (.bipush 8, 2) := by decide +kernel
theorem d_Pr_firstFree_15 : decode prog_5_method_4_code 15 = .ok (.if_icmp .ge 23, 3) := by decide +kernel
theorem d_Pr_firstFree_18 : decode prog_5_method_4_code 18 = .ok (.aload_n 0, 1) := by decide +kernel
theorem d_Pr_firstFree_19 : decode prog_5_method_4_code 19 = .ok (.getfield 27, 3) := by decide +kernel
theorem d_Pr_firstFree_22 : decode prog_5_method_4_code 22 = .ok (.iload_n 1, 1) := by decide +kernel
theorem d_Pr_firstFree_23 : decode prog_5_method_4_code 23 = .ok (.aaload, 1) := by decide +kernel
theorem d_Pr_firstFree_24 : decode prog_5_method_4_code 24 = .ok (.invokevirtual 54, 3) := by decide +kernel
theorem d_Pr_firstFree_27 : decode prog_5_method_4_code 27 = .ok (.ifCond .eq 5, 3) := by decide +kernel
theorem d_Pr_firstFree_30 : decode prog_5_method_4_code 30 = .ok (.iload_n 1, 1) := by decide +kernel
theorem d_Pr_firstFree_31 : decode prog_5_method_4_code 31 = .ok (.ireturn, 1) := by decide +kernel
theorem d_Pr_firstFree_32 : decode prog_5_method_4_code 32 = .ok (.iinc 1 1, 3) := by decide +kernel
theorem d_Pr_firstFree_35 : decode prog_5_method_4_code 35 = .ok (.goto (-23), 3) := by decide +kernel
theorem d_Pr_firstFree_38 : decode prog_5_method_4_code 38 = .ok (.iconst (-1), 1) := by decide +kernel
theorem d_Pr_firstFree_39 : decode prog_5_method_4_code 39 = .ok (.ireturn, 1) := by decide +kernel
theorem d_Sp_isOpen_0 : decode prog_9_method_2_code 0 = .ok (.aload_n 0, 1) := by decide +kernel
theorem d_Sp_isOpen_1 : decode prog_9_method_2_code 1 = .ok (.getfield 18, 3) := by decide +kernel
theorem d_Sp_isOpen_4 : decode prog_9_method_2_code 4 = .ok (.ifCond .ne 14, 3) := by decide +kernel
theorem d_Sp_isOpen_7 : decode prog_9_method_2_code 7 = .ok (.aload_n 0, 1) := by decide +kernel
theorem d_Sp_isOpen_8 : decode prog_9_method_2_code 8 = .ok (.getfield 22, 3) := by decide +kernel
theorem d_Sp_isOpen_11 : decode prog_9_method_2_code 11 = .ok (.ifCond .ne 7, 3) := by decide +kernel
theorem d_Sp_isOpen_14 : decode prog_9_method_2_code 14 = .ok (.iconst 1, 1) := by decide +kernel
theorem d_Sp_isOpen_15 : decode prog_9_method_2_code 15 = .ok (.goto 4, 3) := by decide +kernel
theorem d_Sp_isOpen_18 : decode prog_9_method_2_code 18 = .ok (.iconst 0, 1) := by decide +kernel
theorem d_Sp_isOpen_19 : decode prog_9_method_2_code 19 = .ok (.ireturn, 1) := by decide +kernel
theorem d_Pr_proposeDraft_0 : decode prog_5_method_5_code 0 = .ok (.aload_n 0, 1) := by decide +kernel
theorem d_Pr_proposeDraft_1 : decode prog_5_method_5_code 1 = .ok (.getfield 27, 3) := by decide +kernel
theorem d_Pr_proposeDraft_4 : decode prog_5_method_5_code 4 = .ok (.iload_n 1, 1) := by decide +kernel
theorem d_Pr_proposeDraft_5 : decode prog_5_method_5_code 5 = .ok (.aaload, 1) := by decide +kernel
theorem d_Pr_proposeDraft_6 : decode prog_5_method_5_code 6 = .ok (.aload_n 0, 1) := by decide +kernel
theorem d_Pr_proposeDraft_7 : decode prog_5_method_5_code 7 = .ok (.getfield 39, 3) := by decide +kernel
theorem d_Pr_proposeDraft_10 : decode prog_5_method_5_code 10 = .ok (.invokevirtual 58, 3) := by decide +kernel
theorem d_Pr_proposeDraft_13 : decode prog_5_method_5_code 13 = .ok (.aload_n 0, 1) := by decide +kernel
theorem d_Pr_proposeDraft_14 : decode prog_5_method_5_code 14 = .ok (.getfield 27, 3) := by decide +kernel
theorem d_Pr_proposeDraft_17 : decode prog_5_method_5_code 17 = .ok (.iload_n 1, 1) := by decide +kernel
theorem d_Pr_proposeDraft_18 : decode prog_5_method_5_code 18 = .ok (.aaload, 1) := by decide +kernel
theorem d_Pr_proposeDraft_19 : decode prog_5_method_5_code 19 = .ok (.getfield 62, 3) := by decide +kernel
theorem d_Pr_proposeDraft_22 : decode prog_5_method_5_code 22 = .ok (.aload_n 0, 1) := by decide +kernel
theorem d_Pr_proposeDraft_23 : decode prog_5_method_5_code 23 = .ok (.getfield 15, 3) := by decide +kernel
theorem d_Pr_proposeDraft_26 : decode prog_5_method_5_code 26 = .ok (.aload_n 0, 1) := by decide +kernel
theorem d_Pr_proposeDraft_27 : decode prog_5_method_5_code 27 = .ok (.getfield 36, 3) := by decide +kernel
theorem d_Pr_proposeDraft_30 : decode prog_5_method_5_code 30 = .ok (.invokevirtual 66, 3) := by decide +kernel
theorem d_Pr_proposeDraft_33 : decode prog_5_method_5_code 33 = .ok (.aload_n 0, 1) := by decide +kernel
theorem d_Pr_proposeDraft_34 : decode prog_5_method_5_code 34 = .ok (.iconst 0, 1) := by decide +kernel
theorem d_Pr_proposeDraft_35 : decode prog_5_method_5_code 35 = .ok (.putfield 36, 3) := by decide +kernel
theorem d_Pr_proposeDraft_38 : decode prog_5_method_5_code 38 = .ok (.return_, 1) := by decide +kernel
theorem d_Re_cut_0 : decode prog_6_method_4_code 0 = .ok (.aload_n 0, 1) := by decide +kernel
theorem d_Re_cut_1 : decode prog_6_method_4_code 1 = .ok (.iload_n 2, 1) := by decide +kernel
theorem d_Re_cut_2 : decode prog_6_method_4_code 2 = .ok (.putfield 15, 3) := by decide +kernel
theorem d_Re_cut_5 : decode prog_6_method_4_code 5 = .ok (.aload_n 0, 1) := by decide +kernel
theorem d_Re_cut_6 : decode prog_6_method_4_code 6 = .ok (.invokevirtual 19, 3) := by decide +kernel
theorem d_Re_cut_9 : decode prog_6_method_4_code 9 = .ok (.iconst 1, 1) := by decide +kernel
theorem d_Re_cut_10 : decode prog_6_method_4_code 10 = .ok (.iload_n 2, 1) := by decide +kernel
theorem d_Re_cut_11 : decode prog_6_method_4_code 11 = .ok (.invokestatic 22, 3) := by decide +kernel
theorem d_Re_cut_14 : decode prog_6_method_4_code 14 = .ok (.invokestatic 26, 3) := by decide +kernel
theorem d_Re_cut_17 : decode prog_6_method_4_code 17 = .ok (.istore_n 3, 1) := by decide +kernel
theorem d_Re_cut_18 : decode prog_6_method_4_code 18 = .ok (.iconst 0, 1) := by decide +kernel
theorem d_Re_cut_19 : decode prog_6_method_4_code 19 = .ok (.istore 4, 2) := by decide +kernel
theorem d_Re_cut_21 : decode prog_6_method_4_code 21 = .ok (.iload 4, 2) := by decide +kernel
theorem d_Re_cut_23 : decode prog_6_method_4_code 23 = .ok (.iload_n 2, 1) := by decide +kernel
theorem d_Re_cut_24 : decode prog_6_method_4_code 24 = .ok (.if_icmp .ge 38, 3) := by decide +kernel
theorem d_Re_cut_27 : decode prog_6_method_4_code 27 = .ok (.aload_n 0, 1) := by decide +kernel
theorem d_Re_cut_28 : decode prog_6_method_4_code 28 = .ok (.getfield 9, 3) := by decide +kernel
theorem d_Re_cut_31 : decode prog_6_method_4_code 31 = .ok (.iload 4, 2) := by decide +kernel
theorem d_Re_cut_33 : decode prog_6_method_4_code 33 = .ok (.iload_n 3, 1) := by decide +kernel
theorem d_Re_cut_34 : decode prog_6_method_4_code 34 = .ok (.idiv, 1) := by decide +kernel
theorem d_Re_cut_35 : decode prog_6_method_4_code 35 = .ok (.dup2, 1) := by decide +kernel
theorem d_Re_cut_36 : decode prog_6_method_4_code 36 = .ok (.laload, 1) := by decide +kernel
theorem d_Re_cut_37 : decode prog_6_method_4_code 37 = .ok (.aload_n 1, 1) := by decide +kernel
theorem d_Re_cut_38 : decode prog_6_method_4_code 38 = .ok (.iload 4, 2) := by decide +kernel
theorem d_Re_cut_40 : decode prog_6_method_4_code 40 = .ok (.baload, 1) := by decide +kernel
theorem d_Re_cut_41 : decode prog_6_method_4_code 41 = .ok (.i2l, 1) := by decide +kernel
theorem d_Re_cut_42 : decode prog_6_method_4_code 42 = .ok (.ldc2_w 32, 3) := by decide +kernel
theorem d_Re_cut_45 : decode prog_6_method_4_code 45 = .ok (.land, 1) := by decide +kernel
theorem d_Re_cut_46 : decode prog_6_method_4_code 46 = .ok (.bipush 8, 2) := by decide +kernel
theorem d_Re_cut_48 : decode prog_6_method_4_code 48 = .ok (.iload 4, 2) := by decide +kernel
theorem d_Re_cut_50 : decode prog_6_method_4_code 50 = .ok (.iload_n 3, 1) := by decide +kernel
theorem d_Re_cut_51 : decode prog_6_method_4_code 51 = .ok (.irem, 1) := by decide +kernel
theorem d_Re_cut_52 : decode prog_6_method_4_code 52 = .ok (.imul, 1) := by decide +kernel
theorem d_Re_cut_53 : decode prog_6_method_4_code 53 = .ok (.lshl, 1) := by decide +kernel
theorem d_Re_cut_54 : decode prog_6_method_4_code 54 = .ok (.lor, 1) := by decide +kernel
theorem d_Re_cut_55 : decode prog_6_method_4_code 55 = .ok (.lastore, 1) := by decide +kernel
theorem d_Re_cut_56 : decode prog_6_method_4_code 56 = .ok (.iinc 4 1, 3) := by decide +kernel
theorem d_Re_cut_59 : decode prog_6_method_4_code 59 = .ok (.goto (-38), 3) := by decide +kernel
theorem d_Re_cut_62 : decode prog_6_method_4_code 62 = .ok (.return_, 1) := by decide +kernel
theorem d_Re_clearPieces_0 : decode prog_6_method_5_code 0 = .ok (.iconst 0, 1) := by decide +kernel
theorem d_Re_clearPieces_1 : decode prog_6_method_5_code 1 = .ok (.istore_n 1, 1) := by decide +kernel
theorem d_Re_clearPieces_2 : decode prog_6_method_5_code 2 = .ok (.iload_n 1, 1) := by decide +kernel
theorem d_Re_clearPieces_3 : decode prog_6_method_5_code 3 = .ok (.iconst 3, 1) := by decide +kernel
theorem d_Re_clearPieces_4 : decode prog_6_method_5_code 4 = .ok (.if_icmp .ge 16, 3) := by decide +kernel
theorem d_Re_clearPieces_7 : decode prog_6_method_5_code 7 = .ok (.aload_n 0, 1) := by decide +kernel
theorem d_Re_clearPieces_8 : decode prog_6_method_5_code 8 = .ok (.getfield 9, 3) := by decide +kernel
theorem d_Re_clearPieces_11 : decode prog_6_method_5_code 11 = .ok (.iload_n 1, 1) := by decide +kernel
theorem d_Re_clearPieces_12 : decode prog_6_method_5_code 12 = .ok (.lconst 0, 1) := by decide +kernel
theorem d_Re_clearPieces_13 : decode prog_6_method_5_code 13 = .ok (.lastore, 1) := by decide +kernel
theorem d_Re_clearPieces_14 : decode prog_6_method_5_code 14 = .ok (.iinc 1 1, 3) := by decide +kernel
theorem d_Re_clearPieces_17 : decode prog_6_method_5_code 17 = .ok (.goto (-15), 3) := by decide +kernel
theorem d_Re_clearPieces_20 : decode prog_6_method_5_code 20 = .ok (.return_, 1) := by decide +kernel
theorem d_Re_third_0 : decode prog_6_method_2_code 0 = .ok (.iload_n 0, 1) := by decide +kernel
theorem d_Re_third_1 : decode prog_6_method_2_code 1 = .ok (.iconst 3, 1) := by decide +kernel
theorem d_Re_third_2 : decode prog_6_method_2_code 2 = .ok (.iadd, 1) := by decide +kernel
theorem d_Re_third_3 : decode prog_6_method_2_code 3 = .ok (.iconst 1, 1) := by decide +kernel
theorem d_Re_third_4 : decode prog_6_method_2_code 4 = .ok (.isub, 1) := by decide +kernel
theorem d_Re_third_5 : decode prog_6_method_2_code 5 = .ok (.iconst 3, 1) := by decide +kernel
theorem d_Re_third_6 : decode prog_6_method_2_code 6 = .ok (.idiv, 1) := by decide +kernel
theorem d_Re_third_7 : decode prog_6_method_2_code 7 = .ok (.ireturn, 1) := by decide +kernel
theorem d_Ho_sendAccepts_0 : decode prog_1_method_28_code 0 = .ok (.aload_n 1, 1) := by decide +kernel
theorem d_Ho_sendAccepts_1 : decode prog_1_method_28_code 1 = .ok (.getfield 165, 3) := by decide +kernel
theorem d_Ho_sendAccepts_4 : decode prog_1_method_28_code 4 = .ok (.iload_n 2, 1) := by decide +kernel
theorem d_Ho_sendAccepts_5 : decode prog_1_method_28_code 5 = .ok (.aaload, 1) := by decide +kernel
theorem d_Ho_sendAccepts_6 : decode prog_1_method_28_code 6 = .ok (.astore_n 3, 1) := by decide +kernel
theorem d_Ho_sendAccepts_7 : decode prog_1_method_28_code 7 = .ok (.iconst 0, 1) := by decide +kernel
theorem d_Ho_sendAccepts_8 : decode prog_1_method_28_code 8 = .ok (.istore 4, 2) := by decide +kernel
theorem d_Ho_sendAccepts_10 : decode prog_1_method_28_code 10 = .ok (.iload 4, 2) := by decide +kernel
theorem d_Ho_sendAccepts_12 : decode prog_1_method_28_code 12 = .ok (.bipush 7, 2) := by decide +kernel
theorem d_Ho_sendAccepts_14 : decode prog_1_method_28_code 14 = .ok (.if_icmp .ge 79, 3) := by decide +kernel
theorem d_Ho_sendAccepts_17 : decode prog_1_method_28_code 17 = .ok (.aload_n 3, 1) := by decide +kernel
theorem d_Ho_sendAccepts_18 : decode prog_1_method_28_code 18 = .ok (.iload 4, 2) := by decide +kernel
theorem d_Ho_sendAccepts_20 : decode prog_1_method_28_code 20 = .ok (.invokevirtual 261, 3) := by decide +kernel
theorem d_Ho_sendAccepts_23 : decode prog_1_method_28_code 23 = .ok (.ifCond .ne 64, 3) := by decide +kernel
theorem d_Ho_sendAccepts_26 : decode prog_1_method_28_code 26 = .ok (.aload_n 0, 1) := by decide +kernel
theorem d_Ho_sendAccepts_27 : decode prog_1_method_28_code 27 = .ok (.getfield 28, 3) := by decide +kernel
theorem d_Ho_sendAccepts_30 : decode prog_1_method_28_code 30 = .ok (.iconst 2, 1) := by decide +kernel
theorem d_Ho_sendAccepts_31 : decode prog_1_method_28_code 31 = .ok (.iload 4, 2) := by decide +kernel
theorem d_Ho_sendAccepts_33 : decode prog_1_method_28_code 33 = .ok (.aload_n 1, 1) := by decide +kernel
theorem d_Ho_sendAccepts_34 : decode prog_1_method_28_code 34 = .ok (.getfield 250, 3) := by decide +kernel
theorem d_Ho_sendAccepts_37 : decode prog_1_method_28_code 37 = .ok (.aload_n 1, 1) := by decide +kernel
theorem d_Ho_sendAccepts_38 : decode prog_1_method_28_code 38 = .ok (.getfield 71, 3) := by decide +kernel
theorem d_Ho_sendAccepts_41 : decode prog_1_method_28_code 41 = .ok (.invokevirtual 253, 3) := by decide +kernel
theorem d_Ho_sendAccepts_44 : decode prog_1_method_28_code 44 = .ok (.astore 5, 2) := by decide +kernel
theorem d_Ho_sendAccepts_46 : decode prog_1_method_28_code 46 = .ok (.aload 5, 2) := by decide +kernel
theorem d_Ho_sendAccepts_48 : decode prog_1_method_28_code 48 = .ok (.ifnull 39, 3) := by decide +kernel
theorem d_Ho_sendAccepts_51 : decode prog_1_method_28_code 51 = .ok (.aload 5, 2) := by decide +kernel
theorem d_Ho_sendAccepts_53 : decode prog_1_method_28_code 53 = .ok (.iload_n 2, 1) := by decide +kernel
theorem d_Ho_sendAccepts_54 : decode prog_1_method_28_code 54 = .ok (.aload_n 3, 1) := by decide +kernel
theorem d_Ho_sendAccepts_55 : decode prog_1_method_28_code 55 = .ok (.getfield 264, 3) := by decide +kernel
theorem d_Ho_sendAccepts_58 : decode prog_1_method_28_code 58 = .ok (.invokevirtual 267, 3) := by decide +kernel
theorem d_Ho_sendAccepts_61 : decode prog_1_method_28_code 61 = .ok (.aload 5, 2) := by decide +kernel
theorem d_Ho_sendAccepts_63 : decode prog_1_method_28_code 63 = .ok (.aload_n 3, 1) := by decide +kernel
theorem d_Ho_sendAccepts_64 : decode prog_1_method_28_code 64 = .ok (.getfield 271, 3) := by decide +kernel
theorem d_Ho_sendAccepts_67 : decode prog_1_method_28_code 67 = .ok (.getfield 190, 3) := by decide +kernel
theorem d_Ho_sendAccepts_70 : decode prog_1_method_28_code 70 = .ok (.putfield 274, 3) := by decide +kernel
theorem d_Ho_sendAccepts_73 : decode prog_1_method_28_code 73 = .ok (.aload 5, 2) := by decide +kernel
theorem d_Ho_sendAccepts_75 : decode prog_1_method_28_code 75 = .ok (.aload_n 3, 1) := by decide +kernel
theorem d_Ho_sendAccepts_76 : decode prog_1_method_28_code 76 = .ok (.getfield 271, 3) := by decide +kernel
theorem d_Ho_sendAccepts_79 : decode prog_1_method_28_code 79 = .ok (.iload 4, 2) := by decide +kernel
theorem d_Ho_sendAccepts_81 : decode prog_1_method_28_code 81 = .ok (.invokevirtual 193, 3) := by decide +kernel
theorem d_Ho_sendAccepts_84 : decode prog_1_method_28_code 84 = .ok (.putfield 275, 3) := by decide +kernel
theorem d_Ho_sendAccepts_87 : decode prog_1_method_28_code 87 = .ok (.iinc 4 1, 3) := by decide +kernel
theorem d_Ho_sendAccepts_90 : decode prog_1_method_28_code 90 = .ok (.goto (-80), 3) := by decide +kernel
theorem d_Ho_sendAccepts_93 : decode prog_1_method_28_code 93 = .ok (.return_, 1) := by decide +kernel
theorem d_Sp_hasAnswerOf_0 : decode prog_9_method_4_code 0 = .ok (.aload_n 0, 1) := by decide +kernel
theorem d_Sp_hasAnswerOf_1 : decode prog_9_method_4_code 1 = .ok (.getfield 25, 3) := by decide +kernel
theorem d_Sp_hasAnswerOf_4 : decode prog_9_method_4_code 4 = .ok (.iload_n 1, 1) := by decide +kernel
theorem d_Sp_hasAnswerOf_5 : decode prog_9_method_4_code 5 = .ok (.iushr, 1) := by decide +kernel
theorem d_Sp_hasAnswerOf_6 : decode prog_9_method_4_code 6 = .ok (.iconst 1, 1) := by decide +kernel
theorem d_Sp_hasAnswerOf_7 : decode prog_9_method_4_code 7 = .ok (.iand, 1) := by decide +kernel
theorem d_Sp_hasAnswerOf_8 : decode prog_9_method_4_code 8 = .ok (.iconst 1, 1) := by decide +kernel
theorem d_Sp_hasAnswerOf_9 : decode prog_9_method_4_code 9 = .ok (.if_icmp .ne 7, 3) := by decide +kernel
theorem d_Sp_hasAnswerOf_12 : decode prog_9_method_4_code 12 = .ok (.iconst 1, 1) := by decide +kernel
theorem d_Sp_hasAnswerOf_13 : decode prog_9_method_4_code 13 = .ok (.goto 4, 3) := by decide +kernel
theorem d_Sp_hasAnswerOf_16 : decode prog_9_method_4_code 16 = .ok (.iconst 0, 1) := by decide +kernel
theorem d_Sp_hasAnswerOf_17 : decode prog_9_method_4_code 17 = .ok (.ireturn, 1) := by decide +kernel
theorem d_Le_aboutPlace_0 : decode prog_4_method_3_code 0 = .ok (.aload_n 0, 1) := by decide +kernel
theorem d_Le_aboutPlace_1 : decode prog_4_method_3_code 1 = .ok (.iload_n 1, 1) := by decide +kernel
theorem d_Le_aboutPlace_2 : decode prog_4_method_3_code 2 = .ok (.putfield 31, 3) := by decide +kernel
theorem d_Le_aboutPlace_5 : decode prog_4_method_3_code 5 = .ok (.aload_n 0, 1) := by decide +kernel
theorem d_Le_aboutPlace_6 : decode prog_4_method_3_code 6 = .ok (.iload_n 2, 1) := by decide +kernel
theorem d_Le_aboutPlace_7 : decode prog_4_method_3_code 7 = .ok (.putfield 34, 3) := by decide +kernel
theorem d_Le_aboutPlace_10 : decode prog_4_method_3_code 10 = .ok (.return_, 1) := by decide +kernel
theorem d_Re_shareOf_0 : decode prog_6_method_7_code 0 = .ok (.iload_n 1, 1) := by decide +kernel
theorem d_Re_shareOf_1 : decode prog_6_method_7_code 1 = .ok (.invokestatic 34, 3) := by decide +kernel
theorem d_Re_shareOf_4 : decode prog_6_method_7_code 4 = .ok (.istore_n 2, 1) := by decide +kernel
theorem d_Re_shareOf_5 : decode prog_6_method_7_code 5 = .ok (.lconst 0, 1) := by decide +kernel
theorem d_Re_shareOf_6 : decode prog_6_method_7_code 6 = .ok (.lstore_n 3, 1) := by decide +kernel
theorem d_Re_shareOf_7 : decode prog_6_method_7_code 7 = .ok (.iconst 2, 1) := by decide +kernel
theorem d_Re_shareOf_8 : decode prog_6_method_7_code 8 = .ok (.istore 5, 2) := by decide +kernel
theorem d_Re_shareOf_10 : decode prog_6_method_7_code 10 = .ok (.iload 5, 2) := by decide +kernel
theorem d_Re_shareOf_12 : decode prog_6_method_7_code 12 = .ok (.ifCond .lt 23, 3) := by decide +kernel
theorem d_Re_shareOf_15 : decode prog_6_method_7_code 15 = .ok (.lload_n 3, 1) := by decide +kernel
theorem d_Re_shareOf_16 : decode prog_6_method_7_code 16 = .ok (.iload_n 2, 1) := by decide +kernel
theorem d_Re_shareOf_17 : decode prog_6_method_7_code 17 = .ok (.invokestatic 37, 3) := by decide +kernel
theorem d_Re_shareOf_20 : decode prog_6_method_7_code 20 = .ok (.aload_n 0, 1) := by decide +kernel
theorem d_Re_shareOf_21 : decode prog_6_method_7_code 21 = .ok (.getfield 9, 3) := by decide +kernel
theorem d_Re_shareOf_24 : decode prog_6_method_7_code 24 = .ok (.iload 5, 2) := by decide +kernel
theorem d_Re_shareOf_26 : decode prog_6_method_7_code 26 = .ok (.laload, 1) := by decide +kernel
theorem d_Re_shareOf_27 : decode prog_6_method_7_code 27 = .ok (.lxor, 1) := by decide +kernel
theorem d_Re_shareOf_28 : decode prog_6_method_7_code 28 = .ok (.lstore_n 3, 1) := by decide +kernel
theorem d_Re_shareOf_29 : decode prog_6_method_7_code 29 = .ok (.iinc 5 (-1), 3) := by decide +kernel
theorem d_Re_shareOf_32 : decode prog_6_method_7_code 32 = .ok (.goto (-22), 3) := by decide +kernel
theorem d_Re_shareOf_35 : decode prog_6_method_7_code 35 = .ok (.lload_n 3, 1) := by decide +kernel
theorem d_Re_shareOf_36 : decode prog_6_method_7_code 36 = .ok (.lreturn, 1) := by decide +kernel
theorem d_Re_pointOf_0 : decode prog_6_method_3_code 0 = .ok (.iload_n 0, 1) := by decide +kernel
theorem d_Re_pointOf_1 : decode prog_6_method_3_code 1 = .ok (.iconst 1, 1) := by decide +kernel
theorem d_Re_pointOf_2 : decode prog_6_method_3_code 2 = .ok (.iadd, 1) := by decide +kernel
theorem d_Re_pointOf_3 : decode prog_6_method_3_code 3 = .ok (.ireturn, 1) := by decide +kernel
theorem d_Fi_times_0 : decode prog_2_method_2_code 0 = .ok (.lconst 0, 1) := by decide +kernel
theorem d_Fi_times_1 : decode prog_2_method_2_code 1 = .ok (.lstore_n 3, 1) := by decide +kernel
theorem d_Fi_times_2 : decode prog_2_method_2_code 2 = .ok (.lload_n 0, 1) := by decide +kernel
theorem d_Fi_times_3 : decode prog_2_method_2_code 3 = .ok (.lstore 5, 2) := by decide +kernel
theorem d_Fi_times_5 : decode prog_2_method_2_code 5 = .ok (.iconst 0, 1) := by decide +kernel
theorem d_Fi_times_6 : decode prog_2_method_2_code 6 = .ok (.istore 7, 2) := by decide +kernel
theorem d_Fi_times_8 : decode prog_2_method_2_code 8 = .ok (.iload 7, 2) := by decide +kernel
theorem d_Fi_times_10 : decode prog_2_method_2_code 10 = .ok (.bipush 8, 2) := by decide +kernel
theorem d_Fi_times_12 : decode prog_2_method_2_code 12 = .ok (.if_icmp .ge 48, 3) := by decide +kernel
theorem d_Fi_times_15 : decode prog_2_method_2_code 15 = .ok (.iload_n 2, 1) := by decide +kernel
theorem d_Fi_times_16 : decode prog_2_method_2_code 16 = .ok (.iload 7, 2) := by decide +kernel
theorem d_Fi_times_18 : decode prog_2_method_2_code 18 = .ok (.iushr, 1) := by decide +kernel
theorem d_Fi_times_19 : decode prog_2_method_2_code 19 = .ok (.iconst 1, 1) := by decide +kernel
theorem d_Fi_times_20 : decode prog_2_method_2_code 20 = .ok (.iand, 1) := by decide +kernel
theorem d_Fi_times_21 : decode prog_2_method_2_code 21 = .ok (.iconst 1, 1) := by decide +kernel
theorem d_Fi_times_22 : decode prog_2_method_2_code 22 = .ok (.if_icmp .ne 8, 3) := by decide +kernel
theorem d_Fi_times_25 : decode prog_2_method_2_code 25 = .ok (.lload_n 3, 1) := by decide +kernel
theorem d_Fi_times_26 : decode prog_2_method_2_code 26 = .ok (.lload 5, 2) := by decide +kernel
theorem d_Fi_times_28 : decode prog_2_method_2_code 28 = .ok (.lxor, 1) := by decide +kernel
theorem d_Fi_times_29 : decode prog_2_method_2_code 29 = .ok (.lstore_n 3, 1) := by decide +kernel
theorem d_Fi_times_30 : decode prog_2_method_2_code 30 = .ok (.lload 5, 2) := by decide +kernel
theorem d_Fi_times_32 : decode prog_2_method_2_code 32 = .ok (.ldc2_w 9, 3) := by decide +kernel
theorem d_Fi_times_35 : decode prog_2_method_2_code 35 = .ok (.land, 1) := by decide +kernel
theorem d_Fi_times_36 : decode prog_2_method_2_code 36 = .ok (.iconst 1, 1) := by decide +kernel
theorem d_Fi_times_37 : decode prog_2_method_2_code 37 = .ok (.lshl, 1) := by decide +kernel
theorem d_Fi_times_38 : decode prog_2_method_2_code 38 = .ok (.lload 5, 2) := by decide +kernel
theorem d_Fi_times_40 : decode prog_2_method_2_code 40 = .ok (.bipush 7, 2) := by decide +kernel
theorem d_Fi_times_42 : decode prog_2_method_2_code 42 = .ok (.lushr, 1) := by decide +kernel
theorem d_Fi_times_43 : decode prog_2_method_2_code 43 = .ok (.ldc2_w 11, 3) := by decide +kernel
theorem d_Fi_times_46 : decode prog_2_method_2_code 46 = .ok (.land, 1) := by decide +kernel
theorem d_Fi_times_47 : decode prog_2_method_2_code 47 = .ok (.ldc2_w 13, 3) := by decide +kernel
theorem d_Fi_times_50 : decode prog_2_method_2_code 50 = .ok (.lmul, 1) := by decide +kernel
theorem d_Fi_times_51 : decode prog_2_method_2_code 51 = .ok (.lxor, 1) := by decide +kernel
theorem d_Fi_times_52 : decode prog_2_method_2_code 52 = .ok (.lstore 5, 2) := by decide +kernel
theorem d_Fi_times_54 : decode prog_2_method_2_code 54 = .ok (.iinc 7 1, 3) := by decide +kernel
theorem d_Fi_times_57 : decode prog_2_method_2_code 57 = .ok (.goto (-49), 3) := by decide +kernel
theorem d_Fi_times_60 : decode prog_2_method_2_code 60 = .ok (.lload_n 3, 1) := by decide +kernel
theorem d_Fi_times_61 : decode prog_2_method_2_code 61 = .ok (.lreturn, 1) := by decide +kernel
theorem d_Ho_resend_0 : decode prog_1_method_5_code 0 = .ok (.iload_n 1, 1) := by decide +kernel
theorem d_Ho_resend_1 : decode prog_1_method_5_code 1 = .ok (.invokestatic 57, 3) := by decide +kernel
theorem d_Ho_resend_4 : decode prog_1_method_5_code 4 = .ok (.aload_n 0, 1) := by decide +kernel
theorem d_Ho_resend_5 : decode prog_1_method_5_code 5 = .ok (.getfield 18, 3) := by decide +kernel
theorem d_Ho_resend_8 : decode prog_1_method_5_code 8 = .ok (.iload_n 1, 1) := by decide +kernel
theorem d_Ho_resend_9 : decode prog_1_method_5_code 9 = .ok (.aaload, 1) := by decide +kernel
theorem d_Ho_resend_10 : decode prog_1_method_5_code 10 = .ok (.astore_n 2, 1) := by decide +kernel
theorem d_Ho_resend_11 : decode prog_1_method_5_code 11 = .ok (.aload_n 0, 1) := by decide +kernel
theorem d_Ho_resend_12 : decode prog_1_method_5_code 12 = .ok (.getfield 28, 3) := by decide +kernel
theorem d_Ho_resend_15 : decode prog_1_method_5_code 15 = .ok (.getfield 91, 3) := by decide +kernel
theorem d_Ho_resend_18 : decode prog_1_method_5_code 18 = .ok (.istore_n 3, 1) := by decide +kernel
theorem d_Ho_resend_19 : decode prog_1_method_5_code 19 = .ok (.aload_n 2, 1) := by decide +kernel
theorem d_Ho_resend_20 : decode prog_1_method_5_code 20 = .ok (.getfield 94, 3) := by decide +kernel
theorem d_Ho_resend_23 : decode prog_1_method_5_code 23 = .ok (.iconst 1, 1) := by decide +kernel
theorem d_Ho_resend_24 : decode prog_1_method_5_code 24 = .ok (.if_icmp .ne 11, 3) := by decide +kernel
theorem d_Ho_resend_27 : decode prog_1_method_5_code 27 = .ok (.aload_n 0, 1) := by decide +kernel
theorem d_Ho_resend_28 : decode prog_1_method_5_code 28 = .ok (.aload_n 2, 1) := by decide +kernel
theorem d_Ho_resend_29 : decode prog_1_method_5_code 29 = .ok (.invokevirtual 67, 3) := by decide +kernel
theorem d_Ho_resend_32 : decode prog_1_method_5_code 32 = .ok (.goto 16, 3) := by decide +kernel
theorem d_Ho_resend_35 : decode prog_1_method_5_code 35 = .ok (.aload_n 2, 1) := by decide +kernel
theorem d_Ho_resend_36 : decode prog_1_method_5_code 36 = .ok (.getfield 94, 3) := by decide +kernel
theorem d_Ho_resend_39 : decode prog_1_method_5_code 39 = .ok (.iconst 2, 1) := by decide +kernel
theorem d_Ho_resend_40 : decode prog_1_method_5_code 40 = .ok (.if_icmp .ne 8, 3) := by decide +kernel
theorem d_Ho_resend_43 : decode prog_1_method_5_code 43 = .ok (.aload_n 0, 1) := by decide +kernel
theorem d_Ho_resend_44 : decode prog_1_method_5_code 44 = .ok (.aload_n 2, 1) := by decide +kernel
theorem d_Ho_resend_45 : decode prog_1_method_5_code 45 = .ok (.invokevirtual 97, 3) := by decide +kernel
theorem d_Ho_resend_48 : decode prog_1_method_5_code 48 = .ok (.aload_n 0, 1) := by decide +kernel
theorem d_Ho_resend_49 : decode prog_1_method_5_code 49 = .ok (.getfield 28, 3) := by decide +kernel
theorem d_Ho_resend_52 : decode prog_1_method_5_code 52 = .ok (.getfield 91, 3) := by decide +kernel
theorem d_Ho_resend_55 : decode prog_1_method_5_code 55 = .ok (.iload_n 3, 1) := by decide +kernel
theorem d_Ho_resend_56 : decode prog_1_method_5_code 56 = .ok (.isub, 1) := by decide +kernel
theorem d_Ho_resend_57 : decode prog_1_method_5_code 57 = .ok (.ireturn, 1) := by decide +kernel
theorem d_Ho_sendAllAccepts_0 : decode prog_1_method_27_code 0 = .ok (.iconst 0, 1) := by decide +kernel
theorem d_Ho_sendAllAccepts_1 : decode prog_1_method_27_code 1 = .ok (.istore_n 2, 1) := by decide +kernel
theorem d_Ho_sendAllAccepts_2 : decode prog_1_method_27_code 2 = .ok (.iload_n 2, 1) := by decide +kernel
theorem d_Ho_sendAllAccepts_3 : decode prog_1_method_27_code 3 = .ok (.bipush 8, 2) := by decide +kernel
theorem d_Ho_sendAllAccepts_5 : decode prog_1_method_27_code 5 = .ok (.if_icmp .ge 27, 3) := by decide +kernel
theorem d_Ho_sendAllAccepts_8 : decode prog_1_method_27_code 8 = .ok (.aload_n 1, 1) := by decide +kernel
theorem d_Ho_sendAllAccepts_9 : decode prog_1_method_27_code 9 = .ok (.getfield 165, 3) := by decide +kernel
theorem d_Ho_sendAllAccepts_12 : decode prog_1_method_27_code 12 = .ok (.iload_n 2, 1) := by decide +kernel
theorem d_Ho_sendAllAccepts_13 : decode prog_1_method_27_code 13 = .ok (.aaload, 1) := by decide +kernel
theorem d_Ho_sendAllAccepts_14 : decode prog_1_method_27_code 14 = .ok (.invokevirtual 257, 3) := by decide +kernel
theorem d_Ho_sendAllAccepts_17 : decode prog_1_method_27_code 17 = .ok (.ifCond .eq 9, 3) := by decide +kernel
theorem d_Ho_sendAllAccepts_20 : decode prog_1_method_27_code 20 = .ok (.aload_n 0, 1) := by decide +kernel
theorem d_Ho_sendAllAccepts_21 : decode prog_1_method_27_code 21 = .ok (.aload_n 1, 1) := by decide +kernel
theorem d_Ho_sendAllAccepts_22 : decode prog_1_method_27_code 22 = .ok (.iload_n 2, 1) := by decide +kernel
theorem d_Ho_sendAllAccepts_23 : decode prog_1_method_27_code 23 = .ok (.invokevirtual 87, 3) := by decide +kernel
theorem d_Ho_sendAllAccepts_26 : decode prog_1_method_27_code 26 = .ok (.iinc 2 1, 3) := by decide +kernel
theorem d_Ho_sendAllAccepts_29 : decode prog_1_method_27_code 29 = .ok (.goto (-27), 3) := by decide +kernel
theorem d_Ho_sendAllAccepts_32 : decode prog_1_method_27_code 32 = .ok (.return_, 1) := by decide +kernel
theorem d_Sp_isWaiting_0 : decode prog_9_method_3_code 0 = .ok (.aload_n 0, 1) := by decide +kernel
theorem d_Sp_isWaiting_1 : decode prog_9_method_3_code 1 = .ok (.getfield 22, 3) := by decide +kernel
theorem d_Sp_isWaiting_4 : decode prog_9_method_3_code 4 = .ok (.ifCond .eq 7, 3) := by decide +kernel
theorem d_Sp_isWaiting_7 : decode prog_9_method_3_code 7 = .ok (.iconst 1, 1) := by decide +kernel
theorem d_Sp_isWaiting_8 : decode prog_9_method_3_code 8 = .ok (.goto 4, 3) := by decide +kernel
theorem d_Sp_isWaiting_11 : decode prog_9_method_3_code 11 = .ok (.iconst 0, 1) := by decide +kernel
theorem d_Sp_isWaiting_12 : decode prog_9_method_3_code 12 = .ok (.ireturn, 1) := by decide +kernel
theorem d_Ho_deliver_0 : decode prog_1_method_6_code 0 = .ok (.aload_n 0, 1) := by decide +kernel
theorem d_Ho_deliver_1 : decode prog_1_method_6_code 1 = .ok (.iload_n 1, 1) := by decide +kernel
theorem d_Ho_deliver_2 : decode prog_1_method_6_code 2 = .ok (.invokevirtual 100, 3) := by decide +kernel
theorem d_Ho_deliver_5 : decode prog_1_method_6_code 5 = .ok (.aload_n 0, 1) := by decide +kernel
theorem d_Ho_deliver_6 : decode prog_1_method_6_code 6 = .ok (.getfield 28, 3) := by decide +kernel
theorem d_Ho_deliver_9 : decode prog_1_method_6_code 9 = .ok (.iload_n 1, 1) := by decide +kernel
theorem d_Ho_deliver_10 : decode prog_1_method_6_code 10 = .ok (.invokevirtual 103, 3) := by decide +kernel
theorem d_Ho_deliver_13 : decode prog_1_method_6_code 13 = .ok (.astore_n 2, 1) := by decide +kernel
theorem d_Ho_deliver_14 : decode prog_1_method_6_code 14 = .ok (.aload_n 0, 1) := by decide +kernel
theorem d_Ho_deliver_15 : decode prog_1_method_6_code 15 = .ok (.getfield 28, 3) := by decide +kernel
theorem d_Ho_deliver_18 : decode prog_1_method_6_code 18 = .ok (.getfield 91, 3) := by decide +kernel
theorem d_Ho_deliver_21 : decode prog_1_method_6_code 21 = .ok (.istore_n 3, 1) := by decide +kernel
theorem d_Ho_deliver_22 : decode prog_1_method_6_code 22 = .ok (.aload_n 2, 1) := by decide +kernel
theorem d_Ho_deliver_23 : decode prog_1_method_6_code 23 = .ok (.getfield 107, 3) := by decide +kernel
theorem d_Ho_deliver_26 : decode prog_1_method_6_code 26 = .ok (.tableswitch 50 0 2 #[26, 34, 42], 26) := by decide +kernel
theorem d_Ho_deliver_52 : decode prog_1_method_6_code 52 = .ok (.aload_n 0, 1) := by decide +kernel
theorem d_Ho_deliver_53 : decode prog_1_method_6_code 53 = .ok (.aload_n 2, 1) := by decide +kernel
theorem d_Ho_deliver_54 : decode prog_1_method_6_code 54 = .ok (.invokevirtual 112, 3) := by decide +kernel
theorem d_Ho_deliver_57 : decode prog_1_method_6_code 57 = .ok (.goto 32, 3) := by decide +kernel
theorem d_Ho_deliver_60 : decode prog_1_method_6_code 60 = .ok (.aload_n 0, 1) := by decide +kernel
theorem d_Ho_deliver_61 : decode prog_1_method_6_code 61 = .ok (.aload_n 2, 1) := by decide +kernel
theorem d_Ho_deliver_62 : decode prog_1_method_6_code 62 = .ok (.invokevirtual 116, 3) := by decide +kernel
theorem d_Ho_deliver_65 : decode prog_1_method_6_code 65 = .ok (.goto 24, 3) := by decide +kernel
theorem d_Ho_deliver_68 : decode prog_1_method_6_code 68 = .ok (.aload_n 0, 1) := by decide +kernel
theorem d_Ho_deliver_69 : decode prog_1_method_6_code 69 = .ok (.aload_n 2, 1) := by decide +kernel
theorem d_Ho_deliver_70 : decode prog_1_method_6_code 70 = .ok (.invokevirtual 119, 3) := by decide +kernel
theorem d_Ho_deliver_73 : decode prog_1_method_6_code 73 = .ok (.goto 16, 3) := by decide +kernel
theorem d_Ho_deliver_76 : decode prog_1_method_6_code 76 = .ok (.aload_n 0, 1) := by decide +kernel
theorem d_Ho_deliver_77 : decode prog_1_method_6_code 77 = .ok (.getfield 18, 3) := by decide +kernel
theorem d_Ho_deliver_80 : decode prog_1_method_6_code 80 = .ok (.aload_n 2, 1) := by decide +kernel
theorem d_Ho_deliver_81 : decode prog_1_method_6_code 81 = .ok (.getfield 122, 3) := by decide +kernel
theorem d_Ho_deliver_84 : decode prog_1_method_6_code 84 = .ok (.aaload, 1) := by decide +kernel
theorem d_Ho_deliver_85 : decode prog_1_method_6_code 85 = .ok (.aload_n 2, 1) := by decide +kernel
theorem d_Ho_deliver_86 : decode prog_1_method_6_code 86 = .ok (.invokevirtual 125, 3) := by decide +kernel
theorem d_Ho_deliver_89 : decode prog_1_method_6_code 89 = .ok (.aload_n 0, 1) := by decide +kernel
theorem d_Ho_deliver_90 : decode prog_1_method_6_code 90 = .ok (.getfield 28, 3) := by decide +kernel
theorem d_Ho_deliver_93 : decode prog_1_method_6_code 93 = .ok (.getfield 91, 3) := by decide +kernel
theorem d_Ho_deliver_96 : decode prog_1_method_6_code 96 = .ok (.iload_n 3, 1) := by decide +kernel
theorem d_Ho_deliver_97 : decode prog_1_method_6_code 97 = .ok (.isub, 1) := by decide +kernel
theorem d_Ho_deliver_98 : decode prog_1_method_6_code 98 = .ok (.ireturn, 1) := by decide +kernel
theorem d_Ho_checkLetter_0 : decode prog_1_method_24_code 0 = .ok (.iload_n 1, 1) := by decide +kernel
theorem d_Ho_checkLetter_1 : decode prog_1_method_24_code 1 = .ok (.ifCond .lt 14, 3) := by decide +kernel
theorem d_Ho_checkLetter_4 : decode prog_1_method_24_code 4 = .ok (.iload_n 1, 1) := by decide +kernel
theorem d_Ho_checkLetter_5 : decode prog_1_method_24_code 5 = .ok (.aload_n 0, 1) := by decide +kernel
theorem d_Ho_checkLetter_6 : decode prog_1_method_24_code 6 = .ok (.getfield 28, 3) := by decide +kernel
theorem d_Ho_checkLetter_9 : decode prog_1_method_24_code 9 = .ok (.getfield 91, 3) := by decide +kernel
theorem d_Ho_checkLetter_12 : decode prog_1_method_24_code 12 = .ok (.if_icmp .lt 11, 3) := by decide +kernel
theorem d_Ho_checkLetter_15 : decode prog_1_method_24_code 15 = .ok (.new 207, 3) := by decide +kernel
theorem d_Ho_checkLetter_18 : decode prog_1_method_24_code 18 = .ok (.dup, 1) := by decide +kernel
theorem d_Ho_checkLetter_19 : decode prog_1_method_24_code 19 = .ok (.invokespecial 209, 3) := by decide +kernel
theorem d_Ho_checkLetter_22 : decode prog_1_method_24_code 22 = .ok (.athrow, 1) := by decide +kernel
theorem d_Ho_checkLetter_23 : decode prog_1_method_24_code 23 = .ok (.return_, 1) := by decide +kernel
theorem d_Ro_take_0 : decode prog_7_method_2_code 0 = .ok (.aload_n 0, 1) := by decide +kernel
theorem d_Ro_take_1 : decode prog_7_method_2_code 1 = .ok (.getfield 11, 3) := by decide +kernel
theorem d_Ro_take_4 : decode prog_7_method_2_code 4 = .ok (.iload_n 1, 1) := by decide +kernel
theorem d_Ro_take_5 : decode prog_7_method_2_code 5 = .ok (.aaload, 1) := by decide +kernel
theorem d_Ro_take_6 : decode prog_7_method_2_code 6 = .ok (.astore_n 2, 1) := by decide +kernel
theorem d_Ro_take_7 : decode prog_7_method_2_code 7 = .ok (.aload_n 0, 1) := by decide +kernel
theorem d_Ro_take_8 : decode prog_7_method_2_code 8 = .ok (.dup, 1) := by decide +kernel
theorem d_Ro_take_9 : decode prog_7_method_2_code 9 = .ok (.getfield 18, 3) := by decide +kernel
theorem d_Ro_take_12 : decode prog_7_method_2_code 12 = .ok (.iconst 1, 1) := by decide +kernel
theorem d_Ro_take_13 : decode prog_7_method_2_code 13 = .ok (.isub, 1) := by decide +kernel
theorem d_Ro_take_14 : decode prog_7_method_2_code 14 = .ok (.putfield 18, 3) := by decide +kernel
theorem d_Ro_take_17 : decode prog_7_method_2_code 17 = .ok (.iload_n 1, 1) := by decide +kernel
theorem d_Ro_take_18 : decode prog_7_method_2_code 18 = .ok (.istore_n 3, 1) := by decide +kernel
theorem d_Ro_take_19 : decode prog_7_method_2_code 19 = .ok (.iload_n 3, 1) := by decide +kernel
theorem d_Ro_take_20 : decode prog_7_method_2_code 20 = .ok (.aload_n 0, 1) := by decide +kernel
theorem d_Ro_take_21 : decode prog_7_method_2_code 21 = .ok (.getfield 18, 3) := by decide +kernel
theorem d_Ro_take_24 : decode prog_7_method_2_code 24 = .ok (.if_icmp .ge 23, 3) := by decide +kernel
theorem d_Ro_take_27 : decode prog_7_method_2_code 27 = .ok (.aload_n 0, 1) := by decide +kernel
theorem d_Ro_take_28 : decode prog_7_method_2_code 28 = .ok (.getfield 11, 3) := by decide +kernel
theorem d_Ro_take_31 : decode prog_7_method_2_code 31 = .ok (.iload_n 3, 1) := by decide +kernel
theorem d_Ro_take_32 : decode prog_7_method_2_code 32 = .ok (.aload_n 0, 1) := by decide +kernel
theorem d_Ro_take_33 : decode prog_7_method_2_code 33 = .ok (.getfield 11, 3) := by decide +kernel
theorem d_Ro_take_36 : decode prog_7_method_2_code 36 = .ok (.iload_n 3, 1) := by decide +kernel
theorem d_Ro_take_37 : decode prog_7_method_2_code 37 = .ok (.iconst 1, 1) := by decide +kernel
theorem d_Ro_take_38 : decode prog_7_method_2_code 38 = .ok (.iadd, 1) := by decide +kernel
theorem d_Ro_take_39 : decode prog_7_method_2_code 39 = .ok (.aaload, 1) := by decide +kernel
theorem d_Ro_take_40 : decode prog_7_method_2_code 40 = .ok (.aastore, 1) := by decide +kernel
theorem d_Ro_take_41 : decode prog_7_method_2_code 41 = .ok (.iinc 3 1, 3) := by decide +kernel
theorem d_Ro_take_44 : decode prog_7_method_2_code 44 = .ok (.goto (-25), 3) := by decide +kernel
theorem d_Ro_take_47 : decode prog_7_method_2_code 47 = .ok (.aload_n 0, 1) := by decide +kernel
theorem d_Ro_take_48 : decode prog_7_method_2_code 48 = .ok (.getfield 11, 3) := by decide +kernel
theorem d_Ro_take_51 : decode prog_7_method_2_code 51 = .ok (.aload_n 0, 1) := by decide +kernel
theorem d_Ro_take_52 : decode prog_7_method_2_code 52 = .ok (.getfield 18, 3) := by decide +kernel
theorem d_Ro_take_55 : decode prog_7_method_2_code 55 = .ok (.aload_n 0, 1) := by decide +kernel
theorem d_Ro_take_56 : decode prog_7_method_2_code 56 = .ok (.getfield 11, 3) := by decide +kernel
theorem d_Ro_take_59 : decode prog_7_method_2_code 59 = .ok (.bipush 60, 2) := by decide +kernel
theorem d_Ro_take_61 : decode prog_7_method_2_code 61 = .ok (.aaload, 1) := by decide +kernel
theorem d_Ro_take_62 : decode prog_7_method_2_code 62 = .ok (.aastore, 1) := by decide +kernel
theorem d_Ro_take_63 : decode prog_7_method_2_code 63 = .ok (.aload_n 0, 1) := by decide +kernel
theorem d_Ro_take_64 : decode prog_7_method_2_code 64 = .ok (.getfield 11, 3) := by decide +kernel
theorem d_Ro_take_67 : decode prog_7_method_2_code 67 = .ok (.bipush 60, 2) := by decide +kernel
theorem d_Ro_take_69 : decode prog_7_method_2_code 69 = .ok (.aload_n 2, 1) := by decide +kernel
theorem d_Ro_take_70 : decode prog_7_method_2_code 70 = .ok (.aastore, 1) := by decide +kernel
theorem d_Ro_take_71 : decode prog_7_method_2_code 71 = .ok (.aload_n 2, 1) := by decide +kernel
theorem d_Ro_take_72 : decode prog_7_method_2_code 72 = .ok (.areturn, 1) := by decide +kernel
theorem d_Ho_bringPrepare_0 : decode prog_1_method_29_code 0 = .ok (.aload_n 0, 1) := by decide +kernel
theorem d_Ho_bringPrepare_1 : decode prog_1_method_29_code 1 = .ok (.getfield 11, 3) := by decide +kernel
theorem d_Ho_bringPrepare_4 : decode prog_1_method_29_code 4 = .ok (.aload_n 1, 1) := by decide +kernel
theorem d_Ho_bringPrepare_5 : decode prog_1_method_29_code 5 = .ok (.getfield 139, 3) := by decide +kernel
theorem d_Ho_bringPrepare_8 : decode prog_1_method_29_code 8 = .ok (.aaload, 1) := by decide +kernel
theorem d_Ho_bringPrepare_9 : decode prog_1_method_29_code 9 = .ok (.astore_n 2, 1) := by decide +kernel
theorem d_Ho_bringPrepare_10 : decode prog_1_method_29_code 10 = .ok (.aload_n 2, 1) := by decide +kernel
theorem d_Ho_bringPrepare_11 : decode prog_1_method_29_code 11 = .ok (.aload_n 1, 1) := by decide +kernel
theorem d_Ho_bringPrepare_12 : decode prog_1_method_29_code 12 = .ok (.getfield 142, 3) := by decide +kernel
theorem d_Ho_bringPrepare_15 : decode prog_1_method_29_code 15 = .ok (.invokevirtual 279, 3) := by decide +kernel
theorem d_Ho_bringPrepare_18 : decode prog_1_method_29_code 18 = .ok (.ifCond .eq 47, 3) := by decide +kernel
theorem d_Ho_bringPrepare_21 : decode prog_1_method_29_code 21 = .ok (.aload_n 2, 1) := by decide +kernel
theorem d_Ho_bringPrepare_22 : decode prog_1_method_29_code 22 = .ok (.aload_n 1, 1) := by decide +kernel
theorem d_Ho_bringPrepare_23 : decode prog_1_method_29_code 23 = .ok (.getfield 142, 3) := by decide +kernel
theorem d_Ho_bringPrepare_26 : decode prog_1_method_29_code 26 = .ok (.putfield 222, 3) := by decide +kernel
theorem d_Ho_bringPrepare_29 : decode prog_1_method_29_code 29 = .ok (.aload_n 0, 1) := by decide +kernel
theorem d_Ho_bringPrepare_30 : decode prog_1_method_29_code 30 = .ok (.getfield 28, 3) := by decide +kernel
theorem d_Ho_bringPrepare_33 : decode prog_1_method_29_code 33 = .ok (.iconst 1, 1) := by decide +kernel
theorem d_Ho_bringPrepare_34 : decode prog_1_method_29_code 34 = .ok (.aload_n 1, 1) := by decide +kernel
theorem d_Ho_bringPrepare_35 : decode prog_1_method_29_code 35 = .ok (.getfield 139, 3) := by decide +kernel
theorem d_Ho_bringPrepare_38 : decode prog_1_method_29_code 38 = .ok (.aload_n 1, 1) := by decide +kernel
theorem d_Ho_bringPrepare_39 : decode prog_1_method_29_code 39 = .ok (.getfield 122, 3) := by decide +kernel
theorem d_Ho_bringPrepare_42 : decode prog_1_method_29_code 42 = .ok (.aload_n 1, 1) := by decide +kernel
theorem d_Ho_bringPrepare_43 : decode prog_1_method_29_code 43 = .ok (.getfield 142, 3) := by decide +kernel
theorem d_Ho_bringPrepare_46 : decode prog_1_method_29_code 46 = .ok (.invokevirtual 253, 3) := by decide +kernel
theorem d_Ho_bringPrepare_49 : decode prog_1_method_29_code 49 = .ok (.astore_n 3, 1) := by decide +kernel
theorem d_Ho_bringPrepare_50 : decode prog_1_method_29_code 50 = .ok (.aload_n 3, 1) := by decide +kernel
theorem d_Ho_bringPrepare_51 : decode prog_1_method_29_code 51 = .ok (.ifnull 14, 3) := by decide +kernel
theorem d_Ho_bringPrepare_54 : decode prog_1_method_29_code 54 = .ok (.aload_n 3, 1) := by decide +kernel
theorem d_Ho_bringPrepare_55 : decode prog_1_method_29_code 55 = .ok (.getfield 282, 3) := by decide +kernel
theorem d_Ho_bringPrepare_58 : decode prog_1_method_29_code 58 = .ok (.aload_n 2, 1) := by decide +kernel
theorem d_Ho_bringPrepare_59 : decode prog_1_method_29_code 59 = .ok (.getfield 174, 3) := by decide +kernel
theorem d_Ho_bringPrepare_62 : decode prog_1_method_29_code 62 = .ok (.invokevirtual 283, 3) := by decide +kernel
theorem d_Ho_bringPrepare_65 : decode prog_1_method_29_code 65 = .ok (.return_, 1) := by decide +kernel
theorem d_St_heeds_0 : decode prog_10_method_2_code 0 = .ok (.aload_n 0, 1) := by decide +kernel
theorem d_St_heeds_1 : decode prog_10_method_2_code 1 = .ok (.getfield 7, 3) := by decide +kernel
theorem d_St_heeds_4 : decode prog_10_method_2_code 4 = .ok (.ifCond .eq 22, 3) := by decide +kernel
theorem d_St_heeds_7 : decode prog_10_method_2_code 7 = .ok (.aload_n 0, 1) := by decide +kernel
theorem d_St_heeds_8 : decode prog_10_method_2_code 8 = .ok (.getfield 20, 3) := by decide +kernel
theorem d_St_heeds_11 : decode prog_10_method_2_code 11 = .ok (.ifCond .ne 15, 3) := by decide +kernel
theorem d_St_heeds_14 : decode prog_10_method_2_code 14 = .ok (.iload_n 1, 1) := by decide +kernel
theorem d_St_heeds_15 : decode prog_10_method_2_code 15 = .ok (.aload_n 0, 1) := by decide +kernel
theorem d_St_heeds_16 : decode prog_10_method_2_code 16 = .ok (.getfield 23, 3) := by decide +kernel
theorem d_St_heeds_19 : decode prog_10_method_2_code 19 = .ok (.if_icmp .lt 7, 3) := by decide +kernel
theorem d_St_heeds_22 : decode prog_10_method_2_code 22 = .ok (.iconst 1, 1) := by decide +kernel
theorem d_St_heeds_23 : decode prog_10_method_2_code 23 = .ok (.goto 4, 3) := by decide +kernel
theorem d_St_heeds_26 : decode prog_10_method_2_code 26 = .ok (.iconst 0, 1) := by decide +kernel
theorem d_St_heeds_27 : decode prog_10_method_2_code 27 = .ok (.ireturn, 1) := by decide +kernel
theorem d_Sh_copyFrom_0 : decode prog_8_method_5_code 0 = .ok (.iconst 0, 1) := by decide +kernel
theorem d_Sh_copyFrom_1 : decode prog_8_method_5_code 1 = .ok (.istore_n 2, 1) := by decide +kernel
theorem d_Sh_copyFrom_2 : decode prog_8_method_5_code 2 = .ok (.iload_n 2, 1) := by decide +kernel
theorem d_Sh_copyFrom_3 : decode prog_8_method_5_code 3 = .ok (.bipush 8, 2) := by decide +kernel
theorem d_Sh_copyFrom_5 : decode prog_8_method_5_code 5 = .ok (.if_icmp .ge 38, 3) := by decide +kernel
theorem d_Sh_copyFrom_8 : decode prog_8_method_5_code 8 = .ok (.aload_n 0, 1) := by decide +kernel
theorem d_Sh_copyFrom_9 : decode prog_8_method_5_code 9 = .ok (.iload_n 2, 1) := by decide +kernel
theorem d_Sh_copyFrom_10 : decode prog_8_method_5_code 10 = .ok (.aload_n 1, 1) := by decide +kernel
theorem d_Sh_copyFrom_11 : decode prog_8_method_5_code 11 = .ok (.getfield 9, 3) := by decide +kernel
theorem d_Sh_copyFrom_14 : decode prog_8_method_5_code 14 = .ok (.iload_n 2, 1) := by decide +kernel
theorem d_Sh_copyFrom_15 : decode prog_8_method_5_code 15 = .ok (.iaload, 1) := by decide +kernel
theorem d_Sh_copyFrom_16 : decode prog_8_method_5_code 16 = .ok (.aload_n 1, 1) := by decide +kernel
theorem d_Sh_copyFrom_17 : decode prog_8_method_5_code 17 = .ok (.getfield 15, 3) := by decide +kernel
theorem d_Sh_copyFrom_20 : decode prog_8_method_5_code 20 = .ok (.iload_n 2, 1) := by decide +kernel
theorem d_Sh_copyFrom_21 : decode prog_8_method_5_code 21 = .ok (.iaload, 1) := by decide +kernel
theorem d_Sh_copyFrom_22 : decode prog_8_method_5_code 22 = .ok (.aload_n 1, 1) := by decide +kernel
theorem d_Sh_copyFrom_23 : decode prog_8_method_5_code 23 = .ok (.getfield 18, 3) := by decide +kernel
theorem d_Sh_copyFrom_26 : decode prog_8_method_5_code 26 = .ok (.iload_n 2, 1) := by decide +kernel
theorem d_Sh_copyFrom_27 : decode prog_8_method_5_code 27 = .ok (.iaload, 1) := by decide +kernel
theorem d_Sh_copyFrom_28 : decode prog_8_method_5_code 28 = .ok (.aload_n 1, 1) := by decide +kernel
theorem d_Sh_copyFrom_29 : decode prog_8_method_5_code 29 = .ok (.getfield 21, 3) := by decide +kernel
theorem d_Sh_copyFrom_32 : decode prog_8_method_5_code 32 = .ok (.iload_n 2, 1) := by decide +kernel
theorem d_Sh_copyFrom_33 : decode prog_8_method_5_code 33 = .ok (.laload, 1) := by decide +kernel
theorem d_Sh_copyFrom_34 : decode prog_8_method_5_code 34 = .ok (.invokevirtual 25, 3) := by decide +kernel
theorem d_Sh_copyFrom_37 : decode prog_8_method_5_code 37 = .ok (.iinc 2 1, 3) := by decide +kernel
theorem d_Sh_copyFrom_40 : decode prog_8_method_5_code 40 = .ok (.goto (-38), 3) := by decide +kernel
theorem d_Sh_copyFrom_43 : decode prog_8_method_5_code 43 = .ok (.return_, 1) := by decide +kernel
theorem d_Sh_put_0 : decode prog_8_method_3_code 0 = .ok (.aload_n 0, 1) := by decide +kernel
theorem d_Sh_put_1 : decode prog_8_method_3_code 1 = .ok (.getfield 9, 3) := by decide +kernel
theorem d_Sh_put_4 : decode prog_8_method_3_code 4 = .ok (.iload_n 1, 1) := by decide +kernel
theorem d_Sh_put_5 : decode prog_8_method_3_code 5 = .ok (.iload_n 2, 1) := by decide +kernel
theorem d_Sh_put_6 : decode prog_8_method_3_code 6 = .ok (.iastore, 1) := by decide +kernel
theorem d_Sh_put_7 : decode prog_8_method_3_code 7 = .ok (.aload_n 0, 1) := by decide +kernel
theorem d_Sh_put_8 : decode prog_8_method_3_code 8 = .ok (.getfield 15, 3) := by decide +kernel
theorem d_Sh_put_11 : decode prog_8_method_3_code 11 = .ok (.iload_n 1, 1) := by decide +kernel
theorem d_Sh_put_12 : decode prog_8_method_3_code 12 = .ok (.iload_n 3, 1) := by decide +kernel
theorem d_Sh_put_13 : decode prog_8_method_3_code 13 = .ok (.iastore, 1) := by decide +kernel
theorem d_Sh_put_14 : decode prog_8_method_3_code 14 = .ok (.aload_n 0, 1) := by decide +kernel
theorem d_Sh_put_15 : decode prog_8_method_3_code 15 = .ok (.getfield 18, 3) := by decide +kernel
theorem d_Sh_put_18 : decode prog_8_method_3_code 18 = .ok (.iload_n 1, 1) := by decide +kernel
theorem d_Sh_put_19 : decode prog_8_method_3_code 19 = .ok (.iload 4, 2) := by decide +kernel
theorem d_Sh_put_21 : decode prog_8_method_3_code 21 = .ok (.iastore, 1) := by decide +kernel
theorem d_Sh_put_22 : decode prog_8_method_3_code 22 = .ok (.aload_n 0, 1) := by decide +kernel
theorem d_Sh_put_23 : decode prog_8_method_3_code 23 = .ok (.getfield 21, 3) := by decide +kernel
theorem d_Sh_put_26 : decode prog_8_method_3_code 26 = .ok (.iload_n 1, 1) := by decide +kernel
theorem d_Sh_put_27 : decode prog_8_method_3_code 27 = .ok (.lload 5, 2) := by decide +kernel
theorem d_Sh_put_29 : decode prog_8_method_3_code 29 = .ok (.lastore, 1) := by decide +kernel
theorem d_Sh_put_30 : decode prog_8_method_3_code 30 = .ok (.return_, 1) := by decide +kernel
theorem d_Ho_bringPromise_0 : decode prog_1_method_30_code 0 = .ok (.aload_n 0, 1) := by decide +kernel
theorem d_Ho_bringPromise_1 : decode prog_1_method_30_code 1 = .ok (.getfield 18, 3) := by decide +kernel
theorem d_Ho_bringPromise_4 : decode prog_1_method_30_code 4 = .ok (.aload_n 1, 1) := by decide +kernel
theorem d_Ho_bringPromise_5 : decode prog_1_method_30_code 5 = .ok (.getfield 122, 3) := by decide +kernel
theorem d_Ho_bringPromise_8 : decode prog_1_method_30_code 8 = .ok (.aaload, 1) := by decide +kernel
theorem d_Ho_bringPromise_9 : decode prog_1_method_30_code 9 = .ok (.astore_n 2, 1) := by decide +kernel
theorem d_Ho_bringPromise_10 : decode prog_1_method_30_code 10 = .ok (.aload_n 2, 1) := by decide +kernel
theorem d_Ho_bringPromise_11 : decode prog_1_method_30_code 11 = .ok (.aload_n 1, 1) := by decide +kernel
theorem d_Ho_bringPromise_12 : decode prog_1_method_30_code 12 = .ok (.invokevirtual 286, 3) := by decide +kernel
theorem d_Ho_bringPromise_15 : decode prog_1_method_30_code 15 = .ok (.aload_n 2, 1) := by decide +kernel
theorem d_Ho_bringPromise_16 : decode prog_1_method_30_code 16 = .ok (.getfield 94, 3) := by decide +kernel
theorem d_Ho_bringPromise_19 : decode prog_1_method_30_code 19 = .ok (.iconst 1, 1) := by decide +kernel
theorem d_Ho_bringPromise_20 : decode prog_1_method_30_code 20 = .ok (.if_icmp .ne 19, 3) := by decide +kernel
theorem d_Ho_bringPromise_23 : decode prog_1_method_30_code 23 = .ok (.aload_n 2, 1) := by decide +kernel
theorem d_Ho_bringPromise_24 : decode prog_1_method_30_code 24 = .ok (.getfield 214, 3) := by decide +kernel
theorem d_Ho_bringPromise_27 : decode prog_1_method_30_code 27 = .ok (.invokestatic 217, 3) := by decide +kernel
theorem d_Ho_bringPromise_30 : decode prog_1_method_30_code 30 = .ok (.iconst 5, 1) := by decide +kernel
theorem d_Ho_bringPromise_31 : decode prog_1_method_30_code 31 = .ok (.if_icmp .lt 8, 3) := by decide +kernel
theorem d_Ho_bringPromise_34 : decode prog_1_method_30_code 34 = .ok (.aload_n 0, 1) := by decide +kernel
theorem d_Ho_bringPromise_35 : decode prog_1_method_30_code 35 = .ok (.aload_n 2, 1) := by decide +kernel
theorem d_Ho_bringPromise_36 : decode prog_1_method_30_code 36 = .ok (.invokevirtual 289, 3) := by decide +kernel
theorem d_Ho_bringPromise_39 : decode prog_1_method_30_code 39 = .ok (.return_, 1) := by decide +kernel
theorem d_Pr_hearPromise_0 : decode prog_5_method_7_code 0 = .ok (.aload_n 0, 1) := by decide +kernel
theorem d_Pr_hearPromise_1 : decode prog_5_method_7_code 1 = .ok (.getfield 9, 3) := by decide +kernel
theorem d_Pr_hearPromise_4 : decode prog_5_method_7_code 4 = .ok (.iconst 1, 1) := by decide +kernel
theorem d_Pr_hearPromise_5 : decode prog_5_method_7_code 5 = .ok (.if_icmp .ne 56, 3) := by decide +kernel
theorem d_Pr_hearPromise_8 : decode prog_5_method_7_code 8 = .ok (.aload_n 1, 1) := by decide +kernel
theorem d_Pr_hearPromise_9 : decode prog_5_method_7_code 9 = .ok (.getfield 72, 3) := by decide +kernel
theorem d_Pr_hearPromise_12 : decode prog_5_method_7_code 12 = .ok (.aload_n 0, 1) := by decide +kernel
theorem d_Pr_hearPromise_13 : decode prog_5_method_7_code 13 = .ok (.getfield 39, 3) := by decide +kernel
theorem d_Pr_hearPromise_16 : decode prog_5_method_7_code 16 = .ok (.if_icmp .ne 45, 3) := by decide +kernel
theorem d_Pr_hearPromise_19 : decode prog_5_method_7_code 19 = .ok (.aload_n 0, 1) := by decide +kernel
theorem d_Pr_hearPromise_20 : decode prog_5_method_7_code 20 = .ok (.aload_n 1, 1) := by decide +kernel
theorem d_Pr_hearPromise_21 : decode prog_5_method_7_code 21 = .ok (.getfield 75, 3) := by decide +kernel
theorem d_Pr_hearPromise_24 : decode prog_5_method_7_code 24 = .ok (.invokevirtual 78, 3) := by decide +kernel
theorem d_Pr_hearPromise_27 : decode prog_5_method_7_code 27 = .ok (.ifCond .ne 34, 3) := by decide +kernel
theorem d_Pr_hearPromise_30 : decode prog_5_method_7_code 30 = .ok (.aload_n 0, 1) := by decide +kernel
theorem d_Pr_hearPromise_31 : decode prog_5_method_7_code 31 = .ok (.getfield 21, 3) := by decide +kernel
theorem d_Pr_hearPromise_34 : decode prog_5_method_7_code 34 = .ok (.aload_n 1, 1) := by decide +kernel
theorem d_Pr_hearPromise_35 : decode prog_5_method_7_code 35 = .ok (.getfield 75, 3) := by decide +kernel
theorem d_Pr_hearPromise_38 : decode prog_5_method_7_code 38 = .ok (.aaload, 1) := by decide +kernel
theorem d_Pr_hearPromise_39 : decode prog_5_method_7_code 39 = .ok (.aload_n 1, 1) := by decide +kernel
theorem d_Pr_hearPromise_40 : decode prog_5_method_7_code 40 = .ok (.getfield 82, 3) := by decide +kernel
theorem d_Pr_hearPromise_43 : decode prog_5_method_7_code 43 = .ok (.invokevirtual 86, 3) := by decide +kernel
theorem d_Pr_hearPromise_46 : decode prog_5_method_7_code 46 = .ok (.aload_n 0, 1) := by decide +kernel
theorem d_Pr_hearPromise_47 : decode prog_5_method_7_code 47 = .ok (.dup, 1) := by decide +kernel
theorem d_Pr_hearPromise_48 : decode prog_5_method_7_code 48 = .ok (.getfield 48, 3) := by decide +kernel
theorem d_Pr_hearPromise_51 : decode prog_5_method_7_code 51 = .ok (.iconst 1, 1) := by decide +kernel
theorem d_Pr_hearPromise_52 : decode prog_5_method_7_code 52 = .ok (.aload_n 1, 1) := by decide +kernel
theorem d_Pr_hearPromise_53 : decode prog_5_method_7_code 53 = .ok (.getfield 75, 3) := by decide +kernel
theorem d_Pr_hearPromise_56 : decode prog_5_method_7_code 56 = .ok (.ishl, 1) := by decide +kernel
theorem d_Pr_hearPromise_57 : decode prog_5_method_7_code 57 = .ok (.ior, 1) := by decide +kernel
theorem d_Pr_hearPromise_58 : decode prog_5_method_7_code 58 = .ok (.putfield 48, 3) := by decide +kernel
theorem d_Pr_hearPromise_61 : decode prog_5_method_7_code 61 = .ok (.return_, 1) := by decide +kernel
theorem d_In_bitCount_0 : decode prog_17_method_49_code 0 = .ok (.iload_n 0, 1) := by decide +kernel
theorem d_In_bitCount_1 : decode prog_17_method_49_code 1 = .ok (.iload_n 0, 1) := by decide +kernel
theorem d_In_bitCount_2 : decode prog_17_method_49_code 2 = .ok (.iconst 1, 1) := by decide +kernel
theorem d_In_bitCount_3 : decode prog_17_method_49_code 3 = .ok (.iushr, 1) := by decide +kernel
theorem d_In_bitCount_4 : decode prog_17_method_49_code 4 = .ok (.ldc_w 265, 3) := by decide +kernel
theorem d_In_bitCount_7 : decode prog_17_method_49_code 7 = .ok (.iand, 1) := by decide +kernel
theorem d_In_bitCount_8 : decode prog_17_method_49_code 8 = .ok (.isub, 1) := by decide +kernel
theorem d_In_bitCount_9 : decode prog_17_method_49_code 9 = .ok (.istore_n 0, 1) := by decide +kernel
theorem d_In_bitCount_10 : decode prog_17_method_49_code 10 = .ok (.iload_n 0, 1) := by decide +kernel
theorem d_In_bitCount_11 : decode prog_17_method_49_code 11 = .ok (.ldc_w 266, 3) := by decide +kernel
theorem d_In_bitCount_14 : decode prog_17_method_49_code 14 = .ok (.iand, 1) := by decide +kernel
theorem d_In_bitCount_15 : decode prog_17_method_49_code 15 = .ok (.iload_n 0, 1) := by decide +kernel
theorem d_In_bitCount_16 : decode prog_17_method_49_code 16 = .ok (.iconst 2, 1) := by decide +kernel
theorem d_In_bitCount_17 : decode prog_17_method_49_code 17 = .ok (.iushr, 1) := by decide +kernel
theorem d_In_bitCount_18 : decode prog_17_method_49_code 18 = .ok (.ldc_w 266, 3) := by decide +kernel
theorem d_In_bitCount_21 : decode prog_17_method_49_code 21 = .ok (.iand, 1) := by decide +kernel
theorem d_In_bitCount_22 : decode prog_17_method_49_code 22 = .ok (.iadd, 1) := by decide +kernel
theorem d_In_bitCount_23 : decode prog_17_method_49_code 23 = .ok (.istore_n 0, 1) := by decide +kernel
theorem d_In_bitCount_24 : decode prog_17_method_49_code 24 = .ok (.iload_n 0, 1) := by decide +kernel
theorem d_In_bitCount_25 : decode prog_17_method_49_code 25 = .ok (.iload_n 0, 1) := by decide +kernel
theorem d_In_bitCount_26 : decode prog_17_method_49_code 26 = .ok (.iconst 4, 1) := by decide +kernel
theorem d_In_bitCount_27 : decode prog_17_method_49_code 27 = .ok (.iushr, 1) := by decide +kernel
theorem d_In_bitCount_28 : decode prog_17_method_49_code 28 = .ok (.iadd, 1) := by decide +kernel
theorem d_In_bitCount_29 : decode prog_17_method_49_code 29 = .ok (.ldc_w 267, 3) := by decide +kernel
theorem d_In_bitCount_32 : decode prog_17_method_49_code 32 = .ok (.iand, 1) := by decide +kernel
theorem d_In_bitCount_33 : decode prog_17_method_49_code 33 = .ok (.istore_n 0, 1) := by decide +kernel
theorem d_In_bitCount_34 : decode prog_17_method_49_code 34 = .ok (.iload_n 0, 1) := by decide +kernel
theorem d_In_bitCount_35 : decode prog_17_method_49_code 35 = .ok (.iload_n 0, 1) := by decide +kernel
theorem d_In_bitCount_36 : decode prog_17_method_49_code 36 = .ok (.bipush 8, 2) := by decide +kernel
theorem d_In_bitCount_38 : decode prog_17_method_49_code 38 = .ok (.iushr, 1) := by decide +kernel
theorem d_In_bitCount_39 : decode prog_17_method_49_code 39 = .ok (.iadd, 1) := by decide +kernel
theorem d_In_bitCount_40 : decode prog_17_method_49_code 40 = .ok (.istore_n 0, 1) := by decide +kernel
theorem d_In_bitCount_41 : decode prog_17_method_49_code 41 = .ok (.iload_n 0, 1) := by decide +kernel
theorem d_In_bitCount_42 : decode prog_17_method_49_code 42 = .ok (.iload_n 0, 1) := by decide +kernel
theorem d_In_bitCount_43 : decode prog_17_method_49_code 43 = .ok (.bipush 16, 2) := by decide +kernel
theorem d_In_bitCount_45 : decode prog_17_method_49_code 45 = .ok (.iushr, 1) := by decide +kernel
theorem d_In_bitCount_46 : decode prog_17_method_49_code 46 = .ok (.iadd, 1) := by decide +kernel
theorem d_In_bitCount_47 : decode prog_17_method_49_code 47 = .ok (.istore_n 0, 1) := by decide +kernel
theorem d_In_bitCount_48 : decode prog_17_method_49_code 48 = .ok (.iload_n 0, 1) := by decide +kernel
theorem d_In_bitCount_49 : decode prog_17_method_49_code 49 = .ok (.bipush 63, 2) := by decide +kernel
theorem d_In_bitCount_51 : decode prog_17_method_49_code 51 = .ok (.iand, 1) := by decide +kernel
theorem d_In_bitCount_52 : decode prog_17_method_49_code 52 = .ok (.ireturn, 1) := by decide +kernel
theorem d_Ho_lead_0 : decode prog_1_method_31_code 0 = .ok (.aload_n 1, 1) := by decide +kernel
theorem d_Ho_lead_1 : decode prog_1_method_31_code 1 = .ok (.iconst 2, 1) := by decide +kernel
theorem d_Ho_lead_2 : decode prog_1_method_31_code 2 = .ok (.putfield 94, 3) := by decide +kernel
theorem d_Ho_lead_5 : decode prog_1_method_31_code 5 = .ok (.iconst 0, 1) := by decide +kernel
theorem d_Ho_lead_6 : decode prog_1_method_31_code 6 = .ok (.istore_n 2, 1) := by decide +kernel
theorem d_Ho_lead_7 : decode prog_1_method_31_code 7 = .ok (.iload_n 2, 1) := by decide +kernel
theorem d_Ho_lead_8 : decode prog_1_method_31_code 8 = .ok (.bipush 8, 2) := by decide +kernel
theorem d_Ho_lead_10 : decode prog_1_method_31_code 10 = .ok (.if_icmp .ge 57, 3) := by decide +kernel
theorem d_Ho_lead_13 : decode prog_1_method_31_code 13 = .ok (.aload_n 1, 1) := by decide +kernel
theorem d_Ho_lead_14 : decode prog_1_method_31_code 14 = .ok (.getfield 165, 3) := by decide +kernel
theorem d_Ho_lead_17 : decode prog_1_method_31_code 17 = .ok (.iload_n 2, 1) := by decide +kernel
theorem d_Ho_lead_18 : decode prog_1_method_31_code 18 = .ok (.aaload, 1) := by decide +kernel
theorem d_Ho_lead_19 : decode prog_1_method_31_code 19 = .ok (.astore_n 3, 1) := by decide +kernel
theorem d_Ho_lead_20 : decode prog_1_method_31_code 20 = .ok (.aload_n 3, 1) := by decide +kernel
theorem d_Ho_lead_21 : decode prog_1_method_31_code 21 = .ok (.invokevirtual 292, 3) := by decide +kernel
theorem d_Ho_lead_24 : decode prog_1_method_31_code 24 = .ok (.ifCond .eq 37, 3) := by decide +kernel
theorem d_Ho_lead_27 : decode prog_1_method_31_code 27 = .ok (.aload_n 1, 1) := by decide +kernel
theorem d_Ho_lead_28 : decode prog_1_method_31_code 28 = .ok (.iload_n 2, 1) := by decide +kernel
theorem d_Ho_lead_29 : decode prog_1_method_31_code 29 = .ok (.aload_n 0, 1) := by decide +kernel
theorem d_Ho_lead_30 : decode prog_1_method_31_code 30 = .ok (.getfield 35, 3) := by decide +kernel
theorem d_Ho_lead_33 : decode prog_1_method_31_code 33 = .ok (.invokevirtual 295, 3) := by decide +kernel
theorem d_Ho_lead_36 : decode prog_1_method_31_code 36 = .ok (.ifCond .eq 25, 3) := by decide +kernel
theorem d_Ho_lead_39 : decode prog_1_method_31_code 39 = .ok (.aload_n 3, 1) := by decide +kernel
theorem d_Ho_lead_40 : decode prog_1_method_31_code 40 = .ok (.aload_n 0, 1) := by decide +kernel
theorem d_Ho_lead_41 : decode prog_1_method_31_code 41 = .ok (.getfield 35, 3) := by decide +kernel
theorem d_Ho_lead_44 : decode prog_1_method_31_code 44 = .ok (.getfield 299, 3) := by decide +kernel
theorem d_Ho_lead_47 : decode prog_1_method_31_code 47 = .ok (.invokevirtual 300, 3) := by decide +kernel
theorem d_Ho_lead_50 : decode prog_1_method_31_code 50 = .ok (.aload_n 0, 1) := by decide +kernel
theorem d_Ho_lead_51 : decode prog_1_method_31_code 51 = .ok (.getfield 35, 3) := by decide +kernel
theorem d_Ho_lead_54 : decode prog_1_method_31_code 54 = .ok (.aload_n 3, 1) := by decide +kernel
theorem d_Ho_lead_55 : decode prog_1_method_31_code 55 = .ok (.getfield 271, 3) := by decide +kernel
theorem d_Ho_lead_58 : decode prog_1_method_31_code 58 = .ok (.invokevirtual 186, 3) := by decide +kernel
theorem d_Ho_lead_61 : decode prog_1_method_31_code 61 = .ok (.iinc 2 1, 3) := by decide +kernel
theorem d_Ho_lead_64 : decode prog_1_method_31_code 64 = .ok (.goto (-57), 3) := by decide +kernel
theorem d_Ho_lead_67 : decode prog_1_method_31_code 67 = .ok (.aload_n 0, 1) := by decide +kernel
theorem d_Ho_lead_68 : decode prog_1_method_31_code 68 = .ok (.aload_n 1, 1) := by decide +kernel
theorem d_Ho_lead_69 : decode prog_1_method_31_code 69 = .ok (.invokevirtual 97, 3) := by decide +kernel
theorem d_Ho_lead_72 : decode prog_1_method_31_code 72 = .ok (.return_, 1) := by decide +kernel
theorem d_Pr_gatherFromPromises_0 : decode prog_5_method_9_code 0 = .ok (.iconst 0, 1) := by decide +kernel
theorem d_Pr_gatherFromPromises_1 : decode prog_5_method_9_code 1 = .ok (.istore_n 3, 1) := by decide +kernel
theorem d_Pr_gatherFromPromises_2 : decode prog_5_method_9_code 2 = .ok (.iload_n 3, 1) := by decide +kernel
theorem d_Pr_gatherFromPromises_3 : decode prog_5_method_9_code 3 = .ok (.bipush 7, 2) := by decide +kernel
theorem d_Pr_gatherFromPromises_5 : decode prog_5_method_9_code 5 = .ok (.if_icmp .ge 60, 3) := by decide +kernel
theorem d_Pr_gatherFromPromises_8 : decode prog_5_method_9_code 8 = .ok (.aload_n 0, 1) := by decide +kernel
theorem d_Pr_gatherFromPromises_9 : decode prog_5_method_9_code 9 = .ok (.iload_n 3, 1) := by decide +kernel
theorem d_Pr_gatherFromPromises_10 : decode prog_5_method_9_code 10 = .ok (.invokevirtual 78, 3) := by decide +kernel
theorem d_Pr_gatherFromPromises_13 : decode prog_5_method_9_code 13 = .ok (.ifCond .eq 46, 3) := by decide +kernel
theorem d_Pr_gatherFromPromises_16 : decode prog_5_method_9_code 16 = .ok (.aload_n 0, 1) := by decide +kernel
theorem d_Pr_gatherFromPromises_17 : decode prog_5_method_9_code 17 = .ok (.getfield 21, 3) := by decide +kernel
theorem d_Pr_gatherFromPromises_20 : decode prog_5_method_9_code 20 = .ok (.iload_n 3, 1) := by decide +kernel
theorem d_Pr_gatherFromPromises_21 : decode prog_5_method_9_code 21 = .ok (.aaload, 1) := by decide +kernel
theorem d_Pr_gatherFromPromises_22 : decode prog_5_method_9_code 22 = .ok (.iload_n 1, 1) := by decide +kernel
theorem d_Pr_gatherFromPromises_23 : decode prog_5_method_9_code 23 = .ok (.invokevirtual 100, 3) := by decide +kernel
theorem d_Pr_gatherFromPromises_26 : decode prog_5_method_9_code 26 = .ok (.ifCond .eq 33, 3) := by decide +kernel
theorem d_Pr_gatherFromPromises_29 : decode prog_5_method_9_code 29 = .ok (.aload_n 2, 1) := by decide +kernel
theorem d_Pr_gatherFromPromises_30 : decode prog_5_method_9_code 30 = .ok (.aload_n 0, 1) := by decide +kernel
theorem d_Pr_gatherFromPromises_31 : decode prog_5_method_9_code 31 = .ok (.getfield 21, 3) := by decide +kernel
theorem d_Pr_gatherFromPromises_34 : decode prog_5_method_9_code 34 = .ok (.iload_n 3, 1) := by decide +kernel
theorem d_Pr_gatherFromPromises_35 : decode prog_5_method_9_code 35 = .ok (.aaload, 1) := by decide +kernel
theorem d_Pr_gatherFromPromises_36 : decode prog_5_method_9_code 36 = .ok (.getfield 103, 3) := by decide +kernel
theorem d_Pr_gatherFromPromises_39 : decode prog_5_method_9_code 39 = .ok (.iload_n 1, 1) := by decide +kernel
theorem d_Pr_gatherFromPromises_40 : decode prog_5_method_9_code 40 = .ok (.iaload, 1) := by decide +kernel
theorem d_Pr_gatherFromPromises_41 : decode prog_5_method_9_code 41 = .ok (.invokevirtual 107, 3) := by decide +kernel
theorem d_Pr_gatherFromPromises_44 : decode prog_5_method_9_code 44 = .ok (.aload_n 0, 1) := by decide +kernel
theorem d_Pr_gatherFromPromises_45 : decode prog_5_method_9_code 45 = .ok (.iload_n 1, 1) := by decide +kernel
theorem d_Pr_gatherFromPromises_46 : decode prog_5_method_9_code 46 = .ok (.aload_n 2, 1) := by decide +kernel
theorem d_Pr_gatherFromPromises_47 : decode prog_5_method_9_code 47 = .ok (.invokevirtual 112, 3) := by decide +kernel
theorem d_Pr_gatherFromPromises_50 : decode prog_5_method_9_code 50 = .ok (.aload_n 2, 1) := by decide +kernel
theorem d_Pr_gatherFromPromises_51 : decode prog_5_method_9_code 51 = .ok (.invokevirtual 116, 3) := by decide +kernel
theorem d_Pr_gatherFromPromises_54 : decode prog_5_method_9_code 54 = .ok (.ifCond .eq 5, 3) := by decide +kernel
theorem d_Pr_gatherFromPromises_57 : decode prog_5_method_9_code 57 = .ok (.iconst 1, 1) := by decide +kernel
theorem d_Pr_gatherFromPromises_58 : decode prog_5_method_9_code 58 = .ok (.ireturn, 1) := by decide +kernel
theorem d_Pr_gatherFromPromises_59 : decode prog_5_method_9_code 59 = .ok (.iinc 3 1, 3) := by decide +kernel
theorem d_Pr_gatherFromPromises_62 : decode prog_5_method_9_code 62 = .ok (.goto (-60), 3) := by decide +kernel
theorem d_Pr_gatherFromPromises_65 : decode prog_5_method_9_code 65 = .ok (.iconst 0, 1) := by decide +kernel
theorem d_Pr_gatherFromPromises_66 : decode prog_5_method_9_code 66 = .ok (.ireturn, 1) := by decide +kernel
theorem d_Sh_has_0 : decode prog_8_method_2_code 0 = .ok (.aload_n 0, 1) := by decide +kernel
theorem d_Sh_has_1 : decode prog_8_method_2_code 1 = .ok (.getfield 15, 3) := by decide +kernel
theorem d_Sh_has_4 : decode prog_8_method_2_code 4 = .ok (.iload_n 1, 1) := by decide +kernel
theorem d_Sh_has_5 : decode prog_8_method_2_code 5 = .ok (.iaload, 1) := by decide +kernel
theorem d_Sh_has_6 : decode prog_8_method_2_code 6 = .ok (.ifCond .eq 7, 3) := by decide +kernel
theorem d_Sh_has_9 : decode prog_8_method_2_code 9 = .ok (.iconst 1, 1) := by decide +kernel
theorem d_Sh_has_10 : decode prog_8_method_2_code 10 = .ok (.goto 4, 3) := by decide +kernel
theorem d_Sh_has_13 : decode prog_8_method_2_code 13 = .ok (.iconst 0, 1) := by decide +kernel
theorem d_Sh_has_14 : decode prog_8_method_2_code 14 = .ok (.ireturn, 1) := by decide +kernel
theorem d_Ga_start_0 : decode prog_3_method_2_code 0 = .ok (.aload_n 0, 1) := by decide +kernel
theorem d_Ga_start_1 : decode prog_3_method_2_code 1 = .ok (.iload_n 1, 1) := by decide +kernel
theorem d_Ga_start_2 : decode prog_3_method_2_code 2 = .ok (.putfield 19, 3) := by decide +kernel
theorem d_Ga_start_5 : decode prog_3_method_2_code 5 = .ok (.aload_n 0, 1) := by decide +kernel
theorem d_Ga_start_6 : decode prog_3_method_2_code 6 = .ok (.iconst 0, 1) := by decide +kernel
theorem d_Ga_start_7 : decode prog_3_method_2_code 7 = .ok (.putfield 23, 3) := by decide +kernel
theorem d_Ga_start_10 : decode prog_3_method_2_code 10 = .ok (.aload_n 0, 1) := by decide +kernel
theorem d_Ga_start_11 : decode prog_3_method_2_code 11 = .ok (.iconst 0, 1) := by decide +kernel
theorem d_Ga_start_12 : decode prog_3_method_2_code 12 = .ok (.putfield 26, 3) := by decide +kernel
theorem d_Ga_start_15 : decode prog_3_method_2_code 15 = .ok (.return_, 1) := by decide +kernel
theorem d_Pr_addPromises_0 : decode prog_5_method_10_code 0 = .ok (.iconst 0, 1) := by decide +kernel
theorem d_Pr_addPromises_1 : decode prog_5_method_10_code 1 = .ok (.istore_n 3, 1) := by decide +kernel
theorem d_Pr_addPromises_2 : decode prog_5_method_10_code 2 = .ok (.iload_n 3, 1) := by decide +kernel
theorem d_Pr_addPromises_3 : decode prog_5_method_10_code 3 = .ok (.bipush 7, 2) := by decide +kernel
theorem d_Pr_addPromises_5 : decode prog_5_method_10_code 5 = .ok (.if_icmp .ge 29, 3) := by decide +kernel
theorem d_Pr_addPromises_8 : decode prog_5_method_10_code 8 = .ok (.aload_n 0, 1) := by decide +kernel
theorem d_Pr_addPromises_9 : decode prog_5_method_10_code 9 = .ok (.iload_n 3, 1) := by decide +kernel
theorem d_Pr_addPromises_10 : decode prog_5_method_10_code 10 = .ok (.invokevirtual 78, 3) := by decide +kernel
theorem d_Pr_addPromises_13 : decode prog_5_method_10_code 13 = .ok (.ifCond .eq 15, 3) := by decide +kernel
theorem d_Pr_addPromises_16 : decode prog_5_method_10_code 16 = .ok (.aload_n 2, 1) := by decide +kernel
theorem d_Pr_addPromises_17 : decode prog_5_method_10_code 17 = .ok (.iload_n 3, 1) := by decide +kernel
theorem d_Pr_addPromises_18 : decode prog_5_method_10_code 18 = .ok (.aload_n 0, 1) := by decide +kernel
theorem d_Pr_addPromises_19 : decode prog_5_method_10_code 19 = .ok (.getfield 21, 3) := by decide +kernel
theorem d_Pr_addPromises_22 : decode prog_5_method_10_code 22 = .ok (.iload_n 3, 1) := by decide +kernel
theorem d_Pr_addPromises_23 : decode prog_5_method_10_code 23 = .ok (.aaload, 1) := by decide +kernel
theorem d_Pr_addPromises_24 : decode prog_5_method_10_code 24 = .ok (.iload_n 1, 1) := by decide +kernel
theorem d_Pr_addPromises_25 : decode prog_5_method_10_code 25 = .ok (.invokevirtual 119, 3) := by decide +kernel
theorem d_Pr_addPromises_28 : decode prog_5_method_10_code 28 = .ok (.iinc 3 1, 3) := by decide +kernel
theorem d_Pr_addPromises_31 : decode prog_5_method_10_code 31 = .ok (.goto (-29), 3) := by decide +kernel
theorem d_Pr_addPromises_34 : decode prog_5_method_10_code 34 = .ok (.return_, 1) := by decide +kernel
theorem d_Ga_addIfOfIt_0 : decode prog_3_method_3_code 0 = .ok (.aload_n 0, 1) := by decide +kernel
theorem d_Ga_addIfOfIt_1 : decode prog_3_method_3_code 1 = .ok (.getfield 26, 3) := by decide +kernel
theorem d_Ga_addIfOfIt_4 : decode prog_3_method_3_code 4 = .ok (.iconst 3, 1) := by decide +kernel
theorem d_Ga_addIfOfIt_5 : decode prog_3_method_3_code 5 = .ok (.if_icmp .ge 72, 3) := by decide +kernel
theorem d_Ga_addIfOfIt_8 : decode prog_3_method_3_code 8 = .ok (.aload_n 2, 1) := by decide +kernel
theorem d_Ga_addIfOfIt_9 : decode prog_3_method_3_code 9 = .ok (.iload_n 3, 1) := by decide +kernel
theorem d_Ga_addIfOfIt_10 : decode prog_3_method_3_code 10 = .ok (.invokevirtual 29, 3) := by decide +kernel
theorem d_Ga_addIfOfIt_13 : decode prog_3_method_3_code 13 = .ok (.ifCond .eq 64, 3) := by decide +kernel
theorem d_Ga_addIfOfIt_16 : decode prog_3_method_3_code 16 = .ok (.aload_n 2, 1) := by decide +kernel
theorem d_Ga_addIfOfIt_17 : decode prog_3_method_3_code 17 = .ok (.getfield 35, 3) := by decide +kernel
theorem d_Ga_addIfOfIt_20 : decode prog_3_method_3_code 20 = .ok (.iload_n 3, 1) := by decide +kernel
theorem d_Ga_addIfOfIt_21 : decode prog_3_method_3_code 21 = .ok (.iaload, 1) := by decide +kernel
theorem d_Ga_addIfOfIt_22 : decode prog_3_method_3_code 22 = .ok (.aload_n 0, 1) := by decide +kernel
theorem d_Ga_addIfOfIt_23 : decode prog_3_method_3_code 23 = .ok (.getfield 19, 3) := by decide +kernel
theorem d_Ga_addIfOfIt_26 : decode prog_3_method_3_code 26 = .ok (.if_icmp .ne 51, 3) := by decide +kernel
theorem d_Ga_addIfOfIt_29 : decode prog_3_method_3_code 29 = .ok (.aload_n 0, 1) := by decide +kernel
theorem d_Ga_addIfOfIt_30 : decode prog_3_method_3_code 30 = .ok (.aload_n 2, 1) := by decide +kernel
theorem d_Ga_addIfOfIt_31 : decode prog_3_method_3_code 31 = .ok (.getfield 38, 3) := by decide +kernel
theorem d_Ga_addIfOfIt_34 : decode prog_3_method_3_code 34 = .ok (.iload_n 3, 1) := by decide +kernel
theorem d_Ga_addIfOfIt_35 : decode prog_3_method_3_code 35 = .ok (.iaload, 1) := by decide +kernel
theorem d_Ga_addIfOfIt_36 : decode prog_3_method_3_code 36 = .ok (.putfield 23, 3) := by decide +kernel
theorem d_Ga_addIfOfIt_39 : decode prog_3_method_3_code 39 = .ok (.aload_n 0, 1) := by decide +kernel
theorem d_Ga_addIfOfIt_40 : decode prog_3_method_3_code 40 = .ok (.getfield 9, 3) := by decide +kernel
theorem d_Ga_addIfOfIt_43 : decode prog_3_method_3_code 43 = .ok (.aload_n 0, 1) := by decide +kernel
theorem d_Ga_addIfOfIt_44 : decode prog_3_method_3_code 44 = .ok (.getfield 26, 3) := by decide +kernel
theorem d_Ga_addIfOfIt_47 : decode prog_3_method_3_code 47 = .ok (.iload_n 1, 1) := by decide +kernel
theorem d_Ga_addIfOfIt_48 : decode prog_3_method_3_code 48 = .ok (.invokestatic 41, 3) := by decide +kernel
theorem d_Ga_addIfOfIt_51 : decode prog_3_method_3_code 51 = .ok (.iastore, 1) := by decide +kernel
theorem d_Ga_addIfOfIt_52 : decode prog_3_method_3_code 52 = .ok (.aload_n 0, 1) := by decide +kernel
theorem d_Ga_addIfOfIt_53 : decode prog_3_method_3_code 53 = .ok (.getfield 15, 3) := by decide +kernel
theorem d_Ga_addIfOfIt_56 : decode prog_3_method_3_code 56 = .ok (.aload_n 0, 1) := by decide +kernel
theorem d_Ga_addIfOfIt_57 : decode prog_3_method_3_code 57 = .ok (.getfield 26, 3) := by decide +kernel
theorem d_Ga_addIfOfIt_60 : decode prog_3_method_3_code 60 = .ok (.aload_n 2, 1) := by decide +kernel
theorem d_Ga_addIfOfIt_61 : decode prog_3_method_3_code 61 = .ok (.getfield 47, 3) := by decide +kernel
theorem d_Ga_addIfOfIt_64 : decode prog_3_method_3_code 64 = .ok (.iload_n 3, 1) := by decide +kernel
theorem d_Ga_addIfOfIt_65 : decode prog_3_method_3_code 65 = .ok (.laload, 1) := by decide +kernel
theorem d_Ga_addIfOfIt_66 : decode prog_3_method_3_code 66 = .ok (.lastore, 1) := by decide +kernel
theorem d_Ga_addIfOfIt_67 : decode prog_3_method_3_code 67 = .ok (.aload_n 0, 1) := by decide +kernel
theorem d_Ga_addIfOfIt_68 : decode prog_3_method_3_code 68 = .ok (.dup, 1) := by decide +kernel
theorem d_Ga_addIfOfIt_69 : decode prog_3_method_3_code 69 = .ok (.getfield 26, 3) := by decide +kernel
theorem d_Ga_addIfOfIt_72 : decode prog_3_method_3_code 72 = .ok (.iconst 1, 1) := by decide +kernel
theorem d_Ga_addIfOfIt_73 : decode prog_3_method_3_code 73 = .ok (.iadd, 1) := by decide +kernel
theorem d_Ga_addIfOfIt_74 : decode prog_3_method_3_code 74 = .ok (.putfield 26, 3) := by decide +kernel
theorem d_Ga_addIfOfIt_77 : decode prog_3_method_3_code 77 = .ok (.return_, 1) := by decide +kernel
theorem d_Ga_isEnough_0 : decode prog_3_method_4_code 0 = .ok (.aload_n 0, 1) := by decide +kernel
theorem d_Ga_isEnough_1 : decode prog_3_method_4_code 1 = .ok (.getfield 26, 3) := by decide +kernel
theorem d_Ga_isEnough_4 : decode prog_3_method_4_code 4 = .ok (.iconst 3, 1) := by decide +kernel
theorem d_Ga_isEnough_5 : decode prog_3_method_4_code 5 = .ok (.if_icmp .ne 7, 3) := by decide +kernel
theorem d_Ga_isEnough_8 : decode prog_3_method_4_code 8 = .ok (.iconst 1, 1) := by decide +kernel
theorem d_Ga_isEnough_9 : decode prog_3_method_4_code 9 = .ok (.goto 4, 3) := by decide +kernel
theorem d_Ga_isEnough_12 : decode prog_3_method_4_code 12 = .ok (.iconst 0, 1) := by decide +kernel
theorem d_Ga_isEnough_13 : decode prog_3_method_4_code 13 = .ok (.ireturn, 1) := by decide +kernel
theorem d_Ga_putTogether_0 : decode prog_3_method_5_code 0 = .ok (.aload_n 1, 1) := by decide +kernel
theorem d_Ga_putTogether_1 : decode prog_3_method_5_code 1 = .ok (.aload_n 0, 1) := by decide +kernel
theorem d_Ga_putTogether_2 : decode prog_3_method_5_code 2 = .ok (.getfield 23, 3) := by decide +kernel
theorem d_Ga_putTogether_5 : decode prog_3_method_5_code 5 = .ok (.putfield 48, 3) := by decide +kernel
theorem d_Ga_putTogether_8 : decode prog_3_method_5_code 8 = .ok (.aload_n 1, 1) := by decide +kernel
theorem d_Ga_putTogether_9 : decode prog_3_method_5_code 9 = .ok (.invokevirtual 49, 3) := by decide +kernel
theorem d_Ga_putTogether_12 : decode prog_3_method_5_code 12 = .ok (.iconst 0, 1) := by decide +kernel
theorem d_Ga_putTogether_13 : decode prog_3_method_5_code 13 = .ok (.istore_n 2, 1) := by decide +kernel
theorem d_Ga_putTogether_14 : decode prog_3_method_5_code 14 = .ok (.iload_n 2, 1) := by decide +kernel
theorem d_Ga_putTogether_15 : decode prog_3_method_5_code 15 = .ok (.iconst 3, 1) := by decide +kernel
theorem d_Ga_putTogether_16 : decode prog_3_method_5_code 16 = .ok (.if_icmp .ge 45, 3) := by decide +kernel
theorem d_Ga_putTogether_19 : decode prog_3_method_5_code 19 = .ok (.aload_n 1, 1) := by decide +kernel
theorem d_Ga_putTogether_20 : decode prog_3_method_5_code 20 = .ok (.aload_n 0, 1) := by decide +kernel
theorem d_Ga_putTogether_21 : decode prog_3_method_5_code 21 = .ok (.getfield 15, 3) := by decide +kernel
theorem d_Ga_putTogether_24 : decode prog_3_method_5_code 24 = .ok (.iload_n 2, 1) := by decide +kernel
theorem d_Ga_putTogether_25 : decode prog_3_method_5_code 25 = .ok (.laload, 1) := by decide +kernel
theorem d_Ga_putTogether_26 : decode prog_3_method_5_code 26 = .ok (.aload_n 0, 1) := by decide +kernel
theorem d_Ga_putTogether_27 : decode prog_3_method_5_code 27 = .ok (.getfield 9, 3) := by decide +kernel
theorem d_Ga_putTogether_30 : decode prog_3_method_5_code 30 = .ok (.iload_n 2, 1) := by decide +kernel
theorem d_Ga_putTogether_31 : decode prog_3_method_5_code 31 = .ok (.iaload, 1) := by decide +kernel
theorem d_Ga_putTogether_32 : decode prog_3_method_5_code 32 = .ok (.aload_n 0, 1) := by decide +kernel
theorem d_Ga_putTogether_33 : decode prog_3_method_5_code 33 = .ok (.getfield 9, 3) := by decide +kernel
theorem d_Ga_putTogether_36 : decode prog_3_method_5_code 36 = .ok (.iload_n 2, 1) := by decide +kernel
theorem d_Ga_putTogether_37 : decode prog_3_method_5_code 37 = .ok (.iconst 1, 1) := by decide +kernel
theorem d_Ga_putTogether_38 : decode prog_3_method_5_code 38 = .ok (.iadd, 1) := by decide +kernel
theorem d_Ga_putTogether_39 : decode prog_3_method_5_code 39 = .ok (.iconst 3, 1) := by decide +kernel
theorem d_Ga_putTogether_40 : decode prog_3_method_5_code 40 = .ok (.irem, 1) := by decide +kernel
theorem d_Ga_putTogether_41 : decode prog_3_method_5_code 41 = .ok (.iaload, 1) := by decide +kernel
theorem d_Ga_putTogether_42 : decode prog_3_method_5_code 42 = .ok (.aload_n 0, 1) := by decide +kernel
theorem d_Ga_putTogether_43 : decode prog_3_method_5_code 43 = .ok (.getfield 9, 3) := by decide +kernel
theorem d_Ga_putTogether_46 : decode prog_3_method_5_code 46 = .ok (.iload_n 2, 1) := by decide +kernel
theorem d_Ga_putTogether_47 : decode prog_3_method_5_code 47 = .ok (.iconst 2, 1) := by decide +kernel
theorem d_Ga_putTogether_48 : decode prog_3_method_5_code 48 = .ok (.iadd, 1) := by decide +kernel
theorem d_Ga_putTogether_49 : decode prog_3_method_5_code 49 = .ok (.iconst 3, 1) := by decide +kernel
theorem d_Ga_putTogether_50 : decode prog_3_method_5_code 50 = .ok (.irem, 1) := by decide +kernel
theorem d_Ga_putTogether_51 : decode prog_3_method_5_code 51 = .ok (.iaload, 1) := by decide +kernel
theorem d_Ga_putTogether_52 : decode prog_3_method_5_code 52 = .ok (.invokevirtual 52, 3) := by decide +kernel
theorem d_Ga_putTogether_55 : decode prog_3_method_5_code 55 = .ok (.iinc 2 1, 3) := by decide +kernel
theorem d_Ga_putTogether_58 : decode prog_3_method_5_code 58 = .ok (.goto (-44), 3) := by decide +kernel
theorem d_Ga_putTogether_61 : decode prog_3_method_5_code 61 = .ok (.return_, 1) := by decide +kernel
theorem d_Re_addShare_0 : decode prog_6_method_8_code 0 = .ok (.lload_n 1, 1) := by decide +kernel
theorem d_Re_addShare_1 : decode prog_6_method_8_code 1 = .ok (.iload_n 3, 1) := by decide +kernel
theorem d_Re_addShare_2 : decode prog_6_method_8_code 2 = .ok (.iload 4, 2) := by decide +kernel
theorem d_Re_addShare_4 : decode prog_6_method_8_code 4 = .ok (.invokestatic 43, 3) := by decide +kernel
theorem d_Re_addShare_7 : decode prog_6_method_8_code 7 = .ok (.iload_n 3, 1) := by decide +kernel
theorem d_Re_addShare_8 : decode prog_6_method_8_code 8 = .ok (.iload 5, 2) := by decide +kernel
theorem d_Re_addShare_10 : decode prog_6_method_8_code 10 = .ok (.invokestatic 43, 3) := by decide +kernel
theorem d_Re_addShare_13 : decode prog_6_method_8_code 13 = .ok (.lstore 6, 2) := by decide +kernel
theorem d_Re_addShare_15 : decode prog_6_method_8_code 15 = .ok (.aload_n 0, 1) := by decide +kernel
theorem d_Re_addShare_16 : decode prog_6_method_8_code 16 = .ok (.getfield 9, 3) := by decide +kernel
theorem d_Re_addShare_19 : decode prog_6_method_8_code 19 = .ok (.iconst 0, 1) := by decide +kernel
theorem d_Re_addShare_20 : decode prog_6_method_8_code 20 = .ok (.dup2, 1) := by decide +kernel
theorem d_Re_addShare_21 : decode prog_6_method_8_code 21 = .ok (.laload, 1) := by decide +kernel
theorem d_Re_addShare_22 : decode prog_6_method_8_code 22 = .ok (.lload 6, 2) := by decide +kernel
theorem d_Re_addShare_24 : decode prog_6_method_8_code 24 = .ok (.iload 4, 2) := by decide +kernel
theorem d_Re_addShare_26 : decode prog_6_method_8_code 26 = .ok (.invokestatic 37, 3) := by decide +kernel
theorem d_Re_addShare_29 : decode prog_6_method_8_code 29 = .ok (.iload 5, 2) := by decide +kernel
theorem d_Re_addShare_31 : decode prog_6_method_8_code 31 = .ok (.invokestatic 37, 3) := by decide +kernel
theorem d_Re_addShare_34 : decode prog_6_method_8_code 34 = .ok (.lxor, 1) := by decide +kernel
theorem d_Re_addShare_35 : decode prog_6_method_8_code 35 = .ok (.lastore, 1) := by decide +kernel
theorem d_Re_addShare_36 : decode prog_6_method_8_code 36 = .ok (.aload_n 0, 1) := by decide +kernel
theorem d_Re_addShare_37 : decode prog_6_method_8_code 37 = .ok (.getfield 9, 3) := by decide +kernel
theorem d_Re_addShare_40 : decode prog_6_method_8_code 40 = .ok (.iconst 1, 1) := by decide +kernel
theorem d_Re_addShare_41 : decode prog_6_method_8_code 41 = .ok (.dup2, 1) := by decide +kernel
theorem d_Re_addShare_42 : decode prog_6_method_8_code 42 = .ok (.laload, 1) := by decide +kernel
theorem d_Re_addShare_43 : decode prog_6_method_8_code 43 = .ok (.lload 6, 2) := by decide +kernel
theorem d_Re_addShare_45 : decode prog_6_method_8_code 45 = .ok (.iload 4, 2) := by decide +kernel
theorem d_Re_addShare_47 : decode prog_6_method_8_code 47 = .ok (.iload 5, 2) := by decide +kernel
theorem d_Re_addShare_49 : decode prog_6_method_8_code 49 = .ok (.ixor, 1) := by decide +kernel
theorem d_Re_addShare_50 : decode prog_6_method_8_code 50 = .ok (.invokestatic 37, 3) := by decide +kernel
theorem d_Re_addShare_53 : decode prog_6_method_8_code 53 = .ok (.lxor, 1) := by decide +kernel
theorem d_Re_addShare_54 : decode prog_6_method_8_code 54 = .ok (.lastore, 1) := by decide +kernel
theorem d_Re_addShare_55 : decode prog_6_method_8_code 55 = .ok (.aload_n 0, 1) := by decide +kernel
theorem d_Re_addShare_56 : decode prog_6_method_8_code 56 = .ok (.getfield 9, 3) := by decide +kernel
theorem d_Re_addShare_59 : decode prog_6_method_8_code 59 = .ok (.iconst 2, 1) := by decide +kernel
theorem d_Re_addShare_60 : decode prog_6_method_8_code 60 = .ok (.dup2, 1) := by decide +kernel
theorem d_Re_addShare_61 : decode prog_6_method_8_code 61 = .ok (.laload, 1) := by decide +kernel
theorem d_Re_addShare_62 : decode prog_6_method_8_code 62 = .ok (.lload 6, 2) := by decide +kernel
theorem d_Re_addShare_64 : decode prog_6_method_8_code 64 = .ok (.lxor, 1) := by decide +kernel
theorem d_Re_addShare_65 : decode prog_6_method_8_code 65 = .ok (.lastore, 1) := by decide +kernel
theorem d_Re_addShare_66 : decode prog_6_method_8_code 66 = .ok (.return_, 1) := by decide +kernel
theorem d_Fi_overSum_0 : decode prog_2_method_3_code 0 = .ok (.lload_n 0, 1) := by decide +kernel
theorem d_Fi_overSum_1 : decode prog_2_method_3_code 1 = .ok (.getstatic 15, 3) := by decide +kernel
theorem d_Fi_overSum_4 : decode prog_2_method_3_code 4 = .ok (.iload_n 2, 1) := by decide +kernel
theorem d_Fi_overSum_5 : decode prog_2_method_3_code 5 = .ok (.iload_n 3, 1) := by decide +kernel
theorem d_Fi_overSum_6 : decode prog_2_method_3_code 6 = .ok (.ixor, 1) := by decide +kernel
theorem d_Fi_overSum_7 : decode prog_2_method_3_code 7 = .ok (.bipush 7, 2) := by decide +kernel
theorem d_Fi_overSum_9 : decode prog_2_method_3_code 9 = .ok (.iand, 1) := by decide +kernel
theorem d_Fi_overSum_10 : decode prog_2_method_3_code 10 = .ok (.iaload, 1) := by decide +kernel
theorem d_Fi_overSum_11 : decode prog_2_method_3_code 11 = .ok (.invokestatic 19, 3) := by decide +kernel
theorem d_Fi_overSum_14 : decode prog_2_method_3_code 14 = .ok (.lreturn, 1) := by decide +kernel
theorem d_Ho_bringAccept_0 : decode prog_1_method_32_code 0 = .ok (.aload_n 0, 1) := by decide +kernel
theorem d_Ho_bringAccept_1 : decode prog_1_method_32_code 1 = .ok (.getfield 11, 3) := by decide +kernel
theorem d_Ho_bringAccept_4 : decode prog_1_method_32_code 4 = .ok (.aload_n 1, 1) := by decide +kernel
theorem d_Ho_bringAccept_5 : decode prog_1_method_32_code 5 = .ok (.getfield 139, 3) := by decide +kernel
theorem d_Ho_bringAccept_8 : decode prog_1_method_32_code 8 = .ok (.aaload, 1) := by decide +kernel
theorem d_Ho_bringAccept_9 : decode prog_1_method_32_code 9 = .ok (.astore_n 2, 1) := by decide +kernel
theorem d_Ho_bringAccept_10 : decode prog_1_method_32_code 10 = .ok (.aload_n 2, 1) := by decide +kernel
theorem d_Ho_bringAccept_11 : decode prog_1_method_32_code 11 = .ok (.aload_n 1, 1) := by decide +kernel
theorem d_Ho_bringAccept_12 : decode prog_1_method_32_code 12 = .ok (.getfield 142, 3) := by decide +kernel
theorem d_Ho_bringAccept_15 : decode prog_1_method_32_code 15 = .ok (.invokevirtual 279, 3) := by decide +kernel
theorem d_Ho_bringAccept_18 : decode prog_1_method_32_code 18 = .ok (.ifCond .eq 75, 3) := by decide +kernel
theorem d_Ho_bringAccept_21 : decode prog_1_method_32_code 21 = .ok (.aload_n 2, 1) := by decide +kernel
theorem d_Ho_bringAccept_22 : decode prog_1_method_32_code 22 = .ok (.aload_n 1, 1) := by decide +kernel
theorem d_Ho_bringAccept_23 : decode prog_1_method_32_code 23 = .ok (.getfield 142, 3) := by decide +kernel
theorem d_Ho_bringAccept_26 : decode prog_1_method_32_code 26 = .ok (.putfield 222, 3) := by decide +kernel
theorem d_Ho_bringAccept_29 : decode prog_1_method_32_code 29 = .ok (.aload_n 2, 1) := by decide +kernel
theorem d_Ho_bringAccept_30 : decode prog_1_method_32_code 30 = .ok (.getfield 174, 3) := by decide +kernel
theorem d_Ho_bringAccept_33 : decode prog_1_method_32_code 33 = .ok (.aload_n 1, 1) := by decide +kernel
theorem d_Ho_bringAccept_34 : decode prog_1_method_32_code 34 = .ok (.getfield 143, 3) := by decide +kernel
theorem d_Ho_bringAccept_37 : decode prog_1_method_32_code 37 = .ok (.aload_n 1, 1) := by decide +kernel
theorem d_Ho_bringAccept_38 : decode prog_1_method_32_code 38 = .ok (.getfield 142, 3) := by decide +kernel
theorem d_Ho_bringAccept_41 : decode prog_1_method_32_code 41 = .ok (.aload_n 1, 1) := by decide +kernel
theorem d_Ho_bringAccept_42 : decode prog_1_method_32_code 42 = .ok (.getfield 146, 3) := by decide +kernel
theorem d_Ho_bringAccept_45 : decode prog_1_method_32_code 45 = .ok (.aload_n 1, 1) := by decide +kernel
theorem d_Ho_bringAccept_46 : decode prog_1_method_32_code 46 = .ok (.getfield 274, 3) := by decide +kernel
theorem d_Ho_bringAccept_49 : decode prog_1_method_32_code 49 = .ok (.aload_n 1, 1) := by decide +kernel
theorem d_Ho_bringAccept_50 : decode prog_1_method_32_code 50 = .ok (.getfield 275, 3) := by decide +kernel
theorem d_Ho_bringAccept_53 : decode prog_1_method_32_code 53 = .ok (.invokevirtual 197, 3) := by decide +kernel
theorem d_Ho_bringAccept_56 : decode prog_1_method_32_code 56 = .ok (.aload_n 0, 1) := by decide +kernel
theorem d_Ho_bringAccept_57 : decode prog_1_method_32_code 57 = .ok (.getfield 28, 3) := by decide +kernel
theorem d_Ho_bringAccept_60 : decode prog_1_method_32_code 60 = .ok (.iconst 3, 1) := by decide +kernel
theorem d_Ho_bringAccept_61 : decode prog_1_method_32_code 61 = .ok (.aload_n 1, 1) := by decide +kernel
theorem d_Ho_bringAccept_62 : decode prog_1_method_32_code 62 = .ok (.getfield 139, 3) := by decide +kernel
theorem d_Ho_bringAccept_65 : decode prog_1_method_32_code 65 = .ok (.aload_n 1, 1) := by decide +kernel
theorem d_Ho_bringAccept_66 : decode prog_1_method_32_code 66 = .ok (.getfield 122, 3) := by decide +kernel
theorem d_Ho_bringAccept_69 : decode prog_1_method_32_code 69 = .ok (.aload_n 1, 1) := by decide +kernel
theorem d_Ho_bringAccept_70 : decode prog_1_method_32_code 70 = .ok (.getfield 142, 3) := by decide +kernel
theorem d_Ho_bringAccept_73 : decode prog_1_method_32_code 73 = .ok (.invokevirtual 253, 3) := by decide +kernel
theorem d_Ho_bringAccept_76 : decode prog_1_method_32_code 76 = .ok (.astore_n 3, 1) := by decide +kernel
theorem d_Ho_bringAccept_77 : decode prog_1_method_32_code 77 = .ok (.aload_n 3, 1) := by decide +kernel
theorem d_Ho_bringAccept_78 : decode prog_1_method_32_code 78 = .ok (.ifnull 15, 3) := by decide +kernel
theorem d_Ho_bringAccept_81 : decode prog_1_method_32_code 81 = .ok (.aload_n 3, 1) := by decide +kernel
theorem d_Ho_bringAccept_82 : decode prog_1_method_32_code 82 = .ok (.aload_n 1, 1) := by decide +kernel
theorem d_Ho_bringAccept_83 : decode prog_1_method_32_code 83 = .ok (.getfield 143, 3) := by decide +kernel
theorem d_Ho_bringAccept_86 : decode prog_1_method_32_code 86 = .ok (.aload_n 1, 1) := by decide +kernel
theorem d_Ho_bringAccept_87 : decode prog_1_method_32_code 87 = .ok (.getfield 146, 3) := by decide +kernel
theorem d_Ho_bringAccept_90 : decode prog_1_method_32_code 90 = .ok (.invokevirtual 267, 3) := by decide +kernel
theorem d_Ho_bringAccept_93 : decode prog_1_method_32_code 93 = .ok (.return_, 1) := by decide +kernel
theorem d_Pr_hearAccepted_0 : decode prog_5_method_8_code 0 = .ok (.aload_n 0, 1) := by decide +kernel
theorem d_Pr_hearAccepted_1 : decode prog_5_method_8_code 1 = .ok (.getfield 9, 3) := by decide +kernel
theorem d_Pr_hearAccepted_4 : decode prog_5_method_8_code 4 = .ok (.iconst 2, 1) := by decide +kernel
theorem d_Pr_hearAccepted_5 : decode prog_5_method_8_code 5 = .ok (.if_icmp .ne 34, 3) := by decide +kernel
theorem d_Pr_hearAccepted_8 : decode prog_5_method_8_code 8 = .ok (.aload_n 1, 1) := by decide +kernel
theorem d_Pr_hearAccepted_9 : decode prog_5_method_8_code 9 = .ok (.getfield 72, 3) := by decide +kernel
theorem d_Pr_hearAccepted_12 : decode prog_5_method_8_code 12 = .ok (.aload_n 0, 1) := by decide +kernel
theorem d_Pr_hearAccepted_13 : decode prog_5_method_8_code 13 = .ok (.getfield 39, 3) := by decide +kernel
theorem d_Pr_hearAccepted_16 : decode prog_5_method_8_code 16 = .ok (.if_icmp .ne 23, 3) := by decide +kernel
theorem d_Pr_hearAccepted_19 : decode prog_5_method_8_code 19 = .ok (.aload_n 0, 1) := by decide +kernel
theorem d_Pr_hearAccepted_20 : decode prog_5_method_8_code 20 = .ok (.getfield 27, 3) := by decide +kernel
theorem d_Pr_hearAccepted_23 : decode prog_5_method_8_code 23 = .ok (.aload_n 1, 1) := by decide +kernel
theorem d_Pr_hearAccepted_24 : decode prog_5_method_8_code 24 = .ok (.getfield 90, 3) := by decide +kernel
theorem d_Pr_hearAccepted_27 : decode prog_5_method_8_code 27 = .ok (.aaload, 1) := by decide +kernel
theorem d_Pr_hearAccepted_28 : decode prog_5_method_8_code 28 = .ok (.aload_n 1, 1) := by decide +kernel
theorem d_Pr_hearAccepted_29 : decode prog_5_method_8_code 29 = .ok (.getfield 75, 3) := by decide +kernel
theorem d_Pr_hearAccepted_32 : decode prog_5_method_8_code 32 = .ok (.aload_n 1, 1) := by decide +kernel
theorem d_Pr_hearAccepted_33 : decode prog_5_method_8_code 33 = .ok (.getfield 93, 3) := by decide +kernel
theorem d_Pr_hearAccepted_36 : decode prog_5_method_8_code 36 = .ok (.invokevirtual 96, 3) := by decide +kernel
theorem d_Pr_hearAccepted_39 : decode prog_5_method_8_code 39 = .ok (.return_, 1) := by decide +kernel
theorem d_Sp_hearAnswer_0 : decode prog_9_method_7_code 0 = .ok (.aload_n 0, 1) := by decide +kernel
theorem d_Sp_hearAnswer_1 : decode prog_9_method_7_code 1 = .ok (.invokevirtual 32, 3) := by decide +kernel
theorem d_Sp_hearAnswer_4 : decode prog_9_method_7_code 4 = .ok (.ifCond .eq 11, 3) := by decide +kernel
theorem d_Sp_hearAnswer_7 : decode prog_9_method_7_code 7 = .ok (.iload_n 2, 1) := by decide +kernel
theorem d_Sp_hearAnswer_8 : decode prog_9_method_7_code 8 = .ok (.aload_n 0, 1) := by decide +kernel
theorem d_Sp_hearAnswer_9 : decode prog_9_method_7_code 9 = .ok (.getfield 22, 3) := by decide +kernel
theorem d_Sp_hearAnswer_12 : decode prog_9_method_7_code 12 = .ok (.if_icmp .eq 4, 3) := by decide +kernel
theorem d_Sp_hearAnswer_15 : decode prog_9_method_7_code 15 = .ok (.return_, 1) := by decide +kernel
theorem d_Sp_hearAnswer_16 : decode prog_9_method_7_code 16 = .ok (.aload_n 0, 1) := by decide +kernel
theorem d_Sp_hearAnswer_17 : decode prog_9_method_7_code 17 = .ok (.dup, 1) := by decide +kernel
theorem d_Sp_hearAnswer_18 : decode prog_9_method_7_code 18 = .ok (.getfield 25, 3) := by decide +kernel
theorem d_Sp_hearAnswer_21 : decode prog_9_method_7_code 21 = .ok (.iconst 1, 1) := by decide +kernel
theorem d_Sp_hearAnswer_22 : decode prog_9_method_7_code 22 = .ok (.iload_n 1, 1) := by decide +kernel
theorem d_Sp_hearAnswer_23 : decode prog_9_method_7_code 23 = .ok (.ishl, 1) := by decide +kernel
theorem d_Sp_hearAnswer_24 : decode prog_9_method_7_code 24 = .ok (.ior, 1) := by decide +kernel
theorem d_Sp_hearAnswer_25 : decode prog_9_method_7_code 25 = .ok (.putfield 25, 3) := by decide +kernel
theorem d_Sp_hearAnswer_28 : decode prog_9_method_7_code 28 = .ok (.aload_n 0, 1) := by decide +kernel
theorem d_Sp_hearAnswer_29 : decode prog_9_method_7_code 29 = .ok (.getfield 25, 3) := by decide +kernel
theorem d_Sp_hearAnswer_32 : decode prog_9_method_7_code 32 = .ok (.invokestatic 36, 3) := by decide +kernel
theorem d_Sp_hearAnswer_35 : decode prog_9_method_7_code 35 = .ok (.iconst 5, 1) := by decide +kernel
theorem d_Sp_hearAnswer_36 : decode prog_9_method_7_code 36 = .ok (.if_icmp .lt 15, 3) := by decide +kernel
theorem d_Sp_hearAnswer_39 : decode prog_9_method_7_code 39 = .ok (.aload_n 0, 1) := by decide +kernel
theorem d_Sp_hearAnswer_40 : decode prog_9_method_7_code 40 = .ok (.aload_n 0, 1) := by decide +kernel
theorem d_Sp_hearAnswer_41 : decode prog_9_method_7_code 41 = .ok (.getfield 22, 3) := by decide +kernel
theorem d_Sp_hearAnswer_44 : decode prog_9_method_7_code 44 = .ok (.putfield 18, 3) := by decide +kernel
theorem d_Sp_hearAnswer_47 : decode prog_9_method_7_code 47 = .ok (.aload_n 0, 1) := by decide +kernel
theorem d_Sp_hearAnswer_48 : decode prog_9_method_7_code 48 = .ok (.invokevirtual 42, 3) := by decide +kernel
theorem d_Sp_hearAnswer_51 : decode prog_9_method_7_code 51 = .ok (.return_, 1) := by decide +kernel
theorem d_Ho_drop_0 : decode prog_1_method_7_code 0 = .ok (.aload_n 0, 1) := by decide +kernel
theorem d_Ho_drop_1 : decode prog_1_method_7_code 1 = .ok (.iload_n 1, 1) := by decide +kernel
theorem d_Ho_drop_2 : decode prog_1_method_7_code 2 = .ok (.invokevirtual 100, 3) := by decide +kernel
theorem d_Ho_drop_5 : decode prog_1_method_7_code 5 = .ok (.aload_n 0, 1) := by decide +kernel
theorem d_Ho_drop_6 : decode prog_1_method_7_code 6 = .ok (.getfield 28, 3) := by decide +kernel
theorem d_Ho_drop_9 : decode prog_1_method_7_code 9 = .ok (.iload_n 1, 1) := by decide +kernel
theorem d_Ho_drop_10 : decode prog_1_method_7_code 10 = .ok (.invokevirtual 103, 3) := by decide +kernel
theorem d_Ho_drop_13 : decode prog_1_method_7_code 13 = .ok (.pop, 1) := by decide +kernel
theorem d_Ho_drop_14 : decode prog_1_method_7_code 14 = .ok (.return_, 1) := by decide +kernel
theorem d_Ho_twin_0 : decode prog_1_method_8_code 0 = .ok (.aload_n 0, 1) := by decide +kernel
theorem d_Ho_twin_1 : decode prog_1_method_8_code 1 = .ok (.iload_n 1, 1) := by decide +kernel
theorem d_Ho_twin_2 : decode prog_1_method_8_code 2 = .ok (.invokevirtual 100, 3) := by decide +kernel
theorem d_Ho_twin_5 : decode prog_1_method_8_code 5 = .ok (.aload_n 0, 1) := by decide +kernel
theorem d_Ho_twin_6 : decode prog_1_method_8_code 6 = .ok (.getfield 28, 3) := by decide +kernel
theorem d_Ho_twin_9 : decode prog_1_method_8_code 9 = .ok (.invokevirtual 128, 3) := by decide +kernel
theorem d_Ho_twin_12 : decode prog_1_method_8_code 12 = .ok (.astore_n 2, 1) := by decide +kernel
theorem d_Ho_twin_13 : decode prog_1_method_8_code 13 = .ok (.aload_n 2, 1) := by decide +kernel
theorem d_Ho_twin_14 : decode prog_1_method_8_code 14 = .ok (.ifnonnull 11, 3) := by decide +kernel
theorem d_Ho_twin_17 : decode prog_1_method_8_code 17 = .ok (.new 81, 3) := by decide +kernel
theorem d_Ho_twin_20 : decode prog_1_method_8_code 20 = .ok (.dup, 1) := by decide +kernel
theorem d_Ho_twin_21 : decode prog_1_method_8_code 21 = .ok (.invokespecial 83, 3) := by decide +kernel
theorem d_Ho_twin_24 : decode prog_1_method_8_code 24 = .ok (.athrow, 1) := by decide +kernel
theorem d_Ho_twin_25 : decode prog_1_method_8_code 25 = .ok (.aload_n 2, 1) := by decide +kernel
theorem d_Ho_twin_26 : decode prog_1_method_8_code 26 = .ok (.aload_n 0, 1) := by decide +kernel
theorem d_Ho_twin_27 : decode prog_1_method_8_code 27 = .ok (.getfield 28, 3) := by decide +kernel
theorem d_Ho_twin_30 : decode prog_1_method_8_code 30 = .ok (.getfield 132, 3) := by decide +kernel
theorem d_Ho_twin_33 : decode prog_1_method_8_code 33 = .ok (.iload_n 1, 1) := by decide +kernel
theorem d_Ho_twin_34 : decode prog_1_method_8_code 34 = .ok (.aaload, 1) := by decide +kernel
theorem d_Ho_twin_35 : decode prog_1_method_8_code 35 = .ok (.invokevirtual 136, 3) := by decide +kernel
theorem d_Ho_twin_38 : decode prog_1_method_8_code 38 = .ok (.return_, 1) := by decide +kernel
theorem d_Le_copyFrom_0 : decode prog_4_method_4_code 0 = .ok (.aload_n 0, 1) := by decide +kernel
theorem d_Le_copyFrom_1 : decode prog_4_method_4_code 1 = .ok (.aload_n 1, 1) := by decide +kernel
theorem d_Le_copyFrom_2 : decode prog_4_method_4_code 2 = .ok (.getfield 18, 3) := by decide +kernel
theorem d_Le_copyFrom_5 : decode prog_4_method_4_code 5 = .ok (.aload_n 1, 1) := by decide +kernel
theorem d_Le_copyFrom_6 : decode prog_4_method_4_code 6 = .ok (.getfield 22, 3) := by decide +kernel
theorem d_Le_copyFrom_9 : decode prog_4_method_4_code 9 = .ok (.aload_n 1, 1) := by decide +kernel
theorem d_Le_copyFrom_10 : decode prog_4_method_4_code 10 = .ok (.getfield 25, 3) := by decide +kernel
theorem d_Le_copyFrom_13 : decode prog_4_method_4_code 13 = .ok (.aload_n 1, 1) := by decide +kernel
theorem d_Le_copyFrom_14 : decode prog_4_method_4_code 14 = .ok (.getfield 28, 3) := by decide +kernel
theorem d_Le_copyFrom_17 : decode prog_4_method_4_code 17 = .ok (.invokevirtual 37, 3) := by decide +kernel
theorem d_Le_copyFrom_20 : decode prog_4_method_4_code 20 = .ok (.aload_n 0, 1) := by decide +kernel
theorem d_Le_copyFrom_21 : decode prog_4_method_4_code 21 = .ok (.aload_n 1, 1) := by decide +kernel
theorem d_Le_copyFrom_22 : decode prog_4_method_4_code 22 = .ok (.getfield 31, 3) := by decide +kernel
theorem d_Le_copyFrom_25 : decode prog_4_method_4_code 25 = .ok (.aload_n 1, 1) := by decide +kernel
theorem d_Le_copyFrom_26 : decode prog_4_method_4_code 26 = .ok (.getfield 34, 3) := by decide +kernel
theorem d_Le_copyFrom_29 : decode prog_4_method_4_code 29 = .ok (.invokevirtual 41, 3) := by decide +kernel
theorem d_Le_copyFrom_32 : decode prog_4_method_4_code 32 = .ok (.aload_n 0, 1) := by decide +kernel
theorem d_Le_copyFrom_33 : decode prog_4_method_4_code 33 = .ok (.aload_n 1, 1) := by decide +kernel
theorem d_Le_copyFrom_34 : decode prog_4_method_4_code 34 = .ok (.getfield 45, 3) := by decide +kernel
theorem d_Le_copyFrom_37 : decode prog_4_method_4_code 37 = .ok (.putfield 45, 3) := by decide +kernel
theorem d_Le_copyFrom_40 : decode prog_4_method_4_code 40 = .ok (.aload_n 0, 1) := by decide +kernel
theorem d_Le_copyFrom_41 : decode prog_4_method_4_code 41 = .ok (.aload_n 1, 1) := by decide +kernel
theorem d_Le_copyFrom_42 : decode prog_4_method_4_code 42 = .ok (.getfield 48, 3) := by decide +kernel
theorem d_Le_copyFrom_45 : decode prog_4_method_4_code 45 = .ok (.putfield 48, 3) := by decide +kernel
theorem d_Le_copyFrom_48 : decode prog_4_method_4_code 48 = .ok (.aload_n 0, 1) := by decide +kernel
theorem d_Le_copyFrom_49 : decode prog_4_method_4_code 49 = .ok (.getfield 12, 3) := by decide +kernel
theorem d_Le_copyFrom_52 : decode prog_4_method_4_code 52 = .ok (.aload_n 1, 1) := by decide +kernel
theorem d_Le_copyFrom_53 : decode prog_4_method_4_code 53 = .ok (.getfield 12, 3) := by decide +kernel
theorem d_Le_copyFrom_56 : decode prog_4_method_4_code 56 = .ok (.invokevirtual 52, 3) := by decide +kernel
theorem d_Le_copyFrom_59 : decode prog_4_method_4_code 59 = .ok (.return_, 1) := by decide +kernel
theorem d_Ho_letter_0 : decode prog_1_method_10_code 0 = .ok (.aload_n 0, 1) := by decide +kernel
theorem d_Ho_letter_1 : decode prog_1_method_10_code 1 = .ok (.iload_n 1, 1) := by decide +kernel
theorem d_Ho_letter_2 : decode prog_1_method_10_code 2 = .ok (.invokevirtual 100, 3) := by decide +kernel
theorem d_Ho_letter_5 : decode prog_1_method_10_code 5 = .ok (.aload_n 0, 1) := by decide +kernel
theorem d_Ho_letter_6 : decode prog_1_method_10_code 6 = .ok (.getfield 28, 3) := by decide +kernel
theorem d_Ho_letter_9 : decode prog_1_method_10_code 9 = .ok (.getfield 132, 3) := by decide +kernel
theorem d_Ho_letter_12 : decode prog_1_method_10_code 12 = .ok (.iload_n 1, 1) := by decide +kernel
theorem d_Ho_letter_13 : decode prog_1_method_10_code 13 = .ok (.aaload, 1) := by decide +kernel
theorem d_Ho_letter_14 : decode prog_1_method_10_code 14 = .ok (.astore_n 3, 1) := by decide +kernel
theorem d_Ho_letter_15 : decode prog_1_method_10_code 15 = .ok (.iload_n 2, 1) := by decide +kernel
theorem d_Ho_letter_16 : decode prog_1_method_10_code 16 = .ok (.tableswitch 70 0 5 #[40, 45, 50, 55, 60, 65], 40) := by decide +kernel
theorem d_Ho_letter_56 : decode prog_1_method_10_code 56 = .ok (.aload_n 3, 1) := by decide +kernel
theorem d_Ho_letter_57 : decode prog_1_method_10_code 57 = .ok (.getfield 107, 3) := by decide +kernel
theorem d_Ho_letter_60 : decode prog_1_method_10_code 60 = .ok (.ireturn, 1) := by decide +kernel
theorem d_Ho_letter_61 : decode prog_1_method_10_code 61 = .ok (.aload_n 3, 1) := by decide +kernel
theorem d_Ho_letter_62 : decode prog_1_method_10_code 62 = .ok (.getfield 139, 3) := by decide +kernel
theorem d_Ho_letter_65 : decode prog_1_method_10_code 65 = .ok (.ireturn, 1) := by decide +kernel
theorem d_Ho_letter_66 : decode prog_1_method_10_code 66 = .ok (.aload_n 3, 1) := by decide +kernel
theorem d_Ho_letter_67 : decode prog_1_method_10_code 67 = .ok (.getfield 122, 3) := by decide +kernel
theorem d_Ho_letter_70 : decode prog_1_method_10_code 70 = .ok (.ireturn, 1) := by decide +kernel
theorem d_Ho_letter_71 : decode prog_1_method_10_code 71 = .ok (.aload_n 3, 1) := by decide +kernel
theorem d_Ho_letter_72 : decode prog_1_method_10_code 72 = .ok (.getfield 142, 3) := by decide +kernel
theorem d_Ho_letter_75 : decode prog_1_method_10_code 75 = .ok (.ireturn, 1) := by decide +kernel
theorem d_Ho_letter_76 : decode prog_1_method_10_code 76 = .ok (.aload_n 3, 1) := by decide +kernel
theorem d_Ho_letter_77 : decode prog_1_method_10_code 77 = .ok (.getfield 143, 3) := by decide +kernel
theorem d_Ho_letter_80 : decode prog_1_method_10_code 80 = .ok (.ireturn, 1) := by decide +kernel
theorem d_Ho_letter_81 : decode prog_1_method_10_code 81 = .ok (.aload_n 3, 1) := by decide +kernel
theorem d_Ho_letter_82 : decode prog_1_method_10_code 82 = .ok (.getfield 146, 3) := by decide +kernel
theorem d_Ho_letter_85 : decode prog_1_method_10_code 85 = .ok (.ireturn, 1) := by decide +kernel
theorem d_Ho_letter_86 : decode prog_1_method_10_code 86 = .ok (.new 149, 3) := by decide +kernel
theorem d_Ho_letter_89 : decode prog_1_method_10_code 89 = .ok (.dup, 1) := by decide +kernel
theorem d_Ho_letter_90 : decode prog_1_method_10_code 90 = .ok (.invokespecial 151, 3) := by decide +kernel
theorem d_Ho_letter_93 : decode prog_1_method_10_code 93 = .ok (.athrow, 1) := by decide +kernel
theorem d_Ho_up_0 : decode prog_1_method_11_code 0 = .ok (.iload_n 1, 1) := by decide +kernel
theorem d_Ho_up_1 : decode prog_1_method_11_code 1 = .ok (.invokestatic 152, 3) := by decide +kernel
theorem d_Ho_up_4 : decode prog_1_method_11_code 4 = .ok (.aload_n 0, 1) := by decide +kernel
theorem d_Ho_up_5 : decode prog_1_method_11_code 5 = .ok (.getfield 11, 3) := by decide +kernel
theorem d_Ho_up_8 : decode prog_1_method_11_code 8 = .ok (.iload_n 1, 1) := by decide +kernel
theorem d_Ho_up_9 : decode prog_1_method_11_code 9 = .ok (.aaload, 1) := by decide +kernel
theorem d_Ho_up_10 : decode prog_1_method_11_code 10 = .ok (.getfield 155, 3) := by decide +kernel
theorem d_Ho_up_13 : decode prog_1_method_11_code 13 = .ok (.iload_n 2, 1) := by decide +kernel
theorem d_Ho_up_14 : decode prog_1_method_11_code 14 = .ok (.if_icmp .eq 7, 3) := by decide +kernel
theorem d_Ho_up_17 : decode prog_1_method_11_code 17 = .ok (.iconst 1, 1) := by decide +kernel
theorem d_Ho_up_18 : decode prog_1_method_11_code 18 = .ok (.goto 4, 3) := by decide +kernel
theorem d_Ho_up_21 : decode prog_1_method_11_code 21 = .ok (.iconst 0, 1) := by decide +kernel
theorem d_Ho_up_22 : decode prog_1_method_11_code 22 = .ok (.istore_n 3, 1) := by decide +kernel
theorem d_Ho_up_23 : decode prog_1_method_11_code 23 = .ok (.aload_n 0, 1) := by decide +kernel
theorem d_Ho_up_24 : decode prog_1_method_11_code 24 = .ok (.getfield 11, 3) := by decide +kernel
theorem d_Ho_up_27 : decode prog_1_method_11_code 27 = .ok (.iload_n 1, 1) := by decide +kernel
theorem d_Ho_up_28 : decode prog_1_method_11_code 28 = .ok (.aaload, 1) := by decide +kernel
theorem d_Ho_up_29 : decode prog_1_method_11_code 29 = .ok (.iload_n 2, 1) := by decide +kernel
theorem d_Ho_up_30 : decode prog_1_method_11_code 30 = .ok (.putfield 155, 3) := by decide +kernel
theorem d_Ho_up_33 : decode prog_1_method_11_code 33 = .ok (.iload_n 3, 1) := by decide +kernel
theorem d_Ho_up_34 : decode prog_1_method_11_code 34 = .ok (.ireturn, 1) := by decide +kernel
theorem d_Ho_checkStation_0 : decode prog_1_method_22_code 0 = .ok (.iload_n 0, 1) := by decide +kernel
theorem d_Ho_checkStation_1 : decode prog_1_method_22_code 1 = .ok (.ifCond .lt 9, 3) := by decide +kernel
theorem d_Ho_checkStation_4 : decode prog_1_method_22_code 4 = .ok (.iload_n 0, 1) := by decide +kernel
theorem d_Ho_checkStation_5 : decode prog_1_method_22_code 5 = .ok (.bipush 7, 2) := by decide +kernel
theorem d_Ho_checkStation_7 : decode prog_1_method_22_code 7 = .ok (.if_icmp .lt 11, 3) := by decide +kernel
theorem d_Ho_checkStation_10 : decode prog_1_method_22_code 10 = .ok (.new 149, 3) := by decide +kernel
theorem d_Ho_checkStation_13 : decode prog_1_method_22_code 13 = .ok (.dup, 1) := by decide +kernel
theorem d_Ho_checkStation_14 : decode prog_1_method_22_code 14 = .ok (.invokespecial 151, 3) := by decide +kernel
theorem d_Ho_checkStation_17 : decode prog_1_method_22_code 17 = .ok (.athrow, 1) := by decide +kernel
theorem d_Ho_checkStation_18 : decode prog_1_method_22_code 18 = .ok (.return_, 1) := by decide +kernel
theorem d_Ho_wipe_0 : decode prog_1_method_12_code 0 = .ok (.iload_n 1, 1) := by decide +kernel
theorem d_Ho_wipe_1 : decode prog_1_method_12_code 1 = .ok (.invokestatic 152, 3) := by decide +kernel
theorem d_Ho_wipe_4 : decode prog_1_method_12_code 4 = .ok (.aload_n 0, 1) := by decide +kernel
theorem d_Ho_wipe_5 : decode prog_1_method_12_code 5 = .ok (.getfield 11, 3) := by decide +kernel
theorem d_Ho_wipe_8 : decode prog_1_method_12_code 8 = .ok (.iload_n 1, 1) := by decide +kernel
theorem d_Ho_wipe_9 : decode prog_1_method_12_code 9 = .ok (.aaload, 1) := by decide +kernel
theorem d_Ho_wipe_10 : decode prog_1_method_12_code 10 = .ok (.invokevirtual 159, 3) := by decide +kernel
theorem d_Ho_wipe_13 : decode prog_1_method_12_code 13 = .ok (.return_, 1) := by decide +kernel
theorem d_St_loseAll_0 : decode prog_10_method_3_code 0 = .ok (.aload_n 0, 1) := by decide +kernel
theorem d_St_loseAll_1 : decode prog_10_method_3_code 1 = .ok (.iconst 0, 1) := by decide +kernel
theorem d_St_loseAll_2 : decode prog_10_method_3_code 2 = .ok (.putfield 23, 3) := by decide +kernel
theorem d_St_loseAll_5 : decode prog_10_method_3_code 5 = .ok (.aload_n 0, 1) := by decide +kernel
theorem d_St_loseAll_6 : decode prog_10_method_3_code 6 = .ok (.getfield 16, 3) := by decide +kernel
theorem d_St_loseAll_9 : decode prog_10_method_3_code 9 = .ok (.invokevirtual 27, 3) := by decide +kernel
theorem d_St_loseAll_12 : decode prog_10_method_3_code 12 = .ok (.aload_n 0, 1) := by decide +kernel
theorem d_St_loseAll_13 : decode prog_10_method_3_code 13 = .ok (.iconst 1, 1) := by decide +kernel
theorem d_St_loseAll_14 : decode prog_10_method_3_code 14 = .ok (.putfield 20, 3) := by decide +kernel
theorem d_St_loseAll_17 : decode prog_10_method_3_code 17 = .ok (.return_, 1) := by decide +kernel
theorem d_Sh_clear_0 : decode prog_8_method_4_code 0 = .ok (.iconst 0, 1) := by decide +kernel
theorem d_Sh_clear_1 : decode prog_8_method_4_code 1 = .ok (.istore_n 1, 1) := by decide +kernel
theorem d_Sh_clear_2 : decode prog_8_method_4_code 2 = .ok (.iload_n 1, 1) := by decide +kernel
theorem d_Sh_clear_3 : decode prog_8_method_4_code 3 = .ok (.bipush 8, 2) := by decide +kernel
theorem d_Sh_clear_5 : decode prog_8_method_4_code 5 = .ok (.if_icmp .ge 18, 3) := by decide +kernel
theorem d_Sh_clear_8 : decode prog_8_method_4_code 8 = .ok (.aload_n 0, 1) := by decide +kernel
theorem d_Sh_clear_9 : decode prog_8_method_4_code 9 = .ok (.iload_n 1, 1) := by decide +kernel
theorem d_Sh_clear_10 : decode prog_8_method_4_code 10 = .ok (.iconst 0, 1) := by decide +kernel
theorem d_Sh_clear_11 : decode prog_8_method_4_code 11 = .ok (.iconst 0, 1) := by decide +kernel
theorem d_Sh_clear_12 : decode prog_8_method_4_code 12 = .ok (.iconst 0, 1) := by decide +kernel
theorem d_Sh_clear_13 : decode prog_8_method_4_code 13 = .ok (.lconst 0, 1) := by decide +kernel
theorem d_Sh_clear_14 : decode prog_8_method_4_code 14 = .ok (.invokevirtual 25, 3) := by decide +kernel
theorem d_Sh_clear_17 : decode prog_8_method_4_code 17 = .ok (.iinc 1 1, 3) := by decide +kernel
theorem d_Sh_clear_20 : decode prog_8_method_4_code 20 = .ok (.goto (-18), 3) := by decide +kernel
theorem d_Sh_clear_23 : decode prog_8_method_4_code 23 = .ok (.return_, 1) := by decide +kernel
theorem d_Ho_catchUp_0 : decode prog_1_method_13_code 0 = .ok (.iload_n 1, 1) := by decide +kernel
theorem d_Ho_catchUp_1 : decode prog_1_method_13_code 1 = .ok (.invokestatic 152, 3) := by decide +kernel
theorem d_Ho_catchUp_4 : decode prog_1_method_13_code 4 = .ok (.iload_n 2, 1) := by decide +kernel
theorem d_Ho_catchUp_5 : decode prog_1_method_13_code 5 = .ok (.invokestatic 57, 3) := by decide +kernel
theorem d_Ho_catchUp_8 : decode prog_1_method_13_code 8 = .ok (.aload_n 0, 1) := by decide +kernel
theorem d_Ho_catchUp_9 : decode prog_1_method_13_code 9 = .ok (.getfield 11, 3) := by decide +kernel
theorem d_Ho_catchUp_12 : decode prog_1_method_13_code 12 = .ok (.iload_n 1, 1) := by decide +kernel
theorem d_Ho_catchUp_13 : decode prog_1_method_13_code 13 = .ok (.aaload, 1) := by decide +kernel
theorem d_Ho_catchUp_14 : decode prog_1_method_13_code 14 = .ok (.astore_n 3, 1) := by decide +kernel
theorem d_Ho_catchUp_15 : decode prog_1_method_13_code 15 = .ok (.aload_n 3, 1) := by decide +kernel
theorem d_Ho_catchUp_16 : decode prog_1_method_13_code 16 = .ok (.getfield 162, 3) := by decide +kernel
theorem d_Ho_catchUp_19 : decode prog_1_method_13_code 19 = .ok (.ifCond .eq 10, 3) := by decide +kernel
theorem d_Ho_catchUp_22 : decode prog_1_method_13_code 22 = .ok (.aload_n 3, 1) := by decide +kernel
theorem d_Ho_catchUp_23 : decode prog_1_method_13_code 23 = .ok (.getfield 155, 3) := by decide +kernel
theorem d_Ho_catchUp_26 : decode prog_1_method_13_code 26 = .ok (.ifCond .ne 11, 3) := by decide +kernel
theorem d_Ho_catchUp_29 : decode prog_1_method_13_code 29 = .ok (.new 81, 3) := by decide +kernel
theorem d_Ho_catchUp_32 : decode prog_1_method_13_code 32 = .ok (.dup, 1) := by decide +kernel
theorem d_Ho_catchUp_33 : decode prog_1_method_13_code 33 = .ok (.invokespecial 83, 3) := by decide +kernel
theorem d_Ho_catchUp_36 : decode prog_1_method_13_code 36 = .ok (.athrow, 1) := by decide +kernel
theorem d_Ho_catchUp_37 : decode prog_1_method_13_code 37 = .ok (.iconst 0, 1) := by decide +kernel
theorem d_Ho_catchUp_38 : decode prog_1_method_13_code 38 = .ok (.istore 4, 2) := by decide +kernel
theorem d_Ho_catchUp_40 : decode prog_1_method_13_code 40 = .ok (.iconst 0, 1) := by decide +kernel
theorem d_Ho_catchUp_41 : decode prog_1_method_13_code 41 = .ok (.istore 5, 2) := by decide +kernel
theorem d_Ho_catchUp_43 : decode prog_1_method_13_code 43 = .ok (.iload 5, 2) := by decide +kernel
theorem d_Ho_catchUp_45 : decode prog_1_method_13_code 45 = .ok (.bipush 8, 2) := by decide +kernel
theorem d_Ho_catchUp_47 : decode prog_1_method_13_code 47 = .ok (.if_icmp .ge 95, 3) := by decide +kernel
theorem d_Ho_catchUp_50 : decode prog_1_method_13_code 50 = .ok (.aload_n 0, 1) := by decide +kernel
theorem d_Ho_catchUp_51 : decode prog_1_method_13_code 51 = .ok (.getfield 18, 3) := by decide +kernel
theorem d_Ho_catchUp_54 : decode prog_1_method_13_code 54 = .ok (.iload_n 2, 1) := by decide +kernel
theorem d_Ho_catchUp_55 : decode prog_1_method_13_code 55 = .ok (.aaload, 1) := by decide +kernel
theorem d_Ho_catchUp_56 : decode prog_1_method_13_code 56 = .ok (.getfield 165, 3) := by decide +kernel
theorem d_Ho_catchUp_59 : decode prog_1_method_13_code 59 = .ok (.iload 5, 2) := by decide +kernel
theorem d_Ho_catchUp_61 : decode prog_1_method_13_code 61 = .ok (.aaload, 1) := by decide +kernel
theorem d_Ho_catchUp_62 : decode prog_1_method_13_code 62 = .ok (.getfield 169, 3) := by decide +kernel
theorem d_Ho_catchUp_65 : decode prog_1_method_13_code 65 = .ok (.istore 6, 2) := by decide +kernel
theorem d_Ho_catchUp_67 : decode prog_1_method_13_code 67 = .ok (.iload 6, 2) := by decide +kernel
theorem d_Ho_catchUp_69 : decode prog_1_method_13_code 69 = .ok (.ifCond .eq 67, 3) := by decide +kernel
theorem d_Ho_catchUp_72 : decode prog_1_method_13_code 72 = .ok (.aload_n 3, 1) := by decide +kernel
theorem d_Ho_catchUp_73 : decode prog_1_method_13_code 73 = .ok (.getfield 174, 3) := by decide +kernel
theorem d_Ho_catchUp_76 : decode prog_1_method_13_code 76 = .ok (.iload 5, 2) := by decide +kernel
theorem d_Ho_catchUp_78 : decode prog_1_method_13_code 78 = .ok (.invokevirtual 178, 3) := by decide +kernel
theorem d_Ho_catchUp_81 : decode prog_1_method_13_code 81 = .ok (.ifCond .ne 55, 3) := by decide +kernel
theorem d_Ho_catchUp_84 : decode prog_1_method_13_code 84 = .ok (.aload_n 0, 1) := by decide +kernel
theorem d_Ho_catchUp_85 : decode prog_1_method_13_code 85 = .ok (.iload 5, 2) := by decide +kernel
theorem d_Ho_catchUp_87 : decode prog_1_method_13_code 87 = .ok (.iload 6, 2) := by decide +kernel
theorem d_Ho_catchUp_89 : decode prog_1_method_13_code 89 = .ok (.invokevirtual 183, 3) := by decide +kernel
theorem d_Ho_catchUp_92 : decode prog_1_method_13_code 92 = .ok (.ifCond .eq 44, 3) := by decide +kernel
theorem d_Ho_catchUp_95 : decode prog_1_method_13_code 95 = .ok (.aload_n 0, 1) := by decide +kernel
theorem d_Ho_catchUp_96 : decode prog_1_method_13_code 96 = .ok (.getfield 35, 3) := by decide +kernel
theorem d_Ho_catchUp_99 : decode prog_1_method_13_code 99 = .ok (.aload_n 0, 1) := by decide +kernel
theorem d_Ho_catchUp_100 : decode prog_1_method_13_code 100 = .ok (.getfield 42, 3) := by decide +kernel
theorem d_Ho_catchUp_103 : decode prog_1_method_13_code 103 = .ok (.invokevirtual 186, 3) := by decide +kernel
theorem d_Ho_catchUp_106 : decode prog_1_method_13_code 106 = .ok (.aload_n 3, 1) := by decide +kernel
theorem d_Ho_catchUp_107 : decode prog_1_method_13_code 107 = .ok (.getfield 174, 3) := by decide +kernel
theorem d_Ho_catchUp_110 : decode prog_1_method_13_code 110 = .ok (.iload 5, 2) := by decide +kernel
theorem d_Ho_catchUp_112 : decode prog_1_method_13_code 112 = .ok (.iconst 0, 1) := by decide +kernel
theorem d_Ho_catchUp_113 : decode prog_1_method_13_code 113 = .ok (.iload 6, 2) := by decide +kernel
theorem d_Ho_catchUp_115 : decode prog_1_method_13_code 115 = .ok (.aload_n 0, 1) := by decide +kernel
theorem d_Ho_catchUp_116 : decode prog_1_method_13_code 116 = .ok (.getfield 42, 3) := by decide +kernel
theorem d_Ho_catchUp_119 : decode prog_1_method_13_code 119 = .ok (.getfield 190, 3) := by decide +kernel
theorem d_Ho_catchUp_122 : decode prog_1_method_13_code 122 = .ok (.aload_n 0, 1) := by decide +kernel
theorem d_Ho_catchUp_123 : decode prog_1_method_13_code 123 = .ok (.getfield 42, 3) := by decide +kernel
theorem d_Ho_catchUp_126 : decode prog_1_method_13_code 126 = .ok (.iload_n 1, 1) := by decide +kernel
theorem d_Ho_catchUp_127 : decode prog_1_method_13_code 127 = .ok (.invokevirtual 193, 3) := by decide +kernel
theorem d_Ho_catchUp_130 : decode prog_1_method_13_code 130 = .ok (.invokevirtual 197, 3) := by decide +kernel
theorem d_Ho_catchUp_133 : decode prog_1_method_13_code 133 = .ok (.iinc 4 1, 3) := by decide +kernel
theorem d_Ho_catchUp_136 : decode prog_1_method_13_code 136 = .ok (.iinc 5 1, 3) := by decide +kernel
theorem d_Ho_catchUp_139 : decode prog_1_method_13_code 139 = .ok (.goto (-96), 3) := by decide +kernel
theorem d_Ho_catchUp_142 : decode prog_1_method_13_code 142 = .ok (.iload 4, 2) := by decide +kernel
theorem d_Ho_catchUp_144 : decode prog_1_method_13_code 144 = .ok (.ireturn, 1) := by decide +kernel
theorem d_Ho_gatherFromStations_0 : decode prog_1_method_33_code 0 = .ok (.aload_n 0, 1) := by decide +kernel
theorem d_Ho_gatherFromStations_1 : decode prog_1_method_33_code 1 = .ok (.getfield 35, 3) := by decide +kernel
theorem d_Ho_gatherFromStations_4 : decode prog_1_method_33_code 4 = .ok (.iload_n 2, 1) := by decide +kernel
theorem d_Ho_gatherFromStations_5 : decode prog_1_method_33_code 5 = .ok (.invokevirtual 303, 3) := by decide +kernel
theorem d_Ho_gatherFromStations_8 : decode prog_1_method_33_code 8 = .ok (.iconst 0, 1) := by decide +kernel
theorem d_Ho_gatherFromStations_9 : decode prog_1_method_33_code 9 = .ok (.istore_n 3, 1) := by decide +kernel
theorem d_Ho_gatherFromStations_10 : decode prog_1_method_33_code 10 = .ok (.iload_n 3, 1) := by decide +kernel
theorem d_Ho_gatherFromStations_11 : decode prog_1_method_33_code 11 = .ok (.bipush 7, 2) := by decide +kernel
theorem d_Ho_gatherFromStations_13 : decode prog_1_method_33_code 13 = .ok (.if_icmp .ge 39, 3) := by decide +kernel
theorem d_Ho_gatherFromStations_16 : decode prog_1_method_33_code 16 = .ok (.aload_n 0, 1) := by decide +kernel
theorem d_Ho_gatherFromStations_17 : decode prog_1_method_33_code 17 = .ok (.getfield 11, 3) := by decide +kernel
theorem d_Ho_gatherFromStations_20 : decode prog_1_method_33_code 20 = .ok (.iload_n 3, 1) := by decide +kernel
theorem d_Ho_gatherFromStations_21 : decode prog_1_method_33_code 21 = .ok (.aaload, 1) := by decide +kernel
theorem d_Ho_gatherFromStations_22 : decode prog_1_method_33_code 22 = .ok (.getfield 155, 3) := by decide +kernel
theorem d_Ho_gatherFromStations_25 : decode prog_1_method_33_code 25 = .ok (.ifCond .eq 21, 3) := by decide +kernel
theorem d_Ho_gatherFromStations_28 : decode prog_1_method_33_code 28 = .ok (.aload_n 0, 1) := by decide +kernel
theorem d_Ho_gatherFromStations_29 : decode prog_1_method_33_code 29 = .ok (.getfield 35, 3) := by decide +kernel
theorem d_Ho_gatherFromStations_32 : decode prog_1_method_33_code 32 = .ok (.iload_n 3, 1) := by decide +kernel
theorem d_Ho_gatherFromStations_33 : decode prog_1_method_33_code 33 = .ok (.aload_n 0, 1) := by decide +kernel
theorem d_Ho_gatherFromStations_34 : decode prog_1_method_33_code 34 = .ok (.getfield 11, 3) := by decide +kernel
theorem d_Ho_gatherFromStations_37 : decode prog_1_method_33_code 37 = .ok (.iload_n 3, 1) := by decide +kernel
theorem d_Ho_gatherFromStations_38 : decode prog_1_method_33_code 38 = .ok (.aaload, 1) := by decide +kernel
theorem d_Ho_gatherFromStations_39 : decode prog_1_method_33_code 39 = .ok (.getfield 174, 3) := by decide +kernel
theorem d_Ho_gatherFromStations_42 : decode prog_1_method_33_code 42 = .ok (.iload_n 1, 1) := by decide +kernel
theorem d_Ho_gatherFromStations_43 : decode prog_1_method_33_code 43 = .ok (.invokevirtual 306, 3) := by decide +kernel
theorem d_Ho_gatherFromStations_46 : decode prog_1_method_33_code 46 = .ok (.iinc 3 1, 3) := by decide +kernel
theorem d_Ho_gatherFromStations_49 : decode prog_1_method_33_code 49 = .ok (.goto (-39), 3) := by decide +kernel
theorem d_Ho_gatherFromStations_52 : decode prog_1_method_33_code 52 = .ok (.aload_n 0, 1) := by decide +kernel
theorem d_Ho_gatherFromStations_53 : decode prog_1_method_33_code 53 = .ok (.getfield 35, 3) := by decide +kernel
theorem d_Ho_gatherFromStations_56 : decode prog_1_method_33_code 56 = .ok (.invokevirtual 310, 3) := by decide +kernel
theorem d_Ho_gatherFromStations_59 : decode prog_1_method_33_code 59 = .ok (.ireturn, 1) := by decide +kernel
theorem d_Ho_decided_0 : decode prog_1_method_14_code 0 = .ok (.iload_n 1, 1) := by decide +kernel
theorem d_Ho_decided_1 : decode prog_1_method_14_code 1 = .ok (.invokestatic 57, 3) := by decide +kernel
theorem d_Ho_decided_4 : decode prog_1_method_14_code 4 = .ok (.iload_n 2, 1) := by decide +kernel
theorem d_Ho_decided_5 : decode prog_1_method_14_code 5 = .ok (.invokestatic 201, 3) := by decide +kernel
theorem d_Ho_decided_8 : decode prog_1_method_14_code 8 = .ok (.aload_n 0, 1) := by decide +kernel
theorem d_Ho_decided_9 : decode prog_1_method_14_code 9 = .ok (.getfield 18, 3) := by decide +kernel
theorem d_Ho_decided_12 : decode prog_1_method_14_code 12 = .ok (.iload_n 1, 1) := by decide +kernel
theorem d_Ho_decided_13 : decode prog_1_method_14_code 13 = .ok (.aaload, 1) := by decide +kernel
theorem d_Ho_decided_14 : decode prog_1_method_14_code 14 = .ok (.getfield 165, 3) := by decide +kernel
theorem d_Ho_decided_17 : decode prog_1_method_14_code 17 = .ok (.iload_n 2, 1) := by decide +kernel
theorem d_Ho_decided_18 : decode prog_1_method_14_code 18 = .ok (.aaload, 1) := by decide +kernel
theorem d_Ho_decided_19 : decode prog_1_method_14_code 19 = .ok (.getfield 169, 3) := by decide +kernel
theorem d_Ho_decided_22 : decode prog_1_method_14_code 22 = .ok (.ireturn, 1) := by decide +kernel
theorem d_Ho_checkPlace_0 : decode prog_1_method_23_code 0 = .ok (.iload_n 0, 1) := by decide +kernel
theorem d_Ho_checkPlace_1 : decode prog_1_method_23_code 1 = .ok (.ifCond .lt 9, 3) := by decide +kernel
theorem d_Ho_checkPlace_4 : decode prog_1_method_23_code 4 = .ok (.iload_n 0, 1) := by decide +kernel
theorem d_Ho_checkPlace_5 : decode prog_1_method_23_code 5 = .ok (.bipush 8, 2) := by decide +kernel
theorem d_Ho_checkPlace_7 : decode prog_1_method_23_code 7 = .ok (.if_icmp .lt 11, 3) := by decide +kernel
theorem d_Ho_checkPlace_10 : decode prog_1_method_23_code 10 = .ok (.new 149, 3) := by decide +kernel
theorem d_Ho_checkPlace_13 : decode prog_1_method_23_code 13 = .ok (.dup, 1) := by decide +kernel
theorem d_Ho_checkPlace_14 : decode prog_1_method_23_code 14 = .ok (.invokespecial 151, 3) := by decide +kernel
theorem d_Ho_checkPlace_17 : decode prog_1_method_23_code 17 = .ok (.athrow, 1) := by decide +kernel
theorem d_Ho_checkPlace_18 : decode prog_1_method_23_code 18 = .ok (.return_, 1) := by decide +kernel
theorem d_Ho_read_0 : decode prog_1_method_15_code 0 = .ok (.iload_n 1, 1) := by decide +kernel
theorem d_Ho_read_1 : decode prog_1_method_15_code 1 = .ok (.invokestatic 57, 3) := by decide +kernel
theorem d_Ho_read_4 : decode prog_1_method_15_code 4 = .ok (.iload_n 2, 1) := by decide +kernel
theorem d_Ho_read_5 : decode prog_1_method_15_code 5 = .ok (.invokestatic 201, 3) := by decide +kernel
theorem d_Ho_read_8 : decode prog_1_method_15_code 8 = .ok (.aload_n 0, 1) := by decide +kernel
theorem d_Ho_read_9 : decode prog_1_method_15_code 9 = .ok (.getfield 18, 3) := by decide +kernel
theorem d_Ho_read_12 : decode prog_1_method_15_code 12 = .ok (.iload_n 1, 1) := by decide +kernel
theorem d_Ho_read_13 : decode prog_1_method_15_code 13 = .ok (.aaload, 1) := by decide +kernel
theorem d_Ho_read_14 : decode prog_1_method_15_code 14 = .ok (.getfield 165, 3) := by decide +kernel
theorem d_Ho_read_17 : decode prog_1_method_15_code 17 = .ok (.iload_n 2, 1) := by decide +kernel
theorem d_Ho_read_18 : decode prog_1_method_15_code 18 = .ok (.aaload, 1) := by decide +kernel
theorem d_Ho_read_19 : decode prog_1_method_15_code 19 = .ok (.getfield 169, 3) := by decide +kernel
theorem d_Ho_read_22 : decode prog_1_method_15_code 22 = .ok (.istore_n 3, 1) := by decide +kernel
theorem d_Ho_read_23 : decode prog_1_method_15_code 23 = .ok (.iload_n 3, 1) := by decide +kernel
theorem d_Ho_read_24 : decode prog_1_method_15_code 24 = .ok (.ifCond .ne 11, 3) := by decide +kernel
theorem d_Ho_read_27 : decode prog_1_method_15_code 27 = .ok (.new 204, 3) := by decide +kernel
theorem d_Ho_read_30 : decode prog_1_method_15_code 30 = .ok (.dup, 1) := by decide +kernel
theorem d_Ho_read_31 : decode prog_1_method_15_code 31 = .ok (.invokespecial 206, 3) := by decide +kernel
theorem d_Ho_read_34 : decode prog_1_method_15_code 34 = .ok (.athrow, 1) := by decide +kernel
theorem d_Ho_read_35 : decode prog_1_method_15_code 35 = .ok (.aload_n 0, 1) := by decide +kernel
theorem d_Ho_read_36 : decode prog_1_method_15_code 36 = .ok (.iload_n 2, 1) := by decide +kernel
theorem d_Ho_read_37 : decode prog_1_method_15_code 37 = .ok (.iload_n 3, 1) := by decide +kernel
theorem d_Ho_read_38 : decode prog_1_method_15_code 38 = .ok (.invokevirtual 183, 3) := by decide +kernel
theorem d_Ho_read_41 : decode prog_1_method_15_code 41 = .ok (.ifCond .ne 11, 3) := by decide +kernel
theorem d_Ho_read_44 : decode prog_1_method_15_code 44 = .ok (.new 81, 3) := by decide +kernel
theorem d_Ho_read_47 : decode prog_1_method_15_code 47 = .ok (.dup, 1) := by decide +kernel
theorem d_Ho_read_48 : decode prog_1_method_15_code 48 = .ok (.invokespecial 83, 3) := by decide +kernel
theorem d_Ho_read_51 : decode prog_1_method_15_code 51 = .ok (.athrow, 1) := by decide +kernel
theorem d_Ho_read_52 : decode prog_1_method_15_code 52 = .ok (.aload_n 0, 1) := by decide +kernel
theorem d_Ho_read_53 : decode prog_1_method_15_code 53 = .ok (.getfield 35, 3) := by decide +kernel
theorem d_Ho_read_56 : decode prog_1_method_15_code 56 = .ok (.aload_n 0, 1) := by decide +kernel
theorem d_Ho_read_57 : decode prog_1_method_15_code 57 = .ok (.getfield 46, 3) := by decide +kernel
theorem d_Ho_read_60 : decode prog_1_method_15_code 60 = .ok (.invokevirtual 186, 3) := by decide +kernel
theorem d_Ho_read_63 : decode prog_1_method_15_code 63 = .ok (.aload_n 0, 1) := by decide +kernel
theorem d_Ho_read_64 : decode prog_1_method_15_code 64 = .ok (.getfield 46, 3) := by decide +kernel
theorem d_Ho_read_67 : decode prog_1_method_15_code 67 = .ok (.getfield 190, 3) := by decide +kernel
theorem d_Ho_read_70 : decode prog_1_method_15_code 70 = .ok (.ireturn, 1) := by decide +kernel
theorem d_Ho_readByte_0 : decode prog_1_method_16_code 0 = .ok (.iload_n 1, 1) := by decide +kernel
theorem d_Ho_readByte_1 : decode prog_1_method_16_code 1 = .ok (.ifCond .lt 14, 3) := by decide +kernel
theorem d_Ho_readByte_4 : decode prog_1_method_16_code 4 = .ok (.iload_n 1, 1) := by decide +kernel
theorem d_Ho_readByte_5 : decode prog_1_method_16_code 5 = .ok (.aload_n 0, 1) := by decide +kernel
theorem d_Ho_readByte_6 : decode prog_1_method_16_code 6 = .ok (.getfield 46, 3) := by decide +kernel
theorem d_Ho_readByte_9 : decode prog_1_method_16_code 9 = .ok (.getfield 190, 3) := by decide +kernel
theorem d_Ho_readByte_12 : decode prog_1_method_16_code 12 = .ok (.if_icmp .lt 11, 3) := by decide +kernel
theorem d_Ho_readByte_15 : decode prog_1_method_16_code 15 = .ok (.new 207, 3) := by decide +kernel
theorem d_Ho_readByte_18 : decode prog_1_method_16_code 18 = .ok (.dup, 1) := by decide +kernel
theorem d_Ho_readByte_19 : decode prog_1_method_16_code 19 = .ok (.invokespecial 209, 3) := by decide +kernel
theorem d_Ho_readByte_22 : decode prog_1_method_16_code 22 = .ok (.athrow, 1) := by decide +kernel
theorem d_Ho_readByte_23 : decode prog_1_method_16_code 23 = .ok (.aload_n 0, 1) := by decide +kernel
theorem d_Ho_readByte_24 : decode prog_1_method_16_code 24 = .ok (.getfield 46, 3) := by decide +kernel
theorem d_Ho_readByte_27 : decode prog_1_method_16_code 27 = .ok (.iload_n 1, 1) := by decide +kernel
theorem d_Ho_readByte_28 : decode prog_1_method_16_code 28 = .ok (.invokevirtual 210, 3) := by decide +kernel
theorem d_Ho_readByte_31 : decode prog_1_method_16_code 31 = .ok (.ireturn, 1) := by decide +kernel
theorem d_Re_byteAt_0 : decode prog_6_method_6_code 0 = .ok (.iconst 1, 1) := by decide +kernel
theorem d_Re_byteAt_1 : decode prog_6_method_6_code 1 = .ok (.aload_n 0, 1) := by decide +kernel
theorem d_Re_byteAt_2 : decode prog_6_method_6_code 2 = .ok (.getfield 15, 3) := by decide +kernel
theorem d_Re_byteAt_5 : decode prog_6_method_6_code 5 = .ok (.invokestatic 22, 3) := by decide +kernel
theorem d_Re_byteAt_8 : decode prog_6_method_6_code 8 = .ok (.invokestatic 26, 3) := by decide +kernel
theorem d_Re_byteAt_11 : decode prog_6_method_6_code 11 = .ok (.istore_n 2, 1) := by decide +kernel
theorem d_Re_byteAt_12 : decode prog_6_method_6_code 12 = .ok (.aload_n 0, 1) := by decide +kernel
theorem d_Re_byteAt_13 : decode prog_6_method_6_code 13 = .ok (.getfield 9, 3) := by decide +kernel
theorem d_Re_byteAt_16 : decode prog_6_method_6_code 16 = .ok (.iload_n 1, 1) := by decide +kernel
theorem d_Re_byteAt_17 : decode prog_6_method_6_code 17 = .ok (.iload_n 2, 1) := by decide +kernel
theorem d_Re_byteAt_18 : decode prog_6_method_6_code 18 = .ok (.idiv, 1) := by decide +kernel
theorem d_Re_byteAt_19 : decode prog_6_method_6_code 19 = .ok (.laload, 1) := by decide +kernel
theorem d_Re_byteAt_20 : decode prog_6_method_6_code 20 = .ok (.bipush 8, 2) := by decide +kernel
theorem d_Re_byteAt_22 : decode prog_6_method_6_code 22 = .ok (.iload_n 1, 1) := by decide +kernel
theorem d_Re_byteAt_23 : decode prog_6_method_6_code 23 = .ok (.iload_n 2, 1) := by decide +kernel
theorem d_Re_byteAt_24 : decode prog_6_method_6_code 24 = .ok (.irem, 1) := by decide +kernel
theorem d_Re_byteAt_25 : decode prog_6_method_6_code 25 = .ok (.imul, 1) := by decide +kernel
theorem d_Re_byteAt_26 : decode prog_6_method_6_code 26 = .ok (.lushr, 1) := by decide +kernel
theorem d_Re_byteAt_27 : decode prog_6_method_6_code 27 = .ok (.ldc2_w 32, 3) := by decide +kernel
theorem d_Re_byteAt_30 : decode prog_6_method_6_code 30 = .ok (.land, 1) := by decide +kernel
theorem d_Re_byteAt_31 : decode prog_6_method_6_code 31 = .ok (.l2i, 1) := by decide +kernel
theorem d_Re_byteAt_32 : decode prog_6_method_6_code 32 = .ok (.ireturn, 1) := by decide +kernel
theorem d_Ho_state_0 : decode prog_1_method_17_code 0 = .ok (.iload_n 1, 1) := by decide +kernel
theorem d_Ho_state_1 : decode prog_1_method_17_code 1 = .ok (.invokestatic 57, 3) := by decide +kernel
theorem d_Ho_state_4 : decode prog_1_method_17_code 4 = .ok (.aload_n 0, 1) := by decide +kernel
theorem d_Ho_state_5 : decode prog_1_method_17_code 5 = .ok (.getfield 18, 3) := by decide +kernel
theorem d_Ho_state_8 : decode prog_1_method_17_code 8 = .ok (.iload_n 1, 1) := by decide +kernel
theorem d_Ho_state_9 : decode prog_1_method_17_code 9 = .ok (.aaload, 1) := by decide +kernel
theorem d_Ho_state_10 : decode prog_1_method_17_code 10 = .ok (.astore_n 3, 1) := by decide +kernel
theorem d_Ho_state_11 : decode prog_1_method_17_code 11 = .ok (.iload_n 2, 1) := by decide +kernel
theorem d_Ho_state_12 : decode prog_1_method_17_code 12 = .ok (.tableswitch 55 0 3 #[32, 37, 42, 47], 32) := by decide +kernel
theorem d_Ho_state_44 : decode prog_1_method_17_code 44 = .ok (.aload_n 3, 1) := by decide +kernel
theorem d_Ho_state_45 : decode prog_1_method_17_code 45 = .ok (.getfield 94, 3) := by decide +kernel
theorem d_Ho_state_48 : decode prog_1_method_17_code 48 = .ok (.ireturn, 1) := by decide +kernel
theorem d_Ho_state_49 : decode prog_1_method_17_code 49 = .ok (.aload_n 3, 1) := by decide +kernel
theorem d_Ho_state_50 : decode prog_1_method_17_code 50 = .ok (.getfield 71, 3) := by decide +kernel
theorem d_Ho_state_53 : decode prog_1_method_17_code 53 = .ok (.ireturn, 1) := by decide +kernel
theorem d_Ho_state_54 : decode prog_1_method_17_code 54 = .ok (.aload_n 3, 1) := by decide +kernel
theorem d_Ho_state_55 : decode prog_1_method_17_code 55 = .ok (.invokevirtual 75, 3) := by decide +kernel
theorem d_Ho_state_58 : decode prog_1_method_17_code 58 = .ok (.ireturn, 1) := by decide +kernel
theorem d_Ho_state_59 : decode prog_1_method_17_code 59 = .ok (.aload_n 3, 1) := by decide +kernel
theorem d_Ho_state_60 : decode prog_1_method_17_code 60 = .ok (.getfield 214, 3) := by decide +kernel
theorem d_Ho_state_63 : decode prog_1_method_17_code 63 = .ok (.invokestatic 217, 3) := by decide +kernel
theorem d_Ho_state_66 : decode prog_1_method_17_code 66 = .ok (.ireturn, 1) := by decide +kernel
theorem d_Ho_state_67 : decode prog_1_method_17_code 67 = .ok (.new 149, 3) := by decide +kernel
theorem d_Ho_state_70 : decode prog_1_method_17_code 70 = .ok (.dup, 1) := by decide +kernel
theorem d_Ho_state_71 : decode prog_1_method_17_code 71 = .ok (.invokespecial 151, 3) := by decide +kernel
theorem d_Ho_state_74 : decode prog_1_method_17_code 74 = .ok (.athrow, 1) := by decide +kernel
theorem d_Ho_station_0 : decode prog_1_method_18_code 0 = .ok (.iload_n 1, 1) := by decide +kernel
theorem d_Ho_station_1 : decode prog_1_method_18_code 1 = .ok (.invokestatic 152, 3) := by decide +kernel
theorem d_Ho_station_4 : decode prog_1_method_18_code 4 = .ok (.aload_n 0, 1) := by decide +kernel
theorem d_Ho_station_5 : decode prog_1_method_18_code 5 = .ok (.getfield 11, 3) := by decide +kernel
theorem d_Ho_station_8 : decode prog_1_method_18_code 8 = .ok (.iload_n 1, 1) := by decide +kernel
theorem d_Ho_station_9 : decode prog_1_method_18_code 9 = .ok (.aaload, 1) := by decide +kernel
theorem d_Ho_station_10 : decode prog_1_method_18_code 10 = .ok (.astore_n 3, 1) := by decide +kernel
theorem d_Ho_station_11 : decode prog_1_method_18_code 11 = .ok (.iload_n 2, 1) := by decide +kernel
theorem d_Ho_station_12 : decode prog_1_method_18_code 12 = .ok (.tableswitch 71 0 3 #[32, 37, 45, 58], 32) := by decide +kernel
theorem d_Ho_station_44 : decode prog_1_method_18_code 44 = .ok (.aload_n 3, 1) := by decide +kernel
theorem d_Ho_station_45 : decode prog_1_method_18_code 45 = .ok (.getfield 222, 3) := by decide +kernel
theorem d_Ho_station_48 : decode prog_1_method_18_code 48 = .ok (.ireturn, 1) := by decide +kernel
theorem d_Ho_station_49 : decode prog_1_method_18_code 49 = .ok (.aload_n 3, 1) := by decide +kernel
theorem d_Ho_station_50 : decode prog_1_method_18_code 50 = .ok (.getfield 174, 3) := by decide +kernel
theorem d_Ho_station_53 : decode prog_1_method_18_code 53 = .ok (.invokevirtual 225, 3) := by decide +kernel
theorem d_Ho_station_56 : decode prog_1_method_18_code 56 = .ok (.ireturn, 1) := by decide +kernel
theorem d_Ho_station_57 : decode prog_1_method_18_code 57 = .ok (.aload_n 3, 1) := by decide +kernel
theorem d_Ho_station_58 : decode prog_1_method_18_code 58 = .ok (.getfield 155, 3) := by decide +kernel
theorem d_Ho_station_61 : decode prog_1_method_18_code 61 = .ok (.ifCond .eq 7, 3) := by decide +kernel
theorem d_Ho_station_64 : decode prog_1_method_18_code 64 = .ok (.iconst 1, 1) := by decide +kernel
theorem d_Ho_station_65 : decode prog_1_method_18_code 65 = .ok (.goto 4, 3) := by decide +kernel
theorem d_Ho_station_68 : decode prog_1_method_18_code 68 = .ok (.iconst 0, 1) := by decide +kernel
theorem d_Ho_station_69 : decode prog_1_method_18_code 69 = .ok (.ireturn, 1) := by decide +kernel
theorem d_Ho_station_70 : decode prog_1_method_18_code 70 = .ok (.aload_n 3, 1) := by decide +kernel
theorem d_Ho_station_71 : decode prog_1_method_18_code 71 = .ok (.getfield 162, 3) := by decide +kernel
theorem d_Ho_station_74 : decode prog_1_method_18_code 74 = .ok (.ifCond .eq 7, 3) := by decide +kernel
theorem d_Ho_station_77 : decode prog_1_method_18_code 77 = .ok (.iconst 1, 1) := by decide +kernel
theorem d_Ho_station_78 : decode prog_1_method_18_code 78 = .ok (.goto 4, 3) := by decide +kernel
theorem d_Ho_station_81 : decode prog_1_method_18_code 81 = .ok (.iconst 0, 1) := by decide +kernel
theorem d_Ho_station_82 : decode prog_1_method_18_code 82 = .ok (.ireturn, 1) := by decide +kernel
theorem d_Ho_station_83 : decode prog_1_method_18_code 83 = .ok (.new 149, 3) := by decide +kernel
theorem d_Ho_station_86 : decode prog_1_method_18_code 86 = .ok (.dup, 1) := by decide +kernel
theorem d_Ho_station_87 : decode prog_1_method_18_code 87 = .ok (.invokespecial 151, 3) := by decide +kernel
theorem d_Ho_station_90 : decode prog_1_method_18_code 90 = .ok (.athrow, 1) := by decide +kernel
theorem d_Sh_countBytes_0 : decode prog_8_method_6_code 0 = .ok (.iconst 0, 1) := by decide +kernel
theorem d_Sh_countBytes_1 : decode prog_8_method_6_code 1 = .ok (.istore_n 1, 1) := by decide +kernel
theorem d_Sh_countBytes_2 : decode prog_8_method_6_code 2 = .ok (.iconst 0, 1) := by decide +kernel
theorem d_Sh_countBytes_3 : decode prog_8_method_6_code 3 = .ok (.istore_n 2, 1) := by decide +kernel
theorem d_Sh_countBytes_4 : decode prog_8_method_6_code 4 = .ok (.iload_n 2, 1) := by decide +kernel
theorem d_Sh_countBytes_5 : decode prog_8_method_6_code 5 = .ok (.bipush 8, 2) := by decide +kernel
theorem d_Sh_countBytes_7 : decode prog_8_method_6_code 7 = .ok (.if_icmp .ge 21, 3) := by decide +kernel
theorem d_Sh_countBytes_10 : decode prog_8_method_6_code 10 = .ok (.iload_n 1, 1) := by decide +kernel
theorem d_Sh_countBytes_11 : decode prog_8_method_6_code 11 = .ok (.aload_n 0, 1) := by decide +kernel
theorem d_Sh_countBytes_12 : decode prog_8_method_6_code 12 = .ok (.getfield 18, 3) := by decide +kernel
theorem d_Sh_countBytes_15 : decode prog_8_method_6_code 15 = .ok (.iload_n 2, 1) := by decide +kernel
theorem d_Sh_countBytes_16 : decode prog_8_method_6_code 16 = .ok (.iaload, 1) := by decide +kernel
theorem d_Sh_countBytes_17 : decode prog_8_method_6_code 17 = .ok (.invokestatic 29, 3) := by decide +kernel
theorem d_Sh_countBytes_20 : decode prog_8_method_6_code 20 = .ok (.iadd, 1) := by decide +kernel
theorem d_Sh_countBytes_21 : decode prog_8_method_6_code 21 = .ok (.istore_n 1, 1) := by decide +kernel
theorem d_Sh_countBytes_22 : decode prog_8_method_6_code 22 = .ok (.iinc 2 1, 3) := by decide +kernel
theorem d_Sh_countBytes_25 : decode prog_8_method_6_code 25 = .ok (.goto (-21), 3) := by decide +kernel
theorem d_Sh_countBytes_28 : decode prog_8_method_6_code 28 = .ok (.iload_n 1, 1) := by decide +kernel
theorem d_Sh_countBytes_29 : decode prog_8_method_6_code 29 = .ok (.ireturn, 1) := by decide +kernel
theorem d_Ho_share_0 : decode prog_1_method_19_code 0 = .ok (.iload_n 1, 1) := by decide +kernel
theorem d_Ho_share_1 : decode prog_1_method_19_code 1 = .ok (.invokestatic 152, 3) := by decide +kernel
theorem d_Ho_share_4 : decode prog_1_method_19_code 4 = .ok (.iload_n 2, 1) := by decide +kernel
theorem d_Ho_share_5 : decode prog_1_method_19_code 5 = .ok (.invokestatic 201, 3) := by decide +kernel
theorem d_Ho_share_8 : decode prog_1_method_19_code 8 = .ok (.iload_n 3, 1) := by decide +kernel
theorem d_Ho_share_9 : decode prog_1_method_19_code 9 = .ok (.ifCond .ge 11, 3) := by decide +kernel
theorem d_Ho_share_12 : decode prog_1_method_19_code 12 = .ok (.new 149, 3) := by decide +kernel
theorem d_Ho_share_15 : decode prog_1_method_19_code 15 = .ok (.dup, 1) := by decide +kernel
theorem d_Ho_share_16 : decode prog_1_method_19_code 16 = .ok (.invokespecial 151, 3) := by decide +kernel
theorem d_Ho_share_19 : decode prog_1_method_19_code 19 = .ok (.athrow, 1) := by decide +kernel
theorem d_Ho_share_20 : decode prog_1_method_19_code 20 = .ok (.aload_n 0, 1) := by decide +kernel
theorem d_Ho_share_21 : decode prog_1_method_19_code 21 = .ok (.getfield 11, 3) := by decide +kernel
theorem d_Ho_share_24 : decode prog_1_method_19_code 24 = .ok (.iload_n 1, 1) := by decide +kernel
theorem d_Ho_share_25 : decode prog_1_method_19_code 25 = .ok (.aaload, 1) := by decide +kernel
theorem d_Ho_share_26 : decode prog_1_method_19_code 26 = .ok (.getfield 174, 3) := by decide +kernel
theorem d_Ho_share_29 : decode prog_1_method_19_code 29 = .ok (.astore 4, 2) := by decide +kernel
theorem d_Ho_share_31 : decode prog_1_method_19_code 31 = .ok (.aload 4, 2) := by decide +kernel
theorem d_Ho_share_33 : decode prog_1_method_19_code 33 = .ok (.iload_n 2, 1) := by decide +kernel
theorem d_Ho_share_34 : decode prog_1_method_19_code 34 = .ok (.invokevirtual 178, 3) := by decide +kernel
theorem d_Ho_share_37 : decode prog_1_method_19_code 37 = .ok (.ifCond .ne 5, 3) := by decide +kernel
theorem d_Ho_share_40 : decode prog_1_method_19_code 40 = .ok (.iconst (-1), 1) := by decide +kernel
theorem d_Ho_share_41 : decode prog_1_method_19_code 41 = .ok (.ireturn, 1) := by decide +kernel
theorem d_Ho_share_42 : decode prog_1_method_19_code 42 = .ok (.iload_n 3, 1) := by decide +kernel
theorem d_Ho_share_43 : decode prog_1_method_19_code 43 = .ok (.tableswitch 49 0 2 #[25, 33, 41], 25) := by decide +kernel
theorem d_Ho_share_68 : decode prog_1_method_19_code 68 = .ok (.aload 4, 2) := by decide +kernel
theorem d_Ho_share_70 : decode prog_1_method_19_code 70 = .ok (.getfield 228, 3) := by decide +kernel
theorem d_Ho_share_73 : decode prog_1_method_19_code 73 = .ok (.iload_n 2, 1) := by decide +kernel
theorem d_Ho_share_74 : decode prog_1_method_19_code 74 = .ok (.iaload, 1) := by decide +kernel
theorem d_Ho_share_75 : decode prog_1_method_19_code 75 = .ok (.ireturn, 1) := by decide +kernel
theorem d_Ho_share_76 : decode prog_1_method_19_code 76 = .ok (.aload 4, 2) := by decide +kernel
theorem d_Ho_share_78 : decode prog_1_method_19_code 78 = .ok (.getfield 232, 3) := by decide +kernel
theorem d_Ho_share_81 : decode prog_1_method_19_code 81 = .ok (.iload_n 2, 1) := by decide +kernel
theorem d_Ho_share_82 : decode prog_1_method_19_code 82 = .ok (.iaload, 1) := by decide +kernel
theorem d_Ho_share_83 : decode prog_1_method_19_code 83 = .ok (.ireturn, 1) := by decide +kernel
theorem d_Ho_share_84 : decode prog_1_method_19_code 84 = .ok (.aload 4, 2) := by decide +kernel
theorem d_Ho_share_86 : decode prog_1_method_19_code 86 = .ok (.getfield 235, 3) := by decide +kernel
theorem d_Ho_share_89 : decode prog_1_method_19_code 89 = .ok (.iload_n 2, 1) := by decide +kernel
theorem d_Ho_share_90 : decode prog_1_method_19_code 90 = .ok (.iaload, 1) := by decide +kernel
theorem d_Ho_share_91 : decode prog_1_method_19_code 91 = .ok (.ireturn, 1) := by decide +kernel
theorem d_Ho_share_92 : decode prog_1_method_19_code 92 = .ok (.aload 4, 2) := by decide +kernel
theorem d_Ho_share_94 : decode prog_1_method_19_code 94 = .ok (.iload_n 2, 1) := by decide +kernel
theorem d_Ho_share_95 : decode prog_1_method_19_code 95 = .ok (.iload_n 3, 1) := by decide +kernel
theorem d_Ho_share_96 : decode prog_1_method_19_code 96 = .ok (.iconst 3, 1) := by decide +kernel
theorem d_Ho_share_97 : decode prog_1_method_19_code 97 = .ok (.isub, 1) := by decide +kernel
theorem d_Ho_share_98 : decode prog_1_method_19_code 98 = .ok (.invokevirtual 238, 3) := by decide +kernel
theorem d_Ho_share_101 : decode prog_1_method_19_code 101 = .ok (.ireturn, 1) := by decide +kernel
theorem d_Sh_shareByte_0 : decode prog_8_method_7_code 0 = .ok (.iload_n 2, 1) := by decide +kernel
theorem d_Sh_shareByte_1 : decode prog_8_method_7_code 1 = .ok (.aload_n 0, 1) := by decide +kernel
theorem d_Sh_shareByte_2 : decode prog_8_method_7_code 2 = .ok (.getfield 18, 3) := by decide +kernel
theorem d_Sh_shareByte_5 : decode prog_8_method_7_code 5 = .ok (.iload_n 1, 1) := by decide +kernel
theorem d_Sh_shareByte_6 : decode prog_8_method_7_code 6 = .ok (.iaload, 1) := by decide +kernel
theorem d_Sh_shareByte_7 : decode prog_8_method_7_code 7 = .ok (.invokestatic 29, 3) := by decide +kernel
theorem d_Sh_shareByte_10 : decode prog_8_method_7_code 10 = .ok (.if_icmp .lt 5, 3) := by decide +kernel
theorem d_Sh_shareByte_13 : decode prog_8_method_7_code 13 = .ok (.iconst (-1), 1) := by decide +kernel
theorem d_Sh_shareByte_14 : decode prog_8_method_7_code 14 = .ok (.ireturn, 1) := by decide +kernel
theorem d_Sh_shareByte_15 : decode prog_8_method_7_code 15 = .ok (.aload_n 0, 1) := by decide +kernel
theorem d_Sh_shareByte_16 : decode prog_8_method_7_code 16 = .ok (.getfield 21, 3) := by decide +kernel
theorem d_Sh_shareByte_19 : decode prog_8_method_7_code 19 = .ok (.iload_n 1, 1) := by decide +kernel
theorem d_Sh_shareByte_20 : decode prog_8_method_7_code 20 = .ok (.laload, 1) := by decide +kernel
theorem d_Sh_shareByte_21 : decode prog_8_method_7_code 21 = .ok (.bipush 8, 2) := by decide +kernel
theorem d_Sh_shareByte_23 : decode prog_8_method_7_code 23 = .ok (.iload_n 2, 1) := by decide +kernel
theorem d_Sh_shareByte_24 : decode prog_8_method_7_code 24 = .ok (.imul, 1) := by decide +kernel
theorem d_Sh_shareByte_25 : decode prog_8_method_7_code 25 = .ok (.lushr, 1) := by decide +kernel
theorem d_Sh_shareByte_26 : decode prog_8_method_7_code 26 = .ok (.ldc2_w 35, 3) := by decide +kernel
theorem d_Sh_shareByte_29 : decode prog_8_method_7_code 29 = .ok (.land, 1) := by decide +kernel
theorem d_Sh_shareByte_30 : decode prog_8_method_7_code 30 = .ok (.l2i, 1) := by decide +kernel
theorem d_Sh_shareByte_31 : decode prog_8_method_7_code 31 = .ok (.ireturn, 1) := by decide +kernel
end
section
theorem d_La_campaign_0 : decode method_3_code 0 = .ok (.aload_n 2, 1) := by decide +kernel
theorem d_La_campaign_1 : decode method_3_code 1 = .ok (.iconst 0, 1) := by decide +kernel
theorem d_La_campaign_2 : decode method_3_code 2 = .ok (.aload_n 0, 1) := by decide +kernel
theorem d_La_campaign_3 : decode method_3_code 3 = .ok (.iload_n 1, 1) := by decide +kernel
theorem d_La_campaign_4 : decode method_3_code 4 = .ok (.invokevirtual 7, 3) := by decide +kernel
theorem d_La_campaign_7 : decode method_3_code 7 = .ok (.i2l, 1) := by decide +kernel
theorem d_La_campaign_8 : decode method_3_code 8 = .ok (.lastore, 1) := by decide +kernel
theorem d_La_campaign_9 : decode method_3_code 9 = .ok (.goto 6, 3) := by decide +kernel
theorem d_La_campaign_12 : decode method_3_code 12 = .ok (.astore_n 3, 1) := by decide +kernel
theorem d_La_campaign_13 : decode method_3_code 13 = .ok (.iconst 1, 1) := by decide +kernel
theorem d_La_campaign_14 : decode method_3_code 14 = .ok (.ireturn, 1) := by decide +kernel
theorem d_La_campaign_15 : decode method_3_code 15 = .ok (.iconst 0, 1) := by decide +kernel
theorem d_La_campaign_16 : decode method_3_code 16 = .ok (.ireturn, 1) := by decide +kernel
theorem d_La_propose_0 : decode method_4_code 0 = .ok (.aload_n 2, 1) := by decide +kernel
theorem d_La_propose_1 : decode method_4_code 1 = .ok (.iconst 0, 1) := by decide +kernel
theorem d_La_propose_2 : decode method_4_code 2 = .ok (.aload_n 0, 1) := by decide +kernel
theorem d_La_propose_3 : decode method_4_code 3 = .ok (.iload_n 1, 1) := by decide +kernel
theorem d_La_propose_4 : decode method_4_code 4 = .ok (.invokevirtual 15, 3) := by decide +kernel
theorem d_La_propose_7 : decode method_4_code 7 = .ok (.i2l, 1) := by decide +kernel
theorem d_La_propose_8 : decode method_4_code 8 = .ok (.lastore, 1) := by decide +kernel
theorem d_La_propose_9 : decode method_4_code 9 = .ok (.goto 9, 3) := by decide +kernel
theorem d_La_propose_12 : decode method_4_code 12 = .ok (.astore_n 3, 1) := by decide +kernel
theorem d_La_propose_13 : decode method_4_code 13 = .ok (.iconst 1, 1) := by decide +kernel
theorem d_La_propose_14 : decode method_4_code 14 = .ok (.ireturn, 1) := by decide +kernel
theorem d_La_propose_15 : decode method_4_code 15 = .ok (.astore_n 3, 1) := by decide +kernel
theorem d_La_propose_16 : decode method_4_code 16 = .ok (.iconst 2, 1) := by decide +kernel
theorem d_La_propose_17 : decode method_4_code 17 = .ok (.ireturn, 1) := by decide +kernel
theorem d_La_propose_18 : decode method_4_code 18 = .ok (.iconst 0, 1) := by decide +kernel
theorem d_La_propose_19 : decode method_4_code 19 = .ok (.ireturn, 1) := by decide +kernel
theorem d_La_resend_0 : decode method_5_code 0 = .ok (.aload_n 2, 1) := by decide +kernel
theorem d_La_resend_1 : decode method_5_code 1 = .ok (.iconst 0, 1) := by decide +kernel
theorem d_La_resend_2 : decode method_5_code 2 = .ok (.aload_n 0, 1) := by decide +kernel
theorem d_La_resend_3 : decode method_5_code 3 = .ok (.iload_n 1, 1) := by decide +kernel
theorem d_La_resend_4 : decode method_5_code 4 = .ok (.invokevirtual 20, 3) := by decide +kernel
theorem d_La_resend_7 : decode method_5_code 7 = .ok (.i2l, 1) := by decide +kernel
theorem d_La_resend_8 : decode method_5_code 8 = .ok (.lastore, 1) := by decide +kernel
theorem d_La_resend_9 : decode method_5_code 9 = .ok (.goto 6, 3) := by decide +kernel
theorem d_La_resend_12 : decode method_5_code 12 = .ok (.astore_n 3, 1) := by decide +kernel
theorem d_La_resend_13 : decode method_5_code 13 = .ok (.iconst 1, 1) := by decide +kernel
theorem d_La_resend_14 : decode method_5_code 14 = .ok (.ireturn, 1) := by decide +kernel
theorem d_La_resend_15 : decode method_5_code 15 = .ok (.iconst 0, 1) := by decide +kernel
theorem d_La_resend_16 : decode method_5_code 16 = .ok (.ireturn, 1) := by decide +kernel
theorem d_La_deliver_0 : decode method_6_code 0 = .ok (.aload_n 2, 1) := by decide +kernel
theorem d_La_deliver_1 : decode method_6_code 1 = .ok (.iconst 0, 1) := by decide +kernel
theorem d_La_deliver_2 : decode method_6_code 2 = .ok (.aload_n 0, 1) := by decide +kernel
theorem d_La_deliver_3 : decode method_6_code 3 = .ok (.iload_n 1, 1) := by decide +kernel
theorem d_La_deliver_4 : decode method_6_code 4 = .ok (.invokevirtual 23, 3) := by decide +kernel
theorem d_La_deliver_7 : decode method_6_code 7 = .ok (.i2l, 1) := by decide +kernel
theorem d_La_deliver_8 : decode method_6_code 8 = .ok (.lastore, 1) := by decide +kernel
theorem d_La_deliver_9 : decode method_6_code 9 = .ok (.goto 6, 3) := by decide +kernel
theorem d_La_deliver_12 : decode method_6_code 12 = .ok (.astore_n 3, 1) := by decide +kernel
theorem d_La_deliver_13 : decode method_6_code 13 = .ok (.iconst 1, 1) := by decide +kernel
theorem d_La_deliver_14 : decode method_6_code 14 = .ok (.ireturn, 1) := by decide +kernel
theorem d_La_deliver_15 : decode method_6_code 15 = .ok (.iconst 0, 1) := by decide +kernel
theorem d_La_deliver_16 : decode method_6_code 16 = .ok (.ireturn, 1) := by decide +kernel
theorem d_La_drop_0 : decode method_7_code 0 = .ok (.aload_n 0, 1) := by decide +kernel
theorem d_La_drop_1 : decode method_7_code 1 = .ok (.iload_n 1, 1) := by decide +kernel
theorem d_La_drop_2 : decode method_7_code 2 = .ok (.invokevirtual 28, 3) := by decide +kernel
theorem d_La_drop_5 : decode method_7_code 5 = .ok (.goto 6, 3) := by decide +kernel
theorem d_La_drop_8 : decode method_7_code 8 = .ok (.astore_n 2, 1) := by decide +kernel
theorem d_La_drop_9 : decode method_7_code 9 = .ok (.iconst 1, 1) := by decide +kernel
theorem d_La_drop_10 : decode method_7_code 10 = .ok (.ireturn, 1) := by decide +kernel
theorem d_La_drop_11 : decode method_7_code 11 = .ok (.iconst 0, 1) := by decide +kernel
theorem d_La_drop_12 : decode method_7_code 12 = .ok (.ireturn, 1) := by decide +kernel
theorem d_La_twin_0 : decode method_8_code 0 = .ok (.aload_n 0, 1) := by decide +kernel
theorem d_La_twin_1 : decode method_8_code 1 = .ok (.iload_n 1, 1) := by decide +kernel
theorem d_La_twin_2 : decode method_8_code 2 = .ok (.invokevirtual 32, 3) := by decide +kernel
theorem d_La_twin_5 : decode method_8_code 5 = .ok (.goto 9, 3) := by decide +kernel
theorem d_La_twin_8 : decode method_8_code 8 = .ok (.astore_n 2, 1) := by decide +kernel
theorem d_La_twin_9 : decode method_8_code 9 = .ok (.iconst 1, 1) := by decide +kernel
theorem d_La_twin_10 : decode method_8_code 10 = .ok (.ireturn, 1) := by decide +kernel
theorem d_La_twin_11 : decode method_8_code 11 = .ok (.astore_n 2, 1) := by decide +kernel
theorem d_La_twin_12 : decode method_8_code 12 = .ok (.iconst 2, 1) := by decide +kernel
theorem d_La_twin_13 : decode method_8_code 13 = .ok (.ireturn, 1) := by decide +kernel
theorem d_La_twin_14 : decode method_8_code 14 = .ok (.iconst 0, 1) := by decide +kernel
theorem d_La_twin_15 : decode method_8_code 15 = .ok (.ireturn, 1) := by decide +kernel
theorem d_La_letter_0 : decode method_9_code 0 = .ok (.aload_n 3, 1) := by decide +kernel
theorem d_La_letter_1 : decode method_9_code 1 = .ok (.iconst 0, 1) := by decide +kernel
theorem d_La_letter_2 : decode method_9_code 2 = .ok (.aload_n 0, 1) := by decide +kernel
theorem d_La_letter_3 : decode method_9_code 3 = .ok (.iload_n 1, 1) := by decide +kernel
theorem d_La_letter_4 : decode method_9_code 4 = .ok (.iload_n 2, 1) := by decide +kernel
theorem d_La_letter_5 : decode method_9_code 5 = .ok (.invokevirtual 35, 3) := by decide +kernel
theorem d_La_letter_8 : decode method_9_code 8 = .ok (.i2l, 1) := by decide +kernel
theorem d_La_letter_9 : decode method_9_code 9 = .ok (.lastore, 1) := by decide +kernel
theorem d_La_letter_10 : decode method_9_code 10 = .ok (.goto 11, 3) := by decide +kernel
theorem d_La_letter_13 : decode method_9_code 13 = .ok (.astore 4, 2) := by decide +kernel
theorem d_La_letter_15 : decode method_9_code 15 = .ok (.iconst 1, 1) := by decide +kernel
theorem d_La_letter_16 : decode method_9_code 16 = .ok (.ireturn, 1) := by decide +kernel
theorem d_La_letter_17 : decode method_9_code 17 = .ok (.astore 4, 2) := by decide +kernel
theorem d_La_letter_19 : decode method_9_code 19 = .ok (.iconst 2, 1) := by decide +kernel
theorem d_La_letter_20 : decode method_9_code 20 = .ok (.ireturn, 1) := by decide +kernel
theorem d_La_letter_21 : decode method_9_code 21 = .ok (.iconst 0, 1) := by decide +kernel
theorem d_La_letter_22 : decode method_9_code 22 = .ok (.ireturn, 1) := by decide +kernel
theorem d_La_up_0 : decode method_10_code 0 = .ok (.aload_n 3, 1) := by decide +kernel
theorem d_La_up_1 : decode method_10_code 1 = .ok (.iconst 0, 1) := by decide +kernel
theorem d_La_up_2 : decode method_10_code 2 = .ok (.aload_n 0, 1) := by decide +kernel
theorem d_La_up_3 : decode method_10_code 3 = .ok (.iload_n 1, 1) := by decide +kernel
theorem d_La_up_4 : decode method_10_code 4 = .ok (.iload_n 2, 1) := by decide +kernel
theorem d_La_up_5 : decode method_10_code 5 = .ok (.invokevirtual 39, 3) := by decide +kernel
theorem d_La_up_8 : decode method_10_code 8 = .ok (.ifCond .eq 7, 3) := by decide +kernel
theorem d_La_up_11 : decode method_10_code 11 = .ok (.lconst 1, 1) := by decide +kernel
theorem d_La_up_12 : decode method_10_code 12 = .ok (.goto 4, 3) := by decide +kernel
theorem d_La_up_15 : decode method_10_code 15 = .ok (.lconst 0, 1) := by decide +kernel
theorem d_La_up_16 : decode method_10_code 16 = .ok (.lastore, 1) := by decide +kernel
theorem d_La_up_17 : decode method_10_code 17 = .ok (.goto 7, 3) := by decide +kernel
theorem d_La_up_20 : decode method_10_code 20 = .ok (.astore 4, 2) := by decide +kernel
theorem d_La_up_22 : decode method_10_code 22 = .ok (.iconst 1, 1) := by decide +kernel
theorem d_La_up_23 : decode method_10_code 23 = .ok (.ireturn, 1) := by decide +kernel
theorem d_La_up_24 : decode method_10_code 24 = .ok (.iconst 0, 1) := by decide +kernel
theorem d_La_up_25 : decode method_10_code 25 = .ok (.ireturn, 1) := by decide +kernel
theorem d_La_wipe_0 : decode method_11_code 0 = .ok (.aload_n 0, 1) := by decide +kernel
theorem d_La_wipe_1 : decode method_11_code 1 = .ok (.iload_n 1, 1) := by decide +kernel
theorem d_La_wipe_2 : decode method_11_code 2 = .ok (.invokevirtual 43, 3) := by decide +kernel
theorem d_La_wipe_5 : decode method_11_code 5 = .ok (.goto 6, 3) := by decide +kernel
theorem d_La_wipe_8 : decode method_11_code 8 = .ok (.astore_n 2, 1) := by decide +kernel
theorem d_La_wipe_9 : decode method_11_code 9 = .ok (.iconst 1, 1) := by decide +kernel
theorem d_La_wipe_10 : decode method_11_code 10 = .ok (.ireturn, 1) := by decide +kernel
theorem d_La_wipe_11 : decode method_11_code 11 = .ok (.iconst 0, 1) := by decide +kernel
theorem d_La_wipe_12 : decode method_11_code 12 = .ok (.ireturn, 1) := by decide +kernel
theorem d_La_catchUp_0 : decode method_12_code 0 = .ok (.aload_n 3, 1) := by decide +kernel
theorem d_La_catchUp_1 : decode method_12_code 1 = .ok (.iconst 0, 1) := by decide +kernel
theorem d_La_catchUp_2 : decode method_12_code 2 = .ok (.aload_n 0, 1) := by decide +kernel
theorem d_La_catchUp_3 : decode method_12_code 3 = .ok (.iload_n 1, 1) := by decide +kernel
theorem d_La_catchUp_4 : decode method_12_code 4 = .ok (.iload_n 2, 1) := by decide +kernel
theorem d_La_catchUp_5 : decode method_12_code 5 = .ok (.invokevirtual 46, 3) := by decide +kernel
theorem d_La_catchUp_8 : decode method_12_code 8 = .ok (.i2l, 1) := by decide +kernel
theorem d_La_catchUp_9 : decode method_12_code 9 = .ok (.lastore, 1) := by decide +kernel
theorem d_La_catchUp_10 : decode method_12_code 10 = .ok (.goto 11, 3) := by decide +kernel
theorem d_La_catchUp_13 : decode method_12_code 13 = .ok (.astore 4, 2) := by decide +kernel
theorem d_La_catchUp_15 : decode method_12_code 15 = .ok (.iconst 1, 1) := by decide +kernel
theorem d_La_catchUp_16 : decode method_12_code 16 = .ok (.ireturn, 1) := by decide +kernel
theorem d_La_catchUp_17 : decode method_12_code 17 = .ok (.astore 4, 2) := by decide +kernel
theorem d_La_catchUp_19 : decode method_12_code 19 = .ok (.iconst 2, 1) := by decide +kernel
theorem d_La_catchUp_20 : decode method_12_code 20 = .ok (.ireturn, 1) := by decide +kernel
theorem d_La_catchUp_21 : decode method_12_code 21 = .ok (.iconst 0, 1) := by decide +kernel
theorem d_La_catchUp_22 : decode method_12_code 22 = .ok (.ireturn, 1) := by decide +kernel
theorem d_La_decided_0 : decode method_13_code 0 = .ok (.aload_n 3, 1) := by decide +kernel
theorem d_La_decided_1 : decode method_13_code 1 = .ok (.iconst 0, 1) := by decide +kernel
theorem d_La_decided_2 : decode method_13_code 2 = .ok (.aload_n 0, 1) := by decide +kernel
theorem d_La_decided_3 : decode method_13_code 3 = .ok (.iload_n 1, 1) := by decide +kernel
theorem d_La_decided_4 : decode method_13_code 4 = .ok (.iload_n 2, 1) := by decide +kernel
theorem d_La_decided_5 : decode method_13_code 5 = .ok (.invokevirtual 49, 3) := by decide +kernel
theorem d_La_decided_8 : decode method_13_code 8 = .ok (.i2l, 1) := by decide +kernel
theorem d_La_decided_9 : decode method_13_code 9 = .ok (.lastore, 1) := by decide +kernel
theorem d_La_decided_10 : decode method_13_code 10 = .ok (.goto 7, 3) := by decide +kernel
theorem d_La_decided_13 : decode method_13_code 13 = .ok (.astore 4, 2) := by decide +kernel
theorem d_La_decided_15 : decode method_13_code 15 = .ok (.iconst 1, 1) := by decide +kernel
theorem d_La_decided_16 : decode method_13_code 16 = .ok (.ireturn, 1) := by decide +kernel
theorem d_La_decided_17 : decode method_13_code 17 = .ok (.iconst 0, 1) := by decide +kernel
theorem d_La_decided_18 : decode method_13_code 18 = .ok (.ireturn, 1) := by decide +kernel
theorem d_La_read_0 : decode method_14_code 0 = .ok (.aload_n 3, 1) := by decide +kernel
theorem d_La_read_1 : decode method_14_code 1 = .ok (.iconst 0, 1) := by decide +kernel
theorem d_La_read_2 : decode method_14_code 2 = .ok (.aload_n 0, 1) := by decide +kernel
theorem d_La_read_3 : decode method_14_code 3 = .ok (.iload_n 1, 1) := by decide +kernel
theorem d_La_read_4 : decode method_14_code 4 = .ok (.iload_n 2, 1) := by decide +kernel
theorem d_La_read_5 : decode method_14_code 5 = .ok (.invokevirtual 52, 3) := by decide +kernel
theorem d_La_read_8 : decode method_14_code 8 = .ok (.i2l, 1) := by decide +kernel
theorem d_La_read_9 : decode method_14_code 9 = .ok (.lastore, 1) := by decide +kernel
theorem d_La_read_10 : decode method_14_code 10 = .ok (.goto 15, 3) := by decide +kernel
theorem d_La_read_13 : decode method_14_code 13 = .ok (.astore 4, 2) := by decide +kernel
theorem d_La_read_15 : decode method_14_code 15 = .ok (.iconst 1, 1) := by decide +kernel
theorem d_La_read_16 : decode method_14_code 16 = .ok (.ireturn, 1) := by decide +kernel
theorem d_La_read_17 : decode method_14_code 17 = .ok (.astore 4, 2) := by decide +kernel
theorem d_La_read_19 : decode method_14_code 19 = .ok (.iconst 2, 1) := by decide +kernel
theorem d_La_read_20 : decode method_14_code 20 = .ok (.ireturn, 1) := by decide +kernel
theorem d_La_read_21 : decode method_14_code 21 = .ok (.astore 4, 2) := by decide +kernel
theorem d_La_read_23 : decode method_14_code 23 = .ok (.iconst 3, 1) := by decide +kernel
theorem d_La_read_24 : decode method_14_code 24 = .ok (.ireturn, 1) := by decide +kernel
theorem d_La_read_25 : decode method_14_code 25 = .ok (.iconst 0, 1) := by decide +kernel
theorem d_La_read_26 : decode method_14_code 26 = .ok (.ireturn, 1) := by decide +kernel
theorem d_La_readByte_0 : decode method_15_code 0 = .ok (.aload_n 2, 1) := by decide +kernel
theorem d_La_readByte_1 : decode method_15_code 1 = .ok (.iconst 0, 1) := by decide +kernel
theorem d_La_readByte_2 : decode method_15_code 2 = .ok (.aload_n 0, 1) := by decide +kernel
theorem d_La_readByte_3 : decode method_15_code 3 = .ok (.iload_n 1, 1) := by decide +kernel
theorem d_La_readByte_4 : decode method_15_code 4 = .ok (.invokevirtual 57, 3) := by decide +kernel
theorem d_La_readByte_7 : decode method_15_code 7 = .ok (.i2l, 1) := by decide +kernel
theorem d_La_readByte_8 : decode method_15_code 8 = .ok (.lastore, 1) := by decide +kernel
theorem d_La_readByte_9 : decode method_15_code 9 = .ok (.goto 6, 3) := by decide +kernel
theorem d_La_readByte_12 : decode method_15_code 12 = .ok (.astore_n 3, 1) := by decide +kernel
theorem d_La_readByte_13 : decode method_15_code 13 = .ok (.iconst 1, 1) := by decide +kernel
theorem d_La_readByte_14 : decode method_15_code 14 = .ok (.ireturn, 1) := by decide +kernel
theorem d_La_readByte_15 : decode method_15_code 15 = .ok (.iconst 0, 1) := by decide +kernel
theorem d_La_readByte_16 : decode method_15_code 16 = .ok (.ireturn, 1) := by decide +kernel
theorem d_La_state_0 : decode method_16_code 0 = .ok (.aload_n 3, 1) := by decide +kernel
theorem d_La_state_1 : decode method_16_code 1 = .ok (.iconst 0, 1) := by decide +kernel
theorem d_La_state_2 : decode method_16_code 2 = .ok (.aload_n 0, 1) := by decide +kernel
theorem d_La_state_3 : decode method_16_code 3 = .ok (.iload_n 1, 1) := by decide +kernel
theorem d_La_state_4 : decode method_16_code 4 = .ok (.iload_n 2, 1) := by decide +kernel
theorem d_La_state_5 : decode method_16_code 5 = .ok (.invokevirtual 60, 3) := by decide +kernel
theorem d_La_state_8 : decode method_16_code 8 = .ok (.i2l, 1) := by decide +kernel
theorem d_La_state_9 : decode method_16_code 9 = .ok (.lastore, 1) := by decide +kernel
theorem d_La_state_10 : decode method_16_code 10 = .ok (.goto 7, 3) := by decide +kernel
theorem d_La_state_13 : decode method_16_code 13 = .ok (.astore 4, 2) := by decide +kernel
theorem d_La_state_15 : decode method_16_code 15 = .ok (.iconst 1, 1) := by decide +kernel
theorem d_La_state_16 : decode method_16_code 16 = .ok (.ireturn, 1) := by decide +kernel
theorem d_La_state_17 : decode method_16_code 17 = .ok (.iconst 0, 1) := by decide +kernel
theorem d_La_state_18 : decode method_16_code 18 = .ok (.ireturn, 1) := by decide +kernel
theorem d_La_station_0 : decode method_17_code 0 = .ok (.aload_n 3, 1) := by decide +kernel
theorem d_La_station_1 : decode method_17_code 1 = .ok (.iconst 0, 1) := by decide +kernel
theorem d_La_station_2 : decode method_17_code 2 = .ok (.aload_n 0, 1) := by decide +kernel
theorem d_La_station_3 : decode method_17_code 3 = .ok (.iload_n 1, 1) := by decide +kernel
theorem d_La_station_4 : decode method_17_code 4 = .ok (.iload_n 2, 1) := by decide +kernel
theorem d_La_station_5 : decode method_17_code 5 = .ok (.invokevirtual 63, 3) := by decide +kernel
theorem d_La_station_8 : decode method_17_code 8 = .ok (.i2l, 1) := by decide +kernel
theorem d_La_station_9 : decode method_17_code 9 = .ok (.lastore, 1) := by decide +kernel
theorem d_La_station_10 : decode method_17_code 10 = .ok (.goto 7, 3) := by decide +kernel
theorem d_La_station_13 : decode method_17_code 13 = .ok (.astore 4, 2) := by decide +kernel
theorem d_La_station_15 : decode method_17_code 15 = .ok (.iconst 1, 1) := by decide +kernel
theorem d_La_station_16 : decode method_17_code 16 = .ok (.ireturn, 1) := by decide +kernel
theorem d_La_station_17 : decode method_17_code 17 = .ok (.iconst 0, 1) := by decide +kernel
theorem d_La_station_18 : decode method_17_code 18 = .ok (.ireturn, 1) := by decide +kernel
theorem d_La_share_0 : decode method_18_code 0 = .ok (.aload 4, 2) := by decide +kernel
theorem d_La_share_2 : decode method_18_code 2 = .ok (.iconst 0, 1) := by decide +kernel
theorem d_La_share_3 : decode method_18_code 3 = .ok (.aload_n 0, 1) := by decide +kernel
theorem d_La_share_4 : decode method_18_code 4 = .ok (.iload_n 1, 1) := by decide +kernel
theorem d_La_share_5 : decode method_18_code 5 = .ok (.iload_n 2, 1) := by decide +kernel
theorem d_La_share_6 : decode method_18_code 6 = .ok (.iload_n 3, 1) := by decide +kernel
theorem d_La_share_7 : decode method_18_code 7 = .ok (.invokevirtual 66, 3) := by decide +kernel
theorem d_La_share_10 : decode method_18_code 10 = .ok (.i2l, 1) := by decide +kernel
theorem d_La_share_11 : decode method_18_code 11 = .ok (.lastore, 1) := by decide +kernel
theorem d_La_share_12 : decode method_18_code 12 = .ok (.goto 7, 3) := by decide +kernel
theorem d_La_share_15 : decode method_18_code 15 = .ok (.astore 5, 2) := by decide +kernel
theorem d_La_share_17 : decode method_18_code 17 = .ok (.iconst 1, 1) := by decide +kernel
theorem d_La_share_18 : decode method_18_code 18 = .ok (.ireturn, 1) := by decide +kernel
theorem d_La_share_19 : decode method_18_code 19 = .ok (.iconst 0, 1) := by decide +kernel
theorem d_La_share_20 : decode method_18_code 20 = .ok (.ireturn, 1) := by decide +kernel
theorem d_Mo_init_0 : decode prog_12_method_1_code 0 = .ok (.aload_n 0, 1) := by decide +kernel
theorem d_Mo_init_1 : decode prog_12_method_1_code 1 = .ok (.invokespecial 1, 3) := by decide +kernel
theorem d_Mo_init_4 : decode prog_12_method_1_code 4 = .ok (.aload_n 0, 1) := by decide +kernel
theorem d_Mo_init_5 : decode prog_12_method_1_code 5 = .ok (.iconst 0, 1) := by decide +kernel
theorem d_Mo_init_6 : decode prog_12_method_1_code 6 = .ok (.putfield 7, 3) := by decide +kernel
theorem d_Mo_init_9 : decode prog_12_method_1_code 9 = .ok (.aload_n 0, 1) := by decide +kernel
theorem d_Mo_init_10 : decode prog_12_method_1_code 10 = .ok (.bipush 7, 2) := by decide +kernel
theorem d_Mo_init_12 : decode prog_12_method_1_code 12 = .ok (.newarray .int, 2) := by decide +kernel
theorem d_Mo_init_14 : decode prog_12_method_1_code 14 = .ok (.putfield 13, 3) := by decide +kernel
theorem d_Mo_init_17 : decode prog_12_method_1_code 17 = .ok (.aload_n 0, 1) := by decide +kernel
theorem d_Mo_init_18 : decode prog_12_method_1_code 18 = .ok (.bipush 7, 2) := by decide +kernel
theorem d_Mo_init_20 : decode prog_12_method_1_code 20 = .ok (.newarray .boolean, 2) := by decide +kernel
theorem d_Mo_init_22 : decode prog_12_method_1_code 22 = .ok (.putfield 17, 3) := by decide +kernel
theorem d_Mo_init_25 : decode prog_12_method_1_code 25 = .ok (.aload_n 0, 1) := by decide +kernel
theorem d_Mo_init_26 : decode prog_12_method_1_code 26 = .ok (.bipush 7, 2) := by decide +kernel
theorem d_Mo_init_28 : decode prog_12_method_1_code 28 = .ok (.newarray .boolean, 2) := by decide +kernel
theorem d_Mo_init_30 : decode prog_12_method_1_code 30 = .ok (.putfield 21, 3) := by decide +kernel
theorem d_Mo_init_33 : decode prog_12_method_1_code 33 = .ok (.aload_n 0, 1) := by decide +kernel
theorem d_Mo_init_34 : decode prog_12_method_1_code 34 = .ok (.sipush 616, 3) := by decide +kernel
theorem d_Mo_init_37 : decode prog_12_method_1_code 37 = .ok (.newarray .int, 2) := by decide +kernel
theorem d_Mo_init_39 : decode prog_12_method_1_code 39 = .ok (.putfield 24, 3) := by decide +kernel
theorem d_Mo_init_42 : decode prog_12_method_1_code 42 = .ok (.aload_n 0, 1) := by decide +kernel
theorem d_Mo_init_43 : decode prog_12_method_1_code 43 = .ok (.iconst 0, 1) := by decide +kernel
theorem d_Mo_init_44 : decode prog_12_method_1_code 44 = .ok (.putfield 27, 3) := by decide +kernel
theorem d_Mo_init_47 : decode prog_12_method_1_code 47 = .ok (.aload_n 0, 1) := by decide +kernel
theorem d_Mo_init_48 : decode prog_12_method_1_code 48 = .ok (.sipush 420, 3) := by decide +kernel
theorem d_Mo_init_51 : decode prog_12_method_1_code 51 = .ok (.newarray .int, 2) := by decide +kernel
theorem d_Mo_init_53 : decode prog_12_method_1_code 53 = .ok (.putfield 30, 3) := by decide +kernel
theorem d_Mo_init_56 : decode prog_12_method_1_code 56 = .ok (.aload_n 0, 1) := by decide +kernel
theorem d_Mo_init_57 : decode prog_12_method_1_code 57 = .ok (.sipush 5280, 3) := by decide +kernel
theorem d_Mo_init_60 : decode prog_12_method_1_code 60 = .ok (.newarray .int, 2) := by decide +kernel
theorem d_Mo_init_62 : decode prog_12_method_1_code 62 = .ok (.putfield 33, 3) := by decide +kernel
theorem d_Mo_init_65 : decode prog_12_method_1_code 65 = .ok (.aload_n 0, 1) := by decide +kernel
theorem d_Mo_init_66 : decode prog_12_method_1_code 66 = .ok (.iconst 2, 1) := by decide +kernel
theorem d_Mo_init_67 : decode prog_12_method_1_code 67 = .ok (.newarray .int, 2) := by decide +kernel
theorem d_Mo_init_69 : decode prog_12_method_1_code 69 = .ok (.putfield 36, 3) := by decide +kernel
theorem d_Mo_init_72 : decode prog_12_method_1_code 72 = .ok (.aload_n 0, 1) := by decide +kernel
theorem d_Mo_init_73 : decode prog_12_method_1_code 73 = .ok (.iconst 2, 1) := by decide +kernel
theorem d_Mo_init_74 : decode prog_12_method_1_code 74 = .ok (.newarray .int, 2) := by decide +kernel
theorem d_Mo_init_76 : decode prog_12_method_1_code 76 = .ok (.putfield 39, 3) := by decide +kernel
theorem d_Mo_init_79 : decode prog_12_method_1_code 79 = .ok (.aload_n 0, 1) := by decide +kernel
theorem d_Mo_init_80 : decode prog_12_method_1_code 80 = .ok (.iconst 2, 1) := by decide +kernel
theorem d_Mo_init_81 : decode prog_12_method_1_code 81 = .ok (.newarray .int, 2) := by decide +kernel
theorem d_Mo_init_83 : decode prog_12_method_1_code 83 = .ok (.putfield 42, 3) := by decide +kernel
theorem d_Mo_init_86 : decode prog_12_method_1_code 86 = .ok (.aload_n 0, 1) := by decide +kernel
theorem d_Mo_init_87 : decode prog_12_method_1_code 87 = .ok (.sipush 1232, 3) := by decide +kernel
theorem d_Mo_init_90 : decode prog_12_method_1_code 90 = .ok (.newarray .int, 2) := by decide +kernel
theorem d_Mo_init_92 : decode prog_12_method_1_code 92 = .ok (.putfield 45, 3) := by decide +kernel
theorem d_Mo_init_95 : decode prog_12_method_1_code 95 = .ok (.aload_n 0, 1) := by decide +kernel
theorem d_Mo_init_96 : decode prog_12_method_1_code 96 = .ok (.bipush 48, 2) := by decide +kernel
theorem d_Mo_init_98 : decode prog_12_method_1_code 98 = .ok (.newarray .int, 2) := by decide +kernel
theorem d_Mo_init_100 : decode prog_12_method_1_code 100 = .ok (.putfield 48, 3) := by decide +kernel
theorem d_Mo_init_103 : decode prog_12_method_1_code 103 = .ok (.aload_n 0, 1) := by decide +kernel
theorem d_Mo_init_104 : decode prog_12_method_1_code 104 = .ok (.iconst 2, 1) := by decide +kernel
theorem d_Mo_init_105 : decode prog_12_method_1_code 105 = .ok (.newarray .int, 2) := by decide +kernel
theorem d_Mo_init_107 : decode prog_12_method_1_code 107 = .ok (.putfield 51, 3) := by decide +kernel
theorem d_Mo_init_110 : decode prog_12_method_1_code 110 = .ok (.aload_n 0, 1) := by decide +kernel
theorem d_Mo_init_111 : decode prog_12_method_1_code 111 = .ok (.bipush 16, 2) := by decide +kernel
theorem d_Mo_init_113 : decode prog_12_method_1_code 113 = .ok (.newarray .int, 2) := by decide +kernel
theorem d_Mo_init_115 : decode prog_12_method_1_code 115 = .ok (.putfield 54, 3) := by decide +kernel
theorem d_Mo_init_118 : decode prog_12_method_1_code 118 = .ok (.aload_n 0, 1) := by decide +kernel
theorem d_Mo_init_119 : decode prog_12_method_1_code 119 = .ok (.bipush 16, 2) := by decide +kernel
theorem d_Mo_init_121 : decode prog_12_method_1_code 121 = .ok (.newarray .int, 2) := by decide +kernel
theorem d_Mo_init_123 : decode prog_12_method_1_code 123 = .ok (.putfield 57, 3) := by decide +kernel
theorem d_Mo_init_126 : decode prog_12_method_1_code 126 = .ok (.aload_n 0, 1) := by decide +kernel
theorem d_Mo_init_127 : decode prog_12_method_1_code 127 = .ok (.bipush 16, 2) := by decide +kernel
theorem d_Mo_init_129 : decode prog_12_method_1_code 129 = .ok (.newarray .int, 2) := by decide +kernel
theorem d_Mo_init_131 : decode prog_12_method_1_code 131 = .ok (.putfield 60, 3) := by decide +kernel
theorem d_Mo_init_134 : decode prog_12_method_1_code 134 = .ok (.aload_n 0, 1) := by decide +kernel
theorem d_Mo_init_135 : decode prog_12_method_1_code 135 = .ok (.bipush 16, 2) := by decide +kernel
theorem d_Mo_init_137 : decode prog_12_method_1_code 137 = .ok (.newarray .int, 2) := by decide +kernel
theorem d_Mo_init_139 : decode prog_12_method_1_code 139 = .ok (.putfield 63, 3) := by decide +kernel
theorem d_Mo_init_142 : decode prog_12_method_1_code 142 = .ok (.aload_n 0, 1) := by decide +kernel
theorem d_Mo_init_143 : decode prog_12_method_1_code 143 = .ok (.sipush 384, 3) := by decide +kernel
theorem d_Mo_init_146 : decode prog_12_method_1_code 146 = .ok (.newarray .int, 2) := by decide +kernel
theorem d_Mo_init_148 : decode prog_12_method_1_code 148 = .ok (.putfield 66, 3) := by decide +kernel
theorem d_Mo_init_151 : decode prog_12_method_1_code 151 = .ok (.aload_n 0, 1) := by decide +kernel
theorem d_Mo_init_152 : decode prog_12_method_1_code 152 = .ok (.sipush 510, 3) := by decide +kernel
theorem d_Mo_init_155 : decode prog_12_method_1_code 155 = .ok (.newarray .int, 2) := by decide +kernel
theorem d_Mo_init_157 : decode prog_12_method_1_code 157 = .ok (.putfield 69, 3) := by decide +kernel
theorem d_Mo_init_160 : decode prog_12_method_1_code 160 = .ok (.aload_n 0, 1) := by decide +kernel
theorem d_Mo_init_161 : decode prog_12_method_1_code 161 = .ok (.sipush 256, 3) := by decide +kernel
theorem d_Mo_init_164 : decode prog_12_method_1_code 164 = .ok (.newarray .int, 2) := by decide +kernel
theorem d_Mo_init_166 : decode prog_12_method_1_code 166 = .ok (.putfield 72, 3) := by decide +kernel
theorem d_Mo_init_169 : decode prog_12_method_1_code 169 = .ok (.aload_n 0, 1) := by decide +kernel
theorem d_Mo_init_170 : decode prog_12_method_1_code 170 = .ok (.iconst 3, 1) := by decide +kernel
theorem d_Mo_init_171 : decode prog_12_method_1_code 171 = .ok (.newarray .int, 2) := by decide +kernel
theorem d_Mo_init_173 : decode prog_12_method_1_code 173 = .ok (.putfield 75, 3) := by decide +kernel
theorem d_Mo_init_176 : decode prog_12_method_1_code 176 = .ok (.aload_n 0, 1) := by decide +kernel
theorem d_Mo_init_177 : decode prog_12_method_1_code 177 = .ok (.bipush 24, 2) := by decide +kernel
theorem d_Mo_init_179 : decode prog_12_method_1_code 179 = .ok (.newarray .int, 2) := by decide +kernel
theorem d_Mo_init_181 : decode prog_12_method_1_code 181 = .ok (.putfield 78, 3) := by decide +kernel
theorem d_Mo_init_184 : decode prog_12_method_1_code 184 = .ok (.aload_n 0, 1) := by decide +kernel
theorem d_Mo_init_185 : decode prog_12_method_1_code 185 = .ok (.iconst 3, 1) := by decide +kernel
theorem d_Mo_init_186 : decode prog_12_method_1_code 186 = .ok (.newarray .int, 2) := by decide +kernel
theorem d_Mo_init_188 : decode prog_12_method_1_code 188 = .ok (.putfield 81, 3) := by decide +kernel
theorem d_Mo_init_191 : decode prog_12_method_1_code 191 = .ok (.aload_n 0, 1) := by decide +kernel
theorem d_Mo_init_192 : decode prog_12_method_1_code 192 = .ok (.bipush 24, 2) := by decide +kernel
theorem d_Mo_init_194 : decode prog_12_method_1_code 194 = .ok (.newarray .int, 2) := by decide +kernel
theorem d_Mo_init_196 : decode prog_12_method_1_code 196 = .ok (.putfield 84, 3) := by decide +kernel
theorem d_Mo_init_199 : decode prog_12_method_1_code 199 = .ok (.aload_n 0, 1) := by decide +kernel
theorem d_Mo_init_200 : decode prog_12_method_1_code 200 = .ok (.iconst 0, 1) := by decide +kernel
theorem d_Mo_init_201 : decode prog_12_method_1_code 201 = .ok (.putfield 87, 3) := by decide +kernel
theorem d_Mo_init_204 : decode prog_12_method_1_code 204 = .ok (.aload_n 0, 1) := by decide +kernel
theorem d_Mo_init_205 : decode prog_12_method_1_code 205 = .ok (.bipush 7, 2) := by decide +kernel
theorem d_Mo_init_207 : decode prog_12_method_1_code 207 = .ok (.newarray .int, 2) := by decide +kernel
theorem d_Mo_init_209 : decode prog_12_method_1_code 209 = .ok (.putfield 90, 3) := by decide +kernel
theorem d_Mo_init_212 : decode prog_12_method_1_code 212 = .ok (.aload_n 0, 1) := by decide +kernel
theorem d_Mo_init_213 : decode prog_12_method_1_code 213 = .ok (.bipush 88, 2) := by decide +kernel
theorem d_Mo_init_215 : decode prog_12_method_1_code 215 = .ok (.newarray .int, 2) := by decide +kernel
theorem d_Mo_init_217 : decode prog_12_method_1_code 217 = .ok (.putfield 93, 3) := by decide +kernel
theorem d_Mo_init_220 : decode prog_12_method_1_code 220 = .ok (.iconst 1, 1) := by decide +kernel
theorem d_Mo_init_221 : decode prog_12_method_1_code 221 = .ok (.istore_n 1, 1) := by decide +kernel
theorem d_Mo_init_222 : decode prog_12_method_1_code 222 = .ok (.iconst 0, 1) := by decide +kernel
theorem d_Mo_init_223 : decode prog_12_method_1_code 223 = .ok (.istore_n 2, 1) := by decide +kernel
theorem d_Mo_init_224 : decode prog_12_method_1_code 224 = .ok (.iload_n 2, 1) := by decide +kernel
theorem d_Mo_init_225 : decode prog_12_method_1_code 225 = .ok (.sipush 510, 3) := by decide +kernel
theorem d_Mo_init_228 : decode prog_12_method_1_code 228 = .ok (.if_icmp .ge 36, 3) := by decide +kernel
theorem d_Mo_init_231 : decode prog_12_method_1_code 231 = .ok (.aload_n 0, 1) := by decide +kernel
theorem d_Mo_init_232 : decode prog_12_method_1_code 232 = .ok (.getfield 69, 3) := by decide +kernel
theorem d_Mo_init_235 : decode prog_12_method_1_code 235 = .ok (.iload_n 2, 1) := by decide +kernel
theorem d_Mo_init_236 : decode prog_12_method_1_code 236 = .ok (.iload_n 1, 1) := by decide +kernel
theorem d_Mo_init_237 : decode prog_12_method_1_code 237 = .ok (.iastore, 1) := by decide +kernel
theorem d_Mo_init_238 : decode prog_12_method_1_code 238 = .ok (.iload_n 2, 1) := by decide +kernel
theorem d_Mo_init_239 : decode prog_12_method_1_code 239 = .ok (.sipush 255, 3) := by decide +kernel
theorem d_Mo_init_242 : decode prog_12_method_1_code 242 = .ok (.if_icmp .ge 10, 3) := by decide +kernel
theorem d_Mo_init_245 : decode prog_12_method_1_code 245 = .ok (.aload_n 0, 1) := by decide +kernel
theorem d_Mo_init_246 : decode prog_12_method_1_code 246 = .ok (.getfield 72, 3) := by decide +kernel
theorem d_Mo_init_249 : decode prog_12_method_1_code 249 = .ok (.iload_n 1, 1) := by decide +kernel
theorem d_Mo_init_250 : decode prog_12_method_1_code 250 = .ok (.iload_n 2, 1) := by decide +kernel
theorem d_Mo_init_251 : decode prog_12_method_1_code 251 = .ok (.iastore, 1) := by decide +kernel
theorem d_Mo_init_252 : decode prog_12_method_1_code 252 = .ok (.iload_n 1, 1) := by decide +kernel
theorem d_Mo_init_253 : decode prog_12_method_1_code 253 = .ok (.iconst 3, 1) := by decide +kernel
theorem d_Mo_init_254 : decode prog_12_method_1_code 254 = .ok (.invokestatic 96, 3) := by decide +kernel
theorem d_Mo_init_257 : decode prog_12_method_1_code 257 = .ok (.istore_n 1, 1) := by decide +kernel
theorem d_Mo_init_258 : decode prog_12_method_1_code 258 = .ok (.iinc 2 1, 3) := by decide +kernel
theorem d_Mo_init_261 : decode prog_12_method_1_code 261 = .ok (.goto (-37), 3) := by decide +kernel
theorem d_Mo_init_264 : decode prog_12_method_1_code 264 = .ok (.return_, 1) := by decide +kernel
theorem d_Mo_times_0 : decode prog_12_method_2_code 0 = .ok (.iconst 0, 1) := by decide +kernel
theorem d_Mo_times_1 : decode prog_12_method_2_code 1 = .ok (.istore_n 2, 1) := by decide +kernel
theorem d_Mo_times_2 : decode prog_12_method_2_code 2 = .ok (.iload_n 0, 1) := by decide +kernel
theorem d_Mo_times_3 : decode prog_12_method_2_code 3 = .ok (.istore_n 3, 1) := by decide +kernel
theorem d_Mo_times_4 : decode prog_12_method_2_code 4 = .ok (.iconst 0, 1) := by decide +kernel
theorem d_Mo_times_5 : decode prog_12_method_2_code 5 = .ok (.istore 4, 2) := by decide +kernel
theorem d_Mo_times_7 : decode prog_12_method_2_code 7 = .ok (.iload 4, 2) := by decide +kernel
theorem d_Mo_times_9 : decode prog_12_method_2_code 9 = .ok (.bipush 8, 2) := by decide +kernel
theorem d_Mo_times_11 : decode prog_12_method_2_code 11 = .ok (.if_icmp .ge 40, 3) := by decide +kernel
theorem d_Mo_times_14 : decode prog_12_method_2_code 14 = .ok (.iload_n 1, 1) := by decide +kernel
theorem d_Mo_times_15 : decode prog_12_method_2_code 15 = .ok (.iload 4, 2) := by decide +kernel
theorem d_Mo_times_17 : decode prog_12_method_2_code 17 = .ok (.ishr, 1) := by decide +kernel
theorem d_Mo_times_18 : decode prog_12_method_2_code 18 = .ok (.iconst 1, 1) := by decide +kernel
theorem d_Mo_times_19 : decode prog_12_method_2_code 19 = .ok (.iand, 1) := by decide +kernel
theorem d_Mo_times_20 : decode prog_12_method_2_code 20 = .ok (.iconst 1, 1) := by decide +kernel
theorem d_Mo_times_21 : decode prog_12_method_2_code 21 = .ok (.if_icmp .ne 7, 3) := by decide +kernel
theorem d_Mo_times_24 : decode prog_12_method_2_code 24 = .ok (.iload_n 2, 1) := by decide +kernel
theorem d_Mo_times_25 : decode prog_12_method_2_code 25 = .ok (.iload_n 3, 1) := by decide +kernel
theorem d_Mo_times_26 : decode prog_12_method_2_code 26 = .ok (.ixor, 1) := by decide +kernel
theorem d_Mo_times_27 : decode prog_12_method_2_code 27 = .ok (.istore_n 2, 1) := by decide +kernel
theorem d_Mo_times_28 : decode prog_12_method_2_code 28 = .ok (.iload_n 3, 1) := by decide +kernel
theorem d_Mo_times_29 : decode prog_12_method_2_code 29 = .ok (.iconst 1, 1) := by decide +kernel
theorem d_Mo_times_30 : decode prog_12_method_2_code 30 = .ok (.ishl, 1) := by decide +kernel
theorem d_Mo_times_31 : decode prog_12_method_2_code 31 = .ok (.istore_n 3, 1) := by decide +kernel
theorem d_Mo_times_32 : decode prog_12_method_2_code 32 = .ok (.iload_n 3, 1) := by decide +kernel
theorem d_Mo_times_33 : decode prog_12_method_2_code 33 = .ok (.sipush 255, 3) := by decide +kernel
theorem d_Mo_times_36 : decode prog_12_method_2_code 36 = .ok (.if_icmp .le 9, 3) := by decide +kernel
theorem d_Mo_times_39 : decode prog_12_method_2_code 39 = .ok (.iload_n 3, 1) := by decide +kernel
theorem d_Mo_times_40 : decode prog_12_method_2_code 40 = .ok (.sipush 283, 3) := by decide +kernel
theorem d_Mo_times_43 : decode prog_12_method_2_code 43 = .ok (.ixor, 1) := by decide +kernel
theorem d_Mo_times_44 : decode prog_12_method_2_code 44 = .ok (.istore_n 3, 1) := by decide +kernel
theorem d_Mo_times_45 : decode prog_12_method_2_code 45 = .ok (.iinc 4 1, 3) := by decide +kernel
theorem d_Mo_times_48 : decode prog_12_method_2_code 48 = .ok (.goto (-41), 3) := by decide +kernel
theorem d_Mo_times_51 : decode prog_12_method_2_code 51 = .ok (.iload_n 2, 1) := by decide +kernel
theorem d_Mo_times_52 : decode prog_12_method_2_code 52 = .ok (.ireturn, 1) := by decide +kernel
theorem d_Mo_thrown_0 : decode prog_12_method_25_code 0 = .ok (.aload_n 0, 1) := by decide +kernel
theorem d_Mo_thrown_1 : decode prog_12_method_25_code 1 = .ok (.getfield 7, 3) := by decide +kernel
theorem d_Mo_thrown_4 : decode prog_12_method_25_code 4 = .ok (.ireturn, 1) := by decide +kernel
theorem d_Mo_byteIn_0 : decode prog_12_method_28_code 0 = .ok (.aload_n 0, 1) := by decide +kernel
theorem d_Mo_byteIn_1 : decode prog_12_method_28_code 1 = .ok (.iconst 0, 1) := by decide +kernel
theorem d_Mo_byteIn_2 : decode prog_12_method_28_code 2 = .ok (.putfield 7, 3) := by decide +kernel
theorem d_Mo_byteIn_5 : decode prog_12_method_28_code 5 = .ok (.iload_n 1, 1) := by decide +kernel
theorem d_Mo_byteIn_6 : decode prog_12_method_28_code 6 = .ok (.invokestatic 158, 3) := by decide +kernel
theorem d_Mo_byteIn_9 : decode prog_12_method_28_code 9 = .ok (.ifCond .ne 26, 3) := by decide +kernel
theorem d_Mo_byteIn_12 : decode prog_12_method_28_code 12 = .ok (.iload_n 3, 1) := by decide +kernel
theorem d_Mo_byteIn_13 : decode prog_12_method_28_code 13 = .ok (.iconst 1, 1) := by decide +kernel
theorem d_Mo_byteIn_14 : decode prog_12_method_28_code 14 = .ok (.if_icmp .lt 21, 3) := by decide +kernel
theorem d_Mo_byteIn_17 : decode prog_12_method_28_code 17 = .ok (.iload_n 3, 1) := by decide +kernel
theorem d_Mo_byteIn_18 : decode prog_12_method_28_code 18 = .ok (.iconst 4, 1) := by decide +kernel
theorem d_Mo_byteIn_19 : decode prog_12_method_28_code 19 = .ok (.if_icmp .gt 16, 3) := by decide +kernel
theorem d_Mo_byteIn_22 : decode prog_12_method_28_code 22 = .ok (.aload_n 0, 1) := by decide +kernel
theorem d_Mo_byteIn_23 : decode prog_12_method_28_code 23 = .ok (.getfield 51, 3) := by decide +kernel
theorem d_Mo_byteIn_26 : decode prog_12_method_28_code 26 = .ok (.iload_n 1, 1) := by decide +kernel
theorem d_Mo_byteIn_27 : decode prog_12_method_28_code 27 = .ok (.iaload, 1) := by decide +kernel
theorem d_Mo_byteIn_28 : decode prog_12_method_28_code 28 = .ok (.iload_n 3, 1) := by decide +kernel
theorem d_Mo_byteIn_29 : decode prog_12_method_28_code 29 = .ok (.iadd, 1) := by decide +kernel
theorem d_Mo_byteIn_30 : decode prog_12_method_28_code 30 = .ok (.bipush 24, 2) := by decide +kernel
theorem d_Mo_byteIn_32 : decode prog_12_method_28_code 32 = .ok (.if_icmp .le 5, 3) := by decide +kernel
theorem d_Mo_byteIn_35 : decode prog_12_method_28_code 35 = .ok (.iconst 0, 1) := by decide +kernel
theorem d_Mo_byteIn_36 : decode prog_12_method_28_code 36 = .ok (.ireturn, 1) := by decide +kernel
theorem d_Mo_byteIn_37 : decode prog_12_method_28_code 37 = .ok (.iload_n 3, 1) := by decide +kernel
theorem d_Mo_byteIn_38 : decode prog_12_method_28_code 38 = .ok (.iconst 1, 1) := by decide +kernel
theorem d_Mo_byteIn_39 : decode prog_12_method_28_code 39 = .ok (.isub, 1) := by decide +kernel
theorem d_Mo_byteIn_40 : decode prog_12_method_28_code 40 = .ok (.istore 4, 2) := by decide +kernel
theorem d_Mo_byteIn_42 : decode prog_12_method_28_code 42 = .ok (.iload 4, 2) := by decide +kernel
theorem d_Mo_byteIn_44 : decode prog_12_method_28_code 44 = .ok (.ifCond .lt 50, 3) := by decide +kernel
theorem d_Mo_byteIn_47 : decode prog_12_method_28_code 47 = .ok (.aload_n 0, 1) := by decide +kernel
theorem d_Mo_byteIn_48 : decode prog_12_method_28_code 48 = .ok (.getfield 48, 3) := by decide +kernel
theorem d_Mo_byteIn_51 : decode prog_12_method_28_code 51 = .ok (.bipush 24, 2) := by decide +kernel
theorem d_Mo_byteIn_53 : decode prog_12_method_28_code 53 = .ok (.iload_n 1, 1) := by decide +kernel
theorem d_Mo_byteIn_54 : decode prog_12_method_28_code 54 = .ok (.imul, 1) := by decide +kernel
theorem d_Mo_byteIn_55 : decode prog_12_method_28_code 55 = .ok (.aload_n 0, 1) := by decide +kernel
theorem d_Mo_byteIn_56 : decode prog_12_method_28_code 56 = .ok (.getfield 51, 3) := by decide +kernel
theorem d_Mo_byteIn_59 : decode prog_12_method_28_code 59 = .ok (.iload_n 1, 1) := by decide +kernel
theorem d_Mo_byteIn_60 : decode prog_12_method_28_code 60 = .ok (.iaload, 1) := by decide +kernel
theorem d_Mo_byteIn_61 : decode prog_12_method_28_code 61 = .ok (.iadd, 1) := by decide +kernel
theorem d_Mo_byteIn_62 : decode prog_12_method_28_code 62 = .ok (.iload_n 2, 1) := by decide +kernel
theorem d_Mo_byteIn_63 : decode prog_12_method_28_code 63 = .ok (.bipush 8, 2) := by decide +kernel
theorem d_Mo_byteIn_65 : decode prog_12_method_28_code 65 = .ok (.iload 4, 2) := by decide +kernel
theorem d_Mo_byteIn_67 : decode prog_12_method_28_code 67 = .ok (.imul, 1) := by decide +kernel
theorem d_Mo_byteIn_68 : decode prog_12_method_28_code 68 = .ok (.ishr, 1) := by decide +kernel
theorem d_Mo_byteIn_69 : decode prog_12_method_28_code 69 = .ok (.sipush 255, 3) := by decide +kernel
theorem d_Mo_byteIn_72 : decode prog_12_method_28_code 72 = .ok (.iand, 1) := by decide +kernel
theorem d_Mo_byteIn_73 : decode prog_12_method_28_code 73 = .ok (.iastore, 1) := by decide +kernel
theorem d_Mo_byteIn_74 : decode prog_12_method_28_code 74 = .ok (.aload_n 0, 1) := by decide +kernel
theorem d_Mo_byteIn_75 : decode prog_12_method_28_code 75 = .ok (.getfield 51, 3) := by decide +kernel
theorem d_Mo_byteIn_78 : decode prog_12_method_28_code 78 = .ok (.iload_n 1, 1) := by decide +kernel
theorem d_Mo_byteIn_79 : decode prog_12_method_28_code 79 = .ok (.aload_n 0, 1) := by decide +kernel
theorem d_Mo_byteIn_80 : decode prog_12_method_28_code 80 = .ok (.getfield 51, 3) := by decide +kernel
theorem d_Mo_byteIn_83 : decode prog_12_method_28_code 83 = .ok (.iload_n 1, 1) := by decide +kernel
theorem d_Mo_byteIn_84 : decode prog_12_method_28_code 84 = .ok (.iaload, 1) := by decide +kernel
theorem d_Mo_byteIn_85 : decode prog_12_method_28_code 85 = .ok (.iconst 1, 1) := by decide +kernel
theorem d_Mo_byteIn_86 : decode prog_12_method_28_code 86 = .ok (.iadd, 1) := by decide +kernel
theorem d_Mo_byteIn_87 : decode prog_12_method_28_code 87 = .ok (.iastore, 1) := by decide +kernel
theorem d_Mo_byteIn_88 : decode prog_12_method_28_code 88 = .ok (.iinc 4 (-1), 3) := by decide +kernel
theorem d_Mo_byteIn_91 : decode prog_12_method_28_code 91 = .ok (.goto (-49), 3) := by decide +kernel
theorem d_Mo_byteIn_94 : decode prog_12_method_28_code 94 = .ok (.iconst 1, 1) := by decide +kernel
theorem d_Mo_byteIn_95 : decode prog_12_method_28_code 95 = .ok (.ireturn, 1) := by decide +kernel
theorem d_Mo_noProposer_0 : decode prog_12_method_26_code 0 = .ok (.iload_n 0, 1) := by decide +kernel
theorem d_Mo_noProposer_1 : decode prog_12_method_26_code 1 = .ok (.ifCond .lt 8, 3) := by decide +kernel
theorem d_Mo_noProposer_4 : decode prog_12_method_26_code 4 = .ok (.iload_n 0, 1) := by decide +kernel
theorem d_Mo_noProposer_5 : decode prog_12_method_26_code 5 = .ok (.iconst 1, 1) := by decide +kernel
theorem d_Mo_noProposer_6 : decode prog_12_method_26_code 6 = .ok (.if_icmp .le 7, 3) := by decide +kernel
theorem d_Mo_noProposer_9 : decode prog_12_method_26_code 9 = .ok (.iconst 1, 1) := by decide +kernel
theorem d_Mo_noProposer_10 : decode prog_12_method_26_code 10 = .ok (.goto 4, 3) := by decide +kernel
theorem d_Mo_noProposer_13 : decode prog_12_method_26_code 13 = .ok (.iconst 0, 1) := by decide +kernel
theorem d_Mo_noProposer_14 : decode prog_12_method_26_code 14 = .ok (.ireturn, 1) := by decide +kernel
theorem d_Mo_campaign_0 : decode prog_12_method_29_code 0 = .ok (.aload_n 0, 1) := by decide +kernel
theorem d_Mo_campaign_1 : decode prog_12_method_29_code 1 = .ok (.iload_n 1, 1) := by decide +kernel
theorem d_Mo_campaign_2 : decode prog_12_method_29_code 2 = .ok (.invokestatic 158, 3) := by decide +kernel
theorem d_Mo_campaign_5 : decode prog_12_method_29_code 5 = .ok (.ifCond .eq 7, 3) := by decide +kernel
theorem d_Mo_campaign_8 : decode prog_12_method_29_code 8 = .ok (.iconst 1, 1) := by decide +kernel
theorem d_Mo_campaign_9 : decode prog_12_method_29_code 9 = .ok (.goto 4, 3) := by decide +kernel
theorem d_Mo_campaign_12 : decode prog_12_method_29_code 12 = .ok (.iconst 0, 1) := by decide +kernel
theorem d_Mo_campaign_13 : decode prog_12_method_29_code 13 = .ok (.putfield 7, 3) := by decide +kernel
theorem d_Mo_campaign_16 : decode prog_12_method_29_code 16 = .ok (.aload_n 0, 1) := by decide +kernel
theorem d_Mo_campaign_17 : decode prog_12_method_29_code 17 = .ok (.getfield 7, 3) := by decide +kernel
theorem d_Mo_campaign_20 : decode prog_12_method_29_code 20 = .ok (.ifCond .eq 5, 3) := by decide +kernel
theorem d_Mo_campaign_23 : decode prog_12_method_29_code 23 = .ok (.iconst 0, 1) := by decide +kernel
theorem d_Mo_campaign_24 : decode prog_12_method_29_code 24 = .ok (.ireturn, 1) := by decide +kernel
theorem d_Mo_campaign_25 : decode prog_12_method_29_code 25 = .ok (.aload_n 0, 1) := by decide +kernel
theorem d_Mo_campaign_26 : decode prog_12_method_29_code 26 = .ok (.getfield 39, 3) := by decide +kernel
theorem d_Mo_campaign_29 : decode prog_12_method_29_code 29 = .ok (.iload_n 1, 1) := by decide +kernel
theorem d_Mo_campaign_30 : decode prog_12_method_29_code 30 = .ok (.iaload, 1) := by decide +kernel
theorem d_Mo_campaign_31 : decode prog_12_method_29_code 31 = .ok (.istore_n 2, 1) := by decide +kernel
theorem d_Mo_campaign_32 : decode prog_12_method_29_code 32 = .ok (.iconst 0, 1) := by decide +kernel
theorem d_Mo_campaign_33 : decode prog_12_method_29_code 33 = .ok (.istore_n 3, 1) := by decide +kernel
theorem d_Mo_campaign_34 : decode prog_12_method_29_code 34 = .ok (.iload_n 3, 1) := by decide +kernel
theorem d_Mo_campaign_35 : decode prog_12_method_29_code 35 = .ok (.bipush 7, 2) := by decide +kernel
theorem d_Mo_campaign_37 : decode prog_12_method_29_code 37 = .ok (.if_icmp .ge 26, 3) := by decide +kernel
theorem d_Mo_campaign_40 : decode prog_12_method_29_code 40 = .ok (.aload_n 0, 1) := by decide +kernel
theorem d_Mo_campaign_41 : decode prog_12_method_29_code 41 = .ok (.getfield 13, 3) := by decide +kernel
theorem d_Mo_campaign_44 : decode prog_12_method_29_code 44 = .ok (.iload_n 3, 1) := by decide +kernel
theorem d_Mo_campaign_45 : decode prog_12_method_29_code 45 = .ok (.iaload, 1) := by decide +kernel
theorem d_Mo_campaign_46 : decode prog_12_method_29_code 46 = .ok (.iload_n 2, 1) := by decide +kernel
theorem d_Mo_campaign_47 : decode prog_12_method_29_code 47 = .ok (.if_icmp .le 10, 3) := by decide +kernel
theorem d_Mo_campaign_50 : decode prog_12_method_29_code 50 = .ok (.aload_n 0, 1) := by decide +kernel
theorem d_Mo_campaign_51 : decode prog_12_method_29_code 51 = .ok (.getfield 13, 3) := by decide +kernel
theorem d_Mo_campaign_54 : decode prog_12_method_29_code 54 = .ok (.iload_n 3, 1) := by decide +kernel
theorem d_Mo_campaign_55 : decode prog_12_method_29_code 55 = .ok (.iaload, 1) := by decide +kernel
theorem d_Mo_campaign_56 : decode prog_12_method_29_code 56 = .ok (.istore_n 2, 1) := by decide +kernel
theorem d_Mo_campaign_57 : decode prog_12_method_29_code 57 = .ok (.iinc 3 1, 3) := by decide +kernel
theorem d_Mo_campaign_60 : decode prog_12_method_29_code 60 = .ok (.goto (-26), 3) := by decide +kernel
theorem d_Mo_campaign_63 : decode prog_12_method_29_code 63 = .ok (.iconst 2, 1) := by decide +kernel
theorem d_Mo_campaign_64 : decode prog_12_method_29_code 64 = .ok (.iload_n 1, 1) := by decide +kernel
theorem d_Mo_campaign_65 : decode prog_12_method_29_code 65 = .ok (.iadd, 1) := by decide +kernel
theorem d_Mo_campaign_66 : decode prog_12_method_29_code 66 = .ok (.istore_n 3, 1) := by decide +kernel
theorem d_Mo_campaign_67 : decode prog_12_method_29_code 67 = .ok (.iload_n 3, 1) := by decide +kernel
theorem d_Mo_campaign_68 : decode prog_12_method_29_code 68 = .ok (.iload_n 2, 1) := by decide +kernel
theorem d_Mo_campaign_69 : decode prog_12_method_29_code 69 = .ok (.if_icmp .gt 9, 3) := by decide +kernel
theorem d_Mo_campaign_72 : decode prog_12_method_29_code 72 = .ok (.iinc 3 2, 3) := by decide +kernel
theorem d_Mo_campaign_75 : decode prog_12_method_29_code 75 = .ok (.goto (-8), 3) := by decide +kernel
theorem d_Mo_campaign_78 : decode prog_12_method_29_code 78 = .ok (.aload_n 0, 1) := by decide +kernel
theorem d_Mo_campaign_79 : decode prog_12_method_29_code 79 = .ok (.getfield 39, 3) := by decide +kernel
theorem d_Mo_campaign_82 : decode prog_12_method_29_code 82 = .ok (.iload_n 1, 1) := by decide +kernel
theorem d_Mo_campaign_83 : decode prog_12_method_29_code 83 = .ok (.iload_n 3, 1) := by decide +kernel
theorem d_Mo_campaign_84 : decode prog_12_method_29_code 84 = .ok (.iastore, 1) := by decide +kernel
theorem d_Mo_campaign_85 : decode prog_12_method_29_code 85 = .ok (.aload_n 0, 1) := by decide +kernel
theorem d_Mo_campaign_86 : decode prog_12_method_29_code 86 = .ok (.getfield 36, 3) := by decide +kernel
theorem d_Mo_campaign_89 : decode prog_12_method_29_code 89 = .ok (.iload_n 1, 1) := by decide +kernel
theorem d_Mo_campaign_90 : decode prog_12_method_29_code 90 = .ok (.iconst 1, 1) := by decide +kernel
theorem d_Mo_campaign_91 : decode prog_12_method_29_code 91 = .ok (.iastore, 1) := by decide +kernel
theorem d_Mo_campaign_92 : decode prog_12_method_29_code 92 = .ok (.aload_n 0, 1) := by decide +kernel
theorem d_Mo_campaign_93 : decode prog_12_method_29_code 93 = .ok (.getfield 42, 3) := by decide +kernel
theorem d_Mo_campaign_96 : decode prog_12_method_29_code 96 = .ok (.iload_n 1, 1) := by decide +kernel
theorem d_Mo_campaign_97 : decode prog_12_method_29_code 97 = .ok (.iconst 0, 1) := by decide +kernel
theorem d_Mo_campaign_98 : decode prog_12_method_29_code 98 = .ok (.iastore, 1) := by decide +kernel
theorem d_Mo_campaign_99 : decode prog_12_method_29_code 99 = .ok (.iconst 0, 1) := by decide +kernel
theorem d_Mo_campaign_100 : decode prog_12_method_29_code 100 = .ok (.istore 4, 2) := by decide +kernel
theorem d_Mo_campaign_102 : decode prog_12_method_29_code 102 = .ok (.iload 4, 2) := by decide +kernel
theorem d_Mo_campaign_104 : decode prog_12_method_29_code 104 = .ok (.bipush 8, 2) := by decide +kernel
theorem d_Mo_campaign_106 : decode prog_12_method_29_code 106 = .ok (.if_icmp .ge 22, 3) := by decide +kernel
theorem d_Mo_campaign_109 : decode prog_12_method_29_code 109 = .ok (.aload_n 0, 1) := by decide +kernel
theorem d_Mo_campaign_110 : decode prog_12_method_29_code 110 = .ok (.getfield 57, 3) := by decide +kernel
theorem d_Mo_campaign_113 : decode prog_12_method_29_code 113 = .ok (.bipush 8, 2) := by decide +kernel
theorem d_Mo_campaign_115 : decode prog_12_method_29_code 115 = .ok (.iload_n 1, 1) := by decide +kernel
theorem d_Mo_campaign_116 : decode prog_12_method_29_code 116 = .ok (.imul, 1) := by decide +kernel
theorem d_Mo_campaign_117 : decode prog_12_method_29_code 117 = .ok (.iload 4, 2) := by decide +kernel
theorem d_Mo_campaign_119 : decode prog_12_method_29_code 119 = .ok (.iadd, 1) := by decide +kernel
theorem d_Mo_campaign_120 : decode prog_12_method_29_code 120 = .ok (.iconst 0, 1) := by decide +kernel
theorem d_Mo_campaign_121 : decode prog_12_method_29_code 121 = .ok (.iastore, 1) := by decide +kernel
theorem d_Mo_campaign_122 : decode prog_12_method_29_code 122 = .ok (.iinc 4 1, 3) := by decide +kernel
theorem d_Mo_campaign_125 : decode prog_12_method_29_code 125 = .ok (.goto (-23), 3) := by decide +kernel
theorem d_Mo_campaign_128 : decode prog_12_method_29_code 128 = .ok (.iconst 0, 1) := by decide +kernel
theorem d_Mo_campaign_129 : decode prog_12_method_29_code 129 = .ok (.istore 4, 2) := by decide +kernel
theorem d_Mo_campaign_131 : decode prog_12_method_29_code 131 = .ok (.iload 4, 2) := by decide +kernel
theorem d_Mo_campaign_133 : decode prog_12_method_29_code 133 = .ok (.bipush 7, 2) := by decide +kernel
theorem d_Mo_campaign_135 : decode prog_12_method_29_code 135 = .ok (.if_icmp .ge 17, 3) := by decide +kernel
theorem d_Mo_campaign_138 : decode prog_12_method_29_code 138 = .ok (.aload_n 0, 1) := by decide +kernel
theorem d_Mo_campaign_139 : decode prog_12_method_29_code 139 = .ok (.iload_n 1, 1) := by decide +kernel
theorem d_Mo_campaign_140 : decode prog_12_method_29_code 140 = .ok (.iload 4, 2) := by decide +kernel
theorem d_Mo_campaign_142 : decode prog_12_method_29_code 142 = .ok (.invokevirtual 162, 3) := by decide +kernel
theorem d_Mo_campaign_145 : decode prog_12_method_29_code 145 = .ok (.pop, 1) := by decide +kernel
theorem d_Mo_campaign_146 : decode prog_12_method_29_code 146 = .ok (.iinc 4 1, 3) := by decide +kernel
theorem d_Mo_campaign_149 : decode prog_12_method_29_code 149 = .ok (.goto (-18), 3) := by decide +kernel
theorem d_Mo_campaign_152 : decode prog_12_method_29_code 152 = .ok (.iload_n 3, 1) := by decide +kernel
theorem d_Mo_campaign_153 : decode prog_12_method_29_code 153 = .ok (.ireturn, 1) := by decide +kernel
theorem d_Mo_prepare_0 : decode prog_12_method_10_code 0 = .ok (.aload_n 0, 1) := by decide +kernel
theorem d_Mo_prepare_1 : decode prog_12_method_10_code 1 = .ok (.iconst 0, 1) := by decide +kernel
theorem d_Mo_prepare_2 : decode prog_12_method_10_code 2 = .ok (.iload_n 2, 1) := by decide +kernel
theorem d_Mo_prepare_3 : decode prog_12_method_10_code 3 = .ok (.iload_n 1, 1) := by decide +kernel
theorem d_Mo_prepare_4 : decode prog_12_method_10_code 4 = .ok (.aload_n 0, 1) := by decide +kernel
theorem d_Mo_prepare_5 : decode prog_12_method_10_code 5 = .ok (.getfield 39, 3) := by decide +kernel
theorem d_Mo_prepare_8 : decode prog_12_method_10_code 8 = .ok (.iload_n 1, 1) := by decide +kernel
theorem d_Mo_prepare_9 : decode prog_12_method_10_code 9 = .ok (.iaload, 1) := by decide +kernel
theorem d_Mo_prepare_10 : decode prog_12_method_10_code 10 = .ok (.invokevirtual 114, 3) := by decide +kernel
theorem d_Mo_prepare_13 : decode prog_12_method_10_code 13 = .ok (.ifCond .eq 7, 3) := by decide +kernel
theorem d_Mo_prepare_16 : decode prog_12_method_10_code 16 = .ok (.iconst 1, 1) := by decide +kernel
theorem d_Mo_prepare_17 : decode prog_12_method_10_code 17 = .ok (.goto 4, 3) := by decide +kernel
theorem d_Mo_prepare_20 : decode prog_12_method_10_code 20 = .ok (.iconst 0, 1) := by decide +kernel
theorem d_Mo_prepare_21 : decode prog_12_method_10_code 21 = .ok (.ireturn, 1) := by decide +kernel
theorem d_Mo_letter4_0 : decode prog_12_method_9_code 0 = .ok (.aload_n 0, 1) := by decide +kernel
theorem d_Mo_letter4_1 : decode prog_12_method_9_code 1 = .ok (.getfield 27, 3) := by decide +kernel
theorem d_Mo_letter4_4 : decode prog_12_method_9_code 4 = .ok (.bipush 60, 2) := by decide +kernel
theorem d_Mo_letter4_6 : decode prog_12_method_9_code 6 = .ok (.if_icmp .ne 5, 3) := by decide +kernel
theorem d_Mo_letter4_9 : decode prog_12_method_9_code 9 = .ok (.iconst 0, 1) := by decide +kernel
theorem d_Mo_letter4_10 : decode prog_12_method_9_code 10 = .ok (.ireturn, 1) := by decide +kernel
theorem d_Mo_letter4_11 : decode prog_12_method_9_code 11 = .ok (.bipush 7, 2) := by decide +kernel
theorem d_Mo_letter4_13 : decode prog_12_method_9_code 13 = .ok (.aload_n 0, 1) := by decide +kernel
theorem d_Mo_letter4_14 : decode prog_12_method_9_code 14 = .ok (.getfield 27, 3) := by decide +kernel
theorem d_Mo_letter4_17 : decode prog_12_method_9_code 17 = .ok (.imul, 1) := by decide +kernel
theorem d_Mo_letter4_18 : decode prog_12_method_9_code 18 = .ok (.istore 5, 2) := by decide +kernel
theorem d_Mo_letter4_20 : decode prog_12_method_9_code 20 = .ok (.aload_n 0, 1) := by decide +kernel
theorem d_Mo_letter4_21 : decode prog_12_method_9_code 21 = .ok (.getfield 30, 3) := by decide +kernel
theorem d_Mo_letter4_24 : decode prog_12_method_9_code 24 = .ok (.iload 5, 2) := by decide +kernel
theorem d_Mo_letter4_26 : decode prog_12_method_9_code 26 = .ok (.iload_n 1, 1) := by decide +kernel
theorem d_Mo_letter4_27 : decode prog_12_method_9_code 27 = .ok (.iastore, 1) := by decide +kernel
theorem d_Mo_letter4_28 : decode prog_12_method_9_code 28 = .ok (.aload_n 0, 1) := by decide +kernel
theorem d_Mo_letter4_29 : decode prog_12_method_9_code 29 = .ok (.getfield 30, 3) := by decide +kernel
theorem d_Mo_letter4_32 : decode prog_12_method_9_code 32 = .ok (.iload 5, 2) := by decide +kernel
theorem d_Mo_letter4_34 : decode prog_12_method_9_code 34 = .ok (.iconst 1, 1) := by decide +kernel
theorem d_Mo_letter4_35 : decode prog_12_method_9_code 35 = .ok (.iadd, 1) := by decide +kernel
theorem d_Mo_letter4_36 : decode prog_12_method_9_code 36 = .ok (.iload_n 2, 1) := by decide +kernel
theorem d_Mo_letter4_37 : decode prog_12_method_9_code 37 = .ok (.iastore, 1) := by decide +kernel
theorem d_Mo_letter4_38 : decode prog_12_method_9_code 38 = .ok (.aload_n 0, 1) := by decide +kernel
theorem d_Mo_letter4_39 : decode prog_12_method_9_code 39 = .ok (.getfield 30, 3) := by decide +kernel
theorem d_Mo_letter4_42 : decode prog_12_method_9_code 42 = .ok (.iload 5, 2) := by decide +kernel
theorem d_Mo_letter4_44 : decode prog_12_method_9_code 44 = .ok (.iconst 2, 1) := by decide +kernel
theorem d_Mo_letter4_45 : decode prog_12_method_9_code 45 = .ok (.iadd, 1) := by decide +kernel
theorem d_Mo_letter4_46 : decode prog_12_method_9_code 46 = .ok (.iload_n 3, 1) := by decide +kernel
theorem d_Mo_letter4_47 : decode prog_12_method_9_code 47 = .ok (.iastore, 1) := by decide +kernel
theorem d_Mo_letter4_48 : decode prog_12_method_9_code 48 = .ok (.aload_n 0, 1) := by decide +kernel
theorem d_Mo_letter4_49 : decode prog_12_method_9_code 49 = .ok (.getfield 30, 3) := by decide +kernel
theorem d_Mo_letter4_52 : decode prog_12_method_9_code 52 = .ok (.iload 5, 2) := by decide +kernel
theorem d_Mo_letter4_54 : decode prog_12_method_9_code 54 = .ok (.iconst 3, 1) := by decide +kernel
theorem d_Mo_letter4_55 : decode prog_12_method_9_code 55 = .ok (.iadd, 1) := by decide +kernel
theorem d_Mo_letter4_56 : decode prog_12_method_9_code 56 = .ok (.iload 4, 2) := by decide +kernel
theorem d_Mo_letter4_58 : decode prog_12_method_9_code 58 = .ok (.iastore, 1) := by decide +kernel
theorem d_Mo_letter4_59 : decode prog_12_method_9_code 59 = .ok (.aload_n 0, 1) := by decide +kernel
theorem d_Mo_letter4_60 : decode prog_12_method_9_code 60 = .ok (.getfield 30, 3) := by decide +kernel
theorem d_Mo_letter4_63 : decode prog_12_method_9_code 63 = .ok (.iload 5, 2) := by decide +kernel
theorem d_Mo_letter4_65 : decode prog_12_method_9_code 65 = .ok (.iconst 4, 1) := by decide +kernel
theorem d_Mo_letter4_66 : decode prog_12_method_9_code 66 = .ok (.iadd, 1) := by decide +kernel
theorem d_Mo_letter4_67 : decode prog_12_method_9_code 67 = .ok (.iconst (-1), 1) := by decide +kernel
theorem d_Mo_letter4_68 : decode prog_12_method_9_code 68 = .ok (.iastore, 1) := by decide +kernel
theorem d_Mo_letter4_69 : decode prog_12_method_9_code 69 = .ok (.aload_n 0, 1) := by decide +kernel
theorem d_Mo_letter4_70 : decode prog_12_method_9_code 70 = .ok (.getfield 30, 3) := by decide +kernel
theorem d_Mo_letter4_73 : decode prog_12_method_9_code 73 = .ok (.iload 5, 2) := by decide +kernel
theorem d_Mo_letter4_75 : decode prog_12_method_9_code 75 = .ok (.iconst 5, 1) := by decide +kernel
theorem d_Mo_letter4_76 : decode prog_12_method_9_code 76 = .ok (.iadd, 1) := by decide +kernel
theorem d_Mo_letter4_77 : decode prog_12_method_9_code 77 = .ok (.iconst (-1), 1) := by decide +kernel
theorem d_Mo_letter4_78 : decode prog_12_method_9_code 78 = .ok (.iastore, 1) := by decide +kernel
theorem d_Mo_letter4_79 : decode prog_12_method_9_code 79 = .ok (.aload_n 0, 1) := by decide +kernel
theorem d_Mo_letter4_80 : decode prog_12_method_9_code 80 = .ok (.dup, 1) := by decide +kernel
theorem d_Mo_letter4_81 : decode prog_12_method_9_code 81 = .ok (.getfield 27, 3) := by decide +kernel
theorem d_Mo_letter4_84 : decode prog_12_method_9_code 84 = .ok (.iconst 1, 1) := by decide +kernel
theorem d_Mo_letter4_85 : decode prog_12_method_9_code 85 = .ok (.iadd, 1) := by decide +kernel
theorem d_Mo_letter4_86 : decode prog_12_method_9_code 86 = .ok (.putfield 27, 3) := by decide +kernel
theorem d_Mo_letter4_89 : decode prog_12_method_9_code 89 = .ok (.iconst 1, 1) := by decide +kernel
theorem d_Mo_letter4_90 : decode prog_12_method_9_code 90 = .ok (.ireturn, 1) := by decide +kernel
theorem d_Mo_propose_0 : decode prog_12_method_30_code 0 = .ok (.aload_n 0, 1) := by decide +kernel
theorem d_Mo_propose_1 : decode prog_12_method_30_code 1 = .ok (.iload_n 1, 1) := by decide +kernel
theorem d_Mo_propose_2 : decode prog_12_method_30_code 2 = .ok (.invokestatic 158, 3) := by decide +kernel
theorem d_Mo_propose_5 : decode prog_12_method_30_code 5 = .ok (.ifCond .eq 7, 3) := by decide +kernel
theorem d_Mo_propose_8 : decode prog_12_method_30_code 8 = .ok (.iconst 1, 1) := by decide +kernel
theorem d_Mo_propose_9 : decode prog_12_method_30_code 9 = .ok (.goto 4, 3) := by decide +kernel
theorem d_Mo_propose_12 : decode prog_12_method_30_code 12 = .ok (.iconst 0, 1) := by decide +kernel
theorem d_Mo_propose_13 : decode prog_12_method_30_code 13 = .ok (.putfield 7, 3) := by decide +kernel
theorem d_Mo_propose_16 : decode prog_12_method_30_code 16 = .ok (.aload_n 0, 1) := by decide +kernel
theorem d_Mo_propose_17 : decode prog_12_method_30_code 17 = .ok (.getfield 7, 3) := by decide +kernel
theorem d_Mo_propose_20 : decode prog_12_method_30_code 20 = .ok (.ifCond .eq 5, 3) := by decide +kernel
theorem d_Mo_propose_23 : decode prog_12_method_30_code 23 = .ok (.iconst 0, 1) := by decide +kernel
theorem d_Mo_propose_24 : decode prog_12_method_30_code 24 = .ok (.ireturn, 1) := by decide +kernel
theorem d_Mo_propose_25 : decode prog_12_method_30_code 25 = .ok (.aload_n 0, 1) := by decide +kernel
theorem d_Mo_propose_26 : decode prog_12_method_30_code 26 = .ok (.iload_n 1, 1) := by decide +kernel
theorem d_Mo_propose_27 : decode prog_12_method_30_code 27 = .ok (.invokevirtual 165, 3) := by decide +kernel
theorem d_Mo_propose_30 : decode prog_12_method_30_code 30 = .ok (.istore_n 2, 1) := by decide +kernel
theorem d_Mo_propose_31 : decode prog_12_method_30_code 31 = .ok (.iload_n 2, 1) := by decide +kernel
theorem d_Mo_propose_32 : decode prog_12_method_30_code 32 = .ok (.ifCond .lt 12, 3) := by decide +kernel
theorem d_Mo_propose_35 : decode prog_12_method_30_code 35 = .ok (.aload_n 0, 1) := by decide +kernel
theorem d_Mo_propose_36 : decode prog_12_method_30_code 36 = .ok (.getfield 51, 3) := by decide +kernel
theorem d_Mo_propose_39 : decode prog_12_method_30_code 39 = .ok (.iload_n 1, 1) := by decide +kernel
theorem d_Mo_propose_40 : decode prog_12_method_30_code 40 = .ok (.iaload, 1) := by decide +kernel
theorem d_Mo_propose_41 : decode prog_12_method_30_code 41 = .ok (.ifCond .ne 10, 3) := by decide +kernel
theorem d_Mo_propose_44 : decode prog_12_method_30_code 44 = .ok (.aload_n 0, 1) := by decide +kernel
theorem d_Mo_propose_45 : decode prog_12_method_30_code 45 = .ok (.iconst 2, 1) := by decide +kernel
theorem d_Mo_propose_46 : decode prog_12_method_30_code 46 = .ok (.putfield 7, 3) := by decide +kernel
theorem d_Mo_propose_49 : decode prog_12_method_30_code 49 = .ok (.iconst 0, 1) := by decide +kernel
theorem d_Mo_propose_50 : decode prog_12_method_30_code 50 = .ok (.ireturn, 1) := by decide +kernel
theorem d_Mo_propose_51 : decode prog_12_method_30_code 51 = .ok (.aload_n 0, 1) := by decide +kernel
theorem d_Mo_propose_52 : decode prog_12_method_30_code 52 = .ok (.iload_n 1, 1) := by decide +kernel
theorem d_Mo_propose_53 : decode prog_12_method_30_code 53 = .ok (.iload_n 2, 1) := by decide +kernel
theorem d_Mo_propose_54 : decode prog_12_method_30_code 54 = .ok (.aload_n 0, 1) := by decide +kernel
theorem d_Mo_propose_55 : decode prog_12_method_30_code 55 = .ok (.getfield 39, 3) := by decide +kernel
theorem d_Mo_propose_58 : decode prog_12_method_30_code 58 = .ok (.iload_n 1, 1) := by decide +kernel
theorem d_Mo_propose_59 : decode prog_12_method_30_code 59 = .ok (.iaload, 1) := by decide +kernel
theorem d_Mo_propose_60 : decode prog_12_method_30_code 60 = .ok (.aload_n 0, 1) := by decide +kernel
theorem d_Mo_propose_61 : decode prog_12_method_30_code 61 = .ok (.getfield 48, 3) := by decide +kernel
theorem d_Mo_propose_64 : decode prog_12_method_30_code 64 = .ok (.bipush 24, 2) := by decide +kernel
theorem d_Mo_propose_66 : decode prog_12_method_30_code 66 = .ok (.iload_n 1, 1) := by decide +kernel
theorem d_Mo_propose_67 : decode prog_12_method_30_code 67 = .ok (.imul, 1) := by decide +kernel
theorem d_Mo_propose_68 : decode prog_12_method_30_code 68 = .ok (.aload_n 0, 1) := by decide +kernel
theorem d_Mo_propose_69 : decode prog_12_method_30_code 69 = .ok (.getfield 51, 3) := by decide +kernel
theorem d_Mo_propose_72 : decode prog_12_method_30_code 72 = .ok (.iload_n 1, 1) := by decide +kernel
theorem d_Mo_propose_73 : decode prog_12_method_30_code 73 = .ok (.iaload, 1) := by decide +kernel
theorem d_Mo_propose_74 : decode prog_12_method_30_code 74 = .ok (.invokevirtual 150, 3) := by decide +kernel
theorem d_Mo_propose_77 : decode prog_12_method_30_code 77 = .ok (.aload_n 0, 1) := by decide +kernel
theorem d_Mo_propose_78 : decode prog_12_method_30_code 78 = .ok (.getfield 51, 3) := by decide +kernel
theorem d_Mo_propose_81 : decode prog_12_method_30_code 81 = .ok (.iload_n 1, 1) := by decide +kernel
theorem d_Mo_propose_82 : decode prog_12_method_30_code 82 = .ok (.iconst 0, 1) := by decide +kernel
theorem d_Mo_propose_83 : decode prog_12_method_30_code 83 = .ok (.iastore, 1) := by decide +kernel
theorem d_Mo_propose_84 : decode prog_12_method_30_code 84 = .ok (.aload_n 0, 1) := by decide +kernel
theorem d_Mo_propose_85 : decode prog_12_method_30_code 85 = .ok (.iload_n 1, 1) := by decide +kernel
theorem d_Mo_propose_86 : decode prog_12_method_30_code 86 = .ok (.iload_n 2, 1) := by decide +kernel
theorem d_Mo_propose_87 : decode prog_12_method_30_code 87 = .ok (.invokevirtual 140, 3) := by decide +kernel
theorem d_Mo_propose_90 : decode prog_12_method_30_code 90 = .ok (.pop, 1) := by decide +kernel
theorem d_Mo_propose_91 : decode prog_12_method_30_code 91 = .ok (.iload_n 2, 1) := by decide +kernel
theorem d_Mo_propose_92 : decode prog_12_method_30_code 92 = .ok (.ireturn, 1) := by decide +kernel
theorem d_Mo_firstFree_0 : decode prog_12_method_24_code 0 = .ok (.aload_n 0, 1) := by decide +kernel
theorem d_Mo_firstFree_1 : decode prog_12_method_24_code 1 = .ok (.getfield 36, 3) := by decide +kernel
theorem d_Mo_firstFree_4 : decode prog_12_method_24_code 4 = .ok (.iload_n 1, 1) := by decide +kernel
theorem d_Mo_firstFree_5 : decode prog_12_method_24_code 5 = .ok (.iaload, 1) := by decide +kernel
theorem d_Mo_firstFree_6 : decode prog_12_method_24_code 6 = .ok (.iconst 2, 1) := by decide +kernel
theorem d_Mo_firstFree_7 : decode prog_12_method_24_code 7 = .ok (.if_icmp .eq 5, 3) := by decide +kernel
theorem d_Mo_firstFree_10 : decode prog_12_method_24_code 10 = .ok (.iconst (-1), 1) := by decide +kernel
theorem d_Mo_firstFree_11 : decode prog_12_method_24_code 11 = .ok (.ireturn, 1) := by decide +kernel
theorem d_Mo_firstFree_12 : decode prog_12_method_24_code 12 = .ok (.iconst 0, 1) := by decide +kernel
theorem d_Mo_firstFree_13 : decode prog_12_method_24_code 13 = .ok (.istore_n 2, 1) := by decide +kernel
theorem d_Mo_firstFree_14 : decode prog_12_method_24_code 14 = .ok (.iload_n 2, 1) := by decide +kernel
theorem d_Mo_firstFree_15 : decode prog_12_method_24_code 15 = .ok (.bipush 8, 2) := by decide +kernel
theorem d_Mo_firstFree_17 : decode prog_12_method_24_code 17 = .ok (.if_icmp .ge 37, 3) := by decide +kernel
theorem d_Mo_firstFree_20 : decode prog_12_method_24_code 20 = .ok (.aload_n 0, 1) := by decide +kernel
theorem d_Mo_firstFree_21 : decode prog_12_method_24_code 21 = .ok (.getfield 54, 3) := by decide +kernel
theorem d_Mo_firstFree_24 : decode prog_12_method_24_code 24 = .ok (.bipush 8, 2) := by decide +kernel
theorem d_Mo_firstFree_26 : decode prog_12_method_24_code 26 = .ok (.iload_n 1, 1) := by decide +kernel
theorem d_Mo_firstFree_27 : decode prog_12_method_24_code 27 = .ok (.imul, 1) := by decide +kernel
theorem d_Mo_firstFree_28 : decode prog_12_method_24_code 28 = .ok (.iload_n 2, 1) := by decide +kernel
theorem d_Mo_firstFree_29 : decode prog_12_method_24_code 29 = .ok (.iadd, 1) := by decide +kernel
theorem d_Mo_firstFree_30 : decode prog_12_method_24_code 30 = .ok (.iaload, 1) := by decide +kernel
theorem d_Mo_firstFree_31 : decode prog_12_method_24_code 31 = .ok (.ifCond .ne 17, 3) := by decide +kernel
theorem d_Mo_firstFree_34 : decode prog_12_method_24_code 34 = .ok (.aload_n 0, 1) := by decide +kernel
theorem d_Mo_firstFree_35 : decode prog_12_method_24_code 35 = .ok (.getfield 57, 3) := by decide +kernel
theorem d_Mo_firstFree_38 : decode prog_12_method_24_code 38 = .ok (.bipush 8, 2) := by decide +kernel
theorem d_Mo_firstFree_40 : decode prog_12_method_24_code 40 = .ok (.iload_n 1, 1) := by decide +kernel
theorem d_Mo_firstFree_41 : decode prog_12_method_24_code 41 = .ok (.imul, 1) := by decide +kernel
theorem d_Mo_firstFree_42 : decode prog_12_method_24_code 42 = .ok (.iload_n 2, 1) := by decide +kernel
theorem d_Mo_firstFree_43 : decode prog_12_method_24_code 43 = .ok (.iadd, 1) := by decide +kernel
theorem d_Mo_firstFree_44 : decode prog_12_method_24_code 44 = .ok (.iaload, 1) := by decide +kernel
theorem d_Mo_firstFree_45 : decode prog_12_method_24_code 45 = .ok (.ifCond .eq 9, 3) := by decide +kernel
theorem d_Mo_firstFree_48 : decode prog_12_method_24_code 48 = .ok (.iinc 2 1, 3) := by decide +kernel
theorem d_Mo_firstFree_51 : decode prog_12_method_24_code 51 = .ok (.goto (-37), 3) := by decide +kernel
theorem d_Mo_firstFree_54 : decode prog_12_method_24_code 54 = .ok (.iload_n 2, 1) := by decide +kernel
theorem d_Mo_firstFree_55 : decode prog_12_method_24_code 55 = .ok (.bipush 8, 2) := by decide +kernel
theorem d_Mo_firstFree_57 : decode prog_12_method_24_code 57 = .ok (.if_icmp .ne 7, 3) := by decide +kernel
theorem d_Mo_firstFree_60 : decode prog_12_method_24_code 60 = .ok (.iconst (-1), 1) := by decide +kernel
theorem d_Mo_firstFree_61 : decode prog_12_method_24_code 61 = .ok (.goto 4, 3) := by decide +kernel
theorem d_Mo_firstFree_64 : decode prog_12_method_24_code 64 = .ok (.iload_n 2, 1) := by decide +kernel
theorem d_Mo_firstFree_65 : decode prog_12_method_24_code 65 = .ok (.ireturn, 1) := by decide +kernel
theorem d_Mo_putForward_0 : decode prog_12_method_19_code 0 = .ok (.bipush 8, 2) := by decide +kernel
theorem d_Mo_putForward_2 : decode prog_12_method_19_code 2 = .ok (.iload_n 1, 1) := by decide +kernel
theorem d_Mo_putForward_3 : decode prog_12_method_19_code 3 = .ok (.imul, 1) := by decide +kernel
theorem d_Mo_putForward_4 : decode prog_12_method_19_code 4 = .ok (.iload_n 2, 1) := by decide +kernel
theorem d_Mo_putForward_5 : decode prog_12_method_19_code 5 = .ok (.iadd, 1) := by decide +kernel
theorem d_Mo_putForward_6 : decode prog_12_method_19_code 6 = .ok (.istore 7, 2) := by decide +kernel
theorem d_Mo_putForward_8 : decode prog_12_method_19_code 8 = .ok (.aload_n 0, 1) := by decide +kernel
theorem d_Mo_putForward_9 : decode prog_12_method_19_code 9 = .ok (.getfield 57, 3) := by decide +kernel
theorem d_Mo_putForward_12 : decode prog_12_method_19_code 12 = .ok (.iload 7, 2) := by decide +kernel
theorem d_Mo_putForward_14 : decode prog_12_method_19_code 14 = .ok (.iload_n 3, 1) := by decide +kernel
theorem d_Mo_putForward_15 : decode prog_12_method_19_code 15 = .ok (.iastore, 1) := by decide +kernel
theorem d_Mo_putForward_16 : decode prog_12_method_19_code 16 = .ok (.aload_n 0, 1) := by decide +kernel
theorem d_Mo_putForward_17 : decode prog_12_method_19_code 17 = .ok (.getfield 60, 3) := by decide +kernel
theorem d_Mo_putForward_20 : decode prog_12_method_19_code 20 = .ok (.iload 7, 2) := by decide +kernel
theorem d_Mo_putForward_22 : decode prog_12_method_19_code 22 = .ok (.iload 6, 2) := by decide +kernel
theorem d_Mo_putForward_24 : decode prog_12_method_19_code 24 = .ok (.iastore, 1) := by decide +kernel
theorem d_Mo_putForward_25 : decode prog_12_method_19_code 25 = .ok (.aload_n 0, 1) := by decide +kernel
theorem d_Mo_putForward_26 : decode prog_12_method_19_code 26 = .ok (.getfield 63, 3) := by decide +kernel
theorem d_Mo_putForward_29 : decode prog_12_method_19_code 29 = .ok (.iload 7, 2) := by decide +kernel
theorem d_Mo_putForward_31 : decode prog_12_method_19_code 31 = .ok (.iconst 0, 1) := by decide +kernel
theorem d_Mo_putForward_32 : decode prog_12_method_19_code 32 = .ok (.iastore, 1) := by decide +kernel
theorem d_Mo_putForward_33 : decode prog_12_method_19_code 33 = .ok (.iconst 0, 1) := by decide +kernel
theorem d_Mo_putForward_34 : decode prog_12_method_19_code 34 = .ok (.istore 8, 2) := by decide +kernel
theorem d_Mo_putForward_36 : decode prog_12_method_19_code 36 = .ok (.iload 8, 2) := by decide +kernel
theorem d_Mo_putForward_38 : decode prog_12_method_19_code 38 = .ok (.iload 6, 2) := by decide +kernel
theorem d_Mo_putForward_40 : decode prog_12_method_19_code 40 = .ok (.if_icmp .ge 30, 3) := by decide +kernel
theorem d_Mo_putForward_43 : decode prog_12_method_19_code 43 = .ok (.aload_n 0, 1) := by decide +kernel
theorem d_Mo_putForward_44 : decode prog_12_method_19_code 44 = .ok (.getfield 66, 3) := by decide +kernel
theorem d_Mo_putForward_47 : decode prog_12_method_19_code 47 = .ok (.bipush 24, 2) := by decide +kernel
theorem d_Mo_putForward_49 : decode prog_12_method_19_code 49 = .ok (.iload 7, 2) := by decide +kernel
theorem d_Mo_putForward_51 : decode prog_12_method_19_code 51 = .ok (.imul, 1) := by decide +kernel
theorem d_Mo_putForward_52 : decode prog_12_method_19_code 52 = .ok (.iload 8, 2) := by decide +kernel
theorem d_Mo_putForward_54 : decode prog_12_method_19_code 54 = .ok (.iadd, 1) := by decide +kernel
theorem d_Mo_putForward_55 : decode prog_12_method_19_code 55 = .ok (.aload 4, 2) := by decide +kernel
theorem d_Mo_putForward_57 : decode prog_12_method_19_code 57 = .ok (.iload 5, 2) := by decide +kernel
theorem d_Mo_putForward_59 : decode prog_12_method_19_code 59 = .ok (.iload 8, 2) := by decide +kernel
theorem d_Mo_putForward_61 : decode prog_12_method_19_code 61 = .ok (.iadd, 1) := by decide +kernel
theorem d_Mo_putForward_62 : decode prog_12_method_19_code 62 = .ok (.iaload, 1) := by decide +kernel
theorem d_Mo_putForward_63 : decode prog_12_method_19_code 63 = .ok (.iastore, 1) := by decide +kernel
theorem d_Mo_putForward_64 : decode prog_12_method_19_code 64 = .ok (.iinc 8 1, 3) := by decide +kernel
theorem d_Mo_putForward_67 : decode prog_12_method_19_code 67 = .ok (.goto (-31), 3) := by decide +kernel
theorem d_Mo_putForward_70 : decode prog_12_method_19_code 70 = .ok (.return_, 1) := by decide +kernel
theorem d_Mo_acceptAll_0 : decode prog_12_method_12_code 0 = .ok (.iconst 0, 1) := by decide +kernel
theorem d_Mo_acceptAll_1 : decode prog_12_method_12_code 1 = .ok (.istore_n 3, 1) := by decide +kernel
theorem d_Mo_acceptAll_2 : decode prog_12_method_12_code 2 = .ok (.iconst 0, 1) := by decide +kernel
theorem d_Mo_acceptAll_3 : decode prog_12_method_12_code 3 = .ok (.istore 4, 2) := by decide +kernel
theorem d_Mo_acceptAll_5 : decode prog_12_method_12_code 5 = .ok (.iload 4, 2) := by decide +kernel
theorem d_Mo_acceptAll_7 : decode prog_12_method_12_code 7 = .ok (.bipush 7, 2) := by decide +kernel
theorem d_Mo_acceptAll_9 : decode prog_12_method_12_code 9 = .ok (.if_icmp .ge 20, 3) := by decide +kernel
theorem d_Mo_acceptAll_12 : decode prog_12_method_12_code 12 = .ok (.iload_n 3, 1) := by decide +kernel
theorem d_Mo_acceptAll_13 : decode prog_12_method_12_code 13 = .ok (.aload_n 0, 1) := by decide +kernel
theorem d_Mo_acceptAll_14 : decode prog_12_method_12_code 14 = .ok (.iload_n 1, 1) := by decide +kernel
theorem d_Mo_acceptAll_15 : decode prog_12_method_12_code 15 = .ok (.iload_n 2, 1) := by decide +kernel
theorem d_Mo_acceptAll_16 : decode prog_12_method_12_code 16 = .ok (.iload 4, 2) := by decide +kernel
theorem d_Mo_acceptAll_18 : decode prog_12_method_12_code 18 = .ok (.invokevirtual 122, 3) := by decide +kernel
theorem d_Mo_acceptAll_21 : decode prog_12_method_12_code 21 = .ok (.iadd, 1) := by decide +kernel
theorem d_Mo_acceptAll_22 : decode prog_12_method_12_code 22 = .ok (.istore_n 3, 1) := by decide +kernel
theorem d_Mo_acceptAll_23 : decode prog_12_method_12_code 23 = .ok (.iinc 4 1, 3) := by decide +kernel
theorem d_Mo_acceptAll_26 : decode prog_12_method_12_code 26 = .ok (.goto (-21), 3) := by decide +kernel
theorem d_Mo_acceptAll_29 : decode prog_12_method_12_code 29 = .ok (.iload_n 3, 1) := by decide +kernel
theorem d_Mo_acceptAll_30 : decode prog_12_method_12_code 30 = .ok (.ireturn, 1) := by decide +kernel
theorem d_Mo_accept_0 : decode prog_12_method_11_code 0 = .ok (.aload_n 0, 1) := by decide +kernel
theorem d_Mo_accept_1 : decode prog_12_method_11_code 1 = .ok (.iconst 2, 1) := by decide +kernel
theorem d_Mo_accept_2 : decode prog_12_method_11_code 2 = .ok (.iload_n 3, 1) := by decide +kernel
theorem d_Mo_accept_3 : decode prog_12_method_11_code 3 = .ok (.iload_n 1, 1) := by decide +kernel
theorem d_Mo_accept_4 : decode prog_12_method_11_code 4 = .ok (.aload_n 0, 1) := by decide +kernel
theorem d_Mo_accept_5 : decode prog_12_method_11_code 5 = .ok (.getfield 39, 3) := by decide +kernel
theorem d_Mo_accept_8 : decode prog_12_method_11_code 8 = .ok (.iload_n 1, 1) := by decide +kernel
theorem d_Mo_accept_9 : decode prog_12_method_11_code 9 = .ok (.iaload, 1) := by decide +kernel
theorem d_Mo_accept_10 : decode prog_12_method_11_code 10 = .ok (.invokevirtual 114, 3) := by decide +kernel
theorem d_Mo_accept_13 : decode prog_12_method_11_code 13 = .ok (.ifCond .ne 5, 3) := by decide +kernel
theorem d_Mo_accept_16 : decode prog_12_method_11_code 16 = .ok (.iconst 0, 1) := by decide +kernel
theorem d_Mo_accept_17 : decode prog_12_method_11_code 17 = .ok (.ireturn, 1) := by decide +kernel
theorem d_Mo_accept_18 : decode prog_12_method_11_code 18 = .ok (.bipush 7, 2) := by decide +kernel
theorem d_Mo_accept_20 : decode prog_12_method_11_code 20 = .ok (.aload_n 0, 1) := by decide +kernel
theorem d_Mo_accept_21 : decode prog_12_method_11_code 21 = .ok (.getfield 27, 3) := by decide +kernel
theorem d_Mo_accept_24 : decode prog_12_method_11_code 24 = .ok (.imul, 1) := by decide +kernel
theorem d_Mo_accept_25 : decode prog_12_method_11_code 25 = .ok (.bipush 7, 2) := by decide +kernel
theorem d_Mo_accept_27 : decode prog_12_method_11_code 27 = .ok (.isub, 1) := by decide +kernel
theorem d_Mo_accept_28 : decode prog_12_method_11_code 28 = .ok (.istore 4, 2) := by decide +kernel
theorem d_Mo_accept_30 : decode prog_12_method_11_code 30 = .ok (.bipush 8, 2) := by decide +kernel
theorem d_Mo_accept_32 : decode prog_12_method_11_code 32 = .ok (.iload_n 1, 1) := by decide +kernel
theorem d_Mo_accept_33 : decode prog_12_method_11_code 33 = .ok (.imul, 1) := by decide +kernel
theorem d_Mo_accept_34 : decode prog_12_method_11_code 34 = .ok (.iload_n 2, 1) := by decide +kernel
theorem d_Mo_accept_35 : decode prog_12_method_11_code 35 = .ok (.iadd, 1) := by decide +kernel
theorem d_Mo_accept_36 : decode prog_12_method_11_code 36 = .ok (.istore 5, 2) := by decide +kernel
theorem d_Mo_accept_38 : decode prog_12_method_11_code 38 = .ok (.aload_n 0, 1) := by decide +kernel
theorem d_Mo_accept_39 : decode prog_12_method_11_code 39 = .ok (.getfield 30, 3) := by decide +kernel
theorem d_Mo_accept_42 : decode prog_12_method_11_code 42 = .ok (.iload 4, 2) := by decide +kernel
theorem d_Mo_accept_44 : decode prog_12_method_11_code 44 = .ok (.iconst 4, 1) := by decide +kernel
theorem d_Mo_accept_45 : decode prog_12_method_11_code 45 = .ok (.iadd, 1) := by decide +kernel
theorem d_Mo_accept_46 : decode prog_12_method_11_code 46 = .ok (.iload_n 2, 1) := by decide +kernel
theorem d_Mo_accept_47 : decode prog_12_method_11_code 47 = .ok (.iastore, 1) := by decide +kernel
theorem d_Mo_accept_48 : decode prog_12_method_11_code 48 = .ok (.aload_n 0, 1) := by decide +kernel
theorem d_Mo_accept_49 : decode prog_12_method_11_code 49 = .ok (.getfield 30, 3) := by decide +kernel
theorem d_Mo_accept_52 : decode prog_12_method_11_code 52 = .ok (.iload 4, 2) := by decide +kernel
theorem d_Mo_accept_54 : decode prog_12_method_11_code 54 = .ok (.iconst 5, 1) := by decide +kernel
theorem d_Mo_accept_55 : decode prog_12_method_11_code 55 = .ok (.iadd, 1) := by decide +kernel
theorem d_Mo_accept_56 : decode prog_12_method_11_code 56 = .ok (.aload_n 0, 1) := by decide +kernel
theorem d_Mo_accept_57 : decode prog_12_method_11_code 57 = .ok (.getfield 57, 3) := by decide +kernel
theorem d_Mo_accept_60 : decode prog_12_method_11_code 60 = .ok (.iload 5, 2) := by decide +kernel
theorem d_Mo_accept_62 : decode prog_12_method_11_code 62 = .ok (.iaload, 1) := by decide +kernel
theorem d_Mo_accept_63 : decode prog_12_method_11_code 63 = .ok (.iastore, 1) := by decide +kernel
theorem d_Mo_accept_64 : decode prog_12_method_11_code 64 = .ok (.aload_n 0, 1) := by decide +kernel
theorem d_Mo_accept_65 : decode prog_12_method_11_code 65 = .ok (.getfield 30, 3) := by decide +kernel
theorem d_Mo_accept_68 : decode prog_12_method_11_code 68 = .ok (.iload 4, 2) := by decide +kernel
theorem d_Mo_accept_70 : decode prog_12_method_11_code 70 = .ok (.bipush 6, 2) := by decide +kernel
theorem d_Mo_accept_72 : decode prog_12_method_11_code 72 = .ok (.iadd, 1) := by decide +kernel
theorem d_Mo_accept_73 : decode prog_12_method_11_code 73 = .ok (.aload_n 0, 1) := by decide +kernel
theorem d_Mo_accept_74 : decode prog_12_method_11_code 74 = .ok (.getfield 60, 3) := by decide +kernel
theorem d_Mo_accept_77 : decode prog_12_method_11_code 77 = .ok (.iload 5, 2) := by decide +kernel
theorem d_Mo_accept_79 : decode prog_12_method_11_code 79 = .ok (.iaload, 1) := by decide +kernel
theorem d_Mo_accept_80 : decode prog_12_method_11_code 80 = .ok (.iastore, 1) := by decide +kernel
theorem d_Mo_accept_81 : decode prog_12_method_11_code 81 = .ok (.iconst 0, 1) := by decide +kernel
theorem d_Mo_accept_82 : decode prog_12_method_11_code 82 = .ok (.istore 6, 2) := by decide +kernel
theorem d_Mo_accept_84 : decode prog_12_method_11_code 84 = .ok (.iload 6, 2) := by decide +kernel
theorem d_Mo_accept_86 : decode prog_12_method_11_code 86 = .ok (.aload_n 0, 1) := by decide +kernel
theorem d_Mo_accept_87 : decode prog_12_method_11_code 87 = .ok (.getfield 60, 3) := by decide +kernel
theorem d_Mo_accept_90 : decode prog_12_method_11_code 90 = .ok (.iload 5, 2) := by decide +kernel
theorem d_Mo_accept_92 : decode prog_12_method_11_code 92 = .ok (.iaload, 1) := by decide +kernel
theorem d_Mo_accept_93 : decode prog_12_method_11_code 93 = .ok (.invokestatic 100, 3) := by decide +kernel
theorem d_Mo_accept_96 : decode prog_12_method_11_code 96 = .ok (.if_icmp .ge 50, 3) := by decide +kernel
theorem d_Mo_accept_99 : decode prog_12_method_11_code 99 = .ok (.aload_n 0, 1) := by decide +kernel
theorem d_Mo_accept_100 : decode prog_12_method_11_code 100 = .ok (.getfield 33, 3) := by decide +kernel
theorem d_Mo_accept_103 : decode prog_12_method_11_code 103 = .ok (.bipush 88, 2) := by decide +kernel
theorem d_Mo_accept_105 : decode prog_12_method_11_code 105 = .ok (.aload_n 0, 1) := by decide +kernel
theorem d_Mo_accept_106 : decode prog_12_method_11_code 106 = .ok (.getfield 27, 3) := by decide +kernel
theorem d_Mo_accept_109 : decode prog_12_method_11_code 109 = .ok (.imul, 1) := by decide +kernel
theorem d_Mo_accept_110 : decode prog_12_method_11_code 110 = .ok (.bipush 88, 2) := by decide +kernel
theorem d_Mo_accept_112 : decode prog_12_method_11_code 112 = .ok (.isub, 1) := by decide +kernel
theorem d_Mo_accept_113 : decode prog_12_method_11_code 113 = .ok (.iload 6, 2) := by decide +kernel
theorem d_Mo_accept_115 : decode prog_12_method_11_code 115 = .ok (.iadd, 1) := by decide +kernel
theorem d_Mo_accept_116 : decode prog_12_method_11_code 116 = .ok (.aload_n 0, 1) := by decide +kernel
theorem d_Mo_accept_117 : decode prog_12_method_11_code 117 = .ok (.aload_n 0, 1) := by decide +kernel
theorem d_Mo_accept_118 : decode prog_12_method_11_code 118 = .ok (.getfield 66, 3) := by decide +kernel
theorem d_Mo_accept_121 : decode prog_12_method_11_code 121 = .ok (.bipush 24, 2) := by decide +kernel
theorem d_Mo_accept_123 : decode prog_12_method_11_code 123 = .ok (.iload 5, 2) := by decide +kernel
theorem d_Mo_accept_125 : decode prog_12_method_11_code 125 = .ok (.imul, 1) := by decide +kernel
theorem d_Mo_accept_126 : decode prog_12_method_11_code 126 = .ok (.aload_n 0, 1) := by decide +kernel
theorem d_Mo_accept_127 : decode prog_12_method_11_code 127 = .ok (.getfield 60, 3) := by decide +kernel
theorem d_Mo_accept_130 : decode prog_12_method_11_code 130 = .ok (.iload 5, 2) := by decide +kernel
theorem d_Mo_accept_132 : decode prog_12_method_11_code 132 = .ok (.iaload, 1) := by decide +kernel
theorem d_Mo_accept_133 : decode prog_12_method_11_code 133 = .ok (.iload_n 3, 1) := by decide +kernel
theorem d_Mo_accept_134 : decode prog_12_method_11_code 134 = .ok (.iload 6, 2) := by decide +kernel
theorem d_Mo_accept_136 : decode prog_12_method_11_code 136 = .ok (.invokevirtual 118, 3) := by decide +kernel
theorem d_Mo_accept_139 : decode prog_12_method_11_code 139 = .ok (.iastore, 1) := by decide +kernel
theorem d_Mo_accept_140 : decode prog_12_method_11_code 140 = .ok (.iinc 6 1, 3) := by decide +kernel
theorem d_Mo_accept_143 : decode prog_12_method_11_code 143 = .ok (.goto (-59), 3) := by decide +kernel
theorem d_Mo_accept_146 : decode prog_12_method_11_code 146 = .ok (.iconst 1, 1) := by decide +kernel
theorem d_Mo_accept_147 : decode prog_12_method_11_code 147 = .ok (.ireturn, 1) := by decide +kernel
theorem d_Mo_third_0 : decode prog_12_method_4_code 0 = .ok (.iload_n 0, 1) := by decide +kernel
theorem d_Mo_third_1 : decode prog_12_method_4_code 1 = .ok (.iconst 2, 1) := by decide +kernel
theorem d_Mo_third_2 : decode prog_12_method_4_code 2 = .ok (.iadd, 1) := by decide +kernel
theorem d_Mo_third_3 : decode prog_12_method_4_code 3 = .ok (.iconst 3, 1) := by decide +kernel
theorem d_Mo_third_4 : decode prog_12_method_4_code 4 = .ok (.idiv, 1) := by decide +kernel
theorem d_Mo_third_5 : decode prog_12_method_4_code 5 = .ok (.ireturn, 1) := by decide +kernel
theorem d_Mo_shareByte_0 : decode prog_12_method_5_code 0 = .ok (.iload_n 3, 1) := by decide +kernel
theorem d_Mo_shareByte_1 : decode prog_12_method_5_code 1 = .ok (.invokestatic 100, 3) := by decide +kernel
theorem d_Mo_shareByte_4 : decode prog_12_method_5_code 4 = .ok (.istore 6, 2) := by decide +kernel
theorem d_Mo_shareByte_6 : decode prog_12_method_5_code 6 = .ok (.iload 4, 2) := by decide +kernel
theorem d_Mo_shareByte_8 : decode prog_12_method_5_code 8 = .ok (.iconst 1, 1) := by decide +kernel
theorem d_Mo_shareByte_9 : decode prog_12_method_5_code 9 = .ok (.iadd, 1) := by decide +kernel
theorem d_Mo_shareByte_10 : decode prog_12_method_5_code 10 = .ok (.istore 7, 2) := by decide +kernel
theorem d_Mo_shareByte_12 : decode prog_12_method_5_code 12 = .ok (.iconst 0, 1) := by decide +kernel
theorem d_Mo_shareByte_13 : decode prog_12_method_5_code 13 = .ok (.istore 8, 2) := by decide +kernel
theorem d_Mo_shareByte_15 : decode prog_12_method_5_code 15 = .ok (.iconst 2, 1) := by decide +kernel
theorem d_Mo_shareByte_16 : decode prog_12_method_5_code 16 = .ok (.istore 9, 2) := by decide +kernel
theorem d_Mo_shareByte_18 : decode prog_12_method_5_code 18 = .ok (.iload 9, 2) := by decide +kernel
theorem d_Mo_shareByte_20 : decode prog_12_method_5_code 20 = .ok (.ifCond .lt 52, 3) := by decide +kernel
theorem d_Mo_shareByte_23 : decode prog_12_method_5_code 23 = .ok (.iload 6, 2) := by decide +kernel
theorem d_Mo_shareByte_25 : decode prog_12_method_5_code 25 = .ok (.iload 9, 2) := by decide +kernel
theorem d_Mo_shareByte_27 : decode prog_12_method_5_code 27 = .ok (.imul, 1) := by decide +kernel
theorem d_Mo_shareByte_28 : decode prog_12_method_5_code 28 = .ok (.iload 5, 2) := by decide +kernel
theorem d_Mo_shareByte_30 : decode prog_12_method_5_code 30 = .ok (.iadd, 1) := by decide +kernel
theorem d_Mo_shareByte_31 : decode prog_12_method_5_code 31 = .ok (.iload_n 3, 1) := by decide +kernel
theorem d_Mo_shareByte_32 : decode prog_12_method_5_code 32 = .ok (.if_icmp .ge 18, 3) := by decide +kernel
theorem d_Mo_shareByte_35 : decode prog_12_method_5_code 35 = .ok (.aload_n 1, 1) := by decide +kernel
theorem d_Mo_shareByte_36 : decode prog_12_method_5_code 36 = .ok (.iload_n 2, 1) := by decide +kernel
theorem d_Mo_shareByte_37 : decode prog_12_method_5_code 37 = .ok (.iload 6, 2) := by decide +kernel
theorem d_Mo_shareByte_39 : decode prog_12_method_5_code 39 = .ok (.iload 9, 2) := by decide +kernel
theorem d_Mo_shareByte_41 : decode prog_12_method_5_code 41 = .ok (.imul, 1) := by decide +kernel
theorem d_Mo_shareByte_42 : decode prog_12_method_5_code 42 = .ok (.iadd, 1) := by decide +kernel
theorem d_Mo_shareByte_43 : decode prog_12_method_5_code 43 = .ok (.iload 5, 2) := by decide +kernel
theorem d_Mo_shareByte_45 : decode prog_12_method_5_code 45 = .ok (.iadd, 1) := by decide +kernel
theorem d_Mo_shareByte_46 : decode prog_12_method_5_code 46 = .ok (.iaload, 1) := by decide +kernel
theorem d_Mo_shareByte_47 : decode prog_12_method_5_code 47 = .ok (.goto 4, 3) := by decide +kernel
theorem d_Mo_shareByte_50 : decode prog_12_method_5_code 50 = .ok (.iconst 0, 1) := by decide +kernel
theorem d_Mo_shareByte_51 : decode prog_12_method_5_code 51 = .ok (.istore 10, 2) := by decide +kernel
theorem d_Mo_shareByte_53 : decode prog_12_method_5_code 53 = .ok (.aload_n 0, 1) := by decide +kernel
theorem d_Mo_shareByte_54 : decode prog_12_method_5_code 54 = .ok (.iload 8, 2) := by decide +kernel
theorem d_Mo_shareByte_56 : decode prog_12_method_5_code 56 = .ok (.iload 7, 2) := by decide +kernel
theorem d_Mo_shareByte_58 : decode prog_12_method_5_code 58 = .ok (.invokevirtual 104, 3) := by decide +kernel
theorem d_Mo_shareByte_61 : decode prog_12_method_5_code 61 = .ok (.iload 10, 2) := by decide +kernel
theorem d_Mo_shareByte_63 : decode prog_12_method_5_code 63 = .ok (.ixor, 1) := by decide +kernel
theorem d_Mo_shareByte_64 : decode prog_12_method_5_code 64 = .ok (.istore 8, 2) := by decide +kernel
theorem d_Mo_shareByte_66 : decode prog_12_method_5_code 66 = .ok (.iinc 9 (-1), 3) := by decide +kernel
theorem d_Mo_shareByte_69 : decode prog_12_method_5_code 69 = .ok (.goto (-51), 3) := by decide +kernel
theorem d_Mo_shareByte_72 : decode prog_12_method_5_code 72 = .ok (.iload 8, 2) := by decide +kernel
theorem d_Mo_shareByte_74 : decode prog_12_method_5_code 74 = .ok (.ireturn, 1) := by decide +kernel
theorem d_Mo_product_0 : decode prog_12_method_3_code 0 = .ok (.iload_n 1, 1) := by decide +kernel
theorem d_Mo_product_1 : decode prog_12_method_3_code 1 = .ok (.ifCond .eq 7, 3) := by decide +kernel
theorem d_Mo_product_4 : decode prog_12_method_3_code 4 = .ok (.iload_n 2, 1) := by decide +kernel
theorem d_Mo_product_5 : decode prog_12_method_3_code 5 = .ok (.ifCond .ne 7, 3) := by decide +kernel
theorem d_Mo_product_8 : decode prog_12_method_3_code 8 = .ok (.iconst 0, 1) := by decide +kernel
theorem d_Mo_product_9 : decode prog_12_method_3_code 9 = .ok (.goto 21, 3) := by decide +kernel
theorem d_Mo_product_12 : decode prog_12_method_3_code 12 = .ok (.aload_n 0, 1) := by decide +kernel
theorem d_Mo_product_13 : decode prog_12_method_3_code 13 = .ok (.getfield 69, 3) := by decide +kernel
theorem d_Mo_product_16 : decode prog_12_method_3_code 16 = .ok (.aload_n 0, 1) := by decide +kernel
theorem d_Mo_product_17 : decode prog_12_method_3_code 17 = .ok (.getfield 72, 3) := by decide +kernel
theorem d_Mo_product_20 : decode prog_12_method_3_code 20 = .ok (.iload_n 1, 1) := by decide +kernel
theorem d_Mo_product_21 : decode prog_12_method_3_code 21 = .ok (.iaload, 1) := by decide +kernel
theorem d_Mo_product_22 : decode prog_12_method_3_code 22 = .ok (.aload_n 0, 1) := by decide +kernel
theorem d_Mo_product_23 : decode prog_12_method_3_code 23 = .ok (.getfield 72, 3) := by decide +kernel
theorem d_Mo_product_26 : decode prog_12_method_3_code 26 = .ok (.iload_n 2, 1) := by decide +kernel
theorem d_Mo_product_27 : decode prog_12_method_3_code 27 = .ok (.iaload, 1) := by decide +kernel
theorem d_Mo_product_28 : decode prog_12_method_3_code 28 = .ok (.iadd, 1) := by decide +kernel
theorem d_Mo_product_29 : decode prog_12_method_3_code 29 = .ok (.iaload, 1) := by decide +kernel
theorem d_Mo_product_30 : decode prog_12_method_3_code 30 = .ok (.ireturn, 1) := by decide +kernel
theorem d_Mo_resend_0 : decode prog_12_method_31_code 0 = .ok (.aload_n 0, 1) := by decide +kernel
theorem d_Mo_resend_1 : decode prog_12_method_31_code 1 = .ok (.iload_n 1, 1) := by decide +kernel
theorem d_Mo_resend_2 : decode prog_12_method_31_code 2 = .ok (.invokestatic 158, 3) := by decide +kernel
theorem d_Mo_resend_5 : decode prog_12_method_31_code 5 = .ok (.ifCond .eq 7, 3) := by decide +kernel
theorem d_Mo_resend_8 : decode prog_12_method_31_code 8 = .ok (.iconst 1, 1) := by decide +kernel
theorem d_Mo_resend_9 : decode prog_12_method_31_code 9 = .ok (.goto 4, 3) := by decide +kernel
theorem d_Mo_resend_12 : decode prog_12_method_31_code 12 = .ok (.iconst 0, 1) := by decide +kernel
theorem d_Mo_resend_13 : decode prog_12_method_31_code 13 = .ok (.putfield 7, 3) := by decide +kernel
theorem d_Mo_resend_16 : decode prog_12_method_31_code 16 = .ok (.aload_n 0, 1) := by decide +kernel
theorem d_Mo_resend_17 : decode prog_12_method_31_code 17 = .ok (.getfield 7, 3) := by decide +kernel
theorem d_Mo_resend_20 : decode prog_12_method_31_code 20 = .ok (.ifCond .eq 5, 3) := by decide +kernel
theorem d_Mo_resend_23 : decode prog_12_method_31_code 23 = .ok (.iconst 0, 1) := by decide +kernel
theorem d_Mo_resend_24 : decode prog_12_method_31_code 24 = .ok (.ireturn, 1) := by decide +kernel
theorem d_Mo_resend_25 : decode prog_12_method_31_code 25 = .ok (.iconst 0, 1) := by decide +kernel
theorem d_Mo_resend_26 : decode prog_12_method_31_code 26 = .ok (.istore_n 2, 1) := by decide +kernel
theorem d_Mo_resend_27 : decode prog_12_method_31_code 27 = .ok (.iconst 0, 1) := by decide +kernel
theorem d_Mo_resend_28 : decode prog_12_method_31_code 28 = .ok (.istore_n 3, 1) := by decide +kernel
theorem d_Mo_resend_29 : decode prog_12_method_31_code 29 = .ok (.iload_n 3, 1) := by decide +kernel
theorem d_Mo_resend_30 : decode prog_12_method_31_code 30 = .ok (.bipush 7, 2) := by decide +kernel
theorem d_Mo_resend_32 : decode prog_12_method_31_code 32 = .ok (.if_icmp .ge 41, 3) := by decide +kernel
theorem d_Mo_resend_35 : decode prog_12_method_31_code 35 = .ok (.aload_n 0, 1) := by decide +kernel
theorem d_Mo_resend_36 : decode prog_12_method_31_code 36 = .ok (.getfield 36, 3) := by decide +kernel
theorem d_Mo_resend_39 : decode prog_12_method_31_code 39 = .ok (.iload_n 1, 1) := by decide +kernel
theorem d_Mo_resend_40 : decode prog_12_method_31_code 40 = .ok (.iaload, 1) := by decide +kernel
theorem d_Mo_resend_41 : decode prog_12_method_31_code 41 = .ok (.iconst 1, 1) := by decide +kernel
theorem d_Mo_resend_42 : decode prog_12_method_31_code 42 = .ok (.if_icmp .ne 31, 3) := by decide +kernel
theorem d_Mo_resend_45 : decode prog_12_method_31_code 45 = .ok (.aload_n 0, 1) := by decide +kernel
theorem d_Mo_resend_46 : decode prog_12_method_31_code 46 = .ok (.getfield 42, 3) := by decide +kernel
theorem d_Mo_resend_49 : decode prog_12_method_31_code 49 = .ok (.iload_n 1, 1) := by decide +kernel
theorem d_Mo_resend_50 : decode prog_12_method_31_code 50 = .ok (.iaload, 1) := by decide +kernel
theorem d_Mo_resend_51 : decode prog_12_method_31_code 51 = .ok (.iload_n 3, 1) := by decide +kernel
theorem d_Mo_resend_52 : decode prog_12_method_31_code 52 = .ok (.ishr, 1) := by decide +kernel
theorem d_Mo_resend_53 : decode prog_12_method_31_code 53 = .ok (.iconst 1, 1) := by decide +kernel
theorem d_Mo_resend_54 : decode prog_12_method_31_code 54 = .ok (.iand, 1) := by decide +kernel
theorem d_Mo_resend_55 : decode prog_12_method_31_code 55 = .ok (.ifCond .ne 12, 3) := by decide +kernel
theorem d_Mo_resend_58 : decode prog_12_method_31_code 58 = .ok (.iload_n 2, 1) := by decide +kernel
theorem d_Mo_resend_59 : decode prog_12_method_31_code 59 = .ok (.aload_n 0, 1) := by decide +kernel
theorem d_Mo_resend_60 : decode prog_12_method_31_code 60 = .ok (.iload_n 1, 1) := by decide +kernel
theorem d_Mo_resend_61 : decode prog_12_method_31_code 61 = .ok (.iload_n 3, 1) := by decide +kernel
theorem d_Mo_resend_62 : decode prog_12_method_31_code 62 = .ok (.invokevirtual 162, 3) := by decide +kernel
theorem d_Mo_resend_65 : decode prog_12_method_31_code 65 = .ok (.iadd, 1) := by decide +kernel
theorem d_Mo_resend_66 : decode prog_12_method_31_code 66 = .ok (.istore_n 2, 1) := by decide +kernel
theorem d_Mo_resend_67 : decode prog_12_method_31_code 67 = .ok (.iinc 3 1, 3) := by decide +kernel
theorem d_Mo_resend_70 : decode prog_12_method_31_code 70 = .ok (.goto (-41), 3) := by decide +kernel
theorem d_Mo_resend_73 : decode prog_12_method_31_code 73 = .ok (.iconst 0, 1) := by decide +kernel
theorem d_Mo_resend_74 : decode prog_12_method_31_code 74 = .ok (.istore_n 3, 1) := by decide +kernel
theorem d_Mo_resend_75 : decode prog_12_method_31_code 75 = .ok (.iload_n 3, 1) := by decide +kernel
theorem d_Mo_resend_76 : decode prog_12_method_31_code 76 = .ok (.bipush 8, 2) := by decide +kernel
theorem d_Mo_resend_78 : decode prog_12_method_31_code 78 = .ok (.if_icmp .ge 79, 3) := by decide +kernel
theorem d_Mo_resend_81 : decode prog_12_method_31_code 81 = .ok (.aload_n 0, 1) := by decide +kernel
theorem d_Mo_resend_82 : decode prog_12_method_31_code 82 = .ok (.getfield 36, 3) := by decide +kernel
theorem d_Mo_resend_85 : decode prog_12_method_31_code 85 = .ok (.iload_n 1, 1) := by decide +kernel
theorem d_Mo_resend_86 : decode prog_12_method_31_code 86 = .ok (.iaload, 1) := by decide +kernel
theorem d_Mo_resend_87 : decode prog_12_method_31_code 87 = .ok (.iconst 2, 1) := by decide +kernel
theorem d_Mo_resend_88 : decode prog_12_method_31_code 88 = .ok (.if_icmp .ne 69, 3) := by decide +kernel
theorem d_Mo_resend_91 : decode prog_12_method_31_code 91 = .ok (.iconst 0, 1) := by decide +kernel
theorem d_Mo_resend_92 : decode prog_12_method_31_code 92 = .ok (.istore 4, 2) := by decide +kernel
theorem d_Mo_resend_94 : decode prog_12_method_31_code 94 = .ok (.iload 4, 2) := by decide +kernel
theorem d_Mo_resend_96 : decode prog_12_method_31_code 96 = .ok (.bipush 7, 2) := by decide +kernel
theorem d_Mo_resend_98 : decode prog_12_method_31_code 98 = .ok (.if_icmp .ge 53, 3) := by decide +kernel
theorem d_Mo_resend_101 : decode prog_12_method_31_code 101 = .ok (.aload_n 0, 1) := by decide +kernel
theorem d_Mo_resend_102 : decode prog_12_method_31_code 102 = .ok (.getfield 57, 3) := by decide +kernel
theorem d_Mo_resend_105 : decode prog_12_method_31_code 105 = .ok (.bipush 8, 2) := by decide +kernel
theorem d_Mo_resend_107 : decode prog_12_method_31_code 107 = .ok (.iload_n 1, 1) := by decide +kernel
theorem d_Mo_resend_108 : decode prog_12_method_31_code 108 = .ok (.imul, 1) := by decide +kernel
theorem d_Mo_resend_109 : decode prog_12_method_31_code 109 = .ok (.iload_n 3, 1) := by decide +kernel
theorem d_Mo_resend_110 : decode prog_12_method_31_code 110 = .ok (.iadd, 1) := by decide +kernel
theorem d_Mo_resend_111 : decode prog_12_method_31_code 111 = .ok (.iaload, 1) := by decide +kernel
theorem d_Mo_resend_112 : decode prog_12_method_31_code 112 = .ok (.ifCond .eq 33, 3) := by decide +kernel
theorem d_Mo_resend_115 : decode prog_12_method_31_code 115 = .ok (.aload_n 0, 1) := by decide +kernel
theorem d_Mo_resend_116 : decode prog_12_method_31_code 116 = .ok (.getfield 63, 3) := by decide +kernel
theorem d_Mo_resend_119 : decode prog_12_method_31_code 119 = .ok (.bipush 8, 2) := by decide +kernel
theorem d_Mo_resend_121 : decode prog_12_method_31_code 121 = .ok (.iload_n 1, 1) := by decide +kernel
theorem d_Mo_resend_122 : decode prog_12_method_31_code 122 = .ok (.imul, 1) := by decide +kernel
theorem d_Mo_resend_123 : decode prog_12_method_31_code 123 = .ok (.iload_n 3, 1) := by decide +kernel
theorem d_Mo_resend_124 : decode prog_12_method_31_code 124 = .ok (.iadd, 1) := by decide +kernel
theorem d_Mo_resend_125 : decode prog_12_method_31_code 125 = .ok (.iaload, 1) := by decide +kernel
theorem d_Mo_resend_126 : decode prog_12_method_31_code 126 = .ok (.iload 4, 2) := by decide +kernel
theorem d_Mo_resend_128 : decode prog_12_method_31_code 128 = .ok (.ishr, 1) := by decide +kernel
theorem d_Mo_resend_129 : decode prog_12_method_31_code 129 = .ok (.iconst 1, 1) := by decide +kernel
theorem d_Mo_resend_130 : decode prog_12_method_31_code 130 = .ok (.iand, 1) := by decide +kernel
theorem d_Mo_resend_131 : decode prog_12_method_31_code 131 = .ok (.ifCond .ne 14, 3) := by decide +kernel
theorem d_Mo_resend_134 : decode prog_12_method_31_code 134 = .ok (.iload_n 2, 1) := by decide +kernel
theorem d_Mo_resend_135 : decode prog_12_method_31_code 135 = .ok (.aload_n 0, 1) := by decide +kernel
theorem d_Mo_resend_136 : decode prog_12_method_31_code 136 = .ok (.iload_n 1, 1) := by decide +kernel
theorem d_Mo_resend_137 : decode prog_12_method_31_code 137 = .ok (.iload_n 3, 1) := by decide +kernel
theorem d_Mo_resend_138 : decode prog_12_method_31_code 138 = .ok (.iload 4, 2) := by decide +kernel
theorem d_Mo_resend_140 : decode prog_12_method_31_code 140 = .ok (.invokevirtual 122, 3) := by decide +kernel
theorem d_Mo_resend_143 : decode prog_12_method_31_code 143 = .ok (.iadd, 1) := by decide +kernel
theorem d_Mo_resend_144 : decode prog_12_method_31_code 144 = .ok (.istore_n 2, 1) := by decide +kernel
theorem d_Mo_resend_145 : decode prog_12_method_31_code 145 = .ok (.iinc 4 1, 3) := by decide +kernel
theorem d_Mo_resend_148 : decode prog_12_method_31_code 148 = .ok (.goto (-54), 3) := by decide +kernel
theorem d_Mo_resend_151 : decode prog_12_method_31_code 151 = .ok (.iinc 3 1, 3) := by decide +kernel
theorem d_Mo_resend_154 : decode prog_12_method_31_code 154 = .ok (.goto (-79), 3) := by decide +kernel
theorem d_Mo_resend_157 : decode prog_12_method_31_code 157 = .ok (.iload_n 2, 1) := by decide +kernel
theorem d_Mo_resend_158 : decode prog_12_method_31_code 158 = .ok (.ireturn, 1) := by decide +kernel
theorem d_Mo_deliver_0 : decode prog_12_method_33_code 0 = .ok (.aload_n 0, 1) := by decide +kernel
theorem d_Mo_deliver_1 : decode prog_12_method_33_code 1 = .ok (.aload_n 0, 1) := by decide +kernel
theorem d_Mo_deliver_2 : decode prog_12_method_33_code 2 = .ok (.iload_n 1, 1) := by decide +kernel
theorem d_Mo_deliver_3 : decode prog_12_method_33_code 3 = .ok (.invokevirtual 168, 3) := by decide +kernel
theorem d_Mo_deliver_6 : decode prog_12_method_33_code 6 = .ok (.ifCond .eq 7, 3) := by decide +kernel
theorem d_Mo_deliver_9 : decode prog_12_method_33_code 9 = .ok (.iconst 1, 1) := by decide +kernel
theorem d_Mo_deliver_10 : decode prog_12_method_33_code 10 = .ok (.goto 4, 3) := by decide +kernel
theorem d_Mo_deliver_13 : decode prog_12_method_33_code 13 = .ok (.iconst 0, 1) := by decide +kernel
theorem d_Mo_deliver_14 : decode prog_12_method_33_code 14 = .ok (.putfield 7, 3) := by decide +kernel
theorem d_Mo_deliver_17 : decode prog_12_method_33_code 17 = .ok (.aload_n 0, 1) := by decide +kernel
theorem d_Mo_deliver_18 : decode prog_12_method_33_code 18 = .ok (.getfield 7, 3) := by decide +kernel
theorem d_Mo_deliver_21 : decode prog_12_method_33_code 21 = .ok (.ifCond .eq 5, 3) := by decide +kernel
theorem d_Mo_deliver_24 : decode prog_12_method_33_code 24 = .ok (.iconst 0, 1) := by decide +kernel
theorem d_Mo_deliver_25 : decode prog_12_method_33_code 25 = .ok (.ireturn, 1) := by decide +kernel
theorem d_Mo_deliver_26 : decode prog_12_method_33_code 26 = .ok (.iconst 0, 1) := by decide +kernel
theorem d_Mo_deliver_27 : decode prog_12_method_33_code 27 = .ok (.istore_n 2, 1) := by decide +kernel
theorem d_Mo_deliver_28 : decode prog_12_method_33_code 28 = .ok (.iload_n 2, 1) := by decide +kernel
theorem d_Mo_deliver_29 : decode prog_12_method_33_code 29 = .ok (.bipush 7, 2) := by decide +kernel
theorem d_Mo_deliver_31 : decode prog_12_method_33_code 31 = .ok (.if_icmp .ge 26, 3) := by decide +kernel
theorem d_Mo_deliver_34 : decode prog_12_method_33_code 34 = .ok (.aload_n 0, 1) := by decide +kernel
theorem d_Mo_deliver_35 : decode prog_12_method_33_code 35 = .ok (.getfield 90, 3) := by decide +kernel
theorem d_Mo_deliver_38 : decode prog_12_method_33_code 38 = .ok (.iload_n 2, 1) := by decide +kernel
theorem d_Mo_deliver_39 : decode prog_12_method_33_code 39 = .ok (.aload_n 0, 1) := by decide +kernel
theorem d_Mo_deliver_40 : decode prog_12_method_33_code 40 = .ok (.getfield 30, 3) := by decide +kernel
theorem d_Mo_deliver_43 : decode prog_12_method_33_code 43 = .ok (.bipush 7, 2) := by decide +kernel
theorem d_Mo_deliver_45 : decode prog_12_method_33_code 45 = .ok (.iload_n 1, 1) := by decide +kernel
theorem d_Mo_deliver_46 : decode prog_12_method_33_code 46 = .ok (.imul, 1) := by decide +kernel
theorem d_Mo_deliver_47 : decode prog_12_method_33_code 47 = .ok (.iload_n 2, 1) := by decide +kernel
theorem d_Mo_deliver_48 : decode prog_12_method_33_code 48 = .ok (.iadd, 1) := by decide +kernel
theorem d_Mo_deliver_49 : decode prog_12_method_33_code 49 = .ok (.iaload, 1) := by decide +kernel
theorem d_Mo_deliver_50 : decode prog_12_method_33_code 50 = .ok (.iastore, 1) := by decide +kernel
theorem d_Mo_deliver_51 : decode prog_12_method_33_code 51 = .ok (.iinc 2 1, 3) := by decide +kernel
theorem d_Mo_deliver_54 : decode prog_12_method_33_code 54 = .ok (.goto (-26), 3) := by decide +kernel
theorem d_Mo_deliver_57 : decode prog_12_method_33_code 57 = .ok (.iconst 0, 1) := by decide +kernel
theorem d_Mo_deliver_58 : decode prog_12_method_33_code 58 = .ok (.istore_n 2, 1) := by decide +kernel
theorem d_Mo_deliver_59 : decode prog_12_method_33_code 59 = .ok (.iload_n 2, 1) := by decide +kernel
theorem d_Mo_deliver_60 : decode prog_12_method_33_code 60 = .ok (.bipush 88, 2) := by decide +kernel
theorem d_Mo_deliver_62 : decode prog_12_method_33_code 62 = .ok (.if_icmp .ge 26, 3) := by decide +kernel
theorem d_Mo_deliver_65 : decode prog_12_method_33_code 65 = .ok (.aload_n 0, 1) := by decide +kernel
theorem d_Mo_deliver_66 : decode prog_12_method_33_code 66 = .ok (.getfield 93, 3) := by decide +kernel
theorem d_Mo_deliver_69 : decode prog_12_method_33_code 69 = .ok (.iload_n 2, 1) := by decide +kernel
theorem d_Mo_deliver_70 : decode prog_12_method_33_code 70 = .ok (.aload_n 0, 1) := by decide +kernel
theorem d_Mo_deliver_71 : decode prog_12_method_33_code 71 = .ok (.getfield 33, 3) := by decide +kernel
theorem d_Mo_deliver_74 : decode prog_12_method_33_code 74 = .ok (.bipush 88, 2) := by decide +kernel
theorem d_Mo_deliver_76 : decode prog_12_method_33_code 76 = .ok (.iload_n 1, 1) := by decide +kernel
theorem d_Mo_deliver_77 : decode prog_12_method_33_code 77 = .ok (.imul, 1) := by decide +kernel
theorem d_Mo_deliver_78 : decode prog_12_method_33_code 78 = .ok (.iload_n 2, 1) := by decide +kernel
theorem d_Mo_deliver_79 : decode prog_12_method_33_code 79 = .ok (.iadd, 1) := by decide +kernel
theorem d_Mo_deliver_80 : decode prog_12_method_33_code 80 = .ok (.iaload, 1) := by decide +kernel
theorem d_Mo_deliver_81 : decode prog_12_method_33_code 81 = .ok (.iastore, 1) := by decide +kernel
theorem d_Mo_deliver_82 : decode prog_12_method_33_code 82 = .ok (.iinc 2 1, 3) := by decide +kernel
theorem d_Mo_deliver_85 : decode prog_12_method_33_code 85 = .ok (.goto (-26), 3) := by decide +kernel
theorem d_Mo_deliver_88 : decode prog_12_method_33_code 88 = .ok (.aload_n 0, 1) := by decide +kernel
theorem d_Mo_deliver_89 : decode prog_12_method_33_code 89 = .ok (.iload_n 1, 1) := by decide +kernel
theorem d_Mo_deliver_90 : decode prog_12_method_33_code 90 = .ok (.invokevirtual 171, 3) := by decide +kernel
theorem d_Mo_deliver_93 : decode prog_12_method_33_code 93 = .ok (.aload_n 0, 1) := by decide +kernel
theorem d_Mo_deliver_94 : decode prog_12_method_33_code 94 = .ok (.invokevirtual 175, 3) := by decide +kernel
theorem d_Mo_deliver_97 : decode prog_12_method_33_code 97 = .ok (.ireturn, 1) := by decide +kernel
theorem d_Mo_noLetter_0 : decode prog_12_method_32_code 0 = .ok (.iload_n 1, 1) := by decide +kernel
theorem d_Mo_noLetter_1 : decode prog_12_method_32_code 1 = .ok (.ifCond .lt 11, 3) := by decide +kernel
theorem d_Mo_noLetter_4 : decode prog_12_method_32_code 4 = .ok (.iload_n 1, 1) := by decide +kernel
theorem d_Mo_noLetter_5 : decode prog_12_method_32_code 5 = .ok (.aload_n 0, 1) := by decide +kernel
theorem d_Mo_noLetter_6 : decode prog_12_method_32_code 6 = .ok (.getfield 27, 3) := by decide +kernel
theorem d_Mo_noLetter_9 : decode prog_12_method_32_code 9 = .ok (.if_icmp .lt 7, 3) := by decide +kernel
theorem d_Mo_noLetter_12 : decode prog_12_method_32_code 12 = .ok (.iconst 1, 1) := by decide +kernel
theorem d_Mo_noLetter_13 : decode prog_12_method_32_code 13 = .ok (.goto 4, 3) := by decide +kernel
theorem d_Mo_noLetter_16 : decode prog_12_method_32_code 16 = .ok (.iconst 0, 1) := by decide +kernel
theorem d_Mo_noLetter_17 : decode prog_12_method_32_code 17 = .ok (.ireturn, 1) := by decide +kernel
theorem d_Mo_remove_0 : decode prog_12_method_13_code 0 = .ok (.aload_n 0, 1) := by decide +kernel
theorem d_Mo_remove_1 : decode prog_12_method_13_code 1 = .ok (.dup, 1) := by decide +kernel
theorem d_Mo_remove_2 : decode prog_12_method_13_code 2 = .ok (.getfield 27, 3) := by decide +kernel
theorem d_Mo_remove_5 : decode prog_12_method_13_code 5 = .ok (.iconst 1, 1) := by decide +kernel
theorem d_Mo_remove_6 : decode prog_12_method_13_code 6 = .ok (.isub, 1) := by decide +kernel
theorem d_Mo_remove_7 : decode prog_12_method_13_code 7 = .ok (.putfield 27, 3) := by decide +kernel
theorem d_Mo_remove_10 : decode prog_12_method_13_code 10 = .ok (.bipush 7, 2) := by decide +kernel
theorem d_Mo_remove_12 : decode prog_12_method_13_code 12 = .ok (.iload_n 1, 1) := by decide +kernel
theorem d_Mo_remove_13 : decode prog_12_method_13_code 13 = .ok (.imul, 1) := by decide +kernel
theorem d_Mo_remove_14 : decode prog_12_method_13_code 14 = .ok (.istore_n 2, 1) := by decide +kernel
theorem d_Mo_remove_15 : decode prog_12_method_13_code 15 = .ok (.iload_n 2, 1) := by decide +kernel
theorem d_Mo_remove_16 : decode prog_12_method_13_code 16 = .ok (.bipush 7, 2) := by decide +kernel
theorem d_Mo_remove_18 : decode prog_12_method_13_code 18 = .ok (.aload_n 0, 1) := by decide +kernel
theorem d_Mo_remove_19 : decode prog_12_method_13_code 19 = .ok (.getfield 27, 3) := by decide +kernel
theorem d_Mo_remove_22 : decode prog_12_method_13_code 22 = .ok (.imul, 1) := by decide +kernel
theorem d_Mo_remove_23 : decode prog_12_method_13_code 23 = .ok (.if_icmp .ge 24, 3) := by decide +kernel
theorem d_Mo_remove_26 : decode prog_12_method_13_code 26 = .ok (.aload_n 0, 1) := by decide +kernel
theorem d_Mo_remove_27 : decode prog_12_method_13_code 27 = .ok (.getfield 30, 3) := by decide +kernel
theorem d_Mo_remove_30 : decode prog_12_method_13_code 30 = .ok (.iload_n 2, 1) := by decide +kernel
theorem d_Mo_remove_31 : decode prog_12_method_13_code 31 = .ok (.aload_n 0, 1) := by decide +kernel
theorem d_Mo_remove_32 : decode prog_12_method_13_code 32 = .ok (.getfield 30, 3) := by decide +kernel
theorem d_Mo_remove_35 : decode prog_12_method_13_code 35 = .ok (.iload_n 2, 1) := by decide +kernel
theorem d_Mo_remove_36 : decode prog_12_method_13_code 36 = .ok (.bipush 7, 2) := by decide +kernel
theorem d_Mo_remove_38 : decode prog_12_method_13_code 38 = .ok (.iadd, 1) := by decide +kernel
theorem d_Mo_remove_39 : decode prog_12_method_13_code 39 = .ok (.iaload, 1) := by decide +kernel
theorem d_Mo_remove_40 : decode prog_12_method_13_code 40 = .ok (.iastore, 1) := by decide +kernel
theorem d_Mo_remove_41 : decode prog_12_method_13_code 41 = .ok (.iinc 2 1, 3) := by decide +kernel
theorem d_Mo_remove_44 : decode prog_12_method_13_code 44 = .ok (.goto (-29), 3) := by decide +kernel
theorem d_Mo_remove_47 : decode prog_12_method_13_code 47 = .ok (.bipush 88, 2) := by decide +kernel
theorem d_Mo_remove_49 : decode prog_12_method_13_code 49 = .ok (.iload_n 1, 1) := by decide +kernel
theorem d_Mo_remove_50 : decode prog_12_method_13_code 50 = .ok (.imul, 1) := by decide +kernel
theorem d_Mo_remove_51 : decode prog_12_method_13_code 51 = .ok (.istore_n 2, 1) := by decide +kernel
theorem d_Mo_remove_52 : decode prog_12_method_13_code 52 = .ok (.iload_n 2, 1) := by decide +kernel
theorem d_Mo_remove_53 : decode prog_12_method_13_code 53 = .ok (.bipush 88, 2) := by decide +kernel
theorem d_Mo_remove_55 : decode prog_12_method_13_code 55 = .ok (.aload_n 0, 1) := by decide +kernel
theorem d_Mo_remove_56 : decode prog_12_method_13_code 56 = .ok (.getfield 27, 3) := by decide +kernel
theorem d_Mo_remove_59 : decode prog_12_method_13_code 59 = .ok (.imul, 1) := by decide +kernel
theorem d_Mo_remove_60 : decode prog_12_method_13_code 60 = .ok (.if_icmp .ge 24, 3) := by decide +kernel
theorem d_Mo_remove_63 : decode prog_12_method_13_code 63 = .ok (.aload_n 0, 1) := by decide +kernel
theorem d_Mo_remove_64 : decode prog_12_method_13_code 64 = .ok (.getfield 33, 3) := by decide +kernel
theorem d_Mo_remove_67 : decode prog_12_method_13_code 67 = .ok (.iload_n 2, 1) := by decide +kernel
theorem d_Mo_remove_68 : decode prog_12_method_13_code 68 = .ok (.aload_n 0, 1) := by decide +kernel
theorem d_Mo_remove_69 : decode prog_12_method_13_code 69 = .ok (.getfield 33, 3) := by decide +kernel
theorem d_Mo_remove_72 : decode prog_12_method_13_code 72 = .ok (.iload_n 2, 1) := by decide +kernel
theorem d_Mo_remove_73 : decode prog_12_method_13_code 73 = .ok (.bipush 88, 2) := by decide +kernel
theorem d_Mo_remove_75 : decode prog_12_method_13_code 75 = .ok (.iadd, 1) := by decide +kernel
theorem d_Mo_remove_76 : decode prog_12_method_13_code 76 = .ok (.iaload, 1) := by decide +kernel
theorem d_Mo_remove_77 : decode prog_12_method_13_code 77 = .ok (.iastore, 1) := by decide +kernel
theorem d_Mo_remove_78 : decode prog_12_method_13_code 78 = .ok (.iinc 2 1, 3) := by decide +kernel
theorem d_Mo_remove_81 : decode prog_12_method_13_code 81 = .ok (.goto (-29), 3) := by decide +kernel
theorem d_Mo_remove_84 : decode prog_12_method_13_code 84 = .ok (.return_, 1) := by decide +kernel
theorem d_Mo_comes_0 : decode prog_12_method_14_code 0 = .ok (.aload_n 0, 1) := by decide +kernel
theorem d_Mo_comes_1 : decode prog_12_method_14_code 1 = .ok (.getfield 90, 3) := by decide +kernel
theorem d_Mo_comes_4 : decode prog_12_method_14_code 4 = .ok (.iconst 1, 1) := by decide +kernel
theorem d_Mo_comes_5 : decode prog_12_method_14_code 5 = .ok (.iaload, 1) := by decide +kernel
theorem d_Mo_comes_6 : decode prog_12_method_14_code 6 = .ok (.istore_n 1, 1) := by decide +kernel
theorem d_Mo_comes_7 : decode prog_12_method_14_code 7 = .ok (.aload_n 0, 1) := by decide +kernel
theorem d_Mo_comes_8 : decode prog_12_method_14_code 8 = .ok (.getfield 90, 3) := by decide +kernel
theorem d_Mo_comes_11 : decode prog_12_method_14_code 11 = .ok (.iconst 2, 1) := by decide +kernel
theorem d_Mo_comes_12 : decode prog_12_method_14_code 12 = .ok (.iaload, 1) := by decide +kernel
theorem d_Mo_comes_13 : decode prog_12_method_14_code 13 = .ok (.istore_n 2, 1) := by decide +kernel
theorem d_Mo_comes_14 : decode prog_12_method_14_code 14 = .ok (.aload_n 0, 1) := by decide +kernel
theorem d_Mo_comes_15 : decode prog_12_method_14_code 15 = .ok (.getfield 90, 3) := by decide +kernel
theorem d_Mo_comes_18 : decode prog_12_method_14_code 18 = .ok (.iconst 0, 1) := by decide +kernel
theorem d_Mo_comes_19 : decode prog_12_method_14_code 19 = .ok (.iaload, 1) := by decide +kernel
theorem d_Mo_comes_20 : decode prog_12_method_14_code 20 = .ok (.iconst 1, 1) := by decide +kernel
theorem d_Mo_comes_21 : decode prog_12_method_14_code 21 = .ok (.if_icmp .ne 10, 3) := by decide +kernel
theorem d_Mo_comes_24 : decode prog_12_method_14_code 24 = .ok (.aload_n 0, 1) := by decide +kernel
theorem d_Mo_comes_25 : decode prog_12_method_14_code 25 = .ok (.iload_n 1, 1) := by decide +kernel
theorem d_Mo_comes_26 : decode prog_12_method_14_code 26 = .ok (.iload_n 2, 1) := by decide +kernel
theorem d_Mo_comes_27 : decode prog_12_method_14_code 27 = .ok (.invokevirtual 126, 3) := by decide +kernel
theorem d_Mo_comes_30 : decode prog_12_method_14_code 30 = .ok (.ireturn, 1) := by decide +kernel
theorem d_Mo_comes_31 : decode prog_12_method_14_code 31 = .ok (.aload_n 0, 1) := by decide +kernel
theorem d_Mo_comes_32 : decode prog_12_method_14_code 32 = .ok (.getfield 90, 3) := by decide +kernel
theorem d_Mo_comes_35 : decode prog_12_method_14_code 35 = .ok (.iconst 0, 1) := by decide +kernel
theorem d_Mo_comes_36 : decode prog_12_method_14_code 36 = .ok (.iaload, 1) := by decide +kernel
theorem d_Mo_comes_37 : decode prog_12_method_14_code 37 = .ok (.iconst 3, 1) := by decide +kernel
theorem d_Mo_comes_38 : decode prog_12_method_14_code 38 = .ok (.if_icmp .ne 11, 3) := by decide +kernel
theorem d_Mo_comes_41 : decode prog_12_method_14_code 41 = .ok (.aload_n 0, 1) := by decide +kernel
theorem d_Mo_comes_42 : decode prog_12_method_14_code 42 = .ok (.iload_n 1, 1) := by decide +kernel
theorem d_Mo_comes_43 : decode prog_12_method_14_code 43 = .ok (.iload_n 2, 1) := by decide +kernel
theorem d_Mo_comes_44 : decode prog_12_method_14_code 44 = .ok (.invokevirtual 129, 3) := by decide +kernel
theorem d_Mo_comes_47 : decode prog_12_method_14_code 47 = .ok (.iconst 0, 1) := by decide +kernel
theorem d_Mo_comes_48 : decode prog_12_method_14_code 48 = .ok (.ireturn, 1) := by decide +kernel
theorem d_Mo_comes_49 : decode prog_12_method_14_code 49 = .ok (.aload_n 0, 1) := by decide +kernel
theorem d_Mo_comes_50 : decode prog_12_method_14_code 50 = .ok (.getfield 17, 3) := by decide +kernel
theorem d_Mo_comes_53 : decode prog_12_method_14_code 53 = .ok (.iload_n 1, 1) := by decide +kernel
theorem d_Mo_comes_54 : decode prog_12_method_14_code 54 = .ok (.baload, 1) := by decide +kernel
theorem d_Mo_comes_55 : decode prog_12_method_14_code 55 = .ok (.ifCond .ne 27, 3) := by decide +kernel
theorem d_Mo_comes_58 : decode prog_12_method_14_code 58 = .ok (.aload_n 0, 1) := by decide +kernel
theorem d_Mo_comes_59 : decode prog_12_method_14_code 59 = .ok (.getfield 21, 3) := by decide +kernel
theorem d_Mo_comes_62 : decode prog_12_method_14_code 62 = .ok (.iload_n 1, 1) := by decide +kernel
theorem d_Mo_comes_63 : decode prog_12_method_14_code 63 = .ok (.baload, 1) := by decide +kernel
theorem d_Mo_comes_64 : decode prog_12_method_14_code 64 = .ok (.ifCond .ne 18, 3) := by decide +kernel
theorem d_Mo_comes_67 : decode prog_12_method_14_code 67 = .ok (.aload_n 0, 1) := by decide +kernel
theorem d_Mo_comes_68 : decode prog_12_method_14_code 68 = .ok (.getfield 90, 3) := by decide +kernel
theorem d_Mo_comes_71 : decode prog_12_method_14_code 71 = .ok (.iconst 3, 1) := by decide +kernel
theorem d_Mo_comes_72 : decode prog_12_method_14_code 72 = .ok (.iaload, 1) := by decide +kernel
theorem d_Mo_comes_73 : decode prog_12_method_14_code 73 = .ok (.aload_n 0, 1) := by decide +kernel
theorem d_Mo_comes_74 : decode prog_12_method_14_code 74 = .ok (.getfield 13, 3) := by decide +kernel
theorem d_Mo_comes_77 : decode prog_12_method_14_code 77 = .ok (.iload_n 1, 1) := by decide +kernel
theorem d_Mo_comes_78 : decode prog_12_method_14_code 78 = .ok (.iaload, 1) := by decide +kernel
theorem d_Mo_comes_79 : decode prog_12_method_14_code 79 = .ok (.if_icmp .ge 5, 3) := by decide +kernel
theorem d_Mo_comes_82 : decode prog_12_method_14_code 82 = .ok (.iconst 0, 1) := by decide +kernel
theorem d_Mo_comes_83 : decode prog_12_method_14_code 83 = .ok (.ireturn, 1) := by decide +kernel
theorem d_Mo_comes_84 : decode prog_12_method_14_code 84 = .ok (.aload_n 0, 1) := by decide +kernel
theorem d_Mo_comes_85 : decode prog_12_method_14_code 85 = .ok (.getfield 13, 3) := by decide +kernel
theorem d_Mo_comes_88 : decode prog_12_method_14_code 88 = .ok (.iload_n 1, 1) := by decide +kernel
theorem d_Mo_comes_89 : decode prog_12_method_14_code 89 = .ok (.aload_n 0, 1) := by decide +kernel
theorem d_Mo_comes_90 : decode prog_12_method_14_code 90 = .ok (.getfield 90, 3) := by decide +kernel
theorem d_Mo_comes_93 : decode prog_12_method_14_code 93 = .ok (.iconst 3, 1) := by decide +kernel
theorem d_Mo_comes_94 : decode prog_12_method_14_code 94 = .ok (.iaload, 1) := by decide +kernel
theorem d_Mo_comes_95 : decode prog_12_method_14_code 95 = .ok (.iastore, 1) := by decide +kernel
theorem d_Mo_comes_96 : decode prog_12_method_14_code 96 = .ok (.aload_n 0, 1) := by decide +kernel
theorem d_Mo_comes_97 : decode prog_12_method_14_code 97 = .ok (.getfield 90, 3) := by decide +kernel
theorem d_Mo_comes_100 : decode prog_12_method_14_code 100 = .ok (.iconst 0, 1) := by decide +kernel
theorem d_Mo_comes_101 : decode prog_12_method_14_code 101 = .ok (.iaload, 1) := by decide +kernel
theorem d_Mo_comes_102 : decode prog_12_method_14_code 102 = .ok (.ifCond .ne 65, 3) := by decide +kernel
theorem d_Mo_comes_105 : decode prog_12_method_14_code 105 = .ok (.aload_n 0, 1) := by decide +kernel
theorem d_Mo_comes_106 : decode prog_12_method_14_code 106 = .ok (.iconst 1, 1) := by decide +kernel
theorem d_Mo_comes_107 : decode prog_12_method_14_code 107 = .ok (.iload_n 1, 1) := by decide +kernel
theorem d_Mo_comes_108 : decode prog_12_method_14_code 108 = .ok (.iload_n 2, 1) := by decide +kernel
theorem d_Mo_comes_109 : decode prog_12_method_14_code 109 = .ok (.aload_n 0, 1) := by decide +kernel
theorem d_Mo_comes_110 : decode prog_12_method_14_code 110 = .ok (.getfield 90, 3) := by decide +kernel
theorem d_Mo_comes_113 : decode prog_12_method_14_code 113 = .ok (.iconst 3, 1) := by decide +kernel
theorem d_Mo_comes_114 : decode prog_12_method_14_code 114 = .ok (.iaload, 1) := by decide +kernel
theorem d_Mo_comes_115 : decode prog_12_method_14_code 115 = .ok (.invokevirtual 114, 3) := by decide +kernel
theorem d_Mo_comes_118 : decode prog_12_method_14_code 118 = .ok (.ifCond .ne 5, 3) := by decide +kernel
theorem d_Mo_comes_121 : decode prog_12_method_14_code 121 = .ok (.iconst 0, 1) := by decide +kernel
theorem d_Mo_comes_122 : decode prog_12_method_14_code 122 = .ok (.ireturn, 1) := by decide +kernel
theorem d_Mo_comes_123 : decode prog_12_method_14_code 123 = .ok (.iconst 0, 1) := by decide +kernel
theorem d_Mo_comes_124 : decode prog_12_method_14_code 124 = .ok (.istore_n 3, 1) := by decide +kernel
theorem d_Mo_comes_125 : decode prog_12_method_14_code 125 = .ok (.iload_n 3, 1) := by decide +kernel
theorem d_Mo_comes_126 : decode prog_12_method_14_code 126 = .ok (.bipush 88, 2) := by decide +kernel
theorem d_Mo_comes_128 : decode prog_12_method_14_code 128 = .ok (.if_icmp .ge 37, 3) := by decide +kernel
theorem d_Mo_comes_131 : decode prog_12_method_14_code 131 = .ok (.aload_n 0, 1) := by decide +kernel
theorem d_Mo_comes_132 : decode prog_12_method_14_code 132 = .ok (.getfield 33, 3) := by decide +kernel
theorem d_Mo_comes_135 : decode prog_12_method_14_code 135 = .ok (.bipush 88, 2) := by decide +kernel
theorem d_Mo_comes_137 : decode prog_12_method_14_code 137 = .ok (.aload_n 0, 1) := by decide +kernel
theorem d_Mo_comes_138 : decode prog_12_method_14_code 138 = .ok (.getfield 27, 3) := by decide +kernel
theorem d_Mo_comes_141 : decode prog_12_method_14_code 141 = .ok (.imul, 1) := by decide +kernel
theorem d_Mo_comes_142 : decode prog_12_method_14_code 142 = .ok (.bipush 88, 2) := by decide +kernel
theorem d_Mo_comes_144 : decode prog_12_method_14_code 144 = .ok (.isub, 1) := by decide +kernel
theorem d_Mo_comes_145 : decode prog_12_method_14_code 145 = .ok (.iload_n 3, 1) := by decide +kernel
theorem d_Mo_comes_146 : decode prog_12_method_14_code 146 = .ok (.iadd, 1) := by decide +kernel
theorem d_Mo_comes_147 : decode prog_12_method_14_code 147 = .ok (.aload_n 0, 1) := by decide +kernel
theorem d_Mo_comes_148 : decode prog_12_method_14_code 148 = .ok (.getfield 24, 3) := by decide +kernel
theorem d_Mo_comes_151 : decode prog_12_method_14_code 151 = .ok (.bipush 88, 2) := by decide +kernel
theorem d_Mo_comes_153 : decode prog_12_method_14_code 153 = .ok (.iload_n 1, 1) := by decide +kernel
theorem d_Mo_comes_154 : decode prog_12_method_14_code 154 = .ok (.imul, 1) := by decide +kernel
theorem d_Mo_comes_155 : decode prog_12_method_14_code 155 = .ok (.iload_n 3, 1) := by decide +kernel
theorem d_Mo_comes_156 : decode prog_12_method_14_code 156 = .ok (.iadd, 1) := by decide +kernel
theorem d_Mo_comes_157 : decode prog_12_method_14_code 157 = .ok (.iaload, 1) := by decide +kernel
theorem d_Mo_comes_158 : decode prog_12_method_14_code 158 = .ok (.iastore, 1) := by decide +kernel
theorem d_Mo_comes_159 : decode prog_12_method_14_code 159 = .ok (.iinc 3 1, 3) := by decide +kernel
theorem d_Mo_comes_162 : decode prog_12_method_14_code 162 = .ok (.goto (-37), 3) := by decide +kernel
theorem d_Mo_comes_165 : decode prog_12_method_14_code 165 = .ok (.iconst 1, 1) := by decide +kernel
theorem d_Mo_comes_166 : decode prog_12_method_14_code 166 = .ok (.ireturn, 1) := by decide +kernel
theorem d_Mo_comes_167 : decode prog_12_method_14_code 167 = .ok (.bipush 88, 2) := by decide +kernel
theorem d_Mo_comes_169 : decode prog_12_method_14_code 169 = .ok (.iload_n 1, 1) := by decide +kernel
theorem d_Mo_comes_170 : decode prog_12_method_14_code 170 = .ok (.imul, 1) := by decide +kernel
theorem d_Mo_comes_171 : decode prog_12_method_14_code 171 = .ok (.bipush 11, 2) := by decide +kernel
theorem d_Mo_comes_173 : decode prog_12_method_14_code 173 = .ok (.aload_n 0, 1) := by decide +kernel
theorem d_Mo_comes_174 : decode prog_12_method_14_code 174 = .ok (.getfield 90, 3) := by decide +kernel
theorem d_Mo_comes_177 : decode prog_12_method_14_code 177 = .ok (.iconst 4, 1) := by decide +kernel
theorem d_Mo_comes_178 : decode prog_12_method_14_code 178 = .ok (.iaload, 1) := by decide +kernel
theorem d_Mo_comes_179 : decode prog_12_method_14_code 179 = .ok (.imul, 1) := by decide +kernel
theorem d_Mo_comes_180 : decode prog_12_method_14_code 180 = .ok (.iadd, 1) := by decide +kernel
theorem d_Mo_comes_181 : decode prog_12_method_14_code 181 = .ok (.istore_n 3, 1) := by decide +kernel
theorem d_Mo_comes_182 : decode prog_12_method_14_code 182 = .ok (.aload_n 0, 1) := by decide +kernel
theorem d_Mo_comes_183 : decode prog_12_method_14_code 183 = .ok (.getfield 24, 3) := by decide +kernel
theorem d_Mo_comes_186 : decode prog_12_method_14_code 186 = .ok (.iload_n 3, 1) := by decide +kernel
theorem d_Mo_comes_187 : decode prog_12_method_14_code 187 = .ok (.aload_n 0, 1) := by decide +kernel
theorem d_Mo_comes_188 : decode prog_12_method_14_code 188 = .ok (.getfield 90, 3) := by decide +kernel
theorem d_Mo_comes_191 : decode prog_12_method_14_code 191 = .ok (.iconst 3, 1) := by decide +kernel
theorem d_Mo_comes_192 : decode prog_12_method_14_code 192 = .ok (.iaload, 1) := by decide +kernel
theorem d_Mo_comes_193 : decode prog_12_method_14_code 193 = .ok (.iastore, 1) := by decide +kernel
theorem d_Mo_comes_194 : decode prog_12_method_14_code 194 = .ok (.aload_n 0, 1) := by decide +kernel
theorem d_Mo_comes_195 : decode prog_12_method_14_code 195 = .ok (.getfield 24, 3) := by decide +kernel
theorem d_Mo_comes_198 : decode prog_12_method_14_code 198 = .ok (.iload_n 3, 1) := by decide +kernel
theorem d_Mo_comes_199 : decode prog_12_method_14_code 199 = .ok (.iconst 1, 1) := by decide +kernel
theorem d_Mo_comes_200 : decode prog_12_method_14_code 200 = .ok (.iadd, 1) := by decide +kernel
theorem d_Mo_comes_201 : decode prog_12_method_14_code 201 = .ok (.aload_n 0, 1) := by decide +kernel
theorem d_Mo_comes_202 : decode prog_12_method_14_code 202 = .ok (.getfield 90, 3) := by decide +kernel
theorem d_Mo_comes_205 : decode prog_12_method_14_code 205 = .ok (.iconst 5, 1) := by decide +kernel
theorem d_Mo_comes_206 : decode prog_12_method_14_code 206 = .ok (.iaload, 1) := by decide +kernel
theorem d_Mo_comes_207 : decode prog_12_method_14_code 207 = .ok (.iastore, 1) := by decide +kernel
theorem d_Mo_comes_208 : decode prog_12_method_14_code 208 = .ok (.aload_n 0, 1) := by decide +kernel
theorem d_Mo_comes_209 : decode prog_12_method_14_code 209 = .ok (.getfield 24, 3) := by decide +kernel
theorem d_Mo_comes_212 : decode prog_12_method_14_code 212 = .ok (.iload_n 3, 1) := by decide +kernel
theorem d_Mo_comes_213 : decode prog_12_method_14_code 213 = .ok (.iconst 2, 1) := by decide +kernel
theorem d_Mo_comes_214 : decode prog_12_method_14_code 214 = .ok (.iadd, 1) := by decide +kernel
theorem d_Mo_comes_215 : decode prog_12_method_14_code 215 = .ok (.aload_n 0, 1) := by decide +kernel
theorem d_Mo_comes_216 : decode prog_12_method_14_code 216 = .ok (.getfield 90, 3) := by decide +kernel
theorem d_Mo_comes_219 : decode prog_12_method_14_code 219 = .ok (.bipush 6, 2) := by decide +kernel
theorem d_Mo_comes_221 : decode prog_12_method_14_code 221 = .ok (.iaload, 1) := by decide +kernel
theorem d_Mo_comes_222 : decode prog_12_method_14_code 222 = .ok (.iastore, 1) := by decide +kernel
theorem d_Mo_comes_223 : decode prog_12_method_14_code 223 = .ok (.iconst 0, 1) := by decide +kernel
theorem d_Mo_comes_224 : decode prog_12_method_14_code 224 = .ok (.istore 4, 2) := by decide +kernel
theorem d_Mo_comes_226 : decode prog_12_method_14_code 226 = .ok (.iload 4, 2) := by decide +kernel
theorem d_Mo_comes_228 : decode prog_12_method_14_code 228 = .ok (.bipush 8, 2) := by decide +kernel
theorem d_Mo_comes_230 : decode prog_12_method_14_code 230 = .ok (.if_icmp .ge 46, 3) := by decide +kernel
theorem d_Mo_comes_233 : decode prog_12_method_14_code 233 = .ok (.aload_n 0, 1) := by decide +kernel
theorem d_Mo_comes_234 : decode prog_12_method_14_code 234 = .ok (.getfield 24, 3) := by decide +kernel
theorem d_Mo_comes_237 : decode prog_12_method_14_code 237 = .ok (.iload_n 3, 1) := by decide +kernel
theorem d_Mo_comes_238 : decode prog_12_method_14_code 238 = .ok (.iconst 3, 1) := by decide +kernel
theorem d_Mo_comes_239 : decode prog_12_method_14_code 239 = .ok (.iadd, 1) := by decide +kernel
theorem d_Mo_comes_240 : decode prog_12_method_14_code 240 = .ok (.iload 4, 2) := by decide +kernel
theorem d_Mo_comes_242 : decode prog_12_method_14_code 242 = .ok (.iadd, 1) := by decide +kernel
theorem d_Mo_comes_243 : decode prog_12_method_14_code 243 = .ok (.iload 4, 2) := by decide +kernel
theorem d_Mo_comes_245 : decode prog_12_method_14_code 245 = .ok (.aload_n 0, 1) := by decide +kernel
theorem d_Mo_comes_246 : decode prog_12_method_14_code 246 = .ok (.getfield 90, 3) := by decide +kernel
theorem d_Mo_comes_249 : decode prog_12_method_14_code 249 = .ok (.bipush 6, 2) := by decide +kernel
theorem d_Mo_comes_251 : decode prog_12_method_14_code 251 = .ok (.iaload, 1) := by decide +kernel
theorem d_Mo_comes_252 : decode prog_12_method_14_code 252 = .ok (.invokestatic 100, 3) := by decide +kernel
theorem d_Mo_comes_255 : decode prog_12_method_14_code 255 = .ok (.if_icmp .ge 13, 3) := by decide +kernel
theorem d_Mo_comes_258 : decode prog_12_method_14_code 258 = .ok (.aload_n 0, 1) := by decide +kernel
theorem d_Mo_comes_259 : decode prog_12_method_14_code 259 = .ok (.getfield 93, 3) := by decide +kernel
theorem d_Mo_comes_262 : decode prog_12_method_14_code 262 = .ok (.iload 4, 2) := by decide +kernel
theorem d_Mo_comes_264 : decode prog_12_method_14_code 264 = .ok (.iaload, 1) := by decide +kernel
theorem d_Mo_comes_265 : decode prog_12_method_14_code 265 = .ok (.goto 4, 3) := by decide +kernel
theorem d_Mo_comes_268 : decode prog_12_method_14_code 268 = .ok (.iconst 0, 1) := by decide +kernel
theorem d_Mo_comes_269 : decode prog_12_method_14_code 269 = .ok (.iastore, 1) := by decide +kernel
theorem d_Mo_comes_270 : decode prog_12_method_14_code 270 = .ok (.iinc 4 1, 3) := by decide +kernel
theorem d_Mo_comes_273 : decode prog_12_method_14_code 273 = .ok (.goto (-47), 3) := by decide +kernel
theorem d_Mo_comes_276 : decode prog_12_method_14_code 276 = .ok (.aload_n 0, 1) := by decide +kernel
theorem d_Mo_comes_277 : decode prog_12_method_14_code 277 = .ok (.iconst 3, 1) := by decide +kernel
theorem d_Mo_comes_278 : decode prog_12_method_14_code 278 = .ok (.iload_n 1, 1) := by decide +kernel
theorem d_Mo_comes_279 : decode prog_12_method_14_code 279 = .ok (.iload_n 2, 1) := by decide +kernel
theorem d_Mo_comes_280 : decode prog_12_method_14_code 280 = .ok (.aload_n 0, 1) := by decide +kernel
theorem d_Mo_comes_281 : decode prog_12_method_14_code 281 = .ok (.getfield 90, 3) := by decide +kernel
theorem d_Mo_comes_284 : decode prog_12_method_14_code 284 = .ok (.iconst 3, 1) := by decide +kernel
theorem d_Mo_comes_285 : decode prog_12_method_14_code 285 = .ok (.iaload, 1) := by decide +kernel
theorem d_Mo_comes_286 : decode prog_12_method_14_code 286 = .ok (.invokevirtual 114, 3) := by decide +kernel
theorem d_Mo_comes_289 : decode prog_12_method_14_code 289 = .ok (.ifCond .ne 5, 3) := by decide +kernel
theorem d_Mo_comes_292 : decode prog_12_method_14_code 292 = .ok (.iconst 0, 1) := by decide +kernel
theorem d_Mo_comes_293 : decode prog_12_method_14_code 293 = .ok (.ireturn, 1) := by decide +kernel
theorem d_Mo_comes_294 : decode prog_12_method_14_code 294 = .ok (.aload_n 0, 1) := by decide +kernel
theorem d_Mo_comes_295 : decode prog_12_method_14_code 295 = .ok (.getfield 30, 3) := by decide +kernel
theorem d_Mo_comes_298 : decode prog_12_method_14_code 298 = .ok (.bipush 7, 2) := by decide +kernel
theorem d_Mo_comes_300 : decode prog_12_method_14_code 300 = .ok (.aload_n 0, 1) := by decide +kernel
theorem d_Mo_comes_301 : decode prog_12_method_14_code 301 = .ok (.getfield 27, 3) := by decide +kernel
theorem d_Mo_comes_304 : decode prog_12_method_14_code 304 = .ok (.imul, 1) := by decide +kernel
theorem d_Mo_comes_305 : decode prog_12_method_14_code 305 = .ok (.iconst 3, 1) := by decide +kernel
theorem d_Mo_comes_306 : decode prog_12_method_14_code 306 = .ok (.isub, 1) := by decide +kernel
theorem d_Mo_comes_307 : decode prog_12_method_14_code 307 = .ok (.aload_n 0, 1) := by decide +kernel
theorem d_Mo_comes_308 : decode prog_12_method_14_code 308 = .ok (.getfield 90, 3) := by decide +kernel
theorem d_Mo_comes_311 : decode prog_12_method_14_code 311 = .ok (.iconst 4, 1) := by decide +kernel
theorem d_Mo_comes_312 : decode prog_12_method_14_code 312 = .ok (.iaload, 1) := by decide +kernel
theorem d_Mo_comes_313 : decode prog_12_method_14_code 313 = .ok (.iastore, 1) := by decide +kernel
theorem d_Mo_comes_314 : decode prog_12_method_14_code 314 = .ok (.aload_n 0, 1) := by decide +kernel
theorem d_Mo_comes_315 : decode prog_12_method_14_code 315 = .ok (.getfield 30, 3) := by decide +kernel
theorem d_Mo_comes_318 : decode prog_12_method_14_code 318 = .ok (.bipush 7, 2) := by decide +kernel
theorem d_Mo_comes_320 : decode prog_12_method_14_code 320 = .ok (.aload_n 0, 1) := by decide +kernel
theorem d_Mo_comes_321 : decode prog_12_method_14_code 321 = .ok (.getfield 27, 3) := by decide +kernel
theorem d_Mo_comes_324 : decode prog_12_method_14_code 324 = .ok (.imul, 1) := by decide +kernel
theorem d_Mo_comes_325 : decode prog_12_method_14_code 325 = .ok (.iconst 2, 1) := by decide +kernel
theorem d_Mo_comes_326 : decode prog_12_method_14_code 326 = .ok (.isub, 1) := by decide +kernel
theorem d_Mo_comes_327 : decode prog_12_method_14_code 327 = .ok (.aload_n 0, 1) := by decide +kernel
theorem d_Mo_comes_328 : decode prog_12_method_14_code 328 = .ok (.getfield 90, 3) := by decide +kernel
theorem d_Mo_comes_331 : decode prog_12_method_14_code 331 = .ok (.iconst 5, 1) := by decide +kernel
theorem d_Mo_comes_332 : decode prog_12_method_14_code 332 = .ok (.iaload, 1) := by decide +kernel
theorem d_Mo_comes_333 : decode prog_12_method_14_code 333 = .ok (.iastore, 1) := by decide +kernel
theorem d_Mo_comes_334 : decode prog_12_method_14_code 334 = .ok (.iconst 1, 1) := by decide +kernel
theorem d_Mo_comes_335 : decode prog_12_method_14_code 335 = .ok (.ireturn, 1) := by decide +kernel
theorem d_Mo_promiseComes_0 : decode prog_12_method_16_code 0 = .ok (.aload_n 0, 1) := by decide +kernel
theorem d_Mo_promiseComes_1 : decode prog_12_method_16_code 1 = .ok (.getfield 36, 3) := by decide +kernel
theorem d_Mo_promiseComes_4 : decode prog_12_method_16_code 4 = .ok (.iload_n 2, 1) := by decide +kernel
theorem d_Mo_promiseComes_5 : decode prog_12_method_16_code 5 = .ok (.iaload, 1) := by decide +kernel
theorem d_Mo_promiseComes_6 : decode prog_12_method_16_code 6 = .ok (.iconst 1, 1) := by decide +kernel
theorem d_Mo_promiseComes_7 : decode prog_12_method_16_code 7 = .ok (.if_icmp .ne 32, 3) := by decide +kernel
theorem d_Mo_promiseComes_10 : decode prog_12_method_16_code 10 = .ok (.aload_n 0, 1) := by decide +kernel
theorem d_Mo_promiseComes_11 : decode prog_12_method_16_code 11 = .ok (.getfield 90, 3) := by decide +kernel
theorem d_Mo_promiseComes_14 : decode prog_12_method_16_code 14 = .ok (.iconst 3, 1) := by decide +kernel
theorem d_Mo_promiseComes_15 : decode prog_12_method_16_code 15 = .ok (.iaload, 1) := by decide +kernel
theorem d_Mo_promiseComes_16 : decode prog_12_method_16_code 16 = .ok (.aload_n 0, 1) := by decide +kernel
theorem d_Mo_promiseComes_17 : decode prog_12_method_16_code 17 = .ok (.getfield 39, 3) := by decide +kernel
theorem d_Mo_promiseComes_20 : decode prog_12_method_16_code 20 = .ok (.iload_n 2, 1) := by decide +kernel
theorem d_Mo_promiseComes_21 : decode prog_12_method_16_code 21 = .ok (.iaload, 1) := by decide +kernel
theorem d_Mo_promiseComes_22 : decode prog_12_method_16_code 22 = .ok (.if_icmp .ne 17, 3) := by decide +kernel
theorem d_Mo_promiseComes_25 : decode prog_12_method_16_code 25 = .ok (.aload_n 0, 1) := by decide +kernel
theorem d_Mo_promiseComes_26 : decode prog_12_method_16_code 26 = .ok (.getfield 42, 3) := by decide +kernel
theorem d_Mo_promiseComes_29 : decode prog_12_method_16_code 29 = .ok (.iload_n 2, 1) := by decide +kernel
theorem d_Mo_promiseComes_30 : decode prog_12_method_16_code 30 = .ok (.iaload, 1) := by decide +kernel
theorem d_Mo_promiseComes_31 : decode prog_12_method_16_code 31 = .ok (.iload_n 1, 1) := by decide +kernel
theorem d_Mo_promiseComes_32 : decode prog_12_method_16_code 32 = .ok (.ishr, 1) := by decide +kernel
theorem d_Mo_promiseComes_33 : decode prog_12_method_16_code 33 = .ok (.iconst 1, 1) := by decide +kernel
theorem d_Mo_promiseComes_34 : decode prog_12_method_16_code 34 = .ok (.iand, 1) := by decide +kernel
theorem d_Mo_promiseComes_35 : decode prog_12_method_16_code 35 = .ok (.iconst 1, 1) := by decide +kernel
theorem d_Mo_promiseComes_36 : decode prog_12_method_16_code 36 = .ok (.if_icmp .ne 5, 3) := by decide +kernel
theorem d_Mo_promiseComes_39 : decode prog_12_method_16_code 39 = .ok (.iconst 0, 1) := by decide +kernel
theorem d_Mo_promiseComes_40 : decode prog_12_method_16_code 40 = .ok (.ireturn, 1) := by decide +kernel
theorem d_Mo_promiseComes_41 : decode prog_12_method_16_code 41 = .ok (.aload_n 0, 1) := by decide +kernel
theorem d_Mo_promiseComes_42 : decode prog_12_method_16_code 42 = .ok (.getfield 42, 3) := by decide +kernel
theorem d_Mo_promiseComes_45 : decode prog_12_method_16_code 45 = .ok (.iload_n 2, 1) := by decide +kernel
theorem d_Mo_promiseComes_46 : decode prog_12_method_16_code 46 = .ok (.aload_n 0, 1) := by decide +kernel
theorem d_Mo_promiseComes_47 : decode prog_12_method_16_code 47 = .ok (.getfield 42, 3) := by decide +kernel
theorem d_Mo_promiseComes_50 : decode prog_12_method_16_code 50 = .ok (.iload_n 2, 1) := by decide +kernel
theorem d_Mo_promiseComes_51 : decode prog_12_method_16_code 51 = .ok (.iaload, 1) := by decide +kernel
theorem d_Mo_promiseComes_52 : decode prog_12_method_16_code 52 = .ok (.iconst 1, 1) := by decide +kernel
theorem d_Mo_promiseComes_53 : decode prog_12_method_16_code 53 = .ok (.iload_n 1, 1) := by decide +kernel
theorem d_Mo_promiseComes_54 : decode prog_12_method_16_code 54 = .ok (.ishl, 1) := by decide +kernel
theorem d_Mo_promiseComes_55 : decode prog_12_method_16_code 55 = .ok (.ior, 1) := by decide +kernel
theorem d_Mo_promiseComes_56 : decode prog_12_method_16_code 56 = .ok (.iastore, 1) := by decide +kernel
theorem d_Mo_promiseComes_57 : decode prog_12_method_16_code 57 = .ok (.iconst 0, 1) := by decide +kernel
theorem d_Mo_promiseComes_58 : decode prog_12_method_16_code 58 = .ok (.istore_n 3, 1) := by decide +kernel
theorem d_Mo_promiseComes_59 : decode prog_12_method_16_code 59 = .ok (.iload_n 3, 1) := by decide +kernel
theorem d_Mo_promiseComes_60 : decode prog_12_method_16_code 60 = .ok (.bipush 88, 2) := by decide +kernel
theorem d_Mo_promiseComes_62 : decode prog_12_method_16_code 62 = .ok (.if_icmp .ge 32, 3) := by decide +kernel
theorem d_Mo_promiseComes_65 : decode prog_12_method_16_code 65 = .ok (.aload_n 0, 1) := by decide +kernel
theorem d_Mo_promiseComes_66 : decode prog_12_method_16_code 66 = .ok (.getfield 45, 3) := by decide +kernel
theorem d_Mo_promiseComes_69 : decode prog_12_method_16_code 69 = .ok (.sipush 616, 3) := by decide +kernel
theorem d_Mo_promiseComes_72 : decode prog_12_method_16_code 72 = .ok (.iload_n 2, 1) := by decide +kernel
theorem d_Mo_promiseComes_73 : decode prog_12_method_16_code 73 = .ok (.imul, 1) := by decide +kernel
theorem d_Mo_promiseComes_74 : decode prog_12_method_16_code 74 = .ok (.bipush 88, 2) := by decide +kernel
theorem d_Mo_promiseComes_76 : decode prog_12_method_16_code 76 = .ok (.iload_n 1, 1) := by decide +kernel
theorem d_Mo_promiseComes_77 : decode prog_12_method_16_code 77 = .ok (.imul, 1) := by decide +kernel
theorem d_Mo_promiseComes_78 : decode prog_12_method_16_code 78 = .ok (.iadd, 1) := by decide +kernel
theorem d_Mo_promiseComes_79 : decode prog_12_method_16_code 79 = .ok (.iload_n 3, 1) := by decide +kernel
theorem d_Mo_promiseComes_80 : decode prog_12_method_16_code 80 = .ok (.iadd, 1) := by decide +kernel
theorem d_Mo_promiseComes_81 : decode prog_12_method_16_code 81 = .ok (.aload_n 0, 1) := by decide +kernel
theorem d_Mo_promiseComes_82 : decode prog_12_method_16_code 82 = .ok (.getfield 93, 3) := by decide +kernel
theorem d_Mo_promiseComes_85 : decode prog_12_method_16_code 85 = .ok (.iload_n 3, 1) := by decide +kernel
theorem d_Mo_promiseComes_86 : decode prog_12_method_16_code 86 = .ok (.iaload, 1) := by decide +kernel
theorem d_Mo_promiseComes_87 : decode prog_12_method_16_code 87 = .ok (.iastore, 1) := by decide +kernel
theorem d_Mo_promiseComes_88 : decode prog_12_method_16_code 88 = .ok (.iinc 3 1, 3) := by decide +kernel
theorem d_Mo_promiseComes_91 : decode prog_12_method_16_code 91 = .ok (.goto (-32), 3) := by decide +kernel
theorem d_Mo_promiseComes_94 : decode prog_12_method_16_code 94 = .ok (.aload_n 0, 1) := by decide +kernel
theorem d_Mo_promiseComes_95 : decode prog_12_method_16_code 95 = .ok (.getfield 42, 3) := by decide +kernel
theorem d_Mo_promiseComes_98 : decode prog_12_method_16_code 98 = .ok (.iload_n 2, 1) := by decide +kernel
theorem d_Mo_promiseComes_99 : decode prog_12_method_16_code 99 = .ok (.iaload, 1) := by decide +kernel
theorem d_Mo_promiseComes_100 : decode prog_12_method_16_code 100 = .ok (.invokestatic 133, 3) := by decide +kernel
theorem d_Mo_promiseComes_103 : decode prog_12_method_16_code 103 = .ok (.iconst 5, 1) := by decide +kernel
theorem d_Mo_promiseComes_104 : decode prog_12_method_16_code 104 = .ok (.if_icmp .ge 5, 3) := by decide +kernel
theorem d_Mo_promiseComes_107 : decode prog_12_method_16_code 107 = .ok (.iconst 0, 1) := by decide +kernel
theorem d_Mo_promiseComes_108 : decode prog_12_method_16_code 108 = .ok (.ireturn, 1) := by decide +kernel
theorem d_Mo_promiseComes_109 : decode prog_12_method_16_code 109 = .ok (.aload_n 0, 1) := by decide +kernel
theorem d_Mo_promiseComes_110 : decode prog_12_method_16_code 110 = .ok (.getfield 36, 3) := by decide +kernel
theorem d_Mo_promiseComes_113 : decode prog_12_method_16_code 113 = .ok (.iload_n 2, 1) := by decide +kernel
theorem d_Mo_promiseComes_114 : decode prog_12_method_16_code 114 = .ok (.iconst 2, 1) := by decide +kernel
theorem d_Mo_promiseComes_115 : decode prog_12_method_16_code 115 = .ok (.iastore, 1) := by decide +kernel
theorem d_Mo_promiseComes_116 : decode prog_12_method_16_code 116 = .ok (.iconst 0, 1) := by decide +kernel
theorem d_Mo_promiseComes_117 : decode prog_12_method_16_code 117 = .ok (.istore_n 3, 1) := by decide +kernel
theorem d_Mo_promiseComes_118 : decode prog_12_method_16_code 118 = .ok (.iconst 0, 1) := by decide +kernel
theorem d_Mo_promiseComes_119 : decode prog_12_method_16_code 119 = .ok (.istore 4, 2) := by decide +kernel
theorem d_Mo_promiseComes_121 : decode prog_12_method_16_code 121 = .ok (.iload 4, 2) := by decide +kernel
theorem d_Mo_promiseComes_123 : decode prog_12_method_16_code 123 = .ok (.bipush 8, 2) := by decide +kernel
theorem d_Mo_promiseComes_125 : decode prog_12_method_16_code 125 = .ok (.if_icmp .ge 44, 3) := by decide +kernel
theorem d_Mo_promiseComes_128 : decode prog_12_method_16_code 128 = .ok (.aload_n 0, 1) := by decide +kernel
theorem d_Mo_promiseComes_129 : decode prog_12_method_16_code 129 = .ok (.getfield 54, 3) := by decide +kernel
theorem d_Mo_promiseComes_132 : decode prog_12_method_16_code 132 = .ok (.bipush 8, 2) := by decide +kernel
theorem d_Mo_promiseComes_134 : decode prog_12_method_16_code 134 = .ok (.iload_n 2, 1) := by decide +kernel
theorem d_Mo_promiseComes_135 : decode prog_12_method_16_code 135 = .ok (.imul, 1) := by decide +kernel
theorem d_Mo_promiseComes_136 : decode prog_12_method_16_code 136 = .ok (.iload 4, 2) := by decide +kernel
theorem d_Mo_promiseComes_138 : decode prog_12_method_16_code 138 = .ok (.iadd, 1) := by decide +kernel
theorem d_Mo_promiseComes_139 : decode prog_12_method_16_code 139 = .ok (.iaload, 1) := by decide +kernel
theorem d_Mo_promiseComes_140 : decode prog_12_method_16_code 140 = .ok (.ifCond .ne 23, 3) := by decide +kernel
theorem d_Mo_promiseComes_143 : decode prog_12_method_16_code 143 = .ok (.aload_n 0, 1) := by decide +kernel
theorem d_Mo_promiseComes_144 : decode prog_12_method_16_code 144 = .ok (.iload_n 2, 1) := by decide +kernel
theorem d_Mo_promiseComes_145 : decode prog_12_method_16_code 145 = .ok (.iload 4, 2) := by decide +kernel
theorem d_Mo_promiseComes_147 : decode prog_12_method_16_code 147 = .ok (.invokevirtual 136, 3) := by decide +kernel
theorem d_Mo_promiseComes_150 : decode prog_12_method_16_code 150 = .ok (.ifCond .eq 13, 3) := by decide +kernel
theorem d_Mo_promiseComes_153 : decode prog_12_method_16_code 153 = .ok (.iload_n 3, 1) := by decide +kernel
theorem d_Mo_promiseComes_154 : decode prog_12_method_16_code 154 = .ok (.aload_n 0, 1) := by decide +kernel
theorem d_Mo_promiseComes_155 : decode prog_12_method_16_code 155 = .ok (.iload_n 2, 1) := by decide +kernel
theorem d_Mo_promiseComes_156 : decode prog_12_method_16_code 156 = .ok (.iload 4, 2) := by decide +kernel
theorem d_Mo_promiseComes_158 : decode prog_12_method_16_code 158 = .ok (.invokevirtual 140, 3) := by decide +kernel
theorem d_Mo_promiseComes_161 : decode prog_12_method_16_code 161 = .ok (.iadd, 1) := by decide +kernel
theorem d_Mo_promiseComes_162 : decode prog_12_method_16_code 162 = .ok (.istore_n 3, 1) := by decide +kernel
theorem d_Mo_promiseComes_163 : decode prog_12_method_16_code 163 = .ok (.iinc 4 1, 3) := by decide +kernel
theorem d_Mo_promiseComes_166 : decode prog_12_method_16_code 166 = .ok (.goto (-45), 3) := by decide +kernel
theorem d_Mo_promiseComes_169 : decode prog_12_method_16_code 169 = .ok (.iload_n 3, 1) := by decide +kernel
theorem d_Mo_promiseComes_170 : decode prog_12_method_16_code 170 = .ok (.ireturn, 1) := by decide +kernel
theorem d_Mo_bits_0 : decode prog_12_method_15_code 0 = .ok (.iconst 0, 1) := by decide +kernel
theorem d_Mo_bits_1 : decode prog_12_method_15_code 1 = .ok (.istore_n 1, 1) := by decide +kernel
theorem d_Mo_bits_2 : decode prog_12_method_15_code 2 = .ok (.iconst 0, 1) := by decide +kernel
theorem d_Mo_bits_3 : decode prog_12_method_15_code 3 = .ok (.istore_n 2, 1) := by decide +kernel
theorem d_Mo_bits_4 : decode prog_12_method_15_code 4 = .ok (.iload_n 2, 1) := by decide +kernel
theorem d_Mo_bits_5 : decode prog_12_method_15_code 5 = .ok (.bipush 7, 2) := by decide +kernel
theorem d_Mo_bits_7 : decode prog_12_method_15_code 7 = .ok (.if_icmp .ge 17, 3) := by decide +kernel
theorem d_Mo_bits_10 : decode prog_12_method_15_code 10 = .ok (.iload_n 1, 1) := by decide +kernel
theorem d_Mo_bits_11 : decode prog_12_method_15_code 11 = .ok (.iload_n 0, 1) := by decide +kernel
theorem d_Mo_bits_12 : decode prog_12_method_15_code 12 = .ok (.iload_n 2, 1) := by decide +kernel
theorem d_Mo_bits_13 : decode prog_12_method_15_code 13 = .ok (.ishr, 1) := by decide +kernel
theorem d_Mo_bits_14 : decode prog_12_method_15_code 14 = .ok (.iconst 1, 1) := by decide +kernel
theorem d_Mo_bits_15 : decode prog_12_method_15_code 15 = .ok (.iand, 1) := by decide +kernel
theorem d_Mo_bits_16 : decode prog_12_method_15_code 16 = .ok (.iadd, 1) := by decide +kernel
theorem d_Mo_bits_17 : decode prog_12_method_15_code 17 = .ok (.istore_n 1, 1) := by decide +kernel
theorem d_Mo_bits_18 : decode prog_12_method_15_code 18 = .ok (.iinc 2 1, 3) := by decide +kernel
theorem d_Mo_bits_21 : decode prog_12_method_15_code 21 = .ok (.goto (-17), 3) := by decide +kernel
theorem d_Mo_bits_24 : decode prog_12_method_15_code 24 = .ok (.iload_n 1, 1) := by decide +kernel
theorem d_Mo_bits_25 : decode prog_12_method_15_code 25 = .ok (.ireturn, 1) := by decide +kernel
theorem d_Mo_again_0 : decode prog_12_method_18_code 0 = .ok (.iconst (-1), 1) := by decide +kernel
theorem d_Mo_again_1 : decode prog_12_method_18_code 1 = .ok (.istore_n 3, 1) := by decide +kernel
theorem d_Mo_again_2 : decode prog_12_method_18_code 2 = .ok (.iconst 0, 1) := by decide +kernel
theorem d_Mo_again_3 : decode prog_12_method_18_code 3 = .ok (.istore 4, 2) := by decide +kernel
theorem d_Mo_again_5 : decode prog_12_method_18_code 5 = .ok (.iconst 0, 1) := by decide +kernel
theorem d_Mo_again_6 : decode prog_12_method_18_code 6 = .ok (.istore 5, 2) := by decide +kernel
theorem d_Mo_again_8 : decode prog_12_method_18_code 8 = .ok (.iload 5, 2) := by decide +kernel
theorem d_Mo_again_10 : decode prog_12_method_18_code 10 = .ok (.bipush 7, 2) := by decide +kernel
theorem d_Mo_again_12 : decode prog_12_method_18_code 12 = .ok (.if_icmp .ge 185, 3) := by decide +kernel
theorem d_Mo_again_15 : decode prog_12_method_18_code 15 = .ok (.iload_n 1, 1) := by decide +kernel
theorem d_Mo_again_16 : decode prog_12_method_18_code 16 = .ok (.iload 5, 2) := by decide +kernel
theorem d_Mo_again_18 : decode prog_12_method_18_code 18 = .ok (.iload_n 2, 1) := by decide +kernel
theorem d_Mo_again_19 : decode prog_12_method_18_code 19 = .ok (.invokestatic 143, 3) := by decide +kernel
theorem d_Mo_again_22 : decode prog_12_method_18_code 22 = .ok (.istore 6, 2) := by decide +kernel
theorem d_Mo_again_24 : decode prog_12_method_18_code 24 = .ok (.aload_n 0, 1) := by decide +kernel
theorem d_Mo_again_25 : decode prog_12_method_18_code 25 = .ok (.getfield 42, 3) := by decide +kernel
theorem d_Mo_again_28 : decode prog_12_method_18_code 28 = .ok (.iload_n 1, 1) := by decide +kernel
theorem d_Mo_again_29 : decode prog_12_method_18_code 29 = .ok (.iaload, 1) := by decide +kernel
theorem d_Mo_again_30 : decode prog_12_method_18_code 30 = .ok (.iload 5, 2) := by decide +kernel
theorem d_Mo_again_32 : decode prog_12_method_18_code 32 = .ok (.ishr, 1) := by decide +kernel
theorem d_Mo_again_33 : decode prog_12_method_18_code 33 = .ok (.iconst 1, 1) := by decide +kernel
theorem d_Mo_again_34 : decode prog_12_method_18_code 34 = .ok (.iand, 1) := by decide +kernel
theorem d_Mo_again_35 : decode prog_12_method_18_code 35 = .ok (.iconst 1, 1) := by decide +kernel
theorem d_Mo_again_36 : decode prog_12_method_18_code 36 = .ok (.if_icmp .ne 155, 3) := by decide +kernel
theorem d_Mo_again_39 : decode prog_12_method_18_code 39 = .ok (.aload_n 0, 1) := by decide +kernel
theorem d_Mo_again_40 : decode prog_12_method_18_code 40 = .ok (.getfield 45, 3) := by decide +kernel
theorem d_Mo_again_43 : decode prog_12_method_18_code 43 = .ok (.iload 6, 2) := by decide +kernel
theorem d_Mo_again_45 : decode prog_12_method_18_code 45 = .ok (.iconst 2, 1) := by decide +kernel
theorem d_Mo_again_46 : decode prog_12_method_18_code 46 = .ok (.iadd, 1) := by decide +kernel
theorem d_Mo_again_47 : decode prog_12_method_18_code 47 = .ok (.iaload, 1) := by decide +kernel
theorem d_Mo_again_48 : decode prog_12_method_18_code 48 = .ok (.ifCond .le 143, 3) := by decide +kernel
theorem d_Mo_again_51 : decode prog_12_method_18_code 51 = .ok (.iconst 0, 1) := by decide +kernel
theorem d_Mo_again_52 : decode prog_12_method_18_code 52 = .ok (.istore 7, 2) := by decide +kernel
theorem d_Mo_again_54 : decode prog_12_method_18_code 54 = .ok (.iconst 0, 1) := by decide +kernel
theorem d_Mo_again_55 : decode prog_12_method_18_code 55 = .ok (.istore 8, 2) := by decide +kernel
theorem d_Mo_again_57 : decode prog_12_method_18_code 57 = .ok (.iload 8, 2) := by decide +kernel
theorem d_Mo_again_59 : decode prog_12_method_18_code 59 = .ok (.bipush 7, 2) := by decide +kernel
theorem d_Mo_again_61 : decode prog_12_method_18_code 61 = .ok (.if_icmp .ge 69, 3) := by decide +kernel
theorem d_Mo_again_64 : decode prog_12_method_18_code 64 = .ok (.iload_n 1, 1) := by decide +kernel
theorem d_Mo_again_65 : decode prog_12_method_18_code 65 = .ok (.iload 8, 2) := by decide +kernel
theorem d_Mo_again_67 : decode prog_12_method_18_code 67 = .ok (.iload_n 2, 1) := by decide +kernel
theorem d_Mo_again_68 : decode prog_12_method_18_code 68 = .ok (.invokestatic 143, 3) := by decide +kernel
theorem d_Mo_again_71 : decode prog_12_method_18_code 71 = .ok (.istore 9, 2) := by decide +kernel
theorem d_Mo_again_73 : decode prog_12_method_18_code 73 = .ok (.aload_n 0, 1) := by decide +kernel
theorem d_Mo_again_74 : decode prog_12_method_18_code 74 = .ok (.getfield 42, 3) := by decide +kernel
theorem d_Mo_again_77 : decode prog_12_method_18_code 77 = .ok (.iload_n 1, 1) := by decide +kernel
theorem d_Mo_again_78 : decode prog_12_method_18_code 78 = .ok (.iaload, 1) := by decide +kernel
theorem d_Mo_again_79 : decode prog_12_method_18_code 79 = .ok (.iload 8, 2) := by decide +kernel
theorem d_Mo_again_81 : decode prog_12_method_18_code 81 = .ok (.ishr, 1) := by decide +kernel
theorem d_Mo_again_82 : decode prog_12_method_18_code 82 = .ok (.iconst 1, 1) := by decide +kernel
theorem d_Mo_again_83 : decode prog_12_method_18_code 83 = .ok (.iand, 1) := by decide +kernel
theorem d_Mo_again_84 : decode prog_12_method_18_code 84 = .ok (.iconst 1, 1) := by decide +kernel
theorem d_Mo_again_85 : decode prog_12_method_18_code 85 = .ok (.if_icmp .ne 39, 3) := by decide +kernel
theorem d_Mo_again_88 : decode prog_12_method_18_code 88 = .ok (.aload_n 0, 1) := by decide +kernel
theorem d_Mo_again_89 : decode prog_12_method_18_code 89 = .ok (.getfield 45, 3) := by decide +kernel
theorem d_Mo_again_92 : decode prog_12_method_18_code 92 = .ok (.iload 9, 2) := by decide +kernel
theorem d_Mo_again_94 : decode prog_12_method_18_code 94 = .ok (.iconst 2, 1) := by decide +kernel
theorem d_Mo_again_95 : decode prog_12_method_18_code 95 = .ok (.iadd, 1) := by decide +kernel
theorem d_Mo_again_96 : decode prog_12_method_18_code 96 = .ok (.iaload, 1) := by decide +kernel
theorem d_Mo_again_97 : decode prog_12_method_18_code 97 = .ok (.ifCond .le 27, 3) := by decide +kernel
theorem d_Mo_again_100 : decode prog_12_method_18_code 100 = .ok (.aload_n 0, 1) := by decide +kernel
theorem d_Mo_again_101 : decode prog_12_method_18_code 101 = .ok (.getfield 45, 3) := by decide +kernel
theorem d_Mo_again_104 : decode prog_12_method_18_code 104 = .ok (.iload 9, 2) := by decide +kernel
theorem d_Mo_again_106 : decode prog_12_method_18_code 106 = .ok (.iconst 1, 1) := by decide +kernel
theorem d_Mo_again_107 : decode prog_12_method_18_code 107 = .ok (.iadd, 1) := by decide +kernel
theorem d_Mo_again_108 : decode prog_12_method_18_code 108 = .ok (.iaload, 1) := by decide +kernel
theorem d_Mo_again_109 : decode prog_12_method_18_code 109 = .ok (.aload_n 0, 1) := by decide +kernel
theorem d_Mo_again_110 : decode prog_12_method_18_code 110 = .ok (.getfield 45, 3) := by decide +kernel
theorem d_Mo_again_113 : decode prog_12_method_18_code 113 = .ok (.iload 6, 2) := by decide +kernel
theorem d_Mo_again_115 : decode prog_12_method_18_code 115 = .ok (.iconst 1, 1) := by decide +kernel
theorem d_Mo_again_116 : decode prog_12_method_18_code 116 = .ok (.iadd, 1) := by decide +kernel
theorem d_Mo_again_117 : decode prog_12_method_18_code 117 = .ok (.iaload, 1) := by decide +kernel
theorem d_Mo_again_118 : decode prog_12_method_18_code 118 = .ok (.if_icmp .ne 6, 3) := by decide +kernel
theorem d_Mo_again_121 : decode prog_12_method_18_code 121 = .ok (.iinc 7 1, 3) := by decide +kernel
theorem d_Mo_again_124 : decode prog_12_method_18_code 124 = .ok (.iinc 8 1, 3) := by decide +kernel
theorem d_Mo_again_127 : decode prog_12_method_18_code 127 = .ok (.goto (-70), 3) := by decide +kernel
theorem d_Mo_again_130 : decode prog_12_method_18_code 130 = .ok (.iload 7, 2) := by decide +kernel
theorem d_Mo_again_132 : decode prog_12_method_18_code 132 = .ok (.iconst 2, 1) := by decide +kernel
theorem d_Mo_again_133 : decode prog_12_method_18_code 133 = .ok (.if_icmp .le 58, 3) := by decide +kernel
theorem d_Mo_again_136 : decode prog_12_method_18_code 136 = .ok (.aload_n 0, 1) := by decide +kernel
theorem d_Mo_again_137 : decode prog_12_method_18_code 137 = .ok (.getfield 45, 3) := by decide +kernel
theorem d_Mo_again_140 : decode prog_12_method_18_code 140 = .ok (.iload 6, 2) := by decide +kernel
theorem d_Mo_again_142 : decode prog_12_method_18_code 142 = .ok (.iaload, 1) := by decide +kernel
theorem d_Mo_again_143 : decode prog_12_method_18_code 143 = .ok (.iload_n 3, 1) := by decide +kernel
theorem d_Mo_again_144 : decode prog_12_method_18_code 144 = .ok (.if_icmp .gt 28, 3) := by decide +kernel
theorem d_Mo_again_147 : decode prog_12_method_18_code 147 = .ok (.aload_n 0, 1) := by decide +kernel
theorem d_Mo_again_148 : decode prog_12_method_18_code 148 = .ok (.getfield 45, 3) := by decide +kernel
theorem d_Mo_again_151 : decode prog_12_method_18_code 151 = .ok (.iload 6, 2) := by decide +kernel
theorem d_Mo_again_153 : decode prog_12_method_18_code 153 = .ok (.iaload, 1) := by decide +kernel
theorem d_Mo_again_154 : decode prog_12_method_18_code 154 = .ok (.iload_n 3, 1) := by decide +kernel
theorem d_Mo_again_155 : decode prog_12_method_18_code 155 = .ok (.if_icmp .ne 36, 3) := by decide +kernel
theorem d_Mo_again_158 : decode prog_12_method_18_code 158 = .ok (.aload_n 0, 1) := by decide +kernel
theorem d_Mo_again_159 : decode prog_12_method_18_code 159 = .ok (.getfield 45, 3) := by decide +kernel
theorem d_Mo_again_162 : decode prog_12_method_18_code 162 = .ok (.iload 6, 2) := by decide +kernel
theorem d_Mo_again_164 : decode prog_12_method_18_code 164 = .ok (.iconst 1, 1) := by decide +kernel
theorem d_Mo_again_165 : decode prog_12_method_18_code 165 = .ok (.iadd, 1) := by decide +kernel
theorem d_Mo_again_166 : decode prog_12_method_18_code 166 = .ok (.iaload, 1) := by decide +kernel
theorem d_Mo_again_167 : decode prog_12_method_18_code 167 = .ok (.iload 4, 2) := by decide +kernel
theorem d_Mo_again_169 : decode prog_12_method_18_code 169 = .ok (.if_icmp .ge 22, 3) := by decide +kernel
theorem d_Mo_again_172 : decode prog_12_method_18_code 172 = .ok (.aload_n 0, 1) := by decide +kernel
theorem d_Mo_again_173 : decode prog_12_method_18_code 173 = .ok (.getfield 45, 3) := by decide +kernel
theorem d_Mo_again_176 : decode prog_12_method_18_code 176 = .ok (.iload 6, 2) := by decide +kernel
theorem d_Mo_again_178 : decode prog_12_method_18_code 178 = .ok (.iaload, 1) := by decide +kernel
theorem d_Mo_again_179 : decode prog_12_method_18_code 179 = .ok (.istore_n 3, 1) := by decide +kernel
theorem d_Mo_again_180 : decode prog_12_method_18_code 180 = .ok (.aload_n 0, 1) := by decide +kernel
theorem d_Mo_again_181 : decode prog_12_method_18_code 181 = .ok (.getfield 45, 3) := by decide +kernel
theorem d_Mo_again_184 : decode prog_12_method_18_code 184 = .ok (.iload 6, 2) := by decide +kernel
theorem d_Mo_again_186 : decode prog_12_method_18_code 186 = .ok (.iconst 1, 1) := by decide +kernel
theorem d_Mo_again_187 : decode prog_12_method_18_code 187 = .ok (.iadd, 1) := by decide +kernel
theorem d_Mo_again_188 : decode prog_12_method_18_code 188 = .ok (.iaload, 1) := by decide +kernel
theorem d_Mo_again_189 : decode prog_12_method_18_code 189 = .ok (.istore 4, 2) := by decide +kernel
theorem d_Mo_again_191 : decode prog_12_method_18_code 191 = .ok (.iinc 5 1, 3) := by decide +kernel
theorem d_Mo_again_194 : decode prog_12_method_18_code 194 = .ok (.goto (-186), 3) := by decide +kernel
theorem d_Mo_again_197 : decode prog_12_method_18_code 197 = .ok (.iload_n 3, 1) := by decide +kernel
theorem d_Mo_again_198 : decode prog_12_method_18_code 198 = .ok (.ifCond .ge 5, 3) := by decide +kernel
theorem d_Mo_again_201 : decode prog_12_method_18_code 201 = .ok (.iconst 0, 1) := by decide +kernel
theorem d_Mo_again_202 : decode prog_12_method_18_code 202 = .ok (.ireturn, 1) := by decide +kernel
theorem d_Mo_again_203 : decode prog_12_method_18_code 203 = .ok (.iconst 0, 1) := by decide +kernel
theorem d_Mo_again_204 : decode prog_12_method_18_code 204 = .ok (.istore 5, 2) := by decide +kernel
theorem d_Mo_again_206 : decode prog_12_method_18_code 206 = .ok (.iconst 0, 1) := by decide +kernel
theorem d_Mo_again_207 : decode prog_12_method_18_code 207 = .ok (.istore 6, 2) := by decide +kernel
theorem d_Mo_again_209 : decode prog_12_method_18_code 209 = .ok (.iload 6, 2) := by decide +kernel
theorem d_Mo_again_211 : decode prog_12_method_18_code 211 = .ok (.bipush 7, 2) := by decide +kernel
theorem d_Mo_again_213 : decode prog_12_method_18_code 213 = .ok (.if_icmp .ge 77, 3) := by decide +kernel
theorem d_Mo_again_216 : decode prog_12_method_18_code 216 = .ok (.iload 5, 2) := by decide +kernel
theorem d_Mo_again_218 : decode prog_12_method_18_code 218 = .ok (.iconst 3, 1) := by decide +kernel
theorem d_Mo_again_219 : decode prog_12_method_18_code 219 = .ok (.if_icmp .ge 71, 3) := by decide +kernel
theorem d_Mo_again_222 : decode prog_12_method_18_code 222 = .ok (.iload_n 1, 1) := by decide +kernel
theorem d_Mo_again_223 : decode prog_12_method_18_code 223 = .ok (.iload 6, 2) := by decide +kernel
theorem d_Mo_again_225 : decode prog_12_method_18_code 225 = .ok (.iload_n 2, 1) := by decide +kernel
theorem d_Mo_again_226 : decode prog_12_method_18_code 226 = .ok (.invokestatic 143, 3) := by decide +kernel
theorem d_Mo_again_229 : decode prog_12_method_18_code 229 = .ok (.istore 7, 2) := by decide +kernel
theorem d_Mo_again_231 : decode prog_12_method_18_code 231 = .ok (.aload_n 0, 1) := by decide +kernel
theorem d_Mo_again_232 : decode prog_12_method_18_code 232 = .ok (.getfield 42, 3) := by decide +kernel
theorem d_Mo_again_235 : decode prog_12_method_18_code 235 = .ok (.iload_n 1, 1) := by decide +kernel
theorem d_Mo_again_236 : decode prog_12_method_18_code 236 = .ok (.iaload, 1) := by decide +kernel
theorem d_Mo_again_237 : decode prog_12_method_18_code 237 = .ok (.iload 6, 2) := by decide +kernel
theorem d_Mo_again_239 : decode prog_12_method_18_code 239 = .ok (.ishr, 1) := by decide +kernel
theorem d_Mo_again_240 : decode prog_12_method_18_code 240 = .ok (.iconst 1, 1) := by decide +kernel
theorem d_Mo_again_241 : decode prog_12_method_18_code 241 = .ok (.iand, 1) := by decide +kernel
theorem d_Mo_again_242 : decode prog_12_method_18_code 242 = .ok (.iconst 1, 1) := by decide +kernel
theorem d_Mo_again_243 : decode prog_12_method_18_code 243 = .ok (.if_icmp .ne 41, 3) := by decide +kernel
theorem d_Mo_again_246 : decode prog_12_method_18_code 246 = .ok (.aload_n 0, 1) := by decide +kernel
theorem d_Mo_again_247 : decode prog_12_method_18_code 247 = .ok (.getfield 45, 3) := by decide +kernel
theorem d_Mo_again_250 : decode prog_12_method_18_code 250 = .ok (.iload 7, 2) := by decide +kernel
theorem d_Mo_again_252 : decode prog_12_method_18_code 252 = .ok (.iconst 2, 1) := by decide +kernel
theorem d_Mo_again_253 : decode prog_12_method_18_code 253 = .ok (.iadd, 1) := by decide +kernel
theorem d_Mo_again_254 : decode prog_12_method_18_code 254 = .ok (.iaload, 1) := by decide +kernel
theorem d_Mo_again_255 : decode prog_12_method_18_code 255 = .ok (.ifCond .le 29, 3) := by decide +kernel
theorem d_Mo_again_258 : decode prog_12_method_18_code 258 = .ok (.aload_n 0, 1) := by decide +kernel
theorem d_Mo_again_259 : decode prog_12_method_18_code 259 = .ok (.getfield 45, 3) := by decide +kernel
theorem d_Mo_again_262 : decode prog_12_method_18_code 262 = .ok (.iload 7, 2) := by decide +kernel
theorem d_Mo_again_264 : decode prog_12_method_18_code 264 = .ok (.iconst 1, 1) := by decide +kernel
theorem d_Mo_again_265 : decode prog_12_method_18_code 265 = .ok (.iadd, 1) := by decide +kernel
theorem d_Mo_again_266 : decode prog_12_method_18_code 266 = .ok (.iaload, 1) := by decide +kernel
theorem d_Mo_again_267 : decode prog_12_method_18_code 267 = .ok (.iload 4, 2) := by decide +kernel
theorem d_Mo_again_269 : decode prog_12_method_18_code 269 = .ok (.if_icmp .ne 15, 3) := by decide +kernel
theorem d_Mo_again_272 : decode prog_12_method_18_code 272 = .ok (.aload_n 0, 1) := by decide +kernel
theorem d_Mo_again_273 : decode prog_12_method_18_code 273 = .ok (.getfield 75, 3) := by decide +kernel
theorem d_Mo_again_276 : decode prog_12_method_18_code 276 = .ok (.iload 5, 2) := by decide +kernel
theorem d_Mo_again_278 : decode prog_12_method_18_code 278 = .ok (.iload 6, 2) := by decide +kernel
theorem d_Mo_again_280 : decode prog_12_method_18_code 280 = .ok (.iastore, 1) := by decide +kernel
theorem d_Mo_again_281 : decode prog_12_method_18_code 281 = .ok (.iinc 5 1, 3) := by decide +kernel
theorem d_Mo_again_284 : decode prog_12_method_18_code 284 = .ok (.iinc 6 1, 3) := by decide +kernel
theorem d_Mo_again_287 : decode prog_12_method_18_code 287 = .ok (.goto (-78), 3) := by decide +kernel
theorem d_Mo_again_290 : decode prog_12_method_18_code 290 = .ok (.aload_n 0, 1) := by decide +kernel
theorem d_Mo_again_291 : decode prog_12_method_18_code 291 = .ok (.aload_n 0, 1) := by decide +kernel
theorem d_Mo_again_292 : decode prog_12_method_18_code 292 = .ok (.getfield 45, 3) := by decide +kernel
theorem d_Mo_again_295 : decode prog_12_method_18_code 295 = .ok (.iload_n 1, 1) := by decide +kernel
theorem d_Mo_again_296 : decode prog_12_method_18_code 296 = .ok (.aload_n 0, 1) := by decide +kernel
theorem d_Mo_again_297 : decode prog_12_method_18_code 297 = .ok (.getfield 75, 3) := by decide +kernel
theorem d_Mo_again_300 : decode prog_12_method_18_code 300 = .ok (.iconst 0, 1) := by decide +kernel
theorem d_Mo_again_301 : decode prog_12_method_18_code 301 = .ok (.iaload, 1) := by decide +kernel
theorem d_Mo_again_302 : decode prog_12_method_18_code 302 = .ok (.iload_n 2, 1) := by decide +kernel
theorem d_Mo_again_303 : decode prog_12_method_18_code 303 = .ok (.invokestatic 143, 3) := by decide +kernel
theorem d_Mo_again_306 : decode prog_12_method_18_code 306 = .ok (.iload_n 1, 1) := by decide +kernel
theorem d_Mo_again_307 : decode prog_12_method_18_code 307 = .ok (.aload_n 0, 1) := by decide +kernel
theorem d_Mo_again_308 : decode prog_12_method_18_code 308 = .ok (.getfield 75, 3) := by decide +kernel
theorem d_Mo_again_311 : decode prog_12_method_18_code 311 = .ok (.iconst 1, 1) := by decide +kernel
theorem d_Mo_again_312 : decode prog_12_method_18_code 312 = .ok (.iaload, 1) := by decide +kernel
theorem d_Mo_again_313 : decode prog_12_method_18_code 313 = .ok (.iload_n 2, 1) := by decide +kernel
theorem d_Mo_again_314 : decode prog_12_method_18_code 314 = .ok (.invokestatic 143, 3) := by decide +kernel
theorem d_Mo_again_317 : decode prog_12_method_18_code 317 = .ok (.iload_n 1, 1) := by decide +kernel
theorem d_Mo_again_318 : decode prog_12_method_18_code 318 = .ok (.aload_n 0, 1) := by decide +kernel
theorem d_Mo_again_319 : decode prog_12_method_18_code 319 = .ok (.getfield 75, 3) := by decide +kernel
theorem d_Mo_again_322 : decode prog_12_method_18_code 322 = .ok (.iconst 2, 1) := by decide +kernel
theorem d_Mo_again_323 : decode prog_12_method_18_code 323 = .ok (.iaload, 1) := by decide +kernel
theorem d_Mo_again_324 : decode prog_12_method_18_code 324 = .ok (.iload_n 2, 1) := by decide +kernel
theorem d_Mo_again_325 : decode prog_12_method_18_code 325 = .ok (.invokestatic 143, 3) := by decide +kernel
theorem d_Mo_again_328 : decode prog_12_method_18_code 328 = .ok (.invokevirtual 146, 3) := by decide +kernel
theorem d_Mo_again_331 : decode prog_12_method_18_code 331 = .ok (.istore 6, 2) := by decide +kernel
theorem d_Mo_again_333 : decode prog_12_method_18_code 333 = .ok (.aload_n 0, 1) := by decide +kernel
theorem d_Mo_again_334 : decode prog_12_method_18_code 334 = .ok (.iload_n 1, 1) := by decide +kernel
theorem d_Mo_again_335 : decode prog_12_method_18_code 335 = .ok (.iload_n 2, 1) := by decide +kernel
theorem d_Mo_again_336 : decode prog_12_method_18_code 336 = .ok (.iload 4, 2) := by decide +kernel
theorem d_Mo_again_338 : decode prog_12_method_18_code 338 = .ok (.aload_n 0, 1) := by decide +kernel
theorem d_Mo_again_339 : decode prog_12_method_18_code 339 = .ok (.getfield 78, 3) := by decide +kernel
theorem d_Mo_again_342 : decode prog_12_method_18_code 342 = .ok (.iconst 0, 1) := by decide +kernel
theorem d_Mo_again_343 : decode prog_12_method_18_code 343 = .ok (.iload 6, 2) := by decide +kernel
theorem d_Mo_again_345 : decode prog_12_method_18_code 345 = .ok (.invokevirtual 150, 3) := by decide +kernel
theorem d_Mo_again_348 : decode prog_12_method_18_code 348 = .ok (.iconst 1, 1) := by decide +kernel
theorem d_Mo_again_349 : decode prog_12_method_18_code 349 = .ok (.ireturn, 1) := by decide +kernel
theorem d_Mo_heardAt_0 : decode prog_12_method_17_code 0 = .ok (.sipush 616, 3) := by decide +kernel
theorem d_Mo_heardAt_3 : decode prog_12_method_17_code 3 = .ok (.iload_n 0, 1) := by decide +kernel
theorem d_Mo_heardAt_4 : decode prog_12_method_17_code 4 = .ok (.imul, 1) := by decide +kernel
theorem d_Mo_heardAt_5 : decode prog_12_method_17_code 5 = .ok (.bipush 88, 2) := by decide +kernel
theorem d_Mo_heardAt_7 : decode prog_12_method_17_code 7 = .ok (.iload_n 1, 1) := by decide +kernel
theorem d_Mo_heardAt_8 : decode prog_12_method_17_code 8 = .ok (.imul, 1) := by decide +kernel
theorem d_Mo_heardAt_9 : decode prog_12_method_17_code 9 = .ok (.iadd, 1) := by decide +kernel
theorem d_Mo_heardAt_10 : decode prog_12_method_17_code 10 = .ok (.bipush 11, 2) := by decide +kernel
theorem d_Mo_heardAt_12 : decode prog_12_method_17_code 12 = .ok (.iload_n 2, 1) := by decide +kernel
theorem d_Mo_heardAt_13 : decode prog_12_method_17_code 13 = .ok (.imul, 1) := by decide +kernel
theorem d_Mo_heardAt_14 : decode prog_12_method_17_code 14 = .ok (.iadd, 1) := by decide +kernel
theorem d_Mo_heardAt_15 : decode prog_12_method_17_code 15 = .ok (.ireturn, 1) := by decide +kernel
theorem d_Mo_together_0 : decode prog_12_method_8_code 0 = .ok (.aload_n 1, 1) := by decide +kernel
theorem d_Mo_together_1 : decode prog_12_method_8_code 1 = .ok (.iload_n 2, 1) := by decide +kernel
theorem d_Mo_together_2 : decode prog_12_method_8_code 2 = .ok (.iconst 2, 1) := by decide +kernel
theorem d_Mo_together_3 : decode prog_12_method_8_code 3 = .ok (.iadd, 1) := by decide +kernel
theorem d_Mo_together_4 : decode prog_12_method_8_code 4 = .ok (.iaload, 1) := by decide +kernel
theorem d_Mo_together_5 : decode prog_12_method_8_code 5 = .ok (.istore 5, 2) := by decide +kernel
theorem d_Mo_together_7 : decode prog_12_method_8_code 7 = .ok (.iload 5, 2) := by decide +kernel
theorem d_Mo_together_9 : decode prog_12_method_8_code 9 = .ok (.invokestatic 100, 3) := by decide +kernel
theorem d_Mo_together_12 : decode prog_12_method_8_code 12 = .ok (.istore 6, 2) := by decide +kernel
theorem d_Mo_together_14 : decode prog_12_method_8_code 14 = .ok (.iconst 0, 1) := by decide +kernel
theorem d_Mo_together_15 : decode prog_12_method_8_code 15 = .ok (.istore 7, 2) := by decide +kernel
theorem d_Mo_together_17 : decode prog_12_method_8_code 17 = .ok (.iload 7, 2) := by decide +kernel
theorem d_Mo_together_19 : decode prog_12_method_8_code 19 = .ok (.iload 6, 2) := by decide +kernel
theorem d_Mo_together_21 : decode prog_12_method_8_code 21 = .ok (.if_icmp .ge 86, 3) := by decide +kernel
theorem d_Mo_together_24 : decode prog_12_method_8_code 24 = .ok (.aload_n 0, 1) := by decide +kernel
theorem d_Mo_together_25 : decode prog_12_method_8_code 25 = .ok (.aload_n 1, 1) := by decide +kernel
theorem d_Mo_together_26 : decode prog_12_method_8_code 26 = .ok (.iload_n 2, 1) := by decide +kernel
theorem d_Mo_together_27 : decode prog_12_method_8_code 27 = .ok (.iconst 3, 1) := by decide +kernel
theorem d_Mo_together_28 : decode prog_12_method_8_code 28 = .ok (.iadd, 1) := by decide +kernel
theorem d_Mo_together_29 : decode prog_12_method_8_code 29 = .ok (.iload 7, 2) := by decide +kernel
theorem d_Mo_together_31 : decode prog_12_method_8_code 31 = .ok (.iadd, 1) := by decide +kernel
theorem d_Mo_together_32 : decode prog_12_method_8_code 32 = .ok (.iaload, 1) := by decide +kernel
theorem d_Mo_together_33 : decode prog_12_method_8_code 33 = .ok (.aload_n 1, 1) := by decide +kernel
theorem d_Mo_together_34 : decode prog_12_method_8_code 34 = .ok (.iload_n 3, 1) := by decide +kernel
theorem d_Mo_together_35 : decode prog_12_method_8_code 35 = .ok (.iconst 3, 1) := by decide +kernel
theorem d_Mo_together_36 : decode prog_12_method_8_code 36 = .ok (.iadd, 1) := by decide +kernel
theorem d_Mo_together_37 : decode prog_12_method_8_code 37 = .ok (.iload 7, 2) := by decide +kernel
theorem d_Mo_together_39 : decode prog_12_method_8_code 39 = .ok (.iadd, 1) := by decide +kernel
theorem d_Mo_together_40 : decode prog_12_method_8_code 40 = .ok (.iaload, 1) := by decide +kernel
theorem d_Mo_together_41 : decode prog_12_method_8_code 41 = .ok (.aload_n 1, 1) := by decide +kernel
theorem d_Mo_together_42 : decode prog_12_method_8_code 42 = .ok (.iload 4, 2) := by decide +kernel
theorem d_Mo_together_44 : decode prog_12_method_8_code 44 = .ok (.iconst 3, 1) := by decide +kernel
theorem d_Mo_together_45 : decode prog_12_method_8_code 45 = .ok (.iadd, 1) := by decide +kernel
theorem d_Mo_together_46 : decode prog_12_method_8_code 46 = .ok (.iload 7, 2) := by decide +kernel
theorem d_Mo_together_48 : decode prog_12_method_8_code 48 = .ok (.iadd, 1) := by decide +kernel
theorem d_Mo_together_49 : decode prog_12_method_8_code 49 = .ok (.iaload, 1) := by decide +kernel
theorem d_Mo_together_50 : decode prog_12_method_8_code 50 = .ok (.invokevirtual 110, 3) := by decide +kernel
theorem d_Mo_together_53 : decode prog_12_method_8_code 53 = .ok (.iconst 0, 1) := by decide +kernel
theorem d_Mo_together_54 : decode prog_12_method_8_code 54 = .ok (.istore 8, 2) := by decide +kernel
theorem d_Mo_together_56 : decode prog_12_method_8_code 56 = .ok (.iload 8, 2) := by decide +kernel
theorem d_Mo_together_58 : decode prog_12_method_8_code 58 = .ok (.iconst 3, 1) := by decide +kernel
theorem d_Mo_together_59 : decode prog_12_method_8_code 59 = .ok (.if_icmp .ge 42, 3) := by decide +kernel
theorem d_Mo_together_62 : decode prog_12_method_8_code 62 = .ok (.iload 6, 2) := by decide +kernel
theorem d_Mo_together_64 : decode prog_12_method_8_code 64 = .ok (.iload 8, 2) := by decide +kernel
theorem d_Mo_together_66 : decode prog_12_method_8_code 66 = .ok (.imul, 1) := by decide +kernel
theorem d_Mo_together_67 : decode prog_12_method_8_code 67 = .ok (.iload 7, 2) := by decide +kernel
theorem d_Mo_together_69 : decode prog_12_method_8_code 69 = .ok (.iadd, 1) := by decide +kernel
theorem d_Mo_together_70 : decode prog_12_method_8_code 70 = .ok (.iload 5, 2) := by decide +kernel
theorem d_Mo_together_72 : decode prog_12_method_8_code 72 = .ok (.if_icmp .ge 23, 3) := by decide +kernel
theorem d_Mo_together_75 : decode prog_12_method_8_code 75 = .ok (.aload_n 0, 1) := by decide +kernel
theorem d_Mo_together_76 : decode prog_12_method_8_code 76 = .ok (.getfield 78, 3) := by decide +kernel
theorem d_Mo_together_79 : decode prog_12_method_8_code 79 = .ok (.iload 6, 2) := by decide +kernel
theorem d_Mo_together_81 : decode prog_12_method_8_code 81 = .ok (.iload 8, 2) := by decide +kernel
theorem d_Mo_together_83 : decode prog_12_method_8_code 83 = .ok (.imul, 1) := by decide +kernel
theorem d_Mo_together_84 : decode prog_12_method_8_code 84 = .ok (.iload 7, 2) := by decide +kernel
theorem d_Mo_together_86 : decode prog_12_method_8_code 86 = .ok (.iadd, 1) := by decide +kernel
theorem d_Mo_together_87 : decode prog_12_method_8_code 87 = .ok (.aload_n 0, 1) := by decide +kernel
theorem d_Mo_together_88 : decode prog_12_method_8_code 88 = .ok (.getfield 81, 3) := by decide +kernel
theorem d_Mo_together_91 : decode prog_12_method_8_code 91 = .ok (.iload 8, 2) := by decide +kernel
theorem d_Mo_together_93 : decode prog_12_method_8_code 93 = .ok (.iaload, 1) := by decide +kernel
theorem d_Mo_together_94 : decode prog_12_method_8_code 94 = .ok (.iastore, 1) := by decide +kernel
theorem d_Mo_together_95 : decode prog_12_method_8_code 95 = .ok (.iinc 8 1, 3) := by decide +kernel
theorem d_Mo_together_98 : decode prog_12_method_8_code 98 = .ok (.goto (-42), 3) := by decide +kernel
theorem d_Mo_together_101 : decode prog_12_method_8_code 101 = .ok (.iinc 7 1, 3) := by decide +kernel
theorem d_Mo_together_104 : decode prog_12_method_8_code 104 = .ok (.goto (-87), 3) := by decide +kernel
theorem d_Mo_together_107 : decode prog_12_method_8_code 107 = .ok (.iload 5, 2) := by decide +kernel
theorem d_Mo_together_109 : decode prog_12_method_8_code 109 = .ok (.ireturn, 1) := by decide +kernel
theorem d_Mo_solve_0 : decode prog_12_method_7_code 0 = .ok (.aload_n 0, 1) := by decide +kernel
theorem d_Mo_solve_1 : decode prog_12_method_7_code 1 = .ok (.getfield 81, 3) := by decide +kernel
theorem d_Mo_solve_4 : decode prog_12_method_7_code 4 = .ok (.iconst 0, 1) := by decide +kernel
theorem d_Mo_solve_5 : decode prog_12_method_7_code 5 = .ok (.iconst 0, 1) := by decide +kernel
theorem d_Mo_solve_6 : decode prog_12_method_7_code 6 = .ok (.iastore, 1) := by decide +kernel
theorem d_Mo_solve_7 : decode prog_12_method_7_code 7 = .ok (.aload_n 0, 1) := by decide +kernel
theorem d_Mo_solve_8 : decode prog_12_method_7_code 8 = .ok (.getfield 81, 3) := by decide +kernel
theorem d_Mo_solve_11 : decode prog_12_method_7_code 11 = .ok (.iconst 1, 1) := by decide +kernel
theorem d_Mo_solve_12 : decode prog_12_method_7_code 12 = .ok (.iconst 0, 1) := by decide +kernel
theorem d_Mo_solve_13 : decode prog_12_method_7_code 13 = .ok (.iastore, 1) := by decide +kernel
theorem d_Mo_solve_14 : decode prog_12_method_7_code 14 = .ok (.aload_n 0, 1) := by decide +kernel
theorem d_Mo_solve_15 : decode prog_12_method_7_code 15 = .ok (.getfield 81, 3) := by decide +kernel
theorem d_Mo_solve_18 : decode prog_12_method_7_code 18 = .ok (.iconst 2, 1) := by decide +kernel
theorem d_Mo_solve_19 : decode prog_12_method_7_code 19 = .ok (.iconst 0, 1) := by decide +kernel
theorem d_Mo_solve_20 : decode prog_12_method_7_code 20 = .ok (.iastore, 1) := by decide +kernel
theorem d_Mo_solve_21 : decode prog_12_method_7_code 21 = .ok (.iconst 0, 1) := by decide +kernel
theorem d_Mo_solve_22 : decode prog_12_method_7_code 22 = .ok (.istore 4, 2) := by decide +kernel
theorem d_Mo_solve_24 : decode prog_12_method_7_code 24 = .ok (.iload 4, 2) := by decide +kernel
theorem d_Mo_solve_26 : decode prog_12_method_7_code 26 = .ok (.iconst 3, 1) := by decide +kernel
theorem d_Mo_solve_27 : decode prog_12_method_7_code 27 = .ok (.if_icmp .ge 164, 3) := by decide +kernel
theorem d_Mo_solve_30 : decode prog_12_method_7_code 30 = .ok (.aload_n 0, 1) := by decide +kernel
theorem d_Mo_solve_31 : decode prog_12_method_7_code 31 = .ok (.getfield 75, 3) := by decide +kernel
theorem d_Mo_solve_34 : decode prog_12_method_7_code 34 = .ok (.iload 4, 2) := by decide +kernel
theorem d_Mo_solve_36 : decode prog_12_method_7_code 36 = .ok (.iaload, 1) := by decide +kernel
theorem d_Mo_solve_37 : decode prog_12_method_7_code 37 = .ok (.iconst 1, 1) := by decide +kernel
theorem d_Mo_solve_38 : decode prog_12_method_7_code 38 = .ok (.iadd, 1) := by decide +kernel
theorem d_Mo_solve_39 : decode prog_12_method_7_code 39 = .ok (.istore 5, 2) := by decide +kernel
theorem d_Mo_solve_41 : decode prog_12_method_7_code 41 = .ok (.aload_n 0, 1) := by decide +kernel
theorem d_Mo_solve_42 : decode prog_12_method_7_code 42 = .ok (.getfield 75, 3) := by decide +kernel
theorem d_Mo_solve_45 : decode prog_12_method_7_code 45 = .ok (.iload 4, 2) := by decide +kernel
theorem d_Mo_solve_47 : decode prog_12_method_7_code 47 = .ok (.iconst 1, 1) := by decide +kernel
theorem d_Mo_solve_48 : decode prog_12_method_7_code 48 = .ok (.iadd, 1) := by decide +kernel
theorem d_Mo_solve_49 : decode prog_12_method_7_code 49 = .ok (.iconst 3, 1) := by decide +kernel
theorem d_Mo_solve_50 : decode prog_12_method_7_code 50 = .ok (.irem, 1) := by decide +kernel
theorem d_Mo_solve_51 : decode prog_12_method_7_code 51 = .ok (.iaload, 1) := by decide +kernel
theorem d_Mo_solve_52 : decode prog_12_method_7_code 52 = .ok (.iconst 1, 1) := by decide +kernel
theorem d_Mo_solve_53 : decode prog_12_method_7_code 53 = .ok (.iadd, 1) := by decide +kernel
theorem d_Mo_solve_54 : decode prog_12_method_7_code 54 = .ok (.istore 6, 2) := by decide +kernel
theorem d_Mo_solve_56 : decode prog_12_method_7_code 56 = .ok (.aload_n 0, 1) := by decide +kernel
theorem d_Mo_solve_57 : decode prog_12_method_7_code 57 = .ok (.getfield 75, 3) := by decide +kernel
theorem d_Mo_solve_60 : decode prog_12_method_7_code 60 = .ok (.iload 4, 2) := by decide +kernel
theorem d_Mo_solve_62 : decode prog_12_method_7_code 62 = .ok (.iconst 2, 1) := by decide +kernel
theorem d_Mo_solve_63 : decode prog_12_method_7_code 63 = .ok (.iadd, 1) := by decide +kernel
theorem d_Mo_solve_64 : decode prog_12_method_7_code 64 = .ok (.iconst 3, 1) := by decide +kernel
theorem d_Mo_solve_65 : decode prog_12_method_7_code 65 = .ok (.irem, 1) := by decide +kernel
theorem d_Mo_solve_66 : decode prog_12_method_7_code 66 = .ok (.iaload, 1) := by decide +kernel
theorem d_Mo_solve_67 : decode prog_12_method_7_code 67 = .ok (.iconst 1, 1) := by decide +kernel
theorem d_Mo_solve_68 : decode prog_12_method_7_code 68 = .ok (.iadd, 1) := by decide +kernel
theorem d_Mo_solve_69 : decode prog_12_method_7_code 69 = .ok (.istore 7, 2) := by decide +kernel
theorem d_Mo_solve_71 : decode prog_12_method_7_code 71 = .ok (.aload_n 0, 1) := by decide +kernel
theorem d_Mo_solve_72 : decode prog_12_method_7_code 72 = .ok (.iload 5, 2) := by decide +kernel
theorem d_Mo_solve_74 : decode prog_12_method_7_code 74 = .ok (.iload 6, 2) := by decide +kernel
theorem d_Mo_solve_76 : decode prog_12_method_7_code 76 = .ok (.ixor, 1) := by decide +kernel
theorem d_Mo_solve_77 : decode prog_12_method_7_code 77 = .ok (.iload 5, 2) := by decide +kernel
theorem d_Mo_solve_79 : decode prog_12_method_7_code 79 = .ok (.iload 7, 2) := by decide +kernel
theorem d_Mo_solve_81 : decode prog_12_method_7_code 81 = .ok (.ixor, 1) := by decide +kernel
theorem d_Mo_solve_82 : decode prog_12_method_7_code 82 = .ok (.invokevirtual 104, 3) := by decide +kernel
theorem d_Mo_solve_85 : decode prog_12_method_7_code 85 = .ok (.istore 8, 2) := by decide +kernel
theorem d_Mo_solve_87 : decode prog_12_method_7_code 87 = .ok (.aload_n 0, 1) := by decide +kernel
theorem d_Mo_solve_88 : decode prog_12_method_7_code 88 = .ok (.iload 4, 2) := by decide +kernel
theorem d_Mo_solve_90 : decode prog_12_method_7_code 90 = .ok (.ifCond .ne 7, 3) := by decide +kernel
theorem d_Mo_solve_93 : decode prog_12_method_7_code 93 = .ok (.iload_n 1, 1) := by decide +kernel
theorem d_Mo_solve_94 : decode prog_12_method_7_code 94 = .ok (.goto 14, 3) := by decide +kernel
theorem d_Mo_solve_97 : decode prog_12_method_7_code 97 = .ok (.iload 4, 2) := by decide +kernel
theorem d_Mo_solve_99 : decode prog_12_method_7_code 99 = .ok (.iconst 1, 1) := by decide +kernel
theorem d_Mo_solve_100 : decode prog_12_method_7_code 100 = .ok (.if_icmp .ne 7, 3) := by decide +kernel
theorem d_Mo_solve_103 : decode prog_12_method_7_code 103 = .ok (.iload_n 2, 1) := by decide +kernel
theorem d_Mo_solve_104 : decode prog_12_method_7_code 104 = .ok (.goto 4, 3) := by decide +kernel
theorem d_Mo_solve_107 : decode prog_12_method_7_code 107 = .ok (.iload_n 3, 1) := by decide +kernel
theorem d_Mo_solve_108 : decode prog_12_method_7_code 108 = .ok (.aload_n 0, 1) := by decide +kernel
theorem d_Mo_solve_109 : decode prog_12_method_7_code 109 = .ok (.iload 8, 2) := by decide +kernel
theorem d_Mo_solve_111 : decode prog_12_method_7_code 111 = .ok (.invokevirtual 107, 3) := by decide +kernel
theorem d_Mo_solve_114 : decode prog_12_method_7_code 114 = .ok (.invokevirtual 104, 3) := by decide +kernel
theorem d_Mo_solve_117 : decode prog_12_method_7_code 117 = .ok (.istore 9, 2) := by decide +kernel
theorem d_Mo_solve_119 : decode prog_12_method_7_code 119 = .ok (.aload_n 0, 1) := by decide +kernel
theorem d_Mo_solve_120 : decode prog_12_method_7_code 120 = .ok (.getfield 81, 3) := by decide +kernel
theorem d_Mo_solve_123 : decode prog_12_method_7_code 123 = .ok (.iconst 0, 1) := by decide +kernel
theorem d_Mo_solve_124 : decode prog_12_method_7_code 124 = .ok (.aload_n 0, 1) := by decide +kernel
theorem d_Mo_solve_125 : decode prog_12_method_7_code 125 = .ok (.getfield 81, 3) := by decide +kernel
theorem d_Mo_solve_128 : decode prog_12_method_7_code 128 = .ok (.iconst 0, 1) := by decide +kernel
theorem d_Mo_solve_129 : decode prog_12_method_7_code 129 = .ok (.iaload, 1) := by decide +kernel
theorem d_Mo_solve_130 : decode prog_12_method_7_code 130 = .ok (.aload_n 0, 1) := by decide +kernel
theorem d_Mo_solve_131 : decode prog_12_method_7_code 131 = .ok (.iload 9, 2) := by decide +kernel
theorem d_Mo_solve_133 : decode prog_12_method_7_code 133 = .ok (.aload_n 0, 1) := by decide +kernel
theorem d_Mo_solve_134 : decode prog_12_method_7_code 134 = .ok (.iload 6, 2) := by decide +kernel
theorem d_Mo_solve_136 : decode prog_12_method_7_code 136 = .ok (.iload 7, 2) := by decide +kernel
theorem d_Mo_solve_138 : decode prog_12_method_7_code 138 = .ok (.invokevirtual 104, 3) := by decide +kernel
theorem d_Mo_solve_141 : decode prog_12_method_7_code 141 = .ok (.invokevirtual 104, 3) := by decide +kernel
theorem d_Mo_solve_144 : decode prog_12_method_7_code 144 = .ok (.ixor, 1) := by decide +kernel
theorem d_Mo_solve_145 : decode prog_12_method_7_code 145 = .ok (.iastore, 1) := by decide +kernel
theorem d_Mo_solve_146 : decode prog_12_method_7_code 146 = .ok (.aload_n 0, 1) := by decide +kernel
theorem d_Mo_solve_147 : decode prog_12_method_7_code 147 = .ok (.getfield 81, 3) := by decide +kernel
theorem d_Mo_solve_150 : decode prog_12_method_7_code 150 = .ok (.iconst 1, 1) := by decide +kernel
theorem d_Mo_solve_151 : decode prog_12_method_7_code 151 = .ok (.aload_n 0, 1) := by decide +kernel
theorem d_Mo_solve_152 : decode prog_12_method_7_code 152 = .ok (.getfield 81, 3) := by decide +kernel
theorem d_Mo_solve_155 : decode prog_12_method_7_code 155 = .ok (.iconst 1, 1) := by decide +kernel
theorem d_Mo_solve_156 : decode prog_12_method_7_code 156 = .ok (.iaload, 1) := by decide +kernel
theorem d_Mo_solve_157 : decode prog_12_method_7_code 157 = .ok (.aload_n 0, 1) := by decide +kernel
theorem d_Mo_solve_158 : decode prog_12_method_7_code 158 = .ok (.iload 9, 2) := by decide +kernel
theorem d_Mo_solve_160 : decode prog_12_method_7_code 160 = .ok (.iload 6, 2) := by decide +kernel
theorem d_Mo_solve_162 : decode prog_12_method_7_code 162 = .ok (.iload 7, 2) := by decide +kernel
theorem d_Mo_solve_164 : decode prog_12_method_7_code 164 = .ok (.ixor, 1) := by decide +kernel
theorem d_Mo_solve_165 : decode prog_12_method_7_code 165 = .ok (.invokevirtual 104, 3) := by decide +kernel
theorem d_Mo_solve_168 : decode prog_12_method_7_code 168 = .ok (.ixor, 1) := by decide +kernel
theorem d_Mo_solve_169 : decode prog_12_method_7_code 169 = .ok (.iastore, 1) := by decide +kernel
theorem d_Mo_solve_170 : decode prog_12_method_7_code 170 = .ok (.aload_n 0, 1) := by decide +kernel
theorem d_Mo_solve_171 : decode prog_12_method_7_code 171 = .ok (.getfield 81, 3) := by decide +kernel
theorem d_Mo_solve_174 : decode prog_12_method_7_code 174 = .ok (.iconst 2, 1) := by decide +kernel
theorem d_Mo_solve_175 : decode prog_12_method_7_code 175 = .ok (.aload_n 0, 1) := by decide +kernel
theorem d_Mo_solve_176 : decode prog_12_method_7_code 176 = .ok (.getfield 81, 3) := by decide +kernel
theorem d_Mo_solve_179 : decode prog_12_method_7_code 179 = .ok (.iconst 2, 1) := by decide +kernel
theorem d_Mo_solve_180 : decode prog_12_method_7_code 180 = .ok (.iaload, 1) := by decide +kernel
theorem d_Mo_solve_181 : decode prog_12_method_7_code 181 = .ok (.iload 9, 2) := by decide +kernel
theorem d_Mo_solve_183 : decode prog_12_method_7_code 183 = .ok (.ixor, 1) := by decide +kernel
theorem d_Mo_solve_184 : decode prog_12_method_7_code 184 = .ok (.iastore, 1) := by decide +kernel
theorem d_Mo_solve_185 : decode prog_12_method_7_code 185 = .ok (.iinc 4 1, 3) := by decide +kernel
theorem d_Mo_solve_188 : decode prog_12_method_7_code 188 = .ok (.goto (-164), 3) := by decide +kernel
theorem d_Mo_solve_191 : decode prog_12_method_7_code 191 = .ok (.return_, 1) := by decide +kernel
theorem d_Mo_inverse_0 : decode prog_12_method_6_code 0 = .ok (.iconst 1, 1) := by decide +kernel
theorem d_Mo_inverse_1 : decode prog_12_method_6_code 1 = .ok (.istore_n 2, 1) := by decide +kernel
theorem d_Mo_inverse_2 : decode prog_12_method_6_code 2 = .ok (.aload_n 0, 1) := by decide +kernel
theorem d_Mo_inverse_3 : decode prog_12_method_6_code 3 = .ok (.iload_n 1, 1) := by decide +kernel
theorem d_Mo_inverse_4 : decode prog_12_method_6_code 4 = .ok (.iload_n 2, 1) := by decide +kernel
theorem d_Mo_inverse_5 : decode prog_12_method_6_code 5 = .ok (.invokevirtual 104, 3) := by decide +kernel
theorem d_Mo_inverse_8 : decode prog_12_method_6_code 8 = .ok (.iconst 1, 1) := by decide +kernel
theorem d_Mo_inverse_9 : decode prog_12_method_6_code 9 = .ok (.if_icmp .eq 9, 3) := by decide +kernel
theorem d_Mo_inverse_12 : decode prog_12_method_6_code 12 = .ok (.iinc 2 1, 3) := by decide +kernel
theorem d_Mo_inverse_15 : decode prog_12_method_6_code 15 = .ok (.goto (-13), 3) := by decide +kernel
theorem d_Mo_inverse_18 : decode prog_12_method_6_code 18 = .ok (.iload_n 2, 1) := by decide +kernel
theorem d_Mo_inverse_19 : decode prog_12_method_6_code 19 = .ok (.ireturn, 1) := by decide +kernel
theorem d_Mo_acceptedComes_0 : decode prog_12_method_20_code 0 = .ok (.bipush 8, 2) := by decide +kernel
theorem d_Mo_acceptedComes_2 : decode prog_12_method_20_code 2 = .ok (.iload_n 2, 1) := by decide +kernel
theorem d_Mo_acceptedComes_3 : decode prog_12_method_20_code 3 = .ok (.imul, 1) := by decide +kernel
theorem d_Mo_acceptedComes_4 : decode prog_12_method_20_code 4 = .ok (.aload_n 0, 1) := by decide +kernel
theorem d_Mo_acceptedComes_5 : decode prog_12_method_20_code 5 = .ok (.getfield 90, 3) := by decide +kernel
theorem d_Mo_acceptedComes_8 : decode prog_12_method_20_code 8 = .ok (.iconst 4, 1) := by decide +kernel
theorem d_Mo_acceptedComes_9 : decode prog_12_method_20_code 9 = .ok (.iaload, 1) := by decide +kernel
theorem d_Mo_acceptedComes_10 : decode prog_12_method_20_code 10 = .ok (.bipush 7, 2) := by decide +kernel
theorem d_Mo_acceptedComes_12 : decode prog_12_method_20_code 12 = .ok (.iand, 1) := by decide +kernel
theorem d_Mo_acceptedComes_13 : decode prog_12_method_20_code 13 = .ok (.iadd, 1) := by decide +kernel
theorem d_Mo_acceptedComes_14 : decode prog_12_method_20_code 14 = .ok (.istore_n 3, 1) := by decide +kernel
theorem d_Mo_acceptedComes_15 : decode prog_12_method_20_code 15 = .ok (.aload_n 0, 1) := by decide +kernel
theorem d_Mo_acceptedComes_16 : decode prog_12_method_20_code 16 = .ok (.getfield 36, 3) := by decide +kernel
theorem d_Mo_acceptedComes_19 : decode prog_12_method_20_code 19 = .ok (.iload_n 2, 1) := by decide +kernel
theorem d_Mo_acceptedComes_20 : decode prog_12_method_20_code 20 = .ok (.iaload, 1) := by decide +kernel
theorem d_Mo_acceptedComes_21 : decode prog_12_method_20_code 21 = .ok (.iconst 2, 1) := by decide +kernel
theorem d_Mo_acceptedComes_22 : decode prog_12_method_20_code 22 = .ok (.if_icmp .ne 42, 3) := by decide +kernel
theorem d_Mo_acceptedComes_25 : decode prog_12_method_20_code 25 = .ok (.aload_n 0, 1) := by decide +kernel
theorem d_Mo_acceptedComes_26 : decode prog_12_method_20_code 26 = .ok (.getfield 90, 3) := by decide +kernel
theorem d_Mo_acceptedComes_29 : decode prog_12_method_20_code 29 = .ok (.iconst 3, 1) := by decide +kernel
theorem d_Mo_acceptedComes_30 : decode prog_12_method_20_code 30 = .ok (.iaload, 1) := by decide +kernel
theorem d_Mo_acceptedComes_31 : decode prog_12_method_20_code 31 = .ok (.aload_n 0, 1) := by decide +kernel
theorem d_Mo_acceptedComes_32 : decode prog_12_method_20_code 32 = .ok (.getfield 39, 3) := by decide +kernel
theorem d_Mo_acceptedComes_35 : decode prog_12_method_20_code 35 = .ok (.iload_n 2, 1) := by decide +kernel
theorem d_Mo_acceptedComes_36 : decode prog_12_method_20_code 36 = .ok (.iaload, 1) := by decide +kernel
theorem d_Mo_acceptedComes_37 : decode prog_12_method_20_code 37 = .ok (.if_icmp .ne 27, 3) := by decide +kernel
theorem d_Mo_acceptedComes_40 : decode prog_12_method_20_code 40 = .ok (.aload_n 0, 1) := by decide +kernel
theorem d_Mo_acceptedComes_41 : decode prog_12_method_20_code 41 = .ok (.getfield 57, 3) := by decide +kernel
theorem d_Mo_acceptedComes_44 : decode prog_12_method_20_code 44 = .ok (.iload_n 3, 1) := by decide +kernel
theorem d_Mo_acceptedComes_45 : decode prog_12_method_20_code 45 = .ok (.iaload, 1) := by decide +kernel
theorem d_Mo_acceptedComes_46 : decode prog_12_method_20_code 46 = .ok (.ifCond .eq 18, 3) := by decide +kernel
theorem d_Mo_acceptedComes_49 : decode prog_12_method_20_code 49 = .ok (.aload_n 0, 1) := by decide +kernel
theorem d_Mo_acceptedComes_50 : decode prog_12_method_20_code 50 = .ok (.getfield 57, 3) := by decide +kernel
theorem d_Mo_acceptedComes_53 : decode prog_12_method_20_code 53 = .ok (.iload_n 3, 1) := by decide +kernel
theorem d_Mo_acceptedComes_54 : decode prog_12_method_20_code 54 = .ok (.iaload, 1) := by decide +kernel
theorem d_Mo_acceptedComes_55 : decode prog_12_method_20_code 55 = .ok (.aload_n 0, 1) := by decide +kernel
theorem d_Mo_acceptedComes_56 : decode prog_12_method_20_code 56 = .ok (.getfield 90, 3) := by decide +kernel
theorem d_Mo_acceptedComes_59 : decode prog_12_method_20_code 59 = .ok (.iconst 5, 1) := by decide +kernel
theorem d_Mo_acceptedComes_60 : decode prog_12_method_20_code 60 = .ok (.iaload, 1) := by decide +kernel
theorem d_Mo_acceptedComes_61 : decode prog_12_method_20_code 61 = .ok (.if_icmp .eq 4, 3) := by decide +kernel
theorem d_Mo_acceptedComes_64 : decode prog_12_method_20_code 64 = .ok (.return_, 1) := by decide +kernel
theorem d_Mo_acceptedComes_65 : decode prog_12_method_20_code 65 = .ok (.aload_n 0, 1) := by decide +kernel
theorem d_Mo_acceptedComes_66 : decode prog_12_method_20_code 66 = .ok (.getfield 63, 3) := by decide +kernel
theorem d_Mo_acceptedComes_69 : decode prog_12_method_20_code 69 = .ok (.iload_n 3, 1) := by decide +kernel
theorem d_Mo_acceptedComes_70 : decode prog_12_method_20_code 70 = .ok (.aload_n 0, 1) := by decide +kernel
theorem d_Mo_acceptedComes_71 : decode prog_12_method_20_code 71 = .ok (.getfield 63, 3) := by decide +kernel
theorem d_Mo_acceptedComes_74 : decode prog_12_method_20_code 74 = .ok (.iload_n 3, 1) := by decide +kernel
theorem d_Mo_acceptedComes_75 : decode prog_12_method_20_code 75 = .ok (.iaload, 1) := by decide +kernel
theorem d_Mo_acceptedComes_76 : decode prog_12_method_20_code 76 = .ok (.iconst 1, 1) := by decide +kernel
theorem d_Mo_acceptedComes_77 : decode prog_12_method_20_code 77 = .ok (.iload_n 1, 1) := by decide +kernel
theorem d_Mo_acceptedComes_78 : decode prog_12_method_20_code 78 = .ok (.ishl, 1) := by decide +kernel
theorem d_Mo_acceptedComes_79 : decode prog_12_method_20_code 79 = .ok (.ior, 1) := by decide +kernel
theorem d_Mo_acceptedComes_80 : decode prog_12_method_20_code 80 = .ok (.iastore, 1) := by decide +kernel
theorem d_Mo_acceptedComes_81 : decode prog_12_method_20_code 81 = .ok (.aload_n 0, 1) := by decide +kernel
theorem d_Mo_acceptedComes_82 : decode prog_12_method_20_code 82 = .ok (.getfield 63, 3) := by decide +kernel
theorem d_Mo_acceptedComes_85 : decode prog_12_method_20_code 85 = .ok (.iload_n 3, 1) := by decide +kernel
theorem d_Mo_acceptedComes_86 : decode prog_12_method_20_code 86 = .ok (.iaload, 1) := by decide +kernel
theorem d_Mo_acceptedComes_87 : decode prog_12_method_20_code 87 = .ok (.invokestatic 133, 3) := by decide +kernel
theorem d_Mo_acceptedComes_90 : decode prog_12_method_20_code 90 = .ok (.iconst 5, 1) := by decide +kernel
theorem d_Mo_acceptedComes_91 : decode prog_12_method_20_code 91 = .ok (.if_icmp .ge 4, 3) := by decide +kernel
theorem d_Mo_acceptedComes_94 : decode prog_12_method_20_code 94 = .ok (.return_, 1) := by decide +kernel
theorem d_Mo_acceptedComes_95 : decode prog_12_method_20_code 95 = .ok (.aload_n 0, 1) := by decide +kernel
theorem d_Mo_acceptedComes_96 : decode prog_12_method_20_code 96 = .ok (.getfield 54, 3) := by decide +kernel
theorem d_Mo_acceptedComes_99 : decode prog_12_method_20_code 99 = .ok (.iload_n 3, 1) := by decide +kernel
theorem d_Mo_acceptedComes_100 : decode prog_12_method_20_code 100 = .ok (.aload_n 0, 1) := by decide +kernel
theorem d_Mo_acceptedComes_101 : decode prog_12_method_20_code 101 = .ok (.getfield 57, 3) := by decide +kernel
theorem d_Mo_acceptedComes_104 : decode prog_12_method_20_code 104 = .ok (.iload_n 3, 1) := by decide +kernel
theorem d_Mo_acceptedComes_105 : decode prog_12_method_20_code 105 = .ok (.iaload, 1) := by decide +kernel
theorem d_Mo_acceptedComes_106 : decode prog_12_method_20_code 106 = .ok (.iastore, 1) := by decide +kernel
theorem d_Mo_acceptedComes_107 : decode prog_12_method_20_code 107 = .ok (.aload_n 0, 1) := by decide +kernel
theorem d_Mo_acceptedComes_108 : decode prog_12_method_20_code 108 = .ok (.getfield 57, 3) := by decide +kernel
theorem d_Mo_acceptedComes_111 : decode prog_12_method_20_code 111 = .ok (.iload_n 3, 1) := by decide +kernel
theorem d_Mo_acceptedComes_112 : decode prog_12_method_20_code 112 = .ok (.iconst 0, 1) := by decide +kernel
theorem d_Mo_acceptedComes_113 : decode prog_12_method_20_code 113 = .ok (.iastore, 1) := by decide +kernel
theorem d_Mo_acceptedComes_114 : decode prog_12_method_20_code 114 = .ok (.return_, 1) := by decide +kernel
theorem d_Mo_drop_0 : decode prog_12_method_34_code 0 = .ok (.aload_n 0, 1) := by decide +kernel
theorem d_Mo_drop_1 : decode prog_12_method_34_code 1 = .ok (.aload_n 0, 1) := by decide +kernel
theorem d_Mo_drop_2 : decode prog_12_method_34_code 2 = .ok (.iload_n 1, 1) := by decide +kernel
theorem d_Mo_drop_3 : decode prog_12_method_34_code 3 = .ok (.invokevirtual 168, 3) := by decide +kernel
theorem d_Mo_drop_6 : decode prog_12_method_34_code 6 = .ok (.ifCond .eq 7, 3) := by decide +kernel
theorem d_Mo_drop_9 : decode prog_12_method_34_code 9 = .ok (.iconst 1, 1) := by decide +kernel
theorem d_Mo_drop_10 : decode prog_12_method_34_code 10 = .ok (.goto 4, 3) := by decide +kernel
theorem d_Mo_drop_13 : decode prog_12_method_34_code 13 = .ok (.iconst 0, 1) := by decide +kernel
theorem d_Mo_drop_14 : decode prog_12_method_34_code 14 = .ok (.putfield 7, 3) := by decide +kernel
theorem d_Mo_drop_17 : decode prog_12_method_34_code 17 = .ok (.aload_n 0, 1) := by decide +kernel
theorem d_Mo_drop_18 : decode prog_12_method_34_code 18 = .ok (.getfield 7, 3) := by decide +kernel
theorem d_Mo_drop_21 : decode prog_12_method_34_code 21 = .ok (.ifCond .ne 8, 3) := by decide +kernel
theorem d_Mo_drop_24 : decode prog_12_method_34_code 24 = .ok (.aload_n 0, 1) := by decide +kernel
theorem d_Mo_drop_25 : decode prog_12_method_34_code 25 = .ok (.iload_n 1, 1) := by decide +kernel
theorem d_Mo_drop_26 : decode prog_12_method_34_code 26 = .ok (.invokevirtual 171, 3) := by decide +kernel
theorem d_Mo_drop_29 : decode prog_12_method_34_code 29 = .ok (.return_, 1) := by decide +kernel
theorem d_Mo_twin_0 : decode prog_12_method_35_code 0 = .ok (.aload_n 0, 1) := by decide +kernel
theorem d_Mo_twin_1 : decode prog_12_method_35_code 1 = .ok (.aload_n 0, 1) := by decide +kernel
theorem d_Mo_twin_2 : decode prog_12_method_35_code 2 = .ok (.iload_n 1, 1) := by decide +kernel
theorem d_Mo_twin_3 : decode prog_12_method_35_code 3 = .ok (.invokevirtual 168, 3) := by decide +kernel
theorem d_Mo_twin_6 : decode prog_12_method_35_code 6 = .ok (.ifCond .eq 7, 3) := by decide +kernel
theorem d_Mo_twin_9 : decode prog_12_method_35_code 9 = .ok (.iconst 1, 1) := by decide +kernel
theorem d_Mo_twin_10 : decode prog_12_method_35_code 10 = .ok (.goto 17, 3) := by decide +kernel
theorem d_Mo_twin_13 : decode prog_12_method_35_code 13 = .ok (.aload_n 0, 1) := by decide +kernel
theorem d_Mo_twin_14 : decode prog_12_method_35_code 14 = .ok (.getfield 27, 3) := by decide +kernel
theorem d_Mo_twin_17 : decode prog_12_method_35_code 17 = .ok (.bipush 60, 2) := by decide +kernel
theorem d_Mo_twin_19 : decode prog_12_method_35_code 19 = .ok (.if_icmp .ne 7, 3) := by decide +kernel
theorem d_Mo_twin_22 : decode prog_12_method_35_code 22 = .ok (.iconst 2, 1) := by decide +kernel
theorem d_Mo_twin_23 : decode prog_12_method_35_code 23 = .ok (.goto 4, 3) := by decide +kernel
theorem d_Mo_twin_26 : decode prog_12_method_35_code 26 = .ok (.iconst 0, 1) := by decide +kernel
theorem d_Mo_twin_27 : decode prog_12_method_35_code 27 = .ok (.putfield 7, 3) := by decide +kernel
theorem d_Mo_twin_30 : decode prog_12_method_35_code 30 = .ok (.aload_n 0, 1) := by decide +kernel
theorem d_Mo_twin_31 : decode prog_12_method_35_code 31 = .ok (.getfield 7, 3) := by decide +kernel
theorem d_Mo_twin_34 : decode prog_12_method_35_code 34 = .ok (.ifCond .eq 4, 3) := by decide +kernel
theorem d_Mo_twin_37 : decode prog_12_method_35_code 37 = .ok (.return_, 1) := by decide +kernel
theorem d_Mo_twin_38 : decode prog_12_method_35_code 38 = .ok (.iconst 0, 1) := by decide +kernel
theorem d_Mo_twin_39 : decode prog_12_method_35_code 39 = .ok (.istore_n 2, 1) := by decide +kernel
theorem d_Mo_twin_40 : decode prog_12_method_35_code 40 = .ok (.iload_n 2, 1) := by decide +kernel
theorem d_Mo_twin_41 : decode prog_12_method_35_code 41 = .ok (.bipush 7, 2) := by decide +kernel
theorem d_Mo_twin_43 : decode prog_12_method_35_code 43 = .ok (.if_icmp .ge 34, 3) := by decide +kernel
theorem d_Mo_twin_46 : decode prog_12_method_35_code 46 = .ok (.aload_n 0, 1) := by decide +kernel
theorem d_Mo_twin_47 : decode prog_12_method_35_code 47 = .ok (.getfield 30, 3) := by decide +kernel
theorem d_Mo_twin_50 : decode prog_12_method_35_code 50 = .ok (.bipush 7, 2) := by decide +kernel
theorem d_Mo_twin_52 : decode prog_12_method_35_code 52 = .ok (.aload_n 0, 1) := by decide +kernel
theorem d_Mo_twin_53 : decode prog_12_method_35_code 53 = .ok (.getfield 27, 3) := by decide +kernel
theorem d_Mo_twin_56 : decode prog_12_method_35_code 56 = .ok (.imul, 1) := by decide +kernel
theorem d_Mo_twin_57 : decode prog_12_method_35_code 57 = .ok (.iload_n 2, 1) := by decide +kernel
theorem d_Mo_twin_58 : decode prog_12_method_35_code 58 = .ok (.iadd, 1) := by decide +kernel
theorem d_Mo_twin_59 : decode prog_12_method_35_code 59 = .ok (.aload_n 0, 1) := by decide +kernel
theorem d_Mo_twin_60 : decode prog_12_method_35_code 60 = .ok (.getfield 30, 3) := by decide +kernel
theorem d_Mo_twin_63 : decode prog_12_method_35_code 63 = .ok (.bipush 7, 2) := by decide +kernel
theorem d_Mo_twin_65 : decode prog_12_method_35_code 65 = .ok (.iload_n 1, 1) := by decide +kernel
theorem d_Mo_twin_66 : decode prog_12_method_35_code 66 = .ok (.imul, 1) := by decide +kernel
theorem d_Mo_twin_67 : decode prog_12_method_35_code 67 = .ok (.iload_n 2, 1) := by decide +kernel
theorem d_Mo_twin_68 : decode prog_12_method_35_code 68 = .ok (.iadd, 1) := by decide +kernel
theorem d_Mo_twin_69 : decode prog_12_method_35_code 69 = .ok (.iaload, 1) := by decide +kernel
theorem d_Mo_twin_70 : decode prog_12_method_35_code 70 = .ok (.iastore, 1) := by decide +kernel
theorem d_Mo_twin_71 : decode prog_12_method_35_code 71 = .ok (.iinc 2 1, 3) := by decide +kernel
theorem d_Mo_twin_74 : decode prog_12_method_35_code 74 = .ok (.goto (-34), 3) := by decide +kernel
theorem d_Mo_twin_77 : decode prog_12_method_35_code 77 = .ok (.iconst 0, 1) := by decide +kernel
theorem d_Mo_twin_78 : decode prog_12_method_35_code 78 = .ok (.istore_n 2, 1) := by decide +kernel
theorem d_Mo_twin_79 : decode prog_12_method_35_code 79 = .ok (.iload_n 2, 1) := by decide +kernel
theorem d_Mo_twin_80 : decode prog_12_method_35_code 80 = .ok (.bipush 88, 2) := by decide +kernel
theorem d_Mo_twin_82 : decode prog_12_method_35_code 82 = .ok (.if_icmp .ge 34, 3) := by decide +kernel
theorem d_Mo_twin_85 : decode prog_12_method_35_code 85 = .ok (.aload_n 0, 1) := by decide +kernel
theorem d_Mo_twin_86 : decode prog_12_method_35_code 86 = .ok (.getfield 33, 3) := by decide +kernel
theorem d_Mo_twin_89 : decode prog_12_method_35_code 89 = .ok (.bipush 88, 2) := by decide +kernel
theorem d_Mo_twin_91 : decode prog_12_method_35_code 91 = .ok (.aload_n 0, 1) := by decide +kernel
theorem d_Mo_twin_92 : decode prog_12_method_35_code 92 = .ok (.getfield 27, 3) := by decide +kernel
theorem d_Mo_twin_95 : decode prog_12_method_35_code 95 = .ok (.imul, 1) := by decide +kernel
theorem d_Mo_twin_96 : decode prog_12_method_35_code 96 = .ok (.iload_n 2, 1) := by decide +kernel
theorem d_Mo_twin_97 : decode prog_12_method_35_code 97 = .ok (.iadd, 1) := by decide +kernel
theorem d_Mo_twin_98 : decode prog_12_method_35_code 98 = .ok (.aload_n 0, 1) := by decide +kernel
theorem d_Mo_twin_99 : decode prog_12_method_35_code 99 = .ok (.getfield 33, 3) := by decide +kernel
theorem d_Mo_twin_102 : decode prog_12_method_35_code 102 = .ok (.bipush 88, 2) := by decide +kernel
theorem d_Mo_twin_104 : decode prog_12_method_35_code 104 = .ok (.iload_n 1, 1) := by decide +kernel
theorem d_Mo_twin_105 : decode prog_12_method_35_code 105 = .ok (.imul, 1) := by decide +kernel
theorem d_Mo_twin_106 : decode prog_12_method_35_code 106 = .ok (.iload_n 2, 1) := by decide +kernel
theorem d_Mo_twin_107 : decode prog_12_method_35_code 107 = .ok (.iadd, 1) := by decide +kernel
theorem d_Mo_twin_108 : decode prog_12_method_35_code 108 = .ok (.iaload, 1) := by decide +kernel
theorem d_Mo_twin_109 : decode prog_12_method_35_code 109 = .ok (.iastore, 1) := by decide +kernel
theorem d_Mo_twin_110 : decode prog_12_method_35_code 110 = .ok (.iinc 2 1, 3) := by decide +kernel
theorem d_Mo_twin_113 : decode prog_12_method_35_code 113 = .ok (.goto (-34), 3) := by decide +kernel
theorem d_Mo_twin_116 : decode prog_12_method_35_code 116 = .ok (.aload_n 0, 1) := by decide +kernel
theorem d_Mo_twin_117 : decode prog_12_method_35_code 117 = .ok (.dup, 1) := by decide +kernel
theorem d_Mo_twin_118 : decode prog_12_method_35_code 118 = .ok (.getfield 27, 3) := by decide +kernel
theorem d_Mo_twin_121 : decode prog_12_method_35_code 121 = .ok (.iconst 1, 1) := by decide +kernel
theorem d_Mo_twin_122 : decode prog_12_method_35_code 122 = .ok (.iadd, 1) := by decide +kernel
theorem d_Mo_twin_123 : decode prog_12_method_35_code 123 = .ok (.putfield 27, 3) := by decide +kernel
theorem d_Mo_twin_126 : decode prog_12_method_35_code 126 = .ok (.return_, 1) := by decide +kernel
theorem d_Mo_letters_0 : decode prog_12_method_36_code 0 = .ok (.aload_n 0, 1) := by decide +kernel
theorem d_Mo_letters_1 : decode prog_12_method_36_code 1 = .ok (.iconst 0, 1) := by decide +kernel
theorem d_Mo_letters_2 : decode prog_12_method_36_code 2 = .ok (.putfield 7, 3) := by decide +kernel
theorem d_Mo_letters_5 : decode prog_12_method_36_code 5 = .ok (.aload_n 0, 1) := by decide +kernel
theorem d_Mo_letters_6 : decode prog_12_method_36_code 6 = .ok (.getfield 27, 3) := by decide +kernel
theorem d_Mo_letters_9 : decode prog_12_method_36_code 9 = .ok (.ireturn, 1) := by decide +kernel
theorem d_Mo_letter_0 : decode prog_12_method_37_code 0 = .ok (.aload_n 0, 1) := by decide +kernel
theorem d_Mo_letter_1 : decode prog_12_method_37_code 1 = .ok (.aload_n 0, 1) := by decide +kernel
theorem d_Mo_letter_2 : decode prog_12_method_37_code 2 = .ok (.iload_n 1, 1) := by decide +kernel
theorem d_Mo_letter_3 : decode prog_12_method_37_code 3 = .ok (.invokevirtual 168, 3) := by decide +kernel
theorem d_Mo_letter_6 : decode prog_12_method_37_code 6 = .ok (.ifCond .eq 7, 3) := by decide +kernel
theorem d_Mo_letter_9 : decode prog_12_method_37_code 9 = .ok (.iconst 1, 1) := by decide +kernel
theorem d_Mo_letter_10 : decode prog_12_method_37_code 10 = .ok (.goto 17, 3) := by decide +kernel
theorem d_Mo_letter_13 : decode prog_12_method_37_code 13 = .ok (.iload_n 2, 1) := by decide +kernel
theorem d_Mo_letter_14 : decode prog_12_method_37_code 14 = .ok (.ifCond .lt 8, 3) := by decide +kernel
theorem d_Mo_letter_17 : decode prog_12_method_37_code 17 = .ok (.iload_n 2, 1) := by decide +kernel
theorem d_Mo_letter_18 : decode prog_12_method_37_code 18 = .ok (.iconst 5, 1) := by decide +kernel
theorem d_Mo_letter_19 : decode prog_12_method_37_code 19 = .ok (.if_icmp .le 7, 3) := by decide +kernel
theorem d_Mo_letter_22 : decode prog_12_method_37_code 22 = .ok (.iconst 2, 1) := by decide +kernel
theorem d_Mo_letter_23 : decode prog_12_method_37_code 23 = .ok (.goto 4, 3) := by decide +kernel
theorem d_Mo_letter_26 : decode prog_12_method_37_code 26 = .ok (.iconst 0, 1) := by decide +kernel
theorem d_Mo_letter_27 : decode prog_12_method_37_code 27 = .ok (.putfield 7, 3) := by decide +kernel
theorem d_Mo_letter_30 : decode prog_12_method_37_code 30 = .ok (.aload_n 0, 1) := by decide +kernel
theorem d_Mo_letter_31 : decode prog_12_method_37_code 31 = .ok (.getfield 7, 3) := by decide +kernel
theorem d_Mo_letter_34 : decode prog_12_method_37_code 34 = .ok (.ifCond .eq 7, 3) := by decide +kernel
theorem d_Mo_letter_37 : decode prog_12_method_37_code 37 = .ok (.iconst 0, 1) := by decide +kernel
theorem d_Mo_letter_38 : decode prog_12_method_37_code 38 = .ok (.goto 14, 3) := by decide +kernel
theorem d_Mo_letter_41 : decode prog_12_method_37_code 41 = .ok (.aload_n 0, 1) := by decide +kernel
theorem d_Mo_letter_42 : decode prog_12_method_37_code 42 = .ok (.getfield 30, 3) := by decide +kernel
theorem d_Mo_letter_45 : decode prog_12_method_37_code 45 = .ok (.bipush 7, 2) := by decide +kernel
theorem d_Mo_letter_47 : decode prog_12_method_37_code 47 = .ok (.iload_n 1, 1) := by decide +kernel
theorem d_Mo_letter_48 : decode prog_12_method_37_code 48 = .ok (.imul, 1) := by decide +kernel
theorem d_Mo_letter_49 : decode prog_12_method_37_code 49 = .ok (.iload_n 2, 1) := by decide +kernel
theorem d_Mo_letter_50 : decode prog_12_method_37_code 50 = .ok (.iadd, 1) := by decide +kernel
theorem d_Mo_letter_51 : decode prog_12_method_37_code 51 = .ok (.iaload, 1) := by decide +kernel
theorem d_Mo_letter_52 : decode prog_12_method_37_code 52 = .ok (.ireturn, 1) := by decide +kernel
theorem d_Mo_up_0 : decode prog_12_method_38_code 0 = .ok (.aload_n 0, 1) := by decide +kernel
theorem d_Mo_up_1 : decode prog_12_method_38_code 1 = .ok (.iload_n 1, 1) := by decide +kernel
theorem d_Mo_up_2 : decode prog_12_method_38_code 2 = .ok (.invokestatic 179, 3) := by decide +kernel
theorem d_Mo_up_5 : decode prog_12_method_38_code 5 = .ok (.ifCond .eq 7, 3) := by decide +kernel
theorem d_Mo_up_8 : decode prog_12_method_38_code 8 = .ok (.iconst 1, 1) := by decide +kernel
theorem d_Mo_up_9 : decode prog_12_method_38_code 9 = .ok (.goto 4, 3) := by decide +kernel
theorem d_Mo_up_12 : decode prog_12_method_38_code 12 = .ok (.iconst 0, 1) := by decide +kernel
theorem d_Mo_up_13 : decode prog_12_method_38_code 13 = .ok (.putfield 7, 3) := by decide +kernel
theorem d_Mo_up_16 : decode prog_12_method_38_code 16 = .ok (.aload_n 0, 1) := by decide +kernel
theorem d_Mo_up_17 : decode prog_12_method_38_code 17 = .ok (.getfield 7, 3) := by decide +kernel
theorem d_Mo_up_20 : decode prog_12_method_38_code 20 = .ok (.ifCond .eq 5, 3) := by decide +kernel
theorem d_Mo_up_23 : decode prog_12_method_38_code 23 = .ok (.iconst 0, 1) := by decide +kernel
theorem d_Mo_up_24 : decode prog_12_method_38_code 24 = .ok (.ireturn, 1) := by decide +kernel
theorem d_Mo_up_25 : decode prog_12_method_38_code 25 = .ok (.aload_n 0, 1) := by decide +kernel
theorem d_Mo_up_26 : decode prog_12_method_38_code 26 = .ok (.getfield 17, 3) := by decide +kernel
theorem d_Mo_up_29 : decode prog_12_method_38_code 29 = .ok (.iload_n 1, 1) := by decide +kernel
theorem d_Mo_up_30 : decode prog_12_method_38_code 30 = .ok (.baload, 1) := by decide +kernel
theorem d_Mo_up_31 : decode prog_12_method_38_code 31 = .ok (.iload_n 2, 1) := by decide +kernel
theorem d_Mo_up_32 : decode prog_12_method_38_code 32 = .ok (.if_icmp .ne 7, 3) := by decide +kernel
theorem d_Mo_up_35 : decode prog_12_method_38_code 35 = .ok (.iconst 1, 1) := by decide +kernel
theorem d_Mo_up_36 : decode prog_12_method_38_code 36 = .ok (.goto 4, 3) := by decide +kernel
theorem d_Mo_up_39 : decode prog_12_method_38_code 39 = .ok (.iconst 0, 1) := by decide +kernel
theorem d_Mo_up_40 : decode prog_12_method_38_code 40 = .ok (.istore_n 3, 1) := by decide +kernel
theorem d_Mo_up_41 : decode prog_12_method_38_code 41 = .ok (.aload_n 0, 1) := by decide +kernel
theorem d_Mo_up_42 : decode prog_12_method_38_code 42 = .ok (.getfield 17, 3) := by decide +kernel
theorem d_Mo_up_45 : decode prog_12_method_38_code 45 = .ok (.iload_n 1, 1) := by decide +kernel
theorem d_Mo_up_46 : decode prog_12_method_38_code 46 = .ok (.iload_n 2, 1) := by decide +kernel
theorem d_Mo_up_47 : decode prog_12_method_38_code 47 = .ok (.ifCond .ne 7, 3) := by decide +kernel
theorem d_Mo_up_50 : decode prog_12_method_38_code 50 = .ok (.iconst 1, 1) := by decide +kernel
theorem d_Mo_up_51 : decode prog_12_method_38_code 51 = .ok (.goto 4, 3) := by decide +kernel
theorem d_Mo_up_54 : decode prog_12_method_38_code 54 = .ok (.iconst 0, 1) := by decide +kernel
theorem d_Mo_up_55 : decode prog_12_method_38_code 55 = .ok (.bastore, 1) := by decide +kernel
theorem d_Mo_up_56 : decode prog_12_method_38_code 56 = .ok (.iload_n 3, 1) := by decide +kernel
theorem d_Mo_up_57 : decode prog_12_method_38_code 57 = .ok (.ireturn, 1) := by decide +kernel
theorem d_Mo_noStation_0 : decode prog_12_method_27_code 0 = .ok (.iload_n 0, 1) := by decide +kernel
theorem d_Mo_noStation_1 : decode prog_12_method_27_code 1 = .ok (.ifCond .lt 9, 3) := by decide +kernel
theorem d_Mo_noStation_4 : decode prog_12_method_27_code 4 = .ok (.iload_n 0, 1) := by decide +kernel
theorem d_Mo_noStation_5 : decode prog_12_method_27_code 5 = .ok (.bipush 6, 2) := by decide +kernel
theorem d_Mo_noStation_7 : decode prog_12_method_27_code 7 = .ok (.if_icmp .le 7, 3) := by decide +kernel
theorem d_Mo_noStation_10 : decode prog_12_method_27_code 10 = .ok (.iconst 1, 1) := by decide +kernel
theorem d_Mo_noStation_11 : decode prog_12_method_27_code 11 = .ok (.goto 4, 3) := by decide +kernel
theorem d_Mo_noStation_14 : decode prog_12_method_27_code 14 = .ok (.iconst 0, 1) := by decide +kernel
theorem d_Mo_noStation_15 : decode prog_12_method_27_code 15 = .ok (.ireturn, 1) := by decide +kernel
theorem d_Mo_wipe_0 : decode prog_12_method_39_code 0 = .ok (.aload_n 0, 1) := by decide +kernel
theorem d_Mo_wipe_1 : decode prog_12_method_39_code 1 = .ok (.iload_n 1, 1) := by decide +kernel
theorem d_Mo_wipe_2 : decode prog_12_method_39_code 2 = .ok (.invokestatic 179, 3) := by decide +kernel
theorem d_Mo_wipe_5 : decode prog_12_method_39_code 5 = .ok (.ifCond .eq 7, 3) := by decide +kernel
theorem d_Mo_wipe_8 : decode prog_12_method_39_code 8 = .ok (.iconst 1, 1) := by decide +kernel
theorem d_Mo_wipe_9 : decode prog_12_method_39_code 9 = .ok (.goto 4, 3) := by decide +kernel
theorem d_Mo_wipe_12 : decode prog_12_method_39_code 12 = .ok (.iconst 0, 1) := by decide +kernel
theorem d_Mo_wipe_13 : decode prog_12_method_39_code 13 = .ok (.putfield 7, 3) := by decide +kernel
theorem d_Mo_wipe_16 : decode prog_12_method_39_code 16 = .ok (.aload_n 0, 1) := by decide +kernel
theorem d_Mo_wipe_17 : decode prog_12_method_39_code 17 = .ok (.getfield 7, 3) := by decide +kernel
theorem d_Mo_wipe_20 : decode prog_12_method_39_code 20 = .ok (.ifCond .eq 4, 3) := by decide +kernel
theorem d_Mo_wipe_23 : decode prog_12_method_39_code 23 = .ok (.return_, 1) := by decide +kernel
theorem d_Mo_wipe_24 : decode prog_12_method_39_code 24 = .ok (.aload_n 0, 1) := by decide +kernel
theorem d_Mo_wipe_25 : decode prog_12_method_39_code 25 = .ok (.getfield 21, 3) := by decide +kernel
theorem d_Mo_wipe_28 : decode prog_12_method_39_code 28 = .ok (.iload_n 1, 1) := by decide +kernel
theorem d_Mo_wipe_29 : decode prog_12_method_39_code 29 = .ok (.iconst 1, 1) := by decide +kernel
theorem d_Mo_wipe_30 : decode prog_12_method_39_code 30 = .ok (.bastore, 1) := by decide +kernel
theorem d_Mo_wipe_31 : decode prog_12_method_39_code 31 = .ok (.aload_n 0, 1) := by decide +kernel
theorem d_Mo_wipe_32 : decode prog_12_method_39_code 32 = .ok (.getfield 13, 3) := by decide +kernel
theorem d_Mo_wipe_35 : decode prog_12_method_39_code 35 = .ok (.iload_n 1, 1) := by decide +kernel
theorem d_Mo_wipe_36 : decode prog_12_method_39_code 36 = .ok (.iconst 0, 1) := by decide +kernel
theorem d_Mo_wipe_37 : decode prog_12_method_39_code 37 = .ok (.iastore, 1) := by decide +kernel
theorem d_Mo_wipe_38 : decode prog_12_method_39_code 38 = .ok (.iconst 0, 1) := by decide +kernel
theorem d_Mo_wipe_39 : decode prog_12_method_39_code 39 = .ok (.istore_n 2, 1) := by decide +kernel
theorem d_Mo_wipe_40 : decode prog_12_method_39_code 40 = .ok (.iload_n 2, 1) := by decide +kernel
theorem d_Mo_wipe_41 : decode prog_12_method_39_code 41 = .ok (.bipush 88, 2) := by decide +kernel
theorem d_Mo_wipe_43 : decode prog_12_method_39_code 43 = .ok (.if_icmp .ge 21, 3) := by decide +kernel
theorem d_Mo_wipe_46 : decode prog_12_method_39_code 46 = .ok (.aload_n 0, 1) := by decide +kernel
theorem d_Mo_wipe_47 : decode prog_12_method_39_code 47 = .ok (.getfield 24, 3) := by decide +kernel
theorem d_Mo_wipe_50 : decode prog_12_method_39_code 50 = .ok (.bipush 88, 2) := by decide +kernel
theorem d_Mo_wipe_52 : decode prog_12_method_39_code 52 = .ok (.iload_n 1, 1) := by decide +kernel
theorem d_Mo_wipe_53 : decode prog_12_method_39_code 53 = .ok (.imul, 1) := by decide +kernel
theorem d_Mo_wipe_54 : decode prog_12_method_39_code 54 = .ok (.iload_n 2, 1) := by decide +kernel
theorem d_Mo_wipe_55 : decode prog_12_method_39_code 55 = .ok (.iadd, 1) := by decide +kernel
theorem d_Mo_wipe_56 : decode prog_12_method_39_code 56 = .ok (.iconst 0, 1) := by decide +kernel
theorem d_Mo_wipe_57 : decode prog_12_method_39_code 57 = .ok (.iastore, 1) := by decide +kernel
theorem d_Mo_wipe_58 : decode prog_12_method_39_code 58 = .ok (.iinc 2 1, 3) := by decide +kernel
theorem d_Mo_wipe_61 : decode prog_12_method_39_code 61 = .ok (.goto (-21), 3) := by decide +kernel
theorem d_Mo_wipe_64 : decode prog_12_method_39_code 64 = .ok (.return_, 1) := by decide +kernel
theorem d_Mo_catchUp_0 : decode prog_12_method_40_code 0 = .ok (.aload_n 0, 1) := by decide +kernel
theorem d_Mo_catchUp_1 : decode prog_12_method_40_code 1 = .ok (.iload_n 1, 1) := by decide +kernel
theorem d_Mo_catchUp_2 : decode prog_12_method_40_code 2 = .ok (.invokestatic 179, 3) := by decide +kernel
theorem d_Mo_catchUp_5 : decode prog_12_method_40_code 5 = .ok (.ifCond .ne 10, 3) := by decide +kernel
theorem d_Mo_catchUp_8 : decode prog_12_method_40_code 8 = .ok (.iload_n 2, 1) := by decide +kernel
theorem d_Mo_catchUp_9 : decode prog_12_method_40_code 9 = .ok (.invokestatic 158, 3) := by decide +kernel
theorem d_Mo_catchUp_12 : decode prog_12_method_40_code 12 = .ok (.ifCond .eq 7, 3) := by decide +kernel
theorem d_Mo_catchUp_15 : decode prog_12_method_40_code 15 = .ok (.iconst 1, 1) := by decide +kernel
theorem d_Mo_catchUp_16 : decode prog_12_method_40_code 16 = .ok (.goto 4, 3) := by decide +kernel
theorem d_Mo_catchUp_19 : decode prog_12_method_40_code 19 = .ok (.iconst 0, 1) := by decide +kernel
theorem d_Mo_catchUp_20 : decode prog_12_method_40_code 20 = .ok (.putfield 7, 3) := by decide +kernel
theorem d_Mo_catchUp_23 : decode prog_12_method_40_code 23 = .ok (.aload_n 0, 1) := by decide +kernel
theorem d_Mo_catchUp_24 : decode prog_12_method_40_code 24 = .ok (.getfield 7, 3) := by decide +kernel
theorem d_Mo_catchUp_27 : decode prog_12_method_40_code 27 = .ok (.ifCond .ne 26, 3) := by decide +kernel
theorem d_Mo_catchUp_30 : decode prog_12_method_40_code 30 = .ok (.aload_n 0, 1) := by decide +kernel
theorem d_Mo_catchUp_31 : decode prog_12_method_40_code 31 = .ok (.getfield 21, 3) := by decide +kernel
theorem d_Mo_catchUp_34 : decode prog_12_method_40_code 34 = .ok (.iload_n 1, 1) := by decide +kernel
theorem d_Mo_catchUp_35 : decode prog_12_method_40_code 35 = .ok (.baload, 1) := by decide +kernel
theorem d_Mo_catchUp_36 : decode prog_12_method_40_code 36 = .ok (.ifCond .eq 12, 3) := by decide +kernel
theorem d_Mo_catchUp_39 : decode prog_12_method_40_code 39 = .ok (.aload_n 0, 1) := by decide +kernel
theorem d_Mo_catchUp_40 : decode prog_12_method_40_code 40 = .ok (.getfield 17, 3) := by decide +kernel
theorem d_Mo_catchUp_43 : decode prog_12_method_40_code 43 = .ok (.iload_n 1, 1) := by decide +kernel
theorem d_Mo_catchUp_44 : decode prog_12_method_40_code 44 = .ok (.baload, 1) := by decide +kernel
theorem d_Mo_catchUp_45 : decode prog_12_method_40_code 45 = .ok (.ifCond .eq 8, 3) := by decide +kernel
theorem d_Mo_catchUp_48 : decode prog_12_method_40_code 48 = .ok (.aload_n 0, 1) := by decide +kernel
theorem d_Mo_catchUp_49 : decode prog_12_method_40_code 49 = .ok (.iconst 2, 1) := by decide +kernel
theorem d_Mo_catchUp_50 : decode prog_12_method_40_code 50 = .ok (.putfield 7, 3) := by decide +kernel
theorem d_Mo_catchUp_53 : decode prog_12_method_40_code 53 = .ok (.aload_n 0, 1) := by decide +kernel
theorem d_Mo_catchUp_54 : decode prog_12_method_40_code 54 = .ok (.getfield 7, 3) := by decide +kernel
theorem d_Mo_catchUp_57 : decode prog_12_method_40_code 57 = .ok (.ifCond .eq 5, 3) := by decide +kernel
theorem d_Mo_catchUp_60 : decode prog_12_method_40_code 60 = .ok (.iconst 0, 1) := by decide +kernel
theorem d_Mo_catchUp_61 : decode prog_12_method_40_code 61 = .ok (.ireturn, 1) := by decide +kernel
theorem d_Mo_catchUp_62 : decode prog_12_method_40_code 62 = .ok (.iconst 0, 1) := by decide +kernel
theorem d_Mo_catchUp_63 : decode prog_12_method_40_code 63 = .ok (.istore_n 3, 1) := by decide +kernel
theorem d_Mo_catchUp_64 : decode prog_12_method_40_code 64 = .ok (.iconst 0, 1) := by decide +kernel
theorem d_Mo_catchUp_65 : decode prog_12_method_40_code 65 = .ok (.istore 4, 2) := by decide +kernel
theorem d_Mo_catchUp_67 : decode prog_12_method_40_code 67 = .ok (.iload 4, 2) := by decide +kernel
theorem d_Mo_catchUp_69 : decode prog_12_method_40_code 69 = .ok (.bipush 8, 2) := by decide +kernel
theorem d_Mo_catchUp_71 : decode prog_12_method_40_code 71 = .ok (.if_icmp .ge 150, 3) := by decide +kernel
theorem d_Mo_catchUp_74 : decode prog_12_method_40_code 74 = .ok (.aload_n 0, 1) := by decide +kernel
theorem d_Mo_catchUp_75 : decode prog_12_method_40_code 75 = .ok (.getfield 54, 3) := by decide +kernel
theorem d_Mo_catchUp_78 : decode prog_12_method_40_code 78 = .ok (.bipush 8, 2) := by decide +kernel
theorem d_Mo_catchUp_80 : decode prog_12_method_40_code 80 = .ok (.iload_n 2, 1) := by decide +kernel
theorem d_Mo_catchUp_81 : decode prog_12_method_40_code 81 = .ok (.imul, 1) := by decide +kernel
theorem d_Mo_catchUp_82 : decode prog_12_method_40_code 82 = .ok (.iload 4, 2) := by decide +kernel
theorem d_Mo_catchUp_84 : decode prog_12_method_40_code 84 = .ok (.iadd, 1) := by decide +kernel
theorem d_Mo_catchUp_85 : decode prog_12_method_40_code 85 = .ok (.iaload, 1) := by decide +kernel
theorem d_Mo_catchUp_86 : decode prog_12_method_40_code 86 = .ok (.istore 5, 2) := by decide +kernel
theorem d_Mo_catchUp_88 : decode prog_12_method_40_code 88 = .ok (.bipush 88, 2) := by decide +kernel
theorem d_Mo_catchUp_90 : decode prog_12_method_40_code 90 = .ok (.iload_n 1, 1) := by decide +kernel
theorem d_Mo_catchUp_91 : decode prog_12_method_40_code 91 = .ok (.imul, 1) := by decide +kernel
theorem d_Mo_catchUp_92 : decode prog_12_method_40_code 92 = .ok (.bipush 11, 2) := by decide +kernel
theorem d_Mo_catchUp_94 : decode prog_12_method_40_code 94 = .ok (.iload 4, 2) := by decide +kernel
theorem d_Mo_catchUp_96 : decode prog_12_method_40_code 96 = .ok (.imul, 1) := by decide +kernel
theorem d_Mo_catchUp_97 : decode prog_12_method_40_code 97 = .ok (.iadd, 1) := by decide +kernel
theorem d_Mo_catchUp_98 : decode prog_12_method_40_code 98 = .ok (.istore 6, 2) := by decide +kernel
theorem d_Mo_catchUp_100 : decode prog_12_method_40_code 100 = .ok (.iload 5, 2) := by decide +kernel
theorem d_Mo_catchUp_102 : decode prog_12_method_40_code 102 = .ok (.ifCond .eq 113, 3) := by decide +kernel
theorem d_Mo_catchUp_105 : decode prog_12_method_40_code 105 = .ok (.aload_n 0, 1) := by decide +kernel
theorem d_Mo_catchUp_106 : decode prog_12_method_40_code 106 = .ok (.getfield 24, 3) := by decide +kernel
theorem d_Mo_catchUp_109 : decode prog_12_method_40_code 109 = .ok (.iload 6, 2) := by decide +kernel
theorem d_Mo_catchUp_111 : decode prog_12_method_40_code 111 = .ok (.iconst 2, 1) := by decide +kernel
theorem d_Mo_catchUp_112 : decode prog_12_method_40_code 112 = .ok (.iadd, 1) := by decide +kernel
theorem d_Mo_catchUp_113 : decode prog_12_method_40_code 113 = .ok (.iaload, 1) := by decide +kernel
theorem d_Mo_catchUp_114 : decode prog_12_method_40_code 114 = .ok (.ifCond .ne 101, 3) := by decide +kernel
theorem d_Mo_catchUp_117 : decode prog_12_method_40_code 117 = .ok (.aload_n 0, 1) := by decide +kernel
theorem d_Mo_catchUp_118 : decode prog_12_method_40_code 118 = .ok (.iload_n 1, 1) := by decide +kernel
theorem d_Mo_catchUp_119 : decode prog_12_method_40_code 119 = .ok (.iload 4, 2) := by decide +kernel
theorem d_Mo_catchUp_121 : decode prog_12_method_40_code 121 = .ok (.iload 5, 2) := by decide +kernel
theorem d_Mo_catchUp_123 : decode prog_12_method_40_code 123 = .ok (.invokevirtual 182, 3) := by decide +kernel
theorem d_Mo_catchUp_126 : decode prog_12_method_40_code 126 = .ok (.ifCond .eq 89, 3) := by decide +kernel
theorem d_Mo_catchUp_129 : decode prog_12_method_40_code 129 = .ok (.aload_n 0, 1) := by decide +kernel
theorem d_Mo_catchUp_130 : decode prog_12_method_40_code 130 = .ok (.iload 4, 2) := by decide +kernel
theorem d_Mo_catchUp_132 : decode prog_12_method_40_code 132 = .ok (.invokevirtual 185, 3) := by decide +kernel
theorem d_Mo_catchUp_135 : decode prog_12_method_40_code 135 = .ok (.istore 7, 2) := by decide +kernel
theorem d_Mo_catchUp_137 : decode prog_12_method_40_code 137 = .ok (.aload_n 0, 1) := by decide +kernel
theorem d_Mo_catchUp_138 : decode prog_12_method_40_code 138 = .ok (.getfield 24, 3) := by decide +kernel
theorem d_Mo_catchUp_141 : decode prog_12_method_40_code 141 = .ok (.iload 6, 2) := by decide +kernel
theorem d_Mo_catchUp_143 : decode prog_12_method_40_code 143 = .ok (.iconst 0, 1) := by decide +kernel
theorem d_Mo_catchUp_144 : decode prog_12_method_40_code 144 = .ok (.iastore, 1) := by decide +kernel
theorem d_Mo_catchUp_145 : decode prog_12_method_40_code 145 = .ok (.aload_n 0, 1) := by decide +kernel
theorem d_Mo_catchUp_146 : decode prog_12_method_40_code 146 = .ok (.getfield 24, 3) := by decide +kernel
theorem d_Mo_catchUp_149 : decode prog_12_method_40_code 149 = .ok (.iload 6, 2) := by decide +kernel
theorem d_Mo_catchUp_151 : decode prog_12_method_40_code 151 = .ok (.iconst 1, 1) := by decide +kernel
theorem d_Mo_catchUp_152 : decode prog_12_method_40_code 152 = .ok (.iadd, 1) := by decide +kernel
theorem d_Mo_catchUp_153 : decode prog_12_method_40_code 153 = .ok (.iload 5, 2) := by decide +kernel
theorem d_Mo_catchUp_155 : decode prog_12_method_40_code 155 = .ok (.iastore, 1) := by decide +kernel
theorem d_Mo_catchUp_156 : decode prog_12_method_40_code 156 = .ok (.aload_n 0, 1) := by decide +kernel
theorem d_Mo_catchUp_157 : decode prog_12_method_40_code 157 = .ok (.getfield 24, 3) := by decide +kernel
theorem d_Mo_catchUp_160 : decode prog_12_method_40_code 160 = .ok (.iload 6, 2) := by decide +kernel
theorem d_Mo_catchUp_162 : decode prog_12_method_40_code 162 = .ok (.iconst 2, 1) := by decide +kernel
theorem d_Mo_catchUp_163 : decode prog_12_method_40_code 163 = .ok (.iadd, 1) := by decide +kernel
theorem d_Mo_catchUp_164 : decode prog_12_method_40_code 164 = .ok (.iload 7, 2) := by decide +kernel
theorem d_Mo_catchUp_166 : decode prog_12_method_40_code 166 = .ok (.iastore, 1) := by decide +kernel
theorem d_Mo_catchUp_167 : decode prog_12_method_40_code 167 = .ok (.iconst 0, 1) := by decide +kernel
theorem d_Mo_catchUp_168 : decode prog_12_method_40_code 168 = .ok (.istore 8, 2) := by decide +kernel
theorem d_Mo_catchUp_170 : decode prog_12_method_40_code 170 = .ok (.iload 8, 2) := by decide +kernel
theorem d_Mo_catchUp_172 : decode prog_12_method_40_code 172 = .ok (.iload 7, 2) := by decide +kernel
theorem d_Mo_catchUp_174 : decode prog_12_method_40_code 174 = .ok (.invokestatic 100, 3) := by decide +kernel
theorem d_Mo_catchUp_177 : decode prog_12_method_40_code 177 = .ok (.if_icmp .ge 35, 3) := by decide +kernel
theorem d_Mo_catchUp_180 : decode prog_12_method_40_code 180 = .ok (.aload_n 0, 1) := by decide +kernel
theorem d_Mo_catchUp_181 : decode prog_12_method_40_code 181 = .ok (.getfield 24, 3) := by decide +kernel
theorem d_Mo_catchUp_184 : decode prog_12_method_40_code 184 = .ok (.iload 6, 2) := by decide +kernel
theorem d_Mo_catchUp_186 : decode prog_12_method_40_code 186 = .ok (.iconst 3, 1) := by decide +kernel
theorem d_Mo_catchUp_187 : decode prog_12_method_40_code 187 = .ok (.iadd, 1) := by decide +kernel
theorem d_Mo_catchUp_188 : decode prog_12_method_40_code 188 = .ok (.iload 8, 2) := by decide +kernel
theorem d_Mo_catchUp_190 : decode prog_12_method_40_code 190 = .ok (.iadd, 1) := by decide +kernel
theorem d_Mo_catchUp_191 : decode prog_12_method_40_code 191 = .ok (.aload_n 0, 1) := by decide +kernel
theorem d_Mo_catchUp_192 : decode prog_12_method_40_code 192 = .ok (.aload_n 0, 1) := by decide +kernel
theorem d_Mo_catchUp_193 : decode prog_12_method_40_code 193 = .ok (.getfield 78, 3) := by decide +kernel
theorem d_Mo_catchUp_196 : decode prog_12_method_40_code 196 = .ok (.iconst 0, 1) := by decide +kernel
theorem d_Mo_catchUp_197 : decode prog_12_method_40_code 197 = .ok (.iload 7, 2) := by decide +kernel
theorem d_Mo_catchUp_199 : decode prog_12_method_40_code 199 = .ok (.iload_n 1, 1) := by decide +kernel
theorem d_Mo_catchUp_200 : decode prog_12_method_40_code 200 = .ok (.iload 8, 2) := by decide +kernel
theorem d_Mo_catchUp_202 : decode prog_12_method_40_code 202 = .ok (.invokevirtual 118, 3) := by decide +kernel
theorem d_Mo_catchUp_205 : decode prog_12_method_40_code 205 = .ok (.iastore, 1) := by decide +kernel
theorem d_Mo_catchUp_206 : decode prog_12_method_40_code 206 = .ok (.iinc 8 1, 3) := by decide +kernel
theorem d_Mo_catchUp_209 : decode prog_12_method_40_code 209 = .ok (.goto (-39), 3) := by decide +kernel
theorem d_Mo_catchUp_212 : decode prog_12_method_40_code 212 = .ok (.iinc 3 1, 3) := by decide +kernel
theorem d_Mo_catchUp_215 : decode prog_12_method_40_code 215 = .ok (.iinc 4 1, 3) := by decide +kernel
theorem d_Mo_catchUp_218 : decode prog_12_method_40_code 218 = .ok (.goto (-151), 3) := by decide +kernel
theorem d_Mo_catchUp_221 : decode prog_12_method_40_code 221 = .ok (.iload_n 3, 1) := by decide +kernel
theorem d_Mo_catchUp_222 : decode prog_12_method_40_code 222 = .ok (.ireturn, 1) := by decide +kernel
theorem d_Mo_findThree_0 : decode prog_12_method_22_code 0 = .ok (.iconst 0, 1) := by decide +kernel
theorem d_Mo_findThree_1 : decode prog_12_method_22_code 1 = .ok (.istore 4, 2) := by decide +kernel
theorem d_Mo_findThree_3 : decode prog_12_method_22_code 3 = .ok (.iconst 0, 1) := by decide +kernel
theorem d_Mo_findThree_4 : decode prog_12_method_22_code 4 = .ok (.istore 5, 2) := by decide +kernel
theorem d_Mo_findThree_6 : decode prog_12_method_22_code 6 = .ok (.iload 5, 2) := by decide +kernel
theorem d_Mo_findThree_8 : decode prog_12_method_22_code 8 = .ok (.bipush 7, 2) := by decide +kernel
theorem d_Mo_findThree_10 : decode prog_12_method_22_code 10 = .ok (.if_icmp .ge 54, 3) := by decide +kernel
theorem d_Mo_findThree_13 : decode prog_12_method_22_code 13 = .ok (.iload 4, 2) := by decide +kernel
theorem d_Mo_findThree_15 : decode prog_12_method_22_code 15 = .ok (.iconst 3, 1) := by decide +kernel
theorem d_Mo_findThree_16 : decode prog_12_method_22_code 16 = .ok (.if_icmp .ge 48, 3) := by decide +kernel
theorem d_Mo_findThree_19 : decode prog_12_method_22_code 19 = .ok (.iload 5, 2) := by decide +kernel
theorem d_Mo_findThree_21 : decode prog_12_method_22_code 21 = .ok (.iload_n 1, 1) := by decide +kernel
theorem d_Mo_findThree_22 : decode prog_12_method_22_code 22 = .ok (.if_icmp .eq 36, 3) := by decide +kernel
theorem d_Mo_findThree_25 : decode prog_12_method_22_code 25 = .ok (.aload_n 0, 1) := by decide +kernel
theorem d_Mo_findThree_26 : decode prog_12_method_22_code 26 = .ok (.getfield 17, 3) := by decide +kernel
theorem d_Mo_findThree_29 : decode prog_12_method_22_code 29 = .ok (.iload 5, 2) := by decide +kernel
theorem d_Mo_findThree_31 : decode prog_12_method_22_code 31 = .ok (.baload, 1) := by decide +kernel
theorem d_Mo_findThree_32 : decode prog_12_method_22_code 32 = .ok (.ifCond .ne 26, 3) := by decide +kernel
theorem d_Mo_findThree_35 : decode prog_12_method_22_code 35 = .ok (.aload_n 0, 1) := by decide +kernel
theorem d_Mo_findThree_36 : decode prog_12_method_22_code 36 = .ok (.iload 5, 2) := by decide +kernel
theorem d_Mo_findThree_38 : decode prog_12_method_22_code 38 = .ok (.iload_n 2, 1) := by decide +kernel
theorem d_Mo_findThree_39 : decode prog_12_method_22_code 39 = .ok (.iload_n 3, 1) := by decide +kernel
theorem d_Mo_findThree_40 : decode prog_12_method_22_code 40 = .ok (.invokevirtual 154, 3) := by decide +kernel
theorem d_Mo_findThree_43 : decode prog_12_method_22_code 43 = .ok (.ifCond .eq 15, 3) := by decide +kernel
theorem d_Mo_findThree_46 : decode prog_12_method_22_code 46 = .ok (.aload_n 0, 1) := by decide +kernel
theorem d_Mo_findThree_47 : decode prog_12_method_22_code 47 = .ok (.getfield 75, 3) := by decide +kernel
theorem d_Mo_findThree_50 : decode prog_12_method_22_code 50 = .ok (.iload 4, 2) := by decide +kernel
theorem d_Mo_findThree_52 : decode prog_12_method_22_code 52 = .ok (.iload 5, 2) := by decide +kernel
theorem d_Mo_findThree_54 : decode prog_12_method_22_code 54 = .ok (.iastore, 1) := by decide +kernel
theorem d_Mo_findThree_55 : decode prog_12_method_22_code 55 = .ok (.iinc 4 1, 3) := by decide +kernel
theorem d_Mo_findThree_58 : decode prog_12_method_22_code 58 = .ok (.iinc 5 1, 3) := by decide +kernel
theorem d_Mo_findThree_61 : decode prog_12_method_22_code 61 = .ok (.goto (-55), 3) := by decide +kernel
theorem d_Mo_findThree_64 : decode prog_12_method_22_code 64 = .ok (.iload 4, 2) := by decide +kernel
theorem d_Mo_findThree_66 : decode prog_12_method_22_code 66 = .ok (.iconst 3, 1) := by decide +kernel
theorem d_Mo_findThree_67 : decode prog_12_method_22_code 67 = .ok (.if_icmp .ne 7, 3) := by decide +kernel
theorem d_Mo_findThree_70 : decode prog_12_method_22_code 70 = .ok (.iconst 1, 1) := by decide +kernel
theorem d_Mo_findThree_71 : decode prog_12_method_22_code 71 = .ok (.goto 4, 3) := by decide +kernel
theorem d_Mo_findThree_74 : decode prog_12_method_22_code 74 = .ok (.iconst 0, 1) := by decide +kernel
theorem d_Mo_findThree_75 : decode prog_12_method_22_code 75 = .ok (.ireturn, 1) := by decide +kernel
theorem d_Mo_hasOf_0 : decode prog_12_method_21_code 0 = .ok (.bipush 88, 2) := by decide +kernel
theorem d_Mo_hasOf_2 : decode prog_12_method_21_code 2 = .ok (.iload_n 1, 1) := by decide +kernel
theorem d_Mo_hasOf_3 : decode prog_12_method_21_code 3 = .ok (.imul, 1) := by decide +kernel
theorem d_Mo_hasOf_4 : decode prog_12_method_21_code 4 = .ok (.bipush 11, 2) := by decide +kernel
theorem d_Mo_hasOf_6 : decode prog_12_method_21_code 6 = .ok (.iload_n 2, 1) := by decide +kernel
theorem d_Mo_hasOf_7 : decode prog_12_method_21_code 7 = .ok (.imul, 1) := by decide +kernel
theorem d_Mo_hasOf_8 : decode prog_12_method_21_code 8 = .ok (.iadd, 1) := by decide +kernel
theorem d_Mo_hasOf_9 : decode prog_12_method_21_code 9 = .ok (.istore 4, 2) := by decide +kernel
theorem d_Mo_hasOf_11 : decode prog_12_method_21_code 11 = .ok (.aload_n 0, 1) := by decide +kernel
theorem d_Mo_hasOf_12 : decode prog_12_method_21_code 12 = .ok (.getfield 24, 3) := by decide +kernel
theorem d_Mo_hasOf_15 : decode prog_12_method_21_code 15 = .ok (.iload 4, 2) := by decide +kernel
theorem d_Mo_hasOf_17 : decode prog_12_method_21_code 17 = .ok (.iconst 2, 1) := by decide +kernel
theorem d_Mo_hasOf_18 : decode prog_12_method_21_code 18 = .ok (.iadd, 1) := by decide +kernel
theorem d_Mo_hasOf_19 : decode prog_12_method_21_code 19 = .ok (.iaload, 1) := by decide +kernel
theorem d_Mo_hasOf_20 : decode prog_12_method_21_code 20 = .ok (.ifCond .le 20, 3) := by decide +kernel
theorem d_Mo_hasOf_23 : decode prog_12_method_21_code 23 = .ok (.aload_n 0, 1) := by decide +kernel
theorem d_Mo_hasOf_24 : decode prog_12_method_21_code 24 = .ok (.getfield 24, 3) := by decide +kernel
theorem d_Mo_hasOf_27 : decode prog_12_method_21_code 27 = .ok (.iload 4, 2) := by decide +kernel
theorem d_Mo_hasOf_29 : decode prog_12_method_21_code 29 = .ok (.iconst 1, 1) := by decide +kernel
theorem d_Mo_hasOf_30 : decode prog_12_method_21_code 30 = .ok (.iadd, 1) := by decide +kernel
theorem d_Mo_hasOf_31 : decode prog_12_method_21_code 31 = .ok (.iaload, 1) := by decide +kernel
theorem d_Mo_hasOf_32 : decode prog_12_method_21_code 32 = .ok (.iload_n 3, 1) := by decide +kernel
theorem d_Mo_hasOf_33 : decode prog_12_method_21_code 33 = .ok (.if_icmp .ne 7, 3) := by decide +kernel
theorem d_Mo_hasOf_36 : decode prog_12_method_21_code 36 = .ok (.iconst 1, 1) := by decide +kernel
theorem d_Mo_hasOf_37 : decode prog_12_method_21_code 37 = .ok (.goto 4, 3) := by decide +kernel
theorem d_Mo_hasOf_40 : decode prog_12_method_21_code 40 = .ok (.iconst 0, 1) := by decide +kernel
theorem d_Mo_hasOf_41 : decode prog_12_method_21_code 41 = .ok (.ireturn, 1) := by decide +kernel
theorem d_Mo_fromThree_0 : decode prog_12_method_23_code 0 = .ok (.aload_n 0, 1) := by decide +kernel
theorem d_Mo_fromThree_1 : decode prog_12_method_23_code 1 = .ok (.aload_n 0, 1) := by decide +kernel
theorem d_Mo_fromThree_2 : decode prog_12_method_23_code 2 = .ok (.getfield 24, 3) := by decide +kernel
theorem d_Mo_fromThree_5 : decode prog_12_method_23_code 5 = .ok (.bipush 88, 2) := by decide +kernel
theorem d_Mo_fromThree_7 : decode prog_12_method_23_code 7 = .ok (.aload_n 0, 1) := by decide +kernel
theorem d_Mo_fromThree_8 : decode prog_12_method_23_code 8 = .ok (.getfield 75, 3) := by decide +kernel
theorem d_Mo_fromThree_11 : decode prog_12_method_23_code 11 = .ok (.iconst 0, 1) := by decide +kernel
theorem d_Mo_fromThree_12 : decode prog_12_method_23_code 12 = .ok (.iaload, 1) := by decide +kernel
theorem d_Mo_fromThree_13 : decode prog_12_method_23_code 13 = .ok (.imul, 1) := by decide +kernel
theorem d_Mo_fromThree_14 : decode prog_12_method_23_code 14 = .ok (.bipush 11, 2) := by decide +kernel
theorem d_Mo_fromThree_16 : decode prog_12_method_23_code 16 = .ok (.iload_n 1, 1) := by decide +kernel
theorem d_Mo_fromThree_17 : decode prog_12_method_23_code 17 = .ok (.imul, 1) := by decide +kernel
theorem d_Mo_fromThree_18 : decode prog_12_method_23_code 18 = .ok (.iadd, 1) := by decide +kernel
theorem d_Mo_fromThree_19 : decode prog_12_method_23_code 19 = .ok (.bipush 88, 2) := by decide +kernel
theorem d_Mo_fromThree_21 : decode prog_12_method_23_code 21 = .ok (.aload_n 0, 1) := by decide +kernel
theorem d_Mo_fromThree_22 : decode prog_12_method_23_code 22 = .ok (.getfield 75, 3) := by decide +kernel
theorem d_Mo_fromThree_25 : decode prog_12_method_23_code 25 = .ok (.iconst 1, 1) := by decide +kernel
theorem d_Mo_fromThree_26 : decode prog_12_method_23_code 26 = .ok (.iaload, 1) := by decide +kernel
theorem d_Mo_fromThree_27 : decode prog_12_method_23_code 27 = .ok (.imul, 1) := by decide +kernel
theorem d_Mo_fromThree_28 : decode prog_12_method_23_code 28 = .ok (.bipush 11, 2) := by decide +kernel
theorem d_Mo_fromThree_30 : decode prog_12_method_23_code 30 = .ok (.iload_n 1, 1) := by decide +kernel
theorem d_Mo_fromThree_31 : decode prog_12_method_23_code 31 = .ok (.imul, 1) := by decide +kernel
theorem d_Mo_fromThree_32 : decode prog_12_method_23_code 32 = .ok (.iadd, 1) := by decide +kernel
theorem d_Mo_fromThree_33 : decode prog_12_method_23_code 33 = .ok (.bipush 88, 2) := by decide +kernel
theorem d_Mo_fromThree_35 : decode prog_12_method_23_code 35 = .ok (.aload_n 0, 1) := by decide +kernel
theorem d_Mo_fromThree_36 : decode prog_12_method_23_code 36 = .ok (.getfield 75, 3) := by decide +kernel
theorem d_Mo_fromThree_39 : decode prog_12_method_23_code 39 = .ok (.iconst 2, 1) := by decide +kernel
theorem d_Mo_fromThree_40 : decode prog_12_method_23_code 40 = .ok (.iaload, 1) := by decide +kernel
theorem d_Mo_fromThree_41 : decode prog_12_method_23_code 41 = .ok (.imul, 1) := by decide +kernel
theorem d_Mo_fromThree_42 : decode prog_12_method_23_code 42 = .ok (.bipush 11, 2) := by decide +kernel
theorem d_Mo_fromThree_44 : decode prog_12_method_23_code 44 = .ok (.iload_n 1, 1) := by decide +kernel
theorem d_Mo_fromThree_45 : decode prog_12_method_23_code 45 = .ok (.imul, 1) := by decide +kernel
theorem d_Mo_fromThree_46 : decode prog_12_method_23_code 46 = .ok (.iadd, 1) := by decide +kernel
theorem d_Mo_fromThree_47 : decode prog_12_method_23_code 47 = .ok (.invokevirtual 146, 3) := by decide +kernel
theorem d_Mo_fromThree_50 : decode prog_12_method_23_code 50 = .ok (.ireturn, 1) := by decide +kernel
theorem d_Mo_decided_0 : decode prog_12_method_41_code 0 = .ok (.aload_n 0, 1) := by decide +kernel
theorem d_Mo_decided_1 : decode prog_12_method_41_code 1 = .ok (.iload_n 1, 1) := by decide +kernel
theorem d_Mo_decided_2 : decode prog_12_method_41_code 2 = .ok (.invokestatic 158, 3) := by decide +kernel
theorem d_Mo_decided_5 : decode prog_12_method_41_code 5 = .ok (.ifCond .ne 13, 3) := by decide +kernel
theorem d_Mo_decided_8 : decode prog_12_method_41_code 8 = .ok (.iload_n 2, 1) := by decide +kernel
theorem d_Mo_decided_9 : decode prog_12_method_41_code 9 = .ok (.ifCond .lt 9, 3) := by decide +kernel
theorem d_Mo_decided_12 : decode prog_12_method_41_code 12 = .ok (.iload_n 2, 1) := by decide +kernel
theorem d_Mo_decided_13 : decode prog_12_method_41_code 13 = .ok (.bipush 7, 2) := by decide +kernel
theorem d_Mo_decided_15 : decode prog_12_method_41_code 15 = .ok (.if_icmp .le 7, 3) := by decide +kernel
theorem d_Mo_decided_18 : decode prog_12_method_41_code 18 = .ok (.iconst 1, 1) := by decide +kernel
theorem d_Mo_decided_19 : decode prog_12_method_41_code 19 = .ok (.goto 4, 3) := by decide +kernel
theorem d_Mo_decided_22 : decode prog_12_method_41_code 22 = .ok (.iconst 0, 1) := by decide +kernel
theorem d_Mo_decided_23 : decode prog_12_method_41_code 23 = .ok (.putfield 7, 3) := by decide +kernel
theorem d_Mo_decided_26 : decode prog_12_method_41_code 26 = .ok (.aload_n 0, 1) := by decide +kernel
theorem d_Mo_decided_27 : decode prog_12_method_41_code 27 = .ok (.getfield 7, 3) := by decide +kernel
theorem d_Mo_decided_30 : decode prog_12_method_41_code 30 = .ok (.ifCond .eq 7, 3) := by decide +kernel
theorem d_Mo_decided_33 : decode prog_12_method_41_code 33 = .ok (.iconst 0, 1) := by decide +kernel
theorem d_Mo_decided_34 : decode prog_12_method_41_code 34 = .ok (.goto 14, 3) := by decide +kernel
theorem d_Mo_decided_37 : decode prog_12_method_41_code 37 = .ok (.aload_n 0, 1) := by decide +kernel
theorem d_Mo_decided_38 : decode prog_12_method_41_code 38 = .ok (.getfield 54, 3) := by decide +kernel
theorem d_Mo_decided_41 : decode prog_12_method_41_code 41 = .ok (.bipush 8, 2) := by decide +kernel
theorem d_Mo_decided_43 : decode prog_12_method_41_code 43 = .ok (.iload_n 1, 1) := by decide +kernel
theorem d_Mo_decided_44 : decode prog_12_method_41_code 44 = .ok (.imul, 1) := by decide +kernel
theorem d_Mo_decided_45 : decode prog_12_method_41_code 45 = .ok (.iload_n 2, 1) := by decide +kernel
theorem d_Mo_decided_46 : decode prog_12_method_41_code 46 = .ok (.iadd, 1) := by decide +kernel
theorem d_Mo_decided_47 : decode prog_12_method_41_code 47 = .ok (.iaload, 1) := by decide +kernel
theorem d_Mo_decided_48 : decode prog_12_method_41_code 48 = .ok (.ireturn, 1) := by decide +kernel
theorem d_Mo_read_0 : decode prog_12_method_42_code 0 = .ok (.aload_n 0, 1) := by decide +kernel
theorem d_Mo_read_1 : decode prog_12_method_42_code 1 = .ok (.iload_n 1, 1) := by decide +kernel
theorem d_Mo_read_2 : decode prog_12_method_42_code 2 = .ok (.invokestatic 158, 3) := by decide +kernel
theorem d_Mo_read_5 : decode prog_12_method_42_code 5 = .ok (.ifCond .ne 13, 3) := by decide +kernel
theorem d_Mo_read_8 : decode prog_12_method_42_code 8 = .ok (.iload_n 2, 1) := by decide +kernel
theorem d_Mo_read_9 : decode prog_12_method_42_code 9 = .ok (.ifCond .lt 9, 3) := by decide +kernel
theorem d_Mo_read_12 : decode prog_12_method_42_code 12 = .ok (.iload_n 2, 1) := by decide +kernel
theorem d_Mo_read_13 : decode prog_12_method_42_code 13 = .ok (.bipush 7, 2) := by decide +kernel
theorem d_Mo_read_15 : decode prog_12_method_42_code 15 = .ok (.if_icmp .le 7, 3) := by decide +kernel
theorem d_Mo_read_18 : decode prog_12_method_42_code 18 = .ok (.iconst 1, 1) := by decide +kernel
theorem d_Mo_read_19 : decode prog_12_method_42_code 19 = .ok (.goto 4, 3) := by decide +kernel
theorem d_Mo_read_22 : decode prog_12_method_42_code 22 = .ok (.iconst 0, 1) := by decide +kernel
theorem d_Mo_read_23 : decode prog_12_method_42_code 23 = .ok (.putfield 7, 3) := by decide +kernel
theorem d_Mo_read_26 : decode prog_12_method_42_code 26 = .ok (.aload_n 0, 1) := by decide +kernel
theorem d_Mo_read_27 : decode prog_12_method_42_code 27 = .ok (.getfield 7, 3) := by decide +kernel
theorem d_Mo_read_30 : decode prog_12_method_42_code 30 = .ok (.ifCond .eq 5, 3) := by decide +kernel
theorem d_Mo_read_33 : decode prog_12_method_42_code 33 = .ok (.iconst 0, 1) := by decide +kernel
theorem d_Mo_read_34 : decode prog_12_method_42_code 34 = .ok (.ireturn, 1) := by decide +kernel
theorem d_Mo_read_35 : decode prog_12_method_42_code 35 = .ok (.aload_n 0, 1) := by decide +kernel
theorem d_Mo_read_36 : decode prog_12_method_42_code 36 = .ok (.getfield 54, 3) := by decide +kernel
theorem d_Mo_read_39 : decode prog_12_method_42_code 39 = .ok (.bipush 8, 2) := by decide +kernel
theorem d_Mo_read_41 : decode prog_12_method_42_code 41 = .ok (.iload_n 1, 1) := by decide +kernel
theorem d_Mo_read_42 : decode prog_12_method_42_code 42 = .ok (.imul, 1) := by decide +kernel
theorem d_Mo_read_43 : decode prog_12_method_42_code 43 = .ok (.iload_n 2, 1) := by decide +kernel
theorem d_Mo_read_44 : decode prog_12_method_42_code 44 = .ok (.iadd, 1) := by decide +kernel
theorem d_Mo_read_45 : decode prog_12_method_42_code 45 = .ok (.iaload, 1) := by decide +kernel
theorem d_Mo_read_46 : decode prog_12_method_42_code 46 = .ok (.istore_n 3, 1) := by decide +kernel
theorem d_Mo_read_47 : decode prog_12_method_42_code 47 = .ok (.aload_n 0, 1) := by decide +kernel
theorem d_Mo_read_48 : decode prog_12_method_42_code 48 = .ok (.iload_n 3, 1) := by decide +kernel
theorem d_Mo_read_49 : decode prog_12_method_42_code 49 = .ok (.ifCond .ne 7, 3) := by decide +kernel
theorem d_Mo_read_52 : decode prog_12_method_42_code 52 = .ok (.iconst 2, 1) := by decide +kernel
theorem d_Mo_read_53 : decode prog_12_method_42_code 53 = .ok (.goto 18, 3) := by decide +kernel
theorem d_Mo_read_56 : decode prog_12_method_42_code 56 = .ok (.aload_n 0, 1) := by decide +kernel
theorem d_Mo_read_57 : decode prog_12_method_42_code 57 = .ok (.iconst (-1), 1) := by decide +kernel
theorem d_Mo_read_58 : decode prog_12_method_42_code 58 = .ok (.iload_n 2, 1) := by decide +kernel
theorem d_Mo_read_59 : decode prog_12_method_42_code 59 = .ok (.iload_n 3, 1) := by decide +kernel
theorem d_Mo_read_60 : decode prog_12_method_42_code 60 = .ok (.invokevirtual 182, 3) := by decide +kernel
theorem d_Mo_read_63 : decode prog_12_method_42_code 63 = .ok (.ifCond .ne 7, 3) := by decide +kernel
theorem d_Mo_read_66 : decode prog_12_method_42_code 66 = .ok (.iconst 3, 1) := by decide +kernel
theorem d_Mo_read_67 : decode prog_12_method_42_code 67 = .ok (.goto 4, 3) := by decide +kernel
theorem d_Mo_read_70 : decode prog_12_method_42_code 70 = .ok (.iconst 0, 1) := by decide +kernel
theorem d_Mo_read_71 : decode prog_12_method_42_code 71 = .ok (.putfield 7, 3) := by decide +kernel
theorem d_Mo_read_74 : decode prog_12_method_42_code 74 = .ok (.aload_n 0, 1) := by decide +kernel
theorem d_Mo_read_75 : decode prog_12_method_42_code 75 = .ok (.getfield 7, 3) := by decide +kernel
theorem d_Mo_read_78 : decode prog_12_method_42_code 78 = .ok (.ifCond .eq 5, 3) := by decide +kernel
theorem d_Mo_read_81 : decode prog_12_method_42_code 81 = .ok (.iconst 0, 1) := by decide +kernel
theorem d_Mo_read_82 : decode prog_12_method_42_code 82 = .ok (.ireturn, 1) := by decide +kernel
theorem d_Mo_read_83 : decode prog_12_method_42_code 83 = .ok (.aload_n 0, 1) := by decide +kernel
theorem d_Mo_read_84 : decode prog_12_method_42_code 84 = .ok (.aload_n 0, 1) := by decide +kernel
theorem d_Mo_read_85 : decode prog_12_method_42_code 85 = .ok (.iload_n 2, 1) := by decide +kernel
theorem d_Mo_read_86 : decode prog_12_method_42_code 86 = .ok (.invokevirtual 185, 3) := by decide +kernel
theorem d_Mo_read_89 : decode prog_12_method_42_code 89 = .ok (.putfield 87, 3) := by decide +kernel
theorem d_Mo_read_92 : decode prog_12_method_42_code 92 = .ok (.iconst 0, 1) := by decide +kernel
theorem d_Mo_read_93 : decode prog_12_method_42_code 93 = .ok (.istore 4, 2) := by decide +kernel
theorem d_Mo_read_95 : decode prog_12_method_42_code 95 = .ok (.iload 4, 2) := by decide +kernel
theorem d_Mo_read_97 : decode prog_12_method_42_code 97 = .ok (.aload_n 0, 1) := by decide +kernel
theorem d_Mo_read_98 : decode prog_12_method_42_code 98 = .ok (.getfield 87, 3) := by decide +kernel
theorem d_Mo_read_101 : decode prog_12_method_42_code 101 = .ok (.if_icmp .ge 23, 3) := by decide +kernel
theorem d_Mo_read_104 : decode prog_12_method_42_code 104 = .ok (.aload_n 0, 1) := by decide +kernel
theorem d_Mo_read_105 : decode prog_12_method_42_code 105 = .ok (.getfield 84, 3) := by decide +kernel
theorem d_Mo_read_108 : decode prog_12_method_42_code 108 = .ok (.iload 4, 2) := by decide +kernel
theorem d_Mo_read_110 : decode prog_12_method_42_code 110 = .ok (.aload_n 0, 1) := by decide +kernel
theorem d_Mo_read_111 : decode prog_12_method_42_code 111 = .ok (.getfield 78, 3) := by decide +kernel
theorem d_Mo_read_114 : decode prog_12_method_42_code 114 = .ok (.iload 4, 2) := by decide +kernel
theorem d_Mo_read_116 : decode prog_12_method_42_code 116 = .ok (.iaload, 1) := by decide +kernel
theorem d_Mo_read_117 : decode prog_12_method_42_code 117 = .ok (.iastore, 1) := by decide +kernel
theorem d_Mo_read_118 : decode prog_12_method_42_code 118 = .ok (.iinc 4 1, 3) := by decide +kernel
theorem d_Mo_read_121 : decode prog_12_method_42_code 121 = .ok (.goto (-26), 3) := by decide +kernel
theorem d_Mo_read_124 : decode prog_12_method_42_code 124 = .ok (.aload_n 0, 1) := by decide +kernel
theorem d_Mo_read_125 : decode prog_12_method_42_code 125 = .ok (.getfield 87, 3) := by decide +kernel
theorem d_Mo_read_128 : decode prog_12_method_42_code 128 = .ok (.ireturn, 1) := by decide +kernel
theorem d_Mo_readByte_0 : decode prog_12_method_43_code 0 = .ok (.aload_n 0, 1) := by decide +kernel
theorem d_Mo_readByte_1 : decode prog_12_method_43_code 1 = .ok (.iload_n 1, 1) := by decide +kernel
theorem d_Mo_readByte_2 : decode prog_12_method_43_code 2 = .ok (.ifCond .lt 11, 3) := by decide +kernel
theorem d_Mo_readByte_5 : decode prog_12_method_43_code 5 = .ok (.iload_n 1, 1) := by decide +kernel
theorem d_Mo_readByte_6 : decode prog_12_method_43_code 6 = .ok (.aload_n 0, 1) := by decide +kernel
theorem d_Mo_readByte_7 : decode prog_12_method_43_code 7 = .ok (.getfield 87, 3) := by decide +kernel
theorem d_Mo_readByte_10 : decode prog_12_method_43_code 10 = .ok (.if_icmp .lt 7, 3) := by decide +kernel
theorem d_Mo_readByte_13 : decode prog_12_method_43_code 13 = .ok (.iconst 1, 1) := by decide +kernel
theorem d_Mo_readByte_14 : decode prog_12_method_43_code 14 = .ok (.goto 4, 3) := by decide +kernel
theorem d_Mo_readByte_17 : decode prog_12_method_43_code 17 = .ok (.iconst 0, 1) := by decide +kernel
theorem d_Mo_readByte_18 : decode prog_12_method_43_code 18 = .ok (.putfield 7, 3) := by decide +kernel
theorem d_Mo_readByte_21 : decode prog_12_method_43_code 21 = .ok (.aload_n 0, 1) := by decide +kernel
theorem d_Mo_readByte_22 : decode prog_12_method_43_code 22 = .ok (.getfield 7, 3) := by decide +kernel
theorem d_Mo_readByte_25 : decode prog_12_method_43_code 25 = .ok (.ifCond .eq 7, 3) := by decide +kernel
theorem d_Mo_readByte_28 : decode prog_12_method_43_code 28 = .ok (.iconst 0, 1) := by decide +kernel
theorem d_Mo_readByte_29 : decode prog_12_method_43_code 29 = .ok (.goto 9, 3) := by decide +kernel
theorem d_Mo_readByte_32 : decode prog_12_method_43_code 32 = .ok (.aload_n 0, 1) := by decide +kernel
theorem d_Mo_readByte_33 : decode prog_12_method_43_code 33 = .ok (.getfield 84, 3) := by decide +kernel
theorem d_Mo_readByte_36 : decode prog_12_method_43_code 36 = .ok (.iload_n 1, 1) := by decide +kernel
theorem d_Mo_readByte_37 : decode prog_12_method_43_code 37 = .ok (.iaload, 1) := by decide +kernel
theorem d_Mo_readByte_38 : decode prog_12_method_43_code 38 = .ok (.ireturn, 1) := by decide +kernel
theorem d_Mo_state_0 : decode prog_12_method_44_code 0 = .ok (.aload_n 0, 1) := by decide +kernel
theorem d_Mo_state_1 : decode prog_12_method_44_code 1 = .ok (.iload_n 1, 1) := by decide +kernel
theorem d_Mo_state_2 : decode prog_12_method_44_code 2 = .ok (.invokestatic 158, 3) := by decide +kernel
theorem d_Mo_state_5 : decode prog_12_method_44_code 5 = .ok (.ifCond .ne 12, 3) := by decide +kernel
theorem d_Mo_state_8 : decode prog_12_method_44_code 8 = .ok (.iload_n 2, 1) := by decide +kernel
theorem d_Mo_state_9 : decode prog_12_method_44_code 9 = .ok (.ifCond .lt 8, 3) := by decide +kernel
theorem d_Mo_state_12 : decode prog_12_method_44_code 12 = .ok (.iload_n 2, 1) := by decide +kernel
theorem d_Mo_state_13 : decode prog_12_method_44_code 13 = .ok (.iconst 3, 1) := by decide +kernel
theorem d_Mo_state_14 : decode prog_12_method_44_code 14 = .ok (.if_icmp .le 7, 3) := by decide +kernel
theorem d_Mo_state_17 : decode prog_12_method_44_code 17 = .ok (.iconst 1, 1) := by decide +kernel
theorem d_Mo_state_18 : decode prog_12_method_44_code 18 = .ok (.goto 4, 3) := by decide +kernel
theorem d_Mo_state_21 : decode prog_12_method_44_code 21 = .ok (.iconst 0, 1) := by decide +kernel
theorem d_Mo_state_22 : decode prog_12_method_44_code 22 = .ok (.putfield 7, 3) := by decide +kernel
theorem d_Mo_state_25 : decode prog_12_method_44_code 25 = .ok (.aload_n 0, 1) := by decide +kernel
theorem d_Mo_state_26 : decode prog_12_method_44_code 26 = .ok (.getfield 7, 3) := by decide +kernel
theorem d_Mo_state_29 : decode prog_12_method_44_code 29 = .ok (.ifCond .eq 5, 3) := by decide +kernel
theorem d_Mo_state_32 : decode prog_12_method_44_code 32 = .ok (.iconst 0, 1) := by decide +kernel
theorem d_Mo_state_33 : decode prog_12_method_44_code 33 = .ok (.ireturn, 1) := by decide +kernel
theorem d_Mo_state_34 : decode prog_12_method_44_code 34 = .ok (.iload_n 2, 1) := by decide +kernel
theorem d_Mo_state_35 : decode prog_12_method_44_code 35 = .ok (.ifCond .ne 12, 3) := by decide +kernel
theorem d_Mo_state_38 : decode prog_12_method_44_code 38 = .ok (.aload_n 0, 1) := by decide +kernel
theorem d_Mo_state_39 : decode prog_12_method_44_code 39 = .ok (.getfield 36, 3) := by decide +kernel
theorem d_Mo_state_42 : decode prog_12_method_44_code 42 = .ok (.iload_n 1, 1) := by decide +kernel
theorem d_Mo_state_43 : decode prog_12_method_44_code 43 = .ok (.iaload, 1) := by decide +kernel
theorem d_Mo_state_44 : decode prog_12_method_44_code 44 = .ok (.goto 39, 3) := by decide +kernel
theorem d_Mo_state_47 : decode prog_12_method_44_code 47 = .ok (.iload_n 2, 1) := by decide +kernel
theorem d_Mo_state_48 : decode prog_12_method_44_code 48 = .ok (.iconst 1, 1) := by decide +kernel
theorem d_Mo_state_49 : decode prog_12_method_44_code 49 = .ok (.if_icmp .ne 12, 3) := by decide +kernel
theorem d_Mo_state_52 : decode prog_12_method_44_code 52 = .ok (.aload_n 0, 1) := by decide +kernel
theorem d_Mo_state_53 : decode prog_12_method_44_code 53 = .ok (.getfield 39, 3) := by decide +kernel
theorem d_Mo_state_56 : decode prog_12_method_44_code 56 = .ok (.iload_n 1, 1) := by decide +kernel
theorem d_Mo_state_57 : decode prog_12_method_44_code 57 = .ok (.iaload, 1) := by decide +kernel
theorem d_Mo_state_58 : decode prog_12_method_44_code 58 = .ok (.goto 25, 3) := by decide +kernel
theorem d_Mo_state_61 : decode prog_12_method_44_code 61 = .ok (.iload_n 2, 1) := by decide +kernel
theorem d_Mo_state_62 : decode prog_12_method_44_code 62 = .ok (.iconst 2, 1) := by decide +kernel
theorem d_Mo_state_63 : decode prog_12_method_44_code 63 = .ok (.if_icmp .ne 11, 3) := by decide +kernel
theorem d_Mo_state_66 : decode prog_12_method_44_code 66 = .ok (.aload_n 0, 1) := by decide +kernel
theorem d_Mo_state_67 : decode prog_12_method_44_code 67 = .ok (.iload_n 1, 1) := by decide +kernel
theorem d_Mo_state_68 : decode prog_12_method_44_code 68 = .ok (.invokevirtual 165, 3) := by decide +kernel
theorem d_Mo_state_71 : decode prog_12_method_44_code 71 = .ok (.goto 12, 3) := by decide +kernel
theorem d_Mo_state_74 : decode prog_12_method_44_code 74 = .ok (.aload_n 0, 1) := by decide +kernel
theorem d_Mo_state_75 : decode prog_12_method_44_code 75 = .ok (.getfield 42, 3) := by decide +kernel
theorem d_Mo_state_78 : decode prog_12_method_44_code 78 = .ok (.iload_n 1, 1) := by decide +kernel
theorem d_Mo_state_79 : decode prog_12_method_44_code 79 = .ok (.iaload, 1) := by decide +kernel
theorem d_Mo_state_80 : decode prog_12_method_44_code 80 = .ok (.invokestatic 133, 3) := by decide +kernel
theorem d_Mo_state_83 : decode prog_12_method_44_code 83 = .ok (.ireturn, 1) := by decide +kernel
theorem d_Mo_station_0 : decode prog_12_method_45_code 0 = .ok (.aload_n 0, 1) := by decide +kernel
theorem d_Mo_station_1 : decode prog_12_method_45_code 1 = .ok (.iload_n 1, 1) := by decide +kernel
theorem d_Mo_station_2 : decode prog_12_method_45_code 2 = .ok (.invokestatic 179, 3) := by decide +kernel
theorem d_Mo_station_5 : decode prog_12_method_45_code 5 = .ok (.ifCond .ne 12, 3) := by decide +kernel
theorem d_Mo_station_8 : decode prog_12_method_45_code 8 = .ok (.iload_n 2, 1) := by decide +kernel
theorem d_Mo_station_9 : decode prog_12_method_45_code 9 = .ok (.ifCond .lt 8, 3) := by decide +kernel
theorem d_Mo_station_12 : decode prog_12_method_45_code 12 = .ok (.iload_n 2, 1) := by decide +kernel
theorem d_Mo_station_13 : decode prog_12_method_45_code 13 = .ok (.iconst 3, 1) := by decide +kernel
theorem d_Mo_station_14 : decode prog_12_method_45_code 14 = .ok (.if_icmp .le 7, 3) := by decide +kernel
theorem d_Mo_station_17 : decode prog_12_method_45_code 17 = .ok (.iconst 1, 1) := by decide +kernel
theorem d_Mo_station_18 : decode prog_12_method_45_code 18 = .ok (.goto 4, 3) := by decide +kernel
theorem d_Mo_station_21 : decode prog_12_method_45_code 21 = .ok (.iconst 0, 1) := by decide +kernel
theorem d_Mo_station_22 : decode prog_12_method_45_code 22 = .ok (.putfield 7, 3) := by decide +kernel
theorem d_Mo_station_25 : decode prog_12_method_45_code 25 = .ok (.aload_n 0, 1) := by decide +kernel
theorem d_Mo_station_26 : decode prog_12_method_45_code 26 = .ok (.getfield 7, 3) := by decide +kernel
theorem d_Mo_station_29 : decode prog_12_method_45_code 29 = .ok (.ifCond .eq 5, 3) := by decide +kernel
theorem d_Mo_station_32 : decode prog_12_method_45_code 32 = .ok (.iconst 0, 1) := by decide +kernel
theorem d_Mo_station_33 : decode prog_12_method_45_code 33 = .ok (.ireturn, 1) := by decide +kernel
theorem d_Mo_station_34 : decode prog_12_method_45_code 34 = .ok (.iload_n 2, 1) := by decide +kernel
theorem d_Mo_station_35 : decode prog_12_method_45_code 35 = .ok (.ifCond .ne 10, 3) := by decide +kernel
theorem d_Mo_station_38 : decode prog_12_method_45_code 38 = .ok (.aload_n 0, 1) := by decide +kernel
theorem d_Mo_station_39 : decode prog_12_method_45_code 39 = .ok (.getfield 13, 3) := by decide +kernel
theorem d_Mo_station_42 : decode prog_12_method_45_code 42 = .ok (.iload_n 1, 1) := by decide +kernel
theorem d_Mo_station_43 : decode prog_12_method_45_code 43 = .ok (.iaload, 1) := by decide +kernel
theorem d_Mo_station_44 : decode prog_12_method_45_code 44 = .ok (.ireturn, 1) := by decide +kernel
theorem d_Mo_station_45 : decode prog_12_method_45_code 45 = .ok (.iload_n 2, 1) := by decide +kernel
theorem d_Mo_station_46 : decode prog_12_method_45_code 46 = .ok (.iconst 2, 1) := by decide +kernel
theorem d_Mo_station_47 : decode prog_12_method_45_code 47 = .ok (.if_icmp .ne 18, 3) := by decide +kernel
theorem d_Mo_station_50 : decode prog_12_method_45_code 50 = .ok (.aload_n 0, 1) := by decide +kernel
theorem d_Mo_station_51 : decode prog_12_method_45_code 51 = .ok (.getfield 17, 3) := by decide +kernel
theorem d_Mo_station_54 : decode prog_12_method_45_code 54 = .ok (.iload_n 1, 1) := by decide +kernel
theorem d_Mo_station_55 : decode prog_12_method_45_code 55 = .ok (.baload, 1) := by decide +kernel
theorem d_Mo_station_56 : decode prog_12_method_45_code 56 = .ok (.ifCond .eq 7, 3) := by decide +kernel
theorem d_Mo_station_59 : decode prog_12_method_45_code 59 = .ok (.iconst 0, 1) := by decide +kernel
theorem d_Mo_station_60 : decode prog_12_method_45_code 60 = .ok (.goto 4, 3) := by decide +kernel
theorem d_Mo_station_63 : decode prog_12_method_45_code 63 = .ok (.iconst 1, 1) := by decide +kernel
theorem d_Mo_station_64 : decode prog_12_method_45_code 64 = .ok (.ireturn, 1) := by decide +kernel
theorem d_Mo_station_65 : decode prog_12_method_45_code 65 = .ok (.iload_n 2, 1) := by decide +kernel
theorem d_Mo_station_66 : decode prog_12_method_45_code 66 = .ok (.iconst 3, 1) := by decide +kernel
theorem d_Mo_station_67 : decode prog_12_method_45_code 67 = .ok (.if_icmp .ne 18, 3) := by decide +kernel
theorem d_Mo_station_70 : decode prog_12_method_45_code 70 = .ok (.aload_n 0, 1) := by decide +kernel
theorem d_Mo_station_71 : decode prog_12_method_45_code 71 = .ok (.getfield 21, 3) := by decide +kernel
theorem d_Mo_station_74 : decode prog_12_method_45_code 74 = .ok (.iload_n 1, 1) := by decide +kernel
theorem d_Mo_station_75 : decode prog_12_method_45_code 75 = .ok (.baload, 1) := by decide +kernel
theorem d_Mo_station_76 : decode prog_12_method_45_code 76 = .ok (.ifCond .eq 7, 3) := by decide +kernel
theorem d_Mo_station_79 : decode prog_12_method_45_code 79 = .ok (.iconst 1, 1) := by decide +kernel
theorem d_Mo_station_80 : decode prog_12_method_45_code 80 = .ok (.goto 4, 3) := by decide +kernel
theorem d_Mo_station_83 : decode prog_12_method_45_code 83 = .ok (.iconst 0, 1) := by decide +kernel
theorem d_Mo_station_84 : decode prog_12_method_45_code 84 = .ok (.ireturn, 1) := by decide +kernel
theorem d_Mo_station_85 : decode prog_12_method_45_code 85 = .ok (.iconst 0, 1) := by decide +kernel
theorem d_Mo_station_86 : decode prog_12_method_45_code 86 = .ok (.istore_n 3, 1) := by decide +kernel
theorem d_Mo_station_87 : decode prog_12_method_45_code 87 = .ok (.iconst 0, 1) := by decide +kernel
theorem d_Mo_station_88 : decode prog_12_method_45_code 88 = .ok (.istore 4, 2) := by decide +kernel
theorem d_Mo_station_90 : decode prog_12_method_45_code 90 = .ok (.iload 4, 2) := by decide +kernel
theorem d_Mo_station_92 : decode prog_12_method_45_code 92 = .ok (.bipush 8, 2) := by decide +kernel
theorem d_Mo_station_94 : decode prog_12_method_45_code 94 = .ok (.if_icmp .ge 32, 3) := by decide +kernel
theorem d_Mo_station_97 : decode prog_12_method_45_code 97 = .ok (.iload_n 3, 1) := by decide +kernel
theorem d_Mo_station_98 : decode prog_12_method_45_code 98 = .ok (.aload_n 0, 1) := by decide +kernel
theorem d_Mo_station_99 : decode prog_12_method_45_code 99 = .ok (.getfield 24, 3) := by decide +kernel
theorem d_Mo_station_102 : decode prog_12_method_45_code 102 = .ok (.bipush 88, 2) := by decide +kernel
theorem d_Mo_station_104 : decode prog_12_method_45_code 104 = .ok (.iload_n 1, 1) := by decide +kernel
theorem d_Mo_station_105 : decode prog_12_method_45_code 105 = .ok (.imul, 1) := by decide +kernel
theorem d_Mo_station_106 : decode prog_12_method_45_code 106 = .ok (.bipush 11, 2) := by decide +kernel
theorem d_Mo_station_108 : decode prog_12_method_45_code 108 = .ok (.iload 4, 2) := by decide +kernel
theorem d_Mo_station_110 : decode prog_12_method_45_code 110 = .ok (.imul, 1) := by decide +kernel
theorem d_Mo_station_111 : decode prog_12_method_45_code 111 = .ok (.iadd, 1) := by decide +kernel
theorem d_Mo_station_112 : decode prog_12_method_45_code 112 = .ok (.iconst 2, 1) := by decide +kernel
theorem d_Mo_station_113 : decode prog_12_method_45_code 113 = .ok (.iadd, 1) := by decide +kernel
theorem d_Mo_station_114 : decode prog_12_method_45_code 114 = .ok (.iaload, 1) := by decide +kernel
theorem d_Mo_station_115 : decode prog_12_method_45_code 115 = .ok (.invokestatic 100, 3) := by decide +kernel
theorem d_Mo_station_118 : decode prog_12_method_45_code 118 = .ok (.iadd, 1) := by decide +kernel
theorem d_Mo_station_119 : decode prog_12_method_45_code 119 = .ok (.istore_n 3, 1) := by decide +kernel
theorem d_Mo_station_120 : decode prog_12_method_45_code 120 = .ok (.iinc 4 1, 3) := by decide +kernel
theorem d_Mo_station_123 : decode prog_12_method_45_code 123 = .ok (.goto (-33), 3) := by decide +kernel
theorem d_Mo_station_126 : decode prog_12_method_45_code 126 = .ok (.iload_n 3, 1) := by decide +kernel
theorem d_Mo_station_127 : decode prog_12_method_45_code 127 = .ok (.ireturn, 1) := by decide +kernel
theorem d_Mo_share_0 : decode prog_12_method_46_code 0 = .ok (.aload_n 0, 1) := by decide +kernel
theorem d_Mo_share_1 : decode prog_12_method_46_code 1 = .ok (.iload_n 1, 1) := by decide +kernel
theorem d_Mo_share_2 : decode prog_12_method_46_code 2 = .ok (.invokestatic 179, 3) := by decide +kernel
theorem d_Mo_share_5 : decode prog_12_method_46_code 5 = .ok (.ifCond .ne 17, 3) := by decide +kernel
theorem d_Mo_share_8 : decode prog_12_method_46_code 8 = .ok (.iload_n 2, 1) := by decide +kernel
theorem d_Mo_share_9 : decode prog_12_method_46_code 9 = .ok (.ifCond .lt 13, 3) := by decide +kernel
theorem d_Mo_share_12 : decode prog_12_method_46_code 12 = .ok (.iload_n 2, 1) := by decide +kernel
theorem d_Mo_share_13 : decode prog_12_method_46_code 13 = .ok (.bipush 7, 2) := by decide +kernel
theorem d_Mo_share_15 : decode prog_12_method_46_code 15 = .ok (.if_icmp .gt 7, 3) := by decide +kernel
theorem d_Mo_share_18 : decode prog_12_method_46_code 18 = .ok (.iload_n 3, 1) := by decide +kernel
theorem d_Mo_share_19 : decode prog_12_method_46_code 19 = .ok (.ifCond .ge 7, 3) := by decide +kernel
theorem d_Mo_share_22 : decode prog_12_method_46_code 22 = .ok (.iconst 1, 1) := by decide +kernel
theorem d_Mo_share_23 : decode prog_12_method_46_code 23 = .ok (.goto 4, 3) := by decide +kernel
theorem d_Mo_share_26 : decode prog_12_method_46_code 26 = .ok (.iconst 0, 1) := by decide +kernel
theorem d_Mo_share_27 : decode prog_12_method_46_code 27 = .ok (.putfield 7, 3) := by decide +kernel
theorem d_Mo_share_30 : decode prog_12_method_46_code 30 = .ok (.aload_n 0, 1) := by decide +kernel
theorem d_Mo_share_31 : decode prog_12_method_46_code 31 = .ok (.getfield 7, 3) := by decide +kernel
theorem d_Mo_share_34 : decode prog_12_method_46_code 34 = .ok (.ifCond .eq 5, 3) := by decide +kernel
theorem d_Mo_share_37 : decode prog_12_method_46_code 37 = .ok (.iconst 0, 1) := by decide +kernel
theorem d_Mo_share_38 : decode prog_12_method_46_code 38 = .ok (.ireturn, 1) := by decide +kernel
theorem d_Mo_share_39 : decode prog_12_method_46_code 39 = .ok (.bipush 88, 2) := by decide +kernel
theorem d_Mo_share_41 : decode prog_12_method_46_code 41 = .ok (.iload_n 1, 1) := by decide +kernel
theorem d_Mo_share_42 : decode prog_12_method_46_code 42 = .ok (.imul, 1) := by decide +kernel
theorem d_Mo_share_43 : decode prog_12_method_46_code 43 = .ok (.bipush 11, 2) := by decide +kernel
theorem d_Mo_share_45 : decode prog_12_method_46_code 45 = .ok (.iload_n 2, 1) := by decide +kernel
theorem d_Mo_share_46 : decode prog_12_method_46_code 46 = .ok (.imul, 1) := by decide +kernel
theorem d_Mo_share_47 : decode prog_12_method_46_code 47 = .ok (.iadd, 1) := by decide +kernel
theorem d_Mo_share_48 : decode prog_12_method_46_code 48 = .ok (.istore 4, 2) := by decide +kernel
theorem d_Mo_share_50 : decode prog_12_method_46_code 50 = .ok (.aload_n 0, 1) := by decide +kernel
theorem d_Mo_share_51 : decode prog_12_method_46_code 51 = .ok (.getfield 24, 3) := by decide +kernel
theorem d_Mo_share_54 : decode prog_12_method_46_code 54 = .ok (.iload 4, 2) := by decide +kernel
theorem d_Mo_share_56 : decode prog_12_method_46_code 56 = .ok (.iconst 2, 1) := by decide +kernel
theorem d_Mo_share_57 : decode prog_12_method_46_code 57 = .ok (.iadd, 1) := by decide +kernel
theorem d_Mo_share_58 : decode prog_12_method_46_code 58 = .ok (.iaload, 1) := by decide +kernel
theorem d_Mo_share_59 : decode prog_12_method_46_code 59 = .ok (.istore 5, 2) := by decide +kernel
theorem d_Mo_share_61 : decode prog_12_method_46_code 61 = .ok (.iload 5, 2) := by decide +kernel
theorem d_Mo_share_63 : decode prog_12_method_46_code 63 = .ok (.ifCond .eq 14, 3) := by decide +kernel
theorem d_Mo_share_66 : decode prog_12_method_46_code 66 = .ok (.iload_n 3, 1) := by decide +kernel
theorem d_Mo_share_67 : decode prog_12_method_46_code 67 = .ok (.iconst 3, 1) := by decide +kernel
theorem d_Mo_share_68 : decode prog_12_method_46_code 68 = .ok (.iload 5, 2) := by decide +kernel
theorem d_Mo_share_70 : decode prog_12_method_46_code 70 = .ok (.invokestatic 100, 3) := by decide +kernel
theorem d_Mo_share_73 : decode prog_12_method_46_code 73 = .ok (.iadd, 1) := by decide +kernel
theorem d_Mo_share_74 : decode prog_12_method_46_code 74 = .ok (.if_icmp .lt 5, 3) := by decide +kernel
theorem d_Mo_share_77 : decode prog_12_method_46_code 77 = .ok (.iconst (-1), 1) := by decide +kernel
theorem d_Mo_share_78 : decode prog_12_method_46_code 78 = .ok (.ireturn, 1) := by decide +kernel
theorem d_Mo_share_79 : decode prog_12_method_46_code 79 = .ok (.aload_n 0, 1) := by decide +kernel
theorem d_Mo_share_80 : decode prog_12_method_46_code 80 = .ok (.getfield 24, 3) := by decide +kernel
theorem d_Mo_share_83 : decode prog_12_method_46_code 83 = .ok (.iload 4, 2) := by decide +kernel
theorem d_Mo_share_85 : decode prog_12_method_46_code 85 = .ok (.iload_n 3, 1) := by decide +kernel
theorem d_Mo_share_86 : decode prog_12_method_46_code 86 = .ok (.iadd, 1) := by decide +kernel
theorem d_Mo_share_87 : decode prog_12_method_46_code 87 = .ok (.iaload, 1) := by decide +kernel
theorem d_Mo_share_88 : decode prog_12_method_46_code 88 = .ok (.ireturn, 1) := by decide +kernel
end
section
/-! The layer: the heap as a function of addresses (zx_H), locals as a list (zx_L); a judgement zX that holds for every walk of a method; a rule an instruction. -/
abbrev zx_H : Type := Nat → Option va_E
abbrev zx_L : Type := List (Option Value)
/-- launch, class numbers and slots, classes, array classes, base, what the tables and the low heap say, words -/
abbrev zx_G : Type := Launch × va_G × List vw_C × List (ClassId × FieldType) × Nat × (State → Prop) × List Cond
abbrev zx_gL (G : zx_G) : Launch := G.1
abbrev zx_gD (G : zx_G) : va_G := G.2.1
abbrev zx_gC (G : zx_G) : List vw_C := G.2.2.1
abbrev zx_gT (G : zx_G) : List (ClassId × FieldType) := G.2.2.2.1
abbrev zx_gB (G : zx_G) : Nat := G.2.2.2.2.1
abbrev zx_gZ (G : zx_G) : State → Prop := G.2.2.2.2.2.1
abbrev zx_gW (G : zx_G) : List Cond := G.2.2.2.2.2.2
/-- a method: name, code, locals, return type, handlers -/
abbrev zx_Y : Type := MethodName × ByteArray × Nat × Option FieldType × List (Nat × Nat × Nat × Nat)
abbrev zx_c (y : zx_Y) : Cond := Cond.code y.1 y.2.1 y.2.2.1 y.2.2.2.1
abbrev zx_A (G : zx_G) : Nat → Prop := fun q => zx_gB G ≤ q
def zx_R (D : va_G) (cl : List vw_C) (b : Nat) (h : zx_H) (n : Nat) (H : Heap) : Prop := H.size = n ∧ (∀ (a : Nat) (e : va_E), h a = some e → b ≤ a ∧ va_at D cl (a, e) H) ∧ ∀ (q : Nat) (cell : Cell), b ≤ q → H[q]? = some cell → cell.vm.isStatics = false
def zx_l (nL : Nat) (ls : Array Slot) (L : zx_L) : Prop := ls.size = nL ∧ L.length = nL ∧ lv_wf ls ∧ ∀ (i : Nat) (v : Value), L[i]? = some (some v) → ls[i]? = some (.val v)
def zx_Zok (b : Nat) (Z : State → Prop) : Prop := ∀ U U' : State, U.WarmedH U'.vm → b ≤ U.heap.size → (∀ q : Nat, q < b → U'.heap[q]? = U.heap[q]?) → Z U → Z U'
def zx_C (G : zx_G) (y : zx_Y) (p : Program) (s : State) (m : MethodId) (args : Array Value) (meth : Method) (c : Code) : Prop :=
  p.tables.exec = Jvm.exec ∧ c.code = y.2.1 ∧ c.maxLocals = y.2.2.1 ∧ s.vm.findClass y.1.cls = some m.cls ∧ (∀ w ∈ zx_gW G, w.before args s = true) ∧ va_K (zx_gD G) (zx_gC G) (zx_gT G) s ∧ zx_gB G ≤ s.heap.size ∧ zx_gZ G s ∧ zx_Zok (zx_gB G) (zx_gZ G) ∧ meth.sig.returnType = y.2.2.2.1 ∧ meth.locks = false ∧ meth.name = y.1.name ∧ c.exceptionTable.toList.map (fun h => (h.startPc, h.endPc, h.handlerPc, h.catchType)) = y.2.2.2.2
def zX (G : zx_G) (y : zx_Y) (R : Room) (F : List Frame → Array Value → State → State → Prop) (pc : Nat) (L : zx_L) (st : List Value) (h : zx_H) (n k j : Nat) : Prop :=
  ∀ (p : Program) (e : Env) (s : State) (m : MethodId) (args : Array Value) (below : List Frame) (meth : Method) (c : Code), zx_C G y p s m args meth c → ∀ (ls : Array Slot) (H : Heap) (locs : List Loc), zx_l y.2.2.1 ls L → zx_R (zx_gD G) (zx_gC G) (zx_gB G) h n H → va_S (zx_A G) s.heap H locs → W p (zx_gL G) e R s m args below meth c H locs k j (F below args s) (F0 m pc ls st)
/-- a contract's end: it returned -/
def zx_Q (G : zx_G) (post : Option Value → zx_H → Nat → Prop) : Array Value → State → Outcome → State → Prop := fun _ st o t =>
  (∃ (r : Option Value) (h' : zx_H) (n' : Nat), o = .returned r ∧ post r h' n' ∧ zx_R (zx_gD G) (zx_gC G) (zx_gB G) h' n' t.heap) ∧ va_F (zx_A G) st t
def zx_F (G : zx_G) (mc ms : Nat) (post : Option Value → zx_H → Nat → Prop) : List Frame → Array Value → State → State → Prop := fun below args s => MQ below (zx_Q G post) args s mc ms (zx_A G)
def zx_P (G : zx_G) (h : zx_H) (n : Nat) (U : State) : Prop := zx_R (zx_gD G) (zx_gC G) (zx_gB G) h n U.heap ∧ zx_gB G ≤ n ∧ va_K (zx_gD G) (zx_gC G) (zx_gT G) U ∧ zx_gZ G U ∧ zx_Zok (zx_gB G) (zx_gZ G)
/-- a contract: from arguments av and heap h it returns, and post holds -/
def zM (G : zx_G) (y : zx_Y) (rm : Room) (av : List Value) (h : zx_H) (n : Nat) (post : Option Value → zx_H → Nat → Prop) : Prop :=
  Met (zx_gL G) y.1 (zx_c y :: zx_gW G) rm (va_Pc av (zx_P G h n)) (zx_Q G post) rm.cells rm.slots (zx_A G)
/-! locals -/
def zx_cl (L : zx_L) (i : Nat) : zx_L := match i with
  | 0 => L
  | k + 1 => match L[k]? with
    | some (some w) => if w.category = 2 then L.set k none else L
    | _ => L
def zx_s1 (L : zx_L) (i : Nat) (v : Value) : zx_L := (zx_cl L i).set i (some v)
def zx_s2 (L : zx_L) (i : Nat) (v : Value) : zx_L := ((zx_cl L i).set i (some v)).set (i + 1) none
def zx_ps (L : zx_L) : List (Nat × Value) := L.zipIdx.filterMap (fun q => q.1.map (fun v => (q.2, v)))
theorem zx_ps_mem {L : zx_L} {i : Nat} {v : Value} : (i, v) ∈ zx_ps L ↔ L[i]? = some (some v) := by
  constructor
  · intro h
    obtain ⟨⟨a, k⟩, h1, h2⟩ := List.mem_filterMap.mp h
    cases a with
    | none => simp at h2
    | some w =>
      simp only [Option.map_some, Option.some.injEq, Prod.mk.injEq] at h2
      obtain ⟨rfl, rfl⟩ := h2
      exact List.mk_mem_zipIdx_iff_getElem?.mp h1
  · intro h
    exact List.mem_filterMap.mpr ⟨(some v, i), List.mk_mem_zipIdx_iff_getElem?.mpr h, rfl⟩
theorem zx_l.has {nL : Nat} {ls : Array Slot} {L : zx_L} (h : zx_l nL ls L) : lv_has ls nL (zx_ps L) := ⟨h.1, h.2.2.1, fun q hq => h.2.2.2 q.1 q.2 (zx_ps_mem.mp hq)⟩
theorem zx_cl_len (L : zx_L) (i : Nat) : (zx_cl L i).length = L.length := by
  unfold zx_cl
  split
  · rfl
  · split
    · split
      · simp
      · rfl
    · rfl
theorem zx_cl_get {L : zx_L} {i j : Nat} {w : Value} (h : (zx_cl L i)[j]? = some (some w)) : L[j]? = some (some w) ∧ ¬ (j + 1 = i ∧ w.category = 2) := by
  unfold zx_cl at h
  split at h
  · exact ⟨h, fun q => by omega⟩
  · rename_i k
    split at h
    · rename_i w' hw'
      split at h
      · rename_i hc
        by_cases hj : j = k
        · subst hj
          rw [List.getElem?_set] at h
          simp only [if_true] at h
          split at h <;> simp at h
        · rw [List.getElem?_set_ne (Ne.symm hj)] at h
          exact ⟨h, fun q => hj (by omega)⟩
      · rename_i hc
        refine ⟨h, fun q => ?_⟩
        have : j = k := by omega
        subst this
        rw [hw'] at h
        cases h
        exact hc q.2
    · rename_i hn
      refine ⟨h, fun q => ?_⟩
      have : j = k := by omega
      subst this
      exact hn w h
theorem zx_l.s1 {nL : Nat} {ls ls' : Array Slot} {L : zx_L} {i : Nat} {v : Value} (h : zx_l nL ls L) (h' : lv_has ls' nL ((i, v) :: (zx_ps L).filter (fun q => !(q.1 == i) && !(q.1 + 1 == i && q.2.category == 2)))) : zx_l nL ls' (zx_s1 L i v) := by
  refine ⟨h'.1, by simp [zx_s1, zx_cl_len, h.2.1], h'.2.1, fun j w hj => ?_⟩
  unfold zx_s1 at hj
  by_cases e : j = i
  · subst e
    rw [List.getElem?_set] at hj
    simp only [if_true] at hj
    split at hj
    · cases hj
      exact h'.2.2 (j, v) List.mem_cons_self
    · cases hj
  · rw [List.getElem?_set_ne (Ne.symm e)] at hj
    obtain ⟨h1, h2⟩ := zx_cl_get hj
    refine h'.2.2 (j, w) (List.mem_cons_of_mem _ (List.mem_filter.mpr ⟨zx_ps_mem.mpr h1, ?_⟩))
    simp only [Bool.and_eq_true, Bool.not_eq_true', beq_eq_false_iff_ne, ne_eq, Bool.and_eq_false_iff]
    refine ⟨e, ?_⟩
    by_cases q : j + 1 = i
    · exact Or.inr (fun z => h2 ⟨q, z⟩)
    · exact Or.inl q
theorem zx_l.s2 {nL : Nat} {ls ls' : Array Slot} {L : zx_L} {i : Nat} {v : Value} (h : zx_l nL ls L) (h' : lv_has ls' nL ((i, v) :: (zx_ps L).filter (fun q => !(q.1 == i) && (!(q.1 == i + 1) && !(q.1 + 1 == i && q.2.category == 2))))) : zx_l nL ls' (zx_s2 L i v) := by
  refine ⟨h'.1, by simp [zx_s2, zx_cl_len, h.2.1], h'.2.1, fun j w hj => ?_⟩
  unfold zx_s2 at hj
  by_cases e1 : j = i + 1
  · subst e1
    rw [List.getElem?_set] at hj
    simp only [if_true] at hj
    split at hj <;> simp at hj
  · rw [List.getElem?_set_ne (Ne.symm e1)] at hj
    by_cases e : j = i
    · subst e
      rw [List.getElem?_set] at hj
      simp only [if_true] at hj
      split at hj
      · cases hj
        exact h'.2.2 (j, v) List.mem_cons_self
      · cases hj
    · rw [List.getElem?_set_ne (Ne.symm e)] at hj
      obtain ⟨h1, h2⟩ := zx_cl_get hj
      refine h'.2.2 (j, w) (List.mem_cons_of_mem _ (List.mem_filter.mpr ⟨zx_ps_mem.mpr h1, ?_⟩))
      simp only [Bool.and_eq_true, Bool.not_eq_true', beq_eq_false_iff_ne, ne_eq, Bool.and_eq_false_iff]
      refine ⟨e, e1, ?_⟩
      by_cases q : j + 1 = i
      · exact Or.inr (fun z => h2 ⟨q, z⟩)
      · exact Or.inl q
/-! the heap -/
theorem zx_ns {D : va_G} {cl : List vw_C} {a : Nat} {e : va_E} {H : Heap} (h : va_at D cl (a, e) H) {cell : Cell} (hc : H[a]? = some cell) : cell.vm.isStatics = false := by
  cases e with
  | inl x =>
    have h1 : H[a]? = some (vp_cell x.1 x.2) := h
    rw [h1] at hc
    cases hc
    obtain ⟨c, n, f | f | f | f | f⟩ := x <;> rfl
  | inr o =>
    obtain ⟨r, h1, cell2, h2, h3, h4, h5⟩ := h
    have e1 := h2.symm.trans hc
    cases e1
    rw [h4]
    rfl
theorem zx_R.get {D : va_G} {cl : List vw_C} {b : Nat} {h : zx_H} {n : Nat} {H : Heap} (hR : zx_R D cl b h n H) {a : Nat} {e : va_E} (he : h a = some e) : va_P D cl [(a, e)] H := by
  intro k q hk
  have hz : k < 1 := (List.getElem?_eq_some_iff.mp hk).1
  rw [show k = 0 by omega] at hk
  cases hk
  exact (hR.2.1 a e he).2
theorem zx_R.set {D : va_G} {cl : List vw_C} {b : Nat} {h : zx_H} {n : Nat} {H H1 : Heap} (hR : zx_R D cl b h n H) {a : Nat} {e0 e : va_E} (he : h a = some e0) (h1 : va_at D cl (a, e) H1) (z : H1.size = H.size) (oq : ∀ q : Nat, q ≠ a → H1[q]? = H[q]?) : zx_R D cl b (va_up h a (some e)) n H1 := by
  refine ⟨z.trans hR.1, fun x f hx => ?_, fun q cell hq hc => ?_⟩
  · unfold va_up at hx
    split at hx
    · rename_i hq
      subst hq
      cases hx
      exact ⟨(hR.2.1 x e0 he).1, h1⟩
    · rename_i hq
      obtain ⟨g1, g2⟩ := hR.2.1 x f hx
      exact ⟨g1, g2.kept (oq x hq)⟩
  · by_cases hqa : q = a
    · subst hqa
      exact zx_ns h1 hc
    · rw [oq q hqa] at hc
      exact hR.2.2 q cell hq hc
theorem zx_R.push {D : va_G} {cl : List vw_C} {b : Nat} {h : zx_H} {n : Nat} {H H1 : Heap} (hR : zx_R D cl b h n H) (hb : b ≤ n) {e : va_E} (h1 : va_at D cl (n, e) H1) (z : H1.size = n + 1) (oq : ∀ q : Nat, q < n → H1[q]? = H[q]?) : zx_R D cl b (va_up h n (some e)) (n + 1) H1 := by
  refine ⟨z, fun x f hx => ?_, fun q cell hq hc => ?_⟩
  · unfold va_up at hx
    split at hx
    · rename_i hq
      subst hq
      cases hx
      exact ⟨hb, h1⟩
    · rename_i hq
      obtain ⟨g1, g2⟩ := hR.2.1 x f hx
      have hlt : x < n := by have := g2.lt; rw [hR.1] at this; exact this
      exact ⟨g1, g2.kept (oq x hlt)⟩
  · by_cases hqa : q = n
    · subst hqa
      exact zx_ns h1 hc
    · have hlt : q < n + 1 := by rw [← z]; exact (Array.getElem?_eq_some_iff.mp hc).1
      rw [oq q (by omega)] at hc
      exact hR.2.2 q cell hq hc
theorem zx_R.fresh {D : va_G} {cl : List vw_C} {b : Nat} {h : zx_H} {n : Nat} {H : Heap} (hR : zx_R D cl b h n H) {a : Nat} (ha : n ≤ a) : h a = none := by
  cases e : h a with
  | none => rfl
  | some x =>
    have := (hR.2.1 a x e).2.lt
    rw [hR.1] at this
    exact absurd ha (Nat.not_le.mpr this)
theorem zx_R.forget {D : va_G} {cl : List vw_C} {b : Nat} {h h' : zx_H} {n : Nat} {H : Heap} (hR : zx_R D cl b h n H) (hs : ∀ a e, h' a = some e → h a = some e) : zx_R D cl b h' n H := ⟨hR.1, fun a e he => hR.2.1 a e (hs a e he), hR.2.2⟩

section ZX
variable {G : zx_G} {y : zx_Y} {R : Room} {F : List Frame → Array Value → State → State → Prop} {pc pc2 : Nat} {L : zx_L} {st : List Value} {h : zx_H} {n k j : Nat}
theorem zx_iadd {a b : Int32} (d : decode y.2.1 pc = .ok (.iadd, 1)) (e0 : pc + 1 = pc2)  (kk : zX G y R F pc2 L (.int (a + b) :: st) h n k j) : zX G y R F pc L (.int b :: .int a :: st) h n k j := by
  subst e0; intro p e s m args below meth c C ls H locs hl hR hS; exact lv_iadd C.1 C.2.1 d (kk p e s m args below meth c C ls H locs hl hR hS)
theorem zx_isub {a b : Int32} (d : decode y.2.1 pc = .ok (.isub, 1)) (e0 : pc + 1 = pc2)  (kk : zX G y R F pc2 L (.int (a - b) :: st) h n k j) : zX G y R F pc L (.int b :: .int a :: st) h n k j := by
  subst e0; intro p e s m args below meth c C ls H locs hl hR hS; exact lv_isub C.1 C.2.1 d (kk p e s m args below meth c C ls H locs hl hR hS)
theorem zx_imul {a b : Int32} (d : decode y.2.1 pc = .ok (.imul, 1)) (e0 : pc + 1 = pc2)  (kk : zX G y R F pc2 L (.int (a * b) :: st) h n k j) : zX G y R F pc L (.int b :: .int a :: st) h n k j := by
  subst e0; intro p e s m args below meth c C ls H locs hl hR hS; exact lv_imul C.1 C.2.1 d (kk p e s m args below meth c C ls H locs hl hR hS)
theorem zx_iand {a b : Int32} (d : decode y.2.1 pc = .ok (.iand, 1)) (e0 : pc + 1 = pc2)  (kk : zX G y R F pc2 L (.int (a &&& b) :: st) h n k j) : zX G y R F pc L (.int b :: .int a :: st) h n k j := by
  subst e0; intro p e s m args below meth c C ls H locs hl hR hS; exact lv_iand C.1 C.2.1 d (kk p e s m args below meth c C ls H locs hl hR hS)
theorem zx_ior {a b : Int32} (d : decode y.2.1 pc = .ok (.ior, 1)) (e0 : pc + 1 = pc2)  (kk : zX G y R F pc2 L (.int (a ||| b) :: st) h n k j) : zX G y R F pc L (.int b :: .int a :: st) h n k j := by
  subst e0; intro p e s m args below meth c C ls H locs hl hR hS; exact lv_ior C.1 C.2.1 d (kk p e s m args below meth c C ls H locs hl hR hS)
theorem zx_ixor {a b : Int32} (d : decode y.2.1 pc = .ok (.ixor, 1)) (e0 : pc + 1 = pc2)  (kk : zX G y R F pc2 L (.int (a ^^^ b) :: st) h n k j) : zX G y R F pc L (.int b :: .int a :: st) h n k j := by
  subst e0; intro p e s m args below meth c C ls H locs hl hR hS; exact lv_ixor C.1 C.2.1 d (kk p e s m args below meth c C ls H locs hl hR hS)
theorem zx_ladd {a b : Int64} (d : decode y.2.1 pc = .ok (.ladd, 1)) (e0 : pc + 1 = pc2)  (kk : zX G y R F pc2 L (.long (a + b) :: st) h n k j) : zX G y R F pc L (.long b :: .long a :: st) h n k j := by
  subst e0; intro p e s m args below meth c C ls H locs hl hR hS; exact lv_ladd C.1 C.2.1 d (kk p e s m args below meth c C ls H locs hl hR hS)
theorem zx_lsub {a b : Int64} (d : decode y.2.1 pc = .ok (.lsub, 1)) (e0 : pc + 1 = pc2)  (kk : zX G y R F pc2 L (.long (a - b) :: st) h n k j) : zX G y R F pc L (.long b :: .long a :: st) h n k j := by
  subst e0; intro p e s m args below meth c C ls H locs hl hR hS; exact lv_lsub C.1 C.2.1 d (kk p e s m args below meth c C ls H locs hl hR hS)
theorem zx_lmul {a b : Int64} (d : decode y.2.1 pc = .ok (.lmul, 1)) (e0 : pc + 1 = pc2)  (kk : zX G y R F pc2 L (.long (a * b) :: st) h n k j) : zX G y R F pc L (.long b :: .long a :: st) h n k j := by
  subst e0; intro p e s m args below meth c C ls H locs hl hR hS; exact lv_lmul C.1 C.2.1 d (kk p e s m args below meth c C ls H locs hl hR hS)
theorem zx_land {a b : Int64} (d : decode y.2.1 pc = .ok (.land, 1)) (e0 : pc + 1 = pc2)  (kk : zX G y R F pc2 L (.long (a &&& b) :: st) h n k j) : zX G y R F pc L (.long b :: .long a :: st) h n k j := by
  subst e0; intro p e s m args below meth c C ls H locs hl hR hS; exact lv_land C.1 C.2.1 d (kk p e s m args below meth c C ls H locs hl hR hS)
theorem zx_lor {a b : Int64} (d : decode y.2.1 pc = .ok (.lor, 1)) (e0 : pc + 1 = pc2)  (kk : zX G y R F pc2 L (.long (a ||| b) :: st) h n k j) : zX G y R F pc L (.long b :: .long a :: st) h n k j := by
  subst e0; intro p e s m args below meth c C ls H locs hl hR hS; exact lv_lor C.1 C.2.1 d (kk p e s m args below meth c C ls H locs hl hR hS)
theorem zx_lxor {a b : Int64} (d : decode y.2.1 pc = .ok (.lxor, 1)) (e0 : pc + 1 = pc2)  (kk : zX G y R F pc2 L (.long (a ^^^ b) :: st) h n k j) : zX G y R F pc L (.long b :: .long a :: st) h n k j := by
  subst e0; intro p e s m args below meth c C ls H locs hl hR hS; exact lv_lxor C.1 C.2.1 d (kk p e s m args below meth c C ls H locs hl hR hS)
theorem zx_idiv {a b : Int32} (d : decode y.2.1 pc = .ok (.idiv, 1)) (e0 : pc + 1 = pc2) (hne : ¬ b = 0) (kk : zX G y R F pc2 L (.int (a / b) :: st) h n k j) : zX G y R F pc L (.int b :: .int a :: st) h n k j := by
  subst e0; intro p e s m args below meth c C ls H locs hl hR hS; exact lv_idiv C.1 C.2.1 d hne (kk p e s m args below meth c C ls H locs hl hR hS)
theorem zx_irem {a b : Int32} (d : decode y.2.1 pc = .ok (.irem, 1)) (e0 : pc + 1 = pc2) (hne : ¬ b = 0) (kk : zX G y R F pc2 L (.int (a - a / b * b) :: st) h n k j) : zX G y R F pc L (.int b :: .int a :: st) h n k j := by
  subst e0; intro p e s m args below meth c C ls H locs hl hR hS; exact lv_irem C.1 C.2.1 d hne (kk p e s m args below meth c C ls H locs hl hR hS)
theorem zx_ishl {a b : Int32} (d : decode y.2.1 pc = .ok (.ishl, 1)) (e0 : pc + 1 = pc2)  (kk : zX G y R F pc2 L (.int (a <<< (b &&& 31)) :: st) h n k j) : zX G y R F pc L (.int b :: .int a :: st) h n k j := by
  subst e0; intro p e s m args below meth c C ls H locs hl hR hS; exact lv_ishl C.1 C.2.1 d (kk p e s m args below meth c C ls H locs hl hR hS)
theorem zx_ishr {a b : Int32} (d : decode y.2.1 pc = .ok (.ishr, 1)) (e0 : pc + 1 = pc2)  (kk : zX G y R F pc2 L (.int (a >>> (b &&& 31)) :: st) h n k j) : zX G y R F pc L (.int b :: .int a :: st) h n k j := by
  subst e0; intro p e s m args below meth c C ls H locs hl hR hS; exact lv_ishr C.1 C.2.1 d (kk p e s m args below meth c C ls H locs hl hR hS)
theorem zx_iushr {a b : Int32} (d : decode y.2.1 pc = .ok (.iushr, 1)) (e0 : pc + 1 = pc2)  (kk : zX G y R F pc2 L (.int ((a.toUInt32 >>> (b.toUInt32 &&& Int32.toUInt32 31)).toInt32) :: st) h n k j) : zX G y R F pc L (.int b :: .int a :: st) h n k j := by
  subst e0; intro p e s m args below meth c C ls H locs hl hR hS; exact lv_iushr C.1 C.2.1 d rfl (kk p e s m args below meth c C ls H locs hl hR hS)
theorem zx_ineg {a : Int32} (d : decode y.2.1 pc = .ok (.ineg, 1)) (e0 : pc + 1 = pc2)  (kk : zX G y R F pc2 L (.int (-a) :: st) h n k j) : zX G y R F pc L (.int a :: st) h n k j := by
  subst e0; intro p e s m args below meth c C ls H locs hl hR hS; exact lv_ineg C.1 C.2.1 d (kk p e s m args below meth c C ls H locs hl hR hS)
theorem zx_lshl {a : Int64} {b : Int32} (d : decode y.2.1 pc = .ok (.lshl, 1)) (e0 : pc + 1 = pc2)  (kk : zX G y R F pc2 L (.long (a <<< (b.toInt64 &&& 63)) :: st) h n k j) : zX G y R F pc L (.int b :: .long a :: st) h n k j := by
  subst e0; intro p e s m args below meth c C ls H locs hl hR hS; exact lv_lshl C.1 C.2.1 d rfl (kk p e s m args below meth c C ls H locs hl hR hS)
theorem zx_lushr {a : Int64} {b : Int32} (d : decode y.2.1 pc = .ok (.lushr, 1)) (e0 : pc + 1 = pc2)  (kk : zX G y R F pc2 L (.long ((a.toUInt64 >>> (b.toInt64.toUInt64 &&& Int64.toUInt64 63)).toInt64) :: st) h n k j) : zX G y R F pc L (.int b :: .long a :: st) h n k j := by
  subst e0; intro p e s m args below meth c C ls H locs hl hR hS; exact lv_lushr C.1 C.2.1 d rfl (kk p e s m args below meth c C ls H locs hl hR hS)
theorem zx_i2l {a : Int32} (d : decode y.2.1 pc = .ok (.i2l, 1)) (e0 : pc + 1 = pc2)  (kk : zX G y R F pc2 L (.long a.toInt64 :: st) h n k j) : zX G y R F pc L (.int a :: st) h n k j := by
  subst e0; intro p e s m args below meth c C ls H locs hl hR hS; exact lv_i2l C.1 C.2.1 d rfl (kk p e s m args below meth c C ls H locs hl hR hS)
theorem zx_l2i {a : Int64} (d : decode y.2.1 pc = .ok (.l2i, 1)) (e0 : pc + 1 = pc2)  (kk : zX G y R F pc2 L (.int a.toInt32 :: st) h n k j) : zX G y R F pc L (.long a :: st) h n k j := by
  subst e0; intro p e s m args below meth c C ls H locs hl hR hS; exact lv_l2i C.1 C.2.1 d rfl (kk p e s m args below meth c C ls H locs hl hR hS)
theorem zx_i2b {a : Int32} (d : decode y.2.1 pc = .ok (.i2b, 1)) (e0 : pc + 1 = pc2)  (kk : zX G y R F pc2 L (.int a.toInt8.toInt32 :: st) h n k j) : zX G y R F pc L (.int a :: st) h n k j := by
  subst e0; intro p e s m args below meth c C ls H locs hl hR hS; exact lv_i2b C.1 C.2.1 d rfl (kk p e s m args below meth c C ls H locs hl hR hS)
theorem zx_iconst {c0 : Int} {v : Int32} (d : decode y.2.1 pc = .ok (.iconst c0, 1)) (e0 : pc + 1 = pc2) (hv : Int32.ofInt c0 = v) (kk : zX G y R F pc2 L (.int v :: st) h n k j) : zX G y R F pc L (st) h n k j := by
  subst e0; intro p e s m args below meth c C ls H locs hl hR hS; exact lv_iconst C.1 C.2.1 d hv (kk p e s m args below meth c C ls H locs hl hR hS)
theorem zx_bipush {c0 : Int} {v : Int32} (d : decode y.2.1 pc = .ok (.bipush c0, 2)) (e0 : pc + 2 = pc2) (hv : (Int8.ofInt c0).toInt32 = v) (kk : zX G y R F pc2 L (.int v :: st) h n k j) : zX G y R F pc L (st) h n k j := by
  subst e0; intro p e s m args below meth c C ls H locs hl hR hS; exact lv_bipush C.1 C.2.1 d hv (kk p e s m args below meth c C ls H locs hl hR hS)
theorem zx_sipush {c0 : Int} {v : Int32} (d : decode y.2.1 pc = .ok (.sipush c0, 3)) (e0 : pc + 3 = pc2) (hv : (Int16.ofInt c0).toInt32 = v) (kk : zX G y R F pc2 L (.int v :: st) h n k j) : zX G y R F pc L (st) h n k j := by
  subst e0; intro p e s m args below meth c C ls H locs hl hR hS; exact lv_sipush C.1 C.2.1 d hv (kk p e s m args below meth c C ls H locs hl hR hS)
theorem zx_lconst {c0 : Fin 2} {v : Int64} (d : decode y.2.1 pc = .ok (.lconst c0, 1)) (e0 : pc + 1 = pc2) (hv : Int64.ofNat (c0 : Nat) = v) (kk : zX G y R F pc2 L (.long v :: st) h n k j) : zX G y R F pc L (st) h n k j := by
  subst e0; intro p e s m args below meth c C ls H locs hl hR hS; exact lv_lconst C.1 C.2.1 d hv (kk p e s m args below meth c C ls H locs hl hR hS)
theorem zx_null  (d : decode y.2.1 pc = .ok (.aconst_null, 1)) (e0 : pc + 1 = pc2)  (kk : zX G y R F pc2 L (.null :: st) h n k j) : zX G y R F pc L (st) h n k j := by
  subst e0; intro p e s m args below meth c C ls H locs hl hR hS; exact lv_null C.1 C.2.1 d (kk p e s m args below meth c C ls H locs hl hR hS)
theorem zx_ldc2 {ix : Nat} {v : Int64} (d : decode y.2.1 pc = .ok (.ldc2_w ix, 3)) (e0 : pc + 3 = pc2) (hc : Cond.constantLong y.1.cls ix v ∈ zx_gW G) (kk : zX G y R F pc2 L (.long v :: st) h n k j) : zX G y R F pc L (st) h n k j := by
  subst e0; intro p e s m args below meth c C ls H locs hl hR hS; exact lv_ldc2 C.1 C.2.1 C.2.2.2.1 (C.2.2.2.2.1 _ (hc)) d (kk p e s m args below meth c C ls H locs hl hR hS)
theorem zx_iload_n {i0 : Fin 4} {x : Int32} (d : decode y.2.1 pc = .ok (.iload_n i0, 1)) (e0 : pc + 1 = pc2) (hv : L[(i0 : Nat)]? = some (some (.int x))) (kk : zX G y R F pc2 L (.int x :: st) h n k j) : zX G y R F pc L (st) h n k j := by
  subst e0; intro p e s m args below meth c C ls H locs hl hR hS; exact lv_iload_n C.1 C.2.1 d rfl (hl.2.2.2 _ _ hv) (kk p e s m args below meth c C ls H locs hl hR hS)
theorem zx_iload {i0 : Nat} {x : Int32} (d : decode y.2.1 pc = .ok (.iload i0, 2)) (e0 : pc + 2 = pc2) (hv : L[i0]? = some (some (.int x))) (kk : zX G y R F pc2 L (.int x :: st) h n k j) : zX G y R F pc L (st) h n k j := by
  subst e0; intro p e s m args below meth c C ls H locs hl hR hS; exact lv_iload C.1 C.2.1 d (hl.2.2.2 _ _ hv) (kk p e s m args below meth c C ls H locs hl hR hS)
theorem zx_lload_n {i0 : Fin 4} {x : Int64} (d : decode y.2.1 pc = .ok (.lload_n i0, 1)) (e0 : pc + 1 = pc2) (hv : L[(i0 : Nat)]? = some (some (.long x))) (kk : zX G y R F pc2 L (.long x :: st) h n k j) : zX G y R F pc L (st) h n k j := by
  subst e0; intro p e s m args below meth c C ls H locs hl hR hS; exact lv_lload_n C.1 C.2.1 d rfl (hl.2.2.2 _ _ hv) (kk p e s m args below meth c C ls H locs hl hR hS)
theorem zx_lload {i0 : Nat} {x : Int64} (d : decode y.2.1 pc = .ok (.lload i0, 2)) (e0 : pc + 2 = pc2) (hv : L[i0]? = some (some (.long x))) (kk : zX G y R F pc2 L (.long x :: st) h n k j) : zX G y R F pc L (st) h n k j := by
  subst e0; intro p e s m args below meth c C ls H locs hl hR hS; exact lv_lload C.1 C.2.1 d (hl.2.2.2 _ _ hv) (kk p e s m args below meth c C ls H locs hl hR hS)
theorem zx_aload_n {i0 : Fin 4} {x : Nat} (d : decode y.2.1 pc = .ok (.aload_n i0, 1)) (e0 : pc + 1 = pc2) (hv : L[(i0 : Nat)]? = some (some (.ref x))) (kk : zX G y R F pc2 L (.ref x :: st) h n k j) : zX G y R F pc L (st) h n k j := by
  subst e0; intro p e s m args below meth c C ls H locs hl hR hS; exact lv_aload_n C.1 C.2.1 d rfl (hl.2.2.2 _ _ hv) (kk p e s m args below meth c C ls H locs hl hR hS)
theorem zx_aload {i0 : Nat} {x : Nat} (d : decode y.2.1 pc = .ok (.aload i0, 2)) (e0 : pc + 2 = pc2) (hv : L[i0]? = some (some (.ref x))) (kk : zX G y R F pc2 L (.ref x :: st) h n k j) : zX G y R F pc L (st) h n k j := by
  subst e0; intro p e s m args below meth c C ls H locs hl hR hS; exact lv_aload C.1 C.2.1 d (hl.2.2.2 _ _ hv) (kk p e s m args below meth c C ls H locs hl hR hS)
theorem zx_aload_nN {i0 : Fin 4} (d : decode y.2.1 pc = .ok (.aload_n i0, 1)) (e0 : pc + 1 = pc2) (hv : L[(i0 : Nat)]? = some (some .null)) (kk : zX G y R F pc2 L (.null :: st) h n k j) : zX G y R F pc L (st) h n k j := by
  subst e0; intro p e s m args below meth c C ls H locs hl hR hS; exact lv_aload_nN C.1 C.2.1 d rfl (hl.2.2.2 _ _ hv) (kk p e s m args below meth c C ls H locs hl hR hS)
theorem zx_aloadN {i0 : Nat} (d : decode y.2.1 pc = .ok (.aload i0, 2)) (e0 : pc + 2 = pc2) (hv : L[i0]? = some (some .null)) (kk : zX G y R F pc2 L (.null :: st) h n k j) : zX G y R F pc L (st) h n k j := by
  subst e0; intro p e s m args below meth c C ls H locs hl hR hS; exact lv_aloadN C.1 C.2.1 d (hl.2.2.2 _ _ hv) (kk p e s m args below meth c C ls H locs hl hR hS)
theorem zx_dup {v : Value} (d : decode y.2.1 pc = .ok (.dup, 1)) (e0 : pc + 1 = pc2) (h1 : v.category = 1) (kk : zX G y R F pc2 L (v :: v :: st) h n k j) : zX G y R F pc L (v :: st) h n k j := by
  subst e0; intro p e s m args below meth c C ls H locs hl hR hS; exact lv_dup C.1 C.2.1 d h1 (kk p e s m args below meth c C ls H locs hl hR hS)
theorem zx_pop {v : Value} (d : decode y.2.1 pc = .ok (.pop, 1)) (e0 : pc + 1 = pc2) (h1 : v.category = 1) (kk : zX G y R F pc2 L (st) h n k j) : zX G y R F pc L (v :: st) h n k j := by
  subst e0; intro p e s m args below meth c C ls H locs hl hR hS; exact lv_pop C.1 C.2.1 d h1 (kk p e s m args below meth c C ls H locs hl hR hS)
theorem zx_dup2 {v w : Value} (d : decode y.2.1 pc = .ok (.dup2, 1)) (e0 : pc + 1 = pc2) (h1 : v.category = 1) (h2 : w.category = 1) (kk : zX G y R F pc2 L (v :: w :: v :: w :: st) h n k j) : zX G y R F pc L (v :: w :: st) h n k j := by
  subst e0; intro p e s m args below meth c C ls H locs hl hR hS; exact lv_dup2_11 C.1 C.2.1 d h1 h2 (kk p e s m args below meth c C ls H locs hl hR hS)
theorem zx_dup_x1 {v w : Value} (d : decode y.2.1 pc = .ok (.dup_x1, 1)) (e0 : pc + 1 = pc2) (h1 : v.category = 1) (h2 : w.category = 1) (kk : zX G y R F pc2 L (v :: w :: v :: st) h n k j) : zX G y R F pc L (v :: w :: st) h n k j := by
  subst e0; intro p e s m args below meth c C ls H locs hl hR hS; exact lv_dup_x1 C.1 C.2.1 d h1 h2 (kk p e s m args below meth c C ls H locs hl hR hS)
theorem zx_ifnullR {x : Nat} {off : Int} (d : decode y.2.1 pc = .ok (.ifnull off, 3)) (e0 : pc + 3 = pc2)  (kk : zX G y R F pc2 L (st) h n k j) : zX G y R F pc L (.ref x :: st) h n k j := by
  subst e0; intro p e s m args below meth c C ls H locs hl hR hS; exact lv_ifnull C.1 C.2.1 d (kk p e s m args below meth c C ls H locs hl hR hS)
theorem zx_ifnonnullN {off : Int} (d : decode y.2.1 pc = .ok (.ifnonnull off, 3)) (e0 : pc + 3 = pc2)  (kk : zX G y R F pc2 L (st) h n k j) : zX G y R F pc L (.null :: st) h n k j := by
  subst e0; intro p e s m args below meth c C ls H locs hl hR hS; exact lv_ifnonnullN C.1 C.2.1 d (kk p e s m args below meth c C ls H locs hl hR hS)
theorem zx_goto  {tgt : Nat} {off : Int} (d : decode y.2.1 pc = .ok (.goto off, 3)) (ht : (pc : Int) + off = (tgt : Int)) (kk : zX G y R F tgt L st h n k j) : zX G y R F pc L (st) h n k j := by
  intro p e s m args below meth c C ls H locs hl hR hS; exact lv_goto C.1 C.2.1 d ht (kk p e s m args below meth c C ls H locs hl hR hS)
theorem zx_ifnonnullR {x : Nat} {tgt : Nat} {off : Int} (d : decode y.2.1 pc = .ok (.ifnonnull off, 3)) (ht : (pc : Int) + off = (tgt : Int)) (kk : zX G y R F tgt L st h n k j) : zX G y R F pc L (.ref x :: st) h n k j := by
  intro p e s m args below meth c C ls H locs hl hR hS; exact lv_ifnonnull C.1 C.2.1 d ht (kk p e s m args below meth c C ls H locs hl hR hS)
theorem zx_ifnullN  {tgt : Nat} {off : Int} (d : decode y.2.1 pc = .ok (.ifnull off, 3)) (ht : (pc : Int) + off = (tgt : Int)) (kk : zX G y R F tgt L st h n k j) : zX G y R F pc L (.null :: st) h n k j := by
  intro p e s m args below meth c C ls H locs hl hR hS; exact lv_ifnullN C.1 C.2.1 d ht (kk p e s m args below meth c C ls H locs hl hR hS)
theorem zx_istore_n {i0 : Fin 4} {i1 : Nat} {x : Int32} (d : decode y.2.1 pc = .ok (.istore_n i0, 1)) (e0 : pc + 1 = pc2) (hi : (i0 : Nat) = i1) (hn : i1 < y.2.2.1) (kk : zX G y R F pc2 (zx_s1 L i1 (.int x)) st h n k j) : zX G y R F pc L (.int x :: st) h n k j := by
  subst e0; intro p e s m args below meth c C ls H locs hl hR hS; exact lv_istore_n C.1 C.2.1 d hi hl.has hn rfl (fun ls2 h2 => kk p e s m args below meth c C ls2 H locs (hl.s1 h2) hR hS)
theorem zx_istore {i1 : Nat} {x : Int32} (d : decode y.2.1 pc = .ok (.istore i1, 2)) (e0 : pc + 2 = pc2) (hn : i1 < y.2.2.1) (kk : zX G y R F pc2 (zx_s1 L i1 (.int x)) st h n k j) : zX G y R F pc L (.int x :: st) h n k j := by
  subst e0; intro p e s m args below meth c C ls H locs hl hR hS; exact lv_istore C.1 C.2.1 d hl.has hn rfl (fun ls2 h2 => kk p e s m args below meth c C ls2 H locs (hl.s1 h2) hR hS)
theorem zx_astore_n {i0 : Fin 4} {i1 : Nat} {x : Nat} (d : decode y.2.1 pc = .ok (.astore_n i0, 1)) (e0 : pc + 1 = pc2) (hi : (i0 : Nat) = i1) (hn : i1 < y.2.2.1) (kk : zX G y R F pc2 (zx_s1 L i1 (.ref x)) st h n k j) : zX G y R F pc L (.ref x :: st) h n k j := by
  subst e0; intro p e s m args below meth c C ls H locs hl hR hS; exact lv_astore_n C.1 C.2.1 d hi hl.has hn rfl (fun ls2 h2 => kk p e s m args below meth c C ls2 H locs (hl.s1 h2) hR hS)
theorem zx_astore {i1 : Nat} {x : Nat} (d : decode y.2.1 pc = .ok (.astore i1, 2)) (e0 : pc + 2 = pc2) (hn : i1 < y.2.2.1) (kk : zX G y R F pc2 (zx_s1 L i1 (.ref x)) st h n k j) : zX G y R F pc L (.ref x :: st) h n k j := by
  subst e0; intro p e s m args below meth c C ls H locs hl hR hS; exact lv_astore C.1 C.2.1 d hl.has hn rfl (fun ls2 h2 => kk p e s m args below meth c C ls2 H locs (hl.s1 h2) hR hS)
theorem zx_astore_nN {i0 : Fin 4} {i1 : Nat}  (d : decode y.2.1 pc = .ok (.astore_n i0, 1)) (e0 : pc + 1 = pc2) (hi : (i0 : Nat) = i1) (hn : i1 < y.2.2.1) (kk : zX G y R F pc2 (zx_s1 L i1 (.null)) st h n k j) : zX G y R F pc L (.null :: st) h n k j := by
  subst e0; intro p e s m args below meth c C ls H locs hl hR hS; exact lv_astore_nN C.1 C.2.1 d hi hl.has hn rfl (fun ls2 h2 => kk p e s m args below meth c C ls2 H locs (hl.s1 h2) hR hS)
theorem zx_astoreN {i1 : Nat}  (d : decode y.2.1 pc = .ok (.astore i1, 2)) (e0 : pc + 2 = pc2) (hn : i1 < y.2.2.1) (kk : zX G y R F pc2 (zx_s1 L i1 (.null)) st h n k j) : zX G y R F pc L (.null :: st) h n k j := by
  subst e0; intro p e s m args below meth c C ls H locs hl hR hS; exact lv_astoreN C.1 C.2.1 d hl.has hn rfl (fun ls2 h2 => kk p e s m args below meth c C ls2 H locs (hl.s1 h2) hR hS)
theorem zx_lstore_n {i0 : Fin 4} {i1 : Nat} {x : Int64} (d : decode y.2.1 pc = .ok (.lstore_n i0, 1)) (e0 : pc + 1 = pc2) (hi : (i0 : Nat) = i1) (hn : i1 + 1 < y.2.2.1) (kk : zX G y R F pc2 (zx_s2 L i1 (.long x)) st h n k j) : zX G y R F pc L (.long x :: st) h n k j := by
  subst e0; intro p e s m args below meth c C ls H locs hl hR hS; exact lv_lstore_n C.1 C.2.1 d hi hl.has hn rfl (fun ls2 h2 => kk p e s m args below meth c C ls2 H locs (hl.s2 h2) hR hS)
theorem zx_lstore {i1 : Nat} {x : Int64} (d : decode y.2.1 pc = .ok (.lstore i1, 2)) (e0 : pc + 2 = pc2) (hn : i1 + 1 < y.2.2.1) (kk : zX G y R F pc2 (zx_s2 L i1 (.long x)) st h n k j) : zX G y R F pc L (.long x :: st) h n k j := by
  subst e0; intro p e s m args below meth c C ls H locs hl hR hS; exact lv_lstore C.1 C.2.1 d hl.has hn rfl (fun ls2 h2 => kk p e s m args below meth c C ls2 H locs (hl.s2 h2) hR hS)
theorem zx_iinc {i1 : Nat} {c0 : Int} {x v : Int32} (d : decode y.2.1 pc = .ok (.iinc i1 c0, 3)) (e0 : pc + 3 = pc2) (hv : L[i1]? = some (some (.int x))) (hw : x + Int32.ofInt c0 = v) (hn : i1 < y.2.2.1) (kk : zX G y R F pc2 (zx_s1 L i1 (.int v)) st h n k j) : zX G y R F pc L st h n k j := by
  subst e0; intro p e s m args below meth c C ls H locs hl hR hS
  obtain ⟨kx, hkx⟩ := List.getElem?_of_mem (zx_ps_mem.mpr hv)
  exact lv_iinc C.1 C.2.1 d hl.has hkx hw hn rfl (fun ls2 h2 => kk p e s m args below meth c C ls2 H locs (hl.s1 h2) hR hS)
theorem zx_if_eq {x : Int32} {tgt : Nat} {off : Int} (d : decode y.2.1 pc = .ok (.ifCond .eq off, 3)) (e0 : pc + 3 = pc2) (ht : (pc : Int) + off = (tgt : Int)) (kt : x = 0 → zX G y R F tgt L st h n k j) (kf : ¬ (x = 0) → zX G y R F pc2 L st h n k j) : zX G y R F pc L (.int x :: st) h n k j := by
  subst e0; intro p e s m args below meth c C ls H locs hl hR hS; exact lv_if_eq C.1 C.2.1 d ht (fun q => kt q p e s m args below meth c C ls H locs hl hR hS) (fun q => kf q p e s m args below meth c C ls H locs hl hR hS)
theorem zx_if_ne {x : Int32} {tgt : Nat} {off : Int} (d : decode y.2.1 pc = .ok (.ifCond .ne off, 3)) (e0 : pc + 3 = pc2) (ht : (pc : Int) + off = (tgt : Int)) (kt : x ≠ 0 → zX G y R F tgt L st h n k j) (kf : x = 0 → zX G y R F pc2 L st h n k j) : zX G y R F pc L (.int x :: st) h n k j := by
  subst e0; intro p e s m args below meth c C ls H locs hl hR hS; exact lv_if_ne C.1 C.2.1 d ht (fun q => kt q p e s m args below meth c C ls H locs hl hR hS) (fun q => kf q p e s m args below meth c C ls H locs hl hR hS)
theorem zx_if_lt {x : Int32} {tgt : Nat} {off : Int} (d : decode y.2.1 pc = .ok (.ifCond .lt off, 3)) (e0 : pc + 3 = pc2) (ht : (pc : Int) + off = (tgt : Int)) (kt : x < 0 → zX G y R F tgt L st h n k j) (kf : ¬ (x < 0) → zX G y R F pc2 L st h n k j) : zX G y R F pc L (.int x :: st) h n k j := by
  subst e0; intro p e s m args below meth c C ls H locs hl hR hS; exact lv_if_lt C.1 C.2.1 d ht (fun q => kt q p e s m args below meth c C ls H locs hl hR hS) (fun q => kf q p e s m args below meth c C ls H locs hl hR hS)
theorem zx_if_ge {x : Int32} {tgt : Nat} {off : Int} (d : decode y.2.1 pc = .ok (.ifCond .ge off, 3)) (e0 : pc + 3 = pc2) (ht : (pc : Int) + off = (tgt : Int)) (kt : 0 ≤ x → zX G y R F tgt L st h n k j) (kf : ¬ (0 ≤ x) → zX G y R F pc2 L st h n k j) : zX G y R F pc L (.int x :: st) h n k j := by
  subst e0; intro p e s m args below meth c C ls H locs hl hR hS; exact lv_if_ge C.1 C.2.1 d ht (fun q => kt q p e s m args below meth c C ls H locs hl hR hS) (fun q => kf q p e s m args below meth c C ls H locs hl hR hS)
theorem zx_if_gt {x : Int32} {tgt : Nat} {off : Int} (d : decode y.2.1 pc = .ok (.ifCond .gt off, 3)) (e0 : pc + 3 = pc2) (ht : (pc : Int) + off = (tgt : Int)) (kt : 0 < x → zX G y R F tgt L st h n k j) (kf : ¬ (0 < x) → zX G y R F pc2 L st h n k j) : zX G y R F pc L (.int x :: st) h n k j := by
  subst e0; intro p e s m args below meth c C ls H locs hl hR hS; exact lv_if_gt C.1 C.2.1 d ht (fun q => kt q p e s m args below meth c C ls H locs hl hR hS) (fun q => kf q p e s m args below meth c C ls H locs hl hR hS)
theorem zx_if_le {x : Int32} {tgt : Nat} {off : Int} (d : decode y.2.1 pc = .ok (.ifCond .le off, 3)) (e0 : pc + 3 = pc2) (ht : (pc : Int) + off = (tgt : Int)) (kt : x ≤ 0 → zX G y R F tgt L st h n k j) (kf : ¬ (x ≤ 0) → zX G y R F pc2 L st h n k j) : zX G y R F pc L (.int x :: st) h n k j := by
  subst e0; intro p e s m args below meth c C ls H locs hl hR hS; exact lv_if_le C.1 C.2.1 d ht (fun q => kt q p e s m args below meth c C ls H locs hl hR hS) (fun q => kf q p e s m args below meth c C ls H locs hl hR hS)
theorem zx_icmp_eq {a b : Int32} {tgt : Nat} {off : Int} (d : decode y.2.1 pc = .ok (.if_icmp .eq off, 3)) (e0 : pc + 3 = pc2) (ht : (pc : Int) + off = (tgt : Int)) (kt : a = b → zX G y R F tgt L st h n k j) (kf : ¬ (a = b) → zX G y R F pc2 L st h n k j) : zX G y R F pc L (.int b :: .int a :: st) h n k j := by
  subst e0; intro p e s m args below meth c C ls H locs hl hR hS; exact lv_icmp_eq C.1 C.2.1 d ht (fun q => kt q p e s m args below meth c C ls H locs hl hR hS) (fun q => kf q p e s m args below meth c C ls H locs hl hR hS)
theorem zx_icmp_ne {a b : Int32} {tgt : Nat} {off : Int} (d : decode y.2.1 pc = .ok (.if_icmp .ne off, 3)) (e0 : pc + 3 = pc2) (ht : (pc : Int) + off = (tgt : Int)) (kt : a ≠ b → zX G y R F tgt L st h n k j) (kf : a = b → zX G y R F pc2 L st h n k j) : zX G y R F pc L (.int b :: .int a :: st) h n k j := by
  subst e0; intro p e s m args below meth c C ls H locs hl hR hS; exact lv_icmp_ne C.1 C.2.1 d ht (fun q => kt q p e s m args below meth c C ls H locs hl hR hS) (fun q => kf q p e s m args below meth c C ls H locs hl hR hS)
theorem zx_icmp_lt {a b : Int32} {tgt : Nat} {off : Int} (d : decode y.2.1 pc = .ok (.if_icmp .lt off, 3)) (e0 : pc + 3 = pc2) (ht : (pc : Int) + off = (tgt : Int)) (kt : a < b → zX G y R F tgt L st h n k j) (kf : ¬ (a < b) → zX G y R F pc2 L st h n k j) : zX G y R F pc L (.int b :: .int a :: st) h n k j := by
  subst e0; intro p e s m args below meth c C ls H locs hl hR hS; exact lv_icmp_lt C.1 C.2.1 d ht (fun q => kt q p e s m args below meth c C ls H locs hl hR hS) (fun q => kf q p e s m args below meth c C ls H locs hl hR hS)
theorem zx_icmp_ge {a b : Int32} {tgt : Nat} {off : Int} (d : decode y.2.1 pc = .ok (.if_icmp .ge off, 3)) (e0 : pc + 3 = pc2) (ht : (pc : Int) + off = (tgt : Int)) (kt : b ≤ a → zX G y R F tgt L st h n k j) (kf : ¬ (b ≤ a) → zX G y R F pc2 L st h n k j) : zX G y R F pc L (.int b :: .int a :: st) h n k j := by
  subst e0; intro p e s m args below meth c C ls H locs hl hR hS; exact lv_icmp_ge C.1 C.2.1 d ht (fun q => kt q p e s m args below meth c C ls H locs hl hR hS) (fun q => kf q p e s m args below meth c C ls H locs hl hR hS)
theorem zx_icmp_gt {a b : Int32} {tgt : Nat} {off : Int} (d : decode y.2.1 pc = .ok (.if_icmp .gt off, 3)) (e0 : pc + 3 = pc2) (ht : (pc : Int) + off = (tgt : Int)) (kt : b < a → zX G y R F tgt L st h n k j) (kf : ¬ (b < a) → zX G y R F pc2 L st h n k j) : zX G y R F pc L (.int b :: .int a :: st) h n k j := by
  subst e0; intro p e s m args below meth c C ls H locs hl hR hS; exact lv_icmp_gt C.1 C.2.1 d ht (fun q => kt q p e s m args below meth c C ls H locs hl hR hS) (fun q => kf q p e s m args below meth c C ls H locs hl hR hS)
theorem zx_icmp_le {a b : Int32} {tgt : Nat} {off : Int} (d : decode y.2.1 pc = .ok (.if_icmp .le off, 3)) (e0 : pc + 3 = pc2) (ht : (pc : Int) + off = (tgt : Int)) (kt : a ≤ b → zX G y R F tgt L st h n k j) (kf : ¬ (a ≤ b) → zX G y R F pc2 L st h n k j) : zX G y R F pc L (.int b :: .int a :: st) h n k j := by
  subst e0; intro p e s m args below meth c C ls H locs hl hR hS; exact lv_icmp_le C.1 C.2.1 d ht (fun q => kt q p e s m args below meth c C ls H locs hl hR hS) (fun q => kf q p e s m args below meth c C ls H locs hl hR hS)
theorem zx_tsw_out {x : Int32} {tgt len : Nat} {dflt lo hi : Int} {offs : Array Int} (d : decode y.2.1 pc = .ok (.tableswitch dflt lo hi offs, len)) (hx : x.toInt < lo ∨ hi < x.toInt) (ht : (pc : Int) + dflt = (tgt : Int)) (kk : zX G y R F tgt L st h n k j) : zX G y R F pc L (.int x :: st) h n k j := by
  intro p e s m args below meth c C ls H locs hl hR hS; exact lv_tableOut C.1 C.2.1 d hx ht (kk p e s m args below meth c C ls H locs hl hR hS)
theorem zx_tsw_in {x : Int32} {tgt len : Nat} {dflt lo hi off : Int} {offs : Array Int} (d : decode y.2.1 pc = .ok (.tableswitch dflt lo hi offs, len)) (h1 : ¬ x.toInt < lo) (h2 : ¬ hi < x.toInt) (ho : offs[(x.toInt - lo).toNat]? = some off) (ht : (pc : Int) + off = (tgt : Int)) (kk : zX G y R F tgt L st h n k j) : zX G y R F pc L (.int x :: st) h n k j := by
  intro p e s m args below meth c C ls H locs hl hR hS; exact lv_tableIn C.1 C.2.1 d h1 h2 ho ht (kk p e s m args below meth c C ls H locs hl hR hS)
/-- what a field's site says: class number, place, type, final; zx_fr: to read it -/
def zx_fr (G : zx_G) (own : String) (ix ci k : Nat) : Prop := ∃ (C0 : String) (T : u_T) (N : Nat), (zx_gC G)[ci]? = some (C0, T, N) ∧ k < N ∧ (∀ w ∈ u_ws C0 T N, w ∈ zx_gW G) ∧ Cond.fieldLink own ix (T k).1 (T k).2.1 (T k).2.2.1 ∈ zx_gW G
def zx_f (G : zx_G) (own : String) (ix ci k : Nat) (ty : FieldType) (fin : Bool) : Prop := ∃ (C0 : String) (T : u_T) (N : Nat) (ty0 : Nat → FieldType), (zx_gC G)[ci]? = some (C0, T, N) ∧ k < N ∧ (∀ w ∈ u_ws C0 T N, w ∈ zx_gW G) ∧ (∀ q, q < N → parseFieldDescriptor (T q).2.2.1 = some (ty0 q)) ∧ (∀ a, a < N → ∀ b, b < N → a ≠ b → (T a).2.1 ≠ (T b).2.1) ∧ parseFieldDescriptor (T k).2.2.1 = some ty ∧ (T k).2.2.2 = fin ∧ (fin = true → (T k).1 = own) ∧ Cond.fieldLink own ix (T k).1 (T k).2.1 (T k).2.2.1 ∈ zx_gW G
theorem zx_getf {ix ci i0 a : Nat} {fs : List Value} {v : Value} (f : zx_fr G y.1.cls ix ci i0) (d : decode y.2.1 pc = .ok (.getfield ix, 3)) (e0 : pc + 3 = pc2) (he : h a = some (.inr (ci, fs))) (hv : fs[i0]? = some v) (kk : zX G y R F pc2 L (v :: st) h n k j) : zX G y R F pc L (.ref a :: st) h n k j := by
  subst e0; intro p e s m args below meth c C ls H locs hl hR hS
  have hx := C.1; have hb := C.2.1; have ho := C.2.2.2.1; have hts := C.2.2.2.2.1; have hK := C.2.2.2.2.2.1
  obtain ⟨C0, T, N, g1, g2, g3, g9⟩ := f
  exact va_get hx hb hts g3 ho hK (hR.get he) 0 rfl g1 i0 g2 (hts _ g9) (fun _ q => q) hv d (kk p e s m args below meth c C ls H locs hl hR hS)
theorem zx_putf {ix ci i0 a : Nat} {ty : FieldType} {fs : List Value} {v : Value} {h2 : zx_H} (f : zx_f G y.1.cls ix ci i0 ty false) (d : decode y.2.1 pc = .ok (.putfield ix, 3)) (e0 : pc + 3 = pc2) (he : h a = some (.inr (ci, fs))) (hn : narrow ty v = v) (hf : fits ty v = true) (hlen : i0 < fs.length) (e2 : va_up h a (some (.inr (ci, fs.set i0 v))) = h2) (kk : zX G y R F pc2 L st h2 n k j) : zX G y R F pc L (v :: .ref a :: st) h n k j := by
  subst e0; subst e2; intro p e s m args below meth c C ls H locs hl hR hS
  have hx := C.1; have hb := C.2.1; have ho := C.2.2.2.1; have hts := C.2.2.2.2.1; have hK := C.2.2.2.2.2.1
  obtain ⟨C0, T, N, ty0, g1, g2, hin, g4, g5, g6, g7, g8, g9⟩ := f
  have hap := va_apart (own := y.1.cls) hts hin ty0 g4 g5 hK g1
  obtain ⟨hba, r, h1, cell, q1, q2, q3, q4⟩ := hR.2.1 a _ he
  have hr : r = (C0, T, N) := Option.some.inj (h1.symm.trans g1)
  subst hr
  obtain ⟨hS2, hfc, kC, hkC, hkind⟩ := hK.1 ci _ g1
  obtain ⟨cf, kf, fi, fd, hi, hsl⟩ := hS2 i0 g2
  have hlay := hts _ (hin _ (u_in_lay g2))
  unfold u_lay at hlay
  rw [if_neg (by rw [g7]; decide)] at hlay
  have hst := (u_facts hfc hkC (u_lays hts hin g2) hi).1
  have h6 := u_store hfc hkC hkind hlay hi g6 hn hf
  refine W.putK hx hb (f := fd) ⟨ho, hts _ g9, ⟨_, _, _, hi⟩, hst⟩ (by rw [q2]; exact h6) q1 q3 (by rw [hsl]; exact k2_hasslot (q4 i0 g2)) rfl rfl d fun H' e1 e2 e3 => ?_
  rw [hsl] at e1 ⊢
  exact kk p e s m args below meth c C ls H' _ hl (hR.set he ⟨_, g1, t_OB.to (V := updV (vp_V fs) i0 v) ⟨_, e1, q2, q3, t_set q4 hap g2 v⟩ (fun x _ => vp_updV_set hlen v x)⟩ e2 e3) (hS.put e2 e3 hba)
/-- a final field, in its class's constructor -/
theorem zx_putF {ix ci i0 a : Nat} {ty : FieldType} {fs : List Value} {v : Value} {h2 : zx_H} (f : zx_f G y.1.cls ix ci i0 ty true) (hini : y.1.name = "<init>") (d : decode y.2.1 pc = .ok (.putfield ix, 3)) (e0 : pc + 3 = pc2) (he : h a = some (.inr (ci, fs))) (hn : narrow ty v = v) (hf : fits ty v = true) (hlen : i0 < fs.length) (e2 : va_up h a (some (.inr (ci, fs.set i0 v))) = h2) (kk : zX G y R F pc2 L st h2 n k j) : zX G y R F pc L (v :: .ref a :: st) h n k j := by
  subst e0; subst e2; intro p e s m args below meth c C ls H locs hl hR hS
  have hx := C.1; have hb := C.2.1; have ho := C.2.2.2.1; have hts := C.2.2.2.2.1; have hK := C.2.2.2.2.2.1
  have hnm := C.2.2.2.2.2.2.2.2.2.2.2.1
  obtain ⟨C0, T, N, ty0, g1, g2, hin, g4, g5, g6, g7, g8, g9⟩ := f
  have hap := va_apart (own := y.1.cls) hts hin ty0 g4 g5 hK g1
  obtain ⟨hba, r, h1, cell, q1, q2, q3, q4⟩ := hR.2.1 a _ he
  have hr : r = (C0, T, N) := Option.some.inj (h1.symm.trans g1)
  subst hr
  obtain ⟨hS2, hfc, kC, hkC, hkind⟩ := hK.1 ci _ g1
  obtain ⟨cf, kf, fi, fd, hi, hsl⟩ := hS2 i0 g2
  have hlay := hts _ (hin _ (u_in_lay g2))
  unfold u_lay at hlay
  rw [if_pos g7] at hlay
  have hst := (u_facts hfc hkC (u_lays hts hin g2) hi).1
  have hcf : m.cls = cf := by
    obtain ⟨_, _, c', _, _, _, -, -, hf', -, -, -, hown2, -⟩ := Cond.laysFinal_spec hlay
    have e1 : c' = cf := by have := hi.symm.trans hf'; simp at this; exact this.1.symm
    rw [g8 rfl] at hown2
    rw [← e1]; exact Option.some.inj (ho.symm.trans hown2)
  have h6 := u_fits hfc hkC hkind (Or.inr hlay) hi g6 hn hf
  refine W.putFinK hx hb ho (hts _ g9) hi hst hcf (hnm.trans hini) (by rw [q2]; exact h6) q1 q3 (by rw [hsl]; exact k2_hasslot (q4 i0 g2)) rfl rfl d fun H' e1 e2 e3 => ?_
  rw [hsl] at e1 ⊢
  exact kk p e s m args below meth c C ls H' _ hl (hR.set he ⟨_, g1, t_OB.to (V := updV (vp_V fs) i0 v) ⟨_, e1, q2, q3, t_set q4 hap g2 v⟩ (fun x _ => vp_updV_set hlen v x)⟩ e2 e3) (hS.put e2 e3 hba)
theorem zx_iald {a t0 N0 : Nat} {cA : ClassId} {f : Nat → Int32} {i : Int32} (d : decode y.2.1 pc = .ok (.iaload, 1)) (e0 : pc + 1 = pc2) (he : h a = some (.inl (cA, N0, .inl f))) (ht : (zx_gT G)[t0]? = some (cA, .int)) (hin : vp_in i N0) (kk : zX G y R F pc2 L (.int (f i.toNatClampNeg) :: st) h n k j) : zX G y R F pc L (.int i :: .ref a :: st) h n k j := by
  subst e0; intro p e s m args below meth c C ls H locs hl hR hS; exact va_iald C.1 C.2.1 C.2.2.2.2.2.1 (hR.get he) 0 t0 rfl ht hin d (kk p e s m args below meth c C ls H locs hl hR hS)
theorem zx_bald {a t0 N0 : Nat} {cA : ClassId} {f : Nat → Int32} {i : Int32} (d : decode y.2.1 pc = .ok (.baload, 1)) (e0 : pc + 1 = pc2) (he : h a = some (.inl (cA, N0, .inl f))) (ht : (zx_gT G)[t0]? = some (cA, .byte)) (hin : vp_in i N0) (kk : zX G y R F pc2 L (.int (f i.toNatClampNeg) :: st) h n k j) : zX G y R F pc L (.int i :: .ref a :: st) h n k j := by
  subst e0; intro p e s m args below meth c C ls H locs hl hR hS; exact va_bald C.1 C.2.1 C.2.2.2.2.2.1 (hR.get he) 0 t0 rfl ht hin d (kk p e s m args below meth c C ls H locs hl hR hS)
theorem zx_zald {a t0 N0 : Nat} {cA : ClassId} {f : Nat → Int32} {i : Int32} (d : decode y.2.1 pc = .ok (.baload, 1)) (e0 : pc + 1 = pc2) (he : h a = some (.inl (cA, N0, .inl f))) (ht : (zx_gT G)[t0]? = some (cA, .boolean)) (hin : vp_in i N0) (kk : zX G y R F pc2 L (.int (f i.toNatClampNeg) :: st) h n k j) : zX G y R F pc L (.int i :: .ref a :: st) h n k j := by
  subst e0; intro p e s m args below meth c C ls H locs hl hR hS; exact va_zald C.1 C.2.1 C.2.2.2.2.2.1 (hR.get he) 0 t0 rfl ht hin d (kk p e s m args below meth c C ls H locs hl hR hS)
theorem zx_lald {a t0 N0 : Nat} {cA : ClassId} {f : Nat → Int64} {i : Int32} (d : decode y.2.1 pc = .ok (.laload, 1)) (e0 : pc + 1 = pc2) (he : h a = some (.inl (cA, N0, .inr (.inl f)))) (ht : (zx_gT G)[t0]? = some (cA, .long)) (hin : vp_in i N0) (kk : zX G y R F pc2 L (.long (f i.toNatClampNeg) :: st) h n k j) : zX G y R F pc L (.int i :: .ref a :: st) h n k j := by
  subst e0; intro p e s m args below meth c C ls H locs hl hR hS; exact va_lald C.1 C.2.1 C.2.2.2.2.2.1 (hR.get he) 0 t0 rfl ht hin d (kk p e s m args below meth c C ls H locs hl hR hS)
theorem zx_aald {a t0 N0 x : Nat} {cA : ClassId} {f : Nat → Option Nat} {C0 : String} {i : Int32} (d : decode y.2.1 pc = .ok (.aaload, 1)) (e0 : pc + 1 = pc2) (he : h a = some (.inl (cA, N0, .inr (.inr (.inr (.inr f)))))) (ht : (zx_gT G)[t0]? = some (cA, .object C0)) (hin : vp_in i N0) (hx : f i.toNatClampNeg = some x) (kk : zX G y R F pc2 L (.ref x :: st) h n k j) : zX G y R F pc L (.int i :: .ref a :: st) h n k j := by
  subst e0; intro p e s m args below meth c C ls H locs hl hR hS
  have kk' := kk p e s m args below meth c C ls H locs hl hR hS
  refine va_aldq C.1 C.2.1 C.2.2.2.2.2.1 (hR.get he) 0 t0 rfl ht hin d ?_
  rw [hx]
  exact kk'
theorem zx_alen {a t0 : Nat} {cA : ClassId} {x : vp_A} {ty : FieldType} {v : Int32} (d : decode y.2.1 pc = .ok (.arraylength, 1)) (e0 : pc + 1 = pc2) (he : h a = some (.inl (cA, x))) (ht : (zx_gT G)[t0]? = some (cA, ty)) (hv : Int32.ofNat x.1 = v) (kk : zX G y R F pc2 L (.int v :: st) h n k j) : zX G y R F pc L (.ref a :: st) h n k j := by
  subst e0; intro p e s m args below meth c C ls H locs hl hR hS; exact va_alen C.1 C.2.1 C.2.2.2.2.2.1 (hR.get he) 0 t0 rfl ht hv d (kk p e s m args below meth c C ls H locs hl hR hS)
theorem zx_iast {a t0 N0 : Nat} {cA : ClassId} {f : Nat → Int32} {i : Int32} {x : Int32} {h2 : zx_H} (d : decode y.2.1 pc = .ok (.iastore, 1)) (e0 : pc + 1 = pc2) (he : h a = some (.inl (cA, N0, .inl (f)))) (ht : (zx_gT G)[t0]? = some (cA, .int)) (hin : vp_in i N0) (e2 : va_up h a (some (.inl (cA, N0, .inl (upd f i.toNatClampNeg x)))) = h2) (kk : zX G y R F pc2 L st h2 n k j) : zX G y R F pc L (.int x :: .int i :: .ref a :: st) h n k j := by
  subst e0; subst e2; intro p e s m args below meth c C ls H locs hl hR hS
  have hK := C.2.2.2.2.2.1
  obtain ⟨hba, hat⟩ := hR.2.1 a _ he
  refine W.iast C.1 C.2.1 hat ((hK.2 t0 _ ht).1 N0 (fun q => .int (f q))) (fun q => by cases q) (by show ¬ (i < 0 ∨ (arrV _ _ _).slots.size ≤ _); rw [arrV_size]; exact hin) rfl rfl d fun H1 e1 z oq => ?_
  refine kk p e s m args below meth c C ls H1 _ hl (hR.set he ?_ z oq) (hS.put z oq hba)
  show H1[a]? = some (vp_cell _ _)
  rw [e1]
  rw [vp_cell_i, vp_cell_i, arrV_store]
  congr 2
  funext q
  by_cases hq : q = i.toNatClampNeg
  · subst hq
    simp [updV, upd]
  · simp [updV, upd, hq]
theorem zx_bast {a t0 N0 : Nat} {cA : ClassId} {f : Nat → Int32} {i : Int32} {x : Int32} {h2 : zx_H} (d : decode y.2.1 pc = .ok (.bastore, 1)) (e0 : pc + 1 = pc2) (he : h a = some (.inl (cA, N0, .inl (f)))) (ht : (zx_gT G)[t0]? = some (cA, .byte)) (hin : vp_in i N0) (e2 : va_up h a (some (.inl (cA, N0, .inl (upd f i.toNatClampNeg (vp_nar .byte x))))) = h2) (kk : zX G y R F pc2 L st h2 n k j) : zX G y R F pc L (.int x :: .int i :: .ref a :: st) h n k j := by
  subst e0; subst e2; intro p e s m args below meth c C ls H locs hl hR hS
  have hK := C.2.2.2.2.2.1
  obtain ⟨hba, hat⟩ := hR.2.1 a _ he
  refine W.bast C.1 C.2.1 hat ((hK.2 t0 _ ht).1 N0 (fun q => .int (f q))) (fun q => by cases q) (by show ¬ (i < 0 ∨ (arrV _ _ _).slots.size ≤ _); rw [arrV_size]; exact hin) rfl rfl d fun H1 e1 z oq => ?_
  refine kk p e s m args below meth c C ls H1 _ hl (hR.set he ?_ z oq) (hS.put z oq hba)
  show H1[a]? = some (vp_cell _ _)
  rw [e1]
  rw [vp_cell_i, vp_cell_i, arrV_store]
  congr 2
  funext q
  by_cases hq : q = i.toNatClampNeg
  · subst hq
    simp [updV, upd, vp_nar]; try rfl
  · simp [updV, upd, vp_nar, hq]
theorem zx_zast {a t0 N0 : Nat} {cA : ClassId} {f : Nat → Int32} {i : Int32} {x : Int32} {h2 : zx_H} (d : decode y.2.1 pc = .ok (.bastore, 1)) (e0 : pc + 1 = pc2) (he : h a = some (.inl (cA, N0, .inl (f)))) (ht : (zx_gT G)[t0]? = some (cA, .boolean)) (hin : vp_in i N0) (e2 : va_up h a (some (.inl (cA, N0, .inl (upd f i.toNatClampNeg (vp_nar .boolean x))))) = h2) (kk : zX G y R F pc2 L st h2 n k j) : zX G y R F pc L (.int x :: .int i :: .ref a :: st) h n k j := by
  subst e0; subst e2; intro p e s m args below meth c C ls H locs hl hR hS
  have hK := C.2.2.2.2.2.1
  obtain ⟨hba, hat⟩ := hR.2.1 a _ he
  refine W.zast C.1 C.2.1 hat ((hK.2 t0 _ ht).1 N0 (fun q => .int (f q))) (fun q => by cases q) (by show ¬ (i < 0 ∨ (arrV _ _ _).slots.size ≤ _); rw [arrV_size]; exact hin) rfl rfl d fun H1 e1 z oq => ?_
  refine kk p e s m args below meth c C ls H1 _ hl (hR.set he ?_ z oq) (hS.put z oq hba)
  show H1[a]? = some (vp_cell _ _)
  rw [e1]
  rw [vp_cell_i, vp_cell_i, arrV_store]
  congr 2
  funext q
  by_cases hq : q = i.toNatClampNeg
  · subst hq
    simp [updV, upd, vp_nar]; try rfl
  · simp [updV, upd, vp_nar, hq]
theorem zx_last {a t0 N0 : Nat} {cA : ClassId} {f : Nat → Int64} {i : Int32} {x : Int64} {h2 : zx_H} (d : decode y.2.1 pc = .ok (.lastore, 1)) (e0 : pc + 1 = pc2) (he : h a = some (.inl (cA, N0, .inr (.inl (f))))) (ht : (zx_gT G)[t0]? = some (cA, .long)) (hin : vp_in i N0) (e2 : va_up h a (some (.inl (cA, N0, .inr (.inl (vp_updL f i.toNatClampNeg x))))) = h2) (kk : zX G y R F pc2 L st h2 n k j) : zX G y R F pc L (.long x :: .int i :: .ref a :: st) h n k j := by
  subst e0; subst e2; intro p e s m args below meth c C ls H locs hl hR hS
  have hK := C.2.2.2.2.2.1
  obtain ⟨hba, hat⟩ := hR.2.1 a _ he
  refine W.last C.1 C.2.1 hat ((hK.2 t0 _ ht).1 N0 (fun q => .long (f q))) (fun q => by cases q) (by show ¬ (i < 0 ∨ (arrV _ _ _).slots.size ≤ _); rw [arrV_size]; exact hin) rfl rfl d fun H1 e1 z oq => ?_
  refine kk p e s m args below meth c C ls H1 _ hl (hR.set he ?_ z oq) (hS.put z oq hba)
  show H1[a]? = some (vp_cell _ _)
  rw [e1]
  rw [vp_cell_l, vp_cell_l, arrV_store]
  congr 2
  funext q
  by_cases hq : q = i.toNatClampNeg
  · subst hq
    simp [updV, vp_updL]
  · simp [updV, vp_updL, hq]
theorem zx_aast {a t0 N0 ci v : Nat} {cA : ClassId} {f : Nat → Option Nat} {r : vw_C} {vs : List Value} {i : Int32} {h2 : zx_H} (d : decode y.2.1 pc = .ok (.aastore, 1)) (e0 : pc + 1 = pc2) (he : h a = some (.inl (cA, N0, .inr (.inr (.inr (.inr f)))))) (ht : (zx_gT G)[t0]? = some (cA, .object r.1)) (hv : h v = some (.inr (ci, vs))) (hc : (zx_gC G)[ci]? = some r) (hin : vp_in i N0) (e2 : va_up h a (some (.inl (cA, N0, .inr (.inr (.inr (.inr (va_up f i.toNatClampNeg (some v)))))))) = h2) (kk : zX G y R F pc2 L st h2 n k j) : zX G y R F pc L (.ref v :: .int i :: .ref a :: st) h n k j := by
  subst e0; subst e2; intro p e s m args below meth c C ls H locs hl hR hS
  have hK := C.2.2.2.2.2.1
  obtain ⟨hba, hat⟩ := hR.2.1 a _ he
  have hlt : i.toNatClampNeg < N0 := Nat.not_le.mp fun q => hin (Or.inr q)
  have h0 : ¬ i < 0 := fun q => hin (Or.inl q)
  obtain ⟨-, r', hr', cellV, g1, g2, g3, -⟩ := hR.2.1 v _ hv
  have hcls := (hK.1 ci r hc).2
  obtain ⟨kA, comp, k1, k2, k3, -⟩ := (hK.2 t0 _ ht).2
  have hcomp : comp = (zx_gD G).1 ci := Option.some.inj (k3.symm.trans hcls.1)
  subst hcomp
  obtain ⟨kC, hkC, -⟩ := hcls.2
  refine W.aast C.1 C.2.1 hat (fun q h => by cases h) (fun h => by cases h) k1 k2 rfl hkC ⟨h0, by show _ < (arrV _ _ _).slots.size; rw [arrV_size]; exact hlt⟩ g1 (fun q h => by rw [g3] at h; cases h) (by rw [g2]; exact hkC) (by rw [g2]; exact va_assign hcls) rfl rfl d fun H1 e1 z oq => ?_
  refine kk p e s m args below meth c C ls H1 _ hl (hR.set he ?_ z oq) (hS.put z oq hba)
  show H1[a]? = some (vp_cell _ _)
  rw [e1]
  rw [vp_cell_q, vp_cell_q, arrV_store]
  congr 2
  funext q
  by_cases hq : q = i.toNatClampNeg
  · subst hq
    simp [updV, va_up, va_rf]
  · simp [updV, va_up, hq]
theorem zx_newa {at0 : ArrayType} {t0 N0 : Nat} {cA : ClassId} {ty : FieldType} {a0 : vp_A} {i : Int32} (d : decode y.2.1 pc = .ok (.newarray at0, 2)) (e0 : pc + 2 = pc2) (hw : Cond.arrayClass ty ∈ zx_gW G) (hty : newarray.typeOf at0 = ty) (ht : (zx_gT G)[t0]? = some (cA, ty)) (hpr : ∀ C0, ty ≠ .object C0) (ha : ∀ cA : ClassId, vp_cell cA a0 = arrV cA N0 (fun _ => defaultValue ty)) (hn0 : ¬ i < 0) (hN : i.toNatClampNeg = N0) (hby : N0 * componentBytes ty ≤ 536870912) (hc1 : k + 1 ≤ R.cells) (hc2 : j + N0 ≤ R.slots) (kk : zX G y R F pc2 L (.ref n :: st) (va_up h n (some (.inl (cA, a0)))) (n + 1) (k + 1) (j + N0)) : zX G y R F pc L (.int i :: st) h n k j := by
  subst e0; subst hty; intro p e s m args below meth c C ls H locs hl hR hS
  have hK := C.2.2.2.2.2.1; have hts := C.2.2.2.2.1; have hbs := C.2.2.2.2.2.2.1
  obtain ⟨hsz, hcell, -⟩ := id hR
  refine va_newaK C.1 C.2.1 (hts _ hw) rfl d rfl hn0 hN hby hc1 hc2 hsz fun H1 cA' e1 z1 o1 hAr hNm => ?_
  have hcA : cA' = cA := by
    have h2 := (hK.2 t0 _ ht).2
    have h3 : s.vm.findClass ("[" ++ (newarray.typeOf at0).toString) = some cA := by
      cases at0 <;> exact h2
    exact Option.some.inj (hNm.symm.trans h3)
  subst hcA
  have hbn : zx_gB G ≤ n := by rw [← hsz]; exact Nat.le_trans hbs hS.1
  refine kk p e s m args below meth c C ls H1 locs hl (hR.push hbn ?_ z1 o1) ⟨Nat.le_trans hS.1 (by omega), fun x h1 h2 => (o1 x (Nat.lt_of_lt_of_le h1 (by rw [← hsz]; exact hS.1))).trans (hS.2.1 x h1 h2), hS.2.2⟩
  show H1[n]? = some (vp_cell _ _)
  rw [ha]
  exact e1
theorem zx_newq {ix t0 N0 : Nat} {cA : ClassId} {C0 : String} {i : Int32} (d : decode y.2.1 pc = .ok (.anewarray ix, 3)) (e0 : pc + 3 = pc2) (hw : Cond.classLink y.1.cls ix C0 ∈ zx_gW G) (hover : ∀ U, zx_gZ G U → va_AO C0 U) (ht : (zx_gT G)[t0]? = some (cA, .object C0)) (hn0 : ¬ i < 0) (hN : i.toNatClampNeg = N0) (hby : N0 * 4 ≤ 536870912) (hc1 : k + 1 ≤ R.cells) (hc2 : j + N0 ≤ R.slots) (kk : zX G y R F pc2 L (.ref n :: st) (va_up h n (some (.inl (cA, N0, .inr (.inr (.inr (.inr (fun _ => none)))))))) (n + 1) (k + 1) (j + N0)) : zX G y R F pc L (.int i :: st) h n k j := by
  subst e0; subst hN; intro p e s m args below meth c C ls H locs hl hR hS
  have hK := C.2.2.2.2.2.1; have hts := C.2.2.2.2.1; have hbs := C.2.2.2.2.2.2.1; have hZ := C.2.2.2.2.2.2.2.1; have ho := C.2.2.2.1
  obtain ⟨hsz, hcell, -⟩ := id hR
  subst hsz
  refine W.anew C.1 C.2.1 ho (hts _ hw) (va_AO.use (hover s hZ)) rfl d rfl hn0 hby hc1 hc2 fun cA' kA comp f1 f2 f3 f4 => ?_
  have hcA : cA' = cA := by
    obtain ⟨kA', comp', -, -, -, h2⟩ := (hK.2 t0 _ ht).2
    exact Option.some.inj (f1.symm.trans h2)
  subst hcA
  generalize hH1 : H.push ({ cls := cA', slots := Array.replicate i.toNatClampNeg .null, vm := .none } : Cell) = H1
  have z1 : H1.size = H.size + 1 := by rw [← hH1, Array.size_push]
  have e1 : H1[H.size]? = some (arrV cA' i.toNatClampNeg (fun _ => .null)) := by rw [← hH1, Array.getElem?_push_size, ← arrV_new]
  have o1 : ∀ q : Nat, q < H.size → H1[q]? = H[q]? := fun q hq => by rw [← hH1, Array.getElem?_push, if_neg (Nat.ne_of_lt hq)]
  have hbn : zx_gB G ≤ H.size := Nat.le_trans hbs hS.1
  refine kk p e s m args below meth c C ls H1 locs hl (hR.push hbn ?_ z1 o1) ⟨Nat.le_trans hS.1 (by omega), fun x h1 h2 => (o1 x (Nat.lt_of_lt_of_le h1 hS.1)).trans (hS.2.1 x h1 h2), hS.2.2⟩
  show H1[H.size]? = some (vp_cell _ _)
  rw [vp_cell_q]
  exact e1
theorem zx_new {ix ci N0 : Nat} {C0 : String} {T : u_T} {ty0 : Nat → FieldType} {fs : List Value} (d : decode y.2.1 pc = .ok (.new ix, 3)) (e0 : pc + 3 = pc2) (hc : (zx_gC G)[ci]? = some (C0, T, N0)) (hw : ∀ w ∈ u_ws C0 T N0, w ∈ zx_gW G) (hty : ∀ q, q < N0 → parseFieldDescriptor (T q).2.2.1 = some (ty0 q)) (hfs : ∀ q, q < N0 → defaultValue (ty0 q) = vp_V fs q) (h1 : Cond.classLink y.1.cls ix C0 ∈ zx_gW G) (h2 : Cond.instantiable C0 N0 ∈ zx_gW G) (h3 : Cond.initialized C0 ∈ zx_gW G) (hc1 : k + 1 ≤ R.cells) (hc2 : j + N0 ≤ R.slots) (kk : zX G y R F pc2 L (.ref n :: st) (va_up h n (some (.inr (ci, fs)))) (n + 1) (k + 1) (j + N0)) : zX G y R F pc L st h n k j := by
  subst e0; intro p e s m args below meth c C ls H locs hl hR hS
  have hK := C.2.2.2.2.2.1; have hts := C.2.2.2.2.1; have hbs := C.2.2.2.2.2.2.1; have ho := C.2.2.2.1
  have hin : ∀ w ∈ u_ws C0 T N0, w ∈ zx_gW G := hw
  obtain ⟨hsz, hcell, -⟩ := id hR
  have hKn := hK.1 ci _ hc
  refine W.newcK C.1 C.2.1 ho (hts _ h1) (hts _ h2) (hts _ h3) rfl d hc1 hc2 hKn.2.1 hsz fun H1 kC hkC e1 z1 o1 => ?_
  have hbn : zx_gB G ≤ n := by rw [← hsz]; exact Nat.le_trans hbs hS.1
  refine kk p e s m args below meth c C ls H1 locs hl (hR.push hbn ⟨_, hc, (u_born ty0 hts hin hKn hkC e1 hty).to hfs⟩ z1 o1) ⟨Nat.le_trans hS.1 (by omega), fun x h1 h2 => (o1 x (Nat.lt_of_lt_of_le h1 (by rw [← hsz]; exact hS.1))).trans (hS.2.1 x h1 h2), hS.2.2⟩
theorem zx_objInit {ix a : Nat} (d : decode y.2.1 pc = .ok (.invokespecial ix, 3)) (e0 : pc + 3 = pc2) (h1 : Cond.methodLink y.1.cls ix objectInit ∈ zx_gW G) (h2 : Cond.instanceMethod objectInit ∈ zx_gW G) (h3 : Cond.code objectInit ⟨#[0xb1]⟩ 1 none ∈ zx_gW G) (hf : 1 ≤ R.frames) (hlc : (st.map fun v => v.category).sum + 12 ≤ R.locals) (kk : zX G y R F pc2 L st h n k j) : zX G y R F pc L (.ref a :: st) h n k j := by
  subst e0; intro p e s m args below meth c C ls H locs hl hR hS
  have hts := C.2.2.2.2.1
  exact W.objInit C.1 C.2.1 C.2.2.2.1 (hts _ h1) (hts _ h2) (hts _ h3) rfl (by rw [C.2.2.1]; exact hl.1) rfl d hf (by show 2 * 0 + _ + 12 ≤ _; omega) (kk p e s m args below meth c C ls H locs hl hR hS)
theorem zx_widen {k2 j2 : Nat} (h1 : k ≤ k2) (h2 : j ≤ j2) (kk : zX G y R F pc L st h n k2 j2) : zX G y R F pc L st h n k j := by
  intro p e s m args below meth c C ls H locs hl hR hS; exact W.widen h1 h2 (kk p e s m args below meth c C ls H locs hl hR hS)
end ZX
section ZR
variable {G : zx_G} {y : zx_Y} {R : Room} {post : Option Value → zx_H → Nat → Prop} {pc : Nat} {L : zx_L} {h : zx_H} {n k j : Nat}
theorem zx_end {s t : State} {H : Heap} {locs : List Loc} {r : Option Value} {as : Array Value} (hp : post r h n) (hR : zx_R (zx_gD G) (zx_gC G) (zx_gB G) h n H) (hS : va_S (zx_A G) s.heap H locs) (ht : t.heap = H) : zx_Q G post as s (.returned r) t := ⟨⟨r, h, n, rfl, hp, by rw [ht]; exact hR⟩, hS.F ht⟩
theorem zx_vret (d : decode y.2.1 pc = .ok (.return_, 1)) (hr : y.2.2.2.1 = none) (hp : post none h n) : zX G y R (zx_F G k j post) pc L [] h n k j := by
  intro p e s m args below meth c C ls H locs hl hR hS
  have hlk := C.2.2.2.2.2.2.2.2.2.2.1
  exact W.vret C.1 C.2.1 (C.2.2.2.2.2.2.2.2.2.1.trans hr) (fun t ht _ => zx_end hp hR hS ht) hS.2.2 d hlk
theorem zx_iret {v : Int32} (d : decode y.2.1 pc = .ok (.ireturn, 1)) (hr : y.2.2.2.1 = some .int) (hp : post (some (.int v)) h n) : zX G y R (zx_F G k j post) pc L [.int v] h n k j := by
  intro p e s m args below meth c C ls H locs hl hR hS
  have hlk := C.2.2.2.2.2.2.2.2.2.2.1
  exact W.iret C.1 C.2.1 (C.2.2.2.2.2.2.2.2.2.1.trans hr) (fun t ht _ => zx_end hp hR hS ht) hS.2.2 d hlk
theorem zx_zret {v : Int32} {ty : FieldType} (d : decode y.2.1 pc = .ok (.ireturn, 1)) (hr : y.2.2.2.1 = some ty) (hn : narrow ty (.int v) = .int v) (hp : post (some (.int v)) h n) : zX G y R (zx_F G k j post) pc L [.int v] h n k j := by
  intro p e s m args below meth c C ls H locs hl hR hS
  have hlk := C.2.2.2.2.2.2.2.2.2.2.1
  exact W.zret C.1 C.2.1 (C.2.2.2.2.2.2.2.2.2.1.trans hr) hn (fun t ht _ => zx_end hp hR hS ht) hS.2.2 d hlk
theorem zx_lret {v : Int64} (d : decode y.2.1 pc = .ok (.lreturn, 1)) (hr : y.2.2.2.1 = some .long) (hp : post (some (.long v)) h n) : zX G y R (zx_F G k j post) pc L [.long v] h n k j := by
  intro p e s m args below meth c C ls H locs hl hR hS
  have hlk := C.2.2.2.2.2.2.2.2.2.2.1
  exact W.lret C.1 C.2.1 (C.2.2.2.2.2.2.2.2.2.1.trans hr) (fun t ht _ => zx_end hp hR hS ht) hS.2.2 d hlk
theorem zx_aret {v : Value} {C0 : String} (d : decode y.2.1 pc = .ok (.areturn, 1)) (hr : y.2.2.2.1 = some (.object C0)) (hv : v = .null ∨ ∃ a, v = .ref a) (hp : post (some v) h n) : zX G y R (zx_F G k j post) pc L [v] h n k j := by
  intro p e s m args below meth c C ls H locs hl hR hS
  have hlk := C.2.2.2.2.2.2.2.2.2.2.1
  exact W.aret C.1 C.2.1 (C.2.2.2.2.2.2.2.2.2.1.trans hr) (Or.inl ⟨_, rfl⟩) hv (fun t ht _ => zx_end hp hR hS ht) hS.2.2 d hlk
/-- the entry -/
theorem zx_entry {rm : Room} {av : List Value} (hh : y.2.2.2.2 = []) (hy : plainName y.1.cls = true) (hlen : (lg_sl av).length ≤ y.2.2.1) (h1 : L.length = y.2.2.1) (h2 : zx_ps L = lv_args 0 av) (kk : zX G y rm (zx_F G rm.cells rm.slots post) 0 L [] h n 0 0) : zM G y rm av h n post := by
  refine Met.ofW (cc := y.2.1) (maxL := y.2.2.1) (ret := y.2.2.2.1) hy rfl ?_
  intro p e s m args below meth c s₁ B hml hv
  obtain ⟨rfl, hR, hbn, hK, hZ, hZk⟩ := hv
  have hts := atoms_spec (ws := zx_c y :: zx_gW G) B.pre
  have hown : s.vm.findClass y.1.cls = some m.cls := findClass_of_methodNamed B.named
  have hnm : meth.name = y.1.name := (name_of_methodNamed B.named B.method).1
  have hl := lv_entry av (n := y.2.2.1) hlen
  rw [lg_entry_eq]
  refine kk p e s m _ below meth c ⟨B.exec, B.bytes, hml, hown, fun w hw => hts w (List.mem_cons_of_mem _ hw), hK, ?_, hZ, hZk, B.returns, B.notSynchronized, hnm, ?_⟩ _ s.heap [] ⟨hl.1, h1, hl.2.1, fun i v q => hl.2.2 (i, v) ?_⟩ hR va_S.rf
  · rw [hR.1]; exact hbn
  · have h0 := B.noHandlers (hts _ List.mem_cons_self)
    have h1 : c.exceptionTable.size = 0 := by simpa [Array.isEmpty] using h0
    have h2 : c.exceptionTable.toList = [] := List.eq_nil_of_length_eq_zero (by simpa using h1)
    rw [h2, hh]; rfl
  · rw [← h2]; exact zx_ps_mem.mpr q
end ZR
/-! calls -/
def zx_ok (w : Cond) : Prop := (w.onTables && w.keeps) = true ∨ ∃ ty, w = .arrayClass ty
theorem zx_good {ws : List Cond} {c1 : Cond} (hw : ∀ w ∈ ws, zx_ok w) (h1 : c1 ∈ ws) : GoodIn ws (c1 :: ws) := by
  intro w h
  rcases List.mem_cons.mp h with rfl | h
  · exact ⟨h1, hw _ h1⟩
  · exact ⟨h, hw w h⟩
theorem zx_blind {G : zx_G} {av : List Value} {h : zx_H} {n : Nat} : FrameBlind (va_Pc av (zx_P G h n)) := by
  intro a U g mk hq
  obtain ⟨h0, hR, hb, hK, hZ, hZk⟩ := hq
  refine ⟨h0, hR, hb, va_K.moved (u := U) (U := U.calling g mk a) (Vm.Alike.refl U.vm) hK, ?_, hZk⟩
  exact hZk U (U.calling g mk a) (State.WarmedH.refl U) (by rw [hR.1]; exact hb) (fun _ _ => rfl) hZ
theorem zx_pre {G : zx_G} {y : zx_Y} {p : Program} {s U : State} {m : MethodId} {args : Array Value} {meth : Method} {c : Code} {H : Heap} {locs : List Loc} {av : List Value} {h : zx_H} {n : Nat} (C : zx_C G y p s m args meth c) (hR : zx_R (zx_gD G) (zx_gC G) (zx_gB G) h n H) (hS : va_S (zx_A G) s.heap H locs) (hU : U.heap = H) (hW : s.WarmedH U.vm) : va_Pc av (zx_P G h n) av.toArray U := by
  have hK := C.2.2.2.2.2.1; have hB := C.2.2.2.2.2.2.1; have hZ := C.2.2.2.2.2.2.2.1; have hZk := C.2.2.2.2.2.2.2.2.1
  refine ⟨rfl, by rw [hU]; exact hR, ?_, va_K.moved hW.alike hK, ?_, hZk⟩
  · rw [← hR.1]; exact Nat.le_trans hB hS.1
  · exact hZk s U hW hB (fun q hq => by rw [hU]; exact hS.2.1 q (Nat.lt_of_lt_of_le hq hB) (Nat.not_le.mpr hq)) hZ
theorem zx_run {G : zx_G} {p : Program} {e : Env} {R : Room} {s : State} {m : MethodId} {args a : Array Value} {below : List Frame} {meth : Method} {c : Code} {H : Heap} {locs : List Loc} {k j mc ms pc : Nat} {ls : Array Slot} {st0 rest : List Value} {post : Option Value → zx_H → Nat → Prop} {Q : State → Prop}
    (hr : va_Run p (zx_gL G) e R s m args below meth c H locs k j mc ms (F0 m pc ls st0) rest (zx_Q G post a) (zx_A G)) (hS : va_S (zx_A G) s.heap H locs)
    (kk : ∀ (r : Option Value) (h' : zx_H) (n' : Nat) (H' : Heap) (locs' : List Loc), post r h' n' → zx_R (zx_gD G) (zx_gC G) (zx_gB G) h' n' H' → va_S (zx_A G) s.heap H' locs' → W p (zx_gL G) e R s m args below meth c H' locs' (k + mc) (j + ms) Q (F0 m (pc + 3) ls (r.toList ++ rest))) :
    W p (zx_gL G) e R s m args below meth c H locs k j Q (F0 m pc ls st0) := by
  intro T hT X
  obtain ⟨v, st₀, t, T', L, h0, X', hL, e1, e2, ⟨⟨r, h', n', hv, hp, hR'⟩, hz, hk⟩, st⟩ := hr T hT X
  cases hv
  rw [h0] at hz hk
  obtain ⟨t2, a1, b1⟩ := kk v h' n' T'.heap (locs ++ L) hp (by rw [e1]; exact hR')
    ⟨Nat.le_trans hS.1 (by rw [e1]; exact hz), fun q h1 h2 => by rw [e1, hk q (Nat.lt_of_lt_of_le h1 hS.1) h2]; exact hS.2.1 q h1 h2, fun q hq => by
      rcases List.mem_append.mp hq with h | h
      · exact hS.2.2 q h
      · exact hL q h⟩ T' rfl X'
  exact ⟨t2, st t2 a1, b1⟩
/-- a call's site: the callee's words, and how it is linked -/
def zx_s (G : zx_G) (own : String) (ix : Nat) (y : zx_Y) (np : Nat) : Prop := (∀ w ∈ zx_gW G, zx_ok w) ∧ zx_c y ∈ zx_gW G ∧ Cond.initialized y.1.cls ∈ zx_gW G ∧ (y.1.cls ≠ "java/lang/invoke/MethodHandle" ∧ y.1.cls ≠ "java/lang/invoke/VarHandle" ∧ (parseMethodDescriptor y.1.desc).map (fun d => d.parameters.length) = some np) ∧
  (Cond.methodLink own ix y.1 ∈ zx_gW G ∨ ∃ host, ∀ U, zx_gZ G U → va_Nw (.methodLinkNest own ix y.1 host) U)
section ZCALL
variable {G : zx_G} {y y1 : zx_Y} {R rm : Room} {F : List Frame → Array Value → State → State → Prop} {pc pc2 ix np : Nat} {L : zx_L} {st0 av rest : List Value} {h : zx_H} {n k j : Nat} {post : Option Value → zx_H → Nat → Prop}
theorem zx_callS (f : zx_s G y.1.cls ix y1 np) (fs : Cond.static y1.1 ∈ zx_gW G) (hM : zM G y1 rm av h n post) (d : decode y.2.1 pc = .ok (.invokestatic ix, 3)) (e0 : pc + 3 = pc2) (hst : st0 = av.reverse ++ rest) (hnp : av.length = np) (hsum : (rest.map fun v => v.category).sum ≤ 8) (hfr : rm.frames + 1 ≤ R.frames) (hlo : 8 + (y1.2.2.1 + 11) + rm.locals ≤ R.locals) (hc1 : k + rm.cells ≤ R.cells) (hc2 : j + rm.slots ≤ R.slots)
    (kk : ∀ r h' n', post r h' n' → zX G y R F pc2 L (r.toList ++ rest) h' n' (k + rm.cells) (j + rm.slots)) : zX G y R F pc L st0 h n k j := by
  subst e0; subst hst; intro p e s m args below meth c C ls H locs hl hR hS
  have hx := C.1; have hb := C.2.1; have hml := C.2.2.1; have ho := C.2.2.2.1; have hts := C.2.2.2.2.1; have hZ := C.2.2.2.2.2.2.2.1
  obtain ⟨f1, f2, f3, f4, f5⟩ := f
  have hG : GoodIn (zx_gW G) (zx_c y1 :: zx_gW G) := zx_good f1 f2
  have hp : PreS s H (va_Pc av (zx_P G h n)) av := ⟨zx_blind, fun U hU hW => zx_pre C hR hS hU hW⟩
  have hini := hts _ f3
  have hstt := hts _ fs
  have go := fun (r : Option Value) (h' : zx_H) (n' : Nat) (H' : Heap) (locs' : List Loc) (hp' : post r h' n') (hR' : zx_R (zx_gD G) (zx_gC G) (zx_gB G) h' n' H') (hS' : va_S (zx_A G) s.heap H' locs') => kk r h' n' hp' p e s m args below meth c C ls H' locs' hl hR' hS'
  rcases f5 with f5 | ⟨host, f5⟩
  · exact zx_run (va_runS (nL := y.2.2.1) ⟨hx, hb, hml, ho, hts⟩ hM ⟨callB_of np hts hG rfl rfl rfl hini (hts _ f5) f4 ⟨hfr, hlo⟩, hstt⟩ hp rfl hnp hl.1 rfl (lv_room hsum) d ⟨hc1, hc2⟩) hS go
  · exact zx_run (va_runSN (nL := y.2.2.1) ⟨hx, hb, hml, ho, hts⟩ hM ⟨va_cnB np hts hG rfl rfl rfl (f5 s hZ) hini f4 ⟨hfr, hlo⟩, hstt, trivial⟩ hp rfl hnp hl.1 rfl (lv_room hsum) d ⟨hc1, hc2⟩) hS go
theorem zx_callI {b : Nat} (f : zx_s G y.1.cls ix y1 np) (fs : y1.1.name = "<init>" ∧ y1.2.2.2.1 = none ∧ Cond.instanceMethod y1.1 ∈ zx_gW G) (hM : zM G y1 rm (.ref b :: av) h n post) (d : decode y.2.1 pc = .ok (.invokespecial ix, 3)) (e0 : pc + 3 = pc2) (hst : st0 = av.reverse ++ .ref b :: rest) (hnp : av.length = np) (hsum : (rest.map fun v => v.category).sum ≤ 8) (hfr : rm.frames + 1 ≤ R.frames) (hlo : 8 + (y1.2.2.1 + 11) + rm.locals ≤ R.locals) (hc1 : k + rm.cells ≤ R.cells) (hc2 : j + rm.slots ≤ R.slots)
    (kk : ∀ r h' n', post r h' n' → zX G y R F pc2 L (r.toList ++ rest) h' n' (k + rm.cells) (j + rm.slots)) : zX G y R F pc L st0 h n k j := by
  subst e0; subst hst; intro p e s m args below meth c C ls H locs hl hR hS
  have hx := C.1; have hb := C.2.1; have hml := C.2.2.1; have ho := C.2.2.2.1; have hts := C.2.2.2.2.1; have hZ := C.2.2.2.2.2.2.2.1
  obtain ⟨f1, f2, f3, f4, f5⟩ := f
  obtain ⟨g1, g2, g3⟩ := fs
  have hG : GoodIn (zx_gW G) (zx_c y1 :: zx_gW G) := zx_good f1 f2
  obtain ⟨yn, ycc, yl, yr, yh⟩ := y1
  dsimp only at g2; subst g2
  have hp : PreS s H (va_Pc (.ref b :: av) (zx_P G h n)) (.ref b :: av) := ⟨zx_blind, fun U hU hW => zx_pre C hR hS hU hW⟩
  have hini := hts _ f3
  have hins := hts _ g3
  have go := fun (r : Option Value) (h' : zx_H) (n' : Nat) (H' : Heap) (locs' : List Loc) (hp' : post r h' n') (hR' : zx_R (zx_gD G) (zx_gC G) (zx_gB G) h' n' H') (hS' : va_S (zx_A G) s.heap H' locs') => kk r h' n' hp' p e s m args below meth c C ls H' locs' hl hR' hS'
  rcases f5 with f5 | ⟨host, f5⟩
  · exact zx_run (va_runI (nL := y.2.2.1) ⟨hx, hb, hml, ho, hts⟩ hM ⟨callB_of np hts hG rfl rfl rfl hini (hts _ f5) f4 ⟨hfr, hlo⟩, g1, hins⟩ hp rfl hnp hl.1 rfl (lv_room hsum) d ⟨hc1, hc2⟩) hS go
  · exact zx_run (va_runIN (nL := y.2.2.1) ⟨hx, hb, hml, ho, hts⟩ hM ⟨va_cnB np hts hG rfl rfl rfl (f5 s hZ) hini f4 ⟨hfr, hlo⟩, g1, hins⟩ hp rfl hnp hl.1 rfl (lv_room hsum) d ⟨hc1, hc2⟩) hS go
theorem zx_callV {b ci : Nat} {vs : List Value} {r0 : vw_C} (f : zx_s G y.1.cls ix y1 np) (fs : Cond.instanceMethod y1.1 ∈ zx_gW G ∧ Cond.selects y1.1.cls y1.1 y1.1 ∈ zx_gW G ∧ (zx_gC G)[ci]? = some r0 ∧ r0.1 = y1.1.cls) (hob : h b = some (.inr (ci, vs))) (hM : zM G y1 rm (.ref b :: av) h n post) (d : decode y.2.1 pc = .ok (.invokevirtual ix, 3)) (e0 : pc + 3 = pc2) (hst : st0 = av.reverse ++ .ref b :: rest) (hnp : av.length = np) (hsum : (rest.map fun v => v.category).sum ≤ 8) (hfr : rm.frames + 1 ≤ R.frames) (hlo : 8 + (y1.2.2.1 + 11) + rm.locals ≤ R.locals) (hc1 : k + rm.cells ≤ R.cells) (hc2 : j + rm.slots ≤ R.slots)
    (kk : ∀ r h' n', post r h' n' → zX G y R F pc2 L (r.toList ++ rest) h' n' (k + rm.cells) (j + rm.slots)) : zX G y R F pc L st0 h n k j := by
  subst e0; subst hst; intro p e s m args below meth c C ls H locs hl hR hS
  have hx := C.1; have hb := C.2.1; have hml := C.2.2.1; have ho := C.2.2.2.1; have hts := C.2.2.2.2.1; have hZ := C.2.2.2.2.2.2.2.1; have hK := C.2.2.2.2.2.1
  obtain ⟨f1, f2, f3, f4, f5⟩ := f
  obtain ⟨g1, g2, g3, g4⟩ := fs
  have hG : GoodIn (zx_gW G) (zx_c y1 :: zx_gW G) := zx_good f1 f2
  have hcell := va_recv (s := s) hK (hR.get hob) g3 (q0 := 0) rfl
  rw [g4] at hcell
  have hp : PreV s H y1.1.cls b (va_Pc (.ref b :: av) (zx_P G h n)) av := ⟨zx_blind, hcell, fun U hU hW => zx_pre C hR hS hU hW⟩
  have hini := hts _ f3
  have go := fun (r : Option Value) (h' : zx_H) (n' : Nat) (H' : Heap) (locs' : List Loc) (hp' : post r h' n') (hR' : zx_R (zx_gD G) (zx_gC G) (zx_gB G) h' n' H') (hS' : va_S (zx_A G) s.heap H' locs') => kk r h' n' hp' p e s m args below meth c C ls H' locs' hl hR' hS'
  rcases f5 with f5 | ⟨host, f5⟩
  · exact zx_run (va_runV (nL := y.2.2.1) ⟨hx, hb, hml, ho, hts⟩ hM ⟨callB_of np hts hG rfl rfl rfl hini (hts _ f5) f4 ⟨hfr, hlo⟩, hts _ g1, hts _ g2⟩ hp rfl hnp hl.1 rfl (lv_room hsum) d ⟨hc1, hc2⟩) hS go
  · exact zx_run (va_runVN (nL := y.2.2.1) ⟨hx, hb, hml, ho, hts⟩ hM ⟨va_cnB np hts hG rfl rfl rfl (f5 s hZ) hini f4 ⟨hfr, hlo⟩, hts _ g1, hts _ g2⟩ hp rfl hnp hl.1 rfl (lv_room hsum) d ⟨hc1, hc2⟩) hS go
end ZCALL
end
section
/-! Throwing: contracts of methods that throw, calls of them, 'throw new X()' with no arguments. -/
def zx_QT (G : zx_G) (cls : String) (post : zx_H → Nat → Prop) : Array Value → State → Outcome → State → Prop := fun _ st o t =>
  ∃ (a : Addr) (cell : Cell) (h' : zx_H) (n' : Nat), o = .threw a ∧ post h' n' ∧ zx_R (zx_gD G) (zx_gC G) (zx_gB G) h' n' t.heap ∧ va_F (zx_A G) st t ∧ t.heap[a]? = some cell ∧ cell.vm.isStatics = false ∧ t.vm.findClass cls = some cell.cls
def zx_FT (G : zx_G) (mc ms : Nat) (cls : String) (post : zx_H → Nat → Prop) : List Frame → Array Value → State → State → Prop := fun below args s t =>
  ∃ o, t.status = .running ∧ Ended t below o ∧ zx_QT G cls post args s o t ∧ ∃ L, FramedT s o t L mc ms ∧ ∀ q ∈ L, zx_A G q.base
def zT (G : zx_G) (y : zx_Y) (rm : Room) (av : List Value) (h : zx_H) (n : Nat) (cls : String) (post : zx_H → Nat → Prop) : Prop :=
  MetFree (zx_gL G) y.1 (headSpec (zx_c y :: zx_gW G) rm) (va_Pc av (zx_P G h n)) (fun _ _ _ _ _ => True) (fun a st o t => zx_QT G cls post a st o t ∧ ∃ L, FramedT st o t L rm.cells rm.slots ∧ ∀ q ∈ L, zx_A G q.base)
theorem zx_entryT {G : zx_G} {y : zx_Y} {L : zx_L} {h : zx_H} {n : Nat} {rm : Room} {av : List Value} {cls : String} {post : zx_H → Nat → Prop} (hh : y.2.2.2.2 = []) (hy : plainName y.1.cls = true) (hlen : (lg_sl av).length ≤ y.2.2.1) (h1 : L.length = y.2.2.1) (h2 : zx_ps L = lv_args 0 av) (kk : zX G y rm (zx_FT G rm.cells rm.slots cls post) 0 L [] h n 0 0) : zT G y rm av h n cls post := by
  refine MetFree.of_bodyS (code := y.2.1) (maxLocals := y.2.2.1) (ret := y.2.2.2.1) hy ?_ ?_
  · intro args s m hp hn
    obtain ⟨meth, c, a1, a2, a3, a4, a5, a6, -, -⟩ := Cond.code_spec hn (atoms_spec (ws := zx_c y :: zx_gW G) hp _ List.mem_cons_self)
    exact ⟨meth, c, a1, a2, a3, a4, a5, a6⟩
  · intro p e s m args below meth c s₁ B hml hv _
    obtain ⟨rfl, hR, hbn, hK, hZ, hZk⟩ := hv
    have hts := atoms_spec (ws := zx_c y :: zx_gW G) B.pre
    have hown : s.vm.findClass y.1.cls = some m.cls := findClass_of_methodNamed B.named
    have hnm : meth.name = y.1.name := (name_of_methodNamed B.named B.method).1
    have hl := lv_entry av (n := y.2.2.1) hlen
    have h0 := B.noHandlers (hts _ List.mem_cons_self)
    have h1' : c.exceptionTable.size = 0 := by simpa [Array.isEmpty] using h0
    have h2' : c.exceptionTable.toList = [] := List.eq_nil_of_length_eq_zero (by simpa using h1')
    have hh0 : s₁.heap = s.heap := by rw [B.state]; rfl
    rw [lg_entry_eq]
    obtain ⟨t, a1, o, b1, b2, b3, b4⟩ := kk p e s m _ below meth c ⟨B.exec, B.bytes, hml, hown, fun w hw => hts w (List.mem_cons_of_mem _ hw), hK, by rw [hR.1]; exact hbn, hZ, hZk, B.returns, B.notSynchronized, hnm, by rw [h2', hh]; rfl⟩ _ s.heap [] ⟨hl.1, h1, hl.2.1, fun i v q => hl.2.2 (i, v) (by rw [← h2]; exact zx_ps_mem.mpr q)⟩ hR va_S.rf s₁ hh0 (Stand.of_body B)
    exact ⟨t, o, a1, b1, b2, b3, b4⟩
theorem zx_backT {G : zx_G} {y1 : zx_Y} {rm R : Room} {av : List Value} {h : zx_H} {n : Nat} {cls : String} {post : zx_H → Nat → Prop} {p : Program} {e : Env} {s : State} {m : MethodId} {sargs : Array Value} {below : List Frame} {meth : Method} {c : Code} {U : State} {Ls : List Loc} {k j : Nat}
    (X : Stand p (zx_gL G) e R s m sargs below meth c U Ls k j) (hM : zT G y1 rm av h n cls post) (hws : ∀ w ∈ zx_c y1 :: zx_gW G, w.before av.toArray U = true) (hini : (Cond.initialized y1.1.cls).before av.toArray U = true) (hP : va_Pc av (zx_P G h n) av.toArray U)
    (hfr : rm.frames + 1 ≤ R.frames) (hlo : 8 + (y1.2.2.1 + 11) + rm.locals ≤ R.locals) (hc1 : k + rm.cells ≤ R.cells) (hc2 : j + rm.slots ≤ R.slots) {g : JFrame} (hg : g.method = m) (hsize : g.locals.size = c.maxLocals) {ig : Instr} {len : Nat} (hdg : decode c.code g.pc = .ok (ig, len)) (hW : 2 * g.monitorRoom + (g.stack.map fun v => v.category).sum ≤ 8) {mk : MethodId} (hn : U.methodNamed? y1.1 = some mk) :
    ∃ (x : Addr) (T' : State) (L : List Loc), Stand p (zx_gL G) e R s m sargs below meth c T' (Ls ++ L) (k + rm.cells) (j + rm.slots) ∧ (∀ q ∈ L, zx_A G q.base) ∧ zx_QT G cls post av.toArray (U.calling g mk av.toArray) (.threw x) ((T'.setTop g).pushFrame (.throwing x)) ∧ Steps p.tables e below (doInvoke e (U.setTop g) [] mk av.toArray).1 ((T'.setTop g).pushFrame (.throwing x)) := by
  obtain ⟨methY, cY, hmY, hcY, -, hlY, -, -, -, -⟩ := Cond.code_spec hn (hws _ List.mem_cons_self)
  obtain ⟨kY, hkY, -⟩ := className_of_methodNamed hn
  have hinitY : kY.init = .initialized := Cond.initialized_spec (findClass_of_methodNamed hn) hkY hini
  have ha : At U g.method c below := by rw [hg]; exact X.here
  have happ : (headSpec (zx_c y1 :: zx_gW G) rm).appliesLoose y1.1 e.platform (U.calling g mk av.toArray) = true :=
    Spec.appliesLoose_calling (g := g) ha hdg hn hkY hinitY (X.room_calling (g := g) (R' := rm) hsize hmY hcY hfr (by rw [hlY]; omega) hc1 hc2) (atoms_intro hws)
  obtain ⟨mid, hmid⟩ := ha.above
  have hfr2 : (U.setTop g).frames = (.java g :: mid) ++ below := by rw [State.frames_setTop' g ha.top, hmid]; rfl
  obtain ⟨o, s₂, hsteps, -, hend, hq, L, hF, hL⟩ := Steps.callFree hM p X.admits X.cas X.clock (acts := []) hfr2 happ (zx_blind _ _ g mk hP) trivial
  rw [State.frames_setTop' g ha.top, X.tail] at hend
  obtain ⟨⟨x, rfl⟩, hW2, hsame⟩ := hF
  obtain ⟨T', X', -, -, ht⟩ := X.outOfThrown hg hend hW2 hsame
  rw [ht] at hsteps hq
  exact ⟨x, T', L, X', hL, hq, hsteps⟩
theorem zx_leaveT {G : zx_G} {R : Room} {cls : String} {post1 post : zx_H → Nat → Prop} {p : Program} {e : Env} {s U : State} {m mk : MethodId} {args as : Array Value} {below : List Frame} {meth : Method} {c : Code} {T' : State} {locs L : List Loc} {k j : Nat} {g : JFrame} {x : Addr} {H : Heap}
    (X' : Stand p (zx_gL G) e R s m args below meth c T' (locs ++ L) k j) (hg : g.method = m) (hlocked : g.locked = none) (hent : g.entered = []) (hout : ∀ z ∈ c.exceptionTable.toList, covers z g.pc = false) (hlk : meth.locks = false) (hL : ∀ q ∈ L, zx_A G q.base) (hS : va_S (zx_A G) s.heap H locs) (hU : U.heap = H)
    (hq : zx_QT G cls post1 as (U.calling g mk as) (.threw x) ((T'.setTop g).pushFrame (.throwing x))) (kk : ∀ h' n', post1 h' n' → post h' n') : ∃ t, Steps p.tables e below ((T'.setTop g).pushFrame (.throwing x)) t ∧ zx_FT G k j cls post below args s t := by
  obtain ⟨hw, hrun, hend, hW, hsame⟩ := X'.leaveThrown x (g := g) hg hlocked hent hout hlk
  obtain ⟨a, cell, h', n', ha, hp, hR, hF, hc, hst, hcl⟩ := hq
  cases ha
  rw [Stand.throwing_heap] at hR hc
  rw [Stand.throwing_vm] at hcl
  obtain ⟨hz, hk⟩ := hF
  rw [Stand.throwing_heap] at hz hk
  have hcal : (U.calling g mk as).heap = H := hU
  rw [hcal] at hz hk
  refine ⟨_, hw, .threw x, hrun, hend, ⟨x, cell, h', n', rfl, kk h' n' hp, hR, ⟨Nat.le_trans hS.1 hz, fun q h1 h2 => ?_⟩, hc, hst, hcl⟩, locs ++ L, ⟨⟨x, rfl⟩, hW, hsame⟩, fun q hq => ?_⟩
  · show T'.heap[q]? = _
    rw [hk q (Nat.lt_of_lt_of_le h1 hS.1) h2]
    exact hS.2.1 q h1 h2
  · rcases List.mem_append.mp hq with h1 | h1
    · exact hS.2.2 q h1
    · exact hL q h1
section ZCALLT
variable {G : zx_G} {y y1 : zx_Y} {R rm : Room} {pc ix np : Nat} {L : zx_L} {st0 av rest : List Value} {h : zx_H} {n k j : Nat} {cls : String} {post1 post : zx_H → Nat → Prop}
theorem zx_callST (f : zx_s G y.1.cls ix y1 np) (fs : Cond.static y1.1 ∈ zx_gW G) (hM : zT G y1 rm av h n cls post1) (d : decode y.2.1 pc = .ok (.invokestatic ix, 3)) (hst : st0 = av.reverse ++ rest) (hnp : av.length = np) (hsum : (rest.map fun v => v.category).sum ≤ 8) (hfr : rm.frames + 1 ≤ R.frames) (hlo : 8 + (y1.2.2.1 + 11) + rm.locals ≤ R.locals) (hc1 : k + rm.cells ≤ R.cells) (hc2 : j + rm.slots ≤ R.slots) (hno : y.2.2.2.2 = [])
    (kk : ∀ h' n', post1 h' n' → post h' n') : zX G y R (zx_FT G (k + rm.cells) (j + rm.slots) cls post) pc L st0 h n k j := by
  subst hst; intro p e s m args below meth c C ls H locs hl hR hS T hT X
  have hx := C.1; have hb := C.2.1; have hml := C.2.2.1; have ho := C.2.2.2.1; have hts := C.2.2.2.2.1; have hZ := C.2.2.2.2.2.2.2.1; have hlk := C.2.2.2.2.2.2.2.2.2.2.1
  have htab := C.2.2.2.2.2.2.2.2.2.2.2.2
  rw [hno] at htab
  have htab0 : c.exceptionTable.toList = [] := List.map_eq_nil_iff.mp htab
  obtain ⟨f1, f2, f3, f4, f5⟩ := f
  have hG : GoodIn (zx_gW G) (zx_c y1 :: zx_gW G) := zx_good f1 f2
  have hpay := pay_in hts hG
  have hcode := hts _ f2
  obtain ⟨mk, hnamed⟩ := Cond.code_named hcode
  obtain ⟨methM, cM, hmethM, -, -, -, -, -, -, hsigM⟩ := Cond.code_spec hnamed hcode
  have hstatic : methM.isStatic = true := Cond.static_spec hnamed hmethM (hts _ fs)
  obtain ⟨kP, hkP, -⟩ := className_of_methodNamed hnamed
  have hinitP : kP.init = .initialized := Cond.initialized_spec (findClass_of_methodNamed hnamed) hkP (hts _ f3)
  have hlen : ∀ sig, parseMethodDescriptor y1.1.desc = some sig → av.length = sig.parameters.length := fun sig q => by
    have h2 := f4.2.2
    rw [q] at h2
    rw [hnp]
    exact (Option.some.inj h2).symm
  have fin : ∀ vm₁ : Vm, Stand p (zx_gL G) e R s m args below meth c (T.setVm vm₁) locs k j → (∀ target, (∀ acts, Steps p.tables e below (doInvoke e ((T.setVm vm₁).setTop { (F0 m pc ls (av.reverse ++ rest)) with stack := rest }) acts mk av.toArray).1 target) → Steps p.tables e below (T.setTop (F0 m pc ls (av.reverse ++ rest))) target) → ∃ t, Steps p.tables e below (T.setTop (F0 m pc ls (av.reverse ++ rest))) t ∧ zx_FT G (k + rm.cells) (j + rm.slots) cls post below args s t := by
    intro vm₁ X₁ hstep
    obtain ⟨x, T', L', X', hL', hq, hsteps⟩ := zx_backT X₁ hM (fun w hw => hpay w hw _ _ X₁.warmed) (hpay _ (List.mem_cons_of_mem _ f3) _ _ X₁.warmed) (zx_pre C hR hS (show (T.setVm vm₁).heap = H from hT) X₁.warmed) hfr hlo hc1 hc2 (g := { (F0 m pc ls (av.reverse ++ rest)) with stack := rest }) rfl (hl.1.trans hml.symm) (by rw [hb]; exact d) (lv_room hsum) (X₁.named hnamed)
    obtain ⟨t, a1, a2⟩ := zx_leaveT X' rfl rfl rfl (fun z hz => by rw [htab0] at hz; cases hz) hlk hL' hS (show (T.setVm vm₁).heap = H from hT) hq kk
    exact ⟨t, hstep t (fun acts => by rw [doInvoke_state]; exact hsteps.trans a1), a2⟩
  rcases f5 with f5 | ⟨host, f5⟩
  · obtain ⟨vm₁, X₁, hstep₁⟩ := X.invokestatic hx ho (hts _ f5) hnamed hmethM hstatic hkP hinitP ⟨f4.1, f4.2.1⟩ (g := F0 m pc ls (av.reverse ++ rest)) rfl (argsL := av) (rest := rest) (hlen _ hsigM) rfl (by rw [hb]; exact d)
    exact fin vm₁ X₁ hstep₁
  · obtain ⟨vm₁, X₁, hstep₁⟩ := X.invokestaticNest hx ho (va_Nw.use rfl (f5 s hZ)) hnamed hmethM hstatic hkP hinitP ⟨f4.1, f4.2.1⟩ (g := F0 m pc ls (av.reverse ++ rest)) rfl (argsL := av) (rest := rest) (hlen _ hsigM) rfl (by rw [hb]; exact d)
    exact fin vm₁ X₁ hstep₁
end ZCALLT
/-- the walk begun anew where it stands: what is written from here on is counted from here -/
theorem zx_rebase {p : Program} {l : Launch} {e : Env} {R : Room} {s : State} {m : MethodId} {args : Array Value} {below : List Frame} {meth : Method} {c : Code} {T : State} {locs : List Loc} {k j : Nat} (X : Stand p l e R s m args below meth c T locs k j) (hk : k ≤ R.cells) (hj : j ≤ R.slots) :
    Stand p l e { frames := R.frames, cells := R.cells - k, slots := R.slots - j, locals := R.locals } (T.setFrames (.invoking m args :: below)) m args below meth c T [] 0 0 := by
  obtain ⟨g₀, hfr⟩ := X.frames_eq
  obtain ⟨th, hth, -⟩ := State.frames_cons hfr
  have hcur : T.cur < T.threads.size := State.cur_lt_of_frames hfr
  have hf0 : (T.setFrames (.invoking m args :: below)).frames = .invoking m args :: below := State.frames_setFrames _ hcur
  have hm0 : (T.setFrames (.invoking m args :: below)).vm.method? m = some meth := X.method'
  refine ⟨X.admits, X.cas, X.clock, hf0, ?_, ?_, hm0, X.code, X.here, X.tail, State.WarmedH.refl _, by rw [State.stackLimits_setFrames], by rw [State.stackBytes_setFrames], ?_⟩
  · have h0 := X.room
    have hloc := State.localsInUse_invoking X.frames X.method X.code
    have hloc0 := State.localsInUse_invoking hf0 hm0 X.code
    have hsz := X.heapSize
    have hus := X.used
    have hbk := X.book
    have hb1 := X.bytes
    have hl1 := X.limits
    simp only [State.hasRoom, Bool.and_eq_true, decide_eq_true_eq] at h0 ⊢
    rw [hloc0, hf0, State.stackLimits_setFrames, State.stackBytes_setFrames, hl1, hb1]
    rw [hloc, X.frames] at h0
    refine ⟨⟨⟨⟨h0.1.1.1.1, h0.1.1.1.2⟩, ?_⟩, ?_⟩, hbk⟩
    · show T.heap.size + (R.cells - k) ≤ _
      have := h0.1.1.2
      omega
    · show T.slotsUsed + (R.slots - j) ≤ _
      have := h0.1.2
      omega
  · have hh := X.hears
    have hal := X.warmed.alike
    have hm' : T.vm.method? m = some meth := X.method'
    cases below with
    | nil => simpa [State.hears, X.method, hm'] using hh
    | cons f r =>
      cases f with
      | java g =>
        have hcd : (T.setFrames (.invoking m args :: .java g :: r)).code? g.method = s.code? g.method := by
          rw [State.code?_eq, State.code?_eq]
          show (T.vm.method? g.method).bind _ = _
          rw [hal.method?]
        simp only [State.hears] at hh ⊢
        rw [hcd]
        exact hh
      | _ => first | rfl | (simpa [State.hears, X.method, hm'] using hh)
  · have h := (State.sameButNew.refl T hth).setFrames T.frames hcur
    refine ⟨?_, Nat.le_refl _, Nat.le_refl _, ?_, ?_, fun a c hc => ⟨c, hc, rfl, rfl, fun _ _ => rfl⟩⟩
    · show T.setVm _ = _
      rw [State.setFrames_setFrames]
      exact (State.setFrames_self hth).symm
    · show T.slotsUsed = T.slotsUsed + ((T.heap.toList.drop T.heap.size).map (fun x => x.slots.size)).sum
      rw [List.drop_eq_nil_of_le (by simp)]
      rfl
    · show ((T.heap.toList.drop T.heap.size).map (fun x => x.slots.size)).sum ≤ 0
      rw [List.drop_eq_nil_of_le (by simp)]
      exact Nat.le_refl _
theorem zx_cellsame {a b : Cell} (h1 : b = { a with slots := b.slots }) (h2 : b.slots.size = a.slots.size) (h3 : ∀ i : Nat, b.slots[i]? = a.slots[i]?) : b = a := by
  have e : b.slots = a.slots := Array.ext_getElem? h3
  rw [h1, e]
/-- throw new X(): new, dup, the constructor, athrow -/
theorem zx_throw0 {G : zx_G} {y : zx_Y} {R : Room} {pc ix ic : Nat} {L : zx_L} {st : List Value} {h : zx_H} {n k j : Nat} {cls : String} {names : List String} {post : zx_H → Nat → Prop}
    (hfl : (zx_gL G).flags = pinnedFlags ++ [noTraceFlag]) (hok : ∀ w ∈ zx_gW G, zx_ok w) (ht : ∀ (U : State) (as : Array Value), zx_gZ G U → ∀ a ∈ Bundle.ownAtoms0 y.1.cls ic cls names, a.before as U = true) (hcls : Bundle.fit cls = true) (hnames : ∀ q ∈ names, Bundle.fit q = true)
    (h1 : Cond.classLink y.1.cls ix cls ∈ zx_gW G) (h2 : Cond.instantiable cls 6 ∈ zx_gW G) (h3 : Cond.initialized cls ∈ zx_gW G) (d0 : decode y.2.1 pc = .ok (.new ix, 3)) (d3 : decode y.2.1 (pc + 3) = .ok (.dup, 1)) (d4 : decode y.2.1 (pc + 4) = .ok (.invokespecial ic, 3)) (d7 : decode y.2.1 (pc + 7) = .ok (.athrow, 1)) (hno : y.2.2.2.2 = [])
    (hRf : names.length + 3 < R.frames) (hRl : 1 + (st.map fun v => v.category).sum + (13 * (names.length + 1) + 41) ≤ R.locals) (hc1 : k + 1 ≤ R.cells) (hc2 : j + 6 ≤ R.slots) (hp : post h (n + 1)) : zX G y R (zx_FT G (k + 1) (j + 6) cls post) pc L st h n k j := by
  intro p e s m args below meth c C ls H locs hl hR hS T hT X
  have hx := C.1; have hb := C.2.1; have hml := C.2.2.1; have ho := C.2.2.2.1; have hts := C.2.2.2.2.1; have hB := C.2.2.2.2.2.2.1; have hZ := C.2.2.2.2.2.2.2.1; have hZk := C.2.2.2.2.2.2.2.2.1; have hlk := C.2.2.2.2.2.2.2.2.2.2.1
  have htab := C.2.2.2.2.2.2.2.2.2.2.2.2
  rw [hno] at htab
  have htab0 : c.exceptionTable.toList = [] := List.map_eq_nil_iff.mp htab
  have htr : e.platform.stackTraces = false := Launch.traces_off hfl X.admits
  have X0 := zx_rebase X (by omega) (by omega)
  have hs0 : (T.setFrames (.invoking m args :: below)).heap = H := hT
  have hv0 : (T.setFrames (.invoking m args :: below)).vm = T.vm := rfl
  have hW0 : s.WarmedH (T.setFrames (.invoking m args :: below)).vm := X.warmed
  generalize hs0e : T.setFrames (.invoking m args :: below) = s0 at X0 hs0 hv0 hW0
  have hZ0 : zx_gZ G s0 := hZk s s0 hW0 hB (fun q hq => by rw [hs0]; exact hS.2.1 q (Nat.lt_of_lt_of_le hq hB) (Nat.not_le.mpr hq)) hZ
  have hw0 : ∀ w ∈ zx_gW G, w.before args s0 = true := fun w hw => word_at hW0 (hok w hw) (hts w hw)
  have ho0 : s0.vm.findClass y.1.cls = some m.cls := by rw [hW0.alike.findClass]; exact ho
  have hTn : T.heap.size = n := by rw [hT]; exact hR.1
  obtain ⟨vm', cC, kC, f1, f2, f3, f4, X1, st1⟩ := X0.newCold hx ho0 (hw0 _ h1) (hw0 _ h2) (hw0 _ h3) (g := F0 m pc ls st) rfl (by rw [hb]; exact d0) (show 0 + 1 ≤ R.cells - k by omega) (show 0 + 6 ≤ R.slots - j by omega)
  rw [hTn] at st1
  have key : W p (zx_gL G) e { frames := R.frames, cells := R.cells - k, slots := R.slots - j, locals := R.locals } s0 m args below meth c ((T.setVm vm').pushCell { cls := cC, slots := kC.instanceTypes.map defaultValue, vm := .none }).heap [] (0 + 1) (0 + 6) (fun U => U.status = .running ∧ Ended U below (.threw n) ∧ s0.WarmedH U.vm ∧ s0.sameButNew ({ U with vm := s0.vm } : State) [] (0 + 1) (0 + 6) ∧ ∃ ce, U.heap[n]? = some ce ∧ Bundle.OwnCell args s0 cls n .null ce) (F0 m (pc + 3) ls (.ref n :: st)) := by
    refine lv_dup hx hb d3 rfl ?_
    intro T2 hT2 X2
    obtain ⟨U, a1, a2, a3, a4, a5, a6⟩ := X2.ctorThrow0 hx htr (own := y.1.cls) (cls := cls) (names := names) (ic := ic) ho0 hcls hnames (ht s0 args hZ0) (fun x hx => by cases hx) (a := n) f1 f2 (by rw [hT2]; show (T.heap.push _)[n]? = _; rw [← hTn]; simp) (by rw [hs0, ← hT, hTn]; exact Nat.le_refl _) (g := F0 m (pc + 3 + 1) ls (.ref n :: .ref n :: st)) rfl (hl.1.trans hml.symm) rfl rfl (rest := st) rfl (by rw [hb]; exact d4) (by rw [hb]; exact d7) (fun z hz => by rw [htab0] at hz; cases hz) hRf (by
        show 2 * 0 + ((Value.ref n :: st).map fun v => v.category).sum + _ ≤ R.locals
        have h1 : (Value.ref n).category = 1 := rfl
        simp only [List.map_cons, List.sum_cons, h1]
        omega) hlk
    exact ⟨U, a1, a2, a3, a4, a5, a6⟩
  obtain ⟨U, a1, a2, a3, a4, a5, ce, a6, a7⟩ := key _ rfl X1
  obtain ⟨b1, b2, b3, b4, b5, b6⟩ := id a5
  have hold : ∀ q : Nat, q < n → U.heap[q]? = H[q]? := by
    intro q hq
    have hlt : q < s0.heap.size := by rw [hs0, hR.1]; exact hq
    obtain ⟨c', e1, e2, e3, e4⟩ := b6 q _ (Array.getElem?_eq_getElem hlt)
    have e5 : U.heap[q]? = some c' := e1
    rw [e5, zx_cellsame e2 e3 (fun i => e4 i (by simp)), ← Array.getElem?_eq_getElem hlt, hs0]
  have hsz : U.heap.size = n + 1 := by
    have hlt : n < U.heap.size := (Array.getElem?_eq_some_iff.mp a6).1
    have h2' : U.heap.size ≤ s0.heap.size + (0 + 1) := b3
    rw [hs0, hR.1] at h2'
    omega
  refine ⟨U, st1 U a1, .threw n, a2, a3, ⟨n, ce, h, n + 1, rfl, hp, ⟨hsz, fun a e' he => ?_, fun q cell hq hc => ?_⟩, ⟨?_, fun q q1 q2 => ?_⟩, a6, by rw [a7.vm]; rfl, by rw [a4.alike.findClass]; exact a7.cls⟩, locs, ⟨⟨n, rfl⟩, ?_, ?_⟩, hS.2.2⟩
  · obtain ⟨g1, g2⟩ := hR.2.1 a e' he
    have hlt : a < n := by have := g2.lt; rw [hR.1] at this; exact this
    exact ⟨g1, g2.kept (hold a hlt)⟩
  · by_cases hqn : q = n
    · subst hqn
      have e9 := hc.symm.trans a6
      cases e9
      rw [a7.vm]
      rfl
    · have hlt : q < n := by have := (Array.getElem?_eq_some_iff.mp hc).1; omega
      rw [hold q hlt] at hc
      exact hR.2.2 q cell hq hc
  · rw [hsz]
    have := hS.1
    rw [hR.1] at this
    omega
  · have := hS.1
    rw [hR.1] at this
    rw [hold q (by omega)]
    exact hS.2.1 q q1 q2
  · subst hs0e
    have a4' : T.WarmedH U.vm := a4
    exact State.WarmedH.trans X.warmed a4'
  · subst hs0e
    have h5 : T.sameButNew (U.setVm T.vm) [] (0 + 1) (0 + 6) := by
      refine ⟨?_, b2, b3, b4, b5, b6⟩
      have b1' := b1
      rw [State.setFrames_setFrames] at b1'
      exact b1'
    have h6 := X.same.trans (h5.setVm s.vm)
    rw [List.append_nil] at h6
    exact h6
end
section
/-! The memory: the heap as three tables (ints, longs, references), by a fixed layout of relative addresses. -/
abbrev zm_M : Type := (Nat → Nat → Int32) × (Nat → Nat → Int64) × (Nat → Nat → Nat)
/-- a cell's layout: an array (type number, length, first, stride: of references: a stride of 0 is the table's), or an object (class number; of each field: none an int, some none a long, some (some d) a fixed reference) -/
abbrev zm_E : Type := (Nat × Nat × Nat × Nat) ⊕ (Nat × List (Option (Option Nat)))
def zm_I (M : zm_M) (r k : Nat) : Int32 := M.1 r k
def zm_J (M : zm_M) (r k : Nat) : Int64 := M.2.1 r k
def zm_P (M : zm_M) (r k : Nat) : Nat := M.2.2 r k
def zm_u {α : Type} (f : Nat → Nat → α) (r k : Nat) (v : α) : Nat → Nat → α := fun r' k' => if r' = r ∧ k' = k then v else f r' k'
def zm_wI (M : zm_M) (r k : Nat) (v : Int32) : zm_M := (zm_u M.1 r k v, M.2.1, M.2.2)
def zm_wJ (M : zm_M) (r k : Nat) (v : Int64) : zm_M := (M.1, zm_u M.2.1 r k v, M.2.2)
def zm_wP (M : zm_M) (r k : Nat) (v : Nat) : zm_M := (M.1, M.2.1, zm_u M.2.2 r k v)
def zm_fs (b : Nat) (M : zm_M) (r : Nat) : Nat → List (Option (Option Nat)) → List Value
  | _, [] => []
  | k, none :: t => .int (zm_I M r k) :: zm_fs b M r (k + 1) t
  | k, some none :: t => .long (zm_J M r k) :: zm_fs b M r (k + 1) t
  | k, some (some d) :: t => .ref (b + d) :: zm_fs b M r (k + 1) t
def zm_ar (b : Nat) (M : zm_M) (r s d : Nat) : Nat → Option Nat := fun i => some (b + (if d = 0 then zm_P M r i else s + d * i))
def zm_cell (b : Nat) (ar : Nat → ClassId) (M : zm_M) (r : Nat) : zm_E → va_E
  | .inl (1, n, _, _) => .inl (ar 1, n, .inr (.inl (zm_J M r)))
  | .inl (0, n, _, _) => .inl (ar 0, n, .inl (zm_I M r))
  | .inl (2, n, _, _) => .inl (ar 2, n, .inl (zm_I M r))
  | .inl (3, n, _, _) => .inl (ar 3, n, .inl (zm_I M r))
  | .inl (t, n, s, d) => .inl (ar t, n, .inr (.inr (.inr (.inr (zm_ar b M r s d)))))
  | .inr (ci, fk) => .inr (ci, zm_fs b M r 0 fk)
def zm_h (b : Nat) (ar : Nat → ClassId) (lay : Nat → Option zm_E) (M : zm_M) : zx_H := fun a => if a < b then none else (lay (a - b)).map (zm_cell b ar M (a - b))
section ZMM
variable {b : Nat} {ar : Nat → ClassId} {lay : Nat → Option zm_E} {M : zm_M} {r : Nat}
theorem zm_at {e : zm_E} (h : lay r = some e) : zm_h b ar lay M (b + r) = some (zm_cell b ar M r e) := by
  unfold zm_h
  rw [if_neg (by omega), Nat.add_sub_cancel_left, h]
  rfl
theorem zm_I_w {r' k k' : Nat} {v : Int32} : zm_I (zm_wI M r k v) r' k' = if r' = r ∧ k' = k then v else zm_I M r' k' := rfl
theorem zm_J_w {r' k k' : Nat} {v : Int64} : zm_J (zm_wJ M r k v) r' k' = if r' = r ∧ k' = k then v else zm_J M r' k' := rfl
theorem zm_P_w {r' k k' : Nat} {v : Nat} : zm_P (zm_wP M r k v) r' k' = if r' = r ∧ k' = k then v else zm_P M r' k' := rfl
theorem zm_fs_I {r' k : Nat} {v : Int32} (hne : r' ≠ r) : ∀ (fk : List (Option (Option Nat))) (q : Nat), zm_fs b (zm_wI M r k v) r' q fk = zm_fs b M r' q fk
  | [], _ => rfl
  | none :: t, q => by
    simp only [zm_fs, zm_fs_I hne t (q + 1), zm_I_w]
    rw [if_neg (fun z => hne z.1)]
  | some none :: t, q => by
    simp only [zm_fs, zm_fs_I hne t (q + 1)]
    rfl
  | some (some d) :: t, q => by simp only [zm_fs, zm_fs_I hne t (q + 1)]
theorem zm_fs_J {r' k : Nat} {v : Int64} (hne : r' ≠ r) : ∀ (fk : List (Option (Option Nat))) (q : Nat), zm_fs b (zm_wJ M r k v) r' q fk = zm_fs b M r' q fk
  | [], _ => rfl
  | none :: t, q => by
    simp only [zm_fs, zm_fs_J hne t (q + 1)]
    rfl
  | some none :: t, q => by
    simp only [zm_fs, zm_fs_J hne t (q + 1), zm_J_w]
    rw [if_neg (fun z => hne z.1)]
  | some (some d) :: t, q => by simp only [zm_fs, zm_fs_J hne t (q + 1)]
theorem zm_fs_P {k : Nat} {v r' : Nat} : ∀ (fk : List (Option (Option Nat))) (q : Nat), zm_fs b (zm_wP M r k v) r' q fk = zm_fs b M r' q fk
  | [], _ => rfl
  | none :: t, q => by simp only [zm_fs, zm_fs_P t (q + 1)]; rfl
  | some none :: t, q => by simp only [zm_fs, zm_fs_P t (q + 1)]; rfl
  | some (some d) :: t, q => by simp only [zm_fs, zm_fs_P t (q + 1)]
theorem zm_fs_setI {k : Nat} {v : Int32} : ∀ (fk : List (Option (Option Nat))) (q i : Nat), q + i = k → fk[i]? = some none → zm_fs b (zm_wI M r k v) r q fk = (zm_fs b M r q fk).set i (.int v)
  | [], _, _, _, h => by simp at h
  | none :: t, q, 0, hk, _ => by
    simp only [Nat.add_zero] at hk
    subst hk
    have ht : ∀ (t : List (Option (Option Nat))) (p : Nat), q < p → zm_fs b (zm_wI M r q v) r p t = zm_fs b M r p t := by
      intro t
      induction t with
      | nil => intro p _; rfl
      | cons x t ih =>
        intro p hp
        cases x with
        | none =>
          simp only [zm_fs, ih (p + 1) (by omega), zm_I_w]
          rw [if_neg (fun z => by omega)]
        | some x => cases x with
          | none => simp only [zm_fs, ih (p + 1) (by omega)]; rfl
          | some d => simp only [zm_fs, ih (p + 1) (by omega)]
    simp only [zm_fs, ht t (q + 1) (by omega), zm_I_w, List.set_cons_zero]
    simp
  | some x :: t, _, 0, _, h => by simp at h
  | none :: t, q, i + 1, hk, h => by
    have h' : t[i]? = some none := by simpa using h
    have ih := zm_fs_setI (k := k) (v := v) t (q + 1) i (by omega) h'
    simp only [zm_fs, List.set_cons_succ, ih, zm_I_w]
    rw [if_neg (fun z => by omega)]
  | some none :: t, q, i + 1, hk, h => by
    have h' : t[i]? = some none := by simpa using h
    have ih := zm_fs_setI (k := k) (v := v) t (q + 1) i (by omega) h'
    simp only [zm_fs, List.set_cons_succ, ih]
    rfl
  | some (some d) :: t, q, i + 1, hk, h => by
    have h' : t[i]? = some none := by simpa using h
    have ih := zm_fs_setI (k := k) (v := v) t (q + 1) i (by omega) h'
    simp only [zm_fs, List.set_cons_succ, ih]
theorem zm_fs_setJ {k : Nat} {v : Int64} : ∀ (fk : List (Option (Option Nat))) (q i : Nat), q + i = k → fk[i]? = some (some none) → zm_fs b (zm_wJ M r k v) r q fk = (zm_fs b M r q fk).set i (.long v)
  | [], _, _, _, h => by simp at h
  | some none :: t, q, 0, hk, _ => by
    simp only [Nat.add_zero] at hk
    subst hk
    have ht : ∀ (t : List (Option (Option Nat))) (p : Nat), q < p → zm_fs b (zm_wJ M r q v) r p t = zm_fs b M r p t := by
      intro t
      induction t with
      | nil => intro p _; rfl
      | cons x t ih =>
        intro p hp
        cases x with
        | none => simp only [zm_fs, ih (p + 1) (by omega)]; rfl
        | some x => cases x with
          | none =>
            simp only [zm_fs, ih (p + 1) (by omega), zm_J_w]
            rw [if_neg (fun z => by omega)]
          | some d => simp only [zm_fs, ih (p + 1) (by omega)]
    simp only [zm_fs, ht t (q + 1) (by omega), zm_J_w, List.set_cons_zero]
    simp
  | none :: t, _, 0, _, h => by simp at h
  | some (some d) :: t, _, 0, _, h => by simp at h
  | none :: t, q, i + 1, hk, h => by
    have h' : t[i]? = some (some none) := by simpa using h
    have ih := zm_fs_setJ (k := k) (v := v) t (q + 1) i (by omega) h'
    simp only [zm_fs, List.set_cons_succ, ih]
    rfl
  | some none :: t, q, i + 1, hk, h => by
    have h' : t[i]? = some (some none) := by simpa using h
    have ih := zm_fs_setJ (k := k) (v := v) t (q + 1) i (by omega) h'
    simp only [zm_fs, List.set_cons_succ, ih, zm_J_w]
    rw [if_neg (fun z => by omega)]
  | some (some d) :: t, q, i + 1, hk, h => by
    have h' : t[i]? = some (some none) := by simpa using h
    have ih := zm_fs_setJ (k := k) (v := v) t (q + 1) i (by omega) h'
    simp only [zm_fs, List.set_cons_succ, ih]
theorem zm_I_ne {r' k : Nat} {v : Int32} (hne : r' ≠ r) : zm_I (zm_wI M r k v) r' = zm_I M r' := by
  funext q; rw [zm_I_w, if_neg (fun z => hne z.1)]
theorem zm_J_ne {r' k : Nat} {v : Int64} (hne : r' ≠ r) : zm_J (zm_wJ M r k v) r' = zm_J M r' := by
  funext q; rw [zm_J_w, if_neg (fun z => hne z.1)]
theorem zm_ar_ne {r' k s d : Nat} {v : Nat} (hne : r' ≠ r) : zm_ar b (zm_wP M r k v) r' s d = zm_ar b M r' s d := by
  funext q; unfold zm_ar; simp only [zm_P_w]; rw [if_neg (show ¬ (r' = r ∧ q = k) from fun z => hne z.1)]
theorem zm_cell_I {r' k : Nat} {v : Int32} (hne : r' ≠ r) (e : zm_E) : zm_cell b ar (zm_wI M r k v) r' e = zm_cell b ar M r' e := by
  unfold zm_cell
  split <;> first | rfl | (simp only [zm_I_ne hne]) | (simp only [zm_fs_I hne])
theorem zm_cell_J {r' k : Nat} {v : Int64} (hne : r' ≠ r) (e : zm_E) : zm_cell b ar (zm_wJ M r k v) r' e = zm_cell b ar M r' e := by
  unfold zm_cell
  split <;> first | rfl | (simp only [zm_J_ne hne]) | (simp only [zm_fs_J hne])
theorem zm_cell_P {r' k : Nat} {v : Nat} (hne : r' ≠ r) (e : zm_E) : zm_cell b ar (zm_wP M r k v) r' e = zm_cell b ar M r' e := by
  unfold zm_cell
  split <;> first | rfl | (simp only [zm_ar_ne hne]) | (simp only [zm_fs_P])
/-- one cell changes, and the new memory says how -/
theorem zm_up {M' : zm_M} {e : zm_E} {x : va_E} (h : lay r = some e) (h1 : zm_cell b ar M' r e = x) (h2 : ∀ r', r' ≠ r → ∀ e, zm_cell b ar M' r' e = zm_cell b ar M r' e) : va_up (zm_h b ar lay M) (b + r) (some x) = zm_h b ar lay M' := by
  funext a
  unfold va_up zm_h
  by_cases hab : a < b
  · rw [if_pos hab, if_pos hab, if_neg (by omega)]
  · rw [if_neg hab, if_neg hab]
    by_cases ha : a = b + r
    · subst ha
      rw [if_pos rfl, Nat.add_sub_cancel_left, h]
      simp only [Option.map_some, h1]
    · rw [if_neg ha]
      have hr : a - b ≠ r := fun z => ha (by omega)
      cases lay (a - b) with
      | none => rfl
      | some e' => simp only [Option.map_some, h2 _ hr]
theorem zm_up_f {ci k : Nat} {fk : List (Option (Option Nat))} {v : Int32} (h : lay r = some (.inr (ci, fk))) (hk : fk[k]? = some none) : va_up (zm_h b ar lay M) (b + r) (some (.inr (ci, (zm_fs b M r 0 fk).set k (.int v)))) = zm_h b ar lay (zm_wI M r k v) :=
  zm_up h (congrArg (fun z => Sum.inr (ci, z)) (zm_fs_setI (k := k) (v := v) fk 0 k (by omega) hk)) (fun _ hr e => zm_cell_I hr e)
theorem zm_up_g {ci k : Nat} {fk : List (Option (Option Nat))} {v : Int64} (h : lay r = some (.inr (ci, fk))) (hk : fk[k]? = some (some none)) : va_up (zm_h b ar lay M) (b + r) (some (.inr (ci, (zm_fs b M r 0 fk).set k (.long v)))) = zm_h b ar lay (zm_wJ M r k v) :=
  zm_up h (congrArg (fun z => Sum.inr (ci, z)) (zm_fs_setJ (k := k) (v := v) fk 0 k (by omega) hk)) (fun _ hr e => zm_cell_J hr e)
theorem zm_I_upd {k : Nat} {v : Int32} : zm_I (zm_wI M r k v) r = upd (zm_I M r) k v := by
  funext q; rw [zm_I_w]; unfold upd
  by_cases hq : q = k <;> simp [hq]
theorem zm_J_upd {k : Nat} {v : Int64} : zm_J (zm_wJ M r k v) r = vp_updL (zm_J M r) k v := by
  funext q; rw [zm_J_w]; unfold vp_updL
  by_cases hq : q = k <;> simp [hq]
theorem zm_P_upd {k s : Nat} {v : Nat} : zm_ar b (zm_wP M r k v) r s 0 = va_up (zm_ar b M r s 0) k (some (b + v)) := by
  funext q; unfold zm_ar va_up; rw [zm_P_w]
  by_cases hq : q = k <;> simp [hq]
theorem zm_up_0 {N s d k : Nat} {v : Int32} (h : lay r = some (.inl (0, N, s, d))) : va_up (zm_h b ar lay M) (b + r) (some (.inl (ar 0, N, .inl (upd (zm_I M r) k v)))) = zm_h b ar lay (zm_wI M r k v) :=
  zm_up h (by simp only [zm_cell, zm_I_upd]) (fun _ hr e => zm_cell_I hr e)
theorem zm_up_2 {N s d k : Nat} {v : Int32} (h : lay r = some (.inl (2, N, s, d))) : va_up (zm_h b ar lay M) (b + r) (some (.inl (ar 2, N, .inl (upd (zm_I M r) k v)))) = zm_h b ar lay (zm_wI M r k v) :=
  zm_up h (by simp only [zm_cell, zm_I_upd]) (fun _ hr e => zm_cell_I hr e)
theorem zm_up_3 {N s d k : Nat} {v : Int32} (h : lay r = some (.inl (3, N, s, d))) : va_up (zm_h b ar lay M) (b + r) (some (.inl (ar 3, N, .inl (upd (zm_I M r) k v)))) = zm_h b ar lay (zm_wI M r k v) :=
  zm_up h (by simp only [zm_cell, zm_I_upd]) (fun _ hr e => zm_cell_I hr e)
theorem zm_up_1 {N s d k : Nat} {v : Int64} (h : lay r = some (.inl (1, N, s, d))) : va_up (zm_h b ar lay M) (b + r) (some (.inl (ar 1, N, .inr (.inl (vp_updL (zm_J M r) k v))))) = zm_h b ar lay (zm_wJ M r k v) :=
  zm_up h (by simp only [zm_cell, zm_J_upd]) (fun _ hr e => zm_cell_J hr e)
theorem zm_cell_r {t n s d : Nat} (ht : 4 ≤ t) : zm_cell b ar M r (.inl (t, n, s, d)) = .inl (ar t, n, .inr (.inr (.inr (.inr (zm_ar b M r s d))))) := by
  match t, ht with
  | t + 4, _ => rfl
theorem zm_up_r {t N s k : Nat} {v : Nat} (ht : 4 ≤ t) (h : lay r = some (.inl (t, N, s, 0))) : va_up (zm_h b ar lay M) (b + r) (some (.inl (ar t, N, .inr (.inr (.inr (.inr (va_up (zm_ar b M r s 0) k (some (b + v))))))))) = zm_h b ar lay (zm_wP M r k v) :=
  zm_up h (by rw [zm_cell_r ht, zm_P_upd]) (fun _ hr e => zm_cell_P hr e)
end ZMM
theorem zx_for {X : Nat → Prop} (N : Nat) (hend : X N) (hstep : ∀ i, i < N → X (i + 1) → X i) : ∀ i, i ≤ N → X i := by
  intro i hi
  obtain ⟨d, hd⟩ : ∃ d, i + d = N := ⟨N - i, by omega⟩
  induction d generalizing i with
  | zero => have : i = N := by omega
            rw [this]; exact hend
  | succ d ih => exact hstep i (by omega) (ih (i + 1) (by omega) (by omega))
def zm_it (f : Nat → zm_M → zm_M) : Nat → zm_M → zm_M
  | 0, M => M
  | k + 1, M => f k (zm_it f k M)
theorem zm_fs_len {b : Nat} {M : zm_M} {r : Nat} : ∀ (fk : List (Option (Option Nat))) (q : Nat), (zm_fs b M r q fk).length = fk.length
  | [], _ => rfl
  | none :: t, q => by simp only [zm_fs, List.length_cons, zm_fs_len t (q + 1)]
  | some none :: t, q => by simp only [zm_fs, List.length_cons, zm_fs_len t (q + 1)]
  | some (some d) :: t, q => by simp only [zm_fs, List.length_cons, zm_fs_len t (q + 1)]
section ZMR
variable {G : zx_G} {y : zx_Y} {R : Room} {F : List Frame → Array Value → State → State → Prop} {pc pc2 : Nat} {L : zx_L} {st : List Value} {b : Nat} {ar : Nat → ClassId} {lay : Nat → Option zm_E} {M : zm_M} {n k j : Nat} {r N s0 d0 : Nat}
theorem zm_get {ix ci i0 : Nat} {fk : List (Option (Option Nat))} {v : Value} (f : zx_fr G y.1.cls ix ci i0) (d : decode y.2.1 pc = .ok (.getfield ix, 3)) (e0 : pc + 3 = pc2) (hl : lay r = some (.inr (ci, fk))) (hv : (zm_fs b M r 0 fk)[i0]? = some v) (kk : zX G y R F pc2 L (v :: st) (zm_h b ar lay M) n k j) : zX G y R F pc L (.ref (b + r) :: st) (zm_h b ar lay M) n k j :=
  zx_getf f d e0 (zm_at hl) hv kk
theorem zm_putI {ix ci i0 : Nat} {ty : FieldType} {fk : List (Option (Option Nat))} {v : Int32} (f : zx_f G y.1.cls ix ci i0 ty false) (d : decode y.2.1 pc = .ok (.putfield ix, 3)) (e0 : pc + 3 = pc2) (hl : lay r = some (.inr (ci, fk))) (hk : fk[i0]? = some none) (hn : narrow ty (.int v) = .int v) (hf : fits ty (.int v) = true) (kk : zX G y R F pc2 L st (zm_h b ar lay (zm_wI M r i0 v)) n k j) : zX G y R F pc L (.int v :: .ref (b + r) :: st) (zm_h b ar lay M) n k j :=
  zx_putf f d e0 (zm_at hl) hn hf (by show i0 < (zm_fs _ _ _ _ _).length; rw [zm_fs_len]; exact (List.getElem?_eq_some_iff.mp hk).1) (zm_up_f hl hk) kk
theorem zm_putJ {ix ci i0 : Nat} {fk : List (Option (Option Nat))} {v : Int64} (f : zx_f G y.1.cls ix ci i0 .long false) (d : decode y.2.1 pc = .ok (.putfield ix, 3)) (e0 : pc + 3 = pc2) (hl : lay r = some (.inr (ci, fk))) (hk : fk[i0]? = some (some none)) (kk : zX G y R F pc2 L st (zm_h b ar lay (zm_wJ M r i0 v)) n k j) : zX G y R F pc L (.long v :: .ref (b + r) :: st) (zm_h b ar lay M) n k j :=
  zx_putf f d e0 (zm_at hl) rfl rfl (by show i0 < (zm_fs _ _ _ _ _).length; rw [zm_fs_len]; exact (List.getElem?_eq_some_iff.mp hk).1) (zm_up_g hl hk) kk
theorem zm_iald {i : Int32} (d : decode y.2.1 pc = .ok (.iaload, 1)) (e0 : pc + 1 = pc2) (hl : lay r = some (.inl (0, N, s0, d0))) (ht : (zx_gT G)[0]? = some (ar 0, .int)) (hin : vp_in i N) (kk : zX G y R F pc2 L (.int (zm_I M r i.toNatClampNeg) :: st) (zm_h b ar lay M) n k j) : zX G y R F pc L (.int i :: .ref (b + r) :: st) (zm_h b ar lay M) n k j :=
  zx_iald d e0 (zm_at hl) ht hin kk
theorem zm_bald {i : Int32} (d : decode y.2.1 pc = .ok (.baload, 1)) (e0 : pc + 1 = pc2) (hl : lay r = some (.inl (2, N, s0, d0))) (ht : (zx_gT G)[2]? = some (ar 2, .byte)) (hin : vp_in i N) (kk : zX G y R F pc2 L (.int (zm_I M r i.toNatClampNeg) :: st) (zm_h b ar lay M) n k j) : zX G y R F pc L (.int i :: .ref (b + r) :: st) (zm_h b ar lay M) n k j :=
  zx_bald d e0 (zm_at hl) ht hin kk
theorem zm_zald {i : Int32} (d : decode y.2.1 pc = .ok (.baload, 1)) (e0 : pc + 1 = pc2) (hl : lay r = some (.inl (3, N, s0, d0))) (ht : (zx_gT G)[3]? = some (ar 3, .boolean)) (hin : vp_in i N) (kk : zX G y R F pc2 L (.int (zm_I M r i.toNatClampNeg) :: st) (zm_h b ar lay M) n k j) : zX G y R F pc L (.int i :: .ref (b + r) :: st) (zm_h b ar lay M) n k j :=
  zx_zald d e0 (zm_at hl) ht hin kk
theorem zm_lald {i : Int32} (d : decode y.2.1 pc = .ok (.laload, 1)) (e0 : pc + 1 = pc2) (hl : lay r = some (.inl (1, N, s0, d0))) (ht : (zx_gT G)[1]? = some (ar 1, .long)) (hin : vp_in i N) (kk : zX G y R F pc2 L (.long (zm_J M r i.toNatClampNeg) :: st) (zm_h b ar lay M) n k j) : zX G y R F pc L (.int i :: .ref (b + r) :: st) (zm_h b ar lay M) n k j :=
  zx_lald d e0 (zm_at hl) ht hin kk
theorem zm_aald {t x : Nat} {C0 : String} {i : Int32} (d : decode y.2.1 pc = .ok (.aaload, 1)) (e0 : pc + 1 = pc2) (h4 : 4 ≤ t) (hl : lay r = some (.inl (t, N, s0, d0))) (ht : (zx_gT G)[t]? = some (ar t, .object C0)) (hin : vp_in i N) (hx : (if d0 = 0 then zm_P M r i.toNatClampNeg else s0 + d0 * i.toNatClampNeg) = x) (kk : zX G y R F pc2 L (.ref (b + x) :: st) (zm_h b ar lay M) n k j) : zX G y R F pc L (.int i :: .ref (b + r) :: st) (zm_h b ar lay M) n k j :=
  zx_aald d e0 ((zm_at hl).trans (congrArg some (zm_cell_r h4))) ht hin (by unfold zm_ar; rw [hx]) kk
theorem zm_iast {i x : Int32} (d : decode y.2.1 pc = .ok (.iastore, 1)) (e0 : pc + 1 = pc2) (hl : lay r = some (.inl (0, N, s0, d0))) (ht : (zx_gT G)[0]? = some (ar 0, .int)) (hin : vp_in i N) (kk : zX G y R F pc2 L st (zm_h b ar lay (zm_wI M r i.toNatClampNeg x)) n k j) : zX G y R F pc L (.int x :: .int i :: .ref (b + r) :: st) (zm_h b ar lay M) n k j :=
  zx_iast d e0 (zm_at hl) ht hin (zm_up_0 hl) kk
theorem zm_bast {i x : Int32} (d : decode y.2.1 pc = .ok (.bastore, 1)) (e0 : pc + 1 = pc2) (hl : lay r = some (.inl (2, N, s0, d0))) (ht : (zx_gT G)[2]? = some (ar 2, .byte)) (hin : vp_in i N) (kk : zX G y R F pc2 L st (zm_h b ar lay (zm_wI M r i.toNatClampNeg (vp_nar .byte x))) n k j) : zX G y R F pc L (.int x :: .int i :: .ref (b + r) :: st) (zm_h b ar lay M) n k j :=
  zx_bast d e0 (zm_at hl) ht hin (zm_up_2 hl) kk
theorem zm_zast {i x : Int32} (d : decode y.2.1 pc = .ok (.bastore, 1)) (e0 : pc + 1 = pc2) (hl : lay r = some (.inl (3, N, s0, d0))) (ht : (zx_gT G)[3]? = some (ar 3, .boolean)) (hin : vp_in i N) (kk : zX G y R F pc2 L st (zm_h b ar lay (zm_wI M r i.toNatClampNeg (vp_nar .boolean x))) n k j) : zX G y R F pc L (.int x :: .int i :: .ref (b + r) :: st) (zm_h b ar lay M) n k j :=
  zx_zast d e0 (zm_at hl) ht hin (zm_up_3 hl) kk
theorem zm_last {i : Int32} {x : Int64} (d : decode y.2.1 pc = .ok (.lastore, 1)) (e0 : pc + 1 = pc2) (hl : lay r = some (.inl (1, N, s0, d0))) (ht : (zx_gT G)[1]? = some (ar 1, .long)) (hin : vp_in i N) (kk : zX G y R F pc2 L st (zm_h b ar lay (zm_wJ M r i.toNatClampNeg x)) n k j) : zX G y R F pc L (.long x :: .int i :: .ref (b + r) :: st) (zm_h b ar lay M) n k j :=
  zx_last d e0 (zm_at hl) ht hin (zm_up_1 hl) kk
theorem zm_aast {t rv ci : Nat} {r0 : vw_C} {fk : List (Option (Option Nat))} {i : Int32} (d : decode y.2.1 pc = .ok (.aastore, 1)) (e0 : pc + 1 = pc2) (h4 : 4 ≤ t) (hl : lay r = some (.inl (t, N, s0, 0))) (ht : (zx_gT G)[t]? = some (ar t, .object r0.1)) (hv : lay rv = some (.inr (ci, fk))) (hc : (zx_gC G)[ci]? = some r0) (hin : vp_in i N) (kk : zX G y R F pc2 L st (zm_h b ar lay (zm_wP M r i.toNatClampNeg rv)) n k j) : zX G y R F pc L (.ref (b + rv) :: .int i :: .ref (b + r) :: st) (zm_h b ar lay M) n k j :=
  zx_aast d e0 ((zm_at hl).trans (congrArg some (zm_cell_r h4))) ht (zm_at hv) hc hin (zm_up_r h4 hl) kk
end ZMR
end
section
/-! classes, methods, sites (written by program) -/
theorem zn_ok : ∀ w ∈ zn_W, zx_ok w := fun w h => good_of_word (List.mem_filter.mp h).2
def zn_THo : u_T := fun k => match k with
  | 0 => ("LogHouse", "stations", "[LLogHouse$Station;", true)
  | 1 => ("LogHouse", "proposers", "[LLogHouse$Proposer;", true)
  | 2 => ("LogHouse", "row", "LLogHouse$Row;", true)
  | 3 => ("LogHouse", "gathering", "LLogHouse$Gathering;", true)
  | 4 => ("LogHouse", "rebuilt", "LLogHouse$Report;", true)
  | _ => ("LogHouse", "lastRead", "LLogHouse$Report;", true)
def zn_tHo : Nat → FieldType := fun k => match k with
  | 0 => .array (.object "LogHouse$Station")
  | 1 => .array (.object "LogHouse$Proposer")
  | 2 => .object "LogHouse$Row"
  | 3 => .object "LogHouse$Gathering"
  | 4 => .object "LogHouse$Report"
  | _ => .object "LogHouse$Report"
theorem zn_nHo : ∀ a, a < 6 → ∀ b, b < 6 → a ≠ b → (zn_THo a).2.1 ≠ (zn_THo b).2.1 := by decide +kernel
theorem zn_oHo : ∀ k, k < 6 → parseFieldDescriptor (zn_THo k).2.2.1 = some (zn_tHo k) := by decide +kernel
theorem zn_uHo : ∀ w ∈ u_ws "LogHouse" zn_THo 6, w ∈ zn_W := by
  intro w hw
  obtain ⟨k, hk, rfl⟩ := List.mem_map.mp hw
  have hk := List.mem_range.mp hk
  match k, hk with
  | 0, _ => exact zn_w259
  | 1, _ => exact zn_w261
  | 2, _ => exact zn_w263
  | 3, _ => exact zn_w265
  | 4, _ => exact zn_w267
  | 5, _ => exact zn_w269
  | k + 6, h => omega
def zn_TSt : u_T := fun k => match k with
  | 0 => ("LogHouse$Station", "promised", "I", false)
  | 1 => ("LogHouse$Station", "isUp", "Z", false)
  | 2 => ("LogHouse$Station", "wasWiped", "Z", false)
  | _ => ("LogHouse$Station", "shelf", "LLogHouse$Shelf;", true)
def zn_tSt : Nat → FieldType := fun k => match k with
  | 0 => .int
  | 1 => .boolean
  | 2 => .boolean
  | _ => .object "LogHouse$Shelf"
theorem zn_nSt : ∀ a, a < 4 → ∀ b, b < 4 → a ≠ b → (zn_TSt a).2.1 ≠ (zn_TSt b).2.1 := by decide +kernel
theorem zn_oSt : ∀ k, k < 4 → parseFieldDescriptor (zn_TSt k).2.2.1 = some (zn_tSt k) := by decide +kernel
theorem zn_uSt : ∀ w ∈ u_ws "LogHouse$Station" zn_TSt 4, w ∈ zn_W := by
  intro w hw
  obtain ⟨k, hk, rfl⟩ := List.mem_map.mp hw
  have hk := List.mem_range.mp hk
  match k, hk with
  | 0, _ => exact zn_w72
  | 1, _ => exact zn_w74
  | 2, _ => exact zn_w76
  | 3, _ => exact zn_w78
  | k + 4, h => omega
def zn_TSh : u_T := fun k => match k with
  | 0 => ("LogHouse$Shelf", "ballots", "[I", true)
  | 1 => ("LogHouse$Shelf", "identities", "[I", true)
  | 2 => ("LogHouse$Shelf", "lengths", "[I", true)
  | _ => ("LogHouse$Shelf", "shares", "[J", true)
def zn_tSh : Nat → FieldType := fun k => match k with
  | 0 => .array .int
  | 1 => .array .int
  | 2 => .array .int
  | _ => .array .long
theorem zn_nSh : ∀ a, a < 4 → ∀ b, b < 4 → a ≠ b → (zn_TSh a).2.1 ≠ (zn_TSh b).2.1 := by decide +kernel
theorem zn_oSh : ∀ k, k < 4 → parseFieldDescriptor (zn_TSh k).2.2.1 = some (zn_tSh k) := by decide +kernel
theorem zn_uSh : ∀ w ∈ u_ws "LogHouse$Shelf" zn_TSh 4, w ∈ zn_W := by
  intro w hw
  obtain ⟨k, hk, rfl⟩ := List.mem_map.mp hw
  have hk := List.mem_range.mp hk
  match k, hk with
  | 0, _ => exact zn_w53
  | 1, _ => exact zn_w55
  | 2, _ => exact zn_w57
  | 3, _ => exact zn_w59
  | k + 4, h => omega
def zn_TPr : u_T := fun k => match k with
  | 0 => ("LogHouse$Proposer", "number", "I", true)
  | 1 => ("LogHouse$Proposer", "phase", "I", false)
  | 2 => ("LogHouse$Proposer", "ballot", "I", false)
  | 3 => ("LogHouse$Proposer", "promisedBy", "I", false)
  | 4 => ("LogHouse$Proposer", "draftLength", "I", false)
  | 5 => ("LogHouse$Proposer", "draft", "[B", true)
  | 6 => ("LogHouse$Proposer", "promises", "[LLogHouse$Shelf;", true)
  | _ => ("LogHouse$Proposer", "spots", "[LLogHouse$Spot;", true)
def zn_tPr : Nat → FieldType := fun k => match k with
  | 0 => .int
  | 1 => .int
  | 2 => .int
  | 3 => .int
  | 4 => .int
  | 5 => .array .byte
  | 6 => .array (.object "LogHouse$Shelf")
  | _ => .array (.object "LogHouse$Spot")
theorem zn_nPr : ∀ a, a < 8 → ∀ b, b < 8 → a ≠ b → (zn_TPr a).2.1 ≠ (zn_TPr b).2.1 := by decide +kernel
theorem zn_oPr : ∀ k, k < 8 → parseFieldDescriptor (zn_TPr k).2.2.1 = some (zn_tPr k) := by decide +kernel
theorem zn_uPr : ∀ w ∈ u_ws "LogHouse$Proposer" zn_TPr 8, w ∈ zn_W := by
  intro w hw
  obtain ⟨k, hk, rfl⟩ := List.mem_map.mp hw
  have hk := List.mem_range.mp hk
  match k, hk with
  | 0, _ => exact zn_w145
  | 1, _ => exact zn_w147
  | 2, _ => exact zn_w149
  | 3, _ => exact zn_w151
  | 4, _ => exact zn_w153
  | 5, _ => exact zn_w155
  | 6, _ => exact zn_w157
  | 7, _ => exact zn_w159
  | k + 8, h => omega
def zn_TSp : u_T := fun k => match k with
  | 0 => ("LogHouse$Spot", "decidedIdentity", "I", false)
  | 1 => ("LogHouse$Spot", "proposedIdentity", "I", false)
  | 2 => ("LogHouse$Spot", "answeredBy", "I", false)
  | _ => ("LogHouse$Spot", "report", "LLogHouse$Report;", true)
def zn_tSp : Nat → FieldType := fun k => match k with
  | 0 => .int
  | 1 => .int
  | 2 => .int
  | _ => .object "LogHouse$Report"
theorem zn_nSp : ∀ a, a < 4 → ∀ b, b < 4 → a ≠ b → (zn_TSp a).2.1 ≠ (zn_TSp b).2.1 := by decide +kernel
theorem zn_oSp : ∀ k, k < 4 → parseFieldDescriptor (zn_TSp k).2.2.1 = some (zn_tSp k) := by decide +kernel
theorem zn_uSp : ∀ w ∈ u_ws "LogHouse$Spot" zn_TSp 4, w ∈ zn_W := by
  intro w hw
  obtain ⟨k, hk, rfl⟩ := List.mem_map.mp hw
  have hk := List.mem_range.mp hk
  match k, hk with
  | 0, _ => exact zn_w122
  | 1, _ => exact zn_w124
  | 2, _ => exact zn_w126
  | 3, _ => exact zn_w128
  | k + 4, h => omega
def zn_TRe : u_T := fun k => match k with
  | 0 => ("LogHouse$Report", "length", "I", false)
  | _ => ("LogHouse$Report", "pieces", "[J", true)
def zn_tRe : Nat → FieldType := fun k => match k with
  | 0 => .int
  | _ => .array .long
theorem zn_nRe : ∀ a, a < 2 → ∀ b, b < 2 → a ≠ b → (zn_TRe a).2.1 ≠ (zn_TRe b).2.1 := by decide +kernel
theorem zn_oRe : ∀ k, k < 2 → parseFieldDescriptor (zn_TRe k).2.2.1 = some (zn_tRe k) := by decide +kernel
theorem zn_uRe : ∀ w ∈ u_ws "LogHouse$Report" zn_TRe 2, w ∈ zn_W := by
  intro w hw
  obtain ⟨k, hk, rfl⟩ := List.mem_map.mp hw
  have hk := List.mem_range.mp hk
  match k, hk with
  | 0, _ => exact zn_w108
  | 1, _ => exact zn_w110
  | k + 2, h => omega
def zn_TRo : u_T := fun k => match k with
  | 0 => ("LogHouse$Row", "count", "I", false)
  | _ => ("LogHouse$Row", "slots", "[LLogHouse$Letter;", true)
def zn_tRo : Nat → FieldType := fun k => match k with
  | 0 => .int
  | _ => .array (.object "LogHouse$Letter")
theorem zn_nRo : ∀ a, a < 2 → ∀ b, b < 2 → a ≠ b → (zn_TRo a).2.1 ≠ (zn_TRo b).2.1 := by decide +kernel
theorem zn_oRo : ∀ k, k < 2 → parseFieldDescriptor (zn_TRo k).2.2.1 = some (zn_tRo k) := by decide +kernel
theorem zn_uRo : ∀ w ∈ u_ws "LogHouse$Row" zn_TRo 2, w ∈ zn_W := by
  intro w hw
  obtain ⟨k, hk, rfl⟩ := List.mem_map.mp hw
  have hk := List.mem_range.mp hk
  match k, hk with
  | 0, _ => exact zn_w223
  | 1, _ => exact zn_w225
  | k + 2, h => omega
def zn_TLe : u_T := fun k => match k with
  | 0 => ("LogHouse$Letter", "kind", "I", false)
  | 1 => ("LogHouse$Letter", "station", "I", false)
  | 2 => ("LogHouse$Letter", "proposer", "I", false)
  | 3 => ("LogHouse$Letter", "ballot", "I", false)
  | 4 => ("LogHouse$Letter", "place", "I", false)
  | 5 => ("LogHouse$Letter", "identity", "I", false)
  | 6 => ("LogHouse$Letter", "length", "I", false)
  | 7 => ("LogHouse$Letter", "share", "J", false)
  | _ => ("LogHouse$Letter", "shelf", "LLogHouse$Shelf;", true)
def zn_tLe : Nat → FieldType := fun k => match k with
  | 0 => .int
  | 1 => .int
  | 2 => .int
  | 3 => .int
  | 4 => .int
  | 5 => .int
  | 6 => .int
  | 7 => .long
  | _ => .object "LogHouse$Shelf"
theorem zn_nLe : ∀ a, a < 9 → ∀ b, b < 9 → a ≠ b → (zn_TLe a).2.1 ≠ (zn_TLe b).2.1 := by decide +kernel
theorem zn_oLe : ∀ k, k < 9 → parseFieldDescriptor (zn_TLe k).2.2.1 = some (zn_tLe k) := by decide +kernel
theorem zn_uLe : ∀ w ∈ u_ws "LogHouse$Letter" zn_TLe 9, w ∈ zn_W := by
  intro w hw
  obtain ⟨k, hk, rfl⟩ := List.mem_map.mp hw
  have hk := List.mem_range.mp hk
  match k, hk with
  | 0, _ => exact zn_w200
  | 1, _ => exact zn_w202
  | 2, _ => exact zn_w204
  | 3, _ => exact zn_w206
  | 4, _ => exact zn_w208
  | 5, _ => exact zn_w210
  | 6, _ => exact zn_w212
  | 7, _ => exact zn_w214
  | 8, _ => exact zn_w216
  | k + 9, h => omega
def zn_TGa : u_T := fun k => match k with
  | 0 => ("LogHouse$Gathering", "identity", "I", false)
  | 1 => ("LogHouse$Gathering", "length", "I", false)
  | 2 => ("LogHouse$Gathering", "count", "I", false)
  | 3 => ("LogHouse$Gathering", "points", "[I", true)
  | _ => ("LogHouse$Gathering", "shares", "[J", true)
def zn_tGa : Nat → FieldType := fun k => match k with
  | 0 => .int
  | 1 => .int
  | 2 => .int
  | 3 => .array .int
  | _ => .array .long
theorem zn_nGa : ∀ a, a < 5 → ∀ b, b < 5 → a ≠ b → (zn_TGa a).2.1 ≠ (zn_TGa b).2.1 := by decide +kernel
theorem zn_oGa : ∀ k, k < 5 → parseFieldDescriptor (zn_TGa k).2.2.1 = some (zn_tGa k) := by decide +kernel
theorem zn_uGa : ∀ w ∈ u_ws "LogHouse$Gathering" zn_TGa 5, w ∈ zn_W := by
  intro w hw
  obtain ⟨k, hk, rfl⟩ := List.mem_map.mp hw
  have hk := List.mem_range.mp hk
  match k, hk with
  | 0, _ => exact zn_w240
  | 1, _ => exact zn_w242
  | 2, _ => exact zn_w244
  | 3, _ => exact zn_w246
  | 4, _ => exact zn_w248
  | k + 5, h => omega
def zn_TMo : u_T := fun k => match k with
  | 0 => ("LogHouseModel", "thrownCode", "I", false)
  | 1 => ("LogHouseModel", "promised", "[I", true)
  | 2 => ("LogHouseModel", "down", "[Z", true)
  | 3 => ("LogHouseModel", "wiped", "[Z", true)
  | 4 => ("LogHouseModel", "has", "[I", true)
  | 5 => ("LogHouseModel", "letters", "I", false)
  | 6 => ("LogHouseModel", "head", "[I", true)
  | 7 => ("LogHouseModel", "said", "[I", true)
  | 8 => ("LogHouseModel", "phase", "[I", true)
  | 9 => ("LogHouseModel", "ballot", "[I", true)
  | 10 => ("LogHouseModel", "promises", "[I", true)
  | 11 => ("LogHouseModel", "heard", "[I", true)
  | 12 => ("LogHouseModel", "written", "[I", true)
  | 13 => ("LogHouseModel", "writes", "[I", true)
  | 14 => ("LogHouseModel", "known", "[I", true)
  | 15 => ("LogHouseModel", "proposed", "[I", true)
  | 16 => ("LogHouseModel", "lengths", "[I", true)
  | 17 => ("LogHouseModel", "answers", "[I", true)
  | 18 => ("LogHouseModel", "reports", "[I", true)
  | 19 => ("LogHouseModel", "powers", "[I", true)
  | 20 => ("LogHouseModel", "logs", "[I", true)
  | 21 => ("LogHouseModel", "three", "[I", true)
  | 22 => ("LogHouseModel", "bytes", "[I", true)
  | 23 => ("LogHouseModel", "put", "[I", true)
  | 24 => ("LogHouseModel", "readNow", "[I", true)
  | 25 => ("LogHouseModel", "reads", "I", false)
  | 26 => ("LogHouseModel", "one", "[I", true)
  | _ => ("LogHouseModel", "text", "[I", true)
def zn_tMo : Nat → FieldType := fun k => match k with
  | 0 => .int
  | 1 => .array .int
  | 2 => .array .boolean
  | 3 => .array .boolean
  | 4 => .array .int
  | 5 => .int
  | 6 => .array .int
  | 7 => .array .int
  | 8 => .array .int
  | 9 => .array .int
  | 10 => .array .int
  | 11 => .array .int
  | 12 => .array .int
  | 13 => .array .int
  | 14 => .array .int
  | 15 => .array .int
  | 16 => .array .int
  | 17 => .array .int
  | 18 => .array .int
  | 19 => .array .int
  | 20 => .array .int
  | 21 => .array .int
  | 22 => .array .int
  | 23 => .array .int
  | 24 => .array .int
  | 25 => .int
  | 26 => .array .int
  | _ => .array .int
theorem zn_nMo : ∀ a, a < 28 → ∀ b, b < 28 → a ≠ b → (zn_TMo a).2.1 ≠ (zn_TMo b).2.1 := by decide +kernel
theorem zn_oMo : ∀ k, k < 28 → parseFieldDescriptor (zn_TMo k).2.2.1 = some (zn_tMo k) := by decide +kernel
theorem zn_uMo : ∀ w ∈ u_ws "LogHouseModel" zn_TMo 28, w ∈ zn_W := by
  intro w hw
  obtain ⟨k, hk, rfl⟩ := List.mem_map.mp hw
  have hk := List.mem_range.mp hk
  match k, hk with
  | 0, _ => exact zn_w798
  | 1, _ => exact zn_w800
  | 2, _ => exact zn_w802
  | 3, _ => exact zn_w804
  | 4, _ => exact zn_w806
  | 5, _ => exact zn_w808
  | 6, _ => exact zn_w810
  | 7, _ => exact zn_w812
  | 8, _ => exact zn_w814
  | 9, _ => exact zn_w816
  | 10, _ => exact zn_w818
  | 11, _ => exact zn_w820
  | 12, _ => exact zn_w822
  | 13, _ => exact zn_w824
  | 14, _ => exact zn_w826
  | 15, _ => exact zn_w828
  | 16, _ => exact zn_w830
  | 17, _ => exact zn_w832
  | 18, _ => exact zn_w834
  | 19, _ => exact zn_w836
  | 20, _ => exact zn_w838
  | 21, _ => exact zn_w840
  | 22, _ => exact zn_w842
  | 23, _ => exact zn_w844
  | 24, _ => exact zn_w846
  | 25, _ => exact zn_w848
  | 26, _ => exact zn_w850
  | 27, _ => exact zn_w852
  | k + 28, h => omega
abbrev zn_cl : List vw_C := [("LogHouse", zn_THo, 6), ("LogHouse$Station", zn_TSt, 4), ("LogHouse$Shelf", zn_TSh, 4), ("LogHouse$Proposer", zn_TPr, 8), ("LogHouse$Spot", zn_TSp, 4), ("LogHouse$Report", zn_TRe, 2), ("LogHouse$Row", zn_TRo, 2), ("LogHouse$Letter", zn_TLe, 9), ("LogHouse$Gathering", zn_TGa, 5), ("LogHouseModel", zn_TMo, 28)]
abbrev zn_at (ar : Nat → ClassId) : List (ClassId × FieldType) := [(ar 0, .int), (ar 1, .long), (ar 2, .byte), (ar 3, .boolean), (ar 4, .object "LogHouse$Station"), (ar 5, .object "LogHouse$Proposer"), (ar 6, .object "LogHouse$Shelf"), (ar 7, .object "LogHouse$Spot"), (ar 8, .object "LogHouse$Letter")]
/-- what is said of the tables beside the words: nest links, array classes -/
def zn_N (U : State) : Prop := va_Nw (.methodLinkNest "LogHouse" 15 ⟨"LogHouse$Station", "<init>", "()V"⟩ "LogHouse") U ∧ va_Nw (.methodLinkNest "LogHouse$Station" 15 ⟨"LogHouse$Shelf", "<init>", "()V"⟩ "LogHouse") U ∧ va_Nw (.methodLinkNest "LogHouse$Proposer" 34 ⟨"LogHouse$Shelf", "<init>", "()V"⟩ "LogHouse") U ∧ va_Nw (.methodLinkNest "LogHouse$Proposer" 35 ⟨"LogHouse$Spot", "<init>", "()V"⟩ "LogHouse") U ∧ va_Nw (.methodLinkNest "LogHouse$Spot" 11 ⟨"LogHouse$Report", "<init>", "()V"⟩ "LogHouse") U ∧ va_Nw (.methodLinkNest "LogHouse$Row" 17 ⟨"LogHouse$Letter", "<init>", "()V"⟩ "LogHouse") U ∧ va_Nw (.methodLinkNest "LogHouse$Letter" 11 ⟨"LogHouse$Shelf", "<init>", "()V"⟩ "LogHouse") U ∧ va_Nw (.methodLinkNest "LogHouse" 34 ⟨"LogHouse$Gathering", "<init>", "()V"⟩ "LogHouse") U ∧ va_Nw (.methodLinkNest "LogHouse" 41 ⟨"LogHouse$Report", "<init>", "()V"⟩ "LogHouse") U ∧ va_AO "LogHouse$Station" U ∧ va_AO "LogHouse$Proposer" U ∧ va_AO "LogHouse$Shelf" U ∧ va_AO "LogHouse$Spot" U ∧ va_AO "LogHouse$Letter" U
abbrev zn_G (l : Launch) (D : va_G) (ar : Nat → ClassId) (b : Nat) (Z : State → Prop) : zx_G := (l, D, zn_cl, zn_at ar, b, (fun U => zn_N U ∧ Z U), zn_W)
section ZN
variable {l : Launch} {D : va_G} {ar : Nat → ClassId} {b : Nat} {Z : State → Prop}
theorem zn_aoSt : ∀ U, zx_gZ (zn_G l D ar b Z) U → va_AO "LogHouse$Station" U := fun U h => h.1.2.2.2.2.2.2.2.2.2.1
theorem zn_aoPr : ∀ U, zx_gZ (zn_G l D ar b Z) U → va_AO "LogHouse$Proposer" U := fun U h => h.1.2.2.2.2.2.2.2.2.2.2.1
theorem zn_aoSh : ∀ U, zx_gZ (zn_G l D ar b Z) U → va_AO "LogHouse$Shelf" U := fun U h => h.1.2.2.2.2.2.2.2.2.2.2.2.1
theorem zn_aoSp : ∀ U, zx_gZ (zn_G l D ar b Z) U → va_AO "LogHouse$Spot" U := fun U h => h.1.2.2.2.2.2.2.2.2.2.2.2.2.1
theorem zn_aoLe : ∀ U, zx_gZ (zn_G l D ar b Z) U → va_AO "LogHouse$Letter" U := fun U h => h.1.2.2.2.2.2.2.2.2.2.2.2.2.2
abbrev y_Ho_init : zx_Y := (⟨"LogHouse", "<init>", "()V"⟩, prog_1_method_1_code, 2, (Option.none : Option FieldType), [])
abbrev y_Ob_init : zx_Y := (⟨"java/lang/Object", "<init>", "()V"⟩, object_method_1_code, 1, (Option.none : Option FieldType), [])
abbrev y_St_init : zx_Y := (⟨"LogHouse$Station", "<init>", "()V"⟩, prog_10_method_1_code, 1, (Option.none : Option FieldType), [])
abbrev y_Sh_init : zx_Y := (⟨"LogHouse$Shelf", "<init>", "()V"⟩, prog_8_method_1_code, 1, (Option.none : Option FieldType), [])
abbrev y_Pr_init : zx_Y := (⟨"LogHouse$Proposer", "<init>", "(I)V"⟩, prog_5_method_1_code, 3, (Option.none : Option FieldType), [])
abbrev y_Sp_init : zx_Y := (⟨"LogHouse$Spot", "<init>", "()V"⟩, prog_9_method_1_code, 1, (Option.none : Option FieldType), [])
abbrev y_Re_init : zx_Y := (⟨"LogHouse$Report", "<init>", "()V"⟩, prog_6_method_1_code, 1, (Option.none : Option FieldType), [])
abbrev y_Ro_init : zx_Y := (⟨"LogHouse$Row", "<init>", "()V"⟩, prog_7_method_1_code, 2, (Option.none : Option FieldType), [])
abbrev y_Le_init : zx_Y := (⟨"LogHouse$Letter", "<init>", "()V"⟩, prog_4_method_1_code, 1, (Option.none : Option FieldType), [])
abbrev y_Ga_init : zx_Y := (⟨"LogHouse$Gathering", "<init>", "()V"⟩, prog_3_method_1_code, 1, (Option.none : Option FieldType), [])
abbrev y_Ho_byteIn : zx_Y := (⟨"LogHouse", "byteIn", "(III)Z"⟩, prog_1_method_2_code, 4, (Option.some FieldType.boolean), [])
abbrev y_Ho_isProposer : zx_Y := (⟨"LogHouse", "isProposer", "(I)Z"⟩, prog_1_method_20_code, 1, (Option.some FieldType.boolean), [])
abbrev y_Pr_write : zx_Y := (⟨"LogHouse$Proposer", "write", "(II)Z"⟩, prog_5_method_2_code, 4, (Option.some FieldType.boolean), [])
abbrev y_Ho_letters : zx_Y := (⟨"LogHouse", "letters", "()I"⟩, prog_1_method_9_code, 1, (Option.some FieldType.int), [])
abbrev y_La_campaign : zx_Y := (⟨"LogHouseLaw", "campaign", "(LLogHouse;I[J)I"⟩, method_3_code, 4, (Option.some FieldType.int), [((0 : Nat), (9 : Nat), (12 : Nat), (13 : Nat))])
abbrev y_Ho_campaign : zx_Y := (⟨"LogHouse", "campaign", "(I)I"⟩, prog_1_method_3_code, 3, (Option.some FieldType.int), [])
abbrev y_Ho_checkProposer : zx_Y := (⟨"LogHouse", "checkProposer", "(I)V"⟩, prog_1_method_21_code, 1, (Option.none : Option FieldType), [])
abbrev y_Th_init : zx_Y := (⟨"java/lang/Throwable", "<init>", "()V"⟩, prog_20_method_1_code, 1, (Option.none : Option FieldType), [])
abbrev y_Ia_init : zx_Y := (⟨"java/lang/IllegalArgumentException", "<init>", "()V"⟩, prog_14_method_1_code, 1, (Option.none : Option FieldType), [])
abbrev y_Ru_init : zx_Y := (⟨"java/lang/RuntimeException", "<init>", "()V"⟩, prog_19_method_1_code, 1, (Option.none : Option FieldType), [])
abbrev y_Ex_init : zx_Y := (⟨"java/lang/Exception", "<init>", "()V"⟩, prog_13_method_1_code, 1, (Option.none : Option FieldType), [])
abbrev y_Ho_highestPromised : zx_Y := (⟨"LogHouse", "highestPromised", "()I"⟩, prog_1_method_25_code, 3, (Option.some FieldType.int), [])
abbrev y_Ma_max : zx_Y := (⟨"java/lang/Math", "max", "(II)I"⟩, prog_18_method_65_code, 2, (Option.some FieldType.int), [])
abbrev y_Pr_begin : zx_Y := (⟨"LogHouse$Proposer", "begin", "(I)V"⟩, prog_5_method_3_code, 5, (Option.none : Option FieldType), [])
abbrev y_Sp_forget : zx_Y := (⟨"LogHouse$Spot", "forget", "()V"⟩, prog_9_method_6_code, 1, (Option.none : Option FieldType), [])
abbrev y_Sp_proposeAs : zx_Y := (⟨"LogHouse$Spot", "proposeAs", "(I)V"⟩, prog_9_method_5_code, 2, (Option.none : Option FieldType), [])
abbrev y_Ho_sendPrepares : zx_Y := (⟨"LogHouse", "sendPrepares", "(LLogHouse$Proposer;)V"⟩, prog_1_method_26_code, 3, (Option.none : Option FieldType), [])
abbrev y_Pr_hasPromiseOf : zx_Y := (⟨"LogHouse$Proposer", "hasPromiseOf", "(I)Z"⟩, prog_5_method_6_code, 2, (Option.some FieldType.boolean), [])
abbrev y_Ro_post : zx_Y := (⟨"LogHouse$Row", "post", "(IIII)LLogHouse$Letter;"⟩, prog_7_method_4_code, 6, (Option.some (FieldType.object "LogHouse$Letter")), [])
abbrev y_Ro_append : zx_Y := (⟨"LogHouse$Row", "append", "()LLogHouse$Letter;"⟩, prog_7_method_3_code, 2, (Option.some (FieldType.object "LogHouse$Letter")), [])
abbrev y_Le_address : zx_Y := (⟨"LogHouse$Letter", "address", "(IIII)V"⟩, prog_4_method_2_code, 5, (Option.none : Option FieldType), [])
abbrev y_La_propose : zx_Y := (⟨"LogHouseLaw", "propose", "(LLogHouse;I[J)I"⟩, method_4_code, 4, (Option.some FieldType.int), [((0 : Nat), (9 : Nat), (12 : Nat), (13 : Nat)), ((0 : Nat), (9 : Nat), (15 : Nat), (18 : Nat))])
abbrev y_Ho_propose : zx_Y := (⟨"LogHouse", "propose", "(I)I"⟩, prog_1_method_4_code, 4, (Option.some FieldType.int), [])
abbrev y_Pr_firstFree : zx_Y := (⟨"LogHouse$Proposer", "firstFree", "()I"⟩, prog_5_method_4_code, 2, (Option.some FieldType.int), [])
abbrev y_Sp_isOpen : zx_Y := (⟨"LogHouse$Spot", "isOpen", "()Z"⟩, prog_9_method_2_code, 1, (Option.some FieldType.boolean), [])
abbrev y_Is_init : zx_Y := (⟨"java/lang/IllegalStateException", "<init>", "()V"⟩, prog_15_method_1_code, 1, (Option.none : Option FieldType), [])
abbrev y_Pr_proposeDraft : zx_Y := (⟨"LogHouse$Proposer", "proposeDraft", "(I)V"⟩, prog_5_method_5_code, 2, (Option.none : Option FieldType), [])
abbrev y_Re_cut : zx_Y := (⟨"LogHouse$Report", "cut", "([BI)V"⟩, prog_6_method_4_code, 5, (Option.none : Option FieldType), [])
abbrev y_Re_clearPieces : zx_Y := (⟨"LogHouse$Report", "clearPieces", "()V"⟩, prog_6_method_5_code, 2, (Option.none : Option FieldType), [])
abbrev y_Re_third : zx_Y := (⟨"LogHouse$Report", "third", "(I)I"⟩, prog_6_method_2_code, 1, (Option.some FieldType.int), [])
abbrev y_Ho_sendAccepts : zx_Y := (⟨"LogHouse", "sendAccepts", "(LLogHouse$Proposer;I)V"⟩, prog_1_method_28_code, 6, (Option.none : Option FieldType), [])
abbrev y_Sp_hasAnswerOf : zx_Y := (⟨"LogHouse$Spot", "hasAnswerOf", "(I)Z"⟩, prog_9_method_4_code, 2, (Option.some FieldType.boolean), [])
abbrev y_Le_aboutPlace : zx_Y := (⟨"LogHouse$Letter", "aboutPlace", "(II)V"⟩, prog_4_method_3_code, 3, (Option.none : Option FieldType), [])
abbrev y_Re_shareOf : zx_Y := (⟨"LogHouse$Report", "shareOf", "(I)J"⟩, prog_6_method_7_code, 6, (Option.some FieldType.long), [])
abbrev y_Re_pointOf : zx_Y := (⟨"LogHouse$Report", "pointOf", "(I)I"⟩, prog_6_method_3_code, 1, (Option.some FieldType.int), [])
abbrev y_Fi_times : zx_Y := (⟨"LogHouse$Field", "times", "(JI)J"⟩, prog_2_method_2_code, 8, (Option.some FieldType.long), [])
abbrev y_La_resend : zx_Y := (⟨"LogHouseLaw", "resend", "(LLogHouse;I[J)I"⟩, method_5_code, 4, (Option.some FieldType.int), [((0 : Nat), (9 : Nat), (12 : Nat), (13 : Nat))])
abbrev y_Ho_resend : zx_Y := (⟨"LogHouse", "resend", "(I)I"⟩, prog_1_method_5_code, 4, (Option.some FieldType.int), [])
abbrev y_Ho_sendAllAccepts : zx_Y := (⟨"LogHouse", "sendAllAccepts", "(LLogHouse$Proposer;)V"⟩, prog_1_method_27_code, 3, (Option.none : Option FieldType), [])
abbrev y_Sp_isWaiting : zx_Y := (⟨"LogHouse$Spot", "isWaiting", "()Z"⟩, prog_9_method_3_code, 1, (Option.some FieldType.boolean), [])
abbrev y_La_deliver : zx_Y := (⟨"LogHouseLaw", "deliver", "(LLogHouse;I[J)I"⟩, method_6_code, 4, (Option.some FieldType.int), [((0 : Nat), (9 : Nat), (12 : Nat), (26 : Nat))])
abbrev y_Ho_deliver : zx_Y := (⟨"LogHouse", "deliver", "(I)I"⟩, prog_1_method_6_code, 4, (Option.some FieldType.int), [])
abbrev y_Ho_checkLetter : zx_Y := (⟨"LogHouse", "checkLetter", "(I)V"⟩, prog_1_method_24_code, 2, (Option.none : Option FieldType), [])
abbrev y_Io_init : zx_Y := (⟨"java/lang/IndexOutOfBoundsException", "<init>", "()V"⟩, prog_16_method_1_code, 1, (Option.none : Option FieldType), [])
abbrev y_Ro_take : zx_Y := (⟨"LogHouse$Row", "take", "(I)LLogHouse$Letter;"⟩, prog_7_method_2_code, 4, (Option.some (FieldType.object "LogHouse$Letter")), [])
abbrev y_Ho_bringPrepare : zx_Y := (⟨"LogHouse", "bringPrepare", "(LLogHouse$Letter;)V"⟩, prog_1_method_29_code, 4, (Option.none : Option FieldType), [])
abbrev y_St_heeds : zx_Y := (⟨"LogHouse$Station", "heeds", "(I)Z"⟩, prog_10_method_2_code, 2, (Option.some FieldType.boolean), [])
abbrev y_Sh_copyFrom : zx_Y := (⟨"LogHouse$Shelf", "copyFrom", "(LLogHouse$Shelf;)V"⟩, prog_8_method_5_code, 3, (Option.none : Option FieldType), [])
abbrev y_Sh_put : zx_Y := (⟨"LogHouse$Shelf", "put", "(IIIIJ)V"⟩, prog_8_method_3_code, 7, (Option.none : Option FieldType), [])
abbrev y_Ho_bringPromise : zx_Y := (⟨"LogHouse", "bringPromise", "(LLogHouse$Letter;)V"⟩, prog_1_method_30_code, 3, (Option.none : Option FieldType), [])
abbrev y_Pr_hearPromise : zx_Y := (⟨"LogHouse$Proposer", "hearPromise", "(LLogHouse$Letter;)V"⟩, prog_5_method_7_code, 2, (Option.none : Option FieldType), [])
abbrev y_In_bitCount : zx_Y := (⟨"java/lang/Integer", "bitCount", "(I)I"⟩, prog_17_method_49_code, 1, (Option.some FieldType.int), [])
abbrev y_Ho_lead : zx_Y := (⟨"LogHouse", "lead", "(LLogHouse$Proposer;)V"⟩, prog_1_method_31_code, 4, (Option.none : Option FieldType), [])
abbrev y_Pr_gatherFromPromises : zx_Y := (⟨"LogHouse$Proposer", "gatherFromPromises", "(ILLogHouse$Gathering;)Z"⟩, prog_5_method_9_code, 4, (Option.some FieldType.boolean), [])
abbrev y_Sh_has : zx_Y := (⟨"LogHouse$Shelf", "has", "(I)Z"⟩, prog_8_method_2_code, 2, (Option.some FieldType.boolean), [])
abbrev y_Ga_start : zx_Y := (⟨"LogHouse$Gathering", "start", "(I)V"⟩, prog_3_method_2_code, 2, (Option.none : Option FieldType), [])
abbrev y_Pr_addPromises : zx_Y := (⟨"LogHouse$Proposer", "addPromises", "(ILLogHouse$Gathering;)V"⟩, prog_5_method_10_code, 4, (Option.none : Option FieldType), [])
abbrev y_Ga_addIfOfIt : zx_Y := (⟨"LogHouse$Gathering", "addIfOfIt", "(ILLogHouse$Shelf;I)V"⟩, prog_3_method_3_code, 4, (Option.none : Option FieldType), [])
abbrev y_Ga_isEnough : zx_Y := (⟨"LogHouse$Gathering", "isEnough", "()Z"⟩, prog_3_method_4_code, 1, (Option.some FieldType.boolean), [])
abbrev y_Ga_putTogether : zx_Y := (⟨"LogHouse$Gathering", "putTogether", "(LLogHouse$Report;)V"⟩, prog_3_method_5_code, 3, (Option.none : Option FieldType), [])
abbrev y_Re_addShare : zx_Y := (⟨"LogHouse$Report", "addShare", "(JIII)V"⟩, prog_6_method_8_code, 8, (Option.none : Option FieldType), [])
abbrev y_Fi_overSum : zx_Y := (⟨"LogHouse$Field", "overSum", "(JII)J"⟩, prog_2_method_3_code, 4, (Option.some FieldType.long), [])
abbrev y_Ho_bringAccept : zx_Y := (⟨"LogHouse", "bringAccept", "(LLogHouse$Letter;)V"⟩, prog_1_method_32_code, 4, (Option.none : Option FieldType), [])
abbrev y_Pr_hearAccepted : zx_Y := (⟨"LogHouse$Proposer", "hearAccepted", "(LLogHouse$Letter;)V"⟩, prog_5_method_8_code, 2, (Option.none : Option FieldType), [])
abbrev y_Sp_hearAnswer : zx_Y := (⟨"LogHouse$Spot", "hearAnswer", "(II)V"⟩, prog_9_method_7_code, 3, (Option.none : Option FieldType), [])
abbrev y_La_drop : zx_Y := (⟨"LogHouseLaw", "drop", "(LLogHouse;I)I"⟩, method_7_code, 3, (Option.some FieldType.int), [((0 : Nat), (5 : Nat), (8 : Nat), (26 : Nat))])
abbrev y_Ho_drop : zx_Y := (⟨"LogHouse", "drop", "(I)V"⟩, prog_1_method_7_code, 2, (Option.none : Option FieldType), [])
abbrev y_La_twin : zx_Y := (⟨"LogHouseLaw", "twin", "(LLogHouse;I)I"⟩, method_8_code, 3, (Option.some FieldType.int), [((0 : Nat), (5 : Nat), (8 : Nat), (26 : Nat)), ((0 : Nat), (5 : Nat), (11 : Nat), (18 : Nat))])
abbrev y_Ho_twin : zx_Y := (⟨"LogHouse", "twin", "(I)V"⟩, prog_1_method_8_code, 3, (Option.none : Option FieldType), [])
abbrev y_Le_copyFrom : zx_Y := (⟨"LogHouse$Letter", "copyFrom", "(LLogHouse$Letter;)V"⟩, prog_4_method_4_code, 2, (Option.none : Option FieldType), [])
abbrev y_La_letter : zx_Y := (⟨"LogHouseLaw", "letter", "(LLogHouse;II[J)I"⟩, method_9_code, 5, (Option.some FieldType.int), [((0 : Nat), (10 : Nat), (13 : Nat), (26 : Nat)), ((0 : Nat), (10 : Nat), (17 : Nat), (13 : Nat))])
abbrev y_Ho_letter : zx_Y := (⟨"LogHouse", "letter", "(II)I"⟩, prog_1_method_10_code, 4, (Option.some FieldType.int), [])
abbrev y_La_up : zx_Y := (⟨"LogHouseLaw", "up", "(LLogHouse;IZ[J)I"⟩, method_10_code, 5, (Option.some FieldType.int), [((0 : Nat), (17 : Nat), (20 : Nat), (13 : Nat))])
abbrev y_Ho_up : zx_Y := (⟨"LogHouse", "up", "(IZ)Z"⟩, prog_1_method_11_code, 4, (Option.some FieldType.boolean), [])
abbrev y_Ho_checkStation : zx_Y := (⟨"LogHouse", "checkStation", "(I)V"⟩, prog_1_method_22_code, 1, (Option.none : Option FieldType), [])
abbrev y_La_wipe : zx_Y := (⟨"LogHouseLaw", "wipe", "(LLogHouse;I)I"⟩, method_11_code, 3, (Option.some FieldType.int), [((0 : Nat), (5 : Nat), (8 : Nat), (13 : Nat))])
abbrev y_Ho_wipe : zx_Y := (⟨"LogHouse", "wipe", "(I)V"⟩, prog_1_method_12_code, 2, (Option.none : Option FieldType), [])
abbrev y_St_loseAll : zx_Y := (⟨"LogHouse$Station", "loseAll", "()V"⟩, prog_10_method_3_code, 1, (Option.none : Option FieldType), [])
abbrev y_Sh_clear : zx_Y := (⟨"LogHouse$Shelf", "clear", "()V"⟩, prog_8_method_4_code, 2, (Option.none : Option FieldType), [])
abbrev y_La_catchUp : zx_Y := (⟨"LogHouseLaw", "catchUp", "(LLogHouse;II[J)I"⟩, method_12_code, 5, (Option.some FieldType.int), [((0 : Nat), (10 : Nat), (13 : Nat), (13 : Nat)), ((0 : Nat), (10 : Nat), (17 : Nat), (18 : Nat))])
abbrev y_Ho_catchUp : zx_Y := (⟨"LogHouse", "catchUp", "(II)I"⟩, prog_1_method_13_code, 7, (Option.some FieldType.int), [])
abbrev y_Ho_gatherFromStations : zx_Y := (⟨"LogHouse", "gatherFromStations", "(II)Z"⟩, prog_1_method_33_code, 4, (Option.some FieldType.boolean), [])
abbrev y_La_decided : zx_Y := (⟨"LogHouseLaw", "decided", "(LLogHouse;II[J)I"⟩, method_13_code, 5, (Option.some FieldType.int), [((0 : Nat), (10 : Nat), (13 : Nat), (13 : Nat))])
abbrev y_Ho_decided : zx_Y := (⟨"LogHouse", "decided", "(II)I"⟩, prog_1_method_14_code, 3, (Option.some FieldType.int), [])
abbrev y_Ho_checkPlace : zx_Y := (⟨"LogHouse", "checkPlace", "(I)V"⟩, prog_1_method_23_code, 1, (Option.none : Option FieldType), [])
abbrev y_La_read : zx_Y := (⟨"LogHouseLaw", "read", "(LLogHouse;II[J)I"⟩, method_14_code, 5, (Option.some FieldType.int), [((0 : Nat), (10 : Nat), (13 : Nat), (13 : Nat)), ((0 : Nat), (10 : Nat), (17 : Nat), (55 : Nat)), ((0 : Nat), (10 : Nat), (21 : Nat), (18 : Nat))])
abbrev y_Ho_read : zx_Y := (⟨"LogHouse", "read", "(II)I"⟩, prog_1_method_15_code, 4, (Option.some FieldType.int), [])
abbrev y_Ns_init : zx_Y := (⟨"java/util/NoSuchElementException", "<init>", "()V"⟩, prog_21_method_1_code, 1, (Option.none : Option FieldType), [])
abbrev y_La_readByte : zx_Y := (⟨"LogHouseLaw", "readByte", "(LLogHouse;I[J)I"⟩, method_15_code, 4, (Option.some FieldType.int), [((0 : Nat), (9 : Nat), (12 : Nat), (26 : Nat))])
abbrev y_Ho_readByte : zx_Y := (⟨"LogHouse", "readByte", "(I)I"⟩, prog_1_method_16_code, 2, (Option.some FieldType.int), [])
abbrev y_Re_byteAt : zx_Y := (⟨"LogHouse$Report", "byteAt", "(I)I"⟩, prog_6_method_6_code, 3, (Option.some FieldType.int), [])
abbrev y_La_state : zx_Y := (⟨"LogHouseLaw", "state", "(LLogHouse;II[J)I"⟩, method_16_code, 5, (Option.some FieldType.int), [((0 : Nat), (10 : Nat), (13 : Nat), (13 : Nat))])
abbrev y_Ho_state : zx_Y := (⟨"LogHouse", "state", "(II)I"⟩, prog_1_method_17_code, 4, (Option.some FieldType.int), [])
abbrev y_La_station : zx_Y := (⟨"LogHouseLaw", "station", "(LLogHouse;II[J)I"⟩, method_17_code, 5, (Option.some FieldType.int), [((0 : Nat), (10 : Nat), (13 : Nat), (13 : Nat))])
abbrev y_Ho_station : zx_Y := (⟨"LogHouse", "station", "(II)I"⟩, prog_1_method_18_code, 4, (Option.some FieldType.int), [])
abbrev y_Sh_countBytes : zx_Y := (⟨"LogHouse$Shelf", "countBytes", "()I"⟩, prog_8_method_6_code, 3, (Option.some FieldType.int), [])
abbrev y_La_share : zx_Y := (⟨"LogHouseLaw", "share", "(LLogHouse;III[J)I"⟩, method_18_code, 6, (Option.some FieldType.int), [((0 : Nat), (12 : Nat), (15 : Nat), (13 : Nat))])
abbrev y_Ho_share : zx_Y := (⟨"LogHouse", "share", "(III)I"⟩, prog_1_method_19_code, 5, (Option.some FieldType.int), [])
abbrev y_Sh_shareByte : zx_Y := (⟨"LogHouse$Shelf", "shareByte", "(II)I"⟩, prog_8_method_7_code, 3, (Option.some FieldType.int), [])
abbrev y_Mo_init : zx_Y := (⟨"LogHouseModel", "<init>", "()V"⟩, prog_12_method_1_code, 3, (Option.none : Option FieldType), [])
abbrev y_Mo_times : zx_Y := (⟨"LogHouseModel", "times", "(II)I"⟩, prog_12_method_2_code, 5, (Option.some FieldType.int), [])
abbrev y_Mo_thrown : zx_Y := (⟨"LogHouseModel", "thrown", "()I"⟩, prog_12_method_25_code, 1, (Option.some FieldType.int), [])
abbrev y_Mo_byteIn : zx_Y := (⟨"LogHouseModel", "byteIn", "(III)Z"⟩, prog_12_method_28_code, 5, (Option.some FieldType.boolean), [])
abbrev y_Mo_noProposer : zx_Y := (⟨"LogHouseModel", "noProposer", "(I)Z"⟩, prog_12_method_26_code, 1, (Option.some FieldType.boolean), [])
abbrev y_Mo_campaign : zx_Y := (⟨"LogHouseModel", "campaign", "(I)I"⟩, prog_12_method_29_code, 5, (Option.some FieldType.int), [])
abbrev y_Mo_prepare : zx_Y := (⟨"LogHouseModel", "prepare", "(II)I"⟩, prog_12_method_10_code, 3, (Option.some FieldType.int), [])
abbrev y_Mo_letter4 : zx_Y := (⟨"LogHouseModel", "letter4", "(IIII)Z"⟩, prog_12_method_9_code, 6, (Option.some FieldType.boolean), [])
abbrev y_Mo_propose : zx_Y := (⟨"LogHouseModel", "propose", "(I)I"⟩, prog_12_method_30_code, 3, (Option.some FieldType.int), [])
abbrev y_Mo_firstFree : zx_Y := (⟨"LogHouseModel", "firstFree", "(I)I"⟩, prog_12_method_24_code, 3, (Option.some FieldType.int), [])
abbrev y_Mo_putForward : zx_Y := (⟨"LogHouseModel", "putForward", "(III[III)V"⟩, prog_12_method_19_code, 9, (Option.none : Option FieldType), [])
abbrev y_Mo_acceptAll : zx_Y := (⟨"LogHouseModel", "acceptAll", "(II)I"⟩, prog_12_method_12_code, 5, (Option.some FieldType.int), [])
abbrev y_Mo_accept : zx_Y := (⟨"LogHouseModel", "accept", "(III)I"⟩, prog_12_method_11_code, 7, (Option.some FieldType.int), [])
abbrev y_Mo_third : zx_Y := (⟨"LogHouseModel", "third", "(I)I"⟩, prog_12_method_4_code, 1, (Option.some FieldType.int), [])
abbrev y_Mo_shareByte : zx_Y := (⟨"LogHouseModel", "shareByte", "([IIIII)I"⟩, prog_12_method_5_code, 11, (Option.some FieldType.int), [])
abbrev y_Mo_product : zx_Y := (⟨"LogHouseModel", "product", "(II)I"⟩, prog_12_method_3_code, 3, (Option.some FieldType.int), [])
abbrev y_Mo_resend : zx_Y := (⟨"LogHouseModel", "resend", "(I)I"⟩, prog_12_method_31_code, 5, (Option.some FieldType.int), [])
abbrev y_Mo_deliver : zx_Y := (⟨"LogHouseModel", "deliver", "(I)I"⟩, prog_12_method_33_code, 3, (Option.some FieldType.int), [])
abbrev y_Mo_noLetter : zx_Y := (⟨"LogHouseModel", "noLetter", "(I)Z"⟩, prog_12_method_32_code, 2, (Option.some FieldType.boolean), [])
abbrev y_Mo_remove : zx_Y := (⟨"LogHouseModel", "remove", "(I)V"⟩, prog_12_method_13_code, 3, (Option.none : Option FieldType), [])
abbrev y_Mo_comes : zx_Y := (⟨"LogHouseModel", "comes", "()I"⟩, prog_12_method_14_code, 5, (Option.some FieldType.int), [])
abbrev y_Mo_promiseComes : zx_Y := (⟨"LogHouseModel", "promiseComes", "(II)I"⟩, prog_12_method_16_code, 5, (Option.some FieldType.int), [])
abbrev y_Mo_bits : zx_Y := (⟨"LogHouseModel", "bits", "(I)I"⟩, prog_12_method_15_code, 3, (Option.some FieldType.int), [])
abbrev y_Mo_again : zx_Y := (⟨"LogHouseModel", "again", "(II)Z"⟩, prog_12_method_18_code, 10, (Option.some FieldType.boolean), [])
abbrev y_Mo_heardAt : zx_Y := (⟨"LogHouseModel", "heardAt", "(III)I"⟩, prog_12_method_17_code, 3, (Option.some FieldType.int), [])
abbrev y_Mo_together : zx_Y := (⟨"LogHouseModel", "together", "([IIII)I"⟩, prog_12_method_8_code, 9, (Option.some FieldType.int), [])
abbrev y_Mo_solve : zx_Y := (⟨"LogHouseModel", "solve", "(III)V"⟩, prog_12_method_7_code, 10, (Option.none : Option FieldType), [])
abbrev y_Mo_inverse : zx_Y := (⟨"LogHouseModel", "inverse", "(I)I"⟩, prog_12_method_6_code, 3, (Option.some FieldType.int), [])
abbrev y_Mo_acceptedComes : zx_Y := (⟨"LogHouseModel", "acceptedComes", "(II)V"⟩, prog_12_method_20_code, 4, (Option.none : Option FieldType), [])
abbrev y_Mo_drop : zx_Y := (⟨"LogHouseModel", "drop", "(I)V"⟩, prog_12_method_34_code, 2, (Option.none : Option FieldType), [])
abbrev y_Mo_twin : zx_Y := (⟨"LogHouseModel", "twin", "(I)V"⟩, prog_12_method_35_code, 3, (Option.none : Option FieldType), [])
abbrev y_Mo_letters : zx_Y := (⟨"LogHouseModel", "letters", "()I"⟩, prog_12_method_36_code, 1, (Option.some FieldType.int), [])
abbrev y_Mo_letter : zx_Y := (⟨"LogHouseModel", "letter", "(II)I"⟩, prog_12_method_37_code, 3, (Option.some FieldType.int), [])
abbrev y_Mo_up : zx_Y := (⟨"LogHouseModel", "up", "(IZ)Z"⟩, prog_12_method_38_code, 4, (Option.some FieldType.boolean), [])
abbrev y_Mo_noStation : zx_Y := (⟨"LogHouseModel", "noStation", "(I)Z"⟩, prog_12_method_27_code, 1, (Option.some FieldType.boolean), [])
abbrev y_Mo_wipe : zx_Y := (⟨"LogHouseModel", "wipe", "(I)V"⟩, prog_12_method_39_code, 3, (Option.none : Option FieldType), [])
abbrev y_Mo_catchUp : zx_Y := (⟨"LogHouseModel", "catchUp", "(II)I"⟩, prog_12_method_40_code, 9, (Option.some FieldType.int), [])
abbrev y_Mo_findThree : zx_Y := (⟨"LogHouseModel", "findThree", "(III)Z"⟩, prog_12_method_22_code, 6, (Option.some FieldType.boolean), [])
abbrev y_Mo_hasOf : zx_Y := (⟨"LogHouseModel", "hasOf", "(III)Z"⟩, prog_12_method_21_code, 5, (Option.some FieldType.boolean), [])
abbrev y_Mo_fromThree : zx_Y := (⟨"LogHouseModel", "fromThree", "(I)I"⟩, prog_12_method_23_code, 2, (Option.some FieldType.int), [])
abbrev y_Mo_decided : zx_Y := (⟨"LogHouseModel", "decided", "(II)I"⟩, prog_12_method_41_code, 3, (Option.some FieldType.int), [])
abbrev y_Mo_read : zx_Y := (⟨"LogHouseModel", "read", "(II)I"⟩, prog_12_method_42_code, 5, (Option.some FieldType.int), [])
abbrev y_Mo_readByte : zx_Y := (⟨"LogHouseModel", "readByte", "(I)I"⟩, prog_12_method_43_code, 2, (Option.some FieldType.int), [])
abbrev y_Mo_state : zx_Y := (⟨"LogHouseModel", "state", "(II)I"⟩, prog_12_method_44_code, 3, (Option.some FieldType.int), [])
abbrev y_Mo_station : zx_Y := (⟨"LogHouseModel", "station", "(II)I"⟩, prog_12_method_45_code, 5, (Option.some FieldType.int), [])
abbrev y_Mo_share : zx_Y := (⟨"LogHouseModel", "share", "(III)I"⟩, prog_12_method_46_code, 6, (Option.some FieldType.int), [])
theorem f_Ho_11 : zx_fr (zn_G l D ar b Z) "LogHouse" 11 0 0 := ⟨_, _, _, rfl, by decide, zn_uHo, zn_w253⟩
theorem p_Ho_11 : zx_f (zn_G l D ar b Z) "LogHouse" 11 0 0 (.array (.object "LogHouse$Station")) true := ⟨_, _, _, zn_tHo, rfl, by decide, zn_uHo, zn_oHo, zn_nHo, by decide +kernel, rfl, fun _ => rfl, zn_w253⟩
theorem f_Ho_18 : zx_fr (zn_G l D ar b Z) "LogHouse" 18 0 1 := ⟨_, _, _, rfl, by decide, zn_uHo, zn_w254⟩
theorem p_Ho_18 : zx_f (zn_G l D ar b Z) "LogHouse" 18 0 1 (.array (.object "LogHouse$Proposer")) true := ⟨_, _, _, zn_tHo, rfl, by decide, zn_uHo, zn_oHo, zn_nHo, by decide +kernel, rfl, fun _ => rfl, zn_w254⟩
theorem f_Ho_28 : zx_fr (zn_G l D ar b Z) "LogHouse" 28 0 2 := ⟨_, _, _, rfl, by decide, zn_uHo, zn_w255⟩
theorem p_Ho_28 : zx_f (zn_G l D ar b Z) "LogHouse" 28 0 2 (.object "LogHouse$Row") true := ⟨_, _, _, zn_tHo, rfl, by decide, zn_uHo, zn_oHo, zn_nHo, by decide +kernel, rfl, fun _ => rfl, zn_w255⟩
theorem f_Ho_35 : zx_fr (zn_G l D ar b Z) "LogHouse" 35 0 3 := ⟨_, _, _, rfl, by decide, zn_uHo, zn_w256⟩
theorem p_Ho_35 : zx_f (zn_G l D ar b Z) "LogHouse" 35 0 3 (.object "LogHouse$Gathering") true := ⟨_, _, _, zn_tHo, rfl, by decide, zn_uHo, zn_oHo, zn_nHo, by decide +kernel, rfl, fun _ => rfl, zn_w256⟩
theorem f_Ho_42 : zx_fr (zn_G l D ar b Z) "LogHouse" 42 0 4 := ⟨_, _, _, rfl, by decide, zn_uHo, zn_w257⟩
theorem p_Ho_42 : zx_f (zn_G l D ar b Z) "LogHouse" 42 0 4 (.object "LogHouse$Report") true := ⟨_, _, _, zn_tHo, rfl, by decide, zn_uHo, zn_oHo, zn_nHo, by decide +kernel, rfl, fun _ => rfl, zn_w257⟩
theorem f_Ho_46 : zx_fr (zn_G l D ar b Z) "LogHouse" 46 0 5 := ⟨_, _, _, rfl, by decide, zn_uHo, zn_w258⟩
theorem p_Ho_46 : zx_f (zn_G l D ar b Z) "LogHouse" 46 0 5 (.object "LogHouse$Report") true := ⟨_, _, _, zn_tHo, rfl, by decide, zn_uHo, zn_oHo, zn_nHo, by decide +kernel, rfl, fun _ => rfl, zn_w258⟩
theorem f_Ho_71 : zx_fr (zn_G l D ar b Z) "LogHouse" 71 3 2 := ⟨_, _, _, rfl, by decide, zn_uPr, zn_w136⟩
theorem p_Ho_71 : zx_f (zn_G l D ar b Z) "LogHouse" 71 3 2 (.int) false := ⟨_, _, _, zn_tPr, rfl, by decide, zn_uPr, zn_oPr, zn_nPr, by decide +kernel, rfl, (fun h => by cases h), zn_w136⟩
theorem f_Ho_78 : zx_fr (zn_G l D ar b Z) "LogHouse" 78 3 4 := ⟨_, _, _, rfl, by decide, zn_uPr, zn_w140⟩
theorem p_Ho_78 : zx_f (zn_G l D ar b Z) "LogHouse" 78 3 4 (.int) false := ⟨_, _, _, zn_tPr, rfl, by decide, zn_uPr, zn_oPr, zn_nPr, by decide +kernel, rfl, (fun h => by cases h), zn_w140⟩
theorem f_Ho_91 : zx_fr (zn_G l D ar b Z) "LogHouse" 91 6 0 := ⟨_, _, _, rfl, by decide, zn_uRo, zn_w220⟩
theorem p_Ho_91 : zx_f (zn_G l D ar b Z) "LogHouse" 91 6 0 (.int) false := ⟨_, _, _, zn_tRo, rfl, by decide, zn_uRo, zn_oRo, zn_nRo, by decide +kernel, rfl, (fun h => by cases h), zn_w220⟩
theorem f_Ho_94 : zx_fr (zn_G l D ar b Z) "LogHouse" 94 3 1 := ⟨_, _, _, rfl, by decide, zn_uPr, zn_w134⟩
theorem p_Ho_94 : zx_f (zn_G l D ar b Z) "LogHouse" 94 3 1 (.int) false := ⟨_, _, _, zn_tPr, rfl, by decide, zn_uPr, zn_oPr, zn_nPr, by decide +kernel, rfl, (fun h => by cases h), zn_w134⟩
theorem f_Ho_107 : zx_fr (zn_G l D ar b Z) "LogHouse" 107 7 0 := ⟨_, _, _, rfl, by decide, zn_uLe, zn_w178⟩
theorem p_Ho_107 : zx_f (zn_G l D ar b Z) "LogHouse" 107 7 0 (.int) false := ⟨_, _, _, zn_tLe, rfl, by decide, zn_uLe, zn_oLe, zn_nLe, by decide +kernel, rfl, (fun h => by cases h), zn_w178⟩
theorem f_Ho_122 : zx_fr (zn_G l D ar b Z) "LogHouse" 122 7 2 := ⟨_, _, _, rfl, by decide, zn_uLe, zn_w183⟩
theorem p_Ho_122 : zx_f (zn_G l D ar b Z) "LogHouse" 122 7 2 (.int) false := ⟨_, _, _, zn_tLe, rfl, by decide, zn_uLe, zn_oLe, zn_nLe, by decide +kernel, rfl, (fun h => by cases h), zn_w183⟩
theorem f_Ho_132 : zx_fr (zn_G l D ar b Z) "LogHouse" 132 6 1 := ⟨_, _, _, rfl, by decide, zn_uRo, zn_w222⟩
theorem f_Ho_139 : zx_fr (zn_G l D ar b Z) "LogHouse" 139 7 1 := ⟨_, _, _, rfl, by decide, zn_uLe, zn_w181⟩
theorem p_Ho_139 : zx_f (zn_G l D ar b Z) "LogHouse" 139 7 1 (.int) false := ⟨_, _, _, zn_tLe, rfl, by decide, zn_uLe, zn_oLe, zn_nLe, by decide +kernel, rfl, (fun h => by cases h), zn_w181⟩
theorem f_Ho_142 : zx_fr (zn_G l D ar b Z) "LogHouse" 142 7 3 := ⟨_, _, _, rfl, by decide, zn_uLe, zn_w186⟩
theorem p_Ho_142 : zx_f (zn_G l D ar b Z) "LogHouse" 142 7 3 (.int) false := ⟨_, _, _, zn_tLe, rfl, by decide, zn_uLe, zn_oLe, zn_nLe, by decide +kernel, rfl, (fun h => by cases h), zn_w186⟩
theorem f_Ho_143 : zx_fr (zn_G l D ar b Z) "LogHouse" 143 7 4 := ⟨_, _, _, rfl, by decide, zn_uLe, zn_w189⟩
theorem p_Ho_143 : zx_f (zn_G l D ar b Z) "LogHouse" 143 7 4 (.int) false := ⟨_, _, _, zn_tLe, rfl, by decide, zn_uLe, zn_oLe, zn_nLe, by decide +kernel, rfl, (fun h => by cases h), zn_w189⟩
theorem f_Ho_146 : zx_fr (zn_G l D ar b Z) "LogHouse" 146 7 5 := ⟨_, _, _, rfl, by decide, zn_uLe, zn_w192⟩
theorem p_Ho_146 : zx_f (zn_G l D ar b Z) "LogHouse" 146 7 5 (.int) false := ⟨_, _, _, zn_tLe, rfl, by decide, zn_uLe, zn_oLe, zn_nLe, by decide +kernel, rfl, (fun h => by cases h), zn_w192⟩
theorem f_Ho_155 : zx_fr (zn_G l D ar b Z) "LogHouse" 155 1 1 := ⟨_, _, _, rfl, by decide, zn_uSt, zn_w67⟩
theorem p_Ho_155 : zx_f (zn_G l D ar b Z) "LogHouse" 155 1 1 (.boolean) false := ⟨_, _, _, zn_tSt, rfl, by decide, zn_uSt, zn_oSt, zn_nSt, by decide +kernel, rfl, (fun h => by cases h), zn_w67⟩
theorem f_Ho_162 : zx_fr (zn_G l D ar b Z) "LogHouse" 162 1 2 := ⟨_, _, _, rfl, by decide, zn_uSt, zn_w69⟩
theorem p_Ho_162 : zx_f (zn_G l D ar b Z) "LogHouse" 162 1 2 (.boolean) false := ⟨_, _, _, zn_tSt, rfl, by decide, zn_uSt, zn_oSt, zn_nSt, by decide +kernel, rfl, (fun h => by cases h), zn_w69⟩
theorem f_Ho_165 : zx_fr (zn_G l D ar b Z) "LogHouse" 165 3 7 := ⟨_, _, _, rfl, by decide, zn_uPr, zn_w144⟩
theorem f_Ho_169 : zx_fr (zn_G l D ar b Z) "LogHouse" 169 4 0 := ⟨_, _, _, rfl, by decide, zn_uSp, zn_w115⟩
theorem p_Ho_169 : zx_f (zn_G l D ar b Z) "LogHouse" 169 4 0 (.int) false := ⟨_, _, _, zn_tSp, rfl, by decide, zn_uSp, zn_oSp, zn_nSp, by decide +kernel, rfl, (fun h => by cases h), zn_w115⟩
theorem f_Ho_174 : zx_fr (zn_G l D ar b Z) "LogHouse" 174 1 3 := ⟨_, _, _, rfl, by decide, zn_uSt, zn_w71⟩
theorem f_Ho_190 : zx_fr (zn_G l D ar b Z) "LogHouse" 190 5 0 := ⟨_, _, _, rfl, by decide, zn_uRe, zn_w106⟩
theorem p_Ho_190 : zx_f (zn_G l D ar b Z) "LogHouse" 190 5 0 (.int) false := ⟨_, _, _, zn_tRe, rfl, by decide, zn_uRe, zn_oRe, zn_nRe, by decide +kernel, rfl, (fun h => by cases h), zn_w106⟩
theorem f_Ho_214 : zx_fr (zn_G l D ar b Z) "LogHouse" 214 3 3 := ⟨_, _, _, rfl, by decide, zn_uPr, zn_w138⟩
theorem p_Ho_214 : zx_f (zn_G l D ar b Z) "LogHouse" 214 3 3 (.int) false := ⟨_, _, _, zn_tPr, rfl, by decide, zn_uPr, zn_oPr, zn_nPr, by decide +kernel, rfl, (fun h => by cases h), zn_w138⟩
theorem f_Ho_222 : zx_fr (zn_G l D ar b Z) "LogHouse" 222 1 0 := ⟨_, _, _, rfl, by decide, zn_uSt, zn_w65⟩
theorem p_Ho_222 : zx_f (zn_G l D ar b Z) "LogHouse" 222 1 0 (.int) false := ⟨_, _, _, zn_tSt, rfl, by decide, zn_uSt, zn_oSt, zn_nSt, by decide +kernel, rfl, (fun h => by cases h), zn_w65⟩
theorem f_Ho_228 : zx_fr (zn_G l D ar b Z) "LogHouse" 228 2 0 := ⟨_, _, _, rfl, by decide, zn_uSh, zn_w43⟩
theorem f_Ho_232 : zx_fr (zn_G l D ar b Z) "LogHouse" 232 2 1 := ⟨_, _, _, rfl, by decide, zn_uSh, zn_w47⟩
theorem f_Ho_235 : zx_fr (zn_G l D ar b Z) "LogHouse" 235 2 2 := ⟨_, _, _, rfl, by decide, zn_uSh, zn_w50⟩
theorem f_Ho_250 : zx_fr (zn_G l D ar b Z) "LogHouse" 250 3 0 := ⟨_, _, _, rfl, by decide, zn_uPr, zn_w132⟩
theorem f_Ho_264 : zx_fr (zn_G l D ar b Z) "LogHouse" 264 4 1 := ⟨_, _, _, rfl, by decide, zn_uSp, zn_w117⟩
theorem p_Ho_264 : zx_f (zn_G l D ar b Z) "LogHouse" 264 4 1 (.int) false := ⟨_, _, _, zn_tSp, rfl, by decide, zn_uSp, zn_oSp, zn_nSp, by decide +kernel, rfl, (fun h => by cases h), zn_w117⟩
theorem f_Ho_271 : zx_fr (zn_G l D ar b Z) "LogHouse" 271 4 3 := ⟨_, _, _, rfl, by decide, zn_uSp, zn_w121⟩
theorem f_Ho_274 : zx_fr (zn_G l D ar b Z) "LogHouse" 274 7 6 := ⟨_, _, _, rfl, by decide, zn_uLe, zn_w194⟩
theorem p_Ho_274 : zx_f (zn_G l D ar b Z) "LogHouse" 274 7 6 (.int) false := ⟨_, _, _, zn_tLe, rfl, by decide, zn_uLe, zn_oLe, zn_nLe, by decide +kernel, rfl, (fun h => by cases h), zn_w194⟩
theorem f_Ho_275 : zx_fr (zn_G l D ar b Z) "LogHouse" 275 7 7 := ⟨_, _, _, rfl, by decide, zn_uLe, zn_w196⟩
theorem p_Ho_275 : zx_f (zn_G l D ar b Z) "LogHouse" 275 7 7 (.long) false := ⟨_, _, _, zn_tLe, rfl, by decide, zn_uLe, zn_oLe, zn_nLe, by decide +kernel, rfl, (fun h => by cases h), zn_w196⟩
theorem f_Ho_282 : zx_fr (zn_G l D ar b Z) "LogHouse" 282 7 8 := ⟨_, _, _, rfl, by decide, zn_uLe, zn_w199⟩
theorem f_Ho_299 : zx_fr (zn_G l D ar b Z) "LogHouse" 299 8 0 := ⟨_, _, _, rfl, by decide, zn_uGa, zn_w235⟩
theorem p_Ho_299 : zx_f (zn_G l D ar b Z) "LogHouse" 299 8 0 (.int) false := ⟨_, _, _, zn_tGa, rfl, by decide, zn_uGa, zn_oGa, zn_nGa, by decide +kernel, rfl, (fun h => by cases h), zn_w235⟩
theorem f_Ga_9 : zx_fr (zn_G l D ar b Z) "LogHouse$Gathering" 9 8 3 := ⟨_, _, _, rfl, by decide, zn_uGa, zn_w238⟩
theorem p_Ga_9 : zx_f (zn_G l D ar b Z) "LogHouse$Gathering" 9 8 3 (.array .int) true := ⟨_, _, _, zn_tGa, rfl, by decide, zn_uGa, zn_oGa, zn_nGa, by decide +kernel, rfl, fun _ => rfl, zn_w238⟩
theorem f_Ga_15 : zx_fr (zn_G l D ar b Z) "LogHouse$Gathering" 15 8 4 := ⟨_, _, _, rfl, by decide, zn_uGa, zn_w239⟩
theorem p_Ga_15 : zx_f (zn_G l D ar b Z) "LogHouse$Gathering" 15 8 4 (.array .long) true := ⟨_, _, _, zn_tGa, rfl, by decide, zn_uGa, zn_oGa, zn_nGa, by decide +kernel, rfl, fun _ => rfl, zn_w239⟩
theorem f_Ga_19 : zx_fr (zn_G l D ar b Z) "LogHouse$Gathering" 19 8 0 := ⟨_, _, _, rfl, by decide, zn_uGa, zn_w234⟩
theorem p_Ga_19 : zx_f (zn_G l D ar b Z) "LogHouse$Gathering" 19 8 0 (.int) false := ⟨_, _, _, zn_tGa, rfl, by decide, zn_uGa, zn_oGa, zn_nGa, by decide +kernel, rfl, (fun h => by cases h), zn_w234⟩
theorem f_Ga_23 : zx_fr (zn_G l D ar b Z) "LogHouse$Gathering" 23 8 1 := ⟨_, _, _, rfl, by decide, zn_uGa, zn_w236⟩
theorem p_Ga_23 : zx_f (zn_G l D ar b Z) "LogHouse$Gathering" 23 8 1 (.int) false := ⟨_, _, _, zn_tGa, rfl, by decide, zn_uGa, zn_oGa, zn_nGa, by decide +kernel, rfl, (fun h => by cases h), zn_w236⟩
theorem f_Ga_26 : zx_fr (zn_G l D ar b Z) "LogHouse$Gathering" 26 8 2 := ⟨_, _, _, rfl, by decide, zn_uGa, zn_w237⟩
theorem p_Ga_26 : zx_f (zn_G l D ar b Z) "LogHouse$Gathering" 26 8 2 (.int) false := ⟨_, _, _, zn_tGa, rfl, by decide, zn_uGa, zn_oGa, zn_nGa, by decide +kernel, rfl, (fun h => by cases h), zn_w237⟩
theorem f_Ga_35 : zx_fr (zn_G l D ar b Z) "LogHouse$Gathering" 35 2 1 := ⟨_, _, _, rfl, by decide, zn_uSh, zn_w45⟩
theorem f_Ga_38 : zx_fr (zn_G l D ar b Z) "LogHouse$Gathering" 38 2 2 := ⟨_, _, _, rfl, by decide, zn_uSh, zn_w49⟩
theorem f_Ga_47 : zx_fr (zn_G l D ar b Z) "LogHouse$Gathering" 47 2 3 := ⟨_, _, _, rfl, by decide, zn_uSh, zn_w52⟩
theorem f_Ga_48 : zx_fr (zn_G l D ar b Z) "LogHouse$Gathering" 48 5 0 := ⟨_, _, _, rfl, by decide, zn_uRe, zn_w105⟩
theorem p_Ga_48 : zx_f (zn_G l D ar b Z) "LogHouse$Gathering" 48 5 0 (.int) false := ⟨_, _, _, zn_tRe, rfl, by decide, zn_uRe, zn_oRe, zn_nRe, by decide +kernel, rfl, (fun h => by cases h), zn_w105⟩
theorem f_Le_12 : zx_fr (zn_G l D ar b Z) "LogHouse$Letter" 12 7 8 := ⟨_, _, _, rfl, by decide, zn_uLe, zn_w197⟩
theorem p_Le_12 : zx_f (zn_G l D ar b Z) "LogHouse$Letter" 12 7 8 (.object "LogHouse$Shelf") true := ⟨_, _, _, zn_tLe, rfl, by decide, zn_uLe, zn_oLe, zn_nLe, by decide +kernel, rfl, fun _ => rfl, zn_w197⟩
theorem f_Le_18 : zx_fr (zn_G l D ar b Z) "LogHouse$Letter" 18 7 0 := ⟨_, _, _, rfl, by decide, zn_uLe, zn_w177⟩
theorem p_Le_18 : zx_f (zn_G l D ar b Z) "LogHouse$Letter" 18 7 0 (.int) false := ⟨_, _, _, zn_tLe, rfl, by decide, zn_uLe, zn_oLe, zn_nLe, by decide +kernel, rfl, (fun h => by cases h), zn_w177⟩
theorem f_Le_22 : zx_fr (zn_G l D ar b Z) "LogHouse$Letter" 22 7 1 := ⟨_, _, _, rfl, by decide, zn_uLe, zn_w179⟩
theorem p_Le_22 : zx_f (zn_G l D ar b Z) "LogHouse$Letter" 22 7 1 (.int) false := ⟨_, _, _, zn_tLe, rfl, by decide, zn_uLe, zn_oLe, zn_nLe, by decide +kernel, rfl, (fun h => by cases h), zn_w179⟩
theorem f_Le_25 : zx_fr (zn_G l D ar b Z) "LogHouse$Letter" 25 7 2 := ⟨_, _, _, rfl, by decide, zn_uLe, zn_w182⟩
theorem p_Le_25 : zx_f (zn_G l D ar b Z) "LogHouse$Letter" 25 7 2 (.int) false := ⟨_, _, _, zn_tLe, rfl, by decide, zn_uLe, zn_oLe, zn_nLe, by decide +kernel, rfl, (fun h => by cases h), zn_w182⟩
theorem f_Le_28 : zx_fr (zn_G l D ar b Z) "LogHouse$Letter" 28 7 3 := ⟨_, _, _, rfl, by decide, zn_uLe, zn_w184⟩
theorem p_Le_28 : zx_f (zn_G l D ar b Z) "LogHouse$Letter" 28 7 3 (.int) false := ⟨_, _, _, zn_tLe, rfl, by decide, zn_uLe, zn_oLe, zn_nLe, by decide +kernel, rfl, (fun h => by cases h), zn_w184⟩
theorem f_Le_31 : zx_fr (zn_G l D ar b Z) "LogHouse$Letter" 31 7 4 := ⟨_, _, _, rfl, by decide, zn_uLe, zn_w187⟩
theorem p_Le_31 : zx_f (zn_G l D ar b Z) "LogHouse$Letter" 31 7 4 (.int) false := ⟨_, _, _, zn_tLe, rfl, by decide, zn_uLe, zn_oLe, zn_nLe, by decide +kernel, rfl, (fun h => by cases h), zn_w187⟩
theorem f_Le_34 : zx_fr (zn_G l D ar b Z) "LogHouse$Letter" 34 7 5 := ⟨_, _, _, rfl, by decide, zn_uLe, zn_w190⟩
theorem p_Le_34 : zx_f (zn_G l D ar b Z) "LogHouse$Letter" 34 7 5 (.int) false := ⟨_, _, _, zn_tLe, rfl, by decide, zn_uLe, zn_oLe, zn_nLe, by decide +kernel, rfl, (fun h => by cases h), zn_w190⟩
theorem f_Le_45 : zx_fr (zn_G l D ar b Z) "LogHouse$Letter" 45 7 6 := ⟨_, _, _, rfl, by decide, zn_uLe, zn_w193⟩
theorem p_Le_45 : zx_f (zn_G l D ar b Z) "LogHouse$Letter" 45 7 6 (.int) false := ⟨_, _, _, zn_tLe, rfl, by decide, zn_uLe, zn_oLe, zn_nLe, by decide +kernel, rfl, (fun h => by cases h), zn_w193⟩
theorem f_Le_48 : zx_fr (zn_G l D ar b Z) "LogHouse$Letter" 48 7 7 := ⟨_, _, _, rfl, by decide, zn_uLe, zn_w195⟩
theorem p_Le_48 : zx_f (zn_G l D ar b Z) "LogHouse$Letter" 48 7 7 (.long) false := ⟨_, _, _, zn_tLe, rfl, by decide, zn_uLe, zn_oLe, zn_nLe, by decide +kernel, rfl, (fun h => by cases h), zn_w195⟩
theorem f_Pr_9 : zx_fr (zn_G l D ar b Z) "LogHouse$Proposer" 9 3 1 := ⟨_, _, _, rfl, by decide, zn_uPr, zn_w133⟩
theorem p_Pr_9 : zx_f (zn_G l D ar b Z) "LogHouse$Proposer" 9 3 1 (.int) false := ⟨_, _, _, zn_tPr, rfl, by decide, zn_uPr, zn_oPr, zn_nPr, by decide +kernel, rfl, (fun h => by cases h), zn_w133⟩
theorem f_Pr_15 : zx_fr (zn_G l D ar b Z) "LogHouse$Proposer" 15 3 5 := ⟨_, _, _, rfl, by decide, zn_uPr, zn_w141⟩
theorem p_Pr_15 : zx_f (zn_G l D ar b Z) "LogHouse$Proposer" 15 3 5 (.array .byte) true := ⟨_, _, _, zn_tPr, rfl, by decide, zn_uPr, zn_oPr, zn_nPr, by decide +kernel, rfl, fun _ => rfl, zn_w141⟩
theorem f_Pr_21 : zx_fr (zn_G l D ar b Z) "LogHouse$Proposer" 21 3 6 := ⟨_, _, _, rfl, by decide, zn_uPr, zn_w142⟩
theorem p_Pr_21 : zx_f (zn_G l D ar b Z) "LogHouse$Proposer" 21 3 6 (.array (.object "LogHouse$Shelf")) true := ⟨_, _, _, zn_tPr, rfl, by decide, zn_uPr, zn_oPr, zn_nPr, by decide +kernel, rfl, fun _ => rfl, zn_w142⟩
theorem f_Pr_27 : zx_fr (zn_G l D ar b Z) "LogHouse$Proposer" 27 3 7 := ⟨_, _, _, rfl, by decide, zn_uPr, zn_w143⟩
theorem p_Pr_27 : zx_f (zn_G l D ar b Z) "LogHouse$Proposer" 27 3 7 (.array (.object "LogHouse$Spot")) true := ⟨_, _, _, zn_tPr, rfl, by decide, zn_uPr, zn_oPr, zn_nPr, by decide +kernel, rfl, fun _ => rfl, zn_w143⟩
theorem f_Pr_31 : zx_fr (zn_G l D ar b Z) "LogHouse$Proposer" 31 3 0 := ⟨_, _, _, rfl, by decide, zn_uPr, zn_w131⟩
theorem p_Pr_31 : zx_f (zn_G l D ar b Z) "LogHouse$Proposer" 31 3 0 (.int) true := ⟨_, _, _, zn_tPr, rfl, by decide, zn_uPr, zn_oPr, zn_nPr, by decide +kernel, rfl, fun _ => rfl, zn_w131⟩
theorem f_Pr_36 : zx_fr (zn_G l D ar b Z) "LogHouse$Proposer" 36 3 4 := ⟨_, _, _, rfl, by decide, zn_uPr, zn_w139⟩
theorem p_Pr_36 : zx_f (zn_G l D ar b Z) "LogHouse$Proposer" 36 3 4 (.int) false := ⟨_, _, _, zn_tPr, rfl, by decide, zn_uPr, zn_oPr, zn_nPr, by decide +kernel, rfl, (fun h => by cases h), zn_w139⟩
theorem f_Pr_39 : zx_fr (zn_G l D ar b Z) "LogHouse$Proposer" 39 3 2 := ⟨_, _, _, rfl, by decide, zn_uPr, zn_w135⟩
theorem p_Pr_39 : zx_f (zn_G l D ar b Z) "LogHouse$Proposer" 39 3 2 (.int) false := ⟨_, _, _, zn_tPr, rfl, by decide, zn_uPr, zn_oPr, zn_nPr, by decide +kernel, rfl, (fun h => by cases h), zn_w135⟩
theorem f_Pr_48 : zx_fr (zn_G l D ar b Z) "LogHouse$Proposer" 48 3 3 := ⟨_, _, _, rfl, by decide, zn_uPr, zn_w137⟩
theorem p_Pr_48 : zx_f (zn_G l D ar b Z) "LogHouse$Proposer" 48 3 3 (.int) false := ⟨_, _, _, zn_tPr, rfl, by decide, zn_uPr, zn_oPr, zn_nPr, by decide +kernel, rfl, (fun h => by cases h), zn_w137⟩
theorem f_Pr_62 : zx_fr (zn_G l D ar b Z) "LogHouse$Proposer" 62 4 3 := ⟨_, _, _, rfl, by decide, zn_uSp, zn_w120⟩
theorem f_Pr_72 : zx_fr (zn_G l D ar b Z) "LogHouse$Proposer" 72 7 3 := ⟨_, _, _, rfl, by decide, zn_uLe, zn_w185⟩
theorem p_Pr_72 : zx_f (zn_G l D ar b Z) "LogHouse$Proposer" 72 7 3 (.int) false := ⟨_, _, _, zn_tLe, rfl, by decide, zn_uLe, zn_oLe, zn_nLe, by decide +kernel, rfl, (fun h => by cases h), zn_w185⟩
theorem f_Pr_75 : zx_fr (zn_G l D ar b Z) "LogHouse$Proposer" 75 7 1 := ⟨_, _, _, rfl, by decide, zn_uLe, zn_w180⟩
theorem p_Pr_75 : zx_f (zn_G l D ar b Z) "LogHouse$Proposer" 75 7 1 (.int) false := ⟨_, _, _, zn_tLe, rfl, by decide, zn_uLe, zn_oLe, zn_nLe, by decide +kernel, rfl, (fun h => by cases h), zn_w180⟩
theorem f_Pr_82 : zx_fr (zn_G l D ar b Z) "LogHouse$Proposer" 82 7 8 := ⟨_, _, _, rfl, by decide, zn_uLe, zn_w198⟩
theorem f_Pr_90 : zx_fr (zn_G l D ar b Z) "LogHouse$Proposer" 90 7 4 := ⟨_, _, _, rfl, by decide, zn_uLe, zn_w188⟩
theorem p_Pr_90 : zx_f (zn_G l D ar b Z) "LogHouse$Proposer" 90 7 4 (.int) false := ⟨_, _, _, zn_tLe, rfl, by decide, zn_uLe, zn_oLe, zn_nLe, by decide +kernel, rfl, (fun h => by cases h), zn_w188⟩
theorem f_Pr_93 : zx_fr (zn_G l D ar b Z) "LogHouse$Proposer" 93 7 5 := ⟨_, _, _, rfl, by decide, zn_uLe, zn_w191⟩
theorem p_Pr_93 : zx_f (zn_G l D ar b Z) "LogHouse$Proposer" 93 7 5 (.int) false := ⟨_, _, _, zn_tLe, rfl, by decide, zn_uLe, zn_oLe, zn_nLe, by decide +kernel, rfl, (fun h => by cases h), zn_w191⟩
theorem f_Pr_103 : zx_fr (zn_G l D ar b Z) "LogHouse$Proposer" 103 2 1 := ⟨_, _, _, rfl, by decide, zn_uSh, zn_w46⟩
theorem f_Re_9 : zx_fr (zn_G l D ar b Z) "LogHouse$Report" 9 5 1 := ⟨_, _, _, rfl, by decide, zn_uRe, zn_w107⟩
theorem p_Re_9 : zx_f (zn_G l D ar b Z) "LogHouse$Report" 9 5 1 (.array .long) true := ⟨_, _, _, zn_tRe, rfl, by decide, zn_uRe, zn_oRe, zn_nRe, by decide +kernel, rfl, fun _ => rfl, zn_w107⟩
theorem f_Re_15 : zx_fr (zn_G l D ar b Z) "LogHouse$Report" 15 5 0 := ⟨_, _, _, rfl, by decide, zn_uRe, zn_w104⟩
theorem p_Re_15 : zx_f (zn_G l D ar b Z) "LogHouse$Report" 15 5 0 (.int) false := ⟨_, _, _, zn_tRe, rfl, by decide, zn_uRe, zn_oRe, zn_nRe, by decide +kernel, rfl, (fun h => by cases h), zn_w104⟩
theorem f_Ro_11 : zx_fr (zn_G l D ar b Z) "LogHouse$Row" 11 6 1 := ⟨_, _, _, rfl, by decide, zn_uRo, zn_w221⟩
theorem p_Ro_11 : zx_f (zn_G l D ar b Z) "LogHouse$Row" 11 6 1 (.array (.object "LogHouse$Letter")) true := ⟨_, _, _, zn_tRo, rfl, by decide, zn_uRo, zn_oRo, zn_nRo, by decide +kernel, rfl, fun _ => rfl, zn_w221⟩
theorem f_Ro_18 : zx_fr (zn_G l D ar b Z) "LogHouse$Row" 18 6 0 := ⟨_, _, _, rfl, by decide, zn_uRo, zn_w219⟩
theorem p_Ro_18 : zx_f (zn_G l D ar b Z) "LogHouse$Row" 18 6 0 (.int) false := ⟨_, _, _, zn_tRo, rfl, by decide, zn_uRo, zn_oRo, zn_nRo, by decide +kernel, rfl, (fun h => by cases h), zn_w219⟩
theorem f_Sh_9 : zx_fr (zn_G l D ar b Z) "LogHouse$Shelf" 9 2 0 := ⟨_, _, _, rfl, by decide, zn_uSh, zn_w42⟩
theorem p_Sh_9 : zx_f (zn_G l D ar b Z) "LogHouse$Shelf" 9 2 0 (.array .int) true := ⟨_, _, _, zn_tSh, rfl, by decide, zn_uSh, zn_oSh, zn_nSh, by decide +kernel, rfl, fun _ => rfl, zn_w42⟩
theorem f_Sh_15 : zx_fr (zn_G l D ar b Z) "LogHouse$Shelf" 15 2 1 := ⟨_, _, _, rfl, by decide, zn_uSh, zn_w44⟩
theorem p_Sh_15 : zx_f (zn_G l D ar b Z) "LogHouse$Shelf" 15 2 1 (.array .int) true := ⟨_, _, _, zn_tSh, rfl, by decide, zn_uSh, zn_oSh, zn_nSh, by decide +kernel, rfl, fun _ => rfl, zn_w44⟩
theorem f_Sh_18 : zx_fr (zn_G l D ar b Z) "LogHouse$Shelf" 18 2 2 := ⟨_, _, _, rfl, by decide, zn_uSh, zn_w48⟩
theorem p_Sh_18 : zx_f (zn_G l D ar b Z) "LogHouse$Shelf" 18 2 2 (.array .int) true := ⟨_, _, _, zn_tSh, rfl, by decide, zn_uSh, zn_oSh, zn_nSh, by decide +kernel, rfl, fun _ => rfl, zn_w48⟩
theorem f_Sh_21 : zx_fr (zn_G l D ar b Z) "LogHouse$Shelf" 21 2 3 := ⟨_, _, _, rfl, by decide, zn_uSh, zn_w51⟩
theorem p_Sh_21 : zx_f (zn_G l D ar b Z) "LogHouse$Shelf" 21 2 3 (.array .long) true := ⟨_, _, _, zn_tSh, rfl, by decide, zn_uSh, zn_oSh, zn_nSh, by decide +kernel, rfl, fun _ => rfl, zn_w51⟩
theorem f_Sp_12 : zx_fr (zn_G l D ar b Z) "LogHouse$Spot" 12 4 3 := ⟨_, _, _, rfl, by decide, zn_uSp, zn_w119⟩
theorem p_Sp_12 : zx_f (zn_G l D ar b Z) "LogHouse$Spot" 12 4 3 (.object "LogHouse$Report") true := ⟨_, _, _, zn_tSp, rfl, by decide, zn_uSp, zn_oSp, zn_nSp, by decide +kernel, rfl, fun _ => rfl, zn_w119⟩
theorem f_Sp_18 : zx_fr (zn_G l D ar b Z) "LogHouse$Spot" 18 4 0 := ⟨_, _, _, rfl, by decide, zn_uSp, zn_w114⟩
theorem p_Sp_18 : zx_f (zn_G l D ar b Z) "LogHouse$Spot" 18 4 0 (.int) false := ⟨_, _, _, zn_tSp, rfl, by decide, zn_uSp, zn_oSp, zn_nSp, by decide +kernel, rfl, (fun h => by cases h), zn_w114⟩
theorem f_Sp_22 : zx_fr (zn_G l D ar b Z) "LogHouse$Spot" 22 4 1 := ⟨_, _, _, rfl, by decide, zn_uSp, zn_w116⟩
theorem p_Sp_22 : zx_f (zn_G l D ar b Z) "LogHouse$Spot" 22 4 1 (.int) false := ⟨_, _, _, zn_tSp, rfl, by decide, zn_uSp, zn_oSp, zn_nSp, by decide +kernel, rfl, (fun h => by cases h), zn_w116⟩
theorem f_Sp_25 : zx_fr (zn_G l D ar b Z) "LogHouse$Spot" 25 4 2 := ⟨_, _, _, rfl, by decide, zn_uSp, zn_w118⟩
theorem p_Sp_25 : zx_f (zn_G l D ar b Z) "LogHouse$Spot" 25 4 2 (.int) false := ⟨_, _, _, zn_tSp, rfl, by decide, zn_uSp, zn_oSp, zn_nSp, by decide +kernel, rfl, (fun h => by cases h), zn_w118⟩
theorem f_St_7 : zx_fr (zn_G l D ar b Z) "LogHouse$Station" 7 1 1 := ⟨_, _, _, rfl, by decide, zn_uSt, zn_w66⟩
theorem p_St_7 : zx_f (zn_G l D ar b Z) "LogHouse$Station" 7 1 1 (.boolean) false := ⟨_, _, _, zn_tSt, rfl, by decide, zn_uSt, zn_oSt, zn_nSt, by decide +kernel, rfl, (fun h => by cases h), zn_w66⟩
theorem f_St_16 : zx_fr (zn_G l D ar b Z) "LogHouse$Station" 16 1 3 := ⟨_, _, _, rfl, by decide, zn_uSt, zn_w70⟩
theorem p_St_16 : zx_f (zn_G l D ar b Z) "LogHouse$Station" 16 1 3 (.object "LogHouse$Shelf") true := ⟨_, _, _, zn_tSt, rfl, by decide, zn_uSt, zn_oSt, zn_nSt, by decide +kernel, rfl, fun _ => rfl, zn_w70⟩
theorem f_St_20 : zx_fr (zn_G l D ar b Z) "LogHouse$Station" 20 1 2 := ⟨_, _, _, rfl, by decide, zn_uSt, zn_w68⟩
theorem p_St_20 : zx_f (zn_G l D ar b Z) "LogHouse$Station" 20 1 2 (.boolean) false := ⟨_, _, _, zn_tSt, rfl, by decide, zn_uSt, zn_oSt, zn_nSt, by decide +kernel, rfl, (fun h => by cases h), zn_w68⟩
theorem f_St_23 : zx_fr (zn_G l D ar b Z) "LogHouse$Station" 23 1 0 := ⟨_, _, _, rfl, by decide, zn_uSt, zn_w64⟩
theorem p_St_23 : zx_f (zn_G l D ar b Z) "LogHouse$Station" 23 1 0 (.int) false := ⟨_, _, _, zn_tSt, rfl, by decide, zn_uSt, zn_oSt, zn_nSt, by decide +kernel, rfl, (fun h => by cases h), zn_w64⟩
theorem f_Mo_7 : zx_fr (zn_G l D ar b Z) "LogHouseModel" 7 9 0 := ⟨_, _, _, rfl, by decide, zn_uMo, zn_w770⟩
theorem p_Mo_7 : zx_f (zn_G l D ar b Z) "LogHouseModel" 7 9 0 (.int) false := ⟨_, _, _, zn_tMo, rfl, by decide, zn_uMo, zn_oMo, zn_nMo, by decide +kernel, rfl, (fun h => by cases h), zn_w770⟩
theorem f_Mo_13 : zx_fr (zn_G l D ar b Z) "LogHouseModel" 13 9 1 := ⟨_, _, _, rfl, by decide, zn_uMo, zn_w771⟩
theorem p_Mo_13 : zx_f (zn_G l D ar b Z) "LogHouseModel" 13 9 1 (.array .int) true := ⟨_, _, _, zn_tMo, rfl, by decide, zn_uMo, zn_oMo, zn_nMo, by decide +kernel, rfl, fun _ => rfl, zn_w771⟩
theorem f_Mo_17 : zx_fr (zn_G l D ar b Z) "LogHouseModel" 17 9 2 := ⟨_, _, _, rfl, by decide, zn_uMo, zn_w772⟩
theorem p_Mo_17 : zx_f (zn_G l D ar b Z) "LogHouseModel" 17 9 2 (.array .boolean) true := ⟨_, _, _, zn_tMo, rfl, by decide, zn_uMo, zn_oMo, zn_nMo, by decide +kernel, rfl, fun _ => rfl, zn_w772⟩
theorem f_Mo_21 : zx_fr (zn_G l D ar b Z) "LogHouseModel" 21 9 3 := ⟨_, _, _, rfl, by decide, zn_uMo, zn_w773⟩
theorem p_Mo_21 : zx_f (zn_G l D ar b Z) "LogHouseModel" 21 9 3 (.array .boolean) true := ⟨_, _, _, zn_tMo, rfl, by decide, zn_uMo, zn_oMo, zn_nMo, by decide +kernel, rfl, fun _ => rfl, zn_w773⟩
theorem f_Mo_24 : zx_fr (zn_G l D ar b Z) "LogHouseModel" 24 9 4 := ⟨_, _, _, rfl, by decide, zn_uMo, zn_w774⟩
theorem p_Mo_24 : zx_f (zn_G l D ar b Z) "LogHouseModel" 24 9 4 (.array .int) true := ⟨_, _, _, zn_tMo, rfl, by decide, zn_uMo, zn_oMo, zn_nMo, by decide +kernel, rfl, fun _ => rfl, zn_w774⟩
theorem f_Mo_27 : zx_fr (zn_G l D ar b Z) "LogHouseModel" 27 9 5 := ⟨_, _, _, rfl, by decide, zn_uMo, zn_w775⟩
theorem p_Mo_27 : zx_f (zn_G l D ar b Z) "LogHouseModel" 27 9 5 (.int) false := ⟨_, _, _, zn_tMo, rfl, by decide, zn_uMo, zn_oMo, zn_nMo, by decide +kernel, rfl, (fun h => by cases h), zn_w775⟩
theorem f_Mo_30 : zx_fr (zn_G l D ar b Z) "LogHouseModel" 30 9 6 := ⟨_, _, _, rfl, by decide, zn_uMo, zn_w776⟩
theorem p_Mo_30 : zx_f (zn_G l D ar b Z) "LogHouseModel" 30 9 6 (.array .int) true := ⟨_, _, _, zn_tMo, rfl, by decide, zn_uMo, zn_oMo, zn_nMo, by decide +kernel, rfl, fun _ => rfl, zn_w776⟩
theorem f_Mo_33 : zx_fr (zn_G l D ar b Z) "LogHouseModel" 33 9 7 := ⟨_, _, _, rfl, by decide, zn_uMo, zn_w777⟩
theorem p_Mo_33 : zx_f (zn_G l D ar b Z) "LogHouseModel" 33 9 7 (.array .int) true := ⟨_, _, _, zn_tMo, rfl, by decide, zn_uMo, zn_oMo, zn_nMo, by decide +kernel, rfl, fun _ => rfl, zn_w777⟩
theorem f_Mo_36 : zx_fr (zn_G l D ar b Z) "LogHouseModel" 36 9 8 := ⟨_, _, _, rfl, by decide, zn_uMo, zn_w778⟩
theorem p_Mo_36 : zx_f (zn_G l D ar b Z) "LogHouseModel" 36 9 8 (.array .int) true := ⟨_, _, _, zn_tMo, rfl, by decide, zn_uMo, zn_oMo, zn_nMo, by decide +kernel, rfl, fun _ => rfl, zn_w778⟩
theorem f_Mo_39 : zx_fr (zn_G l D ar b Z) "LogHouseModel" 39 9 9 := ⟨_, _, _, rfl, by decide, zn_uMo, zn_w779⟩
theorem p_Mo_39 : zx_f (zn_G l D ar b Z) "LogHouseModel" 39 9 9 (.array .int) true := ⟨_, _, _, zn_tMo, rfl, by decide, zn_uMo, zn_oMo, zn_nMo, by decide +kernel, rfl, fun _ => rfl, zn_w779⟩
theorem f_Mo_42 : zx_fr (zn_G l D ar b Z) "LogHouseModel" 42 9 10 := ⟨_, _, _, rfl, by decide, zn_uMo, zn_w780⟩
theorem p_Mo_42 : zx_f (zn_G l D ar b Z) "LogHouseModel" 42 9 10 (.array .int) true := ⟨_, _, _, zn_tMo, rfl, by decide, zn_uMo, zn_oMo, zn_nMo, by decide +kernel, rfl, fun _ => rfl, zn_w780⟩
theorem f_Mo_45 : zx_fr (zn_G l D ar b Z) "LogHouseModel" 45 9 11 := ⟨_, _, _, rfl, by decide, zn_uMo, zn_w781⟩
theorem p_Mo_45 : zx_f (zn_G l D ar b Z) "LogHouseModel" 45 9 11 (.array .int) true := ⟨_, _, _, zn_tMo, rfl, by decide, zn_uMo, zn_oMo, zn_nMo, by decide +kernel, rfl, fun _ => rfl, zn_w781⟩
theorem f_Mo_48 : zx_fr (zn_G l D ar b Z) "LogHouseModel" 48 9 12 := ⟨_, _, _, rfl, by decide, zn_uMo, zn_w782⟩
theorem p_Mo_48 : zx_f (zn_G l D ar b Z) "LogHouseModel" 48 9 12 (.array .int) true := ⟨_, _, _, zn_tMo, rfl, by decide, zn_uMo, zn_oMo, zn_nMo, by decide +kernel, rfl, fun _ => rfl, zn_w782⟩
theorem f_Mo_51 : zx_fr (zn_G l D ar b Z) "LogHouseModel" 51 9 13 := ⟨_, _, _, rfl, by decide, zn_uMo, zn_w783⟩
theorem p_Mo_51 : zx_f (zn_G l D ar b Z) "LogHouseModel" 51 9 13 (.array .int) true := ⟨_, _, _, zn_tMo, rfl, by decide, zn_uMo, zn_oMo, zn_nMo, by decide +kernel, rfl, fun _ => rfl, zn_w783⟩
theorem f_Mo_54 : zx_fr (zn_G l D ar b Z) "LogHouseModel" 54 9 14 := ⟨_, _, _, rfl, by decide, zn_uMo, zn_w784⟩
theorem p_Mo_54 : zx_f (zn_G l D ar b Z) "LogHouseModel" 54 9 14 (.array .int) true := ⟨_, _, _, zn_tMo, rfl, by decide, zn_uMo, zn_oMo, zn_nMo, by decide +kernel, rfl, fun _ => rfl, zn_w784⟩
theorem f_Mo_57 : zx_fr (zn_G l D ar b Z) "LogHouseModel" 57 9 15 := ⟨_, _, _, rfl, by decide, zn_uMo, zn_w785⟩
theorem p_Mo_57 : zx_f (zn_G l D ar b Z) "LogHouseModel" 57 9 15 (.array .int) true := ⟨_, _, _, zn_tMo, rfl, by decide, zn_uMo, zn_oMo, zn_nMo, by decide +kernel, rfl, fun _ => rfl, zn_w785⟩
theorem f_Mo_60 : zx_fr (zn_G l D ar b Z) "LogHouseModel" 60 9 16 := ⟨_, _, _, rfl, by decide, zn_uMo, zn_w786⟩
theorem p_Mo_60 : zx_f (zn_G l D ar b Z) "LogHouseModel" 60 9 16 (.array .int) true := ⟨_, _, _, zn_tMo, rfl, by decide, zn_uMo, zn_oMo, zn_nMo, by decide +kernel, rfl, fun _ => rfl, zn_w786⟩
theorem f_Mo_63 : zx_fr (zn_G l D ar b Z) "LogHouseModel" 63 9 17 := ⟨_, _, _, rfl, by decide, zn_uMo, zn_w787⟩
theorem p_Mo_63 : zx_f (zn_G l D ar b Z) "LogHouseModel" 63 9 17 (.array .int) true := ⟨_, _, _, zn_tMo, rfl, by decide, zn_uMo, zn_oMo, zn_nMo, by decide +kernel, rfl, fun _ => rfl, zn_w787⟩
theorem f_Mo_66 : zx_fr (zn_G l D ar b Z) "LogHouseModel" 66 9 18 := ⟨_, _, _, rfl, by decide, zn_uMo, zn_w788⟩
theorem p_Mo_66 : zx_f (zn_G l D ar b Z) "LogHouseModel" 66 9 18 (.array .int) true := ⟨_, _, _, zn_tMo, rfl, by decide, zn_uMo, zn_oMo, zn_nMo, by decide +kernel, rfl, fun _ => rfl, zn_w788⟩
theorem f_Mo_69 : zx_fr (zn_G l D ar b Z) "LogHouseModel" 69 9 19 := ⟨_, _, _, rfl, by decide, zn_uMo, zn_w789⟩
theorem p_Mo_69 : zx_f (zn_G l D ar b Z) "LogHouseModel" 69 9 19 (.array .int) true := ⟨_, _, _, zn_tMo, rfl, by decide, zn_uMo, zn_oMo, zn_nMo, by decide +kernel, rfl, fun _ => rfl, zn_w789⟩
theorem f_Mo_72 : zx_fr (zn_G l D ar b Z) "LogHouseModel" 72 9 20 := ⟨_, _, _, rfl, by decide, zn_uMo, zn_w790⟩
theorem p_Mo_72 : zx_f (zn_G l D ar b Z) "LogHouseModel" 72 9 20 (.array .int) true := ⟨_, _, _, zn_tMo, rfl, by decide, zn_uMo, zn_oMo, zn_nMo, by decide +kernel, rfl, fun _ => rfl, zn_w790⟩
theorem f_Mo_75 : zx_fr (zn_G l D ar b Z) "LogHouseModel" 75 9 21 := ⟨_, _, _, rfl, by decide, zn_uMo, zn_w791⟩
theorem p_Mo_75 : zx_f (zn_G l D ar b Z) "LogHouseModel" 75 9 21 (.array .int) true := ⟨_, _, _, zn_tMo, rfl, by decide, zn_uMo, zn_oMo, zn_nMo, by decide +kernel, rfl, fun _ => rfl, zn_w791⟩
theorem f_Mo_78 : zx_fr (zn_G l D ar b Z) "LogHouseModel" 78 9 22 := ⟨_, _, _, rfl, by decide, zn_uMo, zn_w792⟩
theorem p_Mo_78 : zx_f (zn_G l D ar b Z) "LogHouseModel" 78 9 22 (.array .int) true := ⟨_, _, _, zn_tMo, rfl, by decide, zn_uMo, zn_oMo, zn_nMo, by decide +kernel, rfl, fun _ => rfl, zn_w792⟩
theorem f_Mo_81 : zx_fr (zn_G l D ar b Z) "LogHouseModel" 81 9 23 := ⟨_, _, _, rfl, by decide, zn_uMo, zn_w793⟩
theorem p_Mo_81 : zx_f (zn_G l D ar b Z) "LogHouseModel" 81 9 23 (.array .int) true := ⟨_, _, _, zn_tMo, rfl, by decide, zn_uMo, zn_oMo, zn_nMo, by decide +kernel, rfl, fun _ => rfl, zn_w793⟩
theorem f_Mo_84 : zx_fr (zn_G l D ar b Z) "LogHouseModel" 84 9 24 := ⟨_, _, _, rfl, by decide, zn_uMo, zn_w794⟩
theorem p_Mo_84 : zx_f (zn_G l D ar b Z) "LogHouseModel" 84 9 24 (.array .int) true := ⟨_, _, _, zn_tMo, rfl, by decide, zn_uMo, zn_oMo, zn_nMo, by decide +kernel, rfl, fun _ => rfl, zn_w794⟩
theorem f_Mo_87 : zx_fr (zn_G l D ar b Z) "LogHouseModel" 87 9 25 := ⟨_, _, _, rfl, by decide, zn_uMo, zn_w795⟩
theorem p_Mo_87 : zx_f (zn_G l D ar b Z) "LogHouseModel" 87 9 25 (.int) false := ⟨_, _, _, zn_tMo, rfl, by decide, zn_uMo, zn_oMo, zn_nMo, by decide +kernel, rfl, (fun h => by cases h), zn_w795⟩
theorem f_Mo_90 : zx_fr (zn_G l D ar b Z) "LogHouseModel" 90 9 26 := ⟨_, _, _, rfl, by decide, zn_uMo, zn_w796⟩
theorem p_Mo_90 : zx_f (zn_G l D ar b Z) "LogHouseModel" 90 9 26 (.array .int) true := ⟨_, _, _, zn_tMo, rfl, by decide, zn_uMo, zn_oMo, zn_nMo, by decide +kernel, rfl, fun _ => rfl, zn_w796⟩
theorem f_Mo_93 : zx_fr (zn_G l D ar b Z) "LogHouseModel" 93 9 27 := ⟨_, _, _, rfl, by decide, zn_uMo, zn_w797⟩
theorem p_Mo_93 : zx_f (zn_G l D ar b Z) "LogHouseModel" 93 9 27 (.array .int) true := ⟨_, _, _, zn_tMo, rfl, by decide, zn_uMo, zn_oMo, zn_nMo, by decide +kernel, rfl, fun _ => rfl, zn_w797⟩
theorem s_Ho_15 : zx_s (zn_G l D ar b Z) "LogHouse" 15 y_St_init 0 := ⟨zn_ok, zn_w34, zn_w2, ⟨by decide, by decide, by decide +kernel⟩, Or.inr ⟨_, fun U h => h.1.1⟩⟩
theorem s_Ho_22 : zx_s (zn_G l D ar b Z) "LogHouse" 22 y_Pr_init 1 := ⟨zn_ok, zn_w86, zn_w4, ⟨by decide, by decide, by decide +kernel⟩, Or.inl zn_w84⟩
theorem s_Ho_27 : zx_s (zn_G l D ar b Z) "LogHouse" 27 y_Ro_init 0 := ⟨zn_ok, zn_w166, zn_w7, ⟨by decide, by decide, by decide +kernel⟩, Or.inl zn_w164⟩
theorem s_Ho_34 : zx_s (zn_G l D ar b Z) "LogHouse" 34 y_Ga_init 0 := ⟨zn_ok, zn_w232, zn_w9, ⟨by decide, by decide, by decide +kernel⟩, Or.inr ⟨_, fun U h => h.1.2.2.2.2.2.2.2.1⟩⟩
theorem s_Ho_41 : zx_s (zn_G l D ar b Z) "LogHouse" 41 y_Re_init 0 := ⟨zn_ok, zn_w102, zn_w6, ⟨by decide, by decide, by decide +kernel⟩, Or.inr ⟨_, fun U h => h.1.2.2.2.2.2.2.2.2.1⟩⟩
theorem s_Ho_49 : zx_s (zn_G l D ar b Z) "LogHouse" 49 y_Ho_isProposer 1 := ⟨zn_ok, zn_w278, zn_w1, ⟨by decide, by decide, by decide +kernel⟩, Or.inl zn_w276⟩
theorem s_Ho_53 : zx_s (zn_G l D ar b Z) "LogHouse" 53 y_Pr_write 2 := ⟨zn_ok, zn_w282, zn_w4, ⟨by decide, by decide, by decide +kernel⟩, Or.inl zn_w279⟩
theorem s_Ho_57 : zx_s (zn_G l D ar b Z) "LogHouse" 57 y_Ho_checkProposer 1 := ⟨zn_ok, zn_w297, zn_w1, ⟨by decide, by decide, by decide +kernel⟩, Or.inl zn_w295⟩
theorem s_Ho_60 : zx_s (zn_G l D ar b Z) "LogHouse" 60 y_Ho_highestPromised 0 := ⟨zn_ok, zn_w365, zn_w1, ⟨by decide, by decide, by decide +kernel⟩, Or.inl zn_w362⟩
theorem s_Ho_64 : zx_s (zn_G l D ar b Z) "LogHouse" 64 y_Pr_begin 1 := ⟨zn_ok, zn_w372, zn_w4, ⟨by decide, by decide, by decide +kernel⟩, Or.inl zn_w369⟩
theorem s_Ho_67 : zx_s (zn_G l D ar b Z) "LogHouse" 67 y_Ho_sendPrepares 1 := ⟨zn_ok, zn_w385, zn_w1, ⟨by decide, by decide, by decide +kernel⟩, Or.inl zn_w382⟩
theorem s_Ho_75 : zx_s (zn_G l D ar b Z) "LogHouse" 75 y_Pr_firstFree 0 := ⟨zn_ok, zn_w413, zn_w4, ⟨by decide, by decide, by decide +kernel⟩, Or.inl zn_w410⟩
theorem s_Ho_84 : zx_s (zn_G l D ar b Z) "LogHouse" 84 y_Pr_proposeDraft 1 := ⟨zn_ok, zn_w436, zn_w4, ⟨by decide, by decide, by decide +kernel⟩, Or.inl zn_w433⟩
theorem s_Ho_87 : zx_s (zn_G l D ar b Z) "LogHouse" 87 y_Ho_sendAccepts 2 := ⟨zn_ok, zn_w454, zn_w1, ⟨by decide, by decide, by decide +kernel⟩, Or.inl zn_w451⟩
theorem s_Ho_97 : zx_s (zn_G l D ar b Z) "LogHouse" 97 y_Ho_sendAllAccepts 1 := ⟨zn_ok, zn_w486, zn_w1, ⟨by decide, by decide, by decide +kernel⟩, Or.inl zn_w483⟩
theorem s_Ho_100 : zx_s (zn_G l D ar b Z) "LogHouse" 100 y_Ho_checkLetter 1 := ⟨zn_ok, zn_w502, zn_w1, ⟨by decide, by decide, by decide +kernel⟩, Or.inl zn_w499⟩
theorem s_Ho_103 : zx_s (zn_G l D ar b Z) "LogHouse" 103 y_Ro_take 1 := ⟨zn_ok, zn_w521, zn_w7, ⟨by decide, by decide, by decide +kernel⟩, Or.inl zn_w518⟩
theorem s_Ho_112 : zx_s (zn_G l D ar b Z) "LogHouse" 112 y_Ho_bringPrepare 1 := ⟨zn_ok, zn_w525, zn_w1, ⟨by decide, by decide, by decide +kernel⟩, Or.inl zn_w522⟩
theorem s_Ho_116 : zx_s (zn_G l D ar b Z) "LogHouse" 116 y_Ho_bringPromise 1 := ⟨zn_ok, zn_w541, zn_w1, ⟨by decide, by decide, by decide +kernel⟩, Or.inl zn_w538⟩
theorem s_Ho_119 : zx_s (zn_G l D ar b Z) "LogHouse" 119 y_Ho_bringAccept 1 := ⟨zn_ok, zn_w604, zn_w1, ⟨by decide, by decide, by decide +kernel⟩, Or.inl zn_w601⟩
theorem s_Ho_125 : zx_s (zn_G l D ar b Z) "LogHouse" 125 y_Pr_hearAccepted 1 := ⟨zn_ok, zn_w609, zn_w4, ⟨by decide, by decide, by decide +kernel⟩, Or.inl zn_w606⟩
theorem s_Ho_128 : zx_s (zn_G l D ar b Z) "LogHouse" 128 y_Ro_append 0 := ⟨zn_ok, zn_w397, zn_w7, ⟨by decide, by decide, by decide +kernel⟩, Or.inl zn_w631⟩
theorem s_Ho_136 : zx_s (zn_G l D ar b Z) "LogHouse" 136 y_Le_copyFrom 1 := ⟨zn_ok, zn_w635, zn_w8, ⟨by decide, by decide, by decide +kernel⟩, Or.inl zn_w632⟩
theorem s_Ho_152 : zx_s (zn_G l D ar b Z) "LogHouse" 152 y_Ho_checkStation 1 := ⟨zn_ok, zn_w655, zn_w1, ⟨by decide, by decide, by decide +kernel⟩, Or.inl zn_w653⟩
theorem s_Ho_159 : zx_s (zn_G l D ar b Z) "LogHouse" 159 y_St_loseAll 0 := ⟨zn_ok, zn_w666, zn_w2, ⟨by decide, by decide, by decide +kernel⟩, Or.inl zn_w663⟩
theorem s_Ho_178 : zx_s (zn_G l D ar b Z) "LogHouse" 178 y_Sh_has 1 := ⟨zn_ok, zn_w566, zn_w3, ⟨by decide, by decide, by decide +kernel⟩, Or.inl zn_w678⟩
theorem s_Ho_183 : zx_s (zn_G l D ar b Z) "LogHouse" 183 y_Ho_gatherFromStations 2 := ⟨zn_ok, zn_w682, zn_w1, ⟨by decide, by decide, by decide +kernel⟩, Or.inl zn_w679⟩
theorem s_Ho_186 : zx_s (zn_G l D ar b Z) "LogHouse" 186 y_Ga_putTogether 1 := ⟨zn_ok, zn_w589, zn_w9, ⟨by decide, by decide, by decide +kernel⟩, Or.inl zn_w586⟩
theorem s_Ho_193 : zx_s (zn_G l D ar b Z) "LogHouse" 193 y_Re_shareOf 1 := ⟨zn_ok, zn_w466, zn_w6, ⟨by decide, by decide, by decide +kernel⟩, Or.inl zn_w463⟩
theorem s_Ho_197 : zx_s (zn_G l D ar b Z) "LogHouse" 197 y_Sh_put 5 := ⟨zn_ok, zn_w537, zn_w3, ⟨by decide, by decide, by decide +kernel⟩, Or.inl zn_w605⟩
theorem s_Ho_201 : zx_s (zn_G l D ar b Z) "LogHouse" 201 y_Ho_checkPlace 1 := ⟨zn_ok, zn_w695, zn_w1, ⟨by decide, by decide, by decide +kernel⟩, Or.inl zn_w693⟩
theorem s_Ho_210 : zx_s (zn_G l D ar b Z) "LogHouse" 210 y_Re_byteAt 1 := ⟨zn_ok, zn_w729, zn_w6, ⟨by decide, by decide, by decide +kernel⟩, Or.inl zn_w726⟩
theorem s_Ho_217 : zx_s (zn_G l D ar b Z) "LogHouse" 217 y_In_bitCount 1 := ⟨zn_ok, zn_w550, zn_w19, ⟨by decide, by decide, by decide +kernel⟩, Or.inl zn_w548⟩
theorem s_Ho_225 : zx_s (zn_G l D ar b Z) "LogHouse" 225 y_Sh_countBytes 0 := ⟨zn_ok, zn_w747, zn_w3, ⟨by decide, by decide, by decide +kernel⟩, Or.inl zn_w744⟩
theorem s_Ho_238 : zx_s (zn_G l D ar b Z) "LogHouse" 238 y_Sh_shareByte 2 := ⟨zn_ok, zn_w759, zn_w3, ⟨by decide, by decide, by decide +kernel⟩, Or.inl zn_w756⟩
theorem s_Ho_242 : zx_s (zn_G l D ar b Z) "LogHouse" 242 y_Ma_max 2 := ⟨zn_ok, zn_w368, zn_w15, ⟨by decide, by decide, by decide +kernel⟩, Or.inl zn_w366⟩
theorem s_Ho_247 : zx_s (zn_G l D ar b Z) "LogHouse" 247 y_Pr_hasPromiseOf 1 := ⟨zn_ok, zn_w389, zn_w4, ⟨by decide, by decide, by decide +kernel⟩, Or.inl zn_w386⟩
theorem s_Ho_253 : zx_s (zn_G l D ar b Z) "LogHouse" 253 y_Ro_post 4 := ⟨zn_ok, zn_w393, zn_w7, ⟨by decide, by decide, by decide +kernel⟩, Or.inl zn_w390⟩
theorem s_Ho_257 : zx_s (zn_G l D ar b Z) "LogHouse" 257 y_Sp_isWaiting 0 := ⟨zn_ok, zn_w490, zn_w5, ⟨by decide, by decide, by decide +kernel⟩, Or.inl zn_w487⟩
theorem s_Ho_261 : zx_s (zn_G l D ar b Z) "LogHouse" 261 y_Sp_hasAnswerOf 1 := ⟨zn_ok, zn_w458, zn_w5, ⟨by decide, by decide, by decide +kernel⟩, Or.inl zn_w455⟩
theorem s_Ho_267 : zx_s (zn_G l D ar b Z) "LogHouse" 267 y_Le_aboutPlace 2 := ⟨zn_ok, zn_w462, zn_w8, ⟨by decide, by decide, by decide +kernel⟩, Or.inl zn_w459⟩
theorem s_Ho_279 : zx_s (zn_G l D ar b Z) "LogHouse" 279 y_St_heeds 1 := ⟨zn_ok, zn_w529, zn_w2, ⟨by decide, by decide, by decide +kernel⟩, Or.inl zn_w526⟩
theorem s_Ho_283 : zx_s (zn_G l D ar b Z) "LogHouse" 283 y_Sh_copyFrom 1 := ⟨zn_ok, zn_w533, zn_w3, ⟨by decide, by decide, by decide +kernel⟩, Or.inl zn_w530⟩
theorem s_Ho_286 : zx_s (zn_G l D ar b Z) "LogHouse" 286 y_Pr_hearPromise 1 := ⟨zn_ok, zn_w545, zn_w4, ⟨by decide, by decide, by decide +kernel⟩, Or.inl zn_w542⟩
theorem s_Ho_289 : zx_s (zn_G l D ar b Z) "LogHouse" 289 y_Ho_lead 1 := ⟨zn_ok, zn_w557, zn_w1, ⟨by decide, by decide, by decide +kernel⟩, Or.inl zn_w554⟩
theorem s_Ho_292 : zx_s (zn_G l D ar b Z) "LogHouse" 292 y_Sp_isOpen 0 := ⟨zn_ok, zn_w417, zn_w5, ⟨by decide, by decide, by decide +kernel⟩, Or.inl zn_w558⟩
theorem s_Ho_295 : zx_s (zn_G l D ar b Z) "LogHouse" 295 y_Pr_gatherFromPromises 2 := ⟨zn_ok, zn_w562, zn_w4, ⟨by decide, by decide, by decide +kernel⟩, Or.inl zn_w559⟩
theorem s_Ho_300 : zx_s (zn_G l D ar b Z) "LogHouse" 300 y_Sp_proposeAs 1 := ⟨zn_ok, zn_w381, zn_w5, ⟨by decide, by decide, by decide +kernel⟩, Or.inl zn_w585⟩
theorem s_Ho_303 : zx_s (zn_G l D ar b Z) "LogHouse" 303 y_Ga_start 1 := ⟨zn_ok, zn_w570, zn_w9, ⟨by decide, by decide, by decide +kernel⟩, Or.inl zn_w683⟩
theorem s_Ho_306 : zx_s (zn_G l D ar b Z) "LogHouse" 306 y_Ga_addIfOfIt 3 := ⟨zn_ok, zn_w578, zn_w9, ⟨by decide, by decide, by decide +kernel⟩, Or.inl zn_w684⟩
theorem s_Ho_310 : zx_s (zn_G l D ar b Z) "LogHouse" 310 y_Ga_isEnough 0 := ⟨zn_ok, zn_w584, zn_w9, ⟨by decide, by decide, by decide +kernel⟩, Or.inl zn_w685⟩
theorem s_Fi_19 : zx_s (zn_G l D ar b Z) "LogHouse$Field" 19 y_Fi_times 2 := ⟨zn_ok, zn_w472, zn_w17, ⟨by decide, by decide, by decide +kernel⟩, Or.inl zn_w600⟩
theorem s_Ga_29 : zx_s (zn_G l D ar b Z) "LogHouse$Gathering" 29 y_Sh_has 1 := ⟨zn_ok, zn_w566, zn_w3, ⟨by decide, by decide, by decide +kernel⟩, Or.inl zn_w579⟩
theorem s_Ga_41 : zx_s (zn_G l D ar b Z) "LogHouse$Gathering" 41 y_Re_pointOf 1 := ⟨zn_ok, zn_w469, zn_w6, ⟨by decide, by decide, by decide +kernel⟩, Or.inl zn_w580⟩
theorem s_Ga_49 : zx_s (zn_G l D ar b Z) "LogHouse$Gathering" 49 y_Re_clearPieces 0 := ⟨zn_ok, zn_w445, zn_w6, ⟨by decide, by decide, by decide +kernel⟩, Or.inl zn_w590⟩
theorem s_Ga_52 : zx_s (zn_G l D ar b Z) "LogHouse$Gathering" 52 y_Re_addShare 4 := ⟨zn_ok, zn_w594, zn_w6, ⟨by decide, by decide, by decide +kernel⟩, Or.inl zn_w591⟩
theorem s_Le_11 : zx_s (zn_G l D ar b Z) "LogHouse$Letter" 11 y_Sh_init 0 := ⟨zn_ok, zn_w40, zn_w3, ⟨by decide, by decide, by decide +kernel⟩, Or.inr ⟨_, fun U h => h.1.2.2.2.2.2.2.1⟩⟩
theorem s_Le_37 : zx_s (zn_G l D ar b Z) "LogHouse$Letter" 37 y_Le_address 4 := ⟨zn_ok, zn_w401, zn_w8, ⟨by decide, by decide, by decide +kernel⟩, Or.inl zn_w636⟩
theorem s_Le_41 : zx_s (zn_G l D ar b Z) "LogHouse$Letter" 41 y_Le_aboutPlace 2 := ⟨zn_ok, zn_w462, zn_w8, ⟨by decide, by decide, by decide +kernel⟩, Or.inl zn_w637⟩
theorem s_Le_52 : zx_s (zn_G l D ar b Z) "LogHouse$Letter" 52 y_Sh_copyFrom 1 := ⟨zn_ok, zn_w533, zn_w3, ⟨by decide, by decide, by decide +kernel⟩, Or.inl zn_w638⟩
theorem s_Pr_34 : zx_s (zn_G l D ar b Z) "LogHouse$Proposer" 34 y_Sh_init 0 := ⟨zn_ok, zn_w40, zn_w3, ⟨by decide, by decide, by decide +kernel⟩, Or.inr ⟨_, fun U h => h.1.2.2.1⟩⟩
theorem s_Pr_35 : zx_s (zn_G l D ar b Z) "LogHouse$Proposer" 35 y_Sp_init 0 := ⟨zn_ok, zn_w96, zn_w5, ⟨by decide, by decide, by decide +kernel⟩, Or.inr ⟨_, fun U h => h.1.2.2.2.1⟩⟩
theorem s_Pr_42 : zx_s (zn_G l D ar b Z) "LogHouse$Proposer" 42 y_Ma_max 2 := ⟨zn_ok, zn_w368, zn_w15, ⟨by decide, by decide, by decide +kernel⟩, Or.inl zn_w373⟩
theorem s_Pr_51 : zx_s (zn_G l D ar b Z) "LogHouse$Proposer" 51 y_Sp_forget 0 := ⟨zn_ok, zn_w377, zn_w5, ⟨by decide, by decide, by decide +kernel⟩, Or.inl zn_w374⟩
theorem s_Pr_54 : zx_s (zn_G l D ar b Z) "LogHouse$Proposer" 54 y_Sp_isOpen 0 := ⟨zn_ok, zn_w417, zn_w5, ⟨by decide, by decide, by decide +kernel⟩, Or.inl zn_w414⟩
theorem s_Pr_58 : zx_s (zn_G l D ar b Z) "LogHouse$Proposer" 58 y_Sp_proposeAs 1 := ⟨zn_ok, zn_w381, zn_w5, ⟨by decide, by decide, by decide +kernel⟩, Or.inl zn_w437⟩
theorem s_Pr_66 : zx_s (zn_G l D ar b Z) "LogHouse$Proposer" 66 y_Re_cut 2 := ⟨zn_ok, zn_w441, zn_w6, ⟨by decide, by decide, by decide +kernel⟩, Or.inl zn_w438⟩
theorem s_Pr_78 : zx_s (zn_G l D ar b Z) "LogHouse$Proposer" 78 y_Pr_hasPromiseOf 1 := ⟨zn_ok, zn_w389, zn_w4, ⟨by decide, by decide, by decide +kernel⟩, Or.inl zn_w546⟩
theorem s_Pr_86 : zx_s (zn_G l D ar b Z) "LogHouse$Proposer" 86 y_Sh_copyFrom 1 := ⟨zn_ok, zn_w533, zn_w3, ⟨by decide, by decide, by decide +kernel⟩, Or.inl zn_w547⟩
theorem s_Pr_96 : zx_s (zn_G l D ar b Z) "LogHouse$Proposer" 96 y_Sp_hearAnswer 2 := ⟨zn_ok, zn_w613, zn_w5, ⟨by decide, by decide, by decide +kernel⟩, Or.inl zn_w610⟩
theorem s_Pr_100 : zx_s (zn_G l D ar b Z) "LogHouse$Proposer" 100 y_Sh_has 1 := ⟨zn_ok, zn_w566, zn_w3, ⟨by decide, by decide, by decide +kernel⟩, Or.inl zn_w563⟩
theorem s_Pr_107 : zx_s (zn_G l D ar b Z) "LogHouse$Proposer" 107 y_Ga_start 1 := ⟨zn_ok, zn_w570, zn_w9, ⟨by decide, by decide, by decide +kernel⟩, Or.inl zn_w567⟩
theorem s_Pr_112 : zx_s (zn_G l D ar b Z) "LogHouse$Proposer" 112 y_Pr_addPromises 2 := ⟨zn_ok, zn_w574, zn_w4, ⟨by decide, by decide, by decide +kernel⟩, Or.inl zn_w571⟩
theorem s_Pr_116 : zx_s (zn_G l D ar b Z) "LogHouse$Proposer" 116 y_Ga_isEnough 0 := ⟨zn_ok, zn_w584, zn_w9, ⟨by decide, by decide, by decide +kernel⟩, Or.inl zn_w581⟩
theorem s_Pr_119 : zx_s (zn_G l D ar b Z) "LogHouse$Proposer" 119 y_Ga_addIfOfIt 3 := ⟨zn_ok, zn_w578, zn_w9, ⟨by decide, by decide, by decide +kernel⟩, Or.inl zn_w575⟩
theorem s_Re_19 : zx_s (zn_G l D ar b Z) "LogHouse$Report" 19 y_Re_clearPieces 0 := ⟨zn_ok, zn_w445, zn_w6, ⟨by decide, by decide, by decide +kernel⟩, Or.inl zn_w442⟩
theorem s_Re_22 : zx_s (zn_G l D ar b Z) "LogHouse$Report" 22 y_Re_third 1 := ⟨zn_ok, zn_w448, zn_w6, ⟨by decide, by decide, by decide +kernel⟩, Or.inl zn_w446⟩
theorem s_Re_26 : zx_s (zn_G l D ar b Z) "LogHouse$Report" 26 y_Ma_max 2 := ⟨zn_ok, zn_w368, zn_w15, ⟨by decide, by decide, by decide +kernel⟩, Or.inl zn_w449⟩
theorem s_Re_34 : zx_s (zn_G l D ar b Z) "LogHouse$Report" 34 y_Re_pointOf 1 := ⟨zn_ok, zn_w469, zn_w6, ⟨by decide, by decide, by decide +kernel⟩, Or.inl zn_w467⟩
theorem s_Re_37 : zx_s (zn_G l D ar b Z) "LogHouse$Report" 37 y_Fi_times 2 := ⟨zn_ok, zn_w472, zn_w17, ⟨by decide, by decide, by decide +kernel⟩, Or.inl zn_w470⟩
theorem s_Re_43 : zx_s (zn_G l D ar b Z) "LogHouse$Report" 43 y_Fi_overSum 3 := ⟨zn_ok, zn_w597, zn_w17, ⟨by decide, by decide, by decide +kernel⟩, Or.inl zn_w595⟩
theorem s_Ro_17 : zx_s (zn_G l D ar b Z) "LogHouse$Row" 17 y_Le_init 0 := ⟨zn_ok, zn_w173, zn_w8, ⟨by decide, by decide, by decide +kernel⟩, Or.inr ⟨_, fun U h => h.1.2.2.2.2.2.1⟩⟩
theorem s_Ro_22 : zx_s (zn_G l D ar b Z) "LogHouse$Row" 22 y_Ro_append 0 := ⟨zn_ok, zn_w397, zn_w7, ⟨by decide, by decide, by decide +kernel⟩, Or.inl zn_w394⟩
theorem s_Ro_26 : zx_s (zn_G l D ar b Z) "LogHouse$Row" 26 y_Le_address 4 := ⟨zn_ok, zn_w401, zn_w8, ⟨by decide, by decide, by decide +kernel⟩, Or.inl zn_w398⟩
theorem s_Sh_25 : zx_s (zn_G l D ar b Z) "LogHouse$Shelf" 25 y_Sh_put 5 := ⟨zn_ok, zn_w537, zn_w3, ⟨by decide, by decide, by decide +kernel⟩, Or.inl zn_w534⟩
theorem s_Sh_29 : zx_s (zn_G l D ar b Z) "LogHouse$Shelf" 29 y_Re_third 1 := ⟨zn_ok, zn_w448, zn_w6, ⟨by decide, by decide, by decide +kernel⟩, Or.inl zn_w748⟩
theorem s_Sp_11 : zx_s (zn_G l D ar b Z) "LogHouse$Spot" 11 y_Re_init 0 := ⟨zn_ok, zn_w102, zn_w6, ⟨by decide, by decide, by decide +kernel⟩, Or.inr ⟨_, fun U h => h.1.2.2.2.2.1⟩⟩
theorem s_Sp_28 : zx_s (zn_G l D ar b Z) "LogHouse$Spot" 28 y_Sp_proposeAs 1 := ⟨zn_ok, zn_w381, zn_w5, ⟨by decide, by decide, by decide +kernel⟩, Or.inl zn_w378⟩
theorem s_Sp_32 : zx_s (zn_G l D ar b Z) "LogHouse$Spot" 32 y_Sp_isWaiting 0 := ⟨zn_ok, zn_w490, zn_w5, ⟨by decide, by decide, by decide +kernel⟩, Or.inl zn_w614⟩
theorem s_Sp_36 : zx_s (zn_G l D ar b Z) "LogHouse$Spot" 36 y_In_bitCount 1 := ⟨zn_ok, zn_w550, zn_w19, ⟨by decide, by decide, by decide +kernel⟩, Or.inl zn_w615⟩
theorem s_Sp_42 : zx_s (zn_G l D ar b Z) "LogHouse$Spot" 42 y_Sp_forget 0 := ⟨zn_ok, zn_w377, zn_w5, ⟨by decide, by decide, by decide +kernel⟩, Or.inl zn_w616⟩
theorem s_St_15 : zx_s (zn_G l D ar b Z) "LogHouse$Station" 15 y_Sh_init 0 := ⟨zn_ok, zn_w40, zn_w3, ⟨by decide, by decide, by decide +kernel⟩, Or.inr ⟨_, fun U h => h.1.2.1⟩⟩
theorem s_St_27 : zx_s (zn_G l D ar b Z) "LogHouse$Station" 27 y_Sh_clear 0 := ⟨zn_ok, zn_w670, zn_w3, ⟨by decide, by decide, by decide +kernel⟩, Or.inl zn_w667⟩
theorem s_La_7 : zx_s (zn_G l D ar b Z) "LogHouseLaw" 7 y_Ho_campaign 1 := ⟨zn_ok, zn_w294, zn_w1, ⟨by decide, by decide, by decide +kernel⟩, Or.inl zn_w291⟩
theorem s_La_15 : zx_s (zn_G l D ar b Z) "LogHouseLaw" 15 y_Ho_propose 1 := ⟨zn_ok, zn_w409, zn_w1, ⟨by decide, by decide, by decide +kernel⟩, Or.inl zn_w406⟩
theorem s_La_20 : zx_s (zn_G l D ar b Z) "LogHouseLaw" 20 y_Ho_resend 1 := ⟨zn_ok, zn_w482, zn_w1, ⟨by decide, by decide, by decide +kernel⟩, Or.inl zn_w479⟩
theorem s_La_23 : zx_s (zn_G l D ar b Z) "LogHouseLaw" 23 y_Ho_deliver 1 := ⟨zn_ok, zn_w498, zn_w1, ⟨by decide, by decide, by decide +kernel⟩, Or.inl zn_w495⟩
theorem s_La_28 : zx_s (zn_G l D ar b Z) "LogHouseLaw" 28 y_Ho_drop 1 := ⟨zn_ok, zn_w623, zn_w1, ⟨by decide, by decide, by decide +kernel⟩, Or.inl zn_w620⟩
theorem s_La_32 : zx_s (zn_G l D ar b Z) "LogHouseLaw" 32 y_Ho_twin 1 := ⟨zn_ok, zn_w630, zn_w1, ⟨by decide, by decide, by decide +kernel⟩, Or.inl zn_w627⟩
theorem s_La_35 : zx_s (zn_G l D ar b Z) "LogHouseLaw" 35 y_Ho_letter 2 := ⟨zn_ok, zn_w645, zn_w1, ⟨by decide, by decide, by decide +kernel⟩, Or.inl zn_w642⟩
theorem s_La_39 : zx_s (zn_G l D ar b Z) "LogHouseLaw" 39 y_Ho_up 2 := ⟨zn_ok, zn_w652, zn_w1, ⟨by decide, by decide, by decide +kernel⟩, Or.inl zn_w649⟩
theorem s_La_43 : zx_s (zn_G l D ar b Z) "LogHouseLaw" 43 y_Ho_wipe 1 := ⟨zn_ok, zn_w662, zn_w1, ⟨by decide, by decide, by decide +kernel⟩, Or.inl zn_w659⟩
theorem s_La_46 : zx_s (zn_G l D ar b Z) "LogHouseLaw" 46 y_Ho_catchUp 2 := ⟨zn_ok, zn_w677, zn_w1, ⟨by decide, by decide, by decide +kernel⟩, Or.inl zn_w674⟩
theorem s_La_49 : zx_s (zn_G l D ar b Z) "LogHouseLaw" 49 y_Ho_decided 2 := ⟨zn_ok, zn_w692, zn_w1, ⟨by decide, by decide, by decide +kernel⟩, Or.inl zn_w689⟩
theorem s_La_52 : zx_s (zn_G l D ar b Z) "LogHouseLaw" 52 y_Ho_read 2 := ⟨zn_ok, zn_w703, zn_w1, ⟨by decide, by decide, by decide +kernel⟩, Or.inl zn_w700⟩
theorem s_La_57 : zx_s (zn_G l D ar b Z) "LogHouseLaw" 57 y_Ho_readByte 1 := ⟨zn_ok, zn_w725, zn_w1, ⟨by decide, by decide, by decide +kernel⟩, Or.inl zn_w722⟩
theorem s_La_60 : zx_s (zn_G l D ar b Z) "LogHouseLaw" 60 y_Ho_state 2 := ⟨zn_ok, zn_w736, zn_w1, ⟨by decide, by decide, by decide +kernel⟩, Or.inl zn_w733⟩
theorem s_La_63 : zx_s (zn_G l D ar b Z) "LogHouseLaw" 63 y_Ho_station 2 := ⟨zn_ok, zn_w743, zn_w1, ⟨by decide, by decide, by decide +kernel⟩, Or.inl zn_w740⟩
theorem s_La_66 : zx_s (zn_G l D ar b Z) "LogHouseLaw" 66 y_Ho_share 3 := ⟨zn_ok, zn_w755, zn_w1, ⟨by decide, by decide, by decide +kernel⟩, Or.inl zn_w752⟩
theorem s_La_70 : zx_s (zn_G l D ar b Z) "LogHouseLaw" 70 y_Ho_init 0 := ⟨zn_ok, zn_w25, zn_w1, ⟨by decide, by decide, by decide +kernel⟩, Or.inl zn_w23⟩
theorem s_La_73 : zx_s (zn_G l D ar b Z) "LogHouseLaw" 73 y_Mo_init 0 := ⟨zn_ok, zn_w765, zn_w10, ⟨by decide, by decide, by decide +kernel⟩, Or.inl zn_w763⟩
theorem s_La_74 : zx_s (zn_G l D ar b Z) "LogHouseLaw" 74 y_Ho_byteIn 3 := ⟨zn_ok, zn_w275, zn_w1, ⟨by decide, by decide, by decide +kernel⟩, Or.inl zn_w272⟩
theorem s_La_78 : zx_s (zn_G l D ar b Z) "LogHouseLaw" 78 y_Mo_byteIn 3 := ⟨zn_ok, zn_w863, zn_w10, ⟨by decide, by decide, by decide +kernel⟩, Or.inl zn_w860⟩
theorem s_La_84 : zx_s (zn_G l D ar b Z) "LogHouseLaw" 84 y_Mo_campaign 1 := ⟨zn_ok, zn_w870, zn_w10, ⟨by decide, by decide, by decide +kernel⟩, Or.inl zn_w867⟩
theorem s_La_85 : zx_s (zn_G l D ar b Z) "LogHouseLaw" 85 y_Mo_thrown 0 := ⟨zn_ok, zn_w859, zn_w10, ⟨by decide, by decide, by decide +kernel⟩, Or.inl zn_w856⟩
theorem s_La_91 : zx_s (zn_G l D ar b Z) "LogHouseLaw" 91 y_Mo_propose 1 := ⟨zn_ok, zn_w882, zn_w10, ⟨by decide, by decide, by decide +kernel⟩, Or.inl zn_w879⟩
theorem s_La_94 : zx_s (zn_G l D ar b Z) "LogHouseLaw" 94 y_Mo_resend 1 := ⟨zn_ok, zn_w913, zn_w10, ⟨by decide, by decide, by decide +kernel⟩, Or.inl zn_w910⟩
theorem s_La_97 : zx_s (zn_G l D ar b Z) "LogHouseLaw" 97 y_Mo_deliver 1 := ⟨zn_ok, zn_w917, zn_w10, ⟨by decide, by decide, by decide +kernel⟩, Or.inl zn_w914⟩
theorem s_La_101 : zx_s (zn_G l D ar b Z) "LogHouseLaw" 101 y_Mo_drop 1 := ⟨zn_ok, zn_w963, zn_w10, ⟨by decide, by decide, by decide +kernel⟩, Or.inl zn_w960⟩
theorem s_La_104 : zx_s (zn_G l D ar b Z) "LogHouseLaw" 104 y_Mo_twin 1 := ⟨zn_ok, zn_w967, zn_w10, ⟨by decide, by decide, by decide +kernel⟩, Or.inl zn_w964⟩
theorem s_La_105 : zx_s (zn_G l D ar b Z) "LogHouseLaw" 105 y_Ho_letters 0 := ⟨zn_ok, zn_w286, zn_w1, ⟨by decide, by decide, by decide +kernel⟩, Or.inl zn_w283⟩
theorem s_La_108 : zx_s (zn_G l D ar b Z) "LogHouseLaw" 108 y_Mo_letters 0 := ⟨zn_ok, zn_w971, zn_w10, ⟨by decide, by decide, by decide +kernel⟩, Or.inl zn_w968⟩
theorem s_La_112 : zx_s (zn_G l D ar b Z) "LogHouseLaw" 112 y_Mo_letter 2 := ⟨zn_ok, zn_w975, zn_w10, ⟨by decide, by decide, by decide +kernel⟩, Or.inl zn_w972⟩
theorem s_La_116 : zx_s (zn_G l D ar b Z) "LogHouseLaw" 116 y_Mo_up 2 := ⟨zn_ok, zn_w979, zn_w10, ⟨by decide, by decide, by decide +kernel⟩, Or.inl zn_w976⟩
theorem s_La_119 : zx_s (zn_G l D ar b Z) "LogHouseLaw" 119 y_Mo_wipe 1 := ⟨zn_ok, zn_w986, zn_w10, ⟨by decide, by decide, by decide +kernel⟩, Or.inl zn_w983⟩
theorem s_La_122 : zx_s (zn_G l D ar b Z) "LogHouseLaw" 122 y_Mo_catchUp 2 := ⟨zn_ok, zn_w990, zn_w10, ⟨by decide, by decide, by decide +kernel⟩, Or.inl zn_w987⟩
theorem s_La_125 : zx_s (zn_G l D ar b Z) "LogHouseLaw" 125 y_Mo_decided 2 := ⟨zn_ok, zn_w1006, zn_w10, ⟨by decide, by decide, by decide +kernel⟩, Or.inl zn_w1003⟩
theorem s_La_128 : zx_s (zn_G l D ar b Z) "LogHouseLaw" 128 y_Mo_read 2 := ⟨zn_ok, zn_w1010, zn_w10, ⟨by decide, by decide, by decide +kernel⟩, Or.inl zn_w1007⟩
theorem s_La_131 : zx_s (zn_G l D ar b Z) "LogHouseLaw" 131 y_Mo_readByte 1 := ⟨zn_ok, zn_w1014, zn_w10, ⟨by decide, by decide, by decide +kernel⟩, Or.inl zn_w1011⟩
theorem s_La_134 : zx_s (zn_G l D ar b Z) "LogHouseLaw" 134 y_Mo_state 2 := ⟨zn_ok, zn_w1018, zn_w10, ⟨by decide, by decide, by decide +kernel⟩, Or.inl zn_w1015⟩
theorem s_La_137 : zx_s (zn_G l D ar b Z) "LogHouseLaw" 137 y_Mo_station 2 := ⟨zn_ok, zn_w1022, zn_w10, ⟨by decide, by decide, by decide +kernel⟩, Or.inl zn_w1019⟩
theorem s_La_141 : zx_s (zn_G l D ar b Z) "LogHouseLaw" 141 y_Mo_share 3 := ⟨zn_ok, zn_w1026, zn_w10, ⟨by decide, by decide, by decide +kernel⟩, Or.inl zn_w1023⟩
theorem s_Mo_96 : zx_s (zn_G l D ar b Z) "LogHouseModel" 96 y_Mo_times 2 := ⟨zn_ok, zn_w769, zn_w10, ⟨by decide, by decide, by decide +kernel⟩, Or.inl zn_w767⟩
theorem s_Mo_100 : zx_s (zn_G l D ar b Z) "LogHouseModel" 100 y_Mo_third 1 := ⟨zn_ok, zn_w901, zn_w10, ⟨by decide, by decide, by decide +kernel⟩, Or.inl zn_w899⟩
theorem s_Mo_104 : zx_s (zn_G l D ar b Z) "LogHouseModel" 104 y_Mo_product 2 := ⟨zn_ok, zn_w909, zn_w10, ⟨by decide, by decide, by decide +kernel⟩, Or.inl zn_w906⟩
theorem s_Mo_107 : zx_s (zn_G l D ar b Z) "LogHouseModel" 107 y_Mo_inverse 1 := ⟨zn_ok, zn_w955, zn_w10, ⟨by decide, by decide, by decide +kernel⟩, Or.inl zn_w952⟩
theorem s_Mo_110 : zx_s (zn_G l D ar b Z) "LogHouseModel" 110 y_Mo_solve 3 := ⟨zn_ok, zn_w951, zn_w10, ⟨by decide, by decide, by decide +kernel⟩, Or.inl zn_w948⟩
theorem s_Mo_114 : zx_s (zn_G l D ar b Z) "LogHouseModel" 114 y_Mo_letter4 4 := ⟨zn_ok, zn_w878, zn_w10, ⟨by decide, by decide, by decide +kernel⟩, Or.inl zn_w875⟩
theorem s_Mo_118 : zx_s (zn_G l D ar b Z) "LogHouseModel" 118 y_Mo_shareByte 5 := ⟨zn_ok, zn_w905, zn_w10, ⟨by decide, by decide, by decide +kernel⟩, Or.inl zn_w902⟩
theorem s_Mo_122 : zx_s (zn_G l D ar b Z) "LogHouseModel" 122 y_Mo_accept 3 := ⟨zn_ok, zn_w898, zn_w10, ⟨by decide, by decide, by decide +kernel⟩, Or.inl zn_w895⟩
theorem s_Mo_126 : zx_s (zn_G l D ar b Z) "LogHouseModel" 126 y_Mo_promiseComes 2 := ⟨zn_ok, zn_w933, zn_w10, ⟨by decide, by decide, by decide +kernel⟩, Or.inl zn_w930⟩
theorem s_Mo_129 : zx_s (zn_G l D ar b Z) "LogHouseModel" 129 y_Mo_acceptedComes 2 := ⟨zn_ok, zn_w959, zn_w10, ⟨by decide, by decide, by decide +kernel⟩, Or.inl zn_w956⟩
theorem s_Mo_133 : zx_s (zn_G l D ar b Z) "LogHouseModel" 133 y_Mo_bits 1 := ⟨zn_ok, zn_w936, zn_w10, ⟨by decide, by decide, by decide +kernel⟩, Or.inl zn_w934⟩
theorem s_Mo_136 : zx_s (zn_G l D ar b Z) "LogHouseModel" 136 y_Mo_again 2 := ⟨zn_ok, zn_w940, zn_w10, ⟨by decide, by decide, by decide +kernel⟩, Or.inl zn_w937⟩
theorem s_Mo_140 : zx_s (zn_G l D ar b Z) "LogHouseModel" 140 y_Mo_acceptAll 2 := ⟨zn_ok, zn_w894, zn_w10, ⟨by decide, by decide, by decide +kernel⟩, Or.inl zn_w891⟩
theorem s_Mo_143 : zx_s (zn_G l D ar b Z) "LogHouseModel" 143 y_Mo_heardAt 3 := ⟨zn_ok, zn_w943, zn_w10, ⟨by decide, by decide, by decide +kernel⟩, Or.inl zn_w941⟩
theorem s_Mo_146 : zx_s (zn_G l D ar b Z) "LogHouseModel" 146 y_Mo_together 4 := ⟨zn_ok, zn_w947, zn_w10, ⟨by decide, by decide, by decide +kernel⟩, Or.inl zn_w944⟩
theorem s_Mo_150 : zx_s (zn_G l D ar b Z) "LogHouseModel" 150 y_Mo_putForward 6 := ⟨zn_ok, zn_w890, zn_w10, ⟨by decide, by decide, by decide +kernel⟩, Or.inl zn_w887⟩
theorem s_Mo_154 : zx_s (zn_G l D ar b Z) "LogHouseModel" 154 y_Mo_hasOf 3 := ⟨zn_ok, zn_w998, zn_w10, ⟨by decide, by decide, by decide +kernel⟩, Or.inl zn_w995⟩
theorem s_Mo_158 : zx_s (zn_G l D ar b Z) "LogHouseModel" 158 y_Mo_noProposer 1 := ⟨zn_ok, zn_w866, zn_w10, ⟨by decide, by decide, by decide +kernel⟩, Or.inl zn_w864⟩
theorem s_Mo_162 : zx_s (zn_G l D ar b Z) "LogHouseModel" 162 y_Mo_prepare 2 := ⟨zn_ok, zn_w874, zn_w10, ⟨by decide, by decide, by decide +kernel⟩, Or.inl zn_w871⟩
theorem s_Mo_165 : zx_s (zn_G l D ar b Z) "LogHouseModel" 165 y_Mo_firstFree 1 := ⟨zn_ok, zn_w886, zn_w10, ⟨by decide, by decide, by decide +kernel⟩, Or.inl zn_w883⟩
theorem s_Mo_168 : zx_s (zn_G l D ar b Z) "LogHouseModel" 168 y_Mo_noLetter 1 := ⟨zn_ok, zn_w921, zn_w10, ⟨by decide, by decide, by decide +kernel⟩, Or.inl zn_w918⟩
theorem s_Mo_171 : zx_s (zn_G l D ar b Z) "LogHouseModel" 171 y_Mo_remove 1 := ⟨zn_ok, zn_w925, zn_w10, ⟨by decide, by decide, by decide +kernel⟩, Or.inl zn_w922⟩
theorem s_Mo_175 : zx_s (zn_G l D ar b Z) "LogHouseModel" 175 y_Mo_comes 0 := ⟨zn_ok, zn_w929, zn_w10, ⟨by decide, by decide, by decide +kernel⟩, Or.inl zn_w926⟩
theorem s_Mo_179 : zx_s (zn_G l D ar b Z) "LogHouseModel" 179 y_Mo_noStation 1 := ⟨zn_ok, zn_w982, zn_w10, ⟨by decide, by decide, by decide +kernel⟩, Or.inl zn_w980⟩
theorem s_Mo_182 : zx_s (zn_G l D ar b Z) "LogHouseModel" 182 y_Mo_findThree 3 := ⟨zn_ok, zn_w994, zn_w10, ⟨by decide, by decide, by decide +kernel⟩, Or.inl zn_w991⟩
theorem s_Mo_185 : zx_s (zn_G l D ar b Z) "LogHouseModel" 185 y_Mo_fromThree 1 := ⟨zn_ok, zn_w1002, zn_w10, ⟨by decide, by decide, by decide +kernel⟩, Or.inl zn_w999⟩
end ZN
end
section
/-! receivers, statics (written by program) -/
section ZV
variable {l : Launch} {D : va_G} {ar : Nat → ClassId} {b : Nat} {Z : State → Prop}
theorem i_Ho_init : y_Ho_init.1.name = "<init>" ∧ y_Ho_init.2.2.2.1 = none ∧ Cond.instanceMethod y_Ho_init.1 ∈ zx_gW (zn_G l D ar b Z) := ⟨rfl, rfl, zn_w24⟩
theorem i_St_init : y_St_init.1.name = "<init>" ∧ y_St_init.2.2.2.1 = none ∧ Cond.instanceMethod y_St_init.1 ∈ zx_gW (zn_G l D ar b Z) := ⟨rfl, rfl, zn_w33⟩
theorem i_Sh_init : y_Sh_init.1.name = "<init>" ∧ y_Sh_init.2.2.2.1 = none ∧ Cond.instanceMethod y_Sh_init.1 ∈ zx_gW (zn_G l D ar b Z) := ⟨rfl, rfl, zn_w39⟩
theorem i_Pr_init : y_Pr_init.1.name = "<init>" ∧ y_Pr_init.2.2.2.1 = none ∧ Cond.instanceMethod y_Pr_init.1 ∈ zx_gW (zn_G l D ar b Z) := ⟨rfl, rfl, zn_w85⟩
theorem i_Sp_init : y_Sp_init.1.name = "<init>" ∧ y_Sp_init.2.2.2.1 = none ∧ Cond.instanceMethod y_Sp_init.1 ∈ zx_gW (zn_G l D ar b Z) := ⟨rfl, rfl, zn_w95⟩
theorem i_Re_init : y_Re_init.1.name = "<init>" ∧ y_Re_init.2.2.2.1 = none ∧ Cond.instanceMethod y_Re_init.1 ∈ zx_gW (zn_G l D ar b Z) := ⟨rfl, rfl, zn_w101⟩
theorem i_Ro_init : y_Ro_init.1.name = "<init>" ∧ y_Ro_init.2.2.2.1 = none ∧ Cond.instanceMethod y_Ro_init.1 ∈ zx_gW (zn_G l D ar b Z) := ⟨rfl, rfl, zn_w165⟩
theorem i_Le_init : y_Le_init.1.name = "<init>" ∧ y_Le_init.2.2.2.1 = none ∧ Cond.instanceMethod y_Le_init.1 ∈ zx_gW (zn_G l D ar b Z) := ⟨rfl, rfl, zn_w172⟩
theorem i_Ga_init : y_Ga_init.1.name = "<init>" ∧ y_Ga_init.2.2.2.1 = none ∧ Cond.instanceMethod y_Ga_init.1 ∈ zx_gW (zn_G l D ar b Z) := ⟨rfl, rfl, zn_w231⟩
theorem v_Ho_byteIn : Cond.instanceMethod y_Ho_byteIn.1 ∈ zx_gW (zn_G l D ar b Z) ∧ Cond.selects y_Ho_byteIn.1.cls y_Ho_byteIn.1 y_Ho_byteIn.1 ∈ zx_gW (zn_G l D ar b Z) ∧ (zx_gC (zn_G l D ar b Z))[0]? = some ("LogHouse", zn_THo, 6) ∧ ("LogHouse", zn_THo, 6).1 = y_Ho_byteIn.1.cls := ⟨zn_w273, zn_w274, rfl, rfl⟩
theorem t_Ho_isProposer : Cond.static y_Ho_isProposer.1 ∈ zx_gW (zn_G l D ar b Z) := zn_w277
theorem v_Pr_write : Cond.instanceMethod y_Pr_write.1 ∈ zx_gW (zn_G l D ar b Z) ∧ Cond.selects y_Pr_write.1.cls y_Pr_write.1 y_Pr_write.1 ∈ zx_gW (zn_G l D ar b Z) ∧ (zx_gC (zn_G l D ar b Z))[3]? = some ("LogHouse$Proposer", zn_TPr, 8) ∧ ("LogHouse$Proposer", zn_TPr, 8).1 = y_Pr_write.1.cls := ⟨zn_w280, zn_w281, rfl, rfl⟩
theorem v_Ho_letters : Cond.instanceMethod y_Ho_letters.1 ∈ zx_gW (zn_G l D ar b Z) ∧ Cond.selects y_Ho_letters.1.cls y_Ho_letters.1 y_Ho_letters.1 ∈ zx_gW (zn_G l D ar b Z) ∧ (zx_gC (zn_G l D ar b Z))[0]? = some ("LogHouse", zn_THo, 6) ∧ ("LogHouse", zn_THo, 6).1 = y_Ho_letters.1.cls := ⟨zn_w284, zn_w285, rfl, rfl⟩
theorem t_La_campaign : Cond.static y_La_campaign.1 ∈ zx_gW (zn_G l D ar b Z) := zn_w288
theorem v_Ho_campaign : Cond.instanceMethod y_Ho_campaign.1 ∈ zx_gW (zn_G l D ar b Z) ∧ Cond.selects y_Ho_campaign.1.cls y_Ho_campaign.1 y_Ho_campaign.1 ∈ zx_gW (zn_G l D ar b Z) ∧ (zx_gC (zn_G l D ar b Z))[0]? = some ("LogHouse", zn_THo, 6) ∧ ("LogHouse", zn_THo, 6).1 = y_Ho_campaign.1.cls := ⟨zn_w292, zn_w293, rfl, rfl⟩
theorem t_Ho_checkProposer : Cond.static y_Ho_checkProposer.1 ∈ zx_gW (zn_G l D ar b Z) := zn_w296
theorem v_Ho_highestPromised : Cond.instanceMethod y_Ho_highestPromised.1 ∈ zx_gW (zn_G l D ar b Z) ∧ Cond.selects y_Ho_highestPromised.1.cls y_Ho_highestPromised.1 y_Ho_highestPromised.1 ∈ zx_gW (zn_G l D ar b Z) ∧ (zx_gC (zn_G l D ar b Z))[0]? = some ("LogHouse", zn_THo, 6) ∧ ("LogHouse", zn_THo, 6).1 = y_Ho_highestPromised.1.cls := ⟨zn_w364, zn_p1, rfl, rfl⟩
theorem t_Ma_max : Cond.static y_Ma_max.1 ∈ zx_gW (zn_G l D ar b Z) := zn_w367
theorem v_Pr_begin : Cond.instanceMethod y_Pr_begin.1 ∈ zx_gW (zn_G l D ar b Z) ∧ Cond.selects y_Pr_begin.1.cls y_Pr_begin.1 y_Pr_begin.1 ∈ zx_gW (zn_G l D ar b Z) ∧ (zx_gC (zn_G l D ar b Z))[3]? = some ("LogHouse$Proposer", zn_TPr, 8) ∧ ("LogHouse$Proposer", zn_TPr, 8).1 = y_Pr_begin.1.cls := ⟨zn_w370, zn_w371, rfl, rfl⟩
theorem v_Sp_forget : Cond.instanceMethod y_Sp_forget.1 ∈ zx_gW (zn_G l D ar b Z) ∧ Cond.selects y_Sp_forget.1.cls y_Sp_forget.1 y_Sp_forget.1 ∈ zx_gW (zn_G l D ar b Z) ∧ (zx_gC (zn_G l D ar b Z))[4]? = some ("LogHouse$Spot", zn_TSp, 4) ∧ ("LogHouse$Spot", zn_TSp, 4).1 = y_Sp_forget.1.cls := ⟨zn_w375, zn_w376, rfl, rfl⟩
theorem v_Sp_proposeAs : Cond.instanceMethod y_Sp_proposeAs.1 ∈ zx_gW (zn_G l D ar b Z) ∧ Cond.selects y_Sp_proposeAs.1.cls y_Sp_proposeAs.1 y_Sp_proposeAs.1 ∈ zx_gW (zn_G l D ar b Z) ∧ (zx_gC (zn_G l D ar b Z))[4]? = some ("LogHouse$Spot", zn_TSp, 4) ∧ ("LogHouse$Spot", zn_TSp, 4).1 = y_Sp_proposeAs.1.cls := ⟨zn_w379, zn_w380, rfl, rfl⟩
theorem v_Ho_sendPrepares : Cond.instanceMethod y_Ho_sendPrepares.1 ∈ zx_gW (zn_G l D ar b Z) ∧ Cond.selects y_Ho_sendPrepares.1.cls y_Ho_sendPrepares.1 y_Ho_sendPrepares.1 ∈ zx_gW (zn_G l D ar b Z) ∧ (zx_gC (zn_G l D ar b Z))[0]? = some ("LogHouse", zn_THo, 6) ∧ ("LogHouse", zn_THo, 6).1 = y_Ho_sendPrepares.1.cls := ⟨zn_w384, zn_p2, rfl, rfl⟩
theorem v_Pr_hasPromiseOf : Cond.instanceMethod y_Pr_hasPromiseOf.1 ∈ zx_gW (zn_G l D ar b Z) ∧ Cond.selects y_Pr_hasPromiseOf.1.cls y_Pr_hasPromiseOf.1 y_Pr_hasPromiseOf.1 ∈ zx_gW (zn_G l D ar b Z) ∧ (zx_gC (zn_G l D ar b Z))[3]? = some ("LogHouse$Proposer", zn_TPr, 8) ∧ ("LogHouse$Proposer", zn_TPr, 8).1 = y_Pr_hasPromiseOf.1.cls := ⟨zn_w387, zn_w388, rfl, rfl⟩
theorem v_Ro_post : Cond.instanceMethod y_Ro_post.1 ∈ zx_gW (zn_G l D ar b Z) ∧ Cond.selects y_Ro_post.1.cls y_Ro_post.1 y_Ro_post.1 ∈ zx_gW (zn_G l D ar b Z) ∧ (zx_gC (zn_G l D ar b Z))[6]? = some ("LogHouse$Row", zn_TRo, 2) ∧ ("LogHouse$Row", zn_TRo, 2).1 = y_Ro_post.1.cls := ⟨zn_w391, zn_w392, rfl, rfl⟩
theorem v_Ro_append : Cond.instanceMethod y_Ro_append.1 ∈ zx_gW (zn_G l D ar b Z) ∧ Cond.selects y_Ro_append.1.cls y_Ro_append.1 y_Ro_append.1 ∈ zx_gW (zn_G l D ar b Z) ∧ (zx_gC (zn_G l D ar b Z))[6]? = some ("LogHouse$Row", zn_TRo, 2) ∧ ("LogHouse$Row", zn_TRo, 2).1 = y_Ro_append.1.cls := ⟨zn_w395, zn_w396, rfl, rfl⟩
theorem v_Le_address : Cond.instanceMethod y_Le_address.1 ∈ zx_gW (zn_G l D ar b Z) ∧ Cond.selects y_Le_address.1.cls y_Le_address.1 y_Le_address.1 ∈ zx_gW (zn_G l D ar b Z) ∧ (zx_gC (zn_G l D ar b Z))[7]? = some ("LogHouse$Letter", zn_TLe, 9) ∧ ("LogHouse$Letter", zn_TLe, 9).1 = y_Le_address.1.cls := ⟨zn_w399, zn_w400, rfl, rfl⟩
theorem t_La_propose : Cond.static y_La_propose.1 ∈ zx_gW (zn_G l D ar b Z) := zn_w403
theorem v_Ho_propose : Cond.instanceMethod y_Ho_propose.1 ∈ zx_gW (zn_G l D ar b Z) ∧ Cond.selects y_Ho_propose.1.cls y_Ho_propose.1 y_Ho_propose.1 ∈ zx_gW (zn_G l D ar b Z) ∧ (zx_gC (zn_G l D ar b Z))[0]? = some ("LogHouse", zn_THo, 6) ∧ ("LogHouse", zn_THo, 6).1 = y_Ho_propose.1.cls := ⟨zn_w407, zn_w408, rfl, rfl⟩
theorem v_Pr_firstFree : Cond.instanceMethod y_Pr_firstFree.1 ∈ zx_gW (zn_G l D ar b Z) ∧ Cond.selects y_Pr_firstFree.1.cls y_Pr_firstFree.1 y_Pr_firstFree.1 ∈ zx_gW (zn_G l D ar b Z) ∧ (zx_gC (zn_G l D ar b Z))[3]? = some ("LogHouse$Proposer", zn_TPr, 8) ∧ ("LogHouse$Proposer", zn_TPr, 8).1 = y_Pr_firstFree.1.cls := ⟨zn_w411, zn_w412, rfl, rfl⟩
theorem v_Sp_isOpen : Cond.instanceMethod y_Sp_isOpen.1 ∈ zx_gW (zn_G l D ar b Z) ∧ Cond.selects y_Sp_isOpen.1.cls y_Sp_isOpen.1 y_Sp_isOpen.1 ∈ zx_gW (zn_G l D ar b Z) ∧ (zx_gC (zn_G l D ar b Z))[4]? = some ("LogHouse$Spot", zn_TSp, 4) ∧ ("LogHouse$Spot", zn_TSp, 4).1 = y_Sp_isOpen.1.cls := ⟨zn_w415, zn_w416, rfl, rfl⟩
theorem v_Pr_proposeDraft : Cond.instanceMethod y_Pr_proposeDraft.1 ∈ zx_gW (zn_G l D ar b Z) ∧ Cond.selects y_Pr_proposeDraft.1.cls y_Pr_proposeDraft.1 y_Pr_proposeDraft.1 ∈ zx_gW (zn_G l D ar b Z) ∧ (zx_gC (zn_G l D ar b Z))[3]? = some ("LogHouse$Proposer", zn_TPr, 8) ∧ ("LogHouse$Proposer", zn_TPr, 8).1 = y_Pr_proposeDraft.1.cls := ⟨zn_w434, zn_w435, rfl, rfl⟩
theorem v_Re_cut : Cond.instanceMethod y_Re_cut.1 ∈ zx_gW (zn_G l D ar b Z) ∧ Cond.selects y_Re_cut.1.cls y_Re_cut.1 y_Re_cut.1 ∈ zx_gW (zn_G l D ar b Z) ∧ (zx_gC (zn_G l D ar b Z))[5]? = some ("LogHouse$Report", zn_TRe, 2) ∧ ("LogHouse$Report", zn_TRe, 2).1 = y_Re_cut.1.cls := ⟨zn_w439, zn_w440, rfl, rfl⟩
theorem v_Re_clearPieces : Cond.instanceMethod y_Re_clearPieces.1 ∈ zx_gW (zn_G l D ar b Z) ∧ Cond.selects y_Re_clearPieces.1.cls y_Re_clearPieces.1 y_Re_clearPieces.1 ∈ zx_gW (zn_G l D ar b Z) ∧ (zx_gC (zn_G l D ar b Z))[5]? = some ("LogHouse$Report", zn_TRe, 2) ∧ ("LogHouse$Report", zn_TRe, 2).1 = y_Re_clearPieces.1.cls := ⟨zn_w443, zn_w444, rfl, rfl⟩
theorem t_Re_third : Cond.static y_Re_third.1 ∈ zx_gW (zn_G l D ar b Z) := zn_w447
theorem v_Ho_sendAccepts : Cond.instanceMethod y_Ho_sendAccepts.1 ∈ zx_gW (zn_G l D ar b Z) ∧ Cond.selects y_Ho_sendAccepts.1.cls y_Ho_sendAccepts.1 y_Ho_sendAccepts.1 ∈ zx_gW (zn_G l D ar b Z) ∧ (zx_gC (zn_G l D ar b Z))[0]? = some ("LogHouse", zn_THo, 6) ∧ ("LogHouse", zn_THo, 6).1 = y_Ho_sendAccepts.1.cls := ⟨zn_w453, zn_p3, rfl, rfl⟩
theorem v_Sp_hasAnswerOf : Cond.instanceMethod y_Sp_hasAnswerOf.1 ∈ zx_gW (zn_G l D ar b Z) ∧ Cond.selects y_Sp_hasAnswerOf.1.cls y_Sp_hasAnswerOf.1 y_Sp_hasAnswerOf.1 ∈ zx_gW (zn_G l D ar b Z) ∧ (zx_gC (zn_G l D ar b Z))[4]? = some ("LogHouse$Spot", zn_TSp, 4) ∧ ("LogHouse$Spot", zn_TSp, 4).1 = y_Sp_hasAnswerOf.1.cls := ⟨zn_w456, zn_w457, rfl, rfl⟩
theorem v_Le_aboutPlace : Cond.instanceMethod y_Le_aboutPlace.1 ∈ zx_gW (zn_G l D ar b Z) ∧ Cond.selects y_Le_aboutPlace.1.cls y_Le_aboutPlace.1 y_Le_aboutPlace.1 ∈ zx_gW (zn_G l D ar b Z) ∧ (zx_gC (zn_G l D ar b Z))[7]? = some ("LogHouse$Letter", zn_TLe, 9) ∧ ("LogHouse$Letter", zn_TLe, 9).1 = y_Le_aboutPlace.1.cls := ⟨zn_w460, zn_w461, rfl, rfl⟩
theorem v_Re_shareOf : Cond.instanceMethod y_Re_shareOf.1 ∈ zx_gW (zn_G l D ar b Z) ∧ Cond.selects y_Re_shareOf.1.cls y_Re_shareOf.1 y_Re_shareOf.1 ∈ zx_gW (zn_G l D ar b Z) ∧ (zx_gC (zn_G l D ar b Z))[5]? = some ("LogHouse$Report", zn_TRe, 2) ∧ ("LogHouse$Report", zn_TRe, 2).1 = y_Re_shareOf.1.cls := ⟨zn_w464, zn_w465, rfl, rfl⟩
theorem t_Re_pointOf : Cond.static y_Re_pointOf.1 ∈ zx_gW (zn_G l D ar b Z) := zn_w468
theorem t_Fi_times : Cond.static y_Fi_times.1 ∈ zx_gW (zn_G l D ar b Z) := zn_w471
theorem t_La_resend : Cond.static y_La_resend.1 ∈ zx_gW (zn_G l D ar b Z) := zn_w477
theorem v_Ho_resend : Cond.instanceMethod y_Ho_resend.1 ∈ zx_gW (zn_G l D ar b Z) ∧ Cond.selects y_Ho_resend.1.cls y_Ho_resend.1 y_Ho_resend.1 ∈ zx_gW (zn_G l D ar b Z) ∧ (zx_gC (zn_G l D ar b Z))[0]? = some ("LogHouse", zn_THo, 6) ∧ ("LogHouse", zn_THo, 6).1 = y_Ho_resend.1.cls := ⟨zn_w480, zn_w481, rfl, rfl⟩
theorem v_Ho_sendAllAccepts : Cond.instanceMethod y_Ho_sendAllAccepts.1 ∈ zx_gW (zn_G l D ar b Z) ∧ Cond.selects y_Ho_sendAllAccepts.1.cls y_Ho_sendAllAccepts.1 y_Ho_sendAllAccepts.1 ∈ zx_gW (zn_G l D ar b Z) ∧ (zx_gC (zn_G l D ar b Z))[0]? = some ("LogHouse", zn_THo, 6) ∧ ("LogHouse", zn_THo, 6).1 = y_Ho_sendAllAccepts.1.cls := ⟨zn_w485, zn_p4, rfl, rfl⟩
theorem v_Sp_isWaiting : Cond.instanceMethod y_Sp_isWaiting.1 ∈ zx_gW (zn_G l D ar b Z) ∧ Cond.selects y_Sp_isWaiting.1.cls y_Sp_isWaiting.1 y_Sp_isWaiting.1 ∈ zx_gW (zn_G l D ar b Z) ∧ (zx_gC (zn_G l D ar b Z))[4]? = some ("LogHouse$Spot", zn_TSp, 4) ∧ ("LogHouse$Spot", zn_TSp, 4).1 = y_Sp_isWaiting.1.cls := ⟨zn_w488, zn_w489, rfl, rfl⟩
theorem t_La_deliver : Cond.static y_La_deliver.1 ∈ zx_gW (zn_G l D ar b Z) := zn_w492
theorem v_Ho_deliver : Cond.instanceMethod y_Ho_deliver.1 ∈ zx_gW (zn_G l D ar b Z) ∧ Cond.selects y_Ho_deliver.1.cls y_Ho_deliver.1 y_Ho_deliver.1 ∈ zx_gW (zn_G l D ar b Z) ∧ (zx_gC (zn_G l D ar b Z))[0]? = some ("LogHouse", zn_THo, 6) ∧ ("LogHouse", zn_THo, 6).1 = y_Ho_deliver.1.cls := ⟨zn_w496, zn_w497, rfl, rfl⟩
theorem v_Ho_checkLetter : Cond.instanceMethod y_Ho_checkLetter.1 ∈ zx_gW (zn_G l D ar b Z) ∧ Cond.selects y_Ho_checkLetter.1.cls y_Ho_checkLetter.1 y_Ho_checkLetter.1 ∈ zx_gW (zn_G l D ar b Z) ∧ (zx_gC (zn_G l D ar b Z))[0]? = some ("LogHouse", zn_THo, 6) ∧ ("LogHouse", zn_THo, 6).1 = y_Ho_checkLetter.1.cls := ⟨zn_w501, zn_p5, rfl, rfl⟩
theorem v_Ro_take : Cond.instanceMethod y_Ro_take.1 ∈ zx_gW (zn_G l D ar b Z) ∧ Cond.selects y_Ro_take.1.cls y_Ro_take.1 y_Ro_take.1 ∈ zx_gW (zn_G l D ar b Z) ∧ (zx_gC (zn_G l D ar b Z))[6]? = some ("LogHouse$Row", zn_TRo, 2) ∧ ("LogHouse$Row", zn_TRo, 2).1 = y_Ro_take.1.cls := ⟨zn_w519, zn_w520, rfl, rfl⟩
theorem v_Ho_bringPrepare : Cond.instanceMethod y_Ho_bringPrepare.1 ∈ zx_gW (zn_G l D ar b Z) ∧ Cond.selects y_Ho_bringPrepare.1.cls y_Ho_bringPrepare.1 y_Ho_bringPrepare.1 ∈ zx_gW (zn_G l D ar b Z) ∧ (zx_gC (zn_G l D ar b Z))[0]? = some ("LogHouse", zn_THo, 6) ∧ ("LogHouse", zn_THo, 6).1 = y_Ho_bringPrepare.1.cls := ⟨zn_w524, zn_p6, rfl, rfl⟩
theorem v_St_heeds : Cond.instanceMethod y_St_heeds.1 ∈ zx_gW (zn_G l D ar b Z) ∧ Cond.selects y_St_heeds.1.cls y_St_heeds.1 y_St_heeds.1 ∈ zx_gW (zn_G l D ar b Z) ∧ (zx_gC (zn_G l D ar b Z))[1]? = some ("LogHouse$Station", zn_TSt, 4) ∧ ("LogHouse$Station", zn_TSt, 4).1 = y_St_heeds.1.cls := ⟨zn_w527, zn_w528, rfl, rfl⟩
theorem v_Sh_copyFrom : Cond.instanceMethod y_Sh_copyFrom.1 ∈ zx_gW (zn_G l D ar b Z) ∧ Cond.selects y_Sh_copyFrom.1.cls y_Sh_copyFrom.1 y_Sh_copyFrom.1 ∈ zx_gW (zn_G l D ar b Z) ∧ (zx_gC (zn_G l D ar b Z))[2]? = some ("LogHouse$Shelf", zn_TSh, 4) ∧ ("LogHouse$Shelf", zn_TSh, 4).1 = y_Sh_copyFrom.1.cls := ⟨zn_w531, zn_w532, rfl, rfl⟩
theorem v_Sh_put : Cond.instanceMethod y_Sh_put.1 ∈ zx_gW (zn_G l D ar b Z) ∧ Cond.selects y_Sh_put.1.cls y_Sh_put.1 y_Sh_put.1 ∈ zx_gW (zn_G l D ar b Z) ∧ (zx_gC (zn_G l D ar b Z))[2]? = some ("LogHouse$Shelf", zn_TSh, 4) ∧ ("LogHouse$Shelf", zn_TSh, 4).1 = y_Sh_put.1.cls := ⟨zn_w535, zn_w536, rfl, rfl⟩
theorem v_Ho_bringPromise : Cond.instanceMethod y_Ho_bringPromise.1 ∈ zx_gW (zn_G l D ar b Z) ∧ Cond.selects y_Ho_bringPromise.1.cls y_Ho_bringPromise.1 y_Ho_bringPromise.1 ∈ zx_gW (zn_G l D ar b Z) ∧ (zx_gC (zn_G l D ar b Z))[0]? = some ("LogHouse", zn_THo, 6) ∧ ("LogHouse", zn_THo, 6).1 = y_Ho_bringPromise.1.cls := ⟨zn_w540, zn_p7, rfl, rfl⟩
theorem v_Pr_hearPromise : Cond.instanceMethod y_Pr_hearPromise.1 ∈ zx_gW (zn_G l D ar b Z) ∧ Cond.selects y_Pr_hearPromise.1.cls y_Pr_hearPromise.1 y_Pr_hearPromise.1 ∈ zx_gW (zn_G l D ar b Z) ∧ (zx_gC (zn_G l D ar b Z))[3]? = some ("LogHouse$Proposer", zn_TPr, 8) ∧ ("LogHouse$Proposer", zn_TPr, 8).1 = y_Pr_hearPromise.1.cls := ⟨zn_w543, zn_w544, rfl, rfl⟩
theorem t_In_bitCount : Cond.static y_In_bitCount.1 ∈ zx_gW (zn_G l D ar b Z) := zn_w549
theorem v_Ho_lead : Cond.instanceMethod y_Ho_lead.1 ∈ zx_gW (zn_G l D ar b Z) ∧ Cond.selects y_Ho_lead.1.cls y_Ho_lead.1 y_Ho_lead.1 ∈ zx_gW (zn_G l D ar b Z) ∧ (zx_gC (zn_G l D ar b Z))[0]? = some ("LogHouse", zn_THo, 6) ∧ ("LogHouse", zn_THo, 6).1 = y_Ho_lead.1.cls := ⟨zn_w556, zn_p8, rfl, rfl⟩
theorem v_Pr_gatherFromPromises : Cond.instanceMethod y_Pr_gatherFromPromises.1 ∈ zx_gW (zn_G l D ar b Z) ∧ Cond.selects y_Pr_gatherFromPromises.1.cls y_Pr_gatherFromPromises.1 y_Pr_gatherFromPromises.1 ∈ zx_gW (zn_G l D ar b Z) ∧ (zx_gC (zn_G l D ar b Z))[3]? = some ("LogHouse$Proposer", zn_TPr, 8) ∧ ("LogHouse$Proposer", zn_TPr, 8).1 = y_Pr_gatherFromPromises.1.cls := ⟨zn_w560, zn_w561, rfl, rfl⟩
theorem v_Sh_has : Cond.instanceMethod y_Sh_has.1 ∈ zx_gW (zn_G l D ar b Z) ∧ Cond.selects y_Sh_has.1.cls y_Sh_has.1 y_Sh_has.1 ∈ zx_gW (zn_G l D ar b Z) ∧ (zx_gC (zn_G l D ar b Z))[2]? = some ("LogHouse$Shelf", zn_TSh, 4) ∧ ("LogHouse$Shelf", zn_TSh, 4).1 = y_Sh_has.1.cls := ⟨zn_w564, zn_w565, rfl, rfl⟩
theorem v_Ga_start : Cond.instanceMethod y_Ga_start.1 ∈ zx_gW (zn_G l D ar b Z) ∧ Cond.selects y_Ga_start.1.cls y_Ga_start.1 y_Ga_start.1 ∈ zx_gW (zn_G l D ar b Z) ∧ (zx_gC (zn_G l D ar b Z))[8]? = some ("LogHouse$Gathering", zn_TGa, 5) ∧ ("LogHouse$Gathering", zn_TGa, 5).1 = y_Ga_start.1.cls := ⟨zn_w568, zn_w569, rfl, rfl⟩
theorem v_Pr_addPromises : Cond.instanceMethod y_Pr_addPromises.1 ∈ zx_gW (zn_G l D ar b Z) ∧ Cond.selects y_Pr_addPromises.1.cls y_Pr_addPromises.1 y_Pr_addPromises.1 ∈ zx_gW (zn_G l D ar b Z) ∧ (zx_gC (zn_G l D ar b Z))[3]? = some ("LogHouse$Proposer", zn_TPr, 8) ∧ ("LogHouse$Proposer", zn_TPr, 8).1 = y_Pr_addPromises.1.cls := ⟨zn_w573, zn_p9, rfl, rfl⟩
theorem v_Ga_addIfOfIt : Cond.instanceMethod y_Ga_addIfOfIt.1 ∈ zx_gW (zn_G l D ar b Z) ∧ Cond.selects y_Ga_addIfOfIt.1.cls y_Ga_addIfOfIt.1 y_Ga_addIfOfIt.1 ∈ zx_gW (zn_G l D ar b Z) ∧ (zx_gC (zn_G l D ar b Z))[8]? = some ("LogHouse$Gathering", zn_TGa, 5) ∧ ("LogHouse$Gathering", zn_TGa, 5).1 = y_Ga_addIfOfIt.1.cls := ⟨zn_w576, zn_w577, rfl, rfl⟩
theorem v_Ga_isEnough : Cond.instanceMethod y_Ga_isEnough.1 ∈ zx_gW (zn_G l D ar b Z) ∧ Cond.selects y_Ga_isEnough.1.cls y_Ga_isEnough.1 y_Ga_isEnough.1 ∈ zx_gW (zn_G l D ar b Z) ∧ (zx_gC (zn_G l D ar b Z))[8]? = some ("LogHouse$Gathering", zn_TGa, 5) ∧ ("LogHouse$Gathering", zn_TGa, 5).1 = y_Ga_isEnough.1.cls := ⟨zn_w582, zn_w583, rfl, rfl⟩
theorem v_Ga_putTogether : Cond.instanceMethod y_Ga_putTogether.1 ∈ zx_gW (zn_G l D ar b Z) ∧ Cond.selects y_Ga_putTogether.1.cls y_Ga_putTogether.1 y_Ga_putTogether.1 ∈ zx_gW (zn_G l D ar b Z) ∧ (zx_gC (zn_G l D ar b Z))[8]? = some ("LogHouse$Gathering", zn_TGa, 5) ∧ ("LogHouse$Gathering", zn_TGa, 5).1 = y_Ga_putTogether.1.cls := ⟨zn_w587, zn_w588, rfl, rfl⟩
theorem v_Re_addShare : Cond.instanceMethod y_Re_addShare.1 ∈ zx_gW (zn_G l D ar b Z) ∧ Cond.selects y_Re_addShare.1.cls y_Re_addShare.1 y_Re_addShare.1 ∈ zx_gW (zn_G l D ar b Z) ∧ (zx_gC (zn_G l D ar b Z))[5]? = some ("LogHouse$Report", zn_TRe, 2) ∧ ("LogHouse$Report", zn_TRe, 2).1 = y_Re_addShare.1.cls := ⟨zn_w592, zn_w593, rfl, rfl⟩
theorem t_Fi_overSum : Cond.static y_Fi_overSum.1 ∈ zx_gW (zn_G l D ar b Z) := zn_w596
theorem v_Ho_bringAccept : Cond.instanceMethod y_Ho_bringAccept.1 ∈ zx_gW (zn_G l D ar b Z) ∧ Cond.selects y_Ho_bringAccept.1.cls y_Ho_bringAccept.1 y_Ho_bringAccept.1 ∈ zx_gW (zn_G l D ar b Z) ∧ (zx_gC (zn_G l D ar b Z))[0]? = some ("LogHouse", zn_THo, 6) ∧ ("LogHouse", zn_THo, 6).1 = y_Ho_bringAccept.1.cls := ⟨zn_w603, zn_p10, rfl, rfl⟩
theorem v_Pr_hearAccepted : Cond.instanceMethod y_Pr_hearAccepted.1 ∈ zx_gW (zn_G l D ar b Z) ∧ Cond.selects y_Pr_hearAccepted.1.cls y_Pr_hearAccepted.1 y_Pr_hearAccepted.1 ∈ zx_gW (zn_G l D ar b Z) ∧ (zx_gC (zn_G l D ar b Z))[3]? = some ("LogHouse$Proposer", zn_TPr, 8) ∧ ("LogHouse$Proposer", zn_TPr, 8).1 = y_Pr_hearAccepted.1.cls := ⟨zn_w607, zn_w608, rfl, rfl⟩
theorem v_Sp_hearAnswer : Cond.instanceMethod y_Sp_hearAnswer.1 ∈ zx_gW (zn_G l D ar b Z) ∧ Cond.selects y_Sp_hearAnswer.1.cls y_Sp_hearAnswer.1 y_Sp_hearAnswer.1 ∈ zx_gW (zn_G l D ar b Z) ∧ (zx_gC (zn_G l D ar b Z))[4]? = some ("LogHouse$Spot", zn_TSp, 4) ∧ ("LogHouse$Spot", zn_TSp, 4).1 = y_Sp_hearAnswer.1.cls := ⟨zn_w611, zn_w612, rfl, rfl⟩
theorem t_La_drop : Cond.static y_La_drop.1 ∈ zx_gW (zn_G l D ar b Z) := zn_w618
theorem v_Ho_drop : Cond.instanceMethod y_Ho_drop.1 ∈ zx_gW (zn_G l D ar b Z) ∧ Cond.selects y_Ho_drop.1.cls y_Ho_drop.1 y_Ho_drop.1 ∈ zx_gW (zn_G l D ar b Z) ∧ (zx_gC (zn_G l D ar b Z))[0]? = some ("LogHouse", zn_THo, 6) ∧ ("LogHouse", zn_THo, 6).1 = y_Ho_drop.1.cls := ⟨zn_w621, zn_w622, rfl, rfl⟩
theorem t_La_twin : Cond.static y_La_twin.1 ∈ zx_gW (zn_G l D ar b Z) := zn_w625
theorem v_Ho_twin : Cond.instanceMethod y_Ho_twin.1 ∈ zx_gW (zn_G l D ar b Z) ∧ Cond.selects y_Ho_twin.1.cls y_Ho_twin.1 y_Ho_twin.1 ∈ zx_gW (zn_G l D ar b Z) ∧ (zx_gC (zn_G l D ar b Z))[0]? = some ("LogHouse", zn_THo, 6) ∧ ("LogHouse", zn_THo, 6).1 = y_Ho_twin.1.cls := ⟨zn_w628, zn_w629, rfl, rfl⟩
theorem v_Le_copyFrom : Cond.instanceMethod y_Le_copyFrom.1 ∈ zx_gW (zn_G l D ar b Z) ∧ Cond.selects y_Le_copyFrom.1.cls y_Le_copyFrom.1 y_Le_copyFrom.1 ∈ zx_gW (zn_G l D ar b Z) ∧ (zx_gC (zn_G l D ar b Z))[7]? = some ("LogHouse$Letter", zn_TLe, 9) ∧ ("LogHouse$Letter", zn_TLe, 9).1 = y_Le_copyFrom.1.cls := ⟨zn_w633, zn_w634, rfl, rfl⟩
theorem t_La_letter : Cond.static y_La_letter.1 ∈ zx_gW (zn_G l D ar b Z) := zn_w640
theorem v_Ho_letter : Cond.instanceMethod y_Ho_letter.1 ∈ zx_gW (zn_G l D ar b Z) ∧ Cond.selects y_Ho_letter.1.cls y_Ho_letter.1 y_Ho_letter.1 ∈ zx_gW (zn_G l D ar b Z) ∧ (zx_gC (zn_G l D ar b Z))[0]? = some ("LogHouse", zn_THo, 6) ∧ ("LogHouse", zn_THo, 6).1 = y_Ho_letter.1.cls := ⟨zn_w643, zn_w644, rfl, rfl⟩
theorem t_La_up : Cond.static y_La_up.1 ∈ zx_gW (zn_G l D ar b Z) := zn_w647
theorem v_Ho_up : Cond.instanceMethod y_Ho_up.1 ∈ zx_gW (zn_G l D ar b Z) ∧ Cond.selects y_Ho_up.1.cls y_Ho_up.1 y_Ho_up.1 ∈ zx_gW (zn_G l D ar b Z) ∧ (zx_gC (zn_G l D ar b Z))[0]? = some ("LogHouse", zn_THo, 6) ∧ ("LogHouse", zn_THo, 6).1 = y_Ho_up.1.cls := ⟨zn_w650, zn_w651, rfl, rfl⟩
theorem t_Ho_checkStation : Cond.static y_Ho_checkStation.1 ∈ zx_gW (zn_G l D ar b Z) := zn_w654
theorem t_La_wipe : Cond.static y_La_wipe.1 ∈ zx_gW (zn_G l D ar b Z) := zn_w657
theorem v_Ho_wipe : Cond.instanceMethod y_Ho_wipe.1 ∈ zx_gW (zn_G l D ar b Z) ∧ Cond.selects y_Ho_wipe.1.cls y_Ho_wipe.1 y_Ho_wipe.1 ∈ zx_gW (zn_G l D ar b Z) ∧ (zx_gC (zn_G l D ar b Z))[0]? = some ("LogHouse", zn_THo, 6) ∧ ("LogHouse", zn_THo, 6).1 = y_Ho_wipe.1.cls := ⟨zn_w660, zn_w661, rfl, rfl⟩
theorem v_St_loseAll : Cond.instanceMethod y_St_loseAll.1 ∈ zx_gW (zn_G l D ar b Z) ∧ Cond.selects y_St_loseAll.1.cls y_St_loseAll.1 y_St_loseAll.1 ∈ zx_gW (zn_G l D ar b Z) ∧ (zx_gC (zn_G l D ar b Z))[1]? = some ("LogHouse$Station", zn_TSt, 4) ∧ ("LogHouse$Station", zn_TSt, 4).1 = y_St_loseAll.1.cls := ⟨zn_w664, zn_w665, rfl, rfl⟩
theorem v_Sh_clear : Cond.instanceMethod y_Sh_clear.1 ∈ zx_gW (zn_G l D ar b Z) ∧ Cond.selects y_Sh_clear.1.cls y_Sh_clear.1 y_Sh_clear.1 ∈ zx_gW (zn_G l D ar b Z) ∧ (zx_gC (zn_G l D ar b Z))[2]? = some ("LogHouse$Shelf", zn_TSh, 4) ∧ ("LogHouse$Shelf", zn_TSh, 4).1 = y_Sh_clear.1.cls := ⟨zn_w668, zn_w669, rfl, rfl⟩
theorem t_La_catchUp : Cond.static y_La_catchUp.1 ∈ zx_gW (zn_G l D ar b Z) := zn_w672
theorem v_Ho_catchUp : Cond.instanceMethod y_Ho_catchUp.1 ∈ zx_gW (zn_G l D ar b Z) ∧ Cond.selects y_Ho_catchUp.1.cls y_Ho_catchUp.1 y_Ho_catchUp.1 ∈ zx_gW (zn_G l D ar b Z) ∧ (zx_gC (zn_G l D ar b Z))[0]? = some ("LogHouse", zn_THo, 6) ∧ ("LogHouse", zn_THo, 6).1 = y_Ho_catchUp.1.cls := ⟨zn_w675, zn_w676, rfl, rfl⟩
theorem v_Ho_gatherFromStations : Cond.instanceMethod y_Ho_gatherFromStations.1 ∈ zx_gW (zn_G l D ar b Z) ∧ Cond.selects y_Ho_gatherFromStations.1.cls y_Ho_gatherFromStations.1 y_Ho_gatherFromStations.1 ∈ zx_gW (zn_G l D ar b Z) ∧ (zx_gC (zn_G l D ar b Z))[0]? = some ("LogHouse", zn_THo, 6) ∧ ("LogHouse", zn_THo, 6).1 = y_Ho_gatherFromStations.1.cls := ⟨zn_w681, zn_p11, rfl, rfl⟩
theorem t_La_decided : Cond.static y_La_decided.1 ∈ zx_gW (zn_G l D ar b Z) := zn_w687
theorem v_Ho_decided : Cond.instanceMethod y_Ho_decided.1 ∈ zx_gW (zn_G l D ar b Z) ∧ Cond.selects y_Ho_decided.1.cls y_Ho_decided.1 y_Ho_decided.1 ∈ zx_gW (zn_G l D ar b Z) ∧ (zx_gC (zn_G l D ar b Z))[0]? = some ("LogHouse", zn_THo, 6) ∧ ("LogHouse", zn_THo, 6).1 = y_Ho_decided.1.cls := ⟨zn_w690, zn_w691, rfl, rfl⟩
theorem t_Ho_checkPlace : Cond.static y_Ho_checkPlace.1 ∈ zx_gW (zn_G l D ar b Z) := zn_w694
theorem t_La_read : Cond.static y_La_read.1 ∈ zx_gW (zn_G l D ar b Z) := zn_w697
theorem v_Ho_read : Cond.instanceMethod y_Ho_read.1 ∈ zx_gW (zn_G l D ar b Z) ∧ Cond.selects y_Ho_read.1.cls y_Ho_read.1 y_Ho_read.1 ∈ zx_gW (zn_G l D ar b Z) ∧ (zx_gC (zn_G l D ar b Z))[0]? = some ("LogHouse", zn_THo, 6) ∧ ("LogHouse", zn_THo, 6).1 = y_Ho_read.1.cls := ⟨zn_w701, zn_w702, rfl, rfl⟩
theorem t_La_readByte : Cond.static y_La_readByte.1 ∈ zx_gW (zn_G l D ar b Z) := zn_w720
theorem v_Ho_readByte : Cond.instanceMethod y_Ho_readByte.1 ∈ zx_gW (zn_G l D ar b Z) ∧ Cond.selects y_Ho_readByte.1.cls y_Ho_readByte.1 y_Ho_readByte.1 ∈ zx_gW (zn_G l D ar b Z) ∧ (zx_gC (zn_G l D ar b Z))[0]? = some ("LogHouse", zn_THo, 6) ∧ ("LogHouse", zn_THo, 6).1 = y_Ho_readByte.1.cls := ⟨zn_w723, zn_w724, rfl, rfl⟩
theorem v_Re_byteAt : Cond.instanceMethod y_Re_byteAt.1 ∈ zx_gW (zn_G l D ar b Z) ∧ Cond.selects y_Re_byteAt.1.cls y_Re_byteAt.1 y_Re_byteAt.1 ∈ zx_gW (zn_G l D ar b Z) ∧ (zx_gC (zn_G l D ar b Z))[5]? = some ("LogHouse$Report", zn_TRe, 2) ∧ ("LogHouse$Report", zn_TRe, 2).1 = y_Re_byteAt.1.cls := ⟨zn_w727, zn_w728, rfl, rfl⟩
theorem t_La_state : Cond.static y_La_state.1 ∈ zx_gW (zn_G l D ar b Z) := zn_w731
theorem v_Ho_state : Cond.instanceMethod y_Ho_state.1 ∈ zx_gW (zn_G l D ar b Z) ∧ Cond.selects y_Ho_state.1.cls y_Ho_state.1 y_Ho_state.1 ∈ zx_gW (zn_G l D ar b Z) ∧ (zx_gC (zn_G l D ar b Z))[0]? = some ("LogHouse", zn_THo, 6) ∧ ("LogHouse", zn_THo, 6).1 = y_Ho_state.1.cls := ⟨zn_w734, zn_w735, rfl, rfl⟩
theorem t_La_station : Cond.static y_La_station.1 ∈ zx_gW (zn_G l D ar b Z) := zn_w738
theorem v_Ho_station : Cond.instanceMethod y_Ho_station.1 ∈ zx_gW (zn_G l D ar b Z) ∧ Cond.selects y_Ho_station.1.cls y_Ho_station.1 y_Ho_station.1 ∈ zx_gW (zn_G l D ar b Z) ∧ (zx_gC (zn_G l D ar b Z))[0]? = some ("LogHouse", zn_THo, 6) ∧ ("LogHouse", zn_THo, 6).1 = y_Ho_station.1.cls := ⟨zn_w741, zn_w742, rfl, rfl⟩
theorem v_Sh_countBytes : Cond.instanceMethod y_Sh_countBytes.1 ∈ zx_gW (zn_G l D ar b Z) ∧ Cond.selects y_Sh_countBytes.1.cls y_Sh_countBytes.1 y_Sh_countBytes.1 ∈ zx_gW (zn_G l D ar b Z) ∧ (zx_gC (zn_G l D ar b Z))[2]? = some ("LogHouse$Shelf", zn_TSh, 4) ∧ ("LogHouse$Shelf", zn_TSh, 4).1 = y_Sh_countBytes.1.cls := ⟨zn_w745, zn_w746, rfl, rfl⟩
theorem t_La_share : Cond.static y_La_share.1 ∈ zx_gW (zn_G l D ar b Z) := zn_w750
theorem v_Ho_share : Cond.instanceMethod y_Ho_share.1 ∈ zx_gW (zn_G l D ar b Z) ∧ Cond.selects y_Ho_share.1.cls y_Ho_share.1 y_Ho_share.1 ∈ zx_gW (zn_G l D ar b Z) ∧ (zx_gC (zn_G l D ar b Z))[0]? = some ("LogHouse", zn_THo, 6) ∧ ("LogHouse", zn_THo, 6).1 = y_Ho_share.1.cls := ⟨zn_w753, zn_w754, rfl, rfl⟩
theorem v_Sh_shareByte : Cond.instanceMethod y_Sh_shareByte.1 ∈ zx_gW (zn_G l D ar b Z) ∧ Cond.selects y_Sh_shareByte.1.cls y_Sh_shareByte.1 y_Sh_shareByte.1 ∈ zx_gW (zn_G l D ar b Z) ∧ (zx_gC (zn_G l D ar b Z))[2]? = some ("LogHouse$Shelf", zn_TSh, 4) ∧ ("LogHouse$Shelf", zn_TSh, 4).1 = y_Sh_shareByte.1.cls := ⟨zn_w757, zn_w758, rfl, rfl⟩
theorem i_Mo_init : y_Mo_init.1.name = "<init>" ∧ y_Mo_init.2.2.2.1 = none ∧ Cond.instanceMethod y_Mo_init.1 ∈ zx_gW (zn_G l D ar b Z) := ⟨rfl, rfl, zn_w764⟩
theorem t_Mo_times : Cond.static y_Mo_times.1 ∈ zx_gW (zn_G l D ar b Z) := zn_w768
theorem v_Mo_thrown : Cond.instanceMethod y_Mo_thrown.1 ∈ zx_gW (zn_G l D ar b Z) ∧ Cond.selects y_Mo_thrown.1.cls y_Mo_thrown.1 y_Mo_thrown.1 ∈ zx_gW (zn_G l D ar b Z) ∧ (zx_gC (zn_G l D ar b Z))[9]? = some ("LogHouseModel", zn_TMo, 28) ∧ ("LogHouseModel", zn_TMo, 28).1 = y_Mo_thrown.1.cls := ⟨zn_w857, zn_w858, rfl, rfl⟩
theorem v_Mo_byteIn : Cond.instanceMethod y_Mo_byteIn.1 ∈ zx_gW (zn_G l D ar b Z) ∧ Cond.selects y_Mo_byteIn.1.cls y_Mo_byteIn.1 y_Mo_byteIn.1 ∈ zx_gW (zn_G l D ar b Z) ∧ (zx_gC (zn_G l D ar b Z))[9]? = some ("LogHouseModel", zn_TMo, 28) ∧ ("LogHouseModel", zn_TMo, 28).1 = y_Mo_byteIn.1.cls := ⟨zn_w861, zn_w862, rfl, rfl⟩
theorem t_Mo_noProposer : Cond.static y_Mo_noProposer.1 ∈ zx_gW (zn_G l D ar b Z) := zn_w865
theorem v_Mo_campaign : Cond.instanceMethod y_Mo_campaign.1 ∈ zx_gW (zn_G l D ar b Z) ∧ Cond.selects y_Mo_campaign.1.cls y_Mo_campaign.1 y_Mo_campaign.1 ∈ zx_gW (zn_G l D ar b Z) ∧ (zx_gC (zn_G l D ar b Z))[9]? = some ("LogHouseModel", zn_TMo, 28) ∧ ("LogHouseModel", zn_TMo, 28).1 = y_Mo_campaign.1.cls := ⟨zn_w868, zn_w869, rfl, rfl⟩
theorem v_Mo_prepare : Cond.instanceMethod y_Mo_prepare.1 ∈ zx_gW (zn_G l D ar b Z) ∧ Cond.selects y_Mo_prepare.1.cls y_Mo_prepare.1 y_Mo_prepare.1 ∈ zx_gW (zn_G l D ar b Z) ∧ (zx_gC (zn_G l D ar b Z))[9]? = some ("LogHouseModel", zn_TMo, 28) ∧ ("LogHouseModel", zn_TMo, 28).1 = y_Mo_prepare.1.cls := ⟨zn_w873, zn_p12, rfl, rfl⟩
theorem v_Mo_letter4 : Cond.instanceMethod y_Mo_letter4.1 ∈ zx_gW (zn_G l D ar b Z) ∧ Cond.selects y_Mo_letter4.1.cls y_Mo_letter4.1 y_Mo_letter4.1 ∈ zx_gW (zn_G l D ar b Z) ∧ (zx_gC (zn_G l D ar b Z))[9]? = some ("LogHouseModel", zn_TMo, 28) ∧ ("LogHouseModel", zn_TMo, 28).1 = y_Mo_letter4.1.cls := ⟨zn_w877, zn_p13, rfl, rfl⟩
theorem v_Mo_propose : Cond.instanceMethod y_Mo_propose.1 ∈ zx_gW (zn_G l D ar b Z) ∧ Cond.selects y_Mo_propose.1.cls y_Mo_propose.1 y_Mo_propose.1 ∈ zx_gW (zn_G l D ar b Z) ∧ (zx_gC (zn_G l D ar b Z))[9]? = some ("LogHouseModel", zn_TMo, 28) ∧ ("LogHouseModel", zn_TMo, 28).1 = y_Mo_propose.1.cls := ⟨zn_w880, zn_w881, rfl, rfl⟩
theorem v_Mo_firstFree : Cond.instanceMethod y_Mo_firstFree.1 ∈ zx_gW (zn_G l D ar b Z) ∧ Cond.selects y_Mo_firstFree.1.cls y_Mo_firstFree.1 y_Mo_firstFree.1 ∈ zx_gW (zn_G l D ar b Z) ∧ (zx_gC (zn_G l D ar b Z))[9]? = some ("LogHouseModel", zn_TMo, 28) ∧ ("LogHouseModel", zn_TMo, 28).1 = y_Mo_firstFree.1.cls := ⟨zn_w885, zn_p14, rfl, rfl⟩
theorem v_Mo_putForward : Cond.instanceMethod y_Mo_putForward.1 ∈ zx_gW (zn_G l D ar b Z) ∧ Cond.selects y_Mo_putForward.1.cls y_Mo_putForward.1 y_Mo_putForward.1 ∈ zx_gW (zn_G l D ar b Z) ∧ (zx_gC (zn_G l D ar b Z))[9]? = some ("LogHouseModel", zn_TMo, 28) ∧ ("LogHouseModel", zn_TMo, 28).1 = y_Mo_putForward.1.cls := ⟨zn_w889, zn_p15, rfl, rfl⟩
theorem v_Mo_acceptAll : Cond.instanceMethod y_Mo_acceptAll.1 ∈ zx_gW (zn_G l D ar b Z) ∧ Cond.selects y_Mo_acceptAll.1.cls y_Mo_acceptAll.1 y_Mo_acceptAll.1 ∈ zx_gW (zn_G l D ar b Z) ∧ (zx_gC (zn_G l D ar b Z))[9]? = some ("LogHouseModel", zn_TMo, 28) ∧ ("LogHouseModel", zn_TMo, 28).1 = y_Mo_acceptAll.1.cls := ⟨zn_w893, zn_p16, rfl, rfl⟩
theorem v_Mo_accept : Cond.instanceMethod y_Mo_accept.1 ∈ zx_gW (zn_G l D ar b Z) ∧ Cond.selects y_Mo_accept.1.cls y_Mo_accept.1 y_Mo_accept.1 ∈ zx_gW (zn_G l D ar b Z) ∧ (zx_gC (zn_G l D ar b Z))[9]? = some ("LogHouseModel", zn_TMo, 28) ∧ ("LogHouseModel", zn_TMo, 28).1 = y_Mo_accept.1.cls := ⟨zn_w897, zn_p17, rfl, rfl⟩
theorem t_Mo_third : Cond.static y_Mo_third.1 ∈ zx_gW (zn_G l D ar b Z) := zn_w900
theorem v_Mo_shareByte : Cond.instanceMethod y_Mo_shareByte.1 ∈ zx_gW (zn_G l D ar b Z) ∧ Cond.selects y_Mo_shareByte.1.cls y_Mo_shareByte.1 y_Mo_shareByte.1 ∈ zx_gW (zn_G l D ar b Z) ∧ (zx_gC (zn_G l D ar b Z))[9]? = some ("LogHouseModel", zn_TMo, 28) ∧ ("LogHouseModel", zn_TMo, 28).1 = y_Mo_shareByte.1.cls := ⟨zn_w904, zn_p18, rfl, rfl⟩
theorem v_Mo_product : Cond.instanceMethod y_Mo_product.1 ∈ zx_gW (zn_G l D ar b Z) ∧ Cond.selects y_Mo_product.1.cls y_Mo_product.1 y_Mo_product.1 ∈ zx_gW (zn_G l D ar b Z) ∧ (zx_gC (zn_G l D ar b Z))[9]? = some ("LogHouseModel", zn_TMo, 28) ∧ ("LogHouseModel", zn_TMo, 28).1 = y_Mo_product.1.cls := ⟨zn_w908, zn_p19, rfl, rfl⟩
theorem v_Mo_resend : Cond.instanceMethod y_Mo_resend.1 ∈ zx_gW (zn_G l D ar b Z) ∧ Cond.selects y_Mo_resend.1.cls y_Mo_resend.1 y_Mo_resend.1 ∈ zx_gW (zn_G l D ar b Z) ∧ (zx_gC (zn_G l D ar b Z))[9]? = some ("LogHouseModel", zn_TMo, 28) ∧ ("LogHouseModel", zn_TMo, 28).1 = y_Mo_resend.1.cls := ⟨zn_w911, zn_w912, rfl, rfl⟩
theorem v_Mo_deliver : Cond.instanceMethod y_Mo_deliver.1 ∈ zx_gW (zn_G l D ar b Z) ∧ Cond.selects y_Mo_deliver.1.cls y_Mo_deliver.1 y_Mo_deliver.1 ∈ zx_gW (zn_G l D ar b Z) ∧ (zx_gC (zn_G l D ar b Z))[9]? = some ("LogHouseModel", zn_TMo, 28) ∧ ("LogHouseModel", zn_TMo, 28).1 = y_Mo_deliver.1.cls := ⟨zn_w915, zn_w916, rfl, rfl⟩
theorem v_Mo_noLetter : Cond.instanceMethod y_Mo_noLetter.1 ∈ zx_gW (zn_G l D ar b Z) ∧ Cond.selects y_Mo_noLetter.1.cls y_Mo_noLetter.1 y_Mo_noLetter.1 ∈ zx_gW (zn_G l D ar b Z) ∧ (zx_gC (zn_G l D ar b Z))[9]? = some ("LogHouseModel", zn_TMo, 28) ∧ ("LogHouseModel", zn_TMo, 28).1 = y_Mo_noLetter.1.cls := ⟨zn_w920, zn_p20, rfl, rfl⟩
theorem v_Mo_remove : Cond.instanceMethod y_Mo_remove.1 ∈ zx_gW (zn_G l D ar b Z) ∧ Cond.selects y_Mo_remove.1.cls y_Mo_remove.1 y_Mo_remove.1 ∈ zx_gW (zn_G l D ar b Z) ∧ (zx_gC (zn_G l D ar b Z))[9]? = some ("LogHouseModel", zn_TMo, 28) ∧ ("LogHouseModel", zn_TMo, 28).1 = y_Mo_remove.1.cls := ⟨zn_w924, zn_p21, rfl, rfl⟩
theorem v_Mo_comes : Cond.instanceMethod y_Mo_comes.1 ∈ zx_gW (zn_G l D ar b Z) ∧ Cond.selects y_Mo_comes.1.cls y_Mo_comes.1 y_Mo_comes.1 ∈ zx_gW (zn_G l D ar b Z) ∧ (zx_gC (zn_G l D ar b Z))[9]? = some ("LogHouseModel", zn_TMo, 28) ∧ ("LogHouseModel", zn_TMo, 28).1 = y_Mo_comes.1.cls := ⟨zn_w928, zn_p22, rfl, rfl⟩
theorem v_Mo_promiseComes : Cond.instanceMethod y_Mo_promiseComes.1 ∈ zx_gW (zn_G l D ar b Z) ∧ Cond.selects y_Mo_promiseComes.1.cls y_Mo_promiseComes.1 y_Mo_promiseComes.1 ∈ zx_gW (zn_G l D ar b Z) ∧ (zx_gC (zn_G l D ar b Z))[9]? = some ("LogHouseModel", zn_TMo, 28) ∧ ("LogHouseModel", zn_TMo, 28).1 = y_Mo_promiseComes.1.cls := ⟨zn_w932, zn_p23, rfl, rfl⟩
theorem t_Mo_bits : Cond.static y_Mo_bits.1 ∈ zx_gW (zn_G l D ar b Z) := zn_w935
theorem v_Mo_again : Cond.instanceMethod y_Mo_again.1 ∈ zx_gW (zn_G l D ar b Z) ∧ Cond.selects y_Mo_again.1.cls y_Mo_again.1 y_Mo_again.1 ∈ zx_gW (zn_G l D ar b Z) ∧ (zx_gC (zn_G l D ar b Z))[9]? = some ("LogHouseModel", zn_TMo, 28) ∧ ("LogHouseModel", zn_TMo, 28).1 = y_Mo_again.1.cls := ⟨zn_w939, zn_p24, rfl, rfl⟩
theorem t_Mo_heardAt : Cond.static y_Mo_heardAt.1 ∈ zx_gW (zn_G l D ar b Z) := zn_w942
theorem v_Mo_together : Cond.instanceMethod y_Mo_together.1 ∈ zx_gW (zn_G l D ar b Z) ∧ Cond.selects y_Mo_together.1.cls y_Mo_together.1 y_Mo_together.1 ∈ zx_gW (zn_G l D ar b Z) ∧ (zx_gC (zn_G l D ar b Z))[9]? = some ("LogHouseModel", zn_TMo, 28) ∧ ("LogHouseModel", zn_TMo, 28).1 = y_Mo_together.1.cls := ⟨zn_w946, zn_p25, rfl, rfl⟩
theorem v_Mo_solve : Cond.instanceMethod y_Mo_solve.1 ∈ zx_gW (zn_G l D ar b Z) ∧ Cond.selects y_Mo_solve.1.cls y_Mo_solve.1 y_Mo_solve.1 ∈ zx_gW (zn_G l D ar b Z) ∧ (zx_gC (zn_G l D ar b Z))[9]? = some ("LogHouseModel", zn_TMo, 28) ∧ ("LogHouseModel", zn_TMo, 28).1 = y_Mo_solve.1.cls := ⟨zn_w950, zn_p26, rfl, rfl⟩
theorem v_Mo_inverse : Cond.instanceMethod y_Mo_inverse.1 ∈ zx_gW (zn_G l D ar b Z) ∧ Cond.selects y_Mo_inverse.1.cls y_Mo_inverse.1 y_Mo_inverse.1 ∈ zx_gW (zn_G l D ar b Z) ∧ (zx_gC (zn_G l D ar b Z))[9]? = some ("LogHouseModel", zn_TMo, 28) ∧ ("LogHouseModel", zn_TMo, 28).1 = y_Mo_inverse.1.cls := ⟨zn_w954, zn_p27, rfl, rfl⟩
theorem v_Mo_acceptedComes : Cond.instanceMethod y_Mo_acceptedComes.1 ∈ zx_gW (zn_G l D ar b Z) ∧ Cond.selects y_Mo_acceptedComes.1.cls y_Mo_acceptedComes.1 y_Mo_acceptedComes.1 ∈ zx_gW (zn_G l D ar b Z) ∧ (zx_gC (zn_G l D ar b Z))[9]? = some ("LogHouseModel", zn_TMo, 28) ∧ ("LogHouseModel", zn_TMo, 28).1 = y_Mo_acceptedComes.1.cls := ⟨zn_w958, zn_p28, rfl, rfl⟩
theorem v_Mo_drop : Cond.instanceMethod y_Mo_drop.1 ∈ zx_gW (zn_G l D ar b Z) ∧ Cond.selects y_Mo_drop.1.cls y_Mo_drop.1 y_Mo_drop.1 ∈ zx_gW (zn_G l D ar b Z) ∧ (zx_gC (zn_G l D ar b Z))[9]? = some ("LogHouseModel", zn_TMo, 28) ∧ ("LogHouseModel", zn_TMo, 28).1 = y_Mo_drop.1.cls := ⟨zn_w961, zn_w962, rfl, rfl⟩
theorem v_Mo_twin : Cond.instanceMethod y_Mo_twin.1 ∈ zx_gW (zn_G l D ar b Z) ∧ Cond.selects y_Mo_twin.1.cls y_Mo_twin.1 y_Mo_twin.1 ∈ zx_gW (zn_G l D ar b Z) ∧ (zx_gC (zn_G l D ar b Z))[9]? = some ("LogHouseModel", zn_TMo, 28) ∧ ("LogHouseModel", zn_TMo, 28).1 = y_Mo_twin.1.cls := ⟨zn_w965, zn_w966, rfl, rfl⟩
theorem v_Mo_letters : Cond.instanceMethod y_Mo_letters.1 ∈ zx_gW (zn_G l D ar b Z) ∧ Cond.selects y_Mo_letters.1.cls y_Mo_letters.1 y_Mo_letters.1 ∈ zx_gW (zn_G l D ar b Z) ∧ (zx_gC (zn_G l D ar b Z))[9]? = some ("LogHouseModel", zn_TMo, 28) ∧ ("LogHouseModel", zn_TMo, 28).1 = y_Mo_letters.1.cls := ⟨zn_w969, zn_w970, rfl, rfl⟩
theorem v_Mo_letter : Cond.instanceMethod y_Mo_letter.1 ∈ zx_gW (zn_G l D ar b Z) ∧ Cond.selects y_Mo_letter.1.cls y_Mo_letter.1 y_Mo_letter.1 ∈ zx_gW (zn_G l D ar b Z) ∧ (zx_gC (zn_G l D ar b Z))[9]? = some ("LogHouseModel", zn_TMo, 28) ∧ ("LogHouseModel", zn_TMo, 28).1 = y_Mo_letter.1.cls := ⟨zn_w973, zn_w974, rfl, rfl⟩
theorem v_Mo_up : Cond.instanceMethod y_Mo_up.1 ∈ zx_gW (zn_G l D ar b Z) ∧ Cond.selects y_Mo_up.1.cls y_Mo_up.1 y_Mo_up.1 ∈ zx_gW (zn_G l D ar b Z) ∧ (zx_gC (zn_G l D ar b Z))[9]? = some ("LogHouseModel", zn_TMo, 28) ∧ ("LogHouseModel", zn_TMo, 28).1 = y_Mo_up.1.cls := ⟨zn_w977, zn_w978, rfl, rfl⟩
theorem t_Mo_noStation : Cond.static y_Mo_noStation.1 ∈ zx_gW (zn_G l D ar b Z) := zn_w981
theorem v_Mo_wipe : Cond.instanceMethod y_Mo_wipe.1 ∈ zx_gW (zn_G l D ar b Z) ∧ Cond.selects y_Mo_wipe.1.cls y_Mo_wipe.1 y_Mo_wipe.1 ∈ zx_gW (zn_G l D ar b Z) ∧ (zx_gC (zn_G l D ar b Z))[9]? = some ("LogHouseModel", zn_TMo, 28) ∧ ("LogHouseModel", zn_TMo, 28).1 = y_Mo_wipe.1.cls := ⟨zn_w984, zn_w985, rfl, rfl⟩
theorem v_Mo_catchUp : Cond.instanceMethod y_Mo_catchUp.1 ∈ zx_gW (zn_G l D ar b Z) ∧ Cond.selects y_Mo_catchUp.1.cls y_Mo_catchUp.1 y_Mo_catchUp.1 ∈ zx_gW (zn_G l D ar b Z) ∧ (zx_gC (zn_G l D ar b Z))[9]? = some ("LogHouseModel", zn_TMo, 28) ∧ ("LogHouseModel", zn_TMo, 28).1 = y_Mo_catchUp.1.cls := ⟨zn_w988, zn_w989, rfl, rfl⟩
theorem v_Mo_findThree : Cond.instanceMethod y_Mo_findThree.1 ∈ zx_gW (zn_G l D ar b Z) ∧ Cond.selects y_Mo_findThree.1.cls y_Mo_findThree.1 y_Mo_findThree.1 ∈ zx_gW (zn_G l D ar b Z) ∧ (zx_gC (zn_G l D ar b Z))[9]? = some ("LogHouseModel", zn_TMo, 28) ∧ ("LogHouseModel", zn_TMo, 28).1 = y_Mo_findThree.1.cls := ⟨zn_w993, zn_p29, rfl, rfl⟩
theorem v_Mo_hasOf : Cond.instanceMethod y_Mo_hasOf.1 ∈ zx_gW (zn_G l D ar b Z) ∧ Cond.selects y_Mo_hasOf.1.cls y_Mo_hasOf.1 y_Mo_hasOf.1 ∈ zx_gW (zn_G l D ar b Z) ∧ (zx_gC (zn_G l D ar b Z))[9]? = some ("LogHouseModel", zn_TMo, 28) ∧ ("LogHouseModel", zn_TMo, 28).1 = y_Mo_hasOf.1.cls := ⟨zn_w997, zn_p30, rfl, rfl⟩
theorem v_Mo_fromThree : Cond.instanceMethod y_Mo_fromThree.1 ∈ zx_gW (zn_G l D ar b Z) ∧ Cond.selects y_Mo_fromThree.1.cls y_Mo_fromThree.1 y_Mo_fromThree.1 ∈ zx_gW (zn_G l D ar b Z) ∧ (zx_gC (zn_G l D ar b Z))[9]? = some ("LogHouseModel", zn_TMo, 28) ∧ ("LogHouseModel", zn_TMo, 28).1 = y_Mo_fromThree.1.cls := ⟨zn_w1001, zn_p31, rfl, rfl⟩
theorem v_Mo_decided : Cond.instanceMethod y_Mo_decided.1 ∈ zx_gW (zn_G l D ar b Z) ∧ Cond.selects y_Mo_decided.1.cls y_Mo_decided.1 y_Mo_decided.1 ∈ zx_gW (zn_G l D ar b Z) ∧ (zx_gC (zn_G l D ar b Z))[9]? = some ("LogHouseModel", zn_TMo, 28) ∧ ("LogHouseModel", zn_TMo, 28).1 = y_Mo_decided.1.cls := ⟨zn_w1004, zn_w1005, rfl, rfl⟩
theorem v_Mo_read : Cond.instanceMethod y_Mo_read.1 ∈ zx_gW (zn_G l D ar b Z) ∧ Cond.selects y_Mo_read.1.cls y_Mo_read.1 y_Mo_read.1 ∈ zx_gW (zn_G l D ar b Z) ∧ (zx_gC (zn_G l D ar b Z))[9]? = some ("LogHouseModel", zn_TMo, 28) ∧ ("LogHouseModel", zn_TMo, 28).1 = y_Mo_read.1.cls := ⟨zn_w1008, zn_w1009, rfl, rfl⟩
theorem v_Mo_readByte : Cond.instanceMethod y_Mo_readByte.1 ∈ zx_gW (zn_G l D ar b Z) ∧ Cond.selects y_Mo_readByte.1.cls y_Mo_readByte.1 y_Mo_readByte.1 ∈ zx_gW (zn_G l D ar b Z) ∧ (zx_gC (zn_G l D ar b Z))[9]? = some ("LogHouseModel", zn_TMo, 28) ∧ ("LogHouseModel", zn_TMo, 28).1 = y_Mo_readByte.1.cls := ⟨zn_w1012, zn_w1013, rfl, rfl⟩
theorem v_Mo_state : Cond.instanceMethod y_Mo_state.1 ∈ zx_gW (zn_G l D ar b Z) ∧ Cond.selects y_Mo_state.1.cls y_Mo_state.1 y_Mo_state.1 ∈ zx_gW (zn_G l D ar b Z) ∧ (zx_gC (zn_G l D ar b Z))[9]? = some ("LogHouseModel", zn_TMo, 28) ∧ ("LogHouseModel", zn_TMo, 28).1 = y_Mo_state.1.cls := ⟨zn_w1016, zn_w1017, rfl, rfl⟩
theorem v_Mo_station : Cond.instanceMethod y_Mo_station.1 ∈ zx_gW (zn_G l D ar b Z) ∧ Cond.selects y_Mo_station.1.cls y_Mo_station.1 y_Mo_station.1 ∈ zx_gW (zn_G l D ar b Z) ∧ (zx_gC (zn_G l D ar b Z))[9]? = some ("LogHouseModel", zn_TMo, 28) ∧ ("LogHouseModel", zn_TMo, 28).1 = y_Mo_station.1.cls := ⟨zn_w1020, zn_w1021, rfl, rfl⟩
theorem v_Mo_share : Cond.instanceMethod y_Mo_share.1 ∈ zx_gW (zn_G l D ar b Z) ∧ Cond.selects y_Mo_share.1.cls y_Mo_share.1 y_Mo_share.1 ∈ zx_gW (zn_G l D ar b Z) ∧ (zx_gC (zn_G l D ar b Z))[9]? = some ("LogHouseModel", zn_TMo, 28) ∧ ("LogHouseModel", zn_TMo, 28).1 = y_Mo_share.1.cls := ⟨zn_w1024, zn_w1025, rfl, rfl⟩
end ZV
end
